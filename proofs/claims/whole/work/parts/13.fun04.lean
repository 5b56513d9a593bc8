def f_X11_meanOf_l8 : Nat → Nat → Int32 → Int32 → Int32 → Int32 → Int32 → xSt → Option (Int32 × xSt)
  | 0 => fun _ _ _ _ _ _ _ => none
  | n + 1 => fun x0 x1 x2 x3 x4 x5 w =>
    gd (isC w x0 11) <|
    if (wI w x0 24) ≤ x5 then
      if (2 : Int32) ≤ x3 then
        gd (¬ x3 = 0) <|
        some (x4 / x3, w)
      else
        some ((-1 : Int32), w)
    else
      gd (isC w (wR w x0 27) 20) <|
      gd (inR (((9 : Int32) * x5) + x1) (wN w (wR w x0 27))) <|
      if (wI w (wR w x0 27) (((9 : Int32) * x5) + x1).toNatClampNeg) = (-1 : Int32) then
        f_X11_meanOf_l8 n x0 x1 x2 x3 x4 (x5 + (1 : Int32)) w
      else
        gd (isC w (wR w x0 28) 20) <|
        gd (inR (((9 : Int32) * x5) + x1) (wN w (wR w x0 28))) <|
        if x2 < (wI w (wR w x0 28) (((9 : Int32) * x5) + x1).toNatClampNeg) then
          f_X11_meanOf_l8 n x0 x1 x2 x3 x4 (x5 + (1 : Int32)) w
        else
          f_X11_meanOf_l8 n x0 x1 x2 (x3 + (1 : Int32)) (x4 + (wI w (wR w x0 27) (((9 : Int32) * x5) + x1).toNatClampNeg)) (x5 + (1 : Int32)) w
theorem f_X11_meanOf_l8_s (n : Nat) (x0 : Nat) (x1 : Int32) (x2 : Int32) (x3 : Int32) (x4 : Int32) (x5 : Int32) (w : xSt) : f_X11_meanOf_l8 (n + 1) x0 x1 x2 x3 x4 x5 w = (
    gd (isC w x0 11) <|
    if (wI w x0 24) ≤ x5 then
      if (2 : Int32) ≤ x3 then
        gd (¬ x3 = 0) <|
        some (x4 / x3, w)
      else
        some ((-1 : Int32), w)
    else
      gd (isC w (wR w x0 27) 20) <|
      gd (inR (((9 : Int32) * x5) + x1) (wN w (wR w x0 27))) <|
      if (wI w (wR w x0 27) (((9 : Int32) * x5) + x1).toNatClampNeg) = (-1 : Int32) then
        f_X11_meanOf_l8 n x0 x1 x2 x3 x4 (x5 + (1 : Int32)) w
      else
        gd (isC w (wR w x0 28) 20) <|
        gd (inR (((9 : Int32) * x5) + x1) (wN w (wR w x0 28))) <|
        if x2 < (wI w (wR w x0 28) (((9 : Int32) * x5) + x1).toNatClampNeg) then
          f_X11_meanOf_l8 n x0 x1 x2 x3 x4 (x5 + (1 : Int32)) w
        else
          f_X11_meanOf_l8 n x0 x1 x2 (x3 + (1 : Int32)) (x4 + (wI w (wR w x0 27) (((9 : Int32) * x5) + x1).toNatClampNeg)) (x5 + (1 : Int32)) w) := rfl
/-- WorldHallModel.meanOf(II)I -/
def f_X11_meanOf (x0 : Nat) (x1 : Int32) (x2 : Int32) (w : xSt) : Option (Int32 × xSt) :=
  f_X11_meanOf_l8 xFu x0 x1 x2 (0 : Int32) (0 : Int32) (0 : Int32) w
/-- WorldHallModel.mean(II)I -/
def f_X11_mean (x0 : Nat) (x1 : Int32) (x2 : Int32) (w : xSt) : Option (Int32 × xSt) :=
  gd (isC w x0 11) <|
  bd (f_X11_isStand x0 x1 w) fun v1 w2 =>
  if v1 = 0 then
    some ((-1 : Int32), w2)
  else
    gd (isC w2 x0 11) <|
    bd (f_X11_meanOf x0 x1 x2 w2) fun v6 w7 =>
    some (v6, w7)
def f_X11_medal_l28 : Nat → Nat → Int32 → Int32 → Int32 → xSt → Option (Int32 × xSt)
  | 0 => fun _ _ _ _ _ => none
  | n + 1 => fun x0 x3 x4 x5 w =>
    if (3 : Int32) ≤ x5 then
      some ((0 : Int32), w)
    else
      if x3 = (-1 : Int32) then
        some ((0 : Int32), w)
      else
        if x4 = (-1 : Int32) then
          some ((0 : Int32), w)
        else
          gd (isC w x0 11) <|
          gd (isC w (wR w x0 20) 20) <|
          gd (inR (((3 : Int32) * x4) + x5) (wN w (wR w x0 20))) <|
          if (wI w (wR w x0 20) (((3 : Int32) * x4) + x5).toNatClampNeg) = (-1 : Int32) then
            f_X11_medal_l28 n x0 x3 x4 (x5 + (1 : Int32)) w
          else
            if x3 < (wI w (wR w x0 20) (((3 : Int32) * x4) + x5).toNatClampNeg) then
              f_X11_medal_l28 n x0 x3 x4 (x5 + (1 : Int32)) w
            else
              some ((3 : Int32) - x5, w)
theorem f_X11_medal_l28_s (n : Nat) (x0 : Nat) (x3 : Int32) (x4 : Int32) (x5 : Int32) (w : xSt) : f_X11_medal_l28 (n + 1) x0 x3 x4 x5 w = (
    if (3 : Int32) ≤ x5 then
      some ((0 : Int32), w)
    else
      if x3 = (-1 : Int32) then
        some ((0 : Int32), w)
      else
        if x4 = (-1 : Int32) then
          some ((0 : Int32), w)
        else
          gd (isC w x0 11) <|
          gd (isC w (wR w x0 20) 20) <|
          gd (inR (((3 : Int32) * x4) + x5) (wN w (wR w x0 20))) <|
          if (wI w (wR w x0 20) (((3 : Int32) * x4) + x5).toNatClampNeg) = (-1 : Int32) then
            f_X11_medal_l28 n x0 x3 x4 (x5 + (1 : Int32)) w
          else
            if x3 < (wI w (wR w x0 20) (((3 : Int32) * x4) + x5).toNatClampNeg) then
              f_X11_medal_l28 n x0 x3 x4 (x5 + (1 : Int32)) w
            else
              some ((3 : Int32) - x5, w)) := rfl
/-- WorldHallModel.medal(II)I -/
def f_X11_medal (x0 : Nat) (x1 : Int32) (x2 : Int32) (w : xSt) : Option (Int32 × xSt) :=
  gd (isC w x0 11) <|
  bd (f_X11_isStand x0 x1 w) fun v1 w2 =>
  if v1 = 0 then
    some ((-1 : Int32), w2)
  else
    gd (isC w2 x0 11) <|
    bd (f_X11_meanOf x0 x1 x2 w2) fun v6 w7 =>
    gd (isC w7 x0 11) <|
    bd (f_X11_inForce x0 (0 : Int32) x2 w7) fun v10 w11 =>
    f_X11_medal_l28 xFu x0 v6 v10 (0 : Int32) w11
def f_X11_costOf_l16 : Nat → Nat → Int32 → Int32 → Int32 → xSt → Option (Int32 × xSt)
  | 0 => fun _ _ _ _ _ => none
  | n + 1 => fun x0 x1 x2 x3 w =>
    gd (isC w x0 11) <|
    gd (isC w (wR w x0 21) 20) <|
    gd (inR x2 (wN w (wR w x0 21))) <|
    if (wI w (wR w x0 21) x2.toNatClampNeg) ≤ x3 then
      gd (isC w (wR w x0 23) 20) <|
      gd (inR (((5 : Int32) * x2) + (wI w (wR w x0 21) x2.toNatClampNeg)) (wN w (wR w x0 23))) <|
      some (wI w (wR w x0 23) (((5 : Int32) * x2) + (wI w (wR w x0 21) x2.toNatClampNeg)).toNatClampNeg, w)
    else
      gd (isC w (wR w x0 22) 20) <|
      gd (inR (((4 : Int32) * x2) + x3) (wN w (wR w x0 22))) <|
      if (wI w (wR w x0 22) (((4 : Int32) * x2) + x3).toNatClampNeg) = (x1 - x1 / (7 : Int32) * (7 : Int32)) then
        gd (isC w (wR w x0 23) 20) <|
        gd (inR (((5 : Int32) * x2) + x3) (wN w (wR w x0 23))) <|
        some (wI w (wR w x0 23) (((5 : Int32) * x2) + x3).toNatClampNeg, w)
      else
        f_X11_costOf_l16 n x0 x1 x2 (x3 + (1 : Int32)) w
theorem f_X11_costOf_l16_s (n : Nat) (x0 : Nat) (x1 : Int32) (x2 : Int32) (x3 : Int32) (w : xSt) : f_X11_costOf_l16 (n + 1) x0 x1 x2 x3 w = (
    gd (isC w x0 11) <|
    gd (isC w (wR w x0 21) 20) <|
    gd (inR x2 (wN w (wR w x0 21))) <|
    if (wI w (wR w x0 21) x2.toNatClampNeg) ≤ x3 then
      gd (isC w (wR w x0 23) 20) <|
      gd (inR (((5 : Int32) * x2) + (wI w (wR w x0 21) x2.toNatClampNeg)) (wN w (wR w x0 23))) <|
      some (wI w (wR w x0 23) (((5 : Int32) * x2) + (wI w (wR w x0 21) x2.toNatClampNeg)).toNatClampNeg, w)
    else
      gd (isC w (wR w x0 22) 20) <|
      gd (inR (((4 : Int32) * x2) + x3) (wN w (wR w x0 22))) <|
      if (wI w (wR w x0 22) (((4 : Int32) * x2) + x3).toNatClampNeg) = (x1 - x1 / (7 : Int32) * (7 : Int32)) then
        gd (isC w (wR w x0 23) 20) <|
        gd (inR (((5 : Int32) * x2) + x3) (wN w (wR w x0 23))) <|
        some (wI w (wR w x0 23) (((5 : Int32) * x2) + x3).toNatClampNeg, w)
      else
        f_X11_costOf_l16 n x0 x1 x2 (x3 + (1 : Int32)) w) := rfl
/-- WorldHallModel.costOf(I)I -/
def f_X11_costOf (x0 : Nat) (x1 : Int32) (w : xSt) : Option (Int32 × xSt) :=
  gd (isC w x0 11) <|
  bd (f_X11_inForce x0 (1 : Int32) x1 w) fun v1 w2 =>
  if v1 = (-1 : Int32) then
    some ((0 : Int32), w2)
  else
    f_X11_costOf_l16 xFu x0 x1 v1 (0 : Int32) w2
/-- WorldHallModel.cost(I)I -/
def f_X11_cost (x0 : Nat) (x1 : Int32) (w : xSt) : Option (Int32 × xSt) :=
  if 0 ≤ x1 then
    gd (isC w x0 11) <|
    bd (f_X11_costOf x0 x1 w) fun v2 w3 =>
    some (v2, w3)
  else
    some ((-1 : Int32), w)
/-- WorldHallModel.most(I)I -/
def f_X11_most (x0 : Nat) (x1 : Int32) (w : xSt) : Option (Int32 × xSt) :=
  bd (f_X11_in x1 (1 : Int32) (20000 : Int32) w) fun v1 w2 =>
  if v1 = 0 then
    some ((-2 : Int32), w2)
  else
    gd (isC w2 x0 11) <|
    lt1 (sI w2 x0 29 x1) fun w6 =>
    some (wI w2 x0 29, w6)
def f_X11_minute_b124 (x0 : Nat) (s0 : Int32) (w : xSt) : Option (Int32 × xSt) :=
  gd (isC w x0 11) <|
  lt1 (sI w x0 32 ((wI w x0 32) + s0)) fun w26 =>
  lt1 (sI w26 x0 33 ((wI w26 x0 33) - s0)) fun w29 =>
  bd (f_X11_costOf x0 (wI w29 x0 30) w29) fun v32 w33 =>
  gd (isC w33 x0 11) <|
  lt1 (sI w33 x0 34 ((wI w29 x0 34) + (s0 * v32))) fun w36 =>
  bd (f_X11_costOf x0 (wI w36 x0 30) w36) fun v39 w40 =>
  gd (isC w40 x0 11) <|
  lt1 (sI w40 x0 35 ((wI w36 x0 35) + (s0 * v39))) fun w43 =>
  some (wI w43 x0 32, w43)
def f_X11_minute_b107 (x0 : Nat) (s0 : Int32) (w : xSt) : Option (Int32 × xSt) :=
  gd (isC w x0 11) <|
  if s0 ≤ (wI w x0 33) then
    f_X11_minute_b124 x0 s0 w
  else
    f_X11_minute_b124 x0 (wI w x0 33) w
def f_X11_minute_b69 (x0 : Nat) (x1 : Int32) (s0 : Nat) (s1 : Int32) (s2 : Int32) (w : xSt) : Option (Int32 × xSt) :=
  gd (isC w s0 11) <|
  lt1 (sI w s0 32 (s1 - s2)) fun w16 =>
  gd (isC w16 x0 11) <|
  lt1 (sI w16 x0 33 ((wI w16 x0 33) + x1)) fun w19 =>
  if (wI w19 x0 29) ≤ (wI w19 x0 32) then
    f_X11_minute_b107 x0 (0 : Int32) w19
  else
    f_X11_minute_b107 x0 ((wI w19 x0 29) - (wI w19 x0 32)) w19
/-- WorldHallModel.minute(II)I -/
def f_X11_minute (x0 : Nat) (x1 : Int32) (x2 : Int32) (w : xSt) : Option (Int32 × xSt) :=
  bd (f_X11_in x1 (0 : Int32) (2000 : Int32) w) fun v1 w2 =>
  if v1 = 0 then
    some ((-2 : Int32), w2)
  else
    bd (f_X11_in x2 (0 : Int32) (2000 : Int32) w2) fun v5 w6 =>
    if v5 = 0 then
      some ((-2 : Int32), w6)
    else
      gd (isC w6 x0 11) <|
      if (wI w6 x0 31) = (600 : Int32) then
        some ((-4 : Int32), w6)
      else
        lt1 (sI w6 x0 31 ((wI w6 x0 31) + (1 : Int32))) fun w11 =>
        if (wI w11 x0 32) ≤ x2 then
          f_X11_minute_b69 x0 x1 x0 (wI w11 x0 32) (wI w11 x0 32) w11
        else
          f_X11_minute_b69 x0 x1 x0 (wI w11 x0 32) x2 w11
/-- WorldHallModel.bell()I -/
def f_X11_bell (x0 : Nat) (w : xSt) : Option (Int32 × xSt) :=
  gd (isC w x0 11) <|
  if (wI w x0 30) = (999 : Int32) then
    some ((-4 : Int32), w)
  else
    lt1 (sI w x0 30 ((wI w x0 30) + (1 : Int32))) fun w3 =>
    lt1 (sI w3 x0 31 (0 : Int32)) fun w6 =>
    lt1 (sI w6 x0 32 (0 : Int32)) fun w9 =>
    lt1 (sI w9 x0 33 (0 : Int32)) fun w12 =>
    lt1 (sI w12 x0 34 (0 : Int32)) fun w15 =>
    some (wI w15 x0 30, w15)
def f_X11_sight_b36 (x0 : Nat) (x1 : Int32) (x2 : Int32) (w : xSt) : Option (Int32 × xSt) :=
  gd (isC w x0 11) <|
  gd (isC w (wR w x0 2) 20) <|
  gd (inR x1 (wN w (wR w x0 2))) <|
  if (wI w (wR w x0 2) x1.toNatClampNeg) = (2 : Int32) then
    some ((-2 : Int32), w)
  else
    if (wI w (wR w x0 2) x1.toNatClampNeg) = (3 : Int32) then
      some ((-2 : Int32), w)
    else
      if (wI w x0 36) = (10 : Int32) then
        some ((-4 : Int32), w)
      else
        gd (isC w (wR w x0 37) 20) <|
        gd (inR (wI w x0 36) (wN w (wR w x0 37))) <|
        lt1 (sI w (wR w x0 37) (wI w x0 36).toNatClampNeg x1) fun w21 =>
        lt1 (sI w21 x0 38 x2) fun w24 =>
        lt1 (sI w24 x0 36 ((wI w24 x0 36) + (1 : Int32))) fun w27 =>
        some (wI w27 x0 36, w27)
/-- WorldHallModel.sight(II)I -/
def f_X11_sight (x0 : Nat) (x1 : Int32) (x2 : Int32) (w : xSt) : Option (Int32 × xSt) :=
  gd (isC w x0 11) <|
  bd (f_X11_isCell x0 x1 w) fun v1 w2 =>
  if v1 = 0 then
    some ((-1 : Int32), w2)
  else
    bd (f_X11_in x2 (0 : Int32) (10000 : Int32) w2) fun v6 w7 =>
    if v6 = 0 then
      some ((-2 : Int32), w7)
    else
      gd (isC w7 x0 11) <|
      if (wI w7 x0 36) ≤ 0 then
        f_X11_sight_b36 x0 x1 x2 w7
      else
        if x2 ≤ (wI w7 x0 38) then
          some ((-2 : Int32), w7)
        else
          f_X11_sight_b36 x0 x1 x2 w7
/-- WorldHallModel.walks(II)V -/
def f_X11_walks (x0 : Nat) (x1 : Int32) (x2 : Int32) (w : xSt) : Option (Unit × xSt) :=
  gd (isC w x0 11) <|
  gd (isC w (wR w x0 49) 20) <|
  gd (inR x1 (wN w (wR w x0 49))) <|
  if (wI w (wR w x0 49) x1.toNatClampNeg) = (-1 : Int32) then
    gd (isC w (wR w x0 2) 20) <|
    gd (inR x1 (wN w (wR w x0 2))) <|
    if (wI w (wR w x0 2) x1.toNatClampNeg) = (2 : Int32) then
      some ((), w)
    else
      if (wI w (wR w x0 2) x1.toNatClampNeg) = (3 : Int32) then
        some ((), w)
      else
        bd (f_X11_standOn x0 x1 w) fun v9 w10 =>
        if v9 = (-1 : Int32) then
          gd (isC w10 x0 11) <|
          gd (isC w10 (wR w10 x0 49) 20) <|
          gd (inR x1 (wN w10 (wR w10 x0 49))) <|
          lt1 (sI w10 (wR w10 x0 49) x1.toNatClampNeg x2) fun w16 =>
          gd (isC w16 (wR w16 x0 41) 20) <|
          gd (inR (wI w16 x0 42) (wN w16 (wR w16 x0 41))) <|
          lt1 (sI w16 (wR w16 x0 41) (wI w16 x0 42).toNatClampNeg x1) fun w21 =>
          lt1 (sI w21 x0 42 ((wI w21 x0 42) + (1 : Int32))) fun w24 =>
          some ((), w24)
        else
          some ((), w10)
  else
    some ((), w)
def f_X11_looks_b141 (k54 : Nat → Int32 → xSt → Option (Unit × xSt)) (x0 : Nat) (x2 : Int32) (x3 : Int32) (x4 : Int32) (w : xSt) : Option (Unit × xSt) :=
  gd (isC w x0 11) <|
  if ((wI w x0 0) * ((wI w x0 1) - (1 : Int32))) ≤ x3 then
    k54 x0 (x2 + (1 : Int32)) w
  else
    bd (f_X11_walks x0 (x3 + (wI w x0 0)) x4 w) fun _ w43 =>
    k54 x0 (x2 + (1 : Int32)) w43
def f_X11_looks_b121 (k54 : Nat → Int32 → xSt → Option (Unit × xSt)) (x0 : Nat) (x2 : Int32) (x3 : Int32) (x4 : Int32) (w : xSt) : Option (Unit × xSt) :=
  gd (isC w x0 11) <|
  if x3 < (wI w x0 0) then
    f_X11_looks_b141 k54 x0 x2 x3 x4 w
  else
    bd (f_X11_walks x0 (x3 - (wI w x0 0)) x4 w) fun _ w39 =>
    f_X11_looks_b141 k54 x0 x2 x3 x4 w39
def f_X11_looks_b97 (k54 : Nat → Int32 → xSt → Option (Unit × xSt)) (x0 : Nat) (x2 : Int32) (x3 : Int32) (x4 : Int32) (w : xSt) : Option (Unit × xSt) :=
  gd (isC w x0 11) <|
  gd (¬ (wI w x0 0) = 0) <|
  if ((wI w x0 0) - (1 : Int32)) ≤ (x3 - x3 / (wI w x0 0) * (wI w x0 0)) then
    f_X11_looks_b121 k54 x0 x2 x3 x4 w
  else
    bd (f_X11_walks x0 (x3 + (1 : Int32)) x4 w) fun _ w35 =>
    f_X11_looks_b121 k54 x0 x2 x3 x4 w35
def f_X11_looks_l54 : Nat → Nat → Int32 → xSt → Option (Unit × xSt)
  | 0 => fun _ _ _ => none
  | n + 1 => fun x0 x2 w =>
    gd (isC w x0 11) <|
    if (wI w x0 42) ≤ x2 then
      some ((), w)
    else
      gd (isC w (wR w x0 41) 20) <|
      gd (inR x2 (wN w (wR w x0 41))) <|
      gd (isC w (wR w x0 49) 20) <|
      gd (inR (wI w (wR w x0 41) x2.toNatClampNeg) (wN w (wR w x0 49))) <|
      gd (¬ (wI w x0 0) = 0) <|
      if ((wI w (wR w x0 41) x2.toNatClampNeg) - (wI w (wR w x0 41) x2.toNatClampNeg) / (wI w x0 0) * (wI w x0 0)) ≤ 0 then
        f_X11_looks_b97 (f_X11_looks_l54 n) x0 x2 (wI w (wR w x0 41) x2.toNatClampNeg) ((wI w (wR w x0 49) (wI w (wR w x0 41) x2.toNatClampNeg).toNatClampNeg) + (1 : Int32)) w
      else
        bd (f_X11_walks x0 ((wI w (wR w x0 41) x2.toNatClampNeg) - (1 : Int32)) ((wI w (wR w x0 49) (wI w (wR w x0 41) x2.toNatClampNeg).toNatClampNeg) + (1 : Int32)) w) fun _ w30 =>
        f_X11_looks_b97 (f_X11_looks_l54 n) x0 x2 (wI w (wR w x0 41) x2.toNatClampNeg) ((wI w (wR w x0 49) (wI w (wR w x0 41) x2.toNatClampNeg).toNatClampNeg) + (1 : Int32)) w30
theorem f_X11_looks_l54_s (n : Nat) (x0 : Nat) (x2 : Int32) (w : xSt) : f_X11_looks_l54 (n + 1) x0 x2 w = (
    gd (isC w x0 11) <|
    if (wI w x0 42) ≤ x2 then
      some ((), w)
    else
      gd (isC w (wR w x0 41) 20) <|
      gd (inR x2 (wN w (wR w x0 41))) <|
      gd (isC w (wR w x0 49) 20) <|
      gd (inR (wI w (wR w x0 41) x2.toNatClampNeg) (wN w (wR w x0 49))) <|
      gd (¬ (wI w x0 0) = 0) <|
      if ((wI w (wR w x0 41) x2.toNatClampNeg) - (wI w (wR w x0 41) x2.toNatClampNeg) / (wI w x0 0) * (wI w x0 0)) ≤ 0 then
        f_X11_looks_b97 (f_X11_looks_l54 n) x0 x2 (wI w (wR w x0 41) x2.toNatClampNeg) ((wI w (wR w x0 49) (wI w (wR w x0 41) x2.toNatClampNeg).toNatClampNeg) + (1 : Int32)) w
      else
        bd (f_X11_walks x0 ((wI w (wR w x0 41) x2.toNatClampNeg) - (1 : Int32)) ((wI w (wR w x0 49) (wI w (wR w x0 41) x2.toNatClampNeg).toNatClampNeg) + (1 : Int32)) w) fun _ w30 =>
        f_X11_looks_b97 (f_X11_looks_l54 n) x0 x2 (wI w (wR w x0 41) x2.toNatClampNeg) ((wI w (wR w x0 49) (wI w (wR w x0 41) x2.toNatClampNeg).toNatClampNeg) + (1 : Int32)) w30) := rfl
def f_X11_looks_l2 : Nat → Nat → Int32 → xSt → Option (Unit × xSt)
  | 0 => fun _ _ _ => none
  | n + 1 => fun x0 x1 w =>
    if (64 : Int32) ≤ x1 then
      gd (isC w x0 11) <|
      gd (isC w (wR w x0 37) 20) <|
      gd (inR ((wI w x0 36) - (1 : Int32)) (wN w (wR w x0 37))) <|
      gd (isC w (wR w x0 49) 20) <|
      gd (inR (wI w (wR w x0 37) ((wI w x0 36) - (1 : Int32)).toNatClampNeg) (wN w (wR w x0 49))) <|
      lt1 (sI w (wR w x0 49) (wI w (wR w x0 37) ((wI w x0 36) - (1 : Int32)).toNatClampNeg).toNatClampNeg (0 : Int32)) fun w7 =>
      gd (isC w7 (wR w7 x0 41) 20) <|
      gd (inR (0 : Int32) (wN w7 (wR w7 x0 41))) <|
      lt1 (sI w7 (wR w7 x0 41) (0 : Int32).toNatClampNeg (wI w (wR w x0 37) ((wI w x0 36) - (1 : Int32)).toNatClampNeg)) fun w12 =>
      lt1 (sI w12 x0 42 (1 : Int32)) fun w15 =>
      f_X11_looks_l54 xFu x0 (0 : Int32) w15
    else
      gd (isC w x0 11) <|
      gd (isC w (wR w x0 49) 20) <|
      gd (inR x1 (wN w (wR w x0 49))) <|
      lt1 (sI w (wR w x0 49) x1.toNatClampNeg (-1 : Int32)) fun w20 =>
      f_X11_looks_l2 n x0 (x1 + (1 : Int32)) w20
theorem f_X11_looks_l2_s (n : Nat) (x0 : Nat) (x1 : Int32) (w : xSt) : f_X11_looks_l2 (n + 1) x0 x1 w = (
    if (64 : Int32) ≤ x1 then
      gd (isC w x0 11) <|
      gd (isC w (wR w x0 37) 20) <|
      gd (inR ((wI w x0 36) - (1 : Int32)) (wN w (wR w x0 37))) <|
      gd (isC w (wR w x0 49) 20) <|
      gd (inR (wI w (wR w x0 37) ((wI w x0 36) - (1 : Int32)).toNatClampNeg) (wN w (wR w x0 49))) <|
      lt1 (sI w (wR w x0 49) (wI w (wR w x0 37) ((wI w x0 36) - (1 : Int32)).toNatClampNeg).toNatClampNeg (0 : Int32)) fun w7 =>
      gd (isC w7 (wR w7 x0 41) 20) <|
      gd (inR (0 : Int32) (wN w7 (wR w7 x0 41))) <|
      lt1 (sI w7 (wR w7 x0 41) (0 : Int32).toNatClampNeg (wI w (wR w x0 37) ((wI w x0 36) - (1 : Int32)).toNatClampNeg)) fun w12 =>
      lt1 (sI w12 x0 42 (1 : Int32)) fun w15 =>
      f_X11_looks_l54 xFu x0 (0 : Int32) w15
    else
      gd (isC w x0 11) <|
      gd (isC w (wR w x0 49) 20) <|
      gd (inR x1 (wN w (wR w x0 49))) <|
      lt1 (sI w (wR w x0 49) x1.toNatClampNeg (-1 : Int32)) fun w20 =>
      f_X11_looks_l2 n x0 (x1 + (1 : Int32)) w20) := rfl
/-- WorldHallModel.looks()V -/
def f_X11_looks (x0 : Nat) (w : xSt) : Option (Unit × xSt) :=
  f_X11_looks_l2 xFu x0 (0 : Int32) w
/-- WorldHallModel.canBe(II)I -/
def f_X11_canBe (x0 : Nat) (x1 : Int32) (x2 : Int32) (w : xSt) : Option (Int32 × xSt) :=
  gd (isC w x0 11) <|
  bd (f_X11_isCell x0 x1 w) fun v1 w2 =>
  if v1 = 0 then
    some ((-1 : Int32), w2)
  else
    gd (isC w2 x0 11) <|
    if (wI w2 x0 36) = 0 then
      some ((-3 : Int32), w2)
    else
      if (wI w2 x0 38) ≤ x2 then
        bd (f_X11_looks x0 w2) fun _ w9 =>
        gd (isC w9 x0 11) <|
        gd (isC w9 (wR w9 x0 49) 20) <|
        gd (inR x1 (wN w9 (wR w9 x0 49))) <|
        if (wI w9 (wR w9 x0 49) x1.toNatClampNeg) = (-1 : Int32) then
          some ((0 : Int32), w9)
        else
          if (x2 - (wI w9 x0 38)) < (wI w9 (wR w9 x0 49) x1.toNatClampNeg) then
            some ((0 : Int32), w9)
          else
            some ((1 : Int32), w9)
      else
        some ((-2 : Int32), w2)
def f_X11_places_l29 : Nat → Nat → Int32 → Int32 → Int32 → xSt → Option (Int32 × xSt)
  | 0 => fun _ _ _ _ _ => none
  | n + 1 => fun x0 x1 x2 x3 w =>
    gd (isC w x0 11) <|
    if ((wI w x0 0) * (wI w x0 1)) ≤ x3 then
      some (x2, w)
    else
      gd (isC w (wR w x0 49) 20) <|
      gd (inR x3 (wN w (wR w x0 49))) <|
      if (wI w (wR w x0 49) x3.toNatClampNeg) = (-1 : Int32) then
        f_X11_places_l29 n x0 x1 (x2 + (0 : Int32)) (x3 + (1 : Int32)) w
      else
        if (x1 - (wI w x0 38)) < (wI w (wR w x0 49) x3.toNatClampNeg) then
          f_X11_places_l29 n x0 x1 (x2 + (0 : Int32)) (x3 + (1 : Int32)) w
        else
          f_X11_places_l29 n x0 x1 (x2 + (1 : Int32)) (x3 + (1 : Int32)) w
theorem f_X11_places_l29_s (n : Nat) (x0 : Nat) (x1 : Int32) (x2 : Int32) (x3 : Int32) (w : xSt) : f_X11_places_l29 (n + 1) x0 x1 x2 x3 w = (
    gd (isC w x0 11) <|
    if ((wI w x0 0) * (wI w x0 1)) ≤ x3 then
      some (x2, w)
    else
      gd (isC w (wR w x0 49) 20) <|
      gd (inR x3 (wN w (wR w x0 49))) <|
      if (wI w (wR w x0 49) x3.toNatClampNeg) = (-1 : Int32) then
        f_X11_places_l29 n x0 x1 (x2 + (0 : Int32)) (x3 + (1 : Int32)) w
      else
        if (x1 - (wI w x0 38)) < (wI w (wR w x0 49) x3.toNatClampNeg) then
          f_X11_places_l29 n x0 x1 (x2 + (0 : Int32)) (x3 + (1 : Int32)) w
        else
          f_X11_places_l29 n x0 x1 (x2 + (1 : Int32)) (x3 + (1 : Int32)) w) := rfl
/-- WorldHallModel.places(I)I -/
def f_X11_places (x0 : Nat) (x1 : Int32) (w : xSt) : Option (Int32 × xSt) :=
  gd (isC w x0 11) <|
  if (wI w x0 36) = 0 then
    some ((-3 : Int32), w)
  else
    if (wI w x0 38) ≤ x1 then
      bd (f_X11_looks x0 w) fun _ w4 =>
      f_X11_places_l29 xFu x0 x1 (0 : Int32) (0 : Int32) w4
    else
      some ((-2 : Int32), w)
/-- WorldHallModel.found()I -/
def f_X11_found (x0 : Nat) (w : xSt) : Option (Int32 × xSt) :=
  gd (isC w x0 11) <|
  lt1 (sI w x0 36 (0 : Int32)) fun w2 =>
  some (wI w x0 36, w2)
/-- WorldHallModel.sell(II)I -/
def f_X11_sell (x0 : Nat) (x1 : Int32) (x2 : Int32) (w : xSt) : Option (Int32 × xSt) :=
  gd (isC w x0 11) <|
  bd (f_X11_isStand x0 x1 w) fun v1 w2 =>
  if v1 = 0 then
    some ((-1 : Int32), w2)
  else
    bd (f_X11_in x2 (0 : Int32) (999 : Int32) w2) fun v6 w7 =>
    if v6 = 0 then
      some ((-2 : Int32), w7)
    else
      gd (isC w7 x0 11) <|
      gd (isC w7 (wR w7 x0 13) 20) <|
      gd (inR x1 (wN w7 (wR w7 x0 13))) <|
      if (wI w7 (wR w7 x0 13) x1.toNatClampNeg) = (-1 : Int32) then
        gd (isC w7 (wR w7 x0 14) 23) <|
        gd (inR x1 (wN w7 (wR w7 x0 14))) <|
        if (wI w7 (wR w7 x0 14) x1.toNatClampNeg) = 0 then
          some ((-3 : Int32), w7)
        else
          lt1 (sI w7 (wR w7 x0 13) x1.toNatClampNeg x2) fun w17 =>
          some ((0 : Int32), w17)
      else
        some ((-3 : Int32), w7)
/-- WorldHallModel.hand(I)I -/
def f_X11_hand (x0 : Nat) (x1 : Int32) (w : xSt) : Option (Int32 × xSt) :=
  gd (isC w x0 11) <|
  bd (f_X11_isStand x0 x1 w) fun v1 w2 =>
  if v1 = 0 then
    some ((-1 : Int32), w2)
  else
    gd (isC w2 x0 11) <|
    gd (isC w2 (wR w2 x0 13) 20) <|
    gd (inR x1 (wN w2 (wR w2 x0 13))) <|
    if (wI w2 (wR w2 x0 13) x1.toNatClampNeg) = (-1 : Int32) then
      some ((-3 : Int32), w2)
    else
      gd (isC w2 (wR w2 x0 15) 23) <|
      gd (inR x1 (wN w2 (wR w2 x0 15))) <|
      if (wI w2 (wR w2 x0 15) x1.toNatClampNeg) = 0 then
        if (wI w2 x0 39) ≤ (wI w2 x0 30) then
          gd (isC w2 (wR w2 x0 14) 23) <|
          gd (inR x1 (wN w2 (wR w2 x0 14))) <|
          lt1 (sI w2 (wR w2 x0 14) x1.toNatClampNeg (vp_nar .boolean (0 : Int32))) fun w16 =>
          gd (isC w16 (wR w16 x0 12) 20) <|
          gd (inR x1 (wN w16 (wR w16 x0 12))) <|
          lt1 (sI w16 (wR w16 x0 12) x1.toNatClampNeg (-1 : Int32)) fun w21 =>
          gd (isC w21 (wR w21 x0 15) 23) <|
          gd (inR x1 (wN w21 (wR w21 x0 15))) <|
          lt1 (sI w21 (wR w21 x0 15) x1.toNatClampNeg (vp_nar .boolean (1 : Int32))) fun w26 =>
          gd (isC w26 (wR w26 x0 13) 20) <|
          gd (inR x1 (wN w26 (wR w26 x0 13))) <|
          some (wI w26 (wR w26 x0 13) x1.toNatClampNeg, w26)
        else
          some ((-3 : Int32), w2)
      else
        some ((-3 : Int32), w2)
/-- WorldHallModel.end(I)I -/
def f_X11_end (x0 : Nat) (x1 : Int32) (w : xSt) : Option (Int32 × xSt) :=
  bd (f_X11_in x1 (0 : Int32) (999 : Int32) w) fun v1 w2 =>
  if v1 = 0 then
    some ((-2 : Int32), w2)
  else
    gd (isC w2 x0 11) <|
    lt1 (sI w2 x0 39 x1) fun w6 =>
    some (wI w2 x0 39, w6)
def f_X11_count_l104 : Nat → Nat → Int32 → Int32 → xSt → Option (Int32 × xSt)
  | 0 => fun _ _ _ _ => none
  | n + 1 => fun x0 x2 x3 w =>
    gd (isC w x0 11) <|
    if (wI w x0 5) ≤ x3 then
      some (x2, w)
    else
      bd (f_X11_marksOf x0 x3 w) fun v35 w36 =>
      f_X11_count_l104 n x0 (x2 + v35) (x3 + (1 : Int32)) w36
theorem f_X11_count_l104_s (n : Nat) (x0 : Nat) (x2 : Int32) (x3 : Int32) (w : xSt) : f_X11_count_l104 (n + 1) x0 x2 x3 w = (
    gd (isC w x0 11) <|
    if (wI w x0 5) ≤ x3 then
      some (x2, w)
    else
      bd (f_X11_marksOf x0 x3 w) fun v35 w36 =>
      f_X11_count_l104 n x0 (x2 + v35) (x3 + (1 : Int32)) w36) := rfl
def f_X11_count_l165 : Nat → Nat → Int32 → Int32 → xSt → Option (Int32 × xSt)
  | 0 => fun _ _ _ _ => none
  | n + 1 => fun x0 x2 x3 w =>
    gd (isC w x0 11) <|
    if (wI w x0 5) ≤ x3 then
      some (x2, w)
    else
      gd (isC w (wR w x0 15) 23) <|
      gd (inR x3 (wN w (wR w x0 15))) <|
      if (wI w (wR w x0 15) x3.toNatClampNeg) = 0 then
        f_X11_count_l165 n x0 (x2 + (0 : Int32)) (x3 + (1 : Int32)) w
      else
        f_X11_count_l165 n x0 (x2 + (1 : Int32)) (x3 + (1 : Int32)) w
theorem f_X11_count_l165_s (n : Nat) (x0 : Nat) (x2 : Int32) (x3 : Int32) (w : xSt) : f_X11_count_l165 (n + 1) x0 x2 x3 w = (
    gd (isC w x0 11) <|
    if (wI w x0 5) ≤ x3 then
      some (x2, w)
    else
      gd (isC w (wR w x0 15) 23) <|
      gd (inR x3 (wN w (wR w x0 15))) <|
      if (wI w (wR w x0 15) x3.toNatClampNeg) = 0 then
        f_X11_count_l165 n x0 (x2 + (0 : Int32)) (x3 + (1 : Int32)) w
      else
        f_X11_count_l165 n x0 (x2 + (1 : Int32)) (x3 + (1 : Int32)) w) := rfl
/-- WorldHallModel.count(I)I -/
def f_X11_count (x0 : Nat) (x1 : Int32) (w : xSt) : Option (Int32 × xSt) :=
  if x1 = (0 : Int32) then
    gd (isC w x0 11) <|
    some ((wI w x0 0) * (wI w x0 1), w)
  else
    if x1 = (1 : Int32) then
      gd (isC w x0 11) <|
      some (wI w x0 5, w)
    else
      if x1 = (2 : Int32) then
        gd (isC w x0 11) <|
        bd (f_X11_laid x0 w) fun v6 w7 =>
        some (v6, w7)
      else
        if x1 = (3 : Int32) then
          gd (isC w x0 11) <|
          bd (f_X11_ins x0 w) fun v11 w12 =>
          some (v11, w12)
        else
          if x1 = (4 : Int32) then
            gd (isC w x0 11) <|
            some (wI w x0 24, w)
          else
            if x1 = (5 : Int32) then
              f_X11_count_l104 xFu x0 (0 : Int32) (0 : Int32) w
            else
              if x1 = (6 : Int32) then
                gd (isC w x0 11) <|
                some (wI w x0 30, w)
              else
                if x1 = (7 : Int32) then
                  gd (isC w x0 11) <|
                  some (wI w x0 31, w)
                else
                  if x1 = (8 : Int32) then
                    gd (isC w x0 11) <|
                    some (wI w x0 32, w)
                  else
                    if x1 = (9 : Int32) then
                      gd (isC w x0 11) <|
                      some (wI w x0 33, w)
                    else
                      if x1 = (10 : Int32) then
                        gd (isC w x0 11) <|
                        some (wI w x0 34, w)
                      else
                        if x1 = (11 : Int32) then
                          gd (isC w x0 11) <|
                          some (wI w x0 35, w)
                        else
                          if x1 = (12 : Int32) then
                            gd (isC w x0 11) <|
                            some (wI w x0 17, w)
                          else
                            if x1 = (13 : Int32) then
                              f_X11_count_l165 xFu x0 (0 : Int32) (0 : Int32) w
                            else
                              some ((-1 : Int32), w)
/-- WorldHallLaw.cell([II)I -/
def f_L_cell (x1 : Int32) (w : xSt) : Option (Int32 × xSt) :=
  if (Int32.ofNat (wN w 1020)) ≤ x1 then
    some ((0 : Int32), w)
  else
    gd (inR x1 (wN w 1020)) <|
    some (wI w 1020 x1.toNatClampNeg, w)

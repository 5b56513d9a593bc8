/-- WorldHallModel.about(II)I -/
def f_X11_about (x0 : Nat) (x1 : Int32) (x2 : Int32) (w : xSt) : Option (Int32 × xSt) :=
  gd (isC w x0 11) <|
  bd (f_X11_isStand x0 x1 w) fun v1 w2 =>
  if v1 = 0 then
    some ((-1 : Int32), w2)
  else
    if x2 = (0 : Int32) then
      gd (isC w2 x0 11) <|
      gd (isC w2 (wR w2 x0 6) 20) <|
      gd (inR x1 (wN w2 (wR w2 x0 6))) <|
      some (wI w2 (wR w2 x0 6) x1.toNatClampNeg, w2)
    else
      if x2 = (1 : Int32) then
        gd (isC w2 x0 11) <|
        gd (isC w2 (wR w2 x0 7) 20) <|
        gd (inR x1 (wN w2 (wR w2 x0 7))) <|
        some (wI w2 (wR w2 x0 7) x1.toNatClampNeg, w2)
      else
        if x2 = (2 : Int32) then
          gd (isC w2 x0 11) <|
          gd (isC w2 (wR w2 x0 8) 20) <|
          gd (inR x1 (wN w2 (wR w2 x0 8))) <|
          some (wI w2 (wR w2 x0 8) x1.toNatClampNeg, w2)
        else
          if x2 = (3 : Int32) then
            gd (isC w2 x0 11) <|
            gd (isC w2 (wR w2 x0 12) 20) <|
            gd (inR x1 (wN w2 (wR w2 x0 12))) <|
            some (wI w2 (wR w2 x0 12) x1.toNatClampNeg, w2)
          else
            if x2 = (4 : Int32) then
              gd (isC w2 x0 11) <|
              gd (isC w2 (wR w2 x0 14) 23) <|
              gd (inR x1 (wN w2 (wR w2 x0 14))) <|
              if (wI w2 (wR w2 x0 14) x1.toNatClampNeg) = 0 then
                some ((0 : Int32), w2)
              else
                some ((1 : Int32), w2)
            else
              if x2 = (5 : Int32) then
                gd (isC w2 x0 11) <|
                gd (isC w2 (wR w2 x0 13) 20) <|
                gd (inR x1 (wN w2 (wR w2 x0 13))) <|
                some (wI w2 (wR w2 x0 13) x1.toNatClampNeg, w2)
              else
                if x2 = (6 : Int32) then
                  gd (isC w2 x0 11) <|
                  bd (f_X11_marksOf x0 x1 w2) fun v32 w33 =>
                  some (v32, w33)
                else
                  some ((-1 : Int32), w2)
/-- WorldHallModel.at(I)I -/
def f_X11_at (x0 : Nat) (x1 : Int32) (w : xSt) : Option (Int32 × xSt) :=
  gd (isC w x0 11) <|
  bd (f_X11_isCell x0 x1 w) fun v1 w2 =>
  if v1 = 0 then
    some ((-1 : Int32), w2)
  else
    gd (isC w2 x0 11) <|
    bd (f_X11_standOn x0 x1 w2) fun v6 w7 =>
    some (v6, w7)
/-- WorldHallModel.apart(II)I -/
def f_X11_apart (x0 : Int32) (x1 : Int32) (w : xSt) : Option (Int32 × xSt) :=
  if x1 ≤ x0 then
    some (x0 - x1, w)
  else
    some (x1 - x0, w)
def f_X11_priced_b114 (k4 : Nat → Int32 → Int32 → xSt → Option (Int32 × xSt)) (k14 : Nat → Int32 → Int32 → Int32 → xSt → Option (Int32 × xSt)) (x0 : Nat) (x2 : Int32) (x3 : Int32) (x4 : Int32) (s0 : Int32) (s1 : Int32) (w : xSt) : Option (Int32 × xSt) :=
  gd (isC w x0 11) <|
  gd (isC w (wR w x0 7) 20) <|
  gd (inR x2 (wN w (wR w x0 7))) <|
  gd (inR x3 (wN w (wR w x0 7))) <|
  if (wI w (wR w x0 7) x2.toNatClampNeg) = (wI w (wR w x0 7) x3.toNatClampNeg) then
    k14 x0 (s0 + (s1 + x4)) x2 (x3 + (1 : Int32)) w
  else
    k14 x0 (s0 + (s1 + (0 : Int32))) x2 (x3 + (1 : Int32)) w
def f_X11_priced_l14 (k4 : Nat → Int32 → Int32 → xSt → Option (Int32 × xSt)) : Nat → Nat → Int32 → Int32 → Int32 → xSt → Option (Int32 × xSt)
  | 0 => fun _ _ _ _ _ => none
  | n + 1 => fun x0 x1 x2 x3 w =>
    if x2 ≤ x3 then
      k4 x0 x1 (x2 + (1 : Int32)) w
    else
      gd (isC w x0 11) <|
      gd (isC w (wR w x0 12) 20) <|
      gd (inR x2 (wN w (wR w x0 12))) <|
      if (wI w (wR w x0 12) x2.toNatClampNeg) = (-1 : Int32) then
        f_X11_priced_l14 k4 n x0 x1 x2 (x3 + (1 : Int32)) w
      else
        gd (inR x3 (wN w (wR w x0 12))) <|
        if (wI w (wR w x0 12) x3.toNatClampNeg) = (-1 : Int32) then
          f_X11_priced_l14 k4 n x0 x1 x2 (x3 + (1 : Int32)) w
        else
          gd (¬ (wI w x0 0) = 0) <|
          gd (¬ (wI w x0 0) = 0) <|
          bd (f_X11_apart ((wI w (wR w x0 12) x2.toNatClampNeg) - (wI w (wR w x0 12) x2.toNatClampNeg) / (wI w x0 0) * (wI w x0 0)) ((wI w (wR w x0 12) x3.toNatClampNeg) - (wI w (wR w x0 12) x3.toNatClampNeg) / (wI w x0 0) * (wI w x0 0)) w) fun v12 w13 =>
          gd (isC w13 x0 11) <|
          gd (isC w13 (wR w13 x0 12) 20) <|
          gd (inR x2 (wN w13 (wR w13 x0 12))) <|
          gd (¬ (wI w13 x0 0) = 0) <|
          gd (inR x3 (wN w13 (wR w13 x0 12))) <|
          gd (¬ (wI w13 x0 0) = 0) <|
          bd (f_X11_apart ((wI w13 (wR w13 x0 12) x2.toNatClampNeg) / (wI w13 x0 0)) ((wI w13 (wR w13 x0 12) x3.toNatClampNeg) / (wI w13 x0 0)) w13) fun v21 w22 =>
          gd (isC w22 x0 11) <|
          gd (isC w22 (wR w22 x0 8) 20) <|
          gd (inR x2 (wN w22 (wR w22 x0 8))) <|
          gd (inR x3 (wN w22 (wR w22 x0 8))) <|
          if (wI w22 (wR w22 x0 8) x2.toNatClampNeg) = (wI w22 (wR w22 x0 8) x3.toNatClampNeg) then
            f_X11_priced_b114 k4 (f_X11_priced_l14 k4 n) x0 x2 x3 (v12 + v21) x1 (v12 + v21) w22
          else
            f_X11_priced_b114 k4 (f_X11_priced_l14 k4 n) x0 x2 x3 (v12 + v21) x1 (0 : Int32) w22
theorem f_X11_priced_l14_s (k4 : Nat → Int32 → Int32 → xSt → Option (Int32 × xSt)) (n : Nat) (x0 : Nat) (x1 : Int32) (x2 : Int32) (x3 : Int32) (w : xSt) : f_X11_priced_l14 k4 (n + 1) x0 x1 x2 x3 w = (
    if x2 ≤ x3 then
      k4 x0 x1 (x2 + (1 : Int32)) w
    else
      gd (isC w x0 11) <|
      gd (isC w (wR w x0 12) 20) <|
      gd (inR x2 (wN w (wR w x0 12))) <|
      if (wI w (wR w x0 12) x2.toNatClampNeg) = (-1 : Int32) then
        f_X11_priced_l14 k4 n x0 x1 x2 (x3 + (1 : Int32)) w
      else
        gd (inR x3 (wN w (wR w x0 12))) <|
        if (wI w (wR w x0 12) x3.toNatClampNeg) = (-1 : Int32) then
          f_X11_priced_l14 k4 n x0 x1 x2 (x3 + (1 : Int32)) w
        else
          gd (¬ (wI w x0 0) = 0) <|
          gd (¬ (wI w x0 0) = 0) <|
          bd (f_X11_apart ((wI w (wR w x0 12) x2.toNatClampNeg) - (wI w (wR w x0 12) x2.toNatClampNeg) / (wI w x0 0) * (wI w x0 0)) ((wI w (wR w x0 12) x3.toNatClampNeg) - (wI w (wR w x0 12) x3.toNatClampNeg) / (wI w x0 0) * (wI w x0 0)) w) fun v12 w13 =>
          gd (isC w13 x0 11) <|
          gd (isC w13 (wR w13 x0 12) 20) <|
          gd (inR x2 (wN w13 (wR w13 x0 12))) <|
          gd (¬ (wI w13 x0 0) = 0) <|
          gd (inR x3 (wN w13 (wR w13 x0 12))) <|
          gd (¬ (wI w13 x0 0) = 0) <|
          bd (f_X11_apart ((wI w13 (wR w13 x0 12) x2.toNatClampNeg) / (wI w13 x0 0)) ((wI w13 (wR w13 x0 12) x3.toNatClampNeg) / (wI w13 x0 0)) w13) fun v21 w22 =>
          gd (isC w22 x0 11) <|
          gd (isC w22 (wR w22 x0 8) 20) <|
          gd (inR x2 (wN w22 (wR w22 x0 8))) <|
          gd (inR x3 (wN w22 (wR w22 x0 8))) <|
          if (wI w22 (wR w22 x0 8) x2.toNatClampNeg) = (wI w22 (wR w22 x0 8) x3.toNatClampNeg) then
            f_X11_priced_b114 k4 (f_X11_priced_l14 k4 n) x0 x2 x3 (v12 + v21) x1 (v12 + v21) w22
          else
            f_X11_priced_b114 k4 (f_X11_priced_l14 k4 n) x0 x2 x3 (v12 + v21) x1 (0 : Int32) w22) := rfl
def f_X11_priced_l4 : Nat → Nat → Int32 → Int32 → xSt → Option (Int32 × xSt)
  | 0 => fun _ _ _ _ => none
  | n + 1 => fun x0 x1 x2 w =>
    gd (isC w x0 11) <|
    if (wI w x0 5) ≤ x2 then
      some (x1, w)
    else
      f_X11_priced_l14 (f_X11_priced_l4 n) xFu x0 x1 x2 (0 : Int32) w
theorem f_X11_priced_l4_s (n : Nat) (x0 : Nat) (x1 : Int32) (x2 : Int32) (w : xSt) : f_X11_priced_l4 (n + 1) x0 x1 x2 w = (
    gd (isC w x0 11) <|
    if (wI w x0 5) ≤ x2 then
      some (x1, w)
    else
      f_X11_priced_l14 (f_X11_priced_l4 n) xFu x0 x1 x2 (0 : Int32) w) := rfl
/-- WorldHallModel.priced()I -/
def f_X11_priced (x0 : Nat) (w : xSt) : Option (Int32 × xSt) :=
  f_X11_priced_l4 xFu x0 (0 : Int32) (0 : Int32) w
/-- WorldHallModel.price()I -/
def f_X11_price (x0 : Nat) (w : xSt) : Option (Int32 × xSt) :=
  gd (isC w x0 11) <|
  bd (f_X11_priced x0 w) fun v1 w2 =>
  some (v1, w2)
def f_X11_betters_l25 (k7 : Nat → Int32 → Int32 → xSt → Option (Int32 × xSt)) : Nat → Nat → Int32 → Int32 → Int32 → Int32 → xSt → Option (Int32 × xSt)
  | 0 => fun _ _ _ _ _ _ => none
  | n + 1 => fun x0 x1 x2 x3 x4 w =>
    gd (isC w x0 11) <|
    if ((wI w x0 0) * (wI w x0 1)) ≤ x4 then
      k7 x0 x1 (x2 + (1 : Int32)) w
    else
      if x3 = (-1 : Int32) then
        k7 x0 x1 (x2 + (1 : Int32)) w
      else
        if x4 = x3 then
          f_X11_betters_l25 k7 n x0 x1 x2 x3 (x4 + (1 : Int32)) w
        else
          bd (f_X11_hindered x0 x2 x4 w) fun v13 w14 =>
          if v13 = 0 then
            gd (isC w14 x0 11) <|
            gd (isC w14 (wR w14 x0 12) 20) <|
            gd (inR x2 (wN w14 (wR w14 x0 12))) <|
            lt1 (sI w14 (wR w14 x0 12) x2.toNatClampNeg x4) fun w20 =>
            bd (f_X11_priced x0 w20) fun v22 w23 =>
            if x1 ≤ v22 then
              gd (isC w23 x0 11) <|
              gd (isC w23 (wR w23 x0 12) 20) <|
              gd (inR x2 (wN w23 (wR w23 x0 12))) <|
              lt1 (sI w23 (wR w23 x0 12) x2.toNatClampNeg x3) fun w30 =>
              f_X11_betters_l25 k7 n x0 x1 x2 x3 (x4 + (1 : Int32)) w30
            else
              some ((1 : Int32), w23)
          else
            f_X11_betters_l25 k7 n x0 x1 x2 x3 (x4 + (1 : Int32)) w14
theorem f_X11_betters_l25_s (k7 : Nat → Int32 → Int32 → xSt → Option (Int32 × xSt)) (n : Nat) (x0 : Nat) (x1 : Int32) (x2 : Int32) (x3 : Int32) (x4 : Int32) (w : xSt) : f_X11_betters_l25 k7 (n + 1) x0 x1 x2 x3 x4 w = (
    gd (isC w x0 11) <|
    if ((wI w x0 0) * (wI w x0 1)) ≤ x4 then
      k7 x0 x1 (x2 + (1 : Int32)) w
    else
      if x3 = (-1 : Int32) then
        k7 x0 x1 (x2 + (1 : Int32)) w
      else
        if x4 = x3 then
          f_X11_betters_l25 k7 n x0 x1 x2 x3 (x4 + (1 : Int32)) w
        else
          bd (f_X11_hindered x0 x2 x4 w) fun v13 w14 =>
          if v13 = 0 then
            gd (isC w14 x0 11) <|
            gd (isC w14 (wR w14 x0 12) 20) <|
            gd (inR x2 (wN w14 (wR w14 x0 12))) <|
            lt1 (sI w14 (wR w14 x0 12) x2.toNatClampNeg x4) fun w20 =>
            bd (f_X11_priced x0 w20) fun v22 w23 =>
            if x1 ≤ v22 then
              gd (isC w23 x0 11) <|
              gd (isC w23 (wR w23 x0 12) 20) <|
              gd (inR x2 (wN w23 (wR w23 x0 12))) <|
              lt1 (sI w23 (wR w23 x0 12) x2.toNatClampNeg x3) fun w30 =>
              f_X11_betters_l25 k7 n x0 x1 x2 x3 (x4 + (1 : Int32)) w30
            else
              some ((1 : Int32), w23)
          else
            f_X11_betters_l25 k7 n x0 x1 x2 x3 (x4 + (1 : Int32)) w14) := rfl
def f_X11_betters_l7 : Nat → Nat → Int32 → Int32 → xSt → Option (Int32 × xSt)
  | 0 => fun _ _ _ _ => none
  | n + 1 => fun x0 x1 x2 w =>
    gd (isC w x0 11) <|
    if (wI w x0 5) ≤ x2 then
      some ((0 : Int32), w)
    else
      gd (isC w (wR w x0 12) 20) <|
      gd (inR x2 (wN w (wR w x0 12))) <|
      f_X11_betters_l25 (f_X11_betters_l7 n) xFu x0 x1 x2 (wI w (wR w x0 12) x2.toNatClampNeg) (0 : Int32) w
theorem f_X11_betters_l7_s (n : Nat) (x0 : Nat) (x1 : Int32) (x2 : Int32) (w : xSt) : f_X11_betters_l7 (n + 1) x0 x1 x2 w = (
    gd (isC w x0 11) <|
    if (wI w x0 5) ≤ x2 then
      some ((0 : Int32), w)
    else
      gd (isC w (wR w x0 12) 20) <|
      gd (inR x2 (wN w (wR w x0 12))) <|
      f_X11_betters_l25 (f_X11_betters_l7 n) xFu x0 x1 x2 (wI w (wR w x0 12) x2.toNatClampNeg) (0 : Int32) w) := rfl
/-- WorldHallModel.betters()Z -/
def f_X11_betters (x0 : Nat) (w : xSt) : Option (Int32 × xSt) :=
  gd (isC w x0 11) <|
  bd (f_X11_priced x0 w) fun v1 w2 =>
  f_X11_betters_l7 xFu x0 v1 (0 : Int32) w2
def f_X11_better_l12 : Nat → Nat → Int32 → xSt → Option (Int32 × xSt)
  | 0 => fun _ _ _ => none
  | n + 1 => fun x0 x1 w =>
    if (50 : Int32) ≤ x1 then
      some (x1, w)
    else
      gd (isC w x0 11) <|
      bd (f_X11_betters x0 w) fun v7 w8 =>
      if v7 = 0 then
        some (x1, w8)
      else
        f_X11_better_l12 n x0 (x1 + (1 : Int32)) w8
theorem f_X11_better_l12_s (n : Nat) (x0 : Nat) (x1 : Int32) (w : xSt) : f_X11_better_l12 (n + 1) x0 x1 w = (
    if (50 : Int32) ≤ x1 then
      some (x1, w)
    else
      gd (isC w x0 11) <|
      bd (f_X11_betters x0 w) fun v7 w8 =>
      if v7 = 0 then
        some (x1, w8)
      else
        f_X11_better_l12 n x0 (x1 + (1 : Int32)) w8) := rfl
/-- WorldHallModel.better()I -/
def f_X11_better (x0 : Nat) (w : xSt) : Option (Int32 × xSt) :=
  gd (isC w x0 11) <|
  bd (f_X11_ins x0 w) fun v1 w2 =>
  if v1 ≤ 0 then
    f_X11_better_l12 xFu x0 (0 : Int32) w2
  else
    some ((-3 : Int32), w2)
def f_X11_reaches_b50 (x0 : Nat) (x1 : Int32) (w : xSt) : Option (Unit × xSt) :=
  gd (isC w x0 11) <|
  gd (isC w (wR w x0 40) 23) <|
  gd (inR x1 (wN w (wR w x0 40))) <|
  lt1 (sI w (wR w x0 40) x1.toNatClampNeg (vp_nar .boolean (1 : Int32))) fun w18 =>
  gd (isC w18 (wR w18 x0 41) 20) <|
  gd (inR (wI w18 x0 42) (wN w18 (wR w18 x0 41))) <|
  lt1 (sI w18 (wR w18 x0 41) (wI w18 x0 42).toNatClampNeg x1) fun w23 =>
  lt1 (sI w23 x0 42 ((wI w23 x0 42) + (1 : Int32))) fun w26 =>
  some ((), w26)
/-- WorldHallModel.reaches(II)V -/
def f_X11_reaches (x0 : Nat) (x1 : Int32) (x2 : Int32) (w : xSt) : Option (Unit × xSt) :=
  gd (isC w x0 11) <|
  bd (f_X11_standOn x0 x1 w) fun v1 w2 =>
  gd (isC w2 x0 11) <|
  gd (isC w2 (wR w2 x0 40) 23) <|
  gd (inR x1 (wN w2 (wR w2 x0 40))) <|
  if (wI w2 (wR w2 x0 40) x1.toNatClampNeg) = 0 then
    gd (isC w2 (wR w2 x0 2) 20) <|
    gd (inR x1 (wN w2 (wR w2 x0 2))) <|
    if (wI w2 (wR w2 x0 2) x1.toNatClampNeg) = (2 : Int32) then
      some ((), w2)
    else
      if (wI w2 (wR w2 x0 2) x1.toNatClampNeg) = (3 : Int32) then
        some ((), w2)
      else
        if v1 = (-1 : Int32) then
          f_X11_reaches_b50 x0 x1 w2
        else
          if ((x2 >>> (v1 &&& 31)) &&& (1 : Int32)) = (1 : Int32) then
            some ((), w2)
          else
            f_X11_reaches_b50 x0 x1 w2
  else
    some ((), w2)
def f_X11_floods_b139 (k65 : Nat → Int32 → Int32 → xSt → Option (Unit × xSt)) (x0 : Nat) (x1 : Int32) (x2 : Int32) (x3 : Int32) (w : xSt) : Option (Unit × xSt) :=
  gd (isC w x0 11) <|
  if ((wI w x0 0) * ((wI w x0 1) - (1 : Int32))) ≤ x3 then
    k65 x0 x1 (x2 + (1 : Int32)) w
  else
    bd (f_X11_reaches x0 (x3 + (wI w x0 0)) x1 w) fun _ w36 =>
    k65 x0 x1 (x2 + (1 : Int32)) w36
def f_X11_floods_b120 (k65 : Nat → Int32 → Int32 → xSt → Option (Unit × xSt)) (x0 : Nat) (x1 : Int32) (x2 : Int32) (x3 : Int32) (w : xSt) : Option (Unit × xSt) :=
  gd (isC w x0 11) <|
  if x3 < (wI w x0 0) then
    f_X11_floods_b139 k65 x0 x1 x2 x3 w
  else
    bd (f_X11_reaches x0 (x3 - (wI w x0 0)) x1 w) fun _ w32 =>
    f_X11_floods_b139 k65 x0 x1 x2 x3 w32
def f_X11_floods_b97 (k65 : Nat → Int32 → Int32 → xSt → Option (Unit × xSt)) (x0 : Nat) (x1 : Int32) (x2 : Int32) (x3 : Int32) (w : xSt) : Option (Unit × xSt) :=
  gd (isC w x0 11) <|
  gd (¬ (wI w x0 0) = 0) <|
  if ((wI w x0 0) - (1 : Int32)) ≤ (x3 - x3 / (wI w x0 0) * (wI w x0 0)) then
    f_X11_floods_b120 k65 x0 x1 x2 x3 w
  else
    bd (f_X11_reaches x0 (x3 + (1 : Int32)) x1 w) fun _ w28 =>
    f_X11_floods_b120 k65 x0 x1 x2 x3 w28
def f_X11_floods_l65 : Nat → Nat → Int32 → Int32 → xSt → Option (Unit × xSt)
  | 0 => fun _ _ _ _ => none
  | n + 1 => fun x0 x1 x2 w =>
    gd (isC w x0 11) <|
    if (wI w x0 42) ≤ x2 then
      some ((), w)
    else
      gd (isC w (wR w x0 41) 20) <|
      gd (inR x2 (wN w (wR w x0 41))) <|
      gd (¬ (wI w x0 0) = 0) <|
      if ((wI w (wR w x0 41) x2.toNatClampNeg) - (wI w (wR w x0 41) x2.toNatClampNeg) / (wI w x0 0) * (wI w x0 0)) ≤ 0 then
        f_X11_floods_b97 (f_X11_floods_l65 n) x0 x1 x2 (wI w (wR w x0 41) x2.toNatClampNeg) w
      else
        bd (f_X11_reaches x0 ((wI w (wR w x0 41) x2.toNatClampNeg) - (1 : Int32)) x1 w) fun _ w23 =>
        f_X11_floods_b97 (f_X11_floods_l65 n) x0 x1 x2 (wI w (wR w x0 41) x2.toNatClampNeg) w23
theorem f_X11_floods_l65_s (n : Nat) (x0 : Nat) (x1 : Int32) (x2 : Int32) (w : xSt) : f_X11_floods_l65 (n + 1) x0 x1 x2 w = (
    gd (isC w x0 11) <|
    if (wI w x0 42) ≤ x2 then
      some ((), w)
    else
      gd (isC w (wR w x0 41) 20) <|
      gd (inR x2 (wN w (wR w x0 41))) <|
      gd (¬ (wI w x0 0) = 0) <|
      if ((wI w (wR w x0 41) x2.toNatClampNeg) - (wI w (wR w x0 41) x2.toNatClampNeg) / (wI w x0 0) * (wI w x0 0)) ≤ 0 then
        f_X11_floods_b97 (f_X11_floods_l65 n) x0 x1 x2 (wI w (wR w x0 41) x2.toNatClampNeg) w
      else
        bd (f_X11_reaches x0 ((wI w (wR w x0 41) x2.toNatClampNeg) - (1 : Int32)) x1 w) fun _ w23 =>
        f_X11_floods_b97 (f_X11_floods_l65 n) x0 x1 x2 (wI w (wR w x0 41) x2.toNatClampNeg) w23) := rfl
def f_X11_floods_l28 : Nat → Nat → Int32 → Int32 → xSt → Option (Unit × xSt)
  | 0 => fun _ _ _ _ => none
  | n + 1 => fun x0 x1 x2 w =>
    gd (isC w x0 11) <|
    if ((wI w x0 0) * (wI w x0 1)) ≤ x2 then
      f_X11_floods_l65 xFu x0 x1 (0 : Int32) w
    else
      gd (isC w (wR w x0 2) 20) <|
      gd (inR x2 (wN w (wR w x0 2))) <|
      if (wI w (wR w x0 2) x2.toNatClampNeg) = (1 : Int32) then
        bd (f_X11_reaches x0 x2 x1 w) fun _ w15 =>
        f_X11_floods_l28 n x0 x1 (x2 + (1 : Int32)) w15
      else
        f_X11_floods_l28 n x0 x1 (x2 + (1 : Int32)) w
theorem f_X11_floods_l28_s (n : Nat) (x0 : Nat) (x1 : Int32) (x2 : Int32) (w : xSt) : f_X11_floods_l28 (n + 1) x0 x1 x2 w = (
    gd (isC w x0 11) <|
    if ((wI w x0 0) * (wI w x0 1)) ≤ x2 then
      f_X11_floods_l65 xFu x0 x1 (0 : Int32) w
    else
      gd (isC w (wR w x0 2) 20) <|
      gd (inR x2 (wN w (wR w x0 2))) <|
      if (wI w (wR w x0 2) x2.toNatClampNeg) = (1 : Int32) then
        bd (f_X11_reaches x0 x2 x1 w) fun _ w15 =>
        f_X11_floods_l28 n x0 x1 (x2 + (1 : Int32)) w15
      else
        f_X11_floods_l28 n x0 x1 (x2 + (1 : Int32)) w) := rfl
def f_X11_floods_l7 : Nat → Nat → Int32 → Int32 → xSt → Option (Unit × xSt)
  | 0 => fun _ _ _ _ => none
  | n + 1 => fun x0 x1 x2 w =>
    if (64 : Int32) ≤ x2 then
      f_X11_floods_l28 xFu x0 x1 (0 : Int32) w
    else
      gd (isC w x0 11) <|
      gd (isC w (wR w x0 40) 23) <|
      gd (inR x2 (wN w (wR w x0 40))) <|
      lt1 (sI w (wR w x0 40) x2.toNatClampNeg (vp_nar .boolean (0 : Int32))) fun w8 =>
      f_X11_floods_l7 n x0 x1 (x2 + (1 : Int32)) w8
theorem f_X11_floods_l7_s (n : Nat) (x0 : Nat) (x1 : Int32) (x2 : Int32) (w : xSt) : f_X11_floods_l7 (n + 1) x0 x1 x2 w = (
    if (64 : Int32) ≤ x2 then
      f_X11_floods_l28 xFu x0 x1 (0 : Int32) w
    else
      gd (isC w x0 11) <|
      gd (isC w (wR w x0 40) 23) <|
      gd (inR x2 (wN w (wR w x0 40))) <|
      lt1 (sI w (wR w x0 40) x2.toNatClampNeg (vp_nar .boolean (0 : Int32))) fun w8 =>
      f_X11_floods_l7 n x0 x1 (x2 + (1 : Int32)) w8) := rfl
/-- WorldHallModel.floods(I)V -/
def f_X11_floods (x0 : Nat) (x1 : Int32) (w : xSt) : Option (Unit × xSt) :=
  gd (isC w x0 11) <|
  lt1 (sI w x0 42 (0 : Int32)) fun w2 =>
  f_X11_floods_l7 xFu x0 x1 (0 : Int32) w2
def f_X11_comeTo_l9 : Nat → Nat → Int32 → Int32 → xSt → Option (Int32 × xSt)
  | 0 => fun _ _ _ _ => none
  | n + 1 => fun x0 x2 x3 w =>
    gd (isC w x0 11) <|
    if ((wI w x0 0) * (wI w x0 1)) ≤ x3 then
      some (x2, w)
    else
      bd (f_X11_standOn x0 x3 w) fun v6 w7 =>
      gd (isC w7 x0 11) <|
      gd (isC w7 (wR w7 x0 40) 23) <|
      gd (inR x3 (wN w7 (wR w7 x0 40))) <|
      if (wI w7 (wR w7 x0 40) x3.toNatClampNeg) = 0 then
        f_X11_comeTo_l9 n x0 (x2 ||| (0 : Int32)) (x3 + (1 : Int32)) w7
      else
        if v6 = (-1 : Int32) then
          f_X11_comeTo_l9 n x0 (x2 ||| (0 : Int32)) (x3 + (1 : Int32)) w7
        else
          f_X11_comeTo_l9 n x0 (x2 ||| ((1 : Int32) <<< (v6 &&& 31))) (x3 + (1 : Int32)) w7
theorem f_X11_comeTo_l9_s (n : Nat) (x0 : Nat) (x2 : Int32) (x3 : Int32) (w : xSt) : f_X11_comeTo_l9 (n + 1) x0 x2 x3 w = (
    gd (isC w x0 11) <|
    if ((wI w x0 0) * (wI w x0 1)) ≤ x3 then
      some (x2, w)
    else
      bd (f_X11_standOn x0 x3 w) fun v6 w7 =>
      gd (isC w7 x0 11) <|
      gd (isC w7 (wR w7 x0 40) 23) <|
      gd (inR x3 (wN w7 (wR w7 x0 40))) <|
      if (wI w7 (wR w7 x0 40) x3.toNatClampNeg) = 0 then
        f_X11_comeTo_l9 n x0 (x2 ||| (0 : Int32)) (x3 + (1 : Int32)) w7
      else
        if v6 = (-1 : Int32) then
          f_X11_comeTo_l9 n x0 (x2 ||| (0 : Int32)) (x3 + (1 : Int32)) w7
        else
          f_X11_comeTo_l9 n x0 (x2 ||| ((1 : Int32) <<< (v6 &&& 31))) (x3 + (1 : Int32)) w7) := rfl
/-- WorldHallModel.comeTo(I)I -/
def f_X11_comeTo (x0 : Nat) (x1 : Int32) (w : xSt) : Option (Int32 × xSt) :=
  gd (isC w x0 11) <|
  bd (f_X11_floods x0 x1 w) fun _ w1 =>
  f_X11_comeTo_l9 xFu x0 (0 : Int32) (0 : Int32) w1
def f_X11_setIn_l4 : Nat → Nat → Int32 → Int32 → Int32 → xSt → Option (Int32 × xSt)
  | 0 => fun _ _ _ _ _ => none
  | n + 1 => fun x0 x1 x2 x3 w =>
    gd (isC w x0 11) <|
    if (wI w x0 5) ≤ x3 then
      some (x2, w)
    else
      gd (isC w (wR w x0 14) 23) <|
      gd (inR x3 (wN w (wR w x0 14))) <|
      if (wI w (wR w x0 14) x3.toNatClampNeg) = 0 then
        f_X11_setIn_l4 n x0 x1 (x2 ||| (0 : Int32)) (x3 + (1 : Int32)) w
      else
        if x3 = x1 then
          f_X11_setIn_l4 n x0 x1 (x2 ||| (0 : Int32)) (x3 + (1 : Int32)) w
        else
          f_X11_setIn_l4 n x0 x1 (x2 ||| ((1 : Int32) <<< (x3 &&& 31))) (x3 + (1 : Int32)) w
theorem f_X11_setIn_l4_s (n : Nat) (x0 : Nat) (x1 : Int32) (x2 : Int32) (x3 : Int32) (w : xSt) : f_X11_setIn_l4 (n + 1) x0 x1 x2 x3 w = (
    gd (isC w x0 11) <|
    if (wI w x0 5) ≤ x3 then
      some (x2, w)
    else
      gd (isC w (wR w x0 14) 23) <|
      gd (inR x3 (wN w (wR w x0 14))) <|
      if (wI w (wR w x0 14) x3.toNatClampNeg) = 0 then
        f_X11_setIn_l4 n x0 x1 (x2 ||| (0 : Int32)) (x3 + (1 : Int32)) w
      else
        if x3 = x1 then
          f_X11_setIn_l4 n x0 x1 (x2 ||| (0 : Int32)) (x3 + (1 : Int32)) w
        else
          f_X11_setIn_l4 n x0 x1 (x2 ||| ((1 : Int32) <<< (x3 &&& 31))) (x3 + (1 : Int32)) w) := rfl
/-- WorldHallModel.setIn(I)I -/
def f_X11_setIn (x0 : Nat) (x1 : Int32) (w : xSt) : Option (Int32 × xSt) :=
  f_X11_setIn_l4 xFu x0 x1 (0 : Int32) (0 : Int32) w
/-- WorldHallModel.canBring(I)Z -/
def f_X11_canBring (x0 : Nat) (x1 : Int32) (w : xSt) : Option (Int32 × xSt) :=
  gd (isC w x0 11) <|
  bd (f_X11_setIn x0 x1 w) fun v1 w2 =>
  gd (isC w2 x0 11) <|
  bd (f_X11_comeTo x0 v1 w2) fun v5 w6 =>
  if ((v5 >>> (x1 &&& 31)) &&& (1 : Int32)) = (1 : Int32) then
    some ((1 : Int32), w6)
  else
    some ((0 : Int32), w6)
/-- WorldHallModel.can(I)I -/
def f_X11_can (x0 : Nat) (x1 : Int32) (w : xSt) : Option (Int32 × xSt) :=
  gd (isC w x0 11) <|
  bd (f_X11_isLaid x0 x1 w) fun v1 w2 =>
  if v1 = 0 then
    some ((-1 : Int32), w2)
  else
    gd (isC w2 x0 11) <|
    gd (isC w2 (wR w2 x0 14) 23) <|
    gd (inR x1 (wN w2 (wR w2 x0 14))) <|
    if (wI w2 (wR w2 x0 14) x1.toNatClampNeg) = 0 then
      bd (f_X11_canBring x0 x1 w2) fun v10 w11 =>
      if v10 = 0 then
        some ((0 : Int32), w11)
      else
        some ((1 : Int32), w11)
    else
      some ((0 : Int32), w2)
/-- WorldHallModel.bring(I)I -/
def f_X11_bring (x0 : Nat) (x1 : Int32) (w : xSt) : Option (Int32 × xSt) :=
  gd (isC w x0 11) <|
  bd (f_X11_isLaid x0 x1 w) fun v1 w2 =>
  if v1 = 0 then
    some ((-1 : Int32), w2)
  else
    gd (isC w2 x0 11) <|
    gd (isC w2 (wR w2 x0 14) 23) <|
    gd (inR x1 (wN w2 (wR w2 x0 14))) <|
    if (wI w2 (wR w2 x0 14) x1.toNatClampNeg) = 0 then
      bd (f_X11_canBring x0 x1 w2) fun v10 w11 =>
      gd (isC w11 x0 11) <|
      gd (isC w11 (wR w11 x0 14) 23) <|
      gd (inR x1 (wN w11 (wR w11 x0 14))) <|
      lt1 (sI w11 (wR w11 x0 14) x1.toNatClampNeg (vp_nar .boolean v10)) fun w16 =>
      if v10 = 0 then
        some ((0 : Int32), w16)
      else
        some ((1 : Int32), w16)
    else
      some ((-3 : Int32), w2)
def f_X11_clear_l7 : Nat → Nat → Int32 → Int32 → xSt → Option (Int32 × xSt)
  | 0 => fun _ _ _ _ => none
  | n + 1 => fun x0 x1 x2 w =>
    gd (isC w x0 11) <|
    if (wI w x0 5) ≤ x2 then
      some (x1, w)
    else
      gd (isC w (wR w x0 14) 23) <|
      gd (inR x2 (wN w (wR w x0 14))) <|
      lt1 (sI w (wR w x0 14) x2.toNatClampNeg (vp_nar .boolean (0 : Int32))) fun w9 =>
      f_X11_clear_l7 n x0 x1 (x2 + (1 : Int32)) w9
theorem f_X11_clear_l7_s (n : Nat) (x0 : Nat) (x1 : Int32) (x2 : Int32) (w : xSt) : f_X11_clear_l7 (n + 1) x0 x1 x2 w = (
    gd (isC w x0 11) <|
    if (wI w x0 5) ≤ x2 then
      some (x1, w)
    else
      gd (isC w (wR w x0 14) 23) <|
      gd (inR x2 (wN w (wR w x0 14))) <|
      lt1 (sI w (wR w x0 14) x2.toNatClampNeg (vp_nar .boolean (0 : Int32))) fun w9 =>
      f_X11_clear_l7 n x0 x1 (x2 + (1 : Int32)) w9) := rfl
/-- WorldHallModel.clear()I -/
def f_X11_clear (x0 : Nat) (w : xSt) : Option (Int32 × xSt) :=
  gd (isC w x0 11) <|
  bd (f_X11_ins x0 w) fun v1 w2 =>
  f_X11_clear_l7 xFu x0 v1 (0 : Int32) w2
def f_X11_row_b125 (k40 : Nat → Int32 → Int32 → Int32 → xSt → Option (Int32 × xSt)) (k87 : Nat → Int32 → Int32 → Int32 → Int32 → xSt → Option (Int32 × xSt)) (x0 : Nat) (x1 : Int32) (x2 : Int32) (x3 : Int32) (x4 : Int32) (s0 : Int32) (w : xSt) : Option (Int32 × xSt) :=
  gd (isC w x0 11) <|
  gd (isC w (wR w x0 44) 23) <|
  gd (inR x3 (wN w (wR w x0 44))) <|
  if (wI w (wR w x0 44) x3.toNatClampNeg) = 0 then
    if s0 = 0 then
      lt1 (sI w (wR w x0 44) x3.toNatClampNeg (vp_nar .boolean (0 : Int32))) fun w47 =>
      k87 x0 x1 x2 x3 (x4 + (1 : Int32)) w47
    else
      gd (inR (x3 ||| ((1 : Int32) <<< (x4 &&& 31))) (wN w (wR w x0 44))) <|
      if (wI w (wR w x0 44) (x3 ||| ((1 : Int32) <<< (x4 &&& 31))).toNatClampNeg) = 0 then
        lt1 (sI w (wR w x0 44) x3.toNatClampNeg (vp_nar .boolean (0 : Int32))) fun w51 =>
        k87 x0 x1 x2 x3 (x4 + (1 : Int32)) w51
      else
        lt1 (sI w (wR w x0 44) x3.toNatClampNeg (vp_nar .boolean (1 : Int32))) fun w53 =>
        k87 x0 x1 x2 x3 (x4 + (1 : Int32)) w53
  else
    lt1 (sI w (wR w x0 44) x3.toNatClampNeg (vp_nar .boolean (1 : Int32))) fun w44 =>
    k87 x0 x1 x2 x3 (x4 + (1 : Int32)) w44
def f_X11_row_l87 (k40 : Nat → Int32 → Int32 → Int32 → xSt → Option (Int32 × xSt)) : Nat → Nat → Int32 → Int32 → Int32 → Int32 → xSt → Option (Int32 × xSt)
  | 0 => fun _ _ _ _ _ _ => none
  | n + 1 => fun x0 x1 x2 x3 x4 w =>
    gd (isC w x0 11) <|
    if (wI w x0 5) ≤ x4 then
      k40 x0 x1 x2 (x3 + (-1 : Int32)) w
    else
      if ((x3 >>> (x4 &&& 31)) &&& (1 : Int32)) = 0 then
        gd (isC w (wR w x0 43) 20) <|
        gd (inR x3 (wN w (wR w x0 43))) <|
        if (((wI w (wR w x0 43) x3.toNatClampNeg) >>> (x4 &&& 31)) &&& (1 : Int32)) = (1 : Int32) then
          f_X11_row_b125 k40 (f_X11_row_l87 k40 n) x0 x1 x2 x3 x4 (1 : Int32) w
        else
          f_X11_row_b125 k40 (f_X11_row_l87 k40 n) x0 x1 x2 x3 x4 (0 : Int32) w
      else
        f_X11_row_b125 k40 (f_X11_row_l87 k40 n) x0 x1 x2 x3 x4 (0 : Int32) w
theorem f_X11_row_l87_s (k40 : Nat → Int32 → Int32 → Int32 → xSt → Option (Int32 × xSt)) (n : Nat) (x0 : Nat) (x1 : Int32) (x2 : Int32) (x3 : Int32) (x4 : Int32) (w : xSt) : f_X11_row_l87 k40 (n + 1) x0 x1 x2 x3 x4 w = (
    gd (isC w x0 11) <|
    if (wI w x0 5) ≤ x4 then
      k40 x0 x1 x2 (x3 + (-1 : Int32)) w
    else
      if ((x3 >>> (x4 &&& 31)) &&& (1 : Int32)) = 0 then
        gd (isC w (wR w x0 43) 20) <|
        gd (inR x3 (wN w (wR w x0 43))) <|
        if (((wI w (wR w x0 43) x3.toNatClampNeg) >>> (x4 &&& 31)) &&& (1 : Int32)) = (1 : Int32) then
          f_X11_row_b125 k40 (f_X11_row_l87 k40 n) x0 x1 x2 x3 x4 (1 : Int32) w
        else
          f_X11_row_b125 k40 (f_X11_row_l87 k40 n) x0 x1 x2 x3 x4 (0 : Int32) w
      else
        f_X11_row_b125 k40 (f_X11_row_l87 k40 n) x0 x1 x2 x3 x4 (0 : Int32) w) := rfl
def f_X11_row_b59 (k40 : Nat → Int32 → Int32 → Int32 → xSt → Option (Int32 × xSt)) (x0 : Nat) (x1 : Int32) (x2 : Int32) (x3 : Int32) (s0 : Nat) (s1 : Int32) (s2 : Int32) (w : xSt) : Option (Int32 × xSt) :=
  gd (isC w s0 23) <|
  gd (inR s1 (wN w s0)) <|
  lt1 (sI w s0 s1.toNatClampNeg (vp_nar .boolean s2)) fun w22 =>
  if (x3 &&& (x2 ^^^ (-1 : Int32))) = 0 then
    if x3 = x2 then
      k40 x0 x1 x2 (x3 + (-1 : Int32)) w22
    else
      gd (isC w22 x0 11) <|
      bd (f_X11_comeTo x0 x3 w22) fun v27 w28 =>
      gd (isC w28 (wR w22 x0 43) 20) <|
      gd (inR x3 (wN w28 (wR w22 x0 43))) <|
      lt1 (sI w28 (wR w22 x0 43) x3.toNatClampNeg v27) fun w32 =>
      f_X11_row_l87 k40 xFu x0 x1 x2 x3 (0 : Int32) w32
  else
    k40 x0 x1 x2 (x3 + (-1 : Int32)) w22
def f_X11_row_l220 (k211 : Nat → Int32 → Int32 → Int32 → Int32 → xSt → Option (Int32 × xSt)) : Nat → Nat → Int32 → Int32 → Int32 → Int32 → xSt → Option (Int32 × xSt)
  | 0 => fun _ _ _ _ _ _ => none
  | n + 1 => fun x0 x1 x3 x4 x5 w =>
    if ((x3 >>> (x4 &&& 31)) &&& (1 : Int32)) = (1 : Int32) then
      f_X11_row_l220 k211 n x0 x1 x3 (x4 + (1 : Int32)) x5 w
    else
      gd (isC w x0 11) <|
      gd (isC w (wR w x0 43) 20) <|
      gd (inR x3 (wN w (wR w x0 43))) <|
      if (((wI w (wR w x0 43) x3.toNatClampNeg) >>> (x4 &&& 31)) &&& (1 : Int32)) = 0 then
        f_X11_row_l220 k211 n x0 x1 x3 (x4 + (1 : Int32)) x5 w
      else
        gd (isC w (wR w x0 44) 23) <|
        gd (inR (x3 ||| ((1 : Int32) <<< (x4 &&& 31))) (wN w (wR w x0 44))) <|
        if (wI w (wR w x0 44) (x3 ||| ((1 : Int32) <<< (x4 &&& 31))).toNatClampNeg) = 0 then
          f_X11_row_l220 k211 n x0 x1 x3 (x4 + (1 : Int32)) x5 w
        else
          k211 x0 x1 (x3 ||| ((1 : Int32) <<< (x4 &&& 31))) x4 (x5 + (1 : Int32)) w
theorem f_X11_row_l220_s (k211 : Nat → Int32 → Int32 → Int32 → Int32 → xSt → Option (Int32 × xSt)) (n : Nat) (x0 : Nat) (x1 : Int32) (x3 : Int32) (x4 : Int32) (x5 : Int32) (w : xSt) : f_X11_row_l220 k211 (n + 1) x0 x1 x3 x4 x5 w = (
    if ((x3 >>> (x4 &&& 31)) &&& (1 : Int32)) = (1 : Int32) then
      f_X11_row_l220 k211 n x0 x1 x3 (x4 + (1 : Int32)) x5 w
    else
      gd (isC w x0 11) <|
      gd (isC w (wR w x0 43) 20) <|
      gd (inR x3 (wN w (wR w x0 43))) <|
      if (((wI w (wR w x0 43) x3.toNatClampNeg) >>> (x4 &&& 31)) &&& (1 : Int32)) = 0 then
        f_X11_row_l220 k211 n x0 x1 x3 (x4 + (1 : Int32)) x5 w
      else
        gd (isC w (wR w x0 44) 23) <|
        gd (inR (x3 ||| ((1 : Int32) <<< (x4 &&& 31))) (wN w (wR w x0 44))) <|
        if (wI w (wR w x0 44) (x3 ||| ((1 : Int32) <<< (x4 &&& 31))).toNatClampNeg) = 0 then
          f_X11_row_l220 k211 n x0 x1 x3 (x4 + (1 : Int32)) x5 w
        else
          k211 x0 x1 (x3 ||| ((1 : Int32) <<< (x4 &&& 31))) x4 (x5 + (1 : Int32)) w) := rfl
def f_X11_row_l211 : Nat → Nat → Int32 → Int32 → Int32 → Int32 → xSt → Option (Int32 × xSt)
  | 0 => fun _ _ _ _ _ _ => none
  | n + 1 => fun x0 x1 x3 x4 x5 w =>
    if x1 < x5 then
      some (x4, w)
    else
      f_X11_row_l220 (f_X11_row_l211 n) xFu x0 x1 x3 (0 : Int32) x5 w
theorem f_X11_row_l211_s (n : Nat) (x0 : Nat) (x1 : Int32) (x3 : Int32) (x4 : Int32) (x5 : Int32) (w : xSt) : f_X11_row_l211 (n + 1) x0 x1 x3 x4 x5 w = (
    if x1 < x5 then
      some (x4, w)
    else
      f_X11_row_l220 (f_X11_row_l211 n) xFu x0 x1 x3 (0 : Int32) x5 w) := rfl
def f_X11_row_l40 : Nat → Nat → Int32 → Int32 → Int32 → xSt → Option (Int32 × xSt)
  | 0 => fun _ _ _ _ _ => none
  | n + 1 => fun x0 x1 x2 x3 w =>
    if x3 < 0 then
      gd (isC w x0 11) <|
      gd (isC w (wR w x0 44) 23) <|
      gd (inR (0 : Int32) (wN w (wR w x0 44))) <|
      if (wI w (wR w x0 44) (0 : Int32).toNatClampNeg) = 0 then
        some ((-1 : Int32), w)
      else
        bd (f_X11_laid x0 w) fun v11 w12 =>
        bd (f_X11_in x1 (0 : Int32) (v11 - (1 : Int32)) w12) fun v14 w15 =>
        if v14 = 0 then
          some ((-1 : Int32), w15)
        else
          f_X11_row_l211 xFu x0 x1 (0 : Int32) (-1 : Int32) (0 : Int32) w15
    else
      gd (isC w x0 11) <|
      if x3 = x2 then
        f_X11_row_b59 (f_X11_row_l40 n) x0 x1 x2 x3 (wR w x0 44) x3 (1 : Int32) w
      else
        f_X11_row_b59 (f_X11_row_l40 n) x0 x1 x2 x3 (wR w x0 44) x3 (0 : Int32) w
theorem f_X11_row_l40_s (n : Nat) (x0 : Nat) (x1 : Int32) (x2 : Int32) (x3 : Int32) (w : xSt) : f_X11_row_l40 (n + 1) x0 x1 x2 x3 w = (
    if x3 < 0 then
      gd (isC w x0 11) <|
      gd (isC w (wR w x0 44) 23) <|
      gd (inR (0 : Int32) (wN w (wR w x0 44))) <|
      if (wI w (wR w x0 44) (0 : Int32).toNatClampNeg) = 0 then
        some ((-1 : Int32), w)
      else
        bd (f_X11_laid x0 w) fun v11 w12 =>
        bd (f_X11_in x1 (0 : Int32) (v11 - (1 : Int32)) w12) fun v14 w15 =>
        if v14 = 0 then
          some ((-1 : Int32), w15)
        else
          f_X11_row_l211 xFu x0 x1 (0 : Int32) (-1 : Int32) (0 : Int32) w15
    else
      gd (isC w x0 11) <|
      if x3 = x2 then
        f_X11_row_b59 (f_X11_row_l40 n) x0 x1 x2 x3 (wR w x0 44) x3 (1 : Int32) w
      else
        f_X11_row_b59 (f_X11_row_l40 n) x0 x1 x2 x3 (wR w x0 44) x3 (0 : Int32) w) := rfl
def f_X11_row_l4 : Nat → Nat → Int32 → Int32 → Int32 → xSt → Option (Int32 × xSt)
  | 0 => fun _ _ _ _ _ => none
  | n + 1 => fun x0 x1 x2 x3 w =>
    gd (isC w x0 11) <|
    if (wI w x0 5) ≤ x3 then
      f_X11_row_l40 xFu x0 x1 x2 x2 w
    else
      gd (isC w (wR w x0 12) 20) <|
      gd (inR x3 (wN w (wR w x0 12))) <|
      if (wI w (wR w x0 12) x3.toNatClampNeg) = (-1 : Int32) then
        f_X11_row_l4 n x0 x1 (x2 ||| (0 : Int32)) (x3 + (1 : Int32)) w
      else
        f_X11_row_l4 n x0 x1 (x2 ||| ((1 : Int32) <<< (x3 &&& 31))) (x3 + (1 : Int32)) w
theorem f_X11_row_l4_s (n : Nat) (x0 : Nat) (x1 : Int32) (x2 : Int32) (x3 : Int32) (w : xSt) : f_X11_row_l4 (n + 1) x0 x1 x2 x3 w = (
    gd (isC w x0 11) <|
    if (wI w x0 5) ≤ x3 then
      f_X11_row_l40 xFu x0 x1 x2 x2 w
    else
      gd (isC w (wR w x0 12) 20) <|
      gd (inR x3 (wN w (wR w x0 12))) <|
      if (wI w (wR w x0 12) x3.toNatClampNeg) = (-1 : Int32) then
        f_X11_row_l4 n x0 x1 (x2 ||| (0 : Int32)) (x3 + (1 : Int32)) w
      else
        f_X11_row_l4 n x0 x1 (x2 ||| ((1 : Int32) <<< (x3 &&& 31))) (x3 + (1 : Int32)) w) := rfl
/-- WorldHallModel.row(I)I -/
def f_X11_row (x0 : Nat) (x1 : Int32) (w : xSt) : Option (Int32 × xSt) :=
  f_X11_row_l4 xFu x0 x1 (0 : Int32) (0 : Int32) w
def f_X11_feed_l32 : Nat → Nat → Int64 → Int32 → xSt → Option (Int32 × xSt)
  | 0 => fun _ _ _ _ => none
  | n + 1 => fun x0 x1 x4 w =>
    if x4 < 0 then
      gd (isC w x0 11) <|
      some (wI w x0 17, w)
    else
      gd (isC w x0 11) <|
      gd (isC w (wR w x0 16) 20) <|
      gd (inR (wI w x0 17) (wN w (wR w x0 16))) <|
      lt1 (sI w (wR w x0 16) (wI w x0 17).toNatClampNeg (((x1 >>> (((8 : Int32) * x4).toInt64 &&& 63)) &&& (255 : Int64)).toInt32)) fun w12 =>
      lt1 (sI w12 x0 17 ((wI w12 x0 17) + (1 : Int32))) fun w15 =>
      f_X11_feed_l32 n x0 x1 (x4 + (-1 : Int32)) w15
theorem f_X11_feed_l32_s (n : Nat) (x0 : Nat) (x1 : Int64) (x4 : Int32) (w : xSt) : f_X11_feed_l32 (n + 1) x0 x1 x4 w = (
    if x4 < 0 then
      gd (isC w x0 11) <|
      some (wI w x0 17, w)
    else
      gd (isC w x0 11) <|
      gd (isC w (wR w x0 16) 20) <|
      gd (inR (wI w x0 17) (wN w (wR w x0 16))) <|
      lt1 (sI w (wR w x0 16) (wI w x0 17).toNatClampNeg (((x1 >>> (((8 : Int32) * x4).toInt64 &&& 63)) &&& (255 : Int64)).toInt32)) fun w12 =>
      lt1 (sI w12 x0 17 ((wI w12 x0 17) + (1 : Int32))) fun w15 =>
      f_X11_feed_l32 n x0 x1 (x4 + (-1 : Int32)) w15) := rfl
/-- WorldHallModel.feed(JI)I -/
def f_X11_feed (x0 : Nat) (x1 : Int64) (x3 : Int32) (w : xSt) : Option (Int32 × xSt) :=
  bd (f_X11_in x3 (1 : Int32) (8 : Int32) w) fun v1 w2 =>
  if v1 = 0 then
    some ((-2 : Int32), w2)
  else
    gd (isC w2 x0 11) <|
    if ((wI w2 x0 17) + x3) ≤ (120 : Int32) then
      f_X11_feed_l32 xFu x0 x1 (x3 - (1 : Int32)) w2
    else
      some ((-4 : Int32), w2)
/-- WorldHallModel.byteAt(I)I -/
def f_X11_byteAt (x0 : Nat) (x1 : Int32) (w : xSt) : Option (Int32 × xSt) :=
  gd (isC w x0 11) <|
  if (wI w x0 17) ≤ x1 then
    some ((-1 : Int32), w)
  else
    gd (isC w (wR w x0 16) 20) <|
    gd (inR x1 (wN w (wR w x0 16))) <|
    some (wI w (wR w x0 16) x1.toNatClampNeg, w)
/-- WorldHallModel.must(I)V -/
def f_X11_must (x0 : Nat) (x1 : Int32) (w : xSt) : Option (Unit × xSt) :=
  gd (isC w x0 11) <|
  if (wI w x0 46) = 0 then
    bd (f_X11_byteAt x0 (wI w x0 45) w) fun v5 w6 =>
    if v5 = x1 then
      gd (isC w6 x0 11) <|
      lt1 (sI w6 x0 45 ((wI w6 x0 45) + (1 : Int32))) fun w13 =>
      some ((), w13)
    else
      gd (isC w6 x0 11) <|
      lt1 (sI w6 x0 46 (1 : Int32)) fun w10 =>
      some ((), w10)
  else
    lt1 (sI w x0 46 (1 : Int32)) fun w3 =>
    some ((), w3)
def f_X11_number_b76 (x0 : Nat) (x1 : Int32) (w : xSt) : Option (Unit × xSt) :=
  gd (isC w x0 11) <|
  if (wI w x0 46) = 0 then
    if x1 = 0 then
      lt1 (sI w x0 46 (1 : Int32)) fun w31 =>
      some ((), w31)
    else
      lt1 (sI w x0 46 (0 : Int32)) fun w29 =>
      some ((), w29)
  else
    lt1 (sI w x0 46 (1 : Int32)) fun w26 =>
    some ((), w26)
def f_X11_number_l7 : Nat → Nat → Int32 → xSt → Option (Unit × xSt)
  | 0 => fun _ _ _ => none
  | n + 1 => fun x0 x1 w =>
    gd (isC w x0 11) <|
    if (wI w x0 46) = 0 then
      if (3 : Int32) ≤ x1 then
        f_X11_number_b76 x0 x1 w
      else
        bd (f_X11_byteAt x0 (wI w x0 45) w) fun v7 w8 =>
        bd (f_X11_in v7 (48 : Int32) (57 : Int32) w8) fun v10 w11 =>
        if v10 = 0 then
          f_X11_number_b76 x0 x1 w11
        else
          gd (isC w11 x0 11) <|
          bd (f_X11_byteAt x0 (wI w11 x0 45) w11) fun v15 w16 =>
          gd (isC w16 x0 11) <|
          lt1 (sI w16 x0 47 ((((10 : Int32) * (wI w11 x0 47)) + v15) - (48 : Int32))) fun w19 =>
          lt1 (sI w19 x0 45 ((wI w19 x0 45) + (1 : Int32))) fun w22 =>
          f_X11_number_l7 n x0 (x1 + (1 : Int32)) w22
    else
      f_X11_number_b76 x0 x1 w
theorem f_X11_number_l7_s (n : Nat) (x0 : Nat) (x1 : Int32) (w : xSt) : f_X11_number_l7 (n + 1) x0 x1 w = (
    gd (isC w x0 11) <|
    if (wI w x0 46) = 0 then
      if (3 : Int32) ≤ x1 then
        f_X11_number_b76 x0 x1 w
      else
        bd (f_X11_byteAt x0 (wI w x0 45) w) fun v7 w8 =>
        bd (f_X11_in v7 (48 : Int32) (57 : Int32) w8) fun v10 w11 =>
        if v10 = 0 then
          f_X11_number_b76 x0 x1 w11
        else
          gd (isC w11 x0 11) <|
          bd (f_X11_byteAt x0 (wI w11 x0 45) w11) fun v15 w16 =>
          gd (isC w16 x0 11) <|
          lt1 (sI w16 x0 47 ((((10 : Int32) * (wI w11 x0 47)) + v15) - (48 : Int32))) fun w19 =>
          lt1 (sI w19 x0 45 ((wI w19 x0 45) + (1 : Int32))) fun w22 =>
          f_X11_number_l7 n x0 (x1 + (1 : Int32)) w22
    else
      f_X11_number_b76 x0 x1 w) := rfl
/-- WorldHallModel.number()V -/
def f_X11_number (x0 : Nat) (w : xSt) : Option (Unit × xSt) :=
  gd (isC w x0 11) <|
  lt1 (sI w x0 47 (0 : Int32)) fun w2 =>
  f_X11_number_l7 xFu x0 (0 : Int32) w2
def f_X11_medals_b220 (k28 : Nat → Int32 → Int32 → Int32 → xSt → Option (Unit × xSt)) (x0 : Nat) (x1 : Int32) (x2 : Int32) (s0 : Int32) (w : xSt) : Option (Unit × xSt) :=
  gd (isC w x0 11) <|
  if s0 = 0 then
    lt1 (sI w x0 45 ((wI w x0 45) + (0 : Int32))) fun w64 =>
    k28 x0 x1 x2 s0 w64
  else
    lt1 (sI w x0 45 ((wI w x0 45) + (1 : Int32))) fun w66 =>
    k28 x0 x1 x2 s0 w66
def f_X11_medals_b187 (k28 : Nat → Int32 → Int32 → Int32 → xSt → Option (Unit × xSt)) (x0 : Nat) (x1 : Int32) (x2 : Int32) (w : xSt) : Option (Unit × xSt) :=
  if (3 : Int32) ≤ (x2 + (1 : Int32)) then
    f_X11_medals_b220 k28 x0 x1 (x2 + (1 : Int32)) (0 : Int32) w
  else
    gd (isC w x0 11) <|
    if (wI w x0 46) = 0 then
      bd (f_X11_byteAt x0 (wI w x0 45) w) fun v58 w59 =>
      if v58 = (44 : Int32) then
        f_X11_medals_b220 k28 x0 x1 (x2 + (1 : Int32)) (1 : Int32) w59
      else
        f_X11_medals_b220 k28 x0 x1 (x2 + (1 : Int32)) (0 : Int32) w59
    else
      f_X11_medals_b220 k28 x0 x1 (x2 + (1 : Int32)) (0 : Int32) w
def f_X11_medals_b138 (k28 : Nat → Int32 → Int32 → Int32 → xSt → Option (Unit × xSt)) (x0 : Nat) (x1 : Int32) (x2 : Int32) (w : xSt) : Option (Unit × xSt) :=
  gd (isC w x0 11) <|
  bd (f_X11_must x0 (32 : Int32) w) fun _ w34 =>
  gd (isC w34 x0 11) <|
  bd (f_X11_must x0 (97 : Int32) w34) fun _ w37 =>
  gd (isC w37 x0 11) <|
  bd (f_X11_must x0 (116 : Int32) w37) fun _ w40 =>
  gd (isC w40 x0 11) <|
  bd (f_X11_must x0 (32 : Int32) w40) fun _ w43 =>
  gd (isC w43 x0 11) <|
  bd (f_X11_number x0 w43) fun _ w46 =>
  gd (isC w46 x0 11) <|
  if (wI w46 x0 46) = 0 then
    gd (isC w46 (wR w46 x0 20) 20) <|
    gd (inR (((3 : Int32) * x1) + x2) (wN w46 (wR w46 x0 20))) <|
    lt1 (sI w46 (wR w46 x0 20) (((3 : Int32) * x1) + x2).toNatClampNeg (wI w46 x0 47)) fun w53 =>
    f_X11_medals_b187 k28 x0 x1 x2 w53
  else
    f_X11_medals_b187 k28 x0 x1 x2 w46
def f_X11_medals_l87 (k28 : Nat → Int32 → Int32 → Int32 → xSt → Option (Unit × xSt)) : Nat → Nat → Int32 → Int32 → Int32 → xSt → Option (Unit × xSt)
  | 0 => fun _ _ _ _ _ => none
  | n + 1 => fun x0 x1 x2 x4 w =>
    if (6 : Int32) ≤ x4 then
      f_X11_medals_b138 k28 x0 x1 x2 w
    else
      gd (isC w x0 11) <|
      if (wI w x0 46) = 0 then
        gd (isC w (wR w x0 48) 20) <|
        gd (inR (((6 : Int32) * x2) + x4) (wN w (wR w x0 48))) <|
        if (wI w (wR w x0 48) (((6 : Int32) * x2) + x4).toNatClampNeg) = 0 then
          f_X11_medals_l87 k28 n x0 x1 x2 (x4 + (1 : Int32)) w
        else
          bd (f_X11_must x0 (wI w (wR w x0 48) (((6 : Int32) * x2) + x4).toNatClampNeg) w) fun _ w32 =>
          f_X11_medals_l87 k28 n x0 x1 x2 (x4 + (1 : Int32)) w32
      else
        f_X11_medals_b138 k28 x0 x1 x2 w
theorem f_X11_medals_l87_s (k28 : Nat → Int32 → Int32 → Int32 → xSt → Option (Unit × xSt)) (n : Nat) (x0 : Nat) (x1 : Int32) (x2 : Int32) (x4 : Int32) (w : xSt) : f_X11_medals_l87 k28 (n + 1) x0 x1 x2 x4 w = (
    if (6 : Int32) ≤ x4 then
      f_X11_medals_b138 k28 x0 x1 x2 w
    else
      gd (isC w x0 11) <|
      if (wI w x0 46) = 0 then
        gd (isC w (wR w x0 48) 20) <|
        gd (inR (((6 : Int32) * x2) + x4) (wN w (wR w x0 48))) <|
        if (wI w (wR w x0 48) (((6 : Int32) * x2) + x4).toNatClampNeg) = 0 then
          f_X11_medals_l87 k28 n x0 x1 x2 (x4 + (1 : Int32)) w
        else
          bd (f_X11_must x0 (wI w (wR w x0 48) (((6 : Int32) * x2) + x4).toNatClampNeg) w) fun _ w32 =>
          f_X11_medals_l87 k28 n x0 x1 x2 (x4 + (1 : Int32)) w32
      else
        f_X11_medals_b138 k28 x0 x1 x2 w) := rfl
def f_X11_medals_b70 (k28 : Nat → Int32 → Int32 → Int32 → xSt → Option (Unit × xSt)) (x0 : Nat) (x1 : Int32) (x2 : Int32) (w : xSt) : Option (Unit × xSt) :=
  if x2 = (3 : Int32) then
    gd (isC w x0 11) <|
    lt1 (sI w x0 46 (1 : Int32)) fun w24 =>
    f_X11_medals_l87 k28 xFu x0 x1 x2 (0 : Int32) w24
  else
    gd (isC w x0 11) <|
    lt1 (sI w x0 46 (0 : Int32)) fun w21 =>
    f_X11_medals_l87 k28 xFu x0 x1 x2 (0 : Int32) w21
def f_X11_medals_l39 (k28 : Nat → Int32 → Int32 → Int32 → xSt → Option (Unit × xSt)) : Nat → Nat → Int32 → Int32 → xSt → Option (Unit × xSt)
  | 0 => fun _ _ _ _ => none
  | n + 1 => fun x0 x1 x2 w =>
    if (3 : Int32) ≤ x2 then
      f_X11_medals_b70 k28 x0 x1 x2 w
    else
      gd (isC w x0 11) <|
      bd (f_X11_byteAt x0 (wI w x0 45) w) fun v12 w13 =>
      gd (isC w13 x0 11) <|
      gd (isC w13 (wR w13 x0 48) 20) <|
      gd (inR ((6 : Int32) * x2) (wN w13 (wR w13 x0 48))) <|
      if v12 = (wI w13 (wR w13 x0 48) ((6 : Int32) * x2).toNatClampNeg) then
        f_X11_medals_b70 k28 x0 x1 x2 w13
      else
        f_X11_medals_l39 k28 n x0 x1 (x2 + (1 : Int32)) w13
theorem f_X11_medals_l39_s (k28 : Nat → Int32 → Int32 → Int32 → xSt → Option (Unit × xSt)) (n : Nat) (x0 : Nat) (x1 : Int32) (x2 : Int32) (w : xSt) : f_X11_medals_l39 k28 (n + 1) x0 x1 x2 w = (
    if (3 : Int32) ≤ x2 then
      f_X11_medals_b70 k28 x0 x1 x2 w
    else
      gd (isC w x0 11) <|
      bd (f_X11_byteAt x0 (wI w x0 45) w) fun v12 w13 =>
      gd (isC w13 x0 11) <|
      gd (isC w13 (wR w13 x0 48) 20) <|
      gd (inR ((6 : Int32) * x2) (wN w13 (wR w13 x0 48))) <|
      if v12 = (wI w13 (wR w13 x0 48) ((6 : Int32) * x2).toNatClampNeg) then
        f_X11_medals_b70 k28 x0 x1 x2 w13
      else
        f_X11_medals_l39 k28 n x0 x1 (x2 + (1 : Int32)) w13) := rfl
def f_X11_medals_l28 : Nat → Nat → Int32 → Int32 → Int32 → xSt → Option (Unit × xSt)
  | 0 => fun _ _ _ _ _ => none
  | n + 1 => fun x0 x1 x2 x3 w =>
    if x3 = 0 then
      some ((), w)
    else
      gd (isC w x0 11) <|
      if (wI w x0 46) = 0 then
        f_X11_medals_l39 (f_X11_medals_l28 n) xFu x0 x1 x2 w
      else
        some ((), w)
theorem f_X11_medals_l28_s (n : Nat) (x0 : Nat) (x1 : Int32) (x2 : Int32) (x3 : Int32) (w : xSt) : f_X11_medals_l28 (n + 1) x0 x1 x2 x3 w = (
    if x3 = 0 then
      some ((), w)
    else
      gd (isC w x0 11) <|
      if (wI w x0 46) = 0 then
        f_X11_medals_l39 (f_X11_medals_l28 n) xFu x0 x1 x2 w
      else
        some ((), w)) := rfl
def f_X11_medals_l2 : Nat → Nat → Int32 → Int32 → xSt → Option (Unit × xSt)
  | 0 => fun _ _ _ _ => none
  | n + 1 => fun x0 x1 x2 w =>
    if (3 : Int32) ≤ x2 then
      f_X11_medals_l28 xFu x0 x1 (0 : Int32) (1 : Int32) w
    else
      gd (isC w x0 11) <|
      gd (isC w (wR w x0 20) 20) <|
      gd (inR (((3 : Int32) * x1) + x2) (wN w (wR w x0 20))) <|
      lt1 (sI w (wR w x0 20) (((3 : Int32) * x1) + x2).toNatClampNeg (-1 : Int32)) fun w5 =>
      f_X11_medals_l2 n x0 x1 (x2 + (1 : Int32)) w5
theorem f_X11_medals_l2_s (n : Nat) (x0 : Nat) (x1 : Int32) (x2 : Int32) (w : xSt) : f_X11_medals_l2 (n + 1) x0 x1 x2 w = (
    if (3 : Int32) ≤ x2 then
      f_X11_medals_l28 xFu x0 x1 (0 : Int32) (1 : Int32) w
    else
      gd (isC w x0 11) <|
      gd (isC w (wR w x0 20) 20) <|
      gd (inR (((3 : Int32) * x1) + x2) (wN w (wR w x0 20))) <|
      lt1 (sI w (wR w x0 20) (((3 : Int32) * x1) + x2).toNatClampNeg (-1 : Int32)) fun w5 =>
      f_X11_medals_l2 n x0 x1 (x2 + (1 : Int32)) w5) := rfl
/-- WorldHallModel.medals(I)V -/
def f_X11_medals (x0 : Nat) (x1 : Int32) (w : xSt) : Option (Unit × xSt) :=
  f_X11_medals_l2 xFu x0 x1 (0 : Int32) w
def f_X11_daysOf_b124 (k30 : Nat → Int32 → Int32 → xSt → Option (Unit × xSt)) (x0 : Nat) (x1 : Int32) (x2 : Int32) (s0 : Nat) (s1 : Int32) (w : xSt) : Option (Unit × xSt) :=
  gd (isC w s0 11) <|
  gd (s1 = 0 ∨ s1 = 1) <|
  lt1 (sI w s0 46 s1) fun w51 =>
  gd (isC w51 x0 11) <|
  if (wI w51 x0 46) = 0 then
    bd (f_X11_byteAt x0 (wI w51 x0 45) w51) fun v60 w61 =>
    gd (isC w61 (wR w51 x0 22) 20) <|
    gd (inR (((4 : Int32) * x1) + x2) (wN w61 (wR w51 x0 22))) <|
    lt1 (sI w61 (wR w51 x0 22) (((4 : Int32) * x1) + x2).toNatClampNeg (v60 - (48 : Int32))) fun w65 =>
    gd (isC w65 x0 11) <|
    lt1 (sI w65 x0 45 ((wI w65 x0 45) + (1 : Int32))) fun w68 =>
    bd (f_X11_must x0 (44 : Int32) w68) fun _ w70 =>
    gd (isC w70 x0 11) <|
    bd (f_X11_number x0 w70) fun _ w73 =>
    k30 x0 x1 (x2 + (1 : Int32)) w73
  else
    bd (f_X11_must x0 (44 : Int32) w51) fun _ w55 =>
    gd (isC w55 x0 11) <|
    bd (f_X11_number x0 w55) fun _ w57 =>
    k30 x0 x1 (x2 + (1 : Int32)) w57
def f_X11_daysOf_b181 (x0 : Nat) (x1 : Int32) (x2 : Int32) (w : xSt) : Option (Unit × xSt) :=
  gd (isC w x0 11) <|
  gd (isC w (wR w x0 21) 20) <|
  gd (inR x1 (wN w (wR w x0 21))) <|
  lt1 (sI w (wR w x0 21) x1.toNatClampNeg x2) fun w79 =>
  gd (isC w79 (wR w79 x0 23) 20) <|
  gd (inR (((5 : Int32) * x1) + x2) (wN w79 (wR w79 x0 23))) <|
  lt1 (sI w79 (wR w79 x0 23) (((5 : Int32) * x1) + x2).toNatClampNeg (wI w79 x0 47)) fun w84 =>
  some ((), w84)
def f_X11_daysOf_l30 : Nat → Nat → Int32 → Int32 → xSt → Option (Unit × xSt)
  | 0 => fun _ _ _ _ => none
  | n + 1 => fun x0 x1 x2 w =>
    gd (isC w x0 11) <|
    if (wI w x0 46) = 0 then
      if (4 : Int32) ≤ x2 then
        f_X11_daysOf_b181 x0 x1 x2 w
      else
        bd (f_X11_byteAt x0 (wI w x0 45) w) fun v19 w20 =>
        if v19 = (32 : Int32) then
          gd (isC w20 x0 11) <|
          gd (isC w20 (wR w20 x0 23) 20) <|
          gd (inR (((5 : Int32) * x1) + x2) (wN w20 (wR w20 x0 23))) <|
          lt1 (sI w20 (wR w20 x0 23) (((5 : Int32) * x1) + x2).toNatClampNeg (wI w20 x0 47)) fun w26 =>
          bd (f_X11_must x0 (32 : Int32) w26) fun _ w28 =>
          gd (isC w28 x0 11) <|
          bd (f_X11_must x0 (111 : Int32) w28) fun _ w31 =>
          gd (isC w31 x0 11) <|
          bd (f_X11_must x0 (110 : Int32) w31) fun _ w34 =>
          gd (isC w34 x0 11) <|
          bd (f_X11_must x0 (32 : Int32) w34) fun _ w37 =>
          gd (isC w37 x0 11) <|
          if (wI w37 x0 46) = 0 then
            bd (f_X11_byteAt x0 (wI w37 x0 45) w37) fun v42 w43 =>
            bd (f_X11_in v42 (48 : Int32) (54 : Int32) w43) fun v45 w46 =>
            if v45 = 0 then
              f_X11_daysOf_b124 (f_X11_daysOf_l30 n) x0 x1 x2 x0 (1 : Int32) w46
            else
              f_X11_daysOf_b124 (f_X11_daysOf_l30 n) x0 x1 x2 x0 (0 : Int32) w46
          else
            f_X11_daysOf_b124 (f_X11_daysOf_l30 n) x0 x1 x2 x0 (1 : Int32) w37
        else
          f_X11_daysOf_b181 x0 x1 x2 w20
    else
      f_X11_daysOf_b181 x0 x1 x2 w
theorem f_X11_daysOf_l30_s (n : Nat) (x0 : Nat) (x1 : Int32) (x2 : Int32) (w : xSt) : f_X11_daysOf_l30 (n + 1) x0 x1 x2 w = (
    gd (isC w x0 11) <|
    if (wI w x0 46) = 0 then
      if (4 : Int32) ≤ x2 then
        f_X11_daysOf_b181 x0 x1 x2 w
      else
        bd (f_X11_byteAt x0 (wI w x0 45) w) fun v19 w20 =>
        if v19 = (32 : Int32) then
          gd (isC w20 x0 11) <|
          gd (isC w20 (wR w20 x0 23) 20) <|
          gd (inR (((5 : Int32) * x1) + x2) (wN w20 (wR w20 x0 23))) <|
          lt1 (sI w20 (wR w20 x0 23) (((5 : Int32) * x1) + x2).toNatClampNeg (wI w20 x0 47)) fun w26 =>
          bd (f_X11_must x0 (32 : Int32) w26) fun _ w28 =>
          gd (isC w28 x0 11) <|
          bd (f_X11_must x0 (111 : Int32) w28) fun _ w31 =>
          gd (isC w31 x0 11) <|
          bd (f_X11_must x0 (110 : Int32) w31) fun _ w34 =>
          gd (isC w34 x0 11) <|
          bd (f_X11_must x0 (32 : Int32) w34) fun _ w37 =>
          gd (isC w37 x0 11) <|
          if (wI w37 x0 46) = 0 then
            bd (f_X11_byteAt x0 (wI w37 x0 45) w37) fun v42 w43 =>
            bd (f_X11_in v42 (48 : Int32) (54 : Int32) w43) fun v45 w46 =>
            if v45 = 0 then
              f_X11_daysOf_b124 (f_X11_daysOf_l30 n) x0 x1 x2 x0 (1 : Int32) w46
            else
              f_X11_daysOf_b124 (f_X11_daysOf_l30 n) x0 x1 x2 x0 (0 : Int32) w46
          else
            f_X11_daysOf_b124 (f_X11_daysOf_l30 n) x0 x1 x2 x0 (1 : Int32) w37
        else
          f_X11_daysOf_b181 x0 x1 x2 w20
    else
      f_X11_daysOf_b181 x0 x1 x2 w) := rfl
/-- WorldHallModel.daysOf(I)V -/
def f_X11_daysOf (x0 : Nat) (x1 : Int32) (w : xSt) : Option (Unit × xSt) :=
  gd (isC w x0 11) <|
  bd (f_X11_must x0 (112 : Int32) w) fun _ w1 =>
  gd (isC w1 x0 11) <|
  bd (f_X11_must x0 (97 : Int32) w1) fun _ w4 =>
  gd (isC w4 x0 11) <|
  bd (f_X11_must x0 (121 : Int32) w4) fun _ w7 =>
  gd (isC w7 x0 11) <|
  bd (f_X11_must x0 (32 : Int32) w7) fun _ w10 =>
  gd (isC w10 x0 11) <|
  bd (f_X11_number x0 w10) fun _ w13 =>
  f_X11_daysOf_l30 xFu x0 x1 (0 : Int32) w13
def f_X11_text_b99 (x0 : Nat) (x1 : Int32) (x2 : Int32) (x3 : Int32) (s0 : Int32) (w : xSt) : Option (Int32 × xSt) :=
  gd (isC w x0 11) <|
  lt1 (sI w x0 17 (0 : Int32)) fun w30 =>
  if s0 = 0 then
    some ((-10 : Int32) - (wI w30 x0 45), w30)
  else
    gd (isC w30 (wR w30 x0 19) 20) <|
    gd (inR x3 (wN w30 (wR w30 x0 19))) <|
    lt1 (sI w30 (wR w30 x0 19) x3.toNatClampNeg x2) fun w36 =>
    gd (isC w36 (wR w36 x0 18) 20) <|
    gd (inR x1 (wN w36 (wR w36 x0 18))) <|
    lt1 (sI w36 (wR w36 x0 18) x1.toNatClampNeg ((wI w36 (wR w36 x0 18) x1.toNatClampNeg) + (1 : Int32))) fun w41 =>
    gd (isC w41 (wR w41 x0 18) 20) <|
    gd (inR x1 (wN w41 (wR w41 x0 18))) <|
    some (wI w41 (wR w41 x0 18) x1.toNatClampNeg, w41)
def f_X11_text_b76 (x0 : Nat) (x1 : Int32) (x2 : Int32) (x3 : Int32) (w : xSt) : Option (Int32 × xSt) :=
  gd (isC w x0 11) <|
  if (wI w x0 46) = 0 then
    if (wI w x0 45) = (wI w x0 17) then
      f_X11_text_b99 x0 x1 x2 x3 (1 : Int32) w
    else
      f_X11_text_b99 x0 x1 x2 x3 (0 : Int32) w
  else
    f_X11_text_b99 x0 x1 x2 x3 (0 : Int32) w
/-- WorldHallModel.text(II)I -/
def f_X11_text (x0 : Nat) (x1 : Int32) (x2 : Int32) (w : xSt) : Option (Int32 × xSt) :=
  bd (f_X11_in x1 (0 : Int32) (1 : Int32) w) fun v1 w2 =>
  if v1 = 0 then
    some ((-2 : Int32), w2)
  else
    bd (f_X11_in x2 (0 : Int32) (999 : Int32) w2) fun v5 w6 =>
    if v5 = 0 then
      some ((-2 : Int32), w6)
    else
      gd (isC w6 x0 11) <|
      gd (isC w6 (wR w6 x0 18) 20) <|
      gd (inR x1 (wN w6 (wR w6 x0 18))) <|
      if (wI w6 (wR w6 x0 18) x1.toNatClampNeg) = (6 : Int32) then
        some ((-4 : Int32), w6)
      else
        lt1 (sI w6 x0 45 (0 : Int32)) fun w13 =>
        lt1 (sI w13 x0 46 (0 : Int32)) fun w16 =>
        gd (isC w16 (wR w16 x0 18) 20) <|
        gd (inR x1 (wN w16 (wR w16 x0 18))) <|
        if x1 = 0 then
          bd (f_X11_medals x0 (((6 : Int32) * x1) + (wI w16 (wR w16 x0 18) x1.toNatClampNeg)) w16) fun _ w24 =>
          f_X11_text_b76 x0 x1 x2 (((6 : Int32) * x1) + (wI w16 (wR w16 x0 18) x1.toNatClampNeg)) w24
        else
          bd (f_X11_daysOf x0 (((6 : Int32) * x1) + (wI w16 (wR w16 x0 18) x1.toNatClampNeg)) w16) fun _ w22 =>
          f_X11_text_b76 x0 x1 x2 (((6 : Int32) * x1) + (wI w16 (wR w16 x0 18) x1.toNatClampNeg)) w22
def f_X11_inForce_l8 : Nat → Nat → Int32 → Int32 → Int32 → Int32 → xSt → Option (Int32 × xSt)
  | 0 => fun _ _ _ _ _ _ => none
  | n + 1 => fun x0 x1 x2 x3 x4 w =>
    gd (isC w x0 11) <|
    gd (isC w (wR w x0 18) 20) <|
    gd (inR x1 (wN w (wR w x0 18))) <|
    if (((6 : Int32) * x1) + (wI w (wR w x0 18) x1.toNatClampNeg)) ≤ x4 then
      some (x3, w)
    else
      gd (isC w (wR w x0 19) 20) <|
      gd (inR x4 (wN w (wR w x0 19))) <|
      if x2 < (wI w (wR w x0 19) x4.toNatClampNeg) then
        f_X11_inForce_l8 n x0 x1 x2 x3 (x4 + (1 : Int32)) w
      else
        if x3 = (-1 : Int32) then
          f_X11_inForce_l8 n x0 x1 x2 x4 (x4 + (1 : Int32)) w
        else
          gd (inR x3 (wN w (wR w x0 19))) <|
          if (wI w (wR w x0 19) x4.toNatClampNeg) < (wI w (wR w x0 19) x3.toNatClampNeg) then
            f_X11_inForce_l8 n x0 x1 x2 x3 (x4 + (1 : Int32)) w
          else
            f_X11_inForce_l8 n x0 x1 x2 x4 (x4 + (1 : Int32)) w
theorem f_X11_inForce_l8_s (n : Nat) (x0 : Nat) (x1 : Int32) (x2 : Int32) (x3 : Int32) (x4 : Int32) (w : xSt) : f_X11_inForce_l8 (n + 1) x0 x1 x2 x3 x4 w = (
    gd (isC w x0 11) <|
    gd (isC w (wR w x0 18) 20) <|
    gd (inR x1 (wN w (wR w x0 18))) <|
    if (((6 : Int32) * x1) + (wI w (wR w x0 18) x1.toNatClampNeg)) ≤ x4 then
      some (x3, w)
    else
      gd (isC w (wR w x0 19) 20) <|
      gd (inR x4 (wN w (wR w x0 19))) <|
      if x2 < (wI w (wR w x0 19) x4.toNatClampNeg) then
        f_X11_inForce_l8 n x0 x1 x2 x3 (x4 + (1 : Int32)) w
      else
        if x3 = (-1 : Int32) then
          f_X11_inForce_l8 n x0 x1 x2 x4 (x4 + (1 : Int32)) w
        else
          gd (inR x3 (wN w (wR w x0 19))) <|
          if (wI w (wR w x0 19) x4.toNatClampNeg) < (wI w (wR w x0 19) x3.toNatClampNeg) then
            f_X11_inForce_l8 n x0 x1 x2 x3 (x4 + (1 : Int32)) w
          else
            f_X11_inForce_l8 n x0 x1 x2 x4 (x4 + (1 : Int32)) w) := rfl
/-- WorldHallModel.inForce(II)I -/
def f_X11_inForce (x0 : Nat) (x1 : Int32) (x2 : Int32) (w : xSt) : Option (Int32 × xSt) :=
  f_X11_inForce_l8 xFu x0 x1 x2 (-1 : Int32) ((6 : Int32) * x1) w
/-- WorldHallModel.juror(II)I -/
def f_X11_juror (x0 : Nat) (x1 : Int32) (x2 : Int32) (w : xSt) : Option (Int32 × xSt) :=
  bd (f_X11_in x1 (0 : Int32) (7 : Int32) w) fun v1 w2 =>
  if v1 = 0 then
    some ((-2 : Int32), w2)
  else
    bd (f_X11_in x2 (0 : Int32) (9 : Int32) w2) fun v5 w6 =>
    if v5 = 0 then
      some ((-2 : Int32), w6)
    else
      gd (isC w6 x0 11) <|
      if (wI w6 x0 24) = (12 : Int32) then
        some ((-4 : Int32), w6)
      else
        gd (isC w6 (wR w6 x0 25) 20) <|
        gd (inR (wI w6 x0 24) (wN w6 (wR w6 x0 25))) <|
        lt1 (sI w6 (wR w6 x0 25) (wI w6 x0 24).toNatClampNeg x1) fun w13 =>
        gd (isC w13 (wR w13 x0 26) 20) <|
        gd (inR (wI w13 x0 24) (wN w13 (wR w13 x0 26))) <|
        lt1 (sI w13 (wR w13 x0 26) (wI w13 x0 24).toNatClampNeg x2) fun w18 =>
        lt1 (sI w18 x0 24 ((wI w18 x0 24) + (1 : Int32))) fun w21 =>
        some ((wI w21 x0 24) - (1 : Int32), w21)
/-- WorldHallModel.mark(IIII)I -/
def f_X11_mark (x0 : Nat) (x1 : Int32) (x2 : Int32) (x3 : Int32) (x4 : Int32) (w : xSt) : Option (Int32 × xSt) :=
  gd (isC w x0 11) <|
  bd (f_X11_in x1 (0 : Int32) ((wI w x0 24) - (1 : Int32)) w) fun v2 w3 =>
  if v2 = 0 then
    some ((-5 : Int32), w3)
  else
    gd (isC w3 x0 11) <|
    bd (f_X11_isStand x0 x2 w3) fun v6 w7 =>
    if v6 = 0 then
      some ((-5 : Int32), w7)
    else
      bd (f_X11_in x3 (0 : Int32) (100 : Int32) w7) fun v11 w12 =>
      if v11 = 0 then
        some ((-2 : Int32), w12)
      else
        bd (f_X11_in x4 (0 : Int32) (999 : Int32) w12) fun v15 w16 =>
        if v15 = 0 then
          some ((-2 : Int32), w16)
        else
          gd (isC w16 x0 11) <|
          gd (isC w16 (wR w16 x0 25) 20) <|
          gd (inR x1 (wN w16 (wR w16 x0 25))) <|
          gd (isC w16 (wR w16 x0 7) 20) <|
          gd (inR x2 (wN w16 (wR w16 x0 7))) <|
          if (wI w16 (wR w16 x0 25) x1.toNatClampNeg) = (wI w16 (wR w16 x0 7) x2.toNatClampNeg) then
            some ((-3 : Int32), w16)
          else
            gd (isC w16 (wR w16 x0 26) 20) <|
            gd (inR x1 (wN w16 (wR w16 x0 26))) <|
            gd (isC w16 (wR w16 x0 8) 20) <|
            gd (inR x2 (wN w16 (wR w16 x0 8))) <|
            if (wI w16 (wR w16 x0 26) x1.toNatClampNeg) = (wI w16 (wR w16 x0 8) x2.toNatClampNeg) then
              gd (isC w16 (wR w16 x0 27) 20) <|
              gd (inR (((9 : Int32) * x1) + x2) (wN w16 (wR w16 x0 27))) <|
              lt1 (sI w16 (wR w16 x0 27) (((9 : Int32) * x1) + x2).toNatClampNeg x3) fun w32 =>
              gd (isC w32 (wR w32 x0 28) 20) <|
              gd (inR (((9 : Int32) * x1) + x2) (wN w32 (wR w32 x0 28))) <|
              lt1 (sI w32 (wR w32 x0 28) (((9 : Int32) * x1) + x2).toNatClampNeg x4) fun w37 =>
              some (wI w16 (wR w16 x0 27) (((9 : Int32) * x1) + x2).toNatClampNeg, w37)
            else
              some ((-3 : Int32), w16)

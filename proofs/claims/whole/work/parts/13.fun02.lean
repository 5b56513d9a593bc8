/-- WorldHall.sight(II)I -/
def f_X10_sight (x0 : Nat) (x1 : Int32) (x2 : Int32) (w : xSt) : Option (Int32 × xSt) :=
  gd (isC w x0 10) <|
  gd (isC w (wR w x0 0) 0) <|
  bd (f_X0_has (wR w x0 0) x1 w) fun v2 w3 =>
  if v2 = 0 then
    some ((-1 : Int32), w3)
  else
    bd (f_X10_within x2 (0 : Int32) (10000 : Int32) w3) fun v7 w8 =>
    if v7 = 0 then
      some ((-2 : Int32), w8)
    else
      gd (isC w8 x0 10) <|
      gd (isC w8 (wR w8 x0 8) 4) <|
      bd (f_X4_isBehindLatest (wR w8 x0 8) x2 w8) fun v12 w13 =>
      if v12 = 0 then
        some ((-2 : Int32), w13)
      else
        gd (isC w13 x0 10) <|
        gd (isC w13 (wR w13 x0 0) 0) <|
        bd (f_X0_isOpen (wR w13 x0 0) x1 w13) fun v18 w19 =>
        if v18 = 0 then
          some ((-2 : Int32), w19)
        else
          gd (isC w19 x0 10) <|
          gd (isC w19 (wR w19 x0 8) 4) <|
          if (wI w19 (wR w19 x0 8) 0) < (10 : Int32) then
            bd (f_X4_add (wR w19 x0 8) x1 x2 w19) fun v26 w27 =>
            some (v26, w27)
          else
            some ((-4 : Int32), w19)
/-- WorldHall.refusalOfSearch(I)I -/
def f_X10_refusalOfSearch (x0 : Nat) (x1 : Int32) (w : xSt) : Option (Int32 × xSt) :=
  gd (isC w x0 10) <|
  gd (isC w (wR w x0 8) 4) <|
  if (wI w (wR w x0 8) 0) = 0 then
    some ((-3 : Int32), w)
  else
    if (wI w (wR w x0 8) 2) ≤ x1 then
      some ((0 : Int32), w)
    else
      some ((-2 : Int32), w)
/-- WorldHall.whereabouts(I)J -/
def f_X10_whereabouts (x0 : Nat) (x1 : Int32) (w : xSt) : Option (Int64 × xSt) :=
  gd (isC w x0 10) <|
  gd (isC w (wR w x0 0) 0) <|
  bd (f_X0_open (wR w x0 0) w) fun v2 w3 =>
  gd (isC w3 x0 10) <|
  gd (isC w3 (wR w3 x0 1) 5) <|
  bd (f_X5_covered (wR w3 x0 1) 0 w3) fun v7 w8 =>
  gd (isC w8 x0 10) <|
  gd (isC w8 (wR w8 x0 8) 4) <|
  bd (f_X0_only (wI w8 (wR w8 x0 8) 1) w8) fun v13 w14 =>
  gd (isC w14 x0 10) <|
  gd (isC w14 (wR w14 x0 8) 4) <|
  gd (isC w14 (wR w8 x0 0) 0) <|
  bd (f_X0_spread (wR w8 x0 0) v13 (v2 &&& (v7 ^^^ (-1 : Int64))) (x1 - (wI w14 (wR w14 x0 8) 2)) w14) fun v18 w19 =>
  some (v18, w19)
/-- WorldHall.canBe(II)I -/
def f_X10_canBe (x0 : Nat) (x1 : Int32) (x2 : Int32) (w : xSt) : Option (Int32 × xSt) :=
  gd (isC w x0 10) <|
  gd (isC w (wR w x0 0) 0) <|
  bd (f_X0_has (wR w x0 0) x1 w) fun v2 w3 =>
  if v2 = 0 then
    some ((-1 : Int32), w3)
  else
    gd (isC w3 x0 10) <|
    bd (f_X10_refusalOfSearch x0 x2 w3) fun v7 w8 =>
    if v7 = 0 then
      gd (isC w8 x0 10) <|
      bd (f_X10_whereabouts x0 x2 w8) fun v12 w13 =>
      bd (f_X0_only x1 w13) fun v16 w17 =>
      if (lg_cmp (v12 &&& v16) (0 : Int64)) = 0 then
        some ((0 : Int32), w17)
      else
        some ((1 : Int32), w17)
    else
      some (v7, w8)
/-- java/lang/Long.bitCount(J)I -/
def f_J13_bitCount_95d88 (x0 : Int64) (w : xSt) : Option (Int32 × xSt) :=
  some ((((((((((x0 - ((lushr x0 (1 : Int32)) &&& (6148914691236517205 : Int64))) &&& (3689348814741910323 : Int64)) + ((lushr (x0 - ((lushr x0 (1 : Int32)) &&& (6148914691236517205 : Int64))) (2 : Int32)) &&& (3689348814741910323 : Int64))) + (lushr (((x0 - ((lushr x0 (1 : Int32)) &&& (6148914691236517205 : Int64))) &&& (3689348814741910323 : Int64)) + ((lushr (x0 - ((lushr x0 (1 : Int32)) &&& (6148914691236517205 : Int64))) (2 : Int32)) &&& (3689348814741910323 : Int64))) (4 : Int32))) &&& (1085102592571150095 : Int64)) + (lushr (((((x0 - ((lushr x0 (1 : Int32)) &&& (6148914691236517205 : Int64))) &&& (3689348814741910323 : Int64)) + ((lushr (x0 - ((lushr x0 (1 : Int32)) &&& (6148914691236517205 : Int64))) (2 : Int32)) &&& (3689348814741910323 : Int64))) + (lushr (((x0 - ((lushr x0 (1 : Int32)) &&& (6148914691236517205 : Int64))) &&& (3689348814741910323 : Int64)) + ((lushr (x0 - ((lushr x0 (1 : Int32)) &&& (6148914691236517205 : Int64))) (2 : Int32)) &&& (3689348814741910323 : Int64))) (4 : Int32))) &&& (1085102592571150095 : Int64)) (8 : Int32))) + (lushr ((((((x0 - ((lushr x0 (1 : Int32)) &&& (6148914691236517205 : Int64))) &&& (3689348814741910323 : Int64)) + ((lushr (x0 - ((lushr x0 (1 : Int32)) &&& (6148914691236517205 : Int64))) (2 : Int32)) &&& (3689348814741910323 : Int64))) + (lushr (((x0 - ((lushr x0 (1 : Int32)) &&& (6148914691236517205 : Int64))) &&& (3689348814741910323 : Int64)) + ((lushr (x0 - ((lushr x0 (1 : Int32)) &&& (6148914691236517205 : Int64))) (2 : Int32)) &&& (3689348814741910323 : Int64))) (4 : Int32))) &&& (1085102592571150095 : Int64)) + (lushr (((((x0 - ((lushr x0 (1 : Int32)) &&& (6148914691236517205 : Int64))) &&& (3689348814741910323 : Int64)) + ((lushr (x0 - ((lushr x0 (1 : Int32)) &&& (6148914691236517205 : Int64))) (2 : Int32)) &&& (3689348814741910323 : Int64))) + (lushr (((x0 - ((lushr x0 (1 : Int32)) &&& (6148914691236517205 : Int64))) &&& (3689348814741910323 : Int64)) + ((lushr (x0 - ((lushr x0 (1 : Int32)) &&& (6148914691236517205 : Int64))) (2 : Int32)) &&& (3689348814741910323 : Int64))) (4 : Int32))) &&& (1085102592571150095 : Int64)) (8 : Int32))) (16 : Int32))) + (lushr (((((((x0 - ((lushr x0 (1 : Int32)) &&& (6148914691236517205 : Int64))) &&& (3689348814741910323 : Int64)) + ((lushr (x0 - ((lushr x0 (1 : Int32)) &&& (6148914691236517205 : Int64))) (2 : Int32)) &&& (3689348814741910323 : Int64))) + (lushr (((x0 - ((lushr x0 (1 : Int32)) &&& (6148914691236517205 : Int64))) &&& (3689348814741910323 : Int64)) + ((lushr (x0 - ((lushr x0 (1 : Int32)) &&& (6148914691236517205 : Int64))) (2 : Int32)) &&& (3689348814741910323 : Int64))) (4 : Int32))) &&& (1085102592571150095 : Int64)) + (lushr (((((x0 - ((lushr x0 (1 : Int32)) &&& (6148914691236517205 : Int64))) &&& (3689348814741910323 : Int64)) + ((lushr (x0 - ((lushr x0 (1 : Int32)) &&& (6148914691236517205 : Int64))) (2 : Int32)) &&& (3689348814741910323 : Int64))) + (lushr (((x0 - ((lushr x0 (1 : Int32)) &&& (6148914691236517205 : Int64))) &&& (3689348814741910323 : Int64)) + ((lushr (x0 - ((lushr x0 (1 : Int32)) &&& (6148914691236517205 : Int64))) (2 : Int32)) &&& (3689348814741910323 : Int64))) (4 : Int32))) &&& (1085102592571150095 : Int64)) (8 : Int32))) + (lushr ((((((x0 - ((lushr x0 (1 : Int32)) &&& (6148914691236517205 : Int64))) &&& (3689348814741910323 : Int64)) + ((lushr (x0 - ((lushr x0 (1 : Int32)) &&& (6148914691236517205 : Int64))) (2 : Int32)) &&& (3689348814741910323 : Int64))) + (lushr (((x0 - ((lushr x0 (1 : Int32)) &&& (6148914691236517205 : Int64))) &&& (3689348814741910323 : Int64)) + ((lushr (x0 - ((lushr x0 (1 : Int32)) &&& (6148914691236517205 : Int64))) (2 : Int32)) &&& (3689348814741910323 : Int64))) (4 : Int32))) &&& (1085102592571150095 : Int64)) + (lushr (((((x0 - ((lushr x0 (1 : Int32)) &&& (6148914691236517205 : Int64))) &&& (3689348814741910323 : Int64)) + ((lushr (x0 - ((lushr x0 (1 : Int32)) &&& (6148914691236517205 : Int64))) (2 : Int32)) &&& (3689348814741910323 : Int64))) + (lushr (((x0 - ((lushr x0 (1 : Int32)) &&& (6148914691236517205 : Int64))) &&& (3689348814741910323 : Int64)) + ((lushr (x0 - ((lushr x0 (1 : Int32)) &&& (6148914691236517205 : Int64))) (2 : Int32)) &&& (3689348814741910323 : Int64))) (4 : Int32))) &&& (1085102592571150095 : Int64)) (8 : Int32))) (16 : Int32))) (32 : Int32))).toInt32) &&& (127 : Int32), w)
/-- WorldHall.places(I)I -/
def f_X10_places (x0 : Nat) (x1 : Int32) (w : xSt) : Option (Int32 × xSt) :=
  gd (isC w x0 10) <|
  bd (f_X10_refusalOfSearch x0 x1 w) fun v1 w2 =>
  if v1 = 0 then
    gd (isC w2 x0 10) <|
    bd (f_X10_whereabouts x0 x1 w2) fun v6 w7 =>
    bd (f_J13_bitCount_95d88 v6 w7) fun v10 w11 =>
    some (v10, w11)
  else
    some (v1, w2)
/-- WorldHall.found()I -/
def f_X10_found (x0 : Nat) (w : xSt) : Option (Int32 × xSt) :=
  gd (isC w x0 10) <|
  gd (isC w (wR w x0 8) 4) <|
  bd (f_X4_forget (wR w x0 8) w) fun v2 w3 =>
  some (v2, w3)
/-- WorldHall.sell(II)I -/
def f_X10_sell (x0 : Nat) (x1 : Int32) (x2 : Int32) (w : xSt) : Option (Int32 × xSt) :=
  gd (isC w x0 10) <|
  gd (isC w (wR w x0 1) 5) <|
  bd (f_X5_find (wR w x0 1) x1 w) fun v2 w3 =>
  gd (v2 < 1000) <|
  if v2 = 0 then
    some ((-1 : Int32), w3)
  else
    bd (f_X10_within x2 (0 : Int32) (999 : Int32) w3) fun v8 w9 =>
    if v8 = 0 then
      some ((-2 : Int32), w9)
    else
      gd (isC w9 v2 6) <|
      bd (f_X6_isSold v2 w9) fun v12 w13 =>
      if v12 = 0 then
        gd (isC w13 v2 6) <|
        if (wI w13 v2 8) = 0 then
          some ((-3 : Int32), w13)
        else
          lt1 (sI w13 v2 9 x2) fun w19 =>
          some ((0 : Int32), w19)
      else
        some ((-3 : Int32), w13)
/-- WorldHall.hand(I)I -/
def f_X10_hand (x0 : Nat) (x1 : Int32) (w : xSt) : Option (Int32 × xSt) :=
  gd (isC w x0 10) <|
  gd (isC w (wR w x0 1) 5) <|
  bd (f_X5_find (wR w x0 1) x1 w) fun v2 w3 =>
  gd (v2 < 1000) <|
  if v2 = 0 then
    some ((-1 : Int32), w3)
  else
    gd (isC w3 v2 6) <|
    bd (f_X6_isSold v2 w3) fun v8 w9 =>
    if v8 = 0 then
      some ((-3 : Int32), w9)
    else
      gd (isC w9 v2 6) <|
      if (wI w9 v2 10) = 0 then
        gd (isC w9 x0 10) <|
        gd (isC w9 (wR w9 x0 7) 1) <|
        if (wI w9 x0 9) ≤ (wI w9 (wR w9 x0 7) 1) then
          lt1 (sI w9 v2 10 (1 : Int32)) fun w18 =>
          lt1 (sI w18 v2 8 (0 : Int32)) fun w21 =>
          bd (f_X6_lift v2 w21) fun _ w23 =>
          gd (isC w23 v2 6) <|
          some (wI w23 v2 9, w23)
        else
          some ((-3 : Int32), w9)
      else
        some ((-3 : Int32), w9)
/-- WorldHall.end(I)I -/
def f_X10_end (x0 : Nat) (x1 : Int32) (w : xSt) : Option (Int32 × xSt) :=
  bd (f_X10_isDay x1 w) fun v1 w2 =>
  if v1 = 0 then
    some ((-2 : Int32), w2)
  else
    gd (isC w2 x0 10) <|
    lt1 (sI w2 x0 9 x1) fun w6 =>
    some (wI w2 x0 9, w6)
/-- WorldHall.count(I)I -/
def f_X10_count (x0 : Nat) (x1 : Int32) (w : xSt) : Option (Int32 × xSt) :=
  if x1 = (0 : Int32) then
    gd (isC w x0 10) <|
    gd (isC w (wR w x0 0) 0) <|
    some (wI w (wR w x0 0) 2, w)
  else
    if x1 = (1 : Int32) then
      gd (isC w x0 10) <|
      gd (isC w (wR w x0 1) 5) <|
      some (wI w (wR w x0 1) 2, w)
    else
      if x1 = (2 : Int32) then
        gd (isC w x0 10) <|
        gd (isC w (wR w x0 1) 5) <|
        bd (f_X5_laidOnes (wR w x0 1) w) fun v9 w10 =>
        some (v9, w10)
      else
        if x1 = (3 : Int32) then
          gd (isC w x0 10) <|
          gd (isC w (wR w x0 1) 5) <|
          bd (f_X5_withGoods (wR w x0 1) w) fun v15 w16 =>
          some (v15, w16)
        else
          if x1 = (4 : Int32) then
            gd (isC w x0 10) <|
            gd (isC w (wR w x0 6) 3) <|
            some (wI w (wR w x0 6) 4, w)
          else
            if x1 = (5 : Int32) then
              gd (isC w x0 10) <|
              gd (isC w (wR w x0 6) 3) <|
              bd (f_X3_allMarks (wR w x0 6) w) fun v24 w25 =>
              some (v24, w25)
            else
              if x1 = (6 : Int32) then
                gd (isC w x0 10) <|
                gd (isC w (wR w x0 7) 1) <|
                some (wI w (wR w x0 7) 1, w)
              else
                if x1 = (7 : Int32) then
                  gd (isC w x0 10) <|
                  gd (isC w (wR w x0 7) 1) <|
                  some (wI w (wR w x0 7) 2, w)
                else
                  if x1 = (8 : Int32) then
                    gd (isC w x0 10) <|
                    gd (isC w (wR w x0 7) 1) <|
                    some (wI w (wR w x0 7) 3, w)
                  else
                    if x1 = (9 : Int32) then
                      gd (isC w x0 10) <|
                      gd (isC w (wR w x0 7) 1) <|
                      some (wI w (wR w x0 7) 4, w)
                    else
                      if x1 = (10 : Int32) then
                        gd (isC w x0 10) <|
                        gd (isC w (wR w x0 7) 1) <|
                        some (wI w (wR w x0 7) 5, w)
                      else
                        if x1 = (11 : Int32) then
                          gd (isC w x0 10) <|
                          gd (isC w (wR w x0 7) 1) <|
                          some (wI w (wR w x0 7) 6, w)
                        else
                          if x1 = (12 : Int32) then
                            gd (isC w x0 10) <|
                            gd (isC w (wR w x0 3) 7) <|
                            some (wI w (wR w x0 3) 1, w)
                          else
                            if x1 = (13 : Int32) then
                              gd (isC w x0 10) <|
                              gd (isC w (wR w x0 1) 5) <|
                              bd (f_X5_handedOver (wR w x0 1) w) fun v51 w52 =>
                              some (v51, w52)
                            else
                              some ((-1 : Int32), w)
def f_X11_init_l420 : Nat → Nat → Int32 → xSt → Option (Unit × xSt)
  | 0 => fun _ _ _ => none
  | n + 1 => fun x0 x3 w =>
    if (108 : Int32) ≤ x3 then
      some ((), w)
    else
      gd (isC w x0 11) <|
      gd (isC w (wR w x0 27) 20) <|
      gd (inR x3 (wN w (wR w x0 27))) <|
      lt1 (sI w (wR w x0 27) x3.toNatClampNeg (-1 : Int32)) fun w415 =>
      f_X11_init_l420 n x0 (x3 + (1 : Int32)) w415
theorem f_X11_init_l420_s (n : Nat) (x0 : Nat) (x3 : Int32) (w : xSt) : f_X11_init_l420 (n + 1) x0 x3 w = (
    if (108 : Int32) ≤ x3 then
      some ((), w)
    else
      gd (isC w x0 11) <|
      gd (isC w (wR w x0 27) 20) <|
      gd (inR x3 (wN w (wR w x0 27))) <|
      lt1 (sI w (wR w x0 27) x3.toNatClampNeg (-1 : Int32)) fun w415 =>
      f_X11_init_l420 n x0 (x3 + (1 : Int32)) w415) := rfl
def f_X11_init_l398 : Nat → Nat → Int32 → xSt → Option (Unit × xSt)
  | 0 => fun _ _ _ => none
  | n + 1 => fun x0 x3 w =>
    if (64 : Int32) ≤ x3 then
      f_X11_init_l420 xFu x0 (0 : Int32) w
    else
      gd (isC w x0 11) <|
      gd (isC w (wR w x0 3) 20) <|
      gd (inR x3 (wN w (wR w x0 3))) <|
      lt1 (sI w (wR w x0 3) x3.toNatClampNeg (50 : Int32)) fun w409 =>
      f_X11_init_l398 n x0 (x3 + (1 : Int32)) w409
theorem f_X11_init_l398_s (n : Nat) (x0 : Nat) (x3 : Int32) (w : xSt) : f_X11_init_l398 (n + 1) x0 x3 w = (
    if (64 : Int32) ≤ x3 then
      f_X11_init_l420 xFu x0 (0 : Int32) w
    else
      gd (isC w x0 11) <|
      gd (isC w (wR w x0 3) 20) <|
      gd (inR x3 (wN w (wR w x0 3))) <|
      lt1 (sI w (wR w x0 3) x3.toNatClampNeg (50 : Int32)) fun w409 =>
      f_X11_init_l398 n x0 (x3 + (1 : Int32)) w409) := rfl
/-- WorldHallModel.<init>(II)V -/
def f_X11_init (x0 : Nat) (x1 : Int32) (x2 : Int32) (w : xSt) : Option (Unit × xSt) :=
  gd (isC w x0 11) <|
  gd (wZ w + 1 < 1000) <|
  lt1 (wZ w + 1) fun q3 =>
  lt1 (nA w 20 (64 : Int32).toNatClampNeg) fun w5 =>
  lt1 (sR w5 x0 2 q3) fun w9 =>
  gd (wZ w9 + 1 < 1000) <|
  lt1 (wZ w9 + 1) fun q12 =>
  lt1 (nA w9 20 (64 : Int32).toNatClampNeg) fun w14 =>
  lt1 (sR w14 x0 3 q12) fun w19 =>
  lt1 (sI w19 x0 4 (1 : Int32)) fun w22 =>
  gd (wZ w22 + 1 < 1000) <|
  lt1 (wZ w22 + 1) fun q25 =>
  lt1 (nA w22 20 (9 : Int32).toNatClampNeg) fun w27 =>
  lt1 (sR w27 x0 6 q25) fun w32 =>
  gd (wZ w32 + 1 < 1000) <|
  lt1 (wZ w32 + 1) fun q35 =>
  lt1 (nA w32 20 (9 : Int32).toNatClampNeg) fun w37 =>
  lt1 (sR w37 x0 7 q35) fun w42 =>
  gd (wZ w42 + 1 < 1000) <|
  lt1 (wZ w42 + 1) fun q45 =>
  lt1 (nA w42 20 (9 : Int32).toNatClampNeg) fun w47 =>
  lt1 (sR w47 x0 8 q45) fun w52 =>
  gd (wZ w52 + 1 < 1000) <|
  lt1 (wZ w52 + 1) fun q55 =>
  lt1 (nA w52 20 (9 : Int32).toNatClampNeg) fun w57 =>
  lt1 (sR w57 x0 9 q55) fun w62 =>
  gd (wZ w62 + 1 < 1000) <|
  lt1 (wZ w62 + 1) fun q65 =>
  lt1 (nA w62 20 (9 : Int32).toNatClampNeg) fun w67 =>
  lt1 (sR w67 x0 10 q65) fun w72 =>
  gd (wZ w72 + 1 < 1000) <|
  lt1 (wZ w72 + 1) fun q75 =>
  lt1 (nA w72 20 (9 : Int32).toNatClampNeg) fun w77 =>
  lt1 (sR w77 x0 11 q75) fun w82 =>
  gd (wZ w82 + 1 < 1000) <|
  lt1 (wZ w82 + 1) fun q85 =>
  lt1 (nA w82 20 (9 : Int32).toNatClampNeg) fun w87 =>
  lt1 (sR w87 x0 12 q85) fun w92 =>
  gd (wZ w92 + 1 < 1000) <|
  lt1 (wZ w92 + 1) fun q95 =>
  lt1 (nA w92 20 (9 : Int32).toNatClampNeg) fun w97 =>
  lt1 (sR w97 x0 13 q95) fun w102 =>
  gd (wZ w102 + 1 < 1000) <|
  lt1 (wZ w102 + 1) fun q105 =>
  lt1 (nA w102 23 (9 : Int32).toNatClampNeg) fun w107 =>
  lt1 (sR w107 x0 14 q105) fun w112 =>
  gd (wZ w112 + 1 < 1000) <|
  lt1 (wZ w112 + 1) fun q115 =>
  lt1 (nA w112 23 (9 : Int32).toNatClampNeg) fun w117 =>
  lt1 (sR w117 x0 15 q115) fun w122 =>
  gd (wZ w122 + 1 < 1000) <|
  lt1 (wZ w122 + 1) fun q125 =>
  lt1 (nA w122 20 (120 : Int32).toNatClampNeg) fun w127 =>
  lt1 (sR w127 x0 16 q125) fun w132 =>
  gd (wZ w132 + 1 < 1000) <|
  lt1 (wZ w132 + 1) fun q135 =>
  lt1 (nA w132 20 (2 : Int32).toNatClampNeg) fun w137 =>
  lt1 (sR w137 x0 18 q135) fun w142 =>
  gd (wZ w142 + 1 < 1000) <|
  lt1 (wZ w142 + 1) fun q145 =>
  lt1 (nA w142 20 (12 : Int32).toNatClampNeg) fun w147 =>
  lt1 (sR w147 x0 19 q145) fun w152 =>
  gd (wZ w152 + 1 < 1000) <|
  lt1 (wZ w152 + 1) fun q155 =>
  lt1 (nA w152 20 (36 : Int32).toNatClampNeg) fun w157 =>
  lt1 (sR w157 x0 20 q155) fun w162 =>
  gd (wZ w162 + 1 < 1000) <|
  lt1 (wZ w162 + 1) fun q165 =>
  lt1 (nA w162 20 (12 : Int32).toNatClampNeg) fun w167 =>
  lt1 (sR w167 x0 21 q165) fun w172 =>
  gd (wZ w172 + 1 < 1000) <|
  lt1 (wZ w172 + 1) fun q175 =>
  lt1 (nA w172 20 (48 : Int32).toNatClampNeg) fun w177 =>
  lt1 (sR w177 x0 22 q175) fun w182 =>
  gd (wZ w182 + 1 < 1000) <|
  lt1 (wZ w182 + 1) fun q185 =>
  lt1 (nA w182 20 (60 : Int32).toNatClampNeg) fun w187 =>
  lt1 (sR w187 x0 23 q185) fun w192 =>
  gd (wZ w192 + 1 < 1000) <|
  lt1 (wZ w192 + 1) fun q195 =>
  lt1 (nA w192 20 (12 : Int32).toNatClampNeg) fun w197 =>
  lt1 (sR w197 x0 25 q195) fun w202 =>
  gd (wZ w202 + 1 < 1000) <|
  lt1 (wZ w202 + 1) fun q205 =>
  lt1 (nA w202 20 (12 : Int32).toNatClampNeg) fun w207 =>
  lt1 (sR w207 x0 26 q205) fun w212 =>
  gd (wZ w212 + 1 < 1000) <|
  lt1 (wZ w212 + 1) fun q215 =>
  lt1 (nA w212 20 (108 : Int32).toNatClampNeg) fun w217 =>
  lt1 (sR w217 x0 27 q215) fun w222 =>
  gd (wZ w222 + 1 < 1000) <|
  lt1 (wZ w222 + 1) fun q225 =>
  lt1 (nA w222 20 (108 : Int32).toNatClampNeg) fun w227 =>
  lt1 (sR w227 x0 28 q225) fun w232 =>
  lt1 (sI w232 x0 29 (1000 : Int32)) fun w235 =>
  gd (wZ w235 + 1 < 1000) <|
  lt1 (wZ w235 + 1) fun q238 =>
  lt1 (nA w235 20 (10 : Int32).toNatClampNeg) fun w240 =>
  lt1 (sR w240 x0 37 q238) fun w245 =>
  lt1 (sI w245 x0 39 (180 : Int32)) fun w248 =>
  gd (wZ w248 + 1 < 1000) <|
  lt1 (wZ w248 + 1) fun q251 =>
  lt1 (nA w248 23 (64 : Int32).toNatClampNeg) fun w253 =>
  lt1 (sR w253 x0 40 q251) fun w258 =>
  gd (wZ w258 + 1 < 1000) <|
  lt1 (wZ w258 + 1) fun q261 =>
  lt1 (nA w258 20 (64 : Int32).toNatClampNeg) fun w263 =>
  lt1 (sR w263 x0 41 q261) fun w268 =>
  gd (wZ w268 + 1 < 1000) <|
  lt1 (wZ w268 + 1) fun q271 =>
  lt1 (nA w268 20 (512 : Int32).toNatClampNeg) fun w273 =>
  lt1 (sR w273 x0 43 q271) fun w278 =>
  gd (wZ w278 + 1 < 1000) <|
  lt1 (wZ w278 + 1) fun q281 =>
  lt1 (nA w278 23 (512 : Int32).toNatClampNeg) fun w283 =>
  lt1 (sR w283 x0 44 q281) fun w288 =>
  gd (wZ w288 + 1 < 1000) <|
  lt1 (wZ w288 + 1) fun q291 =>
  lt1 (nA w288 20 (18 : Int32).toNatClampNeg) fun w293 =>
  gd (inR (0 : Int32) (wN w293 q291)) <|
  lt1 (sI w293 q291 (0 : Int32).toNatClampNeg (103 : Int32)) fun w297 =>
  gd (inR (1 : Int32) (wN w297 q291)) <|
  lt1 (sI w297 q291 (1 : Int32).toNatClampNeg (111 : Int32)) fun w301 =>
  gd (inR (2 : Int32) (wN w301 q291)) <|
  lt1 (sI w301 q291 (2 : Int32).toNatClampNeg (108 : Int32)) fun w305 =>
  gd (inR (3 : Int32) (wN w305 q291)) <|
  lt1 (sI w305 q291 (3 : Int32).toNatClampNeg (100 : Int32)) fun w309 =>
  gd (inR (4 : Int32) (wN w309 q291)) <|
  lt1 (sI w309 q291 (4 : Int32).toNatClampNeg (0 : Int32)) fun w313 =>
  gd (inR (5 : Int32) (wN w313 q291)) <|
  lt1 (sI w313 q291 (5 : Int32).toNatClampNeg (0 : Int32)) fun w317 =>
  gd (inR (6 : Int32) (wN w317 q291)) <|
  lt1 (sI w317 q291 (6 : Int32).toNatClampNeg (115 : Int32)) fun w321 =>
  gd (inR (7 : Int32) (wN w321 q291)) <|
  lt1 (sI w321 q291 (7 : Int32).toNatClampNeg (105 : Int32)) fun w325 =>
  gd (inR (8 : Int32) (wN w325 q291)) <|
  lt1 (sI w325 q291 (8 : Int32).toNatClampNeg (108 : Int32)) fun w329 =>
  gd (inR (9 : Int32) (wN w329 q291)) <|
  lt1 (sI w329 q291 (9 : Int32).toNatClampNeg (118 : Int32)) fun w333 =>
  gd (inR (10 : Int32) (wN w333 q291)) <|
  lt1 (sI w333 q291 (10 : Int32).toNatClampNeg (101 : Int32)) fun w337 =>
  gd (inR (11 : Int32) (wN w337 q291)) <|
  lt1 (sI w337 q291 (11 : Int32).toNatClampNeg (114 : Int32)) fun w341 =>
  gd (inR (12 : Int32) (wN w341 q291)) <|
  lt1 (sI w341 q291 (12 : Int32).toNatClampNeg (98 : Int32)) fun w345 =>
  gd (inR (13 : Int32) (wN w345 q291)) <|
  lt1 (sI w345 q291 (13 : Int32).toNatClampNeg (114 : Int32)) fun w349 =>
  gd (inR (14 : Int32) (wN w349 q291)) <|
  lt1 (sI w349 q291 (14 : Int32).toNatClampNeg (111 : Int32)) fun w353 =>
  gd (inR (15 : Int32) (wN w353 q291)) <|
  lt1 (sI w353 q291 (15 : Int32).toNatClampNeg (110 : Int32)) fun w357 =>
  gd (inR (16 : Int32) (wN w357 q291)) <|
  lt1 (sI w357 q291 (16 : Int32).toNatClampNeg (122 : Int32)) fun w361 =>
  gd (inR (17 : Int32) (wN w361 q291)) <|
  lt1 (sI w361 q291 (17 : Int32).toNatClampNeg (101 : Int32)) fun w365 =>
  lt1 (sR w365 x0 48 q291) fun w387 =>
  gd (wZ w387 + 1 < 1000) <|
  lt1 (wZ w387 + 1) fun q390 =>
  lt1 (nA w387 20 (64 : Int32).toNatClampNeg) fun w392 =>
  lt1 (sR w392 x0 49 q390) fun w397 =>
  lt1 (sI w397 x0 0 ((3 : Int32) + (((x1 - x1 / (6 : Int32) * (6 : Int32)) + (6 : Int32)) - ((x1 - x1 / (6 : Int32) * (6 : Int32)) + (6 : Int32)) / (6 : Int32) * (6 : Int32)))) fun w400 =>
  lt1 (sI w400 x0 1 ((3 : Int32) + (((x2 - x2 / (6 : Int32) * (6 : Int32)) + (6 : Int32)) - ((x2 - x2 / (6 : Int32) * (6 : Int32)) + (6 : Int32)) / (6 : Int32) * (6 : Int32)))) fun w403 =>
  f_X11_init_l398 xFu x0 (0 : Int32) w403
/-- WorldHallModel.in(III)Z -/
def f_X11_in (x0 : Int32) (x1 : Int32) (x2 : Int32) (w : xSt) : Option (Int32 × xSt) :=
  if x0 < x1 then
    some ((0 : Int32), w)
  else
    if x2 < x0 then
      some ((0 : Int32), w)
    else
      some ((1 : Int32), w)
/-- WorldHallModel.isCell(I)Z -/
def f_X11_isCell (x0 : Nat) (x1 : Int32) (w : xSt) : Option (Int32 × xSt) :=
  gd (isC w x0 11) <|
  bd (f_X11_in x1 (0 : Int32) (((wI w x0 0) * (wI w x0 1)) - (1 : Int32)) w) fun v2 w3 =>
  gd (v2 = 0 ∨ v2 = 1) <|
  some (v2, w3)
/-- WorldHallModel.isStand(I)Z -/
def f_X11_isStand (x0 : Nat) (x1 : Int32) (w : xSt) : Option (Int32 × xSt) :=
  gd (isC w x0 11) <|
  bd (f_X11_in x1 (0 : Int32) ((wI w x0 5) - (1 : Int32)) w) fun v2 w3 =>
  gd (v2 = 0 ∨ v2 = 1) <|
  some (v2, w3)
/-- WorldHallModel.isLaid(I)Z -/
def f_X11_isLaid (x0 : Nat) (x1 : Int32) (w : xSt) : Option (Int32 × xSt) :=
  gd (isC w x0 11) <|
  bd (f_X11_isStand x0 x1 w) fun v1 w2 =>
  if v1 = 0 then
    some ((0 : Int32), w2)
  else
    gd (isC w2 x0 11) <|
    gd (isC w2 (wR w2 x0 12) 20) <|
    gd (inR x1 (wN w2 (wR w2 x0 12))) <|
    if (wI w2 (wR w2 x0 12) x1.toNatClampNeg) = (-1 : Int32) then
      some ((0 : Int32), w2)
    else
      some ((1 : Int32), w2)
/-- WorldHallModel.isEdge(I)Z -/
def f_X11_isEdge (x0 : Nat) (x1 : Int32) (w : xSt) : Option (Int32 × xSt) :=
  gd (isC w x0 11) <|
  gd (¬ (wI w x0 0) = 0) <|
  gd (¬ (wI w x0 0) = 0) <|
  if (x1 - x1 / (wI w x0 0) * (wI w x0 0)) = 0 then
    some ((1 : Int32), w)
  else
    if (x1 / (wI w x0 0)) = 0 then
      some ((1 : Int32), w)
    else
      if (x1 - x1 / (wI w x0 0) * (wI w x0 0)) = ((wI w x0 0) - (1 : Int32)) then
        some ((1 : Int32), w)
      else
        if (x1 / (wI w x0 0)) = ((wI w x0 1) - (1 : Int32)) then
          some ((1 : Int32), w)
        else
          some ((0 : Int32), w)
def f_X11_laid_l4 : Nat → Nat → Int32 → Int32 → xSt → Option (Int32 × xSt)
  | 0 => fun _ _ _ _ => none
  | n + 1 => fun x0 x1 x2 w =>
    gd (isC w x0 11) <|
    if (wI w x0 5) ≤ x2 then
      some (x1, w)
    else
      gd (isC w (wR w x0 12) 20) <|
      gd (inR x2 (wN w (wR w x0 12))) <|
      if (wI w (wR w x0 12) x2.toNatClampNeg) = (-1 : Int32) then
        f_X11_laid_l4 n x0 (x1 + (0 : Int32)) (x2 + (1 : Int32)) w
      else
        f_X11_laid_l4 n x0 (x1 + (1 : Int32)) (x2 + (1 : Int32)) w
theorem f_X11_laid_l4_s (n : Nat) (x0 : Nat) (x1 : Int32) (x2 : Int32) (w : xSt) : f_X11_laid_l4 (n + 1) x0 x1 x2 w = (
    gd (isC w x0 11) <|
    if (wI w x0 5) ≤ x2 then
      some (x1, w)
    else
      gd (isC w (wR w x0 12) 20) <|
      gd (inR x2 (wN w (wR w x0 12))) <|
      if (wI w (wR w x0 12) x2.toNatClampNeg) = (-1 : Int32) then
        f_X11_laid_l4 n x0 (x1 + (0 : Int32)) (x2 + (1 : Int32)) w
      else
        f_X11_laid_l4 n x0 (x1 + (1 : Int32)) (x2 + (1 : Int32)) w) := rfl
/-- WorldHallModel.laid()I -/
def f_X11_laid (x0 : Nat) (w : xSt) : Option (Int32 × xSt) :=
  f_X11_laid_l4 xFu x0 (0 : Int32) (0 : Int32) w
def f_X11_ins_l4 : Nat → Nat → Int32 → Int32 → xSt → Option (Int32 × xSt)
  | 0 => fun _ _ _ _ => none
  | n + 1 => fun x0 x1 x2 w =>
    gd (isC w x0 11) <|
    if (wI w x0 5) ≤ x2 then
      some (x1, w)
    else
      gd (isC w (wR w x0 14) 23) <|
      gd (inR x2 (wN w (wR w x0 14))) <|
      if (wI w (wR w x0 14) x2.toNatClampNeg) = 0 then
        f_X11_ins_l4 n x0 (x1 + (0 : Int32)) (x2 + (1 : Int32)) w
      else
        f_X11_ins_l4 n x0 (x1 + (1 : Int32)) (x2 + (1 : Int32)) w
theorem f_X11_ins_l4_s (n : Nat) (x0 : Nat) (x1 : Int32) (x2 : Int32) (w : xSt) : f_X11_ins_l4 (n + 1) x0 x1 x2 w = (
    gd (isC w x0 11) <|
    if (wI w x0 5) ≤ x2 then
      some (x1, w)
    else
      gd (isC w (wR w x0 14) 23) <|
      gd (inR x2 (wN w (wR w x0 14))) <|
      if (wI w (wR w x0 14) x2.toNatClampNeg) = 0 then
        f_X11_ins_l4 n x0 (x1 + (0 : Int32)) (x2 + (1 : Int32)) w
      else
        f_X11_ins_l4 n x0 (x1 + (1 : Int32)) (x2 + (1 : Int32)) w) := rfl
/-- WorldHallModel.ins()I -/
def f_X11_ins (x0 : Nat) (w : xSt) : Option (Int32 × xSt) :=
  f_X11_ins_l4 xFu x0 (0 : Int32) (0 : Int32) w
def f_X11_cell_b35 (x0 : Nat) (x1 : Int32) (x2 : Int32) (w : xSt) : Option (Int32 × xSt) :=
  gd (isC w x0 11) <|
  bd (f_X11_laid x0 w) fun v16 w17 =>
  if v16 ≤ 0 then
    gd (isC w17 x0 11) <|
    gd (isC w17 (wR w17 x0 2) 20) <|
    gd (inR x1 (wN w17 (wR w17 x0 2))) <|
    lt1 (sI w17 (wR w17 x0 2) x1.toNatClampNeg x2) fun w24 =>
    some (wI w17 (wR w17 x0 2) x1.toNatClampNeg, w24)
  else
    some ((-3 : Int32), w17)
/-- WorldHallModel.cell(II)I -/
def f_X11_cell (x0 : Nat) (x1 : Int32) (x2 : Int32) (w : xSt) : Option (Int32 × xSt) :=
  gd (isC w x0 11) <|
  bd (f_X11_isCell x0 x1 w) fun v1 w2 =>
  if v1 = 0 then
    some ((-1 : Int32), w2)
  else
    bd (f_X11_in x2 (0 : Int32) (3 : Int32) w2) fun v6 w7 =>
    if v6 = 0 then
      some ((-2 : Int32), w7)
    else
      if x2 = (1 : Int32) then
        gd (isC w7 x0 11) <|
        bd (f_X11_isEdge x0 x1 w7) fun v11 w12 =>
        if v11 = 0 then
          some ((-2 : Int32), w12)
        else
          f_X11_cell_b35 x0 x1 x2 w12
      else
        f_X11_cell_b35 x0 x1 x2 w7
/-- WorldHallModel.bears(II)I -/
def f_X11_bears (x0 : Nat) (x1 : Int32) (x2 : Int32) (w : xSt) : Option (Int32 × xSt) :=
  gd (isC w x0 11) <|
  bd (f_X11_isCell x0 x1 w) fun v1 w2 =>
  if v1 = 0 then
    some ((-1 : Int32), w2)
  else
    bd (f_X11_in x2 (0 : Int32) (99 : Int32) w2) fun v6 w7 =>
    if v6 = 0 then
      some ((-2 : Int32), w7)
    else
      gd (isC w7 x0 11) <|
      bd (f_X11_laid x0 w7) fun v10 w11 =>
      if v10 ≤ 0 then
        gd (isC w11 x0 11) <|
        gd (isC w11 (wR w11 x0 3) 20) <|
        gd (inR x1 (wN w11 (wR w11 x0 3))) <|
        lt1 (sI w11 (wR w11 x0 3) x1.toNatClampNeg x2) fun w18 =>
        some (wI w11 (wR w11 x0 3) x1.toNatClampNeg, w18)
      else
        some ((-3 : Int32), w11)
/-- WorldHallModel.aisle(I)I -/
def f_X11_aisle (x0 : Nat) (x1 : Int32) (w : xSt) : Option (Int32 × xSt) :=
  bd (f_X11_in x1 (0 : Int32) (3 : Int32) w) fun v1 w2 =>
  if v1 = 0 then
    some ((-2 : Int32), w2)
  else
    gd (isC w2 x0 11) <|
    bd (f_X11_laid x0 w2) fun v5 w6 =>
    if v5 ≤ 0 then
      gd (isC w6 x0 11) <|
      lt1 (sI w6 x0 4 x1) fun w11 =>
      some (wI w6 x0 4, w11)
    else
      some ((-3 : Int32), w6)
/-- WorldHallModel.stand(IIIIII)I -/
def f_X11_stand (x0 : Nat) (x1 : Int32) (x2 : Int32) (x3 : Int32) (x4 : Int32) (x5 : Int32) (x6 : Int32) (w : xSt) : Option (Int32 × xSt) :=
  bd (f_X11_in x1 (0 : Int32) (4 : Int32) w) fun v1 w2 =>
  if v1 = 0 then
    some ((-2 : Int32), w2)
  else
    bd (f_X11_in x2 (0 : Int32) (7 : Int32) w2) fun v5 w6 =>
    if v5 = 0 then
      some ((-2 : Int32), w6)
    else
      bd (f_X11_in x3 (0 : Int32) (9 : Int32) w6) fun v9 w10 =>
      if v9 = 0 then
        some ((-2 : Int32), w10)
      else
        bd (f_X11_in x4 (1 : Int32) (4 : Int32) w10) fun v13 w14 =>
        if v13 = 0 then
          some ((-2 : Int32), w14)
        else
          bd (f_X11_in x5 (1 : Int32) (4 : Int32) w14) fun v17 w18 =>
          if v17 = 0 then
            some ((-2 : Int32), w18)
          else
            bd (f_X11_in x6 (0 : Int32) (99 : Int32) w18) fun v21 w22 =>
            if v21 = 0 then
              some ((-2 : Int32), w22)
            else
              gd (isC w22 x0 11) <|
              if (wI w22 x0 5) = (9 : Int32) then
                some ((-4 : Int32), w22)
              else
                gd (isC w22 (wR w22 x0 6) 20) <|
                gd (inR (wI w22 x0 5) (wN w22 (wR w22 x0 6))) <|
                lt1 (sI w22 (wR w22 x0 6) (wI w22 x0 5).toNatClampNeg x1) fun w29 =>
                gd (isC w29 (wR w29 x0 7) 20) <|
                gd (inR (wI w29 x0 5) (wN w29 (wR w29 x0 7))) <|
                lt1 (sI w29 (wR w29 x0 7) (wI w29 x0 5).toNatClampNeg x2) fun w34 =>
                gd (isC w34 (wR w34 x0 8) 20) <|
                gd (inR (wI w34 x0 5) (wN w34 (wR w34 x0 8))) <|
                lt1 (sI w34 (wR w34 x0 8) (wI w34 x0 5).toNatClampNeg x3) fun w39 =>
                gd (isC w39 (wR w39 x0 9) 20) <|
                gd (inR (wI w39 x0 5) (wN w39 (wR w39 x0 9))) <|
                lt1 (sI w39 (wR w39 x0 9) (wI w39 x0 5).toNatClampNeg x4) fun w44 =>
                gd (isC w44 (wR w44 x0 10) 20) <|
                gd (inR (wI w44 x0 5) (wN w44 (wR w44 x0 10))) <|
                lt1 (sI w44 (wR w44 x0 10) (wI w44 x0 5).toNatClampNeg x5) fun w49 =>
                gd (isC w49 (wR w49 x0 11) 20) <|
                gd (inR (wI w49 x0 5) (wN w49 (wR w49 x0 11))) <|
                lt1 (sI w49 (wR w49 x0 11) (wI w49 x0 5).toNatClampNeg x6) fun w54 =>
                gd (isC w54 (wR w54 x0 12) 20) <|
                gd (inR (wI w54 x0 5) (wN w54 (wR w54 x0 12))) <|
                lt1 (sI w54 (wR w54 x0 12) (wI w54 x0 5).toNatClampNeg (-1 : Int32)) fun w59 =>
                gd (isC w59 (wR w59 x0 13) 20) <|
                gd (inR (wI w59 x0 5) (wN w59 (wR w59 x0 13))) <|
                lt1 (sI w59 (wR w59 x0 13) (wI w59 x0 5).toNatClampNeg (-1 : Int32)) fun w64 =>
                lt1 (sI w64 x0 5 ((wI w64 x0 5) + (1 : Int32))) fun w67 =>
                some ((wI w67 x0 5) - (1 : Int32), w67)
/-- WorldHallModel.covers(III)Z -/
def f_X11_covers (x0 : Nat) (x1 : Int32) (x2 : Int32) (x3 : Int32) (w : xSt) : Option (Int32 × xSt) :=
  gd (isC w x0 11) <|
  gd (¬ (wI w x0 0) = 0) <|
  gd (¬ (wI w x0 0) = 0) <|
  gd (¬ (wI w x0 0) = 0) <|
  gd (isC w (wR w x0 9) 20) <|
  gd (inR x1 (wN w (wR w x0 9))) <|
  bd (f_X11_in (x3 - x3 / (wI w x0 0) * (wI w x0 0)) (x2 - x2 / (wI w x0 0) * (wI w x0 0)) (((x2 - x2 / (wI w x0 0) * (wI w x0 0)) + (wI w (wR w x0 9) x1.toNatClampNeg)) - (1 : Int32)) w) fun v7 w8 =>
  if v7 = 0 then
    some ((0 : Int32), w8)
  else
    gd (isC w8 x0 11) <|
    gd (¬ (wI w8 x0 0) = 0) <|
    gd (¬ (wI w8 x0 0) = 0) <|
    gd (¬ (wI w8 x0 0) = 0) <|
    gd (isC w8 (wR w8 x0 10) 20) <|
    gd (inR x1 (wN w8 (wR w8 x0 10))) <|
    bd (f_X11_in (x3 / (wI w8 x0 0)) (x2 / (wI w8 x0 0)) (((x2 / (wI w8 x0 0)) + (wI w8 (wR w8 x0 10) x1.toNatClampNeg)) - (1 : Int32)) w8) fun v17 w18 =>
    if v17 = 0 then
      some ((0 : Int32), w18)
    else
      some ((1 : Int32), w18)
def f_X11_standOn_l2 : Nat → Nat → Int32 → Int32 → xSt → Option (Int32 × xSt)
  | 0 => fun _ _ _ _ => none
  | n + 1 => fun x0 x1 x2 w =>
    gd (isC w x0 11) <|
    if (wI w x0 5) ≤ x2 then
      some ((-1 : Int32), w)
    else
      gd (isC w (wR w x0 12) 20) <|
      gd (inR x2 (wN w (wR w x0 12))) <|
      if (wI w (wR w x0 12) x2.toNatClampNeg) = (-1 : Int32) then
        f_X11_standOn_l2 n x0 x1 (x2 + (1 : Int32)) w
      else
        bd (f_X11_covers x0 x2 (wI w (wR w x0 12) x2.toNatClampNeg) x1 w) fun v6 w7 =>
        if v6 = 0 then
          f_X11_standOn_l2 n x0 x1 (x2 + (1 : Int32)) w7
        else
          some (x2, w7)
theorem f_X11_standOn_l2_s (n : Nat) (x0 : Nat) (x1 : Int32) (x2 : Int32) (w : xSt) : f_X11_standOn_l2 (n + 1) x0 x1 x2 w = (
    gd (isC w x0 11) <|
    if (wI w x0 5) ≤ x2 then
      some ((-1 : Int32), w)
    else
      gd (isC w (wR w x0 12) 20) <|
      gd (inR x2 (wN w (wR w x0 12))) <|
      if (wI w (wR w x0 12) x2.toNatClampNeg) = (-1 : Int32) then
        f_X11_standOn_l2 n x0 x1 (x2 + (1 : Int32)) w
      else
        bd (f_X11_covers x0 x2 (wI w (wR w x0 12) x2.toNatClampNeg) x1 w) fun v6 w7 =>
        if v6 = 0 then
          f_X11_standOn_l2 n x0 x1 (x2 + (1 : Int32)) w7
        else
          some (x2, w7)) := rfl
/-- WorldHallModel.standOn(I)I -/
def f_X11_standOn (x0 : Nat) (x1 : Int32) (w : xSt) : Option (Int32 × xSt) :=
  f_X11_standOn_l2 xFu x0 x1 (0 : Int32) w
def f_X11_isBeside_b96 (x0 : Nat) (x1 : Int32) (x2 : Int32) (s0 : Int32) (w : xSt) : Option (Int32 × xSt) :=
  if s0 = 0 then
    gd (isC w x0 11) <|
    if ((wI w x0 0) * ((wI w x0 1) - (1 : Int32))) ≤ x1 then
      some ((0 : Int32), w)
    else
      gd (isC w (wR w x0 2) 20) <|
      gd (inR (x1 + (wI w x0 0)) (wN w (wR w x0 2))) <|
      if (wI w (wR w x0 2) (x1 + (wI w x0 0)).toNatClampNeg) = x2 then
        some ((1 : Int32), w)
      else
        some ((0 : Int32), w)
  else
    some ((1 : Int32), w)
def f_X11_isBeside_b63 (x0 : Nat) (x1 : Int32) (x2 : Int32) (s0 : Int32) (w : xSt) : Option (Int32 × xSt) :=
  if s0 = 0 then
    gd (isC w x0 11) <|
    if x1 < (wI w x0 0) then
      f_X11_isBeside_b96 x0 x1 x2 (0 : Int32) w
    else
      gd (isC w (wR w x0 2) 20) <|
      gd (inR (x1 - (wI w x0 0)) (wN w (wR w x0 2))) <|
      if (wI w (wR w x0 2) (x1 - (wI w x0 0)).toNatClampNeg) = x2 then
        f_X11_isBeside_b96 x0 x1 x2 (1 : Int32) w
      else
        f_X11_isBeside_b96 x0 x1 x2 (0 : Int32) w
  else
    f_X11_isBeside_b96 x0 x1 x2 (1 : Int32) w
def f_X11_isBeside_b26 (x0 : Nat) (x1 : Int32) (x2 : Int32) (s0 : Int32) (w : xSt) : Option (Int32 × xSt) :=
  if s0 = 0 then
    gd (isC w x0 11) <|
    gd (¬ (wI w x0 0) = 0) <|
    if ((wI w x0 0) - (1 : Int32)) ≤ (x1 - x1 / (wI w x0 0) * (wI w x0 0)) then
      f_X11_isBeside_b63 x0 x1 x2 (0 : Int32) w
    else
      gd (isC w (wR w x0 2) 20) <|
      gd (inR (x1 + (1 : Int32)) (wN w (wR w x0 2))) <|
      if (wI w (wR w x0 2) (x1 + (1 : Int32)).toNatClampNeg) = x2 then
        f_X11_isBeside_b63 x0 x1 x2 (1 : Int32) w
      else
        f_X11_isBeside_b63 x0 x1 x2 (0 : Int32) w
  else
    f_X11_isBeside_b63 x0 x1 x2 (1 : Int32) w
/-- WorldHallModel.isBeside(II)Z -/
def f_X11_isBeside (x0 : Nat) (x1 : Int32) (x2 : Int32) (w : xSt) : Option (Int32 × xSt) :=
  gd (isC w x0 11) <|
  gd (¬ (wI w x0 0) = 0) <|
  if (x1 - x1 / (wI w x0 0) * (wI w x0 0)) ≤ 0 then
    f_X11_isBeside_b26 x0 x1 x2 (0 : Int32) w
  else
    gd (isC w (wR w x0 2) 20) <|
    gd (inR (x1 - (1 : Int32)) (wN w (wR w x0 2))) <|
    if (wI w (wR w x0 2) (x1 - (1 : Int32)).toNatClampNeg) = x2 then
      f_X11_isBeside_b26 x0 x1 x2 (1 : Int32) w
    else
      f_X11_isBeside_b26 x0 x1 x2 (0 : Int32) w
def f_X11_gap_b20 (s0 : Int32) (w : xSt) : Option (Int32 × xSt) :=
  if 0 ≤ s0 then
    some (s0, w)
  else
    some ((0 : Int32), w)
/-- WorldHallModel.gap(IIII)I -/
def f_X11_gap (x0 : Int32) (x1 : Int32) (x2 : Int32) (x3 : Int32) (w : xSt) : Option (Int32 × xSt) :=
  if x0 < (x2 + x3) then
    f_X11_gap_b20 ((x2 - x0) - x1) w
  else
    f_X11_gap_b20 ((x0 - x2) - x3) w
/-- WorldHallModel.isNear(III)Z -/
def f_X11_isNear (x0 : Nat) (x1 : Int32) (x2 : Int32) (x3 : Int32) (w : xSt) : Option (Int32 × xSt) :=
  gd (isC w x0 11) <|
  gd (¬ (wI w x0 0) = 0) <|
  gd (isC w (wR w x0 9) 20) <|
  gd (inR x1 (wN w (wR w x0 9))) <|
  gd (isC w (wR w x0 12) 20) <|
  gd (inR x3 (wN w (wR w x0 12))) <|
  gd (¬ (wI w x0 0) = 0) <|
  gd (inR x3 (wN w (wR w x0 9))) <|
  bd (f_X11_gap (x2 - x2 / (wI w x0 0) * (wI w x0 0)) (wI w (wR w x0 9) x1.toNatClampNeg) ((wI w (wR w x0 12) x3.toNatClampNeg) - (wI w (wR w x0 12) x3.toNatClampNeg) / (wI w x0 0) * (wI w x0 0)) (wI w (wR w x0 9) x3.toNatClampNeg) w) fun v9 w10 =>
  gd (isC w10 x0 11) <|
  gd (¬ (wI w10 x0 0) = 0) <|
  gd (isC w10 (wR w10 x0 10) 20) <|
  gd (inR x1 (wN w10 (wR w10 x0 10))) <|
  gd (isC w10 (wR w10 x0 12) 20) <|
  gd (inR x3 (wN w10 (wR w10 x0 12))) <|
  gd (¬ (wI w10 x0 0) = 0) <|
  gd (inR x3 (wN w10 (wR w10 x0 10))) <|
  bd (f_X11_gap (x2 / (wI w10 x0 0)) (wI w10 (wR w10 x0 10) x1.toNatClampNeg) ((wI w10 (wR w10 x0 12) x3.toNatClampNeg) / (wI w10 x0 0)) (wI w10 (wR w10 x0 10) x3.toNatClampNeg) w10) fun v20 w21 =>
  gd (isC w21 x0 11) <|
  if (wI w21 x0 4) ≤ v9 then
    some ((0 : Int32), w21)
  else
    if (wI w21 x0 4) ≤ v20 then
      some ((0 : Int32), w21)
    else
      some ((1 : Int32), w21)
def f_X11_hasFellow_l2 : Nat → Nat → Int32 → Int32 → Int32 → xSt → Option (Int32 × xSt)
  | 0 => fun _ _ _ _ _ => none
  | n + 1 => fun x0 x1 x2 x3 w =>
    gd (isC w x0 11) <|
    if (wI w x0 5) ≤ x3 then
      some ((0 : Int32), w)
    else
      if x3 = x1 then
        f_X11_hasFellow_l2 n x0 x1 x2 (x3 + (1 : Int32)) w
      else
        gd (isC w (wR w x0 12) 20) <|
        gd (inR x3 (wN w (wR w x0 12))) <|
        if (wI w (wR w x0 12) x3.toNatClampNeg) = (-1 : Int32) then
          f_X11_hasFellow_l2 n x0 x1 x2 (x3 + (1 : Int32)) w
        else
          gd (isC w (wR w x0 7) 20) <|
          gd (inR x3 (wN w (wR w x0 7))) <|
          gd (inR x1 (wN w (wR w x0 7))) <|
          if (wI w (wR w x0 7) x3.toNatClampNeg) = (wI w (wR w x0 7) x1.toNatClampNeg) then
            gd (isC w (wR w x0 8) 20) <|
            gd (inR x3 (wN w (wR w x0 8))) <|
            gd (inR x1 (wN w (wR w x0 8))) <|
            if (wI w (wR w x0 8) x3.toNatClampNeg) = (wI w (wR w x0 8) x1.toNatClampNeg) then
              if x2 = 0 then
                some ((1 : Int32), w)
              else
                gd (isC w (wR w x0 6) 20) <|
                gd (inR x3 (wN w (wR w x0 6))) <|
                if (wI w (wR w x0 6) x3.toNatClampNeg) = (4 : Int32) then
                  some ((1 : Int32), w)
                else
                  f_X11_hasFellow_l2 n x0 x1 x2 (x3 + (1 : Int32)) w
            else
              f_X11_hasFellow_l2 n x0 x1 x2 (x3 + (1 : Int32)) w
          else
            f_X11_hasFellow_l2 n x0 x1 x2 (x3 + (1 : Int32)) w
theorem f_X11_hasFellow_l2_s (n : Nat) (x0 : Nat) (x1 : Int32) (x2 : Int32) (x3 : Int32) (w : xSt) : f_X11_hasFellow_l2 (n + 1) x0 x1 x2 x3 w = (
    gd (isC w x0 11) <|
    if (wI w x0 5) ≤ x3 then
      some ((0 : Int32), w)
    else
      if x3 = x1 then
        f_X11_hasFellow_l2 n x0 x1 x2 (x3 + (1 : Int32)) w
      else
        gd (isC w (wR w x0 12) 20) <|
        gd (inR x3 (wN w (wR w x0 12))) <|
        if (wI w (wR w x0 12) x3.toNatClampNeg) = (-1 : Int32) then
          f_X11_hasFellow_l2 n x0 x1 x2 (x3 + (1 : Int32)) w
        else
          gd (isC w (wR w x0 7) 20) <|
          gd (inR x3 (wN w (wR w x0 7))) <|
          gd (inR x1 (wN w (wR w x0 7))) <|
          if (wI w (wR w x0 7) x3.toNatClampNeg) = (wI w (wR w x0 7) x1.toNatClampNeg) then
            gd (isC w (wR w x0 8) 20) <|
            gd (inR x3 (wN w (wR w x0 8))) <|
            gd (inR x1 (wN w (wR w x0 8))) <|
            if (wI w (wR w x0 8) x3.toNatClampNeg) = (wI w (wR w x0 8) x1.toNatClampNeg) then
              if x2 = 0 then
                some ((1 : Int32), w)
              else
                gd (isC w (wR w x0 6) 20) <|
                gd (inR x3 (wN w (wR w x0 6))) <|
                if (wI w (wR w x0 6) x3.toNatClampNeg) = (4 : Int32) then
                  some ((1 : Int32), w)
                else
                  f_X11_hasFellow_l2 n x0 x1 x2 (x3 + (1 : Int32)) w
            else
              f_X11_hasFellow_l2 n x0 x1 x2 (x3 + (1 : Int32)) w
          else
            f_X11_hasFellow_l2 n x0 x1 x2 (x3 + (1 : Int32)) w) := rfl
/-- WorldHallModel.hasFellow(IZ)Z -/
def f_X11_hasFellow (x0 : Nat) (x1 : Int32) (x2 : Int32) (w : xSt) : Option (Int32 × xSt) :=
  f_X11_hasFellow_l2 xFu x0 x1 x2 (0 : Int32) w
def f_X11_needsMore_b101 (k18 : Nat → Int32 → Int32 → Int32 → Int32 → xSt → Option (Int32 × xSt)) (x0 : Nat) (x1 : Int32) (x2 : Int32) (x4 : Int32) (s0 : Nat) (s1 : Int32) (s2 : Int32) (w : xSt) : Option (Int32 × xSt) :=
  gd (isC w s0 11) <|
  bd (f_X11_isBeside s0 s1 s2 w) fun v28 w29 =>
  if v28 = 0 then
    k18 x0 x1 x2 (0 : Int32) (x4 + (1 : Int32)) w29
  else
    k18 x0 x1 x2 (1 : Int32) (x4 + (1 : Int32)) w29
def f_X11_needsMore_b119 (x0 : Nat) (x1 : Int32) (x3 : Int32) (w : xSt) : Option (Int32 × xSt) :=
  gd (isC w x0 11) <|
  gd (isC w (wR w x0 6) 20) <|
  gd (inR x1 (wN w (wR w x0 6))) <|
  if (wI w (wR w x0 6) x1.toNatClampNeg) = (4 : Int32) then
    bd (f_X11_hasFellow x0 x1 (0 : Int32) w) fun v38 w39 =>
    gd (v38 = 0 ∨ v38 = 1) <|
    some (v38, w39)
  else
    if x3 = 0 then
      some ((1 : Int32), w)
    else
      some ((0 : Int32), w)
def f_X11_needsMore_l18 : Nat → Nat → Int32 → Int32 → Int32 → Int32 → xSt → Option (Int32 × xSt)
  | 0 => fun _ _ _ _ _ _ => none
  | n + 1 => fun x0 x1 x2 x3 x4 w =>
    gd (isC w x0 11) <|
    if ((wI w x0 0) * (wI w x0 1)) ≤ x4 then
      f_X11_needsMore_b119 x0 x1 x3 w
    else
      gd (isC w (wR w x0 6) 20) <|
      gd (inR x1 (wN w (wR w x0 6))) <|
      bd (f_X11_in (wI w (wR w x0 6) x1.toNatClampNeg) (1 : Int32) (3 : Int32) w) fun v9 w10 =>
      if v9 = 0 then
        f_X11_needsMore_b119 x0 x1 x3 w10
      else
        gd (isC w10 x0 11) <|
        bd (f_X11_covers x0 x1 x2 x4 w10) fun v13 w14 =>
        if v13 = 0 then
          f_X11_needsMore_l18 n x0 x1 x2 x3 (x4 + (1 : Int32)) w14
        else
          if x3 = 0 then
            gd (isC w14 x0 11) <|
            gd (isC w14 (wR w14 x0 6) 20) <|
            gd (inR x1 (wN w14 (wR w14 x0 6))) <|
            if (wI w14 (wR w14 x0 6) x1.toNatClampNeg) = (1 : Int32) then
              bd (f_X11_isEdge x0 x4 w14) fun v24 w25 =>
              if v24 = 0 then
                f_X11_needsMore_l18 n x0 x1 x2 (0 : Int32) (x4 + (1 : Int32)) w25
              else
                f_X11_needsMore_l18 n x0 x1 x2 (1 : Int32) (x4 + (1 : Int32)) w25
            else
              if (wI w14 (wR w14 x0 6) x1.toNatClampNeg) = (2 : Int32) then
                f_X11_needsMore_b101 (f_X11_needsMore_l18 n) x0 x1 x2 x4 x0 x4 (2 : Int32) w14
              else
                f_X11_needsMore_b101 (f_X11_needsMore_l18 n) x0 x1 x2 x4 x0 x4 (3 : Int32) w14
          else
            f_X11_needsMore_l18 n x0 x1 x2 (1 : Int32) (x4 + (1 : Int32)) w14
theorem f_X11_needsMore_l18_s (n : Nat) (x0 : Nat) (x1 : Int32) (x2 : Int32) (x3 : Int32) (x4 : Int32) (w : xSt) : f_X11_needsMore_l18 (n + 1) x0 x1 x2 x3 x4 w = (
    gd (isC w x0 11) <|
    if ((wI w x0 0) * (wI w x0 1)) ≤ x4 then
      f_X11_needsMore_b119 x0 x1 x3 w
    else
      gd (isC w (wR w x0 6) 20) <|
      gd (inR x1 (wN w (wR w x0 6))) <|
      bd (f_X11_in (wI w (wR w x0 6) x1.toNatClampNeg) (1 : Int32) (3 : Int32) w) fun v9 w10 =>
      if v9 = 0 then
        f_X11_needsMore_b119 x0 x1 x3 w10
      else
        gd (isC w10 x0 11) <|
        bd (f_X11_covers x0 x1 x2 x4 w10) fun v13 w14 =>
        if v13 = 0 then
          f_X11_needsMore_l18 n x0 x1 x2 x3 (x4 + (1 : Int32)) w14
        else
          if x3 = 0 then
            gd (isC w14 x0 11) <|
            gd (isC w14 (wR w14 x0 6) 20) <|
            gd (inR x1 (wN w14 (wR w14 x0 6))) <|
            if (wI w14 (wR w14 x0 6) x1.toNatClampNeg) = (1 : Int32) then
              bd (f_X11_isEdge x0 x4 w14) fun v24 w25 =>
              if v24 = 0 then
                f_X11_needsMore_l18 n x0 x1 x2 (0 : Int32) (x4 + (1 : Int32)) w25
              else
                f_X11_needsMore_l18 n x0 x1 x2 (1 : Int32) (x4 + (1 : Int32)) w25
            else
              if (wI w14 (wR w14 x0 6) x1.toNatClampNeg) = (2 : Int32) then
                f_X11_needsMore_b101 (f_X11_needsMore_l18 n) x0 x1 x2 x4 x0 x4 (2 : Int32) w14
              else
                f_X11_needsMore_b101 (f_X11_needsMore_l18 n) x0 x1 x2 x4 x0 x4 (3 : Int32) w14
          else
            f_X11_needsMore_l18 n x0 x1 x2 (1 : Int32) (x4 + (1 : Int32)) w14) := rfl
/-- WorldHallModel.needsMore(II)Z -/
def f_X11_needsMore (x0 : Nat) (x1 : Int32) (x2 : Int32) (w : xSt) : Option (Int32 × xSt) :=
  gd (isC w x0 11) <|
  gd (isC w (wR w x0 6) 20) <|
  gd (inR x1 (wN w (wR w x0 6))) <|
  if (wI w (wR w x0 6) x1.toNatClampNeg) = 0 then
    f_X11_needsMore_l18 xFu x0 x1 x2 (1 : Int32) (0 : Int32) w
  else
    f_X11_needsMore_l18 xFu x0 x1 x2 (0 : Int32) (0 : Int32) w
def f_X11_otherOn_l2 : Nat → Nat → Int32 → Int32 → Int32 → xSt → Option (Int32 × xSt)
  | 0 => fun _ _ _ _ _ => none
  | n + 1 => fun x0 x1 x2 x3 w =>
    gd (isC w x0 11) <|
    if (wI w x0 5) ≤ x3 then
      some ((-1 : Int32), w)
    else
      if x3 = x1 then
        f_X11_otherOn_l2 n x0 x1 x2 (x3 + (1 : Int32)) w
      else
        gd (isC w (wR w x0 12) 20) <|
        gd (inR x3 (wN w (wR w x0 12))) <|
        if (wI w (wR w x0 12) x3.toNatClampNeg) = (-1 : Int32) then
          f_X11_otherOn_l2 n x0 x1 x2 (x3 + (1 : Int32)) w
        else
          bd (f_X11_covers x0 x3 (wI w (wR w x0 12) x3.toNatClampNeg) x2 w) fun v7 w8 =>
          if v7 = 0 then
            f_X11_otherOn_l2 n x0 x1 x2 (x3 + (1 : Int32)) w8
          else
            some (x3, w8)
theorem f_X11_otherOn_l2_s (n : Nat) (x0 : Nat) (x1 : Int32) (x2 : Int32) (x3 : Int32) (w : xSt) : f_X11_otherOn_l2 (n + 1) x0 x1 x2 x3 w = (
    gd (isC w x0 11) <|
    if (wI w x0 5) ≤ x3 then
      some ((-1 : Int32), w)
    else
      if x3 = x1 then
        f_X11_otherOn_l2 n x0 x1 x2 (x3 + (1 : Int32)) w
      else
        gd (isC w (wR w x0 12) 20) <|
        gd (inR x3 (wN w (wR w x0 12))) <|
        if (wI w (wR w x0 12) x3.toNatClampNeg) = (-1 : Int32) then
          f_X11_otherOn_l2 n x0 x1 x2 (x3 + (1 : Int32)) w
        else
          bd (f_X11_covers x0 x3 (wI w (wR w x0 12) x3.toNatClampNeg) x2 w) fun v7 w8 =>
          if v7 = 0 then
            f_X11_otherOn_l2 n x0 x1 x2 (x3 + (1 : Int32)) w8
          else
            some (x3, w8)) := rfl
/-- WorldHallModel.otherOn(II)I -/
def f_X11_otherOn (x0 : Nat) (x1 : Int32) (x2 : Int32) (w : xSt) : Option (Int32 × xSt) :=
  f_X11_otherOn_l2 xFu x0 x1 x2 (0 : Int32) w
def f_X11_hindered_b126 (k56 : Nat → Int32 → Int32 → Int32 → Int32 → Int32 → Int32 → Int32 → xSt → Option (Int32 × xSt)) (x0 : Nat) (x1 : Int32) (x2 : Int32) (x3 : Int32) (x5 : Int32) (x6 : Int32) (x7 : Int32) (s0 : Int32) (w : xSt) : Option (Int32 × xSt) :=
  if x6 = 0 then
    gd (isC w x0 11) <|
    gd (isC w (wR w x0 3) 20) <|
    gd (inR x7 (wN w (wR w x0 3))) <|
    gd (isC w (wR w x0 11) 20) <|
    gd (inR x1 (wN w (wR w x0 11))) <|
    if (wI w (wR w x0 11) x1.toNatClampNeg) ≤ (wI w (wR w x0 3) x7.toNatClampNeg) then
      k56 x0 x1 x2 x3 s0 x5 (0 : Int32) (x7 + (1 : Int32)) w
    else
      k56 x0 x1 x2 x3 s0 x5 (1 : Int32) (x7 + (1 : Int32)) w
  else
    k56 x0 x1 x2 x3 s0 x5 (1 : Int32) (x7 + (1 : Int32)) w
def f_X11_hindered_b109 (k56 : Nat → Int32 → Int32 → Int32 → Int32 → Int32 → Int32 → Int32 → xSt → Option (Int32 × xSt)) (x0 : Nat) (x1 : Int32) (x2 : Int32) (x4 : Int32) (x5 : Int32) (x6 : Int32) (x7 : Int32) (x8 : Int32) (s0 : Int32) (w : xSt) : Option (Int32 × xSt) :=
  if x4 = 0 then
    if x8 = (-1 : Int32) then
      f_X11_hindered_b126 k56 x0 x1 x2 s0 x5 x6 x7 (0 : Int32) w
    else
      f_X11_hindered_b126 k56 x0 x1 x2 s0 x5 x6 x7 (1 : Int32) w
  else
    f_X11_hindered_b126 k56 x0 x1 x2 s0 x5 x6 x7 (1 : Int32) w
def f_X11_hindered_l165 : Nat → Nat → Int32 → Int32 → Int32 → Int32 → Int32 → Int32 → Int32 → xSt → Option (Int32 × xSt)
  | 0 => fun _ _ _ _ _ _ _ _ _ => none
  | n + 1 => fun x0 x1 x2 x3 x4 x5 x6 x7 w =>
    gd (isC w x0 11) <|
    if (wI w x0 5) ≤ x7 then
      if x3 = 0 then
        if x4 = 0 then
          if x5 = 0 then
            if x6 = 0 then
              bd (f_X11_needsMore x0 x1 x2 w) fun v40 w41 =>
              if v40 = 0 then
                gd (isC w41 x0 11) <|
                bd (f_X11_hasFellow x0 x1 (1 : Int32) w41) fun v44 w45 =>
                if v44 = 0 then
                  some ((0 : Int32), w45)
                else
                  some ((7 : Int32), w45)
              else
                some ((6 : Int32), w41)
            else
              some ((5 : Int32), w)
          else
            some ((4 : Int32), w)
        else
          some ((3 : Int32), w)
      else
        some ((2 : Int32), w)
    else
      if x5 = 0 then
        if x7 = x1 then
          f_X11_hindered_l165 n x0 x1 x2 x3 x4 (0 : Int32) x6 (x7 + (1 : Int32)) w
        else
          gd (isC w (wR w x0 12) 20) <|
          gd (inR x7 (wN w (wR w x0 12))) <|
          if (wI w (wR w x0 12) x7.toNatClampNeg) = (-1 : Int32) then
            f_X11_hindered_l165 n x0 x1 x2 x3 x4 (0 : Int32) x6 (x7 + (1 : Int32)) w
          else
            gd (isC w (wR w x0 8) 20) <|
            gd (inR x7 (wN w (wR w x0 8))) <|
            gd (inR x1 (wN w (wR w x0 8))) <|
            if (wI w (wR w x0 8) x7.toNatClampNeg) = (wI w (wR w x0 8) x1.toNatClampNeg) then
              f_X11_hindered_l165 n x0 x1 x2 x3 x4 (0 : Int32) x6 (x7 + (1 : Int32)) w
            else
              bd (f_X11_isNear x0 x1 x2 x7 w) fun v58 w59 =>
              if v58 = 0 then
                f_X11_hindered_l165 n x0 x1 x2 x3 x4 (0 : Int32) x6 (x7 + (1 : Int32)) w59
              else
                f_X11_hindered_l165 n x0 x1 x2 x3 x4 (1 : Int32) x6 (x7 + (1 : Int32)) w59
      else
        f_X11_hindered_l165 n x0 x1 x2 x3 x4 (1 : Int32) x6 (x7 + (1 : Int32)) w
theorem f_X11_hindered_l165_s (n : Nat) (x0 : Nat) (x1 : Int32) (x2 : Int32) (x3 : Int32) (x4 : Int32) (x5 : Int32) (x6 : Int32) (x7 : Int32) (w : xSt) : f_X11_hindered_l165 (n + 1) x0 x1 x2 x3 x4 x5 x6 x7 w = (
    gd (isC w x0 11) <|
    if (wI w x0 5) ≤ x7 then
      if x3 = 0 then
        if x4 = 0 then
          if x5 = 0 then
            if x6 = 0 then
              bd (f_X11_needsMore x0 x1 x2 w) fun v40 w41 =>
              if v40 = 0 then
                gd (isC w41 x0 11) <|
                bd (f_X11_hasFellow x0 x1 (1 : Int32) w41) fun v44 w45 =>
                if v44 = 0 then
                  some ((0 : Int32), w45)
                else
                  some ((7 : Int32), w45)
              else
                some ((6 : Int32), w41)
            else
              some ((5 : Int32), w)
          else
            some ((4 : Int32), w)
        else
          some ((3 : Int32), w)
      else
        some ((2 : Int32), w)
    else
      if x5 = 0 then
        if x7 = x1 then
          f_X11_hindered_l165 n x0 x1 x2 x3 x4 (0 : Int32) x6 (x7 + (1 : Int32)) w
        else
          gd (isC w (wR w x0 12) 20) <|
          gd (inR x7 (wN w (wR w x0 12))) <|
          if (wI w (wR w x0 12) x7.toNatClampNeg) = (-1 : Int32) then
            f_X11_hindered_l165 n x0 x1 x2 x3 x4 (0 : Int32) x6 (x7 + (1 : Int32)) w
          else
            gd (isC w (wR w x0 8) 20) <|
            gd (inR x7 (wN w (wR w x0 8))) <|
            gd (inR x1 (wN w (wR w x0 8))) <|
            if (wI w (wR w x0 8) x7.toNatClampNeg) = (wI w (wR w x0 8) x1.toNatClampNeg) then
              f_X11_hindered_l165 n x0 x1 x2 x3 x4 (0 : Int32) x6 (x7 + (1 : Int32)) w
            else
              bd (f_X11_isNear x0 x1 x2 x7 w) fun v58 w59 =>
              if v58 = 0 then
                f_X11_hindered_l165 n x0 x1 x2 x3 x4 (0 : Int32) x6 (x7 + (1 : Int32)) w59
              else
                f_X11_hindered_l165 n x0 x1 x2 x3 x4 (1 : Int32) x6 (x7 + (1 : Int32)) w59
      else
        f_X11_hindered_l165 n x0 x1 x2 x3 x4 (1 : Int32) x6 (x7 + (1 : Int32)) w) := rfl
def f_X11_hindered_l56 : Nat → Nat → Int32 → Int32 → Int32 → Int32 → Int32 → Int32 → Int32 → xSt → Option (Int32 × xSt)
  | 0 => fun _ _ _ _ _ _ _ _ _ => none
  | n + 1 => fun x0 x1 x2 x3 x4 x5 x6 x7 w =>
    gd (isC w x0 11) <|
    if ((wI w x0 0) * (wI w x0 1)) ≤ x7 then
      f_X11_hindered_l165 xFu x0 x1 x2 x3 x4 x5 x6 (0 : Int32) w
    else
      bd (f_X11_covers x0 x1 x2 x7 w) fun v12 w13 =>
      if v12 = 0 then
        f_X11_hindered_l56 n x0 x1 x2 x3 x4 x5 x6 (x7 + (1 : Int32)) w13
      else
        gd (isC w13 x0 11) <|
        bd (f_X11_otherOn x0 x1 x7 w13) fun v16 w17 =>
        if x3 = 0 then
          gd (isC w17 x0 11) <|
          gd (isC w17 (wR w17 x0 2) 20) <|
          gd (inR x7 (wN w17 (wR w17 x0 2))) <|
          if (wI w17 (wR w17 x0 2) x7.toNatClampNeg) = 0 then
            f_X11_hindered_b109 (f_X11_hindered_l56 n) x0 x1 x2 x4 x5 x6 x7 v16 (0 : Int32) w17
          else
            f_X11_hindered_b109 (f_X11_hindered_l56 n) x0 x1 x2 x4 x5 x6 x7 v16 (1 : Int32) w17
        else
          f_X11_hindered_b109 (f_X11_hindered_l56 n) x0 x1 x2 x4 x5 x6 x7 v16 (1 : Int32) w17
theorem f_X11_hindered_l56_s (n : Nat) (x0 : Nat) (x1 : Int32) (x2 : Int32) (x3 : Int32) (x4 : Int32) (x5 : Int32) (x6 : Int32) (x7 : Int32) (w : xSt) : f_X11_hindered_l56 (n + 1) x0 x1 x2 x3 x4 x5 x6 x7 w = (
    gd (isC w x0 11) <|
    if ((wI w x0 0) * (wI w x0 1)) ≤ x7 then
      f_X11_hindered_l165 xFu x0 x1 x2 x3 x4 x5 x6 (0 : Int32) w
    else
      bd (f_X11_covers x0 x1 x2 x7 w) fun v12 w13 =>
      if v12 = 0 then
        f_X11_hindered_l56 n x0 x1 x2 x3 x4 x5 x6 (x7 + (1 : Int32)) w13
      else
        gd (isC w13 x0 11) <|
        bd (f_X11_otherOn x0 x1 x7 w13) fun v16 w17 =>
        if x3 = 0 then
          gd (isC w17 x0 11) <|
          gd (isC w17 (wR w17 x0 2) 20) <|
          gd (inR x7 (wN w17 (wR w17 x0 2))) <|
          if (wI w17 (wR w17 x0 2) x7.toNatClampNeg) = 0 then
            f_X11_hindered_b109 (f_X11_hindered_l56 n) x0 x1 x2 x4 x5 x6 x7 v16 (0 : Int32) w17
          else
            f_X11_hindered_b109 (f_X11_hindered_l56 n) x0 x1 x2 x4 x5 x6 x7 v16 (1 : Int32) w17
        else
          f_X11_hindered_b109 (f_X11_hindered_l56 n) x0 x1 x2 x4 x5 x6 x7 v16 (1 : Int32) w17) := rfl
/-- WorldHallModel.hindered(II)I -/
def f_X11_hindered (x0 : Nat) (x1 : Int32) (x2 : Int32) (w : xSt) : Option (Int32 × xSt) :=
  gd (isC w x0 11) <|
  gd (¬ (wI w x0 0) = 0) <|
  gd (isC w (wR w x0 9) 20) <|
  gd (inR x1 (wN w (wR w x0 9))) <|
  if (wI w x0 0) < ((x2 - x2 / (wI w x0 0) * (wI w x0 0)) + (wI w (wR w x0 9) x1.toNatClampNeg)) then
    some ((1 : Int32), w)
  else
    gd (¬ (wI w x0 0) = 0) <|
    gd (isC w (wR w x0 10) 20) <|
    gd (inR x1 (wN w (wR w x0 10))) <|
    if ((x2 / (wI w x0 0)) + (wI w (wR w x0 10) x1.toNatClampNeg)) ≤ (wI w x0 1) then
      f_X11_hindered_l56 xFu x0 x1 x2 (0 : Int32) (0 : Int32) (0 : Int32) (0 : Int32) (0 : Int32) w
    else
      some ((1 : Int32), w)
/-- WorldHallModel.hinders(II)I -/
def f_X11_hinders (x0 : Nat) (x1 : Int32) (x2 : Int32) (w : xSt) : Option (Int32 × xSt) :=
  gd (isC w x0 11) <|
  bd (f_X11_isStand x0 x1 w) fun v1 w2 =>
  if v1 = 0 then
    some ((-1 : Int32), w2)
  else
    gd (isC w2 x0 11) <|
    bd (f_X11_isCell x0 x2 w2) fun v6 w7 =>
    if v6 = 0 then
      some ((-1 : Int32), w7)
    else
      gd (isC w7 x0 11) <|
      bd (f_X11_hindered x0 x1 x2 w7) fun v11 w12 =>
      some (v11, w12)
/-- WorldHallModel.lay(II)I -/
def f_X11_lay (x0 : Nat) (x1 : Int32) (x2 : Int32) (w : xSt) : Option (Int32 × xSt) :=
  gd (isC w x0 11) <|
  bd (f_X11_isStand x0 x1 w) fun v1 w2 =>
  if v1 = 0 then
    some ((-1 : Int32), w2)
  else
    gd (isC w2 x0 11) <|
    bd (f_X11_isCell x0 x2 w2) fun v6 w7 =>
    if v6 = 0 then
      some ((-1 : Int32), w7)
    else
      gd (isC w7 x0 11) <|
      gd (isC w7 (wR w7 x0 14) 23) <|
      gd (inR x1 (wN w7 (wR w7 x0 14))) <|
      if (wI w7 (wR w7 x0 14) x1.toNatClampNeg) = 0 then
        bd (f_X11_hindered x0 x1 x2 w7) fun v15 w16 =>
        gd (isC w16 x0 11) <|
        if v15 = 0 then
          gd (isC w16 (wR w16 x0 12) 20) <|
          gd (inR x1 (wN w16 (wR w16 x0 12))) <|
          lt1 (sI w16 (wR w16 x0 12) x1.toNatClampNeg x2) fun w26 =>
          some (v15, w26)
        else
          gd (isC w16 (wR w16 x0 12) 20) <|
          gd (inR x1 (wN w16 (wR w16 x0 12))) <|
          lt1 (sI w16 (wR w16 x0 12) x1.toNatClampNeg (wI w16 (wR w16 x0 12) x1.toNatClampNeg)) fun w22 =>
          some (v15, w22)
      else
        some ((-3 : Int32), w7)
/-- WorldHallModel.take(I)I -/
def f_X11_take (x0 : Nat) (x1 : Int32) (w : xSt) : Option (Int32 × xSt) :=
  gd (isC w x0 11) <|
  bd (f_X11_isLaid x0 x1 w) fun v1 w2 =>
  if v1 = 0 then
    some ((-1 : Int32), w2)
  else
    gd (isC w2 x0 11) <|
    gd (isC w2 (wR w2 x0 14) 23) <|
    gd (inR x1 (wN w2 (wR w2 x0 14))) <|
    if (wI w2 (wR w2 x0 14) x1.toNatClampNeg) = 0 then
      gd (isC w2 (wR w2 x0 12) 20) <|
      gd (inR x1 (wN w2 (wR w2 x0 12))) <|
      lt1 (sI w2 (wR w2 x0 12) x1.toNatClampNeg (-1 : Int32)) fun w12 =>
      some (wI w2 (wR w2 x0 12) x1.toNatClampNeg, w12)
    else
      some ((-3 : Int32), w2)
def f_X11_marksOf_l4 : Nat → Nat → Int32 → Int32 → Int32 → xSt → Option (Int32 × xSt)
  | 0 => fun _ _ _ _ _ => none
  | n + 1 => fun x0 x1 x2 x3 w =>
    gd (isC w x0 11) <|
    if (wI w x0 24) ≤ x3 then
      some (x2, w)
    else
      gd (isC w (wR w x0 27) 20) <|
      gd (inR (((9 : Int32) * x3) + x1) (wN w (wR w x0 27))) <|
      if (wI w (wR w x0 27) (((9 : Int32) * x3) + x1).toNatClampNeg) = (-1 : Int32) then
        f_X11_marksOf_l4 n x0 x1 (x2 + (0 : Int32)) (x3 + (1 : Int32)) w
      else
        f_X11_marksOf_l4 n x0 x1 (x2 + (1 : Int32)) (x3 + (1 : Int32)) w
theorem f_X11_marksOf_l4_s (n : Nat) (x0 : Nat) (x1 : Int32) (x2 : Int32) (x3 : Int32) (w : xSt) : f_X11_marksOf_l4 (n + 1) x0 x1 x2 x3 w = (
    gd (isC w x0 11) <|
    if (wI w x0 24) ≤ x3 then
      some (x2, w)
    else
      gd (isC w (wR w x0 27) 20) <|
      gd (inR (((9 : Int32) * x3) + x1) (wN w (wR w x0 27))) <|
      if (wI w (wR w x0 27) (((9 : Int32) * x3) + x1).toNatClampNeg) = (-1 : Int32) then
        f_X11_marksOf_l4 n x0 x1 (x2 + (0 : Int32)) (x3 + (1 : Int32)) w
      else
        f_X11_marksOf_l4 n x0 x1 (x2 + (1 : Int32)) (x3 + (1 : Int32)) w) := rfl
/-- WorldHallModel.marksOf(I)I -/
def f_X11_marksOf (x0 : Nat) (x1 : Int32) (w : xSt) : Option (Int32 × xSt) :=
  f_X11_marksOf_l4 xFu x0 x1 (0 : Int32) (0 : Int32) w

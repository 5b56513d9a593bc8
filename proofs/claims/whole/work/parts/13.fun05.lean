def f_L_law_l38 : Nat → Nat → Nat → Int32 → Nat → Nat → xSt → Option (Int32 × xSt)
  | 0 => fun _ _ _ _ _ _ => none
  | n + 1 => fun x1 x2 x3 bc bs w =>
    if ((Int32.ofNat (wN w 1020)) - (7 : Int32)) < x3 then
      some (1, w)
    else
      gd (inR x3 (wN w 1020)) <|
      if ((wI w 1020 x3.toNatClampNeg) &&& (63 : Int32)) = (0 : Int32) then
        gd (inR (x3 + (1 : Int32)) (wN w 1020)) <|
        gd (inR (x3 + (2 : Int32)) (wN w 1020)) <|
        gd (isC w x1 10) <|
        bd (f_X10_cell x1 (wI w 1020 (x3 + (1 : Int32)).toNatClampNeg) (wI w 1020 (x3 + (2 : Int32)).toNatClampNeg) w) fun v44 w45 =>
        gd (inR (x3 + (1 : Int32)) (wN w45 1020)) <|
        gd (inR (x3 + (2 : Int32)) (wN w45 1020)) <|
        gd (isC w45 x2 11) <|
        bd (f_X11_cell x2 (wI w45 1020 (x3 + (1 : Int32)).toNatClampNeg) (wI w45 1020 (x3 + (2 : Int32)).toNatClampNeg) w45) fun v50 w51 =>
        if v44 = v50 then
          f_L_law_l38 n x1 x2 (x3 + (7 : Int32)) bc bs w51
        else
          none
      else
        if ((wI w 1020 x3.toNatClampNeg) &&& (63 : Int32)) = (1 : Int32) then
          gd (inR (x3 + (1 : Int32)) (wN w 1020)) <|
          gd (inR (x3 + (2 : Int32)) (wN w 1020)) <|
          gd (isC w x1 10) <|
          bd (f_X10_bears x1 (wI w 1020 (x3 + (1 : Int32)).toNatClampNeg) (wI w 1020 (x3 + (2 : Int32)).toNatClampNeg) w) fun v58 w59 =>
          gd (inR (x3 + (1 : Int32)) (wN w59 1020)) <|
          gd (inR (x3 + (2 : Int32)) (wN w59 1020)) <|
          gd (isC w59 x2 11) <|
          bd (f_X11_bears x2 (wI w59 1020 (x3 + (1 : Int32)).toNatClampNeg) (wI w59 1020 (x3 + (2 : Int32)).toNatClampNeg) w59) fun v64 w65 =>
          if v58 = v64 then
            f_L_law_l38 n x1 x2 (x3 + (7 : Int32)) bc bs w65
          else
            none
        else
          if ((wI w 1020 x3.toNatClampNeg) &&& (63 : Int32)) = (2 : Int32) then
            gd (inR (x3 + (1 : Int32)) (wN w 1020)) <|
            gd (isC w x1 10) <|
            bd (f_X10_aisle x1 (wI w 1020 (x3 + (1 : Int32)).toNatClampNeg) w) fun v71 w72 =>
            gd (inR (x3 + (1 : Int32)) (wN w72 1020)) <|
            gd (isC w72 x2 11) <|
            bd (f_X11_aisle x2 (wI w72 1020 (x3 + (1 : Int32)).toNatClampNeg) w72) fun v76 w77 =>
            if v71 = v76 then
              f_L_law_l38 n x1 x2 (x3 + (7 : Int32)) bc bs w77
            else
              none
          else
            if ((wI w 1020 x3.toNatClampNeg) &&& (63 : Int32)) = (3 : Int32) then
              gd (inR (x3 + (1 : Int32)) (wN w 1020)) <|
              gd (inR (x3 + (2 : Int32)) (wN w 1020)) <|
              gd (inR (x3 + (3 : Int32)) (wN w 1020)) <|
              gd (inR (x3 + (4 : Int32)) (wN w 1020)) <|
              gd (inR (x3 + (5 : Int32)) (wN w 1020)) <|
              gd (inR (x3 + (6 : Int32)) (wN w 1020)) <|
              gd (isC w x1 10) <|
              gd (1 ≤ bc) <|
              gd (11 ≤ bs) <|
              bd (f_X10_stand x1 (wI w 1020 (x3 + (1 : Int32)).toNatClampNeg) (wI w 1020 (x3 + (2 : Int32)).toNatClampNeg) (wI w 1020 (x3 + (3 : Int32)).toNatClampNeg) (wI w 1020 (x3 + (4 : Int32)).toNatClampNeg) (wI w 1020 (x3 + (5 : Int32)).toNatClampNeg) (wI w 1020 (x3 + (6 : Int32)).toNatClampNeg) w) fun v88 w89 =>
              gd (inR (x3 + (1 : Int32)) (wN w89 1020)) <|
              gd (inR (x3 + (2 : Int32)) (wN w89 1020)) <|
              gd (inR (x3 + (3 : Int32)) (wN w89 1020)) <|
              gd (inR (x3 + (4 : Int32)) (wN w89 1020)) <|
              gd (inR (x3 + (5 : Int32)) (wN w89 1020)) <|
              gd (inR (x3 + (6 : Int32)) (wN w89 1020)) <|
              gd (isC w89 x2 11) <|
              bd (f_X11_stand x2 (wI w89 1020 (x3 + (1 : Int32)).toNatClampNeg) (wI w89 1020 (x3 + (2 : Int32)).toNatClampNeg) (wI w89 1020 (x3 + (3 : Int32)).toNatClampNeg) (wI w89 1020 (x3 + (4 : Int32)).toNatClampNeg) (wI w89 1020 (x3 + (5 : Int32)).toNatClampNeg) (wI w89 1020 (x3 + (6 : Int32)).toNatClampNeg) w89) fun v100 w101 =>
              if v88 = v100 then
                f_L_law_l38 n x1 x2 (x3 + (7 : Int32)) (bc - 1) (bs - 11) w101
              else
                none
            else
              if ((wI w 1020 x3.toNatClampNeg) &&& (63 : Int32)) = (4 : Int32) then
                gd (inR (x3 + (1 : Int32)) (wN w 1020)) <|
                gd (inR (x3 + (2 : Int32)) (wN w 1020)) <|
                gd (isC w x1 10) <|
                bd (f_X10_hinders x1 (wI w 1020 (x3 + (1 : Int32)).toNatClampNeg) (wI w 1020 (x3 + (2 : Int32)).toNatClampNeg) w) fun v108 w109 =>
                gd (inR (x3 + (1 : Int32)) (wN w109 1020)) <|
                gd (inR (x3 + (2 : Int32)) (wN w109 1020)) <|
                gd (isC w109 x2 11) <|
                bd (f_X11_hinders x2 (wI w109 1020 (x3 + (1 : Int32)).toNatClampNeg) (wI w109 1020 (x3 + (2 : Int32)).toNatClampNeg) w109) fun v114 w115 =>
                if v108 = v114 then
                  f_L_law_l38 n x1 x2 (x3 + (7 : Int32)) bc bs w115
                else
                  none
              else
                if ((wI w 1020 x3.toNatClampNeg) &&& (63 : Int32)) = (5 : Int32) then
                  gd (inR (x3 + (1 : Int32)) (wN w 1020)) <|
                  gd (inR (x3 + (2 : Int32)) (wN w 1020)) <|
                  gd (isC w x1 10) <|
                  bd (f_X10_lay x1 (wI w 1020 (x3 + (1 : Int32)).toNatClampNeg) (wI w 1020 (x3 + (2 : Int32)).toNatClampNeg) w) fun v122 w123 =>
                  gd (inR (x3 + (1 : Int32)) (wN w123 1020)) <|
                  gd (inR (x3 + (2 : Int32)) (wN w123 1020)) <|
                  gd (isC w123 x2 11) <|
                  bd (f_X11_lay x2 (wI w123 1020 (x3 + (1 : Int32)).toNatClampNeg) (wI w123 1020 (x3 + (2 : Int32)).toNatClampNeg) w123) fun v128 w129 =>
                  if v122 = v128 then
                    f_L_law_l38 n x1 x2 (x3 + (7 : Int32)) bc bs w129
                  else
                    none
                else
                  if ((wI w 1020 x3.toNatClampNeg) &&& (63 : Int32)) = (6 : Int32) then
                    gd (inR (x3 + (1 : Int32)) (wN w 1020)) <|
                    gd (isC w x1 10) <|
                    bd (f_X10_take x1 (wI w 1020 (x3 + (1 : Int32)).toNatClampNeg) w) fun v135 w136 =>
                    gd (inR (x3 + (1 : Int32)) (wN w136 1020)) <|
                    gd (isC w136 x2 11) <|
                    bd (f_X11_take x2 (wI w136 1020 (x3 + (1 : Int32)).toNatClampNeg) w136) fun v140 w141 =>
                    if v135 = v140 then
                      f_L_law_l38 n x1 x2 (x3 + (7 : Int32)) bc bs w141
                    else
                      none
                  else
                    if ((wI w 1020 x3.toNatClampNeg) &&& (63 : Int32)) = (7 : Int32) then
                      gd (inR (x3 + (1 : Int32)) (wN w 1020)) <|
                      gd (inR (x3 + (2 : Int32)) (wN w 1020)) <|
                      gd (isC w x1 10) <|
                      bd (f_X10_about x1 (wI w 1020 (x3 + (1 : Int32)).toNatClampNeg) (wI w 1020 (x3 + (2 : Int32)).toNatClampNeg) w) fun v148 w149 =>
                      gd (inR (x3 + (1 : Int32)) (wN w149 1020)) <|
                      gd (inR (x3 + (2 : Int32)) (wN w149 1020)) <|
                      gd (isC w149 x2 11) <|
                      bd (f_X11_about x2 (wI w149 1020 (x3 + (1 : Int32)).toNatClampNeg) (wI w149 1020 (x3 + (2 : Int32)).toNatClampNeg) w149) fun v154 w155 =>
                      if v148 = v154 then
                        f_L_law_l38 n x1 x2 (x3 + (7 : Int32)) bc bs w155
                      else
                        none
                    else
                      if ((wI w 1020 x3.toNatClampNeg) &&& (63 : Int32)) = (8 : Int32) then
                        gd (inR (x3 + (1 : Int32)) (wN w 1020)) <|
                        gd (isC w x1 10) <|
                        bd (f_X10_at x1 (wI w 1020 (x3 + (1 : Int32)).toNatClampNeg) w) fun v161 w162 =>
                        gd (inR (x3 + (1 : Int32)) (wN w162 1020)) <|
                        gd (isC w162 x2 11) <|
                        bd (f_X11_at x2 (wI w162 1020 (x3 + (1 : Int32)).toNatClampNeg) w162) fun v166 w167 =>
                        if v161 = v166 then
                          f_L_law_l38 n x1 x2 (x3 + (7 : Int32)) bc bs w167
                        else
                          none
                      else
                        if ((wI w 1020 x3.toNatClampNeg) &&& (63 : Int32)) = (9 : Int32) then
                          gd (isC w x1 10) <|
                          bd (f_X10_price x1 w) fun v172 w173 =>
                          gd (isC w173 x2 11) <|
                          bd (f_X11_price x2 w173) fun v176 w177 =>
                          if v172 = v176 then
                            f_L_law_l38 n x1 x2 (x3 + (7 : Int32)) bc bs w177
                          else
                            none
                        else
                          if ((wI w 1020 x3.toNatClampNeg) &&& (63 : Int32)) = (10 : Int32) then
                            gd (isC w x1 10) <|
                            bd (f_X10_better x1 w) fun v182 w183 =>
                            gd (isC w183 x2 11) <|
                            bd (f_X11_better x2 w183) fun v186 w187 =>
                            if v182 = v186 then
                              f_L_law_l38 n x1 x2 (x3 + (7 : Int32)) bc bs w187
                            else
                              none
                          else
                            if ((wI w 1020 x3.toNatClampNeg) &&& (63 : Int32)) = (11 : Int32) then
                              gd (inR (x3 + (1 : Int32)) (wN w 1020)) <|
                              gd (isC w x1 10) <|
                              bd (f_X10_can x1 (wI w 1020 (x3 + (1 : Int32)).toNatClampNeg) w) fun v193 w194 =>
                              gd (inR (x3 + (1 : Int32)) (wN w194 1020)) <|
                              gd (isC w194 x2 11) <|
                              bd (f_X11_can x2 (wI w194 1020 (x3 + (1 : Int32)).toNatClampNeg) w194) fun v198 w199 =>
                              if v193 = v198 then
                                f_L_law_l38 n x1 x2 (x3 + (7 : Int32)) bc bs w199
                              else
                                none
                            else
                              if ((wI w 1020 x3.toNatClampNeg) &&& (63 : Int32)) = (12 : Int32) then
                                gd (inR (x3 + (1 : Int32)) (wN w 1020)) <|
                                gd (isC w x1 10) <|
                                bd (f_X10_bring x1 (wI w 1020 (x3 + (1 : Int32)).toNatClampNeg) w) fun v205 w206 =>
                                gd (inR (x3 + (1 : Int32)) (wN w206 1020)) <|
                                gd (isC w206 x2 11) <|
                                bd (f_X11_bring x2 (wI w206 1020 (x3 + (1 : Int32)).toNatClampNeg) w206) fun v210 w211 =>
                                if v205 = v210 then
                                  f_L_law_l38 n x1 x2 (x3 + (7 : Int32)) bc bs w211
                                else
                                  none
                              else
                                if ((wI w 1020 x3.toNatClampNeg) &&& (63 : Int32)) = (13 : Int32) then
                                  gd (isC w x1 10) <|
                                  bd (f_X10_clear x1 w) fun v216 w217 =>
                                  gd (isC w217 x2 11) <|
                                  bd (f_X11_clear x2 w217) fun v220 w221 =>
                                  if v216 = v220 then
                                    f_L_law_l38 n x1 x2 (x3 + (7 : Int32)) bc bs w221
                                  else
                                    none
                                else
                                  if ((wI w 1020 x3.toNatClampNeg) &&& (63 : Int32)) = (14 : Int32) then
                                    gd (inR (x3 + (1 : Int32)) (wN w 1020)) <|
                                    gd (isC w x1 10) <|
                                    bd (f_X10_row x1 (wI w 1020 (x3 + (1 : Int32)).toNatClampNeg) w) fun v227 w228 =>
                                    gd (inR (x3 + (1 : Int32)) (wN w228 1020)) <|
                                    gd (isC w228 x2 11) <|
                                    bd (f_X11_row x2 (wI w228 1020 (x3 + (1 : Int32)).toNatClampNeg) w228) fun v232 w233 =>
                                    if v227 = v232 then
                                      f_L_law_l38 n x1 x2 (x3 + (7 : Int32)) bc bs w233
                                    else
                                      none
                                  else
                                    if ((wI w 1020 x3.toNatClampNeg) &&& (63 : Int32)) = (15 : Int32) then
                                      gd (inR (x3 + (1 : Int32)) (wN w 1020)) <|
                                      gd (inR (x3 + (2 : Int32)) (wN w 1020)) <|
                                      gd (inR (x3 + (3 : Int32)) (wN w 1020)) <|
                                      gd (isC w x1 10) <|
                                      bd (f_X10_feed x1 ((((wI w 1020 (x3 + (1 : Int32)).toNatClampNeg).toInt64) <<< ((32 : Int32).toInt64 &&& 63)) ||| (((wI w 1020 (x3 + (2 : Int32)).toNatClampNeg).toInt64) &&& (4294967295 : Int64))) (wI w 1020 (x3 + (3 : Int32)).toNatClampNeg) w) fun v241 w242 =>
                                      gd (inR (x3 + (1 : Int32)) (wN w242 1020)) <|
                                      gd (inR (x3 + (2 : Int32)) (wN w242 1020)) <|
                                      gd (inR (x3 + (3 : Int32)) (wN w242 1020)) <|
                                      gd (isC w242 x2 11) <|
                                      bd (f_X11_feed x2 ((((wI w242 1020 (x3 + (1 : Int32)).toNatClampNeg).toInt64) <<< ((32 : Int32).toInt64 &&& 63)) ||| (((wI w242 1020 (x3 + (2 : Int32)).toNatClampNeg).toInt64) &&& (4294967295 : Int64))) (wI w242 1020 (x3 + (3 : Int32)).toNatClampNeg) w242) fun v248 w249 =>
                                      if v241 = v248 then
                                        f_L_law_l38 n x1 x2 (x3 + (7 : Int32)) bc bs w249
                                      else
                                        none
                                    else
                                      if ((wI w 1020 x3.toNatClampNeg) &&& (63 : Int32)) = (16 : Int32) then
                                        gd (inR (x3 + (1 : Int32)) (wN w 1020)) <|
                                        gd (inR (x3 + (2 : Int32)) (wN w 1020)) <|
                                        gd (isC w x1 10) <|
                                        bd (f_X10_text x1 (wI w 1020 (x3 + (1 : Int32)).toNatClampNeg) (wI w 1020 (x3 + (2 : Int32)).toNatClampNeg) w) fun v256 w257 =>
                                        gd (inR (x3 + (1 : Int32)) (wN w257 1020)) <|
                                        gd (inR (x3 + (2 : Int32)) (wN w257 1020)) <|
                                        gd (isC w257 x2 11) <|
                                        bd (f_X11_text x2 (wI w257 1020 (x3 + (1 : Int32)).toNatClampNeg) (wI w257 1020 (x3 + (2 : Int32)).toNatClampNeg) w257) fun v262 w263 =>
                                        if v256 = v262 then
                                          f_L_law_l38 n x1 x2 (x3 + (7 : Int32)) bc bs w263
                                        else
                                          none
                                      else
                                        if ((wI w 1020 x3.toNatClampNeg) &&& (63 : Int32)) = (17 : Int32) then
                                          gd (inR (x3 + (1 : Int32)) (wN w 1020)) <|
                                          gd (inR (x3 + (2 : Int32)) (wN w 1020)) <|
                                          gd (isC w x1 10) <|
                                          bd (f_X10_juror x1 (wI w 1020 (x3 + (1 : Int32)).toNatClampNeg) (wI w 1020 (x3 + (2 : Int32)).toNatClampNeg) w) fun v270 w271 =>
                                          gd (inR (x3 + (1 : Int32)) (wN w271 1020)) <|
                                          gd (inR (x3 + (2 : Int32)) (wN w271 1020)) <|
                                          gd (isC w271 x2 11) <|
                                          bd (f_X11_juror x2 (wI w271 1020 (x3 + (1 : Int32)).toNatClampNeg) (wI w271 1020 (x3 + (2 : Int32)).toNatClampNeg) w271) fun v276 w277 =>
                                          if v270 = v276 then
                                            f_L_law_l38 n x1 x2 (x3 + (7 : Int32)) bc bs w277
                                          else
                                            none
                                        else
                                          if ((wI w 1020 x3.toNatClampNeg) &&& (63 : Int32)) = (18 : Int32) then
                                            gd (inR (x3 + (1 : Int32)) (wN w 1020)) <|
                                            gd (inR (x3 + (2 : Int32)) (wN w 1020)) <|
                                            gd (inR (x3 + (3 : Int32)) (wN w 1020)) <|
                                            gd (inR (x3 + (4 : Int32)) (wN w 1020)) <|
                                            gd (isC w x1 10) <|
                                            bd (f_X10_mark x1 (wI w 1020 (x3 + (1 : Int32)).toNatClampNeg) (wI w 1020 (x3 + (2 : Int32)).toNatClampNeg) (wI w 1020 (x3 + (3 : Int32)).toNatClampNeg) (wI w 1020 (x3 + (4 : Int32)).toNatClampNeg) w) fun v286 w287 =>
                                            gd (inR (x3 + (1 : Int32)) (wN w287 1020)) <|
                                            gd (inR (x3 + (2 : Int32)) (wN w287 1020)) <|
                                            gd (inR (x3 + (3 : Int32)) (wN w287 1020)) <|
                                            gd (inR (x3 + (4 : Int32)) (wN w287 1020)) <|
                                            gd (isC w287 x2 11) <|
                                            bd (f_X11_mark x2 (wI w287 1020 (x3 + (1 : Int32)).toNatClampNeg) (wI w287 1020 (x3 + (2 : Int32)).toNatClampNeg) (wI w287 1020 (x3 + (3 : Int32)).toNatClampNeg) (wI w287 1020 (x3 + (4 : Int32)).toNatClampNeg) w287) fun v294 w295 =>
                                            if v286 = v294 then
                                              f_L_law_l38 n x1 x2 (x3 + (7 : Int32)) bc bs w295
                                            else
                                              none
                                          else
                                            if ((wI w 1020 x3.toNatClampNeg) &&& (63 : Int32)) = (19 : Int32) then
                                              gd (inR (x3 + (1 : Int32)) (wN w 1020)) <|
                                              gd (inR (x3 + (2 : Int32)) (wN w 1020)) <|
                                              gd (isC w x1 10) <|
                                              bd (f_X10_mean x1 (wI w 1020 (x3 + (1 : Int32)).toNatClampNeg) (wI w 1020 (x3 + (2 : Int32)).toNatClampNeg) w) fun v302 w303 =>
                                              gd (inR (x3 + (1 : Int32)) (wN w303 1020)) <|
                                              gd (inR (x3 + (2 : Int32)) (wN w303 1020)) <|
                                              gd (isC w303 x2 11) <|
                                              bd (f_X11_mean x2 (wI w303 1020 (x3 + (1 : Int32)).toNatClampNeg) (wI w303 1020 (x3 + (2 : Int32)).toNatClampNeg) w303) fun v308 w309 =>
                                              if v302 = v308 then
                                                f_L_law_l38 n x1 x2 (x3 + (7 : Int32)) bc bs w309
                                              else
                                                none
                                            else
                                              if ((wI w 1020 x3.toNatClampNeg) &&& (63 : Int32)) = (20 : Int32) then
                                                gd (inR (x3 + (1 : Int32)) (wN w 1020)) <|
                                                gd (inR (x3 + (2 : Int32)) (wN w 1020)) <|
                                                gd (isC w x1 10) <|
                                                bd (f_X10_medal x1 (wI w 1020 (x3 + (1 : Int32)).toNatClampNeg) (wI w 1020 (x3 + (2 : Int32)).toNatClampNeg) w) fun v316 w317 =>
                                                gd (inR (x3 + (1 : Int32)) (wN w317 1020)) <|
                                                gd (inR (x3 + (2 : Int32)) (wN w317 1020)) <|
                                                gd (isC w317 x2 11) <|
                                                bd (f_X11_medal x2 (wI w317 1020 (x3 + (1 : Int32)).toNatClampNeg) (wI w317 1020 (x3 + (2 : Int32)).toNatClampNeg) w317) fun v322 w323 =>
                                                if v316 = v322 then
                                                  f_L_law_l38 n x1 x2 (x3 + (7 : Int32)) bc bs w323
                                                else
                                                  none
                                              else
                                                if ((wI w 1020 x3.toNatClampNeg) &&& (63 : Int32)) = (21 : Int32) then
                                                  gd (inR (x3 + (1 : Int32)) (wN w 1020)) <|
                                                  gd (isC w x1 10) <|
                                                  bd (f_X10_cost x1 (wI w 1020 (x3 + (1 : Int32)).toNatClampNeg) w) fun v329 w330 =>
                                                  gd (inR (x3 + (1 : Int32)) (wN w330 1020)) <|
                                                  gd (isC w330 x2 11) <|
                                                  bd (f_X11_cost x2 (wI w330 1020 (x3 + (1 : Int32)).toNatClampNeg) w330) fun v334 w335 =>
                                                  if v329 = v334 then
                                                    f_L_law_l38 n x1 x2 (x3 + (7 : Int32)) bc bs w335
                                                  else
                                                    none
                                                else
                                                  if ((wI w 1020 x3.toNatClampNeg) &&& (63 : Int32)) = (22 : Int32) then
                                                    gd (inR (x3 + (1 : Int32)) (wN w 1020)) <|
                                                    gd (isC w x1 10) <|
                                                    bd (f_X10_most x1 (wI w 1020 (x3 + (1 : Int32)).toNatClampNeg) w) fun v341 w342 =>
                                                    gd (inR (x3 + (1 : Int32)) (wN w342 1020)) <|
                                                    gd (isC w342 x2 11) <|
                                                    bd (f_X11_most x2 (wI w342 1020 (x3 + (1 : Int32)).toNatClampNeg) w342) fun v346 w347 =>
                                                    if v341 = v346 then
                                                      f_L_law_l38 n x1 x2 (x3 + (7 : Int32)) bc bs w347
                                                    else
                                                      none
                                                  else
                                                    if ((wI w 1020 x3.toNatClampNeg) &&& (63 : Int32)) = (23 : Int32) then
                                                      gd (inR (x3 + (1 : Int32)) (wN w 1020)) <|
                                                      gd (inR (x3 + (2 : Int32)) (wN w 1020)) <|
                                                      gd (isC w x1 10) <|
                                                      bd (f_X10_minute x1 (wI w 1020 (x3 + (1 : Int32)).toNatClampNeg) (wI w 1020 (x3 + (2 : Int32)).toNatClampNeg) w) fun v354 w355 =>
                                                      gd (inR (x3 + (1 : Int32)) (wN w355 1020)) <|
                                                      gd (inR (x3 + (2 : Int32)) (wN w355 1020)) <|
                                                      gd (isC w355 x2 11) <|
                                                      bd (f_X11_minute x2 (wI w355 1020 (x3 + (1 : Int32)).toNatClampNeg) (wI w355 1020 (x3 + (2 : Int32)).toNatClampNeg) w355) fun v360 w361 =>
                                                      if v354 = v360 then
                                                        f_L_law_l38 n x1 x2 (x3 + (7 : Int32)) bc bs w361
                                                      else
                                                        none
                                                    else
                                                      if ((wI w 1020 x3.toNatClampNeg) &&& (63 : Int32)) = (24 : Int32) then
                                                        gd (isC w x1 10) <|
                                                        bd (f_X10_bell x1 w) fun v366 w367 =>
                                                        gd (isC w367 x2 11) <|
                                                        bd (f_X11_bell x2 w367) fun v370 w371 =>
                                                        if v366 = v370 then
                                                          f_L_law_l38 n x1 x2 (x3 + (7 : Int32)) bc bs w371
                                                        else
                                                          none
                                                      else
                                                        if ((wI w 1020 x3.toNatClampNeg) &&& (63 : Int32)) = (25 : Int32) then
                                                          gd (inR (x3 + (1 : Int32)) (wN w 1020)) <|
                                                          gd (inR (x3 + (2 : Int32)) (wN w 1020)) <|
                                                          gd (isC w x1 10) <|
                                                          bd (f_X10_sight x1 (wI w 1020 (x3 + (1 : Int32)).toNatClampNeg) (wI w 1020 (x3 + (2 : Int32)).toNatClampNeg) w) fun v378 w379 =>
                                                          gd (inR (x3 + (1 : Int32)) (wN w379 1020)) <|
                                                          gd (inR (x3 + (2 : Int32)) (wN w379 1020)) <|
                                                          gd (isC w379 x2 11) <|
                                                          bd (f_X11_sight x2 (wI w379 1020 (x3 + (1 : Int32)).toNatClampNeg) (wI w379 1020 (x3 + (2 : Int32)).toNatClampNeg) w379) fun v384 w385 =>
                                                          if v378 = v384 then
                                                            f_L_law_l38 n x1 x2 (x3 + (7 : Int32)) bc bs w385
                                                          else
                                                            none
                                                        else
                                                          if ((wI w 1020 x3.toNatClampNeg) &&& (63 : Int32)) = (26 : Int32) then
                                                            gd (inR (x3 + (1 : Int32)) (wN w 1020)) <|
                                                            gd (inR (x3 + (2 : Int32)) (wN w 1020)) <|
                                                            gd (isC w x1 10) <|
                                                            bd (f_X10_canBe x1 (wI w 1020 (x3 + (1 : Int32)).toNatClampNeg) (wI w 1020 (x3 + (2 : Int32)).toNatClampNeg) w) fun v392 w393 =>
                                                            gd (inR (x3 + (1 : Int32)) (wN w393 1020)) <|
                                                            gd (inR (x3 + (2 : Int32)) (wN w393 1020)) <|
                                                            gd (isC w393 x2 11) <|
                                                            bd (f_X11_canBe x2 (wI w393 1020 (x3 + (1 : Int32)).toNatClampNeg) (wI w393 1020 (x3 + (2 : Int32)).toNatClampNeg) w393) fun v398 w399 =>
                                                            if v392 = v398 then
                                                              f_L_law_l38 n x1 x2 (x3 + (7 : Int32)) bc bs w399
                                                            else
                                                              none
                                                          else
                                                            if ((wI w 1020 x3.toNatClampNeg) &&& (63 : Int32)) = (27 : Int32) then
                                                              gd (inR (x3 + (1 : Int32)) (wN w 1020)) <|
                                                              gd (isC w x1 10) <|
                                                              bd (f_X10_places x1 (wI w 1020 (x3 + (1 : Int32)).toNatClampNeg) w) fun v405 w406 =>
                                                              gd (inR (x3 + (1 : Int32)) (wN w406 1020)) <|
                                                              gd (isC w406 x2 11) <|
                                                              bd (f_X11_places x2 (wI w406 1020 (x3 + (1 : Int32)).toNatClampNeg) w406) fun v410 w411 =>
                                                              if v405 = v410 then
                                                                f_L_law_l38 n x1 x2 (x3 + (7 : Int32)) bc bs w411
                                                              else
                                                                none
                                                            else
                                                              if ((wI w 1020 x3.toNatClampNeg) &&& (63 : Int32)) = (28 : Int32) then
                                                                gd (isC w x1 10) <|
                                                                bd (f_X10_found x1 w) fun v416 w417 =>
                                                                gd (isC w417 x2 11) <|
                                                                bd (f_X11_found x2 w417) fun v420 w421 =>
                                                                if v416 = v420 then
                                                                  f_L_law_l38 n x1 x2 (x3 + (7 : Int32)) bc bs w421
                                                                else
                                                                  none
                                                              else
                                                                if ((wI w 1020 x3.toNatClampNeg) &&& (63 : Int32)) = (29 : Int32) then
                                                                  gd (inR (x3 + (1 : Int32)) (wN w 1020)) <|
                                                                  gd (inR (x3 + (2 : Int32)) (wN w 1020)) <|
                                                                  gd (isC w x1 10) <|
                                                                  bd (f_X10_sell x1 (wI w 1020 (x3 + (1 : Int32)).toNatClampNeg) (wI w 1020 (x3 + (2 : Int32)).toNatClampNeg) w) fun v428 w429 =>
                                                                  gd (inR (x3 + (1 : Int32)) (wN w429 1020)) <|
                                                                  gd (inR (x3 + (2 : Int32)) (wN w429 1020)) <|
                                                                  gd (isC w429 x2 11) <|
                                                                  bd (f_X11_sell x2 (wI w429 1020 (x3 + (1 : Int32)).toNatClampNeg) (wI w429 1020 (x3 + (2 : Int32)).toNatClampNeg) w429) fun v434 w435 =>
                                                                  if v428 = v434 then
                                                                    f_L_law_l38 n x1 x2 (x3 + (7 : Int32)) bc bs w435
                                                                  else
                                                                    none
                                                                else
                                                                  if ((wI w 1020 x3.toNatClampNeg) &&& (63 : Int32)) = (30 : Int32) then
                                                                    gd (inR (x3 + (1 : Int32)) (wN w 1020)) <|
                                                                    gd (isC w x1 10) <|
                                                                    bd (f_X10_hand x1 (wI w 1020 (x3 + (1 : Int32)).toNatClampNeg) w) fun v441 w442 =>
                                                                    gd (inR (x3 + (1 : Int32)) (wN w442 1020)) <|
                                                                    gd (isC w442 x2 11) <|
                                                                    bd (f_X11_hand x2 (wI w442 1020 (x3 + (1 : Int32)).toNatClampNeg) w442) fun v446 w447 =>
                                                                    if v441 = v446 then
                                                                      f_L_law_l38 n x1 x2 (x3 + (7 : Int32)) bc bs w447
                                                                    else
                                                                      none
                                                                  else
                                                                    if ((wI w 1020 x3.toNatClampNeg) &&& (63 : Int32)) = (31 : Int32) then
                                                                      gd (inR (x3 + (1 : Int32)) (wN w 1020)) <|
                                                                      gd (isC w x1 10) <|
                                                                      bd (f_X10_end x1 (wI w 1020 (x3 + (1 : Int32)).toNatClampNeg) w) fun v453 w454 =>
                                                                      gd (inR (x3 + (1 : Int32)) (wN w454 1020)) <|
                                                                      gd (isC w454 x2 11) <|
                                                                      bd (f_X11_end x2 (wI w454 1020 (x3 + (1 : Int32)).toNatClampNeg) w454) fun v458 w459 =>
                                                                      if v453 = v458 then
                                                                        f_L_law_l38 n x1 x2 (x3 + (7 : Int32)) bc bs w459
                                                                      else
                                                                        none
                                                                    else
                                                                      if ((wI w 1020 x3.toNatClampNeg) &&& (63 : Int32)) = (32 : Int32) then
                                                                        gd (inR (x3 + (1 : Int32)) (wN w 1020)) <|
                                                                        gd (isC w x1 10) <|
                                                                        bd (f_X10_count x1 (wI w 1020 (x3 + (1 : Int32)).toNatClampNeg) w) fun v465 w466 =>
                                                                        gd (inR (x3 + (1 : Int32)) (wN w466 1020)) <|
                                                                        gd (isC w466 x2 11) <|
                                                                        bd (f_X11_count x2 (wI w466 1020 (x3 + (1 : Int32)).toNatClampNeg) w466) fun v470 w471 =>
                                                                        if v465 = v470 then
                                                                          f_L_law_l38 n x1 x2 (x3 + (7 : Int32)) bc bs w471
                                                                        else
                                                                          none
                                                                      else
                                                                        f_L_law_l38 n x1 x2 (x3 + (7 : Int32)) bc bs w
theorem f_L_law_l38_s (n : Nat) (x1 : Nat) (x2 : Nat) (x3 : Int32) (bc bs : Nat) (w : xSt) : f_L_law_l38 (n + 1) x1 x2 x3 bc bs w = (
    if ((Int32.ofNat (wN w 1020)) - (7 : Int32)) < x3 then
      some (1, w)
    else
      gd (inR x3 (wN w 1020)) <|
      if ((wI w 1020 x3.toNatClampNeg) &&& (63 : Int32)) = (0 : Int32) then
        gd (inR (x3 + (1 : Int32)) (wN w 1020)) <|
        gd (inR (x3 + (2 : Int32)) (wN w 1020)) <|
        gd (isC w x1 10) <|
        bd (f_X10_cell x1 (wI w 1020 (x3 + (1 : Int32)).toNatClampNeg) (wI w 1020 (x3 + (2 : Int32)).toNatClampNeg) w) fun v44 w45 =>
        gd (inR (x3 + (1 : Int32)) (wN w45 1020)) <|
        gd (inR (x3 + (2 : Int32)) (wN w45 1020)) <|
        gd (isC w45 x2 11) <|
        bd (f_X11_cell x2 (wI w45 1020 (x3 + (1 : Int32)).toNatClampNeg) (wI w45 1020 (x3 + (2 : Int32)).toNatClampNeg) w45) fun v50 w51 =>
        if v44 = v50 then
          f_L_law_l38 n x1 x2 (x3 + (7 : Int32)) bc bs w51
        else
          none
      else
        if ((wI w 1020 x3.toNatClampNeg) &&& (63 : Int32)) = (1 : Int32) then
          gd (inR (x3 + (1 : Int32)) (wN w 1020)) <|
          gd (inR (x3 + (2 : Int32)) (wN w 1020)) <|
          gd (isC w x1 10) <|
          bd (f_X10_bears x1 (wI w 1020 (x3 + (1 : Int32)).toNatClampNeg) (wI w 1020 (x3 + (2 : Int32)).toNatClampNeg) w) fun v58 w59 =>
          gd (inR (x3 + (1 : Int32)) (wN w59 1020)) <|
          gd (inR (x3 + (2 : Int32)) (wN w59 1020)) <|
          gd (isC w59 x2 11) <|
          bd (f_X11_bears x2 (wI w59 1020 (x3 + (1 : Int32)).toNatClampNeg) (wI w59 1020 (x3 + (2 : Int32)).toNatClampNeg) w59) fun v64 w65 =>
          if v58 = v64 then
            f_L_law_l38 n x1 x2 (x3 + (7 : Int32)) bc bs w65
          else
            none
        else
          if ((wI w 1020 x3.toNatClampNeg) &&& (63 : Int32)) = (2 : Int32) then
            gd (inR (x3 + (1 : Int32)) (wN w 1020)) <|
            gd (isC w x1 10) <|
            bd (f_X10_aisle x1 (wI w 1020 (x3 + (1 : Int32)).toNatClampNeg) w) fun v71 w72 =>
            gd (inR (x3 + (1 : Int32)) (wN w72 1020)) <|
            gd (isC w72 x2 11) <|
            bd (f_X11_aisle x2 (wI w72 1020 (x3 + (1 : Int32)).toNatClampNeg) w72) fun v76 w77 =>
            if v71 = v76 then
              f_L_law_l38 n x1 x2 (x3 + (7 : Int32)) bc bs w77
            else
              none
          else
            if ((wI w 1020 x3.toNatClampNeg) &&& (63 : Int32)) = (3 : Int32) then
              gd (inR (x3 + (1 : Int32)) (wN w 1020)) <|
              gd (inR (x3 + (2 : Int32)) (wN w 1020)) <|
              gd (inR (x3 + (3 : Int32)) (wN w 1020)) <|
              gd (inR (x3 + (4 : Int32)) (wN w 1020)) <|
              gd (inR (x3 + (5 : Int32)) (wN w 1020)) <|
              gd (inR (x3 + (6 : Int32)) (wN w 1020)) <|
              gd (isC w x1 10) <|
              gd (1 ≤ bc) <|
              gd (11 ≤ bs) <|
              bd (f_X10_stand x1 (wI w 1020 (x3 + (1 : Int32)).toNatClampNeg) (wI w 1020 (x3 + (2 : Int32)).toNatClampNeg) (wI w 1020 (x3 + (3 : Int32)).toNatClampNeg) (wI w 1020 (x3 + (4 : Int32)).toNatClampNeg) (wI w 1020 (x3 + (5 : Int32)).toNatClampNeg) (wI w 1020 (x3 + (6 : Int32)).toNatClampNeg) w) fun v88 w89 =>
              gd (inR (x3 + (1 : Int32)) (wN w89 1020)) <|
              gd (inR (x3 + (2 : Int32)) (wN w89 1020)) <|
              gd (inR (x3 + (3 : Int32)) (wN w89 1020)) <|
              gd (inR (x3 + (4 : Int32)) (wN w89 1020)) <|
              gd (inR (x3 + (5 : Int32)) (wN w89 1020)) <|
              gd (inR (x3 + (6 : Int32)) (wN w89 1020)) <|
              gd (isC w89 x2 11) <|
              bd (f_X11_stand x2 (wI w89 1020 (x3 + (1 : Int32)).toNatClampNeg) (wI w89 1020 (x3 + (2 : Int32)).toNatClampNeg) (wI w89 1020 (x3 + (3 : Int32)).toNatClampNeg) (wI w89 1020 (x3 + (4 : Int32)).toNatClampNeg) (wI w89 1020 (x3 + (5 : Int32)).toNatClampNeg) (wI w89 1020 (x3 + (6 : Int32)).toNatClampNeg) w89) fun v100 w101 =>
              if v88 = v100 then
                f_L_law_l38 n x1 x2 (x3 + (7 : Int32)) (bc - 1) (bs - 11) w101
              else
                none
            else
              if ((wI w 1020 x3.toNatClampNeg) &&& (63 : Int32)) = (4 : Int32) then
                gd (inR (x3 + (1 : Int32)) (wN w 1020)) <|
                gd (inR (x3 + (2 : Int32)) (wN w 1020)) <|
                gd (isC w x1 10) <|
                bd (f_X10_hinders x1 (wI w 1020 (x3 + (1 : Int32)).toNatClampNeg) (wI w 1020 (x3 + (2 : Int32)).toNatClampNeg) w) fun v108 w109 =>
                gd (inR (x3 + (1 : Int32)) (wN w109 1020)) <|
                gd (inR (x3 + (2 : Int32)) (wN w109 1020)) <|
                gd (isC w109 x2 11) <|
                bd (f_X11_hinders x2 (wI w109 1020 (x3 + (1 : Int32)).toNatClampNeg) (wI w109 1020 (x3 + (2 : Int32)).toNatClampNeg) w109) fun v114 w115 =>
                if v108 = v114 then
                  f_L_law_l38 n x1 x2 (x3 + (7 : Int32)) bc bs w115
                else
                  none
              else
                if ((wI w 1020 x3.toNatClampNeg) &&& (63 : Int32)) = (5 : Int32) then
                  gd (inR (x3 + (1 : Int32)) (wN w 1020)) <|
                  gd (inR (x3 + (2 : Int32)) (wN w 1020)) <|
                  gd (isC w x1 10) <|
                  bd (f_X10_lay x1 (wI w 1020 (x3 + (1 : Int32)).toNatClampNeg) (wI w 1020 (x3 + (2 : Int32)).toNatClampNeg) w) fun v122 w123 =>
                  gd (inR (x3 + (1 : Int32)) (wN w123 1020)) <|
                  gd (inR (x3 + (2 : Int32)) (wN w123 1020)) <|
                  gd (isC w123 x2 11) <|
                  bd (f_X11_lay x2 (wI w123 1020 (x3 + (1 : Int32)).toNatClampNeg) (wI w123 1020 (x3 + (2 : Int32)).toNatClampNeg) w123) fun v128 w129 =>
                  if v122 = v128 then
                    f_L_law_l38 n x1 x2 (x3 + (7 : Int32)) bc bs w129
                  else
                    none
                else
                  if ((wI w 1020 x3.toNatClampNeg) &&& (63 : Int32)) = (6 : Int32) then
                    gd (inR (x3 + (1 : Int32)) (wN w 1020)) <|
                    gd (isC w x1 10) <|
                    bd (f_X10_take x1 (wI w 1020 (x3 + (1 : Int32)).toNatClampNeg) w) fun v135 w136 =>
                    gd (inR (x3 + (1 : Int32)) (wN w136 1020)) <|
                    gd (isC w136 x2 11) <|
                    bd (f_X11_take x2 (wI w136 1020 (x3 + (1 : Int32)).toNatClampNeg) w136) fun v140 w141 =>
                    if v135 = v140 then
                      f_L_law_l38 n x1 x2 (x3 + (7 : Int32)) bc bs w141
                    else
                      none
                  else
                    if ((wI w 1020 x3.toNatClampNeg) &&& (63 : Int32)) = (7 : Int32) then
                      gd (inR (x3 + (1 : Int32)) (wN w 1020)) <|
                      gd (inR (x3 + (2 : Int32)) (wN w 1020)) <|
                      gd (isC w x1 10) <|
                      bd (f_X10_about x1 (wI w 1020 (x3 + (1 : Int32)).toNatClampNeg) (wI w 1020 (x3 + (2 : Int32)).toNatClampNeg) w) fun v148 w149 =>
                      gd (inR (x3 + (1 : Int32)) (wN w149 1020)) <|
                      gd (inR (x3 + (2 : Int32)) (wN w149 1020)) <|
                      gd (isC w149 x2 11) <|
                      bd (f_X11_about x2 (wI w149 1020 (x3 + (1 : Int32)).toNatClampNeg) (wI w149 1020 (x3 + (2 : Int32)).toNatClampNeg) w149) fun v154 w155 =>
                      if v148 = v154 then
                        f_L_law_l38 n x1 x2 (x3 + (7 : Int32)) bc bs w155
                      else
                        none
                    else
                      if ((wI w 1020 x3.toNatClampNeg) &&& (63 : Int32)) = (8 : Int32) then
                        gd (inR (x3 + (1 : Int32)) (wN w 1020)) <|
                        gd (isC w x1 10) <|
                        bd (f_X10_at x1 (wI w 1020 (x3 + (1 : Int32)).toNatClampNeg) w) fun v161 w162 =>
                        gd (inR (x3 + (1 : Int32)) (wN w162 1020)) <|
                        gd (isC w162 x2 11) <|
                        bd (f_X11_at x2 (wI w162 1020 (x3 + (1 : Int32)).toNatClampNeg) w162) fun v166 w167 =>
                        if v161 = v166 then
                          f_L_law_l38 n x1 x2 (x3 + (7 : Int32)) bc bs w167
                        else
                          none
                      else
                        if ((wI w 1020 x3.toNatClampNeg) &&& (63 : Int32)) = (9 : Int32) then
                          gd (isC w x1 10) <|
                          bd (f_X10_price x1 w) fun v172 w173 =>
                          gd (isC w173 x2 11) <|
                          bd (f_X11_price x2 w173) fun v176 w177 =>
                          if v172 = v176 then
                            f_L_law_l38 n x1 x2 (x3 + (7 : Int32)) bc bs w177
                          else
                            none
                        else
                          if ((wI w 1020 x3.toNatClampNeg) &&& (63 : Int32)) = (10 : Int32) then
                            gd (isC w x1 10) <|
                            bd (f_X10_better x1 w) fun v182 w183 =>
                            gd (isC w183 x2 11) <|
                            bd (f_X11_better x2 w183) fun v186 w187 =>
                            if v182 = v186 then
                              f_L_law_l38 n x1 x2 (x3 + (7 : Int32)) bc bs w187
                            else
                              none
                          else
                            if ((wI w 1020 x3.toNatClampNeg) &&& (63 : Int32)) = (11 : Int32) then
                              gd (inR (x3 + (1 : Int32)) (wN w 1020)) <|
                              gd (isC w x1 10) <|
                              bd (f_X10_can x1 (wI w 1020 (x3 + (1 : Int32)).toNatClampNeg) w) fun v193 w194 =>
                              gd (inR (x3 + (1 : Int32)) (wN w194 1020)) <|
                              gd (isC w194 x2 11) <|
                              bd (f_X11_can x2 (wI w194 1020 (x3 + (1 : Int32)).toNatClampNeg) w194) fun v198 w199 =>
                              if v193 = v198 then
                                f_L_law_l38 n x1 x2 (x3 + (7 : Int32)) bc bs w199
                              else
                                none
                            else
                              if ((wI w 1020 x3.toNatClampNeg) &&& (63 : Int32)) = (12 : Int32) then
                                gd (inR (x3 + (1 : Int32)) (wN w 1020)) <|
                                gd (isC w x1 10) <|
                                bd (f_X10_bring x1 (wI w 1020 (x3 + (1 : Int32)).toNatClampNeg) w) fun v205 w206 =>
                                gd (inR (x3 + (1 : Int32)) (wN w206 1020)) <|
                                gd (isC w206 x2 11) <|
                                bd (f_X11_bring x2 (wI w206 1020 (x3 + (1 : Int32)).toNatClampNeg) w206) fun v210 w211 =>
                                if v205 = v210 then
                                  f_L_law_l38 n x1 x2 (x3 + (7 : Int32)) bc bs w211
                                else
                                  none
                              else
                                if ((wI w 1020 x3.toNatClampNeg) &&& (63 : Int32)) = (13 : Int32) then
                                  gd (isC w x1 10) <|
                                  bd (f_X10_clear x1 w) fun v216 w217 =>
                                  gd (isC w217 x2 11) <|
                                  bd (f_X11_clear x2 w217) fun v220 w221 =>
                                  if v216 = v220 then
                                    f_L_law_l38 n x1 x2 (x3 + (7 : Int32)) bc bs w221
                                  else
                                    none
                                else
                                  if ((wI w 1020 x3.toNatClampNeg) &&& (63 : Int32)) = (14 : Int32) then
                                    gd (inR (x3 + (1 : Int32)) (wN w 1020)) <|
                                    gd (isC w x1 10) <|
                                    bd (f_X10_row x1 (wI w 1020 (x3 + (1 : Int32)).toNatClampNeg) w) fun v227 w228 =>
                                    gd (inR (x3 + (1 : Int32)) (wN w228 1020)) <|
                                    gd (isC w228 x2 11) <|
                                    bd (f_X11_row x2 (wI w228 1020 (x3 + (1 : Int32)).toNatClampNeg) w228) fun v232 w233 =>
                                    if v227 = v232 then
                                      f_L_law_l38 n x1 x2 (x3 + (7 : Int32)) bc bs w233
                                    else
                                      none
                                  else
                                    if ((wI w 1020 x3.toNatClampNeg) &&& (63 : Int32)) = (15 : Int32) then
                                      gd (inR (x3 + (1 : Int32)) (wN w 1020)) <|
                                      gd (inR (x3 + (2 : Int32)) (wN w 1020)) <|
                                      gd (inR (x3 + (3 : Int32)) (wN w 1020)) <|
                                      gd (isC w x1 10) <|
                                      bd (f_X10_feed x1 ((((wI w 1020 (x3 + (1 : Int32)).toNatClampNeg).toInt64) <<< ((32 : Int32).toInt64 &&& 63)) ||| (((wI w 1020 (x3 + (2 : Int32)).toNatClampNeg).toInt64) &&& (4294967295 : Int64))) (wI w 1020 (x3 + (3 : Int32)).toNatClampNeg) w) fun v241 w242 =>
                                      gd (inR (x3 + (1 : Int32)) (wN w242 1020)) <|
                                      gd (inR (x3 + (2 : Int32)) (wN w242 1020)) <|
                                      gd (inR (x3 + (3 : Int32)) (wN w242 1020)) <|
                                      gd (isC w242 x2 11) <|
                                      bd (f_X11_feed x2 ((((wI w242 1020 (x3 + (1 : Int32)).toNatClampNeg).toInt64) <<< ((32 : Int32).toInt64 &&& 63)) ||| (((wI w242 1020 (x3 + (2 : Int32)).toNatClampNeg).toInt64) &&& (4294967295 : Int64))) (wI w242 1020 (x3 + (3 : Int32)).toNatClampNeg) w242) fun v248 w249 =>
                                      if v241 = v248 then
                                        f_L_law_l38 n x1 x2 (x3 + (7 : Int32)) bc bs w249
                                      else
                                        none
                                    else
                                      if ((wI w 1020 x3.toNatClampNeg) &&& (63 : Int32)) = (16 : Int32) then
                                        gd (inR (x3 + (1 : Int32)) (wN w 1020)) <|
                                        gd (inR (x3 + (2 : Int32)) (wN w 1020)) <|
                                        gd (isC w x1 10) <|
                                        bd (f_X10_text x1 (wI w 1020 (x3 + (1 : Int32)).toNatClampNeg) (wI w 1020 (x3 + (2 : Int32)).toNatClampNeg) w) fun v256 w257 =>
                                        gd (inR (x3 + (1 : Int32)) (wN w257 1020)) <|
                                        gd (inR (x3 + (2 : Int32)) (wN w257 1020)) <|
                                        gd (isC w257 x2 11) <|
                                        bd (f_X11_text x2 (wI w257 1020 (x3 + (1 : Int32)).toNatClampNeg) (wI w257 1020 (x3 + (2 : Int32)).toNatClampNeg) w257) fun v262 w263 =>
                                        if v256 = v262 then
                                          f_L_law_l38 n x1 x2 (x3 + (7 : Int32)) bc bs w263
                                        else
                                          none
                                      else
                                        if ((wI w 1020 x3.toNatClampNeg) &&& (63 : Int32)) = (17 : Int32) then
                                          gd (inR (x3 + (1 : Int32)) (wN w 1020)) <|
                                          gd (inR (x3 + (2 : Int32)) (wN w 1020)) <|
                                          gd (isC w x1 10) <|
                                          bd (f_X10_juror x1 (wI w 1020 (x3 + (1 : Int32)).toNatClampNeg) (wI w 1020 (x3 + (2 : Int32)).toNatClampNeg) w) fun v270 w271 =>
                                          gd (inR (x3 + (1 : Int32)) (wN w271 1020)) <|
                                          gd (inR (x3 + (2 : Int32)) (wN w271 1020)) <|
                                          gd (isC w271 x2 11) <|
                                          bd (f_X11_juror x2 (wI w271 1020 (x3 + (1 : Int32)).toNatClampNeg) (wI w271 1020 (x3 + (2 : Int32)).toNatClampNeg) w271) fun v276 w277 =>
                                          if v270 = v276 then
                                            f_L_law_l38 n x1 x2 (x3 + (7 : Int32)) bc bs w277
                                          else
                                            none
                                        else
                                          if ((wI w 1020 x3.toNatClampNeg) &&& (63 : Int32)) = (18 : Int32) then
                                            gd (inR (x3 + (1 : Int32)) (wN w 1020)) <|
                                            gd (inR (x3 + (2 : Int32)) (wN w 1020)) <|
                                            gd (inR (x3 + (3 : Int32)) (wN w 1020)) <|
                                            gd (inR (x3 + (4 : Int32)) (wN w 1020)) <|
                                            gd (isC w x1 10) <|
                                            bd (f_X10_mark x1 (wI w 1020 (x3 + (1 : Int32)).toNatClampNeg) (wI w 1020 (x3 + (2 : Int32)).toNatClampNeg) (wI w 1020 (x3 + (3 : Int32)).toNatClampNeg) (wI w 1020 (x3 + (4 : Int32)).toNatClampNeg) w) fun v286 w287 =>
                                            gd (inR (x3 + (1 : Int32)) (wN w287 1020)) <|
                                            gd (inR (x3 + (2 : Int32)) (wN w287 1020)) <|
                                            gd (inR (x3 + (3 : Int32)) (wN w287 1020)) <|
                                            gd (inR (x3 + (4 : Int32)) (wN w287 1020)) <|
                                            gd (isC w287 x2 11) <|
                                            bd (f_X11_mark x2 (wI w287 1020 (x3 + (1 : Int32)).toNatClampNeg) (wI w287 1020 (x3 + (2 : Int32)).toNatClampNeg) (wI w287 1020 (x3 + (3 : Int32)).toNatClampNeg) (wI w287 1020 (x3 + (4 : Int32)).toNatClampNeg) w287) fun v294 w295 =>
                                            if v286 = v294 then
                                              f_L_law_l38 n x1 x2 (x3 + (7 : Int32)) bc bs w295
                                            else
                                              none
                                          else
                                            if ((wI w 1020 x3.toNatClampNeg) &&& (63 : Int32)) = (19 : Int32) then
                                              gd (inR (x3 + (1 : Int32)) (wN w 1020)) <|
                                              gd (inR (x3 + (2 : Int32)) (wN w 1020)) <|
                                              gd (isC w x1 10) <|
                                              bd (f_X10_mean x1 (wI w 1020 (x3 + (1 : Int32)).toNatClampNeg) (wI w 1020 (x3 + (2 : Int32)).toNatClampNeg) w) fun v302 w303 =>
                                              gd (inR (x3 + (1 : Int32)) (wN w303 1020)) <|
                                              gd (inR (x3 + (2 : Int32)) (wN w303 1020)) <|
                                              gd (isC w303 x2 11) <|
                                              bd (f_X11_mean x2 (wI w303 1020 (x3 + (1 : Int32)).toNatClampNeg) (wI w303 1020 (x3 + (2 : Int32)).toNatClampNeg) w303) fun v308 w309 =>
                                              if v302 = v308 then
                                                f_L_law_l38 n x1 x2 (x3 + (7 : Int32)) bc bs w309
                                              else
                                                none
                                            else
                                              if ((wI w 1020 x3.toNatClampNeg) &&& (63 : Int32)) = (20 : Int32) then
                                                gd (inR (x3 + (1 : Int32)) (wN w 1020)) <|
                                                gd (inR (x3 + (2 : Int32)) (wN w 1020)) <|
                                                gd (isC w x1 10) <|
                                                bd (f_X10_medal x1 (wI w 1020 (x3 + (1 : Int32)).toNatClampNeg) (wI w 1020 (x3 + (2 : Int32)).toNatClampNeg) w) fun v316 w317 =>
                                                gd (inR (x3 + (1 : Int32)) (wN w317 1020)) <|
                                                gd (inR (x3 + (2 : Int32)) (wN w317 1020)) <|
                                                gd (isC w317 x2 11) <|
                                                bd (f_X11_medal x2 (wI w317 1020 (x3 + (1 : Int32)).toNatClampNeg) (wI w317 1020 (x3 + (2 : Int32)).toNatClampNeg) w317) fun v322 w323 =>
                                                if v316 = v322 then
                                                  f_L_law_l38 n x1 x2 (x3 + (7 : Int32)) bc bs w323
                                                else
                                                  none
                                              else
                                                if ((wI w 1020 x3.toNatClampNeg) &&& (63 : Int32)) = (21 : Int32) then
                                                  gd (inR (x3 + (1 : Int32)) (wN w 1020)) <|
                                                  gd (isC w x1 10) <|
                                                  bd (f_X10_cost x1 (wI w 1020 (x3 + (1 : Int32)).toNatClampNeg) w) fun v329 w330 =>
                                                  gd (inR (x3 + (1 : Int32)) (wN w330 1020)) <|
                                                  gd (isC w330 x2 11) <|
                                                  bd (f_X11_cost x2 (wI w330 1020 (x3 + (1 : Int32)).toNatClampNeg) w330) fun v334 w335 =>
                                                  if v329 = v334 then
                                                    f_L_law_l38 n x1 x2 (x3 + (7 : Int32)) bc bs w335
                                                  else
                                                    none
                                                else
                                                  if ((wI w 1020 x3.toNatClampNeg) &&& (63 : Int32)) = (22 : Int32) then
                                                    gd (inR (x3 + (1 : Int32)) (wN w 1020)) <|
                                                    gd (isC w x1 10) <|
                                                    bd (f_X10_most x1 (wI w 1020 (x3 + (1 : Int32)).toNatClampNeg) w) fun v341 w342 =>
                                                    gd (inR (x3 + (1 : Int32)) (wN w342 1020)) <|
                                                    gd (isC w342 x2 11) <|
                                                    bd (f_X11_most x2 (wI w342 1020 (x3 + (1 : Int32)).toNatClampNeg) w342) fun v346 w347 =>
                                                    if v341 = v346 then
                                                      f_L_law_l38 n x1 x2 (x3 + (7 : Int32)) bc bs w347
                                                    else
                                                      none
                                                  else
                                                    if ((wI w 1020 x3.toNatClampNeg) &&& (63 : Int32)) = (23 : Int32) then
                                                      gd (inR (x3 + (1 : Int32)) (wN w 1020)) <|
                                                      gd (inR (x3 + (2 : Int32)) (wN w 1020)) <|
                                                      gd (isC w x1 10) <|
                                                      bd (f_X10_minute x1 (wI w 1020 (x3 + (1 : Int32)).toNatClampNeg) (wI w 1020 (x3 + (2 : Int32)).toNatClampNeg) w) fun v354 w355 =>
                                                      gd (inR (x3 + (1 : Int32)) (wN w355 1020)) <|
                                                      gd (inR (x3 + (2 : Int32)) (wN w355 1020)) <|
                                                      gd (isC w355 x2 11) <|
                                                      bd (f_X11_minute x2 (wI w355 1020 (x3 + (1 : Int32)).toNatClampNeg) (wI w355 1020 (x3 + (2 : Int32)).toNatClampNeg) w355) fun v360 w361 =>
                                                      if v354 = v360 then
                                                        f_L_law_l38 n x1 x2 (x3 + (7 : Int32)) bc bs w361
                                                      else
                                                        none
                                                    else
                                                      if ((wI w 1020 x3.toNatClampNeg) &&& (63 : Int32)) = (24 : Int32) then
                                                        gd (isC w x1 10) <|
                                                        bd (f_X10_bell x1 w) fun v366 w367 =>
                                                        gd (isC w367 x2 11) <|
                                                        bd (f_X11_bell x2 w367) fun v370 w371 =>
                                                        if v366 = v370 then
                                                          f_L_law_l38 n x1 x2 (x3 + (7 : Int32)) bc bs w371
                                                        else
                                                          none
                                                      else
                                                        if ((wI w 1020 x3.toNatClampNeg) &&& (63 : Int32)) = (25 : Int32) then
                                                          gd (inR (x3 + (1 : Int32)) (wN w 1020)) <|
                                                          gd (inR (x3 + (2 : Int32)) (wN w 1020)) <|
                                                          gd (isC w x1 10) <|
                                                          bd (f_X10_sight x1 (wI w 1020 (x3 + (1 : Int32)).toNatClampNeg) (wI w 1020 (x3 + (2 : Int32)).toNatClampNeg) w) fun v378 w379 =>
                                                          gd (inR (x3 + (1 : Int32)) (wN w379 1020)) <|
                                                          gd (inR (x3 + (2 : Int32)) (wN w379 1020)) <|
                                                          gd (isC w379 x2 11) <|
                                                          bd (f_X11_sight x2 (wI w379 1020 (x3 + (1 : Int32)).toNatClampNeg) (wI w379 1020 (x3 + (2 : Int32)).toNatClampNeg) w379) fun v384 w385 =>
                                                          if v378 = v384 then
                                                            f_L_law_l38 n x1 x2 (x3 + (7 : Int32)) bc bs w385
                                                          else
                                                            none
                                                        else
                                                          if ((wI w 1020 x3.toNatClampNeg) &&& (63 : Int32)) = (26 : Int32) then
                                                            gd (inR (x3 + (1 : Int32)) (wN w 1020)) <|
                                                            gd (inR (x3 + (2 : Int32)) (wN w 1020)) <|
                                                            gd (isC w x1 10) <|
                                                            bd (f_X10_canBe x1 (wI w 1020 (x3 + (1 : Int32)).toNatClampNeg) (wI w 1020 (x3 + (2 : Int32)).toNatClampNeg) w) fun v392 w393 =>
                                                            gd (inR (x3 + (1 : Int32)) (wN w393 1020)) <|
                                                            gd (inR (x3 + (2 : Int32)) (wN w393 1020)) <|
                                                            gd (isC w393 x2 11) <|
                                                            bd (f_X11_canBe x2 (wI w393 1020 (x3 + (1 : Int32)).toNatClampNeg) (wI w393 1020 (x3 + (2 : Int32)).toNatClampNeg) w393) fun v398 w399 =>
                                                            if v392 = v398 then
                                                              f_L_law_l38 n x1 x2 (x3 + (7 : Int32)) bc bs w399
                                                            else
                                                              none
                                                          else
                                                            if ((wI w 1020 x3.toNatClampNeg) &&& (63 : Int32)) = (27 : Int32) then
                                                              gd (inR (x3 + (1 : Int32)) (wN w 1020)) <|
                                                              gd (isC w x1 10) <|
                                                              bd (f_X10_places x1 (wI w 1020 (x3 + (1 : Int32)).toNatClampNeg) w) fun v405 w406 =>
                                                              gd (inR (x3 + (1 : Int32)) (wN w406 1020)) <|
                                                              gd (isC w406 x2 11) <|
                                                              bd (f_X11_places x2 (wI w406 1020 (x3 + (1 : Int32)).toNatClampNeg) w406) fun v410 w411 =>
                                                              if v405 = v410 then
                                                                f_L_law_l38 n x1 x2 (x3 + (7 : Int32)) bc bs w411
                                                              else
                                                                none
                                                            else
                                                              if ((wI w 1020 x3.toNatClampNeg) &&& (63 : Int32)) = (28 : Int32) then
                                                                gd (isC w x1 10) <|
                                                                bd (f_X10_found x1 w) fun v416 w417 =>
                                                                gd (isC w417 x2 11) <|
                                                                bd (f_X11_found x2 w417) fun v420 w421 =>
                                                                if v416 = v420 then
                                                                  f_L_law_l38 n x1 x2 (x3 + (7 : Int32)) bc bs w421
                                                                else
                                                                  none
                                                              else
                                                                if ((wI w 1020 x3.toNatClampNeg) &&& (63 : Int32)) = (29 : Int32) then
                                                                  gd (inR (x3 + (1 : Int32)) (wN w 1020)) <|
                                                                  gd (inR (x3 + (2 : Int32)) (wN w 1020)) <|
                                                                  gd (isC w x1 10) <|
                                                                  bd (f_X10_sell x1 (wI w 1020 (x3 + (1 : Int32)).toNatClampNeg) (wI w 1020 (x3 + (2 : Int32)).toNatClampNeg) w) fun v428 w429 =>
                                                                  gd (inR (x3 + (1 : Int32)) (wN w429 1020)) <|
                                                                  gd (inR (x3 + (2 : Int32)) (wN w429 1020)) <|
                                                                  gd (isC w429 x2 11) <|
                                                                  bd (f_X11_sell x2 (wI w429 1020 (x3 + (1 : Int32)).toNatClampNeg) (wI w429 1020 (x3 + (2 : Int32)).toNatClampNeg) w429) fun v434 w435 =>
                                                                  if v428 = v434 then
                                                                    f_L_law_l38 n x1 x2 (x3 + (7 : Int32)) bc bs w435
                                                                  else
                                                                    none
                                                                else
                                                                  if ((wI w 1020 x3.toNatClampNeg) &&& (63 : Int32)) = (30 : Int32) then
                                                                    gd (inR (x3 + (1 : Int32)) (wN w 1020)) <|
                                                                    gd (isC w x1 10) <|
                                                                    bd (f_X10_hand x1 (wI w 1020 (x3 + (1 : Int32)).toNatClampNeg) w) fun v441 w442 =>
                                                                    gd (inR (x3 + (1 : Int32)) (wN w442 1020)) <|
                                                                    gd (isC w442 x2 11) <|
                                                                    bd (f_X11_hand x2 (wI w442 1020 (x3 + (1 : Int32)).toNatClampNeg) w442) fun v446 w447 =>
                                                                    if v441 = v446 then
                                                                      f_L_law_l38 n x1 x2 (x3 + (7 : Int32)) bc bs w447
                                                                    else
                                                                      none
                                                                  else
                                                                    if ((wI w 1020 x3.toNatClampNeg) &&& (63 : Int32)) = (31 : Int32) then
                                                                      gd (inR (x3 + (1 : Int32)) (wN w 1020)) <|
                                                                      gd (isC w x1 10) <|
                                                                      bd (f_X10_end x1 (wI w 1020 (x3 + (1 : Int32)).toNatClampNeg) w) fun v453 w454 =>
                                                                      gd (inR (x3 + (1 : Int32)) (wN w454 1020)) <|
                                                                      gd (isC w454 x2 11) <|
                                                                      bd (f_X11_end x2 (wI w454 1020 (x3 + (1 : Int32)).toNatClampNeg) w454) fun v458 w459 =>
                                                                      if v453 = v458 then
                                                                        f_L_law_l38 n x1 x2 (x3 + (7 : Int32)) bc bs w459
                                                                      else
                                                                        none
                                                                    else
                                                                      if ((wI w 1020 x3.toNatClampNeg) &&& (63 : Int32)) = (32 : Int32) then
                                                                        gd (inR (x3 + (1 : Int32)) (wN w 1020)) <|
                                                                        gd (isC w x1 10) <|
                                                                        bd (f_X10_count x1 (wI w 1020 (x3 + (1 : Int32)).toNatClampNeg) w) fun v465 w466 =>
                                                                        gd (inR (x3 + (1 : Int32)) (wN w466 1020)) <|
                                                                        gd (isC w466 x2 11) <|
                                                                        bd (f_X11_count x2 (wI w466 1020 (x3 + (1 : Int32)).toNatClampNeg) w466) fun v470 w471 =>
                                                                        if v465 = v470 then
                                                                          f_L_law_l38 n x1 x2 (x3 + (7 : Int32)) bc bs w471
                                                                        else
                                                                          none
                                                                      else
                                                                        f_L_law_l38 n x1 x2 (x3 + (7 : Int32)) bc bs w) := rfl
/-- WorldHallLaw.law([I)Z -/
def f_L_law (w : xSt) : Option (Int32 × xSt) :=
  gd (wZ w + 1 < 1000) <|
  gd (1 ≤ 600000) <|
  gd (10 ≤ 7302250) <|
  lt1 (wZ w + 1) fun q4 =>
  lt1 (nA w 10 0) fun w6 =>
  bd (f_L_cell (0 : Int32) w6) fun v9 w10 =>
  bd (f_L_cell (1 : Int32) w10) fun v12 w13 =>
  gd (isC w13 q4 10) <|
  gd (55 ≤ (600000 - 1)) <|
  gd (653 ≤ (7302250 - 10)) <|
  bd (f_X10_init q4 v9 v12 w13) fun _ w15 =>
  gd (wZ w15 + 1 < 1000) <|
  gd (1 ≤ ((600000 - 1) - 55)) <|
  gd (50 ≤ ((7302250 - 10) - 653)) <|
  lt1 (wZ w15 + 1) fun q23 =>
  lt1 (nA w15 11 0) fun w25 =>
  bd (f_L_cell (0 : Int32) w25) fun v28 w29 =>
  bd (f_L_cell (1 : Int32) w29) fun v31 w32 =>
  gd (isC w32 q23 11) <|
  gd (30 ≤ (((600000 - 1) - 55) - 1)) <|
  gd (1992 ≤ (((7302250 - 10) - 653) - 50)) <|
  bd (f_X11_init q23 v28 v31 w32) fun _ w34 =>
  f_L_law_l38 xFu q4 q23 (2 : Int32) ((((600000 - 1) - 55) - 1) - 30) ((((7302250 - 10) - 653) - 50) - 1992) w34

set_option maxRecDepth 20000 in
theorem k_X11_inForce_l8 (rE : Int32) (wE : xSt) : ∀ (n : Nat) (x0 : Nat) (x1 : Int32) (x2 : Int32) (x3 : Int32) (x4 : Int32) (w : xSt), f_X11_inForce_l8 n x0 x1 x2 x3 x4 w = some (rE, wE) → xX cX11_inForce 5 (some .int) RX11 false (xRm 0 0 0) (xZf (some (xI rE), wE) 0 0) 8 [(0, xR x0), (1, xI x1), (2, xI x2), (3, xI x3), (4, xI x4)] [] w 0 0 := by
  intro n
  induction n with
  | zero => intro x0 x1 x2 x3 x4 w h; exact nomatch (show (none : Option (Int32 × xSt)) = some (rE, wE) from h)
  | succ n ih =>
    intro x0 x1 x2 x3 x4 w h
    rw [f_X11_inForce_l8_s] at h
    refine x_iload (j := 4) (i := 4) dX11_inForce_8 rfl ?_
    refine x_bipush (v := 6) dX11_inForce_10 (by decide) ?_
    refine x_iload_n (j := 1) (i := 1) dX11_inForce_12 rfl rfl ?_
    refine x_imul dX11_inForce_13 ?_
    refine x_aload_n (j := 0) (i := 0) dX11_inForce_14 rfl rfl ?_
    obtain ⟨g1, h⟩ := gd_some h
    refine x_getR (ci := 11) (k := 18) dX11_inForce_15 lf_RX11_54 rfl g1 ?_
    refine x_iload_n (j := 1) (i := 1) dX11_inForce_18 rfl rfl ?_
    obtain ⟨g2, h⟩ := gd_some h
    obtain ⟨g3, h⟩ := gd_some h
    refine x_iald dX11_inForce_19 g2 g3 ?_
    refine x_iadd dX11_inForce_20 ?_
    refine x_icmp_ge (tgt := 65) dX11_inForce_21 (by decide) (fun hc4 => ?_) (fun hc4 => ?_)
    · rw [if_pos hc4] at h
      refine x_iload_n (j := 3) (i := 3) dX11_inForce_65 rfl rfl ?_
      cases h
      exact x_iret dX11_inForce_66 rfl rfl
    · rw [if_neg hc4] at h
      refine x_aload_n (j := 0) (i := 0) dX11_inForce_24 rfl rfl ?_
      refine x_getR (ci := 11) (k := 19) dX11_inForce_25 lf_RX11_57 rfl g1 ?_
      refine x_iload (j := 4) (i := 4) dX11_inForce_28 rfl ?_
      obtain ⟨g5, h⟩ := gd_some h
      obtain ⟨g6, h⟩ := gd_some h
      refine x_iald dX11_inForce_30 g5 g6 ?_
      refine x_iload_n (j := 2) (i := 2) dX11_inForce_31 rfl rfl ?_
      refine x_icmp_gt (tgt := 59) dX11_inForce_32 (by decide) (fun hc7 => ?_) (fun hc7 => ?_)
      · rw [if_pos hc7] at h
        refine x_iinc (j := 4) (i := 4) (v := x4 + (1 : Int32)) (lv2 := [(4, xI (x4 + (1 : Int32))), (0, xR x0), (1, xI x1), (2, xI x2), (3, xI x3)]) dX11_inForce_59 rfl rfl (by decide) rfl ?_
        refine x_goto (tgt := 8) dX11_inForce_62 (by decide) ?_
        refine x_lv (lv2 := [(0, xR x0), (1, xI x1), (2, xI x2), (3, xI x3), (4, xI (x4 + (1 : Int32)))]) [1, 2, 3, 4, 0] rfl ?_
        exact ih x0 x1 x2 x3 (x4 + (1 : Int32)) w h
      · rw [if_neg hc7] at h
        refine x_iload_n (j := 3) (i := 3) dX11_inForce_35 rfl rfl ?_
        refine x_iconst (v := -1) dX11_inForce_36 (by decide) ?_
        refine x_icmp_eq (tgt := 56) dX11_inForce_37 (by decide) (fun hc8 => ?_) (fun hc8 => ?_)
        · rw [if_pos hc8] at h
          refine x_iload (j := 4) (i := 4) dX11_inForce_56 rfl ?_
          refine x_istore_n (i := 3) (lv2 := [(3, xI x4), (0, xR x0), (1, xI x1), (2, xI x2), (4, xI x4)]) dX11_inForce_58 rfl (by decide) rfl ?_
          refine x_iinc (j := 4) (i := 4) (v := x4 + (1 : Int32)) (lv2 := [(4, xI (x4 + (1 : Int32))), (3, xI x4), (0, xR x0), (1, xI x1), (2, xI x2)]) dX11_inForce_59 rfl rfl (by decide) rfl ?_
          refine x_goto (tgt := 8) dX11_inForce_62 (by decide) ?_
          refine x_lv (lv2 := [(0, xR x0), (1, xI x1), (2, xI x2), (3, xI x4), (4, xI (x4 + (1 : Int32)))]) [2, 3, 4, 1, 0] rfl ?_
          exact ih x0 x1 x2 x4 (x4 + (1 : Int32)) w h
        · rw [if_neg hc8] at h
          refine x_aload_n (j := 0) (i := 0) dX11_inForce_40 rfl rfl ?_
          refine x_getR (ci := 11) (k := 19) dX11_inForce_41 lf_RX11_57 rfl g1 ?_
          refine x_iload (j := 4) (i := 4) dX11_inForce_44 rfl ?_
          refine x_iald dX11_inForce_46 g5 g6 ?_
          refine x_aload_n (j := 0) (i := 0) dX11_inForce_47 rfl rfl ?_
          refine x_getR (ci := 11) (k := 19) dX11_inForce_48 lf_RX11_57 rfl g1 ?_
          refine x_iload_n (j := 3) (i := 3) dX11_inForce_51 rfl rfl ?_
          obtain ⟨g9, h⟩ := gd_some h
          refine x_iald dX11_inForce_52 g5 g9 ?_
          refine x_icmp_lt (tgt := 59) dX11_inForce_53 (by decide) (fun hc10 => ?_) (fun hc10 => ?_)
          · rw [if_pos hc10] at h
            refine x_iinc (j := 4) (i := 4) (v := x4 + (1 : Int32)) (lv2 := [(4, xI (x4 + (1 : Int32))), (0, xR x0), (1, xI x1), (2, xI x2), (3, xI x3)]) dX11_inForce_59 rfl rfl (by decide) rfl ?_
            refine x_goto (tgt := 8) dX11_inForce_62 (by decide) ?_
            refine x_lv (lv2 := [(0, xR x0), (1, xI x1), (2, xI x2), (3, xI x3), (4, xI (x4 + (1 : Int32)))]) [1, 2, 3, 4, 0] rfl ?_
            exact ih x0 x1 x2 x3 (x4 + (1 : Int32)) w h
          · rw [if_neg hc10] at h
            refine x_iload (j := 4) (i := 4) dX11_inForce_56 rfl ?_
            refine x_istore_n (i := 3) (lv2 := [(3, xI x4), (0, xR x0), (1, xI x1), (2, xI x2), (4, xI x4)]) dX11_inForce_58 rfl (by decide) rfl ?_
            refine x_iinc (j := 4) (i := 4) (v := x4 + (1 : Int32)) (lv2 := [(4, xI (x4 + (1 : Int32))), (3, xI x4), (0, xR x0), (1, xI x1), (2, xI x2)]) dX11_inForce_59 rfl rfl (by decide) rfl ?_
            refine x_goto (tgt := 8) dX11_inForce_62 (by decide) ?_
            refine x_lv (lv2 := [(0, xR x0), (1, xI x1), (2, xI x2), (3, xI x4), (4, xI (x4 + (1 : Int32)))]) [2, 3, 4, 1, 0] rfl ?_
            exact ih x0 x1 x2 x4 (x4 + (1 : Int32)) w h
set_option maxRecDepth 20000 in
theorem c_X11_inForce (x0 : Nat) (x1 : Int32) (x2 : Int32) (w : xSt) (rE : Int32) (wE : xSt) (h : f_X11_inForce x0 x1 x2 w = some (rE, wE)) : xCall yX11_inForce cX11_inForce 5 (some .int) 0 0 0 [xR x0, xI x1, xI x2] w (some (xI rE), wE) := by
  refine xCall_of false (by decide) (fun q => nomatch q) (by decide) ?_
  show xX cX11_inForce 5 (some .int) RX11 false (xRm 0 0 0) (xZf (some (xI rE), wE) 0 0) 0 [(0, xR x0), (1, xI x1), (2, xI x2)] [] w 0 0
  unfold f_X11_inForce at h
  refine x_iconst (v := -1) dX11_inForce_0 (by decide) ?_
  refine x_istore_n (i := 3) (lv2 := [(3, xI (-1 : Int32)), (0, xR x0), (1, xI x1), (2, xI x2)]) dX11_inForce_1 rfl (by decide) rfl ?_
  refine x_bipush (v := 6) dX11_inForce_2 (by decide) ?_
  refine x_iload_n (j := 2) (i := 1) dX11_inForce_4 rfl rfl ?_
  refine x_imul dX11_inForce_5 ?_
  refine x_istore (i := 4) (lv2 := [(4, xI ((6 : Int32) * x1)), (3, xI (-1 : Int32)), (0, xR x0), (1, xI x1), (2, xI x2)]) dX11_inForce_6 (by decide) rfl ?_
  refine x_lv (lv2 := [(0, xR x0), (1, xI x1), (2, xI x2), (3, xI (-1 : Int32)), (4, xI ((6 : Int32) * x1))]) [2, 3, 4, 1, 0] rfl ?_
  exact k_X11_inForce_l8 rE wE xFu x0 x1 x2 (-1 : Int32) ((6 : Int32) * x1) w h
set_option maxRecDepth 20000 in
theorem c_X11_juror (x0 : Nat) (x1 : Int32) (x2 : Int32) (w : xSt) (rE : Int32) (wE : xSt) (h : f_X11_juror x0 x1 x2 w = some (rE, wE)) : xCall yX11_juror cX11_juror 3 (some .int) 1 0 0 [xR x0, xI x1, xI x2] w (some (xI rE), wE) := by
  refine xCall_of false (by decide) (fun q => nomatch q) (by decide) ?_
  show xX cX11_juror 3 (some .int) RX11 false (xRm 1 0 0) (xZf (some (xI rE), wE) 0 0) 0 [(0, xR x0), (1, xI x1), (2, xI x2)] [] w 0 0
  unfold f_X11_juror at h
  refine x_iload_n (j := 1) (i := 1) dX11_juror_0 rfl rfl ?_
  refine x_iconst (v := 0) dX11_juror_1 (by decide) ?_
  refine x_bipush (v := 7) dX11_juror_2 (by decide) ?_
  obtain ⟨v1, w2, hc3, h⟩ := bd_s h
  refine x_callSI dX11_juror_4 ml_RX11_117 mb_X11_in (c_X11_in x1 (0 : Int32) (7 : Int32) w v1 w2 hc3) [] rfl rfl (by decide) (by decide) (by decide) ?_
  refine x_if_eq (tgt := 20) dX11_juror_7 (by decide) (fun hc4 => ?_) (fun hc4 => ?_)
  · rw [if_pos hc4] at h
    refine x_bipush (v := -2) dX11_juror_20 (by decide) ?_
    cases h
    exact x_iret dX11_juror_22 rfl rfl
  · rw [if_neg hc4] at h
    refine x_iload_n (j := 2) (i := 2) dX11_juror_10 rfl rfl ?_
    refine x_iconst (v := 0) dX11_juror_11 (by decide) ?_
    refine x_bipush (v := 9) dX11_juror_12 (by decide) ?_
    obtain ⟨v5, w6, hc7, h⟩ := bd_s h
    refine x_callSI dX11_juror_14 ml_RX11_117 mb_X11_in (c_X11_in x2 (0 : Int32) (9 : Int32) w2 v5 w6 hc7) [] rfl rfl (by decide) (by decide) (by decide) ?_
    refine x_if_ne (tgt := 23) dX11_juror_17 (by decide) (fun hc8 => ?_) (fun hc8 => ?_)
    · rw [if_neg hc8] at h
      refine x_aload_n (j := 0) (i := 0) dX11_juror_23 rfl rfl ?_
      obtain ⟨g9, h⟩ := gd_some h
      refine x_getI (ci := 11) (k := 24) dX11_juror_24 lf_RX11_169 rfl g9 ?_
      refine x_bipush (v := 12) dX11_juror_27 (by decide) ?_
      refine x_icmp_ne (tgt := 35) dX11_juror_29 (by decide) (fun hc10 => ?_) (fun hc10 => ?_)
      · rw [if_neg hc10] at h
        refine x_aload_n (j := 0) (i := 0) dX11_juror_35 rfl rfl ?_
        refine x_getR (ci := 11) (k := 25) dX11_juror_36 lf_RX11_72 rfl g9 ?_
        refine x_aload_n (j := 0) (i := 0) dX11_juror_39 rfl rfl ?_
        refine x_getI (ci := 11) (k := 24) dX11_juror_40 lf_RX11_169 rfl g9 ?_
        refine x_iload_n (j := 1) (i := 1) dX11_juror_43 rfl rfl ?_
        obtain ⟨g11, h⟩ := gd_some h
        obtain ⟨g12, h⟩ := gd_some h
        obtain ⟨w13, hw14, h⟩ := lt1_some h
        refine x_iast dX11_juror_44 g11 g12 ?_
        rw [← hw14]
        refine x_aload_n (j := 0) (i := 0) dX11_juror_45 rfl rfl ?_
        have g15 : isC w13 x0 11 := by rw [hw14]; exact g9
        refine x_getR (ci := 11) (k := 26) dX11_juror_46 lf_RX11_75 rfl g15 ?_
        refine x_aload_n (j := 0) (i := 0) dX11_juror_49 rfl rfl ?_
        refine x_getI (ci := 11) (k := 24) dX11_juror_50 lf_RX11_169 rfl g15 ?_
        refine x_iload_n (j := 2) (i := 2) dX11_juror_53 rfl rfl ?_
        obtain ⟨g16, h⟩ := gd_some h
        obtain ⟨g17, h⟩ := gd_some h
        obtain ⟨w18, hw19, h⟩ := lt1_some h
        refine x_iast dX11_juror_54 g16 g17 ?_
        rw [← hw19]
        refine x_aload_n (j := 0) (i := 0) dX11_juror_55 rfl rfl ?_
        refine x_dup dX11_juror_56 rfl ?_
        have g20 : isC w18 x0 11 := by rw [hw19]; exact g15
        refine x_getI (ci := 11) (k := 24) dX11_juror_57 lf_RX11_169 rfl g20 ?_
        refine x_iconst (v := 1) dX11_juror_60 (by decide) ?_
        refine x_iadd dX11_juror_61 ?_
        obtain ⟨w21, hw22, h⟩ := lt1_some h
        refine x_putI (ci := 11) (k := 24) dX11_juror_62 (lw_RX11_169_w _) rfl g20 ?_
        rw [← hw22]
        refine x_aload_n (j := 0) (i := 0) dX11_juror_65 rfl rfl ?_
        have g23 : isC w21 x0 11 := by rw [hw22]; exact g20
        refine x_getI (ci := 11) (k := 24) dX11_juror_66 lf_RX11_169 rfl g23 ?_
        refine x_iconst (v := 1) dX11_juror_69 (by decide) ?_
        refine x_isub dX11_juror_70 ?_
        cases h
        exact x_iret dX11_juror_71 rfl rfl
      · rw [if_pos hc10] at h
        refine x_bipush (v := -4) dX11_juror_32 (by decide) ?_
        cases h
        exact x_iret dX11_juror_34 rfl rfl
    · rw [if_pos hc8] at h
      refine x_bipush (v := -2) dX11_juror_20 (by decide) ?_
      cases h
      exact x_iret dX11_juror_22 rfl rfl
set_option maxRecDepth 20000 in
theorem c_X11_mark (x0 : Nat) (x1 : Int32) (x2 : Int32) (x3 : Int32) (x4 : Int32) (w : xSt) (rE : Int32) (wE : xSt) (h : f_X11_mark x0 x1 x2 x3 x4 w = some (rE, wE)) : xCall yX11_mark cX11_mark 6 (some .int) 2 0 0 [xR x0, xI x1, xI x2, xI x3, xI x4] w (some (xI rE), wE) := by
  refine xCall_of false (by decide) (fun q => nomatch q) (by decide) ?_
  show xX cX11_mark 6 (some .int) RX11 false (xRm 2 0 0) (xZf (some (xI rE), wE) 0 0) 0 [(0, xR x0), (1, xI x1), (2, xI x2), (3, xI x3), (4, xI x4)] [] w 0 0
  unfold f_X11_mark at h
  refine x_iload_n (j := 1) (i := 1) dX11_mark_0 rfl rfl ?_
  refine x_iconst (v := 0) dX11_mark_1 (by decide) ?_
  refine x_aload_n (j := 0) (i := 0) dX11_mark_2 rfl rfl ?_
  obtain ⟨g1, h⟩ := gd_some h
  refine x_getI (ci := 11) (k := 24) dX11_mark_3 lf_RX11_169 rfl g1 ?_
  refine x_iconst (v := 1) dX11_mark_6 (by decide) ?_
  refine x_isub dX11_mark_7 ?_
  obtain ⟨v2, w3, hc4, h⟩ := bd_s h
  refine x_callSI dX11_mark_8 ml_RX11_117 mb_X11_in (c_X11_in x1 (0 : Int32) ((wI w x0 24) - (1 : Int32)) w v2 w3 hc4) [] rfl rfl (by decide) (by decide) (by decide) ?_
  refine x_if_eq (tgt := 22) dX11_mark_11 (by decide) (fun hc5 => ?_) (fun hc5 => ?_)
  · rw [if_pos hc5] at h
    refine x_bipush (v := -5) dX11_mark_22 (by decide) ?_
    cases h
    exact x_iret dX11_mark_24 rfl rfl
  · rw [if_neg hc5] at h
    refine x_aload_n (j := 0) (i := 0) dX11_mark_14 rfl rfl ?_
    refine x_iload_n (j := 2) (i := 2) dX11_mark_15 rfl rfl ?_
    obtain ⟨g9, h⟩ := gd_some h
    obtain ⟨v6, w7, hc8, h⟩ := bd_s h
    refine x_callVI (ci := 11) dX11_mark_16 ml_RX11_124 mb_X11_isStand (c_X11_isStand x0 x2 w3 v6 w7 hc8) ⟨_, rfl, rfl⟩ g9 [] rfl rfl (by decide) (by decide) (by decide) ?_
    refine x_if_ne (tgt := 25) dX11_mark_19 (by decide) (fun hc10 => ?_) (fun hc10 => ?_)
    · rw [if_neg hc10] at h
      refine x_iload_n (j := 3) (i := 3) dX11_mark_25 rfl rfl ?_
      refine x_iconst (v := 0) dX11_mark_26 (by decide) ?_
      refine x_bipush (v := 100) dX11_mark_27 (by decide) ?_
      obtain ⟨v11, w12, hc13, h⟩ := bd_s h
      refine x_callSI dX11_mark_29 ml_RX11_117 mb_X11_in (c_X11_in x3 (0 : Int32) (100 : Int32) w7 v11 w12 hc13) [] rfl rfl (by decide) (by decide) (by decide) ?_
      refine x_if_eq (tgt := 47) dX11_mark_32 (by decide) (fun hc14 => ?_) (fun hc14 => ?_)
      · rw [if_pos hc14] at h
        refine x_bipush (v := -2) dX11_mark_47 (by decide) ?_
        cases h
        exact x_iret dX11_mark_49 rfl rfl
      · rw [if_neg hc14] at h
        refine x_iload (j := 4) (i := 4) dX11_mark_35 rfl ?_
        refine x_iconst (v := 0) dX11_mark_37 (by decide) ?_
        refine x_sipush (v := 999) dX11_mark_38 (by decide) ?_
        obtain ⟨v15, w16, hc17, h⟩ := bd_s h
        refine x_callSI dX11_mark_41 ml_RX11_117 mb_X11_in (c_X11_in x4 (0 : Int32) (999 : Int32) w12 v15 w16 hc17) [] rfl rfl (by decide) (by decide) (by decide) ?_
        refine x_if_ne (tgt := 50) dX11_mark_44 (by decide) (fun hc18 => ?_) (fun hc18 => ?_)
        · rw [if_neg hc18] at h
          refine x_aload_n (j := 0) (i := 0) dX11_mark_50 rfl rfl ?_
          obtain ⟨g19, h⟩ := gd_some h
          refine x_getR (ci := 11) (k := 25) dX11_mark_51 lf_RX11_72 rfl g19 ?_
          refine x_iload_n (j := 1) (i := 1) dX11_mark_54 rfl rfl ?_
          obtain ⟨g20, h⟩ := gd_some h
          obtain ⟨g21, h⟩ := gd_some h
          refine x_iald dX11_mark_55 g20 g21 ?_
          refine x_aload_n (j := 0) (i := 0) dX11_mark_56 rfl rfl ?_
          refine x_getR (ci := 11) (k := 7) dX11_mark_57 lf_RX11_23 rfl g19 ?_
          refine x_iload_n (j := 2) (i := 2) dX11_mark_60 rfl rfl ?_
          obtain ⟨g22, h⟩ := gd_some h
          obtain ⟨g23, h⟩ := gd_some h
          refine x_iald dX11_mark_61 g22 g23 ?_
          refine x_icmp_eq (tgt := 80) dX11_mark_62 (by decide) (fun hc24 => ?_) (fun hc24 => ?_)
          · rw [if_pos hc24] at h
            refine x_bipush (v := -3) dX11_mark_80 (by decide) ?_
            cases h
            exact x_iret dX11_mark_82 rfl rfl
          · rw [if_neg hc24] at h
            refine x_aload_n (j := 0) (i := 0) dX11_mark_65 rfl rfl ?_
            refine x_getR (ci := 11) (k := 26) dX11_mark_66 lf_RX11_75 rfl g19 ?_
            refine x_iload_n (j := 1) (i := 1) dX11_mark_69 rfl rfl ?_
            obtain ⟨g25, h⟩ := gd_some h
            obtain ⟨g26, h⟩ := gd_some h
            refine x_iald dX11_mark_70 g25 g26 ?_
            refine x_aload_n (j := 0) (i := 0) dX11_mark_71 rfl rfl ?_
            refine x_getR (ci := 11) (k := 8) dX11_mark_72 lf_RX11_26 rfl g19 ?_
            refine x_iload_n (j := 2) (i := 2) dX11_mark_75 rfl rfl ?_
            obtain ⟨g27, h⟩ := gd_some h
            obtain ⟨g28, h⟩ := gd_some h
            refine x_iald dX11_mark_76 g27 g28 ?_
            refine x_icmp_eq (tgt := 83) dX11_mark_77 (by decide) (fun hc29 => ?_) (fun hc29 => ?_)
            · rw [if_pos hc29] at h
              refine x_aload_n (j := 0) (i := 0) dX11_mark_83 rfl rfl ?_
              refine x_getR (ci := 11) (k := 27) dX11_mark_84 lf_RX11_78 rfl g19 ?_
              refine x_bipush (v := 9) dX11_mark_87 (by decide) ?_
              refine x_iload_n (j := 1) (i := 1) dX11_mark_89 rfl rfl ?_
              refine x_imul dX11_mark_90 ?_
              refine x_iload_n (j := 2) (i := 2) dX11_mark_91 rfl rfl ?_
              refine x_iadd dX11_mark_92 ?_
              obtain ⟨g30, h⟩ := gd_some h
              obtain ⟨g31, h⟩ := gd_some h
              refine x_iald dX11_mark_93 g30 g31 ?_
              refine x_istore (i := 5) (lv2 := [(5, xI (wI w16 (wR w16 x0 27) (((9 : Int32) * x1) + x2).toNatClampNeg)), (0, xR x0), (1, xI x1), (2, xI x2), (3, xI x3), (4, xI x4)]) dX11_mark_94 (by decide) rfl ?_
              refine x_aload_n (j := 1) (i := 0) dX11_mark_96 rfl rfl ?_
              refine x_getR (ci := 11) (k := 27) dX11_mark_97 lf_RX11_78 rfl g19 ?_
              refine x_bipush (v := 9) dX11_mark_100 (by decide) ?_
              refine x_iload_n (j := 2) (i := 1) dX11_mark_102 rfl rfl ?_
              refine x_imul dX11_mark_103 ?_
              refine x_iload_n (j := 3) (i := 2) dX11_mark_104 rfl rfl ?_
              refine x_iadd dX11_mark_105 ?_
              refine x_iload_n (j := 4) (i := 3) dX11_mark_106 rfl rfl ?_
              obtain ⟨w32, hw33, h⟩ := lt1_some h
              refine x_iast dX11_mark_107 g30 g31 ?_
              rw [← hw33]
              refine x_aload_n (j := 1) (i := 0) dX11_mark_108 rfl rfl ?_
              have g34 : isC w32 x0 11 := by rw [hw33]; exact g19
              refine x_getR (ci := 11) (k := 28) dX11_mark_109 lf_RX11_81 rfl g34 ?_
              refine x_bipush (v := 9) dX11_mark_112 (by decide) ?_
              refine x_iload_n (j := 2) (i := 1) dX11_mark_114 rfl rfl ?_
              refine x_imul dX11_mark_115 ?_
              refine x_iload_n (j := 3) (i := 2) dX11_mark_116 rfl rfl ?_
              refine x_iadd dX11_mark_117 ?_
              refine x_iload (j := 5) (i := 4) dX11_mark_118 rfl ?_
              obtain ⟨g35, h⟩ := gd_some h
              obtain ⟨g36, h⟩ := gd_some h
              obtain ⟨w37, hw38, h⟩ := lt1_some h
              refine x_iast dX11_mark_120 g35 g36 ?_
              rw [← hw38]
              refine x_iload (j := 0) (i := 5) dX11_mark_121 rfl ?_
              cases h
              exact x_iret dX11_mark_123 rfl rfl
            · rw [if_neg hc29] at h
              refine x_bipush (v := -3) dX11_mark_80 (by decide) ?_
              cases h
              exact x_iret dX11_mark_82 rfl rfl
        · rw [if_pos hc18] at h
          refine x_bipush (v := -2) dX11_mark_47 (by decide) ?_
          cases h
          exact x_iret dX11_mark_49 rfl rfl
    · rw [if_pos hc10] at h
      refine x_bipush (v := -5) dX11_mark_22 (by decide) ?_
      cases h
      exact x_iret dX11_mark_24 rfl rfl
set_option maxRecDepth 20000 in
theorem k_X11_meanOf_l8 (rE : Int32) (wE : xSt) : ∀ (n : Nat) (x0 : Nat) (x1 : Int32) (x2 : Int32) (x3 : Int32) (x4 : Int32) (x5 : Int32) (w : xSt), f_X11_meanOf_l8 n x0 x1 x2 x3 x4 x5 w = some (rE, wE) → xX cX11_meanOf 7 (some .int) RX11 false (xRm 0 0 0) (xZf (some (xI rE), wE) 0 0) 8 [(0, xR x0), (1, xI x1), (2, xI x2), (3, xI x3), (4, xI x4), (5, xI x5)] [] w 0 0 := by
  intro n
  induction n with
  | zero => intro x0 x1 x2 x3 x4 x5 w h; exact nomatch (show (none : Option (Int32 × xSt)) = some (rE, wE) from h)
  | succ n ih =>
    intro x0 x1 x2 x3 x4 x5 w h
    rw [f_X11_meanOf_l8_s] at h
    refine x_iload (j := 5) (i := 5) dX11_meanOf_8 rfl ?_
    refine x_aload_n (j := 0) (i := 0) dX11_meanOf_10 rfl rfl ?_
    obtain ⟨g1, h⟩ := gd_some h
    refine x_getI (ci := 11) (k := 24) dX11_meanOf_11 lf_RX11_169 rfl g1 ?_
    refine x_icmp_ge (tgt := 69) dX11_meanOf_14 (by decide) (fun hc2 => ?_) (fun hc2 => ?_)
    · rw [if_pos hc2] at h
      refine x_iload_n (j := 3) (i := 3) dX11_meanOf_69 rfl rfl ?_
      refine x_iconst (v := 2) dX11_meanOf_70 (by decide) ?_
      refine x_icmp_ge (tgt := 78) dX11_meanOf_71 (by decide) (fun hc3 => ?_) (fun hc3 => ?_)
      · rw [if_pos hc3] at h
        refine x_iload (j := 4) (i := 4) dX11_meanOf_78 rfl ?_
        refine x_iload_n (j := 3) (i := 3) dX11_meanOf_80 rfl rfl ?_
        obtain ⟨g4, h⟩ := gd_some h
        refine x_idiv dX11_meanOf_81 g4 ?_
        cases h
        exact x_iret dX11_meanOf_82 rfl rfl
      · rw [if_neg hc3] at h
        refine x_iconst (v := -1) dX11_meanOf_74 (by decide) ?_
        refine x_goto (tgt := 82) dX11_meanOf_75 (by decide) ?_
        cases h
        exact x_iret dX11_meanOf_82 rfl rfl
    · rw [if_neg hc2] at h
      refine x_bipush (v := 9) dX11_meanOf_17 (by decide) ?_
      refine x_iload (j := 5) (i := 5) dX11_meanOf_19 rfl ?_
      refine x_imul dX11_meanOf_21 ?_
      refine x_iload_n (j := 1) (i := 1) dX11_meanOf_22 rfl rfl ?_
      refine x_iadd dX11_meanOf_23 ?_
      refine x_istore (i := 6) (lv2 := [(6, xI (((9 : Int32) * x5) + x1)), (0, xR x0), (1, xI x1), (2, xI x2), (3, xI x3), (4, xI x4), (5, xI x5)]) dX11_meanOf_24 (by decide) rfl ?_
      refine x_aload_n (j := 1) (i := 0) dX11_meanOf_26 rfl rfl ?_
      refine x_getR (ci := 11) (k := 27) dX11_meanOf_27 lf_RX11_78 rfl g1 ?_
      refine x_iload (j := 0) (i := 6) dX11_meanOf_30 rfl ?_
      obtain ⟨g5, h⟩ := gd_some h
      obtain ⟨g6, h⟩ := gd_some h
      refine x_iald dX11_meanOf_32 g5 g6 ?_
      refine x_iconst (v := -1) dX11_meanOf_33 (by decide) ?_
      refine x_icmp_eq (tgt := 63) dX11_meanOf_34 (by decide) (fun hc7 => ?_) (fun hc7 => ?_)
      · rw [if_pos hc7] at h
        refine x_iinc (j := 6) (i := 5) (v := x5 + (1 : Int32)) (lv2 := [(5, xI (x5 + (1 : Int32))), (6, xI (((9 : Int32) * x5) + x1)), (0, xR x0), (1, xI x1), (2, xI x2), (3, xI x3), (4, xI x4)]) dX11_meanOf_63 rfl rfl (by decide) rfl ?_
        refine x_goto (tgt := 8) dX11_meanOf_66 (by decide) ?_
        refine x_lv (lv2 := [(0, xR x0), (1, xI x1), (2, xI x2), (3, xI x3), (4, xI x4), (5, xI (x5 + (1 : Int32)))]) [2, 3, 4, 5, 6, 0] rfl ?_
        exact ih x0 x1 x2 x3 x4 (x5 + (1 : Int32)) w h
      · rw [if_neg hc7] at h
        refine x_aload_n (j := 1) (i := 0) dX11_meanOf_37 rfl rfl ?_
        refine x_getR (ci := 11) (k := 28) dX11_meanOf_38 lf_RX11_81 rfl g1 ?_
        refine x_iload (j := 0) (i := 6) dX11_meanOf_41 rfl ?_
        obtain ⟨g8, h⟩ := gd_some h
        obtain ⟨g9, h⟩ := gd_some h
        refine x_iald dX11_meanOf_43 g8 g9 ?_
        refine x_iload_n (j := 3) (i := 2) dX11_meanOf_44 rfl rfl ?_
        refine x_icmp_gt (tgt := 63) dX11_meanOf_45 (by decide) (fun hc10 => ?_) (fun hc10 => ?_)
        · rw [if_pos hc10] at h
          refine x_iinc (j := 6) (i := 5) (v := x5 + (1 : Int32)) (lv2 := [(5, xI (x5 + (1 : Int32))), (6, xI (((9 : Int32) * x5) + x1)), (0, xR x0), (1, xI x1), (2, xI x2), (3, xI x3), (4, xI x4)]) dX11_meanOf_63 rfl rfl (by decide) rfl ?_
          refine x_goto (tgt := 8) dX11_meanOf_66 (by decide) ?_
          refine x_lv (lv2 := [(0, xR x0), (1, xI x1), (2, xI x2), (3, xI x3), (4, xI x4), (5, xI (x5 + (1 : Int32)))]) [2, 3, 4, 5, 6, 0] rfl ?_
          exact ih x0 x1 x2 x3 x4 (x5 + (1 : Int32)) w h
        · rw [if_neg hc10] at h
          refine x_iinc (j := 4) (i := 3) (v := x3 + (1 : Int32)) (lv2 := [(3, xI (x3 + (1 : Int32))), (6, xI (((9 : Int32) * x5) + x1)), (0, xR x0), (1, xI x1), (2, xI x2), (4, xI x4), (5, xI x5)]) dX11_meanOf_48 rfl rfl (by decide) rfl ?_
          refine x_iload (j := 5) (i := 4) dX11_meanOf_51 rfl ?_
          refine x_aload_n (j := 2) (i := 0) dX11_meanOf_53 rfl rfl ?_
          refine x_getR (ci := 11) (k := 27) dX11_meanOf_54 lf_RX11_78 rfl g1 ?_
          refine x_iload (j := 1) (i := 6) dX11_meanOf_57 rfl ?_
          refine x_iald dX11_meanOf_59 g5 g6 ?_
          refine x_iadd dX11_meanOf_60 ?_
          refine x_istore (i := 4) (lv2 := [(4, xI (x4 + (wI w (wR w x0 27) (((9 : Int32) * x5) + x1).toNatClampNeg))), (3, xI (x3 + (1 : Int32))), (6, xI (((9 : Int32) * x5) + x1)), (0, xR x0), (1, xI x1), (2, xI x2), (5, xI x5)]) dX11_meanOf_61 (by decide) rfl ?_
          refine x_iinc (j := 6) (i := 5) (v := x5 + (1 : Int32)) (lv2 := [(5, xI (x5 + (1 : Int32))), (4, xI (x4 + (wI w (wR w x0 27) (((9 : Int32) * x5) + x1).toNatClampNeg))), (3, xI (x3 + (1 : Int32))), (6, xI (((9 : Int32) * x5) + x1)), (0, xR x0), (1, xI x1), (2, xI x2)]) dX11_meanOf_63 rfl rfl (by decide) rfl ?_
          refine x_goto (tgt := 8) dX11_meanOf_66 (by decide) ?_
          refine x_lv (lv2 := [(0, xR x0), (1, xI x1), (2, xI x2), (3, xI (x3 + (1 : Int32))), (4, xI (x4 + (wI w (wR w x0 27) (((9 : Int32) * x5) + x1).toNatClampNeg))), (5, xI (x5 + (1 : Int32)))]) [4, 5, 6, 2, 1, 0] rfl ?_
          exact ih x0 x1 x2 (x3 + (1 : Int32)) (x4 + (wI w (wR w x0 27) (((9 : Int32) * x5) + x1).toNatClampNeg)) (x5 + (1 : Int32)) w h
set_option maxRecDepth 20000 in
theorem c_X11_meanOf (x0 : Nat) (x1 : Int32) (x2 : Int32) (w : xSt) (rE : Int32) (wE : xSt) (h : f_X11_meanOf x0 x1 x2 w = some (rE, wE)) : xCall yX11_meanOf cX11_meanOf 7 (some .int) 0 0 0 [xR x0, xI x1, xI x2] w (some (xI rE), wE) := by
  refine xCall_of false (by decide) (fun q => nomatch q) (by decide) ?_
  show xX cX11_meanOf 7 (some .int) RX11 false (xRm 0 0 0) (xZf (some (xI rE), wE) 0 0) 0 [(0, xR x0), (1, xI x1), (2, xI x2)] [] w 0 0
  unfold f_X11_meanOf at h
  refine x_iconst (v := 0) dX11_meanOf_0 (by decide) ?_
  refine x_istore_n (i := 3) (lv2 := [(3, xI (0 : Int32)), (0, xR x0), (1, xI x1), (2, xI x2)]) dX11_meanOf_1 rfl (by decide) rfl ?_
  refine x_iconst (v := 0) dX11_meanOf_2 (by decide) ?_
  refine x_istore (i := 4) (lv2 := [(4, xI (0 : Int32)), (3, xI (0 : Int32)), (0, xR x0), (1, xI x1), (2, xI x2)]) dX11_meanOf_3 (by decide) rfl ?_
  refine x_iconst (v := 0) dX11_meanOf_5 (by decide) ?_
  refine x_istore (i := 5) (lv2 := [(5, xI (0 : Int32)), (4, xI (0 : Int32)), (3, xI (0 : Int32)), (0, xR x0), (1, xI x1), (2, xI x2)]) dX11_meanOf_6 (by decide) rfl ?_
  refine x_lv (lv2 := [(0, xR x0), (1, xI x1), (2, xI x2), (3, xI (0 : Int32)), (4, xI (0 : Int32)), (5, xI (0 : Int32))]) [3, 4, 5, 2, 1, 0] rfl ?_
  exact k_X11_meanOf_l8 rE wE xFu x0 x1 x2 (0 : Int32) (0 : Int32) (0 : Int32) w h
set_option maxRecDepth 20000 in
theorem c_X11_mean (x0 : Nat) (x1 : Int32) (x2 : Int32) (w : xSt) (rE : Int32) (wE : xSt) (h : f_X11_mean x0 x1 x2 w = some (rE, wE)) : xCall yX11_mean cX11_mean 3 (some .int) 2 0 0 [xR x0, xI x1, xI x2] w (some (xI rE), wE) := by
  refine xCall_of false (by decide) (fun q => nomatch q) (by decide) ?_
  show xX cX11_mean 3 (some .int) RX11 false (xRm 2 0 0) (xZf (some (xI rE), wE) 0 0) 0 [(0, xR x0), (1, xI x1), (2, xI x2)] [] w 0 0
  unfold f_X11_mean at h
  refine x_aload_n (j := 0) (i := 0) dX11_mean_0 rfl rfl ?_
  refine x_iload_n (j := 1) (i := 1) dX11_mean_1 rfl rfl ?_
  obtain ⟨g4, h⟩ := gd_some h
  obtain ⟨v1, w2, hc3, h⟩ := bd_s h
  refine x_callVI (ci := 11) dX11_mean_2 ml_RX11_124 mb_X11_isStand (c_X11_isStand x0 x1 w v1 w2 hc3) ⟨_, rfl, rfl⟩ g4 [] rfl rfl (by decide) (by decide) (by decide) ?_
  refine x_if_eq (tgt := 17) dX11_mean_5 (by decide) (fun hc5 => ?_) (fun hc5 => ?_)
  · rw [if_pos hc5] at h
    refine x_iconst (v := -1) dX11_mean_17 (by decide) ?_
    cases h
    exact x_iret dX11_mean_18 rfl rfl
  · rw [if_neg hc5] at h
    refine x_aload_n (j := 0) (i := 0) dX11_mean_8 rfl rfl ?_
    refine x_iload_n (j := 1) (i := 1) dX11_mean_9 rfl rfl ?_
    refine x_iload_n (j := 2) (i := 2) dX11_mean_10 rfl rfl ?_
    obtain ⟨g9, h⟩ := gd_some h
    obtain ⟨v6, w7, hc8, h⟩ := bd_s h
    refine x_callVI (ci := 11) dX11_mean_11 ml_RX11_242 mb_X11_meanOf (c_X11_meanOf x0 x1 x2 w2 v6 w7 hc8) ⟨_, rfl, rfl⟩ g9 [] rfl rfl (by decide) (by decide) (by decide) ?_
    refine x_goto (tgt := 18) dX11_mean_14 (by decide) ?_
    cases h
    exact x_iret dX11_mean_18 rfl rfl
set_option maxRecDepth 20000 in
theorem k_X11_medal_l28 (rE : Int32) (wE : xSt) : ∀ (n : Nat) (x0 : Nat) (x3 : Int32) (x4 : Int32) (x5 : Int32) (w : xSt), f_X11_medal_l28 n x0 x3 x4 x5 w = some (rE, wE) → xX cX11_medal 6 (some .int) RX11 false (xRm 2 0 0) (xZf (some (xI rE), wE) 0 0) 28 [(0, xR x0), (3, xI x3), (4, xI x4), (5, xI x5)] [] w 0 0 := by
  intro n
  induction n with
  | zero => intro x0 x3 x4 x5 w h; exact nomatch (show (none : Option (Int32 × xSt)) = some (rE, wE) from h)
  | succ n ih =>
    intro x0 x3 x4 x5 w h
    rw [f_X11_medal_l28_s] at h
    refine x_iload (j := 3) (i := 5) dX11_medal_28 rfl ?_
    refine x_iconst (v := 3) dX11_medal_30 (by decide) ?_
    refine x_icmp_ge (tgt := 88) dX11_medal_31 (by decide) (fun hc14 => ?_) (fun hc14 => ?_)
    · rw [if_pos hc14] at h
      refine x_iconst (v := 0) dX11_medal_88 (by decide) ?_
      cases h
      exact x_iret dX11_medal_89 rfl rfl
    · rw [if_neg hc14] at h
      refine x_iload_n (j := 1) (i := 3) dX11_medal_34 rfl rfl ?_
      refine x_iconst (v := -1) dX11_medal_35 (by decide) ?_
      refine x_icmp_eq (tgt := 88) dX11_medal_36 (by decide) (fun hc15 => ?_) (fun hc15 => ?_)
      · rw [if_pos hc15] at h
        refine x_iconst (v := 0) dX11_medal_88 (by decide) ?_
        cases h
        exact x_iret dX11_medal_89 rfl rfl
      · rw [if_neg hc15] at h
        refine x_iload (j := 2) (i := 4) dX11_medal_39 rfl ?_
        refine x_iconst (v := -1) dX11_medal_41 (by decide) ?_
        refine x_icmp_eq (tgt := 88) dX11_medal_42 (by decide) (fun hc16 => ?_) (fun hc16 => ?_)
        · rw [if_pos hc16] at h
          refine x_iconst (v := 0) dX11_medal_88 (by decide) ?_
          cases h
          exact x_iret dX11_medal_89 rfl rfl
        · rw [if_neg hc16] at h
          refine x_aload_n (j := 0) (i := 0) dX11_medal_45 rfl rfl ?_
          obtain ⟨g17, h⟩ := gd_some h
          refine x_getR (ci := 11) (k := 20) dX11_medal_46 lf_RX11_60 rfl g17 ?_
          refine x_iconst (v := 3) dX11_medal_49 (by decide) ?_
          refine x_iload (j := 2) (i := 4) dX11_medal_50 rfl ?_
          refine x_imul dX11_medal_52 ?_
          refine x_iload (j := 3) (i := 5) dX11_medal_53 rfl ?_
          refine x_iadd dX11_medal_55 ?_
          obtain ⟨g18, h⟩ := gd_some h
          obtain ⟨g19, h⟩ := gd_some h
          refine x_iald dX11_medal_56 g18 g19 ?_
          refine x_iconst (v := -1) dX11_medal_57 (by decide) ?_
          refine x_icmp_eq (tgt := 82) dX11_medal_58 (by decide) (fun hc20 => ?_) (fun hc20 => ?_)
          · rw [if_pos hc20] at h
            refine x_iinc (j := 3) (i := 5) (v := x5 + (1 : Int32)) (lv2 := [(5, xI (x5 + (1 : Int32))), (0, xR x0), (3, xI x3), (4, xI x4)]) dX11_medal_82 rfl rfl (by decide) rfl ?_
            refine x_goto (tgt := 28) dX11_medal_85 (by decide) ?_
            refine x_lv (lv2 := [(0, xR x0), (3, xI x3), (4, xI x4), (5, xI (x5 + (1 : Int32)))]) [1, 2, 3, 0] rfl ?_
            exact ih x0 x3 x4 (x5 + (1 : Int32)) w h
          · rw [if_neg hc20] at h
            refine x_iload_n (j := 1) (i := 3) dX11_medal_61 rfl rfl ?_
            refine x_aload_n (j := 0) (i := 0) dX11_medal_62 rfl rfl ?_
            refine x_getR (ci := 11) (k := 20) dX11_medal_63 lf_RX11_60 rfl g17 ?_
            refine x_iconst (v := 3) dX11_medal_66 (by decide) ?_
            refine x_iload (j := 2) (i := 4) dX11_medal_67 rfl ?_
            refine x_imul dX11_medal_69 ?_
            refine x_iload (j := 3) (i := 5) dX11_medal_70 rfl ?_
            refine x_iadd dX11_medal_72 ?_
            refine x_iald dX11_medal_73 g18 g19 ?_
            refine x_icmp_lt (tgt := 82) dX11_medal_74 (by decide) (fun hc21 => ?_) (fun hc21 => ?_)
            · rw [if_pos hc21] at h
              refine x_iinc (j := 3) (i := 5) (v := x5 + (1 : Int32)) (lv2 := [(5, xI (x5 + (1 : Int32))), (0, xR x0), (3, xI x3), (4, xI x4)]) dX11_medal_82 rfl rfl (by decide) rfl ?_
              refine x_goto (tgt := 28) dX11_medal_85 (by decide) ?_
              refine x_lv (lv2 := [(0, xR x0), (3, xI x3), (4, xI x4), (5, xI (x5 + (1 : Int32)))]) [1, 2, 3, 0] rfl ?_
              exact ih x0 x3 x4 (x5 + (1 : Int32)) w h
            · rw [if_neg hc21] at h
              refine x_iconst (v := 3) dX11_medal_77 (by decide) ?_
              refine x_iload (j := 3) (i := 5) dX11_medal_78 rfl ?_
              refine x_isub dX11_medal_80 ?_
              cases h
              exact x_iret dX11_medal_81 rfl rfl
set_option maxRecDepth 20000 in
theorem c_X11_medal (x0 : Nat) (x1 : Int32) (x2 : Int32) (w : xSt) (rE : Int32) (wE : xSt) (h : f_X11_medal x0 x1 x2 w = some (rE, wE)) : xCall yX11_medal cX11_medal 6 (some .int) 2 0 0 [xR x0, xI x1, xI x2] w (some (xI rE), wE) := by
  refine xCall_of false (by decide) (fun q => nomatch q) (by decide) ?_
  show xX cX11_medal 6 (some .int) RX11 false (xRm 2 0 0) (xZf (some (xI rE), wE) 0 0) 0 [(0, xR x0), (1, xI x1), (2, xI x2)] [] w 0 0
  unfold f_X11_medal at h
  refine x_aload_n (j := 0) (i := 0) dX11_medal_0 rfl rfl ?_
  refine x_iload_n (j := 1) (i := 1) dX11_medal_1 rfl rfl ?_
  obtain ⟨g4, h⟩ := gd_some h
  obtain ⟨v1, w2, hc3, h⟩ := bd_s h
  refine x_callVI (ci := 11) dX11_medal_2 ml_RX11_124 mb_X11_isStand (c_X11_isStand x0 x1 w v1 w2 hc3) ⟨_, rfl, rfl⟩ g4 [] rfl rfl (by decide) (by decide) (by decide) ?_
  refine x_if_ne (tgt := 10) dX11_medal_5 (by decide) (fun hc5 => ?_) (fun hc5 => ?_)
  · rw [if_neg hc5] at h
    refine x_aload_n (j := 0) (i := 0) dX11_medal_10 rfl rfl ?_
    refine x_iload_n (j := 1) (i := 1) dX11_medal_11 rfl rfl ?_
    refine x_iload_n (j := 2) (i := 2) dX11_medal_12 rfl rfl ?_
    obtain ⟨g9, h⟩ := gd_some h
    obtain ⟨v6, w7, hc8, h⟩ := bd_s h
    refine x_callVI (ci := 11) dX11_medal_13 ml_RX11_242 mb_X11_meanOf (c_X11_meanOf x0 x1 x2 w2 v6 w7 hc8) ⟨_, rfl, rfl⟩ g9 [] rfl rfl (by decide) (by decide) (by decide) ?_
    refine x_istore_n (i := 3) (lv2 := [(3, xI v6), (0, xR x0), (1, xI x1), (2, xI x2)]) dX11_medal_16 rfl (by decide) rfl ?_
    refine x_aload_n (j := 1) (i := 0) dX11_medal_17 rfl rfl ?_
    refine x_iconst (v := 0) dX11_medal_18 (by decide) ?_
    refine x_iload_n (j := 3) (i := 2) dX11_medal_19 rfl rfl ?_
    obtain ⟨g13, h⟩ := gd_some h
    obtain ⟨v10, w11, hc12, h⟩ := bd_s h
    refine x_callVI (ci := 11) dX11_medal_20 ml_RX11_245 mb_X11_inForce (c_X11_inForce x0 (0 : Int32) x2 w7 v10 w11 hc12) ⟨_, rfl, rfl⟩ g13 [] rfl rfl (by decide) (by decide) (by decide) ?_
    refine x_istore (i := 4) (lv2 := [(4, xI v10), (3, xI v6), (0, xR x0), (1, xI x1), (2, xI x2)]) dX11_medal_23 (by decide) rfl ?_
    refine x_iconst (v := 0) dX11_medal_25 (by decide) ?_
    refine x_istore (i := 5) (lv2 := [(5, xI (0 : Int32)), (4, xI v10), (3, xI v6), (0, xR x0), (1, xI x1), (2, xI x2)]) dX11_medal_26 (by decide) rfl ?_
    refine x_lv (lv2 := [(0, xR x0), (3, xI v6), (4, xI v10), (5, xI (0 : Int32))]) [3, 2, 1, 0] rfl ?_
    exact k_X11_medal_l28 rE wE xFu x0 v6 v10 (0 : Int32) w11 h
  · rw [if_pos hc5] at h
    refine x_iconst (v := -1) dX11_medal_8 (by decide) ?_
    cases h
    exact x_iret dX11_medal_9 rfl rfl
set_option maxRecDepth 20000 in
theorem k_X11_costOf_l16 (rE : Int32) (wE : xSt) : ∀ (n : Nat) (x0 : Nat) (x1 : Int32) (x2 : Int32) (x3 : Int32) (w : xSt), f_X11_costOf_l16 n x0 x1 x2 x3 w = some (rE, wE) → xX cX11_costOf 4 (some .int) RX11 false (xRm 1 0 0) (xZf (some (xI rE), wE) 0 0) 16 [(0, xR x0), (1, xI x1), (2, xI x2), (3, xI x3)] [] w 0 0 := by
  intro n
  induction n with
  | zero => intro x0 x1 x2 x3 w h; exact nomatch (show (none : Option (Int32 × xSt)) = some (rE, wE) from h)
  | succ n ih =>
    intro x0 x1 x2 x3 w h
    rw [f_X11_costOf_l16_s] at h
    refine x_iload_n (j := 3) (i := 3) dX11_costOf_16 rfl rfl ?_
    refine x_aload_n (j := 0) (i := 0) dX11_costOf_17 rfl rfl ?_
    obtain ⟨g6, h⟩ := gd_some h
    refine x_getR (ci := 11) (k := 21) dX11_costOf_18 lf_RX11_63 rfl g6 ?_
    refine x_iload_n (j := 2) (i := 2) dX11_costOf_21 rfl rfl ?_
    obtain ⟨g7, h⟩ := gd_some h
    obtain ⟨g8, h⟩ := gd_some h
    refine x_iald dX11_costOf_22 g7 g8 ?_
    refine x_icmp_ge (tgt := 60) dX11_costOf_23 (by decide) (fun hc9 => ?_) (fun hc9 => ?_)
    · rw [if_pos hc9] at h
      refine x_aload_n (j := 0) (i := 0) dX11_costOf_60 rfl rfl ?_
      refine x_getR (ci := 11) (k := 23) dX11_costOf_61 lf_RX11_69 rfl g6 ?_
      refine x_iconst (v := 5) dX11_costOf_64 (by decide) ?_
      refine x_iload_n (j := 2) (i := 2) dX11_costOf_65 rfl rfl ?_
      refine x_imul dX11_costOf_66 ?_
      refine x_aload_n (j := 0) (i := 0) dX11_costOf_67 rfl rfl ?_
      refine x_getR (ci := 11) (k := 21) dX11_costOf_68 lf_RX11_63 rfl g6 ?_
      refine x_iload_n (j := 2) (i := 2) dX11_costOf_71 rfl rfl ?_
      refine x_iald dX11_costOf_72 g7 g8 ?_
      refine x_iadd dX11_costOf_73 ?_
      obtain ⟨g10, h⟩ := gd_some h
      obtain ⟨g11, h⟩ := gd_some h
      refine x_iald dX11_costOf_74 g10 g11 ?_
      cases h
      exact x_iret dX11_costOf_75 rfl rfl
    · rw [if_neg hc9] at h
      refine x_aload_n (j := 0) (i := 0) dX11_costOf_26 rfl rfl ?_
      refine x_getR (ci := 11) (k := 22) dX11_costOf_27 lf_RX11_66 rfl g6 ?_
      refine x_iconst (v := 4) dX11_costOf_30 (by decide) ?_
      refine x_iload_n (j := 2) (i := 2) dX11_costOf_31 rfl rfl ?_
      refine x_imul dX11_costOf_32 ?_
      refine x_iload_n (j := 3) (i := 3) dX11_costOf_33 rfl rfl ?_
      refine x_iadd dX11_costOf_34 ?_
      obtain ⟨g12, h⟩ := gd_some h
      obtain ⟨g13, h⟩ := gd_some h
      refine x_iald dX11_costOf_35 g12 g13 ?_
      refine x_iload_n (j := 1) (i := 1) dX11_costOf_36 rfl rfl ?_
      refine x_bipush (v := 7) dX11_costOf_37 (by decide) ?_
      refine x_irem dX11_costOf_39 (by decide) ?_
      refine x_icmp_ne (tgt := 54) dX11_costOf_40 (by decide) (fun hc14 => ?_) (fun hc14 => ?_)
      · rw [if_neg hc14] at h
        refine x_iinc (j := 3) (i := 3) (v := x3 + (1 : Int32)) (lv2 := [(3, xI (x3 + (1 : Int32))), (0, xR x0), (1, xI x1), (2, xI x2)]) dX11_costOf_54 rfl rfl (by decide) rfl ?_
        refine x_goto (tgt := 16) dX11_costOf_57 (by decide) ?_
        refine x_lv (lv2 := [(0, xR x0), (1, xI x1), (2, xI x2), (3, xI (x3 + (1 : Int32)))]) [1, 2, 3, 0] rfl ?_
        exact ih x0 x1 x2 (x3 + (1 : Int32)) w h
      · rw [if_pos hc14] at h
        refine x_aload_n (j := 0) (i := 0) dX11_costOf_43 rfl rfl ?_
        refine x_getR (ci := 11) (k := 23) dX11_costOf_44 lf_RX11_69 rfl g6 ?_
        refine x_iconst (v := 5) dX11_costOf_47 (by decide) ?_
        refine x_iload_n (j := 2) (i := 2) dX11_costOf_48 rfl rfl ?_
        refine x_imul dX11_costOf_49 ?_
        refine x_iload_n (j := 3) (i := 3) dX11_costOf_50 rfl rfl ?_
        refine x_iadd dX11_costOf_51 ?_
        obtain ⟨g15, h⟩ := gd_some h
        obtain ⟨g16, h⟩ := gd_some h
        refine x_iald dX11_costOf_52 g15 g16 ?_
        cases h
        exact x_iret dX11_costOf_53 rfl rfl
set_option maxRecDepth 20000 in
theorem c_X11_costOf (x0 : Nat) (x1 : Int32) (w : xSt) (rE : Int32) (wE : xSt) (h : f_X11_costOf x0 x1 w = some (rE, wE)) : xCall yX11_costOf cX11_costOf 4 (some .int) 1 0 0 [xR x0, xI x1] w (some (xI rE), wE) := by
  refine xCall_of false (by decide) (fun q => nomatch q) (by decide) ?_
  show xX cX11_costOf 4 (some .int) RX11 false (xRm 1 0 0) (xZf (some (xI rE), wE) 0 0) 0 [(0, xR x0), (1, xI x1)] [] w 0 0
  unfold f_X11_costOf at h
  refine x_aload_n (j := 0) (i := 0) dX11_costOf_0 rfl rfl ?_
  refine x_iconst (v := 1) dX11_costOf_1 (by decide) ?_
  refine x_iload_n (j := 1) (i := 1) dX11_costOf_2 rfl rfl ?_
  obtain ⟨g4, h⟩ := gd_some h
  obtain ⟨v1, w2, hc3, h⟩ := bd_s h
  refine x_callVI (ci := 11) dX11_costOf_3 ml_RX11_245 mb_X11_inForce (c_X11_inForce x0 (1 : Int32) x1 w v1 w2 hc3) ⟨_, rfl, rfl⟩ g4 [] rfl rfl (by decide) (by decide) (by decide) ?_
  refine x_istore_n (i := 2) (lv2 := [(2, xI v1), (0, xR x0), (1, xI x1)]) dX11_costOf_6 rfl (by decide) rfl ?_
  refine x_iload_n (j := 0) (i := 2) dX11_costOf_7 rfl rfl ?_
  refine x_iconst (v := -1) dX11_costOf_8 (by decide) ?_
  refine x_icmp_ne (tgt := 14) dX11_costOf_9 (by decide) (fun hc5 => ?_) (fun hc5 => ?_)
  · rw [if_neg hc5] at h
    refine x_iconst (v := 0) dX11_costOf_14 (by decide) ?_
    refine x_istore_n (i := 3) (lv2 := [(3, xI (0 : Int32)), (2, xI v1), (0, xR x0), (1, xI x1)]) dX11_costOf_15 rfl (by decide) rfl ?_
    refine x_lv (lv2 := [(0, xR x0), (1, xI x1), (2, xI v1), (3, xI (0 : Int32))]) [2, 3, 1, 0] rfl ?_
    exact k_X11_costOf_l16 rE wE xFu x0 x1 v1 (0 : Int32) w2 h
  · rw [if_pos hc5] at h
    refine x_iconst (v := 0) dX11_costOf_12 (by decide) ?_
    cases h
    exact x_iret dX11_costOf_13 rfl rfl
set_option maxRecDepth 20000 in
theorem c_X11_cost (x0 : Nat) (x1 : Int32) (w : xSt) (rE : Int32) (wE : xSt) (h : f_X11_cost x0 x1 w = some (rE, wE)) : xCall yX11_cost cX11_cost 2 (some .int) 2 0 0 [xR x0, xI x1] w (some (xI rE), wE) := by
  refine xCall_of false (by decide) (fun q => nomatch q) (by decide) ?_
  show xX cX11_cost 2 (some .int) RX11 false (xRm 2 0 0) (xZf (some (xI rE), wE) 0 0) 0 [(0, xR x0), (1, xI x1)] [] w 0 0
  unfold f_X11_cost at h
  refine x_iload_n (j := 1) (i := 1) dX11_cost_0 rfl rfl ?_
  refine x_if_ge (tgt := 8) dX11_cost_1 (by decide) (fun hc1 => ?_) (fun hc1 => ?_)
  · rw [if_pos hc1] at h
    refine x_aload_n (j := 0) (i := 0) dX11_cost_8 rfl rfl ?_
    refine x_iload_n (j := 1) (i := 1) dX11_cost_9 rfl rfl ?_
    obtain ⟨g5, h⟩ := gd_some h
    obtain ⟨v2, w3, hc4, h⟩ := bd_s h
    refine x_callVI (ci := 11) dX11_cost_10 ml_RX11_248 mb_X11_costOf (c_X11_costOf x0 x1 w v2 w3 hc4) ⟨_, rfl, rfl⟩ g5 [] rfl rfl (by decide) (by decide) (by decide) ?_
    cases h
    exact x_iret dX11_cost_13 rfl rfl
  · rw [if_neg hc1] at h
    refine x_iconst (v := -1) dX11_cost_4 (by decide) ?_
    refine x_goto (tgt := 13) dX11_cost_5 (by decide) ?_
    cases h
    exact x_iret dX11_cost_13 rfl rfl
set_option maxRecDepth 20000 in
theorem c_X11_most (x0 : Nat) (x1 : Int32) (w : xSt) (rE : Int32) (wE : xSt) (h : f_X11_most x0 x1 w = some (rE, wE)) : xCall yX11_most cX11_most 3 (some .int) 1 0 0 [xR x0, xI x1] w (some (xI rE), wE) := by
  refine xCall_of false (by decide) (fun q => nomatch q) (by decide) ?_
  show xX cX11_most 3 (some .int) RX11 false (xRm 1 0 0) (xZf (some (xI rE), wE) 0 0) 0 [(0, xR x0), (1, xI x1)] [] w 0 0
  unfold f_X11_most at h
  refine x_iload_n (j := 1) (i := 1) dX11_most_0 rfl rfl ?_
  refine x_iconst (v := 1) dX11_most_1 (by decide) ?_
  refine x_sipush (v := 20000) dX11_most_2 (by decide) ?_
  obtain ⟨v1, w2, hc3, h⟩ := bd_s h
  refine x_callSI dX11_most_5 ml_RX11_117 mb_X11_in (c_X11_in x1 (1 : Int32) (20000 : Int32) w v1 w2 hc3) [] rfl rfl (by decide) (by decide) (by decide) ?_
  refine x_if_ne (tgt := 14) dX11_most_8 (by decide) (fun hc4 => ?_) (fun hc4 => ?_)
  · rw [if_neg hc4] at h
    refine x_aload_n (j := 0) (i := 0) dX11_most_14 rfl rfl ?_
    obtain ⟨g5, h⟩ := gd_some h
    refine x_getI (ci := 11) (k := 29) dX11_most_15 lf_RX11_84 rfl g5 ?_
    refine x_istore_n (i := 2) (lv2 := [(2, xI (wI w2 x0 29)), (0, xR x0), (1, xI x1)]) dX11_most_18 rfl (by decide) rfl ?_
    refine x_aload_n (j := 1) (i := 0) dX11_most_19 rfl rfl ?_
    refine x_iload_n (j := 2) (i := 1) dX11_most_20 rfl rfl ?_
    obtain ⟨w6, hw7, h⟩ := lt1_some h
    refine x_putI (ci := 11) (k := 29) dX11_most_21 (lw_RX11_84_w _) rfl g5 ?_
    rw [← hw7]
    refine x_iload_n (j := 0) (i := 2) dX11_most_24 rfl rfl ?_
    cases h
    exact x_iret dX11_most_25 rfl rfl
  · rw [if_pos hc4] at h
    refine x_bipush (v := -2) dX11_most_11 (by decide) ?_
    cases h
    exact x_iret dX11_most_13 rfl rfl

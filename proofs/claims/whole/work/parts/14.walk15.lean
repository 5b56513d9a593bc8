set_option maxRecDepth 20000 in
theorem c_X11_about (x0 : Nat) (x1 : Int32) (x2 : Int32) (w : xSt) (rE : Int32) (wE : xSt) (h : f_X11_about x0 x1 x2 w = some (rE, wE)) : xCall yX11_about cX11_about 3 (some .int) 2 0 0 [xR x0, xI x1, xI x2] w (some (xI rE), wE) := by
  refine xCall_of false (by decide) (fun q => nomatch q) (Nat.le_of_ble_eq_true rfl) ?_
  show xX cX11_about 3 (some .int) RX11 false (xRm 2 0 0) (xZf (some (xI rE), wE) 0 0) 0 [(0, xR x0), (1, xI x1), (2, xI x2)] [] w 0 0
  unfold f_X11_about at h
  refine x_aload_n (j := 0) (i := 0) dX11_about_0 rfl rfl ?_
  refine x_iload_n (j := 1) (i := 1) dX11_about_1 rfl rfl ?_
  obtain ⟨g4, h⟩ := gd_some h
  obtain ⟨v1, w2, hc3, h⟩ := bd_s h
  refine x_callVI (ci := 11) dX11_about_2 ml_RX11_124 mb_X11_isStand (c_X11_isStand x0 x1 w v1 w2 hc3) ⟨_, rfl, rfl⟩ g4 [] rfl rfl (Nat.le_of_ble_eq_true rfl) (by decide) (by decide) ?_
  refine x_if_ne (tgt := 10) dX11_about_5 (by decide) (fun hc5 => ?_) (fun hc5 => ?_)
  · rw [if_neg hc5] at h
    refine x_iload_n (j := 2) (i := 2) dX11_about_10 rfl rfl ?_
    by_cases hc6 : x2 = (0 : Int32)
    · rw [if_pos hc6] at h
      refine x_tsw (off := 41) (tgt := 52) dX11_about_11 (by rw [hc6]; decide) (by rw [hc6]; decide) (by rw [hc6]; decide) (by decide) ?_
      refine x_aload_n (j := 0) (i := 0) dX11_about_52 rfl rfl ?_
      obtain ⟨g7, h⟩ := gd_some h
      refine x_getR (ci := 11) (k := 6) dX11_about_53 lf_RX11_20 rfl g7 ?_
      refine x_iload_n (j := 1) (i := 1) dX11_about_56 rfl rfl ?_
      obtain ⟨g8, h⟩ := gd_some h
      obtain ⟨g9, h⟩ := gd_some h
      refine x_iald dX11_about_57 g8 g9 ?_
      obtain ⟨hr9, hw9⟩ := Prod.mk.inj (Option.some.inj h)
      subst hw9
      subst hr9
      exact x_iret dX11_about_58 rfl rfl
    rw [if_neg hc6] at h
    by_cases hc10 : x2 = (1 : Int32)
    · rw [if_pos hc10] at h
      refine x_tsw (off := 48) (tgt := 59) dX11_about_11 (by rw [hc10]; decide) (by rw [hc10]; decide) (by rw [hc10]; decide) (by decide) ?_
      refine x_aload_n (j := 0) (i := 0) dX11_about_59 rfl rfl ?_
      obtain ⟨g11, h⟩ := gd_some h
      refine x_getR (ci := 11) (k := 7) dX11_about_60 lf_RX11_23 rfl g11 ?_
      refine x_iload_n (j := 1) (i := 1) dX11_about_63 rfl rfl ?_
      obtain ⟨g12, h⟩ := gd_some h
      obtain ⟨g13, h⟩ := gd_some h
      refine x_iald dX11_about_64 g12 g13 ?_
      obtain ⟨hr9, hw9⟩ := Prod.mk.inj (Option.some.inj h)
      subst hw9
      subst hr9
      exact x_iret dX11_about_65 rfl rfl
    rw [if_neg hc10] at h
    by_cases hc14 : x2 = (2 : Int32)
    · rw [if_pos hc14] at h
      refine x_tsw (off := 55) (tgt := 66) dX11_about_11 (by rw [hc14]; decide) (by rw [hc14]; decide) (by rw [hc14]; decide) (by decide) ?_
      refine x_aload_n (j := 0) (i := 0) dX11_about_66 rfl rfl ?_
      obtain ⟨g15, h⟩ := gd_some h
      refine x_getR (ci := 11) (k := 8) dX11_about_67 lf_RX11_26 rfl g15 ?_
      refine x_iload_n (j := 1) (i := 1) dX11_about_70 rfl rfl ?_
      obtain ⟨g16, h⟩ := gd_some h
      obtain ⟨g17, h⟩ := gd_some h
      refine x_iald dX11_about_71 g16 g17 ?_
      obtain ⟨hr9, hw9⟩ := Prod.mk.inj (Option.some.inj h)
      subst hw9
      subst hr9
      exact x_iret dX11_about_72 rfl rfl
    rw [if_neg hc14] at h
    by_cases hc18 : x2 = (3 : Int32)
    · rw [if_pos hc18] at h
      refine x_tsw (off := 62) (tgt := 73) dX11_about_11 (by rw [hc18]; decide) (by rw [hc18]; decide) (by rw [hc18]; decide) (by decide) ?_
      refine x_aload_n (j := 0) (i := 0) dX11_about_73 rfl rfl ?_
      obtain ⟨g19, h⟩ := gd_some h
      refine x_getR (ci := 11) (k := 12) dX11_about_74 lf_RX11_38 rfl g19 ?_
      refine x_iload_n (j := 1) (i := 1) dX11_about_77 rfl rfl ?_
      obtain ⟨g20, h⟩ := gd_some h
      obtain ⟨g21, h⟩ := gd_some h
      refine x_iald dX11_about_78 g20 g21 ?_
      obtain ⟨hr9, hw9⟩ := Prod.mk.inj (Option.some.inj h)
      subst hw9
      subst hr9
      exact x_iret dX11_about_79 rfl rfl
    rw [if_neg hc18] at h
    by_cases hc22 : x2 = (4 : Int32)
    · rw [if_pos hc22] at h
      refine x_tsw (off := 69) (tgt := 80) dX11_about_11 (by rw [hc22]; decide) (by rw [hc22]; decide) (by rw [hc22]; decide) (by decide) ?_
      refine x_aload_n (j := 0) (i := 0) dX11_about_80 rfl rfl ?_
      obtain ⟨g23, h⟩ := gd_some h
      refine x_getR (ci := 11) (k := 14) dX11_about_81 lf_RX11_44 rfl g23 ?_
      refine x_iload_n (j := 1) (i := 1) dX11_about_84 rfl rfl ?_
      obtain ⟨g24, h⟩ := gd_some h
      obtain ⟨g25, h⟩ := gd_some h
      refine x_zald dX11_about_85 g24 g25 ?_
      refine x_if_eq (tgt := 93) dX11_about_86 (by decide) (fun hc26 => ?_) (fun hc26 => ?_)
      · rw [if_pos hc26] at h
        refine x_iconst (v := 0) dX11_about_93 (by decide) ?_
        obtain ⟨hr9, hw9⟩ := Prod.mk.inj (Option.some.inj h)
        subst hw9
        subst hr9
        exact x_iret dX11_about_94 rfl rfl
      · rw [if_neg hc26] at h
        refine x_iconst (v := 1) dX11_about_89 (by decide) ?_
        refine x_goto (tgt := 94) dX11_about_90 (by decide) ?_
        obtain ⟨hr9, hw9⟩ := Prod.mk.inj (Option.some.inj h)
        subst hw9
        subst hr9
        exact x_iret dX11_about_94 rfl rfl
    rw [if_neg hc22] at h
    by_cases hc27 : x2 = (5 : Int32)
    · rw [if_pos hc27] at h
      refine x_tsw (off := 84) (tgt := 95) dX11_about_11 (by rw [hc27]; decide) (by rw [hc27]; decide) (by rw [hc27]; decide) (by decide) ?_
      refine x_aload_n (j := 0) (i := 0) dX11_about_95 rfl rfl ?_
      obtain ⟨g28, h⟩ := gd_some h
      refine x_getR (ci := 11) (k := 13) dX11_about_96 lf_RX11_41 rfl g28 ?_
      refine x_iload_n (j := 1) (i := 1) dX11_about_99 rfl rfl ?_
      obtain ⟨g29, h⟩ := gd_some h
      obtain ⟨g30, h⟩ := gd_some h
      refine x_iald dX11_about_100 g29 g30 ?_
      obtain ⟨hr9, hw9⟩ := Prod.mk.inj (Option.some.inj h)
      subst hw9
      subst hr9
      exact x_iret dX11_about_101 rfl rfl
    rw [if_neg hc27] at h
    by_cases hc31 : x2 = (6 : Int32)
    · rw [if_pos hc31] at h
      refine x_tsw (off := 91) (tgt := 102) dX11_about_11 (by rw [hc31]; decide) (by rw [hc31]; decide) (by rw [hc31]; decide) (by decide) ?_
      refine x_aload_n (j := 0) (i := 0) dX11_about_102 rfl rfl ?_
      refine x_iload_n (j := 1) (i := 1) dX11_about_103 rfl rfl ?_
      obtain ⟨g35, h⟩ := gd_some h
      obtain ⟨v32, w33, hc34, h⟩ := bd_s h
      refine x_callVI (ci := 11) dX11_about_104 ml_RX11_172 mb_X11_marksOf (c_X11_marksOf x0 x1 w2 v32 w33 hc34) ⟨_, rfl, rfl⟩ g35 [] rfl rfl (Nat.le_of_ble_eq_true rfl) (by decide) (by decide) ?_
      obtain ⟨hr9, hw9⟩ := Prod.mk.inj (Option.some.inj h)
      subst hw9
      subst hr9
      exact x_iret dX11_about_107 rfl rfl
    rw [if_neg hc31] at h
    refine x_tswD (tgt := 108) dX11_about_11 (by have t0 := lv_neT hc6 (by decide : (0 : Int32).toInt = 0); have t1 := lv_neT hc10 (by decide : (1 : Int32).toInt = 1); have t2 := lv_neT hc14 (by decide : (2 : Int32).toInt = 2); have t3 := lv_neT hc18 (by decide : (3 : Int32).toInt = 3); have t4 := lv_neT hc22 (by decide : (4 : Int32).toInt = 4); have t5 := lv_neT hc27 (by decide : (5 : Int32).toInt = 5); have t6 := lv_neT hc31 (by decide : (6 : Int32).toInt = 6); omega) (by decide) ?_
    refine x_iconst (v := -1) dX11_about_108 (by decide) ?_
    obtain ⟨hr9, hw9⟩ := Prod.mk.inj (Option.some.inj h)
    subst hw9
    subst hr9
    exact x_iret dX11_about_109 rfl rfl
  · rw [if_pos hc5] at h
    refine x_iconst (v := -1) dX11_about_8 (by decide) ?_
    obtain ⟨hr9, hw9⟩ := Prod.mk.inj (Option.some.inj h)
    subst hw9
    subst hr9
    exact x_iret dX11_about_9 rfl rfl
set_option maxRecDepth 20000 in
theorem c_X11_at (x0 : Nat) (x1 : Int32) (w : xSt) (rE : Int32) (wE : xSt) (h : f_X11_at x0 x1 w = some (rE, wE)) : xCall yX11_at cX11_at 2 (some .int) 3 0 0 [xR x0, xI x1] w (some (xI rE), wE) := by
  refine xCall_of false (by decide) (fun q => nomatch q) (Nat.le_of_ble_eq_true rfl) ?_
  show xX cX11_at 2 (some .int) RX11 false (xRm 3 0 0) (xZf (some (xI rE), wE) 0 0) 0 [(0, xR x0), (1, xI x1)] [] w 0 0
  unfold f_X11_at at h
  refine x_aload_n (j := 0) (i := 0) dX11_at_0 rfl rfl ?_
  refine x_iload_n (j := 1) (i := 1) dX11_at_1 rfl rfl ?_
  obtain ⟨g4, h⟩ := gd_some h
  obtain ⟨v1, w2, hc3, h⟩ := bd_s h
  refine x_callVI (ci := 11) dX11_at_2 ml_RX11_128 mb_X11_isCell (c_X11_isCell x0 x1 w v1 w2 hc3) ⟨_, rfl, rfl⟩ g4 [] rfl rfl (Nat.le_of_ble_eq_true rfl) (by decide) (by decide) ?_
  refine x_if_eq (tgt := 16) dX11_at_5 (by decide) (fun hc5 => ?_) (fun hc5 => ?_)
  · rw [if_pos hc5] at h
    refine x_iconst (v := -1) dX11_at_16 (by decide) ?_
    obtain ⟨hr9, hw9⟩ := Prod.mk.inj (Option.some.inj h)
    subst hw9
    subst hr9
    exact x_iret dX11_at_17 rfl rfl
  · rw [if_neg hc5] at h
    refine x_aload_n (j := 0) (i := 0) dX11_at_8 rfl rfl ?_
    refine x_iload_n (j := 1) (i := 1) dX11_at_9 rfl rfl ?_
    obtain ⟨g9, h⟩ := gd_some h
    obtain ⟨v6, w7, hc8, h⟩ := bd_s h
    refine x_callVI (ci := 11) dX11_at_10 ml_RX11_176 mb_X11_standOn (c_X11_standOn x0 x1 w2 v6 w7 hc8) ⟨_, rfl, rfl⟩ g9 [] rfl rfl (Nat.le_of_ble_eq_true rfl) (by decide) (by decide) ?_
    refine x_goto (tgt := 17) dX11_at_13 (by decide) ?_
    obtain ⟨hr9, hw9⟩ := Prod.mk.inj (Option.some.inj h)
    subst hw9
    subst hr9
    exact x_iret dX11_at_17 rfl rfl
set_option maxRecDepth 20000 in
theorem c_X11_apart (x0 : Int32) (x1 : Int32) (w : xSt) (rE : Int32) (wE : xSt) (h : f_X11_apart x0 x1 w = some (rE, wE)) : xCall yX11_apart cX11_apart 2 (some .int) 0 0 0 [xI x0, xI x1] w (some (xI rE), wE) := by
  refine xCall_of false (by decide) (fun q => nomatch q) (Nat.le_of_ble_eq_true rfl) ?_
  show xX cX11_apart 2 (some .int) RX11 false (xRm 0 0 0) (xZf (some (xI rE), wE) 0 0) 0 [(0, xI x0), (1, xI x1)] [] w 0 0
  unfold f_X11_apart at h
  refine x_iload_n (j := 0) (i := 0) dX11_apart_0 rfl rfl ?_
  refine x_iload_n (j := 1) (i := 1) dX11_apart_1 rfl rfl ?_
  refine x_icmp_ge (tgt := 11) dX11_apart_2 (by decide) (fun hc1 => ?_) (fun hc1 => ?_)
  · rw [if_pos hc1] at h
    refine x_iload_n (j := 0) (i := 0) dX11_apart_11 rfl rfl ?_
    refine x_iload_n (j := 1) (i := 1) dX11_apart_12 rfl rfl ?_
    refine x_isub dX11_apart_13 ?_
    obtain ⟨hr9, hw9⟩ := Prod.mk.inj (Option.some.inj h)
    subst hw9
    subst hr9
    exact x_iret dX11_apart_14 rfl rfl
  · rw [if_neg hc1] at h
    refine x_iload_n (j := 1) (i := 1) dX11_apart_5 rfl rfl ?_
    refine x_iload_n (j := 0) (i := 0) dX11_apart_6 rfl rfl ?_
    refine x_isub dX11_apart_7 ?_
    refine x_goto (tgt := 14) dX11_apart_8 (by decide) ?_
    obtain ⟨hr9, hw9⟩ := Prod.mk.inj (Option.some.inj h)
    subst hw9
    subst hr9
    exact x_iret dX11_apart_14 rfl rfl
set_option maxRecDepth 20000 in
theorem k_X11_priced_b114 (k4 : Nat → Int32 → Int32 → xSt → Option (Int32 × xSt)) (k14 : Nat → Int32 → Int32 → Int32 → xSt → Option (Int32 × xSt)) (rE : Int32) (wE : xSt) (hk4 : ∀ (x0 : Nat) (x1 : Int32) (x2 : Int32) (w : xSt), k4 x0 x1 x2 w = some (rE, wE) → xX cX11_priced 5 (some .int) RX11 false (xRm 1 0 0) (xZf (some (xI rE), wE) 0 0) 4 [(0, xR x0), (1, xI x1), (2, xI x2)] [] w 0 0) (hk14 : ∀ (x0 : Nat) (x1 : Int32) (x2 : Int32) (x3 : Int32) (w : xSt), k14 x0 x1 x2 x3 w = some (rE, wE) → xX cX11_priced 5 (some .int) RX11 false (xRm 1 0 0) (xZf (some (xI rE), wE) 0 0) 14 [(0, xR x0), (1, xI x1), (2, xI x2), (3, xI x3)] [] w 0 0) (x0 : Nat) (x2 : Int32) (x3 : Int32) (x4 : Int32) (s0 : Int32) (s1 : Int32) (w : xSt) (h : f_X11_priced_b114 k4 k14 x0 x2 x3 x4 s0 s1 w = some (rE, wE)) : xX cX11_priced 5 (some .int) RX11 false (xRm 1 0 0) (xZf (some (xI rE), wE) 0 0) 114 [(0, xR x0), (2, xI x2), (3, xI x3), (4, xI x4)] [xI s1, xI s0] w 0 0 := by
  unfold f_X11_priced_b114 at h
  refine x_aload_n (j := 0) (i := 0) dX11_priced_114 rfl rfl ?_
  obtain ⟨g29, h⟩ := gd_some h
  refine x_getR (ci := 11) (k := 7) dX11_priced_115 lf_RX11_23 rfl g29 ?_
  refine x_iload_n (j := 1) (i := 2) dX11_priced_118 rfl rfl ?_
  obtain ⟨g30, h⟩ := gd_some h
  obtain ⟨g31, h⟩ := gd_some h
  refine x_iald dX11_priced_119 g30 g31 ?_
  refine x_aload_n (j := 0) (i := 0) dX11_priced_120 rfl rfl ?_
  refine x_getR (ci := 11) (k := 7) dX11_priced_121 lf_RX11_23 rfl g29 ?_
  refine x_iload_n (j := 2) (i := 3) dX11_priced_124 rfl rfl ?_
  obtain ⟨g32, h⟩ := gd_some h
  refine x_iald dX11_priced_125 g30 g32 ?_
  refine x_icmp_ne (tgt := 134) dX11_priced_126 (by decide) (fun hc33 => ?_) (fun hc33 => ?_)
  · rw [if_neg hc33] at h
    refine x_iconst (v := 0) dX11_priced_134 (by decide) ?_
    refine x_iadd dX11_priced_135 ?_
    refine x_iadd dX11_priced_136 ?_
    refine x_istore_n (i := 1) (lv2 := [(1, xI (s0 + (s1 + (0 : Int32)))), (0, xR x0), (2, xI x2), (3, xI x3), (4, xI x4)]) dX11_priced_137 rfl (by decide) rfl ?_
    refine x_iinc (j := 3) (i := 3) (v := x3 + (1 : Int32)) (lv2 := [(3, xI (x3 + (1 : Int32))), (1, xI (s0 + (s1 + (0 : Int32)))), (0, xR x0), (2, xI x2), (4, xI x4)]) dX11_priced_138 rfl rfl (by decide) rfl ?_
    refine x_goto (tgt := 14) dX11_priced_141 (by decide) ?_
    refine x_lv (lv2 := [(0, xR x0), (1, xI (s0 + (s1 + (0 : Int32)))), (2, xI x2), (3, xI (x3 + (1 : Int32)))]) [2, 1, 3, 0] rfl ?_
    exact hk14 x0 (s0 + (s1 + (0 : Int32))) x2 (x3 + (1 : Int32)) w h
  · rw [if_pos hc33] at h
    refine x_iload (j := 3) (i := 4) dX11_priced_129 rfl ?_
    refine x_goto (tgt := 135) dX11_priced_131 (by decide) ?_
    refine x_iadd dX11_priced_135 ?_
    refine x_iadd dX11_priced_136 ?_
    refine x_istore_n (i := 1) (lv2 := [(1, xI (s0 + (s1 + x4))), (0, xR x0), (2, xI x2), (3, xI x3), (4, xI x4)]) dX11_priced_137 rfl (by decide) rfl ?_
    refine x_iinc (j := 3) (i := 3) (v := x3 + (1 : Int32)) (lv2 := [(3, xI (x3 + (1 : Int32))), (1, xI (s0 + (s1 + x4))), (0, xR x0), (2, xI x2), (4, xI x4)]) dX11_priced_138 rfl rfl (by decide) rfl ?_
    refine x_goto (tgt := 14) dX11_priced_141 (by decide) ?_
    refine x_lv (lv2 := [(0, xR x0), (1, xI (s0 + (s1 + x4))), (2, xI x2), (3, xI (x3 + (1 : Int32)))]) [2, 1, 3, 0] rfl ?_
    exact hk14 x0 (s0 + (s1 + x4)) x2 (x3 + (1 : Int32)) w h
set_option maxRecDepth 20000 in
theorem k_X11_priced_l14 (k4 : Nat → Int32 → Int32 → xSt → Option (Int32 × xSt)) (rE : Int32) (wE : xSt) (hk4 : ∀ (x0 : Nat) (x1 : Int32) (x2 : Int32) (w : xSt), k4 x0 x1 x2 w = some (rE, wE) → xX cX11_priced 5 (some .int) RX11 false (xRm 1 0 0) (xZf (some (xI rE), wE) 0 0) 4 [(0, xR x0), (1, xI x1), (2, xI x2)] [] w 0 0) : ∀ (n : Nat) (x0 : Nat) (x1 : Int32) (x2 : Int32) (x3 : Int32) (w : xSt), f_X11_priced_l14 k4 n x0 x1 x2 x3 w = some (rE, wE) → xX cX11_priced 5 (some .int) RX11 false (xRm 1 0 0) (xZf (some (xI rE), wE) 0 0) 14 [(0, xR x0), (1, xI x1), (2, xI x2), (3, xI x3)] [] w 0 0 := by
  intro n
  induction n with
  | zero => intro x0 x1 x2 x3 w h; exact nomatch (show (none : Option (Int32 × xSt)) = some (rE, wE) from h)
  | succ n ih =>
    intro x0 x1 x2 x3 w h
    rw [f_X11_priced_l14_s] at h
    refine x_iload_n (j := 3) (i := 3) dX11_priced_14 rfl rfl ?_
    refine x_iload_n (j := 2) (i := 2) dX11_priced_15 rfl rfl ?_
    refine x_icmp_ge (tgt := 144) dX11_priced_16 (by decide) (fun hc3 => ?_) (fun hc3 => ?_)
    · rw [if_pos hc3] at h
      refine x_iinc (j := 2) (i := 2) (v := x2 + (1 : Int32)) (lv2 := [(2, xI (x2 + (1 : Int32))), (0, xR x0), (1, xI x1), (3, xI x3)]) dX11_priced_144 rfl rfl (by decide) rfl ?_
      refine x_goto (tgt := 4) dX11_priced_147 (by decide) ?_
      refine x_lv (lv2 := [(0, xR x0), (1, xI x1), (2, xI (x2 + (1 : Int32)))]) [1, 2, 0] rfl ?_
      exact hk4 x0 x1 (x2 + (1 : Int32)) w h
    · rw [if_neg hc3] at h
      refine x_aload_n (j := 0) (i := 0) dX11_priced_19 rfl rfl ?_
      obtain ⟨g4, h⟩ := gd_some h
      refine x_getR (ci := 11) (k := 12) dX11_priced_20 lf_RX11_38 rfl g4 ?_
      refine x_iload_n (j := 2) (i := 2) dX11_priced_23 rfl rfl ?_
      obtain ⟨g5, h⟩ := gd_some h
      obtain ⟨g6, h⟩ := gd_some h
      refine x_iald dX11_priced_24 g5 g6 ?_
      refine x_iconst (v := -1) dX11_priced_25 (by decide) ?_
      refine x_icmp_eq (tgt := 138) dX11_priced_26 (by decide) (fun hc7 => ?_) (fun hc7 => ?_)
      · rw [if_pos hc7] at h
        refine x_iinc (j := 3) (i := 3) (v := x3 + (1 : Int32)) (lv2 := [(3, xI (x3 + (1 : Int32))), (0, xR x0), (1, xI x1), (2, xI x2)]) dX11_priced_138 rfl rfl (by decide) rfl ?_
        refine x_goto (tgt := 14) dX11_priced_141 (by decide) ?_
        refine x_lv (lv2 := [(0, xR x0), (1, xI x1), (2, xI x2), (3, xI (x3 + (1 : Int32)))]) [1, 2, 3, 0] rfl ?_
        exact ih x0 x1 x2 (x3 + (1 : Int32)) w h
      · rw [if_neg hc7] at h
        refine x_aload_n (j := 0) (i := 0) dX11_priced_29 rfl rfl ?_
        refine x_getR (ci := 11) (k := 12) dX11_priced_30 lf_RX11_38 rfl g4 ?_
        refine x_iload_n (j := 3) (i := 3) dX11_priced_33 rfl rfl ?_
        obtain ⟨g8, h⟩ := gd_some h
        refine x_iald dX11_priced_34 g5 g8 ?_
        refine x_iconst (v := -1) dX11_priced_35 (by decide) ?_
        refine x_icmp_eq (tgt := 138) dX11_priced_36 (by decide) (fun hc9 => ?_) (fun hc9 => ?_)
        · rw [if_pos hc9] at h
          refine x_iinc (j := 3) (i := 3) (v := x3 + (1 : Int32)) (lv2 := [(3, xI (x3 + (1 : Int32))), (0, xR x0), (1, xI x1), (2, xI x2)]) dX11_priced_138 rfl rfl (by decide) rfl ?_
          refine x_goto (tgt := 14) dX11_priced_141 (by decide) ?_
          refine x_lv (lv2 := [(0, xR x0), (1, xI x1), (2, xI x2), (3, xI (x3 + (1 : Int32)))]) [1, 2, 3, 0] rfl ?_
          exact ih x0 x1 x2 (x3 + (1 : Int32)) w h
        · rw [if_neg hc9] at h
          refine x_aload_n (j := 0) (i := 0) dX11_priced_39 rfl rfl ?_
          refine x_getR (ci := 11) (k := 12) dX11_priced_40 lf_RX11_38 rfl g4 ?_
          refine x_iload_n (j := 2) (i := 2) dX11_priced_43 rfl rfl ?_
          refine x_iald dX11_priced_44 g5 g6 ?_
          refine x_aload_n (j := 0) (i := 0) dX11_priced_45 rfl rfl ?_
          refine x_getI (ci := 11) (k := 0) dX11_priced_46 lf_RX11_111 rfl g4 ?_
          obtain ⟨g10, h⟩ := gd_some h
          refine x_irem dX11_priced_49 g10 ?_
          refine x_aload_n (j := 0) (i := 0) dX11_priced_50 rfl rfl ?_
          refine x_getR (ci := 11) (k := 12) dX11_priced_51 lf_RX11_38 rfl g4 ?_
          refine x_iload_n (j := 3) (i := 3) dX11_priced_54 rfl rfl ?_
          refine x_iald dX11_priced_55 g5 g8 ?_
          refine x_aload_n (j := 0) (i := 0) dX11_priced_56 rfl rfl ?_
          refine x_getI (ci := 11) (k := 0) dX11_priced_57 lf_RX11_111 rfl g4 ?_
          obtain ⟨g11, h⟩ := gd_some h
          refine x_irem dX11_priced_60 g11 ?_
          obtain ⟨v12, w13, hc14, h⟩ := bd_s h
          refine x_callSI dX11_priced_61 ml_RX11_179 mb_X11_apart (c_X11_apart ((wI w (wR w x0 12) x2.toNatClampNeg) - (wI w (wR w x0 12) x2.toNatClampNeg) / (wI w x0 0) * (wI w x0 0)) ((wI w (wR w x0 12) x3.toNatClampNeg) - (wI w (wR w x0 12) x3.toNatClampNeg) / (wI w x0 0) * (wI w x0 0)) w v12 w13 hc14) [] rfl rfl (Nat.le_of_ble_eq_true rfl) (by decide) (by decide) ?_
          refine x_aload_n (j := 0) (i := 0) dX11_priced_64 rfl rfl ?_
          obtain ⟨g15, h⟩ := gd_some h
          refine x_getR (ci := 11) (k := 12) dX11_priced_65 lf_RX11_38 rfl g15 ?_
          refine x_iload_n (j := 2) (i := 2) dX11_priced_68 rfl rfl ?_
          obtain ⟨g16, h⟩ := gd_some h
          obtain ⟨g17, h⟩ := gd_some h
          refine x_iald dX11_priced_69 g16 g17 ?_
          refine x_aload_n (j := 0) (i := 0) dX11_priced_70 rfl rfl ?_
          refine x_getI (ci := 11) (k := 0) dX11_priced_71 lf_RX11_111 rfl g15 ?_
          obtain ⟨g18, h⟩ := gd_some h
          refine x_idiv dX11_priced_74 g18 ?_
          refine x_aload_n (j := 0) (i := 0) dX11_priced_75 rfl rfl ?_
          refine x_getR (ci := 11) (k := 12) dX11_priced_76 lf_RX11_38 rfl g15 ?_
          refine x_iload_n (j := 3) (i := 3) dX11_priced_79 rfl rfl ?_
          obtain ⟨g19, h⟩ := gd_some h
          refine x_iald dX11_priced_80 g16 g19 ?_
          refine x_aload_n (j := 0) (i := 0) dX11_priced_81 rfl rfl ?_
          refine x_getI (ci := 11) (k := 0) dX11_priced_82 lf_RX11_111 rfl g15 ?_
          obtain ⟨g20, h⟩ := gd_some h
          refine x_idiv dX11_priced_85 g20 ?_
          obtain ⟨v21, w22, hc23, h⟩ := bd_s h
          refine x_callSI dX11_priced_86 ml_RX11_179 mb_X11_apart (c_X11_apart ((wI w13 (wR w13 x0 12) x2.toNatClampNeg) / (wI w13 x0 0)) ((wI w13 (wR w13 x0 12) x3.toNatClampNeg) / (wI w13 x0 0)) w13 v21 w22 hc23) [xI v12] rfl rfl (Nat.le_of_ble_eq_true rfl) (by decide) (by decide) ?_
          refine x_iadd dX11_priced_89 ?_
          refine x_istore (i := 4) (lv2 := [(4, xI (v12 + v21)), (0, xR x0), (1, xI x1), (2, xI x2), (3, xI x3)]) dX11_priced_90 (by decide) rfl ?_
          refine x_iload_n (j := 2) (i := 1) dX11_priced_92 rfl rfl ?_
          refine x_aload_n (j := 1) (i := 0) dX11_priced_93 rfl rfl ?_
          obtain ⟨g24, h⟩ := gd_some h
          refine x_getR (ci := 11) (k := 8) dX11_priced_94 lf_RX11_26 rfl g24 ?_
          refine x_iload_n (j := 3) (i := 2) dX11_priced_97 rfl rfl ?_
          obtain ⟨g25, h⟩ := gd_some h
          obtain ⟨g26, h⟩ := gd_some h
          refine x_iald dX11_priced_98 g25 g26 ?_
          refine x_aload_n (j := 1) (i := 0) dX11_priced_99 rfl rfl ?_
          refine x_getR (ci := 11) (k := 8) dX11_priced_100 lf_RX11_26 rfl g24 ?_
          refine x_iload_n (j := 4) (i := 3) dX11_priced_103 rfl rfl ?_
          obtain ⟨g27, h⟩ := gd_some h
          refine x_iald dX11_priced_104 g25 g27 ?_
          refine x_icmp_ne (tgt := 113) dX11_priced_105 (by decide) (fun hc28 => ?_) (fun hc28 => ?_)
          · rw [if_neg hc28] at h
            refine x_iconst (v := 0) dX11_priced_113 (by decide) ?_
            refine x_lv (lv2 := [(0, xR x0), (2, xI x2), (3, xI x3), (4, xI (v12 + v21))]) [1, 3, 4, 0] rfl ?_
            exact k_X11_priced_b114 k4 (f_X11_priced_l14 k4 n) rE wE hk4 ih x0 x2 x3 (v12 + v21) x1 (0 : Int32) w22 h
          · rw [if_pos hc28] at h
            refine x_iload (j := 0) (i := 4) dX11_priced_108 rfl ?_
            refine x_goto (tgt := 114) dX11_priced_110 (by decide) ?_
            refine x_lv (lv2 := [(0, xR x0), (2, xI x2), (3, xI x3), (4, xI (v12 + v21))]) [1, 3, 4, 0] rfl ?_
            exact k_X11_priced_b114 k4 (f_X11_priced_l14 k4 n) rE wE hk4 ih x0 x2 x3 (v12 + v21) x1 (v12 + v21) w22 h
set_option maxRecDepth 20000 in
theorem k_X11_priced_l4 (rE : Int32) (wE : xSt) : ∀ (n : Nat) (x0 : Nat) (x1 : Int32) (x2 : Int32) (w : xSt), f_X11_priced_l4 n x0 x1 x2 w = some (rE, wE) → xX cX11_priced 5 (some .int) RX11 false (xRm 1 0 0) (xZf (some (xI rE), wE) 0 0) 4 [(0, xR x0), (1, xI x1), (2, xI x2)] [] w 0 0 := by
  intro n
  induction n with
  | zero => intro x0 x1 x2 w h; exact nomatch (show (none : Option (Int32 × xSt)) = some (rE, wE) from h)
  | succ n ih =>
    intro x0 x1 x2 w h
    rw [f_X11_priced_l4_s] at h
    refine x_iload_n (j := 2) (i := 2) dX11_priced_4 rfl rfl ?_
    refine x_aload_n (j := 0) (i := 0) dX11_priced_5 rfl rfl ?_
    obtain ⟨g1, h⟩ := gd_some h
    refine x_getI (ci := 11) (k := 5) dX11_priced_6 lf_RX11_121 rfl g1 ?_
    refine x_icmp_ge (tgt := 150) dX11_priced_9 (by decide) (fun hc2 => ?_) (fun hc2 => ?_)
    · rw [if_pos hc2] at h
      refine x_iload_n (j := 1) (i := 1) dX11_priced_150 rfl rfl ?_
      obtain ⟨hr9, hw9⟩ := Prod.mk.inj (Option.some.inj h)
      subst hw9
      subst hr9
      exact x_iret dX11_priced_151 rfl rfl
    · rw [if_neg hc2] at h
      refine x_iconst (v := 0) dX11_priced_12 (by decide) ?_
      refine x_istore_n (i := 3) (lv2 := [(3, xI (0 : Int32)), (0, xR x0), (1, xI x1), (2, xI x2)]) dX11_priced_13 rfl (by decide) rfl ?_
      refine x_lv (lv2 := [(0, xR x0), (1, xI x1), (2, xI x2), (3, xI (0 : Int32))]) [1, 2, 3, 0] rfl ?_
      exact k_X11_priced_l14 (f_X11_priced_l4 n) rE wE ih xFu x0 x1 x2 (0 : Int32) w h
set_option maxRecDepth 20000 in
theorem c_X11_priced (x0 : Nat) (w : xSt) (rE : Int32) (wE : xSt) (h : f_X11_priced x0 w = some (rE, wE)) : xCall yX11_priced cX11_priced 5 (some .int) 1 0 0 [xR x0] w (some (xI rE), wE) := by
  refine xCall_of false (by decide) (fun q => nomatch q) (Nat.le_of_ble_eq_true rfl) ?_
  show xX cX11_priced 5 (some .int) RX11 false (xRm 1 0 0) (xZf (some (xI rE), wE) 0 0) 0 [(0, xR x0)] [] w 0 0
  unfold f_X11_priced at h
  refine x_iconst (v := 0) dX11_priced_0 (by decide) ?_
  refine x_istore_n (i := 1) (lv2 := [(1, xI (0 : Int32)), (0, xR x0)]) dX11_priced_1 rfl (by decide) rfl ?_
  refine x_iconst (v := 0) dX11_priced_2 (by decide) ?_
  refine x_istore_n (i := 2) (lv2 := [(2, xI (0 : Int32)), (1, xI (0 : Int32)), (0, xR x0)]) dX11_priced_3 rfl (by decide) rfl ?_
  refine x_lv (lv2 := [(0, xR x0), (1, xI (0 : Int32)), (2, xI (0 : Int32))]) [2, 1, 0] rfl ?_
  exact k_X11_priced_l4 rE wE xFu x0 (0 : Int32) (0 : Int32) w h
set_option maxRecDepth 20000 in
theorem c_X11_price (x0 : Nat) (w : xSt) (rE : Int32) (wE : xSt) (h : f_X11_price x0 w = some (rE, wE)) : xCall yX11_price cX11_price 1 (some .int) 2 0 0 [xR x0] w (some (xI rE), wE) := by
  refine xCall_of false (by decide) (fun q => nomatch q) (Nat.le_of_ble_eq_true rfl) ?_
  show xX cX11_price 1 (some .int) RX11 false (xRm 2 0 0) (xZf (some (xI rE), wE) 0 0) 0 [(0, xR x0)] [] w 0 0
  unfold f_X11_price at h
  refine x_aload_n (j := 0) (i := 0) dX11_price_0 rfl rfl ?_
  obtain ⟨g4, h⟩ := gd_some h
  obtain ⟨v1, w2, hc3, h⟩ := bd_s h
  refine x_callVI (ci := 11) dX11_price_1 ml_RX11_182 mb_X11_priced (c_X11_priced x0 w v1 w2 hc3) ⟨_, rfl, rfl⟩ g4 [] rfl rfl (Nat.le_of_ble_eq_true rfl) (by decide) (by decide) ?_
  obtain ⟨hr9, hw9⟩ := Prod.mk.inj (Option.some.inj h)
  subst hw9
  subst hr9
  exact x_iret dX11_price_4 rfl rfl
set_option maxRecDepth 20000 in
theorem k_X11_betters_l25 (k7 : Nat → Int32 → Int32 → xSt → Option (Int32 × xSt)) (rE : Int32) (wE : xSt) (hk7 : ∀ (x0 : Nat) (x1 : Int32) (x2 : Int32) (w : xSt), k7 x0 x1 x2 w = some (rE, wE) → xX cX11_betters 5 (some .boolean) RX11 false (xRm 4 0 0) (xZf (some (xI rE), wE) 0 0) 7 [(0, xR x0), (1, xI x1), (2, xI x2)] [] w 0 0) : ∀ (n : Nat) (x0 : Nat) (x1 : Int32) (x2 : Int32) (x3 : Int32) (x4 : Int32) (w : xSt), f_X11_betters_l25 k7 n x0 x1 x2 x3 x4 w = some (rE, wE) → xX cX11_betters 5 (some .boolean) RX11 false (xRm 4 0 0) (xZf (some (xI rE), wE) 0 0) 25 [(0, xR x0), (1, xI x1), (2, xI x2), (3, xI x3), (4, xI x4)] [] w 0 0 := by
  intro n
  induction n with
  | zero => intro x0 x1 x2 x3 x4 w h; exact nomatch (show (none : Option (Int32 × xSt)) = some (rE, wE) from h)
  | succ n ih =>
    intro x0 x1 x2 x3 x4 w h
    rw [f_X11_betters_l25_s] at h
    refine x_iload (j := 4) (i := 4) dX11_betters_25 rfl ?_
    refine x_aload_n (j := 0) (i := 0) dX11_betters_27 rfl rfl ?_
    obtain ⟨g9, h⟩ := gd_some h
    refine x_getI (ci := 11) (k := 0) dX11_betters_28 lf_RX11_111 rfl g9 ?_
    refine x_aload_n (j := 0) (i := 0) dX11_betters_31 rfl rfl ?_
    refine x_getI (ci := 11) (k := 1) dX11_betters_32 lf_RX11_114 rfl g9 ?_
    refine x_imul dX11_betters_35 ?_
    refine x_icmp_ge (tgt := 91) dX11_betters_36 (by decide) (fun hc10 => ?_) (fun hc10 => ?_)
    · rw [if_pos hc10] at h
      refine x_iinc (j := 2) (i := 2) (v := x2 + (1 : Int32)) (lv2 := [(2, xI (x2 + (1 : Int32))), (0, xR x0), (1, xI x1), (3, xI x3), (4, xI x4)]) dX11_betters_91 rfl rfl (by decide) rfl ?_
      refine x_goto (tgt := 7) dX11_betters_94 (by decide) ?_
      refine x_lv (lv2 := [(0, xR x0), (1, xI x1), (2, xI (x2 + (1 : Int32)))]) [1, 2, 0] rfl ?_
      exact hk7 x0 x1 (x2 + (1 : Int32)) w h
    · rw [if_neg hc10] at h
      refine x_iload_n (j := 3) (i := 3) dX11_betters_39 rfl rfl ?_
      refine x_iconst (v := -1) dX11_betters_40 (by decide) ?_
      refine x_icmp_eq (tgt := 91) dX11_betters_41 (by decide) (fun hc11 => ?_) (fun hc11 => ?_)
      · rw [if_pos hc11] at h
        refine x_iinc (j := 2) (i := 2) (v := x2 + (1 : Int32)) (lv2 := [(2, xI (x2 + (1 : Int32))), (0, xR x0), (1, xI x1), (3, xI x3), (4, xI x4)]) dX11_betters_91 rfl rfl (by decide) rfl ?_
        refine x_goto (tgt := 7) dX11_betters_94 (by decide) ?_
        refine x_lv (lv2 := [(0, xR x0), (1, xI x1), (2, xI (x2 + (1 : Int32)))]) [1, 2, 0] rfl ?_
        exact hk7 x0 x1 (x2 + (1 : Int32)) w h
      · rw [if_neg hc11] at h
        refine x_iload (j := 4) (i := 4) dX11_betters_44 rfl ?_
        refine x_iload_n (j := 3) (i := 3) dX11_betters_46 rfl rfl ?_
        refine x_icmp_eq (tgt := 85) dX11_betters_47 (by decide) (fun hc12 => ?_) (fun hc12 => ?_)
        · rw [if_pos hc12] at h
          refine x_iinc (j := 4) (i := 4) (v := x4 + (1 : Int32)) (lv2 := [(4, xI (x4 + (1 : Int32))), (0, xR x0), (1, xI x1), (2, xI x2), (3, xI x3)]) dX11_betters_85 rfl rfl (by decide) rfl ?_
          refine x_goto (tgt := 25) dX11_betters_88 (by decide) ?_
          refine x_lv (lv2 := [(0, xR x0), (1, xI x1), (2, xI x2), (3, xI x3), (4, xI (x4 + (1 : Int32)))]) [1, 2, 3, 4, 0] rfl ?_
          exact ih x0 x1 x2 x3 (x4 + (1 : Int32)) w h
        · rw [if_neg hc12] at h
          refine x_aload_n (j := 0) (i := 0) dX11_betters_50 rfl rfl ?_
          refine x_iload_n (j := 2) (i := 2) dX11_betters_51 rfl rfl ?_
          refine x_iload (j := 4) (i := 4) dX11_betters_52 rfl ?_
          obtain ⟨v13, w14, hc15, h⟩ := bd_s h
          refine x_callVI (ci := 11) dX11_betters_54 ml_RX11_163 mb_X11_hindered (c_X11_hindered x0 x2 x4 w v13 w14 hc15) ⟨_, rfl, rfl⟩ g9 [] rfl rfl (Nat.le_of_ble_eq_true rfl) (by decide) (by decide) ?_
          refine x_if_ne (tgt := 85) dX11_betters_57 (by decide) (fun hc16 => ?_) (fun hc16 => ?_)
          · rw [if_neg hc16] at h
            refine x_iinc (j := 4) (i := 4) (v := x4 + (1 : Int32)) (lv2 := [(4, xI (x4 + (1 : Int32))), (0, xR x0), (1, xI x1), (2, xI x2), (3, xI x3)]) dX11_betters_85 rfl rfl (by decide) rfl ?_
            refine x_goto (tgt := 25) dX11_betters_88 (by decide) ?_
            refine x_lv (lv2 := [(0, xR x0), (1, xI x1), (2, xI x2), (3, xI x3), (4, xI (x4 + (1 : Int32)))]) [1, 2, 3, 4, 0] rfl ?_
            exact ih x0 x1 x2 x3 (x4 + (1 : Int32)) w14 h
          · rw [if_pos hc16] at h
            refine x_aload_n (j := 0) (i := 0) dX11_betters_60 rfl rfl ?_
            obtain ⟨g17, h⟩ := gd_some h
            refine x_getR (ci := 11) (k := 12) dX11_betters_61 lf_RX11_38 rfl g17 ?_
            refine x_iload_n (j := 2) (i := 2) dX11_betters_64 rfl rfl ?_
            refine x_iload (j := 4) (i := 4) dX11_betters_65 rfl ?_
            obtain ⟨g18, h⟩ := gd_some h
            obtain ⟨g19, h⟩ := gd_some h
            obtain ⟨w20, hw21, h⟩ := lt1_some h
            refine x_iast dX11_betters_67 g18 g19 ?_
            rw [← hw21]
            refine x_aload_n (j := 0) (i := 0) dX11_betters_68 rfl rfl ?_
            have g25 : isC w20 x0 11 := by rw [hw21]; exact g17
            obtain ⟨v22, w23, hc24, h⟩ := bd_s h
            refine x_callVI (ci := 11) dX11_betters_69 ml_RX11_182 mb_X11_priced (c_X11_priced x0 w20 v22 w23 hc24) ⟨_, rfl, rfl⟩ g25 [] rfl rfl (Nat.le_of_ble_eq_true rfl) (by decide) (by decide) ?_
            refine x_iload_n (j := 1) (i := 1) dX11_betters_72 rfl rfl ?_
            refine x_icmp_ge (tgt := 78) dX11_betters_73 (by decide) (fun hc26 => ?_) (fun hc26 => ?_)
            · rw [if_pos hc26] at h
              refine x_aload_n (j := 0) (i := 0) dX11_betters_78 rfl rfl ?_
              obtain ⟨g27, h⟩ := gd_some h
              refine x_getR (ci := 11) (k := 12) dX11_betters_79 lf_RX11_38 rfl g27 ?_
              refine x_iload_n (j := 2) (i := 2) dX11_betters_82 rfl rfl ?_
              refine x_iload_n (j := 3) (i := 3) dX11_betters_83 rfl rfl ?_
              obtain ⟨g28, h⟩ := gd_some h
              obtain ⟨g29, h⟩ := gd_some h
              obtain ⟨w30, hw31, h⟩ := lt1_some h
              refine x_iast dX11_betters_84 g28 g29 ?_
              rw [← hw31]
              refine x_iinc (j := 4) (i := 4) (v := x4 + (1 : Int32)) (lv2 := [(4, xI (x4 + (1 : Int32))), (0, xR x0), (1, xI x1), (2, xI x2), (3, xI x3)]) dX11_betters_85 rfl rfl (by decide) rfl ?_
              refine x_goto (tgt := 25) dX11_betters_88 (by decide) ?_
              refine x_lv (lv2 := [(0, xR x0), (1, xI x1), (2, xI x2), (3, xI x3), (4, xI (x4 + (1 : Int32)))]) [1, 2, 3, 4, 0] rfl ?_
              exact ih x0 x1 x2 x3 (x4 + (1 : Int32)) w30 h
            · rw [if_neg hc26] at h
              refine x_iconst (v := 1) dX11_betters_76 (by decide) ?_
              obtain ⟨hr9, hw9⟩ := Prod.mk.inj (Option.some.inj h)
              subst hw9
              subst hr9
              exact x_zret dX11_betters_77 rfl (by decide) rfl
set_option maxRecDepth 20000 in
theorem k_X11_betters_l7 (rE : Int32) (wE : xSt) : ∀ (n : Nat) (x0 : Nat) (x1 : Int32) (x2 : Int32) (w : xSt), f_X11_betters_l7 n x0 x1 x2 w = some (rE, wE) → xX cX11_betters 5 (some .boolean) RX11 false (xRm 4 0 0) (xZf (some (xI rE), wE) 0 0) 7 [(0, xR x0), (1, xI x1), (2, xI x2)] [] w 0 0 := by
  intro n
  induction n with
  | zero => intro x0 x1 x2 w h; exact nomatch (show (none : Option (Int32 × xSt)) = some (rE, wE) from h)
  | succ n ih =>
    intro x0 x1 x2 w h
    rw [f_X11_betters_l7_s] at h
    refine x_iload_n (j := 2) (i := 2) dX11_betters_7 rfl rfl ?_
    refine x_aload_n (j := 0) (i := 0) dX11_betters_8 rfl rfl ?_
    obtain ⟨g5, h⟩ := gd_some h
    refine x_getI (ci := 11) (k := 5) dX11_betters_9 lf_RX11_121 rfl g5 ?_
    refine x_icmp_ge (tgt := 97) dX11_betters_12 (by decide) (fun hc6 => ?_) (fun hc6 => ?_)
    · rw [if_pos hc6] at h
      refine x_iconst (v := 0) dX11_betters_97 (by decide) ?_
      obtain ⟨hr9, hw9⟩ := Prod.mk.inj (Option.some.inj h)
      subst hw9
      subst hr9
      exact x_zret dX11_betters_98 rfl (by decide) rfl
    · rw [if_neg hc6] at h
      refine x_aload_n (j := 0) (i := 0) dX11_betters_15 rfl rfl ?_
      refine x_getR (ci := 11) (k := 12) dX11_betters_16 lf_RX11_38 rfl g5 ?_
      refine x_iload_n (j := 2) (i := 2) dX11_betters_19 rfl rfl ?_
      obtain ⟨g7, h⟩ := gd_some h
      obtain ⟨g8, h⟩ := gd_some h
      refine x_iald dX11_betters_20 g7 g8 ?_
      refine x_istore_n (i := 3) (lv2 := [(3, xI (wI w (wR w x0 12) x2.toNatClampNeg)), (0, xR x0), (1, xI x1), (2, xI x2)]) dX11_betters_21 rfl (by decide) rfl ?_
      refine x_iconst (v := 0) dX11_betters_22 (by decide) ?_
      refine x_istore (i := 4) (lv2 := [(4, xI (0 : Int32)), (3, xI (wI w (wR w x0 12) x2.toNatClampNeg)), (0, xR x0), (1, xI x1), (2, xI x2)]) dX11_betters_23 (by decide) rfl ?_
      refine x_lv (lv2 := [(0, xR x0), (1, xI x1), (2, xI x2), (3, xI (wI w (wR w x0 12) x2.toNatClampNeg)), (4, xI (0 : Int32))]) [2, 3, 4, 1, 0] rfl ?_
      exact k_X11_betters_l25 (f_X11_betters_l7 n) rE wE ih xFu x0 x1 x2 (wI w (wR w x0 12) x2.toNatClampNeg) (0 : Int32) w h
set_option maxRecDepth 20000 in
theorem c_X11_betters (x0 : Nat) (w : xSt) (rE : Int32) (wE : xSt) (h : f_X11_betters x0 w = some (rE, wE)) : xCall yX11_betters cX11_betters 5 (some .boolean) 4 0 0 [xR x0] w (some (xI rE), wE) := by
  refine xCall_of false (by decide) (fun q => nomatch q) (Nat.le_of_ble_eq_true rfl) ?_
  show xX cX11_betters 5 (some .boolean) RX11 false (xRm 4 0 0) (xZf (some (xI rE), wE) 0 0) 0 [(0, xR x0)] [] w 0 0
  unfold f_X11_betters at h
  refine x_aload_n (j := 0) (i := 0) dX11_betters_0 rfl rfl ?_
  obtain ⟨g4, h⟩ := gd_some h
  obtain ⟨v1, w2, hc3, h⟩ := bd_s h
  refine x_callVI (ci := 11) dX11_betters_1 ml_RX11_182 mb_X11_priced (c_X11_priced x0 w v1 w2 hc3) ⟨_, rfl, rfl⟩ g4 [] rfl rfl (Nat.le_of_ble_eq_true rfl) (by decide) (by decide) ?_
  refine x_istore_n (i := 1) (lv2 := [(1, xI v1), (0, xR x0)]) dX11_betters_4 rfl (by decide) rfl ?_
  refine x_iconst (v := 0) dX11_betters_5 (by decide) ?_
  refine x_istore_n (i := 2) (lv2 := [(2, xI (0 : Int32)), (1, xI v1), (0, xR x0)]) dX11_betters_6 rfl (by decide) rfl ?_
  refine x_lv (lv2 := [(0, xR x0), (1, xI v1), (2, xI (0 : Int32))]) [2, 1, 0] rfl ?_
  exact k_X11_betters_l7 rE wE xFu x0 v1 (0 : Int32) w2 h
set_option maxRecDepth 20000 in
theorem k_X11_better_l12 (rE : Int32) (wE : xSt) : ∀ (n : Nat) (x0 : Nat) (x1 : Int32) (w : xSt), f_X11_better_l12 n x0 x1 w = some (rE, wE) → xX cX11_better 2 (some .int) RX11 false (xRm 5 0 0) (xZf (some (xI rE), wE) 0 0) 12 [(0, xR x0), (1, xI x1)] [] w 0 0 := by
  intro n
  induction n with
  | zero => intro x0 x1 w h; exact nomatch (show (none : Option (Int32 × xSt)) = some (rE, wE) from h)
  | succ n ih =>
    intro x0 x1 w h
    rw [f_X11_better_l12_s] at h
    refine x_iload_n (j := 1) (i := 1) dX11_better_12 rfl rfl ?_
    refine x_bipush (v := 50) dX11_better_13 (by decide) ?_
    refine x_icmp_ge (tgt := 31) dX11_better_15 (by decide) (fun hc6 => ?_) (fun hc6 => ?_)
    · rw [if_pos hc6] at h
      refine x_iload_n (j := 1) (i := 1) dX11_better_31 rfl rfl ?_
      obtain ⟨hr9, hw9⟩ := Prod.mk.inj (Option.some.inj h)
      subst hw9
      subst hr9
      exact x_iret dX11_better_32 rfl rfl
    · rw [if_neg hc6] at h
      refine x_aload_n (j := 0) (i := 0) dX11_better_18 rfl rfl ?_
      obtain ⟨g10, h⟩ := gd_some h
      obtain ⟨v7, w8, hc9, h⟩ := bd_s h
      refine x_callVI (ci := 11) dX11_better_19 ml_RX11_188 mb_X11_betters (c_X11_betters x0 w v7 w8 hc9) ⟨_, rfl, rfl⟩ g10 [] rfl rfl (Nat.le_of_ble_eq_true rfl) (by decide) (by decide) ?_
      refine x_if_eq (tgt := 31) dX11_better_22 (by decide) (fun hc11 => ?_) (fun hc11 => ?_)
      · rw [if_pos hc11] at h
        refine x_iload_n (j := 1) (i := 1) dX11_better_31 rfl rfl ?_
        obtain ⟨hr9, hw9⟩ := Prod.mk.inj (Option.some.inj h)
        subst hw9
        subst hr9
        exact x_iret dX11_better_32 rfl rfl
      · rw [if_neg hc11] at h
        refine x_iinc (j := 1) (i := 1) (v := x1 + (1 : Int32)) (lv2 := [(1, xI (x1 + (1 : Int32))), (0, xR x0)]) dX11_better_25 rfl rfl (by decide) rfl ?_
        refine x_goto (tgt := 12) dX11_better_28 (by decide) ?_
        refine x_lv (lv2 := [(0, xR x0), (1, xI (x1 + (1 : Int32)))]) [1, 0] rfl ?_
        exact ih x0 (x1 + (1 : Int32)) w8 h
set_option maxRecDepth 20000 in
theorem c_X11_better (x0 : Nat) (w : xSt) (rE : Int32) (wE : xSt) (h : f_X11_better x0 w = some (rE, wE)) : xCall yX11_better cX11_better 2 (some .int) 5 0 0 [xR x0] w (some (xI rE), wE) := by
  refine xCall_of false (by decide) (fun q => nomatch q) (Nat.le_of_ble_eq_true rfl) ?_
  show xX cX11_better 2 (some .int) RX11 false (xRm 5 0 0) (xZf (some (xI rE), wE) 0 0) 0 [(0, xR x0)] [] w 0 0
  unfold f_X11_better at h
  refine x_aload_n (j := 0) (i := 0) dX11_better_0 rfl rfl ?_
  obtain ⟨g4, h⟩ := gd_some h
  obtain ⟨v1, w2, hc3, h⟩ := bd_s h
  refine x_callVI (ci := 11) dX11_better_1 ml_RX11_185 mb_X11_ins (c_X11_ins x0 w v1 w2 hc3) ⟨_, rfl, rfl⟩ g4 [] rfl rfl (Nat.le_of_ble_eq_true rfl) (by decide) (by decide) ?_
  refine x_if_le (tgt := 10) dX11_better_4 (by decide) (fun hc5 => ?_) (fun hc5 => ?_)
  · rw [if_pos hc5] at h
    refine x_iconst (v := 0) dX11_better_10 (by decide) ?_
    refine x_istore_n (i := 1) (lv2 := [(1, xI (0 : Int32)), (0, xR x0)]) dX11_better_11 rfl (by decide) rfl ?_
    refine x_lv (lv2 := [(0, xR x0), (1, xI (0 : Int32))]) [1, 0] rfl ?_
    exact k_X11_better_l12 rE wE xFu x0 (0 : Int32) w2 h
  · rw [if_neg hc5] at h
    refine x_bipush (v := -3) dX11_better_7 (by decide) ?_
    obtain ⟨hr9, hw9⟩ := Prod.mk.inj (Option.some.inj h)
    subst hw9
    subst hr9
    exact x_iret dX11_better_9 rfl rfl
set_option maxRecDepth 20000 in
theorem k_X11_reaches_b50 (rE : Unit) (wE : xSt) (x0 : Nat) (x1 : Int32) (w : xSt) (h : f_X11_reaches_b50 x0 x1 w = some (rE, wE)) : xX cX11_reaches 4 none RX11 false (xRm 3 0 0) (xZf (none, wE) 0 0) 50 [(0, xR x0), (1, xI x1)] [] w 0 0 := by
  unfold f_X11_reaches_b50 at h
  refine x_aload_n (j := 0) (i := 0) dX11_reaches_50 rfl rfl ?_
  obtain ⟨g15, h⟩ := gd_some h
  refine x_getR (ci := 11) (k := 40) dX11_reaches_51 lf_RX11_93 rfl g15 ?_
  refine x_iload_n (j := 1) (i := 1) dX11_reaches_54 rfl rfl ?_
  refine x_iconst (v := 1) dX11_reaches_55 (by decide) ?_
  obtain ⟨g16, h⟩ := gd_some h
  obtain ⟨g17, h⟩ := gd_some h
  obtain ⟨w18, hw19, h⟩ := lt1_some h
  refine x_zast dX11_reaches_56 g16 g17 ?_
  rw [← hw19]
  refine x_aload_n (j := 0) (i := 0) dX11_reaches_57 rfl rfl ?_
  have g20 : isC w18 x0 11 := by rw [hw19]; exact g15
  refine x_getR (ci := 11) (k := 41) dX11_reaches_58 lf_RX11_96 rfl g20 ?_
  refine x_aload_n (j := 0) (i := 0) dX11_reaches_61 rfl rfl ?_
  refine x_getI (ci := 11) (k := 42) dX11_reaches_62 lf_RX11_192 rfl g20 ?_
  refine x_iload_n (j := 1) (i := 1) dX11_reaches_65 rfl rfl ?_
  obtain ⟨g21, h⟩ := gd_some h
  obtain ⟨g22, h⟩ := gd_some h
  obtain ⟨w23, hw24, h⟩ := lt1_some h
  refine x_iast dX11_reaches_66 g21 g22 ?_
  rw [← hw24]
  refine x_aload_n (j := 0) (i := 0) dX11_reaches_67 rfl rfl ?_
  refine x_dup dX11_reaches_68 rfl ?_
  have g25 : isC w23 x0 11 := by rw [hw24]; exact g20
  refine x_getI (ci := 11) (k := 42) dX11_reaches_69 lf_RX11_192 rfl g25 ?_
  refine x_iconst (v := 1) dX11_reaches_72 (by decide) ?_
  refine x_iadd dX11_reaches_73 ?_
  obtain ⟨w26, hw27, h⟩ := lt1_some h
  refine x_putI (ci := 11) (k := 42) dX11_reaches_74 (lw_RX11_192_w _) rfl g25 ?_
  rw [← hw27]
  obtain ⟨hr9, hw9⟩ := Prod.mk.inj (Option.some.inj h)
  subst hw9
  exact x_vret dX11_reaches_77 rfl rfl
set_option maxRecDepth 20000 in
theorem c_X11_reaches (x0 : Nat) (x1 : Int32) (x2 : Int32) (w : xSt) (rE : Unit) (wE : xSt) (h : f_X11_reaches x0 x1 x2 w = some (rE, wE)) : xCall yX11_reaches cX11_reaches 4 none 3 0 0 [xR x0, xI x1, xI x2] w (none, wE) := by
  refine xCall_of false (by decide) (fun q => nomatch q) (Nat.le_of_ble_eq_true rfl) ?_
  show xX cX11_reaches 4 none RX11 false (xRm 3 0 0) (xZf (none, wE) 0 0) 0 [(0, xR x0), (1, xI x1), (2, xI x2)] [] w 0 0
  unfold f_X11_reaches at h
  refine x_aload_n (j := 0) (i := 0) dX11_reaches_0 rfl rfl ?_
  refine x_iload_n (j := 1) (i := 1) dX11_reaches_1 rfl rfl ?_
  obtain ⟨g4, h⟩ := gd_some h
  obtain ⟨v1, w2, hc3, h⟩ := bd_s h
  refine x_callVI (ci := 11) dX11_reaches_2 ml_RX11_176 mb_X11_standOn (c_X11_standOn x0 x1 w v1 w2 hc3) ⟨_, rfl, rfl⟩ g4 [] rfl rfl (Nat.le_of_ble_eq_true rfl) (by decide) (by decide) ?_
  refine x_istore_n (i := 3) (lv2 := [(3, xI v1), (0, xR x0), (1, xI x1), (2, xI x2)]) dX11_reaches_5 rfl (by decide) rfl ?_
  refine x_aload_n (j := 1) (i := 0) dX11_reaches_6 rfl rfl ?_
  obtain ⟨g5, h⟩ := gd_some h
  refine x_getR (ci := 11) (k := 40) dX11_reaches_7 lf_RX11_93 rfl g5 ?_
  refine x_iload_n (j := 2) (i := 1) dX11_reaches_10 rfl rfl ?_
  obtain ⟨g6, h⟩ := gd_some h
  obtain ⟨g7, h⟩ := gd_some h
  refine x_zald dX11_reaches_11 g6 g7 ?_
  refine x_if_ne (tgt := 49) dX11_reaches_12 (by decide) (fun hc8 => ?_) (fun hc8 => ?_)
  · rw [if_neg hc8] at h
    obtain ⟨hr9, hw9⟩ := Prod.mk.inj (Option.some.inj h)
    subst hw9
    exact x_vret dX11_reaches_49 rfl rfl
  · rw [if_pos hc8] at h
    refine x_aload_n (j := 1) (i := 0) dX11_reaches_15 rfl rfl ?_
    refine x_getR (ci := 11) (k := 2) dX11_reaches_16 lf_RX11_7 rfl g5 ?_
    refine x_iload_n (j := 2) (i := 1) dX11_reaches_19 rfl rfl ?_
    obtain ⟨g9, h⟩ := gd_some h
    obtain ⟨g10, h⟩ := gd_some h
    refine x_iald dX11_reaches_20 g9 g10 ?_
    refine x_iconst (v := 2) dX11_reaches_21 (by decide) ?_
    refine x_icmp_eq (tgt := 49) dX11_reaches_22 (by decide) (fun hc11 => ?_) (fun hc11 => ?_)
    · rw [if_pos hc11] at h
      obtain ⟨hr9, hw9⟩ := Prod.mk.inj (Option.some.inj h)
      subst hw9
      exact x_vret dX11_reaches_49 rfl rfl
    · rw [if_neg hc11] at h
      refine x_aload_n (j := 1) (i := 0) dX11_reaches_25 rfl rfl ?_
      refine x_getR (ci := 11) (k := 2) dX11_reaches_26 lf_RX11_7 rfl g5 ?_
      refine x_iload_n (j := 2) (i := 1) dX11_reaches_29 rfl rfl ?_
      refine x_iald dX11_reaches_30 g9 g10 ?_
      refine x_iconst (v := 3) dX11_reaches_31 (by decide) ?_
      refine x_icmp_eq (tgt := 49) dX11_reaches_32 (by decide) (fun hc12 => ?_) (fun hc12 => ?_)
      · rw [if_pos hc12] at h
        obtain ⟨hr9, hw9⟩ := Prod.mk.inj (Option.some.inj h)
        subst hw9
        exact x_vret dX11_reaches_49 rfl rfl
      · rw [if_neg hc12] at h
        refine x_iload_n (j := 0) (i := 3) dX11_reaches_35 rfl rfl ?_
        refine x_iconst (v := -1) dX11_reaches_36 (by decide) ?_
        refine x_icmp_eq (tgt := 50) dX11_reaches_37 (by decide) (fun hc13 => ?_) (fun hc13 => ?_)
        · rw [if_pos hc13] at h
          refine x_lv (lv2 := [(0, xR x0), (1, xI x1)]) [1, 2] rfl ?_
          exact k_X11_reaches_b50 rE wE x0 x1 w2 h
        · rw [if_neg hc13] at h
          refine x_iload_n (j := 3) (i := 2) dX11_reaches_40 rfl rfl ?_
          refine x_iload_n (j := 0) (i := 3) dX11_reaches_41 rfl rfl ?_
          refine x_ishr dX11_reaches_42 ?_
          refine x_iconst (v := 1) dX11_reaches_43 (by decide) ?_
          refine x_iand dX11_reaches_44 ?_
          refine x_iconst (v := 1) dX11_reaches_45 (by decide) ?_
          refine x_icmp_ne (tgt := 50) dX11_reaches_46 (by decide) (fun hc14 => ?_) (fun hc14 => ?_)
          · rw [if_neg hc14] at h
            refine x_lv (lv2 := [(0, xR x0), (1, xI x1)]) [1, 2] rfl ?_
            exact k_X11_reaches_b50 rE wE x0 x1 w2 h
          · rw [if_pos hc14] at h
            obtain ⟨hr9, hw9⟩ := Prod.mk.inj (Option.some.inj h)
            subst hw9
            exact x_vret dX11_reaches_49 rfl rfl

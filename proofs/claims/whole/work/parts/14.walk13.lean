set_option maxRecDepth 20000 in
theorem k_X11_gap_b20 (rE : Int32) (wE : xSt) (s0 : Int32) (w : xSt) (h : f_X11_gap_b20 s0 w = some (rE, wE)) : xX cX11_gap 5 (some .int) RX11 false (xRm 0 0 0) (xZf (some (xI rE), wE) 0 0) 20 [] [xI s0] w 0 0 := by
  unfold f_X11_gap_b20 at h
  refine x_istore (i := 4) (lv2 := [(4, xI s0)]) dX11_gap_20 (by decide) rfl ?_
  refine x_iload (j := 0) (i := 4) dX11_gap_22 rfl ?_
  refine x_if_ge (tgt := 31) dX11_gap_24 (by decide) (fun hc2 => ?_) (fun hc2 => ?_)
  · rw [if_pos hc2] at h
    refine x_iload (j := 0) (i := 4) dX11_gap_31 rfl ?_
    obtain ⟨hr9, hw9⟩ := Prod.mk.inj (Option.some.inj h)
    subst hw9
    subst hr9
    exact x_iret dX11_gap_33 rfl rfl
  · rw [if_neg hc2] at h
    refine x_iconst (v := 0) dX11_gap_27 (by decide) ?_
    refine x_goto (tgt := 33) dX11_gap_28 (by decide) ?_
    obtain ⟨hr9, hw9⟩ := Prod.mk.inj (Option.some.inj h)
    subst hw9
    subst hr9
    exact x_iret dX11_gap_33 rfl rfl
set_option maxRecDepth 20000 in
theorem c_X11_gap (x0 : Int32) (x1 : Int32) (x2 : Int32) (x3 : Int32) (w : xSt) (rE : Int32) (wE : xSt) (h : f_X11_gap x0 x1 x2 x3 w = some (rE, wE)) : xCall yX11_gap cX11_gap 5 (some .int) 0 0 0 [xI x0, xI x1, xI x2, xI x3] w (some (xI rE), wE) := by
  refine xCall_of false (by decide) (fun q => nomatch q) (Nat.le_of_ble_eq_true rfl) ?_
  show xX cX11_gap 5 (some .int) RX11 false (xRm 0 0 0) (xZf (some (xI rE), wE) 0 0) 0 [(0, xI x0), (1, xI x1), (2, xI x2), (3, xI x3)] [] w 0 0
  unfold f_X11_gap at h
  refine x_iload_n (j := 0) (i := 0) dX11_gap_0 rfl rfl ?_
  refine x_iload_n (j := 2) (i := 2) dX11_gap_1 rfl rfl ?_
  refine x_iload_n (j := 3) (i := 3) dX11_gap_2 rfl rfl ?_
  refine x_iadd dX11_gap_3 ?_
  refine x_icmp_lt (tgt := 15) dX11_gap_4 (by decide) (fun hc1 => ?_) (fun hc1 => ?_)
  · rw [if_pos hc1] at h
    refine x_iload_n (j := 2) (i := 2) dX11_gap_15 rfl rfl ?_
    refine x_iload_n (j := 0) (i := 0) dX11_gap_16 rfl rfl ?_
    refine x_isub dX11_gap_17 ?_
    refine x_iload_n (j := 1) (i := 1) dX11_gap_18 rfl rfl ?_
    refine x_isub dX11_gap_19 ?_
    refine x_lv (lv2 := []) [] rfl ?_
    exact k_X11_gap_b20 rE wE ((x2 - x0) - x1) w h
  · rw [if_neg hc1] at h
    refine x_iload_n (j := 0) (i := 0) dX11_gap_7 rfl rfl ?_
    refine x_iload_n (j := 2) (i := 2) dX11_gap_8 rfl rfl ?_
    refine x_isub dX11_gap_9 ?_
    refine x_iload_n (j := 3) (i := 3) dX11_gap_10 rfl rfl ?_
    refine x_isub dX11_gap_11 ?_
    refine x_goto (tgt := 20) dX11_gap_12 (by decide) ?_
    refine x_lv (lv2 := []) [] rfl ?_
    exact k_X11_gap_b20 rE wE ((x0 - x2) - x3) w h
set_option maxRecDepth 20000 in
theorem c_X11_isNear (x0 : Nat) (x1 : Int32) (x2 : Int32) (x3 : Int32) (w : xSt) (rE : Int32) (wE : xSt) (h : f_X11_isNear x0 x1 x2 x3 w = some (rE, wE)) : xCall yX11_isNear cX11_isNear 6 (some .boolean) 1 0 0 [xR x0, xI x1, xI x2, xI x3] w (some (xI rE), wE) := by
  refine xCall_of false (by decide) (fun q => nomatch q) (Nat.le_of_ble_eq_true rfl) ?_
  show xX cX11_isNear 6 (some .boolean) RX11 false (xRm 1 0 0) (xZf (some (xI rE), wE) 0 0) 0 [(0, xR x0), (1, xI x1), (2, xI x2), (3, xI x3)] [] w 0 0
  unfold f_X11_isNear at h
  refine x_iload_n (j := 2) (i := 2) dX11_isNear_0 rfl rfl ?_
  refine x_aload_n (j := 0) (i := 0) dX11_isNear_1 rfl rfl ?_
  obtain ⟨g1, h⟩ := gd_some h
  refine x_getI (ci := 11) (k := 0) dX11_isNear_2 lf_RX11_111 rfl g1 ?_
  obtain ⟨g2, h⟩ := gd_some h
  refine x_irem dX11_isNear_5 g2 ?_
  refine x_aload_n (j := 0) (i := 0) dX11_isNear_6 rfl rfl ?_
  refine x_getR (ci := 11) (k := 9) dX11_isNear_7 lf_RX11_29 rfl g1 ?_
  refine x_iload_n (j := 1) (i := 1) dX11_isNear_10 rfl rfl ?_
  obtain ⟨g3, h⟩ := gd_some h
  obtain ⟨g4, h⟩ := gd_some h
  refine x_iald dX11_isNear_11 g3 g4 ?_
  refine x_aload_n (j := 0) (i := 0) dX11_isNear_12 rfl rfl ?_
  refine x_getR (ci := 11) (k := 12) dX11_isNear_13 lf_RX11_38 rfl g1 ?_
  refine x_iload_n (j := 3) (i := 3) dX11_isNear_16 rfl rfl ?_
  obtain ⟨g5, h⟩ := gd_some h
  obtain ⟨g6, h⟩ := gd_some h
  refine x_iald dX11_isNear_17 g5 g6 ?_
  refine x_aload_n (j := 0) (i := 0) dX11_isNear_18 rfl rfl ?_
  refine x_getI (ci := 11) (k := 0) dX11_isNear_19 lf_RX11_111 rfl g1 ?_
  obtain ⟨g7, h⟩ := gd_some h
  refine x_irem dX11_isNear_22 g7 ?_
  refine x_aload_n (j := 0) (i := 0) dX11_isNear_23 rfl rfl ?_
  refine x_getR (ci := 11) (k := 9) dX11_isNear_24 lf_RX11_29 rfl g1 ?_
  refine x_iload_n (j := 3) (i := 3) dX11_isNear_27 rfl rfl ?_
  obtain ⟨g8, h⟩ := gd_some h
  refine x_iald dX11_isNear_28 g3 g8 ?_
  obtain ⟨v9, w10, hc11, h⟩ := bd_s h
  refine x_callSI dX11_isNear_29 ml_RX11_141 mb_X11_gap (c_X11_gap (x2 - x2 / (wI w x0 0) * (wI w x0 0)) (wI w (wR w x0 9) x1.toNatClampNeg) ((wI w (wR w x0 12) x3.toNatClampNeg) - (wI w (wR w x0 12) x3.toNatClampNeg) / (wI w x0 0) * (wI w x0 0)) (wI w (wR w x0 9) x3.toNatClampNeg) w v9 w10 hc11) [] rfl rfl (Nat.le_of_ble_eq_true rfl) (by decide) (by decide) ?_
  refine x_istore (i := 4) (lv2 := [(4, xI v9), (0, xR x0), (1, xI x1), (2, xI x2), (3, xI x3)]) dX11_isNear_32 (by decide) rfl ?_
  refine x_iload_n (j := 3) (i := 2) dX11_isNear_34 rfl rfl ?_
  refine x_aload_n (j := 1) (i := 0) dX11_isNear_35 rfl rfl ?_
  obtain ⟨g12, h⟩ := gd_some h
  refine x_getI (ci := 11) (k := 0) dX11_isNear_36 lf_RX11_111 rfl g12 ?_
  obtain ⟨g13, h⟩ := gd_some h
  refine x_idiv dX11_isNear_39 g13 ?_
  refine x_aload_n (j := 1) (i := 0) dX11_isNear_40 rfl rfl ?_
  refine x_getR (ci := 11) (k := 10) dX11_isNear_41 lf_RX11_32 rfl g12 ?_
  refine x_iload_n (j := 2) (i := 1) dX11_isNear_44 rfl rfl ?_
  obtain ⟨g14, h⟩ := gd_some h
  obtain ⟨g15, h⟩ := gd_some h
  refine x_iald dX11_isNear_45 g14 g15 ?_
  refine x_aload_n (j := 1) (i := 0) dX11_isNear_46 rfl rfl ?_
  refine x_getR (ci := 11) (k := 12) dX11_isNear_47 lf_RX11_38 rfl g12 ?_
  refine x_iload_n (j := 4) (i := 3) dX11_isNear_50 rfl rfl ?_
  obtain ⟨g16, h⟩ := gd_some h
  obtain ⟨g17, h⟩ := gd_some h
  refine x_iald dX11_isNear_51 g16 g17 ?_
  refine x_aload_n (j := 1) (i := 0) dX11_isNear_52 rfl rfl ?_
  refine x_getI (ci := 11) (k := 0) dX11_isNear_53 lf_RX11_111 rfl g12 ?_
  obtain ⟨g18, h⟩ := gd_some h
  refine x_idiv dX11_isNear_56 g18 ?_
  refine x_aload_n (j := 1) (i := 0) dX11_isNear_57 rfl rfl ?_
  refine x_getR (ci := 11) (k := 10) dX11_isNear_58 lf_RX11_32 rfl g12 ?_
  refine x_iload_n (j := 4) (i := 3) dX11_isNear_61 rfl rfl ?_
  obtain ⟨g19, h⟩ := gd_some h
  refine x_iald dX11_isNear_62 g14 g19 ?_
  obtain ⟨v20, w21, hc22, h⟩ := bd_s h
  refine x_callSI dX11_isNear_63 ml_RX11_141 mb_X11_gap (c_X11_gap (x2 / (wI w10 x0 0)) (wI w10 (wR w10 x0 10) x1.toNatClampNeg) ((wI w10 (wR w10 x0 12) x3.toNatClampNeg) / (wI w10 x0 0)) (wI w10 (wR w10 x0 10) x3.toNatClampNeg) w10 v20 w21 hc22) [] rfl rfl (Nat.le_of_ble_eq_true rfl) (by decide) (by decide) ?_
  refine x_istore (i := 5) (lv2 := [(5, xI v20), (4, xI v9), (0, xR x0), (1, xI x1), (2, xI x2), (3, xI x3)]) dX11_isNear_66 (by decide) rfl ?_
  refine x_iload (j := 1) (i := 4) dX11_isNear_68 rfl ?_
  refine x_aload_n (j := 2) (i := 0) dX11_isNear_70 rfl rfl ?_
  obtain ⟨g23, h⟩ := gd_some h
  refine x_getI (ci := 11) (k := 4) dX11_isNear_71 lf_RX11_16 rfl g23 ?_
  refine x_icmp_ge (tgt := 90) dX11_isNear_74 (by decide) (fun hc24 => ?_) (fun hc24 => ?_)
  · rw [if_pos hc24] at h
    refine x_iconst (v := 0) dX11_isNear_90 (by decide) ?_
    obtain ⟨hr9, hw9⟩ := Prod.mk.inj (Option.some.inj h)
    subst hw9
    subst hr9
    exact x_zret dX11_isNear_91 rfl (by decide) rfl
  · rw [if_neg hc24] at h
    refine x_iload (j := 0) (i := 5) dX11_isNear_77 rfl ?_
    refine x_aload_n (j := 2) (i := 0) dX11_isNear_79 rfl rfl ?_
    refine x_getI (ci := 11) (k := 4) dX11_isNear_80 lf_RX11_16 rfl g23 ?_
    refine x_icmp_ge (tgt := 90) dX11_isNear_83 (by decide) (fun hc25 => ?_) (fun hc25 => ?_)
    · rw [if_pos hc25] at h
      refine x_iconst (v := 0) dX11_isNear_90 (by decide) ?_
      obtain ⟨hr9, hw9⟩ := Prod.mk.inj (Option.some.inj h)
      subst hw9
      subst hr9
      exact x_zret dX11_isNear_91 rfl (by decide) rfl
    · rw [if_neg hc25] at h
      refine x_iconst (v := 1) dX11_isNear_86 (by decide) ?_
      refine x_goto (tgt := 91) dX11_isNear_87 (by decide) ?_
      obtain ⟨hr9, hw9⟩ := Prod.mk.inj (Option.some.inj h)
      subst hw9
      subst hr9
      exact x_zret dX11_isNear_91 rfl (by decide) rfl
set_option maxRecDepth 20000 in
theorem k_X11_hasFellow_l2 (rE : Int32) (wE : xSt) : ∀ (n : Nat) (x0 : Nat) (x1 : Int32) (x2 : Int32) (x3 : Int32) (w : xSt), f_X11_hasFellow_l2 n x0 x1 x2 x3 w = some (rE, wE) → xX cX11_hasFellow 4 (some .boolean) RX11 false (xRm 0 0 0) (xZf (some (xI rE), wE) 0 0) 2 [(0, xR x0), (1, xI x1), (2, xI x2), (3, xI x3)] [] w 0 0 := by
  intro n
  induction n with
  | zero => intro x0 x1 x2 x3 w h; exact nomatch (show (none : Option (Int32 × xSt)) = some (rE, wE) from h)
  | succ n ih =>
    intro x0 x1 x2 x3 w h
    rw [f_X11_hasFellow_l2_s] at h
    refine x_iload_n (j := 3) (i := 3) dX11_hasFellow_2 rfl rfl ?_
    refine x_aload_n (j := 0) (i := 0) dX11_hasFellow_3 rfl rfl ?_
    obtain ⟨g1, h⟩ := gd_some h
    refine x_getI (ci := 11) (k := 5) dX11_hasFellow_4 lf_RX11_121 rfl g1 ?_
    refine x_icmp_ge (tgt := 77) dX11_hasFellow_7 (by decide) (fun hc2 => ?_) (fun hc2 => ?_)
    · rw [if_pos hc2] at h
      refine x_iconst (v := 0) dX11_hasFellow_77 (by decide) ?_
      obtain ⟨hr9, hw9⟩ := Prod.mk.inj (Option.some.inj h)
      subst hw9
      subst hr9
      exact x_zret dX11_hasFellow_78 rfl (by decide) rfl
    · rw [if_neg hc2] at h
      refine x_iload_n (j := 3) (i := 3) dX11_hasFellow_10 rfl rfl ?_
      refine x_iload_n (j := 1) (i := 1) dX11_hasFellow_11 rfl rfl ?_
      refine x_icmp_eq (tgt := 71) dX11_hasFellow_12 (by decide) (fun hc3 => ?_) (fun hc3 => ?_)
      · rw [if_pos hc3] at h
        refine x_iinc (j := 3) (i := 3) (v := x3 + (1 : Int32)) (lv2 := [(3, xI (x3 + (1 : Int32))), (0, xR x0), (1, xI x1), (2, xI x2)]) dX11_hasFellow_71 rfl rfl (by decide) rfl ?_
        refine x_goto (tgt := 2) dX11_hasFellow_74 (by decide) ?_
        refine x_lv (lv2 := [(0, xR x0), (1, xI x1), (2, xI x2), (3, xI (x3 + (1 : Int32)))]) [1, 2, 3, 0] rfl ?_
        exact ih x0 x1 x2 (x3 + (1 : Int32)) w h
      · rw [if_neg hc3] at h
        refine x_aload_n (j := 0) (i := 0) dX11_hasFellow_15 rfl rfl ?_
        refine x_getR (ci := 11) (k := 12) dX11_hasFellow_16 lf_RX11_38 rfl g1 ?_
        refine x_iload_n (j := 3) (i := 3) dX11_hasFellow_19 rfl rfl ?_
        obtain ⟨g4, h⟩ := gd_some h
        obtain ⟨g5, h⟩ := gd_some h
        refine x_iald dX11_hasFellow_20 g4 g5 ?_
        refine x_iconst (v := -1) dX11_hasFellow_21 (by decide) ?_
        refine x_icmp_eq (tgt := 71) dX11_hasFellow_22 (by decide) (fun hc6 => ?_) (fun hc6 => ?_)
        · rw [if_pos hc6] at h
          refine x_iinc (j := 3) (i := 3) (v := x3 + (1 : Int32)) (lv2 := [(3, xI (x3 + (1 : Int32))), (0, xR x0), (1, xI x1), (2, xI x2)]) dX11_hasFellow_71 rfl rfl (by decide) rfl ?_
          refine x_goto (tgt := 2) dX11_hasFellow_74 (by decide) ?_
          refine x_lv (lv2 := [(0, xR x0), (1, xI x1), (2, xI x2), (3, xI (x3 + (1 : Int32)))]) [1, 2, 3, 0] rfl ?_
          exact ih x0 x1 x2 (x3 + (1 : Int32)) w h
        · rw [if_neg hc6] at h
          refine x_aload_n (j := 0) (i := 0) dX11_hasFellow_25 rfl rfl ?_
          refine x_getR (ci := 11) (k := 7) dX11_hasFellow_26 lf_RX11_23 rfl g1 ?_
          refine x_iload_n (j := 3) (i := 3) dX11_hasFellow_29 rfl rfl ?_
          obtain ⟨g7, h⟩ := gd_some h
          obtain ⟨g8, h⟩ := gd_some h
          refine x_iald dX11_hasFellow_30 g7 g8 ?_
          refine x_aload_n (j := 0) (i := 0) dX11_hasFellow_31 rfl rfl ?_
          refine x_getR (ci := 11) (k := 7) dX11_hasFellow_32 lf_RX11_23 rfl g1 ?_
          refine x_iload_n (j := 1) (i := 1) dX11_hasFellow_35 rfl rfl ?_
          obtain ⟨g9, h⟩ := gd_some h
          refine x_iald dX11_hasFellow_36 g7 g9 ?_
          refine x_icmp_ne (tgt := 71) dX11_hasFellow_37 (by decide) (fun hc10 => ?_) (fun hc10 => ?_)
          · rw [if_neg hc10] at h
            refine x_iinc (j := 3) (i := 3) (v := x3 + (1 : Int32)) (lv2 := [(3, xI (x3 + (1 : Int32))), (0, xR x0), (1, xI x1), (2, xI x2)]) dX11_hasFellow_71 rfl rfl (by decide) rfl ?_
            refine x_goto (tgt := 2) dX11_hasFellow_74 (by decide) ?_
            refine x_lv (lv2 := [(0, xR x0), (1, xI x1), (2, xI x2), (3, xI (x3 + (1 : Int32)))]) [1, 2, 3, 0] rfl ?_
            exact ih x0 x1 x2 (x3 + (1 : Int32)) w h
          · rw [if_pos hc10] at h
            refine x_aload_n (j := 0) (i := 0) dX11_hasFellow_40 rfl rfl ?_
            refine x_getR (ci := 11) (k := 8) dX11_hasFellow_41 lf_RX11_26 rfl g1 ?_
            refine x_iload_n (j := 3) (i := 3) dX11_hasFellow_44 rfl rfl ?_
            obtain ⟨g11, h⟩ := gd_some h
            obtain ⟨g12, h⟩ := gd_some h
            refine x_iald dX11_hasFellow_45 g11 g12 ?_
            refine x_aload_n (j := 0) (i := 0) dX11_hasFellow_46 rfl rfl ?_
            refine x_getR (ci := 11) (k := 8) dX11_hasFellow_47 lf_RX11_26 rfl g1 ?_
            refine x_iload_n (j := 1) (i := 1) dX11_hasFellow_50 rfl rfl ?_
            obtain ⟨g13, h⟩ := gd_some h
            refine x_iald dX11_hasFellow_51 g11 g13 ?_
            refine x_icmp_ne (tgt := 71) dX11_hasFellow_52 (by decide) (fun hc14 => ?_) (fun hc14 => ?_)
            · rw [if_neg hc14] at h
              refine x_iinc (j := 3) (i := 3) (v := x3 + (1 : Int32)) (lv2 := [(3, xI (x3 + (1 : Int32))), (0, xR x0), (1, xI x1), (2, xI x2)]) dX11_hasFellow_71 rfl rfl (by decide) rfl ?_
              refine x_goto (tgt := 2) dX11_hasFellow_74 (by decide) ?_
              refine x_lv (lv2 := [(0, xR x0), (1, xI x1), (2, xI x2), (3, xI (x3 + (1 : Int32)))]) [1, 2, 3, 0] rfl ?_
              exact ih x0 x1 x2 (x3 + (1 : Int32)) w h
            · rw [if_pos hc14] at h
              refine x_iload_n (j := 2) (i := 2) dX11_hasFellow_55 rfl rfl ?_
              refine x_if_eq (tgt := 69) dX11_hasFellow_56 (by decide) (fun hc15 => ?_) (fun hc15 => ?_)
              · rw [if_pos hc15] at h
                refine x_iconst (v := 1) dX11_hasFellow_69 (by decide) ?_
                obtain ⟨hr9, hw9⟩ := Prod.mk.inj (Option.some.inj h)
                subst hw9
                subst hr9
                exact x_zret dX11_hasFellow_70 rfl (by decide) rfl
              · rw [if_neg hc15] at h
                refine x_aload_n (j := 0) (i := 0) dX11_hasFellow_59 rfl rfl ?_
                refine x_getR (ci := 11) (k := 6) dX11_hasFellow_60 lf_RX11_20 rfl g1 ?_
                refine x_iload_n (j := 3) (i := 3) dX11_hasFellow_63 rfl rfl ?_
                obtain ⟨g16, h⟩ := gd_some h
                obtain ⟨g17, h⟩ := gd_some h
                refine x_iald dX11_hasFellow_64 g16 g17 ?_
                refine x_iconst (v := 4) dX11_hasFellow_65 (by decide) ?_
                refine x_icmp_ne (tgt := 71) dX11_hasFellow_66 (by decide) (fun hc18 => ?_) (fun hc18 => ?_)
                · rw [if_neg hc18] at h
                  refine x_iinc (j := 3) (i := 3) (v := x3 + (1 : Int32)) (lv2 := [(3, xI (x3 + (1 : Int32))), (0, xR x0), (1, xI x1), (2, xI x2)]) dX11_hasFellow_71 rfl rfl (by decide) rfl ?_
                  refine x_goto (tgt := 2) dX11_hasFellow_74 (by decide) ?_
                  refine x_lv (lv2 := [(0, xR x0), (1, xI x1), (2, xI x2), (3, xI (x3 + (1 : Int32)))]) [1, 2, 3, 0] rfl ?_
                  exact ih x0 x1 x2 (x3 + (1 : Int32)) w h
                · rw [if_pos hc18] at h
                  refine x_iconst (v := 1) dX11_hasFellow_69 (by decide) ?_
                  obtain ⟨hr9, hw9⟩ := Prod.mk.inj (Option.some.inj h)
                  subst hw9
                  subst hr9
                  exact x_zret dX11_hasFellow_70 rfl (by decide) rfl
set_option maxRecDepth 20000 in
theorem c_X11_hasFellow (x0 : Nat) (x1 : Int32) (x2 : Int32) (w : xSt) (rE : Int32) (wE : xSt) (h : f_X11_hasFellow x0 x1 x2 w = some (rE, wE)) : xCall yX11_hasFellow cX11_hasFellow 4 (some .boolean) 0 0 0 [xR x0, xI x1, xI x2] w (some (xI rE), wE) := by
  refine xCall_of false (by decide) (fun q => nomatch q) (Nat.le_of_ble_eq_true rfl) ?_
  show xX cX11_hasFellow 4 (some .boolean) RX11 false (xRm 0 0 0) (xZf (some (xI rE), wE) 0 0) 0 [(0, xR x0), (1, xI x1), (2, xI x2)] [] w 0 0
  unfold f_X11_hasFellow at h
  refine x_iconst (v := 0) dX11_hasFellow_0 (by decide) ?_
  refine x_istore_n (i := 3) (lv2 := [(3, xI (0 : Int32)), (0, xR x0), (1, xI x1), (2, xI x2)]) dX11_hasFellow_1 rfl (by decide) rfl ?_
  refine x_lv (lv2 := [(0, xR x0), (1, xI x1), (2, xI x2), (3, xI (0 : Int32))]) [1, 2, 3, 0] rfl ?_
  exact k_X11_hasFellow_l2 rE wE xFu x0 x1 x2 (0 : Int32) w h
set_option maxRecDepth 20000 in
theorem k_X11_needsMore_b101 (k18 : Nat → Int32 → Int32 → Int32 → Int32 → xSt → Option (Int32 × xSt)) (rE : Int32) (wE : xSt) (hk18 : ∀ (x0 : Nat) (x1 : Int32) (x2 : Int32) (x3 : Int32) (x4 : Int32) (w : xSt), k18 x0 x1 x2 x3 x4 w = some (rE, wE) → xX cX11_needsMore 5 (some .boolean) RX11 false (xRm 2 0 0) (xZf (some (xI rE), wE) 0 0) 18 [(0, xR x0), (1, xI x1), (2, xI x2), (3, xI x3), (4, xI x4)] [] w 0 0) (x0 : Nat) (x1 : Int32) (x2 : Int32) (x4 : Int32) (s0 : Nat) (s1 : Int32) (s2 : Int32) (w : xSt) (h : f_X11_needsMore_b101 k18 x0 x1 x2 x4 s0 s1 s2 w = some (rE, wE)) : xX cX11_needsMore 5 (some .boolean) RX11 false (xRm 2 0 0) (xZf (some (xI rE), wE) 0 0) 101 [(0, xR x0), (1, xI x1), (2, xI x2), (4, xI x4)] [xI s2, xI s1, xR s0] w 0 0 := by
  unfold f_X11_needsMore_b101 at h
  obtain ⟨g31, h⟩ := gd_some h
  obtain ⟨v28, w29, hc30, h⟩ := bd_s h
  refine x_callVI (ci := 11) dX11_needsMore_101 ml_RX11_145 mb_X11_isBeside (c_X11_isBeside s0 s1 s2 w v28 w29 hc30) ⟨_, rfl, rfl⟩ g31 [] rfl rfl (Nat.le_of_ble_eq_true rfl) (by decide) (by decide) ?_
  refine x_if_eq (tgt := 111) dX11_needsMore_104 (by decide) (fun hc32 => ?_) (fun hc32 => ?_)
  · rw [if_pos hc32] at h
    refine x_iconst (v := 0) dX11_needsMore_111 (by decide) ?_
    refine x_istore_n (i := 3) (lv2 := [(3, xI (0 : Int32)), (0, xR x0), (1, xI x1), (2, xI x2), (4, xI x4)]) dX11_needsMore_112 rfl (by decide) rfl ?_
    refine x_iinc (j := 4) (i := 4) (v := x4 + (1 : Int32)) (lv2 := [(4, xI (x4 + (1 : Int32))), (3, xI (0 : Int32)), (0, xR x0), (1, xI x1), (2, xI x2)]) dX11_needsMore_113 rfl rfl (by decide) rfl ?_
    refine x_goto (tgt := 18) dX11_needsMore_116 (by decide) ?_
    refine x_lv (lv2 := [(0, xR x0), (1, xI x1), (2, xI x2), (3, xI (0 : Int32)), (4, xI (x4 + (1 : Int32)))]) [2, 3, 4, 1, 0] rfl ?_
    exact hk18 x0 x1 x2 (0 : Int32) (x4 + (1 : Int32)) w29 h
  · rw [if_neg hc32] at h
    refine x_iconst (v := 1) dX11_needsMore_107 (by decide) ?_
    refine x_goto (tgt := 112) dX11_needsMore_108 (by decide) ?_
    refine x_istore_n (i := 3) (lv2 := [(3, xI (1 : Int32)), (0, xR x0), (1, xI x1), (2, xI x2), (4, xI x4)]) dX11_needsMore_112 rfl (by decide) rfl ?_
    refine x_iinc (j := 4) (i := 4) (v := x4 + (1 : Int32)) (lv2 := [(4, xI (x4 + (1 : Int32))), (3, xI (1 : Int32)), (0, xR x0), (1, xI x1), (2, xI x2)]) dX11_needsMore_113 rfl rfl (by decide) rfl ?_
    refine x_goto (tgt := 18) dX11_needsMore_116 (by decide) ?_
    refine x_lv (lv2 := [(0, xR x0), (1, xI x1), (2, xI x2), (3, xI (1 : Int32)), (4, xI (x4 + (1 : Int32)))]) [2, 3, 4, 1, 0] rfl ?_
    exact hk18 x0 x1 x2 (1 : Int32) (x4 + (1 : Int32)) w29 h
set_option maxRecDepth 20000 in
theorem k_X11_needsMore_b119 (rE : Int32) (wE : xSt) (x0 : Nat) (x1 : Int32) (x3 : Int32) (w : xSt) (h : f_X11_needsMore_b119 x0 x1 x3 w = some (rE, wE)) : xX cX11_needsMore 5 (some .boolean) RX11 false (xRm 2 0 0) (xZf (some (xI rE), wE) 0 0) 119 [(0, xR x0), (1, xI x1), (3, xI x3)] [] w 0 0 := by
  unfold f_X11_needsMore_b119 at h
  refine x_aload_n (j := 0) (i := 0) dX11_needsMore_119 rfl rfl ?_
  obtain ⟨g33, h⟩ := gd_some h
  refine x_getR (ci := 11) (k := 6) dX11_needsMore_120 lf_RX11_20 rfl g33 ?_
  refine x_iload_n (j := 1) (i := 1) dX11_needsMore_123 rfl rfl ?_
  obtain ⟨g34, h⟩ := gd_some h
  obtain ⟨g35, h⟩ := gd_some h
  refine x_iald dX11_needsMore_124 g34 g35 ?_
  refine x_iconst (v := 4) dX11_needsMore_125 (by decide) ?_
  refine x_icmp_ne (tgt := 138) dX11_needsMore_126 (by decide) (fun hc36 => ?_) (fun hc36 => ?_)
  · rw [if_neg hc36] at h
    refine x_iload_n (j := 2) (i := 3) dX11_needsMore_138 rfl rfl ?_
    refine x_if_ne (tgt := 146) dX11_needsMore_139 (by decide) (fun hc37 => ?_) (fun hc37 => ?_)
    · rw [if_neg hc37] at h
      refine x_iconst (v := 0) dX11_needsMore_146 (by decide) ?_
      obtain ⟨hr9, hw9⟩ := Prod.mk.inj (Option.some.inj h)
      subst hw9
      subst hr9
      exact x_zret dX11_needsMore_147 rfl (by decide) rfl
    · rw [if_pos hc37] at h
      refine x_iconst (v := 1) dX11_needsMore_142 (by decide) ?_
      refine x_goto (tgt := 147) dX11_needsMore_143 (by decide) ?_
      obtain ⟨hr9, hw9⟩ := Prod.mk.inj (Option.some.inj h)
      subst hw9
      subst hr9
      exact x_zret dX11_needsMore_147 rfl (by decide) rfl
  · rw [if_pos hc36] at h
    refine x_aload_n (j := 0) (i := 0) dX11_needsMore_129 rfl rfl ?_
    refine x_iload_n (j := 1) (i := 1) dX11_needsMore_130 rfl rfl ?_
    refine x_iconst (v := 0) dX11_needsMore_131 (by decide) ?_
    obtain ⟨v38, w39, hc40, h⟩ := bd_s h
    refine x_callVI (ci := 11) dX11_needsMore_132 ml_RX11_149 mb_X11_hasFellow (c_X11_hasFellow x0 x1 (0 : Int32) w v38 w39 hc40) ⟨_, rfl, rfl⟩ g33 [] rfl rfl (Nat.le_of_ble_eq_true rfl) (by decide) (by decide) ?_
    refine x_goto (tgt := 147) dX11_needsMore_135 (by decide) ?_
    obtain ⟨g41, h⟩ := gd_some h
    obtain ⟨hr9, hw9⟩ := Prod.mk.inj (Option.some.inj h)
    subst hw9
    subst hr9
    exact x_zret dX11_needsMore_147 rfl g41 rfl
set_option maxRecDepth 20000 in
theorem k_X11_needsMore_l18 (rE : Int32) (wE : xSt) : ∀ (n : Nat) (x0 : Nat) (x1 : Int32) (x2 : Int32) (x3 : Int32) (x4 : Int32) (w : xSt), f_X11_needsMore_l18 n x0 x1 x2 x3 x4 w = some (rE, wE) → xX cX11_needsMore 5 (some .boolean) RX11 false (xRm 2 0 0) (xZf (some (xI rE), wE) 0 0) 18 [(0, xR x0), (1, xI x1), (2, xI x2), (3, xI x3), (4, xI x4)] [] w 0 0 := by
  intro n
  induction n with
  | zero => intro x0 x1 x2 x3 x4 w h; exact nomatch (show (none : Option (Int32 × xSt)) = some (rE, wE) from h)
  | succ n ih =>
    intro x0 x1 x2 x3 x4 w h
    rw [f_X11_needsMore_l18_s] at h
    refine x_iload (j := 4) (i := 4) dX11_needsMore_18 rfl ?_
    refine x_aload_n (j := 0) (i := 0) dX11_needsMore_20 rfl rfl ?_
    obtain ⟨g5, h⟩ := gd_some h
    refine x_getI (ci := 11) (k := 0) dX11_needsMore_21 lf_RX11_111 rfl g5 ?_
    refine x_aload_n (j := 0) (i := 0) dX11_needsMore_24 rfl rfl ?_
    refine x_getI (ci := 11) (k := 1) dX11_needsMore_25 lf_RX11_114 rfl g5 ?_
    refine x_imul dX11_needsMore_28 ?_
    refine x_icmp_ge (tgt := 119) dX11_needsMore_29 (by decide) (fun hc6 => ?_) (fun hc6 => ?_)
    · rw [if_pos hc6] at h
      refine x_lv (lv2 := [(0, xR x0), (1, xI x1), (3, xI x3)]) [0, 1, 3] rfl ?_
      exact k_X11_needsMore_b119 rE wE x0 x1 x3 w h
    · rw [if_neg hc6] at h
      refine x_aload_n (j := 0) (i := 0) dX11_needsMore_32 rfl rfl ?_
      refine x_getR (ci := 11) (k := 6) dX11_needsMore_33 lf_RX11_20 rfl g5 ?_
      refine x_iload_n (j := 1) (i := 1) dX11_needsMore_36 rfl rfl ?_
      obtain ⟨g7, h⟩ := gd_some h
      obtain ⟨g8, h⟩ := gd_some h
      refine x_iald dX11_needsMore_37 g7 g8 ?_
      refine x_iconst (v := 1) dX11_needsMore_38 (by decide) ?_
      refine x_iconst (v := 3) dX11_needsMore_39 (by decide) ?_
      obtain ⟨v9, w10, hc11, h⟩ := bd_s h
      refine x_callSI dX11_needsMore_40 ml_RX11_117 mb_X11_in (c_X11_in (wI w (wR w x0 6) x1.toNatClampNeg) (1 : Int32) (3 : Int32) w v9 w10 hc11) [] rfl rfl (Nat.le_of_ble_eq_true rfl) (by decide) (by decide) ?_
      refine x_if_eq (tgt := 119) dX11_needsMore_43 (by decide) (fun hc12 => ?_) (fun hc12 => ?_)
      · rw [if_pos hc12] at h
        refine x_lv (lv2 := [(0, xR x0), (1, xI x1), (3, xI x3)]) [0, 1, 3] rfl ?_
        exact k_X11_needsMore_b119 rE wE x0 x1 x3 w10 h
      · rw [if_neg hc12] at h
        refine x_aload_n (j := 0) (i := 0) dX11_needsMore_46 rfl rfl ?_
        refine x_iload_n (j := 1) (i := 1) dX11_needsMore_47 rfl rfl ?_
        refine x_iload_n (j := 2) (i := 2) dX11_needsMore_48 rfl rfl ?_
        refine x_iload (j := 4) (i := 4) dX11_needsMore_49 rfl ?_
        obtain ⟨g16, h⟩ := gd_some h
        obtain ⟨v13, w14, hc15, h⟩ := bd_s h
        refine x_callVI (ci := 11) dX11_needsMore_51 ml_RX11_138 mb_X11_covers (c_X11_covers x0 x1 x2 x4 w10 v13 w14 hc15) ⟨_, rfl, rfl⟩ g16 [] rfl rfl (Nat.le_of_ble_eq_true rfl) (by decide) (by decide) ?_
        refine x_if_eq (tgt := 113) dX11_needsMore_54 (by decide) (fun hc17 => ?_) (fun hc17 => ?_)
        · rw [if_pos hc17] at h
          refine x_iinc (j := 4) (i := 4) (v := x4 + (1 : Int32)) (lv2 := [(4, xI (x4 + (1 : Int32))), (0, xR x0), (1, xI x1), (2, xI x2), (3, xI x3)]) dX11_needsMore_113 rfl rfl (by decide) rfl ?_
          refine x_goto (tgt := 18) dX11_needsMore_116 (by decide) ?_
          refine x_lv (lv2 := [(0, xR x0), (1, xI x1), (2, xI x2), (3, xI x3), (4, xI (x4 + (1 : Int32)))]) [1, 2, 3, 4, 0] rfl ?_
          exact ih x0 x1 x2 x3 (x4 + (1 : Int32)) w14 h
        · rw [if_neg hc17] at h
          refine x_iload_n (j := 3) (i := 3) dX11_needsMore_57 rfl rfl ?_
          refine x_if_ne (tgt := 107) dX11_needsMore_58 (by decide) (fun hc18 => ?_) (fun hc18 => ?_)
          · rw [if_neg hc18] at h
            refine x_iconst (v := 1) dX11_needsMore_107 (by decide) ?_
            refine x_goto (tgt := 112) dX11_needsMore_108 (by decide) ?_
            refine x_istore_n (i := 3) (lv2 := [(3, xI (1 : Int32)), (0, xR x0), (1, xI x1), (2, xI x2), (4, xI x4)]) dX11_needsMore_112 rfl (by decide) rfl ?_
            refine x_iinc (j := 4) (i := 4) (v := x4 + (1 : Int32)) (lv2 := [(4, xI (x4 + (1 : Int32))), (3, xI (1 : Int32)), (0, xR x0), (1, xI x1), (2, xI x2)]) dX11_needsMore_113 rfl rfl (by decide) rfl ?_
            refine x_goto (tgt := 18) dX11_needsMore_116 (by decide) ?_
            refine x_lv (lv2 := [(0, xR x0), (1, xI x1), (2, xI x2), (3, xI (1 : Int32)), (4, xI (x4 + (1 : Int32)))]) [2, 3, 4, 1, 0] rfl ?_
            exact ih x0 x1 x2 (1 : Int32) (x4 + (1 : Int32)) w14 h
          · rw [if_pos hc18] at h
            refine x_aload_n (j := 0) (i := 0) dX11_needsMore_61 rfl rfl ?_
            obtain ⟨g19, h⟩ := gd_some h
            refine x_getR (ci := 11) (k := 6) dX11_needsMore_62 lf_RX11_20 rfl g19 ?_
            refine x_iload_n (j := 1) (i := 1) dX11_needsMore_65 rfl rfl ?_
            obtain ⟨g20, h⟩ := gd_some h
            obtain ⟨g21, h⟩ := gd_some h
            refine x_iald dX11_needsMore_66 g20 g21 ?_
            refine x_iconst (v := 1) dX11_needsMore_67 (by decide) ?_
            refine x_icmp_ne (tgt := 83) dX11_needsMore_68 (by decide) (fun hc22 => ?_) (fun hc22 => ?_)
            · rw [if_neg hc22] at h
              refine x_aload_n (j := 0) (i := 0) dX11_needsMore_83 rfl rfl ?_
              refine x_iload (j := 4) (i := 4) dX11_needsMore_84 rfl ?_
              refine x_aload_n (j := 0) (i := 0) dX11_needsMore_86 rfl rfl ?_
              refine x_getR (ci := 11) (k := 6) dX11_needsMore_87 lf_RX11_20 rfl g19 ?_
              refine x_iload_n (j := 1) (i := 1) dX11_needsMore_90 rfl rfl ?_
              refine x_iald dX11_needsMore_91 g20 g21 ?_
              refine x_iconst (v := 2) dX11_needsMore_92 (by decide) ?_
              refine x_icmp_ne (tgt := 100) dX11_needsMore_93 (by decide) (fun hc23 => ?_) (fun hc23 => ?_)
              · rw [if_neg hc23] at h
                refine x_iconst (v := 3) dX11_needsMore_100 (by decide) ?_
                refine x_lv (lv2 := [(0, xR x0), (1, xI x1), (2, xI x2), (4, xI x4)]) [0, 1, 2, 4] rfl ?_
                exact k_X11_needsMore_b101 (f_X11_needsMore_l18 n) rE wE ih x0 x1 x2 x4 x0 x4 (3 : Int32) w14 h
              · rw [if_pos hc23] at h
                refine x_iconst (v := 2) dX11_needsMore_96 (by decide) ?_
                refine x_goto (tgt := 101) dX11_needsMore_97 (by decide) ?_
                refine x_lv (lv2 := [(0, xR x0), (1, xI x1), (2, xI x2), (4, xI x4)]) [0, 1, 2, 4] rfl ?_
                exact k_X11_needsMore_b101 (f_X11_needsMore_l18 n) rE wE ih x0 x1 x2 x4 x0 x4 (2 : Int32) w14 h
            · rw [if_pos hc22] at h
              refine x_aload_n (j := 0) (i := 0) dX11_needsMore_71 rfl rfl ?_
              refine x_iload (j := 4) (i := 4) dX11_needsMore_72 rfl ?_
              obtain ⟨v24, w25, hc26, h⟩ := bd_s h
              refine x_callVI (ci := 11) dX11_needsMore_74 ml_RX11_131 mb_X11_isEdge (c_X11_isEdge x0 x4 w14 v24 w25 hc26) ⟨_, rfl, rfl⟩ g19 [] rfl rfl (Nat.le_of_ble_eq_true rfl) (by decide) (by decide) ?_
              refine x_if_eq (tgt := 111) dX11_needsMore_77 (by decide) (fun hc27 => ?_) (fun hc27 => ?_)
              · rw [if_pos hc27] at h
                refine x_iconst (v := 0) dX11_needsMore_111 (by decide) ?_
                refine x_istore_n (i := 3) (lv2 := [(3, xI (0 : Int32)), (0, xR x0), (1, xI x1), (2, xI x2), (4, xI x4)]) dX11_needsMore_112 rfl (by decide) rfl ?_
                refine x_iinc (j := 4) (i := 4) (v := x4 + (1 : Int32)) (lv2 := [(4, xI (x4 + (1 : Int32))), (3, xI (0 : Int32)), (0, xR x0), (1, xI x1), (2, xI x2)]) dX11_needsMore_113 rfl rfl (by decide) rfl ?_
                refine x_goto (tgt := 18) dX11_needsMore_116 (by decide) ?_
                refine x_lv (lv2 := [(0, xR x0), (1, xI x1), (2, xI x2), (3, xI (0 : Int32)), (4, xI (x4 + (1 : Int32)))]) [2, 3, 4, 1, 0] rfl ?_
                exact ih x0 x1 x2 (0 : Int32) (x4 + (1 : Int32)) w25 h
              · rw [if_neg hc27] at h
                refine x_goto (tgt := 107) dX11_needsMore_80 (by decide) ?_
                refine x_iconst (v := 1) dX11_needsMore_107 (by decide) ?_
                refine x_goto (tgt := 112) dX11_needsMore_108 (by decide) ?_
                refine x_istore_n (i := 3) (lv2 := [(3, xI (1 : Int32)), (0, xR x0), (1, xI x1), (2, xI x2), (4, xI x4)]) dX11_needsMore_112 rfl (by decide) rfl ?_
                refine x_iinc (j := 4) (i := 4) (v := x4 + (1 : Int32)) (lv2 := [(4, xI (x4 + (1 : Int32))), (3, xI (1 : Int32)), (0, xR x0), (1, xI x1), (2, xI x2)]) dX11_needsMore_113 rfl rfl (by decide) rfl ?_
                refine x_goto (tgt := 18) dX11_needsMore_116 (by decide) ?_
                refine x_lv (lv2 := [(0, xR x0), (1, xI x1), (2, xI x2), (3, xI (1 : Int32)), (4, xI (x4 + (1 : Int32)))]) [2, 3, 4, 1, 0] rfl ?_
                exact ih x0 x1 x2 (1 : Int32) (x4 + (1 : Int32)) w25 h
set_option maxRecDepth 20000 in
theorem c_X11_needsMore (x0 : Nat) (x1 : Int32) (x2 : Int32) (w : xSt) (rE : Int32) (wE : xSt) (h : f_X11_needsMore x0 x1 x2 w = some (rE, wE)) : xCall yX11_needsMore cX11_needsMore 5 (some .boolean) 2 0 0 [xR x0, xI x1, xI x2] w (some (xI rE), wE) := by
  refine xCall_of false (by decide) (fun q => nomatch q) (Nat.le_of_ble_eq_true rfl) ?_
  show xX cX11_needsMore 5 (some .boolean) RX11 false (xRm 2 0 0) (xZf (some (xI rE), wE) 0 0) 0 [(0, xR x0), (1, xI x1), (2, xI x2)] [] w 0 0
  unfold f_X11_needsMore at h
  refine x_aload_n (j := 0) (i := 0) dX11_needsMore_0 rfl rfl ?_
  obtain ⟨g1, h⟩ := gd_some h
  refine x_getR (ci := 11) (k := 6) dX11_needsMore_1 lf_RX11_20 rfl g1 ?_
  refine x_iload_n (j := 1) (i := 1) dX11_needsMore_4 rfl rfl ?_
  obtain ⟨g2, h⟩ := gd_some h
  obtain ⟨g3, h⟩ := gd_some h
  refine x_iald dX11_needsMore_5 g2 g3 ?_
  refine x_if_ne (tgt := 13) dX11_needsMore_6 (by decide) (fun hc4 => ?_) (fun hc4 => ?_)
  · rw [if_neg hc4] at h
    refine x_iconst (v := 0) dX11_needsMore_13 (by decide) ?_
    refine x_istore_n (i := 3) (lv2 := [(3, xI (0 : Int32)), (0, xR x0), (1, xI x1), (2, xI x2)]) dX11_needsMore_14 rfl (by decide) rfl ?_
    refine x_iconst (v := 0) dX11_needsMore_15 (by decide) ?_
    refine x_istore (i := 4) (lv2 := [(4, xI (0 : Int32)), (3, xI (0 : Int32)), (0, xR x0), (1, xI x1), (2, xI x2)]) dX11_needsMore_16 (by decide) rfl ?_
    refine x_lv (lv2 := [(0, xR x0), (1, xI x1), (2, xI x2), (3, xI (0 : Int32)), (4, xI (0 : Int32))]) [2, 3, 4, 1, 0] rfl ?_
    exact k_X11_needsMore_l18 rE wE xFu x0 x1 x2 (0 : Int32) (0 : Int32) w h
  · rw [if_pos hc4] at h
    refine x_iconst (v := 1) dX11_needsMore_9 (by decide) ?_
    refine x_goto (tgt := 14) dX11_needsMore_10 (by decide) ?_
    refine x_istore_n (i := 3) (lv2 := [(3, xI (1 : Int32)), (0, xR x0), (1, xI x1), (2, xI x2)]) dX11_needsMore_14 rfl (by decide) rfl ?_
    refine x_iconst (v := 0) dX11_needsMore_15 (by decide) ?_
    refine x_istore (i := 4) (lv2 := [(4, xI (0 : Int32)), (3, xI (1 : Int32)), (0, xR x0), (1, xI x1), (2, xI x2)]) dX11_needsMore_16 (by decide) rfl ?_
    refine x_lv (lv2 := [(0, xR x0), (1, xI x1), (2, xI x2), (3, xI (1 : Int32)), (4, xI (0 : Int32))]) [2, 3, 4, 1, 0] rfl ?_
    exact k_X11_needsMore_l18 rE wE xFu x0 x1 x2 (1 : Int32) (0 : Int32) w h
set_option maxRecDepth 20000 in
theorem k_X11_otherOn_l2 (rE : Int32) (wE : xSt) : ∀ (n : Nat) (x0 : Nat) (x1 : Int32) (x2 : Int32) (x3 : Int32) (w : xSt), f_X11_otherOn_l2 n x0 x1 x2 x3 w = some (rE, wE) → xX cX11_otherOn 4 (some .int) RX11 false (xRm 2 0 0) (xZf (some (xI rE), wE) 0 0) 2 [(0, xR x0), (1, xI x1), (2, xI x2), (3, xI x3)] [] w 0 0 := by
  intro n
  induction n with
  | zero => intro x0 x1 x2 x3 w h; exact nomatch (show (none : Option (Int32 × xSt)) = some (rE, wE) from h)
  | succ n ih =>
    intro x0 x1 x2 x3 w h
    rw [f_X11_otherOn_l2_s] at h
    refine x_iload_n (j := 3) (i := 3) dX11_otherOn_2 rfl rfl ?_
    refine x_aload_n (j := 0) (i := 0) dX11_otherOn_3 rfl rfl ?_
    obtain ⟨g1, h⟩ := gd_some h
    refine x_getI (ci := 11) (k := 5) dX11_otherOn_4 lf_RX11_121 rfl g1 ?_
    refine x_icmp_ge (tgt := 48) dX11_otherOn_7 (by decide) (fun hc2 => ?_) (fun hc2 => ?_)
    · rw [if_pos hc2] at h
      refine x_iconst (v := -1) dX11_otherOn_48 (by decide) ?_
      obtain ⟨hr9, hw9⟩ := Prod.mk.inj (Option.some.inj h)
      subst hw9
      subst hr9
      exact x_iret dX11_otherOn_49 rfl rfl
    · rw [if_neg hc2] at h
      refine x_iload_n (j := 3) (i := 3) dX11_otherOn_10 rfl rfl ?_
      refine x_iload_n (j := 1) (i := 1) dX11_otherOn_11 rfl rfl ?_
      refine x_icmp_eq (tgt := 42) dX11_otherOn_12 (by decide) (fun hc3 => ?_) (fun hc3 => ?_)
      · rw [if_pos hc3] at h
        refine x_iinc (j := 3) (i := 3) (v := x3 + (1 : Int32)) (lv2 := [(3, xI (x3 + (1 : Int32))), (0, xR x0), (1, xI x1), (2, xI x2)]) dX11_otherOn_42 rfl rfl (by decide) rfl ?_
        refine x_goto (tgt := 2) dX11_otherOn_45 (by decide) ?_
        refine x_lv (lv2 := [(0, xR x0), (1, xI x1), (2, xI x2), (3, xI (x3 + (1 : Int32)))]) [1, 2, 3, 0] rfl ?_
        exact ih x0 x1 x2 (x3 + (1 : Int32)) w h
      · rw [if_neg hc3] at h
        refine x_aload_n (j := 0) (i := 0) dX11_otherOn_15 rfl rfl ?_
        refine x_getR (ci := 11) (k := 12) dX11_otherOn_16 lf_RX11_38 rfl g1 ?_
        refine x_iload_n (j := 3) (i := 3) dX11_otherOn_19 rfl rfl ?_
        obtain ⟨g4, h⟩ := gd_some h
        obtain ⟨g5, h⟩ := gd_some h
        refine x_iald dX11_otherOn_20 g4 g5 ?_
        refine x_iconst (v := -1) dX11_otherOn_21 (by decide) ?_
        refine x_icmp_eq (tgt := 42) dX11_otherOn_22 (by decide) (fun hc6 => ?_) (fun hc6 => ?_)
        · rw [if_pos hc6] at h
          refine x_iinc (j := 3) (i := 3) (v := x3 + (1 : Int32)) (lv2 := [(3, xI (x3 + (1 : Int32))), (0, xR x0), (1, xI x1), (2, xI x2)]) dX11_otherOn_42 rfl rfl (by decide) rfl ?_
          refine x_goto (tgt := 2) dX11_otherOn_45 (by decide) ?_
          refine x_lv (lv2 := [(0, xR x0), (1, xI x1), (2, xI x2), (3, xI (x3 + (1 : Int32)))]) [1, 2, 3, 0] rfl ?_
          exact ih x0 x1 x2 (x3 + (1 : Int32)) w h
        · rw [if_neg hc6] at h
          refine x_aload_n (j := 0) (i := 0) dX11_otherOn_25 rfl rfl ?_
          refine x_iload_n (j := 3) (i := 3) dX11_otherOn_26 rfl rfl ?_
          refine x_aload_n (j := 0) (i := 0) dX11_otherOn_27 rfl rfl ?_
          refine x_getR (ci := 11) (k := 12) dX11_otherOn_28 lf_RX11_38 rfl g1 ?_
          refine x_iload_n (j := 3) (i := 3) dX11_otherOn_31 rfl rfl ?_
          refine x_iald dX11_otherOn_32 g4 g5 ?_
          refine x_iload_n (j := 2) (i := 2) dX11_otherOn_33 rfl rfl ?_
          obtain ⟨v7, w8, hc9, h⟩ := bd_s h
          refine x_callVI (ci := 11) dX11_otherOn_34 ml_RX11_138 mb_X11_covers (c_X11_covers x0 x3 (wI w (wR w x0 12) x3.toNatClampNeg) x2 w v7 w8 hc9) ⟨_, rfl, rfl⟩ g1 [] rfl rfl (Nat.le_of_ble_eq_true rfl) (by decide) (by decide) ?_
          refine x_if_eq (tgt := 42) dX11_otherOn_37 (by decide) (fun hc10 => ?_) (fun hc10 => ?_)
          · rw [if_pos hc10] at h
            refine x_iinc (j := 3) (i := 3) (v := x3 + (1 : Int32)) (lv2 := [(3, xI (x3 + (1 : Int32))), (0, xR x0), (1, xI x1), (2, xI x2)]) dX11_otherOn_42 rfl rfl (by decide) rfl ?_
            refine x_goto (tgt := 2) dX11_otherOn_45 (by decide) ?_
            refine x_lv (lv2 := [(0, xR x0), (1, xI x1), (2, xI x2), (3, xI (x3 + (1 : Int32)))]) [1, 2, 3, 0] rfl ?_
            exact ih x0 x1 x2 (x3 + (1 : Int32)) w8 h
          · rw [if_neg hc10] at h
            refine x_iload_n (j := 3) (i := 3) dX11_otherOn_40 rfl rfl ?_
            obtain ⟨hr9, hw9⟩ := Prod.mk.inj (Option.some.inj h)
            subst hw9
            subst hr9
            exact x_iret dX11_otherOn_41 rfl rfl
set_option maxRecDepth 20000 in
theorem c_X11_otherOn (x0 : Nat) (x1 : Int32) (x2 : Int32) (w : xSt) (rE : Int32) (wE : xSt) (h : f_X11_otherOn x0 x1 x2 w = some (rE, wE)) : xCall yX11_otherOn cX11_otherOn 4 (some .int) 2 0 0 [xR x0, xI x1, xI x2] w (some (xI rE), wE) := by
  refine xCall_of false (by decide) (fun q => nomatch q) (Nat.le_of_ble_eq_true rfl) ?_
  show xX cX11_otherOn 4 (some .int) RX11 false (xRm 2 0 0) (xZf (some (xI rE), wE) 0 0) 0 [(0, xR x0), (1, xI x1), (2, xI x2)] [] w 0 0
  unfold f_X11_otherOn at h
  refine x_iconst (v := 0) dX11_otherOn_0 (by decide) ?_
  refine x_istore_n (i := 3) (lv2 := [(3, xI (0 : Int32)), (0, xR x0), (1, xI x1), (2, xI x2)]) dX11_otherOn_1 rfl (by decide) rfl ?_
  refine x_lv (lv2 := [(0, xR x0), (1, xI x1), (2, xI x2), (3, xI (0 : Int32))]) [1, 2, 3, 0] rfl ?_
  exact k_X11_otherOn_l2 rE wE xFu x0 x1 x2 (0 : Int32) w h

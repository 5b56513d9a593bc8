set_option maxRecDepth 20000 in
theorem k_X11_text_b99 (rE : Int32) (wE : xSt) (x0 : Nat) (x1 : Int32) (x2 : Int32) (x3 : Int32) (s0 : Int32) (w : xSt) (h : f_X11_text_b99 x0 x1 x2 x3 s0 w = some (rE, wE)) : xX cX11_text 5 (some .int) RX11 false (xRm 3 0 0) (xZf (some (xI rE), wE) 0 0) 99 [(0, xR x0), (1, xI x1), (2, xI x2), (3, xI x3)] [xI s0] w 0 0 := by
  unfold f_X11_text_b99 at h
  refine x_istore (i := 4) (lv2 := [(4, xI s0), (0, xR x0), (1, xI x1), (2, xI x2), (3, xI x3)]) dX11_text_99 (by decide) rfl ?_
  refine x_aload_n (j := 1) (i := 0) dX11_text_101 rfl rfl ?_
  refine x_iconst (v := 0) dX11_text_102 (by decide) ?_
  obtain ⟨g29, h⟩ := gd_some h
  obtain ⟨w30, hw31, h⟩ := lt1_some h
  refine x_putI (ci := 11) (k := 17) dX11_text_103 (lw_RX11_212_w _) rfl g29 ?_
  rw [← hw31]
  refine x_iload (j := 0) (i := 4) dX11_text_106 rfl ?_
  refine x_if_ne (tgt := 119) dX11_text_108 (by decide) (fun hc32 => ?_) (fun hc32 => ?_)
  · rw [if_neg hc32] at h
    refine x_aload_n (j := 1) (i := 0) dX11_text_119 rfl rfl ?_
    have g33 : isC w30 x0 11 := by rw [hw31]; exact g29
    refine x_getR (ci := 11) (k := 19) dX11_text_120 lf_RX11_57 rfl g33 ?_
    refine x_iload_n (j := 4) (i := 3) dX11_text_123 rfl rfl ?_
    refine x_iload_n (j := 3) (i := 2) dX11_text_124 rfl rfl ?_
    obtain ⟨g34, h⟩ := gd_some h
    obtain ⟨g35, h⟩ := gd_some h
    obtain ⟨w36, hw37, h⟩ := lt1_some h
    refine x_iast dX11_text_125 g34 g35 ?_
    rw [← hw37]
    refine x_aload_n (j := 1) (i := 0) dX11_text_126 rfl rfl ?_
    have g38 : isC w36 x0 11 := by rw [hw37]; exact g33
    refine x_getR (ci := 11) (k := 18) dX11_text_127 lf_RX11_54 rfl g38 ?_
    refine x_iload_n (j := 2) (i := 1) dX11_text_130 rfl rfl ?_
    refine x_dup2 dX11_text_131 rfl rfl ?_
    obtain ⟨g39, h⟩ := gd_some h
    obtain ⟨g40, h⟩ := gd_some h
    refine x_iald dX11_text_132 g39 g40 ?_
    refine x_iconst (v := 1) dX11_text_133 (by decide) ?_
    refine x_iadd dX11_text_134 ?_
    obtain ⟨w41, hw42, h⟩ := lt1_some h
    refine x_iast dX11_text_135 g39 g40 ?_
    rw [← hw42]
    refine x_aload_n (j := 1) (i := 0) dX11_text_136 rfl rfl ?_
    have g43 : isC w41 x0 11 := by rw [hw42]; exact g38
    refine x_getR (ci := 11) (k := 18) dX11_text_137 lf_RX11_54 rfl g43 ?_
    refine x_iload_n (j := 2) (i := 1) dX11_text_140 rfl rfl ?_
    obtain ⟨g44, h⟩ := gd_some h
    obtain ⟨g45, h⟩ := gd_some h
    refine x_iald dX11_text_141 g44 g45 ?_
    obtain ⟨hr9, hw9⟩ := Prod.mk.inj (Option.some.inj h)
    subst hw9
    subst hr9
    exact x_iret dX11_text_142 rfl rfl
  · rw [if_pos hc32] at h
    refine x_bipush (v := -10) dX11_text_111 (by decide) ?_
    refine x_aload_n (j := 1) (i := 0) dX11_text_113 rfl rfl ?_
    have g46 : isC w30 x0 11 := by rw [hw31]; exact g29
    refine x_getI (ci := 11) (k := 45) dX11_text_114 lf_RX11_221 rfl g46 ?_
    refine x_isub dX11_text_117 ?_
    obtain ⟨hr9, hw9⟩ := Prod.mk.inj (Option.some.inj h)
    subst hw9
    subst hr9
    exact x_iret dX11_text_118 rfl rfl
set_option maxRecDepth 20000 in
theorem k_X11_text_b76 (rE : Int32) (wE : xSt) (x0 : Nat) (x1 : Int32) (x2 : Int32) (x3 : Int32) (w : xSt) (h : f_X11_text_b76 x0 x1 x2 x3 w = some (rE, wE)) : xX cX11_text 5 (some .int) RX11 false (xRm 3 0 0) (xZf (some (xI rE), wE) 0 0) 76 [(0, xR x0), (1, xI x1), (2, xI x2), (3, xI x3)] [] w 0 0 := by
  unfold f_X11_text_b76 at h
  refine x_aload_n (j := 0) (i := 0) dX11_text_76 rfl rfl ?_
  obtain ⟨g26, h⟩ := gd_some h
  refine x_getI (ci := 11) (k := 46) dX11_text_77 lf_RX11_217 rfl g26 ?_
  refine x_if_ne (tgt := 98) dX11_text_80 (by decide) (fun hc27 => ?_) (fun hc27 => ?_)
  · rw [if_neg hc27] at h
    refine x_iconst (v := 0) dX11_text_98 (by decide) ?_
    refine x_lv (lv2 := [(0, xR x0), (1, xI x1), (2, xI x2), (3, xI x3)]) [0, 1, 2, 3] rfl ?_
    exact k_X11_text_b99 rE wE x0 x1 x2 x3 (0 : Int32) w h
  · rw [if_pos hc27] at h
    refine x_aload_n (j := 0) (i := 0) dX11_text_83 rfl rfl ?_
    refine x_getI (ci := 11) (k := 45) dX11_text_84 lf_RX11_221 rfl g26 ?_
    refine x_aload_n (j := 0) (i := 0) dX11_text_87 rfl rfl ?_
    refine x_getI (ci := 11) (k := 17) dX11_text_88 lf_RX11_212 rfl g26 ?_
    refine x_icmp_ne (tgt := 98) dX11_text_91 (by decide) (fun hc28 => ?_) (fun hc28 => ?_)
    · rw [if_neg hc28] at h
      refine x_iconst (v := 0) dX11_text_98 (by decide) ?_
      refine x_lv (lv2 := [(0, xR x0), (1, xI x1), (2, xI x2), (3, xI x3)]) [0, 1, 2, 3] rfl ?_
      exact k_X11_text_b99 rE wE x0 x1 x2 x3 (0 : Int32) w h
    · rw [if_pos hc28] at h
      refine x_iconst (v := 1) dX11_text_94 (by decide) ?_
      refine x_goto (tgt := 99) dX11_text_95 (by decide) ?_
      refine x_lv (lv2 := [(0, xR x0), (1, xI x1), (2, xI x2), (3, xI x3)]) [0, 1, 2, 3] rfl ?_
      exact k_X11_text_b99 rE wE x0 x1 x2 x3 (1 : Int32) w h
set_option maxRecDepth 20000 in
theorem c_X11_text (x0 : Nat) (x1 : Int32) (x2 : Int32) (w : xSt) (rE : Int32) (wE : xSt) (h : f_X11_text x0 x1 x2 w = some (rE, wE)) : xCall yX11_text cX11_text 5 (some .int) 3 0 0 [xR x0, xI x1, xI x2] w (some (xI rE), wE) := by
  refine xCall_of false (by decide) (fun q => nomatch q) (Nat.le_of_ble_eq_true rfl) ?_
  show xX cX11_text 5 (some .int) RX11 false (xRm 3 0 0) (xZf (some (xI rE), wE) 0 0) 0 [(0, xR x0), (1, xI x1), (2, xI x2)] [] w 0 0
  unfold f_X11_text at h
  refine x_iload_n (j := 1) (i := 1) dX11_text_0 rfl rfl ?_
  refine x_iconst (v := 0) dX11_text_1 (by decide) ?_
  refine x_iconst (v := 1) dX11_text_2 (by decide) ?_
  obtain ⟨v1, w2, hc3, h⟩ := bd_s h
  refine x_callSI dX11_text_3 ml_RX11_117 mb_X11_in (c_X11_in x1 (0 : Int32) (1 : Int32) w v1 w2 hc3) [] rfl rfl (Nat.le_of_ble_eq_true rfl) (by decide) (by decide) ?_
  refine x_if_eq (tgt := 20) dX11_text_6 (by decide) (fun hc4 => ?_) (fun hc4 => ?_)
  · rw [if_pos hc4] at h
    refine x_bipush (v := -2) dX11_text_20 (by decide) ?_
    obtain ⟨hr9, hw9⟩ := Prod.mk.inj (Option.some.inj h)
    subst hw9
    subst hr9
    exact x_iret dX11_text_22 rfl rfl
  · rw [if_neg hc4] at h
    refine x_iload_n (j := 2) (i := 2) dX11_text_9 rfl rfl ?_
    refine x_iconst (v := 0) dX11_text_10 (by decide) ?_
    refine x_sipush (v := 999) dX11_text_11 (by decide) ?_
    obtain ⟨v5, w6, hc7, h⟩ := bd_s h
    refine x_callSI dX11_text_14 ml_RX11_117 mb_X11_in (c_X11_in x2 (0 : Int32) (999 : Int32) w2 v5 w6 hc7) [] rfl rfl (Nat.le_of_ble_eq_true rfl) (by decide) (by decide) ?_
    refine x_if_ne (tgt := 23) dX11_text_17 (by decide) (fun hc8 => ?_) (fun hc8 => ?_)
    · rw [if_neg hc8] at h
      refine x_aload_n (j := 0) (i := 0) dX11_text_23 rfl rfl ?_
      obtain ⟨g9, h⟩ := gd_some h
      refine x_getR (ci := 11) (k := 18) dX11_text_24 lf_RX11_54 rfl g9 ?_
      refine x_iload_n (j := 1) (i := 1) dX11_text_27 rfl rfl ?_
      obtain ⟨g10, h⟩ := gd_some h
      obtain ⟨g11, h⟩ := gd_some h
      refine x_iald dX11_text_28 g10 g11 ?_
      refine x_bipush (v := 6) dX11_text_29 (by decide) ?_
      refine x_icmp_ne (tgt := 37) dX11_text_31 (by decide) (fun hc12 => ?_) (fun hc12 => ?_)
      · rw [if_neg hc12] at h
        refine x_aload_n (j := 0) (i := 0) dX11_text_37 rfl rfl ?_
        refine x_iconst (v := 0) dX11_text_38 (by decide) ?_
        obtain ⟨w13, hw14, h⟩ := lt1_some h
        refine x_putI (ci := 11) (k := 45) dX11_text_39 (lw_RX11_221_w _) rfl g9 ?_
        rw [← hw14]
        refine x_aload_n (j := 0) (i := 0) dX11_text_42 rfl rfl ?_
        refine x_iconst (v := 0) dX11_text_43 (by decide) ?_
        have g15 : isC w13 x0 11 := by rw [hw14]; exact g9
        obtain ⟨w16, hw17, h⟩ := lt1_some h
        refine x_putZ (ci := 11) (k := 46) dX11_text_44 (lw_RX11_217_w _) rfl g15 (by decide) ?_
        rw [← hw17]
        refine x_bipush (v := 6) dX11_text_47 (by decide) ?_
        refine x_iload_n (j := 1) (i := 1) dX11_text_49 rfl rfl ?_
        refine x_imul dX11_text_50 ?_
        refine x_aload_n (j := 0) (i := 0) dX11_text_51 rfl rfl ?_
        have g18 : isC w16 x0 11 := by rw [hw17]; exact g15
        refine x_getR (ci := 11) (k := 18) dX11_text_52 lf_RX11_54 rfl g18 ?_
        refine x_iload_n (j := 1) (i := 1) dX11_text_55 rfl rfl ?_
        obtain ⟨g19, h⟩ := gd_some h
        obtain ⟨g20, h⟩ := gd_some h
        refine x_iald dX11_text_56 g19 g20 ?_
        refine x_iadd dX11_text_57 ?_
        refine x_istore_n (i := 3) (lv2 := [(3, xI (((6 : Int32) * x1) + (wI w16 (wR w16 x0 18) x1.toNatClampNeg))), (0, xR x0), (1, xI x1), (2, xI x2)]) dX11_text_58 rfl (by decide) rfl ?_
        refine x_iload_n (j := 2) (i := 1) dX11_text_59 rfl rfl ?_
        refine x_if_ne (tgt := 71) dX11_text_60 (by decide) (fun hc21 => ?_) (fun hc21 => ?_)
        · rw [if_neg hc21] at h
          refine x_aload_n (j := 1) (i := 0) dX11_text_71 rfl rfl ?_
          refine x_iload_n (j := 0) (i := 3) dX11_text_72 rfl rfl ?_
          obtain ⟨_u, w22, hc23, h⟩ := bd_s h
          refine x_callVV (ci := 11) dX11_text_73 ml_RX11_239 mb_X11_daysOf (c_X11_daysOf x0 (((6 : Int32) * x1) + (wI w16 (wR w16 x0 18) x1.toNatClampNeg)) w16 _u w22 hc23) ⟨_, rfl, rfl⟩ g18 [] rfl rfl (Nat.le_of_ble_eq_true rfl) (by decide) (by decide) ?_
          refine x_lv (lv2 := [(0, xR x0), (1, xI x1), (2, xI x2), (3, xI (((6 : Int32) * x1) + (wI w16 (wR w16 x0 18) x1.toNatClampNeg)))]) [1, 2, 3, 0] rfl ?_
          exact k_X11_text_b76 rE wE x0 x1 x2 (((6 : Int32) * x1) + (wI w16 (wR w16 x0 18) x1.toNatClampNeg)) w22 h
        · rw [if_pos hc21] at h
          refine x_aload_n (j := 1) (i := 0) dX11_text_63 rfl rfl ?_
          refine x_iload_n (j := 0) (i := 3) dX11_text_64 rfl rfl ?_
          obtain ⟨_u, w24, hc25, h⟩ := bd_s h
          refine x_callVV (ci := 11) dX11_text_65 ml_RX11_236 mb_X11_medals (c_X11_medals x0 (((6 : Int32) * x1) + (wI w16 (wR w16 x0 18) x1.toNatClampNeg)) w16 _u w24 hc25) ⟨_, rfl, rfl⟩ g18 [] rfl rfl (Nat.le_of_ble_eq_true rfl) (by decide) (by decide) ?_
          refine x_goto (tgt := 76) dX11_text_68 (by decide) ?_
          refine x_lv (lv2 := [(0, xR x0), (1, xI x1), (2, xI x2), (3, xI (((6 : Int32) * x1) + (wI w16 (wR w16 x0 18) x1.toNatClampNeg)))]) [1, 2, 3, 0] rfl ?_
          exact k_X11_text_b76 rE wE x0 x1 x2 (((6 : Int32) * x1) + (wI w16 (wR w16 x0 18) x1.toNatClampNeg)) w24 h
      · rw [if_pos hc12] at h
        refine x_bipush (v := -4) dX11_text_34 (by decide) ?_
        obtain ⟨hr9, hw9⟩ := Prod.mk.inj (Option.some.inj h)
        subst hw9
        subst hr9
        exact x_iret dX11_text_36 rfl rfl
    · rw [if_pos hc8] at h
      refine x_bipush (v := -2) dX11_text_20 (by decide) ?_
      obtain ⟨hr9, hw9⟩ := Prod.mk.inj (Option.some.inj h)
      subst hw9
      subst hr9
      exact x_iret dX11_text_22 rfl rfl
set_option maxRecDepth 20000 in
theorem k_X11_inForce_l8 (rE : Int32) (wE : xSt) : ∀ (n : Nat) (x0 : Nat) (x1 : Int32) (x2 : Int32) (x3 : Int32) (x4 : Int32) (w : xSt), f_X11_inForce_l8 n x0 x1 x2 x3 x4 w = some (rE, wE) → xX cX11_inForce 5 (some .int) RX11 false (xRm 0 0 0) (xZf (some (xI rE), wE) 0 0) 8 [(0, xR x0), (1, xI x1), (2, xI x2), (3, xI x3), (4, xI x4)] [] w 0 0 := by
  intro n
  induction n with
  | zero => intro x0 x1 x2 x3 x4 w h; exact nomatch (show (none : Option (Int32 × xSt)) = some (rE, wE) from h)
  | succ n ih =>
    intro x0 x1 x2 x3 x4 w h
    rw [f_X11_inForce_l8_s] at h
    refine x_iload (j := 4) (i := 4) dX11_inForce_8 rfl ?_
    refine x_bipush (v := 6) dX11_inForce_10 (by decide) ?_
    refine x_iload_n (j := 1) (i := 1) dX11_inForce_12 rfl rfl ?_
    refine x_imul dX11_inForce_13 ?_
    refine x_aload_n (j := 0) (i := 0) dX11_inForce_14 rfl rfl ?_
    obtain ⟨g1, h⟩ := gd_some h
    refine x_getR (ci := 11) (k := 18) dX11_inForce_15 lf_RX11_54 rfl g1 ?_
    refine x_iload_n (j := 1) (i := 1) dX11_inForce_18 rfl rfl ?_
    obtain ⟨g2, h⟩ := gd_some h
    obtain ⟨g3, h⟩ := gd_some h
    refine x_iald dX11_inForce_19 g2 g3 ?_
    refine x_iadd dX11_inForce_20 ?_
    refine x_icmp_ge (tgt := 65) dX11_inForce_21 (by decide) (fun hc4 => ?_) (fun hc4 => ?_)
    · rw [if_pos hc4] at h
      refine x_iload_n (j := 3) (i := 3) dX11_inForce_65 rfl rfl ?_
      obtain ⟨hr9, hw9⟩ := Prod.mk.inj (Option.some.inj h)
      subst hw9
      subst hr9
      exact x_iret dX11_inForce_66 rfl rfl
    · rw [if_neg hc4] at h
      refine x_aload_n (j := 0) (i := 0) dX11_inForce_24 rfl rfl ?_
      refine x_getR (ci := 11) (k := 19) dX11_inForce_25 lf_RX11_57 rfl g1 ?_
      refine x_iload (j := 4) (i := 4) dX11_inForce_28 rfl ?_
      obtain ⟨g5, h⟩ := gd_some h
      obtain ⟨g6, h⟩ := gd_some h
      refine x_iald dX11_inForce_30 g5 g6 ?_
      refine x_iload_n (j := 2) (i := 2) dX11_inForce_31 rfl rfl ?_
      refine x_icmp_gt (tgt := 59) dX11_inForce_32 (by decide) (fun hc7 => ?_) (fun hc7 => ?_)
      · rw [if_pos hc7] at h
        refine x_iinc (j := 4) (i := 4) (v := x4 + (1 : Int32)) (lv2 := [(4, xI (x4 + (1 : Int32))), (0, xR x0), (1, xI x1), (2, xI x2), (3, xI x3)]) dX11_inForce_59 rfl rfl (by decide) rfl ?_
        refine x_goto (tgt := 8) dX11_inForce_62 (by decide) ?_
        refine x_lv (lv2 := [(0, xR x0), (1, xI x1), (2, xI x2), (3, xI x3), (4, xI (x4 + (1 : Int32)))]) [1, 2, 3, 4, 0] rfl ?_
        exact ih x0 x1 x2 x3 (x4 + (1 : Int32)) w h
      · rw [if_neg hc7] at h
        refine x_iload_n (j := 3) (i := 3) dX11_inForce_35 rfl rfl ?_
        refine x_iconst (v := -1) dX11_inForce_36 (by decide) ?_
        refine x_icmp_eq (tgt := 56) dX11_inForce_37 (by decide) (fun hc8 => ?_) (fun hc8 => ?_)
        · rw [if_pos hc8] at h
          refine x_iload (j := 4) (i := 4) dX11_inForce_56 rfl ?_
          refine x_istore_n (i := 3) (lv2 := [(3, xI x4), (0, xR x0), (1, xI x1), (2, xI x2), (4, xI x4)]) dX11_inForce_58 rfl (by decide) rfl ?_
          refine x_iinc (j := 4) (i := 4) (v := x4 + (1 : Int32)) (lv2 := [(4, xI (x4 + (1 : Int32))), (3, xI x4), (0, xR x0), (1, xI x1), (2, xI x2)]) dX11_inForce_59 rfl rfl (by decide) rfl ?_
          refine x_goto (tgt := 8) dX11_inForce_62 (by decide) ?_
          refine x_lv (lv2 := [(0, xR x0), (1, xI x1), (2, xI x2), (3, xI x4), (4, xI (x4 + (1 : Int32)))]) [2, 3, 4, 1, 0] rfl ?_
          exact ih x0 x1 x2 x4 (x4 + (1 : Int32)) w h
        · rw [if_neg hc8] at h
          refine x_aload_n (j := 0) (i := 0) dX11_inForce_40 rfl rfl ?_
          refine x_getR (ci := 11) (k := 19) dX11_inForce_41 lf_RX11_57 rfl g1 ?_
          refine x_iload (j := 4) (i := 4) dX11_inForce_44 rfl ?_
          refine x_iald dX11_inForce_46 g5 g6 ?_
          refine x_aload_n (j := 0) (i := 0) dX11_inForce_47 rfl rfl ?_
          refine x_getR (ci := 11) (k := 19) dX11_inForce_48 lf_RX11_57 rfl g1 ?_
          refine x_iload_n (j := 3) (i := 3) dX11_inForce_51 rfl rfl ?_
          obtain ⟨g9, h⟩ := gd_some h
          refine x_iald dX11_inForce_52 g5 g9 ?_
          refine x_icmp_lt (tgt := 59) dX11_inForce_53 (by decide) (fun hc10 => ?_) (fun hc10 => ?_)
          · rw [if_pos hc10] at h
            refine x_iinc (j := 4) (i := 4) (v := x4 + (1 : Int32)) (lv2 := [(4, xI (x4 + (1 : Int32))), (0, xR x0), (1, xI x1), (2, xI x2), (3, xI x3)]) dX11_inForce_59 rfl rfl (by decide) rfl ?_
            refine x_goto (tgt := 8) dX11_inForce_62 (by decide) ?_
            refine x_lv (lv2 := [(0, xR x0), (1, xI x1), (2, xI x2), (3, xI x3), (4, xI (x4 + (1 : Int32)))]) [1, 2, 3, 4, 0] rfl ?_
            exact ih x0 x1 x2 x3 (x4 + (1 : Int32)) w h
          · rw [if_neg hc10] at h
            refine x_iload (j := 4) (i := 4) dX11_inForce_56 rfl ?_
            refine x_istore_n (i := 3) (lv2 := [(3, xI x4), (0, xR x0), (1, xI x1), (2, xI x2), (4, xI x4)]) dX11_inForce_58 rfl (by decide) rfl ?_
            refine x_iinc (j := 4) (i := 4) (v := x4 + (1 : Int32)) (lv2 := [(4, xI (x4 + (1 : Int32))), (3, xI x4), (0, xR x0), (1, xI x1), (2, xI x2)]) dX11_inForce_59 rfl rfl (by decide) rfl ?_
            refine x_goto (tgt := 8) dX11_inForce_62 (by decide) ?_
            refine x_lv (lv2 := [(0, xR x0), (1, xI x1), (2, xI x2), (3, xI x4), (4, xI (x4 + (1 : Int32)))]) [2, 3, 4, 1, 0] rfl ?_
            exact ih x0 x1 x2 x4 (x4 + (1 : Int32)) w h
set_option maxRecDepth 20000 in
theorem c_X11_inForce (x0 : Nat) (x1 : Int32) (x2 : Int32) (w : xSt) (rE : Int32) (wE : xSt) (h : f_X11_inForce x0 x1 x2 w = some (rE, wE)) : xCall yX11_inForce cX11_inForce 5 (some .int) 0 0 0 [xR x0, xI x1, xI x2] w (some (xI rE), wE) := by
  refine xCall_of false (by decide) (fun q => nomatch q) (Nat.le_of_ble_eq_true rfl) ?_
  show xX cX11_inForce 5 (some .int) RX11 false (xRm 0 0 0) (xZf (some (xI rE), wE) 0 0) 0 [(0, xR x0), (1, xI x1), (2, xI x2)] [] w 0 0
  unfold f_X11_inForce at h
  refine x_iconst (v := -1) dX11_inForce_0 (by decide) ?_
  refine x_istore_n (i := 3) (lv2 := [(3, xI (-1 : Int32)), (0, xR x0), (1, xI x1), (2, xI x2)]) dX11_inForce_1 rfl (by decide) rfl ?_
  refine x_bipush (v := 6) dX11_inForce_2 (by decide) ?_
  refine x_iload_n (j := 2) (i := 1) dX11_inForce_4 rfl rfl ?_
  refine x_imul dX11_inForce_5 ?_
  refine x_istore (i := 4) (lv2 := [(4, xI ((6 : Int32) * x1)), (3, xI (-1 : Int32)), (0, xR x0), (1, xI x1), (2, xI x2)]) dX11_inForce_6 (by decide) rfl ?_
  refine x_lv (lv2 := [(0, xR x0), (1, xI x1), (2, xI x2), (3, xI (-1 : Int32)), (4, xI ((6 : Int32) * x1))]) [2, 3, 4, 1, 0] rfl ?_
  exact k_X11_inForce_l8 rE wE xFu x0 x1 x2 (-1 : Int32) ((6 : Int32) * x1) w h
set_option maxRecDepth 20000 in
theorem c_X11_juror (x0 : Nat) (x1 : Int32) (x2 : Int32) (w : xSt) (rE : Int32) (wE : xSt) (h : f_X11_juror x0 x1 x2 w = some (rE, wE)) : xCall yX11_juror cX11_juror 3 (some .int) 1 0 0 [xR x0, xI x1, xI x2] w (some (xI rE), wE) := by
  refine xCall_of false (by decide) (fun q => nomatch q) (Nat.le_of_ble_eq_true rfl) ?_
  show xX cX11_juror 3 (some .int) RX11 false (xRm 1 0 0) (xZf (some (xI rE), wE) 0 0) 0 [(0, xR x0), (1, xI x1), (2, xI x2)] [] w 0 0
  unfold f_X11_juror at h
  refine x_iload_n (j := 1) (i := 1) dX11_juror_0 rfl rfl ?_
  refine x_iconst (v := 0) dX11_juror_1 (by decide) ?_
  refine x_bipush (v := 7) dX11_juror_2 (by decide) ?_
  obtain ⟨v1, w2, hc3, h⟩ := bd_s h
  refine x_callSI dX11_juror_4 ml_RX11_117 mb_X11_in (c_X11_in x1 (0 : Int32) (7 : Int32) w v1 w2 hc3) [] rfl rfl (Nat.le_of_ble_eq_true rfl) (by decide) (by decide) ?_
  refine x_if_eq (tgt := 20) dX11_juror_7 (by decide) (fun hc4 => ?_) (fun hc4 => ?_)
  · rw [if_pos hc4] at h
    refine x_bipush (v := -2) dX11_juror_20 (by decide) ?_
    obtain ⟨hr9, hw9⟩ := Prod.mk.inj (Option.some.inj h)
    subst hw9
    subst hr9
    exact x_iret dX11_juror_22 rfl rfl
  · rw [if_neg hc4] at h
    refine x_iload_n (j := 2) (i := 2) dX11_juror_10 rfl rfl ?_
    refine x_iconst (v := 0) dX11_juror_11 (by decide) ?_
    refine x_bipush (v := 9) dX11_juror_12 (by decide) ?_
    obtain ⟨v5, w6, hc7, h⟩ := bd_s h
    refine x_callSI dX11_juror_14 ml_RX11_117 mb_X11_in (c_X11_in x2 (0 : Int32) (9 : Int32) w2 v5 w6 hc7) [] rfl rfl (Nat.le_of_ble_eq_true rfl) (by decide) (by decide) ?_
    refine x_if_ne (tgt := 23) dX11_juror_17 (by decide) (fun hc8 => ?_) (fun hc8 => ?_)
    · rw [if_neg hc8] at h
      refine x_aload_n (j := 0) (i := 0) dX11_juror_23 rfl rfl ?_
      obtain ⟨g9, h⟩ := gd_some h
      refine x_getI (ci := 11) (k := 24) dX11_juror_24 lf_RX11_169 rfl g9 ?_
      refine x_bipush (v := 12) dX11_juror_27 (by decide) ?_
      refine x_icmp_ne (tgt := 35) dX11_juror_29 (by decide) (fun hc10 => ?_) (fun hc10 => ?_)
      · rw [if_neg hc10] at h
        refine x_aload_n (j := 0) (i := 0) dX11_juror_35 rfl rfl ?_
        refine x_getR (ci := 11) (k := 25) dX11_juror_36 lf_RX11_72 rfl g9 ?_
        refine x_aload_n (j := 0) (i := 0) dX11_juror_39 rfl rfl ?_
        refine x_getI (ci := 11) (k := 24) dX11_juror_40 lf_RX11_169 rfl g9 ?_
        refine x_iload_n (j := 1) (i := 1) dX11_juror_43 rfl rfl ?_
        obtain ⟨g11, h⟩ := gd_some h
        obtain ⟨g12, h⟩ := gd_some h
        obtain ⟨w13, hw14, h⟩ := lt1_some h
        refine x_iast dX11_juror_44 g11 g12 ?_
        rw [← hw14]
        refine x_aload_n (j := 0) (i := 0) dX11_juror_45 rfl rfl ?_
        have g15 : isC w13 x0 11 := by rw [hw14]; exact g9
        refine x_getR (ci := 11) (k := 26) dX11_juror_46 lf_RX11_75 rfl g15 ?_
        refine x_aload_n (j := 0) (i := 0) dX11_juror_49 rfl rfl ?_
        refine x_getI (ci := 11) (k := 24) dX11_juror_50 lf_RX11_169 rfl g15 ?_
        refine x_iload_n (j := 2) (i := 2) dX11_juror_53 rfl rfl ?_
        obtain ⟨g16, h⟩ := gd_some h
        obtain ⟨g17, h⟩ := gd_some h
        obtain ⟨w18, hw19, h⟩ := lt1_some h
        refine x_iast dX11_juror_54 g16 g17 ?_
        rw [← hw19]
        refine x_aload_n (j := 0) (i := 0) dX11_juror_55 rfl rfl ?_
        refine x_dup dX11_juror_56 rfl ?_
        have g20 : isC w18 x0 11 := by rw [hw19]; exact g15
        refine x_getI (ci := 11) (k := 24) dX11_juror_57 lf_RX11_169 rfl g20 ?_
        refine x_iconst (v := 1) dX11_juror_60 (by decide) ?_
        refine x_iadd dX11_juror_61 ?_
        obtain ⟨w21, hw22, h⟩ := lt1_some h
        refine x_putI (ci := 11) (k := 24) dX11_juror_62 (lw_RX11_169_w _) rfl g20 ?_
        rw [← hw22]
        refine x_aload_n (j := 0) (i := 0) dX11_juror_65 rfl rfl ?_
        have g23 : isC w21 x0 11 := by rw [hw22]; exact g20
        refine x_getI (ci := 11) (k := 24) dX11_juror_66 lf_RX11_169 rfl g23 ?_
        refine x_iconst (v := 1) dX11_juror_69 (by decide) ?_
        refine x_isub dX11_juror_70 ?_
        obtain ⟨hr9, hw9⟩ := Prod.mk.inj (Option.some.inj h)
        subst hw9
        subst hr9
        exact x_iret dX11_juror_71 rfl rfl
      · rw [if_pos hc10] at h
        refine x_bipush (v := -4) dX11_juror_32 (by decide) ?_
        obtain ⟨hr9, hw9⟩ := Prod.mk.inj (Option.some.inj h)
        subst hw9
        subst hr9
        exact x_iret dX11_juror_34 rfl rfl
    · rw [if_pos hc8] at h
      refine x_bipush (v := -2) dX11_juror_20 (by decide) ?_
      obtain ⟨hr9, hw9⟩ := Prod.mk.inj (Option.some.inj h)
      subst hw9
      subst hr9
      exact x_iret dX11_juror_22 rfl rfl
set_option maxRecDepth 20000 in
theorem c_X11_mark (x0 : Nat) (x1 : Int32) (x2 : Int32) (x3 : Int32) (x4 : Int32) (w : xSt) (rE : Int32) (wE : xSt) (h : f_X11_mark x0 x1 x2 x3 x4 w = some (rE, wE)) : xCall yX11_mark cX11_mark 6 (some .int) 2 0 0 [xR x0, xI x1, xI x2, xI x3, xI x4] w (some (xI rE), wE) := by
  refine xCall_of false (by decide) (fun q => nomatch q) (Nat.le_of_ble_eq_true rfl) ?_
  show xX cX11_mark 6 (some .int) RX11 false (xRm 2 0 0) (xZf (some (xI rE), wE) 0 0) 0 [(0, xR x0), (1, xI x1), (2, xI x2), (3, xI x3), (4, xI x4)] [] w 0 0
  unfold f_X11_mark at h
  refine x_iload_n (j := 1) (i := 1) dX11_mark_0 rfl rfl ?_
  refine x_iconst (v := 0) dX11_mark_1 (by decide) ?_
  refine x_aload_n (j := 0) (i := 0) dX11_mark_2 rfl rfl ?_
  obtain ⟨g1, h⟩ := gd_some h
  refine x_getI (ci := 11) (k := 24) dX11_mark_3 lf_RX11_169 rfl g1 ?_
  refine x_iconst (v := 1) dX11_mark_6 (by decide) ?_
  refine x_isub dX11_mark_7 ?_
  obtain ⟨v2, w3, hc4, h⟩ := bd_s h
  refine x_callSI dX11_mark_8 ml_RX11_117 mb_X11_in (c_X11_in x1 (0 : Int32) ((wI w x0 24) - (1 : Int32)) w v2 w3 hc4) [] rfl rfl (Nat.le_of_ble_eq_true rfl) (by decide) (by decide) ?_
  refine x_if_eq (tgt := 22) dX11_mark_11 (by decide) (fun hc5 => ?_) (fun hc5 => ?_)
  · rw [if_pos hc5] at h
    refine x_bipush (v := -5) dX11_mark_22 (by decide) ?_
    obtain ⟨hr9, hw9⟩ := Prod.mk.inj (Option.some.inj h)
    subst hw9
    subst hr9
    exact x_iret dX11_mark_24 rfl rfl
  · rw [if_neg hc5] at h
    refine x_aload_n (j := 0) (i := 0) dX11_mark_14 rfl rfl ?_
    refine x_iload_n (j := 2) (i := 2) dX11_mark_15 rfl rfl ?_
    obtain ⟨g9, h⟩ := gd_some h
    obtain ⟨v6, w7, hc8, h⟩ := bd_s h
    refine x_callVI (ci := 11) dX11_mark_16 ml_RX11_124 mb_X11_isStand (c_X11_isStand x0 x2 w3 v6 w7 hc8) ⟨_, rfl, rfl⟩ g9 [] rfl rfl (Nat.le_of_ble_eq_true rfl) (by decide) (by decide) ?_
    refine x_if_ne (tgt := 25) dX11_mark_19 (by decide) (fun hc10 => ?_) (fun hc10 => ?_)
    · rw [if_neg hc10] at h
      refine x_iload_n (j := 3) (i := 3) dX11_mark_25 rfl rfl ?_
      refine x_iconst (v := 0) dX11_mark_26 (by decide) ?_
      refine x_bipush (v := 100) dX11_mark_27 (by decide) ?_
      obtain ⟨v11, w12, hc13, h⟩ := bd_s h
      refine x_callSI dX11_mark_29 ml_RX11_117 mb_X11_in (c_X11_in x3 (0 : Int32) (100 : Int32) w7 v11 w12 hc13) [] rfl rfl (Nat.le_of_ble_eq_true rfl) (by decide) (by decide) ?_
      refine x_if_eq (tgt := 47) dX11_mark_32 (by decide) (fun hc14 => ?_) (fun hc14 => ?_)
      · rw [if_pos hc14] at h
        refine x_bipush (v := -2) dX11_mark_47 (by decide) ?_
        obtain ⟨hr9, hw9⟩ := Prod.mk.inj (Option.some.inj h)
        subst hw9
        subst hr9
        exact x_iret dX11_mark_49 rfl rfl
      · rw [if_neg hc14] at h
        refine x_iload (j := 4) (i := 4) dX11_mark_35 rfl ?_
        refine x_iconst (v := 0) dX11_mark_37 (by decide) ?_
        refine x_sipush (v := 999) dX11_mark_38 (by decide) ?_
        obtain ⟨v15, w16, hc17, h⟩ := bd_s h
        refine x_callSI dX11_mark_41 ml_RX11_117 mb_X11_in (c_X11_in x4 (0 : Int32) (999 : Int32) w12 v15 w16 hc17) [] rfl rfl (Nat.le_of_ble_eq_true rfl) (by decide) (by decide) ?_
        refine x_if_ne (tgt := 50) dX11_mark_44 (by decide) (fun hc18 => ?_) (fun hc18 => ?_)
        · rw [if_neg hc18] at h
          refine x_aload_n (j := 0) (i := 0) dX11_mark_50 rfl rfl ?_
          obtain ⟨g19, h⟩ := gd_some h
          refine x_getR (ci := 11) (k := 25) dX11_mark_51 lf_RX11_72 rfl g19 ?_
          refine x_iload_n (j := 1) (i := 1) dX11_mark_54 rfl rfl ?_
          obtain ⟨g20, h⟩ := gd_some h
          obtain ⟨g21, h⟩ := gd_some h
          refine x_iald dX11_mark_55 g20 g21 ?_
          refine x_aload_n (j := 0) (i := 0) dX11_mark_56 rfl rfl ?_
          refine x_getR (ci := 11) (k := 7) dX11_mark_57 lf_RX11_23 rfl g19 ?_
          refine x_iload_n (j := 2) (i := 2) dX11_mark_60 rfl rfl ?_
          obtain ⟨g22, h⟩ := gd_some h
          obtain ⟨g23, h⟩ := gd_some h
          refine x_iald dX11_mark_61 g22 g23 ?_
          refine x_icmp_eq (tgt := 80) dX11_mark_62 (by decide) (fun hc24 => ?_) (fun hc24 => ?_)
          · rw [if_pos hc24] at h
            refine x_bipush (v := -3) dX11_mark_80 (by decide) ?_
            obtain ⟨hr9, hw9⟩ := Prod.mk.inj (Option.some.inj h)
            subst hw9
            subst hr9
            exact x_iret dX11_mark_82 rfl rfl
          · rw [if_neg hc24] at h
            refine x_aload_n (j := 0) (i := 0) dX11_mark_65 rfl rfl ?_
            refine x_getR (ci := 11) (k := 26) dX11_mark_66 lf_RX11_75 rfl g19 ?_
            refine x_iload_n (j := 1) (i := 1) dX11_mark_69 rfl rfl ?_
            obtain ⟨g25, h⟩ := gd_some h
            obtain ⟨g26, h⟩ := gd_some h
            refine x_iald dX11_mark_70 g25 g26 ?_
            refine x_aload_n (j := 0) (i := 0) dX11_mark_71 rfl rfl ?_
            refine x_getR (ci := 11) (k := 8) dX11_mark_72 lf_RX11_26 rfl g19 ?_
            refine x_iload_n (j := 2) (i := 2) dX11_mark_75 rfl rfl ?_
            obtain ⟨g27, h⟩ := gd_some h
            obtain ⟨g28, h⟩ := gd_some h
            refine x_iald dX11_mark_76 g27 g28 ?_
            refine x_icmp_eq (tgt := 83) dX11_mark_77 (by decide) (fun hc29 => ?_) (fun hc29 => ?_)
            · rw [if_pos hc29] at h
              refine x_aload_n (j := 0) (i := 0) dX11_mark_83 rfl rfl ?_
              refine x_getR (ci := 11) (k := 27) dX11_mark_84 lf_RX11_78 rfl g19 ?_
              refine x_bipush (v := 9) dX11_mark_87 (by decide) ?_
              refine x_iload_n (j := 1) (i := 1) dX11_mark_89 rfl rfl ?_
              refine x_imul dX11_mark_90 ?_
              refine x_iload_n (j := 2) (i := 2) dX11_mark_91 rfl rfl ?_
              refine x_iadd dX11_mark_92 ?_
              obtain ⟨g30, h⟩ := gd_some h
              obtain ⟨g31, h⟩ := gd_some h
              refine x_iald dX11_mark_93 g30 g31 ?_
              refine x_istore (i := 5) (lv2 := [(5, xI (wI w16 (wR w16 x0 27) (((9 : Int32) * x1) + x2).toNatClampNeg)), (0, xR x0), (1, xI x1), (2, xI x2), (3, xI x3), (4, xI x4)]) dX11_mark_94 (by decide) rfl ?_
              refine x_aload_n (j := 1) (i := 0) dX11_mark_96 rfl rfl ?_
              refine x_getR (ci := 11) (k := 27) dX11_mark_97 lf_RX11_78 rfl g19 ?_
              refine x_bipush (v := 9) dX11_mark_100 (by decide) ?_
              refine x_iload_n (j := 2) (i := 1) dX11_mark_102 rfl rfl ?_
              refine x_imul dX11_mark_103 ?_
              refine x_iload_n (j := 3) (i := 2) dX11_mark_104 rfl rfl ?_
              refine x_iadd dX11_mark_105 ?_
              refine x_iload_n (j := 4) (i := 3) dX11_mark_106 rfl rfl ?_
              obtain ⟨w32, hw33, h⟩ := lt1_some h
              refine x_iast dX11_mark_107 g30 g31 ?_
              rw [← hw33]
              refine x_aload_n (j := 1) (i := 0) dX11_mark_108 rfl rfl ?_
              have g34 : isC w32 x0 11 := by rw [hw33]; exact g19
              refine x_getR (ci := 11) (k := 28) dX11_mark_109 lf_RX11_81 rfl g34 ?_
              refine x_bipush (v := 9) dX11_mark_112 (by decide) ?_
              refine x_iload_n (j := 2) (i := 1) dX11_mark_114 rfl rfl ?_
              refine x_imul dX11_mark_115 ?_
              refine x_iload_n (j := 3) (i := 2) dX11_mark_116 rfl rfl ?_
              refine x_iadd dX11_mark_117 ?_
              refine x_iload (j := 5) (i := 4) dX11_mark_118 rfl ?_
              obtain ⟨g35, h⟩ := gd_some h
              obtain ⟨g36, h⟩ := gd_some h
              obtain ⟨w37, hw38, h⟩ := lt1_some h
              refine x_iast dX11_mark_120 g35 g36 ?_
              rw [← hw38]
              refine x_iload (j := 0) (i := 5) dX11_mark_121 rfl ?_
              obtain ⟨hr9, hw9⟩ := Prod.mk.inj (Option.some.inj h)
              subst hw9
              subst hr9
              exact x_iret dX11_mark_123 rfl rfl
            · rw [if_neg hc29] at h
              refine x_bipush (v := -3) dX11_mark_80 (by decide) ?_
              obtain ⟨hr9, hw9⟩ := Prod.mk.inj (Option.some.inj h)
              subst hw9
              subst hr9
              exact x_iret dX11_mark_82 rfl rfl
        · rw [if_pos hc18] at h
          refine x_bipush (v := -2) dX11_mark_47 (by decide) ?_
          obtain ⟨hr9, hw9⟩ := Prod.mk.inj (Option.some.inj h)
          subst hw9
          subst hr9
          exact x_iret dX11_mark_49 rfl rfl
    · rw [if_pos hc10] at h
      refine x_bipush (v := -5) dX11_mark_22 (by decide) ?_
      obtain ⟨hr9, hw9⟩ := Prod.mk.inj (Option.some.inj h)
      subst hw9
      subst hr9
      exact x_iret dX11_mark_24 rfl rfl
set_option maxRecDepth 20000 in
theorem k_X11_meanOf_l8 (rE : Int32) (wE : xSt) : ∀ (n : Nat) (x0 : Nat) (x1 : Int32) (x2 : Int32) (x3 : Int32) (x4 : Int32) (x5 : Int32) (w : xSt), f_X11_meanOf_l8 n x0 x1 x2 x3 x4 x5 w = some (rE, wE) → xX cX11_meanOf 7 (some .int) RX11 false (xRm 0 0 0) (xZf (some (xI rE), wE) 0 0) 8 [(0, xR x0), (1, xI x1), (2, xI x2), (3, xI x3), (4, xI x4), (5, xI x5)] [] w 0 0 := by
  intro n
  induction n with
  | zero => intro x0 x1 x2 x3 x4 x5 w h; exact nomatch (show (none : Option (Int32 × xSt)) = some (rE, wE) from h)
  | succ n ih =>
    intro x0 x1 x2 x3 x4 x5 w h
    rw [f_X11_meanOf_l8_s] at h
    refine x_iload (j := 5) (i := 5) dX11_meanOf_8 rfl ?_
    refine x_aload_n (j := 0) (i := 0) dX11_meanOf_10 rfl rfl ?_
    obtain ⟨g1, h⟩ := gd_some h
    refine x_getI (ci := 11) (k := 24) dX11_meanOf_11 lf_RX11_169 rfl g1 ?_
    refine x_icmp_ge (tgt := 69) dX11_meanOf_14 (by decide) (fun hc2 => ?_) (fun hc2 => ?_)
    · rw [if_pos hc2] at h
      refine x_iload_n (j := 3) (i := 3) dX11_meanOf_69 rfl rfl ?_
      refine x_iconst (v := 2) dX11_meanOf_70 (by decide) ?_
      refine x_icmp_ge (tgt := 78) dX11_meanOf_71 (by decide) (fun hc3 => ?_) (fun hc3 => ?_)
      · rw [if_pos hc3] at h
        refine x_iload (j := 4) (i := 4) dX11_meanOf_78 rfl ?_
        refine x_iload_n (j := 3) (i := 3) dX11_meanOf_80 rfl rfl ?_
        obtain ⟨g4, h⟩ := gd_some h
        refine x_idiv dX11_meanOf_81 g4 ?_
        obtain ⟨hr9, hw9⟩ := Prod.mk.inj (Option.some.inj h)
        subst hw9
        subst hr9
        exact x_iret dX11_meanOf_82 rfl rfl
      · rw [if_neg hc3] at h
        refine x_iconst (v := -1) dX11_meanOf_74 (by decide) ?_
        refine x_goto (tgt := 82) dX11_meanOf_75 (by decide) ?_
        obtain ⟨hr9, hw9⟩ := Prod.mk.inj (Option.some.inj h)
        subst hw9
        subst hr9
        exact x_iret dX11_meanOf_82 rfl rfl
    · rw [if_neg hc2] at h
      refine x_bipush (v := 9) dX11_meanOf_17 (by decide) ?_
      refine x_iload (j := 5) (i := 5) dX11_meanOf_19 rfl ?_
      refine x_imul dX11_meanOf_21 ?_
      refine x_iload_n (j := 1) (i := 1) dX11_meanOf_22 rfl rfl ?_
      refine x_iadd dX11_meanOf_23 ?_
      refine x_istore (i := 6) (lv2 := [(6, xI (((9 : Int32) * x5) + x1)), (0, xR x0), (1, xI x1), (2, xI x2), (3, xI x3), (4, xI x4), (5, xI x5)]) dX11_meanOf_24 (by decide) rfl ?_
      refine x_aload_n (j := 1) (i := 0) dX11_meanOf_26 rfl rfl ?_
      refine x_getR (ci := 11) (k := 27) dX11_meanOf_27 lf_RX11_78 rfl g1 ?_
      refine x_iload (j := 0) (i := 6) dX11_meanOf_30 rfl ?_
      obtain ⟨g5, h⟩ := gd_some h
      obtain ⟨g6, h⟩ := gd_some h
      refine x_iald dX11_meanOf_32 g5 g6 ?_
      refine x_iconst (v := -1) dX11_meanOf_33 (by decide) ?_
      refine x_icmp_eq (tgt := 63) dX11_meanOf_34 (by decide) (fun hc7 => ?_) (fun hc7 => ?_)
      · rw [if_pos hc7] at h
        refine x_iinc (j := 6) (i := 5) (v := x5 + (1 : Int32)) (lv2 := [(5, xI (x5 + (1 : Int32))), (6, xI (((9 : Int32) * x5) + x1)), (0, xR x0), (1, xI x1), (2, xI x2), (3, xI x3), (4, xI x4)]) dX11_meanOf_63 rfl rfl (by decide) rfl ?_
        refine x_goto (tgt := 8) dX11_meanOf_66 (by decide) ?_
        refine x_lv (lv2 := [(0, xR x0), (1, xI x1), (2, xI x2), (3, xI x3), (4, xI x4), (5, xI (x5 + (1 : Int32)))]) [2, 3, 4, 5, 6, 0] rfl ?_
        exact ih x0 x1 x2 x3 x4 (x5 + (1 : Int32)) w h
      · rw [if_neg hc7] at h
        refine x_aload_n (j := 1) (i := 0) dX11_meanOf_37 rfl rfl ?_
        refine x_getR (ci := 11) (k := 28) dX11_meanOf_38 lf_RX11_81 rfl g1 ?_
        refine x_iload (j := 0) (i := 6) dX11_meanOf_41 rfl ?_
        obtain ⟨g8, h⟩ := gd_some h
        obtain ⟨g9, h⟩ := gd_some h
        refine x_iald dX11_meanOf_43 g8 g9 ?_
        refine x_iload_n (j := 3) (i := 2) dX11_meanOf_44 rfl rfl ?_
        refine x_icmp_gt (tgt := 63) dX11_meanOf_45 (by decide) (fun hc10 => ?_) (fun hc10 => ?_)
        · rw [if_pos hc10] at h
          refine x_iinc (j := 6) (i := 5) (v := x5 + (1 : Int32)) (lv2 := [(5, xI (x5 + (1 : Int32))), (6, xI (((9 : Int32) * x5) + x1)), (0, xR x0), (1, xI x1), (2, xI x2), (3, xI x3), (4, xI x4)]) dX11_meanOf_63 rfl rfl (by decide) rfl ?_
          refine x_goto (tgt := 8) dX11_meanOf_66 (by decide) ?_
          refine x_lv (lv2 := [(0, xR x0), (1, xI x1), (2, xI x2), (3, xI x3), (4, xI x4), (5, xI (x5 + (1 : Int32)))]) [2, 3, 4, 5, 6, 0] rfl ?_
          exact ih x0 x1 x2 x3 x4 (x5 + (1 : Int32)) w h
        · rw [if_neg hc10] at h
          refine x_iinc (j := 4) (i := 3) (v := x3 + (1 : Int32)) (lv2 := [(3, xI (x3 + (1 : Int32))), (6, xI (((9 : Int32) * x5) + x1)), (0, xR x0), (1, xI x1), (2, xI x2), (4, xI x4), (5, xI x5)]) dX11_meanOf_48 rfl rfl (by decide) rfl ?_
          refine x_iload (j := 5) (i := 4) dX11_meanOf_51 rfl ?_
          refine x_aload_n (j := 2) (i := 0) dX11_meanOf_53 rfl rfl ?_
          refine x_getR (ci := 11) (k := 27) dX11_meanOf_54 lf_RX11_78 rfl g1 ?_
          refine x_iload (j := 1) (i := 6) dX11_meanOf_57 rfl ?_
          refine x_iald dX11_meanOf_59 g5 g6 ?_
          refine x_iadd dX11_meanOf_60 ?_
          refine x_istore (i := 4) (lv2 := [(4, xI (x4 + (wI w (wR w x0 27) (((9 : Int32) * x5) + x1).toNatClampNeg))), (3, xI (x3 + (1 : Int32))), (6, xI (((9 : Int32) * x5) + x1)), (0, xR x0), (1, xI x1), (2, xI x2), (5, xI x5)]) dX11_meanOf_61 (by decide) rfl ?_
          refine x_iinc (j := 6) (i := 5) (v := x5 + (1 : Int32)) (lv2 := [(5, xI (x5 + (1 : Int32))), (4, xI (x4 + (wI w (wR w x0 27) (((9 : Int32) * x5) + x1).toNatClampNeg))), (3, xI (x3 + (1 : Int32))), (6, xI (((9 : Int32) * x5) + x1)), (0, xR x0), (1, xI x1), (2, xI x2)]) dX11_meanOf_63 rfl rfl (by decide) rfl ?_
          refine x_goto (tgt := 8) dX11_meanOf_66 (by decide) ?_
          refine x_lv (lv2 := [(0, xR x0), (1, xI x1), (2, xI x2), (3, xI (x3 + (1 : Int32))), (4, xI (x4 + (wI w (wR w x0 27) (((9 : Int32) * x5) + x1).toNatClampNeg))), (5, xI (x5 + (1 : Int32)))]) [4, 5, 6, 2, 1, 0] rfl ?_
          exact ih x0 x1 x2 (x3 + (1 : Int32)) (x4 + (wI w (wR w x0 27) (((9 : Int32) * x5) + x1).toNatClampNeg)) (x5 + (1 : Int32)) w h
set_option maxRecDepth 20000 in
theorem c_X11_meanOf (x0 : Nat) (x1 : Int32) (x2 : Int32) (w : xSt) (rE : Int32) (wE : xSt) (h : f_X11_meanOf x0 x1 x2 w = some (rE, wE)) : xCall yX11_meanOf cX11_meanOf 7 (some .int) 0 0 0 [xR x0, xI x1, xI x2] w (some (xI rE), wE) := by
  refine xCall_of false (by decide) (fun q => nomatch q) (Nat.le_of_ble_eq_true rfl) ?_
  show xX cX11_meanOf 7 (some .int) RX11 false (xRm 0 0 0) (xZf (some (xI rE), wE) 0 0) 0 [(0, xR x0), (1, xI x1), (2, xI x2)] [] w 0 0
  unfold f_X11_meanOf at h
  refine x_iconst (v := 0) dX11_meanOf_0 (by decide) ?_
  refine x_istore_n (i := 3) (lv2 := [(3, xI (0 : Int32)), (0, xR x0), (1, xI x1), (2, xI x2)]) dX11_meanOf_1 rfl (by decide) rfl ?_
  refine x_iconst (v := 0) dX11_meanOf_2 (by decide) ?_
  refine x_istore (i := 4) (lv2 := [(4, xI (0 : Int32)), (3, xI (0 : Int32)), (0, xR x0), (1, xI x1), (2, xI x2)]) dX11_meanOf_3 (by decide) rfl ?_
  refine x_iconst (v := 0) dX11_meanOf_5 (by decide) ?_
  refine x_istore (i := 5) (lv2 := [(5, xI (0 : Int32)), (4, xI (0 : Int32)), (3, xI (0 : Int32)), (0, xR x0), (1, xI x1), (2, xI x2)]) dX11_meanOf_6 (by decide) rfl ?_
  refine x_lv (lv2 := [(0, xR x0), (1, xI x1), (2, xI x2), (3, xI (0 : Int32)), (4, xI (0 : Int32)), (5, xI (0 : Int32))]) [3, 4, 5, 2, 1, 0] rfl ?_
  exact k_X11_meanOf_l8 rE wE xFu x0 x1 x2 (0 : Int32) (0 : Int32) (0 : Int32) w h
set_option maxRecDepth 20000 in
theorem c_X11_mean (x0 : Nat) (x1 : Int32) (x2 : Int32) (w : xSt) (rE : Int32) (wE : xSt) (h : f_X11_mean x0 x1 x2 w = some (rE, wE)) : xCall yX11_mean cX11_mean 3 (some .int) 2 0 0 [xR x0, xI x1, xI x2] w (some (xI rE), wE) := by
  refine xCall_of false (by decide) (fun q => nomatch q) (Nat.le_of_ble_eq_true rfl) ?_
  show xX cX11_mean 3 (some .int) RX11 false (xRm 2 0 0) (xZf (some (xI rE), wE) 0 0) 0 [(0, xR x0), (1, xI x1), (2, xI x2)] [] w 0 0
  unfold f_X11_mean at h
  refine x_aload_n (j := 0) (i := 0) dX11_mean_0 rfl rfl ?_
  refine x_iload_n (j := 1) (i := 1) dX11_mean_1 rfl rfl ?_
  obtain ⟨g4, h⟩ := gd_some h
  obtain ⟨v1, w2, hc3, h⟩ := bd_s h
  refine x_callVI (ci := 11) dX11_mean_2 ml_RX11_124 mb_X11_isStand (c_X11_isStand x0 x1 w v1 w2 hc3) ⟨_, rfl, rfl⟩ g4 [] rfl rfl (Nat.le_of_ble_eq_true rfl) (by decide) (by decide) ?_
  refine x_if_eq (tgt := 17) dX11_mean_5 (by decide) (fun hc5 => ?_) (fun hc5 => ?_)
  · rw [if_pos hc5] at h
    refine x_iconst (v := -1) dX11_mean_17 (by decide) ?_
    obtain ⟨hr9, hw9⟩ := Prod.mk.inj (Option.some.inj h)
    subst hw9
    subst hr9
    exact x_iret dX11_mean_18 rfl rfl
  · rw [if_neg hc5] at h
    refine x_aload_n (j := 0) (i := 0) dX11_mean_8 rfl rfl ?_
    refine x_iload_n (j := 1) (i := 1) dX11_mean_9 rfl rfl ?_
    refine x_iload_n (j := 2) (i := 2) dX11_mean_10 rfl rfl ?_
    obtain ⟨g9, h⟩ := gd_some h
    obtain ⟨v6, w7, hc8, h⟩ := bd_s h
    refine x_callVI (ci := 11) dX11_mean_11 ml_RX11_242 mb_X11_meanOf (c_X11_meanOf x0 x1 x2 w2 v6 w7 hc8) ⟨_, rfl, rfl⟩ g9 [] rfl rfl (Nat.le_of_ble_eq_true rfl) (by decide) (by decide) ?_
    refine x_goto (tgt := 18) dX11_mean_14 (by decide) ?_
    obtain ⟨hr9, hw9⟩ := Prod.mk.inj (Option.some.inj h)
    subst hw9
    subst hr9
    exact x_iret dX11_mean_18 rfl rfl
set_option maxRecDepth 20000 in
theorem k_X11_medal_l28 (rE : Int32) (wE : xSt) : ∀ (n : Nat) (x0 : Nat) (x3 : Int32) (x4 : Int32) (x5 : Int32) (w : xSt), f_X11_medal_l28 n x0 x3 x4 x5 w = some (rE, wE) → xX cX11_medal 6 (some .int) RX11 false (xRm 2 0 0) (xZf (some (xI rE), wE) 0 0) 28 [(0, xR x0), (3, xI x3), (4, xI x4), (5, xI x5)] [] w 0 0 := by
  intro n
  induction n with
  | zero => intro x0 x3 x4 x5 w h; exact nomatch (show (none : Option (Int32 × xSt)) = some (rE, wE) from h)
  | succ n ih =>
    intro x0 x3 x4 x5 w h
    rw [f_X11_medal_l28_s] at h
    refine x_iload (j := 3) (i := 5) dX11_medal_28 rfl ?_
    refine x_iconst (v := 3) dX11_medal_30 (by decide) ?_
    refine x_icmp_ge (tgt := 88) dX11_medal_31 (by decide) (fun hc14 => ?_) (fun hc14 => ?_)
    · rw [if_pos hc14] at h
      refine x_iconst (v := 0) dX11_medal_88 (by decide) ?_
      obtain ⟨hr9, hw9⟩ := Prod.mk.inj (Option.some.inj h)
      subst hw9
      subst hr9
      exact x_iret dX11_medal_89 rfl rfl
    · rw [if_neg hc14] at h
      refine x_iload_n (j := 1) (i := 3) dX11_medal_34 rfl rfl ?_
      refine x_iconst (v := -1) dX11_medal_35 (by decide) ?_
      refine x_icmp_eq (tgt := 88) dX11_medal_36 (by decide) (fun hc15 => ?_) (fun hc15 => ?_)
      · rw [if_pos hc15] at h
        refine x_iconst (v := 0) dX11_medal_88 (by decide) ?_
        obtain ⟨hr9, hw9⟩ := Prod.mk.inj (Option.some.inj h)
        subst hw9
        subst hr9
        exact x_iret dX11_medal_89 rfl rfl
      · rw [if_neg hc15] at h
        refine x_iload (j := 2) (i := 4) dX11_medal_39 rfl ?_
        refine x_iconst (v := -1) dX11_medal_41 (by decide) ?_
        refine x_icmp_eq (tgt := 88) dX11_medal_42 (by decide) (fun hc16 => ?_) (fun hc16 => ?_)
        · rw [if_pos hc16] at h
          refine x_iconst (v := 0) dX11_medal_88 (by decide) ?_
          obtain ⟨hr9, hw9⟩ := Prod.mk.inj (Option.some.inj h)
          subst hw9
          subst hr9
          exact x_iret dX11_medal_89 rfl rfl
        · rw [if_neg hc16] at h
          refine x_aload_n (j := 0) (i := 0) dX11_medal_45 rfl rfl ?_
          obtain ⟨g17, h⟩ := gd_some h
          refine x_getR (ci := 11) (k := 20) dX11_medal_46 lf_RX11_60 rfl g17 ?_
          refine x_iconst (v := 3) dX11_medal_49 (by decide) ?_
          refine x_iload (j := 2) (i := 4) dX11_medal_50 rfl ?_
          refine x_imul dX11_medal_52 ?_
          refine x_iload (j := 3) (i := 5) dX11_medal_53 rfl ?_
          refine x_iadd dX11_medal_55 ?_
          obtain ⟨g18, h⟩ := gd_some h
          obtain ⟨g19, h⟩ := gd_some h
          refine x_iald dX11_medal_56 g18 g19 ?_
          refine x_iconst (v := -1) dX11_medal_57 (by decide) ?_
          refine x_icmp_eq (tgt := 82) dX11_medal_58 (by decide) (fun hc20 => ?_) (fun hc20 => ?_)
          · rw [if_pos hc20] at h
            refine x_iinc (j := 3) (i := 5) (v := x5 + (1 : Int32)) (lv2 := [(5, xI (x5 + (1 : Int32))), (0, xR x0), (3, xI x3), (4, xI x4)]) dX11_medal_82 rfl rfl (by decide) rfl ?_
            refine x_goto (tgt := 28) dX11_medal_85 (by decide) ?_
            refine x_lv (lv2 := [(0, xR x0), (3, xI x3), (4, xI x4), (5, xI (x5 + (1 : Int32)))]) [1, 2, 3, 0] rfl ?_
            exact ih x0 x3 x4 (x5 + (1 : Int32)) w h
          · rw [if_neg hc20] at h
            refine x_iload_n (j := 1) (i := 3) dX11_medal_61 rfl rfl ?_
            refine x_aload_n (j := 0) (i := 0) dX11_medal_62 rfl rfl ?_
            refine x_getR (ci := 11) (k := 20) dX11_medal_63 lf_RX11_60 rfl g17 ?_
            refine x_iconst (v := 3) dX11_medal_66 (by decide) ?_
            refine x_iload (j := 2) (i := 4) dX11_medal_67 rfl ?_
            refine x_imul dX11_medal_69 ?_
            refine x_iload (j := 3) (i := 5) dX11_medal_70 rfl ?_
            refine x_iadd dX11_medal_72 ?_
            refine x_iald dX11_medal_73 g18 g19 ?_
            refine x_icmp_lt (tgt := 82) dX11_medal_74 (by decide) (fun hc21 => ?_) (fun hc21 => ?_)
            · rw [if_pos hc21] at h
              refine x_iinc (j := 3) (i := 5) (v := x5 + (1 : Int32)) (lv2 := [(5, xI (x5 + (1 : Int32))), (0, xR x0), (3, xI x3), (4, xI x4)]) dX11_medal_82 rfl rfl (by decide) rfl ?_
              refine x_goto (tgt := 28) dX11_medal_85 (by decide) ?_
              refine x_lv (lv2 := [(0, xR x0), (3, xI x3), (4, xI x4), (5, xI (x5 + (1 : Int32)))]) [1, 2, 3, 0] rfl ?_
              exact ih x0 x3 x4 (x5 + (1 : Int32)) w h
            · rw [if_neg hc21] at h
              refine x_iconst (v := 3) dX11_medal_77 (by decide) ?_
              refine x_iload (j := 3) (i := 5) dX11_medal_78 rfl ?_
              refine x_isub dX11_medal_80 ?_
              obtain ⟨hr9, hw9⟩ := Prod.mk.inj (Option.some.inj h)
              subst hw9
              subst hr9
              exact x_iret dX11_medal_81 rfl rfl
set_option maxRecDepth 20000 in
theorem c_X11_medal (x0 : Nat) (x1 : Int32) (x2 : Int32) (w : xSt) (rE : Int32) (wE : xSt) (h : f_X11_medal x0 x1 x2 w = some (rE, wE)) : xCall yX11_medal cX11_medal 6 (some .int) 2 0 0 [xR x0, xI x1, xI x2] w (some (xI rE), wE) := by
  refine xCall_of false (by decide) (fun q => nomatch q) (Nat.le_of_ble_eq_true rfl) ?_
  show xX cX11_medal 6 (some .int) RX11 false (xRm 2 0 0) (xZf (some (xI rE), wE) 0 0) 0 [(0, xR x0), (1, xI x1), (2, xI x2)] [] w 0 0
  unfold f_X11_medal at h
  refine x_aload_n (j := 0) (i := 0) dX11_medal_0 rfl rfl ?_
  refine x_iload_n (j := 1) (i := 1) dX11_medal_1 rfl rfl ?_
  obtain ⟨g4, h⟩ := gd_some h
  obtain ⟨v1, w2, hc3, h⟩ := bd_s h
  refine x_callVI (ci := 11) dX11_medal_2 ml_RX11_124 mb_X11_isStand (c_X11_isStand x0 x1 w v1 w2 hc3) ⟨_, rfl, rfl⟩ g4 [] rfl rfl (Nat.le_of_ble_eq_true rfl) (by decide) (by decide) ?_
  refine x_if_ne (tgt := 10) dX11_medal_5 (by decide) (fun hc5 => ?_) (fun hc5 => ?_)
  · rw [if_neg hc5] at h
    refine x_aload_n (j := 0) (i := 0) dX11_medal_10 rfl rfl ?_
    refine x_iload_n (j := 1) (i := 1) dX11_medal_11 rfl rfl ?_
    refine x_iload_n (j := 2) (i := 2) dX11_medal_12 rfl rfl ?_
    obtain ⟨g9, h⟩ := gd_some h
    obtain ⟨v6, w7, hc8, h⟩ := bd_s h
    refine x_callVI (ci := 11) dX11_medal_13 ml_RX11_242 mb_X11_meanOf (c_X11_meanOf x0 x1 x2 w2 v6 w7 hc8) ⟨_, rfl, rfl⟩ g9 [] rfl rfl (Nat.le_of_ble_eq_true rfl) (by decide) (by decide) ?_
    refine x_istore_n (i := 3) (lv2 := [(3, xI v6), (0, xR x0), (1, xI x1), (2, xI x2)]) dX11_medal_16 rfl (by decide) rfl ?_
    refine x_aload_n (j := 1) (i := 0) dX11_medal_17 rfl rfl ?_
    refine x_iconst (v := 0) dX11_medal_18 (by decide) ?_
    refine x_iload_n (j := 3) (i := 2) dX11_medal_19 rfl rfl ?_
    obtain ⟨g13, h⟩ := gd_some h
    obtain ⟨v10, w11, hc12, h⟩ := bd_s h
    refine x_callVI (ci := 11) dX11_medal_20 ml_RX11_245 mb_X11_inForce (c_X11_inForce x0 (0 : Int32) x2 w7 v10 w11 hc12) ⟨_, rfl, rfl⟩ g13 [] rfl rfl (Nat.le_of_ble_eq_true rfl) (by decide) (by decide) ?_
    refine x_istore (i := 4) (lv2 := [(4, xI v10), (3, xI v6), (0, xR x0), (1, xI x1), (2, xI x2)]) dX11_medal_23 (by decide) rfl ?_
    refine x_iconst (v := 0) dX11_medal_25 (by decide) ?_
    refine x_istore (i := 5) (lv2 := [(5, xI (0 : Int32)), (4, xI v10), (3, xI v6), (0, xR x0), (1, xI x1), (2, xI x2)]) dX11_medal_26 (by decide) rfl ?_
    refine x_lv (lv2 := [(0, xR x0), (3, xI v6), (4, xI v10), (5, xI (0 : Int32))]) [3, 2, 1, 0] rfl ?_
    exact k_X11_medal_l28 rE wE xFu x0 v6 v10 (0 : Int32) w11 h
  · rw [if_pos hc5] at h
    refine x_iconst (v := -1) dX11_medal_8 (by decide) ?_
    obtain ⟨hr9, hw9⟩ := Prod.mk.inj (Option.some.inj h)
    subst hw9
    subst hr9
    exact x_iret dX11_medal_9 rfl rfl

set_option maxRecDepth 20000 in
theorem k_X11_looks_b141 (k54 : Nat → Int32 → xSt → Option (Unit × xSt)) (rE : Unit) (wE : xSt) (hk54 : ∀ (x0 : Nat) (x2 : Int32) (w : xSt), k54 x0 x2 w = some (rE, wE) → xX cX11_looks 5 none RX11 false (xRm 4 0 0) (xZf (none, wE) 0 0) 54 [(0, xR x0), (2, xI x2)] [] w 0 0) (x0 : Nat) (x2 : Int32) (x3 : Int32) (x4 : Int32) (w : xSt) (h : f_X11_looks_b141 k54 x0 x2 x3 x4 w = some (rE, wE)) : xX cX11_looks 5 none RX11 false (xRm 4 0 0) (xZf (none, wE) 0 0) 141 [(0, xR x0), (2, xI x2), (3, xI x3), (4, xI x4)] [] w 0 0 := by
  unfold f_X11_looks_b141 at h
  refine x_iload_n (j := 2) (i := 3) dX11_looks_141 rfl rfl ?_
  refine x_aload_n (j := 0) (i := 0) dX11_looks_142 rfl rfl ?_
  obtain ⟨g41, h⟩ := gd_some h
  refine x_getI (ci := 11) (k := 0) dX11_looks_143 lf_RX11_111 rfl g41 ?_
  refine x_aload_n (j := 0) (i := 0) dX11_looks_146 rfl rfl ?_
  refine x_getI (ci := 11) (k := 1) dX11_looks_147 lf_RX11_114 rfl g41 ?_
  refine x_iconst (v := 1) dX11_looks_150 (by decide) ?_
  refine x_isub dX11_looks_151 ?_
  refine x_imul dX11_looks_152 ?_
  refine x_icmp_ge (tgt := 168) dX11_looks_153 (by decide) (fun hc42 => ?_) (fun hc42 => ?_)
  · rw [if_pos hc42] at h
    refine x_iinc (j := 1) (i := 2) (v := x2 + (1 : Int32)) (lv2 := [(2, xI (x2 + (1 : Int32))), (0, xR x0), (3, xI x3), (4, xI x4)]) dX11_looks_168 rfl rfl (by decide) rfl ?_
    refine x_goto (tgt := 54) dX11_looks_171 (by decide) ?_
    refine x_lv (lv2 := [(0, xR x0), (2, xI (x2 + (1 : Int32)))]) [1, 0] rfl ?_
    exact hk54 x0 (x2 + (1 : Int32)) w h
  · rw [if_neg hc42] at h
    refine x_aload_n (j := 0) (i := 0) dX11_looks_156 rfl rfl ?_
    refine x_iload_n (j := 2) (i := 3) dX11_looks_157 rfl rfl ?_
    refine x_aload_n (j := 0) (i := 0) dX11_looks_158 rfl rfl ?_
    refine x_getI (ci := 11) (k := 0) dX11_looks_159 lf_RX11_111 rfl g41 ?_
    refine x_iadd dX11_looks_162 ?_
    refine x_iload (j := 3) (i := 4) dX11_looks_163 rfl ?_
    obtain ⟨_u, w43, hc44, h⟩ := bd_s h
    refine x_callVV (ci := 11) dX11_looks_165 ml_RX11_275 mb_X11_walks (c_X11_walks x0 (x3 + (wI w x0 0)) x4 w _u w43 hc44) ⟨_, rfl, rfl⟩ g41 [] rfl rfl (Nat.le_of_ble_eq_true rfl) (by decide) (by decide) ?_
    refine x_iinc (j := 1) (i := 2) (v := x2 + (1 : Int32)) (lv2 := [(2, xI (x2 + (1 : Int32))), (0, xR x0), (3, xI x3), (4, xI x4)]) dX11_looks_168 rfl rfl (by decide) rfl ?_
    refine x_goto (tgt := 54) dX11_looks_171 (by decide) ?_
    refine x_lv (lv2 := [(0, xR x0), (2, xI (x2 + (1 : Int32)))]) [1, 0] rfl ?_
    exact hk54 x0 (x2 + (1 : Int32)) w43 h
set_option maxRecDepth 20000 in
theorem k_X11_looks_b121 (k54 : Nat → Int32 → xSt → Option (Unit × xSt)) (rE : Unit) (wE : xSt) (hk54 : ∀ (x0 : Nat) (x2 : Int32) (w : xSt), k54 x0 x2 w = some (rE, wE) → xX cX11_looks 5 none RX11 false (xRm 4 0 0) (xZf (none, wE) 0 0) 54 [(0, xR x0), (2, xI x2)] [] w 0 0) (x0 : Nat) (x2 : Int32) (x3 : Int32) (x4 : Int32) (w : xSt) (h : f_X11_looks_b121 k54 x0 x2 x3 x4 w = some (rE, wE)) : xX cX11_looks 5 none RX11 false (xRm 4 0 0) (xZf (none, wE) 0 0) 121 [(0, xR x0), (2, xI x2), (3, xI x3), (4, xI x4)] [] w 0 0 := by
  unfold f_X11_looks_b121 at h
  refine x_iload_n (j := 2) (i := 3) dX11_looks_121 rfl rfl ?_
  refine x_aload_n (j := 0) (i := 0) dX11_looks_122 rfl rfl ?_
  obtain ⟨g37, h⟩ := gd_some h
  refine x_getI (ci := 11) (k := 0) dX11_looks_123 lf_RX11_111 rfl g37 ?_
  refine x_icmp_lt (tgt := 141) dX11_looks_126 (by decide) (fun hc38 => ?_) (fun hc38 => ?_)
  · rw [if_pos hc38] at h
    refine x_lv (lv2 := [(0, xR x0), (2, xI x2), (3, xI x3), (4, xI x4)]) [0, 1, 2, 3] rfl ?_
    exact k_X11_looks_b141 k54 rE wE hk54 x0 x2 x3 x4 w h
  · rw [if_neg hc38] at h
    refine x_aload_n (j := 0) (i := 0) dX11_looks_129 rfl rfl ?_
    refine x_iload_n (j := 2) (i := 3) dX11_looks_130 rfl rfl ?_
    refine x_aload_n (j := 0) (i := 0) dX11_looks_131 rfl rfl ?_
    refine x_getI (ci := 11) (k := 0) dX11_looks_132 lf_RX11_111 rfl g37 ?_
    refine x_isub dX11_looks_135 ?_
    refine x_iload (j := 3) (i := 4) dX11_looks_136 rfl ?_
    obtain ⟨_u, w39, hc40, h⟩ := bd_s h
    refine x_callVV (ci := 11) dX11_looks_138 ml_RX11_275 mb_X11_walks (c_X11_walks x0 (x3 - (wI w x0 0)) x4 w _u w39 hc40) ⟨_, rfl, rfl⟩ g37 [] rfl rfl (Nat.le_of_ble_eq_true rfl) (by decide) (by decide) ?_
    refine x_lv (lv2 := [(0, xR x0), (2, xI x2), (3, xI x3), (4, xI x4)]) [0, 1, 2, 3] rfl ?_
    exact k_X11_looks_b141 k54 rE wE hk54 x0 x2 x3 x4 w39 h
set_option maxRecDepth 20000 in
theorem k_X11_looks_b97 (k54 : Nat → Int32 → xSt → Option (Unit × xSt)) (rE : Unit) (wE : xSt) (hk54 : ∀ (x0 : Nat) (x2 : Int32) (w : xSt), k54 x0 x2 w = some (rE, wE) → xX cX11_looks 5 none RX11 false (xRm 4 0 0) (xZf (none, wE) 0 0) 54 [(0, xR x0), (2, xI x2)] [] w 0 0) (x0 : Nat) (x2 : Int32) (x3 : Int32) (x4 : Int32) (w : xSt) (h : f_X11_looks_b97 k54 x0 x2 x3 x4 w = some (rE, wE)) : xX cX11_looks 5 none RX11 false (xRm 4 0 0) (xZf (none, wE) 0 0) 97 [(0, xR x0), (2, xI x2), (3, xI x3), (4, xI x4)] [] w 0 0 := by
  unfold f_X11_looks_b97 at h
  refine x_iload_n (j := 2) (i := 3) dX11_looks_97 rfl rfl ?_
  refine x_aload_n (j := 0) (i := 0) dX11_looks_98 rfl rfl ?_
  obtain ⟨g32, h⟩ := gd_some h
  refine x_getI (ci := 11) (k := 0) dX11_looks_99 lf_RX11_111 rfl g32 ?_
  obtain ⟨g33, h⟩ := gd_some h
  refine x_irem dX11_looks_102 g33 ?_
  refine x_aload_n (j := 0) (i := 0) dX11_looks_103 rfl rfl ?_
  refine x_getI (ci := 11) (k := 0) dX11_looks_104 lf_RX11_111 rfl g32 ?_
  refine x_iconst (v := 1) dX11_looks_107 (by decide) ?_
  refine x_isub dX11_looks_108 ?_
  refine x_icmp_ge (tgt := 121) dX11_looks_109 (by decide) (fun hc34 => ?_) (fun hc34 => ?_)
  · rw [if_pos hc34] at h
    refine x_lv (lv2 := [(0, xR x0), (2, xI x2), (3, xI x3), (4, xI x4)]) [0, 1, 2, 3] rfl ?_
    exact k_X11_looks_b121 k54 rE wE hk54 x0 x2 x3 x4 w h
  · rw [if_neg hc34] at h
    refine x_aload_n (j := 0) (i := 0) dX11_looks_112 rfl rfl ?_
    refine x_iload_n (j := 2) (i := 3) dX11_looks_113 rfl rfl ?_
    refine x_iconst (v := 1) dX11_looks_114 (by decide) ?_
    refine x_iadd dX11_looks_115 ?_
    refine x_iload (j := 3) (i := 4) dX11_looks_116 rfl ?_
    obtain ⟨_u, w35, hc36, h⟩ := bd_s h
    refine x_callVV (ci := 11) dX11_looks_118 ml_RX11_275 mb_X11_walks (c_X11_walks x0 (x3 + (1 : Int32)) x4 w _u w35 hc36) ⟨_, rfl, rfl⟩ g32 [] rfl rfl (Nat.le_of_ble_eq_true rfl) (by decide) (by decide) ?_
    refine x_lv (lv2 := [(0, xR x0), (2, xI x2), (3, xI x3), (4, xI x4)]) [0, 1, 2, 3] rfl ?_
    exact k_X11_looks_b121 k54 rE wE hk54 x0 x2 x3 x4 w35 h
set_option maxRecDepth 20000 in
theorem k_X11_looks_l54 (rE : Unit) (wE : xSt) : ∀ (n : Nat) (x0 : Nat) (x2 : Int32) (w : xSt), f_X11_looks_l54 n x0 x2 w = some (rE, wE) → xX cX11_looks 5 none RX11 false (xRm 4 0 0) (xZf (none, wE) 0 0) 54 [(0, xR x0), (2, xI x2)] [] w 0 0 := by
  intro n
  induction n with
  | zero => intro x0 x2 w h; exact nomatch (show (none : Option (Unit × xSt)) = some (rE, wE) from h)
  | succ n ih =>
    intro x0 x2 w h
    rw [f_X11_looks_l54_s] at h
    refine x_iload_n (j := 1) (i := 2) dX11_looks_54 rfl rfl ?_
    refine x_aload_n (j := 0) (i := 0) dX11_looks_55 rfl rfl ?_
    obtain ⟨g22, h⟩ := gd_some h
    refine x_getI (ci := 11) (k := 42) dX11_looks_56 lf_RX11_192 rfl g22 ?_
    refine x_icmp_ge (tgt := 174) dX11_looks_59 (by decide) (fun hc23 => ?_) (fun hc23 => ?_)
    · rw [if_pos hc23] at h
      obtain ⟨hr9, hw9⟩ := Prod.mk.inj (Option.some.inj h)
      subst hw9
      exact x_vret dX11_looks_174 rfl rfl
    · rw [if_neg hc23] at h
      refine x_aload_n (j := 0) (i := 0) dX11_looks_62 rfl rfl ?_
      refine x_getR (ci := 11) (k := 41) dX11_looks_63 lf_RX11_96 rfl g22 ?_
      refine x_iload_n (j := 1) (i := 2) dX11_looks_66 rfl rfl ?_
      obtain ⟨g24, h⟩ := gd_some h
      obtain ⟨g25, h⟩ := gd_some h
      refine x_iald dX11_looks_67 g24 g25 ?_
      refine x_istore_n (i := 3) (lv2 := [(3, xI (wI w (wR w x0 41) x2.toNatClampNeg)), (0, xR x0), (2, xI x2)]) dX11_looks_68 rfl (by decide) rfl ?_
      refine x_aload_n (j := 1) (i := 0) dX11_looks_69 rfl rfl ?_
      refine x_getR (ci := 11) (k := 49) dX11_looks_70 lf_RX11_108 rfl g22 ?_
      refine x_iload_n (j := 0) (i := 3) dX11_looks_73 rfl rfl ?_
      obtain ⟨g26, h⟩ := gd_some h
      obtain ⟨g27, h⟩ := gd_some h
      refine x_iald dX11_looks_74 g26 g27 ?_
      refine x_iconst (v := 1) dX11_looks_75 (by decide) ?_
      refine x_iadd dX11_looks_76 ?_
      refine x_istore (i := 4) (lv2 := [(4, xI ((wI w (wR w x0 49) (wI w (wR w x0 41) x2.toNatClampNeg).toNatClampNeg) + (1 : Int32))), (3, xI (wI w (wR w x0 41) x2.toNatClampNeg)), (0, xR x0), (2, xI x2)]) dX11_looks_77 (by decide) rfl ?_
      refine x_iload_n (j := 1) (i := 3) dX11_looks_79 rfl rfl ?_
      refine x_aload_n (j := 2) (i := 0) dX11_looks_80 rfl rfl ?_
      refine x_getI (ci := 11) (k := 0) dX11_looks_81 lf_RX11_111 rfl g22 ?_
      obtain ⟨g28, h⟩ := gd_some h
      refine x_irem dX11_looks_84 g28 ?_
      refine x_if_le (tgt := 97) dX11_looks_85 (by decide) (fun hc29 => ?_) (fun hc29 => ?_)
      · rw [if_pos hc29] at h
        refine x_lv (lv2 := [(0, xR x0), (2, xI x2), (3, xI (wI w (wR w x0 41) x2.toNatClampNeg)), (4, xI ((wI w (wR w x0 49) (wI w (wR w x0 41) x2.toNatClampNeg).toNatClampNeg) + (1 : Int32)))]) [2, 3, 1, 0] rfl ?_
        exact k_X11_looks_b97 (f_X11_looks_l54 n) rE wE ih x0 x2 (wI w (wR w x0 41) x2.toNatClampNeg) ((wI w (wR w x0 49) (wI w (wR w x0 41) x2.toNatClampNeg).toNatClampNeg) + (1 : Int32)) w h
      · rw [if_neg hc29] at h
        refine x_aload_n (j := 2) (i := 0) dX11_looks_88 rfl rfl ?_
        refine x_iload_n (j := 1) (i := 3) dX11_looks_89 rfl rfl ?_
        refine x_iconst (v := 1) dX11_looks_90 (by decide) ?_
        refine x_isub dX11_looks_91 ?_
        refine x_iload (j := 0) (i := 4) dX11_looks_92 rfl ?_
        obtain ⟨_u, w30, hc31, h⟩ := bd_s h
        refine x_callVV (ci := 11) dX11_looks_94 ml_RX11_275 mb_X11_walks (c_X11_walks x0 ((wI w (wR w x0 41) x2.toNatClampNeg) - (1 : Int32)) ((wI w (wR w x0 49) (wI w (wR w x0 41) x2.toNatClampNeg).toNatClampNeg) + (1 : Int32)) w _u w30 hc31) ⟨_, rfl, rfl⟩ g22 [] rfl rfl (Nat.le_of_ble_eq_true rfl) (by decide) (by decide) ?_
        refine x_lv (lv2 := [(0, xR x0), (2, xI x2), (3, xI (wI w (wR w x0 41) x2.toNatClampNeg)), (4, xI ((wI w (wR w x0 49) (wI w (wR w x0 41) x2.toNatClampNeg).toNatClampNeg) + (1 : Int32)))]) [2, 3, 1, 0] rfl ?_
        exact k_X11_looks_b97 (f_X11_looks_l54 n) rE wE ih x0 x2 (wI w (wR w x0 41) x2.toNatClampNeg) ((wI w (wR w x0 49) (wI w (wR w x0 41) x2.toNatClampNeg).toNatClampNeg) + (1 : Int32)) w30 h
set_option maxRecDepth 20000 in
theorem k_X11_looks_l2 (rE : Unit) (wE : xSt) : ∀ (n : Nat) (x0 : Nat) (x1 : Int32) (w : xSt), f_X11_looks_l2 n x0 x1 w = some (rE, wE) → xX cX11_looks 5 none RX11 false (xRm 4 0 0) (xZf (none, wE) 0 0) 2 [(0, xR x0), (1, xI x1)] [] w 0 0 := by
  intro n
  induction n with
  | zero => intro x0 x1 w h; exact nomatch (show (none : Option (Unit × xSt)) = some (rE, wE) from h)
  | succ n ih =>
    intro x0 x1 w h
    rw [f_X11_looks_l2_s] at h
    refine x_iload_n (j := 1) (i := 1) dX11_looks_2 rfl rfl ?_
    refine x_bipush (v := 64) dX11_looks_3 (by decide) ?_
    refine x_icmp_ge (tgt := 21) dX11_looks_5 (by decide) (fun hc1 => ?_) (fun hc1 => ?_)
    · rw [if_pos hc1] at h
      refine x_aload_n (j := 0) (i := 0) dX11_looks_21 rfl rfl ?_
      obtain ⟨g2, h⟩ := gd_some h
      refine x_getR (ci := 11) (k := 37) dX11_looks_22 lf_RX11_87 rfl g2 ?_
      refine x_aload_n (j := 0) (i := 0) dX11_looks_25 rfl rfl ?_
      refine x_getI (ci := 11) (k := 36) dX11_looks_26 lf_RX11_269 rfl g2 ?_
      refine x_iconst (v := 1) dX11_looks_29 (by decide) ?_
      refine x_isub dX11_looks_30 ?_
      obtain ⟨g3, h⟩ := gd_some h
      obtain ⟨g4, h⟩ := gd_some h
      refine x_iald dX11_looks_31 g3 g4 ?_
      refine x_istore_n (i := 1) (lv2 := [(1, xI (wI w (wR w x0 37) ((wI w x0 36) - (1 : Int32)).toNatClampNeg)), (0, xR x0)]) dX11_looks_32 rfl (by decide) rfl ?_
      refine x_aload_n (j := 1) (i := 0) dX11_looks_33 rfl rfl ?_
      refine x_getR (ci := 11) (k := 49) dX11_looks_34 lf_RX11_108 rfl g2 ?_
      refine x_iload_n (j := 0) (i := 1) dX11_looks_37 rfl rfl ?_
      refine x_iconst (v := 0) dX11_looks_38 (by decide) ?_
      obtain ⟨g5, h⟩ := gd_some h
      obtain ⟨g6, h⟩ := gd_some h
      obtain ⟨w7, hw8, h⟩ := lt1_some h
      refine x_iast dX11_looks_39 g5 g6 ?_
      rw [← hw8]
      refine x_aload_n (j := 1) (i := 0) dX11_looks_40 rfl rfl ?_
      have g9 : isC w7 x0 11 := by rw [hw8]; exact g2
      refine x_getR (ci := 11) (k := 41) dX11_looks_41 lf_RX11_96 rfl g9 ?_
      refine x_iconst (v := 0) dX11_looks_44 (by decide) ?_
      refine x_iload_n (j := 0) (i := 1) dX11_looks_45 rfl rfl ?_
      obtain ⟨g10, h⟩ := gd_some h
      obtain ⟨g11, h⟩ := gd_some h
      obtain ⟨w12, hw13, h⟩ := lt1_some h
      refine x_iast dX11_looks_46 g10 g11 ?_
      rw [← hw13]
      refine x_aload_n (j := 1) (i := 0) dX11_looks_47 rfl rfl ?_
      refine x_iconst (v := 1) dX11_looks_48 (by decide) ?_
      have g14 : isC w12 x0 11 := by rw [hw13]; exact g9
      obtain ⟨w15, hw16, h⟩ := lt1_some h
      refine x_putI (ci := 11) (k := 42) dX11_looks_49 (lw_RX11_192_w _) rfl g14 ?_
      rw [← hw16]
      refine x_iconst (v := 0) dX11_looks_52 (by decide) ?_
      refine x_istore_n (i := 2) (lv2 := [(2, xI (0 : Int32)), (1, xI (wI w (wR w x0 37) ((wI w x0 36) - (1 : Int32)).toNatClampNeg)), (0, xR x0)]) dX11_looks_53 rfl (by decide) rfl ?_
      refine x_lv (lv2 := [(0, xR x0), (2, xI (0 : Int32))]) [2, 0] rfl ?_
      exact k_X11_looks_l54 rE wE xFu x0 (0 : Int32) w15 h
    · rw [if_neg hc1] at h
      refine x_aload_n (j := 0) (i := 0) dX11_looks_8 rfl rfl ?_
      obtain ⟨g17, h⟩ := gd_some h
      refine x_getR (ci := 11) (k := 49) dX11_looks_9 lf_RX11_108 rfl g17 ?_
      refine x_iload_n (j := 1) (i := 1) dX11_looks_12 rfl rfl ?_
      refine x_iconst (v := -1) dX11_looks_13 (by decide) ?_
      obtain ⟨g18, h⟩ := gd_some h
      obtain ⟨g19, h⟩ := gd_some h
      obtain ⟨w20, hw21, h⟩ := lt1_some h
      refine x_iast dX11_looks_14 g18 g19 ?_
      rw [← hw21]
      refine x_iinc (j := 1) (i := 1) (v := x1 + (1 : Int32)) (lv2 := [(1, xI (x1 + (1 : Int32))), (0, xR x0)]) dX11_looks_15 rfl rfl (by decide) rfl ?_
      refine x_goto (tgt := 2) dX11_looks_18 (by decide) ?_
      refine x_lv (lv2 := [(0, xR x0), (1, xI (x1 + (1 : Int32)))]) [1, 0] rfl ?_
      exact ih x0 (x1 + (1 : Int32)) w20 h
set_option maxRecDepth 20000 in
theorem c_X11_looks (x0 : Nat) (w : xSt) (rE : Unit) (wE : xSt) (h : f_X11_looks x0 w = some (rE, wE)) : xCall yX11_looks cX11_looks 5 none 4 0 0 [xR x0] w (none, wE) := by
  refine xCall_of false (by decide) (fun q => nomatch q) (Nat.le_of_ble_eq_true rfl) ?_
  show xX cX11_looks 5 none RX11 false (xRm 4 0 0) (xZf (none, wE) 0 0) 0 [(0, xR x0)] [] w 0 0
  unfold f_X11_looks at h
  refine x_iconst (v := 0) dX11_looks_0 (by decide) ?_
  refine x_istore_n (i := 1) (lv2 := [(1, xI (0 : Int32)), (0, xR x0)]) dX11_looks_1 rfl (by decide) rfl ?_
  refine x_lv (lv2 := [(0, xR x0), (1, xI (0 : Int32))]) [1, 0] rfl ?_
  exact k_X11_looks_l2 rE wE xFu x0 (0 : Int32) w h
set_option maxRecDepth 20000 in
theorem c_X11_canBe (x0 : Nat) (x1 : Int32) (x2 : Int32) (w : xSt) (rE : Int32) (wE : xSt) (h : f_X11_canBe x0 x1 x2 w = some (rE, wE)) : xCall yX11_canBe cX11_canBe 3 (some .int) 5 0 0 [xR x0, xI x1, xI x2] w (some (xI rE), wE) := by
  refine xCall_of false (by decide) (fun q => nomatch q) (Nat.le_of_ble_eq_true rfl) ?_
  show xX cX11_canBe 3 (some .int) RX11 false (xRm 5 0 0) (xZf (some (xI rE), wE) 0 0) 0 [(0, xR x0), (1, xI x1), (2, xI x2)] [] w 0 0
  unfold f_X11_canBe at h
  refine x_aload_n (j := 0) (i := 0) dX11_canBe_0 rfl rfl ?_
  refine x_iload_n (j := 1) (i := 1) dX11_canBe_1 rfl rfl ?_
  obtain ⟨g4, h⟩ := gd_some h
  obtain ⟨v1, w2, hc3, h⟩ := bd_s h
  refine x_callVI (ci := 11) dX11_canBe_2 ml_RX11_128 mb_X11_isCell (c_X11_isCell x0 x1 w v1 w2 hc3) ⟨_, rfl, rfl⟩ g4 [] rfl rfl (Nat.le_of_ble_eq_true rfl) (by decide) (by decide) ?_
  refine x_if_ne (tgt := 10) dX11_canBe_5 (by decide) (fun hc5 => ?_) (fun hc5 => ?_)
  · rw [if_neg hc5] at h
    refine x_aload_n (j := 0) (i := 0) dX11_canBe_10 rfl rfl ?_
    obtain ⟨g6, h⟩ := gd_some h
    refine x_getI (ci := 11) (k := 36) dX11_canBe_11 lf_RX11_269 rfl g6 ?_
    refine x_if_ne (tgt := 20) dX11_canBe_14 (by decide) (fun hc7 => ?_) (fun hc7 => ?_)
    · rw [if_neg hc7] at h
      refine x_iload_n (j := 2) (i := 2) dX11_canBe_20 rfl rfl ?_
      refine x_aload_n (j := 0) (i := 0) dX11_canBe_21 rfl rfl ?_
      refine x_getI (ci := 11) (k := 38) dX11_canBe_22 lf_RX11_272 rfl g6 ?_
      refine x_icmp_ge (tgt := 31) dX11_canBe_25 (by decide) (fun hc8 => ?_) (fun hc8 => ?_)
      · rw [if_pos hc8] at h
        refine x_aload_n (j := 0) (i := 0) dX11_canBe_31 rfl rfl ?_
        obtain ⟨_u, w9, hc10, h⟩ := bd_s h
        refine x_callVV (ci := 11) dX11_canBe_32 ml_RX11_278 mb_X11_looks (c_X11_looks x0 w2 _u w9 hc10) ⟨_, rfl, rfl⟩ g6 [] rfl rfl (Nat.le_of_ble_eq_true rfl) (by decide) (by decide) ?_
        refine x_aload_n (j := 0) (i := 0) dX11_canBe_35 rfl rfl ?_
        obtain ⟨g11, h⟩ := gd_some h
        refine x_getR (ci := 11) (k := 49) dX11_canBe_36 lf_RX11_108 rfl g11 ?_
        refine x_iload_n (j := 1) (i := 1) dX11_canBe_39 rfl rfl ?_
        obtain ⟨g12, h⟩ := gd_some h
        obtain ⟨g13, h⟩ := gd_some h
        refine x_iald dX11_canBe_40 g12 g13 ?_
        refine x_iconst (v := -1) dX11_canBe_41 (by decide) ?_
        refine x_icmp_eq (tgt := 64) dX11_canBe_42 (by decide) (fun hc14 => ?_) (fun hc14 => ?_)
        · rw [if_pos hc14] at h
          refine x_iconst (v := 0) dX11_canBe_64 (by decide) ?_
          obtain ⟨hr9, hw9⟩ := Prod.mk.inj (Option.some.inj h)
          subst hw9
          subst hr9
          exact x_iret dX11_canBe_65 rfl rfl
        · rw [if_neg hc14] at h
          refine x_aload_n (j := 0) (i := 0) dX11_canBe_45 rfl rfl ?_
          refine x_getR (ci := 11) (k := 49) dX11_canBe_46 lf_RX11_108 rfl g11 ?_
          refine x_iload_n (j := 1) (i := 1) dX11_canBe_49 rfl rfl ?_
          refine x_iald dX11_canBe_50 g12 g13 ?_
          refine x_iload_n (j := 2) (i := 2) dX11_canBe_51 rfl rfl ?_
          refine x_aload_n (j := 0) (i := 0) dX11_canBe_52 rfl rfl ?_
          refine x_getI (ci := 11) (k := 38) dX11_canBe_53 lf_RX11_272 rfl g11 ?_
          refine x_isub dX11_canBe_56 ?_
          refine x_icmp_gt (tgt := 64) dX11_canBe_57 (by decide) (fun hc15 => ?_) (fun hc15 => ?_)
          · rw [if_pos hc15] at h
            refine x_iconst (v := 0) dX11_canBe_64 (by decide) ?_
            obtain ⟨hr9, hw9⟩ := Prod.mk.inj (Option.some.inj h)
            subst hw9
            subst hr9
            exact x_iret dX11_canBe_65 rfl rfl
          · rw [if_neg hc15] at h
            refine x_iconst (v := 1) dX11_canBe_60 (by decide) ?_
            refine x_goto (tgt := 65) dX11_canBe_61 (by decide) ?_
            obtain ⟨hr9, hw9⟩ := Prod.mk.inj (Option.some.inj h)
            subst hw9
            subst hr9
            exact x_iret dX11_canBe_65 rfl rfl
      · rw [if_neg hc8] at h
        refine x_bipush (v := -2) dX11_canBe_28 (by decide) ?_
        obtain ⟨hr9, hw9⟩ := Prod.mk.inj (Option.some.inj h)
        subst hw9
        subst hr9
        exact x_iret dX11_canBe_30 rfl rfl
    · rw [if_pos hc7] at h
      refine x_bipush (v := -3) dX11_canBe_17 (by decide) ?_
      obtain ⟨hr9, hw9⟩ := Prod.mk.inj (Option.some.inj h)
      subst hw9
      subst hr9
      exact x_iret dX11_canBe_19 rfl rfl
  · rw [if_pos hc5] at h
    refine x_iconst (v := -1) dX11_canBe_8 (by decide) ?_
    obtain ⟨hr9, hw9⟩ := Prod.mk.inj (Option.some.inj h)
    subst hw9
    subst hr9
    exact x_iret dX11_canBe_9 rfl rfl
set_option maxRecDepth 20000 in
theorem k_X11_places_l29 (rE : Int32) (wE : xSt) : ∀ (n : Nat) (x0 : Nat) (x1 : Int32) (x2 : Int32) (x3 : Int32) (w : xSt), f_X11_places_l29 n x0 x1 x2 x3 w = some (rE, wE) → xX cX11_places 4 (some .int) RX11 false (xRm 5 0 0) (xZf (some (xI rE), wE) 0 0) 29 [(0, xR x0), (1, xI x1), (2, xI x2), (3, xI x3)] [] w 0 0 := by
  intro n
  induction n with
  | zero => intro x0 x1 x2 x3 w h; exact nomatch (show (none : Option (Int32 × xSt)) = some (rE, wE) from h)
  | succ n ih =>
    intro x0 x1 x2 x3 w h
    rw [f_X11_places_l29_s] at h
    refine x_iload_n (j := 3) (i := 3) dX11_places_29 rfl rfl ?_
    refine x_aload_n (j := 0) (i := 0) dX11_places_30 rfl rfl ?_
    obtain ⟨g6, h⟩ := gd_some h
    refine x_getI (ci := 11) (k := 0) dX11_places_31 lf_RX11_111 rfl g6 ?_
    refine x_aload_n (j := 0) (i := 0) dX11_places_34 rfl rfl ?_
    refine x_getI (ci := 11) (k := 1) dX11_places_35 lf_RX11_114 rfl g6 ?_
    refine x_imul dX11_places_38 ?_
    refine x_icmp_ge (tgt := 81) dX11_places_39 (by decide) (fun hc7 => ?_) (fun hc7 => ?_)
    · rw [if_pos hc7] at h
      refine x_iload_n (j := 2) (i := 2) dX11_places_81 rfl rfl ?_
      obtain ⟨hr9, hw9⟩ := Prod.mk.inj (Option.some.inj h)
      subst hw9
      subst hr9
      exact x_iret dX11_places_82 rfl rfl
    · rw [if_neg hc7] at h
      refine x_iload_n (j := 2) (i := 2) dX11_places_42 rfl rfl ?_
      refine x_aload_n (j := 0) (i := 0) dX11_places_43 rfl rfl ?_
      refine x_getR (ci := 11) (k := 49) dX11_places_44 lf_RX11_108 rfl g6 ?_
      refine x_iload_n (j := 3) (i := 3) dX11_places_47 rfl rfl ?_
      obtain ⟨g8, h⟩ := gd_some h
      obtain ⟨g9, h⟩ := gd_some h
      refine x_iald dX11_places_48 g8 g9 ?_
      refine x_iconst (v := -1) dX11_places_49 (by decide) ?_
      refine x_icmp_eq (tgt := 72) dX11_places_50 (by decide) (fun hc10 => ?_) (fun hc10 => ?_)
      · rw [if_pos hc10] at h
        refine x_iconst (v := 0) dX11_places_72 (by decide) ?_
        refine x_iadd dX11_places_73 ?_
        refine x_istore_n (i := 2) (lv2 := [(2, xI (x2 + (0 : Int32))), (0, xR x0), (1, xI x1), (3, xI x3)]) dX11_places_74 rfl (by decide) rfl ?_
        refine x_iinc (j := 3) (i := 3) (v := x3 + (1 : Int32)) (lv2 := [(3, xI (x3 + (1 : Int32))), (2, xI (x2 + (0 : Int32))), (0, xR x0), (1, xI x1)]) dX11_places_75 rfl rfl (by decide) rfl ?_
        refine x_goto (tgt := 29) dX11_places_78 (by decide) ?_
        refine x_lv (lv2 := [(0, xR x0), (1, xI x1), (2, xI (x2 + (0 : Int32))), (3, xI (x3 + (1 : Int32)))]) [2, 3, 1, 0] rfl ?_
        exact ih x0 x1 (x2 + (0 : Int32)) (x3 + (1 : Int32)) w h
      · rw [if_neg hc10] at h
        refine x_aload_n (j := 0) (i := 0) dX11_places_53 rfl rfl ?_
        refine x_getR (ci := 11) (k := 49) dX11_places_54 lf_RX11_108 rfl g6 ?_
        refine x_iload_n (j := 3) (i := 3) dX11_places_57 rfl rfl ?_
        refine x_iald dX11_places_58 g8 g9 ?_
        refine x_iload_n (j := 1) (i := 1) dX11_places_59 rfl rfl ?_
        refine x_aload_n (j := 0) (i := 0) dX11_places_60 rfl rfl ?_
        refine x_getI (ci := 11) (k := 38) dX11_places_61 lf_RX11_272 rfl g6 ?_
        refine x_isub dX11_places_64 ?_
        refine x_icmp_gt (tgt := 72) dX11_places_65 (by decide) (fun hc11 => ?_) (fun hc11 => ?_)
        · rw [if_pos hc11] at h
          refine x_iconst (v := 0) dX11_places_72 (by decide) ?_
          refine x_iadd dX11_places_73 ?_
          refine x_istore_n (i := 2) (lv2 := [(2, xI (x2 + (0 : Int32))), (0, xR x0), (1, xI x1), (3, xI x3)]) dX11_places_74 rfl (by decide) rfl ?_
          refine x_iinc (j := 3) (i := 3) (v := x3 + (1 : Int32)) (lv2 := [(3, xI (x3 + (1 : Int32))), (2, xI (x2 + (0 : Int32))), (0, xR x0), (1, xI x1)]) dX11_places_75 rfl rfl (by decide) rfl ?_
          refine x_goto (tgt := 29) dX11_places_78 (by decide) ?_
          refine x_lv (lv2 := [(0, xR x0), (1, xI x1), (2, xI (x2 + (0 : Int32))), (3, xI (x3 + (1 : Int32)))]) [2, 3, 1, 0] rfl ?_
          exact ih x0 x1 (x2 + (0 : Int32)) (x3 + (1 : Int32)) w h
        · rw [if_neg hc11] at h
          refine x_iconst (v := 1) dX11_places_68 (by decide) ?_
          refine x_goto (tgt := 73) dX11_places_69 (by decide) ?_
          refine x_iadd dX11_places_73 ?_
          refine x_istore_n (i := 2) (lv2 := [(2, xI (x2 + (1 : Int32))), (0, xR x0), (1, xI x1), (3, xI x3)]) dX11_places_74 rfl (by decide) rfl ?_
          refine x_iinc (j := 3) (i := 3) (v := x3 + (1 : Int32)) (lv2 := [(3, xI (x3 + (1 : Int32))), (2, xI (x2 + (1 : Int32))), (0, xR x0), (1, xI x1)]) dX11_places_75 rfl rfl (by decide) rfl ?_
          refine x_goto (tgt := 29) dX11_places_78 (by decide) ?_
          refine x_lv (lv2 := [(0, xR x0), (1, xI x1), (2, xI (x2 + (1 : Int32))), (3, xI (x3 + (1 : Int32)))]) [2, 3, 1, 0] rfl ?_
          exact ih x0 x1 (x2 + (1 : Int32)) (x3 + (1 : Int32)) w h
set_option maxRecDepth 20000 in
theorem c_X11_places (x0 : Nat) (x1 : Int32) (w : xSt) (rE : Int32) (wE : xSt) (h : f_X11_places x0 x1 w = some (rE, wE)) : xCall yX11_places cX11_places 4 (some .int) 5 0 0 [xR x0, xI x1] w (some (xI rE), wE) := by
  refine xCall_of false (by decide) (fun q => nomatch q) (Nat.le_of_ble_eq_true rfl) ?_
  show xX cX11_places 4 (some .int) RX11 false (xRm 5 0 0) (xZf (some (xI rE), wE) 0 0) 0 [(0, xR x0), (1, xI x1)] [] w 0 0
  unfold f_X11_places at h
  refine x_aload_n (j := 0) (i := 0) dX11_places_0 rfl rfl ?_
  obtain ⟨g1, h⟩ := gd_some h
  refine x_getI (ci := 11) (k := 36) dX11_places_1 lf_RX11_269 rfl g1 ?_
  refine x_if_ne (tgt := 10) dX11_places_4 (by decide) (fun hc2 => ?_) (fun hc2 => ?_)
  · rw [if_neg hc2] at h
    refine x_iload_n (j := 1) (i := 1) dX11_places_10 rfl rfl ?_
    refine x_aload_n (j := 0) (i := 0) dX11_places_11 rfl rfl ?_
    refine x_getI (ci := 11) (k := 38) dX11_places_12 lf_RX11_272 rfl g1 ?_
    refine x_icmp_ge (tgt := 21) dX11_places_15 (by decide) (fun hc3 => ?_) (fun hc3 => ?_)
    · rw [if_pos hc3] at h
      refine x_aload_n (j := 0) (i := 0) dX11_places_21 rfl rfl ?_
      obtain ⟨_u, w4, hc5, h⟩ := bd_s h
      refine x_callVV (ci := 11) dX11_places_22 ml_RX11_278 mb_X11_looks (c_X11_looks x0 w _u w4 hc5) ⟨_, rfl, rfl⟩ g1 [] rfl rfl (Nat.le_of_ble_eq_true rfl) (by decide) (by decide) ?_
      refine x_iconst (v := 0) dX11_places_25 (by decide) ?_
      refine x_istore_n (i := 2) (lv2 := [(2, xI (0 : Int32)), (0, xR x0), (1, xI x1)]) dX11_places_26 rfl (by decide) rfl ?_
      refine x_iconst (v := 0) dX11_places_27 (by decide) ?_
      refine x_istore_n (i := 3) (lv2 := [(3, xI (0 : Int32)), (2, xI (0 : Int32)), (0, xR x0), (1, xI x1)]) dX11_places_28 rfl (by decide) rfl ?_
      refine x_lv (lv2 := [(0, xR x0), (1, xI x1), (2, xI (0 : Int32)), (3, xI (0 : Int32))]) [2, 3, 1, 0] rfl ?_
      exact k_X11_places_l29 rE wE xFu x0 x1 (0 : Int32) (0 : Int32) w4 h
    · rw [if_neg hc3] at h
      refine x_bipush (v := -2) dX11_places_18 (by decide) ?_
      obtain ⟨hr9, hw9⟩ := Prod.mk.inj (Option.some.inj h)
      subst hw9
      subst hr9
      exact x_iret dX11_places_20 rfl rfl
  · rw [if_pos hc2] at h
    refine x_bipush (v := -3) dX11_places_7 (by decide) ?_
    obtain ⟨hr9, hw9⟩ := Prod.mk.inj (Option.some.inj h)
    subst hw9
    subst hr9
    exact x_iret dX11_places_9 rfl rfl
set_option maxRecDepth 20000 in
theorem c_X11_found (x0 : Nat) (w : xSt) (rE : Int32) (wE : xSt) (h : f_X11_found x0 w = some (rE, wE)) : xCall yX11_found cX11_found 2 (some .int) 0 0 0 [xR x0] w (some (xI rE), wE) := by
  refine xCall_of false (by decide) (fun q => nomatch q) (Nat.le_of_ble_eq_true rfl) ?_
  show xX cX11_found 2 (some .int) RX11 false (xRm 0 0 0) (xZf (some (xI rE), wE) 0 0) 0 [(0, xR x0)] [] w 0 0
  unfold f_X11_found at h
  refine x_aload_n (j := 0) (i := 0) dX11_found_0 rfl rfl ?_
  obtain ⟨g1, h⟩ := gd_some h
  refine x_getI (ci := 11) (k := 36) dX11_found_1 lf_RX11_269 rfl g1 ?_
  refine x_istore_n (i := 1) (lv2 := [(1, xI (wI w x0 36)), (0, xR x0)]) dX11_found_4 rfl (by decide) rfl ?_
  refine x_aload_n (j := 1) (i := 0) dX11_found_5 rfl rfl ?_
  refine x_iconst (v := 0) dX11_found_6 (by decide) ?_
  obtain ⟨w2, hw3, h⟩ := lt1_some h
  refine x_putI (ci := 11) (k := 36) dX11_found_7 (lw_RX11_269_w _) rfl g1 ?_
  rw [← hw3]
  refine x_iload_n (j := 0) (i := 1) dX11_found_10 rfl rfl ?_
  obtain ⟨hr9, hw9⟩ := Prod.mk.inj (Option.some.inj h)
  subst hw9
  subst hr9
  exact x_iret dX11_found_11 rfl rfl
set_option maxRecDepth 20000 in
theorem c_X11_sell (x0 : Nat) (x1 : Int32) (x2 : Int32) (w : xSt) (rE : Int32) (wE : xSt) (h : f_X11_sell x0 x1 x2 w = some (rE, wE)) : xCall yX11_sell cX11_sell 3 (some .int) 2 0 0 [xR x0, xI x1, xI x2] w (some (xI rE), wE) := by
  refine xCall_of false (by decide) (fun q => nomatch q) (Nat.le_of_ble_eq_true rfl) ?_
  show xX cX11_sell 3 (some .int) RX11 false (xRm 2 0 0) (xZf (some (xI rE), wE) 0 0) 0 [(0, xR x0), (1, xI x1), (2, xI x2)] [] w 0 0
  unfold f_X11_sell at h
  refine x_aload_n (j := 0) (i := 0) dX11_sell_0 rfl rfl ?_
  refine x_iload_n (j := 1) (i := 1) dX11_sell_1 rfl rfl ?_
  obtain ⟨g4, h⟩ := gd_some h
  obtain ⟨v1, w2, hc3, h⟩ := bd_s h
  refine x_callVI (ci := 11) dX11_sell_2 ml_RX11_124 mb_X11_isStand (c_X11_isStand x0 x1 w v1 w2 hc3) ⟨_, rfl, rfl⟩ g4 [] rfl rfl (Nat.le_of_ble_eq_true rfl) (by decide) (by decide) ?_
  refine x_if_ne (tgt := 10) dX11_sell_5 (by decide) (fun hc5 => ?_) (fun hc5 => ?_)
  · rw [if_neg hc5] at h
    refine x_iload_n (j := 2) (i := 2) dX11_sell_10 rfl rfl ?_
    refine x_iconst (v := 0) dX11_sell_11 (by decide) ?_
    refine x_sipush (v := 999) dX11_sell_12 (by decide) ?_
    obtain ⟨v6, w7, hc8, h⟩ := bd_s h
    refine x_callSI dX11_sell_15 ml_RX11_117 mb_X11_in (c_X11_in x2 (0 : Int32) (999 : Int32) w2 v6 w7 hc8) [] rfl rfl (Nat.le_of_ble_eq_true rfl) (by decide) (by decide) ?_
    refine x_if_ne (tgt := 24) dX11_sell_18 (by decide) (fun hc9 => ?_) (fun hc9 => ?_)
    · rw [if_neg hc9] at h
      refine x_aload_n (j := 0) (i := 0) dX11_sell_24 rfl rfl ?_
      obtain ⟨g10, h⟩ := gd_some h
      refine x_getR (ci := 11) (k := 13) dX11_sell_25 lf_RX11_41 rfl g10 ?_
      refine x_iload_n (j := 1) (i := 1) dX11_sell_28 rfl rfl ?_
      obtain ⟨g11, h⟩ := gd_some h
      obtain ⟨g12, h⟩ := gd_some h
      refine x_iald dX11_sell_29 g11 g12 ?_
      refine x_iconst (v := -1) dX11_sell_30 (by decide) ?_
      refine x_icmp_ne (tgt := 43) dX11_sell_31 (by decide) (fun hc13 => ?_) (fun hc13 => ?_)
      · rw [if_neg hc13] at h
        refine x_bipush (v := -3) dX11_sell_43 (by decide) ?_
        obtain ⟨hr9, hw9⟩ := Prod.mk.inj (Option.some.inj h)
        subst hw9
        subst hr9
        exact x_iret dX11_sell_45 rfl rfl
      · rw [if_pos hc13] at h
        refine x_aload_n (j := 0) (i := 0) dX11_sell_34 rfl rfl ?_
        refine x_getR (ci := 11) (k := 14) dX11_sell_35 lf_RX11_44 rfl g10 ?_
        refine x_iload_n (j := 1) (i := 1) dX11_sell_38 rfl rfl ?_
        obtain ⟨g14, h⟩ := gd_some h
        obtain ⟨g15, h⟩ := gd_some h
        refine x_zald dX11_sell_39 g14 g15 ?_
        refine x_if_ne (tgt := 46) dX11_sell_40 (by decide) (fun hc16 => ?_) (fun hc16 => ?_)
        · rw [if_neg hc16] at h
          refine x_aload_n (j := 0) (i := 0) dX11_sell_46 rfl rfl ?_
          refine x_getR (ci := 11) (k := 13) dX11_sell_47 lf_RX11_41 rfl g10 ?_
          refine x_iload_n (j := 1) (i := 1) dX11_sell_50 rfl rfl ?_
          refine x_iload_n (j := 2) (i := 2) dX11_sell_51 rfl rfl ?_
          obtain ⟨w17, hw18, h⟩ := lt1_some h
          refine x_iast dX11_sell_52 g11 g12 ?_
          rw [← hw18]
          refine x_iconst (v := 0) dX11_sell_53 (by decide) ?_
          obtain ⟨hr9, hw9⟩ := Prod.mk.inj (Option.some.inj h)
          subst hw9
          subst hr9
          exact x_iret dX11_sell_54 rfl rfl
        · rw [if_pos hc16] at h
          refine x_bipush (v := -3) dX11_sell_43 (by decide) ?_
          obtain ⟨hr9, hw9⟩ := Prod.mk.inj (Option.some.inj h)
          subst hw9
          subst hr9
          exact x_iret dX11_sell_45 rfl rfl
    · rw [if_pos hc9] at h
      refine x_bipush (v := -2) dX11_sell_21 (by decide) ?_
      obtain ⟨hr9, hw9⟩ := Prod.mk.inj (Option.some.inj h)
      subst hw9
      subst hr9
      exact x_iret dX11_sell_23 rfl rfl
  · rw [if_pos hc5] at h
    refine x_iconst (v := -1) dX11_sell_8 (by decide) ?_
    obtain ⟨hr9, hw9⟩ := Prod.mk.inj (Option.some.inj h)
    subst hw9
    subst hr9
    exact x_iret dX11_sell_9 rfl rfl
set_option maxRecDepth 20000 in
theorem c_X11_hand (x0 : Nat) (x1 : Int32) (w : xSt) (rE : Int32) (wE : xSt) (h : f_X11_hand x0 x1 w = some (rE, wE)) : xCall yX11_hand cX11_hand 2 (some .int) 2 0 0 [xR x0, xI x1] w (some (xI rE), wE) := by
  refine xCall_of false (by decide) (fun q => nomatch q) (Nat.le_of_ble_eq_true rfl) ?_
  show xX cX11_hand 2 (some .int) RX11 false (xRm 2 0 0) (xZf (some (xI rE), wE) 0 0) 0 [(0, xR x0), (1, xI x1)] [] w 0 0
  unfold f_X11_hand at h
  refine x_aload_n (j := 0) (i := 0) dX11_hand_0 rfl rfl ?_
  refine x_iload_n (j := 1) (i := 1) dX11_hand_1 rfl rfl ?_
  obtain ⟨g4, h⟩ := gd_some h
  obtain ⟨v1, w2, hc3, h⟩ := bd_s h
  refine x_callVI (ci := 11) dX11_hand_2 ml_RX11_124 mb_X11_isStand (c_X11_isStand x0 x1 w v1 w2 hc3) ⟨_, rfl, rfl⟩ g4 [] rfl rfl (Nat.le_of_ble_eq_true rfl) (by decide) (by decide) ?_
  refine x_if_ne (tgt := 10) dX11_hand_5 (by decide) (fun hc5 => ?_) (fun hc5 => ?_)
  · rw [if_neg hc5] at h
    refine x_aload_n (j := 0) (i := 0) dX11_hand_10 rfl rfl ?_
    obtain ⟨g6, h⟩ := gd_some h
    refine x_getR (ci := 11) (k := 13) dX11_hand_11 lf_RX11_41 rfl g6 ?_
    refine x_iload_n (j := 1) (i := 1) dX11_hand_14 rfl rfl ?_
    obtain ⟨g7, h⟩ := gd_some h
    obtain ⟨g8, h⟩ := gd_some h
    refine x_iald dX11_hand_15 g7 g8 ?_
    refine x_iconst (v := -1) dX11_hand_16 (by decide) ?_
    refine x_icmp_eq (tgt := 40) dX11_hand_17 (by decide) (fun hc9 => ?_) (fun hc9 => ?_)
    · rw [if_pos hc9] at h
      refine x_bipush (v := -3) dX11_hand_40 (by decide) ?_
      obtain ⟨hr9, hw9⟩ := Prod.mk.inj (Option.some.inj h)
      subst hw9
      subst hr9
      exact x_iret dX11_hand_42 rfl rfl
    · rw [if_neg hc9] at h
      refine x_aload_n (j := 0) (i := 0) dX11_hand_20 rfl rfl ?_
      refine x_getR (ci := 11) (k := 15) dX11_hand_21 lf_RX11_48 rfl g6 ?_
      refine x_iload_n (j := 1) (i := 1) dX11_hand_24 rfl rfl ?_
      obtain ⟨g10, h⟩ := gd_some h
      obtain ⟨g11, h⟩ := gd_some h
      refine x_zald dX11_hand_25 g10 g11 ?_
      refine x_if_ne (tgt := 40) dX11_hand_26 (by decide) (fun hc12 => ?_) (fun hc12 => ?_)
      · rw [if_neg hc12] at h
        refine x_bipush (v := -3) dX11_hand_40 (by decide) ?_
        obtain ⟨hr9, hw9⟩ := Prod.mk.inj (Option.some.inj h)
        subst hw9
        subst hr9
        exact x_iret dX11_hand_42 rfl rfl
      · rw [if_pos hc12] at h
        refine x_aload_n (j := 0) (i := 0) dX11_hand_29 rfl rfl ?_
        refine x_getI (ci := 11) (k := 30) dX11_hand_30 lf_RX11_263 rfl g6 ?_
        refine x_aload_n (j := 0) (i := 0) dX11_hand_33 rfl rfl ?_
        refine x_getI (ci := 11) (k := 39) dX11_hand_34 lf_RX11_90 rfl g6 ?_
        refine x_icmp_ge (tgt := 43) dX11_hand_37 (by decide) (fun hc13 => ?_) (fun hc13 => ?_)
        · rw [if_pos hc13] at h
          refine x_aload_n (j := 0) (i := 0) dX11_hand_43 rfl rfl ?_
          refine x_getR (ci := 11) (k := 14) dX11_hand_44 lf_RX11_44 rfl g6 ?_
          refine x_iload_n (j := 1) (i := 1) dX11_hand_47 rfl rfl ?_
          refine x_iconst (v := 0) dX11_hand_48 (by decide) ?_
          obtain ⟨g14, h⟩ := gd_some h
          obtain ⟨g15, h⟩ := gd_some h
          obtain ⟨w16, hw17, h⟩ := lt1_some h
          refine x_zast dX11_hand_49 g14 g15 ?_
          rw [← hw17]
          refine x_aload_n (j := 0) (i := 0) dX11_hand_50 rfl rfl ?_
          have g18 : isC w16 x0 11 := by rw [hw17]; exact g6
          refine x_getR (ci := 11) (k := 12) dX11_hand_51 lf_RX11_38 rfl g18 ?_
          refine x_iload_n (j := 1) (i := 1) dX11_hand_54 rfl rfl ?_
          refine x_iconst (v := -1) dX11_hand_55 (by decide) ?_
          obtain ⟨g19, h⟩ := gd_some h
          obtain ⟨g20, h⟩ := gd_some h
          obtain ⟨w21, hw22, h⟩ := lt1_some h
          refine x_iast dX11_hand_56 g19 g20 ?_
          rw [← hw22]
          refine x_aload_n (j := 0) (i := 0) dX11_hand_57 rfl rfl ?_
          have g23 : isC w21 x0 11 := by rw [hw22]; exact g18
          refine x_getR (ci := 11) (k := 15) dX11_hand_58 lf_RX11_48 rfl g23 ?_
          refine x_iload_n (j := 1) (i := 1) dX11_hand_61 rfl rfl ?_
          refine x_iconst (v := 1) dX11_hand_62 (by decide) ?_
          obtain ⟨g24, h⟩ := gd_some h
          obtain ⟨g25, h⟩ := gd_some h
          obtain ⟨w26, hw27, h⟩ := lt1_some h
          refine x_zast dX11_hand_63 g24 g25 ?_
          rw [← hw27]
          refine x_aload_n (j := 0) (i := 0) dX11_hand_64 rfl rfl ?_
          have g28 : isC w26 x0 11 := by rw [hw27]; exact g23
          refine x_getR (ci := 11) (k := 13) dX11_hand_65 lf_RX11_41 rfl g28 ?_
          refine x_iload_n (j := 1) (i := 1) dX11_hand_68 rfl rfl ?_
          obtain ⟨g29, h⟩ := gd_some h
          obtain ⟨g30, h⟩ := gd_some h
          refine x_iald dX11_hand_69 g29 g30 ?_
          obtain ⟨hr9, hw9⟩ := Prod.mk.inj (Option.some.inj h)
          subst hw9
          subst hr9
          exact x_iret dX11_hand_70 rfl rfl
        · rw [if_neg hc13] at h
          refine x_bipush (v := -3) dX11_hand_40 (by decide) ?_
          obtain ⟨hr9, hw9⟩ := Prod.mk.inj (Option.some.inj h)
          subst hw9
          subst hr9
          exact x_iret dX11_hand_42 rfl rfl
  · rw [if_pos hc5] at h
    refine x_iconst (v := -1) dX11_hand_8 (by decide) ?_
    obtain ⟨hr9, hw9⟩ := Prod.mk.inj (Option.some.inj h)
    subst hw9
    subst hr9
    exact x_iret dX11_hand_9 rfl rfl
set_option maxRecDepth 20000 in
theorem c_X11_end (x0 : Nat) (x1 : Int32) (w : xSt) (rE : Int32) (wE : xSt) (h : f_X11_end x0 x1 w = some (rE, wE)) : xCall yX11_end cX11_end 3 (some .int) 1 0 0 [xR x0, xI x1] w (some (xI rE), wE) := by
  refine xCall_of false (by decide) (fun q => nomatch q) (Nat.le_of_ble_eq_true rfl) ?_
  show xX cX11_end 3 (some .int) RX11 false (xRm 1 0 0) (xZf (some (xI rE), wE) 0 0) 0 [(0, xR x0), (1, xI x1)] [] w 0 0
  unfold f_X11_end at h
  refine x_iload_n (j := 1) (i := 1) dX11_end_0 rfl rfl ?_
  refine x_iconst (v := 0) dX11_end_1 (by decide) ?_
  refine x_sipush (v := 999) dX11_end_2 (by decide) ?_
  obtain ⟨v1, w2, hc3, h⟩ := bd_s h
  refine x_callSI dX11_end_5 ml_RX11_117 mb_X11_in (c_X11_in x1 (0 : Int32) (999 : Int32) w v1 w2 hc3) [] rfl rfl (Nat.le_of_ble_eq_true rfl) (by decide) (by decide) ?_
  refine x_if_ne (tgt := 14) dX11_end_8 (by decide) (fun hc4 => ?_) (fun hc4 => ?_)
  · rw [if_neg hc4] at h
    refine x_aload_n (j := 0) (i := 0) dX11_end_14 rfl rfl ?_
    obtain ⟨g5, h⟩ := gd_some h
    refine x_getI (ci := 11) (k := 39) dX11_end_15 lf_RX11_90 rfl g5 ?_
    refine x_istore_n (i := 2) (lv2 := [(2, xI (wI w2 x0 39)), (0, xR x0), (1, xI x1)]) dX11_end_18 rfl (by decide) rfl ?_
    refine x_aload_n (j := 1) (i := 0) dX11_end_19 rfl rfl ?_
    refine x_iload_n (j := 2) (i := 1) dX11_end_20 rfl rfl ?_
    obtain ⟨w6, hw7, h⟩ := lt1_some h
    refine x_putI (ci := 11) (k := 39) dX11_end_21 (lw_RX11_90_w _) rfl g5 ?_
    rw [← hw7]
    refine x_iload_n (j := 0) (i := 2) dX11_end_24 rfl rfl ?_
    obtain ⟨hr9, hw9⟩ := Prod.mk.inj (Option.some.inj h)
    subst hw9
    subst hr9
    exact x_iret dX11_end_25 rfl rfl
  · rw [if_pos hc4] at h
    refine x_bipush (v := -2) dX11_end_11 (by decide) ?_
    obtain ⟨hr9, hw9⟩ := Prod.mk.inj (Option.some.inj h)
    subst hw9
    subst hr9
    exact x_iret dX11_end_13 rfl rfl

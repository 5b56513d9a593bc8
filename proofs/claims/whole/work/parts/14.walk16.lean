set_option maxRecDepth 20000 in
theorem k_X11_floods_b139 (k65 : Nat → Int32 → Int32 → xSt → Option (Unit × xSt)) (rE : Unit) (wE : xSt) (hk65 : ∀ (x0 : Nat) (x1 : Int32) (x2 : Int32) (w : xSt), k65 x0 x1 x2 w = some (rE, wE) → xX cX11_floods 4 none RX11 false (xRm 4 0 0) (xZf (none, wE) 0 0) 65 [(0, xR x0), (1, xI x1), (2, xI x2)] [] w 0 0) (x0 : Nat) (x1 : Int32) (x2 : Int32) (x3 : Int32) (w : xSt) (h : f_X11_floods_b139 k65 x0 x1 x2 x3 w = some (rE, wE)) : xX cX11_floods 4 none RX11 false (xRm 4 0 0) (xZf (none, wE) 0 0) 139 [(0, xR x0), (1, xI x1), (2, xI x2), (3, xI x3)] [] w 0 0 := by
  unfold f_X11_floods_b139 at h
  refine x_iload_n (j := 3) (i := 3) dX11_floods_139 rfl rfl ?_
  refine x_aload_n (j := 0) (i := 0) dX11_floods_140 rfl rfl ?_
  obtain ⟨g34, h⟩ := gd_some h
  refine x_getI (ci := 11) (k := 0) dX11_floods_141 lf_RX11_111 rfl g34 ?_
  refine x_aload_n (j := 0) (i := 0) dX11_floods_144 rfl rfl ?_
  refine x_getI (ci := 11) (k := 1) dX11_floods_145 lf_RX11_114 rfl g34 ?_
  refine x_iconst (v := 1) dX11_floods_148 (by decide) ?_
  refine x_isub dX11_floods_149 ?_
  refine x_imul dX11_floods_150 ?_
  refine x_icmp_ge (tgt := 165) dX11_floods_151 (by decide) (fun hc35 => ?_) (fun hc35 => ?_)
  · rw [if_pos hc35] at h
    refine x_iinc (j := 2) (i := 2) (v := x2 + (1 : Int32)) (lv2 := [(2, xI (x2 + (1 : Int32))), (0, xR x0), (1, xI x1), (3, xI x3)]) dX11_floods_165 rfl rfl (by decide) rfl ?_
    refine x_goto (tgt := 65) dX11_floods_168 (by decide) ?_
    refine x_lv (lv2 := [(0, xR x0), (1, xI x1), (2, xI (x2 + (1 : Int32)))]) [1, 2, 0] rfl ?_
    exact hk65 x0 x1 (x2 + (1 : Int32)) w h
  · rw [if_neg hc35] at h
    refine x_aload_n (j := 0) (i := 0) dX11_floods_154 rfl rfl ?_
    refine x_iload_n (j := 3) (i := 3) dX11_floods_155 rfl rfl ?_
    refine x_aload_n (j := 0) (i := 0) dX11_floods_156 rfl rfl ?_
    refine x_getI (ci := 11) (k := 0) dX11_floods_157 lf_RX11_111 rfl g34 ?_
    refine x_iadd dX11_floods_160 ?_
    refine x_iload_n (j := 1) (i := 1) dX11_floods_161 rfl rfl ?_
    obtain ⟨_u, w36, hc37, h⟩ := bd_s h
    refine x_callVV (ci := 11) dX11_floods_162 ml_RX11_195 mb_X11_reaches (c_X11_reaches x0 (x3 + (wI w x0 0)) x1 w _u w36 hc37) ⟨_, rfl, rfl⟩ g34 [] rfl rfl (Nat.le_of_ble_eq_true rfl) (by decide) (by decide) ?_
    refine x_iinc (j := 2) (i := 2) (v := x2 + (1 : Int32)) (lv2 := [(2, xI (x2 + (1 : Int32))), (0, xR x0), (1, xI x1), (3, xI x3)]) dX11_floods_165 rfl rfl (by decide) rfl ?_
    refine x_goto (tgt := 65) dX11_floods_168 (by decide) ?_
    refine x_lv (lv2 := [(0, xR x0), (1, xI x1), (2, xI (x2 + (1 : Int32)))]) [1, 2, 0] rfl ?_
    exact hk65 x0 x1 (x2 + (1 : Int32)) w36 h
set_option maxRecDepth 20000 in
theorem k_X11_floods_b120 (k65 : Nat → Int32 → Int32 → xSt → Option (Unit × xSt)) (rE : Unit) (wE : xSt) (hk65 : ∀ (x0 : Nat) (x1 : Int32) (x2 : Int32) (w : xSt), k65 x0 x1 x2 w = some (rE, wE) → xX cX11_floods 4 none RX11 false (xRm 4 0 0) (xZf (none, wE) 0 0) 65 [(0, xR x0), (1, xI x1), (2, xI x2)] [] w 0 0) (x0 : Nat) (x1 : Int32) (x2 : Int32) (x3 : Int32) (w : xSt) (h : f_X11_floods_b120 k65 x0 x1 x2 x3 w = some (rE, wE)) : xX cX11_floods 4 none RX11 false (xRm 4 0 0) (xZf (none, wE) 0 0) 120 [(0, xR x0), (1, xI x1), (2, xI x2), (3, xI x3)] [] w 0 0 := by
  unfold f_X11_floods_b120 at h
  refine x_iload_n (j := 3) (i := 3) dX11_floods_120 rfl rfl ?_
  refine x_aload_n (j := 0) (i := 0) dX11_floods_121 rfl rfl ?_
  obtain ⟨g30, h⟩ := gd_some h
  refine x_getI (ci := 11) (k := 0) dX11_floods_122 lf_RX11_111 rfl g30 ?_
  refine x_icmp_lt (tgt := 139) dX11_floods_125 (by decide) (fun hc31 => ?_) (fun hc31 => ?_)
  · rw [if_pos hc31] at h
    refine x_lv (lv2 := [(0, xR x0), (1, xI x1), (2, xI x2), (3, xI x3)]) [0, 1, 2, 3] rfl ?_
    exact k_X11_floods_b139 k65 rE wE hk65 x0 x1 x2 x3 w h
  · rw [if_neg hc31] at h
    refine x_aload_n (j := 0) (i := 0) dX11_floods_128 rfl rfl ?_
    refine x_iload_n (j := 3) (i := 3) dX11_floods_129 rfl rfl ?_
    refine x_aload_n (j := 0) (i := 0) dX11_floods_130 rfl rfl ?_
    refine x_getI (ci := 11) (k := 0) dX11_floods_131 lf_RX11_111 rfl g30 ?_
    refine x_isub dX11_floods_134 ?_
    refine x_iload_n (j := 1) (i := 1) dX11_floods_135 rfl rfl ?_
    obtain ⟨_u, w32, hc33, h⟩ := bd_s h
    refine x_callVV (ci := 11) dX11_floods_136 ml_RX11_195 mb_X11_reaches (c_X11_reaches x0 (x3 - (wI w x0 0)) x1 w _u w32 hc33) ⟨_, rfl, rfl⟩ g30 [] rfl rfl (Nat.le_of_ble_eq_true rfl) (by decide) (by decide) ?_
    refine x_lv (lv2 := [(0, xR x0), (1, xI x1), (2, xI x2), (3, xI x3)]) [0, 1, 2, 3] rfl ?_
    exact k_X11_floods_b139 k65 rE wE hk65 x0 x1 x2 x3 w32 h
set_option maxRecDepth 20000 in
theorem k_X11_floods_b97 (k65 : Nat → Int32 → Int32 → xSt → Option (Unit × xSt)) (rE : Unit) (wE : xSt) (hk65 : ∀ (x0 : Nat) (x1 : Int32) (x2 : Int32) (w : xSt), k65 x0 x1 x2 w = some (rE, wE) → xX cX11_floods 4 none RX11 false (xRm 4 0 0) (xZf (none, wE) 0 0) 65 [(0, xR x0), (1, xI x1), (2, xI x2)] [] w 0 0) (x0 : Nat) (x1 : Int32) (x2 : Int32) (x3 : Int32) (w : xSt) (h : f_X11_floods_b97 k65 x0 x1 x2 x3 w = some (rE, wE)) : xX cX11_floods 4 none RX11 false (xRm 4 0 0) (xZf (none, wE) 0 0) 97 [(0, xR x0), (1, xI x1), (2, xI x2), (3, xI x3)] [] w 0 0 := by
  unfold f_X11_floods_b97 at h
  refine x_iload_n (j := 3) (i := 3) dX11_floods_97 rfl rfl ?_
  refine x_aload_n (j := 0) (i := 0) dX11_floods_98 rfl rfl ?_
  obtain ⟨g25, h⟩ := gd_some h
  refine x_getI (ci := 11) (k := 0) dX11_floods_99 lf_RX11_111 rfl g25 ?_
  obtain ⟨g26, h⟩ := gd_some h
  refine x_irem dX11_floods_102 g26 ?_
  refine x_aload_n (j := 0) (i := 0) dX11_floods_103 rfl rfl ?_
  refine x_getI (ci := 11) (k := 0) dX11_floods_104 lf_RX11_111 rfl g25 ?_
  refine x_iconst (v := 1) dX11_floods_107 (by decide) ?_
  refine x_isub dX11_floods_108 ?_
  refine x_icmp_ge (tgt := 120) dX11_floods_109 (by decide) (fun hc27 => ?_) (fun hc27 => ?_)
  · rw [if_pos hc27] at h
    refine x_lv (lv2 := [(0, xR x0), (1, xI x1), (2, xI x2), (3, xI x3)]) [0, 1, 2, 3] rfl ?_
    exact k_X11_floods_b120 k65 rE wE hk65 x0 x1 x2 x3 w h
  · rw [if_neg hc27] at h
    refine x_aload_n (j := 0) (i := 0) dX11_floods_112 rfl rfl ?_
    refine x_iload_n (j := 3) (i := 3) dX11_floods_113 rfl rfl ?_
    refine x_iconst (v := 1) dX11_floods_114 (by decide) ?_
    refine x_iadd dX11_floods_115 ?_
    refine x_iload_n (j := 1) (i := 1) dX11_floods_116 rfl rfl ?_
    obtain ⟨_u, w28, hc29, h⟩ := bd_s h
    refine x_callVV (ci := 11) dX11_floods_117 ml_RX11_195 mb_X11_reaches (c_X11_reaches x0 (x3 + (1 : Int32)) x1 w _u w28 hc29) ⟨_, rfl, rfl⟩ g25 [] rfl rfl (Nat.le_of_ble_eq_true rfl) (by decide) (by decide) ?_
    refine x_lv (lv2 := [(0, xR x0), (1, xI x1), (2, xI x2), (3, xI x3)]) [0, 1, 2, 3] rfl ?_
    exact k_X11_floods_b120 k65 rE wE hk65 x0 x1 x2 x3 w28 h
set_option maxRecDepth 20000 in
theorem k_X11_floods_l65 (rE : Unit) (wE : xSt) : ∀ (n : Nat) (x0 : Nat) (x1 : Int32) (x2 : Int32) (w : xSt), f_X11_floods_l65 n x0 x1 x2 w = some (rE, wE) → xX cX11_floods 4 none RX11 false (xRm 4 0 0) (xZf (none, wE) 0 0) 65 [(0, xR x0), (1, xI x1), (2, xI x2)] [] w 0 0 := by
  intro n
  induction n with
  | zero => intro x0 x1 x2 w h; exact nomatch (show (none : Option (Unit × xSt)) = some (rE, wE) from h)
  | succ n ih =>
    intro x0 x1 x2 w h
    rw [f_X11_floods_l65_s] at h
    refine x_iload_n (j := 2) (i := 2) dX11_floods_65 rfl rfl ?_
    refine x_aload_n (j := 0) (i := 0) dX11_floods_66 rfl rfl ?_
    obtain ⟨g17, h⟩ := gd_some h
    refine x_getI (ci := 11) (k := 42) dX11_floods_67 lf_RX11_192 rfl g17 ?_
    refine x_icmp_ge (tgt := 171) dX11_floods_70 (by decide) (fun hc18 => ?_) (fun hc18 => ?_)
    · rw [if_pos hc18] at h
      obtain ⟨hr9, hw9⟩ := Prod.mk.inj (Option.some.inj h)
      subst hw9
      exact x_vret dX11_floods_171 rfl rfl
    · rw [if_neg hc18] at h
      refine x_aload_n (j := 0) (i := 0) dX11_floods_73 rfl rfl ?_
      refine x_getR (ci := 11) (k := 41) dX11_floods_74 lf_RX11_96 rfl g17 ?_
      refine x_iload_n (j := 2) (i := 2) dX11_floods_77 rfl rfl ?_
      obtain ⟨g19, h⟩ := gd_some h
      obtain ⟨g20, h⟩ := gd_some h
      refine x_iald dX11_floods_78 g19 g20 ?_
      refine x_istore_n (i := 3) (lv2 := [(3, xI (wI w (wR w x0 41) x2.toNatClampNeg)), (0, xR x0), (1, xI x1), (2, xI x2)]) dX11_floods_79 rfl (by decide) rfl ?_
      refine x_iload_n (j := 0) (i := 3) dX11_floods_80 rfl rfl ?_
      refine x_aload_n (j := 1) (i := 0) dX11_floods_81 rfl rfl ?_
      refine x_getI (ci := 11) (k := 0) dX11_floods_82 lf_RX11_111 rfl g17 ?_
      obtain ⟨g21, h⟩ := gd_some h
      refine x_irem dX11_floods_85 g21 ?_
      refine x_if_le (tgt := 97) dX11_floods_86 (by decide) (fun hc22 => ?_) (fun hc22 => ?_)
      · rw [if_pos hc22] at h
        refine x_lv (lv2 := [(0, xR x0), (1, xI x1), (2, xI x2), (3, xI (wI w (wR w x0 41) x2.toNatClampNeg))]) [1, 2, 3, 0] rfl ?_
        exact k_X11_floods_b97 (f_X11_floods_l65 n) rE wE ih x0 x1 x2 (wI w (wR w x0 41) x2.toNatClampNeg) w h
      · rw [if_neg hc22] at h
        refine x_aload_n (j := 1) (i := 0) dX11_floods_89 rfl rfl ?_
        refine x_iload_n (j := 0) (i := 3) dX11_floods_90 rfl rfl ?_
        refine x_iconst (v := 1) dX11_floods_91 (by decide) ?_
        refine x_isub dX11_floods_92 ?_
        refine x_iload_n (j := 2) (i := 1) dX11_floods_93 rfl rfl ?_
        obtain ⟨_u, w23, hc24, h⟩ := bd_s h
        refine x_callVV (ci := 11) dX11_floods_94 ml_RX11_195 mb_X11_reaches (c_X11_reaches x0 ((wI w (wR w x0 41) x2.toNatClampNeg) - (1 : Int32)) x1 w _u w23 hc24) ⟨_, rfl, rfl⟩ g17 [] rfl rfl (Nat.le_of_ble_eq_true rfl) (by decide) (by decide) ?_
        refine x_lv (lv2 := [(0, xR x0), (1, xI x1), (2, xI x2), (3, xI (wI w (wR w x0 41) x2.toNatClampNeg))]) [1, 2, 3, 0] rfl ?_
        exact k_X11_floods_b97 (f_X11_floods_l65 n) rE wE ih x0 x1 x2 (wI w (wR w x0 41) x2.toNatClampNeg) w23 h
set_option maxRecDepth 20000 in
theorem k_X11_floods_l28 (rE : Unit) (wE : xSt) : ∀ (n : Nat) (x0 : Nat) (x1 : Int32) (x2 : Int32) (w : xSt), f_X11_floods_l28 n x0 x1 x2 w = some (rE, wE) → xX cX11_floods 4 none RX11 false (xRm 4 0 0) (xZf (none, wE) 0 0) 28 [(0, xR x0), (1, xI x1), (2, xI x2)] [] w 0 0 := by
  intro n
  induction n with
  | zero => intro x0 x1 x2 w h; exact nomatch (show (none : Option (Unit × xSt)) = some (rE, wE) from h)
  | succ n ih =>
    intro x0 x1 x2 w h
    rw [f_X11_floods_l28_s] at h
    refine x_iload_n (j := 2) (i := 2) dX11_floods_28 rfl rfl ?_
    refine x_aload_n (j := 0) (i := 0) dX11_floods_29 rfl rfl ?_
    obtain ⟨g10, h⟩ := gd_some h
    refine x_getI (ci := 11) (k := 0) dX11_floods_30 lf_RX11_111 rfl g10 ?_
    refine x_aload_n (j := 0) (i := 0) dX11_floods_33 rfl rfl ?_
    refine x_getI (ci := 11) (k := 1) dX11_floods_34 lf_RX11_114 rfl g10 ?_
    refine x_imul dX11_floods_37 ?_
    refine x_icmp_ge (tgt := 63) dX11_floods_38 (by decide) (fun hc11 => ?_) (fun hc11 => ?_)
    · rw [if_pos hc11] at h
      refine x_iconst (v := 0) dX11_floods_63 (by decide) ?_
      refine x_istore_n (i := 2) (lv2 := [(2, xI (0 : Int32)), (0, xR x0), (1, xI x1)]) dX11_floods_64 rfl (by decide) rfl ?_
      refine x_lv (lv2 := [(0, xR x0), (1, xI x1), (2, xI (0 : Int32))]) [1, 2, 0] rfl ?_
      exact k_X11_floods_l65 rE wE xFu x0 x1 (0 : Int32) w h
    · rw [if_neg hc11] at h
      refine x_aload_n (j := 0) (i := 0) dX11_floods_41 rfl rfl ?_
      refine x_getR (ci := 11) (k := 2) dX11_floods_42 lf_RX11_7 rfl g10 ?_
      refine x_iload_n (j := 2) (i := 2) dX11_floods_45 rfl rfl ?_
      obtain ⟨g12, h⟩ := gd_some h
      obtain ⟨g13, h⟩ := gd_some h
      refine x_iald dX11_floods_46 g12 g13 ?_
      refine x_iconst (v := 1) dX11_floods_47 (by decide) ?_
      refine x_icmp_ne (tgt := 57) dX11_floods_48 (by decide) (fun hc14 => ?_) (fun hc14 => ?_)
      · rw [if_neg hc14] at h
        refine x_iinc (j := 2) (i := 2) (v := x2 + (1 : Int32)) (lv2 := [(2, xI (x2 + (1 : Int32))), (0, xR x0), (1, xI x1)]) dX11_floods_57 rfl rfl (by decide) rfl ?_
        refine x_goto (tgt := 28) dX11_floods_60 (by decide) ?_
        refine x_lv (lv2 := [(0, xR x0), (1, xI x1), (2, xI (x2 + (1 : Int32)))]) [1, 2, 0] rfl ?_
        exact ih x0 x1 (x2 + (1 : Int32)) w h
      · rw [if_pos hc14] at h
        refine x_aload_n (j := 0) (i := 0) dX11_floods_51 rfl rfl ?_
        refine x_iload_n (j := 2) (i := 2) dX11_floods_52 rfl rfl ?_
        refine x_iload_n (j := 1) (i := 1) dX11_floods_53 rfl rfl ?_
        obtain ⟨_u, w15, hc16, h⟩ := bd_s h
        refine x_callVV (ci := 11) dX11_floods_54 ml_RX11_195 mb_X11_reaches (c_X11_reaches x0 x2 x1 w _u w15 hc16) ⟨_, rfl, rfl⟩ g10 [] rfl rfl (Nat.le_of_ble_eq_true rfl) (by decide) (by decide) ?_
        refine x_iinc (j := 2) (i := 2) (v := x2 + (1 : Int32)) (lv2 := [(2, xI (x2 + (1 : Int32))), (0, xR x0), (1, xI x1)]) dX11_floods_57 rfl rfl (by decide) rfl ?_
        refine x_goto (tgt := 28) dX11_floods_60 (by decide) ?_
        refine x_lv (lv2 := [(0, xR x0), (1, xI x1), (2, xI (x2 + (1 : Int32)))]) [1, 2, 0] rfl ?_
        exact ih x0 x1 (x2 + (1 : Int32)) w15 h
set_option maxRecDepth 20000 in
theorem k_X11_floods_l7 (rE : Unit) (wE : xSt) : ∀ (n : Nat) (x0 : Nat) (x1 : Int32) (x2 : Int32) (w : xSt), f_X11_floods_l7 n x0 x1 x2 w = some (rE, wE) → xX cX11_floods 4 none RX11 false (xRm 4 0 0) (xZf (none, wE) 0 0) 7 [(0, xR x0), (1, xI x1), (2, xI x2)] [] w 0 0 := by
  intro n
  induction n with
  | zero => intro x0 x1 x2 w h; exact nomatch (show (none : Option (Unit × xSt)) = some (rE, wE) from h)
  | succ n ih =>
    intro x0 x1 x2 w h
    rw [f_X11_floods_l7_s] at h
    refine x_iload_n (j := 2) (i := 2) dX11_floods_7 rfl rfl ?_
    refine x_bipush (v := 64) dX11_floods_8 (by decide) ?_
    refine x_icmp_ge (tgt := 26) dX11_floods_10 (by decide) (fun hc4 => ?_) (fun hc4 => ?_)
    · rw [if_pos hc4] at h
      refine x_iconst (v := 0) dX11_floods_26 (by decide) ?_
      refine x_istore_n (i := 2) (lv2 := [(2, xI (0 : Int32)), (0, xR x0), (1, xI x1)]) dX11_floods_27 rfl (by decide) rfl ?_
      refine x_lv (lv2 := [(0, xR x0), (1, xI x1), (2, xI (0 : Int32))]) [1, 2, 0] rfl ?_
      exact k_X11_floods_l28 rE wE xFu x0 x1 (0 : Int32) w h
    · rw [if_neg hc4] at h
      refine x_aload_n (j := 0) (i := 0) dX11_floods_13 rfl rfl ?_
      obtain ⟨g5, h⟩ := gd_some h
      refine x_getR (ci := 11) (k := 40) dX11_floods_14 lf_RX11_93 rfl g5 ?_
      refine x_iload_n (j := 2) (i := 2) dX11_floods_17 rfl rfl ?_
      refine x_iconst (v := 0) dX11_floods_18 (by decide) ?_
      obtain ⟨g6, h⟩ := gd_some h
      obtain ⟨g7, h⟩ := gd_some h
      obtain ⟨w8, hw9, h⟩ := lt1_some h
      refine x_zast dX11_floods_19 g6 g7 ?_
      rw [← hw9]
      refine x_iinc (j := 2) (i := 2) (v := x2 + (1 : Int32)) (lv2 := [(2, xI (x2 + (1 : Int32))), (0, xR x0), (1, xI x1)]) dX11_floods_20 rfl rfl (by decide) rfl ?_
      refine x_goto (tgt := 7) dX11_floods_23 (by decide) ?_
      refine x_lv (lv2 := [(0, xR x0), (1, xI x1), (2, xI (x2 + (1 : Int32)))]) [1, 2, 0] rfl ?_
      exact ih x0 x1 (x2 + (1 : Int32)) w8 h
set_option maxRecDepth 20000 in
theorem c_X11_floods (x0 : Nat) (x1 : Int32) (w : xSt) (rE : Unit) (wE : xSt) (h : f_X11_floods x0 x1 w = some (rE, wE)) : xCall yX11_floods cX11_floods 4 none 4 0 0 [xR x0, xI x1] w (none, wE) := by
  refine xCall_of false (by decide) (fun q => nomatch q) (Nat.le_of_ble_eq_true rfl) ?_
  show xX cX11_floods 4 none RX11 false (xRm 4 0 0) (xZf (none, wE) 0 0) 0 [(0, xR x0), (1, xI x1)] [] w 0 0
  unfold f_X11_floods at h
  refine x_aload_n (j := 0) (i := 0) dX11_floods_0 rfl rfl ?_
  refine x_iconst (v := 0) dX11_floods_1 (by decide) ?_
  obtain ⟨g1, h⟩ := gd_some h
  obtain ⟨w2, hw3, h⟩ := lt1_some h
  refine x_putI (ci := 11) (k := 42) dX11_floods_2 (lw_RX11_192_w _) rfl g1 ?_
  rw [← hw3]
  refine x_iconst (v := 0) dX11_floods_5 (by decide) ?_
  refine x_istore_n (i := 2) (lv2 := [(2, xI (0 : Int32)), (0, xR x0), (1, xI x1)]) dX11_floods_6 rfl (by decide) rfl ?_
  refine x_lv (lv2 := [(0, xR x0), (1, xI x1), (2, xI (0 : Int32))]) [1, 2, 0] rfl ?_
  exact k_X11_floods_l7 rE wE xFu x0 x1 (0 : Int32) w2 h
set_option maxRecDepth 20000 in
theorem k_X11_comeTo_l9 (rE : Int32) (wE : xSt) : ∀ (n : Nat) (x0 : Nat) (x2 : Int32) (x3 : Int32) (w : xSt), f_X11_comeTo_l9 n x0 x2 x3 w = some (rE, wE) → xX cX11_comeTo 5 (some .int) RX11 false (xRm 5 0 0) (xZf (some (xI rE), wE) 0 0) 9 [(0, xR x0), (2, xI x2), (3, xI x3)] [] w 0 0 := by
  intro n
  induction n with
  | zero => intro x0 x2 x3 w h; exact nomatch (show (none : Option (Int32 × xSt)) = some (rE, wE) from h)
  | succ n ih =>
    intro x0 x2 x3 w h
    rw [f_X11_comeTo_l9_s] at h
    refine x_iload_n (j := 2) (i := 3) dX11_comeTo_9 rfl rfl ?_
    refine x_aload_n (j := 0) (i := 0) dX11_comeTo_10 rfl rfl ?_
    obtain ⟨g4, h⟩ := gd_some h
    refine x_getI (ci := 11) (k := 0) dX11_comeTo_11 lf_RX11_111 rfl g4 ?_
    refine x_aload_n (j := 0) (i := 0) dX11_comeTo_14 rfl rfl ?_
    refine x_getI (ci := 11) (k := 1) dX11_comeTo_15 lf_RX11_114 rfl g4 ?_
    refine x_imul dX11_comeTo_18 ?_
    refine x_icmp_ge (tgt := 61) dX11_comeTo_19 (by decide) (fun hc5 => ?_) (fun hc5 => ?_)
    · rw [if_pos hc5] at h
      refine x_iload_n (j := 1) (i := 2) dX11_comeTo_61 rfl rfl ?_
      obtain ⟨hr9, hw9⟩ := Prod.mk.inj (Option.some.inj h)
      subst hw9
      subst hr9
      exact x_iret dX11_comeTo_62 rfl rfl
    · rw [if_neg hc5] at h
      refine x_aload_n (j := 0) (i := 0) dX11_comeTo_22 rfl rfl ?_
      refine x_iload_n (j := 2) (i := 3) dX11_comeTo_23 rfl rfl ?_
      obtain ⟨v6, w7, hc8, h⟩ := bd_s h
      refine x_callVI (ci := 11) dX11_comeTo_24 ml_RX11_176 mb_X11_standOn (c_X11_standOn x0 x3 w v6 w7 hc8) ⟨_, rfl, rfl⟩ g4 [] rfl rfl (Nat.le_of_ble_eq_true rfl) (by decide) (by decide) ?_
      refine x_istore (i := 4) (lv2 := [(4, xI v6), (0, xR x0), (2, xI x2), (3, xI x3)]) dX11_comeTo_27 (by decide) rfl ?_
      refine x_iload_n (j := 2) (i := 2) dX11_comeTo_29 rfl rfl ?_
      refine x_aload_n (j := 1) (i := 0) dX11_comeTo_30 rfl rfl ?_
      obtain ⟨g9, h⟩ := gd_some h
      refine x_getR (ci := 11) (k := 40) dX11_comeTo_31 lf_RX11_93 rfl g9 ?_
      refine x_iload_n (j := 3) (i := 3) dX11_comeTo_34 rfl rfl ?_
      obtain ⟨g10, h⟩ := gd_some h
      obtain ⟨g11, h⟩ := gd_some h
      refine x_zald dX11_comeTo_35 g10 g11 ?_
      refine x_if_eq (tgt := 52) dX11_comeTo_36 (by decide) (fun hc12 => ?_) (fun hc12 => ?_)
      · rw [if_pos hc12] at h
        refine x_iconst (v := 0) dX11_comeTo_52 (by decide) ?_
        refine x_ior dX11_comeTo_53 ?_
        refine x_istore_n (i := 2) (lv2 := [(2, xI (x2 ||| (0 : Int32))), (4, xI v6), (0, xR x0), (3, xI x3)]) dX11_comeTo_54 rfl (by decide) rfl ?_
        refine x_iinc (j := 3) (i := 3) (v := x3 + (1 : Int32)) (lv2 := [(3, xI (x3 + (1 : Int32))), (2, xI (x2 ||| (0 : Int32))), (4, xI v6), (0, xR x0)]) dX11_comeTo_55 rfl rfl (by decide) rfl ?_
        refine x_goto (tgt := 9) dX11_comeTo_58 (by decide) ?_
        refine x_lv (lv2 := [(0, xR x0), (2, xI (x2 ||| (0 : Int32))), (3, xI (x3 + (1 : Int32)))]) [3, 1, 0] rfl ?_
        exact ih x0 (x2 ||| (0 : Int32)) (x3 + (1 : Int32)) w7 h
      · rw [if_neg hc12] at h
        refine x_iload (j := 0) (i := 4) dX11_comeTo_39 rfl ?_
        refine x_iconst (v := -1) dX11_comeTo_41 (by decide) ?_
        refine x_icmp_eq (tgt := 52) dX11_comeTo_42 (by decide) (fun hc13 => ?_) (fun hc13 => ?_)
        · rw [if_pos hc13] at h
          refine x_iconst (v := 0) dX11_comeTo_52 (by decide) ?_
          refine x_ior dX11_comeTo_53 ?_
          refine x_istore_n (i := 2) (lv2 := [(2, xI (x2 ||| (0 : Int32))), (4, xI v6), (0, xR x0), (3, xI x3)]) dX11_comeTo_54 rfl (by decide) rfl ?_
          refine x_iinc (j := 3) (i := 3) (v := x3 + (1 : Int32)) (lv2 := [(3, xI (x3 + (1 : Int32))), (2, xI (x2 ||| (0 : Int32))), (4, xI v6), (0, xR x0)]) dX11_comeTo_55 rfl rfl (by decide) rfl ?_
          refine x_goto (tgt := 9) dX11_comeTo_58 (by decide) ?_
          refine x_lv (lv2 := [(0, xR x0), (2, xI (x2 ||| (0 : Int32))), (3, xI (x3 + (1 : Int32)))]) [3, 1, 0] rfl ?_
          exact ih x0 (x2 ||| (0 : Int32)) (x3 + (1 : Int32)) w7 h
        · rw [if_neg hc13] at h
          refine x_iconst (v := 1) dX11_comeTo_45 (by decide) ?_
          refine x_iload (j := 0) (i := 4) dX11_comeTo_46 rfl ?_
          refine x_ishl dX11_comeTo_48 ?_
          refine x_goto (tgt := 53) dX11_comeTo_49 (by decide) ?_
          refine x_ior dX11_comeTo_53 ?_
          refine x_istore_n (i := 2) (lv2 := [(2, xI (x2 ||| ((1 : Int32) <<< (v6 &&& 31)))), (4, xI v6), (0, xR x0), (3, xI x3)]) dX11_comeTo_54 rfl (by decide) rfl ?_
          refine x_iinc (j := 3) (i := 3) (v := x3 + (1 : Int32)) (lv2 := [(3, xI (x3 + (1 : Int32))), (2, xI (x2 ||| ((1 : Int32) <<< (v6 &&& 31)))), (4, xI v6), (0, xR x0)]) dX11_comeTo_55 rfl rfl (by decide) rfl ?_
          refine x_goto (tgt := 9) dX11_comeTo_58 (by decide) ?_
          refine x_lv (lv2 := [(0, xR x0), (2, xI (x2 ||| ((1 : Int32) <<< (v6 &&& 31)))), (3, xI (x3 + (1 : Int32)))]) [3, 1, 0] rfl ?_
          exact ih x0 (x2 ||| ((1 : Int32) <<< (v6 &&& 31))) (x3 + (1 : Int32)) w7 h
set_option maxRecDepth 20000 in
theorem c_X11_comeTo (x0 : Nat) (x1 : Int32) (w : xSt) (rE : Int32) (wE : xSt) (h : f_X11_comeTo x0 x1 w = some (rE, wE)) : xCall yX11_comeTo cX11_comeTo 5 (some .int) 5 0 0 [xR x0, xI x1] w (some (xI rE), wE) := by
  refine xCall_of false (by decide) (fun q => nomatch q) (Nat.le_of_ble_eq_true rfl) ?_
  show xX cX11_comeTo 5 (some .int) RX11 false (xRm 5 0 0) (xZf (some (xI rE), wE) 0 0) 0 [(0, xR x0), (1, xI x1)] [] w 0 0
  unfold f_X11_comeTo at h
  refine x_aload_n (j := 0) (i := 0) dX11_comeTo_0 rfl rfl ?_
  refine x_iload_n (j := 1) (i := 1) dX11_comeTo_1 rfl rfl ?_
  obtain ⟨g3, h⟩ := gd_some h
  obtain ⟨_u, w1, hc2, h⟩ := bd_s h
  refine x_callVV (ci := 11) dX11_comeTo_2 ml_RX11_199 mb_X11_floods (c_X11_floods x0 x1 w _u w1 hc2) ⟨_, rfl, rfl⟩ g3 [] rfl rfl (Nat.le_of_ble_eq_true rfl) (by decide) (by decide) ?_
  refine x_iconst (v := 0) dX11_comeTo_5 (by decide) ?_
  refine x_istore_n (i := 2) (lv2 := [(2, xI (0 : Int32)), (0, xR x0), (1, xI x1)]) dX11_comeTo_6 rfl (by decide) rfl ?_
  refine x_iconst (v := 0) dX11_comeTo_7 (by decide) ?_
  refine x_istore_n (i := 3) (lv2 := [(3, xI (0 : Int32)), (2, xI (0 : Int32)), (0, xR x0), (1, xI x1)]) dX11_comeTo_8 rfl (by decide) rfl ?_
  refine x_lv (lv2 := [(0, xR x0), (2, xI (0 : Int32)), (3, xI (0 : Int32))]) [2, 1, 0] rfl ?_
  exact k_X11_comeTo_l9 rE wE xFu x0 (0 : Int32) (0 : Int32) w1 h
set_option maxRecDepth 20000 in
theorem k_X11_setIn_l4 (rE : Int32) (wE : xSt) : ∀ (n : Nat) (x0 : Nat) (x1 : Int32) (x2 : Int32) (x3 : Int32) (w : xSt), f_X11_setIn_l4 n x0 x1 x2 x3 w = some (rE, wE) → xX cX11_setIn 4 (some .int) RX11 false (xRm 0 0 0) (xZf (some (xI rE), wE) 0 0) 4 [(0, xR x0), (1, xI x1), (2, xI x2), (3, xI x3)] [] w 0 0 := by
  intro n
  induction n with
  | zero => intro x0 x1 x2 x3 w h; exact nomatch (show (none : Option (Int32 × xSt)) = some (rE, wE) from h)
  | succ n ih =>
    intro x0 x1 x2 x3 w h
    rw [f_X11_setIn_l4_s] at h
    refine x_iload_n (j := 3) (i := 3) dX11_setIn_4 rfl rfl ?_
    refine x_aload_n (j := 0) (i := 0) dX11_setIn_5 rfl rfl ?_
    obtain ⟨g1, h⟩ := gd_some h
    refine x_getI (ci := 11) (k := 5) dX11_setIn_6 lf_RX11_121 rfl g1 ?_
    refine x_icmp_ge (tgt := 42) dX11_setIn_9 (by decide) (fun hc2 => ?_) (fun hc2 => ?_)
    · rw [if_pos hc2] at h
      refine x_iload_n (j := 2) (i := 2) dX11_setIn_42 rfl rfl ?_
      obtain ⟨hr9, hw9⟩ := Prod.mk.inj (Option.some.inj h)
      subst hw9
      subst hr9
      exact x_iret dX11_setIn_43 rfl rfl
    · rw [if_neg hc2] at h
      refine x_iload_n (j := 2) (i := 2) dX11_setIn_12 rfl rfl ?_
      refine x_aload_n (j := 0) (i := 0) dX11_setIn_13 rfl rfl ?_
      refine x_getR (ci := 11) (k := 14) dX11_setIn_14 lf_RX11_44 rfl g1 ?_
      refine x_iload_n (j := 3) (i := 3) dX11_setIn_17 rfl rfl ?_
      obtain ⟨g3, h⟩ := gd_some h
      obtain ⟨g4, h⟩ := gd_some h
      refine x_zald dX11_setIn_18 g3 g4 ?_
      refine x_if_eq (tgt := 33) dX11_setIn_19 (by decide) (fun hc5 => ?_) (fun hc5 => ?_)
      · rw [if_pos hc5] at h
        refine x_iconst (v := 0) dX11_setIn_33 (by decide) ?_
        refine x_ior dX11_setIn_34 ?_
        refine x_istore_n (i := 2) (lv2 := [(2, xI (x2 ||| (0 : Int32))), (0, xR x0), (1, xI x1), (3, xI x3)]) dX11_setIn_35 rfl (by decide) rfl ?_
        refine x_iinc (j := 3) (i := 3) (v := x3 + (1 : Int32)) (lv2 := [(3, xI (x3 + (1 : Int32))), (2, xI (x2 ||| (0 : Int32))), (0, xR x0), (1, xI x1)]) dX11_setIn_36 rfl rfl (by decide) rfl ?_
        refine x_goto (tgt := 4) dX11_setIn_39 (by decide) ?_
        refine x_lv (lv2 := [(0, xR x0), (1, xI x1), (2, xI (x2 ||| (0 : Int32))), (3, xI (x3 + (1 : Int32)))]) [2, 3, 1, 0] rfl ?_
        exact ih x0 x1 (x2 ||| (0 : Int32)) (x3 + (1 : Int32)) w h
      · rw [if_neg hc5] at h
        refine x_iload_n (j := 3) (i := 3) dX11_setIn_22 rfl rfl ?_
        refine x_iload_n (j := 1) (i := 1) dX11_setIn_23 rfl rfl ?_
        refine x_icmp_eq (tgt := 33) dX11_setIn_24 (by decide) (fun hc6 => ?_) (fun hc6 => ?_)
        · rw [if_pos hc6] at h
          refine x_iconst (v := 0) dX11_setIn_33 (by decide) ?_
          refine x_ior dX11_setIn_34 ?_
          refine x_istore_n (i := 2) (lv2 := [(2, xI (x2 ||| (0 : Int32))), (0, xR x0), (1, xI x1), (3, xI x3)]) dX11_setIn_35 rfl (by decide) rfl ?_
          refine x_iinc (j := 3) (i := 3) (v := x3 + (1 : Int32)) (lv2 := [(3, xI (x3 + (1 : Int32))), (2, xI (x2 ||| (0 : Int32))), (0, xR x0), (1, xI x1)]) dX11_setIn_36 rfl rfl (by decide) rfl ?_
          refine x_goto (tgt := 4) dX11_setIn_39 (by decide) ?_
          refine x_lv (lv2 := [(0, xR x0), (1, xI x1), (2, xI (x2 ||| (0 : Int32))), (3, xI (x3 + (1 : Int32)))]) [2, 3, 1, 0] rfl ?_
          exact ih x0 x1 (x2 ||| (0 : Int32)) (x3 + (1 : Int32)) w h
        · rw [if_neg hc6] at h
          refine x_iconst (v := 1) dX11_setIn_27 (by decide) ?_
          refine x_iload_n (j := 3) (i := 3) dX11_setIn_28 rfl rfl ?_
          refine x_ishl dX11_setIn_29 ?_
          refine x_goto (tgt := 34) dX11_setIn_30 (by decide) ?_
          refine x_ior dX11_setIn_34 ?_
          refine x_istore_n (i := 2) (lv2 := [(2, xI (x2 ||| ((1 : Int32) <<< (x3 &&& 31)))), (0, xR x0), (1, xI x1), (3, xI x3)]) dX11_setIn_35 rfl (by decide) rfl ?_
          refine x_iinc (j := 3) (i := 3) (v := x3 + (1 : Int32)) (lv2 := [(3, xI (x3 + (1 : Int32))), (2, xI (x2 ||| ((1 : Int32) <<< (x3 &&& 31)))), (0, xR x0), (1, xI x1)]) dX11_setIn_36 rfl rfl (by decide) rfl ?_
          refine x_goto (tgt := 4) dX11_setIn_39 (by decide) ?_
          refine x_lv (lv2 := [(0, xR x0), (1, xI x1), (2, xI (x2 ||| ((1 : Int32) <<< (x3 &&& 31)))), (3, xI (x3 + (1 : Int32)))]) [2, 3, 1, 0] rfl ?_
          exact ih x0 x1 (x2 ||| ((1 : Int32) <<< (x3 &&& 31))) (x3 + (1 : Int32)) w h
set_option maxRecDepth 20000 in
theorem c_X11_setIn (x0 : Nat) (x1 : Int32) (w : xSt) (rE : Int32) (wE : xSt) (h : f_X11_setIn x0 x1 w = some (rE, wE)) : xCall yX11_setIn cX11_setIn 4 (some .int) 0 0 0 [xR x0, xI x1] w (some (xI rE), wE) := by
  refine xCall_of false (by decide) (fun q => nomatch q) (Nat.le_of_ble_eq_true rfl) ?_
  show xX cX11_setIn 4 (some .int) RX11 false (xRm 0 0 0) (xZf (some (xI rE), wE) 0 0) 0 [(0, xR x0), (1, xI x1)] [] w 0 0
  unfold f_X11_setIn at h
  refine x_iconst (v := 0) dX11_setIn_0 (by decide) ?_
  refine x_istore_n (i := 2) (lv2 := [(2, xI (0 : Int32)), (0, xR x0), (1, xI x1)]) dX11_setIn_1 rfl (by decide) rfl ?_
  refine x_iconst (v := 0) dX11_setIn_2 (by decide) ?_
  refine x_istore_n (i := 3) (lv2 := [(3, xI (0 : Int32)), (2, xI (0 : Int32)), (0, xR x0), (1, xI x1)]) dX11_setIn_3 rfl (by decide) rfl ?_
  refine x_lv (lv2 := [(0, xR x0), (1, xI x1), (2, xI (0 : Int32)), (3, xI (0 : Int32))]) [2, 3, 1, 0] rfl ?_
  exact k_X11_setIn_l4 rE wE xFu x0 x1 (0 : Int32) (0 : Int32) w h
set_option maxRecDepth 20000 in
theorem c_X11_canBring (x0 : Nat) (x1 : Int32) (w : xSt) (rE : Int32) (wE : xSt) (h : f_X11_canBring x0 x1 w = some (rE, wE)) : xCall yX11_canBring cX11_canBring 2 (some .boolean) 6 0 0 [xR x0, xI x1] w (some (xI rE), wE) := by
  refine xCall_of false (by decide) (fun q => nomatch q) (Nat.le_of_ble_eq_true rfl) ?_
  show xX cX11_canBring 2 (some .boolean) RX11 false (xRm 6 0 0) (xZf (some (xI rE), wE) 0 0) 0 [(0, xR x0), (1, xI x1)] [] w 0 0
  unfold f_X11_canBring at h
  refine x_aload_n (j := 0) (i := 0) dX11_canBring_0 rfl rfl ?_
  refine x_aload_n (j := 0) (i := 0) dX11_canBring_1 rfl rfl ?_
  refine x_iload_n (j := 1) (i := 1) dX11_canBring_2 rfl rfl ?_
  obtain ⟨g4, h⟩ := gd_some h
  obtain ⟨v1, w2, hc3, h⟩ := bd_s h
  refine x_callVI (ci := 11) dX11_canBring_3 ml_RX11_203 mb_X11_setIn (c_X11_setIn x0 x1 w v1 w2 hc3) ⟨_, rfl, rfl⟩ g4 [xR x0] rfl rfl (Nat.le_of_ble_eq_true rfl) (by decide) (by decide) ?_
  obtain ⟨g8, h⟩ := gd_some h
  obtain ⟨v5, w6, hc7, h⟩ := bd_s h
  refine x_callVI (ci := 11) dX11_canBring_6 ml_RX11_206 mb_X11_comeTo (c_X11_comeTo x0 v1 w2 v5 w6 hc7) ⟨_, rfl, rfl⟩ g8 [] rfl rfl (Nat.le_of_ble_eq_true rfl) (by decide) (by decide) ?_
  refine x_iload_n (j := 1) (i := 1) dX11_canBring_9 rfl rfl ?_
  refine x_ishr dX11_canBring_10 ?_
  refine x_iconst (v := 1) dX11_canBring_11 (by decide) ?_
  refine x_iand dX11_canBring_12 ?_
  refine x_iconst (v := 1) dX11_canBring_13 (by decide) ?_
  refine x_icmp_ne (tgt := 21) dX11_canBring_14 (by decide) (fun hc9 => ?_) (fun hc9 => ?_)
  · rw [if_neg hc9] at h
    refine x_iconst (v := 0) dX11_canBring_21 (by decide) ?_
    obtain ⟨hr9, hw9⟩ := Prod.mk.inj (Option.some.inj h)
    subst hw9
    subst hr9
    exact x_zret dX11_canBring_22 rfl (by decide) rfl
  · rw [if_pos hc9] at h
    refine x_iconst (v := 1) dX11_canBring_17 (by decide) ?_
    refine x_goto (tgt := 22) dX11_canBring_18 (by decide) ?_
    obtain ⟨hr9, hw9⟩ := Prod.mk.inj (Option.some.inj h)
    subst hw9
    subst hr9
    exact x_zret dX11_canBring_22 rfl (by decide) rfl
set_option maxRecDepth 20000 in
theorem c_X11_can (x0 : Nat) (x1 : Int32) (w : xSt) (rE : Int32) (wE : xSt) (h : f_X11_can x0 x1 w = some (rE, wE)) : xCall yX11_can cX11_can 2 (some .int) 7 0 0 [xR x0, xI x1] w (some (xI rE), wE) := by
  refine xCall_of false (by decide) (fun q => nomatch q) (Nat.le_of_ble_eq_true rfl) ?_
  show xX cX11_can 2 (some .int) RX11 false (xRm 7 0 0) (xZf (some (xI rE), wE) 0 0) 0 [(0, xR x0), (1, xI x1)] [] w 0 0
  unfold f_X11_can at h
  refine x_aload_n (j := 0) (i := 0) dX11_can_0 rfl rfl ?_
  refine x_iload_n (j := 1) (i := 1) dX11_can_1 rfl rfl ?_
  obtain ⟨g4, h⟩ := gd_some h
  obtain ⟨v1, w2, hc3, h⟩ := bd_s h
  refine x_callVI (ci := 11) dX11_can_2 ml_RX11_166 mb_X11_isLaid (c_X11_isLaid x0 x1 w v1 w2 hc3) ⟨_, rfl, rfl⟩ g4 [] rfl rfl (Nat.le_of_ble_eq_true rfl) (by decide) (by decide) ?_
  refine x_if_ne (tgt := 10) dX11_can_5 (by decide) (fun hc5 => ?_) (fun hc5 => ?_)
  · rw [if_neg hc5] at h
    refine x_aload_n (j := 0) (i := 0) dX11_can_10 rfl rfl ?_
    obtain ⟨g6, h⟩ := gd_some h
    refine x_getR (ci := 11) (k := 14) dX11_can_11 lf_RX11_44 rfl g6 ?_
    refine x_iload_n (j := 1) (i := 1) dX11_can_14 rfl rfl ?_
    obtain ⟨g7, h⟩ := gd_some h
    obtain ⟨g8, h⟩ := gd_some h
    refine x_zald dX11_can_15 g7 g8 ?_
    refine x_if_ne (tgt := 31) dX11_can_16 (by decide) (fun hc9 => ?_) (fun hc9 => ?_)
    · rw [if_neg hc9] at h
      refine x_iconst (v := 0) dX11_can_31 (by decide) ?_
      obtain ⟨hr9, hw9⟩ := Prod.mk.inj (Option.some.inj h)
      subst hw9
      subst hr9
      exact x_iret dX11_can_32 rfl rfl
    · rw [if_pos hc9] at h
      refine x_aload_n (j := 0) (i := 0) dX11_can_19 rfl rfl ?_
      refine x_iload_n (j := 1) (i := 1) dX11_can_20 rfl rfl ?_
      obtain ⟨v10, w11, hc12, h⟩ := bd_s h
      refine x_callVI (ci := 11) dX11_can_21 ml_RX11_209 mb_X11_canBring (c_X11_canBring x0 x1 w2 v10 w11 hc12) ⟨_, rfl, rfl⟩ g6 [] rfl rfl (Nat.le_of_ble_eq_true rfl) (by decide) (by decide) ?_
      refine x_if_eq (tgt := 31) dX11_can_24 (by decide) (fun hc13 => ?_) (fun hc13 => ?_)
      · rw [if_pos hc13] at h
        refine x_iconst (v := 0) dX11_can_31 (by decide) ?_
        obtain ⟨hr9, hw9⟩ := Prod.mk.inj (Option.some.inj h)
        subst hw9
        subst hr9
        exact x_iret dX11_can_32 rfl rfl
      · rw [if_neg hc13] at h
        refine x_iconst (v := 1) dX11_can_27 (by decide) ?_
        refine x_goto (tgt := 32) dX11_can_28 (by decide) ?_
        obtain ⟨hr9, hw9⟩ := Prod.mk.inj (Option.some.inj h)
        subst hw9
        subst hr9
        exact x_iret dX11_can_32 rfl rfl
  · rw [if_pos hc5] at h
    refine x_iconst (v := -1) dX11_can_8 (by decide) ?_
    obtain ⟨hr9, hw9⟩ := Prod.mk.inj (Option.some.inj h)
    subst hw9
    subst hr9
    exact x_iret dX11_can_9 rfl rfl
set_option maxRecDepth 20000 in
theorem c_X11_bring (x0 : Nat) (x1 : Int32) (w : xSt) (rE : Int32) (wE : xSt) (h : f_X11_bring x0 x1 w = some (rE, wE)) : xCall yX11_bring cX11_bring 3 (some .int) 7 0 0 [xR x0, xI x1] w (some (xI rE), wE) := by
  refine xCall_of false (by decide) (fun q => nomatch q) (Nat.le_of_ble_eq_true rfl) ?_
  show xX cX11_bring 3 (some .int) RX11 false (xRm 7 0 0) (xZf (some (xI rE), wE) 0 0) 0 [(0, xR x0), (1, xI x1)] [] w 0 0
  unfold f_X11_bring at h
  refine x_aload_n (j := 0) (i := 0) dX11_bring_0 rfl rfl ?_
  refine x_iload_n (j := 1) (i := 1) dX11_bring_1 rfl rfl ?_
  obtain ⟨g4, h⟩ := gd_some h
  obtain ⟨v1, w2, hc3, h⟩ := bd_s h
  refine x_callVI (ci := 11) dX11_bring_2 ml_RX11_166 mb_X11_isLaid (c_X11_isLaid x0 x1 w v1 w2 hc3) ⟨_, rfl, rfl⟩ g4 [] rfl rfl (Nat.le_of_ble_eq_true rfl) (by decide) (by decide) ?_
  refine x_if_ne (tgt := 10) dX11_bring_5 (by decide) (fun hc5 => ?_) (fun hc5 => ?_)
  · rw [if_neg hc5] at h
    refine x_aload_n (j := 0) (i := 0) dX11_bring_10 rfl rfl ?_
    obtain ⟨g6, h⟩ := gd_some h
    refine x_getR (ci := 11) (k := 14) dX11_bring_11 lf_RX11_44 rfl g6 ?_
    refine x_iload_n (j := 1) (i := 1) dX11_bring_14 rfl rfl ?_
    obtain ⟨g7, h⟩ := gd_some h
    obtain ⟨g8, h⟩ := gd_some h
    refine x_zald dX11_bring_15 g7 g8 ?_
    refine x_if_eq (tgt := 22) dX11_bring_16 (by decide) (fun hc9 => ?_) (fun hc9 => ?_)
    · rw [if_pos hc9] at h
      refine x_aload_n (j := 0) (i := 0) dX11_bring_22 rfl rfl ?_
      refine x_iload_n (j := 1) (i := 1) dX11_bring_23 rfl rfl ?_
      obtain ⟨v10, w11, hc12, h⟩ := bd_s h
      refine x_callVI (ci := 11) dX11_bring_24 ml_RX11_209 mb_X11_canBring (c_X11_canBring x0 x1 w2 v10 w11 hc12) ⟨_, rfl, rfl⟩ g6 [] rfl rfl (Nat.le_of_ble_eq_true rfl) (by decide) (by decide) ?_
      refine x_istore_n (i := 2) (lv2 := [(2, xI v10), (0, xR x0), (1, xI x1)]) dX11_bring_27 rfl (by decide) rfl ?_
      refine x_aload_n (j := 1) (i := 0) dX11_bring_28 rfl rfl ?_
      obtain ⟨g13, h⟩ := gd_some h
      refine x_getR (ci := 11) (k := 14) dX11_bring_29 lf_RX11_44 rfl g13 ?_
      refine x_iload_n (j := 2) (i := 1) dX11_bring_32 rfl rfl ?_
      refine x_iload_n (j := 0) (i := 2) dX11_bring_33 rfl rfl ?_
      obtain ⟨g14, h⟩ := gd_some h
      obtain ⟨g15, h⟩ := gd_some h
      obtain ⟨w16, hw17, h⟩ := lt1_some h
      refine x_zast dX11_bring_34 g14 g15 ?_
      rw [← hw17]
      refine x_iload_n (j := 0) (i := 2) dX11_bring_35 rfl rfl ?_
      refine x_if_eq (tgt := 43) dX11_bring_36 (by decide) (fun hc18 => ?_) (fun hc18 => ?_)
      · rw [if_pos hc18] at h
        refine x_iconst (v := 0) dX11_bring_43 (by decide) ?_
        obtain ⟨hr9, hw9⟩ := Prod.mk.inj (Option.some.inj h)
        subst hw9
        subst hr9
        exact x_iret dX11_bring_44 rfl rfl
      · rw [if_neg hc18] at h
        refine x_iconst (v := 1) dX11_bring_39 (by decide) ?_
        refine x_goto (tgt := 44) dX11_bring_40 (by decide) ?_
        obtain ⟨hr9, hw9⟩ := Prod.mk.inj (Option.some.inj h)
        subst hw9
        subst hr9
        exact x_iret dX11_bring_44 rfl rfl
    · rw [if_neg hc9] at h
      refine x_bipush (v := -3) dX11_bring_19 (by decide) ?_
      obtain ⟨hr9, hw9⟩ := Prod.mk.inj (Option.some.inj h)
      subst hw9
      subst hr9
      exact x_iret dX11_bring_21 rfl rfl
  · rw [if_pos hc5] at h
    refine x_iconst (v := -1) dX11_bring_8 (by decide) ?_
    obtain ⟨hr9, hw9⟩ := Prod.mk.inj (Option.some.inj h)
    subst hw9
    subst hr9
    exact x_iret dX11_bring_9 rfl rfl
set_option maxRecDepth 20000 in
theorem k_X11_clear_l7 (rE : Int32) (wE : xSt) : ∀ (n : Nat) (x0 : Nat) (x1 : Int32) (x2 : Int32) (w : xSt), f_X11_clear_l7 n x0 x1 x2 w = some (rE, wE) → xX cX11_clear 3 (some .int) RX11 false (xRm 1 0 0) (xZf (some (xI rE), wE) 0 0) 7 [(0, xR x0), (1, xI x1), (2, xI x2)] [] w 0 0 := by
  intro n
  induction n with
  | zero => intro x0 x1 x2 w h; exact nomatch (show (none : Option (Int32 × xSt)) = some (rE, wE) from h)
  | succ n ih =>
    intro x0 x1 x2 w h
    rw [f_X11_clear_l7_s] at h
    refine x_iload_n (j := 2) (i := 2) dX11_clear_7 rfl rfl ?_
    refine x_aload_n (j := 0) (i := 0) dX11_clear_8 rfl rfl ?_
    obtain ⟨g5, h⟩ := gd_some h
    refine x_getI (ci := 11) (k := 5) dX11_clear_9 lf_RX11_121 rfl g5 ?_
    refine x_icmp_ge (tgt := 28) dX11_clear_12 (by decide) (fun hc6 => ?_) (fun hc6 => ?_)
    · rw [if_pos hc6] at h
      refine x_iload_n (j := 1) (i := 1) dX11_clear_28 rfl rfl ?_
      obtain ⟨hr9, hw9⟩ := Prod.mk.inj (Option.some.inj h)
      subst hw9
      subst hr9
      exact x_iret dX11_clear_29 rfl rfl
    · rw [if_neg hc6] at h
      refine x_aload_n (j := 0) (i := 0) dX11_clear_15 rfl rfl ?_
      refine x_getR (ci := 11) (k := 14) dX11_clear_16 lf_RX11_44 rfl g5 ?_
      refine x_iload_n (j := 2) (i := 2) dX11_clear_19 rfl rfl ?_
      refine x_iconst (v := 0) dX11_clear_20 (by decide) ?_
      obtain ⟨g7, h⟩ := gd_some h
      obtain ⟨g8, h⟩ := gd_some h
      obtain ⟨w9, hw10, h⟩ := lt1_some h
      refine x_zast dX11_clear_21 g7 g8 ?_
      rw [← hw10]
      refine x_iinc (j := 2) (i := 2) (v := x2 + (1 : Int32)) (lv2 := [(2, xI (x2 + (1 : Int32))), (0, xR x0), (1, xI x1)]) dX11_clear_22 rfl rfl (by decide) rfl ?_
      refine x_goto (tgt := 7) dX11_clear_25 (by decide) ?_
      refine x_lv (lv2 := [(0, xR x0), (1, xI x1), (2, xI (x2 + (1 : Int32)))]) [1, 2, 0] rfl ?_
      exact ih x0 x1 (x2 + (1 : Int32)) w9 h
set_option maxRecDepth 20000 in
theorem c_X11_clear (x0 : Nat) (w : xSt) (rE : Int32) (wE : xSt) (h : f_X11_clear x0 w = some (rE, wE)) : xCall yX11_clear cX11_clear 3 (some .int) 1 0 0 [xR x0] w (some (xI rE), wE) := by
  refine xCall_of false (by decide) (fun q => nomatch q) (Nat.le_of_ble_eq_true rfl) ?_
  show xX cX11_clear 3 (some .int) RX11 false (xRm 1 0 0) (xZf (some (xI rE), wE) 0 0) 0 [(0, xR x0)] [] w 0 0
  unfold f_X11_clear at h
  refine x_aload_n (j := 0) (i := 0) dX11_clear_0 rfl rfl ?_
  obtain ⟨g4, h⟩ := gd_some h
  obtain ⟨v1, w2, hc3, h⟩ := bd_s h
  refine x_callVI (ci := 11) dX11_clear_1 ml_RX11_185 mb_X11_ins (c_X11_ins x0 w v1 w2 hc3) ⟨_, rfl, rfl⟩ g4 [] rfl rfl (Nat.le_of_ble_eq_true rfl) (by decide) (by decide) ?_
  refine x_istore_n (i := 1) (lv2 := [(1, xI v1), (0, xR x0)]) dX11_clear_4 rfl (by decide) rfl ?_
  refine x_iconst (v := 0) dX11_clear_5 (by decide) ?_
  refine x_istore_n (i := 2) (lv2 := [(2, xI (0 : Int32)), (1, xI v1), (0, xR x0)]) dX11_clear_6 rfl (by decide) rfl ?_
  refine x_lv (lv2 := [(0, xR x0), (1, xI v1), (2, xI (0 : Int32))]) [2, 1, 0] rfl ?_
  exact k_X11_clear_l7 rE wE xFu x0 v1 (0 : Int32) w2 h

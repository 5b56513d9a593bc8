set_option maxRecDepth 20000 in
theorem k_X11_count_l104 (rE : Int32) (wE : xSt) : ∀ (n : Nat) (x0 : Nat) (x2 : Int32) (x3 : Int32) (w : xSt), f_X11_count_l104 n x0 x2 x3 w = some (rE, wE) → xX cX11_count 4 (some .int) RX11 false (xRm 1 0 0) (xZf (some (xI rE), wE) 0 0) 104 [(0, xR x0), (2, xI x2), (3, xI x3)] [] w 0 0 := by
  intro n
  induction n with
  | zero => intro x0 x2 x3 w h; exact nomatch (show (none : Option (Int32 × xSt)) = some (rE, wE) from h)
  | succ n ih =>
    intro x0 x2 x3 w h
    rw [f_X11_count_l104_s] at h
    refine x_iload_n (j := 2) (i := 3) dX11_count_104 rfl rfl ?_
    refine x_aload_n (j := 0) (i := 0) dX11_count_105 rfl rfl ?_
    obtain ⟨g33, h⟩ := gd_some h
    refine x_getI (ci := 11) (k := 5) dX11_count_106 lf_RX11_121 rfl g33 ?_
    refine x_icmp_ge (tgt := 126) dX11_count_109 (by decide) (fun hc34 => ?_) (fun hc34 => ?_)
    · rw [if_pos hc34] at h
      refine x_iload_n (j := 1) (i := 2) dX11_count_126 rfl rfl ?_
      obtain ⟨hr9, hw9⟩ := Prod.mk.inj (Option.some.inj h)
      subst hw9
      subst hr9
      exact x_iret dX11_count_127 rfl rfl
    · rw [if_neg hc34] at h
      refine x_iload_n (j := 1) (i := 2) dX11_count_112 rfl rfl ?_
      refine x_aload_n (j := 0) (i := 0) dX11_count_113 rfl rfl ?_
      refine x_iload_n (j := 2) (i := 3) dX11_count_114 rfl rfl ?_
      obtain ⟨v35, w36, hc37, h⟩ := bd_s h
      refine x_callVI (ci := 11) dX11_count_115 ml_RX11_172 mb_X11_marksOf (c_X11_marksOf x0 x3 w v35 w36 hc37) ⟨_, rfl, rfl⟩ g33 [xI x2] rfl rfl (Nat.le_of_ble_eq_true rfl) (by decide) (by decide) ?_
      refine x_iadd dX11_count_118 ?_
      refine x_istore_n (i := 2) (lv2 := [(2, xI (x2 + v35)), (0, xR x0), (3, xI x3)]) dX11_count_119 rfl (by decide) rfl ?_
      refine x_iinc (j := 2) (i := 3) (v := x3 + (1 : Int32)) (lv2 := [(3, xI (x3 + (1 : Int32))), (2, xI (x2 + v35)), (0, xR x0)]) dX11_count_120 rfl rfl (by decide) rfl ?_
      refine x_goto (tgt := 104) dX11_count_123 (by decide) ?_
      refine x_lv (lv2 := [(0, xR x0), (2, xI (x2 + v35)), (3, xI (x3 + (1 : Int32)))]) [2, 1, 0] rfl ?_
      exact ih x0 (x2 + v35) (x3 + (1 : Int32)) w36 h
set_option maxRecDepth 20000 in
theorem k_X11_count_l165 (rE : Int32) (wE : xSt) : ∀ (n : Nat) (x0 : Nat) (x2 : Int32) (x3 : Int32) (w : xSt), f_X11_count_l165 n x0 x2 x3 w = some (rE, wE) → xX cX11_count 4 (some .int) RX11 false (xRm 1 0 0) (xZf (some (xI rE), wE) 0 0) 165 [(0, xR x0), (2, xI x2), (3, xI x3)] [] w 0 0 := by
  intro n
  induction n with
  | zero => intro x0 x2 x3 w h; exact nomatch (show (none : Option (Int32 × xSt)) = some (rE, wE) from h)
  | succ n ih =>
    intro x0 x2 x3 w h
    rw [f_X11_count_l165_s] at h
    refine x_iload_n (j := 2) (i := 3) dX11_count_165 rfl rfl ?_
    refine x_aload_n (j := 0) (i := 0) dX11_count_166 rfl rfl ?_
    obtain ⟨g38, h⟩ := gd_some h
    refine x_getI (ci := 11) (k := 5) dX11_count_167 lf_RX11_121 rfl g38 ?_
    refine x_icmp_ge (tgt := 196) dX11_count_170 (by decide) (fun hc39 => ?_) (fun hc39 => ?_)
    · rw [if_pos hc39] at h
      refine x_iload_n (j := 1) (i := 2) dX11_count_196 rfl rfl ?_
      obtain ⟨hr9, hw9⟩ := Prod.mk.inj (Option.some.inj h)
      subst hw9
      subst hr9
      exact x_iret dX11_count_197 rfl rfl
    · rw [if_neg hc39] at h
      refine x_iload_n (j := 1) (i := 2) dX11_count_173 rfl rfl ?_
      refine x_aload_n (j := 0) (i := 0) dX11_count_174 rfl rfl ?_
      refine x_getR (ci := 11) (k := 15) dX11_count_175 lf_RX11_48 rfl g38 ?_
      refine x_iload_n (j := 2) (i := 3) dX11_count_178 rfl rfl ?_
      obtain ⟨g40, h⟩ := gd_some h
      obtain ⟨g41, h⟩ := gd_some h
      refine x_zald dX11_count_179 g40 g41 ?_
      refine x_if_eq (tgt := 187) dX11_count_180 (by decide) (fun hc42 => ?_) (fun hc42 => ?_)
      · rw [if_pos hc42] at h
        refine x_iconst (v := 0) dX11_count_187 (by decide) ?_
        refine x_iadd dX11_count_188 ?_
        refine x_istore_n (i := 2) (lv2 := [(2, xI (x2 + (0 : Int32))), (0, xR x0), (3, xI x3)]) dX11_count_189 rfl (by decide) rfl ?_
        refine x_iinc (j := 2) (i := 3) (v := x3 + (1 : Int32)) (lv2 := [(3, xI (x3 + (1 : Int32))), (2, xI (x2 + (0 : Int32))), (0, xR x0)]) dX11_count_190 rfl rfl (by decide) rfl ?_
        refine x_goto (tgt := 165) dX11_count_193 (by decide) ?_
        refine x_lv (lv2 := [(0, xR x0), (2, xI (x2 + (0 : Int32))), (3, xI (x3 + (1 : Int32)))]) [2, 1, 0] rfl ?_
        exact ih x0 (x2 + (0 : Int32)) (x3 + (1 : Int32)) w h
      · rw [if_neg hc42] at h
        refine x_iconst (v := 1) dX11_count_183 (by decide) ?_
        refine x_goto (tgt := 188) dX11_count_184 (by decide) ?_
        refine x_iadd dX11_count_188 ?_
        refine x_istore_n (i := 2) (lv2 := [(2, xI (x2 + (1 : Int32))), (0, xR x0), (3, xI x3)]) dX11_count_189 rfl (by decide) rfl ?_
        refine x_iinc (j := 2) (i := 3) (v := x3 + (1 : Int32)) (lv2 := [(3, xI (x3 + (1 : Int32))), (2, xI (x2 + (1 : Int32))), (0, xR x0)]) dX11_count_190 rfl rfl (by decide) rfl ?_
        refine x_goto (tgt := 165) dX11_count_193 (by decide) ?_
        refine x_lv (lv2 := [(0, xR x0), (2, xI (x2 + (1 : Int32))), (3, xI (x3 + (1 : Int32)))]) [2, 1, 0] rfl ?_
        exact ih x0 (x2 + (1 : Int32)) (x3 + (1 : Int32)) w h
set_option maxRecDepth 20000 in
theorem c_X11_count (x0 : Nat) (x1 : Int32) (w : xSt) (rE : Int32) (wE : xSt) (h : f_X11_count x0 x1 w = some (rE, wE)) : xCall yX11_count cX11_count 4 (some .int) 1 0 0 [xR x0, xI x1] w (some (xI rE), wE) := by
  refine xCall_of false (by decide) (fun q => nomatch q) (Nat.le_of_ble_eq_true rfl) ?_
  show xX cX11_count 4 (some .int) RX11 false (xRm 1 0 0) (xZf (some (xI rE), wE) 0 0) 0 [(0, xR x0), (1, xI x1)] [] w 0 0
  unfold f_X11_count at h
  refine x_iconst (v := 0) dX11_count_0 (by decide) ?_
  refine x_istore_n (i := 2) (lv2 := [(2, xI (0 : Int32)), (0, xR x0), (1, xI x1)]) dX11_count_1 rfl (by decide) rfl ?_
  refine x_iload_n (j := 2) (i := 1) dX11_count_2 rfl rfl ?_
  by_cases hc1 : x1 = (0 : Int32)
  · rw [if_pos hc1] at h
    refine x_tsw (off := 69) (tgt := 72) dX11_count_3 (by rw [hc1]; decide) (by rw [hc1]; decide) (by rw [hc1]; decide) (by decide) ?_
    refine x_aload_n (j := 1) (i := 0) dX11_count_72 rfl rfl ?_
    obtain ⟨g2, h⟩ := gd_some h
    refine x_getI (ci := 11) (k := 0) dX11_count_73 lf_RX11_111 rfl g2 ?_
    refine x_aload_n (j := 1) (i := 0) dX11_count_76 rfl rfl ?_
    refine x_getI (ci := 11) (k := 1) dX11_count_77 lf_RX11_114 rfl g2 ?_
    refine x_imul dX11_count_80 ?_
    obtain ⟨hr9, hw9⟩ := Prod.mk.inj (Option.some.inj h)
    subst hw9
    subst hr9
    exact x_iret dX11_count_81 rfl rfl
  rw [if_neg hc1] at h
  by_cases hc3 : x1 = (1 : Int32)
  · rw [if_pos hc3] at h
    refine x_tsw (off := 79) (tgt := 82) dX11_count_3 (by rw [hc3]; decide) (by rw [hc3]; decide) (by rw [hc3]; decide) (by decide) ?_
    refine x_aload_n (j := 1) (i := 0) dX11_count_82 rfl rfl ?_
    obtain ⟨g4, h⟩ := gd_some h
    refine x_getI (ci := 11) (k := 5) dX11_count_83 lf_RX11_121 rfl g4 ?_
    obtain ⟨hr9, hw9⟩ := Prod.mk.inj (Option.some.inj h)
    subst hw9
    subst hr9
    exact x_iret dX11_count_86 rfl rfl
  rw [if_neg hc3] at h
  by_cases hc5 : x1 = (2 : Int32)
  · rw [if_pos hc5] at h
    refine x_tsw (off := 84) (tgt := 87) dX11_count_3 (by rw [hc5]; decide) (by rw [hc5]; decide) (by rw [hc5]; decide) (by decide) ?_
    refine x_aload_n (j := 1) (i := 0) dX11_count_87 rfl rfl ?_
    obtain ⟨g9, h⟩ := gd_some h
    obtain ⟨v6, w7, hc8, h⟩ := bd_s h
    refine x_callVI (ci := 11) dX11_count_88 ml_RX11_134 mb_X11_laid (c_X11_laid x0 w v6 w7 hc8) ⟨_, rfl, rfl⟩ g9 [] rfl rfl (Nat.le_of_ble_eq_true rfl) (by decide) (by decide) ?_
    obtain ⟨hr9, hw9⟩ := Prod.mk.inj (Option.some.inj h)
    subst hw9
    subst hr9
    exact x_iret dX11_count_91 rfl rfl
  rw [if_neg hc5] at h
  by_cases hc10 : x1 = (3 : Int32)
  · rw [if_pos hc10] at h
    refine x_tsw (off := 89) (tgt := 92) dX11_count_3 (by rw [hc10]; decide) (by rw [hc10]; decide) (by rw [hc10]; decide) (by decide) ?_
    refine x_aload_n (j := 1) (i := 0) dX11_count_92 rfl rfl ?_
    obtain ⟨g14, h⟩ := gd_some h
    obtain ⟨v11, w12, hc13, h⟩ := bd_s h
    refine x_callVI (ci := 11) dX11_count_93 ml_RX11_185 mb_X11_ins (c_X11_ins x0 w v11 w12 hc13) ⟨_, rfl, rfl⟩ g14 [] rfl rfl (Nat.le_of_ble_eq_true rfl) (by decide) (by decide) ?_
    obtain ⟨hr9, hw9⟩ := Prod.mk.inj (Option.some.inj h)
    subst hw9
    subst hr9
    exact x_iret dX11_count_96 rfl rfl
  rw [if_neg hc10] at h
  by_cases hc15 : x1 = (4 : Int32)
  · rw [if_pos hc15] at h
    refine x_tsw (off := 94) (tgt := 97) dX11_count_3 (by rw [hc15]; decide) (by rw [hc15]; decide) (by rw [hc15]; decide) (by decide) ?_
    refine x_aload_n (j := 1) (i := 0) dX11_count_97 rfl rfl ?_
    obtain ⟨g16, h⟩ := gd_some h
    refine x_getI (ci := 11) (k := 24) dX11_count_98 lf_RX11_169 rfl g16 ?_
    obtain ⟨hr9, hw9⟩ := Prod.mk.inj (Option.some.inj h)
    subst hw9
    subst hr9
    exact x_iret dX11_count_101 rfl rfl
  rw [if_neg hc15] at h
  by_cases hc17 : x1 = (5 : Int32)
  · rw [if_pos hc17] at h
    refine x_tsw (off := 99) (tgt := 102) dX11_count_3 (by rw [hc17]; decide) (by rw [hc17]; decide) (by rw [hc17]; decide) (by decide) ?_
    refine x_iconst (v := 0) dX11_count_102 (by decide) ?_
    refine x_istore_n (i := 3) (lv2 := [(3, xI (0 : Int32)), (2, xI (0 : Int32)), (0, xR x0), (1, xI x1)]) dX11_count_103 rfl (by decide) rfl ?_
    refine x_lv (lv2 := [(0, xR x0), (2, xI (0 : Int32)), (3, xI (0 : Int32))]) [2, 1, 0] rfl ?_
    exact k_X11_count_l104 rE wE xFu x0 (0 : Int32) (0 : Int32) w h
  rw [if_neg hc17] at h
  by_cases hc18 : x1 = (6 : Int32)
  · rw [if_pos hc18] at h
    refine x_tsw (off := 125) (tgt := 128) dX11_count_3 (by rw [hc18]; decide) (by rw [hc18]; decide) (by rw [hc18]; decide) (by decide) ?_
    refine x_aload_n (j := 1) (i := 0) dX11_count_128 rfl rfl ?_
    obtain ⟨g19, h⟩ := gd_some h
    refine x_getI (ci := 11) (k := 30) dX11_count_129 lf_RX11_263 rfl g19 ?_
    obtain ⟨hr9, hw9⟩ := Prod.mk.inj (Option.some.inj h)
    subst hw9
    subst hr9
    exact x_iret dX11_count_132 rfl rfl
  rw [if_neg hc18] at h
  by_cases hc20 : x1 = (7 : Int32)
  · rw [if_pos hc20] at h
    refine x_tsw (off := 130) (tgt := 133) dX11_count_3 (by rw [hc20]; decide) (by rw [hc20]; decide) (by rw [hc20]; decide) (by decide) ?_
    refine x_aload_n (j := 1) (i := 0) dX11_count_133 rfl rfl ?_
    obtain ⟨g21, h⟩ := gd_some h
    refine x_getI (ci := 11) (k := 31) dX11_count_134 lf_RX11_251 rfl g21 ?_
    obtain ⟨hr9, hw9⟩ := Prod.mk.inj (Option.some.inj h)
    subst hw9
    subst hr9
    exact x_iret dX11_count_137 rfl rfl
  rw [if_neg hc20] at h
  by_cases hc22 : x1 = (8 : Int32)
  · rw [if_pos hc22] at h
    refine x_tsw (off := 135) (tgt := 138) dX11_count_3 (by rw [hc22]; decide) (by rw [hc22]; decide) (by rw [hc22]; decide) (by decide) ?_
    refine x_aload_n (j := 1) (i := 0) dX11_count_138 rfl rfl ?_
    obtain ⟨g23, h⟩ := gd_some h
    refine x_getI (ci := 11) (k := 32) dX11_count_139 lf_RX11_254 rfl g23 ?_
    obtain ⟨hr9, hw9⟩ := Prod.mk.inj (Option.some.inj h)
    subst hw9
    subst hr9
    exact x_iret dX11_count_142 rfl rfl
  rw [if_neg hc22] at h
  by_cases hc24 : x1 = (9 : Int32)
  · rw [if_pos hc24] at h
    refine x_tsw (off := 140) (tgt := 143) dX11_count_3 (by rw [hc24]; decide) (by rw [hc24]; decide) (by rw [hc24]; decide) (by decide) ?_
    refine x_aload_n (j := 1) (i := 0) dX11_count_143 rfl rfl ?_
    obtain ⟨g25, h⟩ := gd_some h
    refine x_getI (ci := 11) (k := 33) dX11_count_144 lf_RX11_257 rfl g25 ?_
    obtain ⟨hr9, hw9⟩ := Prod.mk.inj (Option.some.inj h)
    subst hw9
    subst hr9
    exact x_iret dX11_count_147 rfl rfl
  rw [if_neg hc24] at h
  by_cases hc26 : x1 = (10 : Int32)
  · rw [if_pos hc26] at h
    refine x_tsw (off := 145) (tgt := 148) dX11_count_3 (by rw [hc26]; decide) (by rw [hc26]; decide) (by rw [hc26]; decide) (by decide) ?_
    refine x_aload_n (j := 1) (i := 0) dX11_count_148 rfl rfl ?_
    obtain ⟨g27, h⟩ := gd_some h
    refine x_getI (ci := 11) (k := 34) dX11_count_149 lf_RX11_260 rfl g27 ?_
    obtain ⟨hr9, hw9⟩ := Prod.mk.inj (Option.some.inj h)
    subst hw9
    subst hr9
    exact x_iret dX11_count_152 rfl rfl
  rw [if_neg hc26] at h
  by_cases hc28 : x1 = (11 : Int32)
  · rw [if_pos hc28] at h
    refine x_tsw (off := 150) (tgt := 153) dX11_count_3 (by rw [hc28]; decide) (by rw [hc28]; decide) (by rw [hc28]; decide) (by decide) ?_
    refine x_aload_n (j := 1) (i := 0) dX11_count_153 rfl rfl ?_
    obtain ⟨g29, h⟩ := gd_some h
    refine x_getI (ci := 11) (k := 35) dX11_count_154 lf_RX11_266 rfl g29 ?_
    obtain ⟨hr9, hw9⟩ := Prod.mk.inj (Option.some.inj h)
    subst hw9
    subst hr9
    exact x_iret dX11_count_157 rfl rfl
  rw [if_neg hc28] at h
  by_cases hc30 : x1 = (12 : Int32)
  · rw [if_pos hc30] at h
    refine x_tsw (off := 155) (tgt := 158) dX11_count_3 (by rw [hc30]; decide) (by rw [hc30]; decide) (by rw [hc30]; decide) (by decide) ?_
    refine x_aload_n (j := 1) (i := 0) dX11_count_158 rfl rfl ?_
    obtain ⟨g31, h⟩ := gd_some h
    refine x_getI (ci := 11) (k := 17) dX11_count_159 lf_RX11_212 rfl g31 ?_
    obtain ⟨hr9, hw9⟩ := Prod.mk.inj (Option.some.inj h)
    subst hw9
    subst hr9
    exact x_iret dX11_count_162 rfl rfl
  rw [if_neg hc30] at h
  by_cases hc32 : x1 = (13 : Int32)
  · rw [if_pos hc32] at h
    refine x_tsw (off := 160) (tgt := 163) dX11_count_3 (by rw [hc32]; decide) (by rw [hc32]; decide) (by rw [hc32]; decide) (by decide) ?_
    refine x_iconst (v := 0) dX11_count_163 (by decide) ?_
    refine x_istore_n (i := 3) (lv2 := [(3, xI (0 : Int32)), (2, xI (0 : Int32)), (0, xR x0), (1, xI x1)]) dX11_count_164 rfl (by decide) rfl ?_
    refine x_lv (lv2 := [(0, xR x0), (2, xI (0 : Int32)), (3, xI (0 : Int32))]) [2, 1, 0] rfl ?_
    exact k_X11_count_l165 rE wE xFu x0 (0 : Int32) (0 : Int32) w h
  rw [if_neg hc32] at h
  refine x_tswD (tgt := 198) dX11_count_3 (by have t0 := lv_neT hc1 (by decide : (0 : Int32).toInt = 0); have t1 := lv_neT hc3 (by decide : (1 : Int32).toInt = 1); have t2 := lv_neT hc5 (by decide : (2 : Int32).toInt = 2); have t3 := lv_neT hc10 (by decide : (3 : Int32).toInt = 3); have t4 := lv_neT hc15 (by decide : (4 : Int32).toInt = 4); have t5 := lv_neT hc17 (by decide : (5 : Int32).toInt = 5); have t6 := lv_neT hc18 (by decide : (6 : Int32).toInt = 6); have t7 := lv_neT hc20 (by decide : (7 : Int32).toInt = 7); have t8 := lv_neT hc22 (by decide : (8 : Int32).toInt = 8); have t9 := lv_neT hc24 (by decide : (9 : Int32).toInt = 9); have t10 := lv_neT hc26 (by decide : (10 : Int32).toInt = 10); have t11 := lv_neT hc28 (by decide : (11 : Int32).toInt = 11); have t12 := lv_neT hc30 (by decide : (12 : Int32).toInt = 12); have t13 := lv_neT hc32 (by decide : (13 : Int32).toInt = 13); omega) (by decide) ?_
  refine x_iconst (v := -1) dX11_count_198 (by decide) ?_
  obtain ⟨hr9, hw9⟩ := Prod.mk.inj (Option.some.inj h)
  subst hw9
  subst hr9
  exact x_iret dX11_count_199 rfl rfl
set_option maxRecDepth 20000 in
theorem c_L_cell (x1 : Int32) (w : xSt) (rE : Int32) (wE : xSt) (h : f_L_cell x1 w = some (rE, wE)) : xCall yL_cell cL_cell 2 (some .int) 0 0 0 [xR 1020, xI x1] w (some (xI rE), wE) := by
  refine xCall_of false (by decide) (fun q => nomatch q) (Nat.le_of_ble_eq_true rfl) ?_
  show xX cL_cell 2 (some .int) RL false (xRm 0 0 0) (xZf (some (xI rE), wE) 0 0) 0 [(0, xR 1020), (1, xI x1)] [] w 0 0
  unfold f_L_cell at h
  refine x_iload_n (j := 1) (i := 1) dL_cell_0 rfl rfl ?_
  refine x_aload_n (j := 0) (i := 0) dL_cell_1 rfl rfl ?_
  refine x_xlen dL_cell_2 ?_
  refine x_icmp_ge (tgt := 12) dL_cell_3 (by decide) (fun hc1 => ?_) (fun hc1 => ?_)
  · rw [if_pos hc1] at h
    refine x_iconst (v := 0) dL_cell_12 (by decide) ?_
    obtain ⟨hr9, hw9⟩ := Prod.mk.inj (Option.some.inj h)
    subst hw9
    subst hr9
    exact x_iret dL_cell_13 rfl rfl
  · rw [if_neg hc1] at h
    refine x_aload_n (j := 0) (i := 0) dL_cell_6 rfl rfl ?_
    refine x_iload_n (j := 1) (i := 1) dL_cell_7 rfl rfl ?_
    obtain ⟨g2, h⟩ := gd_some h
    refine x_xald g2 dL_cell_8 ?_
    refine x_goto (tgt := 13) dL_cell_9 (by decide) ?_
    obtain ⟨hr9, hw9⟩ := Prod.mk.inj (Option.some.inj h)
    subst hw9
    subst hr9
    exact x_iret dL_cell_13 rfl rfl

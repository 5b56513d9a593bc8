set_option maxRecDepth 20000 in
theorem k_X11_row_b125 (k40 : Nat → Int32 → Int32 → Int32 → xSt → Option (Int32 × xSt)) (k87 : Nat → Int32 → Int32 → Int32 → Int32 → xSt → Option (Int32 × xSt)) (rE : Int32) (wE : xSt) (hk40 : ∀ (x0 : Nat) (x1 : Int32) (x2 : Int32) (x3 : Int32) (w : xSt), k40 x0 x1 x2 x3 w = some (rE, wE) → xX cX11_row 6 (some .int) RX11 false (xRm 6 0 0) (xZf (some (xI rE), wE) 0 0) 40 [(0, xR x0), (1, xI x1), (2, xI x2), (3, xI x3)] [] w 0 0) (hk87 : ∀ (x0 : Nat) (x1 : Int32) (x2 : Int32) (x3 : Int32) (x4 : Int32) (w : xSt), k87 x0 x1 x2 x3 x4 w = some (rE, wE) → xX cX11_row 6 (some .int) RX11 false (xRm 6 0 0) (xZf (some (xI rE), wE) 0 0) 87 [(0, xR x0), (1, xI x1), (2, xI x2), (3, xI x3), (4, xI x4)] [] w 0 0) (x0 : Nat) (x1 : Int32) (x2 : Int32) (x3 : Int32) (x4 : Int32) (s0 : Int32) (w : xSt) (h : f_X11_row_b125 k40 k87 x0 x1 x2 x3 x4 s0 w = some (rE, wE)) : xX cX11_row 6 (some .int) RX11 false (xRm 6 0 0) (xZf (some (xI rE), wE) 0 0) 125 [(0, xR x0), (1, xI x1), (2, xI x2), (3, xI x3), (4, xI x4)] [xI s0] w 0 0 := by
  unfold f_X11_row_b125 at h
  refine x_istore (i := 5) (lv2 := [(5, xI s0), (0, xR x0), (1, xI x1), (2, xI x2), (3, xI x3), (4, xI x4)]) dX11_row_125 (by decide) rfl ?_
  refine x_aload_n (j := 1) (i := 0) dX11_row_127 rfl rfl ?_
  obtain ⟨g40, h⟩ := gd_some h
  refine x_getR (ci := 11) (k := 44) dX11_row_128 lf_RX11_102 rfl g40 ?_
  refine x_iload_n (j := 4) (i := 3) dX11_row_131 rfl rfl ?_
  refine x_aload_n (j := 1) (i := 0) dX11_row_132 rfl rfl ?_
  refine x_getR (ci := 11) (k := 44) dX11_row_133 lf_RX11_102 rfl g40 ?_
  refine x_iload_n (j := 4) (i := 3) dX11_row_136 rfl rfl ?_
  obtain ⟨g41, h⟩ := gd_some h
  obtain ⟨g42, h⟩ := gd_some h
  refine x_zald dX11_row_137 g41 g42 ?_
  refine x_if_ne (tgt := 160) dX11_row_138 (by decide) (fun hc43 => ?_) (fun hc43 => ?_)
  · rw [if_neg hc43] at h
    refine x_iconst (v := 1) dX11_row_160 (by decide) ?_
    refine x_goto (tgt := 165) dX11_row_161 (by decide) ?_
    obtain ⟨w44, hw45, h⟩ := lt1_some h
    refine x_zast dX11_row_165 g41 g42 ?_
    rw [← hw45]
    refine x_iinc (j := 5) (i := 4) (v := x4 + (1 : Int32)) (lv2 := [(4, xI (x4 + (1 : Int32))), (5, xI s0), (0, xR x0), (1, xI x1), (2, xI x2), (3, xI x3)]) dX11_row_166 rfl rfl (by decide) rfl ?_
    refine x_goto (tgt := 87) dX11_row_169 (by decide) ?_
    refine x_lv (lv2 := [(0, xR x0), (1, xI x1), (2, xI x2), (3, xI x3), (4, xI (x4 + (1 : Int32)))]) [2, 3, 4, 5, 0] rfl ?_
    exact hk87 x0 x1 x2 x3 (x4 + (1 : Int32)) w44 h
  · rw [if_pos hc43] at h
    refine x_iload (j := 0) (i := 5) dX11_row_141 rfl ?_
    refine x_if_eq (tgt := 164) dX11_row_143 (by decide) (fun hc46 => ?_) (fun hc46 => ?_)
    · rw [if_pos hc46] at h
      refine x_iconst (v := 0) dX11_row_164 (by decide) ?_
      obtain ⟨w47, hw48, h⟩ := lt1_some h
      refine x_zast dX11_row_165 g41 g42 ?_
      rw [← hw48]
      refine x_iinc (j := 5) (i := 4) (v := x4 + (1 : Int32)) (lv2 := [(4, xI (x4 + (1 : Int32))), (5, xI s0), (0, xR x0), (1, xI x1), (2, xI x2), (3, xI x3)]) dX11_row_166 rfl rfl (by decide) rfl ?_
      refine x_goto (tgt := 87) dX11_row_169 (by decide) ?_
      refine x_lv (lv2 := [(0, xR x0), (1, xI x1), (2, xI x2), (3, xI x3), (4, xI (x4 + (1 : Int32)))]) [2, 3, 4, 5, 0] rfl ?_
      exact hk87 x0 x1 x2 x3 (x4 + (1 : Int32)) w47 h
    · rw [if_neg hc46] at h
      refine x_aload_n (j := 1) (i := 0) dX11_row_146 rfl rfl ?_
      refine x_getR (ci := 11) (k := 44) dX11_row_147 lf_RX11_102 rfl g40 ?_
      refine x_iload_n (j := 4) (i := 3) dX11_row_150 rfl rfl ?_
      refine x_iconst (v := 1) dX11_row_151 (by decide) ?_
      refine x_iload (j := 5) (i := 4) dX11_row_152 rfl ?_
      refine x_ishl dX11_row_154 ?_
      refine x_ior dX11_row_155 ?_
      obtain ⟨g49, h⟩ := gd_some h
      refine x_zald dX11_row_156 g41 g49 ?_
      refine x_if_eq (tgt := 164) dX11_row_157 (by decide) (fun hc50 => ?_) (fun hc50 => ?_)
      · rw [if_pos hc50] at h
        refine x_iconst (v := 0) dX11_row_164 (by decide) ?_
        obtain ⟨w51, hw52, h⟩ := lt1_some h
        refine x_zast dX11_row_165 g41 g42 ?_
        rw [← hw52]
        refine x_iinc (j := 5) (i := 4) (v := x4 + (1 : Int32)) (lv2 := [(4, xI (x4 + (1 : Int32))), (5, xI s0), (0, xR x0), (1, xI x1), (2, xI x2), (3, xI x3)]) dX11_row_166 rfl rfl (by decide) rfl ?_
        refine x_goto (tgt := 87) dX11_row_169 (by decide) ?_
        refine x_lv (lv2 := [(0, xR x0), (1, xI x1), (2, xI x2), (3, xI x3), (4, xI (x4 + (1 : Int32)))]) [2, 3, 4, 5, 0] rfl ?_
        exact hk87 x0 x1 x2 x3 (x4 + (1 : Int32)) w51 h
      · rw [if_neg hc50] at h
        refine x_iconst (v := 1) dX11_row_160 (by decide) ?_
        refine x_goto (tgt := 165) dX11_row_161 (by decide) ?_
        obtain ⟨w53, hw54, h⟩ := lt1_some h
        refine x_zast dX11_row_165 g41 g42 ?_
        rw [← hw54]
        refine x_iinc (j := 5) (i := 4) (v := x4 + (1 : Int32)) (lv2 := [(4, xI (x4 + (1 : Int32))), (5, xI s0), (0, xR x0), (1, xI x1), (2, xI x2), (3, xI x3)]) dX11_row_166 rfl rfl (by decide) rfl ?_
        refine x_goto (tgt := 87) dX11_row_169 (by decide) ?_
        refine x_lv (lv2 := [(0, xR x0), (1, xI x1), (2, xI x2), (3, xI x3), (4, xI (x4 + (1 : Int32)))]) [2, 3, 4, 5, 0] rfl ?_
        exact hk87 x0 x1 x2 x3 (x4 + (1 : Int32)) w53 h
set_option maxRecDepth 20000 in
theorem k_X11_row_l87 (k40 : Nat → Int32 → Int32 → Int32 → xSt → Option (Int32 × xSt)) (rE : Int32) (wE : xSt) (hk40 : ∀ (x0 : Nat) (x1 : Int32) (x2 : Int32) (x3 : Int32) (w : xSt), k40 x0 x1 x2 x3 w = some (rE, wE) → xX cX11_row 6 (some .int) RX11 false (xRm 6 0 0) (xZf (some (xI rE), wE) 0 0) 40 [(0, xR x0), (1, xI x1), (2, xI x2), (3, xI x3)] [] w 0 0) : ∀ (n : Nat) (x0 : Nat) (x1 : Int32) (x2 : Int32) (x3 : Int32) (x4 : Int32) (w : xSt), f_X11_row_l87 k40 n x0 x1 x2 x3 x4 w = some (rE, wE) → xX cX11_row 6 (some .int) RX11 false (xRm 6 0 0) (xZf (some (xI rE), wE) 0 0) 87 [(0, xR x0), (1, xI x1), (2, xI x2), (3, xI x3), (4, xI x4)] [] w 0 0 := by
  intro n
  induction n with
  | zero => intro x0 x1 x2 x3 x4 w h; exact nomatch (show (none : Option (Int32 × xSt)) = some (rE, wE) from h)
  | succ n ih =>
    intro x0 x1 x2 x3 x4 w h
    rw [f_X11_row_l87_s] at h
    refine x_iload (j := 4) (i := 4) dX11_row_87 rfl ?_
    refine x_aload_n (j := 0) (i := 0) dX11_row_89 rfl rfl ?_
    obtain ⟨g34, h⟩ := gd_some h
    refine x_getI (ci := 11) (k := 5) dX11_row_90 lf_RX11_121 rfl g34 ?_
    refine x_icmp_ge (tgt := 172) dX11_row_93 (by decide) (fun hc35 => ?_) (fun hc35 => ?_)
    · rw [if_pos hc35] at h
      refine x_iinc (j := 3) (i := 3) (v := x3 + (-1 : Int32)) (lv2 := [(3, xI (x3 + (-1 : Int32))), (0, xR x0), (1, xI x1), (2, xI x2), (4, xI x4)]) dX11_row_172 rfl rfl (by decide) rfl ?_
      refine x_goto (tgt := 40) dX11_row_175 (by decide) ?_
      refine x_lv (lv2 := [(0, xR x0), (1, xI x1), (2, xI x2), (3, xI (x3 + (-1 : Int32)))]) [1, 2, 3, 0] rfl ?_
      exact hk40 x0 x1 x2 (x3 + (-1 : Int32)) w h
    · rw [if_neg hc35] at h
      refine x_iload_n (j := 3) (i := 3) dX11_row_96 rfl rfl ?_
      refine x_iload (j := 4) (i := 4) dX11_row_97 rfl ?_
      refine x_ishr dX11_row_99 ?_
      refine x_iconst (v := 1) dX11_row_100 (by decide) ?_
      refine x_iand dX11_row_101 ?_
      refine x_if_ne (tgt := 124) dX11_row_102 (by decide) (fun hc36 => ?_) (fun hc36 => ?_)
      · rw [if_neg hc36] at h
        refine x_iconst (v := 0) dX11_row_124 (by decide) ?_
        refine x_lv (lv2 := [(0, xR x0), (1, xI x1), (2, xI x2), (3, xI x3), (4, xI x4)]) [0, 1, 2, 3, 4] rfl ?_
        exact k_X11_row_b125 k40 (f_X11_row_l87 k40 n) rE wE hk40 ih x0 x1 x2 x3 x4 (0 : Int32) w h
      · rw [if_pos hc36] at h
        refine x_aload_n (j := 0) (i := 0) dX11_row_105 rfl rfl ?_
        refine x_getR (ci := 11) (k := 43) dX11_row_106 lf_RX11_99 rfl g34 ?_
        refine x_iload_n (j := 3) (i := 3) dX11_row_109 rfl rfl ?_
        obtain ⟨g37, h⟩ := gd_some h
        obtain ⟨g38, h⟩ := gd_some h
        refine x_iald dX11_row_110 g37 g38 ?_
        refine x_iload (j := 4) (i := 4) dX11_row_111 rfl ?_
        refine x_ishr dX11_row_113 ?_
        refine x_iconst (v := 1) dX11_row_114 (by decide) ?_
        refine x_iand dX11_row_115 ?_
        refine x_iconst (v := 1) dX11_row_116 (by decide) ?_
        refine x_icmp_ne (tgt := 124) dX11_row_117 (by decide) (fun hc39 => ?_) (fun hc39 => ?_)
        · rw [if_neg hc39] at h
          refine x_iconst (v := 0) dX11_row_124 (by decide) ?_
          refine x_lv (lv2 := [(0, xR x0), (1, xI x1), (2, xI x2), (3, xI x3), (4, xI x4)]) [0, 1, 2, 3, 4] rfl ?_
          exact k_X11_row_b125 k40 (f_X11_row_l87 k40 n) rE wE hk40 ih x0 x1 x2 x3 x4 (0 : Int32) w h
        · rw [if_pos hc39] at h
          refine x_iconst (v := 1) dX11_row_120 (by decide) ?_
          refine x_goto (tgt := 125) dX11_row_121 (by decide) ?_
          refine x_lv (lv2 := [(0, xR x0), (1, xI x1), (2, xI x2), (3, xI x3), (4, xI x4)]) [0, 1, 2, 3, 4] rfl ?_
          exact k_X11_row_b125 k40 (f_X11_row_l87 k40 n) rE wE hk40 ih x0 x1 x2 x3 x4 (1 : Int32) w h
set_option maxRecDepth 20000 in
theorem k_X11_row_b59 (k40 : Nat → Int32 → Int32 → Int32 → xSt → Option (Int32 × xSt)) (rE : Int32) (wE : xSt) (hk40 : ∀ (x0 : Nat) (x1 : Int32) (x2 : Int32) (x3 : Int32) (w : xSt), k40 x0 x1 x2 x3 w = some (rE, wE) → xX cX11_row 6 (some .int) RX11 false (xRm 6 0 0) (xZf (some (xI rE), wE) 0 0) 40 [(0, xR x0), (1, xI x1), (2, xI x2), (3, xI x3)] [] w 0 0) (x0 : Nat) (x1 : Int32) (x2 : Int32) (x3 : Int32) (s0 : Nat) (s1 : Int32) (s2 : Int32) (w : xSt) (h : f_X11_row_b59 k40 x0 x1 x2 x3 s0 s1 s2 w = some (rE, wE)) : xX cX11_row 6 (some .int) RX11 false (xRm 6 0 0) (xZf (some (xI rE), wE) 0 0) 59 [(0, xR x0), (1, xI x1), (2, xI x2), (3, xI x3)] [xI s2, xI s1, xR s0] w 0 0 := by
  unfold f_X11_row_b59 at h
  obtain ⟨g20, h⟩ := gd_some h
  obtain ⟨g21, h⟩ := gd_some h
  obtain ⟨w22, hw23, h⟩ := lt1_some h
  refine x_zast dX11_row_59 g20 g21 ?_
  rw [← hw23]
  refine x_iload_n (j := 3) (i := 3) dX11_row_60 rfl rfl ?_
  refine x_iload_n (j := 2) (i := 2) dX11_row_61 rfl rfl ?_
  refine x_iconst (v := -1) dX11_row_62 (by decide) ?_
  refine x_ixor dX11_row_63 ?_
  refine x_iand dX11_row_64 ?_
  refine x_if_ne (tgt := 172) dX11_row_65 (by decide) (fun hc24 => ?_) (fun hc24 => ?_)
  · rw [if_neg hc24] at h
    refine x_iinc (j := 3) (i := 3) (v := x3 + (-1 : Int32)) (lv2 := [(3, xI (x3 + (-1 : Int32))), (0, xR x0), (1, xI x1), (2, xI x2)]) dX11_row_172 rfl rfl (by decide) rfl ?_
    refine x_goto (tgt := 40) dX11_row_175 (by decide) ?_
    refine x_lv (lv2 := [(0, xR x0), (1, xI x1), (2, xI x2), (3, xI (x3 + (-1 : Int32)))]) [1, 2, 3, 0] rfl ?_
    exact hk40 x0 x1 x2 (x3 + (-1 : Int32)) w22 h
  · rw [if_pos hc24] at h
    refine x_iload_n (j := 3) (i := 3) dX11_row_68 rfl rfl ?_
    refine x_iload_n (j := 2) (i := 2) dX11_row_69 rfl rfl ?_
    refine x_icmp_eq (tgt := 172) dX11_row_70 (by decide) (fun hc25 => ?_) (fun hc25 => ?_)
    · rw [if_pos hc25] at h
      refine x_iinc (j := 3) (i := 3) (v := x3 + (-1 : Int32)) (lv2 := [(3, xI (x3 + (-1 : Int32))), (0, xR x0), (1, xI x1), (2, xI x2)]) dX11_row_172 rfl rfl (by decide) rfl ?_
      refine x_goto (tgt := 40) dX11_row_175 (by decide) ?_
      refine x_lv (lv2 := [(0, xR x0), (1, xI x1), (2, xI x2), (3, xI (x3 + (-1 : Int32)))]) [1, 2, 3, 0] rfl ?_
      exact hk40 x0 x1 x2 (x3 + (-1 : Int32)) w22 h
    · rw [if_neg hc25] at h
      refine x_aload_n (j := 0) (i := 0) dX11_row_73 rfl rfl ?_
      obtain ⟨g26, h⟩ := gd_some h
      refine x_getR (ci := 11) (k := 43) dX11_row_74 lf_RX11_99 rfl g26 ?_
      refine x_iload_n (j := 3) (i := 3) dX11_row_77 rfl rfl ?_
      refine x_aload_n (j := 0) (i := 0) dX11_row_78 rfl rfl ?_
      refine x_iload_n (j := 3) (i := 3) dX11_row_79 rfl rfl ?_
      obtain ⟨v27, w28, hc29, h⟩ := bd_s h
      refine x_callVI (ci := 11) dX11_row_80 ml_RX11_206 mb_X11_comeTo (c_X11_comeTo x0 x3 w22 v27 w28 hc29) ⟨_, rfl, rfl⟩ g26 [xI x3, xR (wR w22 x0 43)] rfl rfl (Nat.le_of_ble_eq_true rfl) (by decide) (by decide) ?_
      obtain ⟨g30, h⟩ := gd_some h
      obtain ⟨g31, h⟩ := gd_some h
      obtain ⟨w32, hw33, h⟩ := lt1_some h
      refine x_iast dX11_row_83 g30 g31 ?_
      rw [← hw33]
      refine x_iconst (v := 0) dX11_row_84 (by decide) ?_
      refine x_istore (i := 4) (lv2 := [(4, xI (0 : Int32)), (0, xR x0), (1, xI x1), (2, xI x2), (3, xI x3)]) dX11_row_85 (by decide) rfl ?_
      refine x_lv (lv2 := [(0, xR x0), (1, xI x1), (2, xI x2), (3, xI x3), (4, xI (0 : Int32))]) [1, 2, 3, 4, 0] rfl ?_
      exact k_X11_row_l87 k40 rE wE hk40 xFu x0 x1 x2 x3 (0 : Int32) w32 h
set_option maxRecDepth 20000 in
theorem k_X11_row_l220 (k211 : Nat → Int32 → Int32 → Int32 → Int32 → xSt → Option (Int32 × xSt)) (rE : Int32) (wE : xSt) (hk211 : ∀ (x0 : Nat) (x1 : Int32) (x3 : Int32) (x4 : Int32) (x5 : Int32) (w : xSt), k211 x0 x1 x3 x4 x5 w = some (rE, wE) → xX cX11_row 6 (some .int) RX11 false (xRm 6 0 0) (xZf (some (xI rE), wE) 0 0) 211 [(0, xR x0), (1, xI x1), (3, xI x3), (4, xI x4), (5, xI x5)] [] w 0 0) : ∀ (n : Nat) (x0 : Nat) (x1 : Int32) (x3 : Int32) (x4 : Int32) (x5 : Int32) (w : xSt), f_X11_row_l220 k211 n x0 x1 x3 x4 x5 w = some (rE, wE) → xX cX11_row 6 (some .int) RX11 false (xRm 6 0 0) (xZf (some (xI rE), wE) 0 0) 220 [(0, xR x0), (1, xI x1), (3, xI x3), (4, xI x4), (5, xI x5)] [] w 0 0 := by
  intro n
  induction n with
  | zero => intro x0 x1 x3 x4 x5 w h; exact nomatch (show (none : Option (Int32 × xSt)) = some (rE, wE) from h)
  | succ n ih =>
    intro x0 x1 x3 x4 x5 w h
    rw [f_X11_row_l220_s] at h
    refine x_iload_n (j := 2) (i := 3) dX11_row_220 rfl rfl ?_
    refine x_iload (j := 3) (i := 4) dX11_row_221 rfl ?_
    refine x_ishr dX11_row_223 ?_
    refine x_iconst (v := 1) dX11_row_224 (by decide) ?_
    refine x_iand dX11_row_225 ?_
    refine x_iconst (v := 1) dX11_row_226 (by decide) ?_
    refine x_icmp_eq (tgt := 258) dX11_row_227 (by decide) (fun hc56 => ?_) (fun hc56 => ?_)
    · rw [if_pos hc56] at h
      refine x_iinc (j := 3) (i := 4) (v := x4 + (1 : Int32)) (lv2 := [(4, xI (x4 + (1 : Int32))), (0, xR x0), (1, xI x1), (3, xI x3), (5, xI x5)]) dX11_row_258 rfl rfl (by decide) rfl ?_
      refine x_goto (tgt := 220) dX11_row_261 (by decide) ?_
      refine x_lv (lv2 := [(0, xR x0), (1, xI x1), (3, xI x3), (4, xI (x4 + (1 : Int32))), (5, xI x5)]) [1, 2, 3, 0, 4] rfl ?_
      exact ih x0 x1 x3 (x4 + (1 : Int32)) x5 w h
    · rw [if_neg hc56] at h
      refine x_aload_n (j := 0) (i := 0) dX11_row_230 rfl rfl ?_
      obtain ⟨g57, h⟩ := gd_some h
      refine x_getR (ci := 11) (k := 43) dX11_row_231 lf_RX11_99 rfl g57 ?_
      refine x_iload_n (j := 2) (i := 3) dX11_row_234 rfl rfl ?_
      obtain ⟨g58, h⟩ := gd_some h
      obtain ⟨g59, h⟩ := gd_some h
      refine x_iald dX11_row_235 g58 g59 ?_
      refine x_iload (j := 3) (i := 4) dX11_row_236 rfl ?_
      refine x_ishr dX11_row_238 ?_
      refine x_iconst (v := 1) dX11_row_239 (by decide) ?_
      refine x_iand dX11_row_240 ?_
      refine x_if_eq (tgt := 258) dX11_row_241 (by decide) (fun hc60 => ?_) (fun hc60 => ?_)
      · rw [if_pos hc60] at h
        refine x_iinc (j := 3) (i := 4) (v := x4 + (1 : Int32)) (lv2 := [(4, xI (x4 + (1 : Int32))), (0, xR x0), (1, xI x1), (3, xI x3), (5, xI x5)]) dX11_row_258 rfl rfl (by decide) rfl ?_
        refine x_goto (tgt := 220) dX11_row_261 (by decide) ?_
        refine x_lv (lv2 := [(0, xR x0), (1, xI x1), (3, xI x3), (4, xI (x4 + (1 : Int32))), (5, xI x5)]) [1, 2, 3, 0, 4] rfl ?_
        exact ih x0 x1 x3 (x4 + (1 : Int32)) x5 w h
      · rw [if_neg hc60] at h
        refine x_aload_n (j := 0) (i := 0) dX11_row_244 rfl rfl ?_
        refine x_getR (ci := 11) (k := 44) dX11_row_245 lf_RX11_102 rfl g57 ?_
        refine x_iload_n (j := 2) (i := 3) dX11_row_248 rfl rfl ?_
        refine x_iconst (v := 1) dX11_row_249 (by decide) ?_
        refine x_iload (j := 3) (i := 4) dX11_row_250 rfl ?_
        refine x_ishl dX11_row_252 ?_
        refine x_ior dX11_row_253 ?_
        obtain ⟨g61, h⟩ := gd_some h
        obtain ⟨g62, h⟩ := gd_some h
        refine x_zald dX11_row_254 g61 g62 ?_
        refine x_if_ne (tgt := 264) dX11_row_255 (by decide) (fun hc63 => ?_) (fun hc63 => ?_)
        · rw [if_neg hc63] at h
          refine x_iload_n (j := 2) (i := 3) dX11_row_264 rfl rfl ?_
          refine x_iconst (v := 1) dX11_row_265 (by decide) ?_
          refine x_iload (j := 3) (i := 4) dX11_row_266 rfl ?_
          refine x_ishl dX11_row_268 ?_
          refine x_ior dX11_row_269 ?_
          refine x_istore_n (i := 3) (lv2 := [(3, xI (x3 ||| ((1 : Int32) <<< (x4 &&& 31)))), (0, xR x0), (1, xI x1), (4, xI x4), (5, xI x5)]) dX11_row_270 rfl (by decide) rfl ?_
          refine x_iinc (j := 4) (i := 5) (v := x5 + (1 : Int32)) (lv2 := [(5, xI (x5 + (1 : Int32))), (3, xI (x3 ||| ((1 : Int32) <<< (x4 &&& 31)))), (0, xR x0), (1, xI x1), (4, xI x4)]) dX11_row_271 rfl rfl (by decide) rfl ?_
          refine x_goto (tgt := 211) dX11_row_274 (by decide) ?_
          refine x_lv (lv2 := [(0, xR x0), (1, xI x1), (3, xI (x3 ||| ((1 : Int32) <<< (x4 &&& 31)))), (4, xI x4), (5, xI (x5 + (1 : Int32)))]) [2, 3, 1, 4, 0] rfl ?_
          exact hk211 x0 x1 (x3 ||| ((1 : Int32) <<< (x4 &&& 31))) x4 (x5 + (1 : Int32)) w h
        · rw [if_pos hc63] at h
          refine x_iinc (j := 3) (i := 4) (v := x4 + (1 : Int32)) (lv2 := [(4, xI (x4 + (1 : Int32))), (0, xR x0), (1, xI x1), (3, xI x3), (5, xI x5)]) dX11_row_258 rfl rfl (by decide) rfl ?_
          refine x_goto (tgt := 220) dX11_row_261 (by decide) ?_
          refine x_lv (lv2 := [(0, xR x0), (1, xI x1), (3, xI x3), (4, xI (x4 + (1 : Int32))), (5, xI x5)]) [1, 2, 3, 0, 4] rfl ?_
          exact ih x0 x1 x3 (x4 + (1 : Int32)) x5 w h
set_option maxRecDepth 20000 in
theorem k_X11_row_l211 (rE : Int32) (wE : xSt) : ∀ (n : Nat) (x0 : Nat) (x1 : Int32) (x3 : Int32) (x4 : Int32) (x5 : Int32) (w : xSt), f_X11_row_l211 n x0 x1 x3 x4 x5 w = some (rE, wE) → xX cX11_row 6 (some .int) RX11 false (xRm 6 0 0) (xZf (some (xI rE), wE) 0 0) 211 [(0, xR x0), (1, xI x1), (3, xI x3), (4, xI x4), (5, xI x5)] [] w 0 0 := by
  intro n
  induction n with
  | zero => intro x0 x1 x3 x4 x5 w h; exact nomatch (show (none : Option (Int32 × xSt)) = some (rE, wE) from h)
  | succ n ih =>
    intro x0 x1 x3 x4 x5 w h
    rw [f_X11_row_l211_s] at h
    refine x_iload (j := 4) (i := 5) dX11_row_211 rfl ?_
    refine x_iload_n (j := 1) (i := 1) dX11_row_213 rfl rfl ?_
    refine x_icmp_gt (tgt := 277) dX11_row_214 (by decide) (fun hc55 => ?_) (fun hc55 => ?_)
    · rw [if_pos hc55] at h
      refine x_iload (j := 3) (i := 4) dX11_row_277 rfl ?_
      obtain ⟨hr9, hw9⟩ := Prod.mk.inj (Option.some.inj h)
      subst hw9
      subst hr9
      exact x_iret dX11_row_279 rfl rfl
    · rw [if_neg hc55] at h
      refine x_iconst (v := 0) dX11_row_217 (by decide) ?_
      refine x_istore (i := 4) (lv2 := [(4, xI (0 : Int32)), (0, xR x0), (1, xI x1), (3, xI x3), (5, xI x5)]) dX11_row_218 (by decide) rfl ?_
      refine x_lv (lv2 := [(0, xR x0), (1, xI x1), (3, xI x3), (4, xI (0 : Int32)), (5, xI x5)]) [1, 2, 3, 0, 4] rfl ?_
      exact k_X11_row_l220 (f_X11_row_l211 n) rE wE ih xFu x0 x1 x3 (0 : Int32) x5 w h
set_option maxRecDepth 20000 in
theorem k_X11_row_l40 (rE : Int32) (wE : xSt) : ∀ (n : Nat) (x0 : Nat) (x1 : Int32) (x2 : Int32) (x3 : Int32) (w : xSt), f_X11_row_l40 n x0 x1 x2 x3 w = some (rE, wE) → xX cX11_row 6 (some .int) RX11 false (xRm 6 0 0) (xZf (some (xI rE), wE) 0 0) 40 [(0, xR x0), (1, xI x1), (2, xI x2), (3, xI x3)] [] w 0 0 := by
  intro n
  induction n with
  | zero => intro x0 x1 x2 x3 w h; exact nomatch (show (none : Option (Int32 × xSt)) = some (rE, wE) from h)
  | succ n ih =>
    intro x0 x1 x2 x3 w h
    rw [f_X11_row_l40_s] at h
    refine x_iload_n (j := 3) (i := 3) dX11_row_40 rfl rfl ?_
    refine x_if_lt (tgt := 178) dX11_row_41 (by decide) (fun hc6 => ?_) (fun hc6 => ?_)
    · rw [if_pos hc6] at h
      refine x_aload_n (j := 0) (i := 0) dX11_row_178 rfl rfl ?_
      obtain ⟨g7, h⟩ := gd_some h
      refine x_getR (ci := 11) (k := 44) dX11_row_179 lf_RX11_102 rfl g7 ?_
      refine x_iconst (v := 0) dX11_row_182 (by decide) ?_
      obtain ⟨g8, h⟩ := gd_some h
      obtain ⟨g9, h⟩ := gd_some h
      refine x_zald dX11_row_183 g8 g9 ?_
      refine x_if_eq (tgt := 201) dX11_row_184 (by decide) (fun hc10 => ?_) (fun hc10 => ?_)
      · rw [if_pos hc10] at h
        refine x_iconst (v := -1) dX11_row_201 (by decide) ?_
        obtain ⟨hr9, hw9⟩ := Prod.mk.inj (Option.some.inj h)
        subst hw9
        subst hr9
        exact x_iret dX11_row_202 rfl rfl
      · rw [if_neg hc10] at h
        refine x_iload_n (j := 1) (i := 1) dX11_row_187 rfl rfl ?_
        refine x_iconst (v := 0) dX11_row_188 (by decide) ?_
        refine x_aload_n (j := 0) (i := 0) dX11_row_189 rfl rfl ?_
        obtain ⟨v11, w12, hc13, h⟩ := bd_s h
        refine x_callVI (ci := 11) dX11_row_190 ml_RX11_134 mb_X11_laid (c_X11_laid x0 w v11 w12 hc13) ⟨_, rfl, rfl⟩ g7 [xI (0 : Int32), xI x1] rfl rfl (Nat.le_of_ble_eq_true rfl) (by decide) (by decide) ?_
        refine x_iconst (v := 1) dX11_row_193 (by decide) ?_
        refine x_isub dX11_row_194 ?_
        obtain ⟨v14, w15, hc16, h⟩ := bd_s h
        refine x_callSI dX11_row_195 ml_RX11_117 mb_X11_in (c_X11_in x1 (0 : Int32) (v11 - (1 : Int32)) w12 v14 w15 hc16) [] rfl rfl (Nat.le_of_ble_eq_true rfl) (by decide) (by decide) ?_
        refine x_if_ne (tgt := 203) dX11_row_198 (by decide) (fun hc17 => ?_) (fun hc17 => ?_)
        · rw [if_neg hc17] at h
          refine x_iconst (v := 0) dX11_row_203 (by decide) ?_
          refine x_istore_n (i := 3) (lv2 := [(3, xI (0 : Int32)), (0, xR x0), (1, xI x1), (2, xI x2)]) dX11_row_204 rfl (by decide) rfl ?_
          refine x_iconst (v := -1) dX11_row_205 (by decide) ?_
          refine x_istore (i := 4) (lv2 := [(4, xI (-1 : Int32)), (3, xI (0 : Int32)), (0, xR x0), (1, xI x1), (2, xI x2)]) dX11_row_206 (by decide) rfl ?_
          refine x_iconst (v := 0) dX11_row_208 (by decide) ?_
          refine x_istore (i := 5) (lv2 := [(5, xI (0 : Int32)), (4, xI (-1 : Int32)), (3, xI (0 : Int32)), (0, xR x0), (1, xI x1), (2, xI x2)]) dX11_row_209 (by decide) rfl ?_
          refine x_lv (lv2 := [(0, xR x0), (1, xI x1), (3, xI (0 : Int32)), (4, xI (-1 : Int32)), (5, xI (0 : Int32))]) [3, 4, 2, 1, 0] rfl ?_
          exact k_X11_row_l211 rE wE xFu x0 x1 (0 : Int32) (-1 : Int32) (0 : Int32) w15 h
        · rw [if_pos hc17] at h
          refine x_iconst (v := -1) dX11_row_201 (by decide) ?_
          obtain ⟨hr9, hw9⟩ := Prod.mk.inj (Option.some.inj h)
          subst hw9
          subst hr9
          exact x_iret dX11_row_202 rfl rfl
    · rw [if_neg hc6] at h
      refine x_aload_n (j := 0) (i := 0) dX11_row_44 rfl rfl ?_
      obtain ⟨g18, h⟩ := gd_some h
      refine x_getR (ci := 11) (k := 44) dX11_row_45 lf_RX11_102 rfl g18 ?_
      refine x_iload_n (j := 3) (i := 3) dX11_row_48 rfl rfl ?_
      refine x_iload_n (j := 3) (i := 3) dX11_row_49 rfl rfl ?_
      refine x_iload_n (j := 2) (i := 2) dX11_row_50 rfl rfl ?_
      refine x_icmp_ne (tgt := 58) dX11_row_51 (by decide) (fun hc19 => ?_) (fun hc19 => ?_)
      · rw [if_neg hc19] at h
        refine x_iconst (v := 0) dX11_row_58 (by decide) ?_
        refine x_lv (lv2 := [(0, xR x0), (1, xI x1), (2, xI x2), (3, xI x3)]) [0, 1, 2, 3] rfl ?_
        exact k_X11_row_b59 (f_X11_row_l40 n) rE wE ih x0 x1 x2 x3 (wR w x0 44) x3 (0 : Int32) w h
      · rw [if_pos hc19] at h
        refine x_iconst (v := 1) dX11_row_54 (by decide) ?_
        refine x_goto (tgt := 59) dX11_row_55 (by decide) ?_
        refine x_lv (lv2 := [(0, xR x0), (1, xI x1), (2, xI x2), (3, xI x3)]) [0, 1, 2, 3] rfl ?_
        exact k_X11_row_b59 (f_X11_row_l40 n) rE wE ih x0 x1 x2 x3 (wR w x0 44) x3 (1 : Int32) w h
set_option maxRecDepth 20000 in
theorem k_X11_row_l4 (rE : Int32) (wE : xSt) : ∀ (n : Nat) (x0 : Nat) (x1 : Int32) (x2 : Int32) (x3 : Int32) (w : xSt), f_X11_row_l4 n x0 x1 x2 x3 w = some (rE, wE) → xX cX11_row 6 (some .int) RX11 false (xRm 6 0 0) (xZf (some (xI rE), wE) 0 0) 4 [(0, xR x0), (1, xI x1), (2, xI x2), (3, xI x3)] [] w 0 0 := by
  intro n
  induction n with
  | zero => intro x0 x1 x2 x3 w h; exact nomatch (show (none : Option (Int32 × xSt)) = some (rE, wE) from h)
  | succ n ih =>
    intro x0 x1 x2 x3 w h
    rw [f_X11_row_l4_s] at h
    refine x_iload_n (j := 3) (i := 3) dX11_row_4 rfl rfl ?_
    refine x_aload_n (j := 0) (i := 0) dX11_row_5 rfl rfl ?_
    obtain ⟨g1, h⟩ := gd_some h
    refine x_getI (ci := 11) (k := 5) dX11_row_6 lf_RX11_121 rfl g1 ?_
    refine x_icmp_ge (tgt := 38) dX11_row_9 (by decide) (fun hc2 => ?_) (fun hc2 => ?_)
    · rw [if_pos hc2] at h
      refine x_iload_n (j := 2) (i := 2) dX11_row_38 rfl rfl ?_
      refine x_istore_n (i := 3) (lv2 := [(3, xI x2), (0, xR x0), (1, xI x1), (2, xI x2)]) dX11_row_39 rfl (by decide) rfl ?_
      refine x_lv (lv2 := [(0, xR x0), (1, xI x1), (2, xI x2), (3, xI x2)]) [1, 2, 3, 0] rfl ?_
      exact k_X11_row_l40 rE wE xFu x0 x1 x2 x2 w h
    · rw [if_neg hc2] at h
      refine x_iload_n (j := 2) (i := 2) dX11_row_12 rfl rfl ?_
      refine x_aload_n (j := 0) (i := 0) dX11_row_13 rfl rfl ?_
      refine x_getR (ci := 11) (k := 12) dX11_row_14 lf_RX11_38 rfl g1 ?_
      refine x_iload_n (j := 3) (i := 3) dX11_row_17 rfl rfl ?_
      obtain ⟨g3, h⟩ := gd_some h
      obtain ⟨g4, h⟩ := gd_some h
      refine x_iald dX11_row_18 g3 g4 ?_
      refine x_iconst (v := -1) dX11_row_19 (by decide) ?_
      refine x_icmp_eq (tgt := 29) dX11_row_20 (by decide) (fun hc5 => ?_) (fun hc5 => ?_)
      · rw [if_pos hc5] at h
        refine x_iconst (v := 0) dX11_row_29 (by decide) ?_
        refine x_ior dX11_row_30 ?_
        refine x_istore_n (i := 2) (lv2 := [(2, xI (x2 ||| (0 : Int32))), (0, xR x0), (1, xI x1), (3, xI x3)]) dX11_row_31 rfl (by decide) rfl ?_
        refine x_iinc (j := 3) (i := 3) (v := x3 + (1 : Int32)) (lv2 := [(3, xI (x3 + (1 : Int32))), (2, xI (x2 ||| (0 : Int32))), (0, xR x0), (1, xI x1)]) dX11_row_32 rfl rfl (by decide) rfl ?_
        refine x_goto (tgt := 4) dX11_row_35 (by decide) ?_
        refine x_lv (lv2 := [(0, xR x0), (1, xI x1), (2, xI (x2 ||| (0 : Int32))), (3, xI (x3 + (1 : Int32)))]) [2, 3, 1, 0] rfl ?_
        exact ih x0 x1 (x2 ||| (0 : Int32)) (x3 + (1 : Int32)) w h
      · rw [if_neg hc5] at h
        refine x_iconst (v := 1) dX11_row_23 (by decide) ?_
        refine x_iload_n (j := 3) (i := 3) dX11_row_24 rfl rfl ?_
        refine x_ishl dX11_row_25 ?_
        refine x_goto (tgt := 30) dX11_row_26 (by decide) ?_
        refine x_ior dX11_row_30 ?_
        refine x_istore_n (i := 2) (lv2 := [(2, xI (x2 ||| ((1 : Int32) <<< (x3 &&& 31)))), (0, xR x0), (1, xI x1), (3, xI x3)]) dX11_row_31 rfl (by decide) rfl ?_
        refine x_iinc (j := 3) (i := 3) (v := x3 + (1 : Int32)) (lv2 := [(3, xI (x3 + (1 : Int32))), (2, xI (x2 ||| ((1 : Int32) <<< (x3 &&& 31)))), (0, xR x0), (1, xI x1)]) dX11_row_32 rfl rfl (by decide) rfl ?_
        refine x_goto (tgt := 4) dX11_row_35 (by decide) ?_
        refine x_lv (lv2 := [(0, xR x0), (1, xI x1), (2, xI (x2 ||| ((1 : Int32) <<< (x3 &&& 31)))), (3, xI (x3 + (1 : Int32)))]) [2, 3, 1, 0] rfl ?_
        exact ih x0 x1 (x2 ||| ((1 : Int32) <<< (x3 &&& 31))) (x3 + (1 : Int32)) w h
set_option maxRecDepth 20000 in
theorem c_X11_row (x0 : Nat) (x1 : Int32) (w : xSt) (rE : Int32) (wE : xSt) (h : f_X11_row x0 x1 w = some (rE, wE)) : xCall yX11_row cX11_row 6 (some .int) 6 0 0 [xR x0, xI x1] w (some (xI rE), wE) := by
  refine xCall_of false (by decide) (fun q => nomatch q) (Nat.le_of_ble_eq_true rfl) ?_
  show xX cX11_row 6 (some .int) RX11 false (xRm 6 0 0) (xZf (some (xI rE), wE) 0 0) 0 [(0, xR x0), (1, xI x1)] [] w 0 0
  unfold f_X11_row at h
  refine x_iconst (v := 0) dX11_row_0 (by decide) ?_
  refine x_istore_n (i := 2) (lv2 := [(2, xI (0 : Int32)), (0, xR x0), (1, xI x1)]) dX11_row_1 rfl (by decide) rfl ?_
  refine x_iconst (v := 0) dX11_row_2 (by decide) ?_
  refine x_istore_n (i := 3) (lv2 := [(3, xI (0 : Int32)), (2, xI (0 : Int32)), (0, xR x0), (1, xI x1)]) dX11_row_3 rfl (by decide) rfl ?_
  refine x_lv (lv2 := [(0, xR x0), (1, xI x1), (2, xI (0 : Int32)), (3, xI (0 : Int32))]) [2, 3, 1, 0] rfl ?_
  exact k_X11_row_l4 rE wE xFu x0 x1 (0 : Int32) (0 : Int32) w h
set_option maxRecDepth 20000 in
theorem k_X11_feed_l32 (rE : Int32) (wE : xSt) : ∀ (n : Nat) (x0 : Nat) (x1 : Int64) (x4 : Int32) (w : xSt), f_X11_feed_l32 n x0 x1 x4 w = some (rE, wE) → xX cX11_feed 5 (some .int) RX11 false (xRm 1 0 0) (xZf (some (xI rE), wE) 0 0) 32 [(0, xR x0), (1, xL x1), (4, xI x4)] [] w 0 0 := by
  intro n
  induction n with
  | zero => intro x0 x1 x4 w h; exact nomatch (show (none : Option (Int32 × xSt)) = some (rE, wE) from h)
  | succ n ih =>
    intro x0 x1 x4 w h
    rw [f_X11_feed_l32_s] at h
    refine x_iload (j := 2) (i := 4) dX11_feed_32 rfl ?_
    refine x_if_lt (tgt := 74) dX11_feed_34 (by decide) (fun hc7 => ?_) (fun hc7 => ?_)
    · rw [if_pos hc7] at h
      refine x_aload_n (j := 0) (i := 0) dX11_feed_74 rfl rfl ?_
      obtain ⟨g8, h⟩ := gd_some h
      refine x_getI (ci := 11) (k := 17) dX11_feed_75 lf_RX11_212 rfl g8 ?_
      obtain ⟨hr9, hw9⟩ := Prod.mk.inj (Option.some.inj h)
      subst hw9
      subst hr9
      exact x_iret dX11_feed_78 rfl rfl
    · rw [if_neg hc7] at h
      refine x_aload_n (j := 0) (i := 0) dX11_feed_37 rfl rfl ?_
      obtain ⟨g9, h⟩ := gd_some h
      refine x_getR (ci := 11) (k := 16) dX11_feed_38 lf_RX11_51 rfl g9 ?_
      refine x_aload_n (j := 0) (i := 0) dX11_feed_41 rfl rfl ?_
      refine x_getI (ci := 11) (k := 17) dX11_feed_42 lf_RX11_212 rfl g9 ?_
      refine x_lload_n (j := 1) (i := 1) dX11_feed_45 rfl rfl ?_
      refine x_bipush (v := 8) dX11_feed_46 (by decide) ?_
      refine x_iload (j := 2) (i := 4) dX11_feed_48 rfl ?_
      refine x_imul dX11_feed_50 ?_
      refine x_lshr dX11_feed_51 ?_
      refine x_ldc2 dX11_feed_52 lc_RX11_215 ?_
      refine x_land dX11_feed_55 ?_
      refine x_l2i dX11_feed_56 ?_
      obtain ⟨g10, h⟩ := gd_some h
      obtain ⟨g11, h⟩ := gd_some h
      obtain ⟨w12, hw13, h⟩ := lt1_some h
      refine x_iast dX11_feed_57 g10 g11 ?_
      rw [← hw13]
      refine x_aload_n (j := 0) (i := 0) dX11_feed_58 rfl rfl ?_
      refine x_dup dX11_feed_59 rfl ?_
      have g14 : isC w12 x0 11 := by rw [hw13]; exact g9
      refine x_getI (ci := 11) (k := 17) dX11_feed_60 lf_RX11_212 rfl g14 ?_
      refine x_iconst (v := 1) dX11_feed_63 (by decide) ?_
      refine x_iadd dX11_feed_64 ?_
      obtain ⟨w15, hw16, h⟩ := lt1_some h
      refine x_putI (ci := 11) (k := 17) dX11_feed_65 (lw_RX11_212_w _) rfl g14 ?_
      rw [← hw16]
      refine x_iinc (j := 2) (i := 4) (v := x4 + (-1 : Int32)) (lv2 := [(4, xI (x4 + (-1 : Int32))), (0, xR x0), (1, xL x1)]) dX11_feed_68 rfl rfl (by decide) rfl ?_
      refine x_goto (tgt := 32) dX11_feed_71 (by decide) ?_
      refine x_lv (lv2 := [(0, xR x0), (1, xL x1), (4, xI (x4 + (-1 : Int32)))]) [1, 2, 0] rfl ?_
      exact ih x0 x1 (x4 + (-1 : Int32)) w15 h
set_option maxRecDepth 20000 in
theorem c_X11_feed (x0 : Nat) (x1 : Int64) (x3 : Int32) (w : xSt) (rE : Int32) (wE : xSt) (h : f_X11_feed x0 x1 x3 w = some (rE, wE)) : xCall yX11_feed cX11_feed 5 (some .int) 1 0 0 [xR x0, xL x1, xI x3] w (some (xI rE), wE) := by
  refine xCall_of false (by decide) (fun q => nomatch q) (Nat.le_of_ble_eq_true rfl) ?_
  show xX cX11_feed 5 (some .int) RX11 false (xRm 1 0 0) (xZf (some (xI rE), wE) 0 0) 0 [(0, xR x0), (1, xL x1), (3, xI x3)] [] w 0 0
  unfold f_X11_feed at h
  refine x_iload_n (j := 2) (i := 3) dX11_feed_0 rfl rfl ?_
  refine x_iconst (v := 1) dX11_feed_1 (by decide) ?_
  refine x_bipush (v := 8) dX11_feed_2 (by decide) ?_
  obtain ⟨v1, w2, hc3, h⟩ := bd_s h
  refine x_callSI dX11_feed_4 ml_RX11_117 mb_X11_in (c_X11_in x3 (1 : Int32) (8 : Int32) w v1 w2 hc3) [] rfl rfl (Nat.le_of_ble_eq_true rfl) (by decide) (by decide) ?_
  refine x_if_ne (tgt := 13) dX11_feed_7 (by decide) (fun hc4 => ?_) (fun hc4 => ?_)
  · rw [if_neg hc4] at h
    refine x_aload_n (j := 0) (i := 0) dX11_feed_13 rfl rfl ?_
    obtain ⟨g5, h⟩ := gd_some h
    refine x_getI (ci := 11) (k := 17) dX11_feed_14 lf_RX11_212 rfl g5 ?_
    refine x_iload_n (j := 2) (i := 3) dX11_feed_17 rfl rfl ?_
    refine x_iadd dX11_feed_18 ?_
    refine x_bipush (v := 120) dX11_feed_19 (by decide) ?_
    refine x_icmp_le (tgt := 27) dX11_feed_21 (by decide) (fun hc6 => ?_) (fun hc6 => ?_)
    · rw [if_pos hc6] at h
      refine x_iload_n (j := 2) (i := 3) dX11_feed_27 rfl rfl ?_
      refine x_iconst (v := 1) dX11_feed_28 (by decide) ?_
      refine x_isub dX11_feed_29 ?_
      refine x_istore (i := 4) (lv2 := [(4, xI (x3 - (1 : Int32))), (0, xR x0), (1, xL x1), (3, xI x3)]) dX11_feed_30 (by decide) rfl ?_
      refine x_lv (lv2 := [(0, xR x0), (1, xL x1), (4, xI (x3 - (1 : Int32)))]) [1, 2, 0] rfl ?_
      exact k_X11_feed_l32 rE wE xFu x0 x1 (x3 - (1 : Int32)) w2 h
    · rw [if_neg hc6] at h
      refine x_bipush (v := -4) dX11_feed_24 (by decide) ?_
      obtain ⟨hr9, hw9⟩ := Prod.mk.inj (Option.some.inj h)
      subst hw9
      subst hr9
      exact x_iret dX11_feed_26 rfl rfl
  · rw [if_pos hc4] at h
    refine x_bipush (v := -2) dX11_feed_10 (by decide) ?_
    obtain ⟨hr9, hw9⟩ := Prod.mk.inj (Option.some.inj h)
    subst hw9
    subst hr9
    exact x_iret dX11_feed_12 rfl rfl
set_option maxRecDepth 20000 in
theorem c_X11_byteAt (x0 : Nat) (x1 : Int32) (w : xSt) (rE : Int32) (wE : xSt) (h : f_X11_byteAt x0 x1 w = some (rE, wE)) : xCall yX11_byteAt cX11_byteAt 2 (some .int) 0 0 0 [xR x0, xI x1] w (some (xI rE), wE) := by
  refine xCall_of false (by decide) (fun q => nomatch q) (Nat.le_of_ble_eq_true rfl) ?_
  show xX cX11_byteAt 2 (some .int) RX11 false (xRm 0 0 0) (xZf (some (xI rE), wE) 0 0) 0 [(0, xR x0), (1, xI x1)] [] w 0 0
  unfold f_X11_byteAt at h
  refine x_iload_n (j := 1) (i := 1) dX11_byteAt_0 rfl rfl ?_
  refine x_aload_n (j := 0) (i := 0) dX11_byteAt_1 rfl rfl ?_
  obtain ⟨g1, h⟩ := gd_some h
  refine x_getI (ci := 11) (k := 17) dX11_byteAt_2 lf_RX11_212 rfl g1 ?_
  refine x_icmp_ge (tgt := 17) dX11_byteAt_5 (by decide) (fun hc2 => ?_) (fun hc2 => ?_)
  · rw [if_pos hc2] at h
    refine x_iconst (v := -1) dX11_byteAt_17 (by decide) ?_
    obtain ⟨hr9, hw9⟩ := Prod.mk.inj (Option.some.inj h)
    subst hw9
    subst hr9
    exact x_iret dX11_byteAt_18 rfl rfl
  · rw [if_neg hc2] at h
    refine x_aload_n (j := 0) (i := 0) dX11_byteAt_8 rfl rfl ?_
    refine x_getR (ci := 11) (k := 16) dX11_byteAt_9 lf_RX11_51 rfl g1 ?_
    refine x_iload_n (j := 1) (i := 1) dX11_byteAt_12 rfl rfl ?_
    obtain ⟨g3, h⟩ := gd_some h
    obtain ⟨g4, h⟩ := gd_some h
    refine x_iald dX11_byteAt_13 g3 g4 ?_
    refine x_goto (tgt := 18) dX11_byteAt_14 (by decide) ?_
    obtain ⟨hr9, hw9⟩ := Prod.mk.inj (Option.some.inj h)
    subst hw9
    subst hr9
    exact x_iret dX11_byteAt_18 rfl rfl
set_option maxRecDepth 20000 in
theorem c_X11_must (x0 : Nat) (x1 : Int32) (w : xSt) (rE : Unit) (wE : xSt) (h : f_X11_must x0 x1 w = some (rE, wE)) : xCall yX11_must cX11_must 2 none 1 0 0 [xR x0, xI x1] w (none, wE) := by
  refine xCall_of false (by decide) (fun q => nomatch q) (Nat.le_of_ble_eq_true rfl) ?_
  show xX cX11_must 2 none RX11 false (xRm 1 0 0) (xZf (none, wE) 0 0) 0 [(0, xR x0), (1, xI x1)] [] w 0 0
  unfold f_X11_must at h
  refine x_aload_n (j := 0) (i := 0) dX11_must_0 rfl rfl ?_
  obtain ⟨g1, h⟩ := gd_some h
  refine x_getI (ci := 11) (k := 46) dX11_must_1 lf_RX11_217 rfl g1 ?_
  refine x_if_ne (tgt := 32) dX11_must_4 (by decide) (fun hc2 => ?_) (fun hc2 => ?_)
  · rw [if_neg hc2] at h
    refine x_aload_n (j := 0) (i := 0) dX11_must_32 rfl rfl ?_
    refine x_iconst (v := 1) dX11_must_33 (by decide) ?_
    obtain ⟨w3, hw4, h⟩ := lt1_some h
    refine x_putZ (ci := 11) (k := 46) dX11_must_34 (lw_RX11_217_w _) rfl g1 (by decide) ?_
    rw [← hw4]
    obtain ⟨hr9, hw9⟩ := Prod.mk.inj (Option.some.inj h)
    subst hw9
    exact x_vret dX11_must_37 rfl rfl
  · rw [if_pos hc2] at h
    refine x_aload_n (j := 0) (i := 0) dX11_must_7 rfl rfl ?_
    refine x_aload_n (j := 0) (i := 0) dX11_must_8 rfl rfl ?_
    refine x_getI (ci := 11) (k := 45) dX11_must_9 lf_RX11_221 rfl g1 ?_
    obtain ⟨v5, w6, hc7, h⟩ := bd_s h
    refine x_callVI (ci := 11) dX11_must_12 ml_RX11_224 mb_X11_byteAt (c_X11_byteAt x0 (wI w x0 45) w v5 w6 hc7) ⟨_, rfl, rfl⟩ g1 [] rfl rfl (Nat.le_of_ble_eq_true rfl) (by decide) (by decide) ?_
    refine x_iload_n (j := 1) (i := 1) dX11_must_15 rfl rfl ?_
    refine x_icmp_ne (tgt := 32) dX11_must_16 (by decide) (fun hc8 => ?_) (fun hc8 => ?_)
    · rw [if_neg hc8] at h
      refine x_aload_n (j := 0) (i := 0) dX11_must_32 rfl rfl ?_
      refine x_iconst (v := 1) dX11_must_33 (by decide) ?_
      obtain ⟨g9, h⟩ := gd_some h
      obtain ⟨w10, hw11, h⟩ := lt1_some h
      refine x_putZ (ci := 11) (k := 46) dX11_must_34 (lw_RX11_217_w _) rfl g9 (by decide) ?_
      rw [← hw11]
      obtain ⟨hr9, hw9⟩ := Prod.mk.inj (Option.some.inj h)
      subst hw9
      exact x_vret dX11_must_37 rfl rfl
    · rw [if_pos hc8] at h
      refine x_aload_n (j := 0) (i := 0) dX11_must_19 rfl rfl ?_
      refine x_dup dX11_must_20 rfl ?_
      obtain ⟨g12, h⟩ := gd_some h
      refine x_getI (ci := 11) (k := 45) dX11_must_21 lf_RX11_221 rfl g12 ?_
      refine x_iconst (v := 1) dX11_must_24 (by decide) ?_
      refine x_iadd dX11_must_25 ?_
      obtain ⟨w13, hw14, h⟩ := lt1_some h
      refine x_putI (ci := 11) (k := 45) dX11_must_26 (lw_RX11_221_w _) rfl g12 ?_
      rw [← hw14]
      refine x_goto (tgt := 37) dX11_must_29 (by decide) ?_
      obtain ⟨hr9, hw9⟩ := Prod.mk.inj (Option.some.inj h)
      subst hw9
      exact x_vret dX11_must_37 rfl rfl
set_option maxRecDepth 20000 in
theorem k_X11_number_b76 (rE : Unit) (wE : xSt) (x0 : Nat) (x1 : Int32) (w : xSt) (h : f_X11_number_b76 x0 x1 w = some (rE, wE)) : xX cX11_number 2 none RX11 false (xRm 1 0 0) (xZf (none, wE) 0 0) 76 [(0, xR x0), (1, xI x1)] [] w 0 0 := by
  unfold f_X11_number_b76 at h
  refine x_aload_n (j := 0) (i := 0) dX11_number_76 rfl rfl ?_
  refine x_aload_n (j := 0) (i := 0) dX11_number_77 rfl rfl ?_
  obtain ⟨g24, h⟩ := gd_some h
  refine x_getI (ci := 11) (k := 46) dX11_number_78 lf_RX11_217 rfl g24 ?_
  refine x_if_ne (tgt := 88) dX11_number_81 (by decide) (fun hc25 => ?_) (fun hc25 => ?_)
  · rw [if_neg hc25] at h
    refine x_iconst (v := 1) dX11_number_88 (by decide) ?_
    refine x_goto (tgt := 93) dX11_number_89 (by decide) ?_
    obtain ⟨w26, hw27, h⟩ := lt1_some h
    refine x_putZ (ci := 11) (k := 46) dX11_number_93 (lw_RX11_217_w _) rfl g24 (by decide) ?_
    rw [← hw27]
    obtain ⟨hr9, hw9⟩ := Prod.mk.inj (Option.some.inj h)
    subst hw9
    exact x_vret dX11_number_96 rfl rfl
  · rw [if_pos hc25] at h
    refine x_iload_n (j := 1) (i := 1) dX11_number_84 rfl rfl ?_
    refine x_if_ne (tgt := 92) dX11_number_85 (by decide) (fun hc28 => ?_) (fun hc28 => ?_)
    · rw [if_neg hc28] at h
      refine x_iconst (v := 0) dX11_number_92 (by decide) ?_
      obtain ⟨w29, hw30, h⟩ := lt1_some h
      refine x_putZ (ci := 11) (k := 46) dX11_number_93 (lw_RX11_217_w _) rfl g24 (by decide) ?_
      rw [← hw30]
      obtain ⟨hr9, hw9⟩ := Prod.mk.inj (Option.some.inj h)
      subst hw9
      exact x_vret dX11_number_96 rfl rfl
    · rw [if_pos hc28] at h
      refine x_iconst (v := 1) dX11_number_88 (by decide) ?_
      refine x_goto (tgt := 93) dX11_number_89 (by decide) ?_
      obtain ⟨w31, hw32, h⟩ := lt1_some h
      refine x_putZ (ci := 11) (k := 46) dX11_number_93 (lw_RX11_217_w _) rfl g24 (by decide) ?_
      rw [← hw32]
      obtain ⟨hr9, hw9⟩ := Prod.mk.inj (Option.some.inj h)
      subst hw9
      exact x_vret dX11_number_96 rfl rfl
set_option maxRecDepth 20000 in
theorem k_X11_number_l7 (rE : Unit) (wE : xSt) : ∀ (n : Nat) (x0 : Nat) (x1 : Int32) (w : xSt), f_X11_number_l7 n x0 x1 w = some (rE, wE) → xX cX11_number 2 none RX11 false (xRm 1 0 0) (xZf (none, wE) 0 0) 7 [(0, xR x0), (1, xI x1)] [] w 0 0 := by
  intro n
  induction n with
  | zero => intro x0 x1 w h; exact nomatch (show (none : Option (Unit × xSt)) = some (rE, wE) from h)
  | succ n ih =>
    intro x0 x1 w h
    rw [f_X11_number_l7_s] at h
    refine x_aload_n (j := 0) (i := 0) dX11_number_7 rfl rfl ?_
    obtain ⟨g4, h⟩ := gd_some h
    refine x_getI (ci := 11) (k := 46) dX11_number_8 lf_RX11_217 rfl g4 ?_
    refine x_if_ne (tgt := 76) dX11_number_11 (by decide) (fun hc5 => ?_) (fun hc5 => ?_)
    · rw [if_neg hc5] at h
      refine x_lv (lv2 := [(0, xR x0), (1, xI x1)]) [0, 1] rfl ?_
      exact k_X11_number_b76 rE wE x0 x1 w h
    · rw [if_pos hc5] at h
      refine x_iload_n (j := 1) (i := 1) dX11_number_14 rfl rfl ?_
      refine x_iconst (v := 3) dX11_number_15 (by decide) ?_
      refine x_icmp_ge (tgt := 76) dX11_number_16 (by decide) (fun hc6 => ?_) (fun hc6 => ?_)
      · rw [if_pos hc6] at h
        refine x_lv (lv2 := [(0, xR x0), (1, xI x1)]) [0, 1] rfl ?_
        exact k_X11_number_b76 rE wE x0 x1 w h
      · rw [if_neg hc6] at h
        refine x_aload_n (j := 0) (i := 0) dX11_number_19 rfl rfl ?_
        refine x_aload_n (j := 0) (i := 0) dX11_number_20 rfl rfl ?_
        refine x_getI (ci := 11) (k := 45) dX11_number_21 lf_RX11_221 rfl g4 ?_
        obtain ⟨v7, w8, hc9, h⟩ := bd_s h
        refine x_callVI (ci := 11) dX11_number_24 ml_RX11_224 mb_X11_byteAt (c_X11_byteAt x0 (wI w x0 45) w v7 w8 hc9) ⟨_, rfl, rfl⟩ g4 [] rfl rfl (Nat.le_of_ble_eq_true rfl) (by decide) (by decide) ?_
        refine x_bipush (v := 48) dX11_number_27 (by decide) ?_
        refine x_bipush (v := 57) dX11_number_29 (by decide) ?_
        obtain ⟨v10, w11, hc12, h⟩ := bd_s h
        refine x_callSI dX11_number_31 ml_RX11_117 mb_X11_in (c_X11_in v7 (48 : Int32) (57 : Int32) w8 v10 w11 hc12) [] rfl rfl (Nat.le_of_ble_eq_true rfl) (by decide) (by decide) ?_
        refine x_if_eq (tgt := 76) dX11_number_34 (by decide) (fun hc13 => ?_) (fun hc13 => ?_)
        · rw [if_pos hc13] at h
          refine x_lv (lv2 := [(0, xR x0), (1, xI x1)]) [0, 1] rfl ?_
          exact k_X11_number_b76 rE wE x0 x1 w11 h
        · rw [if_neg hc13] at h
          refine x_aload_n (j := 0) (i := 0) dX11_number_37 rfl rfl ?_
          refine x_bipush (v := 10) dX11_number_38 (by decide) ?_
          refine x_aload_n (j := 0) (i := 0) dX11_number_40 rfl rfl ?_
          obtain ⟨g14, h⟩ := gd_some h
          refine x_getI (ci := 11) (k := 47) dX11_number_41 lf_RX11_227 rfl g14 ?_
          refine x_imul dX11_number_44 ?_
          refine x_aload_n (j := 0) (i := 0) dX11_number_45 rfl rfl ?_
          refine x_aload_n (j := 0) (i := 0) dX11_number_46 rfl rfl ?_
          refine x_getI (ci := 11) (k := 45) dX11_number_47 lf_RX11_221 rfl g14 ?_
          obtain ⟨v15, w16, hc17, h⟩ := bd_s h
          refine x_callVI (ci := 11) dX11_number_50 ml_RX11_224 mb_X11_byteAt (c_X11_byteAt x0 (wI w11 x0 45) w11 v15 w16 hc17) ⟨_, rfl, rfl⟩ g14 [xI ((10 : Int32) * (wI w11 x0 47)), xR x0] rfl rfl (Nat.le_of_ble_eq_true rfl) (by decide) (by decide) ?_
          refine x_iadd dX11_number_53 ?_
          refine x_bipush (v := 48) dX11_number_54 (by decide) ?_
          refine x_isub dX11_number_56 ?_
          obtain ⟨g18, h⟩ := gd_some h
          obtain ⟨w19, hw20, h⟩ := lt1_some h
          refine x_putI (ci := 11) (k := 47) dX11_number_57 (lw_RX11_227_w _) rfl g18 ?_
          rw [← hw20]
          refine x_aload_n (j := 0) (i := 0) dX11_number_60 rfl rfl ?_
          refine x_dup dX11_number_61 rfl ?_
          have g21 : isC w19 x0 11 := by rw [hw20]; exact g18
          refine x_getI (ci := 11) (k := 45) dX11_number_62 lf_RX11_221 rfl g21 ?_
          refine x_iconst (v := 1) dX11_number_65 (by decide) ?_
          refine x_iadd dX11_number_66 ?_
          obtain ⟨w22, hw23, h⟩ := lt1_some h
          refine x_putI (ci := 11) (k := 45) dX11_number_67 (lw_RX11_221_w _) rfl g21 ?_
          rw [← hw23]
          refine x_iinc (j := 1) (i := 1) (v := x1 + (1 : Int32)) (lv2 := [(1, xI (x1 + (1 : Int32))), (0, xR x0)]) dX11_number_70 rfl rfl (by decide) rfl ?_
          refine x_goto (tgt := 7) dX11_number_73 (by decide) ?_
          refine x_lv (lv2 := [(0, xR x0), (1, xI (x1 + (1 : Int32)))]) [1, 0] rfl ?_
          exact ih x0 (x1 + (1 : Int32)) w22 h
set_option maxRecDepth 20000 in
theorem c_X11_number (x0 : Nat) (w : xSt) (rE : Unit) (wE : xSt) (h : f_X11_number x0 w = some (rE, wE)) : xCall yX11_number cX11_number 2 none 1 0 0 [xR x0] w (none, wE) := by
  refine xCall_of false (by decide) (fun q => nomatch q) (Nat.le_of_ble_eq_true rfl) ?_
  show xX cX11_number 2 none RX11 false (xRm 1 0 0) (xZf (none, wE) 0 0) 0 [(0, xR x0)] [] w 0 0
  unfold f_X11_number at h
  refine x_iconst (v := 0) dX11_number_0 (by decide) ?_
  refine x_istore_n (i := 1) (lv2 := [(1, xI (0 : Int32)), (0, xR x0)]) dX11_number_1 rfl (by decide) rfl ?_
  refine x_aload_n (j := 1) (i := 0) dX11_number_2 rfl rfl ?_
  refine x_iconst (v := 0) dX11_number_3 (by decide) ?_
  obtain ⟨g1, h⟩ := gd_some h
  obtain ⟨w2, hw3, h⟩ := lt1_some h
  refine x_putI (ci := 11) (k := 47) dX11_number_4 (lw_RX11_227_w _) rfl g1 ?_
  rw [← hw3]
  refine x_lv (lv2 := [(0, xR x0), (1, xI (0 : Int32))]) [1, 0] rfl ?_
  exact k_X11_number_l7 rE wE xFu x0 (0 : Int32) w2 h

set_option maxRecDepth 20000 in
theorem k_X11_medals_b220 (k28 : Nat → Int32 → Int32 → Int32 → xSt → Option (Unit × xSt)) (rE : Unit) (wE : xSt) (hk28 : ∀ (x0 : Nat) (x1 : Int32) (x2 : Int32) (x3 : Int32) (w : xSt), k28 x0 x1 x2 x3 w = some (rE, wE) → xX cX11_medals 5 none RX11 false (xRm 2 0 0) (xZf (none, wE) 0 0) 28 [(0, xR x0), (1, xI x1), (2, xI x2), (3, xI x3)] [] w 0 0) (x0 : Nat) (x1 : Int32) (x2 : Int32) (s0 : Int32) (w : xSt) (h : f_X11_medals_b220 k28 x0 x1 x2 s0 w = some (rE, wE)) : xX cX11_medals 5 none RX11 false (xRm 2 0 0) (xZf (none, wE) 0 0) 220 [(0, xR x0), (1, xI x1), (2, xI x2)] [xI s0] w 0 0 := by
  unfold f_X11_medals_b220 at h
  refine x_istore_n (i := 3) (lv2 := [(3, xI s0), (0, xR x0), (1, xI x1), (2, xI x2)]) dX11_medals_220 rfl (by decide) rfl ?_
  refine x_aload_n (j := 1) (i := 0) dX11_medals_221 rfl rfl ?_
  refine x_dup dX11_medals_222 rfl ?_
  obtain ⟨g62, h⟩ := gd_some h
  refine x_getI (ci := 11) (k := 45) dX11_medals_223 lf_RX11_221 rfl g62 ?_
  refine x_iload_n (j := 0) (i := 3) dX11_medals_226 rfl rfl ?_
  refine x_if_eq (tgt := 234) dX11_medals_227 (by decide) (fun hc63 => ?_) (fun hc63 => ?_)
  · rw [if_pos hc63] at h
    refine x_iconst (v := 0) dX11_medals_234 (by decide) ?_
    refine x_iadd dX11_medals_235 ?_
    obtain ⟨w64, hw65, h⟩ := lt1_some h
    refine x_putI (ci := 11) (k := 45) dX11_medals_236 (lw_RX11_221_w _) rfl g62 ?_
    rw [← hw65]
    refine x_goto (tgt := 28) dX11_medals_239 (by decide) ?_
    refine x_lv (lv2 := [(0, xR x0), (1, xI x1), (2, xI x2), (3, xI s0)]) [1, 2, 3, 0] rfl ?_
    exact hk28 x0 x1 x2 s0 w64 h
  · rw [if_neg hc63] at h
    refine x_iconst (v := 1) dX11_medals_230 (by decide) ?_
    refine x_goto (tgt := 235) dX11_medals_231 (by decide) ?_
    refine x_iadd dX11_medals_235 ?_
    obtain ⟨w66, hw67, h⟩ := lt1_some h
    refine x_putI (ci := 11) (k := 45) dX11_medals_236 (lw_RX11_221_w _) rfl g62 ?_
    rw [← hw67]
    refine x_goto (tgt := 28) dX11_medals_239 (by decide) ?_
    refine x_lv (lv2 := [(0, xR x0), (1, xI x1), (2, xI x2), (3, xI s0)]) [1, 2, 3, 0] rfl ?_
    exact hk28 x0 x1 x2 s0 w66 h
set_option maxRecDepth 20000 in
theorem k_X11_medals_b187 (k28 : Nat → Int32 → Int32 → Int32 → xSt → Option (Unit × xSt)) (rE : Unit) (wE : xSt) (hk28 : ∀ (x0 : Nat) (x1 : Int32) (x2 : Int32) (x3 : Int32) (w : xSt), k28 x0 x1 x2 x3 w = some (rE, wE) → xX cX11_medals 5 none RX11 false (xRm 2 0 0) (xZf (none, wE) 0 0) 28 [(0, xR x0), (1, xI x1), (2, xI x2), (3, xI x3)] [] w 0 0) (x0 : Nat) (x1 : Int32) (x2 : Int32) (w : xSt) (h : f_X11_medals_b187 k28 x0 x1 x2 w = some (rE, wE)) : xX cX11_medals 5 none RX11 false (xRm 2 0 0) (xZf (none, wE) 0 0) 187 [(0, xR x0), (1, xI x1), (2, xI x2)] [] w 0 0 := by
  unfold f_X11_medals_b187 at h
  refine x_iinc (j := 2) (i := 2) (v := x2 + (1 : Int32)) (lv2 := [(2, xI (x2 + (1 : Int32))), (0, xR x0), (1, xI x1)]) dX11_medals_187 rfl rfl (by decide) rfl ?_
  refine x_iload_n (j := 0) (i := 2) dX11_medals_190 rfl rfl ?_
  refine x_iconst (v := 3) dX11_medals_191 (by decide) ?_
  refine x_icmp_ge (tgt := 219) dX11_medals_192 (by decide) (fun hc55 => ?_) (fun hc55 => ?_)
  · rw [if_pos hc55] at h
    refine x_iconst (v := 0) dX11_medals_219 (by decide) ?_
    refine x_lv (lv2 := [(0, xR x0), (1, xI x1), (2, xI (x2 + (1 : Int32)))]) [1, 2, 0] rfl ?_
    exact k_X11_medals_b220 k28 rE wE hk28 x0 x1 (x2 + (1 : Int32)) (0 : Int32) w h
  · rw [if_neg hc55] at h
    refine x_aload_n (j := 1) (i := 0) dX11_medals_195 rfl rfl ?_
    obtain ⟨g56, h⟩ := gd_some h
    refine x_getI (ci := 11) (k := 46) dX11_medals_196 lf_RX11_217 rfl g56 ?_
    refine x_if_ne (tgt := 219) dX11_medals_199 (by decide) (fun hc57 => ?_) (fun hc57 => ?_)
    · rw [if_neg hc57] at h
      refine x_iconst (v := 0) dX11_medals_219 (by decide) ?_
      refine x_lv (lv2 := [(0, xR x0), (1, xI x1), (2, xI (x2 + (1 : Int32)))]) [1, 2, 0] rfl ?_
      exact k_X11_medals_b220 k28 rE wE hk28 x0 x1 (x2 + (1 : Int32)) (0 : Int32) w h
    · rw [if_pos hc57] at h
      refine x_aload_n (j := 1) (i := 0) dX11_medals_202 rfl rfl ?_
      refine x_aload_n (j := 1) (i := 0) dX11_medals_203 rfl rfl ?_
      refine x_getI (ci := 11) (k := 45) dX11_medals_204 lf_RX11_221 rfl g56 ?_
      obtain ⟨v58, w59, hc60, h⟩ := bd_s h
      refine x_callVI (ci := 11) dX11_medals_207 ml_RX11_224 mb_X11_byteAt (c_X11_byteAt x0 (wI w x0 45) w v58 w59 hc60) ⟨_, rfl, rfl⟩ g56 [] rfl rfl (Nat.le_of_ble_eq_true rfl) (by decide) (by decide) ?_
      refine x_bipush (v := 44) dX11_medals_210 (by decide) ?_
      refine x_icmp_ne (tgt := 219) dX11_medals_212 (by decide) (fun hc61 => ?_) (fun hc61 => ?_)
      · rw [if_neg hc61] at h
        refine x_iconst (v := 0) dX11_medals_219 (by decide) ?_
        refine x_lv (lv2 := [(0, xR x0), (1, xI x1), (2, xI (x2 + (1 : Int32)))]) [1, 2, 0] rfl ?_
        exact k_X11_medals_b220 k28 rE wE hk28 x0 x1 (x2 + (1 : Int32)) (0 : Int32) w59 h
      · rw [if_pos hc61] at h
        refine x_iconst (v := 1) dX11_medals_215 (by decide) ?_
        refine x_goto (tgt := 220) dX11_medals_216 (by decide) ?_
        refine x_lv (lv2 := [(0, xR x0), (1, xI x1), (2, xI (x2 + (1 : Int32)))]) [1, 2, 0] rfl ?_
        exact k_X11_medals_b220 k28 rE wE hk28 x0 x1 (x2 + (1 : Int32)) (1 : Int32) w59 h
set_option maxRecDepth 20000 in
theorem k_X11_medals_b138 (k28 : Nat → Int32 → Int32 → Int32 → xSt → Option (Unit × xSt)) (rE : Unit) (wE : xSt) (hk28 : ∀ (x0 : Nat) (x1 : Int32) (x2 : Int32) (x3 : Int32) (w : xSt), k28 x0 x1 x2 x3 w = some (rE, wE) → xX cX11_medals 5 none RX11 false (xRm 2 0 0) (xZf (none, wE) 0 0) 28 [(0, xR x0), (1, xI x1), (2, xI x2), (3, xI x3)] [] w 0 0) (x0 : Nat) (x1 : Int32) (x2 : Int32) (w : xSt) (h : f_X11_medals_b138 k28 x0 x1 x2 w = some (rE, wE)) : xX cX11_medals 5 none RX11 false (xRm 2 0 0) (xZf (none, wE) 0 0) 138 [(0, xR x0), (1, xI x1), (2, xI x2)] [] w 0 0 := by
  unfold f_X11_medals_b138 at h
  refine x_aload_n (j := 0) (i := 0) dX11_medals_138 rfl rfl ?_
  refine x_bipush (v := 32) dX11_medals_139 (by decide) ?_
  obtain ⟨g36, h⟩ := gd_some h
  obtain ⟨_u, w34, hc35, h⟩ := bd_s h
  refine x_callVV (ci := 11) dX11_medals_141 ml_RX11_230 mb_X11_must (c_X11_must x0 (32 : Int32) w _u w34 hc35) ⟨_, rfl, rfl⟩ g36 [] rfl rfl (Nat.le_of_ble_eq_true rfl) (by decide) (by decide) ?_
  refine x_aload_n (j := 0) (i := 0) dX11_medals_144 rfl rfl ?_
  refine x_bipush (v := 97) dX11_medals_145 (by decide) ?_
  obtain ⟨g39, h⟩ := gd_some h
  obtain ⟨_u, w37, hc38, h⟩ := bd_s h
  refine x_callVV (ci := 11) dX11_medals_147 ml_RX11_230 mb_X11_must (c_X11_must x0 (97 : Int32) w34 _u w37 hc38) ⟨_, rfl, rfl⟩ g39 [] rfl rfl (Nat.le_of_ble_eq_true rfl) (by decide) (by decide) ?_
  refine x_aload_n (j := 0) (i := 0) dX11_medals_150 rfl rfl ?_
  refine x_bipush (v := 116) dX11_medals_151 (by decide) ?_
  obtain ⟨g42, h⟩ := gd_some h
  obtain ⟨_u, w40, hc41, h⟩ := bd_s h
  refine x_callVV (ci := 11) dX11_medals_153 ml_RX11_230 mb_X11_must (c_X11_must x0 (116 : Int32) w37 _u w40 hc41) ⟨_, rfl, rfl⟩ g42 [] rfl rfl (Nat.le_of_ble_eq_true rfl) (by decide) (by decide) ?_
  refine x_aload_n (j := 0) (i := 0) dX11_medals_156 rfl rfl ?_
  refine x_bipush (v := 32) dX11_medals_157 (by decide) ?_
  obtain ⟨g45, h⟩ := gd_some h
  obtain ⟨_u, w43, hc44, h⟩ := bd_s h
  refine x_callVV (ci := 11) dX11_medals_159 ml_RX11_230 mb_X11_must (c_X11_must x0 (32 : Int32) w40 _u w43 hc44) ⟨_, rfl, rfl⟩ g45 [] rfl rfl (Nat.le_of_ble_eq_true rfl) (by decide) (by decide) ?_
  refine x_aload_n (j := 0) (i := 0) dX11_medals_162 rfl rfl ?_
  obtain ⟨g48, h⟩ := gd_some h
  obtain ⟨_u, w46, hc47, h⟩ := bd_s h
  refine x_callVV (ci := 11) dX11_medals_163 ml_RX11_233 mb_X11_number (c_X11_number x0 w43 _u w46 hc47) ⟨_, rfl, rfl⟩ g48 [] rfl rfl (Nat.le_of_ble_eq_true rfl) (by decide) (by decide) ?_
  refine x_aload_n (j := 0) (i := 0) dX11_medals_166 rfl rfl ?_
  obtain ⟨g49, h⟩ := gd_some h
  refine x_getI (ci := 11) (k := 46) dX11_medals_167 lf_RX11_217 rfl g49 ?_
  refine x_if_ne (tgt := 187) dX11_medals_170 (by decide) (fun hc50 => ?_) (fun hc50 => ?_)
  · rw [if_neg hc50] at h
    refine x_lv (lv2 := [(0, xR x0), (1, xI x1), (2, xI x2)]) [0, 1, 2] rfl ?_
    exact k_X11_medals_b187 k28 rE wE hk28 x0 x1 x2 w46 h
  · rw [if_pos hc50] at h
    refine x_aload_n (j := 0) (i := 0) dX11_medals_173 rfl rfl ?_
    refine x_getR (ci := 11) (k := 20) dX11_medals_174 lf_RX11_60 rfl g49 ?_
    refine x_iconst (v := 3) dX11_medals_177 (by decide) ?_
    refine x_iload_n (j := 1) (i := 1) dX11_medals_178 rfl rfl ?_
    refine x_imul dX11_medals_179 ?_
    refine x_iload_n (j := 2) (i := 2) dX11_medals_180 rfl rfl ?_
    refine x_iadd dX11_medals_181 ?_
    refine x_aload_n (j := 0) (i := 0) dX11_medals_182 rfl rfl ?_
    refine x_getI (ci := 11) (k := 47) dX11_medals_183 lf_RX11_227 rfl g49 ?_
    obtain ⟨g51, h⟩ := gd_some h
    obtain ⟨g52, h⟩ := gd_some h
    obtain ⟨w53, hw54, h⟩ := lt1_some h
    refine x_iast dX11_medals_186 g51 g52 ?_
    rw [← hw54]
    refine x_lv (lv2 := [(0, xR x0), (1, xI x1), (2, xI x2)]) [0, 1, 2] rfl ?_
    exact k_X11_medals_b187 k28 rE wE hk28 x0 x1 x2 w53 h
set_option maxRecDepth 20000 in
theorem k_X11_medals_l87 (k28 : Nat → Int32 → Int32 → Int32 → xSt → Option (Unit × xSt)) (rE : Unit) (wE : xSt) (hk28 : ∀ (x0 : Nat) (x1 : Int32) (x2 : Int32) (x3 : Int32) (w : xSt), k28 x0 x1 x2 x3 w = some (rE, wE) → xX cX11_medals 5 none RX11 false (xRm 2 0 0) (xZf (none, wE) 0 0) 28 [(0, xR x0), (1, xI x1), (2, xI x2), (3, xI x3)] [] w 0 0) : ∀ (n : Nat) (x0 : Nat) (x1 : Int32) (x2 : Int32) (x4 : Int32) (w : xSt), f_X11_medals_l87 k28 n x0 x1 x2 x4 w = some (rE, wE) → xX cX11_medals 5 none RX11 false (xRm 2 0 0) (xZf (none, wE) 0 0) 87 [(0, xR x0), (1, xI x1), (2, xI x2), (4, xI x4)] [] w 0 0 := by
  intro n
  induction n with
  | zero => intro x0 x1 x2 x4 w h; exact nomatch (show (none : Option (Unit × xSt)) = some (rE, wE) from h)
  | succ n ih =>
    intro x0 x1 x2 x4 w h
    rw [f_X11_medals_l87_s] at h
    refine x_iload (j := 3) (i := 4) dX11_medals_87 rfl ?_
    refine x_bipush (v := 6) dX11_medals_89 (by decide) ?_
    refine x_icmp_ge (tgt := 138) dX11_medals_91 (by decide) (fun hc26 => ?_) (fun hc26 => ?_)
    · rw [if_pos hc26] at h
      refine x_lv (lv2 := [(0, xR x0), (1, xI x1), (2, xI x2)]) [0, 1, 2] rfl ?_
      exact k_X11_medals_b138 k28 rE wE hk28 x0 x1 x2 w h
    · rw [if_neg hc26] at h
      refine x_aload_n (j := 0) (i := 0) dX11_medals_94 rfl rfl ?_
      obtain ⟨g27, h⟩ := gd_some h
      refine x_getI (ci := 11) (k := 46) dX11_medals_95 lf_RX11_217 rfl g27 ?_
      refine x_if_ne (tgt := 138) dX11_medals_98 (by decide) (fun hc28 => ?_) (fun hc28 => ?_)
      · rw [if_neg hc28] at h
        refine x_lv (lv2 := [(0, xR x0), (1, xI x1), (2, xI x2)]) [0, 1, 2] rfl ?_
        exact k_X11_medals_b138 k28 rE wE hk28 x0 x1 x2 w h
      · rw [if_pos hc28] at h
        refine x_aload_n (j := 0) (i := 0) dX11_medals_101 rfl rfl ?_
        refine x_getR (ci := 11) (k := 48) dX11_medals_102 lf_RX11_105 rfl g27 ?_
        refine x_bipush (v := 6) dX11_medals_105 (by decide) ?_
        refine x_iload_n (j := 2) (i := 2) dX11_medals_107 rfl rfl ?_
        refine x_imul dX11_medals_108 ?_
        refine x_iload (j := 3) (i := 4) dX11_medals_109 rfl ?_
        refine x_iadd dX11_medals_111 ?_
        obtain ⟨g29, h⟩ := gd_some h
        obtain ⟨g30, h⟩ := gd_some h
        refine x_iald dX11_medals_112 g29 g30 ?_
        refine x_if_eq (tgt := 132) dX11_medals_113 (by decide) (fun hc31 => ?_) (fun hc31 => ?_)
        · rw [if_pos hc31] at h
          refine x_iinc (j := 3) (i := 4) (v := x4 + (1 : Int32)) (lv2 := [(4, xI (x4 + (1 : Int32))), (0, xR x0), (1, xI x1), (2, xI x2)]) dX11_medals_132 rfl rfl (by decide) rfl ?_
          refine x_goto (tgt := 87) dX11_medals_135 (by decide) ?_
          refine x_lv (lv2 := [(0, xR x0), (1, xI x1), (2, xI x2), (4, xI (x4 + (1 : Int32)))]) [1, 2, 3, 0] rfl ?_
          exact ih x0 x1 x2 (x4 + (1 : Int32)) w h
        · rw [if_neg hc31] at h
          refine x_aload_n (j := 0) (i := 0) dX11_medals_116 rfl rfl ?_
          refine x_aload_n (j := 0) (i := 0) dX11_medals_117 rfl rfl ?_
          refine x_getR (ci := 11) (k := 48) dX11_medals_118 lf_RX11_105 rfl g27 ?_
          refine x_bipush (v := 6) dX11_medals_121 (by decide) ?_
          refine x_iload_n (j := 2) (i := 2) dX11_medals_123 rfl rfl ?_
          refine x_imul dX11_medals_124 ?_
          refine x_iload (j := 3) (i := 4) dX11_medals_125 rfl ?_
          refine x_iadd dX11_medals_127 ?_
          refine x_iald dX11_medals_128 g29 g30 ?_
          obtain ⟨_u, w32, hc33, h⟩ := bd_s h
          refine x_callVV (ci := 11) dX11_medals_129 ml_RX11_230 mb_X11_must (c_X11_must x0 (wI w (wR w x0 48) (((6 : Int32) * x2) + x4).toNatClampNeg) w _u w32 hc33) ⟨_, rfl, rfl⟩ g27 [] rfl rfl (Nat.le_of_ble_eq_true rfl) (by decide) (by decide) ?_
          refine x_iinc (j := 3) (i := 4) (v := x4 + (1 : Int32)) (lv2 := [(4, xI (x4 + (1 : Int32))), (0, xR x0), (1, xI x1), (2, xI x2)]) dX11_medals_132 rfl rfl (by decide) rfl ?_
          refine x_goto (tgt := 87) dX11_medals_135 (by decide) ?_
          refine x_lv (lv2 := [(0, xR x0), (1, xI x1), (2, xI x2), (4, xI (x4 + (1 : Int32)))]) [1, 2, 3, 0] rfl ?_
          exact ih x0 x1 x2 (x4 + (1 : Int32)) w32 h
set_option maxRecDepth 20000 in
theorem k_X11_medals_b70 (k28 : Nat → Int32 → Int32 → Int32 → xSt → Option (Unit × xSt)) (rE : Unit) (wE : xSt) (hk28 : ∀ (x0 : Nat) (x1 : Int32) (x2 : Int32) (x3 : Int32) (w : xSt), k28 x0 x1 x2 x3 w = some (rE, wE) → xX cX11_medals 5 none RX11 false (xRm 2 0 0) (xZf (none, wE) 0 0) 28 [(0, xR x0), (1, xI x1), (2, xI x2), (3, xI x3)] [] w 0 0) (x0 : Nat) (x1 : Int32) (x2 : Int32) (w : xSt) (h : f_X11_medals_b70 k28 x0 x1 x2 w = some (rE, wE)) : xX cX11_medals 5 none RX11 false (xRm 2 0 0) (xZf (none, wE) 0 0) 70 [(0, xR x0), (1, xI x1), (2, xI x2)] [] w 0 0 := by
  unfold f_X11_medals_b70 at h
  refine x_aload_n (j := 0) (i := 0) dX11_medals_70 rfl rfl ?_
  refine x_iload_n (j := 2) (i := 2) dX11_medals_71 rfl rfl ?_
  refine x_iconst (v := 3) dX11_medals_72 (by decide) ?_
  refine x_icmp_ne (tgt := 80) dX11_medals_73 (by decide) (fun hc19 => ?_) (fun hc19 => ?_)
  · rw [if_neg hc19] at h
    refine x_iconst (v := 0) dX11_medals_80 (by decide) ?_
    obtain ⟨g20, h⟩ := gd_some h
    obtain ⟨w21, hw22, h⟩ := lt1_some h
    refine x_putZ (ci := 11) (k := 46) dX11_medals_81 (lw_RX11_217_w _) rfl g20 (by decide) ?_
    rw [← hw22]
    refine x_iconst (v := 0) dX11_medals_84 (by decide) ?_
    refine x_istore (i := 4) (lv2 := [(4, xI (0 : Int32)), (0, xR x0), (1, xI x1), (2, xI x2)]) dX11_medals_85 (by decide) rfl ?_
    refine x_lv (lv2 := [(0, xR x0), (1, xI x1), (2, xI x2), (4, xI (0 : Int32))]) [1, 2, 3, 0] rfl ?_
    exact k_X11_medals_l87 k28 rE wE hk28 xFu x0 x1 x2 (0 : Int32) w21 h
  · rw [if_pos hc19] at h
    refine x_iconst (v := 1) dX11_medals_76 (by decide) ?_
    refine x_goto (tgt := 81) dX11_medals_77 (by decide) ?_
    obtain ⟨g23, h⟩ := gd_some h
    obtain ⟨w24, hw25, h⟩ := lt1_some h
    refine x_putZ (ci := 11) (k := 46) dX11_medals_81 (lw_RX11_217_w _) rfl g23 (by decide) ?_
    rw [← hw25]
    refine x_iconst (v := 0) dX11_medals_84 (by decide) ?_
    refine x_istore (i := 4) (lv2 := [(4, xI (0 : Int32)), (0, xR x0), (1, xI x1), (2, xI x2)]) dX11_medals_85 (by decide) rfl ?_
    refine x_lv (lv2 := [(0, xR x0), (1, xI x1), (2, xI x2), (4, xI (0 : Int32))]) [1, 2, 3, 0] rfl ?_
    exact k_X11_medals_l87 k28 rE wE hk28 xFu x0 x1 x2 (0 : Int32) w24 h
set_option maxRecDepth 20000 in
theorem k_X11_medals_l39 (k28 : Nat → Int32 → Int32 → Int32 → xSt → Option (Unit × xSt)) (rE : Unit) (wE : xSt) (hk28 : ∀ (x0 : Nat) (x1 : Int32) (x2 : Int32) (x3 : Int32) (w : xSt), k28 x0 x1 x2 x3 w = some (rE, wE) → xX cX11_medals 5 none RX11 false (xRm 2 0 0) (xZf (none, wE) 0 0) 28 [(0, xR x0), (1, xI x1), (2, xI x2), (3, xI x3)] [] w 0 0) : ∀ (n : Nat) (x0 : Nat) (x1 : Int32) (x2 : Int32) (w : xSt), f_X11_medals_l39 k28 n x0 x1 x2 w = some (rE, wE) → xX cX11_medals 5 none RX11 false (xRm 2 0 0) (xZf (none, wE) 0 0) 39 [(0, xR x0), (1, xI x1), (2, xI x2)] [] w 0 0 := by
  intro n
  induction n with
  | zero => intro x0 x1 x2 w h; exact nomatch (show (none : Option (Unit × xSt)) = some (rE, wE) from h)
  | succ n ih =>
    intro x0 x1 x2 w h
    rw [f_X11_medals_l39_s] at h
    refine x_iload_n (j := 2) (i := 2) dX11_medals_39 rfl rfl ?_
    refine x_iconst (v := 3) dX11_medals_40 (by decide) ?_
    refine x_icmp_ge (tgt := 70) dX11_medals_41 (by decide) (fun hc10 => ?_) (fun hc10 => ?_)
    · rw [if_pos hc10] at h
      refine x_lv (lv2 := [(0, xR x0), (1, xI x1), (2, xI x2)]) [0, 1, 2] rfl ?_
      exact k_X11_medals_b70 k28 rE wE hk28 x0 x1 x2 w h
    · rw [if_neg hc10] at h
      refine x_aload_n (j := 0) (i := 0) dX11_medals_44 rfl rfl ?_
      refine x_aload_n (j := 0) (i := 0) dX11_medals_45 rfl rfl ?_
      obtain ⟨g11, h⟩ := gd_some h
      refine x_getI (ci := 11) (k := 45) dX11_medals_46 lf_RX11_221 rfl g11 ?_
      obtain ⟨v12, w13, hc14, h⟩ := bd_s h
      refine x_callVI (ci := 11) dX11_medals_49 ml_RX11_224 mb_X11_byteAt (c_X11_byteAt x0 (wI w x0 45) w v12 w13 hc14) ⟨_, rfl, rfl⟩ g11 [] rfl rfl (Nat.le_of_ble_eq_true rfl) (by decide) (by decide) ?_
      refine x_aload_n (j := 0) (i := 0) dX11_medals_52 rfl rfl ?_
      obtain ⟨g15, h⟩ := gd_some h
      refine x_getR (ci := 11) (k := 48) dX11_medals_53 lf_RX11_105 rfl g15 ?_
      refine x_bipush (v := 6) dX11_medals_56 (by decide) ?_
      refine x_iload_n (j := 2) (i := 2) dX11_medals_58 rfl rfl ?_
      refine x_imul dX11_medals_59 ?_
      obtain ⟨g16, h⟩ := gd_some h
      obtain ⟨g17, h⟩ := gd_some h
      refine x_iald dX11_medals_60 g16 g17 ?_
      refine x_icmp_eq (tgt := 70) dX11_medals_61 (by decide) (fun hc18 => ?_) (fun hc18 => ?_)
      · rw [if_pos hc18] at h
        refine x_lv (lv2 := [(0, xR x0), (1, xI x1), (2, xI x2)]) [0, 1, 2] rfl ?_
        exact k_X11_medals_b70 k28 rE wE hk28 x0 x1 x2 w13 h
      · rw [if_neg hc18] at h
        refine x_iinc (j := 2) (i := 2) (v := x2 + (1 : Int32)) (lv2 := [(2, xI (x2 + (1 : Int32))), (0, xR x0), (1, xI x1)]) dX11_medals_64 rfl rfl (by decide) rfl ?_
        refine x_goto (tgt := 39) dX11_medals_67 (by decide) ?_
        refine x_lv (lv2 := [(0, xR x0), (1, xI x1), (2, xI (x2 + (1 : Int32)))]) [1, 2, 0] rfl ?_
        exact ih x0 x1 (x2 + (1 : Int32)) w13 h
set_option maxRecDepth 20000 in
theorem k_X11_medals_l28 (rE : Unit) (wE : xSt) : ∀ (n : Nat) (x0 : Nat) (x1 : Int32) (x2 : Int32) (x3 : Int32) (w : xSt), f_X11_medals_l28 n x0 x1 x2 x3 w = some (rE, wE) → xX cX11_medals 5 none RX11 false (xRm 2 0 0) (xZf (none, wE) 0 0) 28 [(0, xR x0), (1, xI x1), (2, xI x2), (3, xI x3)] [] w 0 0 := by
  intro n
  induction n with
  | zero => intro x0 x1 x2 x3 w h; exact nomatch (show (none : Option (Unit × xSt)) = some (rE, wE) from h)
  | succ n ih =>
    intro x0 x1 x2 x3 w h
    rw [f_X11_medals_l28_s] at h
    refine x_iload_n (j := 3) (i := 3) dX11_medals_28 rfl rfl ?_
    refine x_if_eq (tgt := 242) dX11_medals_29 (by decide) (fun hc7 => ?_) (fun hc7 => ?_)
    · rw [if_pos hc7] at h
      obtain ⟨hr9, hw9⟩ := Prod.mk.inj (Option.some.inj h)
      subst hw9
      exact x_vret dX11_medals_242 rfl rfl
    · rw [if_neg hc7] at h
      refine x_aload_n (j := 0) (i := 0) dX11_medals_32 rfl rfl ?_
      obtain ⟨g8, h⟩ := gd_some h
      refine x_getI (ci := 11) (k := 46) dX11_medals_33 lf_RX11_217 rfl g8 ?_
      refine x_if_ne (tgt := 242) dX11_medals_36 (by decide) (fun hc9 => ?_) (fun hc9 => ?_)
      · rw [if_neg hc9] at h
        obtain ⟨hr9, hw9⟩ := Prod.mk.inj (Option.some.inj h)
        subst hw9
        exact x_vret dX11_medals_242 rfl rfl
      · rw [if_pos hc9] at h
        refine x_lv (lv2 := [(0, xR x0), (1, xI x1), (2, xI x2)]) [0, 1, 2] rfl ?_
        exact k_X11_medals_l39 (f_X11_medals_l28 n) rE wE ih xFu x0 x1 x2 w h
set_option maxRecDepth 20000 in
theorem k_X11_medals_l2 (rE : Unit) (wE : xSt) : ∀ (n : Nat) (x0 : Nat) (x1 : Int32) (x2 : Int32) (w : xSt), f_X11_medals_l2 n x0 x1 x2 w = some (rE, wE) → xX cX11_medals 5 none RX11 false (xRm 2 0 0) (xZf (none, wE) 0 0) 2 [(0, xR x0), (1, xI x1), (2, xI x2)] [] w 0 0 := by
  intro n
  induction n with
  | zero => intro x0 x1 x2 w h; exact nomatch (show (none : Option (Unit × xSt)) = some (rE, wE) from h)
  | succ n ih =>
    intro x0 x1 x2 w h
    rw [f_X11_medals_l2_s] at h
    refine x_iload_n (j := 2) (i := 2) dX11_medals_2 rfl rfl ?_
    refine x_iconst (v := 3) dX11_medals_3 (by decide) ?_
    refine x_icmp_ge (tgt := 24) dX11_medals_4 (by decide) (fun hc1 => ?_) (fun hc1 => ?_)
    · rw [if_pos hc1] at h
      refine x_iconst (v := 0) dX11_medals_24 (by decide) ?_
      refine x_istore_n (i := 2) (lv2 := [(2, xI (0 : Int32)), (0, xR x0), (1, xI x1)]) dX11_medals_25 rfl (by decide) rfl ?_
      refine x_iconst (v := 1) dX11_medals_26 (by decide) ?_
      refine x_istore_n (i := 3) (lv2 := [(3, xI (1 : Int32)), (2, xI (0 : Int32)), (0, xR x0), (1, xI x1)]) dX11_medals_27 rfl (by decide) rfl ?_
      refine x_lv (lv2 := [(0, xR x0), (1, xI x1), (2, xI (0 : Int32)), (3, xI (1 : Int32))]) [2, 3, 1, 0] rfl ?_
      exact k_X11_medals_l28 rE wE xFu x0 x1 (0 : Int32) (1 : Int32) w h
    · rw [if_neg hc1] at h
      refine x_aload_n (j := 0) (i := 0) dX11_medals_7 rfl rfl ?_
      obtain ⟨g2, h⟩ := gd_some h
      refine x_getR (ci := 11) (k := 20) dX11_medals_8 lf_RX11_60 rfl g2 ?_
      refine x_iconst (v := 3) dX11_medals_11 (by decide) ?_
      refine x_iload_n (j := 1) (i := 1) dX11_medals_12 rfl rfl ?_
      refine x_imul dX11_medals_13 ?_
      refine x_iload_n (j := 2) (i := 2) dX11_medals_14 rfl rfl ?_
      refine x_iadd dX11_medals_15 ?_
      refine x_iconst (v := -1) dX11_medals_16 (by decide) ?_
      obtain ⟨g3, h⟩ := gd_some h
      obtain ⟨g4, h⟩ := gd_some h
      obtain ⟨w5, hw6, h⟩ := lt1_some h
      refine x_iast dX11_medals_17 g3 g4 ?_
      rw [← hw6]
      refine x_iinc (j := 2) (i := 2) (v := x2 + (1 : Int32)) (lv2 := [(2, xI (x2 + (1 : Int32))), (0, xR x0), (1, xI x1)]) dX11_medals_18 rfl rfl (by decide) rfl ?_
      refine x_goto (tgt := 2) dX11_medals_21 (by decide) ?_
      refine x_lv (lv2 := [(0, xR x0), (1, xI x1), (2, xI (x2 + (1 : Int32)))]) [1, 2, 0] rfl ?_
      exact ih x0 x1 (x2 + (1 : Int32)) w5 h
set_option maxRecDepth 20000 in
theorem c_X11_medals (x0 : Nat) (x1 : Int32) (w : xSt) (rE : Unit) (wE : xSt) (h : f_X11_medals x0 x1 w = some (rE, wE)) : xCall yX11_medals cX11_medals 5 none 2 0 0 [xR x0, xI x1] w (none, wE) := by
  refine xCall_of false (by decide) (fun q => nomatch q) (Nat.le_of_ble_eq_true rfl) ?_
  show xX cX11_medals 5 none RX11 false (xRm 2 0 0) (xZf (none, wE) 0 0) 0 [(0, xR x0), (1, xI x1)] [] w 0 0
  unfold f_X11_medals at h
  refine x_iconst (v := 0) dX11_medals_0 (by decide) ?_
  refine x_istore_n (i := 2) (lv2 := [(2, xI (0 : Int32)), (0, xR x0), (1, xI x1)]) dX11_medals_1 rfl (by decide) rfl ?_
  refine x_lv (lv2 := [(0, xR x0), (1, xI x1), (2, xI (0 : Int32))]) [1, 2, 0] rfl ?_
  exact k_X11_medals_l2 rE wE xFu x0 x1 (0 : Int32) w h
set_option maxRecDepth 20000 in
theorem k_X11_daysOf_b124 (k30 : Nat → Int32 → Int32 → xSt → Option (Unit × xSt)) (rE : Unit) (wE : xSt) (hk30 : ∀ (x0 : Nat) (x1 : Int32) (x2 : Int32) (w : xSt), k30 x0 x1 x2 w = some (rE, wE) → xX cX11_daysOf 3 none RX11 false (xRm 2 0 0) (xZf (none, wE) 0 0) 30 [(0, xR x0), (1, xI x1), (2, xI x2)] [] w 0 0) (x0 : Nat) (x1 : Int32) (x2 : Int32) (s0 : Nat) (s1 : Int32) (w : xSt) (h : f_X11_daysOf_b124 k30 x0 x1 x2 s0 s1 w = some (rE, wE)) : xX cX11_daysOf 3 none RX11 false (xRm 2 0 0) (xZf (none, wE) 0 0) 124 [(0, xR x0), (1, xI x1), (2, xI x2)] [xI s1, xR s0] w 0 0 := by
  unfold f_X11_daysOf_b124 at h
  obtain ⟨g49, h⟩ := gd_some h
  obtain ⟨g50, h⟩ := gd_some h
  obtain ⟨w51, hw52, h⟩ := lt1_some h
  refine x_putZ (ci := 11) (k := 46) dX11_daysOf_124 (lw_RX11_217_w _) rfl g49 g50 ?_
  rw [← hw52]
  refine x_aload_n (j := 0) (i := 0) dX11_daysOf_127 rfl rfl ?_
  obtain ⟨g53, h⟩ := gd_some h
  refine x_getI (ci := 11) (k := 46) dX11_daysOf_128 lf_RX11_217 rfl g53 ?_
  refine x_if_ne (tgt := 165) dX11_daysOf_131 (by decide) (fun hc54 => ?_) (fun hc54 => ?_)
  · rw [if_neg hc54] at h
    refine x_aload_n (j := 0) (i := 0) dX11_daysOf_165 rfl rfl ?_
    refine x_bipush (v := 44) dX11_daysOf_166 (by decide) ?_
    obtain ⟨_u, w55, hc56, h⟩ := bd_s h
    refine x_callVV (ci := 11) dX11_daysOf_168 ml_RX11_230 mb_X11_must (c_X11_must x0 (44 : Int32) w51 _u w55 hc56) ⟨_, rfl, rfl⟩ g53 [] rfl rfl (Nat.le_of_ble_eq_true rfl) (by decide) (by decide) ?_
    refine x_aload_n (j := 0) (i := 0) dX11_daysOf_171 rfl rfl ?_
    obtain ⟨g59, h⟩ := gd_some h
    obtain ⟨_u, w57, hc58, h⟩ := bd_s h
    refine x_callVV (ci := 11) dX11_daysOf_172 ml_RX11_233 mb_X11_number (c_X11_number x0 w55 _u w57 hc58) ⟨_, rfl, rfl⟩ g59 [] rfl rfl (Nat.le_of_ble_eq_true rfl) (by decide) (by decide) ?_
    refine x_iinc (j := 2) (i := 2) (v := x2 + (1 : Int32)) (lv2 := [(2, xI (x2 + (1 : Int32))), (0, xR x0), (1, xI x1)]) dX11_daysOf_175 rfl rfl (by decide) rfl ?_
    refine x_goto (tgt := 30) dX11_daysOf_178 (by decide) ?_
    refine x_lv (lv2 := [(0, xR x0), (1, xI x1), (2, xI (x2 + (1 : Int32)))]) [1, 2, 0] rfl ?_
    exact hk30 x0 x1 (x2 + (1 : Int32)) w57 h
  · rw [if_pos hc54] at h
    refine x_aload_n (j := 0) (i := 0) dX11_daysOf_134 rfl rfl ?_
    refine x_getR (ci := 11) (k := 22) dX11_daysOf_135 lf_RX11_66 rfl g53 ?_
    refine x_iconst (v := 4) dX11_daysOf_138 (by decide) ?_
    refine x_iload_n (j := 1) (i := 1) dX11_daysOf_139 rfl rfl ?_
    refine x_imul dX11_daysOf_140 ?_
    refine x_iload_n (j := 2) (i := 2) dX11_daysOf_141 rfl rfl ?_
    refine x_iadd dX11_daysOf_142 ?_
    refine x_aload_n (j := 0) (i := 0) dX11_daysOf_143 rfl rfl ?_
    refine x_aload_n (j := 0) (i := 0) dX11_daysOf_144 rfl rfl ?_
    refine x_getI (ci := 11) (k := 45) dX11_daysOf_145 lf_RX11_221 rfl g53 ?_
    obtain ⟨v60, w61, hc62, h⟩ := bd_s h
    refine x_callVI (ci := 11) dX11_daysOf_148 ml_RX11_224 mb_X11_byteAt (c_X11_byteAt x0 (wI w51 x0 45) w51 v60 w61 hc62) ⟨_, rfl, rfl⟩ g53 [xI (((4 : Int32) * x1) + x2), xR (wR w51 x0 22)] rfl rfl (Nat.le_of_ble_eq_true rfl) (by decide) (by decide) ?_
    refine x_bipush (v := 48) dX11_daysOf_151 (by decide) ?_
    refine x_isub dX11_daysOf_153 ?_
    obtain ⟨g63, h⟩ := gd_some h
    obtain ⟨g64, h⟩ := gd_some h
    obtain ⟨w65, hw66, h⟩ := lt1_some h
    refine x_iast dX11_daysOf_154 g63 g64 ?_
    rw [← hw66]
    refine x_aload_n (j := 0) (i := 0) dX11_daysOf_155 rfl rfl ?_
    refine x_dup dX11_daysOf_156 rfl ?_
    obtain ⟨g67, h⟩ := gd_some h
    refine x_getI (ci := 11) (k := 45) dX11_daysOf_157 lf_RX11_221 rfl g67 ?_
    refine x_iconst (v := 1) dX11_daysOf_160 (by decide) ?_
    refine x_iadd dX11_daysOf_161 ?_
    obtain ⟨w68, hw69, h⟩ := lt1_some h
    refine x_putI (ci := 11) (k := 45) dX11_daysOf_162 (lw_RX11_221_w _) rfl g67 ?_
    rw [← hw69]
    refine x_aload_n (j := 0) (i := 0) dX11_daysOf_165 rfl rfl ?_
    refine x_bipush (v := 44) dX11_daysOf_166 (by decide) ?_
    have g72 : isC w68 x0 11 := by rw [hw69]; exact g67
    obtain ⟨_u, w70, hc71, h⟩ := bd_s h
    refine x_callVV (ci := 11) dX11_daysOf_168 ml_RX11_230 mb_X11_must (c_X11_must x0 (44 : Int32) w68 _u w70 hc71) ⟨_, rfl, rfl⟩ g72 [] rfl rfl (Nat.le_of_ble_eq_true rfl) (by decide) (by decide) ?_
    refine x_aload_n (j := 0) (i := 0) dX11_daysOf_171 rfl rfl ?_
    obtain ⟨g75, h⟩ := gd_some h
    obtain ⟨_u, w73, hc74, h⟩ := bd_s h
    refine x_callVV (ci := 11) dX11_daysOf_172 ml_RX11_233 mb_X11_number (c_X11_number x0 w70 _u w73 hc74) ⟨_, rfl, rfl⟩ g75 [] rfl rfl (Nat.le_of_ble_eq_true rfl) (by decide) (by decide) ?_
    refine x_iinc (j := 2) (i := 2) (v := x2 + (1 : Int32)) (lv2 := [(2, xI (x2 + (1 : Int32))), (0, xR x0), (1, xI x1)]) dX11_daysOf_175 rfl rfl (by decide) rfl ?_
    refine x_goto (tgt := 30) dX11_daysOf_178 (by decide) ?_
    refine x_lv (lv2 := [(0, xR x0), (1, xI x1), (2, xI (x2 + (1 : Int32)))]) [1, 2, 0] rfl ?_
    exact hk30 x0 x1 (x2 + (1 : Int32)) w73 h
set_option maxRecDepth 20000 in
theorem k_X11_daysOf_b181 (rE : Unit) (wE : xSt) (x0 : Nat) (x1 : Int32) (x2 : Int32) (w : xSt) (h : f_X11_daysOf_b181 x0 x1 x2 w = some (rE, wE)) : xX cX11_daysOf 3 none RX11 false (xRm 2 0 0) (xZf (none, wE) 0 0) 181 [(0, xR x0), (1, xI x1), (2, xI x2)] [] w 0 0 := by
  unfold f_X11_daysOf_b181 at h
  refine x_aload_n (j := 0) (i := 0) dX11_daysOf_181 rfl rfl ?_
  obtain ⟨g76, h⟩ := gd_some h
  refine x_getR (ci := 11) (k := 21) dX11_daysOf_182 lf_RX11_63 rfl g76 ?_
  refine x_iload_n (j := 1) (i := 1) dX11_daysOf_185 rfl rfl ?_
  refine x_iload_n (j := 2) (i := 2) dX11_daysOf_186 rfl rfl ?_
  obtain ⟨g77, h⟩ := gd_some h
  obtain ⟨g78, h⟩ := gd_some h
  obtain ⟨w79, hw80, h⟩ := lt1_some h
  refine x_iast dX11_daysOf_187 g77 g78 ?_
  rw [← hw80]
  refine x_aload_n (j := 0) (i := 0) dX11_daysOf_188 rfl rfl ?_
  have g81 : isC w79 x0 11 := by rw [hw80]; exact g76
  refine x_getR (ci := 11) (k := 23) dX11_daysOf_189 lf_RX11_69 rfl g81 ?_
  refine x_iconst (v := 5) dX11_daysOf_192 (by decide) ?_
  refine x_iload_n (j := 1) (i := 1) dX11_daysOf_193 rfl rfl ?_
  refine x_imul dX11_daysOf_194 ?_
  refine x_iload_n (j := 2) (i := 2) dX11_daysOf_195 rfl rfl ?_
  refine x_iadd dX11_daysOf_196 ?_
  refine x_aload_n (j := 0) (i := 0) dX11_daysOf_197 rfl rfl ?_
  refine x_getI (ci := 11) (k := 47) dX11_daysOf_198 lf_RX11_227 rfl g81 ?_
  obtain ⟨g82, h⟩ := gd_some h
  obtain ⟨g83, h⟩ := gd_some h
  obtain ⟨w84, hw85, h⟩ := lt1_some h
  refine x_iast dX11_daysOf_201 g82 g83 ?_
  rw [← hw85]
  obtain ⟨hr9, hw9⟩ := Prod.mk.inj (Option.some.inj h)
  subst hw9
  exact x_vret dX11_daysOf_202 rfl rfl
set_option maxRecDepth 20000 in
theorem k_X11_daysOf_l30 (rE : Unit) (wE : xSt) : ∀ (n : Nat) (x0 : Nat) (x1 : Int32) (x2 : Int32) (w : xSt), f_X11_daysOf_l30 n x0 x1 x2 w = some (rE, wE) → xX cX11_daysOf 3 none RX11 false (xRm 2 0 0) (xZf (none, wE) 0 0) 30 [(0, xR x0), (1, xI x1), (2, xI x2)] [] w 0 0 := by
  intro n
  induction n with
  | zero => intro x0 x1 x2 w h; exact nomatch (show (none : Option (Unit × xSt)) = some (rE, wE) from h)
  | succ n ih =>
    intro x0 x1 x2 w h
    rw [f_X11_daysOf_l30_s] at h
    refine x_aload_n (j := 0) (i := 0) dX11_daysOf_30 rfl rfl ?_
    obtain ⟨g16, h⟩ := gd_some h
    refine x_getI (ci := 11) (k := 46) dX11_daysOf_31 lf_RX11_217 rfl g16 ?_
    refine x_if_ne (tgt := 181) dX11_daysOf_34 (by decide) (fun hc17 => ?_) (fun hc17 => ?_)
    · rw [if_neg hc17] at h
      refine x_lv (lv2 := [(0, xR x0), (1, xI x1), (2, xI x2)]) [0, 1, 2] rfl ?_
      exact k_X11_daysOf_b181 rE wE x0 x1 x2 w h
    · rw [if_pos hc17] at h
      refine x_iload_n (j := 2) (i := 2) dX11_daysOf_37 rfl rfl ?_
      refine x_iconst (v := 4) dX11_daysOf_38 (by decide) ?_
      refine x_icmp_ge (tgt := 181) dX11_daysOf_39 (by decide) (fun hc18 => ?_) (fun hc18 => ?_)
      · rw [if_pos hc18] at h
        refine x_lv (lv2 := [(0, xR x0), (1, xI x1), (2, xI x2)]) [0, 1, 2] rfl ?_
        exact k_X11_daysOf_b181 rE wE x0 x1 x2 w h
      · rw [if_neg hc18] at h
        refine x_aload_n (j := 0) (i := 0) dX11_daysOf_42 rfl rfl ?_
        refine x_aload_n (j := 0) (i := 0) dX11_daysOf_43 rfl rfl ?_
        refine x_getI (ci := 11) (k := 45) dX11_daysOf_44 lf_RX11_221 rfl g16 ?_
        obtain ⟨v19, w20, hc21, h⟩ := bd_s h
        refine x_callVI (ci := 11) dX11_daysOf_47 ml_RX11_224 mb_X11_byteAt (c_X11_byteAt x0 (wI w x0 45) w v19 w20 hc21) ⟨_, rfl, rfl⟩ g16 [] rfl rfl (Nat.le_of_ble_eq_true rfl) (by decide) (by decide) ?_
        refine x_bipush (v := 32) dX11_daysOf_50 (by decide) ?_
        refine x_icmp_ne (tgt := 181) dX11_daysOf_52 (by decide) (fun hc22 => ?_) (fun hc22 => ?_)
        · rw [if_neg hc22] at h
          refine x_lv (lv2 := [(0, xR x0), (1, xI x1), (2, xI x2)]) [0, 1, 2] rfl ?_
          exact k_X11_daysOf_b181 rE wE x0 x1 x2 w20 h
        · rw [if_pos hc22] at h
          refine x_aload_n (j := 0) (i := 0) dX11_daysOf_55 rfl rfl ?_
          obtain ⟨g23, h⟩ := gd_some h
          refine x_getR (ci := 11) (k := 23) dX11_daysOf_56 lf_RX11_69 rfl g23 ?_
          refine x_iconst (v := 5) dX11_daysOf_59 (by decide) ?_
          refine x_iload_n (j := 1) (i := 1) dX11_daysOf_60 rfl rfl ?_
          refine x_imul dX11_daysOf_61 ?_
          refine x_iload_n (j := 2) (i := 2) dX11_daysOf_62 rfl rfl ?_
          refine x_iadd dX11_daysOf_63 ?_
          refine x_aload_n (j := 0) (i := 0) dX11_daysOf_64 rfl rfl ?_
          refine x_getI (ci := 11) (k := 47) dX11_daysOf_65 lf_RX11_227 rfl g23 ?_
          obtain ⟨g24, h⟩ := gd_some h
          obtain ⟨g25, h⟩ := gd_some h
          obtain ⟨w26, hw27, h⟩ := lt1_some h
          refine x_iast dX11_daysOf_68 g24 g25 ?_
          rw [← hw27]
          refine x_aload_n (j := 0) (i := 0) dX11_daysOf_69 rfl rfl ?_
          refine x_bipush (v := 32) dX11_daysOf_70 (by decide) ?_
          have g30 : isC w26 x0 11 := by rw [hw27]; exact g23
          obtain ⟨_u, w28, hc29, h⟩ := bd_s h
          refine x_callVV (ci := 11) dX11_daysOf_72 ml_RX11_230 mb_X11_must (c_X11_must x0 (32 : Int32) w26 _u w28 hc29) ⟨_, rfl, rfl⟩ g30 [] rfl rfl (Nat.le_of_ble_eq_true rfl) (by decide) (by decide) ?_
          refine x_aload_n (j := 0) (i := 0) dX11_daysOf_75 rfl rfl ?_
          refine x_bipush (v := 111) dX11_daysOf_76 (by decide) ?_
          obtain ⟨g33, h⟩ := gd_some h
          obtain ⟨_u, w31, hc32, h⟩ := bd_s h
          refine x_callVV (ci := 11) dX11_daysOf_78 ml_RX11_230 mb_X11_must (c_X11_must x0 (111 : Int32) w28 _u w31 hc32) ⟨_, rfl, rfl⟩ g33 [] rfl rfl (Nat.le_of_ble_eq_true rfl) (by decide) (by decide) ?_
          refine x_aload_n (j := 0) (i := 0) dX11_daysOf_81 rfl rfl ?_
          refine x_bipush (v := 110) dX11_daysOf_82 (by decide) ?_
          obtain ⟨g36, h⟩ := gd_some h
          obtain ⟨_u, w34, hc35, h⟩ := bd_s h
          refine x_callVV (ci := 11) dX11_daysOf_84 ml_RX11_230 mb_X11_must (c_X11_must x0 (110 : Int32) w31 _u w34 hc35) ⟨_, rfl, rfl⟩ g36 [] rfl rfl (Nat.le_of_ble_eq_true rfl) (by decide) (by decide) ?_
          refine x_aload_n (j := 0) (i := 0) dX11_daysOf_87 rfl rfl ?_
          refine x_bipush (v := 32) dX11_daysOf_88 (by decide) ?_
          obtain ⟨g39, h⟩ := gd_some h
          obtain ⟨_u, w37, hc38, h⟩ := bd_s h
          refine x_callVV (ci := 11) dX11_daysOf_90 ml_RX11_230 mb_X11_must (c_X11_must x0 (32 : Int32) w34 _u w37 hc38) ⟨_, rfl, rfl⟩ g39 [] rfl rfl (Nat.le_of_ble_eq_true rfl) (by decide) (by decide) ?_
          refine x_aload_n (j := 0) (i := 0) dX11_daysOf_93 rfl rfl ?_
          refine x_aload_n (j := 0) (i := 0) dX11_daysOf_94 rfl rfl ?_
          obtain ⟨g40, h⟩ := gd_some h
          refine x_getI (ci := 11) (k := 46) dX11_daysOf_95 lf_RX11_217 rfl g40 ?_
          refine x_if_ne (tgt := 119) dX11_daysOf_98 (by decide) (fun hc41 => ?_) (fun hc41 => ?_)
          · rw [if_neg hc41] at h
            refine x_iconst (v := 1) dX11_daysOf_119 (by decide) ?_
            refine x_goto (tgt := 124) dX11_daysOf_120 (by decide) ?_
            refine x_lv (lv2 := [(0, xR x0), (1, xI x1), (2, xI x2)]) [0, 1, 2] rfl ?_
            exact k_X11_daysOf_b124 (f_X11_daysOf_l30 n) rE wE ih x0 x1 x2 x0 (1 : Int32) w37 h
          · rw [if_pos hc41] at h
            refine x_aload_n (j := 0) (i := 0) dX11_daysOf_101 rfl rfl ?_
            refine x_aload_n (j := 0) (i := 0) dX11_daysOf_102 rfl rfl ?_
            refine x_getI (ci := 11) (k := 45) dX11_daysOf_103 lf_RX11_221 rfl g40 ?_
            obtain ⟨v42, w43, hc44, h⟩ := bd_s h
            refine x_callVI (ci := 11) dX11_daysOf_106 ml_RX11_224 mb_X11_byteAt (c_X11_byteAt x0 (wI w37 x0 45) w37 v42 w43 hc44) ⟨_, rfl, rfl⟩ g40 [xR x0] rfl rfl (Nat.le_of_ble_eq_true rfl) (by decide) (by decide) ?_
            refine x_bipush (v := 48) dX11_daysOf_109 (by decide) ?_
            refine x_bipush (v := 54) dX11_daysOf_111 (by decide) ?_
            obtain ⟨v45, w46, hc47, h⟩ := bd_s h
            refine x_callSI dX11_daysOf_113 ml_RX11_117 mb_X11_in (c_X11_in v42 (48 : Int32) (54 : Int32) w43 v45 w46 hc47) [xR x0] rfl rfl (Nat.le_of_ble_eq_true rfl) (by decide) (by decide) ?_
            refine x_if_ne (tgt := 123) dX11_daysOf_116 (by decide) (fun hc48 => ?_) (fun hc48 => ?_)
            · rw [if_neg hc48] at h
              refine x_iconst (v := 0) dX11_daysOf_123 (by decide) ?_
              refine x_lv (lv2 := [(0, xR x0), (1, xI x1), (2, xI x2)]) [0, 1, 2] rfl ?_
              exact k_X11_daysOf_b124 (f_X11_daysOf_l30 n) rE wE ih x0 x1 x2 x0 (0 : Int32) w46 h
            · rw [if_pos hc48] at h
              refine x_iconst (v := 1) dX11_daysOf_119 (by decide) ?_
              refine x_goto (tgt := 124) dX11_daysOf_120 (by decide) ?_
              refine x_lv (lv2 := [(0, xR x0), (1, xI x1), (2, xI x2)]) [0, 1, 2] rfl ?_
              exact k_X11_daysOf_b124 (f_X11_daysOf_l30 n) rE wE ih x0 x1 x2 x0 (1 : Int32) w46 h
set_option maxRecDepth 20000 in
theorem c_X11_daysOf (x0 : Nat) (x1 : Int32) (w : xSt) (rE : Unit) (wE : xSt) (h : f_X11_daysOf x0 x1 w = some (rE, wE)) : xCall yX11_daysOf cX11_daysOf 3 none 2 0 0 [xR x0, xI x1] w (none, wE) := by
  refine xCall_of false (by decide) (fun q => nomatch q) (Nat.le_of_ble_eq_true rfl) ?_
  show xX cX11_daysOf 3 none RX11 false (xRm 2 0 0) (xZf (none, wE) 0 0) 0 [(0, xR x0), (1, xI x1)] [] w 0 0
  unfold f_X11_daysOf at h
  refine x_aload_n (j := 0) (i := 0) dX11_daysOf_0 rfl rfl ?_
  refine x_bipush (v := 112) dX11_daysOf_1 (by decide) ?_
  obtain ⟨g3, h⟩ := gd_some h
  obtain ⟨_u, w1, hc2, h⟩ := bd_s h
  refine x_callVV (ci := 11) dX11_daysOf_3 ml_RX11_230 mb_X11_must (c_X11_must x0 (112 : Int32) w _u w1 hc2) ⟨_, rfl, rfl⟩ g3 [] rfl rfl (Nat.le_of_ble_eq_true rfl) (by decide) (by decide) ?_
  refine x_aload_n (j := 0) (i := 0) dX11_daysOf_6 rfl rfl ?_
  refine x_bipush (v := 97) dX11_daysOf_7 (by decide) ?_
  obtain ⟨g6, h⟩ := gd_some h
  obtain ⟨_u, w4, hc5, h⟩ := bd_s h
  refine x_callVV (ci := 11) dX11_daysOf_9 ml_RX11_230 mb_X11_must (c_X11_must x0 (97 : Int32) w1 _u w4 hc5) ⟨_, rfl, rfl⟩ g6 [] rfl rfl (Nat.le_of_ble_eq_true rfl) (by decide) (by decide) ?_
  refine x_aload_n (j := 0) (i := 0) dX11_daysOf_12 rfl rfl ?_
  refine x_bipush (v := 121) dX11_daysOf_13 (by decide) ?_
  obtain ⟨g9, h⟩ := gd_some h
  obtain ⟨_u, w7, hc8, h⟩ := bd_s h
  refine x_callVV (ci := 11) dX11_daysOf_15 ml_RX11_230 mb_X11_must (c_X11_must x0 (121 : Int32) w4 _u w7 hc8) ⟨_, rfl, rfl⟩ g9 [] rfl rfl (Nat.le_of_ble_eq_true rfl) (by decide) (by decide) ?_
  refine x_aload_n (j := 0) (i := 0) dX11_daysOf_18 rfl rfl ?_
  refine x_bipush (v := 32) dX11_daysOf_19 (by decide) ?_
  obtain ⟨g12, h⟩ := gd_some h
  obtain ⟨_u, w10, hc11, h⟩ := bd_s h
  refine x_callVV (ci := 11) dX11_daysOf_21 ml_RX11_230 mb_X11_must (c_X11_must x0 (32 : Int32) w7 _u w10 hc11) ⟨_, rfl, rfl⟩ g12 [] rfl rfl (Nat.le_of_ble_eq_true rfl) (by decide) (by decide) ?_
  refine x_aload_n (j := 0) (i := 0) dX11_daysOf_24 rfl rfl ?_
  obtain ⟨g15, h⟩ := gd_some h
  obtain ⟨_u, w13, hc14, h⟩ := bd_s h
  refine x_callVV (ci := 11) dX11_daysOf_25 ml_RX11_233 mb_X11_number (c_X11_number x0 w10 _u w13 hc14) ⟨_, rfl, rfl⟩ g15 [] rfl rfl (Nat.le_of_ble_eq_true rfl) (by decide) (by decide) ?_
  refine x_iconst (v := 0) dX11_daysOf_28 (by decide) ?_
  refine x_istore_n (i := 2) (lv2 := [(2, xI (0 : Int32)), (0, xR x0), (1, xI x1)]) dX11_daysOf_29 rfl (by decide) rfl ?_
  refine x_lv (lv2 := [(0, xR x0), (1, xI x1), (2, xI (0 : Int32))]) [1, 2, 0] rfl ?_
  exact k_X11_daysOf_l30 rE wE xFu x0 x1 (0 : Int32) w13 h

set_option maxRecDepth 20000 in
theorem k_X11_hindered_b126 (k56 : Nat → Int32 → Int32 → Int32 → Int32 → Int32 → Int32 → Int32 → xSt → Option (Int32 × xSt)) (rE : Int32) (wE : xSt) (hk56 : ∀ (x0 : Nat) (x1 : Int32) (x2 : Int32) (x3 : Int32) (x4 : Int32) (x5 : Int32) (x6 : Int32) (x7 : Int32) (w : xSt), k56 x0 x1 x2 x3 x4 x5 x6 x7 w = some (rE, wE) → xX cX11_hindered 9 (some .int) RX11 false (xRm 3 0 0) (xZf (some (xI rE), wE) 0 0) 56 [(0, xR x0), (1, xI x1), (2, xI x2), (3, xI x3), (4, xI x4), (5, xI x5), (6, xI x6), (7, xI x7)] [] w 0 0) (x0 : Nat) (x1 : Int32) (x2 : Int32) (x3 : Int32) (x5 : Int32) (x6 : Int32) (x7 : Int32) (s0 : Int32) (w : xSt) (h : f_X11_hindered_b126 k56 x0 x1 x2 x3 x5 x6 x7 s0 w = some (rE, wE)) : xX cX11_hindered 9 (some .int) RX11 false (xRm 3 0 0) (xZf (some (xI rE), wE) 0 0) 126 [(0, xR x0), (1, xI x1), (2, xI x2), (3, xI x3), (5, xI x5), (6, xI x6), (7, xI x7)] [xI s0] w 0 0 := by
  unfold f_X11_hindered_b126 at h
  refine x_istore (i := 4) (lv2 := [(4, xI s0), (0, xR x0), (1, xI x1), (2, xI x2), (3, xI x3), (5, xI x5), (6, xI x6), (7, xI x7)]) dX11_hindered_126 (by decide) rfl ?_
  refine x_iload (j := 6) (i := 6) dX11_hindered_128 rfl ?_
  refine x_if_ne (tgt := 149) dX11_hindered_130 (by decide) (fun hc27 => ?_) (fun hc27 => ?_)
  · rw [if_neg hc27] at h
    refine x_iconst (v := 1) dX11_hindered_149 (by decide) ?_
    refine x_goto (tgt := 154) dX11_hindered_150 (by decide) ?_
    refine x_istore (i := 6) (lv2 := [(6, xI (1 : Int32)), (4, xI s0), (0, xR x0), (1, xI x1), (2, xI x2), (3, xI x3), (5, xI x5), (7, xI x7)]) dX11_hindered_154 (by decide) rfl ?_
    refine x_iinc (j := 7) (i := 7) (v := x7 + (1 : Int32)) (lv2 := [(7, xI (x7 + (1 : Int32))), (6, xI (1 : Int32)), (4, xI s0), (0, xR x0), (1, xI x1), (2, xI x2), (3, xI x3), (5, xI x5)]) dX11_hindered_156 rfl rfl (by decide) rfl ?_
    refine x_goto (tgt := 56) dX11_hindered_159 (by decide) ?_
    refine x_lv (lv2 := [(0, xR x0), (1, xI x1), (2, xI x2), (3, xI x3), (4, xI s0), (5, xI x5), (6, xI (1 : Int32)), (7, xI (x7 + (1 : Int32)))]) [3, 4, 5, 6, 2, 7, 1, 0] rfl ?_
    exact hk56 x0 x1 x2 x3 s0 x5 (1 : Int32) (x7 + (1 : Int32)) w h
  · rw [if_pos hc27] at h
    refine x_aload_n (j := 1) (i := 0) dX11_hindered_133 rfl rfl ?_
    obtain ⟨g28, h⟩ := gd_some h
    refine x_getR (ci := 11) (k := 3) dX11_hindered_134 lf_RX11_13 rfl g28 ?_
    refine x_iload (j := 7) (i := 7) dX11_hindered_137 rfl ?_
    obtain ⟨g29, h⟩ := gd_some h
    obtain ⟨g30, h⟩ := gd_some h
    refine x_iald dX11_hindered_139 g29 g30 ?_
    refine x_aload_n (j := 1) (i := 0) dX11_hindered_140 rfl rfl ?_
    refine x_getR (ci := 11) (k := 11) dX11_hindered_141 lf_RX11_35 rfl g28 ?_
    refine x_iload_n (j := 2) (i := 1) dX11_hindered_144 rfl rfl ?_
    obtain ⟨g31, h⟩ := gd_some h
    obtain ⟨g32, h⟩ := gd_some h
    refine x_iald dX11_hindered_145 g31 g32 ?_
    refine x_icmp_ge (tgt := 153) dX11_hindered_146 (by decide) (fun hc33 => ?_) (fun hc33 => ?_)
    · rw [if_pos hc33] at h
      refine x_iconst (v := 0) dX11_hindered_153 (by decide) ?_
      refine x_istore (i := 6) (lv2 := [(6, xI (0 : Int32)), (4, xI s0), (0, xR x0), (1, xI x1), (2, xI x2), (3, xI x3), (5, xI x5), (7, xI x7)]) dX11_hindered_154 (by decide) rfl ?_
      refine x_iinc (j := 7) (i := 7) (v := x7 + (1 : Int32)) (lv2 := [(7, xI (x7 + (1 : Int32))), (6, xI (0 : Int32)), (4, xI s0), (0, xR x0), (1, xI x1), (2, xI x2), (3, xI x3), (5, xI x5)]) dX11_hindered_156 rfl rfl (by decide) rfl ?_
      refine x_goto (tgt := 56) dX11_hindered_159 (by decide) ?_
      refine x_lv (lv2 := [(0, xR x0), (1, xI x1), (2, xI x2), (3, xI x3), (4, xI s0), (5, xI x5), (6, xI (0 : Int32)), (7, xI (x7 + (1 : Int32)))]) [3, 4, 5, 6, 2, 7, 1, 0] rfl ?_
      exact hk56 x0 x1 x2 x3 s0 x5 (0 : Int32) (x7 + (1 : Int32)) w h
    · rw [if_neg hc33] at h
      refine x_iconst (v := 1) dX11_hindered_149 (by decide) ?_
      refine x_goto (tgt := 154) dX11_hindered_150 (by decide) ?_
      refine x_istore (i := 6) (lv2 := [(6, xI (1 : Int32)), (4, xI s0), (0, xR x0), (1, xI x1), (2, xI x2), (3, xI x3), (5, xI x5), (7, xI x7)]) dX11_hindered_154 (by decide) rfl ?_
      refine x_iinc (j := 7) (i := 7) (v := x7 + (1 : Int32)) (lv2 := [(7, xI (x7 + (1 : Int32))), (6, xI (1 : Int32)), (4, xI s0), (0, xR x0), (1, xI x1), (2, xI x2), (3, xI x3), (5, xI x5)]) dX11_hindered_156 rfl rfl (by decide) rfl ?_
      refine x_goto (tgt := 56) dX11_hindered_159 (by decide) ?_
      refine x_lv (lv2 := [(0, xR x0), (1, xI x1), (2, xI x2), (3, xI x3), (4, xI s0), (5, xI x5), (6, xI (1 : Int32)), (7, xI (x7 + (1 : Int32)))]) [3, 4, 5, 6, 2, 7, 1, 0] rfl ?_
      exact hk56 x0 x1 x2 x3 s0 x5 (1 : Int32) (x7 + (1 : Int32)) w h
set_option maxRecDepth 20000 in
theorem k_X11_hindered_b109 (k56 : Nat → Int32 → Int32 → Int32 → Int32 → Int32 → Int32 → Int32 → xSt → Option (Int32 × xSt)) (rE : Int32) (wE : xSt) (hk56 : ∀ (x0 : Nat) (x1 : Int32) (x2 : Int32) (x3 : Int32) (x4 : Int32) (x5 : Int32) (x6 : Int32) (x7 : Int32) (w : xSt), k56 x0 x1 x2 x3 x4 x5 x6 x7 w = some (rE, wE) → xX cX11_hindered 9 (some .int) RX11 false (xRm 3 0 0) (xZf (some (xI rE), wE) 0 0) 56 [(0, xR x0), (1, xI x1), (2, xI x2), (3, xI x3), (4, xI x4), (5, xI x5), (6, xI x6), (7, xI x7)] [] w 0 0) (x0 : Nat) (x1 : Int32) (x2 : Int32) (x4 : Int32) (x5 : Int32) (x6 : Int32) (x7 : Int32) (x8 : Int32) (s0 : Int32) (w : xSt) (h : f_X11_hindered_b109 k56 x0 x1 x2 x4 x5 x6 x7 x8 s0 w = some (rE, wE)) : xX cX11_hindered 9 (some .int) RX11 false (xRm 3 0 0) (xZf (some (xI rE), wE) 0 0) 109 [(0, xR x0), (1, xI x1), (2, xI x2), (4, xI x4), (5, xI x5), (6, xI x6), (7, xI x7), (8, xI x8)] [xI s0] w 0 0 := by
  unfold f_X11_hindered_b109 at h
  refine x_istore_n (i := 3) (lv2 := [(3, xI s0), (0, xR x0), (1, xI x1), (2, xI x2), (4, xI x4), (5, xI x5), (6, xI x6), (7, xI x7), (8, xI x8)]) dX11_hindered_109 rfl (by decide) rfl ?_
  refine x_iload (j := 4) (i := 4) dX11_hindered_110 rfl ?_
  refine x_if_ne (tgt := 121) dX11_hindered_112 (by decide) (fun hc25 => ?_) (fun hc25 => ?_)
  · rw [if_neg hc25] at h
    refine x_iconst (v := 1) dX11_hindered_121 (by decide) ?_
    refine x_goto (tgt := 126) dX11_hindered_122 (by decide) ?_
    refine x_lv (lv2 := [(0, xR x0), (1, xI x1), (2, xI x2), (3, xI s0), (5, xI x5), (6, xI x6), (7, xI x7)]) [1, 2, 3, 0, 5, 6, 7] rfl ?_
    exact k_X11_hindered_b126 k56 rE wE hk56 x0 x1 x2 s0 x5 x6 x7 (1 : Int32) w h
  · rw [if_pos hc25] at h
    refine x_iload (j := 8) (i := 8) dX11_hindered_115 rfl ?_
    refine x_iconst (v := -1) dX11_hindered_117 (by decide) ?_
    refine x_icmp_eq (tgt := 125) dX11_hindered_118 (by decide) (fun hc26 => ?_) (fun hc26 => ?_)
    · rw [if_pos hc26] at h
      refine x_iconst (v := 0) dX11_hindered_125 (by decide) ?_
      refine x_lv (lv2 := [(0, xR x0), (1, xI x1), (2, xI x2), (3, xI s0), (5, xI x5), (6, xI x6), (7, xI x7)]) [1, 2, 3, 0, 5, 6, 7] rfl ?_
      exact k_X11_hindered_b126 k56 rE wE hk56 x0 x1 x2 s0 x5 x6 x7 (0 : Int32) w h
    · rw [if_neg hc26] at h
      refine x_iconst (v := 1) dX11_hindered_121 (by decide) ?_
      refine x_goto (tgt := 126) dX11_hindered_122 (by decide) ?_
      refine x_lv (lv2 := [(0, xR x0), (1, xI x1), (2, xI x2), (3, xI s0), (5, xI x5), (6, xI x6), (7, xI x7)]) [1, 2, 3, 0, 5, 6, 7] rfl ?_
      exact k_X11_hindered_b126 k56 rE wE hk56 x0 x1 x2 s0 x5 x6 x7 (1 : Int32) w h
set_option maxRecDepth 20000 in
theorem k_X11_hindered_l165 (rE : Int32) (wE : xSt) : ∀ (n : Nat) (x0 : Nat) (x1 : Int32) (x2 : Int32) (x3 : Int32) (x4 : Int32) (x5 : Int32) (x6 : Int32) (x7 : Int32) (w : xSt), f_X11_hindered_l165 n x0 x1 x2 x3 x4 x5 x6 x7 w = some (rE, wE) → xX cX11_hindered 9 (some .int) RX11 false (xRm 3 0 0) (xZf (some (xI rE), wE) 0 0) 165 [(0, xR x0), (1, xI x1), (2, xI x2), (3, xI x3), (4, xI x4), (5, xI x5), (6, xI x6), (7, xI x7)] [] w 0 0 := by
  intro n
  induction n with
  | zero => intro x0 x1 x2 x3 x4 x5 x6 x7 w h; exact nomatch (show (none : Option (Int32 × xSt)) = some (rE, wE) from h)
  | succ n ih =>
    intro x0 x1 x2 x3 x4 x5 x6 x7 w h
    rw [f_X11_hindered_l165_s] at h
    refine x_iload (j := 7) (i := 7) dX11_hindered_165 rfl ?_
    refine x_aload_n (j := 0) (i := 0) dX11_hindered_167 rfl rfl ?_
    obtain ⟨g34, h⟩ := gd_some h
    refine x_getI (ci := 11) (k := 5) dX11_hindered_168 lf_RX11_121 rfl g34 ?_
    refine x_icmp_ge (tgt := 236) dX11_hindered_171 (by decide) (fun hc35 => ?_) (fun hc35 => ?_)
    · rw [if_pos hc35] at h
      refine x_iload_n (j := 3) (i := 3) dX11_hindered_236 rfl rfl ?_
      refine x_if_eq (tgt := 244) dX11_hindered_237 (by decide) (fun hc36 => ?_) (fun hc36 => ?_)
      · rw [if_pos hc36] at h
        refine x_iload (j := 4) (i := 4) dX11_hindered_244 rfl ?_
        refine x_if_eq (tgt := 253) dX11_hindered_246 (by decide) (fun hc37 => ?_) (fun hc37 => ?_)
        · rw [if_pos hc37] at h
          refine x_iload (j := 5) (i := 5) dX11_hindered_253 rfl ?_
          refine x_if_eq (tgt := 262) dX11_hindered_255 (by decide) (fun hc38 => ?_) (fun hc38 => ?_)
          · rw [if_pos hc38] at h
            refine x_iload (j := 6) (i := 6) dX11_hindered_262 rfl ?_
            refine x_if_eq (tgt := 271) dX11_hindered_264 (by decide) (fun hc39 => ?_) (fun hc39 => ?_)
            · rw [if_pos hc39] at h
              refine x_aload_n (j := 0) (i := 0) dX11_hindered_271 rfl rfl ?_
              refine x_iload_n (j := 1) (i := 1) dX11_hindered_272 rfl rfl ?_
              refine x_iload_n (j := 2) (i := 2) dX11_hindered_273 rfl rfl ?_
              obtain ⟨v40, w41, hc42, h⟩ := bd_s h
              refine x_callVI (ci := 11) dX11_hindered_274 ml_RX11_160 mb_X11_needsMore (c_X11_needsMore x0 x1 x2 w v40 w41 hc42) ⟨_, rfl, rfl⟩ g34 [] rfl rfl (Nat.le_of_ble_eq_true rfl) (by decide) (by decide) ?_
              refine x_if_eq (tgt := 285) dX11_hindered_277 (by decide) (fun hc43 => ?_) (fun hc43 => ?_)
              · rw [if_pos hc43] at h
                refine x_aload_n (j := 0) (i := 0) dX11_hindered_285 rfl rfl ?_
                refine x_iload_n (j := 1) (i := 1) dX11_hindered_286 rfl rfl ?_
                refine x_iconst (v := 1) dX11_hindered_287 (by decide) ?_
                obtain ⟨g47, h⟩ := gd_some h
                obtain ⟨v44, w45, hc46, h⟩ := bd_s h
                refine x_callVI (ci := 11) dX11_hindered_288 ml_RX11_149 mb_X11_hasFellow (c_X11_hasFellow x0 x1 (1 : Int32) w41 v44 w45 hc46) ⟨_, rfl, rfl⟩ g47 [] rfl rfl (Nat.le_of_ble_eq_true rfl) (by decide) (by decide) ?_
                refine x_if_eq (tgt := 299) dX11_hindered_291 (by decide) (fun hc48 => ?_) (fun hc48 => ?_)
                · rw [if_pos hc48] at h
                  refine x_iconst (v := 0) dX11_hindered_299 (by decide) ?_
                  obtain ⟨hr9, hw9⟩ := Prod.mk.inj (Option.some.inj h)
                  subst hw9
                  subst hr9
                  exact x_iret dX11_hindered_300 rfl rfl
                · rw [if_neg hc48] at h
                  refine x_bipush (v := 7) dX11_hindered_294 (by decide) ?_
                  refine x_goto (tgt := 300) dX11_hindered_296 (by decide) ?_
                  obtain ⟨hr9, hw9⟩ := Prod.mk.inj (Option.some.inj h)
                  subst hw9
                  subst hr9
                  exact x_iret dX11_hindered_300 rfl rfl
              · rw [if_neg hc43] at h
                refine x_bipush (v := 6) dX11_hindered_280 (by decide) ?_
                refine x_goto (tgt := 300) dX11_hindered_282 (by decide) ?_
                obtain ⟨hr9, hw9⟩ := Prod.mk.inj (Option.some.inj h)
                subst hw9
                subst hr9
                exact x_iret dX11_hindered_300 rfl rfl
            · rw [if_neg hc39] at h
              refine x_iconst (v := 5) dX11_hindered_267 (by decide) ?_
              refine x_goto (tgt := 300) dX11_hindered_268 (by decide) ?_
              obtain ⟨hr9, hw9⟩ := Prod.mk.inj (Option.some.inj h)
              subst hw9
              subst hr9
              exact x_iret dX11_hindered_300 rfl rfl
          · rw [if_neg hc38] at h
            refine x_iconst (v := 4) dX11_hindered_258 (by decide) ?_
            refine x_goto (tgt := 300) dX11_hindered_259 (by decide) ?_
            obtain ⟨hr9, hw9⟩ := Prod.mk.inj (Option.some.inj h)
            subst hw9
            subst hr9
            exact x_iret dX11_hindered_300 rfl rfl
        · rw [if_neg hc37] at h
          refine x_iconst (v := 3) dX11_hindered_249 (by decide) ?_
          refine x_goto (tgt := 300) dX11_hindered_250 (by decide) ?_
          obtain ⟨hr9, hw9⟩ := Prod.mk.inj (Option.some.inj h)
          subst hw9
          subst hr9
          exact x_iret dX11_hindered_300 rfl rfl
      · rw [if_neg hc36] at h
        refine x_iconst (v := 2) dX11_hindered_240 (by decide) ?_
        refine x_goto (tgt := 300) dX11_hindered_241 (by decide) ?_
        obtain ⟨hr9, hw9⟩ := Prod.mk.inj (Option.some.inj h)
        subst hw9
        subst hr9
        exact x_iret dX11_hindered_300 rfl rfl
    · rw [if_neg hc35] at h
      refine x_iload (j := 5) (i := 5) dX11_hindered_174 rfl ?_
      refine x_if_ne (tgt := 223) dX11_hindered_176 (by decide) (fun hc49 => ?_) (fun hc49 => ?_)
      · rw [if_neg hc49] at h
        refine x_iconst (v := 1) dX11_hindered_223 (by decide) ?_
        refine x_goto (tgt := 228) dX11_hindered_224 (by decide) ?_
        refine x_istore (i := 5) (lv2 := [(5, xI (1 : Int32)), (0, xR x0), (1, xI x1), (2, xI x2), (3, xI x3), (4, xI x4), (6, xI x6), (7, xI x7)]) dX11_hindered_228 (by decide) rfl ?_
        refine x_iinc (j := 7) (i := 7) (v := x7 + (1 : Int32)) (lv2 := [(7, xI (x7 + (1 : Int32))), (5, xI (1 : Int32)), (0, xR x0), (1, xI x1), (2, xI x2), (3, xI x3), (4, xI x4), (6, xI x6)]) dX11_hindered_230 rfl rfl (by decide) rfl ?_
        refine x_goto (tgt := 165) dX11_hindered_233 (by decide) ?_
        refine x_lv (lv2 := [(0, xR x0), (1, xI x1), (2, xI x2), (3, xI x3), (4, xI x4), (5, xI (1 : Int32)), (6, xI x6), (7, xI (x7 + (1 : Int32)))]) [2, 3, 4, 5, 6, 1, 7, 0] rfl ?_
        exact ih x0 x1 x2 x3 x4 (1 : Int32) x6 (x7 + (1 : Int32)) w h
      · rw [if_pos hc49] at h
        refine x_iload (j := 7) (i := 7) dX11_hindered_179 rfl ?_
        refine x_iload_n (j := 1) (i := 1) dX11_hindered_181 rfl rfl ?_
        refine x_icmp_eq (tgt := 227) dX11_hindered_182 (by decide) (fun hc50 => ?_) (fun hc50 => ?_)
        · rw [if_pos hc50] at h
          refine x_iconst (v := 0) dX11_hindered_227 (by decide) ?_
          refine x_istore (i := 5) (lv2 := [(5, xI (0 : Int32)), (0, xR x0), (1, xI x1), (2, xI x2), (3, xI x3), (4, xI x4), (6, xI x6), (7, xI x7)]) dX11_hindered_228 (by decide) rfl ?_
          refine x_iinc (j := 7) (i := 7) (v := x7 + (1 : Int32)) (lv2 := [(7, xI (x7 + (1 : Int32))), (5, xI (0 : Int32)), (0, xR x0), (1, xI x1), (2, xI x2), (3, xI x3), (4, xI x4), (6, xI x6)]) dX11_hindered_230 rfl rfl (by decide) rfl ?_
          refine x_goto (tgt := 165) dX11_hindered_233 (by decide) ?_
          refine x_lv (lv2 := [(0, xR x0), (1, xI x1), (2, xI x2), (3, xI x3), (4, xI x4), (5, xI (0 : Int32)), (6, xI x6), (7, xI (x7 + (1 : Int32)))]) [2, 3, 4, 5, 6, 1, 7, 0] rfl ?_
          exact ih x0 x1 x2 x3 x4 (0 : Int32) x6 (x7 + (1 : Int32)) w h
        · rw [if_neg hc50] at h
          refine x_aload_n (j := 0) (i := 0) dX11_hindered_185 rfl rfl ?_
          refine x_getR (ci := 11) (k := 12) dX11_hindered_186 lf_RX11_38 rfl g34 ?_
          refine x_iload (j := 7) (i := 7) dX11_hindered_189 rfl ?_
          obtain ⟨g51, h⟩ := gd_some h
          obtain ⟨g52, h⟩ := gd_some h
          refine x_iald dX11_hindered_191 g51 g52 ?_
          refine x_iconst (v := -1) dX11_hindered_192 (by decide) ?_
          refine x_icmp_eq (tgt := 227) dX11_hindered_193 (by decide) (fun hc53 => ?_) (fun hc53 => ?_)
          · rw [if_pos hc53] at h
            refine x_iconst (v := 0) dX11_hindered_227 (by decide) ?_
            refine x_istore (i := 5) (lv2 := [(5, xI (0 : Int32)), (0, xR x0), (1, xI x1), (2, xI x2), (3, xI x3), (4, xI x4), (6, xI x6), (7, xI x7)]) dX11_hindered_228 (by decide) rfl ?_
            refine x_iinc (j := 7) (i := 7) (v := x7 + (1 : Int32)) (lv2 := [(7, xI (x7 + (1 : Int32))), (5, xI (0 : Int32)), (0, xR x0), (1, xI x1), (2, xI x2), (3, xI x3), (4, xI x4), (6, xI x6)]) dX11_hindered_230 rfl rfl (by decide) rfl ?_
            refine x_goto (tgt := 165) dX11_hindered_233 (by decide) ?_
            refine x_lv (lv2 := [(0, xR x0), (1, xI x1), (2, xI x2), (3, xI x3), (4, xI x4), (5, xI (0 : Int32)), (6, xI x6), (7, xI (x7 + (1 : Int32)))]) [2, 3, 4, 5, 6, 1, 7, 0] rfl ?_
            exact ih x0 x1 x2 x3 x4 (0 : Int32) x6 (x7 + (1 : Int32)) w h
          · rw [if_neg hc53] at h
            refine x_aload_n (j := 0) (i := 0) dX11_hindered_196 rfl rfl ?_
            refine x_getR (ci := 11) (k := 8) dX11_hindered_197 lf_RX11_26 rfl g34 ?_
            refine x_iload (j := 7) (i := 7) dX11_hindered_200 rfl ?_
            obtain ⟨g54, h⟩ := gd_some h
            obtain ⟨g55, h⟩ := gd_some h
            refine x_iald dX11_hindered_202 g54 g55 ?_
            refine x_aload_n (j := 0) (i := 0) dX11_hindered_203 rfl rfl ?_
            refine x_getR (ci := 11) (k := 8) dX11_hindered_204 lf_RX11_26 rfl g34 ?_
            refine x_iload_n (j := 1) (i := 1) dX11_hindered_207 rfl rfl ?_
            obtain ⟨g56, h⟩ := gd_some h
            refine x_iald dX11_hindered_208 g54 g56 ?_
            refine x_icmp_eq (tgt := 227) dX11_hindered_209 (by decide) (fun hc57 => ?_) (fun hc57 => ?_)
            · rw [if_pos hc57] at h
              refine x_iconst (v := 0) dX11_hindered_227 (by decide) ?_
              refine x_istore (i := 5) (lv2 := [(5, xI (0 : Int32)), (0, xR x0), (1, xI x1), (2, xI x2), (3, xI x3), (4, xI x4), (6, xI x6), (7, xI x7)]) dX11_hindered_228 (by decide) rfl ?_
              refine x_iinc (j := 7) (i := 7) (v := x7 + (1 : Int32)) (lv2 := [(7, xI (x7 + (1 : Int32))), (5, xI (0 : Int32)), (0, xR x0), (1, xI x1), (2, xI x2), (3, xI x3), (4, xI x4), (6, xI x6)]) dX11_hindered_230 rfl rfl (by decide) rfl ?_
              refine x_goto (tgt := 165) dX11_hindered_233 (by decide) ?_
              refine x_lv (lv2 := [(0, xR x0), (1, xI x1), (2, xI x2), (3, xI x3), (4, xI x4), (5, xI (0 : Int32)), (6, xI x6), (7, xI (x7 + (1 : Int32)))]) [2, 3, 4, 5, 6, 1, 7, 0] rfl ?_
              exact ih x0 x1 x2 x3 x4 (0 : Int32) x6 (x7 + (1 : Int32)) w h
            · rw [if_neg hc57] at h
              refine x_aload_n (j := 0) (i := 0) dX11_hindered_212 rfl rfl ?_
              refine x_iload_n (j := 1) (i := 1) dX11_hindered_213 rfl rfl ?_
              refine x_iload_n (j := 2) (i := 2) dX11_hindered_214 rfl rfl ?_
              refine x_iload (j := 7) (i := 7) dX11_hindered_215 rfl ?_
              obtain ⟨v58, w59, hc60, h⟩ := bd_s h
              refine x_callVI (ci := 11) dX11_hindered_217 ml_RX11_157 mb_X11_isNear (c_X11_isNear x0 x1 x2 x7 w v58 w59 hc60) ⟨_, rfl, rfl⟩ g34 [] rfl rfl (Nat.le_of_ble_eq_true rfl) (by decide) (by decide) ?_
              refine x_if_eq (tgt := 227) dX11_hindered_220 (by decide) (fun hc61 => ?_) (fun hc61 => ?_)
              · rw [if_pos hc61] at h
                refine x_iconst (v := 0) dX11_hindered_227 (by decide) ?_
                refine x_istore (i := 5) (lv2 := [(5, xI (0 : Int32)), (0, xR x0), (1, xI x1), (2, xI x2), (3, xI x3), (4, xI x4), (6, xI x6), (7, xI x7)]) dX11_hindered_228 (by decide) rfl ?_
                refine x_iinc (j := 7) (i := 7) (v := x7 + (1 : Int32)) (lv2 := [(7, xI (x7 + (1 : Int32))), (5, xI (0 : Int32)), (0, xR x0), (1, xI x1), (2, xI x2), (3, xI x3), (4, xI x4), (6, xI x6)]) dX11_hindered_230 rfl rfl (by decide) rfl ?_
                refine x_goto (tgt := 165) dX11_hindered_233 (by decide) ?_
                refine x_lv (lv2 := [(0, xR x0), (1, xI x1), (2, xI x2), (3, xI x3), (4, xI x4), (5, xI (0 : Int32)), (6, xI x6), (7, xI (x7 + (1 : Int32)))]) [2, 3, 4, 5, 6, 1, 7, 0] rfl ?_
                exact ih x0 x1 x2 x3 x4 (0 : Int32) x6 (x7 + (1 : Int32)) w59 h
              · rw [if_neg hc61] at h
                refine x_iconst (v := 1) dX11_hindered_223 (by decide) ?_
                refine x_goto (tgt := 228) dX11_hindered_224 (by decide) ?_
                refine x_istore (i := 5) (lv2 := [(5, xI (1 : Int32)), (0, xR x0), (1, xI x1), (2, xI x2), (3, xI x3), (4, xI x4), (6, xI x6), (7, xI x7)]) dX11_hindered_228 (by decide) rfl ?_
                refine x_iinc (j := 7) (i := 7) (v := x7 + (1 : Int32)) (lv2 := [(7, xI (x7 + (1 : Int32))), (5, xI (1 : Int32)), (0, xR x0), (1, xI x1), (2, xI x2), (3, xI x3), (4, xI x4), (6, xI x6)]) dX11_hindered_230 rfl rfl (by decide) rfl ?_
                refine x_goto (tgt := 165) dX11_hindered_233 (by decide) ?_
                refine x_lv (lv2 := [(0, xR x0), (1, xI x1), (2, xI x2), (3, xI x3), (4, xI x4), (5, xI (1 : Int32)), (6, xI x6), (7, xI (x7 + (1 : Int32)))]) [2, 3, 4, 5, 6, 1, 7, 0] rfl ?_
                exact ih x0 x1 x2 x3 x4 (1 : Int32) x6 (x7 + (1 : Int32)) w59 h
set_option maxRecDepth 20000 in
theorem k_X11_hindered_l56 (rE : Int32) (wE : xSt) : ∀ (n : Nat) (x0 : Nat) (x1 : Int32) (x2 : Int32) (x3 : Int32) (x4 : Int32) (x5 : Int32) (x6 : Int32) (x7 : Int32) (w : xSt), f_X11_hindered_l56 n x0 x1 x2 x3 x4 x5 x6 x7 w = some (rE, wE) → xX cX11_hindered 9 (some .int) RX11 false (xRm 3 0 0) (xZf (some (xI rE), wE) 0 0) 56 [(0, xR x0), (1, xI x1), (2, xI x2), (3, xI x3), (4, xI x4), (5, xI x5), (6, xI x6), (7, xI x7)] [] w 0 0 := by
  intro n
  induction n with
  | zero => intro x0 x1 x2 x3 x4 x5 x6 x7 w h; exact nomatch (show (none : Option (Int32 × xSt)) = some (rE, wE) from h)
  | succ n ih =>
    intro x0 x1 x2 x3 x4 x5 x6 x7 w h
    rw [f_X11_hindered_l56_s] at h
    refine x_iload (j := 7) (i := 7) dX11_hindered_56 rfl ?_
    refine x_aload_n (j := 0) (i := 0) dX11_hindered_58 rfl rfl ?_
    obtain ⟨g10, h⟩ := gd_some h
    refine x_getI (ci := 11) (k := 0) dX11_hindered_59 lf_RX11_111 rfl g10 ?_
    refine x_aload_n (j := 0) (i := 0) dX11_hindered_62 rfl rfl ?_
    refine x_getI (ci := 11) (k := 1) dX11_hindered_63 lf_RX11_114 rfl g10 ?_
    refine x_imul dX11_hindered_66 ?_
    refine x_icmp_ge (tgt := 162) dX11_hindered_67 (by decide) (fun hc11 => ?_) (fun hc11 => ?_)
    · rw [if_pos hc11] at h
      refine x_iconst (v := 0) dX11_hindered_162 (by decide) ?_
      refine x_istore (i := 7) (lv2 := [(7, xI (0 : Int32)), (0, xR x0), (1, xI x1), (2, xI x2), (3, xI x3), (4, xI x4), (5, xI x5), (6, xI x6)]) dX11_hindered_163 (by decide) rfl ?_
      refine x_lv (lv2 := [(0, xR x0), (1, xI x1), (2, xI x2), (3, xI x3), (4, xI x4), (5, xI x5), (6, xI x6), (7, xI (0 : Int32))]) [1, 2, 3, 4, 5, 6, 7, 0] rfl ?_
      exact k_X11_hindered_l165 rE wE xFu x0 x1 x2 x3 x4 x5 x6 (0 : Int32) w h
    · rw [if_neg hc11] at h
      refine x_aload_n (j := 0) (i := 0) dX11_hindered_70 rfl rfl ?_
      refine x_iload_n (j := 1) (i := 1) dX11_hindered_71 rfl rfl ?_
      refine x_iload_n (j := 2) (i := 2) dX11_hindered_72 rfl rfl ?_
      refine x_iload (j := 7) (i := 7) dX11_hindered_73 rfl ?_
      obtain ⟨v12, w13, hc14, h⟩ := bd_s h
      refine x_callVI (ci := 11) dX11_hindered_75 ml_RX11_138 mb_X11_covers (c_X11_covers x0 x1 x2 x7 w v12 w13 hc14) ⟨_, rfl, rfl⟩ g10 [] rfl rfl (Nat.le_of_ble_eq_true rfl) (by decide) (by decide) ?_
      refine x_if_eq (tgt := 156) dX11_hindered_78 (by decide) (fun hc15 => ?_) (fun hc15 => ?_)
      · rw [if_pos hc15] at h
        refine x_iinc (j := 7) (i := 7) (v := x7 + (1 : Int32)) (lv2 := [(7, xI (x7 + (1 : Int32))), (0, xR x0), (1, xI x1), (2, xI x2), (3, xI x3), (4, xI x4), (5, xI x5), (6, xI x6)]) dX11_hindered_156 rfl rfl (by decide) rfl ?_
        refine x_goto (tgt := 56) dX11_hindered_159 (by decide) ?_
        refine x_lv (lv2 := [(0, xR x0), (1, xI x1), (2, xI x2), (3, xI x3), (4, xI x4), (5, xI x5), (6, xI x6), (7, xI (x7 + (1 : Int32)))]) [1, 2, 3, 4, 5, 6, 7, 0] rfl ?_
        exact ih x0 x1 x2 x3 x4 x5 x6 (x7 + (1 : Int32)) w13 h
      · rw [if_neg hc15] at h
        refine x_aload_n (j := 0) (i := 0) dX11_hindered_81 rfl rfl ?_
        refine x_iload_n (j := 1) (i := 1) dX11_hindered_82 rfl rfl ?_
        refine x_iload (j := 7) (i := 7) dX11_hindered_83 rfl ?_
        obtain ⟨g19, h⟩ := gd_some h
        obtain ⟨v16, w17, hc18, h⟩ := bd_s h
        refine x_callVI (ci := 11) dX11_hindered_85 ml_RX11_153 mb_X11_otherOn (c_X11_otherOn x0 x1 x7 w13 v16 w17 hc18) ⟨_, rfl, rfl⟩ g19 [] rfl rfl (Nat.le_of_ble_eq_true rfl) (by decide) (by decide) ?_
        refine x_istore (i := 8) (lv2 := [(8, xI v16), (0, xR x0), (1, xI x1), (2, xI x2), (3, xI x3), (4, xI x4), (5, xI x5), (6, xI x6), (7, xI x7)]) dX11_hindered_88 (by decide) rfl ?_
        refine x_iload_n (j := 4) (i := 3) dX11_hindered_90 rfl rfl ?_
        refine x_if_ne (tgt := 104) dX11_hindered_91 (by decide) (fun hc20 => ?_) (fun hc20 => ?_)
        · rw [if_neg hc20] at h
          refine x_iconst (v := 1) dX11_hindered_104 (by decide) ?_
          refine x_goto (tgt := 109) dX11_hindered_105 (by decide) ?_
          refine x_lv (lv2 := [(0, xR x0), (1, xI x1), (2, xI x2), (4, xI x4), (5, xI x5), (6, xI x6), (7, xI x7), (8, xI v16)]) [1, 2, 3, 5, 6, 7, 8, 0] rfl ?_
          exact k_X11_hindered_b109 (f_X11_hindered_l56 n) rE wE ih x0 x1 x2 x4 x5 x6 x7 v16 (1 : Int32) w17 h
        · rw [if_pos hc20] at h
          refine x_aload_n (j := 1) (i := 0) dX11_hindered_94 rfl rfl ?_
          obtain ⟨g21, h⟩ := gd_some h
          refine x_getR (ci := 11) (k := 2) dX11_hindered_95 lf_RX11_7 rfl g21 ?_
          refine x_iload (j := 8) (i := 7) dX11_hindered_98 rfl ?_
          obtain ⟨g22, h⟩ := gd_some h
          obtain ⟨g23, h⟩ := gd_some h
          refine x_iald dX11_hindered_100 g22 g23 ?_
          refine x_if_eq (tgt := 108) dX11_hindered_101 (by decide) (fun hc24 => ?_) (fun hc24 => ?_)
          · rw [if_pos hc24] at h
            refine x_iconst (v := 0) dX11_hindered_108 (by decide) ?_
            refine x_lv (lv2 := [(0, xR x0), (1, xI x1), (2, xI x2), (4, xI x4), (5, xI x5), (6, xI x6), (7, xI x7), (8, xI v16)]) [1, 2, 3, 5, 6, 7, 8, 0] rfl ?_
            exact k_X11_hindered_b109 (f_X11_hindered_l56 n) rE wE ih x0 x1 x2 x4 x5 x6 x7 v16 (0 : Int32) w17 h
          · rw [if_neg hc24] at h
            refine x_iconst (v := 1) dX11_hindered_104 (by decide) ?_
            refine x_goto (tgt := 109) dX11_hindered_105 (by decide) ?_
            refine x_lv (lv2 := [(0, xR x0), (1, xI x1), (2, xI x2), (4, xI x4), (5, xI x5), (6, xI x6), (7, xI x7), (8, xI v16)]) [1, 2, 3, 5, 6, 7, 8, 0] rfl ?_
            exact k_X11_hindered_b109 (f_X11_hindered_l56 n) rE wE ih x0 x1 x2 x4 x5 x6 x7 v16 (1 : Int32) w17 h
set_option maxRecDepth 20000 in
theorem c_X11_hindered (x0 : Nat) (x1 : Int32) (x2 : Int32) (w : xSt) (rE : Int32) (wE : xSt) (h : f_X11_hindered x0 x1 x2 w = some (rE, wE)) : xCall yX11_hindered cX11_hindered 9 (some .int) 3 0 0 [xR x0, xI x1, xI x2] w (some (xI rE), wE) := by
  refine xCall_of false (by decide) (fun q => nomatch q) (Nat.le_of_ble_eq_true rfl) ?_
  show xX cX11_hindered 9 (some .int) RX11 false (xRm 3 0 0) (xZf (some (xI rE), wE) 0 0) 0 [(0, xR x0), (1, xI x1), (2, xI x2)] [] w 0 0
  unfold f_X11_hindered at h
  refine x_iload_n (j := 2) (i := 2) dX11_hindered_0 rfl rfl ?_
  refine x_aload_n (j := 0) (i := 0) dX11_hindered_1 rfl rfl ?_
  obtain ⟨g1, h⟩ := gd_some h
  refine x_getI (ci := 11) (k := 0) dX11_hindered_2 lf_RX11_111 rfl g1 ?_
  obtain ⟨g2, h⟩ := gd_some h
  refine x_irem dX11_hindered_5 g2 ?_
  refine x_aload_n (j := 0) (i := 0) dX11_hindered_6 rfl rfl ?_
  refine x_getR (ci := 11) (k := 9) dX11_hindered_7 lf_RX11_29 rfl g1 ?_
  refine x_iload_n (j := 1) (i := 1) dX11_hindered_10 rfl rfl ?_
  obtain ⟨g3, h⟩ := gd_some h
  obtain ⟨g4, h⟩ := gd_some h
  refine x_iald dX11_hindered_11 g3 g4 ?_
  refine x_iadd dX11_hindered_12 ?_
  refine x_aload_n (j := 0) (i := 0) dX11_hindered_13 rfl rfl ?_
  refine x_getI (ci := 11) (k := 0) dX11_hindered_14 lf_RX11_111 rfl g1 ?_
  refine x_icmp_gt (tgt := 40) dX11_hindered_17 (by decide) (fun hc5 => ?_) (fun hc5 => ?_)
  · rw [if_pos hc5] at h
    refine x_iconst (v := 1) dX11_hindered_40 (by decide) ?_
    obtain ⟨hr9, hw9⟩ := Prod.mk.inj (Option.some.inj h)
    subst hw9
    subst hr9
    exact x_iret dX11_hindered_41 rfl rfl
  · rw [if_neg hc5] at h
    refine x_iload_n (j := 2) (i := 2) dX11_hindered_20 rfl rfl ?_
    refine x_aload_n (j := 0) (i := 0) dX11_hindered_21 rfl rfl ?_
    refine x_getI (ci := 11) (k := 0) dX11_hindered_22 lf_RX11_111 rfl g1 ?_
    obtain ⟨g6, h⟩ := gd_some h
    refine x_idiv dX11_hindered_25 g6 ?_
    refine x_aload_n (j := 0) (i := 0) dX11_hindered_26 rfl rfl ?_
    refine x_getR (ci := 11) (k := 10) dX11_hindered_27 lf_RX11_32 rfl g1 ?_
    refine x_iload_n (j := 1) (i := 1) dX11_hindered_30 rfl rfl ?_
    obtain ⟨g7, h⟩ := gd_some h
    obtain ⟨g8, h⟩ := gd_some h
    refine x_iald dX11_hindered_31 g7 g8 ?_
    refine x_iadd dX11_hindered_32 ?_
    refine x_aload_n (j := 0) (i := 0) dX11_hindered_33 rfl rfl ?_
    refine x_getI (ci := 11) (k := 1) dX11_hindered_34 lf_RX11_114 rfl g1 ?_
    refine x_icmp_le (tgt := 42) dX11_hindered_37 (by decide) (fun hc9 => ?_) (fun hc9 => ?_)
    · rw [if_pos hc9] at h
      refine x_iconst (v := 0) dX11_hindered_42 (by decide) ?_
      refine x_istore_n (i := 3) (lv2 := [(3, xI (0 : Int32)), (0, xR x0), (1, xI x1), (2, xI x2)]) dX11_hindered_43 rfl (by decide) rfl ?_
      refine x_iconst (v := 0) dX11_hindered_44 (by decide) ?_
      refine x_istore (i := 4) (lv2 := [(4, xI (0 : Int32)), (3, xI (0 : Int32)), (0, xR x0), (1, xI x1), (2, xI x2)]) dX11_hindered_45 (by decide) rfl ?_
      refine x_iconst (v := 0) dX11_hindered_47 (by decide) ?_
      refine x_istore (i := 5) (lv2 := [(5, xI (0 : Int32)), (4, xI (0 : Int32)), (3, xI (0 : Int32)), (0, xR x0), (1, xI x1), (2, xI x2)]) dX11_hindered_48 (by decide) rfl ?_
      refine x_iconst (v := 0) dX11_hindered_50 (by decide) ?_
      refine x_istore (i := 6) (lv2 := [(6, xI (0 : Int32)), (5, xI (0 : Int32)), (4, xI (0 : Int32)), (3, xI (0 : Int32)), (0, xR x0), (1, xI x1), (2, xI x2)]) dX11_hindered_51 (by decide) rfl ?_
      refine x_iconst (v := 0) dX11_hindered_53 (by decide) ?_
      refine x_istore (i := 7) (lv2 := [(7, xI (0 : Int32)), (6, xI (0 : Int32)), (5, xI (0 : Int32)), (4, xI (0 : Int32)), (3, xI (0 : Int32)), (0, xR x0), (1, xI x1), (2, xI x2)]) dX11_hindered_54 (by decide) rfl ?_
      refine x_lv (lv2 := [(0, xR x0), (1, xI x1), (2, xI x2), (3, xI (0 : Int32)), (4, xI (0 : Int32)), (5, xI (0 : Int32)), (6, xI (0 : Int32)), (7, xI (0 : Int32))]) [5, 6, 7, 4, 3, 2, 1, 0] rfl ?_
      exact k_X11_hindered_l56 rE wE xFu x0 x1 x2 (0 : Int32) (0 : Int32) (0 : Int32) (0 : Int32) (0 : Int32) w h
    · rw [if_neg hc9] at h
      refine x_iconst (v := 1) dX11_hindered_40 (by decide) ?_
      obtain ⟨hr9, hw9⟩ := Prod.mk.inj (Option.some.inj h)
      subst hw9
      subst hr9
      exact x_iret dX11_hindered_41 rfl rfl
set_option maxRecDepth 20000 in
theorem c_X11_hinders (x0 : Nat) (x1 : Int32) (x2 : Int32) (w : xSt) (rE : Int32) (wE : xSt) (h : f_X11_hinders x0 x1 x2 w = some (rE, wE)) : xCall yX11_hinders cX11_hinders 3 (some .int) 4 0 0 [xR x0, xI x1, xI x2] w (some (xI rE), wE) := by
  refine xCall_of false (by decide) (fun q => nomatch q) (Nat.le_of_ble_eq_true rfl) ?_
  show xX cX11_hinders 3 (some .int) RX11 false (xRm 4 0 0) (xZf (some (xI rE), wE) 0 0) 0 [(0, xR x0), (1, xI x1), (2, xI x2)] [] w 0 0
  unfold f_X11_hinders at h
  refine x_aload_n (j := 0) (i := 0) dX11_hinders_0 rfl rfl ?_
  refine x_iload_n (j := 1) (i := 1) dX11_hinders_1 rfl rfl ?_
  obtain ⟨g4, h⟩ := gd_some h
  obtain ⟨v1, w2, hc3, h⟩ := bd_s h
  refine x_callVI (ci := 11) dX11_hinders_2 ml_RX11_124 mb_X11_isStand (c_X11_isStand x0 x1 w v1 w2 hc3) ⟨_, rfl, rfl⟩ g4 [] rfl rfl (Nat.le_of_ble_eq_true rfl) (by decide) (by decide) ?_
  refine x_if_eq (tgt := 25) dX11_hinders_5 (by decide) (fun hc5 => ?_) (fun hc5 => ?_)
  · rw [if_pos hc5] at h
    refine x_iconst (v := -1) dX11_hinders_25 (by decide) ?_
    obtain ⟨hr9, hw9⟩ := Prod.mk.inj (Option.some.inj h)
    subst hw9
    subst hr9
    exact x_iret dX11_hinders_26 rfl rfl
  · rw [if_neg hc5] at h
    refine x_aload_n (j := 0) (i := 0) dX11_hinders_8 rfl rfl ?_
    refine x_iload_n (j := 2) (i := 2) dX11_hinders_9 rfl rfl ?_
    obtain ⟨g9, h⟩ := gd_some h
    obtain ⟨v6, w7, hc8, h⟩ := bd_s h
    refine x_callVI (ci := 11) dX11_hinders_10 ml_RX11_128 mb_X11_isCell (c_X11_isCell x0 x2 w2 v6 w7 hc8) ⟨_, rfl, rfl⟩ g9 [] rfl rfl (Nat.le_of_ble_eq_true rfl) (by decide) (by decide) ?_
    refine x_if_eq (tgt := 25) dX11_hinders_13 (by decide) (fun hc10 => ?_) (fun hc10 => ?_)
    · rw [if_pos hc10] at h
      refine x_iconst (v := -1) dX11_hinders_25 (by decide) ?_
      obtain ⟨hr9, hw9⟩ := Prod.mk.inj (Option.some.inj h)
      subst hw9
      subst hr9
      exact x_iret dX11_hinders_26 rfl rfl
    · rw [if_neg hc10] at h
      refine x_aload_n (j := 0) (i := 0) dX11_hinders_16 rfl rfl ?_
      refine x_iload_n (j := 1) (i := 1) dX11_hinders_17 rfl rfl ?_
      refine x_iload_n (j := 2) (i := 2) dX11_hinders_18 rfl rfl ?_
      obtain ⟨g14, h⟩ := gd_some h
      obtain ⟨v11, w12, hc13, h⟩ := bd_s h
      refine x_callVI (ci := 11) dX11_hinders_19 ml_RX11_163 mb_X11_hindered (c_X11_hindered x0 x1 x2 w7 v11 w12 hc13) ⟨_, rfl, rfl⟩ g14 [] rfl rfl (Nat.le_of_ble_eq_true rfl) (by decide) (by decide) ?_
      refine x_goto (tgt := 26) dX11_hinders_22 (by decide) ?_
      obtain ⟨hr9, hw9⟩ := Prod.mk.inj (Option.some.inj h)
      subst hw9
      subst hr9
      exact x_iret dX11_hinders_26 rfl rfl
set_option maxRecDepth 20000 in
theorem c_X11_lay (x0 : Nat) (x1 : Int32) (x2 : Int32) (w : xSt) (rE : Int32) (wE : xSt) (h : f_X11_lay x0 x1 x2 w = some (rE, wE)) : xCall yX11_lay cX11_lay 4 (some .int) 4 0 0 [xR x0, xI x1, xI x2] w (some (xI rE), wE) := by
  refine xCall_of false (by decide) (fun q => nomatch q) (Nat.le_of_ble_eq_true rfl) ?_
  show xX cX11_lay 4 (some .int) RX11 false (xRm 4 0 0) (xZf (some (xI rE), wE) 0 0) 0 [(0, xR x0), (1, xI x1), (2, xI x2)] [] w 0 0
  unfold f_X11_lay at h
  refine x_aload_n (j := 0) (i := 0) dX11_lay_0 rfl rfl ?_
  refine x_iload_n (j := 1) (i := 1) dX11_lay_1 rfl rfl ?_
  obtain ⟨g4, h⟩ := gd_some h
  obtain ⟨v1, w2, hc3, h⟩ := bd_s h
  refine x_callVI (ci := 11) dX11_lay_2 ml_RX11_124 mb_X11_isStand (c_X11_isStand x0 x1 w v1 w2 hc3) ⟨_, rfl, rfl⟩ g4 [] rfl rfl (Nat.le_of_ble_eq_true rfl) (by decide) (by decide) ?_
  refine x_if_eq (tgt := 16) dX11_lay_5 (by decide) (fun hc5 => ?_) (fun hc5 => ?_)
  · rw [if_pos hc5] at h
    refine x_iconst (v := -1) dX11_lay_16 (by decide) ?_
    obtain ⟨hr9, hw9⟩ := Prod.mk.inj (Option.some.inj h)
    subst hw9
    subst hr9
    exact x_iret dX11_lay_17 rfl rfl
  · rw [if_neg hc5] at h
    refine x_aload_n (j := 0) (i := 0) dX11_lay_8 rfl rfl ?_
    refine x_iload_n (j := 2) (i := 2) dX11_lay_9 rfl rfl ?_
    obtain ⟨g9, h⟩ := gd_some h
    obtain ⟨v6, w7, hc8, h⟩ := bd_s h
    refine x_callVI (ci := 11) dX11_lay_10 ml_RX11_128 mb_X11_isCell (c_X11_isCell x0 x2 w2 v6 w7 hc8) ⟨_, rfl, rfl⟩ g9 [] rfl rfl (Nat.le_of_ble_eq_true rfl) (by decide) (by decide) ?_
    refine x_if_ne (tgt := 18) dX11_lay_13 (by decide) (fun hc10 => ?_) (fun hc10 => ?_)
    · rw [if_neg hc10] at h
      refine x_aload_n (j := 0) (i := 0) dX11_lay_18 rfl rfl ?_
      obtain ⟨g11, h⟩ := gd_some h
      refine x_getR (ci := 11) (k := 14) dX11_lay_19 lf_RX11_44 rfl g11 ?_
      refine x_iload_n (j := 1) (i := 1) dX11_lay_22 rfl rfl ?_
      obtain ⟨g12, h⟩ := gd_some h
      obtain ⟨g13, h⟩ := gd_some h
      refine x_zald dX11_lay_23 g12 g13 ?_
      refine x_if_eq (tgt := 30) dX11_lay_24 (by decide) (fun hc14 => ?_) (fun hc14 => ?_)
      · rw [if_pos hc14] at h
        refine x_aload_n (j := 0) (i := 0) dX11_lay_30 rfl rfl ?_
        refine x_iload_n (j := 1) (i := 1) dX11_lay_31 rfl rfl ?_
        refine x_iload_n (j := 2) (i := 2) dX11_lay_32 rfl rfl ?_
        obtain ⟨v15, w16, hc17, h⟩ := bd_s h
        refine x_callVI (ci := 11) dX11_lay_33 ml_RX11_163 mb_X11_hindered (c_X11_hindered x0 x1 x2 w7 v15 w16 hc17) ⟨_, rfl, rfl⟩ g11 [] rfl rfl (Nat.le_of_ble_eq_true rfl) (by decide) (by decide) ?_
        refine x_istore_n (i := 3) (lv2 := [(3, xI v15), (0, xR x0), (1, xI x1), (2, xI x2)]) dX11_lay_36 rfl (by decide) rfl ?_
        refine x_aload_n (j := 1) (i := 0) dX11_lay_37 rfl rfl ?_
        obtain ⟨g18, h⟩ := gd_some h
        refine x_getR (ci := 11) (k := 12) dX11_lay_38 lf_RX11_38 rfl g18 ?_
        refine x_iload_n (j := 2) (i := 1) dX11_lay_41 rfl rfl ?_
        refine x_iload_n (j := 0) (i := 3) dX11_lay_42 rfl rfl ?_
        refine x_if_ne (tgt := 50) dX11_lay_43 (by decide) (fun hc19 => ?_) (fun hc19 => ?_)
        · rw [if_neg hc19] at h
          refine x_aload_n (j := 1) (i := 0) dX11_lay_50 rfl rfl ?_
          refine x_getR (ci := 11) (k := 12) dX11_lay_51 lf_RX11_38 rfl g18 ?_
          refine x_iload_n (j := 2) (i := 1) dX11_lay_54 rfl rfl ?_
          obtain ⟨g20, h⟩ := gd_some h
          obtain ⟨g21, h⟩ := gd_some h
          refine x_iald dX11_lay_55 g20 g21 ?_
          obtain ⟨w22, hw23, h⟩ := lt1_some h
          refine x_iast dX11_lay_56 g20 g21 ?_
          rw [← hw23]
          refine x_iload_n (j := 0) (i := 3) dX11_lay_57 rfl rfl ?_
          obtain ⟨hr9, hw9⟩ := Prod.mk.inj (Option.some.inj h)
          subst hw9
          subst hr9
          exact x_iret dX11_lay_58 rfl rfl
        · rw [if_pos hc19] at h
          refine x_iload_n (j := 3) (i := 2) dX11_lay_46 rfl rfl ?_
          refine x_goto (tgt := 56) dX11_lay_47 (by decide) ?_
          obtain ⟨g24, h⟩ := gd_some h
          obtain ⟨g25, h⟩ := gd_some h
          obtain ⟨w26, hw27, h⟩ := lt1_some h
          refine x_iast dX11_lay_56 g24 g25 ?_
          rw [← hw27]
          refine x_iload_n (j := 0) (i := 3) dX11_lay_57 rfl rfl ?_
          obtain ⟨hr9, hw9⟩ := Prod.mk.inj (Option.some.inj h)
          subst hw9
          subst hr9
          exact x_iret dX11_lay_58 rfl rfl
      · rw [if_neg hc14] at h
        refine x_bipush (v := -3) dX11_lay_27 (by decide) ?_
        obtain ⟨hr9, hw9⟩ := Prod.mk.inj (Option.some.inj h)
        subst hw9
        subst hr9
        exact x_iret dX11_lay_29 rfl rfl
    · rw [if_pos hc10] at h
      refine x_iconst (v := -1) dX11_lay_16 (by decide) ?_
      obtain ⟨hr9, hw9⟩ := Prod.mk.inj (Option.some.inj h)
      subst hw9
      subst hr9
      exact x_iret dX11_lay_17 rfl rfl
set_option maxRecDepth 20000 in
theorem c_X11_take (x0 : Nat) (x1 : Int32) (w : xSt) (rE : Int32) (wE : xSt) (h : f_X11_take x0 x1 w = some (rE, wE)) : xCall yX11_take cX11_take 3 (some .int) 3 0 0 [xR x0, xI x1] w (some (xI rE), wE) := by
  refine xCall_of false (by decide) (fun q => nomatch q) (Nat.le_of_ble_eq_true rfl) ?_
  show xX cX11_take 3 (some .int) RX11 false (xRm 3 0 0) (xZf (some (xI rE), wE) 0 0) 0 [(0, xR x0), (1, xI x1)] [] w 0 0
  unfold f_X11_take at h
  refine x_aload_n (j := 0) (i := 0) dX11_take_0 rfl rfl ?_
  refine x_iload_n (j := 1) (i := 1) dX11_take_1 rfl rfl ?_
  obtain ⟨g4, h⟩ := gd_some h
  obtain ⟨v1, w2, hc3, h⟩ := bd_s h
  refine x_callVI (ci := 11) dX11_take_2 ml_RX11_166 mb_X11_isLaid (c_X11_isLaid x0 x1 w v1 w2 hc3) ⟨_, rfl, rfl⟩ g4 [] rfl rfl (Nat.le_of_ble_eq_true rfl) (by decide) (by decide) ?_
  refine x_if_ne (tgt := 10) dX11_take_5 (by decide) (fun hc5 => ?_) (fun hc5 => ?_)
  · rw [if_neg hc5] at h
    refine x_aload_n (j := 0) (i := 0) dX11_take_10 rfl rfl ?_
    obtain ⟨g6, h⟩ := gd_some h
    refine x_getR (ci := 11) (k := 14) dX11_take_11 lf_RX11_44 rfl g6 ?_
    refine x_iload_n (j := 1) (i := 1) dX11_take_14 rfl rfl ?_
    obtain ⟨g7, h⟩ := gd_some h
    obtain ⟨g8, h⟩ := gd_some h
    refine x_zald dX11_take_15 g7 g8 ?_
    refine x_if_eq (tgt := 22) dX11_take_16 (by decide) (fun hc9 => ?_) (fun hc9 => ?_)
    · rw [if_pos hc9] at h
      refine x_aload_n (j := 0) (i := 0) dX11_take_22 rfl rfl ?_
      refine x_getR (ci := 11) (k := 12) dX11_take_23 lf_RX11_38 rfl g6 ?_
      refine x_iload_n (j := 1) (i := 1) dX11_take_26 rfl rfl ?_
      obtain ⟨g10, h⟩ := gd_some h
      obtain ⟨g11, h⟩ := gd_some h
      refine x_iald dX11_take_27 g10 g11 ?_
      refine x_istore_n (i := 2) (lv2 := [(2, xI (wI w2 (wR w2 x0 12) x1.toNatClampNeg)), (0, xR x0), (1, xI x1)]) dX11_take_28 rfl (by decide) rfl ?_
      refine x_aload_n (j := 1) (i := 0) dX11_take_29 rfl rfl ?_
      refine x_getR (ci := 11) (k := 12) dX11_take_30 lf_RX11_38 rfl g6 ?_
      refine x_iload_n (j := 2) (i := 1) dX11_take_33 rfl rfl ?_
      refine x_iconst (v := -1) dX11_take_34 (by decide) ?_
      obtain ⟨w12, hw13, h⟩ := lt1_some h
      refine x_iast dX11_take_35 g10 g11 ?_
      rw [← hw13]
      refine x_iload_n (j := 0) (i := 2) dX11_take_36 rfl rfl ?_
      obtain ⟨hr9, hw9⟩ := Prod.mk.inj (Option.some.inj h)
      subst hw9
      subst hr9
      exact x_iret dX11_take_37 rfl rfl
    · rw [if_neg hc9] at h
      refine x_bipush (v := -3) dX11_take_19 (by decide) ?_
      obtain ⟨hr9, hw9⟩ := Prod.mk.inj (Option.some.inj h)
      subst hw9
      subst hr9
      exact x_iret dX11_take_21 rfl rfl
  · rw [if_pos hc5] at h
    refine x_iconst (v := -1) dX11_take_8 (by decide) ?_
    obtain ⟨hr9, hw9⟩ := Prod.mk.inj (Option.some.inj h)
    subst hw9
    subst hr9
    exact x_iret dX11_take_9 rfl rfl
set_option maxRecDepth 20000 in
theorem k_X11_marksOf_l4 (rE : Int32) (wE : xSt) : ∀ (n : Nat) (x0 : Nat) (x1 : Int32) (x2 : Int32) (x3 : Int32) (w : xSt), f_X11_marksOf_l4 n x0 x1 x2 x3 w = some (rE, wE) → xX cX11_marksOf 4 (some .int) RX11 false (xRm 0 0 0) (xZf (some (xI rE), wE) 0 0) 4 [(0, xR x0), (1, xI x1), (2, xI x2), (3, xI x3)] [] w 0 0 := by
  intro n
  induction n with
  | zero => intro x0 x1 x2 x3 w h; exact nomatch (show (none : Option (Int32 × xSt)) = some (rE, wE) from h)
  | succ n ih =>
    intro x0 x1 x2 x3 w h
    rw [f_X11_marksOf_l4_s] at h
    refine x_iload_n (j := 3) (i := 3) dX11_marksOf_4 rfl rfl ?_
    refine x_aload_n (j := 0) (i := 0) dX11_marksOf_5 rfl rfl ?_
    obtain ⟨g1, h⟩ := gd_some h
    refine x_getI (ci := 11) (k := 24) dX11_marksOf_6 lf_RX11_169 rfl g1 ?_
    refine x_icmp_ge (tgt := 41) dX11_marksOf_9 (by decide) (fun hc2 => ?_) (fun hc2 => ?_)
    · rw [if_pos hc2] at h
      refine x_iload_n (j := 2) (i := 2) dX11_marksOf_41 rfl rfl ?_
      obtain ⟨hr9, hw9⟩ := Prod.mk.inj (Option.some.inj h)
      subst hw9
      subst hr9
      exact x_iret dX11_marksOf_42 rfl rfl
    · rw [if_neg hc2] at h
      refine x_iload_n (j := 2) (i := 2) dX11_marksOf_12 rfl rfl ?_
      refine x_aload_n (j := 0) (i := 0) dX11_marksOf_13 rfl rfl ?_
      refine x_getR (ci := 11) (k := 27) dX11_marksOf_14 lf_RX11_78 rfl g1 ?_
      refine x_bipush (v := 9) dX11_marksOf_17 (by decide) ?_
      refine x_iload_n (j := 3) (i := 3) dX11_marksOf_19 rfl rfl ?_
      refine x_imul dX11_marksOf_20 ?_
      refine x_iload_n (j := 1) (i := 1) dX11_marksOf_21 rfl rfl ?_
      refine x_iadd dX11_marksOf_22 ?_
      obtain ⟨g3, h⟩ := gd_some h
      obtain ⟨g4, h⟩ := gd_some h
      refine x_iald dX11_marksOf_23 g3 g4 ?_
      refine x_iconst (v := -1) dX11_marksOf_24 (by decide) ?_
      refine x_icmp_eq (tgt := 32) dX11_marksOf_25 (by decide) (fun hc5 => ?_) (fun hc5 => ?_)
      · rw [if_pos hc5] at h
        refine x_iconst (v := 0) dX11_marksOf_32 (by decide) ?_
        refine x_iadd dX11_marksOf_33 ?_
        refine x_istore_n (i := 2) (lv2 := [(2, xI (x2 + (0 : Int32))), (0, xR x0), (1, xI x1), (3, xI x3)]) dX11_marksOf_34 rfl (by decide) rfl ?_
        refine x_iinc (j := 3) (i := 3) (v := x3 + (1 : Int32)) (lv2 := [(3, xI (x3 + (1 : Int32))), (2, xI (x2 + (0 : Int32))), (0, xR x0), (1, xI x1)]) dX11_marksOf_35 rfl rfl (by decide) rfl ?_
        refine x_goto (tgt := 4) dX11_marksOf_38 (by decide) ?_
        refine x_lv (lv2 := [(0, xR x0), (1, xI x1), (2, xI (x2 + (0 : Int32))), (3, xI (x3 + (1 : Int32)))]) [2, 3, 1, 0] rfl ?_
        exact ih x0 x1 (x2 + (0 : Int32)) (x3 + (1 : Int32)) w h
      · rw [if_neg hc5] at h
        refine x_iconst (v := 1) dX11_marksOf_28 (by decide) ?_
        refine x_goto (tgt := 33) dX11_marksOf_29 (by decide) ?_
        refine x_iadd dX11_marksOf_33 ?_
        refine x_istore_n (i := 2) (lv2 := [(2, xI (x2 + (1 : Int32))), (0, xR x0), (1, xI x1), (3, xI x3)]) dX11_marksOf_34 rfl (by decide) rfl ?_
        refine x_iinc (j := 3) (i := 3) (v := x3 + (1 : Int32)) (lv2 := [(3, xI (x3 + (1 : Int32))), (2, xI (x2 + (1 : Int32))), (0, xR x0), (1, xI x1)]) dX11_marksOf_35 rfl rfl (by decide) rfl ?_
        refine x_goto (tgt := 4) dX11_marksOf_38 (by decide) ?_
        refine x_lv (lv2 := [(0, xR x0), (1, xI x1), (2, xI (x2 + (1 : Int32))), (3, xI (x3 + (1 : Int32)))]) [2, 3, 1, 0] rfl ?_
        exact ih x0 x1 (x2 + (1 : Int32)) (x3 + (1 : Int32)) w h
set_option maxRecDepth 20000 in
theorem c_X11_marksOf (x0 : Nat) (x1 : Int32) (w : xSt) (rE : Int32) (wE : xSt) (h : f_X11_marksOf x0 x1 w = some (rE, wE)) : xCall yX11_marksOf cX11_marksOf 4 (some .int) 0 0 0 [xR x0, xI x1] w (some (xI rE), wE) := by
  refine xCall_of false (by decide) (fun q => nomatch q) (Nat.le_of_ble_eq_true rfl) ?_
  show xX cX11_marksOf 4 (some .int) RX11 false (xRm 0 0 0) (xZf (some (xI rE), wE) 0 0) 0 [(0, xR x0), (1, xI x1)] [] w 0 0
  unfold f_X11_marksOf at h
  refine x_iconst (v := 0) dX11_marksOf_0 (by decide) ?_
  refine x_istore_n (i := 2) (lv2 := [(2, xI (0 : Int32)), (0, xR x0), (1, xI x1)]) dX11_marksOf_1 rfl (by decide) rfl ?_
  refine x_iconst (v := 0) dX11_marksOf_2 (by decide) ?_
  refine x_istore_n (i := 3) (lv2 := [(3, xI (0 : Int32)), (2, xI (0 : Int32)), (0, xR x0), (1, xI x1)]) dX11_marksOf_3 rfl (by decide) rfl ?_
  refine x_lv (lv2 := [(0, xR x0), (1, xI x1), (2, xI (0 : Int32)), (3, xI (0 : Int32))]) [2, 3, 1, 0] rfl ?_
  exact k_X11_marksOf_l4 rE wE xFu x0 x1 (0 : Int32) (0 : Int32) w h

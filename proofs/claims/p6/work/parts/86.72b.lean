section
variable {Tc : gC} {Tm : gM}
set_option maxHeartbeats 4000000 in
set_option maxRecDepth 100000 in
theorem z_X1_work (l : Launch) (D : va_G) (A : Nat → Nat → Nat) (cy : Nat → ClassId) (hJ : ti_inj ti_LT A) (M : ti_M) (hI : cI Tc M) (sg : Int32) (a b2 : Int64) (ha1 : -1000000000000 ≤ a.toInt) (ha2 : a.toInt ≤ 1000000000000) (hb1 : -1000000000000 ≤ b2.toInt) (hb2 : b2.toInt ≤ 1000000000000) : ti_Kl l yX1_work cX1_work 7 (some .long) 0 ti_LT D A cy M [.int sg, .long a, .long b2] (fun r M2 => M2 = M ∧ r.toInt = bl_w sg.toInt a.toInt b2.toInt) := by
  refine ti_eL yp_X1_work hJ ti_LT_nd (Nat.le_of_ble_eq_true rfl) ?_
  intro p e s m args below meth c Q H0 C hQ hw ls hl
  have hx := C.1
  have hb := C.2.1
  have hl : lv_has ls 7 [(0, .int sg), (1, .long a), (3, .long b2)] := hl
  refine lv_iload_n hx hb dX1_work_0 rfl (lv_at hl 0 rfl) ?_
  by_cases s_1_22 : sg = 22
  · have qs_1_22 : sg.toInt = 22 := by rw [s_1_22]; decide
    refine lv_tableIn (tgt := 247) (off := 246) hx hb dX1_work_1 (by rw [s_1_22]; decide) (by rw [s_1_22]; decide) (by rw [s_1_22]; decide) (by decide) ?_
    refine lv_lload_n hx hb dX1_work_247 rfl (lv_at hl 1 rfl) ?_
    refine lv_lconst (v := 0) hx hb dX1_work_248 (by decide) ?_
    have z_68 : (0 : Int64).toInt = 0 := by decide
    refine W.lcmp hx hb dX1_work_249 ?_
    refine lv_topi (fun x_69 ex_69 => ?_)
    have cx_69 := lg_c ex_69
    refine sb_if_eq (tgt := 263) hx hb rfl dX1_work_250 (by decide) (fun c_250_69 => ?_) (fun c_250_69 => ?_)
    · refine lv_lconst (v := 0) hx hb dX1_work_263 (by decide) ?_
      have z_75 : (0 : Int64).toInt = 0 := by decide
      exact hQ _ _ _ _ _ _ hw (⟨rfl, (by have lv : (0 : Int64).toInt = 0 := (by decide); unfold bl_w; (repeat (first | rw [if_pos (by omega)] | rw [if_neg (by omega)])); (try unfold bl_if); (repeat (first | rw [if_pos (by omega)] | rw [if_neg (by omega)])); first | omega | assumption)⟩) dX1_work_264
    · refine lv_lload_n hx hb dX1_work_253 rfl (lv_at hl 2 rfl) ?_
      refine lv_lconst (v := 0) hx hb dX1_work_254 (by decide) ?_
      have z_71 : (0 : Int64).toInt = 0 := by decide
      refine W.lcmp hx hb dX1_work_255 ?_
      refine lv_topi (fun x_72 ex_72 => ?_)
      have cx_72 := lg_c ex_72
      refine sb_if_eq (tgt := 263) hx hb rfl dX1_work_256 (by decide) (fun c_256_72 => ?_) (fun c_256_72 => ?_)
      · refine lv_lconst (v := 0) hx hb dX1_work_263 (by decide) ?_
        have z_76 : (0 : Int64).toInt = 0 := by decide
        exact hQ _ _ _ _ _ _ hw (⟨rfl, (by have lv : (0 : Int64).toInt = 0 := (by decide); unfold bl_w; (repeat (first | rw [if_pos (by omega)] | rw [if_neg (by omega)])); (try unfold bl_if); (repeat (first | rw [if_pos (by omega)] | rw [if_neg (by omega)])); first | omega | assumption)⟩) dX1_work_264
      · refine lv_lconst (v := 1) hx hb dX1_work_259 (by decide) ?_
        have z_74 : (1 : Int64).toInt = 1 := by decide
        refine lv_goto (tgt := 264) hx hb dX1_work_260 (by decide) ?_
        exact hQ _ _ _ _ _ _ hw (⟨rfl, (by have lv : (1 : Int64).toInt = 1 := (by decide); unfold bl_w; (repeat (first | rw [if_pos (by omega)] | rw [if_neg (by omega)])); (try unfold bl_if); (repeat (first | rw [if_pos (by omega)] | rw [if_neg (by omega)])); first | omega | assumption)⟩) dX1_work_264
  · have qs_1_22 : sg.toInt ≠ 22 := pt_ne s_1_22 (by decide)
    by_cases s_1_23 : sg = 23
    · have qs_1_23 : sg.toInt = 23 := by rw [s_1_23]; decide
      refine lv_tableIn (tgt := 265) (off := 264) hx hb dX1_work_1 (by rw [s_1_23]; decide) (by rw [s_1_23]; decide) (by rw [s_1_23]; decide) (by decide) ?_
      refine lv_lload_n hx hb dX1_work_265 rfl (lv_at hl 1 rfl) ?_
      refine lv_lconst (v := 0) hx hb dX1_work_266 (by decide) ?_
      have z_77 : (0 : Int64).toInt = 0 := by decide
      refine W.lcmp hx hb dX1_work_267 ?_
      refine lv_topi (fun x_78 ex_78 => ?_)
      have cx_78 := lg_c ex_78
      refine sb_if_ne (tgt := 277) hx hb rfl dX1_work_268 (by decide) (fun c_268_78 => ?_) (fun c_268_78 => ?_)
      · refine lv_lconst (v := 1) hx hb dX1_work_277 (by decide) ?_
        have z_83 : (1 : Int64).toInt = 1 := by decide
        refine lv_goto (tgt := 282) hx hb dX1_work_278 (by decide) ?_
        exact hQ _ _ _ _ _ _ hw (⟨rfl, (by have lv : (1 : Int64).toInt = 1 := (by decide); unfold bl_w; (repeat (first | rw [if_pos (by omega)] | rw [if_neg (by omega)])); (try unfold bl_if); (repeat (first | rw [if_pos (by omega)] | rw [if_neg (by omega)])); first | omega | assumption)⟩) dX1_work_282
      · refine lv_lload_n hx hb dX1_work_271 rfl (lv_at hl 2 rfl) ?_
        refine lv_lconst (v := 0) hx hb dX1_work_272 (by decide) ?_
        have z_80 : (0 : Int64).toInt = 0 := by decide
        refine W.lcmp hx hb dX1_work_273 ?_
        refine lv_topi (fun x_81 ex_81 => ?_)
        have cx_81 := lg_c ex_81
        refine sb_if_eq (tgt := 281) hx hb rfl dX1_work_274 (by decide) (fun c_274_81 => ?_) (fun c_274_81 => ?_)
        · refine lv_lconst (v := 0) hx hb dX1_work_281 (by decide) ?_
          have z_85 : (0 : Int64).toInt = 0 := by decide
          exact hQ _ _ _ _ _ _ hw (⟨rfl, (by have lv : (0 : Int64).toInt = 0 := (by decide); unfold bl_w; (repeat (first | rw [if_pos (by omega)] | rw [if_neg (by omega)])); (try unfold bl_if); (repeat (first | rw [if_pos (by omega)] | rw [if_neg (by omega)])); first | omega | assumption)⟩) dX1_work_282
        · refine lv_lconst (v := 1) hx hb dX1_work_277 (by decide) ?_
          have z_84 : (1 : Int64).toInt = 1 := by decide
          refine lv_goto (tgt := 282) hx hb dX1_work_278 (by decide) ?_
          exact hQ _ _ _ _ _ _ hw (⟨rfl, (by have lv : (1 : Int64).toInt = 1 := (by decide); unfold bl_w; (repeat (first | rw [if_pos (by omega)] | rw [if_neg (by omega)])); (try unfold bl_if); (repeat (first | rw [if_pos (by omega)] | rw [if_neg (by omega)])); first | omega | assumption)⟩) dX1_work_282
    · have qs_1_23 : sg.toInt ≠ 23 := pt_ne s_1_23 (by decide)
      by_cases s_1_24 : sg = 24
      · have qs_1_24 : sg.toInt = 24 := by rw [s_1_24]; decide
        refine lv_tableIn (tgt := 283) (off := 282) hx hb dX1_work_1 (by rw [s_1_24]; decide) (by rw [s_1_24]; decide) (by rw [s_1_24]; decide) (by decide) ?_
        refine lv_ldc2 (v := (-9223372036854775808)) hx hb C.2.2.2.1 (C.2.2.1 _ cn_X1_34) dX1_work_283 ?_
        have z_86 : ((-9223372036854775808) : Int64).toInt = -9223372036854775808 := by decide
        exact hQ _ _ _ _ _ _ hw (⟨rfl, (by have lv : ((-9223372036854775808) : Int64).toInt = -9223372036854775808 := (by decide); unfold bl_w; (repeat (first | rw [if_pos (by omega)] | rw [if_neg (by omega)])); (try unfold bl_if); (repeat (first | rw [if_pos (by omega)] | rw [if_neg (by omega)])); first | omega | assumption)⟩) dX1_work_286
      · have qs_1_24 : sg.toInt ≠ 24 := pt_ne s_1_24 (by decide)
        by_cases s_1_25 : sg = 25
        · have qs_1_25 : sg.toInt = 25 := by rw [s_1_25]; decide
          refine lv_tableIn (tgt := 283) (off := 282) hx hb dX1_work_1 (by rw [s_1_25]; decide) (by rw [s_1_25]; decide) (by rw [s_1_25]; decide) (by decide) ?_
          refine lv_ldc2 (v := (-9223372036854775808)) hx hb C.2.2.2.1 (C.2.2.1 _ cn_X1_34) dX1_work_283 ?_
          have z_87 : ((-9223372036854775808) : Int64).toInt = -9223372036854775808 := by decide
          exact hQ _ _ _ _ _ _ hw (⟨rfl, (by have lv : ((-9223372036854775808) : Int64).toInt = -9223372036854775808 := (by decide); unfold bl_w; (repeat (first | rw [if_pos (by omega)] | rw [if_neg (by omega)])); (try unfold bl_if); (repeat (first | rw [if_pos (by omega)] | rw [if_neg (by omega)])); first | omega | assumption)⟩) dX1_work_286
        · have qs_1_25 : sg.toInt ≠ 25 := pt_ne s_1_25 (by decide)
          by_cases s_1_26 : sg = 26
          · have qs_1_26 : sg.toInt = 26 := by rw [s_1_26]; decide
            refine lv_tableIn (tgt := 283) (off := 282) hx hb dX1_work_1 (by rw [s_1_26]; decide) (by rw [s_1_26]; decide) (by rw [s_1_26]; decide) (by decide) ?_
            refine lv_ldc2 (v := (-9223372036854775808)) hx hb C.2.2.2.1 (C.2.2.1 _ cn_X1_34) dX1_work_283 ?_
            have z_88 : ((-9223372036854775808) : Int64).toInt = -9223372036854775808 := by decide
            exact hQ _ _ _ _ _ _ hw (⟨rfl, (by have lv : ((-9223372036854775808) : Int64).toInt = -9223372036854775808 := (by decide); unfold bl_w; (repeat (first | rw [if_pos (by omega)] | rw [if_neg (by omega)])); (try unfold bl_if); (repeat (first | rw [if_pos (by omega)] | rw [if_neg (by omega)])); first | omega | assumption)⟩) dX1_work_286
          · have qs_1_26 : sg.toInt ≠ 26 := pt_ne s_1_26 (by decide)
            by_cases s_1_27 : sg = 27
            · have qs_1_27 : sg.toInt = 27 := by rw [s_1_27]; decide
              refine lv_tableIn (tgt := 283) (off := 282) hx hb dX1_work_1 (by rw [s_1_27]; decide) (by rw [s_1_27]; decide) (by rw [s_1_27]; decide) (by decide) ?_
              refine lv_ldc2 (v := (-9223372036854775808)) hx hb C.2.2.2.1 (C.2.2.1 _ cn_X1_34) dX1_work_283 ?_
              have z_89 : ((-9223372036854775808) : Int64).toInt = -9223372036854775808 := by decide
              exact hQ _ _ _ _ _ _ hw (⟨rfl, (by have lv : ((-9223372036854775808) : Int64).toInt = -9223372036854775808 := (by decide); unfold bl_w; (repeat (first | rw [if_pos (by omega)] | rw [if_neg (by omega)])); (try unfold bl_if); (repeat (first | rw [if_pos (by omega)] | rw [if_neg (by omega)])); first | omega | assumption)⟩) dX1_work_286
            · have qs_1_27 : sg.toInt ≠ 27 := pt_ne s_1_27 (by decide)
              by_cases s_1_28 : sg = 28
              · have qs_1_28 : sg.toInt = 28 := by rw [s_1_28]; decide
                refine lv_tableIn (tgt := 283) (off := 282) hx hb dX1_work_1 (by rw [s_1_28]; decide) (by rw [s_1_28]; decide) (by rw [s_1_28]; decide) (by decide) ?_
                refine lv_ldc2 (v := (-9223372036854775808)) hx hb C.2.2.2.1 (C.2.2.1 _ cn_X1_34) dX1_work_283 ?_
                have z_90 : ((-9223372036854775808) : Int64).toInt = -9223372036854775808 := by decide
                exact hQ _ _ _ _ _ _ hw (⟨rfl, (by have lv : ((-9223372036854775808) : Int64).toInt = -9223372036854775808 := (by decide); unfold bl_w; (repeat (first | rw [if_pos (by omega)] | rw [if_neg (by omega)])); (try unfold bl_if); (repeat (first | rw [if_pos (by omega)] | rw [if_neg (by omega)])); first | omega | assumption)⟩) dX1_work_286
              · have qs_1_28 : sg.toInt ≠ 28 := pt_ne s_1_28 (by decide)
                by_cases s_1_29 : sg = 29
                · have qs_1_29 : sg.toInt = 29 := by rw [s_1_29]; decide
                  refine lv_tableIn (tgt := 283) (off := 282) hx hb dX1_work_1 (by rw [s_1_29]; decide) (by rw [s_1_29]; decide) (by rw [s_1_29]; decide) (by decide) ?_
                  refine lv_ldc2 (v := (-9223372036854775808)) hx hb C.2.2.2.1 (C.2.2.1 _ cn_X1_34) dX1_work_283 ?_
                  have z_91 : ((-9223372036854775808) : Int64).toInt = -9223372036854775808 := by decide
                  exact hQ _ _ _ _ _ _ hw (⟨rfl, (by have lv : ((-9223372036854775808) : Int64).toInt = -9223372036854775808 := (by decide); unfold bl_w; (repeat (first | rw [if_pos (by omega)] | rw [if_neg (by omega)])); (try unfold bl_if); (repeat (first | rw [if_pos (by omega)] | rw [if_neg (by omega)])); first | omega | assumption)⟩) dX1_work_286
                · have qs_1_29 : sg.toInt ≠ 29 := pt_ne s_1_29 (by decide)
                  by_cases s_1_30 : sg = 30
                  · have qs_1_30 : sg.toInt = 30 := by rw [s_1_30]; decide
                    refine lv_tableIn (tgt := 283) (off := 282) hx hb dX1_work_1 (by rw [s_1_30]; decide) (by rw [s_1_30]; decide) (by rw [s_1_30]; decide) (by decide) ?_
                    refine lv_ldc2 (v := (-9223372036854775808)) hx hb C.2.2.2.1 (C.2.2.1 _ cn_X1_34) dX1_work_283 ?_
                    have z_92 : ((-9223372036854775808) : Int64).toInt = -9223372036854775808 := by decide
                    exact hQ _ _ _ _ _ _ hw (⟨rfl, (by have lv : ((-9223372036854775808) : Int64).toInt = -9223372036854775808 := (by decide); unfold bl_w; (repeat (first | rw [if_pos (by omega)] | rw [if_neg (by omega)])); (try unfold bl_if); (repeat (first | rw [if_pos (by omega)] | rw [if_neg (by omega)])); first | omega | assumption)⟩) dX1_work_286
                  · have qs_1_30 : sg.toInt ≠ 30 := pt_ne s_1_30 (by decide)
                    by_cases s_1_31 : sg = 31
                    · have qs_1_31 : sg.toInt = 31 := by rw [s_1_31]; decide
                      refine lv_tableIn (tgt := 283) (off := 282) hx hb dX1_work_1 (by rw [s_1_31]; decide) (by rw [s_1_31]; decide) (by rw [s_1_31]; decide) (by decide) ?_
                      refine lv_ldc2 (v := (-9223372036854775808)) hx hb C.2.2.2.1 (C.2.2.1 _ cn_X1_34) dX1_work_283 ?_
                      have z_93 : ((-9223372036854775808) : Int64).toInt = -9223372036854775808 := by decide
                      exact hQ _ _ _ _ _ _ hw (⟨rfl, (by have lv : ((-9223372036854775808) : Int64).toInt = -9223372036854775808 := (by decide); unfold bl_w; (repeat (first | rw [if_pos (by omega)] | rw [if_neg (by omega)])); (try unfold bl_if); (repeat (first | rw [if_pos (by omega)] | rw [if_neg (by omega)])); first | omega | assumption)⟩) dX1_work_286
                    · have qs_1_31 : sg.toInt ≠ 31 := pt_ne s_1_31 (by decide)
                      by_cases s_1_32 : sg = 32
                      · have qs_1_32 : sg.toInt = 32 := by rw [s_1_32]; decide
                        refine lv_tableIn (tgt := 175) (off := 174) hx hb dX1_work_1 (by rw [s_1_32]; decide) (by rw [s_1_32]; decide) (by rw [s_1_32]; decide) (by decide) ?_
                        refine lv_lload_n hx hb dX1_work_175 rfl (lv_at hl 1 rfl) ?_
                        refine lv_lload_n hx hb dX1_work_176 rfl (lv_at hl 2 rfl) ?_
                        refine W.lcmp hx hb dX1_work_177 ?_
                        refine lv_topi (fun x_44 ex_44 => ?_)
                        have cx_44 := lg_c ex_44
                        refine sb_if_ge (tgt := 185) hx hb rfl dX1_work_178 (by decide) (fun c_178_44 => ?_) (fun c_178_44 => ?_)
                        · refine lv_lconst (v := 0) hx hb dX1_work_185 (by decide) ?_
                          have z_47 : (0 : Int64).toInt = 0 := by decide
                          exact hQ _ _ _ _ _ _ hw (⟨rfl, (by have lv : (0 : Int64).toInt = 0 := (by decide); unfold bl_w; (repeat (first | rw [if_pos (by omega)] | rw [if_neg (by omega)])); (try unfold bl_if); (repeat (first | rw [if_pos (by omega)] | rw [if_neg (by omega)])); first | omega | assumption)⟩) dX1_work_186
                        · refine lv_lconst (v := 1) hx hb dX1_work_181 (by decide) ?_
                          have z_46 : (1 : Int64).toInt = 1 := by decide
                          refine lv_goto (tgt := 186) hx hb dX1_work_182 (by decide) ?_
                          exact hQ _ _ _ _ _ _ hw (⟨rfl, (by have lv : (1 : Int64).toInt = 1 := (by decide); unfold bl_w; (repeat (first | rw [if_pos (by omega)] | rw [if_neg (by omega)])); (try unfold bl_if); (repeat (first | rw [if_pos (by omega)] | rw [if_neg (by omega)])); first | omega | assumption)⟩) dX1_work_186
                      · have qs_1_32 : sg.toInt ≠ 32 := pt_ne s_1_32 (by decide)
                        by_cases s_1_33 : sg = 33
                        · have qs_1_33 : sg.toInt = 33 := by rw [s_1_33]; decide
                          refine lv_tableIn (tgt := 187) (off := 186) hx hb dX1_work_1 (by rw [s_1_33]; decide) (by rw [s_1_33]; decide) (by rw [s_1_33]; decide) (by decide) ?_
                          refine lv_lload_n hx hb dX1_work_187 rfl (lv_at hl 1 rfl) ?_
                          refine lv_lload_n hx hb dX1_work_188 rfl (lv_at hl 2 rfl) ?_
                          refine W.lcmp hx hb dX1_work_189 ?_
                          refine lv_topi (fun x_48 ex_48 => ?_)
                          have cx_48 := lg_c ex_48
                          refine sb_if_gt (tgt := 197) hx hb rfl dX1_work_190 (by decide) (fun c_190_48 => ?_) (fun c_190_48 => ?_)
                          · refine lv_lconst (v := 0) hx hb dX1_work_197 (by decide) ?_
                            have z_51 : (0 : Int64).toInt = 0 := by decide
                            exact hQ _ _ _ _ _ _ hw (⟨rfl, (by have lv : (0 : Int64).toInt = 0 := (by decide); unfold bl_w; (repeat (first | rw [if_pos (by omega)] | rw [if_neg (by omega)])); (try unfold bl_if); (repeat (first | rw [if_pos (by omega)] | rw [if_neg (by omega)])); first | omega | assumption)⟩) dX1_work_198
                          · refine lv_lconst (v := 1) hx hb dX1_work_193 (by decide) ?_
                            have z_50 : (1 : Int64).toInt = 1 := by decide
                            refine lv_goto (tgt := 198) hx hb dX1_work_194 (by decide) ?_
                            exact hQ _ _ _ _ _ _ hw (⟨rfl, (by have lv : (1 : Int64).toInt = 1 := (by decide); unfold bl_w; (repeat (first | rw [if_pos (by omega)] | rw [if_neg (by omega)])); (try unfold bl_if); (repeat (first | rw [if_pos (by omega)] | rw [if_neg (by omega)])); first | omega | assumption)⟩) dX1_work_198
                        · have qs_1_33 : sg.toInt ≠ 33 := pt_ne s_1_33 (by decide)
                          by_cases s_1_34 : sg = 34
                          · have qs_1_34 : sg.toInt = 34 := by rw [s_1_34]; decide
                            refine lv_tableIn (tgt := 199) (off := 198) hx hb dX1_work_1 (by rw [s_1_34]; decide) (by rw [s_1_34]; decide) (by rw [s_1_34]; decide) (by decide) ?_
                            refine lv_lload_n hx hb dX1_work_199 rfl (lv_at hl 1 rfl) ?_
                            refine lv_lload_n hx hb dX1_work_200 rfl (lv_at hl 2 rfl) ?_
                            refine W.lcmp hx hb dX1_work_201 ?_
                            refine lv_topi (fun x_52 ex_52 => ?_)
                            have cx_52 := lg_c ex_52
                            refine sb_if_ne (tgt := 209) hx hb rfl dX1_work_202 (by decide) (fun c_202_52 => ?_) (fun c_202_52 => ?_)
                            · refine lv_lconst (v := 0) hx hb dX1_work_209 (by decide) ?_
                              have z_55 : (0 : Int64).toInt = 0 := by decide
                              exact hQ _ _ _ _ _ _ hw (⟨rfl, (by have lv : (0 : Int64).toInt = 0 := (by decide); unfold bl_w; (repeat (first | rw [if_pos (by omega)] | rw [if_neg (by omega)])); (try unfold bl_if); (repeat (first | rw [if_pos (by omega)] | rw [if_neg (by omega)])); first | omega | assumption)⟩) dX1_work_210
                            · refine lv_lconst (v := 1) hx hb dX1_work_205 (by decide) ?_
                              have z_54 : (1 : Int64).toInt = 1 := by decide
                              refine lv_goto (tgt := 210) hx hb dX1_work_206 (by decide) ?_
                              exact hQ _ _ _ _ _ _ hw (⟨rfl, (by have lv : (1 : Int64).toInt = 1 := (by decide); unfold bl_w; (repeat (first | rw [if_pos (by omega)] | rw [if_neg (by omega)])); (try unfold bl_if); (repeat (first | rw [if_pos (by omega)] | rw [if_neg (by omega)])); first | omega | assumption)⟩) dX1_work_210
                          · have qs_1_34 : sg.toInt ≠ 34 := pt_ne s_1_34 (by decide)
                            by_cases s_1_35 : sg = 35
                            · have qs_1_35 : sg.toInt = 35 := by rw [s_1_35]; decide
                              refine lv_tableIn (tgt := 211) (off := 210) hx hb dX1_work_1 (by rw [s_1_35]; decide) (by rw [s_1_35]; decide) (by rw [s_1_35]; decide) (by decide) ?_
                              refine lv_lload_n hx hb dX1_work_211 rfl (lv_at hl 1 rfl) ?_
                              refine lv_lload_n hx hb dX1_work_212 rfl (lv_at hl 2 rfl) ?_
                              refine W.lcmp hx hb dX1_work_213 ?_
                              refine lv_topi (fun x_56 ex_56 => ?_)
                              have cx_56 := lg_c ex_56
                              refine sb_if_eq (tgt := 221) hx hb rfl dX1_work_214 (by decide) (fun c_214_56 => ?_) (fun c_214_56 => ?_)
                              · refine lv_lconst (v := 0) hx hb dX1_work_221 (by decide) ?_
                                have z_59 : (0 : Int64).toInt = 0 := by decide
                                exact hQ _ _ _ _ _ _ hw (⟨rfl, (by have lv : (0 : Int64).toInt = 0 := (by decide); unfold bl_w; (repeat (first | rw [if_pos (by omega)] | rw [if_neg (by omega)])); (try unfold bl_if); (repeat (first | rw [if_pos (by omega)] | rw [if_neg (by omega)])); first | omega | assumption)⟩) dX1_work_222
                              · refine lv_lconst (v := 1) hx hb dX1_work_217 (by decide) ?_
                                have z_58 : (1 : Int64).toInt = 1 := by decide
                                refine lv_goto (tgt := 222) hx hb dX1_work_218 (by decide) ?_
                                exact hQ _ _ _ _ _ _ hw (⟨rfl, (by have lv : (1 : Int64).toInt = 1 := (by decide); unfold bl_w; (repeat (first | rw [if_pos (by omega)] | rw [if_neg (by omega)])); (try unfold bl_if); (repeat (first | rw [if_pos (by omega)] | rw [if_neg (by omega)])); first | omega | assumption)⟩) dX1_work_222
                            · have qs_1_35 : sg.toInt ≠ 35 := pt_ne s_1_35 (by decide)
                              by_cases s_1_36 : sg = 36
                              · have qs_1_36 : sg.toInt = 36 := by rw [s_1_36]; decide
                                refine lv_tableIn (tgt := 223) (off := 222) hx hb dX1_work_1 (by rw [s_1_36]; decide) (by rw [s_1_36]; decide) (by rw [s_1_36]; decide) (by decide) ?_
                                refine lv_lload_n hx hb dX1_work_223 rfl (lv_at hl 1 rfl) ?_
                                refine lv_lload_n hx hb dX1_work_224 rfl (lv_at hl 2 rfl) ?_
                                refine W.lcmp hx hb dX1_work_225 ?_
                                refine lv_topi (fun x_60 ex_60 => ?_)
                                have cx_60 := lg_c ex_60
                                refine sb_if_lt (tgt := 233) hx hb rfl dX1_work_226 (by decide) (fun c_226_60 => ?_) (fun c_226_60 => ?_)
                                · refine lv_lconst (v := 0) hx hb dX1_work_233 (by decide) ?_
                                  have z_63 : (0 : Int64).toInt = 0 := by decide
                                  exact hQ _ _ _ _ _ _ hw (⟨rfl, (by have lv : (0 : Int64).toInt = 0 := (by decide); unfold bl_w; (repeat (first | rw [if_pos (by omega)] | rw [if_neg (by omega)])); (try unfold bl_if); (repeat (first | rw [if_pos (by omega)] | rw [if_neg (by omega)])); first | omega | assumption)⟩) dX1_work_234
                                · refine lv_lconst (v := 1) hx hb dX1_work_229 (by decide) ?_
                                  have z_62 : (1 : Int64).toInt = 1 := by decide
                                  refine lv_goto (tgt := 234) hx hb dX1_work_230 (by decide) ?_
                                  exact hQ _ _ _ _ _ _ hw (⟨rfl, (by have lv : (1 : Int64).toInt = 1 := (by decide); unfold bl_w; (repeat (first | rw [if_pos (by omega)] | rw [if_neg (by omega)])); (try unfold bl_if); (repeat (first | rw [if_pos (by omega)] | rw [if_neg (by omega)])); first | omega | assumption)⟩) dX1_work_234
                              · have qs_1_36 : sg.toInt ≠ 36 := pt_ne s_1_36 (by decide)
                                by_cases s_1_37 : sg = 37
                                · have qs_1_37 : sg.toInt = 37 := by rw [s_1_37]; decide
                                  refine lv_tableIn (tgt := 235) (off := 234) hx hb dX1_work_1 (by rw [s_1_37]; decide) (by rw [s_1_37]; decide) (by rw [s_1_37]; decide) (by decide) ?_
                                  refine lv_lload_n hx hb dX1_work_235 rfl (lv_at hl 1 rfl) ?_
                                  refine lv_lload_n hx hb dX1_work_236 rfl (lv_at hl 2 rfl) ?_
                                  refine W.lcmp hx hb dX1_work_237 ?_
                                  refine lv_topi (fun x_64 ex_64 => ?_)
                                  have cx_64 := lg_c ex_64
                                  refine sb_if_le (tgt := 245) hx hb rfl dX1_work_238 (by decide) (fun c_238_64 => ?_) (fun c_238_64 => ?_)
                                  · refine lv_lconst (v := 0) hx hb dX1_work_245 (by decide) ?_
                                    have z_67 : (0 : Int64).toInt = 0 := by decide
                                    exact hQ _ _ _ _ _ _ hw (⟨rfl, (by have lv : (0 : Int64).toInt = 0 := (by decide); unfold bl_w; (repeat (first | rw [if_pos (by omega)] | rw [if_neg (by omega)])); (try unfold bl_if); (repeat (first | rw [if_pos (by omega)] | rw [if_neg (by omega)])); first | omega | assumption)⟩) dX1_work_246
                                  · refine lv_lconst (v := 1) hx hb dX1_work_241 (by decide) ?_
                                    have z_66 : (1 : Int64).toInt = 1 := by decide
                                    refine lv_goto (tgt := 246) hx hb dX1_work_242 (by decide) ?_
                                    exact hQ _ _ _ _ _ _ hw (⟨rfl, (by have lv : (1 : Int64).toInt = 1 := (by decide); unfold bl_w; (repeat (first | rw [if_pos (by omega)] | rw [if_neg (by omega)])); (try unfold bl_if); (repeat (first | rw [if_pos (by omega)] | rw [if_neg (by omega)])); first | omega | assumption)⟩) dX1_work_246
                                · have qs_1_37 : sg.toInt ≠ 37 := pt_ne s_1_37 (by decide)
                                  by_cases s_1_38 : sg = 38
                                  · have qs_1_38 : sg.toInt = 38 := by rw [s_1_38]; decide
                                    refine lv_tableIn (tgt := 96) (off := 95) hx hb dX1_work_1 (by rw [s_1_38]; decide) (by rw [s_1_38]; decide) (by rw [s_1_38]; decide) (by decide) ?_
                                    refine lv_lload_n hx hb dX1_work_96 rfl (lv_at hl 1 rfl) ?_
                                    refine lv_lload_n hx hb dX1_work_97 rfl (lv_at hl 2 rfl) ?_
                                    refine lv_ladd hx hb dX1_work_98 ?_
                                    refine lv_topl (fun x_2 ex_2 => ?_)
                                    have tx_2 : x_2.toInt = a.toInt + b2.toInt := l_add ex_2 rfl rfl (by omega) (by omega)
                                    exact hQ _ _ _ _ _ _ hw (⟨rfl, (by unfold bl_w; (repeat (first | rw [if_pos (by omega)] | rw [if_neg (by omega)])); (try unfold bl_if); (repeat (first | rw [if_pos (by omega)] | rw [if_neg (by omega)])); first | omega | assumption)⟩) dX1_work_99
                                  · have qs_1_38 : sg.toInt ≠ 38 := pt_ne s_1_38 (by decide)
                                    by_cases s_1_39 : sg = 39
                                    · have qs_1_39 : sg.toInt = 39 := by rw [s_1_39]; decide
                                      refine lv_tableIn (tgt := 100) (off := 99) hx hb dX1_work_1 (by rw [s_1_39]; decide) (by rw [s_1_39]; decide) (by rw [s_1_39]; decide) (by decide) ?_
                                      refine lv_lload_n hx hb dX1_work_100 rfl (lv_at hl 1 rfl) ?_
                                      refine lv_lload_n hx hb dX1_work_101 rfl (lv_at hl 2 rfl) ?_
                                      refine lv_lsub hx hb dX1_work_102 ?_
                                      refine lv_topl (fun x_3 ex_3 => ?_)
                                      have tx_3 : x_3.toInt = a.toInt - b2.toInt := l_sub ex_3 rfl rfl (by omega) (by omega)
                                      exact hQ _ _ _ _ _ _ hw (⟨rfl, (by unfold bl_w; (repeat (first | rw [if_pos (by omega)] | rw [if_neg (by omega)])); (try unfold bl_if); (repeat (first | rw [if_pos (by omega)] | rw [if_neg (by omega)])); first | omega | assumption)⟩) dX1_work_103
                                    · have qs_1_39 : sg.toInt ≠ 39 := pt_ne s_1_39 (by decide)
                                      by_cases s_1_40 : sg = 40
                                      · have qs_1_40 : sg.toInt = 40 := by rw [s_1_40]; decide
                                        refine lv_tableIn (tgt := 104) (off := 103) hx hb dX1_work_1 (by rw [s_1_40]; decide) (by rw [s_1_40]; decide) (by rw [s_1_40]; decide) (by decide) ?_
                                        refine lv_lload_n hx hb dX1_work_104 rfl (lv_at hl 1 rfl) ?_
                                        refine lv_lconst (v := 0) hx hb dX1_work_105 (by decide) ?_
                                        have z_4 : (0 : Int64).toInt = 0 := by decide
                                        refine W.lcmp hx hb dX1_work_106 ?_
                                        refine lv_topi (fun x_5 ex_5 => ?_)
                                        have cx_5 := lg_c ex_5
                                        refine sb_if_ne (tgt := 116) hx hb rfl dX1_work_107 (by decide) (fun c_107_5 => ?_) (fun c_107_5 => ?_)
                                        · refine lv_ldc2 (v := 1000000000000) hx hb C.2.2.2.1 (C.2.2.1 _ cn_X1_67) dX1_work_116 ?_
                                          have z_8 : (1000000000000 : Int64).toInt = 1000000000000 := by decide
                                          refine lv_lload_n hx hb dX1_work_119 rfl (lv_at hl 1 rfl) ?_
                                          refine lv_lconst (v := 0) hx hb dX1_work_120 (by decide) ?_
                                          have z_9 : (0 : Int64).toInt = 0 := by decide
                                          refine W.lcmp hx hb dX1_work_121 ?_
                                          refine lv_topi (fun x_10 ex_10 => ?_)
                                          have cx_10 := lg_c ex_10
                                          refine sb_if_ge (tgt := 130) hx hb rfl dX1_work_122 (by decide) (fun c_122_10 => ?_) (fun c_122_10 => ?_)
                                          · refine lv_lload_n hx hb dX1_work_130 rfl (lv_at hl 1 rfl) ?_
                                            refine lv_ldiv hx hb dX1_work_131 (fun q => by have h0 := congrArg Int64.toInt q; have := (by decide : (0 : Int64).toInt = 0); omega) ?_
                                            refine lv_topl (fun x_14 ex_14 => ?_)
                                            have tx_14 : x_14.toInt = Int.tdiv ((1000000000000 : Int64).toInt) a.toInt := l_div ex_14 rfl rfl (by omega) (by omega)
                                            refine lv_lstore (lv' := [(5, .long x_14), (0, .int sg), (1, .long a), (3, .long b2)]) hx hb dX1_work_132 hl (by decide) rfl (fun ls hl => ?_)
                                            have md : x_14.toInt = Int.tdiv 1000000000000 a.toInt := by rw [tx_14, show (1000000000000 : Int64).toInt = 1000000000000 by decide]
                                            have mb := bl_dv (by omega) md
                                            have mq := bl_mq (b := b2.toInt) (n := a.toInt) (a := a.toInt) (by omega) md
                                            refine lv_lload_n hx hb dX1_work_134 rfl (lv_at hl 3 rfl) ?_
                                            refine lv_lload hx hb dX1_work_135 (lv_at hl 0 rfl) ?_
                                            refine W.lcmp hx hb dX1_work_137 ?_
                                            refine lv_topi (fun x_19 ex_19 => ?_)
                                            have cx_19 := lg_c ex_19
                                            refine sb_if_gt (tgt := 149) hx hb rfl dX1_work_138 (by decide) (fun c_138_19 => ?_) (fun c_138_19 => ?_)
                                            · refine lv_ldc2 (v := (-9223372036854775808)) hx hb C.2.2.2.1 (C.2.2.1 _ cn_X1_34) dX1_work_149 ?_
                                              have z_32 : ((-9223372036854775808) : Int64).toInt = -9223372036854775808 := by decide
                                              refine lv_goto (tgt := 158) hx hb dX1_work_152 (by decide) ?_
                                              exact hQ _ _ _ _ _ _ hw (⟨rfl, (by have lv : ((-9223372036854775808) : Int64).toInt = -9223372036854775808 := (by decide); unfold bl_w; (repeat (first | rw [if_pos (by omega)] | rw [if_neg (by omega)])); (try unfold bl_if); (repeat (first | rw [if_pos (by omega)] | rw [if_neg (by omega)])); first | omega | assumption)⟩) dX1_work_158
                                            · refine lv_lload_n hx hb dX1_work_141 rfl (lv_at hl 3 rfl) ?_
                                              refine lv_lload hx hb dX1_work_142 (lv_at hl 0 rfl) ?_
                                              refine lv_lneg hx hb dX1_work_144 ?_
                                              refine lv_topl (fun x_27 ex_27 => ?_)
                                              have tx_27 : x_27.toInt = -x_14.toInt := l_neg ex_27 rfl (by omega) (by omega)
                                              refine W.lcmp hx hb dX1_work_145 ?_
                                              refine lv_topi (fun x_28 ex_28 => ?_)
                                              have cx_28 := lg_c ex_28
                                              refine sb_if_ge (tgt := 155) hx hb rfl dX1_work_146 (by decide) (fun c_146_28 => ?_) (fun c_146_28 => ?_)
                                              · refine lv_lload_n hx hb dX1_work_155 rfl (lv_at hl 2 rfl) ?_
                                                refine lv_lload_n hx hb dX1_work_156 rfl (lv_at hl 3 rfl) ?_
                                                refine lv_lmul hx hb dX1_work_157 ?_
                                                refine lv_topl (fun x_38 ex_38 => ?_)
                                                have tx_38 : x_38.toInt = a.toInt * b2.toInt := l_mul ex_38 rfl rfl (by omega) (by omega)
                                                exact hQ _ _ _ _ _ _ hw (⟨rfl, (by unfold bl_w; (repeat (first | rw [if_pos (by omega)] | rw [if_neg (by omega)])); (try unfold bl_if); (repeat (first | rw [if_pos (by omega)] | rw [if_neg (by omega)])); first | omega | assumption)⟩) dX1_work_158
                                              · refine lv_ldc2 (v := (-9223372036854775808)) hx hb C.2.2.2.1 (C.2.2.1 _ cn_X1_34) dX1_work_149 ?_
                                                have z_35 : ((-9223372036854775808) : Int64).toInt = -9223372036854775808 := by decide
                                                refine lv_goto (tgt := 158) hx hb dX1_work_152 (by decide) ?_
                                                exact hQ _ _ _ _ _ _ hw (⟨rfl, (by have lv : ((-9223372036854775808) : Int64).toInt = -9223372036854775808 := (by decide); unfold bl_w; (repeat (first | rw [if_pos (by omega)] | rw [if_neg (by omega)])); (try unfold bl_if); (repeat (first | rw [if_pos (by omega)] | rw [if_neg (by omega)])); first | omega | assumption)⟩) dX1_work_158
                                          · refine lv_lload_n hx hb dX1_work_125 rfl (lv_at hl 1 rfl) ?_
                                            refine lv_lneg hx hb dX1_work_126 ?_
                                            refine lv_topl (fun x_12 ex_12 => ?_)
                                            have tx_12 : x_12.toInt = -a.toInt := l_neg ex_12 rfl (by omega) (by omega)
                                            refine lv_goto (tgt := 131) hx hb dX1_work_127 (by decide) ?_
                                            refine lv_ldiv hx hb dX1_work_131 (fun q => by have h0 := congrArg Int64.toInt q; have := (by decide : (0 : Int64).toInt = 0); omega) ?_
                                            refine lv_topl (fun x_13 ex_13 => ?_)
                                            have tx_13 : x_13.toInt = Int.tdiv ((1000000000000 : Int64).toInt) x_12.toInt := l_div ex_13 rfl rfl (by omega) (by omega)
                                            refine lv_lstore (lv' := [(5, .long x_13), (0, .int sg), (1, .long a), (3, .long b2)]) hx hb dX1_work_132 hl (by decide) rfl (fun ls hl => ?_)
                                            have md : x_13.toInt = Int.tdiv 1000000000000 (-a.toInt) := by rw [tx_13, show (1000000000000 : Int64).toInt = 1000000000000 by decide, show x_12.toInt = (-a.toInt) by omega]
                                            have mb := bl_dv (by omega) md
                                            have mq := bl_mq (b := b2.toInt) (n := (-a.toInt)) (a := a.toInt) (by omega) md
                                            refine lv_lload_n hx hb dX1_work_134 rfl (lv_at hl 3 rfl) ?_
                                            refine lv_lload hx hb dX1_work_135 (lv_at hl 0 rfl) ?_
                                            refine W.lcmp hx hb dX1_work_137 ?_
                                            refine lv_topi (fun x_17 ex_17 => ?_)
                                            have cx_17 := lg_c ex_17
                                            refine sb_if_gt (tgt := 149) hx hb rfl dX1_work_138 (by decide) (fun c_138_17 => ?_) (fun c_138_17 => ?_)
                                            · refine lv_ldc2 (v := (-9223372036854775808)) hx hb C.2.2.2.1 (C.2.2.1 _ cn_X1_34) dX1_work_149 ?_
                                              have z_31 : ((-9223372036854775808) : Int64).toInt = -9223372036854775808 := by decide
                                              refine lv_goto (tgt := 158) hx hb dX1_work_152 (by decide) ?_
                                              exact hQ _ _ _ _ _ _ hw (⟨rfl, (by have lv : ((-9223372036854775808) : Int64).toInt = -9223372036854775808 := (by decide); unfold bl_w; (repeat (first | rw [if_pos (by omega)] | rw [if_neg (by omega)])); (try unfold bl_if); (repeat (first | rw [if_pos (by omega)] | rw [if_neg (by omega)])); first | omega | assumption)⟩) dX1_work_158
                                            · refine lv_lload_n hx hb dX1_work_141 rfl (lv_at hl 3 rfl) ?_
                                              refine lv_lload hx hb dX1_work_142 (lv_at hl 0 rfl) ?_
                                              refine lv_lneg hx hb dX1_work_144 ?_
                                              refine lv_topl (fun x_24 ex_24 => ?_)
                                              have tx_24 : x_24.toInt = -x_13.toInt := l_neg ex_24 rfl (by omega) (by omega)
                                              refine W.lcmp hx hb dX1_work_145 ?_
                                              refine lv_topi (fun x_25 ex_25 => ?_)
                                              have cx_25 := lg_c ex_25
                                              refine sb_if_ge (tgt := 155) hx hb rfl dX1_work_146 (by decide) (fun c_146_25 => ?_) (fun c_146_25 => ?_)
                                              · refine lv_lload_n hx hb dX1_work_155 rfl (lv_at hl 2 rfl) ?_
                                                refine lv_lload_n hx hb dX1_work_156 rfl (lv_at hl 3 rfl) ?_
                                                refine lv_lmul hx hb dX1_work_157 ?_
                                                refine lv_topl (fun x_37 ex_37 => ?_)
                                                have tx_37 : x_37.toInt = a.toInt * b2.toInt := l_mul ex_37 rfl rfl (by omega) (by omega)
                                                exact hQ _ _ _ _ _ _ hw (⟨rfl, (by unfold bl_w; (repeat (first | rw [if_pos (by omega)] | rw [if_neg (by omega)])); (try unfold bl_if); (repeat (first | rw [if_pos (by omega)] | rw [if_neg (by omega)])); first | omega | assumption)⟩) dX1_work_158
                                              · refine lv_ldc2 (v := (-9223372036854775808)) hx hb C.2.2.2.1 (C.2.2.1 _ cn_X1_34) dX1_work_149 ?_
                                                have z_34 : ((-9223372036854775808) : Int64).toInt = -9223372036854775808 := by decide
                                                refine lv_goto (tgt := 158) hx hb dX1_work_152 (by decide) ?_
                                                exact hQ _ _ _ _ _ _ hw (⟨rfl, (by have lv : ((-9223372036854775808) : Int64).toInt = -9223372036854775808 := (by decide); unfold bl_w; (repeat (first | rw [if_pos (by omega)] | rw [if_neg (by omega)])); (try unfold bl_if); (repeat (first | rw [if_pos (by omega)] | rw [if_neg (by omega)])); first | omega | assumption)⟩) dX1_work_158
                                        · refine lv_ldc2 (v := 1000000000000) hx hb C.2.2.2.1 (C.2.2.1 _ cn_X1_67) dX1_work_110 ?_
                                          have z_7 : (1000000000000 : Int64).toInt = 1000000000000 := by decide
                                          refine lv_goto (tgt := 132) hx hb dX1_work_113 (by decide) ?_
                                          refine lv_lstore (lv' := [(5, .long 1000000000000), (0, .int sg), (1, .long a), (3, .long b2)]) hx hb dX1_work_132 hl (by decide) rfl (fun ls hl => ?_)
                                          have mq : a.toInt * b2.toInt = 0 := by rw [show a.toInt = 0 by omega, Int.zero_mul]
                                          refine lv_lload_n hx hb dX1_work_134 rfl (lv_at hl 3 rfl) ?_
                                          refine lv_lload hx hb dX1_work_135 (lv_at hl 0 rfl) ?_
                                          refine W.lcmp hx hb dX1_work_137 ?_
                                          refine lv_topi (fun x_15 ex_15 => ?_)
                                          have cx_15 := lg_c ex_15
                                          refine sb_if_gt (tgt := 149) hx hb rfl dX1_work_138 (by decide) (fun c_138_15 => ?_) (fun c_138_15 => ?_)
                                          · refine lv_ldc2 (v := (-9223372036854775808)) hx hb C.2.2.2.1 (C.2.2.1 _ cn_X1_34) dX1_work_149 ?_
                                            have z_30 : ((-9223372036854775808) : Int64).toInt = -9223372036854775808 := by decide
                                            refine lv_goto (tgt := 158) hx hb dX1_work_152 (by decide) ?_
                                            exact hQ _ _ _ _ _ _ hw (⟨rfl, (by have lv : ((-9223372036854775808) : Int64).toInt = -9223372036854775808 := (by decide); unfold bl_w; (repeat (first | rw [if_pos (by omega)] | rw [if_neg (by omega)])); (try unfold bl_if); (repeat (first | rw [if_pos (by omega)] | rw [if_neg (by omega)])); first | omega | assumption)⟩) dX1_work_158
                                          · refine lv_lload_n hx hb dX1_work_141 rfl (lv_at hl 3 rfl) ?_
                                            refine lv_lload hx hb dX1_work_142 (lv_at hl 0 rfl) ?_
                                            refine lv_lneg hx hb dX1_work_144 ?_
                                            refine lv_topl (fun x_21 ex_21 => ?_)
                                            have tx_21 : x_21.toInt = -(1000000000000 : Int64).toInt := l_neg ex_21 rfl (by omega) (by omega)
                                            refine W.lcmp hx hb dX1_work_145 ?_
                                            refine lv_topi (fun x_22 ex_22 => ?_)
                                            have cx_22 := lg_c ex_22
                                            refine sb_if_ge (tgt := 155) hx hb rfl dX1_work_146 (by decide) (fun c_146_22 => ?_) (fun c_146_22 => ?_)
                                            · refine lv_lload_n hx hb dX1_work_155 rfl (lv_at hl 2 rfl) ?_
                                              refine lv_lload_n hx hb dX1_work_156 rfl (lv_at hl 3 rfl) ?_
                                              refine lv_lmul hx hb dX1_work_157 ?_
                                              refine lv_topl (fun x_36 ex_36 => ?_)
                                              have tx_36 : x_36.toInt = a.toInt * b2.toInt := l_mul ex_36 rfl rfl (by omega) (by omega)
                                              exact hQ _ _ _ _ _ _ hw (⟨rfl, (by unfold bl_w; (repeat (first | rw [if_pos (by omega)] | rw [if_neg (by omega)])); (try unfold bl_if); (repeat (first | rw [if_pos (by omega)] | rw [if_neg (by omega)])); first | omega | assumption)⟩) dX1_work_158
                                            · refine lv_ldc2 (v := (-9223372036854775808)) hx hb C.2.2.2.1 (C.2.2.1 _ cn_X1_34) dX1_work_149 ?_
                                              have z_33 : ((-9223372036854775808) : Int64).toInt = -9223372036854775808 := by decide
                                              refine lv_goto (tgt := 158) hx hb dX1_work_152 (by decide) ?_
                                              exact hQ _ _ _ _ _ _ hw (⟨rfl, (by have lv : ((-9223372036854775808) : Int64).toInt = -9223372036854775808 := (by decide); unfold bl_w; (repeat (first | rw [if_pos (by omega)] | rw [if_neg (by omega)])); (try unfold bl_if); (repeat (first | rw [if_pos (by omega)] | rw [if_neg (by omega)])); first | omega | assumption)⟩) dX1_work_158
                                      · have qs_1_40 : sg.toInt ≠ 40 := pt_ne s_1_40 (by decide)
                                        by_cases s_1_41 : sg = 41
                                        · have qs_1_41 : sg.toInt = 41 := by rw [s_1_41]; decide
                                          refine lv_tableIn (tgt := 159) (off := 158) hx hb dX1_work_1 (by rw [s_1_41]; decide) (by rw [s_1_41]; decide) (by rw [s_1_41]; decide) (by decide) ?_
                                          refine lv_lload_n hx hb dX1_work_159 rfl (lv_at hl 2 rfl) ?_
                                          refine lv_lconst (v := 0) hx hb dX1_work_160 (by decide) ?_
                                          have z_39 : (0 : Int64).toInt = 0 := by decide
                                          refine W.lcmp hx hb dX1_work_161 ?_
                                          refine lv_topi (fun x_40 ex_40 => ?_)
                                          have cx_40 := lg_c ex_40
                                          refine sb_if_ne (tgt := 171) hx hb rfl dX1_work_162 (by decide) (fun c_162_40 => ?_) (fun c_162_40 => ?_)
                                          · refine lv_lload_n hx hb dX1_work_171 rfl (lv_at hl 1 rfl) ?_
                                            refine lv_lload_n hx hb dX1_work_172 rfl (lv_at hl 2 rfl) ?_
                                            refine lv_ldiv hx hb dX1_work_173 (fun q => by have h0 := congrArg Int64.toInt q; have := (by decide : (0 : Int64).toInt = 0); omega) ?_
                                            refine lv_topl (fun x_43 ex_43 => ?_)
                                            have tx_43 : x_43.toInt = Int.tdiv a.toInt b2.toInt := l_div ex_43 rfl rfl (by omega) (by omega)
                                            exact hQ _ _ _ _ _ _ hw (⟨rfl, (by unfold bl_w; (repeat (first | rw [if_pos (by omega)] | rw [if_neg (by omega)])); (try unfold bl_if); (repeat (first | rw [if_pos (by omega)] | rw [if_neg (by omega)])); first | omega | assumption)⟩) dX1_work_174
                                          · refine lv_ldc2 (v := (-9223372036854775808)) hx hb C.2.2.2.1 (C.2.2.1 _ cn_X1_34) dX1_work_165 ?_
                                            have z_42 : ((-9223372036854775808) : Int64).toInt = -9223372036854775808 := by decide
                                            refine lv_goto (tgt := 174) hx hb dX1_work_168 (by decide) ?_
                                            exact hQ _ _ _ _ _ _ hw (⟨rfl, (by have lv : ((-9223372036854775808) : Int64).toInt = -9223372036854775808 := (by decide); unfold bl_w; (repeat (first | rw [if_pos (by omega)] | rw [if_neg (by omega)])); (try unfold bl_if); (repeat (first | rw [if_pos (by omega)] | rw [if_neg (by omega)])); first | omega | assumption)⟩) dX1_work_174
                                        · have qs_1_41 : sg.toInt ≠ 41 := pt_ne s_1_41 (by decide)
                                          refine lv_tableOut (tgt := 283) hx hb dX1_work_1 (ti_out (lo := 22) (hi := 41) sg (fun v h1 h2 => by rcases (show v = 22 ∨ v = 23 ∨ v = 24 ∨ v = 25 ∨ v = 26 ∨ v = 27 ∨ v = 28 ∨ v = 29 ∨ v = 30 ∨ v = 31 ∨ v = 32 ∨ v = 33 ∨ v = 34 ∨ v = 35 ∨ v = 36 ∨ v = 37 ∨ v = 38 ∨ v = 39 ∨ v = 40 ∨ v = 41 by omega) with rfl | rfl | rfl | rfl | rfl | rfl | rfl | rfl | rfl | rfl | rfl | rfl | rfl | rfl | rfl | rfl | rfl | rfl | rfl | rfl <;> first | exact ti_nev 22 s_1_22 (by decide) | exact ti_nev 23 s_1_23 (by decide) | exact ti_nev 24 s_1_24 (by decide) | exact ti_nev 25 s_1_25 (by decide) | exact ti_nev 26 s_1_26 (by decide) | exact ti_nev 27 s_1_27 (by decide) | exact ti_nev 28 s_1_28 (by decide) | exact ti_nev 29 s_1_29 (by decide) | exact ti_nev 30 s_1_30 (by decide) | exact ti_nev 31 s_1_31 (by decide) | exact ti_nev 32 s_1_32 (by decide) | exact ti_nev 33 s_1_33 (by decide) | exact ti_nev 34 s_1_34 (by decide) | exact ti_nev 35 s_1_35 (by decide) | exact ti_nev 36 s_1_36 (by decide) | exact ti_nev 37 s_1_37 (by decide) | exact ti_nev 38 s_1_38 (by decide) | exact ti_nev 39 s_1_39 (by decide) | exact ti_nev 40 s_1_40 (by decide) | exact ti_nev 41 s_1_41 (by decide))) (by decide) ?_
                                          refine lv_ldc2 (v := (-9223372036854775808)) hx hb C.2.2.2.1 (C.2.2.1 _ cn_X1_34) dX1_work_283 ?_
                                          have z_94 : ((-9223372036854775808) : Int64).toInt = -9223372036854775808 := by decide
                                          exact hQ _ _ _ _ _ _ hw (⟨rfl, (by have lv : ((-9223372036854775808) : Int64).toInt = -9223372036854775808 := (by decide); unfold bl_w; (repeat (first | rw [if_pos (by omega)] | rw [if_neg (by omega)])); (try unfold bl_if); (repeat (first | rw [if_pos (by omega)] | rw [if_neg (by omega)])); first | omega | assumption)⟩) dX1_work_286
set_option maxHeartbeats 4000000 in
set_option maxRecDepth 100000 in
theorem z_X1_value (l : Launch) (D : va_G) (A : Nat → Nat → Nat) (cy : Nat → ClassId) (hJ : ti_inj ti_LT A) (M : ti_M) (hI : cI Tc M) (lw q t : Nat) (hlw : ti_ob ti_LT lw 1) (hq : ti_ob ti_LT q 3) (ht : t = 3 ∨ t = 4) (hT : tT M q 0 = some t) (pl ps : Int32) (co : Nat → Int) (len : Int) (hco : ∀ n : Nat, n < 64 → co n = (tY M lw 0 n).toInt) (hln : len = (tI M lw 3).toInt) (tx rg : Nat → Int) (htx : tC t tx M) (hs : qC q rg M) : ti_Kl l yX1_value cX1_value 10 (some .long) 1 ti_LT D A cy M [.ref (A lw 0), .ref (A q 0), .int pl, .int ps] (fun r M2 => cI Tc M2 ∧ M2.2.2.2 = M.2.2.2 ∧ M2.1 = M.1 ∧ M2.2.1 = M.2.1 ∧ r.toInt = vq co len tx rg pl.toInt ps.toInt) := by
  refine ti_eL yp_X1_value hJ ti_LT_nd (Nat.le_of_ble_eq_true rfl) ?_
  intro p e s m args below meth c Q H0 C hQ hw ls hl
  have hx := C.1
  have hb := C.2.1
  have hl : lv_has ls 10 [(0, .ref (A lw 0)), (1, .ref (A q 0)), (2, .int pl), (3, .int ps)] := hl
  refine lv_aload_n hx hb dX1_value_0 rfl (lv_at hl 1 rfl) ?_
  refine lv_iload_n hx hb dX1_value_1 rfl (lv_at hl 2 rfl) ?_
  refine ti_callVi (ci := 3) (av := [.int pl]) C hw (z_X3_manAt l D A cy hJ M hI q hq pl rg hs) ⟨ml_X1_28, ym_X3_manAt, yv_X3_manAt, yi_X3_manAt, yc_X3_manAt⟩ yd_X3_manAt hq (by decide) rfl rfl hl.1 (Nat.le_of_ble_eq_true rfl) ⟨by decide, by decide⟩ ⟨Nat.zero_le _, Nat.zero_le _⟩ dX1_value_2 (fun r_1 M_2 H locs hp_2 hw => ?_)
  obtain ⟨hm, b0r_1, b1r_1, pr_1, p0r_1⟩ := hp_2
  have hw := hw.to hm
  refine lv_istore (lv' := [(4, .int r_1), (0, .ref (A lw 0)), (1, .ref (A q 0)), (2, .int pl), (3, .int ps)]) hx hb dX1_value_5 hl (by decide) rfl (fun ls hl => ?_)
  refine lv_iload hx hb dX1_value_7 (lv_at hl 0 rfl) ?_
  refine sb_if_lt (tgt := 19) hx hb rfl dX1_value_9 (by decide) (fun c_9_2 => ?_) (fun c_9_2 => ?_)
  · refine lv_ldc2 (v := (-9223372036854775808)) hx hb C.2.2.2.1 (C.2.2.1 _ cn_X1_34) dX1_value_19 ?_
    have z_6 : ((-9223372036854775808) : Int64).toInt = -9223372036854775808 := by decide
    exact hQ _ _ _ _ _ _ hw (⟨hI, rfl, rfl, rfl, (by unfold vq; rw [if_pos (by omega)]; decide)⟩) dX1_value_22
  · refine lv_aload_n hx hb dX1_value_12 rfl (lv_at hl 1 rfl) ?_
    refine ti_get (ci := 1) (k := 3) (N := 4) (T := TX1) C hw iw_1 rfl hlw (by decide) (by decide) fl_X1_24 rfl rfl dX1_value_13 ?_
    refine lv_topi (fun x_4 ex_4 => ?_)
    have bx_4 : 0 ≤ x_4.toInt ∧ x_4.toInt ≤ 64 := cI_rd hI hlw.1 ex_4
    have ux_4 : (tI M lw 3).toInt = x_4.toInt := by rw [ex_4]
    have ll : len = x_4.toInt := by rw [hln, ex_4]
    refine sb_if_ne (tgt := 23) hx hb rfl dX1_value_16 (by decide) (fun c_16_4 => ?_) (fun c_16_4 => ?_)
    · refine lv_aload_n hx hb dX1_value_23 rfl (lv_at hl 1 rfl) ?_
      refine ti_get (ci := 1) (k := 2) (N := 4) (T := TX1) (v := .ref (A lw 3)) C hw iw_1 rfl hlw (by decide) (by decide) fl_X1_21 rfl rfl dX1_value_24 ?_
      refine lv_iconst (v := 0) hx hb dX1_value_27 (by decide) ?_
      refine lv_aload_n hx hb dX1_value_28 rfl (lv_at hl 2 rfl) ?_
      refine ti_get (ci := 3) (k := 0) (N := 17) (T := TX3) (v := .ref (A t 0)) C hw iw_3 rfl hq (by decide) (by decide) fl_X1_36 rfl (ti_Tv (hT)) dX1_value_29 ?_
      refine ti_get (ci := 8) (k := 0) (N := 12) (T := TX8) (v := .ref (A t 1)) C hw iw_8 rfl (ob_t ht) (by decide) (by decide) fl_X1_40 rfl rfl dX1_value_32 ?_
      refine lv_iload hx hb dX1_value_35 (lv_at hl 0 rfl) ?_
      refine ti_aald (ci := 8) (k := 0) (n := 8) (t0 := 5) (Cn := RX2) (gg := (ti_men t)) (j := r_1.toNatClampNeg) C hw (ob_t ht) (by decide) (fun _ _ => rfl) rfl (vp_in_iff.mpr (by omega)) rfl dX1_value_37 ?_
      have ob_8 : ti_ob ti_LT (ti_men t r_1.toNatClampNeg) 2 := ob_m ht (i_nt rfl (by omega) (by omega))
      refine ti_get (ci := 2) (k := 1) (N := 10) (T := TX2) C hw iw_2 rfl ob_8 (by decide) (by decide) fl_X1_46 rfl rfl dX1_value_38 ?_
      refine lv_topi (fun x_9 ex_9 => ?_)
      have L_10 : tx (100 + 16 * r_1.toInt.toNat + 1) = x_9.toInt := (((show tx (100 + 16 * r_1.toInt.toNat + 1) = _ from by rw [← (show r_1.toNatClampNeg = r_1.toInt.toNat from congrArg Int.toNat rfl)]; exact htx.2.2.1 r_1.toNatClampNeg 1 (i_nt (n := 8) rfl (by omega) (by omega)) (by decide) (by decide))).trans (congrArg Int32.toInt (ex_9.symm))).trans rfl
      obtain ⟨x_11, ex_11⟩ : ∃ z : Int64, z = x_9.toInt64 := ⟨_, rfl⟩
      refine lv_i2l (v := x_11) hx hb dX1_value_41 ex_11.symm ?_
      have tx_11 : x_11.toInt = x_9.toInt := by rw [ex_11, Int32.toInt_toInt64]
      have lox_11 := (x_9 : Int32).le_toInt
      have hix_11 := (x_9 : Int32).toInt_lt
      refine ti_last (ci := 1) (k := 2) (n := 6) C hw hlw (by decide) (fun _ _ => rfl) (by unfold vp_in; decide) dX1_value_42 (fun H locs hw => ?_)
      obtain ⟨M_12, hM_12⟩ : ∃ z : ti_M, z = uZ M lw 2 (vp_updL (tZ M lw 2) (0 : Int32).toNatClampNeg x_11) := ⟨_, rfl⟩
      have hw := hw.to hM_12.symm
      have iM_12 : cI Tc M_12 := cI_uZ hI hM_12
      have hs_13 : qC q rg M_12 := qC_Z hs hM_12
      have hF_14 : ∀ j : Nat, j < 0 + 1 → (tZ M_12 lw 2 j).toInt = (bq_fa tx rg r_1.toInt ps.toInt) j ∧ -1000000000000 ≤ (bq_fa tx rg r_1.toInt ps.toInt) j ∧ (bq_fa tx rg r_1.toInt ps.toInt) j ≤ 1000000000000 := lz_fa (n := 0) (fun j hj => absurd hj (Nat.not_lt_zero _)) hM_12 (by decide) (by show _ = bq_fa _ _ _ _ 0; unfold bq_fa; (repeat (first | rw [if_pos (by omega)] | rw [if_neg (by omega)])); omega) ⟨by omega, by omega⟩
      refine lv_aload_n hx hb dX1_value_43 rfl (lv_at hl 1 rfl) ?_
      refine ti_get (ci := 1) (k := 2) (N := 4) (T := TX1) (v := .ref (A lw 3)) C hw iw_1 rfl hlw (by decide) (by decide) fl_X1_21 rfl rfl dX1_value_44 ?_
      refine lv_iconst (v := 1) hx hb dX1_value_47 (by decide) ?_
      refine lv_aload_n hx hb dX1_value_48 rfl (lv_at hl 2 rfl) ?_
      refine ti_get (ci := 3) (k := 0) (N := 17) (T := TX3) (v := .ref (A t 0)) C hw iw_3 rfl hq (by decide) (by decide) fl_X1_36 rfl (ti_Tv ((tT_uZE hM_12).trans hT)) dX1_value_49 ?_
      refine ti_get (ci := 8) (k := 0) (N := 12) (T := TX8) (v := .ref (A t 1)) C hw iw_8 rfl (ob_t ht) (by decide) (by decide) fl_X1_40 rfl rfl dX1_value_52 ?_
      refine lv_iload hx hb dX1_value_55 (lv_at hl 0 rfl) ?_
      refine ti_aald (ci := 8) (k := 0) (n := 8) (t0 := 5) (Cn := RX2) (gg := (ti_men t)) (j := r_1.toNatClampNeg) C hw (ob_t ht) (by decide) (fun _ _ => rfl) rfl (vp_in_iff.mpr (by omega)) rfl dX1_value_57 ?_
      refine ti_get (ci := 2) (k := 2) (N := 10) (T := TX2) C hw iw_2 rfl ob_8 (by decide) (by decide) fl_X1_51 rfl rfl dX1_value_58 ?_
      refine lv_topi (fun x_15 ex_15 => ?_)
      have L_16 : tx (100 + 16 * r_1.toInt.toNat + 2) = x_15.toInt := (((show tx (100 + 16 * r_1.toInt.toNat + 2) = _ from by rw [← (show r_1.toNatClampNeg = r_1.toInt.toNat from congrArg Int.toNat rfl)]; exact (tC_eo ht hq.1 htx (eo_Z hM_12)).2.2.1 r_1.toNatClampNeg 2 (i_nt (n := 8) rfl (by omega) (by omega)) (by decide) (by decide))).trans (congrArg Int32.toInt (ex_15.symm))).trans rfl
      obtain ⟨x_17, ex_17⟩ : ∃ z : Int64, z = x_15.toInt64 := ⟨_, rfl⟩
      refine lv_i2l (v := x_17) hx hb dX1_value_61 ex_17.symm ?_
      have tx_17 : x_17.toInt = x_15.toInt := by rw [ex_17, Int32.toInt_toInt64]
      have lox_17 := (x_15 : Int32).le_toInt
      have hix_17 := (x_15 : Int32).toInt_lt
      refine ti_last (ci := 1) (k := 2) (n := 6) C hw hlw (by decide) (fun _ _ => rfl) (by unfold vp_in; decide) dX1_value_62 (fun H locs hw => ?_)
      obtain ⟨M_18, hM_18⟩ : ∃ z : ti_M, z = uZ M_12 lw 2 (vp_updL (tZ M_12 lw 2) (1 : Int32).toNatClampNeg x_17) := ⟨_, rfl⟩
      have hw := hw.to hM_18.symm
      have iM_18 : cI Tc M_18 := cI_uZ iM_12 hM_18
      have hs_19 : qC q rg M_18 := qC_Z hs_13 hM_18
      have hF_20 : ∀ j : Nat, j < 1 + 1 → (tZ M_18 lw 2 j).toInt = (bq_fa tx rg r_1.toInt ps.toInt) j ∧ -1000000000000 ≤ (bq_fa tx rg r_1.toInt ps.toInt) j ∧ (bq_fa tx rg r_1.toInt ps.toInt) j ≤ 1000000000000 := lz_fa (n := 1) hF_14 hM_18 (by decide) (by show _ = bq_fa _ _ _ _ 1; unfold bq_fa; (repeat (first | rw [if_pos (by omega)] | rw [if_neg (by omega)])); omega) ⟨by omega, by omega⟩
      refine lv_aload_n hx hb dX1_value_63 rfl (lv_at hl 1 rfl) ?_
      refine ti_get (ci := 1) (k := 2) (N := 4) (T := TX1) (v := .ref (A lw 3)) C hw iw_1 rfl hlw (by decide) (by decide) fl_X1_21 rfl rfl dX1_value_64 ?_
      refine lv_iconst (v := 2) hx hb dX1_value_67 (by decide) ?_
      refine lv_aload_n hx hb dX1_value_68 rfl (lv_at hl 2 rfl) ?_
      refine ti_get (ci := 3) (k := 0) (N := 17) (T := TX3) (v := .ref (A t 0)) C hw iw_3 rfl hq (by decide) (by decide) fl_X1_36 rfl (ti_Tv ((tT_uZE hM_18).trans ((tT_uZE hM_12).trans hT))) dX1_value_69 ?_
      refine ti_get (ci := 8) (k := 0) (N := 12) (T := TX8) (v := .ref (A t 1)) C hw iw_8 rfl (ob_t ht) (by decide) (by decide) fl_X1_40 rfl rfl dX1_value_72 ?_
      refine lv_iload hx hb dX1_value_75 (lv_at hl 0 rfl) ?_
      refine ti_aald (ci := 8) (k := 0) (n := 8) (t0 := 5) (Cn := RX2) (gg := (ti_men t)) (j := r_1.toNatClampNeg) C hw (ob_t ht) (by decide) (fun _ _ => rfl) rfl (vp_in_iff.mpr (by omega)) rfl dX1_value_77 ?_
      refine ti_get (ci := 2) (k := 4) (N := 10) (T := TX2) C hw iw_2 rfl ob_8 (by decide) (by decide) fl_X1_54 rfl rfl dX1_value_78 ?_
      refine lv_topi (fun x_21 ex_21 => ?_)
      have L_22 : tx (100 + 16 * r_1.toInt.toNat + 4) = x_21.toInt := (((show tx (100 + 16 * r_1.toInt.toNat + 4) = _ from by rw [← (show r_1.toNatClampNeg = r_1.toInt.toNat from congrArg Int.toNat rfl)]; exact (tC_eo ht hq.1 htx (eo.trans (eo_Z hM_18) (eo_Z hM_12))).2.2.1 r_1.toNatClampNeg 4 (i_nt (n := 8) rfl (by omega) (by omega)) (by decide) (by decide))).trans (congrArg Int32.toInt (ex_21.symm))).trans rfl
      obtain ⟨x_23, ex_23⟩ : ∃ z : Int64, z = x_21.toInt64 := ⟨_, rfl⟩
      refine lv_i2l (v := x_23) hx hb dX1_value_81 ex_23.symm ?_
      have tx_23 : x_23.toInt = x_21.toInt := by rw [ex_23, Int32.toInt_toInt64]
      have lox_23 := (x_21 : Int32).le_toInt
      have hix_23 := (x_21 : Int32).toInt_lt
      refine ti_last (ci := 1) (k := 2) (n := 6) C hw hlw (by decide) (fun _ _ => rfl) (by unfold vp_in; decide) dX1_value_82 (fun H locs hw => ?_)
      obtain ⟨M_24, hM_24⟩ : ∃ z : ti_M, z = uZ M_18 lw 2 (vp_updL (tZ M_18 lw 2) (2 : Int32).toNatClampNeg x_23) := ⟨_, rfl⟩
      have hw := hw.to hM_24.symm
      have iM_24 : cI Tc M_24 := cI_uZ iM_18 hM_24
      have hs_25 : qC q rg M_24 := qC_Z hs_19 hM_24
      have hF_26 : ∀ j : Nat, j < 2 + 1 → (tZ M_24 lw 2 j).toInt = (bq_fa tx rg r_1.toInt ps.toInt) j ∧ -1000000000000 ≤ (bq_fa tx rg r_1.toInt ps.toInt) j ∧ (bq_fa tx rg r_1.toInt ps.toInt) j ≤ 1000000000000 := lz_fa (n := 2) hF_20 hM_24 (by decide) (by show _ = bq_fa _ _ _ _ 2; unfold bq_fa; (repeat (first | rw [if_pos (by omega)] | rw [if_neg (by omega)])); omega) ⟨by omega, by omega⟩
      refine lv_aload_n hx hb dX1_value_83 rfl (lv_at hl 1 rfl) ?_
      refine ti_get (ci := 1) (k := 2) (N := 4) (T := TX1) (v := .ref (A lw 3)) C hw iw_1 rfl hlw (by decide) (by decide) fl_X1_21 rfl rfl dX1_value_84 ?_
      refine lv_iconst (v := 3) hx hb dX1_value_87 (by decide) ?_
      refine lv_aload_n hx hb dX1_value_88 rfl (lv_at hl 2 rfl) ?_
      refine ti_get (ci := 3) (k := 12) (N := 17) (T := TX3) (v := .ref (A q 13)) C hw iw_3 rfl hq (by decide) (by decide) fl_X1_57 rfl rfl dX1_value_89 ?_
      refine lv_iload hx hb dX1_value_92 (lv_at hl 0 rfl) ?_
      refine ti_iald (ci := 3) (k := 12) (n := 8) C hw hq (by decide) (fun _ _ => rfl) (vp_in_iff.mpr (by omega)) dX1_value_94 ?_
      refine lv_topi (fun x_27 ex_27 => ?_)
      have L_28 : rg (192 + r_1.toInt.toNat) = x_27.toInt := qC_y (k := 12) hs_25 rfl (by omega) (by omega) (by decide) (by decide) ex_27
      obtain ⟨x_29, ex_29⟩ : ∃ z : Int64, z = x_27.toInt64 := ⟨_, rfl⟩
      refine lv_i2l (v := x_29) hx hb dX1_value_95 ex_29.symm ?_
      have tx_29 : x_29.toInt = x_27.toInt := by rw [ex_29, Int32.toInt_toInt64]
      have lox_29 := (x_27 : Int32).le_toInt
      have hix_29 := (x_27 : Int32).toInt_lt
      refine ti_last (ci := 1) (k := 2) (n := 6) C hw hlw (by decide) (fun _ _ => rfl) (by unfold vp_in; decide) dX1_value_96 (fun H locs hw => ?_)
      obtain ⟨M_30, hM_30⟩ : ∃ z : ti_M, z = uZ M_24 lw 2 (vp_updL (tZ M_24 lw 2) (3 : Int32).toNatClampNeg x_29) := ⟨_, rfl⟩
      have hw := hw.to hM_30.symm
      have iM_30 : cI Tc M_30 := cI_uZ iM_24 hM_30
      have hs_31 : qC q rg M_30 := qC_Z hs_25 hM_30
      have hF_32 : ∀ j : Nat, j < 3 + 1 → (tZ M_30 lw 2 j).toInt = (bq_fa tx rg r_1.toInt ps.toInt) j ∧ -1000000000000 ≤ (bq_fa tx rg r_1.toInt ps.toInt) j ∧ (bq_fa tx rg r_1.toInt ps.toInt) j ≤ 1000000000000 := lz_fa (n := 3) hF_26 hM_30 (by decide) (by show _ = bq_fa _ _ _ _ 3; unfold bq_fa; (repeat (first | rw [if_pos (by omega)] | rw [if_neg (by omega)])); omega) ⟨by omega, by omega⟩
      refine lv_aload_n hx hb dX1_value_97 rfl (lv_at hl 1 rfl) ?_
      refine ti_get (ci := 1) (k := 2) (N := 4) (T := TX1) (v := .ref (A lw 3)) C hw iw_1 rfl hlw (by decide) (by decide) fl_X1_21 rfl rfl dX1_value_98 ?_
      refine lv_iconst (v := 4) hx hb dX1_value_101 (by decide) ?_
      refine lv_iload_n hx hb dX1_value_102 rfl (lv_at hl 4 rfl) ?_
      obtain ⟨x_33, ex_33⟩ : ∃ z : Int64, z = ps.toInt64 := ⟨_, rfl⟩
      refine lv_i2l (v := x_33) hx hb dX1_value_103 ex_33.symm ?_
      have tx_33 : x_33.toInt = ps.toInt := by rw [ex_33, Int32.toInt_toInt64]
      have lox_33 := (ps : Int32).le_toInt
      have hix_33 := (ps : Int32).toInt_lt
      refine ti_last (ci := 1) (k := 2) (n := 6) C hw hlw (by decide) (fun _ _ => rfl) (by unfold vp_in; decide) dX1_value_104 (fun H locs hw => ?_)
      obtain ⟨M_34, hM_34⟩ : ∃ z : ti_M, z = uZ M_30 lw 2 (vp_updL (tZ M_30 lw 2) (4 : Int32).toNatClampNeg x_33) := ⟨_, rfl⟩
      have hw := hw.to hM_34.symm
      have iM_34 : cI Tc M_34 := cI_uZ iM_30 hM_34
      have hs_35 : qC q rg M_34 := qC_Z hs_31 hM_34
      have hF_36 : ∀ j : Nat, j < 4 + 1 → (tZ M_34 lw 2 j).toInt = (bq_fa tx rg r_1.toInt ps.toInt) j ∧ -1000000000000 ≤ (bq_fa tx rg r_1.toInt ps.toInt) j ∧ (bq_fa tx rg r_1.toInt ps.toInt) j ≤ 1000000000000 := lz_fa (n := 4) hF_32 hM_34 (by decide) (by show _ = bq_fa _ _ _ _ 4; unfold bq_fa; (repeat (first | rw [if_pos (by omega)] | rw [if_neg (by omega)])); omega) ⟨by omega, by omega⟩
      refine lv_aload_n hx hb dX1_value_105 rfl (lv_at hl 1 rfl) ?_
      refine ti_get (ci := 1) (k := 2) (N := 4) (T := TX1) (v := .ref (A lw 3)) C hw iw_1 rfl hlw (by decide) (by decide) fl_X1_21 rfl rfl dX1_value_106 ?_
      refine lv_iconst (v := 5) hx hb dX1_value_109 (by decide) ?_
      refine lv_aload_n hx hb dX1_value_110 rfl (lv_at hl 2 rfl) ?_
      refine lv_iload hx hb dX1_value_111 (lv_at hl 0 rfl) ?_
      refine ti_callVi (ci := 3) (av := [.int r_1]) C hw (z_X3_waited l D A cy hJ M_34 iM_34 q hq r_1 (by omega) (by omega) rg hs_35) ⟨ml_X1_60, ym_X3_waited, yv_X3_waited, yi_X3_waited, yc_X3_waited⟩ yd_X3_waited hq (by decide) rfl rfl hl.1 (Nat.le_of_ble_eq_true rfl) ⟨by decide, by decide⟩ ⟨Nat.zero_le _, Nat.zero_le _⟩ dX1_value_113 (fun r_37 M_38 H locs hp_38 hw => ?_)
      obtain ⟨hm, pr_37⟩ := hp_38
      have hw := hw.to hm
      obtain ⟨x_39, ex_39⟩ : ∃ z : Int64, z = r_37.toInt64 := ⟨_, rfl⟩
      refine lv_i2l (v := x_39) hx hb dX1_value_116 ex_39.symm ?_
      have tx_39 : x_39.toInt = r_37.toInt := by rw [ex_39, Int32.toInt_toInt64]
      have lox_39 := (r_37 : Int32).le_toInt
      have hix_39 := (r_37 : Int32).toInt_lt
      refine ti_last (ci := 1) (k := 2) (n := 6) C hw hlw (by decide) (fun _ _ => rfl) (by unfold vp_in; decide) dX1_value_117 (fun H locs hw => ?_)
      obtain ⟨M_40, hM_40⟩ : ∃ z : ti_M, z = uZ M_34 lw 2 (vp_updL (tZ M_34 lw 2) (5 : Int32).toNatClampNeg x_39) := ⟨_, rfl⟩
      have hw := hw.to hM_40.symm
      have iM_40 : cI Tc M_40 := cI_uZ iM_34 hM_40
      have hs_41 : qC q rg M_40 := qC_Z hs_35 hM_40
      have hF_42 : ∀ j : Nat, j < 5 + 1 → (tZ M_40 lw 2 j).toInt = (bq_fa tx rg r_1.toInt ps.toInt) j ∧ -1000000000000 ≤ (bq_fa tx rg r_1.toInt ps.toInt) j ∧ (bq_fa tx rg r_1.toInt ps.toInt) j ≤ 1000000000000 := lz_fa (n := 5) hF_36 hM_40 (by decide) (by show _ = bq_fa _ _ _ _ 5; unfold bq_fa; (repeat (first | rw [if_pos (by omega)] | rw [if_neg (by omega)])); omega) ⟨by omega, by omega⟩
      refine lv_iconst (v := 0) hx hb dX1_value_118 (by decide) ?_
      refine lv_istore (lv' := [(5, .int 0), (4, .int r_1), (0, .ref (A lw 0)), (1, .ref (A q 0)), (2, .int pl), (3, .int ps)]) hx hb dX1_value_119 hl (by decide) rfl (fun ls hl => ?_)
      refine lv_iconst (v := 0) hx hb dX1_value_121 (by decide) ?_
      refine lv_istore (lv' := [(6, .int 0), (5, .int 0), (4, .int r_1), (0, .ref (A lw 0)), (1, .ref (A q 0)), (2, .int pl), (3, .int ps)]) hx hb dX1_value_122 hl (by decide) rfl (fun ls hl => ?_)
      have hl_124_57 : ∀ (n_58 : Nat) (x_43 : Int32) (x_46 : Int32) (M_49 : ti_M) (st_54 : Nat → Int) (H : Heap) (locs : List Loc) (ls : Array Slot), (64 - x_43.toInt : Int).toNat < n_58 → (0 ≤ x_43.toInt) → (x_43.toInt ≤ 64) → (0 ≤ x_46.toInt) → (x_46.toInt ≤ 64) → (cI Tc M_49) → (M_49.2.2.2 = M.2.2.2) → (M_49.1 = M.1) → (M_49.2.1 = M.2.1) → (qC q rg M_49) → (x_46.toInt ≤ x_43.toInt) → (lz lw (bq_fa tx rg r_1.toInt ps.toInt) st_54 (x_46.toInt) M_49) → (bl_rn co (bq_fa tx rg r_1.toInt ps.toInt) (x_4.toInt.toNat - (x_43.toInt).toNat) (x_43.toInt).toNat (x_46.toInt).toNat st_54 = bl_rn co (bq_fa tx rg r_1.toInt ps.toInt) len.toNat 0 0 (fun _ => 0)) → ti_H ti_LT D A cy H0 M_49 H locs → lv_has ls 10 [(6, .int x_43), (5, .int x_46), (4, .int r_1), (0, .ref (A lw 0)), (1, .ref (A q 0)), (2, .int pl), (3, .int ps)] → W p l e (ti_rm 1) s m args below meth c H locs 0 0 Q (F0 m 124 ls []) := by
        intro n_58
        induction n_58 with
        | zero => intro x_43 x_46 M_49 st_54 H locs ls hf_58; exact absurd hf_58 (Nat.not_lt_zero _)
        | succ n_58 ih_58 =>
          intro x_43 x_46 M_49 st_54 H locs ls hf_58 b_44 b_45 b_47 b_48 iM_49 f_50 f_51 f_52 hs_53 j_55 j_56 j_57 hw hl
          refine lv_iload hx hb dX1_value_124 (lv_at hl 0 rfl) ?_
          refine lv_aload_n hx hb dX1_value_126 rfl (lv_at hl 3 rfl) ?_
          refine ti_get (ci := 1) (k := 3) (N := 4) (T := TX1) C hw iw_1 rfl hlw (by decide) (by decide) fl_X1_24 rfl rfl dX1_value_127 ?_
          refine ti_top (y := x_4) ((tI_fr f_51).trans ex_4.symm) ?_
          have u_59 : (tI M_49 lw 3).toInt = (x_4 : Int32).toInt := by rw [((tI_fr f_51).trans ex_4.symm)]
          refine sb_icmp_ge (tgt := 299) hx hb rfl rfl dX1_value_130 (by decide) (fun c_130_59 => ?_) (fun c_130_59 => ?_)
          · refine lv_iload hx hb dX1_value_299 (lv_at hl 1 rfl) ?_
            refine lv_iconst (v := 1) hx hb dX1_value_301 (by decide) ?_
            refine sb_icmp_ne (tgt := 314) hx hb rfl (by decide : (1 : Int32).toInt = 1) dX1_value_302 (by decide) (fun c_302_139 => ?_) (fun c_302_139 => ?_)
            · refine lv_ldc2 (v := (-9223372036854775808)) hx hb C.2.2.2.1 (C.2.2.1 _ cn_X1_34) dX1_value_314 ?_
              have z_142 : ((-9223372036854775808) : Int64).toInt = -9223372036854775808 := by decide
              exact hQ _ _ _ _ _ _ hw (⟨iM_49, (f_50), (f_51), (f_52), (by unfold vq; rw [if_neg (by omega), ← pr_1, ← j_57, rn_0 (co := co) (fa := (bq_fa tx rg r_1.toInt ps.toInt)) (f := x_4.toInt.toNat - x_43.toInt.toNat) (i := x_43.toInt.toNat) (t := x_46.toInt.toNat) (st := st_54) (by omega), if_neg (by omega)]; decide)⟩) dX1_value_317
            · refine lv_aload_n hx hb dX1_value_305 rfl (lv_at hl 3 rfl) ?_
              refine ti_get (ci := 1) (k := 1) (N := 4) (T := TX1) (v := .ref (A lw 2)) C hw iw_1 rfl hlw (by decide) (by decide) fl_X1_17 rfl rfl dX1_value_306 ?_
              refine lv_iconst (v := 0) hx hb dX1_value_309 (by decide) ?_
              refine ti_lald (ci := 1) (k := 1) (n := 64) C hw hlw (by decide) (fun _ _ => rfl) (by unfold vp_in; decide) dX1_value_310 ?_
              refine lv_topl (fun x_141 ex_141 => ?_)
              have lzx_141 := lz_1 (i := 0) j_56 ex_141 (by decide) (by have : (0 : Int32).toInt = 0 := (by decide); omega)
              rw [show (0 : Int32).toInt.toNat = 0 by decide] at lzx_141
              have lax_141 := lzx_141.1
              have lbx_141 := lzx_141.2.1
              have lcx_141 := lzx_141.2.2
              refine lv_goto (tgt := 317) hx hb dX1_value_311 (by decide) ?_
              exact hQ _ _ _ _ _ _ hw (⟨iM_49, (f_50), (f_51), (f_52), (by unfold vq; rw [if_neg (by omega), ← pr_1, ← j_57, rn_0 (co := co) (fa := (bq_fa tx rg r_1.toInt ps.toInt)) (f := x_4.toInt.toNat - x_43.toInt.toNat) (i := x_43.toInt.toNat) (t := x_46.toInt.toNat) (st := st_54) (by omega), if_pos (by omega)]; exact lax_141)⟩) dX1_value_317
          · refine lv_aload_n hx hb dX1_value_133 rfl (lv_at hl 3 rfl) ?_
            refine ti_get (ci := 1) (k := 0) (N := 4) (T := TX1) (v := .ref (A lw 1)) C hw iw_1 rfl hlw (by decide) (by decide) fl_X1_11 rfl rfl dX1_value_134 ?_
            refine lv_iload hx hb dX1_value_137 (lv_at hl 0 rfl) ?_
            refine ti_iald (ci := 1) (k := 0) (n := 64) C hw hlw (by decide) (fun _ _ => rfl) (vp_in_iff.mpr (by omega)) dX1_value_139 ?_
            refine lv_topi (fun x_61 ex_61 => ?_)
            have kx_61 : 0 ≤ x_61.toInt ∨ x_61.toInt ≤ -16 := cI_ry iM_49 hlw.1 ex_61
            have kcx_61 : co x_43.toInt.toNat = x_61.toInt := co_y hco (f_52) ex_61 (by omega) (by omega)
            refine lv_istore (lv' := [(7, .int x_61), (6, .int x_43), (5, .int x_46), (4, .int r_1), (0, .ref (A lw 0)), (1, .ref (A q 0)), (2, .int pl), (3, .int ps)]) hx hb dX1_value_140 hl (by decide) rfl (fun ls hl => ?_)
            refine lv_iload hx hb dX1_value_142 (lv_at hl 0 rfl) ?_
            refine lv_bipush (v := (-21)) hx hb dX1_value_144 (by decide) ?_
            refine sb_icmp_lt (tgt := 184) hx hb rfl (by decide : ((-21) : Int32).toInt = (-21)) dX1_value_146 (by decide) (fun c_146_61 => ?_) (fun c_146_61 => ?_)
            · refine lv_iload hx hb dX1_value_184 (lv_at hl 0 rfl) ?_
              refine lv_bipush (v := (-24)) hx hb dX1_value_186 (by decide) ?_
              refine sb_icmp_ne (tgt := 227) hx hb rfl (by decide : ((-24) : Int32).toInt = (-24)) dX1_value_188 (by decide) (fun c_188_75 => ?_) (fun c_188_75 => ?_)
              · refine lv_iload hx hb dX1_value_227 (lv_at hl 2 rfl) ?_
                refine lv_iconst (v := 1) hx hb dX1_value_229 (by decide) ?_
                refine sb_icmp_le (tgt := 293) hx hb rfl (by decide : (1 : Int32).toInt = 1) dX1_value_230 (by decide) (fun c_230_91 => ?_) (fun c_230_91 => ?_)
                · obtain ⟨x_136, ex_136⟩ : ∃ z : Int32, z = x_43 + 1 := ⟨_, rfl⟩
                  have tx_136 : x_136.toInt = x_43.toInt + 1 := i_add ex_136 rfl (by decide) (by omega) (by omega)
                  refine lv_iinc (v := x_136) (lv' := [(6, .int x_136), (7, .int x_61), (5, .int x_46), (4, .int r_1), (0, .ref (A lw 0)), (1, .ref (A q 0)), (2, .int pl), (3, .int ps)]) hx hb dX1_value_293 hl (k := 1) rfl (by rw [ex_136]; rfl) (by decide) rfl (fun ls hl => ?_)
                  refine lv_goto (tgt := 124) hx hb dX1_value_296 (by decide) ?_
                  exact ih_58 x_136 x_46 M_49 st_54 _ _ _ (by omega) (by first | omega | decide) (by first | omega | decide) (by first | omega | decide) (by first | omega | decide) iM_49 (f_50) (f_51) (f_52) hs_53 (by first | omega | decide) j_56 (by have ce : co x_43.toInt.toNat = x_61.toInt := kcx_61; rw [← j_57]; rw [rn_s (co := co) (fa := (bq_fa tx rg r_1.toInt ps.toInt)) (f := x_4.toInt.toNat - x_43.toInt.toNat) (i := x_43.toInt.toNat) (t := x_46.toInt.toNat) (st := st_54) (f' := (x_4.toInt.toNat - x_136.toInt.toNat)) (by omega) ⟨by omega, by omega, by omega⟩, show x_136.toInt.toNat = x_43.toInt.toNat + 1 by omega]) hw (lv_sub hl [0, 2, 3, 4, 5, 6, 7] rfl)
                · obtain ⟨x_94, ex_94⟩ : ∃ z : Int32, z = x_46 + (-1) := ⟨_, rfl⟩
                  have tx_94 : x_94.toInt = x_46.toInt + (-1) := i_add ex_94 rfl (by decide) (by omega) (by omega)
                  refine lv_iinc (v := x_94) (lv' := [(5, .int x_94), (7, .int x_61), (6, .int x_43), (4, .int r_1), (0, .ref (A lw 0)), (1, .ref (A q 0)), (2, .int pl), (3, .int ps)]) hx hb dX1_value_233 hl (k := 2) rfl (by rw [ex_94]; rfl) (by decide) rfl (fun ls hl => ?_)
                  refine lv_iload hx hb dX1_value_236 (lv_at hl 1 rfl) ?_
                  refine lv_ineg hx hb dX1_value_238 ?_
                  refine lv_topi (fun x_95 ex_95 => ?_)
                  refine lv_aload_n hx hb dX1_value_239 rfl (lv_at hl 4 rfl) ?_
                  refine ti_get (ci := 1) (k := 1) (N := 4) (T := TX1) (v := .ref (A lw 2)) C hw iw_1 rfl hlw (by decide) (by decide) fl_X1_17 rfl rfl dX1_value_240 ?_
                  refine lv_iload hx hb dX1_value_243 (lv_at hl 0 rfl) ?_
                  refine lv_iconst (v := 1) hx hb dX1_value_245 (by decide) ?_
                  refine lv_isub hx hb dX1_value_246 ?_
                  refine lv_topi (fun x_96 ex_96 => ?_)
                  have tx_96 : x_96.toInt = x_94.toInt - 1 := i_sub ex_96 rfl (by decide : (1 : Int32).toInt = 1) (by omega) (by omega)
                  refine ti_lald (ci := 1) (k := 1) (n := 64) C hw hlw (by decide) (fun _ _ => rfl) (vp_in_iff.mpr (by omega)) dX1_value_247 ?_
                  refine lv_topl (fun x_97 ex_97 => ?_)
                  have lzx_97 := lz_1 j_56 ex_97 (by omega) (by omega)
                  have lax_97 := lzx_97.1
                  have lbx_97 := lzx_97.2.1
                  have lcx_97 := lzx_97.2.2
                  refine lv_aload_n hx hb dX1_value_248 rfl (lv_at hl 4 rfl) ?_
                  refine ti_get (ci := 1) (k := 1) (N := 4) (T := TX1) (v := .ref (A lw 2)) C hw iw_1 rfl hlw (by decide) (by decide) fl_X1_17 rfl rfl dX1_value_249 ?_
                  refine lv_iload hx hb dX1_value_252 (lv_at hl 0 rfl) ?_
                  refine ti_lald (ci := 1) (k := 1) (n := 64) C hw hlw (by decide) (fun _ _ => rfl) (vp_in_iff.mpr (by omega)) dX1_value_254 ?_
                  refine lv_topl (fun x_98 ex_98 => ?_)
                  have lzx_98 := lz_1 j_56 ex_98 (by omega) (by omega)
                  have lax_98 := lzx_98.1
                  have lbx_98 := lzx_98.2.1
                  have lcx_98 := lzx_98.2.2
                  refine ti_callSl (av := [.int x_95, .long x_97, .long x_98]) C hw (z_X1_work l D A cy hJ M_49 iM_49 x_95 x_97 x_98 (by omega) (by omega) (by omega) (by omega)) ⟨ml_X1_63, ys_X1_work, yi_X1_work, yc_X1_work⟩ yd_X1_work rfl hl.1 (Nat.le_of_ble_eq_true rfl) ⟨by decide, by decide⟩ ⟨Nat.zero_le _, Nat.zero_le _⟩ dX1_value_255 (fun r_99 M_100 H locs hp_100 hw => ?_)
                  obtain ⟨hm, pr_99⟩ := hp_100
                  have hw := hw.to hm
                  refine lv_lstore (lv' := [(8, .long r_99), (5, .int x_94), (7, .int x_61), (6, .int x_43), (4, .int r_1), (0, .ref (A lw 0)), (1, .ref (A q 0)), (2, .int pl), (3, .int ps)]) hx hb dX1_value_258 hl (by decide) rfl (fun ls hl => ?_)
                  refine lv_lload hx hb dX1_value_260 (lv_at hl 0 rfl) ?_
                  refine lv_ldc2 (v := 1000000000000) hx hb C.2.2.2.1 (C.2.2.1 _ cn_X1_67) dX1_value_262 ?_
                  have z_101 : (1000000000000 : Int64).toInt = 1000000000000 := by decide
                  refine W.lcmp hx hb dX1_value_265 ?_
                  refine lv_topi (fun x_102 ex_102 => ?_)
                  have cx_102 := lg_c ex_102
                  refine sb_if_gt (tgt := 278) hx hb rfl dX1_value_266 (by decide) (fun c_266_102 => ?_) (fun c_266_102 => ?_)
                  · refine lv_ldc2 (v := (-9223372036854775808)) hx hb C.2.2.2.1 (C.2.2.1 _ cn_X1_34) dX1_value_278 ?_
                    have z_120 : ((-9223372036854775808) : Int64).toInt = -9223372036854775808 := by decide
                    exact hQ _ _ _ _ _ _ hw (⟨iM_49, (f_50), (f_51), (f_52), (by have ce : co x_43.toInt.toNat = x_61.toInt := kcx_61; have we : bl_w (-(co x_43.toInt.toNat)) (st_54 (x_46.toInt.toNat - 2)) (st_54 (x_46.toInt.toNat - 1)) = r_99.toInt := (by rw [pr_99, bl_wn ex_95, kcx_61, show x_97.toInt = st_54 (x_46.toInt.toNat - 2) by (rw [lax_97]; exact congrArg _ (by omega)), show x_98.toInt = st_54 (x_46.toInt.toNat - 1) by (rw [lax_98]; exact congrArg _ (by omega))]); unfold vq; rw [if_neg (by omega), ← pr_1, ← j_57, rn_x (co := co) (fa := (bq_fa tx rg r_1.toInt ps.toInt)) (f := x_4.toInt.toNat - x_43.toInt.toNat) (i := x_43.toInt.toNat) (t := x_46.toInt.toNat) (st := st_54) (f' := x_4.toInt.toNat - x_43.toInt.toNat - 1) (by omega) ⟨by omega, by omega, by omega⟩ (by rw [we]; omega)]; decide)⟩) dX1_value_281
                  · refine lv_lload hx hb dX1_value_269 (lv_at hl 0 rfl) ?_
                    refine lv_ldc2 (v := (-1000000000000)) hx hb C.2.2.2.1 (C.2.2.1 _ cn_X1_69) dX1_value_271 ?_
                    have z_114 : ((-1000000000000) : Int64).toInt = -1000000000000 := by decide
                    refine W.lcmp hx hb dX1_value_274 ?_
                    refine lv_topi (fun x_115 ex_115 => ?_)
                    have cx_115 := lg_c ex_115
                    refine sb_if_ge (tgt := 282) hx hb rfl dX1_value_275 (by decide) (fun c_275_115 => ?_) (fun c_275_115 => ?_)
                    · refine lv_aload_n hx hb dX1_value_282 rfl (lv_at hl 5 rfl) ?_
                      refine ti_get (ci := 1) (k := 1) (N := 4) (T := TX1) (v := .ref (A lw 2)) C hw iw_1 rfl hlw (by decide) (by decide) fl_X1_17 rfl rfl dX1_value_283 ?_
                      refine lv_iload hx hb dX1_value_286 (lv_at hl 1 rfl) ?_
                      refine lv_iconst (v := 1) hx hb dX1_value_288 (by decide) ?_
                      refine lv_isub hx hb dX1_value_289 ?_
                      refine lv_topi (fun x_124 ex_124 => ?_)
                      have tx_124 : x_124.toInt = x_94.toInt - 1 := i_sub ex_124 rfl (by decide : (1 : Int32).toInt = 1) (by omega) (by omega)
                      refine lv_lload hx hb dX1_value_290 (lv_at hl 0 rfl) ?_
                      refine ti_last (ci := 1) (k := 1) (n := 64) C hw hlw (by decide) (fun _ _ => rfl) (vp_in_iff.mpr (by omega)) dX1_value_292 (fun H locs hw => ?_)
                      obtain ⟨M_125, hM_125⟩ : ∃ z : ti_M, z = uZ M_49 lw 1 (vp_updL (tZ M_49 lw 1) (x_124 : Int32).toNatClampNeg r_99) := ⟨_, rfl⟩
                      have hw := hw.to hM_125.symm
                      have iM_125 : cI Tc M_125 := cI_uZ iM_49 hM_125
                      have hs_126 : qC q rg M_125 := qC_Z hs_53 hM_125
                      have hz_127 : lz lw (bq_fa tx rg r_1.toInt ps.toInt) (pp_su st_54 x_124.toInt.toNat r_99.toInt) x_94.toInt M_125 := lz_up j_56 hM_125 rfl (by omega) rfl ⟨by omega, by omega⟩ (fun j hj => by omega)
                      obtain ⟨x_138, ex_138⟩ : ∃ z : Int32, z = x_43 + 1 := ⟨_, rfl⟩
                      have tx_138 : x_138.toInt = x_43.toInt + 1 := i_add ex_138 rfl (by decide) (by omega) (by omega)
                      refine lv_iinc (v := x_138) (lv' := [(6, .int x_138), (8, .long r_99), (5, .int x_94), (7, .int x_61), (4, .int r_1), (0, .ref (A lw 0)), (1, .ref (A q 0)), (2, .int pl), (3, .int ps)]) hx hb dX1_value_293 hl (k := 3) rfl (by rw [ex_138]; rfl) (by decide) rfl (fun ls hl => ?_)
                      refine lv_goto (tgt := 124) hx hb dX1_value_296 (by decide) ?_
                      exact ih_58 x_138 x_94 M_125 (pp_su st_54 x_124.toInt.toNat r_99.toInt) _ _ _ (by omega) (by first | omega | decide) (by first | omega | decide) (by first | omega | decide) (by first | omega | decide) iM_125 ((rf_Z hM_125).trans f_50) ((ra_Z hM_125).trans f_51) ((ry_Z hM_125).trans f_52) hs_126 (by first | omega | decide) hz_127 (by have ce : co x_43.toInt.toNat = x_61.toInt := kcx_61; rw [← j_57]; have we : bl_w (-(co x_43.toInt.toNat)) (st_54 (x_46.toInt.toNat - 2)) (st_54 (x_46.toInt.toNat - 1)) = r_99.toInt := (by rw [pr_99, bl_wn ex_95, kcx_61, show x_97.toInt = st_54 (x_46.toInt.toNat - 2) by (rw [lax_97]; exact congrArg _ (by omega)), show x_98.toInt = st_54 (x_46.toInt.toNat - 1) by (rw [lax_98]; exact congrArg _ (by omega))]); rw [rn_b (co := co) (fa := (bq_fa tx rg r_1.toInt ps.toInt)) (f := x_4.toInt.toNat - x_43.toInt.toNat) (i := x_43.toInt.toNat) (t := x_46.toInt.toNat) (st := st_54) (f' := (x_4.toInt.toNat - x_138.toInt.toNat)) (by omega) ⟨by omega, by omega, by omega⟩ (by rw [we]; omega), we, show x_46.toInt.toNat - 2 = x_124.toInt.toNat by omega, show x_46.toInt.toNat - 1 = x_94.toInt.toNat by omega, show x_138.toInt.toNat = x_43.toInt.toNat + 1 by omega]) hw (lv_sub hl [0, 2, 4, 5, 6, 7, 8] rfl)
                    · refine lv_ldc2 (v := (-9223372036854775808)) hx hb C.2.2.2.1 (C.2.2.1 _ cn_X1_34) dX1_value_278 ?_
                      have z_122 : ((-9223372036854775808) : Int64).toInt = -9223372036854775808 := by decide
                      exact hQ _ _ _ _ _ _ hw (⟨iM_49, (f_50), (f_51), (f_52), (by have ce : co x_43.toInt.toNat = x_61.toInt := kcx_61; have we : bl_w (-(co x_43.toInt.toNat)) (st_54 (x_46.toInt.toNat - 2)) (st_54 (x_46.toInt.toNat - 1)) = r_99.toInt := (by rw [pr_99, bl_wn ex_95, kcx_61, show x_97.toInt = st_54 (x_46.toInt.toNat - 2) by (rw [lax_97]; exact congrArg _ (by omega)), show x_98.toInt = st_54 (x_46.toInt.toNat - 1) by (rw [lax_98]; exact congrArg _ (by omega))]); unfold vq; rw [if_neg (by omega), ← pr_1, ← j_57, rn_x (co := co) (fa := (bq_fa tx rg r_1.toInt ps.toInt)) (f := x_4.toInt.toNat - x_43.toInt.toNat) (i := x_43.toInt.toNat) (t := x_46.toInt.toNat) (st := st_54) (f' := x_4.toInt.toNat - x_43.toInt.toNat - 1) (by omega) ⟨by omega, by omega, by omega⟩ (by rw [we]; omega)]; decide)⟩) dX1_value_281
              · refine lv_iload hx hb dX1_value_191 (lv_at hl 2 rfl) ?_
                refine sb_if_le (tgt := 227) hx hb rfl dX1_value_193 (by decide) (fun c_193_76 => ?_) (fun c_193_76 => ?_)
                · refine lv_iload hx hb dX1_value_227 (lv_at hl 2 rfl) ?_
                  refine lv_iconst (v := 1) hx hb dX1_value_229 (by decide) ?_
                  refine sb_icmp_le (tgt := 293) hx hb rfl (by decide : (1 : Int32).toInt = 1) dX1_value_230 (by decide) (fun c_230_92 => ?_) (fun c_230_92 => ?_)
                  · obtain ⟨x_137, ex_137⟩ : ∃ z : Int32, z = x_43 + 1 := ⟨_, rfl⟩
                    have tx_137 : x_137.toInt = x_43.toInt + 1 := i_add ex_137 rfl (by decide) (by omega) (by omega)
                    refine lv_iinc (v := x_137) (lv' := [(6, .int x_137), (7, .int x_61), (5, .int x_46), (4, .int r_1), (0, .ref (A lw 0)), (1, .ref (A q 0)), (2, .int pl), (3, .int ps)]) hx hb dX1_value_293 hl (k := 1) rfl (by rw [ex_137]; rfl) (by decide) rfl (fun ls hl => ?_)
                    refine lv_goto (tgt := 124) hx hb dX1_value_296 (by decide) ?_
                    exact ih_58 x_137 x_46 M_49 st_54 _ _ _ (by omega) (by first | omega | decide) (by first | omega | decide) (by first | omega | decide) (by first | omega | decide) iM_49 (f_50) (f_51) (f_52) hs_53 (by first | omega | decide) j_56 (by have ce : co x_43.toInt.toNat = x_61.toInt := kcx_61; rw [← j_57]; rw [rn_s (co := co) (fa := (bq_fa tx rg r_1.toInt ps.toInt)) (f := x_4.toInt.toNat - x_43.toInt.toNat) (i := x_43.toInt.toNat) (t := x_46.toInt.toNat) (st := st_54) (f' := (x_4.toInt.toNat - x_137.toInt.toNat)) (by omega) ⟨by omega, by omega, by omega⟩, show x_137.toInt.toNat = x_43.toInt.toNat + 1 by omega]) hw (lv_sub hl [0, 2, 3, 4, 5, 6, 7] rfl)
                  · obtain ⟨x_104, ex_104⟩ : ∃ z : Int32, z = x_46 + (-1) := ⟨_, rfl⟩
                    have tx_104 : x_104.toInt = x_46.toInt + (-1) := i_add ex_104 rfl (by decide) (by omega) (by omega)
                    refine lv_iinc (v := x_104) (lv' := [(5, .int x_104), (7, .int x_61), (6, .int x_43), (4, .int r_1), (0, .ref (A lw 0)), (1, .ref (A q 0)), (2, .int pl), (3, .int ps)]) hx hb dX1_value_233 hl (k := 2) rfl (by rw [ex_104]; rfl) (by decide) rfl (fun ls hl => ?_)
                    refine lv_iload hx hb dX1_value_236 (lv_at hl 1 rfl) ?_
                    refine lv_ineg hx hb dX1_value_238 ?_
                    refine lv_topi (fun x_105 ex_105 => ?_)
                    refine lv_aload_n hx hb dX1_value_239 rfl (lv_at hl 4 rfl) ?_
                    refine ti_get (ci := 1) (k := 1) (N := 4) (T := TX1) (v := .ref (A lw 2)) C hw iw_1 rfl hlw (by decide) (by decide) fl_X1_17 rfl rfl dX1_value_240 ?_
                    refine lv_iload hx hb dX1_value_243 (lv_at hl 0 rfl) ?_
                    refine lv_iconst (v := 1) hx hb dX1_value_245 (by decide) ?_
                    refine lv_isub hx hb dX1_value_246 ?_
                    refine lv_topi (fun x_106 ex_106 => ?_)
                    have tx_106 : x_106.toInt = x_104.toInt - 1 := i_sub ex_106 rfl (by decide : (1 : Int32).toInt = 1) (by omega) (by omega)
                    refine ti_lald (ci := 1) (k := 1) (n := 64) C hw hlw (by decide) (fun _ _ => rfl) (vp_in_iff.mpr (by omega)) dX1_value_247 ?_
                    refine lv_topl (fun x_107 ex_107 => ?_)
                    have lzx_107 := lz_1 j_56 ex_107 (by omega) (by omega)
                    have lax_107 := lzx_107.1
                    have lbx_107 := lzx_107.2.1
                    have lcx_107 := lzx_107.2.2
                    refine lv_aload_n hx hb dX1_value_248 rfl (lv_at hl 4 rfl) ?_
                    refine ti_get (ci := 1) (k := 1) (N := 4) (T := TX1) (v := .ref (A lw 2)) C hw iw_1 rfl hlw (by decide) (by decide) fl_X1_17 rfl rfl dX1_value_249 ?_
                    refine lv_iload hx hb dX1_value_252 (lv_at hl 0 rfl) ?_
                    refine ti_lald (ci := 1) (k := 1) (n := 64) C hw hlw (by decide) (fun _ _ => rfl) (vp_in_iff.mpr (by omega)) dX1_value_254 ?_
                    refine lv_topl (fun x_108 ex_108 => ?_)
                    have lzx_108 := lz_1 j_56 ex_108 (by omega) (by omega)
                    have lax_108 := lzx_108.1
                    have lbx_108 := lzx_108.2.1
                    have lcx_108 := lzx_108.2.2
                    refine ti_callSl (av := [.int x_105, .long x_107, .long x_108]) C hw (z_X1_work l D A cy hJ M_49 iM_49 x_105 x_107 x_108 (by omega) (by omega) (by omega) (by omega)) ⟨ml_X1_63, ys_X1_work, yi_X1_work, yc_X1_work⟩ yd_X1_work rfl hl.1 (Nat.le_of_ble_eq_true rfl) ⟨by decide, by decide⟩ ⟨Nat.zero_le _, Nat.zero_le _⟩ dX1_value_255 (fun r_109 M_110 H locs hp_110 hw => ?_)
                    obtain ⟨hm, pr_109⟩ := hp_110
                    have hw := hw.to hm
                    refine lv_lstore (lv' := [(8, .long r_109), (5, .int x_104), (7, .int x_61), (6, .int x_43), (4, .int r_1), (0, .ref (A lw 0)), (1, .ref (A q 0)), (2, .int pl), (3, .int ps)]) hx hb dX1_value_258 hl (by decide) rfl (fun ls hl => ?_)
                    refine lv_lload hx hb dX1_value_260 (lv_at hl 0 rfl) ?_
                    refine lv_ldc2 (v := 1000000000000) hx hb C.2.2.2.1 (C.2.2.1 _ cn_X1_67) dX1_value_262 ?_
                    have z_111 : (1000000000000 : Int64).toInt = 1000000000000 := by decide
                    refine W.lcmp hx hb dX1_value_265 ?_
                    refine lv_topi (fun x_112 ex_112 => ?_)
                    have cx_112 := lg_c ex_112
                    refine sb_if_gt (tgt := 278) hx hb rfl dX1_value_266 (by decide) (fun c_266_112 => ?_) (fun c_266_112 => ?_)
                    · refine lv_ldc2 (v := (-9223372036854775808)) hx hb C.2.2.2.1 (C.2.2.1 _ cn_X1_34) dX1_value_278 ?_
                      have z_121 : ((-9223372036854775808) : Int64).toInt = -9223372036854775808 := by decide
                      exact hQ _ _ _ _ _ _ hw (⟨iM_49, (f_50), (f_51), (f_52), (by have ce : co x_43.toInt.toNat = x_61.toInt := kcx_61; have we : bl_w (-(co x_43.toInt.toNat)) (st_54 (x_46.toInt.toNat - 2)) (st_54 (x_46.toInt.toNat - 1)) = r_109.toInt := (by rw [pr_109, bl_wn ex_105, kcx_61, show x_107.toInt = st_54 (x_46.toInt.toNat - 2) by (rw [lax_107]; exact congrArg _ (by omega)), show x_108.toInt = st_54 (x_46.toInt.toNat - 1) by (rw [lax_108]; exact congrArg _ (by omega))]); unfold vq; rw [if_neg (by omega), ← pr_1, ← j_57, rn_x (co := co) (fa := (bq_fa tx rg r_1.toInt ps.toInt)) (f := x_4.toInt.toNat - x_43.toInt.toNat) (i := x_43.toInt.toNat) (t := x_46.toInt.toNat) (st := st_54) (f' := x_4.toInt.toNat - x_43.toInt.toNat - 1) (by omega) ⟨by omega, by omega, by omega⟩ (by rw [we]; omega)]; decide)⟩) dX1_value_281
                    · refine lv_lload hx hb dX1_value_269 (lv_at hl 0 rfl) ?_
                      refine lv_ldc2 (v := (-1000000000000)) hx hb C.2.2.2.1 (C.2.2.1 _ cn_X1_69) dX1_value_271 ?_
                      have z_117 : ((-1000000000000) : Int64).toInt = -1000000000000 := by decide
                      refine W.lcmp hx hb dX1_value_274 ?_
                      refine lv_topi (fun x_118 ex_118 => ?_)
                      have cx_118 := lg_c ex_118
                      refine sb_if_ge (tgt := 282) hx hb rfl dX1_value_275 (by decide) (fun c_275_118 => ?_) (fun c_275_118 => ?_)
                      · refine lv_aload_n hx hb dX1_value_282 rfl (lv_at hl 5 rfl) ?_
                        refine ti_get (ci := 1) (k := 1) (N := 4) (T := TX1) (v := .ref (A lw 2)) C hw iw_1 rfl hlw (by decide) (by decide) fl_X1_17 rfl rfl dX1_value_283 ?_
                        refine lv_iload hx hb dX1_value_286 (lv_at hl 1 rfl) ?_
                        refine lv_iconst (v := 1) hx hb dX1_value_288 (by decide) ?_
                        refine lv_isub hx hb dX1_value_289 ?_
                        refine lv_topi (fun x_128 ex_128 => ?_)
                        have tx_128 : x_128.toInt = x_104.toInt - 1 := i_sub ex_128 rfl (by decide : (1 : Int32).toInt = 1) (by omega) (by omega)
                        refine lv_lload hx hb dX1_value_290 (lv_at hl 0 rfl) ?_
                        refine ti_last (ci := 1) (k := 1) (n := 64) C hw hlw (by decide) (fun _ _ => rfl) (vp_in_iff.mpr (by omega)) dX1_value_292 (fun H locs hw => ?_)
                        obtain ⟨M_129, hM_129⟩ : ∃ z : ti_M, z = uZ M_49 lw 1 (vp_updL (tZ M_49 lw 1) (x_128 : Int32).toNatClampNeg r_109) := ⟨_, rfl⟩
                        have hw := hw.to hM_129.symm
                        have iM_129 : cI Tc M_129 := cI_uZ iM_49 hM_129
                        have hs_130 : qC q rg M_129 := qC_Z hs_53 hM_129
                        have hz_131 : lz lw (bq_fa tx rg r_1.toInt ps.toInt) (pp_su st_54 x_128.toInt.toNat r_109.toInt) x_104.toInt M_129 := lz_up j_56 hM_129 rfl (by omega) rfl ⟨by omega, by omega⟩ (fun j hj => by omega)
                        obtain ⟨x_139, ex_139⟩ : ∃ z : Int32, z = x_43 + 1 := ⟨_, rfl⟩
                        have tx_139 : x_139.toInt = x_43.toInt + 1 := i_add ex_139 rfl (by decide) (by omega) (by omega)
                        refine lv_iinc (v := x_139) (lv' := [(6, .int x_139), (8, .long r_109), (5, .int x_104), (7, .int x_61), (4, .int r_1), (0, .ref (A lw 0)), (1, .ref (A q 0)), (2, .int pl), (3, .int ps)]) hx hb dX1_value_293 hl (k := 3) rfl (by rw [ex_139]; rfl) (by decide) rfl (fun ls hl => ?_)
                        refine lv_goto (tgt := 124) hx hb dX1_value_296 (by decide) ?_
                        exact ih_58 x_139 x_104 M_129 (pp_su st_54 x_128.toInt.toNat r_109.toInt) _ _ _ (by omega) (by first | omega | decide) (by first | omega | decide) (by first | omega | decide) (by first | omega | decide) iM_129 ((rf_Z hM_129).trans f_50) ((ra_Z hM_129).trans f_51) ((ry_Z hM_129).trans f_52) hs_130 (by first | omega | decide) hz_131 (by have ce : co x_43.toInt.toNat = x_61.toInt := kcx_61; rw [← j_57]; have we : bl_w (-(co x_43.toInt.toNat)) (st_54 (x_46.toInt.toNat - 2)) (st_54 (x_46.toInt.toNat - 1)) = r_109.toInt := (by rw [pr_109, bl_wn ex_105, kcx_61, show x_107.toInt = st_54 (x_46.toInt.toNat - 2) by (rw [lax_107]; exact congrArg _ (by omega)), show x_108.toInt = st_54 (x_46.toInt.toNat - 1) by (rw [lax_108]; exact congrArg _ (by omega))]); rw [rn_b (co := co) (fa := (bq_fa tx rg r_1.toInt ps.toInt)) (f := x_4.toInt.toNat - x_43.toInt.toNat) (i := x_43.toInt.toNat) (t := x_46.toInt.toNat) (st := st_54) (f' := (x_4.toInt.toNat - x_139.toInt.toNat)) (by omega) ⟨by omega, by omega, by omega⟩ (by rw [we]; omega), we, show x_46.toInt.toNat - 2 = x_128.toInt.toNat by omega, show x_46.toInt.toNat - 1 = x_104.toInt.toNat by omega, show x_139.toInt.toNat = x_43.toInt.toNat + 1 by omega]) hw (lv_sub hl [0, 2, 4, 5, 6, 7, 8] rfl)
                      · refine lv_ldc2 (v := (-9223372036854775808)) hx hb C.2.2.2.1 (C.2.2.1 _ cn_X1_34) dX1_value_278 ?_
                        have z_123 : ((-9223372036854775808) : Int64).toInt = -9223372036854775808 := by decide
                        exact hQ _ _ _ _ _ _ hw (⟨iM_49, (f_50), (f_51), (f_52), (by have ce : co x_43.toInt.toNat = x_61.toInt := kcx_61; have we : bl_w (-(co x_43.toInt.toNat)) (st_54 (x_46.toInt.toNat - 2)) (st_54 (x_46.toInt.toNat - 1)) = r_109.toInt := (by rw [pr_109, bl_wn ex_105, kcx_61, show x_107.toInt = st_54 (x_46.toInt.toNat - 2) by (rw [lax_107]; exact congrArg _ (by omega)), show x_108.toInt = st_54 (x_46.toInt.toNat - 1) by (rw [lax_108]; exact congrArg _ (by omega))]); unfold vq; rw [if_neg (by omega), ← pr_1, ← j_57, rn_x (co := co) (fa := (bq_fa tx rg r_1.toInt ps.toInt)) (f := x_4.toInt.toNat - x_43.toInt.toNat) (i := x_43.toInt.toNat) (t := x_46.toInt.toNat) (st := st_54) (f' := x_4.toInt.toNat - x_43.toInt.toNat - 1) (by omega) ⟨by omega, by omega, by omega⟩ (by rw [we]; omega)]; decide)⟩) dX1_value_281
                · refine lv_aload_n hx hb dX1_value_196 rfl (lv_at hl 4 rfl) ?_
                  refine ti_get (ci := 1) (k := 1) (N := 4) (T := TX1) (v := .ref (A lw 2)) C hw iw_1 rfl hlw (by decide) (by decide) fl_X1_17 rfl rfl dX1_value_197 ?_
                  refine lv_iload hx hb dX1_value_200 (lv_at hl 2 rfl) ?_
                  refine lv_iconst (v := 1) hx hb dX1_value_202 (by decide) ?_
                  refine lv_isub hx hb dX1_value_203 ?_
                  refine lv_topi (fun x_78 ex_78 => ?_)
                  have tx_78 : x_78.toInt = x_46.toInt - 1 := i_sub ex_78 rfl (by decide : (1 : Int32).toInt = 1) (by omega) (by omega)
                  refine lv_aload_n hx hb dX1_value_204 rfl (lv_at hl 4 rfl) ?_
                  refine ti_get (ci := 1) (k := 1) (N := 4) (T := TX1) (v := .ref (A lw 2)) C hw iw_1 rfl hlw (by decide) (by decide) fl_X1_17 rfl rfl dX1_value_205 ?_
                  refine lv_iload hx hb dX1_value_208 (lv_at hl 2 rfl) ?_
                  refine lv_iconst (v := 1) hx hb dX1_value_210 (by decide) ?_
                  refine lv_isub hx hb dX1_value_211 ?_
                  refine lv_topi (fun x_79 ex_79 => ?_)
                  have tx_79 : x_79.toInt = x_46.toInt - 1 := i_sub ex_79 rfl (by decide : (1 : Int32).toInt = 1) (by omega) (by omega)
                  refine ti_lald (ci := 1) (k := 1) (n := 64) C hw hlw (by decide) (fun _ _ => rfl) (vp_in_iff.mpr (by omega)) dX1_value_212 ?_
                  refine lv_topl (fun x_80 ex_80 => ?_)
                  have lzx_80 := lz_1 j_56 ex_80 (by omega) (by omega)
                  have lax_80 := lzx_80.1
                  have lbx_80 := lzx_80.2.1
                  have lcx_80 := lzx_80.2.2
                  refine lv_lconst (v := 0) hx hb dX1_value_213 (by decide) ?_
                  have z_81 : (0 : Int64).toInt = 0 := by decide
                  refine W.lcmp hx hb dX1_value_214 ?_
                  refine lv_topi (fun x_82 ex_82 => ?_)
                  have cx_82 := lg_c ex_82
                  refine sb_if_ne (tgt := 222) hx hb rfl dX1_value_215 (by decide) (fun c_215_82 => ?_) (fun c_215_82 => ?_)
                  · refine lv_lconst (v := 0) hx hb dX1_value_222 (by decide) ?_
                    have z_85 : (0 : Int64).toInt = 0 := by decide
                    refine ti_last (ci := 1) (k := 1) (n := 64) C hw hlw (by decide) (fun _ _ => rfl) (vp_in_iff.mpr (by omega)) dX1_value_223 (fun H locs hw => ?_)
                    obtain ⟨M_89, hM_89⟩ : ∃ z : ti_M, z = uZ M_49 lw 1 (vp_updL (tZ M_49 lw 1) (x_78 : Int32).toNatClampNeg 0) := ⟨_, rfl⟩
                    have hw := hw.to hM_89.symm
                    have iM_89 : cI Tc M_89 := cI_uZ iM_49 hM_89
                    have hs_90 : qC q rg M_89 := qC_Z hs_53 hM_89
                    have hz_91 : lz lw (bq_fa tx rg r_1.toInt ps.toInt) (pp_su st_54 x_78.toInt.toNat ((0 : Int64).toInt)) x_46.toInt M_89 := lz_up j_56 hM_89 rfl (by omega) rfl ⟨by omega, by omega⟩ (fun j hj => by omega)
                    refine lv_goto (tgt := 293) hx hb dX1_value_224 (by decide) ?_
                    obtain ⟨x_135, ex_135⟩ : ∃ z : Int32, z = x_43 + 1 := ⟨_, rfl⟩
                    have tx_135 : x_135.toInt = x_43.toInt + 1 := i_add ex_135 rfl (by decide) (by omega) (by omega)
                    refine lv_iinc (v := x_135) (lv' := [(6, .int x_135), (7, .int x_61), (5, .int x_46), (4, .int r_1), (0, .ref (A lw 0)), (1, .ref (A q 0)), (2, .int pl), (3, .int ps)]) hx hb dX1_value_293 hl (k := 1) rfl (by rw [ex_135]; rfl) (by decide) rfl (fun ls hl => ?_)
                    refine lv_goto (tgt := 124) hx hb dX1_value_296 (by decide) ?_
                    exact ih_58 x_135 x_46 M_89 (pp_su st_54 x_78.toInt.toNat ((0 : Int64).toInt)) _ _ _ (by omega) (by first | omega | decide) (by first | omega | decide) (by first | omega | decide) (by first | omega | decide) iM_89 ((rf_Z hM_89).trans f_50) ((ra_Z hM_89).trans f_51) ((ry_Z hM_89).trans f_52) hs_90 (by first | omega | decide) hz_91 (by have ce : co x_43.toInt.toNat = x_61.toInt := kcx_61; rw [← j_57]; have q7 : st_54 x_78.toInt.toNat = x_80.toInt := (by rw [lax_80]; exact congrArg _ (by omega)); rw [rn_n (co := co) (fa := (bq_fa tx rg r_1.toInt ps.toInt)) (f := x_4.toInt.toNat - x_43.toInt.toNat) (i := x_43.toInt.toNat) (t := x_46.toInt.toNat) (st := st_54) (f' := (x_4.toInt.toNat - x_135.toInt.toNat)) (by omega) ⟨by omega, by omega⟩, show x_46.toInt.toNat - 1 = x_78.toInt.toNat by omega, q7, if_neg (by omega), show (0 : Int64).toInt = 0 by decide, show x_135.toInt.toNat = x_43.toInt.toNat + 1 by omega]) hw (lv_sub hl [0, 2, 3, 4, 5, 6, 7] rfl)
                  · refine lv_lconst (v := 1) hx hb dX1_value_218 (by decide) ?_
                    have z_84 : (1 : Int64).toInt = 1 := by decide
                    refine lv_goto (tgt := 223) hx hb dX1_value_219 (by decide) ?_
                    refine ti_last (ci := 1) (k := 1) (n := 64) C hw hlw (by decide) (fun _ _ => rfl) (vp_in_iff.mpr (by omega)) dX1_value_223 (fun H locs hw => ?_)
                    obtain ⟨M_86, hM_86⟩ : ∃ z : ti_M, z = uZ M_49 lw 1 (vp_updL (tZ M_49 lw 1) (x_78 : Int32).toNatClampNeg 1) := ⟨_, rfl⟩
                    have hw := hw.to hM_86.symm
                    have iM_86 : cI Tc M_86 := cI_uZ iM_49 hM_86
                    have hs_87 : qC q rg M_86 := qC_Z hs_53 hM_86
                    have hz_88 : lz lw (bq_fa tx rg r_1.toInt ps.toInt) (pp_su st_54 x_78.toInt.toNat ((1 : Int64).toInt)) x_46.toInt M_86 := lz_up j_56 hM_86 rfl (by omega) rfl ⟨by omega, by omega⟩ (fun j hj => by omega)
                    refine lv_goto (tgt := 293) hx hb dX1_value_224 (by decide) ?_
                    obtain ⟨x_134, ex_134⟩ : ∃ z : Int32, z = x_43 + 1 := ⟨_, rfl⟩
                    have tx_134 : x_134.toInt = x_43.toInt + 1 := i_add ex_134 rfl (by decide) (by omega) (by omega)
                    refine lv_iinc (v := x_134) (lv' := [(6, .int x_134), (7, .int x_61), (5, .int x_46), (4, .int r_1), (0, .ref (A lw 0)), (1, .ref (A q 0)), (2, .int pl), (3, .int ps)]) hx hb dX1_value_293 hl (k := 1) rfl (by rw [ex_134]; rfl) (by decide) rfl (fun ls hl => ?_)
                    refine lv_goto (tgt := 124) hx hb dX1_value_296 (by decide) ?_
                    exact ih_58 x_134 x_46 M_86 (pp_su st_54 x_78.toInt.toNat ((1 : Int64).toInt)) _ _ _ (by omega) (by first | omega | decide) (by first | omega | decide) (by first | omega | decide) (by first | omega | decide) iM_86 ((rf_Z hM_86).trans f_50) ((ra_Z hM_86).trans f_51) ((ry_Z hM_86).trans f_52) hs_87 (by first | omega | decide) hz_88 (by have ce : co x_43.toInt.toNat = x_61.toInt := kcx_61; rw [← j_57]; have q7 : st_54 x_78.toInt.toNat = x_80.toInt := (by rw [lax_80]; exact congrArg _ (by omega)); rw [rn_n (co := co) (fa := (bq_fa tx rg r_1.toInt ps.toInt)) (f := x_4.toInt.toNat - x_43.toInt.toNat) (i := x_43.toInt.toNat) (t := x_46.toInt.toNat) (st := st_54) (f' := (x_4.toInt.toNat - x_134.toInt.toNat)) (by omega) ⟨by omega, by omega⟩, show x_46.toInt.toNat - 1 = x_78.toInt.toNat by omega, q7, if_pos (by omega), show (1 : Int64).toInt = 1 by decide, show x_134.toInt.toNat = x_43.toInt.toNat + 1 by omega]) hw (lv_sub hl [0, 2, 3, 4, 5, 6, 7] rfl)
            · refine lv_aload_n hx hb dX1_value_149 rfl (lv_at hl 4 rfl) ?_
              refine ti_get (ci := 1) (k := 1) (N := 4) (T := TX1) (v := .ref (A lw 2)) C hw iw_1 rfl hlw (by decide) (by decide) fl_X1_17 rfl rfl dX1_value_150 ?_
              refine lv_iload hx hb dX1_value_153 (lv_at hl 2 rfl) ?_
              refine lv_iload hx hb dX1_value_155 (lv_at hl 0 rfl) ?_
              refine sb_if_lt (tgt := 166) hx hb rfl dX1_value_157 (by decide) (fun c_157_62 => ?_) (fun c_157_62 => ?_)
              · refine lv_aload_n hx hb dX1_value_166 rfl (lv_at hl 4 rfl) ?_
                refine ti_get (ci := 1) (k := 2) (N := 4) (T := TX1) (v := .ref (A lw 3)) C hw iw_1 rfl hlw (by decide) (by decide) fl_X1_21 rfl rfl dX1_value_167 ?_
                refine lv_iload hx hb dX1_value_170 (lv_at hl 0 rfl) ?_
                refine lv_ineg hx hb dX1_value_172 ?_
                refine lv_topi (fun x_65 ex_65 => ?_)
                have tx_65 : x_65.toInt = -x_61.toInt := i_neg ex_65 rfl (by omega)
                refine lv_bipush (v := 16) hx hb dX1_value_173 (by decide) ?_
                refine lv_isub hx hb dX1_value_175 ?_
                refine lv_topi (fun x_66 ex_66 => ?_)
                have lox_66x_65 := x_65.le_toInt
                have hix_66x_65 := x_65.toInt_lt
                have tx_66 : x_66.toInt = x_65.toInt - 16 := i_sub ex_66 rfl (by decide : (16 : Int32).toInt = 16) (by omega) (by omega)
                refine ti_lald (ci := 1) (k := 2) (n := 6) C hw hlw (by decide) (fun _ _ => rfl) (vp_in_iff.mpr (by omega)) dX1_value_176 ?_
                refine lv_topl (fun x_67 ex_67 => ?_)
                have lzx_67 := lz_2 j_56 ex_67 (by omega) (by omega)
                have lax_67 := lzx_67.1
                have lbx_67 := lzx_67.2.1
                have lcx_67 := lzx_67.2.2
                refine ti_last (ci := 1) (k := 1) (n := 64) C hw hlw (by decide) (fun _ _ => rfl) (vp_in_iff.mpr (by omega)) dX1_value_177 (fun H locs hw => ?_)
                obtain ⟨M_72, hM_72⟩ : ∃ z : ti_M, z = uZ M_49 lw 1 (vp_updL (tZ M_49 lw 1) (x_46 : Int32).toNatClampNeg x_67) := ⟨_, rfl⟩
                have hw := hw.to hM_72.symm
                have iM_72 : cI Tc M_72 := cI_uZ iM_49 hM_72
                have hs_73 : qC q rg M_72 := qC_Z hs_53 hM_72
                have hz_74 : lz lw (bq_fa tx rg r_1.toInt ps.toInt) (pp_su st_54 x_46.toInt.toNat x_67.toInt) (x_46.toInt + 1) M_72 := lz_up j_56 hM_72 rfl (by omega) rfl ⟨by omega, by omega⟩ (fun j hj => by omega)
                obtain ⟨x_75, ex_75⟩ : ∃ z : Int32, z = x_46 + 1 := ⟨_, rfl⟩
                have tx_75 : x_75.toInt = x_46.toInt + 1 := i_add ex_75 rfl (by decide) (by omega) (by omega)
                refine lv_iinc (v := x_75) (lv' := [(5, .int x_75), (7, .int x_61), (6, .int x_43), (4, .int r_1), (0, .ref (A lw 0)), (1, .ref (A q 0)), (2, .int pl), (3, .int ps)]) hx hb dX1_value_178 hl (k := 2) rfl (by rw [ex_75]; rfl) (by decide) rfl (fun ls hl => ?_)
                refine lv_goto (tgt := 293) hx hb dX1_value_181 (by decide) ?_
                obtain ⟨x_133, ex_133⟩ : ∃ z : Int32, z = x_43 + 1 := ⟨_, rfl⟩
                have tx_133 : x_133.toInt = x_43.toInt + 1 := i_add ex_133 rfl (by decide) (by omega) (by omega)
                refine lv_iinc (v := x_133) (lv' := [(6, .int x_133), (5, .int x_75), (7, .int x_61), (4, .int r_1), (0, .ref (A lw 0)), (1, .ref (A q 0)), (2, .int pl), (3, .int ps)]) hx hb dX1_value_293 hl (k := 2) rfl (by rw [ex_133]; rfl) (by decide) rfl (fun ls hl => ?_)
                refine lv_goto (tgt := 124) hx hb dX1_value_296 (by decide) ?_
                exact ih_58 x_133 x_75 M_72 (pp_su st_54 x_46.toInt.toNat x_67.toInt) _ _ _ (by omega) (by first | omega | decide) (by first | omega | decide) (by first | omega | decide) (by first | omega | decide) iM_72 ((rf_Z hM_72).trans f_50) ((ra_Z hM_72).trans f_51) ((ry_Z hM_72).trans f_52) hs_73 (by first | omega | decide) (by have q := hz_74; rw [← tx_75] at q; exact q) (by have ce : co x_43.toInt.toNat = x_61.toInt := kcx_61; rw [← j_57]; rw [rn_p (co := co) (fa := (bq_fa tx rg r_1.toInt ps.toInt)) (f := x_4.toInt.toNat - x_43.toInt.toNat) (i := x_43.toInt.toNat) (t := x_46.toInt.toNat) (st := st_54) (f' := (x_4.toInt.toNat - x_133.toInt.toNat)) (by omega) (by omega), show (if 0 ≤ co x_43.toInt.toNat then co x_43.toInt.toNat else (bq_fa tx rg r_1.toInt ps.toInt) (-(co x_43.toInt.toNat) - 16).toNat) = x_67.toInt from (by rw [if_neg (by omega), show (-(co x_43.toInt.toNat) - 16).toNat = x_66.toInt.toNat by omega]; omega), show x_133.toInt.toNat = x_43.toInt.toNat + 1 by omega, show x_75.toInt.toNat = x_46.toInt.toNat + 1 by omega]) hw (lv_sub hl [0, 1, 3, 4, 5, 6, 7] rfl)
              · refine lv_iload hx hb dX1_value_160 (lv_at hl 0 rfl) ?_
                obtain ⟨x_64, ex_64⟩ : ∃ z : Int64, z = x_61.toInt64 := ⟨_, rfl⟩
                refine lv_i2l (v := x_64) hx hb dX1_value_162 ex_64.symm ?_
                have tx_64 : x_64.toInt = x_61.toInt := by rw [ex_64, Int32.toInt_toInt64]
                have lox_64 := (x_61 : Int32).le_toInt
                have hix_64 := (x_61 : Int32).toInt_lt
                refine lv_goto (tgt := 177) hx hb dX1_value_163 (by decide) ?_
                refine ti_last (ci := 1) (k := 1) (n := 64) C hw hlw (by decide) (fun _ _ => rfl) (vp_in_iff.mpr (by omega)) dX1_value_177 (fun H locs hw => ?_)
                obtain ⟨M_68, hM_68⟩ : ∃ z : ti_M, z = uZ M_49 lw 1 (vp_updL (tZ M_49 lw 1) (x_46 : Int32).toNatClampNeg x_64) := ⟨_, rfl⟩
                have hw := hw.to hM_68.symm
                have iM_68 : cI Tc M_68 := cI_uZ iM_49 hM_68
                have hs_69 : qC q rg M_68 := qC_Z hs_53 hM_68
                have hz_70 : lz lw (bq_fa tx rg r_1.toInt ps.toInt) (pp_su st_54 x_46.toInt.toNat x_64.toInt) (x_46.toInt + 1) M_68 := lz_up j_56 hM_68 rfl (by omega) rfl ⟨by omega, by omega⟩ (fun j hj => by omega)
                obtain ⟨x_71, ex_71⟩ : ∃ z : Int32, z = x_46 + 1 := ⟨_, rfl⟩
                have tx_71 : x_71.toInt = x_46.toInt + 1 := i_add ex_71 rfl (by decide) (by omega) (by omega)
                refine lv_iinc (v := x_71) (lv' := [(5, .int x_71), (7, .int x_61), (6, .int x_43), (4, .int r_1), (0, .ref (A lw 0)), (1, .ref (A q 0)), (2, .int pl), (3, .int ps)]) hx hb dX1_value_178 hl (k := 2) rfl (by rw [ex_71]; rfl) (by decide) rfl (fun ls hl => ?_)
                refine lv_goto (tgt := 293) hx hb dX1_value_181 (by decide) ?_
                obtain ⟨x_132, ex_132⟩ : ∃ z : Int32, z = x_43 + 1 := ⟨_, rfl⟩
                have tx_132 : x_132.toInt = x_43.toInt + 1 := i_add ex_132 rfl (by decide) (by omega) (by omega)
                refine lv_iinc (v := x_132) (lv' := [(6, .int x_132), (5, .int x_71), (7, .int x_61), (4, .int r_1), (0, .ref (A lw 0)), (1, .ref (A q 0)), (2, .int pl), (3, .int ps)]) hx hb dX1_value_293 hl (k := 2) rfl (by rw [ex_132]; rfl) (by decide) rfl (fun ls hl => ?_)
                refine lv_goto (tgt := 124) hx hb dX1_value_296 (by decide) ?_
                exact ih_58 x_132 x_71 M_68 (pp_su st_54 x_46.toInt.toNat x_64.toInt) _ _ _ (by omega) (by first | omega | decide) (by first | omega | decide) (by first | omega | decide) (by first | omega | decide) iM_68 ((rf_Z hM_68).trans f_50) ((ra_Z hM_68).trans f_51) ((ry_Z hM_68).trans f_52) hs_69 (by first | omega | decide) (by have q := hz_70; rw [← tx_71] at q; exact q) (by have ce : co x_43.toInt.toNat = x_61.toInt := kcx_61; rw [← j_57]; rw [rn_p (co := co) (fa := (bq_fa tx rg r_1.toInt ps.toInt)) (f := x_4.toInt.toNat - x_43.toInt.toNat) (i := x_43.toInt.toNat) (t := x_46.toInt.toNat) (st := st_54) (f' := (x_4.toInt.toNat - x_132.toInt.toNat)) (by omega) (by omega), show (if 0 ≤ co x_43.toInt.toNat then co x_43.toInt.toNat else (bq_fa tx rg r_1.toInt ps.toInt) (-(co x_43.toInt.toNat) - 16).toNat) = x_64.toInt from (by rw [if_pos (by omega)]; omega), show x_132.toInt.toNat = x_43.toInt.toNat + 1 by omega, show x_71.toInt.toNat = x_46.toInt.toNat + 1 by omega]) hw (lv_sub hl [0, 1, 3, 4, 5, 6, 7] rfl)
      exact hl_124_57 ((64 - 0 : Int).toNat + 1) 0 0 M_40 (fun _ => 0) _ _ _ (Nat.lt_succ_self _) (by have lt0 : (0 : Int32).toInt = 0 := (by decide); first | omega | decide) (by have lt0 : (0 : Int32).toInt = 0 := (by decide); first | omega | decide) (by have lt0 : (0 : Int32).toInt = 0 := (by decide); first | omega | decide) (by have lt0 : (0 : Int32).toInt = 0 := (by decide); first | omega | decide) iM_40 ((rf_Z hM_40).trans ((rf_Z hM_34).trans ((rf_Z hM_30).trans ((rf_Z hM_24).trans ((rf_Z hM_18).trans (rf_Z hM_12)))))) ((ra_Z hM_40).trans ((ra_Z hM_34).trans ((ra_Z hM_30).trans ((ra_Z hM_24).trans ((ra_Z hM_18).trans (ra_Z hM_12)))))) ((ry_Z hM_40).trans ((ry_Z hM_34).trans ((ry_Z hM_30).trans ((ry_Z hM_24).trans ((ry_Z hM_18).trans (ry_Z hM_12)))))) hs_41 (by have lt0 : (0 : Int32).toInt = 0 := (by decide); first | omega | decide) ⟨hF_42, fun j hj => absurd hj (by have : (0 : Int32).toInt = 0 := (by decide); omega)⟩ (by rw [ll]; rfl) hw (lv_sub hl [0, 1, 2, 3, 4, 5, 6] rfl)
    · refine lv_ldc2 (v := (-9223372036854775808)) hx hb C.2.2.2.1 (C.2.2.1 _ cn_X1_34) dX1_value_19 ?_
      have z_7 : ((-9223372036854775808) : Int64).toInt = -9223372036854775808 := by decide
      exact hQ _ _ _ _ _ _ hw (⟨hI, rfl, rfl, rfl, (by unfold vq; rw [if_pos (by omega)]; decide)⟩) dX1_value_22
end
section
variable {Tc : gC} {Tm : gM}
set_option maxHeartbeats 4000000 in
set_option maxRecDepth 100000 in
theorem z_X3_put (l : Launch) (D : va_G) (A : Nat → Nat → Nat) (cy : Nat → ClassId) (hJ : ti_inj ti_LT A) (M : ti_M) (hI : cI Tc M) (a : Int64) (b1 b2 b3 : Int32) (hb : b1.toInt ≤ b2.toInt) : ti_Ki l yX3_put cX3_put 5 (some .int) 1 ti_LT D A cy M [.long a, .int b1, .int b2, .int b3] (fun r M2 => M2 = M ∧ r.toInt = bq_pt a.toInt b1.toInt b2.toInt b3.toInt) := by
  refine ti_eI yp_X3_put hJ ti_LT_nd (Nat.le_of_ble_eq_true rfl) ?_
  intro p e s m args below meth c Q H0 C hQ hw ls hl
  have hx := C.1
  have hb := C.2.1
  have hl : lv_has ls 5 [(0, .long a), (2, .int b1), (3, .int b2), (4, .int b3)] := hl
  have er : bl_ER = -9223372036854775808 := rfl
  refine lv_lload_n hx hb dX3_put_0 rfl (lv_at hl 0 rfl) ?_
  refine lv_ldc2 (v := (-9223372036854775808)) hx hb C.2.2.2.1 (C.2.2.1 _ cn_X3_108) dX3_put_1 ?_
  have z_1 : ((-9223372036854775808) : Int64).toInt = -9223372036854775808 := by decide
  refine W.lcmp hx hb dX3_put_4 ?_
  refine lv_topi (fun x_2 ex_2 => ?_)
  have cx_2 := lg_c ex_2
  refine sb_if_ne (tgt := 11) hx hb rfl dX3_put_5 (by decide) (fun c_5_2 => ?_) (fun c_5_2 => ?_)
  · refine lv_iload_n hx hb dX3_put_11 rfl (lv_at hl 1 rfl) ?_
    obtain ⟨x_4, ex_4⟩ : ∃ z : Int64, z = b1.toInt64 := ⟨_, rfl⟩
    refine lv_i2l (v := x_4) hx hb dX3_put_12 ex_4.symm ?_
    have tx_4 : x_4.toInt = b1.toInt := by rw [ex_4, Int32.toInt_toInt64]
    have lox_4 := (b1 : Int32).le_toInt
    have hix_4 := (b1 : Int32).toInt_lt
    refine lv_iload_n hx hb dX3_put_13 rfl (lv_at hl 2 rfl) ?_
    obtain ⟨x_5, ex_5⟩ : ∃ z : Int64, z = b2.toInt64 := ⟨_, rfl⟩
    refine lv_i2l (v := x_5) hx hb dX3_put_14 ex_5.symm ?_
    have tx_5 : x_5.toInt = b2.toInt := by rw [ex_5, Int32.toInt_toInt64]
    have lox_5 := (b2 : Int32).le_toInt
    have hix_5 := (b2 : Int32).toInt_lt
    refine lv_lload_n hx hb dX3_put_15 rfl (lv_at hl 0 rfl) ?_
    refine ti_minl C ml_X3_110 hl.1 (by decide) (Nat.le_of_ble_eq_true rfl) ⟨Nat.zero_le _, Nat.zero_le _⟩ dX3_put_16 ?_
    refine lv_topl (fun x_6 ex_6 => ?_)
    have mx_6 := l_min ex_6
    refine ti_maxl C ml_X3_116 hl.1 (by decide) (Nat.le_of_ble_eq_true rfl) ⟨Nat.zero_le _, Nat.zero_le _⟩ dX3_put_19 ?_
    refine lv_topl (fun x_7 ex_7 => ?_)
    have mx_7 := l_max ex_7
    obtain ⟨x_8, ex_8⟩ : ∃ z : Int32, z = (x_7 : Int64).toInt32 := ⟨_, rfl⟩
    refine lv_l2i (v := x_8) hx hb dX3_put_22 ex_8.symm ?_
    exact hQ _ _ _ _ _ _ hw rfl (⟨rfl, (by have q := l_2i ex_8 (by omega) (by omega); rw [q]; unfold bq_pt; rw [if_neg (by omega)]; (repeat' split) <;> omega)⟩) dX3_put_23
  · refine lv_iload hx hb dX3_put_8 (lv_at hl 3 rfl) ?_
    exact hQ _ _ _ _ _ _ hw rfl (⟨rfl, (by unfold bq_pt; rw [if_pos (by omega)])⟩) dX3_put_10
set_option maxHeartbeats 4000000 in
set_option maxRecDepth 100000 in
theorem z_X3_need (l : Launch) (D : va_G) (A : Nat → Nat → Nat) (cy : Nat → ClassId) (hJ : ti_inj ti_LT A) (M : ti_M) (hI : cI Tc M) (q t : Nat) (hq : ti_ob ti_LT q 3) (ht : t = 3 ∨ t = 4) (hT : tT M q 0 = some t) (tx rg : Nat → Int) (htx : tC t tx M) (hs : qC q rg M) : ti_Ki l yX3_need cX3_need 1 (some .int) 2 ti_LT D A cy M [.ref (A q 0)] (fun r M2 => cI Tc M2 ∧ M2.2.2.2 = M.2.2.2 ∧ M2.1 = M.1 ∧ M2.2.1 = M.2.1 ∧ r.toInt = bq_nd tx rg) := by
  refine ti_eI yp_X3_need hJ ti_LT_nd (Nat.le_of_ble_eq_true rfl) ?_
  intro p e s m args below meth c Q H0 C hQ hw ls hl
  have hx := C.1
  have hb := C.2.1
  have hl : lv_has ls 1 [(0, .ref (A q 0))] := hl
  refine lv_aload_n hx hb dX3_need_0 rfl (lv_at hl 0 rfl) ?_
  refine ti_get (ci := 3) (k := 0) (N := 17) (T := TX3) (v := .ref (A t 0)) C hw iw_3 rfl hq (by decide) (by decide) fl_X3_45 rfl (ti_Tv (hT)) dX3_need_1 ?_
  refine ti_get (ci := 8) (k := 2) (N := 12) (T := TX8) (v := .ref (A t 3)) C hw iw_8 rfl (ob_t ht) (by decide) (by decide) fl_X3_119 rfl rfl dX3_need_4 ?_
  refine lv_iconst (v := 2) hx hb dX3_need_7 (by decide) ?_
  refine ti_aald (ci := 8) (k := 2) (n := 3) (t0 := 4) (Cn := RX1) (gg := (ti_laws t)) (j := 2) C hw (ob_t ht) (by decide) (fun _ _ => rfl) rfl (by unfold vp_in; decide) (by decide) dX3_need_8 ?_
  have ob_1 : ti_ob ti_LT (ti_laws t 2) 1 := ob_l ht (by decide)
  refine lv_aload_n hx hb dX3_need_9 rfl (lv_at hl 0 rfl) ?_
  refine lv_iconst (v := 0) hx hb dX3_need_10 (by decide) ?_
  refine lv_aload_n hx hb dX3_need_11 rfl (lv_at hl 0 rfl) ?_
  refine ti_get (ci := 3) (k := 3) (N := 17) (T := TX3) C hw iw_3 rfl hq (by decide) (by decide) fl_X3_56 rfl rfl dX3_need_12 ?_
  refine lv_topi (fun x_2 ex_2 => ?_)
  have bx_2 : 0 ≤ x_2.toInt ∧ x_2.toInt ≤ 8 := cI_rd hI hq.1 ex_2
  have ux_2 : (tI M q 3).toInt = x_2.toInt := by rw [ex_2]
  have L_3 : rg 3 = x_2.toInt := ((hs.1 3 (by decide) (by decide)).trans (congrArg Int32.toInt (ex_2.symm))).trans rfl
  refine ti_callVl (ci := 1) (av := [.ref (A q 0), .int 0, .int x_2]) C hw (z_X1_value l D A cy hJ M hI (ti_laws t 2) q t ob_1 hq ht (hT) 0 x_2 (fun n => tx (400 + 64 * 2 + n)) (tx (300 + 2)) (fun n hn => (htx.2.2.2 2 (by decide)).2 n hn) ((htx.2.2.2 2 (by decide)).1) tx rg htx hs) ⟨ml_X3_123, ym_X1_value, yv_X1_value, yi_X1_value, yc_X1_value⟩ yd_X1_value ob_1 (by decide) rfl rfl hl.1 (Nat.le_of_ble_eq_true rfl) ⟨by decide, by decide⟩ ⟨Nat.zero_le _, Nat.zero_le _⟩ dX3_need_15 (fun r_4 M_5 H locs hp_5 hw => ?_)
  obtain ⟨iM_5, q_6, q_7, q_8, ppr_4⟩ := hp_5
  have pr_4 : r_4.toInt = bq_lv tx rg 2 ((0 : Int32).toInt) x_2.toInt := ppr_4
  simp only [show (0 : Int32).toInt = 0 by decide] at pr_4
  have hs_9 : qC q rg M_5 := qC_of hs q_7 q_8
  refine lv_iconst (v := 1) hx hb dX3_need_18 (by decide) ?_
  refine lv_bipush (v := 9) hx hb dX3_need_19 (by decide) ?_
  refine lv_aload_n hx hb dX3_need_21 rfl (lv_at hl 0 rfl) ?_
  refine ti_get (ci := 3) (k := 3) (N := 17) (T := TX3) C hw iw_3 rfl hq (by decide) (by decide) fl_X3_56 rfl rfl dX3_need_22 ?_
  refine ti_top (y := x_2) ((tI_fr q_7).trans ex_2.symm) ?_
  have u_10 : (tI M_5 q 3).toInt = (x_2 : Int32).toInt := by rw [((tI_fr q_7).trans ex_2.symm)]
  have L_11 : rg 3 = x_2.toInt := ((hs_9.1 3 (by decide) (by decide)).trans (congrArg Int32.toInt ((tI_fr q_7).trans ex_2.symm))).trans rfl
  refine lv_iconst (v := 1) hx hb dX3_need_25 (by decide) ?_
  refine lv_iadd hx hb dX3_need_26 ?_
  refine lv_topi (fun x_12 ex_12 => ?_)
  have tx_12 : x_12.toInt = x_2.toInt + 1 := i_add ex_12 rfl (by decide : (1 : Int32).toInt = 1) (by omega) (by omega)
  refine lv_iconst (v := 2) hx hb dX3_need_27 (by decide) ?_
  refine lv_idiv hx hb dX3_need_28 (by decide) ?_
  refine lv_topi (fun x_13 ex_13 => ?_)
  have dx_13 : x_13.toInt = x_12.toInt / 2 := i_div2 ex_13 rfl (by omega)
  refine ti_callSi (av := [.long r_4, .int 1, .int 9, .int x_13]) C hw (z_X3_put l D A cy hJ M_5 iM_5 r_4 1 9 x_13 (by first | decide | omega)) ⟨ml_X3_127, ys_X3_put, yi_X3_put, yc_X3_put⟩ yd_X3_put rfl hl.1 (Nat.le_of_ble_eq_true rfl) ⟨by decide, by decide⟩ ⟨Nat.zero_le _, Nat.zero_le _⟩ dX3_need_29 (fun r_14 M_15 H locs hp_15 hw => ?_)
  obtain ⟨hm, pr_14⟩ := hp_15
  have hw := hw.to hm
  try simp only [show (1 : Int32).toInt = 1 by decide] at pr_14
  try simp only [show (9 : Int32).toInt = 9 by decide] at pr_14
  exact hQ _ _ _ _ _ _ hw rfl (⟨iM_5, (q_6), (q_7), (q_8), (by rw [pr_14, pr_4]; unfold bq_nd; rw [show rg 3 = x_2.toInt by omega, show (x_2.toInt + 1) / 2 = x_13.toInt by omega])⟩) dX3_need_32
set_option maxHeartbeats 4000000 in
set_option maxRecDepth 100000 in
theorem z_X3_isGuarded (l : Launch) (D : va_G) (A : Nat → Nat → Nat) (cy : Nat → ClassId) (hJ : ti_inj ti_LT A) (M : ti_M) (hI : cI Tc M) (q t : Nat) (hq : ti_ob ti_LT q 3) (ht : t = 3 ∨ t = 4) (hT : tT M q 0 = some t) (tx rg : Nat → Int) (htx : tC t tx M) (hs : qC q rg M) : ti_Ki l yX3_isGuarded cX3_isGuarded 1 (some .boolean) 0 ti_LT D A cy M [.ref (A q 0)] (fun r M2 => M2 = M ∧ ((r = 1 ∧ (1 < rg 3 ∧ tx (100 + 16 * (rg 97).toNat + 9) = rg 96)) ∨ (r = 0 ∧ ¬ (1 < rg 3 ∧ tx (100 + 16 * (rg 97).toNat + 9) = rg 96)))) := by
  refine ti_eI yp_X3_isGuarded hJ ti_LT_nd (Nat.le_of_ble_eq_true rfl) ?_
  intro p e s m args below meth c Q H0 C hQ hw ls hl
  have hx := C.1
  have hb := C.2.1
  have hl : lv_has ls 1 [(0, .ref (A q 0))] := hl
  refine lv_aload_n hx hb dX3_isGuarded_0 rfl (lv_at hl 0 rfl) ?_
  refine ti_get (ci := 3) (k := 3) (N := 17) (T := TX3) C hw iw_3 rfl hq (by decide) (by decide) fl_X3_56 rfl rfl dX3_isGuarded_1 ?_
  refine lv_topi (fun x_1 ex_1 => ?_)
  have bx_1 : 0 ≤ x_1.toInt ∧ x_1.toInt ≤ 8 := cI_rd hI hq.1 ex_1
  have ux_1 : (tI M q 3).toInt = x_1.toInt := by rw [ex_1]
  have L_2 : rg 3 = x_1.toInt := ((hs.1 3 (by decide) (by decide)).trans (congrArg Int32.toInt (ex_1.symm))).trans rfl
  refine lv_iconst (v := 1) hx hb dX3_isGuarded_4 (by decide) ?_
  refine sb_icmp_le (tgt := 38) hx hb rfl (by decide : (1 : Int32).toInt = 1) dX3_isGuarded_5 (by decide) (fun c_5_2 => ?_) (fun c_5_2 => ?_)
  · refine lv_iconst (v := 0) hx hb dX3_isGuarded_38 (by decide) ?_
    exact hQ _ _ _ _ _ _ hw rfl (⟨rfl, Or.inr ⟨rfl, (by omega)⟩⟩) dX3_isGuarded_39
  · refine lv_aload_n hx hb dX3_isGuarded_8 rfl (lv_at hl 0 rfl) ?_
    refine ti_get (ci := 3) (k := 0) (N := 17) (T := TX3) (v := .ref (A t 0)) C hw iw_3 rfl hq (by decide) (by decide) fl_X3_45 rfl (ti_Tv (hT)) dX3_isGuarded_9 ?_
    refine ti_get (ci := 8) (k := 0) (N := 12) (T := TX8) (v := .ref (A t 1)) C hw iw_8 rfl (ob_t ht) (by decide) (by decide) fl_X3_81 rfl rfl dX3_isGuarded_12 ?_
    refine lv_aload_n hx hb dX3_isGuarded_15 rfl (lv_at hl 0 rfl) ?_
    refine ti_get (ci := 3) (k := 6) (N := 17) (T := TX3) (v := .ref (A q 7)) C hw iw_3 rfl hq (by decide) (by decide) fl_X3_9 rfl rfl dX3_isGuarded_16 ?_
    refine lv_iconst (v := 1) hx hb dX3_isGuarded_19 (by decide) ?_
    refine ti_iald (ci := 3) (k := 6) (n := 8) C hw hq (by decide) (fun _ _ => rfl) (by unfold vp_in; decide) dX3_isGuarded_20 ?_
    refine lv_topi (fun x_4 ex_4 => ?_)
    have bx_4 : 0 ≤ x_4.toInt ∧ x_4.toInt ≤ 7 := cI_ry hI hq.1 ex_4
    have L_5 : rg 97 = x_4.toInt := (hs.2 6 1 (by decide) (by decide) (by decide) (by decide)).trans (congrArg Int32.toInt ex_4.symm)
    refine ti_aald (ci := 8) (k := 0) (n := 8) (t0 := 5) (Cn := RX2) (gg := (ti_men t)) (j := x_4.toNatClampNeg) C hw (ob_t ht) (by decide) (fun _ _ => rfl) rfl (vp_in_iff.mpr (by omega)) rfl dX3_isGuarded_21 ?_
    have ob_6 : ti_ob ti_LT (ti_men t x_4.toNatClampNeg) 2 := ob_m ht (i_nt rfl (by omega) (by omega))
    refine ti_get (ci := 2) (k := 9) (N := 10) (T := TX2) C hw iw_2 rfl ob_6 (by decide) (by decide) fl_X3_131 rfl rfl dX3_isGuarded_22 ?_
    refine lv_topi (fun x_7 ex_7 => ?_)
    have L_8 : tx (100 + 16 * x_4.toInt.toNat + 9) = x_7.toInt := (((show tx (100 + 16 * x_4.toInt.toNat + 9) = _ from by rw [← (show x_4.toNatClampNeg = x_4.toInt.toNat from congrArg Int.toNat rfl)]; exact htx.2.2.1 x_4.toNatClampNeg 9 (i_nt (n := 8) rfl (by omega) (by omega)) (by decide) (by decide))).trans (congrArg Int32.toInt (ex_7.symm))).trans rfl
    refine lv_aload_n hx hb dX3_isGuarded_25 rfl (lv_at hl 0 rfl) ?_
    refine ti_get (ci := 3) (k := 6) (N := 17) (T := TX3) (v := .ref (A q 7)) C hw iw_3 rfl hq (by decide) (by decide) fl_X3_9 rfl rfl dX3_isGuarded_26 ?_
    refine lv_iconst (v := 0) hx hb dX3_isGuarded_29 (by decide) ?_
    refine ti_iald (ci := 3) (k := 6) (n := 8) C hw hq (by decide) (fun _ _ => rfl) (by unfold vp_in; decide) dX3_isGuarded_30 ?_
    refine lv_topi (fun x_9 ex_9 => ?_)
    have bx_9 : 0 ≤ x_9.toInt ∧ x_9.toInt ≤ 7 := cI_ry hI hq.1 ex_9
    have L_10 : rg 96 = x_9.toInt := (hs.2 6 0 (by decide) (by decide) (by decide) (by decide)).trans (congrArg Int32.toInt ex_9.symm)
    refine sb_icmp_ne (tgt := 38) hx hb rfl rfl dX3_isGuarded_31 (by decide) (fun c_31_10 => ?_) (fun c_31_10 => ?_)
    · refine lv_iconst (v := 0) hx hb dX3_isGuarded_38 (by decide) ?_
      exact hQ _ _ _ _ _ _ hw rfl (⟨rfl, Or.inr ⟨rfl, (by rw [L_5]; omega)⟩⟩) dX3_isGuarded_39
    · refine lv_iconst (v := 1) hx hb dX3_isGuarded_34 (by decide) ?_
      refine lv_goto (tgt := 39) hx hb dX3_isGuarded_35 (by decide) ?_
      exact hQ _ _ _ _ _ _ hw rfl (⟨rfl, Or.inl ⟨rfl, (by rw [L_5]; omega)⟩⟩) dX3_isGuarded_39
set_option maxHeartbeats 4000000 in
set_option maxRecDepth 100000 in
theorem z_X3_lastHeard (l : Launch) (D : va_G) (A : Nat → Nat → Nat) (cy : Nat → ClassId) (hJ : ti_inj ti_LT A) (M : ti_M) (hI : cI Tc M) (q t : Nat) (hq : ti_ob ti_LT q 3) (ht : t = 3 ∨ t = 4) (hT : tT M q 0 = some t) (tx rg : Nat → Int) (htx : tC t tx M) (hs : qC q rg M) : ti_Ki l yX3_lastHeard cX3_lastHeard 1 (some .int) 1 ti_LT D A cy M [.ref (A q 0)] (fun r M2 => M2 = M ∧ r.toInt ≤ 7 ∧ r.toInt = bq_lh tx rg) := by
  refine ti_eI yp_X3_lastHeard hJ ti_LT_nd (Nat.le_of_ble_eq_true rfl) ?_
  intro p e s m args below meth c Q H0 C hQ hw ls hl
  have hx := C.1
  have hb := C.2.1
  have hl : lv_has ls 1 [(0, .ref (A q 0))] := hl
  refine lv_aload_n hx hb dX3_lastHeard_0 rfl (lv_at hl 0 rfl) ?_
  refine ti_get (ci := 3) (k := 0) (N := 17) (T := TX3) (v := .ref (A t 0)) C hw iw_3 rfl hq (by decide) (by decide) fl_X3_45 rfl (ti_Tv (hT)) dX3_lastHeard_1 ?_
  refine ti_get (ci := 8) (k := 9) (N := 12) (T := TX8) C hw iw_8 rfl (ob_t ht) (by decide) (by decide) fl_X3_134 rfl rfl dX3_lastHeard_4 ?_
  refine lv_topi (fun x_1 ex_1 => ?_)
  have L_2 : tx 9 = x_1.toInt := ((htx.1 9 (by decide) (by decide)).trans (congrArg Int32.toInt (ex_1.symm))).trans rfl
  refine lv_aload_n hx hb dX3_lastHeard_7 rfl (lv_at hl 0 rfl) ?_
  refine ti_get (ci := 3) (k := 3) (N := 17) (T := TX3) C hw iw_3 rfl hq (by decide) (by decide) fl_X3_56 rfl rfl dX3_lastHeard_8 ?_
  refine lv_topi (fun x_3 ex_3 => ?_)
  have bx_3 : 0 ≤ x_3.toInt ∧ x_3.toInt ≤ 8 := cI_rd hI hq.1 ex_3
  have ux_3 : (tI M q 3).toInt = x_3.toInt := by rw [ex_3]
  have L_4 : rg 3 = x_3.toInt := ((hs.1 3 (by decide) (by decide)).trans (congrArg Int32.toInt (ex_3.symm))).trans rfl
  refine lv_iconst (v := 1) hx hb dX3_lastHeard_11 (by decide) ?_
  refine lv_isub hx hb dX3_lastHeard_12 ?_
  refine lv_topi (fun x_5 ex_5 => ?_)
  have tx_5 : x_5.toInt = x_3.toInt - 1 := i_sub ex_5 rfl (by decide : (1 : Int32).toInt = 1) (by omega) (by omega)
  refine ti_min C ml_X3_137 hl.1 (by decide) (Nat.le_of_ble_eq_true rfl) ⟨Nat.zero_le _, Nat.zero_le _⟩ dX3_lastHeard_13 ?_
  refine lv_topi (fun x_6 ex_6 => ?_)
  have bx_6 := i_min ex_6 rfl rfl
  exact hQ _ _ _ _ _ _ hw rfl (⟨rfl, by omega, (by unfold bq_lh bq_mn; split <;> omega)⟩) dX3_lastHeard_16
set_option maxHeartbeats 4000000 in
set_option maxRecDepth 100000 in
theorem z_X3_is (l : Launch) (D : va_G) (A : Nat → Nat → Nat) (cy : Nat → ClassId) (hJ : ti_inj ti_LT A) (M : ti_M) (hI : cI Tc M) (q : Nat) (hq : ti_ob ti_LT q 3) (bt : Int32) (rg : Nat → Int) (hs : qC q rg M) (hm : rg 1 = 0 ∨ rg 1 = 1 ∨ rg 1 = 3) (hb0 : bt = 1 ∨ bt = 2 ∨ bt = 4 ∨ bt = 8 ∨ bt = 16 ∨ bt = 32) : ti_Ki l yX3_is cX3_is 2 (some .boolean) 0 ti_LT D A cy M [.ref (A q 0), .int bt] (fun r M2 => M2 = M ∧ ((r = 1 ∧ ((bt.toInt = 1 ∧ rg 1 ≠ 0) ∨ (bt.toInt = 2 ∧ rg 1 = 3))) ∨ (r = 0 ∧ ((bt.toInt = 1 ∧ rg 1 = 0) ∨ (bt.toInt = 2 ∧ rg 1 ≠ 3) ∨ 2 < bt.toInt)))) := by
  refine ti_eI yp_X3_is hJ ti_LT_nd (Nat.le_of_ble_eq_true rfl) ?_
  intro p e s m args below meth c Q H0 C hQ hw ls hl
  have hx := C.1
  have hb := C.2.1
  have hl : lv_has ls 2 [(0, .ref (A q 0)), (1, .int bt)] := hl
  refine lv_aload_n hx hb dX3_is_0 rfl (lv_at hl 0 rfl) ?_
  refine ti_get (ci := 3) (k := 1) (N := 17) (T := TX3) C hw iw_3 rfl hq (by decide) (by decide) fl_X3_49 rfl rfl dX3_is_1 ?_
  refine lv_topi (fun x_1 ex_1 => ?_)
  have L_2 : rg 1 = x_1.toInt := ((hs.1 1 (by decide) (by decide)).trans (congrArg Int32.toInt (ex_1.symm))).trans rfl
  refine lv_iload_n hx hb dX3_is_4 rfl (lv_at hl 1 rfl) ?_
  refine lv_iand hx hb dX3_is_5 ?_
  refine lv_topi (fun x_3 ex_3 => ?_)
  have ib := is_b ex_3 (by omega) hb0
  refine sb_if_eq (tgt := 13) hx hb rfl dX3_is_6 (by decide) (fun c_6_3 => ?_) (fun c_6_3 => ?_)
  · refine lv_iconst (v := 0) hx hb dX3_is_13 (by decide) ?_
    exact hQ _ _ _ _ _ _ hw rfl (⟨rfl, Or.inr ⟨rfl, by omega⟩⟩) dX3_is_14
  · refine lv_iconst (v := 1) hx hb dX3_is_9 (by decide) ?_
    refine lv_goto (tgt := 14) hx hb dX3_is_10 (by decide) ?_
    exact hQ _ _ _ _ _ _ hw rfl (⟨rfl, Or.inl ⟨rfl, by omega⟩⟩) dX3_is_14
set_option maxHeartbeats 4000000 in
set_option maxRecDepth 100000 in
theorem z_X3_joinsAhead (l : Launch) (D : va_G) (A : Nat → Nat → Nat) (cy : Nat → ClassId) (hJ : ti_inj ti_LT A) (M : ti_M) (hI : cI Tc M) (m1 m2 : Nat) (h1 : ti_ob ti_LT m1 2) (h2 : ti_ob ti_LT m2 2) : ti_Ki l yX3_joinsAhead cX3_joinsAhead 2 (some .boolean) 0 ti_LT D A cy M [.ref (A m1 0), .ref (A m2 0)] (fun r M2 => M2 = M ∧ ((r = 1 ∧ ((tI M m1 2).toInt < (tI M m2 2).toInt ∨ ((tI M m1 2).toInt = (tI M m2 2).toInt ∧ (tI M m2 1).toInt < (tI M m1 1).toInt))) ∨ (r = 0 ∧ ¬ ((tI M m1 2).toInt < (tI M m2 2).toInt ∨ ((tI M m1 2).toInt = (tI M m2 2).toInt ∧ (tI M m2 1).toInt < (tI M m1 1).toInt))))) := by
  refine ti_eI yp_X3_joinsAhead hJ ti_LT_nd (Nat.le_of_ble_eq_true rfl) ?_
  intro p e s m args below meth c Q H0 C hQ hw ls hl
  have hx := C.1
  have hb := C.2.1
  have hl : lv_has ls 2 [(0, .ref (A m1 0)), (1, .ref (A m2 0))] := hl
  refine lv_aload_n hx hb dX3_joinsAhead_0 rfl (lv_at hl 0 rfl) ?_
  refine ti_get (ci := 2) (k := 2) (N := 10) (T := TX2) C hw iw_2 rfl h1 (by decide) (by decide) fl_X3_176 rfl rfl dX3_joinsAhead_1 ?_
  refine lv_topi (fun x_1 ex_1 => ?_)
  have u_2 : (tI M m1 2).toInt = x_1.toInt := by rw [ex_1]
  refine lv_aload_n hx hb dX3_joinsAhead_4 rfl (lv_at hl 1 rfl) ?_
  refine ti_get (ci := 2) (k := 2) (N := 10) (T := TX2) C hw iw_2 rfl h2 (by decide) (by decide) fl_X3_176 rfl rfl dX3_joinsAhead_5 ?_
  refine lv_topi (fun x_3 ex_3 => ?_)
  have u_4 : (tI M m2 2).toInt = x_3.toInt := by rw [ex_3]
  refine sb_icmp_lt (tgt := 33) hx hb rfl rfl dX3_joinsAhead_8 (by decide) (fun c_8_4 => ?_) (fun c_8_4 => ?_)
  · refine lv_iconst (v := 1) hx hb dX3_joinsAhead_33 (by decide) ?_
    refine lv_goto (tgt := 38) hx hb dX3_joinsAhead_34 (by decide) ?_
    exact hQ _ _ _ _ _ _ hw rfl (⟨rfl, Or.inl ⟨rfl, by omega⟩⟩) dX3_joinsAhead_38
  · refine lv_aload_n hx hb dX3_joinsAhead_11 rfl (lv_at hl 0 rfl) ?_
    refine ti_get (ci := 2) (k := 2) (N := 10) (T := TX2) C hw iw_2 rfl h1 (by decide) (by decide) fl_X3_176 rfl rfl dX3_joinsAhead_12 ?_
    refine ti_top (y := x_1) (ex_1.symm) ?_
    refine lv_aload_n hx hb dX3_joinsAhead_15 rfl (lv_at hl 1 rfl) ?_
    refine ti_get (ci := 2) (k := 2) (N := 10) (T := TX2) C hw iw_2 rfl h2 (by decide) (by decide) fl_X3_176 rfl rfl dX3_joinsAhead_16 ?_
    refine ti_top (y := x_3) (ex_3.symm) ?_
    refine sb_icmp_ne (tgt := 37) hx hb rfl rfl dX3_joinsAhead_19 (by decide) (fun c_19_5 => ?_) (fun c_19_5 => ?_)
    · refine lv_iconst (v := 0) hx hb dX3_joinsAhead_37 (by decide) ?_
      exact hQ _ _ _ _ _ _ hw rfl (⟨rfl, Or.inr ⟨rfl, by omega⟩⟩) dX3_joinsAhead_38
    · refine lv_aload_n hx hb dX3_joinsAhead_22 rfl (lv_at hl 0 rfl) ?_
      refine ti_get (ci := 2) (k := 1) (N := 10) (T := TX2) C hw iw_2 rfl h1 (by decide) (by decide) fl_X3_179 rfl rfl dX3_joinsAhead_23 ?_
      refine lv_topi (fun x_7 ex_7 => ?_)
      have u_8 : (tI M m1 1).toInt = x_7.toInt := by rw [ex_7]
      refine lv_aload_n hx hb dX3_joinsAhead_26 rfl (lv_at hl 1 rfl) ?_
      refine ti_get (ci := 2) (k := 1) (N := 10) (T := TX2) C hw iw_2 rfl h2 (by decide) (by decide) fl_X3_179 rfl rfl dX3_joinsAhead_27 ?_
      refine lv_topi (fun x_9 ex_9 => ?_)
      have u_10 : (tI M m2 1).toInt = x_9.toInt := by rw [ex_9]
      refine sb_icmp_le (tgt := 37) hx hb rfl rfl dX3_joinsAhead_30 (by decide) (fun c_30_10 => ?_) (fun c_30_10 => ?_)
      · refine lv_iconst (v := 0) hx hb dX3_joinsAhead_37 (by decide) ?_
        exact hQ _ _ _ _ _ _ hw rfl (⟨rfl, Or.inr ⟨rfl, by omega⟩⟩) dX3_joinsAhead_38
      · refine lv_iconst (v := 1) hx hb dX3_joinsAhead_33 (by decide) ?_
        refine lv_goto (tgt := 38) hx hb dX3_joinsAhead_34 (by decide) ?_
        exact hQ _ _ _ _ _ _ hw rfl (⟨rfl, Or.inl ⟨rfl, by omega⟩⟩) dX3_joinsAhead_38
set_option maxHeartbeats 4000000 in
set_option maxRecDepth 100000 in
theorem z_X3_nextToJoin (l : Launch) (D : va_G) (A : Nat → Nat → Nat) (cy : Nat → ClassId) (hJ : ti_inj ti_LT A) (M : ti_M) (hI : cI Tc M) (q t : Nat) (hq : ti_ob ti_LT q 3) (ht : t = 3 ∨ t = 4) (hT : tT M q 0 = some t) (tx rg : Nat → Int) (htx : tC t tx M) (hs : qC q rg M) : ti_Ki l yX3_nextToJoin cX3_nextToJoin 3 (some .int) 1 ti_LT D A cy M [.ref (A q 0)] (fun r M2 => M2 = M ∧ (-1) ≤ r.toInt ∧ r.toInt ≤ 7 ∧ r.toInt = bq_nx tx rg) := by
  refine ti_eI yp_X3_nextToJoin hJ ti_LT_nd (Nat.le_of_ble_eq_true rfl) ?_
  intro p e s m args below meth c Q H0 C hQ hw ls hl
  have hx := C.1
  have hb := C.2.1
  have hl : lv_has ls 3 [(0, .ref (A q 0))] := hl
  refine lv_iconst (v := (-1)) hx hb dX3_nextToJoin_0 (by decide) ?_
  refine lv_istore_n (lv' := [(1, .int (-1)), (0, .ref (A q 0))]) hx hb dX3_nextToJoin_1 rfl hl (by decide) rfl (fun ls hl => ?_)
  refine lv_iconst (v := 0) hx hb dX3_nextToJoin_2 (by decide) ?_
  refine lv_istore_n (lv' := [(2, .int 0), (1, .int (-1)), (0, .ref (A q 0))]) hx hb dX3_nextToJoin_3 rfl hl (by decide) rfl (fun ls hl => ?_)
  have hl_4_7 : ∀ (n_8 : Nat) (x_1 : Int32) (x_4 : Int32) (H : Heap) (locs : List Loc) (ls : Array Slot), (8 - x_1.toInt : Int).toNat < n_8 → (0 ≤ x_1.toInt) → (x_1.toInt ≤ 8) → ((-1) ≤ x_4.toInt) → (x_4.toInt ≤ 7) → (bq_nf tx rg ((tx 4).toNat - (x_1.toInt).toNat) (x_1.toInt).toNat (x_4.toInt) = bq_nx tx rg) → ti_H ti_LT D A cy H0 M H locs → lv_has ls 3 [(2, .int x_1), (1, .int x_4), (0, .ref (A q 0))] → W p l e (ti_rm 1) s m args below meth c H locs 0 0 Q (F0 m 4 ls []) := by
    intro n_8
    induction n_8 with
    | zero => intro x_1 x_4 H locs ls hf_8; exact absurd hf_8 (Nat.not_lt_zero _)
    | succ n_8 ih_8 =>
      intro x_1 x_4 H locs ls hf_8 b_2 b_3 b_5 b_6 j_7 hw hl
      refine lv_iload_n hx hb dX3_nextToJoin_4 rfl (lv_at hl 0 rfl) ?_
      refine lv_aload_n hx hb dX3_nextToJoin_5 rfl (lv_at hl 2 rfl) ?_
      refine ti_get (ci := 3) (k := 0) (N := 17) (T := TX3) (v := .ref (A t 0)) C hw iw_3 rfl hq (by decide) (by decide) fl_X3_45 rfl (ti_Tv (hT)) dX3_nextToJoin_6 ?_
      refine ti_get (ci := 8) (k := 4) (N := 12) (T := TX8) C hw iw_8 rfl (ob_t ht) (by decide) (by decide) fl_X3_78 rfl rfl dX3_nextToJoin_9 ?_
      refine lv_topi (fun x_9 ex_9 => ?_)
      have bx_9 : 0 ≤ x_9.toInt ∧ x_9.toInt ≤ 8 := cI_rd hI (ob_t ht).1 ex_9
      have ux_9 : (tI M t 4).toInt = x_9.toInt := by rw [ex_9]
      have L_10 : tx 4 = x_9.toInt := ((htx.1 4 (by decide) (by decide)).trans (congrArg Int32.toInt (ex_9.symm))).trans rfl
      refine sb_icmp_ge (tgt := 74) hx hb rfl rfl dX3_nextToJoin_12 (by decide) (fun c_12_10 => ?_) (fun c_12_10 => ?_)
      · refine lv_iload_n hx hb dX3_nextToJoin_74 rfl (lv_at hl 1 rfl) ?_
        exact hQ _ _ _ _ _ _ hw rfl (⟨rfl, by omega, by omega, (by rw [← j_7, nf_end (by omega)])⟩) dX3_nextToJoin_75
      · refine lv_aload_n hx hb dX3_nextToJoin_15 rfl (lv_at hl 2 rfl) ?_
        refine ti_get (ci := 3) (k := 8) (N := 17) (T := TX3) (v := .ref (A q 9)) C hw iw_3 rfl hq (by decide) (by decide) fl_X3_18 rfl rfl dX3_nextToJoin_16 ?_
        refine lv_iload_n hx hb dX3_nextToJoin_19 rfl (lv_at hl 0 rfl) ?_
        refine ti_iald (ci := 3) (k := 8) (n := 8) C hw hq (by decide) (fun _ _ => rfl) (vp_in_iff.mpr (by omega)) dX3_nextToJoin_20 ?_
        refine lv_topi (fun x_12 ex_12 => ?_)
        have L_13 : rg (128 + x_1.toInt.toNat) = x_12.toInt := qC_y (k := 8) hs rfl (by omega) (by omega) (by decide) (by decide) ex_12
        refine sb_if_ne (tgt := 68) hx hb rfl dX3_nextToJoin_21 (by decide) (fun c_21_13 => ?_) (fun c_21_13 => ?_)
        · obtain ⟨x_32, ex_32⟩ : ∃ z : Int32, z = x_1 + 1 := ⟨_, rfl⟩
          have tx_32 : x_32.toInt = x_1.toInt + 1 := i_add ex_32 rfl (by decide) (by omega) (by omega)
          refine lv_iinc (v := x_32) (lv' := [(2, .int x_32), (1, .int x_4), (0, .ref (A q 0))]) hx hb dX3_nextToJoin_68 hl (k := 0) rfl (by rw [ex_32]; rfl) (by decide) rfl (fun ls hl => ?_)
          refine lv_goto (tgt := 4) hx hb dX3_nextToJoin_71 (by decide) ?_
          exact ih_8 x_32 x_4 _ _ _ (by omega) (by first | omega | decide) (by first | omega | decide) (by first | omega | decide) (by first | omega | decide) (by rw [← j_7, nf_go (tx := tx) (s := rg) (f := (tx 4).toNat - x_1.toInt.toNat) (f' := (tx 4).toNat - x_32.toInt.toNat) (m := x_1.toInt.toNat) (b := x_4.toInt) (by omega), if_neg (by omega), show x_32.toInt.toNat = x_1.toInt.toNat + 1 by omega]) hw (lv_sub hl [0, 1, 2] rfl)
        · refine lv_aload_n hx hb dX3_nextToJoin_24 rfl (lv_at hl 2 rfl) ?_
          refine ti_get (ci := 3) (k := 9) (N := 17) (T := TX3) (v := .ref (A q 10)) C hw iw_3 rfl hq (by decide) (by decide) fl_X3_21 rfl rfl dX3_nextToJoin_25 ?_
          refine lv_iload_n hx hb dX3_nextToJoin_28 rfl (lv_at hl 0 rfl) ?_
          refine ti_iald (ci := 3) (k := 9) (n := 8) C hw hq (by decide) (fun _ _ => rfl) (vp_in_iff.mpr (by omega)) dX3_nextToJoin_29 ?_
          refine lv_topi (fun x_15 ex_15 => ?_)
          have L_16 : rg (144 + x_1.toInt.toNat) = x_15.toInt := qC_y (k := 9) hs rfl (by omega) (by omega) (by decide) (by decide) ex_15
          refine lv_aload_n hx hb dX3_nextToJoin_30 rfl (lv_at hl 2 rfl) ?_
          refine ti_get (ci := 3) (k := 2) (N := 17) (T := TX3) C hw iw_3 rfl hq (by decide) (by decide) fl_X3_53 rfl rfl dX3_nextToJoin_31 ?_
          refine lv_topi (fun x_17 ex_17 => ?_)
          have L_18 : rg 2 = x_17.toInt := ((hs.1 2 (by decide) (by decide)).trans (congrArg Int32.toInt (ex_17.symm))).trans rfl
          refine sb_icmp_ne (tgt := 68) hx hb rfl rfl dX3_nextToJoin_34 (by decide) (fun c_34_18 => ?_) (fun c_34_18 => ?_)
          · obtain ⟨x_33, ex_33⟩ : ∃ z : Int32, z = x_1 + 1 := ⟨_, rfl⟩
            have tx_33 : x_33.toInt = x_1.toInt + 1 := i_add ex_33 rfl (by decide) (by omega) (by omega)
            refine lv_iinc (v := x_33) (lv' := [(2, .int x_33), (1, .int x_4), (0, .ref (A q 0))]) hx hb dX3_nextToJoin_68 hl (k := 0) rfl (by rw [ex_33]; rfl) (by decide) rfl (fun ls hl => ?_)
            refine lv_goto (tgt := 4) hx hb dX3_nextToJoin_71 (by decide) ?_
            exact ih_8 x_33 x_4 _ _ _ (by omega) (by first | omega | decide) (by first | omega | decide) (by first | omega | decide) (by first | omega | decide) (by rw [← j_7, nf_go (tx := tx) (s := rg) (f := (tx 4).toNat - x_1.toInt.toNat) (f' := (tx 4).toNat - x_33.toInt.toNat) (m := x_1.toInt.toNat) (b := x_4.toInt) (by omega), if_neg (by omega), show x_33.toInt.toNat = x_1.toInt.toNat + 1 by omega]) hw (lv_sub hl [0, 1, 2] rfl)
          · refine lv_iload_n hx hb dX3_nextToJoin_37 rfl (lv_at hl 1 rfl) ?_
            refine lv_iconst (v := (-1)) hx hb dX3_nextToJoin_38 (by decide) ?_
            refine sb_icmp_eq (tgt := 66) hx hb rfl (by decide : ((-1) : Int32).toInt = (-1)) dX3_nextToJoin_39 (by decide) (fun c_39_19 => ?_) (fun c_39_19 => ?_)
            · refine lv_iload_n hx hb dX3_nextToJoin_66 rfl (lv_at hl 0 rfl) ?_
              refine lv_istore_n (lv' := [(1, .int x_1), (2, .int x_1), (0, .ref (A q 0))]) hx hb dX3_nextToJoin_67 rfl hl (by decide) rfl (fun ls hl => ?_)
              obtain ⟨x_35, ex_35⟩ : ∃ z : Int32, z = x_1 + 1 := ⟨_, rfl⟩
              have tx_35 : x_35.toInt = x_1.toInt + 1 := i_add ex_35 rfl (by decide) (by omega) (by omega)
              refine lv_iinc (v := x_35) (lv' := [(2, .int x_35), (1, .int x_1), (0, .ref (A q 0))]) hx hb dX3_nextToJoin_68 hl (k := 1) rfl (by rw [ex_35]; rfl) (by decide) rfl (fun ls hl => ?_)
              refine lv_goto (tgt := 4) hx hb dX3_nextToJoin_71 (by decide) ?_
              exact ih_8 x_35 x_1 _ _ _ (by omega) (by first | omega | decide) (by first | omega | decide) (by first | omega | decide) (by first | omega | decide) (by rw [← j_7, nf_go (tx := tx) (s := rg) (f := (tx 4).toNat - x_1.toInt.toNat) (f' := (tx 4).toNat - x_35.toInt.toNat) (m := x_1.toInt.toNat) (b := x_4.toInt) (by omega), if_pos (by omega), show x_35.toInt.toNat = x_1.toInt.toNat + 1 by omega]; exact congrArg _ (by omega)) hw (lv_sub hl [0, 1, 2] rfl)
            · refine lv_aload_n hx hb dX3_nextToJoin_42 rfl (lv_at hl 2 rfl) ?_
              refine ti_get (ci := 3) (k := 0) (N := 17) (T := TX3) (v := .ref (A t 0)) C hw iw_3 rfl hq (by decide) (by decide) fl_X3_45 rfl (ti_Tv (hT)) dX3_nextToJoin_43 ?_
              refine ti_get (ci := 8) (k := 0) (N := 12) (T := TX8) (v := .ref (A t 1)) C hw iw_8 rfl (ob_t ht) (by decide) (by decide) fl_X3_81 rfl rfl dX3_nextToJoin_46 ?_
              refine lv_iload_n hx hb dX3_nextToJoin_49 rfl (lv_at hl 0 rfl) ?_
              refine ti_aald (ci := 8) (k := 0) (n := 8) (t0 := 5) (Cn := RX2) (gg := (ti_men t)) (j := x_1.toNatClampNeg) C hw (ob_t ht) (by decide) (fun _ _ => rfl) rfl (vp_in_iff.mpr (by omega)) rfl dX3_nextToJoin_50 ?_
              have ob_21 : ti_ob ti_LT (ti_men t x_1.toNatClampNeg) 2 := ob_m ht (i_nt rfl (by omega) (by omega))
              refine lv_aload_n hx hb dX3_nextToJoin_51 rfl (lv_at hl 2 rfl) ?_
              refine ti_get (ci := 3) (k := 0) (N := 17) (T := TX3) (v := .ref (A t 0)) C hw iw_3 rfl hq (by decide) (by decide) fl_X3_45 rfl (ti_Tv (hT)) dX3_nextToJoin_52 ?_
              refine ti_get (ci := 8) (k := 0) (N := 12) (T := TX8) (v := .ref (A t 1)) C hw iw_8 rfl (ob_t ht) (by decide) (by decide) fl_X3_81 rfl rfl dX3_nextToJoin_55 ?_
              refine lv_iload_n hx hb dX3_nextToJoin_58 rfl (lv_at hl 1 rfl) ?_
              refine ti_aald (ci := 8) (k := 0) (n := 8) (t0 := 5) (Cn := RX2) (gg := (ti_men t)) (j := x_4.toNatClampNeg) C hw (ob_t ht) (by decide) (fun _ _ => rfl) rfl (vp_in_iff.mpr (by omega)) rfl dX3_nextToJoin_59 ?_
              have ob_22 : ti_ob ti_LT (ti_men t x_4.toNatClampNeg) 2 := ob_m ht (i_nt rfl (by omega) (by omega))
              refine ti_callSi (av := [.ref (A (ti_men t x_1.toNatClampNeg) 0), .ref (A (ti_men t x_4.toNatClampNeg) 0)]) C hw (z_X3_joinsAhead l D A cy hJ M hI (ti_men t x_1.toNatClampNeg) (ti_men t x_4.toNatClampNeg) ob_21 ob_22) ⟨ml_X3_172, ys_X3_joinsAhead, yi_X3_joinsAhead, yc_X3_joinsAhead⟩ yd_X3_joinsAhead rfl hl.1 (Nat.le_of_ble_eq_true rfl) ⟨by decide, by decide⟩ ⟨Nat.zero_le _, Nat.zero_le _⟩ dX3_nextToJoin_60 (fun r_23 M_24 H locs hp_24 hw => ?_)
              have j_25 : tx (100 + 16 * x_1.toInt.toNat + 1) = (tI M (ti_men t x_1.toNatClampNeg) 1).toInt := by rw [← (show x_1.toNatClampNeg = x_1.toInt.toNat from congrArg Int.toNat rfl)]; exact htx.2.2.1 x_1.toNatClampNeg 1 (i_nt (n := 8) rfl (by omega) (by omega)) (by decide) (by decide)
              have j_26 : tx (100 + 16 * x_1.toInt.toNat + 2) = (tI M (ti_men t x_1.toNatClampNeg) 2).toInt := by rw [← (show x_1.toNatClampNeg = x_1.toInt.toNat from congrArg Int.toNat rfl)]; exact htx.2.2.1 x_1.toNatClampNeg 2 (i_nt (n := 8) rfl (by omega) (by omega)) (by decide) (by decide)
              have j_27 : tx (100 + 16 * x_4.toInt.toNat + 1) = (tI M (ti_men t x_4.toNatClampNeg) 1).toInt := by rw [← (show x_4.toNatClampNeg = x_4.toInt.toNat from congrArg Int.toNat rfl)]; exact htx.2.2.1 x_4.toNatClampNeg 1 (i_nt (n := 8) rfl (by omega) (by omega)) (by decide) (by decide)
              have j_28 : tx (100 + 16 * x_4.toInt.toNat + 2) = (tI M (ti_men t x_4.toNatClampNeg) 2).toInt := by rw [← (show x_4.toNatClampNeg = x_4.toInt.toNat from congrArg Int.toNat rfl)]; exact htx.2.2.1 x_4.toNatClampNeg 2 (i_nt (n := 8) rfl (by omega) (by omega)) (by decide) (by decide)
              obtain ⟨hm, hz⟩ := hp_24
              have hw := hw.to hm
              rcases hz with ⟨rfl, dg_29⟩ | ⟨rfl, dg_29⟩
              · refine sb_if_eq (tgt := 68) hx hb (by decide : (1 : Int32).toInt = 1) dX3_nextToJoin_63 (by decide) (fun h => absurd h (by decide)) (fun c_63_29 => ?_)
                refine lv_iload_n hx hb dX3_nextToJoin_66 rfl (lv_at hl 0 rfl) ?_
                refine lv_istore_n (lv' := [(1, .int x_1), (2, .int x_1), (0, .ref (A q 0))]) hx hb dX3_nextToJoin_67 rfl hl (by decide) rfl (fun ls hl => ?_)
                obtain ⟨x_36, ex_36⟩ : ∃ z : Int32, z = x_1 + 1 := ⟨_, rfl⟩
                have tx_36 : x_36.toInt = x_1.toInt + 1 := i_add ex_36 rfl (by decide) (by omega) (by omega)
                refine lv_iinc (v := x_36) (lv' := [(2, .int x_36), (1, .int x_1), (0, .ref (A q 0))]) hx hb dX3_nextToJoin_68 hl (k := 1) rfl (by rw [ex_36]; rfl) (by decide) rfl (fun ls hl => ?_)
                refine lv_goto (tgt := 4) hx hb dX3_nextToJoin_71 (by decide) ?_
                exact ih_8 x_36 x_1 _ _ _ (by omega) (by first | omega | decide) (by first | omega | decide) (by first | omega | decide) (by first | omega | decide) (by rw [← j_7, nf_go (tx := tx) (s := rg) (f := (tx 4).toNat - x_1.toInt.toNat) (f' := (tx 4).toNat - x_36.toInt.toNat) (m := x_1.toInt.toNat) (b := x_4.toInt) (by omega), if_pos (by omega), show x_36.toInt.toNat = x_1.toInt.toNat + 1 by omega]; exact congrArg _ (by omega)) hw (lv_sub hl [0, 1, 2] rfl)
              · refine sb_if_eq (tgt := 68) hx hb (by decide : (0 : Int32).toInt = 0) dX3_nextToJoin_63 (by decide) (fun c_63_30 => ?_) (fun h => absurd h (by decide))
                obtain ⟨x_34, ex_34⟩ : ∃ z : Int32, z = x_1 + 1 := ⟨_, rfl⟩
                have tx_34 : x_34.toInt = x_1.toInt + 1 := i_add ex_34 rfl (by decide) (by omega) (by omega)
                refine lv_iinc (v := x_34) (lv' := [(2, .int x_34), (1, .int x_4), (0, .ref (A q 0))]) hx hb dX3_nextToJoin_68 hl (k := 0) rfl (by rw [ex_34]; rfl) (by decide) rfl (fun ls hl => ?_)
                refine lv_goto (tgt := 4) hx hb dX3_nextToJoin_71 (by decide) ?_
                exact ih_8 x_34 x_4 _ _ _ (by omega) (by first | omega | decide) (by first | omega | decide) (by first | omega | decide) (by first | omega | decide) (by rw [← j_7, nf_go (tx := tx) (s := rg) (f := (tx 4).toNat - x_1.toInt.toNat) (f' := (tx 4).toNat - x_34.toInt.toNat) (m := x_1.toInt.toNat) (b := x_4.toInt) (by omega), if_neg (by omega), show x_34.toInt.toNat = x_1.toInt.toNat + 1 by omega]) hw (lv_sub hl [0, 1, 2] rfl)
  exact hl_4_7 ((8 - 0 : Int).toNat + 1) 0 (-1) _ _ _ (Nat.lt_succ_self _) (by have lt0 : ((-1) : Int32).toInt = (-1) := (by decide); have lt1 : (0 : Int32).toInt = 0 := (by decide); first | omega | decide) (by have lt0 : ((-1) : Int32).toInt = (-1) := (by decide); have lt1 : (0 : Int32).toInt = 0 := (by decide); first | omega | decide) (by have lt0 : ((-1) : Int32).toInt = (-1) := (by decide); have lt1 : (0 : Int32).toInt = 0 := (by decide); first | omega | decide) (by have lt0 : ((-1) : Int32).toInt = (-1) := (by decide); have lt1 : (0 : Int32).toInt = 0 := (by decide); first | omega | decide) (by show bq_nf tx rg ((tx 4).toNat - 0) 0 (-1) = _; rfl) hw (lv_sub hl [0, 1, 2] rfl)
end
section
variable {Tc : gC} {Tm : gM}
set_option maxHeartbeats 4000000 in
set_option maxRecDepth 100000 in
theorem z_X3_welcome (l : Launch) (D : va_G) (A : Nat → Nat → Nat) (cy : Nat → ClassId) (hJ : ti_inj ti_LT A) (M : ti_M) (hI : cI Tc M) (q t : Nat) (hq : ti_ob ti_LT q 3) (ht : t = 3 ∨ t = 4) (hT : tT M q 0 = some t) (tx rg : Nat → Int) (htx : tC t tx M) (hs : qC q rg M) : ti_Kv l yX3_welcome cX3_welcome 3 2 ti_LT D A cy M [.ref (A q 0)] (fun M2 => cI Tc M2 ∧ M2.2.2.2 = M.2.2.2 ∧ eo q M2 M ∧ qC q (bq_wl tx (tx 4).toNat rg) M2) := by
  refine ti_eV yp_X3_welcome hJ ti_LT_nd (Nat.le_of_ble_eq_true rfl) ?_
  intro p e s m args below meth c Q H0 C hQ hw ls hl
  have hx := C.1
  have hb := C.2.1
  have hl : lv_has ls 3 [(0, .ref (A q 0))] := hl
  refine lv_iconst (v := 0) hx hb dX3_welcome_0 (by decide) ?_
  refine lv_istore_n (lv' := [(1, .int 0), (0, .ref (A q 0))]) hx hb dX3_welcome_1 rfl hl (by decide) rfl (fun ls hl => ?_)
  have hl_2_9 : ∀ (n_10 : Nat) (x_1 : Int32) (M_4 : ti_M) (g_7 : Nat → Int) (H : Heap) (locs : List Loc) (ls : Array Slot), (8 - x_1.toInt : Int).toNat < n_10 → (0 ≤ x_1.toInt) → (x_1.toInt ≤ 8) → (cI Tc M_4) → (M_4.2.2.2 = M.2.2.2) → (eo q M_4 M) → (qC q g_7 M_4) → (bq_wl tx ((tx 4).toNat - (x_1.toInt).toNat) g_7 = bq_wl tx (tx 4).toNat rg) → ti_H ti_LT D A cy H0 M_4 H locs → lv_has ls 3 [(1, .int x_1), (0, .ref (A q 0))] → W p l e (ti_rm 2) s m args below meth c H locs 0 0 Q (F0 m 2 ls []) := by
    intro n_10
    induction n_10 with
    | zero => intro x_1 M_4 g_7 H locs ls hf_10; exact absurd hf_10 (Nat.not_lt_zero _)
    | succ n_10 ih_10 =>
      intro x_1 M_4 g_7 H locs ls hf_10 b_2 b_3 iM_4 f_5 f_6 hs_8 j_9 hw hl
      refine lv_iload_n hx hb dX3_welcome_2 rfl (lv_at hl 0 rfl) ?_
      refine lv_aload_n hx hb dX3_welcome_3 rfl (lv_at hl 1 rfl) ?_
      refine ti_get (ci := 3) (k := 0) (N := 17) (T := TX3) (v := .ref (A t 0)) C hw iw_3 rfl hq (by decide) (by decide) fl_X3_45 rfl (ti_Tv ((tT_fr f_5).trans hT)) dX3_welcome_4 ?_
      refine ti_get (ci := 8) (k := 4) (N := 12) (T := TX8) C hw iw_8 rfl (ob_t ht) (by decide) (by decide) fl_X3_78 rfl rfl dX3_welcome_7 ?_
      refine lv_topi (fun x_11 ex_11 => ?_)
      have bx_11 : 0 ≤ x_11.toInt ∧ x_11.toInt ≤ 8 := cI_rd iM_4 (ob_t ht).1 ex_11
      have ux_11 : (tI M_4 t 4).toInt = x_11.toInt := by rw [ex_11]
      have L_12 : tx 4 = x_11.toInt := (((tC_eo ht hq.1 htx f_6).1 4 (by decide) (by decide)).trans (congrArg Int32.toInt (ex_11.symm))).trans rfl
      refine sb_icmp_ge (tgt := 35) hx hb rfl rfl dX3_welcome_10 (by decide) (fun c_10_12 => ?_) (fun c_10_12 => ?_)
      · exact hQ _ _ _ _ _ hw (⟨iM_4, (f_5), f_6, (by rw [← j_9, wl_end (tx := tx) (s := g_7) (f := (tx 4).toNat - x_1.toInt.toNat) (by omega)]; exact hs_8)⟩) dX3_welcome_35
      · refine lv_aload_n hx hb dX3_welcome_13 rfl (lv_at hl 1 rfl) ?_
        refine ti_callVi (ci := 3) (av := []) C hw (z_X3_nextToJoin l D A cy hJ M_4 iM_4 q t hq ht ((tT_fr f_5).trans hT) tx g_7 (tC_eo ht hq.1 htx f_6) hs_8) ⟨ml_X3_164, ym_X3_nextToJoin, yv_X3_nextToJoin, yi_X3_nextToJoin, yc_X3_nextToJoin⟩ yd_X3_nextToJoin hq (by decide) rfl rfl hl.1 (Nat.le_of_ble_eq_true rfl) ⟨by decide, by decide⟩ ⟨Nat.zero_le _, Nat.zero_le _⟩ dX3_welcome_14 (fun r_14 M_15 H locs hp_15 hw => ?_)
        obtain ⟨hm, b0r_14, b1r_14, pr_14⟩ := hp_15
        have hw := hw.to hm
        refine lv_istore_n (lv' := [(2, .int r_14), (1, .int x_1), (0, .ref (A q 0))]) hx hb dX3_welcome_17 rfl hl (by decide) rfl (fun ls hl => ?_)
        refine lv_iload_n hx hb dX3_welcome_18 rfl (lv_at hl 0 rfl) ?_
        refine lv_iconst (v := (-1)) hx hb dX3_welcome_19 (by decide) ?_
        refine sb_icmp_ne (tgt := 24) hx hb rfl (by decide : ((-1) : Int32).toInt = (-1)) dX3_welcome_20 (by decide) (fun c_20_15 => ?_) (fun c_20_15 => ?_)
        · refine lv_aload_n hx hb dX3_welcome_24 rfl (lv_at hl 2 rfl) ?_
          refine lv_iload_n hx hb dX3_welcome_25 rfl (lv_at hl 0 rfl) ?_
          refine ti_callVv (ci := 3) (av := [.int r_14]) C hw (z_X3_append l D A cy hJ M_4 iM_4 q hq r_14 (by omega) (by omega) g_7 hs_8) ⟨ml_X3_168, ym_X3_append, yv_X3_append, yi_X3_append, yc_X3_append⟩ yd_X3_append hq (by decide) rfl rfl hl.1 (Nat.le_of_ble_eq_true rfl) ⟨by decide, by decide⟩ ⟨Nat.zero_le _, Nat.zero_le _⟩ dX3_welcome_26 (fun M_18 H locs hp_18 hw => ?_)
          obtain ⟨iM_18, q_19, q_20, hs_21⟩ := hp_18
          obtain ⟨g_22, eg_22⟩ : ∃ z : Nat → Int, z = bq_ap g_7 r_14.toInt := ⟨_, rfl⟩
          rw [← eg_22] at hs_21
          obtain ⟨x_23, ex_23⟩ : ∃ z : Int32, z = x_1 + 1 := ⟨_, rfl⟩
          have tx_23 : x_23.toInt = x_1.toInt + 1 := i_add ex_23 rfl (by decide) (by omega) (by omega)
          refine lv_iinc (v := x_23) (lv' := [(1, .int x_23), (2, .int r_14), (0, .ref (A q 0))]) hx hb dX3_welcome_29 hl (k := 1) rfl (by rw [ex_23]; rfl) (by decide) rfl (fun ls hl => ?_)
          refine lv_goto (tgt := 2) hx hb dX3_welcome_32 (by decide) ?_
          exact ih_10 x_23 M_18 g_22 _ _ _ (by omega) (by first | omega | decide) (by first | omega | decide) iM_18 ((q_19).trans f_5) (eo.trans q_20 f_6) hs_21 (by rw [← j_9, wl_go (tx := tx) (s := g_7) (f := (tx 4).toNat - x_1.toInt.toNat) (f' := (tx 4).toNat - x_23.toInt.toNat) (by omega) (by omega), ← pr_14, ← eg_22]) hw (lv_sub hl [0, 2] rfl)
        · exact hQ _ _ _ _ _ hw (⟨iM_4, (f_5), f_6, (by rw [← j_9, wl_end (tx := tx) (s := g_7) (f := (tx 4).toNat - x_1.toInt.toNat) (by omega)]; exact hs_8)⟩) dX3_welcome_23
  exact hl_2_9 ((8 - 0 : Int).toNat + 1) 0 M rg _ _ _ (Nat.lt_succ_self _) (by have lt0 : (0 : Int32).toInt = 0 := (by decide); first | omega | decide) (by have lt0 : (0 : Int32).toInt = 0 := (by decide); first | omega | decide) hI rfl eo.refl hs (by show bq_wl tx ((tx 4).toNat - 0) _ = _; rfl) hw (lv_sub hl [0, 1] rfl)
set_option maxHeartbeats 4000000 in
set_option maxRecDepth 100000 in
theorem z_X3_hearCoughs (l : Launch) (D : va_G) (A : Nat → Nat → Nat) (cy : Nat → ClassId) (hJ : ti_inj ti_LT A) (M : ti_M) (hI : cI Tc M) (q t : Nat) (hq : ti_ob ti_LT q 3) (ht : t = 3 ∨ t = 4) (hT : tT M q 0 = some t) (tx rg : Nat → Int) (htx : tC t tx M) (hs : qC q rg M) (hm : rg 1 = 0 ∨ rg 1 = 1 ∨ rg 1 = 3) : ti_Kv l yX3_hearCoughs cX3_hearCoughs 4 3 ti_LT D A cy M [.ref (A q 0)] (fun M2 => cI Tc M2 ∧ M2.2.2.2 = M.2.2.2 ∧ eo q M2 M ∧ qC q (bq_hc tx rg) M2) := by
  refine ti_eV yp_X3_hearCoughs hJ ti_LT_nd (Nat.le_of_ble_eq_true rfl) ?_
  intro p e s m args below meth c Q H0 C hQ hw ls hl
  have hx := C.1
  have hb := C.2.1
  have hl : lv_has ls 4 [(0, .ref (A q 0))] := hl
  refine lv_aload_n hx hb dX3_hearCoughs_0 rfl (lv_at hl 0 rfl) ?_
  refine lv_iconst (v := 1) hx hb dX3_hearCoughs_1 (by decide) ?_
  refine ti_callVi (ci := 3) (av := [.int 1]) C hw (z_X3_is l D A cy hJ M hI q hq 1 rg hs (by omega) (by decide)) ⟨ml_X3_182, ym_X3_is, yv_X3_is, yi_X3_is, yc_X3_is⟩ yd_X3_is hq (by decide) rfl rfl hl.1 (Nat.le_of_ble_eq_true rfl) ⟨by decide, by decide⟩ ⟨Nat.zero_le _, Nat.zero_le _⟩ dX3_hearCoughs_2 (fun r_1 M_2 H locs hp_2 hw => ?_)
  obtain ⟨hm, hz⟩ := hp_2
  have hw := hw.to hm
  try simp only [show (1 : Int32).toInt = 1 by decide] at hz
  rcases hz with ⟨rfl, dg_3⟩ | ⟨rfl, dg_3⟩
  · refine sb_if_eq (tgt := 9) hx hb (by decide : (1 : Int32).toInt = 1) dX3_hearCoughs_5 (by decide) (fun h => absurd h (by decide)) (fun c_5_3 => ?_)
    exact hQ _ _ _ _ _ hw (⟨hI, rfl, eo.refl, (by unfold bq_hc; rw [if_neg (by omega)]; exact hs)⟩) dX3_hearCoughs_8
  · refine sb_if_eq (tgt := 9) hx hb (by decide : (0 : Int32).toInt = 0) dX3_hearCoughs_5 (by decide) (fun c_5_4 => ?_) (fun h => absurd h (by decide))
    refine lv_iconst (v := 0) hx hb dX3_hearCoughs_9 (by decide) ?_
    refine lv_istore_n (lv' := [(1, .int 0), (0, .ref (A q 0))]) hx hb dX3_hearCoughs_10 rfl hl (by decide) rfl (fun ls hl => ?_)
    refine lv_aload_n hx hb dX3_hearCoughs_11 rfl (lv_at hl 1 rfl) ?_
    refine ti_callVi (ci := 3) (av := []) C hw (z_X3_lastHeard l D A cy hJ M hI q t hq ht (hT) tx rg htx hs) ⟨ml_X3_186, ym_X3_lastHeard, yv_X3_lastHeard, yi_X3_lastHeard, yc_X3_lastHeard⟩ yd_X3_lastHeard hq (by decide) rfl rfl hl.1 (Nat.le_of_ble_eq_true rfl) ⟨by decide, by decide⟩ ⟨Nat.zero_le _, Nat.zero_le _⟩ dX3_hearCoughs_12 (fun r_7 M_8 H locs hp_8 hw => ?_)
    obtain ⟨hm, b1r_7, pr_7⟩ := hp_8
    have hw := hw.to hm
    refine lv_istore_n (lv' := [(2, .int r_7), (1, .int 0), (0, .ref (A q 0))]) hx hb dX3_hearCoughs_15 rfl hl (by decide) rfl (fun ls hl => ?_)
    refine lv_iconst (v := 1) hx hb dX3_hearCoughs_16 (by decide) ?_
    refine lv_istore_n (lv' := [(3, .int 1), (2, .int r_7), (1, .int 0), (0, .ref (A q 0))]) hx hb dX3_hearCoughs_17 rfl hl (by decide) rfl (fun ls hl => ?_)
    have hl_18_13 : ∀ (n_14 : Nat) (x_9 : Int32) (x_12 : Int32) (H : Heap) (locs : List Loc) (ls : Array Slot), (8 - x_9.toInt : Int).toNat < n_14 → (1 ≤ x_9.toInt) → (x_9.toInt ≤ 8) → (bq_hs rg ((r_7.toInt) + 1 - (x_9.toInt)).toNat (x_9.toInt).toNat (x_12.toInt) = bq_hs rg (bq_lh tx rg).toNat 1 0) → ti_H ti_LT D A cy H0 M H locs → lv_has ls 4 [(3, .int x_9), (2, .int r_7), (1, .int x_12), (0, .ref (A q 0))] → W p l e (ti_rm 3) s m args below meth c H locs 0 0 Q (F0 m 18 ls []) := by
      intro n_14
      induction n_14 with
      | zero => intro x_9 x_12 H locs ls hf_14; exact absurd hf_14 (Nat.not_lt_zero _)
      | succ n_14 ih_14 =>
        intro x_9 x_12 H locs ls hf_14 b_10 b_11 j_13 hw hl
        refine lv_iload_n hx hb dX3_hearCoughs_18 rfl (lv_at hl 0 rfl) ?_
        refine lv_iload_n hx hb dX3_hearCoughs_19 rfl (lv_at hl 1 rfl) ?_
        refine sb_icmp_gt (tgt := 43) hx hb rfl rfl dX3_hearCoughs_20 (by decide) (fun c_20_14 => ?_) (fun c_20_14 => ?_)
        · have EH : bq_hs rg (bq_lh tx rg).toNat 1 0 = x_12.toInt := by rw [← j_13, hs_end (by omega)]
          refine lv_iload_n hx hb dX3_hearCoughs_43 rfl (lv_at hl 2 rfl) ?_
          refine sb_if_le (tgt := 68) hx hb rfl dX3_hearCoughs_44 (by decide) (fun c_44_21 => ?_) (fun c_44_21 => ?_)
          · refine lv_aload_n hx hb dX3_hearCoughs_68 rfl (lv_at hl 3 rfl) ?_
            refine ti_get (ci := 3) (k := 16) (N := 17) (T := TX3) (v := .ref (A q 17)) C hw iw_3 rfl hq (by decide) (by decide) fl_X3_42 rfl rfl dX3_hearCoughs_69 ?_
            refine lv_iconst (v := 0) hx hb dX3_hearCoughs_72 (by decide) ?_
            refine ti_callSv (av := [.ref (A q 17), .int 0]) C hw (k_fill l D A cy ti_LT_nd hJ M q 16 3 8 0 hq (by decide) (fun _ _ => rfl) (by decide)) ⟨ml_X3_93, ys_J7_fill_53178, yi_J7_fill_53178, yc_J7_fill_53178⟩ yd_J7_fill_53178 rfl hl.1 (Nat.le_of_ble_eq_true rfl) ⟨by decide, by decide⟩ ⟨Nat.zero_le _, Nat.zero_le _⟩ dX3_hearCoughs_73 (fun M_41 H locs hp hw => ?_)
            obtain ⟨g_42, hM_41, hgM_41⟩ := hp
            have iM_41 : cI Tc M_41 := cI_uY hI hM_41 hq.1 (fun _ => trivial)
            have hs_43 : qC q (bq_fc rg) M_41 := qC_fl hs hM_41 hgM_41
            obtain ⟨g_44, eg_44⟩ : ∃ z : Nat → Int, z = bq_fc rg := ⟨_, rfl⟩
            rw [← eg_44] at hs_43
            have E_45 : bq_hc tx rg = g_44 := by unfold bq_hc; rw [if_pos (by omega), EH, if_neg (by omega), ← eg_44]
            exact hQ _ _ _ _ _ hw (⟨iM_41, (rf_Y hM_41), (eo_Y hM_41), (by rw [E_45]; exact hs_43)⟩) dX3_hearCoughs_76
          · refine lv_iload_n hx hb dX3_hearCoughs_47 rfl (lv_at hl 2 rfl) ?_
            refine lv_aload_n hx hb dX3_hearCoughs_48 rfl (lv_at hl 3 rfl) ?_
            refine ti_callVi (ci := 3) (av := []) C hw (z_X3_need l D A cy hJ M hI q t hq ht (hT) tx rg htx hs) ⟨ml_X3_189, ym_X3_need, yv_X3_need, yi_X3_need, yc_X3_need⟩ yd_X3_need hq (by decide) rfl rfl hl.1 (Nat.le_of_ble_eq_true rfl) ⟨by decide, by decide⟩ ⟨Nat.zero_le _, Nat.zero_le _⟩ dX3_hearCoughs_49 (fun r_23 M_24 H locs hp_24 hw => ?_)
            obtain ⟨iM_24, q_25, q_26, q_27, pr_23⟩ := hp_24
            have hs_28 : qC q rg M_24 := qC_of hs q_26 q_27
            refine sb_icmp_lt (tgt := 68) hx hb rfl rfl dX3_hearCoughs_52 (by decide) (fun c_52_28 => ?_) (fun c_52_28 => ?_)
            · refine lv_aload_n hx hb dX3_hearCoughs_68 rfl (lv_at hl 3 rfl) ?_
              refine ti_get (ci := 3) (k := 16) (N := 17) (T := TX3) (v := .ref (A q 17)) C hw iw_3 rfl hq (by decide) (by decide) fl_X3_42 rfl rfl dX3_hearCoughs_69 ?_
              refine lv_iconst (v := 0) hx hb dX3_hearCoughs_72 (by decide) ?_
              refine ti_callSv (av := [.ref (A q 17), .int 0]) C hw (k_fill l D A cy ti_LT_nd hJ M_24 q 16 3 8 0 hq (by decide) (fun _ _ => rfl) (by decide)) ⟨ml_X3_93, ys_J7_fill_53178, yi_J7_fill_53178, yc_J7_fill_53178⟩ yd_J7_fill_53178 rfl hl.1 (Nat.le_of_ble_eq_true rfl) ⟨by decide, by decide⟩ ⟨Nat.zero_le _, Nat.zero_le _⟩ dX3_hearCoughs_73 (fun M_46 H locs hp hw => ?_)
              obtain ⟨g_47, hM_46, hgM_46⟩ := hp
              have iM_46 : cI Tc M_46 := cI_uY iM_24 hM_46 hq.1 (fun _ => trivial)
              have hs_48 : qC q (bq_fc rg) M_46 := qC_fl hs_28 hM_46 hgM_46
              obtain ⟨g_49, eg_49⟩ : ∃ z : Nat → Int, z = bq_fc rg := ⟨_, rfl⟩
              rw [← eg_49] at hs_48
              have E_50 : bq_hc tx rg = g_49 := by unfold bq_hc; rw [if_pos (by omega), EH, if_neg (by omega), ← eg_49]
              exact hQ _ _ _ _ _ hw (⟨iM_46, ((rf_Y hM_46).trans q_25), (eo.trans (eo_Y hM_46) (eo_of q_26 q_27)), (by rw [E_50]; exact hs_48)⟩) dX3_hearCoughs_76
            · refine lv_aload_n hx hb dX3_hearCoughs_55 rfl (lv_at hl 3 rfl) ?_
              refine ti_callVi (ci := 3) (av := []) C hw (z_X3_isGuarded l D A cy hJ M_24 iM_24 q t hq ht ((tT_fr q_25).trans hT) tx rg (tC_eo ht hq.1 htx (eo_of q_26 q_27)) hs_28) ⟨ml_X3_192, ym_X3_isGuarded, yv_X3_isGuarded, yi_X3_isGuarded, yc_X3_isGuarded⟩ yd_X3_isGuarded hq (by decide) rfl rfl hl.1 (Nat.le_of_ble_eq_true rfl) ⟨by decide, by decide⟩ ⟨Nat.zero_le _, Nat.zero_le _⟩ dX3_hearCoughs_56 (fun r_30 M_31 H locs hp_31 hw => ?_)
              obtain ⟨hm, hz⟩ := hp_31
              have hw := hw.to hm
              rcases hz with ⟨rfl, dg_32⟩ | ⟨rfl, dg_32⟩
              · refine sb_if_ne (tgt := 68) hx hb (by decide : (1 : Int32).toInt = 1) dX3_hearCoughs_59 (by decide) (fun c_59_32 => ?_) (fun h => absurd h (by decide))
                refine lv_aload_n hx hb dX3_hearCoughs_68 rfl (lv_at hl 3 rfl) ?_
                refine ti_get (ci := 3) (k := 16) (N := 17) (T := TX3) (v := .ref (A q 17)) C hw iw_3 rfl hq (by decide) (by decide) fl_X3_42 rfl rfl dX3_hearCoughs_69 ?_
                refine lv_iconst (v := 0) hx hb dX3_hearCoughs_72 (by decide) ?_
                refine ti_callSv (av := [.ref (A q 17), .int 0]) C hw (k_fill l D A cy ti_LT_nd hJ M_24 q 16 3 8 0 hq (by decide) (fun _ _ => rfl) (by decide)) ⟨ml_X3_93, ys_J7_fill_53178, yi_J7_fill_53178, yc_J7_fill_53178⟩ yd_J7_fill_53178 rfl hl.1 (Nat.le_of_ble_eq_true rfl) ⟨by decide, by decide⟩ ⟨Nat.zero_le _, Nat.zero_le _⟩ dX3_hearCoughs_73 (fun M_51 H locs hp hw => ?_)
                obtain ⟨g_52, hM_51, hgM_51⟩ := hp
                have iM_51 : cI Tc M_51 := cI_uY iM_24 hM_51 hq.1 (fun _ => trivial)
                have hs_53 : qC q (bq_fc rg) M_51 := qC_fl hs_28 hM_51 hgM_51
                obtain ⟨g_54, eg_54⟩ : ∃ z : Nat → Int, z = bq_fc rg := ⟨_, rfl⟩
                rw [← eg_54] at hs_53
                have E_55 : bq_hc tx rg = g_54 := by unfold bq_hc; rw [if_pos (by omega), EH, if_neg (by omega), ← eg_54]
                exact hQ _ _ _ _ _ hw (⟨iM_51, ((rf_Y hM_51).trans q_25), (eo.trans (eo_Y hM_51) (eo_of q_26 q_27)), (by rw [E_55]; exact hs_53)⟩) dX3_hearCoughs_76
              · refine sb_if_ne (tgt := 68) hx hb (by decide : (0 : Int32).toInt = 0) dX3_hearCoughs_59 (by decide) (fun h => absurd h (by decide)) (fun c_59_33 => ?_)
                refine lv_aload_n hx hb dX3_hearCoughs_62 rfl (lv_at hl 3 rfl) ?_
                refine lv_iconst (v := 0) hx hb dX3_hearCoughs_63 (by decide) ?_
                refine lv_iconst (v := 3) hx hb dX3_hearCoughs_64 (by decide) ?_
                refine ti_callVv (ci := 3) (av := [.int 0, .int 3]) C hw (z_X3_remove l D A cy hJ M_24 iM_24 q hq 0 3 rg hs_28) ⟨ml_X3_196, ym_X3_remove, yv_X3_remove, yi_X3_remove, yc_X3_remove⟩ yd_X3_remove hq (by decide) rfl rfl hl.1 (Nat.le_of_ble_eq_true rfl) ⟨by decide, by decide⟩ ⟨Nat.zero_le _, Nat.zero_le _⟩ dX3_hearCoughs_65 (fun M_36 H locs hp_36 hw => ?_)
                obtain ⟨iM_36, q_37, q_38, hs_39⟩ := hp_36
                try simp only [show (0 : Int32).toInt = 0 by decide] at hs_39
                try simp only [show (3 : Int32).toInt = 3 by decide] at hs_39
                obtain ⟨g_40, eg_40⟩ : ∃ z : Nat → Int, z = bq_rm rg 0 3 := ⟨_, rfl⟩
                rw [← eg_40] at hs_39
                refine lv_aload_n hx hb dX3_hearCoughs_68 rfl (lv_at hl 3 rfl) ?_
                refine ti_get (ci := 3) (k := 16) (N := 17) (T := TX3) (v := .ref (A q 17)) C hw iw_3 rfl hq (by decide) (by decide) fl_X3_42 rfl rfl dX3_hearCoughs_69 ?_
                refine lv_iconst (v := 0) hx hb dX3_hearCoughs_72 (by decide) ?_
                refine ti_callSv (av := [.ref (A q 17), .int 0]) C hw (k_fill l D A cy ti_LT_nd hJ M_36 q 16 3 8 0 hq (by decide) (fun _ _ => rfl) (by decide)) ⟨ml_X3_93, ys_J7_fill_53178, yi_J7_fill_53178, yc_J7_fill_53178⟩ yd_J7_fill_53178 rfl hl.1 (Nat.le_of_ble_eq_true rfl) ⟨by decide, by decide⟩ ⟨Nat.zero_le _, Nat.zero_le _⟩ dX3_hearCoughs_73 (fun M_56 H locs hp hw => ?_)
                obtain ⟨g_57, hM_56, hgM_56⟩ := hp
                have iM_56 : cI Tc M_56 := cI_uY iM_36 hM_56 hq.1 (fun _ => trivial)
                have hs_58 : qC q (bq_fc g_40) M_56 := qC_fl hs_39 hM_56 hgM_56
                obtain ⟨g_59, eg_59⟩ : ∃ z : Nat → Int, z = bq_fc g_40 := ⟨_, rfl⟩
                rw [← eg_59] at hs_58
                have E_60 : bq_hc tx rg = g_59 := by unfold bq_hc; rw [if_pos (by omega), EH, if_pos (by omega), ← eg_40, ← eg_59]
                exact hQ _ _ _ _ _ hw (⟨iM_56, ((rf_Y hM_56).trans ((q_37).trans q_25)), (eo.trans (eo_Y hM_56) (eo.trans q_38 (eo_of q_26 q_27))), (by rw [E_60]; exact hs_58)⟩) dX3_hearCoughs_76
        · refine lv_iload_n hx hb dX3_hearCoughs_23 rfl (lv_at hl 2 rfl) ?_
          refine lv_aload_n hx hb dX3_hearCoughs_24 rfl (lv_at hl 3 rfl) ?_
          refine ti_get (ci := 3) (k := 16) (N := 17) (T := TX3) (v := .ref (A q 17)) C hw iw_3 rfl hq (by decide) (by decide) fl_X3_42 rfl rfl dX3_hearCoughs_25 ?_
          refine lv_aload_n hx hb dX3_hearCoughs_28 rfl (lv_at hl 3 rfl) ?_
          refine ti_get (ci := 3) (k := 6) (N := 17) (T := TX3) (v := .ref (A q 7)) C hw iw_3 rfl hq (by decide) (by decide) fl_X3_9 rfl rfl dX3_hearCoughs_29 ?_
          refine lv_iload_n hx hb dX3_hearCoughs_32 rfl (lv_at hl 0 rfl) ?_
          refine ti_iald (ci := 3) (k := 6) (n := 8) C hw hq (by decide) (fun _ _ => rfl) (vp_in_iff.mpr (by omega)) dX3_hearCoughs_33 ?_
          refine lv_topi (fun x_16 ex_16 => ?_)
          have bx_16 : 0 ≤ x_16.toInt ∧ x_16.toInt ≤ 7 := cI_ry hI hq.1 ex_16
          have L_17 : rg (96 + x_9.toInt.toNat) = x_16.toInt := qC_y (k := 6) hs rfl (by omega) (by omega) (by decide) (by decide) ex_16
          refine ti_iald (ci := 3) (k := 16) (n := 8) C hw hq (by decide) (fun _ _ => rfl) (vp_in_iff.mpr (by omega)) dX3_hearCoughs_34 ?_
          refine lv_topi (fun x_18 ex_18 => ?_)
          have L_19 : rg (256 + x_16.toInt.toNat) = x_18.toInt := qC_y (k := 16) hs rfl (by omega) (by omega) (by decide) (by decide) ex_18
          refine lv_iadd hx hb dX3_hearCoughs_35 ?_
          refine lv_topi (fun x_20 ex_20 => ?_)
          have tx_20 : x_20.toInt = bw (x_12.toInt + x_18.toInt) := bw_add ex_20 rfl rfl
          refine lv_istore_n (lv' := [(1, .int x_20), (3, .int x_9), (2, .int r_7), (0, .ref (A q 0))]) hx hb dX3_hearCoughs_36 rfl hl (by decide) rfl (fun ls hl => ?_)
          obtain ⟨x_21, ex_21⟩ : ∃ z : Int32, z = x_9 + 1 := ⟨_, rfl⟩
          have tx_21 : x_21.toInt = x_9.toInt + 1 := i_add ex_21 rfl (by decide) (by omega) (by omega)
          refine lv_iinc (v := x_21) (lv' := [(3, .int x_21), (1, .int x_20), (2, .int r_7), (0, .ref (A q 0))]) hx hb dX3_hearCoughs_37 hl (k := 1) rfl (by rw [ex_21]; rfl) (by decide) rfl (fun ls hl => ?_)
          refine lv_goto (tgt := 18) hx hb dX3_hearCoughs_40 (by decide) ?_
          exact ih_14 x_21 x_20 _ _ _ (by omega) (by first | omega | decide) (by first | omega | decide) (by rw [← j_13, hs_go (s := rg) (f := (r_7.toInt + 1 - x_9.toInt).toNat) (f' := (r_7.toInt + 1 - x_21.toInt).toNat) (p := x_9.toInt.toNat) (h := x_12.toInt) (by omega), L_17, L_19, ← tx_20, show x_21.toInt.toNat = x_9.toInt.toNat + 1 by omega]) hw (lv_sub hl [0, 2, 1, 3] rfl)
    exact hl_18_13 ((8 - 1 : Int).toNat + 1) 1 0 _ _ _ (Nat.lt_succ_self _) (by have lt0 : (0 : Int32).toInt = 0 := (by decide); have lt1 : (1 : Int32).toInt = 1 := (by decide); first | omega | decide) (by have lt0 : (0 : Int32).toInt = 0 := (by decide); have lt1 : (1 : Int32).toInt = 1 := (by decide); first | omega | decide) (by rw [show (1 : Int32).toInt = 1 by decide, show (0 : Int32).toInt = 0 by decide, show r_7.toInt + 1 - 1 = bq_lh tx rg by omega]; rfl) hw (lv_sub hl [0, 1, 2, 3] rfl)
set_option maxHeartbeats 4000000 in
set_option maxRecDepth 100000 in
theorem z_X3_pour (l : Launch) (D : va_G) (A : Nat → Nat → Nat) (cy : Nat → ClassId) (hJ : ti_inj ti_LT A) (M : ti_M) (hI : cI Tc M) (q t : Nat) (hq : ti_ob ti_LT q 3) (ht : t = 3 ∨ t = 4) (hT : tT M q 0 = some t) (tx rg : Nat → Int) (htx : tC t tx M) (hs : qC q rg M) (hm : rg 1 = 0 ∨ rg 1 = 1 ∨ rg 1 = 3) : ti_Kv l yX3_pour cX3_pour 4 1 ti_LT D A cy M [.ref (A q 0)] (fun M2 => cI Tc M2 ∧ M2.2.2.2 = M.2.2.2 ∧ eo q M2 M ∧ qC q (bq_pr tx rg) M2) := by
  refine ti_eV yp_X3_pour hJ ti_LT_nd (Nat.le_of_ble_eq_true rfl) ?_
  intro p e s m args below meth c Q H0 C hQ hw ls hl
  have hx := C.1
  have hb := C.2.1
  have hl : lv_has ls 4 [(0, .ref (A q 0))] := hl
  refine lv_aload_n hx hb dX3_pour_0 rfl (lv_at hl 0 rfl) ?_
  refine ti_get (ci := 3) (k := 3) (N := 17) (T := TX3) C hw iw_3 rfl hq (by decide) (by decide) fl_X3_56 rfl rfl dX3_pour_1 ?_
  refine lv_topi (fun x_1 ex_1 => ?_)
  have bx_1 : 0 ≤ x_1.toInt ∧ x_1.toInt ≤ 8 := cI_rd hI hq.1 ex_1
  have ux_1 : (tI M q 3).toInt = x_1.toInt := by rw [ex_1]
  have L_2 : rg 3 = x_1.toInt := ((hs.1 3 (by decide) (by decide)).trans (congrArg Int32.toInt (ex_1.symm))).trans rfl
  refine sb_if_ne (tgt := 8) hx hb rfl dX3_pour_4 (by decide) (fun c_4_2 => ?_) (fun c_4_2 => ?_)
  · refine lv_aload_n hx hb dX3_pour_8 rfl (lv_at hl 0 rfl) ?_
    refine ti_get (ci := 3) (k := 6) (N := 17) (T := TX3) (v := .ref (A q 7)) C hw iw_3 rfl hq (by decide) (by decide) fl_X3_9 rfl rfl dX3_pour_9 ?_
    refine lv_iconst (v := 0) hx hb dX3_pour_12 (by decide) ?_
    refine ti_iald (ci := 3) (k := 6) (n := 8) C hw hq (by decide) (fun _ _ => rfl) (by unfold vp_in; decide) dX3_pour_13 ?_
    refine lv_topi (fun x_5 ex_5 => ?_)
    have bx_5 : 0 ≤ x_5.toInt ∧ x_5.toInt ≤ 7 := cI_ry hI hq.1 ex_5
    have L_6 : rg 96 = x_5.toInt := (hs.2 6 0 (by decide) (by decide) (by decide) (by decide)).trans (congrArg Int32.toInt ex_5.symm)
    refine lv_istore_n (lv' := [(1, .int x_5), (0, .ref (A q 0))]) hx hb dX3_pour_14 rfl hl (by decide) rfl (fun ls hl => ?_)
    refine lv_aload_n hx hb dX3_pour_15 rfl (lv_at hl 1 rfl) ?_
    refine lv_bipush (v := 32) hx hb dX3_pour_16 (by decide) ?_
    refine ti_callVi (ci := 3) (av := [.int 32]) C hw (z_X3_is l D A cy hJ M hI q hq 32 rg hs (by omega) (by decide)) ⟨ml_X3_182, ym_X3_is, yv_X3_is, yi_X3_is, yc_X3_is⟩ yd_X3_is hq (by decide) rfl rfl hl.1 (Nat.le_of_ble_eq_true rfl) ⟨by decide, by decide⟩ ⟨Nat.zero_le _, Nat.zero_le _⟩ dX3_pour_18 (fun r_7 M_8 H locs hp_8 hw => ?_)
    obtain ⟨hm, hz⟩ := hp_8
    have hw := hw.to hm
    try simp only [show (32 : Int32).toInt = 32 by decide] at hz
    rcases hz with ⟨rfl, dg_9⟩ | ⟨rfl, dg_9⟩
    · exfalso; omega
    · refine sb_if_eq (tgt := 36) hx hb (by decide : (0 : Int32).toInt = 0) dX3_pour_21 (by decide) (fun c_21_9 => ?_) (fun h => absurd h (by decide))
      refine lv_aload_n hx hb dX3_pour_36 rfl (lv_at hl 1 rfl) ?_
      refine ti_get (ci := 3) (k := 0) (N := 17) (T := TX3) (v := .ref (A t 0)) C hw iw_3 rfl hq (by decide) (by decide) fl_X3_45 rfl (ti_Tv (hT)) dX3_pour_37 ?_
      refine ti_get (ci := 8) (k := 7) (N := 12) (T := TX8) C hw iw_8 rfl (ob_t ht) (by decide) (by decide) fl_X3_200 rfl rfl dX3_pour_40 ?_
      refine lv_topi (fun x_11 ex_11 => ?_)
      have L_12 : tx 7 = x_11.toInt := ((htx.1 7 (by decide) (by decide)).trans (congrArg Int32.toInt (ex_11.symm))).trans rfl
      refine lv_istore_n (lv' := [(2, .int x_11), (1, .int x_5), (0, .ref (A q 0))]) hx hb dX3_pour_43 rfl hl (by decide) rfl (fun ls hl => ?_)
      refine lv_iload_n hx hb dX3_pour_44 rfl (lv_at hl 0 rfl) ?_
      refine lv_aload_n hx hb dX3_pour_45 rfl (lv_at hl 2 rfl) ?_
      refine ti_get (ci := 3) (k := 0) (N := 17) (T := TX3) (v := .ref (A t 0)) C hw iw_3 rfl hq (by decide) (by decide) fl_X3_45 rfl (ti_Tv (hT)) dX3_pour_46 ?_
      refine ti_get (ci := 8) (k := 0) (N := 12) (T := TX8) (v := .ref (A t 1)) C hw iw_8 rfl (ob_t ht) (by decide) (by decide) fl_X3_81 rfl rfl dX3_pour_49 ?_
      refine lv_iload_n hx hb dX3_pour_52 rfl (lv_at hl 1 rfl) ?_
      refine ti_aald (ci := 8) (k := 0) (n := 8) (t0 := 5) (Cn := RX2) (gg := (ti_men t)) (j := x_5.toNatClampNeg) C hw (ob_t ht) (by decide) (fun _ _ => rfl) rfl (vp_in_iff.mpr (by omega)) rfl dX3_pour_53 ?_
      have ob_13 : ti_ob ti_LT (ti_men t x_5.toNatClampNeg) 2 := ob_m ht (i_nt rfl (by omega) (by omega))
      refine ti_get (ci := 2) (k := 4) (N := 10) (T := TX2) C hw iw_2 rfl ob_13 (by decide) (by decide) fl_X3_203 rfl rfl dX3_pour_54 ?_
      refine lv_topi (fun x_14 ex_14 => ?_)
      have L_15 : tx (100 + 16 * x_5.toInt.toNat + 4) = x_14.toInt := (((show tx (100 + 16 * x_5.toInt.toNat + 4) = _ from by rw [← (show x_5.toNatClampNeg = x_5.toInt.toNat from congrArg Int.toNat rfl)]; exact htx.2.2.1 x_5.toNatClampNeg 4 (i_nt (n := 8) rfl (by omega) (by omega)) (by decide) (by decide))).trans (congrArg Int32.toInt (ex_14.symm))).trans rfl
      refine lv_aload_n hx hb dX3_pour_57 rfl (lv_at hl 2 rfl) ?_
      refine ti_get (ci := 3) (k := 11) (N := 17) (T := TX3) (v := .ref (A q 12)) C hw iw_3 rfl hq (by decide) (by decide) fl_X3_27 rfl rfl dX3_pour_58 ?_
      refine lv_iload_n hx hb dX3_pour_61 rfl (lv_at hl 1 rfl) ?_
      refine ti_iald (ci := 3) (k := 11) (n := 8) C hw hq (by decide) (fun _ _ => rfl) (vp_in_iff.mpr (by omega)) dX3_pour_62 ?_
      refine lv_topi (fun x_16 ex_16 => ?_)
      have L_17 : rg (176 + x_5.toInt.toNat) = x_16.toInt := qC_y (k := 11) hs rfl (by omega) (by omega) (by decide) (by decide) ex_16
      refine lv_isub hx hb dX3_pour_63 ?_
      refine lv_topi (fun x_18 ex_18 => ?_)
      have tx_18 : x_18.toInt = bw (x_14.toInt - x_16.toInt) := bw_sub ex_18 rfl rfl
      refine ti_min C ml_X3_137 hl.1 (by decide) (Nat.le_of_ble_eq_true rfl) ⟨Nat.zero_le _, Nat.zero_le _⟩ dX3_pour_64 ?_
      refine lv_topi (fun x_19 ex_19 => ?_)
      have bx_19 := i_min ex_19 rfl rfl
      refine lv_istore_n (lv' := [(3, .int x_19), (2, .int x_11), (1, .int x_5), (0, .ref (A q 0))]) hx hb dX3_pour_67 rfl hl (by decide) rfl (fun ls hl => ?_)
      refine lv_aload_n hx hb dX3_pour_68 rfl (lv_at hl 3 rfl) ?_
      refine lv_bipush (v := 16) hx hb dX3_pour_69 (by decide) ?_
      refine ti_callVi (ci := 3) (av := [.int 16]) C hw (z_X3_is l D A cy hJ M hI q hq 16 rg hs (by omega) (by decide)) ⟨ml_X3_182, ym_X3_is, yv_X3_is, yi_X3_is, yc_X3_is⟩ yd_X3_is hq (by decide) rfl rfl hl.1 (Nat.le_of_ble_eq_true rfl) ⟨by decide, by decide⟩ ⟨Nat.zero_le _, Nat.zero_le _⟩ dX3_pour_71 (fun r_20 M_21 H locs hp_21 hw => ?_)
      obtain ⟨hm, hz⟩ := hp_21
      have hw := hw.to hm
      try simp only [show (16 : Int32).toInt = 16 by decide] at hz
      rcases hz with ⟨rfl, dg_22⟩ | ⟨rfl, dg_22⟩
      · exfalso; omega
      · refine sb_if_ne (tgt := 96) hx hb (by decide : (0 : Int32).toInt = 0) dX3_pour_74 (by decide) (fun h => absurd h (by decide)) (fun c_74_22 => ?_)
        refine lv_iload_n hx hb dX3_pour_77 rfl (lv_at hl 0 rfl) ?_
        refine lv_aload_n hx hb dX3_pour_78 rfl (lv_at hl 3 rfl) ?_
        refine ti_get (ci := 3) (k := 4) (N := 17) (T := TX3) C hw iw_3 rfl hq (by decide) (by decide) fl_X3_64 rfl rfl dX3_pour_79 ?_
        refine lv_topi (fun x_24 ex_24 => ?_)
        have L_25 : rg 4 = x_24.toInt := ((hs.1 4 (by decide) (by decide)).trans (congrArg Int32.toInt (ex_24.symm))).trans rfl
        refine ti_min C ml_X3_137 hl.1 (by decide) (Nat.le_of_ble_eq_true rfl) ⟨Nat.zero_le _, Nat.zero_le _⟩ dX3_pour_82 ?_
        refine lv_topi (fun x_26 ex_26 => ?_)
        have bx_26 := i_min ex_26 rfl rfl
        refine lv_istore_n (lv' := [(3, .int x_26), (2, .int x_11), (1, .int x_5), (0, .ref (A q 0))]) hx hb dX3_pour_85 rfl hl (by decide) rfl (fun ls hl => ?_)
        have EN : bq_pn tx rg = x_26.toInt := by unfold bq_pn; rw [L_6, L_15, L_17, ← tx_18]; unfold bq_mn; (repeat' split) <;> omega
        refine lv_aload_n hx hb dX3_pour_86 rfl (lv_at hl 3 rfl) ?_
        refine lv_dup hx hb dX3_pour_87 rfl ?_
        refine ti_get (ci := 3) (k := 4) (N := 17) (T := TX3) C hw iw_3 rfl hq (by decide) (by decide) fl_X3_64 rfl rfl dX3_pour_88 ?_
        refine ti_top (y := x_24) (ex_24.symm) ?_
        have L_27 : rg 4 = x_24.toInt := ((hs.1 4 (by decide) (by decide)).trans (congrArg Int32.toInt (ex_24.symm))).trans rfl
        refine lv_iload_n hx hb dX3_pour_91 rfl (lv_at hl 0 rfl) ?_
        refine lv_isub hx hb dX3_pour_92 ?_
        refine lv_topi (fun x_28 ex_28 => ?_)
        have tx_28 : x_28.toInt = bw (x_24.toInt - x_26.toInt) := bw_sub ex_28 rfl rfl
        refine ti_putI (ci := 3) (k := 4) (N := 17) (T := TX3) C hw iw_3 tyX3 tyX3_ok nmX3 rfl hq (by decide) (by decide) fl_X3_64 rfl rfl rfl rfl (fn_3 A _) fs_3_4 dX3_pour_93 (fun H locs hw => ?_)
        obtain ⟨M_29, hM_29⟩ : ∃ z : ti_M, z = uI M q 4 x_28 := ⟨_, rfl⟩
        have hw := hw.to hM_29.symm
        have iM_29 : cI Tc M_29 := cI_uI hI hM_29 hq.1 trivial
        have hs_30 : qC q (pp_su rg 4 x_28.toInt) M_29 := qC_I hs rfl hM_29 (by decide)
        obtain ⟨g_31, eg_31⟩ : ∃ z : Nat → Int, z = pp_su rg 4 x_28.toInt := ⟨_, rfl⟩
        rw [← eg_31] at hs_30
        have sg_31 : g_31 4 = x_28.toInt := by rw [eg_31, su_s]
        refine lv_aload_n hx hb dX3_pour_96 rfl (lv_at hl 3 rfl) ?_
        refine ti_get (ci := 3) (k := 11) (N := 17) (T := TX3) (v := .ref (A q 12)) C hw iw_3 rfl hq (by decide) (by decide) fl_X3_27 rfl rfl dX3_pour_97 ?_
        refine lv_iload_n hx hb dX3_pour_100 rfl (lv_at hl 2 rfl) ?_
        refine lv_dup2_11 hx hb dX3_pour_101 rfl rfl ?_
        refine ti_iald (ci := 3) (k := 11) (n := 8) C hw hq (by decide) (fun _ _ => rfl) (vp_in_iff.mpr (by omega)) dX3_pour_102 ?_
        refine lv_topi (fun x_32 ex_32 => ?_)
        have L_33 : g_31 (176 + x_5.toInt.toNat) = x_32.toInt := qC_y (k := 11) hs_30 rfl (by omega) (by omega) (by decide) (by decide) ex_32
        have L_34 : rg (176 + x_5.toInt.toNat) = x_32.toInt := (show g_31 (176 + x_5.toInt.toNat) = rg (176 + x_5.toInt.toNat) by rw [eg_31, su_n (by omega)]).symm.trans L_33
        refine lv_iload_n hx hb dX3_pour_103 rfl (lv_at hl 0 rfl) ?_
        refine lv_iadd hx hb dX3_pour_104 ?_
        refine lv_topi (fun x_35 ex_35 => ?_)
        have tx_35 : x_35.toInt = bw (x_32.toInt + x_26.toInt) := bw_add ex_35 rfl rfl
        refine ti_iast (ci := 3) (k := 11) (n := 8) C hw hq (by decide) (fun _ _ => rfl) (vp_in_iff.mpr (by omega)) dX3_pour_105 (fun H locs hw => ?_)
        obtain ⟨M_36, hM_36⟩ : ∃ z : ti_M, z = uY M_29 q 11 (upd (tY M_29 q 11) (x_5 : Int32).toNatClampNeg x_35) := ⟨_, rfl⟩
        have hw := hw.to hM_36.symm
        have iM_36 : cI Tc M_36 := cI_up iM_29 hM_36 hq.1 trivial
        have hs_37 : qC q (pp_su g_31 (176 + x_5.toInt.toNat) x_35.toInt) M_36 := qC_Y (k := 11) (j := x_5.toInt.toNat) (i := x_5) hs_30 (by omega) rfl hM_36 (by decide) (by omega)
        obtain ⟨g_38, eg_38⟩ : ∃ z : Nat → Int, z = pp_su g_31 (176 + x_5.toInt.toNat) x_35.toInt := ⟨_, rfl⟩
        rw [← eg_38] at hs_37
        have E_39 : bq_pr tx rg = g_38 := by unfold bq_pr; rw [if_neg (by omega), EN, L_6, show rg 4 = x_24.toInt by omega, show rg (176 + x_5.toInt.toNat) = x_32.toInt by omega, ← tx_28, ← tx_35, ← eg_31, ← eg_38]
        exact hQ _ _ _ _ _ hw (⟨iM_36, ((rf_Y hM_36).trans (rf_I hM_29)), (eo.trans (eo_Y hM_36) (eo_I hM_29)), (by rw [E_39]; exact hs_37)⟩) dX3_pour_106
  · exact hQ _ _ _ _ _ hw (⟨hI, rfl, eo.refl, (by unfold bq_pr; rw [if_pos (by omega)]; exact hs)⟩) dX3_pour_7
set_option maxHeartbeats 4000000 in
set_option maxRecDepth 100000 in
theorem z_X3_levy (l : Launch) (D : va_G) (A : Nat → Nat → Nat) (cy : Nat → ClassId) (hJ : ti_inj ti_LT A) (M : ti_M) (hI : cI Tc M) (q t : Nat) (hq : ti_ob ti_LT q 3) (ht : t = 3 ∨ t = 4) (hT : tT M q 0 = some t) (tx rg : Nat → Int) (htx : tC t tx M) (hs : qC q rg M) (hm : rg 1 = 0 ∨ rg 1 = 1 ∨ rg 1 = 3) (h2 : 0 ≤ rg 2) : ti_Kv l yX3_levy cX3_levy 6 2 ti_LT D A cy M [.ref (A q 0)] (fun M2 => cI Tc M2 ∧ M2.2.2.2 = M.2.2.2 ∧ eo q M2 M ∧ qC q (bq_ly tx rg) M2) := by
  refine ti_eV yp_X3_levy hJ ti_LT_nd (Nat.le_of_ble_eq_true rfl) ?_
  intro p e s m args below meth c Q H0 C hQ hw ls hl
  have hx := C.1
  have hb := C.2.1
  have hl : lv_has ls 6 [(0, .ref (A q 0))] := hl
  refine lv_aload_n hx hb dX3_levy_0 rfl (lv_at hl 0 rfl) ?_
  refine lv_aload_n hx hb dX3_levy_1 rfl (lv_at hl 0 rfl) ?_
  refine ti_get (ci := 3) (k := 7) (N := 17) (T := TX3) (v := .ref (A q 8)) C hw iw_3 rfl hq (by decide) (by decide) fl_X3_15 rfl rfl dX3_levy_2 ?_
  refine lv_iconst (v := 2) hx hb dX3_levy_5 (by decide) ?_
  refine ti_iald (ci := 3) (k := 7) (n := 3) C hw hq (by decide) (fun _ _ => rfl) (by unfold vp_in; decide) dX3_levy_6 ?_
  refine lv_topi (fun x_1 ex_1 => ?_)
  have L_2 : rg 114 = x_1.toInt := (hs.2 7 2 (by decide) (by decide) (by decide) (by decide)).trans (congrArg Int32.toInt ex_1.symm)
  refine ti_callVi (ci := 3) (av := [.int x_1]) C hw (z_X3_manAt l D A cy hJ M hI q hq x_1 rg hs) ⟨ml_X3_99, ym_X3_manAt, yv_X3_manAt, yi_X3_manAt, yc_X3_manAt⟩ yd_X3_manAt hq (by decide) rfl rfl hl.1 (Nat.le_of_ble_eq_true rfl) ⟨by decide, by decide⟩ ⟨Nat.zero_le _, Nat.zero_le _⟩ dX3_levy_7 (fun r_3 M_4 H locs hp_4 hw => ?_)
  obtain ⟨hm, b0r_3, b1r_3, pr_3, p0r_3⟩ := hp_4
  have hw := hw.to hm
  refine lv_istore_n (lv' := [(1, .int r_3), (0, .ref (A q 0))]) hx hb dX3_levy_10 rfl hl (by decide) rfl (fun ls hl => ?_)
  refine lv_aload_n hx hb dX3_levy_11 rfl (lv_at hl 1 rfl) ?_
  refine lv_iconst (v := 4) hx hb dX3_levy_12 (by decide) ?_
  refine ti_callVi (ci := 3) (av := [.int 4]) C hw (z_X3_is l D A cy hJ M hI q hq 4 rg hs (by omega) (by decide)) ⟨ml_X3_182, ym_X3_is, yv_X3_is, yi_X3_is, yc_X3_is⟩ yd_X3_is hq (by decide) rfl rfl hl.1 (Nat.le_of_ble_eq_true rfl) ⟨by decide, by decide⟩ ⟨Nat.zero_le _, Nat.zero_le _⟩ dX3_levy_13 (fun r_5 M_6 H locs hp_6 hw => ?_)
  obtain ⟨hm, hz⟩ := hp_6
  have hw := hw.to hm
  try simp only [show (4 : Int32).toInt = 4 by decide] at hz
  rcases hz with ⟨rfl, dg_7⟩ | ⟨rfl, dg_7⟩
  · exfalso; omega
  · refine sb_if_ne (tgt := 49) hx hb (by decide : (0 : Int32).toInt = 0) dX3_levy_16 (by decide) (fun h => absurd h (by decide)) (fun c_16_7 => ?_)
    refine lv_iload_n hx hb dX3_levy_19 rfl (lv_at hl 0 rfl) ?_
    refine sb_if_lt (tgt := 49) hx hb rfl dX3_levy_20 (by decide) (fun c_20_8 => ?_) (fun c_20_8 => ?_)
    · exact hQ _ _ _ _ _ hw (⟨hI, rfl, eo.refl, (by unfold bq_ly; rw [if_pos (by first | omega | (rw [L_2]; omega))]; exact hs)⟩) dX3_levy_49
    · refine lv_aload_n hx hb dX3_levy_23 rfl (lv_at hl 1 rfl) ?_
      refine ti_get (ci := 3) (k := 0) (N := 17) (T := TX3) (v := .ref (A t 0)) C hw iw_3 rfl hq (by decide) (by decide) fl_X3_45 rfl (ti_Tv (hT)) dX3_levy_24 ?_
      refine ti_get (ci := 8) (k := 8) (N := 12) (T := TX8) C hw iw_8 rfl (ob_t ht) (by decide) (by decide) fl_X3_206 rfl rfl dX3_levy_27 ?_
      refine lv_topi (fun x_10 ex_10 => ?_)
      have L_11 : tx 8 = x_10.toInt := ((htx.1 8 (by decide) (by decide)).trans (congrArg Int32.toInt (ex_10.symm))).trans rfl
      refine lv_iconst (v := 1) hx hb dX3_levy_30 (by decide) ?_
      refine sb_icmp_lt (tgt := 49) hx hb rfl (by decide : (1 : Int32).toInt = 1) dX3_levy_31 (by decide) (fun c_31_11 => ?_) (fun c_31_11 => ?_)
      · exact hQ _ _ _ _ _ hw (⟨hI, rfl, eo.refl, (by unfold bq_ly; rw [if_pos (by first | omega | (rw [L_2]; omega))]; exact hs)⟩) dX3_levy_49
      · refine lv_aload_n hx hb dX3_levy_34 rfl (lv_at hl 1 rfl) ?_
        refine ti_get (ci := 3) (k := 2) (N := 17) (T := TX3) C hw iw_3 rfl hq (by decide) (by decide) fl_X3_53 rfl rfl dX3_levy_35 ?_
        refine lv_topi (fun x_13 ex_13 => ?_)
        have L_14 : rg 2 = x_13.toInt := ((hs.1 2 (by decide) (by decide)).trans (congrArg Int32.toInt (ex_13.symm))).trans rfl
        refine lv_aload_n hx hb dX3_levy_38 rfl (lv_at hl 1 rfl) ?_
        refine ti_get (ci := 3) (k := 0) (N := 17) (T := TX3) (v := .ref (A t 0)) C hw iw_3 rfl hq (by decide) (by decide) fl_X3_45 rfl (ti_Tv (hT)) dX3_levy_39 ?_
        refine ti_get (ci := 8) (k := 8) (N := 12) (T := TX8) C hw iw_8 rfl (ob_t ht) (by decide) (by decide) fl_X3_206 rfl rfl dX3_levy_42 ?_
        refine ti_top (y := x_10) (ex_10.symm) ?_
        have L_15 : tx 8 = x_10.toInt := ((htx.1 8 (by decide) (by decide)).trans (congrArg Int32.toInt (ex_10.symm))).trans rfl
        refine lv_irem hx hb dX3_levy_45 (nz (by omega)) ?_
        refine lv_topi (fun x_16 ex_16 => ?_)
        have rx_16 := i_rem ex_16 rfl rfl (by omega) (by omega)
        have rm : rg 2 % tx 8 = x_16.toInt := by rw [L_14, L_15]; exact rx_16.2.2.symm
        refine sb_if_eq (tgt := 50) hx hb rfl dX3_levy_46 (by decide) (fun c_46_16 => ?_) (fun c_46_16 => ?_)
        · refine lv_iconst (v := 0) hx hb dX3_levy_50 (by decide) ?_
          refine lv_istore_n (lv' := [(2, .int 0), (1, .int r_3), (0, .ref (A q 0))]) hx hb dX3_levy_51 rfl hl (by decide) rfl (fun ls hl => ?_)
          have hl_52_27 : ∀ (n_28 : Nat) (x_18 : Int32) (M_21 : ti_M) (g_24 : Nat → Int) (H : Heap) (locs : List Loc) (ls : Array Slot), (8 - x_18.toInt : Int).toNat < n_28 → (0 ≤ x_18.toInt) → (x_18.toInt ≤ 8) → (cI Tc M_21) → (M_21.2.2.2 = M.2.2.2) → (eo q M_21 M) → (qC q g_24 M_21) → (bq_lf tx (r_3.toInt) ((g_24 3).toNat - (x_18.toInt).toNat) (x_18.toInt).toNat g_24 = bq_lf tx (r_3.toInt) (rg 3).toNat 0 rg) → (g_24 3 = rg 3) → ti_H ti_LT D A cy H0 M_21 H locs → lv_has ls 6 [(2, .int x_18), (1, .int r_3), (0, .ref (A q 0))] → W p l e (ti_rm 2) s m args below meth c H locs 0 0 Q (F0 m 52 ls []) := by
            intro n_28
            induction n_28 with
            | zero => intro x_18 M_21 g_24 H locs ls hf_28; exact absurd hf_28 (Nat.not_lt_zero _)
            | succ n_28 ih_28 =>
              intro x_18 M_21 g_24 H locs ls hf_28 b_19 b_20 iM_21 f_22 f_23 hs_25 j_26 j_27 hw hl
              refine lv_iload_n hx hb dX3_levy_52 rfl (lv_at hl 0 rfl) ?_
              refine lv_aload_n hx hb dX3_levy_53 rfl (lv_at hl 2 rfl) ?_
              refine ti_get (ci := 3) (k := 3) (N := 17) (T := TX3) C hw iw_3 rfl hq (by decide) (by decide) fl_X3_56 rfl rfl dX3_levy_54 ?_
              refine lv_topi (fun x_29 ex_29 => ?_)
              have bx_29 : 0 ≤ x_29.toInt ∧ x_29.toInt ≤ 8 := cI_rd iM_21 hq.1 ex_29
              have ux_29 : (tI M_21 q 3).toInt = x_29.toInt := by rw [ex_29]
              have L_30 : g_24 3 = x_29.toInt := ((hs_25.1 3 (by decide) (by decide)).trans (congrArg Int32.toInt (ex_29.symm))).trans rfl
              refine sb_icmp_ge (tgt := 137) hx hb rfl rfl dX3_levy_57 (by decide) (fun c_57_30 => ?_) (fun c_57_30 => ?_)
              · exact hQ _ _ _ _ _ hw (⟨iM_21, (f_22), f_23, (by unfold bq_ly; rw [L_2, if_neg (by omega), ← pr_3, ← j_26, lf_end (by omega)]; exact hs_25)⟩) dX3_levy_137
              · refine lv_aload_n hx hb dX3_levy_60 rfl (lv_at hl 2 rfl) ?_
                refine ti_get (ci := 3) (k := 6) (N := 17) (T := TX3) (v := .ref (A q 7)) C hw iw_3 rfl hq (by decide) (by decide) fl_X3_9 rfl rfl dX3_levy_61 ?_
                refine lv_iload_n hx hb dX3_levy_64 rfl (lv_at hl 0 rfl) ?_
                refine ti_iald (ci := 3) (k := 6) (n := 8) C hw hq (by decide) (fun _ _ => rfl) (vp_in_iff.mpr (by omega)) dX3_levy_65 ?_
                refine lv_topi (fun x_32 ex_32 => ?_)
                have bx_32 : 0 ≤ x_32.toInt ∧ x_32.toInt ≤ 7 := cI_ry iM_21 hq.1 ex_32
                have L_33 : g_24 (96 + x_18.toInt.toNat) = x_32.toInt := qC_y (k := 6) hs_25 rfl (by omega) (by omega) (by decide) (by decide) ex_32
                refine lv_istore_n (lv' := [(3, .int x_32), (2, .int x_18), (1, .int r_3), (0, .ref (A q 0))]) hx hb dX3_levy_66 rfl hl (by decide) rfl (fun ls hl => ?_)
                refine lv_iload_n hx hb dX3_levy_67 rfl (lv_at hl 0 rfl) ?_
                refine lv_iload_n hx hb dX3_levy_68 rfl (lv_at hl 2 rfl) ?_
                refine sb_icmp_eq (tgt := 131) hx hb rfl rfl dX3_levy_69 (by decide) (fun c_69_33 => ?_) (fun c_69_33 => ?_)
                · obtain ⟨x_59, ex_59⟩ : ∃ z : Int32, z = x_18 + 1 := ⟨_, rfl⟩
                  have tx_59 : x_59.toInt = x_18.toInt + 1 := i_add ex_59 rfl (by decide) (by omega) (by omega)
                  refine lv_iinc (v := x_59) (lv' := [(2, .int x_59), (3, .int x_32), (1, .int r_3), (0, .ref (A q 0))]) hx hb dX3_levy_131 hl (k := 1) rfl (by rw [ex_59]; rfl) (by decide) rfl (fun ls hl => ?_)
                  refine lv_goto (tgt := 52) hx hb dX3_levy_134 (by decide) ?_
                  exact ih_28 x_59 M_21 g_24 _ _ _ (by omega) (by first | omega | decide) (by first | omega | decide) iM_21 (f_22) f_23 hs_25 (by rw [← j_26, lf_go (tx := tx) (t := r_3.toInt) (s := g_24) (p := x_18.toInt.toNat) (f := (g_24 3).toNat - x_18.toInt.toNat) (f' := (g_24 3).toNat - x_59.toInt.toNat) (by omega), show bq_l1 tx g_24 r_3.toInt x_18.toInt.toNat = g_24 by (unfold bq_l1; rw [if_pos (by omega)]), show x_59.toInt.toNat = x_18.toInt.toNat + 1 by omega]) (by first | omega | decide) hw (lv_sub hl [0, 2, 3] rfl)
                · refine lv_aload_n hx hb dX3_levy_72 rfl (lv_at hl 3 rfl) ?_
                  refine ti_get (ci := 3) (k := 0) (N := 17) (T := TX3) (v := .ref (A t 0)) C hw iw_3 rfl hq (by decide) (by decide) fl_X3_45 rfl (ti_Tv ((tT_fr f_22).trans hT)) dX3_levy_73 ?_
                  refine ti_get (ci := 8) (k := 2) (N := 12) (T := TX8) (v := .ref (A t 3)) C hw iw_8 rfl (ob_t ht) (by decide) (by decide) fl_X3_119 rfl rfl dX3_levy_76 ?_
                  refine lv_iconst (v := 0) hx hb dX3_levy_79 (by decide) ?_
                  refine ti_aald (ci := 8) (k := 2) (n := 3) (t0 := 4) (Cn := RX1) (gg := (ti_laws t)) (j := 0) C hw (ob_t ht) (by decide) (fun _ _ => rfl) rfl (by unfold vp_in; decide) (by decide) dX3_levy_80 ?_
                  have ob_35 : ti_ob ti_LT (ti_laws t 0) 1 := ob_l ht (by decide)
                  refine lv_aload_n hx hb dX3_levy_81 rfl (lv_at hl 3 rfl) ?_
                  refine lv_iload_n hx hb dX3_levy_82 rfl (lv_at hl 1 rfl) ?_
                  refine lv_iload_n hx hb dX3_levy_83 rfl (lv_at hl 1 rfl) ?_
                  refine ti_callVl (ci := 1) (av := [.ref (A q 0), .int x_18, .int x_18]) C hw (z_X1_value l D A cy hJ M_21 iM_21 (ti_laws t 0) q t ob_35 hq ht ((tT_fr f_22).trans hT) x_18 x_18 (fun n => tx (400 + 64 * 0 + n)) (tx (300 + 0)) (fun n hn => ((tC_eo ht hq.1 htx f_23).2.2.2 0 (by decide)).2 n hn) (((tC_eo ht hq.1 htx f_23).2.2.2 0 (by decide)).1) tx g_24 (tC_eo ht hq.1 htx f_23) hs_25) ⟨ml_X3_123, ym_X1_value, yv_X1_value, yi_X1_value, yc_X1_value⟩ yd_X1_value ob_35 (by decide) rfl rfl hl.1 (Nat.le_of_ble_eq_true rfl) ⟨by decide, by decide⟩ ⟨Nat.zero_le _, Nat.zero_le _⟩ dX3_levy_84 (fun r_36 M_37 H locs hp_37 hw => ?_)
                  obtain ⟨iM_37, q_38, q_39, q_40, ppr_36⟩ := hp_37
                  have pr_36 : r_36.toInt = bq_lv tx g_24 0 x_18.toInt x_18.toInt := ppr_36
                  have hs_41 : qC q g_24 M_37 := qC_of hs_25 q_39 q_40
                  refine lv_iconst (v := 0) hx hb dX3_levy_87 (by decide) ?_
                  refine lv_bipush (v := 99) hx hb dX3_levy_88 (by decide) ?_
                  refine lv_iconst (v := 1) hx hb dX3_levy_90 (by decide) ?_
                  refine ti_callSi (av := [.long r_36, .int 0, .int 99, .int 1]) C hw (z_X3_put l D A cy hJ M_37 iM_37 r_36 0 99 1 (by first | decide | omega)) ⟨ml_X3_127, ys_X3_put, yi_X3_put, yc_X3_put⟩ yd_X3_put rfl hl.1 (Nat.le_of_ble_eq_true rfl) ⟨by decide, by decide⟩ ⟨Nat.zero_le _, Nat.zero_le _⟩ dX3_levy_91 (fun r_42 M_43 H locs hp_43 hw => ?_)
                  obtain ⟨hm, pr_42⟩ := hp_43
                  have hw := hw.to hm
                  try simp only [show (0 : Int32).toInt = 0 by decide] at pr_42
                  try simp only [show (99 : Int32).toInt = 99 by decide] at pr_42
                  try simp only [show (1 : Int32).toInt = 1 by decide] at pr_42
                  have bpr_42 : 0 ≤ r_42.toInt ∧ r_42.toInt ≤ 99 := by rw [pr_42]; unfold bq_pt; (repeat' split) <;> omega
                  refine lv_istore (lv' := [(4, .int r_42), (3, .int x_32), (2, .int x_18), (1, .int r_3), (0, .ref (A q 0))]) hx hb dX3_levy_94 hl (by decide) rfl (fun ls hl => ?_)
                  refine lv_iload hx hb dX3_levy_96 (lv_at hl 0 rfl) ?_
                  refine lv_aload_n hx hb dX3_levy_98 rfl (lv_at hl 4 rfl) ?_
                  refine ti_get (ci := 3) (k := 12) (N := 17) (T := TX3) (v := .ref (A q 13)) C hw iw_3 rfl hq (by decide) (by decide) fl_X3_30 rfl rfl dX3_levy_99 ?_
                  refine lv_iload_n hx hb dX3_levy_102 rfl (lv_at hl 1 rfl) ?_
                  refine ti_iald (ci := 3) (k := 12) (n := 8) C hw hq (by decide) (fun _ _ => rfl) (vp_in_iff.mpr (by omega)) dX3_levy_103 ?_
                  refine lv_topi (fun x_44 ex_44 => ?_)
                  have L_45 : g_24 (192 + x_32.toInt.toNat) = x_44.toInt := qC_y (k := 12) hs_41 rfl (by omega) (by omega) (by decide) (by decide) ex_44
                  refine ti_min C ml_X3_137 hl.1 (by decide) (Nat.le_of_ble_eq_true rfl) ⟨Nat.zero_le _, Nat.zero_le _⟩ dX3_levy_104 ?_
                  refine lv_topi (fun x_46 ex_46 => ?_)
                  have bx_46 := i_min ex_46 rfl rfl
                  refine lv_istore (lv' := [(5, .int x_46), (4, .int r_42), (3, .int x_32), (2, .int x_18), (1, .int r_3), (0, .ref (A q 0))]) hx hb dX3_levy_107 hl (by decide) rfl (fun ls hl => ?_)
                  refine lv_aload_n hx hb dX3_levy_109 rfl (lv_at hl 5 rfl) ?_
                  refine ti_get (ci := 3) (k := 12) (N := 17) (T := TX3) (v := .ref (A q 13)) C hw iw_3 rfl hq (by decide) (by decide) fl_X3_30 rfl rfl dX3_levy_110 ?_
                  refine lv_iload_n hx hb dX3_levy_113 rfl (lv_at hl 2 rfl) ?_
                  refine lv_dup2_11 hx hb dX3_levy_114 rfl rfl ?_
                  refine ti_iald (ci := 3) (k := 12) (n := 8) C hw hq (by decide) (fun _ _ => rfl) (vp_in_iff.mpr (by omega)) dX3_levy_115 ?_
                  refine lv_topi (fun x_47 ex_47 => ?_)
                  have L_48 : g_24 (192 + x_32.toInt.toNat) = x_47.toInt := qC_y (k := 12) hs_41 rfl (by omega) (by omega) (by decide) (by decide) ex_47
                  refine lv_iload hx hb dX3_levy_116 (lv_at hl 0 rfl) ?_
                  refine lv_isub hx hb dX3_levy_118 ?_
                  refine lv_topi (fun x_49 ex_49 => ?_)
                  have tx_49 : x_49.toInt = bw (x_47.toInt - x_46.toInt) := bw_sub ex_49 rfl rfl
                  refine ti_iast (ci := 3) (k := 12) (n := 8) C hw hq (by decide) (fun _ _ => rfl) (vp_in_iff.mpr (by omega)) dX3_levy_119 (fun H locs hw => ?_)
                  obtain ⟨M_50, hM_50⟩ : ∃ z : ti_M, z = uY M_37 q 12 (upd (tY M_37 q 12) (x_32 : Int32).toNatClampNeg x_49) := ⟨_, rfl⟩
                  have hw := hw.to hM_50.symm
                  have iM_50 : cI Tc M_50 := cI_up iM_37 hM_50 hq.1 trivial
                  have hs_51 : qC q (pp_su g_24 (192 + x_32.toInt.toNat) x_49.toInt) M_50 := qC_Y (k := 12) (j := x_32.toInt.toNat) (i := x_32) hs_41 (by omega) rfl hM_50 (by decide) (by omega)
                  obtain ⟨g_52, eg_52⟩ : ∃ z : Nat → Int, z = pp_su g_24 (192 + x_32.toInt.toNat) x_49.toInt := ⟨_, rfl⟩
                  rw [← eg_52] at hs_51
                  have w3g_52 : g_52 3 = g_24 3 := by rw [eg_52, su_n (by omega)]
                  refine lv_aload_n hx hb dX3_levy_120 rfl (lv_at hl 5 rfl) ?_
                  refine ti_get (ci := 3) (k := 12) (N := 17) (T := TX3) (v := .ref (A q 13)) C hw iw_3 rfl hq (by decide) (by decide) fl_X3_30 rfl rfl dX3_levy_121 ?_
                  refine lv_iload_n hx hb dX3_levy_124 rfl (lv_at hl 4 rfl) ?_
                  refine lv_dup2_11 hx hb dX3_levy_125 rfl rfl ?_
                  refine ti_iald (ci := 3) (k := 12) (n := 8) C hw hq (by decide) (fun _ _ => rfl) (vp_in_iff.mpr (by omega)) dX3_levy_126 ?_
                  refine lv_topi (fun x_53 ex_53 => ?_)
                  have L_54 : g_52 (192 + r_3.toInt.toNat) = x_53.toInt := qC_y (k := 12) hs_51 rfl (by omega) (by omega) (by decide) (by decide) ex_53
                  refine lv_iload hx hb dX3_levy_127 (lv_at hl 0 rfl) ?_
                  refine lv_iadd hx hb dX3_levy_129 ?_
                  refine lv_topi (fun x_55 ex_55 => ?_)
                  have tx_55 : x_55.toInt = bw (x_53.toInt + x_46.toInt) := bw_add ex_55 rfl rfl
                  refine ti_iast (ci := 3) (k := 12) (n := 8) C hw hq (by decide) (fun _ _ => rfl) (vp_in_iff.mpr (by omega)) dX3_levy_130 (fun H locs hw => ?_)
                  obtain ⟨M_56, hM_56⟩ : ∃ z : ti_M, z = uY M_50 q 12 (upd (tY M_50 q 12) (r_3 : Int32).toNatClampNeg x_55) := ⟨_, rfl⟩
                  have hw := hw.to hM_56.symm
                  have iM_56 : cI Tc M_56 := cI_up iM_50 hM_56 hq.1 trivial
                  have hs_57 : qC q (pp_su g_52 (192 + r_3.toInt.toNat) x_55.toInt) M_56 := qC_Y (k := 12) (j := r_3.toInt.toNat) (i := r_3) hs_51 (by omega) rfl hM_56 (by decide) (by omega)
                  obtain ⟨g_58, eg_58⟩ : ∃ z : Nat → Int, z = pp_su g_52 (192 + r_3.toInt.toNat) x_55.toInt := ⟨_, rfl⟩
                  rw [← eg_58] at hs_57
                  have w3g_58 : g_58 3 = g_52 3 := by rw [eg_58, su_n (by omega)]
                  obtain ⟨x_60, ex_60⟩ : ∃ z : Int32, z = x_18 + 1 := ⟨_, rfl⟩
                  have tx_60 : x_60.toInt = x_18.toInt + 1 := i_add ex_60 rfl (by decide) (by omega) (by omega)
                  refine lv_iinc (v := x_60) (lv' := [(2, .int x_60), (5, .int x_46), (4, .int r_42), (3, .int x_32), (1, .int r_3), (0, .ref (A q 0))]) hx hb dX3_levy_131 hl (k := 3) rfl (by rw [ex_60]; rfl) (by decide) rfl (fun ls hl => ?_)
                  refine lv_goto (tgt := 52) hx hb dX3_levy_134 (by decide) ?_
                  exact ih_28 x_60 M_56 g_58 _ _ _ (by omega) (by first | omega | decide) (by first | omega | decide) iM_56 ((rf_Y hM_56).trans ((rf_Y hM_50).trans ((q_38).trans f_22))) (eo.trans (eo_Y hM_56) (eo.trans (eo_Y hM_50) (eo.trans (eo_of q_39 q_40) f_23))) hs_57 (by rw [← j_26, lf_go (tx := tx) (t := r_3.toInt) (s := g_24) (p := x_18.toInt.toNat) (f := (g_24 3).toNat - x_18.toInt.toNat) (f' := (g_24 3).toNat - x_60.toInt.toNat) (by omega), show bq_l1 tx g_24 r_3.toInt x_18.toInt.toNat = g_58 by (unfold bq_l1 bq_py; rw [if_neg (by omega), L_33, show ((x_18.toInt.toNat : Nat) : Int) = x_18.toInt by omega, ← pr_36, ← pr_42, show g_24 (192 + x_32.toInt.toNat) = x_44.toInt by omega, show bq_mn r_42.toInt x_44.toInt = x_46.toInt by (unfold bq_mn; split <;> omega), show x_44.toInt = x_47.toInt by omega, ← tx_49, ← eg_52, show g_52 (192 + r_3.toInt.toNat) = x_53.toInt by omega, ← tx_55, ← eg_58]), show x_60.toInt.toNat = x_18.toInt.toNat + 1 by omega, show (g_58 3).toNat = (g_24 3).toNat by omega]) (by first | omega | decide) hw (lv_sub hl [0, 4, 5] rfl)
          exact hl_52_27 ((8 - 0 : Int).toNat + 1) 0 M rg _ _ _ (Nat.lt_succ_self _) (by have lt0 : (0 : Int32).toInt = 0 := (by decide); first | omega | decide) (by have lt0 : (0 : Int32).toInt = 0 := (by decide); first | omega | decide) hI rfl eo.refl hs (by show bq_lf tx _ ((rg 3).toNat - 0) 0 rg = _; rfl) (by have lt0 : (0 : Int32).toInt = 0 := (by decide); first | omega | decide) hw (lv_sub hl [0, 1, 2] rfl)
        · exact hQ _ _ _ _ _ hw (⟨hI, rfl, eo.refl, (by unfold bq_ly; rw [if_pos (by first | omega | (rw [L_2]; omega))]; exact hs)⟩) dX3_levy_49
set_option maxHeartbeats 4000000 in
set_option maxRecDepth 100000 in
theorem z_X3_wear (l : Launch) (D : va_G) (A : Nat → Nat → Nat) (cy : Nat → ClassId) (hJ : ti_inj ti_LT A) (M : ti_M) (hI : cI Tc M) (q t : Nat) (hq : ti_ob ti_LT q 3) (ht : t = 3 ∨ t = 4) (hT : tT M q 0 = some t) (tx rg : Nat → Int) (htx : tC t tx M) (hs : qC q rg M) : ti_Kv l yX3_wear cX3_wear 3 2 ti_LT D A cy M [.ref (A q 0)] (fun M2 => cI Tc M2 ∧ M2.2.2.2 = M.2.2.2 ∧ eo q M2 M ∧ qC q (bq_wr tx rg) M2) := by
  refine ti_eV yp_X3_wear hJ ti_LT_nd (Nat.le_of_ble_eq_true rfl) ?_
  intro p e s m args below meth c Q H0 C hQ hw ls hl
  have hx := C.1
  have hb := C.2.1
  have hl : lv_has ls 3 [(0, .ref (A q 0))] := hl
  refine lv_iconst (v := 0) hx hb dX3_wear_0 (by decide) ?_
  refine lv_istore_n (lv' := [(1, .int 0), (0, .ref (A q 0))]) hx hb dX3_wear_1 rfl hl (by decide) rfl (fun ls hl => ?_)
  have hl_2_10 : ∀ (n_11 : Nat) (x_1 : Int32) (M_4 : ti_M) (g_7 : Nat → Int) (H : Heap) (locs : List Loc) (ls : Array Slot), (8 - x_1.toInt : Int).toNat < n_11 → (0 ≤ x_1.toInt) → (x_1.toInt ≤ 8) → (cI Tc M_4) → (M_4.2.2.2 = M.2.2.2) → (eo q M_4 M) → (qC q g_7 M_4) → (bq_wf tx ((g_7 3).toNat - (x_1.toInt).toNat) (x_1.toInt).toNat g_7 = bq_wf tx (rg 3).toNat 0 rg) → (g_7 3 = rg 3) → ti_H ti_LT D A cy H0 M_4 H locs → lv_has ls 3 [(1, .int x_1), (0, .ref (A q 0))] → W p l e (ti_rm 2) s m args below meth c H locs 0 0 Q (F0 m 2 ls []) := by
    intro n_11
    induction n_11 with
    | zero => intro x_1 M_4 g_7 H locs ls hf_11; exact absurd hf_11 (Nat.not_lt_zero _)
    | succ n_11 ih_11 =>
      intro x_1 M_4 g_7 H locs ls hf_11 b_2 b_3 iM_4 f_5 f_6 hs_8 j_9 j_10 hw hl
      refine lv_iload_n hx hb dX3_wear_2 rfl (lv_at hl 0 rfl) ?_
      refine lv_aload_n hx hb dX3_wear_3 rfl (lv_at hl 1 rfl) ?_
      refine ti_get (ci := 3) (k := 3) (N := 17) (T := TX3) C hw iw_3 rfl hq (by decide) (by decide) fl_X3_56 rfl rfl dX3_wear_4 ?_
      refine lv_topi (fun x_12 ex_12 => ?_)
      have bx_12 : 0 ≤ x_12.toInt ∧ x_12.toInt ≤ 8 := cI_rd iM_4 hq.1 ex_12
      have ux_12 : (tI M_4 q 3).toInt = x_12.toInt := by rw [ex_12]
      have L_13 : g_7 3 = x_12.toInt := ((hs_8.1 3 (by decide) (by decide)).trans (congrArg Int32.toInt (ex_12.symm))).trans rfl
      refine sb_icmp_ge (tgt := 80) hx hb rfl rfl dX3_wear_7 (by decide) (fun c_7_13 => ?_) (fun c_7_13 => ?_)
      · exact hQ _ _ _ _ _ hw (⟨iM_4, (f_5), f_6, (by unfold bq_wr; rw [← j_9, wf_end (by omega)]; exact hs_8)⟩) dX3_wear_80
      · refine lv_aload_n hx hb dX3_wear_10 rfl (lv_at hl 1 rfl) ?_
        refine ti_get (ci := 3) (k := 6) (N := 17) (T := TX3) (v := .ref (A q 7)) C hw iw_3 rfl hq (by decide) (by decide) fl_X3_9 rfl rfl dX3_wear_11 ?_
        refine lv_iload_n hx hb dX3_wear_14 rfl (lv_at hl 0 rfl) ?_
        refine ti_iald (ci := 3) (k := 6) (n := 8) C hw hq (by decide) (fun _ _ => rfl) (vp_in_iff.mpr (by omega)) dX3_wear_15 ?_
        refine lv_topi (fun x_15 ex_15 => ?_)
        have bx_15 : 0 ≤ x_15.toInt ∧ x_15.toInt ≤ 7 := cI_ry iM_4 hq.1 ex_15
        have L_16 : g_7 (96 + x_1.toInt.toNat) = x_15.toInt := qC_y (k := 6) hs_8 rfl (by omega) (by omega) (by decide) (by decide) ex_15
        refine lv_istore_n (lv' := [(2, .int x_15), (1, .int x_1), (0, .ref (A q 0))]) hx hb dX3_wear_16 rfl hl (by decide) rfl (fun ls hl => ?_)
        refine lv_aload_n hx hb dX3_wear_17 rfl (lv_at hl 2 rfl) ?_
        refine ti_get (ci := 3) (k := 15) (N := 17) (T := TX3) (v := .ref (A q 16)) C hw iw_3 rfl hq (by decide) (by decide) fl_X3_39 rfl rfl dX3_wear_18 ?_
        refine lv_iload_n hx hb dX3_wear_21 rfl (lv_at hl 0 rfl) ?_
        refine ti_iald (ci := 3) (k := 15) (n := 8) C hw hq (by decide) (fun _ _ => rfl) (vp_in_iff.mpr (by omega)) dX3_wear_22 ?_
        refine lv_topi (fun x_17 ex_17 => ?_)
        have L_18 : g_7 (240 + x_15.toInt.toNat) = x_17.toInt := qC_y (k := 15) hs_8 rfl (by omega) (by omega) (by decide) (by decide) ex_17
        refine sb_if_le (tgt := 39) hx hb rfl dX3_wear_23 (by decide) (fun c_23_18 => ?_) (fun c_23_18 => ?_)
        · refine lv_iload_n hx hb dX3_wear_39 rfl (lv_at hl 1 rfl) ?_
          refine sb_if_le (tgt := 74) hx hb rfl dX3_wear_40 (by decide) (fun c_40_25 => ?_) (fun c_40_25 => ?_)
          · obtain ⟨x_43, ex_43⟩ : ∃ z : Int32, z = x_1 + 1 := ⟨_, rfl⟩
            have tx_43 : x_43.toInt = x_1.toInt + 1 := i_add ex_43 rfl (by decide) (by omega) (by omega)
            refine lv_iinc (v := x_43) (lv' := [(1, .int x_43), (2, .int x_15), (0, .ref (A q 0))]) hx hb dX3_wear_74 hl (k := 1) rfl (by rw [ex_43]; rfl) (by decide) rfl (fun ls hl => ?_)
            refine lv_goto (tgt := 2) hx hb dX3_wear_77 (by decide) ?_
            exact ih_11 x_43 M_4 g_7 _ _ _ (by omega) (by first | omega | decide) (by first | omega | decide) iM_4 (f_5) f_6 hs_8 (by rw [← j_9, wf_go (tx := tx) (s := g_7) (p := x_1.toInt.toNat) (f := (g_7 3).toNat - x_1.toInt.toNat) (f' := (g_7 3).toNat - x_43.toInt.toNat) (by omega), show bq_w1 tx g_7 x_1.toInt.toNat = g_7 by (unfold bq_w1; rw [L_16, L_18, if_neg (by omega), if_neg (by omega)]), show x_43.toInt.toNat = x_1.toInt.toNat + 1 by omega]) (by first | omega | decide) hw (lv_sub hl [0, 2] rfl)
          · refine lv_aload_n hx hb dX3_wear_43 rfl (lv_at hl 2 rfl) ?_
            refine ti_get (ci := 3) (k := 10) (N := 17) (T := TX3) (v := .ref (A q 11)) C hw iw_3 rfl hq (by decide) (by decide) fl_X3_24 rfl rfl dX3_wear_44 ?_
            refine lv_iload_n hx hb dX3_wear_47 rfl (lv_at hl 0 rfl) ?_
            refine lv_dup2_11 hx hb dX3_wear_48 rfl rfl ?_
            refine ti_iald (ci := 3) (k := 10) (n := 8) C hw hq (by decide) (fun _ _ => rfl) (vp_in_iff.mpr (by omega)) dX3_wear_49 ?_
            refine lv_topi (fun x_27 ex_27 => ?_)
            have L_28 : g_7 (160 + x_15.toInt.toNat) = x_27.toInt := qC_y (k := 10) hs_8 rfl (by omega) (by omega) (by decide) (by decide) ex_27
            refine lv_aload_n hx hb dX3_wear_50 rfl (lv_at hl 2 rfl) ?_
            refine ti_get (ci := 3) (k := 0) (N := 17) (T := TX3) (v := .ref (A t 0)) C hw iw_3 rfl hq (by decide) (by decide) fl_X3_45 rfl (ti_Tv ((tT_fr f_5).trans hT)) dX3_wear_51 ?_
            refine ti_get (ci := 8) (k := 2) (N := 12) (T := TX8) (v := .ref (A t 3)) C hw iw_8 rfl (ob_t ht) (by decide) (by decide) fl_X3_119 rfl rfl dX3_wear_54 ?_
            refine lv_iconst (v := 1) hx hb dX3_wear_57 (by decide) ?_
            refine ti_aald (ci := 8) (k := 2) (n := 3) (t0 := 4) (Cn := RX1) (gg := (ti_laws t)) (j := 1) C hw (ob_t ht) (by decide) (fun _ _ => rfl) rfl (by unfold vp_in; decide) (by decide) dX3_wear_58 ?_
            have ob_29 : ti_ob ti_LT (ti_laws t 1) 1 := ob_l ht (by decide)
            refine lv_aload_n hx hb dX3_wear_59 rfl (lv_at hl 2 rfl) ?_
            refine lv_iload_n hx hb dX3_wear_60 rfl (lv_at hl 1 rfl) ?_
            refine lv_iload_n hx hb dX3_wear_61 rfl (lv_at hl 1 rfl) ?_
            refine ti_callVl (ci := 1) (av := [.ref (A q 0), .int x_1, .int x_1]) C hw (z_X1_value l D A cy hJ M_4 iM_4 (ti_laws t 1) q t ob_29 hq ht ((tT_fr f_5).trans hT) x_1 x_1 (fun n => tx (400 + 64 * 1 + n)) (tx (300 + 1)) (fun n hn => ((tC_eo ht hq.1 htx f_6).2.2.2 1 (by decide)).2 n hn) (((tC_eo ht hq.1 htx f_6).2.2.2 1 (by decide)).1) tx g_7 (tC_eo ht hq.1 htx f_6) hs_8) ⟨ml_X3_123, ym_X1_value, yv_X1_value, yi_X1_value, yc_X1_value⟩ yd_X1_value ob_29 (by decide) rfl rfl hl.1 (Nat.le_of_ble_eq_true rfl) ⟨by decide, by decide⟩ ⟨Nat.zero_le _, Nat.zero_le _⟩ dX3_wear_62 (fun r_30 M_31 H locs hp_31 hw => ?_)
            obtain ⟨iM_31, q_32, q_33, q_34, ppr_30⟩ := hp_31
            have pr_30 : r_30.toInt = bq_lv tx g_7 1 x_1.toInt x_1.toInt := ppr_30
            have hs_35 : qC q g_7 M_31 := qC_of hs_8 q_33 q_34
            refine lv_iconst (v := 0) hx hb dX3_wear_65 (by decide) ?_
            refine lv_bipush (v := 9) hx hb dX3_wear_66 (by decide) ?_
            refine lv_iconst (v := 1) hx hb dX3_wear_68 (by decide) ?_
            refine ti_callSi (av := [.long r_30, .int 0, .int 9, .int 1]) C hw (z_X3_put l D A cy hJ M_31 iM_31 r_30 0 9 1 (by first | decide | omega)) ⟨ml_X3_127, ys_X3_put, yi_X3_put, yc_X3_put⟩ yd_X3_put rfl hl.1 (Nat.le_of_ble_eq_true rfl) ⟨by decide, by decide⟩ ⟨Nat.zero_le _, Nat.zero_le _⟩ dX3_wear_69 (fun r_36 M_37 H locs hp_37 hw => ?_)
            obtain ⟨hm, pr_36⟩ := hp_37
            have hw := hw.to hm
            try simp only [show (0 : Int32).toInt = 0 by decide] at pr_36
            try simp only [show (9 : Int32).toInt = 9 by decide] at pr_36
            try simp only [show (1 : Int32).toInt = 1 by decide] at pr_36
            have bpr_36 : 0 ≤ r_36.toInt ∧ r_36.toInt ≤ 9 := by rw [pr_36]; unfold bq_pt; (repeat' split) <;> omega
            refine lv_isub hx hb dX3_wear_72 ?_
            refine lv_topi (fun x_38 ex_38 => ?_)
            have tx_38 : x_38.toInt = bw (x_27.toInt - r_36.toInt) := bw_sub ex_38 rfl rfl
            refine ti_iast (ci := 3) (k := 10) (n := 8) C hw hq (by decide) (fun _ _ => rfl) (vp_in_iff.mpr (by omega)) dX3_wear_73 (fun H locs hw => ?_)
            obtain ⟨M_39, hM_39⟩ : ∃ z : ti_M, z = uY M_31 q 10 (upd (tY M_31 q 10) (x_15 : Int32).toNatClampNeg x_38) := ⟨_, rfl⟩
            have hw := hw.to hM_39.symm
            have iM_39 : cI Tc M_39 := cI_up iM_31 hM_39 hq.1 trivial
            have hs_40 : qC q (pp_su g_7 (160 + x_15.toInt.toNat) x_38.toInt) M_39 := qC_Y (k := 10) (j := x_15.toInt.toNat) (i := x_15) hs_35 (by omega) rfl hM_39 (by decide) (by omega)
            obtain ⟨g_41, eg_41⟩ : ∃ z : Nat → Int, z = pp_su g_7 (160 + x_15.toInt.toNat) x_38.toInt := ⟨_, rfl⟩
            rw [← eg_41] at hs_40
            have w3g_41 : g_41 3 = g_7 3 := by rw [eg_41, su_n (by omega)]
            obtain ⟨x_44, ex_44⟩ : ∃ z : Int32, z = x_1 + 1 := ⟨_, rfl⟩
            have tx_44 : x_44.toInt = x_1.toInt + 1 := i_add ex_44 rfl (by decide) (by omega) (by omega)
            refine lv_iinc (v := x_44) (lv' := [(1, .int x_44), (2, .int x_15), (0, .ref (A q 0))]) hx hb dX3_wear_74 hl (k := 1) rfl (by rw [ex_44]; rfl) (by decide) rfl (fun ls hl => ?_)
            refine lv_goto (tgt := 2) hx hb dX3_wear_77 (by decide) ?_
            exact ih_11 x_44 M_39 g_41 _ _ _ (by omega) (by first | omega | decide) (by first | omega | decide) iM_39 ((rf_Y hM_39).trans ((q_32).trans f_5)) (eo.trans (eo_Y hM_39) (eo.trans (eo_of q_33 q_34) f_6)) hs_40 (by rw [← j_9, wf_go (tx := tx) (s := g_7) (p := x_1.toInt.toNat) (f := (g_7 3).toNat - x_1.toInt.toNat) (f' := (g_7 3).toNat - x_44.toInt.toNat) (by omega), show bq_w1 tx g_7 x_1.toInt.toNat = g_41 by (unfold bq_w1; rw [L_16, L_18, if_neg (by omega), if_pos (by omega), L_28, show ((x_1.toInt.toNat : Nat) : Int) = x_1.toInt by omega, ← pr_30, ← pr_36, ← tx_38, ← eg_41]), show x_44.toInt.toNat = x_1.toInt.toNat + 1 by omega, show (g_41 3).toNat = (g_7 3).toNat by omega]) (by first | omega | decide) hw (lv_sub hl [0, 2] rfl)
        · refine lv_aload_n hx hb dX3_wear_26 rfl (lv_at hl 2 rfl) ?_
          refine ti_get (ci := 3) (k := 15) (N := 17) (T := TX3) (v := .ref (A q 16)) C hw iw_3 rfl hq (by decide) (by decide) fl_X3_39 rfl rfl dX3_wear_27 ?_
          refine lv_iload_n hx hb dX3_wear_30 rfl (lv_at hl 0 rfl) ?_
          refine lv_dup2_11 hx hb dX3_wear_31 rfl rfl ?_
          refine ti_iald (ci := 3) (k := 15) (n := 8) C hw hq (by decide) (fun _ _ => rfl) (vp_in_iff.mpr (by omega)) dX3_wear_32 ?_
          refine lv_topi (fun x_20 ex_20 => ?_)
          have L_21 : g_7 (240 + x_15.toInt.toNat) = x_20.toInt := qC_y (k := 15) hs_8 rfl (by omega) (by omega) (by decide) (by decide) ex_20
          refine lv_iconst (v := 1) hx hb dX3_wear_33 (by decide) ?_
          refine lv_isub hx hb dX3_wear_34 ?_
          refine lv_topi (fun x_22 ex_22 => ?_)
          have lox_22x_20 := x_20.le_toInt
          have hix_22x_20 := x_20.toInt_lt
          have tx_22 : x_22.toInt = x_20.toInt - 1 := i_sub ex_22 rfl (by decide : (1 : Int32).toInt = 1) (by omega) (by omega)
          have tx_22 : x_22.toInt = bw (x_20.toInt - 1) := bw_sub ex_22 rfl (by decide : (1 : Int32).toInt = 1)
          refine ti_iast (ci := 3) (k := 15) (n := 8) C hw hq (by decide) (fun _ _ => rfl) (vp_in_iff.mpr (by omega)) dX3_wear_35 (fun H locs hw => ?_)
          obtain ⟨M_23, hM_23⟩ : ∃ z : ti_M, z = uY M_4 q 15 (upd (tY M_4 q 15) (x_15 : Int32).toNatClampNeg x_22) := ⟨_, rfl⟩
          have hw := hw.to hM_23.symm
          have iM_23 : cI Tc M_23 := cI_up iM_4 hM_23 hq.1 trivial
          have hs_24 : qC q (pp_su g_7 (240 + x_15.toInt.toNat) x_22.toInt) M_23 := qC_Y (k := 15) (j := x_15.toInt.toNat) (i := x_15) hs_8 (by omega) rfl hM_23 (by decide) (by omega)
          obtain ⟨g_25, eg_25⟩ : ∃ z : Nat → Int, z = pp_su g_7 (240 + x_15.toInt.toNat) x_22.toInt := ⟨_, rfl⟩
          rw [← eg_25] at hs_24
          have w3g_25 : g_25 3 = g_7 3 := by rw [eg_25, su_n (by omega)]
          refine lv_goto (tgt := 74) hx hb dX3_wear_36 (by decide) ?_
          obtain ⟨x_42, ex_42⟩ : ∃ z : Int32, z = x_1 + 1 := ⟨_, rfl⟩
          have tx_42 : x_42.toInt = x_1.toInt + 1 := i_add ex_42 rfl (by decide) (by omega) (by omega)
          refine lv_iinc (v := x_42) (lv' := [(1, .int x_42), (2, .int x_15), (0, .ref (A q 0))]) hx hb dX3_wear_74 hl (k := 1) rfl (by rw [ex_42]; rfl) (by decide) rfl (fun ls hl => ?_)
          refine lv_goto (tgt := 2) hx hb dX3_wear_77 (by decide) ?_
          exact ih_11 x_42 M_23 g_25 _ _ _ (by omega) (by first | omega | decide) (by first | omega | decide) iM_23 ((rf_Y hM_23).trans f_5) (eo.trans (eo_Y hM_23) f_6) hs_24 (by rw [← j_9, wf_go (tx := tx) (s := g_7) (p := x_1.toInt.toNat) (f := (g_7 3).toNat - x_1.toInt.toNat) (f' := (g_7 3).toNat - x_42.toInt.toNat) (by omega), show bq_w1 tx g_7 x_1.toInt.toNat = g_25 by (unfold bq_w1; rw [L_16, L_21, if_pos (by omega), show x_20.toInt - 1 = x_22.toInt by omega, ← eg_25]), show x_42.toInt.toNat = x_1.toInt.toNat + 1 by omega, show (g_25 3).toNat = (g_7 3).toNat by omega]) (by first | omega | decide) hw (lv_sub hl [0, 2] rfl)
  exact hl_2_10 ((8 - 0 : Int).toNat + 1) 0 M rg _ _ _ (Nat.lt_succ_self _) (by have lt0 : (0 : Int32).toInt = 0 := (by decide); first | omega | decide) (by have lt0 : (0 : Int32).toInt = 0 := (by decide); first | omega | decide) hI rfl eo.refl hs (by show bq_wf tx ((rg 3).toNat - 0) 0 rg = _; rfl) (by have lt0 : (0 : Int32).toInt = 0 := (by decide); first | omega | decide) hw (lv_sub hl [0, 1] rfl)
set_option maxHeartbeats 4000000 in
set_option maxRecDepth 100000 in
theorem z_X3_release (l : Launch) (D : va_G) (A : Nat → Nat → Nat) (cy : Nat → ClassId) (hJ : ti_inj ti_LT A) (M : ti_M) (hI : cI Tc M) (q t : Nat) (hq : ti_ob ti_LT q 3) (ht : t = 3 ∨ t = 4) (hT : tT M q 0 = some t) (tx rg : Nat → Int) (htx : tC t tx M) (hs : qC q rg M) (hm : rg 1 = 0 ∨ rg 1 = 1 ∨ rg 1 = 3) : ti_Kv l yX3_release cX3_release 2 2 ti_LT D A cy M [.ref (A q 0)] (fun M2 => cI Tc M2 ∧ M2.2.2.2 = M.2.2.2 ∧ eo q M2 M ∧ qC q (bq_rl tx rg) M2) := by
  refine ti_eV yp_X3_release hJ ti_LT_nd (Nat.le_of_ble_eq_true rfl) ?_
  intro p e s m args below meth c Q H0 C hQ hw ls hl
  have hx := C.1
  have hb := C.2.1
  have hl : lv_has ls 2 [(0, .ref (A q 0))] := hl
  refine lv_aload_n hx hb dX3_release_0 rfl (lv_at hl 0 rfl) ?_
  refine ti_get (ci := 3) (k := 3) (N := 17) (T := TX3) C hw iw_3 rfl hq (by decide) (by decide) fl_X3_56 rfl rfl dX3_release_1 ?_
  refine lv_topi (fun x_1 ex_1 => ?_)
  have bx_1 : 0 ≤ x_1.toInt ∧ x_1.toInt ≤ 8 := cI_rd hI hq.1 ex_1
  have ux_1 : (tI M q 3).toInt = x_1.toInt := by rw [ex_1]
  have L_2 : rg 3 = x_1.toInt := ((hs.1 3 (by decide) (by decide)).trans (congrArg Int32.toInt (ex_1.symm))).trans rfl
  have hl_61_49 : ∀ (n_50 : Nat) (x_41 : Int32) (M_44 : ti_M) (g_47 : Nat → Int) (H : Heap) (locs : List Loc) (ls : Array Slot), (x_41.toInt : Int).toNat < n_50 → ((-1) ≤ x_41.toInt) → (x_41.toInt ≤ 7) → (cI Tc M_44) → (M_44.2.2.2 = M.2.2.2) → (eo q M_44 M) → (qC q g_47 M_44) → (bq_of (x_41.toInt).toNat g_47 = bq_rl tx rg) → ti_H ti_LT D A cy H0 M_44 H locs → lv_has ls 2 [(1, .int x_41), (0, .ref (A q 0))] → W p l e (ti_rm 2) s m args below meth c H locs 0 0 Q (F0 m 61 ls []) := by
    intro n_50
    induction n_50 with
    | zero => intro x_41 M_44 g_47 H locs ls hf_50; exact absurd hf_50 (Nat.not_lt_zero _)
    | succ n_50 ih_50 =>
      intro x_41 M_44 g_47 H locs ls hf_50 b_42 b_43 iM_44 f_45 f_46 hs_48 j_49 hw hl
      refine lv_iload_n hx hb dX3_release_61 rfl (lv_at hl 0 rfl) ?_
      refine sb_if_le (tgt := 91) hx hb rfl dX3_release_62 (by decide) (fun c_62_50 => ?_) (fun c_62_50 => ?_)
      · exact hQ _ _ _ _ _ hw (⟨iM_44, (f_45), f_46, (by rw [← j_49, show x_41.toInt.toNat = 0 by omega]; exact hs_48)⟩) dX3_release_91
      · refine lv_aload_n hx hb dX3_release_65 rfl (lv_at hl 1 rfl) ?_
        refine ti_get (ci := 3) (k := 10) (N := 17) (T := TX3) (v := .ref (A q 11)) C hw iw_3 rfl hq (by decide) (by decide) fl_X3_24 rfl rfl dX3_release_66 ?_
        refine lv_aload_n hx hb dX3_release_69 rfl (lv_at hl 1 rfl) ?_
        refine ti_get (ci := 3) (k := 6) (N := 17) (T := TX3) (v := .ref (A q 7)) C hw iw_3 rfl hq (by decide) (by decide) fl_X3_9 rfl rfl dX3_release_70 ?_
        refine lv_iload_n hx hb dX3_release_73 rfl (lv_at hl 0 rfl) ?_
        refine ti_iald (ci := 3) (k := 6) (n := 8) C hw hq (by decide) (fun _ _ => rfl) (vp_in_iff.mpr (by omega)) dX3_release_74 ?_
        refine lv_topi (fun x_52 ex_52 => ?_)
        have bx_52 : 0 ≤ x_52.toInt ∧ x_52.toInt ≤ 7 := cI_ry iM_44 hq.1 ex_52
        have L_53 : g_47 (96 + x_41.toInt.toNat) = x_52.toInt := qC_y (k := 6) hs_48 rfl (by omega) (by omega) (by decide) (by decide) ex_52
        refine ti_iald (ci := 3) (k := 10) (n := 8) C hw hq (by decide) (fun _ _ => rfl) (vp_in_iff.mpr (by omega)) dX3_release_75 ?_
        refine lv_topi (fun x_54 ex_54 => ?_)
        have L_55 : g_47 (160 + x_52.toInt.toNat) = x_54.toInt := qC_y (k := 10) hs_48 rfl (by omega) (by omega) (by decide) (by decide) ex_54
        refine sb_if_gt (tgt := 85) hx hb rfl dX3_release_76 (by decide) (fun c_76_55 => ?_) (fun c_76_55 => ?_)
        · obtain ⟨x_63, ex_63⟩ : ∃ z : Int32, z = x_41 + (-1) := ⟨_, rfl⟩
          have tx_63 : x_63.toInt = x_41.toInt + (-1) := i_add ex_63 rfl (by decide) (by omega) (by omega)
          refine lv_iinc (v := x_63) (lv' := [(1, .int x_63), (0, .ref (A q 0))]) hx hb dX3_release_85 hl (k := 0) rfl (by rw [ex_63]; rfl) (by decide) rfl (fun ls hl => ?_)
          refine lv_goto (tgt := 61) hx hb dX3_release_88 (by decide) ?_
          exact ih_50 x_63 M_44 g_47 _ _ _ (by omega) (by first | omega | decide) (by first | omega | decide) iM_44 (f_45) f_46 hs_48 (by rw [← j_49, of_go (p := x_41.toInt.toNat) (p' := x_63.toInt.toNat) (s := g_47) (by omega), show bq_o1 g_47 x_41.toInt.toNat = g_47 by (unfold bq_o1; rw [L_53, L_55, if_neg (by omega)])]) hw (lv_sub hl [0, 1] rfl)
        · refine lv_aload_n hx hb dX3_release_79 rfl (lv_at hl 1 rfl) ?_
          refine lv_iload_n hx hb dX3_release_80 rfl (lv_at hl 0 rfl) ?_
          refine lv_iconst (v := 3) hx hb dX3_release_81 (by decide) ?_
          refine ti_callVv (ci := 3) (av := [.int x_41, .int 3]) C hw (z_X3_remove l D A cy hJ M_44 iM_44 q hq x_41 3 g_47 hs_48) ⟨ml_X3_196, ym_X3_remove, yv_X3_remove, yi_X3_remove, yc_X3_remove⟩ yd_X3_remove hq (by decide) rfl rfl hl.1 (Nat.le_of_ble_eq_true rfl) ⟨by decide, by decide⟩ ⟨Nat.zero_le _, Nat.zero_le _⟩ dX3_release_82 (fun M_58 H locs hp_58 hw => ?_)
          obtain ⟨iM_58, q_59, q_60, hs_61⟩ := hp_58
          try simp only [show (3 : Int32).toInt = 3 by decide] at hs_61
          obtain ⟨g_62, eg_62⟩ : ∃ z : Nat → Int, z = bq_rm g_47 x_41.toInt 3 := ⟨_, rfl⟩
          rw [← eg_62] at hs_61
          have w1g_62 : g_62 1 = g_47 1 := by rw [eg_62]; exact rm_k (by decide)
          obtain ⟨x_64, ex_64⟩ : ∃ z : Int32, z = x_41 + (-1) := ⟨_, rfl⟩
          have tx_64 : x_64.toInt = x_41.toInt + (-1) := i_add ex_64 rfl (by decide) (by omega) (by omega)
          refine lv_iinc (v := x_64) (lv' := [(1, .int x_64), (0, .ref (A q 0))]) hx hb dX3_release_85 hl (k := 0) rfl (by rw [ex_64]; rfl) (by decide) rfl (fun ls hl => ?_)
          refine lv_goto (tgt := 61) hx hb dX3_release_88 (by decide) ?_
          exact ih_50 x_64 M_58 g_62 _ _ _ (by omega) (by first | omega | decide) (by first | omega | decide) iM_58 ((q_59).trans f_45) (eo.trans q_60 f_46) hs_61 (by rw [← j_49, of_go (p := x_41.toInt.toNat) (p' := x_64.toInt.toNat) (s := g_47) (by omega), show bq_o1 g_47 x_41.toInt.toNat = g_62 by (unfold bq_o1; rw [L_53, L_55, if_pos (by omega), show ((x_41.toInt.toNat : Nat) : Int) = x_41.toInt by omega, ← eg_62])]) hw (lv_sub hl [0, 1] rfl)
  refine sb_if_le (tgt := 44) hx hb rfl dX3_release_4 (by decide) (fun c_4_2 => ?_) (fun c_4_2 => ?_)
  · refine lv_aload_n hx hb dX3_release_44 rfl (lv_at hl 0 rfl) ?_
    refine lv_bipush (v := 8) hx hb dX3_release_45 (by decide) ?_
    refine ti_callVi (ci := 3) (av := [.int 8]) C hw (z_X3_is l D A cy hJ M hI q hq 8 rg hs (by omega) (by decide)) ⟨ml_X3_182, ym_X3_is, yv_X3_is, yi_X3_is, yc_X3_is⟩ yd_X3_is hq (by decide) rfl rfl hl.1 (Nat.le_of_ble_eq_true rfl) ⟨by decide, by decide⟩ ⟨Nat.zero_le _, Nat.zero_le _⟩ dX3_release_47 (fun r_20 M_21 H locs hp_21 hw => ?_)
    obtain ⟨hm, hz⟩ := hp_21
    have hw := hw.to hm
    try simp only [show (8 : Int32).toInt = 8 by decide] at hz
    rcases hz with ⟨rfl, dg_22⟩ | ⟨rfl, dg_22⟩
    · exfalso; omega
    · refine sb_if_eq (tgt := 54) hx hb (by decide : (0 : Int32).toInt = 0) dX3_release_50 (by decide) (fun c_50_22 => ?_) (fun h => absurd h (by decide))
      refine lv_aload_n hx hb dX3_release_54 rfl (lv_at hl 0 rfl) ?_
      refine ti_get (ci := 3) (k := 3) (N := 17) (T := TX3) C hw iw_3 rfl hq (by decide) (by decide) fl_X3_56 rfl rfl dX3_release_55 ?_
      refine ti_top (y := x_1) (ex_1.symm) ?_
      have u_32 : (tI M q 3).toInt = (x_1 : Int32).toInt := by rw [(ex_1.symm)]
      have L_33 : rg 3 = x_1.toInt := ((hs.1 3 (by decide) (by decide)).trans (congrArg Int32.toInt (ex_1.symm))).trans rfl
      refine lv_iconst (v := 1) hx hb dX3_release_58 (by decide) ?_
      refine lv_isub hx hb dX3_release_59 ?_
      refine lv_topi (fun x_34 ex_34 => ?_)
      have tx_34 : x_34.toInt = x_1.toInt - 1 := i_sub ex_34 rfl (by decide : (1 : Int32).toInt = 1) (by omega) (by omega)
      refine lv_istore_n (lv' := [(1, .int x_34), (0, .ref (A q 0))]) hx hb dX3_release_60 rfl hl (by decide) rfl (fun ls hl => ?_)
      exact hl_61_49 ((x_34.toInt : Int).toNat + 1) x_34 M rg _ _ _ (Nat.lt_succ_self _) (by first | omega | decide) (by first | omega | decide) hI rfl eo.refl hs (by have ES : bq_sv tx rg = rg := (by unfold bq_sv; rw [if_neg (by omega)]); unfold bq_rl; rw [ES]; exact congrArg (fun k => bq_of k rg) (by omega)) hw (lv_sub hl [0, 1] rfl)
  · refine lv_aload_n hx hb dX3_release_7 rfl (lv_at hl 0 rfl) ?_
    refine ti_get (ci := 3) (k := 11) (N := 17) (T := TX3) (v := .ref (A q 12)) C hw iw_3 rfl hq (by decide) (by decide) fl_X3_27 rfl rfl dX3_release_8 ?_
    refine lv_aload_n hx hb dX3_release_11 rfl (lv_at hl 0 rfl) ?_
    refine ti_get (ci := 3) (k := 6) (N := 17) (T := TX3) (v := .ref (A q 7)) C hw iw_3 rfl hq (by decide) (by decide) fl_X3_9 rfl rfl dX3_release_12 ?_
    refine lv_iconst (v := 0) hx hb dX3_release_15 (by decide) ?_
    refine ti_iald (ci := 3) (k := 6) (n := 8) C hw hq (by decide) (fun _ _ => rfl) (by unfold vp_in; decide) dX3_release_16 ?_
    refine lv_topi (fun x_4 ex_4 => ?_)
    have bx_4 : 0 ≤ x_4.toInt ∧ x_4.toInt ≤ 7 := cI_ry hI hq.1 ex_4
    have L_5 : rg 96 = x_4.toInt := (hs.2 6 0 (by decide) (by decide) (by decide) (by decide)).trans (congrArg Int32.toInt ex_4.symm)
    refine ti_iald (ci := 3) (k := 11) (n := 8) C hw hq (by decide) (fun _ _ => rfl) (vp_in_iff.mpr (by omega)) dX3_release_17 ?_
    refine lv_topi (fun x_6 ex_6 => ?_)
    have L_7 : rg (176 + x_4.toInt.toNat) = x_6.toInt := qC_y (k := 11) hs rfl (by omega) (by omega) (by decide) (by decide) ex_6
    refine lv_aload_n hx hb dX3_release_18 rfl (lv_at hl 0 rfl) ?_
    refine ti_get (ci := 3) (k := 0) (N := 17) (T := TX3) (v := .ref (A t 0)) C hw iw_3 rfl hq (by decide) (by decide) fl_X3_45 rfl (ti_Tv (hT)) dX3_release_19 ?_
    refine ti_get (ci := 8) (k := 0) (N := 12) (T := TX8) (v := .ref (A t 1)) C hw iw_8 rfl (ob_t ht) (by decide) (by decide) fl_X3_81 rfl rfl dX3_release_22 ?_
    refine lv_aload_n hx hb dX3_release_25 rfl (lv_at hl 0 rfl) ?_
    refine ti_get (ci := 3) (k := 6) (N := 17) (T := TX3) (v := .ref (A q 7)) C hw iw_3 rfl hq (by decide) (by decide) fl_X3_9 rfl rfl dX3_release_26 ?_
    refine lv_iconst (v := 0) hx hb dX3_release_29 (by decide) ?_
    refine ti_iald (ci := 3) (k := 6) (n := 8) C hw hq (by decide) (fun _ _ => rfl) (by unfold vp_in; decide) dX3_release_30 ?_
    refine lv_topi (fun x_8 ex_8 => ?_)
    have bx_8 : 0 ≤ x_8.toInt ∧ x_8.toInt ≤ 7 := cI_ry hI hq.1 ex_8
    have L_9 : rg 96 = x_8.toInt := (hs.2 6 0 (by decide) (by decide) (by decide) (by decide)).trans (congrArg Int32.toInt ex_8.symm)
    refine ti_aald (ci := 8) (k := 0) (n := 8) (t0 := 5) (Cn := RX2) (gg := (ti_men t)) (j := x_8.toNatClampNeg) C hw (ob_t ht) (by decide) (fun _ _ => rfl) rfl (vp_in_iff.mpr (by omega)) rfl dX3_release_31 ?_
    have ob_10 : ti_ob ti_LT (ti_men t x_8.toNatClampNeg) 2 := ob_m ht (i_nt rfl (by omega) (by omega))
    refine ti_get (ci := 2) (k := 4) (N := 10) (T := TX2) C hw iw_2 rfl ob_10 (by decide) (by decide) fl_X3_203 rfl rfl dX3_release_32 ?_
    refine lv_topi (fun x_11 ex_11 => ?_)
    have L_12 : tx (100 + 16 * x_8.toInt.toNat + 4) = x_11.toInt := (((show tx (100 + 16 * x_8.toInt.toNat + 4) = _ from by rw [← (show x_8.toNatClampNeg = x_8.toInt.toNat from congrArg Int.toNat rfl)]; exact htx.2.2.1 x_8.toNatClampNeg 4 (i_nt (n := 8) rfl (by omega) (by omega)) (by decide) (by decide))).trans (congrArg Int32.toInt (ex_11.symm))).trans rfl
    refine sb_icmp_lt (tgt := 44) hx hb rfl rfl dX3_release_35 (by decide) (fun c_35_12 => ?_) (fun c_35_12 => ?_)
    · refine lv_aload_n hx hb dX3_release_44 rfl (lv_at hl 0 rfl) ?_
      refine lv_bipush (v := 8) hx hb dX3_release_45 (by decide) ?_
      refine ti_callVi (ci := 3) (av := [.int 8]) C hw (z_X3_is l D A cy hJ M hI q hq 8 rg hs (by omega) (by decide)) ⟨ml_X3_182, ym_X3_is, yv_X3_is, yi_X3_is, yc_X3_is⟩ yd_X3_is hq (by decide) rfl rfl hl.1 (Nat.le_of_ble_eq_true rfl) ⟨by decide, by decide⟩ ⟨Nat.zero_le _, Nat.zero_le _⟩ dX3_release_47 (fun r_24 M_25 H locs hp_25 hw => ?_)
      obtain ⟨hm, hz⟩ := hp_25
      have hw := hw.to hm
      try simp only [show (8 : Int32).toInt = 8 by decide] at hz
      rcases hz with ⟨rfl, dg_26⟩ | ⟨rfl, dg_26⟩
      · exfalso; omega
      · refine sb_if_eq (tgt := 54) hx hb (by decide : (0 : Int32).toInt = 0) dX3_release_50 (by decide) (fun c_50_26 => ?_) (fun h => absurd h (by decide))
        refine lv_aload_n hx hb dX3_release_54 rfl (lv_at hl 0 rfl) ?_
        refine ti_get (ci := 3) (k := 3) (N := 17) (T := TX3) C hw iw_3 rfl hq (by decide) (by decide) fl_X3_56 rfl rfl dX3_release_55 ?_
        refine ti_top (y := x_1) (ex_1.symm) ?_
        have u_35 : (tI M q 3).toInt = (x_1 : Int32).toInt := by rw [(ex_1.symm)]
        have L_36 : rg 3 = x_1.toInt := ((hs.1 3 (by decide) (by decide)).trans (congrArg Int32.toInt (ex_1.symm))).trans rfl
        refine lv_iconst (v := 1) hx hb dX3_release_58 (by decide) ?_
        refine lv_isub hx hb dX3_release_59 ?_
        refine lv_topi (fun x_37 ex_37 => ?_)
        have tx_37 : x_37.toInt = x_1.toInt - 1 := i_sub ex_37 rfl (by decide : (1 : Int32).toInt = 1) (by omega) (by omega)
        refine lv_istore_n (lv' := [(1, .int x_37), (0, .ref (A q 0))]) hx hb dX3_release_60 rfl hl (by decide) rfl (fun ls hl => ?_)
        exact hl_61_49 ((x_37.toInt : Int).toNat + 1) x_37 M rg _ _ _ (Nat.lt_succ_self _) (by first | omega | decide) (by first | omega | decide) hI rfl eo.refl hs (by have ES : bq_sv tx rg = rg := (by unfold bq_sv; rw [show rg 96 = x_4.toInt by omega, show tx (100 + 16 * x_4.toInt.toNat + 4) = x_11.toInt by (rw [show x_4.toInt.toNat = x_8.toInt.toNat by omega]; exact L_12)]; rw [if_neg (by omega)]); unfold bq_rl; rw [ES]; exact congrArg (fun k => bq_of k rg) (by omega)) hw (lv_sub hl [0, 1] rfl)
    · refine lv_aload_n hx hb dX3_release_38 rfl (lv_at hl 0 rfl) ?_
      refine lv_iconst (v := 0) hx hb dX3_release_39 (by decide) ?_
      refine lv_iconst (v := 2) hx hb dX3_release_40 (by decide) ?_
      refine ti_callVv (ci := 3) (av := [.int 0, .int 2]) C hw (z_X3_remove l D A cy hJ M hI q hq 0 2 rg hs) ⟨ml_X3_196, ym_X3_remove, yv_X3_remove, yi_X3_remove, yc_X3_remove⟩ yd_X3_remove hq (by decide) rfl rfl hl.1 (Nat.le_of_ble_eq_true rfl) ⟨by decide, by decide⟩ ⟨Nat.zero_le _, Nat.zero_le _⟩ dX3_release_41 (fun M_15 H locs hp_15 hw => ?_)
      obtain ⟨iM_15, q_16, q_17, hs_18⟩ := hp_15
      try simp only [show (0 : Int32).toInt = 0 by decide] at hs_18
      try simp only [show (2 : Int32).toInt = 2 by decide] at hs_18
      obtain ⟨g_19, eg_19⟩ : ∃ z : Nat → Int, z = bq_rm rg 0 2 := ⟨_, rfl⟩
      rw [← eg_19] at hs_18
      have w1g_19 : g_19 1 = rg 1 := by rw [eg_19]; exact rm_k (by decide)
      refine lv_aload_n hx hb dX3_release_44 rfl (lv_at hl 0 rfl) ?_
      refine lv_bipush (v := 8) hx hb dX3_release_45 (by decide) ?_
      refine ti_callVi (ci := 3) (av := [.int 8]) C hw (z_X3_is l D A cy hJ M_15 iM_15 q hq 8 g_19 hs_18 (by omega) (by decide)) ⟨ml_X3_182, ym_X3_is, yv_X3_is, yi_X3_is, yc_X3_is⟩ yd_X3_is hq (by decide) rfl rfl hl.1 (Nat.le_of_ble_eq_true rfl) ⟨by decide, by decide⟩ ⟨Nat.zero_le _, Nat.zero_le _⟩ dX3_release_47 (fun r_28 M_29 H locs hp_29 hw => ?_)
      obtain ⟨hm, hz⟩ := hp_29
      have hw := hw.to hm
      try simp only [show (8 : Int32).toInt = 8 by decide] at hz
      rcases hz with ⟨rfl, dg_30⟩ | ⟨rfl, dg_30⟩
      · exfalso; omega
      · refine sb_if_eq (tgt := 54) hx hb (by decide : (0 : Int32).toInt = 0) dX3_release_50 (by decide) (fun c_50_30 => ?_) (fun h => absurd h (by decide))
        refine lv_aload_n hx hb dX3_release_54 rfl (lv_at hl 0 rfl) ?_
        refine ti_get (ci := 3) (k := 3) (N := 17) (T := TX3) C hw iw_3 rfl hq (by decide) (by decide) fl_X3_56 rfl rfl dX3_release_55 ?_
        refine lv_topi (fun x_38 ex_38 => ?_)
        have bx_38 : 0 ≤ x_38.toInt ∧ x_38.toInt ≤ 8 := cI_rd iM_15 hq.1 ex_38
        have ux_38 : (tI M_15 q 3).toInt = x_38.toInt := by rw [ex_38]
        have L_39 : g_19 3 = x_38.toInt := ((hs_18.1 3 (by decide) (by decide)).trans (congrArg Int32.toInt (ex_38.symm))).trans rfl
        refine lv_iconst (v := 1) hx hb dX3_release_58 (by decide) ?_
        refine lv_isub hx hb dX3_release_59 ?_
        refine lv_topi (fun x_40 ex_40 => ?_)
        have tx_40 : x_40.toInt = x_38.toInt - 1 := i_sub ex_40 rfl (by decide : (1 : Int32).toInt = 1) (by omega) (by omega)
        refine lv_istore_n (lv' := [(1, .int x_40), (0, .ref (A q 0))]) hx hb dX3_release_60 rfl hl (by decide) rfl (fun ls hl => ?_)
        exact hl_61_49 ((x_40.toInt : Int).toNat + 1) x_40 M_15 g_19 _ _ _ (Nat.lt_succ_self _) (by first | omega | decide) (by first | omega | decide) iM_15 (q_16) q_17 hs_18 (by have ES : bq_sv tx rg = g_19 := (by unfold bq_sv; rw [show rg 96 = x_4.toInt by omega, show tx (100 + 16 * x_4.toInt.toNat + 4) = x_11.toInt by (rw [show x_4.toInt.toNat = x_8.toInt.toNat by omega]; exact L_12)]; rw [if_pos (by omega), ← eg_19]); unfold bq_rl; rw [ES]; exact congrArg (fun k => bq_of k g_19) (by omega)) hw (lv_sub hl [0, 1] rfl)
set_option maxHeartbeats 4000000 in
set_option maxRecDepth 100000 in
theorem z_X3_mutter (l : Launch) (D : va_G) (A : Nat → Nat → Nat) (cy : Nat → ClassId) (hJ : ti_inj ti_LT A) (M : ti_M) (hI : cI Tc M) (q t : Nat) (hq : ti_ob ti_LT q 3) (ht : t = 3 ∨ t = 4) (hT : tT M q 0 = some t) (tx rg : Nat → Int) (htx : tC t tx M) (hs : qC q rg M) (hm : rg 1 = 0 ∨ rg 1 = 1 ∨ rg 1 = 3) (h5 : 0 ≤ rg 5) : ti_Kv l yX3_mutter cX3_mutter 1 2 ti_LT D A cy M [.ref (A q 0)] (fun M2 => cI Tc M2 ∧ M2.2.2.2 = M.2.2.2 ∧ eo q M2 M ∧ qC q (bq_mt tx rg) M2) := by
  refine ti_eV yp_X3_mutter hJ ti_LT_nd (Nat.le_of_ble_eq_true rfl) ?_
  intro p e s m args below meth c Q H0 C hQ hw ls hl
  have hx := C.1
  have hb := C.2.1
  have hl : lv_has ls 1 [(0, .ref (A q 0))] := hl
  refine lv_aload_n hx hb dX3_mutter_0 rfl (lv_at hl 0 rfl) ?_
  refine lv_iconst (v := 2) hx hb dX3_mutter_1 (by decide) ?_
  refine ti_callVi (ci := 3) (av := [.int 2]) C hw (z_X3_is l D A cy hJ M hI q hq 2 rg hs (by omega) (by decide)) ⟨ml_X3_182, ym_X3_is, yv_X3_is, yi_X3_is, yc_X3_is⟩ yd_X3_is hq (by decide) rfl rfl hl.1 (Nat.le_of_ble_eq_true rfl) ⟨by decide, by decide⟩ ⟨Nat.zero_le _, Nat.zero_le _⟩ dX3_mutter_2 (fun r_1 M_2 H locs hp_2 hw => ?_)
  obtain ⟨hm, hz⟩ := hp_2
  have hw := hw.to hm
  try simp only [show (2 : Int32).toInt = 2 by decide] at hz
  rcases hz with ⟨rfl, dg_3⟩ | ⟨rfl, dg_3⟩
  · refine sb_if_ne (tgt := 18) hx hb (by decide : (1 : Int32).toInt = 1) dX3_mutter_5 (by decide) (fun c_5_3 => ?_) (fun h => absurd h (by decide))
    exact hQ _ _ _ _ _ hw (⟨hI, rfl, eo.refl, (by unfold bq_mt; rw [if_pos (by omega)]; exact hs)⟩) dX3_mutter_18
  · refine sb_if_ne (tgt := 18) hx hb (by decide : (0 : Int32).toInt = 0) dX3_mutter_5 (by decide) (fun h => absurd h (by decide)) (fun c_5_4 => ?_)
    refine lv_aload_n hx hb dX3_mutter_8 rfl (lv_at hl 0 rfl) ?_
    refine ti_get (ci := 3) (k := 0) (N := 17) (T := TX3) (v := .ref (A t 0)) C hw iw_3 rfl hq (by decide) (by decide) fl_X3_45 rfl (ti_Tv (hT)) dX3_mutter_9 ?_
    refine ti_get (ci := 8) (k := 10) (N := 12) (T := TX8) C hw iw_8 rfl (ob_t ht) (by decide) (by decide) fl_X3_209 rfl rfl dX3_mutter_12 ?_
    refine lv_topi (fun x_6 ex_6 => ?_)
    have L_7 : tx 10 = x_6.toInt := ((htx.1 10 (by decide) (by decide)).trans (congrArg Int32.toInt (ex_6.symm))).trans rfl
    refine sb_if_ne (tgt := 19) hx hb rfl dX3_mutter_15 (by decide) (fun c_15_7 => ?_) (fun c_15_7 => ?_)
    · refine lv_aload_n hx hb dX3_mutter_19 rfl (lv_at hl 0 rfl) ?_
      refine lv_aload_n hx hb dX3_mutter_20 rfl (lv_at hl 0 rfl) ?_
      refine ti_get (ci := 3) (k := 5) (N := 17) (T := TX3) C hw iw_3 rfl hq (by decide) (by decide) fl_X3_68 rfl rfl dX3_mutter_21 ?_
      refine lv_topi (fun x_11 ex_11 => ?_)
      have L_12 : rg 5 = x_11.toInt := ((hs.1 5 (by decide) (by decide)).trans (congrArg Int32.toInt (ex_11.symm))).trans rfl
      obtain ⟨x_13, ex_13⟩ : ∃ z : Int64, z = x_11.toInt64 := ⟨_, rfl⟩
      refine lv_i2l (v := x_13) hx hb dX3_mutter_24 ex_13.symm ?_
      have tx_13 : x_13.toInt = x_11.toInt := by rw [ex_13, Int32.toInt_toInt64]
      have lox_13 := (x_11 : Int32).le_toInt
      have hix_13 := (x_11 : Int32).toInt_lt
      refine lv_ldc2 (v := 1103515245) hx hb C.2.2.2.1 (C.2.2.1 _ cn_X3_211) dX3_mutter_25 ?_
      have z_14 : (1103515245 : Int64).toInt = 1103515245 := by decide
      refine lv_lmul hx hb dX3_mutter_28 ?_
      refine lv_topl (fun x_15 ex_15 => ?_)
      have tx_15 : x_15.toInt = x_11.toInt * 1103515245 := l_mul ex_15 tx_13 (by decide) (by omega) (by omega)
      refine lv_ldc2 (v := 12345) hx hb C.2.2.2.1 (C.2.2.1 _ cn_X3_213) dX3_mutter_29 ?_
      have z_16 : (12345 : Int64).toInt = 12345 := by decide
      refine lv_ladd hx hb dX3_mutter_32 ?_
      refine lv_topl (fun x_17 ex_17 => ?_)
      have tx_17 : x_17.toInt = x_15.toInt + (12345 : Int64).toInt := l_add ex_17 rfl rfl (by omega) (by omega)
      refine lv_ldc2 (v := 2147483647) hx hb C.2.2.2.1 (C.2.2.1 _ cn_X3_215) dX3_mutter_33 ?_
      have z_18 : (2147483647 : Int64).toInt = 2147483647 := by decide
      refine lv_land hx hb dX3_mutter_36 ?_
      refine lv_topl (fun x_19 ex_19 => ?_)
      have tx_19 := l_and ex_19 rfl rfl (by omega)
      obtain ⟨x_20, ex_20⟩ : ∃ z : Int32, z = (x_19 : Int64).toInt32 := ⟨_, rfl⟩
      refine lv_l2i (v := x_20) hx hb dX3_mutter_37 ex_20.symm ?_
      have tx_20 : x_20.toInt = x_19.toInt := l_2i ex_20 (by omega) (by omega)
      have EZ : bq_dr (rg 5) = x_20.toInt := by unfold bq_dr; rw [L_12]; omega
      refine ti_putI (ci := 3) (k := 5) (N := 17) (T := TX3) C hw iw_3 tyX3 tyX3_ok nmX3 rfl hq (by decide) (by decide) fl_X3_68 rfl rfl rfl rfl (fn_3 A _) fs_3_5 dX3_mutter_38 (fun H locs hw => ?_)
      obtain ⟨M_21, hM_21⟩ : ∃ z : ti_M, z = uI M q 5 x_20 := ⟨_, rfl⟩
      have hw := hw.to hM_21.symm
      have iM_21 : cI Tc M_21 := cI_uI hI hM_21 hq.1 trivial
      have hs_22 : qC q (pp_su rg 5 x_20.toInt) M_21 := qC_I hs rfl hM_21 (by decide)
      obtain ⟨g_23, eg_23⟩ : ∃ z : Nat → Int, z = pp_su rg 5 x_20.toInt := ⟨_, rfl⟩
      rw [← eg_23] at hs_22
      have sg_23 : g_23 5 = x_20.toInt := by rw [eg_23, su_s]
      refine lv_aload_n hx hb dX3_mutter_41 rfl (lv_at hl 0 rfl) ?_
      refine ti_get (ci := 3) (k := 5) (N := 17) (T := TX3) C hw iw_3 rfl hq (by decide) (by decide) fl_X3_68 rfl rfl dX3_mutter_42 ?_
      refine ti_top (y := x_20) (tI_uE hM_21) ?_
      have L_24 : g_23 5 = x_20.toInt := ((hs_22.1 5 (by decide) (by decide)).trans (congrArg Int32.toInt (tI_uE hM_21))).trans rfl
      refine lv_ldc (v := 65536) hx hb C.2.2.2.1 (C.2.2.1 _ cn_X3_217) dX3_mutter_45 ?_
      refine lv_idiv hx hb dX3_mutter_47 (by decide) ?_
      refine lv_topi (fun x_25 ex_25 => ?_)
      have dx_25 : x_25.toInt = x_20.toInt / 65536 := i_divc ex_25 rfl (by decide : (65536 : Int32).toInt = 65536) (by omega) (by decide)
      have gx_25 : 0 ≤ x_25.toInt := by omega
      refine lv_bipush (v := 100) hx hb dX3_mutter_48 (by decide) ?_
      refine lv_irem hx hb dX3_mutter_50 (by decide) ?_
      refine lv_topi (fun x_26 ex_26 => ?_)
      have bx_26 := i_rem ex_26 rfl (by decide : (100 : Int32).toInt = 100) (by omega) (by decide)
      refine lv_aload_n hx hb dX3_mutter_51 rfl (lv_at hl 0 rfl) ?_
      refine ti_get (ci := 3) (k := 0) (N := 17) (T := TX3) (v := .ref (A t 0)) C hw iw_3 rfl hq (by decide) (by decide) fl_X3_45 rfl (ti_Tv ((tT_uIE hM_21).trans hT)) dX3_mutter_52 ?_
      refine ti_get (ci := 8) (k := 10) (N := 12) (T := TX8) C hw iw_8 rfl (ob_t ht) (by decide) (by decide) fl_X3_209 rfl rfl dX3_mutter_55 ?_
      refine ti_top (y := x_6) ((tI_nE hM_21 (nk (by decide))).trans ex_6.symm) ?_
      have L_27 : tx 10 = x_6.toInt := (((tC_eo ht hq.1 htx (eo_I hM_21)).1 10 (by decide) (by decide)).trans (congrArg Int32.toInt ((tI_nE hM_21 (nk (by decide))).trans ex_6.symm))).trans rfl
      refine sb_icmp_ge (tgt := 80) hx hb rfl rfl dX3_mutter_58 (by decide) (fun c_58_27 => ?_) (fun c_58_27 => ?_)
      · have E_43 : bq_mt tx rg = g_23 := by unfold bq_mt; rw [if_neg (by omega), EZ, if_neg (by omega), ← eg_23]
        exact hQ _ _ _ _ _ hw (⟨iM_21, (rf_I hM_21), (eo_I hM_21), (by rw [E_43]; exact hs_22)⟩) dX3_mutter_80
      · refine lv_aload_n hx hb dX3_mutter_61 rfl (lv_at hl 0 rfl) ?_
        refine ti_get (ci := 3) (k := 3) (N := 17) (T := TX3) C hw iw_3 rfl hq (by decide) (by decide) fl_X3_56 rfl rfl dX3_mutter_62 ?_
        refine lv_topi (fun x_29 ex_29 => ?_)
        have bx_29 : 0 ≤ x_29.toInt ∧ x_29.toInt ≤ 8 := cI_rd iM_21 hq.1 ex_29
        have ux_29 : (tI M_21 q 3).toInt = x_29.toInt := by rw [ex_29]
        have L_30 : g_23 3 = x_29.toInt := ((hs_22.1 3 (by decide) (by decide)).trans (congrArg Int32.toInt (ex_29.symm))).trans rfl
        have L_31 : rg 3 = x_29.toInt := (show g_23 3 = rg 3 by rw [eg_23, su_n (by omega)]).symm.trans L_30
        refine lv_iconst (v := 1) hx hb dX3_mutter_65 (by decide) ?_
        refine sb_icmp_le (tgt := 80) hx hb rfl (by decide : (1 : Int32).toInt = 1) dX3_mutter_66 (by decide) (fun c_66_31 => ?_) (fun c_66_31 => ?_)
        · have E_44 : bq_mt tx rg = g_23 := by unfold bq_mt; rw [if_neg (by omega), EZ, if_neg (by omega), ← eg_23]
          exact hQ _ _ _ _ _ hw (⟨iM_21, (rf_I hM_21), (eo_I hM_21), (by rw [E_44]; exact hs_22)⟩) dX3_mutter_80
        · refine lv_aload_n hx hb dX3_mutter_69 rfl (lv_at hl 0 rfl) ?_
          refine lv_aload_n hx hb dX3_mutter_70 rfl (lv_at hl 0 rfl) ?_
          refine ti_get (ci := 3) (k := 3) (N := 17) (T := TX3) C hw iw_3 rfl hq (by decide) (by decide) fl_X3_56 rfl rfl dX3_mutter_71 ?_
          refine ti_top (y := x_29) (ex_29.symm) ?_
          have u_33 : (tI M_21 q 3).toInt = (x_29 : Int32).toInt := by rw [(ex_29.symm)]
          have L_34 : g_23 3 = x_29.toInt := ((hs_22.1 3 (by decide) (by decide)).trans (congrArg Int32.toInt (ex_29.symm))).trans rfl
          have L_35 : rg 3 = x_29.toInt := (show g_23 3 = rg 3 by rw [eg_23, su_n (by omega)]).symm.trans L_34
          refine lv_iconst (v := 1) hx hb dX3_mutter_74 (by decide) ?_
          refine lv_isub hx hb dX3_mutter_75 ?_
          refine lv_topi (fun x_36 ex_36 => ?_)
          have tx_36 : x_36.toInt = x_29.toInt - 1 := i_sub ex_36 rfl (by decide : (1 : Int32).toInt = 1) (by omega) (by omega)
          refine lv_iconst (v := 3) hx hb dX3_mutter_76 (by decide) ?_
          refine ti_callVv (ci := 3) (av := [.int x_36, .int 3]) C hw (z_X3_remove l D A cy hJ M_21 iM_21 q hq x_36 3 g_23 hs_22) ⟨ml_X3_196, ym_X3_remove, yv_X3_remove, yi_X3_remove, yc_X3_remove⟩ yd_X3_remove hq (by decide) rfl rfl hl.1 (Nat.le_of_ble_eq_true rfl) ⟨by decide, by decide⟩ ⟨Nat.zero_le _, Nat.zero_le _⟩ dX3_mutter_77 (fun M_38 H locs hp_38 hw => ?_)
          obtain ⟨iM_38, q_39, q_40, hs_41⟩ := hp_38
          try simp only [show (3 : Int32).toInt = 3 by decide] at hs_41
          obtain ⟨g_42, eg_42⟩ : ∃ z : Nat → Int, z = bq_rm g_23 x_36.toInt 3 := ⟨_, rfl⟩
          rw [← eg_42] at hs_41
          have E_45 : bq_mt tx rg = g_42 := by unfold bq_mt; rw [if_neg (by omega), EZ, if_pos (by omega), show rg 3 - 1 = x_36.toInt by omega, ← eg_23, ← eg_42]
          exact hQ _ _ _ _ _ hw (⟨iM_38, ((q_39).trans (rf_I hM_21)), (eo.trans q_40 (eo_I hM_21)), (by rw [E_45]; exact hs_41)⟩) dX3_mutter_80
    · exact hQ _ _ _ _ _ hw (⟨hI, rfl, eo.refl, (by unfold bq_mt; rw [if_pos (by omega)]; exact hs)⟩) dX3_mutter_18
set_option maxHeartbeats 4000000 in
set_option maxRecDepth 100000 in
theorem z_X3_pass (l : Launch) (D : va_G) (A : Nat → Nat → Nat) (cy : Nat → ClassId) (hJ : ti_inj ti_LT A) (M : ti_M) (hI : cI Tc M) (q t : Nat) (hq : ti_ob ti_LT q 3) (ht : t = 3 ∨ t = 4) (hT : tT M q 0 = some t) (tx rg : Nat → Int) (htx : tC t tx M) (hs : qC q rg M) (hm : rg 1 = 0 ∨ rg 1 = 1 ∨ rg 1 = 3) (h2 : 0 ≤ rg 2) (h5 : 0 ≤ rg 5) (hmin : cPer q → rg 2 < 120) : ti_Kv l yX3_pass cX3_pass 1 4 ti_LT D A cy M [.ref (A q 0)] (fun M2 => cI Tc M2 ∧ M2.2.2.2 = M.2.2.2 ∧ eo q M2 M ∧ qC q (bq_ps tx rg) M2) := by
  refine ti_eV yp_X3_pass hJ ti_LT_nd (Nat.le_of_ble_eq_true rfl) ?_
  intro p e s m args below meth c Q H0 C hQ hw ls hl
  have hx := C.1
  have hb := C.2.1
  have hl : lv_has ls 1 [(0, .ref (A q 0))] := hl
  refine lv_aload_n hx hb dX3_pass_0 rfl (lv_at hl 0 rfl) ?_
  refine ti_callVv (ci := 3) (av := []) C hw (z_X3_welcome l D A cy hJ M hI q t hq ht (hT) tx rg htx hs) ⟨ml_X3_143, ym_X3_welcome, yv_X3_welcome, yi_X3_welcome, yc_X3_welcome⟩ yd_X3_welcome hq (by decide) rfl rfl hl.1 (Nat.le_of_ble_eq_true rfl) ⟨by decide, by decide⟩ ⟨Nat.zero_le _, Nat.zero_le _⟩ dX3_pass_1 (fun M_2 H locs hp_2 hw => ?_)
  obtain ⟨iM_2, q_3, q_4, hs_5⟩ := hp_2
  obtain ⟨g_6, eg_6⟩ : ∃ z : Nat → Int, z = bq_wl tx (tx 4).toNat rg := ⟨_, rfl⟩
  rw [← eg_6] at hs_5
  have w1g_6 : g_6 1 = rg 1 := by rw [eg_6]; exact wl_k (k := 1) (by decide) _ _
  have w2g_6 : g_6 2 = rg 2 := by rw [eg_6]; exact wl_k (k := 2) (by decide) _ _
  have w5g_6 : g_6 5 = rg 5 := by rw [eg_6]; exact wl_k (k := 5) (by decide) _ _
  refine lv_aload_n hx hb dX3_pass_4 rfl (lv_at hl 0 rfl) ?_
  refine ti_callVv (ci := 3) (av := []) C hw (z_X3_hearCoughs l D A cy hJ M_2 iM_2 q t hq ht ((tT_fr q_3).trans hT) tx g_6 (tC_eo ht hq.1 htx q_4) hs_5 (by omega)) ⟨ml_X3_146, ym_X3_hearCoughs, yv_X3_hearCoughs, yi_X3_hearCoughs, yc_X3_hearCoughs⟩ yd_X3_hearCoughs hq (by decide) rfl rfl hl.1 (Nat.le_of_ble_eq_true rfl) ⟨by decide, by decide⟩ ⟨Nat.zero_le _, Nat.zero_le _⟩ dX3_pass_5 (fun M_8 H locs hp_8 hw => ?_)
  obtain ⟨iM_8, q_9, q_10, hs_11⟩ := hp_8
  obtain ⟨g_12, eg_12⟩ : ∃ z : Nat → Int, z = bq_hc tx g_6 := ⟨_, rfl⟩
  rw [← eg_12] at hs_11
  have w1g_12 : g_12 1 = g_6 1 := by rw [eg_12]; exact hc_k (by decide)
  have w2g_12 : g_12 2 = g_6 2 := by rw [eg_12]; exact hc_k (by decide)
  have w5g_12 : g_12 5 = g_6 5 := by rw [eg_12]; exact hc_k (by decide)
  refine lv_aload_n hx hb dX3_pass_8 rfl (lv_at hl 0 rfl) ?_
  refine ti_callVv (ci := 3) (av := []) C hw (z_X3_pour l D A cy hJ M_8 iM_8 q t hq ht ((tT_fr q_9).trans ((tT_fr q_3).trans hT)) tx g_12 (tC_eo ht hq.1 htx (eo.trans q_10 q_4)) hs_11 (by omega)) ⟨ml_X3_149, ym_X3_pour, yv_X3_pour, yi_X3_pour, yc_X3_pour⟩ yd_X3_pour hq (by decide) rfl rfl hl.1 (Nat.le_of_ble_eq_true rfl) ⟨by decide, by decide⟩ ⟨Nat.zero_le _, Nat.zero_le _⟩ dX3_pass_9 (fun M_14 H locs hp_14 hw => ?_)
  obtain ⟨iM_14, q_15, q_16, hs_17⟩ := hp_14
  obtain ⟨g_18, eg_18⟩ : ∃ z : Nat → Int, z = bq_pr tx g_12 := ⟨_, rfl⟩
  rw [← eg_18] at hs_17
  have w1g_18 : g_18 1 = g_12 1 := by rw [eg_18]; exact pr_k (by decide)
  have w2g_18 : g_18 2 = g_12 2 := by rw [eg_18]; exact pr_k (by decide)
  have w5g_18 : g_18 5 = g_12 5 := by rw [eg_18]; exact pr_k (by decide)
  refine lv_aload_n hx hb dX3_pass_12 rfl (lv_at hl 0 rfl) ?_
  refine ti_callVv (ci := 3) (av := []) C hw (z_X3_levy l D A cy hJ M_14 iM_14 q t hq ht ((tT_fr q_15).trans ((tT_fr q_9).trans ((tT_fr q_3).trans hT))) tx g_18 (tC_eo ht hq.1 htx (eo.trans q_16 (eo.trans q_10 q_4))) hs_17 (by omega) (by omega)) ⟨ml_X3_152, ym_X3_levy, yv_X3_levy, yi_X3_levy, yc_X3_levy⟩ yd_X3_levy hq (by decide) rfl rfl hl.1 (Nat.le_of_ble_eq_true rfl) ⟨by decide, by decide⟩ ⟨Nat.zero_le _, Nat.zero_le _⟩ dX3_pass_13 (fun M_20 H locs hp_20 hw => ?_)
  obtain ⟨iM_20, q_21, q_22, hs_23⟩ := hp_20
  obtain ⟨g_24, eg_24⟩ : ∃ z : Nat → Int, z = bq_ly tx g_18 := ⟨_, rfl⟩
  rw [← eg_24] at hs_23
  have w1g_24 : g_24 1 = g_18 1 := by rw [eg_24]; exact ly_k (by decide)
  have w2g_24 : g_24 2 = g_18 2 := by rw [eg_24]; exact ly_k (by decide)
  have w5g_24 : g_24 5 = g_18 5 := by rw [eg_24]; exact ly_k (by decide)
  refine lv_aload_n hx hb dX3_pass_16 rfl (lv_at hl 0 rfl) ?_
  refine ti_callVv (ci := 3) (av := []) C hw (z_X3_wear l D A cy hJ M_20 iM_20 q t hq ht ((tT_fr q_21).trans ((tT_fr q_15).trans ((tT_fr q_9).trans ((tT_fr q_3).trans hT)))) tx g_24 (tC_eo ht hq.1 htx (eo.trans q_22 (eo.trans q_16 (eo.trans q_10 q_4)))) hs_23) ⟨ml_X3_155, ym_X3_wear, yv_X3_wear, yi_X3_wear, yc_X3_wear⟩ yd_X3_wear hq (by decide) rfl rfl hl.1 (Nat.le_of_ble_eq_true rfl) ⟨by decide, by decide⟩ ⟨Nat.zero_le _, Nat.zero_le _⟩ dX3_pass_17 (fun M_26 H locs hp_26 hw => ?_)
  obtain ⟨iM_26, q_27, q_28, hs_29⟩ := hp_26
  obtain ⟨g_30, eg_30⟩ : ∃ z : Nat → Int, z = bq_wr tx g_24 := ⟨_, rfl⟩
  rw [← eg_30] at hs_29
  have w1g_30 : g_30 1 = g_24 1 := by rw [eg_30]; exact wr_k (by decide)
  have w2g_30 : g_30 2 = g_24 2 := by rw [eg_30]; exact wr_k (by decide)
  have w5g_30 : g_30 5 = g_24 5 := by rw [eg_30]; exact wr_k (by decide)
  refine lv_aload_n hx hb dX3_pass_20 rfl (lv_at hl 0 rfl) ?_
  refine ti_callVv (ci := 3) (av := []) C hw (z_X3_release l D A cy hJ M_26 iM_26 q t hq ht ((tT_fr q_27).trans ((tT_fr q_21).trans ((tT_fr q_15).trans ((tT_fr q_9).trans ((tT_fr q_3).trans hT))))) tx g_30 (tC_eo ht hq.1 htx (eo.trans q_28 (eo.trans q_22 (eo.trans q_16 (eo.trans q_10 q_4))))) hs_29 (by omega)) ⟨ml_X3_158, ym_X3_release, yv_X3_release, yi_X3_release, yc_X3_release⟩ yd_X3_release hq (by decide) rfl rfl hl.1 (Nat.le_of_ble_eq_true rfl) ⟨by decide, by decide⟩ ⟨Nat.zero_le _, Nat.zero_le _⟩ dX3_pass_21 (fun M_32 H locs hp_32 hw => ?_)
  obtain ⟨iM_32, q_33, q_34, hs_35⟩ := hp_32
  obtain ⟨g_36, eg_36⟩ : ∃ z : Nat → Int, z = bq_rl tx g_30 := ⟨_, rfl⟩
  rw [← eg_36] at hs_35
  have w1g_36 : g_36 1 = g_30 1 := by rw [eg_36]; exact rl_k (by decide)
  have w2g_36 : g_36 2 = g_30 2 := by rw [eg_36]; exact rl_k (by decide)
  have w5g_36 : g_36 5 = g_30 5 := by rw [eg_36]; exact rl_k (by decide)
  refine lv_aload_n hx hb dX3_pass_24 rfl (lv_at hl 0 rfl) ?_
  refine ti_callVv (ci := 3) (av := []) C hw (z_X3_mutter l D A cy hJ M_32 iM_32 q t hq ht ((tT_fr q_33).trans ((tT_fr q_27).trans ((tT_fr q_21).trans ((tT_fr q_15).trans ((tT_fr q_9).trans ((tT_fr q_3).trans hT)))))) tx g_36 (tC_eo ht hq.1 htx (eo.trans q_34 (eo.trans q_28 (eo.trans q_22 (eo.trans q_16 (eo.trans q_10 q_4)))))) hs_35 (by omega) (by omega)) ⟨ml_X3_161, ym_X3_mutter, yv_X3_mutter, yi_X3_mutter, yc_X3_mutter⟩ yd_X3_mutter hq (by decide) rfl rfl hl.1 (Nat.le_of_ble_eq_true rfl) ⟨by decide, by decide⟩ ⟨Nat.zero_le _, Nat.zero_le _⟩ dX3_pass_25 (fun M_38 H locs hp_38 hw => ?_)
  obtain ⟨iM_38, q_39, q_40, hs_41⟩ := hp_38
  obtain ⟨g_42, eg_42⟩ : ∃ z : Nat → Int, z = bq_mt tx g_36 := ⟨_, rfl⟩
  rw [← eg_42] at hs_41
  have w1g_42 : g_42 1 = g_36 1 := by rw [eg_42]; exact mt_k (by decide)
  have w2g_42 : g_42 2 = g_36 2 := by rw [eg_42]; exact mt_k (by decide)
  refine lv_aload_n hx hb dX3_pass_28 rfl (lv_at hl 0 rfl) ?_
  refine lv_dup hx hb dX3_pass_29 rfl ?_
  refine ti_get (ci := 3) (k := 2) (N := 17) (T := TX3) C hw iw_3 rfl hq (by decide) (by decide) fl_X3_53 rfl rfl dX3_pass_30 ?_
  refine lv_topi (fun x_43 ex_43 => ?_)
  have L_44 : g_42 2 = x_43.toInt := ((hs_41.1 2 (by decide) (by decide)).trans (congrArg Int32.toInt (ex_43.symm))).trans rfl
  refine lv_iconst (v := 1) hx hb dX3_pass_33 (by decide) ?_
  refine lv_iadd hx hb dX3_pass_34 ?_
  refine lv_topi (fun x_45 ex_45 => ?_)
  have tx_45 : x_45.toInt = bw (x_43.toInt + 1) := bw_add ex_45 rfl (by decide : (1 : Int32).toInt = 1)
  refine ti_putI (ci := 3) (k := 2) (N := 17) (T := TX3) C hw iw_3 tyX3 tyX3_ok nmX3 rfl hq (by decide) (by decide) fl_X3_53 rfl rfl rfl rfl (fn_3 A _) fs_3_2 dX3_pass_35 (fun H locs hw => ?_)
  obtain ⟨M_46, hM_46⟩ : ∃ z : ti_M, z = uI M_38 q 2 x_45 := ⟨_, rfl⟩
  have hw := hw.to hM_46.symm
  have iM_46 : cI Tc M_46 := cI_uI iM_38 hM_46 hq.1 (fun hp => by have q := hmin hp; have t := i_add ex_45 rfl (by decide : (1 : Int32).toInt = 1) (by omega) (by omega); exact ⟨by omega, by omega⟩)
  have hs_47 : qC q (pp_su g_42 2 x_45.toInt) M_46 := qC_I hs_41 rfl hM_46 (by decide)
  obtain ⟨g_48, eg_48⟩ : ∃ z : Nat → Int, z = pp_su g_42 2 x_45.toInt := ⟨_, rfl⟩
  rw [← eg_48] at hs_47
  have sg_48 : g_48 2 = x_45.toInt := by rw [eg_48, su_s]
  have w1g_48 : g_48 1 = g_42 1 := by rw [eg_48, su_n (by omega)]
  have w5g_48 : g_48 5 = g_42 5 := by rw [eg_48, su_n (by omega)]
  have E_49 : bq_ps tx rg = g_48 := by unfold bq_ps; rw [← eg_6, ← eg_12, ← eg_18, ← eg_24, ← eg_30, ← eg_36, ← eg_42]; unfold bq_m1; rw [show g_42 2 = x_43.toInt by omega, ← tx_45, ← eg_48]
  exact hQ _ _ _ _ _ hw (⟨iM_46, ((rf_I hM_46).trans ((q_39).trans ((q_33).trans ((q_27).trans ((q_21).trans ((q_15).trans ((q_9).trans q_3))))))), (eo.trans (eo_I hM_46) (eo.trans q_40 (eo.trans q_34 (eo.trans q_28 (eo.trans q_22 (eo.trans q_16 (eo.trans q_10 q_4))))))), (by rw [E_49]; exact hs_47)⟩) dX3_pass_38
end
section
variable {Tc : gC} {Tm : gM}
set_option maxHeartbeats 4000000 in
set_option maxRecDepth 100000 in
theorem z_X3_copy (l : Launch) (D : va_G) (A : Nat → Nat → Nat) (cy : Nat → ClassId) (hJ : ti_inj ti_LT A) (M : ti_M) (hI : cI Tc M) (q r t : Nat) (hq : ti_ob ti_LT q 3) (hr : ti_ob ti_LT r 3) (ht : t = 3 ∨ t = 4) (hT : tT M r 0 = some t) (hpr : cPer q → cPer r) (hqr : q ≠ r) (rs : Nat → Int) (hs : qC r rs M) : ti_Kv l yX3_copy cX3_copy 2 1 ti_LT D A cy M [.ref (A q 0), .ref (A r 0)] (fun M2 => cI Tc M2 ∧ M2.2.2.2 = (uT M q 0 (some t)).2.2.2 ∧ eo q M2 M ∧ qC q rs M2) := by
  refine ti_eV yp_X3_copy hJ ti_LT_nd (Nat.le_of_ble_eq_true rfl) ?_
  intro p e s m args below meth c Q H0 C hQ hw ls hl
  have hx := C.1
  have hb := C.2.1
  have hl : lv_has ls 2 [(0, .ref (A q 0)), (1, .ref (A r 0))] := hl
  refine lv_aload_n hx hb dX3_copy_0 rfl (lv_at hl 0 rfl) ?_
  refine lv_aload_n hx hb dX3_copy_1 rfl (lv_at hl 1 rfl) ?_
  refine ti_get (ci := 3) (k := 0) (N := 17) (T := TX3) (v := .ref (A t 0)) C hw iw_3 rfl hr (by decide) (by decide) fl_X3_45 rfl (ti_Tv (hT)) dX3_copy_2 ?_
  refine ti_putT (ci := 3) (k := 0) (N := 17) (T := TX3) C hw iw_3 tyX3 tyX3_ok nmX3 rfl hq (by decide) (by decide) fl_X3_45 rfl rfl rfl rfl (fn_3 A _) fs_3_0 dX3_copy_5 (fun H locs hw => ?_)
  obtain ⟨M_1, hM_1⟩ : ∃ z : ti_M, z = uT M q 0 (some t) := ⟨_, rfl⟩
  have hw := hw.to hM_1.symm
  have iM_1 : cI Tc M_1 := cI_uT hI hM_1
  refine lv_aload_n hx hb dX3_copy_8 rfl (lv_at hl 0 rfl) ?_
  refine lv_aload_n hx hb dX3_copy_9 rfl (lv_at hl 1 rfl) ?_
  refine ti_get (ci := 3) (k := 1) (N := 17) (T := TX3) C hw iw_3 rfl hr (by decide) (by decide) fl_X3_49 rfl rfl dX3_copy_10 ?_
  refine lv_topi (fun x_2 ex_2 => ?_)
  have L1 : rs 1 = (x_2 : Int32).toInt := (hs.1 1 (by decide) (by decide)).trans (congrArg Int32.toInt (((tI_uTE hM_1)).symm.trans ex_2.symm))
  refine ti_putI (ci := 3) (k := 1) (N := 17) (T := TX3) C hw iw_3 tyX3 tyX3_ok nmX3 rfl hq (by decide) (by decide) fl_X3_49 rfl rfl rfl rfl (fn_3 A _) fs_3_1 dX3_copy_13 (fun H locs hw => ?_)
  obtain ⟨M_3, hM_3⟩ : ∃ z : ti_M, z = uI M_1 q 1 x_2 := ⟨_, rfl⟩
  have hw := hw.to hM_3.symm
  have iM_3 : cI Tc M_3 := cI_uI iM_1 hM_3 hq.1 trivial
  refine lv_aload_n hx hb dX3_copy_16 rfl (lv_at hl 0 rfl) ?_
  refine lv_aload_n hx hb dX3_copy_17 rfl (lv_at hl 1 rfl) ?_
  refine ti_get (ci := 3) (k := 2) (N := 17) (T := TX3) C hw iw_3 rfl hr (by decide) (by decide) fl_X3_53 rfl rfl dX3_copy_18 ?_
  refine lv_topi (fun x_4 ex_4 => ?_)
  have L2 : rs 2 = (x_4 : Int32).toInt := (hs.1 2 (by decide) (by decide)).trans (congrArg Int32.toInt ((((tI_nE hM_3 (nk (by decide))).trans (tI_uTE hM_1))).symm.trans ex_4.symm))
  refine ti_putI (ci := 3) (k := 2) (N := 17) (T := TX3) C hw iw_3 tyX3 tyX3_ok nmX3 rfl hq (by decide) (by decide) fl_X3_53 rfl rfl rfl rfl (fn_3 A _) fs_3_2 dX3_copy_21 (fun H locs hw => ?_)
  obtain ⟨M_5, hM_5⟩ : ∃ z : ti_M, z = uI M_3 q 2 x_4 := ⟨_, rfl⟩
  have hw := hw.to hM_5.symm
  have iM_5 : cI Tc M_5 := cI_uI iM_3 hM_5 hq.1 (fun hp => cI_rd iM_3 hr.1 ex_4 (hpr hp))
  refine lv_aload_n hx hb dX3_copy_24 rfl (lv_at hl 0 rfl) ?_
  refine lv_aload_n hx hb dX3_copy_25 rfl (lv_at hl 1 rfl) ?_
  refine ti_get (ci := 3) (k := 3) (N := 17) (T := TX3) C hw iw_3 rfl hr (by decide) (by decide) fl_X3_56 rfl rfl dX3_copy_26 ?_
  refine lv_topi (fun x_6 ex_6 => ?_)
  have bx_6 : 0 ≤ x_6.toInt ∧ x_6.toInt ≤ 8 := cI_rd iM_5 hr.1 ex_6
  have ux_6 : (tI M_5 r 3).toInt = x_6.toInt := by rw [ex_6]
  have L3 : rs 3 = (x_6 : Int32).toInt := (hs.1 3 (by decide) (by decide)).trans (congrArg Int32.toInt ((((tI_nE hM_5 (nk (by decide))).trans ((tI_nE hM_3 (nk (by decide))).trans (tI_uTE hM_1)))).symm.trans ex_6.symm))
  refine ti_putI (ci := 3) (k := 3) (N := 17) (T := TX3) C hw iw_3 tyX3 tyX3_ok nmX3 rfl hq (by decide) (by decide) fl_X3_56 rfl rfl rfl rfl (fn_3 A _) fs_3_3 dX3_copy_29 (fun H locs hw => ?_)
  obtain ⟨M_7, hM_7⟩ : ∃ z : ti_M, z = uI M_5 q 3 x_6 := ⟨_, rfl⟩
  have hw := hw.to hM_7.symm
  have iM_7 : cI Tc M_7 := cI_uI iM_5 hM_7 hq.1 (ib_mk (lo := 0) (hi := 8) (by omega) (by omega))
  have vM_7 : (tI M_7 q 3).toInt = (x_6 : Int32).toInt := by rw [tI_uE hM_7]
  refine lv_aload_n hx hb dX3_copy_32 rfl (lv_at hl 0 rfl) ?_
  refine lv_aload_n hx hb dX3_copy_33 rfl (lv_at hl 1 rfl) ?_
  refine ti_get (ci := 3) (k := 4) (N := 17) (T := TX3) C hw iw_3 rfl hr (by decide) (by decide) fl_X3_64 rfl rfl dX3_copy_34 ?_
  refine lv_topi (fun x_8 ex_8 => ?_)
  have L4 : rs 4 = (x_8 : Int32).toInt := (hs.1 4 (by decide) (by decide)).trans (congrArg Int32.toInt ((((tI_nE hM_7 (nk (by decide))).trans ((tI_nE hM_5 (nk (by decide))).trans ((tI_nE hM_3 (nk (by decide))).trans (tI_uTE hM_1))))).symm.trans ex_8.symm))
  refine ti_putI (ci := 3) (k := 4) (N := 17) (T := TX3) C hw iw_3 tyX3 tyX3_ok nmX3 rfl hq (by decide) (by decide) fl_X3_64 rfl rfl rfl rfl (fn_3 A _) fs_3_4 dX3_copy_37 (fun H locs hw => ?_)
  obtain ⟨M_9, hM_9⟩ : ∃ z : ti_M, z = uI M_7 q 4 x_8 := ⟨_, rfl⟩
  have hw := hw.to hM_9.symm
  have iM_9 : cI Tc M_9 := cI_uI iM_7 hM_9 hq.1 trivial
  refine lv_aload_n hx hb dX3_copy_40 rfl (lv_at hl 0 rfl) ?_
  refine lv_aload_n hx hb dX3_copy_41 rfl (lv_at hl 1 rfl) ?_
  refine ti_get (ci := 3) (k := 5) (N := 17) (T := TX3) C hw iw_3 rfl hr (by decide) (by decide) fl_X3_68 rfl rfl dX3_copy_42 ?_
  refine lv_topi (fun x_10 ex_10 => ?_)
  have L5 : rs 5 = (x_10 : Int32).toInt := (hs.1 5 (by decide) (by decide)).trans (congrArg Int32.toInt ((((tI_nE hM_9 (nk (by decide))).trans ((tI_nE hM_7 (nk (by decide))).trans ((tI_nE hM_5 (nk (by decide))).trans ((tI_nE hM_3 (nk (by decide))).trans (tI_uTE hM_1)))))).symm.trans ex_10.symm))
  refine ti_putI (ci := 3) (k := 5) (N := 17) (T := TX3) C hw iw_3 tyX3 tyX3_ok nmX3 rfl hq (by decide) (by decide) fl_X3_68 rfl rfl rfl rfl (fn_3 A _) fs_3_5 dX3_copy_45 (fun H locs hw => ?_)
  obtain ⟨M_11, hM_11⟩ : ∃ z : ti_M, z = uI M_9 q 5 x_10 := ⟨_, rfl⟩
  have hw := hw.to hM_11.symm
  have iM_11 : cI Tc M_11 := cI_uI iM_9 hM_11 hq.1 trivial
  refine lv_aload_n hx hb dX3_copy_48 rfl (lv_at hl 1 rfl) ?_
  refine ti_get (ci := 3) (k := 6) (N := 17) (T := TX3) (v := .ref (A r 7)) C hw iw_3 rfl hr (by decide) (by decide) fl_X3_9 rfl rfl dX3_copy_49 ?_
  refine lv_iconst (v := 0) hx hb dX3_copy_52 (by decide) ?_
  refine lv_aload_n hx hb dX3_copy_53 rfl (lv_at hl 0 rfl) ?_
  refine ti_get (ci := 3) (k := 6) (N := 17) (T := TX3) (v := .ref (A q 7)) C hw iw_3 rfl hq (by decide) (by decide) fl_X3_9 rfl rfl dX3_copy_54 ?_
  refine lv_iconst (v := 0) hx hb dX3_copy_57 (by decide) ?_
  refine lv_bipush (v := 8) hx hb dX3_copy_58 (by decide) ?_
  refine ti_copy (c1 := 3) (k1 := 6) (n1 := 8) (c2 := 3) (k2 := 6) (n2 := 8) C hw ml_X3_72 sy_nat sy_sta sy_ini hr (by decide) (fun _ _ => rfl) hq (by decide) (fun _ _ => rfl) hl.1 (by decide) (by decide) (by decide) (by decide) (by decide) (by decide) (Nat.le_of_ble_eq_true rfl) dX3_copy_60 (fun H locs hw => ?_)
  obtain ⟨M_12, hM_12⟩ : ∃ z : ti_M, z = uY M_11 q 6 (va_cpy (tY M_11 r 6) (tY M_11 q 6) (0 : Int32).toNatClampNeg (0 : Int32).toNatClampNeg (8 : Int32).toNatClampNeg) := ⟨_, rfl⟩
  have hw := hw.to hM_12.symm
  have iM_12 : cI Tc M_12 := cI_cp iM_11 hM_12 hq.1 (fun i => cI_ry iM_11 hr.1 rfl)
  refine lv_aload_n hx hb dX3_copy_63 rfl (lv_at hl 1 rfl) ?_
  refine ti_get (ci := 3) (k := 7) (N := 17) (T := TX3) (v := .ref (A r 8)) C hw iw_3 rfl hr (by decide) (by decide) fl_X3_15 rfl rfl dX3_copy_64 ?_
  refine lv_iconst (v := 0) hx hb dX3_copy_67 (by decide) ?_
  refine lv_aload_n hx hb dX3_copy_68 rfl (lv_at hl 0 rfl) ?_
  refine ti_get (ci := 3) (k := 7) (N := 17) (T := TX3) (v := .ref (A q 8)) C hw iw_3 rfl hq (by decide) (by decide) fl_X3_15 rfl rfl dX3_copy_69 ?_
  refine lv_iconst (v := 0) hx hb dX3_copy_72 (by decide) ?_
  refine lv_iconst (v := 3) hx hb dX3_copy_73 (by decide) ?_
  refine ti_copy (c1 := 3) (k1 := 7) (n1 := 3) (c2 := 3) (k2 := 7) (n2 := 3) C hw ml_X3_72 sy_nat sy_sta sy_ini hr (by decide) (fun _ _ => rfl) hq (by decide) (fun _ _ => rfl) hl.1 (by decide) (by decide) (by decide) (by decide) (by decide) (by decide) (Nat.le_of_ble_eq_true rfl) dX3_copy_74 (fun H locs hw => ?_)
  obtain ⟨M_13, hM_13⟩ : ∃ z : ti_M, z = uY M_12 q 7 (va_cpy (tY M_12 r 7) (tY M_12 q 7) (0 : Int32).toNatClampNeg (0 : Int32).toNatClampNeg (3 : Int32).toNatClampNeg) := ⟨_, rfl⟩
  have hw := hw.to hM_13.symm
  have iM_13 : cI Tc M_13 := cI_cp iM_12 hM_13 hq.1 (fun _ => trivial)
  refine lv_aload_n hx hb dX3_copy_77 rfl (lv_at hl 1 rfl) ?_
  refine ti_get (ci := 3) (k := 8) (N := 17) (T := TX3) (v := .ref (A r 9)) C hw iw_3 rfl hr (by decide) (by decide) fl_X3_18 rfl rfl dX3_copy_78 ?_
  refine lv_iconst (v := 0) hx hb dX3_copy_81 (by decide) ?_
  refine lv_aload_n hx hb dX3_copy_82 rfl (lv_at hl 0 rfl) ?_
  refine ti_get (ci := 3) (k := 8) (N := 17) (T := TX3) (v := .ref (A q 9)) C hw iw_3 rfl hq (by decide) (by decide) fl_X3_18 rfl rfl dX3_copy_83 ?_
  refine lv_iconst (v := 0) hx hb dX3_copy_86 (by decide) ?_
  refine lv_bipush (v := 8) hx hb dX3_copy_87 (by decide) ?_
  refine ti_copy (c1 := 3) (k1 := 8) (n1 := 8) (c2 := 3) (k2 := 8) (n2 := 8) C hw ml_X3_72 sy_nat sy_sta sy_ini hr (by decide) (fun _ _ => rfl) hq (by decide) (fun _ _ => rfl) hl.1 (by decide) (by decide) (by decide) (by decide) (by decide) (by decide) (Nat.le_of_ble_eq_true rfl) dX3_copy_89 (fun H locs hw => ?_)
  obtain ⟨M_14, hM_14⟩ : ∃ z : ti_M, z = uY M_13 q 8 (va_cpy (tY M_13 r 8) (tY M_13 q 8) (0 : Int32).toNatClampNeg (0 : Int32).toNatClampNeg (8 : Int32).toNatClampNeg) := ⟨_, rfl⟩
  have hw := hw.to hM_14.symm
  have iM_14 : cI Tc M_14 := cI_cp iM_13 hM_14 hq.1 (fun _ => trivial)
  refine lv_aload_n hx hb dX3_copy_92 rfl (lv_at hl 1 rfl) ?_
  refine ti_get (ci := 3) (k := 9) (N := 17) (T := TX3) (v := .ref (A r 10)) C hw iw_3 rfl hr (by decide) (by decide) fl_X3_21 rfl rfl dX3_copy_93 ?_
  refine lv_iconst (v := 0) hx hb dX3_copy_96 (by decide) ?_
  refine lv_aload_n hx hb dX3_copy_97 rfl (lv_at hl 0 rfl) ?_
  refine ti_get (ci := 3) (k := 9) (N := 17) (T := TX3) (v := .ref (A q 10)) C hw iw_3 rfl hq (by decide) (by decide) fl_X3_21 rfl rfl dX3_copy_98 ?_
  refine lv_iconst (v := 0) hx hb dX3_copy_101 (by decide) ?_
  refine lv_bipush (v := 8) hx hb dX3_copy_102 (by decide) ?_
  refine ti_copy (c1 := 3) (k1 := 9) (n1 := 8) (c2 := 3) (k2 := 9) (n2 := 8) C hw ml_X3_72 sy_nat sy_sta sy_ini hr (by decide) (fun _ _ => rfl) hq (by decide) (fun _ _ => rfl) hl.1 (by decide) (by decide) (by decide) (by decide) (by decide) (by decide) (Nat.le_of_ble_eq_true rfl) dX3_copy_104 (fun H locs hw => ?_)
  obtain ⟨M_15, hM_15⟩ : ∃ z : ti_M, z = uY M_14 q 9 (va_cpy (tY M_14 r 9) (tY M_14 q 9) (0 : Int32).toNatClampNeg (0 : Int32).toNatClampNeg (8 : Int32).toNatClampNeg) := ⟨_, rfl⟩
  have hw := hw.to hM_15.symm
  have iM_15 : cI Tc M_15 := cI_cp iM_14 hM_15 hq.1 (fun _ => trivial)
  refine lv_aload_n hx hb dX3_copy_107 rfl (lv_at hl 1 rfl) ?_
  refine ti_get (ci := 3) (k := 10) (N := 17) (T := TX3) (v := .ref (A r 11)) C hw iw_3 rfl hr (by decide) (by decide) fl_X3_24 rfl rfl dX3_copy_108 ?_
  refine lv_iconst (v := 0) hx hb dX3_copy_111 (by decide) ?_
  refine lv_aload_n hx hb dX3_copy_112 rfl (lv_at hl 0 rfl) ?_
  refine ti_get (ci := 3) (k := 10) (N := 17) (T := TX3) (v := .ref (A q 11)) C hw iw_3 rfl hq (by decide) (by decide) fl_X3_24 rfl rfl dX3_copy_113 ?_
  refine lv_iconst (v := 0) hx hb dX3_copy_116 (by decide) ?_
  refine lv_bipush (v := 8) hx hb dX3_copy_117 (by decide) ?_
  refine ti_copy (c1 := 3) (k1 := 10) (n1 := 8) (c2 := 3) (k2 := 10) (n2 := 8) C hw ml_X3_72 sy_nat sy_sta sy_ini hr (by decide) (fun _ _ => rfl) hq (by decide) (fun _ _ => rfl) hl.1 (by decide) (by decide) (by decide) (by decide) (by decide) (by decide) (Nat.le_of_ble_eq_true rfl) dX3_copy_119 (fun H locs hw => ?_)
  obtain ⟨M_16, hM_16⟩ : ∃ z : ti_M, z = uY M_15 q 10 (va_cpy (tY M_15 r 10) (tY M_15 q 10) (0 : Int32).toNatClampNeg (0 : Int32).toNatClampNeg (8 : Int32).toNatClampNeg) := ⟨_, rfl⟩
  have hw := hw.to hM_16.symm
  have iM_16 : cI Tc M_16 := cI_cp iM_15 hM_16 hq.1 (fun _ => trivial)
  refine lv_aload_n hx hb dX3_copy_122 rfl (lv_at hl 1 rfl) ?_
  refine ti_get (ci := 3) (k := 11) (N := 17) (T := TX3) (v := .ref (A r 12)) C hw iw_3 rfl hr (by decide) (by decide) fl_X3_27 rfl rfl dX3_copy_123 ?_
  refine lv_iconst (v := 0) hx hb dX3_copy_126 (by decide) ?_
  refine lv_aload_n hx hb dX3_copy_127 rfl (lv_at hl 0 rfl) ?_
  refine ti_get (ci := 3) (k := 11) (N := 17) (T := TX3) (v := .ref (A q 12)) C hw iw_3 rfl hq (by decide) (by decide) fl_X3_27 rfl rfl dX3_copy_128 ?_
  refine lv_iconst (v := 0) hx hb dX3_copy_131 (by decide) ?_
  refine lv_bipush (v := 8) hx hb dX3_copy_132 (by decide) ?_
  refine ti_copy (c1 := 3) (k1 := 11) (n1 := 8) (c2 := 3) (k2 := 11) (n2 := 8) C hw ml_X3_72 sy_nat sy_sta sy_ini hr (by decide) (fun _ _ => rfl) hq (by decide) (fun _ _ => rfl) hl.1 (by decide) (by decide) (by decide) (by decide) (by decide) (by decide) (Nat.le_of_ble_eq_true rfl) dX3_copy_134 (fun H locs hw => ?_)
  obtain ⟨M_17, hM_17⟩ : ∃ z : ti_M, z = uY M_16 q 11 (va_cpy (tY M_16 r 11) (tY M_16 q 11) (0 : Int32).toNatClampNeg (0 : Int32).toNatClampNeg (8 : Int32).toNatClampNeg) := ⟨_, rfl⟩
  have hw := hw.to hM_17.symm
  have iM_17 : cI Tc M_17 := cI_cp iM_16 hM_17 hq.1 (fun _ => trivial)
  refine lv_aload_n hx hb dX3_copy_137 rfl (lv_at hl 1 rfl) ?_
  refine ti_get (ci := 3) (k := 12) (N := 17) (T := TX3) (v := .ref (A r 13)) C hw iw_3 rfl hr (by decide) (by decide) fl_X3_30 rfl rfl dX3_copy_138 ?_
  refine lv_iconst (v := 0) hx hb dX3_copy_141 (by decide) ?_
  refine lv_aload_n hx hb dX3_copy_142 rfl (lv_at hl 0 rfl) ?_
  refine ti_get (ci := 3) (k := 12) (N := 17) (T := TX3) (v := .ref (A q 13)) C hw iw_3 rfl hq (by decide) (by decide) fl_X3_30 rfl rfl dX3_copy_143 ?_
  refine lv_iconst (v := 0) hx hb dX3_copy_146 (by decide) ?_
  refine lv_bipush (v := 8) hx hb dX3_copy_147 (by decide) ?_
  refine ti_copy (c1 := 3) (k1 := 12) (n1 := 8) (c2 := 3) (k2 := 12) (n2 := 8) C hw ml_X3_72 sy_nat sy_sta sy_ini hr (by decide) (fun _ _ => rfl) hq (by decide) (fun _ _ => rfl) hl.1 (by decide) (by decide) (by decide) (by decide) (by decide) (by decide) (Nat.le_of_ble_eq_true rfl) dX3_copy_149 (fun H locs hw => ?_)
  obtain ⟨M_18, hM_18⟩ : ∃ z : ti_M, z = uY M_17 q 12 (va_cpy (tY M_17 r 12) (tY M_17 q 12) (0 : Int32).toNatClampNeg (0 : Int32).toNatClampNeg (8 : Int32).toNatClampNeg) := ⟨_, rfl⟩
  have hw := hw.to hM_18.symm
  have iM_18 : cI Tc M_18 := cI_cp iM_17 hM_18 hq.1 (fun _ => trivial)
  refine lv_aload_n hx hb dX3_copy_152 rfl (lv_at hl 1 rfl) ?_
  refine ti_get (ci := 3) (k := 13) (N := 17) (T := TX3) (v := .ref (A r 14)) C hw iw_3 rfl hr (by decide) (by decide) fl_X3_33 rfl rfl dX3_copy_153 ?_
  refine lv_iconst (v := 0) hx hb dX3_copy_156 (by decide) ?_
  refine lv_aload_n hx hb dX3_copy_157 rfl (lv_at hl 0 rfl) ?_
  refine ti_get (ci := 3) (k := 13) (N := 17) (T := TX3) (v := .ref (A q 14)) C hw iw_3 rfl hq (by decide) (by decide) fl_X3_33 rfl rfl dX3_copy_158 ?_
  refine lv_iconst (v := 0) hx hb dX3_copy_161 (by decide) ?_
  refine lv_bipush (v := 8) hx hb dX3_copy_162 (by decide) ?_
  refine ti_copy (c1 := 3) (k1 := 13) (n1 := 8) (c2 := 3) (k2 := 13) (n2 := 8) C hw ml_X3_72 sy_nat sy_sta sy_ini hr (by decide) (fun _ _ => rfl) hq (by decide) (fun _ _ => rfl) hl.1 (by decide) (by decide) (by decide) (by decide) (by decide) (by decide) (Nat.le_of_ble_eq_true rfl) dX3_copy_164 (fun H locs hw => ?_)
  obtain ⟨M_19, hM_19⟩ : ∃ z : ti_M, z = uY M_18 q 13 (va_cpy (tY M_18 r 13) (tY M_18 q 13) (0 : Int32).toNatClampNeg (0 : Int32).toNatClampNeg (8 : Int32).toNatClampNeg) := ⟨_, rfl⟩
  have hw := hw.to hM_19.symm
  have iM_19 : cI Tc M_19 := cI_cp iM_18 hM_19 hq.1 (fun _ => trivial)
  refine lv_aload_n hx hb dX3_copy_167 rfl (lv_at hl 1 rfl) ?_
  refine ti_get (ci := 3) (k := 14) (N := 17) (T := TX3) (v := .ref (A r 15)) C hw iw_3 rfl hr (by decide) (by decide) fl_X3_36 rfl rfl dX3_copy_168 ?_
  refine lv_iconst (v := 0) hx hb dX3_copy_171 (by decide) ?_
  refine lv_aload_n hx hb dX3_copy_172 rfl (lv_at hl 0 rfl) ?_
  refine ti_get (ci := 3) (k := 14) (N := 17) (T := TX3) (v := .ref (A q 15)) C hw iw_3 rfl hq (by decide) (by decide) fl_X3_36 rfl rfl dX3_copy_173 ?_
  refine lv_iconst (v := 0) hx hb dX3_copy_176 (by decide) ?_
  refine lv_bipush (v := 8) hx hb dX3_copy_177 (by decide) ?_
  refine ti_copy (c1 := 3) (k1 := 14) (n1 := 8) (c2 := 3) (k2 := 14) (n2 := 8) C hw ml_X3_72 sy_nat sy_sta sy_ini hr (by decide) (fun _ _ => rfl) hq (by decide) (fun _ _ => rfl) hl.1 (by decide) (by decide) (by decide) (by decide) (by decide) (by decide) (Nat.le_of_ble_eq_true rfl) dX3_copy_179 (fun H locs hw => ?_)
  obtain ⟨M_20, hM_20⟩ : ∃ z : ti_M, z = uY M_19 q 14 (va_cpy (tY M_19 r 14) (tY M_19 q 14) (0 : Int32).toNatClampNeg (0 : Int32).toNatClampNeg (8 : Int32).toNatClampNeg) := ⟨_, rfl⟩
  have hw := hw.to hM_20.symm
  have iM_20 : cI Tc M_20 := cI_cp iM_19 hM_20 hq.1 (fun _ => trivial)
  refine lv_aload_n hx hb dX3_copy_182 rfl (lv_at hl 1 rfl) ?_
  refine ti_get (ci := 3) (k := 15) (N := 17) (T := TX3) (v := .ref (A r 16)) C hw iw_3 rfl hr (by decide) (by decide) fl_X3_39 rfl rfl dX3_copy_183 ?_
  refine lv_iconst (v := 0) hx hb dX3_copy_186 (by decide) ?_
  refine lv_aload_n hx hb dX3_copy_187 rfl (lv_at hl 0 rfl) ?_
  refine ti_get (ci := 3) (k := 15) (N := 17) (T := TX3) (v := .ref (A q 16)) C hw iw_3 rfl hq (by decide) (by decide) fl_X3_39 rfl rfl dX3_copy_188 ?_
  refine lv_iconst (v := 0) hx hb dX3_copy_191 (by decide) ?_
  refine lv_bipush (v := 8) hx hb dX3_copy_192 (by decide) ?_
  refine ti_copy (c1 := 3) (k1 := 15) (n1 := 8) (c2 := 3) (k2 := 15) (n2 := 8) C hw ml_X3_72 sy_nat sy_sta sy_ini hr (by decide) (fun _ _ => rfl) hq (by decide) (fun _ _ => rfl) hl.1 (by decide) (by decide) (by decide) (by decide) (by decide) (by decide) (Nat.le_of_ble_eq_true rfl) dX3_copy_194 (fun H locs hw => ?_)
  obtain ⟨M_21, hM_21⟩ : ∃ z : ti_M, z = uY M_20 q 15 (va_cpy (tY M_20 r 15) (tY M_20 q 15) (0 : Int32).toNatClampNeg (0 : Int32).toNatClampNeg (8 : Int32).toNatClampNeg) := ⟨_, rfl⟩
  have hw := hw.to hM_21.symm
  have iM_21 : cI Tc M_21 := cI_cp iM_20 hM_21 hq.1 (fun _ => trivial)
  refine lv_aload_n hx hb dX3_copy_197 rfl (lv_at hl 1 rfl) ?_
  refine ti_get (ci := 3) (k := 16) (N := 17) (T := TX3) (v := .ref (A r 17)) C hw iw_3 rfl hr (by decide) (by decide) fl_X3_42 rfl rfl dX3_copy_198 ?_
  refine lv_iconst (v := 0) hx hb dX3_copy_201 (by decide) ?_
  refine lv_aload_n hx hb dX3_copy_202 rfl (lv_at hl 0 rfl) ?_
  refine ti_get (ci := 3) (k := 16) (N := 17) (T := TX3) (v := .ref (A q 17)) C hw iw_3 rfl hq (by decide) (by decide) fl_X3_42 rfl rfl dX3_copy_203 ?_
  refine lv_iconst (v := 0) hx hb dX3_copy_206 (by decide) ?_
  refine lv_bipush (v := 8) hx hb dX3_copy_207 (by decide) ?_
  refine ti_copy (c1 := 3) (k1 := 16) (n1 := 8) (c2 := 3) (k2 := 16) (n2 := 8) C hw ml_X3_72 sy_nat sy_sta sy_ini hr (by decide) (fun _ _ => rfl) hq (by decide) (fun _ _ => rfl) hl.1 (by decide) (by decide) (by decide) (by decide) (by decide) (by decide) (Nat.le_of_ble_eq_true rfl) dX3_copy_209 (fun H locs hw => ?_)
  obtain ⟨M_22, hM_22⟩ : ∃ z : ti_M, z = uY M_21 q 16 (va_cpy (tY M_21 r 16) (tY M_21 q 16) (0 : Int32).toNatClampNeg (0 : Int32).toNatClampNeg (8 : Int32).toNatClampNeg) := ⟨_, rfl⟩
  have hw := hw.to hM_22.symm
  have iM_22 : cI Tc M_22 := cI_cp iM_21 hM_22 hq.1 (fun _ => trivial)
  have QQ_23 : qC q rs M_22 := by
    refine ⟨fun k h1 h2 => ?_, fun k i h6 h16 hi h7 => ?_⟩
    · rcases (show k = 1 ∨ k = 2 ∨ k = 3 ∨ k = 4 ∨ k = 5 by omega) with rfl | rfl | rfl | rfl | rfl
      · exact L1.trans (congrArg Int32.toInt ((tI_uYE hM_22).trans ((tI_uYE hM_21).trans ((tI_uYE hM_20).trans ((tI_uYE hM_19).trans ((tI_uYE hM_18).trans ((tI_uYE hM_17).trans ((tI_uYE hM_16).trans ((tI_uYE hM_15).trans ((tI_uYE hM_14).trans ((tI_uYE hM_13).trans ((tI_uYE hM_12).trans ((tI_nE hM_11 (nk (by decide))).trans ((tI_nE hM_9 (nk (by decide))).trans ((tI_nE hM_7 (nk (by decide))).trans ((tI_nE hM_5 (nk (by decide))).trans (tI_uE hM_3))))))))))))))))).symm
      · exact L2.trans (congrArg Int32.toInt ((tI_uYE hM_22).trans ((tI_uYE hM_21).trans ((tI_uYE hM_20).trans ((tI_uYE hM_19).trans ((tI_uYE hM_18).trans ((tI_uYE hM_17).trans ((tI_uYE hM_16).trans ((tI_uYE hM_15).trans ((tI_uYE hM_14).trans ((tI_uYE hM_13).trans ((tI_uYE hM_12).trans ((tI_nE hM_11 (nk (by decide))).trans ((tI_nE hM_9 (nk (by decide))).trans ((tI_nE hM_7 (nk (by decide))).trans (tI_uE hM_5)))))))))))))))).symm
      · exact L3.trans (congrArg Int32.toInt ((tI_uYE hM_22).trans ((tI_uYE hM_21).trans ((tI_uYE hM_20).trans ((tI_uYE hM_19).trans ((tI_uYE hM_18).trans ((tI_uYE hM_17).trans ((tI_uYE hM_16).trans ((tI_uYE hM_15).trans ((tI_uYE hM_14).trans ((tI_uYE hM_13).trans ((tI_uYE hM_12).trans ((tI_nE hM_11 (nk (by decide))).trans ((tI_nE hM_9 (nk (by decide))).trans (tI_uE hM_7))))))))))))))).symm
      · exact L4.trans (congrArg Int32.toInt ((tI_uYE hM_22).trans ((tI_uYE hM_21).trans ((tI_uYE hM_20).trans ((tI_uYE hM_19).trans ((tI_uYE hM_18).trans ((tI_uYE hM_17).trans ((tI_uYE hM_16).trans ((tI_uYE hM_15).trans ((tI_uYE hM_14).trans ((tI_uYE hM_13).trans ((tI_uYE hM_12).trans ((tI_nE hM_11 (nk (by decide))).trans (tI_uE hM_9)))))))))))))).symm
      · exact L5.trans (congrArg Int32.toInt ((tI_uYE hM_22).trans ((tI_uYE hM_21).trans ((tI_uYE hM_20).trans ((tI_uYE hM_19).trans ((tI_uYE hM_18).trans ((tI_uYE hM_17).trans ((tI_uYE hM_16).trans ((tI_uYE hM_15).trans ((tI_uYE hM_14).trans ((tI_uYE hM_13).trans ((tI_uYE hM_12).trans (tI_uE hM_11))))))))))))).symm
    · rw [hs.2 k i h6 h16 hi h7]
      apply congrArg Int32.toInt
      symm
      rcases (show k = 6 ∨ k = 7 ∨ k = 8 ∨ k = 9 ∨ k = 10 ∨ k = 11 ∨ k = 12 ∨ k = 13 ∨ k = 14 ∨ k = 15 ∨ k = 16 by omega) with rfl | rfl | rfl | rfl | rfl | rfl | rfl | rfl | rfl | rfl | rfl
      · exact cp_row (n := 8) hM_12 rfl (by decide) (((tY_nE hM_22 (nk (by decide))).trans ((tY_nE hM_21 (nk (by decide))).trans ((tY_nE hM_20 (nk (by decide))).trans ((tY_nE hM_19 (nk (by decide))).trans ((tY_nE hM_18 (nk (by decide))).trans ((tY_nE hM_17 (nk (by decide))).trans ((tY_nE hM_16 (nk (by decide))).trans ((tY_nE hM_15 (nk (by decide))).trans ((tY_nE hM_14 (nk (by decide))).trans (tY_nE hM_13 (nk (by decide))))))))))))) (((tY_uIE hM_11).trans ((tY_uIE hM_9).trans ((tY_uIE hM_7).trans ((tY_uIE hM_5).trans ((tY_uIE hM_3).trans (tY_uTE hM_1))))))) (by omega)
      · have h3 := h7 rfl; exact cp_row (n := 3) hM_13 rfl (by decide) (((tY_nE hM_22 (nk (by decide))).trans ((tY_nE hM_21 (nk (by decide))).trans ((tY_nE hM_20 (nk (by decide))).trans ((tY_nE hM_19 (nk (by decide))).trans ((tY_nE hM_18 (nk (by decide))).trans ((tY_nE hM_17 (nk (by decide))).trans ((tY_nE hM_16 (nk (by decide))).trans ((tY_nE hM_15 (nk (by decide))).trans (tY_nE hM_14 (nk (by decide)))))))))))) (((tY_nE hM_12 (no (Ne.symm hqr))).trans ((tY_uIE hM_11).trans ((tY_uIE hM_9).trans ((tY_uIE hM_7).trans ((tY_uIE hM_5).trans ((tY_uIE hM_3).trans (tY_uTE hM_1)))))))) (by omega)
      · exact cp_row (n := 8) hM_14 rfl (by decide) (((tY_nE hM_22 (nk (by decide))).trans ((tY_nE hM_21 (nk (by decide))).trans ((tY_nE hM_20 (nk (by decide))).trans ((tY_nE hM_19 (nk (by decide))).trans ((tY_nE hM_18 (nk (by decide))).trans ((tY_nE hM_17 (nk (by decide))).trans ((tY_nE hM_16 (nk (by decide))).trans (tY_nE hM_15 (nk (by decide))))))))))) (((tY_nE hM_13 (no (Ne.symm hqr))).trans ((tY_nE hM_12 (no (Ne.symm hqr))).trans ((tY_uIE hM_11).trans ((tY_uIE hM_9).trans ((tY_uIE hM_7).trans ((tY_uIE hM_5).trans ((tY_uIE hM_3).trans (tY_uTE hM_1))))))))) (by omega)
      · exact cp_row (n := 8) hM_15 rfl (by decide) (((tY_nE hM_22 (nk (by decide))).trans ((tY_nE hM_21 (nk (by decide))).trans ((tY_nE hM_20 (nk (by decide))).trans ((tY_nE hM_19 (nk (by decide))).trans ((tY_nE hM_18 (nk (by decide))).trans ((tY_nE hM_17 (nk (by decide))).trans (tY_nE hM_16 (nk (by decide)))))))))) (((tY_nE hM_14 (no (Ne.symm hqr))).trans ((tY_nE hM_13 (no (Ne.symm hqr))).trans ((tY_nE hM_12 (no (Ne.symm hqr))).trans ((tY_uIE hM_11).trans ((tY_uIE hM_9).trans ((tY_uIE hM_7).trans ((tY_uIE hM_5).trans ((tY_uIE hM_3).trans (tY_uTE hM_1)))))))))) (by omega)
      · exact cp_row (n := 8) hM_16 rfl (by decide) (((tY_nE hM_22 (nk (by decide))).trans ((tY_nE hM_21 (nk (by decide))).trans ((tY_nE hM_20 (nk (by decide))).trans ((tY_nE hM_19 (nk (by decide))).trans ((tY_nE hM_18 (nk (by decide))).trans (tY_nE hM_17 (nk (by decide))))))))) (((tY_nE hM_15 (no (Ne.symm hqr))).trans ((tY_nE hM_14 (no (Ne.symm hqr))).trans ((tY_nE hM_13 (no (Ne.symm hqr))).trans ((tY_nE hM_12 (no (Ne.symm hqr))).trans ((tY_uIE hM_11).trans ((tY_uIE hM_9).trans ((tY_uIE hM_7).trans ((tY_uIE hM_5).trans ((tY_uIE hM_3).trans (tY_uTE hM_1))))))))))) (by omega)
      · exact cp_row (n := 8) hM_17 rfl (by decide) (((tY_nE hM_22 (nk (by decide))).trans ((tY_nE hM_21 (nk (by decide))).trans ((tY_nE hM_20 (nk (by decide))).trans ((tY_nE hM_19 (nk (by decide))).trans (tY_nE hM_18 (nk (by decide)))))))) (((tY_nE hM_16 (no (Ne.symm hqr))).trans ((tY_nE hM_15 (no (Ne.symm hqr))).trans ((tY_nE hM_14 (no (Ne.symm hqr))).trans ((tY_nE hM_13 (no (Ne.symm hqr))).trans ((tY_nE hM_12 (no (Ne.symm hqr))).trans ((tY_uIE hM_11).trans ((tY_uIE hM_9).trans ((tY_uIE hM_7).trans ((tY_uIE hM_5).trans ((tY_uIE hM_3).trans (tY_uTE hM_1)))))))))))) (by omega)
      · exact cp_row (n := 8) hM_18 rfl (by decide) (((tY_nE hM_22 (nk (by decide))).trans ((tY_nE hM_21 (nk (by decide))).trans ((tY_nE hM_20 (nk (by decide))).trans (tY_nE hM_19 (nk (by decide))))))) (((tY_nE hM_17 (no (Ne.symm hqr))).trans ((tY_nE hM_16 (no (Ne.symm hqr))).trans ((tY_nE hM_15 (no (Ne.symm hqr))).trans ((tY_nE hM_14 (no (Ne.symm hqr))).trans ((tY_nE hM_13 (no (Ne.symm hqr))).trans ((tY_nE hM_12 (no (Ne.symm hqr))).trans ((tY_uIE hM_11).trans ((tY_uIE hM_9).trans ((tY_uIE hM_7).trans ((tY_uIE hM_5).trans ((tY_uIE hM_3).trans (tY_uTE hM_1))))))))))))) (by omega)
      · exact cp_row (n := 8) hM_19 rfl (by decide) (((tY_nE hM_22 (nk (by decide))).trans ((tY_nE hM_21 (nk (by decide))).trans (tY_nE hM_20 (nk (by decide)))))) (((tY_nE hM_18 (no (Ne.symm hqr))).trans ((tY_nE hM_17 (no (Ne.symm hqr))).trans ((tY_nE hM_16 (no (Ne.symm hqr))).trans ((tY_nE hM_15 (no (Ne.symm hqr))).trans ((tY_nE hM_14 (no (Ne.symm hqr))).trans ((tY_nE hM_13 (no (Ne.symm hqr))).trans ((tY_nE hM_12 (no (Ne.symm hqr))).trans ((tY_uIE hM_11).trans ((tY_uIE hM_9).trans ((tY_uIE hM_7).trans ((tY_uIE hM_5).trans ((tY_uIE hM_3).trans (tY_uTE hM_1)))))))))))))) (by omega)
      · exact cp_row (n := 8) hM_20 rfl (by decide) (((tY_nE hM_22 (nk (by decide))).trans (tY_nE hM_21 (nk (by decide))))) (((tY_nE hM_19 (no (Ne.symm hqr))).trans ((tY_nE hM_18 (no (Ne.symm hqr))).trans ((tY_nE hM_17 (no (Ne.symm hqr))).trans ((tY_nE hM_16 (no (Ne.symm hqr))).trans ((tY_nE hM_15 (no (Ne.symm hqr))).trans ((tY_nE hM_14 (no (Ne.symm hqr))).trans ((tY_nE hM_13 (no (Ne.symm hqr))).trans ((tY_nE hM_12 (no (Ne.symm hqr))).trans ((tY_uIE hM_11).trans ((tY_uIE hM_9).trans ((tY_uIE hM_7).trans ((tY_uIE hM_5).trans ((tY_uIE hM_3).trans (tY_uTE hM_1))))))))))))))) (by omega)
      · exact cp_row (n := 8) hM_21 rfl (by decide) ((tY_nE hM_22 (nk (by decide)))) (((tY_nE hM_20 (no (Ne.symm hqr))).trans ((tY_nE hM_19 (no (Ne.symm hqr))).trans ((tY_nE hM_18 (no (Ne.symm hqr))).trans ((tY_nE hM_17 (no (Ne.symm hqr))).trans ((tY_nE hM_16 (no (Ne.symm hqr))).trans ((tY_nE hM_15 (no (Ne.symm hqr))).trans ((tY_nE hM_14 (no (Ne.symm hqr))).trans ((tY_nE hM_13 (no (Ne.symm hqr))).trans ((tY_nE hM_12 (no (Ne.symm hqr))).trans ((tY_uIE hM_11).trans ((tY_uIE hM_9).trans ((tY_uIE hM_7).trans ((tY_uIE hM_5).trans ((tY_uIE hM_3).trans (tY_uTE hM_1)))))))))))))))) (by omega)
      · exact cp_row (n := 8) hM_22 rfl (by decide) rfl (((tY_nE hM_21 (no (Ne.symm hqr))).trans ((tY_nE hM_20 (no (Ne.symm hqr))).trans ((tY_nE hM_19 (no (Ne.symm hqr))).trans ((tY_nE hM_18 (no (Ne.symm hqr))).trans ((tY_nE hM_17 (no (Ne.symm hqr))).trans ((tY_nE hM_16 (no (Ne.symm hqr))).trans ((tY_nE hM_15 (no (Ne.symm hqr))).trans ((tY_nE hM_14 (no (Ne.symm hqr))).trans ((tY_nE hM_13 (no (Ne.symm hqr))).trans ((tY_nE hM_12 (no (Ne.symm hqr))).trans ((tY_uIE hM_11).trans ((tY_uIE hM_9).trans ((tY_uIE hM_7).trans ((tY_uIE hM_5).trans ((tY_uIE hM_3).trans (tY_uTE hM_1))))))))))))))))) (by omega)
  exact hQ _ _ _ _ _ hw (⟨iM_22, ((rf_Y hM_22).trans ((rf_Y hM_21).trans ((rf_Y hM_20).trans ((rf_Y hM_19).trans ((rf_Y hM_18).trans ((rf_Y hM_17).trans ((rf_Y hM_16).trans ((rf_Y hM_15).trans ((rf_Y hM_14).trans ((rf_Y hM_13).trans ((rf_Y hM_12).trans ((rf_I hM_11).trans ((rf_I hM_9).trans ((rf_I hM_7).trans ((rf_I hM_5).trans ((rf_I hM_3).trans (rf_Tc hM_1 rfl))))))))))))))))), (eo.trans (eo_Y hM_22) (eo.trans (eo_Y hM_21) (eo.trans (eo_Y hM_20) (eo.trans (eo_Y hM_19) (eo.trans (eo_Y hM_18) (eo.trans (eo_Y hM_17) (eo.trans (eo_Y hM_16) (eo.trans (eo_Y hM_15) (eo.trans (eo_Y hM_14) (eo.trans (eo_Y hM_13) (eo.trans (eo_Y hM_12) (eo.trans (eo_I hM_11) (eo.trans (eo_I hM_9) (eo.trans (eo_I hM_7) (eo.trans (eo_I hM_5) (eo.trans (eo_I hM_3) (eo_T hM_1))))))))))))))))), QQ_23⟩) dX3_copy_212
set_option maxHeartbeats 4000000 in
set_option maxRecDepth 100000 in
theorem z_X3_start (l : Launch) (D : va_G) (A : Nat → Nat → Nat) (cy : Nat → ClassId) (hJ : ti_inj ti_LT A) (M : ti_M) (hI : cI Tc M) (q t : Nat) (hq : ti_ob ti_LT q 3) (ht : t = 3 ∨ t = 4) (tx rg : Nat → Int) (htx : tC t tx M) (hs : qC q rg M) : ti_Kv l yX3_start cX3_start 3 1 ti_LT D A cy M [.ref (A q 0), .ref (A t 0)] (fun M2 => cI Tc M2 ∧ M2.2.2.2 = (uT M q 0 (some t)).2.2.2 ∧ eo q M2 M ∧ qC q (bq_s0 tx rg) M2) := by
  refine ti_eV yp_X3_start hJ ti_LT_nd (Nat.le_of_ble_eq_true rfl) ?_
  intro p e s m args below meth c Q H0 C hQ hw ls hl
  have hx := C.1
  have hb := C.2.1
  have hl : lv_has ls 3 [(0, .ref (A q 0)), (1, .ref (A t 0))] := hl
  have l4 : 0 ≤ tx 4 ∧ tx 4 ≤ 8 := by rw [htx.1 4 (by decide) (by decide)]; exact cI_rd (k := 4) hI (ob_t ht).1 rfl
  refine lv_aload_n hx hb dX3_start_0 rfl (lv_at hl 0 rfl) ?_
  refine lv_aload_n hx hb dX3_start_1 rfl (lv_at hl 1 rfl) ?_
  refine ti_putT (ci := 3) (k := 0) (N := 17) (T := TX3) C hw iw_3 tyX3 tyX3_ok nmX3 rfl hq (by decide) (by decide) fl_X3_45 rfl rfl rfl rfl (fn_3 A _) fs_3_0 dX3_start_2 (fun H locs hw => ?_)
  obtain ⟨M_1, hM_1⟩ : ∃ z : ti_M, z = uT M q 0 (some t) := ⟨_, rfl⟩
  have hw := hw.to hM_1.symm
  have iM_1 : cI Tc M_1 := cI_uT hI hM_1
  have hs_2 : qC q rg M_1 := qC_T hs hM_1
  refine lv_aload_n hx hb dX3_start_5 rfl (lv_at hl 0 rfl) ?_
  refine lv_iconst (v := 0) hx hb dX3_start_6 (by decide) ?_
  refine ti_putI (ci := 3) (k := 1) (N := 17) (T := TX3) C hw iw_3 tyX3 tyX3_ok nmX3 rfl hq (by decide) (by decide) fl_X3_49 rfl rfl rfl rfl (fn_3 A _) fs_3_1 dX3_start_7 (fun H locs hw => ?_)
  obtain ⟨M_3, hM_3⟩ : ∃ z : ti_M, z = uI M_1 q 1 0 := ⟨_, rfl⟩
  have hw := hw.to hM_3.symm
  have iM_3 : cI Tc M_3 := cI_uI iM_1 hM_3 hq.1 trivial
  have hs_4 : qC q (pp_su rg 1 0) M_3 := qC_I hs_2 (by decide : (0 : Int32).toInt = 0) hM_3 (by decide)
  obtain ⟨g_5, eg_5⟩ : ∃ z : Nat → Int, z = pp_su rg 1 0 := ⟨_, rfl⟩
  rw [← eg_5] at hs_4
  have sg_5 : g_5 1 = 0 := by rw [eg_5, su_s]
  refine lv_aload_n hx hb dX3_start_10 rfl (lv_at hl 0 rfl) ?_
  refine lv_iconst (v := 0) hx hb dX3_start_11 (by decide) ?_
  refine ti_putI (ci := 3) (k := 2) (N := 17) (T := TX3) C hw iw_3 tyX3 tyX3_ok nmX3 rfl hq (by decide) (by decide) fl_X3_53 rfl rfl rfl rfl (fn_3 A _) fs_3_2 dX3_start_12 (fun H locs hw => ?_)
  obtain ⟨M_6, hM_6⟩ : ∃ z : ti_M, z = uI M_3 q 2 0 := ⟨_, rfl⟩
  have hw := hw.to hM_6.symm
  have iM_6 : cI Tc M_6 := cI_uI iM_3 hM_6 hq.1 (fun _ => ib_mk (lo := 0) (hi := 120) (by decide) (by decide))
  have hs_7 : qC q (pp_su g_5 2 0) M_6 := qC_I hs_4 (by decide : (0 : Int32).toInt = 0) hM_6 (by decide)
  obtain ⟨g_8, eg_8⟩ : ∃ z : Nat → Int, z = pp_su g_5 2 0 := ⟨_, rfl⟩
  rw [← eg_8] at hs_7
  have sg_8 : g_8 2 = 0 := by rw [eg_8, su_s]
  refine lv_aload_n hx hb dX3_start_15 rfl (lv_at hl 0 rfl) ?_
  refine lv_iconst (v := 0) hx hb dX3_start_16 (by decide) ?_
  refine ti_putI (ci := 3) (k := 3) (N := 17) (T := TX3) C hw iw_3 tyX3 tyX3_ok nmX3 rfl hq (by decide) (by decide) fl_X3_56 rfl rfl rfl rfl (fn_3 A _) fs_3_3 dX3_start_17 (fun H locs hw => ?_)
  obtain ⟨M_9, hM_9⟩ : ∃ z : ti_M, z = uI M_6 q 3 0 := ⟨_, rfl⟩
  have hw := hw.to hM_9.symm
  have iM_9 : cI Tc M_9 := cI_uI iM_6 hM_9 hq.1 (ib_mk (lo := 0) (hi := 8) (by decide) (by decide))
  have vM_9 : (tI M_9 q 3).toInt = 0 := by rw [tI_uE hM_9]; decide
  have hs_10 : qC q (pp_su g_8 3 0) M_9 := qC_I hs_7 (by decide : (0 : Int32).toInt = 0) hM_9 (by decide)
  obtain ⟨g_11, eg_11⟩ : ∃ z : Nat → Int, z = pp_su g_8 3 0 := ⟨_, rfl⟩
  rw [← eg_11] at hs_10
  have sg_11 : g_11 3 = 0 := by rw [eg_11, su_s]
  refine lv_aload_n hx hb dX3_start_20 rfl (lv_at hl 0 rfl) ?_
  refine lv_aload_n hx hb dX3_start_21 rfl (lv_at hl 1 rfl) ?_
  refine ti_get (ci := 8) (k := 6) (N := 12) (T := TX8) C hw iw_8 rfl (ob_t ht) (by decide) (by decide) fl_X3_59 rfl rfl dX3_start_22 ?_
  refine lv_topi (fun x_12 ex_12 => ?_)
  have L_13 : tx 6 = x_12.toInt := (((tC_eo ht hq.1 htx (eo.trans (eo_I hM_9) (eo.trans (eo_I hM_6) (eo.trans (eo_I hM_3) (eo_T hM_1))))).1 6 (by decide) (by decide)).trans (congrArg Int32.toInt (ex_12.symm))).trans rfl
  refine ti_putI (ci := 3) (k := 4) (N := 17) (T := TX3) C hw iw_3 tyX3 tyX3_ok nmX3 rfl hq (by decide) (by decide) fl_X3_64 rfl rfl rfl rfl (fn_3 A _) fs_3_4 dX3_start_25 (fun H locs hw => ?_)
  obtain ⟨M_14, hM_14⟩ : ∃ z : ti_M, z = uI M_9 q 4 x_12 := ⟨_, rfl⟩
  have hw := hw.to hM_14.symm
  have iM_14 : cI Tc M_14 := cI_uI iM_9 hM_14 hq.1 trivial
  have hs_15 : qC q (pp_su g_11 4 x_12.toInt) M_14 := qC_I hs_10 rfl hM_14 (by decide)
  obtain ⟨g_16, eg_16⟩ : ∃ z : Nat → Int, z = pp_su g_11 4 x_12.toInt := ⟨_, rfl⟩
  rw [← eg_16] at hs_15
  have sg_16 : g_16 4 = x_12.toInt := by rw [eg_16, su_s]
  refine lv_aload_n hx hb dX3_start_28 rfl (lv_at hl 0 rfl) ?_
  refine lv_aload_n hx hb dX3_start_29 rfl (lv_at hl 1 rfl) ?_
  refine ti_get (ci := 8) (k := 11) (N := 12) (T := TX8) C hw iw_8 rfl (ob_t ht) (by decide) (by decide) fl_X3_65 rfl rfl dX3_start_30 ?_
  refine lv_topi (fun x_17 ex_17 => ?_)
  have L_18 : tx 11 = x_17.toInt := (((tC_eo ht hq.1 htx (eo.trans (eo_I hM_14) (eo.trans (eo_I hM_9) (eo.trans (eo_I hM_6) (eo.trans (eo_I hM_3) (eo_T hM_1)))))).1 11 (by decide) (by decide)).trans (congrArg Int32.toInt (ex_17.symm))).trans rfl
  refine ti_putI (ci := 3) (k := 5) (N := 17) (T := TX3) C hw iw_3 tyX3 tyX3_ok nmX3 rfl hq (by decide) (by decide) fl_X3_68 rfl rfl rfl rfl (fn_3 A _) fs_3_5 dX3_start_33 (fun H locs hw => ?_)
  obtain ⟨M_19, hM_19⟩ : ∃ z : ti_M, z = uI M_14 q 5 x_17 := ⟨_, rfl⟩
  have hw := hw.to hM_19.symm
  have iM_19 : cI Tc M_19 := cI_uI iM_14 hM_19 hq.1 trivial
  have hs_20 : qC q (pp_su g_16 5 x_17.toInt) M_19 := qC_I hs_15 rfl hM_19 (by decide)
  obtain ⟨g_21, eg_21⟩ : ∃ z : Nat → Int, z = pp_su g_16 5 x_17.toInt := ⟨_, rfl⟩
  rw [← eg_21] at hs_20
  have sg_21 : g_21 5 = x_17.toInt := by rw [eg_21, su_s]
  refine lv_aload_n hx hb dX3_start_36 rfl (lv_at hl 1 rfl) ?_
  refine ti_get (ci := 8) (k := 1) (N := 12) (T := TX8) (v := .ref (A t 2)) C hw iw_8 rfl (ob_t ht) (by decide) (by decide) fl_X3_71 rfl rfl dX3_start_37 ?_
  refine lv_iconst (v := 0) hx hb dX3_start_40 (by decide) ?_
  refine lv_aload_n hx hb dX3_start_41 rfl (lv_at hl 0 rfl) ?_
  refine ti_get (ci := 3) (k := 7) (N := 17) (T := TX3) (v := .ref (A q 8)) C hw iw_3 rfl hq (by decide) (by decide) fl_X3_15 rfl rfl dX3_start_42 ?_
  refine lv_iconst (v := 0) hx hb dX3_start_45 (by decide) ?_
  refine lv_iconst (v := 3) hx hb dX3_start_46 (by decide) ?_
  refine ti_copy (c1 := 8) (k1 := 1) (n1 := 3) (c2 := 3) (k2 := 7) (n2 := 3) C hw ml_X3_72 sy_nat sy_sta sy_ini (ob_t ht) (by decide) (fun _ _ => rfl) hq (by decide) (fun _ _ => rfl) hl.1 (by decide) (by decide) (by decide) (by decide) (by decide) (by decide) (Nat.le_of_ble_eq_true rfl) dX3_start_47 (fun H locs hw => ?_)
  obtain ⟨M_22, hM_22⟩ : ∃ z : ti_M, z = uY M_19 q 7 (va_cpy (tY M_19 t 1) (tY M_19 q 7) (0 : Int32).toNatClampNeg (0 : Int32).toNatClampNeg (3 : Int32).toNatClampNeg) := ⟨_, rfl⟩
  have hw := hw.to hM_22.symm
  have iM_22 : cI Tc M_22 := cI_cp iM_19 hM_22 hq.1 (fun _ => trivial)
  have hs_23 : qC q (bq_cp tx g_21) M_22 := qC_cp hs_20 (tC_eo ht hq.1 htx (eo.trans (eo_I hM_19) (eo.trans (eo_I hM_14) (eo.trans (eo_I hM_9) (eo.trans (eo_I hM_6) (eo.trans (eo_I hM_3) (eo_T hM_1))))))) hM_22 rfl rfl
  obtain ⟨g_24, eg_24⟩ : ∃ z : Nat → Int, z = bq_cp tx g_21 := ⟨_, rfl⟩
  rw [← eg_24] at hs_23
  have E0 : g_24 = bq_s1 tx rg 0 := by rw [← s1_0, L_13, L_18, ← eg_5, ← eg_8, ← eg_11, ← eg_16, ← eg_21, ← eg_24]
  refine lv_iconst (v := 0) hx hb dX3_start_50 (by decide) ?_
  refine lv_istore_n (lv' := [(2, .int 0), (0, .ref (A q 0)), (1, .ref (A t 0))]) hx hb dX3_start_51 rfl hl (by decide) rfl (fun ls hl => ?_)
  have hl_52_34 : ∀ (n_35 : Nat) (x_25 : Int32) (M_28 : ti_M) (g_31 : Nat → Int) (H : Heap) (locs : List Loc) (ls : Array Slot), (8 - x_25.toInt : Int).toNat < n_35 → (0 ≤ x_25.toInt) → (x_25.toInt ≤ 8) → (cI Tc M_28) → (M_28.2.2.2 = (uT M q 0 (some t)).2.2.2) → (eo q M_28 M) → (qC q g_31 M_28) → (g_31 = bq_s1 tx rg (x_25.toInt).toNat) → (x_25.toInt ≤ tx 4) → ti_H ti_LT D A cy H0 M_28 H locs → lv_has ls 3 [(2, .int x_25), (0, .ref (A q 0)), (1, .ref (A t 0))] → W p l e (ti_rm 1) s m args below meth c H locs 0 0 Q (F0 m 52 ls []) := by
    intro n_35
    induction n_35 with
    | zero => intro x_25 M_28 g_31 H locs ls hf_35; exact absurd hf_35 (Nat.not_lt_zero _)
    | succ n_35 ih_35 =>
      intro x_25 M_28 g_31 H locs ls hf_35 b_26 b_27 iM_28 f_29 f_30 hs_32 j_33 j_34 hw hl
      refine lv_iload_n hx hb dX3_start_52 rfl (lv_at hl 0 rfl) ?_
      refine lv_aload_n hx hb dX3_start_53 rfl (lv_at hl 2 rfl) ?_
      refine ti_get (ci := 8) (k := 4) (N := 12) (T := TX8) C hw iw_8 rfl (ob_t ht) (by decide) (by decide) fl_X3_78 rfl rfl dX3_start_54 ?_
      refine lv_topi (fun x_36 ex_36 => ?_)
      have bx_36 : 0 ≤ x_36.toInt ∧ x_36.toInt ≤ 8 := cI_rd iM_28 (ob_t ht).1 ex_36
      have ux_36 : (tI M_28 t 4).toInt = x_36.toInt := by rw [ex_36]
      have L_37 : tx 4 = x_36.toInt := (((tC_eo ht hq.1 htx f_30).1 4 (by decide) (by decide)).trans (congrArg Int32.toInt (ex_36.symm))).trans rfl
      refine sb_icmp_ge (tgt := 111) hx hb rfl rfl dX3_start_57 (by decide) (fun c_57_37 => ?_) (fun c_57_37 => ?_)
      · refine lv_aload_n hx hb dX3_start_111 rfl (lv_at hl 1 rfl) ?_
        refine ti_get (ci := 3) (k := 8) (N := 17) (T := TX3) (v := .ref (A q 9)) C hw iw_3 rfl hq (by decide) (by decide) fl_X3_18 rfl rfl dX3_start_112 ?_
        refine lv_iconst (v := 0) hx hb dX3_start_115 (by decide) ?_
        refine ti_callSv (av := [.ref (A q 9), .int 0]) C hw (k_fill l D A cy ti_LT_nd hJ M_28 q 8 3 8 0 hq (by decide) (fun _ _ => rfl) (by decide)) ⟨ml_X3_93, ys_J7_fill_53178, yi_J7_fill_53178, yc_J7_fill_53178⟩ yd_J7_fill_53178 rfl hl.1 (Nat.le_of_ble_eq_true rfl) ⟨by decide, by decide⟩ ⟨Nat.zero_le _, Nat.zero_le _⟩ dX3_start_116 (fun M_56 H locs hp hw => ?_)
        obtain ⟨g_57, hM_56, hgM_56⟩ := hp
        have iM_56 : cI Tc M_56 := cI_uY iM_28 hM_56 hq.1 (fun _ => trivial)
        have hs_58 : qC q (bq_fl g_31 128) M_56 := qC_f8 (k := 8) hs_32 hM_56 (by decide) (fun j hj => by rw [hgM_56 j hj]; decide)
        obtain ⟨g_59, eg_59⟩ : ∃ z : Nat → Int, z = bq_fl g_31 128 := ⟨_, rfl⟩
        rw [← eg_59] at hs_58
        refine lv_aload_n hx hb dX3_start_119 rfl (lv_at hl 1 rfl) ?_
        refine ti_get (ci := 3) (k := 11) (N := 17) (T := TX3) (v := .ref (A q 12)) C hw iw_3 rfl hq (by decide) (by decide) fl_X3_27 rfl rfl dX3_start_120 ?_
        refine lv_iconst (v := 0) hx hb dX3_start_123 (by decide) ?_
        refine ti_callSv (av := [.ref (A q 12), .int 0]) C hw (k_fill l D A cy ti_LT_nd hJ M_56 q 11 3 8 0 hq (by decide) (fun _ _ => rfl) (by decide)) ⟨ml_X3_93, ys_J7_fill_53178, yi_J7_fill_53178, yc_J7_fill_53178⟩ yd_J7_fill_53178 rfl hl.1 (Nat.le_of_ble_eq_true rfl) ⟨by decide, by decide⟩ ⟨Nat.zero_le _, Nat.zero_le _⟩ dX3_start_124 (fun M_60 H locs hp hw => ?_)
        obtain ⟨g_61, hM_60, hgM_60⟩ := hp
        have iM_60 : cI Tc M_60 := cI_uY iM_56 hM_60 hq.1 (fun _ => trivial)
        have hs_62 : qC q (bq_fl g_59 176) M_60 := qC_f8 (k := 11) hs_58 hM_60 (by decide) (fun j hj => by rw [hgM_60 j hj]; decide)
        obtain ⟨g_63, eg_63⟩ : ∃ z : Nat → Int, z = bq_fl g_59 176 := ⟨_, rfl⟩
        rw [← eg_63] at hs_62
        refine lv_aload_n hx hb dX3_start_127 rfl (lv_at hl 1 rfl) ?_
        refine ti_get (ci := 3) (k := 15) (N := 17) (T := TX3) (v := .ref (A q 16)) C hw iw_3 rfl hq (by decide) (by decide) fl_X3_39 rfl rfl dX3_start_128 ?_
        refine lv_iconst (v := 0) hx hb dX3_start_131 (by decide) ?_
        refine ti_callSv (av := [.ref (A q 16), .int 0]) C hw (k_fill l D A cy ti_LT_nd hJ M_60 q 15 3 8 0 hq (by decide) (fun _ _ => rfl) (by decide)) ⟨ml_X3_93, ys_J7_fill_53178, yi_J7_fill_53178, yc_J7_fill_53178⟩ yd_J7_fill_53178 rfl hl.1 (Nat.le_of_ble_eq_true rfl) ⟨by decide, by decide⟩ ⟨Nat.zero_le _, Nat.zero_le _⟩ dX3_start_132 (fun M_64 H locs hp hw => ?_)
        obtain ⟨g_65, hM_64, hgM_64⟩ := hp
        have iM_64 : cI Tc M_64 := cI_uY iM_60 hM_64 hq.1 (fun _ => trivial)
        have hs_66 : qC q (bq_fl g_63 240) M_64 := qC_f8 (k := 15) hs_62 hM_64 (by decide) (fun j hj => by rw [hgM_64 j hj]; decide)
        obtain ⟨g_67, eg_67⟩ : ∃ z : Nat → Int, z = bq_fl g_63 240 := ⟨_, rfl⟩
        rw [← eg_67] at hs_66
        refine lv_aload_n hx hb dX3_start_135 rfl (lv_at hl 1 rfl) ?_
        refine ti_get (ci := 3) (k := 16) (N := 17) (T := TX3) (v := .ref (A q 17)) C hw iw_3 rfl hq (by decide) (by decide) fl_X3_42 rfl rfl dX3_start_136 ?_
        refine lv_iconst (v := 0) hx hb dX3_start_139 (by decide) ?_
        refine ti_callSv (av := [.ref (A q 17), .int 0]) C hw (k_fill l D A cy ti_LT_nd hJ M_64 q 16 3 8 0 hq (by decide) (fun _ _ => rfl) (by decide)) ⟨ml_X3_93, ys_J7_fill_53178, yi_J7_fill_53178, yc_J7_fill_53178⟩ yd_J7_fill_53178 rfl hl.1 (Nat.le_of_ble_eq_true rfl) ⟨by decide, by decide⟩ ⟨Nat.zero_le _, Nat.zero_le _⟩ dX3_start_140 (fun M_68 H locs hp hw => ?_)
        obtain ⟨g_69, hM_68, hgM_68⟩ := hp
        have iM_68 : cI Tc M_68 := cI_uY iM_64 hM_68 hq.1 (fun _ => trivial)
        have hs_70 : qC q (bq_fl g_67 256) M_68 := qC_f8 (k := 16) hs_66 hM_68 (by decide) (fun j hj => by rw [hgM_68 j hj]; decide)
        obtain ⟨g_71, eg_71⟩ : ∃ z : Nat → Int, z = bq_fl g_67 256 := ⟨_, rfl⟩
        rw [← eg_71] at hs_70
        have E_72 : bq_s0 tx rg = g_71 := by unfold bq_s0; rw [show (tx 4).toNat = x_25.toInt.toNat by omega, ← j_33, ← eg_59, ← eg_63, ← eg_67, ← eg_71]
        exact hQ _ _ _ _ _ hw (⟨iM_68, ((rf_Y hM_68).trans ((rf_Y hM_64).trans ((rf_Y hM_60).trans ((rf_Y hM_56).trans f_29)))), (eo.trans (eo_Y hM_68) (eo.trans (eo_Y hM_64) (eo.trans (eo_Y hM_60) (eo.trans (eo_Y hM_56) f_30)))), (by rw [E_72]; exact hs_70)⟩) dX3_start_143
      · refine lv_aload_n hx hb dX3_start_60 rfl (lv_at hl 1 rfl) ?_
        refine ti_get (ci := 3) (k := 9) (N := 17) (T := TX3) (v := .ref (A q 10)) C hw iw_3 rfl hq (by decide) (by decide) fl_X3_21 rfl rfl dX3_start_61 ?_
        refine lv_iload_n hx hb dX3_start_64 rfl (lv_at hl 0 rfl) ?_
        refine lv_aload_n hx hb dX3_start_65 rfl (lv_at hl 2 rfl) ?_
        refine ti_get (ci := 8) (k := 0) (N := 12) (T := TX8) (v := .ref (A t 1)) C hw iw_8 rfl (ob_t ht) (by decide) (by decide) fl_X3_81 rfl rfl dX3_start_66 ?_
        refine lv_iload_n hx hb dX3_start_69 rfl (lv_at hl 0 rfl) ?_
        refine ti_aald (ci := 8) (k := 0) (n := 8) (t0 := 5) (Cn := RX2) (gg := (ti_men t)) (j := x_25.toNatClampNeg) C hw (ob_t ht) (by decide) (fun _ _ => rfl) rfl (vp_in_iff.mpr (by omega)) rfl dX3_start_70 ?_
        have ob_39 : ti_ob ti_LT (ti_men t x_25.toNatClampNeg) 2 := ob_m ht (i_nt rfl (by omega) (by omega))
        refine ti_get (ci := 2) (k := 7) (N := 10) (T := TX2) C hw iw_2 rfl ob_39 (by decide) (by decide) fl_X3_85 rfl rfl dX3_start_71 ?_
        refine lv_topi (fun x_40 ex_40 => ?_)
        have L_41 : tx (100 + 16 * x_25.toInt.toNat + 7) = x_40.toInt := (((show tx (100 + 16 * x_25.toInt.toNat + 7) = _ from by rw [← (show x_25.toNatClampNeg = x_25.toInt.toNat from congrArg Int.toNat rfl)]; exact (tC_eo ht hq.1 htx f_30).2.2.1 x_25.toNatClampNeg 7 (i_nt (n := 8) rfl (by omega) (by omega)) (by decide) (by decide))).trans (congrArg Int32.toInt (ex_40.symm))).trans rfl
        refine ti_iast (ci := 3) (k := 9) (n := 8) C hw hq (by decide) (fun _ _ => rfl) (vp_in_iff.mpr (by omega)) dX3_start_74 (fun H locs hw => ?_)
        obtain ⟨M_42, hM_42⟩ : ∃ z : ti_M, z = uY M_28 q 9 (upd (tY M_28 q 9) (x_25 : Int32).toNatClampNeg x_40) := ⟨_, rfl⟩
        have hw := hw.to hM_42.symm
        have iM_42 : cI Tc M_42 := cI_up iM_28 hM_42 hq.1 trivial
        have hs_43 : qC q (pp_su g_31 (144 + x_25.toInt.toNat) x_40.toInt) M_42 := qC_Y (k := 9) (j := x_25.toInt.toNat) (i := x_25) hs_32 (by omega) rfl hM_42 (by decide) (by omega)
        obtain ⟨g_44, eg_44⟩ : ∃ z : Nat → Int, z = pp_su g_31 (144 + x_25.toInt.toNat) x_40.toInt := ⟨_, rfl⟩
        rw [← eg_44] at hs_43
        refine lv_aload_n hx hb dX3_start_75 rfl (lv_at hl 1 rfl) ?_
        refine ti_get (ci := 3) (k := 10) (N := 17) (T := TX3) (v := .ref (A q 11)) C hw iw_3 rfl hq (by decide) (by decide) fl_X3_24 rfl rfl dX3_start_76 ?_
        refine lv_iload_n hx hb dX3_start_79 rfl (lv_at hl 0 rfl) ?_
        refine lv_aload_n hx hb dX3_start_80 rfl (lv_at hl 2 rfl) ?_
        refine ti_get (ci := 8) (k := 0) (N := 12) (T := TX8) (v := .ref (A t 1)) C hw iw_8 rfl (ob_t ht) (by decide) (by decide) fl_X3_81 rfl rfl dX3_start_81 ?_
        refine lv_iload_n hx hb dX3_start_84 rfl (lv_at hl 0 rfl) ?_
        refine ti_aald (ci := 8) (k := 0) (n := 8) (t0 := 5) (Cn := RX2) (gg := (ti_men t)) (j := x_25.toNatClampNeg) C hw (ob_t ht) (by decide) (fun _ _ => rfl) rfl (vp_in_iff.mpr (by omega)) rfl dX3_start_85 ?_
        refine ti_get (ci := 2) (k := 3) (N := 10) (T := TX2) C hw iw_2 rfl ob_39 (by decide) (by decide) fl_X3_89 rfl rfl dX3_start_86 ?_
        refine lv_topi (fun x_45 ex_45 => ?_)
        have L_46 : tx (100 + 16 * x_25.toInt.toNat + 3) = x_45.toInt := (((show tx (100 + 16 * x_25.toInt.toNat + 3) = _ from by rw [← (show x_25.toNatClampNeg = x_25.toInt.toNat from congrArg Int.toNat rfl)]; exact (tC_eo ht hq.1 htx (eo.trans (eo_Y hM_42) f_30)).2.2.1 x_25.toNatClampNeg 3 (i_nt (n := 8) rfl (by omega) (by omega)) (by decide) (by decide))).trans (congrArg Int32.toInt (ex_45.symm))).trans rfl
        refine ti_iast (ci := 3) (k := 10) (n := 8) C hw hq (by decide) (fun _ _ => rfl) (vp_in_iff.mpr (by omega)) dX3_start_89 (fun H locs hw => ?_)
        obtain ⟨M_47, hM_47⟩ : ∃ z : ti_M, z = uY M_42 q 10 (upd (tY M_42 q 10) (x_25 : Int32).toNatClampNeg x_45) := ⟨_, rfl⟩
        have hw := hw.to hM_47.symm
        have iM_47 : cI Tc M_47 := cI_up iM_42 hM_47 hq.1 trivial
        have hs_48 : qC q (pp_su g_44 (160 + x_25.toInt.toNat) x_45.toInt) M_47 := qC_Y (k := 10) (j := x_25.toInt.toNat) (i := x_25) hs_43 (by omega) rfl hM_47 (by decide) (by omega)
        obtain ⟨g_49, eg_49⟩ : ∃ z : Nat → Int, z = pp_su g_44 (160 + x_25.toInt.toNat) x_45.toInt := ⟨_, rfl⟩
        rw [← eg_49] at hs_48
        refine lv_aload_n hx hb dX3_start_90 rfl (lv_at hl 1 rfl) ?_
        refine ti_get (ci := 3) (k := 12) (N := 17) (T := TX3) (v := .ref (A q 13)) C hw iw_3 rfl hq (by decide) (by decide) fl_X3_30 rfl rfl dX3_start_91 ?_
        refine lv_iload_n hx hb dX3_start_94 rfl (lv_at hl 0 rfl) ?_
        refine lv_aload_n hx hb dX3_start_95 rfl (lv_at hl 2 rfl) ?_
        refine ti_get (ci := 8) (k := 0) (N := 12) (T := TX8) (v := .ref (A t 1)) C hw iw_8 rfl (ob_t ht) (by decide) (by decide) fl_X3_81 rfl rfl dX3_start_96 ?_
        refine lv_iload_n hx hb dX3_start_99 rfl (lv_at hl 0 rfl) ?_
        refine ti_aald (ci := 8) (k := 0) (n := 8) (t0 := 5) (Cn := RX2) (gg := (ti_men t)) (j := x_25.toNatClampNeg) C hw (ob_t ht) (by decide) (fun _ _ => rfl) rfl (vp_in_iff.mpr (by omega)) rfl dX3_start_100 ?_
        refine ti_get (ci := 2) (k := 5) (N := 10) (T := TX2) C hw iw_2 rfl ob_39 (by decide) (by decide) fl_X3_91 rfl rfl dX3_start_101 ?_
        refine lv_topi (fun x_50 ex_50 => ?_)
        have L_51 : tx (100 + 16 * x_25.toInt.toNat + 5) = x_50.toInt := (((show tx (100 + 16 * x_25.toInt.toNat + 5) = _ from by rw [← (show x_25.toNatClampNeg = x_25.toInt.toNat from congrArg Int.toNat rfl)]; exact (tC_eo ht hq.1 htx (eo.trans (eo_Y hM_47) (eo.trans (eo_Y hM_42) f_30))).2.2.1 x_25.toNatClampNeg 5 (i_nt (n := 8) rfl (by omega) (by omega)) (by decide) (by decide))).trans (congrArg Int32.toInt (ex_50.symm))).trans rfl
        refine ti_iast (ci := 3) (k := 12) (n := 8) C hw hq (by decide) (fun _ _ => rfl) (vp_in_iff.mpr (by omega)) dX3_start_104 (fun H locs hw => ?_)
        obtain ⟨M_52, hM_52⟩ : ∃ z : ti_M, z = uY M_47 q 12 (upd (tY M_47 q 12) (x_25 : Int32).toNatClampNeg x_50) := ⟨_, rfl⟩
        have hw := hw.to hM_52.symm
        have iM_52 : cI Tc M_52 := cI_up iM_47 hM_52 hq.1 trivial
        have hs_53 : qC q (pp_su g_49 (192 + x_25.toInt.toNat) x_50.toInt) M_52 := qC_Y (k := 12) (j := x_25.toInt.toNat) (i := x_25) hs_48 (by omega) rfl hM_52 (by decide) (by omega)
        obtain ⟨g_54, eg_54⟩ : ∃ z : Nat → Int, z = pp_su g_49 (192 + x_25.toInt.toNat) x_50.toInt := ⟨_, rfl⟩
        rw [← eg_54] at hs_53
        obtain ⟨x_55, ex_55⟩ : ∃ z : Int32, z = x_25 + 1 := ⟨_, rfl⟩
        have tx_55 : x_55.toInt = x_25.toInt + 1 := i_add ex_55 rfl (by decide) (by omega) (by omega)
        refine lv_iinc (v := x_55) (lv' := [(2, .int x_55), (0, .ref (A q 0)), (1, .ref (A t 0))]) hx hb dX3_start_105 hl (k := 0) rfl (by rw [ex_55]; rfl) (by decide) rfl (fun ls hl => ?_)
        refine lv_goto (tgt := 52) hx hb dX3_start_108 (by decide) ?_
        exact ih_35 x_55 M_52 g_54 _ _ _ (by omega) (by first | omega | decide) (by first | omega | decide) iM_52 ((rf_Y hM_52).trans ((rf_Y hM_47).trans ((rf_Y hM_42).trans f_29))) (eo.trans (eo_Y hM_52) (eo.trans (eo_Y hM_47) (eo.trans (eo_Y hM_42) f_30))) hs_53 (by rw [show x_55.toInt.toNat = x_25.toInt.toNat + 1 by omega, ← s1_go (tx := tx) (J := rg) (n := x_25.toInt.toNat) (by omega), ← j_33, L_41, L_46, L_51, ← eg_44, ← eg_49, ← eg_54]) (by first | omega | decide) hw (lv_sub hl [0, 1, 2] rfl)
  exact hl_52_34 ((8 - 0 : Int).toNat + 1) 0 M_22 g_24 _ _ _ (Nat.lt_succ_self _) (by have lt0 : (0 : Int32).toInt = 0 := (by decide); first | omega | decide) (by have lt0 : (0 : Int32).toInt = 0 := (by decide); first | omega | decide) iM_22 ((rf_Y hM_22).trans ((rf_I hM_19).trans ((rf_I hM_14).trans ((rf_I hM_9).trans ((rf_I hM_6).trans ((rf_I hM_3).trans (rf_Tc hM_1 rfl))))))) (eo.trans (eo_Y hM_22) (eo.trans (eo_I hM_19) (eo.trans (eo_I hM_14) (eo.trans (eo_I hM_9) (eo.trans (eo_I hM_6) (eo.trans (eo_I hM_3) (eo_T hM_1))))))) hs_23 E0 (by have lt0 : (0 : Int32).toInt = 0 := (by decide); first | omega | decide) hw (lv_sub hl [0, 1, 2] rfl)
end

variable {Tc : gC} {Tm : gM}
set_option maxHeartbeats 4000000 in
set_option maxRecDepth 100000 in
theorem z_X1_work (l : Launch) (D : va_G) (A : Nat → Nat → Nat) (cy : Nat → ClassId) (hJ : ti_inj ti_LT A) (M : ti_M) (hI : cI Tc M) (sg : Int32) (a b2 : Int64) (ha1 : -1000000000000 ≤ a.toInt) (ha2 : a.toInt ≤ 1000000000000) (hb1 : -1000000000000 ≤ b2.toInt) (hb2 : b2.toInt ≤ 1000000000000) : ti_Kl l yX1_work cX1_work 7 (some .long) 0 ti_LT D A cy M [.int sg, .long a, .long b2] (fun r M2 => M2 = M ∧ r.toInt = bl_w sg.toInt a.toInt b2.toInt) := by
  refine ti_eL yp_X1_work hJ ti_LT_nd (Nat.le_of_ble_eq_true rfl) ?_
  intro p e s m args below meth c Q H0 C hQ hw ls hl
  have hx := C.1
  have hb := C.2.1
  have hl : lv_has ls 7 [(0, .int sg), (1, .long a), (3, .long b2)] := hl
  refine lv_iload_n hx hb dX1_work_0 rfl (lv_at hl 0 rfl) ?_
  by_cases s_1_22 : sg = 22
  · have qs_1_22 : sg.toInt = 22 := by rw [s_1_22]; decide
    refine lv_tableIn (tgt := 247) (off := 246) hx hb dX1_work_1 (by rw [s_1_22]; decide) (by rw [s_1_22]; decide) (by rw [s_1_22]; decide) (by decide) ?_
    refine lv_lload_n hx hb dX1_work_247 rfl (lv_at hl 1 rfl) ?_
    refine lv_lconst (v := 0) hx hb dX1_work_248 (by decide) ?_
    have z_68 : (0 : Int64).toInt = 0 := by decide
    refine W.lcmp hx hb dX1_work_249 ?_
    refine lv_topi (fun x_69 ex_69 => ?_)
    have cx_69 := lg_c ex_69
    refine sb_if_eq (tgt := 263) hx hb rfl dX1_work_250 (by decide) (fun c_250_69 => ?_) (fun c_250_69 => ?_)
    · refine lv_lconst (v := 0) hx hb dX1_work_263 (by decide) ?_
      have z_75 : (0 : Int64).toInt = 0 := by decide
      exact hQ _ _ _ _ _ _ hw (⟨rfl, (by have lv : (0 : Int64).toInt = 0 := (by decide); unfold bl_w; (repeat (first | rw [if_pos (by omega)] | rw [if_neg (by omega)])); (try unfold bl_if); (repeat (first | rw [if_pos (by omega)] | rw [if_neg (by omega)])); first | omega | assumption)⟩) dX1_work_264
    · refine lv_lload_n hx hb dX1_work_253 rfl (lv_at hl 2 rfl) ?_
      refine lv_lconst (v := 0) hx hb dX1_work_254 (by decide) ?_
      have z_71 : (0 : Int64).toInt = 0 := by decide
      refine W.lcmp hx hb dX1_work_255 ?_
      refine lv_topi (fun x_72 ex_72 => ?_)
      have cx_72 := lg_c ex_72
      refine sb_if_eq (tgt := 263) hx hb rfl dX1_work_256 (by decide) (fun c_256_72 => ?_) (fun c_256_72 => ?_)
      · refine lv_lconst (v := 0) hx hb dX1_work_263 (by decide) ?_
        have z_76 : (0 : Int64).toInt = 0 := by decide
        exact hQ _ _ _ _ _ _ hw (⟨rfl, (by have lv : (0 : Int64).toInt = 0 := (by decide); unfold bl_w; (repeat (first | rw [if_pos (by omega)] | rw [if_neg (by omega)])); (try unfold bl_if); (repeat (first | rw [if_pos (by omega)] | rw [if_neg (by omega)])); first | omega | assumption)⟩) dX1_work_264
      · refine lv_lconst (v := 1) hx hb dX1_work_259 (by decide) ?_
        have z_74 : (1 : Int64).toInt = 1 := by decide
        refine lv_goto (tgt := 264) hx hb dX1_work_260 (by decide) ?_
        exact hQ _ _ _ _ _ _ hw (⟨rfl, (by have lv : (1 : Int64).toInt = 1 := (by decide); unfold bl_w; (repeat (first | rw [if_pos (by omega)] | rw [if_neg (by omega)])); (try unfold bl_if); (repeat (first | rw [if_pos (by omega)] | rw [if_neg (by omega)])); first | omega | assumption)⟩) dX1_work_264
  · have qs_1_22 : sg.toInt ≠ 22 := pt_ne s_1_22 (by decide)
    by_cases s_1_23 : sg = 23
    · have qs_1_23 : sg.toInt = 23 := by rw [s_1_23]; decide
      refine lv_tableIn (tgt := 265) (off := 264) hx hb dX1_work_1 (by rw [s_1_23]; decide) (by rw [s_1_23]; decide) (by rw [s_1_23]; decide) (by decide) ?_
      refine lv_lload_n hx hb dX1_work_265 rfl (lv_at hl 1 rfl) ?_
      refine lv_lconst (v := 0) hx hb dX1_work_266 (by decide) ?_
      have z_77 : (0 : Int64).toInt = 0 := by decide
      refine W.lcmp hx hb dX1_work_267 ?_
      refine lv_topi (fun x_78 ex_78 => ?_)
      have cx_78 := lg_c ex_78
      refine sb_if_ne (tgt := 277) hx hb rfl dX1_work_268 (by decide) (fun c_268_78 => ?_) (fun c_268_78 => ?_)
      · refine lv_lconst (v := 1) hx hb dX1_work_277 (by decide) ?_
        have z_83 : (1 : Int64).toInt = 1 := by decide
        refine lv_goto (tgt := 282) hx hb dX1_work_278 (by decide) ?_
        exact hQ _ _ _ _ _ _ hw (⟨rfl, (by have lv : (1 : Int64).toInt = 1 := (by decide); unfold bl_w; (repeat (first | rw [if_pos (by omega)] | rw [if_neg (by omega)])); (try unfold bl_if); (repeat (first | rw [if_pos (by omega)] | rw [if_neg (by omega)])); first | omega | assumption)⟩) dX1_work_282
      · refine lv_lload_n hx hb dX1_work_271 rfl (lv_at hl 2 rfl) ?_
        refine lv_lconst (v := 0) hx hb dX1_work_272 (by decide) ?_
        have z_80 : (0 : Int64).toInt = 0 := by decide
        refine W.lcmp hx hb dX1_work_273 ?_
        refine lv_topi (fun x_81 ex_81 => ?_)
        have cx_81 := lg_c ex_81
        refine sb_if_eq (tgt := 281) hx hb rfl dX1_work_274 (by decide) (fun c_274_81 => ?_) (fun c_274_81 => ?_)
        · refine lv_lconst (v := 0) hx hb dX1_work_281 (by decide) ?_
          have z_85 : (0 : Int64).toInt = 0 := by decide
          exact hQ _ _ _ _ _ _ hw (⟨rfl, (by have lv : (0 : Int64).toInt = 0 := (by decide); unfold bl_w; (repeat (first | rw [if_pos (by omega)] | rw [if_neg (by omega)])); (try unfold bl_if); (repeat (first | rw [if_pos (by omega)] | rw [if_neg (by omega)])); first | omega | assumption)⟩) dX1_work_282
        · refine lv_lconst (v := 1) hx hb dX1_work_277 (by decide) ?_
          have z_84 : (1 : Int64).toInt = 1 := by decide
          refine lv_goto (tgt := 282) hx hb dX1_work_278 (by decide) ?_
          exact hQ _ _ _ _ _ _ hw (⟨rfl, (by have lv : (1 : Int64).toInt = 1 := (by decide); unfold bl_w; (repeat (first | rw [if_pos (by omega)] | rw [if_neg (by omega)])); (try unfold bl_if); (repeat (first | rw [if_pos (by omega)] | rw [if_neg (by omega)])); first | omega | assumption)⟩) dX1_work_282
    · have qs_1_23 : sg.toInt ≠ 23 := pt_ne s_1_23 (by decide)
      by_cases s_1_24 : sg = 24
      · have qs_1_24 : sg.toInt = 24 := by rw [s_1_24]; decide
        refine lv_tableIn (tgt := 283) (off := 282) hx hb dX1_work_1 (by rw [s_1_24]; decide) (by rw [s_1_24]; decide) (by rw [s_1_24]; decide) (by decide) ?_
        refine lv_ldc2 (v := (-9223372036854775808)) hx hb C.2.2.2.1 (C.2.2.1 _ cn_X1_34) dX1_work_283 ?_
        have z_86 : ((-9223372036854775808) : Int64).toInt = -9223372036854775808 := by decide
        exact hQ _ _ _ _ _ _ hw (⟨rfl, (by have lv : ((-9223372036854775808) : Int64).toInt = -9223372036854775808 := (by decide); unfold bl_w; (repeat (first | rw [if_pos (by omega)] | rw [if_neg (by omega)])); (try unfold bl_if); (repeat (first | rw [if_pos (by omega)] | rw [if_neg (by omega)])); first | omega | assumption)⟩) dX1_work_286
      · have qs_1_24 : sg.toInt ≠ 24 := pt_ne s_1_24 (by decide)
        by_cases s_1_25 : sg = 25
        · have qs_1_25 : sg.toInt = 25 := by rw [s_1_25]; decide
          refine lv_tableIn (tgt := 283) (off := 282) hx hb dX1_work_1 (by rw [s_1_25]; decide) (by rw [s_1_25]; decide) (by rw [s_1_25]; decide) (by decide) ?_
          refine lv_ldc2 (v := (-9223372036854775808)) hx hb C.2.2.2.1 (C.2.2.1 _ cn_X1_34) dX1_work_283 ?_
          have z_87 : ((-9223372036854775808) : Int64).toInt = -9223372036854775808 := by decide
          exact hQ _ _ _ _ _ _ hw (⟨rfl, (by have lv : ((-9223372036854775808) : Int64).toInt = -9223372036854775808 := (by decide); unfold bl_w; (repeat (first | rw [if_pos (by omega)] | rw [if_neg (by omega)])); (try unfold bl_if); (repeat (first | rw [if_pos (by omega)] | rw [if_neg (by omega)])); first | omega | assumption)⟩) dX1_work_286
        · have qs_1_25 : sg.toInt ≠ 25 := pt_ne s_1_25 (by decide)
          by_cases s_1_26 : sg = 26
          · have qs_1_26 : sg.toInt = 26 := by rw [s_1_26]; decide
            refine lv_tableIn (tgt := 283) (off := 282) hx hb dX1_work_1 (by rw [s_1_26]; decide) (by rw [s_1_26]; decide) (by rw [s_1_26]; decide) (by decide) ?_
            refine lv_ldc2 (v := (-9223372036854775808)) hx hb C.2.2.2.1 (C.2.2.1 _ cn_X1_34) dX1_work_283 ?_
            have z_88 : ((-9223372036854775808) : Int64).toInt = -9223372036854775808 := by decide
            exact hQ _ _ _ _ _ _ hw (⟨rfl, (by have lv : ((-9223372036854775808) : Int64).toInt = -9223372036854775808 := (by decide); unfold bl_w; (repeat (first | rw [if_pos (by omega)] | rw [if_neg (by omega)])); (try unfold bl_if); (repeat (first | rw [if_pos (by omega)] | rw [if_neg (by omega)])); first | omega | assumption)⟩) dX1_work_286
          · have qs_1_26 : sg.toInt ≠ 26 := pt_ne s_1_26 (by decide)
            by_cases s_1_27 : sg = 27
            · have qs_1_27 : sg.toInt = 27 := by rw [s_1_27]; decide
              refine lv_tableIn (tgt := 283) (off := 282) hx hb dX1_work_1 (by rw [s_1_27]; decide) (by rw [s_1_27]; decide) (by rw [s_1_27]; decide) (by decide) ?_
              refine lv_ldc2 (v := (-9223372036854775808)) hx hb C.2.2.2.1 (C.2.2.1 _ cn_X1_34) dX1_work_283 ?_
              have z_89 : ((-9223372036854775808) : Int64).toInt = -9223372036854775808 := by decide
              exact hQ _ _ _ _ _ _ hw (⟨rfl, (by have lv : ((-9223372036854775808) : Int64).toInt = -9223372036854775808 := (by decide); unfold bl_w; (repeat (first | rw [if_pos (by omega)] | rw [if_neg (by omega)])); (try unfold bl_if); (repeat (first | rw [if_pos (by omega)] | rw [if_neg (by omega)])); first | omega | assumption)⟩) dX1_work_286
            · have qs_1_27 : sg.toInt ≠ 27 := pt_ne s_1_27 (by decide)
              by_cases s_1_28 : sg = 28
              · have qs_1_28 : sg.toInt = 28 := by rw [s_1_28]; decide
                refine lv_tableIn (tgt := 283) (off := 282) hx hb dX1_work_1 (by rw [s_1_28]; decide) (by rw [s_1_28]; decide) (by rw [s_1_28]; decide) (by decide) ?_
                refine lv_ldc2 (v := (-9223372036854775808)) hx hb C.2.2.2.1 (C.2.2.1 _ cn_X1_34) dX1_work_283 ?_
                have z_90 : ((-9223372036854775808) : Int64).toInt = -9223372036854775808 := by decide
                exact hQ _ _ _ _ _ _ hw (⟨rfl, (by have lv : ((-9223372036854775808) : Int64).toInt = -9223372036854775808 := (by decide); unfold bl_w; (repeat (first | rw [if_pos (by omega)] | rw [if_neg (by omega)])); (try unfold bl_if); (repeat (first | rw [if_pos (by omega)] | rw [if_neg (by omega)])); first | omega | assumption)⟩) dX1_work_286
              · have qs_1_28 : sg.toInt ≠ 28 := pt_ne s_1_28 (by decide)
                by_cases s_1_29 : sg = 29
                · have qs_1_29 : sg.toInt = 29 := by rw [s_1_29]; decide
                  refine lv_tableIn (tgt := 283) (off := 282) hx hb dX1_work_1 (by rw [s_1_29]; decide) (by rw [s_1_29]; decide) (by rw [s_1_29]; decide) (by decide) ?_
                  refine lv_ldc2 (v := (-9223372036854775808)) hx hb C.2.2.2.1 (C.2.2.1 _ cn_X1_34) dX1_work_283 ?_
                  have z_91 : ((-9223372036854775808) : Int64).toInt = -9223372036854775808 := by decide
                  exact hQ _ _ _ _ _ _ hw (⟨rfl, (by have lv : ((-9223372036854775808) : Int64).toInt = -9223372036854775808 := (by decide); unfold bl_w; (repeat (first | rw [if_pos (by omega)] | rw [if_neg (by omega)])); (try unfold bl_if); (repeat (first | rw [if_pos (by omega)] | rw [if_neg (by omega)])); first | omega | assumption)⟩) dX1_work_286
                · have qs_1_29 : sg.toInt ≠ 29 := pt_ne s_1_29 (by decide)
                  by_cases s_1_30 : sg = 30
                  · have qs_1_30 : sg.toInt = 30 := by rw [s_1_30]; decide
                    refine lv_tableIn (tgt := 283) (off := 282) hx hb dX1_work_1 (by rw [s_1_30]; decide) (by rw [s_1_30]; decide) (by rw [s_1_30]; decide) (by decide) ?_
                    refine lv_ldc2 (v := (-9223372036854775808)) hx hb C.2.2.2.1 (C.2.2.1 _ cn_X1_34) dX1_work_283 ?_
                    have z_92 : ((-9223372036854775808) : Int64).toInt = -9223372036854775808 := by decide
                    exact hQ _ _ _ _ _ _ hw (⟨rfl, (by have lv : ((-9223372036854775808) : Int64).toInt = -9223372036854775808 := (by decide); unfold bl_w; (repeat (first | rw [if_pos (by omega)] | rw [if_neg (by omega)])); (try unfold bl_if); (repeat (first | rw [if_pos (by omega)] | rw [if_neg (by omega)])); first | omega | assumption)⟩) dX1_work_286
                  · have qs_1_30 : sg.toInt ≠ 30 := pt_ne s_1_30 (by decide)
                    by_cases s_1_31 : sg = 31
                    · have qs_1_31 : sg.toInt = 31 := by rw [s_1_31]; decide
                      refine lv_tableIn (tgt := 283) (off := 282) hx hb dX1_work_1 (by rw [s_1_31]; decide) (by rw [s_1_31]; decide) (by rw [s_1_31]; decide) (by decide) ?_
                      refine lv_ldc2 (v := (-9223372036854775808)) hx hb C.2.2.2.1 (C.2.2.1 _ cn_X1_34) dX1_work_283 ?_
                      have z_93 : ((-9223372036854775808) : Int64).toInt = -9223372036854775808 := by decide
                      exact hQ _ _ _ _ _ _ hw (⟨rfl, (by have lv : ((-9223372036854775808) : Int64).toInt = -9223372036854775808 := (by decide); unfold bl_w; (repeat (first | rw [if_pos (by omega)] | rw [if_neg (by omega)])); (try unfold bl_if); (repeat (first | rw [if_pos (by omega)] | rw [if_neg (by omega)])); first | omega | assumption)⟩) dX1_work_286
                    · have qs_1_31 : sg.toInt ≠ 31 := pt_ne s_1_31 (by decide)
                      by_cases s_1_32 : sg = 32
                      · have qs_1_32 : sg.toInt = 32 := by rw [s_1_32]; decide
                        refine lv_tableIn (tgt := 175) (off := 174) hx hb dX1_work_1 (by rw [s_1_32]; decide) (by rw [s_1_32]; decide) (by rw [s_1_32]; decide) (by decide) ?_
                        refine lv_lload_n hx hb dX1_work_175 rfl (lv_at hl 1 rfl) ?_
                        refine lv_lload_n hx hb dX1_work_176 rfl (lv_at hl 2 rfl) ?_
                        refine W.lcmp hx hb dX1_work_177 ?_
                        refine lv_topi (fun x_44 ex_44 => ?_)
                        have cx_44 := lg_c ex_44
                        refine sb_if_ge (tgt := 185) hx hb rfl dX1_work_178 (by decide) (fun c_178_44 => ?_) (fun c_178_44 => ?_)
                        · refine lv_lconst (v := 0) hx hb dX1_work_185 (by decide) ?_
                          have z_47 : (0 : Int64).toInt = 0 := by decide
                          exact hQ _ _ _ _ _ _ hw (⟨rfl, (by have lv : (0 : Int64).toInt = 0 := (by decide); unfold bl_w; (repeat (first | rw [if_pos (by omega)] | rw [if_neg (by omega)])); (try unfold bl_if); (repeat (first | rw [if_pos (by omega)] | rw [if_neg (by omega)])); first | omega | assumption)⟩) dX1_work_186
                        · refine lv_lconst (v := 1) hx hb dX1_work_181 (by decide) ?_
                          have z_46 : (1 : Int64).toInt = 1 := by decide
                          refine lv_goto (tgt := 186) hx hb dX1_work_182 (by decide) ?_
                          exact hQ _ _ _ _ _ _ hw (⟨rfl, (by have lv : (1 : Int64).toInt = 1 := (by decide); unfold bl_w; (repeat (first | rw [if_pos (by omega)] | rw [if_neg (by omega)])); (try unfold bl_if); (repeat (first | rw [if_pos (by omega)] | rw [if_neg (by omega)])); first | omega | assumption)⟩) dX1_work_186
                      · have qs_1_32 : sg.toInt ≠ 32 := pt_ne s_1_32 (by decide)
                        by_cases s_1_33 : sg = 33
                        · have qs_1_33 : sg.toInt = 33 := by rw [s_1_33]; decide
                          refine lv_tableIn (tgt := 187) (off := 186) hx hb dX1_work_1 (by rw [s_1_33]; decide) (by rw [s_1_33]; decide) (by rw [s_1_33]; decide) (by decide) ?_
                          refine lv_lload_n hx hb dX1_work_187 rfl (lv_at hl 1 rfl) ?_
                          refine lv_lload_n hx hb dX1_work_188 rfl (lv_at hl 2 rfl) ?_
                          refine W.lcmp hx hb dX1_work_189 ?_
                          refine lv_topi (fun x_48 ex_48 => ?_)
                          have cx_48 := lg_c ex_48
                          refine sb_if_gt (tgt := 197) hx hb rfl dX1_work_190 (by decide) (fun c_190_48 => ?_) (fun c_190_48 => ?_)
                          · refine lv_lconst (v := 0) hx hb dX1_work_197 (by decide) ?_
                            have z_51 : (0 : Int64).toInt = 0 := by decide
                            exact hQ _ _ _ _ _ _ hw (⟨rfl, (by have lv : (0 : Int64).toInt = 0 := (by decide); unfold bl_w; (repeat (first | rw [if_pos (by omega)] | rw [if_neg (by omega)])); (try unfold bl_if); (repeat (first | rw [if_pos (by omega)] | rw [if_neg (by omega)])); first | omega | assumption)⟩) dX1_work_198
                          · refine lv_lconst (v := 1) hx hb dX1_work_193 (by decide) ?_
                            have z_50 : (1 : Int64).toInt = 1 := by decide
                            refine lv_goto (tgt := 198) hx hb dX1_work_194 (by decide) ?_
                            exact hQ _ _ _ _ _ _ hw (⟨rfl, (by have lv : (1 : Int64).toInt = 1 := (by decide); unfold bl_w; (repeat (first | rw [if_pos (by omega)] | rw [if_neg (by omega)])); (try unfold bl_if); (repeat (first | rw [if_pos (by omega)] | rw [if_neg (by omega)])); first | omega | assumption)⟩) dX1_work_198
                        · have qs_1_33 : sg.toInt ≠ 33 := pt_ne s_1_33 (by decide)
                          by_cases s_1_34 : sg = 34
                          · have qs_1_34 : sg.toInt = 34 := by rw [s_1_34]; decide
                            refine lv_tableIn (tgt := 199) (off := 198) hx hb dX1_work_1 (by rw [s_1_34]; decide) (by rw [s_1_34]; decide) (by rw [s_1_34]; decide) (by decide) ?_
                            refine lv_lload_n hx hb dX1_work_199 rfl (lv_at hl 1 rfl) ?_
                            refine lv_lload_n hx hb dX1_work_200 rfl (lv_at hl 2 rfl) ?_
                            refine W.lcmp hx hb dX1_work_201 ?_
                            refine lv_topi (fun x_52 ex_52 => ?_)
                            have cx_52 := lg_c ex_52
                            refine sb_if_ne (tgt := 209) hx hb rfl dX1_work_202 (by decide) (fun c_202_52 => ?_) (fun c_202_52 => ?_)
                            · refine lv_lconst (v := 0) hx hb dX1_work_209 (by decide) ?_
                              have z_55 : (0 : Int64).toInt = 0 := by decide
                              exact hQ _ _ _ _ _ _ hw (⟨rfl, (by have lv : (0 : Int64).toInt = 0 := (by decide); unfold bl_w; (repeat (first | rw [if_pos (by omega)] | rw [if_neg (by omega)])); (try unfold bl_if); (repeat (first | rw [if_pos (by omega)] | rw [if_neg (by omega)])); first | omega | assumption)⟩) dX1_work_210
                            · refine lv_lconst (v := 1) hx hb dX1_work_205 (by decide) ?_
                              have z_54 : (1 : Int64).toInt = 1 := by decide
                              refine lv_goto (tgt := 210) hx hb dX1_work_206 (by decide) ?_
                              exact hQ _ _ _ _ _ _ hw (⟨rfl, (by have lv : (1 : Int64).toInt = 1 := (by decide); unfold bl_w; (repeat (first | rw [if_pos (by omega)] | rw [if_neg (by omega)])); (try unfold bl_if); (repeat (first | rw [if_pos (by omega)] | rw [if_neg (by omega)])); first | omega | assumption)⟩) dX1_work_210
                          · have qs_1_34 : sg.toInt ≠ 34 := pt_ne s_1_34 (by decide)
                            by_cases s_1_35 : sg = 35
                            · have qs_1_35 : sg.toInt = 35 := by rw [s_1_35]; decide
                              refine lv_tableIn (tgt := 211) (off := 210) hx hb dX1_work_1 (by rw [s_1_35]; decide) (by rw [s_1_35]; decide) (by rw [s_1_35]; decide) (by decide) ?_
                              refine lv_lload_n hx hb dX1_work_211 rfl (lv_at hl 1 rfl) ?_
                              refine lv_lload_n hx hb dX1_work_212 rfl (lv_at hl 2 rfl) ?_
                              refine W.lcmp hx hb dX1_work_213 ?_
                              refine lv_topi (fun x_56 ex_56 => ?_)
                              have cx_56 := lg_c ex_56
                              refine sb_if_eq (tgt := 221) hx hb rfl dX1_work_214 (by decide) (fun c_214_56 => ?_) (fun c_214_56 => ?_)
                              · refine lv_lconst (v := 0) hx hb dX1_work_221 (by decide) ?_
                                have z_59 : (0 : Int64).toInt = 0 := by decide
                                exact hQ _ _ _ _ _ _ hw (⟨rfl, (by have lv : (0 : Int64).toInt = 0 := (by decide); unfold bl_w; (repeat (first | rw [if_pos (by omega)] | rw [if_neg (by omega)])); (try unfold bl_if); (repeat (first | rw [if_pos (by omega)] | rw [if_neg (by omega)])); first | omega | assumption)⟩) dX1_work_222
                              · refine lv_lconst (v := 1) hx hb dX1_work_217 (by decide) ?_
                                have z_58 : (1 : Int64).toInt = 1 := by decide
                                refine lv_goto (tgt := 222) hx hb dX1_work_218 (by decide) ?_
                                exact hQ _ _ _ _ _ _ hw (⟨rfl, (by have lv : (1 : Int64).toInt = 1 := (by decide); unfold bl_w; (repeat (first | rw [if_pos (by omega)] | rw [if_neg (by omega)])); (try unfold bl_if); (repeat (first | rw [if_pos (by omega)] | rw [if_neg (by omega)])); first | omega | assumption)⟩) dX1_work_222
                            · have qs_1_35 : sg.toInt ≠ 35 := pt_ne s_1_35 (by decide)
                              by_cases s_1_36 : sg = 36
                              · have qs_1_36 : sg.toInt = 36 := by rw [s_1_36]; decide
                                refine lv_tableIn (tgt := 223) (off := 222) hx hb dX1_work_1 (by rw [s_1_36]; decide) (by rw [s_1_36]; decide) (by rw [s_1_36]; decide) (by decide) ?_
                                refine lv_lload_n hx hb dX1_work_223 rfl (lv_at hl 1 rfl) ?_
                                refine lv_lload_n hx hb dX1_work_224 rfl (lv_at hl 2 rfl) ?_
                                refine W.lcmp hx hb dX1_work_225 ?_
                                refine lv_topi (fun x_60 ex_60 => ?_)
                                have cx_60 := lg_c ex_60
                                refine sb_if_lt (tgt := 233) hx hb rfl dX1_work_226 (by decide) (fun c_226_60 => ?_) (fun c_226_60 => ?_)
                                · refine lv_lconst (v := 0) hx hb dX1_work_233 (by decide) ?_
                                  have z_63 : (0 : Int64).toInt = 0 := by decide
                                  exact hQ _ _ _ _ _ _ hw (⟨rfl, (by have lv : (0 : Int64).toInt = 0 := (by decide); unfold bl_w; (repeat (first | rw [if_pos (by omega)] | rw [if_neg (by omega)])); (try unfold bl_if); (repeat (first | rw [if_pos (by omega)] | rw [if_neg (by omega)])); first | omega | assumption)⟩) dX1_work_234
                                · refine lv_lconst (v := 1) hx hb dX1_work_229 (by decide) ?_
                                  have z_62 : (1 : Int64).toInt = 1 := by decide
                                  refine lv_goto (tgt := 234) hx hb dX1_work_230 (by decide) ?_
                                  exact hQ _ _ _ _ _ _ hw (⟨rfl, (by have lv : (1 : Int64).toInt = 1 := (by decide); unfold bl_w; (repeat (first | rw [if_pos (by omega)] | rw [if_neg (by omega)])); (try unfold bl_if); (repeat (first | rw [if_pos (by omega)] | rw [if_neg (by omega)])); first | omega | assumption)⟩) dX1_work_234
                              · have qs_1_36 : sg.toInt ≠ 36 := pt_ne s_1_36 (by decide)
                                by_cases s_1_37 : sg = 37
                                · have qs_1_37 : sg.toInt = 37 := by rw [s_1_37]; decide
                                  refine lv_tableIn (tgt := 235) (off := 234) hx hb dX1_work_1 (by rw [s_1_37]; decide) (by rw [s_1_37]; decide) (by rw [s_1_37]; decide) (by decide) ?_
                                  refine lv_lload_n hx hb dX1_work_235 rfl (lv_at hl 1 rfl) ?_
                                  refine lv_lload_n hx hb dX1_work_236 rfl (lv_at hl 2 rfl) ?_
                                  refine W.lcmp hx hb dX1_work_237 ?_
                                  refine lv_topi (fun x_64 ex_64 => ?_)
                                  have cx_64 := lg_c ex_64
                                  refine sb_if_le (tgt := 245) hx hb rfl dX1_work_238 (by decide) (fun c_238_64 => ?_) (fun c_238_64 => ?_)
                                  · refine lv_lconst (v := 0) hx hb dX1_work_245 (by decide) ?_
                                    have z_67 : (0 : Int64).toInt = 0 := by decide
                                    exact hQ _ _ _ _ _ _ hw (⟨rfl, (by have lv : (0 : Int64).toInt = 0 := (by decide); unfold bl_w; (repeat (first | rw [if_pos (by omega)] | rw [if_neg (by omega)])); (try unfold bl_if); (repeat (first | rw [if_pos (by omega)] | rw [if_neg (by omega)])); first | omega | assumption)⟩) dX1_work_246
                                  · refine lv_lconst (v := 1) hx hb dX1_work_241 (by decide) ?_
                                    have z_66 : (1 : Int64).toInt = 1 := by decide
                                    refine lv_goto (tgt := 246) hx hb dX1_work_242 (by decide) ?_
                                    exact hQ _ _ _ _ _ _ hw (⟨rfl, (by have lv : (1 : Int64).toInt = 1 := (by decide); unfold bl_w; (repeat (first | rw [if_pos (by omega)] | rw [if_neg (by omega)])); (try unfold bl_if); (repeat (first | rw [if_pos (by omega)] | rw [if_neg (by omega)])); first | omega | assumption)⟩) dX1_work_246
                                · have qs_1_37 : sg.toInt ≠ 37 := pt_ne s_1_37 (by decide)
                                  by_cases s_1_38 : sg = 38
                                  · have qs_1_38 : sg.toInt = 38 := by rw [s_1_38]; decide
                                    refine lv_tableIn (tgt := 96) (off := 95) hx hb dX1_work_1 (by rw [s_1_38]; decide) (by rw [s_1_38]; decide) (by rw [s_1_38]; decide) (by decide) ?_
                                    refine lv_lload_n hx hb dX1_work_96 rfl (lv_at hl 1 rfl) ?_
                                    refine lv_lload_n hx hb dX1_work_97 rfl (lv_at hl 2 rfl) ?_
                                    refine lv_ladd hx hb dX1_work_98 ?_
                                    refine lv_topl (fun x_2 ex_2 => ?_)
                                    have tx_2 : x_2.toInt = a.toInt + b2.toInt := l_add ex_2 rfl rfl (by omega) (by omega)
                                    exact hQ _ _ _ _ _ _ hw (⟨rfl, (by unfold bl_w; (repeat (first | rw [if_pos (by omega)] | rw [if_neg (by omega)])); (try unfold bl_if); (repeat (first | rw [if_pos (by omega)] | rw [if_neg (by omega)])); first | omega | assumption)⟩) dX1_work_99
                                  · have qs_1_38 : sg.toInt ≠ 38 := pt_ne s_1_38 (by decide)
                                    by_cases s_1_39 : sg = 39
                                    · have qs_1_39 : sg.toInt = 39 := by rw [s_1_39]; decide
                                      refine lv_tableIn (tgt := 100) (off := 99) hx hb dX1_work_1 (by rw [s_1_39]; decide) (by rw [s_1_39]; decide) (by rw [s_1_39]; decide) (by decide) ?_
                                      refine lv_lload_n hx hb dX1_work_100 rfl (lv_at hl 1 rfl) ?_
                                      refine lv_lload_n hx hb dX1_work_101 rfl (lv_at hl 2 rfl) ?_
                                      refine lv_lsub hx hb dX1_work_102 ?_
                                      refine lv_topl (fun x_3 ex_3 => ?_)
                                      have tx_3 : x_3.toInt = a.toInt - b2.toInt := l_sub ex_3 rfl rfl (by omega) (by omega)
                                      exact hQ _ _ _ _ _ _ hw (⟨rfl, (by unfold bl_w; (repeat (first | rw [if_pos (by omega)] | rw [if_neg (by omega)])); (try unfold bl_if); (repeat (first | rw [if_pos (by omega)] | rw [if_neg (by omega)])); first | omega | assumption)⟩) dX1_work_103
                                    · have qs_1_39 : sg.toInt ≠ 39 := pt_ne s_1_39 (by decide)
                                      by_cases s_1_40 : sg = 40
                                      · have qs_1_40 : sg.toInt = 40 := by rw [s_1_40]; decide
                                        refine lv_tableIn (tgt := 104) (off := 103) hx hb dX1_work_1 (by rw [s_1_40]; decide) (by rw [s_1_40]; decide) (by rw [s_1_40]; decide) (by decide) ?_
                                        refine lv_lload_n hx hb dX1_work_104 rfl (lv_at hl 1 rfl) ?_
                                        refine lv_lconst (v := 0) hx hb dX1_work_105 (by decide) ?_
                                        have z_4 : (0 : Int64).toInt = 0 := by decide
                                        refine W.lcmp hx hb dX1_work_106 ?_
                                        refine lv_topi (fun x_5 ex_5 => ?_)
                                        have cx_5 := lg_c ex_5
                                        refine sb_if_ne (tgt := 116) hx hb rfl dX1_work_107 (by decide) (fun c_107_5 => ?_) (fun c_107_5 => ?_)
                                        · refine lv_ldc2 (v := 1000000000000) hx hb C.2.2.2.1 (C.2.2.1 _ cn_X1_67) dX1_work_116 ?_
                                          have z_8 : (1000000000000 : Int64).toInt = 1000000000000 := by decide
                                          refine lv_lload_n hx hb dX1_work_119 rfl (lv_at hl 1 rfl) ?_
                                          refine lv_lconst (v := 0) hx hb dX1_work_120 (by decide) ?_
                                          have z_9 : (0 : Int64).toInt = 0 := by decide
                                          refine W.lcmp hx hb dX1_work_121 ?_
                                          refine lv_topi (fun x_10 ex_10 => ?_)
                                          have cx_10 := lg_c ex_10
                                          refine sb_if_ge (tgt := 130) hx hb rfl dX1_work_122 (by decide) (fun c_122_10 => ?_) (fun c_122_10 => ?_)
                                          · refine lv_lload_n hx hb dX1_work_130 rfl (lv_at hl 1 rfl) ?_
                                            refine lv_ldiv hx hb dX1_work_131 (fun q => by have h0 := congrArg Int64.toInt q; have := (by decide : (0 : Int64).toInt = 0); omega) ?_
                                            refine lv_topl (fun x_14 ex_14 => ?_)
                                            have tx_14 : x_14.toInt = Int.tdiv ((1000000000000 : Int64).toInt) a.toInt := l_div ex_14 rfl rfl (by omega) (by omega)
                                            refine lv_lstore (lv' := [(5, .long x_14), (0, .int sg), (1, .long a), (3, .long b2)]) hx hb dX1_work_132 hl (by decide) rfl (fun ls hl => ?_)
                                            have md : x_14.toInt = Int.tdiv 1000000000000 a.toInt := by rw [tx_14, show (1000000000000 : Int64).toInt = 1000000000000 by decide]
                                            have mb := bl_dv (by omega) md
                                            have mq := bl_mq (b := b2.toInt) (n := a.toInt) (a := a.toInt) (by omega) md
                                            refine lv_lload_n hx hb dX1_work_134 rfl (lv_at hl 3 rfl) ?_
                                            refine lv_lload hx hb dX1_work_135 (lv_at hl 0 rfl) ?_
                                            refine W.lcmp hx hb dX1_work_137 ?_
                                            refine lv_topi (fun x_19 ex_19 => ?_)
                                            have cx_19 := lg_c ex_19
                                            refine sb_if_gt (tgt := 149) hx hb rfl dX1_work_138 (by decide) (fun c_138_19 => ?_) (fun c_138_19 => ?_)
                                            · refine lv_ldc2 (v := (-9223372036854775808)) hx hb C.2.2.2.1 (C.2.2.1 _ cn_X1_34) dX1_work_149 ?_
                                              have z_32 : ((-9223372036854775808) : Int64).toInt = -9223372036854775808 := by decide
                                              refine lv_goto (tgt := 158) hx hb dX1_work_152 (by decide) ?_
                                              exact hQ _ _ _ _ _ _ hw (⟨rfl, (by have lv : ((-9223372036854775808) : Int64).toInt = -9223372036854775808 := (by decide); unfold bl_w; (repeat (first | rw [if_pos (by omega)] | rw [if_neg (by omega)])); (try unfold bl_if); (repeat (first | rw [if_pos (by omega)] | rw [if_neg (by omega)])); first | omega | assumption)⟩) dX1_work_158
                                            · refine lv_lload_n hx hb dX1_work_141 rfl (lv_at hl 3 rfl) ?_
                                              refine lv_lload hx hb dX1_work_142 (lv_at hl 0 rfl) ?_
                                              refine lv_lneg hx hb dX1_work_144 ?_
                                              refine lv_topl (fun x_27 ex_27 => ?_)
                                              have tx_27 : x_27.toInt = -x_14.toInt := l_neg ex_27 rfl (by omega) (by omega)
                                              refine W.lcmp hx hb dX1_work_145 ?_
                                              refine lv_topi (fun x_28 ex_28 => ?_)
                                              have cx_28 := lg_c ex_28
                                              refine sb_if_ge (tgt := 155) hx hb rfl dX1_work_146 (by decide) (fun c_146_28 => ?_) (fun c_146_28 => ?_)
                                              · refine lv_lload_n hx hb dX1_work_155 rfl (lv_at hl 2 rfl) ?_
                                                refine lv_lload_n hx hb dX1_work_156 rfl (lv_at hl 3 rfl) ?_
                                                refine lv_lmul hx hb dX1_work_157 ?_
                                                refine lv_topl (fun x_38 ex_38 => ?_)
                                                have tx_38 : x_38.toInt = a.toInt * b2.toInt := l_mul ex_38 rfl rfl (by omega) (by omega)
                                                exact hQ _ _ _ _ _ _ hw (⟨rfl, (by unfold bl_w; (repeat (first | rw [if_pos (by omega)] | rw [if_neg (by omega)])); (try unfold bl_if); (repeat (first | rw [if_pos (by omega)] | rw [if_neg (by omega)])); first | omega | assumption)⟩) dX1_work_158
                                              · refine lv_ldc2 (v := (-9223372036854775808)) hx hb C.2.2.2.1 (C.2.2.1 _ cn_X1_34) dX1_work_149 ?_
                                                have z_35 : ((-9223372036854775808) : Int64).toInt = -9223372036854775808 := by decide
                                                refine lv_goto (tgt := 158) hx hb dX1_work_152 (by decide) ?_
                                                exact hQ _ _ _ _ _ _ hw (⟨rfl, (by have lv : ((-9223372036854775808) : Int64).toInt = -9223372036854775808 := (by decide); unfold bl_w; (repeat (first | rw [if_pos (by omega)] | rw [if_neg (by omega)])); (try unfold bl_if); (repeat (first | rw [if_pos (by omega)] | rw [if_neg (by omega)])); first | omega | assumption)⟩) dX1_work_158
                                          · refine lv_lload_n hx hb dX1_work_125 rfl (lv_at hl 1 rfl) ?_
                                            refine lv_lneg hx hb dX1_work_126 ?_
                                            refine lv_topl (fun x_12 ex_12 => ?_)
                                            have tx_12 : x_12.toInt = -a.toInt := l_neg ex_12 rfl (by omega) (by omega)
                                            refine lv_goto (tgt := 131) hx hb dX1_work_127 (by decide) ?_
                                            refine lv_ldiv hx hb dX1_work_131 (fun q => by have h0 := congrArg Int64.toInt q; have := (by decide : (0 : Int64).toInt = 0); omega) ?_
                                            refine lv_topl (fun x_13 ex_13 => ?_)
                                            have tx_13 : x_13.toInt = Int.tdiv ((1000000000000 : Int64).toInt) x_12.toInt := l_div ex_13 rfl rfl (by omega) (by omega)
                                            refine lv_lstore (lv' := [(5, .long x_13), (0, .int sg), (1, .long a), (3, .long b2)]) hx hb dX1_work_132 hl (by decide) rfl (fun ls hl => ?_)
                                            have md : x_13.toInt = Int.tdiv 1000000000000 (-a.toInt) := by rw [tx_13, show (1000000000000 : Int64).toInt = 1000000000000 by decide, show x_12.toInt = (-a.toInt) by omega]
                                            have mb := bl_dv (by omega) md
                                            have mq := bl_mq (b := b2.toInt) (n := (-a.toInt)) (a := a.toInt) (by omega) md
                                            refine lv_lload_n hx hb dX1_work_134 rfl (lv_at hl 3 rfl) ?_
                                            refine lv_lload hx hb dX1_work_135 (lv_at hl 0 rfl) ?_
                                            refine W.lcmp hx hb dX1_work_137 ?_
                                            refine lv_topi (fun x_17 ex_17 => ?_)
                                            have cx_17 := lg_c ex_17
                                            refine sb_if_gt (tgt := 149) hx hb rfl dX1_work_138 (by decide) (fun c_138_17 => ?_) (fun c_138_17 => ?_)
                                            · refine lv_ldc2 (v := (-9223372036854775808)) hx hb C.2.2.2.1 (C.2.2.1 _ cn_X1_34) dX1_work_149 ?_
                                              have z_31 : ((-9223372036854775808) : Int64).toInt = -9223372036854775808 := by decide
                                              refine lv_goto (tgt := 158) hx hb dX1_work_152 (by decide) ?_
                                              exact hQ _ _ _ _ _ _ hw (⟨rfl, (by have lv : ((-9223372036854775808) : Int64).toInt = -9223372036854775808 := (by decide); unfold bl_w; (repeat (first | rw [if_pos (by omega)] | rw [if_neg (by omega)])); (try unfold bl_if); (repeat (first | rw [if_pos (by omega)] | rw [if_neg (by omega)])); first | omega | assumption)⟩) dX1_work_158
                                            · refine lv_lload_n hx hb dX1_work_141 rfl (lv_at hl 3 rfl) ?_
                                              refine lv_lload hx hb dX1_work_142 (lv_at hl 0 rfl) ?_
                                              refine lv_lneg hx hb dX1_work_144 ?_
                                              refine lv_topl (fun x_24 ex_24 => ?_)
                                              have tx_24 : x_24.toInt = -x_13.toInt := l_neg ex_24 rfl (by omega) (by omega)
                                              refine W.lcmp hx hb dX1_work_145 ?_
                                              refine lv_topi (fun x_25 ex_25 => ?_)
                                              have cx_25 := lg_c ex_25
                                              refine sb_if_ge (tgt := 155) hx hb rfl dX1_work_146 (by decide) (fun c_146_25 => ?_) (fun c_146_25 => ?_)
                                              · refine lv_lload_n hx hb dX1_work_155 rfl (lv_at hl 2 rfl) ?_
                                                refine lv_lload_n hx hb dX1_work_156 rfl (lv_at hl 3 rfl) ?_
                                                refine lv_lmul hx hb dX1_work_157 ?_
                                                refine lv_topl (fun x_37 ex_37 => ?_)
                                                have tx_37 : x_37.toInt = a.toInt * b2.toInt := l_mul ex_37 rfl rfl (by omega) (by omega)
                                                exact hQ _ _ _ _ _ _ hw (⟨rfl, (by unfold bl_w; (repeat (first | rw [if_pos (by omega)] | rw [if_neg (by omega)])); (try unfold bl_if); (repeat (first | rw [if_pos (by omega)] | rw [if_neg (by omega)])); first | omega | assumption)⟩) dX1_work_158
                                              · refine lv_ldc2 (v := (-9223372036854775808)) hx hb C.2.2.2.1 (C.2.2.1 _ cn_X1_34) dX1_work_149 ?_
                                                have z_34 : ((-9223372036854775808) : Int64).toInt = -9223372036854775808 := by decide
                                                refine lv_goto (tgt := 158) hx hb dX1_work_152 (by decide) ?_
                                                exact hQ _ _ _ _ _ _ hw (⟨rfl, (by have lv : ((-9223372036854775808) : Int64).toInt = -9223372036854775808 := (by decide); unfold bl_w; (repeat (first | rw [if_pos (by omega)] | rw [if_neg (by omega)])); (try unfold bl_if); (repeat (first | rw [if_pos (by omega)] | rw [if_neg (by omega)])); first | omega | assumption)⟩) dX1_work_158
                                        · refine lv_ldc2 (v := 1000000000000) hx hb C.2.2.2.1 (C.2.2.1 _ cn_X1_67) dX1_work_110 ?_
                                          have z_7 : (1000000000000 : Int64).toInt = 1000000000000 := by decide
                                          refine lv_goto (tgt := 132) hx hb dX1_work_113 (by decide) ?_
                                          refine lv_lstore (lv' := [(5, .long 1000000000000), (0, .int sg), (1, .long a), (3, .long b2)]) hx hb dX1_work_132 hl (by decide) rfl (fun ls hl => ?_)
                                          have mq : a.toInt * b2.toInt = 0 := by rw [show a.toInt = 0 by omega, Int.zero_mul]
                                          refine lv_lload_n hx hb dX1_work_134 rfl (lv_at hl 3 rfl) ?_
                                          refine lv_lload hx hb dX1_work_135 (lv_at hl 0 rfl) ?_
                                          refine W.lcmp hx hb dX1_work_137 ?_
                                          refine lv_topi (fun x_15 ex_15 => ?_)
                                          have cx_15 := lg_c ex_15
                                          refine sb_if_gt (tgt := 149) hx hb rfl dX1_work_138 (by decide) (fun c_138_15 => ?_) (fun c_138_15 => ?_)
                                          · refine lv_ldc2 (v := (-9223372036854775808)) hx hb C.2.2.2.1 (C.2.2.1 _ cn_X1_34) dX1_work_149 ?_
                                            have z_30 : ((-9223372036854775808) : Int64).toInt = -9223372036854775808 := by decide
                                            refine lv_goto (tgt := 158) hx hb dX1_work_152 (by decide) ?_
                                            exact hQ _ _ _ _ _ _ hw (⟨rfl, (by have lv : ((-9223372036854775808) : Int64).toInt = -9223372036854775808 := (by decide); unfold bl_w; (repeat (first | rw [if_pos (by omega)] | rw [if_neg (by omega)])); (try unfold bl_if); (repeat (first | rw [if_pos (by omega)] | rw [if_neg (by omega)])); first | omega | assumption)⟩) dX1_work_158
                                          · refine lv_lload_n hx hb dX1_work_141 rfl (lv_at hl 3 rfl) ?_
                                            refine lv_lload hx hb dX1_work_142 (lv_at hl 0 rfl) ?_
                                            refine lv_lneg hx hb dX1_work_144 ?_
                                            refine lv_topl (fun x_21 ex_21 => ?_)
                                            have tx_21 : x_21.toInt = -(1000000000000 : Int64).toInt := l_neg ex_21 rfl (by omega) (by omega)
                                            refine W.lcmp hx hb dX1_work_145 ?_
                                            refine lv_topi (fun x_22 ex_22 => ?_)
                                            have cx_22 := lg_c ex_22
                                            refine sb_if_ge (tgt := 155) hx hb rfl dX1_work_146 (by decide) (fun c_146_22 => ?_) (fun c_146_22 => ?_)
                                            · refine lv_lload_n hx hb dX1_work_155 rfl (lv_at hl 2 rfl) ?_
                                              refine lv_lload_n hx hb dX1_work_156 rfl (lv_at hl 3 rfl) ?_
                                              refine lv_lmul hx hb dX1_work_157 ?_
                                              refine lv_topl (fun x_36 ex_36 => ?_)
                                              have tx_36 : x_36.toInt = a.toInt * b2.toInt := l_mul ex_36 rfl rfl (by omega) (by omega)
                                              exact hQ _ _ _ _ _ _ hw (⟨rfl, (by unfold bl_w; (repeat (first | rw [if_pos (by omega)] | rw [if_neg (by omega)])); (try unfold bl_if); (repeat (first | rw [if_pos (by omega)] | rw [if_neg (by omega)])); first | omega | assumption)⟩) dX1_work_158
                                            · refine lv_ldc2 (v := (-9223372036854775808)) hx hb C.2.2.2.1 (C.2.2.1 _ cn_X1_34) dX1_work_149 ?_
                                              have z_33 : ((-9223372036854775808) : Int64).toInt = -9223372036854775808 := by decide
                                              refine lv_goto (tgt := 158) hx hb dX1_work_152 (by decide) ?_
                                              exact hQ _ _ _ _ _ _ hw (⟨rfl, (by have lv : ((-9223372036854775808) : Int64).toInt = -9223372036854775808 := (by decide); unfold bl_w; (repeat (first | rw [if_pos (by omega)] | rw [if_neg (by omega)])); (try unfold bl_if); (repeat (first | rw [if_pos (by omega)] | rw [if_neg (by omega)])); first | omega | assumption)⟩) dX1_work_158
                                      · have qs_1_40 : sg.toInt ≠ 40 := pt_ne s_1_40 (by decide)
                                        by_cases s_1_41 : sg = 41
                                        · have qs_1_41 : sg.toInt = 41 := by rw [s_1_41]; decide
                                          refine lv_tableIn (tgt := 159) (off := 158) hx hb dX1_work_1 (by rw [s_1_41]; decide) (by rw [s_1_41]; decide) (by rw [s_1_41]; decide) (by decide) ?_
                                          refine lv_lload_n hx hb dX1_work_159 rfl (lv_at hl 2 rfl) ?_
                                          refine lv_lconst (v := 0) hx hb dX1_work_160 (by decide) ?_
                                          have z_39 : (0 : Int64).toInt = 0 := by decide
                                          refine W.lcmp hx hb dX1_work_161 ?_
                                          refine lv_topi (fun x_40 ex_40 => ?_)
                                          have cx_40 := lg_c ex_40
                                          refine sb_if_ne (tgt := 171) hx hb rfl dX1_work_162 (by decide) (fun c_162_40 => ?_) (fun c_162_40 => ?_)
                                          · refine lv_lload_n hx hb dX1_work_171 rfl (lv_at hl 1 rfl) ?_
                                            refine lv_lload_n hx hb dX1_work_172 rfl (lv_at hl 2 rfl) ?_
                                            refine lv_ldiv hx hb dX1_work_173 (fun q => by have h0 := congrArg Int64.toInt q; have := (by decide : (0 : Int64).toInt = 0); omega) ?_
                                            refine lv_topl (fun x_43 ex_43 => ?_)
                                            have tx_43 : x_43.toInt = Int.tdiv a.toInt b2.toInt := l_div ex_43 rfl rfl (by omega) (by omega)
                                            exact hQ _ _ _ _ _ _ hw (⟨rfl, (by unfold bl_w; (repeat (first | rw [if_pos (by omega)] | rw [if_neg (by omega)])); (try unfold bl_if); (repeat (first | rw [if_pos (by omega)] | rw [if_neg (by omega)])); first | omega | assumption)⟩) dX1_work_174
                                          · refine lv_ldc2 (v := (-9223372036854775808)) hx hb C.2.2.2.1 (C.2.2.1 _ cn_X1_34) dX1_work_165 ?_
                                            have z_42 : ((-9223372036854775808) : Int64).toInt = -9223372036854775808 := by decide
                                            refine lv_goto (tgt := 174) hx hb dX1_work_168 (by decide) ?_
                                            exact hQ _ _ _ _ _ _ hw (⟨rfl, (by have lv : ((-9223372036854775808) : Int64).toInt = -9223372036854775808 := (by decide); unfold bl_w; (repeat (first | rw [if_pos (by omega)] | rw [if_neg (by omega)])); (try unfold bl_if); (repeat (first | rw [if_pos (by omega)] | rw [if_neg (by omega)])); first | omega | assumption)⟩) dX1_work_174
                                        · have qs_1_41 : sg.toInt ≠ 41 := pt_ne s_1_41 (by decide)
                                          refine lv_tableOut (tgt := 283) hx hb dX1_work_1 (ti_out (lo := 22) (hi := 41) sg (fun v h1 h2 => by rcases (show v = 22 ∨ v = 23 ∨ v = 24 ∨ v = 25 ∨ v = 26 ∨ v = 27 ∨ v = 28 ∨ v = 29 ∨ v = 30 ∨ v = 31 ∨ v = 32 ∨ v = 33 ∨ v = 34 ∨ v = 35 ∨ v = 36 ∨ v = 37 ∨ v = 38 ∨ v = 39 ∨ v = 40 ∨ v = 41 by omega) with rfl | rfl | rfl | rfl | rfl | rfl | rfl | rfl | rfl | rfl | rfl | rfl | rfl | rfl | rfl | rfl | rfl | rfl | rfl | rfl <;> first | exact ti_nev 22 s_1_22 (by decide) | exact ti_nev 23 s_1_23 (by decide) | exact ti_nev 24 s_1_24 (by decide) | exact ti_nev 25 s_1_25 (by decide) | exact ti_nev 26 s_1_26 (by decide) | exact ti_nev 27 s_1_27 (by decide) | exact ti_nev 28 s_1_28 (by decide) | exact ti_nev 29 s_1_29 (by decide) | exact ti_nev 30 s_1_30 (by decide) | exact ti_nev 31 s_1_31 (by decide) | exact ti_nev 32 s_1_32 (by decide) | exact ti_nev 33 s_1_33 (by decide) | exact ti_nev 34 s_1_34 (by decide) | exact ti_nev 35 s_1_35 (by decide) | exact ti_nev 36 s_1_36 (by decide) | exact ti_nev 37 s_1_37 (by decide) | exact ti_nev 38 s_1_38 (by decide) | exact ti_nev 39 s_1_39 (by decide) | exact ti_nev 40 s_1_40 (by decide) | exact ti_nev 41 s_1_41 (by decide))) (by decide) ?_
                                          refine lv_ldc2 (v := (-9223372036854775808)) hx hb C.2.2.2.1 (C.2.2.1 _ cn_X1_34) dX1_work_283 ?_
                                          have z_94 : ((-9223372036854775808) : Int64).toInt = -9223372036854775808 := by decide
                                          exact hQ _ _ _ _ _ _ hw (⟨rfl, (by have lv : ((-9223372036854775808) : Int64).toInt = -9223372036854775808 := (by decide); unfold bl_w; (repeat (first | rw [if_pos (by omega)] | rw [if_neg (by omega)])); (try unfold bl_if); (repeat (first | rw [if_pos (by omega)] | rw [if_neg (by omega)])); first | omega | assumption)⟩) dX1_work_286
set_option maxHeartbeats 4000000 in
set_option maxRecDepth 100000 in
theorem z_X1_value (l : Launch) (D : va_G) (A : Nat → Nat → Nat) (cy : Nat → ClassId) (hJ : ti_inj ti_LT A) (M : ti_M) (hI : cI Tc M) (lw q t : Nat) (hlw : ti_ob ti_LT lw 1) (hq : ti_ob ti_LT q 3) (ht : t = 3 ∨ t = 4) (hT : tT M q 0 = some t) (pl ps : Int32) (co : Nat → Int) (len : Int) (hco : ∀ n : Nat, n < 64 → co n = (tY M lw 0 n).toInt) (hln : len = (tI M lw 3).toInt) (tx rg : Nat → Int) (htx : tC t tx M) (hs : qC q rg M) : ti_Kl l yX1_value cX1_value 10 (some .long) 1 ti_LT D A cy M [.ref (A lw 0), .ref (A q 0), .int pl, .int ps] (fun r M2 => cI Tc M2 ∧ M2.2.2.2 = M.2.2.2 ∧ M2.1 = M.1 ∧ M2.2.1 = M.2.1 ∧ r.toInt = vq co len tx rg pl.toInt ps.toInt) := by
  refine ti_eL yp_X1_value hJ ti_LT_nd (Nat.le_of_ble_eq_true rfl) ?_
  intro p e s m args below meth c Q H0 C hQ hw ls hl
  have hx := C.1
  have hb := C.2.1
  have hl : lv_has ls 10 [(0, .ref (A lw 0)), (1, .ref (A q 0)), (2, .int pl), (3, .int ps)] := hl
  refine lv_aload_n hx hb dX1_value_0 rfl (lv_at hl 1 rfl) ?_
  refine lv_iload_n hx hb dX1_value_1 rfl (lv_at hl 2 rfl) ?_
  refine ti_callVi (ci := 3) (av := [.int pl]) C hw (z_X3_manAt l D A cy hJ M hI q hq pl rg hs) ⟨ml_X1_28, ym_X3_manAt, yv_X3_manAt, yi_X3_manAt, yc_X3_manAt⟩ yd_X3_manAt hq (by decide) rfl rfl hl.1 (Nat.le_of_ble_eq_true rfl) ⟨by decide, by decide⟩ ⟨Nat.zero_le _, Nat.zero_le _⟩ dX1_value_2 (fun r_1 M_2 H locs hp_2 hw => ?_)
  obtain ⟨hm, b0r_1, b1r_1, pr_1, p0r_1⟩ := hp_2
  have hw := hw.to hm
  refine lv_istore (lv' := [(4, .int r_1), (0, .ref (A lw 0)), (1, .ref (A q 0)), (2, .int pl), (3, .int ps)]) hx hb dX1_value_5 hl (by decide) rfl (fun ls hl => ?_)
  refine lv_iload hx hb dX1_value_7 (lv_at hl 0 rfl) ?_
  refine sb_if_lt (tgt := 19) hx hb rfl dX1_value_9 (by decide) (fun c_9_2 => ?_) (fun c_9_2 => ?_)
  · refine lv_ldc2 (v := (-9223372036854775808)) hx hb C.2.2.2.1 (C.2.2.1 _ cn_X1_34) dX1_value_19 ?_
    have z_6 : ((-9223372036854775808) : Int64).toInt = -9223372036854775808 := by decide
    exact hQ _ _ _ _ _ _ hw (⟨hI, rfl, rfl, rfl, (by unfold vq; rw [if_pos (by omega)]; decide)⟩) dX1_value_22
  · refine lv_aload_n hx hb dX1_value_12 rfl (lv_at hl 1 rfl) ?_
    refine ti_get (ci := 1) (k := 3) (N := 4) (T := TX1) C hw iw_1 rfl hlw (by decide) (by decide) fl_X1_24 rfl rfl dX1_value_13 ?_
    refine lv_topi (fun x_4 ex_4 => ?_)
    have bx_4 : 0 ≤ x_4.toInt ∧ x_4.toInt ≤ 64 := cI_rd hI hlw.1 ex_4
    have ux_4 : (tI M lw 3).toInt = x_4.toInt := by rw [ex_4]
    have ll : len = x_4.toInt := by rw [hln, ex_4]
    refine sb_if_ne (tgt := 23) hx hb rfl dX1_value_16 (by decide) (fun c_16_4 => ?_) (fun c_16_4 => ?_)
    · refine lv_aload_n hx hb dX1_value_23 rfl (lv_at hl 1 rfl) ?_
      refine ti_get (ci := 1) (k := 2) (N := 4) (T := TX1) (v := .ref (A lw 3)) C hw iw_1 rfl hlw (by decide) (by decide) fl_X1_21 rfl rfl dX1_value_24 ?_
      refine lv_iconst (v := 0) hx hb dX1_value_27 (by decide) ?_
      refine lv_aload_n hx hb dX1_value_28 rfl (lv_at hl 2 rfl) ?_
      refine ti_get (ci := 3) (k := 0) (N := 17) (T := TX3) (v := .ref (A t 0)) C hw iw_3 rfl hq (by decide) (by decide) fl_X1_36 rfl (ti_Tv (hT)) dX1_value_29 ?_
      refine ti_get (ci := 8) (k := 0) (N := 12) (T := TX8) (v := .ref (A t 1)) C hw iw_8 rfl (ob_t ht) (by decide) (by decide) fl_X1_40 rfl rfl dX1_value_32 ?_
      refine lv_iload hx hb dX1_value_35 (lv_at hl 0 rfl) ?_
      refine ti_aald (ci := 8) (k := 0) (n := 8) (t0 := 5) (Cn := RX2) (gg := (ti_men t)) (j := r_1.toNatClampNeg) C hw (ob_t ht) (by decide) (fun _ _ => rfl) rfl (vp_in_iff.mpr (by omega)) rfl dX1_value_37 ?_
      have ob_8 : ti_ob ti_LT (ti_men t r_1.toNatClampNeg) 2 := ob_m ht (i_nt rfl (by omega) (by omega))
      refine ti_get (ci := 2) (k := 1) (N := 10) (T := TX2) C hw iw_2 rfl ob_8 (by decide) (by decide) fl_X1_46 rfl rfl dX1_value_38 ?_
      refine lv_topi (fun x_9 ex_9 => ?_)
      have L_10 : tx (100 + 16 * r_1.toInt.toNat + 1) = x_9.toInt := (((show tx (100 + 16 * r_1.toInt.toNat + 1) = _ from by rw [← (show r_1.toNatClampNeg = r_1.toInt.toNat from congrArg Int.toNat rfl)]; exact htx.2.2.1 r_1.toNatClampNeg 1 (i_nt (n := 8) rfl (by omega) (by omega)) (by decide) (by decide))).trans (congrArg Int32.toInt (ex_9.symm))).trans rfl
      obtain ⟨x_11, ex_11⟩ : ∃ z : Int64, z = x_9.toInt64 := ⟨_, rfl⟩
      refine lv_i2l (v := x_11) hx hb dX1_value_41 ex_11.symm ?_
      have tx_11 : x_11.toInt = x_9.toInt := by rw [ex_11, Int32.toInt_toInt64]
      have lox_11 := (x_9 : Int32).le_toInt
      have hix_11 := (x_9 : Int32).toInt_lt
      refine ti_last (ci := 1) (k := 2) (n := 6) C hw hlw (by decide) (fun _ _ => rfl) (by unfold vp_in; decide) dX1_value_42 (fun H locs hw => ?_)
      obtain ⟨M_12, hM_12⟩ : ∃ z : ti_M, z = uZ M lw 2 (vp_updL (tZ M lw 2) (0 : Int32).toNatClampNeg x_11) := ⟨_, rfl⟩
      have hw := hw.to hM_12.symm
      have iM_12 : cI Tc M_12 := cI_uZ hI hM_12
      have hs_13 : qC q rg M_12 := qC_Z hs hM_12
      have hF_14 : ∀ j : Nat, j < 0 + 1 → (tZ M_12 lw 2 j).toInt = (bq_fa tx rg r_1.toInt ps.toInt) j ∧ -1000000000000 ≤ (bq_fa tx rg r_1.toInt ps.toInt) j ∧ (bq_fa tx rg r_1.toInt ps.toInt) j ≤ 1000000000000 := lz_fa (n := 0) (fun j hj => absurd hj (Nat.not_lt_zero _)) hM_12 (by decide) (by show _ = bq_fa _ _ _ _ 0; unfold bq_fa; (repeat (first | rw [if_pos (by omega)] | rw [if_neg (by omega)])); omega) ⟨by omega, by omega⟩
      refine lv_aload_n hx hb dX1_value_43 rfl (lv_at hl 1 rfl) ?_
      refine ti_get (ci := 1) (k := 2) (N := 4) (T := TX1) (v := .ref (A lw 3)) C hw iw_1 rfl hlw (by decide) (by decide) fl_X1_21 rfl rfl dX1_value_44 ?_
      refine lv_iconst (v := 1) hx hb dX1_value_47 (by decide) ?_
      refine lv_aload_n hx hb dX1_value_48 rfl (lv_at hl 2 rfl) ?_
      refine ti_get (ci := 3) (k := 0) (N := 17) (T := TX3) (v := .ref (A t 0)) C hw iw_3 rfl hq (by decide) (by decide) fl_X1_36 rfl (ti_Tv ((tT_uZE hM_12).trans hT)) dX1_value_49 ?_
      refine ti_get (ci := 8) (k := 0) (N := 12) (T := TX8) (v := .ref (A t 1)) C hw iw_8 rfl (ob_t ht) (by decide) (by decide) fl_X1_40 rfl rfl dX1_value_52 ?_
      refine lv_iload hx hb dX1_value_55 (lv_at hl 0 rfl) ?_
      refine ti_aald (ci := 8) (k := 0) (n := 8) (t0 := 5) (Cn := RX2) (gg := (ti_men t)) (j := r_1.toNatClampNeg) C hw (ob_t ht) (by decide) (fun _ _ => rfl) rfl (vp_in_iff.mpr (by omega)) rfl dX1_value_57 ?_
      refine ti_get (ci := 2) (k := 2) (N := 10) (T := TX2) C hw iw_2 rfl ob_8 (by decide) (by decide) fl_X1_51 rfl rfl dX1_value_58 ?_
      refine lv_topi (fun x_15 ex_15 => ?_)
      have L_16 : tx (100 + 16 * r_1.toInt.toNat + 2) = x_15.toInt := (((show tx (100 + 16 * r_1.toInt.toNat + 2) = _ from by rw [← (show r_1.toNatClampNeg = r_1.toInt.toNat from congrArg Int.toNat rfl)]; exact (tC_eo ht hq.1 htx (eo_Z hM_12)).2.2.1 r_1.toNatClampNeg 2 (i_nt (n := 8) rfl (by omega) (by omega)) (by decide) (by decide))).trans (congrArg Int32.toInt (ex_15.symm))).trans rfl
      obtain ⟨x_17, ex_17⟩ : ∃ z : Int64, z = x_15.toInt64 := ⟨_, rfl⟩
      refine lv_i2l (v := x_17) hx hb dX1_value_61 ex_17.symm ?_
      have tx_17 : x_17.toInt = x_15.toInt := by rw [ex_17, Int32.toInt_toInt64]
      have lox_17 := (x_15 : Int32).le_toInt
      have hix_17 := (x_15 : Int32).toInt_lt
      refine ti_last (ci := 1) (k := 2) (n := 6) C hw hlw (by decide) (fun _ _ => rfl) (by unfold vp_in; decide) dX1_value_62 (fun H locs hw => ?_)
      obtain ⟨M_18, hM_18⟩ : ∃ z : ti_M, z = uZ M_12 lw 2 (vp_updL (tZ M_12 lw 2) (1 : Int32).toNatClampNeg x_17) := ⟨_, rfl⟩
      have hw := hw.to hM_18.symm
      have iM_18 : cI Tc M_18 := cI_uZ iM_12 hM_18
      have hs_19 : qC q rg M_18 := qC_Z hs_13 hM_18
      have hF_20 : ∀ j : Nat, j < 1 + 1 → (tZ M_18 lw 2 j).toInt = (bq_fa tx rg r_1.toInt ps.toInt) j ∧ -1000000000000 ≤ (bq_fa tx rg r_1.toInt ps.toInt) j ∧ (bq_fa tx rg r_1.toInt ps.toInt) j ≤ 1000000000000 := lz_fa (n := 1) hF_14 hM_18 (by decide) (by show _ = bq_fa _ _ _ _ 1; unfold bq_fa; (repeat (first | rw [if_pos (by omega)] | rw [if_neg (by omega)])); omega) ⟨by omega, by omega⟩
      refine lv_aload_n hx hb dX1_value_63 rfl (lv_at hl 1 rfl) ?_
      refine ti_get (ci := 1) (k := 2) (N := 4) (T := TX1) (v := .ref (A lw 3)) C hw iw_1 rfl hlw (by decide) (by decide) fl_X1_21 rfl rfl dX1_value_64 ?_
      refine lv_iconst (v := 2) hx hb dX1_value_67 (by decide) ?_
      refine lv_aload_n hx hb dX1_value_68 rfl (lv_at hl 2 rfl) ?_
      refine ti_get (ci := 3) (k := 0) (N := 17) (T := TX3) (v := .ref (A t 0)) C hw iw_3 rfl hq (by decide) (by decide) fl_X1_36 rfl (ti_Tv ((tT_uZE hM_18).trans ((tT_uZE hM_12).trans hT))) dX1_value_69 ?_
      refine ti_get (ci := 8) (k := 0) (N := 12) (T := TX8) (v := .ref (A t 1)) C hw iw_8 rfl (ob_t ht) (by decide) (by decide) fl_X1_40 rfl rfl dX1_value_72 ?_
      refine lv_iload hx hb dX1_value_75 (lv_at hl 0 rfl) ?_
      refine ti_aald (ci := 8) (k := 0) (n := 8) (t0 := 5) (Cn := RX2) (gg := (ti_men t)) (j := r_1.toNatClampNeg) C hw (ob_t ht) (by decide) (fun _ _ => rfl) rfl (vp_in_iff.mpr (by omega)) rfl dX1_value_77 ?_
      refine ti_get (ci := 2) (k := 4) (N := 10) (T := TX2) C hw iw_2 rfl ob_8 (by decide) (by decide) fl_X1_54 rfl rfl dX1_value_78 ?_
      refine lv_topi (fun x_21 ex_21 => ?_)
      have L_22 : tx (100 + 16 * r_1.toInt.toNat + 4) = x_21.toInt := (((show tx (100 + 16 * r_1.toInt.toNat + 4) = _ from by rw [← (show r_1.toNatClampNeg = r_1.toInt.toNat from congrArg Int.toNat rfl)]; exact (tC_eo ht hq.1 htx (eo.trans (eo_Z hM_18) (eo_Z hM_12))).2.2.1 r_1.toNatClampNeg 4 (i_nt (n := 8) rfl (by omega) (by omega)) (by decide) (by decide))).trans (congrArg Int32.toInt (ex_21.symm))).trans rfl
      obtain ⟨x_23, ex_23⟩ : ∃ z : Int64, z = x_21.toInt64 := ⟨_, rfl⟩
      refine lv_i2l (v := x_23) hx hb dX1_value_81 ex_23.symm ?_
      have tx_23 : x_23.toInt = x_21.toInt := by rw [ex_23, Int32.toInt_toInt64]
      have lox_23 := (x_21 : Int32).le_toInt
      have hix_23 := (x_21 : Int32).toInt_lt
      refine ti_last (ci := 1) (k := 2) (n := 6) C hw hlw (by decide) (fun _ _ => rfl) (by unfold vp_in; decide) dX1_value_82 (fun H locs hw => ?_)
      obtain ⟨M_24, hM_24⟩ : ∃ z : ti_M, z = uZ M_18 lw 2 (vp_updL (tZ M_18 lw 2) (2 : Int32).toNatClampNeg x_23) := ⟨_, rfl⟩
      have hw := hw.to hM_24.symm
      have iM_24 : cI Tc M_24 := cI_uZ iM_18 hM_24
      have hs_25 : qC q rg M_24 := qC_Z hs_19 hM_24
      have hF_26 : ∀ j : Nat, j < 2 + 1 → (tZ M_24 lw 2 j).toInt = (bq_fa tx rg r_1.toInt ps.toInt) j ∧ -1000000000000 ≤ (bq_fa tx rg r_1.toInt ps.toInt) j ∧ (bq_fa tx rg r_1.toInt ps.toInt) j ≤ 1000000000000 := lz_fa (n := 2) hF_20 hM_24 (by decide) (by show _ = bq_fa _ _ _ _ 2; unfold bq_fa; (repeat (first | rw [if_pos (by omega)] | rw [if_neg (by omega)])); omega) ⟨by omega, by omega⟩
      refine lv_aload_n hx hb dX1_value_83 rfl (lv_at hl 1 rfl) ?_
      refine ti_get (ci := 1) (k := 2) (N := 4) (T := TX1) (v := .ref (A lw 3)) C hw iw_1 rfl hlw (by decide) (by decide) fl_X1_21 rfl rfl dX1_value_84 ?_
      refine lv_iconst (v := 3) hx hb dX1_value_87 (by decide) ?_
      refine lv_aload_n hx hb dX1_value_88 rfl (lv_at hl 2 rfl) ?_
      refine ti_get (ci := 3) (k := 12) (N := 17) (T := TX3) (v := .ref (A q 13)) C hw iw_3 rfl hq (by decide) (by decide) fl_X1_57 rfl rfl dX1_value_89 ?_
      refine lv_iload hx hb dX1_value_92 (lv_at hl 0 rfl) ?_
      refine ti_iald (ci := 3) (k := 12) (n := 8) C hw hq (by decide) (fun _ _ => rfl) (vp_in_iff.mpr (by omega)) dX1_value_94 ?_
      refine lv_topi (fun x_27 ex_27 => ?_)
      have L_28 : rg (192 + r_1.toInt.toNat) = x_27.toInt := qC_y (k := 12) hs_25 rfl (by omega) (by omega) (by decide) (by decide) ex_27
      obtain ⟨x_29, ex_29⟩ : ∃ z : Int64, z = x_27.toInt64 := ⟨_, rfl⟩
      refine lv_i2l (v := x_29) hx hb dX1_value_95 ex_29.symm ?_
      have tx_29 : x_29.toInt = x_27.toInt := by rw [ex_29, Int32.toInt_toInt64]
      have lox_29 := (x_27 : Int32).le_toInt
      have hix_29 := (x_27 : Int32).toInt_lt
      refine ti_last (ci := 1) (k := 2) (n := 6) C hw hlw (by decide) (fun _ _ => rfl) (by unfold vp_in; decide) dX1_value_96 (fun H locs hw => ?_)
      obtain ⟨M_30, hM_30⟩ : ∃ z : ti_M, z = uZ M_24 lw 2 (vp_updL (tZ M_24 lw 2) (3 : Int32).toNatClampNeg x_29) := ⟨_, rfl⟩
      have hw := hw.to hM_30.symm
      have iM_30 : cI Tc M_30 := cI_uZ iM_24 hM_30
      have hs_31 : qC q rg M_30 := qC_Z hs_25 hM_30
      have hF_32 : ∀ j : Nat, j < 3 + 1 → (tZ M_30 lw 2 j).toInt = (bq_fa tx rg r_1.toInt ps.toInt) j ∧ -1000000000000 ≤ (bq_fa tx rg r_1.toInt ps.toInt) j ∧ (bq_fa tx rg r_1.toInt ps.toInt) j ≤ 1000000000000 := lz_fa (n := 3) hF_26 hM_30 (by decide) (by show _ = bq_fa _ _ _ _ 3; unfold bq_fa; (repeat (first | rw [if_pos (by omega)] | rw [if_neg (by omega)])); omega) ⟨by omega, by omega⟩
      refine lv_aload_n hx hb dX1_value_97 rfl (lv_at hl 1 rfl) ?_
      refine ti_get (ci := 1) (k := 2) (N := 4) (T := TX1) (v := .ref (A lw 3)) C hw iw_1 rfl hlw (by decide) (by decide) fl_X1_21 rfl rfl dX1_value_98 ?_
      refine lv_iconst (v := 4) hx hb dX1_value_101 (by decide) ?_
      refine lv_iload_n hx hb dX1_value_102 rfl (lv_at hl 4 rfl) ?_
      obtain ⟨x_33, ex_33⟩ : ∃ z : Int64, z = ps.toInt64 := ⟨_, rfl⟩
      refine lv_i2l (v := x_33) hx hb dX1_value_103 ex_33.symm ?_
      have tx_33 : x_33.toInt = ps.toInt := by rw [ex_33, Int32.toInt_toInt64]
      have lox_33 := (ps : Int32).le_toInt
      have hix_33 := (ps : Int32).toInt_lt
      refine ti_last (ci := 1) (k := 2) (n := 6) C hw hlw (by decide) (fun _ _ => rfl) (by unfold vp_in; decide) dX1_value_104 (fun H locs hw => ?_)
      obtain ⟨M_34, hM_34⟩ : ∃ z : ti_M, z = uZ M_30 lw 2 (vp_updL (tZ M_30 lw 2) (4 : Int32).toNatClampNeg x_33) := ⟨_, rfl⟩
      have hw := hw.to hM_34.symm
      have iM_34 : cI Tc M_34 := cI_uZ iM_30 hM_34
      have hs_35 : qC q rg M_34 := qC_Z hs_31 hM_34
      have hF_36 : ∀ j : Nat, j < 4 + 1 → (tZ M_34 lw 2 j).toInt = (bq_fa tx rg r_1.toInt ps.toInt) j ∧ -1000000000000 ≤ (bq_fa tx rg r_1.toInt ps.toInt) j ∧ (bq_fa tx rg r_1.toInt ps.toInt) j ≤ 1000000000000 := lz_fa (n := 4) hF_32 hM_34 (by decide) (by show _ = bq_fa _ _ _ _ 4; unfold bq_fa; (repeat (first | rw [if_pos (by omega)] | rw [if_neg (by omega)])); omega) ⟨by omega, by omega⟩
      refine lv_aload_n hx hb dX1_value_105 rfl (lv_at hl 1 rfl) ?_
      refine ti_get (ci := 1) (k := 2) (N := 4) (T := TX1) (v := .ref (A lw 3)) C hw iw_1 rfl hlw (by decide) (by decide) fl_X1_21 rfl rfl dX1_value_106 ?_
      refine lv_iconst (v := 5) hx hb dX1_value_109 (by decide) ?_
      refine lv_aload_n hx hb dX1_value_110 rfl (lv_at hl 2 rfl) ?_
      refine lv_iload hx hb dX1_value_111 (lv_at hl 0 rfl) ?_
      refine ti_callVi (ci := 3) (av := [.int r_1]) C hw (z_X3_waited l D A cy hJ M_34 iM_34 q hq r_1 (by omega) (by omega) rg hs_35) ⟨ml_X1_60, ym_X3_waited, yv_X3_waited, yi_X3_waited, yc_X3_waited⟩ yd_X3_waited hq (by decide) rfl rfl hl.1 (Nat.le_of_ble_eq_true rfl) ⟨by decide, by decide⟩ ⟨Nat.zero_le _, Nat.zero_le _⟩ dX1_value_113 (fun r_37 M_38 H locs hp_38 hw => ?_)
      obtain ⟨hm, pr_37⟩ := hp_38
      have hw := hw.to hm
      obtain ⟨x_39, ex_39⟩ : ∃ z : Int64, z = r_37.toInt64 := ⟨_, rfl⟩
      refine lv_i2l (v := x_39) hx hb dX1_value_116 ex_39.symm ?_
      have tx_39 : x_39.toInt = r_37.toInt := by rw [ex_39, Int32.toInt_toInt64]
      have lox_39 := (r_37 : Int32).le_toInt
      have hix_39 := (r_37 : Int32).toInt_lt
      refine ti_last (ci := 1) (k := 2) (n := 6) C hw hlw (by decide) (fun _ _ => rfl) (by unfold vp_in; decide) dX1_value_117 (fun H locs hw => ?_)
      obtain ⟨M_40, hM_40⟩ : ∃ z : ti_M, z = uZ M_34 lw 2 (vp_updL (tZ M_34 lw 2) (5 : Int32).toNatClampNeg x_39) := ⟨_, rfl⟩
      have hw := hw.to hM_40.symm
      have iM_40 : cI Tc M_40 := cI_uZ iM_34 hM_40
      have hs_41 : qC q rg M_40 := qC_Z hs_35 hM_40
      have hF_42 : ∀ j : Nat, j < 5 + 1 → (tZ M_40 lw 2 j).toInt = (bq_fa tx rg r_1.toInt ps.toInt) j ∧ -1000000000000 ≤ (bq_fa tx rg r_1.toInt ps.toInt) j ∧ (bq_fa tx rg r_1.toInt ps.toInt) j ≤ 1000000000000 := lz_fa (n := 5) hF_36 hM_40 (by decide) (by show _ = bq_fa _ _ _ _ 5; unfold bq_fa; (repeat (first | rw [if_pos (by omega)] | rw [if_neg (by omega)])); omega) ⟨by omega, by omega⟩
      refine lv_iconst (v := 0) hx hb dX1_value_118 (by decide) ?_
      refine lv_istore (lv' := [(5, .int 0), (4, .int r_1), (0, .ref (A lw 0)), (1, .ref (A q 0)), (2, .int pl), (3, .int ps)]) hx hb dX1_value_119 hl (by decide) rfl (fun ls hl => ?_)
      refine lv_iconst (v := 0) hx hb dX1_value_121 (by decide) ?_
      refine lv_istore (lv' := [(6, .int 0), (5, .int 0), (4, .int r_1), (0, .ref (A lw 0)), (1, .ref (A q 0)), (2, .int pl), (3, .int ps)]) hx hb dX1_value_122 hl (by decide) rfl (fun ls hl => ?_)
      have hl_124_57 : ∀ (n_58 : Nat) (x_43 : Int32) (x_46 : Int32) (M_49 : ti_M) (st_54 : Nat → Int) (H : Heap) (locs : List Loc) (ls : Array Slot), (64 - x_43.toInt : Int).toNat < n_58 → (0 ≤ x_43.toInt) → (x_43.toInt ≤ 64) → (0 ≤ x_46.toInt) → (x_46.toInt ≤ 64) → (cI Tc M_49) → (M_49.2.2.2 = M.2.2.2) → (M_49.1 = M.1) → (M_49.2.1 = M.2.1) → (qC q rg M_49) → (x_46.toInt ≤ x_43.toInt) → (lz lw (bq_fa tx rg r_1.toInt ps.toInt) st_54 (x_46.toInt) M_49) → (bl_rn co (bq_fa tx rg r_1.toInt ps.toInt) (x_4.toInt.toNat - (x_43.toInt).toNat) (x_43.toInt).toNat (x_46.toInt).toNat st_54 = bl_rn co (bq_fa tx rg r_1.toInt ps.toInt) len.toNat 0 0 (fun _ => 0)) → ti_H ti_LT D A cy H0 M_49 H locs → lv_has ls 10 [(6, .int x_43), (5, .int x_46), (4, .int r_1), (0, .ref (A lw 0)), (1, .ref (A q 0)), (2, .int pl), (3, .int ps)] → W p l e (ti_rm 1) s m args below meth c H locs 0 0 Q (F0 m 124 ls []) := by
        intro n_58
        induction n_58 with
        | zero => intro x_43 x_46 M_49 st_54 H locs ls hf_58; exact absurd hf_58 (Nat.not_lt_zero _)
        | succ n_58 ih_58 =>
          intro x_43 x_46 M_49 st_54 H locs ls hf_58 b_44 b_45 b_47 b_48 iM_49 f_50 f_51 f_52 hs_53 j_55 j_56 j_57 hw hl
          refine lv_iload hx hb dX1_value_124 (lv_at hl 0 rfl) ?_
          refine lv_aload_n hx hb dX1_value_126 rfl (lv_at hl 3 rfl) ?_
          refine ti_get (ci := 1) (k := 3) (N := 4) (T := TX1) C hw iw_1 rfl hlw (by decide) (by decide) fl_X1_24 rfl rfl dX1_value_127 ?_
          refine ti_top (y := x_4) ((tI_fr f_51).trans ex_4.symm) ?_
          have u_59 : (tI M_49 lw 3).toInt = (x_4 : Int32).toInt := by rw [((tI_fr f_51).trans ex_4.symm)]
          refine sb_icmp_ge (tgt := 299) hx hb rfl rfl dX1_value_130 (by decide) (fun c_130_59 => ?_) (fun c_130_59 => ?_)
          · refine lv_iload hx hb dX1_value_299 (lv_at hl 1 rfl) ?_
            refine lv_iconst (v := 1) hx hb dX1_value_301 (by decide) ?_
            refine sb_icmp_ne (tgt := 314) hx hb rfl (by decide : (1 : Int32).toInt = 1) dX1_value_302 (by decide) (fun c_302_139 => ?_) (fun c_302_139 => ?_)
            · refine lv_ldc2 (v := (-9223372036854775808)) hx hb C.2.2.2.1 (C.2.2.1 _ cn_X1_34) dX1_value_314 ?_
              have z_142 : ((-9223372036854775808) : Int64).toInt = -9223372036854775808 := by decide
              exact hQ _ _ _ _ _ _ hw (⟨iM_49, (f_50), (f_51), (f_52), (by unfold vq; rw [if_neg (by omega), ← pr_1, ← j_57, rn_0 (co := co) (fa := (bq_fa tx rg r_1.toInt ps.toInt)) (f := x_4.toInt.toNat - x_43.toInt.toNat) (i := x_43.toInt.toNat) (t := x_46.toInt.toNat) (st := st_54) (by omega), if_neg (by omega)]; decide)⟩) dX1_value_317
            · refine lv_aload_n hx hb dX1_value_305 rfl (lv_at hl 3 rfl) ?_
              refine ti_get (ci := 1) (k := 1) (N := 4) (T := TX1) (v := .ref (A lw 2)) C hw iw_1 rfl hlw (by decide) (by decide) fl_X1_17 rfl rfl dX1_value_306 ?_
              refine lv_iconst (v := 0) hx hb dX1_value_309 (by decide) ?_
              refine ti_lald (ci := 1) (k := 1) (n := 64) C hw hlw (by decide) (fun _ _ => rfl) (by unfold vp_in; decide) dX1_value_310 ?_
              refine lv_topl (fun x_141 ex_141 => ?_)
              have lzx_141 := lz_1 (i := 0) j_56 ex_141 (by decide) (by have : (0 : Int32).toInt = 0 := (by decide); omega)
              rw [show (0 : Int32).toInt.toNat = 0 by decide] at lzx_141
              have lax_141 := lzx_141.1
              have lbx_141 := lzx_141.2.1
              have lcx_141 := lzx_141.2.2
              refine lv_goto (tgt := 317) hx hb dX1_value_311 (by decide) ?_
              exact hQ _ _ _ _ _ _ hw (⟨iM_49, (f_50), (f_51), (f_52), (by unfold vq; rw [if_neg (by omega), ← pr_1, ← j_57, rn_0 (co := co) (fa := (bq_fa tx rg r_1.toInt ps.toInt)) (f := x_4.toInt.toNat - x_43.toInt.toNat) (i := x_43.toInt.toNat) (t := x_46.toInt.toNat) (st := st_54) (by omega), if_pos (by omega)]; exact lax_141)⟩) dX1_value_317
          · refine lv_aload_n hx hb dX1_value_133 rfl (lv_at hl 3 rfl) ?_
            refine ti_get (ci := 1) (k := 0) (N := 4) (T := TX1) (v := .ref (A lw 1)) C hw iw_1 rfl hlw (by decide) (by decide) fl_X1_11 rfl rfl dX1_value_134 ?_
            refine lv_iload hx hb dX1_value_137 (lv_at hl 0 rfl) ?_
            refine ti_iald (ci := 1) (k := 0) (n := 64) C hw hlw (by decide) (fun _ _ => rfl) (vp_in_iff.mpr (by omega)) dX1_value_139 ?_
            refine lv_topi (fun x_61 ex_61 => ?_)
            have kx_61 : 0 ≤ x_61.toInt ∨ x_61.toInt ≤ -16 := cI_ry iM_49 hlw.1 ex_61
            have kcx_61 : co x_43.toInt.toNat = x_61.toInt := co_y hco (f_52) ex_61 (by omega) (by omega)
            refine lv_istore (lv' := [(7, .int x_61), (6, .int x_43), (5, .int x_46), (4, .int r_1), (0, .ref (A lw 0)), (1, .ref (A q 0)), (2, .int pl), (3, .int ps)]) hx hb dX1_value_140 hl (by decide) rfl (fun ls hl => ?_)
            refine lv_iload hx hb dX1_value_142 (lv_at hl 0 rfl) ?_
            refine lv_bipush (v := (-21)) hx hb dX1_value_144 (by decide) ?_
            refine sb_icmp_lt (tgt := 184) hx hb rfl (by decide : ((-21) : Int32).toInt = (-21)) dX1_value_146 (by decide) (fun c_146_61 => ?_) (fun c_146_61 => ?_)
            · refine lv_iload hx hb dX1_value_184 (lv_at hl 0 rfl) ?_
              refine lv_bipush (v := (-24)) hx hb dX1_value_186 (by decide) ?_
              refine sb_icmp_ne (tgt := 227) hx hb rfl (by decide : ((-24) : Int32).toInt = (-24)) dX1_value_188 (by decide) (fun c_188_75 => ?_) (fun c_188_75 => ?_)
              · refine lv_iload hx hb dX1_value_227 (lv_at hl 2 rfl) ?_
                refine lv_iconst (v := 1) hx hb dX1_value_229 (by decide) ?_
                refine sb_icmp_le (tgt := 293) hx hb rfl (by decide : (1 : Int32).toInt = 1) dX1_value_230 (by decide) (fun c_230_91 => ?_) (fun c_230_91 => ?_)
                · obtain ⟨x_136, ex_136⟩ : ∃ z : Int32, z = x_43 + 1 := ⟨_, rfl⟩
                  have tx_136 : x_136.toInt = x_43.toInt + 1 := i_add ex_136 rfl (by decide) (by omega) (by omega)
                  refine lv_iinc (v := x_136) (lv' := [(6, .int x_136), (7, .int x_61), (5, .int x_46), (4, .int r_1), (0, .ref (A lw 0)), (1, .ref (A q 0)), (2, .int pl), (3, .int ps)]) hx hb dX1_value_293 hl (k := 1) rfl (by rw [ex_136]; rfl) (by decide) rfl (fun ls hl => ?_)
                  refine lv_goto (tgt := 124) hx hb dX1_value_296 (by decide) ?_
                  exact ih_58 x_136 x_46 M_49 st_54 _ _ _ (by omega) (by first | omega | decide) (by first | omega | decide) (by first | omega | decide) (by first | omega | decide) iM_49 (f_50) (f_51) (f_52) hs_53 (by first | omega | decide) j_56 (by have ce : co x_43.toInt.toNat = x_61.toInt := kcx_61; rw [← j_57]; rw [rn_s (co := co) (fa := (bq_fa tx rg r_1.toInt ps.toInt)) (f := x_4.toInt.toNat - x_43.toInt.toNat) (i := x_43.toInt.toNat) (t := x_46.toInt.toNat) (st := st_54) (f' := (x_4.toInt.toNat - x_136.toInt.toNat)) (by omega) ⟨by omega, by omega, by omega⟩, show x_136.toInt.toNat = x_43.toInt.toNat + 1 by omega]) hw (lv_sub hl [0, 2, 3, 4, 5, 6, 7] rfl)
                · obtain ⟨x_94, ex_94⟩ : ∃ z : Int32, z = x_46 + (-1) := ⟨_, rfl⟩
                  have tx_94 : x_94.toInt = x_46.toInt + (-1) := i_add ex_94 rfl (by decide) (by omega) (by omega)
                  refine lv_iinc (v := x_94) (lv' := [(5, .int x_94), (7, .int x_61), (6, .int x_43), (4, .int r_1), (0, .ref (A lw 0)), (1, .ref (A q 0)), (2, .int pl), (3, .int ps)]) hx hb dX1_value_233 hl (k := 2) rfl (by rw [ex_94]; rfl) (by decide) rfl (fun ls hl => ?_)
                  refine lv_iload hx hb dX1_value_236 (lv_at hl 1 rfl) ?_
                  refine lv_ineg hx hb dX1_value_238 ?_
                  refine lv_topi (fun x_95 ex_95 => ?_)
                  refine lv_aload_n hx hb dX1_value_239 rfl (lv_at hl 4 rfl) ?_
                  refine ti_get (ci := 1) (k := 1) (N := 4) (T := TX1) (v := .ref (A lw 2)) C hw iw_1 rfl hlw (by decide) (by decide) fl_X1_17 rfl rfl dX1_value_240 ?_
                  refine lv_iload hx hb dX1_value_243 (lv_at hl 0 rfl) ?_
                  refine lv_iconst (v := 1) hx hb dX1_value_245 (by decide) ?_
                  refine lv_isub hx hb dX1_value_246 ?_
                  refine lv_topi (fun x_96 ex_96 => ?_)
                  have tx_96 : x_96.toInt = x_94.toInt - 1 := i_sub ex_96 rfl (by decide : (1 : Int32).toInt = 1) (by omega) (by omega)
                  refine ti_lald (ci := 1) (k := 1) (n := 64) C hw hlw (by decide) (fun _ _ => rfl) (vp_in_iff.mpr (by omega)) dX1_value_247 ?_
                  refine lv_topl (fun x_97 ex_97 => ?_)
                  have lzx_97 := lz_1 j_56 ex_97 (by omega) (by omega)
                  have lax_97 := lzx_97.1
                  have lbx_97 := lzx_97.2.1
                  have lcx_97 := lzx_97.2.2
                  refine lv_aload_n hx hb dX1_value_248 rfl (lv_at hl 4 rfl) ?_
                  refine ti_get (ci := 1) (k := 1) (N := 4) (T := TX1) (v := .ref (A lw 2)) C hw iw_1 rfl hlw (by decide) (by decide) fl_X1_17 rfl rfl dX1_value_249 ?_
                  refine lv_iload hx hb dX1_value_252 (lv_at hl 0 rfl) ?_
                  refine ti_lald (ci := 1) (k := 1) (n := 64) C hw hlw (by decide) (fun _ _ => rfl) (vp_in_iff.mpr (by omega)) dX1_value_254 ?_
                  refine lv_topl (fun x_98 ex_98 => ?_)
                  have lzx_98 := lz_1 j_56 ex_98 (by omega) (by omega)
                  have lax_98 := lzx_98.1
                  have lbx_98 := lzx_98.2.1
                  have lcx_98 := lzx_98.2.2
                  refine ti_callSl (av := [.int x_95, .long x_97, .long x_98]) C hw (z_X1_work l D A cy hJ M_49 iM_49 x_95 x_97 x_98 (by omega) (by omega) (by omega) (by omega)) ⟨ml_X1_63, ys_X1_work, yi_X1_work, yc_X1_work⟩ yd_X1_work rfl hl.1 (Nat.le_of_ble_eq_true rfl) ⟨by decide, by decide⟩ ⟨Nat.zero_le _, Nat.zero_le _⟩ dX1_value_255 (fun r_99 M_100 H locs hp_100 hw => ?_)
                  obtain ⟨hm, pr_99⟩ := hp_100
                  have hw := hw.to hm
                  refine lv_lstore (lv' := [(8, .long r_99), (5, .int x_94), (7, .int x_61), (6, .int x_43), (4, .int r_1), (0, .ref (A lw 0)), (1, .ref (A q 0)), (2, .int pl), (3, .int ps)]) hx hb dX1_value_258 hl (by decide) rfl (fun ls hl => ?_)
                  refine lv_lload hx hb dX1_value_260 (lv_at hl 0 rfl) ?_
                  refine lv_ldc2 (v := 1000000000000) hx hb C.2.2.2.1 (C.2.2.1 _ cn_X1_67) dX1_value_262 ?_
                  have z_101 : (1000000000000 : Int64).toInt = 1000000000000 := by decide
                  refine W.lcmp hx hb dX1_value_265 ?_
                  refine lv_topi (fun x_102 ex_102 => ?_)
                  have cx_102 := lg_c ex_102
                  refine sb_if_gt (tgt := 278) hx hb rfl dX1_value_266 (by decide) (fun c_266_102 => ?_) (fun c_266_102 => ?_)
                  · refine lv_ldc2 (v := (-9223372036854775808)) hx hb C.2.2.2.1 (C.2.2.1 _ cn_X1_34) dX1_value_278 ?_
                    have z_120 : ((-9223372036854775808) : Int64).toInt = -9223372036854775808 := by decide
                    exact hQ _ _ _ _ _ _ hw (⟨iM_49, (f_50), (f_51), (f_52), (by have ce : co x_43.toInt.toNat = x_61.toInt := kcx_61; have we : bl_w (-(co x_43.toInt.toNat)) (st_54 (x_46.toInt.toNat - 2)) (st_54 (x_46.toInt.toNat - 1)) = r_99.toInt := (by rw [pr_99, bl_wn ex_95, kcx_61, show x_97.toInt = st_54 (x_46.toInt.toNat - 2) by (rw [lax_97]; exact congrArg _ (by omega)), show x_98.toInt = st_54 (x_46.toInt.toNat - 1) by (rw [lax_98]; exact congrArg _ (by omega))]); unfold vq; rw [if_neg (by omega), ← pr_1, ← j_57, rn_x (co := co) (fa := (bq_fa tx rg r_1.toInt ps.toInt)) (f := x_4.toInt.toNat - x_43.toInt.toNat) (i := x_43.toInt.toNat) (t := x_46.toInt.toNat) (st := st_54) (f' := x_4.toInt.toNat - x_43.toInt.toNat - 1) (by omega) ⟨by omega, by omega, by omega⟩ (by rw [we]; omega)]; decide)⟩) dX1_value_281
                  · refine lv_lload hx hb dX1_value_269 (lv_at hl 0 rfl) ?_
                    refine lv_ldc2 (v := (-1000000000000)) hx hb C.2.2.2.1 (C.2.2.1 _ cn_X1_69) dX1_value_271 ?_
                    have z_114 : ((-1000000000000) : Int64).toInt = -1000000000000 := by decide
                    refine W.lcmp hx hb dX1_value_274 ?_
                    refine lv_topi (fun x_115 ex_115 => ?_)
                    have cx_115 := lg_c ex_115
                    refine sb_if_ge (tgt := 282) hx hb rfl dX1_value_275 (by decide) (fun c_275_115 => ?_) (fun c_275_115 => ?_)
                    · refine lv_aload_n hx hb dX1_value_282 rfl (lv_at hl 5 rfl) ?_
                      refine ti_get (ci := 1) (k := 1) (N := 4) (T := TX1) (v := .ref (A lw 2)) C hw iw_1 rfl hlw (by decide) (by decide) fl_X1_17 rfl rfl dX1_value_283 ?_
                      refine lv_iload hx hb dX1_value_286 (lv_at hl 1 rfl) ?_
                      refine lv_iconst (v := 1) hx hb dX1_value_288 (by decide) ?_
                      refine lv_isub hx hb dX1_value_289 ?_
                      refine lv_topi (fun x_124 ex_124 => ?_)
                      have tx_124 : x_124.toInt = x_94.toInt - 1 := i_sub ex_124 rfl (by decide : (1 : Int32).toInt = 1) (by omega) (by omega)
                      refine lv_lload hx hb dX1_value_290 (lv_at hl 0 rfl) ?_
                      refine ti_last (ci := 1) (k := 1) (n := 64) C hw hlw (by decide) (fun _ _ => rfl) (vp_in_iff.mpr (by omega)) dX1_value_292 (fun H locs hw => ?_)
                      obtain ⟨M_125, hM_125⟩ : ∃ z : ti_M, z = uZ M_49 lw 1 (vp_updL (tZ M_49 lw 1) (x_124 : Int32).toNatClampNeg r_99) := ⟨_, rfl⟩
                      have hw := hw.to hM_125.symm
                      have iM_125 : cI Tc M_125 := cI_uZ iM_49 hM_125
                      have hs_126 : qC q rg M_125 := qC_Z hs_53 hM_125
                      have hz_127 : lz lw (bq_fa tx rg r_1.toInt ps.toInt) (pp_su st_54 x_124.toInt.toNat r_99.toInt) x_94.toInt M_125 := lz_up j_56 hM_125 rfl (by omega) rfl ⟨by omega, by omega⟩ (fun j hj => by omega)
                      obtain ⟨x_138, ex_138⟩ : ∃ z : Int32, z = x_43 + 1 := ⟨_, rfl⟩
                      have tx_138 : x_138.toInt = x_43.toInt + 1 := i_add ex_138 rfl (by decide) (by omega) (by omega)
                      refine lv_iinc (v := x_138) (lv' := [(6, .int x_138), (8, .long r_99), (5, .int x_94), (7, .int x_61), (4, .int r_1), (0, .ref (A lw 0)), (1, .ref (A q 0)), (2, .int pl), (3, .int ps)]) hx hb dX1_value_293 hl (k := 3) rfl (by rw [ex_138]; rfl) (by decide) rfl (fun ls hl => ?_)
                      refine lv_goto (tgt := 124) hx hb dX1_value_296 (by decide) ?_
                      exact ih_58 x_138 x_94 M_125 (pp_su st_54 x_124.toInt.toNat r_99.toInt) _ _ _ (by omega) (by first | omega | decide) (by first | omega | decide) (by first | omega | decide) (by first | omega | decide) iM_125 ((rf_Z hM_125).trans f_50) ((ra_Z hM_125).trans f_51) ((ry_Z hM_125).trans f_52) hs_126 (by first | omega | decide) hz_127 (by have ce : co x_43.toInt.toNat = x_61.toInt := kcx_61; rw [← j_57]; have we : bl_w (-(co x_43.toInt.toNat)) (st_54 (x_46.toInt.toNat - 2)) (st_54 (x_46.toInt.toNat - 1)) = r_99.toInt := (by rw [pr_99, bl_wn ex_95, kcx_61, show x_97.toInt = st_54 (x_46.toInt.toNat - 2) by (rw [lax_97]; exact congrArg _ (by omega)), show x_98.toInt = st_54 (x_46.toInt.toNat - 1) by (rw [lax_98]; exact congrArg _ (by omega))]); rw [rn_b (co := co) (fa := (bq_fa tx rg r_1.toInt ps.toInt)) (f := x_4.toInt.toNat - x_43.toInt.toNat) (i := x_43.toInt.toNat) (t := x_46.toInt.toNat) (st := st_54) (f' := (x_4.toInt.toNat - x_138.toInt.toNat)) (by omega) ⟨by omega, by omega, by omega⟩ (by rw [we]; omega), we, show x_46.toInt.toNat - 2 = x_124.toInt.toNat by omega, show x_46.toInt.toNat - 1 = x_94.toInt.toNat by omega, show x_138.toInt.toNat = x_43.toInt.toNat + 1 by omega]) hw (lv_sub hl [0, 2, 4, 5, 6, 7, 8] rfl)
                    · refine lv_ldc2 (v := (-9223372036854775808)) hx hb C.2.2.2.1 (C.2.2.1 _ cn_X1_34) dX1_value_278 ?_
                      have z_122 : ((-9223372036854775808) : Int64).toInt = -9223372036854775808 := by decide
                      exact hQ _ _ _ _ _ _ hw (⟨iM_49, (f_50), (f_51), (f_52), (by have ce : co x_43.toInt.toNat = x_61.toInt := kcx_61; have we : bl_w (-(co x_43.toInt.toNat)) (st_54 (x_46.toInt.toNat - 2)) (st_54 (x_46.toInt.toNat - 1)) = r_99.toInt := (by rw [pr_99, bl_wn ex_95, kcx_61, show x_97.toInt = st_54 (x_46.toInt.toNat - 2) by (rw [lax_97]; exact congrArg _ (by omega)), show x_98.toInt = st_54 (x_46.toInt.toNat - 1) by (rw [lax_98]; exact congrArg _ (by omega))]); unfold vq; rw [if_neg (by omega), ← pr_1, ← j_57, rn_x (co := co) (fa := (bq_fa tx rg r_1.toInt ps.toInt)) (f := x_4.toInt.toNat - x_43.toInt.toNat) (i := x_43.toInt.toNat) (t := x_46.toInt.toNat) (st := st_54) (f' := x_4.toInt.toNat - x_43.toInt.toNat - 1) (by omega) ⟨by omega, by omega, by omega⟩ (by rw [we]; omega)]; decide)⟩) dX1_value_281
              · refine lv_iload hx hb dX1_value_191 (lv_at hl 2 rfl) ?_
                refine sb_if_le (tgt := 227) hx hb rfl dX1_value_193 (by decide) (fun c_193_76 => ?_) (fun c_193_76 => ?_)
                · refine lv_iload hx hb dX1_value_227 (lv_at hl 2 rfl) ?_
                  refine lv_iconst (v := 1) hx hb dX1_value_229 (by decide) ?_
                  refine sb_icmp_le (tgt := 293) hx hb rfl (by decide : (1 : Int32).toInt = 1) dX1_value_230 (by decide) (fun c_230_92 => ?_) (fun c_230_92 => ?_)
                  · obtain ⟨x_137, ex_137⟩ : ∃ z : Int32, z = x_43 + 1 := ⟨_, rfl⟩
                    have tx_137 : x_137.toInt = x_43.toInt + 1 := i_add ex_137 rfl (by decide) (by omega) (by omega)
                    refine lv_iinc (v := x_137) (lv' := [(6, .int x_137), (7, .int x_61), (5, .int x_46), (4, .int r_1), (0, .ref (A lw 0)), (1, .ref (A q 0)), (2, .int pl), (3, .int ps)]) hx hb dX1_value_293 hl (k := 1) rfl (by rw [ex_137]; rfl) (by decide) rfl (fun ls hl => ?_)
                    refine lv_goto (tgt := 124) hx hb dX1_value_296 (by decide) ?_
                    exact ih_58 x_137 x_46 M_49 st_54 _ _ _ (by omega) (by first | omega | decide) (by first | omega | decide) (by first | omega | decide) (by first | omega | decide) iM_49 (f_50) (f_51) (f_52) hs_53 (by first | omega | decide) j_56 (by have ce : co x_43.toInt.toNat = x_61.toInt := kcx_61; rw [← j_57]; rw [rn_s (co := co) (fa := (bq_fa tx rg r_1.toInt ps.toInt)) (f := x_4.toInt.toNat - x_43.toInt.toNat) (i := x_43.toInt.toNat) (t := x_46.toInt.toNat) (st := st_54) (f' := (x_4.toInt.toNat - x_137.toInt.toNat)) (by omega) ⟨by omega, by omega, by omega⟩, show x_137.toInt.toNat = x_43.toInt.toNat + 1 by omega]) hw (lv_sub hl [0, 2, 3, 4, 5, 6, 7] rfl)
                  · obtain ⟨x_104, ex_104⟩ : ∃ z : Int32, z = x_46 + (-1) := ⟨_, rfl⟩
                    have tx_104 : x_104.toInt = x_46.toInt + (-1) := i_add ex_104 rfl (by decide) (by omega) (by omega)
                    refine lv_iinc (v := x_104) (lv' := [(5, .int x_104), (7, .int x_61), (6, .int x_43), (4, .int r_1), (0, .ref (A lw 0)), (1, .ref (A q 0)), (2, .int pl), (3, .int ps)]) hx hb dX1_value_233 hl (k := 2) rfl (by rw [ex_104]; rfl) (by decide) rfl (fun ls hl => ?_)
                    refine lv_iload hx hb dX1_value_236 (lv_at hl 1 rfl) ?_
                    refine lv_ineg hx hb dX1_value_238 ?_
                    refine lv_topi (fun x_105 ex_105 => ?_)
                    refine lv_aload_n hx hb dX1_value_239 rfl (lv_at hl 4 rfl) ?_
                    refine ti_get (ci := 1) (k := 1) (N := 4) (T := TX1) (v := .ref (A lw 2)) C hw iw_1 rfl hlw (by decide) (by decide) fl_X1_17 rfl rfl dX1_value_240 ?_
                    refine lv_iload hx hb dX1_value_243 (lv_at hl 0 rfl) ?_
                    refine lv_iconst (v := 1) hx hb dX1_value_245 (by decide) ?_
                    refine lv_isub hx hb dX1_value_246 ?_
                    refine lv_topi (fun x_106 ex_106 => ?_)
                    have tx_106 : x_106.toInt = x_104.toInt - 1 := i_sub ex_106 rfl (by decide : (1 : Int32).toInt = 1) (by omega) (by omega)
                    refine ti_lald (ci := 1) (k := 1) (n := 64) C hw hlw (by decide) (fun _ _ => rfl) (vp_in_iff.mpr (by omega)) dX1_value_247 ?_
                    refine lv_topl (fun x_107 ex_107 => ?_)
                    have lzx_107 := lz_1 j_56 ex_107 (by omega) (by omega)
                    have lax_107 := lzx_107.1
                    have lbx_107 := lzx_107.2.1
                    have lcx_107 := lzx_107.2.2
                    refine lv_aload_n hx hb dX1_value_248 rfl (lv_at hl 4 rfl) ?_
                    refine ti_get (ci := 1) (k := 1) (N := 4) (T := TX1) (v := .ref (A lw 2)) C hw iw_1 rfl hlw (by decide) (by decide) fl_X1_17 rfl rfl dX1_value_249 ?_
                    refine lv_iload hx hb dX1_value_252 (lv_at hl 0 rfl) ?_
                    refine ti_lald (ci := 1) (k := 1) (n := 64) C hw hlw (by decide) (fun _ _ => rfl) (vp_in_iff.mpr (by omega)) dX1_value_254 ?_
                    refine lv_topl (fun x_108 ex_108 => ?_)
                    have lzx_108 := lz_1 j_56 ex_108 (by omega) (by omega)
                    have lax_108 := lzx_108.1
                    have lbx_108 := lzx_108.2.1
                    have lcx_108 := lzx_108.2.2
                    refine ti_callSl (av := [.int x_105, .long x_107, .long x_108]) C hw (z_X1_work l D A cy hJ M_49 iM_49 x_105 x_107 x_108 (by omega) (by omega) (by omega) (by omega)) ⟨ml_X1_63, ys_X1_work, yi_X1_work, yc_X1_work⟩ yd_X1_work rfl hl.1 (Nat.le_of_ble_eq_true rfl) ⟨by decide, by decide⟩ ⟨Nat.zero_le _, Nat.zero_le _⟩ dX1_value_255 (fun r_109 M_110 H locs hp_110 hw => ?_)
                    obtain ⟨hm, pr_109⟩ := hp_110
                    have hw := hw.to hm
                    refine lv_lstore (lv' := [(8, .long r_109), (5, .int x_104), (7, .int x_61), (6, .int x_43), (4, .int r_1), (0, .ref (A lw 0)), (1, .ref (A q 0)), (2, .int pl), (3, .int ps)]) hx hb dX1_value_258 hl (by decide) rfl (fun ls hl => ?_)
                    refine lv_lload hx hb dX1_value_260 (lv_at hl 0 rfl) ?_
                    refine lv_ldc2 (v := 1000000000000) hx hb C.2.2.2.1 (C.2.2.1 _ cn_X1_67) dX1_value_262 ?_
                    have z_111 : (1000000000000 : Int64).toInt = 1000000000000 := by decide
                    refine W.lcmp hx hb dX1_value_265 ?_
                    refine lv_topi (fun x_112 ex_112 => ?_)
                    have cx_112 := lg_c ex_112
                    refine sb_if_gt (tgt := 278) hx hb rfl dX1_value_266 (by decide) (fun c_266_112 => ?_) (fun c_266_112 => ?_)
                    · refine lv_ldc2 (v := (-9223372036854775808)) hx hb C.2.2.2.1 (C.2.2.1 _ cn_X1_34) dX1_value_278 ?_
                      have z_121 : ((-9223372036854775808) : Int64).toInt = -9223372036854775808 := by decide
                      exact hQ _ _ _ _ _ _ hw (⟨iM_49, (f_50), (f_51), (f_52), (by have ce : co x_43.toInt.toNat = x_61.toInt := kcx_61; have we : bl_w (-(co x_43.toInt.toNat)) (st_54 (x_46.toInt.toNat - 2)) (st_54 (x_46.toInt.toNat - 1)) = r_109.toInt := (by rw [pr_109, bl_wn ex_105, kcx_61, show x_107.toInt = st_54 (x_46.toInt.toNat - 2) by (rw [lax_107]; exact congrArg _ (by omega)), show x_108.toInt = st_54 (x_46.toInt.toNat - 1) by (rw [lax_108]; exact congrArg _ (by omega))]); unfold vq; rw [if_neg (by omega), ← pr_1, ← j_57, rn_x (co := co) (fa := (bq_fa tx rg r_1.toInt ps.toInt)) (f := x_4.toInt.toNat - x_43.toInt.toNat) (i := x_43.toInt.toNat) (t := x_46.toInt.toNat) (st := st_54) (f' := x_4.toInt.toNat - x_43.toInt.toNat - 1) (by omega) ⟨by omega, by omega, by omega⟩ (by rw [we]; omega)]; decide)⟩) dX1_value_281
                    · refine lv_lload hx hb dX1_value_269 (lv_at hl 0 rfl) ?_
                      refine lv_ldc2 (v := (-1000000000000)) hx hb C.2.2.2.1 (C.2.2.1 _ cn_X1_69) dX1_value_271 ?_
                      have z_117 : ((-1000000000000) : Int64).toInt = -1000000000000 := by decide
                      refine W.lcmp hx hb dX1_value_274 ?_
                      refine lv_topi (fun x_118 ex_118 => ?_)
                      have cx_118 := lg_c ex_118
                      refine sb_if_ge (tgt := 282) hx hb rfl dX1_value_275 (by decide) (fun c_275_118 => ?_) (fun c_275_118 => ?_)
                      · refine lv_aload_n hx hb dX1_value_282 rfl (lv_at hl 5 rfl) ?_
                        refine ti_get (ci := 1) (k := 1) (N := 4) (T := TX1) (v := .ref (A lw 2)) C hw iw_1 rfl hlw (by decide) (by decide) fl_X1_17 rfl rfl dX1_value_283 ?_
                        refine lv_iload hx hb dX1_value_286 (lv_at hl 1 rfl) ?_
                        refine lv_iconst (v := 1) hx hb dX1_value_288 (by decide) ?_
                        refine lv_isub hx hb dX1_value_289 ?_
                        refine lv_topi (fun x_128 ex_128 => ?_)
                        have tx_128 : x_128.toInt = x_104.toInt - 1 := i_sub ex_128 rfl (by decide : (1 : Int32).toInt = 1) (by omega) (by omega)
                        refine lv_lload hx hb dX1_value_290 (lv_at hl 0 rfl) ?_
                        refine ti_last (ci := 1) (k := 1) (n := 64) C hw hlw (by decide) (fun _ _ => rfl) (vp_in_iff.mpr (by omega)) dX1_value_292 (fun H locs hw => ?_)
                        obtain ⟨M_129, hM_129⟩ : ∃ z : ti_M, z = uZ M_49 lw 1 (vp_updL (tZ M_49 lw 1) (x_128 : Int32).toNatClampNeg r_109) := ⟨_, rfl⟩
                        have hw := hw.to hM_129.symm
                        have iM_129 : cI Tc M_129 := cI_uZ iM_49 hM_129
                        have hs_130 : qC q rg M_129 := qC_Z hs_53 hM_129
                        have hz_131 : lz lw (bq_fa tx rg r_1.toInt ps.toInt) (pp_su st_54 x_128.toInt.toNat r_109.toInt) x_104.toInt M_129 := lz_up j_56 hM_129 rfl (by omega) rfl ⟨by omega, by omega⟩ (fun j hj => by omega)
                        obtain ⟨x_139, ex_139⟩ : ∃ z : Int32, z = x_43 + 1 := ⟨_, rfl⟩
                        have tx_139 : x_139.toInt = x_43.toInt + 1 := i_add ex_139 rfl (by decide) (by omega) (by omega)
                        refine lv_iinc (v := x_139) (lv' := [(6, .int x_139), (8, .long r_109), (5, .int x_104), (7, .int x_61), (4, .int r_1), (0, .ref (A lw 0)), (1, .ref (A q 0)), (2, .int pl), (3, .int ps)]) hx hb dX1_value_293 hl (k := 3) rfl (by rw [ex_139]; rfl) (by decide) rfl (fun ls hl => ?_)
                        refine lv_goto (tgt := 124) hx hb dX1_value_296 (by decide) ?_
                        exact ih_58 x_139 x_104 M_129 (pp_su st_54 x_128.toInt.toNat r_109.toInt) _ _ _ (by omega) (by first | omega | decide) (by first | omega | decide) (by first | omega | decide) (by first | omega | decide) iM_129 ((rf_Z hM_129).trans f_50) ((ra_Z hM_129).trans f_51) ((ry_Z hM_129).trans f_52) hs_130 (by first | omega | decide) hz_131 (by have ce : co x_43.toInt.toNat = x_61.toInt := kcx_61; rw [← j_57]; have we : bl_w (-(co x_43.toInt.toNat)) (st_54 (x_46.toInt.toNat - 2)) (st_54 (x_46.toInt.toNat - 1)) = r_109.toInt := (by rw [pr_109, bl_wn ex_105, kcx_61, show x_107.toInt = st_54 (x_46.toInt.toNat - 2) by (rw [lax_107]; exact congrArg _ (by omega)), show x_108.toInt = st_54 (x_46.toInt.toNat - 1) by (rw [lax_108]; exact congrArg _ (by omega))]); rw [rn_b (co := co) (fa := (bq_fa tx rg r_1.toInt ps.toInt)) (f := x_4.toInt.toNat - x_43.toInt.toNat) (i := x_43.toInt.toNat) (t := x_46.toInt.toNat) (st := st_54) (f' := (x_4.toInt.toNat - x_139.toInt.toNat)) (by omega) ⟨by omega, by omega, by omega⟩ (by rw [we]; omega), we, show x_46.toInt.toNat - 2 = x_128.toInt.toNat by omega, show x_46.toInt.toNat - 1 = x_104.toInt.toNat by omega, show x_139.toInt.toNat = x_43.toInt.toNat + 1 by omega]) hw (lv_sub hl [0, 2, 4, 5, 6, 7, 8] rfl)
                      · refine lv_ldc2 (v := (-9223372036854775808)) hx hb C.2.2.2.1 (C.2.2.1 _ cn_X1_34) dX1_value_278 ?_
                        have z_123 : ((-9223372036854775808) : Int64).toInt = -9223372036854775808 := by decide
                        exact hQ _ _ _ _ _ _ hw (⟨iM_49, (f_50), (f_51), (f_52), (by have ce : co x_43.toInt.toNat = x_61.toInt := kcx_61; have we : bl_w (-(co x_43.toInt.toNat)) (st_54 (x_46.toInt.toNat - 2)) (st_54 (x_46.toInt.toNat - 1)) = r_109.toInt := (by rw [pr_109, bl_wn ex_105, kcx_61, show x_107.toInt = st_54 (x_46.toInt.toNat - 2) by (rw [lax_107]; exact congrArg _ (by omega)), show x_108.toInt = st_54 (x_46.toInt.toNat - 1) by (rw [lax_108]; exact congrArg _ (by omega))]); unfold vq; rw [if_neg (by omega), ← pr_1, ← j_57, rn_x (co := co) (fa := (bq_fa tx rg r_1.toInt ps.toInt)) (f := x_4.toInt.toNat - x_43.toInt.toNat) (i := x_43.toInt.toNat) (t := x_46.toInt.toNat) (st := st_54) (f' := x_4.toInt.toNat - x_43.toInt.toNat - 1) (by omega) ⟨by omega, by omega, by omega⟩ (by rw [we]; omega)]; decide)⟩) dX1_value_281
                · refine lv_aload_n hx hb dX1_value_196 rfl (lv_at hl 4 rfl) ?_
                  refine ti_get (ci := 1) (k := 1) (N := 4) (T := TX1) (v := .ref (A lw 2)) C hw iw_1 rfl hlw (by decide) (by decide) fl_X1_17 rfl rfl dX1_value_197 ?_
                  refine lv_iload hx hb dX1_value_200 (lv_at hl 2 rfl) ?_
                  refine lv_iconst (v := 1) hx hb dX1_value_202 (by decide) ?_
                  refine lv_isub hx hb dX1_value_203 ?_
                  refine lv_topi (fun x_78 ex_78 => ?_)
                  have tx_78 : x_78.toInt = x_46.toInt - 1 := i_sub ex_78 rfl (by decide : (1 : Int32).toInt = 1) (by omega) (by omega)
                  refine lv_aload_n hx hb dX1_value_204 rfl (lv_at hl 4 rfl) ?_
                  refine ti_get (ci := 1) (k := 1) (N := 4) (T := TX1) (v := .ref (A lw 2)) C hw iw_1 rfl hlw (by decide) (by decide) fl_X1_17 rfl rfl dX1_value_205 ?_
                  refine lv_iload hx hb dX1_value_208 (lv_at hl 2 rfl) ?_
                  refine lv_iconst (v := 1) hx hb dX1_value_210 (by decide) ?_
                  refine lv_isub hx hb dX1_value_211 ?_
                  refine lv_topi (fun x_79 ex_79 => ?_)
                  have tx_79 : x_79.toInt = x_46.toInt - 1 := i_sub ex_79 rfl (by decide : (1 : Int32).toInt = 1) (by omega) (by omega)
                  refine ti_lald (ci := 1) (k := 1) (n := 64) C hw hlw (by decide) (fun _ _ => rfl) (vp_in_iff.mpr (by omega)) dX1_value_212 ?_
                  refine lv_topl (fun x_80 ex_80 => ?_)
                  have lzx_80 := lz_1 j_56 ex_80 (by omega) (by omega)
                  have lax_80 := lzx_80.1
                  have lbx_80 := lzx_80.2.1
                  have lcx_80 := lzx_80.2.2
                  refine lv_lconst (v := 0) hx hb dX1_value_213 (by decide) ?_
                  have z_81 : (0 : Int64).toInt = 0 := by decide
                  refine W.lcmp hx hb dX1_value_214 ?_
                  refine lv_topi (fun x_82 ex_82 => ?_)
                  have cx_82 := lg_c ex_82
                  refine sb_if_ne (tgt := 222) hx hb rfl dX1_value_215 (by decide) (fun c_215_82 => ?_) (fun c_215_82 => ?_)
                  · refine lv_lconst (v := 0) hx hb dX1_value_222 (by decide) ?_
                    have z_85 : (0 : Int64).toInt = 0 := by decide
                    refine ti_last (ci := 1) (k := 1) (n := 64) C hw hlw (by decide) (fun _ _ => rfl) (vp_in_iff.mpr (by omega)) dX1_value_223 (fun H locs hw => ?_)
                    obtain ⟨M_89, hM_89⟩ : ∃ z : ti_M, z = uZ M_49 lw 1 (vp_updL (tZ M_49 lw 1) (x_78 : Int32).toNatClampNeg 0) := ⟨_, rfl⟩
                    have hw := hw.to hM_89.symm
                    have iM_89 : cI Tc M_89 := cI_uZ iM_49 hM_89
                    have hs_90 : qC q rg M_89 := qC_Z hs_53 hM_89
                    have hz_91 : lz lw (bq_fa tx rg r_1.toInt ps.toInt) (pp_su st_54 x_78.toInt.toNat ((0 : Int64).toInt)) x_46.toInt M_89 := lz_up j_56 hM_89 rfl (by omega) rfl ⟨by omega, by omega⟩ (fun j hj => by omega)
                    refine lv_goto (tgt := 293) hx hb dX1_value_224 (by decide) ?_
                    obtain ⟨x_135, ex_135⟩ : ∃ z : Int32, z = x_43 + 1 := ⟨_, rfl⟩
                    have tx_135 : x_135.toInt = x_43.toInt + 1 := i_add ex_135 rfl (by decide) (by omega) (by omega)
                    refine lv_iinc (v := x_135) (lv' := [(6, .int x_135), (7, .int x_61), (5, .int x_46), (4, .int r_1), (0, .ref (A lw 0)), (1, .ref (A q 0)), (2, .int pl), (3, .int ps)]) hx hb dX1_value_293 hl (k := 1) rfl (by rw [ex_135]; rfl) (by decide) rfl (fun ls hl => ?_)
                    refine lv_goto (tgt := 124) hx hb dX1_value_296 (by decide) ?_
                    exact ih_58 x_135 x_46 M_89 (pp_su st_54 x_78.toInt.toNat ((0 : Int64).toInt)) _ _ _ (by omega) (by first | omega | decide) (by first | omega | decide) (by first | omega | decide) (by first | omega | decide) iM_89 ((rf_Z hM_89).trans f_50) ((ra_Z hM_89).trans f_51) ((ry_Z hM_89).trans f_52) hs_90 (by first | omega | decide) hz_91 (by have ce : co x_43.toInt.toNat = x_61.toInt := kcx_61; rw [← j_57]; have q7 : st_54 x_78.toInt.toNat = x_80.toInt := (by rw [lax_80]; exact congrArg _ (by omega)); rw [rn_n (co := co) (fa := (bq_fa tx rg r_1.toInt ps.toInt)) (f := x_4.toInt.toNat - x_43.toInt.toNat) (i := x_43.toInt.toNat) (t := x_46.toInt.toNat) (st := st_54) (f' := (x_4.toInt.toNat - x_135.toInt.toNat)) (by omega) ⟨by omega, by omega⟩, show x_46.toInt.toNat - 1 = x_78.toInt.toNat by omega, q7, if_neg (by omega), show (0 : Int64).toInt = 0 by decide, show x_135.toInt.toNat = x_43.toInt.toNat + 1 by omega]) hw (lv_sub hl [0, 2, 3, 4, 5, 6, 7] rfl)
                  · refine lv_lconst (v := 1) hx hb dX1_value_218 (by decide) ?_
                    have z_84 : (1 : Int64).toInt = 1 := by decide
                    refine lv_goto (tgt := 223) hx hb dX1_value_219 (by decide) ?_
                    refine ti_last (ci := 1) (k := 1) (n := 64) C hw hlw (by decide) (fun _ _ => rfl) (vp_in_iff.mpr (by omega)) dX1_value_223 (fun H locs hw => ?_)
                    obtain ⟨M_86, hM_86⟩ : ∃ z : ti_M, z = uZ M_49 lw 1 (vp_updL (tZ M_49 lw 1) (x_78 : Int32).toNatClampNeg 1) := ⟨_, rfl⟩
                    have hw := hw.to hM_86.symm
                    have iM_86 : cI Tc M_86 := cI_uZ iM_49 hM_86
                    have hs_87 : qC q rg M_86 := qC_Z hs_53 hM_86
                    have hz_88 : lz lw (bq_fa tx rg r_1.toInt ps.toInt) (pp_su st_54 x_78.toInt.toNat ((1 : Int64).toInt)) x_46.toInt M_86 := lz_up j_56 hM_86 rfl (by omega) rfl ⟨by omega, by omega⟩ (fun j hj => by omega)
                    refine lv_goto (tgt := 293) hx hb dX1_value_224 (by decide) ?_
                    obtain ⟨x_134, ex_134⟩ : ∃ z : Int32, z = x_43 + 1 := ⟨_, rfl⟩
                    have tx_134 : x_134.toInt = x_43.toInt + 1 := i_add ex_134 rfl (by decide) (by omega) (by omega)
                    refine lv_iinc (v := x_134) (lv' := [(6, .int x_134), (7, .int x_61), (5, .int x_46), (4, .int r_1), (0, .ref (A lw 0)), (1, .ref (A q 0)), (2, .int pl), (3, .int ps)]) hx hb dX1_value_293 hl (k := 1) rfl (by rw [ex_134]; rfl) (by decide) rfl (fun ls hl => ?_)
                    refine lv_goto (tgt := 124) hx hb dX1_value_296 (by decide) ?_
                    exact ih_58 x_134 x_46 M_86 (pp_su st_54 x_78.toInt.toNat ((1 : Int64).toInt)) _ _ _ (by omega) (by first | omega | decide) (by first | omega | decide) (by first | omega | decide) (by first | omega | decide) iM_86 ((rf_Z hM_86).trans f_50) ((ra_Z hM_86).trans f_51) ((ry_Z hM_86).trans f_52) hs_87 (by first | omega | decide) hz_88 (by have ce : co x_43.toInt.toNat = x_61.toInt := kcx_61; rw [← j_57]; have q7 : st_54 x_78.toInt.toNat = x_80.toInt := (by rw [lax_80]; exact congrArg _ (by omega)); rw [rn_n (co := co) (fa := (bq_fa tx rg r_1.toInt ps.toInt)) (f := x_4.toInt.toNat - x_43.toInt.toNat) (i := x_43.toInt.toNat) (t := x_46.toInt.toNat) (st := st_54) (f' := (x_4.toInt.toNat - x_134.toInt.toNat)) (by omega) ⟨by omega, by omega⟩, show x_46.toInt.toNat - 1 = x_78.toInt.toNat by omega, q7, if_pos (by omega), show (1 : Int64).toInt = 1 by decide, show x_134.toInt.toNat = x_43.toInt.toNat + 1 by omega]) hw (lv_sub hl [0, 2, 3, 4, 5, 6, 7] rfl)
            · refine lv_aload_n hx hb dX1_value_149 rfl (lv_at hl 4 rfl) ?_
              refine ti_get (ci := 1) (k := 1) (N := 4) (T := TX1) (v := .ref (A lw 2)) C hw iw_1 rfl hlw (by decide) (by decide) fl_X1_17 rfl rfl dX1_value_150 ?_
              refine lv_iload hx hb dX1_value_153 (lv_at hl 2 rfl) ?_
              refine lv_iload hx hb dX1_value_155 (lv_at hl 0 rfl) ?_
              refine sb_if_lt (tgt := 166) hx hb rfl dX1_value_157 (by decide) (fun c_157_62 => ?_) (fun c_157_62 => ?_)
              · refine lv_aload_n hx hb dX1_value_166 rfl (lv_at hl 4 rfl) ?_
                refine ti_get (ci := 1) (k := 2) (N := 4) (T := TX1) (v := .ref (A lw 3)) C hw iw_1 rfl hlw (by decide) (by decide) fl_X1_21 rfl rfl dX1_value_167 ?_
                refine lv_iload hx hb dX1_value_170 (lv_at hl 0 rfl) ?_
                refine lv_ineg hx hb dX1_value_172 ?_
                refine lv_topi (fun x_65 ex_65 => ?_)
                have tx_65 : x_65.toInt = -x_61.toInt := i_neg ex_65 rfl (by omega)
                refine lv_bipush (v := 16) hx hb dX1_value_173 (by decide) ?_
                refine lv_isub hx hb dX1_value_175 ?_
                refine lv_topi (fun x_66 ex_66 => ?_)
                have lox_66x_65 := x_65.le_toInt
                have hix_66x_65 := x_65.toInt_lt
                have tx_66 : x_66.toInt = x_65.toInt - 16 := i_sub ex_66 rfl (by decide : (16 : Int32).toInt = 16) (by omega) (by omega)
                refine ti_lald (ci := 1) (k := 2) (n := 6) C hw hlw (by decide) (fun _ _ => rfl) (vp_in_iff.mpr (by omega)) dX1_value_176 ?_
                refine lv_topl (fun x_67 ex_67 => ?_)
                have lzx_67 := lz_2 j_56 ex_67 (by omega) (by omega)
                have lax_67 := lzx_67.1
                have lbx_67 := lzx_67.2.1
                have lcx_67 := lzx_67.2.2
                refine ti_last (ci := 1) (k := 1) (n := 64) C hw hlw (by decide) (fun _ _ => rfl) (vp_in_iff.mpr (by omega)) dX1_value_177 (fun H locs hw => ?_)
                obtain ⟨M_72, hM_72⟩ : ∃ z : ti_M, z = uZ M_49 lw 1 (vp_updL (tZ M_49 lw 1) (x_46 : Int32).toNatClampNeg x_67) := ⟨_, rfl⟩
                have hw := hw.to hM_72.symm
                have iM_72 : cI Tc M_72 := cI_uZ iM_49 hM_72
                have hs_73 : qC q rg M_72 := qC_Z hs_53 hM_72
                have hz_74 : lz lw (bq_fa tx rg r_1.toInt ps.toInt) (pp_su st_54 x_46.toInt.toNat x_67.toInt) (x_46.toInt + 1) M_72 := lz_up j_56 hM_72 rfl (by omega) rfl ⟨by omega, by omega⟩ (fun j hj => by omega)
                obtain ⟨x_75, ex_75⟩ : ∃ z : Int32, z = x_46 + 1 := ⟨_, rfl⟩
                have tx_75 : x_75.toInt = x_46.toInt + 1 := i_add ex_75 rfl (by decide) (by omega) (by omega)
                refine lv_iinc (v := x_75) (lv' := [(5, .int x_75), (7, .int x_61), (6, .int x_43), (4, .int r_1), (0, .ref (A lw 0)), (1, .ref (A q 0)), (2, .int pl), (3, .int ps)]) hx hb dX1_value_178 hl (k := 2) rfl (by rw [ex_75]; rfl) (by decide) rfl (fun ls hl => ?_)
                refine lv_goto (tgt := 293) hx hb dX1_value_181 (by decide) ?_
                obtain ⟨x_133, ex_133⟩ : ∃ z : Int32, z = x_43 + 1 := ⟨_, rfl⟩
                have tx_133 : x_133.toInt = x_43.toInt + 1 := i_add ex_133 rfl (by decide) (by omega) (by omega)
                refine lv_iinc (v := x_133) (lv' := [(6, .int x_133), (5, .int x_75), (7, .int x_61), (4, .int r_1), (0, .ref (A lw 0)), (1, .ref (A q 0)), (2, .int pl), (3, .int ps)]) hx hb dX1_value_293 hl (k := 2) rfl (by rw [ex_133]; rfl) (by decide) rfl (fun ls hl => ?_)
                refine lv_goto (tgt := 124) hx hb dX1_value_296 (by decide) ?_
                exact ih_58 x_133 x_75 M_72 (pp_su st_54 x_46.toInt.toNat x_67.toInt) _ _ _ (by omega) (by first | omega | decide) (by first | omega | decide) (by first | omega | decide) (by first | omega | decide) iM_72 ((rf_Z hM_72).trans f_50) ((ra_Z hM_72).trans f_51) ((ry_Z hM_72).trans f_52) hs_73 (by first | omega | decide) (by have q := hz_74; rw [← tx_75] at q; exact q) (by have ce : co x_43.toInt.toNat = x_61.toInt := kcx_61; rw [← j_57]; rw [rn_p (co := co) (fa := (bq_fa tx rg r_1.toInt ps.toInt)) (f := x_4.toInt.toNat - x_43.toInt.toNat) (i := x_43.toInt.toNat) (t := x_46.toInt.toNat) (st := st_54) (f' := (x_4.toInt.toNat - x_133.toInt.toNat)) (by omega) (by omega), show (if 0 ≤ co x_43.toInt.toNat then co x_43.toInt.toNat else (bq_fa tx rg r_1.toInt ps.toInt) (-(co x_43.toInt.toNat) - 16).toNat) = x_67.toInt from (by rw [if_neg (by omega), show (-(co x_43.toInt.toNat) - 16).toNat = x_66.toInt.toNat by omega]; omega), show x_133.toInt.toNat = x_43.toInt.toNat + 1 by omega, show x_75.toInt.toNat = x_46.toInt.toNat + 1 by omega]) hw (lv_sub hl [0, 1, 3, 4, 5, 6, 7] rfl)
              · refine lv_iload hx hb dX1_value_160 (lv_at hl 0 rfl) ?_
                obtain ⟨x_64, ex_64⟩ : ∃ z : Int64, z = x_61.toInt64 := ⟨_, rfl⟩
                refine lv_i2l (v := x_64) hx hb dX1_value_162 ex_64.symm ?_
                have tx_64 : x_64.toInt = x_61.toInt := by rw [ex_64, Int32.toInt_toInt64]
                have lox_64 := (x_61 : Int32).le_toInt
                have hix_64 := (x_61 : Int32).toInt_lt
                refine lv_goto (tgt := 177) hx hb dX1_value_163 (by decide) ?_
                refine ti_last (ci := 1) (k := 1) (n := 64) C hw hlw (by decide) (fun _ _ => rfl) (vp_in_iff.mpr (by omega)) dX1_value_177 (fun H locs hw => ?_)
                obtain ⟨M_68, hM_68⟩ : ∃ z : ti_M, z = uZ M_49 lw 1 (vp_updL (tZ M_49 lw 1) (x_46 : Int32).toNatClampNeg x_64) := ⟨_, rfl⟩
                have hw := hw.to hM_68.symm
                have iM_68 : cI Tc M_68 := cI_uZ iM_49 hM_68
                have hs_69 : qC q rg M_68 := qC_Z hs_53 hM_68
                have hz_70 : lz lw (bq_fa tx rg r_1.toInt ps.toInt) (pp_su st_54 x_46.toInt.toNat x_64.toInt) (x_46.toInt + 1) M_68 := lz_up j_56 hM_68 rfl (by omega) rfl ⟨by omega, by omega⟩ (fun j hj => by omega)
                obtain ⟨x_71, ex_71⟩ : ∃ z : Int32, z = x_46 + 1 := ⟨_, rfl⟩
                have tx_71 : x_71.toInt = x_46.toInt + 1 := i_add ex_71 rfl (by decide) (by omega) (by omega)
                refine lv_iinc (v := x_71) (lv' := [(5, .int x_71), (7, .int x_61), (6, .int x_43), (4, .int r_1), (0, .ref (A lw 0)), (1, .ref (A q 0)), (2, .int pl), (3, .int ps)]) hx hb dX1_value_178 hl (k := 2) rfl (by rw [ex_71]; rfl) (by decide) rfl (fun ls hl => ?_)
                refine lv_goto (tgt := 293) hx hb dX1_value_181 (by decide) ?_
                obtain ⟨x_132, ex_132⟩ : ∃ z : Int32, z = x_43 + 1 := ⟨_, rfl⟩
                have tx_132 : x_132.toInt = x_43.toInt + 1 := i_add ex_132 rfl (by decide) (by omega) (by omega)
                refine lv_iinc (v := x_132) (lv' := [(6, .int x_132), (5, .int x_71), (7, .int x_61), (4, .int r_1), (0, .ref (A lw 0)), (1, .ref (A q 0)), (2, .int pl), (3, .int ps)]) hx hb dX1_value_293 hl (k := 2) rfl (by rw [ex_132]; rfl) (by decide) rfl (fun ls hl => ?_)
                refine lv_goto (tgt := 124) hx hb dX1_value_296 (by decide) ?_
                exact ih_58 x_132 x_71 M_68 (pp_su st_54 x_46.toInt.toNat x_64.toInt) _ _ _ (by omega) (by first | omega | decide) (by first | omega | decide) (by first | omega | decide) (by first | omega | decide) iM_68 ((rf_Z hM_68).trans f_50) ((ra_Z hM_68).trans f_51) ((ry_Z hM_68).trans f_52) hs_69 (by first | omega | decide) (by have q := hz_70; rw [← tx_71] at q; exact q) (by have ce : co x_43.toInt.toNat = x_61.toInt := kcx_61; rw [← j_57]; rw [rn_p (co := co) (fa := (bq_fa tx rg r_1.toInt ps.toInt)) (f := x_4.toInt.toNat - x_43.toInt.toNat) (i := x_43.toInt.toNat) (t := x_46.toInt.toNat) (st := st_54) (f' := (x_4.toInt.toNat - x_132.toInt.toNat)) (by omega) (by omega), show (if 0 ≤ co x_43.toInt.toNat then co x_43.toInt.toNat else (bq_fa tx rg r_1.toInt ps.toInt) (-(co x_43.toInt.toNat) - 16).toNat) = x_64.toInt from (by rw [if_pos (by omega)]; omega), show x_132.toInt.toNat = x_43.toInt.toNat + 1 by omega, show x_71.toInt.toNat = x_46.toInt.toNat + 1 by omega]) hw (lv_sub hl [0, 1, 3, 4, 5, 6, 7] rfl)
      exact hl_124_57 ((64 - 0 : Int).toNat + 1) 0 0 M_40 (fun _ => 0) _ _ _ (Nat.lt_succ_self _) (by have lt0 : (0 : Int32).toInt = 0 := (by decide); first | omega | decide) (by have lt0 : (0 : Int32).toInt = 0 := (by decide); first | omega | decide) (by have lt0 : (0 : Int32).toInt = 0 := (by decide); first | omega | decide) (by have lt0 : (0 : Int32).toInt = 0 := (by decide); first | omega | decide) iM_40 ((rf_Z hM_40).trans ((rf_Z hM_34).trans ((rf_Z hM_30).trans ((rf_Z hM_24).trans ((rf_Z hM_18).trans (rf_Z hM_12)))))) ((ra_Z hM_40).trans ((ra_Z hM_34).trans ((ra_Z hM_30).trans ((ra_Z hM_24).trans ((ra_Z hM_18).trans (ra_Z hM_12)))))) ((ry_Z hM_40).trans ((ry_Z hM_34).trans ((ry_Z hM_30).trans ((ry_Z hM_24).trans ((ry_Z hM_18).trans (ry_Z hM_12)))))) hs_41 (by have lt0 : (0 : Int32).toInt = 0 := (by decide); first | omega | decide) ⟨hF_42, fun j hj => absurd hj (by have : (0 : Int32).toInt = 0 := (by decide); omega)⟩ (by rw [ll]; rfl) hw (lv_sub hl [0, 1, 2, 3, 4, 5, 6] rfl)
    · refine lv_ldc2 (v := (-9223372036854775808)) hx hb C.2.2.2.1 (C.2.2.1 _ cn_X1_34) dX1_value_19 ?_
      have z_7 : ((-9223372036854775808) : Int64).toInt = -9223372036854775808 := by decide
      exact hQ _ _ _ _ _ _ hw (⟨hI, rfl, rfl, rfl, (by unfold vq; rw [if_pos (by omega)]; decide)⟩) dX1_value_22

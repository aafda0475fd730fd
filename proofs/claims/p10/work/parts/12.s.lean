variable {Tc : gC} {Tm : gM}
set_option maxHeartbeats 4000000 in
set_option maxRecDepth 100000 in
theorem s_X1_add (l : Launch) (D : va_G) (A : Nat → Nat → Nat) (cy : Nat → ClassId) (hJ : ti_inj ti_LT A) (M : ti_M) (hI : cI Tc M) (lw : Nat) (hlw : ti_ob ti_LT lw 1) (kn : Int32) (hk : 0 ≤ kn.toInt ∨ kn.toInt ≤ -16) : ti_Kv l yX1_add cX1_add 2 0 ti_LT D A cy M [.ref (A lw 0), .int kn] (fun M2 => cI Tc M2 ∧ M2.2.2.2 = M.2.2.2 ∧ fX M2 M) := by
  refine ti_eV yp_X1_add hJ ti_LT_nd (Nat.le_of_ble_eq_true rfl) ?_
  intro p e s m args below meth c Q H0 C hQ hw ls hl
  have hx := C.1
  have hb := C.2.1
  have hl : lv_has ls 2 [(0, .ref (A lw 0)), (1, .int kn)] := hl
  refine lv_aload_n hx hb dX1_add_0 rfl (lv_at hl 0 rfl) ?_
  refine ti_get (ci := 1) (k := 3) (N := 4) (T := TX1) C hw iw_1 rfl hlw (by decide) (by decide) fl_X1_24 rfl rfl dX1_add_1 ?_
  refine lv_topi (fun x_1 ex_1 => ?_)
  have bx_1 : 0 ≤ x_1.toInt ∧ x_1.toInt ≤ 64 := cI_rd hI hlw.1 ex_1
  have ux_1 : (tI M lw 3).toInt = x_1.toInt := by rw [ex_1]
  refine lv_bipush (v := 64) hx hb dX1_add_4 (by decide) ?_
  refine sb_icmp_ge (tgt := 29) hx hb rfl (by decide : (64 : Int32).toInt = 64) dX1_add_6 (by decide) (fun c_6_1 => ?_) (fun c_6_1 => ?_)
  · exact hQ _ _ _ _ _ hw (⟨hI, rfl, fX.refl⟩) dX1_add_29
  · refine lv_aload_n hx hb dX1_add_9 rfl (lv_at hl 0 rfl) ?_
    refine ti_get (ci := 1) (k := 0) (N := 4) (T := TX1) (v := .ref (A lw 1)) C hw iw_1 rfl hlw (by decide) (by decide) fl_X1_11 rfl rfl dX1_add_10 ?_
    refine lv_aload_n hx hb dX1_add_13 rfl (lv_at hl 0 rfl) ?_
    refine ti_get (ci := 1) (k := 3) (N := 4) (T := TX1) C hw iw_1 rfl hlw (by decide) (by decide) fl_X1_24 rfl rfl dX1_add_14 ?_
    refine ti_top (y := x_1) (ex_1.symm) ?_
    have u_3 : (tI M lw 3).toInt = (x_1 : Int32).toInt := by rw [(ex_1.symm)]
    refine lv_iload_n hx hb dX1_add_17 rfl (lv_at hl 1 rfl) ?_
    refine ti_iast (ci := 1) (k := 0) (n := 64) C hw hlw (by decide) (fun _ _ => rfl) (vp_in_iff.mpr (by omega)) dX1_add_18 (fun H locs hw => ?_)
    obtain ⟨M_4, hM_4⟩ : ∃ z : ti_M, z = uY M lw 0 (upd (tY M lw 0) (x_1 : Int32).toNatClampNeg kn) := ⟨_, rfl⟩
    have hw := hw.to hM_4.symm
    have iM_4 : cI Tc M_4 := cI_up hI hM_4 hlw.1 hk
    refine lv_aload_n hx hb dX1_add_19 rfl (lv_at hl 0 rfl) ?_
    refine lv_dup hx hb dX1_add_20 rfl ?_
    refine ti_get (ci := 1) (k := 3) (N := 4) (T := TX1) C hw iw_1 rfl hlw (by decide) (by decide) fl_X1_24 rfl rfl dX1_add_21 ?_
    refine ti_top (y := x_1) ((tI_uYE hM_4).trans ex_1.symm) ?_
    have u_5 : (tI M_4 lw 3).toInt = (x_1 : Int32).toInt := by rw [((tI_uYE hM_4).trans ex_1.symm)]
    refine lv_iconst (v := 1) hx hb dX1_add_24 (by decide) ?_
    refine lv_iadd hx hb dX1_add_25 ?_
    refine lv_topi (fun x_6 ex_6 => ?_)
    have tx_6 : x_6.toInt = x_1.toInt + 1 := i_add ex_6 rfl (by decide : (1 : Int32).toInt = 1) (by omega) (by omega)
    refine ti_putI (ci := 1) (k := 3) (N := 4) (T := TX1) C hw iw_1 tyX1 tyX1_ok nmX1 rfl hlw (by decide) (by decide) fl_X1_24 rfl rfl rfl rfl (fn_1 A _) fs_1_3 dX1_add_26 (fun H locs hw => ?_)
    obtain ⟨M_7, hM_7⟩ : ∃ z : ti_M, z = uI M_4 lw 3 x_6 := ⟨_, rfl⟩
    have hw := hw.to hM_7.symm
    have iM_7 : cI Tc M_7 := cI_uI iM_4 hM_7 hlw.1 (ib_mk (lo := 0) (hi := 64) (by first | omega | decide) (by first | omega | decide))
    have vM_7 : (tI M_7 lw 3).toInt = (x_6 : Int32).toInt := by rw [tI_uE hM_7]
    exact hQ _ _ _ _ _ hw (⟨iM_7, ((rf_I hM_7).trans (rf_Y hM_4)), (fX.trans (fx_I hM_7 (fxn hlw.1 (by decide))) (fx_of (ra_Y hM_4)))⟩) dX1_add_29
set_option maxHeartbeats 4000000 in
set_option maxRecDepth 100000 in
theorem s_X1_work (l : Launch) (D : va_G) (A : Nat → Nat → Nat) (cy : Nat → ClassId) (hJ : ti_inj ti_LT A) (M : ti_M) (hI : cI Tc M) (sg : Int32) (a b2 : Int64) : ti_Kl l yX1_work cX1_work 7 (some .long) 0 ti_LT D A cy M [.int sg, .long a, .long b2] (fun r M2 => M2 = M) := by
  refine ti_eL yp_X1_work hJ ti_LT_nd (Nat.le_of_ble_eq_true rfl) ?_
  intro p e s m args below meth c Q H0 C hQ hw ls hl
  have hx := C.1
  have hb := C.2.1
  have hl : lv_has ls 7 [(0, .int sg), (1, .long a), (3, .long b2)] := hl
  refine lv_iload_n hx hb dX1_work_0 rfl (lv_at hl 0 rfl) ?_
  by_cases s_1_22 : sg = 22
  · refine lv_tableIn (tgt := 247) (off := 246) hx hb dX1_work_1 (by rw [s_1_22]; decide) (by rw [s_1_22]; decide) (by rw [s_1_22]; decide) (by decide) ?_
    refine lv_lload_n hx hb dX1_work_247 rfl (lv_at hl 1 rfl) ?_
    refine lv_lconst (v := 0) hx hb dX1_work_248 (by decide) ?_
    refine W.lcmp hx hb dX1_work_249 ?_
    refine lv_topi (fun x_33 ex_33 => ?_)
    have hj_263_36 : ∀  (H : Heap) (locs : List Loc) (ls : Array Slot), ti_H ti_LT D A cy H0 M H locs → lv_has ls 7 [(0, .int sg), (1, .long a), (3, .long b2)] → W p l e (ti_rm 0) s m args below meth c H locs 0 0 Q (F0 m 263 ls []) := by
      intro  H locs ls  hw hl
      refine lv_lconst (v := 0) hx hb dX1_work_263 (by decide) ?_
      exact hQ _ _ _ _ _ _ hw rfl dX1_work_264
    refine sb_if_eq (tgt := 263) hx hb rfl dX1_work_250 (by decide) (fun c_250_33 => ?_) (fun c_250_33 => ?_)
    · exact hj_263_36  _ _ _  hw (lv_sub hl [0, 1, 2] rfl)
    · refine lv_lload_n hx hb dX1_work_253 rfl (lv_at hl 2 rfl) ?_
      refine lv_lconst (v := 0) hx hb dX1_work_254 (by decide) ?_
      refine W.lcmp hx hb dX1_work_255 ?_
      refine lv_topi (fun x_35 ex_35 => ?_)
      refine sb_if_eq (tgt := 263) hx hb rfl dX1_work_256 (by decide) (fun c_256_35 => ?_) (fun c_256_35 => ?_)
      · exact hj_263_36  _ _ _  hw (lv_sub hl [0, 1, 2] rfl)
      · refine lv_lconst (v := 1) hx hb dX1_work_259 (by decide) ?_
        refine lv_goto (tgt := 264) hx hb dX1_work_260 (by decide) ?_
        exact hQ _ _ _ _ _ _ hw rfl dX1_work_264
  · by_cases s_1_23 : sg = 23
    · refine lv_tableIn (tgt := 265) (off := 264) hx hb dX1_work_1 (by rw [s_1_23]; decide) (by rw [s_1_23]; decide) (by rw [s_1_23]; decide) (by decide) ?_
      refine lv_lload_n hx hb dX1_work_265 rfl (lv_at hl 1 rfl) ?_
      refine lv_lconst (v := 0) hx hb dX1_work_266 (by decide) ?_
      refine W.lcmp hx hb dX1_work_267 ?_
      refine lv_topi (fun x_37 ex_37 => ?_)
      have hj_277_40 : ∀  (H : Heap) (locs : List Loc) (ls : Array Slot), ti_H ti_LT D A cy H0 M H locs → lv_has ls 7 [(0, .int sg), (1, .long a), (3, .long b2)] → W p l e (ti_rm 0) s m args below meth c H locs 0 0 Q (F0 m 277 ls []) := by
        intro  H locs ls  hw hl
        refine lv_lconst (v := 1) hx hb dX1_work_277 (by decide) ?_
        refine lv_goto (tgt := 282) hx hb dX1_work_278 (by decide) ?_
        exact hQ _ _ _ _ _ _ hw rfl dX1_work_282
      refine sb_if_ne (tgt := 277) hx hb rfl dX1_work_268 (by decide) (fun c_268_37 => ?_) (fun c_268_37 => ?_)
      · exact hj_277_40  _ _ _  hw (lv_sub hl [0, 1, 2] rfl)
      · refine lv_lload_n hx hb dX1_work_271 rfl (lv_at hl 2 rfl) ?_
        refine lv_lconst (v := 0) hx hb dX1_work_272 (by decide) ?_
        refine W.lcmp hx hb dX1_work_273 ?_
        refine lv_topi (fun x_39 ex_39 => ?_)
        refine sb_if_eq (tgt := 281) hx hb rfl dX1_work_274 (by decide) (fun c_274_39 => ?_) (fun c_274_39 => ?_)
        · refine lv_lconst (v := 0) hx hb dX1_work_281 (by decide) ?_
          exact hQ _ _ _ _ _ _ hw rfl dX1_work_282
        · exact hj_277_40  _ _ _  hw (lv_sub hl [0, 1, 2] rfl)
    · have hj_283_40 : ∀  (H : Heap) (locs : List Loc) (ls : Array Slot), ti_H ti_LT D A cy H0 M H locs → lv_has ls 7 [(0, .int sg), (1, .long a), (3, .long b2)] → W p l e (ti_rm 0) s m args below meth c H locs 0 0 Q (F0 m 283 ls []) := by
        intro  H locs ls  hw hl
        refine lv_ldc2 (v := (-9223372036854775808)) hx hb C.2.2.2.1 (C.2.2.1 _ cn_X1_34) dX1_work_283 ?_
        exact hQ _ _ _ _ _ _ hw rfl dX1_work_286
      by_cases s_1_24 : sg = 24
      · refine lv_tableIn (tgt := 283) (off := 282) hx hb dX1_work_1 (by rw [s_1_24]; decide) (by rw [s_1_24]; decide) (by rw [s_1_24]; decide) (by decide) ?_
        exact hj_283_40  _ _ _  hw (lv_sub hl [0, 1, 2] rfl)
      · by_cases s_1_25 : sg = 25
        · refine lv_tableIn (tgt := 283) (off := 282) hx hb dX1_work_1 (by rw [s_1_25]; decide) (by rw [s_1_25]; decide) (by rw [s_1_25]; decide) (by decide) ?_
          exact hj_283_40  _ _ _  hw (lv_sub hl [0, 1, 2] rfl)
        · by_cases s_1_26 : sg = 26
          · refine lv_tableIn (tgt := 283) (off := 282) hx hb dX1_work_1 (by rw [s_1_26]; decide) (by rw [s_1_26]; decide) (by rw [s_1_26]; decide) (by decide) ?_
            exact hj_283_40  _ _ _  hw (lv_sub hl [0, 1, 2] rfl)
          · by_cases s_1_27 : sg = 27
            · refine lv_tableIn (tgt := 283) (off := 282) hx hb dX1_work_1 (by rw [s_1_27]; decide) (by rw [s_1_27]; decide) (by rw [s_1_27]; decide) (by decide) ?_
              exact hj_283_40  _ _ _  hw (lv_sub hl [0, 1, 2] rfl)
            · by_cases s_1_28 : sg = 28
              · refine lv_tableIn (tgt := 283) (off := 282) hx hb dX1_work_1 (by rw [s_1_28]; decide) (by rw [s_1_28]; decide) (by rw [s_1_28]; decide) (by decide) ?_
                exact hj_283_40  _ _ _  hw (lv_sub hl [0, 1, 2] rfl)
              · by_cases s_1_29 : sg = 29
                · refine lv_tableIn (tgt := 283) (off := 282) hx hb dX1_work_1 (by rw [s_1_29]; decide) (by rw [s_1_29]; decide) (by rw [s_1_29]; decide) (by decide) ?_
                  exact hj_283_40  _ _ _  hw (lv_sub hl [0, 1, 2] rfl)
                · by_cases s_1_30 : sg = 30
                  · refine lv_tableIn (tgt := 283) (off := 282) hx hb dX1_work_1 (by rw [s_1_30]; decide) (by rw [s_1_30]; decide) (by rw [s_1_30]; decide) (by decide) ?_
                    exact hj_283_40  _ _ _  hw (lv_sub hl [0, 1, 2] rfl)
                  · by_cases s_1_31 : sg = 31
                    · refine lv_tableIn (tgt := 283) (off := 282) hx hb dX1_work_1 (by rw [s_1_31]; decide) (by rw [s_1_31]; decide) (by rw [s_1_31]; decide) (by decide) ?_
                      exact hj_283_40  _ _ _  hw (lv_sub hl [0, 1, 2] rfl)
                    · by_cases s_1_32 : sg = 32
                      · refine lv_tableIn (tgt := 175) (off := 174) hx hb dX1_work_1 (by rw [s_1_32]; decide) (by rw [s_1_32]; decide) (by rw [s_1_32]; decide) (by decide) ?_
                        refine lv_lload_n hx hb dX1_work_175 rfl (lv_at hl 1 rfl) ?_
                        refine lv_lload_n hx hb dX1_work_176 rfl (lv_at hl 2 rfl) ?_
                        refine W.lcmp hx hb dX1_work_177 ?_
                        refine lv_topi (fun x_21 ex_21 => ?_)
                        refine sb_if_ge (tgt := 185) hx hb rfl dX1_work_178 (by decide) (fun c_178_21 => ?_) (fun c_178_21 => ?_)
                        · refine lv_lconst (v := 0) hx hb dX1_work_185 (by decide) ?_
                          exact hQ _ _ _ _ _ _ hw rfl dX1_work_186
                        · refine lv_lconst (v := 1) hx hb dX1_work_181 (by decide) ?_
                          refine lv_goto (tgt := 186) hx hb dX1_work_182 (by decide) ?_
                          exact hQ _ _ _ _ _ _ hw rfl dX1_work_186
                      · by_cases s_1_33 : sg = 33
                        · refine lv_tableIn (tgt := 187) (off := 186) hx hb dX1_work_1 (by rw [s_1_33]; decide) (by rw [s_1_33]; decide) (by rw [s_1_33]; decide) (by decide) ?_
                          refine lv_lload_n hx hb dX1_work_187 rfl (lv_at hl 1 rfl) ?_
                          refine lv_lload_n hx hb dX1_work_188 rfl (lv_at hl 2 rfl) ?_
                          refine W.lcmp hx hb dX1_work_189 ?_
                          refine lv_topi (fun x_23 ex_23 => ?_)
                          refine sb_if_gt (tgt := 197) hx hb rfl dX1_work_190 (by decide) (fun c_190_23 => ?_) (fun c_190_23 => ?_)
                          · refine lv_lconst (v := 0) hx hb dX1_work_197 (by decide) ?_
                            exact hQ _ _ _ _ _ _ hw rfl dX1_work_198
                          · refine lv_lconst (v := 1) hx hb dX1_work_193 (by decide) ?_
                            refine lv_goto (tgt := 198) hx hb dX1_work_194 (by decide) ?_
                            exact hQ _ _ _ _ _ _ hw rfl dX1_work_198
                        · by_cases s_1_34 : sg = 34
                          · refine lv_tableIn (tgt := 199) (off := 198) hx hb dX1_work_1 (by rw [s_1_34]; decide) (by rw [s_1_34]; decide) (by rw [s_1_34]; decide) (by decide) ?_
                            refine lv_lload_n hx hb dX1_work_199 rfl (lv_at hl 1 rfl) ?_
                            refine lv_lload_n hx hb dX1_work_200 rfl (lv_at hl 2 rfl) ?_
                            refine W.lcmp hx hb dX1_work_201 ?_
                            refine lv_topi (fun x_25 ex_25 => ?_)
                            refine sb_if_ne (tgt := 209) hx hb rfl dX1_work_202 (by decide) (fun c_202_25 => ?_) (fun c_202_25 => ?_)
                            · refine lv_lconst (v := 0) hx hb dX1_work_209 (by decide) ?_
                              exact hQ _ _ _ _ _ _ hw rfl dX1_work_210
                            · refine lv_lconst (v := 1) hx hb dX1_work_205 (by decide) ?_
                              refine lv_goto (tgt := 210) hx hb dX1_work_206 (by decide) ?_
                              exact hQ _ _ _ _ _ _ hw rfl dX1_work_210
                          · by_cases s_1_35 : sg = 35
                            · refine lv_tableIn (tgt := 211) (off := 210) hx hb dX1_work_1 (by rw [s_1_35]; decide) (by rw [s_1_35]; decide) (by rw [s_1_35]; decide) (by decide) ?_
                              refine lv_lload_n hx hb dX1_work_211 rfl (lv_at hl 1 rfl) ?_
                              refine lv_lload_n hx hb dX1_work_212 rfl (lv_at hl 2 rfl) ?_
                              refine W.lcmp hx hb dX1_work_213 ?_
                              refine lv_topi (fun x_27 ex_27 => ?_)
                              refine sb_if_eq (tgt := 221) hx hb rfl dX1_work_214 (by decide) (fun c_214_27 => ?_) (fun c_214_27 => ?_)
                              · refine lv_lconst (v := 0) hx hb dX1_work_221 (by decide) ?_
                                exact hQ _ _ _ _ _ _ hw rfl dX1_work_222
                              · refine lv_lconst (v := 1) hx hb dX1_work_217 (by decide) ?_
                                refine lv_goto (tgt := 222) hx hb dX1_work_218 (by decide) ?_
                                exact hQ _ _ _ _ _ _ hw rfl dX1_work_222
                            · by_cases s_1_36 : sg = 36
                              · refine lv_tableIn (tgt := 223) (off := 222) hx hb dX1_work_1 (by rw [s_1_36]; decide) (by rw [s_1_36]; decide) (by rw [s_1_36]; decide) (by decide) ?_
                                refine lv_lload_n hx hb dX1_work_223 rfl (lv_at hl 1 rfl) ?_
                                refine lv_lload_n hx hb dX1_work_224 rfl (lv_at hl 2 rfl) ?_
                                refine W.lcmp hx hb dX1_work_225 ?_
                                refine lv_topi (fun x_29 ex_29 => ?_)
                                refine sb_if_lt (tgt := 233) hx hb rfl dX1_work_226 (by decide) (fun c_226_29 => ?_) (fun c_226_29 => ?_)
                                · refine lv_lconst (v := 0) hx hb dX1_work_233 (by decide) ?_
                                  exact hQ _ _ _ _ _ _ hw rfl dX1_work_234
                                · refine lv_lconst (v := 1) hx hb dX1_work_229 (by decide) ?_
                                  refine lv_goto (tgt := 234) hx hb dX1_work_230 (by decide) ?_
                                  exact hQ _ _ _ _ _ _ hw rfl dX1_work_234
                              · by_cases s_1_37 : sg = 37
                                · refine lv_tableIn (tgt := 235) (off := 234) hx hb dX1_work_1 (by rw [s_1_37]; decide) (by rw [s_1_37]; decide) (by rw [s_1_37]; decide) (by decide) ?_
                                  refine lv_lload_n hx hb dX1_work_235 rfl (lv_at hl 1 rfl) ?_
                                  refine lv_lload_n hx hb dX1_work_236 rfl (lv_at hl 2 rfl) ?_
                                  refine W.lcmp hx hb dX1_work_237 ?_
                                  refine lv_topi (fun x_31 ex_31 => ?_)
                                  refine sb_if_le (tgt := 245) hx hb rfl dX1_work_238 (by decide) (fun c_238_31 => ?_) (fun c_238_31 => ?_)
                                  · refine lv_lconst (v := 0) hx hb dX1_work_245 (by decide) ?_
                                    exact hQ _ _ _ _ _ _ hw rfl dX1_work_246
                                  · refine lv_lconst (v := 1) hx hb dX1_work_241 (by decide) ?_
                                    refine lv_goto (tgt := 246) hx hb dX1_work_242 (by decide) ?_
                                    exact hQ _ _ _ _ _ _ hw rfl dX1_work_246
                                · by_cases s_1_38 : sg = 38
                                  · refine lv_tableIn (tgt := 96) (off := 95) hx hb dX1_work_1 (by rw [s_1_38]; decide) (by rw [s_1_38]; decide) (by rw [s_1_38]; decide) (by decide) ?_
                                    refine lv_lload_n hx hb dX1_work_96 rfl (lv_at hl 1 rfl) ?_
                                    refine lv_lload_n hx hb dX1_work_97 rfl (lv_at hl 2 rfl) ?_
                                    refine lv_ladd hx hb dX1_work_98 ?_
                                    refine lv_topl (fun x_2 ex_2 => ?_)
                                    exact hQ _ _ _ _ _ _ hw rfl dX1_work_99
                                  · by_cases s_1_39 : sg = 39
                                    · refine lv_tableIn (tgt := 100) (off := 99) hx hb dX1_work_1 (by rw [s_1_39]; decide) (by rw [s_1_39]; decide) (by rw [s_1_39]; decide) (by decide) ?_
                                      refine lv_lload_n hx hb dX1_work_100 rfl (lv_at hl 1 rfl) ?_
                                      refine lv_lload_n hx hb dX1_work_101 rfl (lv_at hl 2 rfl) ?_
                                      refine lv_lsub hx hb dX1_work_102 ?_
                                      refine lv_topl (fun x_3 ex_3 => ?_)
                                      exact hQ _ _ _ _ _ _ hw rfl dX1_work_103
                                    · by_cases s_1_40 : sg = 40
                                      · refine lv_tableIn (tgt := 104) (off := 103) hx hb dX1_work_1 (by rw [s_1_40]; decide) (by rw [s_1_40]; decide) (by rw [s_1_40]; decide) (by decide) ?_
                                        refine lv_lload_n hx hb dX1_work_104 rfl (lv_at hl 1 rfl) ?_
                                        refine lv_lconst (v := 0) hx hb dX1_work_105 (by decide) ?_
                                        refine W.lcmp hx hb dX1_work_106 ?_
                                        refine lv_topi (fun x_4 ex_4 => ?_)
                                        have hj_132_11 : ∀ (x_11 : Int64) (H : Heap) (locs : List Loc) (ls : Array Slot), ti_H ti_LT D A cy H0 M H locs → lv_has ls 7 [(0, .int sg), (1, .long a), (3, .long b2)] → W p l e (ti_rm 0) s m args below meth c H locs 0 0 Q (F0 m 132 ls [.long x_11]) := by
                                          intro x_11 H locs ls  hw hl
                                          refine lv_lstore (lv' := [(5, .long x_11), (0, .int sg), (1, .long a), (3, .long b2)]) hx hb dX1_work_132 hl (by decide) rfl (fun ls hl => ?_)
                                          refine lv_lload_n hx hb dX1_work_134 rfl (lv_at hl 3 rfl) ?_
                                          refine lv_lload hx hb dX1_work_135 (lv_at hl 0 rfl) ?_
                                          refine W.lcmp hx hb dX1_work_137 ?_
                                          refine lv_topi (fun x_12 ex_12 => ?_)
                                          have hj_149_16 : ∀  (H : Heap) (locs : List Loc) (ls : Array Slot), ti_H ti_LT D A cy H0 M H locs → lv_has ls 7 [(5, .long x_11), (0, .int sg), (1, .long a), (3, .long b2)] → W p l e (ti_rm 0) s m args below meth c H locs 0 0 Q (F0 m 149 ls []) := by
                                            intro  H locs ls  hw hl
                                            refine lv_ldc2 (v := (-9223372036854775808)) hx hb C.2.2.2.1 (C.2.2.1 _ cn_X1_34) dX1_work_149 ?_
                                            refine lv_goto (tgt := 158) hx hb dX1_work_152 (by decide) ?_
                                            exact hQ _ _ _ _ _ _ hw rfl dX1_work_158
                                          refine sb_if_gt (tgt := 149) hx hb rfl dX1_work_138 (by decide) (fun c_138_12 => ?_) (fun c_138_12 => ?_)
                                          · exact hj_149_16  _ _ _  hw (lv_sub hl [0, 1, 2, 3] rfl)
                                          · refine lv_lload_n hx hb dX1_work_141 rfl (lv_at hl 3 rfl) ?_
                                            refine lv_lload hx hb dX1_work_142 (lv_at hl 0 rfl) ?_
                                            refine lv_lneg hx hb dX1_work_144 ?_
                                            refine lv_topl (fun x_14 ex_14 => ?_)
                                            refine W.lcmp hx hb dX1_work_145 ?_
                                            refine lv_topi (fun x_15 ex_15 => ?_)
                                            refine sb_if_ge (tgt := 155) hx hb rfl dX1_work_146 (by decide) (fun c_146_15 => ?_) (fun c_146_15 => ?_)
                                            · refine lv_lload_n hx hb dX1_work_155 rfl (lv_at hl 2 rfl) ?_
                                              refine lv_lload_n hx hb dX1_work_156 rfl (lv_at hl 3 rfl) ?_
                                              refine lv_lmul hx hb dX1_work_157 ?_
                                              refine lv_topl (fun x_17 ex_17 => ?_)
                                              exact hQ _ _ _ _ _ _ hw rfl dX1_work_158
                                            · exact hj_149_16  _ _ _  hw (lv_sub hl [0, 1, 2, 3] rfl)
                                        refine sb_if_ne (tgt := 116) hx hb rfl dX1_work_107 (by decide) (fun c_107_4 => ?_) (fun c_107_4 => ?_)
                                        · refine lv_ldc2 (v := 1000000000000) hx hb C.2.2.2.1 (C.2.2.1 _ cn_X1_67) dX1_work_116 ?_
                                          refine lv_lload_n hx hb dX1_work_119 rfl (lv_at hl 1 rfl) ?_
                                          refine lv_lconst (v := 0) hx hb dX1_work_120 (by decide) ?_
                                          refine W.lcmp hx hb dX1_work_121 ?_
                                          refine lv_topi (fun x_6 ex_6 => ?_)
                                          refine sb_if_ge (tgt := 130) hx hb rfl dX1_work_122 (by decide) (fun c_122_6 => ?_) (fun c_122_6 => ?_)
                                          · refine lv_lload_n hx hb dX1_work_130 rfl (lv_at hl 1 rfl) ?_
                                            refine lv_ldiv hx hb dX1_work_131 (lc0 ex_4 c_107_4) ?_
                                            refine lv_topl (fun x_10 ex_10 => ?_)
                                            exact hj_132_11 x_10 _ _ _  hw (lv_sub hl [0, 1, 2] rfl)
                                          · refine lv_lload_n hx hb dX1_work_125 rfl (lv_at hl 1 rfl) ?_
                                            refine lv_lneg hx hb dX1_work_126 ?_
                                            refine lv_topl (fun x_8 ex_8 => ?_)
                                            refine lv_goto (tgt := 131) hx hb dX1_work_127 (by decide) ?_
                                            refine lv_ldiv hx hb dX1_work_131 (ln0 ex_8 (lc0 ex_4 c_107_4)) ?_
                                            refine lv_topl (fun x_9 ex_9 => ?_)
                                            exact hj_132_11 x_9 _ _ _  hw (lv_sub hl [0, 1, 2] rfl)
                                        · refine lv_ldc2 (v := 1000000000000) hx hb C.2.2.2.1 (C.2.2.1 _ cn_X1_67) dX1_work_110 ?_
                                          refine lv_goto (tgt := 132) hx hb dX1_work_113 (by decide) ?_
                                          exact hj_132_11 1000000000000 _ _ _  hw (lv_sub hl [0, 1, 2] rfl)
                                      · by_cases s_1_41 : sg = 41
                                        · refine lv_tableIn (tgt := 159) (off := 158) hx hb dX1_work_1 (by rw [s_1_41]; decide) (by rw [s_1_41]; decide) (by rw [s_1_41]; decide) (by decide) ?_
                                          refine lv_lload_n hx hb dX1_work_159 rfl (lv_at hl 2 rfl) ?_
                                          refine lv_lconst (v := 0) hx hb dX1_work_160 (by decide) ?_
                                          refine W.lcmp hx hb dX1_work_161 ?_
                                          refine lv_topi (fun x_18 ex_18 => ?_)
                                          refine sb_if_ne (tgt := 171) hx hb rfl dX1_work_162 (by decide) (fun c_162_18 => ?_) (fun c_162_18 => ?_)
                                          · refine lv_lload_n hx hb dX1_work_171 rfl (lv_at hl 1 rfl) ?_
                                            refine lv_lload_n hx hb dX1_work_172 rfl (lv_at hl 2 rfl) ?_
                                            refine lv_ldiv hx hb dX1_work_173 (lc0 ex_18 c_162_18) ?_
                                            refine lv_topl (fun x_20 ex_20 => ?_)
                                            exact hQ _ _ _ _ _ _ hw rfl dX1_work_174
                                          · refine lv_ldc2 (v := (-9223372036854775808)) hx hb C.2.2.2.1 (C.2.2.1 _ cn_X1_34) dX1_work_165 ?_
                                            refine lv_goto (tgt := 174) hx hb dX1_work_168 (by decide) ?_
                                            exact hQ _ _ _ _ _ _ hw rfl dX1_work_174
                                        · refine lv_tableOut (tgt := 283) hx hb dX1_work_1 (ti_out (lo := 22) (hi := 41) sg (fun v h1 h2 => by rcases (show v = 22 ∨ v = 23 ∨ v = 24 ∨ v = 25 ∨ v = 26 ∨ v = 27 ∨ v = 28 ∨ v = 29 ∨ v = 30 ∨ v = 31 ∨ v = 32 ∨ v = 33 ∨ v = 34 ∨ v = 35 ∨ v = 36 ∨ v = 37 ∨ v = 38 ∨ v = 39 ∨ v = 40 ∨ v = 41 by omega) with rfl | rfl | rfl | rfl | rfl | rfl | rfl | rfl | rfl | rfl | rfl | rfl | rfl | rfl | rfl | rfl | rfl | rfl | rfl | rfl <;> first | exact ti_nev 22 s_1_22 (by decide) | exact ti_nev 23 s_1_23 (by decide) | exact ti_nev 24 s_1_24 (by decide) | exact ti_nev 25 s_1_25 (by decide) | exact ti_nev 26 s_1_26 (by decide) | exact ti_nev 27 s_1_27 (by decide) | exact ti_nev 28 s_1_28 (by decide) | exact ti_nev 29 s_1_29 (by decide) | exact ti_nev 30 s_1_30 (by decide) | exact ti_nev 31 s_1_31 (by decide) | exact ti_nev 32 s_1_32 (by decide) | exact ti_nev 33 s_1_33 (by decide) | exact ti_nev 34 s_1_34 (by decide) | exact ti_nev 35 s_1_35 (by decide) | exact ti_nev 36 s_1_36 (by decide) | exact ti_nev 37 s_1_37 (by decide) | exact ti_nev 38 s_1_38 (by decide) | exact ti_nev 39 s_1_39 (by decide) | exact ti_nev 40 s_1_40 (by decide) | exact ti_nev 41 s_1_41 (by decide))) (by decide) ?_
                                          exact hj_283_40  _ _ _  hw (lv_sub hl [0, 1, 2] rfl)
set_option maxHeartbeats 4000000 in
set_option maxRecDepth 100000 in
theorem s_X1_value (l : Launch) (D : va_G) (A : Nat → Nat → Nat) (cy : Nat → ClassId) (hJ : ti_inj ti_LT A) (M : ti_M) (hI : cI Tc M) (lw q t : Nat) (hlw : ti_ob ti_LT lw 1) (hq : ti_ob ti_LT q 3) (ht : t = 3 ∨ t = 4) (hT : tT M q 0 = some t) (pl ps : Int32) : ti_Kl l yX1_value cX1_value 10 (some .long) 1 ti_LT D A cy M [.ref (A lw 0), .ref (A q 0), .int pl, .int ps] (fun r M2 => cI Tc M2 ∧ M2.2.2.2 = M.2.2.2 ∧ M2.1 = M.1) := by
  refine ti_eL yp_X1_value hJ ti_LT_nd (Nat.le_of_ble_eq_true rfl) ?_
  intro p e s m args below meth c Q H0 C hQ hw ls hl
  have hx := C.1
  have hb := C.2.1
  have hl : lv_has ls 10 [(0, .ref (A lw 0)), (1, .ref (A q 0)), (2, .int pl), (3, .int ps)] := hl
  refine lv_aload_n hx hb dX1_value_0 rfl (lv_at hl 1 rfl) ?_
  refine lv_iload_n hx hb dX1_value_1 rfl (lv_at hl 2 rfl) ?_
  refine ti_callVi (ci := 3) (av := [.int pl]) C hw (s_X3_manAt l D A cy hJ M hI q hq pl) ⟨ml_X1_28, ym_X3_manAt, yv_X3_manAt, yi_X3_manAt, yc_X3_manAt⟩ yd_X3_manAt hq (by decide) rfl rfl hl.1 (Nat.le_of_ble_eq_true rfl) ⟨by decide, by decide⟩ ⟨Nat.zero_le _, Nat.zero_le _⟩ dX1_value_2 (fun r_1 M_2 H locs hp_2 hw => ?_)
  obtain ⟨hm, b0r_1, b1r_1, p0r_1⟩ := hp_2
  have hw := hw.to hm
  refine lv_istore (lv' := [(4, .int r_1), (0, .ref (A lw 0)), (1, .ref (A q 0)), (2, .int pl), (3, .int ps)]) hx hb dX1_value_5 hl (by decide) rfl (fun ls hl => ?_)
  refine lv_iload hx hb dX1_value_7 (lv_at hl 0 rfl) ?_
  have hj_19_5 : ∀  (H : Heap) (locs : List Loc) (ls : Array Slot), ti_H ti_LT D A cy H0 M H locs → lv_has ls 10 [(4, .int r_1), (0, .ref (A lw 0)), (1, .ref (A q 0)), (2, .int pl), (3, .int ps)] → W p l e (ti_rm 1) s m args below meth c H locs 0 0 Q (F0 m 19 ls []) := by
    intro  H locs ls  hw hl
    refine lv_ldc2 (v := (-9223372036854775808)) hx hb C.2.2.2.1 (C.2.2.1 _ cn_X1_34) dX1_value_19 ?_
    exact hQ _ _ _ _ _ _ hw (⟨hI, rfl, rfl⟩) dX1_value_22
  refine sb_if_lt (tgt := 19) hx hb rfl dX1_value_9 (by decide) (fun c_9_2 => ?_) (fun c_9_2 => ?_)
  · exact hj_19_5  _ _ _  hw (lv_sub hl [0, 1, 2, 3, 4] rfl)
  · refine lv_aload_n hx hb dX1_value_12 rfl (lv_at hl 1 rfl) ?_
    refine ti_get (ci := 1) (k := 3) (N := 4) (T := TX1) C hw iw_1 rfl hlw (by decide) (by decide) fl_X1_24 rfl rfl dX1_value_13 ?_
    refine lv_topi (fun x_4 ex_4 => ?_)
    have bx_4 : 0 ≤ x_4.toInt ∧ x_4.toInt ≤ 64 := cI_rd hI hlw.1 ex_4
    have ux_4 : (tI M lw 3).toInt = x_4.toInt := by rw [ex_4]
    refine sb_if_ne (tgt := 23) hx hb rfl dX1_value_16 (by decide) (fun c_16_4 => ?_) (fun c_16_4 => ?_)
    · refine lv_aload_n hx hb dX1_value_23 rfl (lv_at hl 1 rfl) ?_
      refine ti_get (ci := 1) (k := 2) (N := 4) (T := TX1) (v := .ref (A lw 3)) C hw iw_1 rfl hlw (by decide) (by decide) fl_X1_21 rfl rfl dX1_value_24 ?_
      refine lv_iconst (v := 0) hx hb dX1_value_27 (by decide) ?_
      refine lv_aload_n hx hb dX1_value_28 rfl (lv_at hl 2 rfl) ?_
      refine ti_get (ci := 3) (k := 0) (N := 17) (T := TX3) (v := .ref (A t 0)) C hw iw_3 rfl hq (by decide) (by decide) fl_X1_36 rfl (ti_Tv (hT)) dX1_value_29 ?_
      refine ti_get (ci := 8) (k := 0) (N := 12) (T := TX8) (v := .ref (A t 1)) C hw iw_8 rfl (ob_t ht) (by decide) (by decide) fl_X1_40 rfl rfl dX1_value_32 ?_
      refine lv_iload hx hb dX1_value_35 (lv_at hl 0 rfl) ?_
      refine ti_aald (ci := 8) (k := 0) (n := 8) (t0 := 5) (Cn := RX2) (gg := (ti_men t)) (j := r_1.toNatClampNeg) C hw (ob_t ht) (by decide) (fun _ _ => rfl) rfl (vp_in_iff.mpr (by omega)) rfl dX1_value_37 ?_
      have ob_6 : ti_ob ti_LT (ti_men t r_1.toNatClampNeg) 2 := ob_m ht (i_nt rfl (by omega) (by omega))
      refine ti_get (ci := 2) (k := 1) (N := 10) (T := TX2) C hw iw_2 rfl ob_6 (by decide) (by decide) fl_X1_46 rfl rfl dX1_value_38 ?_
      refine lv_topi (fun x_7 ex_7 => ?_)
      obtain ⟨x_8, ex_8⟩ : ∃ z : Int64, z = x_7.toInt64 := ⟨_, rfl⟩
      refine lv_i2l (v := x_8) hx hb dX1_value_41 ex_8.symm ?_
      refine ti_last (ci := 1) (k := 2) (n := 6) C hw hlw (by decide) (fun _ _ => rfl) (by unfold vp_in; decide) dX1_value_42 (fun H locs hw => ?_)
      obtain ⟨M_9, hM_9⟩ : ∃ z : ti_M, z = uZ M lw 2 (vp_updL (tZ M lw 2) (0 : Int32).toNatClampNeg x_8) := ⟨_, rfl⟩
      have hw := hw.to hM_9.symm
      have iM_9 : cI Tc M_9 := cI_uZ hI hM_9
      refine lv_aload_n hx hb dX1_value_43 rfl (lv_at hl 1 rfl) ?_
      refine ti_get (ci := 1) (k := 2) (N := 4) (T := TX1) (v := .ref (A lw 3)) C hw iw_1 rfl hlw (by decide) (by decide) fl_X1_21 rfl rfl dX1_value_44 ?_
      refine lv_iconst (v := 1) hx hb dX1_value_47 (by decide) ?_
      refine lv_aload_n hx hb dX1_value_48 rfl (lv_at hl 2 rfl) ?_
      refine ti_get (ci := 3) (k := 0) (N := 17) (T := TX3) (v := .ref (A t 0)) C hw iw_3 rfl hq (by decide) (by decide) fl_X1_36 rfl (ti_Tv ((tT_uZE hM_9).trans hT)) dX1_value_49 ?_
      refine ti_get (ci := 8) (k := 0) (N := 12) (T := TX8) (v := .ref (A t 1)) C hw iw_8 rfl (ob_t ht) (by decide) (by decide) fl_X1_40 rfl rfl dX1_value_52 ?_
      refine lv_iload hx hb dX1_value_55 (lv_at hl 0 rfl) ?_
      refine ti_aald (ci := 8) (k := 0) (n := 8) (t0 := 5) (Cn := RX2) (gg := (ti_men t)) (j := r_1.toNatClampNeg) C hw (ob_t ht) (by decide) (fun _ _ => rfl) rfl (vp_in_iff.mpr (by omega)) rfl dX1_value_57 ?_
      refine ti_get (ci := 2) (k := 2) (N := 10) (T := TX2) C hw iw_2 rfl ob_6 (by decide) (by decide) fl_X1_51 rfl rfl dX1_value_58 ?_
      refine lv_topi (fun x_10 ex_10 => ?_)
      obtain ⟨x_11, ex_11⟩ : ∃ z : Int64, z = x_10.toInt64 := ⟨_, rfl⟩
      refine lv_i2l (v := x_11) hx hb dX1_value_61 ex_11.symm ?_
      refine ti_last (ci := 1) (k := 2) (n := 6) C hw hlw (by decide) (fun _ _ => rfl) (by unfold vp_in; decide) dX1_value_62 (fun H locs hw => ?_)
      obtain ⟨M_12, hM_12⟩ : ∃ z : ti_M, z = uZ M_9 lw 2 (vp_updL (tZ M_9 lw 2) (1 : Int32).toNatClampNeg x_11) := ⟨_, rfl⟩
      have hw := hw.to hM_12.symm
      have iM_12 : cI Tc M_12 := cI_uZ iM_9 hM_12
      refine lv_aload_n hx hb dX1_value_63 rfl (lv_at hl 1 rfl) ?_
      refine ti_get (ci := 1) (k := 2) (N := 4) (T := TX1) (v := .ref (A lw 3)) C hw iw_1 rfl hlw (by decide) (by decide) fl_X1_21 rfl rfl dX1_value_64 ?_
      refine lv_iconst (v := 2) hx hb dX1_value_67 (by decide) ?_
      refine lv_aload_n hx hb dX1_value_68 rfl (lv_at hl 2 rfl) ?_
      refine ti_get (ci := 3) (k := 0) (N := 17) (T := TX3) (v := .ref (A t 0)) C hw iw_3 rfl hq (by decide) (by decide) fl_X1_36 rfl (ti_Tv ((tT_uZE hM_12).trans ((tT_uZE hM_9).trans hT))) dX1_value_69 ?_
      refine ti_get (ci := 8) (k := 0) (N := 12) (T := TX8) (v := .ref (A t 1)) C hw iw_8 rfl (ob_t ht) (by decide) (by decide) fl_X1_40 rfl rfl dX1_value_72 ?_
      refine lv_iload hx hb dX1_value_75 (lv_at hl 0 rfl) ?_
      refine ti_aald (ci := 8) (k := 0) (n := 8) (t0 := 5) (Cn := RX2) (gg := (ti_men t)) (j := r_1.toNatClampNeg) C hw (ob_t ht) (by decide) (fun _ _ => rfl) rfl (vp_in_iff.mpr (by omega)) rfl dX1_value_77 ?_
      refine ti_get (ci := 2) (k := 4) (N := 10) (T := TX2) C hw iw_2 rfl ob_6 (by decide) (by decide) fl_X1_54 rfl rfl dX1_value_78 ?_
      refine lv_topi (fun x_13 ex_13 => ?_)
      obtain ⟨x_14, ex_14⟩ : ∃ z : Int64, z = x_13.toInt64 := ⟨_, rfl⟩
      refine lv_i2l (v := x_14) hx hb dX1_value_81 ex_14.symm ?_
      refine ti_last (ci := 1) (k := 2) (n := 6) C hw hlw (by decide) (fun _ _ => rfl) (by unfold vp_in; decide) dX1_value_82 (fun H locs hw => ?_)
      obtain ⟨M_15, hM_15⟩ : ∃ z : ti_M, z = uZ M_12 lw 2 (vp_updL (tZ M_12 lw 2) (2 : Int32).toNatClampNeg x_14) := ⟨_, rfl⟩
      have hw := hw.to hM_15.symm
      have iM_15 : cI Tc M_15 := cI_uZ iM_12 hM_15
      refine lv_aload_n hx hb dX1_value_83 rfl (lv_at hl 1 rfl) ?_
      refine ti_get (ci := 1) (k := 2) (N := 4) (T := TX1) (v := .ref (A lw 3)) C hw iw_1 rfl hlw (by decide) (by decide) fl_X1_21 rfl rfl dX1_value_84 ?_
      refine lv_iconst (v := 3) hx hb dX1_value_87 (by decide) ?_
      refine lv_aload_n hx hb dX1_value_88 rfl (lv_at hl 2 rfl) ?_
      refine ti_get (ci := 3) (k := 12) (N := 17) (T := TX3) (v := .ref (A q 13)) C hw iw_3 rfl hq (by decide) (by decide) fl_X1_57 rfl rfl dX1_value_89 ?_
      refine lv_iload hx hb dX1_value_92 (lv_at hl 0 rfl) ?_
      refine ti_iald (ci := 3) (k := 12) (n := 8) C hw hq (by decide) (fun _ _ => rfl) (vp_in_iff.mpr (by omega)) dX1_value_94 ?_
      refine lv_topi (fun x_16 ex_16 => ?_)
      obtain ⟨x_17, ex_17⟩ : ∃ z : Int64, z = x_16.toInt64 := ⟨_, rfl⟩
      refine lv_i2l (v := x_17) hx hb dX1_value_95 ex_17.symm ?_
      refine ti_last (ci := 1) (k := 2) (n := 6) C hw hlw (by decide) (fun _ _ => rfl) (by unfold vp_in; decide) dX1_value_96 (fun H locs hw => ?_)
      obtain ⟨M_18, hM_18⟩ : ∃ z : ti_M, z = uZ M_15 lw 2 (vp_updL (tZ M_15 lw 2) (3 : Int32).toNatClampNeg x_17) := ⟨_, rfl⟩
      have hw := hw.to hM_18.symm
      have iM_18 : cI Tc M_18 := cI_uZ iM_15 hM_18
      refine lv_aload_n hx hb dX1_value_97 rfl (lv_at hl 1 rfl) ?_
      refine ti_get (ci := 1) (k := 2) (N := 4) (T := TX1) (v := .ref (A lw 3)) C hw iw_1 rfl hlw (by decide) (by decide) fl_X1_21 rfl rfl dX1_value_98 ?_
      refine lv_iconst (v := 4) hx hb dX1_value_101 (by decide) ?_
      refine lv_iload_n hx hb dX1_value_102 rfl (lv_at hl 4 rfl) ?_
      obtain ⟨x_19, ex_19⟩ : ∃ z : Int64, z = ps.toInt64 := ⟨_, rfl⟩
      refine lv_i2l (v := x_19) hx hb dX1_value_103 ex_19.symm ?_
      refine ti_last (ci := 1) (k := 2) (n := 6) C hw hlw (by decide) (fun _ _ => rfl) (by unfold vp_in; decide) dX1_value_104 (fun H locs hw => ?_)
      obtain ⟨M_20, hM_20⟩ : ∃ z : ti_M, z = uZ M_18 lw 2 (vp_updL (tZ M_18 lw 2) (4 : Int32).toNatClampNeg x_19) := ⟨_, rfl⟩
      have hw := hw.to hM_20.symm
      have iM_20 : cI Tc M_20 := cI_uZ iM_18 hM_20
      refine lv_aload_n hx hb dX1_value_105 rfl (lv_at hl 1 rfl) ?_
      refine ti_get (ci := 1) (k := 2) (N := 4) (T := TX1) (v := .ref (A lw 3)) C hw iw_1 rfl hlw (by decide) (by decide) fl_X1_21 rfl rfl dX1_value_106 ?_
      refine lv_iconst (v := 5) hx hb dX1_value_109 (by decide) ?_
      refine lv_aload_n hx hb dX1_value_110 rfl (lv_at hl 2 rfl) ?_
      refine lv_iload hx hb dX1_value_111 (lv_at hl 0 rfl) ?_
      refine ti_callVi (ci := 3) (av := [.int r_1]) C hw (s_X3_waited l D A cy hJ M_20 iM_20 q hq r_1 (by omega) (by omega)) ⟨ml_X1_60, ym_X3_waited, yv_X3_waited, yi_X3_waited, yc_X3_waited⟩ yd_X3_waited hq (by decide) rfl rfl hl.1 (Nat.le_of_ble_eq_true rfl) ⟨by decide, by decide⟩ ⟨Nat.zero_le _, Nat.zero_le _⟩ dX1_value_113 (fun r_21 M_22 H locs hp_22 hw => ?_)
      have hm := hp_22
      have hw := hw.to hm
      obtain ⟨x_23, ex_23⟩ : ∃ z : Int64, z = r_21.toInt64 := ⟨_, rfl⟩
      refine lv_i2l (v := x_23) hx hb dX1_value_116 ex_23.symm ?_
      refine ti_last (ci := 1) (k := 2) (n := 6) C hw hlw (by decide) (fun _ _ => rfl) (by unfold vp_in; decide) dX1_value_117 (fun H locs hw => ?_)
      obtain ⟨M_24, hM_24⟩ : ∃ z : ti_M, z = uZ M_20 lw 2 (vp_updL (tZ M_20 lw 2) (5 : Int32).toNatClampNeg x_23) := ⟨_, rfl⟩
      have hw := hw.to hM_24.symm
      have iM_24 : cI Tc M_24 := cI_uZ iM_20 hM_24
      refine lv_iconst (v := 0) hx hb dX1_value_118 (by decide) ?_
      refine lv_istore (lv' := [(5, .int 0), (4, .int r_1), (0, .ref (A lw 0)), (1, .ref (A q 0)), (2, .int pl), (3, .int ps)]) hx hb dX1_value_119 hl (by decide) rfl (fun ls hl => ?_)
      refine lv_iconst (v := 0) hx hb dX1_value_121 (by decide) ?_
      refine lv_istore (lv' := [(6, .int 0), (5, .int 0), (4, .int r_1), (0, .ref (A lw 0)), (1, .ref (A q 0)), (2, .int pl), (3, .int ps)]) hx hb dX1_value_122 hl (by decide) rfl (fun ls hl => ?_)
      have hl_124_34 : ∀ (n_35 : Nat) (x_25 : Int32) (x_28 : Int32) (M_31 : ti_M) (H : Heap) (locs : List Loc) (ls : Array Slot), (64 - x_25.toInt : Int).toNat < n_35 → (0 ≤ x_25.toInt) → (x_25.toInt ≤ 64) → (0 ≤ x_28.toInt) → (x_28.toInt ≤ 64) → (cI Tc M_31) → (M_31.2.2.2 = M.2.2.2) → (M_31.1 = M.1) → (x_28.toInt ≤ x_25.toInt) → ti_H ti_LT D A cy H0 M_31 H locs → lv_has ls 10 [(6, .int x_25), (5, .int x_28), (4, .int r_1), (0, .ref (A lw 0)), (1, .ref (A q 0)), (2, .int pl), (3, .int ps)] → W p l e (ti_rm 1) s m args below meth c H locs 0 0 Q (F0 m 124 ls []) := by
        intro n_35
        induction n_35 with
        | zero => intro x_25 x_28 M_31 H locs ls hf_35; exact absurd hf_35 (Nat.not_lt_zero _)
        | succ n_35 ih_35 =>
          intro x_25 x_28 M_31 H locs ls hf_35 b_26 b_27 b_29 b_30 iM_31 f_32 f_33 j_34 hw hl
          refine lv_iload hx hb dX1_value_124 (lv_at hl 0 rfl) ?_
          refine lv_aload_n hx hb dX1_value_126 rfl (lv_at hl 3 rfl) ?_
          refine ti_get (ci := 1) (k := 3) (N := 4) (T := TX1) C hw iw_1 rfl hlw (by decide) (by decide) fl_X1_24 rfl rfl dX1_value_127 ?_
          refine ti_top (y := x_4) ((tI_fr f_33).trans ex_4.symm) ?_
          have u_36 : (tI M_31 lw 3).toInt = (x_4 : Int32).toInt := by rw [((tI_fr f_33).trans ex_4.symm)]
          refine sb_icmp_ge (tgt := 299) hx hb rfl rfl dX1_value_130 (by decide) (fun c_130_36 => ?_) (fun c_130_36 => ?_)
          · refine lv_iload hx hb dX1_value_299 (lv_at hl 1 rfl) ?_
            refine lv_iconst (v := 1) hx hb dX1_value_301 (by decide) ?_
            refine sb_icmp_ne (tgt := 314) hx hb rfl (by decide : (1 : Int32).toInt = 1) dX1_value_302 (by decide) (fun c_302_80 => ?_) (fun c_302_80 => ?_)
            · refine lv_ldc2 (v := (-9223372036854775808)) hx hb C.2.2.2.1 (C.2.2.1 _ cn_X1_34) dX1_value_314 ?_
              exact hQ _ _ _ _ _ _ hw (⟨iM_31, (f_32), (f_33)⟩) dX1_value_317
            · refine lv_aload_n hx hb dX1_value_305 rfl (lv_at hl 3 rfl) ?_
              refine ti_get (ci := 1) (k := 1) (N := 4) (T := TX1) (v := .ref (A lw 2)) C hw iw_1 rfl hlw (by decide) (by decide) fl_X1_17 rfl rfl dX1_value_306 ?_
              refine lv_iconst (v := 0) hx hb dX1_value_309 (by decide) ?_
              refine ti_lald (ci := 1) (k := 1) (n := 64) C hw hlw (by decide) (fun _ _ => rfl) (by unfold vp_in; decide) dX1_value_310 ?_
              refine lv_topl (fun x_82 ex_82 => ?_)
              refine lv_goto (tgt := 317) hx hb dX1_value_311 (by decide) ?_
              exact hQ _ _ _ _ _ _ hw (⟨iM_31, (f_32), (f_33)⟩) dX1_value_317
          · refine lv_aload_n hx hb dX1_value_133 rfl (lv_at hl 3 rfl) ?_
            refine ti_get (ci := 1) (k := 0) (N := 4) (T := TX1) (v := .ref (A lw 1)) C hw iw_1 rfl hlw (by decide) (by decide) fl_X1_11 rfl rfl dX1_value_134 ?_
            refine lv_iload hx hb dX1_value_137 (lv_at hl 0 rfl) ?_
            refine ti_iald (ci := 1) (k := 0) (n := 64) C hw hlw (by decide) (fun _ _ => rfl) (vp_in_iff.mpr (by omega)) dX1_value_139 ?_
            refine lv_topi (fun x_38 ex_38 => ?_)
            have kx_38 : 0 ≤ x_38.toInt ∨ x_38.toInt ≤ -16 := cI_ry iM_31 hlw.1 ex_38
            refine lv_istore (lv' := [(7, .int x_38), (6, .int x_25), (5, .int x_28), (4, .int r_1), (0, .ref (A lw 0)), (1, .ref (A q 0)), (2, .int pl), (3, .int ps)]) hx hb dX1_value_140 hl (by decide) rfl (fun ls hl => ?_)
            refine lv_iload hx hb dX1_value_142 (lv_at hl 0 rfl) ?_
            refine lv_bipush (v := (-21)) hx hb dX1_value_144 (by decide) ?_
            have hj_293_79 : ∀ (x_71 : Int32) (M_74 : ti_M) (H : Heap) (locs : List Loc) (ls : Array Slot), ((-1) ≤ x_71.toInt) → (x_71.toInt ≤ 65) → (cI Tc M_74) → (M_74.2.2.2 = M.2.2.2) → (M_74.1 = M.1) → (0 ≤ x_71.toInt) → (x_71.toInt ≤ x_25.toInt + 1) → (x_71.toInt ≤ 64) → ti_H ti_LT D A cy H0 M_74 H locs → lv_has ls 10 [(5, .int x_71), (7, .int x_38), (6, .int x_25), (4, .int r_1), (0, .ref (A lw 0)), (1, .ref (A q 0)), (2, .int pl), (3, .int ps)] → W p l e (ti_rm 1) s m args below meth c H locs 0 0 Q (F0 m 293 ls []) := by
              intro x_71 M_74 H locs ls b_72 b_73 iM_74 f_75 f_76 j_77 j_78 j_79 hw hl
              obtain ⟨x_80, ex_80⟩ : ∃ z : Int32, z = x_25 + 1 := ⟨_, rfl⟩
              have tx_80 : x_80.toInt = x_25.toInt + 1 := i_add ex_80 rfl (by decide) (by omega) (by omega)
              refine lv_iinc (v := x_80) (lv' := [(6, .int x_80), (5, .int x_71), (7, .int x_38), (4, .int r_1), (0, .ref (A lw 0)), (1, .ref (A q 0)), (2, .int pl), (3, .int ps)]) hx hb dX1_value_293 hl (k := 2) rfl (by rw [ex_80]; rfl) (by decide) rfl (fun ls hl => ?_)
              refine lv_goto (tgt := 124) hx hb dX1_value_296 (by decide) ?_
              exact ih_35 x_80 x_71 M_74 _ _ _ (by omega) (by first | omega | decide) (by first | omega | decide) (by first | omega | decide) (by first | omega | decide) iM_74 (f_75) (f_76) (by first | omega | decide) hw (lv_sub hl [0, 1, 3, 4, 5, 6, 7] rfl)
            refine sb_icmp_lt (tgt := 184) hx hb rfl (by decide : ((-21) : Int32).toInt = (-21)) dX1_value_146 (by decide) (fun c_146_38 => ?_) (fun c_146_38 => ?_)
            · refine lv_iload hx hb dX1_value_184 (lv_at hl 0 rfl) ?_
              refine lv_bipush (v := (-24)) hx hb dX1_value_186 (by decide) ?_
              have hj_227_56 : ∀  (H : Heap) (locs : List Loc) (ls : Array Slot), ti_H ti_LT D A cy H0 M_31 H locs → lv_has ls 10 [(7, .int x_38), (6, .int x_25), (5, .int x_28), (4, .int r_1), (0, .ref (A lw 0)), (1, .ref (A q 0)), (2, .int pl), (3, .int ps)] → W p l e (ti_rm 1) s m args below meth c H locs 0 0 Q (F0 m 227 ls []) := by
                intro  H locs ls  hw hl
                refine lv_iload hx hb dX1_value_227 (lv_at hl 2 rfl) ?_
                refine lv_iconst (v := 1) hx hb dX1_value_229 (by decide) ?_
                refine sb_icmp_le (tgt := 293) hx hb rfl (by decide : (1 : Int32).toInt = 1) dX1_value_230 (by decide) (fun c_230_56 => ?_) (fun c_230_56 => ?_)
                · exact hj_293_79 x_28 M_31 _ _ _ (by first | omega | decide) (by first | omega | decide) iM_31 (f_32) (f_33) (by first | omega | decide) (by first | omega | decide) (by first | omega | decide) hw (lv_sub hl [2, 0, 1, 3, 4, 5, 6, 7] rfl)
                · obtain ⟨x_58, ex_58⟩ : ∃ z : Int32, z = x_28 + (-1) := ⟨_, rfl⟩
                  have tx_58 : x_58.toInt = x_28.toInt + (-1) := i_add ex_58 rfl (by decide) (by omega) (by omega)
                  refine lv_iinc (v := x_58) (lv' := [(5, .int x_58), (7, .int x_38), (6, .int x_25), (4, .int r_1), (0, .ref (A lw 0)), (1, .ref (A q 0)), (2, .int pl), (3, .int ps)]) hx hb dX1_value_233 hl (k := 2) rfl (by rw [ex_58]; rfl) (by decide) rfl (fun ls hl => ?_)
                  refine lv_iload hx hb dX1_value_236 (lv_at hl 1 rfl) ?_
                  refine lv_ineg hx hb dX1_value_238 ?_
                  refine lv_topi (fun x_59 ex_59 => ?_)
                  refine lv_aload_n hx hb dX1_value_239 rfl (lv_at hl 4 rfl) ?_
                  refine ti_get (ci := 1) (k := 1) (N := 4) (T := TX1) (v := .ref (A lw 2)) C hw iw_1 rfl hlw (by decide) (by decide) fl_X1_17 rfl rfl dX1_value_240 ?_
                  refine lv_iload hx hb dX1_value_243 (lv_at hl 0 rfl) ?_
                  refine lv_iconst (v := 1) hx hb dX1_value_245 (by decide) ?_
                  refine lv_isub hx hb dX1_value_246 ?_
                  refine lv_topi (fun x_60 ex_60 => ?_)
                  have tx_60 : x_60.toInt = x_58.toInt - 1 := i_sub ex_60 rfl (by decide : (1 : Int32).toInt = 1) (by omega) (by omega)
                  refine ti_lald (ci := 1) (k := 1) (n := 64) C hw hlw (by decide) (fun _ _ => rfl) (vp_in_iff.mpr (by omega)) dX1_value_247 ?_
                  refine lv_topl (fun x_61 ex_61 => ?_)
                  refine lv_aload_n hx hb dX1_value_248 rfl (lv_at hl 4 rfl) ?_
                  refine ti_get (ci := 1) (k := 1) (N := 4) (T := TX1) (v := .ref (A lw 2)) C hw iw_1 rfl hlw (by decide) (by decide) fl_X1_17 rfl rfl dX1_value_249 ?_
                  refine lv_iload hx hb dX1_value_252 (lv_at hl 0 rfl) ?_
                  refine ti_lald (ci := 1) (k := 1) (n := 64) C hw hlw (by decide) (fun _ _ => rfl) (vp_in_iff.mpr (by omega)) dX1_value_254 ?_
                  refine lv_topl (fun x_62 ex_62 => ?_)
                  refine ti_callSl (av := [.int x_59, .long x_61, .long x_62]) C hw (s_X1_work l D A cy hJ M_31 iM_31 x_59 x_61 x_62) ⟨ml_X1_63, ys_X1_work, yi_X1_work, yc_X1_work⟩ yd_X1_work rfl hl.1 (Nat.le_of_ble_eq_true rfl) ⟨by decide, by decide⟩ ⟨Nat.zero_le _, Nat.zero_le _⟩ dX1_value_255 (fun r_63 M_64 H locs hp_64 hw => ?_)
                  have hm := hp_64
                  have hw := hw.to hm
                  refine lv_lstore (lv' := [(8, .long r_63), (5, .int x_58), (7, .int x_38), (6, .int x_25), (4, .int r_1), (0, .ref (A lw 0)), (1, .ref (A q 0)), (2, .int pl), (3, .int ps)]) hx hb dX1_value_258 hl (by decide) rfl (fun ls hl => ?_)
                  refine lv_lload hx hb dX1_value_260 (lv_at hl 0 rfl) ?_
                  refine lv_ldc2 (v := 1000000000000) hx hb C.2.2.2.1 (C.2.2.1 _ cn_X1_67) dX1_value_262 ?_
                  refine W.lcmp hx hb dX1_value_265 ?_
                  refine lv_topi (fun x_65 ex_65 => ?_)
                  have hj_278_68 : ∀  (H : Heap) (locs : List Loc) (ls : Array Slot), ti_H ti_LT D A cy H0 M_31 H locs → lv_has ls 10 [(8, .long r_63), (5, .int x_58), (7, .int x_38), (6, .int x_25), (4, .int r_1), (0, .ref (A lw 0)), (1, .ref (A q 0)), (2, .int pl), (3, .int ps)] → W p l e (ti_rm 1) s m args below meth c H locs 0 0 Q (F0 m 278 ls []) := by
                    intro  H locs ls  hw hl
                    refine lv_ldc2 (v := (-9223372036854775808)) hx hb C.2.2.2.1 (C.2.2.1 _ cn_X1_34) dX1_value_278 ?_
                    exact hQ _ _ _ _ _ _ hw (⟨iM_31, (f_32), (f_33)⟩) dX1_value_281
                  refine sb_if_gt (tgt := 278) hx hb rfl dX1_value_266 (by decide) (fun c_266_65 => ?_) (fun c_266_65 => ?_)
                  · exact hj_278_68  _ _ _  hw (lv_sub hl [0, 1, 2, 3, 4, 5, 6, 7, 8] rfl)
                  · refine lv_lload hx hb dX1_value_269 (lv_at hl 0 rfl) ?_
                    refine lv_ldc2 (v := (-1000000000000)) hx hb C.2.2.2.1 (C.2.2.1 _ cn_X1_69) dX1_value_271 ?_
                    refine W.lcmp hx hb dX1_value_274 ?_
                    refine lv_topi (fun x_67 ex_67 => ?_)
                    refine sb_if_ge (tgt := 282) hx hb rfl dX1_value_275 (by decide) (fun c_275_67 => ?_) (fun c_275_67 => ?_)
                    · refine lv_aload_n hx hb dX1_value_282 rfl (lv_at hl 5 rfl) ?_
                      refine ti_get (ci := 1) (k := 1) (N := 4) (T := TX1) (v := .ref (A lw 2)) C hw iw_1 rfl hlw (by decide) (by decide) fl_X1_17 rfl rfl dX1_value_283 ?_
                      refine lv_iload hx hb dX1_value_286 (lv_at hl 1 rfl) ?_
                      refine lv_iconst (v := 1) hx hb dX1_value_288 (by decide) ?_
                      refine lv_isub hx hb dX1_value_289 ?_
                      refine lv_topi (fun x_69 ex_69 => ?_)
                      have tx_69 : x_69.toInt = x_58.toInt - 1 := i_sub ex_69 rfl (by decide : (1 : Int32).toInt = 1) (by omega) (by omega)
                      refine lv_lload hx hb dX1_value_290 (lv_at hl 0 rfl) ?_
                      refine ti_last (ci := 1) (k := 1) (n := 64) C hw hlw (by decide) (fun _ _ => rfl) (vp_in_iff.mpr (by omega)) dX1_value_292 (fun H locs hw => ?_)
                      obtain ⟨M_70, hM_70⟩ : ∃ z : ti_M, z = uZ M_31 lw 1 (vp_updL (tZ M_31 lw 1) (x_69 : Int32).toNatClampNeg r_63) := ⟨_, rfl⟩
                      have hw := hw.to hM_70.symm
                      have iM_70 : cI Tc M_70 := cI_uZ iM_31 hM_70
                      exact hj_293_79 x_58 M_70 _ _ _ (by first | omega | decide) (by first | omega | decide) iM_70 ((rf_Z hM_70).trans f_32) ((ra_Z hM_70).trans f_33) (by first | omega | decide) (by first | omega | decide) (by first | omega | decide) hw (lv_sub hl [1, 2, 3, 4, 5, 6, 7, 8] rfl)
                    · exact hj_278_68  _ _ _  hw (lv_sub hl [0, 1, 2, 3, 4, 5, 6, 7, 8] rfl)
              refine sb_icmp_ne (tgt := 227) hx hb rfl (by decide : ((-24) : Int32).toInt = (-24)) dX1_value_188 (by decide) (fun c_188_47 => ?_) (fun c_188_47 => ?_)
              · exact hj_227_56  _ _ _  hw (lv_sub hl [0, 1, 2, 3, 4, 5, 6, 7] rfl)
              · refine lv_iload hx hb dX1_value_191 (lv_at hl 2 rfl) ?_
                refine sb_if_le (tgt := 227) hx hb rfl dX1_value_193 (by decide) (fun c_193_48 => ?_) (fun c_193_48 => ?_)
                · exact hj_227_56  _ _ _  hw (lv_sub hl [0, 1, 2, 3, 4, 5, 6, 7] rfl)
                · refine lv_aload_n hx hb dX1_value_196 rfl (lv_at hl 4 rfl) ?_
                  refine ti_get (ci := 1) (k := 1) (N := 4) (T := TX1) (v := .ref (A lw 2)) C hw iw_1 rfl hlw (by decide) (by decide) fl_X1_17 rfl rfl dX1_value_197 ?_
                  refine lv_iload hx hb dX1_value_200 (lv_at hl 2 rfl) ?_
                  refine lv_iconst (v := 1) hx hb dX1_value_202 (by decide) ?_
                  refine lv_isub hx hb dX1_value_203 ?_
                  refine lv_topi (fun x_50 ex_50 => ?_)
                  have tx_50 : x_50.toInt = x_28.toInt - 1 := i_sub ex_50 rfl (by decide : (1 : Int32).toInt = 1) (by omega) (by omega)
                  refine lv_aload_n hx hb dX1_value_204 rfl (lv_at hl 4 rfl) ?_
                  refine ti_get (ci := 1) (k := 1) (N := 4) (T := TX1) (v := .ref (A lw 2)) C hw iw_1 rfl hlw (by decide) (by decide) fl_X1_17 rfl rfl dX1_value_205 ?_
                  refine lv_iload hx hb dX1_value_208 (lv_at hl 2 rfl) ?_
                  refine lv_iconst (v := 1) hx hb dX1_value_210 (by decide) ?_
                  refine lv_isub hx hb dX1_value_211 ?_
                  refine lv_topi (fun x_51 ex_51 => ?_)
                  have tx_51 : x_51.toInt = x_28.toInt - 1 := i_sub ex_51 rfl (by decide : (1 : Int32).toInt = 1) (by omega) (by omega)
                  refine ti_lald (ci := 1) (k := 1) (n := 64) C hw hlw (by decide) (fun _ _ => rfl) (vp_in_iff.mpr (by omega)) dX1_value_212 ?_
                  refine lv_topl (fun x_52 ex_52 => ?_)
                  refine lv_lconst (v := 0) hx hb dX1_value_213 (by decide) ?_
                  refine W.lcmp hx hb dX1_value_214 ?_
                  refine lv_topi (fun x_53 ex_53 => ?_)
                  have hj_223_55 : ∀ (x_55 : Int64) (H : Heap) (locs : List Loc) (ls : Array Slot), ti_H ti_LT D A cy H0 M_31 H locs → lv_has ls 10 [(7, .int x_38), (6, .int x_25), (5, .int x_28), (4, .int r_1), (0, .ref (A lw 0)), (1, .ref (A q 0)), (2, .int pl), (3, .int ps)] → W p l e (ti_rm 1) s m args below meth c H locs 0 0 Q (F0 m 223 ls [.long x_55, .int x_50, .ref (A lw 2)]) := by
                    intro x_55 H locs ls  hw hl
                    refine ti_last (ci := 1) (k := 1) (n := 64) C hw hlw (by decide) (fun _ _ => rfl) (vp_in_iff.mpr (by omega)) dX1_value_223 (fun H locs hw => ?_)
                    obtain ⟨M_56, hM_56⟩ : ∃ z : ti_M, z = uZ M_31 lw 1 (vp_updL (tZ M_31 lw 1) (x_50 : Int32).toNatClampNeg x_55) := ⟨_, rfl⟩
                    have hw := hw.to hM_56.symm
                    have iM_56 : cI Tc M_56 := cI_uZ iM_31 hM_56
                    refine lv_goto (tgt := 293) hx hb dX1_value_224 (by decide) ?_
                    exact hj_293_79 x_28 M_56 _ _ _ (by first | omega | decide) (by first | omega | decide) iM_56 ((rf_Z hM_56).trans f_32) ((ra_Z hM_56).trans f_33) (by first | omega | decide) (by first | omega | decide) (by first | omega | decide) hw (lv_sub hl [2, 0, 1, 3, 4, 5, 6, 7] rfl)
                  refine sb_if_ne (tgt := 222) hx hb rfl dX1_value_215 (by decide) (fun c_215_53 => ?_) (fun c_215_53 => ?_)
                  · refine lv_lconst (v := 0) hx hb dX1_value_222 (by decide) ?_
                    exact hj_223_55 0 _ _ _  hw (lv_sub hl [0, 1, 2, 3, 4, 5, 6, 7] rfl)
                  · refine lv_lconst (v := 1) hx hb dX1_value_218 (by decide) ?_
                    refine lv_goto (tgt := 223) hx hb dX1_value_219 (by decide) ?_
                    exact hj_223_55 1 _ _ _  hw (lv_sub hl [0, 1, 2, 3, 4, 5, 6, 7] rfl)
            · refine lv_aload_n hx hb dX1_value_149 rfl (lv_at hl 4 rfl) ?_
              refine ti_get (ci := 1) (k := 1) (N := 4) (T := TX1) (v := .ref (A lw 2)) C hw iw_1 rfl hlw (by decide) (by decide) fl_X1_17 rfl rfl dX1_value_150 ?_
              refine lv_iload hx hb dX1_value_153 (lv_at hl 2 rfl) ?_
              refine lv_iload hx hb dX1_value_155 (lv_at hl 0 rfl) ?_
              have hj_177_45 : ∀ (x_45 : Int64) (H : Heap) (locs : List Loc) (ls : Array Slot), ti_H ti_LT D A cy H0 M_31 H locs → lv_has ls 10 [(7, .int x_38), (6, .int x_25), (5, .int x_28), (4, .int r_1), (0, .ref (A lw 0)), (1, .ref (A q 0)), (2, .int pl), (3, .int ps)] → W p l e (ti_rm 1) s m args below meth c H locs 0 0 Q (F0 m 177 ls [.long x_45, .int x_28, .ref (A lw 2)]) := by
                intro x_45 H locs ls  hw hl
                refine ti_last (ci := 1) (k := 1) (n := 64) C hw hlw (by decide) (fun _ _ => rfl) (vp_in_iff.mpr (by omega)) dX1_value_177 (fun H locs hw => ?_)
                obtain ⟨M_46, hM_46⟩ : ∃ z : ti_M, z = uZ M_31 lw 1 (vp_updL (tZ M_31 lw 1) (x_28 : Int32).toNatClampNeg x_45) := ⟨_, rfl⟩
                have hw := hw.to hM_46.symm
                have iM_46 : cI Tc M_46 := cI_uZ iM_31 hM_46
                obtain ⟨x_47, ex_47⟩ : ∃ z : Int32, z = x_28 + 1 := ⟨_, rfl⟩
                have tx_47 : x_47.toInt = x_28.toInt + 1 := i_add ex_47 rfl (by decide) (by omega) (by omega)
                refine lv_iinc (v := x_47) (lv' := [(5, .int x_47), (7, .int x_38), (6, .int x_25), (4, .int r_1), (0, .ref (A lw 0)), (1, .ref (A q 0)), (2, .int pl), (3, .int ps)]) hx hb dX1_value_178 hl (k := 2) rfl (by rw [ex_47]; rfl) (by decide) rfl (fun ls hl => ?_)
                refine lv_goto (tgt := 293) hx hb dX1_value_181 (by decide) ?_
                exact hj_293_79 x_47 M_46 _ _ _ (by first | omega | decide) (by first | omega | decide) iM_46 ((rf_Z hM_46).trans f_32) ((ra_Z hM_46).trans f_33) (by first | omega | decide) (by first | omega | decide) (by first | omega | decide) hw (lv_sub hl [0, 1, 2, 3, 4, 5, 6, 7] rfl)
              refine sb_if_lt (tgt := 166) hx hb rfl dX1_value_157 (by decide) (fun c_157_39 => ?_) (fun c_157_39 => ?_)
              · refine lv_aload_n hx hb dX1_value_166 rfl (lv_at hl 4 rfl) ?_
                refine ti_get (ci := 1) (k := 2) (N := 4) (T := TX1) (v := .ref (A lw 3)) C hw iw_1 rfl hlw (by decide) (by decide) fl_X1_21 rfl rfl dX1_value_167 ?_
                refine lv_iload hx hb dX1_value_170 (lv_at hl 0 rfl) ?_
                refine lv_ineg hx hb dX1_value_172 ?_
                refine lv_topi (fun x_42 ex_42 => ?_)
                have tx_42 : x_42.toInt = -x_38.toInt := i_neg ex_42 rfl (by omega)
                refine lv_bipush (v := 16) hx hb dX1_value_173 (by decide) ?_
                refine lv_isub hx hb dX1_value_175 ?_
                refine lv_topi (fun x_43 ex_43 => ?_)
                have lox_43x_42 := x_42.le_toInt
                have hix_43x_42 := x_42.toInt_lt
                have tx_43 : x_43.toInt = x_42.toInt - 16 := i_sub ex_43 rfl (by decide : (16 : Int32).toInt = 16) (by omega) (by omega)
                refine ti_lald (ci := 1) (k := 2) (n := 6) C hw hlw (by decide) (fun _ _ => rfl) (vp_in_iff.mpr (by omega)) dX1_value_176 ?_
                refine lv_topl (fun x_44 ex_44 => ?_)
                exact hj_177_45 x_44 _ _ _  hw (lv_sub hl [0, 1, 2, 3, 4, 5, 6, 7] rfl)
              · refine lv_iload hx hb dX1_value_160 (lv_at hl 0 rfl) ?_
                obtain ⟨x_41, ex_41⟩ : ∃ z : Int64, z = x_38.toInt64 := ⟨_, rfl⟩
                refine lv_i2l (v := x_41) hx hb dX1_value_162 ex_41.symm ?_
                refine lv_goto (tgt := 177) hx hb dX1_value_163 (by decide) ?_
                exact hj_177_45 x_41 _ _ _  hw (lv_sub hl [0, 1, 2, 3, 4, 5, 6, 7] rfl)
      exact hl_124_34 ((64 - 0 : Int).toNat + 1) 0 0 M_24 _ _ _ (Nat.lt_succ_self _) (by have lt0 : (0 : Int32).toInt = 0 := (by decide); first | omega | decide) (by have lt0 : (0 : Int32).toInt = 0 := (by decide); first | omega | decide) (by have lt0 : (0 : Int32).toInt = 0 := (by decide); first | omega | decide) (by have lt0 : (0 : Int32).toInt = 0 := (by decide); first | omega | decide) iM_24 ((rf_Z hM_24).trans ((rf_Z hM_20).trans ((rf_Z hM_18).trans ((rf_Z hM_15).trans ((rf_Z hM_12).trans (rf_Z hM_9)))))) ((ra_Z hM_24).trans ((ra_Z hM_20).trans ((ra_Z hM_18).trans ((ra_Z hM_15).trans ((ra_Z hM_12).trans (ra_Z hM_9)))))) (by have lt0 : (0 : Int32).toInt = 0 := (by decide); first | omega | decide) hw (lv_sub hl [0, 1, 2, 3, 4, 5, 6] rfl)
    · exact hj_19_5  _ _ _  hw (lv_sub hl [0, 1, 2, 3, 4] rfl)
set_option maxHeartbeats 4000000 in
set_option maxRecDepth 100000 in
theorem s_X3_put (l : Launch) (D : va_G) (A : Nat → Nat → Nat) (cy : Nat → ClassId) (hJ : ti_inj ti_LT A) (M : ti_M) (hI : cI Tc M) (a : Int64) (b1 b2 b3 : Int32) : ti_Ki l yX3_put cX3_put 5 (some .int) 1 ti_LT D A cy M [.long a, .int b1, .int b2, .int b3] (fun r M2 => M2 = M) := by
  refine ti_eI yp_X3_put hJ ti_LT_nd (Nat.le_of_ble_eq_true rfl) ?_
  intro p e s m args below meth c Q H0 C hQ hw ls hl
  have hx := C.1
  have hb := C.2.1
  have hl : lv_has ls 5 [(0, .long a), (2, .int b1), (3, .int b2), (4, .int b3)] := hl
  refine lv_lload_n hx hb dX3_put_0 rfl (lv_at hl 0 rfl) ?_
  refine lv_ldc2 (v := (-9223372036854775808)) hx hb C.2.2.2.1 (C.2.2.1 _ cn_X3_108) dX3_put_1 ?_
  refine W.lcmp hx hb dX3_put_4 ?_
  refine lv_topi (fun x_1 ex_1 => ?_)
  refine sb_if_ne (tgt := 11) hx hb rfl dX3_put_5 (by decide) (fun c_5_1 => ?_) (fun c_5_1 => ?_)
  · refine lv_iload_n hx hb dX3_put_11 rfl (lv_at hl 1 rfl) ?_
    obtain ⟨x_3, ex_3⟩ : ∃ z : Int64, z = b1.toInt64 := ⟨_, rfl⟩
    refine lv_i2l (v := x_3) hx hb dX3_put_12 ex_3.symm ?_
    refine lv_iload_n hx hb dX3_put_13 rfl (lv_at hl 2 rfl) ?_
    obtain ⟨x_4, ex_4⟩ : ∃ z : Int64, z = b2.toInt64 := ⟨_, rfl⟩
    refine lv_i2l (v := x_4) hx hb dX3_put_14 ex_4.symm ?_
    refine lv_lload_n hx hb dX3_put_15 rfl (lv_at hl 0 rfl) ?_
    refine ti_minl C ml_X3_110 hl.1 (by decide) (Nat.le_of_ble_eq_true rfl) ⟨Nat.zero_le _, Nat.zero_le _⟩ dX3_put_16 ?_
    refine lv_topl (fun x_5 ex_5 => ?_)
    refine ti_maxl C ml_X3_116 hl.1 (by decide) (Nat.le_of_ble_eq_true rfl) ⟨Nat.zero_le _, Nat.zero_le _⟩ dX3_put_19 ?_
    refine lv_topl (fun x_6 ex_6 => ?_)
    obtain ⟨x_7, ex_7⟩ : ∃ z : Int32, z = (x_6 : Int64).toInt32 := ⟨_, rfl⟩
    refine lv_l2i (v := x_7) hx hb dX3_put_22 ex_7.symm ?_
    exact hQ _ _ _ _ _ _ hw rfl rfl dX3_put_23
  · refine lv_iload hx hb dX3_put_8 (lv_at hl 3 rfl) ?_
    exact hQ _ _ _ _ _ _ hw rfl rfl dX3_put_10
set_option maxHeartbeats 4000000 in
set_option maxRecDepth 100000 in
theorem s_X3_need (l : Launch) (D : va_G) (A : Nat → Nat → Nat) (cy : Nat → ClassId) (hJ : ti_inj ti_LT A) (M : ti_M) (hI : cI Tc M) (q t : Nat) (hq : ti_ob ti_LT q 3) (ht : t = 3 ∨ t = 4) (hT : tT M q 0 = some t) : ti_Ki l yX3_need cX3_need 1 (some .int) 2 ti_LT D A cy M [.ref (A q 0)] (fun r M2 => cI Tc M2 ∧ M2.2.2.2 = M.2.2.2 ∧ M2.1 = M.1) := by
  refine ti_eI yp_X3_need hJ ti_LT_nd (Nat.le_of_ble_eq_true rfl) ?_
  intro p e s m args below meth c Q H0 C hQ hw ls hl
  have hx := C.1
  have hb := C.2.1
  have hl : lv_has ls 1 [(0, .ref (A q 0))] := hl
  refine lv_aload_n hx hb dX3_need_0 rfl (lv_at hl 0 rfl) ?_
  refine ti_get (ci := 3) (k := 0) (N := 17) (T := TX3) (v := .ref (A t 0)) C hw iw_3 rfl hq (by decide) (by decide) fl_X3_45 rfl (ti_Tv (hT)) dX3_need_1 ?_
  refine ti_get (ci := 8) (k := 2) (N := 12) (T := TX8) (v := .ref (A t 3)) C hw iw_8 rfl (ob_t ht) (by decide) (by decide) fl_X3_119 rfl rfl dX3_need_4 ?_
  refine lv_iconst (v := 2) hx hb dX3_need_7 (by decide) ?_
  refine ti_aald (ci := 8) (k := 2) (n := 3) (t0 := 4) (Cn := RX1) (gg := (ti_laws t)) (j := 2) C hw (ob_t ht) (by decide) (fun _ _ => rfl) rfl (by unfold vp_in; decide) (by decide) dX3_need_8 ?_
  have ob_1 : ti_ob ti_LT (ti_laws t 2) 1 := ob_l ht (by decide)
  refine lv_aload_n hx hb dX3_need_9 rfl (lv_at hl 0 rfl) ?_
  refine lv_iconst (v := 0) hx hb dX3_need_10 (by decide) ?_
  refine lv_aload_n hx hb dX3_need_11 rfl (lv_at hl 0 rfl) ?_
  refine ti_get (ci := 3) (k := 3) (N := 17) (T := TX3) C hw iw_3 rfl hq (by decide) (by decide) fl_X3_56 rfl rfl dX3_need_12 ?_
  refine lv_topi (fun x_2 ex_2 => ?_)
  have bx_2 : 0 ≤ x_2.toInt ∧ x_2.toInt ≤ 8 := cI_rd hI hq.1 ex_2
  have ux_2 : (tI M q 3).toInt = x_2.toInt := by rw [ex_2]
  refine ti_callVl (ci := 1) (av := [.ref (A q 0), .int 0, .int x_2]) C hw (s_X1_value l D A cy hJ M hI (ti_laws t 2) q t ob_1 hq ht (hT) 0 x_2) ⟨ml_X3_123, ym_X1_value, yv_X1_value, yi_X1_value, yc_X1_value⟩ yd_X1_value ob_1 (by decide) rfl rfl hl.1 (Nat.le_of_ble_eq_true rfl) ⟨by decide, by decide⟩ ⟨Nat.zero_le _, Nat.zero_le _⟩ dX3_need_15 (fun r_3 M_4 H locs hp_4 hw => ?_)
  obtain ⟨iM_4, q_5, q_6⟩ := hp_4
  refine lv_iconst (v := 1) hx hb dX3_need_18 (by decide) ?_
  refine lv_bipush (v := 9) hx hb dX3_need_19 (by decide) ?_
  refine lv_aload_n hx hb dX3_need_21 rfl (lv_at hl 0 rfl) ?_
  refine ti_get (ci := 3) (k := 3) (N := 17) (T := TX3) C hw iw_3 rfl hq (by decide) (by decide) fl_X3_56 rfl rfl dX3_need_22 ?_
  refine ti_top (y := x_2) ((tI_fr q_6).trans ex_2.symm) ?_
  have u_7 : (tI M_4 q 3).toInt = (x_2 : Int32).toInt := by rw [((tI_fr q_6).trans ex_2.symm)]
  refine lv_iconst (v := 1) hx hb dX3_need_25 (by decide) ?_
  refine lv_iadd hx hb dX3_need_26 ?_
  refine lv_topi (fun x_8 ex_8 => ?_)
  have tx_8 : x_8.toInt = x_2.toInt + 1 := i_add ex_8 rfl (by decide : (1 : Int32).toInt = 1) (by omega) (by omega)
  refine lv_iconst (v := 2) hx hb dX3_need_27 (by decide) ?_
  refine lv_idiv hx hb dX3_need_28 (by decide) ?_
  refine lv_topi (fun x_9 ex_9 => ?_)
  refine ti_callSi (av := [.long r_3, .int 1, .int 9, .int x_9]) C hw (s_X3_put l D A cy hJ M_4 iM_4 r_3 1 9 x_9) ⟨ml_X3_127, ys_X3_put, yi_X3_put, yc_X3_put⟩ yd_X3_put rfl hl.1 (Nat.le_of_ble_eq_true rfl) ⟨by decide, by decide⟩ ⟨Nat.zero_le _, Nat.zero_le _⟩ dX3_need_29 (fun r_10 M_11 H locs hp_11 hw => ?_)
  have hm := hp_11
  have hw := hw.to hm
  exact hQ _ _ _ _ _ _ hw rfl (⟨iM_4, (q_5), (q_6)⟩) dX3_need_32
set_option maxHeartbeats 4000000 in
set_option maxRecDepth 100000 in
theorem s_X3_isGuarded (l : Launch) (D : va_G) (A : Nat → Nat → Nat) (cy : Nat → ClassId) (hJ : ti_inj ti_LT A) (M : ti_M) (hI : cI Tc M) (q t : Nat) (hq : ti_ob ti_LT q 3) (ht : t = 3 ∨ t = 4) (hT : tT M q 0 = some t) : ti_Ki l yX3_isGuarded cX3_isGuarded 1 (some .boolean) 0 ti_LT D A cy M [.ref (A q 0)] (fun r M2 => M2 = M) := by
  refine ti_eI yp_X3_isGuarded hJ ti_LT_nd (Nat.le_of_ble_eq_true rfl) ?_
  intro p e s m args below meth c Q H0 C hQ hw ls hl
  have hx := C.1
  have hb := C.2.1
  have hl : lv_has ls 1 [(0, .ref (A q 0))] := hl
  refine lv_aload_n hx hb dX3_isGuarded_0 rfl (lv_at hl 0 rfl) ?_
  refine ti_get (ci := 3) (k := 3) (N := 17) (T := TX3) C hw iw_3 rfl hq (by decide) (by decide) fl_X3_56 rfl rfl dX3_isGuarded_1 ?_
  refine lv_topi (fun x_1 ex_1 => ?_)
  have bx_1 : 0 ≤ x_1.toInt ∧ x_1.toInt ≤ 8 := cI_rd hI hq.1 ex_1
  have ux_1 : (tI M q 3).toInt = x_1.toInt := by rw [ex_1]
  refine lv_iconst (v := 1) hx hb dX3_isGuarded_4 (by decide) ?_
  have hj_38_7 : ∀  (H : Heap) (locs : List Loc) (ls : Array Slot), ti_H ti_LT D A cy H0 M H locs → lv_has ls 1 [(0, .ref (A q 0))] → W p l e (ti_rm 0) s m args below meth c H locs 0 0 Q (F0 m 38 ls []) := by
    intro  H locs ls  hw hl
    refine lv_iconst (v := 0) hx hb dX3_isGuarded_38 (by decide) ?_
    exact hQ _ _ _ _ _ _ hw rfl rfl dX3_isGuarded_39
  refine sb_icmp_le (tgt := 38) hx hb rfl (by decide : (1 : Int32).toInt = 1) dX3_isGuarded_5 (by decide) (fun c_5_1 => ?_) (fun c_5_1 => ?_)
  · exact hj_38_7  _ _ _  hw (lv_sub hl [0] rfl)
  · refine lv_aload_n hx hb dX3_isGuarded_8 rfl (lv_at hl 0 rfl) ?_
    refine ti_get (ci := 3) (k := 0) (N := 17) (T := TX3) (v := .ref (A t 0)) C hw iw_3 rfl hq (by decide) (by decide) fl_X3_45 rfl (ti_Tv (hT)) dX3_isGuarded_9 ?_
    refine ti_get (ci := 8) (k := 0) (N := 12) (T := TX8) (v := .ref (A t 1)) C hw iw_8 rfl (ob_t ht) (by decide) (by decide) fl_X3_81 rfl rfl dX3_isGuarded_12 ?_
    refine lv_aload_n hx hb dX3_isGuarded_15 rfl (lv_at hl 0 rfl) ?_
    refine ti_get (ci := 3) (k := 6) (N := 17) (T := TX3) (v := .ref (A q 7)) C hw iw_3 rfl hq (by decide) (by decide) fl_X3_9 rfl rfl dX3_isGuarded_16 ?_
    refine lv_iconst (v := 1) hx hb dX3_isGuarded_19 (by decide) ?_
    refine ti_iald (ci := 3) (k := 6) (n := 8) C hw hq (by decide) (fun _ _ => rfl) (by unfold vp_in; decide) dX3_isGuarded_20 ?_
    refine lv_topi (fun x_3 ex_3 => ?_)
    have bx_3 : 0 ≤ x_3.toInt ∧ x_3.toInt ≤ 7 := cI_ry hI hq.1 ex_3
    refine ti_aald (ci := 8) (k := 0) (n := 8) (t0 := 5) (Cn := RX2) (gg := (ti_men t)) (j := x_3.toNatClampNeg) C hw (ob_t ht) (by decide) (fun _ _ => rfl) rfl (vp_in_iff.mpr (by omega)) rfl dX3_isGuarded_21 ?_
    have ob_4 : ti_ob ti_LT (ti_men t x_3.toNatClampNeg) 2 := ob_m ht (i_nt rfl (by omega) (by omega))
    refine ti_get (ci := 2) (k := 9) (N := 10) (T := TX2) C hw iw_2 rfl ob_4 (by decide) (by decide) fl_X3_131 rfl rfl dX3_isGuarded_22 ?_
    refine lv_topi (fun x_5 ex_5 => ?_)
    refine lv_aload_n hx hb dX3_isGuarded_25 rfl (lv_at hl 0 rfl) ?_
    refine ti_get (ci := 3) (k := 6) (N := 17) (T := TX3) (v := .ref (A q 7)) C hw iw_3 rfl hq (by decide) (by decide) fl_X3_9 rfl rfl dX3_isGuarded_26 ?_
    refine lv_iconst (v := 0) hx hb dX3_isGuarded_29 (by decide) ?_
    refine ti_iald (ci := 3) (k := 6) (n := 8) C hw hq (by decide) (fun _ _ => rfl) (by unfold vp_in; decide) dX3_isGuarded_30 ?_
    refine lv_topi (fun x_6 ex_6 => ?_)
    have bx_6 : 0 ≤ x_6.toInt ∧ x_6.toInt ≤ 7 := cI_ry hI hq.1 ex_6
    refine sb_icmp_ne (tgt := 38) hx hb rfl rfl dX3_isGuarded_31 (by decide) (fun c_31_6 => ?_) (fun c_31_6 => ?_)
    · exact hj_38_7  _ _ _  hw (lv_sub hl [0] rfl)
    · refine lv_iconst (v := 1) hx hb dX3_isGuarded_34 (by decide) ?_
      refine lv_goto (tgt := 39) hx hb dX3_isGuarded_35 (by decide) ?_
      exact hQ _ _ _ _ _ _ hw rfl rfl dX3_isGuarded_39
set_option maxHeartbeats 4000000 in
set_option maxRecDepth 100000 in
theorem s_X3_lastHeard (l : Launch) (D : va_G) (A : Nat → Nat → Nat) (cy : Nat → ClassId) (hJ : ti_inj ti_LT A) (M : ti_M) (hI : cI Tc M) (q t : Nat) (hq : ti_ob ti_LT q 3) (ht : t = 3 ∨ t = 4) (hT : tT M q 0 = some t) : ti_Ki l yX3_lastHeard cX3_lastHeard 1 (some .int) 1 ti_LT D A cy M [.ref (A q 0)] (fun r M2 => M2 = M ∧ r.toInt ≤ 7) := by
  refine ti_eI yp_X3_lastHeard hJ ti_LT_nd (Nat.le_of_ble_eq_true rfl) ?_
  intro p e s m args below meth c Q H0 C hQ hw ls hl
  have hx := C.1
  have hb := C.2.1
  have hl : lv_has ls 1 [(0, .ref (A q 0))] := hl
  refine lv_aload_n hx hb dX3_lastHeard_0 rfl (lv_at hl 0 rfl) ?_
  refine ti_get (ci := 3) (k := 0) (N := 17) (T := TX3) (v := .ref (A t 0)) C hw iw_3 rfl hq (by decide) (by decide) fl_X3_45 rfl (ti_Tv (hT)) dX3_lastHeard_1 ?_
  refine ti_get (ci := 8) (k := 9) (N := 12) (T := TX8) C hw iw_8 rfl (ob_t ht) (by decide) (by decide) fl_X3_134 rfl rfl dX3_lastHeard_4 ?_
  refine lv_topi (fun x_1 ex_1 => ?_)
  refine lv_aload_n hx hb dX3_lastHeard_7 rfl (lv_at hl 0 rfl) ?_
  refine ti_get (ci := 3) (k := 3) (N := 17) (T := TX3) C hw iw_3 rfl hq (by decide) (by decide) fl_X3_56 rfl rfl dX3_lastHeard_8 ?_
  refine lv_topi (fun x_2 ex_2 => ?_)
  have bx_2 : 0 ≤ x_2.toInt ∧ x_2.toInt ≤ 8 := cI_rd hI hq.1 ex_2
  have ux_2 : (tI M q 3).toInt = x_2.toInt := by rw [ex_2]
  refine lv_iconst (v := 1) hx hb dX3_lastHeard_11 (by decide) ?_
  refine lv_isub hx hb dX3_lastHeard_12 ?_
  refine lv_topi (fun x_3 ex_3 => ?_)
  have tx_3 : x_3.toInt = x_2.toInt - 1 := i_sub ex_3 rfl (by decide : (1 : Int32).toInt = 1) (by omega) (by omega)
  refine ti_min C ml_X3_137 hl.1 (by decide) (Nat.le_of_ble_eq_true rfl) ⟨Nat.zero_le _, Nat.zero_le _⟩ dX3_lastHeard_13 ?_
  refine lv_topi (fun x_4 ex_4 => ?_)
  have bx_4 := i_min ex_4 rfl rfl
  exact hQ _ _ _ _ _ _ hw rfl (⟨rfl, by omega⟩) dX3_lastHeard_16
set_option maxHeartbeats 4000000 in
set_option maxRecDepth 100000 in
theorem s_X3_is (l : Launch) (D : va_G) (A : Nat → Nat → Nat) (cy : Nat → ClassId) (hJ : ti_inj ti_LT A) (M : ti_M) (hI : cI Tc M) (q : Nat) (hq : ti_ob ti_LT q 3) (bt : Int32) : ti_Ki l yX3_is cX3_is 2 (some .boolean) 0 ti_LT D A cy M [.ref (A q 0), .int bt] (fun r M2 => M2 = M) := by
  refine ti_eI yp_X3_is hJ ti_LT_nd (Nat.le_of_ble_eq_true rfl) ?_
  intro p e s m args below meth c Q H0 C hQ hw ls hl
  have hx := C.1
  have hb := C.2.1
  have hl : lv_has ls 2 [(0, .ref (A q 0)), (1, .int bt)] := hl
  refine lv_aload_n hx hb dX3_is_0 rfl (lv_at hl 0 rfl) ?_
  refine ti_get (ci := 3) (k := 1) (N := 17) (T := TX3) C hw iw_3 rfl hq (by decide) (by decide) fl_X3_49 rfl rfl dX3_is_1 ?_
  refine lv_topi (fun x_1 ex_1 => ?_)
  refine lv_iload_n hx hb dX3_is_4 rfl (lv_at hl 1 rfl) ?_
  refine lv_iand hx hb dX3_is_5 ?_
  refine lv_topi (fun x_2 ex_2 => ?_)
  refine sb_if_eq (tgt := 13) hx hb rfl dX3_is_6 (by decide) (fun c_6_2 => ?_) (fun c_6_2 => ?_)
  · refine lv_iconst (v := 0) hx hb dX3_is_13 (by decide) ?_
    exact hQ _ _ _ _ _ _ hw rfl rfl dX3_is_14
  · refine lv_iconst (v := 1) hx hb dX3_is_9 (by decide) ?_
    refine lv_goto (tgt := 14) hx hb dX3_is_10 (by decide) ?_
    exact hQ _ _ _ _ _ _ hw rfl rfl dX3_is_14
set_option maxHeartbeats 4000000 in
set_option maxRecDepth 100000 in
theorem s_X3_joinsAhead (l : Launch) (D : va_G) (A : Nat → Nat → Nat) (cy : Nat → ClassId) (hJ : ti_inj ti_LT A) (M : ti_M) (hI : cI Tc M) (m1 m2 : Nat) (h1 : ti_ob ti_LT m1 2) (h2 : ti_ob ti_LT m2 2) : ti_Ki l yX3_joinsAhead cX3_joinsAhead 2 (some .boolean) 0 ti_LT D A cy M [.ref (A m1 0), .ref (A m2 0)] (fun r M2 => M2 = M) := by
  refine ti_eI yp_X3_joinsAhead hJ ti_LT_nd (Nat.le_of_ble_eq_true rfl) ?_
  intro p e s m args below meth c Q H0 C hQ hw ls hl
  have hx := C.1
  have hb := C.2.1
  have hl : lv_has ls 2 [(0, .ref (A m1 0)), (1, .ref (A m2 0))] := hl
  refine lv_aload_n hx hb dX3_joinsAhead_0 rfl (lv_at hl 0 rfl) ?_
  refine ti_get (ci := 2) (k := 2) (N := 10) (T := TX2) C hw iw_2 rfl h1 (by decide) (by decide) fl_X3_176 rfl rfl dX3_joinsAhead_1 ?_
  refine lv_topi (fun x_1 ex_1 => ?_)
  refine lv_aload_n hx hb dX3_joinsAhead_4 rfl (lv_at hl 1 rfl) ?_
  refine ti_get (ci := 2) (k := 2) (N := 10) (T := TX2) C hw iw_2 rfl h2 (by decide) (by decide) fl_X3_176 rfl rfl dX3_joinsAhead_5 ?_
  refine lv_topi (fun x_2 ex_2 => ?_)
  have hj_33_7 : ∀  (H : Heap) (locs : List Loc) (ls : Array Slot), ti_H ti_LT D A cy H0 M H locs → lv_has ls 2 [(0, .ref (A m1 0)), (1, .ref (A m2 0))] → W p l e (ti_rm 0) s m args below meth c H locs 0 0 Q (F0 m 33 ls []) := by
    intro  H locs ls  hw hl
    refine lv_iconst (v := 1) hx hb dX3_joinsAhead_33 (by decide) ?_
    refine lv_goto (tgt := 38) hx hb dX3_joinsAhead_34 (by decide) ?_
    exact hQ _ _ _ _ _ _ hw rfl rfl dX3_joinsAhead_38
  refine sb_icmp_lt (tgt := 33) hx hb rfl rfl dX3_joinsAhead_8 (by decide) (fun c_8_2 => ?_) (fun c_8_2 => ?_)
  · exact hj_33_7  _ _ _  hw (lv_sub hl [0, 1] rfl)
  · refine lv_aload_n hx hb dX3_joinsAhead_11 rfl (lv_at hl 0 rfl) ?_
    refine ti_get (ci := 2) (k := 2) (N := 10) (T := TX2) C hw iw_2 rfl h1 (by decide) (by decide) fl_X3_176 rfl rfl dX3_joinsAhead_12 ?_
    refine ti_top (y := x_1) (ex_1.symm) ?_
    refine lv_aload_n hx hb dX3_joinsAhead_15 rfl (lv_at hl 1 rfl) ?_
    refine ti_get (ci := 2) (k := 2) (N := 10) (T := TX2) C hw iw_2 rfl h2 (by decide) (by decide) fl_X3_176 rfl rfl dX3_joinsAhead_16 ?_
    refine ti_top (y := x_2) (ex_2.symm) ?_
    have hj_37_7 : ∀  (H : Heap) (locs : List Loc) (ls : Array Slot), ti_H ti_LT D A cy H0 M H locs → lv_has ls 2 [(0, .ref (A m1 0)), (1, .ref (A m2 0))] → W p l e (ti_rm 0) s m args below meth c H locs 0 0 Q (F0 m 37 ls []) := by
      intro  H locs ls  hw hl
      refine lv_iconst (v := 0) hx hb dX3_joinsAhead_37 (by decide) ?_
      exact hQ _ _ _ _ _ _ hw rfl rfl dX3_joinsAhead_38
    refine sb_icmp_ne (tgt := 37) hx hb rfl rfl dX3_joinsAhead_19 (by decide) (fun c_19_3 => ?_) (fun c_19_3 => ?_)
    · exact hj_37_7  _ _ _  hw (lv_sub hl [0, 1] rfl)
    · refine lv_aload_n hx hb dX3_joinsAhead_22 rfl (lv_at hl 0 rfl) ?_
      refine ti_get (ci := 2) (k := 1) (N := 10) (T := TX2) C hw iw_2 rfl h1 (by decide) (by decide) fl_X3_179 rfl rfl dX3_joinsAhead_23 ?_
      refine lv_topi (fun x_5 ex_5 => ?_)
      refine lv_aload_n hx hb dX3_joinsAhead_26 rfl (lv_at hl 1 rfl) ?_
      refine ti_get (ci := 2) (k := 1) (N := 10) (T := TX2) C hw iw_2 rfl h2 (by decide) (by decide) fl_X3_179 rfl rfl dX3_joinsAhead_27 ?_
      refine lv_topi (fun x_6 ex_6 => ?_)
      refine sb_icmp_le (tgt := 37) hx hb rfl rfl dX3_joinsAhead_30 (by decide) (fun c_30_6 => ?_) (fun c_30_6 => ?_)
      · exact hj_37_7  _ _ _  hw (lv_sub hl [0, 1] rfl)
      · exact hj_33_7  _ _ _  hw (lv_sub hl [0, 1] rfl)
set_option maxHeartbeats 4000000 in
set_option maxRecDepth 100000 in
theorem s_X3_nextToJoin (l : Launch) (D : va_G) (A : Nat → Nat → Nat) (cy : Nat → ClassId) (hJ : ti_inj ti_LT A) (M : ti_M) (hI : cI Tc M) (q t : Nat) (hq : ti_ob ti_LT q 3) (ht : t = 3 ∨ t = 4) (hT : tT M q 0 = some t) : ti_Ki l yX3_nextToJoin cX3_nextToJoin 3 (some .int) 1 ti_LT D A cy M [.ref (A q 0)] (fun r M2 => M2 = M ∧ (-1) ≤ r.toInt ∧ r.toInt ≤ 7) := by
  refine ti_eI yp_X3_nextToJoin hJ ti_LT_nd (Nat.le_of_ble_eq_true rfl) ?_
  intro p e s m args below meth c Q H0 C hQ hw ls hl
  have hx := C.1
  have hb := C.2.1
  have hl : lv_has ls 3 [(0, .ref (A q 0))] := hl
  refine lv_iconst (v := (-1)) hx hb dX3_nextToJoin_0 (by decide) ?_
  refine lv_istore_n (lv' := [(1, .int (-1)), (0, .ref (A q 0))]) hx hb dX3_nextToJoin_1 rfl hl (by decide) rfl (fun ls hl => ?_)
  refine lv_iconst (v := 0) hx hb dX3_nextToJoin_2 (by decide) ?_
  refine lv_istore_n (lv' := [(2, .int 0), (1, .int (-1)), (0, .ref (A q 0))]) hx hb dX3_nextToJoin_3 rfl hl (by decide) rfl (fun ls hl => ?_)
  have hl_4_6 : ∀ (n_7 : Nat) (x_1 : Int32) (x_4 : Int32) (H : Heap) (locs : List Loc) (ls : Array Slot), (8 - x_1.toInt : Int).toNat < n_7 → (0 ≤ x_1.toInt) → (x_1.toInt ≤ 8) → ((-1) ≤ x_4.toInt) → (x_4.toInt ≤ 7) → ti_H ti_LT D A cy H0 M H locs → lv_has ls 3 [(2, .int x_1), (1, .int x_4), (0, .ref (A q 0))] → W p l e (ti_rm 1) s m args below meth c H locs 0 0 Q (F0 m 4 ls []) := by
    intro n_7
    induction n_7 with
    | zero => intro x_1 x_4 H locs ls hf_7; exact absurd hf_7 (Nat.not_lt_zero _)
    | succ n_7 ih_7 =>
      intro x_1 x_4 H locs ls hf_7 b_2 b_3 b_5 b_6 hw hl
      refine lv_iload_n hx hb dX3_nextToJoin_4 rfl (lv_at hl 0 rfl) ?_
      refine lv_aload_n hx hb dX3_nextToJoin_5 rfl (lv_at hl 2 rfl) ?_
      refine ti_get (ci := 3) (k := 0) (N := 17) (T := TX3) (v := .ref (A t 0)) C hw iw_3 rfl hq (by decide) (by decide) fl_X3_45 rfl (ti_Tv (hT)) dX3_nextToJoin_6 ?_
      refine ti_get (ci := 8) (k := 4) (N := 12) (T := TX8) C hw iw_8 rfl (ob_t ht) (by decide) (by decide) fl_X3_78 rfl rfl dX3_nextToJoin_9 ?_
      refine lv_topi (fun x_8 ex_8 => ?_)
      have bx_8 : 0 ≤ x_8.toInt ∧ x_8.toInt ≤ 8 := cI_rd hI (ob_t ht).1 ex_8
      have ux_8 : (tI M t 4).toInt = x_8.toInt := by rw [ex_8]
      refine sb_icmp_ge (tgt := 74) hx hb rfl rfl dX3_nextToJoin_12 (by decide) (fun c_12_8 => ?_) (fun c_12_8 => ?_)
      · refine lv_iload_n hx hb dX3_nextToJoin_74 rfl (lv_at hl 1 rfl) ?_
        exact hQ _ _ _ _ _ _ hw rfl (⟨rfl, by first | omega | decide, by first | omega | decide⟩) dX3_nextToJoin_75
      · refine lv_aload_n hx hb dX3_nextToJoin_15 rfl (lv_at hl 2 rfl) ?_
        refine ti_get (ci := 3) (k := 8) (N := 17) (T := TX3) (v := .ref (A q 9)) C hw iw_3 rfl hq (by decide) (by decide) fl_X3_18 rfl rfl dX3_nextToJoin_16 ?_
        refine lv_iload_n hx hb dX3_nextToJoin_19 rfl (lv_at hl 0 rfl) ?_
        refine ti_iald (ci := 3) (k := 8) (n := 8) C hw hq (by decide) (fun _ _ => rfl) (vp_in_iff.mpr (by omega)) dX3_nextToJoin_20 ?_
        refine lv_topi (fun x_10 ex_10 => ?_)
        have hj_68_24 : ∀ (x_21 : Int32) (H : Heap) (locs : List Loc) (ls : Array Slot), ((-1) ≤ x_21.toInt) → (x_21.toInt ≤ 8) → (x_21.toInt ≤ 7) → ti_H ti_LT D A cy H0 M H locs → lv_has ls 3 [(2, .int x_1), (1, .int x_21), (0, .ref (A q 0))] → W p l e (ti_rm 1) s m args below meth c H locs 0 0 Q (F0 m 68 ls []) := by
          intro x_21 H locs ls b_22 b_23 j_24 hw hl
          obtain ⟨x_25, ex_25⟩ : ∃ z : Int32, z = x_1 + 1 := ⟨_, rfl⟩
          have tx_25 : x_25.toInt = x_1.toInt + 1 := i_add ex_25 rfl (by decide) (by omega) (by omega)
          refine lv_iinc (v := x_25) (lv' := [(2, .int x_25), (1, .int x_21), (0, .ref (A q 0))]) hx hb dX3_nextToJoin_68 hl (k := 0) rfl (by rw [ex_25]; rfl) (by decide) rfl (fun ls hl => ?_)
          refine lv_goto (tgt := 4) hx hb dX3_nextToJoin_71 (by decide) ?_
          exact ih_7 x_25 x_21 _ _ _ (by omega) (by first | omega | decide) (by first | omega | decide) (by first | omega | decide) (by first | omega | decide) hw (lv_sub hl [0, 1, 2] rfl)
        refine sb_if_ne (tgt := 68) hx hb rfl dX3_nextToJoin_21 (by decide) (fun c_21_10 => ?_) (fun c_21_10 => ?_)
        · exact hj_68_24 x_4 _ _ _ (by first | omega | decide) (by first | omega | decide) (by first | omega | decide) hw (lv_sub hl [0, 1, 2] rfl)
        · refine lv_aload_n hx hb dX3_nextToJoin_24 rfl (lv_at hl 2 rfl) ?_
          refine ti_get (ci := 3) (k := 9) (N := 17) (T := TX3) (v := .ref (A q 10)) C hw iw_3 rfl hq (by decide) (by decide) fl_X3_21 rfl rfl dX3_nextToJoin_25 ?_
          refine lv_iload_n hx hb dX3_nextToJoin_28 rfl (lv_at hl 0 rfl) ?_
          refine ti_iald (ci := 3) (k := 9) (n := 8) C hw hq (by decide) (fun _ _ => rfl) (vp_in_iff.mpr (by omega)) dX3_nextToJoin_29 ?_
          refine lv_topi (fun x_12 ex_12 => ?_)
          refine lv_aload_n hx hb dX3_nextToJoin_30 rfl (lv_at hl 2 rfl) ?_
          refine ti_get (ci := 3) (k := 2) (N := 17) (T := TX3) C hw iw_3 rfl hq (by decide) (by decide) fl_X3_53 rfl rfl dX3_nextToJoin_31 ?_
          refine lv_topi (fun x_13 ex_13 => ?_)
          refine sb_icmp_ne (tgt := 68) hx hb rfl rfl dX3_nextToJoin_34 (by decide) (fun c_34_13 => ?_) (fun c_34_13 => ?_)
          · exact hj_68_24 x_4 _ _ _ (by first | omega | decide) (by first | omega | decide) (by first | omega | decide) hw (lv_sub hl [0, 1, 2] rfl)
          · refine lv_iload_n hx hb dX3_nextToJoin_37 rfl (lv_at hl 1 rfl) ?_
            refine lv_iconst (v := (-1)) hx hb dX3_nextToJoin_38 (by decide) ?_
            have hj_66_20 : ∀  (H : Heap) (locs : List Loc) (ls : Array Slot), ti_H ti_LT D A cy H0 M H locs → lv_has ls 3 [(2, .int x_1), (1, .int x_4), (0, .ref (A q 0))] → W p l e (ti_rm 1) s m args below meth c H locs 0 0 Q (F0 m 66 ls []) := by
              intro  H locs ls  hw hl
              refine lv_iload_n hx hb dX3_nextToJoin_66 rfl (lv_at hl 0 rfl) ?_
              refine lv_istore_n (lv' := [(1, .int x_1), (2, .int x_1), (0, .ref (A q 0))]) hx hb dX3_nextToJoin_67 rfl hl (by decide) rfl (fun ls hl => ?_)
              exact hj_68_24 x_1 _ _ _ (by first | omega | decide) (by first | omega | decide) (by first | omega | decide) hw (lv_sub hl [1, 0, 2] rfl)
            refine sb_icmp_eq (tgt := 66) hx hb rfl (by decide : ((-1) : Int32).toInt = (-1)) dX3_nextToJoin_39 (by decide) (fun c_39_14 => ?_) (fun c_39_14 => ?_)
            · exact hj_66_20  _ _ _  hw (lv_sub hl [0, 1, 2] rfl)
            · refine lv_aload_n hx hb dX3_nextToJoin_42 rfl (lv_at hl 2 rfl) ?_
              refine ti_get (ci := 3) (k := 0) (N := 17) (T := TX3) (v := .ref (A t 0)) C hw iw_3 rfl hq (by decide) (by decide) fl_X3_45 rfl (ti_Tv (hT)) dX3_nextToJoin_43 ?_
              refine ti_get (ci := 8) (k := 0) (N := 12) (T := TX8) (v := .ref (A t 1)) C hw iw_8 rfl (ob_t ht) (by decide) (by decide) fl_X3_81 rfl rfl dX3_nextToJoin_46 ?_
              refine lv_iload_n hx hb dX3_nextToJoin_49 rfl (lv_at hl 0 rfl) ?_
              refine ti_aald (ci := 8) (k := 0) (n := 8) (t0 := 5) (Cn := RX2) (gg := (ti_men t)) (j := x_1.toNatClampNeg) C hw (ob_t ht) (by decide) (fun _ _ => rfl) rfl (vp_in_iff.mpr (by omega)) rfl dX3_nextToJoin_50 ?_
              have ob_16 : ti_ob ti_LT (ti_men t x_1.toNatClampNeg) 2 := ob_m ht (i_nt rfl (by omega) (by omega))
              refine lv_aload_n hx hb dX3_nextToJoin_51 rfl (lv_at hl 2 rfl) ?_
              refine ti_get (ci := 3) (k := 0) (N := 17) (T := TX3) (v := .ref (A t 0)) C hw iw_3 rfl hq (by decide) (by decide) fl_X3_45 rfl (ti_Tv (hT)) dX3_nextToJoin_52 ?_
              refine ti_get (ci := 8) (k := 0) (N := 12) (T := TX8) (v := .ref (A t 1)) C hw iw_8 rfl (ob_t ht) (by decide) (by decide) fl_X3_81 rfl rfl dX3_nextToJoin_55 ?_
              refine lv_iload_n hx hb dX3_nextToJoin_58 rfl (lv_at hl 1 rfl) ?_
              refine ti_aald (ci := 8) (k := 0) (n := 8) (t0 := 5) (Cn := RX2) (gg := (ti_men t)) (j := x_4.toNatClampNeg) C hw (ob_t ht) (by decide) (fun _ _ => rfl) rfl (vp_in_iff.mpr (by omega)) rfl dX3_nextToJoin_59 ?_
              have ob_17 : ti_ob ti_LT (ti_men t x_4.toNatClampNeg) 2 := ob_m ht (i_nt rfl (by omega) (by omega))
              refine ti_callSi (av := [.ref (A (ti_men t x_1.toNatClampNeg) 0), .ref (A (ti_men t x_4.toNatClampNeg) 0)]) C hw (s_X3_joinsAhead l D A cy hJ M hI (ti_men t x_1.toNatClampNeg) (ti_men t x_4.toNatClampNeg) ob_16 ob_17) ⟨ml_X3_172, ys_X3_joinsAhead, yi_X3_joinsAhead, yc_X3_joinsAhead⟩ yd_X3_joinsAhead rfl hl.1 (Nat.le_of_ble_eq_true rfl) ⟨by decide, by decide⟩ ⟨Nat.zero_le _, Nat.zero_le _⟩ dX3_nextToJoin_60 (fun r_18 M_19 H locs hp_19 hw => ?_)
              have hm := hp_19
              have hw := hw.to hm
              refine sb_if_eq (tgt := 68) hx hb rfl dX3_nextToJoin_63 (by decide) (fun c_63_19 => ?_) (fun c_63_19 => ?_)
              · exact hj_68_24 x_4 _ _ _ (by first | omega | decide) (by first | omega | decide) (by first | omega | decide) hw (lv_sub hl [0, 1, 2] rfl)
              · exact hj_66_20  _ _ _  hw (lv_sub hl [0, 1, 2] rfl)
  exact hl_4_6 ((8 - 0 : Int).toNat + 1) 0 (-1) _ _ _ (Nat.lt_succ_self _) (by have lt0 : ((-1) : Int32).toInt = (-1) := (by decide); have lt1 : (0 : Int32).toInt = 0 := (by decide); first | omega | decide) (by have lt0 : ((-1) : Int32).toInt = (-1) := (by decide); have lt1 : (0 : Int32).toInt = 0 := (by decide); first | omega | decide) (by have lt0 : ((-1) : Int32).toInt = (-1) := (by decide); have lt1 : (0 : Int32).toInt = 0 := (by decide); first | omega | decide) (by have lt0 : ((-1) : Int32).toInt = (-1) := (by decide); have lt1 : (0 : Int32).toInt = 0 := (by decide); first | omega | decide) hw (lv_sub hl [0, 1, 2] rfl)
set_option maxHeartbeats 4000000 in
set_option maxRecDepth 100000 in
theorem s_X3_welcome (l : Launch) (D : va_G) (A : Nat → Nat → Nat) (cy : Nat → ClassId) (hJ : ti_inj ti_LT A) (M : ti_M) (hI : cI Tc M) (q t : Nat) (hq : ti_ob ti_LT q 3) (ht : t = 3 ∨ t = 4) (hT : tT M q 0 = some t) : ti_Kv l yX3_welcome cX3_welcome 3 2 ti_LT D A cy M [.ref (A q 0)] (fun M2 => cI Tc M2 ∧ M2.2.2.2 = M.2.2.2 ∧ tI M2 q 2 = tI M q 2 ∧ fX M2 M) := by
  refine ti_eV yp_X3_welcome hJ ti_LT_nd (Nat.le_of_ble_eq_true rfl) ?_
  intro p e s m args below meth c Q H0 C hQ hw ls hl
  have hx := C.1
  have hb := C.2.1
  have hl : lv_has ls 3 [(0, .ref (A q 0))] := hl
  refine lv_iconst (v := 0) hx hb dX3_welcome_0 (by decide) ?_
  refine lv_istore_n (lv' := [(1, .int 0), (0, .ref (A q 0))]) hx hb dX3_welcome_1 rfl hl (by decide) rfl (fun ls hl => ?_)
  have hl_2_7 : ∀ (n_8 : Nat) (x_1 : Int32) (M_4 : ti_M) (H : Heap) (locs : List Loc) (ls : Array Slot), (8 - x_1.toInt : Int).toNat < n_8 → (0 ≤ x_1.toInt) → (x_1.toInt ≤ 8) → (cI Tc M_4) → (M_4.2.2.2 = M.2.2.2) → (tI M_4 q 2 = tI M q 2) → (fX M_4 M) → ti_H ti_LT D A cy H0 M_4 H locs → lv_has ls 3 [(1, .int x_1), (0, .ref (A q 0))] → W p l e (ti_rm 2) s m args below meth c H locs 0 0 Q (F0 m 2 ls []) := by
    intro n_8
    induction n_8 with
    | zero => intro x_1 M_4 H locs ls hf_8; exact absurd hf_8 (Nat.not_lt_zero _)
    | succ n_8 ih_8 =>
      intro x_1 M_4 H locs ls hf_8 b_2 b_3 iM_4 f_5 f_6 f_7 hw hl
      refine lv_iload_n hx hb dX3_welcome_2 rfl (lv_at hl 0 rfl) ?_
      refine lv_aload_n hx hb dX3_welcome_3 rfl (lv_at hl 1 rfl) ?_
      refine ti_get (ci := 3) (k := 0) (N := 17) (T := TX3) (v := .ref (A t 0)) C hw iw_3 rfl hq (by decide) (by decide) fl_X3_45 rfl (ti_Tv ((tT_fr f_5).trans hT)) dX3_welcome_4 ?_
      refine ti_get (ci := 8) (k := 4) (N := 12) (T := TX8) C hw iw_8 rfl (ob_t ht) (by decide) (by decide) fl_X3_78 rfl rfl dX3_welcome_7 ?_
      refine lv_topi (fun x_9 ex_9 => ?_)
      have bx_9 : 0 ≤ x_9.toInt ∧ x_9.toInt ≤ 8 := cI_rd iM_4 (ob_t ht).1 ex_9
      have ux_9 : (tI M_4 t 4).toInt = x_9.toInt := by rw [ex_9]
      refine sb_icmp_ge (tgt := 35) hx hb rfl rfl dX3_welcome_10 (by decide) (fun c_10_9 => ?_) (fun c_10_9 => ?_)
      · exact hQ _ _ _ _ _ hw (⟨iM_4, (f_5), (f_6), f_7⟩) dX3_welcome_35
      · refine lv_aload_n hx hb dX3_welcome_13 rfl (lv_at hl 1 rfl) ?_
        refine ti_callVi (ci := 3) (av := []) C hw (s_X3_nextToJoin l D A cy hJ M_4 iM_4 q t hq ht ((tT_fr f_5).trans hT)) ⟨ml_X3_164, ym_X3_nextToJoin, yv_X3_nextToJoin, yi_X3_nextToJoin, yc_X3_nextToJoin⟩ yd_X3_nextToJoin hq (by decide) rfl rfl hl.1 (Nat.le_of_ble_eq_true rfl) ⟨by decide, by decide⟩ ⟨Nat.zero_le _, Nat.zero_le _⟩ dX3_welcome_14 (fun r_11 M_12 H locs hp_12 hw => ?_)
        obtain ⟨hm, b0r_11, b1r_11⟩ := hp_12
        have hw := hw.to hm
        refine lv_istore_n (lv' := [(2, .int r_11), (1, .int x_1), (0, .ref (A q 0))]) hx hb dX3_welcome_17 rfl hl (by decide) rfl (fun ls hl => ?_)
        refine lv_iload_n hx hb dX3_welcome_18 rfl (lv_at hl 0 rfl) ?_
        refine lv_iconst (v := (-1)) hx hb dX3_welcome_19 (by decide) ?_
        refine sb_icmp_ne (tgt := 24) hx hb rfl (by decide : ((-1) : Int32).toInt = (-1)) dX3_welcome_20 (by decide) (fun c_20_12 => ?_) (fun c_20_12 => ?_)
        · refine lv_aload_n hx hb dX3_welcome_24 rfl (lv_at hl 2 rfl) ?_
          refine lv_iload_n hx hb dX3_welcome_25 rfl (lv_at hl 0 rfl) ?_
          refine ti_callVv (ci := 3) (av := [.int r_11]) C hw (s_X3_append l D A cy hJ M_4 iM_4 q hq r_11 (by omega) (by omega)) ⟨ml_X3_168, ym_X3_append, yv_X3_append, yi_X3_append, yc_X3_append⟩ yd_X3_append hq (by decide) rfl rfl hl.1 (Nat.le_of_ble_eq_true rfl) ⟨by decide, by decide⟩ ⟨Nat.zero_le _, Nat.zero_le _⟩ dX3_welcome_26 (fun M_15 H locs hp_15 hw => ?_)
          obtain ⟨iM_15, q_16, q_17, q_18⟩ := hp_15
          obtain ⟨x_19, ex_19⟩ : ∃ z : Int32, z = x_1 + 1 := ⟨_, rfl⟩
          have tx_19 : x_19.toInt = x_1.toInt + 1 := i_add ex_19 rfl (by decide) (by omega) (by omega)
          refine lv_iinc (v := x_19) (lv' := [(1, .int x_19), (2, .int r_11), (0, .ref (A q 0))]) hx hb dX3_welcome_29 hl (k := 1) rfl (by rw [ex_19]; rfl) (by decide) rfl (fun ls hl => ?_)
          refine lv_goto (tgt := 2) hx hb dX3_welcome_32 (by decide) ?_
          exact ih_8 x_19 M_15 _ _ _ (by omega) (by first | omega | decide) (by first | omega | decide) iM_15 ((q_16).trans f_5) ((q_17).trans f_6) (fX.trans q_18 f_7) hw (lv_sub hl [0, 2] rfl)
        · exact hQ _ _ _ _ _ hw (⟨iM_4, (f_5), (f_6), f_7⟩) dX3_welcome_23
  exact hl_2_7 ((8 - 0 : Int).toNat + 1) 0 M _ _ _ (Nat.lt_succ_self _) (by have lt0 : (0 : Int32).toInt = 0 := (by decide); first | omega | decide) (by have lt0 : (0 : Int32).toInt = 0 := (by decide); first | omega | decide) hI rfl rfl fX.refl hw (lv_sub hl [0, 1] rfl)
set_option maxHeartbeats 4000000 in
set_option maxRecDepth 100000 in
theorem s_X3_hearCoughs (l : Launch) (D : va_G) (A : Nat → Nat → Nat) (cy : Nat → ClassId) (hJ : ti_inj ti_LT A) (M : ti_M) (hI : cI Tc M) (q t : Nat) (hq : ti_ob ti_LT q 3) (ht : t = 3 ∨ t = 4) (hT : tT M q 0 = some t) : ti_Kv l yX3_hearCoughs cX3_hearCoughs 4 3 ti_LT D A cy M [.ref (A q 0)] (fun M2 => cI Tc M2 ∧ M2.2.2.2 = M.2.2.2 ∧ tI M2 q 2 = tI M q 2 ∧ fX M2 M) := by
  refine ti_eV yp_X3_hearCoughs hJ ti_LT_nd (Nat.le_of_ble_eq_true rfl) ?_
  intro p e s m args below meth c Q H0 C hQ hw ls hl
  have hx := C.1
  have hb := C.2.1
  have hl : lv_has ls 4 [(0, .ref (A q 0))] := hl
  refine lv_aload_n hx hb dX3_hearCoughs_0 rfl (lv_at hl 0 rfl) ?_
  refine lv_iconst (v := 1) hx hb dX3_hearCoughs_1 (by decide) ?_
  refine ti_callVi (ci := 3) (av := [.int 1]) C hw (s_X3_is l D A cy hJ M hI q hq 1) ⟨ml_X3_182, ym_X3_is, yv_X3_is, yi_X3_is, yc_X3_is⟩ yd_X3_is hq (by decide) rfl rfl hl.1 (Nat.le_of_ble_eq_true rfl) ⟨by decide, by decide⟩ ⟨Nat.zero_le _, Nat.zero_le _⟩ dX3_hearCoughs_2 (fun r_1 M_2 H locs hp_2 hw => ?_)
  have hm := hp_2
  have hw := hw.to hm
  refine sb_if_eq (tgt := 9) hx hb rfl dX3_hearCoughs_5 (by decide) (fun c_5_2 => ?_) (fun c_5_2 => ?_)
  · refine lv_iconst (v := 0) hx hb dX3_hearCoughs_9 (by decide) ?_
    refine lv_istore_n (lv' := [(1, .int 0), (0, .ref (A q 0))]) hx hb dX3_hearCoughs_10 rfl hl (by decide) rfl (fun ls hl => ?_)
    refine lv_aload_n hx hb dX3_hearCoughs_11 rfl (lv_at hl 1 rfl) ?_
    refine ti_callVi (ci := 3) (av := []) C hw (s_X3_lastHeard l D A cy hJ M hI q t hq ht (hT)) ⟨ml_X3_186, ym_X3_lastHeard, yv_X3_lastHeard, yi_X3_lastHeard, yc_X3_lastHeard⟩ yd_X3_lastHeard hq (by decide) rfl rfl hl.1 (Nat.le_of_ble_eq_true rfl) ⟨by decide, by decide⟩ ⟨Nat.zero_le _, Nat.zero_le _⟩ dX3_hearCoughs_12 (fun r_4 M_5 H locs hp_5 hw => ?_)
    obtain ⟨hm, b1r_4⟩ := hp_5
    have hw := hw.to hm
    refine lv_istore_n (lv' := [(2, .int r_4), (1, .int 0), (0, .ref (A q 0))]) hx hb dX3_hearCoughs_15 rfl hl (by decide) rfl (fun ls hl => ?_)
    refine lv_iconst (v := 1) hx hb dX3_hearCoughs_16 (by decide) ?_
    refine lv_istore_n (lv' := [(3, .int 1), (2, .int r_4), (1, .int 0), (0, .ref (A q 0))]) hx hb dX3_hearCoughs_17 rfl hl (by decide) rfl (fun ls hl => ?_)
    have hl_18_9 : ∀ (n_10 : Nat) (x_6 : Int32) (x_9 : Int32) (H : Heap) (locs : List Loc) (ls : Array Slot), (8 - x_6.toInt : Int).toNat < n_10 → (1 ≤ x_6.toInt) → (x_6.toInt ≤ 8) → ti_H ti_LT D A cy H0 M H locs → lv_has ls 4 [(3, .int x_6), (2, .int r_4), (1, .int x_9), (0, .ref (A q 0))] → W p l e (ti_rm 3) s m args below meth c H locs 0 0 Q (F0 m 18 ls []) := by
      intro n_10
      induction n_10 with
      | zero => intro x_6 x_9 H locs ls hf_10; exact absurd hf_10 (Nat.not_lt_zero _)
      | succ n_10 ih_10 =>
        intro x_6 x_9 H locs ls hf_10 b_7 b_8 hw hl
        refine lv_iload_n hx hb dX3_hearCoughs_18 rfl (lv_at hl 0 rfl) ?_
        refine lv_iload_n hx hb dX3_hearCoughs_19 rfl (lv_at hl 1 rfl) ?_
        refine sb_icmp_gt (tgt := 43) hx hb rfl rfl dX3_hearCoughs_20 (by decide) (fun c_20_10 => ?_) (fun c_20_10 => ?_)
        · refine lv_iload_n hx hb dX3_hearCoughs_43 rfl (lv_at hl 2 rfl) ?_
          have hj_68_33 : ∀ (M_30 : ti_M) (H : Heap) (locs : List Loc) (ls : Array Slot), (cI Tc M_30) → (M_30.2.2.2 = M.2.2.2) → (tI M_30 q 2 = tI M q 2) → (fX M_30 M) → ti_H ti_LT D A cy H0 M_30 H locs → lv_has ls 4 [(3, .int x_6), (2, .int r_4), (1, .int x_9), (0, .ref (A q 0))] → W p l e (ti_rm 3) s m args below meth c H locs 0 0 Q (F0 m 68 ls []) := by
            intro M_30 H locs ls iM_30 f_31 f_32 f_33 hw hl
            refine lv_aload_n hx hb dX3_hearCoughs_68 rfl (lv_at hl 3 rfl) ?_
            refine ti_get (ci := 3) (k := 16) (N := 17) (T := TX3) (v := .ref (A q 17)) C hw iw_3 rfl hq (by decide) (by decide) fl_X3_42 rfl rfl dX3_hearCoughs_69 ?_
            refine lv_iconst (v := 0) hx hb dX3_hearCoughs_72 (by decide) ?_
            refine ti_callSv (av := [.ref (A q 17), .int 0]) C hw (k_fill l D A cy ti_LT_nd hJ M_30 q 16 3 8 0 hq (by decide) (fun _ _ => rfl) (by decide)) ⟨ml_X3_93, ys_J7_fill_53178, yi_J7_fill_53178, yc_J7_fill_53178⟩ yd_J7_fill_53178 rfl hl.1 (Nat.le_of_ble_eq_true rfl) ⟨by decide, by decide⟩ ⟨Nat.zero_le _, Nat.zero_le _⟩ dX3_hearCoughs_73 (fun M_34 H locs hp hw => ?_)
            obtain ⟨g_35, hM_34, -⟩ := hp
            have iM_34 : cI Tc M_34 := cI_uY iM_30 hM_34 hq.1 (fun _ => trivial)
            exact hQ _ _ _ _ _ hw (⟨iM_34, ((rf_Y hM_34).trans f_31), ((tI_uYE hM_34).trans f_32), (fX.trans (fx_of (ra_Y hM_34)) f_33)⟩) dX3_hearCoughs_76
          refine sb_if_le (tgt := 68) hx hb rfl dX3_hearCoughs_44 (by decide) (fun c_44_15 => ?_) (fun c_44_15 => ?_)
          · exact hj_68_33 M _ _ _ hI rfl rfl fX.refl hw (lv_sub hl [0, 1, 2, 3] rfl)
          · refine lv_iload_n hx hb dX3_hearCoughs_47 rfl (lv_at hl 2 rfl) ?_
            refine lv_aload_n hx hb dX3_hearCoughs_48 rfl (lv_at hl 3 rfl) ?_
            refine ti_callVi (ci := 3) (av := []) C hw (s_X3_need l D A cy hJ M hI q t hq ht (hT)) ⟨ml_X3_189, ym_X3_need, yv_X3_need, yi_X3_need, yc_X3_need⟩ yd_X3_need hq (by decide) rfl rfl hl.1 (Nat.le_of_ble_eq_true rfl) ⟨by decide, by decide⟩ ⟨Nat.zero_le _, Nat.zero_le _⟩ dX3_hearCoughs_49 (fun r_17 M_18 H locs hp_18 hw => ?_)
            obtain ⟨iM_18, q_19, q_20⟩ := hp_18
            refine sb_icmp_lt (tgt := 68) hx hb rfl rfl dX3_hearCoughs_52 (by decide) (fun c_52_20 => ?_) (fun c_52_20 => ?_)
            · exact hj_68_33 M_18 _ _ _ iM_18 (q_19) (tI_fr q_20) (fx_of q_20) hw (lv_sub hl [0, 1, 2, 3] rfl)
            · refine lv_aload_n hx hb dX3_hearCoughs_55 rfl (lv_at hl 3 rfl) ?_
              refine ti_callVi (ci := 3) (av := []) C hw (s_X3_isGuarded l D A cy hJ M_18 iM_18 q t hq ht ((tT_fr q_19).trans hT)) ⟨ml_X3_192, ym_X3_isGuarded, yv_X3_isGuarded, yi_X3_isGuarded, yc_X3_isGuarded⟩ yd_X3_isGuarded hq (by decide) rfl rfl hl.1 (Nat.le_of_ble_eq_true rfl) ⟨by decide, by decide⟩ ⟨Nat.zero_le _, Nat.zero_le _⟩ dX3_hearCoughs_56 (fun r_22 M_23 H locs hp_23 hw => ?_)
              have hm := hp_23
              have hw := hw.to hm
              refine sb_if_ne (tgt := 68) hx hb rfl dX3_hearCoughs_59 (by decide) (fun c_59_23 => ?_) (fun c_59_23 => ?_)
              · exact hj_68_33 M_18 _ _ _ iM_18 (q_19) (tI_fr q_20) (fx_of q_20) hw (lv_sub hl [0, 1, 2, 3] rfl)
              · refine lv_aload_n hx hb dX3_hearCoughs_62 rfl (lv_at hl 3 rfl) ?_
                refine lv_iconst (v := 0) hx hb dX3_hearCoughs_63 (by decide) ?_
                refine lv_iconst (v := 3) hx hb dX3_hearCoughs_64 (by decide) ?_
                refine ti_callVv (ci := 3) (av := [.int 0, .int 3]) C hw (s_X3_remove l D A cy hJ M_18 iM_18 q hq 0 3) ⟨ml_X3_196, ym_X3_remove, yv_X3_remove, yi_X3_remove, yc_X3_remove⟩ yd_X3_remove hq (by decide) rfl rfl hl.1 (Nat.le_of_ble_eq_true rfl) ⟨by decide, by decide⟩ ⟨Nat.zero_le _, Nat.zero_le _⟩ dX3_hearCoughs_65 (fun M_26 H locs hp_26 hw => ?_)
                obtain ⟨iM_26, q_27, q_28, q_29⟩ := hp_26
                exact hj_68_33 M_26 _ _ _ iM_26 ((q_27).trans q_19) ((q_28).trans (tI_fr q_20)) (fX.trans q_29 (fx_of q_20)) hw (lv_sub hl [0, 1, 2, 3] rfl)
        · refine lv_iload_n hx hb dX3_hearCoughs_23 rfl (lv_at hl 2 rfl) ?_
          refine lv_aload_n hx hb dX3_hearCoughs_24 rfl (lv_at hl 3 rfl) ?_
          refine ti_get (ci := 3) (k := 16) (N := 17) (T := TX3) (v := .ref (A q 17)) C hw iw_3 rfl hq (by decide) (by decide) fl_X3_42 rfl rfl dX3_hearCoughs_25 ?_
          refine lv_aload_n hx hb dX3_hearCoughs_28 rfl (lv_at hl 3 rfl) ?_
          refine ti_get (ci := 3) (k := 6) (N := 17) (T := TX3) (v := .ref (A q 7)) C hw iw_3 rfl hq (by decide) (by decide) fl_X3_9 rfl rfl dX3_hearCoughs_29 ?_
          refine lv_iload_n hx hb dX3_hearCoughs_32 rfl (lv_at hl 0 rfl) ?_
          refine ti_iald (ci := 3) (k := 6) (n := 8) C hw hq (by decide) (fun _ _ => rfl) (vp_in_iff.mpr (by omega)) dX3_hearCoughs_33 ?_
          refine lv_topi (fun x_12 ex_12 => ?_)
          have bx_12 : 0 ≤ x_12.toInt ∧ x_12.toInt ≤ 7 := cI_ry hI hq.1 ex_12
          refine ti_iald (ci := 3) (k := 16) (n := 8) C hw hq (by decide) (fun _ _ => rfl) (vp_in_iff.mpr (by omega)) dX3_hearCoughs_34 ?_
          refine lv_topi (fun x_13 ex_13 => ?_)
          refine lv_iadd hx hb dX3_hearCoughs_35 ?_
          refine lv_topi (fun x_14 ex_14 => ?_)
          refine lv_istore_n (lv' := [(1, .int x_14), (3, .int x_6), (2, .int r_4), (0, .ref (A q 0))]) hx hb dX3_hearCoughs_36 rfl hl (by decide) rfl (fun ls hl => ?_)
          obtain ⟨x_15, ex_15⟩ : ∃ z : Int32, z = x_6 + 1 := ⟨_, rfl⟩
          have tx_15 : x_15.toInt = x_6.toInt + 1 := i_add ex_15 rfl (by decide) (by omega) (by omega)
          refine lv_iinc (v := x_15) (lv' := [(3, .int x_15), (1, .int x_14), (2, .int r_4), (0, .ref (A q 0))]) hx hb dX3_hearCoughs_37 hl (k := 1) rfl (by rw [ex_15]; rfl) (by decide) rfl (fun ls hl => ?_)
          refine lv_goto (tgt := 18) hx hb dX3_hearCoughs_40 (by decide) ?_
          exact ih_10 x_15 x_14 _ _ _ (by omega) (by first | omega | decide) (by first | omega | decide) hw (lv_sub hl [0, 2, 1, 3] rfl)
    exact hl_18_9 ((8 - 1 : Int).toNat + 1) 1 0 _ _ _ (Nat.lt_succ_self _) (by have lt0 : (0 : Int32).toInt = 0 := (by decide); have lt1 : (1 : Int32).toInt = 1 := (by decide); first | omega | decide) (by have lt0 : (0 : Int32).toInt = 0 := (by decide); have lt1 : (1 : Int32).toInt = 1 := (by decide); first | omega | decide) hw (lv_sub hl [0, 1, 2, 3] rfl)
  · exact hQ _ _ _ _ _ hw (⟨hI, rfl, rfl, fX.refl⟩) dX3_hearCoughs_8
set_option maxHeartbeats 4000000 in
set_option maxRecDepth 100000 in
theorem s_X3_pour (l : Launch) (D : va_G) (A : Nat → Nat → Nat) (cy : Nat → ClassId) (hJ : ti_inj ti_LT A) (M : ti_M) (hI : cI Tc M) (q t : Nat) (hq : ti_ob ti_LT q 3) (ht : t = 3 ∨ t = 4) (hT : tT M q 0 = some t) : ti_Kv l yX3_pour cX3_pour 4 1 ti_LT D A cy M [.ref (A q 0)] (fun M2 => cI Tc M2 ∧ M2.2.2.2 = M.2.2.2 ∧ tI M2 q 2 = tI M q 2 ∧ fX M2 M) := by
  refine ti_eV yp_X3_pour hJ ti_LT_nd (Nat.le_of_ble_eq_true rfl) ?_
  intro p e s m args below meth c Q H0 C hQ hw ls hl
  have hx := C.1
  have hb := C.2.1
  have hl : lv_has ls 4 [(0, .ref (A q 0))] := hl
  refine lv_aload_n hx hb dX3_pour_0 rfl (lv_at hl 0 rfl) ?_
  refine ti_get (ci := 3) (k := 3) (N := 17) (T := TX3) C hw iw_3 rfl hq (by decide) (by decide) fl_X3_56 rfl rfl dX3_pour_1 ?_
  refine lv_topi (fun x_1 ex_1 => ?_)
  have bx_1 : 0 ≤ x_1.toInt ∧ x_1.toInt ≤ 8 := cI_rd hI hq.1 ex_1
  have ux_1 : (tI M q 3).toInt = x_1.toInt := by rw [ex_1]
  refine sb_if_ne (tgt := 8) hx hb rfl dX3_pour_4 (by decide) (fun c_4_1 => ?_) (fun c_4_1 => ?_)
  · refine lv_aload_n hx hb dX3_pour_8 rfl (lv_at hl 0 rfl) ?_
    refine ti_get (ci := 3) (k := 6) (N := 17) (T := TX3) (v := .ref (A q 7)) C hw iw_3 rfl hq (by decide) (by decide) fl_X3_9 rfl rfl dX3_pour_9 ?_
    refine lv_iconst (v := 0) hx hb dX3_pour_12 (by decide) ?_
    refine ti_iald (ci := 3) (k := 6) (n := 8) C hw hq (by decide) (fun _ _ => rfl) (by unfold vp_in; decide) dX3_pour_13 ?_
    refine lv_topi (fun x_3 ex_3 => ?_)
    have bx_3 : 0 ≤ x_3.toInt ∧ x_3.toInt ≤ 7 := cI_ry hI hq.1 ex_3
    refine lv_istore_n (lv' := [(1, .int x_3), (0, .ref (A q 0))]) hx hb dX3_pour_14 rfl hl (by decide) rfl (fun ls hl => ?_)
    refine lv_aload_n hx hb dX3_pour_15 rfl (lv_at hl 1 rfl) ?_
    refine lv_bipush (v := 32) hx hb dX3_pour_16 (by decide) ?_
    refine ti_callVi (ci := 3) (av := [.int 32]) C hw (s_X3_is l D A cy hJ M hI q hq 32) ⟨ml_X3_182, ym_X3_is, yv_X3_is, yi_X3_is, yc_X3_is⟩ yd_X3_is hq (by decide) rfl rfl hl.1 (Nat.le_of_ble_eq_true rfl) ⟨by decide, by decide⟩ ⟨Nat.zero_le _, Nat.zero_le _⟩ dX3_pour_18 (fun r_4 M_5 H locs hp_5 hw => ?_)
    have hm := hp_5
    have hw := hw.to hm
    have hj_43_10 : ∀ (x_10 : Int32) (H : Heap) (locs : List Loc) (ls : Array Slot), ti_H ti_LT D A cy H0 M H locs → lv_has ls 4 [(1, .int x_3), (0, .ref (A q 0))] → W p l e (ti_rm 1) s m args below meth c H locs 0 0 Q (F0 m 43 ls [.int x_10]) := by
      intro x_10 H locs ls  hw hl
      refine lv_istore_n (lv' := [(2, .int x_10), (1, .int x_3), (0, .ref (A q 0))]) hx hb dX3_pour_43 rfl hl (by decide) rfl (fun ls hl => ?_)
      refine lv_iload_n hx hb dX3_pour_44 rfl (lv_at hl 0 rfl) ?_
      refine lv_aload_n hx hb dX3_pour_45 rfl (lv_at hl 2 rfl) ?_
      refine ti_get (ci := 3) (k := 0) (N := 17) (T := TX3) (v := .ref (A t 0)) C hw iw_3 rfl hq (by decide) (by decide) fl_X3_45 rfl (ti_Tv (hT)) dX3_pour_46 ?_
      refine ti_get (ci := 8) (k := 0) (N := 12) (T := TX8) (v := .ref (A t 1)) C hw iw_8 rfl (ob_t ht) (by decide) (by decide) fl_X3_81 rfl rfl dX3_pour_49 ?_
      refine lv_iload_n hx hb dX3_pour_52 rfl (lv_at hl 1 rfl) ?_
      refine ti_aald (ci := 8) (k := 0) (n := 8) (t0 := 5) (Cn := RX2) (gg := (ti_men t)) (j := x_3.toNatClampNeg) C hw (ob_t ht) (by decide) (fun _ _ => rfl) rfl (vp_in_iff.mpr (by omega)) rfl dX3_pour_53 ?_
      have ob_11 : ti_ob ti_LT (ti_men t x_3.toNatClampNeg) 2 := ob_m ht (i_nt rfl (by omega) (by omega))
      refine ti_get (ci := 2) (k := 4) (N := 10) (T := TX2) C hw iw_2 rfl ob_11 (by decide) (by decide) fl_X3_203 rfl rfl dX3_pour_54 ?_
      refine lv_topi (fun x_12 ex_12 => ?_)
      refine lv_aload_n hx hb dX3_pour_57 rfl (lv_at hl 2 rfl) ?_
      refine ti_get (ci := 3) (k := 11) (N := 17) (T := TX3) (v := .ref (A q 12)) C hw iw_3 rfl hq (by decide) (by decide) fl_X3_27 rfl rfl dX3_pour_58 ?_
      refine lv_iload_n hx hb dX3_pour_61 rfl (lv_at hl 1 rfl) ?_
      refine ti_iald (ci := 3) (k := 11) (n := 8) C hw hq (by decide) (fun _ _ => rfl) (vp_in_iff.mpr (by omega)) dX3_pour_62 ?_
      refine lv_topi (fun x_13 ex_13 => ?_)
      refine lv_isub hx hb dX3_pour_63 ?_
      refine lv_topi (fun x_14 ex_14 => ?_)
      refine ti_min C ml_X3_137 hl.1 (by decide) (Nat.le_of_ble_eq_true rfl) ⟨Nat.zero_le _, Nat.zero_le _⟩ dX3_pour_64 ?_
      refine lv_topi (fun x_15 ex_15 => ?_)
      have bx_15 := i_min ex_15 rfl rfl
      refine lv_istore_n (lv' := [(3, .int x_15), (2, .int x_10), (1, .int x_3), (0, .ref (A q 0))]) hx hb dX3_pour_67 rfl hl (by decide) rfl (fun ls hl => ?_)
      refine lv_aload_n hx hb dX3_pour_68 rfl (lv_at hl 3 rfl) ?_
      refine lv_bipush (v := 16) hx hb dX3_pour_69 (by decide) ?_
      refine ti_callVi (ci := 3) (av := [.int 16]) C hw (s_X3_is l D A cy hJ M hI q hq 16) ⟨ml_X3_182, ym_X3_is, yv_X3_is, yi_X3_is, yc_X3_is⟩ yd_X3_is hq (by decide) rfl rfl hl.1 (Nat.le_of_ble_eq_true rfl) ⟨by decide, by decide⟩ ⟨Nat.zero_le _, Nat.zero_le _⟩ dX3_pour_71 (fun r_16 M_17 H locs hp_17 hw => ?_)
      have hm := hp_17
      have hw := hw.to hm
      have hj_96_27 : ∀ (x_23 : Int32) (M_24 : ti_M) (H : Heap) (locs : List Loc) (ls : Array Slot), (cI Tc M_24) → (M_24.2.2.2 = M.2.2.2) → (tI M_24 q 2 = tI M q 2) → (fX M_24 M) → ti_H ti_LT D A cy H0 M_24 H locs → lv_has ls 4 [(3, .int x_23), (2, .int x_10), (1, .int x_3), (0, .ref (A q 0))] → W p l e (ti_rm 1) s m args below meth c H locs 0 0 Q (F0 m 96 ls []) := by
        intro x_23 M_24 H locs ls iM_24 f_25 f_26 f_27 hw hl
        refine lv_aload_n hx hb dX3_pour_96 rfl (lv_at hl 3 rfl) ?_
        refine ti_get (ci := 3) (k := 11) (N := 17) (T := TX3) (v := .ref (A q 12)) C hw iw_3 rfl hq (by decide) (by decide) fl_X3_27 rfl rfl dX3_pour_97 ?_
        refine lv_iload_n hx hb dX3_pour_100 rfl (lv_at hl 2 rfl) ?_
        refine lv_dup2_11 hx hb dX3_pour_101 rfl rfl ?_
        refine ti_iald (ci := 3) (k := 11) (n := 8) C hw hq (by decide) (fun _ _ => rfl) (vp_in_iff.mpr (by omega)) dX3_pour_102 ?_
        refine lv_topi (fun x_28 ex_28 => ?_)
        refine lv_iload_n hx hb dX3_pour_103 rfl (lv_at hl 0 rfl) ?_
        refine lv_iadd hx hb dX3_pour_104 ?_
        refine lv_topi (fun x_29 ex_29 => ?_)
        refine ti_iast (ci := 3) (k := 11) (n := 8) C hw hq (by decide) (fun _ _ => rfl) (vp_in_iff.mpr (by omega)) dX3_pour_105 (fun H locs hw => ?_)
        obtain ⟨M_30, hM_30⟩ : ∃ z : ti_M, z = uY M_24 q 11 (upd (tY M_24 q 11) (x_3 : Int32).toNatClampNeg x_29) := ⟨_, rfl⟩
        have hw := hw.to hM_30.symm
        have iM_30 : cI Tc M_30 := cI_up iM_24 hM_30 hq.1 trivial
        exact hQ _ _ _ _ _ hw (⟨iM_30, ((rf_Y hM_30).trans f_25), ((tI_uYE hM_30).trans f_26), (fX.trans (fx_of (ra_Y hM_30)) f_27)⟩) dX3_pour_106
      refine sb_if_ne (tgt := 96) hx hb rfl dX3_pour_74 (by decide) (fun c_74_17 => ?_) (fun c_74_17 => ?_)
      · exact hj_96_27 x_15 M _ _ _ hI rfl rfl fX.refl hw (lv_sub hl [0, 1, 2, 3] rfl)
      · refine lv_iload_n hx hb dX3_pour_77 rfl (lv_at hl 0 rfl) ?_
        refine lv_aload_n hx hb dX3_pour_78 rfl (lv_at hl 3 rfl) ?_
        refine ti_get (ci := 3) (k := 4) (N := 17) (T := TX3) C hw iw_3 rfl hq (by decide) (by decide) fl_X3_64 rfl rfl dX3_pour_79 ?_
        refine lv_topi (fun x_19 ex_19 => ?_)
        refine ti_min C ml_X3_137 hl.1 (by decide) (Nat.le_of_ble_eq_true rfl) ⟨Nat.zero_le _, Nat.zero_le _⟩ dX3_pour_82 ?_
        refine lv_topi (fun x_20 ex_20 => ?_)
        have bx_20 := i_min ex_20 rfl rfl
        refine lv_istore_n (lv' := [(3, .int x_20), (2, .int x_10), (1, .int x_3), (0, .ref (A q 0))]) hx hb dX3_pour_85 rfl hl (by decide) rfl (fun ls hl => ?_)
        refine lv_aload_n hx hb dX3_pour_86 rfl (lv_at hl 3 rfl) ?_
        refine lv_dup hx hb dX3_pour_87 rfl ?_
        refine ti_get (ci := 3) (k := 4) (N := 17) (T := TX3) C hw iw_3 rfl hq (by decide) (by decide) fl_X3_64 rfl rfl dX3_pour_88 ?_
        refine ti_top (y := x_19) (ex_19.symm) ?_
        refine lv_iload_n hx hb dX3_pour_91 rfl (lv_at hl 0 rfl) ?_
        refine lv_isub hx hb dX3_pour_92 ?_
        refine lv_topi (fun x_21 ex_21 => ?_)
        refine ti_putI (ci := 3) (k := 4) (N := 17) (T := TX3) C hw iw_3 tyX3 tyX3_ok nmX3 rfl hq (by decide) (by decide) fl_X3_64 rfl rfl rfl rfl (fn_3 A _) fs_3_4 dX3_pour_93 (fun H locs hw => ?_)
        obtain ⟨M_22, hM_22⟩ : ∃ z : ti_M, z = uI M q 4 x_21 := ⟨_, rfl⟩
        have hw := hw.to hM_22.symm
        have iM_22 : cI Tc M_22 := cI_uI hI hM_22 hq.1 trivial
        exact hj_96_27 x_20 M_22 _ _ _ iM_22 (rf_I hM_22) (tI_nE hM_22 (nk (by decide))) (fx_I hM_22 (fxn hq.1 (by decide))) hw (lv_sub hl [0, 1, 2, 3] rfl)
    refine sb_if_eq (tgt := 36) hx hb rfl dX3_pour_21 (by decide) (fun c_21_5 => ?_) (fun c_21_5 => ?_)
    · refine lv_aload_n hx hb dX3_pour_36 rfl (lv_at hl 1 rfl) ?_
      refine ti_get (ci := 3) (k := 0) (N := 17) (T := TX3) (v := .ref (A t 0)) C hw iw_3 rfl hq (by decide) (by decide) fl_X3_45 rfl (ti_Tv (hT)) dX3_pour_37 ?_
      refine ti_get (ci := 8) (k := 7) (N := 12) (T := TX8) C hw iw_8 rfl (ob_t ht) (by decide) (by decide) fl_X3_200 rfl rfl dX3_pour_40 ?_
      refine lv_topi (fun x_9 ex_9 => ?_)
      exact hj_43_10 x_9 _ _ _  hw (lv_sub hl [0, 1] rfl)
    · refine lv_aload_n hx hb dX3_pour_24 rfl (lv_at hl 1 rfl) ?_
      refine ti_get (ci := 3) (k := 0) (N := 17) (T := TX3) (v := .ref (A t 0)) C hw iw_3 rfl hq (by decide) (by decide) fl_X3_45 rfl (ti_Tv (hT)) dX3_pour_25 ?_
      refine ti_get (ci := 8) (k := 7) (N := 12) (T := TX8) C hw iw_8 rfl (ob_t ht) (by decide) (by decide) fl_X3_200 rfl rfl dX3_pour_28 ?_
      refine lv_topi (fun x_7 ex_7 => ?_)
      refine lv_iconst (v := 1) hx hb dX3_pour_31 (by decide) ?_
      refine lv_iadd hx hb dX3_pour_32 ?_
      refine lv_topi (fun x_8 ex_8 => ?_)
      refine lv_goto (tgt := 43) hx hb dX3_pour_33 (by decide) ?_
      exact hj_43_10 x_8 _ _ _  hw (lv_sub hl [0, 1] rfl)
  · exact hQ _ _ _ _ _ hw (⟨hI, rfl, rfl, fX.refl⟩) dX3_pour_7
set_option maxHeartbeats 4000000 in
set_option maxRecDepth 100000 in
theorem s_X3_levy (l : Launch) (D : va_G) (A : Nat → Nat → Nat) (cy : Nat → ClassId) (hJ : ti_inj ti_LT A) (M : ti_M) (hI : cI Tc M) (q t : Nat) (hq : ti_ob ti_LT q 3) (ht : t = 3 ∨ t = 4) (hT : tT M q 0 = some t) : ti_Kv l yX3_levy cX3_levy 6 2 ti_LT D A cy M [.ref (A q 0)] (fun M2 => cI Tc M2 ∧ M2.2.2.2 = M.2.2.2 ∧ tI M2 q 2 = tI M q 2 ∧ fX M2 M) := by
  refine ti_eV yp_X3_levy hJ ti_LT_nd (Nat.le_of_ble_eq_true rfl) ?_
  intro p e s m args below meth c Q H0 C hQ hw ls hl
  have hx := C.1
  have hb := C.2.1
  have hl : lv_has ls 6 [(0, .ref (A q 0))] := hl
  refine lv_aload_n hx hb dX3_levy_0 rfl (lv_at hl 0 rfl) ?_
  refine lv_aload_n hx hb dX3_levy_1 rfl (lv_at hl 0 rfl) ?_
  refine ti_get (ci := 3) (k := 7) (N := 17) (T := TX3) (v := .ref (A q 8)) C hw iw_3 rfl hq (by decide) (by decide) fl_X3_15 rfl rfl dX3_levy_2 ?_
  refine lv_iconst (v := 2) hx hb dX3_levy_5 (by decide) ?_
  refine ti_iald (ci := 3) (k := 7) (n := 3) C hw hq (by decide) (fun _ _ => rfl) (by unfold vp_in; decide) dX3_levy_6 ?_
  refine lv_topi (fun x_1 ex_1 => ?_)
  refine ti_callVi (ci := 3) (av := [.int x_1]) C hw (s_X3_manAt l D A cy hJ M hI q hq x_1) ⟨ml_X3_99, ym_X3_manAt, yv_X3_manAt, yi_X3_manAt, yc_X3_manAt⟩ yd_X3_manAt hq (by decide) rfl rfl hl.1 (Nat.le_of_ble_eq_true rfl) ⟨by decide, by decide⟩ ⟨Nat.zero_le _, Nat.zero_le _⟩ dX3_levy_7 (fun r_2 M_3 H locs hp_3 hw => ?_)
  obtain ⟨hm, b0r_2, b1r_2, p0r_2⟩ := hp_3
  have hw := hw.to hm
  refine lv_istore_n (lv' := [(1, .int r_2), (0, .ref (A q 0))]) hx hb dX3_levy_10 rfl hl (by decide) rfl (fun ls hl => ?_)
  refine lv_aload_n hx hb dX3_levy_11 rfl (lv_at hl 1 rfl) ?_
  refine lv_iconst (v := 4) hx hb dX3_levy_12 (by decide) ?_
  refine ti_callVi (ci := 3) (av := [.int 4]) C hw (s_X3_is l D A cy hJ M hI q hq 4) ⟨ml_X3_182, ym_X3_is, yv_X3_is, yi_X3_is, yc_X3_is⟩ yd_X3_is hq (by decide) rfl rfl hl.1 (Nat.le_of_ble_eq_true rfl) ⟨by decide, by decide⟩ ⟨Nat.zero_le _, Nat.zero_le _⟩ dX3_levy_13 (fun r_4 M_5 H locs hp_5 hw => ?_)
  have hm := hp_5
  have hw := hw.to hm
  refine sb_if_ne (tgt := 49) hx hb rfl dX3_levy_16 (by decide) (fun c_16_5 => ?_) (fun c_16_5 => ?_)
  · exact hQ _ _ _ _ _ hw (⟨hI, rfl, rfl, fX.refl⟩) dX3_levy_49
  · refine lv_iload_n hx hb dX3_levy_19 rfl (lv_at hl 0 rfl) ?_
    refine sb_if_lt (tgt := 49) hx hb rfl dX3_levy_20 (by decide) (fun c_20_6 => ?_) (fun c_20_6 => ?_)
    · exact hQ _ _ _ _ _ hw (⟨hI, rfl, rfl, fX.refl⟩) dX3_levy_49
    · refine lv_aload_n hx hb dX3_levy_23 rfl (lv_at hl 1 rfl) ?_
      refine ti_get (ci := 3) (k := 0) (N := 17) (T := TX3) (v := .ref (A t 0)) C hw iw_3 rfl hq (by decide) (by decide) fl_X3_45 rfl (ti_Tv (hT)) dX3_levy_24 ?_
      refine ti_get (ci := 8) (k := 8) (N := 12) (T := TX8) C hw iw_8 rfl (ob_t ht) (by decide) (by decide) fl_X3_206 rfl rfl dX3_levy_27 ?_
      refine lv_topi (fun x_8 ex_8 => ?_)
      refine lv_iconst (v := 1) hx hb dX3_levy_30 (by decide) ?_
      refine sb_icmp_lt (tgt := 49) hx hb rfl (by decide : (1 : Int32).toInt = 1) dX3_levy_31 (by decide) (fun c_31_8 => ?_) (fun c_31_8 => ?_)
      · exact hQ _ _ _ _ _ hw (⟨hI, rfl, rfl, fX.refl⟩) dX3_levy_49
      · refine lv_aload_n hx hb dX3_levy_34 rfl (lv_at hl 1 rfl) ?_
        refine ti_get (ci := 3) (k := 2) (N := 17) (T := TX3) C hw iw_3 rfl hq (by decide) (by decide) fl_X3_53 rfl rfl dX3_levy_35 ?_
        refine lv_topi (fun x_10 ex_10 => ?_)
        refine lv_aload_n hx hb dX3_levy_38 rfl (lv_at hl 1 rfl) ?_
        refine ti_get (ci := 3) (k := 0) (N := 17) (T := TX3) (v := .ref (A t 0)) C hw iw_3 rfl hq (by decide) (by decide) fl_X3_45 rfl (ti_Tv (hT)) dX3_levy_39 ?_
        refine ti_get (ci := 8) (k := 8) (N := 12) (T := TX8) C hw iw_8 rfl (ob_t ht) (by decide) (by decide) fl_X3_206 rfl rfl dX3_levy_42 ?_
        refine ti_top (y := x_8) (ex_8.symm) ?_
        refine lv_irem hx hb dX3_levy_45 (nz (by omega)) ?_
        refine lv_topi (fun x_11 ex_11 => ?_)
        refine sb_if_eq (tgt := 50) hx hb rfl dX3_levy_46 (by decide) (fun c_46_11 => ?_) (fun c_46_11 => ?_)
        · refine lv_iconst (v := 0) hx hb dX3_levy_50 (by decide) ?_
          refine lv_istore_n (lv' := [(2, .int 0), (1, .int r_2), (0, .ref (A q 0))]) hx hb dX3_levy_51 rfl hl (by decide) rfl (fun ls hl => ?_)
          have hl_52_19 : ∀ (n_20 : Nat) (x_13 : Int32) (M_16 : ti_M) (H : Heap) (locs : List Loc) (ls : Array Slot), (8 - x_13.toInt : Int).toNat < n_20 → (0 ≤ x_13.toInt) → (x_13.toInt ≤ 8) → (cI Tc M_16) → (M_16.2.2.2 = M.2.2.2) → (tI M_16 q 2 = tI M q 2) → (fX M_16 M) → ti_H ti_LT D A cy H0 M_16 H locs → lv_has ls 6 [(2, .int x_13), (1, .int r_2), (0, .ref (A q 0))] → W p l e (ti_rm 2) s m args below meth c H locs 0 0 Q (F0 m 52 ls []) := by
            intro n_20
            induction n_20 with
            | zero => intro x_13 M_16 H locs ls hf_20; exact absurd hf_20 (Nat.not_lt_zero _)
            | succ n_20 ih_20 =>
              intro x_13 M_16 H locs ls hf_20 b_14 b_15 iM_16 f_17 f_18 f_19 hw hl
              refine lv_iload_n hx hb dX3_levy_52 rfl (lv_at hl 0 rfl) ?_
              refine lv_aload_n hx hb dX3_levy_53 rfl (lv_at hl 2 rfl) ?_
              refine ti_get (ci := 3) (k := 3) (N := 17) (T := TX3) C hw iw_3 rfl hq (by decide) (by decide) fl_X3_56 rfl rfl dX3_levy_54 ?_
              refine lv_topi (fun x_21 ex_21 => ?_)
              have bx_21 : 0 ≤ x_21.toInt ∧ x_21.toInt ≤ 8 := cI_rd iM_16 hq.1 ex_21
              have ux_21 : (tI M_16 q 3).toInt = x_21.toInt := by rw [ex_21]
              refine sb_icmp_ge (tgt := 137) hx hb rfl rfl dX3_levy_57 (by decide) (fun c_57_21 => ?_) (fun c_57_21 => ?_)
              · exact hQ _ _ _ _ _ hw (⟨iM_16, (f_17), (f_18), f_19⟩) dX3_levy_137
              · refine lv_aload_n hx hb dX3_levy_60 rfl (lv_at hl 2 rfl) ?_
                refine ti_get (ci := 3) (k := 6) (N := 17) (T := TX3) (v := .ref (A q 7)) C hw iw_3 rfl hq (by decide) (by decide) fl_X3_9 rfl rfl dX3_levy_61 ?_
                refine lv_iload_n hx hb dX3_levy_64 rfl (lv_at hl 0 rfl) ?_
                refine ti_iald (ci := 3) (k := 6) (n := 8) C hw hq (by decide) (fun _ _ => rfl) (vp_in_iff.mpr (by omega)) dX3_levy_65 ?_
                refine lv_topi (fun x_23 ex_23 => ?_)
                have bx_23 : 0 ≤ x_23.toInt ∧ x_23.toInt ≤ 7 := cI_ry iM_16 hq.1 ex_23
                refine lv_istore_n (lv' := [(3, .int x_23), (2, .int x_13), (1, .int r_2), (0, .ref (A q 0))]) hx hb dX3_levy_66 rfl hl (by decide) rfl (fun ls hl => ?_)
                refine lv_iload_n hx hb dX3_levy_67 rfl (lv_at hl 0 rfl) ?_
                refine lv_iload_n hx hb dX3_levy_68 rfl (lv_at hl 2 rfl) ?_
                have hj_131_43 : ∀ (M_40 : ti_M) (H : Heap) (locs : List Loc) (ls : Array Slot), (cI Tc M_40) → (M_40.2.2.2 = M.2.2.2) → (tI M_40 q 2 = tI M q 2) → (fX M_40 M) → ti_H ti_LT D A cy H0 M_40 H locs → lv_has ls 6 [(3, .int x_23), (2, .int x_13), (1, .int r_2), (0, .ref (A q 0))] → W p l e (ti_rm 2) s m args below meth c H locs 0 0 Q (F0 m 131 ls []) := by
                  intro M_40 H locs ls iM_40 f_41 f_42 f_43 hw hl
                  obtain ⟨x_44, ex_44⟩ : ∃ z : Int32, z = x_13 + 1 := ⟨_, rfl⟩
                  have tx_44 : x_44.toInt = x_13.toInt + 1 := i_add ex_44 rfl (by decide) (by omega) (by omega)
                  refine lv_iinc (v := x_44) (lv' := [(2, .int x_44), (3, .int x_23), (1, .int r_2), (0, .ref (A q 0))]) hx hb dX3_levy_131 hl (k := 1) rfl (by rw [ex_44]; rfl) (by decide) rfl (fun ls hl => ?_)
                  refine lv_goto (tgt := 52) hx hb dX3_levy_134 (by decide) ?_
                  exact ih_20 x_44 M_40 _ _ _ (by omega) (by first | omega | decide) (by first | omega | decide) iM_40 (f_41) (f_42) f_43 hw (lv_sub hl [0, 2, 3] rfl)
                refine sb_icmp_eq (tgt := 131) hx hb rfl rfl dX3_levy_69 (by decide) (fun c_69_23 => ?_) (fun c_69_23 => ?_)
                · exact hj_131_43 M_16 _ _ _ iM_16 (f_17) (f_18) f_19 hw (lv_sub hl [0, 1, 2, 3] rfl)
                · refine lv_aload_n hx hb dX3_levy_72 rfl (lv_at hl 3 rfl) ?_
                  refine ti_get (ci := 3) (k := 0) (N := 17) (T := TX3) (v := .ref (A t 0)) C hw iw_3 rfl hq (by decide) (by decide) fl_X3_45 rfl (ti_Tv ((tT_fr f_17).trans hT)) dX3_levy_73 ?_
                  refine ti_get (ci := 8) (k := 2) (N := 12) (T := TX8) (v := .ref (A t 3)) C hw iw_8 rfl (ob_t ht) (by decide) (by decide) fl_X3_119 rfl rfl dX3_levy_76 ?_
                  refine lv_iconst (v := 0) hx hb dX3_levy_79 (by decide) ?_
                  refine ti_aald (ci := 8) (k := 2) (n := 3) (t0 := 4) (Cn := RX1) (gg := (ti_laws t)) (j := 0) C hw (ob_t ht) (by decide) (fun _ _ => rfl) rfl (by unfold vp_in; decide) (by decide) dX3_levy_80 ?_
                  have ob_25 : ti_ob ti_LT (ti_laws t 0) 1 := ob_l ht (by decide)
                  refine lv_aload_n hx hb dX3_levy_81 rfl (lv_at hl 3 rfl) ?_
                  refine lv_iload_n hx hb dX3_levy_82 rfl (lv_at hl 1 rfl) ?_
                  refine lv_iload_n hx hb dX3_levy_83 rfl (lv_at hl 1 rfl) ?_
                  refine ti_callVl (ci := 1) (av := [.ref (A q 0), .int x_13, .int x_13]) C hw (s_X1_value l D A cy hJ M_16 iM_16 (ti_laws t 0) q t ob_25 hq ht ((tT_fr f_17).trans hT) x_13 x_13) ⟨ml_X3_123, ym_X1_value, yv_X1_value, yi_X1_value, yc_X1_value⟩ yd_X1_value ob_25 (by decide) rfl rfl hl.1 (Nat.le_of_ble_eq_true rfl) ⟨by decide, by decide⟩ ⟨Nat.zero_le _, Nat.zero_le _⟩ dX3_levy_84 (fun r_26 M_27 H locs hp_27 hw => ?_)
                  obtain ⟨iM_27, q_28, q_29⟩ := hp_27
                  refine lv_iconst (v := 0) hx hb dX3_levy_87 (by decide) ?_
                  refine lv_bipush (v := 99) hx hb dX3_levy_88 (by decide) ?_
                  refine lv_iconst (v := 1) hx hb dX3_levy_90 (by decide) ?_
                  refine ti_callSi (av := [.long r_26, .int 0, .int 99, .int 1]) C hw (s_X3_put l D A cy hJ M_27 iM_27 r_26 0 99 1) ⟨ml_X3_127, ys_X3_put, yi_X3_put, yc_X3_put⟩ yd_X3_put rfl hl.1 (Nat.le_of_ble_eq_true rfl) ⟨by decide, by decide⟩ ⟨Nat.zero_le _, Nat.zero_le _⟩ dX3_levy_91 (fun r_30 M_31 H locs hp_31 hw => ?_)
                  have hm := hp_31
                  have hw := hw.to hm
                  refine lv_istore (lv' := [(4, .int r_30), (3, .int x_23), (2, .int x_13), (1, .int r_2), (0, .ref (A q 0))]) hx hb dX3_levy_94 hl (by decide) rfl (fun ls hl => ?_)
                  refine lv_iload hx hb dX3_levy_96 (lv_at hl 0 rfl) ?_
                  refine lv_aload_n hx hb dX3_levy_98 rfl (lv_at hl 4 rfl) ?_
                  refine ti_get (ci := 3) (k := 12) (N := 17) (T := TX3) (v := .ref (A q 13)) C hw iw_3 rfl hq (by decide) (by decide) fl_X3_30 rfl rfl dX3_levy_99 ?_
                  refine lv_iload_n hx hb dX3_levy_102 rfl (lv_at hl 1 rfl) ?_
                  refine ti_iald (ci := 3) (k := 12) (n := 8) C hw hq (by decide) (fun _ _ => rfl) (vp_in_iff.mpr (by omega)) dX3_levy_103 ?_
                  refine lv_topi (fun x_32 ex_32 => ?_)
                  refine ti_min C ml_X3_137 hl.1 (by decide) (Nat.le_of_ble_eq_true rfl) ⟨Nat.zero_le _, Nat.zero_le _⟩ dX3_levy_104 ?_
                  refine lv_topi (fun x_33 ex_33 => ?_)
                  have bx_33 := i_min ex_33 rfl rfl
                  refine lv_istore (lv' := [(5, .int x_33), (4, .int r_30), (3, .int x_23), (2, .int x_13), (1, .int r_2), (0, .ref (A q 0))]) hx hb dX3_levy_107 hl (by decide) rfl (fun ls hl => ?_)
                  refine lv_aload_n hx hb dX3_levy_109 rfl (lv_at hl 5 rfl) ?_
                  refine ti_get (ci := 3) (k := 12) (N := 17) (T := TX3) (v := .ref (A q 13)) C hw iw_3 rfl hq (by decide) (by decide) fl_X3_30 rfl rfl dX3_levy_110 ?_
                  refine lv_iload_n hx hb dX3_levy_113 rfl (lv_at hl 2 rfl) ?_
                  refine lv_dup2_11 hx hb dX3_levy_114 rfl rfl ?_
                  refine ti_iald (ci := 3) (k := 12) (n := 8) C hw hq (by decide) (fun _ _ => rfl) (vp_in_iff.mpr (by omega)) dX3_levy_115 ?_
                  refine lv_topi (fun x_34 ex_34 => ?_)
                  refine lv_iload hx hb dX3_levy_116 (lv_at hl 0 rfl) ?_
                  refine lv_isub hx hb dX3_levy_118 ?_
                  refine lv_topi (fun x_35 ex_35 => ?_)
                  refine ti_iast (ci := 3) (k := 12) (n := 8) C hw hq (by decide) (fun _ _ => rfl) (vp_in_iff.mpr (by omega)) dX3_levy_119 (fun H locs hw => ?_)
                  obtain ⟨M_36, hM_36⟩ : ∃ z : ti_M, z = uY M_27 q 12 (upd (tY M_27 q 12) (x_23 : Int32).toNatClampNeg x_35) := ⟨_, rfl⟩
                  have hw := hw.to hM_36.symm
                  have iM_36 : cI Tc M_36 := cI_up iM_27 hM_36 hq.1 trivial
                  refine lv_aload_n hx hb dX3_levy_120 rfl (lv_at hl 5 rfl) ?_
                  refine ti_get (ci := 3) (k := 12) (N := 17) (T := TX3) (v := .ref (A q 13)) C hw iw_3 rfl hq (by decide) (by decide) fl_X3_30 rfl rfl dX3_levy_121 ?_
                  refine lv_iload_n hx hb dX3_levy_124 rfl (lv_at hl 4 rfl) ?_
                  refine lv_dup2_11 hx hb dX3_levy_125 rfl rfl ?_
                  refine ti_iald (ci := 3) (k := 12) (n := 8) C hw hq (by decide) (fun _ _ => rfl) (vp_in_iff.mpr (by omega)) dX3_levy_126 ?_
                  refine lv_topi (fun x_37 ex_37 => ?_)
                  refine lv_iload hx hb dX3_levy_127 (lv_at hl 0 rfl) ?_
                  refine lv_iadd hx hb dX3_levy_129 ?_
                  refine lv_topi (fun x_38 ex_38 => ?_)
                  refine ti_iast (ci := 3) (k := 12) (n := 8) C hw hq (by decide) (fun _ _ => rfl) (vp_in_iff.mpr (by omega)) dX3_levy_130 (fun H locs hw => ?_)
                  obtain ⟨M_39, hM_39⟩ : ∃ z : ti_M, z = uY M_36 q 12 (upd (tY M_36 q 12) (r_2 : Int32).toNatClampNeg x_38) := ⟨_, rfl⟩
                  have hw := hw.to hM_39.symm
                  have iM_39 : cI Tc M_39 := cI_up iM_36 hM_39 hq.1 trivial
                  exact hj_131_43 M_39 _ _ _ iM_39 ((rf_Y hM_39).trans ((rf_Y hM_36).trans ((q_28).trans f_17))) ((tI_uYE hM_39).trans ((tI_uYE hM_36).trans ((tI_fr q_29).trans f_18))) (fX.trans (fx_of (ra_Y hM_39)) (fX.trans (fx_of (ra_Y hM_36)) (fX.trans (fx_of q_29) f_19))) hw (lv_sub hl [2, 3, 4, 5] rfl)
          exact hl_52_19 ((8 - 0 : Int).toNat + 1) 0 M _ _ _ (Nat.lt_succ_self _) (by have lt0 : (0 : Int32).toInt = 0 := (by decide); first | omega | decide) (by have lt0 : (0 : Int32).toInt = 0 := (by decide); first | omega | decide) hI rfl rfl fX.refl hw (lv_sub hl [0, 1, 2] rfl)
        · exact hQ _ _ _ _ _ hw (⟨hI, rfl, rfl, fX.refl⟩) dX3_levy_49
set_option maxHeartbeats 4000000 in
set_option maxRecDepth 100000 in
theorem s_X3_wear (l : Launch) (D : va_G) (A : Nat → Nat → Nat) (cy : Nat → ClassId) (hJ : ti_inj ti_LT A) (M : ti_M) (hI : cI Tc M) (q t : Nat) (hq : ti_ob ti_LT q 3) (ht : t = 3 ∨ t = 4) (hT : tT M q 0 = some t) : ti_Kv l yX3_wear cX3_wear 3 2 ti_LT D A cy M [.ref (A q 0)] (fun M2 => cI Tc M2 ∧ M2.2.2.2 = M.2.2.2 ∧ tI M2 q 2 = tI M q 2 ∧ fX M2 M) := by
  refine ti_eV yp_X3_wear hJ ti_LT_nd (Nat.le_of_ble_eq_true rfl) ?_
  intro p e s m args below meth c Q H0 C hQ hw ls hl
  have hx := C.1
  have hb := C.2.1
  have hl : lv_has ls 3 [(0, .ref (A q 0))] := hl
  refine lv_iconst (v := 0) hx hb dX3_wear_0 (by decide) ?_
  refine lv_istore_n (lv' := [(1, .int 0), (0, .ref (A q 0))]) hx hb dX3_wear_1 rfl hl (by decide) rfl (fun ls hl => ?_)
  have hl_2_7 : ∀ (n_8 : Nat) (x_1 : Int32) (M_4 : ti_M) (H : Heap) (locs : List Loc) (ls : Array Slot), (8 - x_1.toInt : Int).toNat < n_8 → (0 ≤ x_1.toInt) → (x_1.toInt ≤ 8) → (cI Tc M_4) → (M_4.2.2.2 = M.2.2.2) → (tI M_4 q 2 = tI M q 2) → (fX M_4 M) → ti_H ti_LT D A cy H0 M_4 H locs → lv_has ls 3 [(1, .int x_1), (0, .ref (A q 0))] → W p l e (ti_rm 2) s m args below meth c H locs 0 0 Q (F0 m 2 ls []) := by
    intro n_8
    induction n_8 with
    | zero => intro x_1 M_4 H locs ls hf_8; exact absurd hf_8 (Nat.not_lt_zero _)
    | succ n_8 ih_8 =>
      intro x_1 M_4 H locs ls hf_8 b_2 b_3 iM_4 f_5 f_6 f_7 hw hl
      refine lv_iload_n hx hb dX3_wear_2 rfl (lv_at hl 0 rfl) ?_
      refine lv_aload_n hx hb dX3_wear_3 rfl (lv_at hl 1 rfl) ?_
      refine ti_get (ci := 3) (k := 3) (N := 17) (T := TX3) C hw iw_3 rfl hq (by decide) (by decide) fl_X3_56 rfl rfl dX3_wear_4 ?_
      refine lv_topi (fun x_9 ex_9 => ?_)
      have bx_9 : 0 ≤ x_9.toInt ∧ x_9.toInt ≤ 8 := cI_rd iM_4 hq.1 ex_9
      have ux_9 : (tI M_4 q 3).toInt = x_9.toInt := by rw [ex_9]
      refine sb_icmp_ge (tgt := 80) hx hb rfl rfl dX3_wear_7 (by decide) (fun c_7_9 => ?_) (fun c_7_9 => ?_)
      · exact hQ _ _ _ _ _ hw (⟨iM_4, (f_5), (f_6), f_7⟩) dX3_wear_80
      · refine lv_aload_n hx hb dX3_wear_10 rfl (lv_at hl 1 rfl) ?_
        refine ti_get (ci := 3) (k := 6) (N := 17) (T := TX3) (v := .ref (A q 7)) C hw iw_3 rfl hq (by decide) (by decide) fl_X3_9 rfl rfl dX3_wear_11 ?_
        refine lv_iload_n hx hb dX3_wear_14 rfl (lv_at hl 0 rfl) ?_
        refine ti_iald (ci := 3) (k := 6) (n := 8) C hw hq (by decide) (fun _ _ => rfl) (vp_in_iff.mpr (by omega)) dX3_wear_15 ?_
        refine lv_topi (fun x_11 ex_11 => ?_)
        have bx_11 : 0 ≤ x_11.toInt ∧ x_11.toInt ≤ 7 := cI_ry iM_4 hq.1 ex_11
        refine lv_istore_n (lv' := [(2, .int x_11), (1, .int x_1), (0, .ref (A q 0))]) hx hb dX3_wear_16 rfl hl (by decide) rfl (fun ls hl => ?_)
        refine lv_aload_n hx hb dX3_wear_17 rfl (lv_at hl 2 rfl) ?_
        refine ti_get (ci := 3) (k := 15) (N := 17) (T := TX3) (v := .ref (A q 16)) C hw iw_3 rfl hq (by decide) (by decide) fl_X3_39 rfl rfl dX3_wear_18 ?_
        refine lv_iload_n hx hb dX3_wear_21 rfl (lv_at hl 0 rfl) ?_
        refine ti_iald (ci := 3) (k := 15) (n := 8) C hw hq (by decide) (fun _ _ => rfl) (vp_in_iff.mpr (by omega)) dX3_wear_22 ?_
        refine lv_topi (fun x_12 ex_12 => ?_)
        have hj_74_31 : ∀ (M_28 : ti_M) (H : Heap) (locs : List Loc) (ls : Array Slot), (cI Tc M_28) → (M_28.2.2.2 = M.2.2.2) → (tI M_28 q 2 = tI M q 2) → (fX M_28 M) → ti_H ti_LT D A cy H0 M_28 H locs → lv_has ls 3 [(2, .int x_11), (1, .int x_1), (0, .ref (A q 0))] → W p l e (ti_rm 2) s m args below meth c H locs 0 0 Q (F0 m 74 ls []) := by
          intro M_28 H locs ls iM_28 f_29 f_30 f_31 hw hl
          obtain ⟨x_32, ex_32⟩ : ∃ z : Int32, z = x_1 + 1 := ⟨_, rfl⟩
          have tx_32 : x_32.toInt = x_1.toInt + 1 := i_add ex_32 rfl (by decide) (by omega) (by omega)
          refine lv_iinc (v := x_32) (lv' := [(1, .int x_32), (2, .int x_11), (0, .ref (A q 0))]) hx hb dX3_wear_74 hl (k := 1) rfl (by rw [ex_32]; rfl) (by decide) rfl (fun ls hl => ?_)
          refine lv_goto (tgt := 2) hx hb dX3_wear_77 (by decide) ?_
          exact ih_8 x_32 M_28 _ _ _ (by omega) (by first | omega | decide) (by first | omega | decide) iM_28 (f_29) (f_30) f_31 hw (lv_sub hl [0, 2] rfl)
        refine sb_if_le (tgt := 39) hx hb rfl dX3_wear_23 (by decide) (fun c_23_12 => ?_) (fun c_23_12 => ?_)
        · refine lv_iload_n hx hb dX3_wear_39 rfl (lv_at hl 1 rfl) ?_
          refine sb_if_le (tgt := 74) hx hb rfl dX3_wear_40 (by decide) (fun c_40_16 => ?_) (fun c_40_16 => ?_)
          · exact hj_74_31 M_4 _ _ _ iM_4 (f_5) (f_6) f_7 hw (lv_sub hl [0, 1, 2] rfl)
          · refine lv_aload_n hx hb dX3_wear_43 rfl (lv_at hl 2 rfl) ?_
            refine ti_get (ci := 3) (k := 10) (N := 17) (T := TX3) (v := .ref (A q 11)) C hw iw_3 rfl hq (by decide) (by decide) fl_X3_24 rfl rfl dX3_wear_44 ?_
            refine lv_iload_n hx hb dX3_wear_47 rfl (lv_at hl 0 rfl) ?_
            refine lv_dup2_11 hx hb dX3_wear_48 rfl rfl ?_
            refine ti_iald (ci := 3) (k := 10) (n := 8) C hw hq (by decide) (fun _ _ => rfl) (vp_in_iff.mpr (by omega)) dX3_wear_49 ?_
            refine lv_topi (fun x_18 ex_18 => ?_)
            refine lv_aload_n hx hb dX3_wear_50 rfl (lv_at hl 2 rfl) ?_
            refine ti_get (ci := 3) (k := 0) (N := 17) (T := TX3) (v := .ref (A t 0)) C hw iw_3 rfl hq (by decide) (by decide) fl_X3_45 rfl (ti_Tv ((tT_fr f_5).trans hT)) dX3_wear_51 ?_
            refine ti_get (ci := 8) (k := 2) (N := 12) (T := TX8) (v := .ref (A t 3)) C hw iw_8 rfl (ob_t ht) (by decide) (by decide) fl_X3_119 rfl rfl dX3_wear_54 ?_
            refine lv_iconst (v := 1) hx hb dX3_wear_57 (by decide) ?_
            refine ti_aald (ci := 8) (k := 2) (n := 3) (t0 := 4) (Cn := RX1) (gg := (ti_laws t)) (j := 1) C hw (ob_t ht) (by decide) (fun _ _ => rfl) rfl (by unfold vp_in; decide) (by decide) dX3_wear_58 ?_
            have ob_19 : ti_ob ti_LT (ti_laws t 1) 1 := ob_l ht (by decide)
            refine lv_aload_n hx hb dX3_wear_59 rfl (lv_at hl 2 rfl) ?_
            refine lv_iload_n hx hb dX3_wear_60 rfl (lv_at hl 1 rfl) ?_
            refine lv_iload_n hx hb dX3_wear_61 rfl (lv_at hl 1 rfl) ?_
            refine ti_callVl (ci := 1) (av := [.ref (A q 0), .int x_1, .int x_1]) C hw (s_X1_value l D A cy hJ M_4 iM_4 (ti_laws t 1) q t ob_19 hq ht ((tT_fr f_5).trans hT) x_1 x_1) ⟨ml_X3_123, ym_X1_value, yv_X1_value, yi_X1_value, yc_X1_value⟩ yd_X1_value ob_19 (by decide) rfl rfl hl.1 (Nat.le_of_ble_eq_true rfl) ⟨by decide, by decide⟩ ⟨Nat.zero_le _, Nat.zero_le _⟩ dX3_wear_62 (fun r_20 M_21 H locs hp_21 hw => ?_)
            obtain ⟨iM_21, q_22, q_23⟩ := hp_21
            refine lv_iconst (v := 0) hx hb dX3_wear_65 (by decide) ?_
            refine lv_bipush (v := 9) hx hb dX3_wear_66 (by decide) ?_
            refine lv_iconst (v := 1) hx hb dX3_wear_68 (by decide) ?_
            refine ti_callSi (av := [.long r_20, .int 0, .int 9, .int 1]) C hw (s_X3_put l D A cy hJ M_21 iM_21 r_20 0 9 1) ⟨ml_X3_127, ys_X3_put, yi_X3_put, yc_X3_put⟩ yd_X3_put rfl hl.1 (Nat.le_of_ble_eq_true rfl) ⟨by decide, by decide⟩ ⟨Nat.zero_le _, Nat.zero_le _⟩ dX3_wear_69 (fun r_24 M_25 H locs hp_25 hw => ?_)
            have hm := hp_25
            have hw := hw.to hm
            refine lv_isub hx hb dX3_wear_72 ?_
            refine lv_topi (fun x_26 ex_26 => ?_)
            refine ti_iast (ci := 3) (k := 10) (n := 8) C hw hq (by decide) (fun _ _ => rfl) (vp_in_iff.mpr (by omega)) dX3_wear_73 (fun H locs hw => ?_)
            obtain ⟨M_27, hM_27⟩ : ∃ z : ti_M, z = uY M_21 q 10 (upd (tY M_21 q 10) (x_11 : Int32).toNatClampNeg x_26) := ⟨_, rfl⟩
            have hw := hw.to hM_27.symm
            have iM_27 : cI Tc M_27 := cI_up iM_21 hM_27 hq.1 trivial
            exact hj_74_31 M_27 _ _ _ iM_27 ((rf_Y hM_27).trans ((q_22).trans f_5)) ((tI_uYE hM_27).trans ((tI_fr q_23).trans f_6)) (fX.trans (fx_of (ra_Y hM_27)) (fX.trans (fx_of q_23) f_7)) hw (lv_sub hl [0, 1, 2] rfl)
        · refine lv_aload_n hx hb dX3_wear_26 rfl (lv_at hl 2 rfl) ?_
          refine ti_get (ci := 3) (k := 15) (N := 17) (T := TX3) (v := .ref (A q 16)) C hw iw_3 rfl hq (by decide) (by decide) fl_X3_39 rfl rfl dX3_wear_27 ?_
          refine lv_iload_n hx hb dX3_wear_30 rfl (lv_at hl 0 rfl) ?_
          refine lv_dup2_11 hx hb dX3_wear_31 rfl rfl ?_
          refine ti_iald (ci := 3) (k := 15) (n := 8) C hw hq (by decide) (fun _ _ => rfl) (vp_in_iff.mpr (by omega)) dX3_wear_32 ?_
          refine lv_topi (fun x_14 ex_14 => ?_)
          refine lv_iconst (v := 1) hx hb dX3_wear_33 (by decide) ?_
          refine lv_isub hx hb dX3_wear_34 ?_
          refine lv_topi (fun x_15 ex_15 => ?_)
          refine ti_iast (ci := 3) (k := 15) (n := 8) C hw hq (by decide) (fun _ _ => rfl) (vp_in_iff.mpr (by omega)) dX3_wear_35 (fun H locs hw => ?_)
          obtain ⟨M_16, hM_16⟩ : ∃ z : ti_M, z = uY M_4 q 15 (upd (tY M_4 q 15) (x_11 : Int32).toNatClampNeg x_15) := ⟨_, rfl⟩
          have hw := hw.to hM_16.symm
          have iM_16 : cI Tc M_16 := cI_up iM_4 hM_16 hq.1 trivial
          refine lv_goto (tgt := 74) hx hb dX3_wear_36 (by decide) ?_
          exact hj_74_31 M_16 _ _ _ iM_16 ((rf_Y hM_16).trans f_5) ((tI_uYE hM_16).trans f_6) (fX.trans (fx_of (ra_Y hM_16)) f_7) hw (lv_sub hl [0, 1, 2] rfl)
  exact hl_2_7 ((8 - 0 : Int).toNat + 1) 0 M _ _ _ (Nat.lt_succ_self _) (by have lt0 : (0 : Int32).toInt = 0 := (by decide); first | omega | decide) (by have lt0 : (0 : Int32).toInt = 0 := (by decide); first | omega | decide) hI rfl rfl fX.refl hw (lv_sub hl [0, 1] rfl)
set_option maxHeartbeats 4000000 in
set_option maxRecDepth 100000 in
theorem s_X3_release (l : Launch) (D : va_G) (A : Nat → Nat → Nat) (cy : Nat → ClassId) (hJ : ti_inj ti_LT A) (M : ti_M) (hI : cI Tc M) (q t : Nat) (hq : ti_ob ti_LT q 3) (ht : t = 3 ∨ t = 4) (hT : tT M q 0 = some t) : ti_Kv l yX3_release cX3_release 2 2 ti_LT D A cy M [.ref (A q 0)] (fun M2 => cI Tc M2 ∧ M2.2.2.2 = M.2.2.2 ∧ tI M2 q 2 = tI M q 2 ∧ fX M2 M) := by
  refine ti_eV yp_X3_release hJ ti_LT_nd (Nat.le_of_ble_eq_true rfl) ?_
  intro p e s m args below meth c Q H0 C hQ hw ls hl
  have hx := C.1
  have hb := C.2.1
  have hl : lv_has ls 2 [(0, .ref (A q 0))] := hl
  refine lv_aload_n hx hb dX3_release_0 rfl (lv_at hl 0 rfl) ?_
  refine ti_get (ci := 3) (k := 3) (N := 17) (T := TX3) C hw iw_3 rfl hq (by decide) (by decide) fl_X3_56 rfl rfl dX3_release_1 ?_
  refine lv_topi (fun x_1 ex_1 => ?_)
  have bx_1 : 0 ≤ x_1.toInt ∧ x_1.toInt ≤ 8 := cI_rd hI hq.1 ex_1
  have ux_1 : (tI M q 3).toInt = x_1.toInt := by rw [ex_1]
  have hj_44_17 : ∀ (M_14 : ti_M) (H : Heap) (locs : List Loc) (ls : Array Slot), (cI Tc M_14) → (M_14.2.2.2 = M.2.2.2) → (tI M_14 q 2 = tI M q 2) → (fX M_14 M) → ti_H ti_LT D A cy H0 M_14 H locs → lv_has ls 2 [(0, .ref (A q 0))] → W p l e (ti_rm 2) s m args below meth c H locs 0 0 Q (F0 m 44 ls []) := by
    intro M_14 H locs ls iM_14 f_15 f_16 f_17 hw hl
    refine lv_aload_n hx hb dX3_release_44 rfl (lv_at hl 0 rfl) ?_
    refine lv_bipush (v := 8) hx hb dX3_release_45 (by decide) ?_
    refine ti_callVi (ci := 3) (av := [.int 8]) C hw (s_X3_is l D A cy hJ M_14 iM_14 q hq 8) ⟨ml_X3_182, ym_X3_is, yv_X3_is, yi_X3_is, yc_X3_is⟩ yd_X3_is hq (by decide) rfl rfl hl.1 (Nat.le_of_ble_eq_true rfl) ⟨by decide, by decide⟩ ⟨Nat.zero_le _, Nat.zero_le _⟩ dX3_release_47 (fun r_18 M_19 H locs hp_19 hw => ?_)
    have hm := hp_19
    have hw := hw.to hm
    refine sb_if_eq (tgt := 54) hx hb rfl dX3_release_50 (by decide) (fun c_50_19 => ?_) (fun c_50_19 => ?_)
    · refine lv_aload_n hx hb dX3_release_54 rfl (lv_at hl 0 rfl) ?_
      refine ti_get (ci := 3) (k := 3) (N := 17) (T := TX3) C hw iw_3 rfl hq (by decide) (by decide) fl_X3_56 rfl rfl dX3_release_55 ?_
      refine lv_topi (fun x_21 ex_21 => ?_)
      have bx_21 : 0 ≤ x_21.toInt ∧ x_21.toInt ≤ 8 := cI_rd iM_14 hq.1 ex_21
      have ux_21 : (tI M_14 q 3).toInt = x_21.toInt := by rw [ex_21]
      refine lv_iconst (v := 1) hx hb dX3_release_58 (by decide) ?_
      refine lv_isub hx hb dX3_release_59 ?_
      refine lv_topi (fun x_22 ex_22 => ?_)
      have tx_22 : x_22.toInt = x_21.toInt - 1 := i_sub ex_22 rfl (by decide : (1 : Int32).toInt = 1) (by omega) (by omega)
      refine lv_istore_n (lv' := [(1, .int x_22), (0, .ref (A q 0))]) hx hb dX3_release_60 rfl hl (by decide) rfl (fun ls hl => ?_)
      have hl_61_29 : ∀ (n_30 : Nat) (x_23 : Int32) (M_26 : ti_M) (H : Heap) (locs : List Loc) (ls : Array Slot), (x_23.toInt : Int).toNat < n_30 → ((-1) ≤ x_23.toInt) → (x_23.toInt ≤ 7) → (cI Tc M_26) → (M_26.2.2.2 = M.2.2.2) → (tI M_26 q 2 = tI M q 2) → (fX M_26 M) → ti_H ti_LT D A cy H0 M_26 H locs → lv_has ls 2 [(1, .int x_23), (0, .ref (A q 0))] → W p l e (ti_rm 2) s m args below meth c H locs 0 0 Q (F0 m 61 ls []) := by
        intro n_30
        induction n_30 with
        | zero => intro x_23 M_26 H locs ls hf_30; exact absurd hf_30 (Nat.not_lt_zero _)
        | succ n_30 ih_30 =>
          intro x_23 M_26 H locs ls hf_30 b_24 b_25 iM_26 f_27 f_28 f_29 hw hl
          refine lv_iload_n hx hb dX3_release_61 rfl (lv_at hl 0 rfl) ?_
          refine sb_if_le (tgt := 91) hx hb rfl dX3_release_62 (by decide) (fun c_62_30 => ?_) (fun c_62_30 => ?_)
          · exact hQ _ _ _ _ _ hw (⟨iM_26, (f_27), (f_28), f_29⟩) dX3_release_91
          · refine lv_aload_n hx hb dX3_release_65 rfl (lv_at hl 1 rfl) ?_
            refine ti_get (ci := 3) (k := 10) (N := 17) (T := TX3) (v := .ref (A q 11)) C hw iw_3 rfl hq (by decide) (by decide) fl_X3_24 rfl rfl dX3_release_66 ?_
            refine lv_aload_n hx hb dX3_release_69 rfl (lv_at hl 1 rfl) ?_
            refine ti_get (ci := 3) (k := 6) (N := 17) (T := TX3) (v := .ref (A q 7)) C hw iw_3 rfl hq (by decide) (by decide) fl_X3_9 rfl rfl dX3_release_70 ?_
            refine lv_iload_n hx hb dX3_release_73 rfl (lv_at hl 0 rfl) ?_
            refine ti_iald (ci := 3) (k := 6) (n := 8) C hw hq (by decide) (fun _ _ => rfl) (vp_in_iff.mpr (by omega)) dX3_release_74 ?_
            refine lv_topi (fun x_32 ex_32 => ?_)
            have bx_32 : 0 ≤ x_32.toInt ∧ x_32.toInt ≤ 7 := cI_ry iM_26 hq.1 ex_32
            refine ti_iald (ci := 3) (k := 10) (n := 8) C hw hq (by decide) (fun _ _ => rfl) (vp_in_iff.mpr (by omega)) dX3_release_75 ?_
            refine lv_topi (fun x_33 ex_33 => ?_)
            have hj_85_43 : ∀ (M_40 : ti_M) (H : Heap) (locs : List Loc) (ls : Array Slot), (cI Tc M_40) → (M_40.2.2.2 = M.2.2.2) → (tI M_40 q 2 = tI M q 2) → (fX M_40 M) → ti_H ti_LT D A cy H0 M_40 H locs → lv_has ls 2 [(1, .int x_23), (0, .ref (A q 0))] → W p l e (ti_rm 2) s m args below meth c H locs 0 0 Q (F0 m 85 ls []) := by
              intro M_40 H locs ls iM_40 f_41 f_42 f_43 hw hl
              obtain ⟨x_44, ex_44⟩ : ∃ z : Int32, z = x_23 + (-1) := ⟨_, rfl⟩
              have tx_44 : x_44.toInt = x_23.toInt + (-1) := i_add ex_44 rfl (by decide) (by omega) (by omega)
              refine lv_iinc (v := x_44) (lv' := [(1, .int x_44), (0, .ref (A q 0))]) hx hb dX3_release_85 hl (k := 0) rfl (by rw [ex_44]; rfl) (by decide) rfl (fun ls hl => ?_)
              refine lv_goto (tgt := 61) hx hb dX3_release_88 (by decide) ?_
              exact ih_30 x_44 M_40 _ _ _ (by omega) (by first | omega | decide) (by first | omega | decide) iM_40 (f_41) (f_42) f_43 hw (lv_sub hl [0, 1] rfl)
            refine sb_if_gt (tgt := 85) hx hb rfl dX3_release_76 (by decide) (fun c_76_33 => ?_) (fun c_76_33 => ?_)
            · exact hj_85_43 M_26 _ _ _ iM_26 (f_27) (f_28) f_29 hw (lv_sub hl [0, 1] rfl)
            · refine lv_aload_n hx hb dX3_release_79 rfl (lv_at hl 1 rfl) ?_
              refine lv_iload_n hx hb dX3_release_80 rfl (lv_at hl 0 rfl) ?_
              refine lv_iconst (v := 3) hx hb dX3_release_81 (by decide) ?_
              refine ti_callVv (ci := 3) (av := [.int x_23, .int 3]) C hw (s_X3_remove l D A cy hJ M_26 iM_26 q hq x_23 3) ⟨ml_X3_196, ym_X3_remove, yv_X3_remove, yi_X3_remove, yc_X3_remove⟩ yd_X3_remove hq (by decide) rfl rfl hl.1 (Nat.le_of_ble_eq_true rfl) ⟨by decide, by decide⟩ ⟨Nat.zero_le _, Nat.zero_le _⟩ dX3_release_82 (fun M_36 H locs hp_36 hw => ?_)
              obtain ⟨iM_36, q_37, q_38, q_39⟩ := hp_36
              exact hj_85_43 M_36 _ _ _ iM_36 ((q_37).trans f_27) ((q_38).trans f_28) (fX.trans q_39 f_29) hw (lv_sub hl [0, 1] rfl)
      exact hl_61_29 ((x_22.toInt : Int).toNat + 1) x_22 M_14 _ _ _ (Nat.lt_succ_self _) (by first | omega | decide) (by first | omega | decide) iM_14 (f_15) (f_16) f_17 hw (lv_sub hl [0, 1] rfl)
    · exact hQ _ _ _ _ _ hw (⟨iM_14, (f_15), (f_16), f_17⟩) dX3_release_53
  refine sb_if_le (tgt := 44) hx hb rfl dX3_release_4 (by decide) (fun c_4_1 => ?_) (fun c_4_1 => ?_)
  · exact hj_44_17 M _ _ _ hI rfl rfl fX.refl hw (lv_sub hl [0] rfl)
  · refine lv_aload_n hx hb dX3_release_7 rfl (lv_at hl 0 rfl) ?_
    refine ti_get (ci := 3) (k := 11) (N := 17) (T := TX3) (v := .ref (A q 12)) C hw iw_3 rfl hq (by decide) (by decide) fl_X3_27 rfl rfl dX3_release_8 ?_
    refine lv_aload_n hx hb dX3_release_11 rfl (lv_at hl 0 rfl) ?_
    refine ti_get (ci := 3) (k := 6) (N := 17) (T := TX3) (v := .ref (A q 7)) C hw iw_3 rfl hq (by decide) (by decide) fl_X3_9 rfl rfl dX3_release_12 ?_
    refine lv_iconst (v := 0) hx hb dX3_release_15 (by decide) ?_
    refine ti_iald (ci := 3) (k := 6) (n := 8) C hw hq (by decide) (fun _ _ => rfl) (by unfold vp_in; decide) dX3_release_16 ?_
    refine lv_topi (fun x_3 ex_3 => ?_)
    have bx_3 : 0 ≤ x_3.toInt ∧ x_3.toInt ≤ 7 := cI_ry hI hq.1 ex_3
    refine ti_iald (ci := 3) (k := 11) (n := 8) C hw hq (by decide) (fun _ _ => rfl) (vp_in_iff.mpr (by omega)) dX3_release_17 ?_
    refine lv_topi (fun x_4 ex_4 => ?_)
    refine lv_aload_n hx hb dX3_release_18 rfl (lv_at hl 0 rfl) ?_
    refine ti_get (ci := 3) (k := 0) (N := 17) (T := TX3) (v := .ref (A t 0)) C hw iw_3 rfl hq (by decide) (by decide) fl_X3_45 rfl (ti_Tv (hT)) dX3_release_19 ?_
    refine ti_get (ci := 8) (k := 0) (N := 12) (T := TX8) (v := .ref (A t 1)) C hw iw_8 rfl (ob_t ht) (by decide) (by decide) fl_X3_81 rfl rfl dX3_release_22 ?_
    refine lv_aload_n hx hb dX3_release_25 rfl (lv_at hl 0 rfl) ?_
    refine ti_get (ci := 3) (k := 6) (N := 17) (T := TX3) (v := .ref (A q 7)) C hw iw_3 rfl hq (by decide) (by decide) fl_X3_9 rfl rfl dX3_release_26 ?_
    refine lv_iconst (v := 0) hx hb dX3_release_29 (by decide) ?_
    refine ti_iald (ci := 3) (k := 6) (n := 8) C hw hq (by decide) (fun _ _ => rfl) (by unfold vp_in; decide) dX3_release_30 ?_
    refine lv_topi (fun x_5 ex_5 => ?_)
    have bx_5 : 0 ≤ x_5.toInt ∧ x_5.toInt ≤ 7 := cI_ry hI hq.1 ex_5
    refine ti_aald (ci := 8) (k := 0) (n := 8) (t0 := 5) (Cn := RX2) (gg := (ti_men t)) (j := x_5.toNatClampNeg) C hw (ob_t ht) (by decide) (fun _ _ => rfl) rfl (vp_in_iff.mpr (by omega)) rfl dX3_release_31 ?_
    have ob_6 : ti_ob ti_LT (ti_men t x_5.toNatClampNeg) 2 := ob_m ht (i_nt rfl (by omega) (by omega))
    refine ti_get (ci := 2) (k := 4) (N := 10) (T := TX2) C hw iw_2 rfl ob_6 (by decide) (by decide) fl_X3_203 rfl rfl dX3_release_32 ?_
    refine lv_topi (fun x_7 ex_7 => ?_)
    refine sb_icmp_lt (tgt := 44) hx hb rfl rfl dX3_release_35 (by decide) (fun c_35_7 => ?_) (fun c_35_7 => ?_)
    · exact hj_44_17 M _ _ _ hI rfl rfl fX.refl hw (lv_sub hl [0] rfl)
    · refine lv_aload_n hx hb dX3_release_38 rfl (lv_at hl 0 rfl) ?_
      refine lv_iconst (v := 0) hx hb dX3_release_39 (by decide) ?_
      refine lv_iconst (v := 2) hx hb dX3_release_40 (by decide) ?_
      refine ti_callVv (ci := 3) (av := [.int 0, .int 2]) C hw (s_X3_remove l D A cy hJ M hI q hq 0 2) ⟨ml_X3_196, ym_X3_remove, yv_X3_remove, yi_X3_remove, yc_X3_remove⟩ yd_X3_remove hq (by decide) rfl rfl hl.1 (Nat.le_of_ble_eq_true rfl) ⟨by decide, by decide⟩ ⟨Nat.zero_le _, Nat.zero_le _⟩ dX3_release_41 (fun M_10 H locs hp_10 hw => ?_)
      obtain ⟨iM_10, q_11, q_12, q_13⟩ := hp_10
      exact hj_44_17 M_10 _ _ _ iM_10 (q_11) (q_12) q_13 hw (lv_sub hl [0] rfl)
set_option maxHeartbeats 4000000 in
set_option maxRecDepth 100000 in
theorem s_X3_mutter (l : Launch) (D : va_G) (A : Nat → Nat → Nat) (cy : Nat → ClassId) (hJ : ti_inj ti_LT A) (M : ti_M) (hI : cI Tc M) (q t : Nat) (hq : ti_ob ti_LT q 3) (ht : t = 3 ∨ t = 4) (hT : tT M q 0 = some t) : ti_Kv l yX3_mutter cX3_mutter 1 2 ti_LT D A cy M [.ref (A q 0)] (fun M2 => cI Tc M2 ∧ M2.2.2.2 = M.2.2.2 ∧ tI M2 q 2 = tI M q 2 ∧ fX M2 M) := by
  refine ti_eV yp_X3_mutter hJ ti_LT_nd (Nat.le_of_ble_eq_true rfl) ?_
  intro p e s m args below meth c Q H0 C hQ hw ls hl
  have hx := C.1
  have hb := C.2.1
  have hl : lv_has ls 1 [(0, .ref (A q 0))] := hl
  refine lv_aload_n hx hb dX3_mutter_0 rfl (lv_at hl 0 rfl) ?_
  refine lv_iconst (v := 2) hx hb dX3_mutter_1 (by decide) ?_
  refine ti_callVi (ci := 3) (av := [.int 2]) C hw (s_X3_is l D A cy hJ M hI q hq 2) ⟨ml_X3_182, ym_X3_is, yv_X3_is, yi_X3_is, yc_X3_is⟩ yd_X3_is hq (by decide) rfl rfl hl.1 (Nat.le_of_ble_eq_true rfl) ⟨by decide, by decide⟩ ⟨Nat.zero_le _, Nat.zero_le _⟩ dX3_mutter_2 (fun r_1 M_2 H locs hp_2 hw => ?_)
  have hm := hp_2
  have hw := hw.to hm
  refine sb_if_ne (tgt := 18) hx hb rfl dX3_mutter_5 (by decide) (fun c_5_2 => ?_) (fun c_5_2 => ?_)
  · exact hQ _ _ _ _ _ hw (⟨hI, rfl, rfl, fX.refl⟩) dX3_mutter_18
  · refine lv_aload_n hx hb dX3_mutter_8 rfl (lv_at hl 0 rfl) ?_
    refine ti_get (ci := 3) (k := 0) (N := 17) (T := TX3) (v := .ref (A t 0)) C hw iw_3 rfl hq (by decide) (by decide) fl_X3_45 rfl (ti_Tv (hT)) dX3_mutter_9 ?_
    refine ti_get (ci := 8) (k := 10) (N := 12) (T := TX8) C hw iw_8 rfl (ob_t ht) (by decide) (by decide) fl_X3_209 rfl rfl dX3_mutter_12 ?_
    refine lv_topi (fun x_4 ex_4 => ?_)
    refine sb_if_ne (tgt := 19) hx hb rfl dX3_mutter_15 (by decide) (fun c_15_4 => ?_) (fun c_15_4 => ?_)
    · refine lv_aload_n hx hb dX3_mutter_19 rfl (lv_at hl 0 rfl) ?_
      refine lv_aload_n hx hb dX3_mutter_20 rfl (lv_at hl 0 rfl) ?_
      refine ti_get (ci := 3) (k := 5) (N := 17) (T := TX3) C hw iw_3 rfl hq (by decide) (by decide) fl_X3_68 rfl rfl dX3_mutter_21 ?_
      refine lv_topi (fun x_6 ex_6 => ?_)
      obtain ⟨x_7, ex_7⟩ : ∃ z : Int64, z = x_6.toInt64 := ⟨_, rfl⟩
      refine lv_i2l (v := x_7) hx hb dX3_mutter_24 ex_7.symm ?_
      refine lv_ldc2 (v := 1103515245) hx hb C.2.2.2.1 (C.2.2.1 _ cn_X3_211) dX3_mutter_25 ?_
      refine lv_lmul hx hb dX3_mutter_28 ?_
      refine lv_topl (fun x_8 ex_8 => ?_)
      refine lv_ldc2 (v := 12345) hx hb C.2.2.2.1 (C.2.2.1 _ cn_X3_213) dX3_mutter_29 ?_
      refine lv_ladd hx hb dX3_mutter_32 ?_
      refine lv_topl (fun x_9 ex_9 => ?_)
      refine lv_ldc2 (v := 2147483647) hx hb C.2.2.2.1 (C.2.2.1 _ cn_X3_215) dX3_mutter_33 ?_
      refine lv_land hx hb dX3_mutter_36 ?_
      refine lv_topl (fun x_10 ex_10 => ?_)
      obtain ⟨x_11, ex_11⟩ : ∃ z : Int32, z = (x_10 : Int64).toInt32 := ⟨_, rfl⟩
      refine lv_l2i (v := x_11) hx hb dX3_mutter_37 ex_11.symm ?_
      refine ti_putI (ci := 3) (k := 5) (N := 17) (T := TX3) C hw iw_3 tyX3 tyX3_ok nmX3 rfl hq (by decide) (by decide) fl_X3_68 rfl rfl rfl rfl (fn_3 A _) fs_3_5 dX3_mutter_38 (fun H locs hw => ?_)
      obtain ⟨M_12, hM_12⟩ : ∃ z : ti_M, z = uI M q 5 x_11 := ⟨_, rfl⟩
      have hw := hw.to hM_12.symm
      have iM_12 : cI Tc M_12 := cI_uI hI hM_12 hq.1 trivial
      refine lv_aload_n hx hb dX3_mutter_41 rfl (lv_at hl 0 rfl) ?_
      refine ti_get (ci := 3) (k := 5) (N := 17) (T := TX3) C hw iw_3 rfl hq (by decide) (by decide) fl_X3_68 rfl rfl dX3_mutter_42 ?_
      refine ti_top (y := x_11) (tI_uE hM_12) ?_
      refine lv_ldc (v := 65536) hx hb C.2.2.2.1 (C.2.2.1 _ cn_X3_217) dX3_mutter_45 ?_
      refine lv_idiv hx hb dX3_mutter_47 (by decide) ?_
      refine lv_topi (fun x_13 ex_13 => ?_)
      refine lv_bipush (v := 100) hx hb dX3_mutter_48 (by decide) ?_
      refine lv_irem hx hb dX3_mutter_50 (by decide) ?_
      refine lv_topi (fun x_14 ex_14 => ?_)
      refine lv_aload_n hx hb dX3_mutter_51 rfl (lv_at hl 0 rfl) ?_
      refine ti_get (ci := 3) (k := 0) (N := 17) (T := TX3) (v := .ref (A t 0)) C hw iw_3 rfl hq (by decide) (by decide) fl_X3_45 rfl (ti_Tv ((tT_uIE hM_12).trans hT)) dX3_mutter_52 ?_
      refine ti_get (ci := 8) (k := 10) (N := 12) (T := TX8) C hw iw_8 rfl (ob_t ht) (by decide) (by decide) fl_X3_209 rfl rfl dX3_mutter_55 ?_
      refine ti_top (y := x_4) ((tI_nE hM_12 (nk (by decide))).trans ex_4.symm) ?_
      refine sb_icmp_ge (tgt := 80) hx hb rfl rfl dX3_mutter_58 (by decide) (fun c_58_14 => ?_) (fun c_58_14 => ?_)
      · exact hQ _ _ _ _ _ hw (⟨iM_12, (rf_I hM_12), (tI_nE hM_12 (nk (by decide))), (fx_I hM_12 (fxn hq.1 (by decide)))⟩) dX3_mutter_80
      · refine lv_aload_n hx hb dX3_mutter_61 rfl (lv_at hl 0 rfl) ?_
        refine ti_get (ci := 3) (k := 3) (N := 17) (T := TX3) C hw iw_3 rfl hq (by decide) (by decide) fl_X3_56 rfl rfl dX3_mutter_62 ?_
        refine lv_topi (fun x_16 ex_16 => ?_)
        have bx_16 : 0 ≤ x_16.toInt ∧ x_16.toInt ≤ 8 := cI_rd iM_12 hq.1 ex_16
        have ux_16 : (tI M_12 q 3).toInt = x_16.toInt := by rw [ex_16]
        refine lv_iconst (v := 1) hx hb dX3_mutter_65 (by decide) ?_
        refine sb_icmp_le (tgt := 80) hx hb rfl (by decide : (1 : Int32).toInt = 1) dX3_mutter_66 (by decide) (fun c_66_16 => ?_) (fun c_66_16 => ?_)
        · exact hQ _ _ _ _ _ hw (⟨iM_12, (rf_I hM_12), (tI_nE hM_12 (nk (by decide))), (fx_I hM_12 (fxn hq.1 (by decide)))⟩) dX3_mutter_80
        · refine lv_aload_n hx hb dX3_mutter_69 rfl (lv_at hl 0 rfl) ?_
          refine lv_aload_n hx hb dX3_mutter_70 rfl (lv_at hl 0 rfl) ?_
          refine ti_get (ci := 3) (k := 3) (N := 17) (T := TX3) C hw iw_3 rfl hq (by decide) (by decide) fl_X3_56 rfl rfl dX3_mutter_71 ?_
          refine ti_top (y := x_16) (ex_16.symm) ?_
          refine lv_iconst (v := 1) hx hb dX3_mutter_74 (by decide) ?_
          refine lv_isub hx hb dX3_mutter_75 ?_
          refine lv_topi (fun x_18 ex_18 => ?_)
          have tx_18 : x_18.toInt = x_16.toInt - 1 := i_sub ex_18 rfl (by decide : (1 : Int32).toInt = 1) (by omega) (by omega)
          refine lv_iconst (v := 3) hx hb dX3_mutter_76 (by decide) ?_
          refine ti_callVv (ci := 3) (av := [.int x_18, .int 3]) C hw (s_X3_remove l D A cy hJ M_12 iM_12 q hq x_18 3) ⟨ml_X3_196, ym_X3_remove, yv_X3_remove, yi_X3_remove, yc_X3_remove⟩ yd_X3_remove hq (by decide) rfl rfl hl.1 (Nat.le_of_ble_eq_true rfl) ⟨by decide, by decide⟩ ⟨Nat.zero_le _, Nat.zero_le _⟩ dX3_mutter_77 (fun M_20 H locs hp_20 hw => ?_)
          obtain ⟨iM_20, q_21, q_22, q_23⟩ := hp_20
          exact hQ _ _ _ _ _ hw (⟨iM_20, ((q_21).trans (rf_I hM_12)), ((q_22).trans (tI_nE hM_12 (nk (by decide)))), (fX.trans q_23 (fx_I hM_12 (fxn hq.1 (by decide))))⟩) dX3_mutter_80
    · exact hQ _ _ _ _ _ hw (⟨hI, rfl, rfl, fX.refl⟩) dX3_mutter_18
set_option maxHeartbeats 4000000 in
set_option maxRecDepth 100000 in
theorem s_X3_pass (l : Launch) (D : va_G) (A : Nat → Nat → Nat) (cy : Nat → ClassId) (hJ : ti_inj ti_LT A) (M : ti_M) (hI : cI Tc M) (q t : Nat) (hq : ti_ob ti_LT q 3) (ht : t = 3 ∨ t = 4) (hT : tT M q 0 = some t) (hmin : cPer q → (tI M q 2).toInt < 120) : ti_Kv l yX3_pass cX3_pass 1 4 ti_LT D A cy M [.ref (A q 0)] (fun M2 => cI Tc M2 ∧ M2.2.2.2 = M.2.2.2 ∧ tI M2 q 2 = tI M q 2 + 1 ∧ fX M2 M) := by
  refine ti_eV yp_X3_pass hJ ti_LT_nd (Nat.le_of_ble_eq_true rfl) ?_
  intro p e s m args below meth c Q H0 C hQ hw ls hl
  have hx := C.1
  have hb := C.2.1
  have hl : lv_has ls 1 [(0, .ref (A q 0))] := hl
  refine lv_aload_n hx hb dX3_pass_0 rfl (lv_at hl 0 rfl) ?_
  refine ti_callVv (ci := 3) (av := []) C hw (s_X3_welcome l D A cy hJ M hI q t hq ht (hT)) ⟨ml_X3_143, ym_X3_welcome, yv_X3_welcome, yi_X3_welcome, yc_X3_welcome⟩ yd_X3_welcome hq (by decide) rfl rfl hl.1 (Nat.le_of_ble_eq_true rfl) ⟨by decide, by decide⟩ ⟨Nat.zero_le _, Nat.zero_le _⟩ dX3_pass_1 (fun M_2 H locs hp_2 hw => ?_)
  obtain ⟨iM_2, q_3, q_4, q_5⟩ := hp_2
  refine lv_aload_n hx hb dX3_pass_4 rfl (lv_at hl 0 rfl) ?_
  refine ti_callVv (ci := 3) (av := []) C hw (s_X3_hearCoughs l D A cy hJ M_2 iM_2 q t hq ht ((tT_fr q_3).trans hT)) ⟨ml_X3_146, ym_X3_hearCoughs, yv_X3_hearCoughs, yi_X3_hearCoughs, yc_X3_hearCoughs⟩ yd_X3_hearCoughs hq (by decide) rfl rfl hl.1 (Nat.le_of_ble_eq_true rfl) ⟨by decide, by decide⟩ ⟨Nat.zero_le _, Nat.zero_le _⟩ dX3_pass_5 (fun M_7 H locs hp_7 hw => ?_)
  obtain ⟨iM_7, q_8, q_9, q_10⟩ := hp_7
  refine lv_aload_n hx hb dX3_pass_8 rfl (lv_at hl 0 rfl) ?_
  refine ti_callVv (ci := 3) (av := []) C hw (s_X3_pour l D A cy hJ M_7 iM_7 q t hq ht ((tT_fr q_8).trans ((tT_fr q_3).trans hT))) ⟨ml_X3_149, ym_X3_pour, yv_X3_pour, yi_X3_pour, yc_X3_pour⟩ yd_X3_pour hq (by decide) rfl rfl hl.1 (Nat.le_of_ble_eq_true rfl) ⟨by decide, by decide⟩ ⟨Nat.zero_le _, Nat.zero_le _⟩ dX3_pass_9 (fun M_12 H locs hp_12 hw => ?_)
  obtain ⟨iM_12, q_13, q_14, q_15⟩ := hp_12
  refine lv_aload_n hx hb dX3_pass_12 rfl (lv_at hl 0 rfl) ?_
  refine ti_callVv (ci := 3) (av := []) C hw (s_X3_levy l D A cy hJ M_12 iM_12 q t hq ht ((tT_fr q_13).trans ((tT_fr q_8).trans ((tT_fr q_3).trans hT)))) ⟨ml_X3_152, ym_X3_levy, yv_X3_levy, yi_X3_levy, yc_X3_levy⟩ yd_X3_levy hq (by decide) rfl rfl hl.1 (Nat.le_of_ble_eq_true rfl) ⟨by decide, by decide⟩ ⟨Nat.zero_le _, Nat.zero_le _⟩ dX3_pass_13 (fun M_17 H locs hp_17 hw => ?_)
  obtain ⟨iM_17, q_18, q_19, q_20⟩ := hp_17
  refine lv_aload_n hx hb dX3_pass_16 rfl (lv_at hl 0 rfl) ?_
  refine ti_callVv (ci := 3) (av := []) C hw (s_X3_wear l D A cy hJ M_17 iM_17 q t hq ht ((tT_fr q_18).trans ((tT_fr q_13).trans ((tT_fr q_8).trans ((tT_fr q_3).trans hT))))) ⟨ml_X3_155, ym_X3_wear, yv_X3_wear, yi_X3_wear, yc_X3_wear⟩ yd_X3_wear hq (by decide) rfl rfl hl.1 (Nat.le_of_ble_eq_true rfl) ⟨by decide, by decide⟩ ⟨Nat.zero_le _, Nat.zero_le _⟩ dX3_pass_17 (fun M_22 H locs hp_22 hw => ?_)
  obtain ⟨iM_22, q_23, q_24, q_25⟩ := hp_22
  refine lv_aload_n hx hb dX3_pass_20 rfl (lv_at hl 0 rfl) ?_
  refine ti_callVv (ci := 3) (av := []) C hw (s_X3_release l D A cy hJ M_22 iM_22 q t hq ht ((tT_fr q_23).trans ((tT_fr q_18).trans ((tT_fr q_13).trans ((tT_fr q_8).trans ((tT_fr q_3).trans hT)))))) ⟨ml_X3_158, ym_X3_release, yv_X3_release, yi_X3_release, yc_X3_release⟩ yd_X3_release hq (by decide) rfl rfl hl.1 (Nat.le_of_ble_eq_true rfl) ⟨by decide, by decide⟩ ⟨Nat.zero_le _, Nat.zero_le _⟩ dX3_pass_21 (fun M_27 H locs hp_27 hw => ?_)
  obtain ⟨iM_27, q_28, q_29, q_30⟩ := hp_27
  refine lv_aload_n hx hb dX3_pass_24 rfl (lv_at hl 0 rfl) ?_
  refine ti_callVv (ci := 3) (av := []) C hw (s_X3_mutter l D A cy hJ M_27 iM_27 q t hq ht ((tT_fr q_28).trans ((tT_fr q_23).trans ((tT_fr q_18).trans ((tT_fr q_13).trans ((tT_fr q_8).trans ((tT_fr q_3).trans hT))))))) ⟨ml_X3_161, ym_X3_mutter, yv_X3_mutter, yi_X3_mutter, yc_X3_mutter⟩ yd_X3_mutter hq (by decide) rfl rfl hl.1 (Nat.le_of_ble_eq_true rfl) ⟨by decide, by decide⟩ ⟨Nat.zero_le _, Nat.zero_le _⟩ dX3_pass_25 (fun M_32 H locs hp_32 hw => ?_)
  obtain ⟨iM_32, q_33, q_34, q_35⟩ := hp_32
  refine lv_aload_n hx hb dX3_pass_28 rfl (lv_at hl 0 rfl) ?_
  refine lv_dup hx hb dX3_pass_29 rfl ?_
  refine ti_get (ci := 3) (k := 2) (N := 17) (T := TX3) C hw iw_3 rfl hq (by decide) (by decide) fl_X3_53 rfl rfl dX3_pass_30 ?_
  refine lv_topi (fun x_36 ex_36 => ?_)
  refine lv_iconst (v := 1) hx hb dX3_pass_33 (by decide) ?_
  refine lv_iadd hx hb dX3_pass_34 ?_
  refine lv_topi (fun x_37 ex_37 => ?_)
  refine ti_putI (ci := 3) (k := 2) (N := 17) (T := TX3) C hw iw_3 tyX3 tyX3_ok nmX3 rfl hq (by decide) (by decide) fl_X3_53 rfl rfl rfl rfl (fn_3 A _) fs_3_2 dX3_pass_35 (fun H locs hw => ?_)
  obtain ⟨M_38, hM_38⟩ : ∃ z : ti_M, z = uI M_32 q 2 x_37 := ⟨_, rfl⟩
  have hw := hw.to hM_38.symm
  have iM_38 : cI Tc M_38 := cI_uI iM_32 hM_38 hq.1 (fun hp => pass_min (cI_rd iM_32 hq.1 ex_36 hp) (hmin hp) (ex_36.trans ((q_34).trans ((q_29).trans ((q_24).trans ((q_19).trans ((q_14).trans ((q_9).trans q_4))))))) ex_37)
  exact hQ _ _ _ _ _ hw (⟨iM_38, ((rf_I hM_38).trans ((q_33).trans ((q_28).trans ((q_23).trans ((q_18).trans ((q_13).trans ((q_8).trans q_3))))))), (tI_uE hM_38).trans (ex_37.trans (congrArg (fun u => u + 1) (ex_36.trans ((q_34).trans ((q_29).trans ((q_24).trans ((q_19).trans ((q_14).trans ((q_9).trans q_4))))))))), (fX.trans (fx_I hM_38 (fxn hq.1 (by decide))) (fX.trans q_35 (fX.trans q_30 (fX.trans q_25 (fX.trans q_20 (fX.trans q_15 (fX.trans q_10 q_5)))))))⟩) dX3_pass_38
set_option maxHeartbeats 4000000 in
set_option maxRecDepth 100000 in
theorem s_X3_passTo (l : Launch) (D : va_G) (A : Nat → Nat → Nat) (cy : Nat → ClassId) (hJ : ti_inj ti_LT A) (M : ti_M) (hI : cI Tc M) (q t : Nat) (hq : ti_ob ti_LT q 3) (ht : t = 3 ∨ t = 4) (hT : tT M q 0 = some t) (un : Int32) (hnp : ¬ cPer q) : ti_Kv l yX3_passTo cX3_passTo 3 5 ti_LT D A cy M [.ref (A q 0), .int un] (fun M2 => cI Tc M2 ∧ M2.2.2.2 = M.2.2.2 ∧ fX M2 M) := by
  refine ti_eV yp_X3_passTo hJ ti_LT_nd (Nat.le_of_ble_eq_true rfl) ?_
  intro p e s m args below meth c Q H0 C hQ hw ls hl
  have hx := C.1
  have hb := C.2.1
  have hl : lv_has ls 3 [(0, .ref (A q 0)), (1, .int un)] := hl
  have hun := un.toInt_lt
  refine lv_aload_n hx hb dX3_passTo_0 rfl (lv_at hl 0 rfl) ?_
  refine ti_get (ci := 3) (k := 2) (N := 17) (T := TX3) C hw iw_3 rfl hq (by decide) (by decide) fl_X3_53 rfl rfl dX3_passTo_1 ?_
  refine lv_topi (fun x_1 ex_1 => ?_)
  refine lv_istore_n (lv' := [(2, .int x_1), (0, .ref (A q 0)), (1, .int un)]) hx hb dX3_passTo_4 rfl hl (by decide) rfl (fun ls hl => ?_)
  have hl_5_5 : ∀ (n_6 : Nat) (x_2 : Int32) (M_3 : ti_M) (H : Heap) (locs : List Loc) (ls : Array Slot), (un.toInt - x_2.toInt : Int).toNat < n_6 → (cI Tc M_3) → (M_3.2.2.2 = M.2.2.2) → (fX M_3 M) → ti_H ti_LT D A cy H0 M_3 H locs → lv_has ls 3 [(2, .int x_2), (0, .ref (A q 0)), (1, .int un)] → W p l e (ti_rm 5) s m args below meth c H locs 0 0 Q (F0 m 5 ls []) := by
    intro n_6
    induction n_6 with
    | zero => intro x_2 M_3 H locs ls hf_6; exact absurd hf_6 (Nat.not_lt_zero _)
    | succ n_6 ih_6 =>
      intro x_2 M_3 H locs ls hf_6 iM_3 f_4 f_5 hw hl
      refine lv_iload_n hx hb dX3_passTo_5 rfl (lv_at hl 0 rfl) ?_
      refine lv_iload_n hx hb dX3_passTo_6 rfl (lv_at hl 2 rfl) ?_
      refine sb_icmp_ge (tgt := 20) hx hb rfl rfl dX3_passTo_7 (by decide) (fun c_7_6 => ?_) (fun c_7_6 => ?_)
      · exact hQ _ _ _ _ _ hw (⟨iM_3, (f_4), f_5⟩) dX3_passTo_20
      · refine lv_aload_n hx hb dX3_passTo_10 rfl (lv_at hl 1 rfl) ?_
        refine ti_callVv (ci := 3) (av := []) C hw (s_X3_pass l D A cy hJ M_3 iM_3 q t hq ht ((tT_fr f_4).trans hT) (fun h => absurd h hnp)) ⟨ml_X3_140, ym_X3_pass, yv_X3_pass, yi_X3_pass, yc_X3_pass⟩ yd_X3_pass hq (by decide) rfl rfl hl.1 (Nat.le_of_ble_eq_true rfl) ⟨by decide, by decide⟩ ⟨Nat.zero_le _, Nat.zero_le _⟩ dX3_passTo_11 (fun M_9 H locs hp_9 hw => ?_)
        obtain ⟨iM_9, q_10, q_11, q_12⟩ := hp_9
        obtain ⟨x_13, ex_13⟩ : ∃ z : Int32, z = x_2 + 1 := ⟨_, rfl⟩
        have lox_13 := x_2.le_toInt
        have hix_13 := x_2.toInt_lt
        have tx_13 : x_13.toInt = x_2.toInt + 1 := i_add ex_13 rfl (by decide) (by omega) (by omega)
        refine lv_iinc (v := x_13) (lv' := [(2, .int x_13), (0, .ref (A q 0)), (1, .int un)]) hx hb dX3_passTo_14 hl (k := 0) rfl (by rw [ex_13]; rfl) (by decide) rfl (fun ls hl => ?_)
        refine lv_goto (tgt := 5) hx hb dX3_passTo_17 (by decide) ?_
        exact ih_6 x_13 M_9 _ _ _ (by omega) iM_9 ((q_10).trans f_4) (fX.trans q_12 f_5) hw (lv_sub hl [0, 1, 2] rfl)
  exact hl_5_5 ((un.toInt - x_1.toInt : Int).toNat + 1) x_1 M _ _ _ (Nat.lt_succ_self _) hI rfl fX.refl hw (lv_sub hl [0, 1, 2] rfl)
set_option maxHeartbeats 4000000 in
set_option maxRecDepth 100000 in
theorem s_X3_start (l : Launch) (D : va_G) (A : Nat → Nat → Nat) (cy : Nat → ClassId) (hJ : ti_inj ti_LT A) (M : ti_M) (hI : cI Tc M) (q t : Nat) (hq : ti_ob ti_LT q 3) (ht : t = 3 ∨ t = 4) : ti_Kv l yX3_start cX3_start 3 1 ti_LT D A cy M [.ref (A q 0), .ref (A t 0)] (fun M2 => cI Tc M2 ∧ M2.2.2.2 = (uT M q 0 (some t)).2.2.2 ∧ fX M2 M) := by
  refine ti_eV yp_X3_start hJ ti_LT_nd (Nat.le_of_ble_eq_true rfl) ?_
  intro p e s m args below meth c Q H0 C hQ hw ls hl
  have hx := C.1
  have hb := C.2.1
  have hl : lv_has ls 3 [(0, .ref (A q 0)), (1, .ref (A t 0))] := hl
  refine lv_aload_n hx hb dX3_start_0 rfl (lv_at hl 0 rfl) ?_
  refine lv_aload_n hx hb dX3_start_1 rfl (lv_at hl 1 rfl) ?_
  refine ti_putT (ci := 3) (k := 0) (N := 17) (T := TX3) C hw iw_3 tyX3 tyX3_ok nmX3 rfl hq (by decide) (by decide) fl_X3_45 rfl rfl rfl rfl (fn_3 A _) fs_3_0 dX3_start_2 (fun H locs hw => ?_)
  obtain ⟨M_1, hM_1⟩ : ∃ z : ti_M, z = uT M q 0 (some t) := ⟨_, rfl⟩
  have hw := hw.to hM_1.symm
  have iM_1 : cI Tc M_1 := cI_uT hI hM_1
  refine lv_aload_n hx hb dX3_start_5 rfl (lv_at hl 0 rfl) ?_
  refine lv_iconst (v := 0) hx hb dX3_start_6 (by decide) ?_
  refine ti_putI (ci := 3) (k := 1) (N := 17) (T := TX3) C hw iw_3 tyX3 tyX3_ok nmX3 rfl hq (by decide) (by decide) fl_X3_49 rfl rfl rfl rfl (fn_3 A _) fs_3_1 dX3_start_7 (fun H locs hw => ?_)
  obtain ⟨M_2, hM_2⟩ : ∃ z : ti_M, z = uI M_1 q 1 0 := ⟨_, rfl⟩
  have hw := hw.to hM_2.symm
  have iM_2 : cI Tc M_2 := cI_uI iM_1 hM_2 hq.1 trivial
  refine lv_aload_n hx hb dX3_start_10 rfl (lv_at hl 0 rfl) ?_
  refine lv_iconst (v := 0) hx hb dX3_start_11 (by decide) ?_
  refine ti_putI (ci := 3) (k := 2) (N := 17) (T := TX3) C hw iw_3 tyX3 tyX3_ok nmX3 rfl hq (by decide) (by decide) fl_X3_53 rfl rfl rfl rfl (fn_3 A _) fs_3_2 dX3_start_12 (fun H locs hw => ?_)
  obtain ⟨M_3, hM_3⟩ : ∃ z : ti_M, z = uI M_2 q 2 0 := ⟨_, rfl⟩
  have hw := hw.to hM_3.symm
  have iM_3 : cI Tc M_3 := cI_uI iM_2 hM_3 hq.1 (fun _ => ib_mk (lo := 0) (hi := 120) (by decide) (by decide))
  refine lv_aload_n hx hb dX3_start_15 rfl (lv_at hl 0 rfl) ?_
  refine lv_iconst (v := 0) hx hb dX3_start_16 (by decide) ?_
  refine ti_putI (ci := 3) (k := 3) (N := 17) (T := TX3) C hw iw_3 tyX3 tyX3_ok nmX3 rfl hq (by decide) (by decide) fl_X3_56 rfl rfl rfl rfl (fn_3 A _) fs_3_3 dX3_start_17 (fun H locs hw => ?_)
  obtain ⟨M_4, hM_4⟩ : ∃ z : ti_M, z = uI M_3 q 3 0 := ⟨_, rfl⟩
  have hw := hw.to hM_4.symm
  have iM_4 : cI Tc M_4 := cI_uI iM_3 hM_4 hq.1 (ib_mk (lo := 0) (hi := 8) (by first | omega | decide) (by first | omega | decide))
  have vM_4 : (tI M_4 q 3).toInt = (0 : Int32).toInt := by rw [tI_uE hM_4]
  refine lv_aload_n hx hb dX3_start_20 rfl (lv_at hl 0 rfl) ?_
  refine lv_aload_n hx hb dX3_start_21 rfl (lv_at hl 1 rfl) ?_
  refine ti_get (ci := 8) (k := 6) (N := 12) (T := TX8) C hw iw_8 rfl (ob_t ht) (by decide) (by decide) fl_X3_59 rfl rfl dX3_start_22 ?_
  refine lv_topi (fun x_5 ex_5 => ?_)
  refine ti_putI (ci := 3) (k := 4) (N := 17) (T := TX3) C hw iw_3 tyX3 tyX3_ok nmX3 rfl hq (by decide) (by decide) fl_X3_64 rfl rfl rfl rfl (fn_3 A _) fs_3_4 dX3_start_25 (fun H locs hw => ?_)
  obtain ⟨M_6, hM_6⟩ : ∃ z : ti_M, z = uI M_4 q 4 x_5 := ⟨_, rfl⟩
  have hw := hw.to hM_6.symm
  have iM_6 : cI Tc M_6 := cI_uI iM_4 hM_6 hq.1 trivial
  refine lv_aload_n hx hb dX3_start_28 rfl (lv_at hl 0 rfl) ?_
  refine lv_aload_n hx hb dX3_start_29 rfl (lv_at hl 1 rfl) ?_
  refine ti_get (ci := 8) (k := 11) (N := 12) (T := TX8) C hw iw_8 rfl (ob_t ht) (by decide) (by decide) fl_X3_65 rfl rfl dX3_start_30 ?_
  refine lv_topi (fun x_7 ex_7 => ?_)
  refine ti_putI (ci := 3) (k := 5) (N := 17) (T := TX3) C hw iw_3 tyX3 tyX3_ok nmX3 rfl hq (by decide) (by decide) fl_X3_68 rfl rfl rfl rfl (fn_3 A _) fs_3_5 dX3_start_33 (fun H locs hw => ?_)
  obtain ⟨M_8, hM_8⟩ : ∃ z : ti_M, z = uI M_6 q 5 x_7 := ⟨_, rfl⟩
  have hw := hw.to hM_8.symm
  have iM_8 : cI Tc M_8 := cI_uI iM_6 hM_8 hq.1 trivial
  refine lv_aload_n hx hb dX3_start_36 rfl (lv_at hl 1 rfl) ?_
  refine ti_get (ci := 8) (k := 1) (N := 12) (T := TX8) (v := .ref (A t 2)) C hw iw_8 rfl (ob_t ht) (by decide) (by decide) fl_X3_71 rfl rfl dX3_start_37 ?_
  refine lv_iconst (v := 0) hx hb dX3_start_40 (by decide) ?_
  refine lv_aload_n hx hb dX3_start_41 rfl (lv_at hl 0 rfl) ?_
  refine ti_get (ci := 3) (k := 7) (N := 17) (T := TX3) (v := .ref (A q 8)) C hw iw_3 rfl hq (by decide) (by decide) fl_X3_15 rfl rfl dX3_start_42 ?_
  refine lv_iconst (v := 0) hx hb dX3_start_45 (by decide) ?_
  refine lv_iconst (v := 3) hx hb dX3_start_46 (by decide) ?_
  refine ti_copy (c1 := 8) (k1 := 1) (n1 := 3) (c2 := 3) (k2 := 7) (n2 := 3) C hw ml_X3_72 sy_nat sy_sta sy_ini (ob_t ht) (by decide) (fun _ _ => rfl) hq (by decide) (fun _ _ => rfl) hl.1 (by decide) (by decide) (by decide) (by decide) (by decide) (by decide) (Nat.le_of_ble_eq_true rfl) dX3_start_47 (fun H locs hw => ?_)
  obtain ⟨M_9, hM_9⟩ : ∃ z : ti_M, z = uY M_8 q 7 (va_cpy (tY M_8 t 1) (tY M_8 q 7) (0 : Int32).toNatClampNeg (0 : Int32).toNatClampNeg (3 : Int32).toNatClampNeg) := ⟨_, rfl⟩
  have hw := hw.to hM_9.symm
  have iM_9 : cI Tc M_9 := cI_cp iM_8 hM_9 hq.1 (fun _ => trivial)
  refine lv_iconst (v := 0) hx hb dX3_start_50 (by decide) ?_
  refine lv_istore_n (lv' := [(2, .int 0), (0, .ref (A q 0)), (1, .ref (A t 0))]) hx hb dX3_start_51 rfl hl (by decide) rfl (fun ls hl => ?_)
  have hl_52_15 : ∀ (n_16 : Nat) (x_10 : Int32) (M_13 : ti_M) (H : Heap) (locs : List Loc) (ls : Array Slot), (8 - x_10.toInt : Int).toNat < n_16 → (0 ≤ x_10.toInt) → (x_10.toInt ≤ 8) → (cI Tc M_13) → (M_13.2.2.2 = (uT M q 0 (some t)).2.2.2) → (fX M_13 M) → ti_H ti_LT D A cy H0 M_13 H locs → lv_has ls 3 [(2, .int x_10), (0, .ref (A q 0)), (1, .ref (A t 0))] → W p l e (ti_rm 1) s m args below meth c H locs 0 0 Q (F0 m 52 ls []) := by
    intro n_16
    induction n_16 with
    | zero => intro x_10 M_13 H locs ls hf_16; exact absurd hf_16 (Nat.not_lt_zero _)
    | succ n_16 ih_16 =>
      intro x_10 M_13 H locs ls hf_16 b_11 b_12 iM_13 f_14 f_15 hw hl
      refine lv_iload_n hx hb dX3_start_52 rfl (lv_at hl 0 rfl) ?_
      refine lv_aload_n hx hb dX3_start_53 rfl (lv_at hl 2 rfl) ?_
      refine ti_get (ci := 8) (k := 4) (N := 12) (T := TX8) C hw iw_8 rfl (ob_t ht) (by decide) (by decide) fl_X3_78 rfl rfl dX3_start_54 ?_
      refine lv_topi (fun x_17 ex_17 => ?_)
      have bx_17 : 0 ≤ x_17.toInt ∧ x_17.toInt ≤ 8 := cI_rd iM_13 (ob_t ht).1 ex_17
      have ux_17 : (tI M_13 t 4).toInt = x_17.toInt := by rw [ex_17]
      refine sb_icmp_ge (tgt := 111) hx hb rfl rfl dX3_start_57 (by decide) (fun c_57_17 => ?_) (fun c_57_17 => ?_)
      · refine lv_aload_n hx hb dX3_start_111 rfl (lv_at hl 1 rfl) ?_
        refine ti_get (ci := 3) (k := 8) (N := 17) (T := TX3) (v := .ref (A q 9)) C hw iw_3 rfl hq (by decide) (by decide) fl_X3_18 rfl rfl dX3_start_112 ?_
        refine lv_iconst (v := 0) hx hb dX3_start_115 (by decide) ?_
        refine ti_callSv (av := [.ref (A q 9), .int 0]) C hw (k_fill l D A cy ti_LT_nd hJ M_13 q 8 3 8 0 hq (by decide) (fun _ _ => rfl) (by decide)) ⟨ml_X3_93, ys_J7_fill_53178, yi_J7_fill_53178, yc_J7_fill_53178⟩ yd_J7_fill_53178 rfl hl.1 (Nat.le_of_ble_eq_true rfl) ⟨by decide, by decide⟩ ⟨Nat.zero_le _, Nat.zero_le _⟩ dX3_start_116 (fun M_27 H locs hp hw => ?_)
        obtain ⟨g_28, hM_27, -⟩ := hp
        have iM_27 : cI Tc M_27 := cI_uY iM_13 hM_27 hq.1 (fun _ => trivial)
        refine lv_aload_n hx hb dX3_start_119 rfl (lv_at hl 1 rfl) ?_
        refine ti_get (ci := 3) (k := 11) (N := 17) (T := TX3) (v := .ref (A q 12)) C hw iw_3 rfl hq (by decide) (by decide) fl_X3_27 rfl rfl dX3_start_120 ?_
        refine lv_iconst (v := 0) hx hb dX3_start_123 (by decide) ?_
        refine ti_callSv (av := [.ref (A q 12), .int 0]) C hw (k_fill l D A cy ti_LT_nd hJ M_27 q 11 3 8 0 hq (by decide) (fun _ _ => rfl) (by decide)) ⟨ml_X3_93, ys_J7_fill_53178, yi_J7_fill_53178, yc_J7_fill_53178⟩ yd_J7_fill_53178 rfl hl.1 (Nat.le_of_ble_eq_true rfl) ⟨by decide, by decide⟩ ⟨Nat.zero_le _, Nat.zero_le _⟩ dX3_start_124 (fun M_29 H locs hp hw => ?_)
        obtain ⟨g_30, hM_29, -⟩ := hp
        have iM_29 : cI Tc M_29 := cI_uY iM_27 hM_29 hq.1 (fun _ => trivial)
        refine lv_aload_n hx hb dX3_start_127 rfl (lv_at hl 1 rfl) ?_
        refine ti_get (ci := 3) (k := 15) (N := 17) (T := TX3) (v := .ref (A q 16)) C hw iw_3 rfl hq (by decide) (by decide) fl_X3_39 rfl rfl dX3_start_128 ?_
        refine lv_iconst (v := 0) hx hb dX3_start_131 (by decide) ?_
        refine ti_callSv (av := [.ref (A q 16), .int 0]) C hw (k_fill l D A cy ti_LT_nd hJ M_29 q 15 3 8 0 hq (by decide) (fun _ _ => rfl) (by decide)) ⟨ml_X3_93, ys_J7_fill_53178, yi_J7_fill_53178, yc_J7_fill_53178⟩ yd_J7_fill_53178 rfl hl.1 (Nat.le_of_ble_eq_true rfl) ⟨by decide, by decide⟩ ⟨Nat.zero_le _, Nat.zero_le _⟩ dX3_start_132 (fun M_31 H locs hp hw => ?_)
        obtain ⟨g_32, hM_31, -⟩ := hp
        have iM_31 : cI Tc M_31 := cI_uY iM_29 hM_31 hq.1 (fun _ => trivial)
        refine lv_aload_n hx hb dX3_start_135 rfl (lv_at hl 1 rfl) ?_
        refine ti_get (ci := 3) (k := 16) (N := 17) (T := TX3) (v := .ref (A q 17)) C hw iw_3 rfl hq (by decide) (by decide) fl_X3_42 rfl rfl dX3_start_136 ?_
        refine lv_iconst (v := 0) hx hb dX3_start_139 (by decide) ?_
        refine ti_callSv (av := [.ref (A q 17), .int 0]) C hw (k_fill l D A cy ti_LT_nd hJ M_31 q 16 3 8 0 hq (by decide) (fun _ _ => rfl) (by decide)) ⟨ml_X3_93, ys_J7_fill_53178, yi_J7_fill_53178, yc_J7_fill_53178⟩ yd_J7_fill_53178 rfl hl.1 (Nat.le_of_ble_eq_true rfl) ⟨by decide, by decide⟩ ⟨Nat.zero_le _, Nat.zero_le _⟩ dX3_start_140 (fun M_33 H locs hp hw => ?_)
        obtain ⟨g_34, hM_33, -⟩ := hp
        have iM_33 : cI Tc M_33 := cI_uY iM_31 hM_33 hq.1 (fun _ => trivial)
        exact hQ _ _ _ _ _ hw (⟨iM_33, ((rf_Y hM_33).trans ((rf_Y hM_31).trans ((rf_Y hM_29).trans ((rf_Y hM_27).trans f_14)))), (fX.trans (fx_of (ra_Y hM_33)) (fX.trans (fx_of (ra_Y hM_31)) (fX.trans (fx_of (ra_Y hM_29)) (fX.trans (fx_of (ra_Y hM_27)) f_15))))⟩) dX3_start_143
      · refine lv_aload_n hx hb dX3_start_60 rfl (lv_at hl 1 rfl) ?_
        refine ti_get (ci := 3) (k := 9) (N := 17) (T := TX3) (v := .ref (A q 10)) C hw iw_3 rfl hq (by decide) (by decide) fl_X3_21 rfl rfl dX3_start_61 ?_
        refine lv_iload_n hx hb dX3_start_64 rfl (lv_at hl 0 rfl) ?_
        refine lv_aload_n hx hb dX3_start_65 rfl (lv_at hl 2 rfl) ?_
        refine ti_get (ci := 8) (k := 0) (N := 12) (T := TX8) (v := .ref (A t 1)) C hw iw_8 rfl (ob_t ht) (by decide) (by decide) fl_X3_81 rfl rfl dX3_start_66 ?_
        refine lv_iload_n hx hb dX3_start_69 rfl (lv_at hl 0 rfl) ?_
        refine ti_aald (ci := 8) (k := 0) (n := 8) (t0 := 5) (Cn := RX2) (gg := (ti_men t)) (j := x_10.toNatClampNeg) C hw (ob_t ht) (by decide) (fun _ _ => rfl) rfl (vp_in_iff.mpr (by omega)) rfl dX3_start_70 ?_
        have ob_19 : ti_ob ti_LT (ti_men t x_10.toNatClampNeg) 2 := ob_m ht (i_nt rfl (by omega) (by omega))
        refine ti_get (ci := 2) (k := 7) (N := 10) (T := TX2) C hw iw_2 rfl ob_19 (by decide) (by decide) fl_X3_85 rfl rfl dX3_start_71 ?_
        refine lv_topi (fun x_20 ex_20 => ?_)
        refine ti_iast (ci := 3) (k := 9) (n := 8) C hw hq (by decide) (fun _ _ => rfl) (vp_in_iff.mpr (by omega)) dX3_start_74 (fun H locs hw => ?_)
        obtain ⟨M_21, hM_21⟩ : ∃ z : ti_M, z = uY M_13 q 9 (upd (tY M_13 q 9) (x_10 : Int32).toNatClampNeg x_20) := ⟨_, rfl⟩
        have hw := hw.to hM_21.symm
        have iM_21 : cI Tc M_21 := cI_up iM_13 hM_21 hq.1 trivial
        refine lv_aload_n hx hb dX3_start_75 rfl (lv_at hl 1 rfl) ?_
        refine ti_get (ci := 3) (k := 10) (N := 17) (T := TX3) (v := .ref (A q 11)) C hw iw_3 rfl hq (by decide) (by decide) fl_X3_24 rfl rfl dX3_start_76 ?_
        refine lv_iload_n hx hb dX3_start_79 rfl (lv_at hl 0 rfl) ?_
        refine lv_aload_n hx hb dX3_start_80 rfl (lv_at hl 2 rfl) ?_
        refine ti_get (ci := 8) (k := 0) (N := 12) (T := TX8) (v := .ref (A t 1)) C hw iw_8 rfl (ob_t ht) (by decide) (by decide) fl_X3_81 rfl rfl dX3_start_81 ?_
        refine lv_iload_n hx hb dX3_start_84 rfl (lv_at hl 0 rfl) ?_
        refine ti_aald (ci := 8) (k := 0) (n := 8) (t0 := 5) (Cn := RX2) (gg := (ti_men t)) (j := x_10.toNatClampNeg) C hw (ob_t ht) (by decide) (fun _ _ => rfl) rfl (vp_in_iff.mpr (by omega)) rfl dX3_start_85 ?_
        refine ti_get (ci := 2) (k := 3) (N := 10) (T := TX2) C hw iw_2 rfl ob_19 (by decide) (by decide) fl_X3_89 rfl rfl dX3_start_86 ?_
        refine lv_topi (fun x_22 ex_22 => ?_)
        refine ti_iast (ci := 3) (k := 10) (n := 8) C hw hq (by decide) (fun _ _ => rfl) (vp_in_iff.mpr (by omega)) dX3_start_89 (fun H locs hw => ?_)
        obtain ⟨M_23, hM_23⟩ : ∃ z : ti_M, z = uY M_21 q 10 (upd (tY M_21 q 10) (x_10 : Int32).toNatClampNeg x_22) := ⟨_, rfl⟩
        have hw := hw.to hM_23.symm
        have iM_23 : cI Tc M_23 := cI_up iM_21 hM_23 hq.1 trivial
        refine lv_aload_n hx hb dX3_start_90 rfl (lv_at hl 1 rfl) ?_
        refine ti_get (ci := 3) (k := 12) (N := 17) (T := TX3) (v := .ref (A q 13)) C hw iw_3 rfl hq (by decide) (by decide) fl_X3_30 rfl rfl dX3_start_91 ?_
        refine lv_iload_n hx hb dX3_start_94 rfl (lv_at hl 0 rfl) ?_
        refine lv_aload_n hx hb dX3_start_95 rfl (lv_at hl 2 rfl) ?_
        refine ti_get (ci := 8) (k := 0) (N := 12) (T := TX8) (v := .ref (A t 1)) C hw iw_8 rfl (ob_t ht) (by decide) (by decide) fl_X3_81 rfl rfl dX3_start_96 ?_
        refine lv_iload_n hx hb dX3_start_99 rfl (lv_at hl 0 rfl) ?_
        refine ti_aald (ci := 8) (k := 0) (n := 8) (t0 := 5) (Cn := RX2) (gg := (ti_men t)) (j := x_10.toNatClampNeg) C hw (ob_t ht) (by decide) (fun _ _ => rfl) rfl (vp_in_iff.mpr (by omega)) rfl dX3_start_100 ?_
        refine ti_get (ci := 2) (k := 5) (N := 10) (T := TX2) C hw iw_2 rfl ob_19 (by decide) (by decide) fl_X3_91 rfl rfl dX3_start_101 ?_
        refine lv_topi (fun x_24 ex_24 => ?_)
        refine ti_iast (ci := 3) (k := 12) (n := 8) C hw hq (by decide) (fun _ _ => rfl) (vp_in_iff.mpr (by omega)) dX3_start_104 (fun H locs hw => ?_)
        obtain ⟨M_25, hM_25⟩ : ∃ z : ti_M, z = uY M_23 q 12 (upd (tY M_23 q 12) (x_10 : Int32).toNatClampNeg x_24) := ⟨_, rfl⟩
        have hw := hw.to hM_25.symm
        have iM_25 : cI Tc M_25 := cI_up iM_23 hM_25 hq.1 trivial
        obtain ⟨x_26, ex_26⟩ : ∃ z : Int32, z = x_10 + 1 := ⟨_, rfl⟩
        have tx_26 : x_26.toInt = x_10.toInt + 1 := i_add ex_26 rfl (by decide) (by omega) (by omega)
        refine lv_iinc (v := x_26) (lv' := [(2, .int x_26), (0, .ref (A q 0)), (1, .ref (A t 0))]) hx hb dX3_start_105 hl (k := 0) rfl (by rw [ex_26]; rfl) (by decide) rfl (fun ls hl => ?_)
        refine lv_goto (tgt := 52) hx hb dX3_start_108 (by decide) ?_
        exact ih_16 x_26 M_25 _ _ _ (by omega) (by first | omega | decide) (by first | omega | decide) iM_25 ((rf_Y hM_25).trans ((rf_Y hM_23).trans ((rf_Y hM_21).trans f_14))) (fX.trans (fx_of (ra_Y hM_25)) (fX.trans (fx_of (ra_Y hM_23)) (fX.trans (fx_of (ra_Y hM_21)) f_15))) hw (lv_sub hl [0, 1, 2] rfl)
  exact hl_52_15 ((8 - 0 : Int).toNat + 1) 0 M_9 _ _ _ (Nat.lt_succ_self _) (by have lt0 : (0 : Int32).toInt = 0 := (by decide); first | omega | decide) (by have lt0 : (0 : Int32).toInt = 0 := (by decide); first | omega | decide) iM_9 ((rf_Y hM_9).trans ((rf_I hM_8).trans ((rf_I hM_6).trans ((rf_I hM_4).trans ((rf_I hM_3).trans ((rf_I hM_2).trans (rf_Tc hM_1 rfl))))))) (fX.trans (fx_of (ra_Y hM_9)) (fX.trans (fx_I hM_8 (fxn hq.1 (by decide))) (fX.trans (fx_I hM_6 (fxn hq.1 (by decide))) (fX.trans (fx_I hM_4 (fxn hq.1 (by decide))) (fX.trans (fx_I hM_3 (fxn hq.1 (by decide))) (fX.trans (fx_I hM_2 (fxn hq.1 (by decide))) (fx_of (ra_T hM_1)))))))) hw (lv_sub hl [0, 1, 2] rfl)
set_option maxHeartbeats 4000000 in
set_option maxRecDepth 100000 in
theorem s_X3_copy (l : Launch) (D : va_G) (A : Nat → Nat → Nat) (cy : Nat → ClassId) (hJ : ti_inj ti_LT A) (M : ti_M) (hI : cI Tc M) (q r t : Nat) (hq : ti_ob ti_LT q 3) (hr : ti_ob ti_LT r 3) (ht : t = 3 ∨ t = 4) (hT : tT M r 0 = some t) (hpr : cPer q → cPer r) : ti_Kv l yX3_copy cX3_copy 2 1 ti_LT D A cy M [.ref (A q 0), .ref (A r 0)] (fun M2 => cI Tc M2 ∧ M2.2.2.2 = (uT M q 0 (some t)).2.2.2 ∧ fX M2 M) := by
  refine ti_eV yp_X3_copy hJ ti_LT_nd (Nat.le_of_ble_eq_true rfl) ?_
  intro p e s m args below meth c Q H0 C hQ hw ls hl
  have hx := C.1
  have hb := C.2.1
  have hl : lv_has ls 2 [(0, .ref (A q 0)), (1, .ref (A r 0))] := hl
  refine lv_aload_n hx hb dX3_copy_0 rfl (lv_at hl 0 rfl) ?_
  refine lv_aload_n hx hb dX3_copy_1 rfl (lv_at hl 1 rfl) ?_
  refine ti_get (ci := 3) (k := 0) (N := 17) (T := TX3) (v := .ref (A t 0)) C hw iw_3 rfl hr (by decide) (by decide) fl_X3_45 rfl (ti_Tv (hT)) dX3_copy_2 ?_
  refine ti_putT (ci := 3) (k := 0) (N := 17) (T := TX3) C hw iw_3 tyX3 tyX3_ok nmX3 rfl hq (by decide) (by decide) fl_X3_45 rfl rfl rfl rfl (fn_3 A _) fs_3_0 dX3_copy_5 (fun H locs hw => ?_)
  obtain ⟨M_1, hM_1⟩ : ∃ z : ti_M, z = uT M q 0 (some t) := ⟨_, rfl⟩
  have hw := hw.to hM_1.symm
  have iM_1 : cI Tc M_1 := cI_uT hI hM_1
  refine lv_aload_n hx hb dX3_copy_8 rfl (lv_at hl 0 rfl) ?_
  refine lv_aload_n hx hb dX3_copy_9 rfl (lv_at hl 1 rfl) ?_
  refine ti_get (ci := 3) (k := 1) (N := 17) (T := TX3) C hw iw_3 rfl hr (by decide) (by decide) fl_X3_49 rfl rfl dX3_copy_10 ?_
  refine lv_topi (fun x_2 ex_2 => ?_)
  refine ti_putI (ci := 3) (k := 1) (N := 17) (T := TX3) C hw iw_3 tyX3 tyX3_ok nmX3 rfl hq (by decide) (by decide) fl_X3_49 rfl rfl rfl rfl (fn_3 A _) fs_3_1 dX3_copy_13 (fun H locs hw => ?_)
  obtain ⟨M_3, hM_3⟩ : ∃ z : ti_M, z = uI M_1 q 1 x_2 := ⟨_, rfl⟩
  have hw := hw.to hM_3.symm
  have iM_3 : cI Tc M_3 := cI_uI iM_1 hM_3 hq.1 trivial
  refine lv_aload_n hx hb dX3_copy_16 rfl (lv_at hl 0 rfl) ?_
  refine lv_aload_n hx hb dX3_copy_17 rfl (lv_at hl 1 rfl) ?_
  refine ti_get (ci := 3) (k := 2) (N := 17) (T := TX3) C hw iw_3 rfl hr (by decide) (by decide) fl_X3_53 rfl rfl dX3_copy_18 ?_
  refine lv_topi (fun x_4 ex_4 => ?_)
  refine ti_putI (ci := 3) (k := 2) (N := 17) (T := TX3) C hw iw_3 tyX3 tyX3_ok nmX3 rfl hq (by decide) (by decide) fl_X3_53 rfl rfl rfl rfl (fn_3 A _) fs_3_2 dX3_copy_21 (fun H locs hw => ?_)
  obtain ⟨M_5, hM_5⟩ : ∃ z : ti_M, z = uI M_3 q 2 x_4 := ⟨_, rfl⟩
  have hw := hw.to hM_5.symm
  have iM_5 : cI Tc M_5 := cI_uI iM_3 hM_5 hq.1 (fun hp => cI_rd iM_3 hr.1 ex_4 (hpr hp))
  refine lv_aload_n hx hb dX3_copy_24 rfl (lv_at hl 0 rfl) ?_
  refine lv_aload_n hx hb dX3_copy_25 rfl (lv_at hl 1 rfl) ?_
  refine ti_get (ci := 3) (k := 3) (N := 17) (T := TX3) C hw iw_3 rfl hr (by decide) (by decide) fl_X3_56 rfl rfl dX3_copy_26 ?_
  refine lv_topi (fun x_6 ex_6 => ?_)
  have bx_6 : 0 ≤ x_6.toInt ∧ x_6.toInt ≤ 8 := cI_rd iM_5 hr.1 ex_6
  have ux_6 : (tI M_5 r 3).toInt = x_6.toInt := by rw [ex_6]
  refine ti_putI (ci := 3) (k := 3) (N := 17) (T := TX3) C hw iw_3 tyX3 tyX3_ok nmX3 rfl hq (by decide) (by decide) fl_X3_56 rfl rfl rfl rfl (fn_3 A _) fs_3_3 dX3_copy_29 (fun H locs hw => ?_)
  obtain ⟨M_7, hM_7⟩ : ∃ z : ti_M, z = uI M_5 q 3 x_6 := ⟨_, rfl⟩
  have hw := hw.to hM_7.symm
  have iM_7 : cI Tc M_7 := cI_uI iM_5 hM_7 hq.1 (ib_mk (lo := 0) (hi := 8) (by first | omega | decide) (by first | omega | decide))
  have vM_7 : (tI M_7 q 3).toInt = (x_6 : Int32).toInt := by rw [tI_uE hM_7]
  refine lv_aload_n hx hb dX3_copy_32 rfl (lv_at hl 0 rfl) ?_
  refine lv_aload_n hx hb dX3_copy_33 rfl (lv_at hl 1 rfl) ?_
  refine ti_get (ci := 3) (k := 4) (N := 17) (T := TX3) C hw iw_3 rfl hr (by decide) (by decide) fl_X3_64 rfl rfl dX3_copy_34 ?_
  refine lv_topi (fun x_8 ex_8 => ?_)
  refine ti_putI (ci := 3) (k := 4) (N := 17) (T := TX3) C hw iw_3 tyX3 tyX3_ok nmX3 rfl hq (by decide) (by decide) fl_X3_64 rfl rfl rfl rfl (fn_3 A _) fs_3_4 dX3_copy_37 (fun H locs hw => ?_)
  obtain ⟨M_9, hM_9⟩ : ∃ z : ti_M, z = uI M_7 q 4 x_8 := ⟨_, rfl⟩
  have hw := hw.to hM_9.symm
  have iM_9 : cI Tc M_9 := cI_uI iM_7 hM_9 hq.1 trivial
  refine lv_aload_n hx hb dX3_copy_40 rfl (lv_at hl 0 rfl) ?_
  refine lv_aload_n hx hb dX3_copy_41 rfl (lv_at hl 1 rfl) ?_
  refine ti_get (ci := 3) (k := 5) (N := 17) (T := TX3) C hw iw_3 rfl hr (by decide) (by decide) fl_X3_68 rfl rfl dX3_copy_42 ?_
  refine lv_topi (fun x_10 ex_10 => ?_)
  refine ti_putI (ci := 3) (k := 5) (N := 17) (T := TX3) C hw iw_3 tyX3 tyX3_ok nmX3 rfl hq (by decide) (by decide) fl_X3_68 rfl rfl rfl rfl (fn_3 A _) fs_3_5 dX3_copy_45 (fun H locs hw => ?_)
  obtain ⟨M_11, hM_11⟩ : ∃ z : ti_M, z = uI M_9 q 5 x_10 := ⟨_, rfl⟩
  have hw := hw.to hM_11.symm
  have iM_11 : cI Tc M_11 := cI_uI iM_9 hM_11 hq.1 trivial
  refine lv_aload_n hx hb dX3_copy_48 rfl (lv_at hl 1 rfl) ?_
  refine ti_get (ci := 3) (k := 6) (N := 17) (T := TX3) (v := .ref (A r 7)) C hw iw_3 rfl hr (by decide) (by decide) fl_X3_9 rfl rfl dX3_copy_49 ?_
  refine lv_iconst (v := 0) hx hb dX3_copy_52 (by decide) ?_
  refine lv_aload_n hx hb dX3_copy_53 rfl (lv_at hl 0 rfl) ?_
  refine ti_get (ci := 3) (k := 6) (N := 17) (T := TX3) (v := .ref (A q 7)) C hw iw_3 rfl hq (by decide) (by decide) fl_X3_9 rfl rfl dX3_copy_54 ?_
  refine lv_iconst (v := 0) hx hb dX3_copy_57 (by decide) ?_
  refine lv_bipush (v := 8) hx hb dX3_copy_58 (by decide) ?_
  refine ti_copy (c1 := 3) (k1 := 6) (n1 := 8) (c2 := 3) (k2 := 6) (n2 := 8) C hw ml_X3_72 sy_nat sy_sta sy_ini hr (by decide) (fun _ _ => rfl) hq (by decide) (fun _ _ => rfl) hl.1 (by decide) (by decide) (by decide) (by decide) (by decide) (by decide) (Nat.le_of_ble_eq_true rfl) dX3_copy_60 (fun H locs hw => ?_)
  obtain ⟨M_12, hM_12⟩ : ∃ z : ti_M, z = uY M_11 q 6 (va_cpy (tY M_11 r 6) (tY M_11 q 6) (0 : Int32).toNatClampNeg (0 : Int32).toNatClampNeg (8 : Int32).toNatClampNeg) := ⟨_, rfl⟩
  have hw := hw.to hM_12.symm
  have iM_12 : cI Tc M_12 := cI_cp iM_11 hM_12 hq.1 (fun i => cI_ry iM_11 hr.1 rfl)
  refine lv_aload_n hx hb dX3_copy_63 rfl (lv_at hl 1 rfl) ?_
  refine ti_get (ci := 3) (k := 7) (N := 17) (T := TX3) (v := .ref (A r 8)) C hw iw_3 rfl hr (by decide) (by decide) fl_X3_15 rfl rfl dX3_copy_64 ?_
  refine lv_iconst (v := 0) hx hb dX3_copy_67 (by decide) ?_
  refine lv_aload_n hx hb dX3_copy_68 rfl (lv_at hl 0 rfl) ?_
  refine ti_get (ci := 3) (k := 7) (N := 17) (T := TX3) (v := .ref (A q 8)) C hw iw_3 rfl hq (by decide) (by decide) fl_X3_15 rfl rfl dX3_copy_69 ?_
  refine lv_iconst (v := 0) hx hb dX3_copy_72 (by decide) ?_
  refine lv_iconst (v := 3) hx hb dX3_copy_73 (by decide) ?_
  refine ti_copy (c1 := 3) (k1 := 7) (n1 := 3) (c2 := 3) (k2 := 7) (n2 := 3) C hw ml_X3_72 sy_nat sy_sta sy_ini hr (by decide) (fun _ _ => rfl) hq (by decide) (fun _ _ => rfl) hl.1 (by decide) (by decide) (by decide) (by decide) (by decide) (by decide) (Nat.le_of_ble_eq_true rfl) dX3_copy_74 (fun H locs hw => ?_)
  obtain ⟨M_13, hM_13⟩ : ∃ z : ti_M, z = uY M_12 q 7 (va_cpy (tY M_12 r 7) (tY M_12 q 7) (0 : Int32).toNatClampNeg (0 : Int32).toNatClampNeg (3 : Int32).toNatClampNeg) := ⟨_, rfl⟩
  have hw := hw.to hM_13.symm
  have iM_13 : cI Tc M_13 := cI_cp iM_12 hM_13 hq.1 (fun _ => trivial)
  refine lv_aload_n hx hb dX3_copy_77 rfl (lv_at hl 1 rfl) ?_
  refine ti_get (ci := 3) (k := 8) (N := 17) (T := TX3) (v := .ref (A r 9)) C hw iw_3 rfl hr (by decide) (by decide) fl_X3_18 rfl rfl dX3_copy_78 ?_
  refine lv_iconst (v := 0) hx hb dX3_copy_81 (by decide) ?_
  refine lv_aload_n hx hb dX3_copy_82 rfl (lv_at hl 0 rfl) ?_
  refine ti_get (ci := 3) (k := 8) (N := 17) (T := TX3) (v := .ref (A q 9)) C hw iw_3 rfl hq (by decide) (by decide) fl_X3_18 rfl rfl dX3_copy_83 ?_
  refine lv_iconst (v := 0) hx hb dX3_copy_86 (by decide) ?_
  refine lv_bipush (v := 8) hx hb dX3_copy_87 (by decide) ?_
  refine ti_copy (c1 := 3) (k1 := 8) (n1 := 8) (c2 := 3) (k2 := 8) (n2 := 8) C hw ml_X3_72 sy_nat sy_sta sy_ini hr (by decide) (fun _ _ => rfl) hq (by decide) (fun _ _ => rfl) hl.1 (by decide) (by decide) (by decide) (by decide) (by decide) (by decide) (Nat.le_of_ble_eq_true rfl) dX3_copy_89 (fun H locs hw => ?_)
  obtain ⟨M_14, hM_14⟩ : ∃ z : ti_M, z = uY M_13 q 8 (va_cpy (tY M_13 r 8) (tY M_13 q 8) (0 : Int32).toNatClampNeg (0 : Int32).toNatClampNeg (8 : Int32).toNatClampNeg) := ⟨_, rfl⟩
  have hw := hw.to hM_14.symm
  have iM_14 : cI Tc M_14 := cI_cp iM_13 hM_14 hq.1 (fun _ => trivial)
  refine lv_aload_n hx hb dX3_copy_92 rfl (lv_at hl 1 rfl) ?_
  refine ti_get (ci := 3) (k := 9) (N := 17) (T := TX3) (v := .ref (A r 10)) C hw iw_3 rfl hr (by decide) (by decide) fl_X3_21 rfl rfl dX3_copy_93 ?_
  refine lv_iconst (v := 0) hx hb dX3_copy_96 (by decide) ?_
  refine lv_aload_n hx hb dX3_copy_97 rfl (lv_at hl 0 rfl) ?_
  refine ti_get (ci := 3) (k := 9) (N := 17) (T := TX3) (v := .ref (A q 10)) C hw iw_3 rfl hq (by decide) (by decide) fl_X3_21 rfl rfl dX3_copy_98 ?_
  refine lv_iconst (v := 0) hx hb dX3_copy_101 (by decide) ?_
  refine lv_bipush (v := 8) hx hb dX3_copy_102 (by decide) ?_
  refine ti_copy (c1 := 3) (k1 := 9) (n1 := 8) (c2 := 3) (k2 := 9) (n2 := 8) C hw ml_X3_72 sy_nat sy_sta sy_ini hr (by decide) (fun _ _ => rfl) hq (by decide) (fun _ _ => rfl) hl.1 (by decide) (by decide) (by decide) (by decide) (by decide) (by decide) (Nat.le_of_ble_eq_true rfl) dX3_copy_104 (fun H locs hw => ?_)
  obtain ⟨M_15, hM_15⟩ : ∃ z : ti_M, z = uY M_14 q 9 (va_cpy (tY M_14 r 9) (tY M_14 q 9) (0 : Int32).toNatClampNeg (0 : Int32).toNatClampNeg (8 : Int32).toNatClampNeg) := ⟨_, rfl⟩
  have hw := hw.to hM_15.symm
  have iM_15 : cI Tc M_15 := cI_cp iM_14 hM_15 hq.1 (fun _ => trivial)
  refine lv_aload_n hx hb dX3_copy_107 rfl (lv_at hl 1 rfl) ?_
  refine ti_get (ci := 3) (k := 10) (N := 17) (T := TX3) (v := .ref (A r 11)) C hw iw_3 rfl hr (by decide) (by decide) fl_X3_24 rfl rfl dX3_copy_108 ?_
  refine lv_iconst (v := 0) hx hb dX3_copy_111 (by decide) ?_
  refine lv_aload_n hx hb dX3_copy_112 rfl (lv_at hl 0 rfl) ?_
  refine ti_get (ci := 3) (k := 10) (N := 17) (T := TX3) (v := .ref (A q 11)) C hw iw_3 rfl hq (by decide) (by decide) fl_X3_24 rfl rfl dX3_copy_113 ?_
  refine lv_iconst (v := 0) hx hb dX3_copy_116 (by decide) ?_
  refine lv_bipush (v := 8) hx hb dX3_copy_117 (by decide) ?_
  refine ti_copy (c1 := 3) (k1 := 10) (n1 := 8) (c2 := 3) (k2 := 10) (n2 := 8) C hw ml_X3_72 sy_nat sy_sta sy_ini hr (by decide) (fun _ _ => rfl) hq (by decide) (fun _ _ => rfl) hl.1 (by decide) (by decide) (by decide) (by decide) (by decide) (by decide) (Nat.le_of_ble_eq_true rfl) dX3_copy_119 (fun H locs hw => ?_)
  obtain ⟨M_16, hM_16⟩ : ∃ z : ti_M, z = uY M_15 q 10 (va_cpy (tY M_15 r 10) (tY M_15 q 10) (0 : Int32).toNatClampNeg (0 : Int32).toNatClampNeg (8 : Int32).toNatClampNeg) := ⟨_, rfl⟩
  have hw := hw.to hM_16.symm
  have iM_16 : cI Tc M_16 := cI_cp iM_15 hM_16 hq.1 (fun _ => trivial)
  refine lv_aload_n hx hb dX3_copy_122 rfl (lv_at hl 1 rfl) ?_
  refine ti_get (ci := 3) (k := 11) (N := 17) (T := TX3) (v := .ref (A r 12)) C hw iw_3 rfl hr (by decide) (by decide) fl_X3_27 rfl rfl dX3_copy_123 ?_
  refine lv_iconst (v := 0) hx hb dX3_copy_126 (by decide) ?_
  refine lv_aload_n hx hb dX3_copy_127 rfl (lv_at hl 0 rfl) ?_
  refine ti_get (ci := 3) (k := 11) (N := 17) (T := TX3) (v := .ref (A q 12)) C hw iw_3 rfl hq (by decide) (by decide) fl_X3_27 rfl rfl dX3_copy_128 ?_
  refine lv_iconst (v := 0) hx hb dX3_copy_131 (by decide) ?_
  refine lv_bipush (v := 8) hx hb dX3_copy_132 (by decide) ?_
  refine ti_copy (c1 := 3) (k1 := 11) (n1 := 8) (c2 := 3) (k2 := 11) (n2 := 8) C hw ml_X3_72 sy_nat sy_sta sy_ini hr (by decide) (fun _ _ => rfl) hq (by decide) (fun _ _ => rfl) hl.1 (by decide) (by decide) (by decide) (by decide) (by decide) (by decide) (Nat.le_of_ble_eq_true rfl) dX3_copy_134 (fun H locs hw => ?_)
  obtain ⟨M_17, hM_17⟩ : ∃ z : ti_M, z = uY M_16 q 11 (va_cpy (tY M_16 r 11) (tY M_16 q 11) (0 : Int32).toNatClampNeg (0 : Int32).toNatClampNeg (8 : Int32).toNatClampNeg) := ⟨_, rfl⟩
  have hw := hw.to hM_17.symm
  have iM_17 : cI Tc M_17 := cI_cp iM_16 hM_17 hq.1 (fun _ => trivial)
  refine lv_aload_n hx hb dX3_copy_137 rfl (lv_at hl 1 rfl) ?_
  refine ti_get (ci := 3) (k := 12) (N := 17) (T := TX3) (v := .ref (A r 13)) C hw iw_3 rfl hr (by decide) (by decide) fl_X3_30 rfl rfl dX3_copy_138 ?_
  refine lv_iconst (v := 0) hx hb dX3_copy_141 (by decide) ?_
  refine lv_aload_n hx hb dX3_copy_142 rfl (lv_at hl 0 rfl) ?_
  refine ti_get (ci := 3) (k := 12) (N := 17) (T := TX3) (v := .ref (A q 13)) C hw iw_3 rfl hq (by decide) (by decide) fl_X3_30 rfl rfl dX3_copy_143 ?_
  refine lv_iconst (v := 0) hx hb dX3_copy_146 (by decide) ?_
  refine lv_bipush (v := 8) hx hb dX3_copy_147 (by decide) ?_
  refine ti_copy (c1 := 3) (k1 := 12) (n1 := 8) (c2 := 3) (k2 := 12) (n2 := 8) C hw ml_X3_72 sy_nat sy_sta sy_ini hr (by decide) (fun _ _ => rfl) hq (by decide) (fun _ _ => rfl) hl.1 (by decide) (by decide) (by decide) (by decide) (by decide) (by decide) (Nat.le_of_ble_eq_true rfl) dX3_copy_149 (fun H locs hw => ?_)
  obtain ⟨M_18, hM_18⟩ : ∃ z : ti_M, z = uY M_17 q 12 (va_cpy (tY M_17 r 12) (tY M_17 q 12) (0 : Int32).toNatClampNeg (0 : Int32).toNatClampNeg (8 : Int32).toNatClampNeg) := ⟨_, rfl⟩
  have hw := hw.to hM_18.symm
  have iM_18 : cI Tc M_18 := cI_cp iM_17 hM_18 hq.1 (fun _ => trivial)
  refine lv_aload_n hx hb dX3_copy_152 rfl (lv_at hl 1 rfl) ?_
  refine ti_get (ci := 3) (k := 13) (N := 17) (T := TX3) (v := .ref (A r 14)) C hw iw_3 rfl hr (by decide) (by decide) fl_X3_33 rfl rfl dX3_copy_153 ?_
  refine lv_iconst (v := 0) hx hb dX3_copy_156 (by decide) ?_
  refine lv_aload_n hx hb dX3_copy_157 rfl (lv_at hl 0 rfl) ?_
  refine ti_get (ci := 3) (k := 13) (N := 17) (T := TX3) (v := .ref (A q 14)) C hw iw_3 rfl hq (by decide) (by decide) fl_X3_33 rfl rfl dX3_copy_158 ?_
  refine lv_iconst (v := 0) hx hb dX3_copy_161 (by decide) ?_
  refine lv_bipush (v := 8) hx hb dX3_copy_162 (by decide) ?_
  refine ti_copy (c1 := 3) (k1 := 13) (n1 := 8) (c2 := 3) (k2 := 13) (n2 := 8) C hw ml_X3_72 sy_nat sy_sta sy_ini hr (by decide) (fun _ _ => rfl) hq (by decide) (fun _ _ => rfl) hl.1 (by decide) (by decide) (by decide) (by decide) (by decide) (by decide) (Nat.le_of_ble_eq_true rfl) dX3_copy_164 (fun H locs hw => ?_)
  obtain ⟨M_19, hM_19⟩ : ∃ z : ti_M, z = uY M_18 q 13 (va_cpy (tY M_18 r 13) (tY M_18 q 13) (0 : Int32).toNatClampNeg (0 : Int32).toNatClampNeg (8 : Int32).toNatClampNeg) := ⟨_, rfl⟩
  have hw := hw.to hM_19.symm
  have iM_19 : cI Tc M_19 := cI_cp iM_18 hM_19 hq.1 (fun _ => trivial)
  refine lv_aload_n hx hb dX3_copy_167 rfl (lv_at hl 1 rfl) ?_
  refine ti_get (ci := 3) (k := 14) (N := 17) (T := TX3) (v := .ref (A r 15)) C hw iw_3 rfl hr (by decide) (by decide) fl_X3_36 rfl rfl dX3_copy_168 ?_
  refine lv_iconst (v := 0) hx hb dX3_copy_171 (by decide) ?_
  refine lv_aload_n hx hb dX3_copy_172 rfl (lv_at hl 0 rfl) ?_
  refine ti_get (ci := 3) (k := 14) (N := 17) (T := TX3) (v := .ref (A q 15)) C hw iw_3 rfl hq (by decide) (by decide) fl_X3_36 rfl rfl dX3_copy_173 ?_
  refine lv_iconst (v := 0) hx hb dX3_copy_176 (by decide) ?_
  refine lv_bipush (v := 8) hx hb dX3_copy_177 (by decide) ?_
  refine ti_copy (c1 := 3) (k1 := 14) (n1 := 8) (c2 := 3) (k2 := 14) (n2 := 8) C hw ml_X3_72 sy_nat sy_sta sy_ini hr (by decide) (fun _ _ => rfl) hq (by decide) (fun _ _ => rfl) hl.1 (by decide) (by decide) (by decide) (by decide) (by decide) (by decide) (Nat.le_of_ble_eq_true rfl) dX3_copy_179 (fun H locs hw => ?_)
  obtain ⟨M_20, hM_20⟩ : ∃ z : ti_M, z = uY M_19 q 14 (va_cpy (tY M_19 r 14) (tY M_19 q 14) (0 : Int32).toNatClampNeg (0 : Int32).toNatClampNeg (8 : Int32).toNatClampNeg) := ⟨_, rfl⟩
  have hw := hw.to hM_20.symm
  have iM_20 : cI Tc M_20 := cI_cp iM_19 hM_20 hq.1 (fun _ => trivial)
  refine lv_aload_n hx hb dX3_copy_182 rfl (lv_at hl 1 rfl) ?_
  refine ti_get (ci := 3) (k := 15) (N := 17) (T := TX3) (v := .ref (A r 16)) C hw iw_3 rfl hr (by decide) (by decide) fl_X3_39 rfl rfl dX3_copy_183 ?_
  refine lv_iconst (v := 0) hx hb dX3_copy_186 (by decide) ?_
  refine lv_aload_n hx hb dX3_copy_187 rfl (lv_at hl 0 rfl) ?_
  refine ti_get (ci := 3) (k := 15) (N := 17) (T := TX3) (v := .ref (A q 16)) C hw iw_3 rfl hq (by decide) (by decide) fl_X3_39 rfl rfl dX3_copy_188 ?_
  refine lv_iconst (v := 0) hx hb dX3_copy_191 (by decide) ?_
  refine lv_bipush (v := 8) hx hb dX3_copy_192 (by decide) ?_
  refine ti_copy (c1 := 3) (k1 := 15) (n1 := 8) (c2 := 3) (k2 := 15) (n2 := 8) C hw ml_X3_72 sy_nat sy_sta sy_ini hr (by decide) (fun _ _ => rfl) hq (by decide) (fun _ _ => rfl) hl.1 (by decide) (by decide) (by decide) (by decide) (by decide) (by decide) (Nat.le_of_ble_eq_true rfl) dX3_copy_194 (fun H locs hw => ?_)
  obtain ⟨M_21, hM_21⟩ : ∃ z : ti_M, z = uY M_20 q 15 (va_cpy (tY M_20 r 15) (tY M_20 q 15) (0 : Int32).toNatClampNeg (0 : Int32).toNatClampNeg (8 : Int32).toNatClampNeg) := ⟨_, rfl⟩
  have hw := hw.to hM_21.symm
  have iM_21 : cI Tc M_21 := cI_cp iM_20 hM_21 hq.1 (fun _ => trivial)
  refine lv_aload_n hx hb dX3_copy_197 rfl (lv_at hl 1 rfl) ?_
  refine ti_get (ci := 3) (k := 16) (N := 17) (T := TX3) (v := .ref (A r 17)) C hw iw_3 rfl hr (by decide) (by decide) fl_X3_42 rfl rfl dX3_copy_198 ?_
  refine lv_iconst (v := 0) hx hb dX3_copy_201 (by decide) ?_
  refine lv_aload_n hx hb dX3_copy_202 rfl (lv_at hl 0 rfl) ?_
  refine ti_get (ci := 3) (k := 16) (N := 17) (T := TX3) (v := .ref (A q 17)) C hw iw_3 rfl hq (by decide) (by decide) fl_X3_42 rfl rfl dX3_copy_203 ?_
  refine lv_iconst (v := 0) hx hb dX3_copy_206 (by decide) ?_
  refine lv_bipush (v := 8) hx hb dX3_copy_207 (by decide) ?_
  refine ti_copy (c1 := 3) (k1 := 16) (n1 := 8) (c2 := 3) (k2 := 16) (n2 := 8) C hw ml_X3_72 sy_nat sy_sta sy_ini hr (by decide) (fun _ _ => rfl) hq (by decide) (fun _ _ => rfl) hl.1 (by decide) (by decide) (by decide) (by decide) (by decide) (by decide) (Nat.le_of_ble_eq_true rfl) dX3_copy_209 (fun H locs hw => ?_)
  obtain ⟨M_22, hM_22⟩ : ∃ z : ti_M, z = uY M_21 q 16 (va_cpy (tY M_21 r 16) (tY M_21 q 16) (0 : Int32).toNatClampNeg (0 : Int32).toNatClampNeg (8 : Int32).toNatClampNeg) := ⟨_, rfl⟩
  have hw := hw.to hM_22.symm
  have iM_22 : cI Tc M_22 := cI_cp iM_21 hM_22 hq.1 (fun _ => trivial)
  exact hQ _ _ _ _ _ hw (⟨iM_22, ((rf_Y hM_22).trans ((rf_Y hM_21).trans ((rf_Y hM_20).trans ((rf_Y hM_19).trans ((rf_Y hM_18).trans ((rf_Y hM_17).trans ((rf_Y hM_16).trans ((rf_Y hM_15).trans ((rf_Y hM_14).trans ((rf_Y hM_13).trans ((rf_Y hM_12).trans ((rf_I hM_11).trans ((rf_I hM_9).trans ((rf_I hM_7).trans ((rf_I hM_5).trans ((rf_I hM_3).trans (rf_Tc hM_1 rfl))))))))))))))))), (fX.trans (fx_of (ra_Y hM_22)) (fX.trans (fx_of (ra_Y hM_21)) (fX.trans (fx_of (ra_Y hM_20)) (fX.trans (fx_of (ra_Y hM_19)) (fX.trans (fx_of (ra_Y hM_18)) (fX.trans (fx_of (ra_Y hM_17)) (fX.trans (fx_of (ra_Y hM_16)) (fX.trans (fx_of (ra_Y hM_15)) (fX.trans (fx_of (ra_Y hM_14)) (fX.trans (fx_of (ra_Y hM_13)) (fX.trans (fx_of (ra_Y hM_12)) (fX.trans (fx_I hM_11 (fxn hq.1 (by decide))) (fX.trans (fx_I hM_9 (fxn hq.1 (by decide))) (fX.trans (fx_I hM_7 (fxn hq.1 (by decide))) (fX.trans (fx_I hM_5 (fxn hq.1 (by decide))) (fX.trans (fx_I hM_3 (fxn hq.1 (by decide))) (fx_of (ra_T hM_1))))))))))))))))))⟩) dX3_copy_212

variable {Tc : gC} {Tm : gM}
set_option maxHeartbeats 4000000 in
set_option maxRecDepth 100000 in
theorem z_X10_is (l : Launch) (D : va_G) (A : Nat → Nat → Nat) (cy : Nat → ClassId) (hJ : ti_inj ti_LM A) (M : ti_M) (hI : mI Tm M)  (a : Int32) : ti_Kl l yX10_is cX10_is 1 (some .long) 0 ti_LM D A cy M [.int a] (fun r M2 => M2 = M ∧ ((a.toInt = 0 ∧ r.toInt = 0) ∨ (a.toInt ≠ 0 ∧ r.toInt = 1))) := by
  refine ti_eL yp_X10_is hJ ti_LM_nd (Nat.le_of_ble_eq_true rfl) ?_
  intro p e s m args below meth c Q H0 C hQ hw ls hl
  have hx := C.1
  have hb := C.2.1
  have hl : lv_has ls 1 [(0, .int a)] := hl
  refine lv_iload_n hx hb dX10_is_0 rfl (lv_at hl 0 rfl) ?_
  refine sb_if_eq (tgt := 8) hx hb rfl dX10_is_1 (by decide) (fun c_1_0 => ?_) (fun c_1_0 => ?_)
  · refine lv_lconst (v := 0) hx hb dX10_is_8 (by decide) ?_
    exact hQ _ _ _ _ _ _ hw (⟨rfl, Or.inl ⟨by omega, by decide⟩⟩) dX10_is_9
  · refine lv_lconst (v := 1) hx hb dX10_is_4 (by decide) ?_
    refine lv_goto (tgt := 9) hx hb dX10_is_5 (by decide) ?_
    exact hQ _ _ _ _ _ _ hw (⟨rfl, Or.inr ⟨by omega, by decide⟩⟩) dX10_is_9
set_option maxHeartbeats 4000000 in
set_option maxRecDepth 100000 in
theorem z_X10_works (l : Launch) (D : va_G) (A : Nat → Nat → Nat) (cy : Nat → ClassId) (hJ : ti_inj ti_LM A) (M : ti_M) (hI : mI Tm M) (sg d : Int32) (hd : tI M 60 33 = d) (d1 : 1 ≤ d.toInt) (d2 : d.toInt ≤ 64) (hs : sg.toInt = 260 ∨ 2 ≤ d.toInt) (st : Nat → Int) (hz : rz st d.toInt M) : ti_Ki l yX10_works cX10_works 8 (some .boolean) 1 ti_LM D A cy M [.ref (A 60 0), .int sg] (fun r M2 => fI M2 M ∧ tZ M2 60 31 = tZ M 60 31 ∧ ((r.toInt = 1 ∧ sg.toInt = 260 ∧ rz (pp_su st (d.toInt.toNat - 1) (if st (d.toInt.toNat - 1) = 0 then 1 else 0)) d.toInt M2) ∨ (r.toInt = 1 ∧ sg.toInt ≠ 260 ∧ (bl_w (bq_sc sg.toInt) (st (d.toInt.toNat - 2)) (st (d.toInt.toNat - 1)) ≤ 1000000000000 ∧ -1000000000000 ≤ bl_w (bq_sc sg.toInt) (st (d.toInt.toNat - 2)) (st (d.toInt.toNat - 1))) ∧ rz (pp_su st (d.toInt.toNat - 2) (bl_w (bq_sc sg.toInt) (st (d.toInt.toNat - 2)) (st (d.toInt.toNat - 1)))) (d.toInt - 1) M2) ∨ (r.toInt = 0 ∧ sg.toInt ≠ 260 ∧ ¬ (bl_w (bq_sc sg.toInt) (st (d.toInt.toNat - 2)) (st (d.toInt.toNat - 1)) ≤ 1000000000000 ∧ -1000000000000 ≤ bl_w (bq_sc sg.toInt) (st (d.toInt.toNat - 2)) (st (d.toInt.toNat - 1))))) ∧ mI Tm M2 ∧ qw M2 M ∧ M2.2.1 = M.2.1 ∧ 0 ≤ r.toInt ∧ r.toInt ≤ 1 ∧ ((sg.toInt = 260 ∧ (tI M2 60 33).toInt = d.toInt) ∨ (sg.toInt ≠ 260 ∧ (tI M2 60 33).toInt = d.toInt - 1))) := by
  refine ti_eI yp_X10_works hJ ti_LM_nd (Nat.le_of_ble_eq_true rfl) ?_
  intro p e s m args below meth c Q H0 C hQ hw ls hl
  have hx := C.1
  have hb := C.2.1
  have hl : lv_has ls 8 [(0, .ref (A 60 0)), (1, .int sg)] := hl
  refine lv_aload_n hx hb dX10_works_0 rfl (lv_at hl 0 rfl) ?_
  refine ti_get (ci := 10) (k := 32) (N := 67) (T := TX10) (v := .ref (A 60 33)) C hw iw_10 rfl ob_60 (by decide) (by decide) fl_X10_66 rfl rfl dX10_works_1 ?_
  refine lv_aload_n hx hb dX10_works_4 rfl (lv_at hl 0 rfl) ?_
  refine ti_get (ci := 10) (k := 33) (N := 67) (T := TX10) C hw iw_10 rfl ob_60 (by decide) (by decide) fl_X10_320 rfl rfl dX10_works_5 ?_
  refine ti_top (y := d) (hd) ?_
  have u_1 : (tI M 60 33).toInt = (d : Int32).toInt := by rw [(hd)]
  refine lv_iconst (v := 1) hx hb dX10_works_8 (by decide) ?_
  refine lv_isub hx hb dX10_works_9 ?_
  refine lv_topi (fun x_2 ex_2 => ?_)
  have tx_2 : x_2.toInt = d.toInt - 1 := i_sub ex_2 rfl (by decide : (1 : Int32).toInt = 1) (by omega) (by omega)
  refine ti_lald (ci := 10) (k := 32) (n := 64) C hw ob_60 (by decide) (fun _ _ => rfl) (vp_in_iff.mpr (by omega)) dX10_works_10 ?_
  refine lv_topl (fun x_3 ex_3 => ?_)
  have lzx_3 := rz_1 hz ex_3 (by omega) (by omega)
  have lax_3 := lzx_3.1
  have lbx_3 := lzx_3.2.1
  have lcx_3 := lzx_3.2.2
  have sy1 : st (d.toInt.toNat - 1) = x_3.toInt := by rw [lax_3]; exact congrArg _ (by omega)
  refine lv_lstore_n (lv' := [(2, .long x_3), (0, .ref (A 60 0)), (1, .int sg)]) hx hb dX10_works_11 rfl hl (by decide) rfl (fun ls hl => ?_)
  refine lv_iload_n hx hb dX10_works_12 rfl (lv_at hl 2 rfl) ?_
  refine lv_sipush (v := 260) hx hb dX10_works_13 (by decide) ?_
  refine sb_icmp_ne (tgt := 46) hx hb rfl (by decide : (260 : Int32).toInt = 260) dX10_works_16 (by decide) (fun c_16_3 => ?_) (fun c_16_3 => ?_)
  · refine lv_aload_n hx hb dX10_works_46 rfl (lv_at hl 1 rfl) ?_
    refine ti_get (ci := 10) (k := 32) (N := 67) (T := TX10) (v := .ref (A 60 33)) C hw iw_10 rfl ob_60 (by decide) (by decide) fl_X10_66 rfl rfl dX10_works_47 ?_
    refine lv_aload_n hx hb dX10_works_50 rfl (lv_at hl 1 rfl) ?_
    refine ti_get (ci := 10) (k := 33) (N := 67) (T := TX10) C hw iw_10 rfl ob_60 (by decide) (by decide) fl_X10_320 rfl rfl dX10_works_51 ?_
    refine ti_top (y := d) (hd) ?_
    have u_16 : (tI M 60 33).toInt = (d : Int32).toInt := by rw [(hd)]
    refine lv_iconst (v := 2) hx hb dX10_works_54 (by decide) ?_
    refine lv_isub hx hb dX10_works_55 ?_
    refine lv_topi (fun x_17 ex_17 => ?_)
    have tx_17 : x_17.toInt = d.toInt - 2 := i_sub ex_17 rfl (by decide : (2 : Int32).toInt = 2) (by omega) (by omega)
    refine ti_lald (ci := 10) (k := 32) (n := 64) C hw ob_60 (by decide) (fun _ _ => rfl) (vp_in_iff.mpr (by omega)) dX10_works_56 ?_
    refine lv_topl (fun x_18 ex_18 => ?_)
    have lzx_18 := rz_1 hz ex_18 (by omega) (by omega)
    have lax_18 := lzx_18.1
    have lbx_18 := lzx_18.2.1
    have lcx_18 := lzx_18.2.2
    have sy2 : st (d.toInt.toNat - 2) = x_18.toInt := by rw [lax_18]; exact congrArg _ (by omega)
    refine lv_lstore (lv' := [(4, .long x_18), (2, .long x_3), (0, .ref (A 60 0)), (1, .int sg)]) hx hb dX10_works_57 hl (by decide) rfl (fun ls hl => ?_)
    refine lv_aload_n hx hb dX10_works_59 rfl (lv_at hl 2 rfl) ?_
    refine lv_dup hx hb dX10_works_60 rfl ?_
    refine ti_get (ci := 10) (k := 33) (N := 67) (T := TX10) C hw iw_10 rfl ob_60 (by decide) (by decide) fl_X10_320 rfl rfl dX10_works_61 ?_
    refine ti_top (y := d) (hd) ?_
    have u_19 : (tI M 60 33).toInt = (d : Int32).toInt := by rw [(hd)]
    refine lv_iconst (v := 1) hx hb dX10_works_64 (by decide) ?_
    refine lv_isub hx hb dX10_works_65 ?_
    refine lv_topi (fun x_20 ex_20 => ?_)
    have tx_20 : x_20.toInt = d.toInt - 1 := i_sub ex_20 rfl (by decide : (1 : Int32).toInt = 1) (by omega) (by omega)
    refine ti_putI (ci := 10) (k := 33) (N := 67) (T := TX10) C hw iw_10 tyX10 tyX10_ok nmX10 rfl ob_60 (by decide) (by decide) fl_X10_320 rfl rfl rfl rfl (fn_10 A _) fs_10_33 dX10_works_66 (fun H locs hw => ?_)
    obtain ⟨M_21, hM_21⟩ : ∃ z : ti_M, z = uI M 60 33 x_20 := ⟨_, rfl⟩
    have hw := hw.to hM_21.symm
    have iM_21 : mI Tm M_21 := mI_uI hI hM_21 (by decide) (by decide) (ib_mk (lo := 0) (hi := 64) (by omega) (by omega))
    have vM_21 : (tI M_21 60 33).toInt = (x_20 : Int32).toInt := by rw [tI_uE hM_21]
    have hz_22 : rz st (d.toInt) M_21 := rz_I hz hM_21
    refine lv_iload_n hx hb dX10_works_69 rfl (lv_at hl 3 rfl) ?_
    by_cases s_23_42 : sg = 42
    · have qs_23_42 : sg.toInt = 42 := by rw [s_23_42]; decide
      refine lv_lookup (tgt := 186) hx hb dX10_works_70 (by decide) (off := 116) (by rw [s_23_42]; decide) (by decide) ?_
      refine lv_lload hx hb dX10_works_186 (lv_at hl 0 rfl) ?_
      refine lv_lconst (v := 0) hx hb dX10_works_188 (by decide) ?_
      have z_26 : (0 : Int64).toInt = 0 := by decide
      refine W.lcmp hx hb dX10_works_189 ?_
      refine lv_topi (fun x_27 ex_27 => ?_)
      have cx_27 := lg_c ex_27
      refine sb_if_eq (tgt := 212) hx hb rfl dX10_works_190 (by decide) (fun c_190_27 => ?_) (fun c_190_27 => ?_)
      · have mq0 : x_18.toInt * x_3.toInt = 0 := by rw [show x_18.toInt = 0 by omega, Int.zero_mul]
        refine lv_lload hx hb dX10_works_212 (lv_at hl 0 rfl) ?_
        refine lv_lload_n hx hb dX10_works_214 rfl (lv_at hl 1 rfl) ?_
        refine lv_lmul hx hb dX10_works_215 ?_
        refine lv_topl (fun x_35 ex_35 => ?_)
        have tx_35 : x_35.toInt = x_18.toInt * x_3.toInt := l_mul ex_35 rfl rfl (by omega) (by omega)
        refine lv_lstore (lv' := [(6, .long x_35), (4, .long x_18), (2, .long x_3), (0, .ref (A 60 0)), (1, .int sg)]) hx hb dX10_works_216 hl (by decide) rfl (fun ls hl => ?_)
        refine lv_goto (tgt := 407) hx hb dX10_works_218 (by decide) ?_
        refine lv_aload_n hx hb dX10_works_407 rfl (lv_at hl 3 rfl) ?_
        refine ti_get (ci := 10) (k := 32) (N := 67) (T := TX10) (v := .ref (A 60 33)) C hw iw_10 rfl ob_60 (by decide) (by decide) fl_X10_66 rfl rfl dX10_works_408 ?_
        refine lv_aload_n hx hb dX10_works_411 rfl (lv_at hl 3 rfl) ?_
        refine ti_get (ci := 10) (k := 33) (N := 67) (T := TX10) C hw iw_10 rfl ob_60 (by decide) (by decide) fl_X10_320 rfl rfl dX10_works_412 ?_
        refine ti_top (y := x_20) (tI_uE hM_21) ?_
        have u_113 : (tI M_21 60 33).toInt = (x_20 : Int32).toInt := by rw [(tI_uE hM_21)]
        refine lv_iconst (v := 1) hx hb dX10_works_415 (by decide) ?_
        refine lv_isub hx hb dX10_works_416 ?_
        refine lv_topi (fun x_114 ex_114 => ?_)
        have tx_114 : x_114.toInt = x_20.toInt - 1 := i_sub ex_114 rfl (by decide : (1 : Int32).toInt = 1) (by omega) (by omega)
        refine lv_lload hx hb dX10_works_417 (lv_at hl 0 rfl) ?_
        refine ti_last (ci := 10) (k := 32) (n := 64) C hw ob_60 (by decide) (fun _ _ => rfl) (vp_in_iff.mpr (by omega)) dX10_works_419 (fun H locs hw => ?_)
        obtain ⟨M_115, hM_115⟩ : ∃ z : ti_M, z = uZ M_21 60 32 (vp_updL (tZ M_21 60 32) (x_114 : Int32).toNatClampNeg x_35) := ⟨_, rfl⟩
        have hw := hw.to hM_115.symm
        have iM_115 : mI Tm M_115 := mI_uZ iM_21 hM_115
        refine lv_lload hx hb dX10_works_420 (lv_at hl 0 rfl) ?_
        refine lv_ldc2 (v := 1000000000000) hx hb C.2.2.2.1 (C.2.2.1 _ cn_X10_333) dX10_works_422 ?_
        have z_116 : (1000000000000 : Int64).toInt = 1000000000000 := by decide
        refine W.lcmp hx hb dX10_works_425 ?_
        refine lv_topi (fun x_117 ex_117 => ?_)
        have cx_117 := lg_c ex_117
        refine sb_if_gt (tgt := 442) hx hb rfl dX10_works_426 (by decide) (fun c_426_117 => ?_) (fun c_426_117 => ?_)
        · refine lv_iconst (v := 0) hx hb dX10_works_442 (by decide) ?_
          exact hQ _ _ _ _ _ _ hw rfl (by exfalso; omega) dX10_works_443
        · refine lv_lload hx hb dX10_works_429 (lv_at hl 0 rfl) ?_
          refine lv_ldc2 (v := (-1000000000000)) hx hb C.2.2.2.1 (C.2.2.1 _ cn_X10_335) dX10_works_431 ?_
          have z_245 : ((-1000000000000) : Int64).toInt = -1000000000000 := by decide
          refine W.lcmp hx hb dX10_works_434 ?_
          refine lv_topi (fun x_246 ex_246 => ?_)
          have cx_246 := lg_c ex_246
          refine sb_if_lt (tgt := 442) hx hb rfl dX10_works_435 (by decide) (fun c_435_246 => ?_) (fun c_435_246 => ?_)
          · refine lv_iconst (v := 0) hx hb dX10_works_442 (by decide) ?_
            exact hQ _ _ _ _ _ _ hw rfl (by exfalso; omega) dX10_works_443
          · refine lv_iconst (v := 1) hx hb dX10_works_438 (by decide) ?_
            refine lv_goto (tgt := 443) hx hb dX10_works_439 (by decide) ?_
            have hsc : bq_sc sg.toInt = 40 := by unfold bq_sc; (repeat (first | rw [if_pos (by omega)] | rw [if_neg (by omega)]))
            have er : bl_ER = -9223372036854775808 := rfl
            have hbw : bl_w (bq_sc sg.toInt) (st (d.toInt.toNat - 2)) (st (d.toInt.toNat - 1)) = x_35.toInt := by rw [hsc, sy1, sy2]; unfold bl_w; (repeat (first | rw [if_pos (by omega)] | rw [if_neg (by omega)])); (try unfold bl_if); (repeat (first | rw [if_pos (by omega)] | rw [if_neg (by omega)])); first | omega | (rw [tx_35])
            have hzN : rz (pp_su st (d.toInt.toNat - 2) (bl_w (bq_sc sg.toInt) (st (d.toInt.toNat - 2)) (st (d.toInt.toNat - 1)))) (d.toInt - 1) M_115 := by
              have q := rz_up (t2 := d.toInt - 1) hz_22 hM_115 rfl (by omega) (z := bl_w (bq_sc sg.toInt) (st (d.toInt.toNat - 2)) (st (d.toInt.toNat - 1))) hbw.symm (by rw [hbw]; omega) (fun j hj => by omega)
              rw [show x_114.toInt.toNat = d.toInt.toNat - 2 by omega] at q; exact q
            exact hQ _ _ _ _ _ _ hw rfl (⟨(fI.trans (fI_Z hM_115) (fI_I hM_21)), (((tZ_nE hM_115 (nk (by decide))).trans (tZ_uIE hM_21))), Or.inr (Or.inl ⟨by decide, by omega, by rw [hbw]; omega, hzN⟩), iM_115, (qw.trans (qw_Z hM_115) (qw_I hM_21 (by decide))), ((ry_Z hM_115).trans (ry_I hM_21)), (by first | omega | decide), (by first | omega | decide), by rw [((tI_uZE hM_115).trans (tI_uE hM_21))]; omega⟩) dX10_works_443
      · refine lv_lload_n hx hb dX10_works_193 rfl (lv_at hl 1 rfl) ?_
        refine ti_absl C ml_X10_327 hl.1 (by decide) (Nat.le_of_ble_eq_true rfl) ⟨Nat.zero_le _, Nat.zero_le _⟩ dX10_works_194 ?_
        refine lv_topl (fun x_29 ex_29 => ?_)
        have tax_29 := l_abs ex_29 (by omega) (by omega)
        refine lv_ldc2 (v := 1000000000000) hx hb C.2.2.2.1 (C.2.2.1 _ cn_X10_333) dX10_works_197 ?_
        have z_30 : (1000000000000 : Int64).toInt = 1000000000000 := by decide
        refine lv_lload hx hb dX10_works_200 (lv_at hl 0 rfl) ?_
        refine ti_absl C ml_X10_327 hl.1 (by decide) (Nat.le_of_ble_eq_true rfl) ⟨Nat.zero_le _, Nat.zero_le _⟩ dX10_works_202 ?_
        refine lv_topl (fun x_31 ex_31 => ?_)
        have tax_31 := l_abs ex_31 (by omega) (by omega)
        refine lv_ldiv hx hb dX10_works_205 (ab0 ex_31 (lc0 ex_27 c_190_27)) ?_
        refine lv_topl (fun x_32 ex_32 => ?_)
        have tx_32 : x_32.toInt = Int.tdiv ((1000000000000 : Int64).toInt) x_31.toInt := l_div ex_32 rfl rfl (by omega) (by omega)
        have md : x_32.toInt = Int.tdiv 1000000000000 x_31.toInt := by rw [tx_32, show (1000000000000 : Int64).toInt = 1000000000000 by decide]
        have mb := bl_dv (by omega) md
        have mq := bl_mr (a := x_18.toInt) (b := x_3.toInt) (n := x_31.toInt) (m := x_32.toInt) (w := x_29.toInt) (by omega) md (by omega)
        refine W.lcmp hx hb dX10_works_206 ?_
        refine lv_topi (fun x_33 ex_33 => ?_)
        have cx_33 := lg_c ex_33
        refine sb_if_le (tgt := 212) hx hb rfl dX10_works_207 (by decide) (fun c_207_33 => ?_) (fun c_207_33 => ?_)
        · refine lv_lload hx hb dX10_works_212 (lv_at hl 0 rfl) ?_
          refine lv_lload_n hx hb dX10_works_214 rfl (lv_at hl 1 rfl) ?_
          refine lv_lmul hx hb dX10_works_215 ?_
          refine lv_topl (fun x_36 ex_36 => ?_)
          have tx_36 : x_36.toInt = x_18.toInt * x_3.toInt := l_mul ex_36 rfl rfl (by omega) (by omega)
          refine lv_lstore (lv' := [(6, .long x_36), (4, .long x_18), (2, .long x_3), (0, .ref (A 60 0)), (1, .int sg)]) hx hb dX10_works_216 hl (by decide) rfl (fun ls hl => ?_)
          refine lv_goto (tgt := 407) hx hb dX10_works_218 (by decide) ?_
          refine lv_aload_n hx hb dX10_works_407 rfl (lv_at hl 3 rfl) ?_
          refine ti_get (ci := 10) (k := 32) (N := 67) (T := TX10) (v := .ref (A 60 33)) C hw iw_10 rfl ob_60 (by decide) (by decide) fl_X10_66 rfl rfl dX10_works_408 ?_
          refine lv_aload_n hx hb dX10_works_411 rfl (lv_at hl 3 rfl) ?_
          refine ti_get (ci := 10) (k := 33) (N := 67) (T := TX10) C hw iw_10 rfl ob_60 (by decide) (by decide) fl_X10_320 rfl rfl dX10_works_412 ?_
          refine ti_top (y := x_20) (tI_uE hM_21) ?_
          have u_119 : (tI M_21 60 33).toInt = (x_20 : Int32).toInt := by rw [(tI_uE hM_21)]
          refine lv_iconst (v := 1) hx hb dX10_works_415 (by decide) ?_
          refine lv_isub hx hb dX10_works_416 ?_
          refine lv_topi (fun x_120 ex_120 => ?_)
          have tx_120 : x_120.toInt = x_20.toInt - 1 := i_sub ex_120 rfl (by decide : (1 : Int32).toInt = 1) (by omega) (by omega)
          refine lv_lload hx hb dX10_works_417 (lv_at hl 0 rfl) ?_
          refine ti_last (ci := 10) (k := 32) (n := 64) C hw ob_60 (by decide) (fun _ _ => rfl) (vp_in_iff.mpr (by omega)) dX10_works_419 (fun H locs hw => ?_)
          obtain ⟨M_121, hM_121⟩ : ∃ z : ti_M, z = uZ M_21 60 32 (vp_updL (tZ M_21 60 32) (x_120 : Int32).toNatClampNeg x_36) := ⟨_, rfl⟩
          have hw := hw.to hM_121.symm
          have iM_121 : mI Tm M_121 := mI_uZ iM_21 hM_121
          refine lv_lload hx hb dX10_works_420 (lv_at hl 0 rfl) ?_
          refine lv_ldc2 (v := 1000000000000) hx hb C.2.2.2.1 (C.2.2.1 _ cn_X10_333) dX10_works_422 ?_
          have z_122 : (1000000000000 : Int64).toInt = 1000000000000 := by decide
          refine W.lcmp hx hb dX10_works_425 ?_
          refine lv_topi (fun x_123 ex_123 => ?_)
          have cx_123 := lg_c ex_123
          refine sb_if_gt (tgt := 442) hx hb rfl dX10_works_426 (by decide) (fun c_426_123 => ?_) (fun c_426_123 => ?_)
          · refine lv_iconst (v := 0) hx hb dX10_works_442 (by decide) ?_
            exact hQ _ _ _ _ _ _ hw rfl (by exfalso; omega) dX10_works_443
          · refine lv_lload hx hb dX10_works_429 (lv_at hl 0 rfl) ?_
            refine lv_ldc2 (v := (-1000000000000)) hx hb C.2.2.2.1 (C.2.2.1 _ cn_X10_335) dX10_works_431 ?_
            have z_248 : ((-1000000000000) : Int64).toInt = -1000000000000 := by decide
            refine W.lcmp hx hb dX10_works_434 ?_
            refine lv_topi (fun x_249 ex_249 => ?_)
            have cx_249 := lg_c ex_249
            refine sb_if_lt (tgt := 442) hx hb rfl dX10_works_435 (by decide) (fun c_435_249 => ?_) (fun c_435_249 => ?_)
            · refine lv_iconst (v := 0) hx hb dX10_works_442 (by decide) ?_
              exact hQ _ _ _ _ _ _ hw rfl (by exfalso; omega) dX10_works_443
            · refine lv_iconst (v := 1) hx hb dX10_works_438 (by decide) ?_
              refine lv_goto (tgt := 443) hx hb dX10_works_439 (by decide) ?_
              have hsc : bq_sc sg.toInt = 40 := by unfold bq_sc; (repeat (first | rw [if_pos (by omega)] | rw [if_neg (by omega)]))
              have er : bl_ER = -9223372036854775808 := rfl
              have hbw : bl_w (bq_sc sg.toInt) (st (d.toInt.toNat - 2)) (st (d.toInt.toNat - 1)) = x_36.toInt := by rw [hsc, sy1, sy2]; unfold bl_w; (repeat (first | rw [if_pos (by omega)] | rw [if_neg (by omega)])); (try unfold bl_if); (repeat (first | rw [if_pos (by omega)] | rw [if_neg (by omega)])); first | omega | (rw [tx_36])
              have hzN : rz (pp_su st (d.toInt.toNat - 2) (bl_w (bq_sc sg.toInt) (st (d.toInt.toNat - 2)) (st (d.toInt.toNat - 1)))) (d.toInt - 1) M_121 := by
                have q := rz_up (t2 := d.toInt - 1) hz_22 hM_121 rfl (by omega) (z := bl_w (bq_sc sg.toInt) (st (d.toInt.toNat - 2)) (st (d.toInt.toNat - 1))) hbw.symm (by rw [hbw]; omega) (fun j hj => by omega)
                rw [show x_120.toInt.toNat = d.toInt.toNat - 2 by omega] at q; exact q
              exact hQ _ _ _ _ _ _ hw rfl (⟨(fI.trans (fI_Z hM_121) (fI_I hM_21)), (((tZ_nE hM_121 (nk (by decide))).trans (tZ_uIE hM_21))), Or.inr (Or.inl ⟨by decide, by omega, by rw [hbw]; omega, hzN⟩), iM_121, (qw.trans (qw_Z hM_121) (qw_I hM_21 (by decide))), ((ry_Z hM_121).trans (ry_I hM_21)), (by first | omega | decide), (by first | omega | decide), by rw [((tI_uZE hM_121).trans (tI_uE hM_21))]; omega⟩) dX10_works_443
        · refine lv_iconst (v := 0) hx hb dX10_works_210 (by decide) ?_
          have hsc : bq_sc sg.toInt = 40 := by unfold bq_sc; (repeat (first | rw [if_pos (by omega)] | rw [if_neg (by omega)]))
          have er : bl_ER = -9223372036854775808 := rfl
          have hbw : bl_w (bq_sc sg.toInt) (st (d.toInt.toNat - 2)) (st (d.toInt.toNat - 1)) = bl_ER := by rw [hsc, sy1, sy2]; unfold bl_w; (repeat (first | rw [if_pos (by omega)] | rw [if_neg (by omega)]))
          exact hQ _ _ _ _ _ _ hw rfl (⟨(fI_I hM_21), ((tZ_uIE hM_21)), Or.inr (Or.inr ⟨by decide, by omega, by rw [hbw]; decide⟩), iM_21, (qw_I hM_21 (by decide)), (ry_I hM_21), (by first | omega | decide), (by first | omega | decide), by rw [(tI_uE hM_21)]; omega⟩) dX10_works_211
    · have qs_23_42 : sg.toInt ≠ 42 := pt_ne s_23_42 (by decide)
      by_cases s_23_43 : sg = 43
      · have qs_23_43 : sg.toInt = 43 := by rw [s_23_43]; decide
        refine lv_lookup (tgt := 168) hx hb dX10_works_70 (by decide) (off := 98) (by rw [s_23_43]; decide) (by decide) ?_
        refine lv_lload hx hb dX10_works_168 (lv_at hl 0 rfl) ?_
        refine lv_lload_n hx hb dX10_works_170 rfl (lv_at hl 1 rfl) ?_
        refine lv_ladd hx hb dX10_works_171 ?_
        refine lv_topl (fun x_24 ex_24 => ?_)
        have tx_24 : x_24.toInt = x_18.toInt + x_3.toInt := l_add ex_24 rfl rfl (by omega) (by omega)
        refine lv_lstore (lv' := [(6, .long x_24), (4, .long x_18), (2, .long x_3), (0, .ref (A 60 0)), (1, .int sg)]) hx hb dX10_works_172 hl (by decide) rfl (fun ls hl => ?_)
        refine lv_goto (tgt := 407) hx hb dX10_works_174 (by decide) ?_
        refine lv_aload_n hx hb dX10_works_407 rfl (lv_at hl 3 rfl) ?_
        refine ti_get (ci := 10) (k := 32) (N := 67) (T := TX10) (v := .ref (A 60 33)) C hw iw_10 rfl ob_60 (by decide) (by decide) fl_X10_66 rfl rfl dX10_works_408 ?_
        refine lv_aload_n hx hb dX10_works_411 rfl (lv_at hl 3 rfl) ?_
        refine ti_get (ci := 10) (k := 33) (N := 67) (T := TX10) C hw iw_10 rfl ob_60 (by decide) (by decide) fl_X10_320 rfl rfl dX10_works_412 ?_
        refine ti_top (y := x_20) (tI_uE hM_21) ?_
        have u_101 : (tI M_21 60 33).toInt = (x_20 : Int32).toInt := by rw [(tI_uE hM_21)]
        refine lv_iconst (v := 1) hx hb dX10_works_415 (by decide) ?_
        refine lv_isub hx hb dX10_works_416 ?_
        refine lv_topi (fun x_102 ex_102 => ?_)
        have tx_102 : x_102.toInt = x_20.toInt - 1 := i_sub ex_102 rfl (by decide : (1 : Int32).toInt = 1) (by omega) (by omega)
        refine lv_lload hx hb dX10_works_417 (lv_at hl 0 rfl) ?_
        refine ti_last (ci := 10) (k := 32) (n := 64) C hw ob_60 (by decide) (fun _ _ => rfl) (vp_in_iff.mpr (by omega)) dX10_works_419 (fun H locs hw => ?_)
        obtain ⟨M_103, hM_103⟩ : ∃ z : ti_M, z = uZ M_21 60 32 (vp_updL (tZ M_21 60 32) (x_102 : Int32).toNatClampNeg x_24) := ⟨_, rfl⟩
        have hw := hw.to hM_103.symm
        have iM_103 : mI Tm M_103 := mI_uZ iM_21 hM_103
        refine lv_lload hx hb dX10_works_420 (lv_at hl 0 rfl) ?_
        refine lv_ldc2 (v := 1000000000000) hx hb C.2.2.2.1 (C.2.2.1 _ cn_X10_333) dX10_works_422 ?_
        have z_104 : (1000000000000 : Int64).toInt = 1000000000000 := by decide
        refine W.lcmp hx hb dX10_works_425 ?_
        refine lv_topi (fun x_105 ex_105 => ?_)
        have cx_105 := lg_c ex_105
        refine sb_if_gt (tgt := 442) hx hb rfl dX10_works_426 (by decide) (fun c_426_105 => ?_) (fun c_426_105 => ?_)
        · refine lv_iconst (v := 0) hx hb dX10_works_442 (by decide) ?_
          have hsc : bq_sc sg.toInt = 38 := by unfold bq_sc; (repeat (first | rw [if_pos (by omega)] | rw [if_neg (by omega)]))
          have er : bl_ER = -9223372036854775808 := rfl
          have hbw : bl_w (bq_sc sg.toInt) (st (d.toInt.toNat - 2)) (st (d.toInt.toNat - 1)) = x_24.toInt := by rw [hsc, sy1, sy2]; unfold bl_w; (repeat (first | rw [if_pos (by omega)] | rw [if_neg (by omega)])); (try unfold bl_if); (repeat (first | rw [if_pos (by omega)] | rw [if_neg (by omega)])); first | omega | (rw [tx_24])
          exact hQ _ _ _ _ _ _ hw rfl (⟨(fI.trans (fI_Z hM_103) (fI_I hM_21)), (((tZ_nE hM_103 (nk (by decide))).trans (tZ_uIE hM_21))), Or.inr (Or.inr ⟨by decide, by omega, by rw [hbw]; omega⟩), iM_103, (qw.trans (qw_Z hM_103) (qw_I hM_21 (by decide))), ((ry_Z hM_103).trans (ry_I hM_21)), (by first | omega | decide), (by first | omega | decide), by rw [((tI_uZE hM_103).trans (tI_uE hM_21))]; omega⟩) dX10_works_443
        · refine lv_lload hx hb dX10_works_429 (lv_at hl 0 rfl) ?_
          refine lv_ldc2 (v := (-1000000000000)) hx hb C.2.2.2.1 (C.2.2.1 _ cn_X10_335) dX10_works_431 ?_
          have z_239 : ((-1000000000000) : Int64).toInt = -1000000000000 := by decide
          refine W.lcmp hx hb dX10_works_434 ?_
          refine lv_topi (fun x_240 ex_240 => ?_)
          have cx_240 := lg_c ex_240
          refine sb_if_lt (tgt := 442) hx hb rfl dX10_works_435 (by decide) (fun c_435_240 => ?_) (fun c_435_240 => ?_)
          · refine lv_iconst (v := 0) hx hb dX10_works_442 (by decide) ?_
            have hsc : bq_sc sg.toInt = 38 := by unfold bq_sc; (repeat (first | rw [if_pos (by omega)] | rw [if_neg (by omega)]))
            have er : bl_ER = -9223372036854775808 := rfl
            have hbw : bl_w (bq_sc sg.toInt) (st (d.toInt.toNat - 2)) (st (d.toInt.toNat - 1)) = x_24.toInt := by rw [hsc, sy1, sy2]; unfold bl_w; (repeat (first | rw [if_pos (by omega)] | rw [if_neg (by omega)])); (try unfold bl_if); (repeat (first | rw [if_pos (by omega)] | rw [if_neg (by omega)])); first | omega | (rw [tx_24])
            exact hQ _ _ _ _ _ _ hw rfl (⟨(fI.trans (fI_Z hM_103) (fI_I hM_21)), (((tZ_nE hM_103 (nk (by decide))).trans (tZ_uIE hM_21))), Or.inr (Or.inr ⟨by decide, by omega, by rw [hbw]; omega⟩), iM_103, (qw.trans (qw_Z hM_103) (qw_I hM_21 (by decide))), ((ry_Z hM_103).trans (ry_I hM_21)), (by first | omega | decide), (by first | omega | decide), by rw [((tI_uZE hM_103).trans (tI_uE hM_21))]; omega⟩) dX10_works_443
          · refine lv_iconst (v := 1) hx hb dX10_works_438 (by decide) ?_
            refine lv_goto (tgt := 443) hx hb dX10_works_439 (by decide) ?_
            have hsc : bq_sc sg.toInt = 38 := by unfold bq_sc; (repeat (first | rw [if_pos (by omega)] | rw [if_neg (by omega)]))
            have er : bl_ER = -9223372036854775808 := rfl
            have hbw : bl_w (bq_sc sg.toInt) (st (d.toInt.toNat - 2)) (st (d.toInt.toNat - 1)) = x_24.toInt := by rw [hsc, sy1, sy2]; unfold bl_w; (repeat (first | rw [if_pos (by omega)] | rw [if_neg (by omega)])); (try unfold bl_if); (repeat (first | rw [if_pos (by omega)] | rw [if_neg (by omega)])); first | omega | (rw [tx_24])
            have hzN : rz (pp_su st (d.toInt.toNat - 2) (bl_w (bq_sc sg.toInt) (st (d.toInt.toNat - 2)) (st (d.toInt.toNat - 1)))) (d.toInt - 1) M_103 := by
              have q := rz_up (t2 := d.toInt - 1) hz_22 hM_103 rfl (by omega) (z := bl_w (bq_sc sg.toInt) (st (d.toInt.toNat - 2)) (st (d.toInt.toNat - 1))) hbw.symm (by rw [hbw]; omega) (fun j hj => by omega)
              rw [show x_102.toInt.toNat = d.toInt.toNat - 2 by omega] at q; exact q
            exact hQ _ _ _ _ _ _ hw rfl (⟨(fI.trans (fI_Z hM_103) (fI_I hM_21)), (((tZ_nE hM_103 (nk (by decide))).trans (tZ_uIE hM_21))), Or.inr (Or.inl ⟨by decide, by omega, by rw [hbw]; omega, hzN⟩), iM_103, (qw.trans (qw_Z hM_103) (qw_I hM_21 (by decide))), ((ry_Z hM_103).trans (ry_I hM_21)), (by first | omega | decide), (by first | omega | decide), by rw [((tI_uZE hM_103).trans (tI_uE hM_21))]; omega⟩) dX10_works_443
      · have qs_23_43 : sg.toInt ≠ 43 := pt_ne s_23_43 (by decide)
        by_cases s_23_45 : sg = 45
        · have qs_23_45 : sg.toInt = 45 := by rw [s_23_45]; decide
          refine lv_lookup (tgt := 177) hx hb dX10_works_70 (by decide) (off := 107) (by rw [s_23_45]; decide) (by decide) ?_
          refine lv_lload hx hb dX10_works_177 (lv_at hl 0 rfl) ?_
          refine lv_lload_n hx hb dX10_works_179 rfl (lv_at hl 1 rfl) ?_
          refine lv_lsub hx hb dX10_works_180 ?_
          refine lv_topl (fun x_25 ex_25 => ?_)
          have tx_25 : x_25.toInt = x_18.toInt - x_3.toInt := l_sub ex_25 rfl rfl (by omega) (by omega)
          refine lv_lstore (lv' := [(6, .long x_25), (4, .long x_18), (2, .long x_3), (0, .ref (A 60 0)), (1, .int sg)]) hx hb dX10_works_181 hl (by decide) rfl (fun ls hl => ?_)
          refine lv_goto (tgt := 407) hx hb dX10_works_183 (by decide) ?_
          refine lv_aload_n hx hb dX10_works_407 rfl (lv_at hl 3 rfl) ?_
          refine ti_get (ci := 10) (k := 32) (N := 67) (T := TX10) (v := .ref (A 60 33)) C hw iw_10 rfl ob_60 (by decide) (by decide) fl_X10_66 rfl rfl dX10_works_408 ?_
          refine lv_aload_n hx hb dX10_works_411 rfl (lv_at hl 3 rfl) ?_
          refine ti_get (ci := 10) (k := 33) (N := 67) (T := TX10) C hw iw_10 rfl ob_60 (by decide) (by decide) fl_X10_320 rfl rfl dX10_works_412 ?_
          refine ti_top (y := x_20) (tI_uE hM_21) ?_
          have u_107 : (tI M_21 60 33).toInt = (x_20 : Int32).toInt := by rw [(tI_uE hM_21)]
          refine lv_iconst (v := 1) hx hb dX10_works_415 (by decide) ?_
          refine lv_isub hx hb dX10_works_416 ?_
          refine lv_topi (fun x_108 ex_108 => ?_)
          have tx_108 : x_108.toInt = x_20.toInt - 1 := i_sub ex_108 rfl (by decide : (1 : Int32).toInt = 1) (by omega) (by omega)
          refine lv_lload hx hb dX10_works_417 (lv_at hl 0 rfl) ?_
          refine ti_last (ci := 10) (k := 32) (n := 64) C hw ob_60 (by decide) (fun _ _ => rfl) (vp_in_iff.mpr (by omega)) dX10_works_419 (fun H locs hw => ?_)
          obtain ⟨M_109, hM_109⟩ : ∃ z : ti_M, z = uZ M_21 60 32 (vp_updL (tZ M_21 60 32) (x_108 : Int32).toNatClampNeg x_25) := ⟨_, rfl⟩
          have hw := hw.to hM_109.symm
          have iM_109 : mI Tm M_109 := mI_uZ iM_21 hM_109
          refine lv_lload hx hb dX10_works_420 (lv_at hl 0 rfl) ?_
          refine lv_ldc2 (v := 1000000000000) hx hb C.2.2.2.1 (C.2.2.1 _ cn_X10_333) dX10_works_422 ?_
          have z_110 : (1000000000000 : Int64).toInt = 1000000000000 := by decide
          refine W.lcmp hx hb dX10_works_425 ?_
          refine lv_topi (fun x_111 ex_111 => ?_)
          have cx_111 := lg_c ex_111
          refine sb_if_gt (tgt := 442) hx hb rfl dX10_works_426 (by decide) (fun c_426_111 => ?_) (fun c_426_111 => ?_)
          · refine lv_iconst (v := 0) hx hb dX10_works_442 (by decide) ?_
            have hsc : bq_sc sg.toInt = 39 := by unfold bq_sc; (repeat (first | rw [if_pos (by omega)] | rw [if_neg (by omega)]))
            have er : bl_ER = -9223372036854775808 := rfl
            have hbw : bl_w (bq_sc sg.toInt) (st (d.toInt.toNat - 2)) (st (d.toInt.toNat - 1)) = x_25.toInt := by rw [hsc, sy1, sy2]; unfold bl_w; (repeat (first | rw [if_pos (by omega)] | rw [if_neg (by omega)])); (try unfold bl_if); (repeat (first | rw [if_pos (by omega)] | rw [if_neg (by omega)])); first | omega | (rw [tx_25])
            exact hQ _ _ _ _ _ _ hw rfl (⟨(fI.trans (fI_Z hM_109) (fI_I hM_21)), (((tZ_nE hM_109 (nk (by decide))).trans (tZ_uIE hM_21))), Or.inr (Or.inr ⟨by decide, by omega, by rw [hbw]; omega⟩), iM_109, (qw.trans (qw_Z hM_109) (qw_I hM_21 (by decide))), ((ry_Z hM_109).trans (ry_I hM_21)), (by first | omega | decide), (by first | omega | decide), by rw [((tI_uZE hM_109).trans (tI_uE hM_21))]; omega⟩) dX10_works_443
          · refine lv_lload hx hb dX10_works_429 (lv_at hl 0 rfl) ?_
            refine lv_ldc2 (v := (-1000000000000)) hx hb C.2.2.2.1 (C.2.2.1 _ cn_X10_335) dX10_works_431 ?_
            have z_242 : ((-1000000000000) : Int64).toInt = -1000000000000 := by decide
            refine W.lcmp hx hb dX10_works_434 ?_
            refine lv_topi (fun x_243 ex_243 => ?_)
            have cx_243 := lg_c ex_243
            refine sb_if_lt (tgt := 442) hx hb rfl dX10_works_435 (by decide) (fun c_435_243 => ?_) (fun c_435_243 => ?_)
            · refine lv_iconst (v := 0) hx hb dX10_works_442 (by decide) ?_
              have hsc : bq_sc sg.toInt = 39 := by unfold bq_sc; (repeat (first | rw [if_pos (by omega)] | rw [if_neg (by omega)]))
              have er : bl_ER = -9223372036854775808 := rfl
              have hbw : bl_w (bq_sc sg.toInt) (st (d.toInt.toNat - 2)) (st (d.toInt.toNat - 1)) = x_25.toInt := by rw [hsc, sy1, sy2]; unfold bl_w; (repeat (first | rw [if_pos (by omega)] | rw [if_neg (by omega)])); (try unfold bl_if); (repeat (first | rw [if_pos (by omega)] | rw [if_neg (by omega)])); first | omega | (rw [tx_25])
              exact hQ _ _ _ _ _ _ hw rfl (⟨(fI.trans (fI_Z hM_109) (fI_I hM_21)), (((tZ_nE hM_109 (nk (by decide))).trans (tZ_uIE hM_21))), Or.inr (Or.inr ⟨by decide, by omega, by rw [hbw]; omega⟩), iM_109, (qw.trans (qw_Z hM_109) (qw_I hM_21 (by decide))), ((ry_Z hM_109).trans (ry_I hM_21)), (by first | omega | decide), (by first | omega | decide), by rw [((tI_uZE hM_109).trans (tI_uE hM_21))]; omega⟩) dX10_works_443
            · refine lv_iconst (v := 1) hx hb dX10_works_438 (by decide) ?_
              refine lv_goto (tgt := 443) hx hb dX10_works_439 (by decide) ?_
              have hsc : bq_sc sg.toInt = 39 := by unfold bq_sc; (repeat (first | rw [if_pos (by omega)] | rw [if_neg (by omega)]))
              have er : bl_ER = -9223372036854775808 := rfl
              have hbw : bl_w (bq_sc sg.toInt) (st (d.toInt.toNat - 2)) (st (d.toInt.toNat - 1)) = x_25.toInt := by rw [hsc, sy1, sy2]; unfold bl_w; (repeat (first | rw [if_pos (by omega)] | rw [if_neg (by omega)])); (try unfold bl_if); (repeat (first | rw [if_pos (by omega)] | rw [if_neg (by omega)])); first | omega | (rw [tx_25])
              have hzN : rz (pp_su st (d.toInt.toNat - 2) (bl_w (bq_sc sg.toInt) (st (d.toInt.toNat - 2)) (st (d.toInt.toNat - 1)))) (d.toInt - 1) M_109 := by
                have q := rz_up (t2 := d.toInt - 1) hz_22 hM_109 rfl (by omega) (z := bl_w (bq_sc sg.toInt) (st (d.toInt.toNat - 2)) (st (d.toInt.toNat - 1))) hbw.symm (by rw [hbw]; omega) (fun j hj => by omega)
                rw [show x_108.toInt.toNat = d.toInt.toNat - 2 by omega] at q; exact q
              exact hQ _ _ _ _ _ _ hw rfl (⟨(fI.trans (fI_Z hM_109) (fI_I hM_21)), (((tZ_nE hM_109 (nk (by decide))).trans (tZ_uIE hM_21))), Or.inr (Or.inl ⟨by decide, by omega, by rw [hbw]; omega, hzN⟩), iM_109, (qw.trans (qw_Z hM_109) (qw_I hM_21 (by decide))), ((ry_Z hM_109).trans (ry_I hM_21)), (by first | omega | decide), (by first | omega | decide), by rw [((tI_uZE hM_109).trans (tI_uE hM_21))]; omega⟩) dX10_works_443
        · have qs_23_45 : sg.toInt ≠ 45 := pt_ne s_23_45 (by decide)
          by_cases s_23_47 : sg = 47
          · have qs_23_47 : sg.toInt = 47 := by rw [s_23_47]; decide
            refine lv_lookup (tgt := 221) hx hb dX10_works_70 (by decide) (off := 151) (by rw [s_23_47]; decide) (by decide) ?_
            refine lv_lload_n hx hb dX10_works_221 rfl (lv_at hl 1 rfl) ?_
            refine lv_lconst (v := 0) hx hb dX10_works_222 (by decide) ?_
            have z_37 : (0 : Int64).toInt = 0 := by decide
            refine W.lcmp hx hb dX10_works_223 ?_
            refine lv_topi (fun x_38 ex_38 => ?_)
            have cx_38 := lg_c ex_38
            refine sb_if_ne (tgt := 229) hx hb rfl dX10_works_224 (by decide) (fun c_224_38 => ?_) (fun c_224_38 => ?_)
            · refine lv_lload hx hb dX10_works_229 (lv_at hl 0 rfl) ?_
              refine lv_lload_n hx hb dX10_works_231 rfl (lv_at hl 1 rfl) ?_
              refine lv_ldiv hx hb dX10_works_232 (lc0 ex_38 c_224_38) ?_
              refine lv_topl (fun x_40 ex_40 => ?_)
              have tx_40 : x_40.toInt = Int.tdiv x_18.toInt x_3.toInt := l_div ex_40 rfl rfl (by omega) (by omega)
              refine lv_lstore (lv' := [(6, .long x_40), (4, .long x_18), (2, .long x_3), (0, .ref (A 60 0)), (1, .int sg)]) hx hb dX10_works_233 hl (by decide) rfl (fun ls hl => ?_)
              refine lv_goto (tgt := 407) hx hb dX10_works_235 (by decide) ?_
              refine lv_aload_n hx hb dX10_works_407 rfl (lv_at hl 3 rfl) ?_
              refine ti_get (ci := 10) (k := 32) (N := 67) (T := TX10) (v := .ref (A 60 33)) C hw iw_10 rfl ob_60 (by decide) (by decide) fl_X10_66 rfl rfl dX10_works_408 ?_
              refine lv_aload_n hx hb dX10_works_411 rfl (lv_at hl 3 rfl) ?_
              refine ti_get (ci := 10) (k := 33) (N := 67) (T := TX10) C hw iw_10 rfl ob_60 (by decide) (by decide) fl_X10_320 rfl rfl dX10_works_412 ?_
              refine ti_top (y := x_20) (tI_uE hM_21) ?_
              have u_125 : (tI M_21 60 33).toInt = (x_20 : Int32).toInt := by rw [(tI_uE hM_21)]
              refine lv_iconst (v := 1) hx hb dX10_works_415 (by decide) ?_
              refine lv_isub hx hb dX10_works_416 ?_
              refine lv_topi (fun x_126 ex_126 => ?_)
              have tx_126 : x_126.toInt = x_20.toInt - 1 := i_sub ex_126 rfl (by decide : (1 : Int32).toInt = 1) (by omega) (by omega)
              refine lv_lload hx hb dX10_works_417 (lv_at hl 0 rfl) ?_
              refine ti_last (ci := 10) (k := 32) (n := 64) C hw ob_60 (by decide) (fun _ _ => rfl) (vp_in_iff.mpr (by omega)) dX10_works_419 (fun H locs hw => ?_)
              obtain ⟨M_127, hM_127⟩ : ∃ z : ti_M, z = uZ M_21 60 32 (vp_updL (tZ M_21 60 32) (x_126 : Int32).toNatClampNeg x_40) := ⟨_, rfl⟩
              have hw := hw.to hM_127.symm
              have iM_127 : mI Tm M_127 := mI_uZ iM_21 hM_127
              refine lv_lload hx hb dX10_works_420 (lv_at hl 0 rfl) ?_
              refine lv_ldc2 (v := 1000000000000) hx hb C.2.2.2.1 (C.2.2.1 _ cn_X10_333) dX10_works_422 ?_
              have z_128 : (1000000000000 : Int64).toInt = 1000000000000 := by decide
              refine W.lcmp hx hb dX10_works_425 ?_
              refine lv_topi (fun x_129 ex_129 => ?_)
              have cx_129 := lg_c ex_129
              refine sb_if_gt (tgt := 442) hx hb rfl dX10_works_426 (by decide) (fun c_426_129 => ?_) (fun c_426_129 => ?_)
              · refine lv_iconst (v := 0) hx hb dX10_works_442 (by decide) ?_
                have hsc : bq_sc sg.toInt = 41 := by unfold bq_sc; (repeat (first | rw [if_pos (by omega)] | rw [if_neg (by omega)]))
                have er : bl_ER = -9223372036854775808 := rfl
                have hbw : bl_w (bq_sc sg.toInt) (st (d.toInt.toNat - 2)) (st (d.toInt.toNat - 1)) = x_40.toInt := by rw [hsc, sy1, sy2]; unfold bl_w; (repeat (first | rw [if_pos (by omega)] | rw [if_neg (by omega)])); (try unfold bl_if); (repeat (first | rw [if_pos (by omega)] | rw [if_neg (by omega)])); first | omega | (rw [tx_40])
                exact hQ _ _ _ _ _ _ hw rfl (⟨(fI.trans (fI_Z hM_127) (fI_I hM_21)), (((tZ_nE hM_127 (nk (by decide))).trans (tZ_uIE hM_21))), Or.inr (Or.inr ⟨by decide, by omega, by rw [hbw]; omega⟩), iM_127, (qw.trans (qw_Z hM_127) (qw_I hM_21 (by decide))), ((ry_Z hM_127).trans (ry_I hM_21)), (by first | omega | decide), (by first | omega | decide), by rw [((tI_uZE hM_127).trans (tI_uE hM_21))]; omega⟩) dX10_works_443
              · refine lv_lload hx hb dX10_works_429 (lv_at hl 0 rfl) ?_
                refine lv_ldc2 (v := (-1000000000000)) hx hb C.2.2.2.1 (C.2.2.1 _ cn_X10_335) dX10_works_431 ?_
                have z_251 : ((-1000000000000) : Int64).toInt = -1000000000000 := by decide
                refine W.lcmp hx hb dX10_works_434 ?_
                refine lv_topi (fun x_252 ex_252 => ?_)
                have cx_252 := lg_c ex_252
                refine sb_if_lt (tgt := 442) hx hb rfl dX10_works_435 (by decide) (fun c_435_252 => ?_) (fun c_435_252 => ?_)
                · refine lv_iconst (v := 0) hx hb dX10_works_442 (by decide) ?_
                  have hsc : bq_sc sg.toInt = 41 := by unfold bq_sc; (repeat (first | rw [if_pos (by omega)] | rw [if_neg (by omega)]))
                  have er : bl_ER = -9223372036854775808 := rfl
                  have hbw : bl_w (bq_sc sg.toInt) (st (d.toInt.toNat - 2)) (st (d.toInt.toNat - 1)) = x_40.toInt := by rw [hsc, sy1, sy2]; unfold bl_w; (repeat (first | rw [if_pos (by omega)] | rw [if_neg (by omega)])); (try unfold bl_if); (repeat (first | rw [if_pos (by omega)] | rw [if_neg (by omega)])); first | omega | (rw [tx_40])
                  exact hQ _ _ _ _ _ _ hw rfl (⟨(fI.trans (fI_Z hM_127) (fI_I hM_21)), (((tZ_nE hM_127 (nk (by decide))).trans (tZ_uIE hM_21))), Or.inr (Or.inr ⟨by decide, by omega, by rw [hbw]; omega⟩), iM_127, (qw.trans (qw_Z hM_127) (qw_I hM_21 (by decide))), ((ry_Z hM_127).trans (ry_I hM_21)), (by first | omega | decide), (by first | omega | decide), by rw [((tI_uZE hM_127).trans (tI_uE hM_21))]; omega⟩) dX10_works_443
                · refine lv_iconst (v := 1) hx hb dX10_works_438 (by decide) ?_
                  refine lv_goto (tgt := 443) hx hb dX10_works_439 (by decide) ?_
                  have hsc : bq_sc sg.toInt = 41 := by unfold bq_sc; (repeat (first | rw [if_pos (by omega)] | rw [if_neg (by omega)]))
                  have er : bl_ER = -9223372036854775808 := rfl
                  have hbw : bl_w (bq_sc sg.toInt) (st (d.toInt.toNat - 2)) (st (d.toInt.toNat - 1)) = x_40.toInt := by rw [hsc, sy1, sy2]; unfold bl_w; (repeat (first | rw [if_pos (by omega)] | rw [if_neg (by omega)])); (try unfold bl_if); (repeat (first | rw [if_pos (by omega)] | rw [if_neg (by omega)])); first | omega | (rw [tx_40])
                  have hzN : rz (pp_su st (d.toInt.toNat - 2) (bl_w (bq_sc sg.toInt) (st (d.toInt.toNat - 2)) (st (d.toInt.toNat - 1)))) (d.toInt - 1) M_127 := by
                    have q := rz_up (t2 := d.toInt - 1) hz_22 hM_127 rfl (by omega) (z := bl_w (bq_sc sg.toInt) (st (d.toInt.toNat - 2)) (st (d.toInt.toNat - 1))) hbw.symm (by rw [hbw]; omega) (fun j hj => by omega)
                    rw [show x_126.toInt.toNat = d.toInt.toNat - 2 by omega] at q; exact q
                  exact hQ _ _ _ _ _ _ hw rfl (⟨(fI.trans (fI_Z hM_127) (fI_I hM_21)), (((tZ_nE hM_127 (nk (by decide))).trans (tZ_uIE hM_21))), Or.inr (Or.inl ⟨by decide, by omega, by rw [hbw]; omega, hzN⟩), iM_127, (qw.trans (qw_Z hM_127) (qw_I hM_21 (by decide))), ((ry_Z hM_127).trans (ry_I hM_21)), (by first | omega | decide), (by first | omega | decide), by rw [((tI_uZE hM_127).trans (tI_uE hM_21))]; omega⟩) dX10_works_443
            · refine lv_iconst (v := 0) hx hb dX10_works_227 (by decide) ?_
              have hsc : bq_sc sg.toInt = 41 := by unfold bq_sc; (repeat (first | rw [if_pos (by omega)] | rw [if_neg (by omega)]))
              have er : bl_ER = -9223372036854775808 := rfl
              have hbw : bl_w (bq_sc sg.toInt) (st (d.toInt.toNat - 2)) (st (d.toInt.toNat - 1)) = bl_ER := by rw [hsc, sy1, sy2]; unfold bl_w; (repeat (first | rw [if_pos (by omega)] | rw [if_neg (by omega)]))
              exact hQ _ _ _ _ _ _ hw rfl (⟨(fI_I hM_21), ((tZ_uIE hM_21)), Or.inr (Or.inr ⟨by decide, by omega, by rw [hbw]; decide⟩), iM_21, (qw_I hM_21 (by decide)), (ry_I hM_21), (by first | omega | decide), (by first | omega | decide), by rw [(tI_uE hM_21)]; omega⟩) dX10_works_228
          · have qs_23_47 : sg.toInt ≠ 47 := pt_ne s_23_47 (by decide)
            by_cases s_23_60 : sg = 60
            · have qs_23_60 : sg.toInt = 60 := by rw [s_23_60]; decide
              refine lv_lookup (tgt := 238) hx hb dX10_works_70 (by decide) (off := 168) (by rw [s_23_60]; decide) (by decide) ?_
              refine lv_lload hx hb dX10_works_238 (lv_at hl 0 rfl) ?_
              refine lv_lload_n hx hb dX10_works_240 rfl (lv_at hl 1 rfl) ?_
              refine W.lcmp hx hb dX10_works_241 ?_
              refine lv_topi (fun x_41 ex_41 => ?_)
              have cx_41 := lg_c ex_41
              refine sb_if_ge (tgt := 249) hx hb rfl dX10_works_242 (by decide) (fun c_242_41 => ?_) (fun c_242_41 => ?_)
              · refine lv_iconst (v := 0) hx hb dX10_works_249 (by decide) ?_
                refine ti_callSl (av := [.int 0]) C hw (z_X10_is l D A cy hJ M_21 iM_21 0) ⟨ml_X10_323, ys_X10_is, yi_X10_is, yc_X10_is⟩ yd_X10_is rfl hl.1 (Nat.le_of_ble_eq_true rfl) ⟨by decide, by decide⟩ ⟨Nat.zero_le _, Nat.zero_le _⟩ dX10_works_250 (fun r_45 M_46 H locs hp_46 hw => ?_)
                obtain ⟨hm, pr_45⟩ := hp_46
                have hw := hw.to hm
                simp only [show (0 : Int32).toInt = 0 by decide] at pr_45
                have tr_45 : r_45.toInt = 0 := by omega
                refine lv_lstore (lv' := [(6, .long r_45), (4, .long x_18), (2, .long x_3), (0, .ref (A 60 0)), (1, .int sg)]) hx hb dX10_works_253 hl (by decide) rfl (fun ls hl => ?_)
                refine lv_goto (tgt := 407) hx hb dX10_works_255 (by decide) ?_
                refine lv_aload_n hx hb dX10_works_407 rfl (lv_at hl 3 rfl) ?_
                refine ti_get (ci := 10) (k := 32) (N := 67) (T := TX10) (v := .ref (A 60 33)) C hw iw_10 rfl ob_60 (by decide) (by decide) fl_X10_66 rfl rfl dX10_works_408 ?_
                refine lv_aload_n hx hb dX10_works_411 rfl (lv_at hl 3 rfl) ?_
                refine ti_get (ci := 10) (k := 33) (N := 67) (T := TX10) C hw iw_10 rfl ob_60 (by decide) (by decide) fl_X10_320 rfl rfl dX10_works_412 ?_
                refine ti_top (y := x_20) (tI_uE hM_21) ?_
                have u_137 : (tI M_21 60 33).toInt = (x_20 : Int32).toInt := by rw [(tI_uE hM_21)]
                refine lv_iconst (v := 1) hx hb dX10_works_415 (by decide) ?_
                refine lv_isub hx hb dX10_works_416 ?_
                refine lv_topi (fun x_138 ex_138 => ?_)
                have tx_138 : x_138.toInt = x_20.toInt - 1 := i_sub ex_138 rfl (by decide : (1 : Int32).toInt = 1) (by omega) (by omega)
                refine lv_lload hx hb dX10_works_417 (lv_at hl 0 rfl) ?_
                refine ti_last (ci := 10) (k := 32) (n := 64) C hw ob_60 (by decide) (fun _ _ => rfl) (vp_in_iff.mpr (by omega)) dX10_works_419 (fun H locs hw => ?_)
                obtain ⟨M_139, hM_139⟩ : ∃ z : ti_M, z = uZ M_21 60 32 (vp_updL (tZ M_21 60 32) (x_138 : Int32).toNatClampNeg r_45) := ⟨_, rfl⟩
                have hw := hw.to hM_139.symm
                have iM_139 : mI Tm M_139 := mI_uZ iM_21 hM_139
                refine lv_lload hx hb dX10_works_420 (lv_at hl 0 rfl) ?_
                refine lv_ldc2 (v := 1000000000000) hx hb C.2.2.2.1 (C.2.2.1 _ cn_X10_333) dX10_works_422 ?_
                have z_140 : (1000000000000 : Int64).toInt = 1000000000000 := by decide
                refine W.lcmp hx hb dX10_works_425 ?_
                refine lv_topi (fun x_141 ex_141 => ?_)
                have cx_141 := lg_c ex_141
                refine sb_if_gt (tgt := 442) hx hb rfl dX10_works_426 (by decide) (fun c_426_141 => ?_) (fun c_426_141 => ?_)
                · refine lv_iconst (v := 0) hx hb dX10_works_442 (by decide) ?_
                  exact hQ _ _ _ _ _ _ hw rfl (by exfalso; omega) dX10_works_443
                · refine lv_lload hx hb dX10_works_429 (lv_at hl 0 rfl) ?_
                  refine lv_ldc2 (v := (-1000000000000)) hx hb C.2.2.2.1 (C.2.2.1 _ cn_X10_335) dX10_works_431 ?_
                  have z_257 : ((-1000000000000) : Int64).toInt = -1000000000000 := by decide
                  refine W.lcmp hx hb dX10_works_434 ?_
                  refine lv_topi (fun x_258 ex_258 => ?_)
                  have cx_258 := lg_c ex_258
                  refine sb_if_lt (tgt := 442) hx hb rfl dX10_works_435 (by decide) (fun c_435_258 => ?_) (fun c_435_258 => ?_)
                  · refine lv_iconst (v := 0) hx hb dX10_works_442 (by decide) ?_
                    exact hQ _ _ _ _ _ _ hw rfl (by exfalso; omega) dX10_works_443
                  · refine lv_iconst (v := 1) hx hb dX10_works_438 (by decide) ?_
                    refine lv_goto (tgt := 443) hx hb dX10_works_439 (by decide) ?_
                    have hsc : bq_sc sg.toInt = 32 := by unfold bq_sc; (repeat (first | rw [if_pos (by omega)] | rw [if_neg (by omega)]))
                    have er : bl_ER = -9223372036854775808 := rfl
                    have hbw : bl_w (bq_sc sg.toInt) (st (d.toInt.toNat - 2)) (st (d.toInt.toNat - 1)) = r_45.toInt := by rw [hsc, sy1, sy2]; unfold bl_w; (repeat (first | rw [if_pos (by omega)] | rw [if_neg (by omega)])); (try unfold bl_if); (repeat (first | rw [if_pos (by omega)] | rw [if_neg (by omega)])); first | omega | (rw [tr_45])
                    have hzN : rz (pp_su st (d.toInt.toNat - 2) (bl_w (bq_sc sg.toInt) (st (d.toInt.toNat - 2)) (st (d.toInt.toNat - 1)))) (d.toInt - 1) M_139 := by
                      have q := rz_up (t2 := d.toInt - 1) hz_22 hM_139 rfl (by omega) (z := bl_w (bq_sc sg.toInt) (st (d.toInt.toNat - 2)) (st (d.toInt.toNat - 1))) hbw.symm (by rw [hbw]; omega) (fun j hj => by omega)
                      rw [show x_138.toInt.toNat = d.toInt.toNat - 2 by omega] at q; exact q
                    exact hQ _ _ _ _ _ _ hw rfl (⟨(fI.trans (fI_Z hM_139) (fI_I hM_21)), (((tZ_nE hM_139 (nk (by decide))).trans (tZ_uIE hM_21))), Or.inr (Or.inl ⟨by decide, by omega, by rw [hbw]; omega, hzN⟩), iM_139, (qw.trans (qw_Z hM_139) (qw_I hM_21 (by decide))), ((ry_Z hM_139).trans (ry_I hM_21)), (by first | omega | decide), (by first | omega | decide), by rw [((tI_uZE hM_139).trans (tI_uE hM_21))]; omega⟩) dX10_works_443
              · refine lv_iconst (v := 1) hx hb dX10_works_245 (by decide) ?_
                refine lv_goto (tgt := 250) hx hb dX10_works_246 (by decide) ?_
                refine ti_callSl (av := [.int 1]) C hw (z_X10_is l D A cy hJ M_21 iM_21 1) ⟨ml_X10_323, ys_X10_is, yi_X10_is, yc_X10_is⟩ yd_X10_is rfl hl.1 (Nat.le_of_ble_eq_true rfl) ⟨by decide, by decide⟩ ⟨Nat.zero_le _, Nat.zero_le _⟩ dX10_works_250 (fun r_43 M_44 H locs hp_44 hw => ?_)
                obtain ⟨hm, pr_43⟩ := hp_44
                have hw := hw.to hm
                simp only [show (1 : Int32).toInt = 1 by decide] at pr_43
                have tr_43 : r_43.toInt = 1 := by omega
                refine lv_lstore (lv' := [(6, .long r_43), (4, .long x_18), (2, .long x_3), (0, .ref (A 60 0)), (1, .int sg)]) hx hb dX10_works_253 hl (by decide) rfl (fun ls hl => ?_)
                refine lv_goto (tgt := 407) hx hb dX10_works_255 (by decide) ?_
                refine lv_aload_n hx hb dX10_works_407 rfl (lv_at hl 3 rfl) ?_
                refine ti_get (ci := 10) (k := 32) (N := 67) (T := TX10) (v := .ref (A 60 33)) C hw iw_10 rfl ob_60 (by decide) (by decide) fl_X10_66 rfl rfl dX10_works_408 ?_
                refine lv_aload_n hx hb dX10_works_411 rfl (lv_at hl 3 rfl) ?_
                refine ti_get (ci := 10) (k := 33) (N := 67) (T := TX10) C hw iw_10 rfl ob_60 (by decide) (by decide) fl_X10_320 rfl rfl dX10_works_412 ?_
                refine ti_top (y := x_20) (tI_uE hM_21) ?_
                have u_131 : (tI M_21 60 33).toInt = (x_20 : Int32).toInt := by rw [(tI_uE hM_21)]
                refine lv_iconst (v := 1) hx hb dX10_works_415 (by decide) ?_
                refine lv_isub hx hb dX10_works_416 ?_
                refine lv_topi (fun x_132 ex_132 => ?_)
                have tx_132 : x_132.toInt = x_20.toInt - 1 := i_sub ex_132 rfl (by decide : (1 : Int32).toInt = 1) (by omega) (by omega)
                refine lv_lload hx hb dX10_works_417 (lv_at hl 0 rfl) ?_
                refine ti_last (ci := 10) (k := 32) (n := 64) C hw ob_60 (by decide) (fun _ _ => rfl) (vp_in_iff.mpr (by omega)) dX10_works_419 (fun H locs hw => ?_)
                obtain ⟨M_133, hM_133⟩ : ∃ z : ti_M, z = uZ M_21 60 32 (vp_updL (tZ M_21 60 32) (x_132 : Int32).toNatClampNeg r_43) := ⟨_, rfl⟩
                have hw := hw.to hM_133.symm
                have iM_133 : mI Tm M_133 := mI_uZ iM_21 hM_133
                refine lv_lload hx hb dX10_works_420 (lv_at hl 0 rfl) ?_
                refine lv_ldc2 (v := 1000000000000) hx hb C.2.2.2.1 (C.2.2.1 _ cn_X10_333) dX10_works_422 ?_
                have z_134 : (1000000000000 : Int64).toInt = 1000000000000 := by decide
                refine W.lcmp hx hb dX10_works_425 ?_
                refine lv_topi (fun x_135 ex_135 => ?_)
                have cx_135 := lg_c ex_135
                refine sb_if_gt (tgt := 442) hx hb rfl dX10_works_426 (by decide) (fun c_426_135 => ?_) (fun c_426_135 => ?_)
                · refine lv_iconst (v := 0) hx hb dX10_works_442 (by decide) ?_
                  exact hQ _ _ _ _ _ _ hw rfl (by exfalso; omega) dX10_works_443
                · refine lv_lload hx hb dX10_works_429 (lv_at hl 0 rfl) ?_
                  refine lv_ldc2 (v := (-1000000000000)) hx hb C.2.2.2.1 (C.2.2.1 _ cn_X10_335) dX10_works_431 ?_
                  have z_254 : ((-1000000000000) : Int64).toInt = -1000000000000 := by decide
                  refine W.lcmp hx hb dX10_works_434 ?_
                  refine lv_topi (fun x_255 ex_255 => ?_)
                  have cx_255 := lg_c ex_255
                  refine sb_if_lt (tgt := 442) hx hb rfl dX10_works_435 (by decide) (fun c_435_255 => ?_) (fun c_435_255 => ?_)
                  · refine lv_iconst (v := 0) hx hb dX10_works_442 (by decide) ?_
                    exact hQ _ _ _ _ _ _ hw rfl (by exfalso; omega) dX10_works_443
                  · refine lv_iconst (v := 1) hx hb dX10_works_438 (by decide) ?_
                    refine lv_goto (tgt := 443) hx hb dX10_works_439 (by decide) ?_
                    have hsc : bq_sc sg.toInt = 32 := by unfold bq_sc; (repeat (first | rw [if_pos (by omega)] | rw [if_neg (by omega)]))
                    have er : bl_ER = -9223372036854775808 := rfl
                    have hbw : bl_w (bq_sc sg.toInt) (st (d.toInt.toNat - 2)) (st (d.toInt.toNat - 1)) = r_43.toInt := by rw [hsc, sy1, sy2]; unfold bl_w; (repeat (first | rw [if_pos (by omega)] | rw [if_neg (by omega)])); (try unfold bl_if); (repeat (first | rw [if_pos (by omega)] | rw [if_neg (by omega)])); first | omega | (rw [tr_43])
                    have hzN : rz (pp_su st (d.toInt.toNat - 2) (bl_w (bq_sc sg.toInt) (st (d.toInt.toNat - 2)) (st (d.toInt.toNat - 1)))) (d.toInt - 1) M_133 := by
                      have q := rz_up (t2 := d.toInt - 1) hz_22 hM_133 rfl (by omega) (z := bl_w (bq_sc sg.toInt) (st (d.toInt.toNat - 2)) (st (d.toInt.toNat - 1))) hbw.symm (by rw [hbw]; omega) (fun j hj => by omega)
                      rw [show x_132.toInt.toNat = d.toInt.toNat - 2 by omega] at q; exact q
                    exact hQ _ _ _ _ _ _ hw rfl (⟨(fI.trans (fI_Z hM_133) (fI_I hM_21)), (((tZ_nE hM_133 (nk (by decide))).trans (tZ_uIE hM_21))), Or.inr (Or.inl ⟨by decide, by omega, by rw [hbw]; omega, hzN⟩), iM_133, (qw.trans (qw_Z hM_133) (qw_I hM_21 (by decide))), ((ry_Z hM_133).trans (ry_I hM_21)), (by first | omega | decide), (by first | omega | decide), by rw [((tI_uZE hM_133).trans (tI_uE hM_21))]; omega⟩) dX10_works_443
            · have qs_23_60 : sg.toInt ≠ 60 := pt_ne s_23_60 (by decide)
              by_cases s_23_61 : sg = 61
              · have qs_23_61 : sg.toInt = 61 := by rw [s_23_61]; decide
                refine lv_lookup (tgt := 278) hx hb dX10_works_70 (by decide) (off := 208) (by rw [s_23_61]; decide) (by decide) ?_
                refine lv_lload hx hb dX10_works_278 (lv_at hl 0 rfl) ?_
                refine lv_lload_n hx hb dX10_works_280 rfl (lv_at hl 1 rfl) ?_
                refine W.lcmp hx hb dX10_works_281 ?_
                refine lv_topi (fun x_53 ex_53 => ?_)
                have cx_53 := lg_c ex_53
                refine sb_if_ne (tgt := 289) hx hb rfl dX10_works_282 (by decide) (fun c_282_53 => ?_) (fun c_282_53 => ?_)
                · refine lv_iconst (v := 0) hx hb dX10_works_289 (by decide) ?_
                  refine ti_callSl (av := [.int 0]) C hw (z_X10_is l D A cy hJ M_21 iM_21 0) ⟨ml_X10_323, ys_X10_is, yi_X10_is, yc_X10_is⟩ yd_X10_is rfl hl.1 (Nat.le_of_ble_eq_true rfl) ⟨by decide, by decide⟩ ⟨Nat.zero_le _, Nat.zero_le _⟩ dX10_works_290 (fun r_57 M_58 H locs hp_58 hw => ?_)
                  obtain ⟨hm, pr_57⟩ := hp_58
                  have hw := hw.to hm
                  simp only [show (0 : Int32).toInt = 0 by decide] at pr_57
                  have tr_57 : r_57.toInt = 0 := by omega
                  refine lv_lstore (lv' := [(6, .long r_57), (4, .long x_18), (2, .long x_3), (0, .ref (A 60 0)), (1, .int sg)]) hx hb dX10_works_293 hl (by decide) rfl (fun ls hl => ?_)
                  refine lv_goto (tgt := 407) hx hb dX10_works_295 (by decide) ?_
                  refine lv_aload_n hx hb dX10_works_407 rfl (lv_at hl 3 rfl) ?_
                  refine ti_get (ci := 10) (k := 32) (N := 67) (T := TX10) (v := .ref (A 60 33)) C hw iw_10 rfl ob_60 (by decide) (by decide) fl_X10_66 rfl rfl dX10_works_408 ?_
                  refine lv_aload_n hx hb dX10_works_411 rfl (lv_at hl 3 rfl) ?_
                  refine ti_get (ci := 10) (k := 33) (N := 67) (T := TX10) C hw iw_10 rfl ob_60 (by decide) (by decide) fl_X10_320 rfl rfl dX10_works_412 ?_
                  refine ti_top (y := x_20) (tI_uE hM_21) ?_
                  have u_161 : (tI M_21 60 33).toInt = (x_20 : Int32).toInt := by rw [(tI_uE hM_21)]
                  refine lv_iconst (v := 1) hx hb dX10_works_415 (by decide) ?_
                  refine lv_isub hx hb dX10_works_416 ?_
                  refine lv_topi (fun x_162 ex_162 => ?_)
                  have tx_162 : x_162.toInt = x_20.toInt - 1 := i_sub ex_162 rfl (by decide : (1 : Int32).toInt = 1) (by omega) (by omega)
                  refine lv_lload hx hb dX10_works_417 (lv_at hl 0 rfl) ?_
                  refine ti_last (ci := 10) (k := 32) (n := 64) C hw ob_60 (by decide) (fun _ _ => rfl) (vp_in_iff.mpr (by omega)) dX10_works_419 (fun H locs hw => ?_)
                  obtain ⟨M_163, hM_163⟩ : ∃ z : ti_M, z = uZ M_21 60 32 (vp_updL (tZ M_21 60 32) (x_162 : Int32).toNatClampNeg r_57) := ⟨_, rfl⟩
                  have hw := hw.to hM_163.symm
                  have iM_163 : mI Tm M_163 := mI_uZ iM_21 hM_163
                  refine lv_lload hx hb dX10_works_420 (lv_at hl 0 rfl) ?_
                  refine lv_ldc2 (v := 1000000000000) hx hb C.2.2.2.1 (C.2.2.1 _ cn_X10_333) dX10_works_422 ?_
                  have z_164 : (1000000000000 : Int64).toInt = 1000000000000 := by decide
                  refine W.lcmp hx hb dX10_works_425 ?_
                  refine lv_topi (fun x_165 ex_165 => ?_)
                  have cx_165 := lg_c ex_165
                  refine sb_if_gt (tgt := 442) hx hb rfl dX10_works_426 (by decide) (fun c_426_165 => ?_) (fun c_426_165 => ?_)
                  · refine lv_iconst (v := 0) hx hb dX10_works_442 (by decide) ?_
                    exact hQ _ _ _ _ _ _ hw rfl (by exfalso; omega) dX10_works_443
                  · refine lv_lload hx hb dX10_works_429 (lv_at hl 0 rfl) ?_
                    refine lv_ldc2 (v := (-1000000000000)) hx hb C.2.2.2.1 (C.2.2.1 _ cn_X10_335) dX10_works_431 ?_
                    have z_269 : ((-1000000000000) : Int64).toInt = -1000000000000 := by decide
                    refine W.lcmp hx hb dX10_works_434 ?_
                    refine lv_topi (fun x_270 ex_270 => ?_)
                    have cx_270 := lg_c ex_270
                    refine sb_if_lt (tgt := 442) hx hb rfl dX10_works_435 (by decide) (fun c_435_270 => ?_) (fun c_435_270 => ?_)
                    · refine lv_iconst (v := 0) hx hb dX10_works_442 (by decide) ?_
                      exact hQ _ _ _ _ _ _ hw rfl (by exfalso; omega) dX10_works_443
                    · refine lv_iconst (v := 1) hx hb dX10_works_438 (by decide) ?_
                      refine lv_goto (tgt := 443) hx hb dX10_works_439 (by decide) ?_
                      have hsc : bq_sc sg.toInt = 34 := by unfold bq_sc; (repeat (first | rw [if_pos (by omega)] | rw [if_neg (by omega)]))
                      have er : bl_ER = -9223372036854775808 := rfl
                      have hbw : bl_w (bq_sc sg.toInt) (st (d.toInt.toNat - 2)) (st (d.toInt.toNat - 1)) = r_57.toInt := by rw [hsc, sy1, sy2]; unfold bl_w; (repeat (first | rw [if_pos (by omega)] | rw [if_neg (by omega)])); (try unfold bl_if); (repeat (first | rw [if_pos (by omega)] | rw [if_neg (by omega)])); first | omega | (rw [tr_57])
                      have hzN : rz (pp_su st (d.toInt.toNat - 2) (bl_w (bq_sc sg.toInt) (st (d.toInt.toNat - 2)) (st (d.toInt.toNat - 1)))) (d.toInt - 1) M_163 := by
                        have q := rz_up (t2 := d.toInt - 1) hz_22 hM_163 rfl (by omega) (z := bl_w (bq_sc sg.toInt) (st (d.toInt.toNat - 2)) (st (d.toInt.toNat - 1))) hbw.symm (by rw [hbw]; omega) (fun j hj => by omega)
                        rw [show x_162.toInt.toNat = d.toInt.toNat - 2 by omega] at q; exact q
                      exact hQ _ _ _ _ _ _ hw rfl (⟨(fI.trans (fI_Z hM_163) (fI_I hM_21)), (((tZ_nE hM_163 (nk (by decide))).trans (tZ_uIE hM_21))), Or.inr (Or.inl ⟨by decide, by omega, by rw [hbw]; omega, hzN⟩), iM_163, (qw.trans (qw_Z hM_163) (qw_I hM_21 (by decide))), ((ry_Z hM_163).trans (ry_I hM_21)), (by first | omega | decide), (by first | omega | decide), by rw [((tI_uZE hM_163).trans (tI_uE hM_21))]; omega⟩) dX10_works_443
                · refine lv_iconst (v := 1) hx hb dX10_works_285 (by decide) ?_
                  refine lv_goto (tgt := 290) hx hb dX10_works_286 (by decide) ?_
                  refine ti_callSl (av := [.int 1]) C hw (z_X10_is l D A cy hJ M_21 iM_21 1) ⟨ml_X10_323, ys_X10_is, yi_X10_is, yc_X10_is⟩ yd_X10_is rfl hl.1 (Nat.le_of_ble_eq_true rfl) ⟨by decide, by decide⟩ ⟨Nat.zero_le _, Nat.zero_le _⟩ dX10_works_290 (fun r_55 M_56 H locs hp_56 hw => ?_)
                  obtain ⟨hm, pr_55⟩ := hp_56
                  have hw := hw.to hm
                  simp only [show (1 : Int32).toInt = 1 by decide] at pr_55
                  have tr_55 : r_55.toInt = 1 := by omega
                  refine lv_lstore (lv' := [(6, .long r_55), (4, .long x_18), (2, .long x_3), (0, .ref (A 60 0)), (1, .int sg)]) hx hb dX10_works_293 hl (by decide) rfl (fun ls hl => ?_)
                  refine lv_goto (tgt := 407) hx hb dX10_works_295 (by decide) ?_
                  refine lv_aload_n hx hb dX10_works_407 rfl (lv_at hl 3 rfl) ?_
                  refine ti_get (ci := 10) (k := 32) (N := 67) (T := TX10) (v := .ref (A 60 33)) C hw iw_10 rfl ob_60 (by decide) (by decide) fl_X10_66 rfl rfl dX10_works_408 ?_
                  refine lv_aload_n hx hb dX10_works_411 rfl (lv_at hl 3 rfl) ?_
                  refine ti_get (ci := 10) (k := 33) (N := 67) (T := TX10) C hw iw_10 rfl ob_60 (by decide) (by decide) fl_X10_320 rfl rfl dX10_works_412 ?_
                  refine ti_top (y := x_20) (tI_uE hM_21) ?_
                  have u_155 : (tI M_21 60 33).toInt = (x_20 : Int32).toInt := by rw [(tI_uE hM_21)]
                  refine lv_iconst (v := 1) hx hb dX10_works_415 (by decide) ?_
                  refine lv_isub hx hb dX10_works_416 ?_
                  refine lv_topi (fun x_156 ex_156 => ?_)
                  have tx_156 : x_156.toInt = x_20.toInt - 1 := i_sub ex_156 rfl (by decide : (1 : Int32).toInt = 1) (by omega) (by omega)
                  refine lv_lload hx hb dX10_works_417 (lv_at hl 0 rfl) ?_
                  refine ti_last (ci := 10) (k := 32) (n := 64) C hw ob_60 (by decide) (fun _ _ => rfl) (vp_in_iff.mpr (by omega)) dX10_works_419 (fun H locs hw => ?_)
                  obtain ⟨M_157, hM_157⟩ : ∃ z : ti_M, z = uZ M_21 60 32 (vp_updL (tZ M_21 60 32) (x_156 : Int32).toNatClampNeg r_55) := ⟨_, rfl⟩
                  have hw := hw.to hM_157.symm
                  have iM_157 : mI Tm M_157 := mI_uZ iM_21 hM_157
                  refine lv_lload hx hb dX10_works_420 (lv_at hl 0 rfl) ?_
                  refine lv_ldc2 (v := 1000000000000) hx hb C.2.2.2.1 (C.2.2.1 _ cn_X10_333) dX10_works_422 ?_
                  have z_158 : (1000000000000 : Int64).toInt = 1000000000000 := by decide
                  refine W.lcmp hx hb dX10_works_425 ?_
                  refine lv_topi (fun x_159 ex_159 => ?_)
                  have cx_159 := lg_c ex_159
                  refine sb_if_gt (tgt := 442) hx hb rfl dX10_works_426 (by decide) (fun c_426_159 => ?_) (fun c_426_159 => ?_)
                  · refine lv_iconst (v := 0) hx hb dX10_works_442 (by decide) ?_
                    exact hQ _ _ _ _ _ _ hw rfl (by exfalso; omega) dX10_works_443
                  · refine lv_lload hx hb dX10_works_429 (lv_at hl 0 rfl) ?_
                    refine lv_ldc2 (v := (-1000000000000)) hx hb C.2.2.2.1 (C.2.2.1 _ cn_X10_335) dX10_works_431 ?_
                    have z_266 : ((-1000000000000) : Int64).toInt = -1000000000000 := by decide
                    refine W.lcmp hx hb dX10_works_434 ?_
                    refine lv_topi (fun x_267 ex_267 => ?_)
                    have cx_267 := lg_c ex_267
                    refine sb_if_lt (tgt := 442) hx hb rfl dX10_works_435 (by decide) (fun c_435_267 => ?_) (fun c_435_267 => ?_)
                    · refine lv_iconst (v := 0) hx hb dX10_works_442 (by decide) ?_
                      exact hQ _ _ _ _ _ _ hw rfl (by exfalso; omega) dX10_works_443
                    · refine lv_iconst (v := 1) hx hb dX10_works_438 (by decide) ?_
                      refine lv_goto (tgt := 443) hx hb dX10_works_439 (by decide) ?_
                      have hsc : bq_sc sg.toInt = 34 := by unfold bq_sc; (repeat (first | rw [if_pos (by omega)] | rw [if_neg (by omega)]))
                      have er : bl_ER = -9223372036854775808 := rfl
                      have hbw : bl_w (bq_sc sg.toInt) (st (d.toInt.toNat - 2)) (st (d.toInt.toNat - 1)) = r_55.toInt := by rw [hsc, sy1, sy2]; unfold bl_w; (repeat (first | rw [if_pos (by omega)] | rw [if_neg (by omega)])); (try unfold bl_if); (repeat (first | rw [if_pos (by omega)] | rw [if_neg (by omega)])); first | omega | (rw [tr_55])
                      have hzN : rz (pp_su st (d.toInt.toNat - 2) (bl_w (bq_sc sg.toInt) (st (d.toInt.toNat - 2)) (st (d.toInt.toNat - 1)))) (d.toInt - 1) M_157 := by
                        have q := rz_up (t2 := d.toInt - 1) hz_22 hM_157 rfl (by omega) (z := bl_w (bq_sc sg.toInt) (st (d.toInt.toNat - 2)) (st (d.toInt.toNat - 1))) hbw.symm (by rw [hbw]; omega) (fun j hj => by omega)
                        rw [show x_156.toInt.toNat = d.toInt.toNat - 2 by omega] at q; exact q
                      exact hQ _ _ _ _ _ _ hw rfl (⟨(fI.trans (fI_Z hM_157) (fI_I hM_21)), (((tZ_nE hM_157 (nk (by decide))).trans (tZ_uIE hM_21))), Or.inr (Or.inl ⟨by decide, by omega, by rw [hbw]; omega, hzN⟩), iM_157, (qw.trans (qw_Z hM_157) (qw_I hM_21 (by decide))), ((ry_Z hM_157).trans (ry_I hM_21)), (by first | omega | decide), (by first | omega | decide), by rw [((tI_uZE hM_157).trans (tI_uE hM_21))]; omega⟩) dX10_works_443
              · have qs_23_61 : sg.toInt ≠ 61 := pt_ne s_23_61 (by decide)
                by_cases s_23_62 : sg = 62
                · have qs_23_62 : sg.toInt = 62 := by rw [s_23_62]; decide
                  refine lv_lookup (tgt := 258) hx hb dX10_works_70 (by decide) (off := 188) (by rw [s_23_62]; decide) (by decide) ?_
                  refine lv_lload hx hb dX10_works_258 (lv_at hl 0 rfl) ?_
                  refine lv_lload_n hx hb dX10_works_260 rfl (lv_at hl 1 rfl) ?_
                  refine W.lcmp hx hb dX10_works_261 ?_
                  refine lv_topi (fun x_47 ex_47 => ?_)
                  have cx_47 := lg_c ex_47
                  refine sb_if_le (tgt := 269) hx hb rfl dX10_works_262 (by decide) (fun c_262_47 => ?_) (fun c_262_47 => ?_)
                  · refine lv_iconst (v := 0) hx hb dX10_works_269 (by decide) ?_
                    refine ti_callSl (av := [.int 0]) C hw (z_X10_is l D A cy hJ M_21 iM_21 0) ⟨ml_X10_323, ys_X10_is, yi_X10_is, yc_X10_is⟩ yd_X10_is rfl hl.1 (Nat.le_of_ble_eq_true rfl) ⟨by decide, by decide⟩ ⟨Nat.zero_le _, Nat.zero_le _⟩ dX10_works_270 (fun r_51 M_52 H locs hp_52 hw => ?_)
                    obtain ⟨hm, pr_51⟩ := hp_52
                    have hw := hw.to hm
                    simp only [show (0 : Int32).toInt = 0 by decide] at pr_51
                    have tr_51 : r_51.toInt = 0 := by omega
                    refine lv_lstore (lv' := [(6, .long r_51), (4, .long x_18), (2, .long x_3), (0, .ref (A 60 0)), (1, .int sg)]) hx hb dX10_works_273 hl (by decide) rfl (fun ls hl => ?_)
                    refine lv_goto (tgt := 407) hx hb dX10_works_275 (by decide) ?_
                    refine lv_aload_n hx hb dX10_works_407 rfl (lv_at hl 3 rfl) ?_
                    refine ti_get (ci := 10) (k := 32) (N := 67) (T := TX10) (v := .ref (A 60 33)) C hw iw_10 rfl ob_60 (by decide) (by decide) fl_X10_66 rfl rfl dX10_works_408 ?_
                    refine lv_aload_n hx hb dX10_works_411 rfl (lv_at hl 3 rfl) ?_
                    refine ti_get (ci := 10) (k := 33) (N := 67) (T := TX10) C hw iw_10 rfl ob_60 (by decide) (by decide) fl_X10_320 rfl rfl dX10_works_412 ?_
                    refine ti_top (y := x_20) (tI_uE hM_21) ?_
                    have u_149 : (tI M_21 60 33).toInt = (x_20 : Int32).toInt := by rw [(tI_uE hM_21)]
                    refine lv_iconst (v := 1) hx hb dX10_works_415 (by decide) ?_
                    refine lv_isub hx hb dX10_works_416 ?_
                    refine lv_topi (fun x_150 ex_150 => ?_)
                    have tx_150 : x_150.toInt = x_20.toInt - 1 := i_sub ex_150 rfl (by decide : (1 : Int32).toInt = 1) (by omega) (by omega)
                    refine lv_lload hx hb dX10_works_417 (lv_at hl 0 rfl) ?_
                    refine ti_last (ci := 10) (k := 32) (n := 64) C hw ob_60 (by decide) (fun _ _ => rfl) (vp_in_iff.mpr (by omega)) dX10_works_419 (fun H locs hw => ?_)
                    obtain ⟨M_151, hM_151⟩ : ∃ z : ti_M, z = uZ M_21 60 32 (vp_updL (tZ M_21 60 32) (x_150 : Int32).toNatClampNeg r_51) := ⟨_, rfl⟩
                    have hw := hw.to hM_151.symm
                    have iM_151 : mI Tm M_151 := mI_uZ iM_21 hM_151
                    refine lv_lload hx hb dX10_works_420 (lv_at hl 0 rfl) ?_
                    refine lv_ldc2 (v := 1000000000000) hx hb C.2.2.2.1 (C.2.2.1 _ cn_X10_333) dX10_works_422 ?_
                    have z_152 : (1000000000000 : Int64).toInt = 1000000000000 := by decide
                    refine W.lcmp hx hb dX10_works_425 ?_
                    refine lv_topi (fun x_153 ex_153 => ?_)
                    have cx_153 := lg_c ex_153
                    refine sb_if_gt (tgt := 442) hx hb rfl dX10_works_426 (by decide) (fun c_426_153 => ?_) (fun c_426_153 => ?_)
                    · refine lv_iconst (v := 0) hx hb dX10_works_442 (by decide) ?_
                      exact hQ _ _ _ _ _ _ hw rfl (by exfalso; omega) dX10_works_443
                    · refine lv_lload hx hb dX10_works_429 (lv_at hl 0 rfl) ?_
                      refine lv_ldc2 (v := (-1000000000000)) hx hb C.2.2.2.1 (C.2.2.1 _ cn_X10_335) dX10_works_431 ?_
                      have z_263 : ((-1000000000000) : Int64).toInt = -1000000000000 := by decide
                      refine W.lcmp hx hb dX10_works_434 ?_
                      refine lv_topi (fun x_264 ex_264 => ?_)
                      have cx_264 := lg_c ex_264
                      refine sb_if_lt (tgt := 442) hx hb rfl dX10_works_435 (by decide) (fun c_435_264 => ?_) (fun c_435_264 => ?_)
                      · refine lv_iconst (v := 0) hx hb dX10_works_442 (by decide) ?_
                        exact hQ _ _ _ _ _ _ hw rfl (by exfalso; omega) dX10_works_443
                      · refine lv_iconst (v := 1) hx hb dX10_works_438 (by decide) ?_
                        refine lv_goto (tgt := 443) hx hb dX10_works_439 (by decide) ?_
                        have hsc : bq_sc sg.toInt = 37 := by unfold bq_sc; (repeat (first | rw [if_pos (by omega)] | rw [if_neg (by omega)]))
                        have er : bl_ER = -9223372036854775808 := rfl
                        have hbw : bl_w (bq_sc sg.toInt) (st (d.toInt.toNat - 2)) (st (d.toInt.toNat - 1)) = r_51.toInt := by rw [hsc, sy1, sy2]; unfold bl_w; (repeat (first | rw [if_pos (by omega)] | rw [if_neg (by omega)])); (try unfold bl_if); (repeat (first | rw [if_pos (by omega)] | rw [if_neg (by omega)])); first | omega | (rw [tr_51])
                        have hzN : rz (pp_su st (d.toInt.toNat - 2) (bl_w (bq_sc sg.toInt) (st (d.toInt.toNat - 2)) (st (d.toInt.toNat - 1)))) (d.toInt - 1) M_151 := by
                          have q := rz_up (t2 := d.toInt - 1) hz_22 hM_151 rfl (by omega) (z := bl_w (bq_sc sg.toInt) (st (d.toInt.toNat - 2)) (st (d.toInt.toNat - 1))) hbw.symm (by rw [hbw]; omega) (fun j hj => by omega)
                          rw [show x_150.toInt.toNat = d.toInt.toNat - 2 by omega] at q; exact q
                        exact hQ _ _ _ _ _ _ hw rfl (⟨(fI.trans (fI_Z hM_151) (fI_I hM_21)), (((tZ_nE hM_151 (nk (by decide))).trans (tZ_uIE hM_21))), Or.inr (Or.inl ⟨by decide, by omega, by rw [hbw]; omega, hzN⟩), iM_151, (qw.trans (qw_Z hM_151) (qw_I hM_21 (by decide))), ((ry_Z hM_151).trans (ry_I hM_21)), (by first | omega | decide), (by first | omega | decide), by rw [((tI_uZE hM_151).trans (tI_uE hM_21))]; omega⟩) dX10_works_443
                  · refine lv_iconst (v := 1) hx hb dX10_works_265 (by decide) ?_
                    refine lv_goto (tgt := 270) hx hb dX10_works_266 (by decide) ?_
                    refine ti_callSl (av := [.int 1]) C hw (z_X10_is l D A cy hJ M_21 iM_21 1) ⟨ml_X10_323, ys_X10_is, yi_X10_is, yc_X10_is⟩ yd_X10_is rfl hl.1 (Nat.le_of_ble_eq_true rfl) ⟨by decide, by decide⟩ ⟨Nat.zero_le _, Nat.zero_le _⟩ dX10_works_270 (fun r_49 M_50 H locs hp_50 hw => ?_)
                    obtain ⟨hm, pr_49⟩ := hp_50
                    have hw := hw.to hm
                    simp only [show (1 : Int32).toInt = 1 by decide] at pr_49
                    have tr_49 : r_49.toInt = 1 := by omega
                    refine lv_lstore (lv' := [(6, .long r_49), (4, .long x_18), (2, .long x_3), (0, .ref (A 60 0)), (1, .int sg)]) hx hb dX10_works_273 hl (by decide) rfl (fun ls hl => ?_)
                    refine lv_goto (tgt := 407) hx hb dX10_works_275 (by decide) ?_
                    refine lv_aload_n hx hb dX10_works_407 rfl (lv_at hl 3 rfl) ?_
                    refine ti_get (ci := 10) (k := 32) (N := 67) (T := TX10) (v := .ref (A 60 33)) C hw iw_10 rfl ob_60 (by decide) (by decide) fl_X10_66 rfl rfl dX10_works_408 ?_
                    refine lv_aload_n hx hb dX10_works_411 rfl (lv_at hl 3 rfl) ?_
                    refine ti_get (ci := 10) (k := 33) (N := 67) (T := TX10) C hw iw_10 rfl ob_60 (by decide) (by decide) fl_X10_320 rfl rfl dX10_works_412 ?_
                    refine ti_top (y := x_20) (tI_uE hM_21) ?_
                    have u_143 : (tI M_21 60 33).toInt = (x_20 : Int32).toInt := by rw [(tI_uE hM_21)]
                    refine lv_iconst (v := 1) hx hb dX10_works_415 (by decide) ?_
                    refine lv_isub hx hb dX10_works_416 ?_
                    refine lv_topi (fun x_144 ex_144 => ?_)
                    have tx_144 : x_144.toInt = x_20.toInt - 1 := i_sub ex_144 rfl (by decide : (1 : Int32).toInt = 1) (by omega) (by omega)
                    refine lv_lload hx hb dX10_works_417 (lv_at hl 0 rfl) ?_
                    refine ti_last (ci := 10) (k := 32) (n := 64) C hw ob_60 (by decide) (fun _ _ => rfl) (vp_in_iff.mpr (by omega)) dX10_works_419 (fun H locs hw => ?_)
                    obtain ⟨M_145, hM_145⟩ : ∃ z : ti_M, z = uZ M_21 60 32 (vp_updL (tZ M_21 60 32) (x_144 : Int32).toNatClampNeg r_49) := ⟨_, rfl⟩
                    have hw := hw.to hM_145.symm
                    have iM_145 : mI Tm M_145 := mI_uZ iM_21 hM_145
                    refine lv_lload hx hb dX10_works_420 (lv_at hl 0 rfl) ?_
                    refine lv_ldc2 (v := 1000000000000) hx hb C.2.2.2.1 (C.2.2.1 _ cn_X10_333) dX10_works_422 ?_
                    have z_146 : (1000000000000 : Int64).toInt = 1000000000000 := by decide
                    refine W.lcmp hx hb dX10_works_425 ?_
                    refine lv_topi (fun x_147 ex_147 => ?_)
                    have cx_147 := lg_c ex_147
                    refine sb_if_gt (tgt := 442) hx hb rfl dX10_works_426 (by decide) (fun c_426_147 => ?_) (fun c_426_147 => ?_)
                    · refine lv_iconst (v := 0) hx hb dX10_works_442 (by decide) ?_
                      exact hQ _ _ _ _ _ _ hw rfl (by exfalso; omega) dX10_works_443
                    · refine lv_lload hx hb dX10_works_429 (lv_at hl 0 rfl) ?_
                      refine lv_ldc2 (v := (-1000000000000)) hx hb C.2.2.2.1 (C.2.2.1 _ cn_X10_335) dX10_works_431 ?_
                      have z_260 : ((-1000000000000) : Int64).toInt = -1000000000000 := by decide
                      refine W.lcmp hx hb dX10_works_434 ?_
                      refine lv_topi (fun x_261 ex_261 => ?_)
                      have cx_261 := lg_c ex_261
                      refine sb_if_lt (tgt := 442) hx hb rfl dX10_works_435 (by decide) (fun c_435_261 => ?_) (fun c_435_261 => ?_)
                      · refine lv_iconst (v := 0) hx hb dX10_works_442 (by decide) ?_
                        exact hQ _ _ _ _ _ _ hw rfl (by exfalso; omega) dX10_works_443
                      · refine lv_iconst (v := 1) hx hb dX10_works_438 (by decide) ?_
                        refine lv_goto (tgt := 443) hx hb dX10_works_439 (by decide) ?_
                        have hsc : bq_sc sg.toInt = 37 := by unfold bq_sc; (repeat (first | rw [if_pos (by omega)] | rw [if_neg (by omega)]))
                        have er : bl_ER = -9223372036854775808 := rfl
                        have hbw : bl_w (bq_sc sg.toInt) (st (d.toInt.toNat - 2)) (st (d.toInt.toNat - 1)) = r_49.toInt := by rw [hsc, sy1, sy2]; unfold bl_w; (repeat (first | rw [if_pos (by omega)] | rw [if_neg (by omega)])); (try unfold bl_if); (repeat (first | rw [if_pos (by omega)] | rw [if_neg (by omega)])); first | omega | (rw [tr_49])
                        have hzN : rz (pp_su st (d.toInt.toNat - 2) (bl_w (bq_sc sg.toInt) (st (d.toInt.toNat - 2)) (st (d.toInt.toNat - 1)))) (d.toInt - 1) M_145 := by
                          have q := rz_up (t2 := d.toInt - 1) hz_22 hM_145 rfl (by omega) (z := bl_w (bq_sc sg.toInt) (st (d.toInt.toNat - 2)) (st (d.toInt.toNat - 1))) hbw.symm (by rw [hbw]; omega) (fun j hj => by omega)
                          rw [show x_144.toInt.toNat = d.toInt.toNat - 2 by omega] at q; exact q
                        exact hQ _ _ _ _ _ _ hw rfl (⟨(fI.trans (fI_Z hM_145) (fI_I hM_21)), (((tZ_nE hM_145 (nk (by decide))).trans (tZ_uIE hM_21))), Or.inr (Or.inl ⟨by decide, by omega, by rw [hbw]; omega, hzN⟩), iM_145, (qw.trans (qw_Z hM_145) (qw_I hM_21 (by decide))), ((ry_Z hM_145).trans (ry_I hM_21)), (by first | omega | decide), (by first | omega | decide), by rw [((tI_uZE hM_145).trans (tI_uE hM_21))]; omega⟩) dX10_works_443
                · have qs_23_62 : sg.toInt ≠ 62 := pt_ne s_23_62 (by decide)
                  by_cases s_23_256 : sg = 256
                  · have qs_23_256 : sg.toInt = 256 := by rw [s_23_256]; decide
                    refine lv_lookup (tgt := 298) hx hb dX10_works_70 (by decide) (off := 228) (by rw [s_23_256]; decide) (by decide) ?_
                    refine lv_lload hx hb dX10_works_298 (lv_at hl 0 rfl) ?_
                    refine lv_lload_n hx hb dX10_works_300 rfl (lv_at hl 1 rfl) ?_
                    refine W.lcmp hx hb dX10_works_301 ?_
                    refine lv_topi (fun x_59 ex_59 => ?_)
                    have cx_59 := lg_c ex_59
                    refine sb_if_gt (tgt := 309) hx hb rfl dX10_works_302 (by decide) (fun c_302_59 => ?_) (fun c_302_59 => ?_)
                    · refine lv_iconst (v := 0) hx hb dX10_works_309 (by decide) ?_
                      refine ti_callSl (av := [.int 0]) C hw (z_X10_is l D A cy hJ M_21 iM_21 0) ⟨ml_X10_323, ys_X10_is, yi_X10_is, yc_X10_is⟩ yd_X10_is rfl hl.1 (Nat.le_of_ble_eq_true rfl) ⟨by decide, by decide⟩ ⟨Nat.zero_le _, Nat.zero_le _⟩ dX10_works_310 (fun r_63 M_64 H locs hp_64 hw => ?_)
                      obtain ⟨hm, pr_63⟩ := hp_64
                      have hw := hw.to hm
                      simp only [show (0 : Int32).toInt = 0 by decide] at pr_63
                      have tr_63 : r_63.toInt = 0 := by omega
                      refine lv_lstore (lv' := [(6, .long r_63), (4, .long x_18), (2, .long x_3), (0, .ref (A 60 0)), (1, .int sg)]) hx hb dX10_works_313 hl (by decide) rfl (fun ls hl => ?_)
                      refine lv_goto (tgt := 407) hx hb dX10_works_315 (by decide) ?_
                      refine lv_aload_n hx hb dX10_works_407 rfl (lv_at hl 3 rfl) ?_
                      refine ti_get (ci := 10) (k := 32) (N := 67) (T := TX10) (v := .ref (A 60 33)) C hw iw_10 rfl ob_60 (by decide) (by decide) fl_X10_66 rfl rfl dX10_works_408 ?_
                      refine lv_aload_n hx hb dX10_works_411 rfl (lv_at hl 3 rfl) ?_
                      refine ti_get (ci := 10) (k := 33) (N := 67) (T := TX10) C hw iw_10 rfl ob_60 (by decide) (by decide) fl_X10_320 rfl rfl dX10_works_412 ?_
                      refine ti_top (y := x_20) (tI_uE hM_21) ?_
                      have u_173 : (tI M_21 60 33).toInt = (x_20 : Int32).toInt := by rw [(tI_uE hM_21)]
                      refine lv_iconst (v := 1) hx hb dX10_works_415 (by decide) ?_
                      refine lv_isub hx hb dX10_works_416 ?_
                      refine lv_topi (fun x_174 ex_174 => ?_)
                      have tx_174 : x_174.toInt = x_20.toInt - 1 := i_sub ex_174 rfl (by decide : (1 : Int32).toInt = 1) (by omega) (by omega)
                      refine lv_lload hx hb dX10_works_417 (lv_at hl 0 rfl) ?_
                      refine ti_last (ci := 10) (k := 32) (n := 64) C hw ob_60 (by decide) (fun _ _ => rfl) (vp_in_iff.mpr (by omega)) dX10_works_419 (fun H locs hw => ?_)
                      obtain ⟨M_175, hM_175⟩ : ∃ z : ti_M, z = uZ M_21 60 32 (vp_updL (tZ M_21 60 32) (x_174 : Int32).toNatClampNeg r_63) := ⟨_, rfl⟩
                      have hw := hw.to hM_175.symm
                      have iM_175 : mI Tm M_175 := mI_uZ iM_21 hM_175
                      refine lv_lload hx hb dX10_works_420 (lv_at hl 0 rfl) ?_
                      refine lv_ldc2 (v := 1000000000000) hx hb C.2.2.2.1 (C.2.2.1 _ cn_X10_333) dX10_works_422 ?_
                      have z_176 : (1000000000000 : Int64).toInt = 1000000000000 := by decide
                      refine W.lcmp hx hb dX10_works_425 ?_
                      refine lv_topi (fun x_177 ex_177 => ?_)
                      have cx_177 := lg_c ex_177
                      refine sb_if_gt (tgt := 442) hx hb rfl dX10_works_426 (by decide) (fun c_426_177 => ?_) (fun c_426_177 => ?_)
                      · refine lv_iconst (v := 0) hx hb dX10_works_442 (by decide) ?_
                        exact hQ _ _ _ _ _ _ hw rfl (by exfalso; omega) dX10_works_443
                      · refine lv_lload hx hb dX10_works_429 (lv_at hl 0 rfl) ?_
                        refine lv_ldc2 (v := (-1000000000000)) hx hb C.2.2.2.1 (C.2.2.1 _ cn_X10_335) dX10_works_431 ?_
                        have z_275 : ((-1000000000000) : Int64).toInt = -1000000000000 := by decide
                        refine W.lcmp hx hb dX10_works_434 ?_
                        refine lv_topi (fun x_276 ex_276 => ?_)
                        have cx_276 := lg_c ex_276
                        refine sb_if_lt (tgt := 442) hx hb rfl dX10_works_435 (by decide) (fun c_435_276 => ?_) (fun c_435_276 => ?_)
                        · refine lv_iconst (v := 0) hx hb dX10_works_442 (by decide) ?_
                          exact hQ _ _ _ _ _ _ hw rfl (by exfalso; omega) dX10_works_443
                        · refine lv_iconst (v := 1) hx hb dX10_works_438 (by decide) ?_
                          refine lv_goto (tgt := 443) hx hb dX10_works_439 (by decide) ?_
                          have hsc : bq_sc sg.toInt = 33 := by unfold bq_sc; (repeat (first | rw [if_pos (by omega)] | rw [if_neg (by omega)]))
                          have er : bl_ER = -9223372036854775808 := rfl
                          have hbw : bl_w (bq_sc sg.toInt) (st (d.toInt.toNat - 2)) (st (d.toInt.toNat - 1)) = r_63.toInt := by rw [hsc, sy1, sy2]; unfold bl_w; (repeat (first | rw [if_pos (by omega)] | rw [if_neg (by omega)])); (try unfold bl_if); (repeat (first | rw [if_pos (by omega)] | rw [if_neg (by omega)])); first | omega | (rw [tr_63])
                          have hzN : rz (pp_su st (d.toInt.toNat - 2) (bl_w (bq_sc sg.toInt) (st (d.toInt.toNat - 2)) (st (d.toInt.toNat - 1)))) (d.toInt - 1) M_175 := by
                            have q := rz_up (t2 := d.toInt - 1) hz_22 hM_175 rfl (by omega) (z := bl_w (bq_sc sg.toInt) (st (d.toInt.toNat - 2)) (st (d.toInt.toNat - 1))) hbw.symm (by rw [hbw]; omega) (fun j hj => by omega)
                            rw [show x_174.toInt.toNat = d.toInt.toNat - 2 by omega] at q; exact q
                          exact hQ _ _ _ _ _ _ hw rfl (⟨(fI.trans (fI_Z hM_175) (fI_I hM_21)), (((tZ_nE hM_175 (nk (by decide))).trans (tZ_uIE hM_21))), Or.inr (Or.inl ⟨by decide, by omega, by rw [hbw]; omega, hzN⟩), iM_175, (qw.trans (qw_Z hM_175) (qw_I hM_21 (by decide))), ((ry_Z hM_175).trans (ry_I hM_21)), (by first | omega | decide), (by first | omega | decide), by rw [((tI_uZE hM_175).trans (tI_uE hM_21))]; omega⟩) dX10_works_443
                    · refine lv_iconst (v := 1) hx hb dX10_works_305 (by decide) ?_
                      refine lv_goto (tgt := 310) hx hb dX10_works_306 (by decide) ?_
                      refine ti_callSl (av := [.int 1]) C hw (z_X10_is l D A cy hJ M_21 iM_21 1) ⟨ml_X10_323, ys_X10_is, yi_X10_is, yc_X10_is⟩ yd_X10_is rfl hl.1 (Nat.le_of_ble_eq_true rfl) ⟨by decide, by decide⟩ ⟨Nat.zero_le _, Nat.zero_le _⟩ dX10_works_310 (fun r_61 M_62 H locs hp_62 hw => ?_)
                      obtain ⟨hm, pr_61⟩ := hp_62
                      have hw := hw.to hm
                      simp only [show (1 : Int32).toInt = 1 by decide] at pr_61
                      have tr_61 : r_61.toInt = 1 := by omega
                      refine lv_lstore (lv' := [(6, .long r_61), (4, .long x_18), (2, .long x_3), (0, .ref (A 60 0)), (1, .int sg)]) hx hb dX10_works_313 hl (by decide) rfl (fun ls hl => ?_)
                      refine lv_goto (tgt := 407) hx hb dX10_works_315 (by decide) ?_
                      refine lv_aload_n hx hb dX10_works_407 rfl (lv_at hl 3 rfl) ?_
                      refine ti_get (ci := 10) (k := 32) (N := 67) (T := TX10) (v := .ref (A 60 33)) C hw iw_10 rfl ob_60 (by decide) (by decide) fl_X10_66 rfl rfl dX10_works_408 ?_
                      refine lv_aload_n hx hb dX10_works_411 rfl (lv_at hl 3 rfl) ?_
                      refine ti_get (ci := 10) (k := 33) (N := 67) (T := TX10) C hw iw_10 rfl ob_60 (by decide) (by decide) fl_X10_320 rfl rfl dX10_works_412 ?_
                      refine ti_top (y := x_20) (tI_uE hM_21) ?_
                      have u_167 : (tI M_21 60 33).toInt = (x_20 : Int32).toInt := by rw [(tI_uE hM_21)]
                      refine lv_iconst (v := 1) hx hb dX10_works_415 (by decide) ?_
                      refine lv_isub hx hb dX10_works_416 ?_
                      refine lv_topi (fun x_168 ex_168 => ?_)
                      have tx_168 : x_168.toInt = x_20.toInt - 1 := i_sub ex_168 rfl (by decide : (1 : Int32).toInt = 1) (by omega) (by omega)
                      refine lv_lload hx hb dX10_works_417 (lv_at hl 0 rfl) ?_
                      refine ti_last (ci := 10) (k := 32) (n := 64) C hw ob_60 (by decide) (fun _ _ => rfl) (vp_in_iff.mpr (by omega)) dX10_works_419 (fun H locs hw => ?_)
                      obtain ⟨M_169, hM_169⟩ : ∃ z : ti_M, z = uZ M_21 60 32 (vp_updL (tZ M_21 60 32) (x_168 : Int32).toNatClampNeg r_61) := ⟨_, rfl⟩
                      have hw := hw.to hM_169.symm
                      have iM_169 : mI Tm M_169 := mI_uZ iM_21 hM_169
                      refine lv_lload hx hb dX10_works_420 (lv_at hl 0 rfl) ?_
                      refine lv_ldc2 (v := 1000000000000) hx hb C.2.2.2.1 (C.2.2.1 _ cn_X10_333) dX10_works_422 ?_
                      have z_170 : (1000000000000 : Int64).toInt = 1000000000000 := by decide
                      refine W.lcmp hx hb dX10_works_425 ?_
                      refine lv_topi (fun x_171 ex_171 => ?_)
                      have cx_171 := lg_c ex_171
                      refine sb_if_gt (tgt := 442) hx hb rfl dX10_works_426 (by decide) (fun c_426_171 => ?_) (fun c_426_171 => ?_)
                      · refine lv_iconst (v := 0) hx hb dX10_works_442 (by decide) ?_
                        exact hQ _ _ _ _ _ _ hw rfl (by exfalso; omega) dX10_works_443
                      · refine lv_lload hx hb dX10_works_429 (lv_at hl 0 rfl) ?_
                        refine lv_ldc2 (v := (-1000000000000)) hx hb C.2.2.2.1 (C.2.2.1 _ cn_X10_335) dX10_works_431 ?_
                        have z_272 : ((-1000000000000) : Int64).toInt = -1000000000000 := by decide
                        refine W.lcmp hx hb dX10_works_434 ?_
                        refine lv_topi (fun x_273 ex_273 => ?_)
                        have cx_273 := lg_c ex_273
                        refine sb_if_lt (tgt := 442) hx hb rfl dX10_works_435 (by decide) (fun c_435_273 => ?_) (fun c_435_273 => ?_)
                        · refine lv_iconst (v := 0) hx hb dX10_works_442 (by decide) ?_
                          exact hQ _ _ _ _ _ _ hw rfl (by exfalso; omega) dX10_works_443
                        · refine lv_iconst (v := 1) hx hb dX10_works_438 (by decide) ?_
                          refine lv_goto (tgt := 443) hx hb dX10_works_439 (by decide) ?_
                          have hsc : bq_sc sg.toInt = 33 := by unfold bq_sc; (repeat (first | rw [if_pos (by omega)] | rw [if_neg (by omega)]))
                          have er : bl_ER = -9223372036854775808 := rfl
                          have hbw : bl_w (bq_sc sg.toInt) (st (d.toInt.toNat - 2)) (st (d.toInt.toNat - 1)) = r_61.toInt := by rw [hsc, sy1, sy2]; unfold bl_w; (repeat (first | rw [if_pos (by omega)] | rw [if_neg (by omega)])); (try unfold bl_if); (repeat (first | rw [if_pos (by omega)] | rw [if_neg (by omega)])); first | omega | (rw [tr_61])
                          have hzN : rz (pp_su st (d.toInt.toNat - 2) (bl_w (bq_sc sg.toInt) (st (d.toInt.toNat - 2)) (st (d.toInt.toNat - 1)))) (d.toInt - 1) M_169 := by
                            have q := rz_up (t2 := d.toInt - 1) hz_22 hM_169 rfl (by omega) (z := bl_w (bq_sc sg.toInt) (st (d.toInt.toNat - 2)) (st (d.toInt.toNat - 1))) hbw.symm (by rw [hbw]; omega) (fun j hj => by omega)
                            rw [show x_168.toInt.toNat = d.toInt.toNat - 2 by omega] at q; exact q
                          exact hQ _ _ _ _ _ _ hw rfl (⟨(fI.trans (fI_Z hM_169) (fI_I hM_21)), (((tZ_nE hM_169 (nk (by decide))).trans (tZ_uIE hM_21))), Or.inr (Or.inl ⟨by decide, by omega, by rw [hbw]; omega, hzN⟩), iM_169, (qw.trans (qw_Z hM_169) (qw_I hM_21 (by decide))), ((ry_Z hM_169).trans (ry_I hM_21)), (by first | omega | decide), (by first | omega | decide), by rw [((tI_uZE hM_169).trans (tI_uE hM_21))]; omega⟩) dX10_works_443
                  · have qs_23_256 : sg.toInt ≠ 256 := pt_ne s_23_256 (by decide)
                    by_cases s_23_257 : sg = 257
                    · have qs_23_257 : sg.toInt = 257 := by rw [s_23_257]; decide
                      refine lv_lookup (tgt := 338) hx hb dX10_works_70 (by decide) (off := 268) (by rw [s_23_257]; decide) (by decide) ?_
                      refine lv_lload hx hb dX10_works_338 (lv_at hl 0 rfl) ?_
                      refine lv_lload_n hx hb dX10_works_340 rfl (lv_at hl 1 rfl) ?_
                      refine W.lcmp hx hb dX10_works_341 ?_
                      refine lv_topi (fun x_71 ex_71 => ?_)
                      have cx_71 := lg_c ex_71
                      refine sb_if_eq (tgt := 349) hx hb rfl dX10_works_342 (by decide) (fun c_342_71 => ?_) (fun c_342_71 => ?_)
                      · refine lv_iconst (v := 0) hx hb dX10_works_349 (by decide) ?_
                        refine ti_callSl (av := [.int 0]) C hw (z_X10_is l D A cy hJ M_21 iM_21 0) ⟨ml_X10_323, ys_X10_is, yi_X10_is, yc_X10_is⟩ yd_X10_is rfl hl.1 (Nat.le_of_ble_eq_true rfl) ⟨by decide, by decide⟩ ⟨Nat.zero_le _, Nat.zero_le _⟩ dX10_works_350 (fun r_75 M_76 H locs hp_76 hw => ?_)
                        obtain ⟨hm, pr_75⟩ := hp_76
                        have hw := hw.to hm
                        simp only [show (0 : Int32).toInt = 0 by decide] at pr_75
                        have tr_75 : r_75.toInt = 0 := by omega
                        refine lv_lstore (lv' := [(6, .long r_75), (4, .long x_18), (2, .long x_3), (0, .ref (A 60 0)), (1, .int sg)]) hx hb dX10_works_353 hl (by decide) rfl (fun ls hl => ?_)
                        refine lv_goto (tgt := 407) hx hb dX10_works_355 (by decide) ?_
                        refine lv_aload_n hx hb dX10_works_407 rfl (lv_at hl 3 rfl) ?_
                        refine ti_get (ci := 10) (k := 32) (N := 67) (T := TX10) (v := .ref (A 60 33)) C hw iw_10 rfl ob_60 (by decide) (by decide) fl_X10_66 rfl rfl dX10_works_408 ?_
                        refine lv_aload_n hx hb dX10_works_411 rfl (lv_at hl 3 rfl) ?_
                        refine ti_get (ci := 10) (k := 33) (N := 67) (T := TX10) C hw iw_10 rfl ob_60 (by decide) (by decide) fl_X10_320 rfl rfl dX10_works_412 ?_
                        refine ti_top (y := x_20) (tI_uE hM_21) ?_
                        have u_197 : (tI M_21 60 33).toInt = (x_20 : Int32).toInt := by rw [(tI_uE hM_21)]
                        refine lv_iconst (v := 1) hx hb dX10_works_415 (by decide) ?_
                        refine lv_isub hx hb dX10_works_416 ?_
                        refine lv_topi (fun x_198 ex_198 => ?_)
                        have tx_198 : x_198.toInt = x_20.toInt - 1 := i_sub ex_198 rfl (by decide : (1 : Int32).toInt = 1) (by omega) (by omega)
                        refine lv_lload hx hb dX10_works_417 (lv_at hl 0 rfl) ?_
                        refine ti_last (ci := 10) (k := 32) (n := 64) C hw ob_60 (by decide) (fun _ _ => rfl) (vp_in_iff.mpr (by omega)) dX10_works_419 (fun H locs hw => ?_)
                        obtain ⟨M_199, hM_199⟩ : ∃ z : ti_M, z = uZ M_21 60 32 (vp_updL (tZ M_21 60 32) (x_198 : Int32).toNatClampNeg r_75) := ⟨_, rfl⟩
                        have hw := hw.to hM_199.symm
                        have iM_199 : mI Tm M_199 := mI_uZ iM_21 hM_199
                        refine lv_lload hx hb dX10_works_420 (lv_at hl 0 rfl) ?_
                        refine lv_ldc2 (v := 1000000000000) hx hb C.2.2.2.1 (C.2.2.1 _ cn_X10_333) dX10_works_422 ?_
                        have z_200 : (1000000000000 : Int64).toInt = 1000000000000 := by decide
                        refine W.lcmp hx hb dX10_works_425 ?_
                        refine lv_topi (fun x_201 ex_201 => ?_)
                        have cx_201 := lg_c ex_201
                        refine sb_if_gt (tgt := 442) hx hb rfl dX10_works_426 (by decide) (fun c_426_201 => ?_) (fun c_426_201 => ?_)
                        · refine lv_iconst (v := 0) hx hb dX10_works_442 (by decide) ?_
                          exact hQ _ _ _ _ _ _ hw rfl (by exfalso; omega) dX10_works_443
                        · refine lv_lload hx hb dX10_works_429 (lv_at hl 0 rfl) ?_
                          refine lv_ldc2 (v := (-1000000000000)) hx hb C.2.2.2.1 (C.2.2.1 _ cn_X10_335) dX10_works_431 ?_
                          have z_287 : ((-1000000000000) : Int64).toInt = -1000000000000 := by decide
                          refine W.lcmp hx hb dX10_works_434 ?_
                          refine lv_topi (fun x_288 ex_288 => ?_)
                          have cx_288 := lg_c ex_288
                          refine sb_if_lt (tgt := 442) hx hb rfl dX10_works_435 (by decide) (fun c_435_288 => ?_) (fun c_435_288 => ?_)
                          · refine lv_iconst (v := 0) hx hb dX10_works_442 (by decide) ?_
                            exact hQ _ _ _ _ _ _ hw rfl (by exfalso; omega) dX10_works_443
                          · refine lv_iconst (v := 1) hx hb dX10_works_438 (by decide) ?_
                            refine lv_goto (tgt := 443) hx hb dX10_works_439 (by decide) ?_
                            have hsc : bq_sc sg.toInt = 35 := by unfold bq_sc; (repeat (first | rw [if_pos (by omega)] | rw [if_neg (by omega)]))
                            have er : bl_ER = -9223372036854775808 := rfl
                            have hbw : bl_w (bq_sc sg.toInt) (st (d.toInt.toNat - 2)) (st (d.toInt.toNat - 1)) = r_75.toInt := by rw [hsc, sy1, sy2]; unfold bl_w; (repeat (first | rw [if_pos (by omega)] | rw [if_neg (by omega)])); (try unfold bl_if); (repeat (first | rw [if_pos (by omega)] | rw [if_neg (by omega)])); first | omega | (rw [tr_75])
                            have hzN : rz (pp_su st (d.toInt.toNat - 2) (bl_w (bq_sc sg.toInt) (st (d.toInt.toNat - 2)) (st (d.toInt.toNat - 1)))) (d.toInt - 1) M_199 := by
                              have q := rz_up (t2 := d.toInt - 1) hz_22 hM_199 rfl (by omega) (z := bl_w (bq_sc sg.toInt) (st (d.toInt.toNat - 2)) (st (d.toInt.toNat - 1))) hbw.symm (by rw [hbw]; omega) (fun j hj => by omega)
                              rw [show x_198.toInt.toNat = d.toInt.toNat - 2 by omega] at q; exact q
                            exact hQ _ _ _ _ _ _ hw rfl (⟨(fI.trans (fI_Z hM_199) (fI_I hM_21)), (((tZ_nE hM_199 (nk (by decide))).trans (tZ_uIE hM_21))), Or.inr (Or.inl ⟨by decide, by omega, by rw [hbw]; omega, hzN⟩), iM_199, (qw.trans (qw_Z hM_199) (qw_I hM_21 (by decide))), ((ry_Z hM_199).trans (ry_I hM_21)), (by first | omega | decide), (by first | omega | decide), by rw [((tI_uZE hM_199).trans (tI_uE hM_21))]; omega⟩) dX10_works_443
                      · refine lv_iconst (v := 1) hx hb dX10_works_345 (by decide) ?_
                        refine lv_goto (tgt := 350) hx hb dX10_works_346 (by decide) ?_
                        refine ti_callSl (av := [.int 1]) C hw (z_X10_is l D A cy hJ M_21 iM_21 1) ⟨ml_X10_323, ys_X10_is, yi_X10_is, yc_X10_is⟩ yd_X10_is rfl hl.1 (Nat.le_of_ble_eq_true rfl) ⟨by decide, by decide⟩ ⟨Nat.zero_le _, Nat.zero_le _⟩ dX10_works_350 (fun r_73 M_74 H locs hp_74 hw => ?_)
                        obtain ⟨hm, pr_73⟩ := hp_74
                        have hw := hw.to hm
                        simp only [show (1 : Int32).toInt = 1 by decide] at pr_73
                        have tr_73 : r_73.toInt = 1 := by omega
                        refine lv_lstore (lv' := [(6, .long r_73), (4, .long x_18), (2, .long x_3), (0, .ref (A 60 0)), (1, .int sg)]) hx hb dX10_works_353 hl (by decide) rfl (fun ls hl => ?_)
                        refine lv_goto (tgt := 407) hx hb dX10_works_355 (by decide) ?_
                        refine lv_aload_n hx hb dX10_works_407 rfl (lv_at hl 3 rfl) ?_
                        refine ti_get (ci := 10) (k := 32) (N := 67) (T := TX10) (v := .ref (A 60 33)) C hw iw_10 rfl ob_60 (by decide) (by decide) fl_X10_66 rfl rfl dX10_works_408 ?_
                        refine lv_aload_n hx hb dX10_works_411 rfl (lv_at hl 3 rfl) ?_
                        refine ti_get (ci := 10) (k := 33) (N := 67) (T := TX10) C hw iw_10 rfl ob_60 (by decide) (by decide) fl_X10_320 rfl rfl dX10_works_412 ?_
                        refine ti_top (y := x_20) (tI_uE hM_21) ?_
                        have u_191 : (tI M_21 60 33).toInt = (x_20 : Int32).toInt := by rw [(tI_uE hM_21)]
                        refine lv_iconst (v := 1) hx hb dX10_works_415 (by decide) ?_
                        refine lv_isub hx hb dX10_works_416 ?_
                        refine lv_topi (fun x_192 ex_192 => ?_)
                        have tx_192 : x_192.toInt = x_20.toInt - 1 := i_sub ex_192 rfl (by decide : (1 : Int32).toInt = 1) (by omega) (by omega)
                        refine lv_lload hx hb dX10_works_417 (lv_at hl 0 rfl) ?_
                        refine ti_last (ci := 10) (k := 32) (n := 64) C hw ob_60 (by decide) (fun _ _ => rfl) (vp_in_iff.mpr (by omega)) dX10_works_419 (fun H locs hw => ?_)
                        obtain ⟨M_193, hM_193⟩ : ∃ z : ti_M, z = uZ M_21 60 32 (vp_updL (tZ M_21 60 32) (x_192 : Int32).toNatClampNeg r_73) := ⟨_, rfl⟩
                        have hw := hw.to hM_193.symm
                        have iM_193 : mI Tm M_193 := mI_uZ iM_21 hM_193
                        refine lv_lload hx hb dX10_works_420 (lv_at hl 0 rfl) ?_
                        refine lv_ldc2 (v := 1000000000000) hx hb C.2.2.2.1 (C.2.2.1 _ cn_X10_333) dX10_works_422 ?_
                        have z_194 : (1000000000000 : Int64).toInt = 1000000000000 := by decide
                        refine W.lcmp hx hb dX10_works_425 ?_
                        refine lv_topi (fun x_195 ex_195 => ?_)
                        have cx_195 := lg_c ex_195
                        refine sb_if_gt (tgt := 442) hx hb rfl dX10_works_426 (by decide) (fun c_426_195 => ?_) (fun c_426_195 => ?_)
                        · refine lv_iconst (v := 0) hx hb dX10_works_442 (by decide) ?_
                          exact hQ _ _ _ _ _ _ hw rfl (by exfalso; omega) dX10_works_443
                        · refine lv_lload hx hb dX10_works_429 (lv_at hl 0 rfl) ?_
                          refine lv_ldc2 (v := (-1000000000000)) hx hb C.2.2.2.1 (C.2.2.1 _ cn_X10_335) dX10_works_431 ?_
                          have z_284 : ((-1000000000000) : Int64).toInt = -1000000000000 := by decide
                          refine W.lcmp hx hb dX10_works_434 ?_
                          refine lv_topi (fun x_285 ex_285 => ?_)
                          have cx_285 := lg_c ex_285
                          refine sb_if_lt (tgt := 442) hx hb rfl dX10_works_435 (by decide) (fun c_435_285 => ?_) (fun c_435_285 => ?_)
                          · refine lv_iconst (v := 0) hx hb dX10_works_442 (by decide) ?_
                            exact hQ _ _ _ _ _ _ hw rfl (by exfalso; omega) dX10_works_443
                          · refine lv_iconst (v := 1) hx hb dX10_works_438 (by decide) ?_
                            refine lv_goto (tgt := 443) hx hb dX10_works_439 (by decide) ?_
                            have hsc : bq_sc sg.toInt = 35 := by unfold bq_sc; (repeat (first | rw [if_pos (by omega)] | rw [if_neg (by omega)]))
                            have er : bl_ER = -9223372036854775808 := rfl
                            have hbw : bl_w (bq_sc sg.toInt) (st (d.toInt.toNat - 2)) (st (d.toInt.toNat - 1)) = r_73.toInt := by rw [hsc, sy1, sy2]; unfold bl_w; (repeat (first | rw [if_pos (by omega)] | rw [if_neg (by omega)])); (try unfold bl_if); (repeat (first | rw [if_pos (by omega)] | rw [if_neg (by omega)])); first | omega | (rw [tr_73])
                            have hzN : rz (pp_su st (d.toInt.toNat - 2) (bl_w (bq_sc sg.toInt) (st (d.toInt.toNat - 2)) (st (d.toInt.toNat - 1)))) (d.toInt - 1) M_193 := by
                              have q := rz_up (t2 := d.toInt - 1) hz_22 hM_193 rfl (by omega) (z := bl_w (bq_sc sg.toInt) (st (d.toInt.toNat - 2)) (st (d.toInt.toNat - 1))) hbw.symm (by rw [hbw]; omega) (fun j hj => by omega)
                              rw [show x_192.toInt.toNat = d.toInt.toNat - 2 by omega] at q; exact q
                            exact hQ _ _ _ _ _ _ hw rfl (⟨(fI.trans (fI_Z hM_193) (fI_I hM_21)), (((tZ_nE hM_193 (nk (by decide))).trans (tZ_uIE hM_21))), Or.inr (Or.inl ⟨by decide, by omega, by rw [hbw]; omega, hzN⟩), iM_193, (qw.trans (qw_Z hM_193) (qw_I hM_21 (by decide))), ((ry_Z hM_193).trans (ry_I hM_21)), (by first | omega | decide), (by first | omega | decide), by rw [((tI_uZE hM_193).trans (tI_uE hM_21))]; omega⟩) dX10_works_443
                    · have qs_23_257 : sg.toInt ≠ 257 := pt_ne s_23_257 (by decide)
                      by_cases s_23_258 : sg = 258
                      · have qs_23_258 : sg.toInt = 258 := by rw [s_23_258]; decide
                        refine lv_lookup (tgt := 318) hx hb dX10_works_70 (by decide) (off := 248) (by rw [s_23_258]; decide) (by decide) ?_
                        refine lv_lload hx hb dX10_works_318 (lv_at hl 0 rfl) ?_
                        refine lv_lload_n hx hb dX10_works_320 rfl (lv_at hl 1 rfl) ?_
                        refine W.lcmp hx hb dX10_works_321 ?_
                        refine lv_topi (fun x_65 ex_65 => ?_)
                        have cx_65 := lg_c ex_65
                        refine sb_if_lt (tgt := 329) hx hb rfl dX10_works_322 (by decide) (fun c_322_65 => ?_) (fun c_322_65 => ?_)
                        · refine lv_iconst (v := 0) hx hb dX10_works_329 (by decide) ?_
                          refine ti_callSl (av := [.int 0]) C hw (z_X10_is l D A cy hJ M_21 iM_21 0) ⟨ml_X10_323, ys_X10_is, yi_X10_is, yc_X10_is⟩ yd_X10_is rfl hl.1 (Nat.le_of_ble_eq_true rfl) ⟨by decide, by decide⟩ ⟨Nat.zero_le _, Nat.zero_le _⟩ dX10_works_330 (fun r_69 M_70 H locs hp_70 hw => ?_)
                          obtain ⟨hm, pr_69⟩ := hp_70
                          have hw := hw.to hm
                          simp only [show (0 : Int32).toInt = 0 by decide] at pr_69
                          have tr_69 : r_69.toInt = 0 := by omega
                          refine lv_lstore (lv' := [(6, .long r_69), (4, .long x_18), (2, .long x_3), (0, .ref (A 60 0)), (1, .int sg)]) hx hb dX10_works_333 hl (by decide) rfl (fun ls hl => ?_)
                          refine lv_goto (tgt := 407) hx hb dX10_works_335 (by decide) ?_
                          refine lv_aload_n hx hb dX10_works_407 rfl (lv_at hl 3 rfl) ?_
                          refine ti_get (ci := 10) (k := 32) (N := 67) (T := TX10) (v := .ref (A 60 33)) C hw iw_10 rfl ob_60 (by decide) (by decide) fl_X10_66 rfl rfl dX10_works_408 ?_
                          refine lv_aload_n hx hb dX10_works_411 rfl (lv_at hl 3 rfl) ?_
                          refine ti_get (ci := 10) (k := 33) (N := 67) (T := TX10) C hw iw_10 rfl ob_60 (by decide) (by decide) fl_X10_320 rfl rfl dX10_works_412 ?_
                          refine ti_top (y := x_20) (tI_uE hM_21) ?_
                          have u_185 : (tI M_21 60 33).toInt = (x_20 : Int32).toInt := by rw [(tI_uE hM_21)]
                          refine lv_iconst (v := 1) hx hb dX10_works_415 (by decide) ?_
                          refine lv_isub hx hb dX10_works_416 ?_
                          refine lv_topi (fun x_186 ex_186 => ?_)
                          have tx_186 : x_186.toInt = x_20.toInt - 1 := i_sub ex_186 rfl (by decide : (1 : Int32).toInt = 1) (by omega) (by omega)
                          refine lv_lload hx hb dX10_works_417 (lv_at hl 0 rfl) ?_
                          refine ti_last (ci := 10) (k := 32) (n := 64) C hw ob_60 (by decide) (fun _ _ => rfl) (vp_in_iff.mpr (by omega)) dX10_works_419 (fun H locs hw => ?_)
                          obtain ⟨M_187, hM_187⟩ : ∃ z : ti_M, z = uZ M_21 60 32 (vp_updL (tZ M_21 60 32) (x_186 : Int32).toNatClampNeg r_69) := ⟨_, rfl⟩
                          have hw := hw.to hM_187.symm
                          have iM_187 : mI Tm M_187 := mI_uZ iM_21 hM_187
                          refine lv_lload hx hb dX10_works_420 (lv_at hl 0 rfl) ?_
                          refine lv_ldc2 (v := 1000000000000) hx hb C.2.2.2.1 (C.2.2.1 _ cn_X10_333) dX10_works_422 ?_
                          have z_188 : (1000000000000 : Int64).toInt = 1000000000000 := by decide
                          refine W.lcmp hx hb dX10_works_425 ?_
                          refine lv_topi (fun x_189 ex_189 => ?_)
                          have cx_189 := lg_c ex_189
                          refine sb_if_gt (tgt := 442) hx hb rfl dX10_works_426 (by decide) (fun c_426_189 => ?_) (fun c_426_189 => ?_)
                          · refine lv_iconst (v := 0) hx hb dX10_works_442 (by decide) ?_
                            exact hQ _ _ _ _ _ _ hw rfl (by exfalso; omega) dX10_works_443
                          · refine lv_lload hx hb dX10_works_429 (lv_at hl 0 rfl) ?_
                            refine lv_ldc2 (v := (-1000000000000)) hx hb C.2.2.2.1 (C.2.2.1 _ cn_X10_335) dX10_works_431 ?_
                            have z_281 : ((-1000000000000) : Int64).toInt = -1000000000000 := by decide
                            refine W.lcmp hx hb dX10_works_434 ?_
                            refine lv_topi (fun x_282 ex_282 => ?_)
                            have cx_282 := lg_c ex_282
                            refine sb_if_lt (tgt := 442) hx hb rfl dX10_works_435 (by decide) (fun c_435_282 => ?_) (fun c_435_282 => ?_)
                            · refine lv_iconst (v := 0) hx hb dX10_works_442 (by decide) ?_
                              exact hQ _ _ _ _ _ _ hw rfl (by exfalso; omega) dX10_works_443
                            · refine lv_iconst (v := 1) hx hb dX10_works_438 (by decide) ?_
                              refine lv_goto (tgt := 443) hx hb dX10_works_439 (by decide) ?_
                              have hsc : bq_sc sg.toInt = 36 := by unfold bq_sc; (repeat (first | rw [if_pos (by omega)] | rw [if_neg (by omega)]))
                              have er : bl_ER = -9223372036854775808 := rfl
                              have hbw : bl_w (bq_sc sg.toInt) (st (d.toInt.toNat - 2)) (st (d.toInt.toNat - 1)) = r_69.toInt := by rw [hsc, sy1, sy2]; unfold bl_w; (repeat (first | rw [if_pos (by omega)] | rw [if_neg (by omega)])); (try unfold bl_if); (repeat (first | rw [if_pos (by omega)] | rw [if_neg (by omega)])); first | omega | (rw [tr_69])
                              have hzN : rz (pp_su st (d.toInt.toNat - 2) (bl_w (bq_sc sg.toInt) (st (d.toInt.toNat - 2)) (st (d.toInt.toNat - 1)))) (d.toInt - 1) M_187 := by
                                have q := rz_up (t2 := d.toInt - 1) hz_22 hM_187 rfl (by omega) (z := bl_w (bq_sc sg.toInt) (st (d.toInt.toNat - 2)) (st (d.toInt.toNat - 1))) hbw.symm (by rw [hbw]; omega) (fun j hj => by omega)
                                rw [show x_186.toInt.toNat = d.toInt.toNat - 2 by omega] at q; exact q
                              exact hQ _ _ _ _ _ _ hw rfl (⟨(fI.trans (fI_Z hM_187) (fI_I hM_21)), (((tZ_nE hM_187 (nk (by decide))).trans (tZ_uIE hM_21))), Or.inr (Or.inl ⟨by decide, by omega, by rw [hbw]; omega, hzN⟩), iM_187, (qw.trans (qw_Z hM_187) (qw_I hM_21 (by decide))), ((ry_Z hM_187).trans (ry_I hM_21)), (by first | omega | decide), (by first | omega | decide), by rw [((tI_uZE hM_187).trans (tI_uE hM_21))]; omega⟩) dX10_works_443
                        · refine lv_iconst (v := 1) hx hb dX10_works_325 (by decide) ?_
                          refine lv_goto (tgt := 330) hx hb dX10_works_326 (by decide) ?_
                          refine ti_callSl (av := [.int 1]) C hw (z_X10_is l D A cy hJ M_21 iM_21 1) ⟨ml_X10_323, ys_X10_is, yi_X10_is, yc_X10_is⟩ yd_X10_is rfl hl.1 (Nat.le_of_ble_eq_true rfl) ⟨by decide, by decide⟩ ⟨Nat.zero_le _, Nat.zero_le _⟩ dX10_works_330 (fun r_67 M_68 H locs hp_68 hw => ?_)
                          obtain ⟨hm, pr_67⟩ := hp_68
                          have hw := hw.to hm
                          simp only [show (1 : Int32).toInt = 1 by decide] at pr_67
                          have tr_67 : r_67.toInt = 1 := by omega
                          refine lv_lstore (lv' := [(6, .long r_67), (4, .long x_18), (2, .long x_3), (0, .ref (A 60 0)), (1, .int sg)]) hx hb dX10_works_333 hl (by decide) rfl (fun ls hl => ?_)
                          refine lv_goto (tgt := 407) hx hb dX10_works_335 (by decide) ?_
                          refine lv_aload_n hx hb dX10_works_407 rfl (lv_at hl 3 rfl) ?_
                          refine ti_get (ci := 10) (k := 32) (N := 67) (T := TX10) (v := .ref (A 60 33)) C hw iw_10 rfl ob_60 (by decide) (by decide) fl_X10_66 rfl rfl dX10_works_408 ?_
                          refine lv_aload_n hx hb dX10_works_411 rfl (lv_at hl 3 rfl) ?_
                          refine ti_get (ci := 10) (k := 33) (N := 67) (T := TX10) C hw iw_10 rfl ob_60 (by decide) (by decide) fl_X10_320 rfl rfl dX10_works_412 ?_
                          refine ti_top (y := x_20) (tI_uE hM_21) ?_
                          have u_179 : (tI M_21 60 33).toInt = (x_20 : Int32).toInt := by rw [(tI_uE hM_21)]
                          refine lv_iconst (v := 1) hx hb dX10_works_415 (by decide) ?_
                          refine lv_isub hx hb dX10_works_416 ?_
                          refine lv_topi (fun x_180 ex_180 => ?_)
                          have tx_180 : x_180.toInt = x_20.toInt - 1 := i_sub ex_180 rfl (by decide : (1 : Int32).toInt = 1) (by omega) (by omega)
                          refine lv_lload hx hb dX10_works_417 (lv_at hl 0 rfl) ?_
                          refine ti_last (ci := 10) (k := 32) (n := 64) C hw ob_60 (by decide) (fun _ _ => rfl) (vp_in_iff.mpr (by omega)) dX10_works_419 (fun H locs hw => ?_)
                          obtain ⟨M_181, hM_181⟩ : ∃ z : ti_M, z = uZ M_21 60 32 (vp_updL (tZ M_21 60 32) (x_180 : Int32).toNatClampNeg r_67) := ⟨_, rfl⟩
                          have hw := hw.to hM_181.symm
                          have iM_181 : mI Tm M_181 := mI_uZ iM_21 hM_181
                          refine lv_lload hx hb dX10_works_420 (lv_at hl 0 rfl) ?_
                          refine lv_ldc2 (v := 1000000000000) hx hb C.2.2.2.1 (C.2.2.1 _ cn_X10_333) dX10_works_422 ?_
                          have z_182 : (1000000000000 : Int64).toInt = 1000000000000 := by decide
                          refine W.lcmp hx hb dX10_works_425 ?_
                          refine lv_topi (fun x_183 ex_183 => ?_)
                          have cx_183 := lg_c ex_183
                          refine sb_if_gt (tgt := 442) hx hb rfl dX10_works_426 (by decide) (fun c_426_183 => ?_) (fun c_426_183 => ?_)
                          · refine lv_iconst (v := 0) hx hb dX10_works_442 (by decide) ?_
                            exact hQ _ _ _ _ _ _ hw rfl (by exfalso; omega) dX10_works_443
                          · refine lv_lload hx hb dX10_works_429 (lv_at hl 0 rfl) ?_
                            refine lv_ldc2 (v := (-1000000000000)) hx hb C.2.2.2.1 (C.2.2.1 _ cn_X10_335) dX10_works_431 ?_
                            have z_278 : ((-1000000000000) : Int64).toInt = -1000000000000 := by decide
                            refine W.lcmp hx hb dX10_works_434 ?_
                            refine lv_topi (fun x_279 ex_279 => ?_)
                            have cx_279 := lg_c ex_279
                            refine sb_if_lt (tgt := 442) hx hb rfl dX10_works_435 (by decide) (fun c_435_279 => ?_) (fun c_435_279 => ?_)
                            · refine lv_iconst (v := 0) hx hb dX10_works_442 (by decide) ?_
                              exact hQ _ _ _ _ _ _ hw rfl (by exfalso; omega) dX10_works_443
                            · refine lv_iconst (v := 1) hx hb dX10_works_438 (by decide) ?_
                              refine lv_goto (tgt := 443) hx hb dX10_works_439 (by decide) ?_
                              have hsc : bq_sc sg.toInt = 36 := by unfold bq_sc; (repeat (first | rw [if_pos (by omega)] | rw [if_neg (by omega)]))
                              have er : bl_ER = -9223372036854775808 := rfl
                              have hbw : bl_w (bq_sc sg.toInt) (st (d.toInt.toNat - 2)) (st (d.toInt.toNat - 1)) = r_67.toInt := by rw [hsc, sy1, sy2]; unfold bl_w; (repeat (first | rw [if_pos (by omega)] | rw [if_neg (by omega)])); (try unfold bl_if); (repeat (first | rw [if_pos (by omega)] | rw [if_neg (by omega)])); first | omega | (rw [tr_67])
                              have hzN : rz (pp_su st (d.toInt.toNat - 2) (bl_w (bq_sc sg.toInt) (st (d.toInt.toNat - 2)) (st (d.toInt.toNat - 1)))) (d.toInt - 1) M_181 := by
                                have q := rz_up (t2 := d.toInt - 1) hz_22 hM_181 rfl (by omega) (z := bl_w (bq_sc sg.toInt) (st (d.toInt.toNat - 2)) (st (d.toInt.toNat - 1))) hbw.symm (by rw [hbw]; omega) (fun j hj => by omega)
                                rw [show x_180.toInt.toNat = d.toInt.toNat - 2 by omega] at q; exact q
                              exact hQ _ _ _ _ _ _ hw rfl (⟨(fI.trans (fI_Z hM_181) (fI_I hM_21)), (((tZ_nE hM_181 (nk (by decide))).trans (tZ_uIE hM_21))), Or.inr (Or.inl ⟨by decide, by omega, by rw [hbw]; omega, hzN⟩), iM_181, (qw.trans (qw_Z hM_181) (qw_I hM_21 (by decide))), ((ry_Z hM_181).trans (ry_I hM_21)), (by first | omega | decide), (by first | omega | decide), by rw [((tI_uZE hM_181).trans (tI_uE hM_21))]; omega⟩) dX10_works_443
                      · have qs_23_258 : sg.toInt ≠ 258 := pt_ne s_23_258 (by decide)
                        by_cases s_23_261 : sg = 261
                        · have qs_23_261 : sg.toInt = 261 := by rw [s_23_261]; decide
                          refine lv_lookup (tgt := 358) hx hb dX10_works_70 (by decide) (off := 288) (by rw [s_23_261]; decide) (by decide) ?_
                          refine lv_lload hx hb dX10_works_358 (lv_at hl 0 rfl) ?_
                          refine lv_lconst (v := 0) hx hb dX10_works_360 (by decide) ?_
                          have z_77 : (0 : Int64).toInt = 0 := by decide
                          refine W.lcmp hx hb dX10_works_361 ?_
                          refine lv_topi (fun x_78 ex_78 => ?_)
                          have cx_78 := lg_c ex_78
                          refine sb_if_eq (tgt := 375) hx hb rfl dX10_works_362 (by decide) (fun c_362_78 => ?_) (fun c_362_78 => ?_)
                          · refine lv_iconst (v := 0) hx hb dX10_works_375 (by decide) ?_
                            refine ti_callSl (av := [.int 0]) C hw (z_X10_is l D A cy hJ M_21 iM_21 0) ⟨ml_X10_323, ys_X10_is, yi_X10_is, yc_X10_is⟩ yd_X10_is rfl hl.1 (Nat.le_of_ble_eq_true rfl) ⟨by decide, by decide⟩ ⟨Nat.zero_le _, Nat.zero_le _⟩ dX10_works_376 (fun r_85 M_86 H locs hp_86 hw => ?_)
                            obtain ⟨hm, pr_85⟩ := hp_86
                            have hw := hw.to hm
                            simp only [show (0 : Int32).toInt = 0 by decide] at pr_85
                            have tr_85 : r_85.toInt = 0 := by omega
                            refine lv_lstore (lv' := [(6, .long r_85), (4, .long x_18), (2, .long x_3), (0, .ref (A 60 0)), (1, .int sg)]) hx hb dX10_works_379 hl (by decide) rfl (fun ls hl => ?_)
                            refine lv_goto (tgt := 407) hx hb dX10_works_381 (by decide) ?_
                            refine lv_aload_n hx hb dX10_works_407 rfl (lv_at hl 3 rfl) ?_
                            refine ti_get (ci := 10) (k := 32) (N := 67) (T := TX10) (v := .ref (A 60 33)) C hw iw_10 rfl ob_60 (by decide) (by decide) fl_X10_66 rfl rfl dX10_works_408 ?_
                            refine lv_aload_n hx hb dX10_works_411 rfl (lv_at hl 3 rfl) ?_
                            refine ti_get (ci := 10) (k := 33) (N := 67) (T := TX10) C hw iw_10 rfl ob_60 (by decide) (by decide) fl_X10_320 rfl rfl dX10_works_412 ?_
                            refine ti_top (y := x_20) (tI_uE hM_21) ?_
                            have u_209 : (tI M_21 60 33).toInt = (x_20 : Int32).toInt := by rw [(tI_uE hM_21)]
                            refine lv_iconst (v := 1) hx hb dX10_works_415 (by decide) ?_
                            refine lv_isub hx hb dX10_works_416 ?_
                            refine lv_topi (fun x_210 ex_210 => ?_)
                            have tx_210 : x_210.toInt = x_20.toInt - 1 := i_sub ex_210 rfl (by decide : (1 : Int32).toInt = 1) (by omega) (by omega)
                            refine lv_lload hx hb dX10_works_417 (lv_at hl 0 rfl) ?_
                            refine ti_last (ci := 10) (k := 32) (n := 64) C hw ob_60 (by decide) (fun _ _ => rfl) (vp_in_iff.mpr (by omega)) dX10_works_419 (fun H locs hw => ?_)
                            obtain ⟨M_211, hM_211⟩ : ∃ z : ti_M, z = uZ M_21 60 32 (vp_updL (tZ M_21 60 32) (x_210 : Int32).toNatClampNeg r_85) := ⟨_, rfl⟩
                            have hw := hw.to hM_211.symm
                            have iM_211 : mI Tm M_211 := mI_uZ iM_21 hM_211
                            refine lv_lload hx hb dX10_works_420 (lv_at hl 0 rfl) ?_
                            refine lv_ldc2 (v := 1000000000000) hx hb C.2.2.2.1 (C.2.2.1 _ cn_X10_333) dX10_works_422 ?_
                            have z_212 : (1000000000000 : Int64).toInt = 1000000000000 := by decide
                            refine W.lcmp hx hb dX10_works_425 ?_
                            refine lv_topi (fun x_213 ex_213 => ?_)
                            have cx_213 := lg_c ex_213
                            refine sb_if_gt (tgt := 442) hx hb rfl dX10_works_426 (by decide) (fun c_426_213 => ?_) (fun c_426_213 => ?_)
                            · refine lv_iconst (v := 0) hx hb dX10_works_442 (by decide) ?_
                              exact hQ _ _ _ _ _ _ hw rfl (by exfalso; omega) dX10_works_443
                            · refine lv_lload hx hb dX10_works_429 (lv_at hl 0 rfl) ?_
                              refine lv_ldc2 (v := (-1000000000000)) hx hb C.2.2.2.1 (C.2.2.1 _ cn_X10_335) dX10_works_431 ?_
                              have z_293 : ((-1000000000000) : Int64).toInt = -1000000000000 := by decide
                              refine W.lcmp hx hb dX10_works_434 ?_
                              refine lv_topi (fun x_294 ex_294 => ?_)
                              have cx_294 := lg_c ex_294
                              refine sb_if_lt (tgt := 442) hx hb rfl dX10_works_435 (by decide) (fun c_435_294 => ?_) (fun c_435_294 => ?_)
                              · refine lv_iconst (v := 0) hx hb dX10_works_442 (by decide) ?_
                                exact hQ _ _ _ _ _ _ hw rfl (by exfalso; omega) dX10_works_443
                              · refine lv_iconst (v := 1) hx hb dX10_works_438 (by decide) ?_
                                refine lv_goto (tgt := 443) hx hb dX10_works_439 (by decide) ?_
                                have hsc : bq_sc sg.toInt = 22 := by unfold bq_sc; (repeat (first | rw [if_pos (by omega)] | rw [if_neg (by omega)]))
                                have er : bl_ER = -9223372036854775808 := rfl
                                have hbw : bl_w (bq_sc sg.toInt) (st (d.toInt.toNat - 2)) (st (d.toInt.toNat - 1)) = r_85.toInt := by rw [hsc, sy1, sy2]; unfold bl_w; (repeat (first | rw [if_pos (by omega)] | rw [if_neg (by omega)])); (try unfold bl_if); (repeat (first | rw [if_pos (by omega)] | rw [if_neg (by omega)])); first | omega | (rw [tr_85])
                                have hzN : rz (pp_su st (d.toInt.toNat - 2) (bl_w (bq_sc sg.toInt) (st (d.toInt.toNat - 2)) (st (d.toInt.toNat - 1)))) (d.toInt - 1) M_211 := by
                                  have q := rz_up (t2 := d.toInt - 1) hz_22 hM_211 rfl (by omega) (z := bl_w (bq_sc sg.toInt) (st (d.toInt.toNat - 2)) (st (d.toInt.toNat - 1))) hbw.symm (by rw [hbw]; omega) (fun j hj => by omega)
                                  rw [show x_210.toInt.toNat = d.toInt.toNat - 2 by omega] at q; exact q
                                exact hQ _ _ _ _ _ _ hw rfl (⟨(fI.trans (fI_Z hM_211) (fI_I hM_21)), (((tZ_nE hM_211 (nk (by decide))).trans (tZ_uIE hM_21))), Or.inr (Or.inl ⟨by decide, by omega, by rw [hbw]; omega, hzN⟩), iM_211, (qw.trans (qw_Z hM_211) (qw_I hM_21 (by decide))), ((ry_Z hM_211).trans (ry_I hM_21)), (by first | omega | decide), (by first | omega | decide), by rw [((tI_uZE hM_211).trans (tI_uE hM_21))]; omega⟩) dX10_works_443
                          · refine lv_lload_n hx hb dX10_works_365 rfl (lv_at hl 1 rfl) ?_
                            refine lv_lconst (v := 0) hx hb dX10_works_366 (by decide) ?_
                            have z_80 : (0 : Int64).toInt = 0 := by decide
                            refine W.lcmp hx hb dX10_works_367 ?_
                            refine lv_topi (fun x_81 ex_81 => ?_)
                            have cx_81 := lg_c ex_81
                            refine sb_if_eq (tgt := 375) hx hb rfl dX10_works_368 (by decide) (fun c_368_81 => ?_) (fun c_368_81 => ?_)
                            · refine lv_iconst (v := 0) hx hb dX10_works_375 (by decide) ?_
                              refine ti_callSl (av := [.int 0]) C hw (z_X10_is l D A cy hJ M_21 iM_21 0) ⟨ml_X10_323, ys_X10_is, yi_X10_is, yc_X10_is⟩ yd_X10_is rfl hl.1 (Nat.le_of_ble_eq_true rfl) ⟨by decide, by decide⟩ ⟨Nat.zero_le _, Nat.zero_le _⟩ dX10_works_376 (fun r_87 M_88 H locs hp_88 hw => ?_)
                              obtain ⟨hm, pr_87⟩ := hp_88
                              have hw := hw.to hm
                              simp only [show (0 : Int32).toInt = 0 by decide] at pr_87
                              have tr_87 : r_87.toInt = 0 := by omega
                              refine lv_lstore (lv' := [(6, .long r_87), (4, .long x_18), (2, .long x_3), (0, .ref (A 60 0)), (1, .int sg)]) hx hb dX10_works_379 hl (by decide) rfl (fun ls hl => ?_)
                              refine lv_goto (tgt := 407) hx hb dX10_works_381 (by decide) ?_
                              refine lv_aload_n hx hb dX10_works_407 rfl (lv_at hl 3 rfl) ?_
                              refine ti_get (ci := 10) (k := 32) (N := 67) (T := TX10) (v := .ref (A 60 33)) C hw iw_10 rfl ob_60 (by decide) (by decide) fl_X10_66 rfl rfl dX10_works_408 ?_
                              refine lv_aload_n hx hb dX10_works_411 rfl (lv_at hl 3 rfl) ?_
                              refine ti_get (ci := 10) (k := 33) (N := 67) (T := TX10) C hw iw_10 rfl ob_60 (by decide) (by decide) fl_X10_320 rfl rfl dX10_works_412 ?_
                              refine ti_top (y := x_20) (tI_uE hM_21) ?_
                              have u_215 : (tI M_21 60 33).toInt = (x_20 : Int32).toInt := by rw [(tI_uE hM_21)]
                              refine lv_iconst (v := 1) hx hb dX10_works_415 (by decide) ?_
                              refine lv_isub hx hb dX10_works_416 ?_
                              refine lv_topi (fun x_216 ex_216 => ?_)
                              have tx_216 : x_216.toInt = x_20.toInt - 1 := i_sub ex_216 rfl (by decide : (1 : Int32).toInt = 1) (by omega) (by omega)
                              refine lv_lload hx hb dX10_works_417 (lv_at hl 0 rfl) ?_
                              refine ti_last (ci := 10) (k := 32) (n := 64) C hw ob_60 (by decide) (fun _ _ => rfl) (vp_in_iff.mpr (by omega)) dX10_works_419 (fun H locs hw => ?_)
                              obtain ⟨M_217, hM_217⟩ : ∃ z : ti_M, z = uZ M_21 60 32 (vp_updL (tZ M_21 60 32) (x_216 : Int32).toNatClampNeg r_87) := ⟨_, rfl⟩
                              have hw := hw.to hM_217.symm
                              have iM_217 : mI Tm M_217 := mI_uZ iM_21 hM_217
                              refine lv_lload hx hb dX10_works_420 (lv_at hl 0 rfl) ?_
                              refine lv_ldc2 (v := 1000000000000) hx hb C.2.2.2.1 (C.2.2.1 _ cn_X10_333) dX10_works_422 ?_
                              have z_218 : (1000000000000 : Int64).toInt = 1000000000000 := by decide
                              refine W.lcmp hx hb dX10_works_425 ?_
                              refine lv_topi (fun x_219 ex_219 => ?_)
                              have cx_219 := lg_c ex_219
                              refine sb_if_gt (tgt := 442) hx hb rfl dX10_works_426 (by decide) (fun c_426_219 => ?_) (fun c_426_219 => ?_)
                              · refine lv_iconst (v := 0) hx hb dX10_works_442 (by decide) ?_
                                exact hQ _ _ _ _ _ _ hw rfl (by exfalso; omega) dX10_works_443
                              · refine lv_lload hx hb dX10_works_429 (lv_at hl 0 rfl) ?_
                                refine lv_ldc2 (v := (-1000000000000)) hx hb C.2.2.2.1 (C.2.2.1 _ cn_X10_335) dX10_works_431 ?_
                                have z_296 : ((-1000000000000) : Int64).toInt = -1000000000000 := by decide
                                refine W.lcmp hx hb dX10_works_434 ?_
                                refine lv_topi (fun x_297 ex_297 => ?_)
                                have cx_297 := lg_c ex_297
                                refine sb_if_lt (tgt := 442) hx hb rfl dX10_works_435 (by decide) (fun c_435_297 => ?_) (fun c_435_297 => ?_)
                                · refine lv_iconst (v := 0) hx hb dX10_works_442 (by decide) ?_
                                  exact hQ _ _ _ _ _ _ hw rfl (by exfalso; omega) dX10_works_443
                                · refine lv_iconst (v := 1) hx hb dX10_works_438 (by decide) ?_
                                  refine lv_goto (tgt := 443) hx hb dX10_works_439 (by decide) ?_
                                  have hsc : bq_sc sg.toInt = 22 := by unfold bq_sc; (repeat (first | rw [if_pos (by omega)] | rw [if_neg (by omega)]))
                                  have er : bl_ER = -9223372036854775808 := rfl
                                  have hbw : bl_w (bq_sc sg.toInt) (st (d.toInt.toNat - 2)) (st (d.toInt.toNat - 1)) = r_87.toInt := by rw [hsc, sy1, sy2]; unfold bl_w; (repeat (first | rw [if_pos (by omega)] | rw [if_neg (by omega)])); (try unfold bl_if); (repeat (first | rw [if_pos (by omega)] | rw [if_neg (by omega)])); first | omega | (rw [tr_87])
                                  have hzN : rz (pp_su st (d.toInt.toNat - 2) (bl_w (bq_sc sg.toInt) (st (d.toInt.toNat - 2)) (st (d.toInt.toNat - 1)))) (d.toInt - 1) M_217 := by
                                    have q := rz_up (t2 := d.toInt - 1) hz_22 hM_217 rfl (by omega) (z := bl_w (bq_sc sg.toInt) (st (d.toInt.toNat - 2)) (st (d.toInt.toNat - 1))) hbw.symm (by rw [hbw]; omega) (fun j hj => by omega)
                                    rw [show x_216.toInt.toNat = d.toInt.toNat - 2 by omega] at q; exact q
                                  exact hQ _ _ _ _ _ _ hw rfl (⟨(fI.trans (fI_Z hM_217) (fI_I hM_21)), (((tZ_nE hM_217 (nk (by decide))).trans (tZ_uIE hM_21))), Or.inr (Or.inl ⟨by decide, by omega, by rw [hbw]; omega, hzN⟩), iM_217, (qw.trans (qw_Z hM_217) (qw_I hM_21 (by decide))), ((ry_Z hM_217).trans (ry_I hM_21)), (by first | omega | decide), (by first | omega | decide), by rw [((tI_uZE hM_217).trans (tI_uE hM_21))]; omega⟩) dX10_works_443
                            · refine lv_iconst (v := 1) hx hb dX10_works_371 (by decide) ?_
                              refine lv_goto (tgt := 376) hx hb dX10_works_372 (by decide) ?_
                              refine ti_callSl (av := [.int 1]) C hw (z_X10_is l D A cy hJ M_21 iM_21 1) ⟨ml_X10_323, ys_X10_is, yi_X10_is, yc_X10_is⟩ yd_X10_is rfl hl.1 (Nat.le_of_ble_eq_true rfl) ⟨by decide, by decide⟩ ⟨Nat.zero_le _, Nat.zero_le _⟩ dX10_works_376 (fun r_83 M_84 H locs hp_84 hw => ?_)
                              obtain ⟨hm, pr_83⟩ := hp_84
                              have hw := hw.to hm
                              simp only [show (1 : Int32).toInt = 1 by decide] at pr_83
                              have tr_83 : r_83.toInt = 1 := by omega
                              refine lv_lstore (lv' := [(6, .long r_83), (4, .long x_18), (2, .long x_3), (0, .ref (A 60 0)), (1, .int sg)]) hx hb dX10_works_379 hl (by decide) rfl (fun ls hl => ?_)
                              refine lv_goto (tgt := 407) hx hb dX10_works_381 (by decide) ?_
                              refine lv_aload_n hx hb dX10_works_407 rfl (lv_at hl 3 rfl) ?_
                              refine ti_get (ci := 10) (k := 32) (N := 67) (T := TX10) (v := .ref (A 60 33)) C hw iw_10 rfl ob_60 (by decide) (by decide) fl_X10_66 rfl rfl dX10_works_408 ?_
                              refine lv_aload_n hx hb dX10_works_411 rfl (lv_at hl 3 rfl) ?_
                              refine ti_get (ci := 10) (k := 33) (N := 67) (T := TX10) C hw iw_10 rfl ob_60 (by decide) (by decide) fl_X10_320 rfl rfl dX10_works_412 ?_
                              refine ti_top (y := x_20) (tI_uE hM_21) ?_
                              have u_203 : (tI M_21 60 33).toInt = (x_20 : Int32).toInt := by rw [(tI_uE hM_21)]
                              refine lv_iconst (v := 1) hx hb dX10_works_415 (by decide) ?_
                              refine lv_isub hx hb dX10_works_416 ?_
                              refine lv_topi (fun x_204 ex_204 => ?_)
                              have tx_204 : x_204.toInt = x_20.toInt - 1 := i_sub ex_204 rfl (by decide : (1 : Int32).toInt = 1) (by omega) (by omega)
                              refine lv_lload hx hb dX10_works_417 (lv_at hl 0 rfl) ?_
                              refine ti_last (ci := 10) (k := 32) (n := 64) C hw ob_60 (by decide) (fun _ _ => rfl) (vp_in_iff.mpr (by omega)) dX10_works_419 (fun H locs hw => ?_)
                              obtain ⟨M_205, hM_205⟩ : ∃ z : ti_M, z = uZ M_21 60 32 (vp_updL (tZ M_21 60 32) (x_204 : Int32).toNatClampNeg r_83) := ⟨_, rfl⟩
                              have hw := hw.to hM_205.symm
                              have iM_205 : mI Tm M_205 := mI_uZ iM_21 hM_205
                              refine lv_lload hx hb dX10_works_420 (lv_at hl 0 rfl) ?_
                              refine lv_ldc2 (v := 1000000000000) hx hb C.2.2.2.1 (C.2.2.1 _ cn_X10_333) dX10_works_422 ?_
                              have z_206 : (1000000000000 : Int64).toInt = 1000000000000 := by decide
                              refine W.lcmp hx hb dX10_works_425 ?_
                              refine lv_topi (fun x_207 ex_207 => ?_)
                              have cx_207 := lg_c ex_207
                              refine sb_if_gt (tgt := 442) hx hb rfl dX10_works_426 (by decide) (fun c_426_207 => ?_) (fun c_426_207 => ?_)
                              · refine lv_iconst (v := 0) hx hb dX10_works_442 (by decide) ?_
                                exact hQ _ _ _ _ _ _ hw rfl (by exfalso; omega) dX10_works_443
                              · refine lv_lload hx hb dX10_works_429 (lv_at hl 0 rfl) ?_
                                refine lv_ldc2 (v := (-1000000000000)) hx hb C.2.2.2.1 (C.2.2.1 _ cn_X10_335) dX10_works_431 ?_
                                have z_290 : ((-1000000000000) : Int64).toInt = -1000000000000 := by decide
                                refine W.lcmp hx hb dX10_works_434 ?_
                                refine lv_topi (fun x_291 ex_291 => ?_)
                                have cx_291 := lg_c ex_291
                                refine sb_if_lt (tgt := 442) hx hb rfl dX10_works_435 (by decide) (fun c_435_291 => ?_) (fun c_435_291 => ?_)
                                · refine lv_iconst (v := 0) hx hb dX10_works_442 (by decide) ?_
                                  exact hQ _ _ _ _ _ _ hw rfl (by exfalso; omega) dX10_works_443
                                · refine lv_iconst (v := 1) hx hb dX10_works_438 (by decide) ?_
                                  refine lv_goto (tgt := 443) hx hb dX10_works_439 (by decide) ?_
                                  have hsc : bq_sc sg.toInt = 22 := by unfold bq_sc; (repeat (first | rw [if_pos (by omega)] | rw [if_neg (by omega)]))
                                  have er : bl_ER = -9223372036854775808 := rfl
                                  have hbw : bl_w (bq_sc sg.toInt) (st (d.toInt.toNat - 2)) (st (d.toInt.toNat - 1)) = r_83.toInt := by rw [hsc, sy1, sy2]; unfold bl_w; (repeat (first | rw [if_pos (by omega)] | rw [if_neg (by omega)])); (try unfold bl_if); (repeat (first | rw [if_pos (by omega)] | rw [if_neg (by omega)])); first | omega | (rw [tr_83])
                                  have hzN : rz (pp_su st (d.toInt.toNat - 2) (bl_w (bq_sc sg.toInt) (st (d.toInt.toNat - 2)) (st (d.toInt.toNat - 1)))) (d.toInt - 1) M_205 := by
                                    have q := rz_up (t2 := d.toInt - 1) hz_22 hM_205 rfl (by omega) (z := bl_w (bq_sc sg.toInt) (st (d.toInt.toNat - 2)) (st (d.toInt.toNat - 1))) hbw.symm (by rw [hbw]; omega) (fun j hj => by omega)
                                    rw [show x_204.toInt.toNat = d.toInt.toNat - 2 by omega] at q; exact q
                                  exact hQ _ _ _ _ _ _ hw rfl (⟨(fI.trans (fI_Z hM_205) (fI_I hM_21)), (((tZ_nE hM_205 (nk (by decide))).trans (tZ_uIE hM_21))), Or.inr (Or.inl ⟨by decide, by omega, by rw [hbw]; omega, hzN⟩), iM_205, (qw.trans (qw_Z hM_205) (qw_I hM_21 (by decide))), ((ry_Z hM_205).trans (ry_I hM_21)), (by first | omega | decide), (by first | omega | decide), by rw [((tI_uZE hM_205).trans (tI_uE hM_21))]; omega⟩) dX10_works_443
                        · have qs_23_261 : sg.toInt ≠ 261 := pt_ne s_23_261 (by decide)
                          refine lv_lookup (tgt := 384) hx hb dX10_works_70 (by decide) (off := 314) (ti_lk _ sg.toInt _ (by intro q hq; simp only [List.mem_cons, List.not_mem_nil, or_false] at hq; rcases hq with rfl | rfl | rfl | rfl | rfl | rfl | rfl | rfl | rfl | rfl | rfl <;> first | exact ti_nev 42 s_23_42 (by decide) | exact ti_nev 43 s_23_43 (by decide) | exact ti_nev 45 s_23_45 (by decide) | exact ti_nev 47 s_23_47 (by decide) | exact ti_nev 60 s_23_60 (by decide) | exact ti_nev 61 s_23_61 (by decide) | exact ti_nev 62 s_23_62 (by decide) | exact ti_nev 256 s_23_256 (by decide) | exact ti_nev 257 s_23_257 (by decide) | exact ti_nev 258 s_23_258 (by decide) | exact ti_nev 261 s_23_261 (by decide))) (by decide) ?_
                          refine lv_lload hx hb dX10_works_384 (lv_at hl 0 rfl) ?_
                          refine lv_lconst (v := 0) hx hb dX10_works_386 (by decide) ?_
                          have z_89 : (0 : Int64).toInt = 0 := by decide
                          refine W.lcmp hx hb dX10_works_387 ?_
                          refine lv_topi (fun x_90 ex_90 => ?_)
                          have cx_90 := lg_c ex_90
                          refine sb_if_ne (tgt := 397) hx hb rfl dX10_works_388 (by decide) (fun c_388_90 => ?_) (fun c_388_90 => ?_)
                          · refine lv_iconst (v := 1) hx hb dX10_works_397 (by decide) ?_
                            refine lv_goto (tgt := 402) hx hb dX10_works_398 (by decide) ?_
                            refine ti_callSl (av := [.int 1]) C hw (z_X10_is l D A cy hJ M_21 iM_21 1) ⟨ml_X10_323, ys_X10_is, yi_X10_is, yc_X10_is⟩ yd_X10_is rfl hl.1 (Nat.le_of_ble_eq_true rfl) ⟨by decide, by decide⟩ ⟨Nat.zero_le _, Nat.zero_le _⟩ dX10_works_402 (fun r_95 M_96 H locs hp_96 hw => ?_)
                            obtain ⟨hm, pr_95⟩ := hp_96
                            have hw := hw.to hm
                            simp only [show (1 : Int32).toInt = 1 by decide] at pr_95
                            have tr_95 : r_95.toInt = 1 := by omega
                            refine lv_lstore (lv' := [(6, .long r_95), (4, .long x_18), (2, .long x_3), (0, .ref (A 60 0)), (1, .int sg)]) hx hb dX10_works_405 hl (by decide) rfl (fun ls hl => ?_)
                            refine lv_aload_n hx hb dX10_works_407 rfl (lv_at hl 3 rfl) ?_
                            refine ti_get (ci := 10) (k := 32) (N := 67) (T := TX10) (v := .ref (A 60 33)) C hw iw_10 rfl ob_60 (by decide) (by decide) fl_X10_66 rfl rfl dX10_works_408 ?_
                            refine lv_aload_n hx hb dX10_works_411 rfl (lv_at hl 3 rfl) ?_
                            refine ti_get (ci := 10) (k := 33) (N := 67) (T := TX10) C hw iw_10 rfl ob_60 (by decide) (by decide) fl_X10_320 rfl rfl dX10_works_412 ?_
                            refine ti_top (y := x_20) (tI_uE hM_21) ?_
                            have u_221 : (tI M_21 60 33).toInt = (x_20 : Int32).toInt := by rw [(tI_uE hM_21)]
                            refine lv_iconst (v := 1) hx hb dX10_works_415 (by decide) ?_
                            refine lv_isub hx hb dX10_works_416 ?_
                            refine lv_topi (fun x_222 ex_222 => ?_)
                            have tx_222 : x_222.toInt = x_20.toInt - 1 := i_sub ex_222 rfl (by decide : (1 : Int32).toInt = 1) (by omega) (by omega)
                            refine lv_lload hx hb dX10_works_417 (lv_at hl 0 rfl) ?_
                            refine ti_last (ci := 10) (k := 32) (n := 64) C hw ob_60 (by decide) (fun _ _ => rfl) (vp_in_iff.mpr (by omega)) dX10_works_419 (fun H locs hw => ?_)
                            obtain ⟨M_223, hM_223⟩ : ∃ z : ti_M, z = uZ M_21 60 32 (vp_updL (tZ M_21 60 32) (x_222 : Int32).toNatClampNeg r_95) := ⟨_, rfl⟩
                            have hw := hw.to hM_223.symm
                            have iM_223 : mI Tm M_223 := mI_uZ iM_21 hM_223
                            refine lv_lload hx hb dX10_works_420 (lv_at hl 0 rfl) ?_
                            refine lv_ldc2 (v := 1000000000000) hx hb C.2.2.2.1 (C.2.2.1 _ cn_X10_333) dX10_works_422 ?_
                            have z_224 : (1000000000000 : Int64).toInt = 1000000000000 := by decide
                            refine W.lcmp hx hb dX10_works_425 ?_
                            refine lv_topi (fun x_225 ex_225 => ?_)
                            have cx_225 := lg_c ex_225
                            refine sb_if_gt (tgt := 442) hx hb rfl dX10_works_426 (by decide) (fun c_426_225 => ?_) (fun c_426_225 => ?_)
                            · refine lv_iconst (v := 0) hx hb dX10_works_442 (by decide) ?_
                              exact hQ _ _ _ _ _ _ hw rfl (by exfalso; omega) dX10_works_443
                            · refine lv_lload hx hb dX10_works_429 (lv_at hl 0 rfl) ?_
                              refine lv_ldc2 (v := (-1000000000000)) hx hb C.2.2.2.1 (C.2.2.1 _ cn_X10_335) dX10_works_431 ?_
                              have z_299 : ((-1000000000000) : Int64).toInt = -1000000000000 := by decide
                              refine W.lcmp hx hb dX10_works_434 ?_
                              refine lv_topi (fun x_300 ex_300 => ?_)
                              have cx_300 := lg_c ex_300
                              refine sb_if_lt (tgt := 442) hx hb rfl dX10_works_435 (by decide) (fun c_435_300 => ?_) (fun c_435_300 => ?_)
                              · refine lv_iconst (v := 0) hx hb dX10_works_442 (by decide) ?_
                                exact hQ _ _ _ _ _ _ hw rfl (by exfalso; omega) dX10_works_443
                              · refine lv_iconst (v := 1) hx hb dX10_works_438 (by decide) ?_
                                refine lv_goto (tgt := 443) hx hb dX10_works_439 (by decide) ?_
                                have hsc : bq_sc sg.toInt = 23 := by unfold bq_sc; (repeat (first | rw [if_pos (by omega)] | rw [if_neg (by omega)]))
                                have er : bl_ER = -9223372036854775808 := rfl
                                have hbw : bl_w (bq_sc sg.toInt) (st (d.toInt.toNat - 2)) (st (d.toInt.toNat - 1)) = r_95.toInt := by rw [hsc, sy1, sy2]; unfold bl_w; (repeat (first | rw [if_pos (by omega)] | rw [if_neg (by omega)])); (try unfold bl_if); (repeat (first | rw [if_pos (by omega)] | rw [if_neg (by omega)])); first | omega | (rw [tr_95])
                                have hzN : rz (pp_su st (d.toInt.toNat - 2) (bl_w (bq_sc sg.toInt) (st (d.toInt.toNat - 2)) (st (d.toInt.toNat - 1)))) (d.toInt - 1) M_223 := by
                                  have q := rz_up (t2 := d.toInt - 1) hz_22 hM_223 rfl (by omega) (z := bl_w (bq_sc sg.toInt) (st (d.toInt.toNat - 2)) (st (d.toInt.toNat - 1))) hbw.symm (by rw [hbw]; omega) (fun j hj => by omega)
                                  rw [show x_222.toInt.toNat = d.toInt.toNat - 2 by omega] at q; exact q
                                exact hQ _ _ _ _ _ _ hw rfl (⟨(fI.trans (fI_Z hM_223) (fI_I hM_21)), (((tZ_nE hM_223 (nk (by decide))).trans (tZ_uIE hM_21))), Or.inr (Or.inl ⟨by decide, by omega, by rw [hbw]; omega, hzN⟩), iM_223, (qw.trans (qw_Z hM_223) (qw_I hM_21 (by decide))), ((ry_Z hM_223).trans (ry_I hM_21)), (by first | omega | decide), (by first | omega | decide), by rw [((tI_uZE hM_223).trans (tI_uE hM_21))]; omega⟩) dX10_works_443
                          · refine lv_lload_n hx hb dX10_works_391 rfl (lv_at hl 1 rfl) ?_
                            refine lv_lconst (v := 0) hx hb dX10_works_392 (by decide) ?_
                            have z_92 : (0 : Int64).toInt = 0 := by decide
                            refine W.lcmp hx hb dX10_works_393 ?_
                            refine lv_topi (fun x_93 ex_93 => ?_)
                            have cx_93 := lg_c ex_93
                            refine sb_if_eq (tgt := 401) hx hb rfl dX10_works_394 (by decide) (fun c_394_93 => ?_) (fun c_394_93 => ?_)
                            · refine lv_iconst (v := 0) hx hb dX10_works_401 (by decide) ?_
                              refine ti_callSl (av := [.int 0]) C hw (z_X10_is l D A cy hJ M_21 iM_21 0) ⟨ml_X10_323, ys_X10_is, yi_X10_is, yc_X10_is⟩ yd_X10_is rfl hl.1 (Nat.le_of_ble_eq_true rfl) ⟨by decide, by decide⟩ ⟨Nat.zero_le _, Nat.zero_le _⟩ dX10_works_402 (fun r_99 M_100 H locs hp_100 hw => ?_)
                              obtain ⟨hm, pr_99⟩ := hp_100
                              have hw := hw.to hm
                              simp only [show (0 : Int32).toInt = 0 by decide] at pr_99
                              have tr_99 : r_99.toInt = 0 := by omega
                              refine lv_lstore (lv' := [(6, .long r_99), (4, .long x_18), (2, .long x_3), (0, .ref (A 60 0)), (1, .int sg)]) hx hb dX10_works_405 hl (by decide) rfl (fun ls hl => ?_)
                              refine lv_aload_n hx hb dX10_works_407 rfl (lv_at hl 3 rfl) ?_
                              refine ti_get (ci := 10) (k := 32) (N := 67) (T := TX10) (v := .ref (A 60 33)) C hw iw_10 rfl ob_60 (by decide) (by decide) fl_X10_66 rfl rfl dX10_works_408 ?_
                              refine lv_aload_n hx hb dX10_works_411 rfl (lv_at hl 3 rfl) ?_
                              refine ti_get (ci := 10) (k := 33) (N := 67) (T := TX10) C hw iw_10 rfl ob_60 (by decide) (by decide) fl_X10_320 rfl rfl dX10_works_412 ?_
                              refine ti_top (y := x_20) (tI_uE hM_21) ?_
                              have u_233 : (tI M_21 60 33).toInt = (x_20 : Int32).toInt := by rw [(tI_uE hM_21)]
                              refine lv_iconst (v := 1) hx hb dX10_works_415 (by decide) ?_
                              refine lv_isub hx hb dX10_works_416 ?_
                              refine lv_topi (fun x_234 ex_234 => ?_)
                              have tx_234 : x_234.toInt = x_20.toInt - 1 := i_sub ex_234 rfl (by decide : (1 : Int32).toInt = 1) (by omega) (by omega)
                              refine lv_lload hx hb dX10_works_417 (lv_at hl 0 rfl) ?_
                              refine ti_last (ci := 10) (k := 32) (n := 64) C hw ob_60 (by decide) (fun _ _ => rfl) (vp_in_iff.mpr (by omega)) dX10_works_419 (fun H locs hw => ?_)
                              obtain ⟨M_235, hM_235⟩ : ∃ z : ti_M, z = uZ M_21 60 32 (vp_updL (tZ M_21 60 32) (x_234 : Int32).toNatClampNeg r_99) := ⟨_, rfl⟩
                              have hw := hw.to hM_235.symm
                              have iM_235 : mI Tm M_235 := mI_uZ iM_21 hM_235
                              refine lv_lload hx hb dX10_works_420 (lv_at hl 0 rfl) ?_
                              refine lv_ldc2 (v := 1000000000000) hx hb C.2.2.2.1 (C.2.2.1 _ cn_X10_333) dX10_works_422 ?_
                              have z_236 : (1000000000000 : Int64).toInt = 1000000000000 := by decide
                              refine W.lcmp hx hb dX10_works_425 ?_
                              refine lv_topi (fun x_237 ex_237 => ?_)
                              have cx_237 := lg_c ex_237
                              refine sb_if_gt (tgt := 442) hx hb rfl dX10_works_426 (by decide) (fun c_426_237 => ?_) (fun c_426_237 => ?_)
                              · refine lv_iconst (v := 0) hx hb dX10_works_442 (by decide) ?_
                                exact hQ _ _ _ _ _ _ hw rfl (by exfalso; omega) dX10_works_443
                              · refine lv_lload hx hb dX10_works_429 (lv_at hl 0 rfl) ?_
                                refine lv_ldc2 (v := (-1000000000000)) hx hb C.2.2.2.1 (C.2.2.1 _ cn_X10_335) dX10_works_431 ?_
                                have z_305 : ((-1000000000000) : Int64).toInt = -1000000000000 := by decide
                                refine W.lcmp hx hb dX10_works_434 ?_
                                refine lv_topi (fun x_306 ex_306 => ?_)
                                have cx_306 := lg_c ex_306
                                refine sb_if_lt (tgt := 442) hx hb rfl dX10_works_435 (by decide) (fun c_435_306 => ?_) (fun c_435_306 => ?_)
                                · refine lv_iconst (v := 0) hx hb dX10_works_442 (by decide) ?_
                                  exact hQ _ _ _ _ _ _ hw rfl (by exfalso; omega) dX10_works_443
                                · refine lv_iconst (v := 1) hx hb dX10_works_438 (by decide) ?_
                                  refine lv_goto (tgt := 443) hx hb dX10_works_439 (by decide) ?_
                                  have hsc : bq_sc sg.toInt = 23 := by unfold bq_sc; (repeat (first | rw [if_pos (by omega)] | rw [if_neg (by omega)]))
                                  have er : bl_ER = -9223372036854775808 := rfl
                                  have hbw : bl_w (bq_sc sg.toInt) (st (d.toInt.toNat - 2)) (st (d.toInt.toNat - 1)) = r_99.toInt := by rw [hsc, sy1, sy2]; unfold bl_w; (repeat (first | rw [if_pos (by omega)] | rw [if_neg (by omega)])); (try unfold bl_if); (repeat (first | rw [if_pos (by omega)] | rw [if_neg (by omega)])); first | omega | (rw [tr_99])
                                  have hzN : rz (pp_su st (d.toInt.toNat - 2) (bl_w (bq_sc sg.toInt) (st (d.toInt.toNat - 2)) (st (d.toInt.toNat - 1)))) (d.toInt - 1) M_235 := by
                                    have q := rz_up (t2 := d.toInt - 1) hz_22 hM_235 rfl (by omega) (z := bl_w (bq_sc sg.toInt) (st (d.toInt.toNat - 2)) (st (d.toInt.toNat - 1))) hbw.symm (by rw [hbw]; omega) (fun j hj => by omega)
                                    rw [show x_234.toInt.toNat = d.toInt.toNat - 2 by omega] at q; exact q
                                  exact hQ _ _ _ _ _ _ hw rfl (⟨(fI.trans (fI_Z hM_235) (fI_I hM_21)), (((tZ_nE hM_235 (nk (by decide))).trans (tZ_uIE hM_21))), Or.inr (Or.inl ⟨by decide, by omega, by rw [hbw]; omega, hzN⟩), iM_235, (qw.trans (qw_Z hM_235) (qw_I hM_21 (by decide))), ((ry_Z hM_235).trans (ry_I hM_21)), (by first | omega | decide), (by first | omega | decide), by rw [((tI_uZE hM_235).trans (tI_uE hM_21))]; omega⟩) dX10_works_443
                            · refine lv_iconst (v := 1) hx hb dX10_works_397 (by decide) ?_
                              refine lv_goto (tgt := 402) hx hb dX10_works_398 (by decide) ?_
                              refine ti_callSl (av := [.int 1]) C hw (z_X10_is l D A cy hJ M_21 iM_21 1) ⟨ml_X10_323, ys_X10_is, yi_X10_is, yc_X10_is⟩ yd_X10_is rfl hl.1 (Nat.le_of_ble_eq_true rfl) ⟨by decide, by decide⟩ ⟨Nat.zero_le _, Nat.zero_le _⟩ dX10_works_402 (fun r_97 M_98 H locs hp_98 hw => ?_)
                              obtain ⟨hm, pr_97⟩ := hp_98
                              have hw := hw.to hm
                              simp only [show (1 : Int32).toInt = 1 by decide] at pr_97
                              have tr_97 : r_97.toInt = 1 := by omega
                              refine lv_lstore (lv' := [(6, .long r_97), (4, .long x_18), (2, .long x_3), (0, .ref (A 60 0)), (1, .int sg)]) hx hb dX10_works_405 hl (by decide) rfl (fun ls hl => ?_)
                              refine lv_aload_n hx hb dX10_works_407 rfl (lv_at hl 3 rfl) ?_
                              refine ti_get (ci := 10) (k := 32) (N := 67) (T := TX10) (v := .ref (A 60 33)) C hw iw_10 rfl ob_60 (by decide) (by decide) fl_X10_66 rfl rfl dX10_works_408 ?_
                              refine lv_aload_n hx hb dX10_works_411 rfl (lv_at hl 3 rfl) ?_
                              refine ti_get (ci := 10) (k := 33) (N := 67) (T := TX10) C hw iw_10 rfl ob_60 (by decide) (by decide) fl_X10_320 rfl rfl dX10_works_412 ?_
                              refine ti_top (y := x_20) (tI_uE hM_21) ?_
                              have u_227 : (tI M_21 60 33).toInt = (x_20 : Int32).toInt := by rw [(tI_uE hM_21)]
                              refine lv_iconst (v := 1) hx hb dX10_works_415 (by decide) ?_
                              refine lv_isub hx hb dX10_works_416 ?_
                              refine lv_topi (fun x_228 ex_228 => ?_)
                              have tx_228 : x_228.toInt = x_20.toInt - 1 := i_sub ex_228 rfl (by decide : (1 : Int32).toInt = 1) (by omega) (by omega)
                              refine lv_lload hx hb dX10_works_417 (lv_at hl 0 rfl) ?_
                              refine ti_last (ci := 10) (k := 32) (n := 64) C hw ob_60 (by decide) (fun _ _ => rfl) (vp_in_iff.mpr (by omega)) dX10_works_419 (fun H locs hw => ?_)
                              obtain ⟨M_229, hM_229⟩ : ∃ z : ti_M, z = uZ M_21 60 32 (vp_updL (tZ M_21 60 32) (x_228 : Int32).toNatClampNeg r_97) := ⟨_, rfl⟩
                              have hw := hw.to hM_229.symm
                              have iM_229 : mI Tm M_229 := mI_uZ iM_21 hM_229
                              refine lv_lload hx hb dX10_works_420 (lv_at hl 0 rfl) ?_
                              refine lv_ldc2 (v := 1000000000000) hx hb C.2.2.2.1 (C.2.2.1 _ cn_X10_333) dX10_works_422 ?_
                              have z_230 : (1000000000000 : Int64).toInt = 1000000000000 := by decide
                              refine W.lcmp hx hb dX10_works_425 ?_
                              refine lv_topi (fun x_231 ex_231 => ?_)
                              have cx_231 := lg_c ex_231
                              refine sb_if_gt (tgt := 442) hx hb rfl dX10_works_426 (by decide) (fun c_426_231 => ?_) (fun c_426_231 => ?_)
                              · refine lv_iconst (v := 0) hx hb dX10_works_442 (by decide) ?_
                                exact hQ _ _ _ _ _ _ hw rfl (by exfalso; omega) dX10_works_443
                              · refine lv_lload hx hb dX10_works_429 (lv_at hl 0 rfl) ?_
                                refine lv_ldc2 (v := (-1000000000000)) hx hb C.2.2.2.1 (C.2.2.1 _ cn_X10_335) dX10_works_431 ?_
                                have z_302 : ((-1000000000000) : Int64).toInt = -1000000000000 := by decide
                                refine W.lcmp hx hb dX10_works_434 ?_
                                refine lv_topi (fun x_303 ex_303 => ?_)
                                have cx_303 := lg_c ex_303
                                refine sb_if_lt (tgt := 442) hx hb rfl dX10_works_435 (by decide) (fun c_435_303 => ?_) (fun c_435_303 => ?_)
                                · refine lv_iconst (v := 0) hx hb dX10_works_442 (by decide) ?_
                                  exact hQ _ _ _ _ _ _ hw rfl (by exfalso; omega) dX10_works_443
                                · refine lv_iconst (v := 1) hx hb dX10_works_438 (by decide) ?_
                                  refine lv_goto (tgt := 443) hx hb dX10_works_439 (by decide) ?_
                                  have hsc : bq_sc sg.toInt = 23 := by unfold bq_sc; (repeat (first | rw [if_pos (by omega)] | rw [if_neg (by omega)]))
                                  have er : bl_ER = -9223372036854775808 := rfl
                                  have hbw : bl_w (bq_sc sg.toInt) (st (d.toInt.toNat - 2)) (st (d.toInt.toNat - 1)) = r_97.toInt := by rw [hsc, sy1, sy2]; unfold bl_w; (repeat (first | rw [if_pos (by omega)] | rw [if_neg (by omega)])); (try unfold bl_if); (repeat (first | rw [if_pos (by omega)] | rw [if_neg (by omega)])); first | omega | (rw [tr_97])
                                  have hzN : rz (pp_su st (d.toInt.toNat - 2) (bl_w (bq_sc sg.toInt) (st (d.toInt.toNat - 2)) (st (d.toInt.toNat - 1)))) (d.toInt - 1) M_229 := by
                                    have q := rz_up (t2 := d.toInt - 1) hz_22 hM_229 rfl (by omega) (z := bl_w (bq_sc sg.toInt) (st (d.toInt.toNat - 2)) (st (d.toInt.toNat - 1))) hbw.symm (by rw [hbw]; omega) (fun j hj => by omega)
                                    rw [show x_228.toInt.toNat = d.toInt.toNat - 2 by omega] at q; exact q
                                  exact hQ _ _ _ _ _ _ hw rfl (⟨(fI.trans (fI_Z hM_229) (fI_I hM_21)), (((tZ_nE hM_229 (nk (by decide))).trans (tZ_uIE hM_21))), Or.inr (Or.inl ⟨by decide, by omega, by rw [hbw]; omega, hzN⟩), iM_229, (qw.trans (qw_Z hM_229) (qw_I hM_21 (by decide))), ((ry_Z hM_229).trans (ry_I hM_21)), (by first | omega | decide), (by first | omega | decide), by rw [((tI_uZE hM_229).trans (tI_uE hM_21))]; omega⟩) dX10_works_443
  · refine lv_aload_n hx hb dX10_works_19 rfl (lv_at hl 1 rfl) ?_
    refine ti_get (ci := 10) (k := 32) (N := 67) (T := TX10) (v := .ref (A 60 33)) C hw iw_10 rfl ob_60 (by decide) (by decide) fl_X10_66 rfl rfl dX10_works_20 ?_
    refine lv_aload_n hx hb dX10_works_23 rfl (lv_at hl 1 rfl) ?_
    refine ti_get (ci := 10) (k := 33) (N := 67) (T := TX10) C hw iw_10 rfl ob_60 (by decide) (by decide) fl_X10_320 rfl rfl dX10_works_24 ?_
    refine ti_top (y := d) (hd) ?_
    have u_5 : (tI M 60 33).toInt = (d : Int32).toInt := by rw [(hd)]
    refine lv_iconst (v := 1) hx hb dX10_works_27 (by decide) ?_
    refine lv_isub hx hb dX10_works_28 ?_
    refine lv_topi (fun x_6 ex_6 => ?_)
    have tx_6 : x_6.toInt = d.toInt - 1 := i_sub ex_6 rfl (by decide : (1 : Int32).toInt = 1) (by omega) (by omega)
    refine lv_lload_n hx hb dX10_works_29 rfl (lv_at hl 0 rfl) ?_
    refine lv_lconst (v := 0) hx hb dX10_works_30 (by decide) ?_
    have z_7 : (0 : Int64).toInt = 0 := by decide
    refine W.lcmp hx hb dX10_works_31 ?_
    refine lv_topi (fun x_8 ex_8 => ?_)
    have cx_8 := lg_c ex_8
    refine sb_if_ne (tgt := 39) hx hb rfl dX10_works_32 (by decide) (fun c_32_8 => ?_) (fun c_32_8 => ?_)
    · refine lv_iconst (v := 0) hx hb dX10_works_39 (by decide) ?_
      refine ti_callSl (av := [.int 0]) C hw (z_X10_is l D A cy hJ M hI 0) ⟨ml_X10_323, ys_X10_is, yi_X10_is, yc_X10_is⟩ yd_X10_is rfl hl.1 (Nat.le_of_ble_eq_true rfl) ⟨by decide, by decide⟩ ⟨Nat.zero_le _, Nat.zero_le _⟩ dX10_works_40 (fun r_13 M_14 H locs hp_14 hw => ?_)
      obtain ⟨hm, pr_13⟩ := hp_14
      have hw := hw.to hm
      simp only [show (0 : Int32).toInt = 0 by decide] at pr_13
      have tr_13 : r_13.toInt = 0 := by omega
      refine ti_last (ci := 10) (k := 32) (n := 64) C hw ob_60 (by decide) (fun _ _ => rfl) (vp_in_iff.mpr (by omega)) dX10_works_43 (fun H locs hw => ?_)
      obtain ⟨M_15, hM_15⟩ : ∃ z : ti_M, z = uZ M 60 32 (vp_updL (tZ M 60 32) (x_6 : Int32).toNatClampNeg r_13) := ⟨_, rfl⟩
      have hw := hw.to hM_15.symm
      have iM_15 : mI Tm M_15 := mI_uZ hI hM_15
      refine lv_iconst (v := 1) hx hb dX10_works_44 (by decide) ?_
      have hzN : rz (pp_su st (d.toInt.toNat - 1) (if st (d.toInt.toNat - 1) = 0 then 1 else 0)) d.toInt M_15 := by
        have q := rz_up (t2 := d.toInt) hz hM_15 rfl (by omega) (z := if st (d.toInt.toNat - 1) = 0 then 1 else 0) (by rw [sy1]; (repeat (first | rw [if_pos (by omega)] | rw [if_neg (by omega)])); omega) (by rw [sy1]; split <;> omega) (fun j hj => by omega)
        rw [show x_6.toInt.toNat = d.toInt.toNat - 1 by omega] at q; exact q
      exact hQ _ _ _ _ _ _ hw rfl (⟨(fI_Z hM_15), ((tZ_nE hM_15 (nk (by decide)))), Or.inl ⟨by decide, by omega, hzN⟩, iM_15, (qw_Z hM_15), (ry_Z hM_15), (by first | omega | decide), (by first | omega | decide), by rw [((tI_uZE hM_15).trans hd)]; omega⟩) dX10_works_45
    · refine lv_iconst (v := 1) hx hb dX10_works_35 (by decide) ?_
      refine lv_goto (tgt := 40) hx hb dX10_works_36 (by decide) ?_
      refine ti_callSl (av := [.int 1]) C hw (z_X10_is l D A cy hJ M hI 1) ⟨ml_X10_323, ys_X10_is, yi_X10_is, yc_X10_is⟩ yd_X10_is rfl hl.1 (Nat.le_of_ble_eq_true rfl) ⟨by decide, by decide⟩ ⟨Nat.zero_le _, Nat.zero_le _⟩ dX10_works_40 (fun r_10 M_11 H locs hp_11 hw => ?_)
      obtain ⟨hm, pr_10⟩ := hp_11
      have hw := hw.to hm
      simp only [show (1 : Int32).toInt = 1 by decide] at pr_10
      have tr_10 : r_10.toInt = 1 := by omega
      refine ti_last (ci := 10) (k := 32) (n := 64) C hw ob_60 (by decide) (fun _ _ => rfl) (vp_in_iff.mpr (by omega)) dX10_works_43 (fun H locs hw => ?_)
      obtain ⟨M_12, hM_12⟩ : ∃ z : ti_M, z = uZ M 60 32 (vp_updL (tZ M 60 32) (x_6 : Int32).toNatClampNeg r_10) := ⟨_, rfl⟩
      have hw := hw.to hM_12.symm
      have iM_12 : mI Tm M_12 := mI_uZ hI hM_12
      refine lv_iconst (v := 1) hx hb dX10_works_44 (by decide) ?_
      have hzN : rz (pp_su st (d.toInt.toNat - 1) (if st (d.toInt.toNat - 1) = 0 then 1 else 0)) d.toInt M_12 := by
        have q := rz_up (t2 := d.toInt) hz hM_12 rfl (by omega) (z := if st (d.toInt.toNat - 1) = 0 then 1 else 0) (by rw [sy1]; (repeat (first | rw [if_pos (by omega)] | rw [if_neg (by omega)])); omega) (by rw [sy1]; split <;> omega) (fun j hj => by omega)
        rw [show x_6.toInt.toNat = d.toInt.toNat - 1 by omega] at q; exact q
      exact hQ _ _ _ _ _ _ hw rfl (⟨(fI_Z hM_12), ((tZ_nE hM_12 (nk (by decide)))), Or.inl ⟨by decide, by omega, hzN⟩, iM_12, (qw_Z hM_12), (ry_Z hM_12), (by first | omega | decide), (by first | omega | decide), by rw [((tI_uZE hM_12).trans hd)]; omega⟩) dX10_works_45
set_option maxHeartbeats 4000000 in
set_option maxRecDepth 100000 in
theorem z_X10_goes (l : Launch) (D : va_G) (A : Nat → Nat → Nat) (cy : Nat → ClassId) (hJ : ti_inj ti_LM A) (M : ti_M) (hI : mI Tm M) (hL : mL M) (a : Int32) (h1 : 0 ≤ a.toInt) (h2 : a.toInt ≤ 2) (fa co : Nat → Int) (a0 : Nat) (len : Int) (hfa : rn6 fa 6 M) (ha0 : (tY M 60 14 a.toNatClampNeg).toInt = a0) (hto : (tY M 60 15 a.toNatClampNeg).toInt = a0 + len) (hlen : 0 < len) (hD : dp (tY M 60 16) (tY M 60 17) a0 len.toNat = some 1) (hco : ∀ n : Nat, (n : Int) < len → co n = bq_kc (tY M 60 16 (a0 + n)).toInt (tY M 60 17 (a0 + n)).toInt ∧ ((tY M 60 16 (a0 + n)).toInt = 0 → 0 ≤ (tY M 60 17 (a0 + n)).toInt)) : ti_Ki l yX10_goes cX10_goes 3 (some .boolean) 2 ti_LM D A cy M [.ref (A 60 0), .int a] (fun r M2 => fI M2 M ∧ ((r.toInt = 1 ∧ (tZ M2 60 32 0).toInt = bl_rn co fa len.toNat 0 0 (fun _ => 0) ∧ -1000000000000 ≤ bl_rn co fa len.toNat 0 0 (fun _ => 0) ∧ bl_rn co fa len.toNat 0 0 (fun _ => 0) ≤ 1000000000000) ∨ (r.toInt = 0 ∧ bl_rn co fa len.toNat 0 0 (fun _ => 0) = bl_ER)) ∧ mI Tm M2 ∧ qw M2 M ∧ M2.2.1 = M.2.1 ∧ 0 ≤ r.toInt ∧ r.toInt ≤ 1) := by
  refine ti_eI yp_X10_goes hJ ti_LM_nd (Nat.le_of_ble_eq_true rfl) ?_
  intro p e s m args below meth c Q H0 C hQ hw ls hl
  have hx := C.1
  have hb := C.2.1
  have hl : lv_has ls 3 [(0, .ref (A 60 0)), (1, .int a)] := hl
  refine lv_aload_n hx hb dX10_goes_0 rfl (lv_at hl 0 rfl) ?_
  refine lv_iconst (v := 0) hx hb dX10_goes_1 (by decide) ?_
  refine ti_putI (ci := 10) (k := 33) (N := 67) (T := TX10) C hw iw_10 tyX10 tyX10_ok nmX10 rfl ob_60 (by decide) (by decide) fl_X10_320 rfl rfl rfl rfl (fn_10 A _) fs_10_33 dX10_goes_2 (fun H locs hw => ?_)
  obtain ⟨M_1, hM_1⟩ : ∃ z : ti_M, z = uI M 60 33 0 := ⟨_, rfl⟩
  have hw := hw.to hM_1.symm
  have iM_1 : mI Tm M_1 := mI_uI hI hM_1 (by decide) (by decide) (ib_mk (lo := 0) (hi := 64) (by decide) (by decide))
  have vM_1 : (tI M_1 60 33).toInt = 0 := by rw [tI_uE hM_1]; decide
  have n6_2 : rn6 fa 6 M_1 := rn6_I hfa hM_1
  refine lv_aload_n hx hb dX10_goes_5 rfl (lv_at hl 0 rfl) ?_
  refine ti_get (ci := 10) (k := 14) (N := 67) (T := TX10) (v := .ref (A 60 15)) C hw iw_10 rfl ob_60 (by decide) (by decide) fl_X10_46 rfl rfl dX10_goes_6 ?_
  refine lv_iload_n hx hb dX10_goes_9 rfl (lv_at hl 1 rfl) ?_
  refine ti_iald (ci := 10) (k := 14) (n := 6) C hw ob_60 (by decide) (fun _ _ => rfl) (vp_in_iff.mpr (by omega)) dX10_goes_10 ?_
  refine lv_topi (fun x_3 ex_3 => ?_)
  have yx_3 : tY M_1 60 14 a.toNatClampNeg = x_3 := (ex_3.symm)
  have bx_3 : 0 ≤ x_3.toInt ∧ x_3.toInt ≤ 64 := mI_ry (k := 14) (i := a.toNatClampNeg) iM_1 yx_3.symm
  have wx_3 : tY M 60 14 a.toNatClampNeg = x_3 := ((cg (tY_uIE hM_1) a.toNatClampNeg)).symm.trans yx_3
  refine lv_istore_n (lv' := [(2, .int x_3), (0, .ref (A 60 0)), (1, .int a)]) hx hb dX10_goes_11 rfl hl (by decide) rfl (fun ls hl => ?_)
  have u_20 : (tI M_1 60 33).toInt = (0 : Int32).toInt := by rw [(tI_uE hM_1)]
  have hl_12_18 : ∀ (n_19 : Nat) (x_4 : Int32) (M_7 : ti_M) (st_11 : Nat → Int) (H : Heap) (locs : List Loc) (ls : Array Slot), (64 - x_4.toInt : Int).toNat < n_19 → (0 ≤ x_4.toInt) → (x_4.toInt ≤ 64) → (mI Tm M_7) → (qw M_7 M) → (M_7.2.1 = M.2.1) → (fI M_7 M) → (0 ≤ (tI M_7 60 33).toInt) → ((tY M 60 14 a.toNatClampNeg).toInt ≤ x_4.toInt) → (gd M a x_4.toInt (tI M_7 60 33).toInt.toNat) → (rz st_11 (tI M_7 60 33).toInt M_7) → (x_4.toInt ≤ (a0 : Int) + len) → (rn6 fa 6 M_7) → (bl_rn co fa ((a0 : Int) + len - x_4.toInt).toNat (x_4.toInt - (a0 : Int)).toNat (tI M_7 60 33).toInt.toNat st_11 = bl_rn co fa len.toNat 0 0 (fun _ => 0)) → ti_H ti_LM D A cy H0 M_7 H locs → lv_has ls 3 [(2, .int x_4), (0, .ref (A 60 0)), (1, .int a)] → W p l e (ti_rm 2) s m args below meth c H locs 0 0 Q (F0 m 12 ls []) := by
    intro n_19
    induction n_19 with
    | zero => intro x_4 M_7 st_11 H locs ls hf_19; exact absurd hf_19 (Nat.not_lt_zero _)
    | succ n_19 ih_19 =>
      intro x_4 M_7 st_11 H locs ls hf_19 b_5 b_6 iM_7 f_8 f_9 f_10 j_12 j_13 j_14 j_15 j_16 j_17 j_18 hw hl
      refine lv_iload_n hx hb dX10_goes_12 rfl (lv_at hl 0 rfl) ?_
      refine lv_aload_n hx hb dX10_goes_13 rfl (lv_at hl 1 rfl) ?_
      refine ti_get (ci := 10) (k := 15) (N := 67) (T := TX10) (v := .ref (A 60 16)) C hw iw_10 rfl ob_60 (by decide) (by decide) fl_X10_49 rfl rfl dX10_goes_14 ?_
      refine lv_iload_n hx hb dX10_goes_17 rfl (lv_at hl 2 rfl) ?_
      refine ti_iald (ci := 10) (k := 15) (n := 6) C hw ob_60 (by decide) (fun _ _ => rfl) (vp_in_iff.mpr (by omega)) dX10_goes_18 ?_
      refine lv_topi (fun x_21 ex_21 => ?_)
      have yx_21 : tY M_7 60 15 a.toNatClampNeg = x_21 := (ex_21.symm)
      have bx_21 : 0 ≤ x_21.toInt ∧ x_21.toInt ≤ 64 := mI_ry (k := 15) (i := a.toNatClampNeg) iM_7 yx_21.symm
      have wx_21 : tY M 60 15 a.toNatClampNeg = x_21 := ((cg (tY_fr f_9) a.toNatClampNeg)).symm.trans yx_21
      refine sb_icmp_ge (tgt := 102) hx hb rfl rfl dX10_goes_19 (by decide) (fun c_19_21 => ?_) (fun c_19_21 => ?_)
      · refine lv_iconst (v := 1) hx hb dX10_goes_102 (by decide) ?_
        have b15 := cg (tY_fr f_9 (o := 60) (k := 15)) a.toNatClampNeg
        have e15 : x_21.toInt = a0 + len := by rw [← hto, ← b15, ((cg (tY_fr f_9) a.toNatClampNeg).trans wx_21)]
        have dd : (tI M_7 60 33).toInt.toNat = 1 := by have q := j_14; unfold gd at q; rw [ha0, show ((a0 : Int)).toNat = a0 by omega, show x_4.toInt.toNat - a0 = len.toNat by omega, hD] at q; exact (Option.some.inj q).symm
        have vv : bl_rn co fa len.toNat 0 0 (fun _ => 0) = st_11 0 := by rw [← j_18, dd, rn_0 (by omega), if_pos rfl]
        have rr := j_15 0 (by omega)
        exact hQ _ _ _ _ _ _ hw rfl (⟨f_10, Or.inl ⟨by decide, by rw [vv]; exact rr.1, by rw [vv]; exact rr.2.1, by rw [vv]; exact rr.2.2⟩, iM_7, f_8, (f_9), by first | omega | decide, by first | omega | decide⟩) dX10_goes_103
      · obtain ⟨s9, es9⟩ : ∃ z, z = tY M 60 16 x_4.toNatClampNeg := ⟨_, rfl⟩
        obtain ⟨v9, ev9⟩ : ∃ z, z = tY M 60 17 x_4.toNatClampNeg := ⟨_, rfl⟩
        have b15 := cg (tY_fr f_9 (o := 60) (k := 15)) a.toNatClampNeg
        have hk2 : x_4.toInt < (tY M 60 15 a.toNatClampNeg).toInt := by rw [← b15, ((cg (tY_fr f_9) a.toNatClampNeg).trans wx_21)]; omega
        obtain ⟨d9, g9, hc9⟩ := mL_go hI hL h1 h2 (by omega) hk2 j_14
        rw [← es9, ← ev9] at hc9
        have l9 := gd_le j_14
        obtain ⟨w9, ew9⟩ : ∃ z, z = tI M_7 60 33 := ⟨_, rfl⟩
        have bw9 : 0 ≤ w9.toInt ∧ w9.toInt ≤ 64 := mI_rd iM_7 ew9
        have uw9 : (tI M_7 60 33).toInt = w9.toInt := by rw [ew9]
        have ek9 : x_4.toNatClampNeg = a0 + (x_4.toInt - (a0 : Int)).toNat := i_cl (by omega)
        have kc9 : co (x_4.toInt - (a0 : Int)).toNat = bq_kc s9.toInt v9.toInt ∧ (s9.toInt = 0 → 0 ≤ v9.toInt) := by have q := hco (x_4.toInt - (a0 : Int)).toNat (by omega); rw [← ek9, ← es9, ← ev9] at q; exact q
        refine lv_aload_n hx hb dX10_goes_22 rfl (lv_at hl 1 rfl) ?_
        refine ti_get (ci := 10) (k := 16) (N := 67) (T := TX10) (v := .ref (A 60 17)) C hw iw_10 rfl ob_60 (by decide) (by decide) fl_X10_52 rfl rfl dX10_goes_23 ?_
        refine lv_iload_n hx hb dX10_goes_26 rfl (lv_at hl 0 rfl) ?_
        refine ti_iald (ci := 10) (k := 16) (n := 128) C hw ob_60 (by decide) (fun _ _ => rfl) (vp_in_iff.mpr (by omega)) dX10_goes_27 ?_
        refine ti_top (y := s9) (((cg (tY_fr f_9) x_4.toNatClampNeg).trans es9.symm)) ?_
        refine lv_iconst (v := 2) hx hb dX10_goes_28 (by decide) ?_
        refine sb_icmp_ne (tgt := 47) hx hb rfl (by decide : (2 : Int32).toInt = 2) dX10_goes_29 (by decide) (fun c_29_23 => ?_) (fun c_29_23 => ?_)
        · refine lv_aload_n hx hb dX10_goes_47 rfl (lv_at hl 1 rfl) ?_
          refine ti_get (ci := 10) (k := 32) (N := 67) (T := TX10) (v := .ref (A 60 33)) C hw iw_10 rfl ob_60 (by decide) (by decide) fl_X10_66 rfl rfl dX10_goes_48 ?_
          refine lv_aload_n hx hb dX10_goes_51 rfl (lv_at hl 1 rfl) ?_
          refine ti_get (ci := 10) (k := 33) (N := 67) (T := TX10) C hw iw_10 rfl ob_60 (by decide) (by decide) fl_X10_320 rfl rfl dX10_goes_52 ?_
          refine ti_top (y := w9) (ew9.symm) ?_
          have u_33 : (tI M_7 60 33).toInt = (w9 : Int32).toInt := by rw [(ew9.symm)]
          refine lv_aload_n hx hb dX10_goes_55 rfl (lv_at hl 1 rfl) ?_
          refine ti_get (ci := 10) (k := 16) (N := 67) (T := TX10) (v := .ref (A 60 17)) C hw iw_10 rfl ob_60 (by decide) (by decide) fl_X10_52 rfl rfl dX10_goes_56 ?_
          refine lv_iload_n hx hb dX10_goes_59 rfl (lv_at hl 0 rfl) ?_
          refine ti_iald (ci := 10) (k := 16) (n := 128) C hw ob_60 (by decide) (fun _ _ => rfl) (vp_in_iff.mpr (by omega)) dX10_goes_60 ?_
          refine ti_top (y := s9) (((cg (tY_fr f_9) x_4.toNatClampNeg).trans es9.symm)) ?_
          refine sb_if_ne (tgt := 74) hx hb rfl dX10_goes_61 (by decide) (fun c_61_33 => ?_) (fun c_61_33 => ?_)
          · refine lv_aload_n hx hb dX10_goes_74 rfl (lv_at hl 1 rfl) ?_
            refine ti_get (ci := 10) (k := 31) (N := 67) (T := TX10) (v := .ref (A 60 32)) C hw iw_10 rfl ob_60 (by decide) (by decide) fl_X10_62 rfl rfl dX10_goes_75 ?_
            refine lv_aload_n hx hb dX10_goes_78 rfl (lv_at hl 1 rfl) ?_
            refine ti_get (ci := 10) (k := 17) (N := 67) (T := TX10) (v := .ref (A 60 18)) C hw iw_10 rfl ob_60 (by decide) (by decide) fl_X10_55 rfl rfl dX10_goes_79 ?_
            refine lv_iload_n hx hb dX10_goes_82 rfl (lv_at hl 0 rfl) ?_
            refine ti_iald (ci := 10) (k := 17) (n := 128) C hw ob_60 (by decide) (fun _ _ => rfl) (vp_in_iff.mpr (by omega)) dX10_goes_83 ?_
            refine ti_top (y := v9) (((cg (tY_fr f_9) x_4.toNatClampNeg).trans ev9.symm)) ?_
            refine ti_lald (ci := 10) (k := 31) (n := 6) C hw ob_60 (by decide) (fun _ _ => rfl) (vp_in_iff.mpr (by omega)) dX10_goes_84 ?_
            refine lv_topl (fun x_36 ex_36 => ?_)
            have lzx_36 := rn6_1 j_17 ex_36 (by omega) (by omega)
            have lax_36 := lzx_36.1
            have lbx_36 := lzx_36.2.1
            have lcx_36 := lzx_36.2.2
            refine ti_last (ci := 10) (k := 32) (n := 64) C hw ob_60 (by decide) (fun _ _ => rfl) (vp_in_iff.mpr (by omega)) dX10_goes_85 (fun H locs hw => ?_)
            obtain ⟨M_45, hM_45⟩ : ∃ z : ti_M, z = uZ M_7 60 32 (vp_updL (tZ M_7 60 32) (w9 : Int32).toNatClampNeg x_36) := ⟨_, rfl⟩
            have hw := hw.to hM_45.symm
            have iM_45 : mI Tm M_45 := mI_uZ iM_7 hM_45
            have n6_46 : rn6 fa 6 M_45 := rn6_32 j_17 hM_45
            have hz_47 : rz (pp_su st_11 w9.toInt.toNat x_36.toInt) (w9.toInt + 1) M_45 := rz_up (by have q := j_15; rw [uw9] at q; exact q) hM_45 rfl (by omega) rfl ⟨by omega, by omega⟩ (fun j hj => by omega)
            refine lv_aload_n hx hb dX10_goes_86 rfl (lv_at hl 1 rfl) ?_
            refine lv_dup hx hb dX10_goes_87 rfl ?_
            refine ti_get (ci := 10) (k := 33) (N := 67) (T := TX10) C hw iw_10 rfl ob_60 (by decide) (by decide) fl_X10_320 rfl rfl dX10_goes_88 ?_
            refine ti_top (y := w9) ((tI_uZE hM_45).trans ew9.symm) ?_
            have u_48 : (tI M_45 60 33).toInt = (w9 : Int32).toInt := by rw [((tI_uZE hM_45).trans ew9.symm)]
            refine lv_iconst (v := 1) hx hb dX10_goes_91 (by decide) ?_
            refine lv_iadd hx hb dX10_goes_92 ?_
            refine lv_topi (fun x_49 ex_49 => ?_)
            have tx_49 : x_49.toInt = w9.toInt + 1 := i_add ex_49 rfl (by decide : (1 : Int32).toInt = 1) (by omega) (by omega)
            refine ti_putI (ci := 10) (k := 33) (N := 67) (T := TX10) C hw iw_10 tyX10 tyX10_ok nmX10 rfl ob_60 (by decide) (by decide) fl_X10_320 rfl rfl rfl rfl (fn_10 A _) fs_10_33 dX10_goes_93 (fun H locs hw => ?_)
            obtain ⟨M_50, hM_50⟩ : ∃ z : ti_M, z = uI M_45 60 33 x_49 := ⟨_, rfl⟩
            have hw := hw.to hM_50.symm
            have iM_50 : mI Tm M_50 := mI_uI iM_45 hM_50 (by decide) (by decide) (ib_mk (lo := 0) (hi := 64) (by omega) (by omega))
            have vM_50 : (tI M_50 60 33).toInt = (x_49 : Int32).toInt := by rw [tI_uE hM_50]
            have n6_51 : rn6 fa 6 M_50 := rn6_I n6_46 hM_50
            have hz_52 := rz_I hz_47 hM_50
            obtain ⟨x_59, ex_59⟩ : ∃ z : Int32, z = x_4 + 1 := ⟨_, rfl⟩
            have tx_59 : x_59.toInt = x_4.toInt + 1 := i_add ex_59 rfl (by decide) (by omega) (by omega)
            refine lv_iinc (v := x_59) (lv' := [(2, .int x_59), (0, .ref (A 60 0)), (1, .int a)]) hx hb dX10_goes_96 hl (k := 0) rfl (by rw [ex_59]; rfl) (by decide) rfl (fun ls hl => ?_)
            refine lv_goto (tgt := 12) hx hb dX10_goes_99 (by decide) ?_
            have u_60 : (tI M_50 60 33).toInt = (x_49 : Int32).toInt := by rw [(tI_uE hM_50)]
            exact ih_19 x_59 M_50 (pp_su st_11 w9.toInt.toNat x_36.toInt) _ _ _ (by omega) (by first | omega | decide) (by first | omega | decide) iM_50 (qw.trans (qw_I hM_50 (by decide)) (qw.trans (qw_Z hM_45) f_8)) ((ry_I hM_50).trans ((ry_Z hM_45).trans f_9)) (fI.trans (fI_I hM_50) (fI.trans (fI_Z hM_45) f_10)) (by first | omega | decide) (by omega) (by rw [show (tI M_50 60 33).toInt.toNat = d9 by omega, show x_59.toInt = x_4.toInt + 1 by omega]; exact g9) (by rw [show (tI M_50 60 33).toInt = (w9.toInt + 1) by omega]; exact hz_52) (by omega) n6_51 (by have q := j_18; rw [uw9] at q; rw [← q]; have k1 := kc9.1; have k2 := kc9.2; have sb := sc_b (v := v9.toInt); have k3 : co (x_4.toInt - (a0 : Int)).toNat = -(16 + v9.toInt) := (by rw [k1]; unfold bq_kc; rw [if_neg (by omega), if_neg (by omega)]); rw [rn_p (co := co) (fa := fa) (f := ((a0 : Int) + len - x_4.toInt).toNat) (f' := ((a0 : Int) + len - x_59.toInt).toNat) (i := (x_4.toInt - (a0 : Int)).toNat) (t := w9.toInt.toNat) (st := st_11) (by omega) (by omega), show (if 0 ≤ co (x_4.toInt - (a0 : Int)).toNat then co (x_4.toInt - (a0 : Int)).toNat else fa (-(co (x_4.toInt - (a0 : Int)).toNat) - 16).toNat) = x_36.toInt from (by rw [if_neg (by omega), show (-(co (x_4.toInt - (a0 : Int)).toNat) - 16).toNat = v9.toInt.toNat by omega]; exact lax_36.symm), show (x_59.toInt - (a0 : Int)).toNat = (x_4.toInt - (a0 : Int)).toNat + 1 by omega, show (tI M_50 60 33).toInt.toNat = w9.toInt.toNat + 1 by omega]) hw (lv_sub hl [0, 1, 2] rfl)
          · refine lv_aload_n hx hb dX10_goes_64 rfl (lv_at hl 1 rfl) ?_
            refine ti_get (ci := 10) (k := 17) (N := 67) (T := TX10) (v := .ref (A 60 18)) C hw iw_10 rfl ob_60 (by decide) (by decide) fl_X10_55 rfl rfl dX10_goes_65 ?_
            refine lv_iload_n hx hb dX10_goes_68 rfl (lv_at hl 0 rfl) ?_
            refine ti_iald (ci := 10) (k := 17) (n := 128) C hw ob_60 (by decide) (fun _ _ => rfl) (vp_in_iff.mpr (by omega)) dX10_goes_69 ?_
            refine ti_top (y := v9) (((cg (tY_fr f_9) x_4.toNatClampNeg).trans ev9.symm)) ?_
            obtain ⟨x_35, ex_35⟩ : ∃ z : Int64, z = v9.toInt64 := ⟨_, rfl⟩
            refine lv_i2l (v := x_35) hx hb dX10_goes_70 ex_35.symm ?_
            have tx_35 : x_35.toInt = v9.toInt := by rw [ex_35, Int32.toInt_toInt64]
            have lox_35 := (v9 : Int32).le_toInt
            have hix_35 := (v9 : Int32).toInt_lt
            refine lv_goto (tgt := 85) hx hb dX10_goes_71 (by decide) ?_
            refine ti_last (ci := 10) (k := 32) (n := 64) C hw ob_60 (by decide) (fun _ _ => rfl) (vp_in_iff.mpr (by omega)) dX10_goes_85 (fun H locs hw => ?_)
            obtain ⟨M_37, hM_37⟩ : ∃ z : ti_M, z = uZ M_7 60 32 (vp_updL (tZ M_7 60 32) (w9 : Int32).toNatClampNeg x_35) := ⟨_, rfl⟩
            have hw := hw.to hM_37.symm
            have iM_37 : mI Tm M_37 := mI_uZ iM_7 hM_37
            have n6_38 : rn6 fa 6 M_37 := rn6_32 j_17 hM_37
            have hz_39 : rz (pp_su st_11 w9.toInt.toNat x_35.toInt) (w9.toInt + 1) M_37 := rz_up (by have q := j_15; rw [uw9] at q; exact q) hM_37 rfl (by omega) rfl ⟨by omega, by omega⟩ (fun j hj => by omega)
            refine lv_aload_n hx hb dX10_goes_86 rfl (lv_at hl 1 rfl) ?_
            refine lv_dup hx hb dX10_goes_87 rfl ?_
            refine ti_get (ci := 10) (k := 33) (N := 67) (T := TX10) C hw iw_10 rfl ob_60 (by decide) (by decide) fl_X10_320 rfl rfl dX10_goes_88 ?_
            refine ti_top (y := w9) ((tI_uZE hM_37).trans ew9.symm) ?_
            have u_40 : (tI M_37 60 33).toInt = (w9 : Int32).toInt := by rw [((tI_uZE hM_37).trans ew9.symm)]
            refine lv_iconst (v := 1) hx hb dX10_goes_91 (by decide) ?_
            refine lv_iadd hx hb dX10_goes_92 ?_
            refine lv_topi (fun x_41 ex_41 => ?_)
            have tx_41 : x_41.toInt = w9.toInt + 1 := i_add ex_41 rfl (by decide : (1 : Int32).toInt = 1) (by omega) (by omega)
            refine ti_putI (ci := 10) (k := 33) (N := 67) (T := TX10) C hw iw_10 tyX10 tyX10_ok nmX10 rfl ob_60 (by decide) (by decide) fl_X10_320 rfl rfl rfl rfl (fn_10 A _) fs_10_33 dX10_goes_93 (fun H locs hw => ?_)
            obtain ⟨M_42, hM_42⟩ : ∃ z : ti_M, z = uI M_37 60 33 x_41 := ⟨_, rfl⟩
            have hw := hw.to hM_42.symm
            have iM_42 : mI Tm M_42 := mI_uI iM_37 hM_42 (by decide) (by decide) (ib_mk (lo := 0) (hi := 64) (by omega) (by omega))
            have vM_42 : (tI M_42 60 33).toInt = (x_41 : Int32).toInt := by rw [tI_uE hM_42]
            have n6_43 : rn6 fa 6 M_42 := rn6_I n6_38 hM_42
            have hz_44 := rz_I hz_39 hM_42
            obtain ⟨x_57, ex_57⟩ : ∃ z : Int32, z = x_4 + 1 := ⟨_, rfl⟩
            have tx_57 : x_57.toInt = x_4.toInt + 1 := i_add ex_57 rfl (by decide) (by omega) (by omega)
            refine lv_iinc (v := x_57) (lv' := [(2, .int x_57), (0, .ref (A 60 0)), (1, .int a)]) hx hb dX10_goes_96 hl (k := 0) rfl (by rw [ex_57]; rfl) (by decide) rfl (fun ls hl => ?_)
            refine lv_goto (tgt := 12) hx hb dX10_goes_99 (by decide) ?_
            have u_58 : (tI M_42 60 33).toInt = (x_41 : Int32).toInt := by rw [(tI_uE hM_42)]
            exact ih_19 x_57 M_42 (pp_su st_11 w9.toInt.toNat x_35.toInt) _ _ _ (by omega) (by first | omega | decide) (by first | omega | decide) iM_42 (qw.trans (qw_I hM_42 (by decide)) (qw.trans (qw_Z hM_37) f_8)) ((ry_I hM_42).trans ((ry_Z hM_37).trans f_9)) (fI.trans (fI_I hM_42) (fI.trans (fI_Z hM_37) f_10)) (by first | omega | decide) (by omega) (by rw [show (tI M_42 60 33).toInt.toNat = d9 by omega, show x_57.toInt = x_4.toInt + 1 by omega]; exact g9) (by rw [show (tI M_42 60 33).toInt = (w9.toInt + 1) by omega]; exact hz_44) (by omega) n6_43 (by have q := j_18; rw [uw9] at q; rw [← q]; have k1 := kc9.1; have k2 := kc9.2; have sb := sc_b (v := v9.toInt); have k3 : co (x_4.toInt - (a0 : Int)).toNat = v9.toInt := (by rw [k1]; unfold bq_kc; rw [if_neg (by omega), if_pos (by omega)]); rw [rn_p (co := co) (fa := fa) (f := ((a0 : Int) + len - x_4.toInt).toNat) (f' := ((a0 : Int) + len - x_57.toInt).toNat) (i := (x_4.toInt - (a0 : Int)).toNat) (t := w9.toInt.toNat) (st := st_11) (by omega) (by omega), show (if 0 ≤ co (x_4.toInt - (a0 : Int)).toNat then co (x_4.toInt - (a0 : Int)).toNat else fa (-(co (x_4.toInt - (a0 : Int)).toNat) - 16).toNat) = x_35.toInt from (by rw [if_pos (by omega)]; omega), show (x_57.toInt - (a0 : Int)).toNat = (x_4.toInt - (a0 : Int)).toNat + 1 by omega, show (tI M_42 60 33).toInt.toNat = w9.toInt.toNat + 1 by omega]) hw (lv_sub hl [0, 1, 2] rfl)
        · refine lv_aload_n hx hb dX10_goes_32 rfl (lv_at hl 1 rfl) ?_
          refine lv_aload_n hx hb dX10_goes_33 rfl (lv_at hl 1 rfl) ?_
          refine ti_get (ci := 10) (k := 17) (N := 67) (T := TX10) (v := .ref (A 60 18)) C hw iw_10 rfl ob_60 (by decide) (by decide) fl_X10_55 rfl rfl dX10_goes_34 ?_
          refine lv_iload_n hx hb dX10_goes_37 rfl (lv_at hl 0 rfl) ?_
          refine ti_iald (ci := 10) (k := 17) (n := 128) C hw ob_60 (by decide) (fun _ _ => rfl) (vp_in_iff.mpr (by omega)) dX10_goes_38 ?_
          refine ti_top (y := v9) (((cg (tY_fr f_9) x_4.toNatClampNeg).trans ev9.symm)) ?_
          refine ti_callVi (ci := 10) (av := [.int v9]) C hw (z_X10_works l D A cy hJ M_7 iM_7 v9 w9 (ew9.symm) (by omega) (by omega) (by omega) st_11 (by have q := j_15; rw [uw9] at q; exact q)) ⟨ml_X10_337, ym_X10_works, yv_X10_works, yi_X10_works, yc_X10_works⟩ yd_X10_works ob_60 (by decide) rfl rfl hl.1 (Nat.le_of_ble_eq_true rfl) ⟨by decide, by decide⟩ ⟨Nat.zero_le _, Nat.zero_le _⟩ dX10_goes_39 (fun r_25 M_26 H locs hp_26 hw => ?_)
          obtain ⟨fiM_26, z31M_26, hdM_26, hqM_26⟩ := hp_26
          obtain ⟨iM_26, q_27, q_28, b0r_25, b1r_25, p0r_25⟩ := hqM_26
          have n6_29 : rn6 fa 6 M_26 := fun j hj => by rw [z31M_26]; exact j_17 j hj
          rcases hdM_26 with ⟨u1, u2, u3⟩ | ⟨u1, u2, u3, u4⟩ | ⟨u1, u2, u3⟩
          · refine sb_if_ne (tgt := 96) hx hb rfl dX10_goes_42 (by decide) (fun c_42_29 => ?_) (fun h => by omega)
            obtain ⟨x_53, ex_53⟩ : ∃ z : Int32, z = x_4 + 1 := ⟨_, rfl⟩
            have tx_53 : x_53.toInt = x_4.toInt + 1 := i_add ex_53 rfl (by decide) (by omega) (by omega)
            refine lv_iinc (v := x_53) (lv' := [(2, .int x_53), (0, .ref (A 60 0)), (1, .int a)]) hx hb dX10_goes_96 hl (k := 0) rfl (by rw [ex_53]; rfl) (by decide) rfl (fun ls hl => ?_)
            refine lv_goto (tgt := 12) hx hb dX10_goes_99 (by decide) ?_
            have u_54 : 0 ≤ (tI M_26 60 33).toInt ∧ (tI M_26 60 33).toInt ≤ 64 := mI_rd (x := tI M_26 60 33) (k := 33) iM_26 rfl
            exact ih_19 x_53 M_26 (pp_su st_11 (w9.toInt.toNat - 1) (if st_11 (w9.toInt.toNat - 1) = 0 then 1 else 0)) _ _ _ (by omega) (by first | omega | decide) (by first | omega | decide) iM_26 (qw.trans q_27 f_8) ((q_28).trans f_9) (fI.trans fiM_26 f_10) (by first | omega | decide) (by omega) (by rw [show (tI M_26 60 33).toInt.toNat = d9 by omega, show x_53.toInt = x_4.toInt + 1 by omega]; exact g9) (by rw [show (tI M_26 60 33).toInt = w9.toInt by omega]; exact u3) (by omega) n6_29 (by have q := j_18; rw [uw9] at q; rw [← q]; have k1 := kc9.1; have k2 := kc9.2; have sb := sc_b (v := v9.toInt); have k3 : co (x_4.toInt - (a0 : Int)).toNat = -24 := (by rw [k1]; unfold bq_kc; rw [if_pos (by omega)]; omega); rw [rn_n (co := co) (fa := fa) (f := ((a0 : Int) + len - x_4.toInt).toNat) (f' := ((a0 : Int) + len - x_53.toInt).toNat) (i := (x_4.toInt - (a0 : Int)).toNat) (t := w9.toInt.toNat) (st := st_11) (by omega) ⟨k3, by omega⟩, show (x_53.toInt - (a0 : Int)).toNat = (x_4.toInt - (a0 : Int)).toNat + 1 by omega, show (tI M_26 60 33).toInt.toNat = w9.toInt.toNat by omega]) hw (lv_sub hl [0, 1, 2] rfl)
          · refine sb_if_ne (tgt := 96) hx hb rfl dX10_goes_42 (by decide) (fun c_42_30 => ?_) (fun h => by omega)
            obtain ⟨x_55, ex_55⟩ : ∃ z : Int32, z = x_4 + 1 := ⟨_, rfl⟩
            have tx_55 : x_55.toInt = x_4.toInt + 1 := i_add ex_55 rfl (by decide) (by omega) (by omega)
            refine lv_iinc (v := x_55) (lv' := [(2, .int x_55), (0, .ref (A 60 0)), (1, .int a)]) hx hb dX10_goes_96 hl (k := 0) rfl (by rw [ex_55]; rfl) (by decide) rfl (fun ls hl => ?_)
            refine lv_goto (tgt := 12) hx hb dX10_goes_99 (by decide) ?_
            have u_56 : 0 ≤ (tI M_26 60 33).toInt ∧ (tI M_26 60 33).toInt ≤ 64 := mI_rd (x := tI M_26 60 33) (k := 33) iM_26 rfl
            exact ih_19 x_55 M_26 (pp_su st_11 (w9.toInt.toNat - 2) (bl_w (bq_sc v9.toInt) (st_11 (w9.toInt.toNat - 2)) (st_11 (w9.toInt.toNat - 1)))) _ _ _ (by omega) (by first | omega | decide) (by first | omega | decide) iM_26 (qw.trans q_27 f_8) ((q_28).trans f_9) (fI.trans fiM_26 f_10) (by first | omega | decide) (by omega) (by rw [show (tI M_26 60 33).toInt.toNat = d9 by omega, show x_55.toInt = x_4.toInt + 1 by omega]; exact g9) (by rw [show (tI M_26 60 33).toInt = (w9.toInt - 1) by omega]; exact u4) (by omega) n6_29 (by have q := j_18; rw [uw9] at q; rw [← q]; have k1 := kc9.1; have k2 := kc9.2; have sb := sc_b (v := v9.toInt); have k3 : co (x_4.toInt - (a0 : Int)).toNat = -(bq_sc v9.toInt) := (by rw [k1]; unfold bq_kc; rw [if_pos (by omega)]); have k4 : -(co (x_4.toInt - (a0 : Int)).toNat) = bq_sc v9.toInt := (by omega); rw [rn_b (co := co) (fa := fa) (f := ((a0 : Int) + len - x_4.toInt).toNat) (f' := ((a0 : Int) + len - x_55.toInt).toNat) (i := (x_4.toInt - (a0 : Int)).toNat) (t := w9.toInt.toNat) (st := st_11) (by omega) ⟨by omega, by omega, by omega⟩ (by rw [k4]; omega), k4, show (x_55.toInt - (a0 : Int)).toNat = (x_4.toInt - (a0 : Int)).toNat + 1 by omega, show (tI M_26 60 33).toInt.toNat = w9.toInt.toNat - 1 by omega]) hw (lv_sub hl [0, 1, 2] rfl)
          · refine sb_if_ne (tgt := 96) hx hb rfl dX10_goes_42 (by decide) (fun h => by omega) (fun c_42_31 => ?_)
            refine lv_iconst (v := 0) hx hb dX10_goes_45 (by decide) ?_
            exact hQ _ _ _ _ _ _ hw rfl (⟨(fI.trans fiM_26 f_10), Or.inr ⟨by decide, (by have q := j_18; rw [uw9] at q; rw [← q]; have k1 := kc9.1; have sb := sc_b (v := v9.toInt); have k3 : co (x_4.toInt - (a0 : Int)).toNat = -(bq_sc v9.toInt) := (by rw [k1]; unfold bq_kc; rw [if_pos (by omega)]); have k4 : -(co (x_4.toInt - (a0 : Int)).toNat) = bq_sc v9.toInt := (by omega); rw [rn_x (co := co) (fa := fa) (f := ((a0 : Int) + len - x_4.toInt).toNat) (f' := ((a0 : Int) + len - x_4.toInt - 1).toNat) (i := (x_4.toInt - (a0 : Int)).toNat) (t := w9.toInt.toNat) (st := st_11) (by omega) ⟨by omega, by omega, by omega⟩ (by rw [k4]; omega)])⟩, iM_26, (qw.trans q_27 f_8), ((q_28).trans f_9), by first | omega | decide, by first | omega | decide⟩) dX10_goes_46
  exact hl_12_18 ((64 - x_3.toInt : Int).toNat + 1) x_3 M_1 (fun _ => 0) _ _ _ (Nat.lt_succ_self _) (by first | omega | decide) (by first | omega | decide) iM_1 (qw_I hM_1 (by decide)) (ry_I hM_1) (fI_I hM_1) (by first | omega | decide) (by rw [((cg (tY_uIE hM_1) a.toNatClampNeg).symm.trans ((cg (tY_uIE hM_1) a.toNatClampNeg).trans wx_3))]; exact Int.le_refl _) (by rw [tI_uE hM_1]; exact gd_0 ((cg (tY_uIE hM_1) a.toNatClampNeg).symm.trans ((cg (tY_uIE hM_1) a.toNatClampNeg).trans wx_3))) (fun j hj => absurd hj (by rw [tI_uE hM_1]; have := (by decide : (0 : Int32).toInt = 0); omega)) (by have h0 : x_3.toInt = (a0 : Int) := (by rw [← ((cg (tY_uIE hM_1) a.toNatClampNeg).symm.trans ((cg (tY_uIE hM_1) a.toNatClampNeg).trans wx_3))]; exact ha0); omega) n6_2 (by have h0 := (show x_3.toInt = (a0 : Int) from by rw [← ((cg (tY_uIE hM_1) a.toNatClampNeg).symm.trans ((cg (tY_uIE hM_1) a.toNatClampNeg).trans wx_3))]; exact ha0); rw [tI_uE hM_1, show ((a0 : Int) + len - x_3.toInt) = len by omega, show (x_3.toInt - (a0 : Int)).toNat = 0 by omega]; rfl) hw (lv_sub hl [0, 1, 2] rfl)

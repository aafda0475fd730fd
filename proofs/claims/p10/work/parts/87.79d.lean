variable {Tc : gC} {Tm : gM}
variable {Tc : gC} {Tm : gM}
set_option maxHeartbeats 4000000 in
set_option maxRecDepth 100000 in
theorem z_X10_levy_0 (l : Launch) (D : va_G) (A : Nat → Nat → Nat) (cy : Nat → ClassId) (hJ : ti_inj ti_LM A) (M : ti_M) (hI : mI Tm M) (hL : mL M) (t : Int32) (tx rg : Nat → Int) (htr : tR tx M) (ht4 : 0 ≤ tx 4 ∧ tx 4 ≤ 8) (hr : qR (tx 4).toNat 0 rg M) (hwf : wF tx rg) (htw : tI M 60 53 = -1) (htW : tW tx) (htm : t.toInt = rg 2) (h2 : 0 ≤ rg 2) : ti_Kv l yX10_levy cX10_levy 8 4 ti_LM D A cy M [.ref (A 60 0), .int 0, .int t] (fun M2 => eR 0 M2 M ∧ tY M2 60 48 = tY M 60 48 ∧ qR (tx 4).toNat 0 (bq_ly tx rg) M2 ∧ mI Tm M2 ∧ qw M2 M ∧ tY M2 60 34 = tY M 60 34) := by
  refine ti_eV yp_X10_levy hJ ti_LM_nd (Nat.le_of_ble_eq_true rfl) ?_
  intro p e s m args below meth c Q H0 C hQ hw ls hl
  have hx := C.1
  have hb := C.2.1
  have hl : lv_has ls 8 [(0, .ref (A 60 0)), (1, .int 0), (2, .int t)] := hl
  have hp2 := hwf.2.2.2.2.2.2.2 2 (by decide)
  have ht8 := htW.2.2.2.1
  refine lv_aload_n hx hb dX10_levy_0 rfl (lv_at hl 0 rfl) ?_
  refine ti_get (ci := 10) (k := 49) (N := 67) (T := TX10) (v := .ref (A 60 50)) C hw iw_10 rfl ob_60 (by decide) (by decide) fl_X10_114 rfl rfl dX10_levy_1 ?_
  refine lv_iconst (v := 3) hx hb dX10_levy_4 (by decide) ?_
  refine lv_iload_n hx hb dX10_levy_5 rfl (lv_at hl 1 rfl) ?_
  refine lv_imul hx hb dX10_levy_6 ?_
  refine ti_top (y := 0) (by decide) ?_
  refine lv_iconst (v := 2) hx hb dX10_levy_7 (by decide) ?_
  refine lv_iadd hx hb dX10_levy_8 ?_
  refine ti_top (y := 2) (by decide) ?_
  refine ti_iald (ci := 10) (k := 49) (n := 69) C hw ob_60 (by decide) (fun _ _ => rfl) (by unfold vp_in; decide) dX10_levy_9 ?_
  refine lv_topi (fun x_1 ex_1 => ?_)
  have yx_1 : tY M 60 49 2 = x_1 := ((congrArg _ (by decide)).symm.trans ex_1.symm)
  have bx_1 : 0 ≤ x_1.toInt ∧ x_1.toInt ≤ 7 := mI_ry (k := 49) (i := 2) hI yx_1.symm
  have L_2 : rg 114 = x_1.toInt := (hr.2.2.1 (2) (by omega)).trans (congrArg Int32.toInt (yx_1))
  refine lv_istore_n (lv' := [(3, .int x_1), (0, .ref (A 60 0)), (1, .int 0), (2, .int t)]) hx hb dX10_levy_10 rfl hl (by decide) rfl (fun ls hl => ?_)
  refine lv_iload_n hx hb dX10_levy_11 rfl (lv_at hl 3 rfl) ?_
  refine lv_aload_n hx hb dX10_levy_12 rfl (lv_at hl 1 rfl) ?_
  refine ti_get (ci := 10) (k := 3) (N := 67) (T := TX10) (v := .ref (A 60 4)) C hw iw_10 rfl ob_60 (by decide) (by decide) fl_X10_13 rfl rfl dX10_levy_13 ?_
  refine lv_iconst (v := 3) hx hb dX10_levy_16 (by decide) ?_
  refine ti_iald (ci := 10) (k := 3) (n := 22) C hw ob_60 (by decide) (fun _ _ => rfl) (by unfold vp_in; decide) dX10_levy_17 ?_
  refine lv_topi (fun x_3 ex_3 => ?_)
  have yx_3 : tY M 60 3 3 = x_3 := ((congrArg _ (by decide)).symm.trans ex_3.symm)
  have bx_3 : 1 ≤ x_3.toInt ∧ x_3.toInt ≤ 30 := mI_rn (i := 3) hI yx_3.symm (fun _ h => h)
  have zx_3 : (tY M 60 3 3).toInt = x_3.toInt := by rw [yx_3]
  have L_4 : tx 8 = x_3.toInt := (htr.1.2.2.2.1).trans ((congrArg Int32.toInt (cg rfl 3)).symm.trans (congrArg Int32.toInt (yx_3)))
  refine lv_irem hx hb dX10_levy_18 (nz (by omega)) ?_
  refine lv_topi (fun x_5 ex_5 => ?_)
  have rx_5 := i_rem ex_5 rfl rfl (by omega) (by omega)
  have rm : rg 2 % tx 8 = x_5.toInt := by rw [← htm, show tx 8 = x_3.toInt by omega]; exact rx_5.2.2.symm
  refine sb_if_ne (tgt := 39) hx hb rfl dX10_levy_19 (by decide) (fun c_19_5 => ?_) (fun c_19_5 => ?_)
  · exact hQ _ _ _ _ _ hw (⟨eR.refl, rfl, (by unfold bq_ly; rw [if_pos (by first | omega | (unfold bq_ma; rw [if_neg (by omega)]; omega))]; exact hr), hI, qw.refl, rfl⟩) dX10_levy_39
  · refine lv_iload_n hx hb dX10_levy_22 rfl (lv_at hl 0 rfl) ?_
    refine lv_aload_n hx hb dX10_levy_23 rfl (lv_at hl 1 rfl) ?_
    refine ti_get (ci := 10) (k := 38) (N := 67) (T := TX10) (v := .ref (A 60 39)) C hw iw_10 rfl ob_60 (by decide) (by decide) fl_X10_81 rfl rfl dX10_levy_24 ?_
    refine lv_iload_n hx hb dX10_levy_27 rfl (lv_at hl 2 rfl) ?_
    refine ti_iald (ci := 10) (k := 38) (n := 23) C hw ob_60 (by decide) (fun _ _ => rfl) (by unfold vp_in; decide) dX10_levy_28 ?_
    refine lv_topi (fun x_7 ex_7 => ?_)
    have yx_7 : tY M 60 38 0 = x_7 := ((congrArg _ (by decide)).symm.trans ex_7.symm)
    have bx_7 : 0 ≤ x_7.toInt ∧ x_7.toInt ≤ 8 := mI_ry (k := 38) (i := 0) hI yx_7.symm
    have zx_7 : (tY M 60 38 0).toInt = x_7.toInt := by rw [yx_7]
    have L_8 : rg 3 = x_7.toInt := (hr.1.2.1).trans (congrArg Int32.toInt (yx_7))
    refine sb_icmp_ge (tgt := 39) hx hb rfl rfl dX10_levy_29 (by decide) (fun c_29_8 => ?_) (fun c_29_8 => ?_)
    · exact hQ _ _ _ _ _ hw (⟨eR.refl, rfl, (by unfold bq_ly; rw [if_pos (by first | omega | (unfold bq_ma; rw [if_neg (by omega)]; omega))]; exact hr), hI, qw.refl, rfl⟩) dX10_levy_39
    · refine lv_aload_n hx hb dX10_levy_32 rfl (lv_at hl 1 rfl) ?_
      refine ti_get (ci := 10) (k := 53) (N := 67) (T := TX10) C hw iw_10 rfl ob_60 (by decide) (by decide) fl_X10_120 rfl rfl dX10_levy_33 ?_
      refine ti_top (y := (-1)) (htw) ?_
      refine sb_if_ne (tgt := 40) hx hb (by decide : ((-1) : Int32).toInt = (-1)) dX10_levy_36 (by decide) (fun c_36_9 => ?_) (fun h => absurd h (by decide))
      refine lv_bipush (v := 8) hx hb dX10_levy_40 (by decide) ?_
      refine lv_iload_n hx hb dX10_levy_42 rfl (lv_at hl 2 rfl) ?_
      refine lv_imul hx hb dX10_levy_43 ?_
      refine ti_top (y := 0) (by decide) ?_
      refine lv_aload_n hx hb dX10_levy_44 rfl (lv_at hl 1 rfl) ?_
      refine ti_get (ci := 10) (k := 39) (N := 67) (T := TX10) (v := .ref (A 60 40)) C hw iw_10 rfl ob_60 (by decide) (by decide) fl_X10_84 rfl rfl dX10_levy_45 ?_
      refine lv_bipush (v := 8) hx hb dX10_levy_48 (by decide) ?_
      refine lv_iload_n hx hb dX10_levy_50 rfl (lv_at hl 2 rfl) ?_
      refine lv_imul hx hb dX10_levy_51 ?_
      refine ti_top (y := 0) (by decide) ?_
      refine lv_iload_n hx hb dX10_levy_52 rfl (lv_at hl 0 rfl) ?_
      refine lv_iadd hx hb dX10_levy_53 ?_
      refine lv_topi (fun x_11 ex_11 => ?_)
      have tx_11 : x_11.toInt = 0 + x_1.toInt := i_add ex_11 (by decide : (0 : Int32).toInt = 0) rfl (by omega) (by omega)
      refine ti_iald (ci := 10) (k := 39) (n := 184) C hw ob_60 (by decide) (fun _ _ => rfl) (vp_in_iff.mpr (by omega)) dX10_levy_54 ?_
      refine lv_topi (fun x_12 ex_12 => ?_)
      have yx_12 : tY M 60 39 x_11.toNatClampNeg = x_12 := (ex_12.symm)
      have bx_12 : 0 ≤ x_12.toInt ∧ x_12.toInt ≤ 7 := mI_ry (k := 39) (i := x_11.toNatClampNeg) hI yx_12.symm
      have L_13 : rg (96 + x_1.toInt.toNat) = x_12.toInt := (hr.2.1 (x_1.toInt.toNat) (by omega) (by omega)).trans (rd_k (n := 8 * 0 + x_1.toInt.toNat) (by omega) (yx_12))
      have LT : rg (96 + x_1.toInt.toNat) = x_12.toInt := L_13
      have AT : 0 ≤ rg (96 + x_1.toInt.toNat) ∧ rg (96 + x_1.toInt.toNat) < tx 4 ∧ _ := hwf.2.2.1 x_1.toInt.toNat (by omega)
      rw [LT] at AT
      refine lv_iadd hx hb dX10_levy_55 ?_
      refine lv_topi (fun x_14 ex_14 => ?_)
      have tx_14 : x_14.toInt = 0 + x_12.toInt := i_add ex_14 (by decide : (0 : Int32).toInt = 0) rfl (by omega) (by omega)
      refine lv_istore (lv' := [(4, .int x_14), (3, .int x_1), (0, .ref (A 60 0)), (1, .int 0), (2, .int t)]) hx hb dX10_levy_56 hl (by decide) rfl (fun ls hl => ?_)
      refine lv_iconst (v := 0) hx hb dX10_levy_58 (by decide) ?_
      refine lv_istore (lv' := [(5, .int 0), (4, .int x_14), (3, .int x_1), (0, .ref (A 60 0)), (1, .int 0), (2, .int t)]) hx hb dX10_levy_59 hl (by decide) rfl (fun ls hl => ?_)
      have hl_61_28 : ∀ (n_29 : Nat) (x_15 : Int32) (M_18 : ti_M) (g_24 : Nat → Int) (H : Heap) (locs : List Loc) (ls : Array Slot), (8 - x_15.toInt : Int).toNat < n_29 → (0 ≤ x_15.toInt) → (x_15.toInt ≤ 8) → (mI Tm M_18) → (qw M_18 M) → (tY M_18 60 34 = tY M 60 34) → (eR 0 M_18 M) → (fI M_18 M) → (tY M_18 60 48 = tY M 60 48) → (qR (tx 4).toNat 0 g_24 M_18) → (bq_lf tx (x_12.toInt) ((g_24 3).toNat - (x_15.toInt).toNat) (x_15.toInt).toNat g_24 = bq_lf tx (x_12.toInt) (rg 3).toNat 0 rg) → (∀ j : Nat, j < 192 → g_24 j = rg j) → (g_24 3 = rg 3) → ti_H ti_LM D A cy H0 M_18 H locs → lv_has ls 8 [(5, .int x_15), (4, .int x_14), (3, .int x_1), (0, .ref (A 60 0)), (1, .int 0), (2, .int t)] → W p l e (ti_rm 4) s m args below meth c H locs 0 0 Q (F0 m 61 ls []) := by
        intro n_29
        induction n_29 with
        | zero => intro x_15 M_18 g_24 H locs ls hf_29; exact absurd hf_29 (Nat.not_lt_zero _)
        | succ n_29 ih_29 =>
          intro x_15 M_18 g_24 H locs ls hf_29 b_16 b_17 iM_18 f_19 f_20 f_21 f_22 f_23 hs_25 j_26 j_27 j_28 hw hl
          refine lv_iload hx hb dX10_levy_61 (lv_at hl 0 rfl) ?_
          refine lv_aload_n hx hb dX10_levy_63 rfl (lv_at hl 3 rfl) ?_
          refine ti_get (ci := 10) (k := 38) (N := 67) (T := TX10) (v := .ref (A 60 39)) C hw iw_10 rfl ob_60 (by decide) (by decide) fl_X10_81 rfl rfl dX10_levy_64 ?_
          refine lv_iload_n hx hb dX10_levy_67 rfl (lv_at hl 4 rfl) ?_
          refine ti_iald (ci := 10) (k := 38) (n := 23) C hw ob_60 (by decide) (fun _ _ => rfl) (by unfold vp_in; decide) dX10_levy_68 ?_
          refine ti_top (y := x_7) ((congrArg _ (by decide)).trans ((cg f_19.2.2.1 0).trans yx_7)) ?_
          have L_30 : g_24 3 = x_7.toInt := (hs_25.1.2.1).trans (congrArg Int32.toInt ((cg f_19.2.2.1 0).trans yx_7))
          refine sb_icmp_ge (tgt := 166) hx hb rfl rfl dX10_levy_69 (by decide) (fun c_69_30 => ?_) (fun c_69_30 => ?_)
          · exact hQ _ _ _ _ _ hw (⟨f_21, ((f_23)), (by unfold bq_ly; rw [show bq_ma rg (rg 114) = x_12.toInt by (unfold bq_ma; rw [if_pos (by omega), show rg 114 = x_1.toInt by omega]; exact LT), if_neg (by omega), ← j_26, lf_end (by omega)]; exact hs_25), iM_18, f_19, ((f_20))⟩) dX10_levy_166
          · refine lv_iload hx hb dX10_levy_72 (lv_at hl 0 rfl) ?_
            refine lv_iload_n hx hb dX10_levy_74 rfl (lv_at hl 2 rfl) ?_
            refine sb_icmp_ne (tgt := 81) hx hb rfl rfl dX10_levy_75 (by decide) (fun c_75_31 => ?_) (fun c_75_31 => ?_)
            · refine lv_aload_n hx hb dX10_levy_81 rfl (lv_at hl 3 rfl) ?_
              refine ti_get (ci := 10) (k := 39) (N := 67) (T := TX10) (v := .ref (A 60 40)) C hw iw_10 rfl ob_60 (by decide) (by decide) fl_X10_84 rfl rfl dX10_levy_82 ?_
              refine lv_bipush (v := 8) hx hb dX10_levy_85 (by decide) ?_
              refine lv_iload_n hx hb dX10_levy_87 rfl (lv_at hl 4 rfl) ?_
              refine lv_imul hx hb dX10_levy_88 ?_
              refine ti_top (y := 0) (by decide) ?_
              refine lv_iload hx hb dX10_levy_89 (lv_at hl 0 rfl) ?_
              refine lv_iadd hx hb dX10_levy_91 ?_
              refine lv_topi (fun x_33 ex_33 => ?_)
              have tx_33 : x_33.toInt = 0 + x_15.toInt := i_add ex_33 (by decide : (0 : Int32).toInt = 0) rfl (by omega) (by omega)
              refine ti_iald (ci := 10) (k := 39) (n := 184) C hw ob_60 (by decide) (fun _ _ => rfl) (vp_in_iff.mpr (by omega)) dX10_levy_92 ?_
              refine lv_topi (fun x_34 ex_34 => ?_)
              have yx_34 : tY M_18 60 39 x_33.toNatClampNeg = x_34 := (ex_34.symm)
              have bx_34 : 0 ≤ x_34.toInt ∧ x_34.toInt ≤ 7 := mI_ry (k := 39) (i := x_33.toNatClampNeg) iM_18 yx_34.symm
              have wx_34 : tY M 60 39 x_33.toNatClampNeg = x_34 := ((cg f_19.2.2.2.1 x_33.toNatClampNeg)).symm.trans yx_34
              have L_35 : g_24 (96 + x_15.toInt.toNat) = x_34.toInt := (hs_25.2.1 (x_15.toInt.toNat) (by omega) (by omega)).trans (rd_k (n := 8 * 0 + x_15.toInt.toNat) (by omega) ((cg f_19.2.2.2.1 x_33.toNatClampNeg).trans wx_34))
              have A_36 : 0 ≤ rg (96 + x_15.toInt.toNat) ∧ rg (96 + x_15.toInt.toNat) < tx 4 ∧ rg (128 + (rg (96 + x_15.toInt.toNat)).toNat) = 1 := hwf.2.2.1 x_15.toInt.toNat (by omega)
              rw [← j_27 _ (by omega : 96 + x_15.toInt.toNat < 192), L_35] at A_36
              have stA_36 : g_24 (128 + x_34.toInt.toNat) = 1 := by rw [j_27 _ (by omega)]; exact A_36.2.2
              have w2A_36 : g_24 2 = rg 2 := j_27 2 (by decide)
              have BT : x_34.toInt ≠ x_12.toInt := fun q => by have := hwf.2.2.2.1 x_15.toInt.toNat x_1.toInt.toNat (by omega) (by omega) (by rw [LT, ← j_27 _ (by omega : 96 + x_15.toInt.toNat < 192), L_35]; exact q); omega
              refine lv_istore (lv' := [(6, .int x_34), (5, .int x_15), (4, .int x_14), (3, .int x_1), (0, .ref (A 60 0)), (1, .int 0), (2, .int t)]) hx hb dX10_levy_93 hl (by decide) rfl (fun ls hl => ?_)
              refine lv_aload_n hx hb dX10_levy_95 rfl (lv_at hl 4 rfl) ?_
              refine lv_iload_n hx hb dX10_levy_96 rfl (lv_at hl 5 rfl) ?_
              refine lv_iload hx hb dX10_levy_97 (lv_at hl 0 rfl) ?_
              refine lv_iload hx hb dX10_levy_99 (lv_at hl 1 rfl) ?_
              refine lv_iload_n hx hb dX10_levy_101 rfl (lv_at hl 6 rfl) ?_
              refine ti_callVv (ci := 10) (av := [.int 0, .int x_34, .int x_15, .int t]) C hw (z_X10_calls_0 l D A cy hJ M_18 iM_18 x_34 x_15 t (by first | omega | decide) (by first | omega | decide) tx g_24 (tR_lw htr (eR_lw (q := 0) f_21)) ht4 hs_25 (by omega) stA_36 (by omega)) ⟨ml_X10_363, ym_X10_calls, yv_X10_calls, yi_X10_calls, yc_X10_calls⟩ yd_X10_calls ob_60 (by decide) rfl rfl hl.1 (Nat.le_of_ble_eq_true rfl) ⟨by decide, by decide⟩ ⟨Nat.zero_le _, Nat.zero_le _⟩ dX10_levy_102 (fun M_38 H locs hp_38 hw => ?_)
              obtain ⟨n6_41, fi_42, iM_38, q_39, q_40⟩ := hp_38
              have hs_43 : qR (tx 4).toNat 0 g_24 M_38 := qR_of hs_25 q_40
              refine lv_aload_n hx hb dX10_levy_105 rfl (lv_at hl 4 rfl) ?_
              refine ti_get (ci := 10) (k := 43) (N := 67) (T := TX10) (v := .ref (A 60 44)) C hw iw_10 rfl ob_60 (by decide) (by decide) fl_X10_96 rfl rfl dX10_levy_106 ?_
              refine lv_bipush (v := 8) hx hb dX10_levy_109 (by decide) ?_
              refine lv_iload_n hx hb dX10_levy_111 rfl (lv_at hl 5 rfl) ?_
              refine lv_imul hx hb dX10_levy_112 ?_
              refine ti_top (y := 0) (by decide) ?_
              refine lv_iload hx hb dX10_levy_113 (lv_at hl 0 rfl) ?_
              refine lv_iadd hx hb dX10_levy_115 ?_
              refine lv_topi (fun x_44 ex_44 => ?_)
              have tx_44 : x_44.toInt = 0 + x_34.toInt := i_add ex_44 (by decide : (0 : Int32).toInt = 0) rfl (by omega) (by omega)
              refine ti_iald (ci := 10) (k := 43) (n := 184) C hw ob_60 (by decide) (fun _ _ => rfl) (vp_in_iff.mpr (by omega)) dX10_levy_116 ?_
              refine lv_topi (fun x_45 ex_45 => ?_)
              have yx_45 : tY M_38 60 43 x_44.toNatClampNeg = x_45 := (ex_45.symm)
              have wx_45 : tY M_18 60 43 x_44.toNatClampNeg = x_45 := ((cg (tY_fr q_40) x_44.toNatClampNeg)).symm.trans yx_45
              have L_46 : g_24 (192 + x_34.toInt.toNat) = x_45.toInt := ((hs_43.2.2.2.1 (x_34.toInt.toNat) (by omega)).2.2.2.2.1).trans (rd_k (n := 8 * 0 + x_34.toInt.toNat) (by omega) ((cg (tY_fr q_40) x_44.toNatClampNeg).trans wx_45))
              refine lv_aload_n hx hb dX10_levy_117 rfl (lv_at hl 4 rfl) ?_
              refine lv_iconst (v := 0) hx hb dX10_levy_118 (by decide) ?_
              refine lv_iconst (v := 0) hx hb dX10_levy_119 (by decide) ?_
              refine lv_bipush (v := 99) hx hb dX10_levy_120 (by decide) ?_
              refine lv_iconst (v := 1) hx hb dX10_levy_122 (by decide) ?_
              refine ti_callVi (ci := 10) (av := [.int 0, .int 0, .int 99, .int 1]) C hw (z_X10_within l D A cy hJ M_38 iM_38 (mL_lw (lk.trans (lk_of q_39.1 q_39.2.1) (lk_of f_19.1 f_19.2.1)).1 hL) 0 (by first | omega | decide) (by first | omega | decide) 0 99 1 (bq_fa tx g_24 x_34.toInt x_15.toInt) tx (tR_lw htr (eR_lw (q := 0) (eR.trans (eR_fI fi_42 q_40) f_21))) n6_41 (by first | decide | omega)) ⟨ml_X10_367, ym_X10_within, yv_X10_within, yi_X10_within, yc_X10_within⟩ yd_X10_within ob_60 (by decide) rfl rfl hl.1 (Nat.le_of_ble_eq_true rfl) ⟨by decide, by decide⟩ ⟨Nat.zero_le _, Nat.zero_le _⟩ dX10_levy_123 (fun r_47 M_48 H locs hp_48 hw => ?_)
              obtain ⟨fi_52, pr_47, iM_48, q_50, q_51⟩ := hp_48
              have hs_53 : qR (tx 4).toNat 0 g_24 M_48 := qR_of hs_43 q_51
              try simp only [show (0 : Int32).toInt.toNat = 0 by decide] at pr_47
              try simp only [show (0 : Int32).toInt = 0 by decide] at pr_47
              try simp only [show (0 : Int32).toInt.toNat = 0 by decide] at pr_47
              try simp only [show (0 : Int32).toInt = 0 by decide] at pr_47
              try simp only [show (99 : Int32).toInt.toNat = 99 by decide] at pr_47
              try simp only [show (99 : Int32).toInt = 99 by decide] at pr_47
              try simp only [show (1 : Int32).toInt.toNat = 1 by decide] at pr_47
              try simp only [show (1 : Int32).toInt = 1 by decide] at pr_47
              have bpr_47 : 0 ≤ r_47.toInt ∧ r_47.toInt ≤ 99 := by rw [pr_47]; unfold bq_pt; (repeat' split) <;> omega
              refine ti_min C ml_X10_380 hl.1 (by decide) (Nat.le_of_ble_eq_true rfl) ⟨Nat.zero_le _, Nat.zero_le _⟩ dX10_levy_126 ?_
              refine lv_topi (fun x_54 ex_54 => ?_)
              have bx_54 := i_min ex_54 rfl rfl
              refine lv_istore (lv' := [(7, .int x_54), (6, .int x_34), (5, .int x_15), (4, .int x_14), (3, .int x_1), (0, .ref (A 60 0)), (1, .int 0), (2, .int t)]) hx hb dX10_levy_129 hl (by decide) rfl (fun ls hl => ?_)
              refine lv_aload_n hx hb dX10_levy_131 rfl (lv_at hl 5 rfl) ?_
              refine ti_get (ci := 10) (k := 43) (N := 67) (T := TX10) (v := .ref (A 60 44)) C hw iw_10 rfl ob_60 (by decide) (by decide) fl_X10_96 rfl rfl dX10_levy_132 ?_
              refine lv_bipush (v := 8) hx hb dX10_levy_135 (by decide) ?_
              refine lv_iload_n hx hb dX10_levy_137 rfl (lv_at hl 6 rfl) ?_
              refine lv_imul hx hb dX10_levy_138 ?_
              refine ti_top (y := 0) (by decide) ?_
              refine lv_iload hx hb dX10_levy_139 (lv_at hl 1 rfl) ?_
              refine lv_iadd hx hb dX10_levy_141 ?_
              refine lv_topi (fun x_55 ex_55 => ?_)
              have tx_55 : x_55.toInt = 0 + x_34.toInt := i_add ex_55 (by decide : (0 : Int32).toInt = 0) rfl (by omega) (by omega)
              refine lv_dup2_11 hx hb dX10_levy_142 rfl rfl ?_
              refine ti_iald (ci := 10) (k := 43) (n := 184) C hw ob_60 (by decide) (fun _ _ => rfl) (vp_in_iff.mpr (by omega)) dX10_levy_143 ?_
              refine lv_topi (fun x_56 ex_56 => ?_)
              have yx_56 : tY M_48 60 43 x_55.toNatClampNeg = x_56 := (ex_56.symm)
              have wx_56 : tY M_18 60 43 x_55.toNatClampNeg = x_56 := (((cg (tY_fr q_51) x_55.toNatClampNeg).trans (cg (tY_fr q_40) x_55.toNatClampNeg))).symm.trans yx_56
              have L_57 : g_24 (192 + x_34.toInt.toNat) = x_56.toInt := ((hs_53.2.2.2.1 (x_34.toInt.toNat) (by omega)).2.2.2.2.1).trans (rd_k (n := 8 * 0 + x_34.toInt.toNat) (by omega) ((cg (tY_fr q_51) x_55.toNatClampNeg).trans ((cg (tY_fr q_40) x_55.toNatClampNeg).trans wx_56)))
              refine lv_iload hx hb dX10_levy_144 (lv_at hl 0 rfl) ?_
              refine lv_isub hx hb dX10_levy_146 ?_
              refine lv_topi (fun x_58 ex_58 => ?_)
              have tx_58 : x_58.toInt = bw (x_56.toInt - x_54.toInt) := bw_sub ex_58 rfl rfl
              refine ti_iast (ci := 10) (k := 43) (n := 184) C hw ob_60 (by decide) (fun _ _ => rfl) (vp_in_iff.mpr (by omega)) dX10_levy_147 (fun H locs hw => ?_)
              obtain ⟨M_59, hM_59⟩ : ∃ z : ti_M, z = uY M_48 60 43 (upd (tY M_48 60 43) (x_55 : Int32).toNatClampNeg x_58) := ⟨_, rfl⟩
              have hw := hw.to hM_59.symm
              have iM_59 : mI Tm M_59 := mI_up (i := x_55.toNatClampNeg) iM_48 hM_59 trivial
              have hs_60 : qR (tx 4).toNat 0 (pp_su g_24 (192 + x_34.toInt.toNat) x_58.toInt) M_59 := qR_43 (m := x_34.toInt.toNat) (z := x_55) hs_53 (by omega) rfl hM_59 (by omega) (by omega)
              obtain ⟨g_61, eg_61⟩ : ∃ z : Nat → Int, z = pp_su g_24 (192 + x_34.toInt.toNat) x_58.toInt := ⟨_, rfl⟩
              rw [← eg_61] at hs_60
              refine lv_aload_n hx hb dX10_levy_148 rfl (lv_at hl 5 rfl) ?_
              refine ti_get (ci := 10) (k := 43) (N := 67) (T := TX10) (v := .ref (A 60 44)) C hw iw_10 rfl ob_60 (by decide) (by decide) fl_X10_96 rfl rfl dX10_levy_149 ?_
              refine lv_iload hx hb dX10_levy_152 (lv_at hl 3 rfl) ?_
              refine lv_dup2_11 hx hb dX10_levy_154 rfl rfl ?_
              refine ti_iald (ci := 10) (k := 43) (n := 184) C hw ob_60 (by decide) (fun _ _ => rfl) (vp_in_iff.mpr (by omega)) dX10_levy_155 ?_
              refine lv_topi (fun x_62 ex_62 => ?_)
              have yx_62 : tY M_59 60 43 x_14.toNatClampNeg = x_62 := (ex_62.symm)
              have L_63 : g_61 (192 + x_12.toInt.toNat) = x_62.toInt := ((hs_60.2.2.2.1 (x_12.toInt.toNat) (by omega)).2.2.2.2.1).trans (rd_k (n := 8 * 0 + x_12.toInt.toNat) (by omega) (yx_62))
              refine lv_iload hx hb dX10_levy_156 (lv_at hl 0 rfl) ?_
              refine lv_iadd hx hb dX10_levy_158 ?_
              refine lv_topi (fun x_64 ex_64 => ?_)
              have tx_64 : x_64.toInt = bw (x_62.toInt + x_54.toInt) := bw_add ex_64 rfl rfl
              refine ti_iast (ci := 10) (k := 43) (n := 184) C hw ob_60 (by decide) (fun _ _ => rfl) (vp_in_iff.mpr (by omega)) dX10_levy_159 (fun H locs hw => ?_)
              obtain ⟨M_65, hM_65⟩ : ∃ z : ti_M, z = uY M_59 60 43 (upd (tY M_59 60 43) (x_14 : Int32).toNatClampNeg x_64) := ⟨_, rfl⟩
              have hw := hw.to hM_65.symm
              have iM_65 : mI Tm M_65 := mI_up (i := x_14.toNatClampNeg) iM_59 hM_65 trivial
              have hs_66 : qR (tx 4).toNat 0 (pp_su g_61 (192 + x_12.toInt.toNat) x_64.toInt) M_65 := qR_43 (m := x_12.toInt.toNat) (z := x_14) hs_60 (by omega) rfl hM_65 (by omega) (by omega)
              obtain ⟨g_67, eg_67⟩ : ∃ z : Nat → Int, z = pp_su g_61 (192 + x_12.toInt.toNat) x_64.toInt := ⟨_, rfl⟩
              rw [← eg_67] at hs_66
              obtain ⟨x_69, ex_69⟩ : ∃ z : Int32, z = x_15 + 1 := ⟨_, rfl⟩
              have tx_69 : x_69.toInt = x_15.toInt + 1 := i_add ex_69 rfl (by decide) (by omega) (by omega)
              refine lv_iinc (v := x_69) (lv' := [(5, .int x_69), (7, .int x_54), (6, .int x_34), (4, .int x_14), (3, .int x_1), (0, .ref (A 60 0)), (1, .int 0), (2, .int t)]) hx hb dX10_levy_160 hl (k := 2) rfl (by rw [ex_69]; rfl) (by decide) rfl (fun ls hl => ?_)
              refine lv_goto (tgt := 61) hx hb dX10_levy_163 (by decide) ?_
              exact ih_29 x_69 M_65 g_67 _ _ _ (by omega) (by first | omega | decide) (by first | omega | decide) iM_65 (qw.trans (qw_Y hM_65 (by decide)) (qw.trans (qw_Y hM_59 (by decide)) (qw.trans q_50 (qw.trans q_39 f_19)))) (((tY_nE hM_65 (nk (by decide))).trans ((tY_nE hM_59 (nk (by decide))).trans ((tY_fr q_51).trans ((tY_fr q_40).trans f_20))))) (eR.trans (eR_Y hM_65 (bk_m (z := x_14) (by omega) (by decide))) (eR.trans (eR_Y hM_59 (bk_m (z := x_55) (by omega) (by decide))) (eR.trans (eR_fI fi_52 q_51) (eR.trans (eR_fI fi_42 q_40) f_21)))) (fI.trans (fI_Y hM_65) (fI.trans (fI_Y hM_59) (fI.trans fi_52 (fI.trans fi_42 f_22)))) (((tY_nE hM_65 (nk (by decide))).trans ((tY_nE hM_59 (nk (by decide))).trans ((tY_fr q_51).trans ((tY_fr q_40).trans f_23))))) hs_66 (by rw [← j_26, lf_go (tx := tx) (t := x_12.toInt) (s := g_24) (p := x_15.toInt.toNat) (f := (g_24 3).toNat - x_15.toInt.toNat) (f' := (g_24 3).toNat - x_69.toInt.toNat) (by omega), show bq_l1 tx g_24 x_12.toInt x_15.toInt.toNat = g_67 by (unfold bq_l1 bq_py; rw [if_neg (by omega), L_35, show ((x_15.toInt.toNat : Nat) : Int) = x_15.toInt by omega, show bq_lv tx g_24 0 (x_15.toInt) (x_15.toInt) = _ from lv_wv (x := x_34.toInt) (by unfold bq_ma; rw [if_pos (by omega)]; exact L_35) (by omega), ← pr_47, show g_24 (192 + x_34.toInt.toNat) = x_45.toInt by omega, show bq_mn r_47.toInt x_45.toInt = x_54.toInt by (unfold bq_mn; split <;> omega), show x_45.toInt = x_56.toInt by omega, ← tx_58, ← eg_61, show g_61 (192 + x_12.toInt.toNat) = x_62.toInt by omega, ← tx_64, ← eg_67]), show x_69.toInt.toNat = x_15.toInt.toNat + 1 by omega, show (g_67 3).toNat = (g_24 3).toNat by rw [eg_67, su_n (by omega), eg_61, su_n (by omega)]]) (fun j hj => by rw [eg_67, su_n (by omega), eg_61, su_n (by omega)]; exact j_27 j hj) (((fun j hj => by rw [eg_67, su_n (by omega), eg_61, su_n (by omega)]; exact j_27 j hj) : ∀ j : Nat, j < 192 → g_67 j = rg j) 3 (by decide)) hw (lv_sub hl [0, 3, 4, 5, 6, 7] rfl)
            · refine lv_goto (tgt := 160) hx hb dX10_levy_78 (by decide) ?_
              obtain ⟨x_68, ex_68⟩ : ∃ z : Int32, z = x_15 + 1 := ⟨_, rfl⟩
              have tx_68 : x_68.toInt = x_15.toInt + 1 := i_add ex_68 rfl (by decide) (by omega) (by omega)
              refine lv_iinc (v := x_68) (lv' := [(5, .int x_68), (4, .int x_14), (3, .int x_1), (0, .ref (A 60 0)), (1, .int 0), (2, .int t)]) hx hb dX10_levy_160 hl (k := 0) rfl (by rw [ex_68]; rfl) (by decide) rfl (fun ls hl => ?_)
              refine lv_goto (tgt := 61) hx hb dX10_levy_163 (by decide) ?_
              exact ih_29 x_68 M_18 g_24 _ _ _ (by omega) (by first | omega | decide) (by first | omega | decide) iM_18 f_19 ((f_20)) f_21 f_22 ((f_23)) hs_25 (by rw [← j_26, lf_go (tx := tx) (t := x_12.toInt) (s := g_24) (p := x_15.toInt.toNat) (f := (g_24 3).toNat - x_15.toInt.toNat) (f' := (g_24 3).toNat - x_68.toInt.toNat) (by omega), show bq_l1 tx g_24 x_12.toInt x_15.toInt.toNat = g_24 by (unfold bq_l1; rw [if_pos (by rw [j_27 _ (by omega : 96 + x_15.toInt.toNat < 192), show x_15.toInt.toNat = x_1.toInt.toNat by omega]; exact LT)]), show x_68.toInt.toNat = x_15.toInt.toNat + 1 by omega]) j_27 ((j_27 : ∀ j : Nat, j < 192 → g_24 j = rg j) 3 (by decide)) hw (lv_sub hl [0, 1, 2, 3, 4, 5] rfl)
      exact hl_61_28 ((8 - 0 : Int).toNat + 1) 0 M rg _ _ _ (Nat.lt_succ_self _) (by have lt0 : (0 : Int32).toInt = 0 := (by decide); first | omega | decide) (by have lt0 : (0 : Int32).toInt = 0 := (by decide); first | omega | decide) hI qw.refl rfl eR.refl fI.refl rfl hr (by show bq_lf tx _ ((rg 3).toNat - 0) 0 rg = _; rfl) (fun _ _ => rfl) rfl hw (lv_sub hl [0, 1, 2, 3, 4, 5] rfl)
set_option maxHeartbeats 4000000 in
set_option maxRecDepth 100000 in
theorem z_X10_levy_1 (l : Launch) (D : va_G) (A : Nat → Nat → Nat) (cy : Nat → ClassId) (hJ : ti_inj ti_LM A) (M : ti_M) (hI : mI Tm M) (hL : mL M) (t : Int32) (tx rg : Nat → Int) (htr : tR tx M) (ht4 : 0 ≤ tx 4 ∧ tx 4 ≤ 8) (hr : qR (tx 4).toNat 1 rg M) (hwf : wF tx rg) (htw : tI M 60 53 = -1) (htW : tW tx) (htm : t.toInt = rg 2) (h2 : 0 ≤ rg 2) : ti_Kv l yX10_levy cX10_levy 8 4 ti_LM D A cy M [.ref (A 60 0), .int 1, .int t] (fun M2 => eR 1 M2 M ∧ tY M2 60 48 = tY M 60 48 ∧ qR (tx 4).toNat 1 (bq_ly tx rg) M2 ∧ mI Tm M2 ∧ qw M2 M ∧ tY M2 60 34 = tY M 60 34) := by
  refine ti_eV yp_X10_levy hJ ti_LM_nd (Nat.le_of_ble_eq_true rfl) ?_
  intro p e s m args below meth c Q H0 C hQ hw ls hl
  have hx := C.1
  have hb := C.2.1
  have hl : lv_has ls 8 [(0, .ref (A 60 0)), (1, .int 1), (2, .int t)] := hl
  have hp2 := hwf.2.2.2.2.2.2.2 2 (by decide)
  have ht8 := htW.2.2.2.1
  refine lv_aload_n hx hb dX10_levy_0 rfl (lv_at hl 0 rfl) ?_
  refine ti_get (ci := 10) (k := 49) (N := 67) (T := TX10) (v := .ref (A 60 50)) C hw iw_10 rfl ob_60 (by decide) (by decide) fl_X10_114 rfl rfl dX10_levy_1 ?_
  refine lv_iconst (v := 3) hx hb dX10_levy_4 (by decide) ?_
  refine lv_iload_n hx hb dX10_levy_5 rfl (lv_at hl 1 rfl) ?_
  refine lv_imul hx hb dX10_levy_6 ?_
  refine ti_top (y := 3) (by decide) ?_
  refine lv_iconst (v := 2) hx hb dX10_levy_7 (by decide) ?_
  refine lv_iadd hx hb dX10_levy_8 ?_
  refine ti_top (y := 5) (by decide) ?_
  refine ti_iald (ci := 10) (k := 49) (n := 69) C hw ob_60 (by decide) (fun _ _ => rfl) (by unfold vp_in; decide) dX10_levy_9 ?_
  refine lv_topi (fun x_1 ex_1 => ?_)
  have yx_1 : tY M 60 49 5 = x_1 := ((congrArg _ (by decide)).symm.trans ex_1.symm)
  have bx_1 : 0 ≤ x_1.toInt ∧ x_1.toInt ≤ 7 := mI_ry (k := 49) (i := 5) hI yx_1.symm
  have L_2 : rg 114 = x_1.toInt := (hr.2.2.1 (2) (by omega)).trans (congrArg Int32.toInt (yx_1))
  refine lv_istore_n (lv' := [(3, .int x_1), (0, .ref (A 60 0)), (1, .int 1), (2, .int t)]) hx hb dX10_levy_10 rfl hl (by decide) rfl (fun ls hl => ?_)
  refine lv_iload_n hx hb dX10_levy_11 rfl (lv_at hl 3 rfl) ?_
  refine lv_aload_n hx hb dX10_levy_12 rfl (lv_at hl 1 rfl) ?_
  refine ti_get (ci := 10) (k := 3) (N := 67) (T := TX10) (v := .ref (A 60 4)) C hw iw_10 rfl ob_60 (by decide) (by decide) fl_X10_13 rfl rfl dX10_levy_13 ?_
  refine lv_iconst (v := 3) hx hb dX10_levy_16 (by decide) ?_
  refine ti_iald (ci := 10) (k := 3) (n := 22) C hw ob_60 (by decide) (fun _ _ => rfl) (by unfold vp_in; decide) dX10_levy_17 ?_
  refine lv_topi (fun x_3 ex_3 => ?_)
  have yx_3 : tY M 60 3 3 = x_3 := ((congrArg _ (by decide)).symm.trans ex_3.symm)
  have bx_3 : 1 ≤ x_3.toInt ∧ x_3.toInt ≤ 30 := mI_rn (i := 3) hI yx_3.symm (fun _ h => h)
  have zx_3 : (tY M 60 3 3).toInt = x_3.toInt := by rw [yx_3]
  have L_4 : tx 8 = x_3.toInt := (htr.1.2.2.2.1).trans ((congrArg Int32.toInt (cg rfl 3)).symm.trans (congrArg Int32.toInt (yx_3)))
  refine lv_irem hx hb dX10_levy_18 (nz (by omega)) ?_
  refine lv_topi (fun x_5 ex_5 => ?_)
  have rx_5 := i_rem ex_5 rfl rfl (by omega) (by omega)
  have rm : rg 2 % tx 8 = x_5.toInt := by rw [← htm, show tx 8 = x_3.toInt by omega]; exact rx_5.2.2.symm
  refine sb_if_ne (tgt := 39) hx hb rfl dX10_levy_19 (by decide) (fun c_19_5 => ?_) (fun c_19_5 => ?_)
  · exact hQ _ _ _ _ _ hw (⟨eR.refl, rfl, (by unfold bq_ly; rw [if_pos (by first | omega | (unfold bq_ma; rw [if_neg (by omega)]; omega))]; exact hr), hI, qw.refl, rfl⟩) dX10_levy_39
  · refine lv_iload_n hx hb dX10_levy_22 rfl (lv_at hl 0 rfl) ?_
    refine lv_aload_n hx hb dX10_levy_23 rfl (lv_at hl 1 rfl) ?_
    refine ti_get (ci := 10) (k := 38) (N := 67) (T := TX10) (v := .ref (A 60 39)) C hw iw_10 rfl ob_60 (by decide) (by decide) fl_X10_81 rfl rfl dX10_levy_24 ?_
    refine lv_iload_n hx hb dX10_levy_27 rfl (lv_at hl 2 rfl) ?_
    refine ti_iald (ci := 10) (k := 38) (n := 23) C hw ob_60 (by decide) (fun _ _ => rfl) (by unfold vp_in; decide) dX10_levy_28 ?_
    refine lv_topi (fun x_7 ex_7 => ?_)
    have yx_7 : tY M 60 38 1 = x_7 := ((congrArg _ (by decide)).symm.trans ex_7.symm)
    have bx_7 : 0 ≤ x_7.toInt ∧ x_7.toInt ≤ 8 := mI_ry (k := 38) (i := 1) hI yx_7.symm
    have zx_7 : (tY M 60 38 1).toInt = x_7.toInt := by rw [yx_7]
    have L_8 : rg 3 = x_7.toInt := (hr.1.2.1).trans (congrArg Int32.toInt (yx_7))
    refine sb_icmp_ge (tgt := 39) hx hb rfl rfl dX10_levy_29 (by decide) (fun c_29_8 => ?_) (fun c_29_8 => ?_)
    · exact hQ _ _ _ _ _ hw (⟨eR.refl, rfl, (by unfold bq_ly; rw [if_pos (by first | omega | (unfold bq_ma; rw [if_neg (by omega)]; omega))]; exact hr), hI, qw.refl, rfl⟩) dX10_levy_39
    · refine lv_aload_n hx hb dX10_levy_32 rfl (lv_at hl 1 rfl) ?_
      refine ti_get (ci := 10) (k := 53) (N := 67) (T := TX10) C hw iw_10 rfl ob_60 (by decide) (by decide) fl_X10_120 rfl rfl dX10_levy_33 ?_
      refine ti_top (y := (-1)) (htw) ?_
      refine sb_if_ne (tgt := 40) hx hb (by decide : ((-1) : Int32).toInt = (-1)) dX10_levy_36 (by decide) (fun c_36_9 => ?_) (fun h => absurd h (by decide))
      refine lv_bipush (v := 8) hx hb dX10_levy_40 (by decide) ?_
      refine lv_iload_n hx hb dX10_levy_42 rfl (lv_at hl 2 rfl) ?_
      refine lv_imul hx hb dX10_levy_43 ?_
      refine ti_top (y := 8) (by decide) ?_
      refine lv_aload_n hx hb dX10_levy_44 rfl (lv_at hl 1 rfl) ?_
      refine ti_get (ci := 10) (k := 39) (N := 67) (T := TX10) (v := .ref (A 60 40)) C hw iw_10 rfl ob_60 (by decide) (by decide) fl_X10_84 rfl rfl dX10_levy_45 ?_
      refine lv_bipush (v := 8) hx hb dX10_levy_48 (by decide) ?_
      refine lv_iload_n hx hb dX10_levy_50 rfl (lv_at hl 2 rfl) ?_
      refine lv_imul hx hb dX10_levy_51 ?_
      refine ti_top (y := 8) (by decide) ?_
      refine lv_iload_n hx hb dX10_levy_52 rfl (lv_at hl 0 rfl) ?_
      refine lv_iadd hx hb dX10_levy_53 ?_
      refine lv_topi (fun x_11 ex_11 => ?_)
      have tx_11 : x_11.toInt = 8 + x_1.toInt := i_add ex_11 (by decide : (8 : Int32).toInt = 8) rfl (by omega) (by omega)
      refine ti_iald (ci := 10) (k := 39) (n := 184) C hw ob_60 (by decide) (fun _ _ => rfl) (vp_in_iff.mpr (by omega)) dX10_levy_54 ?_
      refine lv_topi (fun x_12 ex_12 => ?_)
      have yx_12 : tY M 60 39 x_11.toNatClampNeg = x_12 := (ex_12.symm)
      have bx_12 : 0 ≤ x_12.toInt ∧ x_12.toInt ≤ 7 := mI_ry (k := 39) (i := x_11.toNatClampNeg) hI yx_12.symm
      have L_13 : rg (96 + x_1.toInt.toNat) = x_12.toInt := (hr.2.1 (x_1.toInt.toNat) (by omega) (by omega)).trans (rd_k (n := 8 * 1 + x_1.toInt.toNat) (by omega) (yx_12))
      have LT : rg (96 + x_1.toInt.toNat) = x_12.toInt := L_13
      have AT : 0 ≤ rg (96 + x_1.toInt.toNat) ∧ rg (96 + x_1.toInt.toNat) < tx 4 ∧ _ := hwf.2.2.1 x_1.toInt.toNat (by omega)
      rw [LT] at AT
      refine lv_iadd hx hb dX10_levy_55 ?_
      refine lv_topi (fun x_14 ex_14 => ?_)
      have tx_14 : x_14.toInt = 8 + x_12.toInt := i_add ex_14 (by decide : (8 : Int32).toInt = 8) rfl (by omega) (by omega)
      refine lv_istore (lv' := [(4, .int x_14), (3, .int x_1), (0, .ref (A 60 0)), (1, .int 1), (2, .int t)]) hx hb dX10_levy_56 hl (by decide) rfl (fun ls hl => ?_)
      refine lv_iconst (v := 0) hx hb dX10_levy_58 (by decide) ?_
      refine lv_istore (lv' := [(5, .int 0), (4, .int x_14), (3, .int x_1), (0, .ref (A 60 0)), (1, .int 1), (2, .int t)]) hx hb dX10_levy_59 hl (by decide) rfl (fun ls hl => ?_)
      have hl_61_28 : ∀ (n_29 : Nat) (x_15 : Int32) (M_18 : ti_M) (g_24 : Nat → Int) (H : Heap) (locs : List Loc) (ls : Array Slot), (8 - x_15.toInt : Int).toNat < n_29 → (0 ≤ x_15.toInt) → (x_15.toInt ≤ 8) → (mI Tm M_18) → (qw M_18 M) → (tY M_18 60 34 = tY M 60 34) → (eR 1 M_18 M) → (fI M_18 M) → (tY M_18 60 48 = tY M 60 48) → (qR (tx 4).toNat 1 g_24 M_18) → (bq_lf tx (x_12.toInt) ((g_24 3).toNat - (x_15.toInt).toNat) (x_15.toInt).toNat g_24 = bq_lf tx (x_12.toInt) (rg 3).toNat 0 rg) → (∀ j : Nat, j < 192 → g_24 j = rg j) → (g_24 3 = rg 3) → ti_H ti_LM D A cy H0 M_18 H locs → lv_has ls 8 [(5, .int x_15), (4, .int x_14), (3, .int x_1), (0, .ref (A 60 0)), (1, .int 1), (2, .int t)] → W p l e (ti_rm 4) s m args below meth c H locs 0 0 Q (F0 m 61 ls []) := by
        intro n_29
        induction n_29 with
        | zero => intro x_15 M_18 g_24 H locs ls hf_29; exact absurd hf_29 (Nat.not_lt_zero _)
        | succ n_29 ih_29 =>
          intro x_15 M_18 g_24 H locs ls hf_29 b_16 b_17 iM_18 f_19 f_20 f_21 f_22 f_23 hs_25 j_26 j_27 j_28 hw hl
          refine lv_iload hx hb dX10_levy_61 (lv_at hl 0 rfl) ?_
          refine lv_aload_n hx hb dX10_levy_63 rfl (lv_at hl 3 rfl) ?_
          refine ti_get (ci := 10) (k := 38) (N := 67) (T := TX10) (v := .ref (A 60 39)) C hw iw_10 rfl ob_60 (by decide) (by decide) fl_X10_81 rfl rfl dX10_levy_64 ?_
          refine lv_iload_n hx hb dX10_levy_67 rfl (lv_at hl 4 rfl) ?_
          refine ti_iald (ci := 10) (k := 38) (n := 23) C hw ob_60 (by decide) (fun _ _ => rfl) (by unfold vp_in; decide) dX10_levy_68 ?_
          refine ti_top (y := x_7) ((congrArg _ (by decide)).trans ((cg f_19.2.2.1 1).trans yx_7)) ?_
          have L_30 : g_24 3 = x_7.toInt := (hs_25.1.2.1).trans (congrArg Int32.toInt ((cg f_19.2.2.1 1).trans yx_7))
          refine sb_icmp_ge (tgt := 166) hx hb rfl rfl dX10_levy_69 (by decide) (fun c_69_30 => ?_) (fun c_69_30 => ?_)
          · exact hQ _ _ _ _ _ hw (⟨f_21, ((f_23)), (by unfold bq_ly; rw [show bq_ma rg (rg 114) = x_12.toInt by (unfold bq_ma; rw [if_pos (by omega), show rg 114 = x_1.toInt by omega]; exact LT), if_neg (by omega), ← j_26, lf_end (by omega)]; exact hs_25), iM_18, f_19, ((f_20))⟩) dX10_levy_166
          · refine lv_iload hx hb dX10_levy_72 (lv_at hl 0 rfl) ?_
            refine lv_iload_n hx hb dX10_levy_74 rfl (lv_at hl 2 rfl) ?_
            refine sb_icmp_ne (tgt := 81) hx hb rfl rfl dX10_levy_75 (by decide) (fun c_75_31 => ?_) (fun c_75_31 => ?_)
            · refine lv_aload_n hx hb dX10_levy_81 rfl (lv_at hl 3 rfl) ?_
              refine ti_get (ci := 10) (k := 39) (N := 67) (T := TX10) (v := .ref (A 60 40)) C hw iw_10 rfl ob_60 (by decide) (by decide) fl_X10_84 rfl rfl dX10_levy_82 ?_
              refine lv_bipush (v := 8) hx hb dX10_levy_85 (by decide) ?_
              refine lv_iload_n hx hb dX10_levy_87 rfl (lv_at hl 4 rfl) ?_
              refine lv_imul hx hb dX10_levy_88 ?_
              refine ti_top (y := 8) (by decide) ?_
              refine lv_iload hx hb dX10_levy_89 (lv_at hl 0 rfl) ?_
              refine lv_iadd hx hb dX10_levy_91 ?_
              refine lv_topi (fun x_33 ex_33 => ?_)
              have tx_33 : x_33.toInt = 8 + x_15.toInt := i_add ex_33 (by decide : (8 : Int32).toInt = 8) rfl (by omega) (by omega)
              refine ti_iald (ci := 10) (k := 39) (n := 184) C hw ob_60 (by decide) (fun _ _ => rfl) (vp_in_iff.mpr (by omega)) dX10_levy_92 ?_
              refine lv_topi (fun x_34 ex_34 => ?_)
              have yx_34 : tY M_18 60 39 x_33.toNatClampNeg = x_34 := (ex_34.symm)
              have bx_34 : 0 ≤ x_34.toInt ∧ x_34.toInt ≤ 7 := mI_ry (k := 39) (i := x_33.toNatClampNeg) iM_18 yx_34.symm
              have wx_34 : tY M 60 39 x_33.toNatClampNeg = x_34 := ((cg f_19.2.2.2.1 x_33.toNatClampNeg)).symm.trans yx_34
              have L_35 : g_24 (96 + x_15.toInt.toNat) = x_34.toInt := (hs_25.2.1 (x_15.toInt.toNat) (by omega) (by omega)).trans (rd_k (n := 8 * 1 + x_15.toInt.toNat) (by omega) ((cg f_19.2.2.2.1 x_33.toNatClampNeg).trans wx_34))
              have A_36 : 0 ≤ rg (96 + x_15.toInt.toNat) ∧ rg (96 + x_15.toInt.toNat) < tx 4 ∧ rg (128 + (rg (96 + x_15.toInt.toNat)).toNat) = 1 := hwf.2.2.1 x_15.toInt.toNat (by omega)
              rw [← j_27 _ (by omega : 96 + x_15.toInt.toNat < 192), L_35] at A_36
              have stA_36 : g_24 (128 + x_34.toInt.toNat) = 1 := by rw [j_27 _ (by omega)]; exact A_36.2.2
              have w2A_36 : g_24 2 = rg 2 := j_27 2 (by decide)
              have BT : x_34.toInt ≠ x_12.toInt := fun q => by have := hwf.2.2.2.1 x_15.toInt.toNat x_1.toInt.toNat (by omega) (by omega) (by rw [LT, ← j_27 _ (by omega : 96 + x_15.toInt.toNat < 192), L_35]; exact q); omega
              refine lv_istore (lv' := [(6, .int x_34), (5, .int x_15), (4, .int x_14), (3, .int x_1), (0, .ref (A 60 0)), (1, .int 1), (2, .int t)]) hx hb dX10_levy_93 hl (by decide) rfl (fun ls hl => ?_)
              refine lv_aload_n hx hb dX10_levy_95 rfl (lv_at hl 4 rfl) ?_
              refine lv_iload_n hx hb dX10_levy_96 rfl (lv_at hl 5 rfl) ?_
              refine lv_iload hx hb dX10_levy_97 (lv_at hl 0 rfl) ?_
              refine lv_iload hx hb dX10_levy_99 (lv_at hl 1 rfl) ?_
              refine lv_iload_n hx hb dX10_levy_101 rfl (lv_at hl 6 rfl) ?_
              refine ti_callVv (ci := 10) (av := [.int 1, .int x_34, .int x_15, .int t]) C hw (z_X10_calls_1 l D A cy hJ M_18 iM_18 x_34 x_15 t (by first | omega | decide) (by first | omega | decide) tx g_24 (tR_lw htr (eR_lw (q := 1) f_21)) ht4 hs_25 (by omega) stA_36 (by omega)) ⟨ml_X10_363, ym_X10_calls, yv_X10_calls, yi_X10_calls, yc_X10_calls⟩ yd_X10_calls ob_60 (by decide) rfl rfl hl.1 (Nat.le_of_ble_eq_true rfl) ⟨by decide, by decide⟩ ⟨Nat.zero_le _, Nat.zero_le _⟩ dX10_levy_102 (fun M_38 H locs hp_38 hw => ?_)
              obtain ⟨n6_41, fi_42, iM_38, q_39, q_40⟩ := hp_38
              have hs_43 : qR (tx 4).toNat 1 g_24 M_38 := qR_of hs_25 q_40
              refine lv_aload_n hx hb dX10_levy_105 rfl (lv_at hl 4 rfl) ?_
              refine ti_get (ci := 10) (k := 43) (N := 67) (T := TX10) (v := .ref (A 60 44)) C hw iw_10 rfl ob_60 (by decide) (by decide) fl_X10_96 rfl rfl dX10_levy_106 ?_
              refine lv_bipush (v := 8) hx hb dX10_levy_109 (by decide) ?_
              refine lv_iload_n hx hb dX10_levy_111 rfl (lv_at hl 5 rfl) ?_
              refine lv_imul hx hb dX10_levy_112 ?_
              refine ti_top (y := 8) (by decide) ?_
              refine lv_iload hx hb dX10_levy_113 (lv_at hl 0 rfl) ?_
              refine lv_iadd hx hb dX10_levy_115 ?_
              refine lv_topi (fun x_44 ex_44 => ?_)
              have tx_44 : x_44.toInt = 8 + x_34.toInt := i_add ex_44 (by decide : (8 : Int32).toInt = 8) rfl (by omega) (by omega)
              refine ti_iald (ci := 10) (k := 43) (n := 184) C hw ob_60 (by decide) (fun _ _ => rfl) (vp_in_iff.mpr (by omega)) dX10_levy_116 ?_
              refine lv_topi (fun x_45 ex_45 => ?_)
              have yx_45 : tY M_38 60 43 x_44.toNatClampNeg = x_45 := (ex_45.symm)
              have wx_45 : tY M_18 60 43 x_44.toNatClampNeg = x_45 := ((cg (tY_fr q_40) x_44.toNatClampNeg)).symm.trans yx_45
              have L_46 : g_24 (192 + x_34.toInt.toNat) = x_45.toInt := ((hs_43.2.2.2.1 (x_34.toInt.toNat) (by omega)).2.2.2.2.1).trans (rd_k (n := 8 * 1 + x_34.toInt.toNat) (by omega) ((cg (tY_fr q_40) x_44.toNatClampNeg).trans wx_45))
              refine lv_aload_n hx hb dX10_levy_117 rfl (lv_at hl 4 rfl) ?_
              refine lv_iconst (v := 0) hx hb dX10_levy_118 (by decide) ?_
              refine lv_iconst (v := 0) hx hb dX10_levy_119 (by decide) ?_
              refine lv_bipush (v := 99) hx hb dX10_levy_120 (by decide) ?_
              refine lv_iconst (v := 1) hx hb dX10_levy_122 (by decide) ?_
              refine ti_callVi (ci := 10) (av := [.int 0, .int 0, .int 99, .int 1]) C hw (z_X10_within l D A cy hJ M_38 iM_38 (mL_lw (lk.trans (lk_of q_39.1 q_39.2.1) (lk_of f_19.1 f_19.2.1)).1 hL) 0 (by first | omega | decide) (by first | omega | decide) 0 99 1 (bq_fa tx g_24 x_34.toInt x_15.toInt) tx (tR_lw htr (eR_lw (q := 1) (eR.trans (eR_fI fi_42 q_40) f_21))) n6_41 (by first | decide | omega)) ⟨ml_X10_367, ym_X10_within, yv_X10_within, yi_X10_within, yc_X10_within⟩ yd_X10_within ob_60 (by decide) rfl rfl hl.1 (Nat.le_of_ble_eq_true rfl) ⟨by decide, by decide⟩ ⟨Nat.zero_le _, Nat.zero_le _⟩ dX10_levy_123 (fun r_47 M_48 H locs hp_48 hw => ?_)
              obtain ⟨fi_52, pr_47, iM_48, q_50, q_51⟩ := hp_48
              have hs_53 : qR (tx 4).toNat 1 g_24 M_48 := qR_of hs_43 q_51
              try simp only [show (0 : Int32).toInt.toNat = 0 by decide] at pr_47
              try simp only [show (0 : Int32).toInt = 0 by decide] at pr_47
              try simp only [show (0 : Int32).toInt.toNat = 0 by decide] at pr_47
              try simp only [show (0 : Int32).toInt = 0 by decide] at pr_47
              try simp only [show (99 : Int32).toInt.toNat = 99 by decide] at pr_47
              try simp only [show (99 : Int32).toInt = 99 by decide] at pr_47
              try simp only [show (1 : Int32).toInt.toNat = 1 by decide] at pr_47
              try simp only [show (1 : Int32).toInt = 1 by decide] at pr_47
              have bpr_47 : 0 ≤ r_47.toInt ∧ r_47.toInt ≤ 99 := by rw [pr_47]; unfold bq_pt; (repeat' split) <;> omega
              refine ti_min C ml_X10_380 hl.1 (by decide) (Nat.le_of_ble_eq_true rfl) ⟨Nat.zero_le _, Nat.zero_le _⟩ dX10_levy_126 ?_
              refine lv_topi (fun x_54 ex_54 => ?_)
              have bx_54 := i_min ex_54 rfl rfl
              refine lv_istore (lv' := [(7, .int x_54), (6, .int x_34), (5, .int x_15), (4, .int x_14), (3, .int x_1), (0, .ref (A 60 0)), (1, .int 1), (2, .int t)]) hx hb dX10_levy_129 hl (by decide) rfl (fun ls hl => ?_)
              refine lv_aload_n hx hb dX10_levy_131 rfl (lv_at hl 5 rfl) ?_
              refine ti_get (ci := 10) (k := 43) (N := 67) (T := TX10) (v := .ref (A 60 44)) C hw iw_10 rfl ob_60 (by decide) (by decide) fl_X10_96 rfl rfl dX10_levy_132 ?_
              refine lv_bipush (v := 8) hx hb dX10_levy_135 (by decide) ?_
              refine lv_iload_n hx hb dX10_levy_137 rfl (lv_at hl 6 rfl) ?_
              refine lv_imul hx hb dX10_levy_138 ?_
              refine ti_top (y := 8) (by decide) ?_
              refine lv_iload hx hb dX10_levy_139 (lv_at hl 1 rfl) ?_
              refine lv_iadd hx hb dX10_levy_141 ?_
              refine lv_topi (fun x_55 ex_55 => ?_)
              have tx_55 : x_55.toInt = 8 + x_34.toInt := i_add ex_55 (by decide : (8 : Int32).toInt = 8) rfl (by omega) (by omega)
              refine lv_dup2_11 hx hb dX10_levy_142 rfl rfl ?_
              refine ti_iald (ci := 10) (k := 43) (n := 184) C hw ob_60 (by decide) (fun _ _ => rfl) (vp_in_iff.mpr (by omega)) dX10_levy_143 ?_
              refine lv_topi (fun x_56 ex_56 => ?_)
              have yx_56 : tY M_48 60 43 x_55.toNatClampNeg = x_56 := (ex_56.symm)
              have wx_56 : tY M_18 60 43 x_55.toNatClampNeg = x_56 := (((cg (tY_fr q_51) x_55.toNatClampNeg).trans (cg (tY_fr q_40) x_55.toNatClampNeg))).symm.trans yx_56
              have L_57 : g_24 (192 + x_34.toInt.toNat) = x_56.toInt := ((hs_53.2.2.2.1 (x_34.toInt.toNat) (by omega)).2.2.2.2.1).trans (rd_k (n := 8 * 1 + x_34.toInt.toNat) (by omega) ((cg (tY_fr q_51) x_55.toNatClampNeg).trans ((cg (tY_fr q_40) x_55.toNatClampNeg).trans wx_56)))
              refine lv_iload hx hb dX10_levy_144 (lv_at hl 0 rfl) ?_
              refine lv_isub hx hb dX10_levy_146 ?_
              refine lv_topi (fun x_58 ex_58 => ?_)
              have tx_58 : x_58.toInt = bw (x_56.toInt - x_54.toInt) := bw_sub ex_58 rfl rfl
              refine ti_iast (ci := 10) (k := 43) (n := 184) C hw ob_60 (by decide) (fun _ _ => rfl) (vp_in_iff.mpr (by omega)) dX10_levy_147 (fun H locs hw => ?_)
              obtain ⟨M_59, hM_59⟩ : ∃ z : ti_M, z = uY M_48 60 43 (upd (tY M_48 60 43) (x_55 : Int32).toNatClampNeg x_58) := ⟨_, rfl⟩
              have hw := hw.to hM_59.symm
              have iM_59 : mI Tm M_59 := mI_up (i := x_55.toNatClampNeg) iM_48 hM_59 trivial
              have hs_60 : qR (tx 4).toNat 1 (pp_su g_24 (192 + x_34.toInt.toNat) x_58.toInt) M_59 := qR_43 (m := x_34.toInt.toNat) (z := x_55) hs_53 (by omega) rfl hM_59 (by omega) (by omega)
              obtain ⟨g_61, eg_61⟩ : ∃ z : Nat → Int, z = pp_su g_24 (192 + x_34.toInt.toNat) x_58.toInt := ⟨_, rfl⟩
              rw [← eg_61] at hs_60
              refine lv_aload_n hx hb dX10_levy_148 rfl (lv_at hl 5 rfl) ?_
              refine ti_get (ci := 10) (k := 43) (N := 67) (T := TX10) (v := .ref (A 60 44)) C hw iw_10 rfl ob_60 (by decide) (by decide) fl_X10_96 rfl rfl dX10_levy_149 ?_
              refine lv_iload hx hb dX10_levy_152 (lv_at hl 3 rfl) ?_
              refine lv_dup2_11 hx hb dX10_levy_154 rfl rfl ?_
              refine ti_iald (ci := 10) (k := 43) (n := 184) C hw ob_60 (by decide) (fun _ _ => rfl) (vp_in_iff.mpr (by omega)) dX10_levy_155 ?_
              refine lv_topi (fun x_62 ex_62 => ?_)
              have yx_62 : tY M_59 60 43 x_14.toNatClampNeg = x_62 := (ex_62.symm)
              have L_63 : g_61 (192 + x_12.toInt.toNat) = x_62.toInt := ((hs_60.2.2.2.1 (x_12.toInt.toNat) (by omega)).2.2.2.2.1).trans (rd_k (n := 8 * 1 + x_12.toInt.toNat) (by omega) (yx_62))
              refine lv_iload hx hb dX10_levy_156 (lv_at hl 0 rfl) ?_
              refine lv_iadd hx hb dX10_levy_158 ?_
              refine lv_topi (fun x_64 ex_64 => ?_)
              have tx_64 : x_64.toInt = bw (x_62.toInt + x_54.toInt) := bw_add ex_64 rfl rfl
              refine ti_iast (ci := 10) (k := 43) (n := 184) C hw ob_60 (by decide) (fun _ _ => rfl) (vp_in_iff.mpr (by omega)) dX10_levy_159 (fun H locs hw => ?_)
              obtain ⟨M_65, hM_65⟩ : ∃ z : ti_M, z = uY M_59 60 43 (upd (tY M_59 60 43) (x_14 : Int32).toNatClampNeg x_64) := ⟨_, rfl⟩
              have hw := hw.to hM_65.symm
              have iM_65 : mI Tm M_65 := mI_up (i := x_14.toNatClampNeg) iM_59 hM_65 trivial
              have hs_66 : qR (tx 4).toNat 1 (pp_su g_61 (192 + x_12.toInt.toNat) x_64.toInt) M_65 := qR_43 (m := x_12.toInt.toNat) (z := x_14) hs_60 (by omega) rfl hM_65 (by omega) (by omega)
              obtain ⟨g_67, eg_67⟩ : ∃ z : Nat → Int, z = pp_su g_61 (192 + x_12.toInt.toNat) x_64.toInt := ⟨_, rfl⟩
              rw [← eg_67] at hs_66
              obtain ⟨x_69, ex_69⟩ : ∃ z : Int32, z = x_15 + 1 := ⟨_, rfl⟩
              have tx_69 : x_69.toInt = x_15.toInt + 1 := i_add ex_69 rfl (by decide) (by omega) (by omega)
              refine lv_iinc (v := x_69) (lv' := [(5, .int x_69), (7, .int x_54), (6, .int x_34), (4, .int x_14), (3, .int x_1), (0, .ref (A 60 0)), (1, .int 1), (2, .int t)]) hx hb dX10_levy_160 hl (k := 2) rfl (by rw [ex_69]; rfl) (by decide) rfl (fun ls hl => ?_)
              refine lv_goto (tgt := 61) hx hb dX10_levy_163 (by decide) ?_
              exact ih_29 x_69 M_65 g_67 _ _ _ (by omega) (by first | omega | decide) (by first | omega | decide) iM_65 (qw.trans (qw_Y hM_65 (by decide)) (qw.trans (qw_Y hM_59 (by decide)) (qw.trans q_50 (qw.trans q_39 f_19)))) (((tY_nE hM_65 (nk (by decide))).trans ((tY_nE hM_59 (nk (by decide))).trans ((tY_fr q_51).trans ((tY_fr q_40).trans f_20))))) (eR.trans (eR_Y hM_65 (bk_m (z := x_14) (by omega) (by decide))) (eR.trans (eR_Y hM_59 (bk_m (z := x_55) (by omega) (by decide))) (eR.trans (eR_fI fi_52 q_51) (eR.trans (eR_fI fi_42 q_40) f_21)))) (fI.trans (fI_Y hM_65) (fI.trans (fI_Y hM_59) (fI.trans fi_52 (fI.trans fi_42 f_22)))) (((tY_nE hM_65 (nk (by decide))).trans ((tY_nE hM_59 (nk (by decide))).trans ((tY_fr q_51).trans ((tY_fr q_40).trans f_23))))) hs_66 (by rw [← j_26, lf_go (tx := tx) (t := x_12.toInt) (s := g_24) (p := x_15.toInt.toNat) (f := (g_24 3).toNat - x_15.toInt.toNat) (f' := (g_24 3).toNat - x_69.toInt.toNat) (by omega), show bq_l1 tx g_24 x_12.toInt x_15.toInt.toNat = g_67 by (unfold bq_l1 bq_py; rw [if_neg (by omega), L_35, show ((x_15.toInt.toNat : Nat) : Int) = x_15.toInt by omega, show bq_lv tx g_24 0 (x_15.toInt) (x_15.toInt) = _ from lv_wv (x := x_34.toInt) (by unfold bq_ma; rw [if_pos (by omega)]; exact L_35) (by omega), ← pr_47, show g_24 (192 + x_34.toInt.toNat) = x_45.toInt by omega, show bq_mn r_47.toInt x_45.toInt = x_54.toInt by (unfold bq_mn; split <;> omega), show x_45.toInt = x_56.toInt by omega, ← tx_58, ← eg_61, show g_61 (192 + x_12.toInt.toNat) = x_62.toInt by omega, ← tx_64, ← eg_67]), show x_69.toInt.toNat = x_15.toInt.toNat + 1 by omega, show (g_67 3).toNat = (g_24 3).toNat by rw [eg_67, su_n (by omega), eg_61, su_n (by omega)]]) (fun j hj => by rw [eg_67, su_n (by omega), eg_61, su_n (by omega)]; exact j_27 j hj) (((fun j hj => by rw [eg_67, su_n (by omega), eg_61, su_n (by omega)]; exact j_27 j hj) : ∀ j : Nat, j < 192 → g_67 j = rg j) 3 (by decide)) hw (lv_sub hl [0, 3, 4, 5, 6, 7] rfl)
            · refine lv_goto (tgt := 160) hx hb dX10_levy_78 (by decide) ?_
              obtain ⟨x_68, ex_68⟩ : ∃ z : Int32, z = x_15 + 1 := ⟨_, rfl⟩
              have tx_68 : x_68.toInt = x_15.toInt + 1 := i_add ex_68 rfl (by decide) (by omega) (by omega)
              refine lv_iinc (v := x_68) (lv' := [(5, .int x_68), (4, .int x_14), (3, .int x_1), (0, .ref (A 60 0)), (1, .int 1), (2, .int t)]) hx hb dX10_levy_160 hl (k := 0) rfl (by rw [ex_68]; rfl) (by decide) rfl (fun ls hl => ?_)
              refine lv_goto (tgt := 61) hx hb dX10_levy_163 (by decide) ?_
              exact ih_29 x_68 M_18 g_24 _ _ _ (by omega) (by first | omega | decide) (by first | omega | decide) iM_18 f_19 ((f_20)) f_21 f_22 ((f_23)) hs_25 (by rw [← j_26, lf_go (tx := tx) (t := x_12.toInt) (s := g_24) (p := x_15.toInt.toNat) (f := (g_24 3).toNat - x_15.toInt.toNat) (f' := (g_24 3).toNat - x_68.toInt.toNat) (by omega), show bq_l1 tx g_24 x_12.toInt x_15.toInt.toNat = g_24 by (unfold bq_l1; rw [if_pos (by rw [j_27 _ (by omega : 96 + x_15.toInt.toNat < 192), show x_15.toInt.toNat = x_1.toInt.toNat by omega]; exact LT)]), show x_68.toInt.toNat = x_15.toInt.toNat + 1 by omega]) j_27 ((j_27 : ∀ j : Nat, j < 192 → g_24 j = rg j) 3 (by decide)) hw (lv_sub hl [0, 1, 2, 3, 4, 5] rfl)
      exact hl_61_28 ((8 - 0 : Int).toNat + 1) 0 M rg _ _ _ (Nat.lt_succ_self _) (by have lt0 : (0 : Int32).toInt = 0 := (by decide); first | omega | decide) (by have lt0 : (0 : Int32).toInt = 0 := (by decide); first | omega | decide) hI qw.refl rfl eR.refl fI.refl rfl hr (by show bq_lf tx _ ((rg 3).toNat - 0) 0 rg = _; rfl) (fun _ _ => rfl) rfl hw (lv_sub hl [0, 1, 2, 3, 4, 5] rfl)
set_option maxHeartbeats 4000000 in
set_option maxRecDepth 100000 in
theorem z_X10_wear_0 (l : Launch) (D : va_G) (A : Nat → Nat → Nat) (cy : Nat → ClassId) (hJ : ti_inj ti_LM A) (M : ti_M) (hI : mI Tm M) (hL : mL M) (t : Int32) (tx rg : Nat → Int) (htr : tR tx M) (ht4 : 0 ≤ tx 4 ∧ tx 4 ≤ 8) (hr : qR (tx 4).toNat 0 rg M) (hwf : wF tx rg) (htw : tI M 60 53 = -1) (htm : t.toInt = rg 2) : ti_Kv l yX10_wear cX10_wear 6 4 ti_LM D A cy M [.ref (A 60 0), .int 0, .int t] (fun M2 => eR 0 M2 M ∧ tY M2 60 48 = tY M 60 48 ∧ qR (tx 4).toNat 0 (bq_wr tx rg) M2 ∧ mI Tm M2 ∧ qw M2 M ∧ tY M2 60 34 = tY M 60 34) := by
  refine ti_eV yp_X10_wear hJ ti_LM_nd (Nat.le_of_ble_eq_true rfl) ?_
  intro p e s m args below meth c Q H0 C hQ hw ls hl
  have hx := C.1
  have hb := C.2.1
  have hl : lv_has ls 6 [(0, .ref (A 60 0)), (1, .int 0), (2, .int t)] := hl
  refine lv_iconst (v := 0) hx hb dX10_wear_0 (by decide) ?_
  refine lv_istore_n (lv' := [(3, .int 0), (0, .ref (A 60 0)), (1, .int 0), (2, .int t)]) hx hb dX10_wear_1 rfl hl (by decide) rfl (fun ls hl => ?_)
  have hl_2_14 : ∀ (n_15 : Nat) (x_1 : Int32) (M_4 : ti_M) (g_10 : Nat → Int) (H : Heap) (locs : List Loc) (ls : Array Slot), (8 - x_1.toInt : Int).toNat < n_15 → (0 ≤ x_1.toInt) → (x_1.toInt ≤ 8) → (mI Tm M_4) → (qw M_4 M) → (tY M_4 60 34 = tY M 60 34) → (eR 0 M_4 M) → (fI M_4 M) → (tY M_4 60 48 = tY M 60 48) → (qR (tx 4).toNat 0 g_10 M_4) → (bq_wf tx ((g_10 3).toNat - (x_1.toInt).toNat) (x_1.toInt).toNat g_10 = bq_wf tx (rg 3).toNat 0 rg) → (∀ j : Nat, j < 160 → g_10 j = rg j) → (g_10 3 = rg 3) → ti_H ti_LM D A cy H0 M_4 H locs → lv_has ls 6 [(3, .int x_1), (0, .ref (A 60 0)), (1, .int 0), (2, .int t)] → W p l e (ti_rm 4) s m args below meth c H locs 0 0 Q (F0 m 2 ls []) := by
    intro n_15
    induction n_15 with
    | zero => intro x_1 M_4 g_10 H locs ls hf_15; exact absurd hf_15 (Nat.not_lt_zero _)
    | succ n_15 ih_15 =>
      intro x_1 M_4 g_10 H locs ls hf_15 b_2 b_3 iM_4 f_5 f_6 f_7 f_8 f_9 hs_11 j_12 j_13 j_14 hw hl
      refine lv_iload_n hx hb dX10_wear_2 rfl (lv_at hl 0 rfl) ?_
      refine lv_aload_n hx hb dX10_wear_3 rfl (lv_at hl 1 rfl) ?_
      refine ti_get (ci := 10) (k := 38) (N := 67) (T := TX10) (v := .ref (A 60 39)) C hw iw_10 rfl ob_60 (by decide) (by decide) fl_X10_81 rfl rfl dX10_wear_4 ?_
      refine lv_iload_n hx hb dX10_wear_7 rfl (lv_at hl 2 rfl) ?_
      refine ti_iald (ci := 10) (k := 38) (n := 23) C hw ob_60 (by decide) (fun _ _ => rfl) (by unfold vp_in; decide) dX10_wear_8 ?_
      refine lv_topi (fun x_16 ex_16 => ?_)
      have yx_16 : tY M_4 60 38 0 = x_16 := ((congrArg _ (by decide)).symm.trans ex_16.symm)
      have bx_16 : 0 ≤ x_16.toInt ∧ x_16.toInt ≤ 8 := mI_ry (k := 38) (i := 0) iM_4 yx_16.symm
      have zx_16 : (tY M_4 60 38 0).toInt = x_16.toInt := by rw [yx_16]
      have wx_16 : tY M 60 38 0 = x_16 := ((cg f_5.2.2.1 0)).symm.trans yx_16
      have zwx_16 : (tY M 60 38 0).toInt = x_16.toInt := by rw [wx_16]
      have L_17 : g_10 3 = x_16.toInt := (hs_11.1.2.1).trans (congrArg Int32.toInt ((cg f_5.2.2.1 0).trans wx_16))
      refine sb_icmp_ge (tgt := 104) hx hb rfl rfl dX10_wear_9 (by decide) (fun c_9_17 => ?_) (fun c_9_17 => ?_)
      · exact hQ _ _ _ _ _ hw (⟨f_7, ((f_9)), (by unfold bq_wr; rw [← j_12, wf_end (by omega)]; exact hs_11), iM_4, f_5, ((f_6))⟩) dX10_wear_104
      · refine lv_aload_n hx hb dX10_wear_12 rfl (lv_at hl 1 rfl) ?_
        refine ti_get (ci := 10) (k := 39) (N := 67) (T := TX10) (v := .ref (A 60 40)) C hw iw_10 rfl ob_60 (by decide) (by decide) fl_X10_84 rfl rfl dX10_wear_13 ?_
        refine lv_bipush (v := 8) hx hb dX10_wear_16 (by decide) ?_
        refine lv_iload_n hx hb dX10_wear_18 rfl (lv_at hl 2 rfl) ?_
        refine lv_imul hx hb dX10_wear_19 ?_
        refine ti_top (y := 0) (by decide) ?_
        refine lv_iload_n hx hb dX10_wear_20 rfl (lv_at hl 0 rfl) ?_
        refine lv_iadd hx hb dX10_wear_21 ?_
        refine lv_topi (fun x_19 ex_19 => ?_)
        have tx_19 : x_19.toInt = 0 + x_1.toInt := i_add ex_19 (by decide : (0 : Int32).toInt = 0) rfl (by omega) (by omega)
        refine ti_iald (ci := 10) (k := 39) (n := 184) C hw ob_60 (by decide) (fun _ _ => rfl) (vp_in_iff.mpr (by omega)) dX10_wear_22 ?_
        refine lv_topi (fun x_20 ex_20 => ?_)
        have yx_20 : tY M_4 60 39 x_19.toNatClampNeg = x_20 := (ex_20.symm)
        have bx_20 : 0 ≤ x_20.toInt ∧ x_20.toInt ≤ 7 := mI_ry (k := 39) (i := x_19.toNatClampNeg) iM_4 yx_20.symm
        have wx_20 : tY M 60 39 x_19.toNatClampNeg = x_20 := ((cg f_5.2.2.2.1 x_19.toNatClampNeg)).symm.trans yx_20
        have L_21 : g_10 (96 + x_1.toInt.toNat) = x_20.toInt := (hs_11.2.1 (x_1.toInt.toNat) (by omega) (by omega)).trans (rd_k (n := 8 * 0 + x_1.toInt.toNat) (by omega) ((cg f_5.2.2.2.1 x_19.toNatClampNeg).trans wx_20))
        have A_22 : 0 ≤ rg (96 + x_1.toInt.toNat) ∧ rg (96 + x_1.toInt.toNat) < tx 4 ∧ rg (128 + (rg (96 + x_1.toInt.toNat)).toNat) = 1 := hwf.2.2.1 x_1.toInt.toNat (by omega)
        rw [← j_13 _ (by omega : 96 + x_1.toInt.toNat < 160), L_21] at A_22
        have stA_22 : g_10 (128 + x_20.toInt.toNat) = 1 := by rw [j_13 _ (by omega)]; exact A_22.2.2
        have w2A_22 : g_10 2 = rg 2 := j_13 2 (by decide)
        refine lv_istore (lv' := [(4, .int x_20), (3, .int x_1), (0, .ref (A 60 0)), (1, .int 0), (2, .int t)]) hx hb dX10_wear_23 hl (by decide) rfl (fun ls hl => ?_)
        refine lv_bipush (v := 8) hx hb dX10_wear_25 (by decide) ?_
        refine lv_iload_n hx hb dX10_wear_27 rfl (lv_at hl 3 rfl) ?_
        refine lv_imul hx hb dX10_wear_28 ?_
        refine ti_top (y := 0) (by decide) ?_
        refine lv_iload hx hb dX10_wear_29 (lv_at hl 0 rfl) ?_
        refine lv_iadd hx hb dX10_wear_31 ?_
        refine lv_topi (fun x_23 ex_23 => ?_)
        have tx_23 : x_23.toInt = 0 + x_20.toInt := i_add ex_23 (by decide : (0 : Int32).toInt = 0) rfl (by omega) (by omega)
        refine lv_istore (lv' := [(5, .int x_23), (4, .int x_20), (3, .int x_1), (0, .ref (A 60 0)), (1, .int 0), (2, .int t)]) hx hb dX10_wear_32 hl (by decide) rfl (fun ls hl => ?_)
        refine lv_aload_n hx hb dX10_wear_34 rfl (lv_at hl 3 rfl) ?_
        refine ti_get (ci := 10) (k := 47) (N := 67) (T := TX10) (v := .ref (A 60 48)) C hw iw_10 rfl ob_60 (by decide) (by decide) fl_X10_108 rfl rfl dX10_wear_35 ?_
        refine lv_iload hx hb dX10_wear_38 (lv_at hl 0 rfl) ?_
        refine ti_iald (ci := 10) (k := 47) (n := 184) C hw ob_60 (by decide) (fun _ _ => rfl) (vp_in_iff.mpr (by omega)) dX10_wear_40 ?_
        refine lv_topi (fun x_24 ex_24 => ?_)
        have yx_24 : tY M_4 60 47 x_23.toNatClampNeg = x_24 := (ex_24.symm)
        have L_25 : g_10 (240 + x_20.toInt.toNat) = x_24.toInt := ((hs_11.2.2.2.1 (x_20.toInt.toNat) (by omega)).2.2.2.2.2).trans (rd_k (n := 8 * 0 + x_20.toInt.toNat) (by omega) (yx_24))
        refine sb_if_le (tgt := 58) hx hb rfl dX10_wear_41 (by decide) (fun c_41_25 => ?_) (fun c_41_25 => ?_)
        · refine lv_iload_n hx hb dX10_wear_58 rfl (lv_at hl 2 rfl) ?_
          refine sb_if_le (tgt := 98) hx hb rfl dX10_wear_59 (by decide) (fun c_59_31 => ?_) (fun c_59_31 => ?_)
          · obtain ⟨x_55, ex_55⟩ : ∃ z : Int32, z = x_1 + 1 := ⟨_, rfl⟩
            have tx_55 : x_55.toInt = x_1.toInt + 1 := i_add ex_55 rfl (by decide) (by omega) (by omega)
            refine lv_iinc (v := x_55) (lv' := [(3, .int x_55), (5, .int x_23), (4, .int x_20), (0, .ref (A 60 0)), (1, .int 0), (2, .int t)]) hx hb dX10_wear_98 hl (k := 2) rfl (by rw [ex_55]; rfl) (by decide) rfl (fun ls hl => ?_)
            refine lv_goto (tgt := 2) hx hb dX10_wear_101 (by decide) ?_
            exact ih_15 x_55 M_4 g_10 _ _ _ (by omega) (by first | omega | decide) (by first | omega | decide) iM_4 f_5 ((f_6)) f_7 f_8 ((f_9)) hs_11 (by rw [← j_12, wf_go (tx := tx) (s := g_10) (p := x_1.toInt.toNat) (f := (g_10 3).toNat - x_1.toInt.toNat) (f' := (g_10 3).toNat - x_55.toInt.toNat) (by omega), show bq_w1 tx g_10 x_1.toInt.toNat = g_10 by (unfold bq_w1; rw [L_21, L_25, if_neg (by omega), if_neg (by omega)]), show x_55.toInt.toNat = x_1.toInt.toNat + 1 by omega]) j_13 ((j_13 : ∀ j : Nat, j < 160 → g_10 j = rg j) 3 (by decide)) hw (lv_sub hl [0, 3, 4, 5] rfl)
          · refine lv_aload_n hx hb dX10_wear_62 rfl (lv_at hl 3 rfl) ?_
            refine ti_get (ci := 10) (k := 53) (N := 67) (T := TX10) C hw iw_10 rfl ob_60 (by decide) (by decide) fl_X10_120 rfl rfl dX10_wear_63 ?_
            refine ti_top (y := (-1)) ((f_8 53 (by decide)).trans htw) ?_
            refine lv_iconst (v := 1) hx hb dX10_wear_66 (by decide) ?_
            refine sb_icmp_eq (tgt := 98) hx hb (by decide : ((-1) : Int32).toInt = (-1)) (by decide : (1 : Int32).toInt = 1) dX10_wear_67 (by decide) (fun h => absurd h (by decide)) (fun c_67_32 => ?_)
            refine lv_aload_n hx hb dX10_wear_70 rfl (lv_at hl 3 rfl) ?_
            refine lv_iload_n hx hb dX10_wear_71 rfl (lv_at hl 4 rfl) ?_
            refine lv_iload hx hb dX10_wear_72 (lv_at hl 1 rfl) ?_
            refine lv_iload_n hx hb dX10_wear_74 rfl (lv_at hl 2 rfl) ?_
            refine lv_iload_n hx hb dX10_wear_75 rfl (lv_at hl 5 rfl) ?_
            refine ti_callVv (ci := 10) (av := [.int 0, .int x_20, .int x_1, .int t]) C hw (z_X10_calls_0 l D A cy hJ M_4 iM_4 x_20 x_1 t (by first | omega | decide) (by first | omega | decide) tx g_10 (tR_lw htr (eR_lw (q := 0) f_7)) ht4 hs_11 (by omega) stA_22 (by omega)) ⟨ml_X10_363, ym_X10_calls, yv_X10_calls, yi_X10_calls, yc_X10_calls⟩ yd_X10_calls ob_60 (by decide) rfl rfl hl.1 (Nat.le_of_ble_eq_true rfl) ⟨by decide, by decide⟩ ⟨Nat.zero_le _, Nat.zero_le _⟩ dX10_wear_76 (fun M_35 H locs hp_35 hw => ?_)
            obtain ⟨n6_38, fi_39, iM_35, q_36, q_37⟩ := hp_35
            have hs_40 : qR (tx 4).toNat 0 g_10 M_35 := qR_of hs_11 q_37
            refine lv_aload_n hx hb dX10_wear_79 rfl (lv_at hl 3 rfl) ?_
            refine ti_get (ci := 10) (k := 41) (N := 67) (T := TX10) (v := .ref (A 60 42)) C hw iw_10 rfl ob_60 (by decide) (by decide) fl_X10_90 rfl rfl dX10_wear_80 ?_
            refine lv_iload hx hb dX10_wear_83 (lv_at hl 0 rfl) ?_
            refine lv_dup2_11 hx hb dX10_wear_85 rfl rfl ?_
            refine ti_iald (ci := 10) (k := 41) (n := 184) C hw ob_60 (by decide) (fun _ _ => rfl) (vp_in_iff.mpr (by omega)) dX10_wear_86 ?_
            refine lv_topi (fun x_41 ex_41 => ?_)
            have yx_41 : tY M_35 60 41 x_23.toNatClampNeg = x_41 := (ex_41.symm)
            have wx_41 : tY M_4 60 41 x_23.toNatClampNeg = x_41 := ((cg (tY_fr q_37) x_23.toNatClampNeg)).symm.trans yx_41
            have L_42 : g_10 (160 + x_20.toInt.toNat) = x_41.toInt := ((hs_40.2.2.2.1 (x_20.toInt.toNat) (by omega)).2.2.1).trans (rd_k (n := 8 * 0 + x_20.toInt.toNat) (by omega) ((cg (tY_fr q_37) x_23.toNatClampNeg).trans wx_41))
            refine lv_aload_n hx hb dX10_wear_87 rfl (lv_at hl 3 rfl) ?_
            refine lv_iconst (v := 1) hx hb dX10_wear_88 (by decide) ?_
            refine lv_iconst (v := 0) hx hb dX10_wear_89 (by decide) ?_
            refine lv_bipush (v := 9) hx hb dX10_wear_90 (by decide) ?_
            refine lv_iconst (v := 1) hx hb dX10_wear_92 (by decide) ?_
            refine ti_callVi (ci := 10) (av := [.int 1, .int 0, .int 9, .int 1]) C hw (z_X10_within l D A cy hJ M_35 iM_35 (mL_lw (lk.trans (lk_of q_36.1 q_36.2.1) (lk_of f_5.1 f_5.2.1)).1 hL) 1 (by first | omega | decide) (by first | omega | decide) 0 9 1 (bq_fa tx g_10 x_20.toInt x_1.toInt) tx (tR_lw htr (eR_lw (q := 0) (eR.trans (eR_fI fi_39 q_37) f_7))) n6_38 (by first | decide | omega)) ⟨ml_X10_367, ym_X10_within, yv_X10_within, yi_X10_within, yc_X10_within⟩ yd_X10_within ob_60 (by decide) rfl rfl hl.1 (Nat.le_of_ble_eq_true rfl) ⟨by decide, by decide⟩ ⟨Nat.zero_le _, Nat.zero_le _⟩ dX10_wear_93 (fun r_43 M_44 H locs hp_44 hw => ?_)
            obtain ⟨fi_48, pr_43, iM_44, q_46, q_47⟩ := hp_44
            have hs_49 : qR (tx 4).toNat 0 g_10 M_44 := qR_of hs_40 q_47
            try simp only [show (1 : Int32).toInt.toNat = 1 by decide] at pr_43
            try simp only [show (1 : Int32).toInt = 1 by decide] at pr_43
            try simp only [show (0 : Int32).toInt.toNat = 0 by decide] at pr_43
            try simp only [show (0 : Int32).toInt = 0 by decide] at pr_43
            try simp only [show (9 : Int32).toInt.toNat = 9 by decide] at pr_43
            try simp only [show (9 : Int32).toInt = 9 by decide] at pr_43
            try simp only [show (1 : Int32).toInt.toNat = 1 by decide] at pr_43
            try simp only [show (1 : Int32).toInt = 1 by decide] at pr_43
            have bpr_43 : 0 ≤ r_43.toInt ∧ r_43.toInt ≤ 9 := by rw [pr_43]; unfold bq_pt; (repeat' split) <;> omega
            refine lv_isub hx hb dX10_wear_96 ?_
            refine lv_topi (fun x_50 ex_50 => ?_)
            have tx_50 : x_50.toInt = bw (x_41.toInt - r_43.toInt) := bw_sub ex_50 rfl rfl
            refine ti_iast (ci := 10) (k := 41) (n := 184) C hw ob_60 (by decide) (fun _ _ => rfl) (vp_in_iff.mpr (by omega)) dX10_wear_97 (fun H locs hw => ?_)
            obtain ⟨M_51, hM_51⟩ : ∃ z : ti_M, z = uY M_44 60 41 (upd (tY M_44 60 41) (x_23 : Int32).toNatClampNeg x_50) := ⟨_, rfl⟩
            have hw := hw.to hM_51.symm
            have iM_51 : mI Tm M_51 := mI_up (i := x_23.toNatClampNeg) iM_44 hM_51 trivial
            have hs_52 : qR (tx 4).toNat 0 (pp_su g_10 (160 + x_20.toInt.toNat) x_50.toInt) M_51 := qR_41 (m := x_20.toInt.toNat) (z := x_23) hs_49 (by omega) rfl hM_51 (by omega) (by omega)
            obtain ⟨g_53, eg_53⟩ : ∃ z : Nat → Int, z = pp_su g_10 (160 + x_20.toInt.toNat) x_50.toInt := ⟨_, rfl⟩
            rw [← eg_53] at hs_52
            obtain ⟨x_56, ex_56⟩ : ∃ z : Int32, z = x_1 + 1 := ⟨_, rfl⟩
            have tx_56 : x_56.toInt = x_1.toInt + 1 := i_add ex_56 rfl (by decide) (by omega) (by omega)
            refine lv_iinc (v := x_56) (lv' := [(3, .int x_56), (5, .int x_23), (4, .int x_20), (0, .ref (A 60 0)), (1, .int 0), (2, .int t)]) hx hb dX10_wear_98 hl (k := 2) rfl (by rw [ex_56]; rfl) (by decide) rfl (fun ls hl => ?_)
            refine lv_goto (tgt := 2) hx hb dX10_wear_101 (by decide) ?_
            exact ih_15 x_56 M_51 g_53 _ _ _ (by omega) (by first | omega | decide) (by first | omega | decide) iM_51 (qw.trans (qw_Y hM_51 (by decide)) (qw.trans q_46 (qw.trans q_36 f_5))) (((tY_nE hM_51 (nk (by decide))).trans ((tY_fr q_47).trans ((tY_fr q_37).trans f_6)))) (eR.trans (eR_Y hM_51 (bk_m (z := x_23) (by omega) (by decide))) (eR.trans (eR_fI fi_48 q_47) (eR.trans (eR_fI fi_39 q_37) f_7))) (fI.trans (fI_Y hM_51) (fI.trans fi_48 (fI.trans fi_39 f_8))) (((tY_nE hM_51 (nk (by decide))).trans ((tY_fr q_47).trans ((tY_fr q_37).trans f_9)))) hs_52 (by rw [← j_12, wf_go (tx := tx) (s := g_10) (p := x_1.toInt.toNat) (f := (g_10 3).toNat - x_1.toInt.toNat) (f' := (g_10 3).toNat - x_56.toInt.toNat) (by omega), show bq_w1 tx g_10 x_1.toInt.toNat = g_53 by (unfold bq_w1; rw [L_21, L_25, if_neg (by omega), if_pos (by omega), show g_10 (160 + x_20.toInt.toNat) = x_41.toInt by omega, show ((x_1.toInt.toNat : Nat) : Int) = x_1.toInt by omega, show bq_lv tx g_10 1 (x_1.toInt) (x_1.toInt) = _ from lv_wv (x := x_20.toInt) (by unfold bq_ma; rw [if_pos (by omega)]; exact L_21) (by omega), ← pr_43, ← tx_50, ← eg_53]), show x_56.toInt.toNat = x_1.toInt.toNat + 1 by omega, show (g_53 3).toNat = (g_10 3).toNat by rw [eg_53, su_n (by omega)]]) (fun j hj => by rw [eg_53, su_n (by omega)]; exact j_13 j hj) (((fun j hj => by rw [eg_53, su_n (by omega)]; exact j_13 j hj) : ∀ j : Nat, j < 160 → g_53 j = rg j) 3 (by decide)) hw (lv_sub hl [0, 3, 4, 5] rfl)
        · refine lv_aload_n hx hb dX10_wear_44 rfl (lv_at hl 3 rfl) ?_
          refine ti_get (ci := 10) (k := 47) (N := 67) (T := TX10) (v := .ref (A 60 48)) C hw iw_10 rfl ob_60 (by decide) (by decide) fl_X10_108 rfl rfl dX10_wear_45 ?_
          refine lv_iload hx hb dX10_wear_48 (lv_at hl 0 rfl) ?_
          refine lv_dup2_11 hx hb dX10_wear_50 rfl rfl ?_
          refine ti_iald (ci := 10) (k := 47) (n := 184) C hw ob_60 (by decide) (fun _ _ => rfl) (vp_in_iff.mpr (by omega)) dX10_wear_51 ?_
          refine ti_top (y := x_24) ((yx_24)) ?_
          have L_27 : g_10 (240 + x_20.toInt.toNat) = x_24.toInt := ((hs_11.2.2.2.1 (x_20.toInt.toNat) (by omega)).2.2.2.2.2).trans (rd_k (n := 8 * 0 + x_20.toInt.toNat) (by omega) (yx_24))
          refine lv_iconst (v := 1) hx hb dX10_wear_52 (by decide) ?_
          refine lv_isub hx hb dX10_wear_53 ?_
          refine lv_topi (fun x_28 ex_28 => ?_)
          have lox_28x_24 := x_24.le_toInt
          have hix_28x_24 := x_24.toInt_lt
          have tx_28 : x_28.toInt = x_24.toInt - 1 := i_sub ex_28 rfl (by decide : (1 : Int32).toInt = 1) (by omega) (by omega)
          have tx_28 : x_28.toInt = bw (x_24.toInt - 1) := bw_sub ex_28 rfl (by decide : (1 : Int32).toInt = 1)
          refine ti_iast (ci := 10) (k := 47) (n := 184) C hw ob_60 (by decide) (fun _ _ => rfl) (vp_in_iff.mpr (by omega)) dX10_wear_54 (fun H locs hw => ?_)
          obtain ⟨M_29, hM_29⟩ : ∃ z : ti_M, z = uY M_4 60 47 (upd (tY M_4 60 47) (x_23 : Int32).toNatClampNeg x_28) := ⟨_, rfl⟩
          have hw := hw.to hM_29.symm
          have iM_29 : mI Tm M_29 := mI_up (i := x_23.toNatClampNeg) iM_4 hM_29 trivial
          have hs_30 : qR (tx 4).toNat 0 (pp_su g_10 (240 + x_20.toInt.toNat) x_28.toInt) M_29 := qR_47 (m := x_20.toInt.toNat) (z := x_23) hs_11 (by omega) rfl hM_29 (by omega) (by omega)
          obtain ⟨g_31, eg_31⟩ : ∃ z : Nat → Int, z = pp_su g_10 (240 + x_20.toInt.toNat) x_28.toInt := ⟨_, rfl⟩
          rw [← eg_31] at hs_30
          refine lv_goto (tgt := 98) hx hb dX10_wear_55 (by decide) ?_
          obtain ⟨x_54, ex_54⟩ : ∃ z : Int32, z = x_1 + 1 := ⟨_, rfl⟩
          have tx_54 : x_54.toInt = x_1.toInt + 1 := i_add ex_54 rfl (by decide) (by omega) (by omega)
          refine lv_iinc (v := x_54) (lv' := [(3, .int x_54), (5, .int x_23), (4, .int x_20), (0, .ref (A 60 0)), (1, .int 0), (2, .int t)]) hx hb dX10_wear_98 hl (k := 2) rfl (by rw [ex_54]; rfl) (by decide) rfl (fun ls hl => ?_)
          refine lv_goto (tgt := 2) hx hb dX10_wear_101 (by decide) ?_
          exact ih_15 x_54 M_29 g_31 _ _ _ (by omega) (by first | omega | decide) (by first | omega | decide) iM_29 (qw.trans (qw_Y hM_29 (by decide)) f_5) (((tY_nE hM_29 (nk (by decide))).trans f_6)) (eR.trans (eR_Y hM_29 (bk_m (z := x_23) (by omega) (by decide))) f_7) (fI.trans (fI_Y hM_29) f_8) (((tY_nE hM_29 (nk (by decide))).trans f_9)) hs_30 (by rw [← j_12, wf_go (tx := tx) (s := g_10) (p := x_1.toInt.toNat) (f := (g_10 3).toNat - x_1.toInt.toNat) (f' := (g_10 3).toNat - x_54.toInt.toNat) (by omega), show bq_w1 tx g_10 x_1.toInt.toNat = g_31 by (unfold bq_w1; rw [L_21, L_27, if_pos (by omega), show x_24.toInt - 1 = x_28.toInt by omega, ← eg_31]), show x_54.toInt.toNat = x_1.toInt.toNat + 1 by omega, show (g_31 3).toNat = (g_10 3).toNat by rw [eg_31, su_n (by omega)]]) (fun j hj => by rw [eg_31, su_n (by omega)]; exact j_13 j hj) (((fun j hj => by rw [eg_31, su_n (by omega)]; exact j_13 j hj) : ∀ j : Nat, j < 160 → g_31 j = rg j) 3 (by decide)) hw (lv_sub hl [0, 3, 4, 5] rfl)
  exact hl_2_14 ((8 - 0 : Int).toNat + 1) 0 M rg _ _ _ (Nat.lt_succ_self _) (by have lt0 : (0 : Int32).toInt = 0 := (by decide); first | omega | decide) (by have lt0 : (0 : Int32).toInt = 0 := (by decide); first | omega | decide) hI qw.refl rfl eR.refl fI.refl rfl hr (by show bq_wf tx ((rg 3).toNat - 0) 0 rg = _; rfl) (fun _ _ => rfl) rfl hw (lv_sub hl [0, 1, 2, 3] rfl)
set_option maxHeartbeats 4000000 in
set_option maxRecDepth 100000 in
theorem z_X10_wear_1 (l : Launch) (D : va_G) (A : Nat → Nat → Nat) (cy : Nat → ClassId) (hJ : ti_inj ti_LM A) (M : ti_M) (hI : mI Tm M) (hL : mL M) (t : Int32) (tx rg : Nat → Int) (htr : tR tx M) (ht4 : 0 ≤ tx 4 ∧ tx 4 ≤ 8) (hr : qR (tx 4).toNat 1 rg M) (hwf : wF tx rg) (htw : tI M 60 53 = -1) (htm : t.toInt = rg 2) : ti_Kv l yX10_wear cX10_wear 6 4 ti_LM D A cy M [.ref (A 60 0), .int 1, .int t] (fun M2 => eR 1 M2 M ∧ tY M2 60 48 = tY M 60 48 ∧ qR (tx 4).toNat 1 (bq_wr tx rg) M2 ∧ mI Tm M2 ∧ qw M2 M ∧ tY M2 60 34 = tY M 60 34) := by
  refine ti_eV yp_X10_wear hJ ti_LM_nd (Nat.le_of_ble_eq_true rfl) ?_
  intro p e s m args below meth c Q H0 C hQ hw ls hl
  have hx := C.1
  have hb := C.2.1
  have hl : lv_has ls 6 [(0, .ref (A 60 0)), (1, .int 1), (2, .int t)] := hl
  refine lv_iconst (v := 0) hx hb dX10_wear_0 (by decide) ?_
  refine lv_istore_n (lv' := [(3, .int 0), (0, .ref (A 60 0)), (1, .int 1), (2, .int t)]) hx hb dX10_wear_1 rfl hl (by decide) rfl (fun ls hl => ?_)
  have hl_2_14 : ∀ (n_15 : Nat) (x_1 : Int32) (M_4 : ti_M) (g_10 : Nat → Int) (H : Heap) (locs : List Loc) (ls : Array Slot), (8 - x_1.toInt : Int).toNat < n_15 → (0 ≤ x_1.toInt) → (x_1.toInt ≤ 8) → (mI Tm M_4) → (qw M_4 M) → (tY M_4 60 34 = tY M 60 34) → (eR 1 M_4 M) → (fI M_4 M) → (tY M_4 60 48 = tY M 60 48) → (qR (tx 4).toNat 1 g_10 M_4) → (bq_wf tx ((g_10 3).toNat - (x_1.toInt).toNat) (x_1.toInt).toNat g_10 = bq_wf tx (rg 3).toNat 0 rg) → (∀ j : Nat, j < 160 → g_10 j = rg j) → (g_10 3 = rg 3) → ti_H ti_LM D A cy H0 M_4 H locs → lv_has ls 6 [(3, .int x_1), (0, .ref (A 60 0)), (1, .int 1), (2, .int t)] → W p l e (ti_rm 4) s m args below meth c H locs 0 0 Q (F0 m 2 ls []) := by
    intro n_15
    induction n_15 with
    | zero => intro x_1 M_4 g_10 H locs ls hf_15; exact absurd hf_15 (Nat.not_lt_zero _)
    | succ n_15 ih_15 =>
      intro x_1 M_4 g_10 H locs ls hf_15 b_2 b_3 iM_4 f_5 f_6 f_7 f_8 f_9 hs_11 j_12 j_13 j_14 hw hl
      refine lv_iload_n hx hb dX10_wear_2 rfl (lv_at hl 0 rfl) ?_
      refine lv_aload_n hx hb dX10_wear_3 rfl (lv_at hl 1 rfl) ?_
      refine ti_get (ci := 10) (k := 38) (N := 67) (T := TX10) (v := .ref (A 60 39)) C hw iw_10 rfl ob_60 (by decide) (by decide) fl_X10_81 rfl rfl dX10_wear_4 ?_
      refine lv_iload_n hx hb dX10_wear_7 rfl (lv_at hl 2 rfl) ?_
      refine ti_iald (ci := 10) (k := 38) (n := 23) C hw ob_60 (by decide) (fun _ _ => rfl) (by unfold vp_in; decide) dX10_wear_8 ?_
      refine lv_topi (fun x_16 ex_16 => ?_)
      have yx_16 : tY M_4 60 38 1 = x_16 := ((congrArg _ (by decide)).symm.trans ex_16.symm)
      have bx_16 : 0 ≤ x_16.toInt ∧ x_16.toInt ≤ 8 := mI_ry (k := 38) (i := 1) iM_4 yx_16.symm
      have zx_16 : (tY M_4 60 38 1).toInt = x_16.toInt := by rw [yx_16]
      have wx_16 : tY M 60 38 1 = x_16 := ((cg f_5.2.2.1 1)).symm.trans yx_16
      have zwx_16 : (tY M 60 38 1).toInt = x_16.toInt := by rw [wx_16]
      have L_17 : g_10 3 = x_16.toInt := (hs_11.1.2.1).trans (congrArg Int32.toInt ((cg f_5.2.2.1 1).trans wx_16))
      refine sb_icmp_ge (tgt := 104) hx hb rfl rfl dX10_wear_9 (by decide) (fun c_9_17 => ?_) (fun c_9_17 => ?_)
      · exact hQ _ _ _ _ _ hw (⟨f_7, ((f_9)), (by unfold bq_wr; rw [← j_12, wf_end (by omega)]; exact hs_11), iM_4, f_5, ((f_6))⟩) dX10_wear_104
      · refine lv_aload_n hx hb dX10_wear_12 rfl (lv_at hl 1 rfl) ?_
        refine ti_get (ci := 10) (k := 39) (N := 67) (T := TX10) (v := .ref (A 60 40)) C hw iw_10 rfl ob_60 (by decide) (by decide) fl_X10_84 rfl rfl dX10_wear_13 ?_
        refine lv_bipush (v := 8) hx hb dX10_wear_16 (by decide) ?_
        refine lv_iload_n hx hb dX10_wear_18 rfl (lv_at hl 2 rfl) ?_
        refine lv_imul hx hb dX10_wear_19 ?_
        refine ti_top (y := 8) (by decide) ?_
        refine lv_iload_n hx hb dX10_wear_20 rfl (lv_at hl 0 rfl) ?_
        refine lv_iadd hx hb dX10_wear_21 ?_
        refine lv_topi (fun x_19 ex_19 => ?_)
        have tx_19 : x_19.toInt = 8 + x_1.toInt := i_add ex_19 (by decide : (8 : Int32).toInt = 8) rfl (by omega) (by omega)
        refine ti_iald (ci := 10) (k := 39) (n := 184) C hw ob_60 (by decide) (fun _ _ => rfl) (vp_in_iff.mpr (by omega)) dX10_wear_22 ?_
        refine lv_topi (fun x_20 ex_20 => ?_)
        have yx_20 : tY M_4 60 39 x_19.toNatClampNeg = x_20 := (ex_20.symm)
        have bx_20 : 0 ≤ x_20.toInt ∧ x_20.toInt ≤ 7 := mI_ry (k := 39) (i := x_19.toNatClampNeg) iM_4 yx_20.symm
        have wx_20 : tY M 60 39 x_19.toNatClampNeg = x_20 := ((cg f_5.2.2.2.1 x_19.toNatClampNeg)).symm.trans yx_20
        have L_21 : g_10 (96 + x_1.toInt.toNat) = x_20.toInt := (hs_11.2.1 (x_1.toInt.toNat) (by omega) (by omega)).trans (rd_k (n := 8 * 1 + x_1.toInt.toNat) (by omega) ((cg f_5.2.2.2.1 x_19.toNatClampNeg).trans wx_20))
        have A_22 : 0 ≤ rg (96 + x_1.toInt.toNat) ∧ rg (96 + x_1.toInt.toNat) < tx 4 ∧ rg (128 + (rg (96 + x_1.toInt.toNat)).toNat) = 1 := hwf.2.2.1 x_1.toInt.toNat (by omega)
        rw [← j_13 _ (by omega : 96 + x_1.toInt.toNat < 160), L_21] at A_22
        have stA_22 : g_10 (128 + x_20.toInt.toNat) = 1 := by rw [j_13 _ (by omega)]; exact A_22.2.2
        have w2A_22 : g_10 2 = rg 2 := j_13 2 (by decide)
        refine lv_istore (lv' := [(4, .int x_20), (3, .int x_1), (0, .ref (A 60 0)), (1, .int 1), (2, .int t)]) hx hb dX10_wear_23 hl (by decide) rfl (fun ls hl => ?_)
        refine lv_bipush (v := 8) hx hb dX10_wear_25 (by decide) ?_
        refine lv_iload_n hx hb dX10_wear_27 rfl (lv_at hl 3 rfl) ?_
        refine lv_imul hx hb dX10_wear_28 ?_
        refine ti_top (y := 8) (by decide) ?_
        refine lv_iload hx hb dX10_wear_29 (lv_at hl 0 rfl) ?_
        refine lv_iadd hx hb dX10_wear_31 ?_
        refine lv_topi (fun x_23 ex_23 => ?_)
        have tx_23 : x_23.toInt = 8 + x_20.toInt := i_add ex_23 (by decide : (8 : Int32).toInt = 8) rfl (by omega) (by omega)
        refine lv_istore (lv' := [(5, .int x_23), (4, .int x_20), (3, .int x_1), (0, .ref (A 60 0)), (1, .int 1), (2, .int t)]) hx hb dX10_wear_32 hl (by decide) rfl (fun ls hl => ?_)
        refine lv_aload_n hx hb dX10_wear_34 rfl (lv_at hl 3 rfl) ?_
        refine ti_get (ci := 10) (k := 47) (N := 67) (T := TX10) (v := .ref (A 60 48)) C hw iw_10 rfl ob_60 (by decide) (by decide) fl_X10_108 rfl rfl dX10_wear_35 ?_
        refine lv_iload hx hb dX10_wear_38 (lv_at hl 0 rfl) ?_
        refine ti_iald (ci := 10) (k := 47) (n := 184) C hw ob_60 (by decide) (fun _ _ => rfl) (vp_in_iff.mpr (by omega)) dX10_wear_40 ?_
        refine lv_topi (fun x_24 ex_24 => ?_)
        have yx_24 : tY M_4 60 47 x_23.toNatClampNeg = x_24 := (ex_24.symm)
        have L_25 : g_10 (240 + x_20.toInt.toNat) = x_24.toInt := ((hs_11.2.2.2.1 (x_20.toInt.toNat) (by omega)).2.2.2.2.2).trans (rd_k (n := 8 * 1 + x_20.toInt.toNat) (by omega) (yx_24))
        refine sb_if_le (tgt := 58) hx hb rfl dX10_wear_41 (by decide) (fun c_41_25 => ?_) (fun c_41_25 => ?_)
        · refine lv_iload_n hx hb dX10_wear_58 rfl (lv_at hl 2 rfl) ?_
          refine sb_if_le (tgt := 98) hx hb rfl dX10_wear_59 (by decide) (fun c_59_31 => ?_) (fun c_59_31 => ?_)
          · obtain ⟨x_55, ex_55⟩ : ∃ z : Int32, z = x_1 + 1 := ⟨_, rfl⟩
            have tx_55 : x_55.toInt = x_1.toInt + 1 := i_add ex_55 rfl (by decide) (by omega) (by omega)
            refine lv_iinc (v := x_55) (lv' := [(3, .int x_55), (5, .int x_23), (4, .int x_20), (0, .ref (A 60 0)), (1, .int 1), (2, .int t)]) hx hb dX10_wear_98 hl (k := 2) rfl (by rw [ex_55]; rfl) (by decide) rfl (fun ls hl => ?_)
            refine lv_goto (tgt := 2) hx hb dX10_wear_101 (by decide) ?_
            exact ih_15 x_55 M_4 g_10 _ _ _ (by omega) (by first | omega | decide) (by first | omega | decide) iM_4 f_5 ((f_6)) f_7 f_8 ((f_9)) hs_11 (by rw [← j_12, wf_go (tx := tx) (s := g_10) (p := x_1.toInt.toNat) (f := (g_10 3).toNat - x_1.toInt.toNat) (f' := (g_10 3).toNat - x_55.toInt.toNat) (by omega), show bq_w1 tx g_10 x_1.toInt.toNat = g_10 by (unfold bq_w1; rw [L_21, L_25, if_neg (by omega), if_neg (by omega)]), show x_55.toInt.toNat = x_1.toInt.toNat + 1 by omega]) j_13 ((j_13 : ∀ j : Nat, j < 160 → g_10 j = rg j) 3 (by decide)) hw (lv_sub hl [0, 3, 4, 5] rfl)
          · refine lv_aload_n hx hb dX10_wear_62 rfl (lv_at hl 3 rfl) ?_
            refine ti_get (ci := 10) (k := 53) (N := 67) (T := TX10) C hw iw_10 rfl ob_60 (by decide) (by decide) fl_X10_120 rfl rfl dX10_wear_63 ?_
            refine ti_top (y := (-1)) ((f_8 53 (by decide)).trans htw) ?_
            refine lv_iconst (v := 1) hx hb dX10_wear_66 (by decide) ?_
            refine sb_icmp_eq (tgt := 98) hx hb (by decide : ((-1) : Int32).toInt = (-1)) (by decide : (1 : Int32).toInt = 1) dX10_wear_67 (by decide) (fun h => absurd h (by decide)) (fun c_67_32 => ?_)
            refine lv_aload_n hx hb dX10_wear_70 rfl (lv_at hl 3 rfl) ?_
            refine lv_iload_n hx hb dX10_wear_71 rfl (lv_at hl 4 rfl) ?_
            refine lv_iload hx hb dX10_wear_72 (lv_at hl 1 rfl) ?_
            refine lv_iload_n hx hb dX10_wear_74 rfl (lv_at hl 2 rfl) ?_
            refine lv_iload_n hx hb dX10_wear_75 rfl (lv_at hl 5 rfl) ?_
            refine ti_callVv (ci := 10) (av := [.int 1, .int x_20, .int x_1, .int t]) C hw (z_X10_calls_1 l D A cy hJ M_4 iM_4 x_20 x_1 t (by first | omega | decide) (by first | omega | decide) tx g_10 (tR_lw htr (eR_lw (q := 1) f_7)) ht4 hs_11 (by omega) stA_22 (by omega)) ⟨ml_X10_363, ym_X10_calls, yv_X10_calls, yi_X10_calls, yc_X10_calls⟩ yd_X10_calls ob_60 (by decide) rfl rfl hl.1 (Nat.le_of_ble_eq_true rfl) ⟨by decide, by decide⟩ ⟨Nat.zero_le _, Nat.zero_le _⟩ dX10_wear_76 (fun M_35 H locs hp_35 hw => ?_)
            obtain ⟨n6_38, fi_39, iM_35, q_36, q_37⟩ := hp_35
            have hs_40 : qR (tx 4).toNat 1 g_10 M_35 := qR_of hs_11 q_37
            refine lv_aload_n hx hb dX10_wear_79 rfl (lv_at hl 3 rfl) ?_
            refine ti_get (ci := 10) (k := 41) (N := 67) (T := TX10) (v := .ref (A 60 42)) C hw iw_10 rfl ob_60 (by decide) (by decide) fl_X10_90 rfl rfl dX10_wear_80 ?_
            refine lv_iload hx hb dX10_wear_83 (lv_at hl 0 rfl) ?_
            refine lv_dup2_11 hx hb dX10_wear_85 rfl rfl ?_
            refine ti_iald (ci := 10) (k := 41) (n := 184) C hw ob_60 (by decide) (fun _ _ => rfl) (vp_in_iff.mpr (by omega)) dX10_wear_86 ?_
            refine lv_topi (fun x_41 ex_41 => ?_)
            have yx_41 : tY M_35 60 41 x_23.toNatClampNeg = x_41 := (ex_41.symm)
            have wx_41 : tY M_4 60 41 x_23.toNatClampNeg = x_41 := ((cg (tY_fr q_37) x_23.toNatClampNeg)).symm.trans yx_41
            have L_42 : g_10 (160 + x_20.toInt.toNat) = x_41.toInt := ((hs_40.2.2.2.1 (x_20.toInt.toNat) (by omega)).2.2.1).trans (rd_k (n := 8 * 1 + x_20.toInt.toNat) (by omega) ((cg (tY_fr q_37) x_23.toNatClampNeg).trans wx_41))
            refine lv_aload_n hx hb dX10_wear_87 rfl (lv_at hl 3 rfl) ?_
            refine lv_iconst (v := 1) hx hb dX10_wear_88 (by decide) ?_
            refine lv_iconst (v := 0) hx hb dX10_wear_89 (by decide) ?_
            refine lv_bipush (v := 9) hx hb dX10_wear_90 (by decide) ?_
            refine lv_iconst (v := 1) hx hb dX10_wear_92 (by decide) ?_
            refine ti_callVi (ci := 10) (av := [.int 1, .int 0, .int 9, .int 1]) C hw (z_X10_within l D A cy hJ M_35 iM_35 (mL_lw (lk.trans (lk_of q_36.1 q_36.2.1) (lk_of f_5.1 f_5.2.1)).1 hL) 1 (by first | omega | decide) (by first | omega | decide) 0 9 1 (bq_fa tx g_10 x_20.toInt x_1.toInt) tx (tR_lw htr (eR_lw (q := 1) (eR.trans (eR_fI fi_39 q_37) f_7))) n6_38 (by first | decide | omega)) ⟨ml_X10_367, ym_X10_within, yv_X10_within, yi_X10_within, yc_X10_within⟩ yd_X10_within ob_60 (by decide) rfl rfl hl.1 (Nat.le_of_ble_eq_true rfl) ⟨by decide, by decide⟩ ⟨Nat.zero_le _, Nat.zero_le _⟩ dX10_wear_93 (fun r_43 M_44 H locs hp_44 hw => ?_)
            obtain ⟨fi_48, pr_43, iM_44, q_46, q_47⟩ := hp_44
            have hs_49 : qR (tx 4).toNat 1 g_10 M_44 := qR_of hs_40 q_47
            try simp only [show (1 : Int32).toInt.toNat = 1 by decide] at pr_43
            try simp only [show (1 : Int32).toInt = 1 by decide] at pr_43
            try simp only [show (0 : Int32).toInt.toNat = 0 by decide] at pr_43
            try simp only [show (0 : Int32).toInt = 0 by decide] at pr_43
            try simp only [show (9 : Int32).toInt.toNat = 9 by decide] at pr_43
            try simp only [show (9 : Int32).toInt = 9 by decide] at pr_43
            try simp only [show (1 : Int32).toInt.toNat = 1 by decide] at pr_43
            try simp only [show (1 : Int32).toInt = 1 by decide] at pr_43
            have bpr_43 : 0 ≤ r_43.toInt ∧ r_43.toInt ≤ 9 := by rw [pr_43]; unfold bq_pt; (repeat' split) <;> omega
            refine lv_isub hx hb dX10_wear_96 ?_
            refine lv_topi (fun x_50 ex_50 => ?_)
            have tx_50 : x_50.toInt = bw (x_41.toInt - r_43.toInt) := bw_sub ex_50 rfl rfl
            refine ti_iast (ci := 10) (k := 41) (n := 184) C hw ob_60 (by decide) (fun _ _ => rfl) (vp_in_iff.mpr (by omega)) dX10_wear_97 (fun H locs hw => ?_)
            obtain ⟨M_51, hM_51⟩ : ∃ z : ti_M, z = uY M_44 60 41 (upd (tY M_44 60 41) (x_23 : Int32).toNatClampNeg x_50) := ⟨_, rfl⟩
            have hw := hw.to hM_51.symm
            have iM_51 : mI Tm M_51 := mI_up (i := x_23.toNatClampNeg) iM_44 hM_51 trivial
            have hs_52 : qR (tx 4).toNat 1 (pp_su g_10 (160 + x_20.toInt.toNat) x_50.toInt) M_51 := qR_41 (m := x_20.toInt.toNat) (z := x_23) hs_49 (by omega) rfl hM_51 (by omega) (by omega)
            obtain ⟨g_53, eg_53⟩ : ∃ z : Nat → Int, z = pp_su g_10 (160 + x_20.toInt.toNat) x_50.toInt := ⟨_, rfl⟩
            rw [← eg_53] at hs_52
            obtain ⟨x_56, ex_56⟩ : ∃ z : Int32, z = x_1 + 1 := ⟨_, rfl⟩
            have tx_56 : x_56.toInt = x_1.toInt + 1 := i_add ex_56 rfl (by decide) (by omega) (by omega)
            refine lv_iinc (v := x_56) (lv' := [(3, .int x_56), (5, .int x_23), (4, .int x_20), (0, .ref (A 60 0)), (1, .int 1), (2, .int t)]) hx hb dX10_wear_98 hl (k := 2) rfl (by rw [ex_56]; rfl) (by decide) rfl (fun ls hl => ?_)
            refine lv_goto (tgt := 2) hx hb dX10_wear_101 (by decide) ?_
            exact ih_15 x_56 M_51 g_53 _ _ _ (by omega) (by first | omega | decide) (by first | omega | decide) iM_51 (qw.trans (qw_Y hM_51 (by decide)) (qw.trans q_46 (qw.trans q_36 f_5))) (((tY_nE hM_51 (nk (by decide))).trans ((tY_fr q_47).trans ((tY_fr q_37).trans f_6)))) (eR.trans (eR_Y hM_51 (bk_m (z := x_23) (by omega) (by decide))) (eR.trans (eR_fI fi_48 q_47) (eR.trans (eR_fI fi_39 q_37) f_7))) (fI.trans (fI_Y hM_51) (fI.trans fi_48 (fI.trans fi_39 f_8))) (((tY_nE hM_51 (nk (by decide))).trans ((tY_fr q_47).trans ((tY_fr q_37).trans f_9)))) hs_52 (by rw [← j_12, wf_go (tx := tx) (s := g_10) (p := x_1.toInt.toNat) (f := (g_10 3).toNat - x_1.toInt.toNat) (f' := (g_10 3).toNat - x_56.toInt.toNat) (by omega), show bq_w1 tx g_10 x_1.toInt.toNat = g_53 by (unfold bq_w1; rw [L_21, L_25, if_neg (by omega), if_pos (by omega), show g_10 (160 + x_20.toInt.toNat) = x_41.toInt by omega, show ((x_1.toInt.toNat : Nat) : Int) = x_1.toInt by omega, show bq_lv tx g_10 1 (x_1.toInt) (x_1.toInt) = _ from lv_wv (x := x_20.toInt) (by unfold bq_ma; rw [if_pos (by omega)]; exact L_21) (by omega), ← pr_43, ← tx_50, ← eg_53]), show x_56.toInt.toNat = x_1.toInt.toNat + 1 by omega, show (g_53 3).toNat = (g_10 3).toNat by rw [eg_53, su_n (by omega)]]) (fun j hj => by rw [eg_53, su_n (by omega)]; exact j_13 j hj) (((fun j hj => by rw [eg_53, su_n (by omega)]; exact j_13 j hj) : ∀ j : Nat, j < 160 → g_53 j = rg j) 3 (by decide)) hw (lv_sub hl [0, 3, 4, 5] rfl)
        · refine lv_aload_n hx hb dX10_wear_44 rfl (lv_at hl 3 rfl) ?_
          refine ti_get (ci := 10) (k := 47) (N := 67) (T := TX10) (v := .ref (A 60 48)) C hw iw_10 rfl ob_60 (by decide) (by decide) fl_X10_108 rfl rfl dX10_wear_45 ?_
          refine lv_iload hx hb dX10_wear_48 (lv_at hl 0 rfl) ?_
          refine lv_dup2_11 hx hb dX10_wear_50 rfl rfl ?_
          refine ti_iald (ci := 10) (k := 47) (n := 184) C hw ob_60 (by decide) (fun _ _ => rfl) (vp_in_iff.mpr (by omega)) dX10_wear_51 ?_
          refine ti_top (y := x_24) ((yx_24)) ?_
          have L_27 : g_10 (240 + x_20.toInt.toNat) = x_24.toInt := ((hs_11.2.2.2.1 (x_20.toInt.toNat) (by omega)).2.2.2.2.2).trans (rd_k (n := 8 * 1 + x_20.toInt.toNat) (by omega) (yx_24))
          refine lv_iconst (v := 1) hx hb dX10_wear_52 (by decide) ?_
          refine lv_isub hx hb dX10_wear_53 ?_
          refine lv_topi (fun x_28 ex_28 => ?_)
          have lox_28x_24 := x_24.le_toInt
          have hix_28x_24 := x_24.toInt_lt
          have tx_28 : x_28.toInt = x_24.toInt - 1 := i_sub ex_28 rfl (by decide : (1 : Int32).toInt = 1) (by omega) (by omega)
          have tx_28 : x_28.toInt = bw (x_24.toInt - 1) := bw_sub ex_28 rfl (by decide : (1 : Int32).toInt = 1)
          refine ti_iast (ci := 10) (k := 47) (n := 184) C hw ob_60 (by decide) (fun _ _ => rfl) (vp_in_iff.mpr (by omega)) dX10_wear_54 (fun H locs hw => ?_)
          obtain ⟨M_29, hM_29⟩ : ∃ z : ti_M, z = uY M_4 60 47 (upd (tY M_4 60 47) (x_23 : Int32).toNatClampNeg x_28) := ⟨_, rfl⟩
          have hw := hw.to hM_29.symm
          have iM_29 : mI Tm M_29 := mI_up (i := x_23.toNatClampNeg) iM_4 hM_29 trivial
          have hs_30 : qR (tx 4).toNat 1 (pp_su g_10 (240 + x_20.toInt.toNat) x_28.toInt) M_29 := qR_47 (m := x_20.toInt.toNat) (z := x_23) hs_11 (by omega) rfl hM_29 (by omega) (by omega)
          obtain ⟨g_31, eg_31⟩ : ∃ z : Nat → Int, z = pp_su g_10 (240 + x_20.toInt.toNat) x_28.toInt := ⟨_, rfl⟩
          rw [← eg_31] at hs_30
          refine lv_goto (tgt := 98) hx hb dX10_wear_55 (by decide) ?_
          obtain ⟨x_54, ex_54⟩ : ∃ z : Int32, z = x_1 + 1 := ⟨_, rfl⟩
          have tx_54 : x_54.toInt = x_1.toInt + 1 := i_add ex_54 rfl (by decide) (by omega) (by omega)
          refine lv_iinc (v := x_54) (lv' := [(3, .int x_54), (5, .int x_23), (4, .int x_20), (0, .ref (A 60 0)), (1, .int 1), (2, .int t)]) hx hb dX10_wear_98 hl (k := 2) rfl (by rw [ex_54]; rfl) (by decide) rfl (fun ls hl => ?_)
          refine lv_goto (tgt := 2) hx hb dX10_wear_101 (by decide) ?_
          exact ih_15 x_54 M_29 g_31 _ _ _ (by omega) (by first | omega | decide) (by first | omega | decide) iM_29 (qw.trans (qw_Y hM_29 (by decide)) f_5) (((tY_nE hM_29 (nk (by decide))).trans f_6)) (eR.trans (eR_Y hM_29 (bk_m (z := x_23) (by omega) (by decide))) f_7) (fI.trans (fI_Y hM_29) f_8) (((tY_nE hM_29 (nk (by decide))).trans f_9)) hs_30 (by rw [← j_12, wf_go (tx := tx) (s := g_10) (p := x_1.toInt.toNat) (f := (g_10 3).toNat - x_1.toInt.toNat) (f' := (g_10 3).toNat - x_54.toInt.toNat) (by omega), show bq_w1 tx g_10 x_1.toInt.toNat = g_31 by (unfold bq_w1; rw [L_21, L_27, if_pos (by omega), show x_24.toInt - 1 = x_28.toInt by omega, ← eg_31]), show x_54.toInt.toNat = x_1.toInt.toNat + 1 by omega, show (g_31 3).toNat = (g_10 3).toNat by rw [eg_31, su_n (by omega)]]) (fun j hj => by rw [eg_31, su_n (by omega)]; exact j_13 j hj) (((fun j hj => by rw [eg_31, su_n (by omega)]; exact j_13 j hj) : ∀ j : Nat, j < 160 → g_31 j = rg j) 3 (by decide)) hw (lv_sub hl [0, 3, 4, 5] rfl)
  exact hl_2_14 ((8 - 0 : Int).toNat + 1) 0 M rg _ _ _ (Nat.lt_succ_self _) (by have lt0 : (0 : Int32).toInt = 0 := (by decide); first | omega | decide) (by have lt0 : (0 : Int32).toInt = 0 := (by decide); first | omega | decide) hI qw.refl rfl eR.refl fI.refl rfl hr (by show bq_wf tx ((rg 3).toNat - 0) 0 rg = _; rfl) (fun _ _ => rfl) rfl hw (lv_sub hl [0, 1, 2, 3] rfl)

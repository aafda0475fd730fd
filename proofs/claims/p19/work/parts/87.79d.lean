section
variable {Tc : gC} {Tm : gM}
variable {Tc : gC} {Tm : gM}
set_option maxHeartbeats 4000000 in
set_option maxRecDepth 100000 in
theorem z_X10_levy_0 (l : Launch) (D : va_G) (A : Nat → Nat → Nat) (cy : Nat → ClassId) (hJ : ti_inj ti_LM A) (M : ti_M) (hI : mI Tm M) (hL : mL M) (t : Int32) (tx rg : Nat → Int) (htr : tR tx M) (ht4 : 0 ≤ tx 4 ∧ tx 4 ≤ 8) (hr : qR (tx 4).toNat 0 rg M) (hwf : wF tx rg) (htw : tI M 60 53 = -1) (htW : tW tx) (htm : t.toInt = rg 2) (h2 : 0 ≤ rg 2) : ti_Kv l yX10_levy cX10_levy 8 4 ti_LM D A cy M [.ref (A 60 0), .int 0, .int t] (fun M2 => eR 0 M2 M ∧ tY M2 60 48 = tY M 60 48 ∧ qR (tx 4).toNat 0 (bq_ly tx rg) M2 ∧ mI Tm M2 ∧ qw M2 M ∧ tY M2 60 34 = tY M 60 34) := by
  refine ti_eV yp_X10_levy hJ ti_LM_nd (Nat.le_of_ble_eq_true rfl) ?_
  intro p e s m args below meth c Q H0 C hQ hw ls hl
  have hx := C.1
  have hb := C.2.1
  have hl : lv_has ls 8 [(0, .ref (A 60 0)), (1, .int 0), (2, .int t)] := hl
  have hp2 := hwf.2.2.2.2.2.2.2 2 (by decide)
  have ht8 := htW.2.2.2.1
  refine lv_aload_n hx hb dX10_levy_0 rfl (lv_at hl 0 rfl) ?_
  refine ti_get (ci := 10) (k := 49) (N := 67) (T := TX10) (v := .ref (A 60 50)) C hw iw_10 rfl ob_60 (by decide) (by decide) fl_X10_114 rfl rfl dX10_levy_1 ?_
  refine lv_iconst (v := 3) hx hb dX10_levy_4 (by decide) ?_
  refine lv_iload_n hx hb dX10_levy_5 rfl (lv_at hl 1 rfl) ?_
  refine lv_imul hx hb dX10_levy_6 ?_
  refine ti_top (y := 0) (by decide) ?_
  refine lv_iconst (v := 2) hx hb dX10_levy_7 (by decide) ?_
  refine lv_iadd hx hb dX10_levy_8 ?_
  refine ti_top (y := 2) (by decide) ?_
  refine ti_iald (ci := 10) (k := 49) (n := 69) C hw ob_60 (by decide) (fun _ _ => rfl) (by unfold vp_in; decide) dX10_levy_9 ?_
  refine lv_topi (fun x_1 ex_1 => ?_)
  have yx_1 : tY M 60 49 2 = x_1 := ((congrArg _ (by decide)).symm.trans ex_1.symm)
  have bx_1 : 0 ≤ x_1.toInt ∧ x_1.toInt ≤ 7 := mI_ry (k := 49) (i := 2) hI yx_1.symm
  have L_2 : rg 114 = x_1.toInt := (hr.2.2.1 (2) (by omega)).trans (congrArg Int32.toInt (yx_1))
  refine lv_istore_n (lv' := [(3, .int x_1), (0, .ref (A 60 0)), (1, .int 0), (2, .int t)]) hx hb dX10_levy_10 rfl hl (by decide) rfl (fun ls hl => ?_)
  refine lv_iload_n hx hb dX10_levy_11 rfl (lv_at hl 3 rfl) ?_
  refine lv_aload_n hx hb dX10_levy_12 rfl (lv_at hl 1 rfl) ?_
  refine ti_get (ci := 10) (k := 3) (N := 67) (T := TX10) (v := .ref (A 60 4)) C hw iw_10 rfl ob_60 (by decide) (by decide) fl_X10_13 rfl rfl dX10_levy_13 ?_
  refine lv_iconst (v := 3) hx hb dX10_levy_16 (by decide) ?_
  refine ti_iald (ci := 10) (k := 3) (n := 22) C hw ob_60 (by decide) (fun _ _ => rfl) (by unfold vp_in; decide) dX10_levy_17 ?_
  refine lv_topi (fun x_3 ex_3 => ?_)
  have yx_3 : tY M 60 3 3 = x_3 := ((congrArg _ (by decide)).symm.trans ex_3.symm)
  have bx_3 : 1 ≤ x_3.toInt ∧ x_3.toInt ≤ 30 := mI_rn (i := 3) hI yx_3.symm (fun _ h => h)
  have zx_3 : (tY M 60 3 3).toInt = x_3.toInt := by rw [yx_3]
  have L_4 : tx 8 = x_3.toInt := (htr.1.2.2.2.1).trans ((congrArg Int32.toInt (cg rfl 3)).symm.trans (congrArg Int32.toInt (yx_3)))
  refine lv_irem hx hb dX10_levy_18 (nz (by omega)) ?_
  refine lv_topi (fun x_5 ex_5 => ?_)
  have rx_5 := i_rem ex_5 rfl rfl (by omega) (by omega)
  have rm : rg 2 % tx 8 = x_5.toInt := by rw [← htm, show tx 8 = x_3.toInt by omega]; exact rx_5.2.2.symm
  refine sb_if_ne (tgt := 39) hx hb rfl dX10_levy_19 (by decide) (fun c_19_5 => ?_) (fun c_19_5 => ?_)
  · exact hQ _ _ _ _ _ hw (⟨eR.refl, rfl, (by unfold bq_ly; rw [if_pos (by first | omega | (unfold bq_ma; rw [if_neg (by omega)]; omega))]; exact hr), hI, qw.refl, rfl⟩) dX10_levy_39
  · refine lv_iload_n hx hb dX10_levy_22 rfl (lv_at hl 0 rfl) ?_
    refine lv_aload_n hx hb dX10_levy_23 rfl (lv_at hl 1 rfl) ?_
    refine ti_get (ci := 10) (k := 38) (N := 67) (T := TX10) (v := .ref (A 60 39)) C hw iw_10 rfl ob_60 (by decide) (by decide) fl_X10_81 rfl rfl dX10_levy_24 ?_
    refine lv_iload_n hx hb dX10_levy_27 rfl (lv_at hl 2 rfl) ?_
    refine ti_iald (ci := 10) (k := 38) (n := 23) C hw ob_60 (by decide) (fun _ _ => rfl) (by unfold vp_in; decide) dX10_levy_28 ?_
    refine lv_topi (fun x_7 ex_7 => ?_)
    have yx_7 : tY M 60 38 0 = x_7 := ((congrArg _ (by decide)).symm.trans ex_7.symm)
    have bx_7 : 0 ≤ x_7.toInt ∧ x_7.toInt ≤ 8 := mI_ry (k := 38) (i := 0) hI yx_7.symm
    have zx_7 : (tY M 60 38 0).toInt = x_7.toInt := by rw [yx_7]
    have L_8 : rg 3 = x_7.toInt := (hr.1.2.1).trans (congrArg Int32.toInt (yx_7))
    refine sb_icmp_ge (tgt := 39) hx hb rfl rfl dX10_levy_29 (by decide) (fun c_29_8 => ?_) (fun c_29_8 => ?_)
    · exact hQ _ _ _ _ _ hw (⟨eR.refl, rfl, (by unfold bq_ly; rw [if_pos (by first | omega | (unfold bq_ma; rw [if_neg (by omega)]; omega))]; exact hr), hI, qw.refl, rfl⟩) dX10_levy_39
    · refine lv_aload_n hx hb dX10_levy_32 rfl (lv_at hl 1 rfl) ?_
      refine ti_get (ci := 10) (k := 53) (N := 67) (T := TX10) C hw iw_10 rfl ob_60 (by decide) (by decide) fl_X10_120 rfl rfl dX10_levy_33 ?_
      refine ti_top (y := (-1)) (htw) ?_
      refine sb_if_ne (tgt := 40) hx hb (by decide : ((-1) : Int32).toInt = (-1)) dX10_levy_36 (by decide) (fun c_36_9 => ?_) (fun h => absurd h (by decide))
      refine lv_bipush (v := 8) hx hb dX10_levy_40 (by decide) ?_
      refine lv_iload_n hx hb dX10_levy_42 rfl (lv_at hl 2 rfl) ?_
      refine lv_imul hx hb dX10_levy_43 ?_
      refine ti_top (y := 0) (by decide) ?_
      refine lv_aload_n hx hb dX10_levy_44 rfl (lv_at hl 1 rfl) ?_
      refine ti_get (ci := 10) (k := 39) (N := 67) (T := TX10) (v := .ref (A 60 40)) C hw iw_10 rfl ob_60 (by decide) (by decide) fl_X10_84 rfl rfl dX10_levy_45 ?_
      refine lv_bipush (v := 8) hx hb dX10_levy_48 (by decide) ?_
      refine lv_iload_n hx hb dX10_levy_50 rfl (lv_at hl 2 rfl) ?_
      refine lv_imul hx hb dX10_levy_51 ?_
      refine ti_top (y := 0) (by decide) ?_
      refine lv_iload_n hx hb dX10_levy_52 rfl (lv_at hl 0 rfl) ?_
      refine lv_iadd hx hb dX10_levy_53 ?_
      refine lv_topi (fun x_11 ex_11 => ?_)
      have tx_11 : x_11.toInt = 0 + x_1.toInt := i_add ex_11 (by decide : (0 : Int32).toInt = 0) rfl (by omega) (by omega)
      refine ti_iald (ci := 10) (k := 39) (n := 184) C hw ob_60 (by decide) (fun _ _ => rfl) (vp_in_iff.mpr (by omega)) dX10_levy_54 ?_
      refine lv_topi (fun x_12 ex_12 => ?_)
      have yx_12 : tY M 60 39 x_11.toNatClampNeg = x_12 := (ex_12.symm)
      have bx_12 : 0 ≤ x_12.toInt ∧ x_12.toInt ≤ 7 := mI_ry (k := 39) (i := x_11.toNatClampNeg) hI yx_12.symm
      have L_13 : rg (96 + x_1.toInt.toNat) = x_12.toInt := (hr.2.1 (x_1.toInt.toNat) (by omega) (by omega)).trans (rd_k (n := 8 * 0 + x_1.toInt.toNat) (by omega) (yx_12))
      have LT : rg (96 + x_1.toInt.toNat) = x_12.toInt := L_13
      have AT : 0 ≤ rg (96 + x_1.toInt.toNat) ∧ rg (96 + x_1.toInt.toNat) < tx 4 ∧ _ := hwf.2.2.1 x_1.toInt.toNat (by omega)
      rw [LT] at AT
      refine lv_iadd hx hb dX10_levy_55 ?_
      refine lv_topi (fun x_14 ex_14 => ?_)
      have tx_14 : x_14.toInt = 0 + x_12.toInt := i_add ex_14 (by decide : (0 : Int32).toInt = 0) rfl (by omega) (by omega)
      refine lv_istore (lv' := [(4, .int x_14), (3, .int x_1), (0, .ref (A 60 0)), (1, .int 0), (2, .int t)]) hx hb dX10_levy_56 hl (by decide) rfl (fun ls hl => ?_)
      refine lv_iconst (v := 0) hx hb dX10_levy_58 (by decide) ?_
      refine lv_istore (lv' := [(5, .int 0), (4, .int x_14), (3, .int x_1), (0, .ref (A 60 0)), (1, .int 0), (2, .int t)]) hx hb dX10_levy_59 hl (by decide) rfl (fun ls hl => ?_)
      have hl_61_28 : ∀ (n_29 : Nat) (x_15 : Int32) (M_18 : ti_M) (g_24 : Nat → Int) (H : Heap) (locs : List Loc) (ls : Array Slot), (8 - x_15.toInt : Int).toNat < n_29 → (0 ≤ x_15.toInt) → (x_15.toInt ≤ 8) → (mI Tm M_18) → (qw M_18 M) → (tY M_18 60 34 = tY M 60 34) → (eR 0 M_18 M) → (fI M_18 M) → (tY M_18 60 48 = tY M 60 48) → (qR (tx 4).toNat 0 g_24 M_18) → (bq_lf tx (x_12.toInt) ((g_24 3).toNat - (x_15.toInt).toNat) (x_15.toInt).toNat g_24 = bq_lf tx (x_12.toInt) (rg 3).toNat 0 rg) → (∀ j : Nat, j < 192 → g_24 j = rg j) → (g_24 3 = rg 3) → ti_H ti_LM D A cy H0 M_18 H locs → lv_has ls 8 [(5, .int x_15), (4, .int x_14), (3, .int x_1), (0, .ref (A 60 0)), (1, .int 0), (2, .int t)] → W p l e (ti_rm 4) s m args below meth c H locs 0 0 Q (F0 m 61 ls []) := by
        intro n_29
        induction n_29 with
        | zero => intro x_15 M_18 g_24 H locs ls hf_29; exact absurd hf_29 (Nat.not_lt_zero _)
        | succ n_29 ih_29 =>
          intro x_15 M_18 g_24 H locs ls hf_29 b_16 b_17 iM_18 f_19 f_20 f_21 f_22 f_23 hs_25 j_26 j_27 j_28 hw hl
          refine lv_iload hx hb dX10_levy_61 (lv_at hl 0 rfl) ?_
          refine lv_aload_n hx hb dX10_levy_63 rfl (lv_at hl 3 rfl) ?_
          refine ti_get (ci := 10) (k := 38) (N := 67) (T := TX10) (v := .ref (A 60 39)) C hw iw_10 rfl ob_60 (by decide) (by decide) fl_X10_81 rfl rfl dX10_levy_64 ?_
          refine lv_iload_n hx hb dX10_levy_67 rfl (lv_at hl 4 rfl) ?_
          refine ti_iald (ci := 10) (k := 38) (n := 23) C hw ob_60 (by decide) (fun _ _ => rfl) (by unfold vp_in; decide) dX10_levy_68 ?_
          refine ti_top (y := x_7) ((congrArg _ (by decide)).trans ((cg f_19.2.2.1 0).trans yx_7)) ?_
          have L_30 : g_24 3 = x_7.toInt := (hs_25.1.2.1).trans (congrArg Int32.toInt ((cg f_19.2.2.1 0).trans yx_7))
          refine sb_icmp_ge (tgt := 166) hx hb rfl rfl dX10_levy_69 (by decide) (fun c_69_30 => ?_) (fun c_69_30 => ?_)
          · exact hQ _ _ _ _ _ hw (⟨f_21, ((f_23)), (by unfold bq_ly; rw [show bq_ma rg (rg 114) = x_12.toInt by (unfold bq_ma; rw [if_pos (by omega), show rg 114 = x_1.toInt by omega]; exact LT), if_neg (by omega), ← j_26, lf_end (by omega)]; exact hs_25), iM_18, f_19, ((f_20))⟩) dX10_levy_166
          · refine lv_iload hx hb dX10_levy_72 (lv_at hl 0 rfl) ?_
            refine lv_iload_n hx hb dX10_levy_74 rfl (lv_at hl 2 rfl) ?_
            refine sb_icmp_ne (tgt := 81) hx hb rfl rfl dX10_levy_75 (by decide) (fun c_75_31 => ?_) (fun c_75_31 => ?_)
            · refine lv_aload_n hx hb dX10_levy_81 rfl (lv_at hl 3 rfl) ?_
              refine ti_get (ci := 10) (k := 39) (N := 67) (T := TX10) (v := .ref (A 60 40)) C hw iw_10 rfl ob_60 (by decide) (by decide) fl_X10_84 rfl rfl dX10_levy_82 ?_
              refine lv_bipush (v := 8) hx hb dX10_levy_85 (by decide) ?_
              refine lv_iload_n hx hb dX10_levy_87 rfl (lv_at hl 4 rfl) ?_
              refine lv_imul hx hb dX10_levy_88 ?_
              refine ti_top (y := 0) (by decide) ?_
              refine lv_iload hx hb dX10_levy_89 (lv_at hl 0 rfl) ?_
              refine lv_iadd hx hb dX10_levy_91 ?_
              refine lv_topi (fun x_33 ex_33 => ?_)
              have tx_33 : x_33.toInt = 0 + x_15.toInt := i_add ex_33 (by decide : (0 : Int32).toInt = 0) rfl (by omega) (by omega)
              refine ti_iald (ci := 10) (k := 39) (n := 184) C hw ob_60 (by decide) (fun _ _ => rfl) (vp_in_iff.mpr (by omega)) dX10_levy_92 ?_
              refine lv_topi (fun x_34 ex_34 => ?_)
              have yx_34 : tY M_18 60 39 x_33.toNatClampNeg = x_34 := (ex_34.symm)
              have bx_34 : 0 ≤ x_34.toInt ∧ x_34.toInt ≤ 7 := mI_ry (k := 39) (i := x_33.toNatClampNeg) iM_18 yx_34.symm
              have wx_34 : tY M 60 39 x_33.toNatClampNeg = x_34 := ((cg f_19.2.2.2.1 x_33.toNatClampNeg)).symm.trans yx_34
              have L_35 : g_24 (96 + x_15.toInt.toNat) = x_34.toInt := (hs_25.2.1 (x_15.toInt.toNat) (by omega) (by omega)).trans (rd_k (n := 8 * 0 + x_15.toInt.toNat) (by omega) ((cg f_19.2.2.2.1 x_33.toNatClampNeg).trans wx_34))
              have A_36 : 0 ≤ rg (96 + x_15.toInt.toNat) ∧ rg (96 + x_15.toInt.toNat) < tx 4 ∧ rg (128 + (rg (96 + x_15.toInt.toNat)).toNat) = 1 := hwf.2.2.1 x_15.toInt.toNat (by omega)
              rw [← j_27 _ (by omega : 96 + x_15.toInt.toNat < 192), L_35] at A_36
              have stA_36 : g_24 (128 + x_34.toInt.toNat) = 1 := by rw [j_27 _ (by omega)]; exact A_36.2.2
              have w2A_36 : g_24 2 = rg 2 := j_27 2 (by decide)
              have BT : x_34.toInt ≠ x_12.toInt := fun q => by have := hwf.2.2.2.1 x_15.toInt.toNat x_1.toInt.toNat (by omega) (by omega) (by rw [LT, ← j_27 _ (by omega : 96 + x_15.toInt.toNat < 192), L_35]; exact q); omega
              refine lv_istore (lv' := [(6, .int x_34), (5, .int x_15), (4, .int x_14), (3, .int x_1), (0, .ref (A 60 0)), (1, .int 0), (2, .int t)]) hx hb dX10_levy_93 hl (by decide) rfl (fun ls hl => ?_)
              refine lv_aload_n hx hb dX10_levy_95 rfl (lv_at hl 4 rfl) ?_
              refine lv_iload_n hx hb dX10_levy_96 rfl (lv_at hl 5 rfl) ?_
              refine lv_iload hx hb dX10_levy_97 (lv_at hl 0 rfl) ?_
              refine lv_iload hx hb dX10_levy_99 (lv_at hl 1 rfl) ?_
              refine lv_iload_n hx hb dX10_levy_101 rfl (lv_at hl 6 rfl) ?_
              refine ti_callVv (ci := 10) (av := [.int 0, .int x_34, .int x_15, .int t]) C hw (z_X10_calls_0 l D A cy hJ M_18 iM_18 x_34 x_15 t (by first | omega | decide) (by first | omega | decide) tx g_24 (tR_lw htr (eR_lw (q := 0) f_21)) ht4 hs_25 (by omega) stA_36 (by omega)) ⟨ml_X10_363, ym_X10_calls, yv_X10_calls, yi_X10_calls, yc_X10_calls⟩ yd_X10_calls ob_60 (by decide) rfl rfl hl.1 (Nat.le_of_ble_eq_true rfl) ⟨by decide, by decide⟩ ⟨Nat.zero_le _, Nat.zero_le _⟩ dX10_levy_102 (fun M_38 H locs hp_38 hw => ?_)
              obtain ⟨n6_41, fi_42, iM_38, q_39, q_40⟩ := hp_38
              have hs_43 : qR (tx 4).toNat 0 g_24 M_38 := qR_of hs_25 q_40
              refine lv_aload_n hx hb dX10_levy_105 rfl (lv_at hl 4 rfl) ?_
              refine ti_get (ci := 10) (k := 43) (N := 67) (T := TX10) (v := .ref (A 60 44)) C hw iw_10 rfl ob_60 (by decide) (by decide) fl_X10_96 rfl rfl dX10_levy_106 ?_
              refine lv_bipush (v := 8) hx hb dX10_levy_109 (by decide) ?_
              refine lv_iload_n hx hb dX10_levy_111 rfl (lv_at hl 5 rfl) ?_
              refine lv_imul hx hb dX10_levy_112 ?_
              refine ti_top (y := 0) (by decide) ?_
              refine lv_iload hx hb dX10_levy_113 (lv_at hl 0 rfl) ?_
              refine lv_iadd hx hb dX10_levy_115 ?_
              refine lv_topi (fun x_44 ex_44 => ?_)
              have tx_44 : x_44.toInt = 0 + x_34.toInt := i_add ex_44 (by decide : (0 : Int32).toInt = 0) rfl (by omega) (by omega)
              refine ti_iald (ci := 10) (k := 43) (n := 184) C hw ob_60 (by decide) (fun _ _ => rfl) (vp_in_iff.mpr (by omega)) dX10_levy_116 ?_
              refine lv_topi (fun x_45 ex_45 => ?_)
              have yx_45 : tY M_38 60 43 x_44.toNatClampNeg = x_45 := (ex_45.symm)
              have wx_45 : tY M_18 60 43 x_44.toNatClampNeg = x_45 := ((cg (tY_fr q_40) x_44.toNatClampNeg)).symm.trans yx_45
              have L_46 : g_24 (192 + x_34.toInt.toNat) = x_45.toInt := ((hs_43.2.2.2.1 (x_34.toInt.toNat) (by omega)).2.2.2.2.1).trans (rd_k (n := 8 * 0 + x_34.toInt.toNat) (by omega) ((cg (tY_fr q_40) x_44.toNatClampNeg).trans wx_45))
              refine lv_aload_n hx hb dX10_levy_117 rfl (lv_at hl 4 rfl) ?_
              refine lv_iconst (v := 0) hx hb dX10_levy_118 (by decide) ?_
              refine lv_iconst (v := 0) hx hb dX10_levy_119 (by decide) ?_
              refine lv_bipush (v := 99) hx hb dX10_levy_120 (by decide) ?_
              refine lv_iconst (v := 1) hx hb dX10_levy_122 (by decide) ?_
              refine ti_callVi (ci := 10) (av := [.int 0, .int 0, .int 99, .int 1]) C hw (z_X10_within l D A cy hJ M_38 iM_38 (mL_lw (lk.trans (lk_of q_39.1 q_39.2.1) (lk_of f_19.1 f_19.2.1)).1 hL) 0 (by first | omega | decide) (by first | omega | decide) 0 99 1 (bq_fa tx g_24 x_34.toInt x_15.toInt) tx (tR_lw htr (eR_lw (q := 0) (eR.trans (eR_fI fi_42 q_40) f_21))) n6_41 (by first | decide | omega)) ⟨ml_X10_367, ym_X10_within, yv_X10_within, yi_X10_within, yc_X10_within⟩ yd_X10_within ob_60 (by decide) rfl rfl hl.1 (Nat.le_of_ble_eq_true rfl) ⟨by decide, by decide⟩ ⟨Nat.zero_le _, Nat.zero_le _⟩ dX10_levy_123 (fun r_47 M_48 H locs hp_48 hw => ?_)
              obtain ⟨fi_52, pr_47, iM_48, q_50, q_51⟩ := hp_48
              have hs_53 : qR (tx 4).toNat 0 g_24 M_48 := qR_of hs_43 q_51
              try simp only [show (0 : Int32).toInt.toNat = 0 by decide] at pr_47
              try simp only [show (0 : Int32).toInt = 0 by decide] at pr_47
              try simp only [show (0 : Int32).toInt.toNat = 0 by decide] at pr_47
              try simp only [show (0 : Int32).toInt = 0 by decide] at pr_47
              try simp only [show (99 : Int32).toInt.toNat = 99 by decide] at pr_47
              try simp only [show (99 : Int32).toInt = 99 by decide] at pr_47
              try simp only [show (1 : Int32).toInt.toNat = 1 by decide] at pr_47
              try simp only [show (1 : Int32).toInt = 1 by decide] at pr_47
              have bpr_47 : 0 ≤ r_47.toInt ∧ r_47.toInt ≤ 99 := by rw [pr_47]; unfold bq_pt; (repeat' split) <;> omega
              refine ti_min C ml_X10_380 hl.1 (by decide) (Nat.le_of_ble_eq_true rfl) ⟨Nat.zero_le _, Nat.zero_le _⟩ dX10_levy_126 ?_
              refine lv_topi (fun x_54 ex_54 => ?_)
              have bx_54 := i_min ex_54 rfl rfl
              refine lv_istore (lv' := [(7, .int x_54), (6, .int x_34), (5, .int x_15), (4, .int x_14), (3, .int x_1), (0, .ref (A 60 0)), (1, .int 0), (2, .int t)]) hx hb dX10_levy_129 hl (by decide) rfl (fun ls hl => ?_)
              refine lv_aload_n hx hb dX10_levy_131 rfl (lv_at hl 5 rfl) ?_
              refine ti_get (ci := 10) (k := 43) (N := 67) (T := TX10) (v := .ref (A 60 44)) C hw iw_10 rfl ob_60 (by decide) (by decide) fl_X10_96 rfl rfl dX10_levy_132 ?_
              refine lv_bipush (v := 8) hx hb dX10_levy_135 (by decide) ?_
              refine lv_iload_n hx hb dX10_levy_137 rfl (lv_at hl 6 rfl) ?_
              refine lv_imul hx hb dX10_levy_138 ?_
              refine ti_top (y := 0) (by decide) ?_
              refine lv_iload hx hb dX10_levy_139 (lv_at hl 1 rfl) ?_
              refine lv_iadd hx hb dX10_levy_141 ?_
              refine lv_topi (fun x_55 ex_55 => ?_)
              have tx_55 : x_55.toInt = 0 + x_34.toInt := i_add ex_55 (by decide : (0 : Int32).toInt = 0) rfl (by omega) (by omega)
              refine lv_dup2_11 hx hb dX10_levy_142 rfl rfl ?_
              refine ti_iald (ci := 10) (k := 43) (n := 184) C hw ob_60 (by decide) (fun _ _ => rfl) (vp_in_iff.mpr (by omega)) dX10_levy_143 ?_
              refine lv_topi (fun x_56 ex_56 => ?_)
              have yx_56 : tY M_48 60 43 x_55.toNatClampNeg = x_56 := (ex_56.symm)
              have wx_56 : tY M_18 60 43 x_55.toNatClampNeg = x_56 := (((cg (tY_fr q_51) x_55.toNatClampNeg).trans (cg (tY_fr q_40) x_55.toNatClampNeg))).symm.trans yx_56
              have L_57 : g_24 (192 + x_34.toInt.toNat) = x_56.toInt := ((hs_53.2.2.2.1 (x_34.toInt.toNat) (by omega)).2.2.2.2.1).trans (rd_k (n := 8 * 0 + x_34.toInt.toNat) (by omega) ((cg (tY_fr q_51) x_55.toNatClampNeg).trans ((cg (tY_fr q_40) x_55.toNatClampNeg).trans wx_56)))
              refine lv_iload hx hb dX10_levy_144 (lv_at hl 0 rfl) ?_
              refine lv_isub hx hb dX10_levy_146 ?_
              refine lv_topi (fun x_58 ex_58 => ?_)
              have tx_58 : x_58.toInt = bw (x_56.toInt - x_54.toInt) := bw_sub ex_58 rfl rfl
              refine ti_iast (ci := 10) (k := 43) (n := 184) C hw ob_60 (by decide) (fun _ _ => rfl) (vp_in_iff.mpr (by omega)) dX10_levy_147 (fun H locs hw => ?_)
              obtain ⟨M_59, hM_59⟩ : ∃ z : ti_M, z = uY M_48 60 43 (upd (tY M_48 60 43) (x_55 : Int32).toNatClampNeg x_58) := ⟨_, rfl⟩
              have hw := hw.to hM_59.symm
              have iM_59 : mI Tm M_59 := mI_up (i := x_55.toNatClampNeg) iM_48 hM_59 trivial
              have hs_60 : qR (tx 4).toNat 0 (pp_su g_24 (192 + x_34.toInt.toNat) x_58.toInt) M_59 := qR_43 (m := x_34.toInt.toNat) (z := x_55) hs_53 (by omega) rfl hM_59 (by omega) (by omega)
              obtain ⟨g_61, eg_61⟩ : ∃ z : Nat → Int, z = pp_su g_24 (192 + x_34.toInt.toNat) x_58.toInt := ⟨_, rfl⟩
              rw [← eg_61] at hs_60
              refine lv_aload_n hx hb dX10_levy_148 rfl (lv_at hl 5 rfl) ?_
              refine ti_get (ci := 10) (k := 43) (N := 67) (T := TX10) (v := .ref (A 60 44)) C hw iw_10 rfl ob_60 (by decide) (by decide) fl_X10_96 rfl rfl dX10_levy_149 ?_
              refine lv_iload hx hb dX10_levy_152 (lv_at hl 3 rfl) ?_
              refine lv_dup2_11 hx hb dX10_levy_154 rfl rfl ?_
              refine ti_iald (ci := 10) (k := 43) (n := 184) C hw ob_60 (by decide) (fun _ _ => rfl) (vp_in_iff.mpr (by omega)) dX10_levy_155 ?_
              refine lv_topi (fun x_62 ex_62 => ?_)
              have yx_62 : tY M_59 60 43 x_14.toNatClampNeg = x_62 := (ex_62.symm)
              have L_63 : g_61 (192 + x_12.toInt.toNat) = x_62.toInt := ((hs_60.2.2.2.1 (x_12.toInt.toNat) (by omega)).2.2.2.2.1).trans (rd_k (n := 8 * 0 + x_12.toInt.toNat) (by omega) (yx_62))
              refine lv_iload hx hb dX10_levy_156 (lv_at hl 0 rfl) ?_
              refine lv_iadd hx hb dX10_levy_158 ?_
              refine lv_topi (fun x_64 ex_64 => ?_)
              have tx_64 : x_64.toInt = bw (x_62.toInt + x_54.toInt) := bw_add ex_64 rfl rfl
              refine ti_iast (ci := 10) (k := 43) (n := 184) C hw ob_60 (by decide) (fun _ _ => rfl) (vp_in_iff.mpr (by omega)) dX10_levy_159 (fun H locs hw => ?_)
              obtain ⟨M_65, hM_65⟩ : ∃ z : ti_M, z = uY M_59 60 43 (upd (tY M_59 60 43) (x_14 : Int32).toNatClampNeg x_64) := ⟨_, rfl⟩
              have hw := hw.to hM_65.symm
              have iM_65 : mI Tm M_65 := mI_up (i := x_14.toNatClampNeg) iM_59 hM_65 trivial
              have hs_66 : qR (tx 4).toNat 0 (pp_su g_61 (192 + x_12.toInt.toNat) x_64.toInt) M_65 := qR_43 (m := x_12.toInt.toNat) (z := x_14) hs_60 (by omega) rfl hM_65 (by omega) (by omega)
              obtain ⟨g_67, eg_67⟩ : ∃ z : Nat → Int, z = pp_su g_61 (192 + x_12.toInt.toNat) x_64.toInt := ⟨_, rfl⟩
              rw [← eg_67] at hs_66
              obtain ⟨x_69, ex_69⟩ : ∃ z : Int32, z = x_15 + 1 := ⟨_, rfl⟩
              have tx_69 : x_69.toInt = x_15.toInt + 1 := i_add ex_69 rfl (by decide) (by omega) (by omega)
              refine lv_iinc (v := x_69) (lv' := [(5, .int x_69), (7, .int x_54), (6, .int x_34), (4, .int x_14), (3, .int x_1), (0, .ref (A 60 0)), (1, .int 0), (2, .int t)]) hx hb dX10_levy_160 hl (k := 2) rfl (by rw [ex_69]; rfl) (by decide) rfl (fun ls hl => ?_)
              refine lv_goto (tgt := 61) hx hb dX10_levy_163 (by decide) ?_
              exact ih_29 x_69 M_65 g_67 _ _ _ (by omega) (by first | omega | decide) (by first | omega | decide) iM_65 (qw.trans (qw_Y hM_65 (by decide)) (qw.trans (qw_Y hM_59 (by decide)) (qw.trans q_50 (qw.trans q_39 f_19)))) (((tY_nE hM_65 (nk (by decide))).trans ((tY_nE hM_59 (nk (by decide))).trans ((tY_fr q_51).trans ((tY_fr q_40).trans f_20))))) (eR.trans (eR_Y hM_65 (bk_m (z := x_14) (by omega) (by decide))) (eR.trans (eR_Y hM_59 (bk_m (z := x_55) (by omega) (by decide))) (eR.trans (eR_fI fi_52 q_51) (eR.trans (eR_fI fi_42 q_40) f_21)))) (fI.trans (fI_Y hM_65) (fI.trans (fI_Y hM_59) (fI.trans fi_52 (fI.trans fi_42 f_22)))) (((tY_nE hM_65 (nk (by decide))).trans ((tY_nE hM_59 (nk (by decide))).trans ((tY_fr q_51).trans ((tY_fr q_40).trans f_23))))) hs_66 (by rw [← j_26, lf_go (tx := tx) (t := x_12.toInt) (s := g_24) (p := x_15.toInt.toNat) (f := (g_24 3).toNat - x_15.toInt.toNat) (f' := (g_24 3).toNat - x_69.toInt.toNat) (by omega), show bq_l1 tx g_24 x_12.toInt x_15.toInt.toNat = g_67 by (unfold bq_l1 bq_py; rw [if_neg (by omega), L_35, show ((x_15.toInt.toNat : Nat) : Int) = x_15.toInt by omega, show bq_lv tx g_24 0 (x_15.toInt) (x_15.toInt) = _ from lv_wv (x := x_34.toInt) (by unfold bq_ma; rw [if_pos (by omega)]; exact L_35) (by omega), ← pr_47, show g_24 (192 + x_34.toInt.toNat) = x_45.toInt by omega, show bq_mn r_47.toInt x_45.toInt = x_54.toInt by (unfold bq_mn; split <;> omega), show x_45.toInt = x_56.toInt by omega, ← tx_58, ← eg_61, show g_61 (192 + x_12.toInt.toNat) = x_62.toInt by omega, ← tx_64, ← eg_67]), show x_69.toInt.toNat = x_15.toInt.toNat + 1 by omega, show (g_67 3).toNat = (g_24 3).toNat by rw [eg_67, su_n (by omega), eg_61, su_n (by omega)]]) (fun j hj => by rw [eg_67, su_n (by omega), eg_61, su_n (by omega)]; exact j_27 j hj) (((fun j hj => by rw [eg_67, su_n (by omega), eg_61, su_n (by omega)]; exact j_27 j hj) : ∀ j : Nat, j < 192 → g_67 j = rg j) 3 (by decide)) hw (lv_sub hl [0, 3, 4, 5, 6, 7] rfl)
            · refine lv_goto (tgt := 160) hx hb dX10_levy_78 (by decide) ?_
              obtain ⟨x_68, ex_68⟩ : ∃ z : Int32, z = x_15 + 1 := ⟨_, rfl⟩
              have tx_68 : x_68.toInt = x_15.toInt + 1 := i_add ex_68 rfl (by decide) (by omega) (by omega)
              refine lv_iinc (v := x_68) (lv' := [(5, .int x_68), (4, .int x_14), (3, .int x_1), (0, .ref (A 60 0)), (1, .int 0), (2, .int t)]) hx hb dX10_levy_160 hl (k := 0) rfl (by rw [ex_68]; rfl) (by decide) rfl (fun ls hl => ?_)
              refine lv_goto (tgt := 61) hx hb dX10_levy_163 (by decide) ?_
              exact ih_29 x_68 M_18 g_24 _ _ _ (by omega) (by first | omega | decide) (by first | omega | decide) iM_18 f_19 ((f_20)) f_21 f_22 ((f_23)) hs_25 (by rw [← j_26, lf_go (tx := tx) (t := x_12.toInt) (s := g_24) (p := x_15.toInt.toNat) (f := (g_24 3).toNat - x_15.toInt.toNat) (f' := (g_24 3).toNat - x_68.toInt.toNat) (by omega), show bq_l1 tx g_24 x_12.toInt x_15.toInt.toNat = g_24 by (unfold bq_l1; rw [if_pos (by rw [j_27 _ (by omega : 96 + x_15.toInt.toNat < 192), show x_15.toInt.toNat = x_1.toInt.toNat by omega]; exact LT)]), show x_68.toInt.toNat = x_15.toInt.toNat + 1 by omega]) j_27 ((j_27 : ∀ j : Nat, j < 192 → g_24 j = rg j) 3 (by decide)) hw (lv_sub hl [0, 1, 2, 3, 4, 5] rfl)
      exact hl_61_28 ((8 - 0 : Int).toNat + 1) 0 M rg _ _ _ (Nat.lt_succ_self _) (by have lt0 : (0 : Int32).toInt = 0 := (by decide); first | omega | decide) (by have lt0 : (0 : Int32).toInt = 0 := (by decide); first | omega | decide) hI qw.refl rfl eR.refl fI.refl rfl hr (by show bq_lf tx _ ((rg 3).toNat - 0) 0 rg = _; rfl) (fun _ _ => rfl) rfl hw (lv_sub hl [0, 1, 2, 3, 4, 5] rfl)
set_option maxHeartbeats 4000000 in
set_option maxRecDepth 100000 in
theorem z_X10_levy_1 (l : Launch) (D : va_G) (A : Nat → Nat → Nat) (cy : Nat → ClassId) (hJ : ti_inj ti_LM A) (M : ti_M) (hI : mI Tm M) (hL : mL M) (t : Int32) (tx rg : Nat → Int) (htr : tR tx M) (ht4 : 0 ≤ tx 4 ∧ tx 4 ≤ 8) (hr : qR (tx 4).toNat 1 rg M) (hwf : wF tx rg) (htw : tI M 60 53 = -1) (htW : tW tx) (htm : t.toInt = rg 2) (h2 : 0 ≤ rg 2) : ti_Kv l yX10_levy cX10_levy 8 4 ti_LM D A cy M [.ref (A 60 0), .int 1, .int t] (fun M2 => eR 1 M2 M ∧ tY M2 60 48 = tY M 60 48 ∧ qR (tx 4).toNat 1 (bq_ly tx rg) M2 ∧ mI Tm M2 ∧ qw M2 M ∧ tY M2 60 34 = tY M 60 34) := by
  refine ti_eV yp_X10_levy hJ ti_LM_nd (Nat.le_of_ble_eq_true rfl) ?_
  intro p e s m args below meth c Q H0 C hQ hw ls hl
  have hx := C.1
  have hb := C.2.1
  have hl : lv_has ls 8 [(0, .ref (A 60 0)), (1, .int 1), (2, .int t)] := hl
  have hp2 := hwf.2.2.2.2.2.2.2 2 (by decide)
  have ht8 := htW.2.2.2.1
  refine lv_aload_n hx hb dX10_levy_0 rfl (lv_at hl 0 rfl) ?_
  refine ti_get (ci := 10) (k := 49) (N := 67) (T := TX10) (v := .ref (A 60 50)) C hw iw_10 rfl ob_60 (by decide) (by decide) fl_X10_114 rfl rfl dX10_levy_1 ?_
  refine lv_iconst (v := 3) hx hb dX10_levy_4 (by decide) ?_
  refine lv_iload_n hx hb dX10_levy_5 rfl (lv_at hl 1 rfl) ?_
  refine lv_imul hx hb dX10_levy_6 ?_
  refine ti_top (y := 3) (by decide) ?_
  refine lv_iconst (v := 2) hx hb dX10_levy_7 (by decide) ?_
  refine lv_iadd hx hb dX10_levy_8 ?_
  refine ti_top (y := 5) (by decide) ?_
  refine ti_iald (ci := 10) (k := 49) (n := 69) C hw ob_60 (by decide) (fun _ _ => rfl) (by unfold vp_in; decide) dX10_levy_9 ?_
  refine lv_topi (fun x_1 ex_1 => ?_)
  have yx_1 : tY M 60 49 5 = x_1 := ((congrArg _ (by decide)).symm.trans ex_1.symm)
  have bx_1 : 0 ≤ x_1.toInt ∧ x_1.toInt ≤ 7 := mI_ry (k := 49) (i := 5) hI yx_1.symm
  have L_2 : rg 114 = x_1.toInt := (hr.2.2.1 (2) (by omega)).trans (congrArg Int32.toInt (yx_1))
  refine lv_istore_n (lv' := [(3, .int x_1), (0, .ref (A 60 0)), (1, .int 1), (2, .int t)]) hx hb dX10_levy_10 rfl hl (by decide) rfl (fun ls hl => ?_)
  refine lv_iload_n hx hb dX10_levy_11 rfl (lv_at hl 3 rfl) ?_
  refine lv_aload_n hx hb dX10_levy_12 rfl (lv_at hl 1 rfl) ?_
  refine ti_get (ci := 10) (k := 3) (N := 67) (T := TX10) (v := .ref (A 60 4)) C hw iw_10 rfl ob_60 (by decide) (by decide) fl_X10_13 rfl rfl dX10_levy_13 ?_
  refine lv_iconst (v := 3) hx hb dX10_levy_16 (by decide) ?_
  refine ti_iald (ci := 10) (k := 3) (n := 22) C hw ob_60 (by decide) (fun _ _ => rfl) (by unfold vp_in; decide) dX10_levy_17 ?_
  refine lv_topi (fun x_3 ex_3 => ?_)
  have yx_3 : tY M 60 3 3 = x_3 := ((congrArg _ (by decide)).symm.trans ex_3.symm)
  have bx_3 : 1 ≤ x_3.toInt ∧ x_3.toInt ≤ 30 := mI_rn (i := 3) hI yx_3.symm (fun _ h => h)
  have zx_3 : (tY M 60 3 3).toInt = x_3.toInt := by rw [yx_3]
  have L_4 : tx 8 = x_3.toInt := (htr.1.2.2.2.1).trans ((congrArg Int32.toInt (cg rfl 3)).symm.trans (congrArg Int32.toInt (yx_3)))
  refine lv_irem hx hb dX10_levy_18 (nz (by omega)) ?_
  refine lv_topi (fun x_5 ex_5 => ?_)
  have rx_5 := i_rem ex_5 rfl rfl (by omega) (by omega)
  have rm : rg 2 % tx 8 = x_5.toInt := by rw [← htm, show tx 8 = x_3.toInt by omega]; exact rx_5.2.2.symm
  refine sb_if_ne (tgt := 39) hx hb rfl dX10_levy_19 (by decide) (fun c_19_5 => ?_) (fun c_19_5 => ?_)
  · exact hQ _ _ _ _ _ hw (⟨eR.refl, rfl, (by unfold bq_ly; rw [if_pos (by first | omega | (unfold bq_ma; rw [if_neg (by omega)]; omega))]; exact hr), hI, qw.refl, rfl⟩) dX10_levy_39
  · refine lv_iload_n hx hb dX10_levy_22 rfl (lv_at hl 0 rfl) ?_
    refine lv_aload_n hx hb dX10_levy_23 rfl (lv_at hl 1 rfl) ?_
    refine ti_get (ci := 10) (k := 38) (N := 67) (T := TX10) (v := .ref (A 60 39)) C hw iw_10 rfl ob_60 (by decide) (by decide) fl_X10_81 rfl rfl dX10_levy_24 ?_
    refine lv_iload_n hx hb dX10_levy_27 rfl (lv_at hl 2 rfl) ?_
    refine ti_iald (ci := 10) (k := 38) (n := 23) C hw ob_60 (by decide) (fun _ _ => rfl) (by unfold vp_in; decide) dX10_levy_28 ?_
    refine lv_topi (fun x_7 ex_7 => ?_)
    have yx_7 : tY M 60 38 1 = x_7 := ((congrArg _ (by decide)).symm.trans ex_7.symm)
    have bx_7 : 0 ≤ x_7.toInt ∧ x_7.toInt ≤ 8 := mI_ry (k := 38) (i := 1) hI yx_7.symm
    have zx_7 : (tY M 60 38 1).toInt = x_7.toInt := by rw [yx_7]
    have L_8 : rg 3 = x_7.toInt := (hr.1.2.1).trans (congrArg Int32.toInt (yx_7))
    refine sb_icmp_ge (tgt := 39) hx hb rfl rfl dX10_levy_29 (by decide) (fun c_29_8 => ?_) (fun c_29_8 => ?_)
    · exact hQ _ _ _ _ _ hw (⟨eR.refl, rfl, (by unfold bq_ly; rw [if_pos (by first | omega | (unfold bq_ma; rw [if_neg (by omega)]; omega))]; exact hr), hI, qw.refl, rfl⟩) dX10_levy_39
    · refine lv_aload_n hx hb dX10_levy_32 rfl (lv_at hl 1 rfl) ?_
      refine ti_get (ci := 10) (k := 53) (N := 67) (T := TX10) C hw iw_10 rfl ob_60 (by decide) (by decide) fl_X10_120 rfl rfl dX10_levy_33 ?_
      refine ti_top (y := (-1)) (htw) ?_
      refine sb_if_ne (tgt := 40) hx hb (by decide : ((-1) : Int32).toInt = (-1)) dX10_levy_36 (by decide) (fun c_36_9 => ?_) (fun h => absurd h (by decide))
      refine lv_bipush (v := 8) hx hb dX10_levy_40 (by decide) ?_
      refine lv_iload_n hx hb dX10_levy_42 rfl (lv_at hl 2 rfl) ?_
      refine lv_imul hx hb dX10_levy_43 ?_
      refine ti_top (y := 8) (by decide) ?_
      refine lv_aload_n hx hb dX10_levy_44 rfl (lv_at hl 1 rfl) ?_
      refine ti_get (ci := 10) (k := 39) (N := 67) (T := TX10) (v := .ref (A 60 40)) C hw iw_10 rfl ob_60 (by decide) (by decide) fl_X10_84 rfl rfl dX10_levy_45 ?_
      refine lv_bipush (v := 8) hx hb dX10_levy_48 (by decide) ?_
      refine lv_iload_n hx hb dX10_levy_50 rfl (lv_at hl 2 rfl) ?_
      refine lv_imul hx hb dX10_levy_51 ?_
      refine ti_top (y := 8) (by decide) ?_
      refine lv_iload_n hx hb dX10_levy_52 rfl (lv_at hl 0 rfl) ?_
      refine lv_iadd hx hb dX10_levy_53 ?_
      refine lv_topi (fun x_11 ex_11 => ?_)
      have tx_11 : x_11.toInt = 8 + x_1.toInt := i_add ex_11 (by decide : (8 : Int32).toInt = 8) rfl (by omega) (by omega)
      refine ti_iald (ci := 10) (k := 39) (n := 184) C hw ob_60 (by decide) (fun _ _ => rfl) (vp_in_iff.mpr (by omega)) dX10_levy_54 ?_
      refine lv_topi (fun x_12 ex_12 => ?_)
      have yx_12 : tY M 60 39 x_11.toNatClampNeg = x_12 := (ex_12.symm)
      have bx_12 : 0 ≤ x_12.toInt ∧ x_12.toInt ≤ 7 := mI_ry (k := 39) (i := x_11.toNatClampNeg) hI yx_12.symm
      have L_13 : rg (96 + x_1.toInt.toNat) = x_12.toInt := (hr.2.1 (x_1.toInt.toNat) (by omega) (by omega)).trans (rd_k (n := 8 * 1 + x_1.toInt.toNat) (by omega) (yx_12))
      have LT : rg (96 + x_1.toInt.toNat) = x_12.toInt := L_13
      have AT : 0 ≤ rg (96 + x_1.toInt.toNat) ∧ rg (96 + x_1.toInt.toNat) < tx 4 ∧ _ := hwf.2.2.1 x_1.toInt.toNat (by omega)
      rw [LT] at AT
      refine lv_iadd hx hb dX10_levy_55 ?_
      refine lv_topi (fun x_14 ex_14 => ?_)
      have tx_14 : x_14.toInt = 8 + x_12.toInt := i_add ex_14 (by decide : (8 : Int32).toInt = 8) rfl (by omega) (by omega)
      refine lv_istore (lv' := [(4, .int x_14), (3, .int x_1), (0, .ref (A 60 0)), (1, .int 1), (2, .int t)]) hx hb dX10_levy_56 hl (by decide) rfl (fun ls hl => ?_)
      refine lv_iconst (v := 0) hx hb dX10_levy_58 (by decide) ?_
      refine lv_istore (lv' := [(5, .int 0), (4, .int x_14), (3, .int x_1), (0, .ref (A 60 0)), (1, .int 1), (2, .int t)]) hx hb dX10_levy_59 hl (by decide) rfl (fun ls hl => ?_)
      have hl_61_28 : ∀ (n_29 : Nat) (x_15 : Int32) (M_18 : ti_M) (g_24 : Nat → Int) (H : Heap) (locs : List Loc) (ls : Array Slot), (8 - x_15.toInt : Int).toNat < n_29 → (0 ≤ x_15.toInt) → (x_15.toInt ≤ 8) → (mI Tm M_18) → (qw M_18 M) → (tY M_18 60 34 = tY M 60 34) → (eR 1 M_18 M) → (fI M_18 M) → (tY M_18 60 48 = tY M 60 48) → (qR (tx 4).toNat 1 g_24 M_18) → (bq_lf tx (x_12.toInt) ((g_24 3).toNat - (x_15.toInt).toNat) (x_15.toInt).toNat g_24 = bq_lf tx (x_12.toInt) (rg 3).toNat 0 rg) → (∀ j : Nat, j < 192 → g_24 j = rg j) → (g_24 3 = rg 3) → ti_H ti_LM D A cy H0 M_18 H locs → lv_has ls 8 [(5, .int x_15), (4, .int x_14), (3, .int x_1), (0, .ref (A 60 0)), (1, .int 1), (2, .int t)] → W p l e (ti_rm 4) s m args below meth c H locs 0 0 Q (F0 m 61 ls []) := by
        intro n_29
        induction n_29 with
        | zero => intro x_15 M_18 g_24 H locs ls hf_29; exact absurd hf_29 (Nat.not_lt_zero _)
        | succ n_29 ih_29 =>
          intro x_15 M_18 g_24 H locs ls hf_29 b_16 b_17 iM_18 f_19 f_20 f_21 f_22 f_23 hs_25 j_26 j_27 j_28 hw hl
          refine lv_iload hx hb dX10_levy_61 (lv_at hl 0 rfl) ?_
          refine lv_aload_n hx hb dX10_levy_63 rfl (lv_at hl 3 rfl) ?_
          refine ti_get (ci := 10) (k := 38) (N := 67) (T := TX10) (v := .ref (A 60 39)) C hw iw_10 rfl ob_60 (by decide) (by decide) fl_X10_81 rfl rfl dX10_levy_64 ?_
          refine lv_iload_n hx hb dX10_levy_67 rfl (lv_at hl 4 rfl) ?_
          refine ti_iald (ci := 10) (k := 38) (n := 23) C hw ob_60 (by decide) (fun _ _ => rfl) (by unfold vp_in; decide) dX10_levy_68 ?_
          refine ti_top (y := x_7) ((congrArg _ (by decide)).trans ((cg f_19.2.2.1 1).trans yx_7)) ?_
          have L_30 : g_24 3 = x_7.toInt := (hs_25.1.2.1).trans (congrArg Int32.toInt ((cg f_19.2.2.1 1).trans yx_7))
          refine sb_icmp_ge (tgt := 166) hx hb rfl rfl dX10_levy_69 (by decide) (fun c_69_30 => ?_) (fun c_69_30 => ?_)
          · exact hQ _ _ _ _ _ hw (⟨f_21, ((f_23)), (by unfold bq_ly; rw [show bq_ma rg (rg 114) = x_12.toInt by (unfold bq_ma; rw [if_pos (by omega), show rg 114 = x_1.toInt by omega]; exact LT), if_neg (by omega), ← j_26, lf_end (by omega)]; exact hs_25), iM_18, f_19, ((f_20))⟩) dX10_levy_166
          · refine lv_iload hx hb dX10_levy_72 (lv_at hl 0 rfl) ?_
            refine lv_iload_n hx hb dX10_levy_74 rfl (lv_at hl 2 rfl) ?_
            refine sb_icmp_ne (tgt := 81) hx hb rfl rfl dX10_levy_75 (by decide) (fun c_75_31 => ?_) (fun c_75_31 => ?_)
            · refine lv_aload_n hx hb dX10_levy_81 rfl (lv_at hl 3 rfl) ?_
              refine ti_get (ci := 10) (k := 39) (N := 67) (T := TX10) (v := .ref (A 60 40)) C hw iw_10 rfl ob_60 (by decide) (by decide) fl_X10_84 rfl rfl dX10_levy_82 ?_
              refine lv_bipush (v := 8) hx hb dX10_levy_85 (by decide) ?_
              refine lv_iload_n hx hb dX10_levy_87 rfl (lv_at hl 4 rfl) ?_
              refine lv_imul hx hb dX10_levy_88 ?_
              refine ti_top (y := 8) (by decide) ?_
              refine lv_iload hx hb dX10_levy_89 (lv_at hl 0 rfl) ?_
              refine lv_iadd hx hb dX10_levy_91 ?_
              refine lv_topi (fun x_33 ex_33 => ?_)
              have tx_33 : x_33.toInt = 8 + x_15.toInt := i_add ex_33 (by decide : (8 : Int32).toInt = 8) rfl (by omega) (by omega)
              refine ti_iald (ci := 10) (k := 39) (n := 184) C hw ob_60 (by decide) (fun _ _ => rfl) (vp_in_iff.mpr (by omega)) dX10_levy_92 ?_
              refine lv_topi (fun x_34 ex_34 => ?_)
              have yx_34 : tY M_18 60 39 x_33.toNatClampNeg = x_34 := (ex_34.symm)
              have bx_34 : 0 ≤ x_34.toInt ∧ x_34.toInt ≤ 7 := mI_ry (k := 39) (i := x_33.toNatClampNeg) iM_18 yx_34.symm
              have wx_34 : tY M 60 39 x_33.toNatClampNeg = x_34 := ((cg f_19.2.2.2.1 x_33.toNatClampNeg)).symm.trans yx_34
              have L_35 : g_24 (96 + x_15.toInt.toNat) = x_34.toInt := (hs_25.2.1 (x_15.toInt.toNat) (by omega) (by omega)).trans (rd_k (n := 8 * 1 + x_15.toInt.toNat) (by omega) ((cg f_19.2.2.2.1 x_33.toNatClampNeg).trans wx_34))
              have A_36 : 0 ≤ rg (96 + x_15.toInt.toNat) ∧ rg (96 + x_15.toInt.toNat) < tx 4 ∧ rg (128 + (rg (96 + x_15.toInt.toNat)).toNat) = 1 := hwf.2.2.1 x_15.toInt.toNat (by omega)
              rw [← j_27 _ (by omega : 96 + x_15.toInt.toNat < 192), L_35] at A_36
              have stA_36 : g_24 (128 + x_34.toInt.toNat) = 1 := by rw [j_27 _ (by omega)]; exact A_36.2.2
              have w2A_36 : g_24 2 = rg 2 := j_27 2 (by decide)
              have BT : x_34.toInt ≠ x_12.toInt := fun q => by have := hwf.2.2.2.1 x_15.toInt.toNat x_1.toInt.toNat (by omega) (by omega) (by rw [LT, ← j_27 _ (by omega : 96 + x_15.toInt.toNat < 192), L_35]; exact q); omega
              refine lv_istore (lv' := [(6, .int x_34), (5, .int x_15), (4, .int x_14), (3, .int x_1), (0, .ref (A 60 0)), (1, .int 1), (2, .int t)]) hx hb dX10_levy_93 hl (by decide) rfl (fun ls hl => ?_)
              refine lv_aload_n hx hb dX10_levy_95 rfl (lv_at hl 4 rfl) ?_
              refine lv_iload_n hx hb dX10_levy_96 rfl (lv_at hl 5 rfl) ?_
              refine lv_iload hx hb dX10_levy_97 (lv_at hl 0 rfl) ?_
              refine lv_iload hx hb dX10_levy_99 (lv_at hl 1 rfl) ?_
              refine lv_iload_n hx hb dX10_levy_101 rfl (lv_at hl 6 rfl) ?_
              refine ti_callVv (ci := 10) (av := [.int 1, .int x_34, .int x_15, .int t]) C hw (z_X10_calls_1 l D A cy hJ M_18 iM_18 x_34 x_15 t (by first | omega | decide) (by first | omega | decide) tx g_24 (tR_lw htr (eR_lw (q := 1) f_21)) ht4 hs_25 (by omega) stA_36 (by omega)) ⟨ml_X10_363, ym_X10_calls, yv_X10_calls, yi_X10_calls, yc_X10_calls⟩ yd_X10_calls ob_60 (by decide) rfl rfl hl.1 (Nat.le_of_ble_eq_true rfl) ⟨by decide, by decide⟩ ⟨Nat.zero_le _, Nat.zero_le _⟩ dX10_levy_102 (fun M_38 H locs hp_38 hw => ?_)
              obtain ⟨n6_41, fi_42, iM_38, q_39, q_40⟩ := hp_38
              have hs_43 : qR (tx 4).toNat 1 g_24 M_38 := qR_of hs_25 q_40
              refine lv_aload_n hx hb dX10_levy_105 rfl (lv_at hl 4 rfl) ?_
              refine ti_get (ci := 10) (k := 43) (N := 67) (T := TX10) (v := .ref (A 60 44)) C hw iw_10 rfl ob_60 (by decide) (by decide) fl_X10_96 rfl rfl dX10_levy_106 ?_
              refine lv_bipush (v := 8) hx hb dX10_levy_109 (by decide) ?_
              refine lv_iload_n hx hb dX10_levy_111 rfl (lv_at hl 5 rfl) ?_
              refine lv_imul hx hb dX10_levy_112 ?_
              refine ti_top (y := 8) (by decide) ?_
              refine lv_iload hx hb dX10_levy_113 (lv_at hl 0 rfl) ?_
              refine lv_iadd hx hb dX10_levy_115 ?_
              refine lv_topi (fun x_44 ex_44 => ?_)
              have tx_44 : x_44.toInt = 8 + x_34.toInt := i_add ex_44 (by decide : (8 : Int32).toInt = 8) rfl (by omega) (by omega)
              refine ti_iald (ci := 10) (k := 43) (n := 184) C hw ob_60 (by decide) (fun _ _ => rfl) (vp_in_iff.mpr (by omega)) dX10_levy_116 ?_
              refine lv_topi (fun x_45 ex_45 => ?_)
              have yx_45 : tY M_38 60 43 x_44.toNatClampNeg = x_45 := (ex_45.symm)
              have wx_45 : tY M_18 60 43 x_44.toNatClampNeg = x_45 := ((cg (tY_fr q_40) x_44.toNatClampNeg)).symm.trans yx_45
              have L_46 : g_24 (192 + x_34.toInt.toNat) = x_45.toInt := ((hs_43.2.2.2.1 (x_34.toInt.toNat) (by omega)).2.2.2.2.1).trans (rd_k (n := 8 * 1 + x_34.toInt.toNat) (by omega) ((cg (tY_fr q_40) x_44.toNatClampNeg).trans wx_45))
              refine lv_aload_n hx hb dX10_levy_117 rfl (lv_at hl 4 rfl) ?_
              refine lv_iconst (v := 0) hx hb dX10_levy_118 (by decide) ?_
              refine lv_iconst (v := 0) hx hb dX10_levy_119 (by decide) ?_
              refine lv_bipush (v := 99) hx hb dX10_levy_120 (by decide) ?_
              refine lv_iconst (v := 1) hx hb dX10_levy_122 (by decide) ?_
              refine ti_callVi (ci := 10) (av := [.int 0, .int 0, .int 99, .int 1]) C hw (z_X10_within l D A cy hJ M_38 iM_38 (mL_lw (lk.trans (lk_of q_39.1 q_39.2.1) (lk_of f_19.1 f_19.2.1)).1 hL) 0 (by first | omega | decide) (by first | omega | decide) 0 99 1 (bq_fa tx g_24 x_34.toInt x_15.toInt) tx (tR_lw htr (eR_lw (q := 1) (eR.trans (eR_fI fi_42 q_40) f_21))) n6_41 (by first | decide | omega)) ⟨ml_X10_367, ym_X10_within, yv_X10_within, yi_X10_within, yc_X10_within⟩ yd_X10_within ob_60 (by decide) rfl rfl hl.1 (Nat.le_of_ble_eq_true rfl) ⟨by decide, by decide⟩ ⟨Nat.zero_le _, Nat.zero_le _⟩ dX10_levy_123 (fun r_47 M_48 H locs hp_48 hw => ?_)
              obtain ⟨fi_52, pr_47, iM_48, q_50, q_51⟩ := hp_48
              have hs_53 : qR (tx 4).toNat 1 g_24 M_48 := qR_of hs_43 q_51
              try simp only [show (0 : Int32).toInt.toNat = 0 by decide] at pr_47
              try simp only [show (0 : Int32).toInt = 0 by decide] at pr_47
              try simp only [show (0 : Int32).toInt.toNat = 0 by decide] at pr_47
              try simp only [show (0 : Int32).toInt = 0 by decide] at pr_47
              try simp only [show (99 : Int32).toInt.toNat = 99 by decide] at pr_47
              try simp only [show (99 : Int32).toInt = 99 by decide] at pr_47
              try simp only [show (1 : Int32).toInt.toNat = 1 by decide] at pr_47
              try simp only [show (1 : Int32).toInt = 1 by decide] at pr_47
              have bpr_47 : 0 ≤ r_47.toInt ∧ r_47.toInt ≤ 99 := by rw [pr_47]; unfold bq_pt; (repeat' split) <;> omega
              refine ti_min C ml_X10_380 hl.1 (by decide) (Nat.le_of_ble_eq_true rfl) ⟨Nat.zero_le _, Nat.zero_le _⟩ dX10_levy_126 ?_
              refine lv_topi (fun x_54 ex_54 => ?_)
              have bx_54 := i_min ex_54 rfl rfl
              refine lv_istore (lv' := [(7, .int x_54), (6, .int x_34), (5, .int x_15), (4, .int x_14), (3, .int x_1), (0, .ref (A 60 0)), (1, .int 1), (2, .int t)]) hx hb dX10_levy_129 hl (by decide) rfl (fun ls hl => ?_)
              refine lv_aload_n hx hb dX10_levy_131 rfl (lv_at hl 5 rfl) ?_
              refine ti_get (ci := 10) (k := 43) (N := 67) (T := TX10) (v := .ref (A 60 44)) C hw iw_10 rfl ob_60 (by decide) (by decide) fl_X10_96 rfl rfl dX10_levy_132 ?_
              refine lv_bipush (v := 8) hx hb dX10_levy_135 (by decide) ?_
              refine lv_iload_n hx hb dX10_levy_137 rfl (lv_at hl 6 rfl) ?_
              refine lv_imul hx hb dX10_levy_138 ?_
              refine ti_top (y := 8) (by decide) ?_
              refine lv_iload hx hb dX10_levy_139 (lv_at hl 1 rfl) ?_
              refine lv_iadd hx hb dX10_levy_141 ?_
              refine lv_topi (fun x_55 ex_55 => ?_)
              have tx_55 : x_55.toInt = 8 + x_34.toInt := i_add ex_55 (by decide : (8 : Int32).toInt = 8) rfl (by omega) (by omega)
              refine lv_dup2_11 hx hb dX10_levy_142 rfl rfl ?_
              refine ti_iald (ci := 10) (k := 43) (n := 184) C hw ob_60 (by decide) (fun _ _ => rfl) (vp_in_iff.mpr (by omega)) dX10_levy_143 ?_
              refine lv_topi (fun x_56 ex_56 => ?_)
              have yx_56 : tY M_48 60 43 x_55.toNatClampNeg = x_56 := (ex_56.symm)
              have wx_56 : tY M_18 60 43 x_55.toNatClampNeg = x_56 := (((cg (tY_fr q_51) x_55.toNatClampNeg).trans (cg (tY_fr q_40) x_55.toNatClampNeg))).symm.trans yx_56
              have L_57 : g_24 (192 + x_34.toInt.toNat) = x_56.toInt := ((hs_53.2.2.2.1 (x_34.toInt.toNat) (by omega)).2.2.2.2.1).trans (rd_k (n := 8 * 1 + x_34.toInt.toNat) (by omega) ((cg (tY_fr q_51) x_55.toNatClampNeg).trans ((cg (tY_fr q_40) x_55.toNatClampNeg).trans wx_56)))
              refine lv_iload hx hb dX10_levy_144 (lv_at hl 0 rfl) ?_
              refine lv_isub hx hb dX10_levy_146 ?_
              refine lv_topi (fun x_58 ex_58 => ?_)
              have tx_58 : x_58.toInt = bw (x_56.toInt - x_54.toInt) := bw_sub ex_58 rfl rfl
              refine ti_iast (ci := 10) (k := 43) (n := 184) C hw ob_60 (by decide) (fun _ _ => rfl) (vp_in_iff.mpr (by omega)) dX10_levy_147 (fun H locs hw => ?_)
              obtain ⟨M_59, hM_59⟩ : ∃ z : ti_M, z = uY M_48 60 43 (upd (tY M_48 60 43) (x_55 : Int32).toNatClampNeg x_58) := ⟨_, rfl⟩
              have hw := hw.to hM_59.symm
              have iM_59 : mI Tm M_59 := mI_up (i := x_55.toNatClampNeg) iM_48 hM_59 trivial
              have hs_60 : qR (tx 4).toNat 1 (pp_su g_24 (192 + x_34.toInt.toNat) x_58.toInt) M_59 := qR_43 (m := x_34.toInt.toNat) (z := x_55) hs_53 (by omega) rfl hM_59 (by omega) (by omega)
              obtain ⟨g_61, eg_61⟩ : ∃ z : Nat → Int, z = pp_su g_24 (192 + x_34.toInt.toNat) x_58.toInt := ⟨_, rfl⟩
              rw [← eg_61] at hs_60
              refine lv_aload_n hx hb dX10_levy_148 rfl (lv_at hl 5 rfl) ?_
              refine ti_get (ci := 10) (k := 43) (N := 67) (T := TX10) (v := .ref (A 60 44)) C hw iw_10 rfl ob_60 (by decide) (by decide) fl_X10_96 rfl rfl dX10_levy_149 ?_
              refine lv_iload hx hb dX10_levy_152 (lv_at hl 3 rfl) ?_
              refine lv_dup2_11 hx hb dX10_levy_154 rfl rfl ?_
              refine ti_iald (ci := 10) (k := 43) (n := 184) C hw ob_60 (by decide) (fun _ _ => rfl) (vp_in_iff.mpr (by omega)) dX10_levy_155 ?_
              refine lv_topi (fun x_62 ex_62 => ?_)
              have yx_62 : tY M_59 60 43 x_14.toNatClampNeg = x_62 := (ex_62.symm)
              have L_63 : g_61 (192 + x_12.toInt.toNat) = x_62.toInt := ((hs_60.2.2.2.1 (x_12.toInt.toNat) (by omega)).2.2.2.2.1).trans (rd_k (n := 8 * 1 + x_12.toInt.toNat) (by omega) (yx_62))
              refine lv_iload hx hb dX10_levy_156 (lv_at hl 0 rfl) ?_
              refine lv_iadd hx hb dX10_levy_158 ?_
              refine lv_topi (fun x_64 ex_64 => ?_)
              have tx_64 : x_64.toInt = bw (x_62.toInt + x_54.toInt) := bw_add ex_64 rfl rfl
              refine ti_iast (ci := 10) (k := 43) (n := 184) C hw ob_60 (by decide) (fun _ _ => rfl) (vp_in_iff.mpr (by omega)) dX10_levy_159 (fun H locs hw => ?_)
              obtain ⟨M_65, hM_65⟩ : ∃ z : ti_M, z = uY M_59 60 43 (upd (tY M_59 60 43) (x_14 : Int32).toNatClampNeg x_64) := ⟨_, rfl⟩
              have hw := hw.to hM_65.symm
              have iM_65 : mI Tm M_65 := mI_up (i := x_14.toNatClampNeg) iM_59 hM_65 trivial
              have hs_66 : qR (tx 4).toNat 1 (pp_su g_61 (192 + x_12.toInt.toNat) x_64.toInt) M_65 := qR_43 (m := x_12.toInt.toNat) (z := x_14) hs_60 (by omega) rfl hM_65 (by omega) (by omega)
              obtain ⟨g_67, eg_67⟩ : ∃ z : Nat → Int, z = pp_su g_61 (192 + x_12.toInt.toNat) x_64.toInt := ⟨_, rfl⟩
              rw [← eg_67] at hs_66
              obtain ⟨x_69, ex_69⟩ : ∃ z : Int32, z = x_15 + 1 := ⟨_, rfl⟩
              have tx_69 : x_69.toInt = x_15.toInt + 1 := i_add ex_69 rfl (by decide) (by omega) (by omega)
              refine lv_iinc (v := x_69) (lv' := [(5, .int x_69), (7, .int x_54), (6, .int x_34), (4, .int x_14), (3, .int x_1), (0, .ref (A 60 0)), (1, .int 1), (2, .int t)]) hx hb dX10_levy_160 hl (k := 2) rfl (by rw [ex_69]; rfl) (by decide) rfl (fun ls hl => ?_)
              refine lv_goto (tgt := 61) hx hb dX10_levy_163 (by decide) ?_
              exact ih_29 x_69 M_65 g_67 _ _ _ (by omega) (by first | omega | decide) (by first | omega | decide) iM_65 (qw.trans (qw_Y hM_65 (by decide)) (qw.trans (qw_Y hM_59 (by decide)) (qw.trans q_50 (qw.trans q_39 f_19)))) (((tY_nE hM_65 (nk (by decide))).trans ((tY_nE hM_59 (nk (by decide))).trans ((tY_fr q_51).trans ((tY_fr q_40).trans f_20))))) (eR.trans (eR_Y hM_65 (bk_m (z := x_14) (by omega) (by decide))) (eR.trans (eR_Y hM_59 (bk_m (z := x_55) (by omega) (by decide))) (eR.trans (eR_fI fi_52 q_51) (eR.trans (eR_fI fi_42 q_40) f_21)))) (fI.trans (fI_Y hM_65) (fI.trans (fI_Y hM_59) (fI.trans fi_52 (fI.trans fi_42 f_22)))) (((tY_nE hM_65 (nk (by decide))).trans ((tY_nE hM_59 (nk (by decide))).trans ((tY_fr q_51).trans ((tY_fr q_40).trans f_23))))) hs_66 (by rw [← j_26, lf_go (tx := tx) (t := x_12.toInt) (s := g_24) (p := x_15.toInt.toNat) (f := (g_24 3).toNat - x_15.toInt.toNat) (f' := (g_24 3).toNat - x_69.toInt.toNat) (by omega), show bq_l1 tx g_24 x_12.toInt x_15.toInt.toNat = g_67 by (unfold bq_l1 bq_py; rw [if_neg (by omega), L_35, show ((x_15.toInt.toNat : Nat) : Int) = x_15.toInt by omega, show bq_lv tx g_24 0 (x_15.toInt) (x_15.toInt) = _ from lv_wv (x := x_34.toInt) (by unfold bq_ma; rw [if_pos (by omega)]; exact L_35) (by omega), ← pr_47, show g_24 (192 + x_34.toInt.toNat) = x_45.toInt by omega, show bq_mn r_47.toInt x_45.toInt = x_54.toInt by (unfold bq_mn; split <;> omega), show x_45.toInt = x_56.toInt by omega, ← tx_58, ← eg_61, show g_61 (192 + x_12.toInt.toNat) = x_62.toInt by omega, ← tx_64, ← eg_67]), show x_69.toInt.toNat = x_15.toInt.toNat + 1 by omega, show (g_67 3).toNat = (g_24 3).toNat by rw [eg_67, su_n (by omega), eg_61, su_n (by omega)]]) (fun j hj => by rw [eg_67, su_n (by omega), eg_61, su_n (by omega)]; exact j_27 j hj) (((fun j hj => by rw [eg_67, su_n (by omega), eg_61, su_n (by omega)]; exact j_27 j hj) : ∀ j : Nat, j < 192 → g_67 j = rg j) 3 (by decide)) hw (lv_sub hl [0, 3, 4, 5, 6, 7] rfl)
            · refine lv_goto (tgt := 160) hx hb dX10_levy_78 (by decide) ?_
              obtain ⟨x_68, ex_68⟩ : ∃ z : Int32, z = x_15 + 1 := ⟨_, rfl⟩
              have tx_68 : x_68.toInt = x_15.toInt + 1 := i_add ex_68 rfl (by decide) (by omega) (by omega)
              refine lv_iinc (v := x_68) (lv' := [(5, .int x_68), (4, .int x_14), (3, .int x_1), (0, .ref (A 60 0)), (1, .int 1), (2, .int t)]) hx hb dX10_levy_160 hl (k := 0) rfl (by rw [ex_68]; rfl) (by decide) rfl (fun ls hl => ?_)
              refine lv_goto (tgt := 61) hx hb dX10_levy_163 (by decide) ?_
              exact ih_29 x_68 M_18 g_24 _ _ _ (by omega) (by first | omega | decide) (by first | omega | decide) iM_18 f_19 ((f_20)) f_21 f_22 ((f_23)) hs_25 (by rw [← j_26, lf_go (tx := tx) (t := x_12.toInt) (s := g_24) (p := x_15.toInt.toNat) (f := (g_24 3).toNat - x_15.toInt.toNat) (f' := (g_24 3).toNat - x_68.toInt.toNat) (by omega), show bq_l1 tx g_24 x_12.toInt x_15.toInt.toNat = g_24 by (unfold bq_l1; rw [if_pos (by rw [j_27 _ (by omega : 96 + x_15.toInt.toNat < 192), show x_15.toInt.toNat = x_1.toInt.toNat by omega]; exact LT)]), show x_68.toInt.toNat = x_15.toInt.toNat + 1 by omega]) j_27 ((j_27 : ∀ j : Nat, j < 192 → g_24 j = rg j) 3 (by decide)) hw (lv_sub hl [0, 1, 2, 3, 4, 5] rfl)
      exact hl_61_28 ((8 - 0 : Int).toNat + 1) 0 M rg _ _ _ (Nat.lt_succ_self _) (by have lt0 : (0 : Int32).toInt = 0 := (by decide); first | omega | decide) (by have lt0 : (0 : Int32).toInt = 0 := (by decide); first | omega | decide) hI qw.refl rfl eR.refl fI.refl rfl hr (by show bq_lf tx _ ((rg 3).toNat - 0) 0 rg = _; rfl) (fun _ _ => rfl) rfl hw (lv_sub hl [0, 1, 2, 3, 4, 5] rfl)
set_option maxHeartbeats 4000000 in
set_option maxRecDepth 100000 in
theorem z_X10_wear_0 (l : Launch) (D : va_G) (A : Nat → Nat → Nat) (cy : Nat → ClassId) (hJ : ti_inj ti_LM A) (M : ti_M) (hI : mI Tm M) (hL : mL M) (t : Int32) (tx rg : Nat → Int) (htr : tR tx M) (ht4 : 0 ≤ tx 4 ∧ tx 4 ≤ 8) (hr : qR (tx 4).toNat 0 rg M) (hwf : wF tx rg) (htw : tI M 60 53 = -1) (htm : t.toInt = rg 2) : ti_Kv l yX10_wear cX10_wear 6 4 ti_LM D A cy M [.ref (A 60 0), .int 0, .int t] (fun M2 => eR 0 M2 M ∧ tY M2 60 48 = tY M 60 48 ∧ qR (tx 4).toNat 0 (bq_wr tx rg) M2 ∧ mI Tm M2 ∧ qw M2 M ∧ tY M2 60 34 = tY M 60 34) := by
  refine ti_eV yp_X10_wear hJ ti_LM_nd (Nat.le_of_ble_eq_true rfl) ?_
  intro p e s m args below meth c Q H0 C hQ hw ls hl
  have hx := C.1
  have hb := C.2.1
  have hl : lv_has ls 6 [(0, .ref (A 60 0)), (1, .int 0), (2, .int t)] := hl
  refine lv_iconst (v := 0) hx hb dX10_wear_0 (by decide) ?_
  refine lv_istore_n (lv' := [(3, .int 0), (0, .ref (A 60 0)), (1, .int 0), (2, .int t)]) hx hb dX10_wear_1 rfl hl (by decide) rfl (fun ls hl => ?_)
  have hl_2_14 : ∀ (n_15 : Nat) (x_1 : Int32) (M_4 : ti_M) (g_10 : Nat → Int) (H : Heap) (locs : List Loc) (ls : Array Slot), (8 - x_1.toInt : Int).toNat < n_15 → (0 ≤ x_1.toInt) → (x_1.toInt ≤ 8) → (mI Tm M_4) → (qw M_4 M) → (tY M_4 60 34 = tY M 60 34) → (eR 0 M_4 M) → (fI M_4 M) → (tY M_4 60 48 = tY M 60 48) → (qR (tx 4).toNat 0 g_10 M_4) → (bq_wf tx ((g_10 3).toNat - (x_1.toInt).toNat) (x_1.toInt).toNat g_10 = bq_wf tx (rg 3).toNat 0 rg) → (∀ j : Nat, j < 160 → g_10 j = rg j) → (g_10 3 = rg 3) → ti_H ti_LM D A cy H0 M_4 H locs → lv_has ls 6 [(3, .int x_1), (0, .ref (A 60 0)), (1, .int 0), (2, .int t)] → W p l e (ti_rm 4) s m args below meth c H locs 0 0 Q (F0 m 2 ls []) := by
    intro n_15
    induction n_15 with
    | zero => intro x_1 M_4 g_10 H locs ls hf_15; exact absurd hf_15 (Nat.not_lt_zero _)
    | succ n_15 ih_15 =>
      intro x_1 M_4 g_10 H locs ls hf_15 b_2 b_3 iM_4 f_5 f_6 f_7 f_8 f_9 hs_11 j_12 j_13 j_14 hw hl
      refine lv_iload_n hx hb dX10_wear_2 rfl (lv_at hl 0 rfl) ?_
      refine lv_aload_n hx hb dX10_wear_3 rfl (lv_at hl 1 rfl) ?_
      refine ti_get (ci := 10) (k := 38) (N := 67) (T := TX10) (v := .ref (A 60 39)) C hw iw_10 rfl ob_60 (by decide) (by decide) fl_X10_81 rfl rfl dX10_wear_4 ?_
      refine lv_iload_n hx hb dX10_wear_7 rfl (lv_at hl 2 rfl) ?_
      refine ti_iald (ci := 10) (k := 38) (n := 23) C hw ob_60 (by decide) (fun _ _ => rfl) (by unfold vp_in; decide) dX10_wear_8 ?_
      refine lv_topi (fun x_16 ex_16 => ?_)
      have yx_16 : tY M_4 60 38 0 = x_16 := ((congrArg _ (by decide)).symm.trans ex_16.symm)
      have bx_16 : 0 ≤ x_16.toInt ∧ x_16.toInt ≤ 8 := mI_ry (k := 38) (i := 0) iM_4 yx_16.symm
      have zx_16 : (tY M_4 60 38 0).toInt = x_16.toInt := by rw [yx_16]
      have wx_16 : tY M 60 38 0 = x_16 := ((cg f_5.2.2.1 0)).symm.trans yx_16
      have zwx_16 : (tY M 60 38 0).toInt = x_16.toInt := by rw [wx_16]
      have L_17 : g_10 3 = x_16.toInt := (hs_11.1.2.1).trans (congrArg Int32.toInt ((cg f_5.2.2.1 0).trans wx_16))
      refine sb_icmp_ge (tgt := 104) hx hb rfl rfl dX10_wear_9 (by decide) (fun c_9_17 => ?_) (fun c_9_17 => ?_)
      · exact hQ _ _ _ _ _ hw (⟨f_7, ((f_9)), (by unfold bq_wr; rw [← j_12, wf_end (by omega)]; exact hs_11), iM_4, f_5, ((f_6))⟩) dX10_wear_104
      · refine lv_aload_n hx hb dX10_wear_12 rfl (lv_at hl 1 rfl) ?_
        refine ti_get (ci := 10) (k := 39) (N := 67) (T := TX10) (v := .ref (A 60 40)) C hw iw_10 rfl ob_60 (by decide) (by decide) fl_X10_84 rfl rfl dX10_wear_13 ?_
        refine lv_bipush (v := 8) hx hb dX10_wear_16 (by decide) ?_
        refine lv_iload_n hx hb dX10_wear_18 rfl (lv_at hl 2 rfl) ?_
        refine lv_imul hx hb dX10_wear_19 ?_
        refine ti_top (y := 0) (by decide) ?_
        refine lv_iload_n hx hb dX10_wear_20 rfl (lv_at hl 0 rfl) ?_
        refine lv_iadd hx hb dX10_wear_21 ?_
        refine lv_topi (fun x_19 ex_19 => ?_)
        have tx_19 : x_19.toInt = 0 + x_1.toInt := i_add ex_19 (by decide : (0 : Int32).toInt = 0) rfl (by omega) (by omega)
        refine ti_iald (ci := 10) (k := 39) (n := 184) C hw ob_60 (by decide) (fun _ _ => rfl) (vp_in_iff.mpr (by omega)) dX10_wear_22 ?_
        refine lv_topi (fun x_20 ex_20 => ?_)
        have yx_20 : tY M_4 60 39 x_19.toNatClampNeg = x_20 := (ex_20.symm)
        have bx_20 : 0 ≤ x_20.toInt ∧ x_20.toInt ≤ 7 := mI_ry (k := 39) (i := x_19.toNatClampNeg) iM_4 yx_20.symm
        have wx_20 : tY M 60 39 x_19.toNatClampNeg = x_20 := ((cg f_5.2.2.2.1 x_19.toNatClampNeg)).symm.trans yx_20
        have L_21 : g_10 (96 + x_1.toInt.toNat) = x_20.toInt := (hs_11.2.1 (x_1.toInt.toNat) (by omega) (by omega)).trans (rd_k (n := 8 * 0 + x_1.toInt.toNat) (by omega) ((cg f_5.2.2.2.1 x_19.toNatClampNeg).trans wx_20))
        have A_22 : 0 ≤ rg (96 + x_1.toInt.toNat) ∧ rg (96 + x_1.toInt.toNat) < tx 4 ∧ rg (128 + (rg (96 + x_1.toInt.toNat)).toNat) = 1 := hwf.2.2.1 x_1.toInt.toNat (by omega)
        rw [← j_13 _ (by omega : 96 + x_1.toInt.toNat < 160), L_21] at A_22
        have stA_22 : g_10 (128 + x_20.toInt.toNat) = 1 := by rw [j_13 _ (by omega)]; exact A_22.2.2
        have w2A_22 : g_10 2 = rg 2 := j_13 2 (by decide)
        refine lv_istore (lv' := [(4, .int x_20), (3, .int x_1), (0, .ref (A 60 0)), (1, .int 0), (2, .int t)]) hx hb dX10_wear_23 hl (by decide) rfl (fun ls hl => ?_)
        refine lv_bipush (v := 8) hx hb dX10_wear_25 (by decide) ?_
        refine lv_iload_n hx hb dX10_wear_27 rfl (lv_at hl 3 rfl) ?_
        refine lv_imul hx hb dX10_wear_28 ?_
        refine ti_top (y := 0) (by decide) ?_
        refine lv_iload hx hb dX10_wear_29 (lv_at hl 0 rfl) ?_
        refine lv_iadd hx hb dX10_wear_31 ?_
        refine lv_topi (fun x_23 ex_23 => ?_)
        have tx_23 : x_23.toInt = 0 + x_20.toInt := i_add ex_23 (by decide : (0 : Int32).toInt = 0) rfl (by omega) (by omega)
        refine lv_istore (lv' := [(5, .int x_23), (4, .int x_20), (3, .int x_1), (0, .ref (A 60 0)), (1, .int 0), (2, .int t)]) hx hb dX10_wear_32 hl (by decide) rfl (fun ls hl => ?_)
        refine lv_aload_n hx hb dX10_wear_34 rfl (lv_at hl 3 rfl) ?_
        refine ti_get (ci := 10) (k := 47) (N := 67) (T := TX10) (v := .ref (A 60 48)) C hw iw_10 rfl ob_60 (by decide) (by decide) fl_X10_108 rfl rfl dX10_wear_35 ?_
        refine lv_iload hx hb dX10_wear_38 (lv_at hl 0 rfl) ?_
        refine ti_iald (ci := 10) (k := 47) (n := 184) C hw ob_60 (by decide) (fun _ _ => rfl) (vp_in_iff.mpr (by omega)) dX10_wear_40 ?_
        refine lv_topi (fun x_24 ex_24 => ?_)
        have yx_24 : tY M_4 60 47 x_23.toNatClampNeg = x_24 := (ex_24.symm)
        have L_25 : g_10 (240 + x_20.toInt.toNat) = x_24.toInt := ((hs_11.2.2.2.1 (x_20.toInt.toNat) (by omega)).2.2.2.2.2).trans (rd_k (n := 8 * 0 + x_20.toInt.toNat) (by omega) (yx_24))
        refine sb_if_le (tgt := 58) hx hb rfl dX10_wear_41 (by decide) (fun c_41_25 => ?_) (fun c_41_25 => ?_)
        · refine lv_iload_n hx hb dX10_wear_58 rfl (lv_at hl 2 rfl) ?_
          refine sb_if_le (tgt := 98) hx hb rfl dX10_wear_59 (by decide) (fun c_59_31 => ?_) (fun c_59_31 => ?_)
          · obtain ⟨x_55, ex_55⟩ : ∃ z : Int32, z = x_1 + 1 := ⟨_, rfl⟩
            have tx_55 : x_55.toInt = x_1.toInt + 1 := i_add ex_55 rfl (by decide) (by omega) (by omega)
            refine lv_iinc (v := x_55) (lv' := [(3, .int x_55), (5, .int x_23), (4, .int x_20), (0, .ref (A 60 0)), (1, .int 0), (2, .int t)]) hx hb dX10_wear_98 hl (k := 2) rfl (by rw [ex_55]; rfl) (by decide) rfl (fun ls hl => ?_)
            refine lv_goto (tgt := 2) hx hb dX10_wear_101 (by decide) ?_
            exact ih_15 x_55 M_4 g_10 _ _ _ (by omega) (by first | omega | decide) (by first | omega | decide) iM_4 f_5 ((f_6)) f_7 f_8 ((f_9)) hs_11 (by rw [← j_12, wf_go (tx := tx) (s := g_10) (p := x_1.toInt.toNat) (f := (g_10 3).toNat - x_1.toInt.toNat) (f' := (g_10 3).toNat - x_55.toInt.toNat) (by omega), show bq_w1 tx g_10 x_1.toInt.toNat = g_10 by (unfold bq_w1; rw [L_21, L_25, if_neg (by omega), if_neg (by omega)]), show x_55.toInt.toNat = x_1.toInt.toNat + 1 by omega]) j_13 ((j_13 : ∀ j : Nat, j < 160 → g_10 j = rg j) 3 (by decide)) hw (lv_sub hl [0, 3, 4, 5] rfl)
          · refine lv_aload_n hx hb dX10_wear_62 rfl (lv_at hl 3 rfl) ?_
            refine ti_get (ci := 10) (k := 53) (N := 67) (T := TX10) C hw iw_10 rfl ob_60 (by decide) (by decide) fl_X10_120 rfl rfl dX10_wear_63 ?_
            refine ti_top (y := (-1)) ((f_8 53 (by decide)).trans htw) ?_
            refine lv_iconst (v := 1) hx hb dX10_wear_66 (by decide) ?_
            refine sb_icmp_eq (tgt := 98) hx hb (by decide : ((-1) : Int32).toInt = (-1)) (by decide : (1 : Int32).toInt = 1) dX10_wear_67 (by decide) (fun h => absurd h (by decide)) (fun c_67_32 => ?_)
            refine lv_aload_n hx hb dX10_wear_70 rfl (lv_at hl 3 rfl) ?_
            refine lv_iload_n hx hb dX10_wear_71 rfl (lv_at hl 4 rfl) ?_
            refine lv_iload hx hb dX10_wear_72 (lv_at hl 1 rfl) ?_
            refine lv_iload_n hx hb dX10_wear_74 rfl (lv_at hl 2 rfl) ?_
            refine lv_iload_n hx hb dX10_wear_75 rfl (lv_at hl 5 rfl) ?_
            refine ti_callVv (ci := 10) (av := [.int 0, .int x_20, .int x_1, .int t]) C hw (z_X10_calls_0 l D A cy hJ M_4 iM_4 x_20 x_1 t (by first | omega | decide) (by first | omega | decide) tx g_10 (tR_lw htr (eR_lw (q := 0) f_7)) ht4 hs_11 (by omega) stA_22 (by omega)) ⟨ml_X10_363, ym_X10_calls, yv_X10_calls, yi_X10_calls, yc_X10_calls⟩ yd_X10_calls ob_60 (by decide) rfl rfl hl.1 (Nat.le_of_ble_eq_true rfl) ⟨by decide, by decide⟩ ⟨Nat.zero_le _, Nat.zero_le _⟩ dX10_wear_76 (fun M_35 H locs hp_35 hw => ?_)
            obtain ⟨n6_38, fi_39, iM_35, q_36, q_37⟩ := hp_35
            have hs_40 : qR (tx 4).toNat 0 g_10 M_35 := qR_of hs_11 q_37
            refine lv_aload_n hx hb dX10_wear_79 rfl (lv_at hl 3 rfl) ?_
            refine ti_get (ci := 10) (k := 41) (N := 67) (T := TX10) (v := .ref (A 60 42)) C hw iw_10 rfl ob_60 (by decide) (by decide) fl_X10_90 rfl rfl dX10_wear_80 ?_
            refine lv_iload hx hb dX10_wear_83 (lv_at hl 0 rfl) ?_
            refine lv_dup2_11 hx hb dX10_wear_85 rfl rfl ?_
            refine ti_iald (ci := 10) (k := 41) (n := 184) C hw ob_60 (by decide) (fun _ _ => rfl) (vp_in_iff.mpr (by omega)) dX10_wear_86 ?_
            refine lv_topi (fun x_41 ex_41 => ?_)
            have yx_41 : tY M_35 60 41 x_23.toNatClampNeg = x_41 := (ex_41.symm)
            have wx_41 : tY M_4 60 41 x_23.toNatClampNeg = x_41 := ((cg (tY_fr q_37) x_23.toNatClampNeg)).symm.trans yx_41
            have L_42 : g_10 (160 + x_20.toInt.toNat) = x_41.toInt := ((hs_40.2.2.2.1 (x_20.toInt.toNat) (by omega)).2.2.1).trans (rd_k (n := 8 * 0 + x_20.toInt.toNat) (by omega) ((cg (tY_fr q_37) x_23.toNatClampNeg).trans wx_41))
            refine lv_aload_n hx hb dX10_wear_87 rfl (lv_at hl 3 rfl) ?_
            refine lv_iconst (v := 1) hx hb dX10_wear_88 (by decide) ?_
            refine lv_iconst (v := 0) hx hb dX10_wear_89 (by decide) ?_
            refine lv_bipush (v := 9) hx hb dX10_wear_90 (by decide) ?_
            refine lv_iconst (v := 1) hx hb dX10_wear_92 (by decide) ?_
            refine ti_callVi (ci := 10) (av := [.int 1, .int 0, .int 9, .int 1]) C hw (z_X10_within l D A cy hJ M_35 iM_35 (mL_lw (lk.trans (lk_of q_36.1 q_36.2.1) (lk_of f_5.1 f_5.2.1)).1 hL) 1 (by first | omega | decide) (by first | omega | decide) 0 9 1 (bq_fa tx g_10 x_20.toInt x_1.toInt) tx (tR_lw htr (eR_lw (q := 0) (eR.trans (eR_fI fi_39 q_37) f_7))) n6_38 (by first | decide | omega)) ⟨ml_X10_367, ym_X10_within, yv_X10_within, yi_X10_within, yc_X10_within⟩ yd_X10_within ob_60 (by decide) rfl rfl hl.1 (Nat.le_of_ble_eq_true rfl) ⟨by decide, by decide⟩ ⟨Nat.zero_le _, Nat.zero_le _⟩ dX10_wear_93 (fun r_43 M_44 H locs hp_44 hw => ?_)
            obtain ⟨fi_48, pr_43, iM_44, q_46, q_47⟩ := hp_44
            have hs_49 : qR (tx 4).toNat 0 g_10 M_44 := qR_of hs_40 q_47
            try simp only [show (1 : Int32).toInt.toNat = 1 by decide] at pr_43
            try simp only [show (1 : Int32).toInt = 1 by decide] at pr_43
            try simp only [show (0 : Int32).toInt.toNat = 0 by decide] at pr_43
            try simp only [show (0 : Int32).toInt = 0 by decide] at pr_43
            try simp only [show (9 : Int32).toInt.toNat = 9 by decide] at pr_43
            try simp only [show (9 : Int32).toInt = 9 by decide] at pr_43
            try simp only [show (1 : Int32).toInt.toNat = 1 by decide] at pr_43
            try simp only [show (1 : Int32).toInt = 1 by decide] at pr_43
            have bpr_43 : 0 ≤ r_43.toInt ∧ r_43.toInt ≤ 9 := by rw [pr_43]; unfold bq_pt; (repeat' split) <;> omega
            refine lv_isub hx hb dX10_wear_96 ?_
            refine lv_topi (fun x_50 ex_50 => ?_)
            have tx_50 : x_50.toInt = bw (x_41.toInt - r_43.toInt) := bw_sub ex_50 rfl rfl
            refine ti_iast (ci := 10) (k := 41) (n := 184) C hw ob_60 (by decide) (fun _ _ => rfl) (vp_in_iff.mpr (by omega)) dX10_wear_97 (fun H locs hw => ?_)
            obtain ⟨M_51, hM_51⟩ : ∃ z : ti_M, z = uY M_44 60 41 (upd (tY M_44 60 41) (x_23 : Int32).toNatClampNeg x_50) := ⟨_, rfl⟩
            have hw := hw.to hM_51.symm
            have iM_51 : mI Tm M_51 := mI_up (i := x_23.toNatClampNeg) iM_44 hM_51 trivial
            have hs_52 : qR (tx 4).toNat 0 (pp_su g_10 (160 + x_20.toInt.toNat) x_50.toInt) M_51 := qR_41 (m := x_20.toInt.toNat) (z := x_23) hs_49 (by omega) rfl hM_51 (by omega) (by omega)
            obtain ⟨g_53, eg_53⟩ : ∃ z : Nat → Int, z = pp_su g_10 (160 + x_20.toInt.toNat) x_50.toInt := ⟨_, rfl⟩
            rw [← eg_53] at hs_52
            obtain ⟨x_56, ex_56⟩ : ∃ z : Int32, z = x_1 + 1 := ⟨_, rfl⟩
            have tx_56 : x_56.toInt = x_1.toInt + 1 := i_add ex_56 rfl (by decide) (by omega) (by omega)
            refine lv_iinc (v := x_56) (lv' := [(3, .int x_56), (5, .int x_23), (4, .int x_20), (0, .ref (A 60 0)), (1, .int 0), (2, .int t)]) hx hb dX10_wear_98 hl (k := 2) rfl (by rw [ex_56]; rfl) (by decide) rfl (fun ls hl => ?_)
            refine lv_goto (tgt := 2) hx hb dX10_wear_101 (by decide) ?_
            exact ih_15 x_56 M_51 g_53 _ _ _ (by omega) (by first | omega | decide) (by first | omega | decide) iM_51 (qw.trans (qw_Y hM_51 (by decide)) (qw.trans q_46 (qw.trans q_36 f_5))) (((tY_nE hM_51 (nk (by decide))).trans ((tY_fr q_47).trans ((tY_fr q_37).trans f_6)))) (eR.trans (eR_Y hM_51 (bk_m (z := x_23) (by omega) (by decide))) (eR.trans (eR_fI fi_48 q_47) (eR.trans (eR_fI fi_39 q_37) f_7))) (fI.trans (fI_Y hM_51) (fI.trans fi_48 (fI.trans fi_39 f_8))) (((tY_nE hM_51 (nk (by decide))).trans ((tY_fr q_47).trans ((tY_fr q_37).trans f_9)))) hs_52 (by rw [← j_12, wf_go (tx := tx) (s := g_10) (p := x_1.toInt.toNat) (f := (g_10 3).toNat - x_1.toInt.toNat) (f' := (g_10 3).toNat - x_56.toInt.toNat) (by omega), show bq_w1 tx g_10 x_1.toInt.toNat = g_53 by (unfold bq_w1; rw [L_21, L_25, if_neg (by omega), if_pos (by omega), show g_10 (160 + x_20.toInt.toNat) = x_41.toInt by omega, show ((x_1.toInt.toNat : Nat) : Int) = x_1.toInt by omega, show bq_lv tx g_10 1 (x_1.toInt) (x_1.toInt) = _ from lv_wv (x := x_20.toInt) (by unfold bq_ma; rw [if_pos (by omega)]; exact L_21) (by omega), ← pr_43, ← tx_50, ← eg_53]), show x_56.toInt.toNat = x_1.toInt.toNat + 1 by omega, show (g_53 3).toNat = (g_10 3).toNat by rw [eg_53, su_n (by omega)]]) (fun j hj => by rw [eg_53, su_n (by omega)]; exact j_13 j hj) (((fun j hj => by rw [eg_53, su_n (by omega)]; exact j_13 j hj) : ∀ j : Nat, j < 160 → g_53 j = rg j) 3 (by decide)) hw (lv_sub hl [0, 3, 4, 5] rfl)
        · refine lv_aload_n hx hb dX10_wear_44 rfl (lv_at hl 3 rfl) ?_
          refine ti_get (ci := 10) (k := 47) (N := 67) (T := TX10) (v := .ref (A 60 48)) C hw iw_10 rfl ob_60 (by decide) (by decide) fl_X10_108 rfl rfl dX10_wear_45 ?_
          refine lv_iload hx hb dX10_wear_48 (lv_at hl 0 rfl) ?_
          refine lv_dup2_11 hx hb dX10_wear_50 rfl rfl ?_
          refine ti_iald (ci := 10) (k := 47) (n := 184) C hw ob_60 (by decide) (fun _ _ => rfl) (vp_in_iff.mpr (by omega)) dX10_wear_51 ?_
          refine ti_top (y := x_24) ((yx_24)) ?_
          have L_27 : g_10 (240 + x_20.toInt.toNat) = x_24.toInt := ((hs_11.2.2.2.1 (x_20.toInt.toNat) (by omega)).2.2.2.2.2).trans (rd_k (n := 8 * 0 + x_20.toInt.toNat) (by omega) (yx_24))
          refine lv_iconst (v := 1) hx hb dX10_wear_52 (by decide) ?_
          refine lv_isub hx hb dX10_wear_53 ?_
          refine lv_topi (fun x_28 ex_28 => ?_)
          have lox_28x_24 := x_24.le_toInt
          have hix_28x_24 := x_24.toInt_lt
          have tx_28 : x_28.toInt = x_24.toInt - 1 := i_sub ex_28 rfl (by decide : (1 : Int32).toInt = 1) (by omega) (by omega)
          have tx_28 : x_28.toInt = bw (x_24.toInt - 1) := bw_sub ex_28 rfl (by decide : (1 : Int32).toInt = 1)
          refine ti_iast (ci := 10) (k := 47) (n := 184) C hw ob_60 (by decide) (fun _ _ => rfl) (vp_in_iff.mpr (by omega)) dX10_wear_54 (fun H locs hw => ?_)
          obtain ⟨M_29, hM_29⟩ : ∃ z : ti_M, z = uY M_4 60 47 (upd (tY M_4 60 47) (x_23 : Int32).toNatClampNeg x_28) := ⟨_, rfl⟩
          have hw := hw.to hM_29.symm
          have iM_29 : mI Tm M_29 := mI_up (i := x_23.toNatClampNeg) iM_4 hM_29 trivial
          have hs_30 : qR (tx 4).toNat 0 (pp_su g_10 (240 + x_20.toInt.toNat) x_28.toInt) M_29 := qR_47 (m := x_20.toInt.toNat) (z := x_23) hs_11 (by omega) rfl hM_29 (by omega) (by omega)
          obtain ⟨g_31, eg_31⟩ : ∃ z : Nat → Int, z = pp_su g_10 (240 + x_20.toInt.toNat) x_28.toInt := ⟨_, rfl⟩
          rw [← eg_31] at hs_30
          refine lv_goto (tgt := 98) hx hb dX10_wear_55 (by decide) ?_
          obtain ⟨x_54, ex_54⟩ : ∃ z : Int32, z = x_1 + 1 := ⟨_, rfl⟩
          have tx_54 : x_54.toInt = x_1.toInt + 1 := i_add ex_54 rfl (by decide) (by omega) (by omega)
          refine lv_iinc (v := x_54) (lv' := [(3, .int x_54), (5, .int x_23), (4, .int x_20), (0, .ref (A 60 0)), (1, .int 0), (2, .int t)]) hx hb dX10_wear_98 hl (k := 2) rfl (by rw [ex_54]; rfl) (by decide) rfl (fun ls hl => ?_)
          refine lv_goto (tgt := 2) hx hb dX10_wear_101 (by decide) ?_
          exact ih_15 x_54 M_29 g_31 _ _ _ (by omega) (by first | omega | decide) (by first | omega | decide) iM_29 (qw.trans (qw_Y hM_29 (by decide)) f_5) (((tY_nE hM_29 (nk (by decide))).trans f_6)) (eR.trans (eR_Y hM_29 (bk_m (z := x_23) (by omega) (by decide))) f_7) (fI.trans (fI_Y hM_29) f_8) (((tY_nE hM_29 (nk (by decide))).trans f_9)) hs_30 (by rw [← j_12, wf_go (tx := tx) (s := g_10) (p := x_1.toInt.toNat) (f := (g_10 3).toNat - x_1.toInt.toNat) (f' := (g_10 3).toNat - x_54.toInt.toNat) (by omega), show bq_w1 tx g_10 x_1.toInt.toNat = g_31 by (unfold bq_w1; rw [L_21, L_27, if_pos (by omega), show x_24.toInt - 1 = x_28.toInt by omega, ← eg_31]), show x_54.toInt.toNat = x_1.toInt.toNat + 1 by omega, show (g_31 3).toNat = (g_10 3).toNat by rw [eg_31, su_n (by omega)]]) (fun j hj => by rw [eg_31, su_n (by omega)]; exact j_13 j hj) (((fun j hj => by rw [eg_31, su_n (by omega)]; exact j_13 j hj) : ∀ j : Nat, j < 160 → g_31 j = rg j) 3 (by decide)) hw (lv_sub hl [0, 3, 4, 5] rfl)
  exact hl_2_14 ((8 - 0 : Int).toNat + 1) 0 M rg _ _ _ (Nat.lt_succ_self _) (by have lt0 : (0 : Int32).toInt = 0 := (by decide); first | omega | decide) (by have lt0 : (0 : Int32).toInt = 0 := (by decide); first | omega | decide) hI qw.refl rfl eR.refl fI.refl rfl hr (by show bq_wf tx ((rg 3).toNat - 0) 0 rg = _; rfl) (fun _ _ => rfl) rfl hw (lv_sub hl [0, 1, 2, 3] rfl)
set_option maxHeartbeats 4000000 in
set_option maxRecDepth 100000 in
theorem z_X10_wear_1 (l : Launch) (D : va_G) (A : Nat → Nat → Nat) (cy : Nat → ClassId) (hJ : ti_inj ti_LM A) (M : ti_M) (hI : mI Tm M) (hL : mL M) (t : Int32) (tx rg : Nat → Int) (htr : tR tx M) (ht4 : 0 ≤ tx 4 ∧ tx 4 ≤ 8) (hr : qR (tx 4).toNat 1 rg M) (hwf : wF tx rg) (htw : tI M 60 53 = -1) (htm : t.toInt = rg 2) : ti_Kv l yX10_wear cX10_wear 6 4 ti_LM D A cy M [.ref (A 60 0), .int 1, .int t] (fun M2 => eR 1 M2 M ∧ tY M2 60 48 = tY M 60 48 ∧ qR (tx 4).toNat 1 (bq_wr tx rg) M2 ∧ mI Tm M2 ∧ qw M2 M ∧ tY M2 60 34 = tY M 60 34) := by
  refine ti_eV yp_X10_wear hJ ti_LM_nd (Nat.le_of_ble_eq_true rfl) ?_
  intro p e s m args below meth c Q H0 C hQ hw ls hl
  have hx := C.1
  have hb := C.2.1
  have hl : lv_has ls 6 [(0, .ref (A 60 0)), (1, .int 1), (2, .int t)] := hl
  refine lv_iconst (v := 0) hx hb dX10_wear_0 (by decide) ?_
  refine lv_istore_n (lv' := [(3, .int 0), (0, .ref (A 60 0)), (1, .int 1), (2, .int t)]) hx hb dX10_wear_1 rfl hl (by decide) rfl (fun ls hl => ?_)
  have hl_2_14 : ∀ (n_15 : Nat) (x_1 : Int32) (M_4 : ti_M) (g_10 : Nat → Int) (H : Heap) (locs : List Loc) (ls : Array Slot), (8 - x_1.toInt : Int).toNat < n_15 → (0 ≤ x_1.toInt) → (x_1.toInt ≤ 8) → (mI Tm M_4) → (qw M_4 M) → (tY M_4 60 34 = tY M 60 34) → (eR 1 M_4 M) → (fI M_4 M) → (tY M_4 60 48 = tY M 60 48) → (qR (tx 4).toNat 1 g_10 M_4) → (bq_wf tx ((g_10 3).toNat - (x_1.toInt).toNat) (x_1.toInt).toNat g_10 = bq_wf tx (rg 3).toNat 0 rg) → (∀ j : Nat, j < 160 → g_10 j = rg j) → (g_10 3 = rg 3) → ti_H ti_LM D A cy H0 M_4 H locs → lv_has ls 6 [(3, .int x_1), (0, .ref (A 60 0)), (1, .int 1), (2, .int t)] → W p l e (ti_rm 4) s m args below meth c H locs 0 0 Q (F0 m 2 ls []) := by
    intro n_15
    induction n_15 with
    | zero => intro x_1 M_4 g_10 H locs ls hf_15; exact absurd hf_15 (Nat.not_lt_zero _)
    | succ n_15 ih_15 =>
      intro x_1 M_4 g_10 H locs ls hf_15 b_2 b_3 iM_4 f_5 f_6 f_7 f_8 f_9 hs_11 j_12 j_13 j_14 hw hl
      refine lv_iload_n hx hb dX10_wear_2 rfl (lv_at hl 0 rfl) ?_
      refine lv_aload_n hx hb dX10_wear_3 rfl (lv_at hl 1 rfl) ?_
      refine ti_get (ci := 10) (k := 38) (N := 67) (T := TX10) (v := .ref (A 60 39)) C hw iw_10 rfl ob_60 (by decide) (by decide) fl_X10_81 rfl rfl dX10_wear_4 ?_
      refine lv_iload_n hx hb dX10_wear_7 rfl (lv_at hl 2 rfl) ?_
      refine ti_iald (ci := 10) (k := 38) (n := 23) C hw ob_60 (by decide) (fun _ _ => rfl) (by unfold vp_in; decide) dX10_wear_8 ?_
      refine lv_topi (fun x_16 ex_16 => ?_)
      have yx_16 : tY M_4 60 38 1 = x_16 := ((congrArg _ (by decide)).symm.trans ex_16.symm)
      have bx_16 : 0 ≤ x_16.toInt ∧ x_16.toInt ≤ 8 := mI_ry (k := 38) (i := 1) iM_4 yx_16.symm
      have zx_16 : (tY M_4 60 38 1).toInt = x_16.toInt := by rw [yx_16]
      have wx_16 : tY M 60 38 1 = x_16 := ((cg f_5.2.2.1 1)).symm.trans yx_16
      have zwx_16 : (tY M 60 38 1).toInt = x_16.toInt := by rw [wx_16]
      have L_17 : g_10 3 = x_16.toInt := (hs_11.1.2.1).trans (congrArg Int32.toInt ((cg f_5.2.2.1 1).trans wx_16))
      refine sb_icmp_ge (tgt := 104) hx hb rfl rfl dX10_wear_9 (by decide) (fun c_9_17 => ?_) (fun c_9_17 => ?_)
      · exact hQ _ _ _ _ _ hw (⟨f_7, ((f_9)), (by unfold bq_wr; rw [← j_12, wf_end (by omega)]; exact hs_11), iM_4, f_5, ((f_6))⟩) dX10_wear_104
      · refine lv_aload_n hx hb dX10_wear_12 rfl (lv_at hl 1 rfl) ?_
        refine ti_get (ci := 10) (k := 39) (N := 67) (T := TX10) (v := .ref (A 60 40)) C hw iw_10 rfl ob_60 (by decide) (by decide) fl_X10_84 rfl rfl dX10_wear_13 ?_
        refine lv_bipush (v := 8) hx hb dX10_wear_16 (by decide) ?_
        refine lv_iload_n hx hb dX10_wear_18 rfl (lv_at hl 2 rfl) ?_
        refine lv_imul hx hb dX10_wear_19 ?_
        refine ti_top (y := 8) (by decide) ?_
        refine lv_iload_n hx hb dX10_wear_20 rfl (lv_at hl 0 rfl) ?_
        refine lv_iadd hx hb dX10_wear_21 ?_
        refine lv_topi (fun x_19 ex_19 => ?_)
        have tx_19 : x_19.toInt = 8 + x_1.toInt := i_add ex_19 (by decide : (8 : Int32).toInt = 8) rfl (by omega) (by omega)
        refine ti_iald (ci := 10) (k := 39) (n := 184) C hw ob_60 (by decide) (fun _ _ => rfl) (vp_in_iff.mpr (by omega)) dX10_wear_22 ?_
        refine lv_topi (fun x_20 ex_20 => ?_)
        have yx_20 : tY M_4 60 39 x_19.toNatClampNeg = x_20 := (ex_20.symm)
        have bx_20 : 0 ≤ x_20.toInt ∧ x_20.toInt ≤ 7 := mI_ry (k := 39) (i := x_19.toNatClampNeg) iM_4 yx_20.symm
        have wx_20 : tY M 60 39 x_19.toNatClampNeg = x_20 := ((cg f_5.2.2.2.1 x_19.toNatClampNeg)).symm.trans yx_20
        have L_21 : g_10 (96 + x_1.toInt.toNat) = x_20.toInt := (hs_11.2.1 (x_1.toInt.toNat) (by omega) (by omega)).trans (rd_k (n := 8 * 1 + x_1.toInt.toNat) (by omega) ((cg f_5.2.2.2.1 x_19.toNatClampNeg).trans wx_20))
        have A_22 : 0 ≤ rg (96 + x_1.toInt.toNat) ∧ rg (96 + x_1.toInt.toNat) < tx 4 ∧ rg (128 + (rg (96 + x_1.toInt.toNat)).toNat) = 1 := hwf.2.2.1 x_1.toInt.toNat (by omega)
        rw [← j_13 _ (by omega : 96 + x_1.toInt.toNat < 160), L_21] at A_22
        have stA_22 : g_10 (128 + x_20.toInt.toNat) = 1 := by rw [j_13 _ (by omega)]; exact A_22.2.2
        have w2A_22 : g_10 2 = rg 2 := j_13 2 (by decide)
        refine lv_istore (lv' := [(4, .int x_20), (3, .int x_1), (0, .ref (A 60 0)), (1, .int 1), (2, .int t)]) hx hb dX10_wear_23 hl (by decide) rfl (fun ls hl => ?_)
        refine lv_bipush (v := 8) hx hb dX10_wear_25 (by decide) ?_
        refine lv_iload_n hx hb dX10_wear_27 rfl (lv_at hl 3 rfl) ?_
        refine lv_imul hx hb dX10_wear_28 ?_
        refine ti_top (y := 8) (by decide) ?_
        refine lv_iload hx hb dX10_wear_29 (lv_at hl 0 rfl) ?_
        refine lv_iadd hx hb dX10_wear_31 ?_
        refine lv_topi (fun x_23 ex_23 => ?_)
        have tx_23 : x_23.toInt = 8 + x_20.toInt := i_add ex_23 (by decide : (8 : Int32).toInt = 8) rfl (by omega) (by omega)
        refine lv_istore (lv' := [(5, .int x_23), (4, .int x_20), (3, .int x_1), (0, .ref (A 60 0)), (1, .int 1), (2, .int t)]) hx hb dX10_wear_32 hl (by decide) rfl (fun ls hl => ?_)
        refine lv_aload_n hx hb dX10_wear_34 rfl (lv_at hl 3 rfl) ?_
        refine ti_get (ci := 10) (k := 47) (N := 67) (T := TX10) (v := .ref (A 60 48)) C hw iw_10 rfl ob_60 (by decide) (by decide) fl_X10_108 rfl rfl dX10_wear_35 ?_
        refine lv_iload hx hb dX10_wear_38 (lv_at hl 0 rfl) ?_
        refine ti_iald (ci := 10) (k := 47) (n := 184) C hw ob_60 (by decide) (fun _ _ => rfl) (vp_in_iff.mpr (by omega)) dX10_wear_40 ?_
        refine lv_topi (fun x_24 ex_24 => ?_)
        have yx_24 : tY M_4 60 47 x_23.toNatClampNeg = x_24 := (ex_24.symm)
        have L_25 : g_10 (240 + x_20.toInt.toNat) = x_24.toInt := ((hs_11.2.2.2.1 (x_20.toInt.toNat) (by omega)).2.2.2.2.2).trans (rd_k (n := 8 * 1 + x_20.toInt.toNat) (by omega) (yx_24))
        refine sb_if_le (tgt := 58) hx hb rfl dX10_wear_41 (by decide) (fun c_41_25 => ?_) (fun c_41_25 => ?_)
        · refine lv_iload_n hx hb dX10_wear_58 rfl (lv_at hl 2 rfl) ?_
          refine sb_if_le (tgt := 98) hx hb rfl dX10_wear_59 (by decide) (fun c_59_31 => ?_) (fun c_59_31 => ?_)
          · obtain ⟨x_55, ex_55⟩ : ∃ z : Int32, z = x_1 + 1 := ⟨_, rfl⟩
            have tx_55 : x_55.toInt = x_1.toInt + 1 := i_add ex_55 rfl (by decide) (by omega) (by omega)
            refine lv_iinc (v := x_55) (lv' := [(3, .int x_55), (5, .int x_23), (4, .int x_20), (0, .ref (A 60 0)), (1, .int 1), (2, .int t)]) hx hb dX10_wear_98 hl (k := 2) rfl (by rw [ex_55]; rfl) (by decide) rfl (fun ls hl => ?_)
            refine lv_goto (tgt := 2) hx hb dX10_wear_101 (by decide) ?_
            exact ih_15 x_55 M_4 g_10 _ _ _ (by omega) (by first | omega | decide) (by first | omega | decide) iM_4 f_5 ((f_6)) f_7 f_8 ((f_9)) hs_11 (by rw [← j_12, wf_go (tx := tx) (s := g_10) (p := x_1.toInt.toNat) (f := (g_10 3).toNat - x_1.toInt.toNat) (f' := (g_10 3).toNat - x_55.toInt.toNat) (by omega), show bq_w1 tx g_10 x_1.toInt.toNat = g_10 by (unfold bq_w1; rw [L_21, L_25, if_neg (by omega), if_neg (by omega)]), show x_55.toInt.toNat = x_1.toInt.toNat + 1 by omega]) j_13 ((j_13 : ∀ j : Nat, j < 160 → g_10 j = rg j) 3 (by decide)) hw (lv_sub hl [0, 3, 4, 5] rfl)
          · refine lv_aload_n hx hb dX10_wear_62 rfl (lv_at hl 3 rfl) ?_
            refine ti_get (ci := 10) (k := 53) (N := 67) (T := TX10) C hw iw_10 rfl ob_60 (by decide) (by decide) fl_X10_120 rfl rfl dX10_wear_63 ?_
            refine ti_top (y := (-1)) ((f_8 53 (by decide)).trans htw) ?_
            refine lv_iconst (v := 1) hx hb dX10_wear_66 (by decide) ?_
            refine sb_icmp_eq (tgt := 98) hx hb (by decide : ((-1) : Int32).toInt = (-1)) (by decide : (1 : Int32).toInt = 1) dX10_wear_67 (by decide) (fun h => absurd h (by decide)) (fun c_67_32 => ?_)
            refine lv_aload_n hx hb dX10_wear_70 rfl (lv_at hl 3 rfl) ?_
            refine lv_iload_n hx hb dX10_wear_71 rfl (lv_at hl 4 rfl) ?_
            refine lv_iload hx hb dX10_wear_72 (lv_at hl 1 rfl) ?_
            refine lv_iload_n hx hb dX10_wear_74 rfl (lv_at hl 2 rfl) ?_
            refine lv_iload_n hx hb dX10_wear_75 rfl (lv_at hl 5 rfl) ?_
            refine ti_callVv (ci := 10) (av := [.int 1, .int x_20, .int x_1, .int t]) C hw (z_X10_calls_1 l D A cy hJ M_4 iM_4 x_20 x_1 t (by first | omega | decide) (by first | omega | decide) tx g_10 (tR_lw htr (eR_lw (q := 1) f_7)) ht4 hs_11 (by omega) stA_22 (by omega)) ⟨ml_X10_363, ym_X10_calls, yv_X10_calls, yi_X10_calls, yc_X10_calls⟩ yd_X10_calls ob_60 (by decide) rfl rfl hl.1 (Nat.le_of_ble_eq_true rfl) ⟨by decide, by decide⟩ ⟨Nat.zero_le _, Nat.zero_le _⟩ dX10_wear_76 (fun M_35 H locs hp_35 hw => ?_)
            obtain ⟨n6_38, fi_39, iM_35, q_36, q_37⟩ := hp_35
            have hs_40 : qR (tx 4).toNat 1 g_10 M_35 := qR_of hs_11 q_37
            refine lv_aload_n hx hb dX10_wear_79 rfl (lv_at hl 3 rfl) ?_
            refine ti_get (ci := 10) (k := 41) (N := 67) (T := TX10) (v := .ref (A 60 42)) C hw iw_10 rfl ob_60 (by decide) (by decide) fl_X10_90 rfl rfl dX10_wear_80 ?_
            refine lv_iload hx hb dX10_wear_83 (lv_at hl 0 rfl) ?_
            refine lv_dup2_11 hx hb dX10_wear_85 rfl rfl ?_
            refine ti_iald (ci := 10) (k := 41) (n := 184) C hw ob_60 (by decide) (fun _ _ => rfl) (vp_in_iff.mpr (by omega)) dX10_wear_86 ?_
            refine lv_topi (fun x_41 ex_41 => ?_)
            have yx_41 : tY M_35 60 41 x_23.toNatClampNeg = x_41 := (ex_41.symm)
            have wx_41 : tY M_4 60 41 x_23.toNatClampNeg = x_41 := ((cg (tY_fr q_37) x_23.toNatClampNeg)).symm.trans yx_41
            have L_42 : g_10 (160 + x_20.toInt.toNat) = x_41.toInt := ((hs_40.2.2.2.1 (x_20.toInt.toNat) (by omega)).2.2.1).trans (rd_k (n := 8 * 1 + x_20.toInt.toNat) (by omega) ((cg (tY_fr q_37) x_23.toNatClampNeg).trans wx_41))
            refine lv_aload_n hx hb dX10_wear_87 rfl (lv_at hl 3 rfl) ?_
            refine lv_iconst (v := 1) hx hb dX10_wear_88 (by decide) ?_
            refine lv_iconst (v := 0) hx hb dX10_wear_89 (by decide) ?_
            refine lv_bipush (v := 9) hx hb dX10_wear_90 (by decide) ?_
            refine lv_iconst (v := 1) hx hb dX10_wear_92 (by decide) ?_
            refine ti_callVi (ci := 10) (av := [.int 1, .int 0, .int 9, .int 1]) C hw (z_X10_within l D A cy hJ M_35 iM_35 (mL_lw (lk.trans (lk_of q_36.1 q_36.2.1) (lk_of f_5.1 f_5.2.1)).1 hL) 1 (by first | omega | decide) (by first | omega | decide) 0 9 1 (bq_fa tx g_10 x_20.toInt x_1.toInt) tx (tR_lw htr (eR_lw (q := 1) (eR.trans (eR_fI fi_39 q_37) f_7))) n6_38 (by first | decide | omega)) ⟨ml_X10_367, ym_X10_within, yv_X10_within, yi_X10_within, yc_X10_within⟩ yd_X10_within ob_60 (by decide) rfl rfl hl.1 (Nat.le_of_ble_eq_true rfl) ⟨by decide, by decide⟩ ⟨Nat.zero_le _, Nat.zero_le _⟩ dX10_wear_93 (fun r_43 M_44 H locs hp_44 hw => ?_)
            obtain ⟨fi_48, pr_43, iM_44, q_46, q_47⟩ := hp_44
            have hs_49 : qR (tx 4).toNat 1 g_10 M_44 := qR_of hs_40 q_47
            try simp only [show (1 : Int32).toInt.toNat = 1 by decide] at pr_43
            try simp only [show (1 : Int32).toInt = 1 by decide] at pr_43
            try simp only [show (0 : Int32).toInt.toNat = 0 by decide] at pr_43
            try simp only [show (0 : Int32).toInt = 0 by decide] at pr_43
            try simp only [show (9 : Int32).toInt.toNat = 9 by decide] at pr_43
            try simp only [show (9 : Int32).toInt = 9 by decide] at pr_43
            try simp only [show (1 : Int32).toInt.toNat = 1 by decide] at pr_43
            try simp only [show (1 : Int32).toInt = 1 by decide] at pr_43
            have bpr_43 : 0 ≤ r_43.toInt ∧ r_43.toInt ≤ 9 := by rw [pr_43]; unfold bq_pt; (repeat' split) <;> omega
            refine lv_isub hx hb dX10_wear_96 ?_
            refine lv_topi (fun x_50 ex_50 => ?_)
            have tx_50 : x_50.toInt = bw (x_41.toInt - r_43.toInt) := bw_sub ex_50 rfl rfl
            refine ti_iast (ci := 10) (k := 41) (n := 184) C hw ob_60 (by decide) (fun _ _ => rfl) (vp_in_iff.mpr (by omega)) dX10_wear_97 (fun H locs hw => ?_)
            obtain ⟨M_51, hM_51⟩ : ∃ z : ti_M, z = uY M_44 60 41 (upd (tY M_44 60 41) (x_23 : Int32).toNatClampNeg x_50) := ⟨_, rfl⟩
            have hw := hw.to hM_51.symm
            have iM_51 : mI Tm M_51 := mI_up (i := x_23.toNatClampNeg) iM_44 hM_51 trivial
            have hs_52 : qR (tx 4).toNat 1 (pp_su g_10 (160 + x_20.toInt.toNat) x_50.toInt) M_51 := qR_41 (m := x_20.toInt.toNat) (z := x_23) hs_49 (by omega) rfl hM_51 (by omega) (by omega)
            obtain ⟨g_53, eg_53⟩ : ∃ z : Nat → Int, z = pp_su g_10 (160 + x_20.toInt.toNat) x_50.toInt := ⟨_, rfl⟩
            rw [← eg_53] at hs_52
            obtain ⟨x_56, ex_56⟩ : ∃ z : Int32, z = x_1 + 1 := ⟨_, rfl⟩
            have tx_56 : x_56.toInt = x_1.toInt + 1 := i_add ex_56 rfl (by decide) (by omega) (by omega)
            refine lv_iinc (v := x_56) (lv' := [(3, .int x_56), (5, .int x_23), (4, .int x_20), (0, .ref (A 60 0)), (1, .int 1), (2, .int t)]) hx hb dX10_wear_98 hl (k := 2) rfl (by rw [ex_56]; rfl) (by decide) rfl (fun ls hl => ?_)
            refine lv_goto (tgt := 2) hx hb dX10_wear_101 (by decide) ?_
            exact ih_15 x_56 M_51 g_53 _ _ _ (by omega) (by first | omega | decide) (by first | omega | decide) iM_51 (qw.trans (qw_Y hM_51 (by decide)) (qw.trans q_46 (qw.trans q_36 f_5))) (((tY_nE hM_51 (nk (by decide))).trans ((tY_fr q_47).trans ((tY_fr q_37).trans f_6)))) (eR.trans (eR_Y hM_51 (bk_m (z := x_23) (by omega) (by decide))) (eR.trans (eR_fI fi_48 q_47) (eR.trans (eR_fI fi_39 q_37) f_7))) (fI.trans (fI_Y hM_51) (fI.trans fi_48 (fI.trans fi_39 f_8))) (((tY_nE hM_51 (nk (by decide))).trans ((tY_fr q_47).trans ((tY_fr q_37).trans f_9)))) hs_52 (by rw [← j_12, wf_go (tx := tx) (s := g_10) (p := x_1.toInt.toNat) (f := (g_10 3).toNat - x_1.toInt.toNat) (f' := (g_10 3).toNat - x_56.toInt.toNat) (by omega), show bq_w1 tx g_10 x_1.toInt.toNat = g_53 by (unfold bq_w1; rw [L_21, L_25, if_neg (by omega), if_pos (by omega), show g_10 (160 + x_20.toInt.toNat) = x_41.toInt by omega, show ((x_1.toInt.toNat : Nat) : Int) = x_1.toInt by omega, show bq_lv tx g_10 1 (x_1.toInt) (x_1.toInt) = _ from lv_wv (x := x_20.toInt) (by unfold bq_ma; rw [if_pos (by omega)]; exact L_21) (by omega), ← pr_43, ← tx_50, ← eg_53]), show x_56.toInt.toNat = x_1.toInt.toNat + 1 by omega, show (g_53 3).toNat = (g_10 3).toNat by rw [eg_53, su_n (by omega)]]) (fun j hj => by rw [eg_53, su_n (by omega)]; exact j_13 j hj) (((fun j hj => by rw [eg_53, su_n (by omega)]; exact j_13 j hj) : ∀ j : Nat, j < 160 → g_53 j = rg j) 3 (by decide)) hw (lv_sub hl [0, 3, 4, 5] rfl)
        · refine lv_aload_n hx hb dX10_wear_44 rfl (lv_at hl 3 rfl) ?_
          refine ti_get (ci := 10) (k := 47) (N := 67) (T := TX10) (v := .ref (A 60 48)) C hw iw_10 rfl ob_60 (by decide) (by decide) fl_X10_108 rfl rfl dX10_wear_45 ?_
          refine lv_iload hx hb dX10_wear_48 (lv_at hl 0 rfl) ?_
          refine lv_dup2_11 hx hb dX10_wear_50 rfl rfl ?_
          refine ti_iald (ci := 10) (k := 47) (n := 184) C hw ob_60 (by decide) (fun _ _ => rfl) (vp_in_iff.mpr (by omega)) dX10_wear_51 ?_
          refine ti_top (y := x_24) ((yx_24)) ?_
          have L_27 : g_10 (240 + x_20.toInt.toNat) = x_24.toInt := ((hs_11.2.2.2.1 (x_20.toInt.toNat) (by omega)).2.2.2.2.2).trans (rd_k (n := 8 * 1 + x_20.toInt.toNat) (by omega) (yx_24))
          refine lv_iconst (v := 1) hx hb dX10_wear_52 (by decide) ?_
          refine lv_isub hx hb dX10_wear_53 ?_
          refine lv_topi (fun x_28 ex_28 => ?_)
          have lox_28x_24 := x_24.le_toInt
          have hix_28x_24 := x_24.toInt_lt
          have tx_28 : x_28.toInt = x_24.toInt - 1 := i_sub ex_28 rfl (by decide : (1 : Int32).toInt = 1) (by omega) (by omega)
          have tx_28 : x_28.toInt = bw (x_24.toInt - 1) := bw_sub ex_28 rfl (by decide : (1 : Int32).toInt = 1)
          refine ti_iast (ci := 10) (k := 47) (n := 184) C hw ob_60 (by decide) (fun _ _ => rfl) (vp_in_iff.mpr (by omega)) dX10_wear_54 (fun H locs hw => ?_)
          obtain ⟨M_29, hM_29⟩ : ∃ z : ti_M, z = uY M_4 60 47 (upd (tY M_4 60 47) (x_23 : Int32).toNatClampNeg x_28) := ⟨_, rfl⟩
          have hw := hw.to hM_29.symm
          have iM_29 : mI Tm M_29 := mI_up (i := x_23.toNatClampNeg) iM_4 hM_29 trivial
          have hs_30 : qR (tx 4).toNat 1 (pp_su g_10 (240 + x_20.toInt.toNat) x_28.toInt) M_29 := qR_47 (m := x_20.toInt.toNat) (z := x_23) hs_11 (by omega) rfl hM_29 (by omega) (by omega)
          obtain ⟨g_31, eg_31⟩ : ∃ z : Nat → Int, z = pp_su g_10 (240 + x_20.toInt.toNat) x_28.toInt := ⟨_, rfl⟩
          rw [← eg_31] at hs_30
          refine lv_goto (tgt := 98) hx hb dX10_wear_55 (by decide) ?_
          obtain ⟨x_54, ex_54⟩ : ∃ z : Int32, z = x_1 + 1 := ⟨_, rfl⟩
          have tx_54 : x_54.toInt = x_1.toInt + 1 := i_add ex_54 rfl (by decide) (by omega) (by omega)
          refine lv_iinc (v := x_54) (lv' := [(3, .int x_54), (5, .int x_23), (4, .int x_20), (0, .ref (A 60 0)), (1, .int 1), (2, .int t)]) hx hb dX10_wear_98 hl (k := 2) rfl (by rw [ex_54]; rfl) (by decide) rfl (fun ls hl => ?_)
          refine lv_goto (tgt := 2) hx hb dX10_wear_101 (by decide) ?_
          exact ih_15 x_54 M_29 g_31 _ _ _ (by omega) (by first | omega | decide) (by first | omega | decide) iM_29 (qw.trans (qw_Y hM_29 (by decide)) f_5) (((tY_nE hM_29 (nk (by decide))).trans f_6)) (eR.trans (eR_Y hM_29 (bk_m (z := x_23) (by omega) (by decide))) f_7) (fI.trans (fI_Y hM_29) f_8) (((tY_nE hM_29 (nk (by decide))).trans f_9)) hs_30 (by rw [← j_12, wf_go (tx := tx) (s := g_10) (p := x_1.toInt.toNat) (f := (g_10 3).toNat - x_1.toInt.toNat) (f' := (g_10 3).toNat - x_54.toInt.toNat) (by omega), show bq_w1 tx g_10 x_1.toInt.toNat = g_31 by (unfold bq_w1; rw [L_21, L_27, if_pos (by omega), show x_24.toInt - 1 = x_28.toInt by omega, ← eg_31]), show x_54.toInt.toNat = x_1.toInt.toNat + 1 by omega, show (g_31 3).toNat = (g_10 3).toNat by rw [eg_31, su_n (by omega)]]) (fun j hj => by rw [eg_31, su_n (by omega)]; exact j_13 j hj) (((fun j hj => by rw [eg_31, su_n (by omega)]; exact j_13 j hj) : ∀ j : Nat, j < 160 → g_31 j = rg j) 3 (by decide)) hw (lv_sub hl [0, 3, 4, 5] rfl)
  exact hl_2_14 ((8 - 0 : Int).toNat + 1) 0 M rg _ _ _ (Nat.lt_succ_self _) (by have lt0 : (0 : Int32).toInt = 0 := (by decide); first | omega | decide) (by have lt0 : (0 : Int32).toInt = 0 := (by decide); first | omega | decide) hI qw.refl rfl eR.refl fI.refl rfl hr (by show bq_wf tx ((rg 3).toNat - 0) 0 rg = _; rfl) (fun _ _ => rfl) rfl hw (lv_sub hl [0, 1, 2, 3] rfl)
end
section
variable {Tc : gC} {Tm : gM}
variable {Tc : gC} {Tm : gM}
theorem bt_clr {c x y w z : Int32} {k : Int} (ey : y = (1 : Int32) <<< (x &&& 31)) (hx : x.toInt = k) (h0 : 0 ≤ k) (h1 : k < 32) (ew : w = y ^^^ (-1)) (ez : z = c &&& w) (j : Nat) (hj : j < 32) : pp_bt z j = if j = k.toNat then 0 else pp_bt c j := by
  have hy := bt_x ey hx h0 h1
  have hz : z.toBitVec = c.toBitVec &&& (BitVec.twoPow 32 k.toNat ^^^ (-1 : Int32).toBitVec) := by rw [ez, Int32.toBitVec_and, ew, Int32.toBitVec_xor, hy]
  have hm : (-1 : Int32).toBitVec = BitVec.allOnes 32 := by decide
  unfold pp_bt
  rw [hz, hm, BitVec.getLsbD_and, BitVec.getLsbD_xor, BitVec.getLsbD_twoPow, BitVec.getLsbD_allOnes]
  by_cases q : j = k.toNat
  · subst q
    rw [if_pos rfl]
    simp [hj]
  · rw [if_neg q]
    have q2 : (k.toNat == j) = false := by simp; omega
    simp [q2, hj, Ne.symm q]
theorem q_joinR {M N : ti_M} {n q m i5 i8 i9 i0 : Nat} {s : Nat → Int} {v w o u : Int32} (h : qR n q s M) (hV : qV n q s M) (hn : n ≤ 8) (h3 : 0 ≤ s 3 ∧ s 3 < 8) (hm : m < n) (h0 : s (128 + m) = 0) (h38 : tY N 60 38 = upd (tY M 60 38) i8 v) (h39 : tY N 60 39 = upd (tY M 60 39) i9 w) (h40 : tY N 60 40 = upd (tY M 60 40) i0 o) (h45 : tY N 60 45 = upd (tY M 60 45) i5 u) (e8 : i8 = q) (hv : v.toInt = s 3 + 1) (e9 : (i9 : Int) = 8 * q + s 3) (hw : w.toInt = m) (e0 : i0 = 8 * q + m) (ho : o.toInt = 1) (e5 : i5 = 8 * q + m) (hu : u.toInt = s 2) (hk : ∀ k : Nat, k ≠ 38 → k ≠ 39 → k ≠ 40 → k ≠ 45 → tY N 60 k = tY M 60 k) : qR n q (bq_ap s m) N ∧ qV n q (bq_ap s m) N := by
  obtain ⟨a, b, c, d, f, g0⟩ := h
  obtain ⟨g, eg⟩ : ∃ g, g = bq_ap s m := ⟨_, rfl⟩
  rw [← eg]
  unfold bq_ap at eg
  rw [if_pos h3.2, show ((m : Int)).toNat = m by omega] at eg
  have g3 : g 3 = s 3 + 1 := by rw [eg, su_n (by omega), su_n (by omega), su_s]
  have gp : ∀ p : Nat, p < 8 → p ≠ (s 3).toNat → g (96 + p) = s (96 + p) := fun p hp hq => by rw [eg, su_n (by omega), su_n (by omega), su_n (by omega), su_n (by omega)]
  have gq : g (96 + (s 3).toNat) = m := by rw [eg, su_n (by omega), su_n (by omega), su_n (by omega), su_s]
  have gm : g (128 + m) = 1 := by rw [eg, su_n (by omega), su_s]
  have gs : ∀ j : Nat, j < 8 → j ≠ m → g (128 + j) = s (128 + j) := fun j hj hq => by rw [eg, su_n (by omega), su_n (by omega), su_n (by omega), su_n (by omega)]
  have gj : g (208 + m) = s 2 := by rw [eg, su_s]
  have gj2 : ∀ j : Nat, j < 8 → j ≠ m → g (208 + j) = s (208 + j) := fun j hj hq => by rw [eg, su_n (by omega), su_n (by omega), su_n (by omega), su_n (by omega)]
  have gk : ∀ k : Nat, k ≠ 3 → k < 96 ∨ (104 ≤ k ∧ k < 128) ∨ (136 ≤ k ∧ k < 208) ∨ 216 ≤ k → g k = s k := fun k hk hq => by rw [eg, su_n (by omega), su_n (by omega), su_n (by omega), su_n (by omega)]
  have o34 := hk 34 (by decide) (by decide) (by decide) (by decide)
  have o35 := hk 35 (by decide) (by decide) (by decide) (by decide)
  have o36 := hk 36 (by decide) (by decide) (by decide) (by decide)
  have o37 := hk 37 (by decide) (by decide) (by decide) (by decide)
  have o48 := hk 48 (by decide) (by decide) (by decide) (by decide)
  refine ⟨⟨⟨by rw [gk 2 (by decide) (by decide), o34]; exact a.1, by rw [g3, h38, e8, pk_us, hv], by rw [gk 4 (by decide) (by decide), o35]; exact a.2.2.1, by rw [gk 5 (by decide) (by decide), o36]; exact a.2.2.2⟩, fun p h1 h2 => ?_, fun j hj => by rw [gk (112 + j) (by omega) (by omega), hk 49 (by decide) (by decide) (by decide) (by decide)]; exact c j hj, fun m2 h2 => ?_, fun m2 h2 => ?_, ?_⟩, fun m2 h2 => ?_⟩
  · rw [g3] at h2
    by_cases r : p = (s 3).toNat
    · subst r; rw [gq, h39, show 8 * q + (s 3).toNat = i9 by omega, pk_us, hw]
    · rw [gp p h1 r, h39, pk_un (by omega)]; exact b p h1 (by omega)
  · have d2 := d m2 h2
    rw [gk (144 + m2) (by omega) (by omega), gk (160 + m2) (by omega) (by omega), gk (176 + m2) (by omega) (by omega), gk (192 + m2) (by omega) (by omega), gk (240 + m2) (by omega) (by omega), hk 44 (by decide) (by decide) (by decide) (by decide), hk 41 (by decide) (by decide) (by decide) (by decide), hk 42 (by decide) (by decide) (by decide) (by decide), hk 43 (by decide) (by decide) (by decide) (by decide), hk 47 (by decide) (by decide) (by decide) (by decide)]
    refine ⟨?_, d2.2⟩
    by_cases r : m2 = m
    · subst r; rw [gm, h40, e0, pk_us, ho]
    · rw [gs m2 (by omega) r, h40, pk_un (by omega)]; exact d2.1
  · have f2 := f m2 h2
    rw [gk (224 + m2) (by omega) (by omega), hk 46 (by decide) (by decide) (by decide) (by decide)]
    by_cases r : m2 = m
    · subst r; rw [gm, gj, h45, e5, pk_us]; exact ⟨fun _ => hu.symm, fun q2 => by omega⟩
    · rw [gs m2 (by omega) r, gj2 m2 (by omega) r, h45, pk_un (by omega)]; exact f2
  · rw [gk 1 (by decide) (by decide), o37]
    split at g0
    · rename_i z
      rw [if_pos z]
      intro m2 h2
      rw [gk (256 + m2) (by omega) (by omega)]; exact g0 m2 h2
    · rename_i z
      rw [if_neg z]; exact g0
  · have v2 := hV m2 h2
    rw [o48, v2, gk (224 + m2) (by omega) (by omega)]
    by_cases r : m2 = m
    · subst r; rw [gm, h0, if_neg (by decide), if_neg (by decide)]
    · rw [gs m2 (by omega) r]
theorem q_leaveR {M N : ti_M} {n q m pl i8 i0 i7 : Nat} {s : Nat → Int} {v ho t c1 zz : Int32} (h : qR n q s M) (hV : qV n q s M) (hn : n ≤ 8) (h3 : s 3 ≤ 8) (hp : (pl : Int) < s 3) (hm : m < n) (em : s (96 + pl) = m) (h1 : s (128 + m) = 1) (hho : 2 ≤ ho.toInt) (h38 : tY N 60 38 = upd (tY M 60 38) i8 v) (h39 : ∀ i : Nat, tY N 60 39 i = if 8 * q + pl ≤ i ∧ (i : Int) < 8 * q + (s 3 - 1) then tY M 60 39 (i + 1) else tY M 60 39 i) (h40 : tY N 60 40 = upd (tY M 60 40) i0 ho) (h46 : tY N 60 46 = upd (tY M 60 46) i0 t) (h47 : tY N 60 47 = upd (tY M 60 47) i0 zz) (h37 : tY N 60 37 = upd (tY M 60 37) i7 c1) (h48 : (ho.toInt = 2 ∧ tY N 60 48 = upd (tY M 60 48) i0 t) ∨ (ho.toInt ≠ 2 ∧ tY N 60 48 = tY M 60 48)) (e8 : i8 = q) (e7 : i7 = q) (hv : v.toInt = s 3 - 1) (e0 : i0 = 8 * q + m) (ht : t.toInt = s 2) (hz : zz.toInt = 0) (hc : ∀ j : Nat, j < 8 → pp_bt c1 j = if j = m then 0 else pp_bt (tY M 60 37 q) j) (hc0 : tY M 60 37 q = 0 → c1 = 0) (hk : ∀ k : Nat, k ≠ 37 → k ≠ 38 → k ≠ 39 → k ≠ 40 → k ≠ 46 → k ≠ 47 → k ≠ 48 → 34 ≤ k → k ≤ 49 → tY N 60 k = tY M 60 k) : qR n q (bq_rm s pl ho.toInt) N ∧ qV n q (bq_rm s pl ho.toInt) N := by
  obtain ⟨a, b, c, d, f, g0⟩ := h
  obtain ⟨g, eg⟩ : ∃ g, g = bq_rm s pl ho.toInt := ⟨_, rfl⟩
  rw [← eg]
  unfold bq_rm bq_r2 at eg
  rw [ma_at hp, em, if_neg (by omega), show ((m : Int)).toNat = m by omega] at eg
  have g3 : g 3 = s 3 - 1 := by rw [eg, su_n (by omega), su_n (by omega), su_n (by omega), su_n (by omega), sf_k (by decide), su_s]
  have gp : ∀ r : Nat, r < 8 → g (96 + r) = if pl ≤ r ∧ (r : Int) < s 3 - 1 then s (96 + r + 1) else s (96 + r) := fun r hr => by
    rw [eg, su_n (by omega), su_n (by omega), su_n (by omega), su_n (by omega), sf_at]
    by_cases z : pl ≤ r ∧ (r : Int) < s 3 - 1
    · rw [if_pos (by omega), if_pos z, su_n (by omega)]
    · rw [if_neg (by omega), if_neg z, su_n (by omega)]
  have gm : g (128 + m) = ho.toInt := by rw [eg, su_n (by omega), su_n (by omega), su_n (by omega), su_s]
  have gl : g (224 + m) = s 2 := by rw [eg, su_n (by omega), su_n (by omega), su_s]
  have gn : g (240 + m) = 0 := by rw [eg, su_n (by omega), su_s]
  have gc : g (256 + m) = 0 := by rw [eg, su_s]
  have gk : ∀ k : Nat, k ≠ 3 → k < 96 ∨ 104 ≤ k → k ≠ 128 + m → k ≠ 224 + m → k ≠ 240 + m → k ≠ 256 + m → g k = s k := fun k hk hq k1 k2 k3 k4 => by
    rw [eg, su_n k4, su_n k3, su_n k2, su_n k1, sf_at, if_neg (by omega), su_n hk]
  have K := fun k h1 h2 h3 h4 h5 h6 h7 => hk k h1 h2 h3 h4 h5 h6 h7
  refine ⟨⟨⟨by rw [gk 2 (by decide) (by decide) (by omega) (by omega) (by omega) (by omega), hk 34 (by decide) (by decide) (by decide) (by decide) (by decide) (by decide) (by decide) (by decide) (by decide)]; exact a.1, by rw [g3, h38, e8, pk_us, hv], by rw [gk 4 (by decide) (by decide) (by omega) (by omega) (by omega) (by omega), hk 35 (by decide) (by decide) (by decide) (by decide) (by decide) (by decide) (by decide) (by decide) (by decide)]; exact a.2.2.1, by rw [gk 5 (by decide) (by decide) (by omega) (by omega) (by omega) (by omega), hk 36 (by decide) (by decide) (by decide) (by decide) (by decide) (by decide) (by decide) (by decide) (by decide)]; exact a.2.2.2⟩, fun p x1 x2 => ?_, fun j hj => by rw [gk (112 + j) (by omega) (by omega) (by omega) (by omega) (by omega) (by omega), hk 49 (by decide) (by decide) (by decide) (by decide) (by decide) (by decide) (by decide) (by decide) (by decide)]; exact c j hj, fun m2 x2 => ?_, fun m2 x2 => ?_, ?_⟩, fun m2 x2 => ?_⟩
  · rw [g3] at x2
    rw [gp p x1, h39]
    by_cases z : pl ≤ p
    · rw [if_pos ⟨z, x2⟩, if_pos (by omega), show 8 * q + p + 1 = 8 * q + (p + 1) by omega]; exact b (p + 1) (by omega) (by omega)
    · rw [if_neg (by omega), if_neg (by omega)]; exact b p x1 (by omega)
  · have d2 := d m2 x2
    rw [gk (144 + m2) (by omega) (by omega) (by omega) (by omega) (by omega) (by omega), gk (160 + m2) (by omega) (by omega) (by omega) (by omega) (by omega) (by omega), gk (176 + m2) (by omega) (by omega) (by omega) (by omega) (by omega) (by omega), gk (192 + m2) (by omega) (by omega) (by omega) (by omega) (by omega) (by omega), hk 44 (by decide) (by decide) (by decide) (by decide) (by decide) (by decide) (by decide) (by decide) (by decide), hk 41 (by decide) (by decide) (by decide) (by decide) (by decide) (by decide) (by decide) (by decide) (by decide), hk 42 (by decide) (by decide) (by decide) (by decide) (by decide) (by decide) (by decide) (by decide) (by decide), hk 43 (by decide) (by decide) (by decide) (by decide) (by decide) (by decide) (by decide) (by decide) (by decide)]
    by_cases r : m2 = m
    · subst r; rw [gm, gn, h40, h47, e0, pk_us, pk_us, hz]; exact ⟨rfl, d2.2.1, d2.2.2.1, d2.2.2.2.1, d2.2.2.2.2.1, rfl⟩
    · rw [gk (128 + m2) (by omega) (by omega) (by omega) (by omega) (by omega) (by omega), gk (240 + m2) (by omega) (by omega) (by omega) (by omega) (by omega) (by omega), h40, h47, pk_un (by omega), pk_un (by omega)]; exact d2
  · have f2 := f m2 x2
    rw [gk (208 + m2) (by omega) (by omega) (by omega) (by omega) (by omega) (by omega), hk 45 (by decide) (by decide) (by decide) (by decide) (by decide) (by decide) (by decide) (by decide) (by decide)]
    by_cases r : m2 = m
    · subst r; rw [gm, gl, h46, e0, pk_us]; exact ⟨fun _ => f2.1 (by omega), fun _ => ht.symm⟩
    · rw [gk (128 + m2) (by omega) (by omega) (by omega) (by omega) (by omega) (by omega), gk (224 + m2) (by omega) (by omega) (by omega) (by omega) (by omega) (by omega), h46, pk_un (by omega)]; exact f2
  · rw [gk 1 (by decide) (by decide) (by omega) (by omega) (by omega) (by omega), h37, e7, pk_us]
    split at g0
    · rename_i z
      rw [if_pos z]
      intro m2 x2
      rw [hc m2 x2]
      by_cases r : m2 = m
      · subst r; rw [if_pos rfl, gc]
      · rw [if_neg r, gk (256 + m2) (by omega) (by omega) (by omega) (by omega) (by omega) (by omega)]; exact g0 m2 x2
    · rename_i z
      rw [if_neg z]; exact hc0 g0
  · have v2 := hV m2 x2
    by_cases r : m2 = m
    · subst r
      rw [h1, if_neg (by decide)] at v2
      rw [gm, gl]
      rcases h48 with ⟨w1, w2⟩ | ⟨w1, w2⟩
      · rw [if_pos w1, w2, e0, pk_us, ht]
      · rw [if_neg w1, w2, v2]
    · rw [gk (128 + m2) (by omega) (by omega) (by omega) (by omega) (by omega) (by omega), gk (224 + m2) (by omega) (by omega) (by omega) (by omega) (by omega) (by omega), ← v2]
      rcases h48 with ⟨w1, w2⟩ | ⟨w1, w2⟩
      · rw [w2, pk_un (by omega)]
      · rw [w2]
end
section
variable {Tc : gC} {Tm : gM}
variable {Tc : gC} {Tm : gM}
set_option maxHeartbeats 4000000 in
set_option maxRecDepth 100000 in
theorem z_X10_joins_0 (l : Launch) (D : va_G) (A : Nat → Nat → Nat) (cy : Nat → ClassId) (hJ : ti_inj ti_LM A) (M : ti_M) (hI : mI Tm M) (hC : mC M 0) (a t : Int32) (h1 : 0 ≤ a.toInt) (h2 : a.toInt ≤ 7) (h0 : ∀ i : Nat, (i : Int) = 0 + a.toInt → (tY M 60 40 i).toInt = 0) (tx rg : Nat → Int) (htr : tR tx M) (ht4 : 0 ≤ tx 4 ∧ tx 4 ≤ 8) (hr : qR (tx 4).toNat 0 rg M) (hV : qV (tx 4).toNat 0 rg M) (ha : a.toInt < tx 4) (hs0 : rg (128 + a.toInt.toNat) = 0) (hs3 : 0 ≤ rg 3 ∧ rg 3 < 8) (htm : t.toInt = rg 2) : ti_Kv l yX10_joins cX10_joins 4 0 ti_LM D A cy M [.ref (A 60 0), .int 0, .int a, .int t] (fun M2 => eR 0 M2 M ∧ qR (tx 4).toNat 0 (bq_ap rg a.toInt) M2 ∧ qV (tx 4).toNat 0 (bq_ap rg a.toInt) M2 ∧ mI Tm M2 ∧ rq 0 M2 M ∧ mC M2 0 ∧ tY M2 60 34 = tY M 60 34 ∧ zc (tY M2 60 40) 0 < zc (tY M 60 40) 0) := by
  refine ti_eV yp_X10_joins hJ ti_LM_nd (Nat.le_of_ble_eq_true rfl) ?_
  intro p e s m args below meth c Q H0 C hQ hw ls hl
  have hx := C.1
  have hb := C.2.1
  have hl : lv_has ls 4 [(0, .ref (A 60 0)), (1, .int 0), (2, .int a), (3, .int t)] := hl
  have m7 := mC_7 (i := (0 + a.toInt).toNat) hC (h0 _ (by omega)) (by omega) (by omega)
  have l3 := hr.1.2.1
  refine lv_aload_n hx hb dX10_joins_0 rfl (lv_at hl 0 rfl) ?_
  refine ti_get (ci := 10) (k := 39) (N := 67) (T := TX10) (v := .ref (A 60 40)) C hw iw_10 rfl ob_60 (by decide) (by decide) fl_X10_84 rfl rfl dX10_joins_1 ?_
  refine lv_bipush (v := 8) hx hb dX10_joins_4 (by decide) ?_
  refine lv_iload_n hx hb dX10_joins_6 rfl (lv_at hl 1 rfl) ?_
  refine lv_imul hx hb dX10_joins_7 ?_
  refine ti_top (y := 0) (by decide) ?_
  refine lv_aload_n hx hb dX10_joins_8 rfl (lv_at hl 0 rfl) ?_
  refine ti_get (ci := 10) (k := 38) (N := 67) (T := TX10) (v := .ref (A 60 39)) C hw iw_10 rfl ob_60 (by decide) (by decide) fl_X10_81 rfl rfl dX10_joins_9 ?_
  refine lv_iload_n hx hb dX10_joins_12 rfl (lv_at hl 1 rfl) ?_
  refine ti_iald (ci := 10) (k := 38) (n := 23) C hw ob_60 (by decide) (fun _ _ => rfl) (by unfold vp_in; decide) dX10_joins_13 ?_
  refine lv_topi (fun x_1 ex_1 => ?_)
  have yx_1 : tY M 60 38 0 = x_1 := ((congrArg _ (by decide)).symm.trans ex_1.symm)
  have bx_1 : 0 ≤ x_1.toInt ∧ x_1.toInt ≤ 8 := mI_ry (k := 38) (i := 0) hI yx_1.symm
  have zx_1 : (tY M 60 38 0).toInt = x_1.toInt := by rw [yx_1]
  refine lv_iadd hx hb dX10_joins_14 ?_
  refine lv_topi (fun x_2 ex_2 => ?_)
  have tx_2 : x_2.toInt = 0 + x_1.toInt := i_add ex_2 (by decide : (0 : Int32).toInt = 0) rfl (by omega) (by omega)
  refine lv_iload_n hx hb dX10_joins_15 rfl (lv_at hl 2 rfl) ?_
  refine ti_iast (ci := 10) (k := 39) (n := 184) C hw ob_60 (by decide) (fun _ _ => rfl) (vp_in_iff.mpr (by omega)) dX10_joins_16 (fun H locs hw => ?_)
  obtain ⟨M_3, hM_3⟩ : ∃ z : ti_M, z = uY M 60 39 (upd (tY M 60 39) (x_2 : Int32).toNatClampNeg a) := ⟨_, rfl⟩
  have hw := hw.to hM_3.symm
  have iM_3 : mI Tm M_3 := mI_up (i := x_2.toNatClampNeg) hI hM_3 (ib_mk (lo := 0) (hi := 7) (by omega) (by omega))
  refine lv_aload_n hx hb dX10_joins_17 rfl (lv_at hl 0 rfl) ?_
  refine ti_get (ci := 10) (k := 38) (N := 67) (T := TX10) (v := .ref (A 60 39)) C hw iw_10 rfl ob_60 (by decide) (by decide) fl_X10_81 rfl rfl dX10_joins_18 ?_
  refine lv_iload_n hx hb dX10_joins_21 rfl (lv_at hl 1 rfl) ?_
  refine lv_dup2_11 hx hb dX10_joins_22 rfl rfl ?_
  refine ti_iald (ci := 10) (k := 38) (n := 23) C hw ob_60 (by decide) (fun _ _ => rfl) (by unfold vp_in; decide) dX10_joins_23 ?_
  refine ti_top (y := x_1) ((congrArg _ (by decide)).trans ((cg (tY_nE hM_3 (nk (by decide))) 0).trans yx_1)) ?_
  refine lv_iconst (v := 1) hx hb dX10_joins_24 (by decide) ?_
  refine lv_iadd hx hb dX10_joins_25 ?_
  refine lv_topi (fun x_4 ex_4 => ?_)
  have tx_4 : x_4.toInt = x_1.toInt + 1 := i_add ex_4 rfl (by decide : (1 : Int32).toInt = 1) (by omega) (by omega)
  refine ti_iast (ci := 10) (k := 38) (n := 23) C hw ob_60 (by decide) (fun _ _ => rfl) (by unfold vp_in; decide) dX10_joins_26 (fun H locs hw => ?_)
  obtain ⟨M_5, hM_5⟩ : ∃ z : ti_M, z = uY M_3 60 38 (upd (tY M_3 60 38) (0 : Int32).toNatClampNeg x_4) := ⟨_, rfl⟩
  have hw := hw.to hM_5.symm
  have iM_5 : mI Tm M_5 := mI_up (i := 0) iM_3 hM_5 (ib_mk (lo := 0) (hi := 8) (by omega) (by omega))
  refine lv_aload_n hx hb dX10_joins_27 rfl (lv_at hl 0 rfl) ?_
  refine ti_get (ci := 10) (k := 40) (N := 67) (T := TX10) (v := .ref (A 60 41)) C hw iw_10 rfl ob_60 (by decide) (by decide) fl_X10_87 rfl rfl dX10_joins_28 ?_
  refine lv_bipush (v := 8) hx hb dX10_joins_31 (by decide) ?_
  refine lv_iload_n hx hb dX10_joins_33 rfl (lv_at hl 1 rfl) ?_
  refine lv_imul hx hb dX10_joins_34 ?_
  refine ti_top (y := 0) (by decide) ?_
  refine lv_iload_n hx hb dX10_joins_35 rfl (lv_at hl 2 rfl) ?_
  refine lv_iadd hx hb dX10_joins_36 ?_
  refine lv_topi (fun x_6 ex_6 => ?_)
  have tx_6 : x_6.toInt = 0 + a.toInt := i_add ex_6 (by decide : (0 : Int32).toInt = 0) rfl (by omega) (by omega)
  refine lv_iconst (v := 1) hx hb dX10_joins_37 (by decide) ?_
  refine ti_iast (ci := 10) (k := 40) (n := 184) C hw ob_60 (by decide) (fun _ _ => rfl) (vp_in_iff.mpr (by omega)) dX10_joins_38 (fun H locs hw => ?_)
  obtain ⟨M_7, hM_7⟩ : ∃ z : ti_M, z = uY M_5 60 40 (upd (tY M_5 60 40) (x_6 : Int32).toNatClampNeg 1) := ⟨_, rfl⟩
  have hw := hw.to hM_7.symm
  have iM_7 : mI Tm M_7 := mI_up (i := x_6.toNatClampNeg) iM_5 hM_7 trivial
  refine lv_aload_n hx hb dX10_joins_39 rfl (lv_at hl 0 rfl) ?_
  refine ti_get (ci := 10) (k := 45) (N := 67) (T := TX10) (v := .ref (A 60 46)) C hw iw_10 rfl ob_60 (by decide) (by decide) fl_X10_102 rfl rfl dX10_joins_40 ?_
  refine lv_bipush (v := 8) hx hb dX10_joins_43 (by decide) ?_
  refine lv_iload_n hx hb dX10_joins_45 rfl (lv_at hl 1 rfl) ?_
  refine lv_imul hx hb dX10_joins_46 ?_
  refine ti_top (y := 0) (by decide) ?_
  refine lv_iload_n hx hb dX10_joins_47 rfl (lv_at hl 2 rfl) ?_
  refine lv_iadd hx hb dX10_joins_48 ?_
  refine lv_topi (fun x_8 ex_8 => ?_)
  have tx_8 : x_8.toInt = 0 + a.toInt := i_add ex_8 (by decide : (0 : Int32).toInt = 0) rfl (by omega) (by omega)
  refine lv_iload_n hx hb dX10_joins_49 rfl (lv_at hl 3 rfl) ?_
  refine ti_iast (ci := 10) (k := 45) (n := 184) C hw ob_60 (by decide) (fun _ _ => rfl) (vp_in_iff.mpr (by omega)) dX10_joins_50 (fun H locs hw => ?_)
  obtain ⟨M_9, hM_9⟩ : ∃ z : ti_M, z = uY M_7 60 45 (upd (tY M_7 60 45) (x_8 : Int32).toNatClampNeg t) := ⟨_, rfl⟩
  have hw := hw.to hM_9.symm
  have iM_9 : mI Tm M_9 := mI_up (i := x_8.toNatClampNeg) iM_7 hM_9 trivial
  have jj := q_join (mn := a.toInt.toNat) hI hC (by rw [tY_nE (o2 := 60) (k2 := 38) hM_9 (nk (by decide)), tY_nE (o2 := 60) (k2 := 38) hM_7 (nk (by decide)), tY_uE hM_5, tY_nE (o2 := 60) (k2 := 38) hM_3 (nk (by decide))] : tY M_9 60 38 = upd (tY M 60 38) (0 : Int32).toNatClampNeg x_4) (by rw [tY_nE (o2 := 60) (k2 := 39) hM_9 (nk (by decide)), tY_nE (o2 := 60) (k2 := 39) hM_7 (nk (by decide)), tY_nE (o2 := 60) (k2 := 39) hM_5 (nk (by decide)), tY_uE hM_3] : tY M_9 60 39 = upd (tY M 60 39) (x_2 : Int32).toNatClampNeg a) (by rw [tY_nE (o2 := 60) (k2 := 40) hM_9 (nk (by decide)), tY_uE hM_7, tY_nE (o2 := 60) (k2 := 40) hM_5 (nk (by decide)), tY_nE (o2 := 60) (k2 := 40) hM_3 (nk (by decide))] : tY M_9 60 40 = upd (tY M 60 40) (x_6 : Int32).toNatClampNeg 1) (lk.trans (lk_Y hM_9 (by decide)) (lk.trans (lk_Y hM_7 (by decide)) (lk.trans (lk_Y hM_5 (by decide)) (lk_Y hM_3 (by decide))))) (by decide) (by omega) (by show ((x_2.toInt.toNat : Nat) : Int) = _; omega) (by omega) (by show x_6.toInt.toNat = _; omega) (by omega) (by decide) (h0 _ (by show ((x_6.toInt.toNat : Nat) : Int) = _; omega))
  have JJ := q_joinR (m := a.toInt.toNat) hr hV (by omega) hs3 (by omega) hs0 (by rw [tY_nE (o2 := 60) (k2 := 38) hM_9 (nk (by decide)), tY_nE (o2 := 60) (k2 := 38) hM_7 (nk (by decide)), tY_uE hM_5, tY_nE (o2 := 60) (k2 := 38) hM_3 (nk (by decide))] : tY M_9 60 38 = upd (tY M 60 38) (0 : Int32).toNatClampNeg x_4) (by rw [tY_nE (o2 := 60) (k2 := 39) hM_9 (nk (by decide)), tY_nE (o2 := 60) (k2 := 39) hM_7 (nk (by decide)), tY_nE (o2 := 60) (k2 := 39) hM_5 (nk (by decide)), tY_uE hM_3] : tY M_9 60 39 = upd (tY M 60 39) (x_2 : Int32).toNatClampNeg a) (by rw [tY_nE (o2 := 60) (k2 := 40) hM_9 (nk (by decide)), tY_uE hM_7, tY_nE (o2 := 60) (k2 := 40) hM_5 (nk (by decide)), tY_nE (o2 := 60) (k2 := 40) hM_3 (nk (by decide))] : tY M_9 60 40 = upd (tY M 60 40) (x_6 : Int32).toNatClampNeg 1) (by rw [tY_uE hM_9, tY_nE (o2 := 60) (k2 := 45) hM_7 (nk (by decide)), tY_nE (o2 := 60) (k2 := 45) hM_5 (nk (by decide)), tY_nE (o2 := 60) (k2 := 45) hM_3 (nk (by decide))] : tY M_9 60 45 = upd (tY M 60 45) (x_8 : Int32).toNatClampNeg t) (by decide) (by omega) (by show ((x_2.toInt.toNat : Nat) : Int) = _; omega) (by omega) (by show x_6.toInt.toNat = _; omega) (by decide) (by show x_8.toInt.toNat = _; omega) (by omega) (fun k k38 k39 k40 k45 => ((tY_nE hM_9 (nk k45)).trans ((tY_nE hM_7 (nk k40)).trans ((tY_nE hM_5 (nk k38)).trans (tY_nE hM_3 (nk k39))))))
  rw [show ((a.toInt.toNat : Nat) : Int) = a.toInt by omega] at JJ
  exact hQ _ _ _ _ _ hw (⟨(eR.trans (eR_Y hM_9 (bk_m (z := x_8) (by omega) (by decide))) (eR.trans (eR_Y hM_7 (bk_m (z := x_6) (by omega) (by decide))) (eR.trans (eR_Y hM_5 (bk_q (z := 0) (by decide) (by decide))) (eR_Y hM_3 (bk_m (z := x_2) (by omega) (by decide)))))), JJ.1, JJ.2, iM_9, jj.1, jj.2.1, (((tY_nE hM_9 (nk (by decide))).trans ((tY_nE hM_7 (nk (by decide))).trans ((tY_nE hM_5 (nk (by decide))).trans (tY_nE hM_3 (nk (by decide))))))), jj.2.2⟩) dX10_joins_51
set_option maxHeartbeats 4000000 in
set_option maxRecDepth 100000 in
theorem z_X10_joins_1 (l : Launch) (D : va_G) (A : Nat → Nat → Nat) (cy : Nat → ClassId) (hJ : ti_inj ti_LM A) (M : ti_M) (hI : mI Tm M) (hC : mC M 1) (a t : Int32) (h1 : 0 ≤ a.toInt) (h2 : a.toInt ≤ 7) (h0 : ∀ i : Nat, (i : Int) = 8 + a.toInt → (tY M 60 40 i).toInt = 0) (tx rg : Nat → Int) (htr : tR tx M) (ht4 : 0 ≤ tx 4 ∧ tx 4 ≤ 8) (hr : qR (tx 4).toNat 1 rg M) (hV : qV (tx 4).toNat 1 rg M) (ha : a.toInt < tx 4) (hs0 : rg (128 + a.toInt.toNat) = 0) (hs3 : 0 ≤ rg 3 ∧ rg 3 < 8) (htm : t.toInt = rg 2) : ti_Kv l yX10_joins cX10_joins 4 0 ti_LM D A cy M [.ref (A 60 0), .int 1, .int a, .int t] (fun M2 => eR 1 M2 M ∧ qR (tx 4).toNat 1 (bq_ap rg a.toInt) M2 ∧ qV (tx 4).toNat 1 (bq_ap rg a.toInt) M2 ∧ mI Tm M2 ∧ rq 1 M2 M ∧ mC M2 1 ∧ tY M2 60 34 = tY M 60 34 ∧ zc (tY M2 60 40) 8 < zc (tY M 60 40) 8) := by
  refine ti_eV yp_X10_joins hJ ti_LM_nd (Nat.le_of_ble_eq_true rfl) ?_
  intro p e s m args below meth c Q H0 C hQ hw ls hl
  have hx := C.1
  have hb := C.2.1
  have hl : lv_has ls 4 [(0, .ref (A 60 0)), (1, .int 1), (2, .int a), (3, .int t)] := hl
  have m7 := mC_7 (i := (8 + a.toInt).toNat) hC (h0 _ (by omega)) (by omega) (by omega)
  have l3 := hr.1.2.1
  refine lv_aload_n hx hb dX10_joins_0 rfl (lv_at hl 0 rfl) ?_
  refine ti_get (ci := 10) (k := 39) (N := 67) (T := TX10) (v := .ref (A 60 40)) C hw iw_10 rfl ob_60 (by decide) (by decide) fl_X10_84 rfl rfl dX10_joins_1 ?_
  refine lv_bipush (v := 8) hx hb dX10_joins_4 (by decide) ?_
  refine lv_iload_n hx hb dX10_joins_6 rfl (lv_at hl 1 rfl) ?_
  refine lv_imul hx hb dX10_joins_7 ?_
  refine ti_top (y := 8) (by decide) ?_
  refine lv_aload_n hx hb dX10_joins_8 rfl (lv_at hl 0 rfl) ?_
  refine ti_get (ci := 10) (k := 38) (N := 67) (T := TX10) (v := .ref (A 60 39)) C hw iw_10 rfl ob_60 (by decide) (by decide) fl_X10_81 rfl rfl dX10_joins_9 ?_
  refine lv_iload_n hx hb dX10_joins_12 rfl (lv_at hl 1 rfl) ?_
  refine ti_iald (ci := 10) (k := 38) (n := 23) C hw ob_60 (by decide) (fun _ _ => rfl) (by unfold vp_in; decide) dX10_joins_13 ?_
  refine lv_topi (fun x_1 ex_1 => ?_)
  have yx_1 : tY M 60 38 1 = x_1 := ((congrArg _ (by decide)).symm.trans ex_1.symm)
  have bx_1 : 0 ≤ x_1.toInt ∧ x_1.toInt ≤ 8 := mI_ry (k := 38) (i := 1) hI yx_1.symm
  have zx_1 : (tY M 60 38 1).toInt = x_1.toInt := by rw [yx_1]
  refine lv_iadd hx hb dX10_joins_14 ?_
  refine lv_topi (fun x_2 ex_2 => ?_)
  have tx_2 : x_2.toInt = 8 + x_1.toInt := i_add ex_2 (by decide : (8 : Int32).toInt = 8) rfl (by omega) (by omega)
  refine lv_iload_n hx hb dX10_joins_15 rfl (lv_at hl 2 rfl) ?_
  refine ti_iast (ci := 10) (k := 39) (n := 184) C hw ob_60 (by decide) (fun _ _ => rfl) (vp_in_iff.mpr (by omega)) dX10_joins_16 (fun H locs hw => ?_)
  obtain ⟨M_3, hM_3⟩ : ∃ z : ti_M, z = uY M 60 39 (upd (tY M 60 39) (x_2 : Int32).toNatClampNeg a) := ⟨_, rfl⟩
  have hw := hw.to hM_3.symm
  have iM_3 : mI Tm M_3 := mI_up (i := x_2.toNatClampNeg) hI hM_3 (ib_mk (lo := 0) (hi := 7) (by omega) (by omega))
  refine lv_aload_n hx hb dX10_joins_17 rfl (lv_at hl 0 rfl) ?_
  refine ti_get (ci := 10) (k := 38) (N := 67) (T := TX10) (v := .ref (A 60 39)) C hw iw_10 rfl ob_60 (by decide) (by decide) fl_X10_81 rfl rfl dX10_joins_18 ?_
  refine lv_iload_n hx hb dX10_joins_21 rfl (lv_at hl 1 rfl) ?_
  refine lv_dup2_11 hx hb dX10_joins_22 rfl rfl ?_
  refine ti_iald (ci := 10) (k := 38) (n := 23) C hw ob_60 (by decide) (fun _ _ => rfl) (by unfold vp_in; decide) dX10_joins_23 ?_
  refine ti_top (y := x_1) ((congrArg _ (by decide)).trans ((cg (tY_nE hM_3 (nk (by decide))) 1).trans yx_1)) ?_
  refine lv_iconst (v := 1) hx hb dX10_joins_24 (by decide) ?_
  refine lv_iadd hx hb dX10_joins_25 ?_
  refine lv_topi (fun x_4 ex_4 => ?_)
  have tx_4 : x_4.toInt = x_1.toInt + 1 := i_add ex_4 rfl (by decide : (1 : Int32).toInt = 1) (by omega) (by omega)
  refine ti_iast (ci := 10) (k := 38) (n := 23) C hw ob_60 (by decide) (fun _ _ => rfl) (by unfold vp_in; decide) dX10_joins_26 (fun H locs hw => ?_)
  obtain ⟨M_5, hM_5⟩ : ∃ z : ti_M, z = uY M_3 60 38 (upd (tY M_3 60 38) (1 : Int32).toNatClampNeg x_4) := ⟨_, rfl⟩
  have hw := hw.to hM_5.symm
  have iM_5 : mI Tm M_5 := mI_up (i := 1) iM_3 hM_5 (ib_mk (lo := 0) (hi := 8) (by omega) (by omega))
  refine lv_aload_n hx hb dX10_joins_27 rfl (lv_at hl 0 rfl) ?_
  refine ti_get (ci := 10) (k := 40) (N := 67) (T := TX10) (v := .ref (A 60 41)) C hw iw_10 rfl ob_60 (by decide) (by decide) fl_X10_87 rfl rfl dX10_joins_28 ?_
  refine lv_bipush (v := 8) hx hb dX10_joins_31 (by decide) ?_
  refine lv_iload_n hx hb dX10_joins_33 rfl (lv_at hl 1 rfl) ?_
  refine lv_imul hx hb dX10_joins_34 ?_
  refine ti_top (y := 8) (by decide) ?_
  refine lv_iload_n hx hb dX10_joins_35 rfl (lv_at hl 2 rfl) ?_
  refine lv_iadd hx hb dX10_joins_36 ?_
  refine lv_topi (fun x_6 ex_6 => ?_)
  have tx_6 : x_6.toInt = 8 + a.toInt := i_add ex_6 (by decide : (8 : Int32).toInt = 8) rfl (by omega) (by omega)
  refine lv_iconst (v := 1) hx hb dX10_joins_37 (by decide) ?_
  refine ti_iast (ci := 10) (k := 40) (n := 184) C hw ob_60 (by decide) (fun _ _ => rfl) (vp_in_iff.mpr (by omega)) dX10_joins_38 (fun H locs hw => ?_)
  obtain ⟨M_7, hM_7⟩ : ∃ z : ti_M, z = uY M_5 60 40 (upd (tY M_5 60 40) (x_6 : Int32).toNatClampNeg 1) := ⟨_, rfl⟩
  have hw := hw.to hM_7.symm
  have iM_7 : mI Tm M_7 := mI_up (i := x_6.toNatClampNeg) iM_5 hM_7 trivial
  refine lv_aload_n hx hb dX10_joins_39 rfl (lv_at hl 0 rfl) ?_
  refine ti_get (ci := 10) (k := 45) (N := 67) (T := TX10) (v := .ref (A 60 46)) C hw iw_10 rfl ob_60 (by decide) (by decide) fl_X10_102 rfl rfl dX10_joins_40 ?_
  refine lv_bipush (v := 8) hx hb dX10_joins_43 (by decide) ?_
  refine lv_iload_n hx hb dX10_joins_45 rfl (lv_at hl 1 rfl) ?_
  refine lv_imul hx hb dX10_joins_46 ?_
  refine ti_top (y := 8) (by decide) ?_
  refine lv_iload_n hx hb dX10_joins_47 rfl (lv_at hl 2 rfl) ?_
  refine lv_iadd hx hb dX10_joins_48 ?_
  refine lv_topi (fun x_8 ex_8 => ?_)
  have tx_8 : x_8.toInt = 8 + a.toInt := i_add ex_8 (by decide : (8 : Int32).toInt = 8) rfl (by omega) (by omega)
  refine lv_iload_n hx hb dX10_joins_49 rfl (lv_at hl 3 rfl) ?_
  refine ti_iast (ci := 10) (k := 45) (n := 184) C hw ob_60 (by decide) (fun _ _ => rfl) (vp_in_iff.mpr (by omega)) dX10_joins_50 (fun H locs hw => ?_)
  obtain ⟨M_9, hM_9⟩ : ∃ z : ti_M, z = uY M_7 60 45 (upd (tY M_7 60 45) (x_8 : Int32).toNatClampNeg t) := ⟨_, rfl⟩
  have hw := hw.to hM_9.symm
  have iM_9 : mI Tm M_9 := mI_up (i := x_8.toNatClampNeg) iM_7 hM_9 trivial
  have jj := q_join (mn := a.toInt.toNat) hI hC (by rw [tY_nE (o2 := 60) (k2 := 38) hM_9 (nk (by decide)), tY_nE (o2 := 60) (k2 := 38) hM_7 (nk (by decide)), tY_uE hM_5, tY_nE (o2 := 60) (k2 := 38) hM_3 (nk (by decide))] : tY M_9 60 38 = upd (tY M 60 38) (1 : Int32).toNatClampNeg x_4) (by rw [tY_nE (o2 := 60) (k2 := 39) hM_9 (nk (by decide)), tY_nE (o2 := 60) (k2 := 39) hM_7 (nk (by decide)), tY_nE (o2 := 60) (k2 := 39) hM_5 (nk (by decide)), tY_uE hM_3] : tY M_9 60 39 = upd (tY M 60 39) (x_2 : Int32).toNatClampNeg a) (by rw [tY_nE (o2 := 60) (k2 := 40) hM_9 (nk (by decide)), tY_uE hM_7, tY_nE (o2 := 60) (k2 := 40) hM_5 (nk (by decide)), tY_nE (o2 := 60) (k2 := 40) hM_3 (nk (by decide))] : tY M_9 60 40 = upd (tY M 60 40) (x_6 : Int32).toNatClampNeg 1) (lk.trans (lk_Y hM_9 (by decide)) (lk.trans (lk_Y hM_7 (by decide)) (lk.trans (lk_Y hM_5 (by decide)) (lk_Y hM_3 (by decide))))) (by decide) (by omega) (by show ((x_2.toInt.toNat : Nat) : Int) = _; omega) (by omega) (by show x_6.toInt.toNat = _; omega) (by omega) (by decide) (h0 _ (by show ((x_6.toInt.toNat : Nat) : Int) = _; omega))
  have JJ := q_joinR (m := a.toInt.toNat) hr hV (by omega) hs3 (by omega) hs0 (by rw [tY_nE (o2 := 60) (k2 := 38) hM_9 (nk (by decide)), tY_nE (o2 := 60) (k2 := 38) hM_7 (nk (by decide)), tY_uE hM_5, tY_nE (o2 := 60) (k2 := 38) hM_3 (nk (by decide))] : tY M_9 60 38 = upd (tY M 60 38) (1 : Int32).toNatClampNeg x_4) (by rw [tY_nE (o2 := 60) (k2 := 39) hM_9 (nk (by decide)), tY_nE (o2 := 60) (k2 := 39) hM_7 (nk (by decide)), tY_nE (o2 := 60) (k2 := 39) hM_5 (nk (by decide)), tY_uE hM_3] : tY M_9 60 39 = upd (tY M 60 39) (x_2 : Int32).toNatClampNeg a) (by rw [tY_nE (o2 := 60) (k2 := 40) hM_9 (nk (by decide)), tY_uE hM_7, tY_nE (o2 := 60) (k2 := 40) hM_5 (nk (by decide)), tY_nE (o2 := 60) (k2 := 40) hM_3 (nk (by decide))] : tY M_9 60 40 = upd (tY M 60 40) (x_6 : Int32).toNatClampNeg 1) (by rw [tY_uE hM_9, tY_nE (o2 := 60) (k2 := 45) hM_7 (nk (by decide)), tY_nE (o2 := 60) (k2 := 45) hM_5 (nk (by decide)), tY_nE (o2 := 60) (k2 := 45) hM_3 (nk (by decide))] : tY M_9 60 45 = upd (tY M 60 45) (x_8 : Int32).toNatClampNeg t) (by decide) (by omega) (by show ((x_2.toInt.toNat : Nat) : Int) = _; omega) (by omega) (by show x_6.toInt.toNat = _; omega) (by decide) (by show x_8.toInt.toNat = _; omega) (by omega) (fun k k38 k39 k40 k45 => ((tY_nE hM_9 (nk k45)).trans ((tY_nE hM_7 (nk k40)).trans ((tY_nE hM_5 (nk k38)).trans (tY_nE hM_3 (nk k39))))))
  rw [show ((a.toInt.toNat : Nat) : Int) = a.toInt by omega] at JJ
  exact hQ _ _ _ _ _ hw (⟨(eR.trans (eR_Y hM_9 (bk_m (z := x_8) (by omega) (by decide))) (eR.trans (eR_Y hM_7 (bk_m (z := x_6) (by omega) (by decide))) (eR.trans (eR_Y hM_5 (bk_q (z := 1) (by decide) (by decide))) (eR_Y hM_3 (bk_m (z := x_2) (by omega) (by decide)))))), JJ.1, JJ.2, iM_9, jj.1, jj.2.1, (((tY_nE hM_9 (nk (by decide))).trans ((tY_nE hM_7 (nk (by decide))).trans ((tY_nE hM_5 (nk (by decide))).trans (tY_nE hM_3 (nk (by decide))))))), jj.2.2⟩) dX10_joins_51
set_option maxHeartbeats 4000000 in
set_option maxRecDepth 100000 in
theorem z_X10_leaves_0 (l : Launch) (D : va_G) (A : Nat → Nat → Nat) (cy : Nat → ClassId) (hJ : ti_inj ti_LM A) (M : ti_M) (hI : mI Tm M) (hC : mC M 0) (pl ho t : Int32) (h1 : 0 ≤ pl.toInt) (h2 : pl.toInt < (tY M 60 38 0).toInt) (h3 : 2 ≤ ho.toInt) (tx rg : Nat → Int) (htr : tR tx M) (ht4 : 0 ≤ tx 4 ∧ tx 4 ≤ 8) (hr : qR (tx 4).toNat 0 rg M) (hV : qV (tx 4).toNat 0 rg M) (hwf : wF tx rg) (htm : t.toInt = rg 2) : ti_Kv l yX10_leaves cX10_leaves 8 0 ti_LM D A cy M [.ref (A 60 0), .int 0, .int pl, .int ho, .int t] (fun M2 => eR 0 M2 M ∧ qR (tx 4).toNat 0 (bq_rm rg pl.toInt ho.toInt) M2 ∧ qV (tx 4).toNat 0 (bq_rm rg pl.toInt ho.toInt) M2 ∧ mI Tm M2 ∧ rq 0 M2 M ∧ mC M2 0 ∧ tY M2 60 34 = tY M 60 34 ∧ (tY M2 60 38 0).toInt = (tY M 60 38 0).toInt - 1) := by
  refine ti_eV yp_X10_leaves hJ ti_LM_nd (Nat.le_of_ble_eq_true rfl) ?_
  intro p e s m args below meth c Q H0 C hQ hw ls hl
  have hx := C.1
  have hb := C.2.1
  have hl : lv_has ls 8 [(0, .ref (A 60 0)), (1, .int 0), (2, .int pl), (3, .int ho), (4, .int t)] := hl
  have h7 : 0 ≤ (tY M 60 38 0).toInt ∧ (tY M 60 38 0).toInt ≤ 8 := hI.2.1 38 _
  have l3 := hr.1.2.1
  have AP := hwf.2.2.1 pl.toInt.toNat (by omega)
  have w8 := wF_8 hwf
  have hq9 := hr.2.1 pl.toInt.toNat (by omega) (by omega)
  refine lv_aload_n hx hb dX10_leaves_0 rfl (lv_at hl 0 rfl) ?_
  refine ti_get (ci := 10) (k := 39) (N := 67) (T := TX10) (v := .ref (A 60 40)) C hw iw_10 rfl ob_60 (by decide) (by decide) fl_X10_84 rfl rfl dX10_leaves_1 ?_
  refine lv_bipush (v := 8) hx hb dX10_leaves_4 (by decide) ?_
  refine lv_iload_n hx hb dX10_leaves_6 rfl (lv_at hl 1 rfl) ?_
  refine lv_imul hx hb dX10_leaves_7 ?_
  refine ti_top (y := 0) (by decide) ?_
  refine lv_iload_n hx hb dX10_leaves_8 rfl (lv_at hl 2 rfl) ?_
  refine lv_iadd hx hb dX10_leaves_9 ?_
  refine lv_topi (fun x_1 ex_1 => ?_)
  have tx_1 : x_1.toInt = 0 + pl.toInt := i_add ex_1 (by decide : (0 : Int32).toInt = 0) rfl (by omega) (by omega)
  refine ti_iald (ci := 10) (k := 39) (n := 184) C hw ob_60 (by decide) (fun _ _ => rfl) (vp_in_iff.mpr (by omega)) dX10_leaves_10 ?_
  refine lv_topi (fun x_2 ex_2 => ?_)
  have yx_2 : tY M 60 39 x_1.toNatClampNeg = x_2 := (ex_2.symm)
  have bx_2 : 0 ≤ x_2.toInt ∧ x_2.toInt ≤ 7 := mI_ry (k := 39) (i := x_1.toNatClampNeg) hI yx_2.symm
  refine lv_istore (lv' := [(5, .int x_2), (0, .ref (A 60 0)), (1, .int 0), (2, .int pl), (3, .int ho), (4, .int t)]) hx hb dX10_leaves_11 hl (by decide) rfl (fun ls hl => ?_)
  refine lv_bipush (v := 8) hx hb dX10_leaves_13 (by decide) ?_
  refine lv_iload_n hx hb dX10_leaves_15 rfl (lv_at hl 2 rfl) ?_
  refine lv_imul hx hb dX10_leaves_16 ?_
  refine ti_top (y := 0) (by decide) ?_
  refine lv_iload hx hb dX10_leaves_17 (lv_at hl 0 rfl) ?_
  refine lv_iadd hx hb dX10_leaves_19 ?_
  refine lv_topi (fun x_3 ex_3 => ?_)
  have tx_3 : x_3.toInt = 0 + x_2.toInt := i_add ex_3 (by decide : (0 : Int32).toInt = 0) rfl (by omega) (by omega)
  refine lv_istore (lv' := [(6, .int x_3), (5, .int x_2), (0, .ref (A 60 0)), (1, .int 0), (2, .int pl), (3, .int ho), (4, .int t)]) hx hb dX10_leaves_20 hl (by decide) rfl (fun ls hl => ?_)
  refine lv_iload_n hx hb dX10_leaves_22 rfl (lv_at hl 4 rfl) ?_
  refine lv_istore (lv' := [(7, .int pl), (6, .int x_3), (5, .int x_2), (0, .ref (A 60 0)), (1, .int 0), (2, .int pl), (3, .int ho), (4, .int t)]) hx hb dX10_leaves_23 hl (by decide) rfl (fun ls hl => ?_)
  have hl_25_28 : ∀ (n_29 : Nat) (x_4 : Int32) (M_7 : ti_M) (H : Heap) (locs : List Loc) (ls : Array Slot), (8 - x_4.toInt : Int).toNat < n_29 → (0 ≤ x_4.toInt) → (x_4.toInt ≤ 7) → (mI Tm M_7) → (lk M_7 M) → (tY M_7 60 38 = tY M 60 38) → (tY M_7 60 40 = tY M 60 40) → (tY M_7 60 34 = tY M 60 34) → (eR 0 M_7 M) → (fI M_7 M) → (tY M_7 60 35 = tY M 60 35) → (tY M_7 60 36 = tY M 60 36) → (tY M_7 60 37 = tY M 60 37) → (tY M_7 60 41 = tY M 60 41) → (tY M_7 60 42 = tY M 60 42) → (tY M_7 60 43 = tY M 60 43) → (tY M_7 60 44 = tY M 60 44) → (tY M_7 60 45 = tY M 60 45) → (tY M_7 60 46 = tY M 60 46) → (tY M_7 60 47 = tY M 60 47) → (tY M_7 60 48 = tY M 60 48) → (tY M_7 60 49 = tY M 60 49) → (pl.toInt ≤ x_4.toInt) → (x_4.toInt < (tY M 60 38 0).toInt) → (sh M M_7 0 pl.toInt.toNat x_4.toInt) → ti_H ti_LM D A cy H0 M_7 H locs → lv_has ls 8 [(7, .int x_4), (6, .int x_3), (5, .int x_2), (0, .ref (A 60 0)), (1, .int 0), (2, .int pl), (3, .int ho), (4, .int t)] → W p l e (ti_rm 0) s m args below meth c H locs 0 0 Q (F0 m 25 ls []) := by
    intro n_29
    induction n_29 with
    | zero => intro x_4 M_7 H locs ls hf_29; exact absurd hf_29 (Nat.not_lt_zero _)
    | succ n_29 ih_29 =>
      intro x_4 M_7 H locs ls hf_29 b_5 b_6 iM_7 f_8 f_9 f_10 f_11 f_12 f_13 f_14 f_15 f_16 f_17 f_18 f_19 f_20 f_21 f_22 f_23 f_24 f_25 j_26 j_27 j_28 hw hl
      refine lv_iload hx hb dX10_leaves_25 (lv_at hl 0 rfl) ?_
      refine lv_iconst (v := 1) hx hb dX10_leaves_27 (by decide) ?_
      refine lv_iadd hx hb dX10_leaves_28 ?_
      refine lv_topi (fun x_30 ex_30 => ?_)
      have tx_30 : x_30.toInt = x_4.toInt + 1 := i_add ex_30 rfl (by decide : (1 : Int32).toInt = 1) (by omega) (by omega)
      refine lv_aload_n hx hb dX10_leaves_29 rfl (lv_at hl 3 rfl) ?_
      refine ti_get (ci := 10) (k := 38) (N := 67) (T := TX10) (v := .ref (A 60 39)) C hw iw_10 rfl ob_60 (by decide) (by decide) fl_X10_81 rfl rfl dX10_leaves_30 ?_
      refine lv_iload_n hx hb dX10_leaves_33 rfl (lv_at hl 4 rfl) ?_
      refine ti_iald (ci := 10) (k := 38) (n := 23) C hw ob_60 (by decide) (fun _ _ => rfl) (by unfold vp_in; decide) dX10_leaves_34 ?_
      refine lv_topi (fun x_31 ex_31 => ?_)
      have yx_31 : tY M_7 60 38 0 = x_31 := ((congrArg _ (by decide)).symm.trans ex_31.symm)
      have bx_31 : 0 ≤ x_31.toInt ∧ x_31.toInt ≤ 8 := mI_ry (k := 38) (i := 0) iM_7 yx_31.symm
      have zx_31 : (tY M_7 60 38 0).toInt = x_31.toInt := by rw [yx_31]
      have wx_31 : tY M 60 38 0 = x_31 := ((cg f_9 0)).symm.trans yx_31
      have zwx_31 : (tY M 60 38 0).toInt = x_31.toInt := by rw [wx_31]
      refine sb_icmp_ge (tgt := 70) hx hb rfl rfl dX10_leaves_35 (by decide) (fun c_35_31 => ?_) (fun c_35_31 => ?_)
      · refine lv_aload_n hx hb dX10_leaves_70 rfl (lv_at hl 3 rfl) ?_
        refine ti_get (ci := 10) (k := 38) (N := 67) (T := TX10) (v := .ref (A 60 39)) C hw iw_10 rfl ob_60 (by decide) (by decide) fl_X10_81 rfl rfl dX10_leaves_71 ?_
        refine lv_iload_n hx hb dX10_leaves_74 rfl (lv_at hl 4 rfl) ?_
        refine lv_dup2_11 hx hb dX10_leaves_75 rfl rfl ?_
        refine ti_iald (ci := 10) (k := 38) (n := 23) C hw ob_60 (by decide) (fun _ _ => rfl) (by unfold vp_in; decide) dX10_leaves_76 ?_
        refine ti_top (y := x_31) ((congrArg _ (by decide)).trans ((cg f_9 0).trans wx_31)) ?_
        refine lv_iconst (v := 1) hx hb dX10_leaves_77 (by decide) ?_
        refine lv_isub hx hb dX10_leaves_78 ?_
        refine lv_topi (fun x_39 ex_39 => ?_)
        have tx_39 : x_39.toInt = x_31.toInt - 1 := i_sub ex_39 rfl (by decide : (1 : Int32).toInt = 1) (by omega) (by omega)
        refine ti_iast (ci := 10) (k := 38) (n := 23) C hw ob_60 (by decide) (fun _ _ => rfl) (by unfold vp_in; decide) dX10_leaves_79 (fun H locs hw => ?_)
        obtain ⟨M_40, hM_40⟩ : ∃ z : ti_M, z = uY M_7 60 38 (upd (tY M_7 60 38) (0 : Int32).toNatClampNeg x_39) := ⟨_, rfl⟩
        have hw := hw.to hM_40.symm
        have iM_40 : mI Tm M_40 := mI_up (i := 0) iM_7 hM_40 (ib_mk (lo := 0) (hi := 8) (by omega) (by omega))
        refine lv_aload_n hx hb dX10_leaves_80 rfl (lv_at hl 3 rfl) ?_
        refine ti_get (ci := 10) (k := 40) (N := 67) (T := TX10) (v := .ref (A 60 41)) C hw iw_10 rfl ob_60 (by decide) (by decide) fl_X10_87 rfl rfl dX10_leaves_81 ?_
        refine lv_iload hx hb dX10_leaves_84 (lv_at hl 1 rfl) ?_
        refine lv_iload_n hx hb dX10_leaves_86 rfl (lv_at hl 6 rfl) ?_
        refine ti_iast (ci := 10) (k := 40) (n := 184) C hw ob_60 (by decide) (fun _ _ => rfl) (vp_in_iff.mpr (by omega)) dX10_leaves_87 (fun H locs hw => ?_)
        obtain ⟨M_41, hM_41⟩ : ∃ z : ti_M, z = uY M_40 60 40 (upd (tY M_40 60 40) (x_3 : Int32).toNatClampNeg ho) := ⟨_, rfl⟩
        have hw := hw.to hM_41.symm
        have iM_41 : mI Tm M_41 := mI_up (i := x_3.toNatClampNeg) iM_40 hM_41 trivial
        refine lv_aload_n hx hb dX10_leaves_88 rfl (lv_at hl 3 rfl) ?_
        refine ti_get (ci := 10) (k := 46) (N := 67) (T := TX10) (v := .ref (A 60 47)) C hw iw_10 rfl ob_60 (by decide) (by decide) fl_X10_105 rfl rfl dX10_leaves_89 ?_
        refine lv_iload hx hb dX10_leaves_92 (lv_at hl 1 rfl) ?_
        refine lv_iload hx hb dX10_leaves_94 (lv_at hl 7 rfl) ?_
        refine ti_iast (ci := 10) (k := 46) (n := 184) C hw ob_60 (by decide) (fun _ _ => rfl) (vp_in_iff.mpr (by omega)) dX10_leaves_96 (fun H locs hw => ?_)
        obtain ⟨M_42, hM_42⟩ : ∃ z : ti_M, z = uY M_41 60 46 (upd (tY M_41 60 46) (x_3 : Int32).toNatClampNeg t) := ⟨_, rfl⟩
        have hw := hw.to hM_42.symm
        have iM_42 : mI Tm M_42 := mI_up (i := x_3.toNatClampNeg) iM_41 hM_42 trivial
        refine lv_aload_n hx hb dX10_leaves_97 rfl (lv_at hl 3 rfl) ?_
        refine ti_get (ci := 10) (k := 47) (N := 67) (T := TX10) (v := .ref (A 60 48)) C hw iw_10 rfl ob_60 (by decide) (by decide) fl_X10_108 rfl rfl dX10_leaves_98 ?_
        refine lv_iload hx hb dX10_leaves_101 (lv_at hl 1 rfl) ?_
        refine lv_iconst (v := 0) hx hb dX10_leaves_103 (by decide) ?_
        refine ti_iast (ci := 10) (k := 47) (n := 184) C hw ob_60 (by decide) (fun _ _ => rfl) (vp_in_iff.mpr (by omega)) dX10_leaves_104 (fun H locs hw => ?_)
        obtain ⟨M_43, hM_43⟩ : ∃ z : ti_M, z = uY M_42 60 47 (upd (tY M_42 60 47) (x_3 : Int32).toNatClampNeg 0) := ⟨_, rfl⟩
        have hw := hw.to hM_43.symm
        have iM_43 : mI Tm M_43 := mI_up (i := x_3.toNatClampNeg) iM_42 hM_43 trivial
        refine lv_aload_n hx hb dX10_leaves_105 rfl (lv_at hl 3 rfl) ?_
        refine ti_get (ci := 10) (k := 37) (N := 67) (T := TX10) (v := .ref (A 60 38)) C hw iw_10 rfl ob_60 (by decide) (by decide) fl_X10_78 rfl rfl dX10_leaves_106 ?_
        refine lv_iload_n hx hb dX10_leaves_109 rfl (lv_at hl 4 rfl) ?_
        refine lv_dup2_11 hx hb dX10_leaves_110 rfl rfl ?_
        refine ti_iald (ci := 10) (k := 37) (n := 23) C hw ob_60 (by decide) (fun _ _ => rfl) (by unfold vp_in; decide) dX10_leaves_111 ?_
        refine lv_topi (fun x_44 ex_44 => ?_)
        have yx_44 : tY M_43 60 37 0 = x_44 := ((congrArg _ (by decide)).symm.trans ex_44.symm)
        have wx_44 : tY M 60 37 0 = x_44 := (((cg (tY_nE hM_43 (nk (by decide))) 0).trans ((cg (tY_nE hM_42 (nk (by decide))) 0).trans ((cg (tY_nE hM_41 (nk (by decide))) 0).trans ((cg (tY_nE hM_40 (nk (by decide))) 0).trans (cg f_16 0)))))).symm.trans yx_44
        refine lv_iconst (v := 1) hx hb dX10_leaves_112 (by decide) ?_
        refine lv_iload hx hb dX10_leaves_113 (lv_at hl 2 rfl) ?_
        refine lv_ishl hx hb dX10_leaves_115 ?_
        refine lv_topi (fun x_45 ex_45 => ?_)
        refine lv_iconst (v := (-1)) hx hb dX10_leaves_116 (by decide) ?_
        refine lv_ixor hx hb dX10_leaves_117 ?_
        refine lv_topi (fun x_46 ex_46 => ?_)
        refine lv_iand hx hb dX10_leaves_118 ?_
        refine lv_topi (fun x_47 ex_47 => ?_)
        refine ti_iast (ci := 10) (k := 37) (n := 23) C hw ob_60 (by decide) (fun _ _ => rfl) (by unfold vp_in; decide) dX10_leaves_119 (fun H locs hw => ?_)
        obtain ⟨M_48, hM_48⟩ : ∃ z : ti_M, z = uY M_43 60 37 (upd (tY M_43 60 37) (0 : Int32).toNatClampNeg x_47) := ⟨_, rfl⟩
        have hw := hw.to hM_48.symm
        have iM_48 : mI Tm M_48 := mI_up (i := 0) iM_43 hM_48 trivial
        refine lv_iload_n hx hb dX10_leaves_120 rfl (lv_at hl 6 rfl) ?_
        refine lv_iconst (v := 2) hx hb dX10_leaves_121 (by decide) ?_
        refine sb_icmp_ne (tgt := 134) hx hb rfl (by decide : (2 : Int32).toInt = 2) dX10_leaves_122 (by decide) (fun c_122_48 => ?_) (fun c_122_48 => ?_)
        · have n9 : x_1.toNatClampNeg = 8 * 0 + pl.toInt.toNat := by show (x_1).toInt.toNat = _; omega
          have k9 : (tY M 60 39 (8 * 0 + pl.toInt.toNat)).toInt = x_2.toInt := by rw [← n9, (yx_2)]
          have jj := q_leave (q := 0) (pl := pl.toInt.toNat) (p := x_4.toInt) hI hC (by rw [tY_nE (o2 := 60) (k2 := 38) hM_48 (nk (by decide)), tY_nE (o2 := 60) (k2 := 38) hM_43 (nk (by decide)), tY_nE (o2 := 60) (k2 := 38) hM_42 (nk (by decide)), tY_nE (o2 := 60) (k2 := 38) hM_41 (nk (by decide)), tY_uE hM_40, (f_9 : tY M_7 60 38 = tY M 60 38)] : tY M_48 60 38 = upd (tY M 60 38) (0 : Int32).toNatClampNeg x_39) (fun i => (cg (by rw [tY_nE (o2 := 60) (k2 := 39) hM_48 (nk (by decide)), tY_nE (o2 := 60) (k2 := 39) hM_43 (nk (by decide)), tY_nE (o2 := 60) (k2 := 39) hM_42 (nk (by decide)), tY_nE (o2 := 60) (k2 := 39) hM_41 (nk (by decide)), tY_nE (o2 := 60) (k2 := 39) hM_40 (nk (by decide))] : tY M_48 60 39 = tY M_7 60 39) i).trans (j_28 i)) (by rw [tY_nE (o2 := 60) (k2 := 40) hM_48 (nk (by decide)), tY_nE (o2 := 60) (k2 := 40) hM_43 (nk (by decide)), tY_nE (o2 := 60) (k2 := 40) hM_42 (nk (by decide)), tY_uE hM_41, tY_nE (o2 := 60) (k2 := 40) hM_40 (nk (by decide)), (f_10 : tY M_7 60 40 = tY M 60 40)] : tY M_48 60 40 = upd (tY M 60 40) (x_3 : Int32).toNatClampNeg ho) (lk.trans (lk_Y hM_48 (by decide)) (lk.trans (lk_Y hM_43 (by decide)) (lk.trans (lk_Y hM_42 (by decide)) (lk.trans (lk_Y hM_41 (by decide)) (lk.trans (lk_Y hM_40 (by decide)) f_8))))) (by decide) (by omega) (by omega) (by omega) (by show ((x_3.toInt.toNat : Nat) : Int) = _; omega) h3
          have h39 : ∀ i : Nat, tY M_48 60 39 i = if 8 * 0 + pl.toInt.toNat ≤ i ∧ (i : Int) < 8 * ((0 : Nat) : Int) + (rg 3 - 1) then tY M 60 39 (i + 1) else tY M 60 39 i := fun i => by
            have q9 := (cg (by rw [tY_nE (o2 := 60) (k2 := 39) hM_48 (nk (by decide)), tY_nE (o2 := 60) (k2 := 39) hM_43 (nk (by decide)), tY_nE (o2 := 60) (k2 := 39) hM_42 (nk (by decide)), tY_nE (o2 := 60) (k2 := 39) hM_41 (nk (by decide)), tY_nE (o2 := 60) (k2 := 39) hM_40 (nk (by decide))] : tY M_48 60 39 = tY M_7 60 39) i).trans (j_28 i)
            rw [q9]
            by_cases c9 : 8 * 0 + pl.toInt.toNat ≤ i ∧ (i : Int) < 8 * ((0 : Nat) : Int) + (rg 3 - 1)
            · rw [if_pos c9, if_pos (by omega)]
            · rw [if_neg c9, if_neg (by omega)]
          have LL := q_leaveR (m := x_2.toInt.toNat) (pl := pl.toInt.toNat) hr hV (by omega) (by omega) (by omega) (by omega) (by omega) (by rw [show x_2.toInt.toNat = (rg (96 + pl.toInt.toNat)).toNat by omega]; exact AP.2.2) h3 (by rw [tY_nE (o2 := 60) (k2 := 38) hM_48 (nk (by decide)), tY_nE (o2 := 60) (k2 := 38) hM_43 (nk (by decide)), tY_nE (o2 := 60) (k2 := 38) hM_42 (nk (by decide)), tY_nE (o2 := 60) (k2 := 38) hM_41 (nk (by decide)), tY_uE hM_40, (f_9 : tY M_7 60 38 = tY M 60 38)] : tY M_48 60 38 = upd (tY M 60 38) (0 : Int32).toNatClampNeg x_39) h39 (by rw [tY_nE (o2 := 60) (k2 := 40) hM_48 (nk (by decide)), tY_nE (o2 := 60) (k2 := 40) hM_43 (nk (by decide)), tY_nE (o2 := 60) (k2 := 40) hM_42 (nk (by decide)), tY_uE hM_41, tY_nE (o2 := 60) (k2 := 40) hM_40 (nk (by decide)), (f_10 : tY M_7 60 40 = tY M 60 40)] : tY M_48 60 40 = upd (tY M 60 40) (x_3 : Int32).toNatClampNeg ho) (by rw [tY_nE (o2 := 60) (k2 := 46) hM_48 (nk (by decide)), tY_nE (o2 := 60) (k2 := 46) hM_43 (nk (by decide)), tY_uE hM_42, tY_nE (o2 := 60) (k2 := 46) hM_41 (nk (by decide)), tY_nE (o2 := 60) (k2 := 46) hM_40 (nk (by decide)), (f_22 : tY M_7 60 46 = tY M 60 46)] : tY M_48 60 46 = upd (tY M 60 46) (x_3 : Int32).toNatClampNeg t) (by rw [tY_nE (o2 := 60) (k2 := 47) hM_48 (nk (by decide)), tY_uE hM_43, tY_nE (o2 := 60) (k2 := 47) hM_42 (nk (by decide)), tY_nE (o2 := 60) (k2 := 47) hM_41 (nk (by decide)), tY_nE (o2 := 60) (k2 := 47) hM_40 (nk (by decide)), (f_23 : tY M_7 60 47 = tY M 60 47)] : tY M_48 60 47 = upd (tY M 60 47) (x_3 : Int32).toNatClampNeg 0) (by rw [tY_uE hM_48, tY_nE (o2 := 60) (k2 := 37) hM_43 (nk (by decide)), tY_nE (o2 := 60) (k2 := 37) hM_42 (nk (by decide)), tY_nE (o2 := 60) (k2 := 37) hM_41 (nk (by decide)), tY_nE (o2 := 60) (k2 := 37) hM_40 (nk (by decide)), (f_16 : tY M_7 60 37 = tY M 60 37)] : tY M_48 60 37 = upd (tY M 60 37) (0 : Int32).toNatClampNeg x_47) (Or.inr ⟨by omega, (((tY_nE hM_48 (nk (by decide))).trans ((tY_nE hM_43 (nk (by decide))).trans ((tY_nE hM_42 (nk (by decide))).trans ((tY_nE hM_41 (nk (by decide))).trans ((tY_nE hM_40 (nk (by decide))).trans f_24))))))⟩) (by decide) (by decide) (by omega) (by show x_3.toInt.toNat = _; omega) (by omega) (by decide) (fun j hj => by rw [bt_clr (k := x_2.toInt) ex_45 rfl (by omega) (by omega) ex_46 ex_47 j (by omega), (wx_44)]) (fun h => by rw [ex_47, ← (wx_44), h]; simp) (fun k k37 k38 k39 k40 k46 k47 k48 k34 k49 => by rcases (show k = 34 ∨ k = 35 ∨ k = 36 ∨ k = 41 ∨ k = 42 ∨ k = 43 ∨ k = 44 ∨ k = 45 ∨ k = 49 by omega) with rfl | rfl | rfl | rfl | rfl | rfl | rfl | rfl | rfl <;> first | exact (((tY_nE hM_48 (nk (by decide))).trans ((tY_nE hM_43 (nk (by decide))).trans ((tY_nE hM_42 (nk (by decide))).trans ((tY_nE hM_41 (nk (by decide))).trans ((tY_nE hM_40 (nk (by decide))).trans f_11)))))) | exact (((tY_nE hM_48 (nk (by decide))).trans ((tY_nE hM_43 (nk (by decide))).trans ((tY_nE hM_42 (nk (by decide))).trans ((tY_nE hM_41 (nk (by decide))).trans ((tY_nE hM_40 (nk (by decide))).trans f_14)))))) | exact (((tY_nE hM_48 (nk (by decide))).trans ((tY_nE hM_43 (nk (by decide))).trans ((tY_nE hM_42 (nk (by decide))).trans ((tY_nE hM_41 (nk (by decide))).trans ((tY_nE hM_40 (nk (by decide))).trans f_15)))))) | exact (((tY_nE hM_48 (nk (by decide))).trans ((tY_nE hM_43 (nk (by decide))).trans ((tY_nE hM_42 (nk (by decide))).trans ((tY_nE hM_41 (nk (by decide))).trans ((tY_nE hM_40 (nk (by decide))).trans f_17)))))) | exact (((tY_nE hM_48 (nk (by decide))).trans ((tY_nE hM_43 (nk (by decide))).trans ((tY_nE hM_42 (nk (by decide))).trans ((tY_nE hM_41 (nk (by decide))).trans ((tY_nE hM_40 (nk (by decide))).trans f_18)))))) | exact (((tY_nE hM_48 (nk (by decide))).trans ((tY_nE hM_43 (nk (by decide))).trans ((tY_nE hM_42 (nk (by decide))).trans ((tY_nE hM_41 (nk (by decide))).trans ((tY_nE hM_40 (nk (by decide))).trans f_19)))))) | exact (((tY_nE hM_48 (nk (by decide))).trans ((tY_nE hM_43 (nk (by decide))).trans ((tY_nE hM_42 (nk (by decide))).trans ((tY_nE hM_41 (nk (by decide))).trans ((tY_nE hM_40 (nk (by decide))).trans f_20)))))) | exact (((tY_nE hM_48 (nk (by decide))).trans ((tY_nE hM_43 (nk (by decide))).trans ((tY_nE hM_42 (nk (by decide))).trans ((tY_nE hM_41 (nk (by decide))).trans ((tY_nE hM_40 (nk (by decide))).trans f_21)))))) | exact (((tY_nE hM_48 (nk (by decide))).trans ((tY_nE hM_43 (nk (by decide))).trans ((tY_nE hM_42 (nk (by decide))).trans ((tY_nE hM_41 (nk (by decide))).trans ((tY_nE hM_40 (nk (by decide))).trans f_25)))))))
          rw [show ((pl.toInt.toNat : Nat) : Int) = pl.toInt by omega] at LL
          exact hQ _ _ _ _ _ hw (⟨(eR.trans (eR_Y hM_48 (bk_q (z := 0) (by decide) (by decide))) (eR.trans (eR_Y hM_43 (bk_m (z := x_3) (by omega) (by decide))) (eR.trans (eR_Y hM_42 (bk_m (z := x_3) (by omega) (by decide))) (eR.trans (eR_Y hM_41 (bk_m (z := x_3) (by omega) (by decide))) (eR.trans (eR_Y hM_40 (bk_q (z := 0) (by decide) (by decide))) f_12))))), LL.1, LL.2, iM_48, jj.1, jj.2.1, (((tY_nE hM_48 (nk (by decide))).trans ((tY_nE hM_43 (nk (by decide))).trans ((tY_nE hM_42 (nk (by decide))).trans ((tY_nE hM_41 (nk (by decide))).trans ((tY_nE hM_40 (nk (by decide))).trans f_11)))))), jj.2.2⟩) dX10_leaves_134
        · refine lv_aload_n hx hb dX10_leaves_125 rfl (lv_at hl 3 rfl) ?_
          refine ti_get (ci := 10) (k := 48) (N := 67) (T := TX10) (v := .ref (A 60 49)) C hw iw_10 rfl ob_60 (by decide) (by decide) fl_X10_111 rfl rfl dX10_leaves_126 ?_
          refine lv_iload hx hb dX10_leaves_129 (lv_at hl 1 rfl) ?_
          refine lv_iload hx hb dX10_leaves_131 (lv_at hl 7 rfl) ?_
          refine ti_iast (ci := 10) (k := 48) (n := 184) C hw ob_60 (by decide) (fun _ _ => rfl) (vp_in_iff.mpr (by omega)) dX10_leaves_133 (fun H locs hw => ?_)
          obtain ⟨M_50, hM_50⟩ : ∃ z : ti_M, z = uY M_48 60 48 (upd (tY M_48 60 48) (x_3 : Int32).toNatClampNeg t) := ⟨_, rfl⟩
          have hw := hw.to hM_50.symm
          have iM_50 : mI Tm M_50 := mI_up (i := x_3.toNatClampNeg) iM_48 hM_50 trivial
          have n9 : x_1.toNatClampNeg = 8 * 0 + pl.toInt.toNat := by show (x_1).toInt.toNat = _; omega
          have k9 : (tY M 60 39 (8 * 0 + pl.toInt.toNat)).toInt = x_2.toInt := by rw [← n9, (yx_2)]
          have jj := q_leave (q := 0) (pl := pl.toInt.toNat) (p := x_4.toInt) hI hC (by rw [tY_nE (o2 := 60) (k2 := 38) hM_50 (nk (by decide)), tY_nE (o2 := 60) (k2 := 38) hM_48 (nk (by decide)), tY_nE (o2 := 60) (k2 := 38) hM_43 (nk (by decide)), tY_nE (o2 := 60) (k2 := 38) hM_42 (nk (by decide)), tY_nE (o2 := 60) (k2 := 38) hM_41 (nk (by decide)), tY_uE hM_40, (f_9 : tY M_7 60 38 = tY M 60 38)] : tY M_50 60 38 = upd (tY M 60 38) (0 : Int32).toNatClampNeg x_39) (fun i => (cg (by rw [tY_nE (o2 := 60) (k2 := 39) hM_50 (nk (by decide)), tY_nE (o2 := 60) (k2 := 39) hM_48 (nk (by decide)), tY_nE (o2 := 60) (k2 := 39) hM_43 (nk (by decide)), tY_nE (o2 := 60) (k2 := 39) hM_42 (nk (by decide)), tY_nE (o2 := 60) (k2 := 39) hM_41 (nk (by decide)), tY_nE (o2 := 60) (k2 := 39) hM_40 (nk (by decide))] : tY M_50 60 39 = tY M_7 60 39) i).trans (j_28 i)) (by rw [tY_nE (o2 := 60) (k2 := 40) hM_50 (nk (by decide)), tY_nE (o2 := 60) (k2 := 40) hM_48 (nk (by decide)), tY_nE (o2 := 60) (k2 := 40) hM_43 (nk (by decide)), tY_nE (o2 := 60) (k2 := 40) hM_42 (nk (by decide)), tY_uE hM_41, tY_nE (o2 := 60) (k2 := 40) hM_40 (nk (by decide)), (f_10 : tY M_7 60 40 = tY M 60 40)] : tY M_50 60 40 = upd (tY M 60 40) (x_3 : Int32).toNatClampNeg ho) (lk.trans (lk_Y hM_50 (by decide)) (lk.trans (lk_Y hM_48 (by decide)) (lk.trans (lk_Y hM_43 (by decide)) (lk.trans (lk_Y hM_42 (by decide)) (lk.trans (lk_Y hM_41 (by decide)) (lk.trans (lk_Y hM_40 (by decide)) f_8)))))) (by decide) (by omega) (by omega) (by omega) (by show ((x_3.toInt.toNat : Nat) : Int) = _; omega) h3
          have h39 : ∀ i : Nat, tY M_50 60 39 i = if 8 * 0 + pl.toInt.toNat ≤ i ∧ (i : Int) < 8 * ((0 : Nat) : Int) + (rg 3 - 1) then tY M 60 39 (i + 1) else tY M 60 39 i := fun i => by
            have q9 := (cg (by rw [tY_nE (o2 := 60) (k2 := 39) hM_50 (nk (by decide)), tY_nE (o2 := 60) (k2 := 39) hM_48 (nk (by decide)), tY_nE (o2 := 60) (k2 := 39) hM_43 (nk (by decide)), tY_nE (o2 := 60) (k2 := 39) hM_42 (nk (by decide)), tY_nE (o2 := 60) (k2 := 39) hM_41 (nk (by decide)), tY_nE (o2 := 60) (k2 := 39) hM_40 (nk (by decide))] : tY M_50 60 39 = tY M_7 60 39) i).trans (j_28 i)
            rw [q9]
            by_cases c9 : 8 * 0 + pl.toInt.toNat ≤ i ∧ (i : Int) < 8 * ((0 : Nat) : Int) + (rg 3 - 1)
            · rw [if_pos c9, if_pos (by omega)]
            · rw [if_neg c9, if_neg (by omega)]
          have LL := q_leaveR (m := x_2.toInt.toNat) (pl := pl.toInt.toNat) hr hV (by omega) (by omega) (by omega) (by omega) (by omega) (by rw [show x_2.toInt.toNat = (rg (96 + pl.toInt.toNat)).toNat by omega]; exact AP.2.2) h3 (by rw [tY_nE (o2 := 60) (k2 := 38) hM_50 (nk (by decide)), tY_nE (o2 := 60) (k2 := 38) hM_48 (nk (by decide)), tY_nE (o2 := 60) (k2 := 38) hM_43 (nk (by decide)), tY_nE (o2 := 60) (k2 := 38) hM_42 (nk (by decide)), tY_nE (o2 := 60) (k2 := 38) hM_41 (nk (by decide)), tY_uE hM_40, (f_9 : tY M_7 60 38 = tY M 60 38)] : tY M_50 60 38 = upd (tY M 60 38) (0 : Int32).toNatClampNeg x_39) h39 (by rw [tY_nE (o2 := 60) (k2 := 40) hM_50 (nk (by decide)), tY_nE (o2 := 60) (k2 := 40) hM_48 (nk (by decide)), tY_nE (o2 := 60) (k2 := 40) hM_43 (nk (by decide)), tY_nE (o2 := 60) (k2 := 40) hM_42 (nk (by decide)), tY_uE hM_41, tY_nE (o2 := 60) (k2 := 40) hM_40 (nk (by decide)), (f_10 : tY M_7 60 40 = tY M 60 40)] : tY M_50 60 40 = upd (tY M 60 40) (x_3 : Int32).toNatClampNeg ho) (by rw [tY_nE (o2 := 60) (k2 := 46) hM_50 (nk (by decide)), tY_nE (o2 := 60) (k2 := 46) hM_48 (nk (by decide)), tY_nE (o2 := 60) (k2 := 46) hM_43 (nk (by decide)), tY_uE hM_42, tY_nE (o2 := 60) (k2 := 46) hM_41 (nk (by decide)), tY_nE (o2 := 60) (k2 := 46) hM_40 (nk (by decide)), (f_22 : tY M_7 60 46 = tY M 60 46)] : tY M_50 60 46 = upd (tY M 60 46) (x_3 : Int32).toNatClampNeg t) (by rw [tY_nE (o2 := 60) (k2 := 47) hM_50 (nk (by decide)), tY_nE (o2 := 60) (k2 := 47) hM_48 (nk (by decide)), tY_uE hM_43, tY_nE (o2 := 60) (k2 := 47) hM_42 (nk (by decide)), tY_nE (o2 := 60) (k2 := 47) hM_41 (nk (by decide)), tY_nE (o2 := 60) (k2 := 47) hM_40 (nk (by decide)), (f_23 : tY M_7 60 47 = tY M 60 47)] : tY M_50 60 47 = upd (tY M 60 47) (x_3 : Int32).toNatClampNeg 0) (by rw [tY_nE (o2 := 60) (k2 := 37) hM_50 (nk (by decide)), tY_uE hM_48, tY_nE (o2 := 60) (k2 := 37) hM_43 (nk (by decide)), tY_nE (o2 := 60) (k2 := 37) hM_42 (nk (by decide)), tY_nE (o2 := 60) (k2 := 37) hM_41 (nk (by decide)), tY_nE (o2 := 60) (k2 := 37) hM_40 (nk (by decide)), (f_16 : tY M_7 60 37 = tY M 60 37)] : tY M_50 60 37 = upd (tY M 60 37) (0 : Int32).toNatClampNeg x_47) (Or.inl ⟨by omega, (by rw [tY_uE hM_50, tY_nE (o2 := 60) (k2 := 48) hM_48 (nk (by decide)), tY_nE (o2 := 60) (k2 := 48) hM_43 (nk (by decide)), tY_nE (o2 := 60) (k2 := 48) hM_42 (nk (by decide)), tY_nE (o2 := 60) (k2 := 48) hM_41 (nk (by decide)), tY_nE (o2 := 60) (k2 := 48) hM_40 (nk (by decide)), (f_24 : tY M_7 60 48 = tY M 60 48)] : tY M_50 60 48 = upd (tY M 60 48) (x_3 : Int32).toNatClampNeg t)⟩) (by decide) (by decide) (by omega) (by show x_3.toInt.toNat = _; omega) (by omega) (by decide) (fun j hj => by rw [bt_clr (k := x_2.toInt) ex_45 rfl (by omega) (by omega) ex_46 ex_47 j (by omega), (wx_44)]) (fun h => by rw [ex_47, ← (wx_44), h]; simp) (fun k k37 k38 k39 k40 k46 k47 k48 k34 k49 => by rcases (show k = 34 ∨ k = 35 ∨ k = 36 ∨ k = 41 ∨ k = 42 ∨ k = 43 ∨ k = 44 ∨ k = 45 ∨ k = 49 by omega) with rfl | rfl | rfl | rfl | rfl | rfl | rfl | rfl | rfl <;> first | exact (((tY_nE hM_50 (nk (by decide))).trans ((tY_nE hM_48 (nk (by decide))).trans ((tY_nE hM_43 (nk (by decide))).trans ((tY_nE hM_42 (nk (by decide))).trans ((tY_nE hM_41 (nk (by decide))).trans ((tY_nE hM_40 (nk (by decide))).trans f_11))))))) | exact (((tY_nE hM_50 (nk (by decide))).trans ((tY_nE hM_48 (nk (by decide))).trans ((tY_nE hM_43 (nk (by decide))).trans ((tY_nE hM_42 (nk (by decide))).trans ((tY_nE hM_41 (nk (by decide))).trans ((tY_nE hM_40 (nk (by decide))).trans f_14))))))) | exact (((tY_nE hM_50 (nk (by decide))).trans ((tY_nE hM_48 (nk (by decide))).trans ((tY_nE hM_43 (nk (by decide))).trans ((tY_nE hM_42 (nk (by decide))).trans ((tY_nE hM_41 (nk (by decide))).trans ((tY_nE hM_40 (nk (by decide))).trans f_15))))))) | exact (((tY_nE hM_50 (nk (by decide))).trans ((tY_nE hM_48 (nk (by decide))).trans ((tY_nE hM_43 (nk (by decide))).trans ((tY_nE hM_42 (nk (by decide))).trans ((tY_nE hM_41 (nk (by decide))).trans ((tY_nE hM_40 (nk (by decide))).trans f_17))))))) | exact (((tY_nE hM_50 (nk (by decide))).trans ((tY_nE hM_48 (nk (by decide))).trans ((tY_nE hM_43 (nk (by decide))).trans ((tY_nE hM_42 (nk (by decide))).trans ((tY_nE hM_41 (nk (by decide))).trans ((tY_nE hM_40 (nk (by decide))).trans f_18))))))) | exact (((tY_nE hM_50 (nk (by decide))).trans ((tY_nE hM_48 (nk (by decide))).trans ((tY_nE hM_43 (nk (by decide))).trans ((tY_nE hM_42 (nk (by decide))).trans ((tY_nE hM_41 (nk (by decide))).trans ((tY_nE hM_40 (nk (by decide))).trans f_19))))))) | exact (((tY_nE hM_50 (nk (by decide))).trans ((tY_nE hM_48 (nk (by decide))).trans ((tY_nE hM_43 (nk (by decide))).trans ((tY_nE hM_42 (nk (by decide))).trans ((tY_nE hM_41 (nk (by decide))).trans ((tY_nE hM_40 (nk (by decide))).trans f_20))))))) | exact (((tY_nE hM_50 (nk (by decide))).trans ((tY_nE hM_48 (nk (by decide))).trans ((tY_nE hM_43 (nk (by decide))).trans ((tY_nE hM_42 (nk (by decide))).trans ((tY_nE hM_41 (nk (by decide))).trans ((tY_nE hM_40 (nk (by decide))).trans f_21))))))) | exact (((tY_nE hM_50 (nk (by decide))).trans ((tY_nE hM_48 (nk (by decide))).trans ((tY_nE hM_43 (nk (by decide))).trans ((tY_nE hM_42 (nk (by decide))).trans ((tY_nE hM_41 (nk (by decide))).trans ((tY_nE hM_40 (nk (by decide))).trans f_25))))))))
          rw [show ((pl.toInt.toNat : Nat) : Int) = pl.toInt by omega] at LL
          exact hQ _ _ _ _ _ hw (⟨(eR.trans (eR_Y hM_50 (bk_m (z := x_3) (by omega) (by decide))) (eR.trans (eR_Y hM_48 (bk_q (z := 0) (by decide) (by decide))) (eR.trans (eR_Y hM_43 (bk_m (z := x_3) (by omega) (by decide))) (eR.trans (eR_Y hM_42 (bk_m (z := x_3) (by omega) (by decide))) (eR.trans (eR_Y hM_41 (bk_m (z := x_3) (by omega) (by decide))) (eR.trans (eR_Y hM_40 (bk_q (z := 0) (by decide) (by decide))) f_12)))))), LL.1, LL.2, iM_50, jj.1, jj.2.1, (((tY_nE hM_50 (nk (by decide))).trans ((tY_nE hM_48 (nk (by decide))).trans ((tY_nE hM_43 (nk (by decide))).trans ((tY_nE hM_42 (nk (by decide))).trans ((tY_nE hM_41 (nk (by decide))).trans ((tY_nE hM_40 (nk (by decide))).trans f_11))))))), jj.2.2⟩) dX10_leaves_134
      · refine lv_aload_n hx hb dX10_leaves_38 rfl (lv_at hl 3 rfl) ?_
        refine ti_get (ci := 10) (k := 39) (N := 67) (T := TX10) (v := .ref (A 60 40)) C hw iw_10 rfl ob_60 (by decide) (by decide) fl_X10_84 rfl rfl dX10_leaves_39 ?_
        refine lv_bipush (v := 8) hx hb dX10_leaves_42 (by decide) ?_
        refine lv_iload_n hx hb dX10_leaves_44 rfl (lv_at hl 4 rfl) ?_
        refine lv_imul hx hb dX10_leaves_45 ?_
        refine ti_top (y := 0) (by decide) ?_
        refine lv_iload hx hb dX10_leaves_46 (lv_at hl 0 rfl) ?_
        refine lv_iadd hx hb dX10_leaves_48 ?_
        refine lv_topi (fun x_33 ex_33 => ?_)
        have tx_33 : x_33.toInt = 0 + x_4.toInt := i_add ex_33 (by decide : (0 : Int32).toInt = 0) rfl (by omega) (by omega)
        refine lv_aload_n hx hb dX10_leaves_49 rfl (lv_at hl 3 rfl) ?_
        refine ti_get (ci := 10) (k := 39) (N := 67) (T := TX10) (v := .ref (A 60 40)) C hw iw_10 rfl ob_60 (by decide) (by decide) fl_X10_84 rfl rfl dX10_leaves_50 ?_
        refine lv_bipush (v := 8) hx hb dX10_leaves_53 (by decide) ?_
        refine lv_iload_n hx hb dX10_leaves_55 rfl (lv_at hl 4 rfl) ?_
        refine lv_imul hx hb dX10_leaves_56 ?_
        refine ti_top (y := 0) (by decide) ?_
        refine lv_iload hx hb dX10_leaves_57 (lv_at hl 0 rfl) ?_
        refine lv_iadd hx hb dX10_leaves_59 ?_
        refine lv_topi (fun x_34 ex_34 => ?_)
        have tx_34 : x_34.toInt = 0 + x_4.toInt := i_add ex_34 (by decide : (0 : Int32).toInt = 0) rfl (by omega) (by omega)
        refine lv_iconst (v := 1) hx hb dX10_leaves_60 (by decide) ?_
        refine lv_iadd hx hb dX10_leaves_61 ?_
        refine lv_topi (fun x_35 ex_35 => ?_)
        have tx_35 : x_35.toInt = x_34.toInt + 1 := i_add ex_35 rfl (by decide : (1 : Int32).toInt = 1) (by omega) (by omega)
        refine ti_iald (ci := 10) (k := 39) (n := 184) C hw ob_60 (by decide) (fun _ _ => rfl) (vp_in_iff.mpr (by omega)) dX10_leaves_62 ?_
        refine lv_topi (fun x_36 ex_36 => ?_)
        have yx_36 : tY M_7 60 39 x_35.toNatClampNeg = x_36 := (ex_36.symm)
        have bx_36 : 0 ≤ x_36.toInt ∧ x_36.toInt ≤ 7 := mI_ry (k := 39) (i := x_35.toNatClampNeg) iM_7 yx_36.symm
        refine ti_iast (ci := 10) (k := 39) (n := 184) C hw ob_60 (by decide) (fun _ _ => rfl) (vp_in_iff.mpr (by omega)) dX10_leaves_63 (fun H locs hw => ?_)
        obtain ⟨M_37, hM_37⟩ : ∃ z : ti_M, z = uY M_7 60 39 (upd (tY M_7 60 39) (x_33 : Int32).toNatClampNeg x_36) := ⟨_, rfl⟩
        have hw := hw.to hM_37.symm
        have iM_37 : mI Tm M_37 := mI_up (i := x_33.toNatClampNeg) iM_7 hM_37 (ib_mk (lo := 0) (hi := 7) (by omega) (by omega))
        obtain ⟨x_38, ex_38⟩ : ∃ z : Int32, z = x_4 + 1 := ⟨_, rfl⟩
        have tx_38 : x_38.toInt = x_4.toInt + 1 := i_add ex_38 rfl (by decide) (by omega) (by omega)
        refine lv_iinc (v := x_38) (lv' := [(7, .int x_38), (6, .int x_3), (5, .int x_2), (0, .ref (A 60 0)), (1, .int 0), (2, .int pl), (3, .int ho), (4, .int t)]) hx hb dX10_leaves_64 hl (k := 0) rfl (by rw [ex_38]; rfl) (by decide) rfl (fun ls hl => ?_)
        refine lv_goto (tgt := 25) hx hb dX10_leaves_67 (by decide) ?_
        exact ih_29 x_38 M_37 _ _ _ (by omega) (by first | omega | decide) (by first | omega | decide) iM_37 (lk.trans (lk_Y hM_37 (by decide)) f_8) (((tY_nE hM_37 (nk (by decide))).trans f_9)) (((tY_nE hM_37 (nk (by decide))).trans f_10)) (((tY_nE hM_37 (nk (by decide))).trans f_11)) (eR.trans (eR_Y hM_37 (bk_m (z := x_33) (by omega) (by decide))) f_12) (fI.trans (fI_Y hM_37) f_13) (((tY_nE hM_37 (nk (by decide))).trans f_14)) (((tY_nE hM_37 (nk (by decide))).trans f_15)) (((tY_nE hM_37 (nk (by decide))).trans f_16)) (((tY_nE hM_37 (nk (by decide))).trans f_17)) (((tY_nE hM_37 (nk (by decide))).trans f_18)) (((tY_nE hM_37 (nk (by decide))).trans f_19)) (((tY_nE hM_37 (nk (by decide))).trans f_20)) (((tY_nE hM_37 (nk (by decide))).trans f_21)) (((tY_nE hM_37 (nk (by decide))).trans f_22)) (((tY_nE hM_37 (nk (by decide))).trans f_23)) (((tY_nE hM_37 (nk (by decide))).trans f_24)) (((tY_nE hM_37 (nk (by decide))).trans f_25)) (by first | omega | decide) (by first | omega | decide) (sh_s j_28 hM_37 (by show ((x_33.toInt.toNat : Nat) : Int) = _; omega) (by omega) yx_36 (by show (x_35).toInt.toNat = (x_33).toInt.toNat + 1; omega) (by omega)) hw (lv_sub hl [0, 1, 2, 3, 4, 5, 6, 7] rfl)
  exact hl_25_28 ((8 - pl.toInt : Int).toNat + 1) pl M _ _ _ (Nat.lt_succ_self _) (by first | omega | decide) (by first | omega | decide) hI lk.refl rfl rfl rfl eR.refl fI.refl rfl rfl rfl rfl rfl rfl rfl rfl rfl rfl rfl rfl (by first | omega | decide) (by first | omega | decide) (sh_0 (by omega)) hw (lv_sub hl [0, 1, 2, 3, 4, 5, 6, 7] rfl)
set_option maxHeartbeats 4000000 in
set_option maxRecDepth 100000 in
theorem z_X10_leaves_1 (l : Launch) (D : va_G) (A : Nat → Nat → Nat) (cy : Nat → ClassId) (hJ : ti_inj ti_LM A) (M : ti_M) (hI : mI Tm M) (hC : mC M 1) (pl ho t : Int32) (h1 : 0 ≤ pl.toInt) (h2 : pl.toInt < (tY M 60 38 1).toInt) (h3 : 2 ≤ ho.toInt) (tx rg : Nat → Int) (htr : tR tx M) (ht4 : 0 ≤ tx 4 ∧ tx 4 ≤ 8) (hr : qR (tx 4).toNat 1 rg M) (hV : qV (tx 4).toNat 1 rg M) (hwf : wF tx rg) (htm : t.toInt = rg 2) : ti_Kv l yX10_leaves cX10_leaves 8 0 ti_LM D A cy M [.ref (A 60 0), .int 1, .int pl, .int ho, .int t] (fun M2 => eR 1 M2 M ∧ qR (tx 4).toNat 1 (bq_rm rg pl.toInt ho.toInt) M2 ∧ qV (tx 4).toNat 1 (bq_rm rg pl.toInt ho.toInt) M2 ∧ mI Tm M2 ∧ rq 1 M2 M ∧ mC M2 1 ∧ tY M2 60 34 = tY M 60 34 ∧ (tY M2 60 38 1).toInt = (tY M 60 38 1).toInt - 1) := by
  refine ti_eV yp_X10_leaves hJ ti_LM_nd (Nat.le_of_ble_eq_true rfl) ?_
  intro p e s m args below meth c Q H0 C hQ hw ls hl
  have hx := C.1
  have hb := C.2.1
  have hl : lv_has ls 8 [(0, .ref (A 60 0)), (1, .int 1), (2, .int pl), (3, .int ho), (4, .int t)] := hl
  have h7 : 0 ≤ (tY M 60 38 1).toInt ∧ (tY M 60 38 1).toInt ≤ 8 := hI.2.1 38 _
  have l3 := hr.1.2.1
  have AP := hwf.2.2.1 pl.toInt.toNat (by omega)
  have w8 := wF_8 hwf
  have hq9 := hr.2.1 pl.toInt.toNat (by omega) (by omega)
  refine lv_aload_n hx hb dX10_leaves_0 rfl (lv_at hl 0 rfl) ?_
  refine ti_get (ci := 10) (k := 39) (N := 67) (T := TX10) (v := .ref (A 60 40)) C hw iw_10 rfl ob_60 (by decide) (by decide) fl_X10_84 rfl rfl dX10_leaves_1 ?_
  refine lv_bipush (v := 8) hx hb dX10_leaves_4 (by decide) ?_
  refine lv_iload_n hx hb dX10_leaves_6 rfl (lv_at hl 1 rfl) ?_
  refine lv_imul hx hb dX10_leaves_7 ?_
  refine ti_top (y := 8) (by decide) ?_
  refine lv_iload_n hx hb dX10_leaves_8 rfl (lv_at hl 2 rfl) ?_
  refine lv_iadd hx hb dX10_leaves_9 ?_
  refine lv_topi (fun x_1 ex_1 => ?_)
  have tx_1 : x_1.toInt = 8 + pl.toInt := i_add ex_1 (by decide : (8 : Int32).toInt = 8) rfl (by omega) (by omega)
  refine ti_iald (ci := 10) (k := 39) (n := 184) C hw ob_60 (by decide) (fun _ _ => rfl) (vp_in_iff.mpr (by omega)) dX10_leaves_10 ?_
  refine lv_topi (fun x_2 ex_2 => ?_)
  have yx_2 : tY M 60 39 x_1.toNatClampNeg = x_2 := (ex_2.symm)
  have bx_2 : 0 ≤ x_2.toInt ∧ x_2.toInt ≤ 7 := mI_ry (k := 39) (i := x_1.toNatClampNeg) hI yx_2.symm
  refine lv_istore (lv' := [(5, .int x_2), (0, .ref (A 60 0)), (1, .int 1), (2, .int pl), (3, .int ho), (4, .int t)]) hx hb dX10_leaves_11 hl (by decide) rfl (fun ls hl => ?_)
  refine lv_bipush (v := 8) hx hb dX10_leaves_13 (by decide) ?_
  refine lv_iload_n hx hb dX10_leaves_15 rfl (lv_at hl 2 rfl) ?_
  refine lv_imul hx hb dX10_leaves_16 ?_
  refine ti_top (y := 8) (by decide) ?_
  refine lv_iload hx hb dX10_leaves_17 (lv_at hl 0 rfl) ?_
  refine lv_iadd hx hb dX10_leaves_19 ?_
  refine lv_topi (fun x_3 ex_3 => ?_)
  have tx_3 : x_3.toInt = 8 + x_2.toInt := i_add ex_3 (by decide : (8 : Int32).toInt = 8) rfl (by omega) (by omega)
  refine lv_istore (lv' := [(6, .int x_3), (5, .int x_2), (0, .ref (A 60 0)), (1, .int 1), (2, .int pl), (3, .int ho), (4, .int t)]) hx hb dX10_leaves_20 hl (by decide) rfl (fun ls hl => ?_)
  refine lv_iload_n hx hb dX10_leaves_22 rfl (lv_at hl 4 rfl) ?_
  refine lv_istore (lv' := [(7, .int pl), (6, .int x_3), (5, .int x_2), (0, .ref (A 60 0)), (1, .int 1), (2, .int pl), (3, .int ho), (4, .int t)]) hx hb dX10_leaves_23 hl (by decide) rfl (fun ls hl => ?_)
  have hl_25_28 : ∀ (n_29 : Nat) (x_4 : Int32) (M_7 : ti_M) (H : Heap) (locs : List Loc) (ls : Array Slot), (8 - x_4.toInt : Int).toNat < n_29 → (0 ≤ x_4.toInt) → (x_4.toInt ≤ 7) → (mI Tm M_7) → (lk M_7 M) → (tY M_7 60 38 = tY M 60 38) → (tY M_7 60 40 = tY M 60 40) → (tY M_7 60 34 = tY M 60 34) → (eR 1 M_7 M) → (fI M_7 M) → (tY M_7 60 35 = tY M 60 35) → (tY M_7 60 36 = tY M 60 36) → (tY M_7 60 37 = tY M 60 37) → (tY M_7 60 41 = tY M 60 41) → (tY M_7 60 42 = tY M 60 42) → (tY M_7 60 43 = tY M 60 43) → (tY M_7 60 44 = tY M 60 44) → (tY M_7 60 45 = tY M 60 45) → (tY M_7 60 46 = tY M 60 46) → (tY M_7 60 47 = tY M 60 47) → (tY M_7 60 48 = tY M 60 48) → (tY M_7 60 49 = tY M 60 49) → (pl.toInt ≤ x_4.toInt) → (x_4.toInt < (tY M 60 38 1).toInt) → (sh M M_7 8 pl.toInt.toNat x_4.toInt) → ti_H ti_LM D A cy H0 M_7 H locs → lv_has ls 8 [(7, .int x_4), (6, .int x_3), (5, .int x_2), (0, .ref (A 60 0)), (1, .int 1), (2, .int pl), (3, .int ho), (4, .int t)] → W p l e (ti_rm 0) s m args below meth c H locs 0 0 Q (F0 m 25 ls []) := by
    intro n_29
    induction n_29 with
    | zero => intro x_4 M_7 H locs ls hf_29; exact absurd hf_29 (Nat.not_lt_zero _)
    | succ n_29 ih_29 =>
      intro x_4 M_7 H locs ls hf_29 b_5 b_6 iM_7 f_8 f_9 f_10 f_11 f_12 f_13 f_14 f_15 f_16 f_17 f_18 f_19 f_20 f_21 f_22 f_23 f_24 f_25 j_26 j_27 j_28 hw hl
      refine lv_iload hx hb dX10_leaves_25 (lv_at hl 0 rfl) ?_
      refine lv_iconst (v := 1) hx hb dX10_leaves_27 (by decide) ?_
      refine lv_iadd hx hb dX10_leaves_28 ?_
      refine lv_topi (fun x_30 ex_30 => ?_)
      have tx_30 : x_30.toInt = x_4.toInt + 1 := i_add ex_30 rfl (by decide : (1 : Int32).toInt = 1) (by omega) (by omega)
      refine lv_aload_n hx hb dX10_leaves_29 rfl (lv_at hl 3 rfl) ?_
      refine ti_get (ci := 10) (k := 38) (N := 67) (T := TX10) (v := .ref (A 60 39)) C hw iw_10 rfl ob_60 (by decide) (by decide) fl_X10_81 rfl rfl dX10_leaves_30 ?_
      refine lv_iload_n hx hb dX10_leaves_33 rfl (lv_at hl 4 rfl) ?_
      refine ti_iald (ci := 10) (k := 38) (n := 23) C hw ob_60 (by decide) (fun _ _ => rfl) (by unfold vp_in; decide) dX10_leaves_34 ?_
      refine lv_topi (fun x_31 ex_31 => ?_)
      have yx_31 : tY M_7 60 38 1 = x_31 := ((congrArg _ (by decide)).symm.trans ex_31.symm)
      have bx_31 : 0 ≤ x_31.toInt ∧ x_31.toInt ≤ 8 := mI_ry (k := 38) (i := 1) iM_7 yx_31.symm
      have zx_31 : (tY M_7 60 38 1).toInt = x_31.toInt := by rw [yx_31]
      have wx_31 : tY M 60 38 1 = x_31 := ((cg f_9 1)).symm.trans yx_31
      have zwx_31 : (tY M 60 38 1).toInt = x_31.toInt := by rw [wx_31]
      refine sb_icmp_ge (tgt := 70) hx hb rfl rfl dX10_leaves_35 (by decide) (fun c_35_31 => ?_) (fun c_35_31 => ?_)
      · refine lv_aload_n hx hb dX10_leaves_70 rfl (lv_at hl 3 rfl) ?_
        refine ti_get (ci := 10) (k := 38) (N := 67) (T := TX10) (v := .ref (A 60 39)) C hw iw_10 rfl ob_60 (by decide) (by decide) fl_X10_81 rfl rfl dX10_leaves_71 ?_
        refine lv_iload_n hx hb dX10_leaves_74 rfl (lv_at hl 4 rfl) ?_
        refine lv_dup2_11 hx hb dX10_leaves_75 rfl rfl ?_
        refine ti_iald (ci := 10) (k := 38) (n := 23) C hw ob_60 (by decide) (fun _ _ => rfl) (by unfold vp_in; decide) dX10_leaves_76 ?_
        refine ti_top (y := x_31) ((congrArg _ (by decide)).trans ((cg f_9 1).trans wx_31)) ?_
        refine lv_iconst (v := 1) hx hb dX10_leaves_77 (by decide) ?_
        refine lv_isub hx hb dX10_leaves_78 ?_
        refine lv_topi (fun x_39 ex_39 => ?_)
        have tx_39 : x_39.toInt = x_31.toInt - 1 := i_sub ex_39 rfl (by decide : (1 : Int32).toInt = 1) (by omega) (by omega)
        refine ti_iast (ci := 10) (k := 38) (n := 23) C hw ob_60 (by decide) (fun _ _ => rfl) (by unfold vp_in; decide) dX10_leaves_79 (fun H locs hw => ?_)
        obtain ⟨M_40, hM_40⟩ : ∃ z : ti_M, z = uY M_7 60 38 (upd (tY M_7 60 38) (1 : Int32).toNatClampNeg x_39) := ⟨_, rfl⟩
        have hw := hw.to hM_40.symm
        have iM_40 : mI Tm M_40 := mI_up (i := 1) iM_7 hM_40 (ib_mk (lo := 0) (hi := 8) (by omega) (by omega))
        refine lv_aload_n hx hb dX10_leaves_80 rfl (lv_at hl 3 rfl) ?_
        refine ti_get (ci := 10) (k := 40) (N := 67) (T := TX10) (v := .ref (A 60 41)) C hw iw_10 rfl ob_60 (by decide) (by decide) fl_X10_87 rfl rfl dX10_leaves_81 ?_
        refine lv_iload hx hb dX10_leaves_84 (lv_at hl 1 rfl) ?_
        refine lv_iload_n hx hb dX10_leaves_86 rfl (lv_at hl 6 rfl) ?_
        refine ti_iast (ci := 10) (k := 40) (n := 184) C hw ob_60 (by decide) (fun _ _ => rfl) (vp_in_iff.mpr (by omega)) dX10_leaves_87 (fun H locs hw => ?_)
        obtain ⟨M_41, hM_41⟩ : ∃ z : ti_M, z = uY M_40 60 40 (upd (tY M_40 60 40) (x_3 : Int32).toNatClampNeg ho) := ⟨_, rfl⟩
        have hw := hw.to hM_41.symm
        have iM_41 : mI Tm M_41 := mI_up (i := x_3.toNatClampNeg) iM_40 hM_41 trivial
        refine lv_aload_n hx hb dX10_leaves_88 rfl (lv_at hl 3 rfl) ?_
        refine ti_get (ci := 10) (k := 46) (N := 67) (T := TX10) (v := .ref (A 60 47)) C hw iw_10 rfl ob_60 (by decide) (by decide) fl_X10_105 rfl rfl dX10_leaves_89 ?_
        refine lv_iload hx hb dX10_leaves_92 (lv_at hl 1 rfl) ?_
        refine lv_iload hx hb dX10_leaves_94 (lv_at hl 7 rfl) ?_
        refine ti_iast (ci := 10) (k := 46) (n := 184) C hw ob_60 (by decide) (fun _ _ => rfl) (vp_in_iff.mpr (by omega)) dX10_leaves_96 (fun H locs hw => ?_)
        obtain ⟨M_42, hM_42⟩ : ∃ z : ti_M, z = uY M_41 60 46 (upd (tY M_41 60 46) (x_3 : Int32).toNatClampNeg t) := ⟨_, rfl⟩
        have hw := hw.to hM_42.symm
        have iM_42 : mI Tm M_42 := mI_up (i := x_3.toNatClampNeg) iM_41 hM_42 trivial
        refine lv_aload_n hx hb dX10_leaves_97 rfl (lv_at hl 3 rfl) ?_
        refine ti_get (ci := 10) (k := 47) (N := 67) (T := TX10) (v := .ref (A 60 48)) C hw iw_10 rfl ob_60 (by decide) (by decide) fl_X10_108 rfl rfl dX10_leaves_98 ?_
        refine lv_iload hx hb dX10_leaves_101 (lv_at hl 1 rfl) ?_
        refine lv_iconst (v := 0) hx hb dX10_leaves_103 (by decide) ?_
        refine ti_iast (ci := 10) (k := 47) (n := 184) C hw ob_60 (by decide) (fun _ _ => rfl) (vp_in_iff.mpr (by omega)) dX10_leaves_104 (fun H locs hw => ?_)
        obtain ⟨M_43, hM_43⟩ : ∃ z : ti_M, z = uY M_42 60 47 (upd (tY M_42 60 47) (x_3 : Int32).toNatClampNeg 0) := ⟨_, rfl⟩
        have hw := hw.to hM_43.symm
        have iM_43 : mI Tm M_43 := mI_up (i := x_3.toNatClampNeg) iM_42 hM_43 trivial
        refine lv_aload_n hx hb dX10_leaves_105 rfl (lv_at hl 3 rfl) ?_
        refine ti_get (ci := 10) (k := 37) (N := 67) (T := TX10) (v := .ref (A 60 38)) C hw iw_10 rfl ob_60 (by decide) (by decide) fl_X10_78 rfl rfl dX10_leaves_106 ?_
        refine lv_iload_n hx hb dX10_leaves_109 rfl (lv_at hl 4 rfl) ?_
        refine lv_dup2_11 hx hb dX10_leaves_110 rfl rfl ?_
        refine ti_iald (ci := 10) (k := 37) (n := 23) C hw ob_60 (by decide) (fun _ _ => rfl) (by unfold vp_in; decide) dX10_leaves_111 ?_
        refine lv_topi (fun x_44 ex_44 => ?_)
        have yx_44 : tY M_43 60 37 1 = x_44 := ((congrArg _ (by decide)).symm.trans ex_44.symm)
        have wx_44 : tY M 60 37 1 = x_44 := (((cg (tY_nE hM_43 (nk (by decide))) 1).trans ((cg (tY_nE hM_42 (nk (by decide))) 1).trans ((cg (tY_nE hM_41 (nk (by decide))) 1).trans ((cg (tY_nE hM_40 (nk (by decide))) 1).trans (cg f_16 1)))))).symm.trans yx_44
        refine lv_iconst (v := 1) hx hb dX10_leaves_112 (by decide) ?_
        refine lv_iload hx hb dX10_leaves_113 (lv_at hl 2 rfl) ?_
        refine lv_ishl hx hb dX10_leaves_115 ?_
        refine lv_topi (fun x_45 ex_45 => ?_)
        refine lv_iconst (v := (-1)) hx hb dX10_leaves_116 (by decide) ?_
        refine lv_ixor hx hb dX10_leaves_117 ?_
        refine lv_topi (fun x_46 ex_46 => ?_)
        refine lv_iand hx hb dX10_leaves_118 ?_
        refine lv_topi (fun x_47 ex_47 => ?_)
        refine ti_iast (ci := 10) (k := 37) (n := 23) C hw ob_60 (by decide) (fun _ _ => rfl) (by unfold vp_in; decide) dX10_leaves_119 (fun H locs hw => ?_)
        obtain ⟨M_48, hM_48⟩ : ∃ z : ti_M, z = uY M_43 60 37 (upd (tY M_43 60 37) (1 : Int32).toNatClampNeg x_47) := ⟨_, rfl⟩
        have hw := hw.to hM_48.symm
        have iM_48 : mI Tm M_48 := mI_up (i := 1) iM_43 hM_48 trivial
        refine lv_iload_n hx hb dX10_leaves_120 rfl (lv_at hl 6 rfl) ?_
        refine lv_iconst (v := 2) hx hb dX10_leaves_121 (by decide) ?_
        refine sb_icmp_ne (tgt := 134) hx hb rfl (by decide : (2 : Int32).toInt = 2) dX10_leaves_122 (by decide) (fun c_122_48 => ?_) (fun c_122_48 => ?_)
        · have n9 : x_1.toNatClampNeg = 8 * 1 + pl.toInt.toNat := by show (x_1).toInt.toNat = _; omega
          have k9 : (tY M 60 39 (8 * 1 + pl.toInt.toNat)).toInt = x_2.toInt := by rw [← n9, (yx_2)]
          have jj := q_leave (q := 1) (pl := pl.toInt.toNat) (p := x_4.toInt) hI hC (by rw [tY_nE (o2 := 60) (k2 := 38) hM_48 (nk (by decide)), tY_nE (o2 := 60) (k2 := 38) hM_43 (nk (by decide)), tY_nE (o2 := 60) (k2 := 38) hM_42 (nk (by decide)), tY_nE (o2 := 60) (k2 := 38) hM_41 (nk (by decide)), tY_uE hM_40, (f_9 : tY M_7 60 38 = tY M 60 38)] : tY M_48 60 38 = upd (tY M 60 38) (1 : Int32).toNatClampNeg x_39) (fun i => (cg (by rw [tY_nE (o2 := 60) (k2 := 39) hM_48 (nk (by decide)), tY_nE (o2 := 60) (k2 := 39) hM_43 (nk (by decide)), tY_nE (o2 := 60) (k2 := 39) hM_42 (nk (by decide)), tY_nE (o2 := 60) (k2 := 39) hM_41 (nk (by decide)), tY_nE (o2 := 60) (k2 := 39) hM_40 (nk (by decide))] : tY M_48 60 39 = tY M_7 60 39) i).trans (j_28 i)) (by rw [tY_nE (o2 := 60) (k2 := 40) hM_48 (nk (by decide)), tY_nE (o2 := 60) (k2 := 40) hM_43 (nk (by decide)), tY_nE (o2 := 60) (k2 := 40) hM_42 (nk (by decide)), tY_uE hM_41, tY_nE (o2 := 60) (k2 := 40) hM_40 (nk (by decide)), (f_10 : tY M_7 60 40 = tY M 60 40)] : tY M_48 60 40 = upd (tY M 60 40) (x_3 : Int32).toNatClampNeg ho) (lk.trans (lk_Y hM_48 (by decide)) (lk.trans (lk_Y hM_43 (by decide)) (lk.trans (lk_Y hM_42 (by decide)) (lk.trans (lk_Y hM_41 (by decide)) (lk.trans (lk_Y hM_40 (by decide)) f_8))))) (by decide) (by omega) (by omega) (by omega) (by show ((x_3.toInt.toNat : Nat) : Int) = _; omega) h3
          have h39 : ∀ i : Nat, tY M_48 60 39 i = if 8 * 1 + pl.toInt.toNat ≤ i ∧ (i : Int) < 8 * ((1 : Nat) : Int) + (rg 3 - 1) then tY M 60 39 (i + 1) else tY M 60 39 i := fun i => by
            have q9 := (cg (by rw [tY_nE (o2 := 60) (k2 := 39) hM_48 (nk (by decide)), tY_nE (o2 := 60) (k2 := 39) hM_43 (nk (by decide)), tY_nE (o2 := 60) (k2 := 39) hM_42 (nk (by decide)), tY_nE (o2 := 60) (k2 := 39) hM_41 (nk (by decide)), tY_nE (o2 := 60) (k2 := 39) hM_40 (nk (by decide))] : tY M_48 60 39 = tY M_7 60 39) i).trans (j_28 i)
            rw [q9]
            by_cases c9 : 8 * 1 + pl.toInt.toNat ≤ i ∧ (i : Int) < 8 * ((1 : Nat) : Int) + (rg 3 - 1)
            · rw [if_pos c9, if_pos (by omega)]
            · rw [if_neg c9, if_neg (by omega)]
          have LL := q_leaveR (m := x_2.toInt.toNat) (pl := pl.toInt.toNat) hr hV (by omega) (by omega) (by omega) (by omega) (by omega) (by rw [show x_2.toInt.toNat = (rg (96 + pl.toInt.toNat)).toNat by omega]; exact AP.2.2) h3 (by rw [tY_nE (o2 := 60) (k2 := 38) hM_48 (nk (by decide)), tY_nE (o2 := 60) (k2 := 38) hM_43 (nk (by decide)), tY_nE (o2 := 60) (k2 := 38) hM_42 (nk (by decide)), tY_nE (o2 := 60) (k2 := 38) hM_41 (nk (by decide)), tY_uE hM_40, (f_9 : tY M_7 60 38 = tY M 60 38)] : tY M_48 60 38 = upd (tY M 60 38) (1 : Int32).toNatClampNeg x_39) h39 (by rw [tY_nE (o2 := 60) (k2 := 40) hM_48 (nk (by decide)), tY_nE (o2 := 60) (k2 := 40) hM_43 (nk (by decide)), tY_nE (o2 := 60) (k2 := 40) hM_42 (nk (by decide)), tY_uE hM_41, tY_nE (o2 := 60) (k2 := 40) hM_40 (nk (by decide)), (f_10 : tY M_7 60 40 = tY M 60 40)] : tY M_48 60 40 = upd (tY M 60 40) (x_3 : Int32).toNatClampNeg ho) (by rw [tY_nE (o2 := 60) (k2 := 46) hM_48 (nk (by decide)), tY_nE (o2 := 60) (k2 := 46) hM_43 (nk (by decide)), tY_uE hM_42, tY_nE (o2 := 60) (k2 := 46) hM_41 (nk (by decide)), tY_nE (o2 := 60) (k2 := 46) hM_40 (nk (by decide)), (f_22 : tY M_7 60 46 = tY M 60 46)] : tY M_48 60 46 = upd (tY M 60 46) (x_3 : Int32).toNatClampNeg t) (by rw [tY_nE (o2 := 60) (k2 := 47) hM_48 (nk (by decide)), tY_uE hM_43, tY_nE (o2 := 60) (k2 := 47) hM_42 (nk (by decide)), tY_nE (o2 := 60) (k2 := 47) hM_41 (nk (by decide)), tY_nE (o2 := 60) (k2 := 47) hM_40 (nk (by decide)), (f_23 : tY M_7 60 47 = tY M 60 47)] : tY M_48 60 47 = upd (tY M 60 47) (x_3 : Int32).toNatClampNeg 0) (by rw [tY_uE hM_48, tY_nE (o2 := 60) (k2 := 37) hM_43 (nk (by decide)), tY_nE (o2 := 60) (k2 := 37) hM_42 (nk (by decide)), tY_nE (o2 := 60) (k2 := 37) hM_41 (nk (by decide)), tY_nE (o2 := 60) (k2 := 37) hM_40 (nk (by decide)), (f_16 : tY M_7 60 37 = tY M 60 37)] : tY M_48 60 37 = upd (tY M 60 37) (1 : Int32).toNatClampNeg x_47) (Or.inr ⟨by omega, (((tY_nE hM_48 (nk (by decide))).trans ((tY_nE hM_43 (nk (by decide))).trans ((tY_nE hM_42 (nk (by decide))).trans ((tY_nE hM_41 (nk (by decide))).trans ((tY_nE hM_40 (nk (by decide))).trans f_24))))))⟩) (by decide) (by decide) (by omega) (by show x_3.toInt.toNat = _; omega) (by omega) (by decide) (fun j hj => by rw [bt_clr (k := x_2.toInt) ex_45 rfl (by omega) (by omega) ex_46 ex_47 j (by omega), (wx_44)]) (fun h => by rw [ex_47, ← (wx_44), h]; simp) (fun k k37 k38 k39 k40 k46 k47 k48 k34 k49 => by rcases (show k = 34 ∨ k = 35 ∨ k = 36 ∨ k = 41 ∨ k = 42 ∨ k = 43 ∨ k = 44 ∨ k = 45 ∨ k = 49 by omega) with rfl | rfl | rfl | rfl | rfl | rfl | rfl | rfl | rfl <;> first | exact (((tY_nE hM_48 (nk (by decide))).trans ((tY_nE hM_43 (nk (by decide))).trans ((tY_nE hM_42 (nk (by decide))).trans ((tY_nE hM_41 (nk (by decide))).trans ((tY_nE hM_40 (nk (by decide))).trans f_11)))))) | exact (((tY_nE hM_48 (nk (by decide))).trans ((tY_nE hM_43 (nk (by decide))).trans ((tY_nE hM_42 (nk (by decide))).trans ((tY_nE hM_41 (nk (by decide))).trans ((tY_nE hM_40 (nk (by decide))).trans f_14)))))) | exact (((tY_nE hM_48 (nk (by decide))).trans ((tY_nE hM_43 (nk (by decide))).trans ((tY_nE hM_42 (nk (by decide))).trans ((tY_nE hM_41 (nk (by decide))).trans ((tY_nE hM_40 (nk (by decide))).trans f_15)))))) | exact (((tY_nE hM_48 (nk (by decide))).trans ((tY_nE hM_43 (nk (by decide))).trans ((tY_nE hM_42 (nk (by decide))).trans ((tY_nE hM_41 (nk (by decide))).trans ((tY_nE hM_40 (nk (by decide))).trans f_17)))))) | exact (((tY_nE hM_48 (nk (by decide))).trans ((tY_nE hM_43 (nk (by decide))).trans ((tY_nE hM_42 (nk (by decide))).trans ((tY_nE hM_41 (nk (by decide))).trans ((tY_nE hM_40 (nk (by decide))).trans f_18)))))) | exact (((tY_nE hM_48 (nk (by decide))).trans ((tY_nE hM_43 (nk (by decide))).trans ((tY_nE hM_42 (nk (by decide))).trans ((tY_nE hM_41 (nk (by decide))).trans ((tY_nE hM_40 (nk (by decide))).trans f_19)))))) | exact (((tY_nE hM_48 (nk (by decide))).trans ((tY_nE hM_43 (nk (by decide))).trans ((tY_nE hM_42 (nk (by decide))).trans ((tY_nE hM_41 (nk (by decide))).trans ((tY_nE hM_40 (nk (by decide))).trans f_20)))))) | exact (((tY_nE hM_48 (nk (by decide))).trans ((tY_nE hM_43 (nk (by decide))).trans ((tY_nE hM_42 (nk (by decide))).trans ((tY_nE hM_41 (nk (by decide))).trans ((tY_nE hM_40 (nk (by decide))).trans f_21)))))) | exact (((tY_nE hM_48 (nk (by decide))).trans ((tY_nE hM_43 (nk (by decide))).trans ((tY_nE hM_42 (nk (by decide))).trans ((tY_nE hM_41 (nk (by decide))).trans ((tY_nE hM_40 (nk (by decide))).trans f_25)))))))
          rw [show ((pl.toInt.toNat : Nat) : Int) = pl.toInt by omega] at LL
          exact hQ _ _ _ _ _ hw (⟨(eR.trans (eR_Y hM_48 (bk_q (z := 1) (by decide) (by decide))) (eR.trans (eR_Y hM_43 (bk_m (z := x_3) (by omega) (by decide))) (eR.trans (eR_Y hM_42 (bk_m (z := x_3) (by omega) (by decide))) (eR.trans (eR_Y hM_41 (bk_m (z := x_3) (by omega) (by decide))) (eR.trans (eR_Y hM_40 (bk_q (z := 1) (by decide) (by decide))) f_12))))), LL.1, LL.2, iM_48, jj.1, jj.2.1, (((tY_nE hM_48 (nk (by decide))).trans ((tY_nE hM_43 (nk (by decide))).trans ((tY_nE hM_42 (nk (by decide))).trans ((tY_nE hM_41 (nk (by decide))).trans ((tY_nE hM_40 (nk (by decide))).trans f_11)))))), jj.2.2⟩) dX10_leaves_134
        · refine lv_aload_n hx hb dX10_leaves_125 rfl (lv_at hl 3 rfl) ?_
          refine ti_get (ci := 10) (k := 48) (N := 67) (T := TX10) (v := .ref (A 60 49)) C hw iw_10 rfl ob_60 (by decide) (by decide) fl_X10_111 rfl rfl dX10_leaves_126 ?_
          refine lv_iload hx hb dX10_leaves_129 (lv_at hl 1 rfl) ?_
          refine lv_iload hx hb dX10_leaves_131 (lv_at hl 7 rfl) ?_
          refine ti_iast (ci := 10) (k := 48) (n := 184) C hw ob_60 (by decide) (fun _ _ => rfl) (vp_in_iff.mpr (by omega)) dX10_leaves_133 (fun H locs hw => ?_)
          obtain ⟨M_50, hM_50⟩ : ∃ z : ti_M, z = uY M_48 60 48 (upd (tY M_48 60 48) (x_3 : Int32).toNatClampNeg t) := ⟨_, rfl⟩
          have hw := hw.to hM_50.symm
          have iM_50 : mI Tm M_50 := mI_up (i := x_3.toNatClampNeg) iM_48 hM_50 trivial
          have n9 : x_1.toNatClampNeg = 8 * 1 + pl.toInt.toNat := by show (x_1).toInt.toNat = _; omega
          have k9 : (tY M 60 39 (8 * 1 + pl.toInt.toNat)).toInt = x_2.toInt := by rw [← n9, (yx_2)]
          have jj := q_leave (q := 1) (pl := pl.toInt.toNat) (p := x_4.toInt) hI hC (by rw [tY_nE (o2 := 60) (k2 := 38) hM_50 (nk (by decide)), tY_nE (o2 := 60) (k2 := 38) hM_48 (nk (by decide)), tY_nE (o2 := 60) (k2 := 38) hM_43 (nk (by decide)), tY_nE (o2 := 60) (k2 := 38) hM_42 (nk (by decide)), tY_nE (o2 := 60) (k2 := 38) hM_41 (nk (by decide)), tY_uE hM_40, (f_9 : tY M_7 60 38 = tY M 60 38)] : tY M_50 60 38 = upd (tY M 60 38) (1 : Int32).toNatClampNeg x_39) (fun i => (cg (by rw [tY_nE (o2 := 60) (k2 := 39) hM_50 (nk (by decide)), tY_nE (o2 := 60) (k2 := 39) hM_48 (nk (by decide)), tY_nE (o2 := 60) (k2 := 39) hM_43 (nk (by decide)), tY_nE (o2 := 60) (k2 := 39) hM_42 (nk (by decide)), tY_nE (o2 := 60) (k2 := 39) hM_41 (nk (by decide)), tY_nE (o2 := 60) (k2 := 39) hM_40 (nk (by decide))] : tY M_50 60 39 = tY M_7 60 39) i).trans (j_28 i)) (by rw [tY_nE (o2 := 60) (k2 := 40) hM_50 (nk (by decide)), tY_nE (o2 := 60) (k2 := 40) hM_48 (nk (by decide)), tY_nE (o2 := 60) (k2 := 40) hM_43 (nk (by decide)), tY_nE (o2 := 60) (k2 := 40) hM_42 (nk (by decide)), tY_uE hM_41, tY_nE (o2 := 60) (k2 := 40) hM_40 (nk (by decide)), (f_10 : tY M_7 60 40 = tY M 60 40)] : tY M_50 60 40 = upd (tY M 60 40) (x_3 : Int32).toNatClampNeg ho) (lk.trans (lk_Y hM_50 (by decide)) (lk.trans (lk_Y hM_48 (by decide)) (lk.trans (lk_Y hM_43 (by decide)) (lk.trans (lk_Y hM_42 (by decide)) (lk.trans (lk_Y hM_41 (by decide)) (lk.trans (lk_Y hM_40 (by decide)) f_8)))))) (by decide) (by omega) (by omega) (by omega) (by show ((x_3.toInt.toNat : Nat) : Int) = _; omega) h3
          have h39 : ∀ i : Nat, tY M_50 60 39 i = if 8 * 1 + pl.toInt.toNat ≤ i ∧ (i : Int) < 8 * ((1 : Nat) : Int) + (rg 3 - 1) then tY M 60 39 (i + 1) else tY M 60 39 i := fun i => by
            have q9 := (cg (by rw [tY_nE (o2 := 60) (k2 := 39) hM_50 (nk (by decide)), tY_nE (o2 := 60) (k2 := 39) hM_48 (nk (by decide)), tY_nE (o2 := 60) (k2 := 39) hM_43 (nk (by decide)), tY_nE (o2 := 60) (k2 := 39) hM_42 (nk (by decide)), tY_nE (o2 := 60) (k2 := 39) hM_41 (nk (by decide)), tY_nE (o2 := 60) (k2 := 39) hM_40 (nk (by decide))] : tY M_50 60 39 = tY M_7 60 39) i).trans (j_28 i)
            rw [q9]
            by_cases c9 : 8 * 1 + pl.toInt.toNat ≤ i ∧ (i : Int) < 8 * ((1 : Nat) : Int) + (rg 3 - 1)
            · rw [if_pos c9, if_pos (by omega)]
            · rw [if_neg c9, if_neg (by omega)]
          have LL := q_leaveR (m := x_2.toInt.toNat) (pl := pl.toInt.toNat) hr hV (by omega) (by omega) (by omega) (by omega) (by omega) (by rw [show x_2.toInt.toNat = (rg (96 + pl.toInt.toNat)).toNat by omega]; exact AP.2.2) h3 (by rw [tY_nE (o2 := 60) (k2 := 38) hM_50 (nk (by decide)), tY_nE (o2 := 60) (k2 := 38) hM_48 (nk (by decide)), tY_nE (o2 := 60) (k2 := 38) hM_43 (nk (by decide)), tY_nE (o2 := 60) (k2 := 38) hM_42 (nk (by decide)), tY_nE (o2 := 60) (k2 := 38) hM_41 (nk (by decide)), tY_uE hM_40, (f_9 : tY M_7 60 38 = tY M 60 38)] : tY M_50 60 38 = upd (tY M 60 38) (1 : Int32).toNatClampNeg x_39) h39 (by rw [tY_nE (o2 := 60) (k2 := 40) hM_50 (nk (by decide)), tY_nE (o2 := 60) (k2 := 40) hM_48 (nk (by decide)), tY_nE (o2 := 60) (k2 := 40) hM_43 (nk (by decide)), tY_nE (o2 := 60) (k2 := 40) hM_42 (nk (by decide)), tY_uE hM_41, tY_nE (o2 := 60) (k2 := 40) hM_40 (nk (by decide)), (f_10 : tY M_7 60 40 = tY M 60 40)] : tY M_50 60 40 = upd (tY M 60 40) (x_3 : Int32).toNatClampNeg ho) (by rw [tY_nE (o2 := 60) (k2 := 46) hM_50 (nk (by decide)), tY_nE (o2 := 60) (k2 := 46) hM_48 (nk (by decide)), tY_nE (o2 := 60) (k2 := 46) hM_43 (nk (by decide)), tY_uE hM_42, tY_nE (o2 := 60) (k2 := 46) hM_41 (nk (by decide)), tY_nE (o2 := 60) (k2 := 46) hM_40 (nk (by decide)), (f_22 : tY M_7 60 46 = tY M 60 46)] : tY M_50 60 46 = upd (tY M 60 46) (x_3 : Int32).toNatClampNeg t) (by rw [tY_nE (o2 := 60) (k2 := 47) hM_50 (nk (by decide)), tY_nE (o2 := 60) (k2 := 47) hM_48 (nk (by decide)), tY_uE hM_43, tY_nE (o2 := 60) (k2 := 47) hM_42 (nk (by decide)), tY_nE (o2 := 60) (k2 := 47) hM_41 (nk (by decide)), tY_nE (o2 := 60) (k2 := 47) hM_40 (nk (by decide)), (f_23 : tY M_7 60 47 = tY M 60 47)] : tY M_50 60 47 = upd (tY M 60 47) (x_3 : Int32).toNatClampNeg 0) (by rw [tY_nE (o2 := 60) (k2 := 37) hM_50 (nk (by decide)), tY_uE hM_48, tY_nE (o2 := 60) (k2 := 37) hM_43 (nk (by decide)), tY_nE (o2 := 60) (k2 := 37) hM_42 (nk (by decide)), tY_nE (o2 := 60) (k2 := 37) hM_41 (nk (by decide)), tY_nE (o2 := 60) (k2 := 37) hM_40 (nk (by decide)), (f_16 : tY M_7 60 37 = tY M 60 37)] : tY M_50 60 37 = upd (tY M 60 37) (1 : Int32).toNatClampNeg x_47) (Or.inl ⟨by omega, (by rw [tY_uE hM_50, tY_nE (o2 := 60) (k2 := 48) hM_48 (nk (by decide)), tY_nE (o2 := 60) (k2 := 48) hM_43 (nk (by decide)), tY_nE (o2 := 60) (k2 := 48) hM_42 (nk (by decide)), tY_nE (o2 := 60) (k2 := 48) hM_41 (nk (by decide)), tY_nE (o2 := 60) (k2 := 48) hM_40 (nk (by decide)), (f_24 : tY M_7 60 48 = tY M 60 48)] : tY M_50 60 48 = upd (tY M 60 48) (x_3 : Int32).toNatClampNeg t)⟩) (by decide) (by decide) (by omega) (by show x_3.toInt.toNat = _; omega) (by omega) (by decide) (fun j hj => by rw [bt_clr (k := x_2.toInt) ex_45 rfl (by omega) (by omega) ex_46 ex_47 j (by omega), (wx_44)]) (fun h => by rw [ex_47, ← (wx_44), h]; simp) (fun k k37 k38 k39 k40 k46 k47 k48 k34 k49 => by rcases (show k = 34 ∨ k = 35 ∨ k = 36 ∨ k = 41 ∨ k = 42 ∨ k = 43 ∨ k = 44 ∨ k = 45 ∨ k = 49 by omega) with rfl | rfl | rfl | rfl | rfl | rfl | rfl | rfl | rfl <;> first | exact (((tY_nE hM_50 (nk (by decide))).trans ((tY_nE hM_48 (nk (by decide))).trans ((tY_nE hM_43 (nk (by decide))).trans ((tY_nE hM_42 (nk (by decide))).trans ((tY_nE hM_41 (nk (by decide))).trans ((tY_nE hM_40 (nk (by decide))).trans f_11))))))) | exact (((tY_nE hM_50 (nk (by decide))).trans ((tY_nE hM_48 (nk (by decide))).trans ((tY_nE hM_43 (nk (by decide))).trans ((tY_nE hM_42 (nk (by decide))).trans ((tY_nE hM_41 (nk (by decide))).trans ((tY_nE hM_40 (nk (by decide))).trans f_14))))))) | exact (((tY_nE hM_50 (nk (by decide))).trans ((tY_nE hM_48 (nk (by decide))).trans ((tY_nE hM_43 (nk (by decide))).trans ((tY_nE hM_42 (nk (by decide))).trans ((tY_nE hM_41 (nk (by decide))).trans ((tY_nE hM_40 (nk (by decide))).trans f_15))))))) | exact (((tY_nE hM_50 (nk (by decide))).trans ((tY_nE hM_48 (nk (by decide))).trans ((tY_nE hM_43 (nk (by decide))).trans ((tY_nE hM_42 (nk (by decide))).trans ((tY_nE hM_41 (nk (by decide))).trans ((tY_nE hM_40 (nk (by decide))).trans f_17))))))) | exact (((tY_nE hM_50 (nk (by decide))).trans ((tY_nE hM_48 (nk (by decide))).trans ((tY_nE hM_43 (nk (by decide))).trans ((tY_nE hM_42 (nk (by decide))).trans ((tY_nE hM_41 (nk (by decide))).trans ((tY_nE hM_40 (nk (by decide))).trans f_18))))))) | exact (((tY_nE hM_50 (nk (by decide))).trans ((tY_nE hM_48 (nk (by decide))).trans ((tY_nE hM_43 (nk (by decide))).trans ((tY_nE hM_42 (nk (by decide))).trans ((tY_nE hM_41 (nk (by decide))).trans ((tY_nE hM_40 (nk (by decide))).trans f_19))))))) | exact (((tY_nE hM_50 (nk (by decide))).trans ((tY_nE hM_48 (nk (by decide))).trans ((tY_nE hM_43 (nk (by decide))).trans ((tY_nE hM_42 (nk (by decide))).trans ((tY_nE hM_41 (nk (by decide))).trans ((tY_nE hM_40 (nk (by decide))).trans f_20))))))) | exact (((tY_nE hM_50 (nk (by decide))).trans ((tY_nE hM_48 (nk (by decide))).trans ((tY_nE hM_43 (nk (by decide))).trans ((tY_nE hM_42 (nk (by decide))).trans ((tY_nE hM_41 (nk (by decide))).trans ((tY_nE hM_40 (nk (by decide))).trans f_21))))))) | exact (((tY_nE hM_50 (nk (by decide))).trans ((tY_nE hM_48 (nk (by decide))).trans ((tY_nE hM_43 (nk (by decide))).trans ((tY_nE hM_42 (nk (by decide))).trans ((tY_nE hM_41 (nk (by decide))).trans ((tY_nE hM_40 (nk (by decide))).trans f_25))))))))
          rw [show ((pl.toInt.toNat : Nat) : Int) = pl.toInt by omega] at LL
          exact hQ _ _ _ _ _ hw (⟨(eR.trans (eR_Y hM_50 (bk_m (z := x_3) (by omega) (by decide))) (eR.trans (eR_Y hM_48 (bk_q (z := 1) (by decide) (by decide))) (eR.trans (eR_Y hM_43 (bk_m (z := x_3) (by omega) (by decide))) (eR.trans (eR_Y hM_42 (bk_m (z := x_3) (by omega) (by decide))) (eR.trans (eR_Y hM_41 (bk_m (z := x_3) (by omega) (by decide))) (eR.trans (eR_Y hM_40 (bk_q (z := 1) (by decide) (by decide))) f_12)))))), LL.1, LL.2, iM_50, jj.1, jj.2.1, (((tY_nE hM_50 (nk (by decide))).trans ((tY_nE hM_48 (nk (by decide))).trans ((tY_nE hM_43 (nk (by decide))).trans ((tY_nE hM_42 (nk (by decide))).trans ((tY_nE hM_41 (nk (by decide))).trans ((tY_nE hM_40 (nk (by decide))).trans f_11))))))), jj.2.2⟩) dX10_leaves_134
      · refine lv_aload_n hx hb dX10_leaves_38 rfl (lv_at hl 3 rfl) ?_
        refine ti_get (ci := 10) (k := 39) (N := 67) (T := TX10) (v := .ref (A 60 40)) C hw iw_10 rfl ob_60 (by decide) (by decide) fl_X10_84 rfl rfl dX10_leaves_39 ?_
        refine lv_bipush (v := 8) hx hb dX10_leaves_42 (by decide) ?_
        refine lv_iload_n hx hb dX10_leaves_44 rfl (lv_at hl 4 rfl) ?_
        refine lv_imul hx hb dX10_leaves_45 ?_
        refine ti_top (y := 8) (by decide) ?_
        refine lv_iload hx hb dX10_leaves_46 (lv_at hl 0 rfl) ?_
        refine lv_iadd hx hb dX10_leaves_48 ?_
        refine lv_topi (fun x_33 ex_33 => ?_)
        have tx_33 : x_33.toInt = 8 + x_4.toInt := i_add ex_33 (by decide : (8 : Int32).toInt = 8) rfl (by omega) (by omega)
        refine lv_aload_n hx hb dX10_leaves_49 rfl (lv_at hl 3 rfl) ?_
        refine ti_get (ci := 10) (k := 39) (N := 67) (T := TX10) (v := .ref (A 60 40)) C hw iw_10 rfl ob_60 (by decide) (by decide) fl_X10_84 rfl rfl dX10_leaves_50 ?_
        refine lv_bipush (v := 8) hx hb dX10_leaves_53 (by decide) ?_
        refine lv_iload_n hx hb dX10_leaves_55 rfl (lv_at hl 4 rfl) ?_
        refine lv_imul hx hb dX10_leaves_56 ?_
        refine ti_top (y := 8) (by decide) ?_
        refine lv_iload hx hb dX10_leaves_57 (lv_at hl 0 rfl) ?_
        refine lv_iadd hx hb dX10_leaves_59 ?_
        refine lv_topi (fun x_34 ex_34 => ?_)
        have tx_34 : x_34.toInt = 8 + x_4.toInt := i_add ex_34 (by decide : (8 : Int32).toInt = 8) rfl (by omega) (by omega)
        refine lv_iconst (v := 1) hx hb dX10_leaves_60 (by decide) ?_
        refine lv_iadd hx hb dX10_leaves_61 ?_
        refine lv_topi (fun x_35 ex_35 => ?_)
        have tx_35 : x_35.toInt = x_34.toInt + 1 := i_add ex_35 rfl (by decide : (1 : Int32).toInt = 1) (by omega) (by omega)
        refine ti_iald (ci := 10) (k := 39) (n := 184) C hw ob_60 (by decide) (fun _ _ => rfl) (vp_in_iff.mpr (by omega)) dX10_leaves_62 ?_
        refine lv_topi (fun x_36 ex_36 => ?_)
        have yx_36 : tY M_7 60 39 x_35.toNatClampNeg = x_36 := (ex_36.symm)
        have bx_36 : 0 ≤ x_36.toInt ∧ x_36.toInt ≤ 7 := mI_ry (k := 39) (i := x_35.toNatClampNeg) iM_7 yx_36.symm
        refine ti_iast (ci := 10) (k := 39) (n := 184) C hw ob_60 (by decide) (fun _ _ => rfl) (vp_in_iff.mpr (by omega)) dX10_leaves_63 (fun H locs hw => ?_)
        obtain ⟨M_37, hM_37⟩ : ∃ z : ti_M, z = uY M_7 60 39 (upd (tY M_7 60 39) (x_33 : Int32).toNatClampNeg x_36) := ⟨_, rfl⟩
        have hw := hw.to hM_37.symm
        have iM_37 : mI Tm M_37 := mI_up (i := x_33.toNatClampNeg) iM_7 hM_37 (ib_mk (lo := 0) (hi := 7) (by omega) (by omega))
        obtain ⟨x_38, ex_38⟩ : ∃ z : Int32, z = x_4 + 1 := ⟨_, rfl⟩
        have tx_38 : x_38.toInt = x_4.toInt + 1 := i_add ex_38 rfl (by decide) (by omega) (by omega)
        refine lv_iinc (v := x_38) (lv' := [(7, .int x_38), (6, .int x_3), (5, .int x_2), (0, .ref (A 60 0)), (1, .int 1), (2, .int pl), (3, .int ho), (4, .int t)]) hx hb dX10_leaves_64 hl (k := 0) rfl (by rw [ex_38]; rfl) (by decide) rfl (fun ls hl => ?_)
        refine lv_goto (tgt := 25) hx hb dX10_leaves_67 (by decide) ?_
        exact ih_29 x_38 M_37 _ _ _ (by omega) (by first | omega | decide) (by first | omega | decide) iM_37 (lk.trans (lk_Y hM_37 (by decide)) f_8) (((tY_nE hM_37 (nk (by decide))).trans f_9)) (((tY_nE hM_37 (nk (by decide))).trans f_10)) (((tY_nE hM_37 (nk (by decide))).trans f_11)) (eR.trans (eR_Y hM_37 (bk_m (z := x_33) (by omega) (by decide))) f_12) (fI.trans (fI_Y hM_37) f_13) (((tY_nE hM_37 (nk (by decide))).trans f_14)) (((tY_nE hM_37 (nk (by decide))).trans f_15)) (((tY_nE hM_37 (nk (by decide))).trans f_16)) (((tY_nE hM_37 (nk (by decide))).trans f_17)) (((tY_nE hM_37 (nk (by decide))).trans f_18)) (((tY_nE hM_37 (nk (by decide))).trans f_19)) (((tY_nE hM_37 (nk (by decide))).trans f_20)) (((tY_nE hM_37 (nk (by decide))).trans f_21)) (((tY_nE hM_37 (nk (by decide))).trans f_22)) (((tY_nE hM_37 (nk (by decide))).trans f_23)) (((tY_nE hM_37 (nk (by decide))).trans f_24)) (((tY_nE hM_37 (nk (by decide))).trans f_25)) (by first | omega | decide) (by first | omega | decide) (sh_s j_28 hM_37 (by show ((x_33.toInt.toNat : Nat) : Int) = _; omega) (by omega) yx_36 (by show (x_35).toInt.toNat = (x_33).toInt.toNat + 1; omega) (by omega)) hw (lv_sub hl [0, 1, 2, 3, 4, 5, 6, 7] rfl)
  exact hl_25_28 ((8 - pl.toInt : Int).toNat + 1) pl M _ _ _ (Nat.lt_succ_self _) (by first | omega | decide) (by first | omega | decide) hI lk.refl rfl rfl rfl eR.refl fI.refl rfl rfl rfl rfl rfl rfl rfl rfl rfl rfl rfl rfl (by first | omega | decide) (by first | omega | decide) (sh_0 (by omega)) hw (lv_sub hl [0, 1, 2, 3, 4, 5, 6, 7] rfl)
end
section
variable {Tc : gC} {Tm : gM}
variable {Tc : gC} {Tm : gM}
theorem dr_i {x y z w : Int32} (ey : y = x * 1103515245) (ez : z = y + 12345) (ew : w = z &&& 2147483647) (h : 0 ≤ x.toInt) : w.toInt = bq_dr x.toInt := by
  have hx : x.toBitVec.toNat = x.toInt.toNat := by
    have q : x.toInt = x.toBitVec.toInt := rfl
    rw [BitVec.toInt_eq_toNat_cond] at q
    split at q <;> omega
  have hn : w.toBitVec.toNat = (x.toInt.toNat * 1103515245 + 12345) % 2147483648 := by
    rw [ew, Int32.toBitVec_and, BitVec.toNat_and, ez, Int32.toBitVec_add, BitVec.toNat_add, ey, Int32.toBitVec_mul, BitVec.toNat_mul, hx, show (1103515245 : Int32).toBitVec.toNat = 1103515245 by decide, show (12345 : Int32).toBitVec.toNat = 12345 by decide, show (2147483647 : Int32).toBitVec.toNat = 2 ^ 31 - 1 by decide, Nat.and_two_pow_sub_one_eq_mod]
    omega
  have q : w.toInt = w.toBitVec.toInt := rfl
  rw [q, BitVec.toInt_eq_toNat_cond, if_pos (by omega), hn]
  unfold bq_dr
  omega
theorem i_shr16 {x z : Int32} (e : z = x >>> ((16 : Int32) &&& 31)) (h : 0 ≤ x.toInt) : z.toInt = x.toInt / 65536 := by
  have hz : z.toBitVec = x.toBitVec.sshiftRight 16 := by
    rw [e, Int32.toBitVec_shiftRight]
    show x.toBitVec.sshiftRight (((16 : Int32) &&& 31).toBitVec.smod 32).toNat = _
    rw [show (((16 : Int32) &&& 31).toBitVec.smod 32).toNat = 16 by decide]
  have q : z.toInt = z.toBitVec.toInt := rfl
  have q2 : x.toInt = x.toBitVec.toInt := rfl
  rw [q, hz, BitVec.toInt_sshiftRight, ← q2, Int.shiftRight_eq_div_pow]
  rfl
set_option maxHeartbeats 4000000 in
set_option maxRecDepth 100000 in
theorem z_X10_draw_0 (l : Launch) (D : va_G) (A : Nat → Nat → Nat) (cy : Nat → ClassId) (hJ : ti_inj ti_LM A) (M : ti_M) (hI : mI Tm M)  (tx rg : Nat → Int) (htr : tR tx M) (ht4 : 0 ≤ tx 4 ∧ tx 4 ≤ 8) (hr : qR (tx 4).toNat 0 rg M) (h5 : 0 ≤ rg 5) : ti_Ki l yX10_draw cX10_draw 2 (some .int) 0 ti_LM D A cy M [.ref (A 60 0), .int 0] (fun r M2 => eR 0 M2 M ∧ tY M2 60 48 = tY M 60 48 ∧ qR (tx 4).toNat 0 (pp_su rg 5 (bq_dr (rg 5))) M2 ∧ r.toInt = bq_dr (rg 5) / 65536 % 100 ∧ mI Tm M2 ∧ qw M2 M ∧ tY M2 60 34 = tY M 60 34) := by
  refine ti_eI yp_X10_draw hJ ti_LM_nd (Nat.le_of_ble_eq_true rfl) ?_
  intro p e s m args below meth c Q H0 C hQ hw ls hl
  have hx := C.1
  have hb := C.2.1
  have hl : lv_has ls 2 [(0, .ref (A 60 0)), (1, .int 0)] := hl
  refine lv_aload_n hx hb dX10_draw_0 rfl (lv_at hl 0 rfl) ?_
  refine ti_get (ci := 10) (k := 36) (N := 67) (T := TX10) (v := .ref (A 60 37)) C hw iw_10 rfl ob_60 (by decide) (by decide) fl_X10_75 rfl rfl dX10_draw_1 ?_
  refine lv_iload_n hx hb dX10_draw_4 rfl (lv_at hl 1 rfl) ?_
  refine lv_aload_n hx hb dX10_draw_5 rfl (lv_at hl 0 rfl) ?_
  refine ti_get (ci := 10) (k := 36) (N := 67) (T := TX10) (v := .ref (A 60 37)) C hw iw_10 rfl ob_60 (by decide) (by decide) fl_X10_75 rfl rfl dX10_draw_6 ?_
  refine lv_iload_n hx hb dX10_draw_9 rfl (lv_at hl 1 rfl) ?_
  refine ti_iald (ci := 10) (k := 36) (n := 23) C hw ob_60 (by decide) (fun _ _ => rfl) (by unfold vp_in; decide) dX10_draw_10 ?_
  refine lv_topi (fun x_1 ex_1 => ?_)
  have yx_1 : tY M 60 36 0 = x_1 := ((congrArg _ (by decide)).symm.trans ex_1.symm)
  have L_2 : rg 5 = x_1.toInt := (hr.1.2.2.2).trans (congrArg Int32.toInt (yx_1))
  refine lv_ldcw (v := 1103515245) hx hb C.2.2.2.1 (C.2.2.1 _ cn_X10_400) dX10_draw_11 ?_
  refine lv_imul hx hb dX10_draw_14 ?_
  refine lv_topi (fun x_3 ex_3 => ?_)
  refine lv_sipush (v := 12345) hx hb dX10_draw_15 (by decide) ?_
  refine lv_iadd hx hb dX10_draw_18 ?_
  refine lv_topi (fun x_4 ex_4 => ?_)
  refine lv_ldcw (v := 2147483647) hx hb C.2.2.2.1 (C.2.2.1 _ cn_X10_403) dX10_draw_19 ?_
  refine lv_iand hx hb dX10_draw_22 ?_
  refine lv_topi (fun x_5 ex_5 => ?_)
  have EZ : x_5.toInt = bq_dr (rg 5) := by rw [show rg 5 = x_1.toInt by omega]; exact dr_i ex_3 ex_4 ex_5 (by omega)
  have E0 : 0 ≤ bq_dr (rg 5) := by unfold bq_dr; omega
  refine ti_iast (ci := 10) (k := 36) (n := 23) C hw ob_60 (by decide) (fun _ _ => rfl) (by unfold vp_in; decide) dX10_draw_23 (fun H locs hw => ?_)
  obtain ⟨M_6, hM_6⟩ : ∃ z : ti_M, z = uY M 60 36 (upd (tY M 60 36) (0 : Int32).toNatClampNeg x_5) := ⟨_, rfl⟩
  have hw := hw.to hM_6.symm
  have iM_6 : mI Tm M_6 := mI_up (i := 0) hI hM_6 trivial
  have hs_7 : qR (tx 4).toNat 0 (pp_su rg 5 x_5.toInt) M_6 := qR_36 (z := 0) hr (by decide) rfl hM_6
  obtain ⟨g_8, eg_8⟩ : ∃ z : Nat → Int, z = pp_su rg 5 x_5.toInt := ⟨_, rfl⟩
  rw [← eg_8] at hs_7
  have sg_8 : g_8 5 = x_5.toInt := by rw [eg_8, su_s]
  refine lv_aload_n hx hb dX10_draw_24 rfl (lv_at hl 0 rfl) ?_
  refine ti_get (ci := 10) (k := 36) (N := 67) (T := TX10) (v := .ref (A 60 37)) C hw iw_10 rfl ob_60 (by decide) (by decide) fl_X10_75 rfl rfl dX10_draw_25 ?_
  refine lv_iload_n hx hb dX10_draw_28 rfl (lv_at hl 1 rfl) ?_
  refine ti_iald (ci := 10) (k := 36) (n := 23) C hw ob_60 (by decide) (fun _ _ => rfl) (by unfold vp_in; decide) dX10_draw_29 ?_
  refine ti_top (y := x_5) ((congrArg _ (by decide)).trans ((cg (tY_uE hM_6) 0).trans (upl (by decide)))) ?_
  have L_9 : g_8 5 = x_5.toInt := (hs_7.1.2.2.2).trans (congrArg Int32.toInt ((cg (tY_uE hM_6) 0).trans (upl (by decide))))
  refine lv_bipush (v := 16) hx hb dX10_draw_30 (by decide) ?_
  refine lv_ishr hx hb dX10_draw_32 ?_
  refine lv_topi (fun x_10 ex_10 => ?_)
  refine lv_bipush (v := 100) hx hb dX10_draw_33 (by decide) ?_
  have ES : x_10.toInt = bq_dr (rg 5) / 65536 := by rw [← EZ]; exact i_shr16 ex_10 (by omega)
  have EB : 0 ≤ x_10.toInt := by omega
  refine lv_irem hx hb dX10_draw_35 (by decide) ?_
  refine lv_topi (fun x_11 ex_11 => ?_)
  have bx_11 := i_rem ex_11 rfl (by decide : (100 : Int32).toInt = 100) (by omega) (by decide)
  exact hQ _ _ _ _ _ _ hw rfl (⟨(eR_Y hM_6 (bk_q (z := 0) (by decide) (by decide))), ((tY_nE hM_6 (nk (by decide)))), (by rw [← EZ, ← eg_8]; exact hs_7), (by rw [← ES]; omega), iM_6, (qw_Y hM_6 (by decide)), ((tY_nE hM_6 (nk (by decide))))⟩) dX10_draw_36
set_option maxHeartbeats 4000000 in
set_option maxRecDepth 100000 in
theorem z_X10_draw_1 (l : Launch) (D : va_G) (A : Nat → Nat → Nat) (cy : Nat → ClassId) (hJ : ti_inj ti_LM A) (M : ti_M) (hI : mI Tm M)  (tx rg : Nat → Int) (htr : tR tx M) (ht4 : 0 ≤ tx 4 ∧ tx 4 ≤ 8) (hr : qR (tx 4).toNat 1 rg M) (h5 : 0 ≤ rg 5) : ti_Ki l yX10_draw cX10_draw 2 (some .int) 0 ti_LM D A cy M [.ref (A 60 0), .int 1] (fun r M2 => eR 1 M2 M ∧ tY M2 60 48 = tY M 60 48 ∧ qR (tx 4).toNat 1 (pp_su rg 5 (bq_dr (rg 5))) M2 ∧ r.toInt = bq_dr (rg 5) / 65536 % 100 ∧ mI Tm M2 ∧ qw M2 M ∧ tY M2 60 34 = tY M 60 34) := by
  refine ti_eI yp_X10_draw hJ ti_LM_nd (Nat.le_of_ble_eq_true rfl) ?_
  intro p e s m args below meth c Q H0 C hQ hw ls hl
  have hx := C.1
  have hb := C.2.1
  have hl : lv_has ls 2 [(0, .ref (A 60 0)), (1, .int 1)] := hl
  refine lv_aload_n hx hb dX10_draw_0 rfl (lv_at hl 0 rfl) ?_
  refine ti_get (ci := 10) (k := 36) (N := 67) (T := TX10) (v := .ref (A 60 37)) C hw iw_10 rfl ob_60 (by decide) (by decide) fl_X10_75 rfl rfl dX10_draw_1 ?_
  refine lv_iload_n hx hb dX10_draw_4 rfl (lv_at hl 1 rfl) ?_
  refine lv_aload_n hx hb dX10_draw_5 rfl (lv_at hl 0 rfl) ?_
  refine ti_get (ci := 10) (k := 36) (N := 67) (T := TX10) (v := .ref (A 60 37)) C hw iw_10 rfl ob_60 (by decide) (by decide) fl_X10_75 rfl rfl dX10_draw_6 ?_
  refine lv_iload_n hx hb dX10_draw_9 rfl (lv_at hl 1 rfl) ?_
  refine ti_iald (ci := 10) (k := 36) (n := 23) C hw ob_60 (by decide) (fun _ _ => rfl) (by unfold vp_in; decide) dX10_draw_10 ?_
  refine lv_topi (fun x_1 ex_1 => ?_)
  have yx_1 : tY M 60 36 1 = x_1 := ((congrArg _ (by decide)).symm.trans ex_1.symm)
  have L_2 : rg 5 = x_1.toInt := (hr.1.2.2.2).trans (congrArg Int32.toInt (yx_1))
  refine lv_ldcw (v := 1103515245) hx hb C.2.2.2.1 (C.2.2.1 _ cn_X10_400) dX10_draw_11 ?_
  refine lv_imul hx hb dX10_draw_14 ?_
  refine lv_topi (fun x_3 ex_3 => ?_)
  refine lv_sipush (v := 12345) hx hb dX10_draw_15 (by decide) ?_
  refine lv_iadd hx hb dX10_draw_18 ?_
  refine lv_topi (fun x_4 ex_4 => ?_)
  refine lv_ldcw (v := 2147483647) hx hb C.2.2.2.1 (C.2.2.1 _ cn_X10_403) dX10_draw_19 ?_
  refine lv_iand hx hb dX10_draw_22 ?_
  refine lv_topi (fun x_5 ex_5 => ?_)
  have EZ : x_5.toInt = bq_dr (rg 5) := by rw [show rg 5 = x_1.toInt by omega]; exact dr_i ex_3 ex_4 ex_5 (by omega)
  have E0 : 0 ≤ bq_dr (rg 5) := by unfold bq_dr; omega
  refine ti_iast (ci := 10) (k := 36) (n := 23) C hw ob_60 (by decide) (fun _ _ => rfl) (by unfold vp_in; decide) dX10_draw_23 (fun H locs hw => ?_)
  obtain ⟨M_6, hM_6⟩ : ∃ z : ti_M, z = uY M 60 36 (upd (tY M 60 36) (1 : Int32).toNatClampNeg x_5) := ⟨_, rfl⟩
  have hw := hw.to hM_6.symm
  have iM_6 : mI Tm M_6 := mI_up (i := 1) hI hM_6 trivial
  have hs_7 : qR (tx 4).toNat 1 (pp_su rg 5 x_5.toInt) M_6 := qR_36 (z := 1) hr (by decide) rfl hM_6
  obtain ⟨g_8, eg_8⟩ : ∃ z : Nat → Int, z = pp_su rg 5 x_5.toInt := ⟨_, rfl⟩
  rw [← eg_8] at hs_7
  have sg_8 : g_8 5 = x_5.toInt := by rw [eg_8, su_s]
  refine lv_aload_n hx hb dX10_draw_24 rfl (lv_at hl 0 rfl) ?_
  refine ti_get (ci := 10) (k := 36) (N := 67) (T := TX10) (v := .ref (A 60 37)) C hw iw_10 rfl ob_60 (by decide) (by decide) fl_X10_75 rfl rfl dX10_draw_25 ?_
  refine lv_iload_n hx hb dX10_draw_28 rfl (lv_at hl 1 rfl) ?_
  refine ti_iald (ci := 10) (k := 36) (n := 23) C hw ob_60 (by decide) (fun _ _ => rfl) (by unfold vp_in; decide) dX10_draw_29 ?_
  refine ti_top (y := x_5) ((congrArg _ (by decide)).trans ((cg (tY_uE hM_6) 1).trans (upl (by decide)))) ?_
  have L_9 : g_8 5 = x_5.toInt := (hs_7.1.2.2.2).trans (congrArg Int32.toInt ((cg (tY_uE hM_6) 1).trans (upl (by decide))))
  refine lv_bipush (v := 16) hx hb dX10_draw_30 (by decide) ?_
  refine lv_ishr hx hb dX10_draw_32 ?_
  refine lv_topi (fun x_10 ex_10 => ?_)
  refine lv_bipush (v := 100) hx hb dX10_draw_33 (by decide) ?_
  have ES : x_10.toInt = bq_dr (rg 5) / 65536 := by rw [← EZ]; exact i_shr16 ex_10 (by omega)
  have EB : 0 ≤ x_10.toInt := by omega
  refine lv_irem hx hb dX10_draw_35 (by decide) ?_
  refine lv_topi (fun x_11 ex_11 => ?_)
  have bx_11 := i_rem ex_11 rfl (by decide : (100 : Int32).toInt = 100) (by omega) (by decide)
  exact hQ _ _ _ _ _ _ hw rfl (⟨(eR_Y hM_6 (bk_q (z := 1) (by decide) (by decide))), ((tY_nE hM_6 (nk (by decide)))), (by rw [← EZ, ← eg_8]; exact hs_7), (by rw [← ES]; omega), iM_6, (qw_Y hM_6 (by decide)), ((tY_nE hM_6 (nk (by decide))))⟩) dX10_draw_36
set_option maxHeartbeats 4000000 in
set_option maxRecDepth 100000 in
theorem z_X10_arrive_0 (l : Launch) (D : va_G) (A : Nat → Nat → Nat) (cy : Nat → ClassId) (hJ : ti_inj ti_LM A) (M : ti_M) (hI : mI Tm M) (hC : mC M 0) (t : Int32) (tx rg : Nat → Int) (htr : tR tx M) (ht4 : 0 ≤ tx 4 ∧ tx 4 ≤ 8) (hr : qR (tx 4).toNat 0 rg M) (hV : qV (tx 4).toNat 0 rg M) (hwf : wF tx rg) (htW : tW tx) (htm : t.toInt = rg 2) : ti_Kv l yX10_arrive cX10_arrive 5 1 ti_LM D A cy M [.ref (A 60 0), .int 0, .int t] (fun M2 => eR 0 M2 M ∧ qR (tx 4).toNat 0 (bq_wl tx (tx 4).toNat rg) M2 ∧ qV (tx 4).toNat 0 (bq_wl tx (tx 4).toNat rg) M2 ∧ mI Tm M2 ∧ rq 0 M2 M ∧ mC M2 0 ∧ tY M2 60 34 = tY M 60 34) := by
  refine ti_eV yp_X10_arrive hJ ti_LM_nd (Nat.le_of_ble_eq_true rfl) ?_
  intro p e s m args below meth c Q H0 C hQ hw ls hl
  have hx := C.1
  have hb := C.2.1
  have hl : lv_has ls 5 [(0, .ref (A 60 0)), (1, .int 0), (2, .int t)] := hl
  have hl_0_11 : ∀ (n_12 : Nat) (M_1 : ti_M) (g_6 : Nat → Int) (H : Heap) (locs : List Loc) (ls : Array Slot), (((zc (tY M_1 60 40) 0 : Nat) : Int) : Int).toNat < n_12 → (mI Tm M_1) → (rq 0 M_1 M) → (mC M_1 0) → (tY M_1 60 34 = tY M 60 34) → (eR 0 M_1 M) → (qR (tx 4).toNat 0 g_6 M_1) → (∃ f : Nat, bc0 g_6 ≤ (f : Int) + (8 - tx 4) ∧ bq_wl tx f g_6 = bq_wl tx (tx 4).toNat rg) → (wF tx g_6) → (qV (tx 4).toNat 0 g_6 M_1) → (g_6 2 = rg 2) → ti_H ti_LM D A cy H0 M_1 H locs → lv_has ls 5 [(0, .ref (A 60 0)), (1, .int 0), (2, .int t)] → W p l e (ti_rm 1) s m args below meth c H locs 0 0 Q (F0 m 0 ls []) := by
    intro n_12
    induction n_12 with
    | zero => intro M_1 g_6 H locs ls hf_12; exact absurd hf_12 (Nat.not_lt_zero _)
    | succ n_12 ih_12 =>
      intro M_1 g_6 H locs ls hf_12 iM_1 f_2 f_3 f_4 f_5 hs_7 j_8 j_9 j_10 j_11 hw hl
      refine lv_iconst (v := (-1)) hx hb dX10_arrive_0 (by decide) ?_
      refine lv_istore_n (lv' := [(3, .int (-1)), (0, .ref (A 60 0)), (1, .int 0), (2, .int t)]) hx hb dX10_arrive_1 rfl hl (by decide) rfl (fun ls hl => ?_)
      refine lv_iconst (v := 0) hx hb dX10_arrive_2 (by decide) ?_
      refine lv_istore (lv' := [(4, .int 0), (3, .int (-1)), (0, .ref (A 60 0)), (1, .int 0), (2, .int t)]) hx hb dX10_arrive_3 hl (by decide) rfl (fun ls hl => ?_)
      have hl_5_20 : ∀ (n_21 : Nat) (x_13 : Int32) (x_16 : Int32) (H : Heap) (locs : List Loc) (ls : Array Slot), (8 - x_13.toInt : Int).toNat < n_21 → (0 ≤ x_13.toInt) → (x_13.toInt ≤ 8) → ((-1) ≤ x_16.toInt) → (x_16.toInt ≤ 7) → (bq_nf tx g_6 ((tx 4).toNat - (x_13.toInt).toNat) (x_13.toInt).toNat (x_16.toInt) = bq_nx tx g_6) → (x_16.toInt = -1 ∨ x_16.toInt < tx 4) → ti_H ti_LM D A cy H0 M_1 H locs → lv_has ls 5 [(4, .int x_13), (3, .int x_16), (0, .ref (A 60 0)), (1, .int 0), (2, .int t)] → W p l e (ti_rm 1) s m args below meth c H locs 0 0 Q (F0 m 5 ls []) := by
        intro n_21
        induction n_21 with
        | zero => intro x_13 x_16 H locs ls hf_21; exact absurd hf_21 (Nat.not_lt_zero _)
        | succ n_21 ih_21 =>
          intro x_13 x_16 H locs ls hf_21 b_14 b_15 b_17 b_18 j_19 j_20 hw hl
          refine lv_iload hx hb dX10_arrive_5 (lv_at hl 0 rfl) ?_
          refine lv_aload_n hx hb dX10_arrive_7 rfl (lv_at hl 2 rfl) ?_
          refine ti_get (ci := 10) (k := 3) (N := 67) (T := TX10) (v := .ref (A 60 4)) C hw iw_10 rfl ob_60 (by decide) (by decide) fl_X10_13 rfl rfl dX10_arrive_8 ?_
          refine lv_iconst (v := 0) hx hb dX10_arrive_11 (by decide) ?_
          refine ti_iald (ci := 10) (k := 3) (n := 22) C hw ob_60 (by decide) (fun _ _ => rfl) (by unfold vp_in; decide) dX10_arrive_12 ?_
          refine lv_topi (fun x_22 ex_22 => ?_)
          have yx_22 : tY M_1 60 3 0 = x_22 := ((congrArg _ (by decide)).symm.trans ex_22.symm)
          have bx_22 : 0 ≤ x_22.toInt ∧ x_22.toInt ≤ 8 := mI_rn (i := 0) iM_1 yx_22.symm (fun _ h => h)
          have zx_22 : (tY M_1 60 3 0).toInt = x_22.toInt := by rw [yx_22]
          have wx_22 : tY M 60 3 0 = x_22 := ((cg (f_2.1 3 (by decide) (by decide)) 0)).symm.trans yx_22
          have zwx_22 : (tY M 60 3 0).toInt = x_22.toInt := by rw [wx_22]
          have L_23 : tx 4 = x_22.toInt := (htr.1.1).trans ((congrArg Int32.toInt (cg ((f_2.1 3 (by decide) (by decide))) 0)).symm.trans (congrArg Int32.toInt ((cg (f_2.1 3 (by decide) (by decide)) 0).trans wx_22)))
          refine sb_icmp_ge (tgt := 112) hx hb rfl rfl dX10_arrive_13 (by decide) (fun c_13_23 => ?_) (fun c_13_23 => ?_)
          · have NX : bq_nx tx g_6 = x_16.toInt := by rw [← j_19, nf_end (by omega)]
            have NA := nx_at (s := g_6) htW
            rw [NX] at NA
            obtain ⟨f9, hf9, he9⟩ := j_8
            refine lv_iload_n hx hb dX10_arrive_112 rfl (lv_at hl 1 rfl) ?_
            refine lv_iconst (v := (-1)) hx hb dX10_arrive_113 (by decide) ?_
            refine sb_icmp_ne (tgt := 118) hx hb rfl (by decide : ((-1) : Int32).toInt = (-1)) dX10_arrive_114 (by decide) (fun c_114_53 => ?_) (fun c_114_53 => ?_)
            · have S0 : g_6 (128 + x_16.toInt.toNat) = 0 := by omega
              have S3 := wF_s3 htW j_9 (m := x_16.toInt.toNat) (by omega) S0
              have W8 := wF_8 j_9
              have BG := bc0_ge htW j_9 (m := x_16.toInt.toNat) (by omega) S0
              have WA := wF_ap htW j_9 (m := x_16.toInt) (by omega) (by omega) S0
              have g2 : g_6 2 = t.toInt := by rw [j_11]; omega
              refine lv_aload_n hx hb dX10_arrive_118 rfl (lv_at hl 2 rfl) ?_
              refine lv_iload_n hx hb dX10_arrive_119 rfl (lv_at hl 3 rfl) ?_
              refine lv_iload_n hx hb dX10_arrive_120 rfl (lv_at hl 1 rfl) ?_
              refine lv_iload_n hx hb dX10_arrive_121 rfl (lv_at hl 4 rfl) ?_
              refine ti_callVv (ci := 10) (av := [.int 0, .int x_16, .int t]) C hw (z_X10_joins_0 l D A cy hJ M_1 iM_1 f_3 x_16 t (by first | omega | decide | (have l0 : (0 : Int32).toInt = 0 := (by decide); have l2 : (2 : Int32).toInt = 2 := (by decide); have l3 : (3 : Int32).toInt = 3 := (by decide); omega)) (by first | omega | decide | (have l0 : (0 : Int32).toInt = 0 := (by decide); have l2 : (2 : Int32).toInt = 2 := (by decide); have l3 : (3 : Int32).toInt = 3 := (by decide); omega)) (fun i hi => by rw [show i = 8 * 0 + x_16.toInt.toNat by omega]; have z0 := (hs_7.2.2.2.1 x_16.toInt.toNat (by omega)).1; omega) tx g_6 (tR_lw htr (eR_lw (q := 0) f_5)) ht4 hs_7 j_10 (by omega) S0 (by omega) (by omega)) ⟨ml_X10_359, ym_X10_joins, yv_X10_joins, yi_X10_joins, yc_X10_joins⟩ yd_X10_joins ob_60 (by decide) rfl rfl hl.1 (Nat.le_of_ble_eq_true rfl) ⟨by decide, by decide⟩ ⟨Nat.zero_le _, Nat.zero_le _⟩ dX10_arrive_122 (fun M_56 H locs hp_56 hw => ?_)
              obtain ⟨erM_56, hrM_56, qvM_56, hqM_56⟩ := hp_56
              obtain ⟨iM_56, q_57, q_58, q_59, q_60⟩ := hqM_56
              obtain ⟨g_61, eg_61⟩ : ∃ z : Nat → Int, z = bq_ap g_6 x_16.toInt := ⟨_, rfl⟩
              rw [← eg_61] at hrM_56
              rw [← eg_61] at qvM_56
              have WP : wF tx g_61 := by rw [eg_61]; exact WA.1
              have WB := WA.2
              rw [← eg_61] at WB
              have WN : ∃ f : Nat, bc0 g_61 ≤ (f : Int) + (8 - tx 4) ∧ bq_wl tx f g_61 = bq_wl tx (tx 4).toNat rg := ⟨f9 - 1, by omega, by rw [← he9, wl_go (tx := tx) (s := g_6) (f := f9) (f' := f9 - 1) (by omega) (by omega), NX, ← eg_61]⟩
              refine lv_goto (tgt := 0) hx hb dX10_arrive_125 (by decide) ?_
              exact ih_12 M_56 g_61 _ _ _ (by omega) iM_56 (rq.trans q_57 f_2) q_58 (((q_59).trans f_4)) (eR.trans erM_56 f_5) hrM_56 WN WP qvM_56 (by rw [eg_61, ap_k (by decide)]; exact j_11) hw (lv_sub hl [2, 3, 4] rfl)
            · exact hQ _ _ _ _ _ hw (⟨f_5, (by rw [← he9, wl_end (Or.inr (by omega))]; exact hs_7), (by rw [← he9, wl_end (Or.inr (by omega))]; exact j_10), iM_1, f_2, f_3, ((f_4))⟩) dX10_arrive_117
          · have g2 : g_6 2 = t.toInt := by rw [j_11]; omega
            refine lv_aload_n hx hb dX10_arrive_16 rfl (lv_at hl 2 rfl) ?_
            refine ti_get (ci := 10) (k := 40) (N := 67) (T := TX10) (v := .ref (A 60 41)) C hw iw_10 rfl ob_60 (by decide) (by decide) fl_X10_87 rfl rfl dX10_arrive_17 ?_
            refine lv_bipush (v := 8) hx hb dX10_arrive_20 (by decide) ?_
            refine lv_iload_n hx hb dX10_arrive_22 rfl (lv_at hl 3 rfl) ?_
            refine lv_imul hx hb dX10_arrive_23 ?_
            refine ti_top (y := 0) (by decide) ?_
            refine lv_iload hx hb dX10_arrive_24 (lv_at hl 0 rfl) ?_
            refine lv_iadd hx hb dX10_arrive_26 ?_
            refine lv_topi (fun x_25 ex_25 => ?_)
            have tx_25 : x_25.toInt = 0 + x_13.toInt := i_add ex_25 (by decide : (0 : Int32).toInt = 0) rfl (by omega) (by omega)
            refine ti_iald (ci := 10) (k := 40) (n := 184) C hw ob_60 (by decide) (fun _ _ => rfl) (vp_in_iff.mpr (by omega)) dX10_arrive_27 ?_
            refine lv_topi (fun x_26 ex_26 => ?_)
            have yx_26 : tY M_1 60 40 x_25.toNatClampNeg = x_26 := (ex_26.symm)
            have zx_26 : (tY M_1 60 40 x_25.toNatClampNeg).toInt = x_26.toInt := by rw [yx_26]
            have L_27 : g_6 (128 + x_13.toInt.toNat) = x_26.toInt := ((hs_7.2.2.2.1 (x_13.toInt.toNat) (by omega)).1).trans (rd_k (n := 8 * 0 + x_13.toInt.toNat) (by omega) (yx_26))
            refine sb_if_ne (tgt := 106) hx hb rfl dX10_arrive_28 (by decide) (fun c_28_27 => ?_) (fun c_28_27 => ?_)
            · obtain ⟨x_47, ex_47⟩ : ∃ z : Int32, z = x_13 + 1 := ⟨_, rfl⟩
              have tx_47 : x_47.toInt = x_13.toInt + 1 := i_add ex_47 rfl (by decide) (by omega) (by omega)
              refine lv_iinc (v := x_47) (lv' := [(4, .int x_47), (3, .int x_16), (0, .ref (A 60 0)), (1, .int 0), (2, .int t)]) hx hb dX10_arrive_106 hl (k := 0) rfl (by rw [ex_47]; rfl) (by decide) rfl (fun ls hl => ?_)
              refine lv_goto (tgt := 5) hx hb dX10_arrive_109 (by decide) ?_
              exact ih_21 x_47 x_16 _ _ _ (by omega) (by first | omega | decide) (by first | omega | decide) (by first | omega | decide) (by first | omega | decide) (by rw [← j_19, nf_go (tx := tx) (s := g_6) (f := (tx 4).toNat - x_13.toInt.toNat) (f' := (tx 4).toNat - x_47.toInt.toNat) (m := x_13.toInt.toNat) (b := x_16.toInt) (by omega), if_neg (by omega), show x_47.toInt.toNat = x_13.toInt.toNat + 1 by omega]) (by first | omega | decide) hw (lv_sub hl [0, 1, 2, 3, 4] rfl)
            · refine lv_aload_n hx hb dX10_arrive_31 rfl (lv_at hl 2 rfl) ?_
              refine ti_get (ci := 10) (k := 44) (N := 67) (T := TX10) (v := .ref (A 60 45)) C hw iw_10 rfl ob_60 (by decide) (by decide) fl_X10_99 rfl rfl dX10_arrive_32 ?_
              refine lv_bipush (v := 8) hx hb dX10_arrive_35 (by decide) ?_
              refine lv_iload_n hx hb dX10_arrive_37 rfl (lv_at hl 3 rfl) ?_
              refine lv_imul hx hb dX10_arrive_38 ?_
              refine ti_top (y := 0) (by decide) ?_
              refine lv_iload hx hb dX10_arrive_39 (lv_at hl 0 rfl) ?_
              refine lv_iadd hx hb dX10_arrive_41 ?_
              refine lv_topi (fun x_29 ex_29 => ?_)
              have tx_29 : x_29.toInt = 0 + x_13.toInt := i_add ex_29 (by decide : (0 : Int32).toInt = 0) rfl (by omega) (by omega)
              refine ti_iald (ci := 10) (k := 44) (n := 184) C hw ob_60 (by decide) (fun _ _ => rfl) (vp_in_iff.mpr (by omega)) dX10_arrive_42 ?_
              refine lv_topi (fun x_30 ex_30 => ?_)
              have yx_30 : tY M_1 60 44 x_29.toNatClampNeg = x_30 := (ex_30.symm)
              have L_31 : g_6 (144 + x_13.toInt.toNat) = x_30.toInt := ((hs_7.2.2.2.1 (x_13.toInt.toNat) (by omega)).2.1).trans (rd_k (n := 8 * 0 + x_13.toInt.toNat) (by omega) (yx_30))
              refine lv_iload_n hx hb dX10_arrive_43 rfl (lv_at hl 4 rfl) ?_
              refine sb_icmp_eq (tgt := 50) hx hb rfl rfl dX10_arrive_44 (by decide) (fun c_44_31 => ?_) (fun c_44_31 => ?_)
              · refine lv_iload_n hx hb dX10_arrive_50 rfl (lv_at hl 1 rfl) ?_
                refine lv_iconst (v := (-1)) hx hb dX10_arrive_51 (by decide) ?_
                refine sb_icmp_eq (tgt := 103) hx hb rfl (by decide : ((-1) : Int32).toInt = (-1)) dX10_arrive_52 (by decide) (fun c_52_32 => ?_) (fun c_52_32 => ?_)
                · refine lv_iload hx hb dX10_arrive_103 (lv_at hl 0 rfl) ?_
                  refine lv_istore_n (lv' := [(3, .int x_13), (4, .int x_13), (0, .ref (A 60 0)), (1, .int 0), (2, .int t)]) hx hb dX10_arrive_105 rfl hl (by decide) rfl (fun ls hl => ?_)
                  obtain ⟨x_51, ex_51⟩ : ∃ z : Int32, z = x_13 + 1 := ⟨_, rfl⟩
                  have tx_51 : x_51.toInt = x_13.toInt + 1 := i_add ex_51 rfl (by decide) (by omega) (by omega)
                  refine lv_iinc (v := x_51) (lv' := [(4, .int x_51), (3, .int x_13), (0, .ref (A 60 0)), (1, .int 0), (2, .int t)]) hx hb dX10_arrive_106 hl (k := 1) rfl (by rw [ex_51]; rfl) (by decide) rfl (fun ls hl => ?_)
                  refine lv_goto (tgt := 5) hx hb dX10_arrive_109 (by decide) ?_
                  exact ih_21 x_51 x_13 _ _ _ (by omega) (by first | omega | decide) (by first | omega | decide) (by first | omega | decide) (by first | omega | decide) (by rw [← j_19, nf_go (tx := tx) (s := g_6) (f := (tx 4).toNat - x_13.toInt.toNat) (f' := (tx 4).toNat - x_51.toInt.toNat) (m := x_13.toInt.toNat) (b := x_16.toInt) (by omega), if_pos (by omega), show x_51.toInt.toNat = x_13.toInt.toNat + 1 by omega]; exact congrArg _ (by omega)) (by first | omega | decide) hw (lv_sub hl [0, 1, 2, 3, 4] rfl)
                · refine lv_aload_n hx hb dX10_arrive_55 rfl (lv_at hl 2 rfl) ?_
                  refine ti_get (ci := 10) (k := 6) (N := 67) (T := TX10) (v := .ref (A 60 7)) C hw iw_10 rfl ob_60 (by decide) (by decide) fl_X10_22 rfl rfl dX10_arrive_56 ?_
                  refine lv_iload hx hb dX10_arrive_59 (lv_at hl 0 rfl) ?_
                  refine ti_iald (ci := 10) (k := 6) (n := 16) C hw ob_60 (by decide) (fun _ _ => rfl) (vp_in_iff.mpr (by omega)) dX10_arrive_61 ?_
                  refine lv_topi (fun x_34 ex_34 => ?_)
                  have yx_34 : tY M_1 60 6 x_13.toNatClampNeg = x_34 := (ex_34.symm)
                  have wx_34 : tY M 60 6 x_13.toNatClampNeg = x_34 := ((cg (f_2.1 6 (by decide) (by decide)) x_13.toNatClampNeg)).symm.trans yx_34
                  have L_35 : tx (100 + 16 * x_13.toInt.toNat + 2) = x_34.toInt := (htr.2.2.1 (x_13.toInt.toNat) (by omega) (by omega)).2.1.trans ((congrArg Int32.toInt (cg ((f_2.1 6 (by decide) (by decide))) (x_13.toInt.toNat))).symm.trans (rd_k (n := x_13.toInt.toNat) (by omega) ((cg (f_2.1 6 (by decide) (by decide)) x_13.toNatClampNeg).trans wx_34)))
                  refine lv_aload_n hx hb dX10_arrive_62 rfl (lv_at hl 2 rfl) ?_
                  refine ti_get (ci := 10) (k := 6) (N := 67) (T := TX10) (v := .ref (A 60 7)) C hw iw_10 rfl ob_60 (by decide) (by decide) fl_X10_22 rfl rfl dX10_arrive_63 ?_
                  refine lv_iload_n hx hb dX10_arrive_66 rfl (lv_at hl 1 rfl) ?_
                  refine ti_iald (ci := 10) (k := 6) (n := 16) C hw ob_60 (by decide) (fun _ _ => rfl) (vp_in_iff.mpr (by omega)) dX10_arrive_67 ?_
                  refine lv_topi (fun x_36 ex_36 => ?_)
                  have yx_36 : tY M_1 60 6 x_16.toNatClampNeg = x_36 := (ex_36.symm)
                  have wx_36 : tY M 60 6 x_16.toNatClampNeg = x_36 := ((cg (f_2.1 6 (by decide) (by decide)) x_16.toNatClampNeg)).symm.trans yx_36
                  have L_37 : tx (100 + 16 * x_16.toInt.toNat + 2) = x_36.toInt := (htr.2.2.1 (x_16.toInt.toNat) (by omega) (by omega)).2.1.trans ((congrArg Int32.toInt (cg ((f_2.1 6 (by decide) (by decide))) (x_16.toInt.toNat))).symm.trans (rd_k (n := x_16.toInt.toNat) (by omega) ((cg (f_2.1 6 (by decide) (by decide)) x_16.toNatClampNeg).trans wx_36)))
                  refine sb_icmp_lt (tgt := 103) hx hb rfl rfl dX10_arrive_68 (by decide) (fun c_68_37 => ?_) (fun c_68_37 => ?_)
                  · refine lv_iload hx hb dX10_arrive_103 (lv_at hl 0 rfl) ?_
                    refine lv_istore_n (lv' := [(3, .int x_13), (4, .int x_13), (0, .ref (A 60 0)), (1, .int 0), (2, .int t)]) hx hb dX10_arrive_105 rfl hl (by decide) rfl (fun ls hl => ?_)
                    obtain ⟨x_52, ex_52⟩ : ∃ z : Int32, z = x_13 + 1 := ⟨_, rfl⟩
                    have tx_52 : x_52.toInt = x_13.toInt + 1 := i_add ex_52 rfl (by decide) (by omega) (by omega)
                    refine lv_iinc (v := x_52) (lv' := [(4, .int x_52), (3, .int x_13), (0, .ref (A 60 0)), (1, .int 0), (2, .int t)]) hx hb dX10_arrive_106 hl (k := 1) rfl (by rw [ex_52]; rfl) (by decide) rfl (fun ls hl => ?_)
                    refine lv_goto (tgt := 5) hx hb dX10_arrive_109 (by decide) ?_
                    exact ih_21 x_52 x_13 _ _ _ (by omega) (by first | omega | decide) (by first | omega | decide) (by first | omega | decide) (by first | omega | decide) (by rw [← j_19, nf_go (tx := tx) (s := g_6) (f := (tx 4).toNat - x_13.toInt.toNat) (f' := (tx 4).toNat - x_52.toInt.toNat) (m := x_13.toInt.toNat) (b := x_16.toInt) (by omega), if_pos (by omega), show x_52.toInt.toNat = x_13.toInt.toNat + 1 by omega]; exact congrArg _ (by omega)) (by first | omega | decide) hw (lv_sub hl [0, 1, 2, 3, 4] rfl)
                  · refine lv_aload_n hx hb dX10_arrive_71 rfl (lv_at hl 2 rfl) ?_
                    refine ti_get (ci := 10) (k := 6) (N := 67) (T := TX10) (v := .ref (A 60 7)) C hw iw_10 rfl ob_60 (by decide) (by decide) fl_X10_22 rfl rfl dX10_arrive_72 ?_
                    refine lv_iload hx hb dX10_arrive_75 (lv_at hl 0 rfl) ?_
                    refine ti_iald (ci := 10) (k := 6) (n := 16) C hw ob_60 (by decide) (fun _ _ => rfl) (vp_in_iff.mpr (by omega)) dX10_arrive_77 ?_
                    refine ti_top (y := x_34) (((cg (f_2.1 6 (by decide) (by decide)) x_13.toNatClampNeg).trans wx_34)) ?_
                    have L_39 : tx (100 + 16 * x_13.toInt.toNat + 2) = x_34.toInt := (htr.2.2.1 (x_13.toInt.toNat) (by omega) (by omega)).2.1.trans ((congrArg Int32.toInt (cg ((f_2.1 6 (by decide) (by decide))) (x_13.toInt.toNat))).symm.trans (rd_k (n := x_13.toInt.toNat) (by omega) ((cg (f_2.1 6 (by decide) (by decide)) x_13.toNatClampNeg).trans wx_34)))
                    refine lv_aload_n hx hb dX10_arrive_78 rfl (lv_at hl 2 rfl) ?_
                    refine ti_get (ci := 10) (k := 6) (N := 67) (T := TX10) (v := .ref (A 60 7)) C hw iw_10 rfl ob_60 (by decide) (by decide) fl_X10_22 rfl rfl dX10_arrive_79 ?_
                    refine lv_iload_n hx hb dX10_arrive_82 rfl (lv_at hl 1 rfl) ?_
                    refine ti_iald (ci := 10) (k := 6) (n := 16) C hw ob_60 (by decide) (fun _ _ => rfl) (vp_in_iff.mpr (by omega)) dX10_arrive_83 ?_
                    refine ti_top (y := x_36) (((cg (f_2.1 6 (by decide) (by decide)) x_16.toNatClampNeg).trans wx_36)) ?_
                    have L_40 : tx (100 + 16 * x_16.toInt.toNat + 2) = x_36.toInt := (htr.2.2.1 (x_16.toInt.toNat) (by omega) (by omega)).2.1.trans ((congrArg Int32.toInt (cg ((f_2.1 6 (by decide) (by decide))) (x_16.toInt.toNat))).symm.trans (rd_k (n := x_16.toInt.toNat) (by omega) ((cg (f_2.1 6 (by decide) (by decide)) x_16.toNatClampNeg).trans wx_36)))
                    refine sb_icmp_ne (tgt := 106) hx hb rfl rfl dX10_arrive_84 (by decide) (fun c_84_40 => ?_) (fun c_84_40 => ?_)
                    · obtain ⟨x_49, ex_49⟩ : ∃ z : Int32, z = x_13 + 1 := ⟨_, rfl⟩
                      have tx_49 : x_49.toInt = x_13.toInt + 1 := i_add ex_49 rfl (by decide) (by omega) (by omega)
                      refine lv_iinc (v := x_49) (lv' := [(4, .int x_49), (3, .int x_16), (0, .ref (A 60 0)), (1, .int 0), (2, .int t)]) hx hb dX10_arrive_106 hl (k := 0) rfl (by rw [ex_49]; rfl) (by decide) rfl (fun ls hl => ?_)
                      refine lv_goto (tgt := 5) hx hb dX10_arrive_109 (by decide) ?_
                      exact ih_21 x_49 x_16 _ _ _ (by omega) (by first | omega | decide) (by first | omega | decide) (by first | omega | decide) (by first | omega | decide) (by rw [← j_19, nf_go (tx := tx) (s := g_6) (f := (tx 4).toNat - x_13.toInt.toNat) (f' := (tx 4).toNat - x_49.toInt.toNat) (m := x_13.toInt.toNat) (b := x_16.toInt) (by omega), if_neg (by omega), show x_49.toInt.toNat = x_13.toInt.toNat + 1 by omega]) (by first | omega | decide) hw (lv_sub hl [0, 1, 2, 3, 4] rfl)
                    · refine lv_aload_n hx hb dX10_arrive_87 rfl (lv_at hl 2 rfl) ?_
                      refine ti_get (ci := 10) (k := 5) (N := 67) (T := TX10) (v := .ref (A 60 6)) C hw iw_10 rfl ob_60 (by decide) (by decide) fl_X10_19 rfl rfl dX10_arrive_88 ?_
                      refine lv_iload hx hb dX10_arrive_91 (lv_at hl 0 rfl) ?_
                      refine ti_iald (ci := 10) (k := 5) (n := 16) C hw ob_60 (by decide) (fun _ _ => rfl) (vp_in_iff.mpr (by omega)) dX10_arrive_93 ?_
                      refine lv_topi (fun x_42 ex_42 => ?_)
                      have yx_42 : tY M_1 60 5 x_13.toNatClampNeg = x_42 := (ex_42.symm)
                      have wx_42 : tY M 60 5 x_13.toNatClampNeg = x_42 := ((cg (f_2.1 5 (by decide) (by decide)) x_13.toNatClampNeg)).symm.trans yx_42
                      have L_43 : tx (100 + 16 * x_13.toInt.toNat + 1) = x_42.toInt := (htr.2.2.1 (x_13.toInt.toNat) (by omega) (by omega)).1.trans ((congrArg Int32.toInt (cg ((f_2.1 5 (by decide) (by decide))) (x_13.toInt.toNat))).symm.trans (rd_k (n := x_13.toInt.toNat) (by omega) ((cg (f_2.1 5 (by decide) (by decide)) x_13.toNatClampNeg).trans wx_42)))
                      refine lv_aload_n hx hb dX10_arrive_94 rfl (lv_at hl 2 rfl) ?_
                      refine ti_get (ci := 10) (k := 5) (N := 67) (T := TX10) (v := .ref (A 60 6)) C hw iw_10 rfl ob_60 (by decide) (by decide) fl_X10_19 rfl rfl dX10_arrive_95 ?_
                      refine lv_iload_n hx hb dX10_arrive_98 rfl (lv_at hl 1 rfl) ?_
                      refine ti_iald (ci := 10) (k := 5) (n := 16) C hw ob_60 (by decide) (fun _ _ => rfl) (vp_in_iff.mpr (by omega)) dX10_arrive_99 ?_
                      refine lv_topi (fun x_44 ex_44 => ?_)
                      have yx_44 : tY M_1 60 5 x_16.toNatClampNeg = x_44 := (ex_44.symm)
                      have wx_44 : tY M 60 5 x_16.toNatClampNeg = x_44 := ((cg (f_2.1 5 (by decide) (by decide)) x_16.toNatClampNeg)).symm.trans yx_44
                      have L_45 : tx (100 + 16 * x_16.toInt.toNat + 1) = x_44.toInt := (htr.2.2.1 (x_16.toInt.toNat) (by omega) (by omega)).1.trans ((congrArg Int32.toInt (cg ((f_2.1 5 (by decide) (by decide))) (x_16.toInt.toNat))).symm.trans (rd_k (n := x_16.toInt.toNat) (by omega) ((cg (f_2.1 5 (by decide) (by decide)) x_16.toNatClampNeg).trans wx_44)))
                      refine sb_icmp_le (tgt := 106) hx hb rfl rfl dX10_arrive_100 (by decide) (fun c_100_45 => ?_) (fun c_100_45 => ?_)
                      · obtain ⟨x_50, ex_50⟩ : ∃ z : Int32, z = x_13 + 1 := ⟨_, rfl⟩
                        have tx_50 : x_50.toInt = x_13.toInt + 1 := i_add ex_50 rfl (by decide) (by omega) (by omega)
                        refine lv_iinc (v := x_50) (lv' := [(4, .int x_50), (3, .int x_16), (0, .ref (A 60 0)), (1, .int 0), (2, .int t)]) hx hb dX10_arrive_106 hl (k := 0) rfl (by rw [ex_50]; rfl) (by decide) rfl (fun ls hl => ?_)
                        refine lv_goto (tgt := 5) hx hb dX10_arrive_109 (by decide) ?_
                        exact ih_21 x_50 x_16 _ _ _ (by omega) (by first | omega | decide) (by first | omega | decide) (by first | omega | decide) (by first | omega | decide) (by rw [← j_19, nf_go (tx := tx) (s := g_6) (f := (tx 4).toNat - x_13.toInt.toNat) (f' := (tx 4).toNat - x_50.toInt.toNat) (m := x_13.toInt.toNat) (b := x_16.toInt) (by omega), if_neg (by omega), show x_50.toInt.toNat = x_13.toInt.toNat + 1 by omega]) (by first | omega | decide) hw (lv_sub hl [0, 1, 2, 3, 4] rfl)
                      · refine lv_iload hx hb dX10_arrive_103 (lv_at hl 0 rfl) ?_
                        refine lv_istore_n (lv' := [(3, .int x_13), (4, .int x_13), (0, .ref (A 60 0)), (1, .int 0), (2, .int t)]) hx hb dX10_arrive_105 rfl hl (by decide) rfl (fun ls hl => ?_)
                        obtain ⟨x_53, ex_53⟩ : ∃ z : Int32, z = x_13 + 1 := ⟨_, rfl⟩
                        have tx_53 : x_53.toInt = x_13.toInt + 1 := i_add ex_53 rfl (by decide) (by omega) (by omega)
                        refine lv_iinc (v := x_53) (lv' := [(4, .int x_53), (3, .int x_13), (0, .ref (A 60 0)), (1, .int 0), (2, .int t)]) hx hb dX10_arrive_106 hl (k := 1) rfl (by rw [ex_53]; rfl) (by decide) rfl (fun ls hl => ?_)
                        refine lv_goto (tgt := 5) hx hb dX10_arrive_109 (by decide) ?_
                        exact ih_21 x_53 x_13 _ _ _ (by omega) (by first | omega | decide) (by first | omega | decide) (by first | omega | decide) (by first | omega | decide) (by rw [← j_19, nf_go (tx := tx) (s := g_6) (f := (tx 4).toNat - x_13.toInt.toNat) (f' := (tx 4).toNat - x_53.toInt.toNat) (m := x_13.toInt.toNat) (b := x_16.toInt) (by omega), if_pos (by omega), show x_53.toInt.toNat = x_13.toInt.toNat + 1 by omega]; exact congrArg _ (by omega)) (by first | omega | decide) hw (lv_sub hl [0, 1, 2, 3, 4] rfl)
              · refine lv_goto (tgt := 106) hx hb dX10_arrive_47 (by decide) ?_
                obtain ⟨x_48, ex_48⟩ : ∃ z : Int32, z = x_13 + 1 := ⟨_, rfl⟩
                have tx_48 : x_48.toInt = x_13.toInt + 1 := i_add ex_48 rfl (by decide) (by omega) (by omega)
                refine lv_iinc (v := x_48) (lv' := [(4, .int x_48), (3, .int x_16), (0, .ref (A 60 0)), (1, .int 0), (2, .int t)]) hx hb dX10_arrive_106 hl (k := 0) rfl (by rw [ex_48]; rfl) (by decide) rfl (fun ls hl => ?_)
                refine lv_goto (tgt := 5) hx hb dX10_arrive_109 (by decide) ?_
                exact ih_21 x_48 x_16 _ _ _ (by omega) (by first | omega | decide) (by first | omega | decide) (by first | omega | decide) (by first | omega | decide) (by rw [← j_19, nf_go (tx := tx) (s := g_6) (f := (tx 4).toNat - x_13.toInt.toNat) (f' := (tx 4).toNat - x_48.toInt.toNat) (m := x_13.toInt.toNat) (b := x_16.toInt) (by omega), if_neg (by omega), show x_48.toInt.toNat = x_13.toInt.toNat + 1 by omega]) (by first | omega | decide) hw (lv_sub hl [0, 1, 2, 3, 4] rfl)
      exact hl_5_20 ((8 - 0 : Int).toNat + 1) 0 (-1) _ _ _ (Nat.lt_succ_self _) (by have lt0 : ((-1) : Int32).toInt = (-1) := (by decide); have lt1 : (0 : Int32).toInt = 0 := (by decide); first | omega | decide) (by have lt0 : ((-1) : Int32).toInt = (-1) := (by decide); have lt1 : (0 : Int32).toInt = 0 := (by decide); first | omega | decide) (by have lt0 : ((-1) : Int32).toInt = (-1) := (by decide); have lt1 : (0 : Int32).toInt = 0 := (by decide); first | omega | decide) (by have lt0 : ((-1) : Int32).toInt = (-1) := (by decide); have lt1 : (0 : Int32).toInt = 0 := (by decide); first | omega | decide) (by show bq_nf tx g_6 ((tx 4).toNat - 0) 0 (-1) = _; rfl) (by have lt0 : ((-1) : Int32).toInt = (-1) := (by decide); have lt1 : (0 : Int32).toInt = 0 := (by decide); first | omega | decide) hw (lv_sub hl [0, 1, 2, 3, 4] rfl)
  exact hl_0_11 ((((zc (tY M 60 40) 0 : Nat) : Int) : Int).toNat + 1) M rg _ _ _ (Nat.lt_succ_self _) hI rq.refl hC rfl eR.refl hr ⟨(tx 4).toNat, by have := bc0_8 (s := rg); omega, rfl⟩ hwf hV rfl hw (lv_sub hl [0, 1, 2] rfl)
set_option maxHeartbeats 4000000 in
set_option maxRecDepth 100000 in
theorem z_X10_arrive_1 (l : Launch) (D : va_G) (A : Nat → Nat → Nat) (cy : Nat → ClassId) (hJ : ti_inj ti_LM A) (M : ti_M) (hI : mI Tm M) (hC : mC M 1) (t : Int32) (tx rg : Nat → Int) (htr : tR tx M) (ht4 : 0 ≤ tx 4 ∧ tx 4 ≤ 8) (hr : qR (tx 4).toNat 1 rg M) (hV : qV (tx 4).toNat 1 rg M) (hwf : wF tx rg) (htW : tW tx) (htm : t.toInt = rg 2) : ti_Kv l yX10_arrive cX10_arrive 5 1 ti_LM D A cy M [.ref (A 60 0), .int 1, .int t] (fun M2 => eR 1 M2 M ∧ qR (tx 4).toNat 1 (bq_wl tx (tx 4).toNat rg) M2 ∧ qV (tx 4).toNat 1 (bq_wl tx (tx 4).toNat rg) M2 ∧ mI Tm M2 ∧ rq 1 M2 M ∧ mC M2 1 ∧ tY M2 60 34 = tY M 60 34) := by
  refine ti_eV yp_X10_arrive hJ ti_LM_nd (Nat.le_of_ble_eq_true rfl) ?_
  intro p e s m args below meth c Q H0 C hQ hw ls hl
  have hx := C.1
  have hb := C.2.1
  have hl : lv_has ls 5 [(0, .ref (A 60 0)), (1, .int 1), (2, .int t)] := hl
  have hl_0_11 : ∀ (n_12 : Nat) (M_1 : ti_M) (g_6 : Nat → Int) (H : Heap) (locs : List Loc) (ls : Array Slot), (((zc (tY M_1 60 40) 8 : Nat) : Int) : Int).toNat < n_12 → (mI Tm M_1) → (rq 1 M_1 M) → (mC M_1 1) → (tY M_1 60 34 = tY M 60 34) → (eR 1 M_1 M) → (qR (tx 4).toNat 1 g_6 M_1) → (∃ f : Nat, bc0 g_6 ≤ (f : Int) + (8 - tx 4) ∧ bq_wl tx f g_6 = bq_wl tx (tx 4).toNat rg) → (wF tx g_6) → (qV (tx 4).toNat 1 g_6 M_1) → (g_6 2 = rg 2) → ti_H ti_LM D A cy H0 M_1 H locs → lv_has ls 5 [(0, .ref (A 60 0)), (1, .int 1), (2, .int t)] → W p l e (ti_rm 1) s m args below meth c H locs 0 0 Q (F0 m 0 ls []) := by
    intro n_12
    induction n_12 with
    | zero => intro M_1 g_6 H locs ls hf_12; exact absurd hf_12 (Nat.not_lt_zero _)
    | succ n_12 ih_12 =>
      intro M_1 g_6 H locs ls hf_12 iM_1 f_2 f_3 f_4 f_5 hs_7 j_8 j_9 j_10 j_11 hw hl
      refine lv_iconst (v := (-1)) hx hb dX10_arrive_0 (by decide) ?_
      refine lv_istore_n (lv' := [(3, .int (-1)), (0, .ref (A 60 0)), (1, .int 1), (2, .int t)]) hx hb dX10_arrive_1 rfl hl (by decide) rfl (fun ls hl => ?_)
      refine lv_iconst (v := 0) hx hb dX10_arrive_2 (by decide) ?_
      refine lv_istore (lv' := [(4, .int 0), (3, .int (-1)), (0, .ref (A 60 0)), (1, .int 1), (2, .int t)]) hx hb dX10_arrive_3 hl (by decide) rfl (fun ls hl => ?_)
      have hl_5_20 : ∀ (n_21 : Nat) (x_13 : Int32) (x_16 : Int32) (H : Heap) (locs : List Loc) (ls : Array Slot), (8 - x_13.toInt : Int).toNat < n_21 → (0 ≤ x_13.toInt) → (x_13.toInt ≤ 8) → ((-1) ≤ x_16.toInt) → (x_16.toInt ≤ 7) → (bq_nf tx g_6 ((tx 4).toNat - (x_13.toInt).toNat) (x_13.toInt).toNat (x_16.toInt) = bq_nx tx g_6) → (x_16.toInt = -1 ∨ x_16.toInt < tx 4) → ti_H ti_LM D A cy H0 M_1 H locs → lv_has ls 5 [(4, .int x_13), (3, .int x_16), (0, .ref (A 60 0)), (1, .int 1), (2, .int t)] → W p l e (ti_rm 1) s m args below meth c H locs 0 0 Q (F0 m 5 ls []) := by
        intro n_21
        induction n_21 with
        | zero => intro x_13 x_16 H locs ls hf_21; exact absurd hf_21 (Nat.not_lt_zero _)
        | succ n_21 ih_21 =>
          intro x_13 x_16 H locs ls hf_21 b_14 b_15 b_17 b_18 j_19 j_20 hw hl
          refine lv_iload hx hb dX10_arrive_5 (lv_at hl 0 rfl) ?_
          refine lv_aload_n hx hb dX10_arrive_7 rfl (lv_at hl 2 rfl) ?_
          refine ti_get (ci := 10) (k := 3) (N := 67) (T := TX10) (v := .ref (A 60 4)) C hw iw_10 rfl ob_60 (by decide) (by decide) fl_X10_13 rfl rfl dX10_arrive_8 ?_
          refine lv_iconst (v := 0) hx hb dX10_arrive_11 (by decide) ?_
          refine ti_iald (ci := 10) (k := 3) (n := 22) C hw ob_60 (by decide) (fun _ _ => rfl) (by unfold vp_in; decide) dX10_arrive_12 ?_
          refine lv_topi (fun x_22 ex_22 => ?_)
          have yx_22 : tY M_1 60 3 0 = x_22 := ((congrArg _ (by decide)).symm.trans ex_22.symm)
          have bx_22 : 0 ≤ x_22.toInt ∧ x_22.toInt ≤ 8 := mI_rn (i := 0) iM_1 yx_22.symm (fun _ h => h)
          have zx_22 : (tY M_1 60 3 0).toInt = x_22.toInt := by rw [yx_22]
          have wx_22 : tY M 60 3 0 = x_22 := ((cg (f_2.1 3 (by decide) (by decide)) 0)).symm.trans yx_22
          have zwx_22 : (tY M 60 3 0).toInt = x_22.toInt := by rw [wx_22]
          have L_23 : tx 4 = x_22.toInt := (htr.1.1).trans ((congrArg Int32.toInt (cg ((f_2.1 3 (by decide) (by decide))) 0)).symm.trans (congrArg Int32.toInt ((cg (f_2.1 3 (by decide) (by decide)) 0).trans wx_22)))
          refine sb_icmp_ge (tgt := 112) hx hb rfl rfl dX10_arrive_13 (by decide) (fun c_13_23 => ?_) (fun c_13_23 => ?_)
          · have NX : bq_nx tx g_6 = x_16.toInt := by rw [← j_19, nf_end (by omega)]
            have NA := nx_at (s := g_6) htW
            rw [NX] at NA
            obtain ⟨f9, hf9, he9⟩ := j_8
            refine lv_iload_n hx hb dX10_arrive_112 rfl (lv_at hl 1 rfl) ?_
            refine lv_iconst (v := (-1)) hx hb dX10_arrive_113 (by decide) ?_
            refine sb_icmp_ne (tgt := 118) hx hb rfl (by decide : ((-1) : Int32).toInt = (-1)) dX10_arrive_114 (by decide) (fun c_114_53 => ?_) (fun c_114_53 => ?_)
            · have S0 : g_6 (128 + x_16.toInt.toNat) = 0 := by omega
              have S3 := wF_s3 htW j_9 (m := x_16.toInt.toNat) (by omega) S0
              have W8 := wF_8 j_9
              have BG := bc0_ge htW j_9 (m := x_16.toInt.toNat) (by omega) S0
              have WA := wF_ap htW j_9 (m := x_16.toInt) (by omega) (by omega) S0
              have g2 : g_6 2 = t.toInt := by rw [j_11]; omega
              refine lv_aload_n hx hb dX10_arrive_118 rfl (lv_at hl 2 rfl) ?_
              refine lv_iload_n hx hb dX10_arrive_119 rfl (lv_at hl 3 rfl) ?_
              refine lv_iload_n hx hb dX10_arrive_120 rfl (lv_at hl 1 rfl) ?_
              refine lv_iload_n hx hb dX10_arrive_121 rfl (lv_at hl 4 rfl) ?_
              refine ti_callVv (ci := 10) (av := [.int 1, .int x_16, .int t]) C hw (z_X10_joins_1 l D A cy hJ M_1 iM_1 f_3 x_16 t (by first | omega | decide | (have l0 : (0 : Int32).toInt = 0 := (by decide); have l2 : (2 : Int32).toInt = 2 := (by decide); have l3 : (3 : Int32).toInt = 3 := (by decide); omega)) (by first | omega | decide | (have l0 : (0 : Int32).toInt = 0 := (by decide); have l2 : (2 : Int32).toInt = 2 := (by decide); have l3 : (3 : Int32).toInt = 3 := (by decide); omega)) (fun i hi => by rw [show i = 8 * 1 + x_16.toInt.toNat by omega]; have z0 := (hs_7.2.2.2.1 x_16.toInt.toNat (by omega)).1; omega) tx g_6 (tR_lw htr (eR_lw (q := 1) f_5)) ht4 hs_7 j_10 (by omega) S0 (by omega) (by omega)) ⟨ml_X10_359, ym_X10_joins, yv_X10_joins, yi_X10_joins, yc_X10_joins⟩ yd_X10_joins ob_60 (by decide) rfl rfl hl.1 (Nat.le_of_ble_eq_true rfl) ⟨by decide, by decide⟩ ⟨Nat.zero_le _, Nat.zero_le _⟩ dX10_arrive_122 (fun M_56 H locs hp_56 hw => ?_)
              obtain ⟨erM_56, hrM_56, qvM_56, hqM_56⟩ := hp_56
              obtain ⟨iM_56, q_57, q_58, q_59, q_60⟩ := hqM_56
              obtain ⟨g_61, eg_61⟩ : ∃ z : Nat → Int, z = bq_ap g_6 x_16.toInt := ⟨_, rfl⟩
              rw [← eg_61] at hrM_56
              rw [← eg_61] at qvM_56
              have WP : wF tx g_61 := by rw [eg_61]; exact WA.1
              have WB := WA.2
              rw [← eg_61] at WB
              have WN : ∃ f : Nat, bc0 g_61 ≤ (f : Int) + (8 - tx 4) ∧ bq_wl tx f g_61 = bq_wl tx (tx 4).toNat rg := ⟨f9 - 1, by omega, by rw [← he9, wl_go (tx := tx) (s := g_6) (f := f9) (f' := f9 - 1) (by omega) (by omega), NX, ← eg_61]⟩
              refine lv_goto (tgt := 0) hx hb dX10_arrive_125 (by decide) ?_
              exact ih_12 M_56 g_61 _ _ _ (by omega) iM_56 (rq.trans q_57 f_2) q_58 (((q_59).trans f_4)) (eR.trans erM_56 f_5) hrM_56 WN WP qvM_56 (by rw [eg_61, ap_k (by decide)]; exact j_11) hw (lv_sub hl [2, 3, 4] rfl)
            · exact hQ _ _ _ _ _ hw (⟨f_5, (by rw [← he9, wl_end (Or.inr (by omega))]; exact hs_7), (by rw [← he9, wl_end (Or.inr (by omega))]; exact j_10), iM_1, f_2, f_3, ((f_4))⟩) dX10_arrive_117
          · have g2 : g_6 2 = t.toInt := by rw [j_11]; omega
            refine lv_aload_n hx hb dX10_arrive_16 rfl (lv_at hl 2 rfl) ?_
            refine ti_get (ci := 10) (k := 40) (N := 67) (T := TX10) (v := .ref (A 60 41)) C hw iw_10 rfl ob_60 (by decide) (by decide) fl_X10_87 rfl rfl dX10_arrive_17 ?_
            refine lv_bipush (v := 8) hx hb dX10_arrive_20 (by decide) ?_
            refine lv_iload_n hx hb dX10_arrive_22 rfl (lv_at hl 3 rfl) ?_
            refine lv_imul hx hb dX10_arrive_23 ?_
            refine ti_top (y := 8) (by decide) ?_
            refine lv_iload hx hb dX10_arrive_24 (lv_at hl 0 rfl) ?_
            refine lv_iadd hx hb dX10_arrive_26 ?_
            refine lv_topi (fun x_25 ex_25 => ?_)
            have tx_25 : x_25.toInt = 8 + x_13.toInt := i_add ex_25 (by decide : (8 : Int32).toInt = 8) rfl (by omega) (by omega)
            refine ti_iald (ci := 10) (k := 40) (n := 184) C hw ob_60 (by decide) (fun _ _ => rfl) (vp_in_iff.mpr (by omega)) dX10_arrive_27 ?_
            refine lv_topi (fun x_26 ex_26 => ?_)
            have yx_26 : tY M_1 60 40 x_25.toNatClampNeg = x_26 := (ex_26.symm)
            have zx_26 : (tY M_1 60 40 x_25.toNatClampNeg).toInt = x_26.toInt := by rw [yx_26]
            have L_27 : g_6 (128 + x_13.toInt.toNat) = x_26.toInt := ((hs_7.2.2.2.1 (x_13.toInt.toNat) (by omega)).1).trans (rd_k (n := 8 * 1 + x_13.toInt.toNat) (by omega) (yx_26))
            refine sb_if_ne (tgt := 106) hx hb rfl dX10_arrive_28 (by decide) (fun c_28_27 => ?_) (fun c_28_27 => ?_)
            · obtain ⟨x_47, ex_47⟩ : ∃ z : Int32, z = x_13 + 1 := ⟨_, rfl⟩
              have tx_47 : x_47.toInt = x_13.toInt + 1 := i_add ex_47 rfl (by decide) (by omega) (by omega)
              refine lv_iinc (v := x_47) (lv' := [(4, .int x_47), (3, .int x_16), (0, .ref (A 60 0)), (1, .int 1), (2, .int t)]) hx hb dX10_arrive_106 hl (k := 0) rfl (by rw [ex_47]; rfl) (by decide) rfl (fun ls hl => ?_)
              refine lv_goto (tgt := 5) hx hb dX10_arrive_109 (by decide) ?_
              exact ih_21 x_47 x_16 _ _ _ (by omega) (by first | omega | decide) (by first | omega | decide) (by first | omega | decide) (by first | omega | decide) (by rw [← j_19, nf_go (tx := tx) (s := g_6) (f := (tx 4).toNat - x_13.toInt.toNat) (f' := (tx 4).toNat - x_47.toInt.toNat) (m := x_13.toInt.toNat) (b := x_16.toInt) (by omega), if_neg (by omega), show x_47.toInt.toNat = x_13.toInt.toNat + 1 by omega]) (by first | omega | decide) hw (lv_sub hl [0, 1, 2, 3, 4] rfl)
            · refine lv_aload_n hx hb dX10_arrive_31 rfl (lv_at hl 2 rfl) ?_
              refine ti_get (ci := 10) (k := 44) (N := 67) (T := TX10) (v := .ref (A 60 45)) C hw iw_10 rfl ob_60 (by decide) (by decide) fl_X10_99 rfl rfl dX10_arrive_32 ?_
              refine lv_bipush (v := 8) hx hb dX10_arrive_35 (by decide) ?_
              refine lv_iload_n hx hb dX10_arrive_37 rfl (lv_at hl 3 rfl) ?_
              refine lv_imul hx hb dX10_arrive_38 ?_
              refine ti_top (y := 8) (by decide) ?_
              refine lv_iload hx hb dX10_arrive_39 (lv_at hl 0 rfl) ?_
              refine lv_iadd hx hb dX10_arrive_41 ?_
              refine lv_topi (fun x_29 ex_29 => ?_)
              have tx_29 : x_29.toInt = 8 + x_13.toInt := i_add ex_29 (by decide : (8 : Int32).toInt = 8) rfl (by omega) (by omega)
              refine ti_iald (ci := 10) (k := 44) (n := 184) C hw ob_60 (by decide) (fun _ _ => rfl) (vp_in_iff.mpr (by omega)) dX10_arrive_42 ?_
              refine lv_topi (fun x_30 ex_30 => ?_)
              have yx_30 : tY M_1 60 44 x_29.toNatClampNeg = x_30 := (ex_30.symm)
              have L_31 : g_6 (144 + x_13.toInt.toNat) = x_30.toInt := ((hs_7.2.2.2.1 (x_13.toInt.toNat) (by omega)).2.1).trans (rd_k (n := 8 * 1 + x_13.toInt.toNat) (by omega) (yx_30))
              refine lv_iload_n hx hb dX10_arrive_43 rfl (lv_at hl 4 rfl) ?_
              refine sb_icmp_eq (tgt := 50) hx hb rfl rfl dX10_arrive_44 (by decide) (fun c_44_31 => ?_) (fun c_44_31 => ?_)
              · refine lv_iload_n hx hb dX10_arrive_50 rfl (lv_at hl 1 rfl) ?_
                refine lv_iconst (v := (-1)) hx hb dX10_arrive_51 (by decide) ?_
                refine sb_icmp_eq (tgt := 103) hx hb rfl (by decide : ((-1) : Int32).toInt = (-1)) dX10_arrive_52 (by decide) (fun c_52_32 => ?_) (fun c_52_32 => ?_)
                · refine lv_iload hx hb dX10_arrive_103 (lv_at hl 0 rfl) ?_
                  refine lv_istore_n (lv' := [(3, .int x_13), (4, .int x_13), (0, .ref (A 60 0)), (1, .int 1), (2, .int t)]) hx hb dX10_arrive_105 rfl hl (by decide) rfl (fun ls hl => ?_)
                  obtain ⟨x_51, ex_51⟩ : ∃ z : Int32, z = x_13 + 1 := ⟨_, rfl⟩
                  have tx_51 : x_51.toInt = x_13.toInt + 1 := i_add ex_51 rfl (by decide) (by omega) (by omega)
                  refine lv_iinc (v := x_51) (lv' := [(4, .int x_51), (3, .int x_13), (0, .ref (A 60 0)), (1, .int 1), (2, .int t)]) hx hb dX10_arrive_106 hl (k := 1) rfl (by rw [ex_51]; rfl) (by decide) rfl (fun ls hl => ?_)
                  refine lv_goto (tgt := 5) hx hb dX10_arrive_109 (by decide) ?_
                  exact ih_21 x_51 x_13 _ _ _ (by omega) (by first | omega | decide) (by first | omega | decide) (by first | omega | decide) (by first | omega | decide) (by rw [← j_19, nf_go (tx := tx) (s := g_6) (f := (tx 4).toNat - x_13.toInt.toNat) (f' := (tx 4).toNat - x_51.toInt.toNat) (m := x_13.toInt.toNat) (b := x_16.toInt) (by omega), if_pos (by omega), show x_51.toInt.toNat = x_13.toInt.toNat + 1 by omega]; exact congrArg _ (by omega)) (by first | omega | decide) hw (lv_sub hl [0, 1, 2, 3, 4] rfl)
                · refine lv_aload_n hx hb dX10_arrive_55 rfl (lv_at hl 2 rfl) ?_
                  refine ti_get (ci := 10) (k := 6) (N := 67) (T := TX10) (v := .ref (A 60 7)) C hw iw_10 rfl ob_60 (by decide) (by decide) fl_X10_22 rfl rfl dX10_arrive_56 ?_
                  refine lv_iload hx hb dX10_arrive_59 (lv_at hl 0 rfl) ?_
                  refine ti_iald (ci := 10) (k := 6) (n := 16) C hw ob_60 (by decide) (fun _ _ => rfl) (vp_in_iff.mpr (by omega)) dX10_arrive_61 ?_
                  refine lv_topi (fun x_34 ex_34 => ?_)
                  have yx_34 : tY M_1 60 6 x_13.toNatClampNeg = x_34 := (ex_34.symm)
                  have wx_34 : tY M 60 6 x_13.toNatClampNeg = x_34 := ((cg (f_2.1 6 (by decide) (by decide)) x_13.toNatClampNeg)).symm.trans yx_34
                  have L_35 : tx (100 + 16 * x_13.toInt.toNat + 2) = x_34.toInt := (htr.2.2.1 (x_13.toInt.toNat) (by omega) (by omega)).2.1.trans ((congrArg Int32.toInt (cg ((f_2.1 6 (by decide) (by decide))) (x_13.toInt.toNat))).symm.trans (rd_k (n := x_13.toInt.toNat) (by omega) ((cg (f_2.1 6 (by decide) (by decide)) x_13.toNatClampNeg).trans wx_34)))
                  refine lv_aload_n hx hb dX10_arrive_62 rfl (lv_at hl 2 rfl) ?_
                  refine ti_get (ci := 10) (k := 6) (N := 67) (T := TX10) (v := .ref (A 60 7)) C hw iw_10 rfl ob_60 (by decide) (by decide) fl_X10_22 rfl rfl dX10_arrive_63 ?_
                  refine lv_iload_n hx hb dX10_arrive_66 rfl (lv_at hl 1 rfl) ?_
                  refine ti_iald (ci := 10) (k := 6) (n := 16) C hw ob_60 (by decide) (fun _ _ => rfl) (vp_in_iff.mpr (by omega)) dX10_arrive_67 ?_
                  refine lv_topi (fun x_36 ex_36 => ?_)
                  have yx_36 : tY M_1 60 6 x_16.toNatClampNeg = x_36 := (ex_36.symm)
                  have wx_36 : tY M 60 6 x_16.toNatClampNeg = x_36 := ((cg (f_2.1 6 (by decide) (by decide)) x_16.toNatClampNeg)).symm.trans yx_36
                  have L_37 : tx (100 + 16 * x_16.toInt.toNat + 2) = x_36.toInt := (htr.2.2.1 (x_16.toInt.toNat) (by omega) (by omega)).2.1.trans ((congrArg Int32.toInt (cg ((f_2.1 6 (by decide) (by decide))) (x_16.toInt.toNat))).symm.trans (rd_k (n := x_16.toInt.toNat) (by omega) ((cg (f_2.1 6 (by decide) (by decide)) x_16.toNatClampNeg).trans wx_36)))
                  refine sb_icmp_lt (tgt := 103) hx hb rfl rfl dX10_arrive_68 (by decide) (fun c_68_37 => ?_) (fun c_68_37 => ?_)
                  · refine lv_iload hx hb dX10_arrive_103 (lv_at hl 0 rfl) ?_
                    refine lv_istore_n (lv' := [(3, .int x_13), (4, .int x_13), (0, .ref (A 60 0)), (1, .int 1), (2, .int t)]) hx hb dX10_arrive_105 rfl hl (by decide) rfl (fun ls hl => ?_)
                    obtain ⟨x_52, ex_52⟩ : ∃ z : Int32, z = x_13 + 1 := ⟨_, rfl⟩
                    have tx_52 : x_52.toInt = x_13.toInt + 1 := i_add ex_52 rfl (by decide) (by omega) (by omega)
                    refine lv_iinc (v := x_52) (lv' := [(4, .int x_52), (3, .int x_13), (0, .ref (A 60 0)), (1, .int 1), (2, .int t)]) hx hb dX10_arrive_106 hl (k := 1) rfl (by rw [ex_52]; rfl) (by decide) rfl (fun ls hl => ?_)
                    refine lv_goto (tgt := 5) hx hb dX10_arrive_109 (by decide) ?_
                    exact ih_21 x_52 x_13 _ _ _ (by omega) (by first | omega | decide) (by first | omega | decide) (by first | omega | decide) (by first | omega | decide) (by rw [← j_19, nf_go (tx := tx) (s := g_6) (f := (tx 4).toNat - x_13.toInt.toNat) (f' := (tx 4).toNat - x_52.toInt.toNat) (m := x_13.toInt.toNat) (b := x_16.toInt) (by omega), if_pos (by omega), show x_52.toInt.toNat = x_13.toInt.toNat + 1 by omega]; exact congrArg _ (by omega)) (by first | omega | decide) hw (lv_sub hl [0, 1, 2, 3, 4] rfl)
                  · refine lv_aload_n hx hb dX10_arrive_71 rfl (lv_at hl 2 rfl) ?_
                    refine ti_get (ci := 10) (k := 6) (N := 67) (T := TX10) (v := .ref (A 60 7)) C hw iw_10 rfl ob_60 (by decide) (by decide) fl_X10_22 rfl rfl dX10_arrive_72 ?_
                    refine lv_iload hx hb dX10_arrive_75 (lv_at hl 0 rfl) ?_
                    refine ti_iald (ci := 10) (k := 6) (n := 16) C hw ob_60 (by decide) (fun _ _ => rfl) (vp_in_iff.mpr (by omega)) dX10_arrive_77 ?_
                    refine ti_top (y := x_34) (((cg (f_2.1 6 (by decide) (by decide)) x_13.toNatClampNeg).trans wx_34)) ?_
                    have L_39 : tx (100 + 16 * x_13.toInt.toNat + 2) = x_34.toInt := (htr.2.2.1 (x_13.toInt.toNat) (by omega) (by omega)).2.1.trans ((congrArg Int32.toInt (cg ((f_2.1 6 (by decide) (by decide))) (x_13.toInt.toNat))).symm.trans (rd_k (n := x_13.toInt.toNat) (by omega) ((cg (f_2.1 6 (by decide) (by decide)) x_13.toNatClampNeg).trans wx_34)))
                    refine lv_aload_n hx hb dX10_arrive_78 rfl (lv_at hl 2 rfl) ?_
                    refine ti_get (ci := 10) (k := 6) (N := 67) (T := TX10) (v := .ref (A 60 7)) C hw iw_10 rfl ob_60 (by decide) (by decide) fl_X10_22 rfl rfl dX10_arrive_79 ?_
                    refine lv_iload_n hx hb dX10_arrive_82 rfl (lv_at hl 1 rfl) ?_
                    refine ti_iald (ci := 10) (k := 6) (n := 16) C hw ob_60 (by decide) (fun _ _ => rfl) (vp_in_iff.mpr (by omega)) dX10_arrive_83 ?_
                    refine ti_top (y := x_36) (((cg (f_2.1 6 (by decide) (by decide)) x_16.toNatClampNeg).trans wx_36)) ?_
                    have L_40 : tx (100 + 16 * x_16.toInt.toNat + 2) = x_36.toInt := (htr.2.2.1 (x_16.toInt.toNat) (by omega) (by omega)).2.1.trans ((congrArg Int32.toInt (cg ((f_2.1 6 (by decide) (by decide))) (x_16.toInt.toNat))).symm.trans (rd_k (n := x_16.toInt.toNat) (by omega) ((cg (f_2.1 6 (by decide) (by decide)) x_16.toNatClampNeg).trans wx_36)))
                    refine sb_icmp_ne (tgt := 106) hx hb rfl rfl dX10_arrive_84 (by decide) (fun c_84_40 => ?_) (fun c_84_40 => ?_)
                    · obtain ⟨x_49, ex_49⟩ : ∃ z : Int32, z = x_13 + 1 := ⟨_, rfl⟩
                      have tx_49 : x_49.toInt = x_13.toInt + 1 := i_add ex_49 rfl (by decide) (by omega) (by omega)
                      refine lv_iinc (v := x_49) (lv' := [(4, .int x_49), (3, .int x_16), (0, .ref (A 60 0)), (1, .int 1), (2, .int t)]) hx hb dX10_arrive_106 hl (k := 0) rfl (by rw [ex_49]; rfl) (by decide) rfl (fun ls hl => ?_)
                      refine lv_goto (tgt := 5) hx hb dX10_arrive_109 (by decide) ?_
                      exact ih_21 x_49 x_16 _ _ _ (by omega) (by first | omega | decide) (by first | omega | decide) (by first | omega | decide) (by first | omega | decide) (by rw [← j_19, nf_go (tx := tx) (s := g_6) (f := (tx 4).toNat - x_13.toInt.toNat) (f' := (tx 4).toNat - x_49.toInt.toNat) (m := x_13.toInt.toNat) (b := x_16.toInt) (by omega), if_neg (by omega), show x_49.toInt.toNat = x_13.toInt.toNat + 1 by omega]) (by first | omega | decide) hw (lv_sub hl [0, 1, 2, 3, 4] rfl)
                    · refine lv_aload_n hx hb dX10_arrive_87 rfl (lv_at hl 2 rfl) ?_
                      refine ti_get (ci := 10) (k := 5) (N := 67) (T := TX10) (v := .ref (A 60 6)) C hw iw_10 rfl ob_60 (by decide) (by decide) fl_X10_19 rfl rfl dX10_arrive_88 ?_
                      refine lv_iload hx hb dX10_arrive_91 (lv_at hl 0 rfl) ?_
                      refine ti_iald (ci := 10) (k := 5) (n := 16) C hw ob_60 (by decide) (fun _ _ => rfl) (vp_in_iff.mpr (by omega)) dX10_arrive_93 ?_
                      refine lv_topi (fun x_42 ex_42 => ?_)
                      have yx_42 : tY M_1 60 5 x_13.toNatClampNeg = x_42 := (ex_42.symm)
                      have wx_42 : tY M 60 5 x_13.toNatClampNeg = x_42 := ((cg (f_2.1 5 (by decide) (by decide)) x_13.toNatClampNeg)).symm.trans yx_42
                      have L_43 : tx (100 + 16 * x_13.toInt.toNat + 1) = x_42.toInt := (htr.2.2.1 (x_13.toInt.toNat) (by omega) (by omega)).1.trans ((congrArg Int32.toInt (cg ((f_2.1 5 (by decide) (by decide))) (x_13.toInt.toNat))).symm.trans (rd_k (n := x_13.toInt.toNat) (by omega) ((cg (f_2.1 5 (by decide) (by decide)) x_13.toNatClampNeg).trans wx_42)))
                      refine lv_aload_n hx hb dX10_arrive_94 rfl (lv_at hl 2 rfl) ?_
                      refine ti_get (ci := 10) (k := 5) (N := 67) (T := TX10) (v := .ref (A 60 6)) C hw iw_10 rfl ob_60 (by decide) (by decide) fl_X10_19 rfl rfl dX10_arrive_95 ?_
                      refine lv_iload_n hx hb dX10_arrive_98 rfl (lv_at hl 1 rfl) ?_
                      refine ti_iald (ci := 10) (k := 5) (n := 16) C hw ob_60 (by decide) (fun _ _ => rfl) (vp_in_iff.mpr (by omega)) dX10_arrive_99 ?_
                      refine lv_topi (fun x_44 ex_44 => ?_)
                      have yx_44 : tY M_1 60 5 x_16.toNatClampNeg = x_44 := (ex_44.symm)
                      have wx_44 : tY M 60 5 x_16.toNatClampNeg = x_44 := ((cg (f_2.1 5 (by decide) (by decide)) x_16.toNatClampNeg)).symm.trans yx_44
                      have L_45 : tx (100 + 16 * x_16.toInt.toNat + 1) = x_44.toInt := (htr.2.2.1 (x_16.toInt.toNat) (by omega) (by omega)).1.trans ((congrArg Int32.toInt (cg ((f_2.1 5 (by decide) (by decide))) (x_16.toInt.toNat))).symm.trans (rd_k (n := x_16.toInt.toNat) (by omega) ((cg (f_2.1 5 (by decide) (by decide)) x_16.toNatClampNeg).trans wx_44)))
                      refine sb_icmp_le (tgt := 106) hx hb rfl rfl dX10_arrive_100 (by decide) (fun c_100_45 => ?_) (fun c_100_45 => ?_)
                      · obtain ⟨x_50, ex_50⟩ : ∃ z : Int32, z = x_13 + 1 := ⟨_, rfl⟩
                        have tx_50 : x_50.toInt = x_13.toInt + 1 := i_add ex_50 rfl (by decide) (by omega) (by omega)
                        refine lv_iinc (v := x_50) (lv' := [(4, .int x_50), (3, .int x_16), (0, .ref (A 60 0)), (1, .int 1), (2, .int t)]) hx hb dX10_arrive_106 hl (k := 0) rfl (by rw [ex_50]; rfl) (by decide) rfl (fun ls hl => ?_)
                        refine lv_goto (tgt := 5) hx hb dX10_arrive_109 (by decide) ?_
                        exact ih_21 x_50 x_16 _ _ _ (by omega) (by first | omega | decide) (by first | omega | decide) (by first | omega | decide) (by first | omega | decide) (by rw [← j_19, nf_go (tx := tx) (s := g_6) (f := (tx 4).toNat - x_13.toInt.toNat) (f' := (tx 4).toNat - x_50.toInt.toNat) (m := x_13.toInt.toNat) (b := x_16.toInt) (by omega), if_neg (by omega), show x_50.toInt.toNat = x_13.toInt.toNat + 1 by omega]) (by first | omega | decide) hw (lv_sub hl [0, 1, 2, 3, 4] rfl)
                      · refine lv_iload hx hb dX10_arrive_103 (lv_at hl 0 rfl) ?_
                        refine lv_istore_n (lv' := [(3, .int x_13), (4, .int x_13), (0, .ref (A 60 0)), (1, .int 1), (2, .int t)]) hx hb dX10_arrive_105 rfl hl (by decide) rfl (fun ls hl => ?_)
                        obtain ⟨x_53, ex_53⟩ : ∃ z : Int32, z = x_13 + 1 := ⟨_, rfl⟩
                        have tx_53 : x_53.toInt = x_13.toInt + 1 := i_add ex_53 rfl (by decide) (by omega) (by omega)
                        refine lv_iinc (v := x_53) (lv' := [(4, .int x_53), (3, .int x_13), (0, .ref (A 60 0)), (1, .int 1), (2, .int t)]) hx hb dX10_arrive_106 hl (k := 1) rfl (by rw [ex_53]; rfl) (by decide) rfl (fun ls hl => ?_)
                        refine lv_goto (tgt := 5) hx hb dX10_arrive_109 (by decide) ?_
                        exact ih_21 x_53 x_13 _ _ _ (by omega) (by first | omega | decide) (by first | omega | decide) (by first | omega | decide) (by first | omega | decide) (by rw [← j_19, nf_go (tx := tx) (s := g_6) (f := (tx 4).toNat - x_13.toInt.toNat) (f' := (tx 4).toNat - x_53.toInt.toNat) (m := x_13.toInt.toNat) (b := x_16.toInt) (by omega), if_pos (by omega), show x_53.toInt.toNat = x_13.toInt.toNat + 1 by omega]; exact congrArg _ (by omega)) (by first | omega | decide) hw (lv_sub hl [0, 1, 2, 3, 4] rfl)
              · refine lv_goto (tgt := 106) hx hb dX10_arrive_47 (by decide) ?_
                obtain ⟨x_48, ex_48⟩ : ∃ z : Int32, z = x_13 + 1 := ⟨_, rfl⟩
                have tx_48 : x_48.toInt = x_13.toInt + 1 := i_add ex_48 rfl (by decide) (by omega) (by omega)
                refine lv_iinc (v := x_48) (lv' := [(4, .int x_48), (3, .int x_16), (0, .ref (A 60 0)), (1, .int 1), (2, .int t)]) hx hb dX10_arrive_106 hl (k := 0) rfl (by rw [ex_48]; rfl) (by decide) rfl (fun ls hl => ?_)
                refine lv_goto (tgt := 5) hx hb dX10_arrive_109 (by decide) ?_
                exact ih_21 x_48 x_16 _ _ _ (by omega) (by first | omega | decide) (by first | omega | decide) (by first | omega | decide) (by first | omega | decide) (by rw [← j_19, nf_go (tx := tx) (s := g_6) (f := (tx 4).toNat - x_13.toInt.toNat) (f' := (tx 4).toNat - x_48.toInt.toNat) (m := x_13.toInt.toNat) (b := x_16.toInt) (by omega), if_neg (by omega), show x_48.toInt.toNat = x_13.toInt.toNat + 1 by omega]) (by first | omega | decide) hw (lv_sub hl [0, 1, 2, 3, 4] rfl)
      exact hl_5_20 ((8 - 0 : Int).toNat + 1) 0 (-1) _ _ _ (Nat.lt_succ_self _) (by have lt0 : ((-1) : Int32).toInt = (-1) := (by decide); have lt1 : (0 : Int32).toInt = 0 := (by decide); first | omega | decide) (by have lt0 : ((-1) : Int32).toInt = (-1) := (by decide); have lt1 : (0 : Int32).toInt = 0 := (by decide); first | omega | decide) (by have lt0 : ((-1) : Int32).toInt = (-1) := (by decide); have lt1 : (0 : Int32).toInt = 0 := (by decide); first | omega | decide) (by have lt0 : ((-1) : Int32).toInt = (-1) := (by decide); have lt1 : (0 : Int32).toInt = 0 := (by decide); first | omega | decide) (by show bq_nf tx g_6 ((tx 4).toNat - 0) 0 (-1) = _; rfl) (by have lt0 : ((-1) : Int32).toInt = (-1) := (by decide); have lt1 : (0 : Int32).toInt = 0 := (by decide); first | omega | decide) hw (lv_sub hl [0, 1, 2, 3, 4] rfl)
  exact hl_0_11 ((((zc (tY M 60 40) 8 : Nat) : Int) : Int).toNat + 1) M rg _ _ _ (Nat.lt_succ_self _) hI rq.refl hC rfl eR.refl hr ⟨(tx 4).toNat, by have := bc0_8 (s := rg); omega, rfl⟩ hwf hV rfl hw (lv_sub hl [0, 1, 2] rfl)
end

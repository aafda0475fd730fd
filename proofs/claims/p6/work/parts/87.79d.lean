section
variable {Tc : gC} {Tm : gM}
variable {Tc : gC} {Tm : gM}
set_option maxHeartbeats 4000000 in
set_option maxRecDepth 100000 in
theorem z_X10_levy_0 (l : Launch) (D : va_G) (A : Nat → Nat → Nat) (cy : Nat → ClassId) (hJ : ti_inj ti_LM A) (M : ti_M) (hI : mI Tm M) (hL : mL M) (t : Int32) (tx rg : Nat → Int) (htr : tR tx M) (ht4 : 0 ≤ tx 4 ∧ tx 4 ≤ 8) (hr : qR (tx 4).toNat 0 rg M) (hwf : wF tx rg) (htw : tI M 60 53 = -1) (htW : tW tx) (htm : t.toInt = rg 2) (h2 : 0 ≤ rg 2) : ti_Kv l yX10_levy cX10_levy 8 4 ti_LM D A cy M [.ref (A 60 0), .int 0, .int t] (fun M2 => eR 0 M2 M ∧ tY M2 60 48 = tY M 60 48 ∧ qR (tx 4).toNat 0 (bq_ly tx rg) M2 ∧ mI Tm M2 ∧ qw M2 M ∧ tY M2 60 34 = tY M 60 34) := by
  refine ti_eV yp_X10_levy hJ ti_LM_nd (Nat.le_of_ble_eq_true rfl) ?_
  intro p e s m args below meth c Q H0 C hQ hw ls hl
  have hx := C.1
  have hb := C.2.1
  have hl : lv_has ls 8 [(0, .ref (A 60 0)), (1, .int 0), (2, .int t)] := hl
  have hp2 := hwf.2.2.2.2.2.2.2 2 (by decide)
  have ht8 := htW.2.2.2.1
  refine lv_aload_n hx hb dX10_levy_0 rfl (lv_at hl 0 rfl) ?_
  refine ti_get (ci := 10) (k := 49) (N := 67) (T := TX10) (v := .ref (A 60 50)) C hw iw_10 rfl ob_60 (by decide) (by decide) fl_X10_114 rfl rfl dX10_levy_1 ?_
  refine lv_iconst (v := 3) hx hb dX10_levy_4 (by decide) ?_
  refine lv_iload_n hx hb dX10_levy_5 rfl (lv_at hl 1 rfl) ?_
  refine lv_imul hx hb dX10_levy_6 ?_
  refine ti_top (y := 0) (by decide) ?_
  refine lv_iconst (v := 2) hx hb dX10_levy_7 (by decide) ?_
  refine lv_iadd hx hb dX10_levy_8 ?_
  refine ti_top (y := 2) (by decide) ?_
  refine ti_iald (ci := 10) (k := 49) (n := 69) C hw ob_60 (by decide) (fun _ _ => rfl) (by unfold vp_in; decide) dX10_levy_9 ?_
  refine lv_topi (fun x_1 ex_1 => ?_)
  have yx_1 : tY M 60 49 2 = x_1 := ((congrArg _ (by decide)).symm.trans ex_1.symm)
  have bx_1 : 0 ≤ x_1.toInt ∧ x_1.toInt ≤ 7 := mI_ry (k := 49) (i := 2) hI yx_1.symm
  have L_2 : rg 114 = x_1.toInt := (hr.2.2.1 (2) (by omega)).trans (congrArg Int32.toInt (yx_1))
  refine lv_istore_n (lv' := [(3, .int x_1), (0, .ref (A 60 0)), (1, .int 0), (2, .int t)]) hx hb dX10_levy_10 rfl hl (by decide) rfl (fun ls hl => ?_)
  refine lv_iload_n hx hb dX10_levy_11 rfl (lv_at hl 3 rfl) ?_
  refine lv_aload_n hx hb dX10_levy_12 rfl (lv_at hl 1 rfl) ?_
  refine ti_get (ci := 10) (k := 3) (N := 67) (T := TX10) (v := .ref (A 60 4)) C hw iw_10 rfl ob_60 (by decide) (by decide) fl_X10_13 rfl rfl dX10_levy_13 ?_
  refine lv_iconst (v := 3) hx hb dX10_levy_16 (by decide) ?_
  refine ti_iald (ci := 10) (k := 3) (n := 22) C hw ob_60 (by decide) (fun _ _ => rfl) (by unfold vp_in; decide) dX10_levy_17 ?_
  refine lv_topi (fun x_3 ex_3 => ?_)
  have yx_3 : tY M 60 3 3 = x_3 := ((congrArg _ (by decide)).symm.trans ex_3.symm)
  have bx_3 : 1 ≤ x_3.toInt ∧ x_3.toInt ≤ 30 := mI_rn (i := 3) hI yx_3.symm (fun _ h => h)
  have zx_3 : (tY M 60 3 3).toInt = x_3.toInt := by rw [yx_3]
  have L_4 : tx 8 = x_3.toInt := (htr.1.2.2.2.1).trans ((congrArg Int32.toInt (cg rfl 3)).symm.trans (congrArg Int32.toInt (yx_3)))
  refine lv_irem hx hb dX10_levy_18 (nz (by omega)) ?_
  refine lv_topi (fun x_5 ex_5 => ?_)
  have rx_5 := i_rem ex_5 rfl rfl (by omega) (by omega)
  have rm : rg 2 % tx 8 = x_5.toInt := by rw [← htm, show tx 8 = x_3.toInt by omega]; exact rx_5.2.2.symm
  refine sb_if_ne (tgt := 39) hx hb rfl dX10_levy_19 (by decide) (fun c_19_5 => ?_) (fun c_19_5 => ?_)
  · exact hQ _ _ _ _ _ hw (⟨eR.refl, rfl, (by unfold bq_ly; rw [if_pos (by first | omega | (unfold bq_ma; rw [if_neg (by omega)]; omega))]; exact hr), hI, qw.refl, rfl⟩) dX10_levy_39
  · refine lv_iload_n hx hb dX10_levy_22 rfl (lv_at hl 0 rfl) ?_
    refine lv_aload_n hx hb dX10_levy_23 rfl (lv_at hl 1 rfl) ?_
    refine ti_get (ci := 10) (k := 38) (N := 67) (T := TX10) (v := .ref (A 60 39)) C hw iw_10 rfl ob_60 (by decide) (by decide) fl_X10_81 rfl rfl dX10_levy_24 ?_
    refine lv_iload_n hx hb dX10_levy_27 rfl (lv_at hl 2 rfl) ?_
    refine ti_iald (ci := 10) (k := 38) (n := 23) C hw ob_60 (by decide) (fun _ _ => rfl) (by unfold vp_in; decide) dX10_levy_28 ?_
    refine lv_topi (fun x_7 ex_7 => ?_)
    have yx_7 : tY M 60 38 0 = x_7 := ((congrArg _ (by decide)).symm.trans ex_7.symm)
    have bx_7 : 0 ≤ x_7.toInt ∧ x_7.toInt ≤ 8 := mI_ry (k := 38) (i := 0) hI yx_7.symm
    have zx_7 : (tY M 60 38 0).toInt = x_7.toInt := by rw [yx_7]
    have L_8 : rg 3 = x_7.toInt := (hr.1.2.1).trans (congrArg Int32.toInt (yx_7))
    refine sb_icmp_ge (tgt := 39) hx hb rfl rfl dX10_levy_29 (by decide) (fun c_29_8 => ?_) (fun c_29_8 => ?_)
    · exact hQ _ _ _ _ _ hw (⟨eR.refl, rfl, (by unfold bq_ly; rw [if_pos (by first | omega | (unfold bq_ma; rw [if_neg (by omega)]; omega))]; exact hr), hI, qw.refl, rfl⟩) dX10_levy_39
    · refine lv_aload_n hx hb dX10_levy_32 rfl (lv_at hl 1 rfl) ?_
      refine ti_get (ci := 10) (k := 53) (N := 67) (T := TX10) C hw iw_10 rfl ob_60 (by decide) (by decide) fl_X10_120 rfl rfl dX10_levy_33 ?_
      refine ti_top (y := (-1)) (htw) ?_
      refine sb_if_ne (tgt := 40) hx hb (by decide : ((-1) : Int32).toInt = (-1)) dX10_levy_36 (by decide) (fun c_36_9 => ?_) (fun h => absurd h (by decide))
      refine lv_bipush (v := 8) hx hb dX10_levy_40 (by decide) ?_
      refine lv_iload_n hx hb dX10_levy_42 rfl (lv_at hl 2 rfl) ?_
      refine lv_imul hx hb dX10_levy_43 ?_
      refine ti_top (y := 0) (by decide) ?_
      refine lv_aload_n hx hb dX10_levy_44 rfl (lv_at hl 1 rfl) ?_
      refine ti_get (ci := 10) (k := 39) (N := 67) (T := TX10) (v := .ref (A 60 40)) C hw iw_10 rfl ob_60 (by decide) (by decide) fl_X10_84 rfl rfl dX10_levy_45 ?_
      refine lv_bipush (v := 8) hx hb dX10_levy_48 (by decide) ?_
      refine lv_iload_n hx hb dX10_levy_50 rfl (lv_at hl 2 rfl) ?_
      refine lv_imul hx hb dX10_levy_51 ?_
      refine ti_top (y := 0) (by decide) ?_
      refine lv_iload_n hx hb dX10_levy_52 rfl (lv_at hl 0 rfl) ?_
      refine lv_iadd hx hb dX10_levy_53 ?_
      refine lv_topi (fun x_11 ex_11 => ?_)
      have tx_11 : x_11.toInt = 0 + x_1.toInt := i_add ex_11 (by decide : (0 : Int32).toInt = 0) rfl (by omega) (by omega)
      refine ti_iald (ci := 10) (k := 39) (n := 184) C hw ob_60 (by decide) (fun _ _ => rfl) (vp_in_iff.mpr (by omega)) dX10_levy_54 ?_
      refine lv_topi (fun x_12 ex_12 => ?_)
      have yx_12 : tY M 60 39 x_11.toNatClampNeg = x_12 := (ex_12.symm)
      have bx_12 : 0 ≤ x_12.toInt ∧ x_12.toInt ≤ 7 := mI_ry (k := 39) (i := x_11.toNatClampNeg) hI yx_12.symm
      have L_13 : rg (96 + x_1.toInt.toNat) = x_12.toInt := (hr.2.1 (x_1.toInt.toNat) (by omega) (by omega)).trans (rd_k (n := 8 * 0 + x_1.toInt.toNat) (by omega) (yx_12))
      have LT : rg (96 + x_1.toInt.toNat) = x_12.toInt := L_13
      have AT : 0 ≤ rg (96 + x_1.toInt.toNat) ∧ rg (96 + x_1.toInt.toNat) < tx 4 ∧ _ := hwf.2.2.1 x_1.toInt.toNat (by omega)
      rw [LT] at AT
      refine lv_iadd hx hb dX10_levy_55 ?_
      refine lv_topi (fun x_14 ex_14 => ?_)
      have tx_14 : x_14.toInt = 0 + x_12.toInt := i_add ex_14 (by decide : (0 : Int32).toInt = 0) rfl (by omega) (by omega)
      refine lv_istore (lv' := [(4, .int x_14), (3, .int x_1), (0, .ref (A 60 0)), (1, .int 0), (2, .int t)]) hx hb dX10_levy_56 hl (by decide) rfl (fun ls hl => ?_)
      refine lv_iconst (v := 0) hx hb dX10_levy_58 (by decide) ?_
      refine lv_istore (lv' := [(5, .int 0), (4, .int x_14), (3, .int x_1), (0, .ref (A 60 0)), (1, .int 0), (2, .int t)]) hx hb dX10_levy_59 hl (by decide) rfl (fun ls hl => ?_)
      have hl_61_28 : ∀ (n_29 : Nat) (x_15 : Int32) (M_18 : ti_M) (g_24 : Nat → Int) (H : Heap) (locs : List Loc) (ls : Array Slot), (8 - x_15.toInt : Int).toNat < n_29 → (0 ≤ x_15.toInt) → (x_15.toInt ≤ 8) → (mI Tm M_18) → (qw M_18 M) → (tY M_18 60 34 = tY M 60 34) → (eR 0 M_18 M) → (fI M_18 M) → (tY M_18 60 48 = tY M 60 48) → (qR (tx 4).toNat 0 g_24 M_18) → (bq_lf tx (x_12.toInt) ((g_24 3).toNat - (x_15.toInt).toNat) (x_15.toInt).toNat g_24 = bq_lf tx (x_12.toInt) (rg 3).toNat 0 rg) → (∀ j : Nat, j < 192 → g_24 j = rg j) → (g_24 3 = rg 3) → ti_H ti_LM D A cy H0 M_18 H locs → lv_has ls 8 [(5, .int x_15), (4, .int x_14), (3, .int x_1), (0, .ref (A 60 0)), (1, .int 0), (2, .int t)] → W p l e (ti_rm 4) s m args below meth c H locs 0 0 Q (F0 m 61 ls []) := by
        intro n_29
        induction n_29 with
        | zero => intro x_15 M_18 g_24 H locs ls hf_29; exact absurd hf_29 (Nat.not_lt_zero _)
        | succ n_29 ih_29 =>
          intro x_15 M_18 g_24 H locs ls hf_29 b_16 b_17 iM_18 f_19 f_20 f_21 f_22 f_23 hs_25 j_26 j_27 j_28 hw hl
          refine lv_iload hx hb dX10_levy_61 (lv_at hl 0 rfl) ?_
          refine lv_aload_n hx hb dX10_levy_63 rfl (lv_at hl 3 rfl) ?_
          refine ti_get (ci := 10) (k := 38) (N := 67) (T := TX10) (v := .ref (A 60 39)) C hw iw_10 rfl ob_60 (by decide) (by decide) fl_X10_81 rfl rfl dX10_levy_64 ?_
          refine lv_iload_n hx hb dX10_levy_67 rfl (lv_at hl 4 rfl) ?_
          refine ti_iald (ci := 10) (k := 38) (n := 23) C hw ob_60 (by decide) (fun _ _ => rfl) (by unfold vp_in; decide) dX10_levy_68 ?_
          refine ti_top (y := x_7) ((congrArg _ (by decide)).trans ((cg f_19.2.2.1 0).trans yx_7)) ?_
          have L_30 : g_24 3 = x_7.toInt := (hs_25.1.2.1).trans (congrArg Int32.toInt ((cg f_19.2.2.1 0).trans yx_7))
          refine sb_icmp_ge (tgt := 166) hx hb rfl rfl dX10_levy_69 (by decide) (fun c_69_30 => ?_) (fun c_69_30 => ?_)
          · exact hQ _ _ _ _ _ hw (⟨f_21, ((f_23)), (by unfold bq_ly; rw [show bq_ma rg (rg 114) = x_12.toInt by (unfold bq_ma; rw [if_pos (by omega), show rg 114 = x_1.toInt by omega]; exact LT), if_neg (by omega), ← j_26, lf_end (by omega)]; exact hs_25), iM_18, f_19, ((f_20))⟩) dX10_levy_166
          · refine lv_iload hx hb dX10_levy_72 (lv_at hl 0 rfl) ?_
            refine lv_iload_n hx hb dX10_levy_74 rfl (lv_at hl 2 rfl) ?_
            refine sb_icmp_ne (tgt := 81) hx hb rfl rfl dX10_levy_75 (by decide) (fun c_75_31 => ?_) (fun c_75_31 => ?_)
            · refine lv_aload_n hx hb dX10_levy_81 rfl (lv_at hl 3 rfl) ?_
              refine ti_get (ci := 10) (k := 39) (N := 67) (T := TX10) (v := .ref (A 60 40)) C hw iw_10 rfl ob_60 (by decide) (by decide) fl_X10_84 rfl rfl dX10_levy_82 ?_
              refine lv_bipush (v := 8) hx hb dX10_levy_85 (by decide) ?_
              refine lv_iload_n hx hb dX10_levy_87 rfl (lv_at hl 4 rfl) ?_
              refine lv_imul hx hb dX10_levy_88 ?_
              refine ti_top (y := 0) (by decide) ?_
              refine lv_iload hx hb dX10_levy_89 (lv_at hl 0 rfl) ?_
              refine lv_iadd hx hb dX10_levy_91 ?_
              refine lv_topi (fun x_33 ex_33 => ?_)
              have tx_33 : x_33.toInt = 0 + x_15.toInt := i_add ex_33 (by decide : (0 : Int32).toInt = 0) rfl (by omega) (by omega)
              refine ti_iald (ci := 10) (k := 39) (n := 184) C hw ob_60 (by decide) (fun _ _ => rfl) (vp_in_iff.mpr (by omega)) dX10_levy_92 ?_
              refine lv_topi (fun x_34 ex_34 => ?_)
              have yx_34 : tY M_18 60 39 x_33.toNatClampNeg = x_34 := (ex_34.symm)
              have bx_34 : 0 ≤ x_34.toInt ∧ x_34.toInt ≤ 7 := mI_ry (k := 39) (i := x_33.toNatClampNeg) iM_18 yx_34.symm
              have wx_34 : tY M 60 39 x_33.toNatClampNeg = x_34 := ((cg f_19.2.2.2.1 x_33.toNatClampNeg)).symm.trans yx_34
              have L_35 : g_24 (96 + x_15.toInt.toNat) = x_34.toInt := (hs_25.2.1 (x_15.toInt.toNat) (by omega) (by omega)).trans (rd_k (n := 8 * 0 + x_15.toInt.toNat) (by omega) ((cg f_19.2.2.2.1 x_33.toNatClampNeg).trans wx_34))
              have A_36 : 0 ≤ rg (96 + x_15.toInt.toNat) ∧ rg (96 + x_15.toInt.toNat) < tx 4 ∧ rg (128 + (rg (96 + x_15.toInt.toNat)).toNat) = 1 := hwf.2.2.1 x_15.toInt.toNat (by omega)
              rw [← j_27 _ (by omega : 96 + x_15.toInt.toNat < 192), L_35] at A_36
              have stA_36 : g_24 (128 + x_34.toInt.toNat) = 1 := by rw [j_27 _ (by omega)]; exact A_36.2.2
              have w2A_36 : g_24 2 = rg 2 := j_27 2 (by decide)
              have BT : x_34.toInt ≠ x_12.toInt := fun q => by have := hwf.2.2.2.1 x_15.toInt.toNat x_1.toInt.toNat (by omega) (by omega) (by rw [LT, ← j_27 _ (by omega : 96 + x_15.toInt.toNat < 192), L_35]; exact q); omega
              refine lv_istore (lv' := [(6, .int x_34), (5, .int x_15), (4, .int x_14), (3, .int x_1), (0, .ref (A 60 0)), (1, .int 0), (2, .int t)]) hx hb dX10_levy_93 hl (by decide) rfl (fun ls hl => ?_)
              refine lv_aload_n hx hb dX10_levy_95 rfl (lv_at hl 4 rfl) ?_
              refine lv_iload_n hx hb dX10_levy_96 rfl (lv_at hl 5 rfl) ?_
              refine lv_iload hx hb dX10_levy_97 (lv_at hl 0 rfl) ?_
              refine lv_iload hx hb dX10_levy_99 (lv_at hl 1 rfl) ?_
              refine lv_iload_n hx hb dX10_levy_101 rfl (lv_at hl 6 rfl) ?_
              refine ti_callVv (ci := 10) (av := [.int 0, .int x_34, .int x_15, .int t]) C hw (z_X10_calls_0 l D A cy hJ M_18 iM_18 x_34 x_15 t (by first | omega | decide) (by first | omega | decide) tx g_24 (tR_lw htr (eR_lw (q := 0) f_21)) ht4 hs_25 (by omega) stA_36 (by omega)) ⟨ml_X10_363, ym_X10_calls, yv_X10_calls, yi_X10_calls, yc_X10_calls⟩ yd_X10_calls ob_60 (by decide) rfl rfl hl.1 (Nat.le_of_ble_eq_true rfl) ⟨by decide, by decide⟩ ⟨Nat.zero_le _, Nat.zero_le _⟩ dX10_levy_102 (fun M_38 H locs hp_38 hw => ?_)
              obtain ⟨n6_41, fi_42, iM_38, q_39, q_40⟩ := hp_38
              have hs_43 : qR (tx 4).toNat 0 g_24 M_38 := qR_of hs_25 q_40
              refine lv_aload_n hx hb dX10_levy_105 rfl (lv_at hl 4 rfl) ?_
              refine ti_get (ci := 10) (k := 43) (N := 67) (T := TX10) (v := .ref (A 60 44)) C hw iw_10 rfl ob_60 (by decide) (by decide) fl_X10_96 rfl rfl dX10_levy_106 ?_
              refine lv_bipush (v := 8) hx hb dX10_levy_109 (by decide) ?_
              refine lv_iload_n hx hb dX10_levy_111 rfl (lv_at hl 5 rfl) ?_
              refine lv_imul hx hb dX10_levy_112 ?_
              refine ti_top (y := 0) (by decide) ?_
              refine lv_iload hx hb dX10_levy_113 (lv_at hl 0 rfl) ?_
              refine lv_iadd hx hb dX10_levy_115 ?_
              refine lv_topi (fun x_44 ex_44 => ?_)
              have tx_44 : x_44.toInt = 0 + x_34.toInt := i_add ex_44 (by decide : (0 : Int32).toInt = 0) rfl (by omega) (by omega)
              refine ti_iald (ci := 10) (k := 43) (n := 184) C hw ob_60 (by decide) (fun _ _ => rfl) (vp_in_iff.mpr (by omega)) dX10_levy_116 ?_
              refine lv_topi (fun x_45 ex_45 => ?_)
              have yx_45 : tY M_38 60 43 x_44.toNatClampNeg = x_45 := (ex_45.symm)
              have wx_45 : tY M_18 60 43 x_44.toNatClampNeg = x_45 := ((cg (tY_fr q_40) x_44.toNatClampNeg)).symm.trans yx_45
              have L_46 : g_24 (192 + x_34.toInt.toNat) = x_45.toInt := ((hs_43.2.2.2.1 (x_34.toInt.toNat) (by omega)).2.2.2.2.1).trans (rd_k (n := 8 * 0 + x_34.toInt.toNat) (by omega) ((cg (tY_fr q_40) x_44.toNatClampNeg).trans wx_45))
              refine lv_aload_n hx hb dX10_levy_117 rfl (lv_at hl 4 rfl) ?_
              refine lv_iconst (v := 0) hx hb dX10_levy_118 (by decide) ?_
              refine lv_iconst (v := 0) hx hb dX10_levy_119 (by decide) ?_
              refine lv_bipush (v := 99) hx hb dX10_levy_120 (by decide) ?_
              refine lv_iconst (v := 1) hx hb dX10_levy_122 (by decide) ?_
              refine ti_callVi (ci := 10) (av := [.int 0, .int 0, .int 99, .int 1]) C hw (z_X10_within l D A cy hJ M_38 iM_38 (mL_lw (lk.trans (lk_of q_39.1 q_39.2.1) (lk_of f_19.1 f_19.2.1)).1 hL) 0 (by first | omega | decide) (by first | omega | decide) 0 99 1 (bq_fa tx g_24 x_34.toInt x_15.toInt) tx (tR_lw htr (eR_lw (q := 0) (eR.trans (eR_fI fi_42 q_40) f_21))) n6_41 (by first | decide | omega)) ⟨ml_X10_367, ym_X10_within, yv_X10_within, yi_X10_within, yc_X10_within⟩ yd_X10_within ob_60 (by decide) rfl rfl hl.1 (Nat.le_of_ble_eq_true rfl) ⟨by decide, by decide⟩ ⟨Nat.zero_le _, Nat.zero_le _⟩ dX10_levy_123 (fun r_47 M_48 H locs hp_48 hw => ?_)
              obtain ⟨fi_52, pr_47, iM_48, q_50, q_51⟩ := hp_48
              have hs_53 : qR (tx 4).toNat 0 g_24 M_48 := qR_of hs_43 q_51
              try simp only [show (0 : Int32).toInt.toNat = 0 by decide] at pr_47
              try simp only [show (0 : Int32).toInt = 0 by decide] at pr_47
              try simp only [show (0 : Int32).toInt.toNat = 0 by decide] at pr_47
              try simp only [show (0 : Int32).toInt = 0 by decide] at pr_47
              try simp only [show (99 : Int32).toInt.toNat = 99 by decide] at pr_47
              try simp only [show (99 : Int32).toInt = 99 by decide] at pr_47
              try simp only [show (1 : Int32).toInt.toNat = 1 by decide] at pr_47
              try simp only [show (1 : Int32).toInt = 1 by decide] at pr_47
              have bpr_47 : 0 ≤ r_47.toInt ∧ r_47.toInt ≤ 99 := by rw [pr_47]; unfold bq_pt; (repeat' split) <;> omega
              refine ti_min C ml_X10_380 hl.1 (by decide) (Nat.le_of_ble_eq_true rfl) ⟨Nat.zero_le _, Nat.zero_le _⟩ dX10_levy_126 ?_
              refine lv_topi (fun x_54 ex_54 => ?_)
              have bx_54 := i_min ex_54 rfl rfl
              refine lv_istore (lv' := [(7, .int x_54), (6, .int x_34), (5, .int x_15), (4, .int x_14), (3, .int x_1), (0, .ref (A 60 0)), (1, .int 0), (2, .int t)]) hx hb dX10_levy_129 hl (by decide) rfl (fun ls hl => ?_)
              refine lv_aload_n hx hb dX10_levy_131 rfl (lv_at hl 5 rfl) ?_
              refine ti_get (ci := 10) (k := 43) (N := 67) (T := TX10) (v := .ref (A 60 44)) C hw iw_10 rfl ob_60 (by decide) (by decide) fl_X10_96 rfl rfl dX10_levy_132 ?_
              refine lv_bipush (v := 8) hx hb dX10_levy_135 (by decide) ?_
              refine lv_iload_n hx hb dX10_levy_137 rfl (lv_at hl 6 rfl) ?_
              refine lv_imul hx hb dX10_levy_138 ?_
              refine ti_top (y := 0) (by decide) ?_
              refine lv_iload hx hb dX10_levy_139 (lv_at hl 1 rfl) ?_
              refine lv_iadd hx hb dX10_levy_141 ?_
              refine lv_topi (fun x_55 ex_55 => ?_)
              have tx_55 : x_55.toInt = 0 + x_34.toInt := i_add ex_55 (by decide : (0 : Int32).toInt = 0) rfl (by omega) (by omega)
              refine lv_dup2_11 hx hb dX10_levy_142 rfl rfl ?_
              refine ti_iald (ci := 10) (k := 43) (n := 184) C hw ob_60 (by decide) (fun _ _ => rfl) (vp_in_iff.mpr (by omega)) dX10_levy_143 ?_
              refine lv_topi (fun x_56 ex_56 => ?_)
              have yx_56 : tY M_48 60 43 x_55.toNatClampNeg = x_56 := (ex_56.symm)
              have wx_56 : tY M_18 60 43 x_55.toNatClampNeg = x_56 := (((cg (tY_fr q_51) x_55.toNatClampNeg).trans (cg (tY_fr q_40) x_55.toNatClampNeg))).symm.trans yx_56
              have L_57 : g_24 (192 + x_34.toInt.toNat) = x_56.toInt := ((hs_53.2.2.2.1 (x_34.toInt.toNat) (by omega)).2.2.2.2.1).trans (rd_k (n := 8 * 0 + x_34.toInt.toNat) (by omega) ((cg (tY_fr q_51) x_55.toNatClampNeg).trans ((cg (tY_fr q_40) x_55.toNatClampNeg).trans wx_56)))
              refine lv_iload hx hb dX10_levy_144 (lv_at hl 0 rfl) ?_
              refine lv_isub hx hb dX10_levy_146 ?_
              refine lv_topi (fun x_58 ex_58 => ?_)
              have tx_58 : x_58.toInt = bw (x_56.toInt - x_54.toInt) := bw_sub ex_58 rfl rfl
              refine ti_iast (ci := 10) (k := 43) (n := 184) C hw ob_60 (by decide) (fun _ _ => rfl) (vp_in_iff.mpr (by omega)) dX10_levy_147 (fun H locs hw => ?_)
              obtain ⟨M_59, hM_59⟩ : ∃ z : ti_M, z = uY M_48 60 43 (upd (tY M_48 60 43) (x_55 : Int32).toNatClampNeg x_58) := ⟨_, rfl⟩
              have hw := hw.to hM_59.symm
              have iM_59 : mI Tm M_59 := mI_up (i := x_55.toNatClampNeg) iM_48 hM_59 trivial
              have hs_60 : qR (tx 4).toNat 0 (pp_su g_24 (192 + x_34.toInt.toNat) x_58.toInt) M_59 := qR_43 (m := x_34.toInt.toNat) (z := x_55) hs_53 (by omega) rfl hM_59 (by omega) (by omega)
              obtain ⟨g_61, eg_61⟩ : ∃ z : Nat → Int, z = pp_su g_24 (192 + x_34.toInt.toNat) x_58.toInt := ⟨_, rfl⟩
              rw [← eg_61] at hs_60
              refine lv_aload_n hx hb dX10_levy_148 rfl (lv_at hl 5 rfl) ?_
              refine ti_get (ci := 10) (k := 43) (N := 67) (T := TX10) (v := .ref (A 60 44)) C hw iw_10 rfl ob_60 (by decide) (by decide) fl_X10_96 rfl rfl dX10_levy_149 ?_
              refine lv_iload hx hb dX10_levy_152 (lv_at hl 3 rfl) ?_
              refine lv_dup2_11 hx hb dX10_levy_154 rfl rfl ?_
              refine ti_iald (ci := 10) (k := 43) (n := 184) C hw ob_60 (by decide) (fun _ _ => rfl) (vp_in_iff.mpr (by omega)) dX10_levy_155 ?_
              refine lv_topi (fun x_62 ex_62 => ?_)
              have yx_62 : tY M_59 60 43 x_14.toNatClampNeg = x_62 := (ex_62.symm)
              have L_63 : g_61 (192 + x_12.toInt.toNat) = x_62.toInt := ((hs_60.2.2.2.1 (x_12.toInt.toNat) (by omega)).2.2.2.2.1).trans (rd_k (n := 8 * 0 + x_12.toInt.toNat) (by omega) (yx_62))
              refine lv_iload hx hb dX10_levy_156 (lv_at hl 0 rfl) ?_
              refine lv_iadd hx hb dX10_levy_158 ?_
              refine lv_topi (fun x_64 ex_64 => ?_)
              have tx_64 : x_64.toInt = bw (x_62.toInt + x_54.toInt) := bw_add ex_64 rfl rfl
              refine ti_iast (ci := 10) (k := 43) (n := 184) C hw ob_60 (by decide) (fun _ _ => rfl) (vp_in_iff.mpr (by omega)) dX10_levy_159 (fun H locs hw => ?_)
              obtain ⟨M_65, hM_65⟩ : ∃ z : ti_M, z = uY M_59 60 43 (upd (tY M_59 60 43) (x_14 : Int32).toNatClampNeg x_64) := ⟨_, rfl⟩
              have hw := hw.to hM_65.symm
              have iM_65 : mI Tm M_65 := mI_up (i := x_14.toNatClampNeg) iM_59 hM_65 trivial
              have hs_66 : qR (tx 4).toNat 0 (pp_su g_61 (192 + x_12.toInt.toNat) x_64.toInt) M_65 := qR_43 (m := x_12.toInt.toNat) (z := x_14) hs_60 (by omega) rfl hM_65 (by omega) (by omega)
              obtain ⟨g_67, eg_67⟩ : ∃ z : Nat → Int, z = pp_su g_61 (192 + x_12.toInt.toNat) x_64.toInt := ⟨_, rfl⟩
              rw [← eg_67] at hs_66
              obtain ⟨x_69, ex_69⟩ : ∃ z : Int32, z = x_15 + 1 := ⟨_, rfl⟩
              have tx_69 : x_69.toInt = x_15.toInt + 1 := i_add ex_69 rfl (by decide) (by omega) (by omega)
              refine lv_iinc (v := x_69) (lv' := [(5, .int x_69), (7, .int x_54), (6, .int x_34), (4, .int x_14), (3, .int x_1), (0, .ref (A 60 0)), (1, .int 0), (2, .int t)]) hx hb dX10_levy_160 hl (k := 2) rfl (by rw [ex_69]; rfl) (by decide) rfl (fun ls hl => ?_)
              refine lv_goto (tgt := 61) hx hb dX10_levy_163 (by decide) ?_
              exact ih_29 x_69 M_65 g_67 _ _ _ (by omega) (by first | omega | decide) (by first | omega | decide) iM_65 (qw.trans (qw_Y hM_65 (by decide)) (qw.trans (qw_Y hM_59 (by decide)) (qw.trans q_50 (qw.trans q_39 f_19)))) (((tY_nE hM_65 (nk (by decide))).trans ((tY_nE hM_59 (nk (by decide))).trans ((tY_fr q_51).trans ((tY_fr q_40).trans f_20))))) (eR.trans (eR_Y hM_65 (bk_m (z := x_14) (by omega) (by decide))) (eR.trans (eR_Y hM_59 (bk_m (z := x_55) (by omega) (by decide))) (eR.trans (eR_fI fi_52 q_51) (eR.trans (eR_fI fi_42 q_40) f_21)))) (fI.trans (fI_Y hM_65) (fI.trans (fI_Y hM_59) (fI.trans fi_52 (fI.trans fi_42 f_22)))) (((tY_nE hM_65 (nk (by decide))).trans ((tY_nE hM_59 (nk (by decide))).trans ((tY_fr q_51).trans ((tY_fr q_40).trans f_23))))) hs_66 (by rw [← j_26, lf_go (tx := tx) (t := x_12.toInt) (s := g_24) (p := x_15.toInt.toNat) (f := (g_24 3).toNat - x_15.toInt.toNat) (f' := (g_24 3).toNat - x_69.toInt.toNat) (by omega), show bq_l1 tx g_24 x_12.toInt x_15.toInt.toNat = g_67 by (unfold bq_l1 bq_py; rw [if_neg (by omega), L_35, show ((x_15.toInt.toNat : Nat) : Int) = x_15.toInt by omega, show bq_lv tx g_24 0 (x_15.toInt) (x_15.toInt) = _ from lv_wv (x := x_34.toInt) (by unfold bq_ma; rw [if_pos (by omega)]; exact L_35) (by omega), ← pr_47, show g_24 (192 + x_34.toInt.toNat) = x_45.toInt by omega, show bq_mn r_47.toInt x_45.toInt = x_54.toInt by (unfold bq_mn; split <;> omega), show x_45.toInt = x_56.toInt by omega, ← tx_58, ← eg_61, show g_61 (192 + x_12.toInt.toNat) = x_62.toInt by omega, ← tx_64, ← eg_67]), show x_69.toInt.toNat = x_15.toInt.toNat + 1 by omega, show (g_67 3).toNat = (g_24 3).toNat by rw [eg_67, su_n (by omega), eg_61, su_n (by omega)]]) (fun j hj => by rw [eg_67, su_n (by omega), eg_61, su_n (by omega)]; exact j_27 j hj) (((fun j hj => by rw [eg_67, su_n (by omega), eg_61, su_n (by omega)]; exact j_27 j hj) : ∀ j : Nat, j < 192 → g_67 j = rg j) 3 (by decide)) hw (lv_sub hl [0, 3, 4, 5, 6, 7] rfl)
            · refine lv_goto (tgt := 160) hx hb dX10_levy_78 (by decide) ?_
              obtain ⟨x_68, ex_68⟩ : ∃ z : Int32, z = x_15 + 1 := ⟨_, rfl⟩
              have tx_68 : x_68.toInt = x_15.toInt + 1 := i_add ex_68 rfl (by decide) (by omega) (by omega)
              refine lv_iinc (v := x_68) (lv' := [(5, .int x_68), (4, .int x_14), (3, .int x_1), (0, .ref (A 60 0)), (1, .int 0), (2, .int t)]) hx hb dX10_levy_160 hl (k := 0) rfl (by rw [ex_68]; rfl) (by decide) rfl (fun ls hl => ?_)
              refine lv_goto (tgt := 61) hx hb dX10_levy_163 (by decide) ?_
              exact ih_29 x_68 M_18 g_24 _ _ _ (by omega) (by first | omega | decide) (by first | omega | decide) iM_18 f_19 ((f_20)) f_21 f_22 ((f_23)) hs_25 (by rw [← j_26, lf_go (tx := tx) (t := x_12.toInt) (s := g_24) (p := x_15.toInt.toNat) (f := (g_24 3).toNat - x_15.toInt.toNat) (f' := (g_24 3).toNat - x_68.toInt.toNat) (by omega), show bq_l1 tx g_24 x_12.toInt x_15.toInt.toNat = g_24 by (unfold bq_l1; rw [if_pos (by rw [j_27 _ (by omega : 96 + x_15.toInt.toNat < 192), show x_15.toInt.toNat = x_1.toInt.toNat by omega]; exact LT)]), show x_68.toInt.toNat = x_15.toInt.toNat + 1 by omega]) j_27 ((j_27 : ∀ j : Nat, j < 192 → g_24 j = rg j) 3 (by decide)) hw (lv_sub hl [0, 1, 2, 3, 4, 5] rfl)
      exact hl_61_28 ((8 - 0 : Int).toNat + 1) 0 M rg _ _ _ (Nat.lt_succ_self _) (by have lt0 : (0 : Int32).toInt = 0 := (by decide); first | omega | decide) (by have lt0 : (0 : Int32).toInt = 0 := (by decide); first | omega | decide) hI qw.refl rfl eR.refl fI.refl rfl hr (by show bq_lf tx _ ((rg 3).toNat - 0) 0 rg = _; rfl) (fun _ _ => rfl) rfl hw (lv_sub hl [0, 1, 2, 3, 4, 5] rfl)
set_option maxHeartbeats 4000000 in
set_option maxRecDepth 100000 in
theorem z_X10_wear_0 (l : Launch) (D : va_G) (A : Nat → Nat → Nat) (cy : Nat → ClassId) (hJ : ti_inj ti_LM A) (M : ti_M) (hI : mI Tm M) (hL : mL M) (t : Int32) (tx rg : Nat → Int) (htr : tR tx M) (ht4 : 0 ≤ tx 4 ∧ tx 4 ≤ 8) (hr : qR (tx 4).toNat 0 rg M) (hwf : wF tx rg) (htw : tI M 60 53 = -1) (htm : t.toInt = rg 2) : ti_Kv l yX10_wear cX10_wear 6 4 ti_LM D A cy M [.ref (A 60 0), .int 0, .int t] (fun M2 => eR 0 M2 M ∧ tY M2 60 48 = tY M 60 48 ∧ qR (tx 4).toNat 0 (bq_wr tx rg) M2 ∧ mI Tm M2 ∧ qw M2 M ∧ tY M2 60 34 = tY M 60 34) := by
  refine ti_eV yp_X10_wear hJ ti_LM_nd (Nat.le_of_ble_eq_true rfl) ?_
  intro p e s m args below meth c Q H0 C hQ hw ls hl
  have hx := C.1
  have hb := C.2.1
  have hl : lv_has ls 6 [(0, .ref (A 60 0)), (1, .int 0), (2, .int t)] := hl
  refine lv_iconst (v := 0) hx hb dX10_wear_0 (by decide) ?_
  refine lv_istore_n (lv' := [(3, .int 0), (0, .ref (A 60 0)), (1, .int 0), (2, .int t)]) hx hb dX10_wear_1 rfl hl (by decide) rfl (fun ls hl => ?_)
  have hl_2_14 : ∀ (n_15 : Nat) (x_1 : Int32) (M_4 : ti_M) (g_10 : Nat → Int) (H : Heap) (locs : List Loc) (ls : Array Slot), (8 - x_1.toInt : Int).toNat < n_15 → (0 ≤ x_1.toInt) → (x_1.toInt ≤ 8) → (mI Tm M_4) → (qw M_4 M) → (tY M_4 60 34 = tY M 60 34) → (eR 0 M_4 M) → (fI M_4 M) → (tY M_4 60 48 = tY M 60 48) → (qR (tx 4).toNat 0 g_10 M_4) → (bq_wf tx ((g_10 3).toNat - (x_1.toInt).toNat) (x_1.toInt).toNat g_10 = bq_wf tx (rg 3).toNat 0 rg) → (∀ j : Nat, j < 160 → g_10 j = rg j) → (g_10 3 = rg 3) → ti_H ti_LM D A cy H0 M_4 H locs → lv_has ls 6 [(3, .int x_1), (0, .ref (A 60 0)), (1, .int 0), (2, .int t)] → W p l e (ti_rm 4) s m args below meth c H locs 0 0 Q (F0 m 2 ls []) := by
    intro n_15
    induction n_15 with
    | zero => intro x_1 M_4 g_10 H locs ls hf_15; exact absurd hf_15 (Nat.not_lt_zero _)
    | succ n_15 ih_15 =>
      intro x_1 M_4 g_10 H locs ls hf_15 b_2 b_3 iM_4 f_5 f_6 f_7 f_8 f_9 hs_11 j_12 j_13 j_14 hw hl
      refine lv_iload_n hx hb dX10_wear_2 rfl (lv_at hl 0 rfl) ?_
      refine lv_aload_n hx hb dX10_wear_3 rfl (lv_at hl 1 rfl) ?_
      refine ti_get (ci := 10) (k := 38) (N := 67) (T := TX10) (v := .ref (A 60 39)) C hw iw_10 rfl ob_60 (by decide) (by decide) fl_X10_81 rfl rfl dX10_wear_4 ?_
      refine lv_iload_n hx hb dX10_wear_7 rfl (lv_at hl 2 rfl) ?_
      refine ti_iald (ci := 10) (k := 38) (n := 23) C hw ob_60 (by decide) (fun _ _ => rfl) (by unfold vp_in; decide) dX10_wear_8 ?_
      refine lv_topi (fun x_16 ex_16 => ?_)
      have yx_16 : tY M_4 60 38 0 = x_16 := ((congrArg _ (by decide)).symm.trans ex_16.symm)
      have bx_16 : 0 ≤ x_16.toInt ∧ x_16.toInt ≤ 8 := mI_ry (k := 38) (i := 0) iM_4 yx_16.symm
      have zx_16 : (tY M_4 60 38 0).toInt = x_16.toInt := by rw [yx_16]
      have wx_16 : tY M 60 38 0 = x_16 := ((cg f_5.2.2.1 0)).symm.trans yx_16
      have zwx_16 : (tY M 60 38 0).toInt = x_16.toInt := by rw [wx_16]
      have L_17 : g_10 3 = x_16.toInt := (hs_11.1.2.1).trans (congrArg Int32.toInt ((cg f_5.2.2.1 0).trans wx_16))
      refine sb_icmp_ge (tgt := 104) hx hb rfl rfl dX10_wear_9 (by decide) (fun c_9_17 => ?_) (fun c_9_17 => ?_)
      · exact hQ _ _ _ _ _ hw (⟨f_7, ((f_9)), (by unfold bq_wr; rw [← j_12, wf_end (by omega)]; exact hs_11), iM_4, f_5, ((f_6))⟩) dX10_wear_104
      · refine lv_aload_n hx hb dX10_wear_12 rfl (lv_at hl 1 rfl) ?_
        refine ti_get (ci := 10) (k := 39) (N := 67) (T := TX10) (v := .ref (A 60 40)) C hw iw_10 rfl ob_60 (by decide) (by decide) fl_X10_84 rfl rfl dX10_wear_13 ?_
        refine lv_bipush (v := 8) hx hb dX10_wear_16 (by decide) ?_
        refine lv_iload_n hx hb dX10_wear_18 rfl (lv_at hl 2 rfl) ?_
        refine lv_imul hx hb dX10_wear_19 ?_
        refine ti_top (y := 0) (by decide) ?_
        refine lv_iload_n hx hb dX10_wear_20 rfl (lv_at hl 0 rfl) ?_
        refine lv_iadd hx hb dX10_wear_21 ?_
        refine lv_topi (fun x_19 ex_19 => ?_)
        have tx_19 : x_19.toInt = 0 + x_1.toInt := i_add ex_19 (by decide : (0 : Int32).toInt = 0) rfl (by omega) (by omega)
        refine ti_iald (ci := 10) (k := 39) (n := 184) C hw ob_60 (by decide) (fun _ _ => rfl) (vp_in_iff.mpr (by omega)) dX10_wear_22 ?_
        refine lv_topi (fun x_20 ex_20 => ?_)
        have yx_20 : tY M_4 60 39 x_19.toNatClampNeg = x_20 := (ex_20.symm)
        have bx_20 : 0 ≤ x_20.toInt ∧ x_20.toInt ≤ 7 := mI_ry (k := 39) (i := x_19.toNatClampNeg) iM_4 yx_20.symm
        have wx_20 : tY M 60 39 x_19.toNatClampNeg = x_20 := ((cg f_5.2.2.2.1 x_19.toNatClampNeg)).symm.trans yx_20
        have L_21 : g_10 (96 + x_1.toInt.toNat) = x_20.toInt := (hs_11.2.1 (x_1.toInt.toNat) (by omega) (by omega)).trans (rd_k (n := 8 * 0 + x_1.toInt.toNat) (by omega) ((cg f_5.2.2.2.1 x_19.toNatClampNeg).trans wx_20))
        have A_22 : 0 ≤ rg (96 + x_1.toInt.toNat) ∧ rg (96 + x_1.toInt.toNat) < tx 4 ∧ rg (128 + (rg (96 + x_1.toInt.toNat)).toNat) = 1 := hwf.2.2.1 x_1.toInt.toNat (by omega)
        rw [← j_13 _ (by omega : 96 + x_1.toInt.toNat < 160), L_21] at A_22
        have stA_22 : g_10 (128 + x_20.toInt.toNat) = 1 := by rw [j_13 _ (by omega)]; exact A_22.2.2
        have w2A_22 : g_10 2 = rg 2 := j_13 2 (by decide)
        refine lv_istore (lv' := [(4, .int x_20), (3, .int x_1), (0, .ref (A 60 0)), (1, .int 0), (2, .int t)]) hx hb dX10_wear_23 hl (by decide) rfl (fun ls hl => ?_)
        refine lv_bipush (v := 8) hx hb dX10_wear_25 (by decide) ?_
        refine lv_iload_n hx hb dX10_wear_27 rfl (lv_at hl 3 rfl) ?_
        refine lv_imul hx hb dX10_wear_28 ?_
        refine ti_top (y := 0) (by decide) ?_
        refine lv_iload hx hb dX10_wear_29 (lv_at hl 0 rfl) ?_
        refine lv_iadd hx hb dX10_wear_31 ?_
        refine lv_topi (fun x_23 ex_23 => ?_)
        have tx_23 : x_23.toInt = 0 + x_20.toInt := i_add ex_23 (by decide : (0 : Int32).toInt = 0) rfl (by omega) (by omega)
        refine lv_istore (lv' := [(5, .int x_23), (4, .int x_20), (3, .int x_1), (0, .ref (A 60 0)), (1, .int 0), (2, .int t)]) hx hb dX10_wear_32 hl (by decide) rfl (fun ls hl => ?_)
        refine lv_aload_n hx hb dX10_wear_34 rfl (lv_at hl 3 rfl) ?_
        refine ti_get (ci := 10) (k := 47) (N := 67) (T := TX10) (v := .ref (A 60 48)) C hw iw_10 rfl ob_60 (by decide) (by decide) fl_X10_108 rfl rfl dX10_wear_35 ?_
        refine lv_iload hx hb dX10_wear_38 (lv_at hl 0 rfl) ?_
        refine ti_iald (ci := 10) (k := 47) (n := 184) C hw ob_60 (by decide) (fun _ _ => rfl) (vp_in_iff.mpr (by omega)) dX10_wear_40 ?_
        refine lv_topi (fun x_24 ex_24 => ?_)
        have yx_24 : tY M_4 60 47 x_23.toNatClampNeg = x_24 := (ex_24.symm)
        have L_25 : g_10 (240 + x_20.toInt.toNat) = x_24.toInt := ((hs_11.2.2.2.1 (x_20.toInt.toNat) (by omega)).2.2.2.2.2).trans (rd_k (n := 8 * 0 + x_20.toInt.toNat) (by omega) (yx_24))
        refine sb_if_le (tgt := 58) hx hb rfl dX10_wear_41 (by decide) (fun c_41_25 => ?_) (fun c_41_25 => ?_)
        · refine lv_iload_n hx hb dX10_wear_58 rfl (lv_at hl 2 rfl) ?_
          refine sb_if_le (tgt := 98) hx hb rfl dX10_wear_59 (by decide) (fun c_59_31 => ?_) (fun c_59_31 => ?_)
          · obtain ⟨x_55, ex_55⟩ : ∃ z : Int32, z = x_1 + 1 := ⟨_, rfl⟩
            have tx_55 : x_55.toInt = x_1.toInt + 1 := i_add ex_55 rfl (by decide) (by omega) (by omega)
            refine lv_iinc (v := x_55) (lv' := [(3, .int x_55), (5, .int x_23), (4, .int x_20), (0, .ref (A 60 0)), (1, .int 0), (2, .int t)]) hx hb dX10_wear_98 hl (k := 2) rfl (by rw [ex_55]; rfl) (by decide) rfl (fun ls hl => ?_)
            refine lv_goto (tgt := 2) hx hb dX10_wear_101 (by decide) ?_
            exact ih_15 x_55 M_4 g_10 _ _ _ (by omega) (by first | omega | decide) (by first | omega | decide) iM_4 f_5 ((f_6)) f_7 f_8 ((f_9)) hs_11 (by rw [← j_12, wf_go (tx := tx) (s := g_10) (p := x_1.toInt.toNat) (f := (g_10 3).toNat - x_1.toInt.toNat) (f' := (g_10 3).toNat - x_55.toInt.toNat) (by omega), show bq_w1 tx g_10 x_1.toInt.toNat = g_10 by (unfold bq_w1; rw [L_21, L_25, if_neg (by omega), if_neg (by omega)]), show x_55.toInt.toNat = x_1.toInt.toNat + 1 by omega]) j_13 ((j_13 : ∀ j : Nat, j < 160 → g_10 j = rg j) 3 (by decide)) hw (lv_sub hl [0, 3, 4, 5] rfl)
          · refine lv_aload_n hx hb dX10_wear_62 rfl (lv_at hl 3 rfl) ?_
            refine ti_get (ci := 10) (k := 53) (N := 67) (T := TX10) C hw iw_10 rfl ob_60 (by decide) (by decide) fl_X10_120 rfl rfl dX10_wear_63 ?_
            refine ti_top (y := (-1)) ((f_8 53 (by decide)).trans htw) ?_
            refine lv_iconst (v := 1) hx hb dX10_wear_66 (by decide) ?_
            refine sb_icmp_eq (tgt := 98) hx hb (by decide : ((-1) : Int32).toInt = (-1)) (by decide : (1 : Int32).toInt = 1) dX10_wear_67 (by decide) (fun h => absurd h (by decide)) (fun c_67_32 => ?_)
            refine lv_aload_n hx hb dX10_wear_70 rfl (lv_at hl 3 rfl) ?_
            refine lv_iload_n hx hb dX10_wear_71 rfl (lv_at hl 4 rfl) ?_
            refine lv_iload hx hb dX10_wear_72 (lv_at hl 1 rfl) ?_
            refine lv_iload_n hx hb dX10_wear_74 rfl (lv_at hl 2 rfl) ?_
            refine lv_iload_n hx hb dX10_wear_75 rfl (lv_at hl 5 rfl) ?_
            refine ti_callVv (ci := 10) (av := [.int 0, .int x_20, .int x_1, .int t]) C hw (z_X10_calls_0 l D A cy hJ M_4 iM_4 x_20 x_1 t (by first | omega | decide) (by first | omega | decide) tx g_10 (tR_lw htr (eR_lw (q := 0) f_7)) ht4 hs_11 (by omega) stA_22 (by omega)) ⟨ml_X10_363, ym_X10_calls, yv_X10_calls, yi_X10_calls, yc_X10_calls⟩ yd_X10_calls ob_60 (by decide) rfl rfl hl.1 (Nat.le_of_ble_eq_true rfl) ⟨by decide, by decide⟩ ⟨Nat.zero_le _, Nat.zero_le _⟩ dX10_wear_76 (fun M_35 H locs hp_35 hw => ?_)
            obtain ⟨n6_38, fi_39, iM_35, q_36, q_37⟩ := hp_35
            have hs_40 : qR (tx 4).toNat 0 g_10 M_35 := qR_of hs_11 q_37
            refine lv_aload_n hx hb dX10_wear_79 rfl (lv_at hl 3 rfl) ?_
            refine ti_get (ci := 10) (k := 41) (N := 67) (T := TX10) (v := .ref (A 60 42)) C hw iw_10 rfl ob_60 (by decide) (by decide) fl_X10_90 rfl rfl dX10_wear_80 ?_
            refine lv_iload hx hb dX10_wear_83 (lv_at hl 0 rfl) ?_
            refine lv_dup2_11 hx hb dX10_wear_85 rfl rfl ?_
            refine ti_iald (ci := 10) (k := 41) (n := 184) C hw ob_60 (by decide) (fun _ _ => rfl) (vp_in_iff.mpr (by omega)) dX10_wear_86 ?_
            refine lv_topi (fun x_41 ex_41 => ?_)
            have yx_41 : tY M_35 60 41 x_23.toNatClampNeg = x_41 := (ex_41.symm)
            have wx_41 : tY M_4 60 41 x_23.toNatClampNeg = x_41 := ((cg (tY_fr q_37) x_23.toNatClampNeg)).symm.trans yx_41
            have L_42 : g_10 (160 + x_20.toInt.toNat) = x_41.toInt := ((hs_40.2.2.2.1 (x_20.toInt.toNat) (by omega)).2.2.1).trans (rd_k (n := 8 * 0 + x_20.toInt.toNat) (by omega) ((cg (tY_fr q_37) x_23.toNatClampNeg).trans wx_41))
            refine lv_aload_n hx hb dX10_wear_87 rfl (lv_at hl 3 rfl) ?_
            refine lv_iconst (v := 1) hx hb dX10_wear_88 (by decide) ?_
            refine lv_iconst (v := 0) hx hb dX10_wear_89 (by decide) ?_
            refine lv_bipush (v := 9) hx hb dX10_wear_90 (by decide) ?_
            refine lv_iconst (v := 1) hx hb dX10_wear_92 (by decide) ?_
            refine ti_callVi (ci := 10) (av := [.int 1, .int 0, .int 9, .int 1]) C hw (z_X10_within l D A cy hJ M_35 iM_35 (mL_lw (lk.trans (lk_of q_36.1 q_36.2.1) (lk_of f_5.1 f_5.2.1)).1 hL) 1 (by first | omega | decide) (by first | omega | decide) 0 9 1 (bq_fa tx g_10 x_20.toInt x_1.toInt) tx (tR_lw htr (eR_lw (q := 0) (eR.trans (eR_fI fi_39 q_37) f_7))) n6_38 (by first | decide | omega)) ⟨ml_X10_367, ym_X10_within, yv_X10_within, yi_X10_within, yc_X10_within⟩ yd_X10_within ob_60 (by decide) rfl rfl hl.1 (Nat.le_of_ble_eq_true rfl) ⟨by decide, by decide⟩ ⟨Nat.zero_le _, Nat.zero_le _⟩ dX10_wear_93 (fun r_43 M_44 H locs hp_44 hw => ?_)
            obtain ⟨fi_48, pr_43, iM_44, q_46, q_47⟩ := hp_44
            have hs_49 : qR (tx 4).toNat 0 g_10 M_44 := qR_of hs_40 q_47
            try simp only [show (1 : Int32).toInt.toNat = 1 by decide] at pr_43
            try simp only [show (1 : Int32).toInt = 1 by decide] at pr_43
            try simp only [show (0 : Int32).toInt.toNat = 0 by decide] at pr_43
            try simp only [show (0 : Int32).toInt = 0 by decide] at pr_43
            try simp only [show (9 : Int32).toInt.toNat = 9 by decide] at pr_43
            try simp only [show (9 : Int32).toInt = 9 by decide] at pr_43
            try simp only [show (1 : Int32).toInt.toNat = 1 by decide] at pr_43
            try simp only [show (1 : Int32).toInt = 1 by decide] at pr_43
            have bpr_43 : 0 ≤ r_43.toInt ∧ r_43.toInt ≤ 9 := by rw [pr_43]; unfold bq_pt; (repeat' split) <;> omega
            refine lv_isub hx hb dX10_wear_96 ?_
            refine lv_topi (fun x_50 ex_50 => ?_)
            have tx_50 : x_50.toInt = bw (x_41.toInt - r_43.toInt) := bw_sub ex_50 rfl rfl
            refine ti_iast (ci := 10) (k := 41) (n := 184) C hw ob_60 (by decide) (fun _ _ => rfl) (vp_in_iff.mpr (by omega)) dX10_wear_97 (fun H locs hw => ?_)
            obtain ⟨M_51, hM_51⟩ : ∃ z : ti_M, z = uY M_44 60 41 (upd (tY M_44 60 41) (x_23 : Int32).toNatClampNeg x_50) := ⟨_, rfl⟩
            have hw := hw.to hM_51.symm
            have iM_51 : mI Tm M_51 := mI_up (i := x_23.toNatClampNeg) iM_44 hM_51 trivial
            have hs_52 : qR (tx 4).toNat 0 (pp_su g_10 (160 + x_20.toInt.toNat) x_50.toInt) M_51 := qR_41 (m := x_20.toInt.toNat) (z := x_23) hs_49 (by omega) rfl hM_51 (by omega) (by omega)
            obtain ⟨g_53, eg_53⟩ : ∃ z : Nat → Int, z = pp_su g_10 (160 + x_20.toInt.toNat) x_50.toInt := ⟨_, rfl⟩
            rw [← eg_53] at hs_52
            obtain ⟨x_56, ex_56⟩ : ∃ z : Int32, z = x_1 + 1 := ⟨_, rfl⟩
            have tx_56 : x_56.toInt = x_1.toInt + 1 := i_add ex_56 rfl (by decide) (by omega) (by omega)
            refine lv_iinc (v := x_56) (lv' := [(3, .int x_56), (5, .int x_23), (4, .int x_20), (0, .ref (A 60 0)), (1, .int 0), (2, .int t)]) hx hb dX10_wear_98 hl (k := 2) rfl (by rw [ex_56]; rfl) (by decide) rfl (fun ls hl => ?_)
            refine lv_goto (tgt := 2) hx hb dX10_wear_101 (by decide) ?_
            exact ih_15 x_56 M_51 g_53 _ _ _ (by omega) (by first | omega | decide) (by first | omega | decide) iM_51 (qw.trans (qw_Y hM_51 (by decide)) (qw.trans q_46 (qw.trans q_36 f_5))) (((tY_nE hM_51 (nk (by decide))).trans ((tY_fr q_47).trans ((tY_fr q_37).trans f_6)))) (eR.trans (eR_Y hM_51 (bk_m (z := x_23) (by omega) (by decide))) (eR.trans (eR_fI fi_48 q_47) (eR.trans (eR_fI fi_39 q_37) f_7))) (fI.trans (fI_Y hM_51) (fI.trans fi_48 (fI.trans fi_39 f_8))) (((tY_nE hM_51 (nk (by decide))).trans ((tY_fr q_47).trans ((tY_fr q_37).trans f_9)))) hs_52 (by rw [← j_12, wf_go (tx := tx) (s := g_10) (p := x_1.toInt.toNat) (f := (g_10 3).toNat - x_1.toInt.toNat) (f' := (g_10 3).toNat - x_56.toInt.toNat) (by omega), show bq_w1 tx g_10 x_1.toInt.toNat = g_53 by (unfold bq_w1; rw [L_21, L_25, if_neg (by omega), if_pos (by omega), show g_10 (160 + x_20.toInt.toNat) = x_41.toInt by omega, show ((x_1.toInt.toNat : Nat) : Int) = x_1.toInt by omega, show bq_lv tx g_10 1 (x_1.toInt) (x_1.toInt) = _ from lv_wv (x := x_20.toInt) (by unfold bq_ma; rw [if_pos (by omega)]; exact L_21) (by omega), ← pr_43, ← tx_50, ← eg_53]), show x_56.toInt.toNat = x_1.toInt.toNat + 1 by omega, show (g_53 3).toNat = (g_10 3).toNat by rw [eg_53, su_n (by omega)]]) (fun j hj => by rw [eg_53, su_n (by omega)]; exact j_13 j hj) (((fun j hj => by rw [eg_53, su_n (by omega)]; exact j_13 j hj) : ∀ j : Nat, j < 160 → g_53 j = rg j) 3 (by decide)) hw (lv_sub hl [0, 3, 4, 5] rfl)
        · refine lv_aload_n hx hb dX10_wear_44 rfl (lv_at hl 3 rfl) ?_
          refine ti_get (ci := 10) (k := 47) (N := 67) (T := TX10) (v := .ref (A 60 48)) C hw iw_10 rfl ob_60 (by decide) (by decide) fl_X10_108 rfl rfl dX10_wear_45 ?_
          refine lv_iload hx hb dX10_wear_48 (lv_at hl 0 rfl) ?_
          refine lv_dup2_11 hx hb dX10_wear_50 rfl rfl ?_
          refine ti_iald (ci := 10) (k := 47) (n := 184) C hw ob_60 (by decide) (fun _ _ => rfl) (vp_in_iff.mpr (by omega)) dX10_wear_51 ?_
          refine ti_top (y := x_24) ((yx_24)) ?_
          have L_27 : g_10 (240 + x_20.toInt.toNat) = x_24.toInt := ((hs_11.2.2.2.1 (x_20.toInt.toNat) (by omega)).2.2.2.2.2).trans (rd_k (n := 8 * 0 + x_20.toInt.toNat) (by omega) (yx_24))
          refine lv_iconst (v := 1) hx hb dX10_wear_52 (by decide) ?_
          refine lv_isub hx hb dX10_wear_53 ?_
          refine lv_topi (fun x_28 ex_28 => ?_)
          have lox_28x_24 := x_24.le_toInt
          have hix_28x_24 := x_24.toInt_lt
          have tx_28 : x_28.toInt = x_24.toInt - 1 := i_sub ex_28 rfl (by decide : (1 : Int32).toInt = 1) (by omega) (by omega)
          have tx_28 : x_28.toInt = bw (x_24.toInt - 1) := bw_sub ex_28 rfl (by decide : (1 : Int32).toInt = 1)
          refine ti_iast (ci := 10) (k := 47) (n := 184) C hw ob_60 (by decide) (fun _ _ => rfl) (vp_in_iff.mpr (by omega)) dX10_wear_54 (fun H locs hw => ?_)
          obtain ⟨M_29, hM_29⟩ : ∃ z : ti_M, z = uY M_4 60 47 (upd (tY M_4 60 47) (x_23 : Int32).toNatClampNeg x_28) := ⟨_, rfl⟩
          have hw := hw.to hM_29.symm
          have iM_29 : mI Tm M_29 := mI_up (i := x_23.toNatClampNeg) iM_4 hM_29 trivial
          have hs_30 : qR (tx 4).toNat 0 (pp_su g_10 (240 + x_20.toInt.toNat) x_28.toInt) M_29 := qR_47 (m := x_20.toInt.toNat) (z := x_23) hs_11 (by omega) rfl hM_29 (by omega) (by omega)
          obtain ⟨g_31, eg_31⟩ : ∃ z : Nat → Int, z = pp_su g_10 (240 + x_20.toInt.toNat) x_28.toInt := ⟨_, rfl⟩
          rw [← eg_31] at hs_30
          refine lv_goto (tgt := 98) hx hb dX10_wear_55 (by decide) ?_
          obtain ⟨x_54, ex_54⟩ : ∃ z : Int32, z = x_1 + 1 := ⟨_, rfl⟩
          have tx_54 : x_54.toInt = x_1.toInt + 1 := i_add ex_54 rfl (by decide) (by omega) (by omega)
          refine lv_iinc (v := x_54) (lv' := [(3, .int x_54), (5, .int x_23), (4, .int x_20), (0, .ref (A 60 0)), (1, .int 0), (2, .int t)]) hx hb dX10_wear_98 hl (k := 2) rfl (by rw [ex_54]; rfl) (by decide) rfl (fun ls hl => ?_)
          refine lv_goto (tgt := 2) hx hb dX10_wear_101 (by decide) ?_
          exact ih_15 x_54 M_29 g_31 _ _ _ (by omega) (by first | omega | decide) (by first | omega | decide) iM_29 (qw.trans (qw_Y hM_29 (by decide)) f_5) (((tY_nE hM_29 (nk (by decide))).trans f_6)) (eR.trans (eR_Y hM_29 (bk_m (z := x_23) (by omega) (by decide))) f_7) (fI.trans (fI_Y hM_29) f_8) (((tY_nE hM_29 (nk (by decide))).trans f_9)) hs_30 (by rw [← j_12, wf_go (tx := tx) (s := g_10) (p := x_1.toInt.toNat) (f := (g_10 3).toNat - x_1.toInt.toNat) (f' := (g_10 3).toNat - x_54.toInt.toNat) (by omega), show bq_w1 tx g_10 x_1.toInt.toNat = g_31 by (unfold bq_w1; rw [L_21, L_27, if_pos (by omega), show x_24.toInt - 1 = x_28.toInt by omega, ← eg_31]), show x_54.toInt.toNat = x_1.toInt.toNat + 1 by omega, show (g_31 3).toNat = (g_10 3).toNat by rw [eg_31, su_n (by omega)]]) (fun j hj => by rw [eg_31, su_n (by omega)]; exact j_13 j hj) (((fun j hj => by rw [eg_31, su_n (by omega)]; exact j_13 j hj) : ∀ j : Nat, j < 160 → g_31 j = rg j) 3 (by decide)) hw (lv_sub hl [0, 3, 4, 5] rfl)
  exact hl_2_14 ((8 - 0 : Int).toNat + 1) 0 M rg _ _ _ (Nat.lt_succ_self _) (by have lt0 : (0 : Int32).toInt = 0 := (by decide); first | omega | decide) (by have lt0 : (0 : Int32).toInt = 0 := (by decide); first | omega | decide) hI qw.refl rfl eR.refl fI.refl rfl hr (by show bq_wf tx ((rg 3).toNat - 0) 0 rg = _; rfl) (fun _ _ => rfl) rfl hw (lv_sub hl [0, 1, 2, 3] rfl)
end
section
variable {Tc : gC} {Tm : gM}
variable {Tc : gC} {Tm : gM}
theorem bt_clr {c x y w z : Int32} {k : Int} (ey : y = (1 : Int32) <<< (x &&& 31)) (hx : x.toInt = k) (h0 : 0 ≤ k) (h1 : k < 32) (ew : w = y ^^^ (-1)) (ez : z = c &&& w) (j : Nat) (hj : j < 32) : pp_bt z j = if j = k.toNat then 0 else pp_bt c j := by
  have hy := bt_x ey hx h0 h1
  have hz : z.toBitVec = c.toBitVec &&& (BitVec.twoPow 32 k.toNat ^^^ (-1 : Int32).toBitVec) := by rw [ez, Int32.toBitVec_and, ew, Int32.toBitVec_xor, hy]
  have hm : (-1 : Int32).toBitVec = BitVec.allOnes 32 := by decide
  unfold pp_bt
  rw [hz, hm, BitVec.getLsbD_and, BitVec.getLsbD_xor, BitVec.getLsbD_twoPow, BitVec.getLsbD_allOnes]
  by_cases q : j = k.toNat
  · subst q
    rw [if_pos rfl]
    simp [hj]
  · rw [if_neg q]
    have q2 : (k.toNat == j) = false := by simp; omega
    simp [q2, hj, Ne.symm q]
theorem q_joinR {M N : ti_M} {n q m i5 i8 i9 i0 : Nat} {s : Nat → Int} {v w o u : Int32} (h : qR n q s M) (hV : qV n q s M) (hn : n ≤ 8) (h3 : 0 ≤ s 3 ∧ s 3 < 8) (hm : m < n) (h0 : s (128 + m) = 0) (h38 : tY N 60 38 = upd (tY M 60 38) i8 v) (h39 : tY N 60 39 = upd (tY M 60 39) i9 w) (h40 : tY N 60 40 = upd (tY M 60 40) i0 o) (h45 : tY N 60 45 = upd (tY M 60 45) i5 u) (e8 : i8 = q) (hv : v.toInt = s 3 + 1) (e9 : (i9 : Int) = 8 * q + s 3) (hw : w.toInt = m) (e0 : i0 = 8 * q + m) (ho : o.toInt = 1) (e5 : i5 = 8 * q + m) (hu : u.toInt = s 2) (hk : ∀ k : Nat, k ≠ 38 → k ≠ 39 → k ≠ 40 → k ≠ 45 → tY N 60 k = tY M 60 k) : qR n q (bq_ap s m) N ∧ qV n q (bq_ap s m) N := by
  obtain ⟨a, b, c, d, f, g0⟩ := h
  obtain ⟨g, eg⟩ : ∃ g, g = bq_ap s m := ⟨_, rfl⟩
  rw [← eg]
  unfold bq_ap at eg
  rw [if_pos h3.2, show ((m : Int)).toNat = m by omega] at eg
  have g3 : g 3 = s 3 + 1 := by rw [eg, su_n (by omega), su_n (by omega), su_s]
  have gp : ∀ p : Nat, p < 8 → p ≠ (s 3).toNat → g (96 + p) = s (96 + p) := fun p hp hq => by rw [eg, su_n (by omega), su_n (by omega), su_n (by omega), su_n (by omega)]
  have gq : g (96 + (s 3).toNat) = m := by rw [eg, su_n (by omega), su_n (by omega), su_n (by omega), su_s]
  have gm : g (128 + m) = 1 := by rw [eg, su_n (by omega), su_s]
  have gs : ∀ j : Nat, j < 8 → j ≠ m → g (128 + j) = s (128 + j) := fun j hj hq => by rw [eg, su_n (by omega), su_n (by omega), su_n (by omega), su_n (by omega)]
  have gj : g (208 + m) = s 2 := by rw [eg, su_s]
  have gj2 : ∀ j : Nat, j < 8 → j ≠ m → g (208 + j) = s (208 + j) := fun j hj hq => by rw [eg, su_n (by omega), su_n (by omega), su_n (by omega), su_n (by omega)]
  have gk : ∀ k : Nat, k ≠ 3 → k < 96 ∨ (104 ≤ k ∧ k < 128) ∨ (136 ≤ k ∧ k < 208) ∨ 216 ≤ k → g k = s k := fun k hk hq => by rw [eg, su_n (by omega), su_n (by omega), su_n (by omega), su_n (by omega)]
  have o34 := hk 34 (by decide) (by decide) (by decide) (by decide)
  have o35 := hk 35 (by decide) (by decide) (by decide) (by decide)
  have o36 := hk 36 (by decide) (by decide) (by decide) (by decide)
  have o37 := hk 37 (by decide) (by decide) (by decide) (by decide)
  have o48 := hk 48 (by decide) (by decide) (by decide) (by decide)
  refine ⟨⟨⟨by rw [gk 2 (by decide) (by decide), o34]; exact a.1, by rw [g3, h38, e8, pk_us, hv], by rw [gk 4 (by decide) (by decide), o35]; exact a.2.2.1, by rw [gk 5 (by decide) (by decide), o36]; exact a.2.2.2⟩, fun p h1 h2 => ?_, fun j hj => by rw [gk (112 + j) (by omega) (by omega), hk 49 (by decide) (by decide) (by decide) (by decide)]; exact c j hj, fun m2 h2 => ?_, fun m2 h2 => ?_, ?_⟩, fun m2 h2 => ?_⟩
  · rw [g3] at h2
    by_cases r : p = (s 3).toNat
    · subst r; rw [gq, h39, show 8 * q + (s 3).toNat = i9 by omega, pk_us, hw]
    · rw [gp p h1 r, h39, pk_un (by omega)]; exact b p h1 (by omega)
  · have d2 := d m2 h2
    rw [gk (144 + m2) (by omega) (by omega), gk (160 + m2) (by omega) (by omega), gk (176 + m2) (by omega) (by omega), gk (192 + m2) (by omega) (by omega), gk (240 + m2) (by omega) (by omega), hk 44 (by decide) (by decide) (by decide) (by decide), hk 41 (by decide) (by decide) (by decide) (by decide), hk 42 (by decide) (by decide) (by decide) (by decide), hk 43 (by decide) (by decide) (by decide) (by decide), hk 47 (by decide) (by decide) (by decide) (by decide)]
    refine ⟨?_, d2.2⟩
    by_cases r : m2 = m
    · subst r; rw [gm, h40, e0, pk_us, ho]
    · rw [gs m2 (by omega) r, h40, pk_un (by omega)]; exact d2.1
  · have f2 := f m2 h2
    rw [gk (224 + m2) (by omega) (by omega), hk 46 (by decide) (by decide) (by decide) (by decide)]
    by_cases r : m2 = m
    · subst r; rw [gm, gj, h45, e5, pk_us]; exact ⟨fun _ => hu.symm, fun q2 => by omega⟩
    · rw [gs m2 (by omega) r, gj2 m2 (by omega) r, h45, pk_un (by omega)]; exact f2
  · rw [gk 1 (by decide) (by decide), o37]
    split at g0
    · rename_i z
      rw [if_pos z]
      intro m2 h2
      rw [gk (256 + m2) (by omega) (by omega)]; exact g0 m2 h2
    · rename_i z
      rw [if_neg z]; exact g0
  · have v2 := hV m2 h2
    rw [o48, v2, gk (224 + m2) (by omega) (by omega)]
    by_cases r : m2 = m
    · subst r; rw [gm, h0, if_neg (by decide), if_neg (by decide)]
    · rw [gs m2 (by omega) r]
theorem q_leaveR {M N : ti_M} {n q m pl i8 i0 i7 : Nat} {s : Nat → Int} {v ho t c1 zz : Int32} (h : qR n q s M) (hV : qV n q s M) (hn : n ≤ 8) (h3 : s 3 ≤ 8) (hp : (pl : Int) < s 3) (hm : m < n) (em : s (96 + pl) = m) (h1 : s (128 + m) = 1) (hho : 2 ≤ ho.toInt) (h38 : tY N 60 38 = upd (tY M 60 38) i8 v) (h39 : ∀ i : Nat, tY N 60 39 i = if 8 * q + pl ≤ i ∧ (i : Int) < 8 * q + (s 3 - 1) then tY M 60 39 (i + 1) else tY M 60 39 i) (h40 : tY N 60 40 = upd (tY M 60 40) i0 ho) (h46 : tY N 60 46 = upd (tY M 60 46) i0 t) (h47 : tY N 60 47 = upd (tY M 60 47) i0 zz) (h37 : tY N 60 37 = upd (tY M 60 37) i7 c1) (h48 : (ho.toInt = 2 ∧ tY N 60 48 = upd (tY M 60 48) i0 t) ∨ (ho.toInt ≠ 2 ∧ tY N 60 48 = tY M 60 48)) (e8 : i8 = q) (e7 : i7 = q) (hv : v.toInt = s 3 - 1) (e0 : i0 = 8 * q + m) (ht : t.toInt = s 2) (hz : zz.toInt = 0) (hc : ∀ j : Nat, j < 8 → pp_bt c1 j = if j = m then 0 else pp_bt (tY M 60 37 q) j) (hc0 : tY M 60 37 q = 0 → c1 = 0) (hk : ∀ k : Nat, k ≠ 37 → k ≠ 38 → k ≠ 39 → k ≠ 40 → k ≠ 46 → k ≠ 47 → k ≠ 48 → 34 ≤ k → k ≤ 49 → tY N 60 k = tY M 60 k) : qR n q (bq_rm s pl ho.toInt) N ∧ qV n q (bq_rm s pl ho.toInt) N := by
  obtain ⟨a, b, c, d, f, g0⟩ := h
  obtain ⟨g, eg⟩ : ∃ g, g = bq_rm s pl ho.toInt := ⟨_, rfl⟩
  rw [← eg]
  unfold bq_rm bq_r2 at eg
  rw [ma_at hp, em, if_neg (by omega), show ((m : Int)).toNat = m by omega] at eg
  have g3 : g 3 = s 3 - 1 := by rw [eg, su_n (by omega), su_n (by omega), su_n (by omega), su_n (by omega), sf_k (by decide), su_s]
  have gp : ∀ r : Nat, r < 8 → g (96 + r) = if pl ≤ r ∧ (r : Int) < s 3 - 1 then s (96 + r + 1) else s (96 + r) := fun r hr => by
    rw [eg, su_n (by omega), su_n (by omega), su_n (by omega), su_n (by omega), sf_at]
    by_cases z : pl ≤ r ∧ (r : Int) < s 3 - 1
    · rw [if_pos (by omega), if_pos z, su_n (by omega)]
    · rw [if_neg (by omega), if_neg z, su_n (by omega)]
  have gm : g (128 + m) = ho.toInt := by rw [eg, su_n (by omega), su_n (by omega), su_n (by omega), su_s]
  have gl : g (224 + m) = s 2 := by rw [eg, su_n (by omega), su_n (by omega), su_s]
  have gn : g (240 + m) = 0 := by rw [eg, su_n (by omega), su_s]
  have gc : g (256 + m) = 0 := by rw [eg, su_s]
  have gk : ∀ k : Nat, k ≠ 3 → k < 96 ∨ 104 ≤ k → k ≠ 128 + m → k ≠ 224 + m → k ≠ 240 + m → k ≠ 256 + m → g k = s k := fun k hk hq k1 k2 k3 k4 => by
    rw [eg, su_n k4, su_n k3, su_n k2, su_n k1, sf_at, if_neg (by omega), su_n hk]
  have K := fun k h1 h2 h3 h4 h5 h6 h7 => hk k h1 h2 h3 h4 h5 h6 h7
  refine ⟨⟨⟨by rw [gk 2 (by decide) (by decide) (by omega) (by omega) (by omega) (by omega), hk 34 (by decide) (by decide) (by decide) (by decide) (by decide) (by decide) (by decide) (by decide) (by decide)]; exact a.1, by rw [g3, h38, e8, pk_us, hv], by rw [gk 4 (by decide) (by decide) (by omega) (by omega) (by omega) (by omega), hk 35 (by decide) (by decide) (by decide) (by decide) (by decide) (by decide) (by decide) (by decide) (by decide)]; exact a.2.2.1, by rw [gk 5 (by decide) (by decide) (by omega) (by omega) (by omega) (by omega), hk 36 (by decide) (by decide) (by decide) (by decide) (by decide) (by decide) (by decide) (by decide) (by decide)]; exact a.2.2.2⟩, fun p x1 x2 => ?_, fun j hj => by rw [gk (112 + j) (by omega) (by omega) (by omega) (by omega) (by omega) (by omega), hk 49 (by decide) (by decide) (by decide) (by decide) (by decide) (by decide) (by decide) (by decide) (by decide)]; exact c j hj, fun m2 x2 => ?_, fun m2 x2 => ?_, ?_⟩, fun m2 x2 => ?_⟩
  · rw [g3] at x2
    rw [gp p x1, h39]
    by_cases z : pl ≤ p
    · rw [if_pos ⟨z, x2⟩, if_pos (by omega), show 8 * q + p + 1 = 8 * q + (p + 1) by omega]; exact b (p + 1) (by omega) (by omega)
    · rw [if_neg (by omega), if_neg (by omega)]; exact b p x1 (by omega)
  · have d2 := d m2 x2
    rw [gk (144 + m2) (by omega) (by omega) (by omega) (by omega) (by omega) (by omega), gk (160 + m2) (by omega) (by omega) (by omega) (by omega) (by omega) (by omega), gk (176 + m2) (by omega) (by omega) (by omega) (by omega) (by omega) (by omega), gk (192 + m2) (by omega) (by omega) (by omega) (by omega) (by omega) (by omega), hk 44 (by decide) (by decide) (by decide) (by decide) (by decide) (by decide) (by decide) (by decide) (by decide), hk 41 (by decide) (by decide) (by decide) (by decide) (by decide) (by decide) (by decide) (by decide) (by decide), hk 42 (by decide) (by decide) (by decide) (by decide) (by decide) (by decide) (by decide) (by decide) (by decide), hk 43 (by decide) (by decide) (by decide) (by decide) (by decide) (by decide) (by decide) (by decide) (by decide)]
    by_cases r : m2 = m
    · subst r; rw [gm, gn, h40, h47, e0, pk_us, pk_us, hz]; exact ⟨rfl, d2.2.1, d2.2.2.1, d2.2.2.2.1, d2.2.2.2.2.1, rfl⟩
    · rw [gk (128 + m2) (by omega) (by omega) (by omega) (by omega) (by omega) (by omega), gk (240 + m2) (by omega) (by omega) (by omega) (by omega) (by omega) (by omega), h40, h47, pk_un (by omega), pk_un (by omega)]; exact d2
  · have f2 := f m2 x2
    rw [gk (208 + m2) (by omega) (by omega) (by omega) (by omega) (by omega) (by omega), hk 45 (by decide) (by decide) (by decide) (by decide) (by decide) (by decide) (by decide) (by decide) (by decide)]
    by_cases r : m2 = m
    · subst r; rw [gm, gl, h46, e0, pk_us]; exact ⟨fun _ => f2.1 (by omega), fun _ => ht.symm⟩
    · rw [gk (128 + m2) (by omega) (by omega) (by omega) (by omega) (by omega) (by omega), gk (224 + m2) (by omega) (by omega) (by omega) (by omega) (by omega) (by omega), h46, pk_un (by omega)]; exact f2
  · rw [gk 1 (by decide) (by decide) (by omega) (by omega) (by omega) (by omega), h37, e7, pk_us]
    split at g0
    · rename_i z
      rw [if_pos z]
      intro m2 x2
      rw [hc m2 x2]
      by_cases r : m2 = m
      · subst r; rw [if_pos rfl, gc]
      · rw [if_neg r, gk (256 + m2) (by omega) (by omega) (by omega) (by omega) (by omega) (by omega)]; exact g0 m2 x2
    · rename_i z
      rw [if_neg z]; exact hc0 g0
  · have v2 := hV m2 x2
    by_cases r : m2 = m
    · subst r
      rw [h1, if_neg (by decide)] at v2
      rw [gm, gl]
      rcases h48 with ⟨w1, w2⟩ | ⟨w1, w2⟩
      · rw [if_pos w1, w2, e0, pk_us, ht]
      · rw [if_neg w1, w2, v2]
    · rw [gk (128 + m2) (by omega) (by omega) (by omega) (by omega) (by omega) (by omega), gk (224 + m2) (by omega) (by omega) (by omega) (by omega) (by omega) (by omega), ← v2]
      rcases h48 with ⟨w1, w2⟩ | ⟨w1, w2⟩
      · rw [w2, pk_un (by omega)]
      · rw [w2]
end
section
variable {Tc : gC} {Tm : gM}
variable {Tc : gC} {Tm : gM}
set_option maxHeartbeats 4000000 in
set_option maxRecDepth 100000 in
theorem z_X10_joins_0 (l : Launch) (D : va_G) (A : Nat → Nat → Nat) (cy : Nat → ClassId) (hJ : ti_inj ti_LM A) (M : ti_M) (hI : mI Tm M) (hC : mC M 0) (a t : Int32) (h1 : 0 ≤ a.toInt) (h2 : a.toInt ≤ 7) (h0 : ∀ i : Nat, (i : Int) = 0 + a.toInt → (tY M 60 40 i).toInt = 0) (tx rg : Nat → Int) (htr : tR tx M) (ht4 : 0 ≤ tx 4 ∧ tx 4 ≤ 8) (hr : qR (tx 4).toNat 0 rg M) (hV : qV (tx 4).toNat 0 rg M) (ha : a.toInt < tx 4) (hs0 : rg (128 + a.toInt.toNat) = 0) (hs3 : 0 ≤ rg 3 ∧ rg 3 < 8) (htm : t.toInt = rg 2) : ti_Kv l yX10_joins cX10_joins 4 0 ti_LM D A cy M [.ref (A 60 0), .int 0, .int a, .int t] (fun M2 => eR 0 M2 M ∧ qR (tx 4).toNat 0 (bq_ap rg a.toInt) M2 ∧ qV (tx 4).toNat 0 (bq_ap rg a.toInt) M2 ∧ mI Tm M2 ∧ rq 0 M2 M ∧ mC M2 0 ∧ tY M2 60 34 = tY M 60 34 ∧ zc (tY M2 60 40) 0 < zc (tY M 60 40) 0) := by
  refine ti_eV yp_X10_joins hJ ti_LM_nd (Nat.le_of_ble_eq_true rfl) ?_
  intro p e s m args below meth c Q H0 C hQ hw ls hl
  have hx := C.1
  have hb := C.2.1
  have hl : lv_has ls 4 [(0, .ref (A 60 0)), (1, .int 0), (2, .int a), (3, .int t)] := hl
  have m7 := mC_7 (i := (0 + a.toInt).toNat) hC (h0 _ (by omega)) (by omega) (by omega)
  have l3 := hr.1.2.1
  refine lv_aload_n hx hb dX10_joins_0 rfl (lv_at hl 0 rfl) ?_
  refine ti_get (ci := 10) (k := 39) (N := 67) (T := TX10) (v := .ref (A 60 40)) C hw iw_10 rfl ob_60 (by decide) (by decide) fl_X10_84 rfl rfl dX10_joins_1 ?_
  refine lv_bipush (v := 8) hx hb dX10_joins_4 (by decide) ?_
  refine lv_iload_n hx hb dX10_joins_6 rfl (lv_at hl 1 rfl) ?_
  refine lv_imul hx hb dX10_joins_7 ?_
  refine ti_top (y := 0) (by decide) ?_
  refine lv_aload_n hx hb dX10_joins_8 rfl (lv_at hl 0 rfl) ?_
  refine ti_get (ci := 10) (k := 38) (N := 67) (T := TX10) (v := .ref (A 60 39)) C hw iw_10 rfl ob_60 (by decide) (by decide) fl_X10_81 rfl rfl dX10_joins_9 ?_
  refine lv_iload_n hx hb dX10_joins_12 rfl (lv_at hl 1 rfl) ?_
  refine ti_iald (ci := 10) (k := 38) (n := 23) C hw ob_60 (by decide) (fun _ _ => rfl) (by unfold vp_in; decide) dX10_joins_13 ?_
  refine lv_topi (fun x_1 ex_1 => ?_)
  have yx_1 : tY M 60 38 0 = x_1 := ((congrArg _ (by decide)).symm.trans ex_1.symm)
  have bx_1 : 0 ≤ x_1.toInt ∧ x_1.toInt ≤ 8 := mI_ry (k := 38) (i := 0) hI yx_1.symm
  have zx_1 : (tY M 60 38 0).toInt = x_1.toInt := by rw [yx_1]
  refine lv_iadd hx hb dX10_joins_14 ?_
  refine lv_topi (fun x_2 ex_2 => ?_)
  have tx_2 : x_2.toInt = 0 + x_1.toInt := i_add ex_2 (by decide : (0 : Int32).toInt = 0) rfl (by omega) (by omega)
  refine lv_iload_n hx hb dX10_joins_15 rfl (lv_at hl 2 rfl) ?_
  refine ti_iast (ci := 10) (k := 39) (n := 184) C hw ob_60 (by decide) (fun _ _ => rfl) (vp_in_iff.mpr (by omega)) dX10_joins_16 (fun H locs hw => ?_)
  obtain ⟨M_3, hM_3⟩ : ∃ z : ti_M, z = uY M 60 39 (upd (tY M 60 39) (x_2 : Int32).toNatClampNeg a) := ⟨_, rfl⟩
  have hw := hw.to hM_3.symm
  have iM_3 : mI Tm M_3 := mI_up (i := x_2.toNatClampNeg) hI hM_3 (ib_mk (lo := 0) (hi := 7) (by omega) (by omega))
  refine lv_aload_n hx hb dX10_joins_17 rfl (lv_at hl 0 rfl) ?_
  refine ti_get (ci := 10) (k := 38) (N := 67) (T := TX10) (v := .ref (A 60 39)) C hw iw_10 rfl ob_60 (by decide) (by decide) fl_X10_81 rfl rfl dX10_joins_18 ?_
  refine lv_iload_n hx hb dX10_joins_21 rfl (lv_at hl 1 rfl) ?_
  refine lv_dup2_11 hx hb dX10_joins_22 rfl rfl ?_
  refine ti_iald (ci := 10) (k := 38) (n := 23) C hw ob_60 (by decide) (fun _ _ => rfl) (by unfold vp_in; decide) dX10_joins_23 ?_
  refine ti_top (y := x_1) ((congrArg _ (by decide)).trans ((cg (tY_nE hM_3 (nk (by decide))) 0).trans yx_1)) ?_
  refine lv_iconst (v := 1) hx hb dX10_joins_24 (by decide) ?_
  refine lv_iadd hx hb dX10_joins_25 ?_
  refine lv_topi (fun x_4 ex_4 => ?_)
  have tx_4 : x_4.toInt = x_1.toInt + 1 := i_add ex_4 rfl (by decide : (1 : Int32).toInt = 1) (by omega) (by omega)
  refine ti_iast (ci := 10) (k := 38) (n := 23) C hw ob_60 (by decide) (fun _ _ => rfl) (by unfold vp_in; decide) dX10_joins_26 (fun H locs hw => ?_)
  obtain ⟨M_5, hM_5⟩ : ∃ z : ti_M, z = uY M_3 60 38 (upd (tY M_3 60 38) (0 : Int32).toNatClampNeg x_4) := ⟨_, rfl⟩
  have hw := hw.to hM_5.symm
  have iM_5 : mI Tm M_5 := mI_up (i := 0) iM_3 hM_5 (ib_mk (lo := 0) (hi := 8) (by omega) (by omega))
  refine lv_aload_n hx hb dX10_joins_27 rfl (lv_at hl 0 rfl) ?_
  refine ti_get (ci := 10) (k := 40) (N := 67) (T := TX10) (v := .ref (A 60 41)) C hw iw_10 rfl ob_60 (by decide) (by decide) fl_X10_87 rfl rfl dX10_joins_28 ?_
  refine lv_bipush (v := 8) hx hb dX10_joins_31 (by decide) ?_
  refine lv_iload_n hx hb dX10_joins_33 rfl (lv_at hl 1 rfl) ?_
  refine lv_imul hx hb dX10_joins_34 ?_
  refine ti_top (y := 0) (by decide) ?_
  refine lv_iload_n hx hb dX10_joins_35 rfl (lv_at hl 2 rfl) ?_
  refine lv_iadd hx hb dX10_joins_36 ?_
  refine lv_topi (fun x_6 ex_6 => ?_)
  have tx_6 : x_6.toInt = 0 + a.toInt := i_add ex_6 (by decide : (0 : Int32).toInt = 0) rfl (by omega) (by omega)
  refine lv_iconst (v := 1) hx hb dX10_joins_37 (by decide) ?_
  refine ti_iast (ci := 10) (k := 40) (n := 184) C hw ob_60 (by decide) (fun _ _ => rfl) (vp_in_iff.mpr (by omega)) dX10_joins_38 (fun H locs hw => ?_)
  obtain ⟨M_7, hM_7⟩ : ∃ z : ti_M, z = uY M_5 60 40 (upd (tY M_5 60 40) (x_6 : Int32).toNatClampNeg 1) := ⟨_, rfl⟩
  have hw := hw.to hM_7.symm
  have iM_7 : mI Tm M_7 := mI_up (i := x_6.toNatClampNeg) iM_5 hM_7 trivial
  refine lv_aload_n hx hb dX10_joins_39 rfl (lv_at hl 0 rfl) ?_
  refine ti_get (ci := 10) (k := 45) (N := 67) (T := TX10) (v := .ref (A 60 46)) C hw iw_10 rfl ob_60 (by decide) (by decide) fl_X10_102 rfl rfl dX10_joins_40 ?_
  refine lv_bipush (v := 8) hx hb dX10_joins_43 (by decide) ?_
  refine lv_iload_n hx hb dX10_joins_45 rfl (lv_at hl 1 rfl) ?_
  refine lv_imul hx hb dX10_joins_46 ?_
  refine ti_top (y := 0) (by decide) ?_
  refine lv_iload_n hx hb dX10_joins_47 rfl (lv_at hl 2 rfl) ?_
  refine lv_iadd hx hb dX10_joins_48 ?_
  refine lv_topi (fun x_8 ex_8 => ?_)
  have tx_8 : x_8.toInt = 0 + a.toInt := i_add ex_8 (by decide : (0 : Int32).toInt = 0) rfl (by omega) (by omega)
  refine lv_iload_n hx hb dX10_joins_49 rfl (lv_at hl 3 rfl) ?_
  refine ti_iast (ci := 10) (k := 45) (n := 184) C hw ob_60 (by decide) (fun _ _ => rfl) (vp_in_iff.mpr (by omega)) dX10_joins_50 (fun H locs hw => ?_)
  obtain ⟨M_9, hM_9⟩ : ∃ z : ti_M, z = uY M_7 60 45 (upd (tY M_7 60 45) (x_8 : Int32).toNatClampNeg t) := ⟨_, rfl⟩
  have hw := hw.to hM_9.symm
  have iM_9 : mI Tm M_9 := mI_up (i := x_8.toNatClampNeg) iM_7 hM_9 trivial
  have jj := q_join (mn := a.toInt.toNat) hI hC (by rw [tY_nE (o2 := 60) (k2 := 38) hM_9 (nk (by decide)), tY_nE (o2 := 60) (k2 := 38) hM_7 (nk (by decide)), tY_uE hM_5, tY_nE (o2 := 60) (k2 := 38) hM_3 (nk (by decide))] : tY M_9 60 38 = upd (tY M 60 38) (0 : Int32).toNatClampNeg x_4) (by rw [tY_nE (o2 := 60) (k2 := 39) hM_9 (nk (by decide)), tY_nE (o2 := 60) (k2 := 39) hM_7 (nk (by decide)), tY_nE (o2 := 60) (k2 := 39) hM_5 (nk (by decide)), tY_uE hM_3] : tY M_9 60 39 = upd (tY M 60 39) (x_2 : Int32).toNatClampNeg a) (by rw [tY_nE (o2 := 60) (k2 := 40) hM_9 (nk (by decide)), tY_uE hM_7, tY_nE (o2 := 60) (k2 := 40) hM_5 (nk (by decide)), tY_nE (o2 := 60) (k2 := 40) hM_3 (nk (by decide))] : tY M_9 60 40 = upd (tY M 60 40) (x_6 : Int32).toNatClampNeg 1) (lk.trans (lk_Y hM_9 (by decide)) (lk.trans (lk_Y hM_7 (by decide)) (lk.trans (lk_Y hM_5 (by decide)) (lk_Y hM_3 (by decide))))) (by decide) (by omega) (by show ((x_2.toInt.toNat : Nat) : Int) = _; omega) (by omega) (by show x_6.toInt.toNat = _; omega) (by omega) (by decide) (h0 _ (by show ((x_6.toInt.toNat : Nat) : Int) = _; omega))
  have JJ := q_joinR (m := a.toInt.toNat) hr hV (by omega) hs3 (by omega) hs0 (by rw [tY_nE (o2 := 60) (k2 := 38) hM_9 (nk (by decide)), tY_nE (o2 := 60) (k2 := 38) hM_7 (nk (by decide)), tY_uE hM_5, tY_nE (o2 := 60) (k2 := 38) hM_3 (nk (by decide))] : tY M_9 60 38 = upd (tY M 60 38) (0 : Int32).toNatClampNeg x_4) (by rw [tY_nE (o2 := 60) (k2 := 39) hM_9 (nk (by decide)), tY_nE (o2 := 60) (k2 := 39) hM_7 (nk (by decide)), tY_nE (o2 := 60) (k2 := 39) hM_5 (nk (by decide)), tY_uE hM_3] : tY M_9 60 39 = upd (tY M 60 39) (x_2 : Int32).toNatClampNeg a) (by rw [tY_nE (o2 := 60) (k2 := 40) hM_9 (nk (by decide)), tY_uE hM_7, tY_nE (o2 := 60) (k2 := 40) hM_5 (nk (by decide)), tY_nE (o2 := 60) (k2 := 40) hM_3 (nk (by decide))] : tY M_9 60 40 = upd (tY M 60 40) (x_6 : Int32).toNatClampNeg 1) (by rw [tY_uE hM_9, tY_nE (o2 := 60) (k2 := 45) hM_7 (nk (by decide)), tY_nE (o2 := 60) (k2 := 45) hM_5 (nk (by decide)), tY_nE (o2 := 60) (k2 := 45) hM_3 (nk (by decide))] : tY M_9 60 45 = upd (tY M 60 45) (x_8 : Int32).toNatClampNeg t) (by decide) (by omega) (by show ((x_2.toInt.toNat : Nat) : Int) = _; omega) (by omega) (by show x_6.toInt.toNat = _; omega) (by decide) (by show x_8.toInt.toNat = _; omega) (by omega) (fun k k38 k39 k40 k45 => ((tY_nE hM_9 (nk k45)).trans ((tY_nE hM_7 (nk k40)).trans ((tY_nE hM_5 (nk k38)).trans (tY_nE hM_3 (nk k39))))))
  rw [show ((a.toInt.toNat : Nat) : Int) = a.toInt by omega] at JJ
  exact hQ _ _ _ _ _ hw (⟨(eR.trans (eR_Y hM_9 (bk_m (z := x_8) (by omega) (by decide))) (eR.trans (eR_Y hM_7 (bk_m (z := x_6) (by omega) (by decide))) (eR.trans (eR_Y hM_5 (bk_q (z := 0) (by decide) (by decide))) (eR_Y hM_3 (bk_m (z := x_2) (by omega) (by decide)))))), JJ.1, JJ.2, iM_9, jj.1, jj.2.1, (((tY_nE hM_9 (nk (by decide))).trans ((tY_nE hM_7 (nk (by decide))).trans ((tY_nE hM_5 (nk (by decide))).trans (tY_nE hM_3 (nk (by decide))))))), jj.2.2⟩) dX10_joins_51
set_option maxHeartbeats 4000000 in
set_option maxRecDepth 100000 in
theorem z_X10_leaves_0 (l : Launch) (D : va_G) (A : Nat → Nat → Nat) (cy : Nat → ClassId) (hJ : ti_inj ti_LM A) (M : ti_M) (hI : mI Tm M) (hC : mC M 0) (pl ho t : Int32) (h1 : 0 ≤ pl.toInt) (h2 : pl.toInt < (tY M 60 38 0).toInt) (h3 : 2 ≤ ho.toInt) (tx rg : Nat → Int) (htr : tR tx M) (ht4 : 0 ≤ tx 4 ∧ tx 4 ≤ 8) (hr : qR (tx 4).toNat 0 rg M) (hV : qV (tx 4).toNat 0 rg M) (hwf : wF tx rg) (htm : t.toInt = rg 2) : ti_Kv l yX10_leaves cX10_leaves 8 0 ti_LM D A cy M [.ref (A 60 0), .int 0, .int pl, .int ho, .int t] (fun M2 => eR 0 M2 M ∧ qR (tx 4).toNat 0 (bq_rm rg pl.toInt ho.toInt) M2 ∧ qV (tx 4).toNat 0 (bq_rm rg pl.toInt ho.toInt) M2 ∧ mI Tm M2 ∧ rq 0 M2 M ∧ mC M2 0 ∧ tY M2 60 34 = tY M 60 34 ∧ (tY M2 60 38 0).toInt = (tY M 60 38 0).toInt - 1) := by
  refine ti_eV yp_X10_leaves hJ ti_LM_nd (Nat.le_of_ble_eq_true rfl) ?_
  intro p e s m args below meth c Q H0 C hQ hw ls hl
  have hx := C.1
  have hb := C.2.1
  have hl : lv_has ls 8 [(0, .ref (A 60 0)), (1, .int 0), (2, .int pl), (3, .int ho), (4, .int t)] := hl
  have h7 : 0 ≤ (tY M 60 38 0).toInt ∧ (tY M 60 38 0).toInt ≤ 8 := hI.2.1 38 _
  have l3 := hr.1.2.1
  have AP := hwf.2.2.1 pl.toInt.toNat (by omega)
  have w8 := wF_8 hwf
  have hq9 := hr.2.1 pl.toInt.toNat (by omega) (by omega)
  refine lv_aload_n hx hb dX10_leaves_0 rfl (lv_at hl 0 rfl) ?_
  refine ti_get (ci := 10) (k := 39) (N := 67) (T := TX10) (v := .ref (A 60 40)) C hw iw_10 rfl ob_60 (by decide) (by decide) fl_X10_84 rfl rfl dX10_leaves_1 ?_
  refine lv_bipush (v := 8) hx hb dX10_leaves_4 (by decide) ?_
  refine lv_iload_n hx hb dX10_leaves_6 rfl (lv_at hl 1 rfl) ?_
  refine lv_imul hx hb dX10_leaves_7 ?_
  refine ti_top (y := 0) (by decide) ?_
  refine lv_iload_n hx hb dX10_leaves_8 rfl (lv_at hl 2 rfl) ?_
  refine lv_iadd hx hb dX10_leaves_9 ?_
  refine lv_topi (fun x_1 ex_1 => ?_)
  have tx_1 : x_1.toInt = 0 + pl.toInt := i_add ex_1 (by decide : (0 : Int32).toInt = 0) rfl (by omega) (by omega)
  refine ti_iald (ci := 10) (k := 39) (n := 184) C hw ob_60 (by decide) (fun _ _ => rfl) (vp_in_iff.mpr (by omega)) dX10_leaves_10 ?_
  refine lv_topi (fun x_2 ex_2 => ?_)
  have yx_2 : tY M 60 39 x_1.toNatClampNeg = x_2 := (ex_2.symm)
  have bx_2 : 0 ≤ x_2.toInt ∧ x_2.toInt ≤ 7 := mI_ry (k := 39) (i := x_1.toNatClampNeg) hI yx_2.symm
  refine lv_istore (lv' := [(5, .int x_2), (0, .ref (A 60 0)), (1, .int 0), (2, .int pl), (3, .int ho), (4, .int t)]) hx hb dX10_leaves_11 hl (by decide) rfl (fun ls hl => ?_)
  refine lv_bipush (v := 8) hx hb dX10_leaves_13 (by decide) ?_
  refine lv_iload_n hx hb dX10_leaves_15 rfl (lv_at hl 2 rfl) ?_
  refine lv_imul hx hb dX10_leaves_16 ?_
  refine ti_top (y := 0) (by decide) ?_
  refine lv_iload hx hb dX10_leaves_17 (lv_at hl 0 rfl) ?_
  refine lv_iadd hx hb dX10_leaves_19 ?_
  refine lv_topi (fun x_3 ex_3 => ?_)
  have tx_3 : x_3.toInt = 0 + x_2.toInt := i_add ex_3 (by decide : (0 : Int32).toInt = 0) rfl (by omega) (by omega)
  refine lv_istore (lv' := [(6, .int x_3), (5, .int x_2), (0, .ref (A 60 0)), (1, .int 0), (2, .int pl), (3, .int ho), (4, .int t)]) hx hb dX10_leaves_20 hl (by decide) rfl (fun ls hl => ?_)
  refine lv_iload_n hx hb dX10_leaves_22 rfl (lv_at hl 4 rfl) ?_
  refine lv_istore (lv' := [(7, .int pl), (6, .int x_3), (5, .int x_2), (0, .ref (A 60 0)), (1, .int 0), (2, .int pl), (3, .int ho), (4, .int t)]) hx hb dX10_leaves_23 hl (by decide) rfl (fun ls hl => ?_)
  have hl_25_28 : ∀ (n_29 : Nat) (x_4 : Int32) (M_7 : ti_M) (H : Heap) (locs : List Loc) (ls : Array Slot), (8 - x_4.toInt : Int).toNat < n_29 → (0 ≤ x_4.toInt) → (x_4.toInt ≤ 7) → (mI Tm M_7) → (lk M_7 M) → (tY M_7 60 38 = tY M 60 38) → (tY M_7 60 40 = tY M 60 40) → (tY M_7 60 34 = tY M 60 34) → (eR 0 M_7 M) → (fI M_7 M) → (tY M_7 60 35 = tY M 60 35) → (tY M_7 60 36 = tY M 60 36) → (tY M_7 60 37 = tY M 60 37) → (tY M_7 60 41 = tY M 60 41) → (tY M_7 60 42 = tY M 60 42) → (tY M_7 60 43 = tY M 60 43) → (tY M_7 60 44 = tY M 60 44) → (tY M_7 60 45 = tY M 60 45) → (tY M_7 60 46 = tY M 60 46) → (tY M_7 60 47 = tY M 60 47) → (tY M_7 60 48 = tY M 60 48) → (tY M_7 60 49 = tY M 60 49) → (pl.toInt ≤ x_4.toInt) → (x_4.toInt < (tY M 60 38 0).toInt) → (sh M M_7 0 pl.toInt.toNat x_4.toInt) → ti_H ti_LM D A cy H0 M_7 H locs → lv_has ls 8 [(7, .int x_4), (6, .int x_3), (5, .int x_2), (0, .ref (A 60 0)), (1, .int 0), (2, .int pl), (3, .int ho), (4, .int t)] → W p l e (ti_rm 0) s m args below meth c H locs 0 0 Q (F0 m 25 ls []) := by
    intro n_29
    induction n_29 with
    | zero => intro x_4 M_7 H locs ls hf_29; exact absurd hf_29 (Nat.not_lt_zero _)
    | succ n_29 ih_29 =>
      intro x_4 M_7 H locs ls hf_29 b_5 b_6 iM_7 f_8 f_9 f_10 f_11 f_12 f_13 f_14 f_15 f_16 f_17 f_18 f_19 f_20 f_21 f_22 f_23 f_24 f_25 j_26 j_27 j_28 hw hl
      refine lv_iload hx hb dX10_leaves_25 (lv_at hl 0 rfl) ?_
      refine lv_iconst (v := 1) hx hb dX10_leaves_27 (by decide) ?_
      refine lv_iadd hx hb dX10_leaves_28 ?_
      refine lv_topi (fun x_30 ex_30 => ?_)
      have tx_30 : x_30.toInt = x_4.toInt + 1 := i_add ex_30 rfl (by decide : (1 : Int32).toInt = 1) (by omega) (by omega)
      refine lv_aload_n hx hb dX10_leaves_29 rfl (lv_at hl 3 rfl) ?_
      refine ti_get (ci := 10) (k := 38) (N := 67) (T := TX10) (v := .ref (A 60 39)) C hw iw_10 rfl ob_60 (by decide) (by decide) fl_X10_81 rfl rfl dX10_leaves_30 ?_
      refine lv_iload_n hx hb dX10_leaves_33 rfl (lv_at hl 4 rfl) ?_
      refine ti_iald (ci := 10) (k := 38) (n := 23) C hw ob_60 (by decide) (fun _ _ => rfl) (by unfold vp_in; decide) dX10_leaves_34 ?_
      refine lv_topi (fun x_31 ex_31 => ?_)
      have yx_31 : tY M_7 60 38 0 = x_31 := ((congrArg _ (by decide)).symm.trans ex_31.symm)
      have bx_31 : 0 ≤ x_31.toInt ∧ x_31.toInt ≤ 8 := mI_ry (k := 38) (i := 0) iM_7 yx_31.symm
      have zx_31 : (tY M_7 60 38 0).toInt = x_31.toInt := by rw [yx_31]
      have wx_31 : tY M 60 38 0 = x_31 := ((cg f_9 0)).symm.trans yx_31
      have zwx_31 : (tY M 60 38 0).toInt = x_31.toInt := by rw [wx_31]
      refine sb_icmp_ge (tgt := 70) hx hb rfl rfl dX10_leaves_35 (by decide) (fun c_35_31 => ?_) (fun c_35_31 => ?_)
      · refine lv_aload_n hx hb dX10_leaves_70 rfl (lv_at hl 3 rfl) ?_
        refine ti_get (ci := 10) (k := 38) (N := 67) (T := TX10) (v := .ref (A 60 39)) C hw iw_10 rfl ob_60 (by decide) (by decide) fl_X10_81 rfl rfl dX10_leaves_71 ?_
        refine lv_iload_n hx hb dX10_leaves_74 rfl (lv_at hl 4 rfl) ?_
        refine lv_dup2_11 hx hb dX10_leaves_75 rfl rfl ?_
        refine ti_iald (ci := 10) (k := 38) (n := 23) C hw ob_60 (by decide) (fun _ _ => rfl) (by unfold vp_in; decide) dX10_leaves_76 ?_
        refine ti_top (y := x_31) ((congrArg _ (by decide)).trans ((cg f_9 0).trans wx_31)) ?_
        refine lv_iconst (v := 1) hx hb dX10_leaves_77 (by decide) ?_
        refine lv_isub hx hb dX10_leaves_78 ?_
        refine lv_topi (fun x_39 ex_39 => ?_)
        have tx_39 : x_39.toInt = x_31.toInt - 1 := i_sub ex_39 rfl (by decide : (1 : Int32).toInt = 1) (by omega) (by omega)
        refine ti_iast (ci := 10) (k := 38) (n := 23) C hw ob_60 (by decide) (fun _ _ => rfl) (by unfold vp_in; decide) dX10_leaves_79 (fun H locs hw => ?_)
        obtain ⟨M_40, hM_40⟩ : ∃ z : ti_M, z = uY M_7 60 38 (upd (tY M_7 60 38) (0 : Int32).toNatClampNeg x_39) := ⟨_, rfl⟩
        have hw := hw.to hM_40.symm
        have iM_40 : mI Tm M_40 := mI_up (i := 0) iM_7 hM_40 (ib_mk (lo := 0) (hi := 8) (by omega) (by omega))
        refine lv_aload_n hx hb dX10_leaves_80 rfl (lv_at hl 3 rfl) ?_
        refine ti_get (ci := 10) (k := 40) (N := 67) (T := TX10) (v := .ref (A 60 41)) C hw iw_10 rfl ob_60 (by decide) (by decide) fl_X10_87 rfl rfl dX10_leaves_81 ?_
        refine lv_iload hx hb dX10_leaves_84 (lv_at hl 1 rfl) ?_
        refine lv_iload_n hx hb dX10_leaves_86 rfl (lv_at hl 6 rfl) ?_
        refine ti_iast (ci := 10) (k := 40) (n := 184) C hw ob_60 (by decide) (fun _ _ => rfl) (vp_in_iff.mpr (by omega)) dX10_leaves_87 (fun H locs hw => ?_)
        obtain ⟨M_41, hM_41⟩ : ∃ z : ti_M, z = uY M_40 60 40 (upd (tY M_40 60 40) (x_3 : Int32).toNatClampNeg ho) := ⟨_, rfl⟩
        have hw := hw.to hM_41.symm
        have iM_41 : mI Tm M_41 := mI_up (i := x_3.toNatClampNeg) iM_40 hM_41 trivial
        refine lv_aload_n hx hb dX10_leaves_88 rfl (lv_at hl 3 rfl) ?_
        refine ti_get (ci := 10) (k := 46) (N := 67) (T := TX10) (v := .ref (A 60 47)) C hw iw_10 rfl ob_60 (by decide) (by decide) fl_X10_105 rfl rfl dX10_leaves_89 ?_
        refine lv_iload hx hb dX10_leaves_92 (lv_at hl 1 rfl) ?_
        refine lv_iload hx hb dX10_leaves_94 (lv_at hl 7 rfl) ?_
        refine ti_iast (ci := 10) (k := 46) (n := 184) C hw ob_60 (by decide) (fun _ _ => rfl) (vp_in_iff.mpr (by omega)) dX10_leaves_96 (fun H locs hw => ?_)
        obtain ⟨M_42, hM_42⟩ : ∃ z : ti_M, z = uY M_41 60 46 (upd (tY M_41 60 46) (x_3 : Int32).toNatClampNeg t) := ⟨_, rfl⟩
        have hw := hw.to hM_42.symm
        have iM_42 : mI Tm M_42 := mI_up (i := x_3.toNatClampNeg) iM_41 hM_42 trivial
        refine lv_aload_n hx hb dX10_leaves_97 rfl (lv_at hl 3 rfl) ?_
        refine ti_get (ci := 10) (k := 47) (N := 67) (T := TX10) (v := .ref (A 60 48)) C hw iw_10 rfl ob_60 (by decide) (by decide) fl_X10_108 rfl rfl dX10_leaves_98 ?_
        refine lv_iload hx hb dX10_leaves_101 (lv_at hl 1 rfl) ?_
        refine lv_iconst (v := 0) hx hb dX10_leaves_103 (by decide) ?_
        refine ti_iast (ci := 10) (k := 47) (n := 184) C hw ob_60 (by decide) (fun _ _ => rfl) (vp_in_iff.mpr (by omega)) dX10_leaves_104 (fun H locs hw => ?_)
        obtain ⟨M_43, hM_43⟩ : ∃ z : ti_M, z = uY M_42 60 47 (upd (tY M_42 60 47) (x_3 : Int32).toNatClampNeg 0) := ⟨_, rfl⟩
        have hw := hw.to hM_43.symm
        have iM_43 : mI Tm M_43 := mI_up (i := x_3.toNatClampNeg) iM_42 hM_43 trivial
        refine lv_aload_n hx hb dX10_leaves_105 rfl (lv_at hl 3 rfl) ?_
        refine ti_get (ci := 10) (k := 37) (N := 67) (T := TX10) (v := .ref (A 60 38)) C hw iw_10 rfl ob_60 (by decide) (by decide) fl_X10_78 rfl rfl dX10_leaves_106 ?_
        refine lv_iload_n hx hb dX10_leaves_109 rfl (lv_at hl 4 rfl) ?_
        refine lv_dup2_11 hx hb dX10_leaves_110 rfl rfl ?_
        refine ti_iald (ci := 10) (k := 37) (n := 23) C hw ob_60 (by decide) (fun _ _ => rfl) (by unfold vp_in; decide) dX10_leaves_111 ?_
        refine lv_topi (fun x_44 ex_44 => ?_)
        have yx_44 : tY M_43 60 37 0 = x_44 := ((congrArg _ (by decide)).symm.trans ex_44.symm)
        have wx_44 : tY M 60 37 0 = x_44 := (((cg (tY_nE hM_43 (nk (by decide))) 0).trans ((cg (tY_nE hM_42 (nk (by decide))) 0).trans ((cg (tY_nE hM_41 (nk (by decide))) 0).trans ((cg (tY_nE hM_40 (nk (by decide))) 0).trans (cg f_16 0)))))).symm.trans yx_44
        refine lv_iconst (v := 1) hx hb dX10_leaves_112 (by decide) ?_
        refine lv_iload hx hb dX10_leaves_113 (lv_at hl 2 rfl) ?_
        refine lv_ishl hx hb dX10_leaves_115 ?_
        refine lv_topi (fun x_45 ex_45 => ?_)
        refine lv_iconst (v := (-1)) hx hb dX10_leaves_116 (by decide) ?_
        refine lv_ixor hx hb dX10_leaves_117 ?_
        refine lv_topi (fun x_46 ex_46 => ?_)
        refine lv_iand hx hb dX10_leaves_118 ?_
        refine lv_topi (fun x_47 ex_47 => ?_)
        refine ti_iast (ci := 10) (k := 37) (n := 23) C hw ob_60 (by decide) (fun _ _ => rfl) (by unfold vp_in; decide) dX10_leaves_119 (fun H locs hw => ?_)
        obtain ⟨M_48, hM_48⟩ : ∃ z : ti_M, z = uY M_43 60 37 (upd (tY M_43 60 37) (0 : Int32).toNatClampNeg x_47) := ⟨_, rfl⟩
        have hw := hw.to hM_48.symm
        have iM_48 : mI Tm M_48 := mI_up (i := 0) iM_43 hM_48 trivial
        refine lv_iload_n hx hb dX10_leaves_120 rfl (lv_at hl 6 rfl) ?_
        refine lv_iconst (v := 2) hx hb dX10_leaves_121 (by decide) ?_
        refine sb_icmp_ne (tgt := 134) hx hb rfl (by decide : (2 : Int32).toInt = 2) dX10_leaves_122 (by decide) (fun c_122_48 => ?_) (fun c_122_48 => ?_)
        · have n9 : x_1.toNatClampNeg = 8 * 0 + pl.toInt.toNat := by show (x_1).toInt.toNat = _; omega
          have k9 : (tY M 60 39 (8 * 0 + pl.toInt.toNat)).toInt = x_2.toInt := by rw [← n9, (yx_2)]
          have jj := q_leave (q := 0) (pl := pl.toInt.toNat) (p := x_4.toInt) hI hC (by rw [tY_nE (o2 := 60) (k2 := 38) hM_48 (nk (by decide)), tY_nE (o2 := 60) (k2 := 38) hM_43 (nk (by decide)), tY_nE (o2 := 60) (k2 := 38) hM_42 (nk (by decide)), tY_nE (o2 := 60) (k2 := 38) hM_41 (nk (by decide)), tY_uE hM_40, (f_9 : tY M_7 60 38 = tY M 60 38)] : tY M_48 60 38 = upd (tY M 60 38) (0 : Int32).toNatClampNeg x_39) (fun i => (cg (by rw [tY_nE (o2 := 60) (k2 := 39) hM_48 (nk (by decide)), tY_nE (o2 := 60) (k2 := 39) hM_43 (nk (by decide)), tY_nE (o2 := 60) (k2 := 39) hM_42 (nk (by decide)), tY_nE (o2 := 60) (k2 := 39) hM_41 (nk (by decide)), tY_nE (o2 := 60) (k2 := 39) hM_40 (nk (by decide))] : tY M_48 60 39 = tY M_7 60 39) i).trans (j_28 i)) (by rw [tY_nE (o2 := 60) (k2 := 40) hM_48 (nk (by decide)), tY_nE (o2 := 60) (k2 := 40) hM_43 (nk (by decide)), tY_nE (o2 := 60) (k2 := 40) hM_42 (nk (by decide)), tY_uE hM_41, tY_nE (o2 := 60) (k2 := 40) hM_40 (nk (by decide)), (f_10 : tY M_7 60 40 = tY M 60 40)] : tY M_48 60 40 = upd (tY M 60 40) (x_3 : Int32).toNatClampNeg ho) (lk.trans (lk_Y hM_48 (by decide)) (lk.trans (lk_Y hM_43 (by decide)) (lk.trans (lk_Y hM_42 (by decide)) (lk.trans (lk_Y hM_41 (by decide)) (lk.trans (lk_Y hM_40 (by decide)) f_8))))) (by decide) (by omega) (by omega) (by omega) (by show ((x_3.toInt.toNat : Nat) : Int) = _; omega) h3
          have h39 : ∀ i : Nat, tY M_48 60 39 i = if 8 * 0 + pl.toInt.toNat ≤ i ∧ (i : Int) < 8 * ((0 : Nat) : Int) + (rg 3 - 1) then tY M 60 39 (i + 1) else tY M 60 39 i := fun i => by
            have q9 := (cg (by rw [tY_nE (o2 := 60) (k2 := 39) hM_48 (nk (by decide)), tY_nE (o2 := 60) (k2 := 39) hM_43 (nk (by decide)), tY_nE (o2 := 60) (k2 := 39) hM_42 (nk (by decide)), tY_nE (o2 := 60) (k2 := 39) hM_41 (nk (by decide)), tY_nE (o2 := 60) (k2 := 39) hM_40 (nk (by decide))] : tY M_48 60 39 = tY M_7 60 39) i).trans (j_28 i)
            rw [q9]
            by_cases c9 : 8 * 0 + pl.toInt.toNat ≤ i ∧ (i : Int) < 8 * ((0 : Nat) : Int) + (rg 3 - 1)
            · rw [if_pos c9, if_pos (by omega)]
            · rw [if_neg c9, if_neg (by omega)]
          have LL := q_leaveR (m := x_2.toInt.toNat) (pl := pl.toInt.toNat) hr hV (by omega) (by omega) (by omega) (by omega) (by omega) (by rw [show x_2.toInt.toNat = (rg (96 + pl.toInt.toNat)).toNat by omega]; exact AP.2.2) h3 (by rw [tY_nE (o2 := 60) (k2 := 38) hM_48 (nk (by decide)), tY_nE (o2 := 60) (k2 := 38) hM_43 (nk (by decide)), tY_nE (o2 := 60) (k2 := 38) hM_42 (nk (by decide)), tY_nE (o2 := 60) (k2 := 38) hM_41 (nk (by decide)), tY_uE hM_40, (f_9 : tY M_7 60 38 = tY M 60 38)] : tY M_48 60 38 = upd (tY M 60 38) (0 : Int32).toNatClampNeg x_39) h39 (by rw [tY_nE (o2 := 60) (k2 := 40) hM_48 (nk (by decide)), tY_nE (o2 := 60) (k2 := 40) hM_43 (nk (by decide)), tY_nE (o2 := 60) (k2 := 40) hM_42 (nk (by decide)), tY_uE hM_41, tY_nE (o2 := 60) (k2 := 40) hM_40 (nk (by decide)), (f_10 : tY M_7 60 40 = tY M 60 40)] : tY M_48 60 40 = upd (tY M 60 40) (x_3 : Int32).toNatClampNeg ho) (by rw [tY_nE (o2 := 60) (k2 := 46) hM_48 (nk (by decide)), tY_nE (o2 := 60) (k2 := 46) hM_43 (nk (by decide)), tY_uE hM_42, tY_nE (o2 := 60) (k2 := 46) hM_41 (nk (by decide)), tY_nE (o2 := 60) (k2 := 46) hM_40 (nk (by decide)), (f_22 : tY M_7 60 46 = tY M 60 46)] : tY M_48 60 46 = upd (tY M 60 46) (x_3 : Int32).toNatClampNeg t) (by rw [tY_nE (o2 := 60) (k2 := 47) hM_48 (nk (by decide)), tY_uE hM_43, tY_nE (o2 := 60) (k2 := 47) hM_42 (nk (by decide)), tY_nE (o2 := 60) (k2 := 47) hM_41 (nk (by decide)), tY_nE (o2 := 60) (k2 := 47) hM_40 (nk (by decide)), (f_23 : tY M_7 60 47 = tY M 60 47)] : tY M_48 60 47 = upd (tY M 60 47) (x_3 : Int32).toNatClampNeg 0) (by rw [tY_uE hM_48, tY_nE (o2 := 60) (k2 := 37) hM_43 (nk (by decide)), tY_nE (o2 := 60) (k2 := 37) hM_42 (nk (by decide)), tY_nE (o2 := 60) (k2 := 37) hM_41 (nk (by decide)), tY_nE (o2 := 60) (k2 := 37) hM_40 (nk (by decide)), (f_16 : tY M_7 60 37 = tY M 60 37)] : tY M_48 60 37 = upd (tY M 60 37) (0 : Int32).toNatClampNeg x_47) (Or.inr ⟨by omega, (((tY_nE hM_48 (nk (by decide))).trans ((tY_nE hM_43 (nk (by decide))).trans ((tY_nE hM_42 (nk (by decide))).trans ((tY_nE hM_41 (nk (by decide))).trans ((tY_nE hM_40 (nk (by decide))).trans f_24))))))⟩) (by decide) (by decide) (by omega) (by show x_3.toInt.toNat = _; omega) (by omega) (by decide) (fun j hj => by rw [bt_clr (k := x_2.toInt) ex_45 rfl (by omega) (by omega) ex_46 ex_47 j (by omega), (wx_44)]) (fun h => by rw [ex_47, ← (wx_44), h]; simp) (fun k k37 k38 k39 k40 k46 k47 k48 k34 k49 => by rcases (show k = 34 ∨ k = 35 ∨ k = 36 ∨ k = 41 ∨ k = 42 ∨ k = 43 ∨ k = 44 ∨ k = 45 ∨ k = 49 by omega) with rfl | rfl | rfl | rfl | rfl | rfl | rfl | rfl | rfl <;> first | exact (((tY_nE hM_48 (nk (by decide))).trans ((tY_nE hM_43 (nk (by decide))).trans ((tY_nE hM_42 (nk (by decide))).trans ((tY_nE hM_41 (nk (by decide))).trans ((tY_nE hM_40 (nk (by decide))).trans f_11)))))) | exact (((tY_nE hM_48 (nk (by decide))).trans ((tY_nE hM_43 (nk (by decide))).trans ((tY_nE hM_42 (nk (by decide))).trans ((tY_nE hM_41 (nk (by decide))).trans ((tY_nE hM_40 (nk (by decide))).trans f_14)))))) | exact (((tY_nE hM_48 (nk (by decide))).trans ((tY_nE hM_43 (nk (by decide))).trans ((tY_nE hM_42 (nk (by decide))).trans ((tY_nE hM_41 (nk (by decide))).trans ((tY_nE hM_40 (nk (by decide))).trans f_15)))))) | exact (((tY_nE hM_48 (nk (by decide))).trans ((tY_nE hM_43 (nk (by decide))).trans ((tY_nE hM_42 (nk (by decide))).trans ((tY_nE hM_41 (nk (by decide))).trans ((tY_nE hM_40 (nk (by decide))).trans f_17)))))) | exact (((tY_nE hM_48 (nk (by decide))).trans ((tY_nE hM_43 (nk (by decide))).trans ((tY_nE hM_42 (nk (by decide))).trans ((tY_nE hM_41 (nk (by decide))).trans ((tY_nE hM_40 (nk (by decide))).trans f_18)))))) | exact (((tY_nE hM_48 (nk (by decide))).trans ((tY_nE hM_43 (nk (by decide))).trans ((tY_nE hM_42 (nk (by decide))).trans ((tY_nE hM_41 (nk (by decide))).trans ((tY_nE hM_40 (nk (by decide))).trans f_19)))))) | exact (((tY_nE hM_48 (nk (by decide))).trans ((tY_nE hM_43 (nk (by decide))).trans ((tY_nE hM_42 (nk (by decide))).trans ((tY_nE hM_41 (nk (by decide))).trans ((tY_nE hM_40 (nk (by decide))).trans f_20)))))) | exact (((tY_nE hM_48 (nk (by decide))).trans ((tY_nE hM_43 (nk (by decide))).trans ((tY_nE hM_42 (nk (by decide))).trans ((tY_nE hM_41 (nk (by decide))).trans ((tY_nE hM_40 (nk (by decide))).trans f_21)))))) | exact (((tY_nE hM_48 (nk (by decide))).trans ((tY_nE hM_43 (nk (by decide))).trans ((tY_nE hM_42 (nk (by decide))).trans ((tY_nE hM_41 (nk (by decide))).trans ((tY_nE hM_40 (nk (by decide))).trans f_25)))))))
          rw [show ((pl.toInt.toNat : Nat) : Int) = pl.toInt by omega] at LL
          exact hQ _ _ _ _ _ hw (⟨(eR.trans (eR_Y hM_48 (bk_q (z := 0) (by decide) (by decide))) (eR.trans (eR_Y hM_43 (bk_m (z := x_3) (by omega) (by decide))) (eR.trans (eR_Y hM_42 (bk_m (z := x_3) (by omega) (by decide))) (eR.trans (eR_Y hM_41 (bk_m (z := x_3) (by omega) (by decide))) (eR.trans (eR_Y hM_40 (bk_q (z := 0) (by decide) (by decide))) f_12))))), LL.1, LL.2, iM_48, jj.1, jj.2.1, (((tY_nE hM_48 (nk (by decide))).trans ((tY_nE hM_43 (nk (by decide))).trans ((tY_nE hM_42 (nk (by decide))).trans ((tY_nE hM_41 (nk (by decide))).trans ((tY_nE hM_40 (nk (by decide))).trans f_11)))))), jj.2.2⟩) dX10_leaves_134
        · refine lv_aload_n hx hb dX10_leaves_125 rfl (lv_at hl 3 rfl) ?_
          refine ti_get (ci := 10) (k := 48) (N := 67) (T := TX10) (v := .ref (A 60 49)) C hw iw_10 rfl ob_60 (by decide) (by decide) fl_X10_111 rfl rfl dX10_leaves_126 ?_
          refine lv_iload hx hb dX10_leaves_129 (lv_at hl 1 rfl) ?_
          refine lv_iload hx hb dX10_leaves_131 (lv_at hl 7 rfl) ?_
          refine ti_iast (ci := 10) (k := 48) (n := 184) C hw ob_60 (by decide) (fun _ _ => rfl) (vp_in_iff.mpr (by omega)) dX10_leaves_133 (fun H locs hw => ?_)
          obtain ⟨M_50, hM_50⟩ : ∃ z : ti_M, z = uY M_48 60 48 (upd (tY M_48 60 48) (x_3 : Int32).toNatClampNeg t) := ⟨_, rfl⟩
          have hw := hw.to hM_50.symm
          have iM_50 : mI Tm M_50 := mI_up (i := x_3.toNatClampNeg) iM_48 hM_50 trivial
          have n9 : x_1.toNatClampNeg = 8 * 0 + pl.toInt.toNat := by show (x_1).toInt.toNat = _; omega
          have k9 : (tY M 60 39 (8 * 0 + pl.toInt.toNat)).toInt = x_2.toInt := by rw [← n9, (yx_2)]
          have jj := q_leave (q := 0) (pl := pl.toInt.toNat) (p := x_4.toInt) hI hC (by rw [tY_nE (o2 := 60) (k2 := 38) hM_50 (nk (by decide)), tY_nE (o2 := 60) (k2 := 38) hM_48 (nk (by decide)), tY_nE (o2 := 60) (k2 := 38) hM_43 (nk (by decide)), tY_nE (o2 := 60) (k2 := 38) hM_42 (nk (by decide)), tY_nE (o2 := 60) (k2 := 38) hM_41 (nk (by decide)), tY_uE hM_40, (f_9 : tY M_7 60 38 = tY M 60 38)] : tY M_50 60 38 = upd (tY M 60 38) (0 : Int32).toNatClampNeg x_39) (fun i => (cg (by rw [tY_nE (o2 := 60) (k2 := 39) hM_50 (nk (by decide)), tY_nE (o2 := 60) (k2 := 39) hM_48 (nk (by decide)), tY_nE (o2 := 60) (k2 := 39) hM_43 (nk (by decide)), tY_nE (o2 := 60) (k2 := 39) hM_42 (nk (by decide)), tY_nE (o2 := 60) (k2 := 39) hM_41 (nk (by decide)), tY_nE (o2 := 60) (k2 := 39) hM_40 (nk (by decide))] : tY M_50 60 39 = tY M_7 60 39) i).trans (j_28 i)) (by rw [tY_nE (o2 := 60) (k2 := 40) hM_50 (nk (by decide)), tY_nE (o2 := 60) (k2 := 40) hM_48 (nk (by decide)), tY_nE (o2 := 60) (k2 := 40) hM_43 (nk (by decide)), tY_nE (o2 := 60) (k2 := 40) hM_42 (nk (by decide)), tY_uE hM_41, tY_nE (o2 := 60) (k2 := 40) hM_40 (nk (by decide)), (f_10 : tY M_7 60 40 = tY M 60 40)] : tY M_50 60 40 = upd (tY M 60 40) (x_3 : Int32).toNatClampNeg ho) (lk.trans (lk_Y hM_50 (by decide)) (lk.trans (lk_Y hM_48 (by decide)) (lk.trans (lk_Y hM_43 (by decide)) (lk.trans (lk_Y hM_42 (by decide)) (lk.trans (lk_Y hM_41 (by decide)) (lk.trans (lk_Y hM_40 (by decide)) f_8)))))) (by decide) (by omega) (by omega) (by omega) (by show ((x_3.toInt.toNat : Nat) : Int) = _; omega) h3
          have h39 : ∀ i : Nat, tY M_50 60 39 i = if 8 * 0 + pl.toInt.toNat ≤ i ∧ (i : Int) < 8 * ((0 : Nat) : Int) + (rg 3 - 1) then tY M 60 39 (i + 1) else tY M 60 39 i := fun i => by
            have q9 := (cg (by rw [tY_nE (o2 := 60) (k2 := 39) hM_50 (nk (by decide)), tY_nE (o2 := 60) (k2 := 39) hM_48 (nk (by decide)), tY_nE (o2 := 60) (k2 := 39) hM_43 (nk (by decide)), tY_nE (o2 := 60) (k2 := 39) hM_42 (nk (by decide)), tY_nE (o2 := 60) (k2 := 39) hM_41 (nk (by decide)), tY_nE (o2 := 60) (k2 := 39) hM_40 (nk (by decide))] : tY M_50 60 39 = tY M_7 60 39) i).trans (j_28 i)
            rw [q9]
            by_cases c9 : 8 * 0 + pl.toInt.toNat ≤ i ∧ (i : Int) < 8 * ((0 : Nat) : Int) + (rg 3 - 1)
            · rw [if_pos c9, if_pos (by omega)]
            · rw [if_neg c9, if_neg (by omega)]
          have LL := q_leaveR (m := x_2.toInt.toNat) (pl := pl.toInt.toNat) hr hV (by omega) (by omega) (by omega) (by omega) (by omega) (by rw [show x_2.toInt.toNat = (rg (96 + pl.toInt.toNat)).toNat by omega]; exact AP.2.2) h3 (by rw [tY_nE (o2 := 60) (k2 := 38) hM_50 (nk (by decide)), tY_nE (o2 := 60) (k2 := 38) hM_48 (nk (by decide)), tY_nE (o2 := 60) (k2 := 38) hM_43 (nk (by decide)), tY_nE (o2 := 60) (k2 := 38) hM_42 (nk (by decide)), tY_nE (o2 := 60) (k2 := 38) hM_41 (nk (by decide)), tY_uE hM_40, (f_9 : tY M_7 60 38 = tY M 60 38)] : tY M_50 60 38 = upd (tY M 60 38) (0 : Int32).toNatClampNeg x_39) h39 (by rw [tY_nE (o2 := 60) (k2 := 40) hM_50 (nk (by decide)), tY_nE (o2 := 60) (k2 := 40) hM_48 (nk (by decide)), tY_nE (o2 := 60) (k2 := 40) hM_43 (nk (by decide)), tY_nE (o2 := 60) (k2 := 40) hM_42 (nk (by decide)), tY_uE hM_41, tY_nE (o2 := 60) (k2 := 40) hM_40 (nk (by decide)), (f_10 : tY M_7 60 40 = tY M 60 40)] : tY M_50 60 40 = upd (tY M 60 40) (x_3 : Int32).toNatClampNeg ho) (by rw [tY_nE (o2 := 60) (k2 := 46) hM_50 (nk (by decide)), tY_nE (o2 := 60) (k2 := 46) hM_48 (nk (by decide)), tY_nE (o2 := 60) (k2 := 46) hM_43 (nk (by decide)), tY_uE hM_42, tY_nE (o2 := 60) (k2 := 46) hM_41 (nk (by decide)), tY_nE (o2 := 60) (k2 := 46) hM_40 (nk (by decide)), (f_22 : tY M_7 60 46 = tY M 60 46)] : tY M_50 60 46 = upd (tY M 60 46) (x_3 : Int32).toNatClampNeg t) (by rw [tY_nE (o2 := 60) (k2 := 47) hM_50 (nk (by decide)), tY_nE (o2 := 60) (k2 := 47) hM_48 (nk (by decide)), tY_uE hM_43, tY_nE (o2 := 60) (k2 := 47) hM_42 (nk (by decide)), tY_nE (o2 := 60) (k2 := 47) hM_41 (nk (by decide)), tY_nE (o2 := 60) (k2 := 47) hM_40 (nk (by decide)), (f_23 : tY M_7 60 47 = tY M 60 47)] : tY M_50 60 47 = upd (tY M 60 47) (x_3 : Int32).toNatClampNeg 0) (by rw [tY_nE (o2 := 60) (k2 := 37) hM_50 (nk (by decide)), tY_uE hM_48, tY_nE (o2 := 60) (k2 := 37) hM_43 (nk (by decide)), tY_nE (o2 := 60) (k2 := 37) hM_42 (nk (by decide)), tY_nE (o2 := 60) (k2 := 37) hM_41 (nk (by decide)), tY_nE (o2 := 60) (k2 := 37) hM_40 (nk (by decide)), (f_16 : tY M_7 60 37 = tY M 60 37)] : tY M_50 60 37 = upd (tY M 60 37) (0 : Int32).toNatClampNeg x_47) (Or.inl ⟨by omega, (by rw [tY_uE hM_50, tY_nE (o2 := 60) (k2 := 48) hM_48 (nk (by decide)), tY_nE (o2 := 60) (k2 := 48) hM_43 (nk (by decide)), tY_nE (o2 := 60) (k2 := 48) hM_42 (nk (by decide)), tY_nE (o2 := 60) (k2 := 48) hM_41 (nk (by decide)), tY_nE (o2 := 60) (k2 := 48) hM_40 (nk (by decide)), (f_24 : tY M_7 60 48 = tY M 60 48)] : tY M_50 60 48 = upd (tY M 60 48) (x_3 : Int32).toNatClampNeg t)⟩) (by decide) (by decide) (by omega) (by show x_3.toInt.toNat = _; omega) (by omega) (by decide) (fun j hj => by rw [bt_clr (k := x_2.toInt) ex_45 rfl (by omega) (by omega) ex_46 ex_47 j (by omega), (wx_44)]) (fun h => by rw [ex_47, ← (wx_44), h]; simp) (fun k k37 k38 k39 k40 k46 k47 k48 k34 k49 => by rcases (show k = 34 ∨ k = 35 ∨ k = 36 ∨ k = 41 ∨ k = 42 ∨ k = 43 ∨ k = 44 ∨ k = 45 ∨ k = 49 by omega) with rfl | rfl | rfl | rfl | rfl | rfl | rfl | rfl | rfl <;> first | exact (((tY_nE hM_50 (nk (by decide))).trans ((tY_nE hM_48 (nk (by decide))).trans ((tY_nE hM_43 (nk (by decide))).trans ((tY_nE hM_42 (nk (by decide))).trans ((tY_nE hM_41 (nk (by decide))).trans ((tY_nE hM_40 (nk (by decide))).trans f_11))))))) | exact (((tY_nE hM_50 (nk (by decide))).trans ((tY_nE hM_48 (nk (by decide))).trans ((tY_nE hM_43 (nk (by decide))).trans ((tY_nE hM_42 (nk (by decide))).trans ((tY_nE hM_41 (nk (by decide))).trans ((tY_nE hM_40 (nk (by decide))).trans f_14))))))) | exact (((tY_nE hM_50 (nk (by decide))).trans ((tY_nE hM_48 (nk (by decide))).trans ((tY_nE hM_43 (nk (by decide))).trans ((tY_nE hM_42 (nk (by decide))).trans ((tY_nE hM_41 (nk (by decide))).trans ((tY_nE hM_40 (nk (by decide))).trans f_15))))))) | exact (((tY_nE hM_50 (nk (by decide))).trans ((tY_nE hM_48 (nk (by decide))).trans ((tY_nE hM_43 (nk (by decide))).trans ((tY_nE hM_42 (nk (by decide))).trans ((tY_nE hM_41 (nk (by decide))).trans ((tY_nE hM_40 (nk (by decide))).trans f_17))))))) | exact (((tY_nE hM_50 (nk (by decide))).trans ((tY_nE hM_48 (nk (by decide))).trans ((tY_nE hM_43 (nk (by decide))).trans ((tY_nE hM_42 (nk (by decide))).trans ((tY_nE hM_41 (nk (by decide))).trans ((tY_nE hM_40 (nk (by decide))).trans f_18))))))) | exact (((tY_nE hM_50 (nk (by decide))).trans ((tY_nE hM_48 (nk (by decide))).trans ((tY_nE hM_43 (nk (by decide))).trans ((tY_nE hM_42 (nk (by decide))).trans ((tY_nE hM_41 (nk (by decide))).trans ((tY_nE hM_40 (nk (by decide))).trans f_19))))))) | exact (((tY_nE hM_50 (nk (by decide))).trans ((tY_nE hM_48 (nk (by decide))).trans ((tY_nE hM_43 (nk (by decide))).trans ((tY_nE hM_42 (nk (by decide))).trans ((tY_nE hM_41 (nk (by decide))).trans ((tY_nE hM_40 (nk (by decide))).trans f_20))))))) | exact (((tY_nE hM_50 (nk (by decide))).trans ((tY_nE hM_48 (nk (by decide))).trans ((tY_nE hM_43 (nk (by decide))).trans ((tY_nE hM_42 (nk (by decide))).trans ((tY_nE hM_41 (nk (by decide))).trans ((tY_nE hM_40 (nk (by decide))).trans f_21))))))) | exact (((tY_nE hM_50 (nk (by decide))).trans ((tY_nE hM_48 (nk (by decide))).trans ((tY_nE hM_43 (nk (by decide))).trans ((tY_nE hM_42 (nk (by decide))).trans ((tY_nE hM_41 (nk (by decide))).trans ((tY_nE hM_40 (nk (by decide))).trans f_25))))))))
          rw [show ((pl.toInt.toNat : Nat) : Int) = pl.toInt by omega] at LL
          exact hQ _ _ _ _ _ hw (⟨(eR.trans (eR_Y hM_50 (bk_m (z := x_3) (by omega) (by decide))) (eR.trans (eR_Y hM_48 (bk_q (z := 0) (by decide) (by decide))) (eR.trans (eR_Y hM_43 (bk_m (z := x_3) (by omega) (by decide))) (eR.trans (eR_Y hM_42 (bk_m (z := x_3) (by omega) (by decide))) (eR.trans (eR_Y hM_41 (bk_m (z := x_3) (by omega) (by decide))) (eR.trans (eR_Y hM_40 (bk_q (z := 0) (by decide) (by decide))) f_12)))))), LL.1, LL.2, iM_50, jj.1, jj.2.1, (((tY_nE hM_50 (nk (by decide))).trans ((tY_nE hM_48 (nk (by decide))).trans ((tY_nE hM_43 (nk (by decide))).trans ((tY_nE hM_42 (nk (by decide))).trans ((tY_nE hM_41 (nk (by decide))).trans ((tY_nE hM_40 (nk (by decide))).trans f_11))))))), jj.2.2⟩) dX10_leaves_134
      · refine lv_aload_n hx hb dX10_leaves_38 rfl (lv_at hl 3 rfl) ?_
        refine ti_get (ci := 10) (k := 39) (N := 67) (T := TX10) (v := .ref (A 60 40)) C hw iw_10 rfl ob_60 (by decide) (by decide) fl_X10_84 rfl rfl dX10_leaves_39 ?_
        refine lv_bipush (v := 8) hx hb dX10_leaves_42 (by decide) ?_
        refine lv_iload_n hx hb dX10_leaves_44 rfl (lv_at hl 4 rfl) ?_
        refine lv_imul hx hb dX10_leaves_45 ?_
        refine ti_top (y := 0) (by decide) ?_
        refine lv_iload hx hb dX10_leaves_46 (lv_at hl 0 rfl) ?_
        refine lv_iadd hx hb dX10_leaves_48 ?_
        refine lv_topi (fun x_33 ex_33 => ?_)
        have tx_33 : x_33.toInt = 0 + x_4.toInt := i_add ex_33 (by decide : (0 : Int32).toInt = 0) rfl (by omega) (by omega)
        refine lv_aload_n hx hb dX10_leaves_49 rfl (lv_at hl 3 rfl) ?_
        refine ti_get (ci := 10) (k := 39) (N := 67) (T := TX10) (v := .ref (A 60 40)) C hw iw_10 rfl ob_60 (by decide) (by decide) fl_X10_84 rfl rfl dX10_leaves_50 ?_
        refine lv_bipush (v := 8) hx hb dX10_leaves_53 (by decide) ?_
        refine lv_iload_n hx hb dX10_leaves_55 rfl (lv_at hl 4 rfl) ?_
        refine lv_imul hx hb dX10_leaves_56 ?_
        refine ti_top (y := 0) (by decide) ?_
        refine lv_iload hx hb dX10_leaves_57 (lv_at hl 0 rfl) ?_
        refine lv_iadd hx hb dX10_leaves_59 ?_
        refine lv_topi (fun x_34 ex_34 => ?_)
        have tx_34 : x_34.toInt = 0 + x_4.toInt := i_add ex_34 (by decide : (0 : Int32).toInt = 0) rfl (by omega) (by omega)
        refine lv_iconst (v := 1) hx hb dX10_leaves_60 (by decide) ?_
        refine lv_iadd hx hb dX10_leaves_61 ?_
        refine lv_topi (fun x_35 ex_35 => ?_)
        have tx_35 : x_35.toInt = x_34.toInt + 1 := i_add ex_35 rfl (by decide : (1 : Int32).toInt = 1) (by omega) (by omega)
        refine ti_iald (ci := 10) (k := 39) (n := 184) C hw ob_60 (by decide) (fun _ _ => rfl) (vp_in_iff.mpr (by omega)) dX10_leaves_62 ?_
        refine lv_topi (fun x_36 ex_36 => ?_)
        have yx_36 : tY M_7 60 39 x_35.toNatClampNeg = x_36 := (ex_36.symm)
        have bx_36 : 0 ≤ x_36.toInt ∧ x_36.toInt ≤ 7 := mI_ry (k := 39) (i := x_35.toNatClampNeg) iM_7 yx_36.symm
        refine ti_iast (ci := 10) (k := 39) (n := 184) C hw ob_60 (by decide) (fun _ _ => rfl) (vp_in_iff.mpr (by omega)) dX10_leaves_63 (fun H locs hw => ?_)
        obtain ⟨M_37, hM_37⟩ : ∃ z : ti_M, z = uY M_7 60 39 (upd (tY M_7 60 39) (x_33 : Int32).toNatClampNeg x_36) := ⟨_, rfl⟩
        have hw := hw.to hM_37.symm
        have iM_37 : mI Tm M_37 := mI_up (i := x_33.toNatClampNeg) iM_7 hM_37 (ib_mk (lo := 0) (hi := 7) (by omega) (by omega))
        obtain ⟨x_38, ex_38⟩ : ∃ z : Int32, z = x_4 + 1 := ⟨_, rfl⟩
        have tx_38 : x_38.toInt = x_4.toInt + 1 := i_add ex_38 rfl (by decide) (by omega) (by omega)
        refine lv_iinc (v := x_38) (lv' := [(7, .int x_38), (6, .int x_3), (5, .int x_2), (0, .ref (A 60 0)), (1, .int 0), (2, .int pl), (3, .int ho), (4, .int t)]) hx hb dX10_leaves_64 hl (k := 0) rfl (by rw [ex_38]; rfl) (by decide) rfl (fun ls hl => ?_)
        refine lv_goto (tgt := 25) hx hb dX10_leaves_67 (by decide) ?_
        exact ih_29 x_38 M_37 _ _ _ (by omega) (by first | omega | decide) (by first | omega | decide) iM_37 (lk.trans (lk_Y hM_37 (by decide)) f_8) (((tY_nE hM_37 (nk (by decide))).trans f_9)) (((tY_nE hM_37 (nk (by decide))).trans f_10)) (((tY_nE hM_37 (nk (by decide))).trans f_11)) (eR.trans (eR_Y hM_37 (bk_m (z := x_33) (by omega) (by decide))) f_12) (fI.trans (fI_Y hM_37) f_13) (((tY_nE hM_37 (nk (by decide))).trans f_14)) (((tY_nE hM_37 (nk (by decide))).trans f_15)) (((tY_nE hM_37 (nk (by decide))).trans f_16)) (((tY_nE hM_37 (nk (by decide))).trans f_17)) (((tY_nE hM_37 (nk (by decide))).trans f_18)) (((tY_nE hM_37 (nk (by decide))).trans f_19)) (((tY_nE hM_37 (nk (by decide))).trans f_20)) (((tY_nE hM_37 (nk (by decide))).trans f_21)) (((tY_nE hM_37 (nk (by decide))).trans f_22)) (((tY_nE hM_37 (nk (by decide))).trans f_23)) (((tY_nE hM_37 (nk (by decide))).trans f_24)) (((tY_nE hM_37 (nk (by decide))).trans f_25)) (by first | omega | decide) (by first | omega | decide) (sh_s j_28 hM_37 (by show ((x_33.toInt.toNat : Nat) : Int) = _; omega) (by omega) yx_36 (by show (x_35).toInt.toNat = (x_33).toInt.toNat + 1; omega) (by omega)) hw (lv_sub hl [0, 1, 2, 3, 4, 5, 6, 7] rfl)
  exact hl_25_28 ((8 - pl.toInt : Int).toNat + 1) pl M _ _ _ (Nat.lt_succ_self _) (by first | omega | decide) (by first | omega | decide) hI lk.refl rfl rfl rfl eR.refl fI.refl rfl rfl rfl rfl rfl rfl rfl rfl rfl rfl rfl rfl (by first | omega | decide) (by first | omega | decide) (sh_0 (by omega)) hw (lv_sub hl [0, 1, 2, 3, 4, 5, 6, 7] rfl)
end
section
variable {Tc : gC} {Tm : gM}
variable {Tc : gC} {Tm : gM}
theorem dr_i {x y z w : Int32} (ey : y = x * 1103515245) (ez : z = y + 12345) (ew : w = z &&& 2147483647) (h : 0 ≤ x.toInt) : w.toInt = bq_dr x.toInt := by
  have hx : x.toBitVec.toNat = x.toInt.toNat := by
    have q : x.toInt = x.toBitVec.toInt := rfl
    rw [BitVec.toInt_eq_toNat_cond] at q
    split at q <;> omega
  have hn : w.toBitVec.toNat = (x.toInt.toNat * 1103515245 + 12345) % 2147483648 := by
    rw [ew, Int32.toBitVec_and, BitVec.toNat_and, ez, Int32.toBitVec_add, BitVec.toNat_add, ey, Int32.toBitVec_mul, BitVec.toNat_mul, hx, show (1103515245 : Int32).toBitVec.toNat = 1103515245 by decide, show (12345 : Int32).toBitVec.toNat = 12345 by decide, show (2147483647 : Int32).toBitVec.toNat = 2 ^ 31 - 1 by decide, Nat.and_two_pow_sub_one_eq_mod]
    omega
  have q : w.toInt = w.toBitVec.toInt := rfl
  rw [q, BitVec.toInt_eq_toNat_cond, if_pos (by omega), hn]
  unfold bq_dr
  omega
theorem i_shr16 {x z : Int32} (e : z = x >>> ((16 : Int32) &&& 31)) (h : 0 ≤ x.toInt) : z.toInt = x.toInt / 65536 := by
  have hz : z.toBitVec = x.toBitVec.sshiftRight 16 := by
    rw [e, Int32.toBitVec_shiftRight]
    show x.toBitVec.sshiftRight (((16 : Int32) &&& 31).toBitVec.smod 32).toNat = _
    rw [show (((16 : Int32) &&& 31).toBitVec.smod 32).toNat = 16 by decide]
  have q : z.toInt = z.toBitVec.toInt := rfl
  have q2 : x.toInt = x.toBitVec.toInt := rfl
  rw [q, hz, BitVec.toInt_sshiftRight, ← q2, Int.shiftRight_eq_div_pow]
  rfl
set_option maxHeartbeats 4000000 in
set_option maxRecDepth 100000 in
theorem z_X10_draw_0 (l : Launch) (D : va_G) (A : Nat → Nat → Nat) (cy : Nat → ClassId) (hJ : ti_inj ti_LM A) (M : ti_M) (hI : mI Tm M)  (tx rg : Nat → Int) (htr : tR tx M) (ht4 : 0 ≤ tx 4 ∧ tx 4 ≤ 8) (hr : qR (tx 4).toNat 0 rg M) (h5 : 0 ≤ rg 5) : ti_Ki l yX10_draw cX10_draw 2 (some .int) 0 ti_LM D A cy M [.ref (A 60 0), .int 0] (fun r M2 => eR 0 M2 M ∧ tY M2 60 48 = tY M 60 48 ∧ qR (tx 4).toNat 0 (pp_su rg 5 (bq_dr (rg 5))) M2 ∧ r.toInt = bq_dr (rg 5) / 65536 % 100 ∧ mI Tm M2 ∧ qw M2 M ∧ tY M2 60 34 = tY M 60 34) := by
  refine ti_eI yp_X10_draw hJ ti_LM_nd (Nat.le_of_ble_eq_true rfl) ?_
  intro p e s m args below meth c Q H0 C hQ hw ls hl
  have hx := C.1
  have hb := C.2.1
  have hl : lv_has ls 2 [(0, .ref (A 60 0)), (1, .int 0)] := hl
  refine lv_aload_n hx hb dX10_draw_0 rfl (lv_at hl 0 rfl) ?_
  refine ti_get (ci := 10) (k := 36) (N := 67) (T := TX10) (v := .ref (A 60 37)) C hw iw_10 rfl ob_60 (by decide) (by decide) fl_X10_75 rfl rfl dX10_draw_1 ?_
  refine lv_iload_n hx hb dX10_draw_4 rfl (lv_at hl 1 rfl) ?_
  refine lv_aload_n hx hb dX10_draw_5 rfl (lv_at hl 0 rfl) ?_
  refine ti_get (ci := 10) (k := 36) (N := 67) (T := TX10) (v := .ref (A 60 37)) C hw iw_10 rfl ob_60 (by decide) (by decide) fl_X10_75 rfl rfl dX10_draw_6 ?_
  refine lv_iload_n hx hb dX10_draw_9 rfl (lv_at hl 1 rfl) ?_
  refine ti_iald (ci := 10) (k := 36) (n := 23) C hw ob_60 (by decide) (fun _ _ => rfl) (by unfold vp_in; decide) dX10_draw_10 ?_
  refine lv_topi (fun x_1 ex_1 => ?_)
  have yx_1 : tY M 60 36 0 = x_1 := ((congrArg _ (by decide)).symm.trans ex_1.symm)
  have L_2 : rg 5 = x_1.toInt := (hr.1.2.2.2).trans (congrArg Int32.toInt (yx_1))
  refine lv_ldcw (v := 1103515245) hx hb C.2.2.2.1 (C.2.2.1 _ cn_X10_400) dX10_draw_11 ?_
  refine lv_imul hx hb dX10_draw_14 ?_
  refine lv_topi (fun x_3 ex_3 => ?_)
  refine lv_sipush (v := 12345) hx hb dX10_draw_15 (by decide) ?_
  refine lv_iadd hx hb dX10_draw_18 ?_
  refine lv_topi (fun x_4 ex_4 => ?_)
  refine lv_ldcw (v := 2147483647) hx hb C.2.2.2.1 (C.2.2.1 _ cn_X10_403) dX10_draw_19 ?_
  refine lv_iand hx hb dX10_draw_22 ?_
  refine lv_topi (fun x_5 ex_5 => ?_)
  have EZ : x_5.toInt = bq_dr (rg 5) := by rw [show rg 5 = x_1.toInt by omega]; exact dr_i ex_3 ex_4 ex_5 (by omega)
  have E0 : 0 ≤ bq_dr (rg 5) := by unfold bq_dr; omega
  refine ti_iast (ci := 10) (k := 36) (n := 23) C hw ob_60 (by decide) (fun _ _ => rfl) (by unfold vp_in; decide) dX10_draw_23 (fun H locs hw => ?_)
  obtain ⟨M_6, hM_6⟩ : ∃ z : ti_M, z = uY M 60 36 (upd (tY M 60 36) (0 : Int32).toNatClampNeg x_5) := ⟨_, rfl⟩
  have hw := hw.to hM_6.symm
  have iM_6 : mI Tm M_6 := mI_up (i := 0) hI hM_6 trivial
  have hs_7 : qR (tx 4).toNat 0 (pp_su rg 5 x_5.toInt) M_6 := qR_36 (z := 0) hr (by decide) rfl hM_6
  obtain ⟨g_8, eg_8⟩ : ∃ z : Nat → Int, z = pp_su rg 5 x_5.toInt := ⟨_, rfl⟩
  rw [← eg_8] at hs_7
  have sg_8 : g_8 5 = x_5.toInt := by rw [eg_8, su_s]
  refine lv_aload_n hx hb dX10_draw_24 rfl (lv_at hl 0 rfl) ?_
  refine ti_get (ci := 10) (k := 36) (N := 67) (T := TX10) (v := .ref (A 60 37)) C hw iw_10 rfl ob_60 (by decide) (by decide) fl_X10_75 rfl rfl dX10_draw_25 ?_
  refine lv_iload_n hx hb dX10_draw_28 rfl (lv_at hl 1 rfl) ?_
  refine ti_iald (ci := 10) (k := 36) (n := 23) C hw ob_60 (by decide) (fun _ _ => rfl) (by unfold vp_in; decide) dX10_draw_29 ?_
  refine ti_top (y := x_5) ((congrArg _ (by decide)).trans ((cg (tY_uE hM_6) 0).trans (upl (by decide)))) ?_
  have L_9 : g_8 5 = x_5.toInt := (hs_7.1.2.2.2).trans (congrArg Int32.toInt ((cg (tY_uE hM_6) 0).trans (upl (by decide))))
  refine lv_bipush (v := 16) hx hb dX10_draw_30 (by decide) ?_
  refine lv_ishr hx hb dX10_draw_32 ?_
  refine lv_topi (fun x_10 ex_10 => ?_)
  refine lv_bipush (v := 100) hx hb dX10_draw_33 (by decide) ?_
  have ES : x_10.toInt = bq_dr (rg 5) / 65536 := by rw [← EZ]; exact i_shr16 ex_10 (by omega)
  have EB : 0 ≤ x_10.toInt := by omega
  refine lv_irem hx hb dX10_draw_35 (by decide) ?_
  refine lv_topi (fun x_11 ex_11 => ?_)
  have bx_11 := i_rem ex_11 rfl (by decide : (100 : Int32).toInt = 100) (by omega) (by decide)
  exact hQ _ _ _ _ _ _ hw rfl (⟨(eR_Y hM_6 (bk_q (z := 0) (by decide) (by decide))), ((tY_nE hM_6 (nk (by decide)))), (by rw [← EZ, ← eg_8]; exact hs_7), (by rw [← ES]; omega), iM_6, (qw_Y hM_6 (by decide)), ((tY_nE hM_6 (nk (by decide))))⟩) dX10_draw_36
set_option maxHeartbeats 4000000 in
set_option maxRecDepth 100000 in
theorem z_X10_arrive_0 (l : Launch) (D : va_G) (A : Nat → Nat → Nat) (cy : Nat → ClassId) (hJ : ti_inj ti_LM A) (M : ti_M) (hI : mI Tm M) (hC : mC M 0) (t : Int32) (tx rg : Nat → Int) (htr : tR tx M) (ht4 : 0 ≤ tx 4 ∧ tx 4 ≤ 8) (hr : qR (tx 4).toNat 0 rg M) (hV : qV (tx 4).toNat 0 rg M) (hwf : wF tx rg) (htW : tW tx) (htm : t.toInt = rg 2) : ti_Kv l yX10_arrive cX10_arrive 5 1 ti_LM D A cy M [.ref (A 60 0), .int 0, .int t] (fun M2 => eR 0 M2 M ∧ qR (tx 4).toNat 0 (bq_wl tx (tx 4).toNat rg) M2 ∧ qV (tx 4).toNat 0 (bq_wl tx (tx 4).toNat rg) M2 ∧ mI Tm M2 ∧ rq 0 M2 M ∧ mC M2 0 ∧ tY M2 60 34 = tY M 60 34) := by
  refine ti_eV yp_X10_arrive hJ ti_LM_nd (Nat.le_of_ble_eq_true rfl) ?_
  intro p e s m args below meth c Q H0 C hQ hw ls hl
  have hx := C.1
  have hb := C.2.1
  have hl : lv_has ls 5 [(0, .ref (A 60 0)), (1, .int 0), (2, .int t)] := hl
  have hl_0_11 : ∀ (n_12 : Nat) (M_1 : ti_M) (g_6 : Nat → Int) (H : Heap) (locs : List Loc) (ls : Array Slot), (((zc (tY M_1 60 40) 0 : Nat) : Int) : Int).toNat < n_12 → (mI Tm M_1) → (rq 0 M_1 M) → (mC M_1 0) → (tY M_1 60 34 = tY M 60 34) → (eR 0 M_1 M) → (qR (tx 4).toNat 0 g_6 M_1) → (∃ f : Nat, bc0 g_6 ≤ (f : Int) + (8 - tx 4) ∧ bq_wl tx f g_6 = bq_wl tx (tx 4).toNat rg) → (wF tx g_6) → (qV (tx 4).toNat 0 g_6 M_1) → (g_6 2 = rg 2) → ti_H ti_LM D A cy H0 M_1 H locs → lv_has ls 5 [(0, .ref (A 60 0)), (1, .int 0), (2, .int t)] → W p l e (ti_rm 1) s m args below meth c H locs 0 0 Q (F0 m 0 ls []) := by
    intro n_12
    induction n_12 with
    | zero => intro M_1 g_6 H locs ls hf_12; exact absurd hf_12 (Nat.not_lt_zero _)
    | succ n_12 ih_12 =>
      intro M_1 g_6 H locs ls hf_12 iM_1 f_2 f_3 f_4 f_5 hs_7 j_8 j_9 j_10 j_11 hw hl
      refine lv_iconst (v := (-1)) hx hb dX10_arrive_0 (by decide) ?_
      refine lv_istore_n (lv' := [(3, .int (-1)), (0, .ref (A 60 0)), (1, .int 0), (2, .int t)]) hx hb dX10_arrive_1 rfl hl (by decide) rfl (fun ls hl => ?_)
      refine lv_iconst (v := 0) hx hb dX10_arrive_2 (by decide) ?_
      refine lv_istore (lv' := [(4, .int 0), (3, .int (-1)), (0, .ref (A 60 0)), (1, .int 0), (2, .int t)]) hx hb dX10_arrive_3 hl (by decide) rfl (fun ls hl => ?_)
      have hl_5_20 : ∀ (n_21 : Nat) (x_13 : Int32) (x_16 : Int32) (H : Heap) (locs : List Loc) (ls : Array Slot), (8 - x_13.toInt : Int).toNat < n_21 → (0 ≤ x_13.toInt) → (x_13.toInt ≤ 8) → ((-1) ≤ x_16.toInt) → (x_16.toInt ≤ 7) → (bq_nf tx g_6 ((tx 4).toNat - (x_13.toInt).toNat) (x_13.toInt).toNat (x_16.toInt) = bq_nx tx g_6) → (x_16.toInt = -1 ∨ x_16.toInt < tx 4) → ti_H ti_LM D A cy H0 M_1 H locs → lv_has ls 5 [(4, .int x_13), (3, .int x_16), (0, .ref (A 60 0)), (1, .int 0), (2, .int t)] → W p l e (ti_rm 1) s m args below meth c H locs 0 0 Q (F0 m 5 ls []) := by
        intro n_21
        induction n_21 with
        | zero => intro x_13 x_16 H locs ls hf_21; exact absurd hf_21 (Nat.not_lt_zero _)
        | succ n_21 ih_21 =>
          intro x_13 x_16 H locs ls hf_21 b_14 b_15 b_17 b_18 j_19 j_20 hw hl
          refine lv_iload hx hb dX10_arrive_5 (lv_at hl 0 rfl) ?_
          refine lv_aload_n hx hb dX10_arrive_7 rfl (lv_at hl 2 rfl) ?_
          refine ti_get (ci := 10) (k := 3) (N := 67) (T := TX10) (v := .ref (A 60 4)) C hw iw_10 rfl ob_60 (by decide) (by decide) fl_X10_13 rfl rfl dX10_arrive_8 ?_
          refine lv_iconst (v := 0) hx hb dX10_arrive_11 (by decide) ?_
          refine ti_iald (ci := 10) (k := 3) (n := 22) C hw ob_60 (by decide) (fun _ _ => rfl) (by unfold vp_in; decide) dX10_arrive_12 ?_
          refine lv_topi (fun x_22 ex_22 => ?_)
          have yx_22 : tY M_1 60 3 0 = x_22 := ((congrArg _ (by decide)).symm.trans ex_22.symm)
          have bx_22 : 0 ≤ x_22.toInt ∧ x_22.toInt ≤ 8 := mI_rn (i := 0) iM_1 yx_22.symm (fun _ h => h)
          have zx_22 : (tY M_1 60 3 0).toInt = x_22.toInt := by rw [yx_22]
          have wx_22 : tY M 60 3 0 = x_22 := ((cg (f_2.1 3 (by decide) (by decide)) 0)).symm.trans yx_22
          have zwx_22 : (tY M 60 3 0).toInt = x_22.toInt := by rw [wx_22]
          have L_23 : tx 4 = x_22.toInt := (htr.1.1).trans ((congrArg Int32.toInt (cg ((f_2.1 3 (by decide) (by decide))) 0)).symm.trans (congrArg Int32.toInt ((cg (f_2.1 3 (by decide) (by decide)) 0).trans wx_22)))
          refine sb_icmp_ge (tgt := 112) hx hb rfl rfl dX10_arrive_13 (by decide) (fun c_13_23 => ?_) (fun c_13_23 => ?_)
          · have NX : bq_nx tx g_6 = x_16.toInt := by rw [← j_19, nf_end (by omega)]
            have NA := nx_at (s := g_6) htW
            rw [NX] at NA
            obtain ⟨f9, hf9, he9⟩ := j_8
            refine lv_iload_n hx hb dX10_arrive_112 rfl (lv_at hl 1 rfl) ?_
            refine lv_iconst (v := (-1)) hx hb dX10_arrive_113 (by decide) ?_
            refine sb_icmp_ne (tgt := 118) hx hb rfl (by decide : ((-1) : Int32).toInt = (-1)) dX10_arrive_114 (by decide) (fun c_114_53 => ?_) (fun c_114_53 => ?_)
            · have S0 : g_6 (128 + x_16.toInt.toNat) = 0 := by omega
              have S3 := wF_s3 htW j_9 (m := x_16.toInt.toNat) (by omega) S0
              have W8 := wF_8 j_9
              have BG := bc0_ge htW j_9 (m := x_16.toInt.toNat) (by omega) S0
              have WA := wF_ap htW j_9 (m := x_16.toInt) (by omega) (by omega) S0
              have g2 : g_6 2 = t.toInt := by rw [j_11]; omega
              refine lv_aload_n hx hb dX10_arrive_118 rfl (lv_at hl 2 rfl) ?_
              refine lv_iload_n hx hb dX10_arrive_119 rfl (lv_at hl 3 rfl) ?_
              refine lv_iload_n hx hb dX10_arrive_120 rfl (lv_at hl 1 rfl) ?_
              refine lv_iload_n hx hb dX10_arrive_121 rfl (lv_at hl 4 rfl) ?_
              refine ti_callVv (ci := 10) (av := [.int 0, .int x_16, .int t]) C hw (z_X10_joins_0 l D A cy hJ M_1 iM_1 f_3 x_16 t (by first | omega | decide | (have l0 : (0 : Int32).toInt = 0 := (by decide); have l2 : (2 : Int32).toInt = 2 := (by decide); have l3 : (3 : Int32).toInt = 3 := (by decide); omega)) (by first | omega | decide | (have l0 : (0 : Int32).toInt = 0 := (by decide); have l2 : (2 : Int32).toInt = 2 := (by decide); have l3 : (3 : Int32).toInt = 3 := (by decide); omega)) (fun i hi => by rw [show i = 8 * 0 + x_16.toInt.toNat by omega]; have z0 := (hs_7.2.2.2.1 x_16.toInt.toNat (by omega)).1; omega) tx g_6 (tR_lw htr (eR_lw (q := 0) f_5)) ht4 hs_7 j_10 (by omega) S0 (by omega) (by omega)) ⟨ml_X10_359, ym_X10_joins, yv_X10_joins, yi_X10_joins, yc_X10_joins⟩ yd_X10_joins ob_60 (by decide) rfl rfl hl.1 (Nat.le_of_ble_eq_true rfl) ⟨by decide, by decide⟩ ⟨Nat.zero_le _, Nat.zero_le _⟩ dX10_arrive_122 (fun M_56 H locs hp_56 hw => ?_)
              obtain ⟨erM_56, hrM_56, qvM_56, hqM_56⟩ := hp_56
              obtain ⟨iM_56, q_57, q_58, q_59, q_60⟩ := hqM_56
              obtain ⟨g_61, eg_61⟩ : ∃ z : Nat → Int, z = bq_ap g_6 x_16.toInt := ⟨_, rfl⟩
              rw [← eg_61] at hrM_56
              rw [← eg_61] at qvM_56
              have WP : wF tx g_61 := by rw [eg_61]; exact WA.1
              have WB := WA.2
              rw [← eg_61] at WB
              have WN : ∃ f : Nat, bc0 g_61 ≤ (f : Int) + (8 - tx 4) ∧ bq_wl tx f g_61 = bq_wl tx (tx 4).toNat rg := ⟨f9 - 1, by omega, by rw [← he9, wl_go (tx := tx) (s := g_6) (f := f9) (f' := f9 - 1) (by omega) (by omega), NX, ← eg_61]⟩
              refine lv_goto (tgt := 0) hx hb dX10_arrive_125 (by decide) ?_
              exact ih_12 M_56 g_61 _ _ _ (by omega) iM_56 (rq.trans q_57 f_2) q_58 (((q_59).trans f_4)) (eR.trans erM_56 f_5) hrM_56 WN WP qvM_56 (by rw [eg_61, ap_k (by decide)]; exact j_11) hw (lv_sub hl [2, 3, 4] rfl)
            · exact hQ _ _ _ _ _ hw (⟨f_5, (by rw [← he9, wl_end (Or.inr (by omega))]; exact hs_7), (by rw [← he9, wl_end (Or.inr (by omega))]; exact j_10), iM_1, f_2, f_3, ((f_4))⟩) dX10_arrive_117
          · have g2 : g_6 2 = t.toInt := by rw [j_11]; omega
            refine lv_aload_n hx hb dX10_arrive_16 rfl (lv_at hl 2 rfl) ?_
            refine ti_get (ci := 10) (k := 40) (N := 67) (T := TX10) (v := .ref (A 60 41)) C hw iw_10 rfl ob_60 (by decide) (by decide) fl_X10_87 rfl rfl dX10_arrive_17 ?_
            refine lv_bipush (v := 8) hx hb dX10_arrive_20 (by decide) ?_
            refine lv_iload_n hx hb dX10_arrive_22 rfl (lv_at hl 3 rfl) ?_
            refine lv_imul hx hb dX10_arrive_23 ?_
            refine ti_top (y := 0) (by decide) ?_
            refine lv_iload hx hb dX10_arrive_24 (lv_at hl 0 rfl) ?_
            refine lv_iadd hx hb dX10_arrive_26 ?_
            refine lv_topi (fun x_25 ex_25 => ?_)
            have tx_25 : x_25.toInt = 0 + x_13.toInt := i_add ex_25 (by decide : (0 : Int32).toInt = 0) rfl (by omega) (by omega)
            refine ti_iald (ci := 10) (k := 40) (n := 184) C hw ob_60 (by decide) (fun _ _ => rfl) (vp_in_iff.mpr (by omega)) dX10_arrive_27 ?_
            refine lv_topi (fun x_26 ex_26 => ?_)
            have yx_26 : tY M_1 60 40 x_25.toNatClampNeg = x_26 := (ex_26.symm)
            have zx_26 : (tY M_1 60 40 x_25.toNatClampNeg).toInt = x_26.toInt := by rw [yx_26]
            have L_27 : g_6 (128 + x_13.toInt.toNat) = x_26.toInt := ((hs_7.2.2.2.1 (x_13.toInt.toNat) (by omega)).1).trans (rd_k (n := 8 * 0 + x_13.toInt.toNat) (by omega) (yx_26))
            refine sb_if_ne (tgt := 106) hx hb rfl dX10_arrive_28 (by decide) (fun c_28_27 => ?_) (fun c_28_27 => ?_)
            · obtain ⟨x_47, ex_47⟩ : ∃ z : Int32, z = x_13 + 1 := ⟨_, rfl⟩
              have tx_47 : x_47.toInt = x_13.toInt + 1 := i_add ex_47 rfl (by decide) (by omega) (by omega)
              refine lv_iinc (v := x_47) (lv' := [(4, .int x_47), (3, .int x_16), (0, .ref (A 60 0)), (1, .int 0), (2, .int t)]) hx hb dX10_arrive_106 hl (k := 0) rfl (by rw [ex_47]; rfl) (by decide) rfl (fun ls hl => ?_)
              refine lv_goto (tgt := 5) hx hb dX10_arrive_109 (by decide) ?_
              exact ih_21 x_47 x_16 _ _ _ (by omega) (by first | omega | decide) (by first | omega | decide) (by first | omega | decide) (by first | omega | decide) (by rw [← j_19, nf_go (tx := tx) (s := g_6) (f := (tx 4).toNat - x_13.toInt.toNat) (f' := (tx 4).toNat - x_47.toInt.toNat) (m := x_13.toInt.toNat) (b := x_16.toInt) (by omega), if_neg (by omega), show x_47.toInt.toNat = x_13.toInt.toNat + 1 by omega]) (by first | omega | decide) hw (lv_sub hl [0, 1, 2, 3, 4] rfl)
            · refine lv_aload_n hx hb dX10_arrive_31 rfl (lv_at hl 2 rfl) ?_
              refine ti_get (ci := 10) (k := 44) (N := 67) (T := TX10) (v := .ref (A 60 45)) C hw iw_10 rfl ob_60 (by decide) (by decide) fl_X10_99 rfl rfl dX10_arrive_32 ?_
              refine lv_bipush (v := 8) hx hb dX10_arrive_35 (by decide) ?_
              refine lv_iload_n hx hb dX10_arrive_37 rfl (lv_at hl 3 rfl) ?_
              refine lv_imul hx hb dX10_arrive_38 ?_
              refine ti_top (y := 0) (by decide) ?_
              refine lv_iload hx hb dX10_arrive_39 (lv_at hl 0 rfl) ?_
              refine lv_iadd hx hb dX10_arrive_41 ?_
              refine lv_topi (fun x_29 ex_29 => ?_)
              have tx_29 : x_29.toInt = 0 + x_13.toInt := i_add ex_29 (by decide : (0 : Int32).toInt = 0) rfl (by omega) (by omega)
              refine ti_iald (ci := 10) (k := 44) (n := 184) C hw ob_60 (by decide) (fun _ _ => rfl) (vp_in_iff.mpr (by omega)) dX10_arrive_42 ?_
              refine lv_topi (fun x_30 ex_30 => ?_)
              have yx_30 : tY M_1 60 44 x_29.toNatClampNeg = x_30 := (ex_30.symm)
              have L_31 : g_6 (144 + x_13.toInt.toNat) = x_30.toInt := ((hs_7.2.2.2.1 (x_13.toInt.toNat) (by omega)).2.1).trans (rd_k (n := 8 * 0 + x_13.toInt.toNat) (by omega) (yx_30))
              refine lv_iload_n hx hb dX10_arrive_43 rfl (lv_at hl 4 rfl) ?_
              refine sb_icmp_eq (tgt := 50) hx hb rfl rfl dX10_arrive_44 (by decide) (fun c_44_31 => ?_) (fun c_44_31 => ?_)
              · refine lv_iload_n hx hb dX10_arrive_50 rfl (lv_at hl 1 rfl) ?_
                refine lv_iconst (v := (-1)) hx hb dX10_arrive_51 (by decide) ?_
                refine sb_icmp_eq (tgt := 103) hx hb rfl (by decide : ((-1) : Int32).toInt = (-1)) dX10_arrive_52 (by decide) (fun c_52_32 => ?_) (fun c_52_32 => ?_)
                · refine lv_iload hx hb dX10_arrive_103 (lv_at hl 0 rfl) ?_
                  refine lv_istore_n (lv' := [(3, .int x_13), (4, .int x_13), (0, .ref (A 60 0)), (1, .int 0), (2, .int t)]) hx hb dX10_arrive_105 rfl hl (by decide) rfl (fun ls hl => ?_)
                  obtain ⟨x_51, ex_51⟩ : ∃ z : Int32, z = x_13 + 1 := ⟨_, rfl⟩
                  have tx_51 : x_51.toInt = x_13.toInt + 1 := i_add ex_51 rfl (by decide) (by omega) (by omega)
                  refine lv_iinc (v := x_51) (lv' := [(4, .int x_51), (3, .int x_13), (0, .ref (A 60 0)), (1, .int 0), (2, .int t)]) hx hb dX10_arrive_106 hl (k := 1) rfl (by rw [ex_51]; rfl) (by decide) rfl (fun ls hl => ?_)
                  refine lv_goto (tgt := 5) hx hb dX10_arrive_109 (by decide) ?_
                  exact ih_21 x_51 x_13 _ _ _ (by omega) (by first | omega | decide) (by first | omega | decide) (by first | omega | decide) (by first | omega | decide) (by rw [← j_19, nf_go (tx := tx) (s := g_6) (f := (tx 4).toNat - x_13.toInt.toNat) (f' := (tx 4).toNat - x_51.toInt.toNat) (m := x_13.toInt.toNat) (b := x_16.toInt) (by omega), if_pos (by omega), show x_51.toInt.toNat = x_13.toInt.toNat + 1 by omega]; exact congrArg _ (by omega)) (by first | omega | decide) hw (lv_sub hl [0, 1, 2, 3, 4] rfl)
                · refine lv_aload_n hx hb dX10_arrive_55 rfl (lv_at hl 2 rfl) ?_
                  refine ti_get (ci := 10) (k := 6) (N := 67) (T := TX10) (v := .ref (A 60 7)) C hw iw_10 rfl ob_60 (by decide) (by decide) fl_X10_22 rfl rfl dX10_arrive_56 ?_
                  refine lv_iload hx hb dX10_arrive_59 (lv_at hl 0 rfl) ?_
                  refine ti_iald (ci := 10) (k := 6) (n := 16) C hw ob_60 (by decide) (fun _ _ => rfl) (vp_in_iff.mpr (by omega)) dX10_arrive_61 ?_
                  refine lv_topi (fun x_34 ex_34 => ?_)
                  have yx_34 : tY M_1 60 6 x_13.toNatClampNeg = x_34 := (ex_34.symm)
                  have wx_34 : tY M 60 6 x_13.toNatClampNeg = x_34 := ((cg (f_2.1 6 (by decide) (by decide)) x_13.toNatClampNeg)).symm.trans yx_34
                  have L_35 : tx (100 + 16 * x_13.toInt.toNat + 2) = x_34.toInt := (htr.2.2.1 (x_13.toInt.toNat) (by omega) (by omega)).2.1.trans ((congrArg Int32.toInt (cg ((f_2.1 6 (by decide) (by decide))) (x_13.toInt.toNat))).symm.trans (rd_k (n := x_13.toInt.toNat) (by omega) ((cg (f_2.1 6 (by decide) (by decide)) x_13.toNatClampNeg).trans wx_34)))
                  refine lv_aload_n hx hb dX10_arrive_62 rfl (lv_at hl 2 rfl) ?_
                  refine ti_get (ci := 10) (k := 6) (N := 67) (T := TX10) (v := .ref (A 60 7)) C hw iw_10 rfl ob_60 (by decide) (by decide) fl_X10_22 rfl rfl dX10_arrive_63 ?_
                  refine lv_iload_n hx hb dX10_arrive_66 rfl (lv_at hl 1 rfl) ?_
                  refine ti_iald (ci := 10) (k := 6) (n := 16) C hw ob_60 (by decide) (fun _ _ => rfl) (vp_in_iff.mpr (by omega)) dX10_arrive_67 ?_
                  refine lv_topi (fun x_36 ex_36 => ?_)
                  have yx_36 : tY M_1 60 6 x_16.toNatClampNeg = x_36 := (ex_36.symm)
                  have wx_36 : tY M 60 6 x_16.toNatClampNeg = x_36 := ((cg (f_2.1 6 (by decide) (by decide)) x_16.toNatClampNeg)).symm.trans yx_36
                  have L_37 : tx (100 + 16 * x_16.toInt.toNat + 2) = x_36.toInt := (htr.2.2.1 (x_16.toInt.toNat) (by omega) (by omega)).2.1.trans ((congrArg Int32.toInt (cg ((f_2.1 6 (by decide) (by decide))) (x_16.toInt.toNat))).symm.trans (rd_k (n := x_16.toInt.toNat) (by omega) ((cg (f_2.1 6 (by decide) (by decide)) x_16.toNatClampNeg).trans wx_36)))
                  refine sb_icmp_lt (tgt := 103) hx hb rfl rfl dX10_arrive_68 (by decide) (fun c_68_37 => ?_) (fun c_68_37 => ?_)
                  · refine lv_iload hx hb dX10_arrive_103 (lv_at hl 0 rfl) ?_
                    refine lv_istore_n (lv' := [(3, .int x_13), (4, .int x_13), (0, .ref (A 60 0)), (1, .int 0), (2, .int t)]) hx hb dX10_arrive_105 rfl hl (by decide) rfl (fun ls hl => ?_)
                    obtain ⟨x_52, ex_52⟩ : ∃ z : Int32, z = x_13 + 1 := ⟨_, rfl⟩
                    have tx_52 : x_52.toInt = x_13.toInt + 1 := i_add ex_52 rfl (by decide) (by omega) (by omega)
                    refine lv_iinc (v := x_52) (lv' := [(4, .int x_52), (3, .int x_13), (0, .ref (A 60 0)), (1, .int 0), (2, .int t)]) hx hb dX10_arrive_106 hl (k := 1) rfl (by rw [ex_52]; rfl) (by decide) rfl (fun ls hl => ?_)
                    refine lv_goto (tgt := 5) hx hb dX10_arrive_109 (by decide) ?_
                    exact ih_21 x_52 x_13 _ _ _ (by omega) (by first | omega | decide) (by first | omega | decide) (by first | omega | decide) (by first | omega | decide) (by rw [← j_19, nf_go (tx := tx) (s := g_6) (f := (tx 4).toNat - x_13.toInt.toNat) (f' := (tx 4).toNat - x_52.toInt.toNat) (m := x_13.toInt.toNat) (b := x_16.toInt) (by omega), if_pos (by omega), show x_52.toInt.toNat = x_13.toInt.toNat + 1 by omega]; exact congrArg _ (by omega)) (by first | omega | decide) hw (lv_sub hl [0, 1, 2, 3, 4] rfl)
                  · refine lv_aload_n hx hb dX10_arrive_71 rfl (lv_at hl 2 rfl) ?_
                    refine ti_get (ci := 10) (k := 6) (N := 67) (T := TX10) (v := .ref (A 60 7)) C hw iw_10 rfl ob_60 (by decide) (by decide) fl_X10_22 rfl rfl dX10_arrive_72 ?_
                    refine lv_iload hx hb dX10_arrive_75 (lv_at hl 0 rfl) ?_
                    refine ti_iald (ci := 10) (k := 6) (n := 16) C hw ob_60 (by decide) (fun _ _ => rfl) (vp_in_iff.mpr (by omega)) dX10_arrive_77 ?_
                    refine ti_top (y := x_34) (((cg (f_2.1 6 (by decide) (by decide)) x_13.toNatClampNeg).trans wx_34)) ?_
                    have L_39 : tx (100 + 16 * x_13.toInt.toNat + 2) = x_34.toInt := (htr.2.2.1 (x_13.toInt.toNat) (by omega) (by omega)).2.1.trans ((congrArg Int32.toInt (cg ((f_2.1 6 (by decide) (by decide))) (x_13.toInt.toNat))).symm.trans (rd_k (n := x_13.toInt.toNat) (by omega) ((cg (f_2.1 6 (by decide) (by decide)) x_13.toNatClampNeg).trans wx_34)))
                    refine lv_aload_n hx hb dX10_arrive_78 rfl (lv_at hl 2 rfl) ?_
                    refine ti_get (ci := 10) (k := 6) (N := 67) (T := TX10) (v := .ref (A 60 7)) C hw iw_10 rfl ob_60 (by decide) (by decide) fl_X10_22 rfl rfl dX10_arrive_79 ?_
                    refine lv_iload_n hx hb dX10_arrive_82 rfl (lv_at hl 1 rfl) ?_
                    refine ti_iald (ci := 10) (k := 6) (n := 16) C hw ob_60 (by decide) (fun _ _ => rfl) (vp_in_iff.mpr (by omega)) dX10_arrive_83 ?_
                    refine ti_top (y := x_36) (((cg (f_2.1 6 (by decide) (by decide)) x_16.toNatClampNeg).trans wx_36)) ?_
                    have L_40 : tx (100 + 16 * x_16.toInt.toNat + 2) = x_36.toInt := (htr.2.2.1 (x_16.toInt.toNat) (by omega) (by omega)).2.1.trans ((congrArg Int32.toInt (cg ((f_2.1 6 (by decide) (by decide))) (x_16.toInt.toNat))).symm.trans (rd_k (n := x_16.toInt.toNat) (by omega) ((cg (f_2.1 6 (by decide) (by decide)) x_16.toNatClampNeg).trans wx_36)))
                    refine sb_icmp_ne (tgt := 106) hx hb rfl rfl dX10_arrive_84 (by decide) (fun c_84_40 => ?_) (fun c_84_40 => ?_)
                    · obtain ⟨x_49, ex_49⟩ : ∃ z : Int32, z = x_13 + 1 := ⟨_, rfl⟩
                      have tx_49 : x_49.toInt = x_13.toInt + 1 := i_add ex_49 rfl (by decide) (by omega) (by omega)
                      refine lv_iinc (v := x_49) (lv' := [(4, .int x_49), (3, .int x_16), (0, .ref (A 60 0)), (1, .int 0), (2, .int t)]) hx hb dX10_arrive_106 hl (k := 0) rfl (by rw [ex_49]; rfl) (by decide) rfl (fun ls hl => ?_)
                      refine lv_goto (tgt := 5) hx hb dX10_arrive_109 (by decide) ?_
                      exact ih_21 x_49 x_16 _ _ _ (by omega) (by first | omega | decide) (by first | omega | decide) (by first | omega | decide) (by first | omega | decide) (by rw [← j_19, nf_go (tx := tx) (s := g_6) (f := (tx 4).toNat - x_13.toInt.toNat) (f' := (tx 4).toNat - x_49.toInt.toNat) (m := x_13.toInt.toNat) (b := x_16.toInt) (by omega), if_neg (by omega), show x_49.toInt.toNat = x_13.toInt.toNat + 1 by omega]) (by first | omega | decide) hw (lv_sub hl [0, 1, 2, 3, 4] rfl)
                    · refine lv_aload_n hx hb dX10_arrive_87 rfl (lv_at hl 2 rfl) ?_
                      refine ti_get (ci := 10) (k := 5) (N := 67) (T := TX10) (v := .ref (A 60 6)) C hw iw_10 rfl ob_60 (by decide) (by decide) fl_X10_19 rfl rfl dX10_arrive_88 ?_
                      refine lv_iload hx hb dX10_arrive_91 (lv_at hl 0 rfl) ?_
                      refine ti_iald (ci := 10) (k := 5) (n := 16) C hw ob_60 (by decide) (fun _ _ => rfl) (vp_in_iff.mpr (by omega)) dX10_arrive_93 ?_
                      refine lv_topi (fun x_42 ex_42 => ?_)
                      have yx_42 : tY M_1 60 5 x_13.toNatClampNeg = x_42 := (ex_42.symm)
                      have wx_42 : tY M 60 5 x_13.toNatClampNeg = x_42 := ((cg (f_2.1 5 (by decide) (by decide)) x_13.toNatClampNeg)).symm.trans yx_42
                      have L_43 : tx (100 + 16 * x_13.toInt.toNat + 1) = x_42.toInt := (htr.2.2.1 (x_13.toInt.toNat) (by omega) (by omega)).1.trans ((congrArg Int32.toInt (cg ((f_2.1 5 (by decide) (by decide))) (x_13.toInt.toNat))).symm.trans (rd_k (n := x_13.toInt.toNat) (by omega) ((cg (f_2.1 5 (by decide) (by decide)) x_13.toNatClampNeg).trans wx_42)))
                      refine lv_aload_n hx hb dX10_arrive_94 rfl (lv_at hl 2 rfl) ?_
                      refine ti_get (ci := 10) (k := 5) (N := 67) (T := TX10) (v := .ref (A 60 6)) C hw iw_10 rfl ob_60 (by decide) (by decide) fl_X10_19 rfl rfl dX10_arrive_95 ?_
                      refine lv_iload_n hx hb dX10_arrive_98 rfl (lv_at hl 1 rfl) ?_
                      refine ti_iald (ci := 10) (k := 5) (n := 16) C hw ob_60 (by decide) (fun _ _ => rfl) (vp_in_iff.mpr (by omega)) dX10_arrive_99 ?_
                      refine lv_topi (fun x_44 ex_44 => ?_)
                      have yx_44 : tY M_1 60 5 x_16.toNatClampNeg = x_44 := (ex_44.symm)
                      have wx_44 : tY M 60 5 x_16.toNatClampNeg = x_44 := ((cg (f_2.1 5 (by decide) (by decide)) x_16.toNatClampNeg)).symm.trans yx_44
                      have L_45 : tx (100 + 16 * x_16.toInt.toNat + 1) = x_44.toInt := (htr.2.2.1 (x_16.toInt.toNat) (by omega) (by omega)).1.trans ((congrArg Int32.toInt (cg ((f_2.1 5 (by decide) (by decide))) (x_16.toInt.toNat))).symm.trans (rd_k (n := x_16.toInt.toNat) (by omega) ((cg (f_2.1 5 (by decide) (by decide)) x_16.toNatClampNeg).trans wx_44)))
                      refine sb_icmp_le (tgt := 106) hx hb rfl rfl dX10_arrive_100 (by decide) (fun c_100_45 => ?_) (fun c_100_45 => ?_)
                      · obtain ⟨x_50, ex_50⟩ : ∃ z : Int32, z = x_13 + 1 := ⟨_, rfl⟩
                        have tx_50 : x_50.toInt = x_13.toInt + 1 := i_add ex_50 rfl (by decide) (by omega) (by omega)
                        refine lv_iinc (v := x_50) (lv' := [(4, .int x_50), (3, .int x_16), (0, .ref (A 60 0)), (1, .int 0), (2, .int t)]) hx hb dX10_arrive_106 hl (k := 0) rfl (by rw [ex_50]; rfl) (by decide) rfl (fun ls hl => ?_)
                        refine lv_goto (tgt := 5) hx hb dX10_arrive_109 (by decide) ?_
                        exact ih_21 x_50 x_16 _ _ _ (by omega) (by first | omega | decide) (by first | omega | decide) (by first | omega | decide) (by first | omega | decide) (by rw [← j_19, nf_go (tx := tx) (s := g_6) (f := (tx 4).toNat - x_13.toInt.toNat) (f' := (tx 4).toNat - x_50.toInt.toNat) (m := x_13.toInt.toNat) (b := x_16.toInt) (by omega), if_neg (by omega), show x_50.toInt.toNat = x_13.toInt.toNat + 1 by omega]) (by first | omega | decide) hw (lv_sub hl [0, 1, 2, 3, 4] rfl)
                      · refine lv_iload hx hb dX10_arrive_103 (lv_at hl 0 rfl) ?_
                        refine lv_istore_n (lv' := [(3, .int x_13), (4, .int x_13), (0, .ref (A 60 0)), (1, .int 0), (2, .int t)]) hx hb dX10_arrive_105 rfl hl (by decide) rfl (fun ls hl => ?_)
                        obtain ⟨x_53, ex_53⟩ : ∃ z : Int32, z = x_13 + 1 := ⟨_, rfl⟩
                        have tx_53 : x_53.toInt = x_13.toInt + 1 := i_add ex_53 rfl (by decide) (by omega) (by omega)
                        refine lv_iinc (v := x_53) (lv' := [(4, .int x_53), (3, .int x_13), (0, .ref (A 60 0)), (1, .int 0), (2, .int t)]) hx hb dX10_arrive_106 hl (k := 1) rfl (by rw [ex_53]; rfl) (by decide) rfl (fun ls hl => ?_)
                        refine lv_goto (tgt := 5) hx hb dX10_arrive_109 (by decide) ?_
                        exact ih_21 x_53 x_13 _ _ _ (by omega) (by first | omega | decide) (by first | omega | decide) (by first | omega | decide) (by first | omega | decide) (by rw [← j_19, nf_go (tx := tx) (s := g_6) (f := (tx 4).toNat - x_13.toInt.toNat) (f' := (tx 4).toNat - x_53.toInt.toNat) (m := x_13.toInt.toNat) (b := x_16.toInt) (by omega), if_pos (by omega), show x_53.toInt.toNat = x_13.toInt.toNat + 1 by omega]; exact congrArg _ (by omega)) (by first | omega | decide) hw (lv_sub hl [0, 1, 2, 3, 4] rfl)
              · refine lv_goto (tgt := 106) hx hb dX10_arrive_47 (by decide) ?_
                obtain ⟨x_48, ex_48⟩ : ∃ z : Int32, z = x_13 + 1 := ⟨_, rfl⟩
                have tx_48 : x_48.toInt = x_13.toInt + 1 := i_add ex_48 rfl (by decide) (by omega) (by omega)
                refine lv_iinc (v := x_48) (lv' := [(4, .int x_48), (3, .int x_16), (0, .ref (A 60 0)), (1, .int 0), (2, .int t)]) hx hb dX10_arrive_106 hl (k := 0) rfl (by rw [ex_48]; rfl) (by decide) rfl (fun ls hl => ?_)
                refine lv_goto (tgt := 5) hx hb dX10_arrive_109 (by decide) ?_
                exact ih_21 x_48 x_16 _ _ _ (by omega) (by first | omega | decide) (by first | omega | decide) (by first | omega | decide) (by first | omega | decide) (by rw [← j_19, nf_go (tx := tx) (s := g_6) (f := (tx 4).toNat - x_13.toInt.toNat) (f' := (tx 4).toNat - x_48.toInt.toNat) (m := x_13.toInt.toNat) (b := x_16.toInt) (by omega), if_neg (by omega), show x_48.toInt.toNat = x_13.toInt.toNat + 1 by omega]) (by first | omega | decide) hw (lv_sub hl [0, 1, 2, 3, 4] rfl)
      exact hl_5_20 ((8 - 0 : Int).toNat + 1) 0 (-1) _ _ _ (Nat.lt_succ_self _) (by have lt0 : ((-1) : Int32).toInt = (-1) := (by decide); have lt1 : (0 : Int32).toInt = 0 := (by decide); first | omega | decide) (by have lt0 : ((-1) : Int32).toInt = (-1) := (by decide); have lt1 : (0 : Int32).toInt = 0 := (by decide); first | omega | decide) (by have lt0 : ((-1) : Int32).toInt = (-1) := (by decide); have lt1 : (0 : Int32).toInt = 0 := (by decide); first | omega | decide) (by have lt0 : ((-1) : Int32).toInt = (-1) := (by decide); have lt1 : (0 : Int32).toInt = 0 := (by decide); first | omega | decide) (by show bq_nf tx g_6 ((tx 4).toNat - 0) 0 (-1) = _; rfl) (by have lt0 : ((-1) : Int32).toInt = (-1) := (by decide); have lt1 : (0 : Int32).toInt = 0 := (by decide); first | omega | decide) hw (lv_sub hl [0, 1, 2, 3, 4] rfl)
  exact hl_0_11 ((((zc (tY M 60 40) 0 : Nat) : Int) : Int).toNat + 1) M rg _ _ _ (Nat.lt_succ_self _) hI rq.refl hC rfl eR.refl hr ⟨(tx 4).toNat, by have := bc0_8 (s := rg); omega, rfl⟩ hwf hV rfl hw (lv_sub hl [0, 1, 2] rfl)
end
section
variable {Tc : gC} {Tm : gM}
variable {Tc : gC} {Tm : gM}
theorem bt_0 (k : Nat) : pp_bt 0 k = 0 := by unfold pp_bt; simp
/-- coughs are over -/
theorem qR_37 {n q : Nat} {s g : Nat → Int} {M N : ti_M} {z v : Int32} (h : qR n q s M) (hz : z.toInt = (q : Int)) (hv : v = 0) (e : N = uY M 60 37 (upd (tY M 60 37) z.toNatClampNeg v)) (hn : n ≤ 8) (hg : ∀ j : Nat, j < 256 → g j = s j) (h1 : s 1 = 0 → ∀ m : Nat, m < 8 → g (256 + m) = 0) : qR n q g N := by
  rw [i_cl hz] at e
  obtain ⟨a, b, c, d, f, g0⟩ := h
  have o : ∀ k2 : Nat, k2 ≠ 37 → tY N 60 k2 = tY M 60 k2 := fun k2 h2 => tY_nE e (nk h2)
  have e37 : tY N 60 37 q = 0 := by rw [tY_uE e, pk_us, hv]
  refine ⟨by rw [hg 2 (by decide), hg 3 (by decide), hg 4 (by decide), hg 5 (by decide), o 34 (by decide), o 38 (by decide), o 35 (by decide), o 36 (by decide)]; exact a, fun p h1 h2 => ?_, fun j hj => by rw [hg (112 + j) (by omega), o 49 (by decide)]; exact c j hj, fun m2 h2 => ?_, fun m2 h2 => ?_, ?_⟩
  · rw [hg 3 (by decide)] at h2
    rw [hg (96 + p) (by omega), o 39 (by decide)]; exact b p h1 h2
  · rw [hg (128 + m2) (by omega), hg (144 + m2) (by omega), hg (160 + m2) (by omega), hg (176 + m2) (by omega), hg (192 + m2) (by omega), hg (240 + m2) (by omega), o 40 (by decide), o 44 (by decide), o 41 (by decide), o 42 (by decide), o 43 (by decide), o 47 (by decide)]; exact d m2 h2
  · rw [hg (128 + m2) (by omega), hg (208 + m2) (by omega), hg (224 + m2) (by omega), o 45 (by decide), o 46 (by decide)]; exact f m2 h2
  · rw [hg 1 (by decide), e37]
    split
    · rename_i w
      intro m2 h2
      rw [h1 w m2 h2, bt_0]
    · rfl
theorem fc_lt {s : Nat → Int} {j : Nat} (h : j < 256) : bq_fc s j = s j := by unfold bq_fc; rw [if_neg (by omega)]
theorem fc_0 {s : Nat → Int} {m : Nat} (h : m < 8) : bq_fc s (256 + m) = 0 := by unfold bq_fc; rw [if_pos (by omega)]
set_option maxHeartbeats 4000000 in
set_option maxRecDepth 100000 in
theorem z_X10_coughing_0 (l : Launch) (D : va_G) (A : Nat → Nat → Nat) (cy : Nat → ClassId) (hJ : ti_inj ti_LM A) (M : ti_M) (hI : mI Tm M) (hC : mC M 0) (hL : mL M) (t : Int32) (tx rg : Nat → Int) (htr : tR tx M) (ht4 : 0 ≤ tx 4 ∧ tx 4 ≤ 8) (hr : qR (tx 4).toNat 0 rg M) (hV : qV (tx 4).toNat 0 rg M) (hwf : wF tx rg) (htW : tW tx) (htm : t.toInt = rg 2) (h1 : rg 1 = 0) : ti_Kv l yX10_coughing cX10_coughing 5 5 ti_LM D A cy M [.ref (A 60 0), .int 0, .int t] (fun M2 => eR 0 M2 M ∧ qR (tx 4).toNat 0 (bq_hc tx rg) M2 ∧ qV (tx 4).toNat 0 (bq_hc tx rg) M2 ∧ mI Tm M2 ∧ rq 0 M2 M ∧ mC M2 0 ∧ tY M2 60 34 = tY M 60 34) := by
  refine ti_eV yp_X10_coughing hJ ti_LM_nd (Nat.le_of_ble_eq_true rfl) ?_
  intro p e s m args below meth c Q H0 C hQ hw ls hl
  have hx := C.1
  have hb := C.2.1
  have hl : lv_has ls 5 [(0, .ref (A 60 0)), (1, .int 0), (2, .int t)] := hl
  have LH : (bq_lh tx rg = tx 9 ∧ tx 9 ≤ rg 3 - 1) ∨ (bq_lh tx rg = rg 3 - 1 ∧ rg 3 - 1 < tx 9) := by unfold bq_lh bq_mn; split <;> omega
  have w8 := wF_8 hwf
  have G0 := hr.2.2.2.2.2
  rw [if_pos h1] at G0
  refine lv_iconst (v := 0) hx hb dX10_coughing_0 (by decide) ?_
  refine lv_istore_n (lv' := [(3, .int 0), (0, .ref (A 60 0)), (1, .int 0), (2, .int t)]) hx hb dX10_coughing_1 rfl hl (by decide) rfl (fun ls hl => ?_)
  refine lv_iconst (v := 1) hx hb dX10_coughing_2 (by decide) ?_
  refine lv_istore (lv' := [(4, .int 1), (3, .int 0), (0, .ref (A 60 0)), (1, .int 0), (2, .int t)]) hx hb dX10_coughing_3 hl (by decide) rfl (fun ls hl => ?_)
  have hl_5_5 : ∀ (n_6 : Nat) (x_1 : Int32) (x_4 : Int32) (H : Heap) (locs : List Loc) (ls : Array Slot), (8 - x_1.toInt : Int).toNat < n_6 → (1 ≤ x_1.toInt) → (x_1.toInt ≤ 8) → (bq_hs rg (bq_lh tx rg + 1 - (x_1.toInt)).toNat (x_1.toInt).toNat (x_4.toInt) = bq_hs rg (bq_lh tx rg).toNat 1 0) → ti_H ti_LM D A cy H0 M H locs → lv_has ls 5 [(4, .int x_1), (3, .int x_4), (0, .ref (A 60 0)), (1, .int 0), (2, .int t)] → W p l e (ti_rm 5) s m args below meth c H locs 0 0 Q (F0 m 5 ls []) := by
    intro n_6
    induction n_6 with
    | zero => intro x_1 x_4 H locs ls hf_6; exact absurd hf_6 (Nat.not_lt_zero _)
    | succ n_6 ih_6 =>
      intro x_1 x_4 H locs ls hf_6 b_2 b_3 j_5 hw hl
      refine lv_iload hx hb dX10_coughing_5 (lv_at hl 0 rfl) ?_
      refine lv_aload_n hx hb dX10_coughing_7 rfl (lv_at hl 2 rfl) ?_
      refine ti_get (ci := 10) (k := 38) (N := 67) (T := TX10) (v := .ref (A 60 39)) C hw iw_10 rfl ob_60 (by decide) (by decide) fl_X10_81 rfl rfl dX10_coughing_8 ?_
      refine lv_iload_n hx hb dX10_coughing_11 rfl (lv_at hl 3 rfl) ?_
      refine ti_iald (ci := 10) (k := 38) (n := 23) C hw ob_60 (by decide) (fun _ _ => rfl) (by unfold vp_in; decide) dX10_coughing_12 ?_
      refine lv_topi (fun x_7 ex_7 => ?_)
      have yx_7 : tY M 60 38 0 = x_7 := ((congrArg _ (by decide)).symm.trans ex_7.symm)
      have bx_7 : 0 ≤ x_7.toInt ∧ x_7.toInt ≤ 8 := mI_ry (k := 38) (i := 0) hI yx_7.symm
      have zx_7 : (tY M 60 38 0).toInt = x_7.toInt := by rw [yx_7]
      have L_8 : rg 3 = x_7.toInt := (hr.1.2.1).trans (congrArg Int32.toInt (yx_7))
      refine sb_icmp_ge (tgt := 57) hx hb rfl rfl dX10_coughing_13 (by decide) (fun c_13_8 => ?_) (fun c_13_8 => ?_)
      · have EH : bq_hs rg (bq_lh tx rg).toNat 1 0 = x_4.toInt := by rw [← j_5, hs_end (by omega)]
        refine lv_aload_n hx hb dX10_coughing_57 rfl (lv_at hl 2 rfl) ?_
        refine ti_get (ci := 10) (k := 38) (N := 67) (T := TX10) (v := .ref (A 60 39)) C hw iw_10 rfl ob_60 (by decide) (by decide) fl_X10_81 rfl rfl dX10_coughing_58 ?_
        refine lv_iload_n hx hb dX10_coughing_61 rfl (lv_at hl 3 rfl) ?_
        refine ti_iald (ci := 10) (k := 38) (n := 23) C hw ob_60 (by decide) (fun _ _ => rfl) (by unfold vp_in; decide) dX10_coughing_62 ?_
        refine ti_top (y := x_7) ((congrArg _ (by decide)).trans (yx_7)) ?_
        have L_21 : rg 3 = x_7.toInt := (hr.1.2.1).trans (congrArg Int32.toInt (yx_7))
        refine sb_if_le (tgt := 96) hx hb rfl dX10_coughing_63 (by decide) (fun c_63_21 => ?_) (fun c_63_21 => ?_)
        · refine lv_aload_n hx hb dX10_coughing_96 rfl (lv_at hl 2 rfl) ?_
          refine ti_get (ci := 10) (k := 37) (N := 67) (T := TX10) (v := .ref (A 60 38)) C hw iw_10 rfl ob_60 (by decide) (by decide) fl_X10_78 rfl rfl dX10_coughing_97 ?_
          refine lv_iload_n hx hb dX10_coughing_100 rfl (lv_at hl 3 rfl) ?_
          refine lv_iconst (v := 0) hx hb dX10_coughing_101 (by decide) ?_
          refine ti_iast (ci := 10) (k := 37) (n := 23) C hw ob_60 (by decide) (fun _ _ => rfl) (by unfold vp_in; decide) dX10_coughing_102 (fun H locs hw => ?_)
          obtain ⟨M_65, hM_65⟩ : ∃ z : ti_M, z = uY M 60 37 (upd (tY M 60 37) (0 : Int32).toNatClampNeg 0) := ⟨_, rfl⟩
          have hw := hw.to hM_65.symm
          have iM_65 : mI Tm M_65 := mI_up (i := 0) hI hM_65 trivial
          have hs_67 : qR (tx 4).toNat 0 (bq_fc rg) M_65 := qR_37 (z := 0) hr (by decide) rfl hM_65 (by omega) (fun j hj => fc_lt hj) (fun _ m2 h2 => fc_0 h2)
          obtain ⟨g_68, eg_68⟩ : ∃ z : Nat → Int, z = bq_fc rg := ⟨_, rfl⟩
          rw [← eg_68] at hs_67
          have E_69 : bq_hc tx rg = g_68 := by unfold bq_hc; rw [if_pos (by omega), EH, if_neg (by first | omega | (have H0 : x_4.toInt = 0 := (by rw [← EH, hs_end (by omega)]); omega)), ← eg_68]
          exact hQ _ _ _ _ _ hw (⟨(eR_Y hM_65 (bk_q (z := 0) (by decide) (by decide))), (by rw [E_69]; exact hs_67), (by rw [E_69, eg_68]; exact qV_same hV (tY_nE hM_65 (nk (by decide))) (by omega) (fun _ _ => fc_lt (by omega)) (fun _ _ => fc_lt (by omega))), iM_65, (rq_qw (qw_Y hM_65 (by decide))), (mC_qw (qw_Y hM_65 (by decide)) hC), ((tY_nE hM_65 (nk (by decide))))⟩) dX10_coughing_103
        · refine lv_iload_n hx hb dX10_coughing_66 rfl (lv_at hl 1 rfl) ?_
          refine sb_if_le (tgt := 96) hx hb rfl dX10_coughing_67 (by decide) (fun c_67_24 => ?_) (fun c_67_24 => ?_)
          · refine lv_aload_n hx hb dX10_coughing_96 rfl (lv_at hl 2 rfl) ?_
            refine ti_get (ci := 10) (k := 37) (N := 67) (T := TX10) (v := .ref (A 60 38)) C hw iw_10 rfl ob_60 (by decide) (by decide) fl_X10_78 rfl rfl dX10_coughing_97 ?_
            refine lv_iload_n hx hb dX10_coughing_100 rfl (lv_at hl 3 rfl) ?_
            refine lv_iconst (v := 0) hx hb dX10_coughing_101 (by decide) ?_
            refine ti_iast (ci := 10) (k := 37) (n := 23) C hw ob_60 (by decide) (fun _ _ => rfl) (by unfold vp_in; decide) dX10_coughing_102 (fun H locs hw => ?_)
            obtain ⟨M_75, hM_75⟩ : ∃ z : ti_M, z = uY M 60 37 (upd (tY M 60 37) (0 : Int32).toNatClampNeg 0) := ⟨_, rfl⟩
            have hw := hw.to hM_75.symm
            have iM_75 : mI Tm M_75 := mI_up (i := 0) hI hM_75 trivial
            have hs_77 : qR (tx 4).toNat 0 (bq_fc rg) M_75 := qR_37 (z := 0) hr (by decide) rfl hM_75 (by omega) (fun j hj => fc_lt hj) (fun _ m2 h2 => fc_0 h2)
            obtain ⟨g_78, eg_78⟩ : ∃ z : Nat → Int, z = bq_fc rg := ⟨_, rfl⟩
            rw [← eg_78] at hs_77
            have E_79 : bq_hc tx rg = g_78 := by unfold bq_hc; rw [if_pos (by omega), EH, if_neg (by first | omega | (have H0 : x_4.toInt = 0 := (by rw [← EH, hs_end (by omega)]); omega)), ← eg_78]
            exact hQ _ _ _ _ _ hw (⟨(eR_Y hM_75 (bk_q (z := 0) (by decide) (by decide))), (by rw [E_79]; exact hs_77), (by rw [E_79, eg_78]; exact qV_same hV (tY_nE hM_75 (nk (by decide))) (by omega) (fun _ _ => fc_lt (by omega)) (fun _ _ => fc_lt (by omega))), iM_75, (rq_qw (qw_Y hM_75 (by decide))), (mC_qw (qw_Y hM_75 (by decide)) hC), ((tY_nE hM_75 (nk (by decide))))⟩) dX10_coughing_103
          · refine lv_iload_n hx hb dX10_coughing_70 rfl (lv_at hl 1 rfl) ?_
            refine lv_aload_n hx hb dX10_coughing_71 rfl (lv_at hl 2 rfl) ?_
            refine lv_iload_n hx hb dX10_coughing_72 rfl (lv_at hl 3 rfl) ?_
            refine lv_iload_n hx hb dX10_coughing_73 rfl (lv_at hl 4 rfl) ?_
            refine ti_callVi (ci := 10) (av := [.int 0, .int t]) C hw (z_X10_needOf_0 l D A cy hJ M hI hL t tx rg htr ht4 hr hwf (by omega) (by omega)) ⟨ml_X10_371, ym_X10_needOf, yv_X10_needOf, yi_X10_needOf, yc_X10_needOf⟩ yd_X10_needOf ob_60 (by decide) rfl rfl hl.1 (Nat.le_of_ble_eq_true rfl) ⟨by decide, by decide⟩ ⟨Nat.zero_le _, Nat.zero_le _⟩ dX10_coughing_74 (fun r_27 M_28 H locs hp_28 hw => ?_)
            obtain ⟨fi_31, pr_27, iM_28, q_29, q_30⟩ := hp_28
            have hs_32 : qR (tx 4).toNat 0 rg M_28 := qR_of hr q_30
            refine sb_icmp_lt (tgt := 96) hx hb rfl rfl dX10_coughing_77 (by decide) (fun c_77_32 => ?_) (fun c_77_32 => ?_)
            · refine lv_aload_n hx hb dX10_coughing_96 rfl (lv_at hl 2 rfl) ?_
              refine ti_get (ci := 10) (k := 37) (N := 67) (T := TX10) (v := .ref (A 60 38)) C hw iw_10 rfl ob_60 (by decide) (by decide) fl_X10_78 rfl rfl dX10_coughing_97 ?_
              refine lv_iload_n hx hb dX10_coughing_100 rfl (lv_at hl 3 rfl) ?_
              refine lv_iconst (v := 0) hx hb dX10_coughing_101 (by decide) ?_
              refine ti_iast (ci := 10) (k := 37) (n := 23) C hw ob_60 (by decide) (fun _ _ => rfl) (by unfold vp_in; decide) dX10_coughing_102 (fun H locs hw => ?_)
              obtain ⟨M_85, hM_85⟩ : ∃ z : ti_M, z = uY M_28 60 37 (upd (tY M_28 60 37) (0 : Int32).toNatClampNeg 0) := ⟨_, rfl⟩
              have hw := hw.to hM_85.symm
              have iM_85 : mI Tm M_85 := mI_up (i := 0) iM_28 hM_85 trivial
              have hs_87 : qR (tx 4).toNat 0 (bq_fc rg) M_85 := qR_37 (z := 0) hs_32 (by decide) rfl hM_85 (by omega) (fun j hj => fc_lt hj) (fun _ m2 h2 => fc_0 h2)
              obtain ⟨g_88, eg_88⟩ : ∃ z : Nat → Int, z = bq_fc rg := ⟨_, rfl⟩
              rw [← eg_88] at hs_87
              have E_89 : bq_hc tx rg = g_88 := by unfold bq_hc; rw [if_pos (by omega), EH, if_neg (by first | omega | (have H0 : x_4.toInt = 0 := (by rw [← EH, hs_end (by omega)]); omega)), ← eg_88]
              exact hQ _ _ _ _ _ hw (⟨(eR.trans (eR_Y hM_85 (bk_q (z := 0) (by decide) (by decide))) (eR_fI fi_31 q_30)), (by rw [E_89]; exact hs_87), (by rw [E_89, eg_88]; exact qV_same (qV_rows hV (fun k i _ => cg (tY_fr ((q_30) : M_28.2.1 = M.2.1)) i) (by omega)) (tY_nE hM_85 (nk (by decide))) (by omega) (fun _ _ => fc_lt (by omega)) (fun _ _ => fc_lt (by omega))), iM_85, (rq.trans (rq_qw (qw_Y hM_85 (by decide))) (rq_qw q_29)), (mC_qw (qw.trans (qw_Y hM_85 (by decide)) q_29) hC), (((tY_nE hM_85 (nk (by decide))).trans (tY_fr q_30)))⟩) dX10_coughing_103
            · refine lv_aload_n hx hb dX10_coughing_80 rfl (lv_at hl 2 rfl) ?_
              refine lv_iload_n hx hb dX10_coughing_81 rfl (lv_at hl 3 rfl) ?_
              refine ti_callVi (ci := 10) (av := [.int 0]) C hw (z_X10_isGuarded_0 l D A cy hJ M_28 iM_28 tx rg (tR_lw htr (eR_lw (q := 0) (eR_fI fi_31 q_30))) ht4 hs_32 hwf htW) ⟨ml_X10_374, ym_X10_isGuarded, yv_X10_isGuarded, yi_X10_isGuarded, yc_X10_isGuarded⟩ yd_X10_isGuarded ob_60 (by decide) rfl rfl hl.1 (Nat.le_of_ble_eq_true rfl) ⟨by decide, by decide⟩ ⟨Nat.zero_le _, Nat.zero_le _⟩ dX10_coughing_82 (fun r_41 M_42 H locs hp_42 hw => ?_)
              obtain ⟨hm9, hz9⟩ := hp_42
              have hw := hw.to hm9
              rcases hz9 with ⟨rfl, dg_43⟩ | ⟨rfl, dg_43⟩
              · refine sb_if_ne (tgt := 96) hx hb (by decide : (1 : Int32).toInt = 1) dX10_coughing_85 (by decide) (fun c_85_43 => ?_) (fun h => absurd h (by decide))
                refine lv_aload_n hx hb dX10_coughing_96 rfl (lv_at hl 2 rfl) ?_
                refine ti_get (ci := 10) (k := 37) (N := 67) (T := TX10) (v := .ref (A 60 38)) C hw iw_10 rfl ob_60 (by decide) (by decide) fl_X10_78 rfl rfl dX10_coughing_97 ?_
                refine lv_iload_n hx hb dX10_coughing_100 rfl (lv_at hl 3 rfl) ?_
                refine lv_iconst (v := 0) hx hb dX10_coughing_101 (by decide) ?_
                refine ti_iast (ci := 10) (k := 37) (n := 23) C hw ob_60 (by decide) (fun _ _ => rfl) (by unfold vp_in; decide) dX10_coughing_102 (fun H locs hw => ?_)
                obtain ⟨M_95, hM_95⟩ : ∃ z : ti_M, z = uY M_28 60 37 (upd (tY M_28 60 37) (0 : Int32).toNatClampNeg 0) := ⟨_, rfl⟩
                have hw := hw.to hM_95.symm
                have iM_95 : mI Tm M_95 := mI_up (i := 0) iM_28 hM_95 trivial
                have hs_97 : qR (tx 4).toNat 0 (bq_fc rg) M_95 := qR_37 (z := 0) hs_32 (by decide) rfl hM_95 (by omega) (fun j hj => fc_lt hj) (fun _ m2 h2 => fc_0 h2)
                obtain ⟨g_98, eg_98⟩ : ∃ z : Nat → Int, z = bq_fc rg := ⟨_, rfl⟩
                rw [← eg_98] at hs_97
                have E_99 : bq_hc tx rg = g_98 := by unfold bq_hc; rw [if_pos (by omega), EH, if_neg (by first | omega | (have H0 : x_4.toInt = 0 := (by rw [← EH, hs_end (by omega)]); omega)), ← eg_98]
                exact hQ _ _ _ _ _ hw (⟨(eR.trans (eR_Y hM_95 (bk_q (z := 0) (by decide) (by decide))) (eR_fI fi_31 q_30)), (by rw [E_99]; exact hs_97), (by rw [E_99, eg_98]; exact qV_same (qV_rows hV (fun k i _ => cg (tY_fr ((q_30) : M_28.2.1 = M.2.1)) i) (by omega)) (tY_nE hM_95 (nk (by decide))) (by omega) (fun _ _ => fc_lt (by omega)) (fun _ _ => fc_lt (by omega))), iM_95, (rq.trans (rq_qw (qw_Y hM_95 (by decide))) (rq_qw q_29)), (mC_qw (qw.trans (qw_Y hM_95 (by decide)) q_29) hC), (((tY_nE hM_95 (nk (by decide))).trans (tY_fr q_30)))⟩) dX10_coughing_103
              · refine sb_if_ne (tgt := 96) hx hb (by decide : (0 : Int32).toInt = 0) dX10_coughing_85 (by decide) (fun h => absurd h (by decide)) (fun c_85_44 => ?_)
                refine lv_aload_n hx hb dX10_coughing_88 rfl (lv_at hl 2 rfl) ?_
                refine lv_iload_n hx hb dX10_coughing_89 rfl (lv_at hl 3 rfl) ?_
                refine lv_iconst (v := 0) hx hb dX10_coughing_90 (by decide) ?_
                refine lv_iconst (v := 3) hx hb dX10_coughing_91 (by decide) ?_
                refine lv_iload_n hx hb dX10_coughing_92 rfl (lv_at hl 4 rfl) ?_
                have lk_53 : (tY M_28 60 38 0).toInt = (tY M 60 38 0).toInt := by rw [(cg (tY_fr q_30) 0)]
                refine ti_callVv (ci := 10) (av := [.int 0, .int 0, .int 3, .int t]) C hw (z_X10_leaves_0 l D A cy hJ M_28 iM_28 (mC_qw q_29 hC) 0 3 t (by first | omega | decide | (have l0 : (0 : Int32).toInt = 0 := (by decide); have l2 : (2 : Int32).toInt = 2 := (by decide); have l3 : (3 : Int32).toInt = 3 := (by decide); omega)) (by first | omega | decide | (have l0 : (0 : Int32).toInt = 0 := (by decide); have l2 : (2 : Int32).toInt = 2 := (by decide); have l3 : (3 : Int32).toInt = 3 := (by decide); omega)) (by first | omega | decide | (have l0 : (0 : Int32).toInt = 0 := (by decide); have l2 : (2 : Int32).toInt = 2 := (by decide); have l3 : (3 : Int32).toInt = 3 := (by decide); omega)) tx rg (tR_lw htr (eR_lw (q := 0) (eR_fI fi_31 q_30))) ht4 hs_32 (qV_rows hV (fun k i _ => cg (tY_fr ((q_30) : M_28.2.1 = M.2.1)) i) (by omega)) hwf (by omega)) ⟨ml_X10_377, ym_X10_leaves, yv_X10_leaves, yi_X10_leaves, yc_X10_leaves⟩ yd_X10_leaves ob_60 (by decide) rfl rfl hl.1 (Nat.le_of_ble_eq_true rfl) ⟨by decide, by decide⟩ ⟨Nat.zero_le _, Nat.zero_le _⟩ dX10_coughing_93 (fun M_52 H locs hp_52 hw => ?_)
                obtain ⟨erM_52, hrM_52, qvM_52, hqM_52⟩ := hp_52
                obtain ⟨iM_52, q_54, q_55, q_56, p0r_51⟩ := hqM_52
                simp only [show (0 : Int32).toInt = 0 by decide] at hrM_52 qvM_52
                simp only [show (3 : Int32).toInt = 3 by decide] at hrM_52 qvM_52
                obtain ⟨g_57, eg_57⟩ : ∃ z : Nat → Int, z = bq_rm rg 0 3 := ⟨_, rfl⟩
                rw [← eg_57] at hrM_52
                rw [← eg_57] at qvM_52
                refine lv_aload_n hx hb dX10_coughing_96 rfl (lv_at hl 2 rfl) ?_
                refine ti_get (ci := 10) (k := 37) (N := 67) (T := TX10) (v := .ref (A 60 38)) C hw iw_10 rfl ob_60 (by decide) (by decide) fl_X10_78 rfl rfl dX10_coughing_97 ?_
                refine lv_iload_n hx hb dX10_coughing_100 rfl (lv_at hl 3 rfl) ?_
                refine lv_iconst (v := 0) hx hb dX10_coughing_101 (by decide) ?_
                refine ti_iast (ci := 10) (k := 37) (n := 23) C hw ob_60 (by decide) (fun _ _ => rfl) (by unfold vp_in; decide) dX10_coughing_102 (fun H locs hw => ?_)
                obtain ⟨M_105, hM_105⟩ : ∃ z : ti_M, z = uY M_52 60 37 (upd (tY M_52 60 37) (0 : Int32).toNatClampNeg 0) := ⟨_, rfl⟩
                have hw := hw.to hM_105.symm
                have iM_105 : mI Tm M_105 := mI_up (i := 0) iM_52 hM_105 trivial
                have hs_107 : qR (tx 4).toNat 0 (bq_fc g_57) M_105 := qR_37 (z := 0) hrM_52 (by decide) rfl hM_105 (by omega) (fun j hj => fc_lt hj) (fun _ m2 h2 => fc_0 h2)
                obtain ⟨g_108, eg_108⟩ : ∃ z : Nat → Int, z = bq_fc g_57 := ⟨_, rfl⟩
                rw [← eg_108] at hs_107
                have E_109 : bq_hc tx rg = g_108 := by unfold bq_hc; rw [if_pos (by omega), EH, if_pos (by omega), ← eg_57, ← eg_108]
                exact hQ _ _ _ _ _ hw (⟨(eR.trans (eR_Y hM_105 (bk_q (z := 0) (by decide) (by decide))) (eR.trans erM_52 (eR_fI fi_31 q_30))), (by rw [E_109]; exact hs_107), (by rw [E_109, eg_108]; exact qV_same qvM_52 (tY_nE hM_105 (nk (by decide))) (by omega) (fun _ _ => fc_lt (by omega)) (fun _ _ => fc_lt (by omega))), iM_105, (rq.trans (rq_qw (qw_Y hM_105 (by decide))) (rq.trans q_54 (rq_qw q_29))), (mC_qw (qw_Y hM_105 (by decide)) q_55), (((tY_nE hM_105 (nk (by decide))).trans ((q_56).trans (tY_fr q_30))))⟩) dX10_coughing_103
      · refine lv_iload hx hb dX10_coughing_16 (lv_at hl 0 rfl) ?_
        refine lv_aload_n hx hb dX10_coughing_18 rfl (lv_at hl 2 rfl) ?_
        refine ti_get (ci := 10) (k := 3) (N := 67) (T := TX10) (v := .ref (A 60 4)) C hw iw_10 rfl ob_60 (by decide) (by decide) fl_X10_13 rfl rfl dX10_coughing_19 ?_
        refine lv_iconst (v := 4) hx hb dX10_coughing_22 (by decide) ?_
        refine ti_iald (ci := 10) (k := 3) (n := 22) C hw ob_60 (by decide) (fun _ _ => rfl) (by unfold vp_in; decide) dX10_coughing_23 ?_
        refine lv_topi (fun x_10 ex_10 => ?_)
        have yx_10 : tY M 60 3 4 = x_10 := ((congrArg _ (by decide)).symm.trans ex_10.symm)
        have zx_10 : (tY M 60 3 4).toInt = x_10.toInt := by rw [yx_10]
        have L_11 : tx 9 = x_10.toInt := (htr.1.2.2.2.2.1).trans ((congrArg Int32.toInt (cg rfl 4)).symm.trans (congrArg Int32.toInt (yx_10)))
        refine sb_icmp_gt (tgt := 57) hx hb rfl rfl dX10_coughing_24 (by decide) (fun c_24_11 => ?_) (fun c_24_11 => ?_)
        · have EH : bq_hs rg (bq_lh tx rg).toNat 1 0 = x_4.toInt := by rw [← j_5, hs_end (by omega)]
          refine lv_aload_n hx hb dX10_coughing_57 rfl (lv_at hl 2 rfl) ?_
          refine ti_get (ci := 10) (k := 38) (N := 67) (T := TX10) (v := .ref (A 60 39)) C hw iw_10 rfl ob_60 (by decide) (by decide) fl_X10_81 rfl rfl dX10_coughing_58 ?_
          refine lv_iload_n hx hb dX10_coughing_61 rfl (lv_at hl 3 rfl) ?_
          refine ti_iald (ci := 10) (k := 38) (n := 23) C hw ob_60 (by decide) (fun _ _ => rfl) (by unfold vp_in; decide) dX10_coughing_62 ?_
          refine ti_top (y := x_7) ((congrArg _ (by decide)).trans (yx_7)) ?_
          have L_23 : rg 3 = x_7.toInt := (hr.1.2.1).trans (congrArg Int32.toInt (yx_7))
          refine sb_if_le (tgt := 96) hx hb rfl dX10_coughing_63 (by decide) (fun c_63_23 => ?_) (fun c_63_23 => ?_)
          · refine lv_aload_n hx hb dX10_coughing_96 rfl (lv_at hl 2 rfl) ?_
            refine ti_get (ci := 10) (k := 37) (N := 67) (T := TX10) (v := .ref (A 60 38)) C hw iw_10 rfl ob_60 (by decide) (by decide) fl_X10_78 rfl rfl dX10_coughing_97 ?_
            refine lv_iload_n hx hb dX10_coughing_100 rfl (lv_at hl 3 rfl) ?_
            refine lv_iconst (v := 0) hx hb dX10_coughing_101 (by decide) ?_
            refine ti_iast (ci := 10) (k := 37) (n := 23) C hw ob_60 (by decide) (fun _ _ => rfl) (by unfold vp_in; decide) dX10_coughing_102 (fun H locs hw => ?_)
            obtain ⟨M_70, hM_70⟩ : ∃ z : ti_M, z = uY M 60 37 (upd (tY M 60 37) (0 : Int32).toNatClampNeg 0) := ⟨_, rfl⟩
            have hw := hw.to hM_70.symm
            have iM_70 : mI Tm M_70 := mI_up (i := 0) hI hM_70 trivial
            have hs_72 : qR (tx 4).toNat 0 (bq_fc rg) M_70 := qR_37 (z := 0) hr (by decide) rfl hM_70 (by omega) (fun j hj => fc_lt hj) (fun _ m2 h2 => fc_0 h2)
            obtain ⟨g_73, eg_73⟩ : ∃ z : Nat → Int, z = bq_fc rg := ⟨_, rfl⟩
            rw [← eg_73] at hs_72
            have E_74 : bq_hc tx rg = g_73 := by unfold bq_hc; rw [if_pos (by omega), EH, if_neg (by first | omega | (have H0 : x_4.toInt = 0 := (by rw [← EH, hs_end (by omega)]); omega)), ← eg_73]
            exact hQ _ _ _ _ _ hw (⟨(eR_Y hM_70 (bk_q (z := 0) (by decide) (by decide))), (by rw [E_74]; exact hs_72), (by rw [E_74, eg_73]; exact qV_same hV (tY_nE hM_70 (nk (by decide))) (by omega) (fun _ _ => fc_lt (by omega)) (fun _ _ => fc_lt (by omega))), iM_70, (rq_qw (qw_Y hM_70 (by decide))), (mC_qw (qw_Y hM_70 (by decide)) hC), ((tY_nE hM_70 (nk (by decide))))⟩) dX10_coughing_103
          · refine lv_iload_n hx hb dX10_coughing_66 rfl (lv_at hl 1 rfl) ?_
            refine sb_if_le (tgt := 96) hx hb rfl dX10_coughing_67 (by decide) (fun c_67_25 => ?_) (fun c_67_25 => ?_)
            · refine lv_aload_n hx hb dX10_coughing_96 rfl (lv_at hl 2 rfl) ?_
              refine ti_get (ci := 10) (k := 37) (N := 67) (T := TX10) (v := .ref (A 60 38)) C hw iw_10 rfl ob_60 (by decide) (by decide) fl_X10_78 rfl rfl dX10_coughing_97 ?_
              refine lv_iload_n hx hb dX10_coughing_100 rfl (lv_at hl 3 rfl) ?_
              refine lv_iconst (v := 0) hx hb dX10_coughing_101 (by decide) ?_
              refine ti_iast (ci := 10) (k := 37) (n := 23) C hw ob_60 (by decide) (fun _ _ => rfl) (by unfold vp_in; decide) dX10_coughing_102 (fun H locs hw => ?_)
              obtain ⟨M_80, hM_80⟩ : ∃ z : ti_M, z = uY M 60 37 (upd (tY M 60 37) (0 : Int32).toNatClampNeg 0) := ⟨_, rfl⟩
              have hw := hw.to hM_80.symm
              have iM_80 : mI Tm M_80 := mI_up (i := 0) hI hM_80 trivial
              have hs_82 : qR (tx 4).toNat 0 (bq_fc rg) M_80 := qR_37 (z := 0) hr (by decide) rfl hM_80 (by omega) (fun j hj => fc_lt hj) (fun _ m2 h2 => fc_0 h2)
              obtain ⟨g_83, eg_83⟩ : ∃ z : Nat → Int, z = bq_fc rg := ⟨_, rfl⟩
              rw [← eg_83] at hs_82
              have E_84 : bq_hc tx rg = g_83 := by unfold bq_hc; rw [if_pos (by omega), EH, if_neg (by first | omega | (have H0 : x_4.toInt = 0 := (by rw [← EH, hs_end (by omega)]); omega)), ← eg_83]
              exact hQ _ _ _ _ _ hw (⟨(eR_Y hM_80 (bk_q (z := 0) (by decide) (by decide))), (by rw [E_84]; exact hs_82), (by rw [E_84, eg_83]; exact qV_same hV (tY_nE hM_80 (nk (by decide))) (by omega) (fun _ _ => fc_lt (by omega)) (fun _ _ => fc_lt (by omega))), iM_80, (rq_qw (qw_Y hM_80 (by decide))), (mC_qw (qw_Y hM_80 (by decide)) hC), ((tY_nE hM_80 (nk (by decide))))⟩) dX10_coughing_103
            · refine lv_iload_n hx hb dX10_coughing_70 rfl (lv_at hl 1 rfl) ?_
              refine lv_aload_n hx hb dX10_coughing_71 rfl (lv_at hl 2 rfl) ?_
              refine lv_iload_n hx hb dX10_coughing_72 rfl (lv_at hl 3 rfl) ?_
              refine lv_iload_n hx hb dX10_coughing_73 rfl (lv_at hl 4 rfl) ?_
              refine ti_callVi (ci := 10) (av := [.int 0, .int t]) C hw (z_X10_needOf_0 l D A cy hJ M hI hL t tx rg htr ht4 hr hwf (by omega) (by omega)) ⟨ml_X10_371, ym_X10_needOf, yv_X10_needOf, yi_X10_needOf, yc_X10_needOf⟩ yd_X10_needOf ob_60 (by decide) rfl rfl hl.1 (Nat.le_of_ble_eq_true rfl) ⟨by decide, by decide⟩ ⟨Nat.zero_le _, Nat.zero_le _⟩ dX10_coughing_74 (fun r_34 M_35 H locs hp_35 hw => ?_)
              obtain ⟨fi_38, pr_34, iM_35, q_36, q_37⟩ := hp_35
              have hs_39 : qR (tx 4).toNat 0 rg M_35 := qR_of hr q_37
              refine sb_icmp_lt (tgt := 96) hx hb rfl rfl dX10_coughing_77 (by decide) (fun c_77_39 => ?_) (fun c_77_39 => ?_)
              · refine lv_aload_n hx hb dX10_coughing_96 rfl (lv_at hl 2 rfl) ?_
                refine ti_get (ci := 10) (k := 37) (N := 67) (T := TX10) (v := .ref (A 60 38)) C hw iw_10 rfl ob_60 (by decide) (by decide) fl_X10_78 rfl rfl dX10_coughing_97 ?_
                refine lv_iload_n hx hb dX10_coughing_100 rfl (lv_at hl 3 rfl) ?_
                refine lv_iconst (v := 0) hx hb dX10_coughing_101 (by decide) ?_
                refine ti_iast (ci := 10) (k := 37) (n := 23) C hw ob_60 (by decide) (fun _ _ => rfl) (by unfold vp_in; decide) dX10_coughing_102 (fun H locs hw => ?_)
                obtain ⟨M_90, hM_90⟩ : ∃ z : ti_M, z = uY M_35 60 37 (upd (tY M_35 60 37) (0 : Int32).toNatClampNeg 0) := ⟨_, rfl⟩
                have hw := hw.to hM_90.symm
                have iM_90 : mI Tm M_90 := mI_up (i := 0) iM_35 hM_90 trivial
                have hs_92 : qR (tx 4).toNat 0 (bq_fc rg) M_90 := qR_37 (z := 0) hs_39 (by decide) rfl hM_90 (by omega) (fun j hj => fc_lt hj) (fun _ m2 h2 => fc_0 h2)
                obtain ⟨g_93, eg_93⟩ : ∃ z : Nat → Int, z = bq_fc rg := ⟨_, rfl⟩
                rw [← eg_93] at hs_92
                have E_94 : bq_hc tx rg = g_93 := by unfold bq_hc; rw [if_pos (by omega), EH, if_neg (by first | omega | (have H0 : x_4.toInt = 0 := (by rw [← EH, hs_end (by omega)]); omega)), ← eg_93]
                exact hQ _ _ _ _ _ hw (⟨(eR.trans (eR_Y hM_90 (bk_q (z := 0) (by decide) (by decide))) (eR_fI fi_38 q_37)), (by rw [E_94]; exact hs_92), (by rw [E_94, eg_93]; exact qV_same (qV_rows hV (fun k i _ => cg (tY_fr ((q_37) : M_35.2.1 = M.2.1)) i) (by omega)) (tY_nE hM_90 (nk (by decide))) (by omega) (fun _ _ => fc_lt (by omega)) (fun _ _ => fc_lt (by omega))), iM_90, (rq.trans (rq_qw (qw_Y hM_90 (by decide))) (rq_qw q_36)), (mC_qw (qw.trans (qw_Y hM_90 (by decide)) q_36) hC), (((tY_nE hM_90 (nk (by decide))).trans (tY_fr q_37)))⟩) dX10_coughing_103
              · refine lv_aload_n hx hb dX10_coughing_80 rfl (lv_at hl 2 rfl) ?_
                refine lv_iload_n hx hb dX10_coughing_81 rfl (lv_at hl 3 rfl) ?_
                refine ti_callVi (ci := 10) (av := [.int 0]) C hw (z_X10_isGuarded_0 l D A cy hJ M_35 iM_35 tx rg (tR_lw htr (eR_lw (q := 0) (eR_fI fi_38 q_37))) ht4 hs_39 hwf htW) ⟨ml_X10_374, ym_X10_isGuarded, yv_X10_isGuarded, yi_X10_isGuarded, yc_X10_isGuarded⟩ yd_X10_isGuarded ob_60 (by decide) rfl rfl hl.1 (Nat.le_of_ble_eq_true rfl) ⟨by decide, by decide⟩ ⟨Nat.zero_le _, Nat.zero_le _⟩ dX10_coughing_82 (fun r_46 M_47 H locs hp_47 hw => ?_)
                obtain ⟨hm9, hz9⟩ := hp_47
                have hw := hw.to hm9
                rcases hz9 with ⟨rfl, dg_48⟩ | ⟨rfl, dg_48⟩
                · refine sb_if_ne (tgt := 96) hx hb (by decide : (1 : Int32).toInt = 1) dX10_coughing_85 (by decide) (fun c_85_48 => ?_) (fun h => absurd h (by decide))
                  refine lv_aload_n hx hb dX10_coughing_96 rfl (lv_at hl 2 rfl) ?_
                  refine ti_get (ci := 10) (k := 37) (N := 67) (T := TX10) (v := .ref (A 60 38)) C hw iw_10 rfl ob_60 (by decide) (by decide) fl_X10_78 rfl rfl dX10_coughing_97 ?_
                  refine lv_iload_n hx hb dX10_coughing_100 rfl (lv_at hl 3 rfl) ?_
                  refine lv_iconst (v := 0) hx hb dX10_coughing_101 (by decide) ?_
                  refine ti_iast (ci := 10) (k := 37) (n := 23) C hw ob_60 (by decide) (fun _ _ => rfl) (by unfold vp_in; decide) dX10_coughing_102 (fun H locs hw => ?_)
                  obtain ⟨M_100, hM_100⟩ : ∃ z : ti_M, z = uY M_35 60 37 (upd (tY M_35 60 37) (0 : Int32).toNatClampNeg 0) := ⟨_, rfl⟩
                  have hw := hw.to hM_100.symm
                  have iM_100 : mI Tm M_100 := mI_up (i := 0) iM_35 hM_100 trivial
                  have hs_102 : qR (tx 4).toNat 0 (bq_fc rg) M_100 := qR_37 (z := 0) hs_39 (by decide) rfl hM_100 (by omega) (fun j hj => fc_lt hj) (fun _ m2 h2 => fc_0 h2)
                  obtain ⟨g_103, eg_103⟩ : ∃ z : Nat → Int, z = bq_fc rg := ⟨_, rfl⟩
                  rw [← eg_103] at hs_102
                  have E_104 : bq_hc tx rg = g_103 := by unfold bq_hc; rw [if_pos (by omega), EH, if_neg (by first | omega | (have H0 : x_4.toInt = 0 := (by rw [← EH, hs_end (by omega)]); omega)), ← eg_103]
                  exact hQ _ _ _ _ _ hw (⟨(eR.trans (eR_Y hM_100 (bk_q (z := 0) (by decide) (by decide))) (eR_fI fi_38 q_37)), (by rw [E_104]; exact hs_102), (by rw [E_104, eg_103]; exact qV_same (qV_rows hV (fun k i _ => cg (tY_fr ((q_37) : M_35.2.1 = M.2.1)) i) (by omega)) (tY_nE hM_100 (nk (by decide))) (by omega) (fun _ _ => fc_lt (by omega)) (fun _ _ => fc_lt (by omega))), iM_100, (rq.trans (rq_qw (qw_Y hM_100 (by decide))) (rq_qw q_36)), (mC_qw (qw.trans (qw_Y hM_100 (by decide)) q_36) hC), (((tY_nE hM_100 (nk (by decide))).trans (tY_fr q_37)))⟩) dX10_coughing_103
                · refine sb_if_ne (tgt := 96) hx hb (by decide : (0 : Int32).toInt = 0) dX10_coughing_85 (by decide) (fun h => absurd h (by decide)) (fun c_85_49 => ?_)
                  refine lv_aload_n hx hb dX10_coughing_88 rfl (lv_at hl 2 rfl) ?_
                  refine lv_iload_n hx hb dX10_coughing_89 rfl (lv_at hl 3 rfl) ?_
                  refine lv_iconst (v := 0) hx hb dX10_coughing_90 (by decide) ?_
                  refine lv_iconst (v := 3) hx hb dX10_coughing_91 (by decide) ?_
                  refine lv_iload_n hx hb dX10_coughing_92 rfl (lv_at hl 4 rfl) ?_
                  have lk_60 : (tY M_35 60 38 0).toInt = (tY M 60 38 0).toInt := by rw [(cg (tY_fr q_37) 0)]
                  refine ti_callVv (ci := 10) (av := [.int 0, .int 0, .int 3, .int t]) C hw (z_X10_leaves_0 l D A cy hJ M_35 iM_35 (mC_qw q_36 hC) 0 3 t (by first | omega | decide | (have l0 : (0 : Int32).toInt = 0 := (by decide); have l2 : (2 : Int32).toInt = 2 := (by decide); have l3 : (3 : Int32).toInt = 3 := (by decide); omega)) (by first | omega | decide | (have l0 : (0 : Int32).toInt = 0 := (by decide); have l2 : (2 : Int32).toInt = 2 := (by decide); have l3 : (3 : Int32).toInt = 3 := (by decide); omega)) (by first | omega | decide | (have l0 : (0 : Int32).toInt = 0 := (by decide); have l2 : (2 : Int32).toInt = 2 := (by decide); have l3 : (3 : Int32).toInt = 3 := (by decide); omega)) tx rg (tR_lw htr (eR_lw (q := 0) (eR_fI fi_38 q_37))) ht4 hs_39 (qV_rows hV (fun k i _ => cg (tY_fr ((q_37) : M_35.2.1 = M.2.1)) i) (by omega)) hwf (by omega)) ⟨ml_X10_377, ym_X10_leaves, yv_X10_leaves, yi_X10_leaves, yc_X10_leaves⟩ yd_X10_leaves ob_60 (by decide) rfl rfl hl.1 (Nat.le_of_ble_eq_true rfl) ⟨by decide, by decide⟩ ⟨Nat.zero_le _, Nat.zero_le _⟩ dX10_coughing_93 (fun M_59 H locs hp_59 hw => ?_)
                  obtain ⟨erM_59, hrM_59, qvM_59, hqM_59⟩ := hp_59
                  obtain ⟨iM_59, q_61, q_62, q_63, p0r_58⟩ := hqM_59
                  simp only [show (0 : Int32).toInt = 0 by decide] at hrM_59 qvM_59
                  simp only [show (3 : Int32).toInt = 3 by decide] at hrM_59 qvM_59
                  obtain ⟨g_64, eg_64⟩ : ∃ z : Nat → Int, z = bq_rm rg 0 3 := ⟨_, rfl⟩
                  rw [← eg_64] at hrM_59
                  rw [← eg_64] at qvM_59
                  refine lv_aload_n hx hb dX10_coughing_96 rfl (lv_at hl 2 rfl) ?_
                  refine ti_get (ci := 10) (k := 37) (N := 67) (T := TX10) (v := .ref (A 60 38)) C hw iw_10 rfl ob_60 (by decide) (by decide) fl_X10_78 rfl rfl dX10_coughing_97 ?_
                  refine lv_iload_n hx hb dX10_coughing_100 rfl (lv_at hl 3 rfl) ?_
                  refine lv_iconst (v := 0) hx hb dX10_coughing_101 (by decide) ?_
                  refine ti_iast (ci := 10) (k := 37) (n := 23) C hw ob_60 (by decide) (fun _ _ => rfl) (by unfold vp_in; decide) dX10_coughing_102 (fun H locs hw => ?_)
                  obtain ⟨M_110, hM_110⟩ : ∃ z : ti_M, z = uY M_59 60 37 (upd (tY M_59 60 37) (0 : Int32).toNatClampNeg 0) := ⟨_, rfl⟩
                  have hw := hw.to hM_110.symm
                  have iM_110 : mI Tm M_110 := mI_up (i := 0) iM_59 hM_110 trivial
                  have hs_112 : qR (tx 4).toNat 0 (bq_fc g_64) M_110 := qR_37 (z := 0) hrM_59 (by decide) rfl hM_110 (by omega) (fun j hj => fc_lt hj) (fun _ m2 h2 => fc_0 h2)
                  obtain ⟨g_113, eg_113⟩ : ∃ z : Nat → Int, z = bq_fc g_64 := ⟨_, rfl⟩
                  rw [← eg_113] at hs_112
                  have E_114 : bq_hc tx rg = g_113 := by unfold bq_hc; rw [if_pos (by omega), EH, if_pos (by omega), ← eg_64, ← eg_113]
                  exact hQ _ _ _ _ _ hw (⟨(eR.trans (eR_Y hM_110 (bk_q (z := 0) (by decide) (by decide))) (eR.trans erM_59 (eR_fI fi_38 q_37))), (by rw [E_114]; exact hs_112), (by rw [E_114, eg_113]; exact qV_same qvM_59 (tY_nE hM_110 (nk (by decide))) (by omega) (fun _ _ => fc_lt (by omega)) (fun _ _ => fc_lt (by omega))), iM_110, (rq.trans (rq_qw (qw_Y hM_110 (by decide))) (rq.trans q_61 (rq_qw q_36))), (mC_qw (qw_Y hM_110 (by decide)) q_62), (((tY_nE hM_110 (nk (by decide))).trans ((q_63).trans (tY_fr q_37))))⟩) dX10_coughing_103
        · refine lv_iload_n hx hb dX10_coughing_27 rfl (lv_at hl 1 rfl) ?_
          refine lv_aload_n hx hb dX10_coughing_28 rfl (lv_at hl 2 rfl) ?_
          refine ti_get (ci := 10) (k := 37) (N := 67) (T := TX10) (v := .ref (A 60 38)) C hw iw_10 rfl ob_60 (by decide) (by decide) fl_X10_78 rfl rfl dX10_coughing_29 ?_
          refine lv_iload_n hx hb dX10_coughing_32 rfl (lv_at hl 3 rfl) ?_
          refine ti_iald (ci := 10) (k := 37) (n := 23) C hw ob_60 (by decide) (fun _ _ => rfl) (by unfold vp_in; decide) dX10_coughing_33 ?_
          refine lv_topi (fun x_13 ex_13 => ?_)
          have yx_13 : tY M 60 37 0 = x_13 := ((congrArg _ (by decide)).symm.trans ex_13.symm)
          refine lv_aload_n hx hb dX10_coughing_34 rfl (lv_at hl 2 rfl) ?_
          refine ti_get (ci := 10) (k := 39) (N := 67) (T := TX10) (v := .ref (A 60 40)) C hw iw_10 rfl ob_60 (by decide) (by decide) fl_X10_84 rfl rfl dX10_coughing_35 ?_
          refine lv_bipush (v := 8) hx hb dX10_coughing_38 (by decide) ?_
          refine lv_iload_n hx hb dX10_coughing_40 rfl (lv_at hl 3 rfl) ?_
          refine lv_imul hx hb dX10_coughing_41 ?_
          refine ti_top (y := 0) (by decide) ?_
          refine lv_iload hx hb dX10_coughing_42 (lv_at hl 0 rfl) ?_
          refine lv_iadd hx hb dX10_coughing_44 ?_
          refine lv_topi (fun x_14 ex_14 => ?_)
          have tx_14 : x_14.toInt = 0 + x_1.toInt := i_add ex_14 (by decide : (0 : Int32).toInt = 0) rfl (by omega) (by omega)
          refine ti_iald (ci := 10) (k := 39) (n := 184) C hw ob_60 (by decide) (fun _ _ => rfl) (vp_in_iff.mpr (by omega)) dX10_coughing_45 ?_
          refine lv_topi (fun x_15 ex_15 => ?_)
          have yx_15 : tY M 60 39 x_14.toNatClampNeg = x_15 := (ex_15.symm)
          have bx_15 : 0 ≤ x_15.toInt ∧ x_15.toInt ≤ 7 := mI_ry (k := 39) (i := x_14.toNatClampNeg) hI yx_15.symm
          have L_16 : rg (96 + x_1.toInt.toNat) = x_15.toInt := (hr.2.1 (x_1.toInt.toNat) (by omega) (by omega)).trans (rd_k (n := 8 * 0 + x_1.toInt.toNat) (by omega) (yx_15))
          have AM := hwf.2.2.1 x_1.toInt.toNat (by omega)
          rw [L_16] at AM
          refine lv_ishr hx hb dX10_coughing_46 ?_
          refine lv_topi (fun x_17 ex_17 => ?_)
          refine lv_iconst (v := 1) hx hb dX10_coughing_47 (by decide) ?_
          refine lv_iand hx hb dX10_coughing_48 ?_
          refine lv_topi (fun x_18 ex_18 => ?_)
          have bx_18 := i_and 1 ex_18 (by decide) (by decide)
          have BT : x_18.toInt = pp_bt (tY M 60 37 0) x_15.toInt.toNat := by rw [(yx_13)]; exact bt_shr (k := x_15.toInt) ex_17 rfl (by omega) (by omega) ex_18
          have BB : 0 ≤ x_18.toInt ∧ x_18.toInt ≤ 1 := by have := bt_01 (tY M 60 37 0) x_15.toInt.toNat; omega
          refine lv_iadd hx hb dX10_coughing_49 ?_
          refine lv_topi (fun x_19 ex_19 => ?_)
          have tx_19 : x_19.toInt = bw (x_4.toInt + x_18.toInt) := bw_add ex_19 rfl rfl
          refine lv_istore_n (lv' := [(3, .int x_19), (4, .int x_1), (0, .ref (A 60 0)), (1, .int 0), (2, .int t)]) hx hb dX10_coughing_50 rfl hl (by decide) rfl (fun ls hl => ?_)
          obtain ⟨x_20, ex_20⟩ : ∃ z : Int32, z = x_1 + 1 := ⟨_, rfl⟩
          have tx_20 : x_20.toInt = x_1.toInt + 1 := i_add ex_20 rfl (by decide) (by omega) (by omega)
          refine lv_iinc (v := x_20) (lv' := [(4, .int x_20), (3, .int x_19), (0, .ref (A 60 0)), (1, .int 0), (2, .int t)]) hx hb dX10_coughing_51 hl (k := 1) rfl (by rw [ex_20]; rfl) (by decide) rfl (fun ls hl => ?_)
          refine lv_goto (tgt := 5) hx hb dX10_coughing_54 (by decide) ?_
          exact ih_6 x_20 x_19 _ _ _ (by omega) (by first | omega | decide) (by first | omega | decide) (by rw [← j_5, hs_go (s := rg) (f := (bq_lh tx rg + 1 - x_1.toInt).toNat) (f' := (bq_lh tx rg + 1 - x_20.toInt).toNat) (p := x_1.toInt.toNat) (h := x_4.toInt) (by omega), L_16, G0 x_15.toInt.toNat (by omega), ← BT, ← tx_19, show x_20.toInt.toNat = x_1.toInt.toNat + 1 by omega]) hw (lv_sub hl [0, 1, 2, 3, 4] rfl)
  exact hl_5_5 ((8 - 1 : Int).toNat + 1) 1 0 _ _ _ (Nat.lt_succ_self _) (by have lt0 : (0 : Int32).toInt = 0 := (by decide); have lt1 : (1 : Int32).toInt = 1 := (by decide); first | omega | decide) (by have lt0 : (0 : Int32).toInt = 0 := (by decide); have lt1 : (1 : Int32).toInt = 1 := (by decide); first | omega | decide) (by rw [show (1 : Int32).toInt = 1 by decide, show (0 : Int32).toInt = 0 by decide, show bq_lh tx rg + 1 - 1 = bq_lh tx rg by omega]; rfl) hw (lv_sub hl [0, 1, 2, 3, 4] rfl)
end
section
variable {Tc : gC} {Tm : gM}
variable {Tc : gC} {Tm : gM}
section
theorem bw_i (x : Int32) : bw x.toInt = x.toInt := bw_id (Int32.le_toInt x) (by have := Int32.toInt_lt x; omega)
variable {tx s : Nat → Int} {j : Nat}
theorem pr_v (ht : tW tx) (h : wF tx s) (hj : (128 ≤ j ∧ j < 136) ∨ (224 ≤ j ∧ j < 232)) : bq_pr tx s j = s j := by
  unfold bq_pr
  split
  · rfl
  · rename_i c
    have h3 := wF_8 h
    have x : 0 ≤ s 96 ∧ s 96 < tx 4 ∧ s (128 + (s 96).toNat) = 1 := h.2.2.1 0 (by omega)
    have ht4 := ht.1
    rw [su_n (by omega), su_n (by omega)]
theorem l1_v (ht : tW tx) (h : wF tx s) {t : Int} {p : Nat} (h0 : 0 ≤ t) (h1 : t < tx 4) (hp : (p : Int) < s 3) (hj : (128 ≤ j ∧ j < 136) ∨ (224 ≤ j ∧ j < 232)) : bq_l1 tx s t p j = s j := by
  have ht4 := ht.1
  have x := h.2.2.1 p hp
  unfold bq_l1 bq_py
  split
  · rfl
  · rw [su_n (by omega), su_n (by omega)]
theorem lf_v (ht : tW tx) {t : Int} (h0 : 0 ≤ t) (h1 : t < tx 4) (hj : (128 ≤ j ∧ j < 136) ∨ (224 ≤ j ∧ j < 232)) : ∀ (f p : Nat) (s : Nat → Int), (p + f : Int) ≤ s 3 → wF tx s → bq_lf tx t f p s j = s j := by
  intro f
  induction f with
  | zero => intro p s _ h; rfl
  | succ f ih =>
    intro p s hp h
    rw [bq_lf, ih (p + 1) _ (by rw [l1_k (by decide)]; omega) (wF_l1 ht h h0 h1 (by omega)), l1_v ht h h0 h1 (by omega) hj]
theorem ly_v (ht : tW tx) (h : wF tx s) (hj : (128 ≤ j ∧ j < 136) ∨ (224 ≤ j ∧ j < 232)) : bq_ly tx s j = s j := by
  unfold bq_ly
  split
  · rfl
  · rename_i c
    have h8 := wF_8 h
    have k : 0 ≤ s 114 ∧ s 114 < s 3 := by
      by_cases q : 0 ≤ s 114 ∧ s 114 < s 3
      · exact q
      · exact absurd (Or.inl (by unfold bq_ma; rw [if_neg q]; decide)) c
    have x := h.2.2.1 (s 114).toNat (by omega)
    have e : bq_ma s (s 114) = s (96 + (s 114).toNat) := by unfold bq_ma; rw [if_pos k]
    rw [e]
    exact lf_v ht x.1 x.2.1 hj _ _ _ (by omega) h
theorem w1_v (ht : tW tx) (h : wF tx s) {p : Nat} (hp : (p : Int) < s 3) (hj : (128 ≤ j ∧ j < 136) ∨ (224 ≤ j ∧ j < 232)) : bq_w1 tx s p j = s j := by
  have ht4 := ht.1
  have x := h.2.2.1 p hp
  unfold bq_w1
  split
  · rw [su_n (by omega)]
  · split
    · rw [su_n (by omega)]
    · rfl
theorem wr_v (ht : tW tx) (h : wF tx s) (hj : (128 ≤ j ∧ j < 136) ∨ (224 ≤ j ∧ j < 232)) : bq_wr tx s j = s j := by
  have key : ∀ (f p : Nat) (s : Nat → Int), (p + f : Int) ≤ s 3 → wF tx s → bq_wf tx f p s j = s j := by
    intro f
    induction f with
    | zero => intro p s _ h; rfl
    | succ f ih =>
      intro p s hp h
      rw [bq_wf, ih (p + 1) _ (by rw [w1_k (by decide)]; omega) (wF_w1 ht h (by omega)), w1_v ht h (by omega) hj]
  exact key _ _ _ (by have := wF_8 h; omega) h
theorem wF_dr (ht : tW tx) (h : wF tx s) : wF tx (pp_su s 5 (bq_dr (s 5))) := by
  have hd : 0 ≤ bq_dr (s 5) := by unfold bq_dr; omega
  have D := h.2.2.2.2.2
  refine wF_of ht h (su_n (by omega)) (by rw [su_n (by omega)]; exact h.2.1.1) (by rw [su_s]; exact hd) (fun p hp => su_n (by omega)) (fun m hm => su_n (by omega)) ⟨fun m hm => ?_, fun m hm hl => ?_, fun j hj => ?_⟩
  · rw [su_n (by omega), su_n (by omega), su_n (by omega)]; exact D.1 m hm
  · rw [su_n (by omega)]; exact D.2.1 m hm hl
  · rw [su_n (by omega)]; exact D.2.2 j hj
end
set_option maxHeartbeats 4000000 in
set_option maxRecDepth 100000 in
theorem z_X10_passes_0 (l : Launch) (D : va_G) (A : Nat → Nat → Nat) (cy : Nat → ClassId) (hJ : ti_inj ti_LM A) (M : ti_M) (hI : mI Tm M) (hC : mC M 0) (hL : mL M) (mu : Int32) (h34 : (tY M 60 34 0).toInt ≤ 119) (tx rg : Nat → Int) (htr : tR tx M) (ht4 : 0 ≤ tx 4 ∧ tx 4 ≤ 8) (hr : qR (tx 4).toNat 0 rg M) (hV : qV (tx 4).toNat 0 rg M) (hwf : wF tx rg) (htw : tI M 60 53 = -1) (htW : tW tx) (h1 : rg 1 = 0) (hmu : mu.toInt ≠ 0) (h2 : 0 ≤ rg 2) : ti_Kv l yX10_passes cX10_passes 5 6 ti_LM D A cy M [.ref (A 60 0), .int 0, .int mu] (fun M2 => eR 0 M2 M ∧ qR (tx 4).toNat 0 (bq_ps tx rg) M2 ∧ qV (tx 4).toNat 0 (bq_ps tx rg) M2 ∧ mI Tm M2 ∧ rq 0 M2 M ∧ mC M2 0 ∧ (tY M2 60 34 0).toInt = (tY M 60 34 0).toInt + 1) := by
  refine ti_eV yp_X10_passes hJ ti_LM_nd (Nat.le_of_ble_eq_true rfl) ?_
  intro p e s m args below meth c Q H0 C hQ hw ls hl
  have hx := C.1
  have hb := C.2.1
  have hl : lv_has ls 5 [(0, .ref (A 60 0)), (1, .int 0), (2, .int mu)] := hl
  have h5 := hwf.2.1.2
  have ht10 := htW.2.2.2.2.2.1
  refine lv_aload_n hx hb dX10_passes_0 rfl (lv_at hl 0 rfl) ?_
  refine ti_get (ci := 10) (k := 34) (N := 67) (T := TX10) (v := .ref (A 60 35)) C hw iw_10 rfl ob_60 (by decide) (by decide) fl_X10_69 rfl rfl dX10_passes_1 ?_
  refine lv_iload_n hx hb dX10_passes_4 rfl (lv_at hl 1 rfl) ?_
  refine ti_iald (ci := 10) (k := 34) (n := 23) C hw ob_60 (by decide) (fun _ _ => rfl) (by unfold vp_in; decide) dX10_passes_5 ?_
  refine lv_topi (fun x_1 ex_1 => ?_)
  have yx_1 : tY M 60 34 0 = x_1 := ((congrArg _ (by decide)).symm.trans ex_1.symm)
  have bx_1 : 0 ≤ x_1.toInt ∧ x_1.toInt ≤ 120 := mI_ry (k := 34) (i := 0) hI yx_1.symm (by decide)
  have zx_1 : (tY M 60 34 0).toInt = x_1.toInt := by rw [yx_1]
  have L_2 : rg 2 = x_1.toInt := (hr.1.1).trans (congrArg Int32.toInt (yx_1))
  refine lv_istore_n (lv' := [(3, .int x_1), (0, .ref (A 60 0)), (1, .int 0), (2, .int mu)]) hx hb dX10_passes_6 rfl hl (by decide) rfl (fun ls hl => ?_)
  refine lv_aload_n hx hb dX10_passes_7 rfl (lv_at hl 1 rfl) ?_
  refine lv_iload_n hx hb dX10_passes_8 rfl (lv_at hl 2 rfl) ?_
  refine lv_iload_n hx hb dX10_passes_9 rfl (lv_at hl 0 rfl) ?_
  refine ti_callVv (ci := 10) (av := [.int 0, .int x_1]) C hw (z_X10_arrive_0 l D A cy hJ M hI hC x_1 tx rg htr ht4 hr hV hwf htW (by omega)) ⟨ml_X10_382, ym_X10_arrive, yv_X10_arrive, yi_X10_arrive, yc_X10_arrive⟩ yd_X10_arrive ob_60 (by decide) rfl rfl hl.1 (Nat.le_of_ble_eq_true rfl) ⟨by decide, by decide⟩ ⟨Nat.zero_le _, Nat.zero_le _⟩ dX10_passes_10 (fun M_4 H locs hp_4 hw => ?_)
  obtain ⟨erM_4, hrM_4, qvM_4, hqM_4⟩ := hp_4
  obtain ⟨iM_4, q_5, q_6, q_7⟩ := hqM_4
  obtain ⟨g_8, eg_8⟩ : ∃ z : Nat → Int, z = bq_wl tx (tx 4).toNat rg := ⟨_, rfl⟩
  rw [← eg_8] at hrM_4
  have w1g_8 : g_8 1 = rg 1 := by rw [eg_8]; exact wl_k (k := 1) (by decide) _ _
  have w2g_8 : g_8 2 = rg 2 := by rw [eg_8]; exact wl_k (k := 2) (by decide) _ _
  have w5g_8 : g_8 5 = rg 5 := by rw [eg_8]; exact wl_k (k := 5) (by decide) _ _
  have wpg_8 : wF tx g_8 := by rw [eg_8]; exact wF_wl htW _ _ hwf
  rw [← eg_8] at qvM_4
  refine lv_aload_n hx hb dX10_passes_13 rfl (lv_at hl 1 rfl) ?_
  refine lv_iload_n hx hb dX10_passes_14 rfl (lv_at hl 2 rfl) ?_
  refine lv_iload_n hx hb dX10_passes_15 rfl (lv_at hl 0 rfl) ?_
  refine ti_callVv (ci := 10) (av := [.int 0, .int x_1]) C hw (z_X10_coughing_0 l D A cy hJ M_4 iM_4 q_6 (mL_lw (lk_of q_5.1 q_5.2.1).1 hL) x_1 tx g_8 (tR_lw htr (eR_lw (q := 0) erM_4)) ht4 hrM_4 qvM_4 wpg_8 htW (by omega) (by omega)) ⟨ml_X10_385, ym_X10_coughing, yv_X10_coughing, yi_X10_coughing, yc_X10_coughing⟩ yd_X10_coughing ob_60 (by decide) rfl rfl hl.1 (Nat.le_of_ble_eq_true rfl) ⟨by decide, by decide⟩ ⟨Nat.zero_le _, Nat.zero_le _⟩ dX10_passes_16 (fun M_10 H locs hp_10 hw => ?_)
  obtain ⟨erM_10, hrM_10, qvM_10, hqM_10⟩ := hp_10
  obtain ⟨iM_10, q_11, q_12, q_13⟩ := hqM_10
  obtain ⟨g_14, eg_14⟩ : ∃ z : Nat → Int, z = bq_hc tx g_8 := ⟨_, rfl⟩
  rw [← eg_14] at hrM_10
  have w1g_14 : g_14 1 = g_8 1 := by rw [eg_14]; exact hc_k (by decide)
  have w2g_14 : g_14 2 = g_8 2 := by rw [eg_14]; exact hc_k (by decide)
  have w5g_14 : g_14 5 = g_8 5 := by rw [eg_14]; exact hc_k (by decide)
  have wpg_14 : wF tx g_14 := by rw [eg_14]; exact wF_hc htW wpg_8
  rw [← eg_14] at qvM_10
  refine lv_aload_n hx hb dX10_passes_19 rfl (lv_at hl 1 rfl) ?_
  refine lv_iload_n hx hb dX10_passes_20 rfl (lv_at hl 2 rfl) ?_
  refine ti_callVv (ci := 10) (av := [.int 0]) C hw (z_X10_pour_0 l D A cy hJ M_10 iM_10  tx g_14 (tR_lw htr (eR_lw (q := 0) (eR.trans erM_10 erM_4))) ht4 hrM_10 wpg_14 ((erM_10.1 53 (by decide)).trans ((erM_4.1 53 (by decide)).trans htw))) ⟨ml_X10_388, ym_X10_pour, yv_X10_pour, yi_X10_pour, yc_X10_pour⟩ yd_X10_pour ob_60 (by decide) rfl rfl hl.1 (Nat.le_of_ble_eq_true rfl) ⟨by decide, by decide⟩ ⟨Nat.zero_le _, Nat.zero_le _⟩ dX10_passes_21 (fun M_16 H locs hp_16 hw => ?_)
  obtain ⟨erM_16, e48M_16, hrM_16, hqM_16⟩ := hp_16
  obtain ⟨iM_16, q_17, q_18⟩ := hqM_16
  obtain ⟨g_19, eg_19⟩ : ∃ z : Nat → Int, z = bq_pr tx g_14 := ⟨_, rfl⟩
  rw [← eg_19] at hrM_16
  have w1g_19 : g_19 1 = g_14 1 := by rw [eg_19]; exact pr_k (by decide)
  have w2g_19 : g_19 2 = g_14 2 := by rw [eg_19]; exact pr_k (by decide)
  have w5g_19 : g_19 5 = g_14 5 := by rw [eg_19]; exact pr_k (by decide)
  have wpg_19 : wF tx g_19 := by rw [eg_19]; exact wF_pr htW wpg_14
  have qvM_16 : qV (tx 4).toNat 0 g_19 M_16 := qV_same qvM_10 e48M_16 (by omega) (fun m hm => by rw [eg_19]; exact pr_v htW wpg_14 (by omega)) (fun m hm => by rw [eg_19]; exact pr_v htW wpg_14 (by omega))
  refine lv_aload_n hx hb dX10_passes_24 rfl (lv_at hl 1 rfl) ?_
  refine lv_iload_n hx hb dX10_passes_25 rfl (lv_at hl 2 rfl) ?_
  refine lv_iload_n hx hb dX10_passes_26 rfl (lv_at hl 0 rfl) ?_
  refine ti_callVv (ci := 10) (av := [.int 0, .int x_1]) C hw (z_X10_levy_0 l D A cy hJ M_16 iM_16 (mL_lw (lk.trans (lk_of q_17.1 q_17.2.1) (lk.trans (lk_of q_11.1 q_11.2.1) (lk_of q_5.1 q_5.2.1))).1 hL) x_1 tx g_19 (tR_lw htr (eR_lw (q := 0) (eR.trans erM_16 (eR.trans erM_10 erM_4)))) ht4 hrM_16 wpg_19 ((erM_16.1 53 (by decide)).trans ((erM_10.1 53 (by decide)).trans ((erM_4.1 53 (by decide)).trans htw))) htW (by omega) (by omega)) ⟨ml_X10_391, ym_X10_levy, yv_X10_levy, yi_X10_levy, yc_X10_levy⟩ yd_X10_levy ob_60 (by decide) rfl rfl hl.1 (Nat.le_of_ble_eq_true rfl) ⟨by decide, by decide⟩ ⟨Nat.zero_le _, Nat.zero_le _⟩ dX10_passes_27 (fun M_21 H locs hp_21 hw => ?_)
  obtain ⟨erM_21, e48M_21, hrM_21, hqM_21⟩ := hp_21
  obtain ⟨iM_21, q_22, q_23⟩ := hqM_21
  obtain ⟨g_24, eg_24⟩ : ∃ z : Nat → Int, z = bq_ly tx g_19 := ⟨_, rfl⟩
  rw [← eg_24] at hrM_21
  have w1g_24 : g_24 1 = g_19 1 := by rw [eg_24]; exact ly_k (by decide)
  have w2g_24 : g_24 2 = g_19 2 := by rw [eg_24]; exact ly_k (by decide)
  have w5g_24 : g_24 5 = g_19 5 := by rw [eg_24]; exact ly_k (by decide)
  have wpg_24 : wF tx g_24 := by rw [eg_24]; exact wF_ly htW wpg_19
  have qvM_21 : qV (tx 4).toNat 0 g_24 M_21 := qV_same qvM_16 e48M_21 (by omega) (fun m hm => by rw [eg_24]; exact ly_v htW wpg_19 (by omega)) (fun m hm => by rw [eg_24]; exact ly_v htW wpg_19 (by omega))
  refine lv_aload_n hx hb dX10_passes_30 rfl (lv_at hl 1 rfl) ?_
  refine lv_iload_n hx hb dX10_passes_31 rfl (lv_at hl 2 rfl) ?_
  refine lv_iload_n hx hb dX10_passes_32 rfl (lv_at hl 0 rfl) ?_
  refine ti_callVv (ci := 10) (av := [.int 0, .int x_1]) C hw (z_X10_wear_0 l D A cy hJ M_21 iM_21 (mL_lw (lk.trans (lk_of q_22.1 q_22.2.1) (lk.trans (lk_of q_17.1 q_17.2.1) (lk.trans (lk_of q_11.1 q_11.2.1) (lk_of q_5.1 q_5.2.1)))).1 hL) x_1 tx g_24 (tR_lw htr (eR_lw (q := 0) (eR.trans erM_21 (eR.trans erM_16 (eR.trans erM_10 erM_4))))) ht4 hrM_21 wpg_24 ((erM_21.1 53 (by decide)).trans ((erM_16.1 53 (by decide)).trans ((erM_10.1 53 (by decide)).trans ((erM_4.1 53 (by decide)).trans htw)))) (by omega)) ⟨ml_X10_394, ym_X10_wear, yv_X10_wear, yi_X10_wear, yc_X10_wear⟩ yd_X10_wear ob_60 (by decide) rfl rfl hl.1 (Nat.le_of_ble_eq_true rfl) ⟨by decide, by decide⟩ ⟨Nat.zero_le _, Nat.zero_le _⟩ dX10_passes_33 (fun M_26 H locs hp_26 hw => ?_)
  obtain ⟨erM_26, e48M_26, hrM_26, hqM_26⟩ := hp_26
  obtain ⟨iM_26, q_27, q_28⟩ := hqM_26
  obtain ⟨g_29, eg_29⟩ : ∃ z : Nat → Int, z = bq_wr tx g_24 := ⟨_, rfl⟩
  rw [← eg_29] at hrM_26
  have w1g_29 : g_29 1 = g_24 1 := by rw [eg_29]; exact wr_k (by decide)
  have w2g_29 : g_29 2 = g_24 2 := by rw [eg_29]; exact wr_k (by decide)
  have w5g_29 : g_29 5 = g_24 5 := by rw [eg_29]; exact wr_k (by decide)
  have wpg_29 : wF tx g_29 := by rw [eg_29]; exact wF_wr htW wpg_24
  have qvM_26 : qV (tx 4).toNat 0 g_29 M_26 := qV_same qvM_21 e48M_26 (by omega) (fun m hm => by rw [eg_29]; exact wr_v htW wpg_24 (by omega)) (fun m hm => by rw [eg_29]; exact wr_v htW wpg_24 (by omega))
  have w85 := wF_8 wpg_29
  refine lv_aload_n hx hb dX10_passes_36 rfl (lv_at hl 1 rfl) ?_
  refine ti_get (ci := 10) (k := 38) (N := 67) (T := TX10) (v := .ref (A 60 39)) C hw iw_10 rfl ob_60 (by decide) (by decide) fl_X10_81 rfl rfl dX10_passes_37 ?_
  refine lv_iload_n hx hb dX10_passes_40 rfl (lv_at hl 2 rfl) ?_
  refine ti_iald (ci := 10) (k := 38) (n := 23) C hw ob_60 (by decide) (fun _ _ => rfl) (by unfold vp_in; decide) dX10_passes_41 ?_
  refine lv_topi (fun x_30 ex_30 => ?_)
  have yx_30 : tY M_26 60 38 0 = x_30 := ((congrArg _ (by decide)).symm.trans ex_30.symm)
  have bx_30 : 0 ≤ x_30.toInt ∧ x_30.toInt ≤ 8 := mI_ry (k := 38) (i := 0) iM_26 yx_30.symm
  have zx_30 : (tY M_26 60 38 0).toInt = x_30.toInt := by rw [yx_30]
  have wx_30 : tY M_10 60 38 0 = x_30 := (((cg q_27.2.2.1 0).trans ((cg q_22.2.2.1 0).trans (cg q_17.2.2.1 0)))).symm.trans yx_30
  have zwx_30 : (tY M_10 60 38 0).toInt = x_30.toInt := by rw [wx_30]
  have L_31 : g_29 3 = x_30.toInt := (hrM_26.1.2.1).trans (congrArg Int32.toInt ((cg q_27.2.2.1 0).trans ((cg q_22.2.2.1 0).trans ((cg q_17.2.2.1 0).trans wx_30))))
  have hl_99_73 : ∀ (n_74 : Nat) (x_56 : Int32) (M_59 : ti_M) (g_64 : Nat → Int) (H : Heap) (locs : List Loc) (ls : Array Slot), (x_56.toInt + 1 : Int).toNat < n_74 → ((-1) ≤ x_56.toInt) → (x_56.toInt ≤ 7) → (mI Tm M_59) → (rq 0 M_59 M) → (mC M_59 0) → (tY M_59 60 34 = tY M 60 34) → (eR 0 M_59 M) → (qR (tx 4).toNat 0 g_64 M_59) → (x_56.toInt < (tY M_59 60 38 0).toInt) → (bq_of (x_56.toInt).toNat g_64 = bq_rl tx g_29) → (wF tx g_64) → (qV (tx 4).toNat 0 g_64 M_59) → (g_64 1 = rg 1) → (g_64 2 = rg 2) → (g_64 5 = rg 5) → (x_56.toInt < g_64 3 ∨ x_56.toInt ≤ 0) → ti_H ti_LM D A cy H0 M_59 H locs → lv_has ls 5 [(4, .int x_56), (3, .int x_1), (0, .ref (A 60 0)), (1, .int 0), (2, .int mu)] → W p l e (ti_rm 6) s m args below meth c H locs 0 0 Q (F0 m 99 ls []) := by
    intro n_74
    induction n_74 with
    | zero => intro x_56 M_59 g_64 H locs ls hf_74; exact absurd hf_74 (Nat.not_lt_zero _)
    | succ n_74 ih_74 =>
      intro x_56 M_59 g_64 H locs ls hf_74 b_57 b_58 iM_59 f_60 f_61 f_62 f_63 hs_65 j_66 j_67 j_68 j_69 j_70 j_71 j_72 j_73 hw hl
      refine lv_iload hx hb dX10_passes_99 (lv_at hl 0 rfl) ?_
      refine lv_iconst (v := 1) hx hb dX10_passes_101 (by decide) ?_
      refine sb_icmp_lt (tgt := 145) hx hb rfl (by decide : (1 : Int32).toInt = 1) dX10_passes_102 (by decide) (fun c_102_76 => ?_) (fun c_102_76 => ?_)
      · refine lv_iload_n hx hb dX10_passes_145 rfl (lv_at hl 4 rfl) ?_
        refine sb_if_eq (tgt := 197) hx hb rfl dX10_passes_146 (by decide) (fun c_146_92 => ?_) (fun c_146_92 => ?_)
        · refine lv_aload_n hx hb dX10_passes_197 rfl (lv_at hl 2 rfl) ?_
          refine ti_get (ci := 10) (k := 34) (N := 67) (T := TX10) (v := .ref (A 60 35)) C hw iw_10 rfl ob_60 (by decide) (by decide) fl_X10_69 rfl rfl dX10_passes_198 ?_
          refine lv_iload_n hx hb dX10_passes_201 rfl (lv_at hl 3 rfl) ?_
          refine lv_dup2_11 hx hb dX10_passes_202 rfl rfl ?_
          refine ti_iald (ci := 10) (k := 34) (n := 23) C hw ob_60 (by decide) (fun _ _ => rfl) (by unfold vp_in; decide) dX10_passes_203 ?_
          refine ti_top (y := x_1) ((congrArg _ (by decide)).trans ((cg f_62 0).trans yx_1)) ?_
          have L_116 : g_64 2 = x_1.toInt := (hs_65.1.1).trans (congrArg Int32.toInt ((cg f_62 0).trans yx_1))
          refine lv_iconst (v := 1) hx hb dX10_passes_204 (by decide) ?_
          refine lv_iadd hx hb dX10_passes_205 ?_
          refine lv_topi (fun x_117 ex_117 => ?_)
          have tx_117 : x_117.toInt = x_1.toInt + 1 := i_add ex_117 rfl (by decide : (1 : Int32).toInt = 1) (by omega) (by omega)
          refine ti_iast (ci := 10) (k := 34) (n := 23) C hw ob_60 (by decide) (fun _ _ => rfl) (by unfold vp_in; decide) dX10_passes_206 (fun H locs hw => ?_)
          obtain ⟨M_118, hM_118⟩ : ∃ z : ti_M, z = uY M_59 60 34 (upd (tY M_59 60 34) (0 : Int32).toNatClampNeg x_117) := ⟨_, rfl⟩
          have hw := hw.to hM_118.symm
          have iM_118 : mI Tm M_118 := mI_up (i := 0) iM_59 hM_118 (fun _ => (ib_mk (lo := 0) (hi := 120) (by omega) (by omega)))
          have hs_119 : qR (tx 4).toNat 0 (pp_su g_64 2 x_117.toInt) M_118 := qR_34 (z := 0) hs_65 (by decide) rfl hM_118
          obtain ⟨g_120, eg_120⟩ : ∃ z : Nat → Int, z = pp_su g_64 2 x_117.toInt := ⟨_, rfl⟩
          rw [← eg_120] at hs_119
          have sg_120 : g_120 2 = x_117.toInt := by rw [eg_120, su_s]
          have w1g_120 : g_120 1 = g_64 1 := by rw [eg_120, su_n (by omega)]
          have w5g_120 : g_120 5 = g_64 5 := by rw [eg_120, su_n (by omega)]
          have ER : g_64 = bq_rl tx g_29 := by rw [← j_67, show x_56.toInt.toNat = 0 by omega]; rfl
          have EM : bq_mt tx g_64 = g_64 := by unfold bq_mt; rw [if_pos (by omega)]
          have E_121 : bq_ps tx rg = g_120 := by unfold bq_ps; rw [← eg_8, ← eg_14, ← eg_19, ← eg_24, ← eg_29, ← ER, EM]; unfold bq_m1; rw [show g_64 2 = x_1.toInt by omega, ← tx_117, bw_i, ← eg_120]
          exact hQ _ _ _ _ _ hw (⟨(eR.trans (eR_Y hM_118 (bk_q (z := 0) (by decide) (by decide))) f_63), (by rw [E_121]; exact hs_119), (by rw [E_121]; exact (qV_same j_69 (tY_nE hM_118 (nk (by decide))) (by omega) (fun _ _ => by rw [eg_120, su_n (by omega)]) (fun _ _ => by rw [eg_120, su_n (by omega)]))), iM_118, (rq.trans (rq_qw (qw_Y hM_118 (by decide))) f_60), (mC_qw (qw_Y hM_118 (by decide)) f_61), by rw [tY_uE hM_118, upl (by decide)]; omega⟩) dX10_passes_207
        · refine lv_aload_n hx hb dX10_passes_149 rfl (lv_at hl 2 rfl) ?_
          refine ti_get (ci := 10) (k := 3) (N := 67) (T := TX10) (v := .ref (A 60 4)) C hw iw_10 rfl ob_60 (by decide) (by decide) fl_X10_13 rfl rfl dX10_passes_150 ?_
          refine lv_iconst (v := 5) hx hb dX10_passes_153 (by decide) ?_
          refine ti_iald (ci := 10) (k := 3) (n := 22) C hw ob_60 (by decide) (fun _ _ => rfl) (by unfold vp_in; decide) dX10_passes_154 ?_
          refine lv_topi (fun x_94 ex_94 => ?_)
          have yx_94 : tY M_59 60 3 5 = x_94 := ((congrArg _ (by decide)).symm.trans ex_94.symm)
          have zx_94 : (tY M_59 60 3 5).toInt = x_94.toInt := by rw [yx_94]
          have wx_94 : tY M 60 3 5 = x_94 := ((cg (f_60.1 3 (by decide) (by decide)) 5)).symm.trans yx_94
          have zwx_94 : (tY M 60 3 5).toInt = x_94.toInt := by rw [wx_94]
          have L_95 : tx 10 = x_94.toInt := (htr.1.2.2.2.2.2.1).trans ((congrArg Int32.toInt (cg ((f_60.1 3 (by decide) (by decide))) 5)).symm.trans (congrArg Int32.toInt ((cg (f_60.1 3 (by decide) (by decide)) 5).trans wx_94)))
          refine sb_if_le (tgt := 197) hx hb rfl dX10_passes_155 (by decide) (fun c_155_95 => ?_) (fun c_155_95 => ?_)
          · refine lv_aload_n hx hb dX10_passes_197 rfl (lv_at hl 2 rfl) ?_
            refine ti_get (ci := 10) (k := 34) (N := 67) (T := TX10) (v := .ref (A 60 35)) C hw iw_10 rfl ob_60 (by decide) (by decide) fl_X10_69 rfl rfl dX10_passes_198 ?_
            refine lv_iload_n hx hb dX10_passes_201 rfl (lv_at hl 3 rfl) ?_
            refine lv_dup2_11 hx hb dX10_passes_202 rfl rfl ?_
            refine ti_iald (ci := 10) (k := 34) (n := 23) C hw ob_60 (by decide) (fun _ _ => rfl) (by unfold vp_in; decide) dX10_passes_203 ?_
            refine ti_top (y := x_1) ((congrArg _ (by decide)).trans ((cg f_62 0).trans yx_1)) ?_
            have L_122 : g_64 2 = x_1.toInt := (hs_65.1.1).trans (congrArg Int32.toInt ((cg f_62 0).trans yx_1))
            refine lv_iconst (v := 1) hx hb dX10_passes_204 (by decide) ?_
            refine lv_iadd hx hb dX10_passes_205 ?_
            refine lv_topi (fun x_123 ex_123 => ?_)
            have tx_123 : x_123.toInt = x_1.toInt + 1 := i_add ex_123 rfl (by decide : (1 : Int32).toInt = 1) (by omega) (by omega)
            refine ti_iast (ci := 10) (k := 34) (n := 23) C hw ob_60 (by decide) (fun _ _ => rfl) (by unfold vp_in; decide) dX10_passes_206 (fun H locs hw => ?_)
            obtain ⟨M_124, hM_124⟩ : ∃ z : ti_M, z = uY M_59 60 34 (upd (tY M_59 60 34) (0 : Int32).toNatClampNeg x_123) := ⟨_, rfl⟩
            have hw := hw.to hM_124.symm
            have iM_124 : mI Tm M_124 := mI_up (i := 0) iM_59 hM_124 (fun _ => (ib_mk (lo := 0) (hi := 120) (by omega) (by omega)))
            have hs_125 : qR (tx 4).toNat 0 (pp_su g_64 2 x_123.toInt) M_124 := qR_34 (z := 0) hs_65 (by decide) rfl hM_124
            obtain ⟨g_126, eg_126⟩ : ∃ z : Nat → Int, z = pp_su g_64 2 x_123.toInt := ⟨_, rfl⟩
            rw [← eg_126] at hs_125
            have sg_126 : g_126 2 = x_123.toInt := by rw [eg_126, su_s]
            have w1g_126 : g_126 1 = g_64 1 := by rw [eg_126, su_n (by omega)]
            have w5g_126 : g_126 5 = g_64 5 := by rw [eg_126, su_n (by omega)]
            have ER : g_64 = bq_rl tx g_29 := by rw [← j_67, show x_56.toInt.toNat = 0 by omega]; rfl
            have EM : bq_mt tx g_64 = g_64 := by unfold bq_mt; rw [if_pos (by omega)]
            have E_127 : bq_ps tx rg = g_126 := by unfold bq_ps; rw [← eg_8, ← eg_14, ← eg_19, ← eg_24, ← eg_29, ← ER, EM]; unfold bq_m1; rw [show g_64 2 = x_1.toInt by omega, ← tx_123, bw_i, ← eg_126]
            exact hQ _ _ _ _ _ hw (⟨(eR.trans (eR_Y hM_124 (bk_q (z := 0) (by decide) (by decide))) f_63), (by rw [E_127]; exact hs_125), (by rw [E_127]; exact (qV_same j_69 (tY_nE hM_124 (nk (by decide))) (by omega) (fun _ _ => by rw [eg_126, su_n (by omega)]) (fun _ _ => by rw [eg_126, su_n (by omega)]))), iM_124, (rq.trans (rq_qw (qw_Y hM_124 (by decide))) f_60), (mC_qw (qw_Y hM_124 (by decide)) f_61), by rw [tY_uE hM_124, upl (by decide)]; omega⟩) dX10_passes_207
          · refine lv_aload_n hx hb dX10_passes_158 rfl (lv_at hl 2 rfl) ?_
            refine lv_iload_n hx hb dX10_passes_159 rfl (lv_at hl 3 rfl) ?_
            refine ti_callVi (ci := 10) (av := [.int 0]) C hw (z_X10_draw_0 l D A cy hJ M_59 iM_59  tx g_64 (tR_lw htr (eR_lw (q := 0) f_63)) ht4 hs_65 (by omega)) ⟨ml_X10_397, ym_X10_draw, yv_X10_draw, yi_X10_draw, yc_X10_draw⟩ yd_X10_draw ob_60 (by decide) rfl rfl hl.1 (Nat.le_of_ble_eq_true rfl) ⟨by decide, by decide⟩ ⟨Nat.zero_le _, Nat.zero_le _⟩ dX10_passes_160 (fun r_97 M_98 H locs hp_98 hw => ?_)
            obtain ⟨erM_98, e48M_98, hrM_98, rvM_98, hqM_98⟩ := hp_98
            obtain ⟨iM_98, q_99, q_100⟩ := hqM_98
            obtain ⟨g_101, eg_101⟩ : ∃ z : Nat → Int, z = pp_su g_64 5 (bq_dr (g_64 5)) := ⟨_, rfl⟩
            rw [← eg_101] at hrM_98
            have w1g_101 : g_101 1 = g_64 1 := by rw [eg_101]; exact su_n (by decide)
            have w2g_101 : g_101 2 = g_64 2 := by rw [eg_101]; exact su_n (by decide)
            have wpg_101 : wF tx g_101 := by rw [eg_101]; exact wF_dr htW j_68
            have qvM_98 : qV (tx 4).toNat 0 g_101 M_98 := qV_same j_69 e48M_98 (by omega) (fun m hm => by rw [eg_101]; exact su_n (by omega)) (fun m hm => by rw [eg_101]; exact su_n (by omega))
            refine lv_aload_n hx hb dX10_passes_163 rfl (lv_at hl 2 rfl) ?_
            refine ti_get (ci := 10) (k := 3) (N := 67) (T := TX10) (v := .ref (A 60 4)) C hw iw_10 rfl ob_60 (by decide) (by decide) fl_X10_13 rfl rfl dX10_passes_164 ?_
            refine lv_iconst (v := 5) hx hb dX10_passes_167 (by decide) ?_
            refine ti_iald (ci := 10) (k := 3) (n := 22) C hw ob_60 (by decide) (fun _ _ => rfl) (by unfold vp_in; decide) dX10_passes_168 ?_
            refine ti_top (y := x_94) ((congrArg _ (by decide)).trans ((cg (q_99.1 3 (by decide) (by decide)) 5).trans ((cg (f_60.1 3 (by decide) (by decide)) 5).trans wx_94))) ?_
            have L_102 : tx 10 = x_94.toInt := (htr.1.2.2.2.2.2.1).trans ((congrArg Int32.toInt (cg (((q_99.1 3 (by decide) (by decide)).trans (f_60.1 3 (by decide) (by decide)))) 5)).symm.trans (congrArg Int32.toInt ((cg (q_99.1 3 (by decide) (by decide)) 5).trans ((cg (f_60.1 3 (by decide) (by decide)) 5).trans wx_94))))
            refine sb_icmp_ge (tgt := 197) hx hb rfl rfl dX10_passes_169 (by decide) (fun c_169_102 => ?_) (fun c_169_102 => ?_)
            · refine lv_aload_n hx hb dX10_passes_197 rfl (lv_at hl 2 rfl) ?_
              refine ti_get (ci := 10) (k := 34) (N := 67) (T := TX10) (v := .ref (A 60 35)) C hw iw_10 rfl ob_60 (by decide) (by decide) fl_X10_69 rfl rfl dX10_passes_198 ?_
              refine lv_iload_n hx hb dX10_passes_201 rfl (lv_at hl 3 rfl) ?_
              refine lv_dup2_11 hx hb dX10_passes_202 rfl rfl ?_
              refine ti_iald (ci := 10) (k := 34) (n := 23) C hw ob_60 (by decide) (fun _ _ => rfl) (by unfold vp_in; decide) dX10_passes_203 ?_
              refine ti_top (y := x_1) ((congrArg _ (by decide)).trans ((cg q_100 0).trans ((cg f_62 0).trans yx_1))) ?_
              have L_128 : g_101 2 = x_1.toInt := (hrM_98.1.1).trans (congrArg Int32.toInt ((cg q_100 0).trans ((cg f_62 0).trans yx_1)))
              refine lv_iconst (v := 1) hx hb dX10_passes_204 (by decide) ?_
              refine lv_iadd hx hb dX10_passes_205 ?_
              refine lv_topi (fun x_129 ex_129 => ?_)
              have tx_129 : x_129.toInt = x_1.toInt + 1 := i_add ex_129 rfl (by decide : (1 : Int32).toInt = 1) (by omega) (by omega)
              refine ti_iast (ci := 10) (k := 34) (n := 23) C hw ob_60 (by decide) (fun _ _ => rfl) (by unfold vp_in; decide) dX10_passes_206 (fun H locs hw => ?_)
              obtain ⟨M_130, hM_130⟩ : ∃ z : ti_M, z = uY M_98 60 34 (upd (tY M_98 60 34) (0 : Int32).toNatClampNeg x_129) := ⟨_, rfl⟩
              have hw := hw.to hM_130.symm
              have iM_130 : mI Tm M_130 := mI_up (i := 0) iM_98 hM_130 (fun _ => (ib_mk (lo := 0) (hi := 120) (by omega) (by omega)))
              have hs_131 : qR (tx 4).toNat 0 (pp_su g_101 2 x_129.toInt) M_130 := qR_34 (z := 0) hrM_98 (by decide) rfl hM_130
              obtain ⟨g_132, eg_132⟩ : ∃ z : Nat → Int, z = pp_su g_101 2 x_129.toInt := ⟨_, rfl⟩
              rw [← eg_132] at hs_131
              have sg_132 : g_132 2 = x_129.toInt := by rw [eg_132, su_s]
              have w1g_132 : g_132 1 = g_101 1 := by rw [eg_132, su_n (by omega)]
              have w5g_132 : g_132 5 = g_101 5 := by rw [eg_132, su_n (by omega)]
              have ER : g_64 = bq_rl tx g_29 := by rw [← j_67, show x_56.toInt.toNat = 0 by omega]; rfl
              have w3g_101 : g_101 3 = g_64 3 := by rw [eg_101]; exact su_n (by decide)
              have EM : bq_mt tx g_64 = g_101 := by unfold bq_mt; rw [if_neg (by omega), if_neg (by omega), ← eg_101]
              have E_133 : bq_ps tx rg = g_132 := by unfold bq_ps; rw [← eg_8, ← eg_14, ← eg_19, ← eg_24, ← eg_29, ← ER, EM]; unfold bq_m1; rw [show g_101 2 = x_1.toInt by omega, ← tx_129, bw_i, ← eg_132]
              exact hQ _ _ _ _ _ hw (⟨(eR.trans (eR_Y hM_130 (bk_q (z := 0) (by decide) (by decide))) (eR.trans erM_98 f_63)), (by rw [E_133]; exact hs_131), (by rw [E_133]; exact (qV_same qvM_98 (tY_nE hM_130 (nk (by decide))) (by omega) (fun _ _ => by rw [eg_132, su_n (by omega)]) (fun _ _ => by rw [eg_132, su_n (by omega)]))), iM_130, (rq.trans (rq_qw (qw_Y hM_130 (by decide))) (rq.trans (rq_qw q_99) f_60)), (mC_qw (qw.trans (qw_Y hM_130 (by decide)) q_99) f_61), by rw [tY_uE hM_130, upl (by decide)]; omega⟩) dX10_passes_207
            · refine lv_aload_n hx hb dX10_passes_172 rfl (lv_at hl 2 rfl) ?_
              refine ti_get (ci := 10) (k := 38) (N := 67) (T := TX10) (v := .ref (A 60 39)) C hw iw_10 rfl ob_60 (by decide) (by decide) fl_X10_81 rfl rfl dX10_passes_173 ?_
              refine lv_iload_n hx hb dX10_passes_176 rfl (lv_at hl 3 rfl) ?_
              refine ti_iald (ci := 10) (k := 38) (n := 23) C hw ob_60 (by decide) (fun _ _ => rfl) (by unfold vp_in; decide) dX10_passes_177 ?_
              refine lv_topi (fun x_104 ex_104 => ?_)
              have yx_104 : tY M_98 60 38 0 = x_104 := ((congrArg _ (by decide)).symm.trans ex_104.symm)
              have bx_104 : 0 ≤ x_104.toInt ∧ x_104.toInt ≤ 8 := mI_ry (k := 38) (i := 0) iM_98 yx_104.symm
              have zx_104 : (tY M_98 60 38 0).toInt = x_104.toInt := by rw [yx_104]
              have wx_104 : tY M_59 60 38 0 = x_104 := ((cg q_99.2.2.1 0)).symm.trans yx_104
              have zwx_104 : (tY M_59 60 38 0).toInt = x_104.toInt := by rw [wx_104]
              have L_105 : g_101 3 = x_104.toInt := (hrM_98.1.2.1).trans (congrArg Int32.toInt ((cg q_99.2.2.1 0).trans wx_104))
              refine lv_iconst (v := 1) hx hb dX10_passes_178 (by decide) ?_
              refine sb_icmp_le (tgt := 197) hx hb rfl (by decide : (1 : Int32).toInt = 1) dX10_passes_179 (by decide) (fun c_179_105 => ?_) (fun c_179_105 => ?_)
              · refine lv_aload_n hx hb dX10_passes_197 rfl (lv_at hl 2 rfl) ?_
                refine ti_get (ci := 10) (k := 34) (N := 67) (T := TX10) (v := .ref (A 60 35)) C hw iw_10 rfl ob_60 (by decide) (by decide) fl_X10_69 rfl rfl dX10_passes_198 ?_
                refine lv_iload_n hx hb dX10_passes_201 rfl (lv_at hl 3 rfl) ?_
                refine lv_dup2_11 hx hb dX10_passes_202 rfl rfl ?_
                refine ti_iald (ci := 10) (k := 34) (n := 23) C hw ob_60 (by decide) (fun _ _ => rfl) (by unfold vp_in; decide) dX10_passes_203 ?_
                refine ti_top (y := x_1) ((congrArg _ (by decide)).trans ((cg q_100 0).trans ((cg f_62 0).trans yx_1))) ?_
                have L_134 : g_101 2 = x_1.toInt := (hrM_98.1.1).trans (congrArg Int32.toInt ((cg q_100 0).trans ((cg f_62 0).trans yx_1)))
                refine lv_iconst (v := 1) hx hb dX10_passes_204 (by decide) ?_
                refine lv_iadd hx hb dX10_passes_205 ?_
                refine lv_topi (fun x_135 ex_135 => ?_)
                have tx_135 : x_135.toInt = x_1.toInt + 1 := i_add ex_135 rfl (by decide : (1 : Int32).toInt = 1) (by omega) (by omega)
                refine ti_iast (ci := 10) (k := 34) (n := 23) C hw ob_60 (by decide) (fun _ _ => rfl) (by unfold vp_in; decide) dX10_passes_206 (fun H locs hw => ?_)
                obtain ⟨M_136, hM_136⟩ : ∃ z : ti_M, z = uY M_98 60 34 (upd (tY M_98 60 34) (0 : Int32).toNatClampNeg x_135) := ⟨_, rfl⟩
                have hw := hw.to hM_136.symm
                have iM_136 : mI Tm M_136 := mI_up (i := 0) iM_98 hM_136 (fun _ => (ib_mk (lo := 0) (hi := 120) (by omega) (by omega)))
                have hs_137 : qR (tx 4).toNat 0 (pp_su g_101 2 x_135.toInt) M_136 := qR_34 (z := 0) hrM_98 (by decide) rfl hM_136
                obtain ⟨g_138, eg_138⟩ : ∃ z : Nat → Int, z = pp_su g_101 2 x_135.toInt := ⟨_, rfl⟩
                rw [← eg_138] at hs_137
                have sg_138 : g_138 2 = x_135.toInt := by rw [eg_138, su_s]
                have w1g_138 : g_138 1 = g_101 1 := by rw [eg_138, su_n (by omega)]
                have w5g_138 : g_138 5 = g_101 5 := by rw [eg_138, su_n (by omega)]
                have ER : g_64 = bq_rl tx g_29 := by rw [← j_67, show x_56.toInt.toNat = 0 by omega]; rfl
                have w3g_101 : g_101 3 = g_64 3 := by rw [eg_101]; exact su_n (by decide)
                have EM : bq_mt tx g_64 = g_101 := by unfold bq_mt; rw [if_neg (by omega), if_neg (by omega), ← eg_101]
                have E_139 : bq_ps tx rg = g_138 := by unfold bq_ps; rw [← eg_8, ← eg_14, ← eg_19, ← eg_24, ← eg_29, ← ER, EM]; unfold bq_m1; rw [show g_101 2 = x_1.toInt by omega, ← tx_135, bw_i, ← eg_138]
                exact hQ _ _ _ _ _ hw (⟨(eR.trans (eR_Y hM_136 (bk_q (z := 0) (by decide) (by decide))) (eR.trans erM_98 f_63)), (by rw [E_139]; exact hs_137), (by rw [E_139]; exact (qV_same qvM_98 (tY_nE hM_136 (nk (by decide))) (by omega) (fun _ _ => by rw [eg_138, su_n (by omega)]) (fun _ _ => by rw [eg_138, su_n (by omega)]))), iM_136, (rq.trans (rq_qw (qw_Y hM_136 (by decide))) (rq.trans (rq_qw q_99) f_60)), (mC_qw (qw.trans (qw_Y hM_136 (by decide)) q_99) f_61), by rw [tY_uE hM_136, upl (by decide)]; omega⟩) dX10_passes_207
              · refine lv_aload_n hx hb dX10_passes_182 rfl (lv_at hl 2 rfl) ?_
                refine lv_iload_n hx hb dX10_passes_183 rfl (lv_at hl 3 rfl) ?_
                refine lv_aload_n hx hb dX10_passes_184 rfl (lv_at hl 2 rfl) ?_
                refine ti_get (ci := 10) (k := 38) (N := 67) (T := TX10) (v := .ref (A 60 39)) C hw iw_10 rfl ob_60 (by decide) (by decide) fl_X10_81 rfl rfl dX10_passes_185 ?_
                refine lv_iload_n hx hb dX10_passes_188 rfl (lv_at hl 3 rfl) ?_
                refine ti_iald (ci := 10) (k := 38) (n := 23) C hw ob_60 (by decide) (fun _ _ => rfl) (by unfold vp_in; decide) dX10_passes_189 ?_
                refine ti_top (y := x_104) ((congrArg _ (by decide)).trans ((cg q_99.2.2.1 0).trans wx_104)) ?_
                have L_107 : g_101 3 = x_104.toInt := (hrM_98.1.2.1).trans (congrArg Int32.toInt ((cg q_99.2.2.1 0).trans wx_104))
                refine lv_iconst (v := 1) hx hb dX10_passes_190 (by decide) ?_
                refine lv_isub hx hb dX10_passes_191 ?_
                refine lv_topi (fun x_108 ex_108 => ?_)
                have tx_108 : x_108.toInt = x_104.toInt - 1 := i_sub ex_108 rfl (by decide : (1 : Int32).toInt = 1) (by omega) (by omega)
                refine lv_iconst (v := 3) hx hb dX10_passes_192 (by decide) ?_
                refine lv_iload_n hx hb dX10_passes_193 rfl (lv_at hl 1 rfl) ?_
                have lk_111 : (tY M_98 60 38 0).toInt = (tY M_59 60 38 0).toInt := by rw [(cg q_99.2.2.1 0)]
                refine ti_callVv (ci := 10) (av := [.int 0, .int x_108, .int 3, .int x_1]) C hw (z_X10_leaves_0 l D A cy hJ M_98 iM_98 (mC_qw q_99 f_61) x_108 3 x_1 (by first | omega | decide | (have l0 : (0 : Int32).toInt = 0 := (by decide); have l2 : (2 : Int32).toInt = 2 := (by decide); have l3 : (3 : Int32).toInt = 3 := (by decide); omega)) (by first | omega | decide | (have l0 : (0 : Int32).toInt = 0 := (by decide); have l2 : (2 : Int32).toInt = 2 := (by decide); have l3 : (3 : Int32).toInt = 3 := (by decide); omega)) (by first | omega | decide | (have l0 : (0 : Int32).toInt = 0 := (by decide); have l2 : (2 : Int32).toInt = 2 := (by decide); have l3 : (3 : Int32).toInt = 3 := (by decide); omega)) tx g_101 (tR_lw htr (eR_lw (q := 0) (eR.trans erM_98 f_63))) ht4 hrM_98 qvM_98 wpg_101 (by omega)) ⟨ml_X10_377, ym_X10_leaves, yv_X10_leaves, yi_X10_leaves, yc_X10_leaves⟩ yd_X10_leaves ob_60 (by decide) rfl rfl hl.1 (Nat.le_of_ble_eq_true rfl) ⟨by decide, by decide⟩ ⟨Nat.zero_le _, Nat.zero_le _⟩ dX10_passes_194 (fun M_110 H locs hp_110 hw => ?_)
                obtain ⟨erM_110, hrM_110, qvM_110, hqM_110⟩ := hp_110
                obtain ⟨iM_110, q_112, q_113, q_114, p0r_109⟩ := hqM_110
                simp only [show (3 : Int32).toInt = 3 by decide] at hrM_110 qvM_110
                obtain ⟨g_115, eg_115⟩ : ∃ z : Nat → Int, z = bq_rm g_101 x_108.toInt 3 := ⟨_, rfl⟩
                rw [← eg_115] at hrM_110
                rw [← eg_115] at qvM_110
                have w1g_115 : g_115 1 = g_101 1 := by rw [eg_115]; exact rm_k (by decide)
                have w2g_115 : g_115 2 = g_101 2 := by rw [eg_115]; exact rm_k (by decide)
                have w5g_115 : g_115 5 = g_101 5 := by rw [eg_115]; exact rm_k (by decide)
                have wrg_115 := wF_rm htW wpg_101 (p := x_108.toInt.toNat) (by omega) (ns := 3) (by decide)
                rw [show ((x_108.toInt.toNat : Nat) : Int) = x_108.toInt by omega, ← eg_115] at wrg_115
                have wpg_115 := wrg_115.1
                have wng_115 := wrg_115.2.1
                refine lv_aload_n hx hb dX10_passes_197 rfl (lv_at hl 2 rfl) ?_
                refine ti_get (ci := 10) (k := 34) (N := 67) (T := TX10) (v := .ref (A 60 35)) C hw iw_10 rfl ob_60 (by decide) (by decide) fl_X10_69 rfl rfl dX10_passes_198 ?_
                refine lv_iload_n hx hb dX10_passes_201 rfl (lv_at hl 3 rfl) ?_
                refine lv_dup2_11 hx hb dX10_passes_202 rfl rfl ?_
                refine ti_iald (ci := 10) (k := 34) (n := 23) C hw ob_60 (by decide) (fun _ _ => rfl) (by unfold vp_in; decide) dX10_passes_203 ?_
                refine ti_top (y := x_1) ((congrArg _ (by decide)).trans ((cg q_114 0).trans ((cg q_100 0).trans ((cg f_62 0).trans yx_1)))) ?_
                have L_140 : g_115 2 = x_1.toInt := (hrM_110.1.1).trans (congrArg Int32.toInt ((cg q_114 0).trans ((cg q_100 0).trans ((cg f_62 0).trans yx_1))))
                refine lv_iconst (v := 1) hx hb dX10_passes_204 (by decide) ?_
                refine lv_iadd hx hb dX10_passes_205 ?_
                refine lv_topi (fun x_141 ex_141 => ?_)
                have tx_141 : x_141.toInt = x_1.toInt + 1 := i_add ex_141 rfl (by decide : (1 : Int32).toInt = 1) (by omega) (by omega)
                refine ti_iast (ci := 10) (k := 34) (n := 23) C hw ob_60 (by decide) (fun _ _ => rfl) (by unfold vp_in; decide) dX10_passes_206 (fun H locs hw => ?_)
                obtain ⟨M_142, hM_142⟩ : ∃ z : ti_M, z = uY M_110 60 34 (upd (tY M_110 60 34) (0 : Int32).toNatClampNeg x_141) := ⟨_, rfl⟩
                have hw := hw.to hM_142.symm
                have iM_142 : mI Tm M_142 := mI_up (i := 0) iM_110 hM_142 (fun _ => (ib_mk (lo := 0) (hi := 120) (by omega) (by omega)))
                have hs_143 : qR (tx 4).toNat 0 (pp_su g_115 2 x_141.toInt) M_142 := qR_34 (z := 0) hrM_110 (by decide) rfl hM_142
                obtain ⟨g_144, eg_144⟩ : ∃ z : Nat → Int, z = pp_su g_115 2 x_141.toInt := ⟨_, rfl⟩
                rw [← eg_144] at hs_143
                have sg_144 : g_144 2 = x_141.toInt := by rw [eg_144, su_s]
                have w1g_144 : g_144 1 = g_115 1 := by rw [eg_144, su_n (by omega)]
                have w5g_144 : g_144 5 = g_115 5 := by rw [eg_144, su_n (by omega)]
                have ER : g_64 = bq_rl tx g_29 := by rw [← j_67, show x_56.toInt.toNat = 0 by omega]; rfl
                have w3g_101 : g_101 3 = g_64 3 := by rw [eg_101]; exact su_n (by decide)
                have EM : bq_mt tx g_64 = g_115 := by unfold bq_mt; rw [if_neg (by omega), if_pos (by omega), ← eg_101, show g_64 3 - 1 = x_108.toInt by omega, ← eg_115]
                have E_145 : bq_ps tx rg = g_144 := by unfold bq_ps; rw [← eg_8, ← eg_14, ← eg_19, ← eg_24, ← eg_29, ← ER, EM]; unfold bq_m1; rw [show g_115 2 = x_1.toInt by omega, ← tx_141, bw_i, ← eg_144]
                exact hQ _ _ _ _ _ hw (⟨(eR.trans (eR_Y hM_142 (bk_q (z := 0) (by decide) (by decide))) (eR.trans erM_110 (eR.trans erM_98 f_63))), (by rw [E_145]; exact hs_143), (by rw [E_145]; exact (qV_same qvM_110 (tY_nE hM_142 (nk (by decide))) (by omega) (fun _ _ => by rw [eg_144, su_n (by omega)]) (fun _ _ => by rw [eg_144, su_n (by omega)]))), iM_142, (rq.trans (rq_qw (qw_Y hM_142 (by decide))) (rq.trans q_112 (rq.trans (rq_qw q_99) f_60))), (mC_qw (qw_Y hM_142 (by decide)) q_113), by rw [tY_uE hM_142, upl (by decide)]; omega⟩) dX10_passes_207
      · refine lv_aload_n hx hb dX10_passes_105 rfl (lv_at hl 2 rfl) ?_
        refine ti_get (ci := 10) (k := 41) (N := 67) (T := TX10) (v := .ref (A 60 42)) C hw iw_10 rfl ob_60 (by decide) (by decide) fl_X10_90 rfl rfl dX10_passes_106 ?_
        refine lv_bipush (v := 8) hx hb dX10_passes_109 (by decide) ?_
        refine lv_iload_n hx hb dX10_passes_111 rfl (lv_at hl 3 rfl) ?_
        refine lv_imul hx hb dX10_passes_112 ?_
        refine ti_top (y := 0) (by decide) ?_
        refine lv_aload_n hx hb dX10_passes_113 rfl (lv_at hl 2 rfl) ?_
        refine ti_get (ci := 10) (k := 39) (N := 67) (T := TX10) (v := .ref (A 60 40)) C hw iw_10 rfl ob_60 (by decide) (by decide) fl_X10_84 rfl rfl dX10_passes_114 ?_
        refine lv_bipush (v := 8) hx hb dX10_passes_117 (by decide) ?_
        refine lv_iload_n hx hb dX10_passes_119 rfl (lv_at hl 3 rfl) ?_
        refine lv_imul hx hb dX10_passes_120 ?_
        refine ti_top (y := 0) (by decide) ?_
        refine lv_iload hx hb dX10_passes_121 (lv_at hl 0 rfl) ?_
        refine lv_iadd hx hb dX10_passes_123 ?_
        refine lv_topi (fun x_78 ex_78 => ?_)
        have tx_78 : x_78.toInt = 0 + x_56.toInt := i_add ex_78 (by decide : (0 : Int32).toInt = 0) rfl (by omega) (by omega)
        refine ti_iald (ci := 10) (k := 39) (n := 184) C hw ob_60 (by decide) (fun _ _ => rfl) (vp_in_iff.mpr (by omega)) dX10_passes_124 ?_
        refine lv_topi (fun x_79 ex_79 => ?_)
        have yx_79 : tY M_59 60 39 x_78.toNatClampNeg = x_79 := (ex_79.symm)
        have bx_79 : 0 ≤ x_79.toInt ∧ x_79.toInt ≤ 7 := mI_ry (k := 39) (i := x_78.toNatClampNeg) iM_59 yx_79.symm
        have L_80 : g_64 (96 + x_56.toInt.toNat) = x_79.toInt := (hs_65.2.1 (x_56.toInt.toNat) (by omega) (by omega)).trans (rd_k (n := 8 * 0 + x_56.toInt.toNat) (by omega) (yx_79))
        have A6 := j_68.2.2.1 x_56.toInt.toNat (by omega)
        rw [L_80] at A6
        refine lv_iadd hx hb dX10_passes_125 ?_
        refine lv_topi (fun x_81 ex_81 => ?_)
        have tx_81 : x_81.toInt = 0 + x_79.toInt := i_add ex_81 (by decide : (0 : Int32).toInt = 0) rfl (by omega) (by omega)
        refine ti_iald (ci := 10) (k := 41) (n := 184) C hw ob_60 (by decide) (fun _ _ => rfl) (vp_in_iff.mpr (by omega)) dX10_passes_126 ?_
        refine lv_topi (fun x_82 ex_82 => ?_)
        have yx_82 : tY M_59 60 41 x_81.toNatClampNeg = x_82 := (ex_82.symm)
        have L_83 : g_64 (160 + x_79.toInt.toNat) = x_82.toInt := ((hs_65.2.2.2.1 (x_79.toInt.toNat) (by omega)).2.2.1).trans (rd_k (n := 8 * 0 + x_79.toInt.toNat) (by omega) (yx_82))
        refine sb_if_gt (tgt := 139) hx hb rfl dX10_passes_127 (by decide) (fun c_127_83 => ?_) (fun c_127_83 => ?_)
        · obtain ⟨x_91, ex_91⟩ : ∃ z : Int32, z = x_56 + (-1) := ⟨_, rfl⟩
          have tx_91 : x_91.toInt = x_56.toInt + (-1) := i_add ex_91 rfl (by decide) (by omega) (by omega)
          refine lv_iinc (v := x_91) (lv' := [(4, .int x_91), (3, .int x_1), (0, .ref (A 60 0)), (1, .int 0), (2, .int mu)]) hx hb dX10_passes_139 hl (k := 0) rfl (by rw [ex_91]; rfl) (by decide) rfl (fun ls hl => ?_)
          refine lv_goto (tgt := 99) hx hb dX10_passes_142 (by decide) ?_
          exact ih_74 x_91 M_59 g_64 _ _ _ (by omega) (by first | omega | decide) (by first | omega | decide) iM_59 f_60 f_61 ((f_62)) f_63 hs_65 (by first | omega | decide) (by rw [← j_67, of_go (p := x_56.toInt.toNat) (p' := x_91.toInt.toNat) (s := g_64) (by omega), show bq_o1 g_64 x_56.toInt.toNat = g_64 by (unfold bq_o1; rw [L_80, show g_64 (160 + x_79.toInt.toNat) = x_82.toInt by omega, if_neg (by omega)])]) j_68 j_69 (by first | omega | decide) (by first | omega | decide) (by first | omega | decide) (by first | omega | decide) hw (lv_sub hl [0, 1, 2, 3, 4] rfl)
        · refine lv_aload_n hx hb dX10_passes_130 rfl (lv_at hl 2 rfl) ?_
          refine lv_iload_n hx hb dX10_passes_131 rfl (lv_at hl 3 rfl) ?_
          refine lv_iload hx hb dX10_passes_132 (lv_at hl 0 rfl) ?_
          refine lv_iconst (v := 3) hx hb dX10_passes_134 (by decide) ?_
          refine lv_iload_n hx hb dX10_passes_135 rfl (lv_at hl 1 rfl) ?_
          refine ti_callVv (ci := 10) (av := [.int 0, .int x_56, .int 3, .int x_1]) C hw (z_X10_leaves_0 l D A cy hJ M_59 iM_59 f_61 x_56 3 x_1 (by first | omega | decide | (have l0 : (0 : Int32).toInt = 0 := (by decide); have l2 : (2 : Int32).toInt = 2 := (by decide); have l3 : (3 : Int32).toInt = 3 := (by decide); omega)) (by first | omega | decide | (have l0 : (0 : Int32).toInt = 0 := (by decide); have l2 : (2 : Int32).toInt = 2 := (by decide); have l3 : (3 : Int32).toInt = 3 := (by decide); omega)) (by first | omega | decide | (have l0 : (0 : Int32).toInt = 0 := (by decide); have l2 : (2 : Int32).toInt = 2 := (by decide); have l3 : (3 : Int32).toInt = 3 := (by decide); omega)) tx g_64 (tR_lw htr (eR_lw (q := 0) f_63)) ht4 hs_65 j_69 j_68 (by omega)) ⟨ml_X10_377, ym_X10_leaves, yv_X10_leaves, yi_X10_leaves, yc_X10_leaves⟩ yd_X10_leaves ob_60 (by decide) rfl rfl hl.1 (Nat.le_of_ble_eq_true rfl) ⟨by decide, by decide⟩ ⟨Nat.zero_le _, Nat.zero_le _⟩ dX10_passes_136 (fun M_86 H locs hp_86 hw => ?_)
          obtain ⟨erM_86, hrM_86, qvM_86, hqM_86⟩ := hp_86
          obtain ⟨iM_86, q_87, q_88, q_89, p0r_85⟩ := hqM_86
          simp only [show (3 : Int32).toInt = 3 by decide] at hrM_86 qvM_86
          obtain ⟨g_90, eg_90⟩ : ∃ z : Nat → Int, z = bq_rm g_64 x_56.toInt 3 := ⟨_, rfl⟩
          rw [← eg_90] at hrM_86
          rw [← eg_90] at qvM_86
          have w1g_90 : g_90 1 = g_64 1 := by rw [eg_90]; exact rm_k (by decide)
          have w2g_90 : g_90 2 = g_64 2 := by rw [eg_90]; exact rm_k (by decide)
          have w5g_90 : g_90 5 = g_64 5 := by rw [eg_90]; exact rm_k (by decide)
          have wrg_90 := wF_rm htW j_68 (p := x_56.toInt.toNat) (by omega) (ns := 3) (by decide)
          rw [show ((x_56.toInt.toNat : Nat) : Int) = x_56.toInt by omega, ← eg_90] at wrg_90
          have wpg_90 := wrg_90.1
          have wng_90 := wrg_90.2.1
          obtain ⟨x_92, ex_92⟩ : ∃ z : Int32, z = x_56 + (-1) := ⟨_, rfl⟩
          have tx_92 : x_92.toInt = x_56.toInt + (-1) := i_add ex_92 rfl (by decide) (by omega) (by omega)
          refine lv_iinc (v := x_92) (lv' := [(4, .int x_92), (3, .int x_1), (0, .ref (A 60 0)), (1, .int 0), (2, .int mu)]) hx hb dX10_passes_139 hl (k := 0) rfl (by rw [ex_92]; rfl) (by decide) rfl (fun ls hl => ?_)
          refine lv_goto (tgt := 99) hx hb dX10_passes_142 (by decide) ?_
          exact ih_74 x_92 M_86 g_90 _ _ _ (by omega) (by first | omega | decide) (by first | omega | decide) iM_86 (rq.trans q_87 f_60) q_88 (((q_89).trans f_62)) (eR.trans erM_86 f_63) hrM_86 (by first | omega | decide) (by rw [← j_67, of_go (p := x_56.toInt.toNat) (p' := x_92.toInt.toNat) (s := g_64) (by omega), show bq_o1 g_64 x_56.toInt.toNat = g_90 by (unfold bq_o1; rw [L_80, show g_64 (160 + x_79.toInt.toNat) = x_82.toInt by omega, if_pos (by omega), show ((x_56.toInt.toNat : Nat) : Int) = x_56.toInt by omega, ← eg_90])]) wpg_90 qvM_86 (by first | omega | decide) (by first | omega | decide) (by first | omega | decide) (by first | omega | decide) hw (lv_sub hl [0, 1, 2, 3, 4] rfl)
  refine sb_if_le (tgt := 89) hx hb rfl dX10_passes_42 (by decide) (fun c_42_31 => ?_) (fun c_42_31 => ?_)
  · refine lv_aload_n hx hb dX10_passes_89 rfl (lv_at hl 1 rfl) ?_
    refine ti_get (ci := 10) (k := 38) (N := 67) (T := TX10) (v := .ref (A 60 39)) C hw iw_10 rfl ob_60 (by decide) (by decide) fl_X10_81 rfl rfl dX10_passes_90 ?_
    refine lv_iload_n hx hb dX10_passes_93 rfl (lv_at hl 2 rfl) ?_
    refine ti_iald (ci := 10) (k := 38) (n := 23) C hw ob_60 (by decide) (fun _ _ => rfl) (by unfold vp_in; decide) dX10_passes_94 ?_
    refine ti_top (y := x_30) ((congrArg _ (by decide)).trans ((cg q_27.2.2.1 0).trans ((cg q_22.2.2.1 0).trans ((cg q_17.2.2.1 0).trans wx_30)))) ?_
    have L_49 : g_29 3 = x_30.toInt := (hrM_26.1.2.1).trans (congrArg Int32.toInt ((cg q_27.2.2.1 0).trans ((cg q_22.2.2.1 0).trans ((cg q_17.2.2.1 0).trans wx_30))))
    refine lv_iconst (v := 1) hx hb dX10_passes_95 (by decide) ?_
    refine lv_isub hx hb dX10_passes_96 ?_
    refine lv_topi (fun x_50 ex_50 => ?_)
    have tx_50 : x_50.toInt = x_30.toInt - 1 := i_sub ex_50 rfl (by decide : (1 : Int32).toInt = 1) (by omega) (by omega)
    refine lv_istore (lv' := [(4, .int x_50), (3, .int x_1), (0, .ref (A 60 0)), (1, .int 0), (2, .int mu)]) hx hb dX10_passes_97 hl (by decide) rfl (fun ls hl => ?_)
    have lk_75 : (tY M_26 60 38 0).toInt = (tY M_10 60 38 0).toInt := by rw [((cg q_27.2.2.1 0).trans ((cg q_22.2.2.1 0).trans (cg q_17.2.2.1 0)))]
    exact hl_99_73 ((x_50.toInt + 1 : Int).toNat + 1) x_50 M_26 g_29 _ _ _ (Nat.lt_succ_self _) (by first | omega | decide) (by first | omega | decide) iM_26 (rq.trans (rq_qw q_27) (rq.trans (rq_qw q_22) (rq.trans (rq_qw q_17) (rq.trans q_11 q_5)))) (mC_qw (qw.trans q_27 (qw.trans q_22 q_17)) q_12) (((q_28).trans ((q_23).trans ((q_18).trans ((q_13).trans q_7))))) (eR.trans erM_26 (eR.trans erM_21 (eR.trans erM_16 (eR.trans erM_10 erM_4)))) hrM_26 (by first | omega | decide) (by have ES : bq_sv tx g_29 = g_29 := (by unfold bq_sv; rw [if_neg (by omega)]); unfold bq_rl; rw [ES]; exact congrArg (fun k => bq_of k g_29) (by omega)) wpg_29 qvM_26 (by first | omega | decide) (by first | omega | decide) (by first | omega | decide) (by first | omega | decide) hw (lv_sub hl [0, 1, 2, 3, 4] rfl)
  · refine lv_aload_n hx hb dX10_passes_45 rfl (lv_at hl 1 rfl) ?_
    refine ti_get (ci := 10) (k := 42) (N := 67) (T := TX10) (v := .ref (A 60 43)) C hw iw_10 rfl ob_60 (by decide) (by decide) fl_X10_93 rfl rfl dX10_passes_46 ?_
    refine lv_bipush (v := 8) hx hb dX10_passes_49 (by decide) ?_
    refine lv_iload_n hx hb dX10_passes_51 rfl (lv_at hl 2 rfl) ?_
    refine lv_imul hx hb dX10_passes_52 ?_
    refine ti_top (y := 0) (by decide) ?_
    refine lv_aload_n hx hb dX10_passes_53 rfl (lv_at hl 1 rfl) ?_
    refine ti_get (ci := 10) (k := 39) (N := 67) (T := TX10) (v := .ref (A 60 40)) C hw iw_10 rfl ob_60 (by decide) (by decide) fl_X10_84 rfl rfl dX10_passes_54 ?_
    refine lv_bipush (v := 8) hx hb dX10_passes_57 (by decide) ?_
    refine lv_iload_n hx hb dX10_passes_59 rfl (lv_at hl 2 rfl) ?_
    refine lv_imul hx hb dX10_passes_60 ?_
    refine ti_top (y := 0) (by decide) ?_
    refine ti_iald (ci := 10) (k := 39) (n := 184) C hw ob_60 (by decide) (fun _ _ => rfl) (by unfold vp_in; decide) dX10_passes_61 ?_
    refine lv_topi (fun x_33 ex_33 => ?_)
    have yx_33 : tY M_26 60 39 0 = x_33 := ((congrArg _ (by decide)).symm.trans ex_33.symm)
    have bx_33 : 0 ≤ x_33.toInt ∧ x_33.toInt ≤ 7 := mI_ry (k := 39) (i := 0) iM_26 yx_33.symm
    have wx_33 : tY M_10 60 39 0 = x_33 := (((cg q_27.2.2.2.1 0).trans ((cg q_22.2.2.2.1 0).trans (cg q_17.2.2.2.1 0)))).symm.trans yx_33
    have L_34 : g_29 96 = x_33.toInt := (hrM_26.2.1 (0) (by omega) (by omega)).trans (congrArg Int32.toInt ((cg q_27.2.2.2.1 0).trans ((cg q_22.2.2.2.1 0).trans ((cg q_17.2.2.2.1 0).trans wx_33))))
    have A5 : 0 ≤ g_29 96 ∧ g_29 96 < tx 4 ∧ g_29 (128 + (g_29 96).toNat) = 1 := wpg_29.2.2.1 0 (by omega)
    have D5 := wpg_29.2.2.2.2.2.2.1 (g_29 96).toNat (by omega) (by omega)
    rw [show g_29 96 = x_33.toInt by omega] at A5 D5
    refine lv_iadd hx hb dX10_passes_62 ?_
    refine lv_topi (fun x_35 ex_35 => ?_)
    have tx_35 : x_35.toInt = 0 + x_33.toInt := i_add ex_35 (by decide : (0 : Int32).toInt = 0) rfl (by omega) (by omega)
    refine ti_iald (ci := 10) (k := 42) (n := 184) C hw ob_60 (by decide) (fun _ _ => rfl) (vp_in_iff.mpr (by omega)) dX10_passes_63 ?_
    refine lv_topi (fun x_36 ex_36 => ?_)
    have yx_36 : tY M_26 60 42 x_35.toNatClampNeg = x_36 := (ex_36.symm)
    have L_37 : g_29 (176 + x_33.toInt.toNat) = x_36.toInt := ((hrM_26.2.2.2.1 (x_33.toInt.toNat) (by omega)).2.2.2.1).trans (rd_k (n := 8 * 0 + x_33.toInt.toNat) (by omega) (yx_36))
    refine lv_aload_n hx hb dX10_passes_64 rfl (lv_at hl 1 rfl) ?_
    refine ti_get (ci := 10) (k := 8) (N := 67) (T := TX10) (v := .ref (A 60 9)) C hw iw_10 rfl ob_60 (by decide) (by decide) fl_X10_28 rfl rfl dX10_passes_65 ?_
    refine lv_aload_n hx hb dX10_passes_68 rfl (lv_at hl 1 rfl) ?_
    refine ti_get (ci := 10) (k := 39) (N := 67) (T := TX10) (v := .ref (A 60 40)) C hw iw_10 rfl ob_60 (by decide) (by decide) fl_X10_84 rfl rfl dX10_passes_69 ?_
    refine lv_bipush (v := 8) hx hb dX10_passes_72 (by decide) ?_
    refine lv_iload_n hx hb dX10_passes_74 rfl (lv_at hl 2 rfl) ?_
    refine lv_imul hx hb dX10_passes_75 ?_
    refine ti_top (y := 0) (by decide) ?_
    refine ti_iald (ci := 10) (k := 39) (n := 184) C hw ob_60 (by decide) (fun _ _ => rfl) (by unfold vp_in; decide) dX10_passes_76 ?_
    refine ti_top (y := x_33) ((congrArg _ (by decide)).trans ((cg q_27.2.2.2.1 0).trans ((cg q_22.2.2.2.1 0).trans ((cg q_17.2.2.2.1 0).trans wx_33)))) ?_
    have L_38 : g_29 96 = x_33.toInt := (hrM_26.2.1 (0) (by omega) (by omega)).trans (congrArg Int32.toInt ((cg q_27.2.2.2.1 0).trans ((cg q_22.2.2.2.1 0).trans ((cg q_17.2.2.2.1 0).trans wx_33))))
    refine ti_iald (ci := 10) (k := 8) (n := 16) C hw ob_60 (by decide) (fun _ _ => rfl) (vp_in_iff.mpr (by omega)) dX10_passes_77 ?_
    refine lv_topi (fun x_39 ex_39 => ?_)
    have yx_39 : tY M_26 60 8 x_33.toNatClampNeg = x_39 := (ex_39.symm)
    have wx_39 : tY M 60 8 x_33.toNatClampNeg = x_39 := (((cg (q_27.1 8 (by decide) (by decide)) x_33.toNatClampNeg).trans ((cg (q_22.1 8 (by decide) (by decide)) x_33.toNatClampNeg).trans ((cg (q_17.1 8 (by decide) (by decide)) x_33.toNatClampNeg).trans ((cg (q_11.1 8 (by decide) (by decide)) x_33.toNatClampNeg).trans (cg (q_5.1 8 (by decide) (by decide)) x_33.toNatClampNeg)))))).symm.trans yx_39
    have L_40 : tx (100 + 16 * x_33.toInt.toNat + 4) = x_39.toInt := (htr.2.2.1 (x_33.toInt.toNat) (by omega) (by omega)).2.2.2.1.trans ((congrArg Int32.toInt (cg (((q_27.1 8 (by decide) (by decide)).trans ((q_22.1 8 (by decide) (by decide)).trans ((q_17.1 8 (by decide) (by decide)).trans ((q_11.1 8 (by decide) (by decide)).trans (q_5.1 8 (by decide) (by decide))))))) (x_33.toInt.toNat))).symm.trans (rd_k (n := x_33.toInt.toNat) (by omega) ((cg (q_27.1 8 (by decide) (by decide)) x_33.toNatClampNeg).trans ((cg (q_22.1 8 (by decide) (by decide)) x_33.toNatClampNeg).trans ((cg (q_17.1 8 (by decide) (by decide)) x_33.toNatClampNeg).trans ((cg (q_11.1 8 (by decide) (by decide)) x_33.toNatClampNeg).trans ((cg (q_5.1 8 (by decide) (by decide)) x_33.toNatClampNeg).trans wx_39)))))))
    refine sb_icmp_ne (tgt := 89) hx hb rfl rfl dX10_passes_78 (by decide) (fun c_78_40 => ?_) (fun c_78_40 => ?_)
    · refine lv_aload_n hx hb dX10_passes_89 rfl (lv_at hl 1 rfl) ?_
      refine ti_get (ci := 10) (k := 38) (N := 67) (T := TX10) (v := .ref (A 60 39)) C hw iw_10 rfl ob_60 (by decide) (by decide) fl_X10_81 rfl rfl dX10_passes_90 ?_
      refine lv_iload_n hx hb dX10_passes_93 rfl (lv_at hl 2 rfl) ?_
      refine ti_iald (ci := 10) (k := 38) (n := 23) C hw ob_60 (by decide) (fun _ _ => rfl) (by unfold vp_in; decide) dX10_passes_94 ?_
      refine ti_top (y := x_30) ((congrArg _ (by decide)).trans ((cg q_27.2.2.1 0).trans ((cg q_22.2.2.1 0).trans ((cg q_17.2.2.1 0).trans wx_30)))) ?_
      have L_51 : g_29 3 = x_30.toInt := (hrM_26.1.2.1).trans (congrArg Int32.toInt ((cg q_27.2.2.1 0).trans ((cg q_22.2.2.1 0).trans ((cg q_17.2.2.1 0).trans wx_30))))
      refine lv_iconst (v := 1) hx hb dX10_passes_95 (by decide) ?_
      refine lv_isub hx hb dX10_passes_96 ?_
      refine lv_topi (fun x_52 ex_52 => ?_)
      have tx_52 : x_52.toInt = x_30.toInt - 1 := i_sub ex_52 rfl (by decide : (1 : Int32).toInt = 1) (by omega) (by omega)
      refine lv_istore (lv' := [(4, .int x_52), (3, .int x_1), (0, .ref (A 60 0)), (1, .int 0), (2, .int mu)]) hx hb dX10_passes_97 hl (by decide) rfl (fun ls hl => ?_)
      have lk_76 : (tY M_26 60 38 0).toInt = (tY M_10 60 38 0).toInt := by rw [((cg q_27.2.2.1 0).trans ((cg q_22.2.2.1 0).trans (cg q_17.2.2.1 0)))]
      exact hl_99_73 ((x_52.toInt + 1 : Int).toNat + 1) x_52 M_26 g_29 _ _ _ (Nat.lt_succ_self _) (by first | omega | decide) (by first | omega | decide) iM_26 (rq.trans (rq_qw q_27) (rq.trans (rq_qw q_22) (rq.trans (rq_qw q_17) (rq.trans q_11 q_5)))) (mC_qw (qw.trans q_27 (qw.trans q_22 q_17)) q_12) (((q_28).trans ((q_23).trans ((q_18).trans ((q_13).trans q_7))))) (eR.trans erM_26 (eR.trans erM_21 (eR.trans erM_16 (eR.trans erM_10 erM_4)))) hrM_26 (by first | omega | decide) (by have ES : bq_sv tx g_29 = g_29 := (by unfold bq_sv; rw [show g_29 96 = x_33.toInt by omega, show tx (100 + 16 * x_33.toInt.toNat + 4) = x_39.toInt by omega]; rw [if_neg (by omega)]); unfold bq_rl; rw [ES]; exact congrArg (fun k => bq_of k g_29) (by omega)) wpg_29 qvM_26 (by first | omega | decide) (by first | omega | decide) (by first | omega | decide) (by first | omega | decide) hw (lv_sub hl [0, 1, 2, 3, 4] rfl)
    · refine lv_aload_n hx hb dX10_passes_81 rfl (lv_at hl 1 rfl) ?_
      refine lv_iload_n hx hb dX10_passes_82 rfl (lv_at hl 2 rfl) ?_
      refine lv_iconst (v := 0) hx hb dX10_passes_83 (by decide) ?_
      refine lv_iconst (v := 2) hx hb dX10_passes_84 (by decide) ?_
      refine lv_iload_n hx hb dX10_passes_85 rfl (lv_at hl 0 rfl) ?_
      have lk_44 : (tY M_26 60 38 0).toInt = (tY M_10 60 38 0).toInt := by rw [((cg q_27.2.2.1 0).trans ((cg q_22.2.2.1 0).trans (cg q_17.2.2.1 0)))]
      refine ti_callVv (ci := 10) (av := [.int 0, .int 0, .int 2, .int x_1]) C hw (z_X10_leaves_0 l D A cy hJ M_26 iM_26 (mC_qw (qw.trans q_27 (qw.trans q_22 q_17)) q_12) 0 2 x_1 (by first | omega | decide | (have l0 : (0 : Int32).toInt = 0 := (by decide); have l2 : (2 : Int32).toInt = 2 := (by decide); have l3 : (3 : Int32).toInt = 3 := (by decide); omega)) (by first | omega | decide | (have l0 : (0 : Int32).toInt = 0 := (by decide); have l2 : (2 : Int32).toInt = 2 := (by decide); have l3 : (3 : Int32).toInt = 3 := (by decide); omega)) (by first | omega | decide | (have l0 : (0 : Int32).toInt = 0 := (by decide); have l2 : (2 : Int32).toInt = 2 := (by decide); have l3 : (3 : Int32).toInt = 3 := (by decide); omega)) tx g_29 (tR_lw htr (eR_lw (q := 0) (eR.trans erM_26 (eR.trans erM_21 (eR.trans erM_16 (eR.trans erM_10 erM_4)))))) ht4 hrM_26 qvM_26 wpg_29 (by omega)) ⟨ml_X10_377, ym_X10_leaves, yv_X10_leaves, yi_X10_leaves, yc_X10_leaves⟩ yd_X10_leaves ob_60 (by decide) rfl rfl hl.1 (Nat.le_of_ble_eq_true rfl) ⟨by decide, by decide⟩ ⟨Nat.zero_le _, Nat.zero_le _⟩ dX10_passes_86 (fun M_43 H locs hp_43 hw => ?_)
      obtain ⟨erM_43, hrM_43, qvM_43, hqM_43⟩ := hp_43
      obtain ⟨iM_43, q_45, q_46, q_47, p0r_42⟩ := hqM_43
      simp only [show (0 : Int32).toInt = 0 by decide] at hrM_43 qvM_43
      simp only [show (2 : Int32).toInt = 2 by decide] at hrM_43 qvM_43
      obtain ⟨g_48, eg_48⟩ : ∃ z : Nat → Int, z = bq_rm g_29 0 2 := ⟨_, rfl⟩
      rw [← eg_48] at hrM_43
      rw [← eg_48] at qvM_43
      have w1g_48 : g_48 1 = g_29 1 := by rw [eg_48]; exact rm_k (by decide)
      have w2g_48 : g_48 2 = g_29 2 := by rw [eg_48]; exact rm_k (by decide)
      have w5g_48 : g_48 5 = g_29 5 := by rw [eg_48]; exact rm_k (by decide)
      have wrg_48 := wF_rm htW wpg_29 (p := 0) (by omega) (ns := 2) (by decide)
      rw [show ((0 : Nat) : Int) = 0 by rfl, ← eg_48] at wrg_48
      have wpg_48 := wrg_48.1
      have wng_48 := wrg_48.2.1
      refine lv_aload_n hx hb dX10_passes_89 rfl (lv_at hl 1 rfl) ?_
      refine ti_get (ci := 10) (k := 38) (N := 67) (T := TX10) (v := .ref (A 60 39)) C hw iw_10 rfl ob_60 (by decide) (by decide) fl_X10_81 rfl rfl dX10_passes_90 ?_
      refine lv_iload_n hx hb dX10_passes_93 rfl (lv_at hl 2 rfl) ?_
      refine ti_iald (ci := 10) (k := 38) (n := 23) C hw ob_60 (by decide) (fun _ _ => rfl) (by unfold vp_in; decide) dX10_passes_94 ?_
      refine lv_topi (fun x_53 ex_53 => ?_)
      have yx_53 : tY M_43 60 38 0 = x_53 := ((congrArg _ (by decide)).symm.trans ex_53.symm)
      have bx_53 : 0 ≤ x_53.toInt ∧ x_53.toInt ≤ 8 := mI_ry (k := 38) (i := 0) iM_43 yx_53.symm
      have zx_53 : (tY M_43 60 38 0).toInt = x_53.toInt := by rw [yx_53]
      have L_54 : g_48 3 = x_53.toInt := (hrM_43.1.2.1).trans (congrArg Int32.toInt (yx_53))
      refine lv_iconst (v := 1) hx hb dX10_passes_95 (by decide) ?_
      refine lv_isub hx hb dX10_passes_96 ?_
      refine lv_topi (fun x_55 ex_55 => ?_)
      have tx_55 : x_55.toInt = x_53.toInt - 1 := i_sub ex_55 rfl (by decide : (1 : Int32).toInt = 1) (by omega) (by omega)
      refine lv_istore (lv' := [(4, .int x_55), (3, .int x_1), (0, .ref (A 60 0)), (1, .int 0), (2, .int mu)]) hx hb dX10_passes_97 hl (by decide) rfl (fun ls hl => ?_)
      exact hl_99_73 ((x_55.toInt + 1 : Int).toNat + 1) x_55 M_43 g_48 _ _ _ (Nat.lt_succ_self _) (by first | omega | decide) (by first | omega | decide) iM_43 (rq.trans q_45 (rq.trans (rq_qw q_27) (rq.trans (rq_qw q_22) (rq.trans (rq_qw q_17) (rq.trans q_11 q_5))))) q_46 (((q_47).trans ((q_28).trans ((q_23).trans ((q_18).trans ((q_13).trans q_7)))))) (eR.trans erM_43 (eR.trans erM_26 (eR.trans erM_21 (eR.trans erM_16 (eR.trans erM_10 erM_4))))) hrM_43 (by first | omega | decide) (by have ES : bq_sv tx g_29 = g_48 := (by unfold bq_sv; rw [show g_29 96 = x_33.toInt by omega, show tx (100 + 16 * x_33.toInt.toNat + 4) = x_39.toInt by omega]; rw [if_pos (by omega), ← eg_48]); unfold bq_rl; rw [ES]; exact congrArg (fun k => bq_of k g_48) (by omega)) wpg_48 qvM_43 (by first | omega | decide) (by first | omega | decide) (by first | omega | decide) (by first | omega | decide) hw (lv_sub hl [0, 1, 2, 3, 4] rfl)
end
section
variable {Tc : gC} {Tm : gM}
variable {Tc : gC} {Tm : gM}
/-- what starts lays: the queue's own numbers; the first n men; the first n powers -/
def sd (q : Nat) (tx : Nat → Int) (M : ti_M) : Prop := (tY M 60 34 q).toInt = 0 ∧ (tY M 60 38 q).toInt = 0 ∧ (tY M 60 35 q).toInt = tx 6 ∧ (tY M 60 36 q).toInt = tx 11 ∧ tY M 60 37 q = 0
def sm (q n : Nat) (tx : Nat → Int) (M : ti_M) : Prop := ∀ m : Nat, m < n → (tY M 60 40 (8 * q + m)).toInt = 0 ∧ (tY M 60 44 (8 * q + m)).toInt = tx (100 + 16 * m + 7) ∧ (tY M 60 41 (8 * q + m)).toInt = tx (100 + 16 * m + 3) ∧ (tY M 60 42 (8 * q + m)).toInt = 0 ∧ (tY M 60 43 (8 * q + m)).toInt = tx (100 + 16 * m + 5) ∧ (tY M 60 47 (8 * q + m)).toInt = 0 ∧ (tY M 60 48 (8 * q + m)).toInt = -2
def sp (q n : Nat) (tx : Nat → Int) (M : ti_M) : Prop := ∀ k : Nat, k < n → k < 3 → (tY M 60 49 (3 * q + k)).toInt = tx (32 + k)
theorem sd_k {q : Nat} {tx : Nat → Int} {M N : ti_M} (h : sd q tx M) (a : tY N 60 34 = tY M 60 34) (b : tY N 60 35 = tY M 60 35) (c : tY N 60 36 = tY M 60 36) (d : tY N 60 37 = tY M 60 37) (e : tY N 60 38 = tY M 60 38) : sd q tx N := by
  unfold sd; rw [a, b, c, d, e]; exact h
theorem sm_0 {q : Nat} {tx : Nat → Int} {M : ti_M} : sm q 0 tx M := fun m h => absurd h (Nat.not_lt_zero m)
theorem sp_0 {q : Nat} {tx : Nat → Int} {M : ti_M} : sp q 0 tx M := fun m h => absurd h (Nat.not_lt_zero m)
theorem sm_s {q n i : Nat} {tx : Nat → Int} {M N : ti_M} {a40 a44 a41 a42 a43 a47 a48 : Int32} (h : sm q n tx M) (hi : i = 8 * q + n) (e40 : tY N 60 40 = upd (tY M 60 40) i a40) (e44 : tY N 60 44 = upd (tY M 60 44) i a44) (e41 : tY N 60 41 = upd (tY M 60 41) i a41) (e42 : tY N 60 42 = upd (tY M 60 42) i a42) (e43 : tY N 60 43 = upd (tY M 60 43) i a43) (e47 : tY N 60 47 = upd (tY M 60 47) i a47) (e48 : tY N 60 48 = upd (tY M 60 48) i a48) (v40 : a40.toInt = 0) (v44 : a44.toInt = tx (100 + 16 * n + 7)) (v41 : a41.toInt = tx (100 + 16 * n + 3)) (v42 : a42.toInt = 0) (v43 : a43.toInt = tx (100 + 16 * n + 5)) (v47 : a47.toInt = 0) (v48 : a48.toInt = -2) : sm q (n + 1) tx N := by
  subst hi
  intro m hm
  rw [e40, e44, e41, e42, e43, e47, e48]
  by_cases c : m = n
  · subst c
    rw [pk_us, pk_us, pk_us, pk_us, pk_us, pk_us, pk_us]
    exact ⟨v40, v44, v41, v42, v43, v47, v48⟩
  · rw [pk_un (by omega), pk_un (by omega), pk_un (by omega), pk_un (by omega), pk_un (by omega), pk_un (by omega), pk_un (by omega)]
    exact h m (by omega)
theorem sm_k {q n : Nat} {tx : Nat → Int} {M N : ti_M} (h : sm q n tx M) (e40 : tY N 60 40 = tY M 60 40) (e44 : tY N 60 44 = tY M 60 44) (e41 : tY N 60 41 = tY M 60 41) (e42 : tY N 60 42 = tY M 60 42) (e43 : tY N 60 43 = tY M 60 43) (e47 : tY N 60 47 = tY M 60 47) (e48 : tY N 60 48 = tY M 60 48) : sm q n tx N := by
  intro m hm; rw [e40, e44, e41, e42, e43, e47, e48]; exact h m hm
theorem sp_s {q n i : Nat} {tx : Nat → Int} {M N : ti_M} {a : Int32} (h : sp q n tx M) (hi : i = 3 * q + n) (e : tY N 60 49 = upd (tY M 60 49) i a) (v : a.toInt = tx (32 + n)) : sp q (n + 1) tx N := by
  subst hi
  intro m hm h3
  rw [e]
  by_cases c : m = n
  · subst c; rw [pk_us]; exact v
  · rw [pk_un (by omega)]; exact h m (by omega) h3
section
variable {tx J : Nat → Int} {m : Nat}
theorem s0_2 : bq_s0 tx J 2 = 0 := by unfold bq_s0 bq_fl bq_s1; rw [if_neg (by omega), if_neg (by omega), if_neg (by omega), if_neg (by omega), if_pos (by omega)]
theorem s0_3 : bq_s0 tx J 3 = 0 := by unfold bq_s0 bq_fl bq_s1; rw [if_neg (by omega), if_neg (by omega), if_neg (by omega), if_neg (by omega), if_pos (by omega)]
theorem s0_1 : bq_s0 tx J 1 = 0 := by unfold bq_s0 bq_fl bq_s1; rw [if_neg (by omega), if_neg (by omega), if_neg (by omega), if_neg (by omega), if_pos (by omega)]
theorem s0_4 : bq_s0 tx J 4 = tx 6 := by unfold bq_s0 bq_fl bq_s1; rw [if_neg (by omega), if_neg (by omega), if_neg (by omega), if_neg (by omega), if_neg (by omega), if_pos rfl]
theorem s0_5 : bq_s0 tx J 5 = tx 11 := by unfold bq_s0 bq_fl bq_s1; rw [if_neg (by omega), if_neg (by omega), if_neg (by omega), if_neg (by omega), if_neg (by omega), if_neg (by omega), if_pos rfl]
theorem s0_p (h : m < 3) : bq_s0 tx J (112 + m) = tx (32 + m) := by unfold bq_s0 bq_fl bq_s1; rw [if_neg (by omega), if_neg (by omega), if_neg (by omega), if_neg (by omega), if_neg (by omega), if_neg (by omega), if_neg (by omega), if_pos (by omega), show 112 + m - 112 = m by omega]
theorem s0_128 (h : m < 8) : bq_s0 tx J (128 + m) = 0 := by unfold bq_s0 bq_fl; rw [if_neg (by omega), if_neg (by omega), if_neg (by omega), if_pos (by omega)]
theorem s0_176 (h : m < 8) : bq_s0 tx J (176 + m) = 0 := by unfold bq_s0 bq_fl; rw [if_neg (by omega), if_neg (by omega), if_pos (by omega)]
theorem s0_240 (h : m < 8) : bq_s0 tx J (240 + m) = 0 := by unfold bq_s0 bq_fl; rw [if_neg (by omega), if_pos (by omega)]
theorem s0_256 (h : m < 8) : bq_s0 tx J (256 + m) = 0 := by unfold bq_s0 bq_fl; rw [if_pos (by omega)]
theorem s0_144 (h : m < (tx 4).toNat) (h4 : tx 4 ≤ 8) : bq_s0 tx J (144 + m) = tx (100 + 16 * m + 7) := by
  unfold bq_s0 bq_fl bq_s1; rw [if_neg (by omega), if_neg (by omega), if_neg (by omega), if_neg (by omega), if_neg (by omega), if_neg (by omega), if_neg (by omega), if_neg (by omega), if_pos (by omega), show 144 + m - 144 = m by omega]
theorem s0_160 (h : m < (tx 4).toNat) (h4 : tx 4 ≤ 8) : bq_s0 tx J (160 + m) = tx (100 + 16 * m + 3) := by
  unfold bq_s0 bq_fl bq_s1; rw [if_neg (by omega), if_neg (by omega), if_neg (by omega), if_neg (by omega), if_neg (by omega), if_neg (by omega), if_neg (by omega), if_neg (by omega), if_neg (by omega), if_pos (by omega), show 160 + m - 160 = m by omega]
theorem s0_192 (h : m < (tx 4).toNat) (h4 : tx 4 ≤ 8) : bq_s0 tx J (192 + m) = tx (100 + 16 * m + 5) := by
  unfold bq_s0 bq_fl bq_s1; rw [if_neg (by omega), if_neg (by omega), if_neg (by omega), if_neg (by omega), if_neg (by omega), if_neg (by omega), if_neg (by omega), if_neg (by omega), if_neg (by omega), if_neg (by omega), if_pos (by omega), show 192 + m - 192 = m by omega]
theorem s0_qR {q : Nat} {M : ti_M} (h4 : tx 4 ≤ 8) (a : sd q tx M) (b : sm q (tx 4).toNat tx M) (c : sp q 3 tx M) : qR (tx 4).toNat q (bq_s0 tx J) M ∧ qV (tx 4).toNat q (bq_s0 tx J) M := by
  refine ⟨⟨⟨s0_2.trans a.1.symm, s0_3.trans a.2.1.symm, s0_4.trans a.2.2.1.symm, s0_5.trans a.2.2.2.1.symm⟩, fun p _ h => ?_, fun k hk => (s0_p hk).trans (c k hk hk).symm, fun m hm => ?_, fun m hm => ?_, ?_⟩, fun m hm => ?_⟩
  · rw [s0_3] at h; exact absurd h (by omega)
  · have x := b m hm
    exact ⟨(s0_128 (by omega)).trans x.1.symm, (s0_144 hm h4).trans x.2.1.symm, (s0_160 hm h4).trans x.2.2.1.symm, (s0_176 (by omega)).trans x.2.2.2.1.symm, (s0_192 hm h4).trans x.2.2.2.2.1.symm, (s0_240 (by omega)).trans x.2.2.2.2.2.1.symm⟩
  · rw [s0_128 (by omega)]; exact ⟨fun h => absurd rfl h, fun h => absurd h (by decide)⟩
  · rw [if_pos s0_1]; intro m hm; rw [s0_256 hm, a.2.2.2.2, bt_0]
  · rw [s0_128 (by omega), if_neg (by decide)]; exact (b m hm).2.2.2.2.2.2
end
set_option maxHeartbeats 4000000 in
set_option maxRecDepth 100000 in
theorem z_X10_starts_0 (l : Launch) (D : va_G) (A : Nat → Nat → Nat) (cy : Nat → ClassId) (hJ : ti_inj ti_LM A) (M : ti_M) (hI : mI Tm M)  (tx J : Nat → Int) (htr : tR tx M) (ht4 : 0 ≤ tx 4 ∧ tx 4 ≤ 8) : ti_Kv l yX10_starts cX10_starts 4 0 ti_LM D A cy M [.ref (A 60 0), .int 0] (fun M2 => eR 0 M2 M ∧ qR (tx 4).toNat 0 (bq_s0 tx J) M2 ∧ qV (tx 4).toNat 0 (bq_s0 tx J) M2 ∧ mI Tm M2 ∧ rq 0 M2 M ∧ mC M2 0 ∧ mP M2 0) := by
  refine ti_eV yp_X10_starts hJ ti_LM_nd (Nat.le_of_ble_eq_true rfl) ?_
  intro p e s m args below meth c Q H0 C hQ hw ls hl
  have hx := C.1
  have hb := C.2.1
  have hl : lv_has ls 4 [(0, .ref (A 60 0)), (1, .int 0)] := hl
  refine lv_aload_n hx hb dX10_starts_0 rfl (lv_at hl 0 rfl) ?_
  refine ti_get (ci := 10) (k := 34) (N := 67) (T := TX10) (v := .ref (A 60 35)) C hw iw_10 rfl ob_60 (by decide) (by decide) fl_X10_69 rfl rfl dX10_starts_1 ?_
  refine lv_iload_n hx hb dX10_starts_4 rfl (lv_at hl 1 rfl) ?_
  refine lv_iconst (v := 0) hx hb dX10_starts_5 (by decide) ?_
  refine ti_iast (ci := 10) (k := 34) (n := 23) C hw ob_60 (by decide) (fun _ _ => rfl) (by unfold vp_in; decide) dX10_starts_6 (fun H locs hw => ?_)
  obtain ⟨M_1, hM_1⟩ : ∃ z : ti_M, z = uY M 60 34 (upd (tY M 60 34) (0 : Int32).toNatClampNeg 0) := ⟨_, rfl⟩
  have hw := hw.to hM_1.symm
  have iM_1 : mI Tm M_1 := mI_up (i := 0) hI hM_1 (fun _ => (ib_mk (lo := 0) (hi := 120) (by decide) (by decide)))
  refine lv_aload_n hx hb dX10_starts_7 rfl (lv_at hl 0 rfl) ?_
  refine ti_get (ci := 10) (k := 35) (N := 67) (T := TX10) (v := .ref (A 60 36)) C hw iw_10 rfl ob_60 (by decide) (by decide) fl_X10_72 rfl rfl dX10_starts_8 ?_
  refine lv_iload_n hx hb dX10_starts_11 rfl (lv_at hl 1 rfl) ?_
  refine lv_aload_n hx hb dX10_starts_12 rfl (lv_at hl 0 rfl) ?_
  refine ti_get (ci := 10) (k := 3) (N := 67) (T := TX10) (v := .ref (A 60 4)) C hw iw_10 rfl ob_60 (by decide) (by decide) fl_X10_13 rfl rfl dX10_starts_13 ?_
  refine lv_iconst (v := 1) hx hb dX10_starts_16 (by decide) ?_
  refine ti_iald (ci := 10) (k := 3) (n := 22) C hw ob_60 (by decide) (fun _ _ => rfl) (by unfold vp_in; decide) dX10_starts_17 ?_
  refine lv_topi (fun x_2 ex_2 => ?_)
  have yx_2 : tY M_1 60 3 1 = x_2 := ((congrArg _ (by decide)).symm.trans ex_2.symm)
  have zx_2 : (tY M_1 60 3 1).toInt = x_2.toInt := by rw [yx_2]
  have wx_2 : tY M 60 3 1 = x_2 := ((cg (tY_nE hM_1 (nk (by decide))) 1)).symm.trans yx_2
  have zwx_2 : (tY M 60 3 1).toInt = x_2.toInt := by rw [wx_2]
  have L_3 : tx 6 = x_2.toInt := (htr.1.2.1).trans ((congrArg Int32.toInt (cg ((tY_nE hM_1 (nk (by decide)))) 1)).symm.trans (congrArg Int32.toInt ((cg (tY_nE hM_1 (nk (by decide))) 1).trans wx_2)))
  refine ti_iast (ci := 10) (k := 35) (n := 23) C hw ob_60 (by decide) (fun _ _ => rfl) (by unfold vp_in; decide) dX10_starts_18 (fun H locs hw => ?_)
  obtain ⟨M_4, hM_4⟩ : ∃ z : ti_M, z = uY M_1 60 35 (upd (tY M_1 60 35) (0 : Int32).toNatClampNeg x_2) := ⟨_, rfl⟩
  have hw := hw.to hM_4.symm
  have iM_4 : mI Tm M_4 := mI_up (i := 0) iM_1 hM_4 trivial
  refine lv_aload_n hx hb dX10_starts_19 rfl (lv_at hl 0 rfl) ?_
  refine ti_get (ci := 10) (k := 36) (N := 67) (T := TX10) (v := .ref (A 60 37)) C hw iw_10 rfl ob_60 (by decide) (by decide) fl_X10_75 rfl rfl dX10_starts_20 ?_
  refine lv_iload_n hx hb dX10_starts_23 rfl (lv_at hl 1 rfl) ?_
  refine lv_aload_n hx hb dX10_starts_24 rfl (lv_at hl 0 rfl) ?_
  refine ti_get (ci := 10) (k := 3) (N := 67) (T := TX10) (v := .ref (A 60 4)) C hw iw_10 rfl ob_60 (by decide) (by decide) fl_X10_13 rfl rfl dX10_starts_25 ?_
  refine lv_bipush (v := 6) hx hb dX10_starts_28 (by decide) ?_
  refine ti_iald (ci := 10) (k := 3) (n := 22) C hw ob_60 (by decide) (fun _ _ => rfl) (by unfold vp_in; decide) dX10_starts_30 ?_
  refine lv_topi (fun x_5 ex_5 => ?_)
  have yx_5 : tY M_4 60 3 6 = x_5 := ((congrArg _ (by decide)).symm.trans ex_5.symm)
  have zx_5 : (tY M_4 60 3 6).toInt = x_5.toInt := by rw [yx_5]
  have wx_5 : tY M 60 3 6 = x_5 := (((cg (tY_nE hM_4 (nk (by decide))) 6).trans (cg (tY_nE hM_1 (nk (by decide))) 6))).symm.trans yx_5
  have zwx_5 : (tY M 60 3 6).toInt = x_5.toInt := by rw [wx_5]
  have L_6 : tx 11 = x_5.toInt := (htr.1.2.2.2.2.2.2.1).trans ((congrArg Int32.toInt (cg (((tY_nE hM_4 (nk (by decide))).trans (tY_nE hM_1 (nk (by decide))))) 6)).symm.trans (congrArg Int32.toInt ((cg (tY_nE hM_4 (nk (by decide))) 6).trans ((cg (tY_nE hM_1 (nk (by decide))) 6).trans wx_5))))
  refine ti_iast (ci := 10) (k := 36) (n := 23) C hw ob_60 (by decide) (fun _ _ => rfl) (by unfold vp_in; decide) dX10_starts_31 (fun H locs hw => ?_)
  obtain ⟨M_7, hM_7⟩ : ∃ z : ti_M, z = uY M_4 60 36 (upd (tY M_4 60 36) (0 : Int32).toNatClampNeg x_5) := ⟨_, rfl⟩
  have hw := hw.to hM_7.symm
  have iM_7 : mI Tm M_7 := mI_up (i := 0) iM_4 hM_7 trivial
  refine lv_aload_n hx hb dX10_starts_32 rfl (lv_at hl 0 rfl) ?_
  refine ti_get (ci := 10) (k := 37) (N := 67) (T := TX10) (v := .ref (A 60 38)) C hw iw_10 rfl ob_60 (by decide) (by decide) fl_X10_78 rfl rfl dX10_starts_33 ?_
  refine lv_iload_n hx hb dX10_starts_36 rfl (lv_at hl 1 rfl) ?_
  refine lv_iconst (v := 0) hx hb dX10_starts_37 (by decide) ?_
  refine ti_iast (ci := 10) (k := 37) (n := 23) C hw ob_60 (by decide) (fun _ _ => rfl) (by unfold vp_in; decide) dX10_starts_38 (fun H locs hw => ?_)
  obtain ⟨M_8, hM_8⟩ : ∃ z : ti_M, z = uY M_7 60 37 (upd (tY M_7 60 37) (0 : Int32).toNatClampNeg 0) := ⟨_, rfl⟩
  have hw := hw.to hM_8.symm
  have iM_8 : mI Tm M_8 := mI_up (i := 0) iM_7 hM_8 trivial
  refine lv_aload_n hx hb dX10_starts_39 rfl (lv_at hl 0 rfl) ?_
  refine ti_get (ci := 10) (k := 38) (N := 67) (T := TX10) (v := .ref (A 60 39)) C hw iw_10 rfl ob_60 (by decide) (by decide) fl_X10_81 rfl rfl dX10_starts_40 ?_
  refine lv_iload_n hx hb dX10_starts_43 rfl (lv_at hl 1 rfl) ?_
  refine lv_iconst (v := 0) hx hb dX10_starts_44 (by decide) ?_
  refine ti_iast (ci := 10) (k := 38) (n := 23) C hw ob_60 (by decide) (fun _ _ => rfl) (by unfold vp_in; decide) dX10_starts_45 (fun H locs hw => ?_)
  obtain ⟨M_9, hM_9⟩ : ∃ z : ti_M, z = uY M_8 60 38 (upd (tY M_8 60 38) (0 : Int32).toNatClampNeg 0) := ⟨_, rfl⟩
  have hw := hw.to hM_9.symm
  have iM_9 : mI Tm M_9 := mI_up (i := 0) iM_8 hM_9 (ib_mk (lo := 0) (hi := 8) (by decide) (by decide))
  refine lv_iconst (v := 0) hx hb dX10_starts_46 (by decide) ?_
  refine lv_istore_n (lv' := [(2, .int 0), (0, .ref (A 60 0)), (1, .int 0)]) hx hb dX10_starts_47 rfl hl (by decide) rfl (fun ls hl => ?_)
  have hl_48_19 : ∀ (n_20 : Nat) (x_10 : Int32) (M_13 : ti_M) (H : Heap) (locs : List Loc) (ls : Array Slot), (8 - x_10.toInt : Int).toNat < n_20 → (0 ≤ x_10.toInt) → (x_10.toInt ≤ 8) → (mI Tm M_13) → (lk M_13 M) → (eR 0 M_13 M) → (stq M M_13 0 x_10.toInt) → (sd 0 tx M_13) → (sm 0 (x_10.toInt).toNat tx M_13) → (x_10.toInt ≤ tx 4) → ti_H ti_LM D A cy H0 M_13 H locs → lv_has ls 4 [(2, .int x_10), (0, .ref (A 60 0)), (1, .int 0)] → W p l e (ti_rm 0) s m args below meth c H locs 0 0 Q (F0 m 48 ls []) := by
    intro n_20
    induction n_20 with
    | zero => intro x_10 M_13 H locs ls hf_20; exact absurd hf_20 (Nat.not_lt_zero _)
    | succ n_20 ih_20 =>
      intro x_10 M_13 H locs ls hf_20 b_11 b_12 iM_13 f_14 f_15 j_16 j_17 j_18 j_19 hw hl
      refine lv_iload_n hx hb dX10_starts_48 rfl (lv_at hl 0 rfl) ?_
      refine lv_aload_n hx hb dX10_starts_49 rfl (lv_at hl 1 rfl) ?_
      refine ti_get (ci := 10) (k := 3) (N := 67) (T := TX10) (v := .ref (A 60 4)) C hw iw_10 rfl ob_60 (by decide) (by decide) fl_X10_13 rfl rfl dX10_starts_50 ?_
      refine lv_iconst (v := 0) hx hb dX10_starts_53 (by decide) ?_
      refine ti_iald (ci := 10) (k := 3) (n := 22) C hw ob_60 (by decide) (fun _ _ => rfl) (by unfold vp_in; decide) dX10_starts_54 ?_
      refine lv_topi (fun x_21 ex_21 => ?_)
      have yx_21 : tY M_13 60 3 0 = x_21 := ((congrArg _ (by decide)).symm.trans ex_21.symm)
      have bx_21 : 0 ≤ x_21.toInt ∧ x_21.toInt ≤ 8 := mI_rn (i := 0) iM_13 yx_21.symm (fun _ h => h)
      have zx_21 : (tY M_13 60 3 0).toInt = x_21.toInt := by rw [yx_21]
      have wx_21 : tY M 60 3 0 = x_21 := ((cg (f_14.1 3 (by decide) (by decide)) 0)).symm.trans yx_21
      have zwx_21 : (tY M 60 3 0).toInt = x_21.toInt := by rw [wx_21]
      have L_22 : tx 4 = x_21.toInt := (htr.1.1).trans ((congrArg Int32.toInt (cg ((f_14.1 3 (by decide) (by decide))) 0)).symm.trans (congrArg Int32.toInt ((cg (f_14.1 3 (by decide) (by decide)) 0).trans wx_21)))
      refine sb_icmp_ge (tgt := 150) hx hb rfl rfl dX10_starts_55 (by decide) (fun c_55_22 => ?_) (fun c_55_22 => ?_)
      · refine lv_iconst (v := 0) hx hb dX10_starts_150 (by decide) ?_
        refine lv_istore_n (lv' := [(2, .int 0), (0, .ref (A 60 0)), (1, .int 0)]) hx hb dX10_starts_151 rfl hl (by decide) rfl (fun ls hl => ?_)
        have hl_152_50 : ∀ (n_51 : Nat) (x_41 : Int32) (M_44 : ti_M) (H : Heap) (locs : List Loc) (ls : Array Slot), (3 - x_41.toInt : Int).toNat < n_51 → (0 ≤ x_41.toInt) → (x_41.toInt ≤ 3) → (mI Tm M_44) → (lk M_44 M) → (eR 0 M_44 M) → (stq M M_44 0 (tY M 60 3 0).toInt) → (sd 0 tx M_44) → (sm 0 (tx 4).toNat tx M_44) → (sp 0 (x_41.toInt).toNat tx M_44) → ti_H ti_LM D A cy H0 M_44 H locs → lv_has ls 4 [(2, .int x_41), (0, .ref (A 60 0)), (1, .int 0)] → W p l e (ti_rm 0) s m args below meth c H locs 0 0 Q (F0 m 152 ls []) := by
          intro n_51
          induction n_51 with
          | zero => intro x_41 M_44 H locs ls hf_51; exact absurd hf_51 (Nat.not_lt_zero _)
          | succ n_51 ih_51 =>
            intro x_41 M_44 H locs ls hf_51 b_42 b_43 iM_44 f_45 f_46 j_47 j_48 j_49 j_50 hw hl
            refine lv_iload_n hx hb dX10_starts_152 rfl (lv_at hl 0 rfl) ?_
            refine lv_iconst (v := 3) hx hb dX10_starts_153 (by decide) ?_
            refine sb_icmp_ge (tgt := 182) hx hb rfl (by decide : (3 : Int32).toInt = 3) dX10_starts_154 (by decide) (fun c_154_51 => ?_) (fun c_154_51 => ?_)
            · have jj := q_start hI j_47 f_45
              have SQ_60 := s0_qR (J := J) ht4.2 j_48 j_49 (by have q := j_50; rw [show x_41.toInt.toNat = 3 by omega] at q; exact q)
              exact hQ _ _ _ _ _ hw (⟨f_46, SQ_60.1, SQ_60.2, iM_44, jj.1, jj.2.1, jj.2.2⟩) dX10_starts_182
            · refine lv_aload_n hx hb dX10_starts_157 rfl (lv_at hl 1 rfl) ?_
              refine ti_get (ci := 10) (k := 49) (N := 67) (T := TX10) (v := .ref (A 60 50)) C hw iw_10 rfl ob_60 (by decide) (by decide) fl_X10_114 rfl rfl dX10_starts_158 ?_
              refine lv_iconst (v := 3) hx hb dX10_starts_161 (by decide) ?_
              refine lv_iload_n hx hb dX10_starts_162 rfl (lv_at hl 2 rfl) ?_
              refine lv_imul hx hb dX10_starts_163 ?_
              refine ti_top (y := 0) (by decide) ?_
              refine lv_iload_n hx hb dX10_starts_164 rfl (lv_at hl 0 rfl) ?_
              refine lv_iadd hx hb dX10_starts_165 ?_
              refine lv_topi (fun x_53 ex_53 => ?_)
              have tx_53 : x_53.toInt = 0 + x_41.toInt := i_add ex_53 (by decide : (0 : Int32).toInt = 0) rfl (by omega) (by omega)
              refine lv_aload_n hx hb dX10_starts_166 rfl (lv_at hl 1 rfl) ?_
              refine ti_get (ci := 10) (k := 3) (N := 67) (T := TX10) (v := .ref (A 60 4)) C hw iw_10 rfl ob_60 (by decide) (by decide) fl_X10_13 rfl rfl dX10_starts_167 ?_
              refine lv_bipush (v := 8) hx hb dX10_starts_170 (by decide) ?_
              refine lv_iload_n hx hb dX10_starts_172 rfl (lv_at hl 0 rfl) ?_
              refine lv_iadd hx hb dX10_starts_173 ?_
              refine lv_topi (fun x_54 ex_54 => ?_)
              have tx_54 : x_54.toInt = 8 + x_41.toInt := i_add ex_54 (by decide : (8 : Int32).toInt = 8) rfl (by omega) (by omega)
              refine ti_iald (ci := 10) (k := 3) (n := 22) C hw ob_60 (by decide) (fun _ _ => rfl) (vp_in_iff.mpr (by omega)) dX10_starts_174 ?_
              refine lv_topi (fun x_55 ex_55 => ?_)
              have yx_55 : tY M_44 60 3 x_54.toNatClampNeg = x_55 := (ex_55.symm)
              have bx_55 : 0 ≤ x_55.toInt ∧ x_55.toInt ≤ 7 := mI_rn (i := x_54.toNatClampNeg) iM_44 yx_55.symm (fun _ h => mN_p (by show 8 ≤ (x_54).toInt.toNat; omega) (by show (x_54).toInt.toNat ≤ 10; omega) h)
              have zx_55 : (tY M_44 60 3 x_54.toNatClampNeg).toInt = x_55.toInt := by rw [yx_55]
              have wx_55 : tY M 60 3 x_54.toNatClampNeg = x_55 := ((cg (f_45.1 3 (by decide) (by decide)) x_54.toNatClampNeg)).symm.trans yx_55
              have zwx_55 : (tY M 60 3 x_54.toNatClampNeg).toInt = x_55.toInt := by rw [wx_55]
              have PW_57 : x_55.toInt = tx (32 + x_41.toInt.toNat) := by rw [htr.2.1 x_41.toInt.toNat (by omega), ← zx_55, i_cl (n := 8 + x_41.toInt.toNat) (by omega), ((f_45.1 3 (by decide) (by decide)))]
              refine ti_iast (ci := 10) (k := 49) (n := 69) C hw ob_60 (by decide) (fun _ _ => rfl) (vp_in_iff.mpr (by omega)) dX10_starts_175 (fun H locs hw => ?_)
              obtain ⟨M_58, hM_58⟩ : ∃ z : ti_M, z = uY M_44 60 49 (upd (tY M_44 60 49) (x_53 : Int32).toNatClampNeg x_55) := ⟨_, rfl⟩
              have hw := hw.to hM_58.symm
              have iM_58 : mI Tm M_58 := mI_up (i := x_53.toNatClampNeg) iM_44 hM_58 (ib_mk (lo := 0) (hi := 7) (by omega) (by omega))
              obtain ⟨x_59, ex_59⟩ : ∃ z : Int32, z = x_41 + 1 := ⟨_, rfl⟩
              have tx_59 : x_59.toInt = x_41.toInt + 1 := i_add ex_59 rfl (by decide) (by omega) (by omega)
              refine lv_iinc (v := x_59) (lv' := [(2, .int x_59), (0, .ref (A 60 0)), (1, .int 0)]) hx hb dX10_starts_176 hl (k := 0) rfl (by rw [ex_59]; rfl) (by decide) rfl (fun ls hl => ?_)
              refine lv_goto (tgt := 152) hx hb dX10_starts_179 (by decide) ?_
              exact ih_51 x_59 M_58 _ _ _ (by omega) (by first | omega | decide) (by first | omega | decide) iM_58 (lk.trans (lk_Y hM_58 (by decide)) f_45) (eR.trans (eR_Y hM_58 (bk_p (z := x_53) (by omega))) f_46) (stq_qw j_47 (qw_Y hM_58 (by decide))) (sd_k j_48 ((tY_nE hM_58 (nk (by decide)))) ((tY_nE hM_58 (nk (by decide)))) ((tY_nE hM_58 (nk (by decide)))) ((tY_nE hM_58 (nk (by decide)))) ((tY_nE hM_58 (nk (by decide))))) (sm_k j_49 ((tY_nE hM_58 (nk (by decide)))) ((tY_nE hM_58 (nk (by decide)))) ((tY_nE hM_58 (nk (by decide)))) ((tY_nE hM_58 (nk (by decide)))) ((tY_nE hM_58 (nk (by decide)))) ((tY_nE hM_58 (nk (by decide)))) ((tY_nE hM_58 (nk (by decide))))) (by rw [show x_59.toInt.toNat = x_41.toInt.toNat + 1 by omega]; exact sp_s j_50 (i_cl (by omega)) (tY_uE hM_58) PW_57) hw (lv_sub hl [0, 1, 2] rfl)
        exact hl_152_50 ((3 - 0 : Int).toNat + 1) 0 M_13 _ _ _ (Nat.lt_succ_self _) (by have lt0 : (0 : Int32).toInt = 0 := (by decide); first | omega | decide) (by have lt0 : (0 : Int32).toInt = 0 := (by decide); first | omega | decide) iM_13 f_14 f_15 (stq_le j_16 (by omega)) j_17 (by rw [show (tx 4).toNat = x_10.toInt.toNat by omega]; exact j_18) sp_0 hw (lv_sub hl [0, 1, 2] rfl)
      · refine lv_bipush (v := 8) hx hb dX10_starts_58 (by decide) ?_
        refine lv_iload_n hx hb dX10_starts_60 rfl (lv_at hl 2 rfl) ?_
        refine lv_imul hx hb dX10_starts_61 ?_
        refine ti_top (y := 0) (by decide) ?_
        refine lv_iload_n hx hb dX10_starts_62 rfl (lv_at hl 0 rfl) ?_
        refine lv_iadd hx hb dX10_starts_63 ?_
        refine lv_topi (fun x_24 ex_24 => ?_)
        have tx_24 : x_24.toInt = 0 + x_10.toInt := i_add ex_24 (by decide : (0 : Int32).toInt = 0) rfl (by omega) (by omega)
        refine lv_istore_n (lv' := [(3, .int x_24), (2, .int x_10), (0, .ref (A 60 0)), (1, .int 0)]) hx hb dX10_starts_64 rfl hl (by decide) rfl (fun ls hl => ?_)
        refine lv_aload_n hx hb dX10_starts_65 rfl (lv_at hl 2 rfl) ?_
        refine ti_get (ci := 10) (k := 40) (N := 67) (T := TX10) (v := .ref (A 60 41)) C hw iw_10 rfl ob_60 (by decide) (by decide) fl_X10_87 rfl rfl dX10_starts_66 ?_
        refine lv_iload_n hx hb dX10_starts_69 rfl (lv_at hl 0 rfl) ?_
        refine lv_iconst (v := 0) hx hb dX10_starts_70 (by decide) ?_
        refine ti_iast (ci := 10) (k := 40) (n := 184) C hw ob_60 (by decide) (fun _ _ => rfl) (vp_in_iff.mpr (by omega)) dX10_starts_71 (fun H locs hw => ?_)
        obtain ⟨M_25, hM_25⟩ : ∃ z : ti_M, z = uY M_13 60 40 (upd (tY M_13 60 40) (x_24 : Int32).toNatClampNeg 0) := ⟨_, rfl⟩
        have hw := hw.to hM_25.symm
        have iM_25 : mI Tm M_25 := mI_up (i := x_24.toNatClampNeg) iM_13 hM_25 trivial
        refine lv_aload_n hx hb dX10_starts_72 rfl (lv_at hl 2 rfl) ?_
        refine ti_get (ci := 10) (k := 41) (N := 67) (T := TX10) (v := .ref (A 60 42)) C hw iw_10 rfl ob_60 (by decide) (by decide) fl_X10_90 rfl rfl dX10_starts_73 ?_
        refine lv_iload_n hx hb dX10_starts_76 rfl (lv_at hl 0 rfl) ?_
        refine lv_aload_n hx hb dX10_starts_77 rfl (lv_at hl 2 rfl) ?_
        refine ti_get (ci := 10) (k := 7) (N := 67) (T := TX10) (v := .ref (A 60 8)) C hw iw_10 rfl ob_60 (by decide) (by decide) fl_X10_25 rfl rfl dX10_starts_78 ?_
        refine lv_iload_n hx hb dX10_starts_81 rfl (lv_at hl 1 rfl) ?_
        refine ti_iald (ci := 10) (k := 7) (n := 16) C hw ob_60 (by decide) (fun _ _ => rfl) (vp_in_iff.mpr (by omega)) dX10_starts_82 ?_
        refine lv_topi (fun x_26 ex_26 => ?_)
        have yx_26 : tY M_25 60 7 x_10.toNatClampNeg = x_26 := (ex_26.symm)
        have wx_26 : tY M 60 7 x_10.toNatClampNeg = x_26 := (((cg (tY_nE hM_25 (nk (by decide))) x_10.toNatClampNeg).trans (cg (f_14.1 7 (by decide) (by decide)) x_10.toNatClampNeg))).symm.trans yx_26
        have L_27 : tx (100 + 16 * x_10.toInt.toNat + 3) = x_26.toInt := (htr.2.2.1 (x_10.toInt.toNat) (by omega) (by omega)).2.2.1.trans ((congrArg Int32.toInt (cg (((tY_nE hM_25 (nk (by decide))).trans (f_14.1 7 (by decide) (by decide)))) (x_10.toInt.toNat))).symm.trans (rd_k (n := x_10.toInt.toNat) (by omega) ((cg (tY_nE hM_25 (nk (by decide))) x_10.toNatClampNeg).trans ((cg (f_14.1 7 (by decide) (by decide)) x_10.toNatClampNeg).trans wx_26))))
        refine ti_iast (ci := 10) (k := 41) (n := 184) C hw ob_60 (by decide) (fun _ _ => rfl) (vp_in_iff.mpr (by omega)) dX10_starts_83 (fun H locs hw => ?_)
        obtain ⟨M_28, hM_28⟩ : ∃ z : ti_M, z = uY M_25 60 41 (upd (tY M_25 60 41) (x_24 : Int32).toNatClampNeg x_26) := ⟨_, rfl⟩
        have hw := hw.to hM_28.symm
        have iM_28 : mI Tm M_28 := mI_up (i := x_24.toNatClampNeg) iM_25 hM_28 trivial
        refine lv_aload_n hx hb dX10_starts_84 rfl (lv_at hl 2 rfl) ?_
        refine ti_get (ci := 10) (k := 42) (N := 67) (T := TX10) (v := .ref (A 60 43)) C hw iw_10 rfl ob_60 (by decide) (by decide) fl_X10_93 rfl rfl dX10_starts_85 ?_
        refine lv_iload_n hx hb dX10_starts_88 rfl (lv_at hl 0 rfl) ?_
        refine lv_iconst (v := 0) hx hb dX10_starts_89 (by decide) ?_
        refine ti_iast (ci := 10) (k := 42) (n := 184) C hw ob_60 (by decide) (fun _ _ => rfl) (vp_in_iff.mpr (by omega)) dX10_starts_90 (fun H locs hw => ?_)
        obtain ⟨M_29, hM_29⟩ : ∃ z : ti_M, z = uY M_28 60 42 (upd (tY M_28 60 42) (x_24 : Int32).toNatClampNeg 0) := ⟨_, rfl⟩
        have hw := hw.to hM_29.symm
        have iM_29 : mI Tm M_29 := mI_up (i := x_24.toNatClampNeg) iM_28 hM_29 trivial
        refine lv_aload_n hx hb dX10_starts_91 rfl (lv_at hl 2 rfl) ?_
        refine ti_get (ci := 10) (k := 43) (N := 67) (T := TX10) (v := .ref (A 60 44)) C hw iw_10 rfl ob_60 (by decide) (by decide) fl_X10_96 rfl rfl dX10_starts_92 ?_
        refine lv_iload_n hx hb dX10_starts_95 rfl (lv_at hl 0 rfl) ?_
        refine lv_aload_n hx hb dX10_starts_96 rfl (lv_at hl 2 rfl) ?_
        refine ti_get (ci := 10) (k := 9) (N := 67) (T := TX10) (v := .ref (A 60 10)) C hw iw_10 rfl ob_60 (by decide) (by decide) fl_X10_31 rfl rfl dX10_starts_97 ?_
        refine lv_iload_n hx hb dX10_starts_100 rfl (lv_at hl 1 rfl) ?_
        refine ti_iald (ci := 10) (k := 9) (n := 16) C hw ob_60 (by decide) (fun _ _ => rfl) (vp_in_iff.mpr (by omega)) dX10_starts_101 ?_
        refine lv_topi (fun x_30 ex_30 => ?_)
        have yx_30 : tY M_29 60 9 x_10.toNatClampNeg = x_30 := (ex_30.symm)
        have wx_30 : tY M 60 9 x_10.toNatClampNeg = x_30 := (((cg (tY_nE hM_29 (nk (by decide))) x_10.toNatClampNeg).trans ((cg (tY_nE hM_28 (nk (by decide))) x_10.toNatClampNeg).trans ((cg (tY_nE hM_25 (nk (by decide))) x_10.toNatClampNeg).trans (cg (f_14.1 9 (by decide) (by decide)) x_10.toNatClampNeg))))).symm.trans yx_30
        have L_31 : tx (100 + 16 * x_10.toInt.toNat + 5) = x_30.toInt := (htr.2.2.1 (x_10.toInt.toNat) (by omega) (by omega)).2.2.2.2.1.trans ((congrArg Int32.toInt (cg (((tY_nE hM_29 (nk (by decide))).trans ((tY_nE hM_28 (nk (by decide))).trans ((tY_nE hM_25 (nk (by decide))).trans (f_14.1 9 (by decide) (by decide)))))) (x_10.toInt.toNat))).symm.trans (rd_k (n := x_10.toInt.toNat) (by omega) ((cg (tY_nE hM_29 (nk (by decide))) x_10.toNatClampNeg).trans ((cg (tY_nE hM_28 (nk (by decide))) x_10.toNatClampNeg).trans ((cg (tY_nE hM_25 (nk (by decide))) x_10.toNatClampNeg).trans ((cg (f_14.1 9 (by decide) (by decide)) x_10.toNatClampNeg).trans wx_30))))))
        refine ti_iast (ci := 10) (k := 43) (n := 184) C hw ob_60 (by decide) (fun _ _ => rfl) (vp_in_iff.mpr (by omega)) dX10_starts_102 (fun H locs hw => ?_)
        obtain ⟨M_32, hM_32⟩ : ∃ z : ti_M, z = uY M_29 60 43 (upd (tY M_29 60 43) (x_24 : Int32).toNatClampNeg x_30) := ⟨_, rfl⟩
        have hw := hw.to hM_32.symm
        have iM_32 : mI Tm M_32 := mI_up (i := x_24.toNatClampNeg) iM_29 hM_32 trivial
        refine lv_aload_n hx hb dX10_starts_103 rfl (lv_at hl 2 rfl) ?_
        refine ti_get (ci := 10) (k := 44) (N := 67) (T := TX10) (v := .ref (A 60 45)) C hw iw_10 rfl ob_60 (by decide) (by decide) fl_X10_99 rfl rfl dX10_starts_104 ?_
        refine lv_iload_n hx hb dX10_starts_107 rfl (lv_at hl 0 rfl) ?_
        refine lv_aload_n hx hb dX10_starts_108 rfl (lv_at hl 2 rfl) ?_
        refine ti_get (ci := 10) (k := 11) (N := 67) (T := TX10) (v := .ref (A 60 12)) C hw iw_10 rfl ob_60 (by decide) (by decide) fl_X10_37 rfl rfl dX10_starts_109 ?_
        refine lv_iload_n hx hb dX10_starts_112 rfl (lv_at hl 1 rfl) ?_
        refine ti_iald (ci := 10) (k := 11) (n := 16) C hw ob_60 (by decide) (fun _ _ => rfl) (vp_in_iff.mpr (by omega)) dX10_starts_113 ?_
        refine lv_topi (fun x_33 ex_33 => ?_)
        have yx_33 : tY M_32 60 11 x_10.toNatClampNeg = x_33 := (ex_33.symm)
        have wx_33 : tY M 60 11 x_10.toNatClampNeg = x_33 := (((cg (tY_nE hM_32 (nk (by decide))) x_10.toNatClampNeg).trans ((cg (tY_nE hM_29 (nk (by decide))) x_10.toNatClampNeg).trans ((cg (tY_nE hM_28 (nk (by decide))) x_10.toNatClampNeg).trans ((cg (tY_nE hM_25 (nk (by decide))) x_10.toNatClampNeg).trans (cg (f_14.1 11 (by decide) (by decide)) x_10.toNatClampNeg)))))).symm.trans yx_33
        have L_34 : tx (100 + 16 * x_10.toInt.toNat + 7) = x_33.toInt := (htr.2.2.1 (x_10.toInt.toNat) (by omega) (by omega)).2.2.2.2.2.2.1.trans ((congrArg Int32.toInt (cg (((tY_nE hM_32 (nk (by decide))).trans ((tY_nE hM_29 (nk (by decide))).trans ((tY_nE hM_28 (nk (by decide))).trans ((tY_nE hM_25 (nk (by decide))).trans (f_14.1 11 (by decide) (by decide))))))) (x_10.toInt.toNat))).symm.trans (rd_k (n := x_10.toInt.toNat) (by omega) ((cg (tY_nE hM_32 (nk (by decide))) x_10.toNatClampNeg).trans ((cg (tY_nE hM_29 (nk (by decide))) x_10.toNatClampNeg).trans ((cg (tY_nE hM_28 (nk (by decide))) x_10.toNatClampNeg).trans ((cg (tY_nE hM_25 (nk (by decide))) x_10.toNatClampNeg).trans ((cg (f_14.1 11 (by decide) (by decide)) x_10.toNatClampNeg).trans wx_33)))))))
        refine ti_iast (ci := 10) (k := 44) (n := 184) C hw ob_60 (by decide) (fun _ _ => rfl) (vp_in_iff.mpr (by omega)) dX10_starts_114 (fun H locs hw => ?_)
        obtain ⟨M_35, hM_35⟩ : ∃ z : ti_M, z = uY M_32 60 44 (upd (tY M_32 60 44) (x_24 : Int32).toNatClampNeg x_33) := ⟨_, rfl⟩
        have hw := hw.to hM_35.symm
        have iM_35 : mI Tm M_35 := mI_up (i := x_24.toNatClampNeg) iM_32 hM_35 trivial
        refine lv_aload_n hx hb dX10_starts_115 rfl (lv_at hl 2 rfl) ?_
        refine ti_get (ci := 10) (k := 45) (N := 67) (T := TX10) (v := .ref (A 60 46)) C hw iw_10 rfl ob_60 (by decide) (by decide) fl_X10_102 rfl rfl dX10_starts_116 ?_
        refine lv_iload_n hx hb dX10_starts_119 rfl (lv_at hl 0 rfl) ?_
        refine lv_iconst (v := 0) hx hb dX10_starts_120 (by decide) ?_
        refine ti_iast (ci := 10) (k := 45) (n := 184) C hw ob_60 (by decide) (fun _ _ => rfl) (vp_in_iff.mpr (by omega)) dX10_starts_121 (fun H locs hw => ?_)
        obtain ⟨M_36, hM_36⟩ : ∃ z : ti_M, z = uY M_35 60 45 (upd (tY M_35 60 45) (x_24 : Int32).toNatClampNeg 0) := ⟨_, rfl⟩
        have hw := hw.to hM_36.symm
        have iM_36 : mI Tm M_36 := mI_up (i := x_24.toNatClampNeg) iM_35 hM_36 trivial
        refine lv_aload_n hx hb dX10_starts_122 rfl (lv_at hl 2 rfl) ?_
        refine ti_get (ci := 10) (k := 46) (N := 67) (T := TX10) (v := .ref (A 60 47)) C hw iw_10 rfl ob_60 (by decide) (by decide) fl_X10_105 rfl rfl dX10_starts_123 ?_
        refine lv_iload_n hx hb dX10_starts_126 rfl (lv_at hl 0 rfl) ?_
        refine lv_iconst (v := 0) hx hb dX10_starts_127 (by decide) ?_
        refine ti_iast (ci := 10) (k := 46) (n := 184) C hw ob_60 (by decide) (fun _ _ => rfl) (vp_in_iff.mpr (by omega)) dX10_starts_128 (fun H locs hw => ?_)
        obtain ⟨M_37, hM_37⟩ : ∃ z : ti_M, z = uY M_36 60 46 (upd (tY M_36 60 46) (x_24 : Int32).toNatClampNeg 0) := ⟨_, rfl⟩
        have hw := hw.to hM_37.symm
        have iM_37 : mI Tm M_37 := mI_up (i := x_24.toNatClampNeg) iM_36 hM_37 trivial
        refine lv_aload_n hx hb dX10_starts_129 rfl (lv_at hl 2 rfl) ?_
        refine ti_get (ci := 10) (k := 47) (N := 67) (T := TX10) (v := .ref (A 60 48)) C hw iw_10 rfl ob_60 (by decide) (by decide) fl_X10_108 rfl rfl dX10_starts_130 ?_
        refine lv_iload_n hx hb dX10_starts_133 rfl (lv_at hl 0 rfl) ?_
        refine lv_iconst (v := 0) hx hb dX10_starts_134 (by decide) ?_
        refine ti_iast (ci := 10) (k := 47) (n := 184) C hw ob_60 (by decide) (fun _ _ => rfl) (vp_in_iff.mpr (by omega)) dX10_starts_135 (fun H locs hw => ?_)
        obtain ⟨M_38, hM_38⟩ : ∃ z : ti_M, z = uY M_37 60 47 (upd (tY M_37 60 47) (x_24 : Int32).toNatClampNeg 0) := ⟨_, rfl⟩
        have hw := hw.to hM_38.symm
        have iM_38 : mI Tm M_38 := mI_up (i := x_24.toNatClampNeg) iM_37 hM_38 trivial
        refine lv_aload_n hx hb dX10_starts_136 rfl (lv_at hl 2 rfl) ?_
        refine ti_get (ci := 10) (k := 48) (N := 67) (T := TX10) (v := .ref (A 60 49)) C hw iw_10 rfl ob_60 (by decide) (by decide) fl_X10_111 rfl rfl dX10_starts_137 ?_
        refine lv_iload_n hx hb dX10_starts_140 rfl (lv_at hl 0 rfl) ?_
        refine lv_bipush (v := (-2)) hx hb dX10_starts_141 (by decide) ?_
        refine ti_iast (ci := 10) (k := 48) (n := 184) C hw ob_60 (by decide) (fun _ _ => rfl) (vp_in_iff.mpr (by omega)) dX10_starts_143 (fun H locs hw => ?_)
        obtain ⟨M_39, hM_39⟩ : ∃ z : ti_M, z = uY M_38 60 48 (upd (tY M_38 60 48) (x_24 : Int32).toNatClampNeg (-2)) := ⟨_, rfl⟩
        have hw := hw.to hM_39.symm
        have iM_39 : mI Tm M_39 := mI_up (i := x_24.toNatClampNeg) iM_38 hM_39 trivial
        obtain ⟨x_40, ex_40⟩ : ∃ z : Int32, z = x_10 + 1 := ⟨_, rfl⟩
        have tx_40 : x_40.toInt = x_10.toInt + 1 := i_add ex_40 rfl (by decide) (by omega) (by omega)
        refine lv_iinc (v := x_40) (lv' := [(2, .int x_40), (3, .int x_24), (0, .ref (A 60 0)), (1, .int 0)]) hx hb dX10_starts_144 hl (k := 1) rfl (by rw [ex_40]; rfl) (by decide) rfl (fun ls hl => ?_)
        refine lv_goto (tgt := 48) hx hb dX10_starts_147 (by decide) ?_
        exact ih_20 x_40 M_39 _ _ _ (by omega) (by first | omega | decide) (by first | omega | decide) iM_39 (lk.trans (lk_Y hM_39 (by decide)) (lk.trans (lk_Y hM_38 (by decide)) (lk.trans (lk_Y hM_37 (by decide)) (lk.trans (lk_Y hM_36 (by decide)) (lk.trans (lk_Y hM_35 (by decide)) (lk.trans (lk_Y hM_32 (by decide)) (lk.trans (lk_Y hM_29 (by decide)) (lk.trans (lk_Y hM_28 (by decide)) (lk.trans (lk_Y hM_25 (by decide)) f_14))))))))) (eR.trans (eR_Y hM_39 (bk_m (z := x_24) (by omega) (by decide))) (eR.trans (eR_Y hM_38 (bk_m (z := x_24) (by omega) (by decide))) (eR.trans (eR_Y hM_37 (bk_m (z := x_24) (by omega) (by decide))) (eR.trans (eR_Y hM_36 (bk_m (z := x_24) (by omega) (by decide))) (eR.trans (eR_Y hM_35 (bk_m (z := x_24) (by omega) (by decide))) (eR.trans (eR_Y hM_32 (bk_m (z := x_24) (by omega) (by decide))) (eR.trans (eR_Y hM_29 (bk_m (z := x_24) (by omega) (by decide))) (eR.trans (eR_Y hM_28 (bk_m (z := x_24) (by omega) (by decide))) (eR.trans (eR_Y hM_25 (bk_m (z := x_24) (by omega) (by decide))) f_15))))))))) (stq_s j_16 hM_25 (qw.trans (qw_Y hM_39 (by decide)) (qw.trans (qw_Y hM_38 (by decide)) (qw.trans (qw_Y hM_37 (by decide)) (qw.trans (qw_Y hM_36 (by decide)) (qw.trans (qw_Y hM_35 (by decide)) (qw.trans (qw_Y hM_32 (by decide)) (qw.trans (qw_Y hM_29 (by decide)) (qw_Y hM_28 (by decide))))))))) (by show ((x_24.toInt.toNat : Nat) : Int) = _; omega) (by omega) (by omega) (by omega)) (sd_k j_17 (((tY_nE hM_39 (nk (by decide))).trans ((tY_nE hM_38 (nk (by decide))).trans ((tY_nE hM_37 (nk (by decide))).trans ((tY_nE hM_36 (nk (by decide))).trans ((tY_nE hM_35 (nk (by decide))).trans ((tY_nE hM_32 (nk (by decide))).trans ((tY_nE hM_29 (nk (by decide))).trans ((tY_nE hM_28 (nk (by decide))).trans (tY_nE hM_25 (nk (by decide)))))))))))) (((tY_nE hM_39 (nk (by decide))).trans ((tY_nE hM_38 (nk (by decide))).trans ((tY_nE hM_37 (nk (by decide))).trans ((tY_nE hM_36 (nk (by decide))).trans ((tY_nE hM_35 (nk (by decide))).trans ((tY_nE hM_32 (nk (by decide))).trans ((tY_nE hM_29 (nk (by decide))).trans ((tY_nE hM_28 (nk (by decide))).trans (tY_nE hM_25 (nk (by decide)))))))))))) (((tY_nE hM_39 (nk (by decide))).trans ((tY_nE hM_38 (nk (by decide))).trans ((tY_nE hM_37 (nk (by decide))).trans ((tY_nE hM_36 (nk (by decide))).trans ((tY_nE hM_35 (nk (by decide))).trans ((tY_nE hM_32 (nk (by decide))).trans ((tY_nE hM_29 (nk (by decide))).trans ((tY_nE hM_28 (nk (by decide))).trans (tY_nE hM_25 (nk (by decide)))))))))))) (((tY_nE hM_39 (nk (by decide))).trans ((tY_nE hM_38 (nk (by decide))).trans ((tY_nE hM_37 (nk (by decide))).trans ((tY_nE hM_36 (nk (by decide))).trans ((tY_nE hM_35 (nk (by decide))).trans ((tY_nE hM_32 (nk (by decide))).trans ((tY_nE hM_29 (nk (by decide))).trans ((tY_nE hM_28 (nk (by decide))).trans (tY_nE hM_25 (nk (by decide)))))))))))) (((tY_nE hM_39 (nk (by decide))).trans ((tY_nE hM_38 (nk (by decide))).trans ((tY_nE hM_37 (nk (by decide))).trans ((tY_nE hM_36 (nk (by decide))).trans ((tY_nE hM_35 (nk (by decide))).trans ((tY_nE hM_32 (nk (by decide))).trans ((tY_nE hM_29 (nk (by decide))).trans ((tY_nE hM_28 (nk (by decide))).trans (tY_nE hM_25 (nk (by decide))))))))))))) (by rw [show x_40.toInt.toNat = x_10.toInt.toNat + 1 by omega]; exact sm_s j_18 (i_cl (by omega)) ((((tY_nE hM_39 (nk (by decide))).trans ((tY_nE hM_38 (nk (by decide))).trans ((tY_nE hM_37 (nk (by decide))).trans ((tY_nE hM_36 (nk (by decide))).trans ((tY_nE hM_35 (nk (by decide))).trans ((tY_nE hM_32 (nk (by decide))).trans ((tY_nE hM_29 (nk (by decide))).trans (tY_nE hM_28 (nk (by decide))))))))))).trans (tY_uE hM_25)) ((((tY_nE hM_39 (nk (by decide))).trans ((tY_nE hM_38 (nk (by decide))).trans ((tY_nE hM_37 (nk (by decide))).trans (tY_nE hM_36 (nk (by decide))))))).trans ((tY_uE hM_35).trans (congrArg (fun z => upd z _ _) (((tY_nE hM_32 (nk (by decide))).trans ((tY_nE hM_29 (nk (by decide))).trans ((tY_nE hM_28 (nk (by decide))).trans (tY_nE hM_25 (nk (by decide)))))))))) ((((tY_nE hM_39 (nk (by decide))).trans ((tY_nE hM_38 (nk (by decide))).trans ((tY_nE hM_37 (nk (by decide))).trans ((tY_nE hM_36 (nk (by decide))).trans ((tY_nE hM_35 (nk (by decide))).trans ((tY_nE hM_32 (nk (by decide))).trans (tY_nE hM_29 (nk (by decide)))))))))).trans ((tY_uE hM_28).trans (congrArg (fun z => upd z _ _) ((tY_nE hM_25 (nk (by decide))))))) ((((tY_nE hM_39 (nk (by decide))).trans ((tY_nE hM_38 (nk (by decide))).trans ((tY_nE hM_37 (nk (by decide))).trans ((tY_nE hM_36 (nk (by decide))).trans ((tY_nE hM_35 (nk (by decide))).trans (tY_nE hM_32 (nk (by decide))))))))).trans ((tY_uE hM_29).trans (congrArg (fun z => upd z _ _) (((tY_nE hM_28 (nk (by decide))).trans (tY_nE hM_25 (nk (by decide)))))))) ((((tY_nE hM_39 (nk (by decide))).trans ((tY_nE hM_38 (nk (by decide))).trans ((tY_nE hM_37 (nk (by decide))).trans ((tY_nE hM_36 (nk (by decide))).trans (tY_nE hM_35 (nk (by decide)))))))).trans ((tY_uE hM_32).trans (congrArg (fun z => upd z _ _) (((tY_nE hM_29 (nk (by decide))).trans ((tY_nE hM_28 (nk (by decide))).trans (tY_nE hM_25 (nk (by decide))))))))) (((tY_nE hM_39 (nk (by decide)))).trans ((tY_uE hM_38).trans (congrArg (fun z => upd z _ _) (((tY_nE hM_37 (nk (by decide))).trans ((tY_nE hM_36 (nk (by decide))).trans ((tY_nE hM_35 (nk (by decide))).trans ((tY_nE hM_32 (nk (by decide))).trans ((tY_nE hM_29 (nk (by decide))).trans ((tY_nE hM_28 (nk (by decide))).trans (tY_nE hM_25 (nk (by decide))))))))))))) ((tY_uE hM_39).trans (congrArg (fun z => upd z _ _) (((tY_nE hM_38 (nk (by decide))).trans ((tY_nE hM_37 (nk (by decide))).trans ((tY_nE hM_36 (nk (by decide))).trans ((tY_nE hM_35 (nk (by decide))).trans ((tY_nE hM_32 (nk (by decide))).trans ((tY_nE hM_29 (nk (by decide))).trans ((tY_nE hM_28 (nk (by decide))).trans (tY_nE hM_25 (nk (by decide))))))))))))) (by decide) L_34.symm L_27.symm (by decide) L_31.symm (by decide) (by decide)) (by first | omega | decide) hw (lv_sub hl [0, 2, 3] rfl)
  exact hl_48_19 ((8 - 0 : Int).toNat + 1) 0 M_9 _ _ _ (Nat.lt_succ_self _) (by have lt0 : (0 : Int32).toInt = 0 := (by decide); first | omega | decide) (by have lt0 : (0 : Int32).toInt = 0 := (by decide); first | omega | decide) iM_9 (lk.trans (lk_Y hM_9 (by decide)) (lk.trans (lk_Y hM_8 (by decide)) (lk.trans (lk_Y hM_7 (by decide)) (lk.trans (lk_Y hM_4 (by decide)) (lk_Y hM_1 (by decide)))))) (eR.trans (eR_Y hM_9 (bk_q (z := 0) (by decide) (by decide))) (eR.trans (eR_Y hM_8 (bk_q (z := 0) (by decide) (by decide))) (eR.trans (eR_Y hM_7 (bk_q (z := 0) (by decide) (by decide))) (eR.trans (eR_Y hM_4 (bk_q (z := 0) (by decide) (by decide))) (eR_Y hM_1 (bk_q (z := 0) (by decide) (by decide))))))) (stq_0 (qw.trans (qw_Y hM_8 (by decide)) (qw.trans (qw_Y hM_7 (by decide)) (qw.trans (qw_Y hM_4 (by decide)) (qw_Y hM_1 (by decide))))) hM_9 (by decide)) ⟨((congrArg Int32.toInt (((cg (((tY_nE hM_9 (nk (by decide))).trans ((tY_nE hM_8 (nk (by decide))).trans ((tY_nE hM_7 (nk (by decide))).trans (tY_nE hM_4 (nk (by decide))))))) 0).trans (cg (tY_uE hM_1) 0)).trans (upl (by decide)))).trans (by decide)), ((congrArg Int32.toInt (((cg (tY_uE hM_9) 0)).trans (upl (by decide)))).trans (by decide)), ((congrArg Int32.toInt (((cg (((tY_nE hM_9 (nk (by decide))).trans ((tY_nE hM_8 (nk (by decide))).trans (tY_nE hM_7 (nk (by decide)))))) 0).trans (cg (tY_uE hM_4) 0)).trans (upl (by decide)))).trans L_3.symm), ((congrArg Int32.toInt (((cg (((tY_nE hM_9 (nk (by decide))).trans (tY_nE hM_8 (nk (by decide))))) 0).trans (cg (tY_uE hM_7) 0)).trans (upl (by decide)))).trans L_6.symm), (((cg ((tY_nE hM_9 (nk (by decide)))) 0).trans (cg (tY_uE hM_8) 0)).trans (upl (by decide)))⟩ sm_0 (by have lt0 : (0 : Int32).toInt = 0 := (by decide); first | omega | decide) hw (lv_sub hl [0, 1, 2] rfl)
end

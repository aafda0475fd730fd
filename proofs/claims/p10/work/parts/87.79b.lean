variable {Tc : gC} {Tm : gM}
set_option maxHeartbeats 4000000 in
set_option maxRecDepth 100000 in
theorem z_X10_calls_0 (l : Launch) (D : va_G) (A : Nat → Nat → Nat) (cy : Nat → ClassId) (hJ : ti_inj ti_LM A) (M : ti_M) (hI : mI Tm M) (a b t : Int32) (h1 : 0 ≤ a.toInt) (h2 : a.toInt ≤ 7) (tx rg : Nat → Int) (htr : tR tx M) (ht4 : 0 ≤ tx 4 ∧ tx 4 ≤ 8) (hr : qR (tx 4).toNat 0 rg M) (ha : a.toInt < tx 4) (hst : rg (128 + a.toInt.toNat) = 1) (htm : t.toInt = rg 2) : ti_Kv l yX10_calls cX10_calls 6 0 ti_LM D A cy M [.ref (A 60 0), .int 0, .int a, .int b, .int t] (fun M2 => rn6 (bq_fa tx rg a.toInt b.toInt) 6 M2 ∧ fI M2 M ∧ mI Tm M2 ∧ qw M2 M ∧ M2.2.1 = M.2.1) := by
  refine ti_eV yp_X10_calls hJ ti_LM_nd (Nat.le_of_ble_eq_true rfl) ?_
  intro p e s m args below meth c Q H0 C hQ hw ls hl
  have hx := C.1
  have hb := C.2.1
  have hl : lv_has ls 6 [(0, .ref (A 60 0)), (1, .int 0), (2, .int a), (3, .int b), (4, .int t)] := hl
  refine lv_bipush (v := 8) hx hb dX10_calls_0 (by decide) ?_
  refine lv_iload_n hx hb dX10_calls_2 rfl (lv_at hl 1 rfl) ?_
  refine lv_imul hx hb dX10_calls_3 ?_
  refine ti_top (y := 0) (by decide) ?_
  refine lv_iload_n hx hb dX10_calls_4 rfl (lv_at hl 2 rfl) ?_
  refine lv_iadd hx hb dX10_calls_5 ?_
  refine lv_topi (fun x_1 ex_1 => ?_)
  have tx_1 : x_1.toInt = 0 + a.toInt := i_add ex_1 (by decide : (0 : Int32).toInt = 0) rfl (by omega) (by omega)
  refine lv_istore (lv' := [(5, .int x_1), (0, .ref (A 60 0)), (1, .int 0), (2, .int a), (3, .int b), (4, .int t)]) hx hb dX10_calls_6 hl (by decide) rfl (fun ls hl => ?_)
  refine lv_aload_n hx hb dX10_calls_8 rfl (lv_at hl 1 rfl) ?_
  refine ti_get (ci := 10) (k := 31) (N := 67) (T := TX10) (v := .ref (A 60 32)) C hw iw_10 rfl ob_60 (by decide) (by decide) fl_X10_62 rfl rfl dX10_calls_9 ?_
  refine lv_iconst (v := 0) hx hb dX10_calls_12 (by decide) ?_
  refine lv_aload_n hx hb dX10_calls_13 rfl (lv_at hl 1 rfl) ?_
  refine ti_get (ci := 10) (k := 5) (N := 67) (T := TX10) (v := .ref (A 60 6)) C hw iw_10 rfl ob_60 (by decide) (by decide) fl_X10_19 rfl rfl dX10_calls_14 ?_
  refine lv_iload_n hx hb dX10_calls_17 rfl (lv_at hl 3 rfl) ?_
  refine ti_iald (ci := 10) (k := 5) (n := 16) C hw ob_60 (by decide) (fun _ _ => rfl) (vp_in_iff.mpr (by omega)) dX10_calls_18 ?_
  refine lv_topi (fun x_2 ex_2 => ?_)
  have yx_2 : tY M 60 5 a.toNatClampNeg = x_2 := (ex_2.symm)
  have L_3 : tx (100 + 16 * a.toInt.toNat + 1) = x_2.toInt := (htr.2.2.1 (a.toInt.toNat) (by omega) (by omega)).1.trans ((congrArg Int32.toInt (cg rfl (a.toInt.toNat))).symm.trans (rd_k (n := a.toInt.toNat) (by omega) (yx_2)))
  obtain ⟨x_4, ex_4⟩ : ∃ z : Int64, z = x_2.toInt64 := ⟨_, rfl⟩
  refine lv_i2l (v := x_4) hx hb dX10_calls_19 ex_4.symm ?_
  have tx_4 : x_4.toInt = x_2.toInt := by rw [ex_4, Int32.toInt_toInt64]
  have lox_4 := (x_2 : Int32).le_toInt
  have hix_4 := (x_2 : Int32).toInt_lt
  refine ti_last (ci := 10) (k := 31) (n := 6) C hw ob_60 (by decide) (fun _ _ => rfl) (by unfold vp_in; decide) dX10_calls_20 (fun H locs hw => ?_)
  obtain ⟨M_5, hM_5⟩ : ∃ z : ti_M, z = uZ M 60 31 (vp_updL (tZ M 60 31) (0 : Int32).toNatClampNeg x_4) := ⟨_, rfl⟩
  have hw := hw.to hM_5.symm
  have iM_5 : mI Tm M_5 := mI_uZ hI hM_5
  have hs_6 : qR (tx 4).toNat 0 rg M_5 := qR_Z hr hM_5
  have hF_7 : rn6 (bq_fa tx rg a.toInt b.toInt) (0 + 1) M_5 := rn6_s rn6_0 hM_5 (by decide) (by show _ = bq_fa _ _ _ _ 0; unfold bq_fa; (repeat (first | rw [if_pos (by omega)] | rw [if_neg (by omega)])); omega) ⟨by omega, by omega⟩
  refine lv_aload_n hx hb dX10_calls_21 rfl (lv_at hl 1 rfl) ?_
  refine ti_get (ci := 10) (k := 31) (N := 67) (T := TX10) (v := .ref (A 60 32)) C hw iw_10 rfl ob_60 (by decide) (by decide) fl_X10_62 rfl rfl dX10_calls_22 ?_
  refine lv_iconst (v := 1) hx hb dX10_calls_25 (by decide) ?_
  refine lv_aload_n hx hb dX10_calls_26 rfl (lv_at hl 1 rfl) ?_
  refine ti_get (ci := 10) (k := 6) (N := 67) (T := TX10) (v := .ref (A 60 7)) C hw iw_10 rfl ob_60 (by decide) (by decide) fl_X10_22 rfl rfl dX10_calls_27 ?_
  refine lv_iload_n hx hb dX10_calls_30 rfl (lv_at hl 3 rfl) ?_
  refine ti_iald (ci := 10) (k := 6) (n := 16) C hw ob_60 (by decide) (fun _ _ => rfl) (vp_in_iff.mpr (by omega)) dX10_calls_31 ?_
  refine lv_topi (fun x_8 ex_8 => ?_)
  have yx_8 : tY M_5 60 6 a.toNatClampNeg = x_8 := (ex_8.symm)
  have wx_8 : tY M 60 6 a.toNatClampNeg = x_8 := ((cg (tY_uZE hM_5) a.toNatClampNeg)).symm.trans yx_8
  have L_9 : tx (100 + 16 * a.toInt.toNat + 2) = x_8.toInt := (htr.2.2.1 (a.toInt.toNat) (by omega) (by omega)).2.1.trans ((congrArg Int32.toInt (cg ((tY_uZE hM_5)) (a.toInt.toNat))).symm.trans (rd_k (n := a.toInt.toNat) (by omega) ((cg (tY_uZE hM_5) a.toNatClampNeg).trans wx_8)))
  obtain ⟨x_10, ex_10⟩ : ∃ z : Int64, z = x_8.toInt64 := ⟨_, rfl⟩
  refine lv_i2l (v := x_10) hx hb dX10_calls_32 ex_10.symm ?_
  have tx_10 : x_10.toInt = x_8.toInt := by rw [ex_10, Int32.toInt_toInt64]
  have lox_10 := (x_8 : Int32).le_toInt
  have hix_10 := (x_8 : Int32).toInt_lt
  refine ti_last (ci := 10) (k := 31) (n := 6) C hw ob_60 (by decide) (fun _ _ => rfl) (by unfold vp_in; decide) dX10_calls_33 (fun H locs hw => ?_)
  obtain ⟨M_11, hM_11⟩ : ∃ z : ti_M, z = uZ M_5 60 31 (vp_updL (tZ M_5 60 31) (1 : Int32).toNatClampNeg x_10) := ⟨_, rfl⟩
  have hw := hw.to hM_11.symm
  have iM_11 : mI Tm M_11 := mI_uZ iM_5 hM_11
  have hs_12 : qR (tx 4).toNat 0 rg M_11 := qR_Z hs_6 hM_11
  have hF_13 : rn6 (bq_fa tx rg a.toInt b.toInt) (1 + 1) M_11 := rn6_s hF_7 hM_11 (by decide) (by show _ = bq_fa _ _ _ _ 1; unfold bq_fa; (repeat (first | rw [if_pos (by omega)] | rw [if_neg (by omega)])); omega) ⟨by omega, by omega⟩
  refine lv_aload_n hx hb dX10_calls_34 rfl (lv_at hl 1 rfl) ?_
  refine ti_get (ci := 10) (k := 31) (N := 67) (T := TX10) (v := .ref (A 60 32)) C hw iw_10 rfl ob_60 (by decide) (by decide) fl_X10_62 rfl rfl dX10_calls_35 ?_
  refine lv_iconst (v := 2) hx hb dX10_calls_38 (by decide) ?_
  refine lv_aload_n hx hb dX10_calls_39 rfl (lv_at hl 1 rfl) ?_
  refine ti_get (ci := 10) (k := 8) (N := 67) (T := TX10) (v := .ref (A 60 9)) C hw iw_10 rfl ob_60 (by decide) (by decide) fl_X10_28 rfl rfl dX10_calls_40 ?_
  refine lv_iload_n hx hb dX10_calls_43 rfl (lv_at hl 3 rfl) ?_
  refine ti_iald (ci := 10) (k := 8) (n := 16) C hw ob_60 (by decide) (fun _ _ => rfl) (vp_in_iff.mpr (by omega)) dX10_calls_44 ?_
  refine lv_topi (fun x_14 ex_14 => ?_)
  have yx_14 : tY M_11 60 8 a.toNatClampNeg = x_14 := (ex_14.symm)
  have wx_14 : tY M 60 8 a.toNatClampNeg = x_14 := (((cg (tY_uZE hM_11) a.toNatClampNeg).trans (cg (tY_uZE hM_5) a.toNatClampNeg))).symm.trans yx_14
  have L_15 : tx (100 + 16 * a.toInt.toNat + 4) = x_14.toInt := (htr.2.2.1 (a.toInt.toNat) (by omega) (by omega)).2.2.2.1.trans ((congrArg Int32.toInt (cg (((tY_uZE hM_11).trans (tY_uZE hM_5))) (a.toInt.toNat))).symm.trans (rd_k (n := a.toInt.toNat) (by omega) ((cg (tY_uZE hM_11) a.toNatClampNeg).trans ((cg (tY_uZE hM_5) a.toNatClampNeg).trans wx_14))))
  obtain ⟨x_16, ex_16⟩ : ∃ z : Int64, z = x_14.toInt64 := ⟨_, rfl⟩
  refine lv_i2l (v := x_16) hx hb dX10_calls_45 ex_16.symm ?_
  have tx_16 : x_16.toInt = x_14.toInt := by rw [ex_16, Int32.toInt_toInt64]
  have lox_16 := (x_14 : Int32).le_toInt
  have hix_16 := (x_14 : Int32).toInt_lt
  refine ti_last (ci := 10) (k := 31) (n := 6) C hw ob_60 (by decide) (fun _ _ => rfl) (by unfold vp_in; decide) dX10_calls_46 (fun H locs hw => ?_)
  obtain ⟨M_17, hM_17⟩ : ∃ z : ti_M, z = uZ M_11 60 31 (vp_updL (tZ M_11 60 31) (2 : Int32).toNatClampNeg x_16) := ⟨_, rfl⟩
  have hw := hw.to hM_17.symm
  have iM_17 : mI Tm M_17 := mI_uZ iM_11 hM_17
  have hs_18 : qR (tx 4).toNat 0 rg M_17 := qR_Z hs_12 hM_17
  have hF_19 : rn6 (bq_fa tx rg a.toInt b.toInt) (2 + 1) M_17 := rn6_s hF_13 hM_17 (by decide) (by show _ = bq_fa _ _ _ _ 2; unfold bq_fa; (repeat (first | rw [if_pos (by omega)] | rw [if_neg (by omega)])); omega) ⟨by omega, by omega⟩
  refine lv_aload_n hx hb dX10_calls_47 rfl (lv_at hl 1 rfl) ?_
  refine ti_get (ci := 10) (k := 31) (N := 67) (T := TX10) (v := .ref (A 60 32)) C hw iw_10 rfl ob_60 (by decide) (by decide) fl_X10_62 rfl rfl dX10_calls_48 ?_
  refine lv_iconst (v := 3) hx hb dX10_calls_51 (by decide) ?_
  refine lv_aload_n hx hb dX10_calls_52 rfl (lv_at hl 1 rfl) ?_
  refine ti_get (ci := 10) (k := 43) (N := 67) (T := TX10) (v := .ref (A 60 44)) C hw iw_10 rfl ob_60 (by decide) (by decide) fl_X10_96 rfl rfl dX10_calls_53 ?_
  refine lv_iload hx hb dX10_calls_56 (lv_at hl 0 rfl) ?_
  refine ti_iald (ci := 10) (k := 43) (n := 184) C hw ob_60 (by decide) (fun _ _ => rfl) (vp_in_iff.mpr (by omega)) dX10_calls_58 ?_
  refine lv_topi (fun x_20 ex_20 => ?_)
  have yx_20 : tY M_17 60 43 x_1.toNatClampNeg = x_20 := (ex_20.symm)
  have wx_20 : tY M 60 43 x_1.toNatClampNeg = x_20 := (((cg (tY_uZE hM_17) x_1.toNatClampNeg).trans ((cg (tY_uZE hM_11) x_1.toNatClampNeg).trans (cg (tY_uZE hM_5) x_1.toNatClampNeg)))).symm.trans yx_20
  have L_21 : rg (192 + a.toInt.toNat) = x_20.toInt := ((hs_18.2.2.2.1 (a.toInt.toNat) (by omega)).2.2.2.2.1).trans (rd_k (n := 8 * 0 + a.toInt.toNat) (by omega) ((cg (tY_uZE hM_17) x_1.toNatClampNeg).trans ((cg (tY_uZE hM_11) x_1.toNatClampNeg).trans ((cg (tY_uZE hM_5) x_1.toNatClampNeg).trans wx_20))))
  obtain ⟨x_22, ex_22⟩ : ∃ z : Int64, z = x_20.toInt64 := ⟨_, rfl⟩
  refine lv_i2l (v := x_22) hx hb dX10_calls_59 ex_22.symm ?_
  have tx_22 : x_22.toInt = x_20.toInt := by rw [ex_22, Int32.toInt_toInt64]
  have lox_22 := (x_20 : Int32).le_toInt
  have hix_22 := (x_20 : Int32).toInt_lt
  refine ti_last (ci := 10) (k := 31) (n := 6) C hw ob_60 (by decide) (fun _ _ => rfl) (by unfold vp_in; decide) dX10_calls_60 (fun H locs hw => ?_)
  obtain ⟨M_23, hM_23⟩ : ∃ z : ti_M, z = uZ M_17 60 31 (vp_updL (tZ M_17 60 31) (3 : Int32).toNatClampNeg x_22) := ⟨_, rfl⟩
  have hw := hw.to hM_23.symm
  have iM_23 : mI Tm M_23 := mI_uZ iM_17 hM_23
  have hs_24 : qR (tx 4).toNat 0 rg M_23 := qR_Z hs_18 hM_23
  have hF_25 : rn6 (bq_fa tx rg a.toInt b.toInt) (3 + 1) M_23 := rn6_s hF_19 hM_23 (by decide) (by show _ = bq_fa _ _ _ _ 3; unfold bq_fa; (repeat (first | rw [if_pos (by omega)] | rw [if_neg (by omega)])); omega) ⟨by omega, by omega⟩
  refine lv_aload_n hx hb dX10_calls_61 rfl (lv_at hl 1 rfl) ?_
  refine ti_get (ci := 10) (k := 31) (N := 67) (T := TX10) (v := .ref (A 60 32)) C hw iw_10 rfl ob_60 (by decide) (by decide) fl_X10_62 rfl rfl dX10_calls_62 ?_
  refine lv_iconst (v := 4) hx hb dX10_calls_65 (by decide) ?_
  refine lv_iload_n hx hb dX10_calls_66 rfl (lv_at hl 4 rfl) ?_
  obtain ⟨x_26, ex_26⟩ : ∃ z : Int64, z = b.toInt64 := ⟨_, rfl⟩
  refine lv_i2l (v := x_26) hx hb dX10_calls_67 ex_26.symm ?_
  have tx_26 : x_26.toInt = b.toInt := by rw [ex_26, Int32.toInt_toInt64]
  have lox_26 := (b : Int32).le_toInt
  have hix_26 := (b : Int32).toInt_lt
  refine ti_last (ci := 10) (k := 31) (n := 6) C hw ob_60 (by decide) (fun _ _ => rfl) (by unfold vp_in; decide) dX10_calls_68 (fun H locs hw => ?_)
  obtain ⟨M_27, hM_27⟩ : ∃ z : ti_M, z = uZ M_23 60 31 (vp_updL (tZ M_23 60 31) (4 : Int32).toNatClampNeg x_26) := ⟨_, rfl⟩
  have hw := hw.to hM_27.symm
  have iM_27 : mI Tm M_27 := mI_uZ iM_23 hM_27
  have hs_28 : qR (tx 4).toNat 0 rg M_27 := qR_Z hs_24 hM_27
  have hF_29 : rn6 (bq_fa tx rg a.toInt b.toInt) (4 + 1) M_27 := rn6_s hF_25 hM_27 (by decide) (by show _ = bq_fa _ _ _ _ 4; unfold bq_fa; (repeat (first | rw [if_pos (by omega)] | rw [if_neg (by omega)])); omega) ⟨by omega, by omega⟩
  refine lv_aload_n hx hb dX10_calls_69 rfl (lv_at hl 1 rfl) ?_
  refine ti_get (ci := 10) (k := 31) (N := 67) (T := TX10) (v := .ref (A 60 32)) C hw iw_10 rfl ob_60 (by decide) (by decide) fl_X10_62 rfl rfl dX10_calls_70 ?_
  refine lv_iconst (v := 5) hx hb dX10_calls_73 (by decide) ?_
  refine lv_iload hx hb dX10_calls_74 (lv_at hl 5 rfl) ?_
  refine lv_aload_n hx hb dX10_calls_76 rfl (lv_at hl 1 rfl) ?_
  refine ti_get (ci := 10) (k := 45) (N := 67) (T := TX10) (v := .ref (A 60 46)) C hw iw_10 rfl ob_60 (by decide) (by decide) fl_X10_102 rfl rfl dX10_calls_77 ?_
  refine lv_iload hx hb dX10_calls_80 (lv_at hl 0 rfl) ?_
  refine ti_iald (ci := 10) (k := 45) (n := 184) C hw ob_60 (by decide) (fun _ _ => rfl) (vp_in_iff.mpr (by omega)) dX10_calls_82 ?_
  refine lv_topi (fun x_30 ex_30 => ?_)
  have yx_30 : tY M_27 60 45 x_1.toNatClampNeg = x_30 := (ex_30.symm)
  have wx_30 : tY M 60 45 x_1.toNatClampNeg = x_30 := (((cg (tY_uZE hM_27) x_1.toNatClampNeg).trans ((cg (tY_uZE hM_23) x_1.toNatClampNeg).trans ((cg (tY_uZE hM_17) x_1.toNatClampNeg).trans ((cg (tY_uZE hM_11) x_1.toNatClampNeg).trans (cg (tY_uZE hM_5) x_1.toNatClampNeg)))))).symm.trans yx_30
  have L_31 : rg (208 + a.toInt.toNat) = x_30.toInt := ((hs_28.2.2.2.2.1 (a.toInt.toNat) (by omega)).1 (by omega)).trans (rd_k (n := 8 * 0 + a.toInt.toNat) (by omega) ((cg (tY_uZE hM_27) x_1.toNatClampNeg).trans ((cg (tY_uZE hM_23) x_1.toNatClampNeg).trans ((cg (tY_uZE hM_17) x_1.toNatClampNeg).trans ((cg (tY_uZE hM_11) x_1.toNatClampNeg).trans ((cg (tY_uZE hM_5) x_1.toNatClampNeg).trans wx_30))))))
  refine lv_isub hx hb dX10_calls_83 ?_
  refine lv_topi (fun x_32 ex_32 => ?_)
  have tx_32 : x_32.toInt = bw (t.toInt - x_30.toInt) := bw_sub ex_32 rfl rfl
  obtain ⟨x_33, ex_33⟩ : ∃ z : Int64, z = x_32.toInt64 := ⟨_, rfl⟩
  refine lv_i2l (v := x_33) hx hb dX10_calls_84 ex_33.symm ?_
  have tx_33 : x_33.toInt = x_32.toInt := by rw [ex_33, Int32.toInt_toInt64]
  have lox_33 := (x_32 : Int32).le_toInt
  have hix_33 := (x_32 : Int32).toInt_lt
  refine ti_last (ci := 10) (k := 31) (n := 6) C hw ob_60 (by decide) (fun _ _ => rfl) (by unfold vp_in; decide) dX10_calls_85 (fun H locs hw => ?_)
  obtain ⟨M_34, hM_34⟩ : ∃ z : ti_M, z = uZ M_27 60 31 (vp_updL (tZ M_27 60 31) (5 : Int32).toNatClampNeg x_33) := ⟨_, rfl⟩
  have hw := hw.to hM_34.symm
  have iM_34 : mI Tm M_34 := mI_uZ iM_27 hM_34
  have hs_35 : qR (tx 4).toNat 0 rg M_34 := qR_Z hs_28 hM_34
  have hF_36 : rn6 (bq_fa tx rg a.toInt b.toInt) (5 + 1) M_34 := rn6_s hF_29 hM_34 (by decide) (by show _ = bq_fa _ _ _ _ 5; unfold bq_fa; (repeat (first | rw [if_pos (by omega)] | rw [if_neg (by omega)])); unfold bq_wt; (repeat (first | rw [if_pos (by omega)] | rw [if_neg (by omega)])); rw [show rg 2 = t.toInt by omega, L_31, ← tx_32]; omega) ⟨by omega, by omega⟩
  exact hQ _ _ _ _ _ hw (⟨hF_36, (fI.trans (fI_Z hM_34) (fI.trans (fI_Z hM_27) (fI.trans (fI_Z hM_23) (fI.trans (fI_Z hM_17) (fI.trans (fI_Z hM_11) (fI_Z hM_5)))))), iM_34, (qw.trans (qw_Z hM_34) (qw.trans (qw_Z hM_27) (qw.trans (qw_Z hM_23) (qw.trans (qw_Z hM_17) (qw.trans (qw_Z hM_11) (qw_Z hM_5)))))), ((ry_Z hM_34).trans ((ry_Z hM_27).trans ((ry_Z hM_23).trans ((ry_Z hM_17).trans ((ry_Z hM_11).trans (ry_Z hM_5))))))⟩) dX10_calls_86
set_option maxHeartbeats 4000000 in
set_option maxRecDepth 100000 in
theorem z_X10_calls_1 (l : Launch) (D : va_G) (A : Nat → Nat → Nat) (cy : Nat → ClassId) (hJ : ti_inj ti_LM A) (M : ti_M) (hI : mI Tm M) (a b t : Int32) (h1 : 0 ≤ a.toInt) (h2 : a.toInt ≤ 7) (tx rg : Nat → Int) (htr : tR tx M) (ht4 : 0 ≤ tx 4 ∧ tx 4 ≤ 8) (hr : qR (tx 4).toNat 1 rg M) (ha : a.toInt < tx 4) (hst : rg (128 + a.toInt.toNat) = 1) (htm : t.toInt = rg 2) : ti_Kv l yX10_calls cX10_calls 6 0 ti_LM D A cy M [.ref (A 60 0), .int 1, .int a, .int b, .int t] (fun M2 => rn6 (bq_fa tx rg a.toInt b.toInt) 6 M2 ∧ fI M2 M ∧ mI Tm M2 ∧ qw M2 M ∧ M2.2.1 = M.2.1) := by
  refine ti_eV yp_X10_calls hJ ti_LM_nd (Nat.le_of_ble_eq_true rfl) ?_
  intro p e s m args below meth c Q H0 C hQ hw ls hl
  have hx := C.1
  have hb := C.2.1
  have hl : lv_has ls 6 [(0, .ref (A 60 0)), (1, .int 1), (2, .int a), (3, .int b), (4, .int t)] := hl
  refine lv_bipush (v := 8) hx hb dX10_calls_0 (by decide) ?_
  refine lv_iload_n hx hb dX10_calls_2 rfl (lv_at hl 1 rfl) ?_
  refine lv_imul hx hb dX10_calls_3 ?_
  refine ti_top (y := 8) (by decide) ?_
  refine lv_iload_n hx hb dX10_calls_4 rfl (lv_at hl 2 rfl) ?_
  refine lv_iadd hx hb dX10_calls_5 ?_
  refine lv_topi (fun x_1 ex_1 => ?_)
  have tx_1 : x_1.toInt = 8 + a.toInt := i_add ex_1 (by decide : (8 : Int32).toInt = 8) rfl (by omega) (by omega)
  refine lv_istore (lv' := [(5, .int x_1), (0, .ref (A 60 0)), (1, .int 1), (2, .int a), (3, .int b), (4, .int t)]) hx hb dX10_calls_6 hl (by decide) rfl (fun ls hl => ?_)
  refine lv_aload_n hx hb dX10_calls_8 rfl (lv_at hl 1 rfl) ?_
  refine ti_get (ci := 10) (k := 31) (N := 67) (T := TX10) (v := .ref (A 60 32)) C hw iw_10 rfl ob_60 (by decide) (by decide) fl_X10_62 rfl rfl dX10_calls_9 ?_
  refine lv_iconst (v := 0) hx hb dX10_calls_12 (by decide) ?_
  refine lv_aload_n hx hb dX10_calls_13 rfl (lv_at hl 1 rfl) ?_
  refine ti_get (ci := 10) (k := 5) (N := 67) (T := TX10) (v := .ref (A 60 6)) C hw iw_10 rfl ob_60 (by decide) (by decide) fl_X10_19 rfl rfl dX10_calls_14 ?_
  refine lv_iload_n hx hb dX10_calls_17 rfl (lv_at hl 3 rfl) ?_
  refine ti_iald (ci := 10) (k := 5) (n := 16) C hw ob_60 (by decide) (fun _ _ => rfl) (vp_in_iff.mpr (by omega)) dX10_calls_18 ?_
  refine lv_topi (fun x_2 ex_2 => ?_)
  have yx_2 : tY M 60 5 a.toNatClampNeg = x_2 := (ex_2.symm)
  have L_3 : tx (100 + 16 * a.toInt.toNat + 1) = x_2.toInt := (htr.2.2.1 (a.toInt.toNat) (by omega) (by omega)).1.trans ((congrArg Int32.toInt (cg rfl (a.toInt.toNat))).symm.trans (rd_k (n := a.toInt.toNat) (by omega) (yx_2)))
  obtain ⟨x_4, ex_4⟩ : ∃ z : Int64, z = x_2.toInt64 := ⟨_, rfl⟩
  refine lv_i2l (v := x_4) hx hb dX10_calls_19 ex_4.symm ?_
  have tx_4 : x_4.toInt = x_2.toInt := by rw [ex_4, Int32.toInt_toInt64]
  have lox_4 := (x_2 : Int32).le_toInt
  have hix_4 := (x_2 : Int32).toInt_lt
  refine ti_last (ci := 10) (k := 31) (n := 6) C hw ob_60 (by decide) (fun _ _ => rfl) (by unfold vp_in; decide) dX10_calls_20 (fun H locs hw => ?_)
  obtain ⟨M_5, hM_5⟩ : ∃ z : ti_M, z = uZ M 60 31 (vp_updL (tZ M 60 31) (0 : Int32).toNatClampNeg x_4) := ⟨_, rfl⟩
  have hw := hw.to hM_5.symm
  have iM_5 : mI Tm M_5 := mI_uZ hI hM_5
  have hs_6 : qR (tx 4).toNat 1 rg M_5 := qR_Z hr hM_5
  have hF_7 : rn6 (bq_fa tx rg a.toInt b.toInt) (0 + 1) M_5 := rn6_s rn6_0 hM_5 (by decide) (by show _ = bq_fa _ _ _ _ 0; unfold bq_fa; (repeat (first | rw [if_pos (by omega)] | rw [if_neg (by omega)])); omega) ⟨by omega, by omega⟩
  refine lv_aload_n hx hb dX10_calls_21 rfl (lv_at hl 1 rfl) ?_
  refine ti_get (ci := 10) (k := 31) (N := 67) (T := TX10) (v := .ref (A 60 32)) C hw iw_10 rfl ob_60 (by decide) (by decide) fl_X10_62 rfl rfl dX10_calls_22 ?_
  refine lv_iconst (v := 1) hx hb dX10_calls_25 (by decide) ?_
  refine lv_aload_n hx hb dX10_calls_26 rfl (lv_at hl 1 rfl) ?_
  refine ti_get (ci := 10) (k := 6) (N := 67) (T := TX10) (v := .ref (A 60 7)) C hw iw_10 rfl ob_60 (by decide) (by decide) fl_X10_22 rfl rfl dX10_calls_27 ?_
  refine lv_iload_n hx hb dX10_calls_30 rfl (lv_at hl 3 rfl) ?_
  refine ti_iald (ci := 10) (k := 6) (n := 16) C hw ob_60 (by decide) (fun _ _ => rfl) (vp_in_iff.mpr (by omega)) dX10_calls_31 ?_
  refine lv_topi (fun x_8 ex_8 => ?_)
  have yx_8 : tY M_5 60 6 a.toNatClampNeg = x_8 := (ex_8.symm)
  have wx_8 : tY M 60 6 a.toNatClampNeg = x_8 := ((cg (tY_uZE hM_5) a.toNatClampNeg)).symm.trans yx_8
  have L_9 : tx (100 + 16 * a.toInt.toNat + 2) = x_8.toInt := (htr.2.2.1 (a.toInt.toNat) (by omega) (by omega)).2.1.trans ((congrArg Int32.toInt (cg ((tY_uZE hM_5)) (a.toInt.toNat))).symm.trans (rd_k (n := a.toInt.toNat) (by omega) ((cg (tY_uZE hM_5) a.toNatClampNeg).trans wx_8)))
  obtain ⟨x_10, ex_10⟩ : ∃ z : Int64, z = x_8.toInt64 := ⟨_, rfl⟩
  refine lv_i2l (v := x_10) hx hb dX10_calls_32 ex_10.symm ?_
  have tx_10 : x_10.toInt = x_8.toInt := by rw [ex_10, Int32.toInt_toInt64]
  have lox_10 := (x_8 : Int32).le_toInt
  have hix_10 := (x_8 : Int32).toInt_lt
  refine ti_last (ci := 10) (k := 31) (n := 6) C hw ob_60 (by decide) (fun _ _ => rfl) (by unfold vp_in; decide) dX10_calls_33 (fun H locs hw => ?_)
  obtain ⟨M_11, hM_11⟩ : ∃ z : ti_M, z = uZ M_5 60 31 (vp_updL (tZ M_5 60 31) (1 : Int32).toNatClampNeg x_10) := ⟨_, rfl⟩
  have hw := hw.to hM_11.symm
  have iM_11 : mI Tm M_11 := mI_uZ iM_5 hM_11
  have hs_12 : qR (tx 4).toNat 1 rg M_11 := qR_Z hs_6 hM_11
  have hF_13 : rn6 (bq_fa tx rg a.toInt b.toInt) (1 + 1) M_11 := rn6_s hF_7 hM_11 (by decide) (by show _ = bq_fa _ _ _ _ 1; unfold bq_fa; (repeat (first | rw [if_pos (by omega)] | rw [if_neg (by omega)])); omega) ⟨by omega, by omega⟩
  refine lv_aload_n hx hb dX10_calls_34 rfl (lv_at hl 1 rfl) ?_
  refine ti_get (ci := 10) (k := 31) (N := 67) (T := TX10) (v := .ref (A 60 32)) C hw iw_10 rfl ob_60 (by decide) (by decide) fl_X10_62 rfl rfl dX10_calls_35 ?_
  refine lv_iconst (v := 2) hx hb dX10_calls_38 (by decide) ?_
  refine lv_aload_n hx hb dX10_calls_39 rfl (lv_at hl 1 rfl) ?_
  refine ti_get (ci := 10) (k := 8) (N := 67) (T := TX10) (v := .ref (A 60 9)) C hw iw_10 rfl ob_60 (by decide) (by decide) fl_X10_28 rfl rfl dX10_calls_40 ?_
  refine lv_iload_n hx hb dX10_calls_43 rfl (lv_at hl 3 rfl) ?_
  refine ti_iald (ci := 10) (k := 8) (n := 16) C hw ob_60 (by decide) (fun _ _ => rfl) (vp_in_iff.mpr (by omega)) dX10_calls_44 ?_
  refine lv_topi (fun x_14 ex_14 => ?_)
  have yx_14 : tY M_11 60 8 a.toNatClampNeg = x_14 := (ex_14.symm)
  have wx_14 : tY M 60 8 a.toNatClampNeg = x_14 := (((cg (tY_uZE hM_11) a.toNatClampNeg).trans (cg (tY_uZE hM_5) a.toNatClampNeg))).symm.trans yx_14
  have L_15 : tx (100 + 16 * a.toInt.toNat + 4) = x_14.toInt := (htr.2.2.1 (a.toInt.toNat) (by omega) (by omega)).2.2.2.1.trans ((congrArg Int32.toInt (cg (((tY_uZE hM_11).trans (tY_uZE hM_5))) (a.toInt.toNat))).symm.trans (rd_k (n := a.toInt.toNat) (by omega) ((cg (tY_uZE hM_11) a.toNatClampNeg).trans ((cg (tY_uZE hM_5) a.toNatClampNeg).trans wx_14))))
  obtain ⟨x_16, ex_16⟩ : ∃ z : Int64, z = x_14.toInt64 := ⟨_, rfl⟩
  refine lv_i2l (v := x_16) hx hb dX10_calls_45 ex_16.symm ?_
  have tx_16 : x_16.toInt = x_14.toInt := by rw [ex_16, Int32.toInt_toInt64]
  have lox_16 := (x_14 : Int32).le_toInt
  have hix_16 := (x_14 : Int32).toInt_lt
  refine ti_last (ci := 10) (k := 31) (n := 6) C hw ob_60 (by decide) (fun _ _ => rfl) (by unfold vp_in; decide) dX10_calls_46 (fun H locs hw => ?_)
  obtain ⟨M_17, hM_17⟩ : ∃ z : ti_M, z = uZ M_11 60 31 (vp_updL (tZ M_11 60 31) (2 : Int32).toNatClampNeg x_16) := ⟨_, rfl⟩
  have hw := hw.to hM_17.symm
  have iM_17 : mI Tm M_17 := mI_uZ iM_11 hM_17
  have hs_18 : qR (tx 4).toNat 1 rg M_17 := qR_Z hs_12 hM_17
  have hF_19 : rn6 (bq_fa tx rg a.toInt b.toInt) (2 + 1) M_17 := rn6_s hF_13 hM_17 (by decide) (by show _ = bq_fa _ _ _ _ 2; unfold bq_fa; (repeat (first | rw [if_pos (by omega)] | rw [if_neg (by omega)])); omega) ⟨by omega, by omega⟩
  refine lv_aload_n hx hb dX10_calls_47 rfl (lv_at hl 1 rfl) ?_
  refine ti_get (ci := 10) (k := 31) (N := 67) (T := TX10) (v := .ref (A 60 32)) C hw iw_10 rfl ob_60 (by decide) (by decide) fl_X10_62 rfl rfl dX10_calls_48 ?_
  refine lv_iconst (v := 3) hx hb dX10_calls_51 (by decide) ?_
  refine lv_aload_n hx hb dX10_calls_52 rfl (lv_at hl 1 rfl) ?_
  refine ti_get (ci := 10) (k := 43) (N := 67) (T := TX10) (v := .ref (A 60 44)) C hw iw_10 rfl ob_60 (by decide) (by decide) fl_X10_96 rfl rfl dX10_calls_53 ?_
  refine lv_iload hx hb dX10_calls_56 (lv_at hl 0 rfl) ?_
  refine ti_iald (ci := 10) (k := 43) (n := 184) C hw ob_60 (by decide) (fun _ _ => rfl) (vp_in_iff.mpr (by omega)) dX10_calls_58 ?_
  refine lv_topi (fun x_20 ex_20 => ?_)
  have yx_20 : tY M_17 60 43 x_1.toNatClampNeg = x_20 := (ex_20.symm)
  have wx_20 : tY M 60 43 x_1.toNatClampNeg = x_20 := (((cg (tY_uZE hM_17) x_1.toNatClampNeg).trans ((cg (tY_uZE hM_11) x_1.toNatClampNeg).trans (cg (tY_uZE hM_5) x_1.toNatClampNeg)))).symm.trans yx_20
  have L_21 : rg (192 + a.toInt.toNat) = x_20.toInt := ((hs_18.2.2.2.1 (a.toInt.toNat) (by omega)).2.2.2.2.1).trans (rd_k (n := 8 * 1 + a.toInt.toNat) (by omega) ((cg (tY_uZE hM_17) x_1.toNatClampNeg).trans ((cg (tY_uZE hM_11) x_1.toNatClampNeg).trans ((cg (tY_uZE hM_5) x_1.toNatClampNeg).trans wx_20))))
  obtain ⟨x_22, ex_22⟩ : ∃ z : Int64, z = x_20.toInt64 := ⟨_, rfl⟩
  refine lv_i2l (v := x_22) hx hb dX10_calls_59 ex_22.symm ?_
  have tx_22 : x_22.toInt = x_20.toInt := by rw [ex_22, Int32.toInt_toInt64]
  have lox_22 := (x_20 : Int32).le_toInt
  have hix_22 := (x_20 : Int32).toInt_lt
  refine ti_last (ci := 10) (k := 31) (n := 6) C hw ob_60 (by decide) (fun _ _ => rfl) (by unfold vp_in; decide) dX10_calls_60 (fun H locs hw => ?_)
  obtain ⟨M_23, hM_23⟩ : ∃ z : ti_M, z = uZ M_17 60 31 (vp_updL (tZ M_17 60 31) (3 : Int32).toNatClampNeg x_22) := ⟨_, rfl⟩
  have hw := hw.to hM_23.symm
  have iM_23 : mI Tm M_23 := mI_uZ iM_17 hM_23
  have hs_24 : qR (tx 4).toNat 1 rg M_23 := qR_Z hs_18 hM_23
  have hF_25 : rn6 (bq_fa tx rg a.toInt b.toInt) (3 + 1) M_23 := rn6_s hF_19 hM_23 (by decide) (by show _ = bq_fa _ _ _ _ 3; unfold bq_fa; (repeat (first | rw [if_pos (by omega)] | rw [if_neg (by omega)])); omega) ⟨by omega, by omega⟩
  refine lv_aload_n hx hb dX10_calls_61 rfl (lv_at hl 1 rfl) ?_
  refine ti_get (ci := 10) (k := 31) (N := 67) (T := TX10) (v := .ref (A 60 32)) C hw iw_10 rfl ob_60 (by decide) (by decide) fl_X10_62 rfl rfl dX10_calls_62 ?_
  refine lv_iconst (v := 4) hx hb dX10_calls_65 (by decide) ?_
  refine lv_iload_n hx hb dX10_calls_66 rfl (lv_at hl 4 rfl) ?_
  obtain ⟨x_26, ex_26⟩ : ∃ z : Int64, z = b.toInt64 := ⟨_, rfl⟩
  refine lv_i2l (v := x_26) hx hb dX10_calls_67 ex_26.symm ?_
  have tx_26 : x_26.toInt = b.toInt := by rw [ex_26, Int32.toInt_toInt64]
  have lox_26 := (b : Int32).le_toInt
  have hix_26 := (b : Int32).toInt_lt
  refine ti_last (ci := 10) (k := 31) (n := 6) C hw ob_60 (by decide) (fun _ _ => rfl) (by unfold vp_in; decide) dX10_calls_68 (fun H locs hw => ?_)
  obtain ⟨M_27, hM_27⟩ : ∃ z : ti_M, z = uZ M_23 60 31 (vp_updL (tZ M_23 60 31) (4 : Int32).toNatClampNeg x_26) := ⟨_, rfl⟩
  have hw := hw.to hM_27.symm
  have iM_27 : mI Tm M_27 := mI_uZ iM_23 hM_27
  have hs_28 : qR (tx 4).toNat 1 rg M_27 := qR_Z hs_24 hM_27
  have hF_29 : rn6 (bq_fa tx rg a.toInt b.toInt) (4 + 1) M_27 := rn6_s hF_25 hM_27 (by decide) (by show _ = bq_fa _ _ _ _ 4; unfold bq_fa; (repeat (first | rw [if_pos (by omega)] | rw [if_neg (by omega)])); omega) ⟨by omega, by omega⟩
  refine lv_aload_n hx hb dX10_calls_69 rfl (lv_at hl 1 rfl) ?_
  refine ti_get (ci := 10) (k := 31) (N := 67) (T := TX10) (v := .ref (A 60 32)) C hw iw_10 rfl ob_60 (by decide) (by decide) fl_X10_62 rfl rfl dX10_calls_70 ?_
  refine lv_iconst (v := 5) hx hb dX10_calls_73 (by decide) ?_
  refine lv_iload hx hb dX10_calls_74 (lv_at hl 5 rfl) ?_
  refine lv_aload_n hx hb dX10_calls_76 rfl (lv_at hl 1 rfl) ?_
  refine ti_get (ci := 10) (k := 45) (N := 67) (T := TX10) (v := .ref (A 60 46)) C hw iw_10 rfl ob_60 (by decide) (by decide) fl_X10_102 rfl rfl dX10_calls_77 ?_
  refine lv_iload hx hb dX10_calls_80 (lv_at hl 0 rfl) ?_
  refine ti_iald (ci := 10) (k := 45) (n := 184) C hw ob_60 (by decide) (fun _ _ => rfl) (vp_in_iff.mpr (by omega)) dX10_calls_82 ?_
  refine lv_topi (fun x_30 ex_30 => ?_)
  have yx_30 : tY M_27 60 45 x_1.toNatClampNeg = x_30 := (ex_30.symm)
  have wx_30 : tY M 60 45 x_1.toNatClampNeg = x_30 := (((cg (tY_uZE hM_27) x_1.toNatClampNeg).trans ((cg (tY_uZE hM_23) x_1.toNatClampNeg).trans ((cg (tY_uZE hM_17) x_1.toNatClampNeg).trans ((cg (tY_uZE hM_11) x_1.toNatClampNeg).trans (cg (tY_uZE hM_5) x_1.toNatClampNeg)))))).symm.trans yx_30
  have L_31 : rg (208 + a.toInt.toNat) = x_30.toInt := ((hs_28.2.2.2.2.1 (a.toInt.toNat) (by omega)).1 (by omega)).trans (rd_k (n := 8 * 1 + a.toInt.toNat) (by omega) ((cg (tY_uZE hM_27) x_1.toNatClampNeg).trans ((cg (tY_uZE hM_23) x_1.toNatClampNeg).trans ((cg (tY_uZE hM_17) x_1.toNatClampNeg).trans ((cg (tY_uZE hM_11) x_1.toNatClampNeg).trans ((cg (tY_uZE hM_5) x_1.toNatClampNeg).trans wx_30))))))
  refine lv_isub hx hb dX10_calls_83 ?_
  refine lv_topi (fun x_32 ex_32 => ?_)
  have tx_32 : x_32.toInt = bw (t.toInt - x_30.toInt) := bw_sub ex_32 rfl rfl
  obtain ⟨x_33, ex_33⟩ : ∃ z : Int64, z = x_32.toInt64 := ⟨_, rfl⟩
  refine lv_i2l (v := x_33) hx hb dX10_calls_84 ex_33.symm ?_
  have tx_33 : x_33.toInt = x_32.toInt := by rw [ex_33, Int32.toInt_toInt64]
  have lox_33 := (x_32 : Int32).le_toInt
  have hix_33 := (x_32 : Int32).toInt_lt
  refine ti_last (ci := 10) (k := 31) (n := 6) C hw ob_60 (by decide) (fun _ _ => rfl) (by unfold vp_in; decide) dX10_calls_85 (fun H locs hw => ?_)
  obtain ⟨M_34, hM_34⟩ : ∃ z : ti_M, z = uZ M_27 60 31 (vp_updL (tZ M_27 60 31) (5 : Int32).toNatClampNeg x_33) := ⟨_, rfl⟩
  have hw := hw.to hM_34.symm
  have iM_34 : mI Tm M_34 := mI_uZ iM_27 hM_34
  have hs_35 : qR (tx 4).toNat 1 rg M_34 := qR_Z hs_28 hM_34
  have hF_36 : rn6 (bq_fa tx rg a.toInt b.toInt) (5 + 1) M_34 := rn6_s hF_29 hM_34 (by decide) (by show _ = bq_fa _ _ _ _ 5; unfold bq_fa; (repeat (first | rw [if_pos (by omega)] | rw [if_neg (by omega)])); unfold bq_wt; (repeat (first | rw [if_pos (by omega)] | rw [if_neg (by omega)])); rw [show rg 2 = t.toInt by omega, L_31, ← tx_32]; omega) ⟨by omega, by omega⟩
  exact hQ _ _ _ _ _ hw (⟨hF_36, (fI.trans (fI_Z hM_34) (fI.trans (fI_Z hM_27) (fI.trans (fI_Z hM_23) (fI.trans (fI_Z hM_17) (fI.trans (fI_Z hM_11) (fI_Z hM_5)))))), iM_34, (qw.trans (qw_Z hM_34) (qw.trans (qw_Z hM_27) (qw.trans (qw_Z hM_23) (qw.trans (qw_Z hM_17) (qw.trans (qw_Z hM_11) (qw_Z hM_5)))))), ((ry_Z hM_34).trans ((ry_Z hM_27).trans ((ry_Z hM_23).trans ((ry_Z hM_17).trans ((ry_Z hM_11).trans (ry_Z hM_5))))))⟩) dX10_calls_86
set_option maxHeartbeats 4000000 in
set_option maxRecDepth 100000 in
theorem z_X10_hasLaw (l : Launch) (D : va_G) (A : Nat → Nat → Nat) (cy : Nat → ClassId) (hJ : ti_inj ti_LM A) (M : ti_M) (hI : mI Tm M) (a : Int32) (h1 : 0 ≤ a.toInt) (h2 : a.toInt ≤ 2) (tx : Nat → Int) (htr : tR tx M) : ti_Ki l yX10_hasLaw cX10_hasLaw 2 (some .boolean) 0 ti_LM D A cy M [.ref (A 60 0), .int a] (fun r M2 => M2 = M ∧ ((r = 1 ∧ 0 < tx (300 + a.toInt.toNat)) ∨ (r = 0 ∧ tx (300 + a.toInt.toNat) = 0))) := by
  refine ti_eI yp_X10_hasLaw hJ ti_LM_nd (Nat.le_of_ble_eq_true rfl) ?_
  intro p e s m args below meth c Q H0 C hQ hw ls hl
  have hx := C.1
  have hb := C.2.1
  have hl : lv_has ls 2 [(0, .ref (A 60 0)), (1, .int a)] := hl
  obtain ⟨a0, ha0, hto, hl0, hD, hco⟩ := htr.2.2.2 a.toInt.toNat (by omega)
  have ha0 : (tY M 60 14 a.toNatClampNeg).toInt = a0 := ha0
  have hto : (tY M 60 15 a.toNatClampNeg).toInt = a0 + tx (300 + a.toInt.toNat) := hto
  refine lv_aload_n hx hb dX10_hasLaw_0 rfl (lv_at hl 0 rfl) ?_
  refine ti_get (ci := 10) (k := 15) (N := 67) (T := TX10) (v := .ref (A 60 16)) C hw iw_10 rfl ob_60 (by decide) (by decide) fl_X10_49 rfl rfl dX10_hasLaw_1 ?_
  refine lv_iload_n hx hb dX10_hasLaw_4 rfl (lv_at hl 1 rfl) ?_
  refine ti_iald (ci := 10) (k := 15) (n := 6) C hw ob_60 (by decide) (fun _ _ => rfl) (vp_in_iff.mpr (by omega)) dX10_hasLaw_5 ?_
  refine lv_topi (fun x_1 ex_1 => ?_)
  have yx_1 : tY M 60 15 a.toNatClampNeg = x_1 := (ex_1.symm)
  have bx_1 : 0 ≤ x_1.toInt ∧ x_1.toInt ≤ 64 := mI_ry (k := 15) (i := a.toNatClampNeg) hI yx_1.symm
  have zx_1 : (tY M 60 15 a.toNatClampNeg).toInt = x_1.toInt := by rw [yx_1]
  refine lv_aload_n hx hb dX10_hasLaw_6 rfl (lv_at hl 0 rfl) ?_
  refine ti_get (ci := 10) (k := 14) (N := 67) (T := TX10) (v := .ref (A 60 15)) C hw iw_10 rfl ob_60 (by decide) (by decide) fl_X10_46 rfl rfl dX10_hasLaw_7 ?_
  refine lv_iload_n hx hb dX10_hasLaw_10 rfl (lv_at hl 1 rfl) ?_
  refine ti_iald (ci := 10) (k := 14) (n := 6) C hw ob_60 (by decide) (fun _ _ => rfl) (vp_in_iff.mpr (by omega)) dX10_hasLaw_11 ?_
  refine lv_topi (fun x_2 ex_2 => ?_)
  have yx_2 : tY M 60 14 a.toNatClampNeg = x_2 := (ex_2.symm)
  have bx_2 : 0 ≤ x_2.toInt ∧ x_2.toInt ≤ 64 := mI_ry (k := 14) (i := a.toNatClampNeg) hI yx_2.symm
  have zx_2 : (tY M 60 14 a.toNatClampNeg).toInt = x_2.toInt := by rw [yx_2]
  refine sb_icmp_le (tgt := 19) hx hb rfl rfl dX10_hasLaw_12 (by decide) (fun c_12_2 => ?_) (fun c_12_2 => ?_)
  · refine lv_iconst (v := 0) hx hb dX10_hasLaw_19 (by decide) ?_
    exact hQ _ _ _ _ _ _ hw rfl (⟨rfl, Or.inr ⟨rfl, by omega⟩⟩) dX10_hasLaw_20
  · refine lv_iconst (v := 1) hx hb dX10_hasLaw_15 (by decide) ?_
    refine lv_goto (tgt := 20) hx hb dX10_hasLaw_16 (by decide) ?_
    exact hQ _ _ _ _ _ _ hw rfl (⟨rfl, Or.inl ⟨rfl, by omega⟩⟩) dX10_hasLaw_20
set_option maxHeartbeats 4000000 in
set_option maxRecDepth 100000 in
theorem z_X10_within (l : Launch) (D : va_G) (A : Nat → Nat → Nat) (cy : Nat → ClassId) (hJ : ti_inj ti_LM A) (M : ti_M) (hI : mI Tm M) (hL : mL M) (a : Int32) (h1 : 0 ≤ a.toInt) (h2 : a.toInt ≤ 2) (lo : Int32) (mo : Int32) (wo : Int32) (fa tx : Nat → Int) (htr : tR tx M) (hfa : rn6 fa 6 M) (hb : lo.toInt ≤ mo.toInt) : ti_Ki l yX10_within cX10_within 5 (some .int) 3 ti_LM D A cy M [.ref (A 60 0), .int a, .int lo, .int mo, .int wo] (fun r M2 => fI M2 M ∧ r.toInt = bq_pt (if tx (300 + a.toInt.toNat) = 0 then bl_ER else bl_rn (fun n => tx (400 + 64 * a.toInt.toNat + n)) fa (tx (300 + a.toInt.toNat)).toNat 0 0 (fun _ => 0)) lo.toInt mo.toInt wo.toInt ∧ mI Tm M2 ∧ qw M2 M ∧ M2.2.1 = M.2.1) := by
  refine ti_eI yp_X10_within hJ ti_LM_nd (Nat.le_of_ble_eq_true rfl) ?_
  intro p e s m args below meth c Q H0 C hQ hw ls hl
  have hx := C.1
  have hb := C.2.1
  have hl : lv_has ls 5 [(0, .ref (A 60 0)), (1, .int a), (2, .int lo), (3, .int mo), (4, .int wo)] := hl
  obtain ⟨a0, ha0, hto, hl0, hD, hco⟩ := htr.2.2.2 a.toInt.toNat (by omega)
  have ha0 : (tY M 60 14 a.toNatClampNeg).toInt = a0 := ha0
  have hto : (tY M 60 15 a.toNatClampNeg).toInt = a0 + tx (300 + a.toInt.toNat) := hto
  refine lv_aload_n hx hb dX10_within_0 rfl (lv_at hl 0 rfl) ?_
  refine lv_iload_n hx hb dX10_within_1 rfl (lv_at hl 1 rfl) ?_
  refine ti_callVi (ci := 10) (av := [.int a]) C hw (z_X10_hasLaw l D A cy hJ M hI a (by first | omega | decide) (by first | omega | decide) tx htr) ⟨ml_X10_340, ym_X10_hasLaw, yv_X10_hasLaw, yi_X10_hasLaw, yc_X10_hasLaw⟩ yd_X10_hasLaw ob_60 (by decide) rfl rfl hl.1 (Nat.le_of_ble_eq_true rfl) ⟨by decide, by decide⟩ ⟨Nat.zero_le _, Nat.zero_le _⟩ dX10_within_2 (fun r_1 M_2 H locs hp_2 hw => ?_)
  obtain ⟨hm9, hz9⟩ := hp_2
  have hw := hw.to hm9
  rcases hz9 with ⟨rfl, dg_3⟩ | ⟨rfl, dg_3⟩
  · refine sb_if_eq (tgt := 16) hx hb (by decide : (1 : Int32).toInt = 1) dX10_within_5 (by decide) (fun h => absurd h (by decide)) (fun c_5_3 => ?_)
    refine lv_aload_n hx hb dX10_within_8 rfl (lv_at hl 0 rfl) ?_
    refine lv_iload_n hx hb dX10_within_9 rfl (lv_at hl 1 rfl) ?_
    refine ti_callVi (ci := 10) (av := [.int a]) C hw (z_X10_goes l D A cy hJ M hI hL a (by first | omega | decide) (by first | omega | decide) fa (fun n => tx (400 + 64 * a.toInt.toNat + n)) a0 (tx (300 + a.toInt.toNat)) hfa ha0 hto dg_3 (hD dg_3) hco) ⟨ml_X10_343, ym_X10_goes, yv_X10_goes, yi_X10_goes, yc_X10_goes⟩ yd_X10_goes ob_60 (by decide) rfl rfl hl.1 (Nat.le_of_ble_eq_true rfl) ⟨by decide, by decide⟩ ⟨Nat.zero_le _, Nat.zero_le _⟩ dX10_within_10 (fun r_6 M_7 H locs hp_7 hw => ?_)
    obtain ⟨fiM_7, hdM_7, hqM_7⟩ := hp_7
    obtain ⟨iM_7, q_8, q_9, b0r_6, b1r_6⟩ := hqM_7
    rcases hdM_7 with ⟨u1, u2, u3, u4⟩ | ⟨u1, u2⟩
    · refine sb_if_ne (tgt := 19) hx hb rfl dX10_within_13 (by decide) (fun c_13_9 => ?_) (fun h => by omega)
      refine lv_iload_n hx hb dX10_within_19 rfl (lv_at hl 2 rfl) ?_
      obtain ⟨x_12, ex_12⟩ : ∃ z : Int64, z = lo.toInt64 := ⟨_, rfl⟩
      refine lv_i2l (v := x_12) hx hb dX10_within_20 ex_12.symm ?_
      have tx_12 : x_12.toInt = lo.toInt := by rw [ex_12, Int32.toInt_toInt64]
      have lox_12 := (lo : Int32).le_toInt
      have hix_12 := (lo : Int32).toInt_lt
      refine lv_iload_n hx hb dX10_within_21 rfl (lv_at hl 3 rfl) ?_
      obtain ⟨x_13, ex_13⟩ : ∃ z : Int64, z = mo.toInt64 := ⟨_, rfl⟩
      refine lv_i2l (v := x_13) hx hb dX10_within_22 ex_13.symm ?_
      have tx_13 : x_13.toInt = mo.toInt := by rw [ex_13, Int32.toInt_toInt64]
      have lox_13 := (mo : Int32).le_toInt
      have hix_13 := (mo : Int32).toInt_lt
      refine lv_aload_n hx hb dX10_within_23 rfl (lv_at hl 0 rfl) ?_
      refine ti_get (ci := 10) (k := 32) (N := 67) (T := TX10) (v := .ref (A 60 33)) C hw iw_10 rfl ob_60 (by decide) (by decide) fl_X10_66 rfl rfl dX10_within_24 ?_
      refine lv_iconst (v := 0) hx hb dX10_within_27 (by decide) ?_
      refine ti_lald (ci := 10) (k := 32) (n := 64) C hw ob_60 (by decide) (fun _ _ => rfl) (by unfold vp_in; decide) dX10_within_28 ?_
      refine lv_topl (fun x_14 ex_14 => ?_)
      have v9 : x_14.toInt = bl_rn (fun n => tx (400 + 64 * a.toInt.toNat + n)) fa (tx (300 + a.toInt.toNat)).toNat 0 0 (fun _ => 0) := by rw [ex_14, show (0 : Int32).toNatClampNeg = 0 by decide]; exact u2
      refine ti_minl C ml_X10_346 hl.1 (by decide) (Nat.le_of_ble_eq_true rfl) ⟨Nat.zero_le _, Nat.zero_le _⟩ dX10_within_29 ?_
      refine lv_topl (fun x_15 ex_15 => ?_)
      have mx_15 := l_min ex_15
      refine ti_maxl C ml_X10_350 hl.1 (by decide) (Nat.le_of_ble_eq_true rfl) ⟨Nat.zero_le _, Nat.zero_le _⟩ dX10_within_32 ?_
      refine lv_topl (fun x_16 ex_16 => ?_)
      have mx_16 := l_max ex_16
      obtain ⟨x_17, ex_17⟩ : ∃ z : Int32, z = (x_16 : Int64).toInt32 := ⟨_, rfl⟩
      refine lv_l2i (v := x_17) hx hb dX10_within_35 ex_17.symm ?_
      exact hQ _ _ _ _ _ _ hw rfl (⟨fiM_7, (by have er : bl_ER = -9223372036854775808 := rfl; have q := l_2i ex_17 (by omega) (by omega); rw [if_neg (by omega), ← v9, q]; unfold bq_pt; rw [if_neg (by omega)]; (repeat' split) <;> omega), iM_7, q_8, (q_9)⟩) dX10_within_36
    · refine sb_if_ne (tgt := 19) hx hb rfl dX10_within_13 (by decide) (fun h => by omega) (fun c_13_10 => ?_)
      refine lv_iload hx hb dX10_within_16 (lv_at hl 4 rfl) ?_
      exact hQ _ _ _ _ _ _ hw rfl (⟨fiM_7, (by rw [if_neg (by omega), u2]; unfold bq_pt; rw [if_pos rfl]), iM_7, q_8, (q_9)⟩) dX10_within_18
  · refine sb_if_eq (tgt := 16) hx hb (by decide : (0 : Int32).toInt = 0) dX10_within_5 (by decide) (fun c_5_4 => ?_) (fun h => absurd h (by decide))
    refine lv_iload hx hb dX10_within_16 (lv_at hl 4 rfl) ?_
    exact hQ _ _ _ _ _ _ hw rfl (⟨fI.refl, (by rw [if_pos dg_3]; unfold bq_pt; rw [if_pos rfl]), hI, qw.refl, rfl⟩) dX10_within_18

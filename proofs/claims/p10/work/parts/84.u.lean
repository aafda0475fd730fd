variable {Tc : gC} {Tm : gM}
set_option maxHeartbeats 4000000 in
set_option maxRecDepth 100000 in
theorem x_X6_lay (l : Launch) (D : va_G) (A : Nat → Nat → Nat) (cy : Nat → ClassId) (hJ : ti_inj ti_LT A) (M : ti_M) (hI : cI Tc M) (mi pl mn : Int32) (h1 : 0 ≤ mi.toInt) (h2 : mi.toInt ≤ 59) : ti_Ki l yX6_lay cX6_lay 4 (some .int) 0 ti_LT D A cy M [.ref (A 50 0), .int mi, .int pl, .int mn] (fun r M2 => (24 ≤ (tI M 50 5).toInt ∧ r.toInt = -1 ∧ M2 = M) ∨ ((tI M 50 5).toInt < 24 ∧ r.toInt = (tI M 50 5).toInt ∧ cI (cG M2) M2 ∧ M2.2.2.2 = M.2.2.2 ∧ fX M2 M ∧ tY M2 2 0 = tY M 2 0 ∧ (tI M2 50 5).toInt = (tI M 50 5).toInt + 1 ∧ tI M2 50 6 = tI M 50 6)) := by
  refine ti_eI yp_X6_lay hJ ti_LT_nd (Nat.le_of_ble_eq_true rfl) ?_
  intro p e s m args below meth c Q H0 C hQ hw ls hl
  have hx := C.1
  have hb := C.2.1
  have hl : lv_has ls 4 [(0, .ref (A 50 0)), (1, .int mi), (2, .int pl), (3, .int mn)] := hl
  refine lv_aload_n hx hb dX6_lay_0 rfl (lv_at hl 0 rfl) ?_
  refine ti_get (ci := 6) (k := 5) (N := 13) (T := TX6) C hw iw_6 rfl ob_50 (by decide) (by decide) fl_X6_28 rfl rfl dX6_lay_1 ?_
  refine lv_topi (fun x_1 ex_1 => ?_)
  have bx_1 : 0 ≤ x_1.toInt ∧ x_1.toInt ≤ 24 := cI_rd hI ob_50.1 ex_1
  have ux_1 : (tI M 50 5).toInt = x_1.toInt := by rw [ex_1]
  refine lv_bipush (v := 24) hx hb dX6_lay_4 (by decide) ?_
  refine sb_icmp_lt (tgt := 11) hx hb rfl (by decide : (24 : Int32).toInt = 24) dX6_lay_6 (by decide) (fun c_6_1 => ?_) (fun c_6_1 => ?_)
  · refine lv_aload_n hx hb dX6_lay_11 rfl (lv_at hl 0 rfl) ?_
    refine ti_get (ci := 6) (k := 0) (N := 13) (T := TX6) (v := .ref (A 50 1)) C hw iw_6 rfl ob_50 (by decide) (by decide) fl_X6_9 rfl rfl dX6_lay_12 ?_
    refine lv_aload_n hx hb dX6_lay_15 rfl (lv_at hl 0 rfl) ?_
    refine ti_get (ci := 6) (k := 5) (N := 13) (T := TX6) C hw iw_6 rfl ob_50 (by decide) (by decide) fl_X6_28 rfl rfl dX6_lay_16 ?_
    refine ti_top (y := x_1) (ex_1.symm) ?_
    have u_3 : (tI M 50 5).toInt = (x_1 : Int32).toInt := by rw [(ex_1.symm)]
    refine lv_iload_n hx hb dX6_lay_19 rfl (lv_at hl 1 rfl) ?_
    refine ti_iast (ci := 6) (k := 0) (n := 24) C hw ob_50 (by decide) (fun _ _ => rfl) (vp_in_iff.mpr (by omega)) dX6_lay_20 (fun H locs hw => ?_)
    obtain ⟨M_4, hM_4⟩ : ∃ z : ti_M, z = uY M 50 0 (upd (tY M 50 0) (x_1 : Int32).toNatClampNeg mi) := ⟨_, rfl⟩
    have hw := hw.to hM_4.symm
    have iM_4 : cI (cG M_4) M_4 := cI_gY hI hM_4 ob_50.1 (ib_mk (lo := 0) (hi := 59) (by omega) (by omega))
    refine lv_aload_n hx hb dX6_lay_21 rfl (lv_at hl 0 rfl) ?_
    refine ti_get (ci := 6) (k := 1) (N := 13) (T := TX6) (v := .ref (A 50 2)) C hw iw_6 rfl ob_50 (by decide) (by decide) fl_X6_15 rfl rfl dX6_lay_22 ?_
    refine lv_aload_n hx hb dX6_lay_25 rfl (lv_at hl 0 rfl) ?_
    refine ti_get (ci := 6) (k := 5) (N := 13) (T := TX6) C hw iw_6 rfl ob_50 (by decide) (by decide) fl_X6_28 rfl rfl dX6_lay_26 ?_
    refine ti_top (y := x_1) ((tI_uYE hM_4).trans ex_1.symm) ?_
    have u_5 : (tI M_4 50 5).toInt = (x_1 : Int32).toInt := by rw [((tI_uYE hM_4).trans ex_1.symm)]
    refine lv_iload_n hx hb dX6_lay_29 rfl (lv_at hl 2 rfl) ?_
    refine ti_iast (ci := 6) (k := 1) (n := 24) C hw ob_50 (by decide) (fun _ _ => rfl) (vp_in_iff.mpr (by omega)) dX6_lay_30 (fun H locs hw => ?_)
    obtain ⟨M_6, hM_6⟩ : ∃ z : ti_M, z = uY M_4 50 1 (upd (tY M_4 50 1) (x_1 : Int32).toNatClampNeg pl) := ⟨_, rfl⟩
    have hw := hw.to hM_6.symm
    have iM_6 : cI (cG M_6) M_6 := cI_gY iM_4 hM_6 ob_50.1 trivial
    refine lv_aload_n hx hb dX6_lay_31 rfl (lv_at hl 0 rfl) ?_
    refine ti_get (ci := 6) (k := 2) (N := 13) (T := TX6) (v := .ref (A 50 3)) C hw iw_6 rfl ob_50 (by decide) (by decide) fl_X6_18 rfl rfl dX6_lay_32 ?_
    refine lv_aload_n hx hb dX6_lay_35 rfl (lv_at hl 0 rfl) ?_
    refine ti_get (ci := 6) (k := 5) (N := 13) (T := TX6) C hw iw_6 rfl ob_50 (by decide) (by decide) fl_X6_28 rfl rfl dX6_lay_36 ?_
    refine ti_top (y := x_1) ((tI_uYE hM_6).trans ((tI_uYE hM_4).trans ex_1.symm)) ?_
    have u_7 : (tI M_6 50 5).toInt = (x_1 : Int32).toInt := by rw [((tI_uYE hM_6).trans ((tI_uYE hM_4).trans ex_1.symm))]
    refine lv_iload_n hx hb dX6_lay_39 rfl (lv_at hl 3 rfl) ?_
    refine ti_iast (ci := 6) (k := 2) (n := 24) C hw ob_50 (by decide) (fun _ _ => rfl) (vp_in_iff.mpr (by omega)) dX6_lay_40 (fun H locs hw => ?_)
    obtain ⟨M_8, hM_8⟩ : ∃ z : ti_M, z = uY M_6 50 2 (upd (tY M_6 50 2) (x_1 : Int32).toNatClampNeg mn) := ⟨_, rfl⟩
    have hw := hw.to hM_8.symm
    have iM_8 : cI (cG M_8) M_8 := cI_gY iM_6 hM_8 ob_50.1 trivial
    refine lv_aload_n hx hb dX6_lay_41 rfl (lv_at hl 0 rfl) ?_
    refine ti_get (ci := 6) (k := 3) (N := 13) (T := TX6) (v := .ref (A 50 4)) C hw iw_6 rfl ob_50 (by decide) (by decide) fl_X6_21 rfl rfl dX6_lay_42 ?_
    refine lv_aload_n hx hb dX6_lay_45 rfl (lv_at hl 0 rfl) ?_
    refine ti_get (ci := 6) (k := 5) (N := 13) (T := TX6) C hw iw_6 rfl ob_50 (by decide) (by decide) fl_X6_28 rfl rfl dX6_lay_46 ?_
    refine ti_top (y := x_1) ((tI_uYE hM_8).trans ((tI_uYE hM_6).trans ((tI_uYE hM_4).trans ex_1.symm))) ?_
    have u_9 : (tI M_8 50 5).toInt = (x_1 : Int32).toInt := by rw [((tI_uYE hM_8).trans ((tI_uYE hM_6).trans ((tI_uYE hM_4).trans ex_1.symm)))]
    refine lv_iconst (v := (-1)) hx hb dX6_lay_49 (by decide) ?_
    refine ti_iast (ci := 6) (k := 3) (n := 24) C hw ob_50 (by decide) (fun _ _ => rfl) (vp_in_iff.mpr (by omega)) dX6_lay_50 (fun H locs hw => ?_)
    obtain ⟨M_10, hM_10⟩ : ∃ z : ti_M, z = uY M_8 50 3 (upd (tY M_8 50 3) (x_1 : Int32).toNatClampNeg (-1)) := ⟨_, rfl⟩
    have hw := hw.to hM_10.symm
    have iM_10 : cI (cG M_10) M_10 := cI_gY iM_8 hM_10 ob_50.1 trivial
    refine lv_aload_n hx hb dX6_lay_51 rfl (lv_at hl 0 rfl) ?_
    refine lv_iconst (v := 0) hx hb dX6_lay_52 (by decide) ?_
    refine ti_putI (ci := 6) (k := 7) (N := 13) (T := TX6) C hw iw_6 tyX6 tyX6_ok nmX6 rfl ob_50 (by decide) (by decide) fl_X6_34 rfl rfl rfl rfl (fn_6 A _) fs_6_7 dX6_lay_53 (fun H locs hw => ?_)
    obtain ⟨M_11, hM_11⟩ : ∃ z : ti_M, z = uI M_10 50 7 0 := ⟨_, rfl⟩
    have hw := hw.to hM_11.symm
    have iM_11 : cI (cG M_10) M_11 := cI_uI iM_10 hM_11 ob_50.1 trivial
    refine lv_aload_n hx hb dX6_lay_56 rfl (lv_at hl 0 rfl) ?_
    refine lv_dup hx hb dX6_lay_57 rfl ?_
    refine ti_get (ci := 6) (k := 5) (N := 13) (T := TX6) C hw iw_6 rfl ob_50 (by decide) (by decide) fl_X6_28 rfl rfl dX6_lay_58 ?_
    refine ti_top (y := x_1) ((tI_nE hM_11 (nk (by decide))).trans ((tI_uYE hM_10).trans ((tI_uYE hM_8).trans ((tI_uYE hM_6).trans ((tI_uYE hM_4).trans ex_1.symm))))) ?_
    have u_12 : (tI M_11 50 5).toInt = (x_1 : Int32).toInt := by rw [((tI_nE hM_11 (nk (by decide))).trans ((tI_uYE hM_10).trans ((tI_uYE hM_8).trans ((tI_uYE hM_6).trans ((tI_uYE hM_4).trans ex_1.symm)))))]
    refine lv_iconst (v := 1) hx hb dX6_lay_61 (by decide) ?_
    refine lv_iadd hx hb dX6_lay_62 ?_
    refine lv_topi (fun x_13 ex_13 => ?_)
    have tx_13 : x_13.toInt = x_1.toInt + 1 := i_add ex_13 rfl (by decide : (1 : Int32).toInt = 1) (by omega) (by omega)
    refine ti_putI (ci := 6) (k := 5) (N := 13) (T := TX6) C hw iw_6 tyX6 tyX6_ok nmX6 rfl ob_50 (by decide) (by decide) fl_X6_28 rfl rfl rfl rfl (fn_6 A _) fs_6_5 dX6_lay_63 (fun H locs hw => ?_)
    obtain ⟨M_14, hM_14⟩ : ∃ z : ti_M, z = uI M_11 50 5 x_13 := ⟨_, rfl⟩
    have hw := hw.to hM_14.symm
    have iM_14 : cI (cG M_14) M_14 := cI_gI iM_11 hM_14 ob_50.1 (ib_mk (lo := 0) (hi := 24) (by omega) (by omega))
    have vM_14 : (tI M_14 50 5).toInt = (x_13 : Int32).toInt := by rw [tI_uE hM_14]
    refine lv_aload_n hx hb dX6_lay_66 rfl (lv_at hl 0 rfl) ?_
    refine ti_get (ci := 6) (k := 5) (N := 13) (T := TX6) C hw iw_6 rfl ob_50 (by decide) (by decide) fl_X6_28 rfl rfl dX6_lay_67 ?_
    refine ti_top (y := x_13) (tI_uE hM_14) ?_
    have u_15 : (tI M_14 50 5).toInt = (x_13 : Int32).toInt := by rw [(tI_uE hM_14)]
    refine lv_iconst (v := 1) hx hb dX6_lay_70 (by decide) ?_
    refine lv_isub hx hb dX6_lay_71 ?_
    refine lv_topi (fun x_16 ex_16 => ?_)
    have tx_16 : x_16.toInt = x_13.toInt - 1 := i_sub ex_16 rfl (by decide : (1 : Int32).toInt = 1) (by omega) (by omega)
    exact hQ _ _ _ _ _ _ hw rfl (Or.inr ⟨by omega, by omega, cI_self iM_14, ((rf_I hM_14).trans ((rf_I hM_11).trans ((rf_Y hM_10).trans ((rf_Y hM_8).trans ((rf_Y hM_6).trans (rf_Y hM_4)))))), (fX.trans (fx_I hM_14 (by decide)) (fX.trans (fx_I hM_11 (by decide)) (fX.trans (fx_of (ra_Y hM_10)) (fX.trans (fx_of (ra_Y hM_8)) (fX.trans (fx_of (ra_Y hM_6)) (fx_of (ra_Y hM_4))))))), ((tY_uIE hM_14).trans ((tY_uIE hM_11).trans ((tY_nE hM_10 (no (by decide))).trans ((tY_nE hM_8 (no (by decide))).trans ((tY_nE hM_6 (no (by decide))).trans (tY_nE hM_4 (no (by decide)))))))), (by rw [(tI_uE hM_14)]; omega), (((tI_nE hM_14 (nk (by decide))).trans ((tI_nE hM_11 (nk (by decide))).trans ((tI_uYE hM_10).trans ((tI_uYE hM_8).trans ((tI_uYE hM_6).trans (tI_uYE hM_4)))))))⟩) dX6_lay_72
  · refine lv_iconst (v := (-1)) hx hb dX6_lay_9 (by decide) ?_
    exact hQ _ _ _ _ _ _ hw rfl (Or.inl ⟨by omega, by decide, rfl⟩) dX6_lay_10
set_option maxHeartbeats 4000000 in
set_option maxRecDepth 100000 in
theorem x_X6_layStrike (l : Launch) (D : va_G) (A : Nat → Nat → Nat) (cy : Nat → ClassId) (hJ : ti_inj ti_LT A) (M : ti_M) (hI : cI Tc M) (sn : Int32) : ti_Ki l yX6_layStrike cX6_layStrike 2 (some .int) 0 ti_LT D A cy M [.ref (A 50 0), .int sn] (fun r M2 => ((sn.toInt < 0 ∨ (tI M 50 5).toInt ≤ sn.toInt ∨ 24 ≤ (tI M 50 5).toInt) ∧ r.toInt = -1 ∧ M2 = M) ∨ (¬ (sn.toInt < 0 ∨ (tI M 50 5).toInt ≤ sn.toInt ∨ 24 ≤ (tI M 50 5).toInt) ∧ r.toInt = (tI M 50 5).toInt ∧ cI (cG M2) M2 ∧ M2.2.2.2 = M.2.2.2 ∧ fX M2 M ∧ tY M2 2 0 = tY M 2 0 ∧ (tI M2 50 5).toInt = (tI M 50 5).toInt + 1 ∧ tI M2 50 6 = tI M 50 6)) := by
  refine ti_eI yp_X6_layStrike hJ ti_LT_nd (Nat.le_of_ble_eq_true rfl) ?_
  intro p e s m args below meth c Q H0 C hQ hw ls hl
  have hx := C.1
  have hb := C.2.1
  have hl : lv_has ls 2 [(0, .ref (A 50 0)), (1, .int sn)] := hl
  refine lv_iload_n hx hb dX6_layStrike_0 rfl (lv_at hl 1 rfl) ?_
  refine sb_if_lt (tgt := 21) hx hb rfl dX6_layStrike_1 (by decide) (fun c_1_0 => ?_) (fun c_1_0 => ?_)
  · refine lv_iconst (v := (-1)) hx hb dX6_layStrike_21 (by decide) ?_
    exact hQ _ _ _ _ _ _ hw rfl (Or.inl ⟨by omega, by decide, rfl⟩) dX6_layStrike_22
  · refine lv_iload_n hx hb dX6_layStrike_4 rfl (lv_at hl 1 rfl) ?_
    refine lv_aload_n hx hb dX6_layStrike_5 rfl (lv_at hl 0 rfl) ?_
    refine ti_get (ci := 6) (k := 5) (N := 13) (T := TX6) C hw iw_6 rfl ob_50 (by decide) (by decide) fl_X6_28 rfl rfl dX6_layStrike_6 ?_
    refine lv_topi (fun x_2 ex_2 => ?_)
    have bx_2 : 0 ≤ x_2.toInt ∧ x_2.toInt ≤ 24 := cI_rd hI ob_50.1 ex_2
    have ux_2 : (tI M 50 5).toInt = x_2.toInt := by rw [ex_2]
    refine sb_icmp_ge (tgt := 21) hx hb rfl rfl dX6_layStrike_9 (by decide) (fun c_9_2 => ?_) (fun c_9_2 => ?_)
    · refine lv_iconst (v := (-1)) hx hb dX6_layStrike_21 (by decide) ?_
      exact hQ _ _ _ _ _ _ hw rfl (Or.inl ⟨by omega, by decide, rfl⟩) dX6_layStrike_22
    · refine lv_aload_n hx hb dX6_layStrike_12 rfl (lv_at hl 0 rfl) ?_
      refine ti_get (ci := 6) (k := 5) (N := 13) (T := TX6) C hw iw_6 rfl ob_50 (by decide) (by decide) fl_X6_28 rfl rfl dX6_layStrike_13 ?_
      refine ti_top (y := x_2) (ex_2.symm) ?_
      have u_4 : (tI M 50 5).toInt = (x_2 : Int32).toInt := by rw [(ex_2.symm)]
      refine lv_bipush (v := 24) hx hb dX6_layStrike_16 (by decide) ?_
      refine sb_icmp_lt (tgt := 23) hx hb rfl (by decide : (24 : Int32).toInt = 24) dX6_layStrike_18 (by decide) (fun c_18_4 => ?_) (fun c_18_4 => ?_)
      · refine lv_aload_n hx hb dX6_layStrike_23 rfl (lv_at hl 0 rfl) ?_
        refine ti_get (ci := 6) (k := 3) (N := 13) (T := TX6) (v := .ref (A 50 4)) C hw iw_6 rfl ob_50 (by decide) (by decide) fl_X6_21 rfl rfl dX6_layStrike_24 ?_
        refine lv_aload_n hx hb dX6_layStrike_27 rfl (lv_at hl 0 rfl) ?_
        refine ti_get (ci := 6) (k := 5) (N := 13) (T := TX6) C hw iw_6 rfl ob_50 (by decide) (by decide) fl_X6_28 rfl rfl dX6_layStrike_28 ?_
        refine ti_top (y := x_2) (ex_2.symm) ?_
        have u_6 : (tI M 50 5).toInt = (x_2 : Int32).toInt := by rw [(ex_2.symm)]
        refine lv_iload_n hx hb dX6_layStrike_31 rfl (lv_at hl 1 rfl) ?_
        refine ti_iast (ci := 6) (k := 3) (n := 24) C hw ob_50 (by decide) (fun _ _ => rfl) (vp_in_iff.mpr (by omega)) dX6_layStrike_32 (fun H locs hw => ?_)
        obtain ⟨M_7, hM_7⟩ : ∃ z : ti_M, z = uY M 50 3 (upd (tY M 50 3) (x_2 : Int32).toNatClampNeg sn) := ⟨_, rfl⟩
        have hw := hw.to hM_7.symm
        have iM_7 : cI (cG M_7) M_7 := cI_gY hI hM_7 ob_50.1 trivial
        refine lv_aload_n hx hb dX6_layStrike_33 rfl (lv_at hl 0 rfl) ?_
        refine lv_iconst (v := 0) hx hb dX6_layStrike_34 (by decide) ?_
        refine ti_putI (ci := 6) (k := 7) (N := 13) (T := TX6) C hw iw_6 tyX6 tyX6_ok nmX6 rfl ob_50 (by decide) (by decide) fl_X6_34 rfl rfl rfl rfl (fn_6 A _) fs_6_7 dX6_layStrike_35 (fun H locs hw => ?_)
        obtain ⟨M_8, hM_8⟩ : ∃ z : ti_M, z = uI M_7 50 7 0 := ⟨_, rfl⟩
        have hw := hw.to hM_8.symm
        have iM_8 : cI (cG M_7) M_8 := cI_uI iM_7 hM_8 ob_50.1 trivial
        refine lv_aload_n hx hb dX6_layStrike_38 rfl (lv_at hl 0 rfl) ?_
        refine lv_dup hx hb dX6_layStrike_39 rfl ?_
        refine ti_get (ci := 6) (k := 5) (N := 13) (T := TX6) C hw iw_6 rfl ob_50 (by decide) (by decide) fl_X6_28 rfl rfl dX6_layStrike_40 ?_
        refine ti_top (y := x_2) ((tI_nE hM_8 (nk (by decide))).trans ((tI_uYE hM_7).trans ex_2.symm)) ?_
        have u_9 : (tI M_8 50 5).toInt = (x_2 : Int32).toInt := by rw [((tI_nE hM_8 (nk (by decide))).trans ((tI_uYE hM_7).trans ex_2.symm))]
        refine lv_iconst (v := 1) hx hb dX6_layStrike_43 (by decide) ?_
        refine lv_iadd hx hb dX6_layStrike_44 ?_
        refine lv_topi (fun x_10 ex_10 => ?_)
        have tx_10 : x_10.toInt = x_2.toInt + 1 := i_add ex_10 rfl (by decide : (1 : Int32).toInt = 1) (by omega) (by omega)
        refine ti_putI (ci := 6) (k := 5) (N := 13) (T := TX6) C hw iw_6 tyX6 tyX6_ok nmX6 rfl ob_50 (by decide) (by decide) fl_X6_28 rfl rfl rfl rfl (fn_6 A _) fs_6_5 dX6_layStrike_45 (fun H locs hw => ?_)
        obtain ⟨M_11, hM_11⟩ : ∃ z : ti_M, z = uI M_8 50 5 x_10 := ⟨_, rfl⟩
        have hw := hw.to hM_11.symm
        have iM_11 : cI (cG M_11) M_11 := cI_gI iM_8 hM_11 ob_50.1 (ib_mk (lo := 0) (hi := 24) (by omega) (by omega))
        have vM_11 : (tI M_11 50 5).toInt = (x_10 : Int32).toInt := by rw [tI_uE hM_11]
        refine lv_aload_n hx hb dX6_layStrike_48 rfl (lv_at hl 0 rfl) ?_
        refine ti_get (ci := 6) (k := 5) (N := 13) (T := TX6) C hw iw_6 rfl ob_50 (by decide) (by decide) fl_X6_28 rfl rfl dX6_layStrike_49 ?_
        refine ti_top (y := x_10) (tI_uE hM_11) ?_
        have u_12 : (tI M_11 50 5).toInt = (x_10 : Int32).toInt := by rw [(tI_uE hM_11)]
        refine lv_iconst (v := 1) hx hb dX6_layStrike_52 (by decide) ?_
        refine lv_isub hx hb dX6_layStrike_53 ?_
        refine lv_topi (fun x_13 ex_13 => ?_)
        have tx_13 : x_13.toInt = x_10.toInt - 1 := i_sub ex_13 rfl (by decide : (1 : Int32).toInt = 1) (by omega) (by omega)
        exact hQ _ _ _ _ _ _ hw rfl (Or.inr ⟨by omega, by omega, cI_self iM_11, ((rf_I hM_11).trans ((rf_I hM_8).trans (rf_Y hM_7))), (fX.trans (fx_I hM_11 (by decide)) (fX.trans (fx_I hM_8 (by decide)) (fx_of (ra_Y hM_7)))), ((tY_uIE hM_11).trans ((tY_uIE hM_8).trans (tY_nE hM_7 (no (by decide))))), (by rw [(tI_uE hM_11)]; omega), (((tI_nE hM_11 (nk (by decide))).trans ((tI_nE hM_8 (nk (by decide))).trans (tI_uYE hM_7))))⟩) dX6_layStrike_54
      · refine lv_iconst (v := (-1)) hx hb dX6_layStrike_21 (by decide) ?_
        exact hQ _ _ _ _ _ _ hw rfl (Or.inl ⟨by omega, by decide, rfl⟩) dX6_layStrike_22
set_option maxHeartbeats 4000000 in
set_option maxRecDepth 100000 in
theorem x_X6_knowBy (l : Launch) (D : va_G) (A : Nat → Nat → Nat) (cy : Nat → ClassId) (hJ : ti_inj ti_LT A) (M : ti_M) (hI : cI Tc M) (sn : Int32) : ti_Ki l yX6_knowBy cX6_knowBy 2 (some .boolean) 0 ti_LT D A cy M [.ref (A 50 0), .int sn] (fun r M2 => ((sn.toInt < -1 ∨ (tI M 50 5).toInt < sn.toInt) ∧ r.toInt = 0 ∧ M2 = M) ∨ (¬ (sn.toInt < -1 ∨ (tI M 50 5).toInt < sn.toInt) ∧ r.toInt = 1 ∧ cI (cG M2) M2 ∧ M2.2.2.2 = M.2.2.2 ∧ fX M2 M ∧ tY M2 2 0 = tY M 2 0 ∧ tI M2 50 5 = tI M 50 5 ∧ tI M2 50 6 = sn)) := by
  refine ti_eI yp_X6_knowBy hJ ti_LT_nd (Nat.le_of_ble_eq_true rfl) ?_
  intro p e s m args below meth c Q H0 C hQ hw ls hl
  have hx := C.1
  have hb := C.2.1
  have hl : lv_has ls 2 [(0, .ref (A 50 0)), (1, .int sn)] := hl
  refine lv_iload_n hx hb dX6_knowBy_0 rfl (lv_at hl 1 rfl) ?_
  refine lv_iconst (v := (-1)) hx hb dX6_knowBy_1 (by decide) ?_
  refine sb_icmp_lt (tgt := 13) hx hb rfl (by decide : ((-1) : Int32).toInt = (-1)) dX6_knowBy_2 (by decide) (fun c_2_0 => ?_) (fun c_2_0 => ?_)
  · refine lv_iconst (v := 0) hx hb dX6_knowBy_13 (by decide) ?_
    exact hQ _ _ _ _ _ _ hw rfl (Or.inl ⟨by omega, by decide, rfl⟩) dX6_knowBy_14
  · refine lv_iload_n hx hb dX6_knowBy_5 rfl (lv_at hl 1 rfl) ?_
    refine lv_aload_n hx hb dX6_knowBy_6 rfl (lv_at hl 0 rfl) ?_
    refine ti_get (ci := 6) (k := 5) (N := 13) (T := TX6) C hw iw_6 rfl ob_50 (by decide) (by decide) fl_X6_28 rfl rfl dX6_knowBy_7 ?_
    refine lv_topi (fun x_2 ex_2 => ?_)
    have bx_2 : 0 ≤ x_2.toInt ∧ x_2.toInt ≤ 24 := cI_rd hI ob_50.1 ex_2
    have ux_2 : (tI M 50 5).toInt = x_2.toInt := by rw [ex_2]
    refine sb_icmp_le (tgt := 15) hx hb rfl rfl dX6_knowBy_10 (by decide) (fun c_10_2 => ?_) (fun c_10_2 => ?_)
    · refine lv_aload_n hx hb dX6_knowBy_15 rfl (lv_at hl 0 rfl) ?_
      refine lv_iload_n hx hb dX6_knowBy_16 rfl (lv_at hl 1 rfl) ?_
      refine ti_putI (ci := 6) (k := 6) (N := 13) (T := TX6) C hw iw_6 tyX6 tyX6_ok nmX6 rfl ob_50 (by decide) (by decide) fl_X6_31 rfl rfl rfl rfl (fn_6 A _) fs_6_6 dX6_knowBy_17 (fun H locs hw => ?_)
      obtain ⟨M_4, hM_4⟩ : ∃ z : ti_M, z = uI M 50 6 sn := ⟨_, rfl⟩
      have hw := hw.to hM_4.symm
      have iM_4 : cI (cG M_4) M_4 := cI_gI hI hM_4 ob_50.1 (ib_mk (lo := (-1)) (hi := 24) (by omega) (by omega))
      have vM_4 : (tI M_4 50 6).toInt = (sn : Int32).toInt := by rw [tI_uE hM_4]
      refine lv_aload_n hx hb dX6_knowBy_20 rfl (lv_at hl 0 rfl) ?_
      refine lv_iconst (v := 0) hx hb dX6_knowBy_21 (by decide) ?_
      refine ti_putI (ci := 6) (k := 7) (N := 13) (T := TX6) C hw iw_6 tyX6 tyX6_ok nmX6 rfl ob_50 (by decide) (by decide) fl_X6_34 rfl rfl rfl rfl (fn_6 A _) fs_6_7 dX6_knowBy_22 (fun H locs hw => ?_)
      obtain ⟨M_5, hM_5⟩ : ∃ z : ti_M, z = uI M_4 50 7 0 := ⟨_, rfl⟩
      have hw := hw.to hM_5.symm
      have iM_5 : cI (cG M_4) M_5 := cI_uI iM_4 hM_5 ob_50.1 trivial
      refine lv_iconst (v := 1) hx hb dX6_knowBy_25 (by decide) ?_
      exact hQ _ _ _ _ _ _ hw rfl (Or.inr ⟨by omega, by decide, cI_self iM_5, ((rf_I hM_5).trans (rf_I hM_4)), (fX.trans (fx_I hM_5 (by decide)) (fx_I hM_4 (by decide))), ((tY_uIE hM_5).trans (tY_uIE hM_4)), (((tI_nE hM_5 (nk (by decide))).trans (tI_nE hM_4 (nk (by decide))))), (by rw [((tI_nE hM_5 (nk (by decide))).trans (tI_uE hM_4))])⟩) dX6_knowBy_26
    · refine lv_iconst (v := 0) hx hb dX6_knowBy_13 (by decide) ?_
      exact hQ _ _ _ _ _ _ hw rfl (Or.inl ⟨by omega, by decide, rfl⟩) dX6_knowBy_14
set_option maxHeartbeats 4000000 in
set_option maxRecDepth 100000 in
theorem x_X9_isPlace (l : Launch) (D : va_G) (A : Nat → Nat → Nat) (cy : Nat → ClassId) (hJ : ti_inj ti_LT A) (M : ti_M) (hI : cI Tc M)  (mn : Int32) : ti_Ki l yX9_isPlace cX9_isPlace 2 (some .boolean) 0 ti_LT D A cy M [.ref (A 0 0), .int mn] (fun r M2 => M2 = M ∧ ((r = 1 ∧ 0 ≤ mn.toInt ∧ mn.toInt ≤ 7) ∨ (r = 0 ∧ (mn.toInt < 0 ∨ 7 < mn.toInt)))) := by
  refine ti_eI yp_X9_isPlace hJ ti_LT_nd (Nat.le_of_ble_eq_true rfl) ?_
  intro p e s m args below meth c Q H0 C hQ hw ls hl
  have hx := C.1
  have hb := C.2.1
  have hl : lv_has ls 2 [(0, .ref (A 0 0)), (1, .int mn)] := hl
  refine lv_iload_n hx hb dX9_isPlace_0 rfl (lv_at hl 1 rfl) ?_
  refine sb_if_lt (tgt := 14) hx hb rfl dX9_isPlace_1 (by decide) (fun c_1_0 => ?_) (fun c_1_0 => ?_)
  · refine lv_iconst (v := 0) hx hb dX9_isPlace_14 (by decide) ?_
    exact hQ _ _ _ _ _ _ hw rfl (⟨rfl, Or.inr ⟨rfl, by omega⟩⟩) dX9_isPlace_15
  · refine lv_iload_n hx hb dX9_isPlace_4 rfl (lv_at hl 1 rfl) ?_
    refine lv_bipush (v := 8) hx hb dX9_isPlace_5 (by decide) ?_
    refine sb_icmp_ge (tgt := 14) hx hb rfl (by decide : (8 : Int32).toInt = 8) dX9_isPlace_7 (by decide) (fun c_7_1 => ?_) (fun c_7_1 => ?_)
    · refine lv_iconst (v := 0) hx hb dX9_isPlace_14 (by decide) ?_
      exact hQ _ _ _ _ _ _ hw rfl (⟨rfl, Or.inr ⟨rfl, by omega⟩⟩) dX9_isPlace_15
    · refine lv_iconst (v := 1) hx hb dX9_isPlace_10 (by decide) ?_
      refine lv_goto (tgt := 15) hx hb dX9_isPlace_11 (by decide) ?_
      exact hQ _ _ _ _ _ _ hw rfl (⟨rfl, Or.inl ⟨rfl, by omega, by omega⟩⟩) dX9_isPlace_15
set_option maxHeartbeats 4000000 in
set_option maxRecDepth 100000 in
theorem x_X9_isMan (l : Launch) (D : va_G) (A : Nat → Nat → Nat) (cy : Nat → ClassId) (hJ : ti_inj ti_LT A) (M : ti_M) (hI : cI Tc M) (t1 : Nat) (ht1 : t1 = 3 ∨ t1 = 4) (hT1 : tT M 0 1 = some t1) (mn : Int32) : ti_Ki l yX9_isMan cX9_isMan 2 (some .boolean) 0 ti_LT D A cy M [.ref (A 0 0), .int mn] (fun r M2 => M2 = M ∧ ((r = 1 ∧ 0 ≤ mn.toInt ∧ mn.toInt < (tI M t1 4).toInt) ∨ (r = 0 ∧ (mn.toInt < 0 ∨ (tI M t1 4).toInt ≤ mn.toInt)))) := by
  refine ti_eI yp_X9_isMan hJ ti_LT_nd (Nat.le_of_ble_eq_true rfl) ?_
  intro p e s m args below meth c Q H0 C hQ hw ls hl
  have hx := C.1
  have hb := C.2.1
  have hl : lv_has ls 2 [(0, .ref (A 0 0)), (1, .int mn)] := hl
  refine lv_iload_n hx hb dX9_isMan_0 rfl (lv_at hl 1 rfl) ?_
  refine sb_if_lt (tgt := 19) hx hb rfl dX9_isMan_1 (by decide) (fun c_1_0 => ?_) (fun c_1_0 => ?_)
  · refine lv_iconst (v := 0) hx hb dX9_isMan_19 (by decide) ?_
    exact hQ _ _ _ _ _ _ hw rfl (⟨rfl, Or.inr ⟨rfl, by omega⟩⟩) dX9_isMan_20
  · refine lv_iload_n hx hb dX9_isMan_4 rfl (lv_at hl 1 rfl) ?_
    refine lv_aload_n hx hb dX9_isMan_5 rfl (lv_at hl 0 rfl) ?_
    refine ti_get (ci := 9) (k := 1) (N := 10) (T := TX9) (v := .ref (A t1 0)) C hw iw_9 rfl ob_0 (by decide) (by decide) fl_X9_19 rfl (ti_Tv (hT1)) dX9_isMan_6 ?_
    refine ti_get (ci := 8) (k := 4) (N := 12) (T := TX8) C hw iw_8 rfl (ob_t ht1) (by decide) (by decide) fl_X9_301 rfl rfl dX9_isMan_9 ?_
    refine lv_topi (fun x_2 ex_2 => ?_)
    have bx_2 : 0 ≤ x_2.toInt ∧ x_2.toInt ≤ 8 := cI_rd hI (ob_t ht1).1 ex_2
    have ux_2 : (tI M t1 4).toInt = x_2.toInt := by rw [ex_2]
    refine sb_icmp_ge (tgt := 19) hx hb rfl rfl dX9_isMan_12 (by decide) (fun c_12_2 => ?_) (fun c_12_2 => ?_)
    · refine lv_iconst (v := 0) hx hb dX9_isMan_19 (by decide) ?_
      exact hQ _ _ _ _ _ _ hw rfl (⟨rfl, Or.inr ⟨rfl, by omega⟩⟩) dX9_isMan_20
    · refine lv_iconst (v := 1) hx hb dX9_isMan_15 (by decide) ?_
      refine lv_goto (tgt := 20) hx hb dX9_isMan_16 (by decide) ?_
      exact hQ _ _ _ _ _ _ hw rfl (⟨rfl, Or.inl ⟨rfl, by omega, by omega⟩⟩) dX9_isMan_20
set_option maxHeartbeats 4000000 in
set_option maxRecDepth 100000 in
theorem x_X9_stone (l : Launch) (D : va_G) (A : Nat → Nat → Nat) (cy : Nat → ClassId) (hJ : ti_inj ti_LT A) (M : ti_M) (hI : cI Tc M) (hF : cF Tc M) (z1 : Int32) (z2 : Int32) (z3 : Int32) (rg : Nat → Int) (htd : tdC M rg) : ti_Ki l yX9_stone cX9_stone 4 (some .int) 2 ti_LT D A cy M [.ref (A 0 0), .int z1, .int z2, .int z3] (fun r M2 => ((z1.toInt < 0 ∨ 59 < z1.toInt ∨ z2.toInt < 0 ∨ 7 < z2.toInt ∨ (z3.toInt ≠ -1 ∧ (z3.toInt < 0 ∨ rg 7 ≤ z3.toInt)) ∨ 24 ≤ (tI M 50 5).toInt) ∧ r.toInt = -1 ∧ M2 = M) ∨ (¬ (z1.toInt < 0 ∨ 59 < z1.toInt ∨ z2.toInt < 0 ∨ 7 < z2.toInt ∨ (z3.toInt ≠ -1 ∧ (z3.toInt < 0 ∨ rg 7 ≤ z3.toInt)) ∨ 24 ≤ (tI M 50 5).toInt) ∧ r.toInt = (tI M 50 5).toInt ∧ cF (cG M2) M2 ∧ tI M2 2 1 = tI M 2 1 ∧ tl M2 M ∧ tY M2 2 0 = tY M 2 0 ∧ (tI M2 50 5).toInt = (tI M 50 5).toInt + 1 ∧ tI M2 50 6 = tI M 50 6)) := by
  refine ti_eI yp_X9_stone hJ ti_LT_nd (Nat.le_of_ble_eq_true rfl) ?_
  intro p e s m args below meth c Q H0 C hQ hw ls hl
  have hx := C.1
  have hb := C.2.1
  have hl : lv_has ls 4 [(0, .ref (A 0 0)), (1, .int z1), (2, .int z2), (3, .int z3)] := hl
  obtain ⟨-, ⟨t1, ht1, hT1⟩, ⟨t2, ht2, hT2⟩, ⟨t, ht, hT⟩, hS, hM⟩ := id hF
  obtain ⟨t0, -, hT0, -, h7, h10⟩ := id htd
  obtain rfl : t1 = t0 := Option.some.inj (hT1.symm.trans hT0)
  refine lv_iload_n hx hb dX9_stone_0 rfl (lv_at hl 1 rfl) ?_
  refine sb_if_lt (tgt := 18) hx hb rfl dX9_stone_1 (by decide) (fun c_1_0 => ?_) (fun c_1_0 => ?_)
  · refine lv_iconst (v := (-1)) hx hb dX9_stone_18 (by decide) ?_
    exact hQ _ _ _ _ _ _ hw rfl (Or.inl ⟨by omega, by first | omega | decide, rfl⟩) dX9_stone_19
  · refine lv_iload_n hx hb dX9_stone_4 rfl (lv_at hl 1 rfl) ?_
    refine lv_bipush (v := 59) hx hb dX9_stone_5 (by decide) ?_
    refine sb_icmp_gt (tgt := 18) hx hb rfl (by decide : (59 : Int32).toInt = 59) dX9_stone_7 (by decide) (fun c_7_1 => ?_) (fun c_7_1 => ?_)
    · refine lv_iconst (v := (-1)) hx hb dX9_stone_18 (by decide) ?_
      exact hQ _ _ _ _ _ _ hw rfl (Or.inl ⟨by omega, by first | omega | decide, rfl⟩) dX9_stone_19
    · refine lv_aload_n hx hb dX9_stone_10 rfl (lv_at hl 0 rfl) ?_
      refine lv_iload_n hx hb dX9_stone_11 rfl (lv_at hl 2 rfl) ?_
      refine ti_callVi (ci := 9) (av := [.int z2]) C hw (x_X9_isPlace l D A cy hJ M hI z2) ⟨ml_X9_159, ym_X9_isPlace, yv_X9_isPlace, yi_X9_isPlace, yc_X9_isPlace⟩ yd_X9_isPlace ob_0 (by decide) rfl rfl hl.1 (Nat.le_of_ble_eq_true rfl) ⟨by decide, by decide⟩ ⟨Nat.zero_le _, Nat.zero_le _⟩ dX9_stone_12 (fun r_3 M_4 H locs hp_4 hw => ?_)
      obtain ⟨hm, hz⟩ := hp_4
      have hw := hw.to hm
      rcases hz with ⟨rfl, d0_5, d1_5⟩ | ⟨rfl, e_5⟩
      · refine sb_if_ne (tgt := 20) hx hb (by decide : (1 : Int32).toInt = 1) dX9_stone_15 (by decide) (fun c_15_5 => ?_) (fun h => absurd h (by decide))
        refine lv_iload_n hx hb dX9_stone_20 rfl (lv_at hl 3 rfl) ?_
        refine lv_iconst (v := (-1)) hx hb dX9_stone_21 (by decide) ?_
        refine sb_icmp_eq (tgt := 35) hx hb rfl (by decide : ((-1) : Int32).toInt = (-1)) dX9_stone_22 (by decide) (fun c_22_7 => ?_) (fun c_22_7 => ?_)
        · refine lv_aload_n hx hb dX9_stone_35 rfl (lv_at hl 0 rfl) ?_
          refine ti_get (ci := 9) (k := 8) (N := 10) (T := TX9) (v := .ref (A 50 0)) C hw iw_9 rfl ob_0 (by decide) (by decide) fl_X9_54 rfl rfl dX9_stone_36 ?_
          refine lv_iload_n hx hb dX9_stone_39 rfl (lv_at hl 1 rfl) ?_
          refine lv_iload_n hx hb dX9_stone_40 rfl (lv_at hl 2 rfl) ?_
          refine lv_iload_n hx hb dX9_stone_41 rfl (lv_at hl 3 rfl) ?_
          refine lv_iconst (v := (-1)) hx hb dX9_stone_42 (by decide) ?_
          refine sb_icmp_ne (tgt := 51) hx hb rfl (by decide : ((-1) : Int32).toInt = (-1)) dX9_stone_43 (by decide) (fun c_43_13 => ?_) (fun c_43_13 => ?_)
          · refine lv_iload_n hx hb dX9_stone_51 rfl (lv_at hl 3 rfl) ?_
            refine ti_callVi (ci := 6) (av := [.int z1, .int z2, .int z3]) C hw (x_X6_lay l D A cy hJ M hI z1 z2 z3 (by omega) (by omega)) ⟨ml_X9_262, ym_X6_lay, yv_X6_lay, yi_X6_lay, yc_X6_lay⟩ yd_X6_lay ob_50 (by decide) rfl rfl hl.1 (Nat.le_of_ble_eq_true rfl) ⟨by decide, by decide⟩ ⟨Nat.zero_le _, Nat.zero_le _⟩ dX9_stone_52 (fun r_22 M_23 H locs hp_23 hw => ?_)
            rcases hp_23 with ⟨z0_24, z1_24, hm⟩ | ⟨z0_24, z1_24, z2_24, z3_24, z4_24, z5_24, z6_24, z7_24⟩
            · have hw := hw.to hm
              exact hQ _ _ _ _ _ _ hw rfl (Or.inl ⟨by omega, by first | omega | decide, rfl⟩) dX9_stone_55
            · exact hQ _ _ _ _ _ _ hw rfl (Or.inr ⟨by omega, by omega, cF_rx hF z2_24 (rr_of z3_24) (f0_x z4_24), (z4_24 1).2.1, tl_x z4_24 (tT_fr z3_24) (tT_fr z3_24), z5_24, z6_24, z7_24⟩) dX9_stone_55
          · refine lv_bipush (v := (-2)) hx hb dX9_stone_46 (by decide) ?_
            refine lv_goto (tgt := 52) hx hb dX9_stone_48 (by decide) ?_
            refine ti_callVi (ci := 6) (av := [.int z1, .int z2, .int (-2)]) C hw (x_X6_lay l D A cy hJ M hI z1 z2 (-2) (by omega) (by omega)) ⟨ml_X9_262, ym_X6_lay, yv_X6_lay, yi_X6_lay, yc_X6_lay⟩ yd_X6_lay ob_50 (by decide) rfl rfl hl.1 (Nat.le_of_ble_eq_true rfl) ⟨by decide, by decide⟩ ⟨Nat.zero_le _, Nat.zero_le _⟩ dX9_stone_52 (fun r_16 M_17 H locs hp_17 hw => ?_)
            rcases hp_17 with ⟨z0_18, z1_18, hm⟩ | ⟨z0_18, z1_18, z2_18, z3_18, z4_18, z5_18, z6_18, z7_18⟩
            · have hw := hw.to hm
              exact hQ _ _ _ _ _ _ hw rfl (Or.inl ⟨by omega, by first | omega | decide, rfl⟩) dX9_stone_55
            · exact hQ _ _ _ _ _ _ hw rfl (Or.inr ⟨by omega, by omega, cF_rx hF z2_18 (rr_of z3_18) (f0_x z4_18), (z4_18 1).2.1, tl_x z4_18 (tT_fr z3_18) (tT_fr z3_18), z5_18, z6_18, z7_18⟩) dX9_stone_55
        · refine lv_aload_n hx hb dX9_stone_25 rfl (lv_at hl 0 rfl) ?_
          refine lv_iload_n hx hb dX9_stone_26 rfl (lv_at hl 3 rfl) ?_
          refine ti_callVi (ci := 9) (av := [.int z3]) C hw (x_X9_isMan l D A cy hJ M hI t1 ht1 (hT1) z3) ⟨ml_X9_104, ym_X9_isMan, yv_X9_isMan, yi_X9_isMan, yc_X9_isMan⟩ yd_X9_isMan ob_0 (by decide) rfl rfl hl.1 (Nat.le_of_ble_eq_true rfl) ⟨by decide, by decide⟩ ⟨Nat.zero_le _, Nat.zero_le _⟩ dX9_stone_27 (fun r_9 M_10 H locs hp_10 hw => ?_)
          obtain ⟨hm, hz⟩ := hp_10
          have hw := hw.to hm
          rcases hz with ⟨rfl, d0_11, d1_11⟩ | ⟨rfl, e_11⟩
          · refine sb_if_ne (tgt := 35) hx hb (by decide : (1 : Int32).toInt = 1) dX9_stone_30 (by decide) (fun c_30_11 => ?_) (fun h => absurd h (by decide))
            refine lv_aload_n hx hb dX9_stone_35 rfl (lv_at hl 0 rfl) ?_
            refine ti_get (ci := 9) (k := 8) (N := 10) (T := TX9) (v := .ref (A 50 0)) C hw iw_9 rfl ob_0 (by decide) (by decide) fl_X9_54 rfl rfl dX9_stone_36 ?_
            refine lv_iload_n hx hb dX9_stone_39 rfl (lv_at hl 1 rfl) ?_
            refine lv_iload_n hx hb dX9_stone_40 rfl (lv_at hl 2 rfl) ?_
            refine lv_iload_n hx hb dX9_stone_41 rfl (lv_at hl 3 rfl) ?_
            refine lv_iconst (v := (-1)) hx hb dX9_stone_42 (by decide) ?_
            refine sb_icmp_ne (tgt := 51) hx hb rfl (by decide : ((-1) : Int32).toInt = (-1)) dX9_stone_43 (by decide) (fun c_43_14 => ?_) (fun c_43_14 => ?_)
            · refine lv_iload_n hx hb dX9_stone_51 rfl (lv_at hl 3 rfl) ?_
              refine ti_callVi (ci := 6) (av := [.int z1, .int z2, .int z3]) C hw (x_X6_lay l D A cy hJ M hI z1 z2 z3 (by omega) (by omega)) ⟨ml_X9_262, ym_X6_lay, yv_X6_lay, yi_X6_lay, yc_X6_lay⟩ yd_X6_lay ob_50 (by decide) rfl rfl hl.1 (Nat.le_of_ble_eq_true rfl) ⟨by decide, by decide⟩ ⟨Nat.zero_le _, Nat.zero_le _⟩ dX9_stone_52 (fun r_25 M_26 H locs hp_26 hw => ?_)
              rcases hp_26 with ⟨z0_27, z1_27, hm⟩ | ⟨z0_27, z1_27, z2_27, z3_27, z4_27, z5_27, z6_27, z7_27⟩
              · have hw := hw.to hm
                exact hQ _ _ _ _ _ _ hw rfl (Or.inl ⟨by omega, by first | omega | decide, rfl⟩) dX9_stone_55
              · exact hQ _ _ _ _ _ _ hw rfl (Or.inr ⟨by omega, by omega, cF_rx hF z2_27 (rr_of z3_27) (f0_x z4_27), (z4_27 1).2.1, tl_x z4_27 (tT_fr z3_27) (tT_fr z3_27), z5_27, z6_27, z7_27⟩) dX9_stone_55
            · refine lv_bipush (v := (-2)) hx hb dX9_stone_46 (by decide) ?_
              refine lv_goto (tgt := 52) hx hb dX9_stone_48 (by decide) ?_
              refine ti_callVi (ci := 6) (av := [.int z1, .int z2, .int (-2)]) C hw (x_X6_lay l D A cy hJ M hI z1 z2 (-2) (by omega) (by omega)) ⟨ml_X9_262, ym_X6_lay, yv_X6_lay, yi_X6_lay, yc_X6_lay⟩ yd_X6_lay ob_50 (by decide) rfl rfl hl.1 (Nat.le_of_ble_eq_true rfl) ⟨by decide, by decide⟩ ⟨Nat.zero_le _, Nat.zero_le _⟩ dX9_stone_52 (fun r_19 M_20 H locs hp_20 hw => ?_)
              rcases hp_20 with ⟨z0_21, z1_21, hm⟩ | ⟨z0_21, z1_21, z2_21, z3_21, z4_21, z5_21, z6_21, z7_21⟩
              · have hw := hw.to hm
                exact hQ _ _ _ _ _ _ hw rfl (Or.inl ⟨by omega, by first | omega | decide, rfl⟩) dX9_stone_55
              · exact hQ _ _ _ _ _ _ hw rfl (Or.inr ⟨by omega, by omega, cF_rx hF z2_21 (rr_of z3_21) (f0_x z4_21), (z4_21 1).2.1, tl_x z4_21 (tT_fr z3_21) (tT_fr z3_21), z5_21, z6_21, z7_21⟩) dX9_stone_55
          · refine sb_if_ne (tgt := 35) hx hb (by decide : (0 : Int32).toInt = 0) dX9_stone_30 (by decide) (fun h => absurd h (by decide)) (fun c_30_12 => ?_)
            refine lv_iconst (v := (-1)) hx hb dX9_stone_33 (by decide) ?_
            exact hQ _ _ _ _ _ _ hw rfl (Or.inl ⟨by omega, by first | omega | decide, rfl⟩) dX9_stone_34
      · refine sb_if_ne (tgt := 20) hx hb (by decide : (0 : Int32).toInt = 0) dX9_stone_15 (by decide) (fun h => absurd h (by decide)) (fun c_15_6 => ?_)
        refine lv_iconst (v := (-1)) hx hb dX9_stone_18 (by decide) ?_
        exact hQ _ _ _ _ _ _ hw rfl (Or.inl ⟨by omega, by first | omega | decide, rfl⟩) dX9_stone_19
set_option maxHeartbeats 4000000 in
set_option maxRecDepth 100000 in
theorem x_X9_strike (l : Launch) (D : va_G) (A : Nat → Nat → Nat) (cy : Nat → ClassId) (hJ : ti_inj ti_LT A) (M : ti_M) (hI : cI Tc M) (hF : cF Tc M) (z1 : Int32) (rg : Nat → Int) (htd : tdC M rg) : ti_Ki l yX9_strike cX9_strike 2 (some .int) 1 ti_LT D A cy M [.ref (A 0 0), .int z1] (fun r M2 => ((z1.toInt < 0 ∨ (tI M 50 5).toInt ≤ z1.toInt ∨ 24 ≤ (tI M 50 5).toInt) ∧ r.toInt = -1 ∧ M2 = M) ∨ (¬ (z1.toInt < 0 ∨ (tI M 50 5).toInt ≤ z1.toInt ∨ 24 ≤ (tI M 50 5).toInt) ∧ r.toInt = (tI M 50 5).toInt ∧ cF (cG M2) M2 ∧ tI M2 2 1 = tI M 2 1 ∧ tl M2 M ∧ tY M2 2 0 = tY M 2 0 ∧ (tI M2 50 5).toInt = (tI M 50 5).toInt + 1 ∧ tI M2 50 6 = tI M 50 6)) := by
  refine ti_eI yp_X9_strike hJ ti_LT_nd (Nat.le_of_ble_eq_true rfl) ?_
  intro p e s m args below meth c Q H0 C hQ hw ls hl
  have hx := C.1
  have hb := C.2.1
  have hl : lv_has ls 2 [(0, .ref (A 0 0)), (1, .int z1)] := hl
  obtain ⟨-, ⟨t1, ht1, hT1⟩, ⟨t2, ht2, hT2⟩, ⟨t, ht, hT⟩, hS, hM⟩ := id hF
  obtain ⟨t0, -, hT0, -, h7, h10⟩ := id htd
  obtain rfl : t1 = t0 := Option.some.inj (hT1.symm.trans hT0)
  refine lv_aload_n hx hb dX9_strike_0 rfl (lv_at hl 0 rfl) ?_
  refine ti_get (ci := 9) (k := 8) (N := 10) (T := TX9) (v := .ref (A 50 0)) C hw iw_9 rfl ob_0 (by decide) (by decide) fl_X9_54 rfl rfl dX9_strike_1 ?_
  refine lv_iload_n hx hb dX9_strike_4 rfl (lv_at hl 1 rfl) ?_
  refine ti_callVi (ci := 6) (av := [.int z1]) C hw (x_X6_layStrike l D A cy hJ M hI z1) ⟨ml_X9_266, ym_X6_layStrike, yv_X6_layStrike, yi_X6_layStrike, yc_X6_layStrike⟩ yd_X6_layStrike ob_50 (by decide) rfl rfl hl.1 (Nat.le_of_ble_eq_true rfl) ⟨by decide, by decide⟩ ⟨Nat.zero_le _, Nat.zero_le _⟩ dX9_strike_5 (fun r_1 M_2 H locs hp_2 hw => ?_)
  rcases hp_2 with ⟨z0_3, z1_3, hm⟩ | ⟨z0_3, z1_3, z2_3, z3_3, z4_3, z5_3, z6_3, z7_3⟩
  · have hw := hw.to hm
    exact hQ _ _ _ _ _ _ hw rfl (Or.inl ⟨by omega, by first | omega | decide, rfl⟩) dX9_strike_8
  · exact hQ _ _ _ _ _ _ hw rfl (Or.inr ⟨by omega, by omega, cF_rx hF z2_3 (rr_of z3_3) (f0_x z4_3), (z4_3 1).2.1, tl_x z4_3 (tT_fr z3_3) (tT_fr z3_3), z5_3, z6_3, z7_3⟩) dX9_strike_8
set_option maxHeartbeats 4000000 in
set_option maxRecDepth 100000 in
theorem x_X9_known (l : Launch) (D : va_G) (A : Nat → Nat → Nat) (cy : Nat → ClassId) (hJ : ti_inj ti_LT A) (M : ti_M) (hI : cI Tc M) (hF : cF Tc M) (z1 : Int32) (rg : Nat → Int) (htd : tdC M rg) : ti_Ki l yX9_known cX9_known 2 (some .boolean) 1 ti_LT D A cy M [.ref (A 0 0), .int z1] (fun r M2 => ((z1.toInt < -1 ∨ (tI M 50 5).toInt < z1.toInt) ∧ r.toInt = 0 ∧ M2 = M) ∨ (¬ (z1.toInt < -1 ∨ (tI M 50 5).toInt < z1.toInt) ∧ r.toInt = 1 ∧ cF (cG M2) M2 ∧ tI M2 2 1 = tI M 2 1 ∧ tl M2 M ∧ tY M2 2 0 = tY M 2 0 ∧ tI M2 50 5 = tI M 50 5 ∧ tI M2 50 6 = z1)) := by
  refine ti_eI yp_X9_known hJ ti_LT_nd (Nat.le_of_ble_eq_true rfl) ?_
  intro p e s m args below meth c Q H0 C hQ hw ls hl
  have hx := C.1
  have hb := C.2.1
  have hl : lv_has ls 2 [(0, .ref (A 0 0)), (1, .int z1)] := hl
  obtain ⟨-, ⟨t1, ht1, hT1⟩, ⟨t2, ht2, hT2⟩, ⟨t, ht, hT⟩, hS, hM⟩ := id hF
  obtain ⟨t0, -, hT0, -, h7, h10⟩ := id htd
  obtain rfl : t1 = t0 := Option.some.inj (hT1.symm.trans hT0)
  refine lv_aload_n hx hb dX9_known_0 rfl (lv_at hl 0 rfl) ?_
  refine ti_get (ci := 9) (k := 8) (N := 10) (T := TX9) (v := .ref (A 50 0)) C hw iw_9 rfl ob_0 (by decide) (by decide) fl_X9_54 rfl rfl dX9_known_1 ?_
  refine lv_iload_n hx hb dX9_known_4 rfl (lv_at hl 1 rfl) ?_
  refine ti_callVi (ci := 6) (av := [.int z1]) C hw (x_X6_knowBy l D A cy hJ M hI z1) ⟨ml_X9_269, ym_X6_knowBy, yv_X6_knowBy, yi_X6_knowBy, yc_X6_knowBy⟩ yd_X6_knowBy ob_50 (by decide) rfl rfl hl.1 (Nat.le_of_ble_eq_true rfl) ⟨by decide, by decide⟩ ⟨Nat.zero_le _, Nat.zero_le _⟩ dX9_known_5 (fun r_1 M_2 H locs hp_2 hw => ?_)
  rcases hp_2 with ⟨z0_3, z1_3, hm⟩ | ⟨z0_3, z1_3, z2_3, z3_3, z4_3, z5_3, z6_3, z7_3⟩
  · have hw := hw.to hm
    exact hQ _ _ _ _ _ _ hw (nar_b (by omega) (by omega)) (Or.inl ⟨by omega, by first | omega | decide, rfl⟩) dX9_known_8
  · exact hQ _ _ _ _ _ _ hw (nar_b (by omega) (by omega)) (Or.inr ⟨by omega, by omega, cF_rx hF z2_3 (rr_of z3_3) (f0_x z4_3), (z4_3 1).2.1, tl_x z4_3 (tT_fr z3_3) (tT_fr z3_3), z5_3, z6_3, z7_3⟩) dX9_known_8

section
variable {Tc : gC} {Tm : gM}
set_option maxHeartbeats 4000000 in
set_option maxRecDepth 100000 in
theorem z_X9_stands (l : Launch) (D : va_G) (A : Nat → Nat → Nat) (cy : Nat → ClassId) (hJ : ti_inj ti_LT A) (M : ti_M) (hI : cI Tc M) (hF : cF Tc M) (t : Nat) (ht : t = 3 ∨ t = 4) (tx rg lp : Nat → Int) (ug : Nat → Nat → Int) (cu : Int) (hk : kC t tx rg ug cu lp M) (za : Int32) : ti_Ki l yX9_stands cX9_stands 2 (some .int) 1 ti_LT D A cy M [.ref (A 0 0), .int za] (fun r M2 => M2 = M ∧ r.toInt = (if 0 ≤ za.toInt ∧ za.toInt ≤ 7 then bq_ma rg za.toInt else -1)) := by
  refine ti_eI yp_X9_stands hJ ti_LT_nd (Nat.le_of_ble_eq_true rfl) ?_
  intro p e s m args below meth c Q H0 C hQ hw ls hl
  have hx := C.1
  have hb := C.2.1
  have hl : lv_has ls 2 [(0, .ref (A 0 0)), (1, .int za)] := hl
  obtain ⟨htx, hT1, hT, hs, hr, hp0⟩ := id hk
  have l4 : 0 ≤ tx 4 ∧ tx 4 ≤ 8 := by rw [htx.1 4 (by decide) (by decide)]; exact cI_rd (k := 4) hI (ob_t ht).1 rfl
  have h4 : tx 4 = (tI M t 4).toInt := htx.1 4 (by decide) (by decide)
  refine lv_aload_n hx hb dX9_stands_0 rfl (lv_at hl 0 rfl) ?_
  refine lv_iload_n hx hb dX9_stands_1 rfl (lv_at hl 1 rfl) ?_
  refine ti_callVi (ci := 9) (av := [.int za]) C hw (x_X9_isPlace l D A cy hJ M hI za) ⟨ml_X9_159, ym_X9_isPlace, yv_X9_isPlace, yi_X9_isPlace, yc_X9_isPlace⟩ yd_X9_isPlace ob_0 (by decide) rfl rfl hl.1 (Nat.le_of_ble_eq_true rfl) ⟨by decide, by decide⟩ ⟨Nat.zero_le _, Nat.zero_le _⟩ dX9_stands_2 (fun r_1 M_2 H locs hp_2 hw => ?_)
  obtain ⟨hm, hz⟩ := hp_2
  have hw := hw.to hm
  rcases hz with ⟨rfl, d0_3, d1_3⟩ | ⟨rfl, e_3⟩
  · refine sb_if_eq (tgt := 19) hx hb (by decide : (1 : Int32).toInt = 1) dX9_stands_5 (by decide) (fun h => absurd h (by decide)) (fun c_5_3 => ?_)
    refine lv_aload_n hx hb dX9_stands_8 rfl (lv_at hl 0 rfl) ?_
    refine ti_get (ci := 9) (k := 3) (N := 10) (T := TX9) (v := .ref (A 27 0)) C hw iw_9 rfl ob_0 (by decide) (by decide) fl_X9_29 rfl rfl dX9_stands_9 ?_
    refine lv_iload_n hx hb dX9_stands_12 rfl (lv_at hl 1 rfl) ?_
    refine ti_callVi (ci := 3) (av := [.int za]) C hw (z_X3_manAt l D A cy hJ M hI 27 ob_27 za rg hs) ⟨ml_X9_162, ym_X3_manAt, yv_X3_manAt, yi_X3_manAt, yc_X3_manAt⟩ yd_X3_manAt ob_27 (by decide) rfl rfl hl.1 (Nat.le_of_ble_eq_true rfl) ⟨by decide, by decide⟩ ⟨Nat.zero_le _, Nat.zero_le _⟩ dX9_stands_13 (fun r_6 M_7 H locs hp_7 hw => ?_)
    obtain ⟨hm, b0r_6, b1r_6, pr_6, p0r_6⟩ := hp_7
    have hw := hw.to hm
    refine lv_goto (tgt := 20) hx hb dX9_stands_16 (by decide) ?_
    exact hQ _ _ _ _ _ _ hw rfl (⟨rfl, by rw [if_pos (by omega)]; exact pr_6⟩) dX9_stands_20
  · refine sb_if_eq (tgt := 19) hx hb (by decide : (0 : Int32).toInt = 0) dX9_stands_5 (by decide) (fun c_5_4 => ?_) (fun h => absurd h (by decide))
    refine lv_iconst (v := (-1)) hx hb dX9_stands_19 (by decide) ?_
    exact hQ _ _ _ _ _ _ hw rfl (⟨rfl, by rw [if_neg (by omega)]; decide⟩) dX9_stands_20
set_option maxHeartbeats 4000000 in
set_option maxRecDepth 100000 in
theorem z_X9_holder (l : Launch) (D : va_G) (A : Nat → Nat → Nat) (cy : Nat → ClassId) (hJ : ti_inj ti_LT A) (M : ti_M) (hI : cI Tc M) (hF : cF Tc M) (t : Nat) (ht : t = 3 ∨ t = 4) (tx rg lp : Nat → Int) (ug : Nat → Nat → Int) (cu : Int) (hk : kC t tx rg ug cu lp M) (za : Int32) : ti_Ki l yX9_holder cX9_holder 2 (some .int) 1 ti_LT D A cy M [.ref (A 0 0), .int za] (fun r M2 => M2 = M ∧ r.toInt = (if 0 ≤ za.toInt ∧ za.toInt ≤ 2 then bq_ma rg (rg (112 + za.toInt.toNat)) else -1)) := by
  refine ti_eI yp_X9_holder hJ ti_LT_nd (Nat.le_of_ble_eq_true rfl) ?_
  intro p e s m args below meth c Q H0 C hQ hw ls hl
  have hx := C.1
  have hb := C.2.1
  have hl : lv_has ls 2 [(0, .ref (A 0 0)), (1, .int za)] := hl
  obtain ⟨htx, hT1, hT, hs, hr, hp0⟩ := id hk
  have l4 : 0 ≤ tx 4 ∧ tx 4 ≤ 8 := by rw [htx.1 4 (by decide) (by decide)]; exact cI_rd (k := 4) hI (ob_t ht).1 rfl
  have h4 : tx 4 = (tI M t 4).toInt := htx.1 4 (by decide) (by decide)
  refine lv_aload_n hx hb dX9_holder_0 rfl (lv_at hl 0 rfl) ?_
  refine lv_iload_n hx hb dX9_holder_1 rfl (lv_at hl 1 rfl) ?_
  refine ti_callVi (ci := 9) (av := [.int za]) C hw (z_X9_isPower l D A cy hJ M hI za) ⟨ml_X9_165, ym_X9_isPower, yv_X9_isPower, yi_X9_isPower, yc_X9_isPower⟩ yd_X9_isPower ob_0 (by decide) rfl rfl hl.1 (Nat.le_of_ble_eq_true rfl) ⟨by decide, by decide⟩ ⟨Nat.zero_le _, Nat.zero_le _⟩ dX9_holder_2 (fun r_1 M_2 H locs hp_2 hw => ?_)
  obtain ⟨hm, hz⟩ := hp_2
  have hw := hw.to hm
  rcases hz with ⟨rfl, d0_3, d1_3⟩ | ⟨rfl, e_3⟩
  · refine sb_if_eq (tgt := 27) hx hb (by decide : (1 : Int32).toInt = 1) dX9_holder_5 (by decide) (fun h => absurd h (by decide)) (fun c_5_3 => ?_)
    refine lv_aload_n hx hb dX9_holder_8 rfl (lv_at hl 0 rfl) ?_
    refine ti_get (ci := 9) (k := 3) (N := 10) (T := TX9) (v := .ref (A 27 0)) C hw iw_9 rfl ob_0 (by decide) (by decide) fl_X9_29 rfl rfl dX9_holder_9 ?_
    refine lv_aload_n hx hb dX9_holder_12 rfl (lv_at hl 0 rfl) ?_
    refine ti_get (ci := 9) (k := 3) (N := 10) (T := TX9) (v := .ref (A 27 0)) C hw iw_9 rfl ob_0 (by decide) (by decide) fl_X9_29 rfl rfl dX9_holder_13 ?_
    refine ti_get (ci := 3) (k := 7) (N := 17) (T := TX3) (v := .ref (A 27 8)) C hw iw_3 rfl ob_27 (by decide) (by decide) fl_X9_168 rfl rfl dX9_holder_16 ?_
    refine lv_iload_n hx hb dX9_holder_19 rfl (lv_at hl 1 rfl) ?_
    refine ti_iald (ci := 3) (k := 7) (n := 3) C hw ob_27 (by decide) (fun _ _ => rfl) (vp_in_iff.mpr (by omega)) dX9_holder_20 ?_
    refine lv_topi (fun x_6 ex_6 => ?_)
    have L_7 : rg (112 + za.toInt.toNat) = x_6.toInt := qC_y (k := 7) hs rfl (by omega) (by omega) (by decide) (by decide) ex_6
    refine ti_callVi (ci := 3) (av := [.int x_6]) C hw (z_X3_manAt l D A cy hJ M hI 27 ob_27 x_6 rg hs) ⟨ml_X9_162, ym_X3_manAt, yv_X3_manAt, yi_X3_manAt, yc_X3_manAt⟩ yd_X3_manAt ob_27 (by decide) rfl rfl hl.1 (Nat.le_of_ble_eq_true rfl) ⟨by decide, by decide⟩ ⟨Nat.zero_le _, Nat.zero_le _⟩ dX9_holder_21 (fun r_8 M_9 H locs hp_9 hw => ?_)
    obtain ⟨hm, b0r_8, b1r_8, pr_8, p0r_8⟩ := hp_9
    have hw := hw.to hm
    refine lv_goto (tgt := 28) hx hb dX9_holder_24 (by decide) ?_
    exact hQ _ _ _ _ _ _ hw rfl (⟨rfl, by rw [if_pos (by omega), L_7]; exact pr_8⟩) dX9_holder_28
  · refine sb_if_eq (tgt := 27) hx hb (by decide : (0 : Int32).toInt = 0) dX9_holder_5 (by decide) (fun c_5_4 => ?_) (fun h => absurd h (by decide))
    refine lv_iconst (v := (-1)) hx hb dX9_holder_27 (by decide) ?_
    exact hQ _ _ _ _ _ _ hw rfl (⟨rfl, by rw [if_neg (by omega)]; decide⟩) dX9_holder_28
set_option maxHeartbeats 4000000 in
set_option maxRecDepth 100000 in
theorem z_X9_was (l : Launch) (D : va_G) (A : Nat → Nat → Nat) (cy : Nat → ClassId) (hJ : ti_inj ti_LT A) (M : ti_M) (hI : cI Tc M) (hF : cF Tc M) (t : Nat) (ht : t = 3 ∨ t = 4) (tx rg lp : Nat → Int) (ug : Nat → Nat → Int) (cu : Int) (hk : kC t tx rg ug cu lp M) (z1 : Int32) (z2 : Int32) : ti_Ki l yX9_was cX9_was 3 (some .int) 1 ti_LT D A cy M [.ref (A 0 0), .int z1, .int z2] (fun r M2 => M2 = M ∧ r.toInt = (if (0 ≤ z1.toInt ∧ z1.toInt ≤ 2) ∧ 0 ≤ z2.toInt ∧ z2.toInt < rg 2 then lp (120 * z1.toInt.toNat + z2.toInt.toNat) else -1)) := by
  refine ti_eI yp_X9_was hJ ti_LT_nd (Nat.le_of_ble_eq_true rfl) ?_
  intro p e s m args below meth c Q H0 C hQ hw ls hl
  have hx := C.1
  have hb := C.2.1
  have hl : lv_has ls 3 [(0, .ref (A 0 0)), (1, .int z1), (2, .int z2)] := hl
  obtain ⟨htx, hT1, hT, hs, hr, hp0⟩ := id hk
  have l4 : 0 ≤ tx 4 ∧ tx 4 ≤ 8 := by rw [htx.1 4 (by decide) (by decide)]; exact cI_rd (k := 4) hI (ob_t ht).1 rfl
  have h4 : tx 4 = (tI M t 4).toInt := htx.1 4 (by decide) (by decide)
  refine lv_aload_n hx hb dX9_was_0 rfl (lv_at hl 0 rfl) ?_
  refine lv_iload_n hx hb dX9_was_1 rfl (lv_at hl 1 rfl) ?_
  refine ti_callVi (ci := 9) (av := [.int z1]) C hw (z_X9_isPower l D A cy hJ M hI z1) ⟨ml_X9_165, ym_X9_isPower, yv_X9_isPower, yi_X9_isPower, yc_X9_isPower⟩ yd_X9_isPower ob_0 (by decide) rfl rfl hl.1 (Nat.le_of_ble_eq_true rfl) ⟨by decide, by decide⟩ ⟨Nat.zero_le _, Nat.zero_le _⟩ dX9_was_2 (fun r_1 M_2 H locs hp_2 hw => ?_)
  obtain ⟨hm, hz⟩ := hp_2
  have hw := hw.to hm
  rcases hz with ⟨rfl, d0_3, d1_3⟩ | ⟨rfl, e_3⟩
  · refine sb_if_eq (tgt := 23) hx hb (by decide : (1 : Int32).toInt = 1) dX9_was_5 (by decide) (fun h => absurd h (by decide)) (fun c_5_3 => ?_)
    refine lv_iload_n hx hb dX9_was_8 rfl (lv_at hl 2 rfl) ?_
    refine sb_if_lt (tgt := 23) hx hb rfl dX9_was_9 (by decide) (fun c_9_5 => ?_) (fun c_9_5 => ?_)
    · refine lv_iconst (v := (-1)) hx hb dX9_was_23 (by decide) ?_
      exact hQ _ _ _ _ _ _ hw rfl (⟨rfl, by rw [if_neg (by omega)]; decide⟩) dX9_was_24
    · refine lv_iload_n hx hb dX9_was_12 rfl (lv_at hl 2 rfl) ?_
      refine lv_aload_n hx hb dX9_was_13 rfl (lv_at hl 0 rfl) ?_
      refine ti_get (ci := 9) (k := 3) (N := 10) (T := TX9) (v := .ref (A 27 0)) C hw iw_9 rfl ob_0 (by decide) (by decide) fl_X9_29 rfl rfl dX9_was_14 ?_
      refine ti_get (ci := 3) (k := 2) (N := 17) (T := TX3) C hw iw_3 rfl ob_27 (by decide) (by decide) fl_X9_186 rfl rfl dX9_was_17 ?_
      refine lv_topi (fun x_7 ex_7 => ?_)
      have bx_7 : 0 ≤ x_7.toInt ∧ x_7.toInt ≤ 120 := cI_rd hI ob_27.1 ex_7 (Or.inl rfl)
      have ux_7 : (tI M 27 2).toInt = x_7.toInt := by rw [ex_7]
      have L_8 : rg 2 = x_7.toInt := ((hs.1 2 (by decide) (by decide)).trans (congrArg Int32.toInt (ex_7.symm))).trans rfl
      refine sb_icmp_lt (tgt := 25) hx hb rfl rfl dX9_was_20 (by decide) (fun c_20_8 => ?_) (fun c_20_8 => ?_)
      · refine lv_aload_n hx hb dX9_was_25 rfl (lv_at hl 0 rfl) ?_
        refine ti_get (ci := 9) (k := 4) (N := 10) (T := TX9) (v := .ref (A 0 5)) C hw iw_9 rfl ob_0 (by decide) (by decide) fl_X9_33 rfl rfl dX9_was_26 ?_
        refine lv_iload_n hx hb dX9_was_29 rfl (lv_at hl 1 rfl) ?_
        refine lv_bipush (v := 120) hx hb dX9_was_30 (by decide) ?_
        refine lv_imul hx hb dX9_was_32 ?_
        refine lv_topi (fun x_10 ex_10 => ?_)
        have lox_10z1 := z1.le_toInt
        have hix_10z1 := z1.toInt_lt
        have tx_10 : x_10.toInt = z1.toInt * 120 := i_mul ex_10 rfl (by decide : (120 : Int32).toInt = 120) (by omega) (by omega)
        refine lv_iload_n hx hb dX9_was_33 rfl (lv_at hl 2 rfl) ?_
        refine lv_iadd hx hb dX9_was_34 ?_
        refine lv_topi (fun x_11 ex_11 => ?_)
        have lox_11x_10 := x_10.le_toInt
        have hix_11x_10 := x_10.toInt_lt
        have lox_11z2 := z2.le_toInt
        have hix_11z2 := z2.toInt_lt
        have tx_11 : x_11.toInt = x_10.toInt + z2.toInt := i_add ex_11 rfl rfl (by omega) (by omega)
        refine ti_iald (ci := 9) (k := 4) (n := 360) C hw ob_0 (by decide) (fun _ _ => rfl) (vp_in_iff.mpr (by omega)) dX9_was_35 ?_
        refine lv_topi (fun x_12 ex_12 => ?_)
        exact hQ _ _ _ _ _ _ hw rfl (⟨rfl, (by have q := hp0 x_11.toNatClampNeg (by show (x_11 : Int32).toInt.toNat < 360; omega); rw [if_pos (by omega), show 120 * z1.toInt.toNat + z2.toInt.toNat = x_11.toNatClampNeg by (show _ = (x_11 : Int32).toInt.toNat; omega), q, ← ex_12])⟩) dX9_was_36
      · refine lv_iconst (v := (-1)) hx hb dX9_was_23 (by decide) ?_
        exact hQ _ _ _ _ _ _ hw rfl (⟨rfl, by rw [if_neg (by omega)]; decide⟩) dX9_was_24
  · refine sb_if_eq (tgt := 23) hx hb (by decide : (0 : Int32).toInt = 0) dX9_was_5 (by decide) (fun c_5_4 => ?_) (fun h => absurd h (by decide))
    refine lv_iconst (v := (-1)) hx hb dX9_was_23 (by decide) ?_
    exact hQ _ _ _ _ _ _ hw rfl (⟨rfl, by rw [if_neg (by omega)]; decide⟩) dX9_was_24
end
section
variable {Tc : gC} {Tm : gM}
set_option maxHeartbeats 4000000 in
set_option maxRecDepth 100000 in
theorem z_X10_stands (l : Launch) (D : va_G) (A : Nat → Nat → Nat) (cy : Nat → ClassId) (hJ : ti_inj ti_LM A) (M : ti_M) (hI : mI Tm M) (hF : mF Tm M) (z1 : Int32) (tx rg lp : Nat → Int) (ug : Nat → Nat → Int) (cu : Int) (ht4 : 0 ≤ tx 4 ∧ tx 4 ≤ 8) (htW : tW tx) (hwf : wF tx rg) (h1r : rg 1 = 0) (hk : kR tx rg ug cu lp M) : ti_Ki l yX10_stands cX10_stands 2 (some .int) 1 ti_LM D A cy M [.ref (A 60 0), .int z1] (fun r M2 => r.toInt = (if 0 ≤ z1.toInt ∧ z1.toInt ≤ 7 then bq_ma rg z1.toInt else -1) ∧ kR tx rg ug cu lp M2 ∧ iR M2 M ∧ mF Tm M2 ∧ tI M2 60 2 = tI M 60 2 ∧ lw M2 M) := by
  refine ti_eI yp_X10_stands hJ ti_LM_nd (Nat.le_of_ble_eq_true rfl) ?_
  intro p e s m args below meth c Q H0 C hQ hw ls hl
  have hx := C.1
  have hb := C.2.1
  have hl : lv_has ls 2 [(0, .ref (A 60 0)), (1, .int z1)] := hl
  have hL : mL M := hF.2.1
  have hC0 : mC M 0 := hF.2.2.1.1
  have hP0 : mP M 0 := hF.2.2.1.2
  obtain ⟨htr, hr, hV, hu, hp0, htw⟩ := id hk
  have t4 : tx 4 = (tY M 60 3 0).toInt := htr.1.1
  have w83 := wF_8 hwf
  have q3r : rg 3 = (tY M 60 38 0).toInt := hr.1.2.1
  refine lv_aload_n hx hb dX10_stands_0 rfl (lv_at hl 0 rfl) ?_
  refine lv_iconst (v := 0) hx hb dX10_stands_1 (by decide) ?_
  refine ti_putI (ci := 10) (k := 0) (N := 67) (T := TX10) C hw iw_10 tyX10 tyX10_ok nmX10 rfl ob_60 (by decide) (by decide) fl_X10_154 rfl rfl rfl rfl (fn_10 A _) fs_10_0 dX10_stands_2 (fun H locs hw => ?_)
  obtain ⟨M, h0⟩ : ∃ z : ti_M, z = uI M 60 0 0 := ⟨_, rfl⟩
  have hw := hw.to h0.symm
  have hI : mI Tm M := mI_uI hI h0 (by decide) (by decide) trivial
  have hF : mF Tm M := mF_qw hF hI (qw_I h0 (by decide))
  have ir0 := iR_0 h0
  have e2r := tI_nE (k2 := 2) (o2 := 60) h0 (nk (by decide))
  have e51r := tI_nE (k2 := 51) (o2 := 60) h0 (nk (by decide))
  have lwr : lw M _ := fun _ _ _ => tY_uIE h0
  have hk := kR_0 hk h0
  obtain ⟨htr, hr, hV, hu, hp0, htw⟩ := id hk
  have t4 : tx 4 = (tY M 60 3 0).toInt := htr.1.1
  have w83 := wF_8 hwf
  have q3r : rg 3 = (tY M 60 38 0).toInt := hr.1.2.1
  refine lv_iload_n hx hb dX10_stands_5 rfl (lv_at hl 1 rfl) ?_
  refine ti_callSi (av := [.int z1]) C hw (z_X10_isPlace l D A cy hJ M hI z1) ⟨ml_X10_414, ys_X10_isPlace, yi_X10_isPlace, yc_X10_isPlace⟩ yd_X10_isPlace rfl hl.1 (Nat.le_of_ble_eq_true rfl) ⟨by decide, by decide⟩ ⟨Nat.zero_le _, Nat.zero_le _⟩ dX10_stands_6 (fun r_1 M_2 H locs hp_2 hw => ?_)
  obtain ⟨hm, hz⟩ := hp_2
  have hw := hw.to hm
  rcases hz with ⟨rfl, d0_3, d1_3⟩ | ⟨rfl, e_3⟩
  · refine sb_if_eq (tgt := 21) hx hb (by decide : (1 : Int32).toInt = 1) dX10_stands_9 (by decide) (fun h => absurd h (by decide)) (fun c_9_3 => ?_)
    refine lv_aload_n hx hb dX10_stands_12 rfl (lv_at hl 0 rfl) ?_
    refine lv_iconst (v := 0) hx hb dX10_stands_13 (by decide) ?_
    refine lv_iload_n hx hb dX10_stands_14 rfl (lv_at hl 1 rfl) ?_
    refine ti_callVi (ci := 10) (av := [.int 0, .int z1]) C hw (z_X10_standsAt_0 l D A cy hJ M hI z1 (by omega) (by omega) tx rg htr ht4 hr) ⟨ml_X10_417, ym_X10_standsAt, yv_X10_standsAt, yi_X10_standsAt, yc_X10_standsAt⟩ yd_X10_standsAt ob_60 (by decide) rfl rfl hl.1 (Nat.le_of_ble_eq_true rfl) ⟨by decide, by decide⟩ ⟨Nat.zero_le _, Nat.zero_le _⟩ dX10_stands_15 (fun r_6 M_7 H locs hp_7 hw => ?_)
    obtain ⟨hm, b0r_6, b1r_6, p0r_6⟩ := hp_7
    have hw := hw.to hm
    refine lv_goto (tgt := 22) hx hb dX10_stands_18 (by decide) ?_
    exact hQ _ _ _ _ _ _ hw rfl (⟨by rw [if_pos (by omega)]; exact p0r_6, hk, (iR_eR eR.refl).trans ir0, hF, (rfl).trans e2r, lw_t (fun _ _ _ => rfl) lwr⟩) dX10_stands_22
  · refine sb_if_eq (tgt := 21) hx hb (by decide : (0 : Int32).toInt = 0) dX10_stands_9 (by decide) (fun c_9_4 => ?_) (fun h => absurd h (by decide))
    refine lv_iconst (v := (-1)) hx hb dX10_stands_21 (by decide) ?_
    exact hQ _ _ _ _ _ _ hw rfl (⟨by rw [if_neg (by omega)]; decide, hk, (iR_eR eR.refl).trans ir0, hF, (rfl).trans e2r, lw_t (fun _ _ _ => rfl) lwr⟩) dX10_stands_22
set_option maxHeartbeats 4000000 in
set_option maxRecDepth 100000 in
theorem z_X10_holder (l : Launch) (D : va_G) (A : Nat → Nat → Nat) (cy : Nat → ClassId) (hJ : ti_inj ti_LM A) (M : ti_M) (hI : mI Tm M) (hF : mF Tm M) (z1 : Int32) (tx rg lp : Nat → Int) (ug : Nat → Nat → Int) (cu : Int) (ht4 : 0 ≤ tx 4 ∧ tx 4 ≤ 8) (htW : tW tx) (hwf : wF tx rg) (h1r : rg 1 = 0) (hk : kR tx rg ug cu lp M) : ti_Ki l yX10_holder cX10_holder 2 (some .int) 1 ti_LM D A cy M [.ref (A 60 0), .int z1] (fun r M2 => r.toInt = (if 0 ≤ z1.toInt ∧ z1.toInt ≤ 2 then bq_ma rg (rg (112 + z1.toInt.toNat)) else -1) ∧ kR tx rg ug cu lp M2 ∧ iR M2 M ∧ mF Tm M2 ∧ tI M2 60 2 = tI M 60 2 ∧ lw M2 M) := by
  refine ti_eI yp_X10_holder hJ ti_LM_nd (Nat.le_of_ble_eq_true rfl) ?_
  intro p e s m args below meth c Q H0 C hQ hw ls hl
  have hx := C.1
  have hb := C.2.1
  have hl : lv_has ls 2 [(0, .ref (A 60 0)), (1, .int z1)] := hl
  have hL : mL M := hF.2.1
  have hC0 : mC M 0 := hF.2.2.1.1
  have hP0 : mP M 0 := hF.2.2.1.2
  obtain ⟨htr, hr, hV, hu, hp0, htw⟩ := id hk
  have t4 : tx 4 = (tY M 60 3 0).toInt := htr.1.1
  have w83 := wF_8 hwf
  have q3r : rg 3 = (tY M 60 38 0).toInt := hr.1.2.1
  refine lv_aload_n hx hb dX10_holder_0 rfl (lv_at hl 0 rfl) ?_
  refine lv_iconst (v := 0) hx hb dX10_holder_1 (by decide) ?_
  refine ti_putI (ci := 10) (k := 0) (N := 67) (T := TX10) C hw iw_10 tyX10 tyX10_ok nmX10 rfl ob_60 (by decide) (by decide) fl_X10_154 rfl rfl rfl rfl (fn_10 A _) fs_10_0 dX10_holder_2 (fun H locs hw => ?_)
  obtain ⟨M, h0⟩ : ∃ z : ti_M, z = uI M 60 0 0 := ⟨_, rfl⟩
  have hw := hw.to h0.symm
  have hI : mI Tm M := mI_uI hI h0 (by decide) (by decide) trivial
  have hF : mF Tm M := mF_qw hF hI (qw_I h0 (by decide))
  have ir0 := iR_0 h0
  have e2r := tI_nE (k2 := 2) (o2 := 60) h0 (nk (by decide))
  have e51r := tI_nE (k2 := 51) (o2 := 60) h0 (nk (by decide))
  have lwr : lw M _ := fun _ _ _ => tY_uIE h0
  have hk := kR_0 hk h0
  obtain ⟨htr, hr, hV, hu, hp0, htw⟩ := id hk
  have t4 : tx 4 = (tY M 60 3 0).toInt := htr.1.1
  have w83 := wF_8 hwf
  have q3r : rg 3 = (tY M 60 38 0).toInt := hr.1.2.1
  refine lv_iload_n hx hb dX10_holder_5 rfl (lv_at hl 1 rfl) ?_
  refine ti_callSi (av := [.int z1]) C hw (z_X10_isPower l D A cy hJ M hI z1) ⟨ml_X10_420, ys_X10_isPower, yi_X10_isPower, yc_X10_isPower⟩ yd_X10_isPower rfl hl.1 (Nat.le_of_ble_eq_true rfl) ⟨by decide, by decide⟩ ⟨Nat.zero_le _, Nat.zero_le _⟩ dX10_holder_6 (fun r_1 M_2 H locs hp_2 hw => ?_)
  obtain ⟨hm, hz⟩ := hp_2
  have hw := hw.to hm
  rcases hz with ⟨rfl, d0_3, d1_3⟩ | ⟨rfl, e_3⟩
  · refine sb_if_eq (tgt := 26) hx hb (by decide : (1 : Int32).toInt = 1) dX10_holder_9 (by decide) (fun h => absurd h (by decide)) (fun c_9_3 => ?_)
    refine lv_aload_n hx hb dX10_holder_12 rfl (lv_at hl 0 rfl) ?_
    refine lv_iconst (v := 0) hx hb dX10_holder_13 (by decide) ?_
    refine lv_aload_n hx hb dX10_holder_14 rfl (lv_at hl 0 rfl) ?_
    refine ti_get (ci := 10) (k := 49) (N := 67) (T := TX10) (v := .ref (A 60 50)) C hw iw_10 rfl ob_60 (by decide) (by decide) fl_X10_114 rfl rfl dX10_holder_15 ?_
    refine lv_iload_n hx hb dX10_holder_18 rfl (lv_at hl 1 rfl) ?_
    refine ti_iald (ci := 10) (k := 49) (n := 69) C hw ob_60 (by decide) (fun _ _ => rfl) (vp_in_iff.mpr (by omega)) dX10_holder_19 ?_
    refine lv_topi (fun x_6 ex_6 => ?_)
    have yx_6 : tY M 60 49 z1.toNatClampNeg = x_6 := (ex_6.symm)
    have bx_6 : 0 ≤ x_6.toInt ∧ x_6.toInt ≤ 7 := mI_ry (k := 49) (i := z1.toNatClampNeg) hI yx_6.symm
    have L_7 : rg (112 + z1.toInt.toNat) = x_6.toInt := (hr.2.2.1 (z1.toInt.toNat) (by omega)).trans (rd_k (n := 3 * 0 + z1.toInt.toNat) (by omega) (yx_6))
    refine ti_callVi (ci := 10) (av := [.int 0, .int x_6]) C hw (z_X10_standsAt_0 l D A cy hJ M hI x_6 (by omega) (by omega) tx rg htr ht4 hr) ⟨ml_X10_417, ym_X10_standsAt, yv_X10_standsAt, yi_X10_standsAt, yc_X10_standsAt⟩ yd_X10_standsAt ob_60 (by decide) rfl rfl hl.1 (Nat.le_of_ble_eq_true rfl) ⟨by decide, by decide⟩ ⟨Nat.zero_le _, Nat.zero_le _⟩ dX10_holder_20 (fun r_8 M_9 H locs hp_9 hw => ?_)
    obtain ⟨hm, b0r_8, b1r_8, p0r_8⟩ := hp_9
    have hw := hw.to hm
    refine lv_goto (tgt := 27) hx hb dX10_holder_23 (by decide) ?_
    exact hQ _ _ _ _ _ _ hw rfl (⟨by rw [if_pos (by omega), L_7]; exact p0r_8, hk, (iR_eR eR.refl).trans ir0, hF, (rfl).trans e2r, lw_t (fun _ _ _ => rfl) lwr⟩) dX10_holder_27
  · refine sb_if_eq (tgt := 26) hx hb (by decide : (0 : Int32).toInt = 0) dX10_holder_9 (by decide) (fun c_9_4 => ?_) (fun h => absurd h (by decide))
    refine lv_iconst (v := (-1)) hx hb dX10_holder_26 (by decide) ?_
    exact hQ _ _ _ _ _ _ hw rfl (⟨by rw [if_neg (by omega)]; decide, hk, (iR_eR eR.refl).trans ir0, hF, (rfl).trans e2r, lw_t (fun _ _ _ => rfl) lwr⟩) dX10_holder_27
set_option maxHeartbeats 4000000 in
set_option maxRecDepth 100000 in
theorem z_X10_isGone (l : Launch) (D : va_G) (A : Nat → Nat → Nat) (cy : Nat → ClassId) (hJ : ti_inj ti_LM A) (M : ti_M) (hI : mI Tm M)  (a : Int32) (tx rg : Nat → Int) (htr : tR tx M) (ht4 : 0 ≤ tx 4 ∧ tx 4 ≤ 8) (hr : qR (tx 4).toNat 0 rg M) : ti_Ki l yX10_isGone cX10_isGone 2 (some .boolean) 0 ti_LM D A cy M [.ref (A 60 0), .int a] (fun r M2 => M2 = M ∧ ((r = 1 ∧ 0 ≤ a.toInt ∧ a.toInt < rg 2) ∨ (r = 0 ∧ ¬ (0 ≤ a.toInt ∧ a.toInt < rg 2)))) := by
  refine ti_eI yp_X10_isGone hJ ti_LM_nd (Nat.le_of_ble_eq_true rfl) ?_
  intro p e s m args below meth c Q H0 C hQ hw ls hl
  have hx := C.1
  have hb := C.2.1
  have hl : lv_has ls 2 [(0, .ref (A 60 0)), (1, .int a)] := hl
  have t4 : tx 4 = (tY M 60 3 0).toInt := htr.1.1
  refine lv_iload_n hx hb dX10_isGone_0 rfl (lv_at hl 1 rfl) ?_
  refine sb_if_lt (tgt := 18) hx hb rfl dX10_isGone_1 (by decide) (fun c_1_0 => ?_) (fun c_1_0 => ?_)
  · refine lv_iconst (v := 0) hx hb dX10_isGone_18 (by decide) ?_
    exact hQ _ _ _ _ _ _ hw rfl (⟨rfl, Or.inr ⟨rfl, by omega⟩⟩) dX10_isGone_19
  · refine lv_iload_n hx hb dX10_isGone_4 rfl (lv_at hl 1 rfl) ?_
    refine lv_aload_n hx hb dX10_isGone_5 rfl (lv_at hl 0 rfl) ?_
    refine ti_get (ci := 10) (k := 34) (N := 67) (T := TX10) (v := .ref (A 60 35)) C hw iw_10 rfl ob_60 (by decide) (by decide) fl_X10_69 rfl rfl dX10_isGone_6 ?_
    refine lv_iconst (v := 0) hx hb dX10_isGone_9 (by decide) ?_
    refine ti_iald (ci := 10) (k := 34) (n := 23) C hw ob_60 (by decide) (fun _ _ => rfl) (by unfold vp_in; decide) dX10_isGone_10 ?_
    refine lv_topi (fun x_2 ex_2 => ?_)
    have yx_2 : tY M 60 34 0 = x_2 := ((congrArg _ (by decide)).symm.trans ex_2.symm)
    have bx_2 : 0 ≤ x_2.toInt ∧ x_2.toInt ≤ 120 := mI_ry (k := 34) (i := 0) hI yx_2.symm (by decide)
    have zx_2 : (tY M 60 34 0).toInt = x_2.toInt := by rw [yx_2]
    have L_3 : rg 2 = x_2.toInt := (hr.1.1).trans (congrArg Int32.toInt (yx_2))
    refine sb_icmp_ge (tgt := 18) hx hb rfl rfl dX10_isGone_11 (by decide) (fun c_11_3 => ?_) (fun c_11_3 => ?_)
    · refine lv_iconst (v := 0) hx hb dX10_isGone_18 (by decide) ?_
      exact hQ _ _ _ _ _ _ hw rfl (⟨rfl, Or.inr ⟨rfl, by omega⟩⟩) dX10_isGone_19
    · refine lv_iconst (v := 1) hx hb dX10_isGone_14 (by decide) ?_
      refine lv_goto (tgt := 19) hx hb dX10_isGone_15 (by decide) ?_
      exact hQ _ _ _ _ _ _ hw rfl (⟨rfl, Or.inl ⟨rfl, by omega, by omega⟩⟩) dX10_isGone_19
set_option maxHeartbeats 4000000 in
set_option maxRecDepth 100000 in
theorem z_X10_was (l : Launch) (D : va_G) (A : Nat → Nat → Nat) (cy : Nat → ClassId) (hJ : ti_inj ti_LM A) (M : ti_M) (hI : mI Tm M) (hF : mF Tm M) (z1 : Int32) (z2 : Int32) (tx rg lp : Nat → Int) (ug : Nat → Nat → Int) (cu : Int) (ht4 : 0 ≤ tx 4 ∧ tx 4 ≤ 8) (htW : tW tx) (hwf : wF tx rg) (h1r : rg 1 = 0) (hk : kR tx rg ug cu lp M) : ti_Ki l yX10_was cX10_was 3 (some .int) 1 ti_LM D A cy M [.ref (A 60 0), .int z1, .int z2] (fun r M2 => r.toInt = (if (0 ≤ z1.toInt ∧ z1.toInt ≤ 2) ∧ 0 ≤ z2.toInt ∧ z2.toInt < rg 2 then lp (120 * z1.toInt.toNat + z2.toInt.toNat) else -1) ∧ kR tx rg ug cu lp M2 ∧ iR M2 M ∧ mF Tm M2 ∧ tI M2 60 2 = tI M 60 2 ∧ lw M2 M) := by
  refine ti_eI yp_X10_was hJ ti_LM_nd (Nat.le_of_ble_eq_true rfl) ?_
  intro p e s m args below meth c Q H0 C hQ hw ls hl
  have hx := C.1
  have hb := C.2.1
  have hl : lv_has ls 3 [(0, .ref (A 60 0)), (1, .int z1), (2, .int z2)] := hl
  have hL : mL M := hF.2.1
  have hC0 : mC M 0 := hF.2.2.1.1
  have hP0 : mP M 0 := hF.2.2.1.2
  obtain ⟨htr, hr, hV, hu, hp0, htw⟩ := id hk
  have t4 : tx 4 = (tY M 60 3 0).toInt := htr.1.1
  have w83 := wF_8 hwf
  have q3r : rg 3 = (tY M 60 38 0).toInt := hr.1.2.1
  refine lv_aload_n hx hb dX10_was_0 rfl (lv_at hl 0 rfl) ?_
  refine lv_iconst (v := 0) hx hb dX10_was_1 (by decide) ?_
  refine ti_putI (ci := 10) (k := 0) (N := 67) (T := TX10) C hw iw_10 tyX10 tyX10_ok nmX10 rfl ob_60 (by decide) (by decide) fl_X10_154 rfl rfl rfl rfl (fn_10 A _) fs_10_0 dX10_was_2 (fun H locs hw => ?_)
  obtain ⟨M, h0⟩ : ∃ z : ti_M, z = uI M 60 0 0 := ⟨_, rfl⟩
  have hw := hw.to h0.symm
  have hI : mI Tm M := mI_uI hI h0 (by decide) (by decide) trivial
  have hF : mF Tm M := mF_qw hF hI (qw_I h0 (by decide))
  have ir0 := iR_0 h0
  have e2r := tI_nE (k2 := 2) (o2 := 60) h0 (nk (by decide))
  have e51r := tI_nE (k2 := 51) (o2 := 60) h0 (nk (by decide))
  have lwr : lw M _ := fun _ _ _ => tY_uIE h0
  have hk := kR_0 hk h0
  obtain ⟨htr, hr, hV, hu, hp0, htw⟩ := id hk
  have t4 : tx 4 = (tY M 60 3 0).toInt := htr.1.1
  have w83 := wF_8 hwf
  have q3r : rg 3 = (tY M 60 38 0).toInt := hr.1.2.1
  refine lv_iload_n hx hb dX10_was_5 rfl (lv_at hl 1 rfl) ?_
  refine ti_callSi (av := [.int z1]) C hw (z_X10_isPower l D A cy hJ M hI z1) ⟨ml_X10_420, ys_X10_isPower, yi_X10_isPower, yc_X10_isPower⟩ yd_X10_isPower rfl hl.1 (Nat.le_of_ble_eq_true rfl) ⟨by decide, by decide⟩ ⟨Nat.zero_le _, Nat.zero_le _⟩ dX10_was_6 (fun r_1 M_2 H locs hp_2 hw => ?_)
  obtain ⟨hm, hz⟩ := hp_2
  have hw := hw.to hm
  rcases hz with ⟨rfl, d0_3, d1_3⟩ | ⟨rfl, e_3⟩
  · refine sb_if_eq (tgt := 33) hx hb (by decide : (1 : Int32).toInt = 1) dX10_was_9 (by decide) (fun h => absurd h (by decide)) (fun c_9_3 => ?_)
    refine lv_aload_n hx hb dX10_was_12 rfl (lv_at hl 0 rfl) ?_
    refine lv_iload_n hx hb dX10_was_13 rfl (lv_at hl 2 rfl) ?_
    refine ti_callVi (ci := 10) (av := [.int z2]) C hw (z_X10_isGone l D A cy hJ M hI z2 tx rg htr ht4 hr) ⟨ml_X10_439, ym_X10_isGone, yv_X10_isGone, yi_X10_isGone, yc_X10_isGone⟩ yd_X10_isGone ob_60 (by decide) rfl rfl hl.1 (Nat.le_of_ble_eq_true rfl) ⟨by decide, by decide⟩ ⟨Nat.zero_le _, Nat.zero_le _⟩ dX10_was_14 (fun r_6 M_7 H locs hp_7 hw => ?_)
    obtain ⟨hm, hz⟩ := hp_7
    have hw := hw.to hm
    rcases hz with ⟨rfl, d0_8, d1_8⟩ | ⟨rfl, e_8⟩
    · refine sb_if_eq (tgt := 33) hx hb (by decide : (1 : Int32).toInt = 1) dX10_was_17 (by decide) (fun h => absurd h (by decide)) (fun c_17_8 => ?_)
      have m12 : rg 2 ≤ 120 := by rw [hr.1.1]; exact (show ib 0 120 (tY M 60 34 0) from hI.2.1 34 0 (by decide)).2
      refine lv_aload_n hx hb dX10_was_20 rfl (lv_at hl 0 rfl) ?_
      refine ti_get (ci := 10) (k := 50) (N := 67) (T := TX10) (v := .ref (A 60 51)) C hw iw_10 rfl ob_60 (by decide) (by decide) fl_X10_117 rfl rfl dX10_was_21 ?_
      refine lv_iconst (v := 3) hx hb dX10_was_24 (by decide) ?_
      refine lv_iload_n hx hb dX10_was_25 rfl (lv_at hl 2 rfl) ?_
      refine lv_imul hx hb dX10_was_26 ?_
      refine lv_topi (fun x_11 ex_11 => ?_)
      have lox_11z2 := z2.le_toInt
      have hix_11z2 := z2.toInt_lt
      have tx_11 : x_11.toInt = 3 * z2.toInt := i_mul ex_11 (by decide : (3 : Int32).toInt = 3) rfl (by omega) (by omega)
      refine lv_iload_n hx hb dX10_was_27 rfl (lv_at hl 1 rfl) ?_
      refine lv_iadd hx hb dX10_was_28 ?_
      refine lv_topi (fun x_12 ex_12 => ?_)
      have lox_12x_11 := x_11.le_toInt
      have hix_12x_11 := x_11.toInt_lt
      have lox_12z1 := z1.le_toInt
      have hix_12z1 := z1.toInt_lt
      have tx_12 : x_12.toInt = x_11.toInt + z1.toInt := i_add ex_12 rfl rfl (by omega) (by omega)
      refine ti_iald (ci := 10) (k := 50) (n := 720) C hw ob_60 (by decide) (fun _ _ => rfl) (vp_in_iff.mpr (by omega)) dX10_was_29 ?_
      refine lv_topi (fun x_13 ex_13 => ?_)
      have yx_13 : tY M 60 50 x_12.toNatClampNeg = x_13 := (ex_13.symm)
      refine lv_goto (tgt := 34) hx hb dX10_was_30 (by decide) ?_
      exact hQ _ _ _ _ _ _ hw rfl (⟨(by have q := hp0 z2.toInt.toNat z1.toInt.toNat (by omega) (by omega) (by omega); rw [if_pos (by omega), ← q, show 3 * z2.toInt.toNat + z1.toInt.toNat = x_12.toNatClampNeg by (show _ = (x_12 : Int32).toInt.toNat; omega), ← ex_13]), hk, (iR_eR eR.refl).trans ir0, hF, (rfl).trans e2r, lw_t (fun _ _ _ => rfl) lwr⟩) dX10_was_34
    · refine sb_if_eq (tgt := 33) hx hb (by decide : (0 : Int32).toInt = 0) dX10_was_17 (by decide) (fun c_17_9 => ?_) (fun h => absurd h (by decide))
      refine lv_iconst (v := (-1)) hx hb dX10_was_33 (by decide) ?_
      exact hQ _ _ _ _ _ _ hw rfl (⟨by rw [if_neg (by omega)]; decide, hk, (iR_eR eR.refl).trans ir0, hF, (rfl).trans e2r, lw_t (fun _ _ _ => rfl) lwr⟩) dX10_was_34
  · refine sb_if_eq (tgt := 33) hx hb (by decide : (0 : Int32).toInt = 0) dX10_was_9 (by decide) (fun c_9_4 => ?_) (fun h => absurd h (by decide))
    refine lv_iconst (v := (-1)) hx hb dX10_was_33 (by decide) ?_
    exact hQ _ _ _ _ _ _ hw rfl (⟨by rw [if_neg (by omega)]; decide, hk, (iR_eR eR.refl).trans ir0, hF, (rfl).trans e2r, lw_t (fun _ _ _ => rfl) lwr⟩) dX10_was_34
end
section
variable {Tc : gC} {Tm : gM}
section
variable {q q2 o k t : Nat} {tx s : Nat → Int} {K N M : ti_M} {v : Int32}
def sq (q : Nat) (N M : ti_M) : Prop := ∀ k : Nat, tI N q k = tI M q k ∧ tY N q k = tY M q k
theorem sq.refl : sq q M M := fun _ => ⟨rfl, rfl⟩
theorem sq.trans (x : sq q K N) (y : sq q N M) : sq q K M := fun k => ⟨(x k).1.trans (y k).1, (x k).2.trans (y k).2⟩
theorem sq_eo (E : eo q2 N M) (h : q ≠ q2) : sq q N M := fun k => ⟨E.1 q k h, E.2 q k h⟩
theorem sq_S (S : fS N M) (h : q ≤ 49) : sq q N M := fun k => S q k h
theorem tC_S (ht : t = 3 ∨ t = 4) (h : tC t tx M) (S : fS N M) : tC t tx N := tC_hi ht h (fun o k _ b => S o k (by omega))
theorem fX_S (S : fS N M) : fX N M := fun k => ⟨(S 0 k (by decide)).1, (S 2 k (by decide)).1, (S 28 k (by decide)).1, fun o h => (S o k (by omega)).1⟩
theorem face_S (hF : cF Tc M) (hI : cI Tc N) (S : fS N M) (r : rT N M) : fS N M ∧ rT N M ∧ cF Tc N ∧ tI N 2 1 = tI M 2 1 ∧ tl N M := ⟨S, r, cF_fr hF hI r (fX_S S), (S 2 1 (by decide)).1, tl_x (fX_S S) (r 0 1 (by decide)) (r 0 2 (by decide))⟩
end
section
variable {tx s g h : Nat → Int}
def gn (s g : Nat → Int) : Prop := ∀ m : Nat, m < 8 → 2 ≤ s (128 + m) → g (128 + m) = s (128 + m) ∧ g (224 + m) = s (224 + m)
theorem gn.refl : gn s s := fun _ _ _ => ⟨rfl, rfl⟩
theorem gn.trans (x : gn s g) (y : gn g h) : gn s h := fun m hm h2 => by
  have a := x m hm h2
  have b := y m hm (by rw [a.1]; exact h2)
  exact ⟨b.1.trans a.1, b.2.trans a.2⟩
theorem gn_su {k : Nat} {v : Int} (hk : k < 128 ∨ (136 ≤ k ∧ k < 224) ∨ 232 ≤ k) : gn s (pp_su s k v) := fun m hm _ => ⟨su_n (by omega), su_n (by omega)⟩
theorem gn_fc : gn s (bq_fc s) := fun m hm _ => ⟨by unfold bq_fc; rw [if_neg (by omega)], by unfold bq_fc; rw [if_neg (by omega)]⟩
theorem gn_ap {m : Int} (h7 : m.toNat < 8) (hs : s (128 + m.toNat) = 0) : gn s (bq_ap s m) := by
  unfold bq_ap
  split
  · intro j hj h2
    have hn : j ≠ m.toNat := by intro e; subst e; omega
    exact ⟨by rw [su_n (by omega), su_n (by omega), su_n (by omega), su_n (by omega)], by rw [su_n (by omega), su_n (by omega), su_n (by omega), su_n (by omega)]⟩
  · exact gn.refl
theorem gn_wl (ht : tW tx) : ∀ (f : Nat) (s : Nat → Int), wF tx s → gn s (bq_wl tx f s) := by
  intro f
  induction f with
  | zero => intro s _; exact gn.refl
  | succ f ih =>
    intro s h
    rw [bq_wl]
    split
    · exact gn.refl
    · rename_i c
      rcases nx_at (s := s) ht with q | q
      · exact absurd q c
      · exact (gn_ap (by have := ht.1; omega) q.2.2).trans (ih _ (wF_ap ht h q.1 q.2.1 q.2.2).1)
theorem gn_rm (hA : ∀ p : Nat, (p : Int) < s 3 → s (128 + (s (96 + p)).toNat) = 1 ∧ (s (96 + p)).toNat < 8) (h8 : s 3 ≤ 8) {p ns : Int} : gn s (bq_rm s p ns) := by
  unfold bq_rm
  by_cases c : bq_ma s p < 0
  · rw [if_pos c]; exact gn.refl
  · rw [if_neg c]
    have hp : 0 ≤ p ∧ p < s 3 := by
      by_cases q : 0 ≤ p ∧ p < s 3
      · exact q
      · exact absurd (by unfold bq_ma; rw [if_neg q]; decide) c
    have hm : bq_ma s p = s (96 + p.toNat) := by unfold bq_ma; rw [if_pos hp]
    have A := hA p.toNat (by omega)
    rw [hm]
    obtain ⟨mm, em⟩ : ∃ mm, mm = (s (96 + p.toNat)).toNat := ⟨_, rfl⟩
    have E : ∀ k : Nat, 104 ≤ k → bq_sf (s 3 - 1 - p).toNat p.toNat (pp_su s 3 (s 3 - 1)) k = s k := fun k hk => by rw [sf_at, if_neg (by omega), su_n (by omega)]
    intro j hj h2
    unfold bq_r2
    rw [← em] at A ⊢
    have hn : j ≠ mm := by intro e; subst e; omega
    exact ⟨by rw [su_n (by omega), su_n (by omega), su_n (by omega), su_n (by omega), E _ (by omega)], by rw [su_n (by omega), su_n (by omega), su_n (by omega), su_n (by omega), E _ (by omega)]⟩
theorem gn_rF (ht : tW tx) (h : wF tx s) {p ns : Int} : gn s (bq_rm s p ns) := gn_rm (fun p hp => ⟨(h.2.2.1 p hp).2.2, by have x := h.2.2.1 p hp; have := ht.1; omega⟩) (wF_8 h).2
theorem gn_hc (ht : tW tx) (h : wF tx s) : gn s (bq_hc tx s) := by
  unfold bq_hc
  split
  · split
    · exact (gn_rF ht h).trans gn_fc
    · exact gn_fc
  · exact gn.refl
theorem gn_pr (ht : tW tx) (h : wF tx s) : gn s (bq_pr tx s) := by
  unfold bq_pr
  split
  · exact gn.refl
  · have x := h.2.2.1 0 (by have := h.1; omega)
    simp only [Nat.add_zero] at x
    have ht4 := ht.1
    exact (gn_su (by omega)).trans (gn_su (by omega))
theorem gn_l1 (ht : tW tx) (h : wF tx s) {t : Int} {p : Nat} (h0 : 0 ≤ t) (h1 : t < tx 4) (hp : (p : Int) < s 3) : gn s (bq_l1 tx s t p) := by
  have ht4 := ht.1
  have x := h.2.2.1 p hp
  unfold bq_l1 bq_py
  split
  · exact gn.refl
  · exact (gn_su (by omega)).trans (gn_su (by omega))
theorem gn_lf (ht : tW tx) {t : Int} (h0 : 0 ≤ t) (h1 : t < tx 4) : ∀ (f p : Nat) (s : Nat → Int), (p + f : Int) ≤ s 3 → wF tx s → gn s (bq_lf tx t f p s) := by
  intro f
  induction f with
  | zero => intro p s _ _; exact gn.refl
  | succ f ih =>
    intro p s hp h
    rw [bq_lf]
    exact (gn_l1 ht h h0 h1 (by omega)).trans (ih (p + 1) _ (by rw [l1_k (by decide)]; omega) (wF_l1 ht h h0 h1 (by omega)))
theorem gn_ly (ht : tW tx) (h : wF tx s) : gn s (bq_ly tx s) := by
  unfold bq_ly
  split
  · exact gn.refl
  · rename_i c
    have h8 := wF_8 h
    have k : 0 ≤ s 114 ∧ s 114 < s 3 := by
      by_cases q : 0 ≤ s 114 ∧ s 114 < s 3
      · exact q
      · exact absurd (Or.inl (by unfold bq_ma; rw [if_neg q]; decide)) c
    have x := h.2.2.1 (s 114).toNat (by omega)
    have e : bq_ma s (s 114) = s (96 + (s 114).toNat) := by unfold bq_ma; rw [if_pos k]
    rw [e]
    exact gn_lf ht x.1 x.2.1 _ _ _ (by omega) h
theorem gn_w1 (ht : tW tx) (h : wF tx s) {p : Nat} (hp : (p : Int) < s 3) : gn s (bq_w1 tx s p) := by
  have ht4 := ht.1
  have x := h.2.2.1 p hp
  unfold bq_w1
  split
  · exact gn_su (by omega)
  · split
    · exact gn_su (by omega)
    · exact gn.refl
theorem gn_wf (ht : tW tx) : ∀ (f p : Nat) (s : Nat → Int), (p + f : Int) ≤ s 3 → wF tx s → gn s (bq_wf tx f p s) := by
  intro f
  induction f with
  | zero => intro p s _ _; exact gn.refl
  | succ f ih =>
    intro p s hp h
    rw [bq_wf]
    exact (gn_w1 ht h (by omega)).trans (ih (p + 1) _ (by rw [w1_k (by decide)]; omega) (wF_w1 ht h (by omega)))
theorem gn_wr (ht : tW tx) (h : wF tx s) : gn s (bq_wr tx s) := gn_wf ht _ _ _ (by have := wF_8 h; omega) h
theorem gn_sv (ht : tW tx) (h : wF tx s) : gn s (bq_sv tx s) := by
  unfold bq_sv
  split
  · exact gn_rF ht h
  · exact gn.refl
theorem gn_off (ht : tW tx) : ∀ (p : Nat) (s : Nat → Int), ((p : Int) < s 3 ∨ p = 0) → wF tx s → gn s (bq_of p s) := by
  intro p
  induction p with
  | zero => intro s _ _; exact gn.refl
  | succ p ih =>
    intro s hp h
    rw [bq_of]
    unfold bq_o1
    split
    · have r := wF_rm ht h (p := p + 1) (by omega) (ns := 3) (by decide)
      exact (gn_rF ht h).trans (ih _ (Or.inl (by rw [r.2.1]; omega)) r.1)
    · exact ih _ (Or.inl (by omega)) h
theorem gn_rl (ht : tW tx) (h : wF tx s) : gn s (bq_rl tx s) := by
  have k := wF_sv ht h
  have k8 := wF_8 k
  unfold bq_rl
  exact (gn_sv ht h).trans (gn_off ht _ _ (by omega) k)
theorem gn_mt (ht : tW tx) (h : wF tx s) : gn s (bq_mt tx s) := by
  have k : gn s (pp_su s 5 (bq_dr (s 5))) := gn_su (by omega)
  unfold bq_mt
  split
  · exact gn.refl
  · split
    · have e : ∀ j : Nat, j ≠ 5 → pp_su s 5 (bq_dr (s 5)) j = s j := fun j hj => su_n hj
      refine k.trans (gn_rm (fun p hp => ?_) (by rw [e 3 (by decide)]; exact (wF_8 h).2))
      rw [e 3 (by decide)] at hp
      have x := h.2.2.1 p hp
      have y := ht.1
      rw [e (96 + p) (by omega), e _ (by omega)]
      exact ⟨x.2.2, by omega⟩
    · exact k
theorem gn_ps (ht : tW tx) (h : wF tx s) : gn s (bq_ps tx s) := by
  have h1 := wF_wl ht (tx 4).toNat _ h
  have h2 := wF_hc ht h1
  have h3 := wF_pr ht h2
  have h4 := wF_ly ht h3
  have h5 := wF_wr ht h4
  have h6 := wF_rl ht h5
  unfold bq_ps bq_m1
  exact ((((((gn_wl ht _ _ h).trans (gn_hc ht h1)).trans (gn_pr ht h2)).trans (gn_ly ht h3)).trans (gn_wr ht h4)).trans (gn_rl ht h5)).trans ((gn_mt ht h6).trans (gn_su (by omega)))
theorem wF_pn (ht : tW tx) : ∀ (f : Nat) (s : Nat → Int), wF tx s → wF tx (bq_pl tx f s) := by
  intro f
  induction f with
  | zero => intro s h; exact h
  | succ f ih => intro s h; exact ih _ (wF_ps ht h)
theorem gn_pl (ht : tW tx) : ∀ (f : Nat) (s : Nat → Int), wF tx s → gn s (bq_pl tx f s) := by
  intro f
  induction f with
  | zero => intro s _; exact gn.refl
  | succ f ih => intro s h; exact (gn_ps ht h).trans (ih _ (wF_ps ht h))
/-- the minute in which one is served, or -2 -/
def bq_sd (s : Nat → Int) (m : Nat) : Int := if s (128 + m) = 2 then s (224 + m) else -2
/-- as it goes -/
abbrev bq_ah (s : Nat → Int) : Nat → Int := pp_su s 1 3
theorem sd_pl (ht : tW tx) (h : wF tx s) {m n : Nat} (hm : m < 8) (h2 : 2 ≤ s (128 + m)) : bq_sd (bq_pl tx n s) m = bq_sd s m := by
  have q := gn_pl ht n s h m hm h2
  unfold bq_sd
  rw [q.1, q.2]
end
set_option maxHeartbeats 4000000 in
set_option maxRecDepth 100000 in
theorem z_X0_prepare (l : Launch) (D : va_G) (A : Nat → Nat → Nat) (cy : Nat → ClassId) (hJ : ti_inj ti_LT A) (M : ti_M) (hI : cI Tc M) (t : Nat) (ht : t = 3 ∨ t = 4) (hT : tT M 27 0 = some t) (tx rg : Nat → Int) (htx : tC t tx M) (hs : qC 27 rg M) : ti_Kv l yX0_prepare cX0_prepare 2 2 ti_LT D A cy M [.ref (A 53 0), .ref (A 27 0)] (fun M2 => cI Tc M2 ∧ M2.2.2.2 = (uT M 54 0 (some t)).2.2.2 ∧ eo 54 M2 M ∧ qC 54 (bq_ah rg) M2) := by
  refine ti_eV yp_X0_prepare hJ ti_LT_nd (Nat.le_of_ble_eq_true rfl) ?_
  intro p e s m args below meth c Q H0 C hQ hw ls hl
  have hx := C.1
  have hb := C.2.1
  have hl : lv_has ls 2 [(0, .ref (A 53 0)), (1, .ref (A 27 0))] := hl
  refine lv_aload_n hx hb dX0_prepare_0 rfl (lv_at hl 0 rfl) ?_
  refine ti_get (ci := 0) (k := 0) (N := 6) (T := TX0) (v := .ref (A 54 0)) C hw iw_0 rfl ob_53 (by decide) (by decide) fl_X0_12 rfl rfl dX0_prepare_1 ?_
  refine lv_aload_n hx hb dX0_prepare_4 rfl (lv_at hl 1 rfl) ?_
  refine ti_callVv (ci := 3) (av := [.ref (A 27 0)]) C hw (z_X3_copy l D A cy hJ M hI 54 27 t ob_54 ob_27 ht (hT) (fun h => absurd h np_54) (by decide) rg hs) ⟨ml_X0_35, ym_X3_copy, yv_X3_copy, yi_X3_copy, yc_X3_copy⟩ yd_X3_copy ob_54 (by decide) rfl rfl hl.1 (Nat.le_of_ble_eq_true rfl) ⟨by decide, by decide⟩ ⟨Nat.zero_le _, Nat.zero_le _⟩ dX0_prepare_5 (fun M_2 H locs hp_2 hw => ?_)
  obtain ⟨iM_2, q_3, q_4, hs_5⟩ := hp_2
  refine lv_aload_n hx hb dX0_prepare_8 rfl (lv_at hl 0 rfl) ?_
  refine ti_get (ci := 0) (k := 0) (N := 6) (T := TX0) (v := .ref (A 54 0)) C hw iw_0 rfl ob_53 (by decide) (by decide) fl_X0_12 rfl rfl dX0_prepare_9 ?_
  refine lv_iconst (v := 3) hx hb dX0_prepare_12 (by decide) ?_
  refine ti_putI (ci := 3) (k := 1) (N := 17) (T := TX3) C hw iw_3 tyX3 tyX3_ok nmX3 rfl ob_54 (by decide) (by decide) fl_X0_39 rfl rfl rfl rfl (fn_3 A _) fs_3_1 dX0_prepare_13 (fun H locs hw => ?_)
  obtain ⟨M_6, hM_6⟩ : ∃ z : ti_M, z = uI M_2 54 1 3 := ⟨_, rfl⟩
  have hw := hw.to hM_6.symm
  have iM_6 : cI Tc M_6 := cI_uI iM_2 hM_6 ob_54.1 trivial
  have hs_7 : qC 54 (pp_su rg 1 3) M_6 := qC_I hs_5 (by decide : (3 : Int32).toInt = 3) hM_6 (by decide)
  obtain ⟨g_8, eg_8⟩ : ∃ z : Nat → Int, z = pp_su rg 1 3 := ⟨_, rfl⟩
  rw [← eg_8] at hs_7
  have sg_8 : g_8 1 = 3 := by rw [eg_8, su_s]
  exact hQ _ _ _ _ _ hw (⟨iM_6, ((rf_I hM_6).trans q_3), (eo.trans (eo_I hM_6) q_4), (show qC 54 (pp_su rg 1 3) M_6 from by rw [← eg_8]; exact hs_7)⟩) dX0_prepare_16
set_option maxHeartbeats 4000000 in
set_option maxRecDepth 100000 in
theorem z_X0_servedIn (l : Launch) (D : va_G) (A : Nat → Nat → Nat) (cy : Nat → ClassId) (hJ : ti_inj ti_LT A) (M : ti_M) (hI : cI Tc M) (t : Nat) (ht : t = 3 ∨ t = 4) (hT : tT M 27 0 = some t) (tx rg : Nat → Int) (htx : tC t tx M) (hs : qC 27 rg M) (mn : Int32) (h1 : 0 ≤ mn.toInt) (h2 : mn.toInt ≤ 7) (hW : tW tx) (hwf : wF tx rg) (h1r : rg 1 = 0) (hm2 : 0 ≤ rg 2 ∧ rg 2 ≤ 120) : ti_Ki l yX0_servedIn cX0_servedIn 4 (some .int) 5 ti_LT D A cy M [.ref (A 53 0), .ref (A 27 0), .int mn] (fun r M2 => r.toInt = bq_sd (bq_pl tx (120 - rg 2).toNat (bq_ah rg)) mn.toInt.toNat ∧ cI Tc M2 ∧ rT M2 M ∧ fS M2 M) := by
  refine ti_eI yp_X0_servedIn hJ ti_LT_nd (Nat.le_of_ble_eq_true rfl) ?_
  intro p e s m args below meth c Q H0 C hQ hw ls hl
  have hx := C.1
  have hb := C.2.1
  have hl : lv_has ls 4 [(0, .ref (A 53 0)), (1, .ref (A 27 0)), (2, .int mn)] := hl
  have h5r := hwf.2.1.2
  refine lv_aload_n hx hb dX0_servedIn_0 rfl (lv_at hl 0 rfl) ?_
  refine lv_aload_n hx hb dX0_servedIn_1 rfl (lv_at hl 1 rfl) ?_
  refine ti_callVv (ci := 0) (av := [.ref (A 27 0)]) C hw (z_X0_prepare l D A cy hJ M hI t ht (hT) tx rg htx hs) ⟨ml_X0_42, ym_X0_prepare, yv_X0_prepare, yi_X0_prepare, yc_X0_prepare⟩ yd_X0_prepare ob_53 (by decide) rfl rfl hl.1 (Nat.le_of_ble_eq_true rfl) ⟨by decide, by decide⟩ ⟨Nat.zero_le _, Nat.zero_le _⟩ dX0_servedIn_2 (fun M_2 H locs hp_2 hw => ?_)
  obtain ⟨iM_2, q_3, q_4, hs_5⟩ := hp_2
  obtain ⟨g_6, eg_6⟩ : ∃ z : Nat → Int, z = bq_ah rg := ⟨_, rfl⟩
  rw [← eg_6] at hs_5
  have f1g_6 : g_6 1 = 3 := by rw [eg_6]; exact su_s
  have f2g_6 : g_6 2 = rg 2 := by rw [eg_6]; exact su_n (by decide)
  have f3g_6 : g_6 3 = rg 3 := by rw [eg_6]; exact su_n (by decide)
  have f5g_6 : g_6 5 = rg 5 := by rw [eg_6]; exact su_n (by decide)
  refine lv_aload_n hx hb dX0_servedIn_5 rfl (lv_at hl 1 rfl) ?_
  have hs_7 : qC 27 rg M_2 := (qC_same hs (sq_eo q_4 (by decide)))
  refine ti_get (ci := 3) (k := 2) (N := 17) (T := TX3) C hw iw_3 rfl ob_27 (by decide) (by decide) fl_X0_45 rfl rfl dX0_servedIn_6 ?_
  refine lv_topi (fun x_8 ex_8 => ?_)
  have bx_8 : 0 ≤ x_8.toInt ∧ x_8.toInt ≤ 120 := cI_rd iM_2 ob_27.1 ex_8 (Or.inl rfl)
  have ux_8 : (tI M_2 27 2).toInt = x_8.toInt := by rw [ex_8]
  have L_9 : rg 2 = x_8.toInt := ((hs_7.1 2 (by decide) (by decide)).trans (congrArg Int32.toInt (ex_8.symm))).trans rfl
  refine lv_istore_n (lv' := [(3, .int x_8), (0, .ref (A 53 0)), (1, .ref (A 27 0)), (2, .int mn)]) hx hb dX0_servedIn_9 rfl hl (by decide) rfl (fun ls hl => ?_)
  have hl_10_24 : ∀ (n_25 : Nat) (x_10 : Int32) (M_13 : ti_M) (g_18 : Nat → Int) (H : Heap) (locs : List Loc) (ls : Array Slot), (120 - x_10.toInt : Int).toNat < n_25 → (0 ≤ x_10.toInt) → (x_10.toInt ≤ 120) → (cI Tc M_13) → (rT M_13 M) → (fS M_13 M) → (tT M_13 54 0 = (some t)) → (qC 54 g_18 M_13) → (qC 27 rg M_13) → (bq_pl tx (120 - (x_10.toInt)).toNat g_18 = bq_pl tx (120 - rg 2).toNat (bq_ah rg)) → (wF tx g_18) → (g_18 2 = x_10.toInt) → (g_18 1 = 3) → (0 ≤ g_18 5) → ti_H ti_LT D A cy H0 M_13 H locs → lv_has ls 4 [(3, .int x_10), (0, .ref (A 53 0)), (1, .ref (A 27 0)), (2, .int mn)] → W p l e (ti_rm 5) s m args below meth c H locs 0 0 Q (F0 m 10 ls []) := by
    intro n_25
    induction n_25 with
    | zero => intro x_10 M_13 g_18 H locs ls hf_25; exact absurd hf_25 (Nat.not_lt_zero _)
    | succ n_25 ih_25 =>
      intro x_10 M_13 g_18 H locs ls hf_25 b_11 b_12 iM_13 f_14 f_15 f_16 hs_17 hs_19 j_20 j_21 j_22 j_23 j_24 hw hl
      refine lv_iload_n hx hb dX0_servedIn_10 rfl (lv_at hl 0 rfl) ?_
      refine lv_bipush (v := 120) hx hb dX0_servedIn_11 (by decide) ?_
      refine sb_icmp_ge (tgt := 42) hx hb rfl (by decide : (120 : Int32).toInt = 120) dX0_servedIn_13 (by decide) (fun c_13_25 => ?_) (fun c_13_25 => ?_)
      · refine lv_aload_n hx hb dX0_servedIn_42 rfl (lv_at hl 1 rfl) ?_
        refine ti_get (ci := 0) (k := 0) (N := 6) (T := TX0) (v := .ref (A 54 0)) C hw iw_0 rfl ob_53 (by decide) (by decide) fl_X0_12 rfl rfl dX0_servedIn_43 ?_
        refine ti_get (ci := 3) (k := 8) (N := 17) (T := TX3) (v := .ref (A 54 9)) C hw iw_3 rfl ob_54 (by decide) (by decide) fl_X0_48 rfl rfl dX0_servedIn_46 ?_
        refine lv_iload_n hx hb dX0_servedIn_49 rfl (lv_at hl 3 rfl) ?_
        refine ti_iald (ci := 3) (k := 8) (n := 8) C hw ob_54 (by decide) (fun _ _ => rfl) (vp_in_iff.mpr (by omega)) dX0_servedIn_50 ?_
        refine lv_topi (fun x_37 ex_37 => ?_)
        have L_38 : g_18 (128 + mn.toInt.toNat) = x_37.toInt := qC_y (k := 8) hs_17 rfl (by omega) (by omega) (by decide) (by decide) ex_37
        refine lv_iconst (v := 2) hx hb dX0_servedIn_51 (by decide) ?_
        refine sb_icmp_ne (tgt := 67) hx hb rfl (by decide : (2 : Int32).toInt = 2) dX0_servedIn_52 (by decide) (fun c_52_38 => ?_) (fun c_52_38 => ?_)
        · refine lv_bipush (v := (-2)) hx hb dX0_servedIn_67 (by decide) ?_
          have E_49 : bq_sd (bq_pl tx (120 - rg 2).toNat (bq_ah rg)) mn.toInt.toNat = bq_sd g_18 mn.toInt.toNat := by
            rw [← j_20]
            by_cases c : 2 ≤ g_18 (128 + mn.toInt.toNat)
            · exact sd_pl hW j_21 (by omega) c
            · rw [show (120 - x_10.toInt).toNat = 0 by omega]; rfl
          exact hQ _ _ _ _ _ _ hw rfl (⟨(by rw [E_49]; unfold bq_sd; rw [if_neg (by omega)]; decide), iM_13, f_14, f_15⟩) dX0_servedIn_69
        · refine lv_aload_n hx hb dX0_servedIn_55 rfl (lv_at hl 1 rfl) ?_
          refine ti_get (ci := 0) (k := 0) (N := 6) (T := TX0) (v := .ref (A 54 0)) C hw iw_0 rfl ob_53 (by decide) (by decide) fl_X0_12 rfl rfl dX0_servedIn_56 ?_
          refine ti_get (ci := 3) (k := 14) (N := 17) (T := TX3) (v := .ref (A 54 15)) C hw iw_3 rfl ob_54 (by decide) (by decide) fl_X0_54 rfl rfl dX0_servedIn_59 ?_
          refine lv_iload_n hx hb dX0_servedIn_62 rfl (lv_at hl 3 rfl) ?_
          refine ti_iald (ci := 3) (k := 14) (n := 8) C hw ob_54 (by decide) (fun _ _ => rfl) (vp_in_iff.mpr (by omega)) dX0_servedIn_63 ?_
          refine lv_topi (fun x_43 ex_43 => ?_)
          have L_44 : g_18 (224 + mn.toInt.toNat) = x_43.toInt := qC_y (k := 14) hs_17 rfl (by omega) (by omega) (by decide) (by decide) ex_43
          refine lv_goto (tgt := 69) hx hb dX0_servedIn_64 (by decide) ?_
          have E_47 : bq_sd (bq_pl tx (120 - rg 2).toNat (bq_ah rg)) mn.toInt.toNat = bq_sd g_18 mn.toInt.toNat := by
            rw [← j_20]
            by_cases c : 2 ≤ g_18 (128 + mn.toInt.toNat)
            · exact sd_pl hW j_21 (by omega) c
            · rw [show (120 - x_10.toInt).toNat = 0 by omega]; rfl
          exact hQ _ _ _ _ _ _ hw rfl (⟨(by rw [E_47]; unfold bq_sd; rw [if_pos (by omega)]; omega), iM_13, f_14, f_15⟩) dX0_servedIn_69
      · refine lv_aload_n hx hb dX0_servedIn_16 rfl (lv_at hl 1 rfl) ?_
        refine ti_get (ci := 0) (k := 0) (N := 6) (T := TX0) (v := .ref (A 54 0)) C hw iw_0 rfl ob_53 (by decide) (by decide) fl_X0_12 rfl rfl dX0_servedIn_17 ?_
        refine ti_get (ci := 3) (k := 8) (N := 17) (T := TX3) (v := .ref (A 54 9)) C hw iw_3 rfl ob_54 (by decide) (by decide) fl_X0_48 rfl rfl dX0_servedIn_20 ?_
        refine lv_iload_n hx hb dX0_servedIn_23 rfl (lv_at hl 3 rfl) ?_
        refine ti_iald (ci := 3) (k := 8) (n := 8) C hw ob_54 (by decide) (fun _ _ => rfl) (vp_in_iff.mpr (by omega)) dX0_servedIn_24 ?_
        refine lv_topi (fun x_27 ex_27 => ?_)
        have L_28 : g_18 (128 + mn.toInt.toNat) = x_27.toInt := qC_y (k := 8) hs_17 rfl (by omega) (by omega) (by decide) (by decide) ex_27
        refine lv_iconst (v := 2) hx hb dX0_servedIn_25 (by decide) ?_
        refine sb_icmp_ge (tgt := 42) hx hb rfl (by decide : (2 : Int32).toInt = 2) dX0_servedIn_26 (by decide) (fun c_26_28 => ?_) (fun c_26_28 => ?_)
        · refine lv_aload_n hx hb dX0_servedIn_42 rfl (lv_at hl 1 rfl) ?_
          refine ti_get (ci := 0) (k := 0) (N := 6) (T := TX0) (v := .ref (A 54 0)) C hw iw_0 rfl ob_53 (by decide) (by decide) fl_X0_12 rfl rfl dX0_servedIn_43 ?_
          refine ti_get (ci := 3) (k := 8) (N := 17) (T := TX3) (v := .ref (A 54 9)) C hw iw_3 rfl ob_54 (by decide) (by decide) fl_X0_48 rfl rfl dX0_servedIn_46 ?_
          refine lv_iload_n hx hb dX0_servedIn_49 rfl (lv_at hl 3 rfl) ?_
          refine ti_iald (ci := 3) (k := 8) (n := 8) C hw ob_54 (by decide) (fun _ _ => rfl) (vp_in_iff.mpr (by omega)) dX0_servedIn_50 ?_
          refine lv_topi (fun x_40 ex_40 => ?_)
          have L_41 : g_18 (128 + mn.toInt.toNat) = x_40.toInt := qC_y (k := 8) hs_17 rfl (by omega) (by omega) (by decide) (by decide) ex_40
          refine lv_iconst (v := 2) hx hb dX0_servedIn_51 (by decide) ?_
          refine sb_icmp_ne (tgt := 67) hx hb rfl (by decide : (2 : Int32).toInt = 2) dX0_servedIn_52 (by decide) (fun c_52_41 => ?_) (fun c_52_41 => ?_)
          · refine lv_bipush (v := (-2)) hx hb dX0_servedIn_67 (by decide) ?_
            have E_50 : bq_sd (bq_pl tx (120 - rg 2).toNat (bq_ah rg)) mn.toInt.toNat = bq_sd g_18 mn.toInt.toNat := by
              rw [← j_20]
              by_cases c : 2 ≤ g_18 (128 + mn.toInt.toNat)
              · exact sd_pl hW j_21 (by omega) c
              · rw [show (120 - x_10.toInt).toNat = 0 by omega]; rfl
            exact hQ _ _ _ _ _ _ hw rfl (⟨(by rw [E_50]; unfold bq_sd; rw [if_neg (by omega)]; decide), iM_13, f_14, f_15⟩) dX0_servedIn_69
          · refine lv_aload_n hx hb dX0_servedIn_55 rfl (lv_at hl 1 rfl) ?_
            refine ti_get (ci := 0) (k := 0) (N := 6) (T := TX0) (v := .ref (A 54 0)) C hw iw_0 rfl ob_53 (by decide) (by decide) fl_X0_12 rfl rfl dX0_servedIn_56 ?_
            refine ti_get (ci := 3) (k := 14) (N := 17) (T := TX3) (v := .ref (A 54 15)) C hw iw_3 rfl ob_54 (by decide) (by decide) fl_X0_54 rfl rfl dX0_servedIn_59 ?_
            refine lv_iload_n hx hb dX0_servedIn_62 rfl (lv_at hl 3 rfl) ?_
            refine ti_iald (ci := 3) (k := 14) (n := 8) C hw ob_54 (by decide) (fun _ _ => rfl) (vp_in_iff.mpr (by omega)) dX0_servedIn_63 ?_
            refine lv_topi (fun x_45 ex_45 => ?_)
            have L_46 : g_18 (224 + mn.toInt.toNat) = x_45.toInt := qC_y (k := 14) hs_17 rfl (by omega) (by omega) (by decide) (by decide) ex_45
            refine lv_goto (tgt := 69) hx hb dX0_servedIn_64 (by decide) ?_
            have E_48 : bq_sd (bq_pl tx (120 - rg 2).toNat (bq_ah rg)) mn.toInt.toNat = bq_sd g_18 mn.toInt.toNat := by
              rw [← j_20]
              by_cases c : 2 ≤ g_18 (128 + mn.toInt.toNat)
              · exact sd_pl hW j_21 (by omega) c
              · rw [show (120 - x_10.toInt).toNat = 0 by omega]; rfl
            exact hQ _ _ _ _ _ _ hw rfl (⟨(by rw [E_48]; unfold bq_sd; rw [if_pos (by omega)]; omega), iM_13, f_14, f_15⟩) dX0_servedIn_69
        · refine lv_aload_n hx hb dX0_servedIn_29 rfl (lv_at hl 1 rfl) ?_
          refine ti_get (ci := 0) (k := 0) (N := 6) (T := TX0) (v := .ref (A 54 0)) C hw iw_0 rfl ob_53 (by decide) (by decide) fl_X0_12 rfl rfl dX0_servedIn_30 ?_
          refine ti_callVv (ci := 3) (av := []) C hw (z_X3_pass l D A cy hJ M_13 iM_13 54 t ob_54 ht (f_16) tx g_18 (tC_S ht htx f_15) hs_17 (by omega) (by omega) (by omega) (fun h => absurd h np_54)) ⟨ml_X0_51, ym_X3_pass, yv_X3_pass, yi_X3_pass, yc_X3_pass⟩ yd_X3_pass ob_54 (by decide) rfl rfl hl.1 (Nat.le_of_ble_eq_true rfl) ⟨by decide, by decide⟩ ⟨Nat.zero_le _, Nat.zero_le _⟩ dX0_servedIn_33 (fun M_31 H locs hp_31 hw => ?_)
          obtain ⟨iM_31, q_32, q_33, hs_34⟩ := hp_31
          obtain ⟨g_35, eg_35⟩ : ∃ z : Nat → Int, z = bq_ps tx g_18 := ⟨_, rfl⟩
          rw [← eg_35] at hs_34
          have w1g_35 : g_35 1 = g_18 1 := by rw [eg_35]; exact ps_1
          have w2g_35 : g_35 2 = g_18 2 + 1 := by rw [eg_35, ps_2, bw_id (by omega) (by omega)]
          have w5g_35 : 0 ≤ g_35 5 := by rw [eg_35]; exact ps_5 (by omega)
          obtain ⟨x_36, ex_36⟩ : ∃ z : Int32, z = x_10 + 1 := ⟨_, rfl⟩
          have tx_36 : x_36.toInt = x_10.toInt + 1 := i_add ex_36 rfl (by decide) (by omega) (by omega)
          refine lv_iinc (v := x_36) (lv' := [(3, .int x_36), (0, .ref (A 53 0)), (1, .ref (A 27 0)), (2, .int mn)]) hx hb dX0_servedIn_36 hl (k := 0) rfl (by rw [ex_36]; rfl) (by decide) rfl (fun ls hl => ?_)
          refine lv_goto (tgt := 10) hx hb dX0_servedIn_39 (by decide) ?_
          exact ih_25 x_36 M_31 g_35 _ _ _ (by omega) (by first | omega | decide) (by first | omega | decide) iM_31 (rT.trans (rs_of q_32) f_14) (fS.trans (fS_q q_33 (by decide)) f_15) ((tT_fr q_32).trans f_16) hs_34 (qC_same hs_19 (sq_eo q_33 (by decide))) (by rw [← j_20, pl_go (tx := tx) (s := g_18) (f := (120 - x_10.toInt).toNat) (f' := (120 - x_36.toInt).toNat) (by omega), ← eg_35]) (by rw [eg_35]; exact wF_ps hW j_21) (by first | omega | decide) (by first | omega | decide) (by first | omega | decide) hw (lv_sub hl [0, 1, 2, 3] rfl)
  exact hl_10_24 ((120 - x_8.toInt : Int).toNat + 1) x_8 M_2 g_6 _ _ _ (Nat.lt_succ_self _) (by first | omega | decide) (by first | omega | decide) iM_2 (rs_TT q_3 (by decide)) (fS_q q_4 (by decide)) ((tT_fr q_3).trans (tT_u _ _ _ _)) hs_5 hs_7 (by rw [eg_6, show x_8.toInt = rg 2 by omega]) (by rw [eg_6]; exact wF_su hW hwf (by omega)) (by first | omega | decide) (by first | omega | decide) (by first | omega | decide) hw (lv_sub hl [0, 1, 2, 3] rfl)
set_option maxHeartbeats 4000000 in
set_option maxRecDepth 100000 in
theorem z_X9_served (l : Launch) (D : va_G) (A : Nat → Nat → Nat) (cy : Nat → ClassId) (hJ : ti_inj ti_LT A) (M : ti_M) (hI : cI Tc M) (hF : cF Tc M) (t : Nat) (ht : t = 3 ∨ t = 4) (tx rg lp : Nat → Int) (ug : Nat → Nat → Int) (cu : Int) (hk : kC t tx rg ug cu lp M) (hW : tW tx) (hwf : wF tx rg) (h1r : rg 1 = 0) (hm2 : 0 ≤ rg 2 ∧ rg 2 ≤ 120) (z1 : Int32) : ti_Ki l yX9_served cX9_served 2 (some .int) 6 ti_LT D A cy M [.ref (A 0 0), .int z1] (fun r M2 => r.toInt = (if 0 ≤ z1.toInt ∧ z1.toInt < tx 4 then bq_sd (bq_pl tx (120 - rg 2).toNat (bq_ah rg)) z1.toInt.toNat else -1) ∧ fS M2 M ∧ rT M2 M ∧ cF Tc M2 ∧ tI M2 2 1 = tI M 2 1 ∧ tl M2 M) := by
  refine ti_eI yp_X9_served hJ ti_LT_nd (Nat.le_of_ble_eq_true rfl) ?_
  intro p e s m args below meth c Q H0 C hQ hw ls hl
  have hx := C.1
  have hb := C.2.1
  have hl : lv_has ls 2 [(0, .ref (A 0 0)), (1, .int z1)] := hl
  obtain ⟨htx, hT1, hT, hs, hr, hp0⟩ := id hk
  have l4 : 0 ≤ tx 4 ∧ tx 4 ≤ 8 := by rw [htx.1 4 (by decide) (by decide)]; exact cI_rd (k := 4) hI (ob_t ht).1 rfl
  have h4 : tx 4 = (tI M t 4).toInt := htx.1 4 (by decide) (by decide)
  refine lv_aload_n hx hb dX9_served_0 rfl (lv_at hl 0 rfl) ?_
  refine lv_iload_n hx hb dX9_served_1 rfl (lv_at hl 1 rfl) ?_
  refine ti_callVi (ci := 9) (av := [.int z1]) C hw (x_X9_isMan l D A cy hJ M hI t ht (hT1) z1) ⟨ml_X9_104, ym_X9_isMan, yv_X9_isMan, yi_X9_isMan, yc_X9_isMan⟩ yd_X9_isMan ob_0 (by decide) rfl rfl hl.1 (Nat.le_of_ble_eq_true rfl) ⟨by decide, by decide⟩ ⟨Nat.zero_le _, Nat.zero_le _⟩ dX9_served_2 (fun r_1 M_2 H locs hp_2 hw => ?_)
  obtain ⟨hm, hz⟩ := hp_2
  have hw := hw.to hm
  rcases hz with ⟨rfl, d0_3, d1_3⟩ | ⟨rfl, e_3⟩
  · refine sb_if_eq (tgt := 23) hx hb (by decide : (1 : Int32).toInt = 1) dX9_served_5 (by decide) (fun h => absurd h (by decide)) (fun c_5_3 => ?_)
    refine lv_aload_n hx hb dX9_served_8 rfl (lv_at hl 0 rfl) ?_
    refine ti_get (ci := 9) (k := 9) (N := 10) (T := TX9) (v := .ref (A 53 0)) C hw iw_9 rfl ob_0 (by decide) (by decide) fl_X9_61 rfl rfl dX9_served_9 ?_
    refine lv_aload_n hx hb dX9_served_12 rfl (lv_at hl 0 rfl) ?_
    refine ti_get (ci := 9) (k := 3) (N := 10) (T := TX9) (v := .ref (A 27 0)) C hw iw_9 rfl ob_0 (by decide) (by decide) fl_X9_29 rfl rfl dX9_served_13 ?_
    refine lv_iload_n hx hb dX9_served_16 rfl (lv_at hl 1 rfl) ?_
    refine ti_callVi (ci := 0) (av := [.ref (A 27 0), .int z1]) C hw (z_X0_servedIn l D A cy hJ M hI t ht (hT) tx rg htx hs z1 (by omega) (by omega) hW hwf h1r hm2) ⟨ml_X9_215, ym_X0_servedIn, yv_X0_servedIn, yi_X0_servedIn, yc_X0_servedIn⟩ yd_X0_servedIn ob_53 (by decide) rfl rfl hl.1 (Nat.le_of_ble_eq_true rfl) ⟨by decide, by decide⟩ ⟨Nat.zero_le _, Nat.zero_le _⟩ dX9_served_17 (fun r_6 M_7 H locs hp_7 hw => ?_)
    obtain ⟨pr_6, iM_7, q_8, q_9⟩ := hp_7
    refine lv_goto (tgt := 24) hx hb dX9_served_20 (by decide) ?_
    have hs_10 : qC 27 rg M_7 := (qC_same hs (sq_S q_9 (by decide)))
    exact hQ _ _ _ _ _ _ hw rfl (⟨by rw [if_pos (by omega)]; exact pr_6, face_S hF iM_7 q_9 q_8⟩) dX9_served_24
  · refine sb_if_eq (tgt := 23) hx hb (by decide : (0 : Int32).toInt = 0) dX9_served_5 (by decide) (fun c_5_4 => ?_) (fun h => absurd h (by decide))
    refine lv_iconst (v := (-1)) hx hb dX9_served_23 (by decide) ?_
    exact hQ _ _ _ _ _ _ hw rfl (⟨by rw [if_neg (by omega)]; decide, face_S hF hI fS.refl rT.refl⟩) dX9_served_24
end
section
variable {Tc : gC} {Tm : gM}
section
variable {n : Nat} {s : Nat → Int} {K N M : ti_M} {z : Int32} {v : Int}
theorem fR_e (E : eR 1 N M) : fR 1 N M := ⟨⟨⟨E.1 2 (by decide), E.1 51 (by decide), E.1 52 (by decide)⟩, fun k i _ _ h => E.2 k i h⟩, E.1 53 (by decide)⟩
/-- the queue laid aside, in another manner -/
theorem lay_q (hn : n ≤ 8) (hq : qR n 0 s M) (hv : qV n 0 s M) (x : cx 1 0 K M) (e : N = uY K 60 37 (upd (tY K 60 37) z.toNatClampNeg 0)) (hz : z.toInt = 1) (v0 : v ≠ 0) : qR n 1 (pp_su s 1 v) N ∧ qV n 1 (pp_su s 1 v) N := by
  rw [i_cl (n := 1) hz] at e
  obtain ⟨a, b, c, d, f, g⟩ := cx_qR hn x hq
  have h := cx_qV hn x hv
  have o : ∀ k2 : Nat, k2 ≠ 37 → tY N 60 k2 = tY K 60 k2 := fun k2 h2 => tY_nE e (nk h2)
  have gk : ∀ j : Nat, j ≠ 1 → pp_su s 1 v j = s j := fun j hj => su_n hj
  refine ⟨⟨by rw [gk 2 (by omega), gk 3 (by omega), gk 4 (by omega), gk 5 (by omega), o 34 (by decide), o 38 (by decide), o 35 (by decide), o 36 (by decide)]; exact a, fun p2 h1 h2 => ?_, fun j hj => by rw [gk (112 + j) (by omega), o 49 (by decide)]; exact c j hj, fun m2 h2 => ?_, fun m2 h2 => ?_, ?_⟩, fun m2 h2 => ?_⟩
  · rw [gk 3 (by omega)] at h2
    rw [gk (96 + p2) (by omega), o 39 (by decide)]; exact b p2 h1 h2
  · rw [gk (128 + m2) (by omega), gk (144 + m2) (by omega), gk (160 + m2) (by omega), gk (176 + m2) (by omega), gk (192 + m2) (by omega), gk (240 + m2) (by omega), o 40 (by decide), o 44 (by decide), o 41 (by decide), o 42 (by decide), o 43 (by decide), o 47 (by decide)]; exact d m2 h2
  · rw [gk (128 + m2) (by omega), gk (208 + m2) (by omega), gk (224 + m2) (by omega), o 45 (by decide), o 46 (by decide)]; exact f m2 h2
  · rw [su_s, if_neg v0, tY_uE e, pk_us]
  · rw [o 48 (by decide), gk (128 + m2) (by omega), gk (224 + m2) (by omega)]; exact h m2 h2
end
set_option maxHeartbeats 4000000 in
set_option maxRecDepth 100000 in
theorem z_X10_lays (l : Launch) (D : va_G) (A : Nat → Nat → Nat) (cy : Nat → ClassId) (hJ : ti_inj ti_LM A) (M : ti_M) (hI : mI Tm M) (hC : mC M 0) (hP : mP M 0) (tx rg : Nat → Int) (ht4 : 0 ≤ tx 4 ∧ tx 4 ≤ 8) (hr : qR (tx 4).toNat 0 rg M) (hV : qV (tx 4).toNat 0 rg M) : ti_Kv l yX10_lays cX10_lays 1 1 ti_LM D A cy M [.ref (A 60 0)] (fun M2 => eR 1 M2 M ∧ (∀ v : Int, v ≠ 0 → qR (tx 4).toNat 1 (pp_su rg 1 v) M2 ∧ qV (tx 4).toNat 1 (pp_su rg 1 v) M2) ∧ mI Tm M2 ∧ rq 1 M2 M ∧ mC M2 1 ∧ mP M2 1 ∧ (∀ j : Nat, j < 8 → tY M2 60 40 (8 + j) = tY M 60 40 j) ∧ (∀ j : Nat, j < 8 → tY M2 60 40 j = tY M 60 40 j) ∧ tY M2 60 38 1 = tY M 60 38 0) := by
  refine ti_eV yp_X10_lays hJ ti_LM_nd (Nat.le_of_ble_eq_true rfl) ?_
  intro p e s m args below meth c Q H0 C hQ hw ls hl
  have hx := C.1
  have hb := C.2.1
  have hl : lv_has ls 1 [(0, .ref (A 60 0))] := hl
  refine lv_aload_n hx hb dX10_lays_0 rfl (lv_at hl 0 rfl) ?_
  refine lv_iconst (v := 1) hx hb dX10_lays_1 (by decide) ?_
  refine lv_iconst (v := 0) hx hb dX10_lays_2 (by decide) ?_
  refine ti_callVv (ci := 10) (av := [.int 1, .int 0]) C hw (z_X10_copies l D A cy hJ M hI 1 0 (by first | omega | decide | (have l0 : (0 : Int32).toInt = 0 := (by decide); have l2 : (2 : Int32).toInt = 2 := (by decide); have l3 : (3 : Int32).toInt = 3 := (by decide); omega)) (by first | omega | decide | (have l0 : (0 : Int32).toInt = 0 := (by decide); have l2 : (2 : Int32).toInt = 2 := (by decide); have l3 : (3 : Int32).toInt = 3 := (by decide); omega)) (by first | omega | decide | (have l0 : (0 : Int32).toInt = 0 := (by decide); have l2 : (2 : Int32).toInt = 2 := (by decide); have l3 : (3 : Int32).toInt = 3 := (by decide); omega)) (by first | omega | decide | (have l0 : (0 : Int32).toInt = 0 := (by decide); have l2 : (2 : Int32).toInt = 2 := (by decide); have l3 : (3 : Int32).toInt = 3 := (by decide); omega)) (by first | omega | decide | (have l0 : (0 : Int32).toInt = 0 := (by decide); have l2 : (2 : Int32).toInt = 2 := (by decide); have l3 : (3 : Int32).toInt = 3 := (by decide); omega)) (by first | omega | decide | (have l0 : (0 : Int32).toInt = 0 := (by decide); have l2 : (2 : Int32).toInt = 2 := (by decide); have l3 : (3 : Int32).toInt = 3 := (by decide); omega))) ⟨ml_X10_404, ym_X10_copies, yv_X10_copies, yi_X10_copies, yc_X10_copies⟩ yd_X10_copies ob_60 (by decide) rfl rfl hl.1 (Nat.le_of_ble_eq_true rfl) ⟨by decide, by decide⟩ ⟨Nat.zero_le _, Nat.zero_le _⟩ dX10_lays_3 (fun M_2 H locs hp_2 hw => ?_)
  obtain ⟨erM_2, cxM_2, hqM_2⟩ := hp_2
  rw [show (1 : Int32).toInt.toNat = 1 by decide] at erM_2 cxM_2
  rw [show (0 : Int32).toInt.toNat = 0 by decide] at cxM_2
  obtain ⟨iM_2, q_3, q_4⟩ := hqM_2
  have q_4n : cq 1 0 M_2 M := by rw [show (1 : Int32).toNatClampNeg = 1 from by decide] at q_4; rw [show (0 : Int32).toNatClampNeg = 0 from by decide] at q_4; exact q_4
  refine lv_aload_n hx hb dX10_lays_6 rfl (lv_at hl 0 rfl) ?_
  refine ti_get (ci := 10) (k := 37) (N := 67) (T := TX10) (v := .ref (A 60 38)) C hw iw_10 rfl ob_60 (by decide) (by decide) fl_X10_78 rfl rfl dX10_lays_7 ?_
  refine lv_iconst (v := 1) hx hb dX10_lays_10 (by decide) ?_
  refine lv_iconst (v := 0) hx hb dX10_lays_11 (by decide) ?_
  refine ti_iast (ci := 10) (k := 37) (n := 23) C hw ob_60 (by decide) (fun _ _ => rfl) (by unfold vp_in; decide) dX10_lays_12 (fun H locs hw => ?_)
  obtain ⟨M_5, hM_5⟩ : ∃ z : ti_M, z = uY M_2 60 37 (upd (tY M_2 60 37) (1 : Int32).toNatClampNeg 0) := ⟨_, rfl⟩
  have hw := hw.to hM_5.symm
  have iM_5 : mI Tm M_5 := mI_up (i := 1) iM_2 hM_5 trivial
  have jj := lays_rq q_3 q_4n hC hP
  exact hQ _ _ _ _ _ hw (⟨(eR.trans (eR_Y hM_5 (bk_q (z := 1) (by decide) (by decide))) erM_2), fun v v0 => lay_q (by omega) hr hV cxM_2 hM_5 (by decide) v0, iM_5, rq.trans (rq_qw ((qw_Y hM_5 (by decide)))) jj.1, mC_qw ((qw_Y hM_5 (by decide))) jj.2.1, mP_qw ((qw_Y hM_5 (by decide))) jj.2.2.1, fun j hj => (cg ((qw_Y hM_5 (by decide))).2.2.2.2 _).trans (jj.2.2.2.1 j hj), fun j hj => (cg ((qw_Y hM_5 (by decide))).2.2.2.2 _).trans (jj.2.2.2.2.1 j hj), (cg ((qw_Y hM_5 (by decide))).2.2.1 1).trans jj.2.2.2.2.2⟩) dX10_lays_13
set_option maxHeartbeats 4000000 in
set_option maxRecDepth 100000 in
theorem z_X10_served (l : Launch) (D : va_G) (A : Nat → Nat → Nat) (cy : Nat → ClassId) (hJ : ti_inj ti_LM A) (M : ti_M) (hI : mI Tm M) (hF : mF Tm M) (z1 : Int32) (tx rg lp : Nat → Int) (ug : Nat → Nat → Int) (cu : Int) (ht4 : 0 ≤ tx 4 ∧ tx 4 ≤ 8) (htW : tW tx) (hwf : wF tx rg) (h1r : rg 1 = 0) (hk : kR tx rg ug cu lp M) : ti_Ki l yX10_served cX10_served 2 (some .int) 8 ti_LM D A cy M [.ref (A 60 0), .int z1] (fun r M2 => r.toInt = (if 0 ≤ z1.toInt ∧ z1.toInt < tx 4 then bq_sd (bq_pl tx (120 - rg 2).toNat (bq_ah rg)) z1.toInt.toNat else -1) ∧ fR 1 M2 M ∧ mF Tm M2 ∧ tI M2 60 2 = tI M 60 2 ∧ lw M2 M) := by
  refine ti_eI yp_X10_served hJ ti_LM_nd (Nat.le_of_ble_eq_true rfl) ?_
  intro p e s m args below meth c Q H0 C hQ hw ls hl
  have hx := C.1
  have hb := C.2.1
  have hl : lv_has ls 2 [(0, .ref (A 60 0)), (1, .int z1)] := hl
  have hL : mL M := hF.2.1
  have hC0 : mC M 0 := hF.2.2.1.1
  have hP0 : mP M 0 := hF.2.2.1.2
  obtain ⟨htr, hr, hV, hu, hp0, htw⟩ := id hk
  have t4 : tx 4 = (tY M 60 3 0).toInt := htr.1.1
  have w83 := wF_8 hwf
  have q3r : rg 3 = (tY M 60 38 0).toInt := hr.1.2.1
  refine lv_aload_n hx hb dX10_served_0 rfl (lv_at hl 0 rfl) ?_
  refine lv_iconst (v := 0) hx hb dX10_served_1 (by decide) ?_
  refine ti_putI (ci := 10) (k := 0) (N := 67) (T := TX10) C hw iw_10 tyX10 tyX10_ok nmX10 rfl ob_60 (by decide) (by decide) fl_X10_154 rfl rfl rfl rfl (fn_10 A _) fs_10_0 dX10_served_2 (fun H locs hw => ?_)
  obtain ⟨M, h0⟩ : ∃ z : ti_M, z = uI M 60 0 0 := ⟨_, rfl⟩
  have hw := hw.to h0.symm
  have hI : mI Tm M := mI_uI hI h0 (by decide) (by decide) trivial
  have hF : mF Tm M := mF_qw hF hI (qw_I h0 (by decide))
  have ir0 := iR_0 h0
  have e2r := tI_nE (k2 := 2) (o2 := 60) h0 (nk (by decide))
  have e51r := tI_nE (k2 := 51) (o2 := 60) h0 (nk (by decide))
  have lwr : lw M _ := fun _ _ _ => tY_uIE h0
  have hk := kR_0 hk h0
  obtain ⟨htr, hr, hV, hu, hp0, htw⟩ := id hk
  have t4 : tx 4 = (tY M 60 3 0).toInt := htr.1.1
  have w83 := wF_8 hwf
  have q3r : rg 3 = (tY M 60 38 0).toInt := hr.1.2.1
  have fr0 := fR_I (q := 1) h0 (by decide)
  have hL : mL M := hF.2.1
  have hC0 : mC M 0 := hF.2.2.1.1
  have hP0 : mP M 0 := hF.2.2.1.2
  have q2r : rg 2 = (tY M 60 34 0).toInt := hr.1.1
  have m34 : 0 ≤ (tY M 60 34 0).toInt ∧ (tY M 60 34 0).toInt ≤ 120 := mI_ry (k := 34) (i := 0) hI rfl (by decide)
  refine lv_aload_n hx hb dX10_served_5 rfl (lv_at hl 0 rfl) ?_
  refine lv_iload_n hx hb dX10_served_6 rfl (lv_at hl 1 rfl) ?_
  refine ti_callVi (ci := 10) (av := [.int z1]) C hw (z_X10_isMan l D A cy hJ M hI z1 tx htr) ⟨ml_X10_356, ym_X10_isMan, yv_X10_isMan, yi_X10_isMan, yc_X10_isMan⟩ yd_X10_isMan ob_60 (by decide) rfl rfl hl.1 (Nat.le_of_ble_eq_true rfl) ⟨by decide, by decide⟩ ⟨Nat.zero_le _, Nat.zero_le _⟩ dX10_served_7 (fun r_1 M_2 H locs hp_2 hw => ?_)
  obtain ⟨hm, hz⟩ := hp_2
  have hw := hw.to hm
  rcases hz with ⟨rfl, d0_3, d1_3, d2_3, d3_3⟩ | ⟨rfl, e_3⟩
  · refine sb_if_ne (tgt := 15) hx hb (by decide : (1 : Int32).toInt = 1) dX10_served_10 (by decide) (fun c_10_3 => ?_) (fun h => absurd h (by decide))
    refine lv_aload_n hx hb dX10_served_15 rfl (lv_at hl 0 rfl) ?_
    refine ti_callVv (ci := 10) (av := []) C hw (z_X10_lays l D A cy hJ M hI hC0 hP0 tx rg ht4 hr hV) ⟨ml_X10_442, ym_X10_lays, yv_X10_lays, yi_X10_lays, yc_X10_lays⟩ yd_X10_lays ob_60 (by decide) rfl rfl hl.1 (Nat.le_of_ble_eq_true rfl) ⟨by decide, by decide⟩ ⟨Nat.zero_le _, Nat.zero_le _⟩ dX10_served_16 (fun M_7 H locs hp_7 hw => ?_)
    obtain ⟨erM_7, lqM_7, hqM_7⟩ := hp_7
    obtain ⟨iM_7, q_8, q_9, q_10, q_11, q_12, q_13⟩ := hqM_7
    obtain ⟨hsM_7, qvM_7⟩ : qR (tx 4).toNat 1 (bq_ah rg) M_7 ∧ qV (tx 4).toNat 1 (bq_ah rg) M_7 := lqM_7 3 (by decide)
    obtain ⟨g_14, eg_14⟩ : ∃ z : Nat → Int, z = bq_ah rg := ⟨_, rfl⟩
    rw [← eg_14] at hsM_7
    rw [← eg_14] at qvM_7
    have f1g_14 : g_14 1 = 3 := by rw [eg_14]; exact su_s
    have f2g_14 : g_14 2 = rg 2 := by rw [eg_14]; exact su_n (by decide)
    have f3g_14 : g_14 3 = rg 3 := by rw [eg_14]; exact su_n (by decide)
    have f5g_14 : g_14 5 = rg 5 := by rw [eg_14]; exact su_n (by decide)
    have wpg_14 : wF tx g_14 := by rw [eg_14]; exact wF_su htW hwf (by omega)
    have q2M_7 : rg 2 = (tY M_7 60 34 0).toInt := (qR_ne hr erM_7 (by decide) (by omega)).1.1
    refine lv_aload_n hx hb dX10_served_19 rfl (lv_at hl 0 rfl) ?_
    refine lv_aload_n hx hb dX10_served_20 rfl (lv_at hl 0 rfl) ?_
    refine ti_callVi (ci := 10) (av := []) C hw (s_X10_minutesLeft l D A cy hJ M_7 iM_7 ) ⟨ml_X10_430, ym_X10_minutesLeft, yv_X10_minutesLeft, yi_X10_minutesLeft, yc_X10_minutesLeft⟩ yd_X10_minutesLeft ob_60 (by decide) rfl rfl hl.1 (Nat.le_of_ble_eq_true rfl) ⟨by decide, by decide⟩ ⟨Nat.zero_le _, Nat.zero_le _⟩ dX10_served_21 (fun r_15 M_16 H locs hp_16 hw => ?_)
    obtain ⟨hm, b0r_15, b1r_15, p0r_15⟩ := hp_16
    have hw := hw.to hm
    refine ti_callVv (ci := 10) (av := [.int r_15]) C hw (z_X10_runs l D A cy hJ M_7 iM_7 q_9 (mL_lw (lk_of q_8.1 q_8.2.1).1 hL) r_15 tx g_14 (tR_lw htr ((rw1_rq q_8)).1) ht4 hsM_7 qvM_7 wpg_14 ((erM_7.1 53 (by decide)).trans htw) htW (by omega) (by omega) (by omega)) ⟨ml_X10_445, ym_X10_runs, yv_X10_runs, yi_X10_runs, yc_X10_runs⟩ yd_X10_runs ob_60 (by decide) rfl rfl hl.1 (Nat.le_of_ble_eq_true rfl) ⟨by decide, by decide⟩ ⟨Nat.zero_le _, Nat.zero_le _⟩ dX10_served_24 (fun M_18 H locs hp_18 hw => ?_)
    obtain ⟨erM_18, hsM_18, qvM_18, hqM_18⟩ := hp_18
    obtain ⟨iM_18, q_19, q_20⟩ := hqM_18
    obtain ⟨g_21, eg_21⟩ : ∃ z : Nat → Int, z = bq_pl tx r_15.toInt.toNat g_14 := ⟨_, rfl⟩
    rw [← eg_21] at hsM_18
    rw [← eg_21] at qvM_18
    have wpg_21 : wF tx g_21 := by rw [eg_21]; exact wF_pn htW _ _ wpg_14
    refine lv_aload_n hx hb dX10_served_27 rfl (lv_at hl 0 rfl) ?_
    refine ti_get (ci := 10) (k := 48) (N := 67) (T := TX10) (v := .ref (A 60 49)) C hw iw_10 rfl ob_60 (by decide) (by decide) fl_X10_111 rfl rfl dX10_served_28 ?_
    refine lv_bipush (v := 8) hx hb dX10_served_31 (by decide) ?_
    refine lv_iload_n hx hb dX10_served_33 rfl (lv_at hl 1 rfl) ?_
    refine lv_iadd hx hb dX10_served_34 ?_
    refine lv_topi (fun x_22 ex_22 => ?_)
    have lox_22z1 := z1.le_toInt
    have hix_22z1 := z1.toInt_lt
    have tx_22 : x_22.toInt = 8 + z1.toInt := i_add ex_22 (by decide : (8 : Int32).toInt = 8) rfl (by omega) (by omega)
    refine ti_iald (ci := 10) (k := 48) (n := 184) C hw ob_60 (by decide) (fun _ _ => rfl) (vp_in_iff.mpr (by omega)) dX10_served_35 ?_
    refine lv_topi (fun x_23 ex_23 => ?_)
    have yx_23 : tY M_18 60 48 x_22.toNatClampNeg = x_23 := (ex_23.symm)
    have L_24 : bq_sd g_21 z1.toInt.toNat = x_23.toInt := (qvM_18 z1.toInt.toNat (by omega)).symm.trans (rd_k (n := 8 * 1 + z1.toInt.toNat) (by omega) (yx_23))
    exact hQ _ _ _ _ _ _ hw rfl (⟨(by rw [if_pos (by omega), ← eg_14, show (120 - rg 2).toNat = r_15.toInt.toNat by omega, ← eg_21]; exact L_24.symm), ((fR_e (eR.trans erM_18 erM_7)).trans fr0), mF_rw hF iM_18 (rw1.trans (rw1_rq q_19) (rw1_rq q_8)), ((rw1.trans (rw1_rq q_19) (rw1_rq q_8))).2.1.1.trans e2r, lw_t ((rw1.trans (rw1_rq q_19) (rw1_rq q_8))).1 lwr⟩) dX10_served_36
  · refine sb_if_ne (tgt := 15) hx hb (by decide : (0 : Int32).toInt = 0) dX10_served_10 (by decide) (fun h => absurd h (by decide)) (fun c_10_4 => ?_)
    refine lv_iconst (v := (-1)) hx hb dX10_served_13 (by decide) ?_
    exact hQ _ _ _ _ _ _ hw rfl (⟨by rw [if_neg (by omega)]; decide, fr0, hF, e2r, lwr⟩) dX10_served_14
end
section
theorem tx_E.kept {A : Nat → Prop} {U : State} {H H1 : Heap} (h : tx_E A U H) (hq : ∀ a : Nat, a < H.size → ¬ A a → H1[a]? = H[a]?) : tx_E A U H1 := by
  obtain ⟨⟨a, v, h1, h2⟩, ⟨b, w, h3, h4⟩, h5⟩ := h
  exact ⟨⟨a, v, h1, h2.kept hq⟩, ⟨b, w, h3, h4.kept hq⟩, h5.kept hq⟩
def lq_B (p : Program) (s : State) (m : MethodId) (c : Code) (args : Array Value) (cc : ByteArray) (own : String) (nL : Nat) (D : va_G) (cy : Nat → ClassId) : Prop :=
  p.tables.exec = Jvm.exec ∧ c.code = cc ∧ (∀ w ∈ lw_g, w.before args s = true) ∧ s.vm.findClass own = some m.cls ∧ va_K D vwCl (ti_ty cy) s ∧ c.maxLocals = nL ∧ True ∧ ti_N s
section
variable {p : Program} {l : Launch} {e : Env} {R : Room} {s : State} {m : MethodId} {args : Array Value} {below : List Frame} {meth : Method} {c : Code} {H H0 : Heap} {locs : List Loc} {cells slots : Nat} {Q : State → Prop} {pc : Nat} {ls : Array Slot} {rest : List Value} {cc : ByteArray} {own : String} {nL : Nat} {D : va_G} {cy : Nat → ClassId} {As : Nat → Prop} {ws : va_W}
/-- a new row of a basic type -/
theorem lq_nA {atype : ArrayType} {ty : FieldType} (t0 : Nat) (C : lq_B p s m c args cc own nL D cy) (hac : Cond.arrayClass (newarray.typeOf atype) ∈ lw_g) (hty : newarray.typeOf atype = ty) (hp : ∀ C, ty ≠ .object C) (ht : (ti_ty cy)[t0]? = some (cy t0, ty)) (hP : va_P D vwCl ws H) (hD : va_D As ws) (hS : va_S As H0 H locs) (hA : ∀ q, H0.size ≤ q → As q)
    {n : Int32} {N' : Nat} {a0 : vp_A} (ha : ∀ cA : ClassId, vp_cell cA a0 = arrV cA N' (fun _ => defaultValue ty)) (hn : ¬ n < 0) (hN : n.toNatClampNeg = N') (hbytes : N' * componentBytes ty ≤ 536870912) (k2 n2 : Nat) (hcells : cells + 1 ≤ k2) (hslots : slots + N' ≤ n2) (hR : k2 ≤ R.cells ∧ n2 ≤ R.slots) (hdg : decode cc pc = .ok (.newarray atype, 2))
    (kk : ∀ (q : Nat) (H1 : Heap), va_P D vwCl (ws ++ [(q, .inl (cy t0, a0))]) H1 → va_D As (ws ++ [(q, .inl (cy t0, a0))]) → va_S As H0 H1 locs → W p l e R s m args below meth c H1 locs k2 n2 Q (F0 m (pc + 2) ls (.ref q :: rest))) : W p l e R s m args below meth c H locs cells slots Q (F0 m pc ls (.int n :: rest)) := by
  refine va_newa (atype := atype) (ty := ty) C.1 C.2.1 (C.2.2.1 _ hac) hty C.2.2.2.2.1 hP hD hS hA ha hn hN hbytes (Nat.le_trans hcells hR.1) (Nat.le_trans hslots hR.2) hdg ?_
  intro q cA H1 hK1 hP1 hD1 hS1
  obtain rfl := ti_sameP hp C.2.2.2.2.1 ht hK1
  exact W.widen hcells hslots (kk q H1 hP1 hD1 hS1)
/-- a new object -/
theorem lq_nO {Cn : String} {T : u_T} {N ci idx : Nat} (ty : Nat → FieldType) (hty : ∀ k, k < N → parseFieldDescriptor (T k).2.2.1 = some (ty k)) (C : lq_B p s m c args cc own nL D cy) (hin : ∀ w ∈ u_ws Cn T N, w ∈ lw_g) (hck : Cond.classLink own idx Cn ∈ lw_g) (his : Cond.instantiable Cn N ∈ lw_g) (hini : Cond.initialized Cn ∈ lw_g) (hcl : vwCl[ci]? = some (Cn, T, N)) (hP : va_P D vwCl ws H) (hD : va_D As ws) (hS : va_S As H0 H locs) (hA : ∀ q, H0.size ≤ q → As q)
    {fs : List Value} (hfs : ∀ j, j < N → defaultValue (ty j) = vp_V fs j) (k2 n2 : Nat) (hcells : cells + 1 ≤ k2) (hslots : slots + N ≤ n2) (hR : k2 ≤ R.cells ∧ n2 ≤ R.slots) (hdg : decode cc pc = .ok (.new idx, 3))
    (kk : ∀ (q : Nat) (H1 : Heap), va_P D vwCl (ws ++ [(q, .inr (ci, fs))]) H1 → va_D As (ws ++ [(q, .inr (ci, fs))]) → va_S As H0 H1 locs → W p l e R s m args below meth c H1 locs k2 n2 Q (F0 m (pc + 3) ls (.ref q :: rest))) : W p l e R s m args below meth c H locs cells slots Q (F0 m pc ls rest) := by
  refine va_new (ci := ci) (C := Cn) (T := T) (N := N) C.1 C.2.1 C.2.2.1 hin ty hty C.2.2.2.1 (C.2.2.1 _ hck) (C.2.2.1 _ his) (C.2.2.1 _ hini) C.2.2.2.2.1 hP hD hS hA hcl hfs (Nat.le_trans hcells hR.1) (Nat.le_trans hslots hR.2) hdg ?_
  intro q H1 hP1 hD1 hS1
  exact W.widen hcells hslots (kk q H1 hP1 hD1 hS1)
/-- a constructor's call, of the last cell -/
theorem lq_callCx {y : MethodName} {cc2 : ByteArray} {n2 k2 mc ms q : Nat} {X : va_W} {e0 : va_E} {S : Type} {post : S → Prop} {blk : S → va_W} (C : lq_B p s m c args cc own nL D cy) (hM : ti_Kc l y cc2 n2 k2 mc ms D cy q H.size e0 post blk)
    (hrun : ∀ (hp : PreS s H (ti_PcC D cy q H.size e0) [.ref q]), va_Run p l e R s m args below meth c H locs cells slots mc ms (F0 m pc ls (.ref q :: rest)) rest (va_Qv post (fun u t => va_P D vwCl (blk u) t.heap ∧ va_D (va_A [(q, e0)] H.size) (blk u)) (va_A [(q, e0)] H.size) (Value.ref q :: []).toArray) (va_A [(q, e0)] H.size))
    (hP : va_P D vwCl (X ++ [(q, e0)]) H) (hD : va_D As (X ++ [(q, e0)])) (hS : va_S As H0 H locs) (hA : ∀ q, H0.size ≤ q → As q) (k3 n3 : Nat) (hcells : cells + mc ≤ k3) (hslots : slots + ms ≤ n3)
    (kk : ∀ (u : S) (H1 : Heap) (locs1 : List Loc), post u → va_P D vwCl (X ++ blk u) H1 → va_D As (X ++ blk u) → va_S As H0 H1 locs1 → W p l e R s m args below meth c H1 locs1 k3 n3 Q (F0 m (pc + 3) ls rest)) : W p l e R s m args below meth c H locs cells slots Q (F0 m pc ls (.ref q :: rest)) := by
  have hF : ∀ z, va_A [(q, e0)] H.size z → As z := va_free (wc := [(q, e0)]) hD hS hA [X.length] (by simp)
  have hP0 : va_P D vwCl [(q, e0)] H := hP.sub (ws' := [(q, e0)]) [X.length] (by simp)
  refine va_callv (hrun ⟨ti_blindC, fun U hU hW => ⟨rfl, by rw [hU], by rw [hU]; exact hP0, va_K.moved hW.alike C.2.2.2.2.1, C.2.2.2.2.2.2.2.warm hW⟩⟩) hS (fun z _ h => hF z h) hF ?_
  intro u t H1 locs1 ht hvm hpo hB hz hk hS1
  rw [ht] at hB
  obtain ⟨hP2, hD2⟩ := ti_joinL hP hD hk hF hB.1 hB.2
  exact W.widen hcells hslots (kk u H1 locs1 hpo hP2 hD2 hS1)
theorem lq_callCI {y : MethodName} {cc2 : ByteArray} {n2 k2 mc ms idx q : Nat} {X : va_W} {e0 : va_E} {S : Type} {post : S → Prop} {blk : S → va_W} (C : lq_B p s m c args cc own nL D cy) (hM : ti_Kc l y cc2 n2 k2 mc ms D cy q H.size e0 post blk) (hml : Cond.methodLink own idx y ∈ lw_g) (hy : y.name = "<init>") (hm : Cond.instanceMethod y ∈ lw_g) (hi : Cond.initialized y.cls ∈ lw_g) (hc : Cond.code y cc2 n2 none ∈ lw_g) (hd : ti_Vd y 0)
    (hP : va_P D vwCl (X ++ [(q, e0)]) H) (hD : va_D As (X ++ [(q, e0)])) (hS : va_S As H0 H locs) (hA : ∀ q, H0.size ≤ q → As q) (hsz : ls.size = nL) (hrs : (rest.map fun v => v.category).sum ≤ 8) (hR : k2 + 1 ≤ R.frames ∧ 8 + (n2 + 11) + 60 * k2 ≤ R.locals) (k3 n3 : Nat) (hcells : cells + mc ≤ k3) (hslots : slots + ms ≤ n3) (hR2 : k3 ≤ R.cells ∧ n3 ≤ R.slots) (hdg : decode cc pc = .ok (.invokespecial idx, 3))
    (kk : ∀ (u : S) (H1 : Heap) (locs1 : List Loc), post u → va_P D vwCl (X ++ blk u) H1 → va_D As (X ++ blk u) → va_S As H0 H1 locs1 → W p l e R s m args below meth c H1 locs1 k3 n3 Q (F0 m (pc + 3) ls rest)) : W p l e R s m args below meth c H locs cells slots Q (F0 m pc ls (.ref q :: rest)) :=
  lq_callCx (n2 := n2) (k2 := k2) C hM (fun hp => va_runI (As := []) (rest := rest) ⟨C.1, C.2.1, C.2.2.2.2.2.1, C.2.2.2.1, C.2.2.1⟩ hM (cwI 0 C.2.2.1 (lw_g_good (fun w hw => (List.mem_cons.mp hw).elim (fun h => h ▸ hc) (fun h => h))) rfl rfl rfl (C.2.2.1 _ hi) (C.2.2.1 _ hml) (C.2.2.1 _ hm) hy hd hR) hp rfl rfl hsz rfl (lv_room hrs) hdg ⟨Nat.le_trans hcells hR2.1, Nat.le_trans hslots hR2.2⟩) hP hD hS hA k3 n3 hcells hslots kk
end
def lq_F (s : State) : Nat → Prop := fun q => s.heap.size ≤ q
/-- the two worlds: new cells, apart -/
def lq_A (s : State) (A1 A2 : Nat → Nat → Nat) : Prop := ti_inj ti_LT A1 ∧ ti_inj ti_LM A2 ∧ (∀ q, ti_As ti_LT A1 q → lq_F s q) ∧ (∀ q, ti_As ti_LM A2 q → lq_F s q) ∧ ∀ q, ti_As ti_LT A1 q → ti_As ti_LM A2 q → False
def lq_O (s : State) (D : va_G) (cy : Nat → ClassId) (A1 A2 : Nat → Nat → Nat) (q3 : Nat) (H : Heap) : Prop := lq_F s q3 ∧ ¬ ti_As ti_LT A1 q3 ∧ ¬ ti_As ti_LM A2 q3 ∧ ∃ f : Nat → Int64, va_P D vwCl [(q3, .inl (cy 2, 1, .inr (.inl f)))] H
theorem lq_O.kept {s : State} {D : va_G} {cy : Nat → ClassId} {A1 A2 : Nat → Nat → Nat} {q3 : Nat} {H H1 : Heap} (h : lq_O s D cy A1 A2 q3 H) (hk : q3 < H.size → H1[q3]? = H[q3]?) : lq_O s D cy A1 A2 q3 H1 := by
  obtain ⟨h1, h2, h3, f, hf⟩ := h
  refine ⟨h1, h2, h3, f, hf.kept (fun k q hq => ?_)⟩
  match k, hq with
  | 0, hq => cases hq; exact hk ((hf 0 _ rfl).lt)
  | k + 1, hq => simp at hq
def lq_H (s : State) (D : va_G) (cy : Nat → ClassId) (A1 A2 : Nat → Nat → Nat) (q3 : Nat) (M1 M2 : ti_M) (H : Heap) (locs : List Loc) : Prop := va_P D vwCl (ti_W ti_LT A1 cy M1) H ∧ va_P D vwCl (ti_W ti_LM A2 cy M2) H ∧ va_S (lq_F s) s.heap H locs ∧ lq_O s D cy A1 A2 q3 H
theorem va_P_l {D : va_G} {cl : List vw_C} {a b : va_W} {H : Heap} (h : va_P D cl (a ++ b) H) : va_P D cl a H := fun k q hk => h k q (by rw [List.getElem?_append_left (List.getElem?_eq_some_iff.mp hk).1]; exact hk)
theorem va_P_r {D : va_G} {cl : List vw_C} {a b : va_W} {H : Heap} (h : va_P D cl (a ++ b) H) : va_P D cl b H := fun k q hk => h (a.length + k) q (by rw [List.getElem?_append_right (Nat.le_add_right _ _), Nat.add_sub_cancel_left]; exact hk)
theorem va_D_l {A : Nat → Prop} {a b : va_W} (h : va_D A (a ++ b)) : va_D A a := by
  have e : ∀ (k : Nat) (q : Nat × va_E), a[k]? = some q → (a ++ b)[k]? = some q := fun k q hk => by rw [List.getElem?_append_left (List.getElem?_eq_some_iff.mp hk).1]; exact hk
  exact ⟨fun i j p q hi hj => h.1 i j p q (e i p hi) (e j q hj), fun k q hk => h.2 k q (e k q hk)⟩
theorem va_D_r {A : Nat → Prop} {a b : va_W} (h : va_D A (a ++ b)) : va_D A b := by
  have e : ∀ (k : Nat) (q : Nat × va_E), b[k]? = some q → (a ++ b)[a.length + k]? = some q := fun k q hk => by rw [List.getElem?_append_right (Nat.le_add_right _ _), Nat.add_sub_cancel_left]; exact hk
  exact ⟨fun i j p q hi hj hpq => Nat.add_left_cancel (h.1 _ _ p q (e i p hi) (e j q hj) hpq), fun k q hk => h.2 _ q (e k q hk)⟩
theorem va_D_x {A : Nat → Prop} {a b : va_W} (h : va_D A (a ++ b)) {i j : Nat} {p q : Nat × va_E} (hi : a[i]? = some p) (hj : b[j]? = some q) : p.1 ≠ q.1 := by
  intro e
  have hl := (List.getElem?_eq_some_iff.mp hi).1
  have := h.1 i (a.length + j) p q (by rw [List.getElem?_append_left hl]; exact hi) (by rw [List.getElem?_append_right (Nat.le_add_right _ _), Nat.add_sub_cancel_left]; exact hj) e
  omega
/-- the worlds out of one list -/
theorem lq_mk {s : State} {D : va_G} {cy : Nat → ClassId} {A1 A2 : Nat → Nat → Nat} {q3 : Nat} {M1 M2 : ti_M} {f : Nat → Int64} {H : Heap} {locs : List Loc} (hP : va_P D vwCl ((ti_W ti_LT A1 cy M1 ++ ti_W ti_LM A2 cy M2) ++ [(q3, .inl (cy 2, 1, .inr (.inl f)))]) H) (hD : va_D (lq_F s) ((ti_W ti_LT A1 cy M1 ++ ti_W ti_LM A2 cy M2) ++ [(q3, .inl (cy 2, 1, .inr (.inl f)))])) (hS : va_S (lq_F s) s.heap H locs) : lq_A s A1 A2 ∧ lq_H s D cy A1 A2 q3 M1 M2 H locs := by
  have hP1 := va_P_l hP
  have hD1 := va_D_l hD
  have hD3 := va_D_r hD
  refine ⟨⟨ti_injD (va_D_l hD1), ti_injD (va_D_r hD1), ti_AsD (va_D_l hD1), ti_AsD (va_D_r hD1), ?_⟩, va_P_l hP1, va_P_r hP1, hS, hD3.2 0 _ rfl, ?_, ?_, f, va_P_r hP⟩
  · rintro q ⟨r, hr, rfl⟩ ⟨r2, hr2, e⟩
    obtain ⟨i, hi⟩ := List.getElem?_of_mem hr
    obtain ⟨j, hj⟩ := List.getElem?_of_mem hr2
    exact va_D_x hD1 (ti_W_at hi) (ti_W_at hj) e.symm
  · rintro ⟨r, hr, e⟩
    obtain ⟨i, hi⟩ := List.getElem?_of_mem hr
    have h0 := ti_W_at (A := A1) (cy := cy) (M := M1) hi
    exact va_D_x hD (i := i) (j := 0) (by rw [List.getElem?_append_left (List.getElem?_eq_some_iff.mp h0).1]; exact h0) rfl e
  · rintro ⟨r, hr, e⟩
    obtain ⟨i, hi⟩ := List.getElem?_of_mem hr
    have h0 := ti_W_at (A := A2) (cy := cy) (M := M2) hi
    exact va_D_x hD (i := (ti_W ti_LT A1 cy M1).length + i) (j := 0) (by rw [List.getElem?_append_right (Nat.le_add_right _ _), Nat.add_sub_cancel_left]; exact h0) rfl e
section
variable {p : Program} {l : Launch} {e : Env} {R : Room} {s : State} {m : MethodId} {args : Array Value} {below : List Frame} {meth : Method} {c : Code} {H : Heap} {locs : List Loc} {cells slots : Nat} {Q : State → Prop} {pc : Nat} {ls : Array Slot} {rest : List Value} {cc : ByteArray} {own : String} {nL : Nat} {D : va_G} {cy : Nat → ClassId} {A1 A2 : Nat → Nat → Nat} {q3 : Nat} {M1 M2 : ti_M}
theorem lq_callTi {y : MethodName} {cc2 : ByteArray} {n2 k2 idx : Nat} {ret : Option FieldType} {av st : List Value} {post : Int32 → ti_M → Prop} {T : u_T} {N : Nat} (C : lq_B p s m c args cc own nL D cy) (hA : lq_A s A1 A2) (hw : lq_H s D cy A1 A2 q3 M1 M2 H locs)
    (hM : ti_Ki l y cc2 n2 ret k2 ti_LT D A1 cy M1 (.ref (A1 0 0) :: av) post) (hV : ti_V own idx y cc2 n2 ret) (hd : ti_Vd y av.length) (hcl : vwCl[9]? = some (y.cls, T, N)) (hst : st = av.reverse ++ .ref (A1 0 0) :: rest) (hsz : ls.size = nL) (hrs : (rest.map fun v => v.category).sum ≤ 8) (hR : k2 + 1 ≤ R.frames ∧ 8 + (n2 + 11) + 60 * k2 ≤ R.locals) (hcs : cells ≤ R.cells ∧ slots ≤ R.slots) (hdg : decode cc pc = .ok (.invokevirtual idx, 3))
    (kk : ∀ (r : Int32) (M3 : ti_M) (H1 : Heap) (locs1 : List Loc), post r M3 → lq_H s D cy A1 A2 q3 M3 M2 H1 locs1 → W p l e R s m args below meth c H1 locs1 cells slots Q (F0 m (pc + 3) ls (.int r :: rest))) : W p l e R s m args below meth c H locs cells slots Q (F0 m pc ls st) := by
  have C1 : ti_C p s m c args cc own nL D cy ti_LT A1 := ⟨C.1, C.2.1, C.2.2.1, C.2.2.2.1, C.2.2.2.2.1, C.2.2.2.2.2.1, hA.1, ti_LT_nd⟩
  have hw1 : ti_H ti_LT D A1 cy H M1 H [] := ⟨hw.1, va_S.rf⟩
  subst hst
  refine va_calli (va_runV (As := av) (rest := rest) ⟨C.1, C.2.1, C.2.2.2.2.2.1, C.2.2.2.1, C.2.2.1⟩ hM (ti_cwV C1 hV hd hR) ⟨ti_blind, ti_recv C1 hw1 ob_0 (by decide) hcl, ti_pre C1 hw1⟩ rfl rfl hsz rfl (lv_room hrs) hdg ⟨hcs.1, hcs.2⟩) hw.2.2.1 (fun q _ h => hA.2.2.1 q h) (fun q h => hA.2.2.1 q h) ?_
  intro r u t H1 locs1 ht hvm hpo hB hz hk hS
  have K2 := hw.2.1.kept (H1 := H1) (fun k q hq => by
    have hq2 := (ti_W_D hA.2.1 cy M2).2 k q hq
    exact hk q.1 ((hw.2.1 k q hq).lt) (fun h => hA.2.2.2.2 q.1 h hq2))
  exact kk r u H1 locs1 hpo ⟨by rw [← ht]; exact hB, K2, hS, hw.2.2.2.kept (fun h9 => hk q3 h9 hw.2.2.2.2.1)⟩
theorem lq_callTl {y : MethodName} {cc2 : ByteArray} {n2 k2 idx : Nat} {ret : Option FieldType} {av st : List Value} {post : Int64 → ti_M → Prop} {T : u_T} {N : Nat} (C : lq_B p s m c args cc own nL D cy) (hA : lq_A s A1 A2) (hw : lq_H s D cy A1 A2 q3 M1 M2 H locs)
    (hM : ti_Kl l y cc2 n2 ret k2 ti_LT D A1 cy M1 (.ref (A1 0 0) :: av) post) (hV : ti_V own idx y cc2 n2 ret) (hd : ti_Vd y av.length) (hcl : vwCl[9]? = some (y.cls, T, N)) (hst : st = av.reverse ++ .ref (A1 0 0) :: rest) (hsz : ls.size = nL) (hrs : (rest.map fun v => v.category).sum ≤ 8) (hR : k2 + 1 ≤ R.frames ∧ 8 + (n2 + 11) + 60 * k2 ≤ R.locals) (hcs : cells ≤ R.cells ∧ slots ≤ R.slots) (hdg : decode cc pc = .ok (.invokevirtual idx, 3))
    (kk : ∀ (r : Int64) (M3 : ti_M) (H1 : Heap) (locs1 : List Loc), post r M3 → lq_H s D cy A1 A2 q3 M3 M2 H1 locs1 → W p l e R s m args below meth c H1 locs1 cells slots Q (F0 m (pc + 3) ls (.long r :: rest))) : W p l e R s m args below meth c H locs cells slots Q (F0 m pc ls st) := by
  have C1 : ti_C p s m c args cc own nL D cy ti_LT A1 := ⟨C.1, C.2.1, C.2.2.1, C.2.2.2.1, C.2.2.2.2.1, C.2.2.2.2.2.1, hA.1, ti_LT_nd⟩
  have hw1 : ti_H ti_LT D A1 cy H M1 H [] := ⟨hw.1, va_S.rf⟩
  subst hst
  refine va_calll (va_runV (As := av) (rest := rest) ⟨C.1, C.2.1, C.2.2.2.2.2.1, C.2.2.2.1, C.2.2.1⟩ hM (ti_cwV C1 hV hd hR) ⟨ti_blind, ti_recv C1 hw1 ob_0 (by decide) hcl, ti_pre C1 hw1⟩ rfl rfl hsz rfl (lv_room hrs) hdg ⟨hcs.1, hcs.2⟩) hw.2.2.1 (fun q _ h => hA.2.2.1 q h) (fun q h => hA.2.2.1 q h) ?_
  intro r u t H1 locs1 ht hvm hpo hB hz hk hS
  have K2 := hw.2.1.kept (H1 := H1) (fun k q hq => by
    have hq2 := (ti_W_D hA.2.1 cy M2).2 k q hq
    exact hk q.1 ((hw.2.1 k q hq).lt) (fun h => hA.2.2.2.2 q.1 h hq2))
  exact kk r u H1 locs1 hpo ⟨by rw [← ht]; exact hB, K2, hS, hw.2.2.2.kept (fun h9 => hk q3 h9 hw.2.2.2.2.1)⟩
theorem lq_callMi {y : MethodName} {cc2 : ByteArray} {n2 k2 idx : Nat} {ret : Option FieldType} {av st : List Value} {post : Int32 → ti_M → Prop} {T : u_T} {N : Nat} (C : lq_B p s m c args cc own nL D cy) (hA : lq_A s A1 A2) (hw : lq_H s D cy A1 A2 q3 M1 M2 H locs)
    (hM : ti_Ki l y cc2 n2 ret k2 ti_LM D A2 cy M2 (.ref (A2 60 0) :: av) post) (hV : ti_V own idx y cc2 n2 ret) (hd : ti_Vd y av.length) (hcl : vwCl[10]? = some (y.cls, T, N)) (hst : st = av.reverse ++ .ref (A2 60 0) :: rest) (hsz : ls.size = nL) (hrs : (rest.map fun v => v.category).sum ≤ 8) (hR : k2 + 1 ≤ R.frames ∧ 8 + (n2 + 11) + 60 * k2 ≤ R.locals) (hcs : cells ≤ R.cells ∧ slots ≤ R.slots) (hdg : decode cc pc = .ok (.invokevirtual idx, 3))
    (kk : ∀ (r : Int32) (M3 : ti_M) (H1 : Heap) (locs1 : List Loc), post r M3 → lq_H s D cy A1 A2 q3 M1 M3 H1 locs1 → W p l e R s m args below meth c H1 locs1 cells slots Q (F0 m (pc + 3) ls (.int r :: rest))) : W p l e R s m args below meth c H locs cells slots Q (F0 m pc ls st) := by
  have C1 : ti_C p s m c args cc own nL D cy ti_LM A2 := ⟨C.1, C.2.1, C.2.2.1, C.2.2.2.1, C.2.2.2.2.1, C.2.2.2.2.2.1, hA.2.1, ti_LM_nd⟩
  have hw1 : ti_H ti_LM D A2 cy H M2 H [] := ⟨hw.2.1, va_S.rf⟩
  subst hst
  refine va_calli (va_runV (As := av) (rest := rest) ⟨C.1, C.2.1, C.2.2.2.2.2.1, C.2.2.2.1, C.2.2.1⟩ hM (ti_cwV C1 hV hd hR) ⟨ti_blind, ti_recv C1 hw1 ob_60 (by decide) hcl, ti_pre C1 hw1⟩ rfl rfl hsz rfl (lv_room hrs) hdg ⟨hcs.1, hcs.2⟩) hw.2.2.1 (fun q _ h => hA.2.2.2.1 q h) (fun q h => hA.2.2.2.1 q h) ?_
  intro r u t H1 locs1 ht hvm hpo hB hz hk hS
  have K2 := hw.1.kept (H1 := H1) (fun k q hq => by
    have hq2 := (ti_W_D hA.1 cy M1).2 k q hq
    exact hk q.1 ((hw.1 k q hq).lt) (fun h => hA.2.2.2.2 q.1 hq2 h))
  exact kk r u H1 locs1 hpo ⟨K2, by rw [← ht]; exact hB, hS, hw.2.2.2.kept (fun h9 => hk q3 h9 hw.2.2.2.2.2.1)⟩
theorem lq_callMl {y : MethodName} {cc2 : ByteArray} {n2 k2 idx : Nat} {ret : Option FieldType} {av st : List Value} {post : Int64 → ti_M → Prop} {T : u_T} {N : Nat} (C : lq_B p s m c args cc own nL D cy) (hA : lq_A s A1 A2) (hw : lq_H s D cy A1 A2 q3 M1 M2 H locs)
    (hM : ti_Kl l y cc2 n2 ret k2 ti_LM D A2 cy M2 (.ref (A2 60 0) :: av) post) (hV : ti_V own idx y cc2 n2 ret) (hd : ti_Vd y av.length) (hcl : vwCl[10]? = some (y.cls, T, N)) (hst : st = av.reverse ++ .ref (A2 60 0) :: rest) (hsz : ls.size = nL) (hrs : (rest.map fun v => v.category).sum ≤ 8) (hR : k2 + 1 ≤ R.frames ∧ 8 + (n2 + 11) + 60 * k2 ≤ R.locals) (hcs : cells ≤ R.cells ∧ slots ≤ R.slots) (hdg : decode cc pc = .ok (.invokevirtual idx, 3))
    (kk : ∀ (r : Int64) (M3 : ti_M) (H1 : Heap) (locs1 : List Loc), post r M3 → lq_H s D cy A1 A2 q3 M1 M3 H1 locs1 → W p l e R s m args below meth c H1 locs1 cells slots Q (F0 m (pc + 3) ls (.long r :: rest))) : W p l e R s m args below meth c H locs cells slots Q (F0 m pc ls st) := by
  have C1 : ti_C p s m c args cc own nL D cy ti_LM A2 := ⟨C.1, C.2.1, C.2.2.1, C.2.2.2.1, C.2.2.2.2.1, C.2.2.2.2.2.1, hA.2.1, ti_LM_nd⟩
  have hw1 : ti_H ti_LM D A2 cy H M2 H [] := ⟨hw.2.1, va_S.rf⟩
  subst hst
  refine va_calll (va_runV (As := av) (rest := rest) ⟨C.1, C.2.1, C.2.2.2.2.2.1, C.2.2.2.1, C.2.2.1⟩ hM (ti_cwV C1 hV hd hR) ⟨ti_blind, ti_recv C1 hw1 ob_60 (by decide) hcl, ti_pre C1 hw1⟩ rfl rfl hsz rfl (lv_room hrs) hdg ⟨hcs.1, hcs.2⟩) hw.2.2.1 (fun q _ h => hA.2.2.2.1 q h) (fun q h => hA.2.2.2.1 q h) ?_
  intro r u t H1 locs1 ht hvm hpo hB hz hk hS
  have K2 := hw.1.kept (H1 := H1) (fun k q hq => by
    have hq2 := (ti_W_D hA.1 cy M1).2 k q hq
    exact hk q.1 ((hw.1 k q hq).lt) (fun h => hA.2.2.2.2 q.1 hq2 h))
  exact kk r u H1 locs1 hpo ⟨K2, by rw [← ht]; exact hB, hS, hw.2.2.2.kept (fun h9 => hk q3 h9 hw.2.2.2.2.2.1)⟩
theorem lq_callTiE {y : MethodName} {cc2 : ByteArray} {n2 k2 idx : Nat} {ret : Option FieldType} {av st : List Value} {post : Int32 → ti_M → Prop} {T : u_T} {N : Nat} (C : lq_B p s m c args cc own nL D cy) (hA : lq_A s A1 A2) (hE : tx_E (lq_F s) s s.heap) (hw : lq_H s D cy A1 A2 q3 M1 M2 H locs)
    (hM : ti_KiE l y cc2 n2 ret k2 ti_LT D A1 cy M1 (.ref (A1 0 0) :: av) post) (hV : ti_V own idx y cc2 n2 ret) (hd : ti_Vd y av.length) (hcl : vwCl[9]? = some (y.cls, T, N)) (hst : st = av.reverse ++ .ref (A1 0 0) :: rest) (hsz : ls.size = nL) (hrs : (rest.map fun v => v.category).sum ≤ 8) (hR : k2 + 1 ≤ R.frames ∧ 8 + (n2 + 11) + 60 * k2 ≤ R.locals) (hcs : cells ≤ R.cells ∧ slots ≤ R.slots) (hdg : decode cc pc = .ok (.invokevirtual idx, 3))
    (kk : ∀ (r : Int32) (M3 : ti_M) (H1 : Heap) (locs1 : List Loc), post r M3 → lq_H s D cy A1 A2 q3 M3 M2 H1 locs1 → W p l e R s m args below meth c H1 locs1 cells slots Q (F0 m (pc + 3) ls (.int r :: rest))) : W p l e R s m args below meth c H locs cells slots Q (F0 m pc ls st) := by
  have C1 : ti_C p s m c args cc own nL D cy ti_LT A1 := ⟨C.1, C.2.1, C.2.2.1, C.2.2.2.1, C.2.2.2.2.1, C.2.2.2.2.2.1, hA.1, ti_LT_nd⟩
  have hw1 : ti_H ti_LT D A1 cy H M1 H [] := ⟨hw.1, va_S.rf⟩
  subst hst
  refine va_calli (va_runV (As := av) (rest := rest) ⟨C.1, C.2.1, C.2.2.2.2.2.1, C.2.2.2.1, C.2.2.1⟩ hM (ti_cwV C1 hV hd hR) ⟨ti_blindE, ti_recv C1 hw1 ob_0 (by decide) hcl, ti_preE C1 ((hE.kept hw.2.2.1.2.1).narrow (fun q h => hA.2.2.1 q h)) hw1⟩ rfl rfl hsz rfl (lv_room hrs) hdg ⟨hcs.1, hcs.2⟩) hw.2.2.1 (fun q _ h => hA.2.2.1 q h) (fun q h => hA.2.2.1 q h) ?_
  intro r u t H1 locs1 ht hvm hpo hB hz hk hS
  have K2 := hw.2.1.kept (H1 := H1) (fun k q hq => by
    have hq2 := (ti_W_D hA.2.1 cy M2).2 k q hq
    exact hk q.1 ((hw.2.1 k q hq).lt) (fun h => hA.2.2.2.2 q.1 h hq2))
  exact kk r u H1 locs1 hpo ⟨by rw [← ht]; exact hB, K2, hS, hw.2.2.2.kept (fun h9 => hk q3 h9 hw.2.2.2.2.1)⟩
theorem lq_callMiE {y : MethodName} {cc2 : ByteArray} {n2 k2 idx : Nat} {ret : Option FieldType} {av st : List Value} {post : Int32 → ti_M → Prop} {T : u_T} {N : Nat} (C : lq_B p s m c args cc own nL D cy) (hA : lq_A s A1 A2) (hE : tx_E (lq_F s) s s.heap) (hw : lq_H s D cy A1 A2 q3 M1 M2 H locs)
    (hM : ti_KiE l y cc2 n2 ret k2 ti_LM D A2 cy M2 (.ref (A2 60 0) :: av) post) (hV : ti_V own idx y cc2 n2 ret) (hd : ti_Vd y av.length) (hcl : vwCl[10]? = some (y.cls, T, N)) (hst : st = av.reverse ++ .ref (A2 60 0) :: rest) (hsz : ls.size = nL) (hrs : (rest.map fun v => v.category).sum ≤ 8) (hR : k2 + 1 ≤ R.frames ∧ 8 + (n2 + 11) + 60 * k2 ≤ R.locals) (hcs : cells ≤ R.cells ∧ slots ≤ R.slots) (hdg : decode cc pc = .ok (.invokevirtual idx, 3))
    (kk : ∀ (r : Int32) (M3 : ti_M) (H1 : Heap) (locs1 : List Loc), post r M3 → lq_H s D cy A1 A2 q3 M1 M3 H1 locs1 → W p l e R s m args below meth c H1 locs1 cells slots Q (F0 m (pc + 3) ls (.int r :: rest))) : W p l e R s m args below meth c H locs cells slots Q (F0 m pc ls st) := by
  have C1 : ti_C p s m c args cc own nL D cy ti_LM A2 := ⟨C.1, C.2.1, C.2.2.1, C.2.2.2.1, C.2.2.2.2.1, C.2.2.2.2.2.1, hA.2.1, ti_LM_nd⟩
  have hw1 : ti_H ti_LM D A2 cy H M2 H [] := ⟨hw.2.1, va_S.rf⟩
  subst hst
  refine va_calli (va_runV (As := av) (rest := rest) ⟨C.1, C.2.1, C.2.2.2.2.2.1, C.2.2.2.1, C.2.2.1⟩ hM (ti_cwV C1 hV hd hR) ⟨ti_blindE, ti_recv C1 hw1 ob_60 (by decide) hcl, ti_preE C1 ((hE.kept hw.2.2.1.2.1).narrow (fun q h => hA.2.2.2.1 q h)) hw1⟩ rfl rfl hsz rfl (lv_room hrs) hdg ⟨hcs.1, hcs.2⟩) hw.2.2.1 (fun q _ h => hA.2.2.2.1 q h) (fun q h => hA.2.2.2.1 q h) ?_
  intro r u t H1 locs1 ht hvm hpo hB hz hk hS
  have K2 := hw.1.kept (H1 := H1) (fun k q hq => by
    have hq2 := (ti_W_D hA.1 cy M1).2 k q hq
    exact hk q.1 ((hw.1 k q hq).lt) (fun h => hA.2.2.2.2 q.1 hq2 h))
  exact kk r u H1 locs1 hpo ⟨K2, by rw [← ht]; exact hB, hS, hw.2.2.2.kept (fun h9 => hk q3 h9 hw.2.2.2.2.2.1)⟩
end
theorem lq_in {iv k : Int32} {L : Nat} (hi : 0 ≤ iv.toInt ∧ iv.toInt + 6 ≤ L) (hL : L ≤ 3072) (h0 : 0 ≤ k.toInt) (h5 : k.toInt ≤ 5) : vp_in (iv + k) L := by
  have t : (iv + k).toInt = iv.toInt + k.toInt := i_add rfl rfl rfl (by omega) (by omega)
  exact vp_in_iff.mpr (by omega)
theorem lq_in0 {iv : Int32} {L : Nat} (hi : 0 ≤ iv.toInt ∧ iv.toInt + 6 ≤ L) : vp_in iv L := vp_in_iff.mpr (by omega)
/-- class and reference between two calls of the script -/
def lq_I (M1 M2 : ti_M) : Prop := ∃ (Tc : gC) (Tm : gM), cF Tc M1 ∧ mF Tm M2 ∧ tI M1 2 1 = tI M2 60 2 ∧ (∀ i : Nat, (i : Int) < (tI M1 2 1).toInt → (Tc.1 i &&& 255).toInt = (Tm.1 i).toInt) ∧ (tI M1 1 4).toInt = Tm.2.1.toInt ∧ (tI M1 1 5).toInt = Tm.2.2.1.toInt ∧ Tc.2.1.toInt = Tm.2.2.2.1.toInt ∧ Tc.2.2.1.toInt = Tm.2.2.2.2.1.toInt ∧ ∃ rg : Nat → Int, tdC M1 rg ∧ tdR M2 rg ∧ lE M1 M2
theorem lq_fd {M1 M2 N1 N2 : ti_M} {Tc : gC} {Tm : gM} {r1 r2 z1 z2 z3 z4 z5 : Int32} (h1 : cF Tc M1) (h2 : mF Tm M2) (h : tI M1 2 1 = tI M2 60 2) (hB : ∀ i : Nat, (i : Int) < (tI M1 2 1).toInt → (Tc.1 i &&& 255).toInt = (Tm.1 i).toInt) (hR : (tI M1 1 4).toInt = Tm.2.1.toInt ∧ (tI M1 1 5).toInt = Tm.2.2.1.toInt) (hS : Tc.2.1.toInt = Tm.2.2.2.1.toInt ∧ Tc.2.2.1.toInt = Tm.2.2.2.2.1.toInt) (h5 : ∀ k : Nat, tI N1 50 k = tI M1 50 k) {rg : Nat → Int} (hd1 : tdC N1 rg) (hd2 : tdR N2 rg) (hle : lE N1 N2)
    (p1 : (680 < (tI M1 2 1).toInt ∧ r1.toInt = -1 ∧ cF Tc N1 ∧ tI N1 2 1 = tI M1 2 1 ∧ (∀ k : Nat, tI N1 1 k = tI M1 1 k)) ∨ ((tI M1 2 1).toInt ≤ 680 ∧ r1.toInt = (tI M1 2 1).toInt + 20 ∧ cF (cG N1) N1 ∧ (tI N1 2 1).toInt = (tI M1 2 1).toInt + 20 ∧ (∀ i : Nat, (i : Int) < (tI M1 2 1).toInt → tY N1 2 0 i = tY M1 2 0 i) ∧ (∀ j : Nat, j < 20 → (tY N1 2 0 ((tI M1 2 1).toInt.toNat + j) &&& 255).toInt = pp_fb z1 z2 z3 z4 z5 j) ∧ (∀ k : Nat, tI N1 1 k = tI M1 1 k))) (p2 : (680 < (tI M2 60 2).toInt ∧ r2.toInt = -1 ∧ mF (mG N2) N2 ∧ tI N2 60 2 = tI M2 60 2 ∧ tY N2 60 1 = tY M2 60 1 ∧ tI N2 60 27 = tI M2 60 27 ∧ tI N2 60 28 = tI M2 60 28 ∧ tI N2 60 58 = tI M2 60 58 ∧ tI N2 60 59 = tI M2 60 59) ∨ ((tI M2 60 2).toInt ≤ 680 ∧ r2.toInt = (tI M2 60 2).toInt + 20 ∧ mF (mG N2) N2 ∧ (tI N2 60 2).toInt = (tI M2 60 2).toInt + 20 ∧ (∀ i : Nat, (i : Int) < (tI M2 60 2).toInt → tY N2 60 1 i = tY M2 60 1 i) ∧ (∀ j : Nat, j < 20 → (tY N2 60 1 ((tI M2 60 2).toInt.toNat + j)).toInt = pp_fb z1 z2 z3 z4 z5 j) ∧ tI N2 60 27 = tI M2 60 27 ∧ tI N2 60 28 = tI M2 60 28 ∧ tI N2 60 58 = tI M2 60 58 ∧ tI N2 60 59 = tI M2 60 59)) : r1.toInt = r2.toInt ∧ lq_I N1 N2 := by
  have eT : tY M1 2 0 = Tc.1 := congrArg (fun t => t.1) h1.1.2.2
  have eT5 : tI M1 50 5 = Tc.2.1 := congrArg (fun t => t.2.1) h1.1.2.2
  have eT6 : tI M1 50 6 = Tc.2.2.1 := congrArg (fun t => t.2.2.1) h1.1.2.2
  have eM : tY M2 60 1 = Tm.1 := congrArg (fun t => t.1) h2.1.2.2.2
  have eM7 : tI M2 60 27 = Tm.2.1 := congrArg (fun t => t.2.1) h2.1.2.2.2
  have eM8 : tI M2 60 28 = Tm.2.2.1 := congrArg (fun t => t.2.2.1) h2.1.2.2.2
  have eS5 : tI M2 60 58 = Tm.2.2.2.1 := congrArg (fun t => t.2.2.2.1) h2.1.2.2.2
  have eS6 : tI M2 60 59 = Tm.2.2.2.2.1 := congrArg (fun t => t.2.2.2.2.1) h2.1.2.2.2
  have b1 : 0 ≤ (tI M1 2 1).toInt ∧ (tI M1 2 1).toInt ≤ 700 := cI_rd (x := tI M1 2 1) (k := 1) h1.1 ob_2.1 rfl
  rcases p1 with ⟨a1, a2, a3, a4, a9⟩ | ⟨a1, a2, a3, a4, a5, a6, a9⟩ <;> rcases p2 with ⟨c1, c2, c3, c4, c5, c7, c8, c9, c10⟩ | ⟨c1, c2, c3, c4, c5, c6, c7, c8, c9, c10⟩
  · refine ⟨by omega, Tc, mG N2, a3, c3, a4.trans (h.trans c4.symm), fun i hi => ?_, (congrArg Int32.toInt (a9 4)).trans (hR.1.trans (congrArg Int32.toInt (eM7.symm.trans c7.symm))), (congrArg Int32.toInt (a9 5)).trans (hR.2.trans (congrArg Int32.toInt (eM8.symm.trans c8.symm))), hS.1.trans (congrArg Int32.toInt (eS5.symm.trans c9.symm)), hS.2.trans (congrArg Int32.toInt (eS6.symm.trans c10.symm)), rg, hd1, hd2, hle⟩
    rw [a4] at hi
    show _ = (tY N2 60 1 i).toInt
    rw [c5, eM]; exact hB i hi
  · rw [h] at a1; omega
  · rw [h] at a1; omega
  · rw [h] at a2 a4 a5 a6 b1
    refine ⟨by omega, cG N1, mG N2, a3, c3, Int32.toInt_inj.mp (by omega), fun i hi => ?_, (congrArg Int32.toInt (a9 4)).trans (hR.1.trans (congrArg Int32.toInt (eM7.symm.trans c7.symm))), (congrArg Int32.toInt (a9 5)).trans (hR.2.trans (congrArg Int32.toInt (eM8.symm.trans c8.symm))), (congrArg Int32.toInt ((h5 5).trans eT5)).trans (hS.1.trans (congrArg Int32.toInt (eS5.symm.trans c9.symm))), (congrArg Int32.toInt ((h5 6).trans eT6)).trans (hS.2.trans (congrArg Int32.toInt (eS6.symm.trans c10.symm))), rg, hd1, hd2, hle⟩
    show (tY N1 2 0 i &&& 255).toInt = (tY N2 60 1 i).toInt
    by_cases q : (i : Int) < (tI M2 60 2).toInt
    · rw [a5 i q, c5 i q, eT, eM]; exact hB i (by rw [h]; exact q)
    · have e : (tI M2 60 2).toInt.toNat + (i - (tI M2 60 2).toInt.toNat) = i := by omega
      have g1 := a6 (i - (tI M2 60 2).toInt.toNat) (by omega)
      have g2 := c6 (i - (tI M2 60 2).toInt.toNat) (by omega)
      rw [e] at g1 g2
      rw [g1, g2]
theorem td_0 {M1 M2 : ti_M} (a : tT M1 0 1 = some 3) (b : tT M1 0 2 = some 4) (c : tI M1 3 4 = 0) (d : tY M2 60 3 0 = 0) : ∃ rg : Nat → Int, tdC M1 rg ∧ tdR M2 rg := by
  refine ⟨fun k => if k < 100 then 0 else (tI M1 (ti_men 3 (k - 100)) 0).toInt, ⟨3, Or.inl rfl, a, b, by rw [c]; rfl, fun i hi => ?_⟩, by rw [d]; rfl, fun i hi hl => ?_⟩
  · show (if 100 + i < 100 then (0 : Int) else (tI M1 (ti_men 3 (100 + i - 100)) 0).toInt) = _
    rw [if_neg (by omega), Nat.add_sub_cancel_left]
  · exact absurd hl (by show ¬ (i : Int) < (if 7 < 100 then (0 : Int) else _); rw [if_pos (by decide)]; omega)
/-- the class's text, the reference's: what they leave -/
def lT1 (Tc : gC) (nn r : Int32) (rg J K J2 : Nat → Int) (N1 M1 : ti_M) : Prop := ((nn.toInt < 0 ∨ (tI M1 2 1).toInt < nn.toInt) ∧ r.toInt = -2 ∧ N1 = M1) ∨ (¬ (nn.toInt < 0 ∨ (tI M1 2 1).toInt < nn.toInt) ∧ cF (cG N1) N1 ∧ tI N1 2 1 = 0 ∧ r.toInt = pp_an (pp_tx (fun i => (Tc.1 i &&& 255).toInt) nn.toInt.toNat J) ∧ (tI N1 1 4).toInt = (pp_tx (fun i => (Tc.1 i &&& 255).toInt) nn.toInt.toNat J) 4 ∧ (tI N1 1 5).toInt = (pp_tx (fun i => (Tc.1 i &&& 255).toInt) nn.toInt.toNat J) 5 ∧ ((pp_tx (fun i => (Tc.1 i &&& 255).toInt) nn.toInt.toNat J) 4 ≠ 0 → tdC N1 rg ∧ cG N1 = Tc ∧ rR N1 M1 ∧ (∀ (t0 : Nat) (tx0 : Nat → Int), tT M1 0 1 = some t0 → tC t0 tx0 M1 → tC t0 tx0 N1) ∧ ∀ o k : Nat, (o = 0 ∨ 26 < o) → tI N1 o k = tI M1 o k ∧ tY N1 o k = tY M1 o k) ∧ ((pp_tx (fun i => (Tc.1 i &&& 255).toInt) nn.toInt.toNat J) 4 = 0 → tdC N1 (pp_tx (fun i => (Tc.1 i &&& 255).toInt) nn.toInt.toNat J) ∧ ∃ t : Nat, (t = 3 ∨ t = 4) ∧ tC t (tX (pp_tx (fun i => (Tc.1 i &&& 255).toInt) nn.toInt.toNat J) (qq_tx (fun i => (Tc.1 i &&& 255).toInt) nn.toInt.toNat J K)) N1 ∧ tT N1 0 1 = some t ∧ tT N1 27 0 = some t ∧ qC 27 (bq_s0 (tX (pp_tx (fun i => (Tc.1 i &&& 255).toInt) nn.toInt.toNat J) (qq_tx (fun i => (Tc.1 i &&& 255).toInt) nn.toInt.toNat J K)) J2) N1 ∧ tI N1 28 2 = 0 ∧ tI N1 0 7 = 0 ∧ tI N1 50 5 = 0 ∧ tI N1 50 6 = -1))
def lT2 (Tc : gC) (Tm : gM) (nn r : Int32) (J K J2 : Nat → Int) (N2 M2 : ti_M) : Prop := ((nn.toInt < 0 ∨ (tI M2 60 2).toInt < nn.toInt) ∧ r.toInt = -2 ∧ mF Tm N2 ∧ tI N2 60 2 = tI M2 60 2 ∧ ∃ z : Int32, N2 = uI M2 60 0 z) ∨ (¬ (nn.toInt < 0 ∨ (tI M2 60 2).toInt < nn.toInt) ∧ tI N2 60 2 = 0 ∧ mF (mG N2) N2 ∧ r.toInt = pp_an (pp_tx (fun i => (Tc.1 i &&& 255).toInt) nn.toInt.toNat J) ∧ (tI N2 60 27).toInt = (pp_tx (fun i => (Tc.1 i &&& 255).toInt) nn.toInt.toNat J) 4 ∧ (tI N2 60 28).toInt = (pp_tx (fun i => (Tc.1 i &&& 255).toInt) nn.toInt.toNat J) 5 ∧ ((pp_tx (fun i => (Tc.1 i &&& 255).toInt) nn.toInt.toNat J) 4 ≠ 0 → lx N2 M2 ∧ gU N2 M2) ∧ ((pp_tx (fun i => (Tc.1 i &&& 255).toInt) nn.toInt.toNat J) 4 = 0 → tdR N2 (pp_tx (fun i => (Tc.1 i &&& 255).toInt) nn.toInt.toNat J) ∧ tW (tX (pp_tx (fun i => (Tc.1 i &&& 255).toInt) nn.toInt.toNat J) (qq_tx (fun i => (Tc.1 i &&& 255).toInt) nn.toInt.toNat J K)) ∧ tR (tX (pp_tx (fun i => (Tc.1 i &&& 255).toInt) nn.toInt.toNat J) (qq_tx (fun i => (Tc.1 i &&& 255).toInt) nn.toInt.toNat J K)) N2 ∧ qR ((tX (pp_tx (fun i => (Tc.1 i &&& 255).toInt) nn.toInt.toNat J) (qq_tx (fun i => (Tc.1 i &&& 255).toInt) nn.toInt.toNat J K)) 4).toNat 0 (bq_s0 (tX (pp_tx (fun i => (Tc.1 i &&& 255).toInt) nn.toInt.toNat J) (qq_tx (fun i => (Tc.1 i &&& 255).toInt) nn.toInt.toNat J K)) J2) N2 ∧ qV ((tX (pp_tx (fun i => (Tc.1 i &&& 255).toInt) nn.toInt.toNat J) (qq_tx (fun i => (Tc.1 i &&& 255).toInt) nn.toInt.toNat J K)) 4).toNat 0 (bq_s0 (tX (pp_tx (fun i => (Tc.1 i &&& 255).toInt) nn.toInt.toNat J) (qq_tx (fun i => (Tc.1 i &&& 255).toInt) nn.toInt.toNat J K)) J2) N2 ∧ tI N2 60 51 = 0 ∧ tI N2 60 52 = 0 ∧ tI N2 60 53 = tI M2 60 53 ∧ tI N2 60 58 = 0 ∧ tI N2 60 59 = -1))
theorem lq_tJ {M1 N1 : ti_M} {Tc : gC} {nn r : Int32} {rg : Nat → Int} (p : ((nn.toInt < 0 ∨ (tI M1 2 1).toInt < nn.toInt) ∧ r.toInt = -2 ∧ N1 = M1) ∨ (¬ (nn.toInt < 0 ∨ (tI M1 2 1).toInt < nn.toInt) ∧ cF (cG N1) N1 ∧ tI N1 2 1 = 0 ∧ ∃ J K : Nat → Int, r.toInt = pp_an (pp_tx (fun i => (Tc.1 i &&& 255).toInt) nn.toInt.toNat J) ∧ (tI N1 1 4).toInt = (pp_tx (fun i => (Tc.1 i &&& 255).toInt) nn.toInt.toNat J) 4 ∧ (tI N1 1 5).toInt = (pp_tx (fun i => (Tc.1 i &&& 255).toInt) nn.toInt.toNat J) 5 ∧ ((pp_tx (fun i => (Tc.1 i &&& 255).toInt) nn.toInt.toNat J) 4 ≠ 0 → tdC N1 rg ∧ cG N1 = Tc ∧ rR N1 M1 ∧ (∀ (t0 : Nat) (tx0 : Nat → Int), tT M1 0 1 = some t0 → tC t0 tx0 M1 → tC t0 tx0 N1) ∧ ∀ o k : Nat, (o = 0 ∨ 26 < o) → tI N1 o k = tI M1 o k ∧ tY N1 o k = tY M1 o k) ∧ ((pp_tx (fun i => (Tc.1 i &&& 255).toInt) nn.toInt.toNat J) 4 = 0 → tdC N1 (pp_tx (fun i => (Tc.1 i &&& 255).toInt) nn.toInt.toNat J) ∧ ∃ t : Nat, (t = 3 ∨ t = 4) ∧ tC t (tX (pp_tx (fun i => (Tc.1 i &&& 255).toInt) nn.toInt.toNat J) (qq_tx (fun i => (Tc.1 i &&& 255).toInt) nn.toInt.toNat J K)) N1 ∧ tT N1 0 1 = some t ∧ tT N1 27 0 = some t ∧ (∃ rg2 : Nat → Int, qC 27 (bq_s0 (tX (pp_tx (fun i => (Tc.1 i &&& 255).toInt) nn.toInt.toNat J) (qq_tx (fun i => (Tc.1 i &&& 255).toInt) nn.toInt.toNat J K)) rg2) N1) ∧ tI N1 28 2 = 0 ∧ tI N1 0 7 = 0 ∧ tI N1 50 5 = 0 ∧ tI N1 50 6 = -1))) : ∃ J K J2 : Nat → Int, lT1 Tc nn r rg J K J2 N1 M1 := by
  rcases p with p | ⟨a1, a2, a3, J, K, a4, a5, a6, a7, a8⟩
  · exact ⟨fun _ => 0, fun _ => 0, fun _ => 0, Or.inl p⟩
  · by_cases q : (pp_tx (fun i => (Tc.1 i &&& 255).toInt) nn.toInt.toNat J) 4 = 0
    · obtain ⟨b1, t, b2, b3, b4, b5, ⟨rg2, b6⟩, b7⟩ := a8 q
      exact ⟨J, K, rg2, Or.inr ⟨a1, a2, a3, a4, a5, a6, a7, fun _ => ⟨b1, t, b2, b3, b4, b5, b6, b7⟩⟩⟩
    · exact ⟨J, K, fun _ => 0, Or.inr ⟨a1, a2, a3, a4, a5, a6, a7, fun r => absurd r q⟩⟩
theorem lq_tx {M1 M2 N1 N2 : ti_M} {Tc : gC} {Tm : gM} {r1 r2 nn : Int32} {J K J2 : Nat → Int} (h1 : cF Tc M1) (h2 : mF Tm M2) (h : tI M1 2 1 = tI M2 60 2) (hB : ∀ i : Nat, (i : Int) < (tI M1 2 1).toInt → (Tc.1 i &&& 255).toInt = (Tm.1 i).toInt) (hR : (tI M1 1 4).toInt = Tm.2.1.toInt ∧ (tI M1 1 5).toInt = Tm.2.2.1.toInt) (hS : Tc.2.1.toInt = Tm.2.2.2.1.toInt ∧ Tc.2.2.1.toInt = Tm.2.2.2.2.1.toInt) {rg : Nat → Int} (hd1 : tdC M1 rg) (hd2 : tdR M2 rg) (hle : lE M1 M2)
    (p1 : lT1 Tc nn r1 rg J K J2 N1 M1) (p2 : lT2 Tc Tm nn r2 J K J2 N2 M2) : r1.toInt = r2.toInt ∧ lq_I N1 N2 := by
  have eS5 : tI M2 60 58 = Tm.2.2.2.1 := congrArg (fun t => t.2.2.2.1) h2.1.2.2.2
  have eS6 : tI M2 60 59 = Tm.2.2.2.2.1 := congrArg (fun t => t.2.2.2.2.1) h2.1.2.2.2
  unfold lT1 at p1
  unfold lT2 at p2
  rw [h] at p1
  rcases p1 with ⟨a1, a2, a3⟩ | ⟨a1, a2, a3, a4, a5, a6, a7, a8⟩ <;> rcases p2 with ⟨b1, b2, b3, b4, z, b5⟩ | ⟨b1, b2, b3, b4, b5, b6, b7, b8⟩
  · rw [a3]
    exact ⟨a2.trans b2.symm, Tc, Tm, h1, b3, h.trans b4.symm, hB, hR.1, hR.2, hS.1, hS.2, rg, hd1, tdR_lw hd2 (fun _ _ _ => by rw [b5]; exact tY_uIE rfl), lE_0 hle b5⟩
  · exact absurd a1 b1
  · exact absurd b1 a1
  · have T : ∀ i : Nat, (i : Int) < (tI N1 2 1).toInt → ((cG N1).1 i &&& 255).toInt = ((mG N2).1 i).toInt := fun i hi => by
      rw [a3] at hi
      have z0 : (0 : Int32).toInt = 0 := by decide
      omega
    by_cases q : (pp_tx (fun i => (Tc.1 i &&& 255).toInt) nn.toInt.toNat J) 4 = 0
    · obtain ⟨c1, t, c2, c3, c4, c5, c6, c7, c8, c9, c10⟩ := a8 q
      obtain ⟨d1, d2, d3, d4, d5, d6, d7, d8, d9, d10⟩ := b8 q
      obtain ⟨t7, tx7, s7, p7, si7, u7, c7x, hb7⟩ := id hle
      exact ⟨a4.trans b4.symm, cG N1, mG N2, a2, b3, a3.trans b2.symm, T, a5.trans b5.symm, a6.trans b6.symm, by show (tI N1 50 5).toInt = (tI N2 60 58).toInt; rw [c9, d9], by show (tI N1 50 6).toInt = (tI N2 60 59).toInt; rw [c10, d10], _, c1, d1, lE_new c2 c3 c4 c5 c6 c7 c8 d2 d3 d4 d5 d6 d7 (d8.trans hb7.2.2.1.2.2.2.2.2)⟩
    · obtain ⟨c1, c2, c3, c4, c5⟩ := a7 q
      obtain ⟨d1, d2⟩ := b7 q
      exact ⟨a4.trans b4.symm, cG N1, mG N2, a2, b3, a3.trans b2.symm, T, a5.trans b5.symm, a6.trans b6.symm, (congrArg (fun t => Int32.toInt t.2.1) c2).trans (hS.1.trans (congrArg Int32.toInt (eS5.symm.trans (d1.2.2.2.2 58 (by decide)).symm))), (congrArg (fun t => Int32.toInt t.2.2.1) c2).trans (hS.2.trans (congrArg Int32.toInt (eS6.symm.trans (d1.2.2.2.2 59 (by decide)).symm))), rg, c1, tdR_lx hd2 d1, lE_fl hle h2.1 d1 d2 c4 c5 c3⟩
theorem lq_st {M1 M2 N1 N2 : ti_M} {Tc : gC} {Tm : gM} {r1 r2 : Int32} {a1 a2 k : Int} {B1 B2 X1 X2 : Prop} (h1 : cF Tc M1) (h2 : mF Tm M2) (h : tI M1 2 1 = tI M2 60 2) (hB : ∀ i : Nat, (i : Int) < (tI M1 2 1).toInt → (Tc.1 i &&& 255).toInt = (Tm.1 i).toInt) (hR : (tI M1 1 4).toInt = Tm.2.1.toInt ∧ (tI M1 1 5).toInt = Tm.2.2.1.toInt) (hS : Tc.2.1.toInt = Tm.2.2.2.1.toInt ∧ Tc.2.2.1.toInt = Tm.2.2.2.2.1.toInt) {rg : Nat → Int} (hd1 : tdC M1 rg) (hd2 : tdR M2 rg)
    (hb : B1 ↔ B2) (hx : X1 → X2 → lw N2 M2 → a1 = a2 ∧ (tI N1 50 5).toInt = (tI N2 60 58).toInt ∧ (tI N1 50 6).toInt = (tI N2 60 59).toInt ∧ lE N1 N2) (hle : lE M1 M2)
    (p1 : (B1 ∧ r1.toInt = k ∧ N1 = M1) ∨ (¬ B1 ∧ r1.toInt = a1 ∧ cF (cG N1) N1 ∧ tI N1 2 1 = tI M1 2 1 ∧ tl N1 M1 ∧ tY N1 2 0 = tY M1 2 0 ∧ X1))
    (p2 : (B2 ∧ r2.toInt = k ∧ mF Tm N2 ∧ tI N2 60 2 = tI M2 60 2 ∧ lw N2 M2 ∧ qy N2 M2) ∨ (¬ B2 ∧ r2.toInt = a2 ∧ mF (mG N2) N2 ∧ tI N2 60 2 = tI M2 60 2 ∧ lw N2 M2 ∧ tY N2 60 1 = tY M2 60 1 ∧ tI N2 60 27 = tI M2 60 27 ∧ tI N2 60 28 = tI M2 60 28 ∧ X2)) : r1.toInt = r2.toInt ∧ lq_I N1 N2 := by
  have eT : tY M1 2 0 = Tc.1 := congrArg (fun t => t.1) h1.1.2.2
  have eM : tY M2 60 1 = Tm.1 := congrArg (fun t => t.1) h2.1.2.2.2
  have eM7 : tI M2 60 27 = Tm.2.1 := congrArg (fun t => t.2.1) h2.1.2.2.2
  have eM8 : tI M2 60 28 = Tm.2.2.1 := congrArg (fun t => t.2.2.1) h2.1.2.2.2
  rcases p1 with ⟨a, b, rfl⟩ | ⟨a, b, c, d, e, f, g⟩ <;> rcases p2 with ⟨x, y, z, u, v, v2⟩ | ⟨x, y, z, u, v, w, s, t, o⟩
  · exact ⟨b.trans y.symm, Tc, Tm, h1, z, h.trans u.symm, hB, hR.1, hR.2, hS.1, hS.2, rg, hd1, tdR_lw hd2 v, lE_eo hle (q := 2) eo.refl (Or.inl rfl) rfl v2 v⟩
  · exact absurd (hb.mp a) x
  · exact absurd (hb.mpr x) a
  · obtain ⟨q1, q2, q3, q4⟩ := hx g o v
    refine ⟨b.trans (q1.trans y.symm), cG N1, mG N2, c, z, d.trans (h.trans u.symm), fun i hi => ?_, (congrArg Int32.toInt ((e.1 1 4 (by decide) (by decide)))).trans (hR.1.trans (congrArg Int32.toInt (eM7.symm.trans s.symm))), (congrArg Int32.toInt ((e.1 1 5 (by decide) (by decide)))).trans (hR.2.trans (congrArg Int32.toInt (eM8.symm.trans t.symm))), q2, q3, rg, tdC_tl hd1 e, tdR_lw hd2 v, q4⟩
    show (tY N1 2 0 i &&& 255).toInt = (tY N2 60 1 i).toInt
    rw [f, w, eT, eM]
    rw [d] at hi
    exact hB i hi
/-- steps -/
theorem lq_sp {M1 M2 N1 N2 : ti_M} {Tc : gC} {Tm : gM} {r1 r2 : Int32} {a1 a2 k : Int} {P1 P2 Q1 Q2 X Y Y0 : Prop} (h1 : cF Tc M1) (h : tI M1 2 1 = tI M2 60 2) (hB : ∀ i : Nat, (i : Int) < (tI M1 2 1).toInt → (Tc.1 i &&& 255).toInt = (Tm.1 i).toInt) (hR : (tI M1 1 4).toInt = Tm.2.1.toInt ∧ (tI M1 1 5).toInt = Tm.2.2.1.toInt) (hS : Tc.2.1.toInt = Tm.2.2.2.1.toInt ∧ Tc.2.2.1.toInt = Tm.2.2.2.2.1.toInt) {rg : Nat → Int} (hd1 : tdC M1 rg) (hd2 : tdR M2 rg)
    (p1 : (Q1 ∧ r1.toInt = k ∧ N1 = M1) ∨ (P1 ∧ r1.toInt = a1 ∧ cF Tc N1 ∧ kG N1 M1 ∧ X)) (p2 : ((Q2 ∧ r2.toInt = k ∧ Y0) ∨ (P2 ∧ r2.toInt = a2 ∧ Y)) ∧ iR N2 M2 ∧ mF Tm N2 ∧ tI N2 60 2 = tI M2 60 2 ∧ lw N2 M2) (ha : P1 → a1 = a2) (h12 : Q1 → ¬ P2) (h21 : Q2 → ¬ P1) (h0 : iR N2 M2 → Y0 → lE M1 N2) (hx : P1 → kG N1 M1 → iR N2 M2 → X → Y → lE N1 N2) : r1.toInt = r2.toInt ∧ lq_I N1 N2 := by
  obtain ⟨p2, i, f, e, l⟩ := p2
  rcases p1 with ⟨b1, b2, b3⟩ | ⟨b1, b2, b3, b4, b5⟩ <;> rcases p2 with ⟨d1, d2, d3⟩ | ⟨d1, d2, d3⟩
  · rw [b3]
    exact ⟨b2.trans d2.symm, Tc, Tm, h1, f, h.trans e.symm, hB, hR.1, hR.2, hS.1, hS.2, rg, hd1, tdR_lw hd2 l, h0 i d3⟩
  · exact absurd d1 (h12 b1)
  · exact absurd b1 (h21 d1)
  · have e2 := (b4.1 2 1 (by decide)).1
    exact ⟨b2.trans ((ha b1).trans d2.symm), Tc, Tm, b3, f, e2.trans (h.trans e.symm), fun j hj => hB j (by rw [← e2]; exact hj), (congrArg Int32.toInt (b4.1 1 4 (by decide)).1).trans hR.1, (congrArg Int32.toInt (b4.1 1 5 (by decide)).1).trans hR.2, hS.1, hS.2, rg, tdC_tl hd1 (tl_kG b4), tdR_lw hd2 l, hx b1 b4 i b5 d3⟩
/-- observers -/
theorem lq_ob {M1 M2 N1 N2 : ti_M} {Tc : gC} {Tm : gM} {r1 r2 : Int32} {V1 V2 : Int} {Y0 : Prop} (h1 : cF Tc M1) (h : tI M1 2 1 = tI M2 60 2) (hB : ∀ i : Nat, (i : Int) < (tI M1 2 1).toInt → (Tc.1 i &&& 255).toInt = (Tm.1 i).toInt) (hR : (tI M1 1 4).toInt = Tm.2.1.toInt ∧ (tI M1 1 5).toInt = Tm.2.2.1.toInt) (hS : Tc.2.1.toInt = Tm.2.2.2.1.toInt ∧ Tc.2.2.1.toInt = Tm.2.2.2.2.1.toInt) {rg : Nat → Int} (hd1 : tdC M1 rg) (hd2 : tdR M2 rg)
    (p1 : N1 = M1 ∧ r1.toInt = V1) (p2 : r2.toInt = V2 ∧ Y0 ∧ iR N2 M2 ∧ mF Tm N2 ∧ tI N2 60 2 = tI M2 60 2 ∧ lw N2 M2) (hv : V1 = V2) (h0 : iR N2 M2 → Y0 → lE M1 N2) : r1.toInt = r2.toInt ∧ lq_I N1 N2 := by
  obtain ⟨b3, b2⟩ := p1
  obtain ⟨d2, d3, i, f, e, l⟩ := p2
  rw [b3]
  exact ⟨b2.trans (hv.trans d2.symm), Tc, Tm, h1, f, h.trans e.symm, hB, hR.1, hR.2, hS.1, hS.2, rg, hd1, tdR_lw hd2 l, h0 i d3⟩
theorem lq_kp {M1 M2 N1 N2 : ti_M} {Tc : gC} {Tm : gM} {r1 r2 : Int32} {t : Nat} {tx s p si : Nat → Int} {u : Nat → Nat → Int} {c : Int} (h : tI M1 2 1 = tI M2 60 2) (hB : ∀ i : Nat, (i : Int) < (tI M1 2 1).toInt → (Tc.1 i &&& 255).toInt = (Tm.1 i).toInt) (hR : (tI M1 1 4).toInt = Tm.2.1.toInt ∧ (tI M1 1 5).toInt = Tm.2.2.1.toInt) (hS : Tc.2.1.toInt = Tm.2.2.2.1.toInt ∧ Tc.2.2.1.toInt = Tm.2.2.2.2.1.toInt) {rg : Nat → Int} (hd1 : tdC M1 rg) (hd2 : tdR M2 rg) (hb : lB t tx s p si u c M1 M2)
    (p1 : r1.toInt = s 2 ∧ cF Tc N1 ∧ tI N1 0 7 = 1 ∧ kK N1 M1 ∧ qC 49 s N1 ∧ tT N1 49 0 = some t ∧ kC t tx s u c p N1) (p2 : r2.toInt = s 2 ∧ kR tx s u c p N2 ∧ tI N2 60 51 = 1 ∧ (qR (tx 4).toNat 2 s N2 ∧ qV (tx 4).toNat 2 s N2 ∧ hI3 p (s 2) N2) ∧ mF Tm N2 ∧ tI N2 60 2 = tI M2 60 2 ∧ lw N2 M2) : r1.toInt = r2.toInt ∧ lq_I N1 N2 := by
  obtain ⟨a1, a2, a3, a4, a5, a6, a7⟩ := p1
  obtain ⟨b1, b2, b3, b4, b5, b6, b7⟩ := p2
  have e2 := a4.1 2 1 (by decide) (by decide)
  exact ⟨a1.trans b1.symm, Tc, Tm, a2, b5, e2.trans (h.trans b6.symm), fun j hj => hB j (by rw [← e2]; exact hj), (congrArg Int32.toInt (a4.1 1 4 (by decide) (by decide))).trans hR.1, (congrArg Int32.toInt (a4.1 1 5 (by decide) (by decide))).trans hR.2, hS.1, hS.2, rg, tdC_tl hd1 (tl_kK a4), tdR_lw hd2 b7, t, tx, s, p, s, u, c, lB_kp hb a3 a5 a6 a7 b2 b3 b4⟩
end
section
def R_law : String := "ThirdInLineLaw"
def lw_P (b : Addr) (xs : List Int32) (args : Array Value) (s : State) : Prop := args = #[.ref b] ∧ s.IntsAt b xs ∧ xs.length ≤ 3072 ∧ (Jvm.Cond.and given_1 narrow_1).before args s = true
def lw_Q (_ : Array Value) (s : State) (o : Outcome) (t : State) : Prop := o = .returned (some (.int 1)) ∧ Framed s o t [] 601024 7293034
def lw_Z (below : List Frame) (a : Array Value) (s : State) : State → Prop := fun t => ∃ o, t.status = .running ∧ Ended t below o ∧ lw_Q a s o t
/-- the law's own end, with 1 on the stack, nothing written that was there before, its room as the claim has it -/
theorem lw_ret {p : Program} {l : Launch} {e : Env} {s : State} {m : MethodId} {below : List Frame} {meth : Method} {c : Code} {b : Nat} (hx : p.tables.exec = Jvm.exec) (hb : c.code = code) (hr : meth.sig.returnType = ret) (hlocks : meth.locks = false) {pc : Nat} {H : Heap} {ls : Array Slot} (hdg : decode code pc = .ok (.ireturn, 1)) : W p l e room_1 s m #[Value.ref b] below meth c H [] 601024 7293034 (lw_Z below #[Value.ref b] s) (F0 m pc ls [.int 1]) := by
  intro T hT X
  obtain ⟨fs, hret, hrun, hended, hW, hframe⟩ := X.leave (v := some (.int 1)) (hlocks := hlocks) (fun h => by rw [hr] at h; cases h)
  have hmeth' : T.vm.method? m = some meth := X.method'
  refine ⟨T.setFrames fs, ?_, .returned (some (.int 1)), hrun, hended, rfl, ⟨_, rfl⟩, hW, hframe⟩
  jvm_step X.here [X.here.top, hx, hb, hdg, hmeth', hr, ret, narrow_b1]
  (try refine ⟨rfl, ?_⟩); (try refine ⟨rfl, ?_⟩)
  first | (intro acts; rw [hret _ acts rfl rfl rfl]) | rw [hret _ _ rfl rfl rfl]
  exact Steps.refl _
/-- what holds at the law's entry: the machine, the code, the tables' words (any of lw_tbl by 'hts w (by decide +kernel)'), the script of L ints xs at the cell b, what the Statement gives of the start (any of its parts by flat_of_before) -/
def lw_At (p : Program) (s : State) (m : MethodId) (meth : Method) (c : Code) (b L : Nat) (xs : Nat → Int32) : Prop :=
  p.tables.exec = Jvm.exec ∧ c.code = code ∧ meth.sig.returnType = ret ∧ c.maxLocals = 7 ∧ s.vm.findClass R_law = some m.cls ∧ (∀ w ∈ lw_tbl, w.before #[Value.ref b] s = true) ∧ va_X b L xs s s.heap ∧ b < s.heap.size ∧ meth.locks = false ∧ (Jvm.Cond.and given_1 narrow_1).before #[Value.ref b] s = true
def lq_Z (p : Program) (s : State) (m : MethodId) (meth : Method) (c : Code) (D : va_G) (cy : Nat → ClassId) (A1 A2 : Nat → Nat → Nat) (b L : Nat) (xs : Nat → Int32) : Prop :=
  lq_B p s m c #[Value.ref b] cL_law RL 7 D cy ∧ lq_A s A1 A2 ∧ va_X b L xs s s.heap ∧ b < s.heap.size ∧ meth.sig.returnType = ret ∧ meth.locks = false ∧ L ≤ 3072 ∧ tx_E (lq_F s) s s.heap
theorem lq_ret {p : Program} {l : Launch} {e : Env} {s : State} {m : MethodId} {below : List Frame} {meth : Method} {c : Code} {b : Nat} {H : Heap} {locs : List Loc} {ls : Array Slot} {cells slots : Nat} (hx : p.tables.exec = Jvm.exec) (hb : c.code = cL_law) (hr : meth.sig.returnType = ret) (hlk : meth.locks = false) (hS : va_S (lq_F s) s.heap H locs) (hc : cells ≤ 601024 ∧ slots ≤ 7293034) : W p l e room_1 s m #[Value.ref b] below meth c H locs cells slots (lw_Z below #[Value.ref b] s) (F0 m 1527 ls []) := by
  refine lv_iconst (v := 1) hx hb dL_law_1527 (by decide) ?_
  refine va_forget (fun q hq => hS.2.2 q hq) ?_
  refine W.widen (k := 601024) (n := 7293034) hc.1 hc.2 ?_
  exact lw_ret hx hb hr hlk dL_law_1528
set_option maxRecDepth 100000 in
theorem lq_c0 {p : Program} {l : Launch} {e : Env} {s : State} {m : MethodId} {below : List Frame} {meth : Method} {c : Code} {D : va_G} {cy : Nat → ClassId} {A1 A2 : Nat → Nat → Nat} {M1 M2 : ti_M} {b q3 L cells slots : Nat} {iv : Int32} {xs : Nat → Int32} {H : Heap} {locs : List Loc} {ls : Array Slot} (Z : lq_Z p s m meth c D cy A1 A2 b L xs) (hcs : cells ≤ room_1.cells ∧ slots ≤ room_1.slots) (hw : lq_H s D cy A1 A2 q3 M1 M2 H locs) (hI : lq_I M1 M2) (hi : 0 ≤ iv.toInt ∧ iv.toInt + 6 ≤ L) (hl : lv_has ls 7 [(4, .int iv), (3, .ref q3), (2, .ref (A2 60 0)), (1, .ref (A1 0 0)), (0, .ref b)]) (kk : ∀ (M1 M2 : ti_M) (H : Heap) (locs : List Loc) (ls : Array Slot), lq_H s D cy A1 A2 q3 M1 M2 H locs → lq_I M1 M2 → lv_has ls 7 [(4, .int iv), (3, .ref q3), (2, .ref (A2 60 0)), (1, .ref (A1 0 0)), (0, .ref b)] → W p l e room_1 s m #[Value.ref b] below meth c H locs cells slots (lw_Z below #[Value.ref b] s) (F0 m 1521 ls [])) : W p l e room_1 s m #[Value.ref b] below meth c H locs cells slots (lw_Z below #[Value.ref b] s) (F0 m 208 ls []) := by
  have C := Z.1
  have hA := Z.2.1
  have hx := C.1
  have hb := C.2.1
  have hbA : ¬ lq_F s b := Nat.not_le.mpr Z.2.2.2.1
  have hL := Z.2.2.2.2.2.2.1
  have hE := Z.2.2.2.2.2.2.2
  obtain ⟨Tc, Tm, hF1, hF2, hE0, hB0, hR1, hR2, hS1, hS2, rg, htd1, htd2, hle⟩ := hI
  have hR := And.intro hR1 hR2
  have hS := And.intro hS1 hS2
  refine lv_aload_n hx hb dL_law_208 rfl (lv_at hl 3 rfl) ?_
  refine lv_aload_n hx hb dL_law_209 rfl (lv_at hl 4 rfl) ?_
  refine lv_iload hx hb dL_law_210 (lv_at hl 0 rfl) ?_
  refine lv_iconst (v := 1) hx hb dL_law_212 (by decide) ?_
  refine lv_iadd hx hb dL_law_213 ?_
  refine va_sld (i := iv + 1) hx hb Z.2.2.1 Z.2.2.2.1 hbA hw.2.2.1 (lq_in hi hL (by decide) (by decide)) dL_law_214 ?_
  refine lv_aload_n hx hb dL_law_215 rfl (lv_at hl 4 rfl) ?_
  refine lv_iload hx hb dL_law_216 (lv_at hl 0 rfl) ?_
  refine lv_iconst (v := 2) hx hb dL_law_218 (by decide) ?_
  refine lv_iadd hx hb dL_law_219 ?_
  refine va_sld (i := iv + 2) hx hb Z.2.2.1 Z.2.2.2.1 hbA hw.2.2.1 (lq_in hi hL (by decide) (by decide)) dL_law_220 ?_
  refine lv_aload_n hx hb dL_law_221 rfl (lv_at hl 4 rfl) ?_
  refine lv_iload hx hb dL_law_222 (lv_at hl 0 rfl) ?_
  refine lv_iconst (v := 3) hx hb dL_law_224 (by decide) ?_
  refine lv_iadd hx hb dL_law_225 ?_
  refine va_sld (i := iv + 3) hx hb Z.2.2.1 Z.2.2.2.1 hbA hw.2.2.1 (lq_in hi hL (by decide) (by decide)) dL_law_226 ?_
  refine lv_aload_n hx hb dL_law_227 rfl (lv_at hl 4 rfl) ?_
  refine lv_iload hx hb dL_law_228 (lv_at hl 0 rfl) ?_
  refine lv_iconst (v := 4) hx hb dL_law_230 (by decide) ?_
  refine lv_iadd hx hb dL_law_231 ?_
  refine va_sld (i := iv + 4) hx hb Z.2.2.1 Z.2.2.2.1 hbA hw.2.2.1 (lq_in hi hL (by decide) (by decide)) dL_law_232 ?_
  refine lv_aload_n hx hb dL_law_233 rfl (lv_at hl 4 rfl) ?_
  refine lv_iload hx hb dL_law_234 (lv_at hl 0 rfl) ?_
  refine lv_iconst (v := 5) hx hb dL_law_236 (by decide) ?_
  refine lv_iadd hx hb dL_law_237 ?_
  refine va_sld (i := iv + 5) hx hb Z.2.2.1 Z.2.2.2.1 hbA hw.2.2.1 (lq_in hi hL (by decide) (by decide)) dL_law_238 ?_
  refine lq_callTi (av := [.int (xs (iv + 1 : Int32).toNatClampNeg), .int (xs (iv + 2 : Int32).toNatClampNeg), .int (xs (iv + 3 : Int32).toNatClampNeg), .int (xs (iv + 4 : Int32).toNatClampNeg), .int (xs (iv + 5 : Int32).toNatClampNeg)]) C hA hw (w_X9_feed l D A1 cy hA.1 M1 hF1.1 hF1 (xs (iv + 1 : Int32).toNatClampNeg) (xs (iv + 2 : Int32).toNatClampNeg) (xs (iv + 3 : Int32).toNatClampNeg) (xs (iv + 4 : Int32).toNatClampNeg) (xs (iv + 5 : Int32).toNatClampNeg)) ⟨ml_L_21, ym_X9_feed, yv_X9_feed, yi_X9_feed, yc_X9_feed⟩ yd_X9_feed rfl rfl hl.1 (Nat.le_of_ble_eq_true rfl) ⟨by decide, by decide⟩ hcs dL_law_239 (fun rT N1 H locs hpT hw => ?_)
  refine lv_pop hx hb dL_law_242 rfl ?_
  refine lv_aload_n hx hb dL_law_243 rfl (lv_at hl 2 rfl) ?_
  refine lv_aload_n hx hb dL_law_244 rfl (lv_at hl 4 rfl) ?_
  refine lv_iload hx hb dL_law_245 (lv_at hl 0 rfl) ?_
  refine lv_iconst (v := 1) hx hb dL_law_247 (by decide) ?_
  refine lv_iadd hx hb dL_law_248 ?_
  refine va_sld (i := iv + 1) hx hb Z.2.2.1 Z.2.2.2.1 hbA hw.2.2.1 (lq_in hi hL (by decide) (by decide)) dL_law_249 ?_
  refine lv_aload_n hx hb dL_law_250 rfl (lv_at hl 4 rfl) ?_
  refine lv_iload hx hb dL_law_251 (lv_at hl 0 rfl) ?_
  refine lv_iconst (v := 2) hx hb dL_law_253 (by decide) ?_
  refine lv_iadd hx hb dL_law_254 ?_
  refine va_sld (i := iv + 2) hx hb Z.2.2.1 Z.2.2.2.1 hbA hw.2.2.1 (lq_in hi hL (by decide) (by decide)) dL_law_255 ?_
  refine lv_aload_n hx hb dL_law_256 rfl (lv_at hl 4 rfl) ?_
  refine lv_iload hx hb dL_law_257 (lv_at hl 0 rfl) ?_
  refine lv_iconst (v := 3) hx hb dL_law_259 (by decide) ?_
  refine lv_iadd hx hb dL_law_260 ?_
  refine va_sld (i := iv + 3) hx hb Z.2.2.1 Z.2.2.2.1 hbA hw.2.2.1 (lq_in hi hL (by decide) (by decide)) dL_law_261 ?_
  refine lv_aload_n hx hb dL_law_262 rfl (lv_at hl 4 rfl) ?_
  refine lv_iload hx hb dL_law_263 (lv_at hl 0 rfl) ?_
  refine lv_iconst (v := 4) hx hb dL_law_265 (by decide) ?_
  refine lv_iadd hx hb dL_law_266 ?_
  refine va_sld (i := iv + 4) hx hb Z.2.2.1 Z.2.2.2.1 hbA hw.2.2.1 (lq_in hi hL (by decide) (by decide)) dL_law_267 ?_
  refine lv_aload_n hx hb dL_law_268 rfl (lv_at hl 4 rfl) ?_
  refine lv_iload hx hb dL_law_269 (lv_at hl 0 rfl) ?_
  refine lv_iconst (v := 5) hx hb dL_law_271 (by decide) ?_
  refine lv_iadd hx hb dL_law_272 ?_
  refine va_sld (i := iv + 5) hx hb Z.2.2.1 Z.2.2.2.1 hbA hw.2.2.1 (lq_in hi hL (by decide) (by decide)) dL_law_273 ?_
  refine lq_callMi (av := [.int (xs (iv + 1 : Int32).toNatClampNeg), .int (xs (iv + 2 : Int32).toNatClampNeg), .int (xs (iv + 3 : Int32).toNatClampNeg), .int (xs (iv + 4 : Int32).toNatClampNeg), .int (xs (iv + 5 : Int32).toNatClampNeg)]) C hA hw (w_X10_feed l D A2 cy hA.2.1 M2 (mI_self hF2.1) hF2 (xs (iv + 1 : Int32).toNatClampNeg) (xs (iv + 2 : Int32).toNatClampNeg) (xs (iv + 3 : Int32).toNatClampNeg) (xs (iv + 4 : Int32).toNatClampNeg) (xs (iv + 5 : Int32).toNatClampNeg)) ⟨ml_L_25, ym_X10_feed, yv_X10_feed, yi_X10_feed, yc_X10_feed⟩ yd_X10_feed rfl rfl hl.1 (Nat.le_of_ble_eq_true rfl) ⟨by decide, by decide⟩ hcs dL_law_274 (fun rM N2 H locs hpM hw => ?_)
  refine lv_pop hx hb dL_law_277 rfl ?_
  obtain ⟨hpT, hT5, hTT⟩ := hpT
  obtain ⟨hpM, hM5, hMq⟩ := hpM
  have q := lq_fd hF1 hF2 hE0 hB0 hR hS (fun k => hT5.1 50 k (by decide)) (tdC_5 htd1 ⟨fun o k h => hT5.1 o k (by omega), tT_fr hTT, tT_fr hTT⟩) (tdR_lw htd2 hM5) (lE_eo hle hT5 (Or.inl rfl) hTT hMq hM5) hpT hpM
  refine lv_goto (tgt := 1521) hx hb dL_law_278 (by decide) ?_
  exact kk N1 N2 H locs ls hw q.2 hl
set_option maxRecDepth 100000 in
theorem lq_c1 {p : Program} {l : Launch} {e : Env} {s : State} {m : MethodId} {below : List Frame} {meth : Method} {c : Code} {D : va_G} {cy : Nat → ClassId} {A1 A2 : Nat → Nat → Nat} {M1 M2 : ti_M} {b q3 L cells slots : Nat} {iv : Int32} {xs : Nat → Int32} {H : Heap} {locs : List Loc} {ls : Array Slot} (Z : lq_Z p s m meth c D cy A1 A2 b L xs) (hcs : cells ≤ room_1.cells ∧ slots ≤ room_1.slots) (hw : lq_H s D cy A1 A2 q3 M1 M2 H locs) (hI : lq_I M1 M2) (hi : 0 ≤ iv.toInt ∧ iv.toInt + 6 ≤ L) (hl : lv_has ls 7 [(4, .int iv), (3, .ref q3), (2, .ref (A2 60 0)), (1, .ref (A1 0 0)), (0, .ref b)]) (kk : ∀ (M1 M2 : ti_M) (H : Heap) (locs : List Loc) (ls : Array Slot), lq_H s D cy A1 A2 q3 M1 M2 H locs → lq_I M1 M2 → lv_has ls 7 [(4, .int iv), (3, .ref q3), (2, .ref (A2 60 0)), (1, .ref (A1 0 0)), (0, .ref b)] → W p l e room_1 s m #[Value.ref b] below meth c H locs cells slots (lw_Z below #[Value.ref b] s) (F0 m 1521 ls [])) : W p l e room_1 s m #[Value.ref b] below meth c H locs cells slots (lw_Z below #[Value.ref b] s) (F0 m 281 ls []) := by
  have C := Z.1
  have hA := Z.2.1
  have hx := C.1
  have hb := C.2.1
  have hbA : ¬ lq_F s b := Nat.not_le.mpr Z.2.2.2.1
  have hL := Z.2.2.2.2.2.2.1
  have hE := Z.2.2.2.2.2.2.2
  obtain ⟨Tc, Tm, hF1, hF2, hE0, hB0, hR1, hR2, hS1, hS2, rg, htd1, htd2, hle⟩ := hI
  have hR := And.intro hR1 hR2
  have hS := And.intro hS1 hS2
  refine lv_aload_n hx hb dL_law_281 rfl (lv_at hl 3 rfl) ?_
  refine lv_aload_n hx hb dL_law_282 rfl (lv_at hl 4 rfl) ?_
  refine lv_iload hx hb dL_law_283 (lv_at hl 0 rfl) ?_
  refine lv_iconst (v := 1) hx hb dL_law_285 (by decide) ?_
  refine lv_iadd hx hb dL_law_286 ?_
  refine va_sld (i := iv + 1) hx hb Z.2.2.1 Z.2.2.2.1 hbA hw.2.2.1 (lq_in hi hL (by decide) (by decide)) dL_law_287 ?_
  refine lq_callTiE (av := [.int (xs (iv + 1 : Int32).toNatClampNeg)]) C hA hE hw (z_X9_text l D A1 cy hA.1 M1 hF1.1 hF1 (xs (iv + 1 : Int32).toNatClampNeg) (fun i => (Tc.1 i &&& 255).toInt) _ rfl rfl rg htd1) ⟨ml_L_26, ym_X9_text, yv_X9_text, yi_X9_text, yc_X9_text⟩ yd_X9_text rfl rfl hl.1 (Nat.le_of_ble_eq_true rfl) ⟨by decide, by decide⟩ hcs dL_law_288 (fun rT N1 H locs hpT hw => ?_)
  obtain ⟨J, K, J2, hpT⟩ := lq_tJ hpT
  refine lv_pop hx hb dL_law_291 rfl ?_
  refine lv_aload_n hx hb dL_law_292 rfl (lv_at hl 2 rfl) ?_
  refine lv_aload_n hx hb dL_law_293 rfl (lv_at hl 4 rfl) ?_
  refine lv_iload hx hb dL_law_294 (lv_at hl 0 rfl) ?_
  refine lv_iconst (v := 1) hx hb dL_law_296 (by decide) ?_
  refine lv_iadd hx hb dL_law_297 ?_
  refine va_sld (i := iv + 1) hx hb Z.2.2.1 Z.2.2.2.1 hbA hw.2.2.1 (lq_in hi hL (by decide) (by decide)) dL_law_298 ?_
  refine lq_callMiE (av := [.int (xs (iv + 1 : Int32).toNatClampNeg)]) C hA hE hw (z_X10_text l D A2 cy hA.2.1 M2 hF2.1 hF2 (xs (iv + 1 : Int32).toNatClampNeg) (fun i => (Tc.1 i &&& 255).toInt) J (fun hn i hi => by rw [show tY M2 60 1 = Tm.1 from congrArg (fun t => t.1) hF2.1.2.2.2]; exact (hB0 i (by rw [hE0]; omega)).symm) K J2) ⟨ml_L_30, ym_X10_text, yv_X10_text, yi_X10_text, yc_X10_text⟩ yd_X10_text rfl rfl hl.1 (Nat.le_of_ble_eq_true rfl) ⟨by decide, by decide⟩ hcs dL_law_299 (fun rM N2 H locs hpM hw => ?_)
  refine lv_pop hx hb dL_law_302 rfl ?_
  have q := lq_tx hF1 hF2 hE0 hB0 hR hS htd1 htd2 hle hpT hpM
  refine lv_goto (tgt := 1521) hx hb dL_law_303 (by decide) ?_
  exact kk N1 N2 H locs ls hw q.2 hl
set_option maxRecDepth 100000 in
theorem lq_c2 {p : Program} {l : Launch} {e : Env} {s : State} {m : MethodId} {below : List Frame} {meth : Method} {c : Code} {D : va_G} {cy : Nat → ClassId} {A1 A2 : Nat → Nat → Nat} {M1 M2 : ti_M} {b q3 L cells slots : Nat} {iv : Int32} {xs : Nat → Int32} {H : Heap} {locs : List Loc} {ls : Array Slot} (Z : lq_Z p s m meth c D cy A1 A2 b L xs) (hcs : cells ≤ room_1.cells ∧ slots ≤ room_1.slots) (hw : lq_H s D cy A1 A2 q3 M1 M2 H locs) (hI : lq_I M1 M2) (hi : 0 ≤ iv.toInt ∧ iv.toInt + 6 ≤ L) (hl : lv_has ls 7 [(4, .int iv), (3, .ref q3), (2, .ref (A2 60 0)), (1, .ref (A1 0 0)), (0, .ref b)]) (kk : ∀ (M1 M2 : ti_M) (H : Heap) (locs : List Loc) (ls : Array Slot), lq_H s D cy A1 A2 q3 M1 M2 H locs → lq_I M1 M2 → lv_has ls 7 [(4, .int iv), (3, .ref q3), (2, .ref (A2 60 0)), (1, .ref (A1 0 0)), (0, .ref b)] → W p l e room_1 s m #[Value.ref b] below meth c H locs cells slots (lw_Z below #[Value.ref b] s) (F0 m 1521 ls [])) : W p l e room_1 s m #[Value.ref b] below meth c H locs cells slots (lw_Z below #[Value.ref b] s) (F0 m 306 ls []) := by
  have C := Z.1
  have hA := Z.2.1
  have hx := C.1
  have hb := C.2.1
  have hbA : ¬ lq_F s b := Nat.not_le.mpr Z.2.2.2.1
  have hL := Z.2.2.2.2.2.2.1
  have hE := Z.2.2.2.2.2.2.2
  obtain ⟨Tc, Tm, hF1, hF2, hE0, hB0, hR1, hR2, hS1, hS2, rg, htd1, htd2, hle⟩ := hI
  have hR := And.intro hR1 hR2
  have hS := And.intro hS1 hS2
  refine lv_aload_n hx hb dL_law_306 rfl (lv_at hl 3 rfl) ?_
  refine lv_aload_n hx hb dL_law_307 rfl (lv_at hl 4 rfl) ?_
  refine lv_iload hx hb dL_law_308 (lv_at hl 0 rfl) ?_
  refine lv_iconst (v := 1) hx hb dL_law_310 (by decide) ?_
  refine lv_iadd hx hb dL_law_311 ?_
  refine va_sld (i := iv + 1) hx hb Z.2.2.1 Z.2.2.2.1 hbA hw.2.2.1 (lq_in hi hL (by decide) (by decide)) dL_law_312 ?_
  refine lq_callTi (av := [.int (xs (iv + 1 : Int32).toNatClampNeg)]) C hA hw (f_X9_fault l D A1 cy hA.1 M1 hF1.1 hF1 (xs (iv + 1 : Int32).toNatClampNeg)) ⟨ml_L_31, ym_X9_fault, yv_X9_fault, yi_X9_fault, yc_X9_fault⟩ yd_X9_fault rfl rfl hl.1 (Nat.le_of_ble_eq_true rfl) ⟨by decide, by decide⟩ hcs dL_law_313 (fun rT N1 H locs hpT hw => ?_)
  refine lv_pop hx hb dL_law_316 rfl ?_
  refine lv_aload_n hx hb dL_law_317 rfl (lv_at hl 2 rfl) ?_
  refine lv_aload_n hx hb dL_law_318 rfl (lv_at hl 4 rfl) ?_
  refine lv_iload hx hb dL_law_319 (lv_at hl 0 rfl) ?_
  refine lv_iconst (v := 1) hx hb dL_law_321 (by decide) ?_
  refine lv_iadd hx hb dL_law_322 ?_
  refine va_sld (i := iv + 1) hx hb Z.2.2.1 Z.2.2.2.1 hbA hw.2.2.1 (lq_in hi hL (by decide) (by decide)) dL_law_323 ?_
  refine lq_callMi (av := [.int (xs (iv + 1 : Int32).toNatClampNeg)]) C hA hw (f_X10_fault l D A2 cy hA.2.1 M2 hF2.1 hF2 (xs (iv + 1 : Int32).toNatClampNeg)) ⟨ml_L_34, ym_X10_fault, yv_X10_fault, yi_X10_fault, yc_X10_fault⟩ yd_X10_fault rfl rfl hl.1 (Nat.le_of_ble_eq_true rfl) ⟨by decide, by decide⟩ hcs dL_law_324 (fun rM N2 H locs hpM hw => ?_)
  refine lv_pop hx hb dL_law_327 rfl ?_
  refine lv_goto (tgt := 1521) hx hb dL_law_328 (by decide) ?_
  exact kk N1 N2 H locs ls hw ⟨Tc, Tm, hpT.2.2.1, hpM.2.1, hpT.2.2.2.1.trans (hE0.trans (show tI N2 60 2 = tI M2 60 2 from hpM.2.2.1).symm), (fun i hi => hB0 i (by rw [← hpT.2.2.2.1]; exact hi)), (congrArg Int32.toInt (hpT.2.2.2.2.1 1 4 (by decide) (by decide))).trans hR.1, (congrArg Int32.toInt (hpT.2.2.2.2.1 1 5 (by decide) (by decide))).trans hR.2, hS1, hS2, rg, tdC_tl htd1 hpT.2.2.2.2, tdR_lw htd2 hpM.2.2.2, lE_obs hle hpT.1 hpT.2.1 hpM.1.1 (fun q => hpM.1.2.trans q) hpM.2.2.2⟩ hl
set_option maxRecDepth 100000 in
theorem lq_c3 {p : Program} {l : Launch} {e : Env} {s : State} {m : MethodId} {below : List Frame} {meth : Method} {c : Code} {D : va_G} {cy : Nat → ClassId} {A1 A2 : Nat → Nat → Nat} {M1 M2 : ti_M} {b q3 L cells slots : Nat} {iv : Int32} {xs : Nat → Int32} {H : Heap} {locs : List Loc} {ls : Array Slot} (Z : lq_Z p s m meth c D cy A1 A2 b L xs) (hcs : cells ≤ room_1.cells ∧ slots ≤ room_1.slots) (hw : lq_H s D cy A1 A2 q3 M1 M2 H locs) (hI : lq_I M1 M2) (hi : 0 ≤ iv.toInt ∧ iv.toInt + 6 ≤ L) (hl : lv_has ls 7 [(4, .int iv), (3, .ref q3), (2, .ref (A2 60 0)), (1, .ref (A1 0 0)), (0, .ref b)]) (kk : ∀ (M1 M2 : ti_M) (H : Heap) (locs : List Loc) (ls : Array Slot), lq_H s D cy A1 A2 q3 M1 M2 H locs → lq_I M1 M2 → lv_has ls 7 [(4, .int iv), (3, .ref q3), (2, .ref (A2 60 0)), (1, .ref (A1 0 0)), (0, .ref b)] → W p l e room_1 s m #[Value.ref b] below meth c H locs cells slots (lw_Z below #[Value.ref b] s) (F0 m 1521 ls [])) : W p l e room_1 s m #[Value.ref b] below meth c H locs cells slots (lw_Z below #[Value.ref b] s) (F0 m 331 ls []) := by
  have C := Z.1
  have hA := Z.2.1
  have hx := C.1
  have hb := C.2.1
  have hbA : ¬ lq_F s b := Nat.not_le.mpr Z.2.2.2.1
  have hL := Z.2.2.2.2.2.2.1
  have hE := Z.2.2.2.2.2.2.2
  obtain ⟨Tc, Tm, hF1, hF2, hE0, hB0, hR1, hR2, hS1, hS2, rg, htd1, htd2, hle⟩ := hI
  have hR := And.intro hR1 hR2
  have hS := And.intro hS1 hS2
  refine lv_aload_n hx hb dL_law_331 rfl (lv_at hl 3 rfl) ?_
  refine lv_aload_n hx hb dL_law_332 rfl (lv_at hl 4 rfl) ?_
  refine lv_iload hx hb dL_law_333 (lv_at hl 0 rfl) ?_
  refine lv_iconst (v := 1) hx hb dL_law_335 (by decide) ?_
  refine lv_iadd hx hb dL_law_336 ?_
  refine va_sld (i := iv + 1) hx hb Z.2.2.1 Z.2.2.2.1 hbA hw.2.2.1 (lq_in hi hL (by decide) (by decide)) dL_law_337 ?_
  refine lq_callTi (av := [.int (xs (iv + 1 : Int32).toNatClampNeg)]) C hA hw (f_X9_named l D A1 cy hA.1 M1 hF1.1 hF1 (xs (iv + 1 : Int32).toNatClampNeg)) ⟨ml_L_35, ym_X9_named, yv_X9_named, yi_X9_named, yc_X9_named⟩ yd_X9_named rfl rfl hl.1 (Nat.le_of_ble_eq_true rfl) ⟨by decide, by decide⟩ hcs dL_law_338 (fun rT N1 H locs hpT hw => ?_)
  refine lv_pop hx hb dL_law_341 rfl ?_
  refine lv_aload_n hx hb dL_law_342 rfl (lv_at hl 2 rfl) ?_
  refine lv_aload_n hx hb dL_law_343 rfl (lv_at hl 4 rfl) ?_
  refine lv_iload hx hb dL_law_344 (lv_at hl 0 rfl) ?_
  refine lv_iconst (v := 1) hx hb dL_law_346 (by decide) ?_
  refine lv_iadd hx hb dL_law_347 ?_
  refine va_sld (i := iv + 1) hx hb Z.2.2.1 Z.2.2.2.1 hbA hw.2.2.1 (lq_in hi hL (by decide) (by decide)) dL_law_348 ?_
  refine lq_callMi (av := [.int (xs (iv + 1 : Int32).toNatClampNeg)]) C hA hw (f_X10_named l D A2 cy hA.2.1 M2 hF2.1 hF2 (xs (iv + 1 : Int32).toNatClampNeg)) ⟨ml_L_38, ym_X10_named, yv_X10_named, yi_X10_named, yc_X10_named⟩ yd_X10_named rfl rfl hl.1 (Nat.le_of_ble_eq_true rfl) ⟨by decide, by decide⟩ hcs dL_law_349 (fun rM N2 H locs hpM hw => ?_)
  refine lv_pop hx hb dL_law_352 rfl ?_
  refine lv_goto (tgt := 1521) hx hb dL_law_353 (by decide) ?_
  exact kk N1 N2 H locs ls hw ⟨Tc, Tm, hpT.2.2.1, hpM.2.1, hpT.2.2.2.1.trans (hE0.trans (show tI N2 60 2 = tI M2 60 2 from hpM.2.2.1).symm), (fun i hi => hB0 i (by rw [← hpT.2.2.2.1]; exact hi)), (congrArg Int32.toInt (hpT.2.2.2.2.1 1 4 (by decide) (by decide))).trans hR.1, (congrArg Int32.toInt (hpT.2.2.2.2.1 1 5 (by decide) (by decide))).trans hR.2, hS1, hS2, rg, tdC_tl htd1 hpT.2.2.2.2, tdR_lw htd2 hpM.2.2.2, lE_obs hle hpT.1 hpT.2.1 hpM.1.1 (fun q => hpM.1.2.trans q) hpM.2.2.2⟩ hl
set_option maxRecDepth 100000 in
theorem lq_c5 {p : Program} {l : Launch} {e : Env} {s : State} {m : MethodId} {below : List Frame} {meth : Method} {c : Code} {D : va_G} {cy : Nat → ClassId} {A1 A2 : Nat → Nat → Nat} {M1 M2 : ti_M} {b q3 L cells slots : Nat} {iv : Int32} {xs : Nat → Int32} {H : Heap} {locs : List Loc} {ls : Array Slot} (Z : lq_Z p s m meth c D cy A1 A2 b L xs) (hcs : cells ≤ room_1.cells ∧ slots ≤ room_1.slots) (hw : lq_H s D cy A1 A2 q3 M1 M2 H locs) (hI : lq_I M1 M2) (hi : 0 ≤ iv.toInt ∧ iv.toInt + 6 ≤ L) (hl : lv_has ls 7 [(4, .int iv), (3, .ref q3), (2, .ref (A2 60 0)), (1, .ref (A1 0 0)), (0, .ref b)]) (kk : ∀ (M1 M2 : ti_M) (H : Heap) (locs : List Loc) (ls : Array Slot), lq_H s D cy A1 A2 q3 M1 M2 H locs → lq_I M1 M2 → lv_has ls 7 [(4, .int iv), (3, .ref q3), (2, .ref (A2 60 0)), (1, .ref (A1 0 0)), (0, .ref b)] → W p l e room_1 s m #[Value.ref b] below meth c H locs cells slots (lw_Z below #[Value.ref b] s) (F0 m 1521 ls [])) : W p l e room_1 s m #[Value.ref b] below meth c H locs cells slots (lw_Z below #[Value.ref b] s) (F0 m 396 ls []) := by
  have C := Z.1
  have hA := Z.2.1
  have hx := C.1
  have hb := C.2.1
  have hbA : ¬ lq_F s b := Nat.not_le.mpr Z.2.2.2.1
  have hL := Z.2.2.2.2.2.2.1
  have hE := Z.2.2.2.2.2.2.2
  obtain ⟨Tc, Tm, hF1, hF2, hE0, hB0, hR1, hR2, hS1, hS2, rg, htd1, htd2, hle⟩ := hI
  have hR := And.intro hR1 hR2
  have hS := And.intro hS1 hS2
  obtain ⟨t9, tx9, s9, p9, si9, u9, c9, hb9⟩ := id hle
  obtain ⟨ht9, hkC9, hkR9, hW9, ⟨hw9, h19⟩, hU9, hi9⟩ := id hb9
  have m9 : 0 ≤ s9 2 ∧ s9 2 ≤ 120 := by
    have b : ib 0 120 (tY M2 60 34 0) := hF2.1.2.1 34 0 (by decide)
    rw [hkR9.2.1.1.1]; exact b
  refine lv_aload_n hx hb dL_law_396 rfl (lv_at hl 3 rfl) ?_
  refine lv_aload_n hx hb dL_law_397 rfl (lv_at hl 4 rfl) ?_
  refine lv_iload hx hb dL_law_398 (lv_at hl 0 rfl) ?_
  refine lv_iconst (v := 1) hx hb dL_law_400 (by decide) ?_
  refine lv_iadd hx hb dL_law_401 ?_
  refine va_sld (i := iv + 1) hx hb Z.2.2.1 Z.2.2.2.1 hbA hw.2.2.1 (lq_in hi hL (by decide) (by decide)) dL_law_402 ?_
  refine lq_callTi (av := [.int (xs (iv + 1 : Int32).toNatClampNeg)]) C hA hw (z_X9_stands l D A1 cy hA.1 M1 hF1.1 hF1 t9 ht9 tx9 s9 p9 u9 c9 hkC9 (xs (iv + 1 : Int32).toNatClampNeg)) ⟨ml_L_45, ym_X9_stands, yv_X9_stands, yi_X9_stands, yc_X9_stands⟩ yd_X9_stands rfl rfl hl.1 (Nat.le_of_ble_eq_true rfl) ⟨by decide, by decide⟩ hcs dL_law_403 (fun rT N1 H locs hpT hw => ?_)
  refine lv_pop hx hb dL_law_406 rfl ?_
  refine lv_aload_n hx hb dL_law_407 rfl (lv_at hl 2 rfl) ?_
  refine lv_aload_n hx hb dL_law_408 rfl (lv_at hl 4 rfl) ?_
  refine lv_iload hx hb dL_law_409 (lv_at hl 0 rfl) ?_
  refine lv_iconst (v := 1) hx hb dL_law_411 (by decide) ?_
  refine lv_iadd hx hb dL_law_412 ?_
  refine va_sld (i := iv + 1) hx hb Z.2.2.1 Z.2.2.2.1 hbA hw.2.2.1 (lq_in hi hL (by decide) (by decide)) dL_law_413 ?_
  refine lq_callMi (av := [.int (xs (iv + 1 : Int32).toNatClampNeg)]) C hA hw (z_X10_stands l D A2 cy hA.2.1 M2 hF2.1 hF2 (xs (iv + 1 : Int32).toNatClampNeg) tx9 s9 p9 u9 c9 hW9.1 hW9 hw9 h19 hkR9) ⟨ml_L_48, ym_X10_stands, yv_X10_stands, yi_X10_stands, yc_X10_stands⟩ yd_X10_stands rfl rfl hl.1 (Nat.le_of_ble_eq_true rfl) ⟨by decide, by decide⟩ hcs dL_law_414 (fun rM N2 H locs hpM hw => ?_)
  refine lv_pop hx hb dL_law_417 rfl ?_
  have q := lq_ob hF1 hE0 hB0 hR hS htd1 htd2 hpT hpM rfl (fun i y => ⟨_, _, _, _, _, _, _, lB_no hb9 i y⟩)
  refine lv_goto (tgt := 1521) hx hb dL_law_418 (by decide) ?_
  exact kk N1 N2 H locs ls hw q.2 hl
set_option maxRecDepth 100000 in
theorem lq_c6 {p : Program} {l : Launch} {e : Env} {s : State} {m : MethodId} {below : List Frame} {meth : Method} {c : Code} {D : va_G} {cy : Nat → ClassId} {A1 A2 : Nat → Nat → Nat} {M1 M2 : ti_M} {b q3 L cells slots : Nat} {iv : Int32} {xs : Nat → Int32} {H : Heap} {locs : List Loc} {ls : Array Slot} (Z : lq_Z p s m meth c D cy A1 A2 b L xs) (hcs : cells ≤ room_1.cells ∧ slots ≤ room_1.slots) (hw : lq_H s D cy A1 A2 q3 M1 M2 H locs) (hI : lq_I M1 M2) (hi : 0 ≤ iv.toInt ∧ iv.toInt + 6 ≤ L) (hl : lv_has ls 7 [(4, .int iv), (3, .ref q3), (2, .ref (A2 60 0)), (1, .ref (A1 0 0)), (0, .ref b)]) (kk : ∀ (M1 M2 : ti_M) (H : Heap) (locs : List Loc) (ls : Array Slot), lq_H s D cy A1 A2 q3 M1 M2 H locs → lq_I M1 M2 → lv_has ls 7 [(4, .int iv), (3, .ref q3), (2, .ref (A2 60 0)), (1, .ref (A1 0 0)), (0, .ref b)] → W p l e room_1 s m #[Value.ref b] below meth c H locs cells slots (lw_Z below #[Value.ref b] s) (F0 m 1521 ls [])) : W p l e room_1 s m #[Value.ref b] below meth c H locs cells slots (lw_Z below #[Value.ref b] s) (F0 m 421 ls []) := by
  have C := Z.1
  have hA := Z.2.1
  have hx := C.1
  have hb := C.2.1
  have hbA : ¬ lq_F s b := Nat.not_le.mpr Z.2.2.2.1
  have hL := Z.2.2.2.2.2.2.1
  have hE := Z.2.2.2.2.2.2.2
  obtain ⟨Tc, Tm, hF1, hF2, hE0, hB0, hR1, hR2, hS1, hS2, rg, htd1, htd2, hle⟩ := hI
  have hR := And.intro hR1 hR2
  have hS := And.intro hS1 hS2
  obtain ⟨t9, tx9, s9, p9, si9, u9, c9, hb9⟩ := id hle
  obtain ⟨ht9, hkC9, hkR9, hW9, ⟨hw9, h19⟩, hU9, hi9⟩ := id hb9
  have m9 : 0 ≤ s9 2 ∧ s9 2 ≤ 120 := by
    have b : ib 0 120 (tY M2 60 34 0) := hF2.1.2.1 34 0 (by decide)
    rw [hkR9.2.1.1.1]; exact b
  refine lv_aload_n hx hb dL_law_421 rfl (lv_at hl 3 rfl) ?_
  refine lv_aload_n hx hb dL_law_422 rfl (lv_at hl 4 rfl) ?_
  refine lv_iload hx hb dL_law_423 (lv_at hl 0 rfl) ?_
  refine lv_iconst (v := 1) hx hb dL_law_425 (by decide) ?_
  refine lv_iadd hx hb dL_law_426 ?_
  refine va_sld (i := iv + 1) hx hb Z.2.2.1 Z.2.2.2.1 hbA hw.2.2.1 (lq_in hi hL (by decide) (by decide)) dL_law_427 ?_
  refine lq_callTi (av := [.int (xs (iv + 1 : Int32).toNatClampNeg)]) C hA hw (z_X9_holder l D A1 cy hA.1 M1 hF1.1 hF1 t9 ht9 tx9 s9 p9 u9 c9 hkC9 (xs (iv + 1 : Int32).toNatClampNeg)) ⟨ml_L_49, ym_X9_holder, yv_X9_holder, yi_X9_holder, yc_X9_holder⟩ yd_X9_holder rfl rfl hl.1 (Nat.le_of_ble_eq_true rfl) ⟨by decide, by decide⟩ hcs dL_law_428 (fun rT N1 H locs hpT hw => ?_)
  refine lv_pop hx hb dL_law_431 rfl ?_
  refine lv_aload_n hx hb dL_law_432 rfl (lv_at hl 2 rfl) ?_
  refine lv_aload_n hx hb dL_law_433 rfl (lv_at hl 4 rfl) ?_
  refine lv_iload hx hb dL_law_434 (lv_at hl 0 rfl) ?_
  refine lv_iconst (v := 1) hx hb dL_law_436 (by decide) ?_
  refine lv_iadd hx hb dL_law_437 ?_
  refine va_sld (i := iv + 1) hx hb Z.2.2.1 Z.2.2.2.1 hbA hw.2.2.1 (lq_in hi hL (by decide) (by decide)) dL_law_438 ?_
  refine lq_callMi (av := [.int (xs (iv + 1 : Int32).toNatClampNeg)]) C hA hw (z_X10_holder l D A2 cy hA.2.1 M2 hF2.1 hF2 (xs (iv + 1 : Int32).toNatClampNeg) tx9 s9 p9 u9 c9 hW9.1 hW9 hw9 h19 hkR9) ⟨ml_L_52, ym_X10_holder, yv_X10_holder, yi_X10_holder, yc_X10_holder⟩ yd_X10_holder rfl rfl hl.1 (Nat.le_of_ble_eq_true rfl) ⟨by decide, by decide⟩ hcs dL_law_439 (fun rM N2 H locs hpM hw => ?_)
  refine lv_pop hx hb dL_law_442 rfl ?_
  have q := lq_ob hF1 hE0 hB0 hR hS htd1 htd2 hpT hpM rfl (fun i y => ⟨_, _, _, _, _, _, _, lB_no hb9 i y⟩)
  refine lv_goto (tgt := 1521) hx hb dL_law_443 (by decide) ?_
  exact kk N1 N2 H locs ls hw q.2 hl
set_option maxRecDepth 100000 in
theorem lq_c7 {p : Program} {l : Launch} {e : Env} {s : State} {m : MethodId} {below : List Frame} {meth : Method} {c : Code} {D : va_G} {cy : Nat → ClassId} {A1 A2 : Nat → Nat → Nat} {M1 M2 : ti_M} {b q3 L cells slots : Nat} {iv : Int32} {xs : Nat → Int32} {H : Heap} {locs : List Loc} {ls : Array Slot} (Z : lq_Z p s m meth c D cy A1 A2 b L xs) (hcs : cells ≤ room_1.cells ∧ slots ≤ room_1.slots) (hw : lq_H s D cy A1 A2 q3 M1 M2 H locs) (hI : lq_I M1 M2) (hi : 0 ≤ iv.toInt ∧ iv.toInt + 6 ≤ L) (hl : lv_has ls 7 [(4, .int iv), (3, .ref q3), (2, .ref (A2 60 0)), (1, .ref (A1 0 0)), (0, .ref b)]) (kk : ∀ (M1 M2 : ti_M) (H : Heap) (locs : List Loc) (ls : Array Slot), lq_H s D cy A1 A2 q3 M1 M2 H locs → lq_I M1 M2 → lv_has ls 7 [(4, .int iv), (3, .ref q3), (2, .ref (A2 60 0)), (1, .ref (A1 0 0)), (0, .ref b)] → W p l e room_1 s m #[Value.ref b] below meth c H locs cells slots (lw_Z below #[Value.ref b] s) (F0 m 1521 ls [])) : W p l e room_1 s m #[Value.ref b] below meth c H locs cells slots (lw_Z below #[Value.ref b] s) (F0 m 446 ls []) := by
  have C := Z.1
  have hA := Z.2.1
  have hx := C.1
  have hb := C.2.1
  have hbA : ¬ lq_F s b := Nat.not_le.mpr Z.2.2.2.1
  have hL := Z.2.2.2.2.2.2.1
  have hE := Z.2.2.2.2.2.2.2
  obtain ⟨Tc, Tm, hF1, hF2, hE0, hB0, hR1, hR2, hS1, hS2, rg, htd1, htd2, hle⟩ := hI
  have hR := And.intro hR1 hR2
  have hS := And.intro hS1 hS2
  refine lv_aload_n hx hb dL_law_446 rfl (lv_at hl 3 rfl) ?_
  refine lv_aload_n hx hb dL_law_447 rfl (lv_at hl 4 rfl) ?_
  refine lv_iload hx hb dL_law_448 (lv_at hl 0 rfl) ?_
  refine lv_iconst (v := 1) hx hb dL_law_450 (by decide) ?_
  refine lv_iadd hx hb dL_law_451 ?_
  refine va_sld (i := iv + 1) hx hb Z.2.2.1 Z.2.2.2.1 hbA hw.2.2.1 (lq_in hi hL (by decide) (by decide)) dL_law_452 ?_
  refine lv_aload_n hx hb dL_law_453 rfl (lv_at hl 4 rfl) ?_
  refine lv_iload hx hb dL_law_454 (lv_at hl 0 rfl) ?_
  refine lv_iconst (v := 2) hx hb dL_law_456 (by decide) ?_
  refine lv_iadd hx hb dL_law_457 ?_
  refine va_sld (i := iv + 2) hx hb Z.2.2.1 Z.2.2.2.1 hbA hw.2.2.1 (lq_in hi hL (by decide) (by decide)) dL_law_458 ?_
  refine lq_callTl (av := [.int (xs (iv + 1 : Int32).toNatClampNeg), .int (xs (iv + 2 : Int32).toNatClampNeg)]) C hA hw (f_X9_law l D A1 cy hA.1 M1 hF1.1 hF1 (xs (iv + 1 : Int32).toNatClampNeg) (xs (iv + 2 : Int32).toNatClampNeg)) ⟨ml_L_53, ym_X9_law, yv_X9_law, yi_X9_law, yc_X9_law⟩ yd_X9_law rfl rfl hl.1 (Nat.le_of_ble_eq_true rfl) ⟨by decide, by decide⟩ hcs dL_law_459 (fun rT N1 H locs hpT hw => ?_)
  refine lv_pop2_2 hx hb dL_law_462 rfl ?_
  refine lv_aload_n hx hb dL_law_463 rfl (lv_at hl 2 rfl) ?_
  refine lv_aload_n hx hb dL_law_464 rfl (lv_at hl 4 rfl) ?_
  refine lv_iload hx hb dL_law_465 (lv_at hl 0 rfl) ?_
  refine lv_iconst (v := 1) hx hb dL_law_467 (by decide) ?_
  refine lv_iadd hx hb dL_law_468 ?_
  refine va_sld (i := iv + 1) hx hb Z.2.2.1 Z.2.2.2.1 hbA hw.2.2.1 (lq_in hi hL (by decide) (by decide)) dL_law_469 ?_
  refine lv_aload_n hx hb dL_law_470 rfl (lv_at hl 4 rfl) ?_
  refine lv_iload hx hb dL_law_471 (lv_at hl 0 rfl) ?_
  refine lv_iconst (v := 2) hx hb dL_law_473 (by decide) ?_
  refine lv_iadd hx hb dL_law_474 ?_
  refine va_sld (i := iv + 2) hx hb Z.2.2.1 Z.2.2.2.1 hbA hw.2.2.1 (lq_in hi hL (by decide) (by decide)) dL_law_475 ?_
  refine lq_callMl (av := [.int (xs (iv + 1 : Int32).toNatClampNeg), .int (xs (iv + 2 : Int32).toNatClampNeg)]) C hA hw (f_X10_law l D A2 cy hA.2.1 M2 hF2.1 hF2 (xs (iv + 1 : Int32).toNatClampNeg) (xs (iv + 2 : Int32).toNatClampNeg)) ⟨ml_L_57, ym_X10_law, yv_X10_law, yi_X10_law, yc_X10_law⟩ yd_X10_law rfl rfl hl.1 (Nat.le_of_ble_eq_true rfl) ⟨by decide, by decide⟩ hcs dL_law_476 (fun rM N2 H locs hpM hw => ?_)
  refine lv_pop2_2 hx hb dL_law_479 rfl ?_
  refine lv_goto (tgt := 1521) hx hb dL_law_480 (by decide) ?_
  exact kk N1 N2 H locs ls hw ⟨Tc, Tm, hpT.2.2.1, hpM.2.1, hpT.2.2.2.1.trans (hE0.trans (show tI N2 60 2 = tI M2 60 2 from hpM.2.2.1).symm), (fun i hi => hB0 i (by rw [← hpT.2.2.2.1]; exact hi)), (congrArg Int32.toInt (hpT.2.2.2.2.1 1 4 (by decide) (by decide))).trans hR.1, (congrArg Int32.toInt (hpT.2.2.2.2.1 1 5 (by decide) (by decide))).trans hR.2, hS1, hS2, rg, tdC_tl htd1 hpT.2.2.2.2, tdR_lw htd2 hpM.2.2.2, lE_obs hle hpT.1 hpT.2.1 hpM.1.1 (fun q => hpM.1.2.trans q) hpM.2.2.2⟩ hl
set_option maxRecDepth 100000 in
theorem lq_c8 {p : Program} {l : Launch} {e : Env} {s : State} {m : MethodId} {below : List Frame} {meth : Method} {c : Code} {D : va_G} {cy : Nat → ClassId} {A1 A2 : Nat → Nat → Nat} {M1 M2 : ti_M} {b q3 L cells slots : Nat} {iv : Int32} {xs : Nat → Int32} {H : Heap} {locs : List Loc} {ls : Array Slot} (Z : lq_Z p s m meth c D cy A1 A2 b L xs) (hcs : cells ≤ room_1.cells ∧ slots ≤ room_1.slots) (hw : lq_H s D cy A1 A2 q3 M1 M2 H locs) (hI : lq_I M1 M2) (hi : 0 ≤ iv.toInt ∧ iv.toInt + 6 ≤ L) (hl : lv_has ls 7 [(4, .int iv), (3, .ref q3), (2, .ref (A2 60 0)), (1, .ref (A1 0 0)), (0, .ref b)]) (kk : ∀ (M1 M2 : ti_M) (H : Heap) (locs : List Loc) (ls : Array Slot), lq_H s D cy A1 A2 q3 M1 M2 H locs → lq_I M1 M2 → lv_has ls 7 [(4, .int iv), (3, .ref q3), (2, .ref (A2 60 0)), (1, .ref (A1 0 0)), (0, .ref b)] → W p l e room_1 s m #[Value.ref b] below meth c H locs cells slots (lw_Z below #[Value.ref b] s) (F0 m 1521 ls [])) : W p l e room_1 s m #[Value.ref b] below meth c H locs cells slots (lw_Z below #[Value.ref b] s) (F0 m 483 ls []) := by
  have C := Z.1
  have hA := Z.2.1
  have hx := C.1
  have hb := C.2.1
  have hbA : ¬ lq_F s b := Nat.not_le.mpr Z.2.2.2.1
  have hL := Z.2.2.2.2.2.2.1
  have hE := Z.2.2.2.2.2.2.2
  obtain ⟨Tc, Tm, hF1, hF2, hE0, hB0, hR1, hR2, hS1, hS2, rg, htd1, htd2, hle⟩ := hI
  have hR := And.intro hR1 hR2
  have hS := And.intro hS1 hS2
  obtain ⟨t9, tx9, s9, p9, si9, u9, c9, hb9⟩ := id hle
  obtain ⟨ht9, hkC9, hkR9, hW9, ⟨hw9, h19⟩, hU9, hi9⟩ := id hb9
  have m9 : 0 ≤ s9 2 ∧ s9 2 ≤ 120 := by
    have b : ib 0 120 (tY M2 60 34 0) := hF2.1.2.1 34 0 (by decide)
    rw [hkR9.2.1.1.1]; exact b
  refine lv_aload_n hx hb dL_law_483 rfl (lv_at hl 3 rfl) ?_
  refine lv_aload_n hx hb dL_law_484 rfl (lv_at hl 4 rfl) ?_
  refine lv_iload hx hb dL_law_485 (lv_at hl 0 rfl) ?_
  refine lv_iconst (v := 1) hx hb dL_law_487 (by decide) ?_
  refine lv_iadd hx hb dL_law_488 ?_
  refine va_sld (i := iv + 1) hx hb Z.2.2.1 Z.2.2.2.1 hbA hw.2.2.1 (lq_in hi hL (by decide) (by decide)) dL_law_489 ?_
  refine lq_callTi (av := [.int (xs (iv + 1 : Int32).toNatClampNeg)]) C hA hw (z_X9_go l D A1 cy hA.1 M1 hF1.1 hF1 t9 ht9 tx9 s9 p9 u9 c9 hkC9 h19 hw9.2.1.2 (xs (iv + 1 : Int32).toNatClampNeg)) ⟨ml_L_58, ym_X9_go, yv_X9_go, yi_X9_go, yc_X9_go⟩ yd_X9_go rfl rfl hl.1 (Nat.le_of_ble_eq_true rfl) ⟨by decide, by decide⟩ hcs dL_law_490 (fun rT N1 H locs hpT hw => ?_)
  refine lv_pop hx hb dL_law_493 rfl ?_
  refine lv_aload_n hx hb dL_law_494 rfl (lv_at hl 2 rfl) ?_
  refine lv_aload_n hx hb dL_law_495 rfl (lv_at hl 4 rfl) ?_
  refine lv_iload hx hb dL_law_496 (lv_at hl 0 rfl) ?_
  refine lv_iconst (v := 1) hx hb dL_law_498 (by decide) ?_
  refine lv_iadd hx hb dL_law_499 ?_
  refine va_sld (i := iv + 1) hx hb Z.2.2.1 Z.2.2.2.1 hbA hw.2.2.1 (lq_in hi hL (by decide) (by decide)) dL_law_500 ?_
  refine lq_callMi (av := [.int (xs (iv + 1 : Int32).toNatClampNeg)]) C hA hw (z_X10_go l D A2 cy hA.2.1 M2 hF2.1 hF2 (xs (iv + 1 : Int32).toNatClampNeg) tx9 s9 p9 u9 c9 hW9.1 hW9 hw9 h19 hkR9) ⟨ml_L_61, ym_X10_go, yv_X10_go, yi_X10_go, yc_X10_go⟩ yd_X10_go rfl rfl hl.1 (Nat.le_of_ble_eq_true rfl) ⟨by decide, by decide⟩ hcs dL_law_501 (fun rM N2 H locs hpM hw => ?_)
  refine lv_pop hx hb dL_law_504 rfl ?_
  have q := lq_sp hF1 hE0 hB0 hR hS htd1 htd2 hpT hpM (fun _ => rfl) (fun a b => a b) (fun a b => a b) (fun i y => ⟨_, _, _, _, _, _, _, lB_no hb9 i y⟩) (fun q g i x y => ⟨_, _, _, _, _, _, _, lB_go hb9 g i m9.1 (by omega) (by rw [show (((xs (iv + 1 : Int32).toNatClampNeg).toInt.toNat : Nat) : Int) = (xs (iv + 1 : Int32).toNatClampNeg).toInt by omega]) x y⟩)
  refine lv_goto (tgt := 1521) hx hb dL_law_505 (by decide) ?_
  exact kk N1 N2 H locs ls hw q.2 hl
set_option maxRecDepth 100000 in
theorem lq_c9 {p : Program} {l : Launch} {e : Env} {s : State} {m : MethodId} {below : List Frame} {meth : Method} {c : Code} {D : va_G} {cy : Nat → ClassId} {A1 A2 : Nat → Nat → Nat} {M1 M2 : ti_M} {b q3 L cells slots : Nat} {iv : Int32} {xs : Nat → Int32} {H : Heap} {locs : List Loc} {ls : Array Slot} (Z : lq_Z p s m meth c D cy A1 A2 b L xs) (hcs : cells ≤ room_1.cells ∧ slots ≤ room_1.slots) (hw : lq_H s D cy A1 A2 q3 M1 M2 H locs) (hI : lq_I M1 M2) (hi : 0 ≤ iv.toInt ∧ iv.toInt + 6 ≤ L) (hl : lv_has ls 7 [(4, .int iv), (3, .ref q3), (2, .ref (A2 60 0)), (1, .ref (A1 0 0)), (0, .ref b)]) (kk : ∀ (M1 M2 : ti_M) (H : Heap) (locs : List Loc) (ls : Array Slot), lq_H s D cy A1 A2 q3 M1 M2 H locs → lq_I M1 M2 → lv_has ls 7 [(4, .int iv), (3, .ref q3), (2, .ref (A2 60 0)), (1, .ref (A1 0 0)), (0, .ref b)] → W p l e room_1 s m #[Value.ref b] below meth c H locs cells slots (lw_Z below #[Value.ref b] s) (F0 m 1521 ls [])) : W p l e room_1 s m #[Value.ref b] below meth c H locs cells slots (lw_Z below #[Value.ref b] s) (F0 m 508 ls []) := by
  have C := Z.1
  have hA := Z.2.1
  have hx := C.1
  have hb := C.2.1
  have hbA : ¬ lq_F s b := Nat.not_le.mpr Z.2.2.2.1
  have hL := Z.2.2.2.2.2.2.1
  have hE := Z.2.2.2.2.2.2.2
  obtain ⟨Tc, Tm, hF1, hF2, hE0, hB0, hR1, hR2, hS1, hS2, rg, htd1, htd2, hle⟩ := hI
  have hR := And.intro hR1 hR2
  have hS := And.intro hS1 hS2
  obtain ⟨t9, tx9, s9, p9, si9, u9, c9, hb9⟩ := id hle
  obtain ⟨ht9, hkC9, hkR9, hW9, ⟨hw9, h19⟩, hU9, hi9⟩ := id hb9
  have m9 : 0 ≤ s9 2 ∧ s9 2 ≤ 120 := by
    have b : ib 0 120 (tY M2 60 34 0) := hF2.1.2.1 34 0 (by decide)
    rw [hkR9.2.1.1.1]; exact b
  refine lv_aload_n hx hb dL_law_508 rfl (lv_at hl 3 rfl) ?_
  refine lv_aload_n hx hb dL_law_509 rfl (lv_at hl 4 rfl) ?_
  refine lv_iload hx hb dL_law_510 (lv_at hl 0 rfl) ?_
  refine lv_iconst (v := 1) hx hb dL_law_512 (by decide) ?_
  refine lv_iadd hx hb dL_law_513 ?_
  refine va_sld (i := iv + 1) hx hb Z.2.2.1 Z.2.2.2.1 hbA hw.2.2.1 (lq_in hi hL (by decide) (by decide)) dL_law_514 ?_
  refine lq_callTi (av := [.int (xs (iv + 1 : Int32).toNatClampNeg)]) C hA hw (z_X9_join l D A1 cy hA.1 M1 hF1.1 hF1 t9 ht9 tx9 s9 p9 u9 c9 hkC9 (xs (iv + 1 : Int32).toNatClampNeg)) ⟨ml_L_62, ym_X9_join, yv_X9_join, yi_X9_join, yc_X9_join⟩ yd_X9_join rfl rfl hl.1 (Nat.le_of_ble_eq_true rfl) ⟨by decide, by decide⟩ hcs dL_law_515 (fun rT N1 H locs hpT hw => ?_)
  refine lv_pop hx hb dL_law_518 rfl ?_
  refine lv_aload_n hx hb dL_law_519 rfl (lv_at hl 2 rfl) ?_
  refine lv_aload_n hx hb dL_law_520 rfl (lv_at hl 4 rfl) ?_
  refine lv_iload hx hb dL_law_521 (lv_at hl 0 rfl) ?_
  refine lv_iconst (v := 1) hx hb dL_law_523 (by decide) ?_
  refine lv_iadd hx hb dL_law_524 ?_
  refine va_sld (i := iv + 1) hx hb Z.2.2.1 Z.2.2.2.1 hbA hw.2.2.1 (lq_in hi hL (by decide) (by decide)) dL_law_525 ?_
  refine lq_callMi (av := [.int (xs (iv + 1 : Int32).toNatClampNeg)]) C hA hw (z_X10_join l D A2 cy hA.2.1 M2 hF2.1 hF2 (xs (iv + 1 : Int32).toNatClampNeg) tx9 s9 p9 u9 c9 hW9.1 hW9 hw9 h19 hkR9) ⟨ml_L_65, ym_X10_join, yv_X10_join, yi_X10_join, yc_X10_join⟩ yd_X10_join rfl rfl hl.1 (Nat.le_of_ble_eq_true rfl) ⟨by decide, by decide⟩ hcs dL_law_526 (fun rM N2 H locs hpM hw => ?_)
  refine lv_pop hx hb dL_law_529 rfl ?_
  have q := lq_sp hF1 hE0 hB0 hR hS htd1 htd2 hpT hpM (fun q => po_ap hw9 hW9 q.1 q.2.1 q.2.2) (fun a b => a b) (fun a b => a b) (fun i y => ⟨_, _, _, _, _, _, _, lB_no hb9 i y⟩) (fun q g i x y => ⟨_, _, _, _, _, _, _, lB_st hb9 g i x y (wF_ap hW9 hw9 q.1 q.2.1 q.2.2).1 ((ap_k ⟨by decide, by decide⟩).trans h19) (ap_k ⟨by decide, by decide⟩)⟩)
  refine lv_goto (tgt := 1521) hx hb dL_law_530 (by decide) ?_
  exact kk N1 N2 H locs ls hw q.2 hl
set_option maxRecDepth 100000 in
theorem lq_c10 {p : Program} {l : Launch} {e : Env} {s : State} {m : MethodId} {below : List Frame} {meth : Method} {c : Code} {D : va_G} {cy : Nat → ClassId} {A1 A2 : Nat → Nat → Nat} {M1 M2 : ti_M} {b q3 L cells slots : Nat} {iv : Int32} {xs : Nat → Int32} {H : Heap} {locs : List Loc} {ls : Array Slot} (Z : lq_Z p s m meth c D cy A1 A2 b L xs) (hcs : cells ≤ room_1.cells ∧ slots ≤ room_1.slots) (hw : lq_H s D cy A1 A2 q3 M1 M2 H locs) (hI : lq_I M1 M2) (hi : 0 ≤ iv.toInt ∧ iv.toInt + 6 ≤ L) (hl : lv_has ls 7 [(4, .int iv), (3, .ref q3), (2, .ref (A2 60 0)), (1, .ref (A1 0 0)), (0, .ref b)]) (kk : ∀ (M1 M2 : ti_M) (H : Heap) (locs : List Loc) (ls : Array Slot), lq_H s D cy A1 A2 q3 M1 M2 H locs → lq_I M1 M2 → lv_has ls 7 [(4, .int iv), (3, .ref q3), (2, .ref (A2 60 0)), (1, .ref (A1 0 0)), (0, .ref b)] → W p l e room_1 s m #[Value.ref b] below meth c H locs cells slots (lw_Z below #[Value.ref b] s) (F0 m 1521 ls [])) : W p l e room_1 s m #[Value.ref b] below meth c H locs cells slots (lw_Z below #[Value.ref b] s) (F0 m 533 ls []) := by
  have C := Z.1
  have hA := Z.2.1
  have hx := C.1
  have hb := C.2.1
  have hbA : ¬ lq_F s b := Nat.not_le.mpr Z.2.2.2.1
  have hL := Z.2.2.2.2.2.2.1
  have hE := Z.2.2.2.2.2.2.2
  obtain ⟨Tc, Tm, hF1, hF2, hE0, hB0, hR1, hR2, hS1, hS2, rg, htd1, htd2, hle⟩ := hI
  have hR := And.intro hR1 hR2
  have hS := And.intro hS1 hS2
  obtain ⟨t9, tx9, s9, p9, si9, u9, c9, hb9⟩ := id hle
  obtain ⟨ht9, hkC9, hkR9, hW9, ⟨hw9, h19⟩, hU9, hi9⟩ := id hb9
  have m9 : 0 ≤ s9 2 ∧ s9 2 ≤ 120 := by
    have b : ib 0 120 (tY M2 60 34 0) := hF2.1.2.1 34 0 (by decide)
    rw [hkR9.2.1.1.1]; exact b
  refine lv_aload_n hx hb dL_law_533 rfl (lv_at hl 3 rfl) ?_
  refine lv_aload_n hx hb dL_law_534 rfl (lv_at hl 4 rfl) ?_
  refine lv_iload hx hb dL_law_535 (lv_at hl 0 rfl) ?_
  refine lv_iconst (v := 1) hx hb dL_law_537 (by decide) ?_
  refine lv_iadd hx hb dL_law_538 ?_
  refine va_sld (i := iv + 1) hx hb Z.2.2.1 Z.2.2.2.1 hbA hw.2.2.1 (lq_in hi hL (by decide) (by decide)) dL_law_539 ?_
  refine lq_callTi (av := [.int (xs (iv + 1 : Int32).toNatClampNeg)]) C hA hw (z_X9_out l D A1 cy hA.1 M1 hF1.1 hF1 t9 ht9 tx9 s9 p9 u9 c9 hkC9 (xs (iv + 1 : Int32).toNatClampNeg)) ⟨ml_L_66, ym_X9_out, yv_X9_out, yi_X9_out, yc_X9_out⟩ yd_X9_out rfl rfl hl.1 (Nat.le_of_ble_eq_true rfl) ⟨by decide, by decide⟩ hcs dL_law_540 (fun rT N1 H locs hpT hw => ?_)
  refine lv_pop hx hb dL_law_543 rfl ?_
  refine lv_aload_n hx hb dL_law_544 rfl (lv_at hl 2 rfl) ?_
  refine lv_aload_n hx hb dL_law_545 rfl (lv_at hl 4 rfl) ?_
  refine lv_iload hx hb dL_law_546 (lv_at hl 0 rfl) ?_
  refine lv_iconst (v := 1) hx hb dL_law_548 (by decide) ?_
  refine lv_iadd hx hb dL_law_549 ?_
  refine va_sld (i := iv + 1) hx hb Z.2.2.1 Z.2.2.2.1 hbA hw.2.2.1 (lq_in hi hL (by decide) (by decide)) dL_law_550 ?_
  refine lq_callMi (av := [.int (xs (iv + 1 : Int32).toNatClampNeg)]) C hA hw (z_X10_out l D A2 cy hA.2.1 M2 hF2.1 hF2 (xs (iv + 1 : Int32).toNatClampNeg) tx9 s9 p9 u9 c9 hW9.1 hW9 hw9 h19 hkR9) ⟨ml_L_70, ym_X10_out, yv_X10_out, yi_X10_out, yc_X10_out⟩ yd_X10_out rfl rfl hl.1 (Nat.le_of_ble_eq_true rfl) ⟨by decide, by decide⟩ hcs dL_law_551 (fun rM N2 H locs hpM hw => ?_)
  refine lv_pop hx hb dL_law_554 rfl ?_
  have q := lq_sp hF1 hE0 hB0 hR hS htd1 htd2 hpT hpM (fun _ => rfl) (fun a b => a b) (fun a b => a b) (fun i y => ⟨_, _, _, _, _, _, _, lB_no hb9 i y⟩) (fun q g i x y => ⟨_, _, _, _, _, _, _, lB_st hb9 g i x y (wF_out hW9 hw9 q.1 q.2.1 q.2.2) ((rm_k ⟨by decide, by decide⟩).trans h19) (rm_k ⟨by decide, by decide⟩)⟩)
  refine lv_goto (tgt := 1521) hx hb dL_law_555 (by decide) ?_
  exact kk N1 N2 H locs ls hw q.2 hl
set_option maxRecDepth 100000 in
theorem lq_c11 {p : Program} {l : Launch} {e : Env} {s : State} {m : MethodId} {below : List Frame} {meth : Method} {c : Code} {D : va_G} {cy : Nat → ClassId} {A1 A2 : Nat → Nat → Nat} {M1 M2 : ti_M} {b q3 L cells slots : Nat} {iv : Int32} {xs : Nat → Int32} {H : Heap} {locs : List Loc} {ls : Array Slot} (Z : lq_Z p s m meth c D cy A1 A2 b L xs) (hcs : cells ≤ room_1.cells ∧ slots ≤ room_1.slots) (hw : lq_H s D cy A1 A2 q3 M1 M2 H locs) (hI : lq_I M1 M2) (hi : 0 ≤ iv.toInt ∧ iv.toInt + 6 ≤ L) (hl : lv_has ls 7 [(4, .int iv), (3, .ref q3), (2, .ref (A2 60 0)), (1, .ref (A1 0 0)), (0, .ref b)]) (kk : ∀ (M1 M2 : ti_M) (H : Heap) (locs : List Loc) (ls : Array Slot), lq_H s D cy A1 A2 q3 M1 M2 H locs → lq_I M1 M2 → lv_has ls 7 [(4, .int iv), (3, .ref q3), (2, .ref (A2 60 0)), (1, .ref (A1 0 0)), (0, .ref b)] → W p l e room_1 s m #[Value.ref b] below meth c H locs cells slots (lw_Z below #[Value.ref b] s) (F0 m 1521 ls [])) : W p l e room_1 s m #[Value.ref b] below meth c H locs cells slots (lw_Z below #[Value.ref b] s) (F0 m 558 ls []) := by
  have C := Z.1
  have hA := Z.2.1
  have hx := C.1
  have hb := C.2.1
  have hbA : ¬ lq_F s b := Nat.not_le.mpr Z.2.2.2.1
  have hL := Z.2.2.2.2.2.2.1
  have hE := Z.2.2.2.2.2.2.2
  obtain ⟨Tc, Tm, hF1, hF2, hE0, hB0, hR1, hR2, hS1, hS2, rg, htd1, htd2, hle⟩ := hI
  have hR := And.intro hR1 hR2
  have hS := And.intro hS1 hS2
  obtain ⟨t9, tx9, s9, p9, si9, u9, c9, hb9⟩ := id hle
  obtain ⟨ht9, hkC9, hkR9, hW9, ⟨hw9, h19⟩, hU9, hi9⟩ := id hb9
  have m9 : 0 ≤ s9 2 ∧ s9 2 ≤ 120 := by
    have b : ib 0 120 (tY M2 60 34 0) := hF2.1.2.1 34 0 (by decide)
    rw [hkR9.2.1.1.1]; exact b
  refine lv_aload_n hx hb dL_law_558 rfl (lv_at hl 3 rfl) ?_
  refine lv_aload_n hx hb dL_law_559 rfl (lv_at hl 4 rfl) ?_
  refine lv_iload hx hb dL_law_560 (lv_at hl 0 rfl) ?_
  refine lv_iconst (v := 1) hx hb dL_law_562 (by decide) ?_
  refine lv_iadd hx hb dL_law_563 ?_
  refine va_sld (i := iv + 1) hx hb Z.2.2.1 Z.2.2.2.1 hbA hw.2.2.1 (lq_in hi hL (by decide) (by decide)) dL_law_564 ?_
  refine lv_aload_n hx hb dL_law_565 rfl (lv_at hl 4 rfl) ?_
  refine lv_iload hx hb dL_law_566 (lv_at hl 0 rfl) ?_
  refine lv_iconst (v := 2) hx hb dL_law_568 (by decide) ?_
  refine lv_iadd hx hb dL_law_569 ?_
  refine va_sld (i := iv + 2) hx hb Z.2.2.1 Z.2.2.2.1 hbA hw.2.2.1 (lq_in hi hL (by decide) (by decide)) dL_law_570 ?_
  refine lv_aload_n hx hb dL_law_571 rfl (lv_at hl 4 rfl) ?_
  refine lv_iload hx hb dL_law_572 (lv_at hl 0 rfl) ?_
  refine lv_iconst (v := 3) hx hb dL_law_574 (by decide) ?_
  refine lv_iadd hx hb dL_law_575 ?_
  refine va_sld (i := iv + 3) hx hb Z.2.2.1 Z.2.2.2.1 hbA hw.2.2.1 (lq_in hi hL (by decide) (by decide)) dL_law_576 ?_
  refine lq_callTi (av := [.int (xs (iv + 1 : Int32).toNatClampNeg), .int (xs (iv + 2 : Int32).toNatClampNeg), .int (xs (iv + 3 : Int32).toNatClampNeg)]) C hA hw (z_X9_swap l D A1 cy hA.1 M1 hF1.1 hF1 t9 ht9 tx9 s9 p9 u9 c9 hkC9 (xs (iv + 1 : Int32).toNatClampNeg) (xs (iv + 2 : Int32).toNatClampNeg) (xs (iv + 3 : Int32).toNatClampNeg)) ⟨ml_L_71, ym_X9_swap, yv_X9_swap, yi_X9_swap, yc_X9_swap⟩ yd_X9_swap rfl rfl hl.1 (Nat.le_of_ble_eq_true rfl) ⟨by decide, by decide⟩ hcs dL_law_577 (fun rT N1 H locs hpT hw => ?_)
  refine lv_pop hx hb dL_law_580 rfl ?_
  refine lv_aload_n hx hb dL_law_581 rfl (lv_at hl 2 rfl) ?_
  refine lv_aload_n hx hb dL_law_582 rfl (lv_at hl 4 rfl) ?_
  refine lv_iload hx hb dL_law_583 (lv_at hl 0 rfl) ?_
  refine lv_iconst (v := 1) hx hb dL_law_585 (by decide) ?_
  refine lv_iadd hx hb dL_law_586 ?_
  refine va_sld (i := iv + 1) hx hb Z.2.2.1 Z.2.2.2.1 hbA hw.2.2.1 (lq_in hi hL (by decide) (by decide)) dL_law_587 ?_
  refine lv_aload_n hx hb dL_law_588 rfl (lv_at hl 4 rfl) ?_
  refine lv_iload hx hb dL_law_589 (lv_at hl 0 rfl) ?_
  refine lv_iconst (v := 2) hx hb dL_law_591 (by decide) ?_
  refine lv_iadd hx hb dL_law_592 ?_
  refine va_sld (i := iv + 2) hx hb Z.2.2.1 Z.2.2.2.1 hbA hw.2.2.1 (lq_in hi hL (by decide) (by decide)) dL_law_593 ?_
  refine lv_aload_n hx hb dL_law_594 rfl (lv_at hl 4 rfl) ?_
  refine lv_iload hx hb dL_law_595 (lv_at hl 0 rfl) ?_
  refine lv_iconst (v := 3) hx hb dL_law_597 (by decide) ?_
  refine lv_iadd hx hb dL_law_598 ?_
  refine va_sld (i := iv + 3) hx hb Z.2.2.1 Z.2.2.2.1 hbA hw.2.2.1 (lq_in hi hL (by decide) (by decide)) dL_law_599 ?_
  refine lq_callMi (av := [.int (xs (iv + 1 : Int32).toNatClampNeg), .int (xs (iv + 2 : Int32).toNatClampNeg), .int (xs (iv + 3 : Int32).toNatClampNeg)]) C hA hw (z_X10_swap l D A2 cy hA.2.1 M2 hF2.1 hF2 (xs (iv + 1 : Int32).toNatClampNeg) (xs (iv + 2 : Int32).toNatClampNeg) (xs (iv + 3 : Int32).toNatClampNeg) tx9 s9 p9 u9 c9 hW9.1 hW9 hw9 h19 hkR9) ⟨ml_L_75, ym_X10_swap, yv_X10_swap, yi_X10_swap, yc_X10_swap⟩ yd_X10_swap rfl rfl hl.1 (Nat.le_of_ble_eq_true rfl) ⟨by decide, by decide⟩ hcs dL_law_600 (fun rM N2 H locs hpM hw => ?_)
  refine lv_pop hx hb dL_law_603 rfl ?_
  have q := lq_sp hF1 hE0 hB0 hR hS htd1 htd2 hpT hpM (fun _ => rfl) (fun a b => a b) (fun a b => a b) (fun i y => ⟨_, _, _, _, _, _, _, lB_no hb9 i y⟩) (fun q g i x y => ⟨_, _, _, _, _, _, _, lB_st hb9 g i x y (wF_sw hW9 hw9 q.1.1 q.1.2.1 q.1.2.2 q.2.1.1 q.2.1.2.1 q.2.1.2.2) ((sw_lo (by decide)).trans h19) (sw_lo (by decide))⟩)
  refine lv_goto (tgt := 1521) hx hb dL_law_604 (by decide) ?_
  exact kk N1 N2 H locs ls hw q.2 hl
set_option maxRecDepth 100000 in
theorem lq_c12 {p : Program} {l : Launch} {e : Env} {s : State} {m : MethodId} {below : List Frame} {meth : Method} {c : Code} {D : va_G} {cy : Nat → ClassId} {A1 A2 : Nat → Nat → Nat} {M1 M2 : ti_M} {b q3 L cells slots : Nat} {iv : Int32} {xs : Nat → Int32} {H : Heap} {locs : List Loc} {ls : Array Slot} (Z : lq_Z p s m meth c D cy A1 A2 b L xs) (hcs : cells ≤ room_1.cells ∧ slots ≤ room_1.slots) (hw : lq_H s D cy A1 A2 q3 M1 M2 H locs) (hI : lq_I M1 M2) (hi : 0 ≤ iv.toInt ∧ iv.toInt + 6 ≤ L) (hl : lv_has ls 7 [(4, .int iv), (3, .ref q3), (2, .ref (A2 60 0)), (1, .ref (A1 0 0)), (0, .ref b)]) (kk : ∀ (M1 M2 : ti_M) (H : Heap) (locs : List Loc) (ls : Array Slot), lq_H s D cy A1 A2 q3 M1 M2 H locs → lq_I M1 M2 → lv_has ls 7 [(4, .int iv), (3, .ref q3), (2, .ref (A2 60 0)), (1, .ref (A1 0 0)), (0, .ref b)] → W p l e room_1 s m #[Value.ref b] below meth c H locs cells slots (lw_Z below #[Value.ref b] s) (F0 m 1521 ls [])) : W p l e room_1 s m #[Value.ref b] below meth c H locs cells slots (lw_Z below #[Value.ref b] s) (F0 m 607 ls []) := by
  have C := Z.1
  have hA := Z.2.1
  have hx := C.1
  have hb := C.2.1
  have hbA : ¬ lq_F s b := Nat.not_le.mpr Z.2.2.2.1
  have hL := Z.2.2.2.2.2.2.1
  have hE := Z.2.2.2.2.2.2.2
  obtain ⟨Tc, Tm, hF1, hF2, hE0, hB0, hR1, hR2, hS1, hS2, rg, htd1, htd2, hle⟩ := hI
  have hR := And.intro hR1 hR2
  have hS := And.intro hS1 hS2
  obtain ⟨t9, tx9, s9, p9, si9, u9, c9, hb9⟩ := id hle
  obtain ⟨ht9, hkC9, hkR9, hW9, ⟨hw9, h19⟩, hU9, hi9⟩ := id hb9
  have m9 : 0 ≤ s9 2 ∧ s9 2 ≤ 120 := by
    have b : ib 0 120 (tY M2 60 34 0) := hF2.1.2.1 34 0 (by decide)
    rw [hkR9.2.1.1.1]; exact b
  refine lv_aload_n hx hb dL_law_607 rfl (lv_at hl 3 rfl) ?_
  refine lv_aload_n hx hb dL_law_608 rfl (lv_at hl 4 rfl) ?_
  refine lv_iload hx hb dL_law_609 (lv_at hl 0 rfl) ?_
  refine lv_iconst (v := 1) hx hb dL_law_611 (by decide) ?_
  refine lv_iadd hx hb dL_law_612 ?_
  refine va_sld (i := iv + 1) hx hb Z.2.2.1 Z.2.2.2.1 hbA hw.2.2.1 (lq_in hi hL (by decide) (by decide)) dL_law_613 ?_
  refine lv_aload_n hx hb dL_law_614 rfl (lv_at hl 4 rfl) ?_
  refine lv_iload hx hb dL_law_615 (lv_at hl 0 rfl) ?_
  refine lv_iconst (v := 2) hx hb dL_law_617 (by decide) ?_
  refine lv_iadd hx hb dL_law_618 ?_
  refine va_sld (i := iv + 2) hx hb Z.2.2.1 Z.2.2.2.1 hbA hw.2.2.1 (lq_in hi hL (by decide) (by decide)) dL_law_619 ?_
  refine lq_callTi (av := [.int (xs (iv + 1 : Int32).toNatClampNeg), .int (xs (iv + 2 : Int32).toNatClampNeg)]) C hA hw (z_X9_kneel l D A1 cy hA.1 M1 hF1.1 hF1 t9 ht9 tx9 s9 p9 u9 c9 hkC9 (xs (iv + 1 : Int32).toNatClampNeg) (xs (iv + 2 : Int32).toNatClampNeg)) ⟨ml_L_76, ym_X9_kneel, yv_X9_kneel, yi_X9_kneel, yc_X9_kneel⟩ yd_X9_kneel rfl rfl hl.1 (Nat.le_of_ble_eq_true rfl) ⟨by decide, by decide⟩ hcs dL_law_620 (fun rT N1 H locs hpT hw => ?_)
  refine lv_pop hx hb dL_law_623 rfl ?_
  refine lv_aload_n hx hb dL_law_624 rfl (lv_at hl 2 rfl) ?_
  refine lv_aload_n hx hb dL_law_625 rfl (lv_at hl 4 rfl) ?_
  refine lv_iload hx hb dL_law_626 (lv_at hl 0 rfl) ?_
  refine lv_iconst (v := 1) hx hb dL_law_628 (by decide) ?_
  refine lv_iadd hx hb dL_law_629 ?_
  refine va_sld (i := iv + 1) hx hb Z.2.2.1 Z.2.2.2.1 hbA hw.2.2.1 (lq_in hi hL (by decide) (by decide)) dL_law_630 ?_
  refine lv_aload_n hx hb dL_law_631 rfl (lv_at hl 4 rfl) ?_
  refine lv_iload hx hb dL_law_632 (lv_at hl 0 rfl) ?_
  refine lv_iconst (v := 2) hx hb dL_law_634 (by decide) ?_
  refine lv_iadd hx hb dL_law_635 ?_
  refine va_sld (i := iv + 2) hx hb Z.2.2.1 Z.2.2.2.1 hbA hw.2.2.1 (lq_in hi hL (by decide) (by decide)) dL_law_636 ?_
  refine lq_callMi (av := [.int (xs (iv + 1 : Int32).toNatClampNeg), .int (xs (iv + 2 : Int32).toNatClampNeg)]) C hA hw (z_X10_kneel l D A2 cy hA.2.1 M2 hF2.1 hF2 (xs (iv + 1 : Int32).toNatClampNeg) (xs (iv + 2 : Int32).toNatClampNeg) tx9 s9 p9 u9 c9 hW9.1 hW9 hw9 h19 hkR9) ⟨ml_L_80, ym_X10_kneel, yv_X10_kneel, yi_X10_kneel, yc_X10_kneel⟩ yd_X10_kneel rfl rfl hl.1 (Nat.le_of_ble_eq_true rfl) ⟨by decide, by decide⟩ hcs dL_law_637 (fun rM N2 H locs hpM hw => ?_)
  refine lv_pop hx hb dL_law_640 rfl ?_
  have q := lq_sp hF1 hE0 hB0 hR hS htd1 htd2 hpT hpM (fun _ => rfl) (fun a b => a b) (fun a b => a b) (fun i y => ⟨_, _, _, _, _, _, _, lB_no hb9 i y⟩) (fun q g i x y => ⟨_, _, _, _, _, _, _, lB_st hb9 g i x y (wF_k hW9 hw9 (Or.inl (by have a1 := q.1; have a2 := q.2; have a3 := hW9.1; omega))) ((su_n (by omega)).trans h19) (su_n (by omega))⟩)
  refine lv_goto (tgt := 1521) hx hb dL_law_641 (by decide) ?_
  exact kk N1 N2 H locs ls hw q.2 hl
set_option maxRecDepth 100000 in
theorem lq_c13 {p : Program} {l : Launch} {e : Env} {s : State} {m : MethodId} {below : List Frame} {meth : Method} {c : Code} {D : va_G} {cy : Nat → ClassId} {A1 A2 : Nat → Nat → Nat} {M1 M2 : ti_M} {b q3 L cells slots : Nat} {iv : Int32} {xs : Nat → Int32} {H : Heap} {locs : List Loc} {ls : Array Slot} (Z : lq_Z p s m meth c D cy A1 A2 b L xs) (hcs : cells ≤ room_1.cells ∧ slots ≤ room_1.slots) (hw : lq_H s D cy A1 A2 q3 M1 M2 H locs) (hI : lq_I M1 M2) (hi : 0 ≤ iv.toInt ∧ iv.toInt + 6 ≤ L) (hl : lv_has ls 7 [(4, .int iv), (3, .ref q3), (2, .ref (A2 60 0)), (1, .ref (A1 0 0)), (0, .ref b)]) (kk : ∀ (M1 M2 : ti_M) (H : Heap) (locs : List Loc) (ls : Array Slot), lq_H s D cy A1 A2 q3 M1 M2 H locs → lq_I M1 M2 → lv_has ls 7 [(4, .int iv), (3, .ref q3), (2, .ref (A2 60 0)), (1, .ref (A1 0 0)), (0, .ref b)] → W p l e room_1 s m #[Value.ref b] below meth c H locs cells slots (lw_Z below #[Value.ref b] s) (F0 m 1521 ls [])) : W p l e room_1 s m #[Value.ref b] below meth c H locs cells slots (lw_Z below #[Value.ref b] s) (F0 m 644 ls []) := by
  have C := Z.1
  have hA := Z.2.1
  have hx := C.1
  have hb := C.2.1
  have hbA : ¬ lq_F s b := Nat.not_le.mpr Z.2.2.2.1
  have hL := Z.2.2.2.2.2.2.1
  have hE := Z.2.2.2.2.2.2.2
  obtain ⟨Tc, Tm, hF1, hF2, hE0, hB0, hR1, hR2, hS1, hS2, rg, htd1, htd2, hle⟩ := hI
  have hR := And.intro hR1 hR2
  have hS := And.intro hS1 hS2
  obtain ⟨t9, tx9, s9, p9, si9, u9, c9, hb9⟩ := id hle
  obtain ⟨ht9, hkC9, hkR9, hW9, ⟨hw9, h19⟩, hU9, hi9⟩ := id hb9
  have m9 : 0 ≤ s9 2 ∧ s9 2 ≤ 120 := by
    have b : ib 0 120 (tY M2 60 34 0) := hF2.1.2.1 34 0 (by decide)
    rw [hkR9.2.1.1.1]; exact b
  refine lv_aload_n hx hb dL_law_644 rfl (lv_at hl 3 rfl) ?_
  refine lv_aload_n hx hb dL_law_645 rfl (lv_at hl 4 rfl) ?_
  refine lv_iload hx hb dL_law_646 (lv_at hl 0 rfl) ?_
  refine lv_iconst (v := 1) hx hb dL_law_648 (by decide) ?_
  refine lv_iadd hx hb dL_law_649 ?_
  refine va_sld (i := iv + 1) hx hb Z.2.2.1 Z.2.2.2.1 hbA hw.2.2.1 (lq_in hi hL (by decide) (by decide)) dL_law_650 ?_
  refine lq_callTi (av := [.int (xs (iv + 1 : Int32).toNatClampNeg)]) C hA hw (z_X9_cough l D A1 cy hA.1 M1 hF1.1 hF1 t9 ht9 tx9 s9 p9 u9 c9 hkC9 (xs (iv + 1 : Int32).toNatClampNeg)) ⟨ml_L_81, ym_X9_cough, yv_X9_cough, yi_X9_cough, yc_X9_cough⟩ yd_X9_cough rfl rfl hl.1 (Nat.le_of_ble_eq_true rfl) ⟨by decide, by decide⟩ hcs dL_law_651 (fun rT N1 H locs hpT hw => ?_)
  refine lv_pop hx hb dL_law_654 rfl ?_
  refine lv_aload_n hx hb dL_law_655 rfl (lv_at hl 2 rfl) ?_
  refine lv_aload_n hx hb dL_law_656 rfl (lv_at hl 4 rfl) ?_
  refine lv_iload hx hb dL_law_657 (lv_at hl 0 rfl) ?_
  refine lv_iconst (v := 1) hx hb dL_law_659 (by decide) ?_
  refine lv_iadd hx hb dL_law_660 ?_
  refine va_sld (i := iv + 1) hx hb Z.2.2.1 Z.2.2.2.1 hbA hw.2.2.1 (lq_in hi hL (by decide) (by decide)) dL_law_661 ?_
  refine lq_callMi (av := [.int (xs (iv + 1 : Int32).toNatClampNeg)]) C hA hw (z_X10_cough l D A2 cy hA.2.1 M2 hF2.1 hF2 (xs (iv + 1 : Int32).toNatClampNeg) tx9 s9 p9 u9 c9 hW9.1 hW9 hw9 h19 hkR9) ⟨ml_L_84, ym_X10_cough, yv_X10_cough, yi_X10_cough, yc_X10_cough⟩ yd_X10_cough rfl rfl hl.1 (Nat.le_of_ble_eq_true rfl) ⟨by decide, by decide⟩ hcs dL_law_662 (fun rM N2 H locs hpM hw => ?_)
  refine lv_pop hx hb dL_law_665 rfl ?_
  have q := lq_sp hF1 hE0 hB0 hR hS htd1 htd2 hpT hpM (fun _ => rfl) (fun a b => a b) (fun a b => a b) (fun i y => ⟨_, _, _, _, _, _, _, lB_no hb9 i y⟩) (fun q g i x y => ⟨_, _, _, _, _, _, _, lB_st hb9 g i x y (wF_k hW9 hw9 (Or.inr (Or.inl (by have a1 := q.1; have a2 := q.2; have a3 := hW9.1; omega)))) ((su_n (by omega)).trans h19) (su_n (by omega))⟩)
  refine lv_goto (tgt := 1521) hx hb dL_law_666 (by decide) ?_
  exact kk N1 N2 H locs ls hw q.2 hl
set_option maxRecDepth 100000 in
theorem lq_c14 {p : Program} {l : Launch} {e : Env} {s : State} {m : MethodId} {below : List Frame} {meth : Method} {c : Code} {D : va_G} {cy : Nat → ClassId} {A1 A2 : Nat → Nat → Nat} {M1 M2 : ti_M} {b q3 L cells slots : Nat} {iv : Int32} {xs : Nat → Int32} {H : Heap} {locs : List Loc} {ls : Array Slot} (Z : lq_Z p s m meth c D cy A1 A2 b L xs) (hcs : cells ≤ room_1.cells ∧ slots ≤ room_1.slots) (hw : lq_H s D cy A1 A2 q3 M1 M2 H locs) (hI : lq_I M1 M2) (hi : 0 ≤ iv.toInt ∧ iv.toInt + 6 ≤ L) (hl : lv_has ls 7 [(4, .int iv), (3, .ref q3), (2, .ref (A2 60 0)), (1, .ref (A1 0 0)), (0, .ref b)]) (kk : ∀ (M1 M2 : ti_M) (H : Heap) (locs : List Loc) (ls : Array Slot), lq_H s D cy A1 A2 q3 M1 M2 H locs → lq_I M1 M2 → lv_has ls 7 [(4, .int iv), (3, .ref q3), (2, .ref (A2 60 0)), (1, .ref (A1 0 0)), (0, .ref b)] → W p l e room_1 s m #[Value.ref b] below meth c H locs cells slots (lw_Z below #[Value.ref b] s) (F0 m 1521 ls [])) : W p l e room_1 s m #[Value.ref b] below meth c H locs cells slots (lw_Z below #[Value.ref b] s) (F0 m 669 ls []) := by
  have C := Z.1
  have hA := Z.2.1
  have hx := C.1
  have hb := C.2.1
  have hbA : ¬ lq_F s b := Nat.not_le.mpr Z.2.2.2.1
  have hL := Z.2.2.2.2.2.2.1
  have hE := Z.2.2.2.2.2.2.2
  obtain ⟨Tc, Tm, hF1, hF2, hE0, hB0, hR1, hR2, hS1, hS2, rg, htd1, htd2, hle⟩ := hI
  have hR := And.intro hR1 hR2
  have hS := And.intro hS1 hS2
  obtain ⟨t9, tx9, s9, p9, si9, u9, c9, hb9⟩ := id hle
  obtain ⟨ht9, hkC9, hkR9, hW9, ⟨hw9, h19⟩, hU9, hi9⟩ := id hb9
  have m9 : 0 ≤ s9 2 ∧ s9 2 ≤ 120 := by
    have b : ib 0 120 (tY M2 60 34 0) := hF2.1.2.1 34 0 (by decide)
    rw [hkR9.2.1.1.1]; exact b
  refine lv_aload_n hx hb dL_law_669 rfl (lv_at hl 3 rfl) ?_
  refine lv_aload_n hx hb dL_law_670 rfl (lv_at hl 4 rfl) ?_
  refine lv_iload hx hb dL_law_671 (lv_at hl 0 rfl) ?_
  refine lv_iconst (v := 1) hx hb dL_law_673 (by decide) ?_
  refine lv_iadd hx hb dL_law_674 ?_
  refine va_sld (i := iv + 1) hx hb Z.2.2.1 Z.2.2.2.1 hbA hw.2.2.1 (lq_in hi hL (by decide) (by decide)) dL_law_675 ?_
  refine lv_aload_n hx hb dL_law_676 rfl (lv_at hl 4 rfl) ?_
  refine lv_iload hx hb dL_law_677 (lv_at hl 0 rfl) ?_
  refine lv_iconst (v := 2) hx hb dL_law_679 (by decide) ?_
  refine lv_iadd hx hb dL_law_680 ?_
  refine va_sld (i := iv + 2) hx hb Z.2.2.1 Z.2.2.2.1 hbA hw.2.2.1 (lq_in hi hL (by decide) (by decide)) dL_law_681 ?_
  refine lq_callTi (av := [.int (xs (iv + 1 : Int32).toNatClampNeg), .int (xs (iv + 2 : Int32).toNatClampNeg)]) C hA hw (z_X9_move l D A1 cy hA.1 M1 hF1.1 hF1 t9 ht9 tx9 s9 p9 u9 c9 hkC9 (xs (iv + 1 : Int32).toNatClampNeg) (xs (iv + 2 : Int32).toNatClampNeg)) ⟨ml_L_85, ym_X9_move, yv_X9_move, yi_X9_move, yc_X9_move⟩ yd_X9_move rfl rfl hl.1 (Nat.le_of_ble_eq_true rfl) ⟨by decide, by decide⟩ hcs dL_law_682 (fun rT N1 H locs hpT hw => ?_)
  refine lv_pop hx hb dL_law_685 rfl ?_
  refine lv_aload_n hx hb dL_law_686 rfl (lv_at hl 2 rfl) ?_
  refine lv_aload_n hx hb dL_law_687 rfl (lv_at hl 4 rfl) ?_
  refine lv_iload hx hb dL_law_688 (lv_at hl 0 rfl) ?_
  refine lv_iconst (v := 1) hx hb dL_law_690 (by decide) ?_
  refine lv_iadd hx hb dL_law_691 ?_
  refine va_sld (i := iv + 1) hx hb Z.2.2.1 Z.2.2.2.1 hbA hw.2.2.1 (lq_in hi hL (by decide) (by decide)) dL_law_692 ?_
  refine lv_aload_n hx hb dL_law_693 rfl (lv_at hl 4 rfl) ?_
  refine lv_iload hx hb dL_law_694 (lv_at hl 0 rfl) ?_
  refine lv_iconst (v := 2) hx hb dL_law_696 (by decide) ?_
  refine lv_iadd hx hb dL_law_697 ?_
  refine va_sld (i := iv + 2) hx hb Z.2.2.1 Z.2.2.2.1 hbA hw.2.2.1 (lq_in hi hL (by decide) (by decide)) dL_law_698 ?_
  refine lq_callMi (av := [.int (xs (iv + 1 : Int32).toNatClampNeg), .int (xs (iv + 2 : Int32).toNatClampNeg)]) C hA hw (z_X10_move l D A2 cy hA.2.1 M2 hF2.1 hF2 (xs (iv + 1 : Int32).toNatClampNeg) (xs (iv + 2 : Int32).toNatClampNeg) tx9 s9 p9 u9 c9 hW9.1 hW9 hw9 h19 hkR9) ⟨ml_L_88, ym_X10_move, yv_X10_move, yi_X10_move, yc_X10_move⟩ yd_X10_move rfl rfl hl.1 (Nat.le_of_ble_eq_true rfl) ⟨by decide, by decide⟩ hcs dL_law_699 (fun rM N2 H locs hpM hw => ?_)
  refine lv_pop hx hb dL_law_702 rfl ?_
  have q := lq_sp hF1 hE0 hB0 hR hS htd1 htd2 hpT hpM (fun _ => rfl) (fun a b => a b) (fun a b => a b) (fun i y => ⟨_, _, _, _, _, _, _, lB_no hb9 i y⟩) (fun q g i x y => ⟨_, _, _, _, _, _, _, lB_st hb9 g i x y (wF_k hW9 hw9 (Or.inr (Or.inr (by have a1 := q.1; have a2 := q.2; have a3 := hW9.1; omega)))) ((su_n (by omega)).trans h19) (su_n (by omega))⟩)
  refine lv_goto (tgt := 1521) hx hb dL_law_703 (by decide) ?_
  exact kk N1 N2 H locs ls hw q.2 hl
set_option maxRecDepth 100000 in
theorem lq_c15 {p : Program} {l : Launch} {e : Env} {s : State} {m : MethodId} {below : List Frame} {meth : Method} {c : Code} {D : va_G} {cy : Nat → ClassId} {A1 A2 : Nat → Nat → Nat} {M1 M2 : ti_M} {b q3 L cells slots : Nat} {iv : Int32} {xs : Nat → Int32} {H : Heap} {locs : List Loc} {ls : Array Slot} (Z : lq_Z p s m meth c D cy A1 A2 b L xs) (hcs : cells ≤ room_1.cells ∧ slots ≤ room_1.slots) (hw : lq_H s D cy A1 A2 q3 M1 M2 H locs) (hI : lq_I M1 M2) (hi : 0 ≤ iv.toInt ∧ iv.toInt + 6 ≤ L) (hl : lv_has ls 7 [(4, .int iv), (3, .ref q3), (2, .ref (A2 60 0)), (1, .ref (A1 0 0)), (0, .ref b)]) (kk : ∀ (M1 M2 : ti_M) (H : Heap) (locs : List Loc) (ls : Array Slot), lq_H s D cy A1 A2 q3 M1 M2 H locs → lq_I M1 M2 → lv_has ls 7 [(4, .int iv), (3, .ref q3), (2, .ref (A2 60 0)), (1, .ref (A1 0 0)), (0, .ref b)] → W p l e room_1 s m #[Value.ref b] below meth c H locs cells slots (lw_Z below #[Value.ref b] s) (F0 m 1521 ls [])) : W p l e room_1 s m #[Value.ref b] below meth c H locs cells slots (lw_Z below #[Value.ref b] s) (F0 m 706 ls []) := by
  have C := Z.1
  have hA := Z.2.1
  have hx := C.1
  have hb := C.2.1
  have hbA : ¬ lq_F s b := Nat.not_le.mpr Z.2.2.2.1
  have hL := Z.2.2.2.2.2.2.1
  have hE := Z.2.2.2.2.2.2.2
  obtain ⟨Tc, Tm, hF1, hF2, hE0, hB0, hR1, hR2, hS1, hS2, rg, htd1, htd2, hle⟩ := hI
  have hR := And.intro hR1 hR2
  have hS := And.intro hS1 hS2
  obtain ⟨t9, tx9, s9, p9, si9, u9, c9, hb9⟩ := id hle
  obtain ⟨ht9, hkC9, hkR9, hW9, ⟨hw9, h19⟩, hU9, hi9⟩ := id hb9
  have m9 : 0 ≤ s9 2 ∧ s9 2 ≤ 120 := by
    have b : ib 0 120 (tY M2 60 34 0) := hF2.1.2.1 34 0 (by decide)
    rw [hkR9.2.1.1.1]; exact b
  refine lv_aload_n hx hb dL_law_706 rfl (lv_at hl 3 rfl) ?_
  refine lv_aload_n hx hb dL_law_707 rfl (lv_at hl 4 rfl) ?_
  refine lv_iload hx hb dL_law_708 (lv_at hl 0 rfl) ?_
  refine lv_iconst (v := 1) hx hb dL_law_710 (by decide) ?_
  refine lv_iadd hx hb dL_law_711 ?_
  refine va_sld (i := iv + 1) hx hb Z.2.2.1 Z.2.2.2.1 hbA hw.2.2.1 (lq_in hi hL (by decide) (by decide)) dL_law_712 ?_
  refine lv_aload_n hx hb dL_law_713 rfl (lv_at hl 4 rfl) ?_
  refine lv_iload hx hb dL_law_714 (lv_at hl 0 rfl) ?_
  refine lv_iconst (v := 2) hx hb dL_law_716 (by decide) ?_
  refine lv_iadd hx hb dL_law_717 ?_
  refine va_sld (i := iv + 2) hx hb Z.2.2.1 Z.2.2.2.1 hbA hw.2.2.1 (lq_in hi hL (by decide) (by decide)) dL_law_718 ?_
  refine lq_callTi (av := [.int (xs (iv + 1 : Int32).toNatClampNeg), .int (xs (iv + 2 : Int32).toNatClampNeg)]) C hA hw (z_X9_was l D A1 cy hA.1 M1 hF1.1 hF1 t9 ht9 tx9 s9 p9 u9 c9 hkC9 (xs (iv + 1 : Int32).toNatClampNeg) (xs (iv + 2 : Int32).toNatClampNeg)) ⟨ml_L_89, ym_X9_was, yv_X9_was, yi_X9_was, yc_X9_was⟩ yd_X9_was rfl rfl hl.1 (Nat.le_of_ble_eq_true rfl) ⟨by decide, by decide⟩ hcs dL_law_719 (fun rT N1 H locs hpT hw => ?_)
  refine lv_pop hx hb dL_law_722 rfl ?_
  refine lv_aload_n hx hb dL_law_723 rfl (lv_at hl 2 rfl) ?_
  refine lv_aload_n hx hb dL_law_724 rfl (lv_at hl 4 rfl) ?_
  refine lv_iload hx hb dL_law_725 (lv_at hl 0 rfl) ?_
  refine lv_iconst (v := 1) hx hb dL_law_727 (by decide) ?_
  refine lv_iadd hx hb dL_law_728 ?_
  refine va_sld (i := iv + 1) hx hb Z.2.2.1 Z.2.2.2.1 hbA hw.2.2.1 (lq_in hi hL (by decide) (by decide)) dL_law_729 ?_
  refine lv_aload_n hx hb dL_law_730 rfl (lv_at hl 4 rfl) ?_
  refine lv_iload hx hb dL_law_731 (lv_at hl 0 rfl) ?_
  refine lv_iconst (v := 2) hx hb dL_law_733 (by decide) ?_
  refine lv_iadd hx hb dL_law_734 ?_
  refine va_sld (i := iv + 2) hx hb Z.2.2.1 Z.2.2.2.1 hbA hw.2.2.1 (lq_in hi hL (by decide) (by decide)) dL_law_735 ?_
  refine lq_callMi (av := [.int (xs (iv + 1 : Int32).toNatClampNeg), .int (xs (iv + 2 : Int32).toNatClampNeg)]) C hA hw (z_X10_was l D A2 cy hA.2.1 M2 hF2.1 hF2 (xs (iv + 1 : Int32).toNatClampNeg) (xs (iv + 2 : Int32).toNatClampNeg) tx9 s9 p9 u9 c9 hW9.1 hW9 hw9 h19 hkR9) ⟨ml_L_92, ym_X10_was, yv_X10_was, yi_X10_was, yc_X10_was⟩ yd_X10_was rfl rfl hl.1 (Nat.le_of_ble_eq_true rfl) ⟨by decide, by decide⟩ hcs dL_law_736 (fun rM N2 H locs hpM hw => ?_)
  refine lv_pop hx hb dL_law_739 rfl ?_
  have q := lq_ob hF1 hE0 hB0 hR hS htd1 htd2 hpT hpM rfl (fun i y => ⟨_, _, _, _, _, _, _, lB_no hb9 i y⟩)
  refine lv_goto (tgt := 1521) hx hb dL_law_740 (by decide) ?_
  exact kk N1 N2 H locs ls hw q.2 hl
set_option maxRecDepth 100000 in
theorem lq_c16 {p : Program} {l : Launch} {e : Env} {s : State} {m : MethodId} {below : List Frame} {meth : Method} {c : Code} {D : va_G} {cy : Nat → ClassId} {A1 A2 : Nat → Nat → Nat} {M1 M2 : ti_M} {b q3 L cells slots : Nat} {iv : Int32} {xs : Nat → Int32} {H : Heap} {locs : List Loc} {ls : Array Slot} (Z : lq_Z p s m meth c D cy A1 A2 b L xs) (hcs : cells ≤ room_1.cells ∧ slots ≤ room_1.slots) (hw : lq_H s D cy A1 A2 q3 M1 M2 H locs) (hI : lq_I M1 M2) (hi : 0 ≤ iv.toInt ∧ iv.toInt + 6 ≤ L) (hl : lv_has ls 7 [(4, .int iv), (3, .ref q3), (2, .ref (A2 60 0)), (1, .ref (A1 0 0)), (0, .ref b)]) (kk : ∀ (M1 M2 : ti_M) (H : Heap) (locs : List Loc) (ls : Array Slot), lq_H s D cy A1 A2 q3 M1 M2 H locs → lq_I M1 M2 → lv_has ls 7 [(4, .int iv), (3, .ref q3), (2, .ref (A2 60 0)), (1, .ref (A1 0 0)), (0, .ref b)] → W p l e room_1 s m #[Value.ref b] below meth c H locs cells slots (lw_Z below #[Value.ref b] s) (F0 m 1521 ls [])) : W p l e room_1 s m #[Value.ref b] below meth c H locs cells slots (lw_Z below #[Value.ref b] s) (F0 m 743 ls []) := by
  have C := Z.1
  have hA := Z.2.1
  have hx := C.1
  have hb := C.2.1
  have hbA : ¬ lq_F s b := Nat.not_le.mpr Z.2.2.2.1
  have hL := Z.2.2.2.2.2.2.1
  have hE := Z.2.2.2.2.2.2.2
  obtain ⟨Tc, Tm, hF1, hF2, hE0, hB0, hR1, hR2, hS1, hS2, rg, htd1, htd2, hle⟩ := hI
  have hR := And.intro hR1 hR2
  have hS := And.intro hS1 hS2
  refine lv_aload_n hx hb dL_law_743 rfl (lv_at hl 3 rfl) ?_
  refine lv_aload_n hx hb dL_law_744 rfl (lv_at hl 4 rfl) ?_
  refine lv_iload hx hb dL_law_745 (lv_at hl 0 rfl) ?_
  refine lv_iconst (v := 1) hx hb dL_law_747 (by decide) ?_
  refine lv_iadd hx hb dL_law_748 ?_
  refine va_sld (i := iv + 1) hx hb Z.2.2.1 Z.2.2.2.1 hbA hw.2.2.1 (lq_in hi hL (by decide) (by decide)) dL_law_749 ?_
  refine lv_aload_n hx hb dL_law_750 rfl (lv_at hl 4 rfl) ?_
  refine lv_iload hx hb dL_law_751 (lv_at hl 0 rfl) ?_
  refine lv_iconst (v := 2) hx hb dL_law_753 (by decide) ?_
  refine lv_iadd hx hb dL_law_754 ?_
  refine va_sld (i := iv + 2) hx hb Z.2.2.1 Z.2.2.2.1 hbA hw.2.2.1 (lq_in hi hL (by decide) (by decide)) dL_law_755 ?_
  refine lq_callTi (av := [.int (xs (iv + 1 : Int32).toNatClampNeg), .int (xs (iv + 2 : Int32).toNatClampNeg)]) C hA hw (f_X9_ruled l D A1 cy hA.1 M1 hF1.1 hF1 (xs (iv + 1 : Int32).toNatClampNeg) (xs (iv + 2 : Int32).toNatClampNeg)) ⟨ml_L_93, ym_X9_ruled, yv_X9_ruled, yi_X9_ruled, yc_X9_ruled⟩ yd_X9_ruled rfl rfl hl.1 (Nat.le_of_ble_eq_true rfl) ⟨by decide, by decide⟩ hcs dL_law_756 (fun rT N1 H locs hpT hw => ?_)
  refine lv_pop hx hb dL_law_759 rfl ?_
  refine lv_aload_n hx hb dL_law_760 rfl (lv_at hl 2 rfl) ?_
  refine lv_aload_n hx hb dL_law_761 rfl (lv_at hl 4 rfl) ?_
  refine lv_iload hx hb dL_law_762 (lv_at hl 0 rfl) ?_
  refine lv_iconst (v := 1) hx hb dL_law_764 (by decide) ?_
  refine lv_iadd hx hb dL_law_765 ?_
  refine va_sld (i := iv + 1) hx hb Z.2.2.1 Z.2.2.2.1 hbA hw.2.2.1 (lq_in hi hL (by decide) (by decide)) dL_law_766 ?_
  refine lv_aload_n hx hb dL_law_767 rfl (lv_at hl 4 rfl) ?_
  refine lv_iload hx hb dL_law_768 (lv_at hl 0 rfl) ?_
  refine lv_iconst (v := 2) hx hb dL_law_770 (by decide) ?_
  refine lv_iadd hx hb dL_law_771 ?_
  refine va_sld (i := iv + 2) hx hb Z.2.2.1 Z.2.2.2.1 hbA hw.2.2.1 (lq_in hi hL (by decide) (by decide)) dL_law_772 ?_
  refine lq_callMi (av := [.int (xs (iv + 1 : Int32).toNatClampNeg), .int (xs (iv + 2 : Int32).toNatClampNeg)]) C hA hw (f_X10_ruled l D A2 cy hA.2.1 M2 hF2.1 hF2 (xs (iv + 1 : Int32).toNatClampNeg) (xs (iv + 2 : Int32).toNatClampNeg)) ⟨ml_L_96, ym_X10_ruled, yv_X10_ruled, yi_X10_ruled, yc_X10_ruled⟩ yd_X10_ruled rfl rfl hl.1 (Nat.le_of_ble_eq_true rfl) ⟨by decide, by decide⟩ hcs dL_law_773 (fun rM N2 H locs hpM hw => ?_)
  refine lv_pop hx hb dL_law_776 rfl ?_
  refine lv_goto (tgt := 1521) hx hb dL_law_777 (by decide) ?_
  exact kk N1 N2 H locs ls hw ⟨Tc, Tm, hpT.2.2.1, hpM.2.1, hpT.2.2.2.1.trans (hE0.trans (show tI N2 60 2 = tI M2 60 2 from hpM.2.2.1).symm), (fun i hi => hB0 i (by rw [← hpT.2.2.2.1]; exact hi)), (congrArg Int32.toInt (hpT.2.2.2.2.1 1 4 (by decide) (by decide))).trans hR.1, (congrArg Int32.toInt (hpT.2.2.2.2.1 1 5 (by decide) (by decide))).trans hR.2, hS1, hS2, rg, tdC_tl htd1 hpT.2.2.2.2, tdR_lw htd2 hpM.2.2.2, lE_obs hle hpT.1 hpT.2.1 hpM.1.1 (fun q => hpM.1.2.trans q) hpM.2.2.2⟩ hl
set_option maxRecDepth 100000 in
theorem lq_c17 {p : Program} {l : Launch} {e : Env} {s : State} {m : MethodId} {below : List Frame} {meth : Method} {c : Code} {D : va_G} {cy : Nat → ClassId} {A1 A2 : Nat → Nat → Nat} {M1 M2 : ti_M} {b q3 L cells slots : Nat} {iv : Int32} {xs : Nat → Int32} {H : Heap} {locs : List Loc} {ls : Array Slot} (Z : lq_Z p s m meth c D cy A1 A2 b L xs) (hcs : cells ≤ room_1.cells ∧ slots ≤ room_1.slots) (hw : lq_H s D cy A1 A2 q3 M1 M2 H locs) (hI : lq_I M1 M2) (hi : 0 ≤ iv.toInt ∧ iv.toInt + 6 ≤ L) (hl : lv_has ls 7 [(4, .int iv), (3, .ref q3), (2, .ref (A2 60 0)), (1, .ref (A1 0 0)), (0, .ref b)]) (kk : ∀ (M1 M2 : ti_M) (H : Heap) (locs : List Loc) (ls : Array Slot), lq_H s D cy A1 A2 q3 M1 M2 H locs → lq_I M1 M2 → lv_has ls 7 [(4, .int iv), (3, .ref q3), (2, .ref (A2 60 0)), (1, .ref (A1 0 0)), (0, .ref b)] → W p l e room_1 s m #[Value.ref b] below meth c H locs cells slots (lw_Z below #[Value.ref b] s) (F0 m 1521 ls [])) : W p l e room_1 s m #[Value.ref b] below meth c H locs cells slots (lw_Z below #[Value.ref b] s) (F0 m 780 ls []) := by
  have C := Z.1
  have hA := Z.2.1
  have hx := C.1
  have hb := C.2.1
  have hbA : ¬ lq_F s b := Nat.not_le.mpr Z.2.2.2.1
  have hL := Z.2.2.2.2.2.2.1
  have hE := Z.2.2.2.2.2.2.2
  obtain ⟨Tc, Tm, hF1, hF2, hE0, hB0, hR1, hR2, hS1, hS2, rg, htd1, htd2, hle⟩ := hI
  have hR := And.intro hR1 hR2
  have hS := And.intro hS1 hS2
  obtain ⟨t9, tx9, s9, p9, si9, u9, c9, hb9⟩ := id hle
  obtain ⟨ht9, hkC9, hkR9, hW9, ⟨hw9, h19⟩, hU9, hi9⟩ := id hb9
  have m9 : 0 ≤ s9 2 ∧ s9 2 ≤ 120 := by
    have b : ib 0 120 (tY M2 60 34 0) := hF2.1.2.1 34 0 (by decide)
    rw [hkR9.2.1.1.1]; exact b
  refine lv_aload_n hx hb dL_law_780 rfl (lv_at hl 3 rfl) ?_
  refine lv_aload_n hx hb dL_law_781 rfl (lv_at hl 4 rfl) ?_
  refine lv_iload hx hb dL_law_782 (lv_at hl 0 rfl) ?_
  refine lv_iconst (v := 1) hx hb dL_law_784 (by decide) ?_
  refine lv_iadd hx hb dL_law_785 ?_
  refine va_sld (i := iv + 1) hx hb Z.2.2.1 Z.2.2.2.1 hbA hw.2.2.1 (lq_in hi hL (by decide) (by decide)) dL_law_786 ?_
  refine lq_callTi (av := [.int (xs (iv + 1 : Int32).toNatClampNeg)]) C hA hw (z_X9_served l D A1 cy hA.1 M1 hF1.1 hF1 t9 ht9 tx9 s9 p9 u9 c9 hkC9 hW9 hw9 h19 m9 (xs (iv + 1 : Int32).toNatClampNeg)) ⟨ml_L_97, ym_X9_served, yv_X9_served, yi_X9_served, yc_X9_served⟩ yd_X9_served rfl rfl hl.1 (Nat.le_of_ble_eq_true rfl) ⟨by decide, by decide⟩ hcs dL_law_787 (fun rT N1 H locs hpT hw => ?_)
  refine lv_aload_n hx hb dL_law_790 rfl (lv_at hl 2 rfl) ?_
  refine lv_aload_n hx hb dL_law_791 rfl (lv_at hl 4 rfl) ?_
  refine lv_iload hx hb dL_law_792 (lv_at hl 0 rfl) ?_
  refine lv_iconst (v := 1) hx hb dL_law_794 (by decide) ?_
  refine lv_iadd hx hb dL_law_795 ?_
  refine va_sld (i := iv + 1) hx hb Z.2.2.1 Z.2.2.2.1 hbA hw.2.2.1 (lq_in hi hL (by decide) (by decide)) dL_law_796 ?_
  refine lq_callMi (av := [.int (xs (iv + 1 : Int32).toNatClampNeg)]) C hA hw (z_X10_served l D A2 cy hA.2.1 M2 hF2.1 hF2 (xs (iv + 1 : Int32).toNatClampNeg) tx9 s9 p9 u9 c9 hW9.1 hW9 hw9 h19 hkR9) ⟨ml_L_100, ym_X10_served, yv_X10_served, yi_X10_served, yc_X10_served⟩ yd_X10_served rfl rfl hl.1 (Nat.le_of_ble_eq_true rfl) ⟨by decide, by decide⟩ hcs dL_law_797 (fun rM N2 H locs hpM hw => ?_)
  obtain ⟨hv1, hpT⟩ := hpT
  obtain ⟨hv2, hpM⟩ := hpM
  have q := And.intro (hv1.trans hv2.symm) (show lq_I N1 N2 from ⟨Tc, Tm, hpT.2.2.1, hpM.2.1, hpT.2.2.2.1.trans (hE0.trans (show tI N2 60 2 = tI M2 60 2 from hpM.2.2.1).symm), (fun i hi => hB0 i (by rw [← hpT.2.2.2.1]; exact hi)), (congrArg Int32.toInt (hpT.2.2.2.2.1 1 4 (by decide) (by decide))).trans hR.1, (congrArg Int32.toInt (hpT.2.2.2.2.1 1 5 (by decide) (by decide))).trans hR.2, hS1, hS2, rg, tdC_tl htd1 hpT.2.2.2.2, tdR_lw htd2 hpM.2.2.2, lE_obs hle hpT.1 hpT.2.1 hpM.1.1 (fun q => hpM.1.2.trans q) hpM.2.2.2⟩)
  refine sb_icmp_eq (tgt := 1521) hx hb rfl rfl dL_law_800 (by decide) (fun _ => ?_) (fun c => absurd q.1 c)
  exact kk N1 N2 H locs ls hw q.2 hl
set_option maxRecDepth 100000 in
theorem lq_c18 {p : Program} {l : Launch} {e : Env} {s : State} {m : MethodId} {below : List Frame} {meth : Method} {c : Code} {D : va_G} {cy : Nat → ClassId} {A1 A2 : Nat → Nat → Nat} {M1 M2 : ti_M} {b q3 L cells slots : Nat} {iv : Int32} {xs : Nat → Int32} {H : Heap} {locs : List Loc} {ls : Array Slot} (Z : lq_Z p s m meth c D cy A1 A2 b L xs) (hcs : cells ≤ room_1.cells ∧ slots ≤ room_1.slots) (hw : lq_H s D cy A1 A2 q3 M1 M2 H locs) (hI : lq_I M1 M2) (hi : 0 ≤ iv.toInt ∧ iv.toInt + 6 ≤ L) (hl : lv_has ls 7 [(4, .int iv), (3, .ref q3), (2, .ref (A2 60 0)), (1, .ref (A1 0 0)), (0, .ref b)]) (kk : ∀ (M1 M2 : ti_M) (H : Heap) (locs : List Loc) (ls : Array Slot), lq_H s D cy A1 A2 q3 M1 M2 H locs → lq_I M1 M2 → lv_has ls 7 [(4, .int iv), (3, .ref q3), (2, .ref (A2 60 0)), (1, .ref (A1 0 0)), (0, .ref b)] → W p l e room_1 s m #[Value.ref b] below meth c H locs cells slots (lw_Z below #[Value.ref b] s) (F0 m 1521 ls [])) : W p l e room_1 s m #[Value.ref b] below meth c H locs cells slots (lw_Z below #[Value.ref b] s) (F0 m 805 ls []) := by
  have C := Z.1
  have hA := Z.2.1
  have hx := C.1
  have hb := C.2.1
  have hbA : ¬ lq_F s b := Nat.not_le.mpr Z.2.2.2.1
  have hL := Z.2.2.2.2.2.2.1
  have hE := Z.2.2.2.2.2.2.2
  obtain ⟨Tc, Tm, hF1, hF2, hE0, hB0, hR1, hR2, hS1, hS2, rg, htd1, htd2, hle⟩ := hI
  have hR := And.intro hR1 hR2
  have hS := And.intro hS1 hS2
  refine lv_aload_n hx hb dL_law_805 rfl (lv_at hl 3 rfl) ?_
  refine lv_aload_n hx hb dL_law_806 rfl (lv_at hl 4 rfl) ?_
  refine lv_iload hx hb dL_law_807 (lv_at hl 0 rfl) ?_
  refine lv_iconst (v := 1) hx hb dL_law_809 (by decide) ?_
  refine lv_iadd hx hb dL_law_810 ?_
  refine va_sld (i := iv + 1) hx hb Z.2.2.1 Z.2.2.2.1 hbA hw.2.2.1 (lq_in hi hL (by decide) (by decide)) dL_law_811 ?_
  refine lv_aload_n hx hb dL_law_812 rfl (lv_at hl 4 rfl) ?_
  refine lv_iload hx hb dL_law_813 (lv_at hl 0 rfl) ?_
  refine lv_iconst (v := 2) hx hb dL_law_815 (by decide) ?_
  refine lv_iadd hx hb dL_law_816 ?_
  refine va_sld (i := iv + 2) hx hb Z.2.2.1 Z.2.2.2.1 hbA hw.2.2.1 (lq_in hi hL (by decide) (by decide)) dL_law_817 ?_
  refine lv_aload_n hx hb dL_law_818 rfl (lv_at hl 4 rfl) ?_
  refine lv_iload hx hb dL_law_819 (lv_at hl 0 rfl) ?_
  refine lv_iconst (v := 3) hx hb dL_law_821 (by decide) ?_
  refine lv_iadd hx hb dL_law_822 ?_
  refine va_sld (i := iv + 3) hx hb Z.2.2.1 Z.2.2.2.1 hbA hw.2.2.1 (lq_in hi hL (by decide) (by decide)) dL_law_823 ?_
  refine lq_callTi (av := [.int (xs (iv + 1 : Int32).toNatClampNeg), .int (xs (iv + 2 : Int32).toNatClampNeg), .int (xs (iv + 3 : Int32).toNatClampNeg)]) C hA hw (f_X9_coming l D A1 cy hA.1 M1 hF1.1 hF1 (xs (iv + 1 : Int32).toNatClampNeg) (xs (iv + 2 : Int32).toNatClampNeg) (xs (iv + 3 : Int32).toNatClampNeg)) ⟨ml_L_101, ym_X9_coming, yv_X9_coming, yi_X9_coming, yc_X9_coming⟩ yd_X9_coming rfl rfl hl.1 (Nat.le_of_ble_eq_true rfl) ⟨by decide, by decide⟩ hcs dL_law_824 (fun rT N1 H locs hpT hw => ?_)
  refine lv_pop hx hb dL_law_827 rfl ?_
  refine lv_aload_n hx hb dL_law_828 rfl (lv_at hl 2 rfl) ?_
  refine lv_aload_n hx hb dL_law_829 rfl (lv_at hl 4 rfl) ?_
  refine lv_iload hx hb dL_law_830 (lv_at hl 0 rfl) ?_
  refine lv_iconst (v := 1) hx hb dL_law_832 (by decide) ?_
  refine lv_iadd hx hb dL_law_833 ?_
  refine va_sld (i := iv + 1) hx hb Z.2.2.1 Z.2.2.2.1 hbA hw.2.2.1 (lq_in hi hL (by decide) (by decide)) dL_law_834 ?_
  refine lv_aload_n hx hb dL_law_835 rfl (lv_at hl 4 rfl) ?_
  refine lv_iload hx hb dL_law_836 (lv_at hl 0 rfl) ?_
  refine lv_iconst (v := 2) hx hb dL_law_838 (by decide) ?_
  refine lv_iadd hx hb dL_law_839 ?_
  refine va_sld (i := iv + 2) hx hb Z.2.2.1 Z.2.2.2.1 hbA hw.2.2.1 (lq_in hi hL (by decide) (by decide)) dL_law_840 ?_
  refine lv_aload_n hx hb dL_law_841 rfl (lv_at hl 4 rfl) ?_
  refine lv_iload hx hb dL_law_842 (lv_at hl 0 rfl) ?_
  refine lv_iconst (v := 3) hx hb dL_law_844 (by decide) ?_
  refine lv_iadd hx hb dL_law_845 ?_
  refine va_sld (i := iv + 3) hx hb Z.2.2.1 Z.2.2.2.1 hbA hw.2.2.1 (lq_in hi hL (by decide) (by decide)) dL_law_846 ?_
  refine lq_callMi (av := [.int (xs (iv + 1 : Int32).toNatClampNeg), .int (xs (iv + 2 : Int32).toNatClampNeg), .int (xs (iv + 3 : Int32).toNatClampNeg)]) C hA hw (f_X10_coming l D A2 cy hA.2.1 M2 hF2.1 hF2 (xs (iv + 1 : Int32).toNatClampNeg) (xs (iv + 2 : Int32).toNatClampNeg) (xs (iv + 3 : Int32).toNatClampNeg)) ⟨ml_L_105, ym_X10_coming, yv_X10_coming, yi_X10_coming, yc_X10_coming⟩ yd_X10_coming rfl rfl hl.1 (Nat.le_of_ble_eq_true rfl) ⟨by decide, by decide⟩ hcs dL_law_847 (fun rM N2 H locs hpM hw => ?_)
  refine lv_pop hx hb dL_law_850 rfl ?_
  refine lv_goto (tgt := 1521) hx hb dL_law_851 (by decide) ?_
  exact kk N1 N2 H locs ls hw ⟨Tc, Tm, hpT.2.2.1, hpM.2.1, hpT.2.2.2.1.trans (hE0.trans (show tI N2 60 2 = tI M2 60 2 from hpM.2.2.1).symm), (fun i hi => hB0 i (by rw [← hpT.2.2.2.1]; exact hi)), (congrArg Int32.toInt (hpT.2.2.2.2.1 1 4 (by decide) (by decide))).trans hR.1, (congrArg Int32.toInt (hpT.2.2.2.2.1 1 5 (by decide) (by decide))).trans hR.2, hS1, hS2, rg, tdC_tl htd1 hpT.2.2.2.2, tdR_lw htd2 hpM.2.2.2, lE_obs hle hpT.1 hpT.2.1 hpM.1.1 (fun q => hpM.1.2.trans q) hpM.2.2.2⟩ hl
set_option maxRecDepth 100000 in
theorem lq_c19 {p : Program} {l : Launch} {e : Env} {s : State} {m : MethodId} {below : List Frame} {meth : Method} {c : Code} {D : va_G} {cy : Nat → ClassId} {A1 A2 : Nat → Nat → Nat} {M1 M2 : ti_M} {b q3 L cells slots : Nat} {iv : Int32} {xs : Nat → Int32} {H : Heap} {locs : List Loc} {ls : Array Slot} (Z : lq_Z p s m meth c D cy A1 A2 b L xs) (hcs : cells ≤ room_1.cells ∧ slots ≤ room_1.slots) (hw : lq_H s D cy A1 A2 q3 M1 M2 H locs) (hI : lq_I M1 M2) (hi : 0 ≤ iv.toInt ∧ iv.toInt + 6 ≤ L) (hl : lv_has ls 7 [(4, .int iv), (3, .ref q3), (2, .ref (A2 60 0)), (1, .ref (A1 0 0)), (0, .ref b)]) (kk : ∀ (M1 M2 : ti_M) (H : Heap) (locs : List Loc) (ls : Array Slot), lq_H s D cy A1 A2 q3 M1 M2 H locs → lq_I M1 M2 → lv_has ls 7 [(4, .int iv), (3, .ref q3), (2, .ref (A2 60 0)), (1, .ref (A1 0 0)), (0, .ref b)] → W p l e room_1 s m #[Value.ref b] below meth c H locs cells slots (lw_Z below #[Value.ref b] s) (F0 m 1521 ls [])) : W p l e room_1 s m #[Value.ref b] below meth c H locs cells slots (lw_Z below #[Value.ref b] s) (F0 m 854 ls []) := by
  have C := Z.1
  have hA := Z.2.1
  have hx := C.1
  have hb := C.2.1
  have hbA : ¬ lq_F s b := Nat.not_le.mpr Z.2.2.2.1
  have hL := Z.2.2.2.2.2.2.1
  have hE := Z.2.2.2.2.2.2.2
  obtain ⟨Tc, Tm, hF1, hF2, hE0, hB0, hR1, hR2, hS1, hS2, rg, htd1, htd2, hle⟩ := hI
  have hR := And.intro hR1 hR2
  have hS := And.intro hS1 hS2
  refine lv_aload_n hx hb dL_law_854 rfl (lv_at hl 3 rfl) ?_
  refine lv_aload_n hx hb dL_law_855 rfl (lv_at hl 4 rfl) ?_
  refine lv_iload hx hb dL_law_856 (lv_at hl 0 rfl) ?_
  refine lv_iconst (v := 1) hx hb dL_law_858 (by decide) ?_
  refine lv_iadd hx hb dL_law_859 ?_
  refine va_sld (i := iv + 1) hx hb Z.2.2.1 Z.2.2.2.1 hbA hw.2.2.1 (lq_in hi hL (by decide) (by decide)) dL_law_860 ?_
  refine lv_aload_n hx hb dL_law_861 rfl (lv_at hl 4 rfl) ?_
  refine lv_iload hx hb dL_law_862 (lv_at hl 0 rfl) ?_
  refine lv_iconst (v := 2) hx hb dL_law_864 (by decide) ?_
  refine lv_iadd hx hb dL_law_865 ?_
  refine va_sld (i := iv + 2) hx hb Z.2.2.1 Z.2.2.2.1 hbA hw.2.2.1 (lq_in hi hL (by decide) (by decide)) dL_law_866 ?_
  refine lv_aload_n hx hb dL_law_867 rfl (lv_at hl 4 rfl) ?_
  refine lv_iload hx hb dL_law_868 (lv_at hl 0 rfl) ?_
  refine lv_iconst (v := 3) hx hb dL_law_870 (by decide) ?_
  refine lv_iadd hx hb dL_law_871 ?_
  refine va_sld (i := iv + 3) hx hb Z.2.2.1 Z.2.2.2.1 hbA hw.2.2.1 (lq_in hi hL (by decide) (by decide)) dL_law_872 ?_
  refine lq_callTi (av := [.int (xs (iv + 1 : Int32).toNatClampNeg), .int (xs (iv + 2 : Int32).toNatClampNeg), .int (xs (iv + 3 : Int32).toNatClampNeg)]) C hA hw (f_X9_decree l D A1 cy hA.1 M1 hF1.1 hF1 (xs (iv + 1 : Int32).toNatClampNeg) (xs (iv + 2 : Int32).toNatClampNeg) (xs (iv + 3 : Int32).toNatClampNeg)) ⟨ml_L_106, ym_X9_decree, yv_X9_decree, yi_X9_decree, yc_X9_decree⟩ yd_X9_decree rfl rfl hl.1 (Nat.le_of_ble_eq_true rfl) ⟨by decide, by decide⟩ hcs dL_law_873 (fun rT N1 H locs hpT hw => ?_)
  refine lv_pop hx hb dL_law_876 rfl ?_
  refine lv_aload_n hx hb dL_law_877 rfl (lv_at hl 2 rfl) ?_
  refine lv_aload_n hx hb dL_law_878 rfl (lv_at hl 4 rfl) ?_
  refine lv_iload hx hb dL_law_879 (lv_at hl 0 rfl) ?_
  refine lv_iconst (v := 1) hx hb dL_law_881 (by decide) ?_
  refine lv_iadd hx hb dL_law_882 ?_
  refine va_sld (i := iv + 1) hx hb Z.2.2.1 Z.2.2.2.1 hbA hw.2.2.1 (lq_in hi hL (by decide) (by decide)) dL_law_883 ?_
  refine lv_aload_n hx hb dL_law_884 rfl (lv_at hl 4 rfl) ?_
  refine lv_iload hx hb dL_law_885 (lv_at hl 0 rfl) ?_
  refine lv_iconst (v := 2) hx hb dL_law_887 (by decide) ?_
  refine lv_iadd hx hb dL_law_888 ?_
  refine va_sld (i := iv + 2) hx hb Z.2.2.1 Z.2.2.2.1 hbA hw.2.2.1 (lq_in hi hL (by decide) (by decide)) dL_law_889 ?_
  refine lv_aload_n hx hb dL_law_890 rfl (lv_at hl 4 rfl) ?_
  refine lv_iload hx hb dL_law_891 (lv_at hl 0 rfl) ?_
  refine lv_iconst (v := 3) hx hb dL_law_893 (by decide) ?_
  refine lv_iadd hx hb dL_law_894 ?_
  refine va_sld (i := iv + 3) hx hb Z.2.2.1 Z.2.2.2.1 hbA hw.2.2.1 (lq_in hi hL (by decide) (by decide)) dL_law_895 ?_
  refine lq_callMi (av := [.int (xs (iv + 1 : Int32).toNatClampNeg), .int (xs (iv + 2 : Int32).toNatClampNeg), .int (xs (iv + 3 : Int32).toNatClampNeg)]) C hA hw (f_X10_decree l D A2 cy hA.2.1 M2 hF2.1 hF2 (xs (iv + 1 : Int32).toNatClampNeg) (xs (iv + 2 : Int32).toNatClampNeg) (xs (iv + 3 : Int32).toNatClampNeg)) ⟨ml_L_109, ym_X10_decree, yv_X10_decree, yi_X10_decree, yc_X10_decree⟩ yd_X10_decree rfl rfl hl.1 (Nat.le_of_ble_eq_true rfl) ⟨by decide, by decide⟩ hcs dL_law_896 (fun rM N2 H locs hpM hw => ?_)
  refine lv_pop hx hb dL_law_899 rfl ?_
  refine lv_goto (tgt := 1521) hx hb dL_law_900 (by decide) ?_
  exact kk N1 N2 H locs ls hw ⟨Tc, Tm, hpT.2.2.1, hpM.2.1, hpT.2.2.2.1.trans (hE0.trans (show tI N2 60 2 = tI M2 60 2 from hpM.2.2.1).symm), (fun i hi => hB0 i (by rw [← hpT.2.2.2.1]; exact hi)), (congrArg Int32.toInt (hpT.2.2.2.2.1 1 4 (by decide) (by decide))).trans hR.1, (congrArg Int32.toInt (hpT.2.2.2.2.1 1 5 (by decide) (by decide))).trans hR.2, hS1, hS2, rg, tdC_tl htd1 hpT.2.2.2.2, tdR_lw htd2 hpM.2.2.2, lE_obs hle hpT.1 hpT.2.1 hpM.1.1 (fun q => hpM.1.2.trans q) hpM.2.2.2⟩ hl
set_option maxRecDepth 100000 in
theorem lq_c20 {p : Program} {l : Launch} {e : Env} {s : State} {m : MethodId} {below : List Frame} {meth : Method} {c : Code} {D : va_G} {cy : Nat → ClassId} {A1 A2 : Nat → Nat → Nat} {M1 M2 : ti_M} {b q3 L cells slots : Nat} {iv : Int32} {xs : Nat → Int32} {H : Heap} {locs : List Loc} {ls : Array Slot} (Z : lq_Z p s m meth c D cy A1 A2 b L xs) (hcs : cells ≤ room_1.cells ∧ slots ≤ room_1.slots) (hw : lq_H s D cy A1 A2 q3 M1 M2 H locs) (hI : lq_I M1 M2) (hi : 0 ≤ iv.toInt ∧ iv.toInt + 6 ≤ L) (hl : lv_has ls 7 [(4, .int iv), (3, .ref q3), (2, .ref (A2 60 0)), (1, .ref (A1 0 0)), (0, .ref b)]) (kk : ∀ (M1 M2 : ti_M) (H : Heap) (locs : List Loc) (ls : Array Slot), lq_H s D cy A1 A2 q3 M1 M2 H locs → lq_I M1 M2 → lv_has ls 7 [(4, .int iv), (3, .ref q3), (2, .ref (A2 60 0)), (1, .ref (A1 0 0)), (0, .ref b)] → W p l e room_1 s m #[Value.ref b] below meth c H locs cells slots (lw_Z below #[Value.ref b] s) (F0 m 1521 ls [])) : W p l e room_1 s m #[Value.ref b] below meth c H locs cells slots (lw_Z below #[Value.ref b] s) (F0 m 903 ls []) := by
  have C := Z.1
  have hA := Z.2.1
  have hx := C.1
  have hb := C.2.1
  have hbA : ¬ lq_F s b := Nat.not_le.mpr Z.2.2.2.1
  have hL := Z.2.2.2.2.2.2.1
  have hE := Z.2.2.2.2.2.2.2
  obtain ⟨Tc, Tm, hF1, hF2, hE0, hB0, hR1, hR2, hS1, hS2, rg, htd1, htd2, hle⟩ := hI
  have hR := And.intro hR1 hR2
  have hS := And.intro hS1 hS2
  refine lv_aload_n hx hb dL_law_903 rfl (lv_at hl 3 rfl) ?_
  refine lq_callTi (av := []) C hA hw (f_X9_coup l D A1 cy hA.1 M1 hF1.1 hF1) ⟨ml_L_110, ym_X9_coup, yv_X9_coup, yi_X9_coup, yc_X9_coup⟩ yd_X9_coup rfl rfl hl.1 (Nat.le_of_ble_eq_true rfl) ⟨by decide, by decide⟩ hcs dL_law_904 (fun rT N1 H locs hpT hw => ?_)
  refine lv_pop hx hb dL_law_907 rfl ?_
  refine lv_aload_n hx hb dL_law_908 rfl (lv_at hl 2 rfl) ?_
  refine lq_callMi (av := []) C hA hw (f_X10_coup l D A2 cy hA.2.1 M2 hF2.1 hF2) ⟨ml_L_114, ym_X10_coup, yv_X10_coup, yi_X10_coup, yc_X10_coup⟩ yd_X10_coup rfl rfl hl.1 (Nat.le_of_ble_eq_true rfl) ⟨by decide, by decide⟩ hcs dL_law_909 (fun rM N2 H locs hpM hw => ?_)
  refine lv_pop hx hb dL_law_912 rfl ?_
  refine lv_goto (tgt := 1521) hx hb dL_law_913 (by decide) ?_
  exact kk N1 N2 H locs ls hw ⟨Tc, Tm, hpT.2.2.1, hpM.2.1, hpT.2.2.2.1.trans (hE0.trans (show tI N2 60 2 = tI M2 60 2 from hpM.2.2.1).symm), (fun i hi => hB0 i (by rw [← hpT.2.2.2.1]; exact hi)), (congrArg Int32.toInt (hpT.2.2.2.2.1 1 4 (by decide) (by decide))).trans hR.1, (congrArg Int32.toInt (hpT.2.2.2.2.1 1 5 (by decide) (by decide))).trans hR.2, hS1, hS2, rg, tdC_tl htd1 hpT.2.2.2.2, tdR_lw htd2 hpM.2.2.2, lE_obs hle hpT.1 hpT.2.1 hpM.1.1 (fun q => hpM.1.2.trans q) hpM.2.2.2⟩ hl
set_option maxRecDepth 100000 in
theorem lq_c21 {p : Program} {l : Launch} {e : Env} {s : State} {m : MethodId} {below : List Frame} {meth : Method} {c : Code} {D : va_G} {cy : Nat → ClassId} {A1 A2 : Nat → Nat → Nat} {M1 M2 : ti_M} {b q3 L cells slots : Nat} {iv : Int32} {xs : Nat → Int32} {H : Heap} {locs : List Loc} {ls : Array Slot} (Z : lq_Z p s m meth c D cy A1 A2 b L xs) (hcs : cells ≤ room_1.cells ∧ slots ≤ room_1.slots) (hw : lq_H s D cy A1 A2 q3 M1 M2 H locs) (hI : lq_I M1 M2) (hi : 0 ≤ iv.toInt ∧ iv.toInt + 6 ≤ L) (hl : lv_has ls 7 [(4, .int iv), (3, .ref q3), (2, .ref (A2 60 0)), (1, .ref (A1 0 0)), (0, .ref b)]) (kk : ∀ (M1 M2 : ti_M) (H : Heap) (locs : List Loc) (ls : Array Slot), lq_H s D cy A1 A2 q3 M1 M2 H locs → lq_I M1 M2 → lv_has ls 7 [(4, .int iv), (3, .ref q3), (2, .ref (A2 60 0)), (1, .ref (A1 0 0)), (0, .ref b)] → W p l e room_1 s m #[Value.ref b] below meth c H locs cells slots (lw_Z below #[Value.ref b] s) (F0 m 1521 ls [])) : W p l e room_1 s m #[Value.ref b] below meth c H locs cells slots (lw_Z below #[Value.ref b] s) (F0 m 916 ls []) := by
  have C := Z.1
  have hA := Z.2.1
  have hx := C.1
  have hb := C.2.1
  have hbA : ¬ lq_F s b := Nat.not_le.mpr Z.2.2.2.1
  have hL := Z.2.2.2.2.2.2.1
  have hE := Z.2.2.2.2.2.2.2
  obtain ⟨Tc, Tm, hF1, hF2, hE0, hB0, hR1, hR2, hS1, hS2, rg, htd1, htd2, hle⟩ := hI
  have hR := And.intro hR1 hR2
  have hS := And.intro hS1 hS2
  refine lv_aload_n hx hb dL_law_916 rfl (lv_at hl 3 rfl) ?_
  refine lv_aload_n hx hb dL_law_917 rfl (lv_at hl 4 rfl) ?_
  refine lv_iload hx hb dL_law_918 (lv_at hl 0 rfl) ?_
  refine lv_iconst (v := 1) hx hb dL_law_920 (by decide) ?_
  refine lv_iadd hx hb dL_law_921 ?_
  refine va_sld (i := iv + 1) hx hb Z.2.2.1 Z.2.2.2.1 hbA hw.2.2.1 (lq_in hi hL (by decide) (by decide)) dL_law_922 ?_
  refine lv_aload_n hx hb dL_law_923 rfl (lv_at hl 4 rfl) ?_
  refine lv_iload hx hb dL_law_924 (lv_at hl 0 rfl) ?_
  refine lv_iconst (v := 2) hx hb dL_law_926 (by decide) ?_
  refine lv_iadd hx hb dL_law_927 ?_
  refine va_sld (i := iv + 2) hx hb Z.2.2.1 Z.2.2.2.1 hbA hw.2.2.1 (lq_in hi hL (by decide) (by decide)) dL_law_928 ?_
  refine lv_aload_n hx hb dL_law_929 rfl (lv_at hl 4 rfl) ?_
  refine lv_iload hx hb dL_law_930 (lv_at hl 0 rfl) ?_
  refine lv_iconst (v := 3) hx hb dL_law_932 (by decide) ?_
  refine lv_iadd hx hb dL_law_933 ?_
  refine va_sld (i := iv + 3) hx hb Z.2.2.1 Z.2.2.2.1 hbA hw.2.2.1 (lq_in hi hL (by decide) (by decide)) dL_law_934 ?_
  refine lq_callTi (av := [.int (xs (iv + 1 : Int32).toNatClampNeg), .int (xs (iv + 2 : Int32).toNatClampNeg), .int (xs (iv + 3 : Int32).toNatClampNeg)]) C hA hw (f_X9_rests l D A1 cy hA.1 M1 hF1.1 hF1 (xs (iv + 1 : Int32).toNatClampNeg) (xs (iv + 2 : Int32).toNatClampNeg) (xs (iv + 3 : Int32).toNatClampNeg)) ⟨ml_L_115, ym_X9_rests, yv_X9_rests, yi_X9_rests, yc_X9_rests⟩ yd_X9_rests rfl rfl hl.1 (Nat.le_of_ble_eq_true rfl) ⟨by decide, by decide⟩ hcs dL_law_935 (fun rT N1 H locs hpT hw => ?_)
  refine lv_pop hx hb dL_law_938 rfl ?_
  refine lv_aload_n hx hb dL_law_939 rfl (lv_at hl 2 rfl) ?_
  refine lv_aload_n hx hb dL_law_940 rfl (lv_at hl 4 rfl) ?_
  refine lv_iload hx hb dL_law_941 (lv_at hl 0 rfl) ?_
  refine lv_iconst (v := 1) hx hb dL_law_943 (by decide) ?_
  refine lv_iadd hx hb dL_law_944 ?_
  refine va_sld (i := iv + 1) hx hb Z.2.2.1 Z.2.2.2.1 hbA hw.2.2.1 (lq_in hi hL (by decide) (by decide)) dL_law_945 ?_
  refine lv_aload_n hx hb dL_law_946 rfl (lv_at hl 4 rfl) ?_
  refine lv_iload hx hb dL_law_947 (lv_at hl 0 rfl) ?_
  refine lv_iconst (v := 2) hx hb dL_law_949 (by decide) ?_
  refine lv_iadd hx hb dL_law_950 ?_
  refine va_sld (i := iv + 2) hx hb Z.2.2.1 Z.2.2.2.1 hbA hw.2.2.1 (lq_in hi hL (by decide) (by decide)) dL_law_951 ?_
  refine lv_aload_n hx hb dL_law_952 rfl (lv_at hl 4 rfl) ?_
  refine lv_iload hx hb dL_law_953 (lv_at hl 0 rfl) ?_
  refine lv_iconst (v := 3) hx hb dL_law_955 (by decide) ?_
  refine lv_iadd hx hb dL_law_956 ?_
  refine va_sld (i := iv + 3) hx hb Z.2.2.1 Z.2.2.2.1 hbA hw.2.2.1 (lq_in hi hL (by decide) (by decide)) dL_law_957 ?_
  refine lq_callMi (av := [.int (xs (iv + 1 : Int32).toNatClampNeg), .int (xs (iv + 2 : Int32).toNatClampNeg), .int (xs (iv + 3 : Int32).toNatClampNeg)]) C hA hw (f_X10_rests l D A2 cy hA.2.1 M2 hF2.1 hF2 (xs (iv + 1 : Int32).toNatClampNeg) (xs (iv + 2 : Int32).toNatClampNeg) (xs (iv + 3 : Int32).toNatClampNeg)) ⟨ml_L_118, ym_X10_rests, yv_X10_rests, yi_X10_rests, yc_X10_rests⟩ yd_X10_rests rfl rfl hl.1 (Nat.le_of_ble_eq_true rfl) ⟨by decide, by decide⟩ hcs dL_law_958 (fun rM N2 H locs hpM hw => ?_)
  refine lv_pop hx hb dL_law_961 rfl ?_
  refine lv_goto (tgt := 1521) hx hb dL_law_962 (by decide) ?_
  exact kk N1 N2 H locs ls hw ⟨Tc, Tm, hpT.2.2.1, hpM.2.1, hpT.2.2.2.1.trans (hE0.trans (show tI N2 60 2 = tI M2 60 2 from hpM.2.2.1).symm), (fun i hi => hB0 i (by rw [← hpT.2.2.2.1]; exact hi)), (congrArg Int32.toInt (hpT.2.2.2.2.1 1 4 (by decide) (by decide))).trans hR.1, (congrArg Int32.toInt (hpT.2.2.2.2.1 1 5 (by decide) (by decide))).trans hR.2, hS1, hS2, rg, tdC_tl htd1 hpT.2.2.2.2, tdR_lw htd2 hpM.2.2.2, lE_obs hle hpT.1 hpT.2.1 hpM.1.1 (fun q => hpM.1.2.trans q) hpM.2.2.2⟩ hl
set_option maxRecDepth 100000 in
theorem lq_c22 {p : Program} {l : Launch} {e : Env} {s : State} {m : MethodId} {below : List Frame} {meth : Method} {c : Code} {D : va_G} {cy : Nat → ClassId} {A1 A2 : Nat → Nat → Nat} {M1 M2 : ti_M} {b q3 L cells slots : Nat} {iv : Int32} {xs : Nat → Int32} {H : Heap} {locs : List Loc} {ls : Array Slot} (Z : lq_Z p s m meth c D cy A1 A2 b L xs) (hcs : cells ≤ room_1.cells ∧ slots ≤ room_1.slots) (hw : lq_H s D cy A1 A2 q3 M1 M2 H locs) (hI : lq_I M1 M2) (hi : 0 ≤ iv.toInt ∧ iv.toInt + 6 ≤ L) (hl : lv_has ls 7 [(4, .int iv), (3, .ref q3), (2, .ref (A2 60 0)), (1, .ref (A1 0 0)), (0, .ref b)]) (kk : ∀ (M1 M2 : ti_M) (H : Heap) (locs : List Loc) (ls : Array Slot), lq_H s D cy A1 A2 q3 M1 M2 H locs → lq_I M1 M2 → lv_has ls 7 [(4, .int iv), (3, .ref q3), (2, .ref (A2 60 0)), (1, .ref (A1 0 0)), (0, .ref b)] → W p l e room_1 s m #[Value.ref b] below meth c H locs cells slots (lw_Z below #[Value.ref b] s) (F0 m 1521 ls [])) : W p l e room_1 s m #[Value.ref b] below meth c H locs cells slots (lw_Z below #[Value.ref b] s) (F0 m 965 ls []) := by
  have C := Z.1
  have hA := Z.2.1
  have hx := C.1
  have hb := C.2.1
  have hbA : ¬ lq_F s b := Nat.not_le.mpr Z.2.2.2.1
  have hL := Z.2.2.2.2.2.2.1
  have hE := Z.2.2.2.2.2.2.2
  obtain ⟨Tc, Tm, hF1, hF2, hE0, hB0, hR1, hR2, hS1, hS2, rg, htd1, htd2, hle⟩ := hI
  have hR := And.intro hR1 hR2
  have hS := And.intro hS1 hS2
  refine lv_aload_n hx hb dL_law_965 rfl (lv_at hl 3 rfl) ?_
  refine lv_aload_n hx hb dL_law_966 rfl (lv_at hl 4 rfl) ?_
  refine lv_iload hx hb dL_law_967 (lv_at hl 0 rfl) ?_
  refine lv_iconst (v := 1) hx hb dL_law_969 (by decide) ?_
  refine lv_iadd hx hb dL_law_970 ?_
  refine va_sld (i := iv + 1) hx hb Z.2.2.1 Z.2.2.2.1 hbA hw.2.2.1 (lq_in hi hL (by decide) (by decide)) dL_law_971 ?_
  refine lv_aload_n hx hb dL_law_972 rfl (lv_at hl 4 rfl) ?_
  refine lv_iload hx hb dL_law_973 (lv_at hl 0 rfl) ?_
  refine lv_iconst (v := 2) hx hb dL_law_975 (by decide) ?_
  refine lv_iadd hx hb dL_law_976 ?_
  refine va_sld (i := iv + 2) hx hb Z.2.2.1 Z.2.2.2.1 hbA hw.2.2.1 (lq_in hi hL (by decide) (by decide)) dL_law_977 ?_
  refine lv_aload_n hx hb dL_law_978 rfl (lv_at hl 4 rfl) ?_
  refine lv_iload hx hb dL_law_979 (lv_at hl 0 rfl) ?_
  refine lv_iconst (v := 3) hx hb dL_law_981 (by decide) ?_
  refine lv_iadd hx hb dL_law_982 ?_
  refine va_sld (i := iv + 3) hx hb Z.2.2.1 Z.2.2.2.1 hbA hw.2.2.1 (lq_in hi hL (by decide) (by decide)) dL_law_983 ?_
  refine lv_aload_n hx hb dL_law_984 rfl (lv_at hl 4 rfl) ?_
  refine lv_iload hx hb dL_law_985 (lv_at hl 0 rfl) ?_
  refine lv_iconst (v := 4) hx hb dL_law_987 (by decide) ?_
  refine lv_iadd hx hb dL_law_988 ?_
  refine va_sld (i := iv + 4) hx hb Z.2.2.1 Z.2.2.2.1 hbA hw.2.2.1 (lq_in hi hL (by decide) (by decide)) dL_law_989 ?_
  refine lq_callTi (av := [.int (xs (iv + 1 : Int32).toNatClampNeg), .int (xs (iv + 2 : Int32).toNatClampNeg), .int (xs (iv + 3 : Int32).toNatClampNeg), .int (xs (iv + 4 : Int32).toNatClampNeg)]) C hA hw (f_X9_rest l D A1 cy hA.1 M1 hF1.1 hF1 (xs (iv + 1 : Int32).toNatClampNeg) (xs (iv + 2 : Int32).toNatClampNeg) (xs (iv + 3 : Int32).toNatClampNeg) (xs (iv + 4 : Int32).toNatClampNeg)) ⟨ml_L_119, ym_X9_rest, yv_X9_rest, yi_X9_rest, yc_X9_rest⟩ yd_X9_rest rfl rfl hl.1 (Nat.le_of_ble_eq_true rfl) ⟨by decide, by decide⟩ hcs dL_law_990 (fun rT N1 H locs hpT hw => ?_)
  refine lv_pop hx hb dL_law_993 rfl ?_
  refine lv_aload_n hx hb dL_law_994 rfl (lv_at hl 2 rfl) ?_
  refine lv_aload_n hx hb dL_law_995 rfl (lv_at hl 4 rfl) ?_
  refine lv_iload hx hb dL_law_996 (lv_at hl 0 rfl) ?_
  refine lv_iconst (v := 1) hx hb dL_law_998 (by decide) ?_
  refine lv_iadd hx hb dL_law_999 ?_
  refine va_sld (i := iv + 1) hx hb Z.2.2.1 Z.2.2.2.1 hbA hw.2.2.1 (lq_in hi hL (by decide) (by decide)) dL_law_1000 ?_
  refine lv_aload_n hx hb dL_law_1001 rfl (lv_at hl 4 rfl) ?_
  refine lv_iload hx hb dL_law_1002 (lv_at hl 0 rfl) ?_
  refine lv_iconst (v := 2) hx hb dL_law_1004 (by decide) ?_
  refine lv_iadd hx hb dL_law_1005 ?_
  refine va_sld (i := iv + 2) hx hb Z.2.2.1 Z.2.2.2.1 hbA hw.2.2.1 (lq_in hi hL (by decide) (by decide)) dL_law_1006 ?_
  refine lv_aload_n hx hb dL_law_1007 rfl (lv_at hl 4 rfl) ?_
  refine lv_iload hx hb dL_law_1008 (lv_at hl 0 rfl) ?_
  refine lv_iconst (v := 3) hx hb dL_law_1010 (by decide) ?_
  refine lv_iadd hx hb dL_law_1011 ?_
  refine va_sld (i := iv + 3) hx hb Z.2.2.1 Z.2.2.2.1 hbA hw.2.2.1 (lq_in hi hL (by decide) (by decide)) dL_law_1012 ?_
  refine lv_aload_n hx hb dL_law_1013 rfl (lv_at hl 4 rfl) ?_
  refine lv_iload hx hb dL_law_1014 (lv_at hl 0 rfl) ?_
  refine lv_iconst (v := 4) hx hb dL_law_1016 (by decide) ?_
  refine lv_iadd hx hb dL_law_1017 ?_
  refine va_sld (i := iv + 4) hx hb Z.2.2.1 Z.2.2.2.1 hbA hw.2.2.1 (lq_in hi hL (by decide) (by decide)) dL_law_1018 ?_
  refine lq_callMi (av := [.int (xs (iv + 1 : Int32).toNatClampNeg), .int (xs (iv + 2 : Int32).toNatClampNeg), .int (xs (iv + 3 : Int32).toNatClampNeg), .int (xs (iv + 4 : Int32).toNatClampNeg)]) C hA hw (f_X10_rest l D A2 cy hA.2.1 M2 hF2.1 hF2 (xs (iv + 1 : Int32).toNatClampNeg) (xs (iv + 2 : Int32).toNatClampNeg) (xs (iv + 3 : Int32).toNatClampNeg) (xs (iv + 4 : Int32).toNatClampNeg)) ⟨ml_L_123, ym_X10_rest, yv_X10_rest, yi_X10_rest, yc_X10_rest⟩ yd_X10_rest rfl rfl hl.1 (Nat.le_of_ble_eq_true rfl) ⟨by decide, by decide⟩ hcs dL_law_1019 (fun rM N2 H locs hpM hw => ?_)
  refine lv_pop hx hb dL_law_1022 rfl ?_
  refine lv_goto (tgt := 1521) hx hb dL_law_1023 (by decide) ?_
  exact kk N1 N2 H locs ls hw ⟨Tc, Tm, hpT.2.2.1, hpM.2.1, hpT.2.2.2.1.trans (hE0.trans (show tI N2 60 2 = tI M2 60 2 from hpM.2.2.1).symm), (fun i hi => hB0 i (by rw [← hpT.2.2.2.1]; exact hi)), (congrArg Int32.toInt (hpT.2.2.2.2.1 1 4 (by decide) (by decide))).trans hR.1, (congrArg Int32.toInt (hpT.2.2.2.2.1 1 5 (by decide) (by decide))).trans hR.2, hS1, hS2, rg, tdC_tl htd1 hpT.2.2.2.2, tdR_lw htd2 hpM.2.2.2, lE_obs hle hpT.1 hpT.2.1 hpM.1.1 (fun q => hpM.1.2.trans q) hpM.2.2.2⟩ hl
set_option maxRecDepth 100000 in
theorem lq_c23 {p : Program} {l : Launch} {e : Env} {s : State} {m : MethodId} {below : List Frame} {meth : Method} {c : Code} {D : va_G} {cy : Nat → ClassId} {A1 A2 : Nat → Nat → Nat} {M1 M2 : ti_M} {b q3 L cells slots : Nat} {iv : Int32} {xs : Nat → Int32} {H : Heap} {locs : List Loc} {ls : Array Slot} (Z : lq_Z p s m meth c D cy A1 A2 b L xs) (hcs : cells ≤ room_1.cells ∧ slots ≤ room_1.slots) (hw : lq_H s D cy A1 A2 q3 M1 M2 H locs) (hI : lq_I M1 M2) (hi : 0 ≤ iv.toInt ∧ iv.toInt + 6 ≤ L) (hl : lv_has ls 7 [(4, .int iv), (3, .ref q3), (2, .ref (A2 60 0)), (1, .ref (A1 0 0)), (0, .ref b)]) (kk : ∀ (M1 M2 : ti_M) (H : Heap) (locs : List Loc) (ls : Array Slot), lq_H s D cy A1 A2 q3 M1 M2 H locs → lq_I M1 M2 → lv_has ls 7 [(4, .int iv), (3, .ref q3), (2, .ref (A2 60 0)), (1, .ref (A1 0 0)), (0, .ref b)] → W p l e room_1 s m #[Value.ref b] below meth c H locs cells slots (lw_Z below #[Value.ref b] s) (F0 m 1521 ls [])) : W p l e room_1 s m #[Value.ref b] below meth c H locs cells slots (lw_Z below #[Value.ref b] s) (F0 m 1026 ls []) := by
  have C := Z.1
  have hA := Z.2.1
  have hx := C.1
  have hb := C.2.1
  have hbA : ¬ lq_F s b := Nat.not_le.mpr Z.2.2.2.1
  have hL := Z.2.2.2.2.2.2.1
  have hE := Z.2.2.2.2.2.2.2
  obtain ⟨Tc, Tm, hF1, hF2, hE0, hB0, hR1, hR2, hS1, hS2, rg, htd1, htd2, hle⟩ := hI
  have hR := And.intro hR1 hR2
  have hS := And.intro hS1 hS2
  refine lv_aload_n hx hb dL_law_1026 rfl (lv_at hl 3 rfl) ?_
  refine lv_aload_n hx hb dL_law_1027 rfl (lv_at hl 4 rfl) ?_
  refine lv_iload hx hb dL_law_1028 (lv_at hl 0 rfl) ?_
  refine lv_iconst (v := 1) hx hb dL_law_1030 (by decide) ?_
  refine lv_iadd hx hb dL_law_1031 ?_
  refine va_sld (i := iv + 1) hx hb Z.2.2.1 Z.2.2.2.1 hbA hw.2.2.1 (lq_in hi hL (by decide) (by decide)) dL_law_1032 ?_
  refine lv_aload_n hx hb dL_law_1033 rfl (lv_at hl 4 rfl) ?_
  refine lv_iload hx hb dL_law_1034 (lv_at hl 0 rfl) ?_
  refine lv_iconst (v := 2) hx hb dL_law_1036 (by decide) ?_
  refine lv_iadd hx hb dL_law_1037 ?_
  refine va_sld (i := iv + 2) hx hb Z.2.2.1 Z.2.2.2.1 hbA hw.2.2.1 (lq_in hi hL (by decide) (by decide)) dL_law_1038 ?_
  refine lv_aload_n hx hb dL_law_1039 rfl (lv_at hl 4 rfl) ?_
  refine lv_iload hx hb dL_law_1040 (lv_at hl 0 rfl) ?_
  refine lv_iconst (v := 3) hx hb dL_law_1042 (by decide) ?_
  refine lv_iadd hx hb dL_law_1043 ?_
  refine va_sld (i := iv + 3) hx hb Z.2.2.1 Z.2.2.2.1 hbA hw.2.2.1 (lq_in hi hL (by decide) (by decide)) dL_law_1044 ?_
  refine lv_aload_n hx hb dL_law_1045 rfl (lv_at hl 4 rfl) ?_
  refine lv_iload hx hb dL_law_1046 (lv_at hl 0 rfl) ?_
  refine lv_iconst (v := 4) hx hb dL_law_1048 (by decide) ?_
  refine lv_iadd hx hb dL_law_1049 ?_
  refine va_sld (i := iv + 4) hx hb Z.2.2.1 Z.2.2.2.1 hbA hw.2.2.1 (lq_in hi hL (by decide) (by decide)) dL_law_1050 ?_
  refine lq_callTi (av := [.int (xs (iv + 1 : Int32).toNatClampNeg), .int (xs (iv + 2 : Int32).toNatClampNeg), .int (xs (iv + 3 : Int32).toNatClampNeg), .int (xs (iv + 4 : Int32).toNatClampNeg)]) C hA hw (f_X9_best l D A1 cy hA.1 M1 hF1.1 hF1 (xs (iv + 1 : Int32).toNatClampNeg) (xs (iv + 2 : Int32).toNatClampNeg) (xs (iv + 3 : Int32).toNatClampNeg) (xs (iv + 4 : Int32).toNatClampNeg)) ⟨ml_L_124, ym_X9_best, yv_X9_best, yi_X9_best, yc_X9_best⟩ yd_X9_best rfl rfl hl.1 (Nat.le_of_ble_eq_true rfl) ⟨by decide, by decide⟩ hcs dL_law_1051 (fun rT N1 H locs hpT hw => ?_)
  refine lv_pop hx hb dL_law_1054 rfl ?_
  refine lv_aload_n hx hb dL_law_1055 rfl (lv_at hl 2 rfl) ?_
  refine lv_aload_n hx hb dL_law_1056 rfl (lv_at hl 4 rfl) ?_
  refine lv_iload hx hb dL_law_1057 (lv_at hl 0 rfl) ?_
  refine lv_iconst (v := 1) hx hb dL_law_1059 (by decide) ?_
  refine lv_iadd hx hb dL_law_1060 ?_
  refine va_sld (i := iv + 1) hx hb Z.2.2.1 Z.2.2.2.1 hbA hw.2.2.1 (lq_in hi hL (by decide) (by decide)) dL_law_1061 ?_
  refine lv_aload_n hx hb dL_law_1062 rfl (lv_at hl 4 rfl) ?_
  refine lv_iload hx hb dL_law_1063 (lv_at hl 0 rfl) ?_
  refine lv_iconst (v := 2) hx hb dL_law_1065 (by decide) ?_
  refine lv_iadd hx hb dL_law_1066 ?_
  refine va_sld (i := iv + 2) hx hb Z.2.2.1 Z.2.2.2.1 hbA hw.2.2.1 (lq_in hi hL (by decide) (by decide)) dL_law_1067 ?_
  refine lv_aload_n hx hb dL_law_1068 rfl (lv_at hl 4 rfl) ?_
  refine lv_iload hx hb dL_law_1069 (lv_at hl 0 rfl) ?_
  refine lv_iconst (v := 3) hx hb dL_law_1071 (by decide) ?_
  refine lv_iadd hx hb dL_law_1072 ?_
  refine va_sld (i := iv + 3) hx hb Z.2.2.1 Z.2.2.2.1 hbA hw.2.2.1 (lq_in hi hL (by decide) (by decide)) dL_law_1073 ?_
  refine lv_aload_n hx hb dL_law_1074 rfl (lv_at hl 4 rfl) ?_
  refine lv_iload hx hb dL_law_1075 (lv_at hl 0 rfl) ?_
  refine lv_iconst (v := 4) hx hb dL_law_1077 (by decide) ?_
  refine lv_iadd hx hb dL_law_1078 ?_
  refine va_sld (i := iv + 4) hx hb Z.2.2.1 Z.2.2.2.1 hbA hw.2.2.1 (lq_in hi hL (by decide) (by decide)) dL_law_1079 ?_
  refine lq_callMi (av := [.int (xs (iv + 1 : Int32).toNatClampNeg), .int (xs (iv + 2 : Int32).toNatClampNeg), .int (xs (iv + 3 : Int32).toNatClampNeg), .int (xs (iv + 4 : Int32).toNatClampNeg)]) C hA hw (f_X10_best l D A2 cy hA.2.1 M2 hF2.1 hF2 (xs (iv + 1 : Int32).toNatClampNeg) (xs (iv + 2 : Int32).toNatClampNeg) (xs (iv + 3 : Int32).toNatClampNeg) (xs (iv + 4 : Int32).toNatClampNeg)) ⟨ml_L_127, ym_X10_best, yv_X10_best, yi_X10_best, yc_X10_best⟩ yd_X10_best rfl rfl hl.1 (Nat.le_of_ble_eq_true rfl) ⟨by decide, by decide⟩ hcs dL_law_1080 (fun rM N2 H locs hpM hw => ?_)
  refine lv_pop hx hb dL_law_1083 rfl ?_
  refine lv_goto (tgt := 1521) hx hb dL_law_1084 (by decide) ?_
  exact kk N1 N2 H locs ls hw ⟨Tc, Tm, hpT.2.2.1, hpM.2.1, hpT.2.2.2.1.trans (hE0.trans (show tI N2 60 2 = tI M2 60 2 from hpM.2.2.1).symm), (fun i hi => hB0 i (by rw [← hpT.2.2.2.1]; exact hi)), (congrArg Int32.toInt (hpT.2.2.2.2.1 1 4 (by decide) (by decide))).trans hR.1, (congrArg Int32.toInt (hpT.2.2.2.2.1 1 5 (by decide) (by decide))).trans hR.2, hS1, hS2, rg, tdC_tl htd1 hpT.2.2.2.2, tdR_lw htd2 hpM.2.2.2, lE_obs hle hpT.1 hpT.2.1 hpM.1.1 (fun q => hpM.1.2.trans q) hpM.2.2.2⟩ hl
set_option maxRecDepth 100000 in
theorem lq_c24 {p : Program} {l : Launch} {e : Env} {s : State} {m : MethodId} {below : List Frame} {meth : Method} {c : Code} {D : va_G} {cy : Nat → ClassId} {A1 A2 : Nat → Nat → Nat} {M1 M2 : ti_M} {b q3 L cells slots : Nat} {iv : Int32} {xs : Nat → Int32} {H : Heap} {locs : List Loc} {ls : Array Slot} (Z : lq_Z p s m meth c D cy A1 A2 b L xs) (hcs : cells ≤ room_1.cells ∧ slots ≤ room_1.slots) (hw : lq_H s D cy A1 A2 q3 M1 M2 H locs) (hI : lq_I M1 M2) (hi : 0 ≤ iv.toInt ∧ iv.toInt + 6 ≤ L) (hl : lv_has ls 7 [(4, .int iv), (3, .ref q3), (2, .ref (A2 60 0)), (1, .ref (A1 0 0)), (0, .ref b)]) (kk : ∀ (M1 M2 : ti_M) (H : Heap) (locs : List Loc) (ls : Array Slot), lq_H s D cy A1 A2 q3 M1 M2 H locs → lq_I M1 M2 → lv_has ls 7 [(4, .int iv), (3, .ref q3), (2, .ref (A2 60 0)), (1, .ref (A1 0 0)), (0, .ref b)] → W p l e room_1 s m #[Value.ref b] below meth c H locs cells slots (lw_Z below #[Value.ref b] s) (F0 m 1521 ls [])) : W p l e room_1 s m #[Value.ref b] below meth c H locs cells slots (lw_Z below #[Value.ref b] s) (F0 m 1087 ls []) := by
  have C := Z.1
  have hA := Z.2.1
  have hx := C.1
  have hb := C.2.1
  have hbA : ¬ lq_F s b := Nat.not_le.mpr Z.2.2.2.1
  have hL := Z.2.2.2.2.2.2.1
  have hE := Z.2.2.2.2.2.2.2
  obtain ⟨Tc, Tm, hF1, hF2, hE0, hB0, hR1, hR2, hS1, hS2, rg, htd1, htd2, hle⟩ := hI
  have hR := And.intro hR1 hR2
  have hS := And.intro hS1 hS2
  refine lv_aload_n hx hb dL_law_1087 rfl (lv_at hl 3 rfl) ?_
  refine lv_aload_n hx hb dL_law_1088 rfl (lv_at hl 4 rfl) ?_
  refine lv_iload hx hb dL_law_1089 (lv_at hl 0 rfl) ?_
  refine lv_iconst (v := 1) hx hb dL_law_1091 (by decide) ?_
  refine lv_iadd hx hb dL_law_1092 ?_
  refine va_sld (i := iv + 1) hx hb Z.2.2.1 Z.2.2.2.1 hbA hw.2.2.1 (lq_in hi hL (by decide) (by decide)) dL_law_1093 ?_
  refine lv_aload_n hx hb dL_law_1094 rfl (lv_at hl 4 rfl) ?_
  refine lv_iload hx hb dL_law_1095 (lv_at hl 0 rfl) ?_
  refine lv_iconst (v := 2) hx hb dL_law_1097 (by decide) ?_
  refine lv_iadd hx hb dL_law_1098 ?_
  refine va_sld (i := iv + 2) hx hb Z.2.2.1 Z.2.2.2.1 hbA hw.2.2.1 (lq_in hi hL (by decide) (by decide)) dL_law_1099 ?_
  refine lv_aload_n hx hb dL_law_1100 rfl (lv_at hl 4 rfl) ?_
  refine lv_iload hx hb dL_law_1101 (lv_at hl 0 rfl) ?_
  refine lv_iconst (v := 3) hx hb dL_law_1103 (by decide) ?_
  refine lv_iadd hx hb dL_law_1104 ?_
  refine va_sld (i := iv + 3) hx hb Z.2.2.1 Z.2.2.2.1 hbA hw.2.2.1 (lq_in hi hL (by decide) (by decide)) dL_law_1105 ?_
  refine lq_callTi (av := [.int (xs (iv + 1 : Int32).toNatClampNeg), .int (xs (iv + 2 : Int32).toNatClampNeg), .int (xs (iv + 3 : Int32).toNatClampNeg)]) C hA hw (f_X9_fairest l D A1 cy hA.1 M1 hF1.1 hF1 (xs (iv + 1 : Int32).toNatClampNeg) (xs (iv + 2 : Int32).toNatClampNeg) (xs (iv + 3 : Int32).toNatClampNeg)) ⟨ml_L_128, ym_X9_fairest, yv_X9_fairest, yi_X9_fairest, yc_X9_fairest⟩ yd_X9_fairest rfl rfl hl.1 (Nat.le_of_ble_eq_true rfl) ⟨by decide, by decide⟩ hcs dL_law_1106 (fun rT N1 H locs hpT hw => ?_)
  refine lv_pop hx hb dL_law_1109 rfl ?_
  refine lv_aload_n hx hb dL_law_1110 rfl (lv_at hl 2 rfl) ?_
  refine lv_aload_n hx hb dL_law_1111 rfl (lv_at hl 4 rfl) ?_
  refine lv_iload hx hb dL_law_1112 (lv_at hl 0 rfl) ?_
  refine lv_iconst (v := 1) hx hb dL_law_1114 (by decide) ?_
  refine lv_iadd hx hb dL_law_1115 ?_
  refine va_sld (i := iv + 1) hx hb Z.2.2.1 Z.2.2.2.1 hbA hw.2.2.1 (lq_in hi hL (by decide) (by decide)) dL_law_1116 ?_
  refine lv_aload_n hx hb dL_law_1117 rfl (lv_at hl 4 rfl) ?_
  refine lv_iload hx hb dL_law_1118 (lv_at hl 0 rfl) ?_
  refine lv_iconst (v := 2) hx hb dL_law_1120 (by decide) ?_
  refine lv_iadd hx hb dL_law_1121 ?_
  refine va_sld (i := iv + 2) hx hb Z.2.2.1 Z.2.2.2.1 hbA hw.2.2.1 (lq_in hi hL (by decide) (by decide)) dL_law_1122 ?_
  refine lv_aload_n hx hb dL_law_1123 rfl (lv_at hl 4 rfl) ?_
  refine lv_iload hx hb dL_law_1124 (lv_at hl 0 rfl) ?_
  refine lv_iconst (v := 3) hx hb dL_law_1126 (by decide) ?_
  refine lv_iadd hx hb dL_law_1127 ?_
  refine va_sld (i := iv + 3) hx hb Z.2.2.1 Z.2.2.2.1 hbA hw.2.2.1 (lq_in hi hL (by decide) (by decide)) dL_law_1128 ?_
  refine lq_callMi (av := [.int (xs (iv + 1 : Int32).toNatClampNeg), .int (xs (iv + 2 : Int32).toNatClampNeg), .int (xs (iv + 3 : Int32).toNatClampNeg)]) C hA hw (f_X10_fairest l D A2 cy hA.2.1 M2 hF2.1 hF2 (xs (iv + 1 : Int32).toNatClampNeg) (xs (iv + 2 : Int32).toNatClampNeg) (xs (iv + 3 : Int32).toNatClampNeg)) ⟨ml_L_131, ym_X10_fairest, yv_X10_fairest, yi_X10_fairest, yc_X10_fairest⟩ yd_X10_fairest rfl rfl hl.1 (Nat.le_of_ble_eq_true rfl) ⟨by decide, by decide⟩ hcs dL_law_1129 (fun rM N2 H locs hpM hw => ?_)
  refine lv_pop hx hb dL_law_1132 rfl ?_
  refine lv_goto (tgt := 1521) hx hb dL_law_1133 (by decide) ?_
  exact kk N1 N2 H locs ls hw ⟨Tc, Tm, hpT.2.2.1, hpM.2.1, hpT.2.2.2.1.trans (hE0.trans (show tI N2 60 2 = tI M2 60 2 from hpM.2.2.1).symm), (fun i hi => hB0 i (by rw [← hpT.2.2.2.1]; exact hi)), (congrArg Int32.toInt (hpT.2.2.2.2.1 1 4 (by decide) (by decide))).trans hR.1, (congrArg Int32.toInt (hpT.2.2.2.2.1 1 5 (by decide) (by decide))).trans hR.2, hS1, hS2, rg, tdC_tl htd1 hpT.2.2.2.2, tdR_lw htd2 hpM.2.2.2, lE_obs hle hpT.1 hpT.2.1 hpM.1.1 (fun q => hpM.1.2.trans q) hpM.2.2.2⟩ hl
set_option maxRecDepth 100000 in
theorem lq_c25 {p : Program} {l : Launch} {e : Env} {s : State} {m : MethodId} {below : List Frame} {meth : Method} {c : Code} {D : va_G} {cy : Nat → ClassId} {A1 A2 : Nat → Nat → Nat} {M1 M2 : ti_M} {b q3 L cells slots : Nat} {iv : Int32} {xs : Nat → Int32} {H : Heap} {locs : List Loc} {ls : Array Slot} (Z : lq_Z p s m meth c D cy A1 A2 b L xs) (hcs : cells ≤ room_1.cells ∧ slots ≤ room_1.slots) (hw : lq_H s D cy A1 A2 q3 M1 M2 H locs) (hI : lq_I M1 M2) (hi : 0 ≤ iv.toInt ∧ iv.toInt + 6 ≤ L) (hl : lv_has ls 7 [(4, .int iv), (3, .ref q3), (2, .ref (A2 60 0)), (1, .ref (A1 0 0)), (0, .ref b)]) (kk : ∀ (M1 M2 : ti_M) (H : Heap) (locs : List Loc) (ls : Array Slot), lq_H s D cy A1 A2 q3 M1 M2 H locs → lq_I M1 M2 → lv_has ls 7 [(4, .int iv), (3, .ref q3), (2, .ref (A2 60 0)), (1, .ref (A1 0 0)), (0, .ref b)] → W p l e room_1 s m #[Value.ref b] below meth c H locs cells slots (lw_Z below #[Value.ref b] s) (F0 m 1521 ls [])) : W p l e room_1 s m #[Value.ref b] below meth c H locs cells slots (lw_Z below #[Value.ref b] s) (F0 m 1136 ls []) := by
  have C := Z.1
  have hA := Z.2.1
  have hx := C.1
  have hb := C.2.1
  have hbA : ¬ lq_F s b := Nat.not_le.mpr Z.2.2.2.1
  have hL := Z.2.2.2.2.2.2.1
  have hE := Z.2.2.2.2.2.2.2
  obtain ⟨Tc, Tm, hF1, hF2, hE0, hB0, hR1, hR2, hS1, hS2, rg, htd1, htd2, hle⟩ := hI
  have hR := And.intro hR1 hR2
  have hS := And.intro hS1 hS2
  refine lv_aload_n hx hb dL_law_1136 rfl (lv_at hl 3 rfl) ?_
  refine lv_aload_n hx hb dL_law_1137 rfl (lv_at hl 4 rfl) ?_
  refine lv_iload hx hb dL_law_1138 (lv_at hl 0 rfl) ?_
  refine lv_iconst (v := 1) hx hb dL_law_1140 (by decide) ?_
  refine lv_iadd hx hb dL_law_1141 ?_
  refine va_sld (i := iv + 1) hx hb Z.2.2.1 Z.2.2.2.1 hbA hw.2.2.1 (lq_in hi hL (by decide) (by decide)) dL_law_1142 ?_
  refine lv_aload_n hx hb dL_law_1143 rfl (lv_at hl 4 rfl) ?_
  refine lv_iload hx hb dL_law_1144 (lv_at hl 0 rfl) ?_
  refine lv_iconst (v := 2) hx hb dL_law_1146 (by decide) ?_
  refine lv_iadd hx hb dL_law_1147 ?_
  refine va_sld (i := iv + 2) hx hb Z.2.2.1 Z.2.2.2.1 hbA hw.2.2.1 (lq_in hi hL (by decide) (by decide)) dL_law_1148 ?_
  refine lq_callTi (av := [.int (xs (iv + 1 : Int32).toNatClampNeg), .int (xs (iv + 2 : Int32).toNatClampNeg)]) C hA hw (f_X9_gain l D A1 cy hA.1 M1 hF1.1 hF1 (xs (iv + 1 : Int32).toNatClampNeg) (xs (iv + 2 : Int32).toNatClampNeg)) ⟨ml_L_132, ym_X9_gain, yv_X9_gain, yi_X9_gain, yc_X9_gain⟩ yd_X9_gain rfl rfl hl.1 (Nat.le_of_ble_eq_true rfl) ⟨by decide, by decide⟩ hcs dL_law_1149 (fun rT N1 H locs hpT hw => ?_)
  refine lv_pop hx hb dL_law_1152 rfl ?_
  refine lv_aload_n hx hb dL_law_1153 rfl (lv_at hl 2 rfl) ?_
  refine lv_aload_n hx hb dL_law_1154 rfl (lv_at hl 4 rfl) ?_
  refine lv_iload hx hb dL_law_1155 (lv_at hl 0 rfl) ?_
  refine lv_iconst (v := 1) hx hb dL_law_1157 (by decide) ?_
  refine lv_iadd hx hb dL_law_1158 ?_
  refine va_sld (i := iv + 1) hx hb Z.2.2.1 Z.2.2.2.1 hbA hw.2.2.1 (lq_in hi hL (by decide) (by decide)) dL_law_1159 ?_
  refine lv_aload_n hx hb dL_law_1160 rfl (lv_at hl 4 rfl) ?_
  refine lv_iload hx hb dL_law_1161 (lv_at hl 0 rfl) ?_
  refine lv_iconst (v := 2) hx hb dL_law_1163 (by decide) ?_
  refine lv_iadd hx hb dL_law_1164 ?_
  refine va_sld (i := iv + 2) hx hb Z.2.2.1 Z.2.2.2.1 hbA hw.2.2.1 (lq_in hi hL (by decide) (by decide)) dL_law_1165 ?_
  refine lq_callMi (av := [.int (xs (iv + 1 : Int32).toNatClampNeg), .int (xs (iv + 2 : Int32).toNatClampNeg)]) C hA hw (f_X10_gain l D A2 cy hA.2.1 M2 hF2.1 hF2 (xs (iv + 1 : Int32).toNatClampNeg) (xs (iv + 2 : Int32).toNatClampNeg)) ⟨ml_L_135, ym_X10_gain, yv_X10_gain, yi_X10_gain, yc_X10_gain⟩ yd_X10_gain rfl rfl hl.1 (Nat.le_of_ble_eq_true rfl) ⟨by decide, by decide⟩ hcs dL_law_1166 (fun rM N2 H locs hpM hw => ?_)
  refine lv_pop hx hb dL_law_1169 rfl ?_
  refine lv_goto (tgt := 1521) hx hb dL_law_1170 (by decide) ?_
  exact kk N1 N2 H locs ls hw ⟨Tc, Tm, hpT.2.2.1, hpM.2.1, hpT.2.2.2.1.trans (hE0.trans (show tI N2 60 2 = tI M2 60 2 from hpM.2.2.1).symm), (fun i hi => hB0 i (by rw [← hpT.2.2.2.1]; exact hi)), (congrArg Int32.toInt (hpT.2.2.2.2.1 1 4 (by decide) (by decide))).trans hR.1, (congrArg Int32.toInt (hpT.2.2.2.2.1 1 5 (by decide) (by decide))).trans hR.2, hS1, hS2, rg, tdC_tl htd1 hpT.2.2.2.2, tdR_lw htd2 hpM.2.2.2, lE_obs hle hpT.1 hpT.2.1 hpM.1.1 (fun q => hpM.1.2.trans q) hpM.2.2.2⟩ hl
set_option maxRecDepth 100000 in
theorem lq_c26 {p : Program} {l : Launch} {e : Env} {s : State} {m : MethodId} {below : List Frame} {meth : Method} {c : Code} {D : va_G} {cy : Nat → ClassId} {A1 A2 : Nat → Nat → Nat} {M1 M2 : ti_M} {b q3 L cells slots : Nat} {iv : Int32} {xs : Nat → Int32} {H : Heap} {locs : List Loc} {ls : Array Slot} (Z : lq_Z p s m meth c D cy A1 A2 b L xs) (hcs : cells ≤ room_1.cells ∧ slots ≤ room_1.slots) (hw : lq_H s D cy A1 A2 q3 M1 M2 H locs) (hI : lq_I M1 M2) (hi : 0 ≤ iv.toInt ∧ iv.toInt + 6 ≤ L) (hl : lv_has ls 7 [(4, .int iv), (3, .ref q3), (2, .ref (A2 60 0)), (1, .ref (A1 0 0)), (0, .ref b)]) (kk : ∀ (M1 M2 : ti_M) (H : Heap) (locs : List Loc) (ls : Array Slot), lq_H s D cy A1 A2 q3 M1 M2 H locs → lq_I M1 M2 → lv_has ls 7 [(4, .int iv), (3, .ref q3), (2, .ref (A2 60 0)), (1, .ref (A1 0 0)), (0, .ref b)] → W p l e room_1 s m #[Value.ref b] below meth c H locs cells slots (lw_Z below #[Value.ref b] s) (F0 m 1521 ls [])) : W p l e room_1 s m #[Value.ref b] below meth c H locs cells slots (lw_Z below #[Value.ref b] s) (F0 m 1173 ls []) := by
  have C := Z.1
  have hA := Z.2.1
  have hx := C.1
  have hb := C.2.1
  have hbA : ¬ lq_F s b := Nat.not_le.mpr Z.2.2.2.1
  have hL := Z.2.2.2.2.2.2.1
  have hE := Z.2.2.2.2.2.2.2
  obtain ⟨Tc, Tm, hF1, hF2, hE0, hB0, hR1, hR2, hS1, hS2, rg, htd1, htd2, hle⟩ := hI
  have hR := And.intro hR1 hR2
  have hS := And.intro hS1 hS2
  refine lv_aload_n hx hb dL_law_1173 rfl (lv_at hl 3 rfl) ?_
  refine lv_aload_n hx hb dL_law_1174 rfl (lv_at hl 4 rfl) ?_
  refine lv_iload hx hb dL_law_1175 (lv_at hl 0 rfl) ?_
  refine lv_iconst (v := 1) hx hb dL_law_1177 (by decide) ?_
  refine lv_iadd hx hb dL_law_1178 ?_
  refine va_sld (i := iv + 1) hx hb Z.2.2.1 Z.2.2.2.1 hbA hw.2.2.1 (lq_in hi hL (by decide) (by decide)) dL_law_1179 ?_
  refine lv_aload_n hx hb dL_law_1180 rfl (lv_at hl 4 rfl) ?_
  refine lv_iload hx hb dL_law_1181 (lv_at hl 0 rfl) ?_
  refine lv_iconst (v := 2) hx hb dL_law_1183 (by decide) ?_
  refine lv_iadd hx hb dL_law_1184 ?_
  refine va_sld (i := iv + 2) hx hb Z.2.2.1 Z.2.2.2.1 hbA hw.2.2.1 (lq_in hi hL (by decide) (by decide)) dL_law_1185 ?_
  refine lv_aload_n hx hb dL_law_1186 rfl (lv_at hl 4 rfl) ?_
  refine lv_iload hx hb dL_law_1187 (lv_at hl 0 rfl) ?_
  refine lv_iconst (v := 3) hx hb dL_law_1189 (by decide) ?_
  refine lv_iadd hx hb dL_law_1190 ?_
  refine va_sld (i := iv + 3) hx hb Z.2.2.1 Z.2.2.2.1 hbA hw.2.2.1 (lq_in hi hL (by decide) (by decide)) dL_law_1191 ?_
  refine lq_callTi (av := [.int (xs (iv + 1 : Int32).toNatClampNeg), .int (xs (iv + 2 : Int32).toNatClampNeg), .int (xs (iv + 3 : Int32).toNatClampNeg)]) C hA hw (w_X9_stone l D A1 cy hA.1 M1 hF1.1 hF1 (xs (iv + 1 : Int32).toNatClampNeg) (xs (iv + 2 : Int32).toNatClampNeg) (xs (iv + 3 : Int32).toNatClampNeg) rg htd1) ⟨ml_L_136, ym_X9_stone, yv_X9_stone, yi_X9_stone, yc_X9_stone⟩ yd_X9_stone rfl rfl hl.1 (Nat.le_of_ble_eq_true rfl) ⟨by decide, by decide⟩ hcs dL_law_1192 (fun rT N1 H locs hpT hw => ?_)
  refine lv_pop hx hb dL_law_1195 rfl ?_
  refine lv_aload_n hx hb dL_law_1196 rfl (lv_at hl 2 rfl) ?_
  refine lv_aload_n hx hb dL_law_1197 rfl (lv_at hl 4 rfl) ?_
  refine lv_iload hx hb dL_law_1198 (lv_at hl 0 rfl) ?_
  refine lv_iconst (v := 1) hx hb dL_law_1200 (by decide) ?_
  refine lv_iadd hx hb dL_law_1201 ?_
  refine va_sld (i := iv + 1) hx hb Z.2.2.1 Z.2.2.2.1 hbA hw.2.2.1 (lq_in hi hL (by decide) (by decide)) dL_law_1202 ?_
  refine lv_aload_n hx hb dL_law_1203 rfl (lv_at hl 4 rfl) ?_
  refine lv_iload hx hb dL_law_1204 (lv_at hl 0 rfl) ?_
  refine lv_iconst (v := 2) hx hb dL_law_1206 (by decide) ?_
  refine lv_iadd hx hb dL_law_1207 ?_
  refine va_sld (i := iv + 2) hx hb Z.2.2.1 Z.2.2.2.1 hbA hw.2.2.1 (lq_in hi hL (by decide) (by decide)) dL_law_1208 ?_
  refine lv_aload_n hx hb dL_law_1209 rfl (lv_at hl 4 rfl) ?_
  refine lv_iload hx hb dL_law_1210 (lv_at hl 0 rfl) ?_
  refine lv_iconst (v := 3) hx hb dL_law_1212 (by decide) ?_
  refine lv_iadd hx hb dL_law_1213 ?_
  refine va_sld (i := iv + 3) hx hb Z.2.2.1 Z.2.2.2.1 hbA hw.2.2.1 (lq_in hi hL (by decide) (by decide)) dL_law_1214 ?_
  refine lq_callMi (av := [.int (xs (iv + 1 : Int32).toNatClampNeg), .int (xs (iv + 2 : Int32).toNatClampNeg), .int (xs (iv + 3 : Int32).toNatClampNeg)]) C hA hw (w_X10_stone l D A2 cy hA.2.1 M2 hF2.1 hF2 (xs (iv + 1 : Int32).toNatClampNeg) (xs (iv + 2 : Int32).toNatClampNeg) (xs (iv + 3 : Int32).toNatClampNeg) rg htd2) ⟨ml_L_139, ym_X10_stone, yv_X10_stone, yi_X10_stone, yc_X10_stone⟩ yd_X10_stone rfl rfl hl.1 (Nat.le_of_ble_eq_true rfl) ⟨by decide, by decide⟩ hcs dL_law_1215 (fun rM N2 H locs hpM hw => ?_)
  refine lv_pop hx hb dL_law_1218 rfl ?_
  have hC5 : (tI M1 50 5).toInt = (tI M2 60 58).toInt := (congrArg (fun t => Int32.toInt t.2.1) hF1.1.2.2).trans (hS1.trans (congrArg (fun t => Int32.toInt t.2.2.2.1) hF2.1.2.2.2).symm)
  have hC6 : (tI M1 50 6).toInt = (tI M2 60 59).toInt := (congrArg (fun t => Int32.toInt t.2.2.1) hF1.1.2.2).trans (hS2.trans (congrArg (fun t => Int32.toInt t.2.2.2.2.1) hF2.1.2.2.2).symm)
  have q := lq_st hF1 hF2 hE0 hB0 hR hS htd1 htd2 (by rw [hC5]) (fun g o w => ⟨hC5, g.2.2.1.trans ((congrArg (· + 1) hC5).trans o.2.1.symm), (congrArg Int32.toInt g.2.2.2).trans (hC6.trans (congrArg Int32.toInt o.2.2).symm), lE_eo hle g.1 (Or.inr rfl) g.2.1 o.1 w⟩) hle hpT hpM
  refine lv_goto (tgt := 1521) hx hb dL_law_1219 (by decide) ?_
  exact kk N1 N2 H locs ls hw q.2 hl
set_option maxRecDepth 100000 in
theorem lq_c27 {p : Program} {l : Launch} {e : Env} {s : State} {m : MethodId} {below : List Frame} {meth : Method} {c : Code} {D : va_G} {cy : Nat → ClassId} {A1 A2 : Nat → Nat → Nat} {M1 M2 : ti_M} {b q3 L cells slots : Nat} {iv : Int32} {xs : Nat → Int32} {H : Heap} {locs : List Loc} {ls : Array Slot} (Z : lq_Z p s m meth c D cy A1 A2 b L xs) (hcs : cells ≤ room_1.cells ∧ slots ≤ room_1.slots) (hw : lq_H s D cy A1 A2 q3 M1 M2 H locs) (hI : lq_I M1 M2) (hi : 0 ≤ iv.toInt ∧ iv.toInt + 6 ≤ L) (hl : lv_has ls 7 [(4, .int iv), (3, .ref q3), (2, .ref (A2 60 0)), (1, .ref (A1 0 0)), (0, .ref b)]) (kk : ∀ (M1 M2 : ti_M) (H : Heap) (locs : List Loc) (ls : Array Slot), lq_H s D cy A1 A2 q3 M1 M2 H locs → lq_I M1 M2 → lv_has ls 7 [(4, .int iv), (3, .ref q3), (2, .ref (A2 60 0)), (1, .ref (A1 0 0)), (0, .ref b)] → W p l e room_1 s m #[Value.ref b] below meth c H locs cells slots (lw_Z below #[Value.ref b] s) (F0 m 1521 ls [])) : W p l e room_1 s m #[Value.ref b] below meth c H locs cells slots (lw_Z below #[Value.ref b] s) (F0 m 1222 ls []) := by
  have C := Z.1
  have hA := Z.2.1
  have hx := C.1
  have hb := C.2.1
  have hbA : ¬ lq_F s b := Nat.not_le.mpr Z.2.2.2.1
  have hL := Z.2.2.2.2.2.2.1
  have hE := Z.2.2.2.2.2.2.2
  obtain ⟨Tc, Tm, hF1, hF2, hE0, hB0, hR1, hR2, hS1, hS2, rg, htd1, htd2, hle⟩ := hI
  have hR := And.intro hR1 hR2
  have hS := And.intro hS1 hS2
  refine lv_aload_n hx hb dL_law_1222 rfl (lv_at hl 3 rfl) ?_
  refine lv_aload_n hx hb dL_law_1223 rfl (lv_at hl 4 rfl) ?_
  refine lv_iload hx hb dL_law_1224 (lv_at hl 0 rfl) ?_
  refine lv_iconst (v := 1) hx hb dL_law_1226 (by decide) ?_
  refine lv_iadd hx hb dL_law_1227 ?_
  refine va_sld (i := iv + 1) hx hb Z.2.2.1 Z.2.2.2.1 hbA hw.2.2.1 (lq_in hi hL (by decide) (by decide)) dL_law_1228 ?_
  refine lq_callTi (av := [.int (xs (iv + 1 : Int32).toNatClampNeg)]) C hA hw (w_X9_strike l D A1 cy hA.1 M1 hF1.1 hF1 (xs (iv + 1 : Int32).toNatClampNeg) rg htd1) ⟨ml_L_140, ym_X9_strike, yv_X9_strike, yi_X9_strike, yc_X9_strike⟩ yd_X9_strike rfl rfl hl.1 (Nat.le_of_ble_eq_true rfl) ⟨by decide, by decide⟩ hcs dL_law_1229 (fun rT N1 H locs hpT hw => ?_)
  refine lv_pop hx hb dL_law_1232 rfl ?_
  refine lv_aload_n hx hb dL_law_1233 rfl (lv_at hl 2 rfl) ?_
  refine lv_aload_n hx hb dL_law_1234 rfl (lv_at hl 4 rfl) ?_
  refine lv_iload hx hb dL_law_1235 (lv_at hl 0 rfl) ?_
  refine lv_iconst (v := 1) hx hb dL_law_1237 (by decide) ?_
  refine lv_iadd hx hb dL_law_1238 ?_
  refine va_sld (i := iv + 1) hx hb Z.2.2.1 Z.2.2.2.1 hbA hw.2.2.1 (lq_in hi hL (by decide) (by decide)) dL_law_1239 ?_
  refine lq_callMi (av := [.int (xs (iv + 1 : Int32).toNatClampNeg)]) C hA hw (w_X10_strike l D A2 cy hA.2.1 M2 hF2.1 hF2 (xs (iv + 1 : Int32).toNatClampNeg) rg htd2) ⟨ml_L_143, ym_X10_strike, yv_X10_strike, yi_X10_strike, yc_X10_strike⟩ yd_X10_strike rfl rfl hl.1 (Nat.le_of_ble_eq_true rfl) ⟨by decide, by decide⟩ hcs dL_law_1240 (fun rM N2 H locs hpM hw => ?_)
  refine lv_pop hx hb dL_law_1243 rfl ?_
  have hC5 : (tI M1 50 5).toInt = (tI M2 60 58).toInt := (congrArg (fun t => Int32.toInt t.2.1) hF1.1.2.2).trans (hS1.trans (congrArg (fun t => Int32.toInt t.2.2.2.1) hF2.1.2.2.2).symm)
  have hC6 : (tI M1 50 6).toInt = (tI M2 60 59).toInt := (congrArg (fun t => Int32.toInt t.2.2.1) hF1.1.2.2).trans (hS2.trans (congrArg (fun t => Int32.toInt t.2.2.2.2.1) hF2.1.2.2.2).symm)
  have q := lq_st hF1 hF2 hE0 hB0 hR hS htd1 htd2 (by rw [hC5]) (fun g o w => ⟨hC5, g.2.2.1.trans ((congrArg (· + 1) hC5).trans o.2.1.symm), (congrArg Int32.toInt g.2.2.2).trans (hC6.trans (congrArg Int32.toInt o.2.2).symm), lE_eo hle g.1 (Or.inr rfl) g.2.1 o.1 w⟩) hle hpT hpM
  refine lv_goto (tgt := 1521) hx hb dL_law_1244 (by decide) ?_
  exact kk N1 N2 H locs ls hw q.2 hl
set_option maxRecDepth 100000 in
theorem lq_c28 {p : Program} {l : Launch} {e : Env} {s : State} {m : MethodId} {below : List Frame} {meth : Method} {c : Code} {D : va_G} {cy : Nat → ClassId} {A1 A2 : Nat → Nat → Nat} {M1 M2 : ti_M} {b q3 L cells slots : Nat} {iv : Int32} {xs : Nat → Int32} {H : Heap} {locs : List Loc} {ls : Array Slot} (Z : lq_Z p s m meth c D cy A1 A2 b L xs) (hcs : cells ≤ room_1.cells ∧ slots ≤ room_1.slots) (hw : lq_H s D cy A1 A2 q3 M1 M2 H locs) (hI : lq_I M1 M2) (hi : 0 ≤ iv.toInt ∧ iv.toInt + 6 ≤ L) (hl : lv_has ls 7 [(4, .int iv), (3, .ref q3), (2, .ref (A2 60 0)), (1, .ref (A1 0 0)), (0, .ref b)]) (kk : ∀ (M1 M2 : ti_M) (H : Heap) (locs : List Loc) (ls : Array Slot), lq_H s D cy A1 A2 q3 M1 M2 H locs → lq_I M1 M2 → lv_has ls 7 [(4, .int iv), (3, .ref q3), (2, .ref (A2 60 0)), (1, .ref (A1 0 0)), (0, .ref b)] → W p l e room_1 s m #[Value.ref b] below meth c H locs cells slots (lw_Z below #[Value.ref b] s) (F0 m 1521 ls [])) : W p l e room_1 s m #[Value.ref b] below meth c H locs cells slots (lw_Z below #[Value.ref b] s) (F0 m 1247 ls []) := by
  have C := Z.1
  have hA := Z.2.1
  have hx := C.1
  have hb := C.2.1
  have hbA : ¬ lq_F s b := Nat.not_le.mpr Z.2.2.2.1
  have hL := Z.2.2.2.2.2.2.1
  have hE := Z.2.2.2.2.2.2.2
  obtain ⟨Tc, Tm, hF1, hF2, hE0, hB0, hR1, hR2, hS1, hS2, rg, htd1, htd2, hle⟩ := hI
  have hR := And.intro hR1 hR2
  have hS := And.intro hS1 hS2
  refine lv_aload_n hx hb dL_law_1247 rfl (lv_at hl 3 rfl) ?_
  refine lv_aload_n hx hb dL_law_1248 rfl (lv_at hl 4 rfl) ?_
  refine lv_iload hx hb dL_law_1249 (lv_at hl 0 rfl) ?_
  refine lv_iconst (v := 1) hx hb dL_law_1251 (by decide) ?_
  refine lv_iadd hx hb dL_law_1252 ?_
  refine va_sld (i := iv + 1) hx hb Z.2.2.1 Z.2.2.2.1 hbA hw.2.2.1 (lq_in hi hL (by decide) (by decide)) dL_law_1253 ?_
  refine lq_callTi (av := [.int (xs (iv + 1 : Int32).toNatClampNeg)]) C hA hw (w_X9_known l D A1 cy hA.1 M1 hF1.1 hF1 (xs (iv + 1 : Int32).toNatClampNeg) rg htd1) ⟨ml_L_144, ym_X9_known, yv_X9_known, yi_X9_known, yc_X9_known⟩ yd_X9_known rfl rfl hl.1 (Nat.le_of_ble_eq_true rfl) ⟨by decide, by decide⟩ hcs dL_law_1254 (fun rT N1 H locs hpT hw => ?_)
  refine lv_pop hx hb dL_law_1257 rfl ?_
  refine lv_aload_n hx hb dL_law_1258 rfl (lv_at hl 2 rfl) ?_
  refine lv_aload_n hx hb dL_law_1259 rfl (lv_at hl 4 rfl) ?_
  refine lv_iload hx hb dL_law_1260 (lv_at hl 0 rfl) ?_
  refine lv_iconst (v := 1) hx hb dL_law_1262 (by decide) ?_
  refine lv_iadd hx hb dL_law_1263 ?_
  refine va_sld (i := iv + 1) hx hb Z.2.2.1 Z.2.2.2.1 hbA hw.2.2.1 (lq_in hi hL (by decide) (by decide)) dL_law_1264 ?_
  refine lq_callMi (av := [.int (xs (iv + 1 : Int32).toNatClampNeg)]) C hA hw (w_X10_known l D A2 cy hA.2.1 M2 hF2.1 hF2 (xs (iv + 1 : Int32).toNatClampNeg) rg htd2) ⟨ml_L_147, ym_X10_known, yv_X10_known, yi_X10_known, yc_X10_known⟩ yd_X10_known rfl rfl hl.1 (Nat.le_of_ble_eq_true rfl) ⟨by decide, by decide⟩ hcs dL_law_1265 (fun rM N2 H locs hpM hw => ?_)
  refine lv_pop hx hb dL_law_1268 rfl ?_
  have hC5 : (tI M1 50 5).toInt = (tI M2 60 58).toInt := (congrArg (fun t => Int32.toInt t.2.1) hF1.1.2.2).trans (hS1.trans (congrArg (fun t => Int32.toInt t.2.2.2.1) hF2.1.2.2.2).symm)
  have hC6 : (tI M1 50 6).toInt = (tI M2 60 59).toInt := (congrArg (fun t => Int32.toInt t.2.2.1) hF1.1.2.2).trans (hS2.trans (congrArg (fun t => Int32.toInt t.2.2.2.2.1) hF2.1.2.2.2).symm)
  have q := lq_st hF1 hF2 hE0 hB0 hR hS htd1 htd2 (by rw [hC5]) (fun g o w => ⟨rfl, (congrArg Int32.toInt g.2.2.1).trans (hC5.trans (congrArg Int32.toInt o.2.1).symm), congrArg Int32.toInt (g.2.2.2.trans o.2.2.symm), lE_eo hle g.1 (Or.inr rfl) g.2.1 o.1 w⟩) hle hpT hpM
  refine lv_goto (tgt := 1521) hx hb dL_law_1269 (by decide) ?_
  exact kk N1 N2 H locs ls hw q.2 hl
set_option maxRecDepth 100000 in
theorem lq_c29 {p : Program} {l : Launch} {e : Env} {s : State} {m : MethodId} {below : List Frame} {meth : Method} {c : Code} {D : va_G} {cy : Nat → ClassId} {A1 A2 : Nat → Nat → Nat} {M1 M2 : ti_M} {b q3 L cells slots : Nat} {iv : Int32} {xs : Nat → Int32} {H : Heap} {locs : List Loc} {ls : Array Slot} (Z : lq_Z p s m meth c D cy A1 A2 b L xs) (hcs : cells ≤ room_1.cells ∧ slots ≤ room_1.slots) (hw : lq_H s D cy A1 A2 q3 M1 M2 H locs) (hI : lq_I M1 M2) (hi : 0 ≤ iv.toInt ∧ iv.toInt + 6 ≤ L) (hl : lv_has ls 7 [(4, .int iv), (3, .ref q3), (2, .ref (A2 60 0)), (1, .ref (A1 0 0)), (0, .ref b)]) (kk : ∀ (M1 M2 : ti_M) (H : Heap) (locs : List Loc) (ls : Array Slot), lq_H s D cy A1 A2 q3 M1 M2 H locs → lq_I M1 M2 → lv_has ls 7 [(4, .int iv), (3, .ref q3), (2, .ref (A2 60 0)), (1, .ref (A1 0 0)), (0, .ref b)] → W p l e room_1 s m #[Value.ref b] below meth c H locs cells slots (lw_Z below #[Value.ref b] s) (F0 m 1521 ls [])) : W p l e room_1 s m #[Value.ref b] below meth c H locs cells slots (lw_Z below #[Value.ref b] s) (F0 m 1272 ls []) := by
  have C := Z.1
  have hA := Z.2.1
  have hx := C.1
  have hb := C.2.1
  have hbA : ¬ lq_F s b := Nat.not_le.mpr Z.2.2.2.1
  have hL := Z.2.2.2.2.2.2.1
  have hE := Z.2.2.2.2.2.2.2
  obtain ⟨Tc, Tm, hF1, hF2, hE0, hB0, hR1, hR2, hS1, hS2, rg, htd1, htd2, hle⟩ := hI
  have hR := And.intro hR1 hR2
  have hS := And.intro hS1 hS2
  refine lv_aload_n hx hb dL_law_1272 rfl (lv_at hl 3 rfl) ?_
  refine lq_callTi (av := []) C hA hw (f_X9_came l D A1 cy hA.1 M1 hF1.1 hF1) ⟨ml_L_148, ym_X9_came, yv_X9_came, yi_X9_came, yc_X9_came⟩ yd_X9_came rfl rfl hl.1 (Nat.le_of_ble_eq_true rfl) ⟨by decide, by decide⟩ hcs dL_law_1273 (fun rT N1 H locs hpT hw => ?_)
  refine lv_pop hx hb dL_law_1276 rfl ?_
  refine lv_aload_n hx hb dL_law_1277 rfl (lv_at hl 2 rfl) ?_
  refine lq_callMi (av := []) C hA hw (f_X10_came l D A2 cy hA.2.1 M2 hF2.1 hF2) ⟨ml_L_151, ym_X10_came, yv_X10_came, yi_X10_came, yc_X10_came⟩ yd_X10_came rfl rfl hl.1 (Nat.le_of_ble_eq_true rfl) ⟨by decide, by decide⟩ hcs dL_law_1278 (fun rM N2 H locs hpM hw => ?_)
  refine lv_pop hx hb dL_law_1281 rfl ?_
  refine lv_goto (tgt := 1521) hx hb dL_law_1282 (by decide) ?_
  exact kk N1 N2 H locs ls hw ⟨Tc, Tm, hpT.2.2.1, hpM.2.1, hpT.2.2.2.1.trans (hE0.trans (show tI N2 60 2 = tI M2 60 2 from hpM.2.2.1).symm), (fun i hi => hB0 i (by rw [← hpT.2.2.2.1]; exact hi)), (congrArg Int32.toInt (hpT.2.2.2.2.1 1 4 (by decide) (by decide))).trans hR.1, (congrArg Int32.toInt (hpT.2.2.2.2.1 1 5 (by decide) (by decide))).trans hR.2, hS1, hS2, rg, tdC_tl htd1 hpT.2.2.2.2, tdR_lw htd2 hpM.2.2.2, lE_obs hle hpT.1 hpT.2.1 hpM.1.1 (fun q => hpM.1.2.trans q) hpM.2.2.2⟩ hl
set_option maxRecDepth 100000 in
theorem lq_c30 {p : Program} {l : Launch} {e : Env} {s : State} {m : MethodId} {below : List Frame} {meth : Method} {c : Code} {D : va_G} {cy : Nat → ClassId} {A1 A2 : Nat → Nat → Nat} {M1 M2 : ti_M} {b q3 L cells slots : Nat} {iv : Int32} {xs : Nat → Int32} {H : Heap} {locs : List Loc} {ls : Array Slot} (Z : lq_Z p s m meth c D cy A1 A2 b L xs) (hcs : cells ≤ room_1.cells ∧ slots ≤ room_1.slots) (hw : lq_H s D cy A1 A2 q3 M1 M2 H locs) (hI : lq_I M1 M2) (hi : 0 ≤ iv.toInt ∧ iv.toInt + 6 ≤ L) (hl : lv_has ls 7 [(4, .int iv), (3, .ref q3), (2, .ref (A2 60 0)), (1, .ref (A1 0 0)), (0, .ref b)]) (kk : ∀ (M1 M2 : ti_M) (H : Heap) (locs : List Loc) (ls : Array Slot), lq_H s D cy A1 A2 q3 M1 M2 H locs → lq_I M1 M2 → lv_has ls 7 [(4, .int iv), (3, .ref q3), (2, .ref (A2 60 0)), (1, .ref (A1 0 0)), (0, .ref b)] → W p l e room_1 s m #[Value.ref b] below meth c H locs cells slots (lw_Z below #[Value.ref b] s) (F0 m 1521 ls [])) : W p l e room_1 s m #[Value.ref b] below meth c H locs cells slots (lw_Z below #[Value.ref b] s) (F0 m 1285 ls []) := by
  have C := Z.1
  have hA := Z.2.1
  have hx := C.1
  have hb := C.2.1
  have hbA : ¬ lq_F s b := Nat.not_le.mpr Z.2.2.2.1
  have hL := Z.2.2.2.2.2.2.1
  have hE := Z.2.2.2.2.2.2.2
  obtain ⟨Tc, Tm, hF1, hF2, hE0, hB0, hR1, hR2, hS1, hS2, rg, htd1, htd2, hle⟩ := hI
  have hR := And.intro hR1 hR2
  have hS := And.intro hS1 hS2
  refine lv_aload_n hx hb dL_law_1285 rfl (lv_at hl 3 rfl) ?_
  refine lv_aload_n hx hb dL_law_1286 rfl (lv_at hl 4 rfl) ?_
  refine lv_iload hx hb dL_law_1287 (lv_at hl 0 rfl) ?_
  refine lv_iconst (v := 1) hx hb dL_law_1289 (by decide) ?_
  refine lv_iadd hx hb dL_law_1290 ?_
  refine va_sld (i := iv + 1) hx hb Z.2.2.1 Z.2.2.2.1 hbA hw.2.2.1 (lq_in hi hL (by decide) (by decide)) dL_law_1291 ?_
  refine lv_aload_n hx hb dL_law_1292 rfl (lv_at hl 4 rfl) ?_
  refine lv_iload hx hb dL_law_1293 (lv_at hl 0 rfl) ?_
  refine lv_iconst (v := 2) hx hb dL_law_1295 (by decide) ?_
  refine lv_iadd hx hb dL_law_1296 ?_
  refine va_sld (i := iv + 2) hx hb Z.2.2.1 Z.2.2.2.1 hbA hw.2.2.1 (lq_in hi hL (by decide) (by decide)) dL_law_1297 ?_
  refine lq_callTi (av := [.int (xs (iv + 1 : Int32).toNatClampNeg), .int (xs (iv + 2 : Int32).toNatClampNeg)]) C hA hw (f_X9_one l D A1 cy hA.1 M1 hF1.1 hF1 (xs (iv + 1 : Int32).toNatClampNeg) (xs (iv + 2 : Int32).toNatClampNeg)) ⟨ml_L_152, ym_X9_one, yv_X9_one, yi_X9_one, yc_X9_one⟩ yd_X9_one rfl rfl hl.1 (Nat.le_of_ble_eq_true rfl) ⟨by decide, by decide⟩ hcs dL_law_1298 (fun rT N1 H locs hpT hw => ?_)
  refine lv_pop hx hb dL_law_1301 rfl ?_
  refine lv_aload_n hx hb dL_law_1302 rfl (lv_at hl 2 rfl) ?_
  refine lv_aload_n hx hb dL_law_1303 rfl (lv_at hl 4 rfl) ?_
  refine lv_iload hx hb dL_law_1304 (lv_at hl 0 rfl) ?_
  refine lv_iconst (v := 1) hx hb dL_law_1306 (by decide) ?_
  refine lv_iadd hx hb dL_law_1307 ?_
  refine va_sld (i := iv + 1) hx hb Z.2.2.1 Z.2.2.2.1 hbA hw.2.2.1 (lq_in hi hL (by decide) (by decide)) dL_law_1308 ?_
  refine lv_aload_n hx hb dL_law_1309 rfl (lv_at hl 4 rfl) ?_
  refine lv_iload hx hb dL_law_1310 (lv_at hl 0 rfl) ?_
  refine lv_iconst (v := 2) hx hb dL_law_1312 (by decide) ?_
  refine lv_iadd hx hb dL_law_1313 ?_
  refine va_sld (i := iv + 2) hx hb Z.2.2.1 Z.2.2.2.1 hbA hw.2.2.1 (lq_in hi hL (by decide) (by decide)) dL_law_1314 ?_
  refine lq_callMi (av := [.int (xs (iv + 1 : Int32).toNatClampNeg), .int (xs (iv + 2 : Int32).toNatClampNeg)]) C hA hw (f_X10_one l D A2 cy hA.2.1 M2 hF2.1 hF2 (xs (iv + 1 : Int32).toNatClampNeg) (xs (iv + 2 : Int32).toNatClampNeg)) ⟨ml_L_155, ym_X10_one, yv_X10_one, yi_X10_one, yc_X10_one⟩ yd_X10_one rfl rfl hl.1 (Nat.le_of_ble_eq_true rfl) ⟨by decide, by decide⟩ hcs dL_law_1315 (fun rM N2 H locs hpM hw => ?_)
  refine lv_pop hx hb dL_law_1318 rfl ?_
  refine lv_goto (tgt := 1521) hx hb dL_law_1319 (by decide) ?_
  exact kk N1 N2 H locs ls hw ⟨Tc, Tm, hpT.2.2.1, hpM.2.1, hpT.2.2.2.1.trans (hE0.trans (show tI N2 60 2 = tI M2 60 2 from hpM.2.2.1).symm), (fun i hi => hB0 i (by rw [← hpT.2.2.2.1]; exact hi)), (congrArg Int32.toInt (hpT.2.2.2.2.1 1 4 (by decide) (by decide))).trans hR.1, (congrArg Int32.toInt (hpT.2.2.2.2.1 1 5 (by decide) (by decide))).trans hR.2, hS1, hS2, rg, tdC_tl htd1 hpT.2.2.2.2, tdR_lw htd2 hpM.2.2.2, lE_obs hle hpT.1 hpT.2.1 hpM.1.1 (fun q => hpM.1.2.trans q) hpM.2.2.2⟩ hl
set_option maxRecDepth 100000 in
theorem lq_c31 {p : Program} {l : Launch} {e : Env} {s : State} {m : MethodId} {below : List Frame} {meth : Method} {c : Code} {D : va_G} {cy : Nat → ClassId} {A1 A2 : Nat → Nat → Nat} {M1 M2 : ti_M} {b q3 L cells slots : Nat} {iv : Int32} {xs : Nat → Int32} {H : Heap} {locs : List Loc} {ls : Array Slot} (Z : lq_Z p s m meth c D cy A1 A2 b L xs) (hcs : cells ≤ room_1.cells ∧ slots ≤ room_1.slots) (hw : lq_H s D cy A1 A2 q3 M1 M2 H locs) (hI : lq_I M1 M2) (hi : 0 ≤ iv.toInt ∧ iv.toInt + 6 ≤ L) (hl : lv_has ls 7 [(4, .int iv), (3, .ref q3), (2, .ref (A2 60 0)), (1, .ref (A1 0 0)), (0, .ref b)]) (kk : ∀ (M1 M2 : ti_M) (H : Heap) (locs : List Loc) (ls : Array Slot), lq_H s D cy A1 A2 q3 M1 M2 H locs → lq_I M1 M2 → lv_has ls 7 [(4, .int iv), (3, .ref q3), (2, .ref (A2 60 0)), (1, .ref (A1 0 0)), (0, .ref b)] → W p l e room_1 s m #[Value.ref b] below meth c H locs cells slots (lw_Z below #[Value.ref b] s) (F0 m 1521 ls [])) : W p l e room_1 s m #[Value.ref b] below meth c H locs cells slots (lw_Z below #[Value.ref b] s) (F0 m 1322 ls []) := by
  have C := Z.1
  have hA := Z.2.1
  have hx := C.1
  have hb := C.2.1
  have hbA : ¬ lq_F s b := Nat.not_le.mpr Z.2.2.2.1
  have hL := Z.2.2.2.2.2.2.1
  have hE := Z.2.2.2.2.2.2.2
  obtain ⟨Tc, Tm, hF1, hF2, hE0, hB0, hR1, hR2, hS1, hS2, rg, htd1, htd2, hle⟩ := hI
  have hR := And.intro hR1 hR2
  have hS := And.intro hS1 hS2
  refine lv_aload_n hx hb dL_law_1322 rfl (lv_at hl 3 rfl) ?_
  refine lv_aload_n hx hb dL_law_1323 rfl (lv_at hl 4 rfl) ?_
  refine lv_iload hx hb dL_law_1324 (lv_at hl 0 rfl) ?_
  refine lv_iconst (v := 1) hx hb dL_law_1326 (by decide) ?_
  refine lv_iadd hx hb dL_law_1327 ?_
  refine va_sld (i := iv + 1) hx hb Z.2.2.1 Z.2.2.2.1 hbA hw.2.2.1 (lq_in hi hL (by decide) (by decide)) dL_law_1328 ?_
  refine lv_aload_n hx hb dL_law_1329 rfl (lv_at hl 4 rfl) ?_
  refine lv_iload hx hb dL_law_1330 (lv_at hl 0 rfl) ?_
  refine lv_iconst (v := 2) hx hb dL_law_1332 (by decide) ?_
  refine lv_iadd hx hb dL_law_1333 ?_
  refine va_sld (i := iv + 2) hx hb Z.2.2.1 Z.2.2.2.1 hbA hw.2.2.1 (lq_in hi hL (by decide) (by decide)) dL_law_1334 ?_
  refine lq_callTi (av := [.int (xs (iv + 1 : Int32).toNatClampNeg), .int (xs (iv + 2 : Int32).toNatClampNeg)]) C hA hw (f_X9_empty l D A1 cy hA.1 M1 hF1.1 hF1 (xs (iv + 1 : Int32).toNatClampNeg) (xs (iv + 2 : Int32).toNatClampNeg)) ⟨ml_L_156, ym_X9_empty, yv_X9_empty, yi_X9_empty, yc_X9_empty⟩ yd_X9_empty rfl rfl hl.1 (Nat.le_of_ble_eq_true rfl) ⟨by decide, by decide⟩ hcs dL_law_1335 (fun rT N1 H locs hpT hw => ?_)
  refine lv_pop hx hb dL_law_1338 rfl ?_
  refine lv_aload_n hx hb dL_law_1339 rfl (lv_at hl 2 rfl) ?_
  refine lv_aload_n hx hb dL_law_1340 rfl (lv_at hl 4 rfl) ?_
  refine lv_iload hx hb dL_law_1341 (lv_at hl 0 rfl) ?_
  refine lv_iconst (v := 1) hx hb dL_law_1343 (by decide) ?_
  refine lv_iadd hx hb dL_law_1344 ?_
  refine va_sld (i := iv + 1) hx hb Z.2.2.1 Z.2.2.2.1 hbA hw.2.2.1 (lq_in hi hL (by decide) (by decide)) dL_law_1345 ?_
  refine lv_aload_n hx hb dL_law_1346 rfl (lv_at hl 4 rfl) ?_
  refine lv_iload hx hb dL_law_1347 (lv_at hl 0 rfl) ?_
  refine lv_iconst (v := 2) hx hb dL_law_1349 (by decide) ?_
  refine lv_iadd hx hb dL_law_1350 ?_
  refine va_sld (i := iv + 2) hx hb Z.2.2.1 Z.2.2.2.1 hbA hw.2.2.1 (lq_in hi hL (by decide) (by decide)) dL_law_1351 ?_
  refine lq_callMi (av := [.int (xs (iv + 1 : Int32).toNatClampNeg), .int (xs (iv + 2 : Int32).toNatClampNeg)]) C hA hw (f_X10_empty l D A2 cy hA.2.1 M2 hF2.1 hF2 (xs (iv + 1 : Int32).toNatClampNeg) (xs (iv + 2 : Int32).toNatClampNeg)) ⟨ml_L_159, ym_X10_empty, yv_X10_empty, yi_X10_empty, yc_X10_empty⟩ yd_X10_empty rfl rfl hl.1 (Nat.le_of_ble_eq_true rfl) ⟨by decide, by decide⟩ hcs dL_law_1352 (fun rM N2 H locs hpM hw => ?_)
  refine lv_pop hx hb dL_law_1355 rfl ?_
  refine lv_goto (tgt := 1521) hx hb dL_law_1356 (by decide) ?_
  exact kk N1 N2 H locs ls hw ⟨Tc, Tm, hpT.2.2.1, hpM.2.1, hpT.2.2.2.1.trans (hE0.trans (show tI N2 60 2 = tI M2 60 2 from hpM.2.2.1).symm), (fun i hi => hB0 i (by rw [← hpT.2.2.2.1]; exact hi)), (congrArg Int32.toInt (hpT.2.2.2.2.1 1 4 (by decide) (by decide))).trans hR.1, (congrArg Int32.toInt (hpT.2.2.2.2.1 1 5 (by decide) (by decide))).trans hR.2, hS1, hS2, rg, tdC_tl htd1 hpT.2.2.2.2, tdR_lw htd2 hpM.2.2.2, lE_obs hle hpT.1 hpT.2.1 hpM.1.1 (fun q => hpM.1.2.trans q) hpM.2.2.2⟩ hl
set_option maxRecDepth 100000 in
theorem lq_c32 {p : Program} {l : Launch} {e : Env} {s : State} {m : MethodId} {below : List Frame} {meth : Method} {c : Code} {D : va_G} {cy : Nat → ClassId} {A1 A2 : Nat → Nat → Nat} {M1 M2 : ti_M} {b q3 L cells slots : Nat} {iv : Int32} {xs : Nat → Int32} {H : Heap} {locs : List Loc} {ls : Array Slot} (Z : lq_Z p s m meth c D cy A1 A2 b L xs) (hcs : cells ≤ room_1.cells ∧ slots ≤ room_1.slots) (hw : lq_H s D cy A1 A2 q3 M1 M2 H locs) (hI : lq_I M1 M2) (hi : 0 ≤ iv.toInt ∧ iv.toInt + 6 ≤ L) (hl : lv_has ls 7 [(4, .int iv), (3, .ref q3), (2, .ref (A2 60 0)), (1, .ref (A1 0 0)), (0, .ref b)]) (kk : ∀ (M1 M2 : ti_M) (H : Heap) (locs : List Loc) (ls : Array Slot), lq_H s D cy A1 A2 q3 M1 M2 H locs → lq_I M1 M2 → lv_has ls 7 [(4, .int iv), (3, .ref q3), (2, .ref (A2 60 0)), (1, .ref (A1 0 0)), (0, .ref b)] → W p l e room_1 s m #[Value.ref b] below meth c H locs cells slots (lw_Z below #[Value.ref b] s) (F0 m 1521 ls [])) : W p l e room_1 s m #[Value.ref b] below meth c H locs cells slots (lw_Z below #[Value.ref b] s) (F0 m 1359 ls []) := by
  have C := Z.1
  have hA := Z.2.1
  have hx := C.1
  have hb := C.2.1
  have hbA : ¬ lq_F s b := Nat.not_le.mpr Z.2.2.2.1
  have hL := Z.2.2.2.2.2.2.1
  have hE := Z.2.2.2.2.2.2.2
  obtain ⟨Tc, Tm, hF1, hF2, hE0, hB0, hR1, hR2, hS1, hS2, rg, htd1, htd2, hle⟩ := hI
  have hR := And.intro hR1 hR2
  have hS := And.intro hS1 hS2
  refine lv_aload_n hx hb dL_law_1359 rfl (lv_at hl 3 rfl) ?_
  refine lv_aload_n hx hb dL_law_1360 rfl (lv_at hl 4 rfl) ?_
  refine lv_iload hx hb dL_law_1361 (lv_at hl 0 rfl) ?_
  refine lv_iconst (v := 1) hx hb dL_law_1363 (by decide) ?_
  refine lv_iadd hx hb dL_law_1364 ?_
  refine va_sld (i := iv + 1) hx hb Z.2.2.1 Z.2.2.2.1 hbA hw.2.2.1 (lq_in hi hL (by decide) (by decide)) dL_law_1365 ?_
  refine lv_aload_n hx hb dL_law_1366 rfl (lv_at hl 4 rfl) ?_
  refine lv_iload hx hb dL_law_1367 (lv_at hl 0 rfl) ?_
  refine lv_iconst (v := 2) hx hb dL_law_1369 (by decide) ?_
  refine lv_iadd hx hb dL_law_1370 ?_
  refine va_sld (i := iv + 2) hx hb Z.2.2.1 Z.2.2.2.1 hbA hw.2.2.1 (lq_in hi hL (by decide) (by decide)) dL_law_1371 ?_
  refine lv_aload_n hx hb dL_law_1372 rfl (lv_at hl 4 rfl) ?_
  refine lv_iload hx hb dL_law_1373 (lv_at hl 0 rfl) ?_
  refine lv_iconst (v := 3) hx hb dL_law_1375 (by decide) ?_
  refine lv_iadd hx hb dL_law_1376 ?_
  refine va_sld (i := iv + 3) hx hb Z.2.2.1 Z.2.2.2.1 hbA hw.2.2.1 (lq_in hi hL (by decide) (by decide)) dL_law_1377 ?_
  refine lq_callTi (av := [.int (xs (iv + 1 : Int32).toNatClampNeg), .int (xs (iv + 2 : Int32).toNatClampNeg), .int (xs (iv + 3 : Int32).toNatClampNeg)]) C hA hw (f_X9_chance l D A1 cy hA.1 M1 hF1.1 hF1 (xs (iv + 1 : Int32).toNatClampNeg) (xs (iv + 2 : Int32).toNatClampNeg) (xs (iv + 3 : Int32).toNatClampNeg)) ⟨ml_L_160, ym_X9_chance, yv_X9_chance, yi_X9_chance, yc_X9_chance⟩ yd_X9_chance rfl rfl hl.1 (Nat.le_of_ble_eq_true rfl) ⟨by decide, by decide⟩ hcs dL_law_1378 (fun rT N1 H locs hpT hw => ?_)
  refine lv_pop hx hb dL_law_1381 rfl ?_
  refine lv_aload_n hx hb dL_law_1382 rfl (lv_at hl 2 rfl) ?_
  refine lv_aload_n hx hb dL_law_1383 rfl (lv_at hl 4 rfl) ?_
  refine lv_iload hx hb dL_law_1384 (lv_at hl 0 rfl) ?_
  refine lv_iconst (v := 1) hx hb dL_law_1386 (by decide) ?_
  refine lv_iadd hx hb dL_law_1387 ?_
  refine va_sld (i := iv + 1) hx hb Z.2.2.1 Z.2.2.2.1 hbA hw.2.2.1 (lq_in hi hL (by decide) (by decide)) dL_law_1388 ?_
  refine lv_aload_n hx hb dL_law_1389 rfl (lv_at hl 4 rfl) ?_
  refine lv_iload hx hb dL_law_1390 (lv_at hl 0 rfl) ?_
  refine lv_iconst (v := 2) hx hb dL_law_1392 (by decide) ?_
  refine lv_iadd hx hb dL_law_1393 ?_
  refine va_sld (i := iv + 2) hx hb Z.2.2.1 Z.2.2.2.1 hbA hw.2.2.1 (lq_in hi hL (by decide) (by decide)) dL_law_1394 ?_
  refine lv_aload_n hx hb dL_law_1395 rfl (lv_at hl 4 rfl) ?_
  refine lv_iload hx hb dL_law_1396 (lv_at hl 0 rfl) ?_
  refine lv_iconst (v := 3) hx hb dL_law_1398 (by decide) ?_
  refine lv_iadd hx hb dL_law_1399 ?_
  refine va_sld (i := iv + 3) hx hb Z.2.2.1 Z.2.2.2.1 hbA hw.2.2.1 (lq_in hi hL (by decide) (by decide)) dL_law_1400 ?_
  refine lq_callMi (av := [.int (xs (iv + 1 : Int32).toNatClampNeg), .int (xs (iv + 2 : Int32).toNatClampNeg), .int (xs (iv + 3 : Int32).toNatClampNeg)]) C hA hw (f_X10_chance l D A2 cy hA.2.1 M2 hF2.1 hF2 (xs (iv + 1 : Int32).toNatClampNeg) (xs (iv + 2 : Int32).toNatClampNeg) (xs (iv + 3 : Int32).toNatClampNeg)) ⟨ml_L_163, ym_X10_chance, yv_X10_chance, yi_X10_chance, yc_X10_chance⟩ yd_X10_chance rfl rfl hl.1 (Nat.le_of_ble_eq_true rfl) ⟨by decide, by decide⟩ hcs dL_law_1401 (fun rM N2 H locs hpM hw => ?_)
  refine lv_pop hx hb dL_law_1404 rfl ?_
  refine lv_goto (tgt := 1521) hx hb dL_law_1405 (by decide) ?_
  exact kk N1 N2 H locs ls hw ⟨Tc, Tm, hpT.2.2.1, hpM.2.1, hpT.2.2.2.1.trans (hE0.trans (show tI N2 60 2 = tI M2 60 2 from hpM.2.2.1).symm), (fun i hi => hB0 i (by rw [← hpT.2.2.2.1]; exact hi)), (congrArg Int32.toInt (hpT.2.2.2.2.1 1 4 (by decide) (by decide))).trans hR.1, (congrArg Int32.toInt (hpT.2.2.2.2.1 1 5 (by decide) (by decide))).trans hR.2, hS1, hS2, rg, tdC_tl htd1 hpT.2.2.2.2, tdR_lw htd2 hpM.2.2.2, lE_obs hle hpT.1 hpT.2.1 hpM.1.1 (fun q => hpM.1.2.trans q) hpM.2.2.2⟩ hl
set_option maxRecDepth 100000 in
theorem lq_c33 {p : Program} {l : Launch} {e : Env} {s : State} {m : MethodId} {below : List Frame} {meth : Method} {c : Code} {D : va_G} {cy : Nat → ClassId} {A1 A2 : Nat → Nat → Nat} {M1 M2 : ti_M} {b q3 L cells slots : Nat} {iv : Int32} {xs : Nat → Int32} {H : Heap} {locs : List Loc} {ls : Array Slot} (Z : lq_Z p s m meth c D cy A1 A2 b L xs) (hcs : cells ≤ room_1.cells ∧ slots ≤ room_1.slots) (hw : lq_H s D cy A1 A2 q3 M1 M2 H locs) (hI : lq_I M1 M2) (hi : 0 ≤ iv.toInt ∧ iv.toInt + 6 ≤ L) (hl : lv_has ls 7 [(4, .int iv), (3, .ref q3), (2, .ref (A2 60 0)), (1, .ref (A1 0 0)), (0, .ref b)]) (kk : ∀ (M1 M2 : ti_M) (H : Heap) (locs : List Loc) (ls : Array Slot), lq_H s D cy A1 A2 q3 M1 M2 H locs → lq_I M1 M2 → lv_has ls 7 [(4, .int iv), (3, .ref q3), (2, .ref (A2 60 0)), (1, .ref (A1 0 0)), (0, .ref b)] → W p l e room_1 s m #[Value.ref b] below meth c H locs cells slots (lw_Z below #[Value.ref b] s) (F0 m 1521 ls [])) : W p l e room_1 s m #[Value.ref b] below meth c H locs cells slots (lw_Z below #[Value.ref b] s) (F0 m 1408 ls []) := by
  have C := Z.1
  have hA := Z.2.1
  have hx := C.1
  have hb := C.2.1
  have hbA : ¬ lq_F s b := Nat.not_le.mpr Z.2.2.2.1
  have hL := Z.2.2.2.2.2.2.1
  have hE := Z.2.2.2.2.2.2.2
  obtain ⟨Tc, Tm, hF1, hF2, hE0, hB0, hR1, hR2, hS1, hS2, rg, htd1, htd2, hle⟩ := hI
  have hR := And.intro hR1 hR2
  have hS := And.intro hS1 hS2
  refine lv_aload_n hx hb dL_law_1408 rfl (lv_at hl 3 rfl) ?_
  refine lv_aload_n hx hb dL_law_1409 rfl (lv_at hl 4 rfl) ?_
  refine lv_iload hx hb dL_law_1410 (lv_at hl 0 rfl) ?_
  refine lv_iconst (v := 1) hx hb dL_law_1412 (by decide) ?_
  refine lv_iadd hx hb dL_law_1413 ?_
  refine va_sld (i := iv + 1) hx hb Z.2.2.1 Z.2.2.2.1 hbA hw.2.2.1 (lq_in hi hL (by decide) (by decide)) dL_law_1414 ?_
  refine lv_aload_n hx hb dL_law_1415 rfl (lv_at hl 4 rfl) ?_
  refine lv_iload hx hb dL_law_1416 (lv_at hl 0 rfl) ?_
  refine lv_iconst (v := 2) hx hb dL_law_1418 (by decide) ?_
  refine lv_iadd hx hb dL_law_1419 ?_
  refine va_sld (i := iv + 2) hx hb Z.2.2.1 Z.2.2.2.1 hbA hw.2.2.1 (lq_in hi hL (by decide) (by decide)) dL_law_1420 ?_
  refine lv_aload_n hx hb dL_law_1421 rfl (lv_at hl 4 rfl) ?_
  refine lv_iload hx hb dL_law_1422 (lv_at hl 0 rfl) ?_
  refine lv_iconst (v := 3) hx hb dL_law_1424 (by decide) ?_
  refine lv_iadd hx hb dL_law_1425 ?_
  refine va_sld (i := iv + 3) hx hb Z.2.2.1 Z.2.2.2.1 hbA hw.2.2.1 (lq_in hi hL (by decide) (by decide)) dL_law_1426 ?_
  refine lq_callTi (av := [.int (xs (iv + 1 : Int32).toNatClampNeg), .int (xs (iv + 2 : Int32).toNatClampNeg), .int (xs (iv + 3 : Int32).toNatClampNeg)]) C hA hw (f_X9_tried l D A1 cy hA.1 M1 hF1.1 hF1 (xs (iv + 1 : Int32).toNatClampNeg) (xs (iv + 2 : Int32).toNatClampNeg) (xs (iv + 3 : Int32).toNatClampNeg)) ⟨ml_L_164, ym_X9_tried, yv_X9_tried, yi_X9_tried, yc_X9_tried⟩ yd_X9_tried rfl rfl hl.1 (Nat.le_of_ble_eq_true rfl) ⟨by decide, by decide⟩ hcs dL_law_1427 (fun rT N1 H locs hpT hw => ?_)
  refine lv_pop hx hb dL_law_1430 rfl ?_
  refine lv_aload_n hx hb dL_law_1431 rfl (lv_at hl 2 rfl) ?_
  refine lv_aload_n hx hb dL_law_1432 rfl (lv_at hl 4 rfl) ?_
  refine lv_iload hx hb dL_law_1433 (lv_at hl 0 rfl) ?_
  refine lv_iconst (v := 1) hx hb dL_law_1435 (by decide) ?_
  refine lv_iadd hx hb dL_law_1436 ?_
  refine va_sld (i := iv + 1) hx hb Z.2.2.1 Z.2.2.2.1 hbA hw.2.2.1 (lq_in hi hL (by decide) (by decide)) dL_law_1437 ?_
  refine lv_aload_n hx hb dL_law_1438 rfl (lv_at hl 4 rfl) ?_
  refine lv_iload hx hb dL_law_1439 (lv_at hl 0 rfl) ?_
  refine lv_iconst (v := 2) hx hb dL_law_1441 (by decide) ?_
  refine lv_iadd hx hb dL_law_1442 ?_
  refine va_sld (i := iv + 2) hx hb Z.2.2.1 Z.2.2.2.1 hbA hw.2.2.1 (lq_in hi hL (by decide) (by decide)) dL_law_1443 ?_
  refine lv_aload_n hx hb dL_law_1444 rfl (lv_at hl 4 rfl) ?_
  refine lv_iload hx hb dL_law_1445 (lv_at hl 0 rfl) ?_
  refine lv_iconst (v := 3) hx hb dL_law_1447 (by decide) ?_
  refine lv_iadd hx hb dL_law_1448 ?_
  refine va_sld (i := iv + 3) hx hb Z.2.2.1 Z.2.2.2.1 hbA hw.2.2.1 (lq_in hi hL (by decide) (by decide)) dL_law_1449 ?_
  refine lq_callMi (av := [.int (xs (iv + 1 : Int32).toNatClampNeg), .int (xs (iv + 2 : Int32).toNatClampNeg), .int (xs (iv + 3 : Int32).toNatClampNeg)]) C hA hw (f_X10_tried l D A2 cy hA.2.1 M2 hF2.1 hF2 (xs (iv + 1 : Int32).toNatClampNeg) (xs (iv + 2 : Int32).toNatClampNeg) (xs (iv + 3 : Int32).toNatClampNeg)) ⟨ml_L_167, ym_X10_tried, yv_X10_tried, yi_X10_tried, yc_X10_tried⟩ yd_X10_tried rfl rfl hl.1 (Nat.le_of_ble_eq_true rfl) ⟨by decide, by decide⟩ hcs dL_law_1450 (fun rM N2 H locs hpM hw => ?_)
  refine lv_pop hx hb dL_law_1453 rfl ?_
  refine lv_goto (tgt := 1521) hx hb dL_law_1454 (by decide) ?_
  exact kk N1 N2 H locs ls hw ⟨Tc, Tm, hpT.2.2.1, hpM.2.2.1, hpT.2.2.2.1.trans (hE0.trans (show tI N2 60 2 = tI M2 60 2 from hpM.2.2.2.1).symm), (fun i hi => hB0 i (by rw [← hpT.2.2.2.1]; exact hi)), (congrArg Int32.toInt (hpT.2.2.2.2.1 1 4 (by decide) (by decide))).trans hR.1, (congrArg Int32.toInt (hpT.2.2.2.2.1 1 5 (by decide) (by decide))).trans hR.2, hS1, hS2, rg, tdC_tl htd1 hpT.2.2.2.2, tdR_lw htd2 hpM.2.2.2.2, lE_obs hle hpT.1 hpT.2.1 hpM.1 hpM.2.1 hpM.2.2.2.2⟩ hl
set_option maxRecDepth 100000 in
theorem lq_c34 {p : Program} {l : Launch} {e : Env} {s : State} {m : MethodId} {below : List Frame} {meth : Method} {c : Code} {D : va_G} {cy : Nat → ClassId} {A1 A2 : Nat → Nat → Nat} {M1 M2 : ti_M} {b q3 L cells slots : Nat} {iv : Int32} {xs : Nat → Int32} {H : Heap} {locs : List Loc} {ls : Array Slot} (Z : lq_Z p s m meth c D cy A1 A2 b L xs) (hcs : cells ≤ room_1.cells ∧ slots ≤ room_1.slots) (hw : lq_H s D cy A1 A2 q3 M1 M2 H locs) (hI : lq_I M1 M2) (hi : 0 ≤ iv.toInt ∧ iv.toInt + 6 ≤ L) (hl : lv_has ls 7 [(4, .int iv), (3, .ref q3), (2, .ref (A2 60 0)), (1, .ref (A1 0 0)), (0, .ref b)]) (kk : ∀ (M1 M2 : ti_M) (H : Heap) (locs : List Loc) (ls : Array Slot), lq_H s D cy A1 A2 q3 M1 M2 H locs → lq_I M1 M2 → lv_has ls 7 [(4, .int iv), (3, .ref q3), (2, .ref (A2 60 0)), (1, .ref (A1 0 0)), (0, .ref b)] → W p l e room_1 s m #[Value.ref b] below meth c H locs cells slots (lw_Z below #[Value.ref b] s) (F0 m 1521 ls [])) : W p l e room_1 s m #[Value.ref b] below meth c H locs cells slots (lw_Z below #[Value.ref b] s) (F0 m 1457 ls []) := by
  have C := Z.1
  have hA := Z.2.1
  have hx := C.1
  have hb := C.2.1
  have hbA : ¬ lq_F s b := Nat.not_le.mpr Z.2.2.2.1
  have hL := Z.2.2.2.2.2.2.1
  have hE := Z.2.2.2.2.2.2.2
  obtain ⟨Tc, Tm, hF1, hF2, hE0, hB0, hR1, hR2, hS1, hS2, rg, htd1, htd2, hle⟩ := hI
  have hR := And.intro hR1 hR2
  have hS := And.intro hS1 hS2
  obtain ⟨t9, tx9, s9, p9, si9, u9, c9, hb9⟩ := id hle
  obtain ⟨ht9, hkC9, hkR9, hW9, ⟨hw9, h19⟩, hU9, hi9⟩ := id hb9
  have m9 : 0 ≤ s9 2 ∧ s9 2 ≤ 120 := by
    have b : ib 0 120 (tY M2 60 34 0) := hF2.1.2.1 34 0 (by decide)
    rw [hkR9.2.1.1.1]; exact b
  refine lv_aload_n hx hb dL_law_1457 rfl (lv_at hl 3 rfl) ?_
  refine lq_callTi (av := []) C hA hw (z_X9_undo l D A1 cy hA.1 M1 hF1.1 hF1 t9 ht9 tx9 s9 p9 u9 c9 hkC9) ⟨ml_L_168, ym_X9_undo, yv_X9_undo, yi_X9_undo, yc_X9_undo⟩ yd_X9_undo rfl rfl hl.1 (Nat.le_of_ble_eq_true rfl) ⟨by decide, by decide⟩ hcs dL_law_1458 (fun rT N1 H locs hpT hw => ?_)
  refine lv_pop hx hb dL_law_1461 rfl ?_
  refine lv_aload_n hx hb dL_law_1462 rfl (lv_at hl 2 rfl) ?_
  refine lq_callMi (av := []) C hA hw (z_X10_undo l D A2 cy hA.2.1 M2 hF2.1 hF2 tx9 s9 p9 u9 c9 hW9.1 hW9 hw9 h19 hkR9 (fun i hi => (hU9.2 i hi).2.2)) ⟨ml_L_171, ym_X10_undo, yv_X10_undo, yi_X10_undo, yc_X10_undo⟩ yd_X10_undo rfl rfl hl.1 (Nat.le_of_ble_eq_true rfl) ⟨by decide, by decide⟩ hcs dL_law_1463 (fun rM N2 H locs hpM hw => ?_)
  refine lv_pop hx hb dL_law_1466 rfl ?_
  have q := lq_sp hF1 hE0 hB0 hR hS htd1 htd2 hpT hpM (fun _ => rfl) (fun a b => by omega) (fun a b => by omega) (fun i y => ⟨_, _, _, _, _, _, _, lB_no hb9 i y⟩) (fun q g i x y => ⟨_, _, _, _, _, _, _, lB_un hb9 g i q x y⟩)
  refine lv_goto (tgt := 1521) hx hb dL_law_1467 (by decide) ?_
  exact kk N1 N2 H locs ls hw q.2 hl
set_option maxRecDepth 100000 in
theorem lq_c35 {p : Program} {l : Launch} {e : Env} {s : State} {m : MethodId} {below : List Frame} {meth : Method} {c : Code} {D : va_G} {cy : Nat → ClassId} {A1 A2 : Nat → Nat → Nat} {M1 M2 : ti_M} {b q3 L cells slots : Nat} {iv : Int32} {xs : Nat → Int32} {H : Heap} {locs : List Loc} {ls : Array Slot} (Z : lq_Z p s m meth c D cy A1 A2 b L xs) (hcs : cells ≤ room_1.cells ∧ slots ≤ room_1.slots) (hw : lq_H s D cy A1 A2 q3 M1 M2 H locs) (hI : lq_I M1 M2) (hi : 0 ≤ iv.toInt ∧ iv.toInt + 6 ≤ L) (hl : lv_has ls 7 [(4, .int iv), (3, .ref q3), (2, .ref (A2 60 0)), (1, .ref (A1 0 0)), (0, .ref b)]) (kk : ∀ (M1 M2 : ti_M) (H : Heap) (locs : List Loc) (ls : Array Slot), lq_H s D cy A1 A2 q3 M1 M2 H locs → lq_I M1 M2 → lv_has ls 7 [(4, .int iv), (3, .ref q3), (2, .ref (A2 60 0)), (1, .ref (A1 0 0)), (0, .ref b)] → W p l e room_1 s m #[Value.ref b] below meth c H locs cells slots (lw_Z below #[Value.ref b] s) (F0 m 1521 ls [])) : W p l e room_1 s m #[Value.ref b] below meth c H locs cells slots (lw_Z below #[Value.ref b] s) (F0 m 1470 ls []) := by
  have C := Z.1
  have hA := Z.2.1
  have hx := C.1
  have hb := C.2.1
  have hbA : ¬ lq_F s b := Nat.not_le.mpr Z.2.2.2.1
  have hL := Z.2.2.2.2.2.2.1
  have hE := Z.2.2.2.2.2.2.2
  obtain ⟨Tc, Tm, hF1, hF2, hE0, hB0, hR1, hR2, hS1, hS2, rg, htd1, htd2, hle⟩ := hI
  have hR := And.intro hR1 hR2
  have hS := And.intro hS1 hS2
  obtain ⟨t9, tx9, s9, p9, si9, u9, c9, hb9⟩ := id hle
  obtain ⟨ht9, hkC9, hkR9, hW9, ⟨hw9, h19⟩, hU9, hi9⟩ := id hb9
  have m9 : 0 ≤ s9 2 ∧ s9 2 ≤ 120 := by
    have b : ib 0 120 (tY M2 60 34 0) := hF2.1.2.1 34 0 (by decide)
    rw [hkR9.2.1.1.1]; exact b
  refine lv_aload_n hx hb dL_law_1470 rfl (lv_at hl 3 rfl) ?_
  refine lq_callTi (av := []) C hA hw (z_X9_keep l D A1 cy hA.1 M1 hF1.1 hF1 t9 ht9 tx9 s9 p9 u9 c9 hkC9) ⟨ml_L_172, ym_X9_keep, yv_X9_keep, yi_X9_keep, yc_X9_keep⟩ yd_X9_keep rfl rfl hl.1 (Nat.le_of_ble_eq_true rfl) ⟨by decide, by decide⟩ hcs dL_law_1471 (fun rT N1 H locs hpT hw => ?_)
  refine lv_pop hx hb dL_law_1474 rfl ?_
  refine lv_aload_n hx hb dL_law_1475 rfl (lv_at hl 2 rfl) ?_
  refine lq_callMi (av := []) C hA hw (z_X10_keep l D A2 cy hA.2.1 M2 hF2.1 hF2 tx9 s9 p9 u9 c9 hW9.1 hW9 hw9 h19 hkR9) ⟨ml_L_175, ym_X10_keep, yv_X10_keep, yi_X10_keep, yc_X10_keep⟩ yd_X10_keep rfl rfl hl.1 (Nat.le_of_ble_eq_true rfl) ⟨by decide, by decide⟩ hcs dL_law_1476 (fun rM N2 H locs hpM hw => ?_)
  refine lv_pop hx hb dL_law_1479 rfl ?_
  have q := lq_kp hE0 hB0 hR hS htd1 htd2 hb9 hpT hpM
  refine lv_goto (tgt := 1521) hx hb dL_law_1480 (by decide) ?_
  exact kk N1 N2 H locs ls hw q.2 hl
set_option maxRecDepth 100000 in
theorem lq_c36 {p : Program} {l : Launch} {e : Env} {s : State} {m : MethodId} {below : List Frame} {meth : Method} {c : Code} {D : va_G} {cy : Nat → ClassId} {A1 A2 : Nat → Nat → Nat} {M1 M2 : ti_M} {b q3 L cells slots : Nat} {iv : Int32} {xs : Nat → Int32} {H : Heap} {locs : List Loc} {ls : Array Slot} (Z : lq_Z p s m meth c D cy A1 A2 b L xs) (hcs : cells ≤ room_1.cells ∧ slots ≤ room_1.slots) (hw : lq_H s D cy A1 A2 q3 M1 M2 H locs) (hI : lq_I M1 M2) (hi : 0 ≤ iv.toInt ∧ iv.toInt + 6 ≤ L) (hl : lv_has ls 7 [(4, .int iv), (3, .ref q3), (2, .ref (A2 60 0)), (1, .ref (A1 0 0)), (0, .ref b)]) (kk : ∀ (M1 M2 : ti_M) (H : Heap) (locs : List Loc) (ls : Array Slot), lq_H s D cy A1 A2 q3 M1 M2 H locs → lq_I M1 M2 → lv_has ls 7 [(4, .int iv), (3, .ref q3), (2, .ref (A2 60 0)), (1, .ref (A1 0 0)), (0, .ref b)] → W p l e room_1 s m #[Value.ref b] below meth c H locs cells slots (lw_Z below #[Value.ref b] s) (F0 m 1521 ls [])) : W p l e room_1 s m #[Value.ref b] below meth c H locs cells slots (lw_Z below #[Value.ref b] s) (F0 m 1483 ls []) := by
  have C := Z.1
  have hA := Z.2.1
  have hx := C.1
  have hb := C.2.1
  have hbA : ¬ lq_F s b := Nat.not_le.mpr Z.2.2.2.1
  have hL := Z.2.2.2.2.2.2.1
  have hE := Z.2.2.2.2.2.2.2
  obtain ⟨Tc, Tm, hF1, hF2, hE0, hB0, hR1, hR2, hS1, hS2, rg, htd1, htd2, hle⟩ := hI
  have hR := And.intro hR1 hR2
  have hS := And.intro hS1 hS2
  obtain ⟨t9, tx9, s9, p9, si9, u9, c9, hb9⟩ := id hle
  obtain ⟨ht9, hkC9, hkR9, hW9, ⟨hw9, h19⟩, hU9, hi9⟩ := id hb9
  have m9 : 0 ≤ s9 2 ∧ s9 2 ≤ 120 := by
    have b : ib 0 120 (tY M2 60 34 0) := hF2.1.2.1 34 0 (by decide)
    rw [hkR9.2.1.1.1]; exact b
  have hi2 : (tI M1 0 7).toInt = 0 ↔ (tI M2 60 51).toInt = 0 := by
    rcases hi9 with ⟨a, b⟩ | ⟨a, b, -⟩
    · exact ⟨fun _ => b, fun _ => a⟩
    · exact ⟨fun x => absurd x a, fun x => absurd x b⟩
  refine lv_aload_n hx hb dL_law_1483 rfl (lv_at hl 3 rfl) ?_
  refine lq_callTi (av := []) C hA hw (z_X9_back l D A1 cy hA.1 M1 hF1.1 hF1 t9 ht9 tx9 s9 p9 u9 c9 hkC9 si9 (fun q => by
      rcases hi9 with ⟨a, -⟩ | ⟨-, -, x, -⟩
      · exact absurd a q
      · exact x)) ⟨ml_L_176, ym_X9_back, yv_X9_back, yi_X9_back, yc_X9_back⟩ yd_X9_back rfl rfl hl.1 (Nat.le_of_ble_eq_true rfl) ⟨by decide, by decide⟩ hcs dL_law_1484 (fun rT N1 H locs hpT hw => ?_)
  refine lv_pop hx hb dL_law_1487 rfl ?_
  refine lv_aload_n hx hb dL_law_1488 rfl (lv_at hl 2 rfl) ?_
  refine lq_callMi (av := []) C hA hw (z_X10_back l D A2 cy hA.2.1 M2 hF2.1 hF2 tx9 s9 p9 u9 c9 hW9.1 hW9 hw9 h19 hkR9 si9 (fun q => by
      rcases hi9 with ⟨-, a⟩ | ⟨-, -, -, x, -⟩
      · exact absurd a q
      · exact x)) ⟨ml_L_179, ym_X10_back, yv_X10_back, yi_X10_back, yc_X10_back⟩ yd_X10_back rfl rfl hl.1 (Nat.le_of_ble_eq_true rfl) ⟨by decide, by decide⟩ hcs dL_law_1489 (fun rM N2 H locs hpM hw => ?_)
  refine lv_pop hx hb dL_law_1492 rfl ?_
  have q := lq_sp hF1 hE0 hB0 hR hS htd1 htd2 hpT hpM (fun _ => rfl) (fun a b => b (hi2.mp a)) (fun a b => b (hi2.mpr a)) (fun i y => ⟨_, _, _, _, _, _, _, lB_no hb9 i y⟩) (fun q g i x y => ⟨_, _, _, _, _, _, _, lB_bk hb9 g i q x y⟩)
  refine lv_goto (tgt := 1521) hx hb dL_law_1493 (by decide) ?_
  exact kk N1 N2 H locs ls hw q.2 hl
set_option maxRecDepth 100000 in
theorem lq_c37 {p : Program} {l : Launch} {e : Env} {s : State} {m : MethodId} {below : List Frame} {meth : Method} {c : Code} {D : va_G} {cy : Nat → ClassId} {A1 A2 : Nat → Nat → Nat} {M1 M2 : ti_M} {b q3 L cells slots : Nat} {iv : Int32} {xs : Nat → Int32} {H : Heap} {locs : List Loc} {ls : Array Slot} (Z : lq_Z p s m meth c D cy A1 A2 b L xs) (hcs : cells ≤ room_1.cells ∧ slots ≤ room_1.slots) (hw : lq_H s D cy A1 A2 q3 M1 M2 H locs) (hI : lq_I M1 M2) (hi : 0 ≤ iv.toInt ∧ iv.toInt + 6 ≤ L) (hl : lv_has ls 7 [(4, .int iv), (3, .ref q3), (2, .ref (A2 60 0)), (1, .ref (A1 0 0)), (0, .ref b)]) (kk : ∀ (M1 M2 : ti_M) (H : Heap) (locs : List Loc) (ls : Array Slot), lq_H s D cy A1 A2 q3 M1 M2 H locs → lq_I M1 M2 → lv_has ls 7 [(4, .int iv), (3, .ref q3), (2, .ref (A2 60 0)), (1, .ref (A1 0 0)), (0, .ref b)] → W p l e room_1 s m #[Value.ref b] below meth c H locs cells slots (lw_Z below #[Value.ref b] s) (F0 m 1521 ls [])) : W p l e room_1 s m #[Value.ref b] below meth c H locs cells slots (lw_Z below #[Value.ref b] s) (F0 m 1496 ls []) := by
  have C := Z.1
  have hA := Z.2.1
  have hx := C.1
  have hb := C.2.1
  have hbA : ¬ lq_F s b := Nat.not_le.mpr Z.2.2.2.1
  have hL := Z.2.2.2.2.2.2.1
  have hE := Z.2.2.2.2.2.2.2
  obtain ⟨Tc, Tm, hF1, hF2, hE0, hB0, hR1, hR2, hS1, hS2, rg, htd1, htd2, hle⟩ := hI
  have hR := And.intro hR1 hR2
  have hS := And.intro hS1 hS2
  refine lv_aload_n hx hb dL_law_1496 rfl (lv_at hl 3 rfl) ?_
  refine lv_aload_n hx hb dL_law_1497 rfl (lv_at hl 4 rfl) ?_
  refine lv_iload hx hb dL_law_1498 (lv_at hl 0 rfl) ?_
  refine lv_iconst (v := 1) hx hb dL_law_1500 (by decide) ?_
  refine lv_iadd hx hb dL_law_1501 ?_
  refine va_sld (i := iv + 1) hx hb Z.2.2.1 Z.2.2.2.1 hbA hw.2.2.1 (lq_in hi hL (by decide) (by decide)) dL_law_1502 ?_
  refine lq_callTi (av := [.int (xs (iv + 1 : Int32).toNatClampNeg)]) C hA hw (f_X9_count l D A1 cy hA.1 M1 hF1.1 hF1 (xs (iv + 1 : Int32).toNatClampNeg)) ⟨ml_L_180, ym_X9_count, yv_X9_count, yi_X9_count, yc_X9_count⟩ yd_X9_count rfl rfl hl.1 (Nat.le_of_ble_eq_true rfl) ⟨by decide, by decide⟩ hcs dL_law_1503 (fun rT N1 H locs hpT hw => ?_)
  refine lv_pop hx hb dL_law_1506 rfl ?_
  refine lv_aload_n hx hb dL_law_1507 rfl (lv_at hl 2 rfl) ?_
  refine lv_aload_n hx hb dL_law_1508 rfl (lv_at hl 4 rfl) ?_
  refine lv_iload hx hb dL_law_1509 (lv_at hl 0 rfl) ?_
  refine lv_iconst (v := 1) hx hb dL_law_1511 (by decide) ?_
  refine lv_iadd hx hb dL_law_1512 ?_
  refine va_sld (i := iv + 1) hx hb Z.2.2.1 Z.2.2.2.1 hbA hw.2.2.1 (lq_in hi hL (by decide) (by decide)) dL_law_1513 ?_
  refine lq_callMi (av := [.int (xs (iv + 1 : Int32).toNatClampNeg)]) C hA hw (f_X10_count l D A2 cy hA.2.1 M2 hF2.1 hF2 (xs (iv + 1 : Int32).toNatClampNeg)) ⟨ml_L_183, ym_X10_count, yv_X10_count, yi_X10_count, yc_X10_count⟩ yd_X10_count rfl rfl hl.1 (Nat.le_of_ble_eq_true rfl) ⟨by decide, by decide⟩ hcs dL_law_1514 (fun rM N2 H locs hpM hw => ?_)
  refine lv_pop hx hb dL_law_1517 rfl ?_
  refine lv_goto (tgt := 1521) hx hb dL_law_1518 (by decide) ?_
  exact kk N1 N2 H locs ls hw ⟨Tc, Tm, hpT.2.2.1, hpM.2.1, hpT.2.2.2.1.trans (hE0.trans (show tI N2 60 2 = tI M2 60 2 from hpM.2.2.1).symm), (fun i hi => hB0 i (by rw [← hpT.2.2.2.1]; exact hi)), (congrArg Int32.toInt (hpT.2.2.2.2.1 1 4 (by decide) (by decide))).trans hR.1, (congrArg Int32.toInt (hpT.2.2.2.2.1 1 5 (by decide) (by decide))).trans hR.2, hS1, hS2, rg, tdC_tl htd1 hpT.2.2.2.2, tdR_lw htd2 hpM.2.2.2, lE_obs hle hpT.1 hpT.2.1 hpM.1.1 (fun q => hpM.1.2.trans q) hpM.2.2.2⟩ hl
end
section
section
variable {p : Program} {l : Launch} {e : Env} {R : Room} {s : State} {m : MethodId} {args : Array Value} {below : List Frame} {meth : Method} {c : Code} {H : Heap} {locs : List Loc} {cells slots : Nat}
theorem vx_back9 {T S : State} {R' : Room} {k n : Nat} (X : Stand p l e R s m args below meth c T locs cells slots) (Y : Stand p l e R' ((T.setVm s.vm).setFrames (.invoking m args :: below)) m args below meth c T [] 0 0) (Z : Stand p l e R' ((T.setVm s.vm).setFrames (.invoking m args :: below)) m args below meth c S [] k n) :
    Stand p l e R s m args below meth c S locs (cells + k) (slots + n) := by
  have hW0 : s.WarmedH ((T.setVm s.vm).setFrames (.invoking m args :: below)).vm := State.WarmedH.refl s
  refine { admits := X.admits, cas := X.cas, clock := X.clock, frames := X.frames, room := X.room, hears := X.hears, method := X.method, code := X.code, here := Z.here, tail := Z.tail, warmed := State.WarmedH.trans hW0 Z.warmed, limits := Z.limits.trans (Y.limits.symm.trans X.limits), bytes := Z.bytes.trans (Y.bytes.symm.trans X.bytes), same := ?_ }
  obtain ⟨e1, e2⟩ := Z.same
  rw [State.setFrames_setFrames] at e1
  have h2 : (T.setVm s.vm).sameButNew (S.setVm s.vm) [] k n := ⟨e1, e2⟩
  have h3 := X.same.trans h2
  rw [List.append_nil] at h3
  exact h3
end
section
variable {p : Program} {l : Launch} {e : Env} {R : Room} {s : State} {m : MethodId} {args : Array Value} {below : List Frame} {meth : Method} {c : Code} {H : Heap} {locs : List Loc} {cells slots : Nat} {Q : State → Prop} {ls : Array Slot} {rest : List Value}
theorem vx_athrow {cc : ByteArray} {pc : Nat} (hexec : p.tables.exec = Jvm.exec) (hb : c.code = cc) {q : Addr} (hdg : decode cc pc = .ok (.athrow, 1)) (k : vx_W p l e R s m args below meth c H locs cells slots Q (F0 m pc ls rest) q) : W p l e R s m args below meth c H locs cells slots Q (F0 m pc ls (.ref q :: rest)) := by
  intro T hT X
  obtain ⟨t, st, hq⟩ := k T hT X
  refine ⟨t, ?_, hq⟩
  have hdg' : decode c.code pc = .ok (.athrow, 1) := by rw [hb]; exact hdg
  jvm_step X.here [X.here.top, hexec, hdg', athrow.wp_sem]
  exact st
end
abbrev lk_E2 : String := "java/util/NoSuchElementException"
abbrev lk_Y1 : String := "java/lang/RuntimeException"
abbrev lk_r1 : List String := ["java/lang/Exception"]
abbrev lk_t2 : String := "no such what"
def ly_six : ByteArray := ⟨#[0x2a, 0x2b, 0xb7, 0x00, 0x0d, 0xb1]⟩
theorem ly_six_0 : decode ly_six 0 = .ok (.aload_n 0, 1) := by decide +kernel
theorem ly_six_1 : decode ly_six 1 = .ok (.aload_n 1, 1) := by decide +kernel
theorem ly_six_2 : decode ly_six 2 = .ok (.invokespecial 13, 3) := by decide +kernel
theorem ly_six_5 : decode ly_six 5 = .ok (.return_, 1) := by decide +kernel
/-- what follows the chain among a throw's words -/
def ly_end : List Cond := (Bundle.ownAtoms RX9 158 lk_E2 []).drop (Bundle.throwableAtoms.length + Bundle.throwableSAtoms.length + 5)
def ly_all : List Cond := Bundle.throwableAtoms ++ Bundle.throwableSAtoms ++ (Bundle.passSAtoms lk_E2 lk_Y1 13 ly_six ++ Bundle.chainSAtoms lk_Y1 lk_r1) ++ ly_end
theorem ly_m1 {x : Cond} (h : x ∈ Bundle.throwableAtoms) : x ∈ ly_all := List.mem_append_left _ (List.mem_append_left _ (List.mem_append_left _ h))
theorem ly_m2 {x : Cond} (h : x ∈ Bundle.throwableSAtoms) : x ∈ ly_all := List.mem_append_left _ (List.mem_append_left _ (List.mem_append_right _ h))
theorem ly_m3 {x : Cond} (h : x ∈ Bundle.passSAtoms lk_E2 lk_Y1 13 ly_six) : x ∈ ly_all := List.mem_append_left _ (List.mem_append_right _ (List.mem_append_left _ h))
theorem ly_m4 {x : Cond} (h : x ∈ Bundle.chainSAtoms lk_Y1 lk_r1) : x ∈ ly_all := List.mem_append_left _ (List.mem_append_right _ (List.mem_append_right _ h))
section
variable {p : Program} {l : Launch} {e : Env} {R : Room} {s : State} {m₀ : MethodId} {args : Array Value} {below : List Frame} {meth : Method} {c : Code} {W : State} {locs : List Loc} {cells slots : Nat}
set_option maxHeartbeats 1000000 in
theorem ly_ctor (X : Stand p l e R s m₀ args below meth c W locs cells slots) (hexec : p.tables.exec = Jvm.exec) (htr : e.platform.stackTraces = false)
    (hown : s.vm.findClass RX9 = some m₀.cls)
    (h : ∀ a ∈ ly_all, a.before args s = true)
    (hlocs : ∀ x ∈ locs, ∀ cell, s.heap[x.base]? = some cell → cell.vm.isStatics = false)
    {a : Addr} {cX : ClassId} {kX : Class} (hfoundX : s.vm.findClass lk_E2 = some cX) (hkX : s.vm.classes[cX]? = some kX) (hcell : W.heap[a]? = some (freshCell cX kX)) (hnew : s.heap.size ≤ a)
    {msg : Value} (hmsg : msg.isRef = true)
    {g : JFrame} (hg : g.method = m₀) (hsize : g.locals.size = c.maxLocals) {rest : List Value} (hstack : g.stack = msg :: .ref a :: .ref a :: rest)
    (hd6 : decode c.code g.pc = .ok (.invokespecial 158, 3))
    (hRframes : 5 < R.frames) (hRlocals : 2 * g.monitorRoom + ((Value.ref a :: rest).map fun v => v.category).sum + (13 * 3 + 42) ≤ R.locals) :
    ∃ (V : State) (ce : Cell) (L : List Loc), Stand p l e R s m₀ args below meth c (V.setCell a ce) (locs ++ L) cells slots ∧ (∀ y ∈ L, y.base = a) ∧ a < V.heap.size ∧ ce.cls = cX ∧ ce.vm = .none ∧
      ∀ target, Steps p.tables e below ((V.setCell a ce).setTop { g with stack := .ref a :: rest, pc := g.pc + 3 }) target → Steps p.tables e below (W.setTop g) target := by
  have howns : e.platform.frameOwnsMonitors = true := by rw [X.admits.platform]
  have hfin : e.platform.finalization = false := by rw [X.admits.platform]
  have hpl : e.platform.magicAccessors = ({} : Platform).magicAccessors := by rw [X.admits.platform]
  have a' : ∀ x, x ∈ ly_all → x.holds args s none s [] = true := fun x hx => h x hx
  obtain ⟨T, Z0, L, -, Y⟩ := ThrowableC.of_atoms (args := args) howns hfin hpl (fun x hx => h x (ly_m1 hx))
  obtain ⟨Z, M, LZ, LM, hnZ⟩ := Init0T.ofS_atoms (args := args) hpl L Y (fun x hx => h x (ly_m2 hx))
  obtain ⟨P1, L1, hP1m, hs1⟩ := PassC.ofS_atoms (args := args) (s := s) hpl (X := lk_E2) (Y := lk_Y1) (by decide +kernel) (by decide) ly_six_0 ly_six_1 ly_six_2 ly_six_5 (fun x hx => h x (ly_m3 hx))
  obtain ⟨P2, Ps, hlen, L2, hL, hP2m, hlink2, hlink⟩ := Bundle.chainS (args := args) hpl hnZ lk_r1 lk_Y1 (by decide +kernel) (by decide +kernel) (fun x hx => h x (ly_m4 hx))
  have hsup : P1.sup = P2.m := Option.some.inj (hs1.symm.trans hP2m)
  have hlen : Ps.length = 1 := hlen
  have hfound : s.vm.findClass lk_E2 = some P1.m.cls := findClass_of_methodNamed hP1m
  cases Option.some.inj (hfoundX.symm.trans hfound)
  obtain ⟨c1, kX', hc1, hk, hord, -, -, hn6⟩ := Cond.instantiable_spec (a' (.instantiable lk_E2 6) (by decide +kernel))
  cases Option.some.inj (hc1.symm.trans hfound)
  cases Option.some.inj (hkX.symm.trans hk)
  have hsel0 : selectMethod e.platform s.vm P1.m.cls T.fill0 = .method T.fill0 := by
    obtain ⟨c2, r2, m2, q1, q2, q3, q4, -⟩ := Cond.selects_spec (a' (.selects lk_E2 Bundle.tFill0 Bundle.tFill0) (by decide +kernel))
    cases Option.some.inj (q1.symm.trans hfound)
    cases Option.some.inj (q2.symm.trans (State.methodFound?_of_named Y.fill0 (by decide)))
    cases Option.some.inj (q3.symm.trans Y.fill0)
    rw [Launch.admits_selectMethod X.admits]; exact q4
  have hselF : selectMethod e.platform s.vm P1.m.cls T.fill = .method T.fill := by
    obtain ⟨c2, r2, m2, q1, q2, q3, q4, -⟩ := Cond.selects_spec (a' (.selects lk_E2 Bundle.tFill Bundle.tFill) (by decide +kernel))
    cases Option.some.inj (q1.symm.trans hfound)
    cases Option.some.inj (q2.symm.trans (State.methodFound?_of_named Y.fill (by decide)))
    cases Option.some.inj (q3.symm.trans Y.fill)
    rw [Launch.admits_selectMethod X.admits]; exact q4
  obtain ⟨cellS0, hcS0, hiss⟩ := Y.statics
  obtain ⟨u0, hu0⟩ := Cond.staticRefV Y.unassigned L.unassignedStatic L.statics hcS0 hiss (a' (.isRef (.static Bundle.tN "UNASSIGNED_STACK" Bundle.steD)) (by decide +kernel))
  obtain ⟨sen, hsen⟩ := Cond.staticRefV Y.sentinel L.sentinelStatic L.statics hcS0 hiss (a' (.isRef (.static Bundle.tN "SUPPRESSED_SENTINEL" Bundle.listD)) (by decide +kernel))
  obtain ⟨ci198, i198, fB, hk198, hg198, ha198, hsB, -, hnB, htB, hffB⟩ := Cond.ownField (t := .object "java/lang/Object") Y.found L.cls (by decide +kernel) (a' (.fieldLink Bundle.tN 198 Bundle.tN "backtrace" "Ljava/lang/Object;") (by decide +kernel)) (a' (.lays Bundle.tN Bundle.tN "backtrace" "Ljava/lang/Object;") (by decide +kernel)) e.platform hpl
  obtain ⟨cellS, hcS', heS, -, hkeep⟩ := X.same.2.2.2.2.2 T.aS cellS0 hcS0
  have hcellS : W.heap[T.aS]? = some cellS := hcS'
  have hout' : ∀ i, (⟨T.aS, i⟩ : Loc) ∉ locs := fun i hmem => by
    have := hlocs _ hmem cellS0 hcS0
    rw [hiss] at this; cases this
  have hknownS : cellS.vm ≠ .unknown := by
    rw [heS]; intro hu
    rw [show cellS0.vm = .unknown from hu] at hiss
    cases hiss
  have hneS : T.aS ≠ a := Nat.ne_of_lt (Nat.lt_of_lt_of_le (Array.getElem?_eq_some_iff.mp hcS0).1 hnew)
  obtain ⟨iM, hffM⟩ := Y.msg
  obtain ⟨tyC, dC, hdC, hdnC⟩ := Cond.laysAt hfound hk Y.cause (a' (.lays lk_E2 Bundle.tN "cause" "Ljava/lang/Throwable;") (by decide +kernel))
  obtain ⟨tyS, dS, hdS, hdnS⟩ := Cond.laysAt hfound hk Y.stack (a' (.lays lk_E2 Bundle.tN "stackTrace" Bundle.steD) (by decide +kernel))
  obtain ⟨tyP, dP, hdP, hdnP⟩ := Cond.laysAt hfound hk Y.supp (a' (.lays lk_E2 Bundle.tN "suppressedExceptions" Bundle.listD) (by decide +kernel))
  obtain ⟨tyM, dM, hdM, hdnM⟩ := Cond.laysAt hfound hk hffM (a' (.lays lk_E2 Bundle.tN "detailMessage" "Ljava/lang/String;") (by decide +kernel))
  obtain ⟨tyB, dB, hdB, hdnB⟩ := Cond.laysAt hfound hk hffB (a' (.lays lk_E2 Bundle.tN "backtrace" "Ljava/lang/Object;") (by decide +kernel))
  have bC := Cond.laysApart hdB hdC hdnB hdnC (by rw [hnB, Y.causeName]; decide)
  have bS := Cond.laysApart hdB hdS hdnB hdnS (by rw [hnB, Y.stackName]; decide)
  have bP := Cond.laysApart hdB hdP hdnB hdnP (by rw [hnB, Y.suppName]; decide)
  have hskip : SkipFacts T e.platform s (fun u => u) u0 ((preparedCellV T.toThrowableT (freshCell P1.m.cls kX) a u0 sen).withEntry W.cur) :=
    ⟨{ ci198 := ci198, i198 := i198, fBack := fB }, ⟨hk198, hg198, ha198, hsB⟩, by
      have := fresh_default (c := P1.m.cls) tyB
      rw [htB] at this
      simpa [preparedCellV, Cell.setSlot, Cell.withEntry, Array.getElem?_setIfInBounds, bC, bS, bP, bC.symm, bS.symm, bP.symm, defaultValue] using this, fun _ _ => rfl⟩
  obtain ⟨tm, methC, cdC, kC, vm₁, hnC, -, -, -, -, -, -, -, hW₁, st1⟩ := Steps.initColdS (tb := p.tables) (e := e) (below := below) (s := s) (U := W) X.here hexec X.warmed hpl hown (t := Bundle.initS lk_E2) rfl rfl (Bundle.fit_spec (n := lk_E2) (by decide +kernel)).2
    (a' (.methodLink RX9 158 (Bundle.initS lk_E2)) (by decide +kernel)) (h (.instanceMethod (Bundle.initS lk_E2)) (by decide +kernel)) (bytes := ly_six) (maxL := 2) (h (.code (Bundle.initS lk_E2) ly_six 2 none) (by decide +kernel))
    (f := g) hg (a := a) (msg := msg) (rest := .ref a :: rest) hstack hd6
  cases Option.some.inj (hnC.symm.trans hP1m)
  have X₁ := X.noted hW₁
  obtain ⟨vm₂, X₂, st2⟩ := X₁.ctorMessageOffV hexec (g := { g with stack := .ref a :: rest }) hg hsize T L Z LZ M LM (P1 :: P2 :: Ps)
    (fun P hP => by
      rcases List.mem_cons.mp hP with rfl | hP
      · exact L1
      · rcases List.mem_cons.mp hP with rfl | hP
        · exact L2
        · exact hL P hP) ⟨hsup, hlink2, hlink⟩ (u0 := u0) (sen := sen) (self := a) hmsg (cell := freshCell P1.m.cls kX) (cellS := cellS)
    hcell (fun _ => by simp) (by simp) rfl rfl hsel0 hselF hcellS hneS hknownS (by rw [hkeep _ (hout' _)]; exact hu0) (by rw [hkeep _ (hout' _)]; exact hsen)
    (Takes.of_laid hk hord tyC (by rw [Y.causeType]; rfl)) (Takes.of_laid hk hord tyS (by rw [Y.stackType]; exact fits_refV_array _ u0)) (Takes.of_laid hk hord tyP (by rw [Y.suppType]; exact fits_refV_object _ sen))
    (Takes.of_laid hk hord tyM (by rw [Y.msgType]; exact fits_refV_object _ ⟨msg, hmsg⟩)) Y.objLocals hskip htr [] hd6
    (by simp only [List.length_cons, hlen]; omega) (by simp only [List.length_cons, hlen]; exact hRlocals)
  have hlt : a < ((W.setVm vm₁).setVm vm₂).heap.size := (Array.getElem?_eq_some_iff.mp hcell).1
  refine ⟨(W.setVm vm₁).setVm vm₂, _, _, X₂, fun y hy => ?_, hlt, rfl, rfl, fun target hwalk => st1 _ (fun acts => ?_)⟩
  · simp only [List.mem_cons, List.not_mem_nil, or_false] at hy
    rcases hy with rfl | rfl | rfl | rfl | rfl <;> rfl
  · rw [doInvoke_state]
    exact st2 _ hwalk
end
theorem ly_ot : ∀ w ∈ Cond.classLink RX9 154 lk_E2 :: Cond.initialized lk_E2 :: ly_all.filter vx_no, vx_ot w = true := by decide +kernel
section
variable {p : Program} {l : Launch} {e : Env} {R : Room} {s : State} {m : MethodId} {args : Array Value} {below : List Frame} {meth : Method} {c : Code} {H : Heap} {locs : List Loc} {cells slots : Nat} {Q : State → Prop} {ls : Array Slot} {rest : List Value}
/-- the object, ready to be thrown -/
theorem ly_make {cc : ByteArray} {pc : Nat} (hexec : p.tables.exec = Jvm.exec) (hb : c.code = cc) (hl : l.stackTraces = false) {sa : Nat} {A : Nat → Prop} (hown : s.vm.findClass RX9 = some m.cls)
    (hk : (Cond.classLink RX9 154 lk_E2).before args s = true) (hini : (Cond.initialized lk_E2).before args s = true) (hstr : vk_R RX9 156 lk_t2 sa s) (hat : ∀ w ∈ ly_all.filter vx_no, w.before args s = true)
    (hU : vx_Zq Bundle.tN "UNASSIGNED_STACK" Bundle.steD A s s.heap) (hN : vx_Zq Bundle.tN "SUPPRESSED_SENTINEL" Bundle.listD A s s.heap) (hS : va_S A s.heap H locs) (hsize : ls.size = c.maxLocals)
    (d0 : decode cc pc = .ok (.new 154, 3)) (d3 : decode cc (pc + 3) = .ok (.dup, 1)) (d4 : decode cc (pc + 4) = .ok (.ldc 156, 2)) (d6 : decode cc (pc + 6) = .ok (.invokespecial 158, 3))
    (hRframes : 5 < R.frames) (hRlocals : (rest.map fun v => v.category).sum + (13 * 3 + 43) ≤ R.locals) (hRcells : cells + 1 ≤ R.cells) (hRslots : slots + 6 ≤ R.slots)
    (kk : ∀ (q : Nat) (ce : Cell) (H1 : Heap), H1[q]? = some ce → ce.vm = .none → s.vm.findClass lk_E2 = some ce.cls → H.size ≤ H1.size → (∀ z : Nat, z < H.size → H1[z]? = H[z]?) → W p l e R s m args below meth c H1 locs (cells + 1) (slots + 6) Q (F0 m (pc + 9) ls (.ref q :: rest))) :
    W p l e R s m args below meth c H locs cells slots Q (F0 m pc ls rest) := by
  intro T hT X
  subst hT
  have htr : e.platform.stackTraces = false := (show e.platform.stackTraces = l.stackTraces by rw [X.admits.platform]).trans hl
  have Y := vx_rebase X (R' := { frames := R.frames, locals := R.locals, cells := 1, slots := 6 }) (Nat.le_refl _) (Nat.le_refl _) hRcells hRslots
  obtain ⟨s', hA'⟩ : ∃ z, z = (T.setVm s.vm).setFrames (.invoking m args :: below) := ⟨_, rfl⟩
  rw [← hA'] at Y
  have hvm : s'.vm = s.vm := by rw [hA']; rfl
  have hhp : s'.heap = T.heap := by rw [hA']; rfl
  have hW0 : s.WarmedH s'.vm := by rw [hvm]; exact State.WarmedH.refl s
  have hat' : ∀ w ∈ ly_all.filter vx_no, w.before args s' = true := fun w hw => vx_ot_at hW0 hvm.symm (ly_ot w (List.mem_cons_of_mem _ (List.mem_cons_of_mem _ hw))) (hat w hw)
  have hk' : (Cond.classLink RX9 154 lk_E2).before args s' = true := vx_ot_at hW0 hvm.symm (ly_ot _ List.mem_cons_self) hk
  have hini' : (Cond.initialized lk_E2).before args s' = true := vx_ot_at hW0 hvm.symm (ly_ot _ (List.mem_cons_of_mem _ List.mem_cons_self)) hini
  have hU' : vx_Zq Bundle.tN "UNASSIGNED_STACK" Bundle.steD A s' s'.heap := by rw [hhp]; exact vx_Zq.moved hW0.alike (hU.kept hS.2.1)
  have hN' : vx_Zq Bundle.tN "SUPPRESSED_SENTINEL" Bundle.listD A s' s'.heap := by rw [hhp]; exact vx_Zq.moved hW0.alike (hN.kept hS.2.1)
  have h : ∀ w ∈ ly_all, w.before args s' = true := vx_own hat' (vx_isRefq hU'.1) (vx_isRefq hN'.1) hU'.2.word hN'.2.word
  have hown' : s'.vm.findClass RX9 = some m.cls := by rw [hvm]; exact hown
  have hins : (Cond.instantiable lk_E2 6).before args s' = true := h _ (by decide +kernel)
  obtain ⟨vm₁, cX, kX, hfX, hkX, -, -, X₁, st1⟩ := Y.newCold hexec (own := RX9) (C := lk_E2) (index := 154) (n := 6) hown' hk' hins hini'
    (g := F0 m pc ls rest) rfl (by rw [hb]; exact d0) (Nat.le_refl _) (Nat.le_refl _)
  generalize hT1 : (T.setVm vm₁).pushCell { cls := cX, slots := kX.instanceTypes.map defaultValue, vm := .none } = T1 at X₁ st1
  have hcat : (Value.ref T.heap.size).category = 1 := rfl
  have hcellA : T1.heap[T.heap.size]? = some (freshCell cX kX) := by rw [← hT1]; exact State.heap_pushCell_size _ _
  have d3' : decode c.code (pc + 3) = .ok (.dup, 1) := by rw [hb]; exact d3
  have d4' : decode c.code (pc + 4) = .ok (.ldc 156, 2) := by rw [hb]; exact d4
  have hstr' : vk_R RX9 156 lk_t2 sa s' := vk_R.warm hW0 hstr
  obtain ⟨V, ce, L, Z, hL, hlt, hcl9, hvm9, st⟩ := ly_ctor X₁ hexec htr hown' h (fun x hx => nomatch hx) hfX hkX hcellA (by rw [hhp]; exact Nat.le_refl _) (msg := .ref sa) rfl
    (g := { method := m, pc := pc + 6, locals := ls, stack := .ref sa :: .ref T.heap.size :: .ref T.heap.size :: rest, locked := none }) rfl hsize (rest := rest) rfl
    (by rw [hb]; exact d6) hRframes (by simp only [List.map_cons, List.sum_cons, hcat]; omega)
  have Z0 := Stand.forget (locs := []) Z (fun y hy => by rw [hL y hy, hhp]; exact Nat.le_refl _)
  obtain ⟨f1, f2⟩ := vx_frame Z0.same
  rw [hhp] at f1 f2
  have hh : (V.setCell T.heap.size ce).heap[T.heap.size]? = some ce := heapAt_setCell_self (s := V) ce hlt
  have hvm' : s'.vm = s.vm := hvm
  have hfX' : s.vm.findClass lk_E2 = some cX := by rw [← hvm']; exact hfX
  subst hA'
  have X5 := vx_back9 X Y Z0
  have X6 : Stand p l e R s m args below meth c (V.setCell T.heap.size ce) locs (cells + 1) (slots + 6) := { X5 with same := X5.same.mono (by omega) (by omega) }
  obtain ⟨t, a1, b1⟩ := kk T.heap.size ce (V.setCell T.heap.size ce).heap hh hvm9 (by rw [hcl9]; exact hfX') f1 (fun z hz => f2 z hz (fun y hy => nomatch hy)) _ rfl X6
  refine ⟨t, st1 _ ?_, b1⟩
  show Steps p.tables e below (T1.setTop { method := m, pc := pc + 3, locals := ls, stack := .ref T.heap.size :: rest, locked := none }) _
  jvm_step X₁.here [X₁.here.top, hexec, d3', Value.category]
  exact X₁.ldcString hexec (own := RX9) (text := lk_t2) (index := 156) (a := sa) hown' hstr'.1 hstr'.2
    (g := { method := m, pc := pc + 4, locals := ls, stack := .ref T.heap.size :: .ref T.heap.size :: rest, locked := none }) rfl d4' _ (st _ a1)
end
end

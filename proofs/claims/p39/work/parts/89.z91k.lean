section
variable {Tc : gC} {Tm : gM}
set_option maxHeartbeats 4000000 in
set_option maxRecDepth 100000 in
theorem z_X9_stands (l : Launch) (D : va_G) (A : Nat → Nat → Nat) (cy : Nat → ClassId) (hJ : ti_inj ti_LT A) (M : ti_M) (hI : cI Tc M) (hF : cF Tc M) (t : Nat) (ht : t = 3 ∨ t = 4) (tx rg lp : Nat → Int) (ug : Nat → Nat → Int) (cu : Int) (hk : kC t tx rg ug cu lp M) (za : Int32) : ti_Ki l yX9_stands cX9_stands 2 (some .int) 1 ti_LT D A cy M [.ref (A 0 0), .int za] (fun r M2 => M2 = M ∧ r.toInt = (if 0 ≤ za.toInt ∧ za.toInt ≤ 7 then bq_ma rg za.toInt else -1)) := by
  refine ti_eI yp_X9_stands hJ ti_LT_nd (Nat.le_of_ble_eq_true rfl) ?_
  intro p e s m args below meth c Q H0 C hQ hw ls hl
  have hx := C.1
  have hb := C.2.1
  have hl : lv_has ls 2 [(0, .ref (A 0 0)), (1, .int za)] := hl
  obtain ⟨htx, hT1, hT, hs, hr, hp0⟩ := id hk
  have l4 : 0 ≤ tx 4 ∧ tx 4 ≤ 8 := by rw [htx.1 4 (by decide) (by decide)]; exact cI_rd (k := 4) hI (ob_t ht).1 rfl
  have h4 : tx 4 = (tI M t 4).toInt := htx.1 4 (by decide) (by decide)
  refine lv_aload_n hx hb dX9_stands_0 rfl (lv_at hl 0 rfl) ?_
  refine lv_iload_n hx hb dX9_stands_1 rfl (lv_at hl 1 rfl) ?_
  refine ti_callVi (ci := 9) (av := [.int za]) C hw (x_X9_isPlace l D A cy hJ M hI za) ⟨ml_X9_159, ym_X9_isPlace, yv_X9_isPlace, yi_X9_isPlace, yc_X9_isPlace⟩ yd_X9_isPlace ob_0 (by decide) rfl rfl hl.1 (Nat.le_of_ble_eq_true rfl) ⟨by decide, by decide⟩ ⟨Nat.zero_le _, Nat.zero_le _⟩ dX9_stands_2 (fun r_1 M_2 H locs hp_2 hw => ?_)
  obtain ⟨hm, hz⟩ := hp_2
  have hw := hw.to hm
  rcases hz with ⟨rfl, d0_3, d1_3⟩ | ⟨rfl, e_3⟩
  · refine sb_if_eq (tgt := 19) hx hb (by decide : (1 : Int32).toInt = 1) dX9_stands_5 (by decide) (fun h => absurd h (by decide)) (fun c_5_3 => ?_)
    refine lv_aload_n hx hb dX9_stands_8 rfl (lv_at hl 0 rfl) ?_
    refine ti_get (ci := 9) (k := 3) (N := 10) (T := TX9) (v := .ref (A 27 0)) C hw iw_9 rfl ob_0 (by decide) (by decide) fl_X9_29 rfl rfl dX9_stands_9 ?_
    refine lv_iload_n hx hb dX9_stands_12 rfl (lv_at hl 1 rfl) ?_
    refine ti_callVi (ci := 3) (av := [.int za]) C hw (z_X3_manAt l D A cy hJ M hI 27 ob_27 za rg hs) ⟨ml_X9_162, ym_X3_manAt, yv_X3_manAt, yi_X3_manAt, yc_X3_manAt⟩ yd_X3_manAt ob_27 (by decide) rfl rfl hl.1 (Nat.le_of_ble_eq_true rfl) ⟨by decide, by decide⟩ ⟨Nat.zero_le _, Nat.zero_le _⟩ dX9_stands_13 (fun r_6 M_7 H locs hp_7 hw => ?_)
    obtain ⟨hm, b0r_6, b1r_6, pr_6, p0r_6⟩ := hp_7
    have hw := hw.to hm
    refine lv_goto (tgt := 20) hx hb dX9_stands_16 (by decide) ?_
    exact hQ _ _ _ _ _ _ hw rfl (⟨rfl, by rw [if_pos (by omega)]; exact pr_6⟩) dX9_stands_20
  · refine sb_if_eq (tgt := 19) hx hb (by decide : (0 : Int32).toInt = 0) dX9_stands_5 (by decide) (fun c_5_4 => ?_) (fun h => absurd h (by decide))
    refine lv_iconst (v := (-1)) hx hb dX9_stands_19 (by decide) ?_
    exact hQ _ _ _ _ _ _ hw rfl (⟨rfl, by rw [if_neg (by omega)]; decide⟩) dX9_stands_20
set_option maxHeartbeats 4000000 in
set_option maxRecDepth 100000 in
theorem z_X9_holder (l : Launch) (D : va_G) (A : Nat → Nat → Nat) (cy : Nat → ClassId) (hJ : ti_inj ti_LT A) (M : ti_M) (hI : cI Tc M) (hF : cF Tc M) (t : Nat) (ht : t = 3 ∨ t = 4) (tx rg lp : Nat → Int) (ug : Nat → Nat → Int) (cu : Int) (hk : kC t tx rg ug cu lp M) (za : Int32) : ti_Ki l yX9_holder cX9_holder 2 (some .int) 1 ti_LT D A cy M [.ref (A 0 0), .int za] (fun r M2 => M2 = M ∧ r.toInt = (if 0 ≤ za.toInt ∧ za.toInt ≤ 2 then bq_ma rg (rg (112 + za.toInt.toNat)) else -1)) := by
  refine ti_eI yp_X9_holder hJ ti_LT_nd (Nat.le_of_ble_eq_true rfl) ?_
  intro p e s m args below meth c Q H0 C hQ hw ls hl
  have hx := C.1
  have hb := C.2.1
  have hl : lv_has ls 2 [(0, .ref (A 0 0)), (1, .int za)] := hl
  obtain ⟨htx, hT1, hT, hs, hr, hp0⟩ := id hk
  have l4 : 0 ≤ tx 4 ∧ tx 4 ≤ 8 := by rw [htx.1 4 (by decide) (by decide)]; exact cI_rd (k := 4) hI (ob_t ht).1 rfl
  have h4 : tx 4 = (tI M t 4).toInt := htx.1 4 (by decide) (by decide)
  refine lv_aload_n hx hb dX9_holder_0 rfl (lv_at hl 0 rfl) ?_
  refine lv_iload_n hx hb dX9_holder_1 rfl (lv_at hl 1 rfl) ?_
  refine ti_callVi (ci := 9) (av := [.int za]) C hw (z_X9_isPower l D A cy hJ M hI za) ⟨ml_X9_165, ym_X9_isPower, yv_X9_isPower, yi_X9_isPower, yc_X9_isPower⟩ yd_X9_isPower ob_0 (by decide) rfl rfl hl.1 (Nat.le_of_ble_eq_true rfl) ⟨by decide, by decide⟩ ⟨Nat.zero_le _, Nat.zero_le _⟩ dX9_holder_2 (fun r_1 M_2 H locs hp_2 hw => ?_)
  obtain ⟨hm, hz⟩ := hp_2
  have hw := hw.to hm
  rcases hz with ⟨rfl, d0_3, d1_3⟩ | ⟨rfl, e_3⟩
  · refine sb_if_eq (tgt := 27) hx hb (by decide : (1 : Int32).toInt = 1) dX9_holder_5 (by decide) (fun h => absurd h (by decide)) (fun c_5_3 => ?_)
    refine lv_aload_n hx hb dX9_holder_8 rfl (lv_at hl 0 rfl) ?_
    refine ti_get (ci := 9) (k := 3) (N := 10) (T := TX9) (v := .ref (A 27 0)) C hw iw_9 rfl ob_0 (by decide) (by decide) fl_X9_29 rfl rfl dX9_holder_9 ?_
    refine lv_aload_n hx hb dX9_holder_12 rfl (lv_at hl 0 rfl) ?_
    refine ti_get (ci := 9) (k := 3) (N := 10) (T := TX9) (v := .ref (A 27 0)) C hw iw_9 rfl ob_0 (by decide) (by decide) fl_X9_29 rfl rfl dX9_holder_13 ?_
    refine ti_get (ci := 3) (k := 7) (N := 17) (T := TX3) (v := .ref (A 27 8)) C hw iw_3 rfl ob_27 (by decide) (by decide) fl_X9_168 rfl rfl dX9_holder_16 ?_
    refine lv_iload_n hx hb dX9_holder_19 rfl (lv_at hl 1 rfl) ?_
    refine ti_iald (ci := 3) (k := 7) (n := 3) C hw ob_27 (by decide) (fun _ _ => rfl) (vp_in_iff.mpr (by omega)) dX9_holder_20 ?_
    refine lv_topi (fun x_6 ex_6 => ?_)
    have L_7 : rg (112 + za.toInt.toNat) = x_6.toInt := qC_y (k := 7) hs rfl (by omega) (by omega) (by decide) (by decide) ex_6
    refine ti_callVi (ci := 3) (av := [.int x_6]) C hw (z_X3_manAt l D A cy hJ M hI 27 ob_27 x_6 rg hs) ⟨ml_X9_162, ym_X3_manAt, yv_X3_manAt, yi_X3_manAt, yc_X3_manAt⟩ yd_X3_manAt ob_27 (by decide) rfl rfl hl.1 (Nat.le_of_ble_eq_true rfl) ⟨by decide, by decide⟩ ⟨Nat.zero_le _, Nat.zero_le _⟩ dX9_holder_21 (fun r_8 M_9 H locs hp_9 hw => ?_)
    obtain ⟨hm, b0r_8, b1r_8, pr_8, p0r_8⟩ := hp_9
    have hw := hw.to hm
    refine lv_goto (tgt := 28) hx hb dX9_holder_24 (by decide) ?_
    exact hQ _ _ _ _ _ _ hw rfl (⟨rfl, by rw [if_pos (by omega), L_7]; exact pr_8⟩) dX9_holder_28
  · refine sb_if_eq (tgt := 27) hx hb (by decide : (0 : Int32).toInt = 0) dX9_holder_5 (by decide) (fun c_5_4 => ?_) (fun h => absurd h (by decide))
    refine lv_iconst (v := (-1)) hx hb dX9_holder_27 (by decide) ?_
    exact hQ _ _ _ _ _ _ hw rfl (⟨rfl, by rw [if_neg (by omega)]; decide⟩) dX9_holder_28
set_option maxHeartbeats 4000000 in
set_option maxRecDepth 100000 in
theorem z_X9_was (l : Launch) (D : va_G) (A : Nat → Nat → Nat) (cy : Nat → ClassId) (hJ : ti_inj ti_LT A) (M : ti_M) (hI : cI Tc M) (hF : cF Tc M) (t : Nat) (ht : t = 3 ∨ t = 4) (tx rg lp : Nat → Int) (ug : Nat → Nat → Int) (cu : Int) (hk : kC t tx rg ug cu lp M) (z1 : Int32) (z2 : Int32) : ti_Ki l yX9_was cX9_was 3 (some .int) 1 ti_LT D A cy M [.ref (A 0 0), .int z1, .int z2] (fun r M2 => M2 = M ∧ r.toInt = (if (0 ≤ z1.toInt ∧ z1.toInt ≤ 2) ∧ 0 ≤ z2.toInt ∧ z2.toInt < rg 2 then lp (120 * z1.toInt.toNat + z2.toInt.toNat) else -1)) := by
  refine ti_eI yp_X9_was hJ ti_LT_nd (Nat.le_of_ble_eq_true rfl) ?_
  intro p e s m args below meth c Q H0 C hQ hw ls hl
  have hx := C.1
  have hb := C.2.1
  have hl : lv_has ls 3 [(0, .ref (A 0 0)), (1, .int z1), (2, .int z2)] := hl
  obtain ⟨htx, hT1, hT, hs, hr, hp0⟩ := id hk
  have l4 : 0 ≤ tx 4 ∧ tx 4 ≤ 8 := by rw [htx.1 4 (by decide) (by decide)]; exact cI_rd (k := 4) hI (ob_t ht).1 rfl
  have h4 : tx 4 = (tI M t 4).toInt := htx.1 4 (by decide) (by decide)
  refine lv_aload_n hx hb dX9_was_0 rfl (lv_at hl 0 rfl) ?_
  refine lv_iload_n hx hb dX9_was_1 rfl (lv_at hl 1 rfl) ?_
  refine ti_callVi (ci := 9) (av := [.int z1]) C hw (z_X9_isPower l D A cy hJ M hI z1) ⟨ml_X9_165, ym_X9_isPower, yv_X9_isPower, yi_X9_isPower, yc_X9_isPower⟩ yd_X9_isPower ob_0 (by decide) rfl rfl hl.1 (Nat.le_of_ble_eq_true rfl) ⟨by decide, by decide⟩ ⟨Nat.zero_le _, Nat.zero_le _⟩ dX9_was_2 (fun r_1 M_2 H locs hp_2 hw => ?_)
  obtain ⟨hm, hz⟩ := hp_2
  have hw := hw.to hm
  rcases hz with ⟨rfl, d0_3, d1_3⟩ | ⟨rfl, e_3⟩
  · refine sb_if_eq (tgt := 23) hx hb (by decide : (1 : Int32).toInt = 1) dX9_was_5 (by decide) (fun h => absurd h (by decide)) (fun c_5_3 => ?_)
    refine lv_iload_n hx hb dX9_was_8 rfl (lv_at hl 2 rfl) ?_
    refine sb_if_lt (tgt := 23) hx hb rfl dX9_was_9 (by decide) (fun c_9_5 => ?_) (fun c_9_5 => ?_)
    · refine lv_iconst (v := (-1)) hx hb dX9_was_23 (by decide) ?_
      exact hQ _ _ _ _ _ _ hw rfl (⟨rfl, by rw [if_neg (by omega)]; decide⟩) dX9_was_24
    · refine lv_iload_n hx hb dX9_was_12 rfl (lv_at hl 2 rfl) ?_
      refine lv_aload_n hx hb dX9_was_13 rfl (lv_at hl 0 rfl) ?_
      refine ti_get (ci := 9) (k := 3) (N := 10) (T := TX9) (v := .ref (A 27 0)) C hw iw_9 rfl ob_0 (by decide) (by decide) fl_X9_29 rfl rfl dX9_was_14 ?_
      refine ti_get (ci := 3) (k := 2) (N := 17) (T := TX3) C hw iw_3 rfl ob_27 (by decide) (by decide) fl_X9_186 rfl rfl dX9_was_17 ?_
      refine lv_topi (fun x_7 ex_7 => ?_)
      have bx_7 : 0 ≤ x_7.toInt ∧ x_7.toInt ≤ 120 := cI_rd hI ob_27.1 ex_7 (Or.inl rfl)
      have ux_7 : (tI M 27 2).toInt = x_7.toInt := by rw [ex_7]
      have L_8 : rg 2 = x_7.toInt := ((hs.1 2 (by decide) (by decide)).trans (congrArg Int32.toInt (ex_7.symm))).trans rfl
      refine sb_icmp_lt (tgt := 25) hx hb rfl rfl dX9_was_20 (by decide) (fun c_20_8 => ?_) (fun c_20_8 => ?_)
      · refine lv_aload_n hx hb dX9_was_25 rfl (lv_at hl 0 rfl) ?_
        refine ti_get (ci := 9) (k := 4) (N := 10) (T := TX9) (v := .ref (A 0 5)) C hw iw_9 rfl ob_0 (by decide) (by decide) fl_X9_33 rfl rfl dX9_was_26 ?_
        refine lv_iload_n hx hb dX9_was_29 rfl (lv_at hl 1 rfl) ?_
        refine lv_bipush (v := 120) hx hb dX9_was_30 (by decide) ?_
        refine lv_imul hx hb dX9_was_32 ?_
        refine lv_topi (fun x_10 ex_10 => ?_)
        have lox_10z1 := z1.le_toInt
        have hix_10z1 := z1.toInt_lt
        have tx_10 : x_10.toInt = z1.toInt * 120 := i_mul ex_10 rfl (by decide : (120 : Int32).toInt = 120) (by omega) (by omega)
        refine lv_iload_n hx hb dX9_was_33 rfl (lv_at hl 2 rfl) ?_
        refine lv_iadd hx hb dX9_was_34 ?_
        refine lv_topi (fun x_11 ex_11 => ?_)
        have lox_11x_10 := x_10.le_toInt
        have hix_11x_10 := x_10.toInt_lt
        have lox_11z2 := z2.le_toInt
        have hix_11z2 := z2.toInt_lt
        have tx_11 : x_11.toInt = x_10.toInt + z2.toInt := i_add ex_11 rfl rfl (by omega) (by omega)
        refine ti_iald (ci := 9) (k := 4) (n := 360) C hw ob_0 (by decide) (fun _ _ => rfl) (vp_in_iff.mpr (by omega)) dX9_was_35 ?_
        refine lv_topi (fun x_12 ex_12 => ?_)
        exact hQ _ _ _ _ _ _ hw rfl (⟨rfl, (by have q := hp0 x_11.toNatClampNeg (by show (x_11 : Int32).toInt.toNat < 360; omega); rw [if_pos (by omega), show 120 * z1.toInt.toNat + z2.toInt.toNat = x_11.toNatClampNeg by (show _ = (x_11 : Int32).toInt.toNat; omega), q, ← ex_12])⟩) dX9_was_36
      · refine lv_iconst (v := (-1)) hx hb dX9_was_23 (by decide) ?_
        exact hQ _ _ _ _ _ _ hw rfl (⟨rfl, by rw [if_neg (by omega)]; decide⟩) dX9_was_24
  · refine sb_if_eq (tgt := 23) hx hb (by decide : (0 : Int32).toInt = 0) dX9_was_5 (by decide) (fun c_5_4 => ?_) (fun h => absurd h (by decide))
    refine lv_iconst (v := (-1)) hx hb dX9_was_23 (by decide) ?_
    exact hQ _ _ _ _ _ _ hw rfl (⟨rfl, by rw [if_neg (by omega)]; decide⟩) dX9_was_24
end
section
variable {Tc : gC} {Tm : gM}
set_option maxHeartbeats 4000000 in
set_option maxRecDepth 100000 in
theorem z_X10_stands (l : Launch) (D : va_G) (A : Nat → Nat → Nat) (cy : Nat → ClassId) (hJ : ti_inj ti_LM A) (M : ti_M) (hI : mI Tm M) (hF : mF Tm M) (z1 : Int32) (tx rg lp : Nat → Int) (ug : Nat → Nat → Int) (cu : Int) (ht4 : 0 ≤ tx 4 ∧ tx 4 ≤ 8) (htW : tW tx) (hwf : wF tx rg) (h1r : rg 1 = 0) (hk : kR tx rg ug cu lp M) : ti_Ki l yX10_stands cX10_stands 2 (some .int) 1 ti_LM D A cy M [.ref (A 60 0), .int z1] (fun r M2 => r.toInt = (if 0 ≤ z1.toInt ∧ z1.toInt ≤ 7 then bq_ma rg z1.toInt else -1) ∧ kR tx rg ug cu lp M2 ∧ iR M2 M ∧ mF Tm M2 ∧ tI M2 60 2 = tI M 60 2 ∧ lw M2 M) := by
  refine ti_eI yp_X10_stands hJ ti_LM_nd (Nat.le_of_ble_eq_true rfl) ?_
  intro p e s m args below meth c Q H0 C hQ hw ls hl
  have hx := C.1
  have hb := C.2.1
  have hl : lv_has ls 2 [(0, .ref (A 60 0)), (1, .int z1)] := hl
  have hL : mL M := hF.2.1
  have hC0 : mC M 0 := hF.2.2.1.1
  have hP0 : mP M 0 := hF.2.2.1.2
  obtain ⟨htr, hr, hV, hu, hp0, htw⟩ := id hk
  have t4 : tx 4 = (tY M 60 3 0).toInt := htr.1.1
  have w83 := wF_8 hwf
  have q3r : rg 3 = (tY M 60 38 0).toInt := hr.1.2.1
  refine lv_aload_n hx hb dX10_stands_0 rfl (lv_at hl 0 rfl) ?_
  refine lv_iconst (v := 0) hx hb dX10_stands_1 (by decide) ?_
  refine ti_putI (ci := 10) (k := 0) (N := 67) (T := TX10) C hw iw_10 tyX10 tyX10_ok nmX10 rfl ob_60 (by decide) (by decide) fl_X10_154 rfl rfl rfl rfl (fn_10 A _) fs_10_0 dX10_stands_2 (fun H locs hw => ?_)
  obtain ⟨M, h0⟩ : ∃ z : ti_M, z = uI M 60 0 0 := ⟨_, rfl⟩
  have hw := hw.to h0.symm
  have hI : mI Tm M := mI_uI hI h0 (by decide) (by decide) trivial
  have hF : mF Tm M := mF_qw hF hI (qw_I h0 (by decide))
  have ir0 := iR_0 h0
  have e2r := tI_nE (k2 := 2) (o2 := 60) h0 (nk (by decide))
  have e51r := tI_nE (k2 := 51) (o2 := 60) h0 (nk (by decide))
  have lwr : lw M _ := fun _ _ _ => tY_uIE h0
  have hk := kR_0 hk h0
  obtain ⟨htr, hr, hV, hu, hp0, htw⟩ := id hk
  have t4 : tx 4 = (tY M 60 3 0).toInt := htr.1.1
  have w83 := wF_8 hwf
  have q3r : rg 3 = (tY M 60 38 0).toInt := hr.1.2.1
  refine lv_iload_n hx hb dX10_stands_5 rfl (lv_at hl 1 rfl) ?_
  refine ti_callSi (av := [.int z1]) C hw (z_X10_isPlace l D A cy hJ M hI z1) ⟨ml_X10_414, ys_X10_isPlace, yi_X10_isPlace, yc_X10_isPlace⟩ yd_X10_isPlace rfl hl.1 (Nat.le_of_ble_eq_true rfl) ⟨by decide, by decide⟩ ⟨Nat.zero_le _, Nat.zero_le _⟩ dX10_stands_6 (fun r_1 M_2 H locs hp_2 hw => ?_)
  obtain ⟨hm, hz⟩ := hp_2
  have hw := hw.to hm
  rcases hz with ⟨rfl, d0_3, d1_3⟩ | ⟨rfl, e_3⟩
  · refine sb_if_eq (tgt := 21) hx hb (by decide : (1 : Int32).toInt = 1) dX10_stands_9 (by decide) (fun h => absurd h (by decide)) (fun c_9_3 => ?_)
    refine lv_aload_n hx hb dX10_stands_12 rfl (lv_at hl 0 rfl) ?_
    refine lv_iconst (v := 0) hx hb dX10_stands_13 (by decide) ?_
    refine lv_iload_n hx hb dX10_stands_14 rfl (lv_at hl 1 rfl) ?_
    refine ti_callVi (ci := 10) (av := [.int 0, .int z1]) C hw (z_X10_standsAt_0 l D A cy hJ M hI z1 (by omega) (by omega) tx rg htr ht4 hr) ⟨ml_X10_417, ym_X10_standsAt, yv_X10_standsAt, yi_X10_standsAt, yc_X10_standsAt⟩ yd_X10_standsAt ob_60 (by decide) rfl rfl hl.1 (Nat.le_of_ble_eq_true rfl) ⟨by decide, by decide⟩ ⟨Nat.zero_le _, Nat.zero_le _⟩ dX10_stands_15 (fun r_6 M_7 H locs hp_7 hw => ?_)
    obtain ⟨hm, b0r_6, b1r_6, p0r_6⟩ := hp_7
    have hw := hw.to hm
    refine lv_goto (tgt := 22) hx hb dX10_stands_18 (by decide) ?_
    exact hQ _ _ _ _ _ _ hw rfl (⟨by rw [if_pos (by omega)]; exact p0r_6, hk, (iR_eR eR.refl).trans ir0, hF, (rfl).trans e2r, lw_t (fun _ _ _ => rfl) lwr⟩) dX10_stands_22
  · refine sb_if_eq (tgt := 21) hx hb (by decide : (0 : Int32).toInt = 0) dX10_stands_9 (by decide) (fun c_9_4 => ?_) (fun h => absurd h (by decide))
    refine lv_iconst (v := (-1)) hx hb dX10_stands_21 (by decide) ?_
    exact hQ _ _ _ _ _ _ hw rfl (⟨by rw [if_neg (by omega)]; decide, hk, (iR_eR eR.refl).trans ir0, hF, (rfl).trans e2r, lw_t (fun _ _ _ => rfl) lwr⟩) dX10_stands_22
set_option maxHeartbeats 4000000 in
set_option maxRecDepth 100000 in
theorem z_X10_holder (l : Launch) (D : va_G) (A : Nat → Nat → Nat) (cy : Nat → ClassId) (hJ : ti_inj ti_LM A) (M : ti_M) (hI : mI Tm M) (hF : mF Tm M) (z1 : Int32) (tx rg lp : Nat → Int) (ug : Nat → Nat → Int) (cu : Int) (ht4 : 0 ≤ tx 4 ∧ tx 4 ≤ 8) (htW : tW tx) (hwf : wF tx rg) (h1r : rg 1 = 0) (hk : kR tx rg ug cu lp M) : ti_Ki l yX10_holder cX10_holder 2 (some .int) 1 ti_LM D A cy M [.ref (A 60 0), .int z1] (fun r M2 => r.toInt = (if 0 ≤ z1.toInt ∧ z1.toInt ≤ 2 then bq_ma rg (rg (112 + z1.toInt.toNat)) else -1) ∧ kR tx rg ug cu lp M2 ∧ iR M2 M ∧ mF Tm M2 ∧ tI M2 60 2 = tI M 60 2 ∧ lw M2 M) := by
  refine ti_eI yp_X10_holder hJ ti_LM_nd (Nat.le_of_ble_eq_true rfl) ?_
  intro p e s m args below meth c Q H0 C hQ hw ls hl
  have hx := C.1
  have hb := C.2.1
  have hl : lv_has ls 2 [(0, .ref (A 60 0)), (1, .int z1)] := hl
  have hL : mL M := hF.2.1
  have hC0 : mC M 0 := hF.2.2.1.1
  have hP0 : mP M 0 := hF.2.2.1.2
  obtain ⟨htr, hr, hV, hu, hp0, htw⟩ := id hk
  have t4 : tx 4 = (tY M 60 3 0).toInt := htr.1.1
  have w83 := wF_8 hwf
  have q3r : rg 3 = (tY M 60 38 0).toInt := hr.1.2.1
  refine lv_aload_n hx hb dX10_holder_0 rfl (lv_at hl 0 rfl) ?_
  refine lv_iconst (v := 0) hx hb dX10_holder_1 (by decide) ?_
  refine ti_putI (ci := 10) (k := 0) (N := 67) (T := TX10) C hw iw_10 tyX10 tyX10_ok nmX10 rfl ob_60 (by decide) (by decide) fl_X10_154 rfl rfl rfl rfl (fn_10 A _) fs_10_0 dX10_holder_2 (fun H locs hw => ?_)
  obtain ⟨M, h0⟩ : ∃ z : ti_M, z = uI M 60 0 0 := ⟨_, rfl⟩
  have hw := hw.to h0.symm
  have hI : mI Tm M := mI_uI hI h0 (by decide) (by decide) trivial
  have hF : mF Tm M := mF_qw hF hI (qw_I h0 (by decide))
  have ir0 := iR_0 h0
  have e2r := tI_nE (k2 := 2) (o2 := 60) h0 (nk (by decide))
  have e51r := tI_nE (k2 := 51) (o2 := 60) h0 (nk (by decide))
  have lwr : lw M _ := fun _ _ _ => tY_uIE h0
  have hk := kR_0 hk h0
  obtain ⟨htr, hr, hV, hu, hp0, htw⟩ := id hk
  have t4 : tx 4 = (tY M 60 3 0).toInt := htr.1.1
  have w83 := wF_8 hwf
  have q3r : rg 3 = (tY M 60 38 0).toInt := hr.1.2.1
  refine lv_iload_n hx hb dX10_holder_5 rfl (lv_at hl 1 rfl) ?_
  refine ti_callSi (av := [.int z1]) C hw (z_X10_isPower l D A cy hJ M hI z1) ⟨ml_X10_420, ys_X10_isPower, yi_X10_isPower, yc_X10_isPower⟩ yd_X10_isPower rfl hl.1 (Nat.le_of_ble_eq_true rfl) ⟨by decide, by decide⟩ ⟨Nat.zero_le _, Nat.zero_le _⟩ dX10_holder_6 (fun r_1 M_2 H locs hp_2 hw => ?_)
  obtain ⟨hm, hz⟩ := hp_2
  have hw := hw.to hm
  rcases hz with ⟨rfl, d0_3, d1_3⟩ | ⟨rfl, e_3⟩
  · refine sb_if_eq (tgt := 26) hx hb (by decide : (1 : Int32).toInt = 1) dX10_holder_9 (by decide) (fun h => absurd h (by decide)) (fun c_9_3 => ?_)
    refine lv_aload_n hx hb dX10_holder_12 rfl (lv_at hl 0 rfl) ?_
    refine lv_iconst (v := 0) hx hb dX10_holder_13 (by decide) ?_
    refine lv_aload_n hx hb dX10_holder_14 rfl (lv_at hl 0 rfl) ?_
    refine ti_get (ci := 10) (k := 49) (N := 67) (T := TX10) (v := .ref (A 60 50)) C hw iw_10 rfl ob_60 (by decide) (by decide) fl_X10_114 rfl rfl dX10_holder_15 ?_
    refine lv_iload_n hx hb dX10_holder_18 rfl (lv_at hl 1 rfl) ?_
    refine ti_iald (ci := 10) (k := 49) (n := 69) C hw ob_60 (by decide) (fun _ _ => rfl) (vp_in_iff.mpr (by omega)) dX10_holder_19 ?_
    refine lv_topi (fun x_6 ex_6 => ?_)
    have yx_6 : tY M 60 49 z1.toNatClampNeg = x_6 := (ex_6.symm)
    have bx_6 : 0 ≤ x_6.toInt ∧ x_6.toInt ≤ 7 := mI_ry (k := 49) (i := z1.toNatClampNeg) hI yx_6.symm
    have L_7 : rg (112 + z1.toInt.toNat) = x_6.toInt := (hr.2.2.1 (z1.toInt.toNat) (by omega)).trans (rd_k (n := 3 * 0 + z1.toInt.toNat) (by omega) (yx_6))
    refine ti_callVi (ci := 10) (av := [.int 0, .int x_6]) C hw (z_X10_standsAt_0 l D A cy hJ M hI x_6 (by omega) (by omega) tx rg htr ht4 hr) ⟨ml_X10_417, ym_X10_standsAt, yv_X10_standsAt, yi_X10_standsAt, yc_X10_standsAt⟩ yd_X10_standsAt ob_60 (by decide) rfl rfl hl.1 (Nat.le_of_ble_eq_true rfl) ⟨by decide, by decide⟩ ⟨Nat.zero_le _, Nat.zero_le _⟩ dX10_holder_20 (fun r_8 M_9 H locs hp_9 hw => ?_)
    obtain ⟨hm, b0r_8, b1r_8, p0r_8⟩ := hp_9
    have hw := hw.to hm
    refine lv_goto (tgt := 27) hx hb dX10_holder_23 (by decide) ?_
    exact hQ _ _ _ _ _ _ hw rfl (⟨by rw [if_pos (by omega), L_7]; exact p0r_8, hk, (iR_eR eR.refl).trans ir0, hF, (rfl).trans e2r, lw_t (fun _ _ _ => rfl) lwr⟩) dX10_holder_27
  · refine sb_if_eq (tgt := 26) hx hb (by decide : (0 : Int32).toInt = 0) dX10_holder_9 (by decide) (fun c_9_4 => ?_) (fun h => absurd h (by decide))
    refine lv_iconst (v := (-1)) hx hb dX10_holder_26 (by decide) ?_
    exact hQ _ _ _ _ _ _ hw rfl (⟨by rw [if_neg (by omega)]; decide, hk, (iR_eR eR.refl).trans ir0, hF, (rfl).trans e2r, lw_t (fun _ _ _ => rfl) lwr⟩) dX10_holder_27
set_option maxHeartbeats 4000000 in
set_option maxRecDepth 100000 in
theorem z_X10_isGone (l : Launch) (D : va_G) (A : Nat → Nat → Nat) (cy : Nat → ClassId) (hJ : ti_inj ti_LM A) (M : ti_M) (hI : mI Tm M)  (a : Int32) (tx rg : Nat → Int) (htr : tR tx M) (ht4 : 0 ≤ tx 4 ∧ tx 4 ≤ 8) (hr : qR (tx 4).toNat 0 rg M) : ti_Ki l yX10_isGone cX10_isGone 2 (some .boolean) 0 ti_LM D A cy M [.ref (A 60 0), .int a] (fun r M2 => M2 = M ∧ ((r = 1 ∧ 0 ≤ a.toInt ∧ a.toInt < rg 2) ∨ (r = 0 ∧ ¬ (0 ≤ a.toInt ∧ a.toInt < rg 2)))) := by
  refine ti_eI yp_X10_isGone hJ ti_LM_nd (Nat.le_of_ble_eq_true rfl) ?_
  intro p e s m args below meth c Q H0 C hQ hw ls hl
  have hx := C.1
  have hb := C.2.1
  have hl : lv_has ls 2 [(0, .ref (A 60 0)), (1, .int a)] := hl
  have t4 : tx 4 = (tY M 60 3 0).toInt := htr.1.1
  refine lv_iload_n hx hb dX10_isGone_0 rfl (lv_at hl 1 rfl) ?_
  refine sb_if_lt (tgt := 18) hx hb rfl dX10_isGone_1 (by decide) (fun c_1_0 => ?_) (fun c_1_0 => ?_)
  · refine lv_iconst (v := 0) hx hb dX10_isGone_18 (by decide) ?_
    exact hQ _ _ _ _ _ _ hw rfl (⟨rfl, Or.inr ⟨rfl, by omega⟩⟩) dX10_isGone_19
  · refine lv_iload_n hx hb dX10_isGone_4 rfl (lv_at hl 1 rfl) ?_
    refine lv_aload_n hx hb dX10_isGone_5 rfl (lv_at hl 0 rfl) ?_
    refine ti_get (ci := 10) (k := 34) (N := 67) (T := TX10) (v := .ref (A 60 35)) C hw iw_10 rfl ob_60 (by decide) (by decide) fl_X10_69 rfl rfl dX10_isGone_6 ?_
    refine lv_iconst (v := 0) hx hb dX10_isGone_9 (by decide) ?_
    refine ti_iald (ci := 10) (k := 34) (n := 23) C hw ob_60 (by decide) (fun _ _ => rfl) (by unfold vp_in; decide) dX10_isGone_10 ?_
    refine lv_topi (fun x_2 ex_2 => ?_)
    have yx_2 : tY M 60 34 0 = x_2 := ((congrArg _ (by decide)).symm.trans ex_2.symm)
    have bx_2 : 0 ≤ x_2.toInt ∧ x_2.toInt ≤ 120 := mI_ry (k := 34) (i := 0) hI yx_2.symm (by decide)
    have zx_2 : (tY M 60 34 0).toInt = x_2.toInt := by rw [yx_2]
    have L_3 : rg 2 = x_2.toInt := (hr.1.1).trans (congrArg Int32.toInt (yx_2))
    refine sb_icmp_ge (tgt := 18) hx hb rfl rfl dX10_isGone_11 (by decide) (fun c_11_3 => ?_) (fun c_11_3 => ?_)
    · refine lv_iconst (v := 0) hx hb dX10_isGone_18 (by decide) ?_
      exact hQ _ _ _ _ _ _ hw rfl (⟨rfl, Or.inr ⟨rfl, by omega⟩⟩) dX10_isGone_19
    · refine lv_iconst (v := 1) hx hb dX10_isGone_14 (by decide) ?_
      refine lv_goto (tgt := 19) hx hb dX10_isGone_15 (by decide) ?_
      exact hQ _ _ _ _ _ _ hw rfl (⟨rfl, Or.inl ⟨rfl, by omega, by omega⟩⟩) dX10_isGone_19
set_option maxHeartbeats 4000000 in
set_option maxRecDepth 100000 in
theorem z_X10_was (l : Launch) (D : va_G) (A : Nat → Nat → Nat) (cy : Nat → ClassId) (hJ : ti_inj ti_LM A) (M : ti_M) (hI : mI Tm M) (hF : mF Tm M) (z1 : Int32) (z2 : Int32) (tx rg lp : Nat → Int) (ug : Nat → Nat → Int) (cu : Int) (ht4 : 0 ≤ tx 4 ∧ tx 4 ≤ 8) (htW : tW tx) (hwf : wF tx rg) (h1r : rg 1 = 0) (hk : kR tx rg ug cu lp M) : ti_Ki l yX10_was cX10_was 3 (some .int) 1 ti_LM D A cy M [.ref (A 60 0), .int z1, .int z2] (fun r M2 => r.toInt = (if (0 ≤ z1.toInt ∧ z1.toInt ≤ 2) ∧ 0 ≤ z2.toInt ∧ z2.toInt < rg 2 then lp (120 * z1.toInt.toNat + z2.toInt.toNat) else -1) ∧ kR tx rg ug cu lp M2 ∧ iR M2 M ∧ mF Tm M2 ∧ tI M2 60 2 = tI M 60 2 ∧ lw M2 M) := by
  refine ti_eI yp_X10_was hJ ti_LM_nd (Nat.le_of_ble_eq_true rfl) ?_
  intro p e s m args below meth c Q H0 C hQ hw ls hl
  have hx := C.1
  have hb := C.2.1
  have hl : lv_has ls 3 [(0, .ref (A 60 0)), (1, .int z1), (2, .int z2)] := hl
  have hL : mL M := hF.2.1
  have hC0 : mC M 0 := hF.2.2.1.1
  have hP0 : mP M 0 := hF.2.2.1.2
  obtain ⟨htr, hr, hV, hu, hp0, htw⟩ := id hk
  have t4 : tx 4 = (tY M 60 3 0).toInt := htr.1.1
  have w83 := wF_8 hwf
  have q3r : rg 3 = (tY M 60 38 0).toInt := hr.1.2.1
  refine lv_aload_n hx hb dX10_was_0 rfl (lv_at hl 0 rfl) ?_
  refine lv_iconst (v := 0) hx hb dX10_was_1 (by decide) ?_
  refine ti_putI (ci := 10) (k := 0) (N := 67) (T := TX10) C hw iw_10 tyX10 tyX10_ok nmX10 rfl ob_60 (by decide) (by decide) fl_X10_154 rfl rfl rfl rfl (fn_10 A _) fs_10_0 dX10_was_2 (fun H locs hw => ?_)
  obtain ⟨M, h0⟩ : ∃ z : ti_M, z = uI M 60 0 0 := ⟨_, rfl⟩
  have hw := hw.to h0.symm
  have hI : mI Tm M := mI_uI hI h0 (by decide) (by decide) trivial
  have hF : mF Tm M := mF_qw hF hI (qw_I h0 (by decide))
  have ir0 := iR_0 h0
  have e2r := tI_nE (k2 := 2) (o2 := 60) h0 (nk (by decide))
  have e51r := tI_nE (k2 := 51) (o2 := 60) h0 (nk (by decide))
  have lwr : lw M _ := fun _ _ _ => tY_uIE h0
  have hk := kR_0 hk h0
  obtain ⟨htr, hr, hV, hu, hp0, htw⟩ := id hk
  have t4 : tx 4 = (tY M 60 3 0).toInt := htr.1.1
  have w83 := wF_8 hwf
  have q3r : rg 3 = (tY M 60 38 0).toInt := hr.1.2.1
  refine lv_iload_n hx hb dX10_was_5 rfl (lv_at hl 1 rfl) ?_
  refine ti_callSi (av := [.int z1]) C hw (z_X10_isPower l D A cy hJ M hI z1) ⟨ml_X10_420, ys_X10_isPower, yi_X10_isPower, yc_X10_isPower⟩ yd_X10_isPower rfl hl.1 (Nat.le_of_ble_eq_true rfl) ⟨by decide, by decide⟩ ⟨Nat.zero_le _, Nat.zero_le _⟩ dX10_was_6 (fun r_1 M_2 H locs hp_2 hw => ?_)
  obtain ⟨hm, hz⟩ := hp_2
  have hw := hw.to hm
  rcases hz with ⟨rfl, d0_3, d1_3⟩ | ⟨rfl, e_3⟩
  · refine sb_if_eq (tgt := 33) hx hb (by decide : (1 : Int32).toInt = 1) dX10_was_9 (by decide) (fun h => absurd h (by decide)) (fun c_9_3 => ?_)
    refine lv_aload_n hx hb dX10_was_12 rfl (lv_at hl 0 rfl) ?_
    refine lv_iload_n hx hb dX10_was_13 rfl (lv_at hl 2 rfl) ?_
    refine ti_callVi (ci := 10) (av := [.int z2]) C hw (z_X10_isGone l D A cy hJ M hI z2 tx rg htr ht4 hr) ⟨ml_X10_439, ym_X10_isGone, yv_X10_isGone, yi_X10_isGone, yc_X10_isGone⟩ yd_X10_isGone ob_60 (by decide) rfl rfl hl.1 (Nat.le_of_ble_eq_true rfl) ⟨by decide, by decide⟩ ⟨Nat.zero_le _, Nat.zero_le _⟩ dX10_was_14 (fun r_6 M_7 H locs hp_7 hw => ?_)
    obtain ⟨hm, hz⟩ := hp_7
    have hw := hw.to hm
    rcases hz with ⟨rfl, d0_8, d1_8⟩ | ⟨rfl, e_8⟩
    · refine sb_if_eq (tgt := 33) hx hb (by decide : (1 : Int32).toInt = 1) dX10_was_17 (by decide) (fun h => absurd h (by decide)) (fun c_17_8 => ?_)
      have m12 : rg 2 ≤ 120 := by rw [hr.1.1]; exact (show ib 0 120 (tY M 60 34 0) from hI.2.1 34 0 (by decide)).2
      refine lv_aload_n hx hb dX10_was_20 rfl (lv_at hl 0 rfl) ?_
      refine ti_get (ci := 10) (k := 50) (N := 67) (T := TX10) (v := .ref (A 60 51)) C hw iw_10 rfl ob_60 (by decide) (by decide) fl_X10_117 rfl rfl dX10_was_21 ?_
      refine lv_iconst (v := 3) hx hb dX10_was_24 (by decide) ?_
      refine lv_iload_n hx hb dX10_was_25 rfl (lv_at hl 2 rfl) ?_
      refine lv_imul hx hb dX10_was_26 ?_
      refine lv_topi (fun x_11 ex_11 => ?_)
      have lox_11z2 := z2.le_toInt
      have hix_11z2 := z2.toInt_lt
      have tx_11 : x_11.toInt = 3 * z2.toInt := i_mul ex_11 (by decide : (3 : Int32).toInt = 3) rfl (by omega) (by omega)
      refine lv_iload_n hx hb dX10_was_27 rfl (lv_at hl 1 rfl) ?_
      refine lv_iadd hx hb dX10_was_28 ?_
      refine lv_topi (fun x_12 ex_12 => ?_)
      have lox_12x_11 := x_11.le_toInt
      have hix_12x_11 := x_11.toInt_lt
      have lox_12z1 := z1.le_toInt
      have hix_12z1 := z1.toInt_lt
      have tx_12 : x_12.toInt = x_11.toInt + z1.toInt := i_add ex_12 rfl rfl (by omega) (by omega)
      refine ti_iald (ci := 10) (k := 50) (n := 720) C hw ob_60 (by decide) (fun _ _ => rfl) (vp_in_iff.mpr (by omega)) dX10_was_29 ?_
      refine lv_topi (fun x_13 ex_13 => ?_)
      have yx_13 : tY M 60 50 x_12.toNatClampNeg = x_13 := (ex_13.symm)
      refine lv_goto (tgt := 34) hx hb dX10_was_30 (by decide) ?_
      exact hQ _ _ _ _ _ _ hw rfl (⟨(by have q := hp0 z2.toInt.toNat z1.toInt.toNat (by omega) (by omega) (by omega); rw [if_pos (by omega), ← q, show 3 * z2.toInt.toNat + z1.toInt.toNat = x_12.toNatClampNeg by (show _ = (x_12 : Int32).toInt.toNat; omega), ← ex_13]), hk, (iR_eR eR.refl).trans ir0, hF, (rfl).trans e2r, lw_t (fun _ _ _ => rfl) lwr⟩) dX10_was_34
    · refine sb_if_eq (tgt := 33) hx hb (by decide : (0 : Int32).toInt = 0) dX10_was_17 (by decide) (fun c_17_9 => ?_) (fun h => absurd h (by decide))
      refine lv_iconst (v := (-1)) hx hb dX10_was_33 (by decide) ?_
      exact hQ _ _ _ _ _ _ hw rfl (⟨by rw [if_neg (by omega)]; decide, hk, (iR_eR eR.refl).trans ir0, hF, (rfl).trans e2r, lw_t (fun _ _ _ => rfl) lwr⟩) dX10_was_34
  · refine sb_if_eq (tgt := 33) hx hb (by decide : (0 : Int32).toInt = 0) dX10_was_9 (by decide) (fun c_9_4 => ?_) (fun h => absurd h (by decide))
    refine lv_iconst (v := (-1)) hx hb dX10_was_33 (by decide) ?_
    exact hQ _ _ _ _ _ _ hw rfl (⟨by rw [if_neg (by omega)]; decide, hk, (iR_eR eR.refl).trans ir0, hF, (rfl).trans e2r, lw_t (fun _ _ _ => rfl) lwr⟩) dX10_was_34
end
section
variable {Tc : gC} {Tm : gM}
section
variable {q q2 o k t : Nat} {tx s : Nat → Int} {K N M : ti_M} {v : Int32}
def sq (q : Nat) (N M : ti_M) : Prop := ∀ k : Nat, tI N q k = tI M q k ∧ tY N q k = tY M q k
theorem sq.refl : sq q M M := fun _ => ⟨rfl, rfl⟩
theorem sq.trans (x : sq q K N) (y : sq q N M) : sq q K M := fun k => ⟨(x k).1.trans (y k).1, (x k).2.trans (y k).2⟩
end
section
variable {tx s g h : Nat → Int}
def gn (s g : Nat → Int) : Prop := ∀ m : Nat, m < 8 → 2 ≤ s (128 + m) → g (128 + m) = s (128 + m) ∧ g (224 + m) = s (224 + m)
theorem gn.refl : gn s s := fun _ _ _ => ⟨rfl, rfl⟩
theorem gn.trans (x : gn s g) (y : gn g h) : gn s h := fun m hm h2 => by
  have a := x m hm h2
  have b := y m hm (by rw [a.1]; exact h2)
  exact ⟨b.1.trans a.1, b.2.trans a.2⟩
end
end
section
variable {Tc : gC} {Tm : gM}
/-- how many of the first bits are set -/
def bq_sb (v : Int32) : Nat → Int
  | 0 => 0
  | k + 1 => bq_sb v k + pp_bt v k
def bq_b8 (v : Int32) : Int := bq_sb v 8
section
variable {tx s g : Nat → Int} {p V : Int} {n m : Nat}
end
end
section
variable {Tc : gC} {Tm : gM}
set_option maxHeartbeats 4000000 in
set_option maxRecDepth 100000 in
theorem z_X10_bitsOf (l : Launch) (D : va_G) (A : Nat → Nat → Nat) (cy : Nat → ClassId) (hJ : ti_inj ti_LM A) (M : ti_M) (hI : mI Tm M)  (a : Int32) : ti_Ki l yX10_bitsOf cX10_bitsOf 3 (some .int) 0 ti_LM D A cy M [.int a] (fun r M2 => M2 = M ∧ r.toInt = bq_b8 a) := by
  refine ti_eI yp_X10_bitsOf hJ ti_LM_nd (Nat.le_of_ble_eq_true rfl) ?_
  intro p e s m args below meth c Q H0 C hQ hw ls hl
  have hx := C.1
  have hb := C.2.1
  have hl : lv_has ls 3 [(0, .int a)] := hl
  refine lv_iconst (v := 0) hx hb dX10_bitsOf_0 (by decide) ?_
  refine lv_istore_n (lv' := [(1, .int 0), (0, .int a)]) hx hb dX10_bitsOf_1 rfl hl (by decide) rfl (fun ls hl => ?_)
  refine lv_iconst (v := 0) hx hb dX10_bitsOf_2 (by decide) ?_
  refine lv_istore_n (lv' := [(2, .int 0), (1, .int 0), (0, .int a)]) hx hb dX10_bitsOf_3 rfl hl (by decide) rfl (fun ls hl => ?_)
  have hl_4_8 : ∀ (n_9 : Nat) (x_1 : Int32) (x_4 : Int32) (H : Heap) (locs : List Loc) (ls : Array Slot), (8 - x_1.toInt : Int).toNat < n_9 → (0 ≤ x_1.toInt) → (x_1.toInt ≤ 8) → (0 ≤ x_4.toInt) → (x_4.toInt ≤ 8) → (x_4.toInt ≤ x_1.toInt) → (x_4.toInt = bq_sb a (x_1.toInt).toNat) → ti_H ti_LM D A cy H0 M H locs → lv_has ls 3 [(2, .int x_1), (1, .int x_4), (0, .int a)] → W p l e (ti_rm 0) s m args below meth c H locs 0 0 Q (F0 m 4 ls []) := by
    intro n_9
    induction n_9 with
    | zero => intro x_1 x_4 H locs ls hf_9; exact absurd hf_9 (Nat.not_lt_zero _)
    | succ n_9 ih_9 =>
      intro x_1 x_4 H locs ls hf_9 b_2 b_3 b_5 b_6 j_7 j_8 hw hl
      refine lv_iload_n hx hb dX10_bitsOf_4 rfl (lv_at hl 0 rfl) ?_
      refine lv_bipush (v := 8) hx hb dX10_bitsOf_5 (by decide) ?_
      refine sb_icmp_ge (tgt := 24) hx hb rfl (by decide : (8 : Int32).toInt = 8) dX10_bitsOf_7 (by decide) (fun c_7_9 => ?_) (fun c_7_9 => ?_)
      · refine lv_iload_n hx hb dX10_bitsOf_24 rfl (lv_at hl 1 rfl) ?_
        exact hQ _ _ _ _ _ _ hw rfl (⟨rfl, by unfold bq_b8; rw [j_8, show (x_1.toInt).toNat = 8 by omega]⟩) dX10_bitsOf_25
      · refine lv_iload_n hx hb dX10_bitsOf_10 rfl (lv_at hl 1 rfl) ?_
        refine lv_iload_n hx hb dX10_bitsOf_11 rfl (lv_at hl 2 rfl) ?_
        refine lv_iload_n hx hb dX10_bitsOf_12 rfl (lv_at hl 0 rfl) ?_
        refine lv_ishr hx hb dX10_bitsOf_13 ?_
        refine lv_topi (fun x_11 ex_11 => ?_)
        refine lv_iconst (v := 1) hx hb dX10_bitsOf_14 (by decide) ?_
        refine lv_iand hx hb dX10_bitsOf_15 ?_
        refine lv_topi (fun x_12 ex_12 => ?_)
        have bx_12 := i_and 1 ex_12 (by decide) (by decide)
        have BT_13 : x_12.toInt = pp_bt a x_1.toInt.toNat := bt_shr (k := x_1.toInt) ex_11 rfl (by omega) (by omega) ex_12
        have BBT_13 := bt_01 a x_1.toInt.toNat
        refine lv_iadd hx hb dX10_bitsOf_16 ?_
        refine lv_topi (fun x_14 ex_14 => ?_)
        have tx_14 : x_14.toInt = x_4.toInt + x_12.toInt := i_add ex_14 rfl rfl (by omega) (by omega)
        refine lv_istore_n (lv' := [(1, .int x_14), (2, .int x_1), (0, .int a)]) hx hb dX10_bitsOf_17 rfl hl (by decide) rfl (fun ls hl => ?_)
        obtain ⟨x_15, ex_15⟩ : ∃ z : Int32, z = x_1 + 1 := ⟨_, rfl⟩
        have tx_15 : x_15.toInt = x_1.toInt + 1 := i_add ex_15 rfl (by decide) (by omega) (by omega)
        refine lv_iinc (v := x_15) (lv' := [(2, .int x_15), (1, .int x_14), (0, .int a)]) hx hb dX10_bitsOf_18 hl (k := 1) rfl (by rw [ex_15]; rfl) (by decide) rfl (fun ls hl => ?_)
        refine lv_goto (tgt := 4) hx hb dX10_bitsOf_21 (by decide) ?_
        exact ih_9 x_15 x_14 _ _ _ (by omega) (by first | omega | decide) (by first | omega | decide) (by first | omega | decide) (by first | omega | decide) (by first | omega | decide) (by rw [show (x_15.toInt).toNat = x_1.toInt.toNat + 1 by omega]; show _ = bq_sb a x_1.toInt.toNat + pp_bt a x_1.toInt.toNat; have q := j_8; omega) hw (lv_sub hl [0, 1, 2] rfl)
  exact hl_4_8 ((8 - 0 : Int).toNat + 1) 0 0 _ _ _ (Nat.lt_succ_self _) (by have lt0 : (0 : Int32).toInt = 0 := (by decide); first | omega | decide) (by have lt0 : (0 : Int32).toInt = 0 := (by decide); first | omega | decide) (by have lt0 : (0 : Int32).toInt = 0 := (by decide); first | omega | decide) (by have lt0 : (0 : Int32).toInt = 0 := (by decide); first | omega | decide) (by have lt0 : (0 : Int32).toInt = 0 := (by decide); first | omega | decide) (by rw [show ((0 : Int32).toInt).toNat = 0 by decide]; exact (by decide : (0 : Int32).toInt = 0)) hw (lv_sub hl [0, 1, 2] rfl)
end
section
variable {Tc : gC} {Tm : gM}
section
variable {tx s : Nat → Int}
/-- how many of the first so many men are so -/
def bq_hm (s : Nat → Int) (v : Int) : Nat → Int
  | 0 => 0
  | i + 1 => bq_hm s v i + (if s (128 + i) = v then 1 else 0)
theorem hm_s {v a b x : Int} {i j : Nat} (h : a = bq_hm s v i) (hj : j = i + 1) (q : s (128 + i) = x) (hb : (x = v ∧ b = a + 1) ∨ (x ≠ v ∧ b = a)) : b = bq_hm s v j := by
  subst hj
  rw [bq_hm, q, ← h]
  rcases hb with ⟨x, y⟩ | ⟨x, y⟩
  · rw [if_pos x]; exact y
  · rw [if_neg x, Int.add_zero]; exact y
/-- the first so many of a row in all -/
def bq_ss (b : Nat) (s : Nat → Int) : Nat → Int
  | 0 => 0
  | i + 1 => bw (bq_ss b s i + s (b + i))
theorem ss_s {b i j : Nat} {a x y : Int} (h : a = bq_ss b s i) (hj : j = i + 1) (q : s (b + i) = x) (hb : y = bw (a + x)) : y = bq_ss b s j := by
  subst hj
  rw [bq_ss, q, ← h]; exact hb
/-- what count answers: stones, known as they are told -/
def bq_co (tx s : Nat → Int) (c a b w : Int) : Int :=
  if w = 0 then tx 4 else if w = 1 then tx 5 else if w = 2 then s 2 else if w = 3 then s 3 else if w = 4 then bq_hm s 2 (tx 4).toNat else if w = 5 then bq_hm s 3 (tx 4).toNat else if w = 6 then s 4 else if w = 7 then bq_ss 192 s (tx 4).toNat else if w = 8 then a else if w = 9 then (if b = -1 then a else b) else if w = 10 then c else if w = 11 then s 112 else if w = 12 then s 113 else if w = 13 then s 114 else if w = 14 then bq_ss 256 s (tx 4).toNat else -1
end
set_option maxHeartbeats 4000000 in
set_option maxRecDepth 100000 in
theorem z_X3_howMany (l : Launch) (D : va_G) (A : Nat → Nat → Nat) (cy : Nat → ClassId) (hJ : ti_inj ti_LT A) (M : ti_M) (hI : cI Tc M) (q t : Nat) (hq : ti_ob ti_LT q 3) (ht : t = 3 ∨ t = 4) (hT : tT M q 0 = some t) (wn : Int32) (tx rg : Nat → Int) (htx : tC t tx M) (hs : qC q rg M) : ti_Ki l yX3_howMany cX3_howMany 4 (some .int) 0 ti_LT D A cy M [.ref (A q 0), .int wn] (fun r M2 => M2 = M ∧ r.toInt = bq_hm rg wn.toInt (tx 4).toNat) := by
  refine ti_eI yp_X3_howMany hJ ti_LT_nd (Nat.le_of_ble_eq_true rfl) ?_
  intro p e s m args below meth c Q H0 C hQ hw ls hl
  have hx := C.1
  have hb := C.2.1
  have hl : lv_has ls 4 [(0, .ref (A q 0)), (1, .int wn)] := hl
  have l4 : 0 ≤ tx 4 ∧ tx 4 ≤ 8 := by rw [htx.1 4 (by decide) (by decide)]; exact cI_rd (k := 4) hI (ob_t ht).1 rfl
  refine lv_iconst (v := 0) hx hb dX3_howMany_0 (by decide) ?_
  refine lv_istore_n (lv' := [(2, .int 0), (0, .ref (A q 0)), (1, .int wn)]) hx hb dX3_howMany_1 rfl hl (by decide) rfl (fun ls hl => ?_)
  refine lv_iconst (v := 0) hx hb dX3_howMany_2 (by decide) ?_
  refine lv_istore_n (lv' := [(3, .int 0), (2, .int 0), (0, .ref (A q 0)), (1, .int wn)]) hx hb dX3_howMany_3 rfl hl (by decide) rfl (fun ls hl => ?_)
  have hl_4_9 : ∀ (n_10 : Nat) (x_1 : Int32) (x_4 : Int32) (H : Heap) (locs : List Loc) (ls : Array Slot), (8 - x_1.toInt : Int).toNat < n_10 → (0 ≤ x_1.toInt) → (x_1.toInt ≤ 8) → (0 ≤ x_4.toInt) → (x_4.toInt ≤ 8) → (x_4.toInt ≤ x_1.toInt) → (x_4.toInt = bq_hm rg wn.toInt (x_1.toInt).toNat) → (x_1.toInt ≤ tx 4) → ti_H ti_LT D A cy H0 M H locs → lv_has ls 4 [(3, .int x_1), (2, .int x_4), (0, .ref (A q 0)), (1, .int wn)] → W p l e (ti_rm 0) s m args below meth c H locs 0 0 Q (F0 m 4 ls []) := by
    intro n_10
    induction n_10 with
    | zero => intro x_1 x_4 H locs ls hf_10; exact absurd hf_10 (Nat.not_lt_zero _)
    | succ n_10 ih_10 =>
      intro x_1 x_4 H locs ls hf_10 b_2 b_3 b_5 b_6 j_7 j_8 j_9 hw hl
      refine lv_iload_n hx hb dX3_howMany_4 rfl (lv_at hl 0 rfl) ?_
      refine lv_aload_n hx hb dX3_howMany_5 rfl (lv_at hl 2 rfl) ?_
      refine ti_get (ci := 3) (k := 0) (N := 17) (T := TX3) (v := .ref (A t 0)) C hw iw_3 rfl hq (by decide) (by decide) fl_X3_45 rfl (ti_Tv (hT)) dX3_howMany_6 ?_
      refine ti_get (ci := 8) (k := 4) (N := 12) (T := TX8) C hw iw_8 rfl (ob_t ht) (by decide) (by decide) fl_X3_78 rfl rfl dX3_howMany_9 ?_
      refine lv_topi (fun x_11 ex_11 => ?_)
      have bx_11 : 0 ≤ x_11.toInt ∧ x_11.toInt ≤ 8 := cI_rd hI (ob_t ht).1 ex_11
      have ux_11 : (tI M t 4).toInt = x_11.toInt := by rw [ex_11]
      have L_12 : tx 4 = x_11.toInt := ((htx.1 4 (by decide) (by decide)).trans (congrArg Int32.toInt (ex_11.symm))).trans rfl
      refine sb_icmp_ge (tgt := 34) hx hb rfl rfl dX3_howMany_12 (by decide) (fun c_12_12 => ?_) (fun c_12_12 => ?_)
      · refine lv_iload_n hx hb dX3_howMany_34 rfl (lv_at hl 1 rfl) ?_
        exact hQ _ _ _ _ _ _ hw rfl (⟨rfl, (by rw [show (tx 4).toNat = (x_1.toInt).toNat by omega]; exact j_8)⟩) dX3_howMany_35
      · refine lv_aload_n hx hb dX3_howMany_15 rfl (lv_at hl 2 rfl) ?_
        refine ti_get (ci := 3) (k := 8) (N := 17) (T := TX3) (v := .ref (A q 9)) C hw iw_3 rfl hq (by decide) (by decide) fl_X3_18 rfl rfl dX3_howMany_16 ?_
        refine lv_iload_n hx hb dX3_howMany_19 rfl (lv_at hl 0 rfl) ?_
        refine ti_iald (ci := 3) (k := 8) (n := 8) C hw hq (by decide) (fun _ _ => rfl) (vp_in_iff.mpr (by omega)) dX3_howMany_20 ?_
        refine lv_topi (fun x_14 ex_14 => ?_)
        have L_15 : rg (128 + x_1.toInt.toNat) = x_14.toInt := qC_y (k := 8) hs rfl (by omega) (by omega) (by decide) (by decide) ex_14
        refine lv_iload_n hx hb dX3_howMany_21 rfl (lv_at hl 3 rfl) ?_
        refine sb_icmp_ne (tgt := 28) hx hb rfl rfl dX3_howMany_22 (by decide) (fun c_22_15 => ?_) (fun c_22_15 => ?_)
        · obtain ⟨x_18, ex_18⟩ : ∃ z : Int32, z = x_1 + 1 := ⟨_, rfl⟩
          have tx_18 : x_18.toInt = x_1.toInt + 1 := i_add ex_18 rfl (by decide) (by omega) (by omega)
          refine lv_iinc (v := x_18) (lv' := [(3, .int x_18), (2, .int x_4), (0, .ref (A q 0)), (1, .int wn)]) hx hb dX3_howMany_28 hl (k := 0) rfl (by rw [ex_18]; rfl) (by decide) rfl (fun ls hl => ?_)
          refine lv_goto (tgt := 4) hx hb dX3_howMany_31 (by decide) ?_
          exact ih_10 x_18 x_4 _ _ _ (by omega) (by first | omega | decide) (by first | omega | decide) (by first | omega | decide) (by first | omega | decide) (by first | omega | decide) (hm_s j_8 (by omega) L_15 (by omega)) (by first | omega | decide) hw (lv_sub hl [0, 1, 2, 3] rfl)
        · obtain ⟨x_17, ex_17⟩ : ∃ z : Int32, z = x_4 + 1 := ⟨_, rfl⟩
          have tx_17 : x_17.toInt = x_4.toInt + 1 := i_add ex_17 rfl (by decide) (by omega) (by omega)
          refine lv_iinc (v := x_17) (lv' := [(2, .int x_17), (3, .int x_1), (0, .ref (A q 0)), (1, .int wn)]) hx hb dX3_howMany_25 hl (k := 1) rfl (by rw [ex_17]; rfl) (by decide) rfl (fun ls hl => ?_)
          obtain ⟨x_19, ex_19⟩ : ∃ z : Int32, z = x_1 + 1 := ⟨_, rfl⟩
          have tx_19 : x_19.toInt = x_1.toInt + 1 := i_add ex_19 rfl (by decide) (by omega) (by omega)
          refine lv_iinc (v := x_19) (lv' := [(3, .int x_19), (2, .int x_17), (0, .ref (A q 0)), (1, .int wn)]) hx hb dX3_howMany_28 hl (k := 1) rfl (by rw [ex_19]; rfl) (by decide) rfl (fun ls hl => ?_)
          refine lv_goto (tgt := 4) hx hb dX3_howMany_31 (by decide) ?_
          exact ih_10 x_19 x_17 _ _ _ (by omega) (by first | omega | decide) (by first | omega | decide) (by first | omega | decide) (by first | omega | decide) (by first | omega | decide) (hm_s j_8 (by omega) L_15 (by omega)) (by first | omega | decide) hw (lv_sub hl [0, 1, 2, 3] rfl)
  exact hl_4_9 ((8 - 0 : Int).toNat + 1) 0 0 _ _ _ (Nat.lt_succ_self _) (by have lt0 : (0 : Int32).toInt = 0 := (by decide); first | omega | decide) (by have lt0 : (0 : Int32).toInt = 0 := (by decide); first | omega | decide) (by have lt0 : (0 : Int32).toInt = 0 := (by decide); first | omega | decide) (by have lt0 : (0 : Int32).toInt = 0 := (by decide); first | omega | decide) (by have lt0 : (0 : Int32).toInt = 0 := (by decide); first | omega | decide) (by rw [show ((0 : Int32).toInt).toNat = 0 by decide]; exact (by decide : (0 : Int32).toInt = 0)) (by have lt0 : (0 : Int32).toInt = 0 := (by decide); first | omega | decide) hw (lv_sub hl [0, 1, 2, 3] rfl)
set_option maxHeartbeats 4000000 in
set_option maxRecDepth 100000 in
theorem z_X3_allCoin (l : Launch) (D : va_G) (A : Nat → Nat → Nat) (cy : Nat → ClassId) (hJ : ti_inj ti_LT A) (M : ti_M) (hI : cI Tc M) (q t : Nat) (hq : ti_ob ti_LT q 3) (ht : t = 3 ∨ t = 4) (hT : tT M q 0 = some t) (tx rg : Nat → Int) (htx : tC t tx M) (hs : qC q rg M) : ti_Ki l yX3_allCoin cX3_allCoin 3 (some .int) 0 ti_LT D A cy M [.ref (A q 0)] (fun r M2 => M2 = M ∧ r.toInt = bq_ss 192 rg (tx 4).toNat) := by
  refine ti_eI yp_X3_allCoin hJ ti_LT_nd (Nat.le_of_ble_eq_true rfl) ?_
  intro p e s m args below meth c Q H0 C hQ hw ls hl
  have hx := C.1
  have hb := C.2.1
  have hl : lv_has ls 3 [(0, .ref (A q 0))] := hl
  have l4 : 0 ≤ tx 4 ∧ tx 4 ≤ 8 := by rw [htx.1 4 (by decide) (by decide)]; exact cI_rd (k := 4) hI (ob_t ht).1 rfl
  refine lv_iconst (v := 0) hx hb dX3_allCoin_0 (by decide) ?_
  refine lv_istore_n (lv' := [(1, .int 0), (0, .ref (A q 0))]) hx hb dX3_allCoin_1 rfl hl (by decide) rfl (fun ls hl => ?_)
  refine lv_iconst (v := 0) hx hb dX3_allCoin_2 (by decide) ?_
  refine lv_istore_n (lv' := [(2, .int 0), (1, .int 0), (0, .ref (A q 0))]) hx hb dX3_allCoin_3 rfl hl (by decide) rfl (fun ls hl => ?_)
  have hl_4_6 : ∀ (n_7 : Nat) (x_1 : Int32) (x_4 : Int32) (H : Heap) (locs : List Loc) (ls : Array Slot), (8 - x_1.toInt : Int).toNat < n_7 → (0 ≤ x_1.toInt) → (x_1.toInt ≤ 8) → (x_4.toInt = bq_ss 192 rg (x_1.toInt).toNat) → (x_1.toInt ≤ tx 4) → ti_H ti_LT D A cy H0 M H locs → lv_has ls 3 [(2, .int x_1), (1, .int x_4), (0, .ref (A q 0))] → W p l e (ti_rm 0) s m args below meth c H locs 0 0 Q (F0 m 4 ls []) := by
    intro n_7
    induction n_7 with
    | zero => intro x_1 x_4 H locs ls hf_7; exact absurd hf_7 (Nat.not_lt_zero _)
    | succ n_7 ih_7 =>
      intro x_1 x_4 H locs ls hf_7 b_2 b_3 j_5 j_6 hw hl
      refine lv_iload_n hx hb dX3_allCoin_4 rfl (lv_at hl 0 rfl) ?_
      refine lv_aload_n hx hb dX3_allCoin_5 rfl (lv_at hl 2 rfl) ?_
      refine ti_get (ci := 3) (k := 0) (N := 17) (T := TX3) (v := .ref (A t 0)) C hw iw_3 rfl hq (by decide) (by decide) fl_X3_45 rfl (ti_Tv (hT)) dX3_allCoin_6 ?_
      refine ti_get (ci := 8) (k := 4) (N := 12) (T := TX8) C hw iw_8 rfl (ob_t ht) (by decide) (by decide) fl_X3_78 rfl rfl dX3_allCoin_9 ?_
      refine lv_topi (fun x_8 ex_8 => ?_)
      have bx_8 : 0 ≤ x_8.toInt ∧ x_8.toInt ≤ 8 := cI_rd hI (ob_t ht).1 ex_8
      have ux_8 : (tI M t 4).toInt = x_8.toInt := by rw [ex_8]
      have L_9 : tx 4 = x_8.toInt := ((htx.1 4 (by decide) (by decide)).trans (congrArg Int32.toInt (ex_8.symm))).trans rfl
      refine sb_icmp_ge (tgt := 30) hx hb rfl rfl dX3_allCoin_12 (by decide) (fun c_12_9 => ?_) (fun c_12_9 => ?_)
      · refine lv_iload_n hx hb dX3_allCoin_30 rfl (lv_at hl 1 rfl) ?_
        exact hQ _ _ _ _ _ _ hw rfl (⟨rfl, (by rw [show (tx 4).toNat = (x_1.toInt).toNat by omega]; exact j_5)⟩) dX3_allCoin_31
      · refine lv_iload_n hx hb dX3_allCoin_15 rfl (lv_at hl 1 rfl) ?_
        refine lv_aload_n hx hb dX3_allCoin_16 rfl (lv_at hl 2 rfl) ?_
        refine ti_get (ci := 3) (k := 12) (N := 17) (T := TX3) (v := .ref (A q 13)) C hw iw_3 rfl hq (by decide) (by decide) fl_X3_30 rfl rfl dX3_allCoin_17 ?_
        refine lv_iload_n hx hb dX3_allCoin_20 rfl (lv_at hl 0 rfl) ?_
        refine ti_iald (ci := 3) (k := 12) (n := 8) C hw hq (by decide) (fun _ _ => rfl) (vp_in_iff.mpr (by omega)) dX3_allCoin_21 ?_
        refine lv_topi (fun x_11 ex_11 => ?_)
        have L_12 : rg (192 + x_1.toInt.toNat) = x_11.toInt := qC_y (k := 12) hs rfl (by omega) (by omega) (by decide) (by decide) ex_11
        refine lv_iadd hx hb dX3_allCoin_22 ?_
        refine lv_topi (fun x_13 ex_13 => ?_)
        have tx_13 : x_13.toInt = bw (x_4.toInt + x_11.toInt) := bw_add ex_13 rfl rfl
        refine lv_istore_n (lv' := [(1, .int x_13), (2, .int x_1), (0, .ref (A q 0))]) hx hb dX3_allCoin_23 rfl hl (by decide) rfl (fun ls hl => ?_)
        obtain ⟨x_14, ex_14⟩ : ∃ z : Int32, z = x_1 + 1 := ⟨_, rfl⟩
        have tx_14 : x_14.toInt = x_1.toInt + 1 := i_add ex_14 rfl (by decide) (by omega) (by omega)
        refine lv_iinc (v := x_14) (lv' := [(2, .int x_14), (1, .int x_13), (0, .ref (A q 0))]) hx hb dX3_allCoin_24 hl (k := 1) rfl (by rw [ex_14]; rfl) (by decide) rfl (fun ls hl => ?_)
        refine lv_goto (tgt := 4) hx hb dX3_allCoin_27 (by decide) ?_
        exact ih_7 x_14 x_13 _ _ _ (by omega) (by first | omega | decide) (by first | omega | decide) (ss_s j_5 (by omega) L_12 tx_13) (by first | omega | decide) hw (lv_sub hl [0, 1, 2] rfl)
  exact hl_4_6 ((8 - 0 : Int).toNat + 1) 0 0 _ _ _ (Nat.lt_succ_self _) (by have lt0 : (0 : Int32).toInt = 0 := (by decide); first | omega | decide) (by have lt0 : (0 : Int32).toInt = 0 := (by decide); first | omega | decide) (by rw [show ((0 : Int32).toInt).toNat = 0 by decide]; exact (by decide : (0 : Int32).toInt = 0)) (by have lt0 : (0 : Int32).toInt = 0 := (by decide); first | omega | decide) hw (lv_sub hl [0, 1, 2] rfl)
set_option maxHeartbeats 4000000 in
set_option maxRecDepth 100000 in
theorem z_X3_allCoughs (l : Launch) (D : va_G) (A : Nat → Nat → Nat) (cy : Nat → ClassId) (hJ : ti_inj ti_LT A) (M : ti_M) (hI : cI Tc M) (q t : Nat) (hq : ti_ob ti_LT q 3) (ht : t = 3 ∨ t = 4) (hT : tT M q 0 = some t) (tx rg : Nat → Int) (htx : tC t tx M) (hs : qC q rg M) : ti_Ki l yX3_allCoughs cX3_allCoughs 3 (some .int) 0 ti_LT D A cy M [.ref (A q 0)] (fun r M2 => M2 = M ∧ r.toInt = bq_ss 256 rg (tx 4).toNat) := by
  refine ti_eI yp_X3_allCoughs hJ ti_LT_nd (Nat.le_of_ble_eq_true rfl) ?_
  intro p e s m args below meth c Q H0 C hQ hw ls hl
  have hx := C.1
  have hb := C.2.1
  have hl : lv_has ls 3 [(0, .ref (A q 0))] := hl
  have l4 : 0 ≤ tx 4 ∧ tx 4 ≤ 8 := by rw [htx.1 4 (by decide) (by decide)]; exact cI_rd (k := 4) hI (ob_t ht).1 rfl
  refine lv_iconst (v := 0) hx hb dX3_allCoughs_0 (by decide) ?_
  refine lv_istore_n (lv' := [(1, .int 0), (0, .ref (A q 0))]) hx hb dX3_allCoughs_1 rfl hl (by decide) rfl (fun ls hl => ?_)
  refine lv_iconst (v := 0) hx hb dX3_allCoughs_2 (by decide) ?_
  refine lv_istore_n (lv' := [(2, .int 0), (1, .int 0), (0, .ref (A q 0))]) hx hb dX3_allCoughs_3 rfl hl (by decide) rfl (fun ls hl => ?_)
  have hl_4_6 : ∀ (n_7 : Nat) (x_1 : Int32) (x_4 : Int32) (H : Heap) (locs : List Loc) (ls : Array Slot), (8 - x_1.toInt : Int).toNat < n_7 → (0 ≤ x_1.toInt) → (x_1.toInt ≤ 8) → (x_4.toInt = bq_ss 256 rg (x_1.toInt).toNat) → (x_1.toInt ≤ tx 4) → ti_H ti_LT D A cy H0 M H locs → lv_has ls 3 [(2, .int x_1), (1, .int x_4), (0, .ref (A q 0))] → W p l e (ti_rm 0) s m args below meth c H locs 0 0 Q (F0 m 4 ls []) := by
    intro n_7
    induction n_7 with
    | zero => intro x_1 x_4 H locs ls hf_7; exact absurd hf_7 (Nat.not_lt_zero _)
    | succ n_7 ih_7 =>
      intro x_1 x_4 H locs ls hf_7 b_2 b_3 j_5 j_6 hw hl
      refine lv_iload_n hx hb dX3_allCoughs_4 rfl (lv_at hl 0 rfl) ?_
      refine lv_aload_n hx hb dX3_allCoughs_5 rfl (lv_at hl 2 rfl) ?_
      refine ti_get (ci := 3) (k := 0) (N := 17) (T := TX3) (v := .ref (A t 0)) C hw iw_3 rfl hq (by decide) (by decide) fl_X3_45 rfl (ti_Tv (hT)) dX3_allCoughs_6 ?_
      refine ti_get (ci := 8) (k := 4) (N := 12) (T := TX8) C hw iw_8 rfl (ob_t ht) (by decide) (by decide) fl_X3_78 rfl rfl dX3_allCoughs_9 ?_
      refine lv_topi (fun x_8 ex_8 => ?_)
      have bx_8 : 0 ≤ x_8.toInt ∧ x_8.toInt ≤ 8 := cI_rd hI (ob_t ht).1 ex_8
      have ux_8 : (tI M t 4).toInt = x_8.toInt := by rw [ex_8]
      have L_9 : tx 4 = x_8.toInt := ((htx.1 4 (by decide) (by decide)).trans (congrArg Int32.toInt (ex_8.symm))).trans rfl
      refine sb_icmp_ge (tgt := 30) hx hb rfl rfl dX3_allCoughs_12 (by decide) (fun c_12_9 => ?_) (fun c_12_9 => ?_)
      · refine lv_iload_n hx hb dX3_allCoughs_30 rfl (lv_at hl 1 rfl) ?_
        exact hQ _ _ _ _ _ _ hw rfl (⟨rfl, (by rw [show (tx 4).toNat = (x_1.toInt).toNat by omega]; exact j_5)⟩) dX3_allCoughs_31
      · refine lv_iload_n hx hb dX3_allCoughs_15 rfl (lv_at hl 1 rfl) ?_
        refine lv_aload_n hx hb dX3_allCoughs_16 rfl (lv_at hl 2 rfl) ?_
        refine ti_get (ci := 3) (k := 16) (N := 17) (T := TX3) (v := .ref (A q 17)) C hw iw_3 rfl hq (by decide) (by decide) fl_X3_42 rfl rfl dX3_allCoughs_17 ?_
        refine lv_iload_n hx hb dX3_allCoughs_20 rfl (lv_at hl 0 rfl) ?_
        refine ti_iald (ci := 3) (k := 16) (n := 8) C hw hq (by decide) (fun _ _ => rfl) (vp_in_iff.mpr (by omega)) dX3_allCoughs_21 ?_
        refine lv_topi (fun x_11 ex_11 => ?_)
        have L_12 : rg (256 + x_1.toInt.toNat) = x_11.toInt := qC_y (k := 16) hs rfl (by omega) (by omega) (by decide) (by decide) ex_11
        refine lv_iadd hx hb dX3_allCoughs_22 ?_
        refine lv_topi (fun x_13 ex_13 => ?_)
        have tx_13 : x_13.toInt = bw (x_4.toInt + x_11.toInt) := bw_add ex_13 rfl rfl
        refine lv_istore_n (lv' := [(1, .int x_13), (2, .int x_1), (0, .ref (A q 0))]) hx hb dX3_allCoughs_23 rfl hl (by decide) rfl (fun ls hl => ?_)
        obtain ⟨x_14, ex_14⟩ : ∃ z : Int32, z = x_1 + 1 := ⟨_, rfl⟩
        have tx_14 : x_14.toInt = x_1.toInt + 1 := i_add ex_14 rfl (by decide) (by omega) (by omega)
        refine lv_iinc (v := x_14) (lv' := [(2, .int x_14), (1, .int x_13), (0, .ref (A q 0))]) hx hb dX3_allCoughs_24 hl (k := 1) rfl (by rw [ex_14]; rfl) (by decide) rfl (fun ls hl => ?_)
        refine lv_goto (tgt := 4) hx hb dX3_allCoughs_27 (by decide) ?_
        exact ih_7 x_14 x_13 _ _ _ (by omega) (by first | omega | decide) (by first | omega | decide) (ss_s j_5 (by omega) L_12 tx_13) (by first | omega | decide) hw (lv_sub hl [0, 1, 2] rfl)
  exact hl_4_6 ((8 - 0 : Int).toNat + 1) 0 0 _ _ _ (Nat.lt_succ_self _) (by have lt0 : (0 : Int32).toInt = 0 := (by decide); first | omega | decide) (by have lt0 : (0 : Int32).toInt = 0 := (by decide); first | omega | decide) (by rw [show ((0 : Int32).toInt).toNat = 0 by decide]; exact (by decide : (0 : Int32).toInt = 0)) (by have lt0 : (0 : Int32).toInt = 0 := (by decide); first | omega | decide) hw (lv_sub hl [0, 1, 2] rfl)
set_option maxHeartbeats 4000000 in
set_option maxRecDepth 100000 in
theorem z_X6_knownBy (l : Launch) (D : va_G) (A : Nat → Nat → Nat) (cy : Nat → ClassId) (hJ : ti_inj ti_LT A) (M : ti_M) (hI : cI Tc M)  : ti_Ki l yX6_knownBy cX6_knownBy 1 (some .int) 0 ti_LT D A cy M [.ref (A 50 0)] (fun r M2 => M2 = M ∧ r.toInt = if (tI M 50 6).toInt = -1 then (tI M 50 5).toInt else (tI M 50 6).toInt) := by
  refine ti_eI yp_X6_knownBy hJ ti_LT_nd (Nat.le_of_ble_eq_true rfl) ?_
  intro p e s m args below meth c Q H0 C hQ hw ls hl
  have hx := C.1
  have hb := C.2.1
  have hl : lv_has ls 1 [(0, .ref (A 50 0))] := hl
  refine lv_aload_n hx hb dX6_knownBy_0 rfl (lv_at hl 0 rfl) ?_
  refine ti_get (ci := 6) (k := 6) (N := 13) (T := TX6) C hw iw_6 rfl ob_50 (by decide) (by decide) fl_X6_31 rfl rfl dX6_knownBy_1 ?_
  refine lv_topi (fun x_1 ex_1 => ?_)
  have bx_1 : (-1) ≤ x_1.toInt ∧ x_1.toInt ≤ 24 := cI_rd hI ob_50.1 ex_1
  have ux_1 : (tI M 50 6).toInt = x_1.toInt := by rw [ex_1]
  refine lv_iconst (v := (-1)) hx hb dX6_knownBy_4 (by decide) ?_
  refine sb_icmp_ne (tgt := 15) hx hb rfl (by decide : ((-1) : Int32).toInt = (-1)) dX6_knownBy_5 (by decide) (fun c_5_1 => ?_) (fun c_5_1 => ?_)
  · refine lv_aload_n hx hb dX6_knownBy_15 rfl (lv_at hl 0 rfl) ?_
    refine ti_get (ci := 6) (k := 6) (N := 13) (T := TX6) C hw iw_6 rfl ob_50 (by decide) (by decide) fl_X6_31 rfl rfl dX6_knownBy_16 ?_
    refine ti_top (y := x_1) (ex_1.symm) ?_
    have u_4 : (tI M 50 6).toInt = (x_1 : Int32).toInt := by rw [(ex_1.symm)]
    exact hQ _ _ _ _ _ _ hw rfl (⟨rfl, by first | (rw [if_pos (by omega)]; omega) | (rw [if_neg (by omega)]; omega)⟩) dX6_knownBy_19
  · refine lv_aload_n hx hb dX6_knownBy_8 rfl (lv_at hl 0 rfl) ?_
    refine ti_get (ci := 6) (k := 5) (N := 13) (T := TX6) C hw iw_6 rfl ob_50 (by decide) (by decide) fl_X6_28 rfl rfl dX6_knownBy_9 ?_
    refine lv_topi (fun x_3 ex_3 => ?_)
    have bx_3 : 0 ≤ x_3.toInt ∧ x_3.toInt ≤ 24 := cI_rd hI ob_50.1 ex_3
    have ux_3 : (tI M 50 5).toInt = x_3.toInt := by rw [ex_3]
    refine lv_goto (tgt := 19) hx hb dX6_knownBy_12 (by decide) ?_
    exact hQ _ _ _ _ _ _ hw rfl (⟨rfl, by first | (rw [if_pos (by omega)]; omega) | (rw [if_neg (by omega)]; omega)⟩) dX6_knownBy_19
set_option maxHeartbeats 4000000 in
set_option maxRecDepth 100000 in
theorem z_X9_count (l : Launch) (D : va_G) (A : Nat → Nat → Nat) (cy : Nat → ClassId) (hJ : ti_inj ti_LT A) (M : ti_M) (hI : cI Tc M) (hF : cF Tc M) (t : Nat) (ht : t = 3 ∨ t = 4) (tx rg lp : Nat → Int) (ug : Nat → Nat → Int) (cu : Int) (hk : kC t tx rg ug cu lp M) (za : Int32) : ti_Ki l yX9_count cX9_count 2 (some .int) 2 ti_LT D A cy M [.ref (A 0 0), .int za] (fun r M2 => M2 = M ∧ r.toInt = bq_co tx rg cu (tI M 50 5).toInt (tI M 50 6).toInt za.toInt) := by
  refine ti_eI yp_X9_count hJ ti_LT_nd (Nat.le_of_ble_eq_true rfl) ?_
  intro p e s m args below meth c Q H0 C hQ hw ls hl
  have hx := C.1
  have hb := C.2.1
  have hl : lv_has ls 2 [(0, .ref (A 0 0)), (1, .int za)] := hl
  obtain ⟨htx, hT1, hT, hs, hr, hp0⟩ := id hk
  have l4 : 0 ≤ tx 4 ∧ tx 4 ≤ 8 := by rw [htx.1 4 (by decide) (by decide)]; exact cI_rd (k := 4) hI (ob_t ht).1 rfl
  have h4 : tx 4 = (tI M t 4).toInt := htx.1 4 (by decide) (by decide)
  have hc9 : (tI M 28 2).toInt = cu := hr.1
  refine lv_iload_n hx hb dX9_count_0 rfl (lv_at hl 1 rfl) ?_
  by_cases s_1_0 : za = 0
  · have qs_1_0 : za.toInt = 0 := by rw [s_1_0]; decide
    refine lv_tableIn (tgt := 76) (off := 75) hx hb dX9_count_1 (by rw [s_1_0]; decide) (by rw [s_1_0]; decide) (by rw [s_1_0]; decide) (by decide) ?_
    refine lv_aload_n hx hb dX9_count_76 rfl (lv_at hl 0 rfl) ?_
    refine ti_get (ci := 9) (k := 1) (N := 10) (T := TX9) (v := .ref (A t 0)) C hw iw_9 rfl ob_0 (by decide) (by decide) fl_X9_19 rfl (ti_Tv (hT1)) dX9_count_77 ?_
    refine ti_get (ci := 8) (k := 4) (N := 12) (T := TX8) C hw iw_8 rfl (ob_t ht) (by decide) (by decide) fl_X9_301 rfl rfl dX9_count_80 ?_
    refine lv_topi (fun x_2 ex_2 => ?_)
    have bx_2 : 0 ≤ x_2.toInt ∧ x_2.toInt ≤ 8 := cI_rd hI (ob_t ht).1 ex_2
    have ux_2 : (tI M t 4).toInt = x_2.toInt := by rw [ex_2]
    have L_3 : tx 4 = x_2.toInt := ((htx.1 4 (by decide) (by decide)).trans (congrArg Int32.toInt (ex_2.symm))).trans rfl
    have zv : za.toInt = 0 := by rw [s_1_0]; decide
    exact hQ _ _ _ _ _ _ hw rfl (⟨rfl, by unfold bq_co; rw [zv, if_pos rfl]; omega⟩) dX9_count_83
  · have qs_1_0 : za.toInt ≠ 0 := pt_ne s_1_0 (by decide)
    by_cases s_1_1 : za = 1
    · have qs_1_1 : za.toInt = 1 := by rw [s_1_1]; decide
      refine lv_tableIn (tgt := 84) (off := 83) hx hb dX9_count_1 (by rw [s_1_1]; decide) (by rw [s_1_1]; decide) (by rw [s_1_1]; decide) (by decide) ?_
      refine lv_aload_n hx hb dX9_count_84 rfl (lv_at hl 0 rfl) ?_
      refine ti_get (ci := 9) (k := 1) (N := 10) (T := TX9) (v := .ref (A t 0)) C hw iw_9 rfl ob_0 (by decide) (by decide) fl_X9_19 rfl (ti_Tv (hT1)) dX9_count_85 ?_
      refine ti_get (ci := 8) (k := 5) (N := 12) (T := TX8) C hw iw_8 rfl (ob_t ht) (by decide) (by decide) fl_X9_304 rfl rfl dX9_count_88 ?_
      refine lv_topi (fun x_4 ex_4 => ?_)
      have L_5 : tx 5 = x_4.toInt := ((htx.1 5 (by decide) (by decide)).trans (congrArg Int32.toInt (ex_4.symm))).trans rfl
      have zv : za.toInt = 1 := by rw [s_1_1]; decide
      exact hQ _ _ _ _ _ _ hw rfl (⟨rfl, by unfold bq_co; rw [zv, if_neg (by decide), if_pos rfl]; omega⟩) dX9_count_91
    · have qs_1_1 : za.toInt ≠ 1 := pt_ne s_1_1 (by decide)
      by_cases s_1_2 : za = 2
      · have qs_1_2 : za.toInt = 2 := by rw [s_1_2]; decide
        refine lv_tableIn (tgt := 92) (off := 91) hx hb dX9_count_1 (by rw [s_1_2]; decide) (by rw [s_1_2]; decide) (by rw [s_1_2]; decide) (by decide) ?_
        refine lv_aload_n hx hb dX9_count_92 rfl (lv_at hl 0 rfl) ?_
        refine ti_get (ci := 9) (k := 3) (N := 10) (T := TX9) (v := .ref (A 27 0)) C hw iw_9 rfl ob_0 (by decide) (by decide) fl_X9_29 rfl rfl dX9_count_93 ?_
        refine ti_get (ci := 3) (k := 2) (N := 17) (T := TX3) C hw iw_3 rfl ob_27 (by decide) (by decide) fl_X9_186 rfl rfl dX9_count_96 ?_
        refine lv_topi (fun x_6 ex_6 => ?_)
        have bx_6 : 0 ≤ x_6.toInt ∧ x_6.toInt ≤ 120 := cI_rd hI ob_27.1 ex_6 (Or.inl rfl)
        have ux_6 : (tI M 27 2).toInt = x_6.toInt := by rw [ex_6]
        have L_7 : rg 2 = x_6.toInt := ((hs.1 2 (by decide) (by decide)).trans (congrArg Int32.toInt (ex_6.symm))).trans rfl
        have zv : za.toInt = 2 := by rw [s_1_2]; decide
        exact hQ _ _ _ _ _ _ hw rfl (⟨rfl, by unfold bq_co; rw [zv, if_neg (by decide), if_neg (by decide), if_pos rfl]; omega⟩) dX9_count_99
      · have qs_1_2 : za.toInt ≠ 2 := pt_ne s_1_2 (by decide)
        by_cases s_1_3 : za = 3
        · have qs_1_3 : za.toInt = 3 := by rw [s_1_3]; decide
          refine lv_tableIn (tgt := 100) (off := 99) hx hb dX9_count_1 (by rw [s_1_3]; decide) (by rw [s_1_3]; decide) (by rw [s_1_3]; decide) (by decide) ?_
          refine lv_aload_n hx hb dX9_count_100 rfl (lv_at hl 0 rfl) ?_
          refine ti_get (ci := 9) (k := 3) (N := 10) (T := TX9) (v := .ref (A 27 0)) C hw iw_9 rfl ob_0 (by decide) (by decide) fl_X9_29 rfl rfl dX9_count_101 ?_
          refine ti_get (ci := 3) (k := 3) (N := 17) (T := TX3) C hw iw_3 rfl ob_27 (by decide) (by decide) fl_X9_179 rfl rfl dX9_count_104 ?_
          refine lv_topi (fun x_8 ex_8 => ?_)
          have bx_8 : 0 ≤ x_8.toInt ∧ x_8.toInt ≤ 8 := cI_rd hI ob_27.1 ex_8
          have ux_8 : (tI M 27 3).toInt = x_8.toInt := by rw [ex_8]
          have L_9 : rg 3 = x_8.toInt := ((hs.1 3 (by decide) (by decide)).trans (congrArg Int32.toInt (ex_8.symm))).trans rfl
          have zv : za.toInt = 3 := by rw [s_1_3]; decide
          exact hQ _ _ _ _ _ _ hw rfl (⟨rfl, by unfold bq_co; rw [zv, if_neg (by decide), if_neg (by decide), if_neg (by decide), if_pos rfl]; omega⟩) dX9_count_107
        · have qs_1_3 : za.toInt ≠ 3 := pt_ne s_1_3 (by decide)
          by_cases s_1_4 : za = 4
          · have qs_1_4 : za.toInt = 4 := by rw [s_1_4]; decide
            refine lv_tableIn (tgt := 108) (off := 107) hx hb dX9_count_1 (by rw [s_1_4]; decide) (by rw [s_1_4]; decide) (by rw [s_1_4]; decide) (by decide) ?_
            refine lv_aload_n hx hb dX9_count_108 rfl (lv_at hl 0 rfl) ?_
            refine ti_get (ci := 9) (k := 3) (N := 10) (T := TX9) (v := .ref (A 27 0)) C hw iw_9 rfl ob_0 (by decide) (by decide) fl_X9_29 rfl rfl dX9_count_109 ?_
            refine lv_iconst (v := 2) hx hb dX9_count_112 (by decide) ?_
            refine ti_callVi (ci := 3) (av := [.int 2]) C hw (z_X3_howMany l D A cy hJ M hI 27 t ob_27 ht (hT) 2 tx rg htx hs) ⟨ml_X9_307, ym_X3_howMany, yv_X3_howMany, yi_X3_howMany, yc_X3_howMany⟩ yd_X3_howMany ob_27 (by decide) rfl rfl hl.1 (Nat.le_of_ble_eq_true rfl) ⟨by decide, by decide⟩ ⟨Nat.zero_le _, Nat.zero_le _⟩ dX9_count_113 (fun r_10 M_11 H locs hp_11 hw => ?_)
            obtain ⟨hm, pr_10⟩ := hp_11
            have hw := hw.to hm
            try simp only [show (2 : Int32).toInt = 2 by decide] at pr_10
            have zv : za.toInt = 4 := by rw [s_1_4]; decide
            exact hQ _ _ _ _ _ _ hw rfl (⟨rfl, by unfold bq_co; rw [zv, if_neg (by decide), if_neg (by decide), if_neg (by decide), if_neg (by decide), if_pos rfl]; exact pr_10⟩) dX9_count_116
          · have qs_1_4 : za.toInt ≠ 4 := pt_ne s_1_4 (by decide)
            by_cases s_1_5 : za = 5
            · have qs_1_5 : za.toInt = 5 := by rw [s_1_5]; decide
              refine lv_tableIn (tgt := 117) (off := 116) hx hb dX9_count_1 (by rw [s_1_5]; decide) (by rw [s_1_5]; decide) (by rw [s_1_5]; decide) (by decide) ?_
              refine lv_aload_n hx hb dX9_count_117 rfl (lv_at hl 0 rfl) ?_
              refine ti_get (ci := 9) (k := 3) (N := 10) (T := TX9) (v := .ref (A 27 0)) C hw iw_9 rfl ob_0 (by decide) (by decide) fl_X9_29 rfl rfl dX9_count_118 ?_
              refine lv_iconst (v := 3) hx hb dX9_count_121 (by decide) ?_
              refine ti_callVi (ci := 3) (av := [.int 3]) C hw (z_X3_howMany l D A cy hJ M hI 27 t ob_27 ht (hT) 3 tx rg htx hs) ⟨ml_X9_307, ym_X3_howMany, yv_X3_howMany, yi_X3_howMany, yc_X3_howMany⟩ yd_X3_howMany ob_27 (by decide) rfl rfl hl.1 (Nat.le_of_ble_eq_true rfl) ⟨by decide, by decide⟩ ⟨Nat.zero_le _, Nat.zero_le _⟩ dX9_count_122 (fun r_12 M_13 H locs hp_13 hw => ?_)
              obtain ⟨hm, pr_12⟩ := hp_13
              have hw := hw.to hm
              try simp only [show (3 : Int32).toInt = 3 by decide] at pr_12
              have zv : za.toInt = 5 := by rw [s_1_5]; decide
              exact hQ _ _ _ _ _ _ hw rfl (⟨rfl, by unfold bq_co; rw [zv, if_neg (by decide), if_neg (by decide), if_neg (by decide), if_neg (by decide), if_neg (by decide), if_pos rfl]; exact pr_12⟩) dX9_count_125
            · have qs_1_5 : za.toInt ≠ 5 := pt_ne s_1_5 (by decide)
              by_cases s_1_6 : za = 6
              · have qs_1_6 : za.toInt = 6 := by rw [s_1_6]; decide
                refine lv_tableIn (tgt := 126) (off := 125) hx hb dX9_count_1 (by rw [s_1_6]; decide) (by rw [s_1_6]; decide) (by rw [s_1_6]; decide) (by decide) ?_
                refine lv_aload_n hx hb dX9_count_126 rfl (lv_at hl 0 rfl) ?_
                refine ti_get (ci := 9) (k := 3) (N := 10) (T := TX9) (v := .ref (A 27 0)) C hw iw_9 rfl ob_0 (by decide) (by decide) fl_X9_29 rfl rfl dX9_count_127 ?_
                refine ti_get (ci := 3) (k := 4) (N := 17) (T := TX3) C hw iw_3 rfl ob_27 (by decide) (by decide) fl_X9_310 rfl rfl dX9_count_130 ?_
                refine lv_topi (fun x_14 ex_14 => ?_)
                have L_15 : rg 4 = x_14.toInt := ((hs.1 4 (by decide) (by decide)).trans (congrArg Int32.toInt (ex_14.symm))).trans rfl
                have zv : za.toInt = 6 := by rw [s_1_6]; decide
                exact hQ _ _ _ _ _ _ hw rfl (⟨rfl, by unfold bq_co; rw [zv, if_neg (by decide), if_neg (by decide), if_neg (by decide), if_neg (by decide), if_neg (by decide), if_neg (by decide), if_pos rfl]; omega⟩) dX9_count_133
              · have qs_1_6 : za.toInt ≠ 6 := pt_ne s_1_6 (by decide)
                by_cases s_1_7 : za = 7
                · have qs_1_7 : za.toInt = 7 := by rw [s_1_7]; decide
                  refine lv_tableIn (tgt := 134) (off := 133) hx hb dX9_count_1 (by rw [s_1_7]; decide) (by rw [s_1_7]; decide) (by rw [s_1_7]; decide) (by decide) ?_
                  refine lv_aload_n hx hb dX9_count_134 rfl (lv_at hl 0 rfl) ?_
                  refine ti_get (ci := 9) (k := 3) (N := 10) (T := TX9) (v := .ref (A 27 0)) C hw iw_9 rfl ob_0 (by decide) (by decide) fl_X9_29 rfl rfl dX9_count_135 ?_
                  refine ti_callVi (ci := 3) (av := []) C hw (z_X3_allCoin l D A cy hJ M hI 27 t ob_27 ht (hT) tx rg htx hs) ⟨ml_X9_313, ym_X3_allCoin, yv_X3_allCoin, yi_X3_allCoin, yc_X3_allCoin⟩ yd_X3_allCoin ob_27 (by decide) rfl rfl hl.1 (Nat.le_of_ble_eq_true rfl) ⟨by decide, by decide⟩ ⟨Nat.zero_le _, Nat.zero_le _⟩ dX9_count_138 (fun r_16 M_17 H locs hp_17 hw => ?_)
                  obtain ⟨hm, pr_16⟩ := hp_17
                  have hw := hw.to hm
                  have zv : za.toInt = 7 := by rw [s_1_7]; decide
                  exact hQ _ _ _ _ _ _ hw rfl (⟨rfl, by unfold bq_co; rw [zv, if_neg (by decide), if_neg (by decide), if_neg (by decide), if_neg (by decide), if_neg (by decide), if_neg (by decide), if_neg (by decide), if_pos rfl]; exact pr_16⟩) dX9_count_141
                · have qs_1_7 : za.toInt ≠ 7 := pt_ne s_1_7 (by decide)
                  by_cases s_1_8 : za = 8
                  · have qs_1_8 : za.toInt = 8 := by rw [s_1_8]; decide
                    refine lv_tableIn (tgt := 142) (off := 141) hx hb dX9_count_1 (by rw [s_1_8]; decide) (by rw [s_1_8]; decide) (by rw [s_1_8]; decide) (by decide) ?_
                    refine lv_aload_n hx hb dX9_count_142 rfl (lv_at hl 0 rfl) ?_
                    refine ti_get (ci := 9) (k := 8) (N := 10) (T := TX9) (v := .ref (A 50 0)) C hw iw_9 rfl ob_0 (by decide) (by decide) fl_X9_54 rfl rfl dX9_count_143 ?_
                    refine ti_get (ci := 6) (k := 5) (N := 13) (T := TX6) C hw iw_6 rfl ob_50 (by decide) (by decide) fl_X9_317 rfl rfl dX9_count_146 ?_
                    refine lv_topi (fun x_18 ex_18 => ?_)
                    have bx_18 : 0 ≤ x_18.toInt ∧ x_18.toInt ≤ 24 := cI_rd hI ob_50.1 ex_18
                    have ux_18 : (tI M 50 5).toInt = x_18.toInt := by rw [ex_18]
                    have zv : za.toInt = 8 := by rw [s_1_8]; decide
                    exact hQ _ _ _ _ _ _ hw rfl (⟨rfl, by unfold bq_co; rw [zv, if_neg (by decide), if_neg (by decide), if_neg (by decide), if_neg (by decide), if_neg (by decide), if_neg (by decide), if_neg (by decide), if_neg (by decide), if_pos rfl]; omega⟩) dX9_count_149
                  · have qs_1_8 : za.toInt ≠ 8 := pt_ne s_1_8 (by decide)
                    by_cases s_1_9 : za = 9
                    · have qs_1_9 : za.toInt = 9 := by rw [s_1_9]; decide
                      refine lv_tableIn (tgt := 150) (off := 149) hx hb dX9_count_1 (by rw [s_1_9]; decide) (by rw [s_1_9]; decide) (by rw [s_1_9]; decide) (by decide) ?_
                      refine lv_aload_n hx hb dX9_count_150 rfl (lv_at hl 0 rfl) ?_
                      refine ti_get (ci := 9) (k := 8) (N := 10) (T := TX9) (v := .ref (A 50 0)) C hw iw_9 rfl ob_0 (by decide) (by decide) fl_X9_54 rfl rfl dX9_count_151 ?_
                      refine ti_callVi (ci := 6) (av := []) C hw (z_X6_knownBy l D A cy hJ M hI ) ⟨ml_X9_318, ym_X6_knownBy, yv_X6_knownBy, yi_X6_knownBy, yc_X6_knownBy⟩ yd_X6_knownBy ob_50 (by decide) rfl rfl hl.1 (Nat.le_of_ble_eq_true rfl) ⟨by decide, by decide⟩ ⟨Nat.zero_le _, Nat.zero_le _⟩ dX9_count_154 (fun r_19 M_20 H locs hp_20 hw => ?_)
                      obtain ⟨hm, pr_19⟩ := hp_20
                      have hw := hw.to hm
                      have zv : za.toInt = 9 := by rw [s_1_9]; decide
                      exact hQ _ _ _ _ _ _ hw rfl (⟨rfl, by unfold bq_co; rw [zv, if_neg (by decide), if_neg (by decide), if_neg (by decide), if_neg (by decide), if_neg (by decide), if_neg (by decide), if_neg (by decide), if_neg (by decide), if_neg (by decide), if_pos rfl]; exact pr_19⟩) dX9_count_157
                    · have qs_1_9 : za.toInt ≠ 9 := pt_ne s_1_9 (by decide)
                      by_cases s_1_10 : za = 10
                      · have qs_1_10 : za.toInt = 10 := by rw [s_1_10]; decide
                        refine lv_tableIn (tgt := 158) (off := 157) hx hb dX9_count_1 (by rw [s_1_10]; decide) (by rw [s_1_10]; decide) (by rw [s_1_10]; decide) (by decide) ?_
                        refine lv_aload_n hx hb dX9_count_158 rfl (lv_at hl 0 rfl) ?_
                        refine ti_get (ci := 9) (k := 5) (N := 10) (T := TX9) (v := .ref (A 28 0)) C hw iw_9 rfl ob_0 (by decide) (by decide) fl_X9_40 rfl rfl dX9_count_159 ?_
                        refine ti_get (ci := 5) (k := 2) (N := 3) (T := TX5) C hw iw_5 rfl ob_28 (by decide) (by decide) fl_X9_297 rfl rfl dX9_count_162 ?_
                        refine lv_topi (fun x_21 ex_21 => ?_)
                        have bx_21 : 0 ≤ x_21.toInt ∧ x_21.toInt ≤ 20 := cI_rd hI ob_28.1 ex_21
                        have ux_21 : (tI M 28 2).toInt = x_21.toInt := by rw [ex_21]
                        have zv : za.toInt = 10 := by rw [s_1_10]; decide
                        exact hQ _ _ _ _ _ _ hw rfl (⟨rfl, by unfold bq_co; rw [zv, if_neg (by decide), if_neg (by decide), if_neg (by decide), if_neg (by decide), if_neg (by decide), if_neg (by decide), if_neg (by decide), if_neg (by decide), if_neg (by decide), if_neg (by decide), if_pos rfl]; omega⟩) dX9_count_165
                      · have qs_1_10 : za.toInt ≠ 10 := pt_ne s_1_10 (by decide)
                        by_cases s_1_11 : za = 11
                        · have qs_1_11 : za.toInt = 11 := by rw [s_1_11]; decide
                          refine lv_tableIn (tgt := 166) (off := 165) hx hb dX9_count_1 (by rw [s_1_11]; decide) (by rw [s_1_11]; decide) (by rw [s_1_11]; decide) (by decide) ?_
                          refine lv_aload_n hx hb dX9_count_166 rfl (lv_at hl 0 rfl) ?_
                          refine ti_get (ci := 9) (k := 3) (N := 10) (T := TX9) (v := .ref (A 27 0)) C hw iw_9 rfl ob_0 (by decide) (by decide) fl_X9_29 rfl rfl dX9_count_167 ?_
                          refine ti_get (ci := 3) (k := 7) (N := 17) (T := TX3) (v := .ref (A 27 8)) C hw iw_3 rfl ob_27 (by decide) (by decide) fl_X9_168 rfl rfl dX9_count_170 ?_
                          refine lv_iconst (v := 0) hx hb dX9_count_173 (by decide) ?_
                          refine ti_iald (ci := 3) (k := 7) (n := 3) C hw ob_27 (by decide) (fun _ _ => rfl) (by unfold vp_in; decide) dX9_count_174 ?_
                          refine lv_topi (fun x_22 ex_22 => ?_)
                          have L_23 : rg 112 = x_22.toInt := (hs.2 7 0 (by decide) (by decide) (by decide) (by decide)).trans (congrArg Int32.toInt ex_22.symm)
                          have zv : za.toInt = 11 := by rw [s_1_11]; decide
                          exact hQ _ _ _ _ _ _ hw rfl (⟨rfl, by unfold bq_co; rw [zv, if_neg (by decide), if_neg (by decide), if_neg (by decide), if_neg (by decide), if_neg (by decide), if_neg (by decide), if_neg (by decide), if_neg (by decide), if_neg (by decide), if_neg (by decide), if_neg (by decide), if_pos rfl]; omega⟩) dX9_count_175
                        · have qs_1_11 : za.toInt ≠ 11 := pt_ne s_1_11 (by decide)
                          by_cases s_1_12 : za = 12
                          · have qs_1_12 : za.toInt = 12 := by rw [s_1_12]; decide
                            refine lv_tableIn (tgt := 176) (off := 175) hx hb dX9_count_1 (by rw [s_1_12]; decide) (by rw [s_1_12]; decide) (by rw [s_1_12]; decide) (by decide) ?_
                            refine lv_aload_n hx hb dX9_count_176 rfl (lv_at hl 0 rfl) ?_
                            refine ti_get (ci := 9) (k := 3) (N := 10) (T := TX9) (v := .ref (A 27 0)) C hw iw_9 rfl ob_0 (by decide) (by decide) fl_X9_29 rfl rfl dX9_count_177 ?_
                            refine ti_get (ci := 3) (k := 7) (N := 17) (T := TX3) (v := .ref (A 27 8)) C hw iw_3 rfl ob_27 (by decide) (by decide) fl_X9_168 rfl rfl dX9_count_180 ?_
                            refine lv_iconst (v := 1) hx hb dX9_count_183 (by decide) ?_
                            refine ti_iald (ci := 3) (k := 7) (n := 3) C hw ob_27 (by decide) (fun _ _ => rfl) (by unfold vp_in; decide) dX9_count_184 ?_
                            refine lv_topi (fun x_24 ex_24 => ?_)
                            have L_25 : rg 113 = x_24.toInt := (hs.2 7 1 (by decide) (by decide) (by decide) (by decide)).trans (congrArg Int32.toInt ex_24.symm)
                            have zv : za.toInt = 12 := by rw [s_1_12]; decide
                            exact hQ _ _ _ _ _ _ hw rfl (⟨rfl, by unfold bq_co; rw [zv, if_neg (by decide), if_neg (by decide), if_neg (by decide), if_neg (by decide), if_neg (by decide), if_neg (by decide), if_neg (by decide), if_neg (by decide), if_neg (by decide), if_neg (by decide), if_neg (by decide), if_neg (by decide), if_pos rfl]; omega⟩) dX9_count_185
                          · have qs_1_12 : za.toInt ≠ 12 := pt_ne s_1_12 (by decide)
                            by_cases s_1_13 : za = 13
                            · have qs_1_13 : za.toInt = 13 := by rw [s_1_13]; decide
                              refine lv_tableIn (tgt := 186) (off := 185) hx hb dX9_count_1 (by rw [s_1_13]; decide) (by rw [s_1_13]; decide) (by rw [s_1_13]; decide) (by decide) ?_
                              refine lv_aload_n hx hb dX9_count_186 rfl (lv_at hl 0 rfl) ?_
                              refine ti_get (ci := 9) (k := 3) (N := 10) (T := TX9) (v := .ref (A 27 0)) C hw iw_9 rfl ob_0 (by decide) (by decide) fl_X9_29 rfl rfl dX9_count_187 ?_
                              refine ti_get (ci := 3) (k := 7) (N := 17) (T := TX3) (v := .ref (A 27 8)) C hw iw_3 rfl ob_27 (by decide) (by decide) fl_X9_168 rfl rfl dX9_count_190 ?_
                              refine lv_iconst (v := 2) hx hb dX9_count_193 (by decide) ?_
                              refine ti_iald (ci := 3) (k := 7) (n := 3) C hw ob_27 (by decide) (fun _ _ => rfl) (by unfold vp_in; decide) dX9_count_194 ?_
                              refine lv_topi (fun x_26 ex_26 => ?_)
                              have L_27 : rg 114 = x_26.toInt := (hs.2 7 2 (by decide) (by decide) (by decide) (by decide)).trans (congrArg Int32.toInt ex_26.symm)
                              have zv : za.toInt = 13 := by rw [s_1_13]; decide
                              exact hQ _ _ _ _ _ _ hw rfl (⟨rfl, by unfold bq_co; rw [zv, if_neg (by decide), if_neg (by decide), if_neg (by decide), if_neg (by decide), if_neg (by decide), if_neg (by decide), if_neg (by decide), if_neg (by decide), if_neg (by decide), if_neg (by decide), if_neg (by decide), if_neg (by decide), if_neg (by decide), if_pos rfl]; omega⟩) dX9_count_195
                            · have qs_1_13 : za.toInt ≠ 13 := pt_ne s_1_13 (by decide)
                              by_cases s_1_14 : za = 14
                              · have qs_1_14 : za.toInt = 14 := by rw [s_1_14]; decide
                                refine lv_tableIn (tgt := 196) (off := 195) hx hb dX9_count_1 (by rw [s_1_14]; decide) (by rw [s_1_14]; decide) (by rw [s_1_14]; decide) (by decide) ?_
                                refine lv_aload_n hx hb dX9_count_196 rfl (lv_at hl 0 rfl) ?_
                                refine ti_get (ci := 9) (k := 3) (N := 10) (T := TX9) (v := .ref (A 27 0)) C hw iw_9 rfl ob_0 (by decide) (by decide) fl_X9_29 rfl rfl dX9_count_197 ?_
                                refine ti_callVi (ci := 3) (av := []) C hw (z_X3_allCoughs l D A cy hJ M hI 27 t ob_27 ht (hT) tx rg htx hs) ⟨ml_X9_321, ym_X3_allCoughs, yv_X3_allCoughs, yi_X3_allCoughs, yc_X3_allCoughs⟩ yd_X3_allCoughs ob_27 (by decide) rfl rfl hl.1 (Nat.le_of_ble_eq_true rfl) ⟨by decide, by decide⟩ ⟨Nat.zero_le _, Nat.zero_le _⟩ dX9_count_200 (fun r_28 M_29 H locs hp_29 hw => ?_)
                                obtain ⟨hm, pr_28⟩ := hp_29
                                have hw := hw.to hm
                                have zv : za.toInt = 14 := by rw [s_1_14]; decide
                                exact hQ _ _ _ _ _ _ hw rfl (⟨rfl, by unfold bq_co; rw [zv, if_neg (by decide), if_neg (by decide), if_neg (by decide), if_neg (by decide), if_neg (by decide), if_neg (by decide), if_neg (by decide), if_neg (by decide), if_neg (by decide), if_neg (by decide), if_neg (by decide), if_neg (by decide), if_neg (by decide), if_neg (by decide), if_pos rfl]; exact pr_28⟩) dX9_count_203
                              · have qs_1_14 : za.toInt ≠ 14 := pt_ne s_1_14 (by decide)
                                refine lv_tableOut (tgt := 204) hx hb dX9_count_1 (ti_out (lo := 0) (hi := 14) za (fun v h1 h2 => by rcases (show v = 0 ∨ v = 1 ∨ v = 2 ∨ v = 3 ∨ v = 4 ∨ v = 5 ∨ v = 6 ∨ v = 7 ∨ v = 8 ∨ v = 9 ∨ v = 10 ∨ v = 11 ∨ v = 12 ∨ v = 13 ∨ v = 14 by omega) with rfl | rfl | rfl | rfl | rfl | rfl | rfl | rfl | rfl | rfl | rfl | rfl | rfl | rfl | rfl <;> first | exact ti_nev 0 s_1_0 (by decide) | exact ti_nev 1 s_1_1 (by decide) | exact ti_nev 2 s_1_2 (by decide) | exact ti_nev 3 s_1_3 (by decide) | exact ti_nev 4 s_1_4 (by decide) | exact ti_nev 5 s_1_5 (by decide) | exact ti_nev 6 s_1_6 (by decide) | exact ti_nev 7 s_1_7 (by decide) | exact ti_nev 8 s_1_8 (by decide) | exact ti_nev 9 s_1_9 (by decide) | exact ti_nev 10 s_1_10 (by decide) | exact ti_nev 11 s_1_11 (by decide) | exact ti_nev 12 s_1_12 (by decide) | exact ti_nev 13 s_1_13 (by decide) | exact ti_nev 14 s_1_14 (by decide))) (by decide) ?_
                                refine lv_iconst (v := (-1)) hx hb dX9_count_204 (by decide) ?_
                                have zn0 : za.toInt ≠ 0 := pt_ne s_1_0 (by decide)
                                have zn1 : za.toInt ≠ 1 := pt_ne s_1_1 (by decide)
                                have zn2 : za.toInt ≠ 2 := pt_ne s_1_2 (by decide)
                                have zn3 : za.toInt ≠ 3 := pt_ne s_1_3 (by decide)
                                have zn4 : za.toInt ≠ 4 := pt_ne s_1_4 (by decide)
                                have zn5 : za.toInt ≠ 5 := pt_ne s_1_5 (by decide)
                                have zn6 : za.toInt ≠ 6 := pt_ne s_1_6 (by decide)
                                have zn7 : za.toInt ≠ 7 := pt_ne s_1_7 (by decide)
                                have zn8 : za.toInt ≠ 8 := pt_ne s_1_8 (by decide)
                                have zn9 : za.toInt ≠ 9 := pt_ne s_1_9 (by decide)
                                have zn10 : za.toInt ≠ 10 := pt_ne s_1_10 (by decide)
                                have zn11 : za.toInt ≠ 11 := pt_ne s_1_11 (by decide)
                                have zn12 : za.toInt ≠ 12 := pt_ne s_1_12 (by decide)
                                have zn13 : za.toInt ≠ 13 := pt_ne s_1_13 (by decide)
                                have zn14 : za.toInt ≠ 14 := pt_ne s_1_14 (by decide)
                                exact hQ _ _ _ _ _ _ hw rfl (⟨rfl, by unfold bq_co; rw [if_neg zn0, if_neg zn1, if_neg zn2, if_neg zn3, if_neg zn4, if_neg zn5, if_neg zn6, if_neg zn7, if_neg zn8, if_neg zn9, if_neg zn10, if_neg zn11, if_neg zn12, if_neg zn13, if_neg zn14]; decide⟩) dX9_count_205
end
section
variable {Tc : gC} {Tm : gM}
section
variable {tx s : Nat → Int}
theorem co_a {a : Int32} (hG : ∀ m : Nat, m < 8 → s (256 + m) = pp_bt a m) : ∀ n : Nat, n ≤ 8 → bq_ss 256 s n = bq_sb a n ∧ 0 ≤ bq_sb a n ∧ bq_sb a n ≤ n := by
  intro n
  induction n with
  | zero => intro _; exact ⟨rfl, Int.le_refl _, Int.le_refl _⟩
  | succ n ih =>
    intro hn
    obtain ⟨h1, h2, h3⟩ := ih (by omega)
    have g := hG n (by omega)
    have b := bt_01 a n
    have e : bq_sb a (n + 1) = bq_sb a n + pp_bt a n := rfl
    refine ⟨?_, by omega, by omega⟩
    show bw (bq_ss 256 s n + s (256 + n)) = _
    rw [h1, g, bw_id (by omega) (by omega), e]
theorem co_b {a : Int32} (hG : ∀ m : Nat, m < 8 → s (256 + m) = pp_bt a m) (hK : ∀ m : Nat, m < 8 → tx 4 ≤ (m : Int) → s (256 + m) = 0) : ∀ d : Nat, (tx 4).toNat + d ≤ 8 → bq_sb a ((tx 4).toNat + d) = bq_sb a (tx 4).toNat := by
  intro d
  induction d with
  | zero => intro _; rfl
  | succ d ih =>
    intro hd
    have g := hG ((tx 4).toNat + d) (by omega)
    rw [hK _ (by omega) (by omega)] at g
    show bq_sb a ((tx 4).toNat + d) + pp_bt a ((tx 4).toNat + d) = _
    rw [← g, Int.add_zero]; exact ih (by omega)
theorem co_eq {a : Int32} (h4 : 0 ≤ tx 4 ∧ tx 4 ≤ 8) (hG : ∀ m : Nat, m < 8 → s (256 + m) = pp_bt a m) (hK : ∀ m : Nat, m < 8 → tx 4 ≤ (m : Int) → s (256 + m) = 0) : bq_b8 a = bq_ss 256 s (tx 4).toNat := by
  have b := co_b hG hK (8 - (tx 4).toNat) (by omega)
  rw [show (tx 4).toNat + (8 - (tx 4).toNat) = 8 by omega] at b
  rw [(co_a hG _ (by omega)).1]
  exact b
end
set_option maxHeartbeats 4000000 in
set_option maxRecDepth 100000 in
theorem z_X10_howMany_0 (l : Launch) (D : va_G) (A : Nat → Nat → Nat) (cy : Nat → ClassId) (hJ : ti_inj ti_LM A) (M : ti_M) (hI : mI Tm M)  (a : Int32) (tx rg : Nat → Int) (htr : tR tx M) (ht4 : 0 ≤ tx 4 ∧ tx 4 ≤ 8) (hr : qR (tx 4).toNat 0 rg M) : ti_Ki l yX10_howMany cX10_howMany 5 (some .int) 0 ti_LM D A cy M [.ref (A 60 0), .int 0, .int a] (fun r M2 => M2 = M ∧ r.toInt = bq_hm rg a.toInt (tx 4).toNat) := by
  refine ti_eI yp_X10_howMany hJ ti_LM_nd (Nat.le_of_ble_eq_true rfl) ?_
  intro p e s m args below meth c Q H0 C hQ hw ls hl
  have hx := C.1
  have hb := C.2.1
  have hl : lv_has ls 5 [(0, .ref (A 60 0)), (1, .int 0), (2, .int a)] := hl
  have t4 : tx 4 = (tY M 60 3 0).toInt := htr.1.1
  refine lv_iconst (v := 0) hx hb dX10_howMany_0 (by decide) ?_
  refine lv_istore_n (lv' := [(3, .int 0), (0, .ref (A 60 0)), (1, .int 0), (2, .int a)]) hx hb dX10_howMany_1 rfl hl (by decide) rfl (fun ls hl => ?_)
  refine lv_iconst (v := 0) hx hb dX10_howMany_2 (by decide) ?_
  refine lv_istore (lv' := [(4, .int 0), (3, .int 0), (0, .ref (A 60 0)), (1, .int 0), (2, .int a)]) hx hb dX10_howMany_3 hl (by decide) rfl (fun ls hl => ?_)
  have hl_5_9 : ∀ (n_10 : Nat) (x_1 : Int32) (x_4 : Int32) (H : Heap) (locs : List Loc) (ls : Array Slot), (8 - x_1.toInt : Int).toNat < n_10 → (0 ≤ x_1.toInt) → (x_1.toInt ≤ 8) → (0 ≤ x_4.toInt) → (x_4.toInt ≤ 8) → (x_4.toInt ≤ x_1.toInt) → (x_4.toInt = bq_hm rg a.toInt (x_1.toInt).toNat) → (x_1.toInt ≤ tx 4) → ti_H ti_LM D A cy H0 M H locs → lv_has ls 5 [(4, .int x_1), (3, .int x_4), (0, .ref (A 60 0)), (1, .int 0), (2, .int a)] → W p l e (ti_rm 0) s m args below meth c H locs 0 0 Q (F0 m 5 ls []) := by
    intro n_10
    induction n_10 with
    | zero => intro x_1 x_4 H locs ls hf_10; exact absurd hf_10 (Nat.not_lt_zero _)
    | succ n_10 ih_10 =>
      intro x_1 x_4 H locs ls hf_10 b_2 b_3 b_5 b_6 j_7 j_8 j_9 hw hl
      refine lv_iload hx hb dX10_howMany_5 (lv_at hl 0 rfl) ?_
      refine lv_aload_n hx hb dX10_howMany_7 rfl (lv_at hl 2 rfl) ?_
      refine ti_get (ci := 10) (k := 3) (N := 67) (T := TX10) (v := .ref (A 60 4)) C hw iw_10 rfl ob_60 (by decide) (by decide) fl_X10_13 rfl rfl dX10_howMany_8 ?_
      refine lv_iconst (v := 0) hx hb dX10_howMany_11 (by decide) ?_
      refine ti_iald (ci := 10) (k := 3) (n := 22) C hw ob_60 (by decide) (fun _ _ => rfl) (by unfold vp_in; decide) dX10_howMany_12 ?_
      refine lv_topi (fun x_11 ex_11 => ?_)
      have yx_11 : tY M 60 3 0 = x_11 := ((congrArg _ (by decide)).symm.trans ex_11.symm)
      have bx_11 : 0 ≤ x_11.toInt ∧ x_11.toInt ≤ 8 := mI_rn (i := 0) hI yx_11.symm (fun _ h => h)
      have zx_11 : (tY M 60 3 0).toInt = x_11.toInt := by rw [yx_11]
      have L_12 : tx 4 = x_11.toInt := (htr.1.1).trans ((congrArg Int32.toInt (cg rfl 0)).symm.trans (congrArg Int32.toInt (yx_11)))
      refine sb_icmp_ge (tgt := 46) hx hb rfl rfl dX10_howMany_13 (by decide) (fun c_13_12 => ?_) (fun c_13_12 => ?_)
      · refine lv_iload_n hx hb dX10_howMany_46 rfl (lv_at hl 1 rfl) ?_
        exact hQ _ _ _ _ _ _ hw rfl (⟨rfl, by rw [show (tx 4).toNat = (x_1.toInt).toNat by omega]; exact j_8⟩) dX10_howMany_47
      · refine lv_iload_n hx hb dX10_howMany_16 rfl (lv_at hl 1 rfl) ?_
        refine lv_aload_n hx hb dX10_howMany_17 rfl (lv_at hl 2 rfl) ?_
        refine ti_get (ci := 10) (k := 40) (N := 67) (T := TX10) (v := .ref (A 60 41)) C hw iw_10 rfl ob_60 (by decide) (by decide) fl_X10_87 rfl rfl dX10_howMany_18 ?_
        refine lv_bipush (v := 8) hx hb dX10_howMany_21 (by decide) ?_
        refine lv_iload_n hx hb dX10_howMany_23 rfl (lv_at hl 3 rfl) ?_
        refine lv_imul hx hb dX10_howMany_24 ?_
        refine ti_top (y := 0) (by decide) ?_
        refine lv_iload hx hb dX10_howMany_25 (lv_at hl 0 rfl) ?_
        refine lv_iadd hx hb dX10_howMany_27 ?_
        refine lv_topi (fun x_14 ex_14 => ?_)
        have tx_14 : x_14.toInt = 0 + x_1.toInt := i_add ex_14 (by decide : (0 : Int32).toInt = 0) rfl (by omega) (by omega)
        refine ti_iald (ci := 10) (k := 40) (n := 184) C hw ob_60 (by decide) (fun _ _ => rfl) (vp_in_iff.mpr (by omega)) dX10_howMany_28 ?_
        refine lv_topi (fun x_15 ex_15 => ?_)
        have yx_15 : tY M 60 40 x_14.toNatClampNeg = x_15 := (ex_15.symm)
        have zx_15 : (tY M 60 40 x_14.toNatClampNeg).toInt = x_15.toInt := by rw [yx_15]
        have L_16 : rg (128 + x_1.toInt.toNat) = x_15.toInt := ((hr.2.2.2.1 (x_1.toInt.toNat) (by omega)).1).trans (rd_k (n := 8 * 0 + x_1.toInt.toNat) (by omega) (yx_15))
        refine lv_iload_n hx hb dX10_howMany_29 rfl (lv_at hl 4 rfl) ?_
        refine sb_icmp_ne (tgt := 37) hx hb rfl rfl dX10_howMany_30 (by decide) (fun c_30_16 => ?_) (fun c_30_16 => ?_)
        · refine lv_iconst (v := 0) hx hb dX10_howMany_37 (by decide) ?_
          refine lv_iadd hx hb dX10_howMany_38 ?_
          refine lv_topi (fun x_20 ex_20 => ?_)
          have tx_20 : x_20.toInt = x_4.toInt + 0 := i_add ex_20 rfl (by decide : (0 : Int32).toInt = 0) (by omega) (by omega)
          refine lv_istore_n (lv' := [(3, .int x_20), (4, .int x_1), (0, .ref (A 60 0)), (1, .int 0), (2, .int a)]) hx hb dX10_howMany_39 rfl hl (by decide) rfl (fun ls hl => ?_)
          obtain ⟨x_21, ex_21⟩ : ∃ z : Int32, z = x_1 + 1 := ⟨_, rfl⟩
          have tx_21 : x_21.toInt = x_1.toInt + 1 := i_add ex_21 rfl (by decide) (by omega) (by omega)
          refine lv_iinc (v := x_21) (lv' := [(4, .int x_21), (3, .int x_20), (0, .ref (A 60 0)), (1, .int 0), (2, .int a)]) hx hb dX10_howMany_40 hl (k := 1) rfl (by rw [ex_21]; rfl) (by decide) rfl (fun ls hl => ?_)
          refine lv_goto (tgt := 5) hx hb dX10_howMany_43 (by decide) ?_
          exact ih_10 x_21 x_20 _ _ _ (by omega) (by first | omega | decide) (by first | omega | decide) (by first | omega | decide) (by first | omega | decide) (by first | omega | decide) (hm_s j_8 (by omega) L_16 (by omega)) (by first | omega | decide) hw (lv_sub hl [0, 1, 2, 3, 4] rfl)
        · refine lv_iconst (v := 1) hx hb dX10_howMany_33 (by decide) ?_
          refine lv_goto (tgt := 38) hx hb dX10_howMany_34 (by decide) ?_
          refine lv_iadd hx hb dX10_howMany_38 ?_
          refine lv_topi (fun x_18 ex_18 => ?_)
          have tx_18 : x_18.toInt = x_4.toInt + 1 := i_add ex_18 rfl (by decide : (1 : Int32).toInt = 1) (by omega) (by omega)
          refine lv_istore_n (lv' := [(3, .int x_18), (4, .int x_1), (0, .ref (A 60 0)), (1, .int 0), (2, .int a)]) hx hb dX10_howMany_39 rfl hl (by decide) rfl (fun ls hl => ?_)
          obtain ⟨x_19, ex_19⟩ : ∃ z : Int32, z = x_1 + 1 := ⟨_, rfl⟩
          have tx_19 : x_19.toInt = x_1.toInt + 1 := i_add ex_19 rfl (by decide) (by omega) (by omega)
          refine lv_iinc (v := x_19) (lv' := [(4, .int x_19), (3, .int x_18), (0, .ref (A 60 0)), (1, .int 0), (2, .int a)]) hx hb dX10_howMany_40 hl (k := 1) rfl (by rw [ex_19]; rfl) (by decide) rfl (fun ls hl => ?_)
          refine lv_goto (tgt := 5) hx hb dX10_howMany_43 (by decide) ?_
          exact ih_10 x_19 x_18 _ _ _ (by omega) (by first | omega | decide) (by first | omega | decide) (by first | omega | decide) (by first | omega | decide) (by first | omega | decide) (hm_s j_8 (by omega) L_16 (by omega)) (by first | omega | decide) hw (lv_sub hl [0, 1, 2, 3, 4] rfl)
  exact hl_5_9 ((8 - 0 : Int).toNat + 1) 0 0 _ _ _ (Nat.lt_succ_self _) (by have lt0 : (0 : Int32).toInt = 0 := (by decide); first | omega | decide) (by have lt0 : (0 : Int32).toInt = 0 := (by decide); first | omega | decide) (by have lt0 : (0 : Int32).toInt = 0 := (by decide); first | omega | decide) (by have lt0 : (0 : Int32).toInt = 0 := (by decide); first | omega | decide) (by have lt0 : (0 : Int32).toInt = 0 := (by decide); first | omega | decide) (by rw [show ((0 : Int32).toInt).toNat = 0 by decide]; exact (by decide : (0 : Int32).toInt = 0)) (by have lt0 : (0 : Int32).toInt = 0 := (by decide); first | omega | decide) hw (lv_sub hl [0, 1, 2, 3, 4] rfl)
set_option maxHeartbeats 4000000 in
set_option maxRecDepth 100000 in
theorem z_X10_servedMany_0 (l : Launch) (D : va_G) (A : Nat → Nat → Nat) (cy : Nat → ClassId) (hJ : ti_inj ti_LM A) (M : ti_M) (hI : mI Tm M)  (tx rg : Nat → Int) (htr : tR tx M) (ht4 : 0 ≤ tx 4 ∧ tx 4 ≤ 8) (hr : qR (tx 4).toNat 0 rg M) : ti_Ki l yX10_servedMany cX10_servedMany 2 (some .int) 1 ti_LM D A cy M [.ref (A 60 0), .int 0] (fun r M2 => M2 = M ∧ r.toInt = bq_hm rg 2 (tx 4).toNat) := by
  refine ti_eI yp_X10_servedMany hJ ti_LM_nd (Nat.le_of_ble_eq_true rfl) ?_
  intro p e s m args below meth c Q H0 C hQ hw ls hl
  have hx := C.1
  have hb := C.2.1
  have hl : lv_has ls 2 [(0, .ref (A 60 0)), (1, .int 0)] := hl
  refine lv_aload_n hx hb dX10_servedMany_0 rfl (lv_at hl 0 rfl) ?_
  refine lv_iload_n hx hb dX10_servedMany_1 rfl (lv_at hl 1 rfl) ?_
  refine lv_iconst (v := 2) hx hb dX10_servedMany_2 (by decide) ?_
  refine ti_callVi (ci := 10) (av := [.int 0, .int 2]) C hw (z_X10_howMany_0 l D A cy hJ M hI 2 tx rg htr ht4 hr) ⟨ml_X10_494, ym_X10_howMany, yv_X10_howMany, yi_X10_howMany, yc_X10_howMany⟩ yd_X10_howMany ob_60 (by decide) rfl rfl hl.1 (Nat.le_of_ble_eq_true rfl) ⟨by decide, by decide⟩ ⟨Nat.zero_le _, Nat.zero_le _⟩ dX10_servedMany_3 (fun r_1 M_2 H locs hp_2 hw => ?_)
  obtain ⟨hm, pr_1⟩ := hp_2
  have hw := hw.to hm
  try simp only [show (0 : Int32).toInt = 0 by decide] at pr_1
  try simp only [show (2 : Int32).toInt = 2 by decide] at pr_1
  exact hQ _ _ _ _ _ _ hw rfl (⟨rfl, pr_1⟩) dX10_servedMany_6
set_option maxHeartbeats 4000000 in
set_option maxRecDepth 100000 in
theorem z_X10_knownMany (l : Launch) (D : va_G) (A : Nat → Nat → Nat) (cy : Nat → ClassId) (hJ : ti_inj ti_LM A) (M : ti_M) (hI : mI Tm M)  : ti_Ki l yX10_knownMany cX10_knownMany 1 (some .int) 0 ti_LM D A cy M [.ref (A 60 0)] (fun r M2 => M2 = M ∧ r.toInt = if (tI M 60 59).toInt = -1 then (tI M 60 58).toInt else (tI M 60 59).toInt) := by
  refine ti_eI yp_X10_knownMany hJ ti_LM_nd (Nat.le_of_ble_eq_true rfl) ?_
  intro p e s m args below meth c Q H0 C hQ hw ls hl
  have hx := C.1
  have hb := C.2.1
  have hl : lv_has ls 1 [(0, .ref (A 60 0))] := hl
  refine lv_aload_n hx hb dX10_knownMany_0 rfl (lv_at hl 0 rfl) ?_
  refine ti_get (ci := 10) (k := 59) (N := 67) (T := TX10) C hw iw_10 rfl ob_60 (by decide) (by decide) fl_X10_132 rfl rfl dX10_knownMany_1 ?_
  refine lv_topi (fun x_1 ex_1 => ?_)
  have bx_1 : (-1) ≤ x_1.toInt ∧ x_1.toInt ≤ 24 := mI_rd hI ex_1
  have ux_1 : (tI M 60 59).toInt = x_1.toInt := by rw [ex_1]
  refine lv_iconst (v := (-1)) hx hb dX10_knownMany_4 (by decide) ?_
  refine sb_icmp_ne (tgt := 15) hx hb rfl (by decide : ((-1) : Int32).toInt = (-1)) dX10_knownMany_5 (by decide) (fun c_5_1 => ?_) (fun c_5_1 => ?_)
  · refine lv_aload_n hx hb dX10_knownMany_15 rfl (lv_at hl 0 rfl) ?_
    refine ti_get (ci := 10) (k := 59) (N := 67) (T := TX10) C hw iw_10 rfl ob_60 (by decide) (by decide) fl_X10_132 rfl rfl dX10_knownMany_16 ?_
    refine ti_top (y := x_1) (ex_1.symm) ?_
    have u_4 : (tI M 60 59).toInt = (x_1 : Int32).toInt := by rw [(ex_1.symm)]
    exact hQ _ _ _ _ _ _ hw rfl (⟨rfl, by first | (rw [if_pos (by omega)]; omega) | (rw [if_neg (by omega)]; omega)⟩) dX10_knownMany_19
  · refine lv_aload_n hx hb dX10_knownMany_8 rfl (lv_at hl 0 rfl) ?_
    refine ti_get (ci := 10) (k := 58) (N := 67) (T := TX10) C hw iw_10 rfl ob_60 (by decide) (by decide) fl_X10_310 rfl rfl dX10_knownMany_9 ?_
    refine lv_topi (fun x_3 ex_3 => ?_)
    have bx_3 : 0 ≤ x_3.toInt ∧ x_3.toInt ≤ 24 := mI_rd hI ex_3
    have ux_3 : (tI M 60 58).toInt = x_3.toInt := by rw [ex_3]
    refine lv_goto (tgt := 19) hx hb dX10_knownMany_12 (by decide) ?_
    exact hQ _ _ _ _ _ _ hw rfl (⟨rfl, by first | (rw [if_pos (by omega)]; omega) | (rw [if_neg (by omega)]; omega)⟩) dX10_knownMany_19
set_option maxHeartbeats 4000000 in
set_option maxRecDepth 100000 in
theorem z_X10_count (l : Launch) (D : va_G) (A : Nat → Nat → Nat) (cy : Nat → ClassId) (hJ : ti_inj ti_LM A) (M : ti_M) (hI : mI Tm M) (hF : mF Tm M) (z1 : Int32) (tx rg lp : Nat → Int) (ug : Nat → Nat → Int) (cu : Int) (ht4 : 0 ≤ tx 4 ∧ tx 4 ≤ 8) (htW : tW tx) (hwf : wF tx rg) (h1r : rg 1 = 0) (hk : kR tx rg ug cu lp M) (hK9 : ∀ m : Nat, m < 8 → tx 4 ≤ (m : Int) → rg (256 + m) = 0) : ti_Ki l yX10_count cX10_count 4 (some .int) 2 ti_LM D A cy M [.ref (A 60 0), .int z1] (fun r M2 => r.toInt = bq_co tx rg cu (tI M 60 58).toInt (tI M 60 59).toInt z1.toInt ∧ kR tx rg ug cu lp M2 ∧ iR M2 M ∧ mF Tm M2 ∧ tI M2 60 2 = tI M 60 2 ∧ lw M2 M) := by
  refine ti_eI yp_X10_count hJ ti_LM_nd (Nat.le_of_ble_eq_true rfl) ?_
  intro p e s m args below meth c Q H0 C hQ hw ls hl
  have hx := C.1
  have hb := C.2.1
  have hl : lv_has ls 4 [(0, .ref (A 60 0)), (1, .int z1)] := hl
  have hL : mL M := hF.2.1
  have hC0 : mC M 0 := hF.2.2.1.1
  have hP0 : mP M 0 := hF.2.2.1.2
  obtain ⟨htr, hr, hV, hu, hp0, htw⟩ := id hk
  have t4 : tx 4 = (tY M 60 3 0).toInt := htr.1.1
  have w83 := wF_8 hwf
  have q3r : rg 3 = (tY M 60 38 0).toInt := hr.1.2.1
  refine lv_aload_n hx hb dX10_count_0 rfl (lv_at hl 0 rfl) ?_
  refine lv_iconst (v := 0) hx hb dX10_count_1 (by decide) ?_
  refine ti_putI (ci := 10) (k := 0) (N := 67) (T := TX10) C hw iw_10 tyX10 tyX10_ok nmX10 rfl ob_60 (by decide) (by decide) fl_X10_154 rfl rfl rfl rfl (fn_10 A _) fs_10_0 dX10_count_2 (fun H locs hw => ?_)
  obtain ⟨M, h0⟩ : ∃ z : ti_M, z = uI M 60 0 0 := ⟨_, rfl⟩
  have hw := hw.to h0.symm
  have hI : mI Tm M := mI_uI hI h0 (by decide) (by decide) trivial
  have hF : mF Tm M := mF_qw hF hI (qw_I h0 (by decide))
  have ir0 := iR_0 h0
  have e2r := tI_nE (k2 := 2) (o2 := 60) h0 (nk (by decide))
  have e51r := tI_nE (k2 := 51) (o2 := 60) h0 (nk (by decide))
  have lwr : lw M _ := fun _ _ _ => tY_uIE h0
  have hk := kR_0 hk h0
  obtain ⟨htr, hr, hV, hu, hp0, htw⟩ := id hk
  have t4 : tx 4 = (tY M 60 3 0).toInt := htr.1.1
  have w83 := wF_8 hwf
  have q3r : rg 3 = (tY M 60 38 0).toInt := hr.1.2.1
  have G0 : ∀ m : Nat, m < 8 → rg (256 + m) = pp_bt (tY M 60 37 0) m := by have g := hr.2.2.2.2.2; rwa [if_pos h1r] at g
  have e58r := tI_nE (k2 := 58) (o2 := 60) h0 (nk (by decide))
  have e59r := tI_nE (k2 := 59) (o2 := 60) h0 (nk (by decide))
  refine lv_iconst (v := 0) hx hb dX10_count_5 (by decide) ?_
  refine lv_istore_n (lv' := [(2, .int 0), (0, .ref (A 60 0)), (1, .int z1)]) hx hb dX10_count_6 rfl hl (by decide) rfl (fun ls hl => ?_)
  refine lv_iload_n hx hb dX10_count_7 rfl (lv_at hl 2 rfl) ?_
  by_cases s_1_0 : z1 = 0
  · refine lv_tableIn (tgt := 84) (off := 76) hx hb dX10_count_8 (by rw [s_1_0]; decide) (by rw [s_1_0]; decide) (by rw [s_1_0]; decide) (by decide) ?_
    refine lv_aload_n hx hb dX10_count_84 rfl (lv_at hl 1 rfl) ?_
    refine ti_get (ci := 10) (k := 3) (N := 67) (T := TX10) (v := .ref (A 60 4)) C hw iw_10 rfl ob_60 (by decide) (by decide) fl_X10_13 rfl rfl dX10_count_85 ?_
    refine lv_iconst (v := 0) hx hb dX10_count_88 (by decide) ?_
    refine ti_iald (ci := 10) (k := 3) (n := 22) C hw ob_60 (by decide) (fun _ _ => rfl) (by unfold vp_in; decide) dX10_count_89 ?_
    refine lv_topi (fun x_2 ex_2 => ?_)
    have yx_2 : tY M 60 3 0 = x_2 := ((congrArg _ (by decide)).symm.trans ex_2.symm)
    have bx_2 : 0 ≤ x_2.toInt ∧ x_2.toInt ≤ 8 := mI_rn (i := 0) hI yx_2.symm (fun _ h => h)
    have zx_2 : (tY M 60 3 0).toInt = x_2.toInt := by rw [yx_2]
    have L_3 : tx 4 = x_2.toInt := (htr.1.1).trans ((congrArg Int32.toInt (cg rfl 0)).symm.trans (congrArg Int32.toInt (yx_2)))
    have zv : z1.toInt = 0 := by rw [s_1_0]; decide
    exact hQ _ _ _ _ _ _ hw rfl (⟨by unfold bq_co; rw [zv, if_pos rfl]; omega, hk, (iR_eR eR.refl).trans ir0, hF, (rfl).trans e2r, lw_t (fun _ _ _ => rfl) lwr⟩) dX10_count_90
  · by_cases s_1_1 : z1 = 1
    · refine lv_tableIn (tgt := 91) (off := 83) hx hb dX10_count_8 (by rw [s_1_1]; decide) (by rw [s_1_1]; decide) (by rw [s_1_1]; decide) (by decide) ?_
      refine lv_aload_n hx hb dX10_count_91 rfl (lv_at hl 1 rfl) ?_
      refine ti_get (ci := 10) (k := 3) (N := 67) (T := TX10) (v := .ref (A 60 4)) C hw iw_10 rfl ob_60 (by decide) (by decide) fl_X10_13 rfl rfl dX10_count_92 ?_
      refine lv_bipush (v := 7) hx hb dX10_count_95 (by decide) ?_
      refine ti_iald (ci := 10) (k := 3) (n := 22) C hw ob_60 (by decide) (fun _ _ => rfl) (by unfold vp_in; decide) dX10_count_97 ?_
      refine lv_topi (fun x_4 ex_4 => ?_)
      have yx_4 : tY M 60 3 7 = x_4 := ((congrArg _ (by decide)).symm.trans ex_4.symm)
      have bx_4 : 0 ≤ x_4.toInt ∧ x_4.toInt ≤ 64 := mI_rn (i := 7) hI yx_4.symm (fun _ h => h)
      have zx_4 : (tY M 60 3 7).toInt = x_4.toInt := by rw [yx_4]
      have L_5 : tx 5 = x_4.toInt := (htr.1.2.2.2.2.2.2.2).trans ((congrArg Int32.toInt (cg rfl 7)).symm.trans (congrArg Int32.toInt (yx_4)))
      have zv : z1.toInt = 1 := by rw [s_1_1]; decide
      exact hQ _ _ _ _ _ _ hw rfl (⟨by unfold bq_co; rw [zv, if_neg (by decide), if_pos rfl]; omega, hk, (iR_eR eR.refl).trans ir0, hF, (rfl).trans e2r, lw_t (fun _ _ _ => rfl) lwr⟩) dX10_count_98
    · by_cases s_1_2 : z1 = 2
      · refine lv_tableIn (tgt := 99) (off := 91) hx hb dX10_count_8 (by rw [s_1_2]; decide) (by rw [s_1_2]; decide) (by rw [s_1_2]; decide) (by decide) ?_
        refine lv_aload_n hx hb dX10_count_99 rfl (lv_at hl 1 rfl) ?_
        refine ti_get (ci := 10) (k := 34) (N := 67) (T := TX10) (v := .ref (A 60 35)) C hw iw_10 rfl ob_60 (by decide) (by decide) fl_X10_69 rfl rfl dX10_count_100 ?_
        refine lv_iconst (v := 0) hx hb dX10_count_103 (by decide) ?_
        refine ti_iald (ci := 10) (k := 34) (n := 23) C hw ob_60 (by decide) (fun _ _ => rfl) (by unfold vp_in; decide) dX10_count_104 ?_
        refine lv_topi (fun x_6 ex_6 => ?_)
        have yx_6 : tY M 60 34 0 = x_6 := ((congrArg _ (by decide)).symm.trans ex_6.symm)
        have bx_6 : 0 ≤ x_6.toInt ∧ x_6.toInt ≤ 120 := mI_ry (k := 34) (i := 0) hI yx_6.symm (by decide)
        have zx_6 : (tY M 60 34 0).toInt = x_6.toInt := by rw [yx_6]
        have L_7 : rg 2 = x_6.toInt := (hr.1.1).trans (congrArg Int32.toInt (yx_6))
        have zv : z1.toInt = 2 := by rw [s_1_2]; decide
        exact hQ _ _ _ _ _ _ hw rfl (⟨by unfold bq_co; rw [zv, if_neg (by decide), if_neg (by decide), if_pos rfl]; omega, hk, (iR_eR eR.refl).trans ir0, hF, (rfl).trans e2r, lw_t (fun _ _ _ => rfl) lwr⟩) dX10_count_105
      · by_cases s_1_3 : z1 = 3
        · refine lv_tableIn (tgt := 106) (off := 98) hx hb dX10_count_8 (by rw [s_1_3]; decide) (by rw [s_1_3]; decide) (by rw [s_1_3]; decide) (by decide) ?_
          refine lv_aload_n hx hb dX10_count_106 rfl (lv_at hl 1 rfl) ?_
          refine ti_get (ci := 10) (k := 38) (N := 67) (T := TX10) (v := .ref (A 60 39)) C hw iw_10 rfl ob_60 (by decide) (by decide) fl_X10_81 rfl rfl dX10_count_107 ?_
          refine lv_iconst (v := 0) hx hb dX10_count_110 (by decide) ?_
          refine ti_iald (ci := 10) (k := 38) (n := 23) C hw ob_60 (by decide) (fun _ _ => rfl) (by unfold vp_in; decide) dX10_count_111 ?_
          refine lv_topi (fun x_8 ex_8 => ?_)
          have yx_8 : tY M 60 38 0 = x_8 := ((congrArg _ (by decide)).symm.trans ex_8.symm)
          have bx_8 : 0 ≤ x_8.toInt ∧ x_8.toInt ≤ 8 := mI_ry (k := 38) (i := 0) hI yx_8.symm
          have zx_8 : (tY M 60 38 0).toInt = x_8.toInt := by rw [yx_8]
          have L_9 : rg 3 = x_8.toInt := (hr.1.2.1).trans (congrArg Int32.toInt (yx_8))
          have zv : z1.toInt = 3 := by rw [s_1_3]; decide
          exact hQ _ _ _ _ _ _ hw rfl (⟨by unfold bq_co; rw [zv, if_neg (by decide), if_neg (by decide), if_neg (by decide), if_pos rfl]; omega, hk, (iR_eR eR.refl).trans ir0, hF, (rfl).trans e2r, lw_t (fun _ _ _ => rfl) lwr⟩) dX10_count_112
        · by_cases s_1_4 : z1 = 4
          · refine lv_tableIn (tgt := 113) (off := 105) hx hb dX10_count_8 (by rw [s_1_4]; decide) (by rw [s_1_4]; decide) (by rw [s_1_4]; decide) (by decide) ?_
            refine lv_aload_n hx hb dX10_count_113 rfl (lv_at hl 1 rfl) ?_
            refine lv_iconst (v := 0) hx hb dX10_count_114 (by decide) ?_
            refine ti_callVi (ci := 10) (av := [.int 0]) C hw (z_X10_servedMany_0 l D A cy hJ M hI tx rg htr ht4 hr) ⟨ml_X10_491, ym_X10_servedMany, yv_X10_servedMany, yi_X10_servedMany, yc_X10_servedMany⟩ yd_X10_servedMany ob_60 (by decide) rfl rfl hl.1 (Nat.le_of_ble_eq_true rfl) ⟨by decide, by decide⟩ ⟨Nat.zero_le _, Nat.zero_le _⟩ dX10_count_115 (fun r_10 M_11 H locs hp_11 hw => ?_)
            obtain ⟨hm, pr_10⟩ := hp_11
            have hw := hw.to hm
            try simp only [show (0 : Int32).toInt = 0 by decide] at pr_10
            have zv : z1.toInt = 4 := by rw [s_1_4]; decide
            exact hQ _ _ _ _ _ _ hw rfl (⟨by unfold bq_co; rw [zv, if_neg (by decide), if_neg (by decide), if_neg (by decide), if_neg (by decide), if_pos rfl]; exact pr_10, hk, (iR_eR eR.refl).trans ir0, hF, (rfl).trans e2r, lw_t (fun _ _ _ => rfl) lwr⟩) dX10_count_118
          · by_cases s_1_5 : z1 = 5
            · refine lv_tableIn (tgt := 119) (off := 111) hx hb dX10_count_8 (by rw [s_1_5]; decide) (by rw [s_1_5]; decide) (by rw [s_1_5]; decide) (by decide) ?_
              refine lv_aload_n hx hb dX10_count_119 rfl (lv_at hl 1 rfl) ?_
              refine lv_iconst (v := 0) hx hb dX10_count_120 (by decide) ?_
              refine lv_iconst (v := 3) hx hb dX10_count_121 (by decide) ?_
              refine ti_callVi (ci := 10) (av := [.int 0, .int 3]) C hw (z_X10_howMany_0 l D A cy hJ M hI 3 tx rg htr ht4 hr) ⟨ml_X10_494, ym_X10_howMany, yv_X10_howMany, yi_X10_howMany, yc_X10_howMany⟩ yd_X10_howMany ob_60 (by decide) rfl rfl hl.1 (Nat.le_of_ble_eq_true rfl) ⟨by decide, by decide⟩ ⟨Nat.zero_le _, Nat.zero_le _⟩ dX10_count_122 (fun r_12 M_13 H locs hp_13 hw => ?_)
              obtain ⟨hm, pr_12⟩ := hp_13
              have hw := hw.to hm
              try simp only [show (0 : Int32).toInt = 0 by decide] at pr_12
              try simp only [show (3 : Int32).toInt = 3 by decide] at pr_12
              have zv : z1.toInt = 5 := by rw [s_1_5]; decide
              exact hQ _ _ _ _ _ _ hw rfl (⟨by unfold bq_co; rw [zv, if_neg (by decide), if_neg (by decide), if_neg (by decide), if_neg (by decide), if_neg (by decide), if_pos rfl]; exact pr_12, hk, (iR_eR eR.refl).trans ir0, hF, (rfl).trans e2r, lw_t (fun _ _ _ => rfl) lwr⟩) dX10_count_125
            · by_cases s_1_6 : z1 = 6
              · refine lv_tableIn (tgt := 126) (off := 118) hx hb dX10_count_8 (by rw [s_1_6]; decide) (by rw [s_1_6]; decide) (by rw [s_1_6]; decide) (by decide) ?_
                refine lv_aload_n hx hb dX10_count_126 rfl (lv_at hl 1 rfl) ?_
                refine ti_get (ci := 10) (k := 35) (N := 67) (T := TX10) (v := .ref (A 60 36)) C hw iw_10 rfl ob_60 (by decide) (by decide) fl_X10_72 rfl rfl dX10_count_127 ?_
                refine lv_iconst (v := 0) hx hb dX10_count_130 (by decide) ?_
                refine ti_iald (ci := 10) (k := 35) (n := 23) C hw ob_60 (by decide) (fun _ _ => rfl) (by unfold vp_in; decide) dX10_count_131 ?_
                refine lv_topi (fun x_14 ex_14 => ?_)
                have yx_14 : tY M 60 35 0 = x_14 := ((congrArg _ (by decide)).symm.trans ex_14.symm)
                have L_15 : rg 4 = x_14.toInt := (hr.1.2.2.1).trans (congrArg Int32.toInt (yx_14))
                have zv : z1.toInt = 6 := by rw [s_1_6]; decide
                exact hQ _ _ _ _ _ _ hw rfl (⟨by unfold bq_co; rw [zv, if_neg (by decide), if_neg (by decide), if_neg (by decide), if_neg (by decide), if_neg (by decide), if_neg (by decide), if_pos rfl]; omega, hk, (iR_eR eR.refl).trans ir0, hF, (rfl).trans e2r, lw_t (fun _ _ _ => rfl) lwr⟩) dX10_count_132
              · by_cases s_1_7 : z1 = 7
                · refine lv_tableIn (tgt := 133) (off := 125) hx hb dX10_count_8 (by rw [s_1_7]; decide) (by rw [s_1_7]; decide) (by rw [s_1_7]; decide) (by decide) ?_
                  refine lv_iconst (v := 0) hx hb dX10_count_133 (by decide) ?_
                  refine lv_istore_n (lv' := [(3, .int 0), (2, .int 0), (0, .ref (A 60 0)), (1, .int z1)]) hx hb dX10_count_134 rfl hl (by decide) rfl (fun ls hl => ?_)
                  have hl_135_21 : ∀ (n_22 : Nat) (x_16 : Int32) (x_19 : Int32) (H : Heap) (locs : List Loc) (ls : Array Slot), (8 - x_16.toInt : Int).toNat < n_22 → (0 ≤ x_16.toInt) → (x_16.toInt ≤ 8) → (x_19.toInt = bq_ss 192 rg (x_16.toInt).toNat) → (x_16.toInt ≤ tx 4) → ti_H ti_LM D A cy H0 M H locs → lv_has ls 4 [(3, .int x_16), (2, .int x_19), (0, .ref (A 60 0)), (1, .int z1)] → W p l e (ti_rm 2) s m args below meth c H locs 0 0 Q (F0 m 135 ls []) := by
                    intro n_22
                    induction n_22 with
                    | zero => intro x_16 x_19 H locs ls hf_22; exact absurd hf_22 (Nat.not_lt_zero _)
                    | succ n_22 ih_22 =>
                      intro x_16 x_19 H locs ls hf_22 b_17 b_18 j_20 j_21 hw hl
                      refine lv_iload_n hx hb dX10_count_135 rfl (lv_at hl 0 rfl) ?_
                      refine lv_aload_n hx hb dX10_count_136 rfl (lv_at hl 2 rfl) ?_
                      refine ti_get (ci := 10) (k := 3) (N := 67) (T := TX10) (v := .ref (A 60 4)) C hw iw_10 rfl ob_60 (by decide) (by decide) fl_X10_13 rfl rfl dX10_count_137 ?_
                      refine lv_iconst (v := 0) hx hb dX10_count_140 (by decide) ?_
                      refine ti_iald (ci := 10) (k := 3) (n := 22) C hw ob_60 (by decide) (fun _ _ => rfl) (by unfold vp_in; decide) dX10_count_141 ?_
                      refine lv_topi (fun x_23 ex_23 => ?_)
                      have yx_23 : tY M 60 3 0 = x_23 := ((congrArg _ (by decide)).symm.trans ex_23.symm)
                      have bx_23 : 0 ≤ x_23.toInt ∧ x_23.toInt ≤ 8 := mI_rn (i := 0) hI yx_23.symm (fun _ h => h)
                      have zx_23 : (tY M 60 3 0).toInt = x_23.toInt := by rw [yx_23]
                      have L_24 : tx 4 = x_23.toInt := (htr.1.1).trans ((congrArg Int32.toInt (cg rfl 0)).symm.trans (congrArg Int32.toInt (yx_23)))
                      refine sb_icmp_ge (tgt := 160) hx hb rfl rfl dX10_count_142 (by decide) (fun c_142_24 => ?_) (fun c_142_24 => ?_)
                      · refine lv_iload_n hx hb dX10_count_160 rfl (lv_at hl 1 rfl) ?_
                        have zv : z1.toInt = 7 := by rw [s_1_7]; decide
                        exact hQ _ _ _ _ _ _ hw rfl (⟨by unfold bq_co; rw [zv, if_neg (by decide), if_neg (by decide), if_neg (by decide), if_neg (by decide), if_neg (by decide), if_neg (by decide), if_neg (by decide), if_pos rfl]; rw [show (tx 4).toNat = (x_16.toInt).toNat by omega]; exact j_20, hk, (iR_eR eR.refl).trans ir0, hF, (rfl).trans e2r, lw_t (fun _ _ _ => rfl) lwr⟩) dX10_count_161
                      · refine lv_iload_n hx hb dX10_count_145 rfl (lv_at hl 1 rfl) ?_
                        refine lv_aload_n hx hb dX10_count_146 rfl (lv_at hl 2 rfl) ?_
                        refine ti_get (ci := 10) (k := 43) (N := 67) (T := TX10) (v := .ref (A 60 44)) C hw iw_10 rfl ob_60 (by decide) (by decide) fl_X10_96 rfl rfl dX10_count_147 ?_
                        refine lv_iload_n hx hb dX10_count_150 rfl (lv_at hl 0 rfl) ?_
                        refine ti_iald (ci := 10) (k := 43) (n := 184) C hw ob_60 (by decide) (fun _ _ => rfl) (vp_in_iff.mpr (by omega)) dX10_count_151 ?_
                        refine lv_topi (fun x_26 ex_26 => ?_)
                        have yx_26 : tY M 60 43 x_16.toNatClampNeg = x_26 := (ex_26.symm)
                        have L_27 : rg (192 + x_16.toInt.toNat) = x_26.toInt := ((hr.2.2.2.1 (x_16.toInt.toNat) (by omega)).2.2.2.2.1).trans (rd_k (n := 8 * 0 + x_16.toInt.toNat) (by omega) (yx_26))
                        refine lv_iadd hx hb dX10_count_152 ?_
                        refine lv_topi (fun x_28 ex_28 => ?_)
                        have tx_28 : x_28.toInt = bw (x_19.toInt + x_26.toInt) := bw_add ex_28 rfl rfl
                        refine lv_istore_n (lv' := [(2, .int x_28), (3, .int x_16), (0, .ref (A 60 0)), (1, .int z1)]) hx hb dX10_count_153 rfl hl (by decide) rfl (fun ls hl => ?_)
                        obtain ⟨x_29, ex_29⟩ : ∃ z : Int32, z = x_16 + 1 := ⟨_, rfl⟩
                        have tx_29 : x_29.toInt = x_16.toInt + 1 := i_add ex_29 rfl (by decide) (by omega) (by omega)
                        refine lv_iinc (v := x_29) (lv' := [(3, .int x_29), (2, .int x_28), (0, .ref (A 60 0)), (1, .int z1)]) hx hb dX10_count_154 hl (k := 1) rfl (by rw [ex_29]; rfl) (by decide) rfl (fun ls hl => ?_)
                        refine lv_goto (tgt := 135) hx hb dX10_count_157 (by decide) ?_
                        exact ih_22 x_29 x_28 _ _ _ (by omega) (by first | omega | decide) (by first | omega | decide) (ss_s j_20 (by omega) L_27 tx_28) (by first | omega | decide) hw (lv_sub hl [0, 1, 2, 3] rfl)
                  exact hl_135_21 ((8 - 0 : Int).toNat + 1) 0 0 _ _ _ (Nat.lt_succ_self _) (by have lt0 : (0 : Int32).toInt = 0 := (by decide); first | omega | decide) (by have lt0 : (0 : Int32).toInt = 0 := (by decide); first | omega | decide) (by rw [show ((0 : Int32).toInt).toNat = 0 by decide]; exact (by decide : (0 : Int32).toInt = 0)) (by have lt0 : (0 : Int32).toInt = 0 := (by decide); first | omega | decide) hw (lv_sub hl [0, 1, 2, 3] rfl)
                · by_cases s_1_8 : z1 = 8
                  · refine lv_tableIn (tgt := 162) (off := 154) hx hb dX10_count_8 (by rw [s_1_8]; decide) (by rw [s_1_8]; decide) (by rw [s_1_8]; decide) (by decide) ?_
                    refine lv_aload_n hx hb dX10_count_162 rfl (lv_at hl 1 rfl) ?_
                    refine ti_get (ci := 10) (k := 58) (N := 67) (T := TX10) C hw iw_10 rfl ob_60 (by decide) (by decide) fl_X10_310 rfl rfl dX10_count_163 ?_
                    refine lv_topi (fun x_30 ex_30 => ?_)
                    have bx_30 : 0 ≤ x_30.toInt ∧ x_30.toInt ≤ 24 := mI_rd hI ex_30
                    have ux_30 : (tI M 60 58).toInt = x_30.toInt := by rw [ex_30]
                    have zv : z1.toInt = 8 := by rw [s_1_8]; decide
                    exact hQ _ _ _ _ _ _ hw rfl (⟨by unfold bq_co; rw [zv, if_neg (by decide), if_neg (by decide), if_neg (by decide), if_neg (by decide), if_neg (by decide), if_neg (by decide), if_neg (by decide), if_neg (by decide), if_pos rfl]; rw [← e58r]; omega, hk, (iR_eR eR.refl).trans ir0, hF, (rfl).trans e2r, lw_t (fun _ _ _ => rfl) lwr⟩) dX10_count_166
                  · by_cases s_1_9 : z1 = 9
                    · refine lv_tableIn (tgt := 167) (off := 159) hx hb dX10_count_8 (by rw [s_1_9]; decide) (by rw [s_1_9]; decide) (by rw [s_1_9]; decide) (by decide) ?_
                      refine lv_aload_n hx hb dX10_count_167 rfl (lv_at hl 1 rfl) ?_
                      refine ti_callVi (ci := 10) (av := []) C hw (z_X10_knownMany l D A cy hJ M hI ) ⟨ml_X10_474, ym_X10_knownMany, yv_X10_knownMany, yi_X10_knownMany, yc_X10_knownMany⟩ yd_X10_knownMany ob_60 (by decide) rfl rfl hl.1 (Nat.le_of_ble_eq_true rfl) ⟨by decide, by decide⟩ ⟨Nat.zero_le _, Nat.zero_le _⟩ dX10_count_168 (fun r_31 M_32 H locs hp_32 hw => ?_)
                      obtain ⟨hm, pr_31⟩ := hp_32
                      have hw := hw.to hm
                      have zv : z1.toInt = 9 := by rw [s_1_9]; decide
                      exact hQ _ _ _ _ _ _ hw rfl (⟨by unfold bq_co; rw [zv, if_neg (by decide), if_neg (by decide), if_neg (by decide), if_neg (by decide), if_neg (by decide), if_neg (by decide), if_neg (by decide), if_neg (by decide), if_neg (by decide), if_pos rfl]; rw [← e58r, ← e59r]; exact pr_31, hk, (iR_eR eR.refl).trans ir0, hF, (rfl).trans e2r, lw_t (fun _ _ _ => rfl) lwr⟩) dX10_count_171
                    · by_cases s_1_10 : z1 = 10
                      · refine lv_tableIn (tgt := 172) (off := 164) hx hb dX10_count_8 (by rw [s_1_10]; decide) (by rw [s_1_10]; decide) (by rw [s_1_10]; decide) (by decide) ?_
                        refine lv_aload_n hx hb dX10_count_172 rfl (lv_at hl 1 rfl) ?_
                        refine ti_get (ci := 10) (k := 52) (N := 67) (T := TX10) C hw iw_10 rfl ob_60 (by decide) (by decide) fl_X10_317 rfl rfl dX10_count_173 ?_
                        refine lv_topi (fun x_33 ex_33 => ?_)
                        have bx_33 : 0 ≤ x_33.toInt ∧ x_33.toInt ≤ 20 := mI_rd hI ex_33
                        have ux_33 : (tI M 60 52).toInt = x_33.toInt := by rw [ex_33]
                        have zv : z1.toInt = 10 := by rw [s_1_10]; decide
                        exact hQ _ _ _ _ _ _ hw rfl (⟨by unfold bq_co; rw [zv, if_neg (by decide), if_neg (by decide), if_neg (by decide), if_neg (by decide), if_neg (by decide), if_neg (by decide), if_neg (by decide), if_neg (by decide), if_neg (by decide), if_neg (by decide), if_pos rfl]; have q := hu.1; omega, hk, (iR_eR eR.refl).trans ir0, hF, (rfl).trans e2r, lw_t (fun _ _ _ => rfl) lwr⟩) dX10_count_176
                      · by_cases s_1_11 : z1 = 11
                        · refine lv_tableIn (tgt := 177) (off := 169) hx hb dX10_count_8 (by rw [s_1_11]; decide) (by rw [s_1_11]; decide) (by rw [s_1_11]; decide) (by decide) ?_
                          refine lv_aload_n hx hb dX10_count_177 rfl (lv_at hl 1 rfl) ?_
                          refine ti_get (ci := 10) (k := 49) (N := 67) (T := TX10) (v := .ref (A 60 50)) C hw iw_10 rfl ob_60 (by decide) (by decide) fl_X10_114 rfl rfl dX10_count_178 ?_
                          refine lv_iconst (v := 0) hx hb dX10_count_181 (by decide) ?_
                          refine ti_iald (ci := 10) (k := 49) (n := 69) C hw ob_60 (by decide) (fun _ _ => rfl) (by unfold vp_in; decide) dX10_count_182 ?_
                          refine lv_topi (fun x_34 ex_34 => ?_)
                          have yx_34 : tY M 60 49 0 = x_34 := ((congrArg _ (by decide)).symm.trans ex_34.symm)
                          have bx_34 : 0 ≤ x_34.toInt ∧ x_34.toInt ≤ 7 := mI_ry (k := 49) (i := 0) hI yx_34.symm
                          have L_35 : rg 112 = x_34.toInt := (hr.2.2.1 (0) (by omega)).trans (congrArg Int32.toInt (yx_34))
                          have zv : z1.toInt = 11 := by rw [s_1_11]; decide
                          exact hQ _ _ _ _ _ _ hw rfl (⟨by unfold bq_co; rw [zv, if_neg (by decide), if_neg (by decide), if_neg (by decide), if_neg (by decide), if_neg (by decide), if_neg (by decide), if_neg (by decide), if_neg (by decide), if_neg (by decide), if_neg (by decide), if_neg (by decide), if_pos rfl]; omega, hk, (iR_eR eR.refl).trans ir0, hF, (rfl).trans e2r, lw_t (fun _ _ _ => rfl) lwr⟩) dX10_count_183
                        · by_cases s_1_12 : z1 = 12
                          · refine lv_tableIn (tgt := 184) (off := 176) hx hb dX10_count_8 (by rw [s_1_12]; decide) (by rw [s_1_12]; decide) (by rw [s_1_12]; decide) (by decide) ?_
                            refine lv_aload_n hx hb dX10_count_184 rfl (lv_at hl 1 rfl) ?_
                            refine ti_get (ci := 10) (k := 49) (N := 67) (T := TX10) (v := .ref (A 60 50)) C hw iw_10 rfl ob_60 (by decide) (by decide) fl_X10_114 rfl rfl dX10_count_185 ?_
                            refine lv_iconst (v := 1) hx hb dX10_count_188 (by decide) ?_
                            refine ti_iald (ci := 10) (k := 49) (n := 69) C hw ob_60 (by decide) (fun _ _ => rfl) (by unfold vp_in; decide) dX10_count_189 ?_
                            refine lv_topi (fun x_36 ex_36 => ?_)
                            have yx_36 : tY M 60 49 1 = x_36 := ((congrArg _ (by decide)).symm.trans ex_36.symm)
                            have bx_36 : 0 ≤ x_36.toInt ∧ x_36.toInt ≤ 7 := mI_ry (k := 49) (i := 1) hI yx_36.symm
                            have L_37 : rg 113 = x_36.toInt := (hr.2.2.1 (1) (by omega)).trans (congrArg Int32.toInt (yx_36))
                            have zv : z1.toInt = 12 := by rw [s_1_12]; decide
                            exact hQ _ _ _ _ _ _ hw rfl (⟨by unfold bq_co; rw [zv, if_neg (by decide), if_neg (by decide), if_neg (by decide), if_neg (by decide), if_neg (by decide), if_neg (by decide), if_neg (by decide), if_neg (by decide), if_neg (by decide), if_neg (by decide), if_neg (by decide), if_neg (by decide), if_pos rfl]; omega, hk, (iR_eR eR.refl).trans ir0, hF, (rfl).trans e2r, lw_t (fun _ _ _ => rfl) lwr⟩) dX10_count_190
                          · by_cases s_1_13 : z1 = 13
                            · refine lv_tableIn (tgt := 191) (off := 183) hx hb dX10_count_8 (by rw [s_1_13]; decide) (by rw [s_1_13]; decide) (by rw [s_1_13]; decide) (by decide) ?_
                              refine lv_aload_n hx hb dX10_count_191 rfl (lv_at hl 1 rfl) ?_
                              refine ti_get (ci := 10) (k := 49) (N := 67) (T := TX10) (v := .ref (A 60 50)) C hw iw_10 rfl ob_60 (by decide) (by decide) fl_X10_114 rfl rfl dX10_count_192 ?_
                              refine lv_iconst (v := 2) hx hb dX10_count_195 (by decide) ?_
                              refine ti_iald (ci := 10) (k := 49) (n := 69) C hw ob_60 (by decide) (fun _ _ => rfl) (by unfold vp_in; decide) dX10_count_196 ?_
                              refine lv_topi (fun x_38 ex_38 => ?_)
                              have yx_38 : tY M 60 49 2 = x_38 := ((congrArg _ (by decide)).symm.trans ex_38.symm)
                              have bx_38 : 0 ≤ x_38.toInt ∧ x_38.toInt ≤ 7 := mI_ry (k := 49) (i := 2) hI yx_38.symm
                              have L_39 : rg 114 = x_38.toInt := (hr.2.2.1 (2) (by omega)).trans (congrArg Int32.toInt (yx_38))
                              have zv : z1.toInt = 13 := by rw [s_1_13]; decide
                              exact hQ _ _ _ _ _ _ hw rfl (⟨by unfold bq_co; rw [zv, if_neg (by decide), if_neg (by decide), if_neg (by decide), if_neg (by decide), if_neg (by decide), if_neg (by decide), if_neg (by decide), if_neg (by decide), if_neg (by decide), if_neg (by decide), if_neg (by decide), if_neg (by decide), if_neg (by decide), if_pos rfl]; omega, hk, (iR_eR eR.refl).trans ir0, hF, (rfl).trans e2r, lw_t (fun _ _ _ => rfl) lwr⟩) dX10_count_197
                            · by_cases s_1_14 : z1 = 14
                              · refine lv_tableIn (tgt := 198) (off := 190) hx hb dX10_count_8 (by rw [s_1_14]; decide) (by rw [s_1_14]; decide) (by rw [s_1_14]; decide) (by decide) ?_
                                refine lv_aload_n hx hb dX10_count_198 rfl (lv_at hl 1 rfl) ?_
                                refine ti_get (ci := 10) (k := 37) (N := 67) (T := TX10) (v := .ref (A 60 38)) C hw iw_10 rfl ob_60 (by decide) (by decide) fl_X10_78 rfl rfl dX10_count_199 ?_
                                refine lv_iconst (v := 0) hx hb dX10_count_202 (by decide) ?_
                                refine ti_iald (ci := 10) (k := 37) (n := 23) C hw ob_60 (by decide) (fun _ _ => rfl) (by unfold vp_in; decide) dX10_count_203 ?_
                                refine lv_topi (fun x_40 ex_40 => ?_)
                                have yx_40 : tY M 60 37 0 = x_40 := ((congrArg _ (by decide)).symm.trans ex_40.symm)
                                refine ti_callSi (av := [.int x_40]) C hw (z_X10_bitsOf l D A cy hJ M hI x_40) ⟨ml_X10_448, ys_X10_bitsOf, yi_X10_bitsOf, yc_X10_bitsOf⟩ yd_X10_bitsOf rfl hl.1 (Nat.le_of_ble_eq_true rfl) ⟨by decide, by decide⟩ ⟨Nat.zero_le _, Nat.zero_le _⟩ dX10_count_204 (fun r_41 M_42 H locs hp_42 hw => ?_)
                                obtain ⟨hm, pr_41⟩ := hp_42
                                have hw := hw.to hm
                                have zv : z1.toInt = 14 := by rw [s_1_14]; decide
                                exact hQ _ _ _ _ _ _ hw rfl (⟨by unfold bq_co; rw [zv, if_neg (by decide), if_neg (by decide), if_neg (by decide), if_neg (by decide), if_neg (by decide), if_neg (by decide), if_neg (by decide), if_neg (by decide), if_neg (by decide), if_neg (by decide), if_neg (by decide), if_neg (by decide), if_neg (by decide), if_neg (by decide), if_pos rfl]; rw [pr_41, ← (yx_40)]; exact co_eq ht4 G0 hK9, hk, (iR_eR eR.refl).trans ir0, hF, (rfl).trans e2r, lw_t (fun _ _ _ => rfl) lwr⟩) dX10_count_207
                              · refine lv_tableOut (tgt := 208) hx hb dX10_count_8 (ti_out (lo := 0) (hi := 14) z1 (fun v h1 h2 => by rcases (show v = 0 ∨ v = 1 ∨ v = 2 ∨ v = 3 ∨ v = 4 ∨ v = 5 ∨ v = 6 ∨ v = 7 ∨ v = 8 ∨ v = 9 ∨ v = 10 ∨ v = 11 ∨ v = 12 ∨ v = 13 ∨ v = 14 by omega) with rfl | rfl | rfl | rfl | rfl | rfl | rfl | rfl | rfl | rfl | rfl | rfl | rfl | rfl | rfl <;> first | exact ti_nev 0 s_1_0 (by decide) | exact ti_nev 1 s_1_1 (by decide) | exact ti_nev 2 s_1_2 (by decide) | exact ti_nev 3 s_1_3 (by decide) | exact ti_nev 4 s_1_4 (by decide) | exact ti_nev 5 s_1_5 (by decide) | exact ti_nev 6 s_1_6 (by decide) | exact ti_nev 7 s_1_7 (by decide) | exact ti_nev 8 s_1_8 (by decide) | exact ti_nev 9 s_1_9 (by decide) | exact ti_nev 10 s_1_10 (by decide) | exact ti_nev 11 s_1_11 (by decide) | exact ti_nev 12 s_1_12 (by decide) | exact ti_nev 13 s_1_13 (by decide) | exact ti_nev 14 s_1_14 (by decide))) (by decide) ?_
                                refine lv_iconst (v := (-1)) hx hb dX10_count_208 (by decide) ?_
                                have zn0 : z1.toInt ≠ 0 := pt_ne s_1_0 (by decide)
                                have zn1 : z1.toInt ≠ 1 := pt_ne s_1_1 (by decide)
                                have zn2 : z1.toInt ≠ 2 := pt_ne s_1_2 (by decide)
                                have zn3 : z1.toInt ≠ 3 := pt_ne s_1_3 (by decide)
                                have zn4 : z1.toInt ≠ 4 := pt_ne s_1_4 (by decide)
                                have zn5 : z1.toInt ≠ 5 := pt_ne s_1_5 (by decide)
                                have zn6 : z1.toInt ≠ 6 := pt_ne s_1_6 (by decide)
                                have zn7 : z1.toInt ≠ 7 := pt_ne s_1_7 (by decide)
                                have zn8 : z1.toInt ≠ 8 := pt_ne s_1_8 (by decide)
                                have zn9 : z1.toInt ≠ 9 := pt_ne s_1_9 (by decide)
                                have zn10 : z1.toInt ≠ 10 := pt_ne s_1_10 (by decide)
                                have zn11 : z1.toInt ≠ 11 := pt_ne s_1_11 (by decide)
                                have zn12 : z1.toInt ≠ 12 := pt_ne s_1_12 (by decide)
                                have zn13 : z1.toInt ≠ 13 := pt_ne s_1_13 (by decide)
                                have zn14 : z1.toInt ≠ 14 := pt_ne s_1_14 (by decide)
                                exact hQ _ _ _ _ _ _ hw rfl (⟨by unfold bq_co; rw [if_neg zn0, if_neg zn1, if_neg zn2, if_neg zn3, if_neg zn4, if_neg zn5, if_neg zn6, if_neg zn7, if_neg zn8, if_neg zn9, if_neg zn10, if_neg zn11, if_neg zn12, if_neg zn13, if_neg zn14]; decide, hk, (iR_eR eR.refl).trans ir0, hF, (rfl).trans e2r, lw_t (fun _ _ _ => rfl) lwr⟩) dX10_count_209
end
section
theorem tx_E.kept {A : Nat → Prop} {U : State} {H H1 : Heap} (h : tx_E A U H) (hq : ∀ a : Nat, a < H.size → ¬ A a → H1[a]? = H[a]?) : tx_E A U H1 := by
  obtain ⟨⟨a, v, h1, h2⟩, ⟨b, w, h3, h4⟩, h5⟩ := h
  exact ⟨⟨a, v, h1, h2.kept hq⟩, ⟨b, w, h3, h4.kept hq⟩, h5.kept hq⟩
def lq_B (p : Program) (s : State) (m : MethodId) (c : Code) (args : Array Value) (cc : ByteArray) (own : String) (nL : Nat) (D : va_G) (cy : Nat → ClassId) : Prop :=
  p.tables.exec = Jvm.exec ∧ c.code = cc ∧ (∀ w ∈ lw_g, w.before args s = true) ∧ s.vm.findClass own = some m.cls ∧ va_K D vwCl (ti_ty cy) s ∧ c.maxLocals = nL ∧ True ∧ ti_N s
section
variable {p : Program} {l : Launch} {e : Env} {R : Room} {s : State} {m : MethodId} {args : Array Value} {below : List Frame} {meth : Method} {c : Code} {H H0 : Heap} {locs : List Loc} {cells slots : Nat} {Q : State → Prop} {pc : Nat} {ls : Array Slot} {rest : List Value} {cc : ByteArray} {own : String} {nL : Nat} {D : va_G} {cy : Nat → ClassId} {As : Nat → Prop} {ws : va_W}
/-- a new row of a basic type -/
theorem lq_nA {atype : ArrayType} {ty : FieldType} (t0 : Nat) (C : lq_B p s m c args cc own nL D cy) (hac : Cond.arrayClass (newarray.typeOf atype) ∈ lw_g) (hty : newarray.typeOf atype = ty) (hp : ∀ C, ty ≠ .object C) (ht : (ti_ty cy)[t0]? = some (cy t0, ty)) (hP : va_P D vwCl ws H) (hD : va_D As ws) (hS : va_S As H0 H locs) (hA : ∀ q, H0.size ≤ q → As q)
    {n : Int32} {N' : Nat} {a0 : vp_A} (ha : ∀ cA : ClassId, vp_cell cA a0 = arrV cA N' (fun _ => defaultValue ty)) (hn : ¬ n < 0) (hN : n.toNatClampNeg = N') (hbytes : N' * componentBytes ty ≤ 536870912) (k2 n2 : Nat) (hcells : cells + 1 ≤ k2) (hslots : slots + N' ≤ n2) (hR : k2 ≤ R.cells ∧ n2 ≤ R.slots) (hdg : decode cc pc = .ok (.newarray atype, 2))
    (kk : ∀ (q : Nat) (H1 : Heap), va_P D vwCl (ws ++ [(q, .inl (cy t0, a0))]) H1 → va_D As (ws ++ [(q, .inl (cy t0, a0))]) → va_S As H0 H1 locs → W p l e R s m args below meth c H1 locs k2 n2 Q (F0 m (pc + 2) ls (.ref q :: rest))) : W p l e R s m args below meth c H locs cells slots Q (F0 m pc ls (.int n :: rest)) := by
  refine va_newa (atype := atype) (ty := ty) C.1 C.2.1 (C.2.2.1 _ hac) hty C.2.2.2.2.1 hP hD hS hA ha hn hN hbytes (Nat.le_trans hcells hR.1) (Nat.le_trans hslots hR.2) hdg ?_
  intro q cA H1 hK1 hP1 hD1 hS1
  obtain rfl := ti_sameP hp C.2.2.2.2.1 ht hK1
  exact W.widen hcells hslots (kk q H1 hP1 hD1 hS1)
/-- a new object -/
theorem lq_nO {Cn : String} {T : u_T} {N ci idx : Nat} (ty : Nat → FieldType) (hty : ∀ k, k < N → parseFieldDescriptor (T k).2.2.1 = some (ty k)) (C : lq_B p s m c args cc own nL D cy) (hin : ∀ w ∈ u_ws Cn T N, w ∈ lw_g) (hck : Cond.classLink own idx Cn ∈ lw_g) (his : Cond.instantiable Cn N ∈ lw_g) (hini : Cond.initialized Cn ∈ lw_g) (hcl : vwCl[ci]? = some (Cn, T, N)) (hP : va_P D vwCl ws H) (hD : va_D As ws) (hS : va_S As H0 H locs) (hA : ∀ q, H0.size ≤ q → As q)
    {fs : List Value} (hfs : ∀ j, j < N → defaultValue (ty j) = vp_V fs j) (k2 n2 : Nat) (hcells : cells + 1 ≤ k2) (hslots : slots + N ≤ n2) (hR : k2 ≤ R.cells ∧ n2 ≤ R.slots) (hdg : decode cc pc = .ok (.new idx, 3))
    (kk : ∀ (q : Nat) (H1 : Heap), va_P D vwCl (ws ++ [(q, .inr (ci, fs))]) H1 → va_D As (ws ++ [(q, .inr (ci, fs))]) → va_S As H0 H1 locs → W p l e R s m args below meth c H1 locs k2 n2 Q (F0 m (pc + 3) ls (.ref q :: rest))) : W p l e R s m args below meth c H locs cells slots Q (F0 m pc ls rest) := by
  refine va_new (ci := ci) (C := Cn) (T := T) (N := N) C.1 C.2.1 C.2.2.1 hin ty hty C.2.2.2.1 (C.2.2.1 _ hck) (C.2.2.1 _ his) (C.2.2.1 _ hini) C.2.2.2.2.1 hP hD hS hA hcl hfs (Nat.le_trans hcells hR.1) (Nat.le_trans hslots hR.2) hdg ?_
  intro q H1 hP1 hD1 hS1
  exact W.widen hcells hslots (kk q H1 hP1 hD1 hS1)
/-- a constructor's call, of the last cell -/
theorem lq_callCx {y : MethodName} {cc2 : ByteArray} {n2 k2 mc ms q : Nat} {X : va_W} {e0 : va_E} {S : Type} {post : S → Prop} {blk : S → va_W} (C : lq_B p s m c args cc own nL D cy) (hM : ti_Kc l y cc2 n2 k2 mc ms D cy q H.size e0 post blk)
    (hrun : ∀ (hp : PreS s H (ti_PcC D cy q H.size e0) [.ref q]), va_Run p l e R s m args below meth c H locs cells slots mc ms (F0 m pc ls (.ref q :: rest)) rest (va_Qv post (fun u t => va_P D vwCl (blk u) t.heap ∧ va_D (va_A [(q, e0)] H.size) (blk u)) (va_A [(q, e0)] H.size) (Value.ref q :: []).toArray) (va_A [(q, e0)] H.size))
    (hP : va_P D vwCl (X ++ [(q, e0)]) H) (hD : va_D As (X ++ [(q, e0)])) (hS : va_S As H0 H locs) (hA : ∀ q, H0.size ≤ q → As q) (k3 n3 : Nat) (hcells : cells + mc ≤ k3) (hslots : slots + ms ≤ n3)
    (kk : ∀ (u : S) (H1 : Heap) (locs1 : List Loc), post u → va_P D vwCl (X ++ blk u) H1 → va_D As (X ++ blk u) → va_S As H0 H1 locs1 → W p l e R s m args below meth c H1 locs1 k3 n3 Q (F0 m (pc + 3) ls rest)) : W p l e R s m args below meth c H locs cells slots Q (F0 m pc ls (.ref q :: rest)) := by
  have hF : ∀ z, va_A [(q, e0)] H.size z → As z := va_free (wc := [(q, e0)]) hD hS hA [X.length] (by simp)
  have hP0 : va_P D vwCl [(q, e0)] H := hP.sub (ws' := [(q, e0)]) [X.length] (by simp)
  refine va_callv (hrun ⟨ti_blindC, fun U hU hW => ⟨rfl, by rw [hU], by rw [hU]; exact hP0, va_K.moved hW.alike C.2.2.2.2.1, C.2.2.2.2.2.2.2.warm hW⟩⟩) hS (fun z _ h => hF z h) hF ?_
  intro u t H1 locs1 ht hvm hpo hB hz hk hS1
  rw [ht] at hB
  obtain ⟨hP2, hD2⟩ := ti_joinL hP hD hk hF hB.1 hB.2
  exact W.widen hcells hslots (kk u H1 locs1 hpo hP2 hD2 hS1)
theorem lq_callCI {y : MethodName} {cc2 : ByteArray} {n2 k2 mc ms idx q : Nat} {X : va_W} {e0 : va_E} {S : Type} {post : S → Prop} {blk : S → va_W} (C : lq_B p s m c args cc own nL D cy) (hM : ti_Kc l y cc2 n2 k2 mc ms D cy q H.size e0 post blk) (hml : Cond.methodLink own idx y ∈ lw_g) (hy : y.name = "<init>") (hm : Cond.instanceMethod y ∈ lw_g) (hi : Cond.initialized y.cls ∈ lw_g) (hc : Cond.code y cc2 n2 none ∈ lw_g) (hd : ti_Vd y 0)
    (hP : va_P D vwCl (X ++ [(q, e0)]) H) (hD : va_D As (X ++ [(q, e0)])) (hS : va_S As H0 H locs) (hA : ∀ q, H0.size ≤ q → As q) (hsz : ls.size = nL) (hrs : (rest.map fun v => v.category).sum ≤ 8) (hR : k2 + 1 ≤ R.frames ∧ 8 + (n2 + 11) + 60 * k2 ≤ R.locals) (k3 n3 : Nat) (hcells : cells + mc ≤ k3) (hslots : slots + ms ≤ n3) (hR2 : k3 ≤ R.cells ∧ n3 ≤ R.slots) (hdg : decode cc pc = .ok (.invokespecial idx, 3))
    (kk : ∀ (u : S) (H1 : Heap) (locs1 : List Loc), post u → va_P D vwCl (X ++ blk u) H1 → va_D As (X ++ blk u) → va_S As H0 H1 locs1 → W p l e R s m args below meth c H1 locs1 k3 n3 Q (F0 m (pc + 3) ls rest)) : W p l e R s m args below meth c H locs cells slots Q (F0 m pc ls (.ref q :: rest)) :=
  lq_callCx (n2 := n2) (k2 := k2) C hM (fun hp => va_runI (As := []) (rest := rest) ⟨C.1, C.2.1, C.2.2.2.2.2.1, C.2.2.2.1, C.2.2.1⟩ hM (cwI 0 C.2.2.1 (lw_g_good (fun w hw => (List.mem_cons.mp hw).elim (fun h => h ▸ hc) (fun h => h))) rfl rfl rfl (C.2.2.1 _ hi) (C.2.2.1 _ hml) (C.2.2.1 _ hm) hy hd hR) hp rfl rfl hsz rfl (lv_room hrs) hdg ⟨Nat.le_trans hcells hR2.1, Nat.le_trans hslots hR2.2⟩) hP hD hS hA k3 n3 hcells hslots kk
end
def lq_F (s : State) : Nat → Prop := fun q => s.heap.size ≤ q
/-- the two worlds: new cells, apart -/
def lq_A (s : State) (A1 A2 : Nat → Nat → Nat) : Prop := ti_inj ti_LT A1 ∧ ti_inj ti_LM A2 ∧ (∀ q, ti_As ti_LT A1 q → lq_F s q) ∧ (∀ q, ti_As ti_LM A2 q → lq_F s q) ∧ ∀ q, ti_As ti_LT A1 q → ti_As ti_LM A2 q → False
def lq_O (s : State) (D : va_G) (cy : Nat → ClassId) (A1 A2 : Nat → Nat → Nat) (q3 : Nat) (H : Heap) : Prop := lq_F s q3 ∧ ¬ ti_As ti_LT A1 q3 ∧ ¬ ti_As ti_LM A2 q3 ∧ ∃ f : Nat → Int64, va_P D vwCl [(q3, .inl (cy 2, 1, .inr (.inl f)))] H
theorem lq_O.kept {s : State} {D : va_G} {cy : Nat → ClassId} {A1 A2 : Nat → Nat → Nat} {q3 : Nat} {H H1 : Heap} (h : lq_O s D cy A1 A2 q3 H) (hk : q3 < H.size → H1[q3]? = H[q3]?) : lq_O s D cy A1 A2 q3 H1 := by
  obtain ⟨h1, h2, h3, f, hf⟩ := h
  refine ⟨h1, h2, h3, f, hf.kept (fun k q hq => ?_)⟩
  match k, hq with
  | 0, hq => cases hq; exact hk ((hf 0 _ rfl).lt)
  | k + 1, hq => simp at hq
def lq_H (s : State) (D : va_G) (cy : Nat → ClassId) (A1 A2 : Nat → Nat → Nat) (q3 : Nat) (M1 M2 : ti_M) (H : Heap) (locs : List Loc) : Prop := va_P D vwCl (ti_W ti_LT A1 cy M1) H ∧ va_P D vwCl (ti_W ti_LM A2 cy M2) H ∧ va_S (lq_F s) s.heap H locs ∧ lq_O s D cy A1 A2 q3 H
theorem va_P_l {D : va_G} {cl : List vw_C} {a b : va_W} {H : Heap} (h : va_P D cl (a ++ b) H) : va_P D cl a H := fun k q hk => h k q (by rw [List.getElem?_append_left (List.getElem?_eq_some_iff.mp hk).1]; exact hk)
theorem va_P_r {D : va_G} {cl : List vw_C} {a b : va_W} {H : Heap} (h : va_P D cl (a ++ b) H) : va_P D cl b H := fun k q hk => h (a.length + k) q (by rw [List.getElem?_append_right (Nat.le_add_right _ _), Nat.add_sub_cancel_left]; exact hk)
theorem va_D_l {A : Nat → Prop} {a b : va_W} (h : va_D A (a ++ b)) : va_D A a := by
  have e : ∀ (k : Nat) (q : Nat × va_E), a[k]? = some q → (a ++ b)[k]? = some q := fun k q hk => by rw [List.getElem?_append_left (List.getElem?_eq_some_iff.mp hk).1]; exact hk
  exact ⟨fun i j p q hi hj => h.1 i j p q (e i p hi) (e j q hj), fun k q hk => h.2 k q (e k q hk)⟩
theorem va_D_r {A : Nat → Prop} {a b : va_W} (h : va_D A (a ++ b)) : va_D A b := by
  have e : ∀ (k : Nat) (q : Nat × va_E), b[k]? = some q → (a ++ b)[a.length + k]? = some q := fun k q hk => by rw [List.getElem?_append_right (Nat.le_add_right _ _), Nat.add_sub_cancel_left]; exact hk
  exact ⟨fun i j p q hi hj hpq => Nat.add_left_cancel (h.1 _ _ p q (e i p hi) (e j q hj) hpq), fun k q hk => h.2 _ q (e k q hk)⟩
theorem va_D_x {A : Nat → Prop} {a b : va_W} (h : va_D A (a ++ b)) {i j : Nat} {p q : Nat × va_E} (hi : a[i]? = some p) (hj : b[j]? = some q) : p.1 ≠ q.1 := by
  intro e
  have hl := (List.getElem?_eq_some_iff.mp hi).1
  have := h.1 i (a.length + j) p q (by rw [List.getElem?_append_left hl]; exact hi) (by rw [List.getElem?_append_right (Nat.le_add_right _ _), Nat.add_sub_cancel_left]; exact hj) e
  omega
/-- the worlds out of one list -/
theorem lq_mk {s : State} {D : va_G} {cy : Nat → ClassId} {A1 A2 : Nat → Nat → Nat} {q3 : Nat} {M1 M2 : ti_M} {f : Nat → Int64} {H : Heap} {locs : List Loc} (hP : va_P D vwCl ((ti_W ti_LT A1 cy M1 ++ ti_W ti_LM A2 cy M2) ++ [(q3, .inl (cy 2, 1, .inr (.inl f)))]) H) (hD : va_D (lq_F s) ((ti_W ti_LT A1 cy M1 ++ ti_W ti_LM A2 cy M2) ++ [(q3, .inl (cy 2, 1, .inr (.inl f)))])) (hS : va_S (lq_F s) s.heap H locs) : lq_A s A1 A2 ∧ lq_H s D cy A1 A2 q3 M1 M2 H locs := by
  have hP1 := va_P_l hP
  have hD1 := va_D_l hD
  have hD3 := va_D_r hD
  refine ⟨⟨ti_injD (va_D_l hD1), ti_injD (va_D_r hD1), ti_AsD (va_D_l hD1), ti_AsD (va_D_r hD1), ?_⟩, va_P_l hP1, va_P_r hP1, hS, hD3.2 0 _ rfl, ?_, ?_, f, va_P_r hP⟩
  · rintro q ⟨r, hr, rfl⟩ ⟨r2, hr2, e⟩
    obtain ⟨i, hi⟩ := List.getElem?_of_mem hr
    obtain ⟨j, hj⟩ := List.getElem?_of_mem hr2
    exact va_D_x hD1 (ti_W_at hi) (ti_W_at hj) e.symm
  · rintro ⟨r, hr, e⟩
    obtain ⟨i, hi⟩ := List.getElem?_of_mem hr
    have h0 := ti_W_at (A := A1) (cy := cy) (M := M1) hi
    exact va_D_x hD (i := i) (j := 0) (by rw [List.getElem?_append_left (List.getElem?_eq_some_iff.mp h0).1]; exact h0) rfl e
  · rintro ⟨r, hr, e⟩
    obtain ⟨i, hi⟩ := List.getElem?_of_mem hr
    have h0 := ti_W_at (A := A2) (cy := cy) (M := M2) hi
    exact va_D_x hD (i := (ti_W ti_LT A1 cy M1).length + i) (j := 0) (by rw [List.getElem?_append_right (Nat.le_add_right _ _), Nat.add_sub_cancel_left]; exact h0) rfl e
section
variable {p : Program} {l : Launch} {e : Env} {R : Room} {s : State} {m : MethodId} {args : Array Value} {below : List Frame} {meth : Method} {c : Code} {H : Heap} {locs : List Loc} {cells slots : Nat} {Q : State → Prop} {pc : Nat} {ls : Array Slot} {rest : List Value} {cc : ByteArray} {own : String} {nL : Nat} {D : va_G} {cy : Nat → ClassId} {A1 A2 : Nat → Nat → Nat} {q3 : Nat} {M1 M2 : ti_M}
theorem lq_callTi {y : MethodName} {cc2 : ByteArray} {n2 k2 idx : Nat} {ret : Option FieldType} {av st : List Value} {post : Int32 → ti_M → Prop} {T : u_T} {N : Nat} (C : lq_B p s m c args cc own nL D cy) (hA : lq_A s A1 A2) (hw : lq_H s D cy A1 A2 q3 M1 M2 H locs)
    (hM : ti_Ki l y cc2 n2 ret k2 ti_LT D A1 cy M1 (.ref (A1 0 0) :: av) post) (hV : ti_V own idx y cc2 n2 ret) (hd : ti_Vd y av.length) (hcl : vwCl[9]? = some (y.cls, T, N)) (hst : st = av.reverse ++ .ref (A1 0 0) :: rest) (hsz : ls.size = nL) (hrs : (rest.map fun v => v.category).sum ≤ 8) (hR : k2 + 1 ≤ R.frames ∧ 8 + (n2 + 11) + 60 * k2 ≤ R.locals) (hcs : cells ≤ R.cells ∧ slots ≤ R.slots) (hdg : decode cc pc = .ok (.invokevirtual idx, 3))
    (kk : ∀ (r : Int32) (M3 : ti_M) (H1 : Heap) (locs1 : List Loc), post r M3 → lq_H s D cy A1 A2 q3 M3 M2 H1 locs1 → W p l e R s m args below meth c H1 locs1 cells slots Q (F0 m (pc + 3) ls (.int r :: rest))) : W p l e R s m args below meth c H locs cells slots Q (F0 m pc ls st) := by
  have C1 : ti_C p s m c args cc own nL D cy ti_LT A1 := ⟨C.1, C.2.1, C.2.2.1, C.2.2.2.1, C.2.2.2.2.1, C.2.2.2.2.2.1, hA.1, ti_LT_nd⟩
  have hw1 : ti_H ti_LT D A1 cy H M1 H [] := ⟨hw.1, va_S.rf⟩
  subst hst
  refine va_calli (va_runV (As := av) (rest := rest) ⟨C.1, C.2.1, C.2.2.2.2.2.1, C.2.2.2.1, C.2.2.1⟩ hM (ti_cwV C1 hV hd hR) ⟨ti_blind, ti_recv C1 hw1 ob_0 (by decide) hcl, ti_pre C1 hw1⟩ rfl rfl hsz rfl (lv_room hrs) hdg ⟨hcs.1, hcs.2⟩) hw.2.2.1 (fun q _ h => hA.2.2.1 q h) (fun q h => hA.2.2.1 q h) ?_
  intro r u t H1 locs1 ht hvm hpo hB hz hk hS
  have K2 := hw.2.1.kept (H1 := H1) (fun k q hq => by
    have hq2 := (ti_W_D hA.2.1 cy M2).2 k q hq
    exact hk q.1 ((hw.2.1 k q hq).lt) (fun h => hA.2.2.2.2 q.1 h hq2))
  exact kk r u H1 locs1 hpo ⟨by rw [← ht]; exact hB, K2, hS, hw.2.2.2.kept (fun h9 => hk q3 h9 hw.2.2.2.2.1)⟩
theorem lq_callTl {y : MethodName} {cc2 : ByteArray} {n2 k2 idx : Nat} {ret : Option FieldType} {av st : List Value} {post : Int64 → ti_M → Prop} {T : u_T} {N : Nat} (C : lq_B p s m c args cc own nL D cy) (hA : lq_A s A1 A2) (hw : lq_H s D cy A1 A2 q3 M1 M2 H locs)
    (hM : ti_Kl l y cc2 n2 ret k2 ti_LT D A1 cy M1 (.ref (A1 0 0) :: av) post) (hV : ti_V own idx y cc2 n2 ret) (hd : ti_Vd y av.length) (hcl : vwCl[9]? = some (y.cls, T, N)) (hst : st = av.reverse ++ .ref (A1 0 0) :: rest) (hsz : ls.size = nL) (hrs : (rest.map fun v => v.category).sum ≤ 8) (hR : k2 + 1 ≤ R.frames ∧ 8 + (n2 + 11) + 60 * k2 ≤ R.locals) (hcs : cells ≤ R.cells ∧ slots ≤ R.slots) (hdg : decode cc pc = .ok (.invokevirtual idx, 3))
    (kk : ∀ (r : Int64) (M3 : ti_M) (H1 : Heap) (locs1 : List Loc), post r M3 → lq_H s D cy A1 A2 q3 M3 M2 H1 locs1 → W p l e R s m args below meth c H1 locs1 cells slots Q (F0 m (pc + 3) ls (.long r :: rest))) : W p l e R s m args below meth c H locs cells slots Q (F0 m pc ls st) := by
  have C1 : ti_C p s m c args cc own nL D cy ti_LT A1 := ⟨C.1, C.2.1, C.2.2.1, C.2.2.2.1, C.2.2.2.2.1, C.2.2.2.2.2.1, hA.1, ti_LT_nd⟩
  have hw1 : ti_H ti_LT D A1 cy H M1 H [] := ⟨hw.1, va_S.rf⟩
  subst hst
  refine va_calll (va_runV (As := av) (rest := rest) ⟨C.1, C.2.1, C.2.2.2.2.2.1, C.2.2.2.1, C.2.2.1⟩ hM (ti_cwV C1 hV hd hR) ⟨ti_blind, ti_recv C1 hw1 ob_0 (by decide) hcl, ti_pre C1 hw1⟩ rfl rfl hsz rfl (lv_room hrs) hdg ⟨hcs.1, hcs.2⟩) hw.2.2.1 (fun q _ h => hA.2.2.1 q h) (fun q h => hA.2.2.1 q h) ?_
  intro r u t H1 locs1 ht hvm hpo hB hz hk hS
  have K2 := hw.2.1.kept (H1 := H1) (fun k q hq => by
    have hq2 := (ti_W_D hA.2.1 cy M2).2 k q hq
    exact hk q.1 ((hw.2.1 k q hq).lt) (fun h => hA.2.2.2.2 q.1 h hq2))
  exact kk r u H1 locs1 hpo ⟨by rw [← ht]; exact hB, K2, hS, hw.2.2.2.kept (fun h9 => hk q3 h9 hw.2.2.2.2.1)⟩
theorem lq_callMi {y : MethodName} {cc2 : ByteArray} {n2 k2 idx : Nat} {ret : Option FieldType} {av st : List Value} {post : Int32 → ti_M → Prop} {T : u_T} {N : Nat} (C : lq_B p s m c args cc own nL D cy) (hA : lq_A s A1 A2) (hw : lq_H s D cy A1 A2 q3 M1 M2 H locs)
    (hM : ti_Ki l y cc2 n2 ret k2 ti_LM D A2 cy M2 (.ref (A2 60 0) :: av) post) (hV : ti_V own idx y cc2 n2 ret) (hd : ti_Vd y av.length) (hcl : vwCl[10]? = some (y.cls, T, N)) (hst : st = av.reverse ++ .ref (A2 60 0) :: rest) (hsz : ls.size = nL) (hrs : (rest.map fun v => v.category).sum ≤ 8) (hR : k2 + 1 ≤ R.frames ∧ 8 + (n2 + 11) + 60 * k2 ≤ R.locals) (hcs : cells ≤ R.cells ∧ slots ≤ R.slots) (hdg : decode cc pc = .ok (.invokevirtual idx, 3))
    (kk : ∀ (r : Int32) (M3 : ti_M) (H1 : Heap) (locs1 : List Loc), post r M3 → lq_H s D cy A1 A2 q3 M1 M3 H1 locs1 → W p l e R s m args below meth c H1 locs1 cells slots Q (F0 m (pc + 3) ls (.int r :: rest))) : W p l e R s m args below meth c H locs cells slots Q (F0 m pc ls st) := by
  have C1 : ti_C p s m c args cc own nL D cy ti_LM A2 := ⟨C.1, C.2.1, C.2.2.1, C.2.2.2.1, C.2.2.2.2.1, C.2.2.2.2.2.1, hA.2.1, ti_LM_nd⟩
  have hw1 : ti_H ti_LM D A2 cy H M2 H [] := ⟨hw.2.1, va_S.rf⟩
  subst hst
  refine va_calli (va_runV (As := av) (rest := rest) ⟨C.1, C.2.1, C.2.2.2.2.2.1, C.2.2.2.1, C.2.2.1⟩ hM (ti_cwV C1 hV hd hR) ⟨ti_blind, ti_recv C1 hw1 ob_60 (by decide) hcl, ti_pre C1 hw1⟩ rfl rfl hsz rfl (lv_room hrs) hdg ⟨hcs.1, hcs.2⟩) hw.2.2.1 (fun q _ h => hA.2.2.2.1 q h) (fun q h => hA.2.2.2.1 q h) ?_
  intro r u t H1 locs1 ht hvm hpo hB hz hk hS
  have K2 := hw.1.kept (H1 := H1) (fun k q hq => by
    have hq2 := (ti_W_D hA.1 cy M1).2 k q hq
    exact hk q.1 ((hw.1 k q hq).lt) (fun h => hA.2.2.2.2 q.1 hq2 h))
  exact kk r u H1 locs1 hpo ⟨K2, by rw [← ht]; exact hB, hS, hw.2.2.2.kept (fun h9 => hk q3 h9 hw.2.2.2.2.2.1)⟩
theorem lq_callMl {y : MethodName} {cc2 : ByteArray} {n2 k2 idx : Nat} {ret : Option FieldType} {av st : List Value} {post : Int64 → ti_M → Prop} {T : u_T} {N : Nat} (C : lq_B p s m c args cc own nL D cy) (hA : lq_A s A1 A2) (hw : lq_H s D cy A1 A2 q3 M1 M2 H locs)
    (hM : ti_Kl l y cc2 n2 ret k2 ti_LM D A2 cy M2 (.ref (A2 60 0) :: av) post) (hV : ti_V own idx y cc2 n2 ret) (hd : ti_Vd y av.length) (hcl : vwCl[10]? = some (y.cls, T, N)) (hst : st = av.reverse ++ .ref (A2 60 0) :: rest) (hsz : ls.size = nL) (hrs : (rest.map fun v => v.category).sum ≤ 8) (hR : k2 + 1 ≤ R.frames ∧ 8 + (n2 + 11) + 60 * k2 ≤ R.locals) (hcs : cells ≤ R.cells ∧ slots ≤ R.slots) (hdg : decode cc pc = .ok (.invokevirtual idx, 3))
    (kk : ∀ (r : Int64) (M3 : ti_M) (H1 : Heap) (locs1 : List Loc), post r M3 → lq_H s D cy A1 A2 q3 M1 M3 H1 locs1 → W p l e R s m args below meth c H1 locs1 cells slots Q (F0 m (pc + 3) ls (.long r :: rest))) : W p l e R s m args below meth c H locs cells slots Q (F0 m pc ls st) := by
  have C1 : ti_C p s m c args cc own nL D cy ti_LM A2 := ⟨C.1, C.2.1, C.2.2.1, C.2.2.2.1, C.2.2.2.2.1, C.2.2.2.2.2.1, hA.2.1, ti_LM_nd⟩
  have hw1 : ti_H ti_LM D A2 cy H M2 H [] := ⟨hw.2.1, va_S.rf⟩
  subst hst
  refine va_calll (va_runV (As := av) (rest := rest) ⟨C.1, C.2.1, C.2.2.2.2.2.1, C.2.2.2.1, C.2.2.1⟩ hM (ti_cwV C1 hV hd hR) ⟨ti_blind, ti_recv C1 hw1 ob_60 (by decide) hcl, ti_pre C1 hw1⟩ rfl rfl hsz rfl (lv_room hrs) hdg ⟨hcs.1, hcs.2⟩) hw.2.2.1 (fun q _ h => hA.2.2.2.1 q h) (fun q h => hA.2.2.2.1 q h) ?_
  intro r u t H1 locs1 ht hvm hpo hB hz hk hS
  have K2 := hw.1.kept (H1 := H1) (fun k q hq => by
    have hq2 := (ti_W_D hA.1 cy M1).2 k q hq
    exact hk q.1 ((hw.1 k q hq).lt) (fun h => hA.2.2.2.2 q.1 hq2 h))
  exact kk r u H1 locs1 hpo ⟨K2, by rw [← ht]; exact hB, hS, hw.2.2.2.kept (fun h9 => hk q3 h9 hw.2.2.2.2.2.1)⟩
theorem lq_callTiE {y : MethodName} {cc2 : ByteArray} {n2 k2 idx : Nat} {ret : Option FieldType} {av st : List Value} {post : Int32 → ti_M → Prop} {T : u_T} {N : Nat} (C : lq_B p s m c args cc own nL D cy) (hA : lq_A s A1 A2) (hE : tx_E (lq_F s) s s.heap) (hw : lq_H s D cy A1 A2 q3 M1 M2 H locs)
    (hM : ti_KiE l y cc2 n2 ret k2 ti_LT D A1 cy M1 (.ref (A1 0 0) :: av) post) (hV : ti_V own idx y cc2 n2 ret) (hd : ti_Vd y av.length) (hcl : vwCl[9]? = some (y.cls, T, N)) (hst : st = av.reverse ++ .ref (A1 0 0) :: rest) (hsz : ls.size = nL) (hrs : (rest.map fun v => v.category).sum ≤ 8) (hR : k2 + 1 ≤ R.frames ∧ 8 + (n2 + 11) + 60 * k2 ≤ R.locals) (hcs : cells ≤ R.cells ∧ slots ≤ R.slots) (hdg : decode cc pc = .ok (.invokevirtual idx, 3))
    (kk : ∀ (r : Int32) (M3 : ti_M) (H1 : Heap) (locs1 : List Loc), post r M3 → lq_H s D cy A1 A2 q3 M3 M2 H1 locs1 → W p l e R s m args below meth c H1 locs1 cells slots Q (F0 m (pc + 3) ls (.int r :: rest))) : W p l e R s m args below meth c H locs cells slots Q (F0 m pc ls st) := by
  have C1 : ti_C p s m c args cc own nL D cy ti_LT A1 := ⟨C.1, C.2.1, C.2.2.1, C.2.2.2.1, C.2.2.2.2.1, C.2.2.2.2.2.1, hA.1, ti_LT_nd⟩
  have hw1 : ti_H ti_LT D A1 cy H M1 H [] := ⟨hw.1, va_S.rf⟩
  subst hst
  refine va_calli (va_runV (As := av) (rest := rest) ⟨C.1, C.2.1, C.2.2.2.2.2.1, C.2.2.2.1, C.2.2.1⟩ hM (ti_cwV C1 hV hd hR) ⟨ti_blindE, ti_recv C1 hw1 ob_0 (by decide) hcl, ti_preE C1 ((hE.kept hw.2.2.1.2.1).narrow (fun q h => hA.2.2.1 q h)) hw1⟩ rfl rfl hsz rfl (lv_room hrs) hdg ⟨hcs.1, hcs.2⟩) hw.2.2.1 (fun q _ h => hA.2.2.1 q h) (fun q h => hA.2.2.1 q h) ?_
  intro r u t H1 locs1 ht hvm hpo hB hz hk hS
  have K2 := hw.2.1.kept (H1 := H1) (fun k q hq => by
    have hq2 := (ti_W_D hA.2.1 cy M2).2 k q hq
    exact hk q.1 ((hw.2.1 k q hq).lt) (fun h => hA.2.2.2.2 q.1 h hq2))
  exact kk r u H1 locs1 hpo ⟨by rw [← ht]; exact hB, K2, hS, hw.2.2.2.kept (fun h9 => hk q3 h9 hw.2.2.2.2.1)⟩
theorem lq_callMiE {y : MethodName} {cc2 : ByteArray} {n2 k2 idx : Nat} {ret : Option FieldType} {av st : List Value} {post : Int32 → ti_M → Prop} {T : u_T} {N : Nat} (C : lq_B p s m c args cc own nL D cy) (hA : lq_A s A1 A2) (hE : tx_E (lq_F s) s s.heap) (hw : lq_H s D cy A1 A2 q3 M1 M2 H locs)
    (hM : ti_KiE l y cc2 n2 ret k2 ti_LM D A2 cy M2 (.ref (A2 60 0) :: av) post) (hV : ti_V own idx y cc2 n2 ret) (hd : ti_Vd y av.length) (hcl : vwCl[10]? = some (y.cls, T, N)) (hst : st = av.reverse ++ .ref (A2 60 0) :: rest) (hsz : ls.size = nL) (hrs : (rest.map fun v => v.category).sum ≤ 8) (hR : k2 + 1 ≤ R.frames ∧ 8 + (n2 + 11) + 60 * k2 ≤ R.locals) (hcs : cells ≤ R.cells ∧ slots ≤ R.slots) (hdg : decode cc pc = .ok (.invokevirtual idx, 3))
    (kk : ∀ (r : Int32) (M3 : ti_M) (H1 : Heap) (locs1 : List Loc), post r M3 → lq_H s D cy A1 A2 q3 M1 M3 H1 locs1 → W p l e R s m args below meth c H1 locs1 cells slots Q (F0 m (pc + 3) ls (.int r :: rest))) : W p l e R s m args below meth c H locs cells slots Q (F0 m pc ls st) := by
  have C1 : ti_C p s m c args cc own nL D cy ti_LM A2 := ⟨C.1, C.2.1, C.2.2.1, C.2.2.2.1, C.2.2.2.2.1, C.2.2.2.2.2.1, hA.2.1, ti_LM_nd⟩
  have hw1 : ti_H ti_LM D A2 cy H M2 H [] := ⟨hw.2.1, va_S.rf⟩
  subst hst
  refine va_calli (va_runV (As := av) (rest := rest) ⟨C.1, C.2.1, C.2.2.2.2.2.1, C.2.2.2.1, C.2.2.1⟩ hM (ti_cwV C1 hV hd hR) ⟨ti_blindE, ti_recv C1 hw1 ob_60 (by decide) hcl, ti_preE C1 ((hE.kept hw.2.2.1.2.1).narrow (fun q h => hA.2.2.2.1 q h)) hw1⟩ rfl rfl hsz rfl (lv_room hrs) hdg ⟨hcs.1, hcs.2⟩) hw.2.2.1 (fun q _ h => hA.2.2.2.1 q h) (fun q h => hA.2.2.2.1 q h) ?_
  intro r u t H1 locs1 ht hvm hpo hB hz hk hS
  have K2 := hw.1.kept (H1 := H1) (fun k q hq => by
    have hq2 := (ti_W_D hA.1 cy M1).2 k q hq
    exact hk q.1 ((hw.1 k q hq).lt) (fun h => hA.2.2.2.2 q.1 hq2 h))
  exact kk r u H1 locs1 hpo ⟨K2, by rw [← ht]; exact hB, hS, hw.2.2.2.kept (fun h9 => hk q3 h9 hw.2.2.2.2.2.1)⟩
end
theorem lq_in {iv k : Int32} {L : Nat} (hi : 0 ≤ iv.toInt ∧ iv.toInt + 6 ≤ L) (hL : L ≤ 3072) (h0 : 0 ≤ k.toInt) (h5 : k.toInt ≤ 5) : vp_in (iv + k) L := by
  have t : (iv + k).toInt = iv.toInt + k.toInt := i_add rfl rfl rfl (by omega) (by omega)
  exact vp_in_iff.mpr (by omega)
theorem lq_in0 {iv : Int32} {L : Nat} (hi : 0 ≤ iv.toInt ∧ iv.toInt + 6 ≤ L) : vp_in iv L := vp_in_iff.mpr (by omega)
/-- class and reference between two calls of the script -/
def lq_I (M1 M2 : ti_M) : Prop := ∃ (Tc : gC) (Tm : gM), cF Tc M1 ∧ mF Tm M2 ∧ tI M1 2 1 = tI M2 60 2 ∧ (∀ i : Nat, (i : Int) < (tI M1 2 1).toInt → (Tc.1 i &&& 255).toInt = (Tm.1 i).toInt) ∧ (tI M1 1 4).toInt = Tm.2.1.toInt ∧ (tI M1 1 5).toInt = Tm.2.2.1.toInt ∧ Tc.2.1.toInt = Tm.2.2.2.1.toInt ∧ Tc.2.2.1.toInt = Tm.2.2.2.2.1.toInt ∧ ∃ rg : Nat → Int, tdC M1 rg ∧ tdR M2 rg ∧ lE M1 M2
theorem lq_fd {M1 M2 N1 N2 : ti_M} {Tc : gC} {Tm : gM} {r1 r2 z1 z2 z3 z4 z5 : Int32} (h1 : cF Tc M1) (h2 : mF Tm M2) (h : tI M1 2 1 = tI M2 60 2) (hB : ∀ i : Nat, (i : Int) < (tI M1 2 1).toInt → (Tc.1 i &&& 255).toInt = (Tm.1 i).toInt) (hR : (tI M1 1 4).toInt = Tm.2.1.toInt ∧ (tI M1 1 5).toInt = Tm.2.2.1.toInt) (hS : Tc.2.1.toInt = Tm.2.2.2.1.toInt ∧ Tc.2.2.1.toInt = Tm.2.2.2.2.1.toInt) (h5 : ∀ k : Nat, tI N1 50 k = tI M1 50 k) {rg : Nat → Int} (hd1 : tdC N1 rg) (hd2 : tdR N2 rg) (hle : lE N1 N2)
    (p1 : (680 < (tI M1 2 1).toInt ∧ r1.toInt = -1 ∧ cF Tc N1 ∧ tI N1 2 1 = tI M1 2 1 ∧ (∀ k : Nat, tI N1 1 k = tI M1 1 k)) ∨ ((tI M1 2 1).toInt ≤ 680 ∧ r1.toInt = (tI M1 2 1).toInt + 20 ∧ cF (cG N1) N1 ∧ (tI N1 2 1).toInt = (tI M1 2 1).toInt + 20 ∧ (∀ i : Nat, (i : Int) < (tI M1 2 1).toInt → tY N1 2 0 i = tY M1 2 0 i) ∧ (∀ j : Nat, j < 20 → (tY N1 2 0 ((tI M1 2 1).toInt.toNat + j) &&& 255).toInt = pp_fb z1 z2 z3 z4 z5 j) ∧ (∀ k : Nat, tI N1 1 k = tI M1 1 k))) (p2 : (680 < (tI M2 60 2).toInt ∧ r2.toInt = -1 ∧ mF (mG N2) N2 ∧ tI N2 60 2 = tI M2 60 2 ∧ tY N2 60 1 = tY M2 60 1 ∧ tI N2 60 27 = tI M2 60 27 ∧ tI N2 60 28 = tI M2 60 28 ∧ tI N2 60 58 = tI M2 60 58 ∧ tI N2 60 59 = tI M2 60 59) ∨ ((tI M2 60 2).toInt ≤ 680 ∧ r2.toInt = (tI M2 60 2).toInt + 20 ∧ mF (mG N2) N2 ∧ (tI N2 60 2).toInt = (tI M2 60 2).toInt + 20 ∧ (∀ i : Nat, (i : Int) < (tI M2 60 2).toInt → tY N2 60 1 i = tY M2 60 1 i) ∧ (∀ j : Nat, j < 20 → (tY N2 60 1 ((tI M2 60 2).toInt.toNat + j)).toInt = pp_fb z1 z2 z3 z4 z5 j) ∧ tI N2 60 27 = tI M2 60 27 ∧ tI N2 60 28 = tI M2 60 28 ∧ tI N2 60 58 = tI M2 60 58 ∧ tI N2 60 59 = tI M2 60 59)) : r1.toInt = r2.toInt ∧ lq_I N1 N2 := by
  have eT : tY M1 2 0 = Tc.1 := congrArg (fun t => t.1) h1.1.2.2
  have eT5 : tI M1 50 5 = Tc.2.1 := congrArg (fun t => t.2.1) h1.1.2.2
  have eT6 : tI M1 50 6 = Tc.2.2.1 := congrArg (fun t => t.2.2.1) h1.1.2.2
  have eM : tY M2 60 1 = Tm.1 := congrArg (fun t => t.1) h2.1.2.2.2
  have eM7 : tI M2 60 27 = Tm.2.1 := congrArg (fun t => t.2.1) h2.1.2.2.2
  have eM8 : tI M2 60 28 = Tm.2.2.1 := congrArg (fun t => t.2.2.1) h2.1.2.2.2
  have eS5 : tI M2 60 58 = Tm.2.2.2.1 := congrArg (fun t => t.2.2.2.1) h2.1.2.2.2
  have eS6 : tI M2 60 59 = Tm.2.2.2.2.1 := congrArg (fun t => t.2.2.2.2.1) h2.1.2.2.2
  have b1 : 0 ≤ (tI M1 2 1).toInt ∧ (tI M1 2 1).toInt ≤ 700 := cI_rd (x := tI M1 2 1) (k := 1) h1.1 ob_2.1 rfl
  rcases p1 with ⟨a1, a2, a3, a4, a9⟩ | ⟨a1, a2, a3, a4, a5, a6, a9⟩ <;> rcases p2 with ⟨c1, c2, c3, c4, c5, c7, c8, c9, c10⟩ | ⟨c1, c2, c3, c4, c5, c6, c7, c8, c9, c10⟩
  · refine ⟨by omega, Tc, mG N2, a3, c3, a4.trans (h.trans c4.symm), fun i hi => ?_, (congrArg Int32.toInt (a9 4)).trans (hR.1.trans (congrArg Int32.toInt (eM7.symm.trans c7.symm))), (congrArg Int32.toInt (a9 5)).trans (hR.2.trans (congrArg Int32.toInt (eM8.symm.trans c8.symm))), hS.1.trans (congrArg Int32.toInt (eS5.symm.trans c9.symm)), hS.2.trans (congrArg Int32.toInt (eS6.symm.trans c10.symm)), rg, hd1, hd2, hle⟩
    rw [a4] at hi
    show _ = (tY N2 60 1 i).toInt
    rw [c5, eM]; exact hB i hi
  · rw [h] at a1; omega
  · rw [h] at a1; omega
  · rw [h] at a2 a4 a5 a6 b1
    refine ⟨by omega, cG N1, mG N2, a3, c3, Int32.toInt_inj.mp (by omega), fun i hi => ?_, (congrArg Int32.toInt (a9 4)).trans (hR.1.trans (congrArg Int32.toInt (eM7.symm.trans c7.symm))), (congrArg Int32.toInt (a9 5)).trans (hR.2.trans (congrArg Int32.toInt (eM8.symm.trans c8.symm))), (congrArg Int32.toInt ((h5 5).trans eT5)).trans (hS.1.trans (congrArg Int32.toInt (eS5.symm.trans c9.symm))), (congrArg Int32.toInt ((h5 6).trans eT6)).trans (hS.2.trans (congrArg Int32.toInt (eS6.symm.trans c10.symm))), rg, hd1, hd2, hle⟩
    show (tY N1 2 0 i &&& 255).toInt = (tY N2 60 1 i).toInt
    by_cases q : (i : Int) < (tI M2 60 2).toInt
    · rw [a5 i q, c5 i q, eT, eM]; exact hB i (by rw [h]; exact q)
    · have e : (tI M2 60 2).toInt.toNat + (i - (tI M2 60 2).toInt.toNat) = i := by omega
      have g1 := a6 (i - (tI M2 60 2).toInt.toNat) (by omega)
      have g2 := c6 (i - (tI M2 60 2).toInt.toNat) (by omega)
      rw [e] at g1 g2
      rw [g1, g2]
theorem td_0 {M1 M2 : ti_M} (a : tT M1 0 1 = some 3) (b : tT M1 0 2 = some 4) (c : tI M1 3 4 = 0) (d : tY M2 60 3 0 = 0) : ∃ rg : Nat → Int, tdC M1 rg ∧ tdR M2 rg := by
  refine ⟨fun k => if k < 100 then 0 else (tI M1 (ti_men 3 (k - 100)) 0).toInt, ⟨3, Or.inl rfl, a, b, by rw [c]; rfl, fun i hi => ?_⟩, by rw [d]; rfl, fun i hi hl => ?_⟩
  · show (if 100 + i < 100 then (0 : Int) else (tI M1 (ti_men 3 (100 + i - 100)) 0).toInt) = _
    rw [if_neg (by omega), Nat.add_sub_cancel_left]
  · exact absurd hl (by show ¬ (i : Int) < (if 7 < 100 then (0 : Int) else _); rw [if_pos (by decide)]; omega)
/-- the class's text, the reference's: what they leave -/
def lT1 (Tc : gC) (nn r : Int32) (rg J K J2 : Nat → Int) (N1 M1 : ti_M) : Prop := ((nn.toInt < 0 ∨ (tI M1 2 1).toInt < nn.toInt) ∧ r.toInt = -2 ∧ N1 = M1) ∨ (¬ (nn.toInt < 0 ∨ (tI M1 2 1).toInt < nn.toInt) ∧ cF (cG N1) N1 ∧ tI N1 2 1 = 0 ∧ r.toInt = pp_an (pp_tx (fun i => (Tc.1 i &&& 255).toInt) nn.toInt.toNat J) ∧ (tI N1 1 4).toInt = (pp_tx (fun i => (Tc.1 i &&& 255).toInt) nn.toInt.toNat J) 4 ∧ (tI N1 1 5).toInt = (pp_tx (fun i => (Tc.1 i &&& 255).toInt) nn.toInt.toNat J) 5 ∧ ((pp_tx (fun i => (Tc.1 i &&& 255).toInt) nn.toInt.toNat J) 4 ≠ 0 → tdC N1 rg ∧ cG N1 = Tc ∧ rR N1 M1 ∧ (∀ (t0 : Nat) (tx0 : Nat → Int), tT M1 0 1 = some t0 → tC t0 tx0 M1 → tC t0 tx0 N1) ∧ ∀ o k : Nat, (o = 0 ∨ 26 < o) → tI N1 o k = tI M1 o k ∧ tY N1 o k = tY M1 o k) ∧ ((pp_tx (fun i => (Tc.1 i &&& 255).toInt) nn.toInt.toNat J) 4 = 0 → tdC N1 (pp_tx (fun i => (Tc.1 i &&& 255).toInt) nn.toInt.toNat J) ∧ ∃ t : Nat, (t = 3 ∨ t = 4) ∧ tC t (tX (pp_tx (fun i => (Tc.1 i &&& 255).toInt) nn.toInt.toNat J) (qq_tx (fun i => (Tc.1 i &&& 255).toInt) nn.toInt.toNat J K)) N1 ∧ tT N1 0 1 = some t ∧ tT N1 27 0 = some t ∧ qC 27 (bq_s0 (tX (pp_tx (fun i => (Tc.1 i &&& 255).toInt) nn.toInt.toNat J) (qq_tx (fun i => (Tc.1 i &&& 255).toInt) nn.toInt.toNat J K)) J2) N1 ∧ tI N1 28 2 = 0 ∧ tI N1 0 7 = 0 ∧ tI N1 50 5 = 0 ∧ tI N1 50 6 = -1))
def lT2 (Tc : gC) (Tm : gM) (nn r : Int32) (J K J2 : Nat → Int) (N2 M2 : ti_M) : Prop := ((nn.toInt < 0 ∨ (tI M2 60 2).toInt < nn.toInt) ∧ r.toInt = -2 ∧ mF Tm N2 ∧ tI N2 60 2 = tI M2 60 2 ∧ ∃ z : Int32, N2 = uI M2 60 0 z) ∨ (¬ (nn.toInt < 0 ∨ (tI M2 60 2).toInt < nn.toInt) ∧ tI N2 60 2 = 0 ∧ mF (mG N2) N2 ∧ r.toInt = pp_an (pp_tx (fun i => (Tc.1 i &&& 255).toInt) nn.toInt.toNat J) ∧ (tI N2 60 27).toInt = (pp_tx (fun i => (Tc.1 i &&& 255).toInt) nn.toInt.toNat J) 4 ∧ (tI N2 60 28).toInt = (pp_tx (fun i => (Tc.1 i &&& 255).toInt) nn.toInt.toNat J) 5 ∧ ((pp_tx (fun i => (Tc.1 i &&& 255).toInt) nn.toInt.toNat J) 4 ≠ 0 → lx N2 M2 ∧ gU N2 M2) ∧ ((pp_tx (fun i => (Tc.1 i &&& 255).toInt) nn.toInt.toNat J) 4 = 0 → tdR N2 (pp_tx (fun i => (Tc.1 i &&& 255).toInt) nn.toInt.toNat J) ∧ tW (tX (pp_tx (fun i => (Tc.1 i &&& 255).toInt) nn.toInt.toNat J) (qq_tx (fun i => (Tc.1 i &&& 255).toInt) nn.toInt.toNat J K)) ∧ tR (tX (pp_tx (fun i => (Tc.1 i &&& 255).toInt) nn.toInt.toNat J) (qq_tx (fun i => (Tc.1 i &&& 255).toInt) nn.toInt.toNat J K)) N2 ∧ qR ((tX (pp_tx (fun i => (Tc.1 i &&& 255).toInt) nn.toInt.toNat J) (qq_tx (fun i => (Tc.1 i &&& 255).toInt) nn.toInt.toNat J K)) 4).toNat 0 (bq_s0 (tX (pp_tx (fun i => (Tc.1 i &&& 255).toInt) nn.toInt.toNat J) (qq_tx (fun i => (Tc.1 i &&& 255).toInt) nn.toInt.toNat J K)) J2) N2 ∧ qV ((tX (pp_tx (fun i => (Tc.1 i &&& 255).toInt) nn.toInt.toNat J) (qq_tx (fun i => (Tc.1 i &&& 255).toInt) nn.toInt.toNat J K)) 4).toNat 0 (bq_s0 (tX (pp_tx (fun i => (Tc.1 i &&& 255).toInt) nn.toInt.toNat J) (qq_tx (fun i => (Tc.1 i &&& 255).toInt) nn.toInt.toNat J K)) J2) N2 ∧ tI N2 60 51 = 0 ∧ tI N2 60 52 = 0 ∧ tI N2 60 53 = tI M2 60 53 ∧ tI N2 60 58 = 0 ∧ tI N2 60 59 = -1))
theorem lq_tJ {M1 N1 : ti_M} {Tc : gC} {nn r : Int32} {rg : Nat → Int} (p : ((nn.toInt < 0 ∨ (tI M1 2 1).toInt < nn.toInt) ∧ r.toInt = -2 ∧ N1 = M1) ∨ (¬ (nn.toInt < 0 ∨ (tI M1 2 1).toInt < nn.toInt) ∧ cF (cG N1) N1 ∧ tI N1 2 1 = 0 ∧ ∃ J K : Nat → Int, r.toInt = pp_an (pp_tx (fun i => (Tc.1 i &&& 255).toInt) nn.toInt.toNat J) ∧ (tI N1 1 4).toInt = (pp_tx (fun i => (Tc.1 i &&& 255).toInt) nn.toInt.toNat J) 4 ∧ (tI N1 1 5).toInt = (pp_tx (fun i => (Tc.1 i &&& 255).toInt) nn.toInt.toNat J) 5 ∧ ((pp_tx (fun i => (Tc.1 i &&& 255).toInt) nn.toInt.toNat J) 4 ≠ 0 → tdC N1 rg ∧ cG N1 = Tc ∧ rR N1 M1 ∧ (∀ (t0 : Nat) (tx0 : Nat → Int), tT M1 0 1 = some t0 → tC t0 tx0 M1 → tC t0 tx0 N1) ∧ ∀ o k : Nat, (o = 0 ∨ 26 < o) → tI N1 o k = tI M1 o k ∧ tY N1 o k = tY M1 o k) ∧ ((pp_tx (fun i => (Tc.1 i &&& 255).toInt) nn.toInt.toNat J) 4 = 0 → tdC N1 (pp_tx (fun i => (Tc.1 i &&& 255).toInt) nn.toInt.toNat J) ∧ ∃ t : Nat, (t = 3 ∨ t = 4) ∧ tC t (tX (pp_tx (fun i => (Tc.1 i &&& 255).toInt) nn.toInt.toNat J) (qq_tx (fun i => (Tc.1 i &&& 255).toInt) nn.toInt.toNat J K)) N1 ∧ tT N1 0 1 = some t ∧ tT N1 27 0 = some t ∧ (∃ rg2 : Nat → Int, qC 27 (bq_s0 (tX (pp_tx (fun i => (Tc.1 i &&& 255).toInt) nn.toInt.toNat J) (qq_tx (fun i => (Tc.1 i &&& 255).toInt) nn.toInt.toNat J K)) rg2) N1) ∧ tI N1 28 2 = 0 ∧ tI N1 0 7 = 0 ∧ tI N1 50 5 = 0 ∧ tI N1 50 6 = -1))) : ∃ J K J2 : Nat → Int, lT1 Tc nn r rg J K J2 N1 M1 := by
  rcases p with p | ⟨a1, a2, a3, J, K, a4, a5, a6, a7, a8⟩
  · exact ⟨fun _ => 0, fun _ => 0, fun _ => 0, Or.inl p⟩
  · by_cases q : (pp_tx (fun i => (Tc.1 i &&& 255).toInt) nn.toInt.toNat J) 4 = 0
    · obtain ⟨b1, t, b2, b3, b4, b5, ⟨rg2, b6⟩, b7⟩ := a8 q
      exact ⟨J, K, rg2, Or.inr ⟨a1, a2, a3, a4, a5, a6, a7, fun _ => ⟨b1, t, b2, b3, b4, b5, b6, b7⟩⟩⟩
    · exact ⟨J, K, fun _ => 0, Or.inr ⟨a1, a2, a3, a4, a5, a6, a7, fun r => absurd r q⟩⟩
theorem lq_tx {M1 M2 N1 N2 : ti_M} {Tc : gC} {Tm : gM} {r1 r2 nn : Int32} {J K J2 : Nat → Int} (h1 : cF Tc M1) (h2 : mF Tm M2) (h : tI M1 2 1 = tI M2 60 2) (hB : ∀ i : Nat, (i : Int) < (tI M1 2 1).toInt → (Tc.1 i &&& 255).toInt = (Tm.1 i).toInt) (hR : (tI M1 1 4).toInt = Tm.2.1.toInt ∧ (tI M1 1 5).toInt = Tm.2.2.1.toInt) (hS : Tc.2.1.toInt = Tm.2.2.2.1.toInt ∧ Tc.2.2.1.toInt = Tm.2.2.2.2.1.toInt) {rg : Nat → Int} (hd1 : tdC M1 rg) (hd2 : tdR M2 rg) (hle : lE M1 M2)
    (p1 : lT1 Tc nn r1 rg J K J2 N1 M1) (p2 : lT2 Tc Tm nn r2 J K J2 N2 M2) : r1.toInt = r2.toInt ∧ lq_I N1 N2 := by
  have eS5 : tI M2 60 58 = Tm.2.2.2.1 := congrArg (fun t => t.2.2.2.1) h2.1.2.2.2
  have eS6 : tI M2 60 59 = Tm.2.2.2.2.1 := congrArg (fun t => t.2.2.2.2.1) h2.1.2.2.2
  unfold lT1 at p1
  unfold lT2 at p2
  rw [h] at p1
  rcases p1 with ⟨a1, a2, a3⟩ | ⟨a1, a2, a3, a4, a5, a6, a7, a8⟩ <;> rcases p2 with ⟨b1, b2, b3, b4, z, b5⟩ | ⟨b1, b2, b3, b4, b5, b6, b7, b8⟩
  · rw [a3]
    exact ⟨a2.trans b2.symm, Tc, Tm, h1, b3, h.trans b4.symm, hB, hR.1, hR.2, hS.1, hS.2, rg, hd1, tdR_lw hd2 (fun _ _ _ => by rw [b5]; exact tY_uIE rfl), lE_0 hle b5⟩
  · exact absurd a1 b1
  · exact absurd b1 a1
  · have T : ∀ i : Nat, (i : Int) < (tI N1 2 1).toInt → ((cG N1).1 i &&& 255).toInt = ((mG N2).1 i).toInt := fun i hi => by
      rw [a3] at hi
      have z0 : (0 : Int32).toInt = 0 := by decide
      omega
    by_cases q : (pp_tx (fun i => (Tc.1 i &&& 255).toInt) nn.toInt.toNat J) 4 = 0
    · obtain ⟨c1, t, c2, c3, c4, c5, c6, c7, c8, c9, c10⟩ := a8 q
      obtain ⟨d1, d2, d3, d4, d5, d6, d7, d8, d9, d10⟩ := b8 q
      obtain ⟨t7, tx7, s7, p7, si7, u7, c7x, hb7⟩ := id hle
      exact ⟨a4.trans b4.symm, cG N1, mG N2, a2, b3, a3.trans b2.symm, T, a5.trans b5.symm, a6.trans b6.symm, by show (tI N1 50 5).toInt = (tI N2 60 58).toInt; rw [c9, d9], by show (tI N1 50 6).toInt = (tI N2 60 59).toInt; rw [c10, d10], _, c1, d1, lE_new c2 c3 c4 c5 c6 c7 c8 d2 d3 d4 d5 d6 d7 (d8.trans hb7.2.2.1.2.2.2.2.2)⟩
    · obtain ⟨c1, c2, c3, c4, c5⟩ := a7 q
      obtain ⟨d1, d2⟩ := b7 q
      exact ⟨a4.trans b4.symm, cG N1, mG N2, a2, b3, a3.trans b2.symm, T, a5.trans b5.symm, a6.trans b6.symm, (congrArg (fun t => Int32.toInt t.2.1) c2).trans (hS.1.trans (congrArg Int32.toInt (eS5.symm.trans (d1.2.2.2.2 58 (by decide)).symm))), (congrArg (fun t => Int32.toInt t.2.2.1) c2).trans (hS.2.trans (congrArg Int32.toInt (eS6.symm.trans (d1.2.2.2.2 59 (by decide)).symm))), rg, c1, tdR_lx hd2 d1, lE_fl hle h2.1 d1 d2 c4 c5 c3⟩
theorem lq_st {M1 M2 N1 N2 : ti_M} {Tc : gC} {Tm : gM} {r1 r2 : Int32} {a1 a2 k : Int} {B1 B2 X1 X2 : Prop} (h1 : cF Tc M1) (h2 : mF Tm M2) (h : tI M1 2 1 = tI M2 60 2) (hB : ∀ i : Nat, (i : Int) < (tI M1 2 1).toInt → (Tc.1 i &&& 255).toInt = (Tm.1 i).toInt) (hR : (tI M1 1 4).toInt = Tm.2.1.toInt ∧ (tI M1 1 5).toInt = Tm.2.2.1.toInt) (hS : Tc.2.1.toInt = Tm.2.2.2.1.toInt ∧ Tc.2.2.1.toInt = Tm.2.2.2.2.1.toInt) {rg : Nat → Int} (hd1 : tdC M1 rg) (hd2 : tdR M2 rg)
    (hb : B1 ↔ B2) (hx : X1 → X2 → lw N2 M2 → a1 = a2 ∧ (tI N1 50 5).toInt = (tI N2 60 58).toInt ∧ (tI N1 50 6).toInt = (tI N2 60 59).toInt ∧ lE N1 N2) (hle : lE M1 M2)
    (p1 : (B1 ∧ r1.toInt = k ∧ N1 = M1) ∨ (¬ B1 ∧ r1.toInt = a1 ∧ cF (cG N1) N1 ∧ tI N1 2 1 = tI M1 2 1 ∧ tl N1 M1 ∧ tY N1 2 0 = tY M1 2 0 ∧ X1))
    (p2 : (B2 ∧ r2.toInt = k ∧ mF Tm N2 ∧ tI N2 60 2 = tI M2 60 2 ∧ lw N2 M2 ∧ qy N2 M2) ∨ (¬ B2 ∧ r2.toInt = a2 ∧ mF (mG N2) N2 ∧ tI N2 60 2 = tI M2 60 2 ∧ lw N2 M2 ∧ tY N2 60 1 = tY M2 60 1 ∧ tI N2 60 27 = tI M2 60 27 ∧ tI N2 60 28 = tI M2 60 28 ∧ X2)) : r1.toInt = r2.toInt ∧ lq_I N1 N2 := by
  have eT : tY M1 2 0 = Tc.1 := congrArg (fun t => t.1) h1.1.2.2
  have eM : tY M2 60 1 = Tm.1 := congrArg (fun t => t.1) h2.1.2.2.2
  have eM7 : tI M2 60 27 = Tm.2.1 := congrArg (fun t => t.2.1) h2.1.2.2.2
  have eM8 : tI M2 60 28 = Tm.2.2.1 := congrArg (fun t => t.2.2.1) h2.1.2.2.2
  rcases p1 with ⟨a, b, rfl⟩ | ⟨a, b, c, d, e, f, g⟩ <;> rcases p2 with ⟨x, y, z, u, v, v2⟩ | ⟨x, y, z, u, v, w, s, t, o⟩
  · exact ⟨b.trans y.symm, Tc, Tm, h1, z, h.trans u.symm, hB, hR.1, hR.2, hS.1, hS.2, rg, hd1, tdR_lw hd2 v, lE_eo hle (q := 2) eo.refl (Or.inl rfl) rfl v2 v⟩
  · exact absurd (hb.mp a) x
  · exact absurd (hb.mpr x) a
  · obtain ⟨q1, q2, q3, q4⟩ := hx g o v
    refine ⟨b.trans (q1.trans y.symm), cG N1, mG N2, c, z, d.trans (h.trans u.symm), fun i hi => ?_, (congrArg Int32.toInt ((e.1 1 4 (by decide) (by decide)))).trans (hR.1.trans (congrArg Int32.toInt (eM7.symm.trans s.symm))), (congrArg Int32.toInt ((e.1 1 5 (by decide) (by decide)))).trans (hR.2.trans (congrArg Int32.toInt (eM8.symm.trans t.symm))), q2, q3, rg, tdC_tl hd1 e, tdR_lw hd2 v, q4⟩
    show (tY N1 2 0 i &&& 255).toInt = (tY N2 60 1 i).toInt
    rw [f, w, eT, eM]
    rw [d] at hi
    exact hB i hi
/-- steps -/
theorem lq_sp {M1 M2 N1 N2 : ti_M} {Tc : gC} {Tm : gM} {r1 r2 : Int32} {a1 a2 k : Int} {P1 P2 Q1 Q2 X Y Y0 : Prop} (h1 : cF Tc M1) (h : tI M1 2 1 = tI M2 60 2) (hB : ∀ i : Nat, (i : Int) < (tI M1 2 1).toInt → (Tc.1 i &&& 255).toInt = (Tm.1 i).toInt) (hR : (tI M1 1 4).toInt = Tm.2.1.toInt ∧ (tI M1 1 5).toInt = Tm.2.2.1.toInt) (hS : Tc.2.1.toInt = Tm.2.2.2.1.toInt ∧ Tc.2.2.1.toInt = Tm.2.2.2.2.1.toInt) {rg : Nat → Int} (hd1 : tdC M1 rg) (hd2 : tdR M2 rg)
    (p1 : (Q1 ∧ r1.toInt = k ∧ N1 = M1) ∨ (P1 ∧ r1.toInt = a1 ∧ cF Tc N1 ∧ kG N1 M1 ∧ X)) (p2 : ((Q2 ∧ r2.toInt = k ∧ Y0) ∨ (P2 ∧ r2.toInt = a2 ∧ Y)) ∧ iR N2 M2 ∧ mF Tm N2 ∧ tI N2 60 2 = tI M2 60 2 ∧ lw N2 M2) (ha : P1 → a1 = a2) (h12 : Q1 → ¬ P2) (h21 : Q2 → ¬ P1) (h0 : iR N2 M2 → Y0 → lE M1 N2) (hx : P1 → kG N1 M1 → iR N2 M2 → X → Y → lE N1 N2) : r1.toInt = r2.toInt ∧ lq_I N1 N2 := by
  obtain ⟨p2, i, f, e, l⟩ := p2
  rcases p1 with ⟨b1, b2, b3⟩ | ⟨b1, b2, b3, b4, b5⟩ <;> rcases p2 with ⟨d1, d2, d3⟩ | ⟨d1, d2, d3⟩
  · rw [b3]
    exact ⟨b2.trans d2.symm, Tc, Tm, h1, f, h.trans e.symm, hB, hR.1, hR.2, hS.1, hS.2, rg, hd1, tdR_lw hd2 l, h0 i d3⟩
  · exact absurd d1 (h12 b1)
  · exact absurd b1 (h21 d1)
  · have e2 := (b4.1 2 1 (by decide)).1
    exact ⟨b2.trans ((ha b1).trans d2.symm), Tc, Tm, b3, f, e2.trans (h.trans e.symm), fun j hj => hB j (by rw [← e2]; exact hj), (congrArg Int32.toInt (b4.1 1 4 (by decide)).1).trans hR.1, (congrArg Int32.toInt (b4.1 1 5 (by decide)).1).trans hR.2, hS.1, hS.2, rg, tdC_tl hd1 (tl_kG b4), tdR_lw hd2 l, hx b1 b4 i b5 d3⟩
/-- observers -/
theorem lq_ob {M1 M2 N1 N2 : ti_M} {Tc : gC} {Tm : gM} {r1 r2 : Int32} {V1 V2 : Int} {Y0 : Prop} (h1 : cF Tc M1) (h : tI M1 2 1 = tI M2 60 2) (hB : ∀ i : Nat, (i : Int) < (tI M1 2 1).toInt → (Tc.1 i &&& 255).toInt = (Tm.1 i).toInt) (hR : (tI M1 1 4).toInt = Tm.2.1.toInt ∧ (tI M1 1 5).toInt = Tm.2.2.1.toInt) (hS : Tc.2.1.toInt = Tm.2.2.2.1.toInt ∧ Tc.2.2.1.toInt = Tm.2.2.2.2.1.toInt) {rg : Nat → Int} (hd1 : tdC M1 rg) (hd2 : tdR M2 rg)
    (p1 : N1 = M1 ∧ r1.toInt = V1) (p2 : r2.toInt = V2 ∧ Y0 ∧ iR N2 M2 ∧ mF Tm N2 ∧ tI N2 60 2 = tI M2 60 2 ∧ lw N2 M2) (hv : V1 = V2) (h0 : iR N2 M2 → Y0 → lE M1 N2) : r1.toInt = r2.toInt ∧ lq_I N1 N2 := by
  obtain ⟨b3, b2⟩ := p1
  obtain ⟨d2, d3, i, f, e, l⟩ := p2
  rw [b3]
  exact ⟨b2.trans (hv.trans d2.symm), Tc, Tm, h1, f, h.trans e.symm, hB, hR.1, hR.2, hS.1, hS.2, rg, hd1, tdR_lw hd2 l, h0 i d3⟩
theorem lq_kp {M1 M2 N1 N2 : ti_M} {Tc : gC} {Tm : gM} {r1 r2 : Int32} {t : Nat} {tx s p si : Nat → Int} {u : Nat → Nat → Int} {c : Int} (h : tI M1 2 1 = tI M2 60 2) (hB : ∀ i : Nat, (i : Int) < (tI M1 2 1).toInt → (Tc.1 i &&& 255).toInt = (Tm.1 i).toInt) (hR : (tI M1 1 4).toInt = Tm.2.1.toInt ∧ (tI M1 1 5).toInt = Tm.2.2.1.toInt) (hS : Tc.2.1.toInt = Tm.2.2.2.1.toInt ∧ Tc.2.2.1.toInt = Tm.2.2.2.2.1.toInt) {rg : Nat → Int} (hd1 : tdC M1 rg) (hd2 : tdR M2 rg) (hb : lB t tx s p si u c M1 M2)
    (p1 : r1.toInt = s 2 ∧ cF Tc N1 ∧ tI N1 0 7 = 1 ∧ kK N1 M1 ∧ qC 49 s N1 ∧ tT N1 49 0 = some t ∧ kC t tx s u c p N1) (p2 : r2.toInt = s 2 ∧ kR tx s u c p N2 ∧ tI N2 60 51 = 1 ∧ (qR (tx 4).toNat 2 s N2 ∧ qV (tx 4).toNat 2 s N2 ∧ hI3 p (s 2) N2) ∧ mF Tm N2 ∧ tI N2 60 2 = tI M2 60 2 ∧ lw N2 M2) : r1.toInt = r2.toInt ∧ lq_I N1 N2 := by
  obtain ⟨a1, a2, a3, a4, a5, a6, a7⟩ := p1
  obtain ⟨b1, b2, b3, b4, b5, b6, b7⟩ := p2
  have e2 := a4.1 2 1 (by decide) (by decide)
  exact ⟨a1.trans b1.symm, Tc, Tm, a2, b5, e2.trans (h.trans b6.symm), fun j hj => hB j (by rw [← e2]; exact hj), (congrArg Int32.toInt (a4.1 1 4 (by decide) (by decide))).trans hR.1, (congrArg Int32.toInt (a4.1 1 5 (by decide) (by decide))).trans hR.2, hS.1, hS.2, rg, tdC_tl hd1 (tl_kK a4), tdR_lw hd2 b7, t, tx, s, p, s, u, c, lB_kp hb a3 a5 a6 a7 b2 b3 b4⟩
end

section
variable {Tc : gC} {Tm : gM}
set_option maxHeartbeats 4000000 in
set_option maxRecDepth 100000 in
theorem z_X9_stands (l : Launch) (D : va_G) (A : Nat → Nat → Nat) (cy : Nat → ClassId) (hJ : ti_inj ti_LT A) (M : ti_M) (hI : cI Tc M) (hF : cF Tc M) (t : Nat) (ht : t = 3 ∨ t = 4) (tx rg lp : Nat → Int) (ug : Nat → Nat → Int) (cu : Int) (hk : kC t tx rg ug cu lp M) (za : Int32) : ti_Ki l yX9_stands cX9_stands 2 (some .int) 1 ti_LT D A cy M [.ref (A 0 0), .int za] (fun r M2 => M2 = M ∧ r.toInt = (if 0 ≤ za.toInt ∧ za.toInt ≤ 7 then bq_ma rg za.toInt else -1)) := by
  refine ti_eI yp_X9_stands hJ ti_LT_nd (Nat.le_of_ble_eq_true rfl) ?_
  intro p e s m args below meth c Q H0 C hQ hw ls hl
  have hx := C.1
  have hb := C.2.1
  have hl : lv_has ls 2 [(0, .ref (A 0 0)), (1, .int za)] := hl
  obtain ⟨htx, hT1, hT, hs, hr, hp0⟩ := id hk
  have l4 : 0 ≤ tx 4 ∧ tx 4 ≤ 8 := by rw [htx.1 4 (by decide) (by decide)]; exact cI_rd (k := 4) hI (ob_t ht).1 rfl
  have h4 : tx 4 = (tI M t 4).toInt := htx.1 4 (by decide) (by decide)
  refine lv_aload_n hx hb dX9_stands_0 rfl (lv_at hl 0 rfl) ?_
  refine lv_iload_n hx hb dX9_stands_1 rfl (lv_at hl 1 rfl) ?_
  refine ti_callVi (ci := 9) (av := [.int za]) C hw (x_X9_isPlace l D A cy hJ M hI za) ⟨ml_X9_159, ym_X9_isPlace, yv_X9_isPlace, yi_X9_isPlace, yc_X9_isPlace⟩ yd_X9_isPlace ob_0 (by decide) rfl rfl hl.1 (Nat.le_of_ble_eq_true rfl) ⟨by decide, by decide⟩ ⟨Nat.zero_le _, Nat.zero_le _⟩ dX9_stands_2 (fun r_1 M_2 H locs hp_2 hw => ?_)
  obtain ⟨hm, hz⟩ := hp_2
  have hw := hw.to hm
  rcases hz with ⟨rfl, d0_3, d1_3⟩ | ⟨rfl, e_3⟩
  · refine sb_if_eq (tgt := 19) hx hb (by decide : (1 : Int32).toInt = 1) dX9_stands_5 (by decide) (fun h => absurd h (by decide)) (fun c_5_3 => ?_)
    refine lv_aload_n hx hb dX9_stands_8 rfl (lv_at hl 0 rfl) ?_
    refine ti_get (ci := 9) (k := 3) (N := 10) (T := TX9) (v := .ref (A 27 0)) C hw iw_9 rfl ob_0 (by decide) (by decide) fl_X9_29 rfl rfl dX9_stands_9 ?_
    refine lv_iload_n hx hb dX9_stands_12 rfl (lv_at hl 1 rfl) ?_
    refine ti_callVi (ci := 3) (av := [.int za]) C hw (z_X3_manAt l D A cy hJ M hI 27 ob_27 za rg hs) ⟨ml_X9_162, ym_X3_manAt, yv_X3_manAt, yi_X3_manAt, yc_X3_manAt⟩ yd_X3_manAt ob_27 (by decide) rfl rfl hl.1 (Nat.le_of_ble_eq_true rfl) ⟨by decide, by decide⟩ ⟨Nat.zero_le _, Nat.zero_le _⟩ dX9_stands_13 (fun r_6 M_7 H locs hp_7 hw => ?_)
    obtain ⟨hm, b0r_6, b1r_6, pr_6, p0r_6⟩ := hp_7
    have hw := hw.to hm
    refine lv_goto (tgt := 20) hx hb dX9_stands_16 (by decide) ?_
    exact hQ _ _ _ _ _ _ hw rfl (⟨rfl, by rw [if_pos (by omega)]; exact pr_6⟩) dX9_stands_20
  · refine sb_if_eq (tgt := 19) hx hb (by decide : (0 : Int32).toInt = 0) dX9_stands_5 (by decide) (fun c_5_4 => ?_) (fun h => absurd h (by decide))
    refine lv_iconst (v := (-1)) hx hb dX9_stands_19 (by decide) ?_
    exact hQ _ _ _ _ _ _ hw rfl (⟨rfl, by rw [if_neg (by omega)]; decide⟩) dX9_stands_20
set_option maxHeartbeats 4000000 in
set_option maxRecDepth 100000 in
theorem z_X9_holder (l : Launch) (D : va_G) (A : Nat → Nat → Nat) (cy : Nat → ClassId) (hJ : ti_inj ti_LT A) (M : ti_M) (hI : cI Tc M) (hF : cF Tc M) (t : Nat) (ht : t = 3 ∨ t = 4) (tx rg lp : Nat → Int) (ug : Nat → Nat → Int) (cu : Int) (hk : kC t tx rg ug cu lp M) (za : Int32) : ti_Ki l yX9_holder cX9_holder 2 (some .int) 1 ti_LT D A cy M [.ref (A 0 0), .int za] (fun r M2 => M2 = M ∧ r.toInt = (if 0 ≤ za.toInt ∧ za.toInt ≤ 2 then bq_ma rg (rg (112 + za.toInt.toNat)) else -1)) := by
  refine ti_eI yp_X9_holder hJ ti_LT_nd (Nat.le_of_ble_eq_true rfl) ?_
  intro p e s m args below meth c Q H0 C hQ hw ls hl
  have hx := C.1
  have hb := C.2.1
  have hl : lv_has ls 2 [(0, .ref (A 0 0)), (1, .int za)] := hl
  obtain ⟨htx, hT1, hT, hs, hr, hp0⟩ := id hk
  have l4 : 0 ≤ tx 4 ∧ tx 4 ≤ 8 := by rw [htx.1 4 (by decide) (by decide)]; exact cI_rd (k := 4) hI (ob_t ht).1 rfl
  have h4 : tx 4 = (tI M t 4).toInt := htx.1 4 (by decide) (by decide)
  refine lv_aload_n hx hb dX9_holder_0 rfl (lv_at hl 0 rfl) ?_
  refine lv_iload_n hx hb dX9_holder_1 rfl (lv_at hl 1 rfl) ?_
  refine ti_callVi (ci := 9) (av := [.int za]) C hw (z_X9_isPower l D A cy hJ M hI za) ⟨ml_X9_165, ym_X9_isPower, yv_X9_isPower, yi_X9_isPower, yc_X9_isPower⟩ yd_X9_isPower ob_0 (by decide) rfl rfl hl.1 (Nat.le_of_ble_eq_true rfl) ⟨by decide, by decide⟩ ⟨Nat.zero_le _, Nat.zero_le _⟩ dX9_holder_2 (fun r_1 M_2 H locs hp_2 hw => ?_)
  obtain ⟨hm, hz⟩ := hp_2
  have hw := hw.to hm
  rcases hz with ⟨rfl, d0_3, d1_3⟩ | ⟨rfl, e_3⟩
  · refine sb_if_eq (tgt := 27) hx hb (by decide : (1 : Int32).toInt = 1) dX9_holder_5 (by decide) (fun h => absurd h (by decide)) (fun c_5_3 => ?_)
    refine lv_aload_n hx hb dX9_holder_8 rfl (lv_at hl 0 rfl) ?_
    refine ti_get (ci := 9) (k := 3) (N := 10) (T := TX9) (v := .ref (A 27 0)) C hw iw_9 rfl ob_0 (by decide) (by decide) fl_X9_29 rfl rfl dX9_holder_9 ?_
    refine lv_aload_n hx hb dX9_holder_12 rfl (lv_at hl 0 rfl) ?_
    refine ti_get (ci := 9) (k := 3) (N := 10) (T := TX9) (v := .ref (A 27 0)) C hw iw_9 rfl ob_0 (by decide) (by decide) fl_X9_29 rfl rfl dX9_holder_13 ?_
    refine ti_get (ci := 3) (k := 7) (N := 17) (T := TX3) (v := .ref (A 27 8)) C hw iw_3 rfl ob_27 (by decide) (by decide) fl_X9_168 rfl rfl dX9_holder_16 ?_
    refine lv_iload_n hx hb dX9_holder_19 rfl (lv_at hl 1 rfl) ?_
    refine ti_iald (ci := 3) (k := 7) (n := 3) C hw ob_27 (by decide) (fun _ _ => rfl) (vp_in_iff.mpr (by omega)) dX9_holder_20 ?_
    refine lv_topi (fun x_6 ex_6 => ?_)
    have L_7 : rg (112 + za.toInt.toNat) = x_6.toInt := qC_y (k := 7) hs rfl (by omega) (by omega) (by decide) (by decide) ex_6
    refine ti_callVi (ci := 3) (av := [.int x_6]) C hw (z_X3_manAt l D A cy hJ M hI 27 ob_27 x_6 rg hs) ⟨ml_X9_162, ym_X3_manAt, yv_X3_manAt, yi_X3_manAt, yc_X3_manAt⟩ yd_X3_manAt ob_27 (by decide) rfl rfl hl.1 (Nat.le_of_ble_eq_true rfl) ⟨by decide, by decide⟩ ⟨Nat.zero_le _, Nat.zero_le _⟩ dX9_holder_21 (fun r_8 M_9 H locs hp_9 hw => ?_)
    obtain ⟨hm, b0r_8, b1r_8, pr_8, p0r_8⟩ := hp_9
    have hw := hw.to hm
    refine lv_goto (tgt := 28) hx hb dX9_holder_24 (by decide) ?_
    exact hQ _ _ _ _ _ _ hw rfl (⟨rfl, by rw [if_pos (by omega), L_7]; exact pr_8⟩) dX9_holder_28
  · refine sb_if_eq (tgt := 27) hx hb (by decide : (0 : Int32).toInt = 0) dX9_holder_5 (by decide) (fun c_5_4 => ?_) (fun h => absurd h (by decide))
    refine lv_iconst (v := (-1)) hx hb dX9_holder_27 (by decide) ?_
    exact hQ _ _ _ _ _ _ hw rfl (⟨rfl, by rw [if_neg (by omega)]; decide⟩) dX9_holder_28
set_option maxHeartbeats 4000000 in
set_option maxRecDepth 100000 in
theorem z_X9_was (l : Launch) (D : va_G) (A : Nat → Nat → Nat) (cy : Nat → ClassId) (hJ : ti_inj ti_LT A) (M : ti_M) (hI : cI Tc M) (hF : cF Tc M) (t : Nat) (ht : t = 3 ∨ t = 4) (tx rg lp : Nat → Int) (ug : Nat → Nat → Int) (cu : Int) (hk : kC t tx rg ug cu lp M) (z1 : Int32) (z2 : Int32) : ti_Ki l yX9_was cX9_was 3 (some .int) 1 ti_LT D A cy M [.ref (A 0 0), .int z1, .int z2] (fun r M2 => M2 = M ∧ r.toInt = (if (0 ≤ z1.toInt ∧ z1.toInt ≤ 2) ∧ 0 ≤ z2.toInt ∧ z2.toInt < rg 2 then lp (120 * z1.toInt.toNat + z2.toInt.toNat) else -1)) := by
  refine ti_eI yp_X9_was hJ ti_LT_nd (Nat.le_of_ble_eq_true rfl) ?_
  intro p e s m args below meth c Q H0 C hQ hw ls hl
  have hx := C.1
  have hb := C.2.1
  have hl : lv_has ls 3 [(0, .ref (A 0 0)), (1, .int z1), (2, .int z2)] := hl
  obtain ⟨htx, hT1, hT, hs, hr, hp0⟩ := id hk
  have l4 : 0 ≤ tx 4 ∧ tx 4 ≤ 8 := by rw [htx.1 4 (by decide) (by decide)]; exact cI_rd (k := 4) hI (ob_t ht).1 rfl
  have h4 : tx 4 = (tI M t 4).toInt := htx.1 4 (by decide) (by decide)
  refine lv_aload_n hx hb dX9_was_0 rfl (lv_at hl 0 rfl) ?_
  refine lv_iload_n hx hb dX9_was_1 rfl (lv_at hl 1 rfl) ?_
  refine ti_callVi (ci := 9) (av := [.int z1]) C hw (z_X9_isPower l D A cy hJ M hI z1) ⟨ml_X9_165, ym_X9_isPower, yv_X9_isPower, yi_X9_isPower, yc_X9_isPower⟩ yd_X9_isPower ob_0 (by decide) rfl rfl hl.1 (Nat.le_of_ble_eq_true rfl) ⟨by decide, by decide⟩ ⟨Nat.zero_le _, Nat.zero_le _⟩ dX9_was_2 (fun r_1 M_2 H locs hp_2 hw => ?_)
  obtain ⟨hm, hz⟩ := hp_2
  have hw := hw.to hm
  rcases hz with ⟨rfl, d0_3, d1_3⟩ | ⟨rfl, e_3⟩
  · refine sb_if_eq (tgt := 23) hx hb (by decide : (1 : Int32).toInt = 1) dX9_was_5 (by decide) (fun h => absurd h (by decide)) (fun c_5_3 => ?_)
    refine lv_iload_n hx hb dX9_was_8 rfl (lv_at hl 2 rfl) ?_
    refine sb_if_lt (tgt := 23) hx hb rfl dX9_was_9 (by decide) (fun c_9_5 => ?_) (fun c_9_5 => ?_)
    · refine lv_iconst (v := (-1)) hx hb dX9_was_23 (by decide) ?_
      exact hQ _ _ _ _ _ _ hw rfl (⟨rfl, by rw [if_neg (by omega)]; decide⟩) dX9_was_24
    · refine lv_iload_n hx hb dX9_was_12 rfl (lv_at hl 2 rfl) ?_
      refine lv_aload_n hx hb dX9_was_13 rfl (lv_at hl 0 rfl) ?_
      refine ti_get (ci := 9) (k := 3) (N := 10) (T := TX9) (v := .ref (A 27 0)) C hw iw_9 rfl ob_0 (by decide) (by decide) fl_X9_29 rfl rfl dX9_was_14 ?_
      refine ti_get (ci := 3) (k := 2) (N := 17) (T := TX3) C hw iw_3 rfl ob_27 (by decide) (by decide) fl_X9_186 rfl rfl dX9_was_17 ?_
      refine lv_topi (fun x_7 ex_7 => ?_)
      have bx_7 : 0 ≤ x_7.toInt ∧ x_7.toInt ≤ 120 := cI_rd hI ob_27.1 ex_7 (Or.inl rfl)
      have ux_7 : (tI M 27 2).toInt = x_7.toInt := by rw [ex_7]
      have L_8 : rg 2 = x_7.toInt := ((hs.1 2 (by decide) (by decide)).trans (congrArg Int32.toInt (ex_7.symm))).trans rfl
      refine sb_icmp_lt (tgt := 25) hx hb rfl rfl dX9_was_20 (by decide) (fun c_20_8 => ?_) (fun c_20_8 => ?_)
      · refine lv_aload_n hx hb dX9_was_25 rfl (lv_at hl 0 rfl) ?_
        refine ti_get (ci := 9) (k := 4) (N := 10) (T := TX9) (v := .ref (A 0 5)) C hw iw_9 rfl ob_0 (by decide) (by decide) fl_X9_33 rfl rfl dX9_was_26 ?_
        refine lv_iload_n hx hb dX9_was_29 rfl (lv_at hl 1 rfl) ?_
        refine lv_bipush (v := 120) hx hb dX9_was_30 (by decide) ?_
        refine lv_imul hx hb dX9_was_32 ?_
        refine lv_topi (fun x_10 ex_10 => ?_)
        have lox_10z1 := z1.le_toInt
        have hix_10z1 := z1.toInt_lt
        have tx_10 : x_10.toInt = z1.toInt * 120 := i_mul ex_10 rfl (by decide : (120 : Int32).toInt = 120) (by omega) (by omega)
        refine lv_iload_n hx hb dX9_was_33 rfl (lv_at hl 2 rfl) ?_
        refine lv_iadd hx hb dX9_was_34 ?_
        refine lv_topi (fun x_11 ex_11 => ?_)
        have lox_11x_10 := x_10.le_toInt
        have hix_11x_10 := x_10.toInt_lt
        have lox_11z2 := z2.le_toInt
        have hix_11z2 := z2.toInt_lt
        have tx_11 : x_11.toInt = x_10.toInt + z2.toInt := i_add ex_11 rfl rfl (by omega) (by omega)
        refine ti_iald (ci := 9) (k := 4) (n := 360) C hw ob_0 (by decide) (fun _ _ => rfl) (vp_in_iff.mpr (by omega)) dX9_was_35 ?_
        refine lv_topi (fun x_12 ex_12 => ?_)
        exact hQ _ _ _ _ _ _ hw rfl (⟨rfl, (by have q := hp0 x_11.toNatClampNeg (by show (x_11 : Int32).toInt.toNat < 360; omega); rw [if_pos (by omega), show 120 * z1.toInt.toNat + z2.toInt.toNat = x_11.toNatClampNeg by (show _ = (x_11 : Int32).toInt.toNat; omega), q, ← ex_12])⟩) dX9_was_36
      · refine lv_iconst (v := (-1)) hx hb dX9_was_23 (by decide) ?_
        exact hQ _ _ _ _ _ _ hw rfl (⟨rfl, by rw [if_neg (by omega)]; decide⟩) dX9_was_24
  · refine sb_if_eq (tgt := 23) hx hb (by decide : (0 : Int32).toInt = 0) dX9_was_5 (by decide) (fun c_5_4 => ?_) (fun h => absurd h (by decide))
    refine lv_iconst (v := (-1)) hx hb dX9_was_23 (by decide) ?_
    exact hQ _ _ _ _ _ _ hw rfl (⟨rfl, by rw [if_neg (by omega)]; decide⟩) dX9_was_24
end
section
variable {Tc : gC} {Tm : gM}
set_option maxHeartbeats 4000000 in
set_option maxRecDepth 100000 in
theorem z_X10_stands (l : Launch) (D : va_G) (A : Nat → Nat → Nat) (cy : Nat → ClassId) (hJ : ti_inj ti_LM A) (M : ti_M) (hI : mI Tm M) (hF : mF Tm M) (z1 : Int32) (tx rg lp : Nat → Int) (ug : Nat → Nat → Int) (cu : Int) (ht4 : 0 ≤ tx 4 ∧ tx 4 ≤ 8) (htW : tW tx) (hwf : wF tx rg) (h1r : rg 1 = 0) (hk : kR tx rg ug cu lp M) : ti_Ki l yX10_stands cX10_stands 2 (some .int) 1 ti_LM D A cy M [.ref (A 60 0), .int z1] (fun r M2 => r.toInt = (if 0 ≤ z1.toInt ∧ z1.toInt ≤ 7 then bq_ma rg z1.toInt else -1) ∧ kR tx rg ug cu lp M2 ∧ iR M2 M ∧ mF Tm M2 ∧ tI M2 60 2 = tI M 60 2 ∧ lw M2 M) := by
  refine ti_eI yp_X10_stands hJ ti_LM_nd (Nat.le_of_ble_eq_true rfl) ?_
  intro p e s m args below meth c Q H0 C hQ hw ls hl
  have hx := C.1
  have hb := C.2.1
  have hl : lv_has ls 2 [(0, .ref (A 60 0)), (1, .int z1)] := hl
  have hL : mL M := hF.2.1
  have hC0 : mC M 0 := hF.2.2.1.1
  have hP0 : mP M 0 := hF.2.2.1.2
  obtain ⟨htr, hr, hV, hu, hp0, htw⟩ := id hk
  have t4 : tx 4 = (tY M 60 3 0).toInt := htr.1.1
  have w83 := wF_8 hwf
  have q3r : rg 3 = (tY M 60 38 0).toInt := hr.1.2.1
  refine lv_aload_n hx hb dX10_stands_0 rfl (lv_at hl 0 rfl) ?_
  refine lv_iconst (v := 0) hx hb dX10_stands_1 (by decide) ?_
  refine ti_putI (ci := 10) (k := 0) (N := 67) (T := TX10) C hw iw_10 tyX10 tyX10_ok nmX10 rfl ob_60 (by decide) (by decide) fl_X10_154 rfl rfl rfl rfl (fn_10 A _) fs_10_0 dX10_stands_2 (fun H locs hw => ?_)
  obtain ⟨M, h0⟩ : ∃ z : ti_M, z = uI M 60 0 0 := ⟨_, rfl⟩
  have hw := hw.to h0.symm
  have hI : mI Tm M := mI_uI hI h0 (by decide) (by decide) trivial
  have hF : mF Tm M := mF_qw hF hI (qw_I h0 (by decide))
  have ir0 := iR_0 h0
  have e2r := tI_nE (k2 := 2) (o2 := 60) h0 (nk (by decide))
  have e51r := tI_nE (k2 := 51) (o2 := 60) h0 (nk (by decide))
  have lwr : lw M _ := fun _ _ _ => tY_uIE h0
  have hk := kR_0 hk h0
  obtain ⟨htr, hr, hV, hu, hp0, htw⟩ := id hk
  have t4 : tx 4 = (tY M 60 3 0).toInt := htr.1.1
  have w83 := wF_8 hwf
  have q3r : rg 3 = (tY M 60 38 0).toInt := hr.1.2.1
  refine lv_iload_n hx hb dX10_stands_5 rfl (lv_at hl 1 rfl) ?_
  refine ti_callSi (av := [.int z1]) C hw (z_X10_isPlace l D A cy hJ M hI z1) ⟨ml_X10_414, ys_X10_isPlace, yi_X10_isPlace, yc_X10_isPlace⟩ yd_X10_isPlace rfl hl.1 (Nat.le_of_ble_eq_true rfl) ⟨by decide, by decide⟩ ⟨Nat.zero_le _, Nat.zero_le _⟩ dX10_stands_6 (fun r_1 M_2 H locs hp_2 hw => ?_)
  obtain ⟨hm, hz⟩ := hp_2
  have hw := hw.to hm
  rcases hz with ⟨rfl, d0_3, d1_3⟩ | ⟨rfl, e_3⟩
  · refine sb_if_eq (tgt := 21) hx hb (by decide : (1 : Int32).toInt = 1) dX10_stands_9 (by decide) (fun h => absurd h (by decide)) (fun c_9_3 => ?_)
    refine lv_aload_n hx hb dX10_stands_12 rfl (lv_at hl 0 rfl) ?_
    refine lv_iconst (v := 0) hx hb dX10_stands_13 (by decide) ?_
    refine lv_iload_n hx hb dX10_stands_14 rfl (lv_at hl 1 rfl) ?_
    refine ti_callVi (ci := 10) (av := [.int 0, .int z1]) C hw (z_X10_standsAt_0 l D A cy hJ M hI z1 (by omega) (by omega) tx rg htr ht4 hr) ⟨ml_X10_417, ym_X10_standsAt, yv_X10_standsAt, yi_X10_standsAt, yc_X10_standsAt⟩ yd_X10_standsAt ob_60 (by decide) rfl rfl hl.1 (Nat.le_of_ble_eq_true rfl) ⟨by decide, by decide⟩ ⟨Nat.zero_le _, Nat.zero_le _⟩ dX10_stands_15 (fun r_6 M_7 H locs hp_7 hw => ?_)
    obtain ⟨hm, b0r_6, b1r_6, p0r_6⟩ := hp_7
    have hw := hw.to hm
    refine lv_goto (tgt := 22) hx hb dX10_stands_18 (by decide) ?_
    exact hQ _ _ _ _ _ _ hw rfl (⟨by rw [if_pos (by omega)]; exact p0r_6, hk, (iR_eR eR.refl).trans ir0, hF, (rfl).trans e2r, lw_t (fun _ _ _ => rfl) lwr⟩) dX10_stands_22
  · refine sb_if_eq (tgt := 21) hx hb (by decide : (0 : Int32).toInt = 0) dX10_stands_9 (by decide) (fun c_9_4 => ?_) (fun h => absurd h (by decide))
    refine lv_iconst (v := (-1)) hx hb dX10_stands_21 (by decide) ?_
    exact hQ _ _ _ _ _ _ hw rfl (⟨by rw [if_neg (by omega)]; decide, hk, (iR_eR eR.refl).trans ir0, hF, (rfl).trans e2r, lw_t (fun _ _ _ => rfl) lwr⟩) dX10_stands_22
set_option maxHeartbeats 4000000 in
set_option maxRecDepth 100000 in
theorem z_X10_holder (l : Launch) (D : va_G) (A : Nat → Nat → Nat) (cy : Nat → ClassId) (hJ : ti_inj ti_LM A) (M : ti_M) (hI : mI Tm M) (hF : mF Tm M) (z1 : Int32) (tx rg lp : Nat → Int) (ug : Nat → Nat → Int) (cu : Int) (ht4 : 0 ≤ tx 4 ∧ tx 4 ≤ 8) (htW : tW tx) (hwf : wF tx rg) (h1r : rg 1 = 0) (hk : kR tx rg ug cu lp M) : ti_Ki l yX10_holder cX10_holder 2 (some .int) 1 ti_LM D A cy M [.ref (A 60 0), .int z1] (fun r M2 => r.toInt = (if 0 ≤ z1.toInt ∧ z1.toInt ≤ 2 then bq_ma rg (rg (112 + z1.toInt.toNat)) else -1) ∧ kR tx rg ug cu lp M2 ∧ iR M2 M ∧ mF Tm M2 ∧ tI M2 60 2 = tI M 60 2 ∧ lw M2 M) := by
  refine ti_eI yp_X10_holder hJ ti_LM_nd (Nat.le_of_ble_eq_true rfl) ?_
  intro p e s m args below meth c Q H0 C hQ hw ls hl
  have hx := C.1
  have hb := C.2.1
  have hl : lv_has ls 2 [(0, .ref (A 60 0)), (1, .int z1)] := hl
  have hL : mL M := hF.2.1
  have hC0 : mC M 0 := hF.2.2.1.1
  have hP0 : mP M 0 := hF.2.2.1.2
  obtain ⟨htr, hr, hV, hu, hp0, htw⟩ := id hk
  have t4 : tx 4 = (tY M 60 3 0).toInt := htr.1.1
  have w83 := wF_8 hwf
  have q3r : rg 3 = (tY M 60 38 0).toInt := hr.1.2.1
  refine lv_aload_n hx hb dX10_holder_0 rfl (lv_at hl 0 rfl) ?_
  refine lv_iconst (v := 0) hx hb dX10_holder_1 (by decide) ?_
  refine ti_putI (ci := 10) (k := 0) (N := 67) (T := TX10) C hw iw_10 tyX10 tyX10_ok nmX10 rfl ob_60 (by decide) (by decide) fl_X10_154 rfl rfl rfl rfl (fn_10 A _) fs_10_0 dX10_holder_2 (fun H locs hw => ?_)
  obtain ⟨M, h0⟩ : ∃ z : ti_M, z = uI M 60 0 0 := ⟨_, rfl⟩
  have hw := hw.to h0.symm
  have hI : mI Tm M := mI_uI hI h0 (by decide) (by decide) trivial
  have hF : mF Tm M := mF_qw hF hI (qw_I h0 (by decide))
  have ir0 := iR_0 h0
  have e2r := tI_nE (k2 := 2) (o2 := 60) h0 (nk (by decide))
  have e51r := tI_nE (k2 := 51) (o2 := 60) h0 (nk (by decide))
  have lwr : lw M _ := fun _ _ _ => tY_uIE h0
  have hk := kR_0 hk h0
  obtain ⟨htr, hr, hV, hu, hp0, htw⟩ := id hk
  have t4 : tx 4 = (tY M 60 3 0).toInt := htr.1.1
  have w83 := wF_8 hwf
  have q3r : rg 3 = (tY M 60 38 0).toInt := hr.1.2.1
  refine lv_iload_n hx hb dX10_holder_5 rfl (lv_at hl 1 rfl) ?_
  refine ti_callSi (av := [.int z1]) C hw (z_X10_isPower l D A cy hJ M hI z1) ⟨ml_X10_420, ys_X10_isPower, yi_X10_isPower, yc_X10_isPower⟩ yd_X10_isPower rfl hl.1 (Nat.le_of_ble_eq_true rfl) ⟨by decide, by decide⟩ ⟨Nat.zero_le _, Nat.zero_le _⟩ dX10_holder_6 (fun r_1 M_2 H locs hp_2 hw => ?_)
  obtain ⟨hm, hz⟩ := hp_2
  have hw := hw.to hm
  rcases hz with ⟨rfl, d0_3, d1_3⟩ | ⟨rfl, e_3⟩
  · refine sb_if_eq (tgt := 26) hx hb (by decide : (1 : Int32).toInt = 1) dX10_holder_9 (by decide) (fun h => absurd h (by decide)) (fun c_9_3 => ?_)
    refine lv_aload_n hx hb dX10_holder_12 rfl (lv_at hl 0 rfl) ?_
    refine lv_iconst (v := 0) hx hb dX10_holder_13 (by decide) ?_
    refine lv_aload_n hx hb dX10_holder_14 rfl (lv_at hl 0 rfl) ?_
    refine ti_get (ci := 10) (k := 49) (N := 67) (T := TX10) (v := .ref (A 60 50)) C hw iw_10 rfl ob_60 (by decide) (by decide) fl_X10_114 rfl rfl dX10_holder_15 ?_
    refine lv_iload_n hx hb dX10_holder_18 rfl (lv_at hl 1 rfl) ?_
    refine ti_iald (ci := 10) (k := 49) (n := 69) C hw ob_60 (by decide) (fun _ _ => rfl) (vp_in_iff.mpr (by omega)) dX10_holder_19 ?_
    refine lv_topi (fun x_6 ex_6 => ?_)
    have yx_6 : tY M 60 49 z1.toNatClampNeg = x_6 := (ex_6.symm)
    have bx_6 : 0 ≤ x_6.toInt ∧ x_6.toInt ≤ 7 := mI_ry (k := 49) (i := z1.toNatClampNeg) hI yx_6.symm
    have L_7 : rg (112 + z1.toInt.toNat) = x_6.toInt := (hr.2.2.1 (z1.toInt.toNat) (by omega)).trans (rd_k (n := 3 * 0 + z1.toInt.toNat) (by omega) (yx_6))
    refine ti_callVi (ci := 10) (av := [.int 0, .int x_6]) C hw (z_X10_standsAt_0 l D A cy hJ M hI x_6 (by omega) (by omega) tx rg htr ht4 hr) ⟨ml_X10_417, ym_X10_standsAt, yv_X10_standsAt, yi_X10_standsAt, yc_X10_standsAt⟩ yd_X10_standsAt ob_60 (by decide) rfl rfl hl.1 (Nat.le_of_ble_eq_true rfl) ⟨by decide, by decide⟩ ⟨Nat.zero_le _, Nat.zero_le _⟩ dX10_holder_20 (fun r_8 M_9 H locs hp_9 hw => ?_)
    obtain ⟨hm, b0r_8, b1r_8, p0r_8⟩ := hp_9
    have hw := hw.to hm
    refine lv_goto (tgt := 27) hx hb dX10_holder_23 (by decide) ?_
    exact hQ _ _ _ _ _ _ hw rfl (⟨by rw [if_pos (by omega), L_7]; exact p0r_8, hk, (iR_eR eR.refl).trans ir0, hF, (rfl).trans e2r, lw_t (fun _ _ _ => rfl) lwr⟩) dX10_holder_27
  · refine sb_if_eq (tgt := 26) hx hb (by decide : (0 : Int32).toInt = 0) dX10_holder_9 (by decide) (fun c_9_4 => ?_) (fun h => absurd h (by decide))
    refine lv_iconst (v := (-1)) hx hb dX10_holder_26 (by decide) ?_
    exact hQ _ _ _ _ _ _ hw rfl (⟨by rw [if_neg (by omega)]; decide, hk, (iR_eR eR.refl).trans ir0, hF, (rfl).trans e2r, lw_t (fun _ _ _ => rfl) lwr⟩) dX10_holder_27
set_option maxHeartbeats 4000000 in
set_option maxRecDepth 100000 in
theorem z_X10_isGone (l : Launch) (D : va_G) (A : Nat → Nat → Nat) (cy : Nat → ClassId) (hJ : ti_inj ti_LM A) (M : ti_M) (hI : mI Tm M)  (a : Int32) (tx rg : Nat → Int) (htr : tR tx M) (ht4 : 0 ≤ tx 4 ∧ tx 4 ≤ 8) (hr : qR (tx 4).toNat 0 rg M) : ti_Ki l yX10_isGone cX10_isGone 2 (some .boolean) 0 ti_LM D A cy M [.ref (A 60 0), .int a] (fun r M2 => M2 = M ∧ ((r = 1 ∧ 0 ≤ a.toInt ∧ a.toInt < rg 2) ∨ (r = 0 ∧ ¬ (0 ≤ a.toInt ∧ a.toInt < rg 2)))) := by
  refine ti_eI yp_X10_isGone hJ ti_LM_nd (Nat.le_of_ble_eq_true rfl) ?_
  intro p e s m args below meth c Q H0 C hQ hw ls hl
  have hx := C.1
  have hb := C.2.1
  have hl : lv_has ls 2 [(0, .ref (A 60 0)), (1, .int a)] := hl
  have t4 : tx 4 = (tY M 60 3 0).toInt := htr.1.1
  refine lv_iload_n hx hb dX10_isGone_0 rfl (lv_at hl 1 rfl) ?_
  refine sb_if_lt (tgt := 18) hx hb rfl dX10_isGone_1 (by decide) (fun c_1_0 => ?_) (fun c_1_0 => ?_)
  · refine lv_iconst (v := 0) hx hb dX10_isGone_18 (by decide) ?_
    exact hQ _ _ _ _ _ _ hw rfl (⟨rfl, Or.inr ⟨rfl, by omega⟩⟩) dX10_isGone_19
  · refine lv_iload_n hx hb dX10_isGone_4 rfl (lv_at hl 1 rfl) ?_
    refine lv_aload_n hx hb dX10_isGone_5 rfl (lv_at hl 0 rfl) ?_
    refine ti_get (ci := 10) (k := 34) (N := 67) (T := TX10) (v := .ref (A 60 35)) C hw iw_10 rfl ob_60 (by decide) (by decide) fl_X10_69 rfl rfl dX10_isGone_6 ?_
    refine lv_iconst (v := 0) hx hb dX10_isGone_9 (by decide) ?_
    refine ti_iald (ci := 10) (k := 34) (n := 23) C hw ob_60 (by decide) (fun _ _ => rfl) (by unfold vp_in; decide) dX10_isGone_10 ?_
    refine lv_topi (fun x_2 ex_2 => ?_)
    have yx_2 : tY M 60 34 0 = x_2 := ((congrArg _ (by decide)).symm.trans ex_2.symm)
    have bx_2 : 0 ≤ x_2.toInt ∧ x_2.toInt ≤ 120 := mI_ry (k := 34) (i := 0) hI yx_2.symm (by decide)
    have zx_2 : (tY M 60 34 0).toInt = x_2.toInt := by rw [yx_2]
    have L_3 : rg 2 = x_2.toInt := (hr.1.1).trans (congrArg Int32.toInt (yx_2))
    refine sb_icmp_ge (tgt := 18) hx hb rfl rfl dX10_isGone_11 (by decide) (fun c_11_3 => ?_) (fun c_11_3 => ?_)
    · refine lv_iconst (v := 0) hx hb dX10_isGone_18 (by decide) ?_
      exact hQ _ _ _ _ _ _ hw rfl (⟨rfl, Or.inr ⟨rfl, by omega⟩⟩) dX10_isGone_19
    · refine lv_iconst (v := 1) hx hb dX10_isGone_14 (by decide) ?_
      refine lv_goto (tgt := 19) hx hb dX10_isGone_15 (by decide) ?_
      exact hQ _ _ _ _ _ _ hw rfl (⟨rfl, Or.inl ⟨rfl, by omega, by omega⟩⟩) dX10_isGone_19
set_option maxHeartbeats 4000000 in
set_option maxRecDepth 100000 in
theorem z_X10_was (l : Launch) (D : va_G) (A : Nat → Nat → Nat) (cy : Nat → ClassId) (hJ : ti_inj ti_LM A) (M : ti_M) (hI : mI Tm M) (hF : mF Tm M) (z1 : Int32) (z2 : Int32) (tx rg lp : Nat → Int) (ug : Nat → Nat → Int) (cu : Int) (ht4 : 0 ≤ tx 4 ∧ tx 4 ≤ 8) (htW : tW tx) (hwf : wF tx rg) (h1r : rg 1 = 0) (hk : kR tx rg ug cu lp M) : ti_Ki l yX10_was cX10_was 3 (some .int) 1 ti_LM D A cy M [.ref (A 60 0), .int z1, .int z2] (fun r M2 => r.toInt = (if (0 ≤ z1.toInt ∧ z1.toInt ≤ 2) ∧ 0 ≤ z2.toInt ∧ z2.toInt < rg 2 then lp (120 * z1.toInt.toNat + z2.toInt.toNat) else -1) ∧ kR tx rg ug cu lp M2 ∧ iR M2 M ∧ mF Tm M2 ∧ tI M2 60 2 = tI M 60 2 ∧ lw M2 M) := by
  refine ti_eI yp_X10_was hJ ti_LM_nd (Nat.le_of_ble_eq_true rfl) ?_
  intro p e s m args below meth c Q H0 C hQ hw ls hl
  have hx := C.1
  have hb := C.2.1
  have hl : lv_has ls 3 [(0, .ref (A 60 0)), (1, .int z1), (2, .int z2)] := hl
  have hL : mL M := hF.2.1
  have hC0 : mC M 0 := hF.2.2.1.1
  have hP0 : mP M 0 := hF.2.2.1.2
  obtain ⟨htr, hr, hV, hu, hp0, htw⟩ := id hk
  have t4 : tx 4 = (tY M 60 3 0).toInt := htr.1.1
  have w83 := wF_8 hwf
  have q3r : rg 3 = (tY M 60 38 0).toInt := hr.1.2.1
  refine lv_aload_n hx hb dX10_was_0 rfl (lv_at hl 0 rfl) ?_
  refine lv_iconst (v := 0) hx hb dX10_was_1 (by decide) ?_
  refine ti_putI (ci := 10) (k := 0) (N := 67) (T := TX10) C hw iw_10 tyX10 tyX10_ok nmX10 rfl ob_60 (by decide) (by decide) fl_X10_154 rfl rfl rfl rfl (fn_10 A _) fs_10_0 dX10_was_2 (fun H locs hw => ?_)
  obtain ⟨M, h0⟩ : ∃ z : ti_M, z = uI M 60 0 0 := ⟨_, rfl⟩
  have hw := hw.to h0.symm
  have hI : mI Tm M := mI_uI hI h0 (by decide) (by decide) trivial
  have hF : mF Tm M := mF_qw hF hI (qw_I h0 (by decide))
  have ir0 := iR_0 h0
  have e2r := tI_nE (k2 := 2) (o2 := 60) h0 (nk (by decide))
  have e51r := tI_nE (k2 := 51) (o2 := 60) h0 (nk (by decide))
  have lwr : lw M _ := fun _ _ _ => tY_uIE h0
  have hk := kR_0 hk h0
  obtain ⟨htr, hr, hV, hu, hp0, htw⟩ := id hk
  have t4 : tx 4 = (tY M 60 3 0).toInt := htr.1.1
  have w83 := wF_8 hwf
  have q3r : rg 3 = (tY M 60 38 0).toInt := hr.1.2.1
  refine lv_iload_n hx hb dX10_was_5 rfl (lv_at hl 1 rfl) ?_
  refine ti_callSi (av := [.int z1]) C hw (z_X10_isPower l D A cy hJ M hI z1) ⟨ml_X10_420, ys_X10_isPower, yi_X10_isPower, yc_X10_isPower⟩ yd_X10_isPower rfl hl.1 (Nat.le_of_ble_eq_true rfl) ⟨by decide, by decide⟩ ⟨Nat.zero_le _, Nat.zero_le _⟩ dX10_was_6 (fun r_1 M_2 H locs hp_2 hw => ?_)
  obtain ⟨hm, hz⟩ := hp_2
  have hw := hw.to hm
  rcases hz with ⟨rfl, d0_3, d1_3⟩ | ⟨rfl, e_3⟩
  · refine sb_if_eq (tgt := 33) hx hb (by decide : (1 : Int32).toInt = 1) dX10_was_9 (by decide) (fun h => absurd h (by decide)) (fun c_9_3 => ?_)
    refine lv_aload_n hx hb dX10_was_12 rfl (lv_at hl 0 rfl) ?_
    refine lv_iload_n hx hb dX10_was_13 rfl (lv_at hl 2 rfl) ?_
    refine ti_callVi (ci := 10) (av := [.int z2]) C hw (z_X10_isGone l D A cy hJ M hI z2 tx rg htr ht4 hr) ⟨ml_X10_439, ym_X10_isGone, yv_X10_isGone, yi_X10_isGone, yc_X10_isGone⟩ yd_X10_isGone ob_60 (by decide) rfl rfl hl.1 (Nat.le_of_ble_eq_true rfl) ⟨by decide, by decide⟩ ⟨Nat.zero_le _, Nat.zero_le _⟩ dX10_was_14 (fun r_6 M_7 H locs hp_7 hw => ?_)
    obtain ⟨hm, hz⟩ := hp_7
    have hw := hw.to hm
    rcases hz with ⟨rfl, d0_8, d1_8⟩ | ⟨rfl, e_8⟩
    · refine sb_if_eq (tgt := 33) hx hb (by decide : (1 : Int32).toInt = 1) dX10_was_17 (by decide) (fun h => absurd h (by decide)) (fun c_17_8 => ?_)
      have m12 : rg 2 ≤ 120 := by rw [hr.1.1]; exact (show ib 0 120 (tY M 60 34 0) from hI.2.1 34 0 (by decide)).2
      refine lv_aload_n hx hb dX10_was_20 rfl (lv_at hl 0 rfl) ?_
      refine ti_get (ci := 10) (k := 50) (N := 67) (T := TX10) (v := .ref (A 60 51)) C hw iw_10 rfl ob_60 (by decide) (by decide) fl_X10_117 rfl rfl dX10_was_21 ?_
      refine lv_iconst (v := 3) hx hb dX10_was_24 (by decide) ?_
      refine lv_iload_n hx hb dX10_was_25 rfl (lv_at hl 2 rfl) ?_
      refine lv_imul hx hb dX10_was_26 ?_
      refine lv_topi (fun x_11 ex_11 => ?_)
      have lox_11z2 := z2.le_toInt
      have hix_11z2 := z2.toInt_lt
      have tx_11 : x_11.toInt = 3 * z2.toInt := i_mul ex_11 (by decide : (3 : Int32).toInt = 3) rfl (by omega) (by omega)
      refine lv_iload_n hx hb dX10_was_27 rfl (lv_at hl 1 rfl) ?_
      refine lv_iadd hx hb dX10_was_28 ?_
      refine lv_topi (fun x_12 ex_12 => ?_)
      have lox_12x_11 := x_11.le_toInt
      have hix_12x_11 := x_11.toInt_lt
      have lox_12z1 := z1.le_toInt
      have hix_12z1 := z1.toInt_lt
      have tx_12 : x_12.toInt = x_11.toInt + z1.toInt := i_add ex_12 rfl rfl (by omega) (by omega)
      refine ti_iald (ci := 10) (k := 50) (n := 720) C hw ob_60 (by decide) (fun _ _ => rfl) (vp_in_iff.mpr (by omega)) dX10_was_29 ?_
      refine lv_topi (fun x_13 ex_13 => ?_)
      have yx_13 : tY M 60 50 x_12.toNatClampNeg = x_13 := (ex_13.symm)
      refine lv_goto (tgt := 34) hx hb dX10_was_30 (by decide) ?_
      exact hQ _ _ _ _ _ _ hw rfl (⟨(by have q := hp0 z2.toInt.toNat z1.toInt.toNat (by omega) (by omega) (by omega); rw [if_pos (by omega), ← q, show 3 * z2.toInt.toNat + z1.toInt.toNat = x_12.toNatClampNeg by (show _ = (x_12 : Int32).toInt.toNat; omega), ← ex_13]), hk, (iR_eR eR.refl).trans ir0, hF, (rfl).trans e2r, lw_t (fun _ _ _ => rfl) lwr⟩) dX10_was_34
    · refine sb_if_eq (tgt := 33) hx hb (by decide : (0 : Int32).toInt = 0) dX10_was_17 (by decide) (fun c_17_9 => ?_) (fun h => absurd h (by decide))
      refine lv_iconst (v := (-1)) hx hb dX10_was_33 (by decide) ?_
      exact hQ _ _ _ _ _ _ hw rfl (⟨by rw [if_neg (by omega)]; decide, hk, (iR_eR eR.refl).trans ir0, hF, (rfl).trans e2r, lw_t (fun _ _ _ => rfl) lwr⟩) dX10_was_34
  · refine sb_if_eq (tgt := 33) hx hb (by decide : (0 : Int32).toInt = 0) dX10_was_9 (by decide) (fun c_9_4 => ?_) (fun h => absurd h (by decide))
    refine lv_iconst (v := (-1)) hx hb dX10_was_33 (by decide) ?_
    exact hQ _ _ _ _ _ _ hw rfl (⟨by rw [if_neg (by omega)]; decide, hk, (iR_eR eR.refl).trans ir0, hF, (rfl).trans e2r, lw_t (fun _ _ _ => rfl) lwr⟩) dX10_was_34
end
section
variable {Tc : gC} {Tm : gM}
/-- what look tells; whether it throws: 1 no such man, 2 no such what -/
def bq_lk (tx s : Nat → Int) (m w : Int) : Int :=
  if w = 0 then tx (100 + 16 * m.toNat + 1) else if w = 1 then tx (100 + 16 * m.toNat + 2) else if w = 2 then s (160 + m.toNat) else if w = 3 then s (176 + m.toNat) else if w = 4 then s (192 + m.toNat) else if w = 5 then bq_po s m 0 else if w = 6 then s (128 + m.toNat) else if w = 7 then bq_wt s m else if w = 8 then s (240 + m.toNat) else if w = 9 then s (256 + m.toNat) else tx (100 + 16 * m.toNat + 9)
def bq_lx (tx : Nat → Int) (m w : Int) : Int := if 0 ≤ m ∧ m < tx 4 then (if 0 ≤ w ∧ w ≤ 10 then 0 else 2) else 1
set_option maxHeartbeats 4000000 in
set_option maxRecDepth 100000 in
theorem z_X10_look (l : Launch) (D : va_G) (A : Nat → Nat → Nat) (cy : Nat → ClassId) (hJ : ti_inj ti_LM A) (M : ti_M) (hI : mI Tm M) (hF : mF Tm M) (z1 : Int32) (z2 : Int32) (tx rg lp : Nat → Int) (ug : Nat → Nat → Int) (cu : Int) (ht4 : 0 ≤ tx 4 ∧ tx 4 ≤ 8) (htW : tW tx) (hwf : wF tx rg) (h1r : rg 1 = 0) (hk : kR tx rg ug cu lp M) : ti_Ki l yX10_look cX10_look 3 (some .int) 1 ti_LM D A cy M [.ref (A 60 0), .int z1, .int z2] (fun r M2 => r.toInt = (if bq_lx tx z1.toInt z2.toInt = 0 then bq_lk tx rg z1.toInt z2.toInt else 0) ∧ (tI M2 60 0).toInt = bq_lx tx z1.toInt z2.toInt ∧ kR tx rg ug cu lp M2 ∧ iR M2 M ∧ mF Tm M2 ∧ tI M2 60 2 = tI M 60 2 ∧ lw M2 M) := by
  refine ti_eI yp_X10_look hJ ti_LM_nd (Nat.le_of_ble_eq_true rfl) ?_
  intro p e s m args below meth c Q H0 C hQ hw ls hl
  have hx := C.1
  have hb := C.2.1
  have hl : lv_has ls 3 [(0, .ref (A 60 0)), (1, .int z1), (2, .int z2)] := hl
  have hL : mL M := hF.2.1
  have hC0 : mC M 0 := hF.2.2.1.1
  have hP0 : mP M 0 := hF.2.2.1.2
  obtain ⟨htr, hr, hV, hu, hp0, htw⟩ := id hk
  have t4 : tx 4 = (tY M 60 3 0).toInt := htr.1.1
  have w83 := wF_8 hwf
  have q3r : rg 3 = (tY M 60 38 0).toInt := hr.1.2.1
  refine lv_aload_n hx hb dX10_look_0 rfl (lv_at hl 0 rfl) ?_
  refine lv_aload_n hx hb dX10_look_1 rfl (lv_at hl 0 rfl) ?_
  refine lv_iload_n hx hb dX10_look_2 rfl (lv_at hl 1 rfl) ?_
  refine ti_callVi (ci := 10) (av := [.int z1]) C hw (z_X10_isMan l D A cy hJ M hI z1 tx htr) ⟨ml_X10_356, ym_X10_isMan, yv_X10_isMan, yi_X10_isMan, yc_X10_isMan⟩ yd_X10_isMan ob_60 (by decide) rfl rfl hl.1 (Nat.le_of_ble_eq_true rfl) ⟨by decide, by decide⟩ ⟨Nat.zero_le _, Nat.zero_le _⟩ dX10_look_3 (fun r_1 M_2 H locs hp_2 hw => ?_)
  obtain ⟨hm, hz⟩ := hp_2
  have hw := hw.to hm
  rcases hz with ⟨rfl, d0_3, d1_3, d2_3, d3_3⟩ | ⟨rfl, e_3⟩
  · refine sb_if_ne (tgt := 13) hx hb (by decide : (1 : Int32).toInt = 1) dX10_look_6 (by decide) (fun c_6_3 => ?_) (fun h => absurd h (by decide))
    refine lv_iload_n hx hb dX10_look_13 rfl (lv_at hl 2 rfl) ?_
    refine sb_if_lt (tgt := 23) hx hb rfl dX10_look_14 (by decide) (fun c_14_5 => ?_) (fun c_14_5 => ?_)
    · refine lv_iconst (v := 2) hx hb dX10_look_23 (by decide) ?_
      refine lv_goto (tgt := 28) hx hb dX10_look_24 (by decide) ?_
      refine ti_putI (ci := 10) (k := 0) (N := 67) (T := TX10) C hw iw_10 tyX10 tyX10_ok nmX10 rfl ob_60 (by decide) (by decide) fl_X10_154 rfl rfl rfl rfl (fn_10 A _) fs_10_0 dX10_look_28 (fun H locs hw => ?_)
      obtain ⟨M, h0⟩ : ∃ z : ti_M, z = uI M 60 0 2 := ⟨_, rfl⟩
      have hw := hw.to h0.symm
      have hI : mI Tm M := mI_uI hI h0 (by decide) (by decide) trivial
      have hF : mF Tm M := mF_qw hF hI (qw_I h0 (by decide))
      have ir0 := iR_0 h0
      have e2r := tI_nE (k2 := 2) (o2 := 60) h0 (nk (by decide))
      have e51r := tI_nE (k2 := 51) (o2 := 60) h0 (nk (by decide))
      have lwr : lw M _ := fun _ _ _ => tY_uIE h0
      have hk := kR_0 hk h0
      obtain ⟨htr, hr, hV, hu, hp0, htw⟩ := id hk
      have t4 : tx 4 = (tY M 60 3 0).toInt := htr.1.1
      have w83 := wF_8 hwf
      have q3r : rg 3 = (tY M 60 38 0).toInt := hr.1.2.1
      have G0 : ∀ m : Nat, m < 8 → rg (256 + m) = pp_bt (tY M 60 37 0) m := by have g := hr.2.2.2.2.2; rwa [if_pos h1r] at g
      refine lv_aload_n hx hb dX10_look_31 rfl (lv_at hl 0 rfl) ?_
      refine ti_get (ci := 10) (k := 0) (N := 67) (T := TX10) C hw iw_10 rfl ob_60 (by decide) (by decide) fl_X10_154 rfl rfl dX10_look_32 ?_
      refine ti_top (y := 2) ((tI_uE h0)) ?_
      refine sb_if_eq (tgt := 40) hx hb (by decide : (2 : Int32).toInt = 2) dX10_look_35 (by decide) (fun h => absurd h (by decide)) (fun c_35_8 => ?_)
      refine lv_iconst (v := 0) hx hb dX10_look_38 (by decide) ?_
      have lx : bq_lx tx z1.toInt z2.toInt = 2 := by unfold bq_lx; rw [if_pos (by omega), if_neg (by omega)]
      exact hQ _ _ _ _ _ _ hw rfl (⟨(by rw [lx, if_neg (by decide)]; decide), (by rw [tI_uE h0, lx]; decide), hk, (iR_eR eR.refl).trans ir0, hF, (rfl).trans e2r, lw_t (fun _ _ _ => rfl) lwr⟩) dX10_look_39
    · refine lv_iload_n hx hb dX10_look_17 rfl (lv_at hl 2 rfl) ?_
      refine lv_bipush (v := 10) hx hb dX10_look_18 (by decide) ?_
      refine sb_icmp_le (tgt := 27) hx hb rfl (by decide : (10 : Int32).toInt = 10) dX10_look_20 (by decide) (fun c_20_6 => ?_) (fun c_20_6 => ?_)
      · refine lv_iconst (v := 0) hx hb dX10_look_27 (by decide) ?_
        refine ti_putI (ci := 10) (k := 0) (N := 67) (T := TX10) C hw iw_10 tyX10 tyX10_ok nmX10 rfl ob_60 (by decide) (by decide) fl_X10_154 rfl rfl rfl rfl (fn_10 A _) fs_10_0 dX10_look_28 (fun H locs hw => ?_)
        obtain ⟨M, h0⟩ : ∃ z : ti_M, z = uI M 60 0 0 := ⟨_, rfl⟩
        have hw := hw.to h0.symm
        have hI : mI Tm M := mI_uI hI h0 (by decide) (by decide) trivial
        have hF : mF Tm M := mF_qw hF hI (qw_I h0 (by decide))
        have ir0 := iR_0 h0
        have e2r := tI_nE (k2 := 2) (o2 := 60) h0 (nk (by decide))
        have e51r := tI_nE (k2 := 51) (o2 := 60) h0 (nk (by decide))
        have lwr : lw M _ := fun _ _ _ => tY_uIE h0
        have hk := kR_0 hk h0
        obtain ⟨htr, hr, hV, hu, hp0, htw⟩ := id hk
        have t4 : tx 4 = (tY M 60 3 0).toInt := htr.1.1
        have w83 := wF_8 hwf
        have q3r : rg 3 = (tY M 60 38 0).toInt := hr.1.2.1
        have G0 : ∀ m : Nat, m < 8 → rg (256 + m) = pp_bt (tY M 60 37 0) m := by have g := hr.2.2.2.2.2; rwa [if_pos h1r] at g
        refine lv_aload_n hx hb dX10_look_31 rfl (lv_at hl 0 rfl) ?_
        refine ti_get (ci := 10) (k := 0) (N := 67) (T := TX10) C hw iw_10 rfl ob_60 (by decide) (by decide) fl_X10_154 rfl rfl dX10_look_32 ?_
        refine ti_top (y := 0) ((tI_uE h0)) ?_
        refine sb_if_eq (tgt := 40) hx hb (by decide : (0 : Int32).toInt = 0) dX10_look_35 (by decide) (fun c_35_10 => ?_) (fun h => absurd h (by decide))
        refine lv_iload_n hx hb dX10_look_40 rfl (lv_at hl 2 rfl) ?_
        by_cases s_12_0 : z2 = 0
        · refine lv_tableIn (tgt := 96) (off := 55) hx hb dX10_look_41 (by rw [s_12_0]; decide) (by rw [s_12_0]; decide) (by rw [s_12_0]; decide) (by decide) ?_
          refine lv_aload_n hx hb dX10_look_96 rfl (lv_at hl 0 rfl) ?_
          refine ti_get (ci := 10) (k := 5) (N := 67) (T := TX10) (v := .ref (A 60 6)) C hw iw_10 rfl ob_60 (by decide) (by decide) fl_X10_19 rfl rfl dX10_look_97 ?_
          refine lv_iload_n hx hb dX10_look_100 rfl (lv_at hl 1 rfl) ?_
          refine ti_iald (ci := 10) (k := 5) (n := 16) C hw ob_60 (by decide) (fun _ _ => rfl) (vp_in_iff.mpr (by omega)) dX10_look_101 ?_
          refine lv_topi (fun x_13 ex_13 => ?_)
          have yx_13 : tY M 60 5 z1.toNatClampNeg = x_13 := (ex_13.symm)
          have L_14 : tx (100 + 16 * z1.toInt.toNat + 1) = x_13.toInt := (htr.2.2.1 (z1.toInt.toNat) (by omega) (by omega)).1.trans ((congrArg Int32.toInt (cg rfl (z1.toInt.toNat))).symm.trans (rd_k (n := z1.toInt.toNat) (by omega) (yx_13)))
          have lx : bq_lx tx z1.toInt z2.toInt = 0 := by unfold bq_lx; rw [if_pos (by omega), if_pos (by omega)]
          have zv : z2.toInt = 0 := by rw [s_12_0]; decide
          exact hQ _ _ _ _ _ _ hw rfl (⟨(by rw [lx, if_pos rfl]; unfold bq_lk; rw [zv, if_pos rfl]; omega), (by rw [tI_uE h0, lx]; decide), hk, (iR_eR eR.refl).trans ir0, hF, (rfl).trans e2r, lw_t (fun _ _ _ => rfl) lwr⟩) dX10_look_102
        · by_cases s_12_1 : z2 = 1
          · refine lv_tableIn (tgt := 103) (off := 62) hx hb dX10_look_41 (by rw [s_12_1]; decide) (by rw [s_12_1]; decide) (by rw [s_12_1]; decide) (by decide) ?_
            refine lv_aload_n hx hb dX10_look_103 rfl (lv_at hl 0 rfl) ?_
            refine ti_get (ci := 10) (k := 6) (N := 67) (T := TX10) (v := .ref (A 60 7)) C hw iw_10 rfl ob_60 (by decide) (by decide) fl_X10_22 rfl rfl dX10_look_104 ?_
            refine lv_iload_n hx hb dX10_look_107 rfl (lv_at hl 1 rfl) ?_
            refine ti_iald (ci := 10) (k := 6) (n := 16) C hw ob_60 (by decide) (fun _ _ => rfl) (vp_in_iff.mpr (by omega)) dX10_look_108 ?_
            refine lv_topi (fun x_15 ex_15 => ?_)
            have yx_15 : tY M 60 6 z1.toNatClampNeg = x_15 := (ex_15.symm)
            have L_16 : tx (100 + 16 * z1.toInt.toNat + 2) = x_15.toInt := (htr.2.2.1 (z1.toInt.toNat) (by omega) (by omega)).2.1.trans ((congrArg Int32.toInt (cg rfl (z1.toInt.toNat))).symm.trans (rd_k (n := z1.toInt.toNat) (by omega) (yx_15)))
            have lx : bq_lx tx z1.toInt z2.toInt = 0 := by unfold bq_lx; rw [if_pos (by omega), if_pos (by omega)]
            have zv : z2.toInt = 1 := by rw [s_12_1]; decide
            exact hQ _ _ _ _ _ _ hw rfl (⟨(by rw [lx, if_pos rfl]; unfold bq_lk; rw [zv, if_neg (by decide), if_pos rfl]; omega), (by rw [tI_uE h0, lx]; decide), hk, (iR_eR eR.refl).trans ir0, hF, (rfl).trans e2r, lw_t (fun _ _ _ => rfl) lwr⟩) dX10_look_109
          · by_cases s_12_2 : z2 = 2
            · refine lv_tableIn (tgt := 110) (off := 69) hx hb dX10_look_41 (by rw [s_12_2]; decide) (by rw [s_12_2]; decide) (by rw [s_12_2]; decide) (by decide) ?_
              refine lv_aload_n hx hb dX10_look_110 rfl (lv_at hl 0 rfl) ?_
              refine ti_get (ci := 10) (k := 41) (N := 67) (T := TX10) (v := .ref (A 60 42)) C hw iw_10 rfl ob_60 (by decide) (by decide) fl_X10_90 rfl rfl dX10_look_111 ?_
              refine lv_iload_n hx hb dX10_look_114 rfl (lv_at hl 1 rfl) ?_
              refine ti_iald (ci := 10) (k := 41) (n := 184) C hw ob_60 (by decide) (fun _ _ => rfl) (vp_in_iff.mpr (by omega)) dX10_look_115 ?_
              refine lv_topi (fun x_17 ex_17 => ?_)
              have yx_17 : tY M 60 41 z1.toNatClampNeg = x_17 := (ex_17.symm)
              have L_18 : rg (160 + z1.toInt.toNat) = x_17.toInt := ((hr.2.2.2.1 (z1.toInt.toNat) (by omega)).2.2.1).trans (rd_k (n := 8 * 0 + z1.toInt.toNat) (by omega) (yx_17))
              have lx : bq_lx tx z1.toInt z2.toInt = 0 := by unfold bq_lx; rw [if_pos (by omega), if_pos (by omega)]
              have zv : z2.toInt = 2 := by rw [s_12_2]; decide
              exact hQ _ _ _ _ _ _ hw rfl (⟨(by rw [lx, if_pos rfl]; unfold bq_lk; rw [zv, if_neg (by decide), if_neg (by decide), if_pos rfl]; omega), (by rw [tI_uE h0, lx]; decide), hk, (iR_eR eR.refl).trans ir0, hF, (rfl).trans e2r, lw_t (fun _ _ _ => rfl) lwr⟩) dX10_look_116
            · by_cases s_12_3 : z2 = 3
              · refine lv_tableIn (tgt := 117) (off := 76) hx hb dX10_look_41 (by rw [s_12_3]; decide) (by rw [s_12_3]; decide) (by rw [s_12_3]; decide) (by decide) ?_
                refine lv_aload_n hx hb dX10_look_117 rfl (lv_at hl 0 rfl) ?_
                refine ti_get (ci := 10) (k := 42) (N := 67) (T := TX10) (v := .ref (A 60 43)) C hw iw_10 rfl ob_60 (by decide) (by decide) fl_X10_93 rfl rfl dX10_look_118 ?_
                refine lv_iload_n hx hb dX10_look_121 rfl (lv_at hl 1 rfl) ?_
                refine ti_iald (ci := 10) (k := 42) (n := 184) C hw ob_60 (by decide) (fun _ _ => rfl) (vp_in_iff.mpr (by omega)) dX10_look_122 ?_
                refine lv_topi (fun x_19 ex_19 => ?_)
                have yx_19 : tY M 60 42 z1.toNatClampNeg = x_19 := (ex_19.symm)
                have L_20 : rg (176 + z1.toInt.toNat) = x_19.toInt := ((hr.2.2.2.1 (z1.toInt.toNat) (by omega)).2.2.2.1).trans (rd_k (n := 8 * 0 + z1.toInt.toNat) (by omega) (yx_19))
                have lx : bq_lx tx z1.toInt z2.toInt = 0 := by unfold bq_lx; rw [if_pos (by omega), if_pos (by omega)]
                have zv : z2.toInt = 3 := by rw [s_12_3]; decide
                exact hQ _ _ _ _ _ _ hw rfl (⟨(by rw [lx, if_pos rfl]; unfold bq_lk; rw [zv, if_neg (by decide), if_neg (by decide), if_neg (by decide), if_pos rfl]; omega), (by rw [tI_uE h0, lx]; decide), hk, (iR_eR eR.refl).trans ir0, hF, (rfl).trans e2r, lw_t (fun _ _ _ => rfl) lwr⟩) dX10_look_123
              · by_cases s_12_4 : z2 = 4
                · refine lv_tableIn (tgt := 124) (off := 83) hx hb dX10_look_41 (by rw [s_12_4]; decide) (by rw [s_12_4]; decide) (by rw [s_12_4]; decide) (by decide) ?_
                  refine lv_aload_n hx hb dX10_look_124 rfl (lv_at hl 0 rfl) ?_
                  refine ti_get (ci := 10) (k := 43) (N := 67) (T := TX10) (v := .ref (A 60 44)) C hw iw_10 rfl ob_60 (by decide) (by decide) fl_X10_96 rfl rfl dX10_look_125 ?_
                  refine lv_iload_n hx hb dX10_look_128 rfl (lv_at hl 1 rfl) ?_
                  refine ti_iald (ci := 10) (k := 43) (n := 184) C hw ob_60 (by decide) (fun _ _ => rfl) (vp_in_iff.mpr (by omega)) dX10_look_129 ?_
                  refine lv_topi (fun x_21 ex_21 => ?_)
                  have yx_21 : tY M 60 43 z1.toNatClampNeg = x_21 := (ex_21.symm)
                  have L_22 : rg (192 + z1.toInt.toNat) = x_21.toInt := ((hr.2.2.2.1 (z1.toInt.toNat) (by omega)).2.2.2.2.1).trans (rd_k (n := 8 * 0 + z1.toInt.toNat) (by omega) (yx_21))
                  have lx : bq_lx tx z1.toInt z2.toInt = 0 := by unfold bq_lx; rw [if_pos (by omega), if_pos (by omega)]
                  have zv : z2.toInt = 4 := by rw [s_12_4]; decide
                  exact hQ _ _ _ _ _ _ hw rfl (⟨(by rw [lx, if_pos rfl]; unfold bq_lk; rw [zv, if_neg (by decide), if_neg (by decide), if_neg (by decide), if_neg (by decide), if_pos rfl]; omega), (by rw [tI_uE h0, lx]; decide), hk, (iR_eR eR.refl).trans ir0, hF, (rfl).trans e2r, lw_t (fun _ _ _ => rfl) lwr⟩) dX10_look_130
                · by_cases s_12_5 : z2 = 5
                  · refine lv_tableIn (tgt := 131) (off := 90) hx hb dX10_look_41 (by rw [s_12_5]; decide) (by rw [s_12_5]; decide) (by rw [s_12_5]; decide) (by decide) ?_
                    refine lv_aload_n hx hb dX10_look_131 rfl (lv_at hl 0 rfl) ?_
                    refine lv_iconst (v := 0) hx hb dX10_look_132 (by decide) ?_
                    refine lv_iload_n hx hb dX10_look_133 rfl (lv_at hl 1 rfl) ?_
                    refine ti_callVi (ci := 10) (av := [.int 0, .int z1]) C hw (z_X10_placeOf_0 l D A cy hJ M hI z1 tx rg htr ht4 hr) ⟨ml_X10_411, ym_X10_placeOf, yv_X10_placeOf, yi_X10_placeOf, yc_X10_placeOf⟩ yd_X10_placeOf ob_60 (by decide) rfl rfl hl.1 (Nat.le_of_ble_eq_true rfl) ⟨by decide, by decide⟩ ⟨Nat.zero_le _, Nat.zero_le _⟩ dX10_look_134 (fun r_23 M_24 H locs hp_24 hw => ?_)
                    obtain ⟨pr_23, hm, -⟩ := hp_24
                    have hw := hw.to hm
                    have lx : bq_lx tx z1.toInt z2.toInt = 0 := by unfold bq_lx; rw [if_pos (by omega), if_pos (by omega)]
                    have zv : z2.toInt = 5 := by rw [s_12_5]; decide
                    exact hQ _ _ _ _ _ _ hw rfl (⟨(by rw [lx, if_pos rfl]; unfold bq_lk; rw [zv, if_neg (by decide), if_neg (by decide), if_neg (by decide), if_neg (by decide), if_neg (by decide), if_pos rfl]; exact pr_23), (by rw [tI_uE h0, lx]; decide), hk, (iR_eR eR.refl).trans ir0, hF, (rfl).trans e2r, lw_t (fun _ _ _ => rfl) lwr⟩) dX10_look_137
                  · by_cases s_12_6 : z2 = 6
                    · refine lv_tableIn (tgt := 138) (off := 97) hx hb dX10_look_41 (by rw [s_12_6]; decide) (by rw [s_12_6]; decide) (by rw [s_12_6]; decide) (by decide) ?_
                      refine lv_aload_n hx hb dX10_look_138 rfl (lv_at hl 0 rfl) ?_
                      refine ti_get (ci := 10) (k := 40) (N := 67) (T := TX10) (v := .ref (A 60 41)) C hw iw_10 rfl ob_60 (by decide) (by decide) fl_X10_87 rfl rfl dX10_look_139 ?_
                      refine lv_iload_n hx hb dX10_look_142 rfl (lv_at hl 1 rfl) ?_
                      refine ti_iald (ci := 10) (k := 40) (n := 184) C hw ob_60 (by decide) (fun _ _ => rfl) (vp_in_iff.mpr (by omega)) dX10_look_143 ?_
                      refine lv_topi (fun x_25 ex_25 => ?_)
                      have yx_25 : tY M 60 40 z1.toNatClampNeg = x_25 := (ex_25.symm)
                      have zx_25 : (tY M 60 40 z1.toNatClampNeg).toInt = x_25.toInt := by rw [yx_25]
                      have L_26 : rg (128 + z1.toInt.toNat) = x_25.toInt := ((hr.2.2.2.1 (z1.toInt.toNat) (by omega)).1).trans (rd_k (n := 8 * 0 + z1.toInt.toNat) (by omega) (yx_25))
                      have lx : bq_lx tx z1.toInt z2.toInt = 0 := by unfold bq_lx; rw [if_pos (by omega), if_pos (by omega)]
                      have zv : z2.toInt = 6 := by rw [s_12_6]; decide
                      exact hQ _ _ _ _ _ _ hw rfl (⟨(by rw [lx, if_pos rfl]; unfold bq_lk; rw [zv, if_neg (by decide), if_neg (by decide), if_neg (by decide), if_neg (by decide), if_neg (by decide), if_neg (by decide), if_pos rfl]; omega), (by rw [tI_uE h0, lx]; decide), hk, (iR_eR eR.refl).trans ir0, hF, (rfl).trans e2r, lw_t (fun _ _ _ => rfl) lwr⟩) dX10_look_144
                    · by_cases s_12_7 : z2 = 7
                      · refine lv_tableIn (tgt := 145) (off := 104) hx hb dX10_look_41 (by rw [s_12_7]; decide) (by rw [s_12_7]; decide) (by rw [s_12_7]; decide) (by decide) ?_
                        refine lv_aload_n hx hb dX10_look_145 rfl (lv_at hl 0 rfl) ?_
                        refine ti_get (ci := 10) (k := 40) (N := 67) (T := TX10) (v := .ref (A 60 41)) C hw iw_10 rfl ob_60 (by decide) (by decide) fl_X10_87 rfl rfl dX10_look_146 ?_
                        refine lv_iload_n hx hb dX10_look_149 rfl (lv_at hl 1 rfl) ?_
                        refine ti_iald (ci := 10) (k := 40) (n := 184) C hw ob_60 (by decide) (fun _ _ => rfl) (vp_in_iff.mpr (by omega)) dX10_look_150 ?_
                        refine lv_topi (fun x_27 ex_27 => ?_)
                        have yx_27 : tY M 60 40 z1.toNatClampNeg = x_27 := (ex_27.symm)
                        have zx_27 : (tY M 60 40 z1.toNatClampNeg).toInt = x_27.toInt := by rw [yx_27]
                        have L_28 : rg (128 + z1.toInt.toNat) = x_27.toInt := ((hr.2.2.2.1 (z1.toInt.toNat) (by omega)).1).trans (rd_k (n := 8 * 0 + z1.toInt.toNat) (by omega) (yx_27))
                        refine sb_if_ne (tgt := 158) hx hb rfl dX10_look_151 (by decide) (fun c_151_28 => ?_) (fun c_151_28 => ?_)
                        · refine lv_aload_n hx hb dX10_look_158 rfl (lv_at hl 0 rfl) ?_
                          refine ti_get (ci := 10) (k := 40) (N := 67) (T := TX10) (v := .ref (A 60 41)) C hw iw_10 rfl ob_60 (by decide) (by decide) fl_X10_87 rfl rfl dX10_look_159 ?_
                          refine lv_iload_n hx hb dX10_look_162 rfl (lv_at hl 1 rfl) ?_
                          refine ti_iald (ci := 10) (k := 40) (n := 184) C hw ob_60 (by decide) (fun _ _ => rfl) (vp_in_iff.mpr (by omega)) dX10_look_163 ?_
                          refine ti_top (y := x_27) ((yx_27)) ?_
                          have L_30 : rg (128 + z1.toInt.toNat) = x_27.toInt := ((hr.2.2.2.1 (z1.toInt.toNat) (by omega)).1).trans (rd_k (n := 8 * 0 + z1.toInt.toNat) (by omega) (yx_27))
                          refine lv_iconst (v := 1) hx hb dX10_look_164 (by decide) ?_
                          refine sb_icmp_ne (tgt := 177) hx hb rfl (by decide : (1 : Int32).toInt = 1) dX10_look_165 (by decide) (fun c_165_30 => ?_) (fun c_165_30 => ?_)
                          · refine lv_aload_n hx hb dX10_look_177 rfl (lv_at hl 0 rfl) ?_
                            refine ti_get (ci := 10) (k := 46) (N := 67) (T := TX10) (v := .ref (A 60 47)) C hw iw_10 rfl ob_60 (by decide) (by decide) fl_X10_105 rfl rfl dX10_look_178 ?_
                            refine lv_iload_n hx hb dX10_look_181 rfl (lv_at hl 1 rfl) ?_
                            have WB := hwf.2.2.2.2.2.1 z1.toInt.toNat (by omega)
                            refine ti_iald (ci := 10) (k := 46) (n := 184) C hw ob_60 (by decide) (fun _ _ => rfl) (vp_in_iff.mpr (by omega)) dX10_look_182 ?_
                            refine lv_topi (fun x_34 ex_34 => ?_)
                            have yx_34 : tY M 60 46 z1.toNatClampNeg = x_34 := (ex_34.symm)
                            have L_35 : rg (224 + z1.toInt.toNat) = x_34.toInt := ((hr.2.2.2.2.1 (z1.toInt.toNat) (by omega)).2 (by omega)).trans (rd_k (n := 8 * 0 + z1.toInt.toNat) (by omega) (yx_34))
                            refine lv_aload_n hx hb dX10_look_183 rfl (lv_at hl 0 rfl) ?_
                            refine ti_get (ci := 10) (k := 45) (N := 67) (T := TX10) (v := .ref (A 60 46)) C hw iw_10 rfl ob_60 (by decide) (by decide) fl_X10_102 rfl rfl dX10_look_184 ?_
                            refine lv_iload_n hx hb dX10_look_187 rfl (lv_at hl 1 rfl) ?_
                            refine ti_iald (ci := 10) (k := 45) (n := 184) C hw ob_60 (by decide) (fun _ _ => rfl) (vp_in_iff.mpr (by omega)) dX10_look_188 ?_
                            refine lv_topi (fun x_39 ex_39 => ?_)
                            have yx_39 : tY M 60 45 z1.toNatClampNeg = x_39 := (ex_39.symm)
                            have L_40 : rg (208 + z1.toInt.toNat) = x_39.toInt := ((hr.2.2.2.2.1 (z1.toInt.toNat) (by omega)).1 (by omega)).trans (rd_k (n := 8 * 0 + z1.toInt.toNat) (by omega) (yx_39))
                            refine lv_isub hx hb dX10_look_189 ?_
                            refine lv_topi (fun x_41 ex_41 => ?_)
                            have tx_41 : x_41.toInt = bw (x_34.toInt - x_39.toInt) := bw_sub ex_41 rfl rfl
                            have lx : bq_lx tx z1.toInt z2.toInt = 0 := by unfold bq_lx; rw [if_pos (by omega), if_pos (by omega)]
                            have zv : z2.toInt = 7 := by rw [s_12_7]; decide
                            exact hQ _ _ _ _ _ _ hw rfl (⟨(by rw [lx, if_pos rfl]; unfold bq_lk; rw [zv, if_neg (by decide), if_neg (by decide), if_neg (by decide), if_neg (by decide), if_neg (by decide), if_neg (by decide), if_neg (by decide), if_pos rfl]; unfold bq_wt; rw [if_neg (by omega), if_neg (by omega), L_35, L_40]; exact tx_41), (by rw [tI_uE h0, lx]; decide), hk, (iR_eR eR.refl).trans ir0, hF, (rfl).trans e2r, lw_t (fun _ _ _ => rfl) lwr⟩) dX10_look_190
                          · refine lv_aload_n hx hb dX10_look_168 rfl (lv_at hl 0 rfl) ?_
                            refine ti_get (ci := 10) (k := 34) (N := 67) (T := TX10) (v := .ref (A 60 35)) C hw iw_10 rfl ob_60 (by decide) (by decide) fl_X10_69 rfl rfl dX10_look_169 ?_
                            refine lv_iconst (v := 0) hx hb dX10_look_172 (by decide) ?_
                            refine ti_iald (ci := 10) (k := 34) (n := 23) C hw ob_60 (by decide) (fun _ _ => rfl) (by unfold vp_in; decide) dX10_look_173 ?_
                            refine lv_topi (fun x_32 ex_32 => ?_)
                            have yx_32 : tY M 60 34 0 = x_32 := ((congrArg _ (by decide)).symm.trans ex_32.symm)
                            have bx_32 : 0 ≤ x_32.toInt ∧ x_32.toInt ≤ 120 := mI_ry (k := 34) (i := 0) hI yx_32.symm (by decide)
                            have zx_32 : (tY M 60 34 0).toInt = x_32.toInt := by rw [yx_32]
                            have L_33 : rg 2 = x_32.toInt := (hr.1.1).trans (congrArg Int32.toInt (yx_32))
                            refine lv_goto (tgt := 183) hx hb dX10_look_174 (by decide) ?_
                            refine lv_aload_n hx hb dX10_look_183 rfl (lv_at hl 0 rfl) ?_
                            refine ti_get (ci := 10) (k := 45) (N := 67) (T := TX10) (v := .ref (A 60 46)) C hw iw_10 rfl ob_60 (by decide) (by decide) fl_X10_102 rfl rfl dX10_look_184 ?_
                            refine lv_iload_n hx hb dX10_look_187 rfl (lv_at hl 1 rfl) ?_
                            refine ti_iald (ci := 10) (k := 45) (n := 184) C hw ob_60 (by decide) (fun _ _ => rfl) (vp_in_iff.mpr (by omega)) dX10_look_188 ?_
                            refine lv_topi (fun x_36 ex_36 => ?_)
                            have yx_36 : tY M 60 45 z1.toNatClampNeg = x_36 := (ex_36.symm)
                            have L_37 : rg (208 + z1.toInt.toNat) = x_36.toInt := ((hr.2.2.2.2.1 (z1.toInt.toNat) (by omega)).1 (by omega)).trans (rd_k (n := 8 * 0 + z1.toInt.toNat) (by omega) (yx_36))
                            refine lv_isub hx hb dX10_look_189 ?_
                            refine lv_topi (fun x_38 ex_38 => ?_)
                            have tx_38 : x_38.toInt = bw (x_32.toInt - x_36.toInt) := bw_sub ex_38 rfl rfl
                            have lx : bq_lx tx z1.toInt z2.toInt = 0 := by unfold bq_lx; rw [if_pos (by omega), if_pos (by omega)]
                            have zv : z2.toInt = 7 := by rw [s_12_7]; decide
                            exact hQ _ _ _ _ _ _ hw rfl (⟨(by rw [lx, if_pos rfl]; unfold bq_lk; rw [zv, if_neg (by decide), if_neg (by decide), if_neg (by decide), if_neg (by decide), if_neg (by decide), if_neg (by decide), if_neg (by decide), if_pos rfl]; unfold bq_wt; rw [if_neg (by omega), if_pos (by omega), L_33, L_37]; exact tx_38), (by rw [tI_uE h0, lx]; decide), hk, (iR_eR eR.refl).trans ir0, hF, (rfl).trans e2r, lw_t (fun _ _ _ => rfl) lwr⟩) dX10_look_190
                        · refine lv_iconst (v := 0) hx hb dX10_look_154 (by decide) ?_
                          refine lv_goto (tgt := 190) hx hb dX10_look_155 (by decide) ?_
                          have lx : bq_lx tx z1.toInt z2.toInt = 0 := by unfold bq_lx; rw [if_pos (by omega), if_pos (by omega)]
                          have zv : z2.toInt = 7 := by rw [s_12_7]; decide
                          exact hQ _ _ _ _ _ _ hw rfl (⟨(by rw [lx, if_pos rfl]; unfold bq_lk; rw [zv, if_neg (by decide), if_neg (by decide), if_neg (by decide), if_neg (by decide), if_neg (by decide), if_neg (by decide), if_neg (by decide), if_pos rfl]; unfold bq_wt; rw [if_pos (by omega)]; decide), (by rw [tI_uE h0, lx]; decide), hk, (iR_eR eR.refl).trans ir0, hF, (rfl).trans e2r, lw_t (fun _ _ _ => rfl) lwr⟩) dX10_look_190
                      · by_cases s_12_8 : z2 = 8
                        · refine lv_tableIn (tgt := 191) (off := 150) hx hb dX10_look_41 (by rw [s_12_8]; decide) (by rw [s_12_8]; decide) (by rw [s_12_8]; decide) (by decide) ?_
                          refine lv_aload_n hx hb dX10_look_191 rfl (lv_at hl 0 rfl) ?_
                          refine ti_get (ci := 10) (k := 47) (N := 67) (T := TX10) (v := .ref (A 60 48)) C hw iw_10 rfl ob_60 (by decide) (by decide) fl_X10_108 rfl rfl dX10_look_192 ?_
                          refine lv_iload_n hx hb dX10_look_195 rfl (lv_at hl 1 rfl) ?_
                          refine ti_iald (ci := 10) (k := 47) (n := 184) C hw ob_60 (by decide) (fun _ _ => rfl) (vp_in_iff.mpr (by omega)) dX10_look_196 ?_
                          refine lv_topi (fun x_42 ex_42 => ?_)
                          have yx_42 : tY M 60 47 z1.toNatClampNeg = x_42 := (ex_42.symm)
                          have L_43 : rg (240 + z1.toInt.toNat) = x_42.toInt := ((hr.2.2.2.1 (z1.toInt.toNat) (by omega)).2.2.2.2.2).trans (rd_k (n := 8 * 0 + z1.toInt.toNat) (by omega) (yx_42))
                          have lx : bq_lx tx z1.toInt z2.toInt = 0 := by unfold bq_lx; rw [if_pos (by omega), if_pos (by omega)]
                          have zv : z2.toInt = 8 := by rw [s_12_8]; decide
                          exact hQ _ _ _ _ _ _ hw rfl (⟨(by rw [lx, if_pos rfl]; unfold bq_lk; rw [zv, if_neg (by decide), if_neg (by decide), if_neg (by decide), if_neg (by decide), if_neg (by decide), if_neg (by decide), if_neg (by decide), if_neg (by decide), if_pos rfl]; omega), (by rw [tI_uE h0, lx]; decide), hk, (iR_eR eR.refl).trans ir0, hF, (rfl).trans e2r, lw_t (fun _ _ _ => rfl) lwr⟩) dX10_look_197
                        · by_cases s_12_9 : z2 = 9
                          · refine lv_tableIn (tgt := 198) (off := 157) hx hb dX10_look_41 (by rw [s_12_9]; decide) (by rw [s_12_9]; decide) (by rw [s_12_9]; decide) (by decide) ?_
                            refine lv_aload_n hx hb dX10_look_198 rfl (lv_at hl 0 rfl) ?_
                            refine ti_get (ci := 10) (k := 37) (N := 67) (T := TX10) (v := .ref (A 60 38)) C hw iw_10 rfl ob_60 (by decide) (by decide) fl_X10_78 rfl rfl dX10_look_199 ?_
                            refine lv_iconst (v := 0) hx hb dX10_look_202 (by decide) ?_
                            refine ti_iald (ci := 10) (k := 37) (n := 23) C hw ob_60 (by decide) (fun _ _ => rfl) (by unfold vp_in; decide) dX10_look_203 ?_
                            refine lv_topi (fun x_44 ex_44 => ?_)
                            have yx_44 : tY M 60 37 0 = x_44 := ((congrArg _ (by decide)).symm.trans ex_44.symm)
                            refine lv_iload_n hx hb dX10_look_204 rfl (lv_at hl 1 rfl) ?_
                            refine lv_ishr hx hb dX10_look_205 ?_
                            refine lv_topi (fun x_45 ex_45 => ?_)
                            refine lv_iconst (v := 1) hx hb dX10_look_206 (by decide) ?_
                            refine lv_iand hx hb dX10_look_207 ?_
                            refine lv_topi (fun x_46 ex_46 => ?_)
                            have bx_46 := i_and 1 ex_46 (by decide) (by decide)
                            have lx : bq_lx tx z1.toInt z2.toInt = 0 := by unfold bq_lx; rw [if_pos (by omega), if_pos (by omega)]
                            have zv : z2.toInt = 9 := by rw [s_12_9]; decide
                            have BT : x_46.toInt = pp_bt (tY M 60 37 0) z1.toInt.toNat := by rw [(yx_44)]; exact bt_shr (k := z1.toInt) ex_45 rfl (by omega) (by omega) ex_46
                            have BG := G0 z1.toInt.toNat (by omega)
                            exact hQ _ _ _ _ _ _ hw rfl (⟨(by rw [lx, if_pos rfl]; unfold bq_lk; rw [zv, if_neg (by decide), if_neg (by decide), if_neg (by decide), if_neg (by decide), if_neg (by decide), if_neg (by decide), if_neg (by decide), if_neg (by decide), if_neg (by decide), if_pos rfl]; omega), (by rw [tI_uE h0, lx]; decide), hk, (iR_eR eR.refl).trans ir0, hF, (rfl).trans e2r, lw_t (fun _ _ _ => rfl) lwr⟩) dX10_look_208
                          · refine lv_tableOut (tgt := 209) hx hb dX10_look_41 (ti_out (lo := 0) (hi := 9) z2 (fun v h1 h2 => by rcases (show v = 0 ∨ v = 1 ∨ v = 2 ∨ v = 3 ∨ v = 4 ∨ v = 5 ∨ v = 6 ∨ v = 7 ∨ v = 8 ∨ v = 9 by omega) with rfl | rfl | rfl | rfl | rfl | rfl | rfl | rfl | rfl | rfl <;> first | exact ti_nev 0 s_12_0 (by decide) | exact ti_nev 1 s_12_1 (by decide) | exact ti_nev 2 s_12_2 (by decide) | exact ti_nev 3 s_12_3 (by decide) | exact ti_nev 4 s_12_4 (by decide) | exact ti_nev 5 s_12_5 (by decide) | exact ti_nev 6 s_12_6 (by decide) | exact ti_nev 7 s_12_7 (by decide) | exact ti_nev 8 s_12_8 (by decide) | exact ti_nev 9 s_12_9 (by decide))) (by decide) ?_
                            refine lv_aload_n hx hb dX10_look_209 rfl (lv_at hl 0 rfl) ?_
                            refine ti_get (ci := 10) (k := 13) (N := 67) (T := TX10) (v := .ref (A 60 14)) C hw iw_10 rfl ob_60 (by decide) (by decide) fl_X10_43 rfl rfl dX10_look_210 ?_
                            refine lv_iload_n hx hb dX10_look_213 rfl (lv_at hl 1 rfl) ?_
                            refine ti_iald (ci := 10) (k := 13) (n := 16) C hw ob_60 (by decide) (fun _ _ => rfl) (vp_in_iff.mpr (by omega)) dX10_look_214 ?_
                            refine lv_topi (fun x_47 ex_47 => ?_)
                            have yx_47 : tY M 60 13 z1.toNatClampNeg = x_47 := (ex_47.symm)
                            have L_48 : tx (100 + 16 * z1.toInt.toNat + 9) = x_47.toInt - 1 := (htr.2.2.1 (z1.toInt.toNat) (by omega) (by omega)).2.2.2.2.2.2.2.2.trans (congrArg (fun z => z - 1) ((congrArg Int32.toInt (cg rfl (z1.toInt.toNat))).symm.trans (rd_k (n := z1.toInt.toNat) (by omega) (yx_47))))
                            refine lv_iconst (v := 1) hx hb dX10_look_215 (by decide) ?_
                            refine lv_isub hx hb dX10_look_216 ?_
                            refine lv_topi (fun x_49 ex_49 => ?_)
                            have tx_49 : x_49.toInt = bw (x_47.toInt - 1) := bw_sub ex_49 rfl (by decide : (1 : Int32).toInt = 1)
                            have lx : bq_lx tx z1.toInt z2.toInt = 0 := by unfold bq_lx; rw [if_pos (by omega), if_pos (by omega)]
                            have zn0 : z2.toInt ≠ 0 := pt_ne s_12_0 (by decide)
                            have zn1 : z2.toInt ≠ 1 := pt_ne s_12_1 (by decide)
                            have zn2 : z2.toInt ≠ 2 := pt_ne s_12_2 (by decide)
                            have zn3 : z2.toInt ≠ 3 := pt_ne s_12_3 (by decide)
                            have zn4 : z2.toInt ≠ 4 := pt_ne s_12_4 (by decide)
                            have zn5 : z2.toInt ≠ 5 := pt_ne s_12_5 (by decide)
                            have zn6 : z2.toInt ≠ 6 := pt_ne s_12_6 (by decide)
                            have zn7 : z2.toInt ≠ 7 := pt_ne s_12_7 (by decide)
                            have zn8 : z2.toInt ≠ 8 := pt_ne s_12_8 (by decide)
                            have zn9 : z2.toInt ≠ 9 := pt_ne s_12_9 (by decide)
                            have zv : z2.toInt = 10 := by omega
                            have GB := htW.2.2.2.2.2.2.2.2.2 z1.toInt.toNat (by omega) (by omega)
                            rw [bw_id (by omega) (by omega)] at tx_49
                            exact hQ _ _ _ _ _ _ hw rfl (⟨(by rw [lx, if_pos rfl]; unfold bq_lk; rw [zv, if_neg (by decide), if_neg (by decide), if_neg (by decide), if_neg (by decide), if_neg (by decide), if_neg (by decide), if_neg (by decide), if_neg (by decide), if_neg (by decide), if_neg (by decide)]; omega), (by rw [tI_uE h0, lx]; decide), hk, (iR_eR eR.refl).trans ir0, hF, (rfl).trans e2r, lw_t (fun _ _ _ => rfl) lwr⟩) dX10_look_217
      · refine lv_iconst (v := 2) hx hb dX10_look_23 (by decide) ?_
        refine lv_goto (tgt := 28) hx hb dX10_look_24 (by decide) ?_
        refine ti_putI (ci := 10) (k := 0) (N := 67) (T := TX10) C hw iw_10 tyX10 tyX10_ok nmX10 rfl ob_60 (by decide) (by decide) fl_X10_154 rfl rfl rfl rfl (fn_10 A _) fs_10_0 dX10_look_28 (fun H locs hw => ?_)
        obtain ⟨M, h0⟩ : ∃ z : ti_M, z = uI M 60 0 2 := ⟨_, rfl⟩
        have hw := hw.to h0.symm
        have hI : mI Tm M := mI_uI hI h0 (by decide) (by decide) trivial
        have hF : mF Tm M := mF_qw hF hI (qw_I h0 (by decide))
        have ir0 := iR_0 h0
        have e2r := tI_nE (k2 := 2) (o2 := 60) h0 (nk (by decide))
        have e51r := tI_nE (k2 := 51) (o2 := 60) h0 (nk (by decide))
        have lwr : lw M _ := fun _ _ _ => tY_uIE h0
        have hk := kR_0 hk h0
        obtain ⟨htr, hr, hV, hu, hp0, htw⟩ := id hk
        have t4 : tx 4 = (tY M 60 3 0).toInt := htr.1.1
        have w83 := wF_8 hwf
        have q3r : rg 3 = (tY M 60 38 0).toInt := hr.1.2.1
        have G0 : ∀ m : Nat, m < 8 → rg (256 + m) = pp_bt (tY M 60 37 0) m := by have g := hr.2.2.2.2.2; rwa [if_pos h1r] at g
        refine lv_aload_n hx hb dX10_look_31 rfl (lv_at hl 0 rfl) ?_
        refine ti_get (ci := 10) (k := 0) (N := 67) (T := TX10) C hw iw_10 rfl ob_60 (by decide) (by decide) fl_X10_154 rfl rfl dX10_look_32 ?_
        refine ti_top (y := 2) ((tI_uE h0)) ?_
        refine sb_if_eq (tgt := 40) hx hb (by decide : (2 : Int32).toInt = 2) dX10_look_35 (by decide) (fun h => absurd h (by decide)) (fun c_35_9 => ?_)
        refine lv_iconst (v := 0) hx hb dX10_look_38 (by decide) ?_
        have lx : bq_lx tx z1.toInt z2.toInt = 2 := by unfold bq_lx; rw [if_pos (by omega), if_neg (by omega)]
        exact hQ _ _ _ _ _ _ hw rfl (⟨(by rw [lx, if_neg (by decide)]; decide), (by rw [tI_uE h0, lx]; decide), hk, (iR_eR eR.refl).trans ir0, hF, (rfl).trans e2r, lw_t (fun _ _ _ => rfl) lwr⟩) dX10_look_39
  · refine sb_if_ne (tgt := 13) hx hb (by decide : (0 : Int32).toInt = 0) dX10_look_6 (by decide) (fun h => absurd h (by decide)) (fun c_6_4 => ?_)
    refine lv_iconst (v := 1) hx hb dX10_look_9 (by decide) ?_
    refine lv_goto (tgt := 28) hx hb dX10_look_10 (by decide) ?_
    refine ti_putI (ci := 10) (k := 0) (N := 67) (T := TX10) C hw iw_10 tyX10 tyX10_ok nmX10 rfl ob_60 (by decide) (by decide) fl_X10_154 rfl rfl rfl rfl (fn_10 A _) fs_10_0 dX10_look_28 (fun H locs hw => ?_)
    obtain ⟨M, h0⟩ : ∃ z : ti_M, z = uI M 60 0 1 := ⟨_, rfl⟩
    have hw := hw.to h0.symm
    have hI : mI Tm M := mI_uI hI h0 (by decide) (by decide) trivial
    have hF : mF Tm M := mF_qw hF hI (qw_I h0 (by decide))
    have ir0 := iR_0 h0
    have e2r := tI_nE (k2 := 2) (o2 := 60) h0 (nk (by decide))
    have e51r := tI_nE (k2 := 51) (o2 := 60) h0 (nk (by decide))
    have lwr : lw M _ := fun _ _ _ => tY_uIE h0
    have hk := kR_0 hk h0
    obtain ⟨htr, hr, hV, hu, hp0, htw⟩ := id hk
    have t4 : tx 4 = (tY M 60 3 0).toInt := htr.1.1
    have w83 := wF_8 hwf
    have q3r : rg 3 = (tY M 60 38 0).toInt := hr.1.2.1
    have G0 : ∀ m : Nat, m < 8 → rg (256 + m) = pp_bt (tY M 60 37 0) m := by have g := hr.2.2.2.2.2; rwa [if_pos h1r] at g
    refine lv_aload_n hx hb dX10_look_31 rfl (lv_at hl 0 rfl) ?_
    refine ti_get (ci := 10) (k := 0) (N := 67) (T := TX10) C hw iw_10 rfl ob_60 (by decide) (by decide) fl_X10_154 rfl rfl dX10_look_32 ?_
    refine ti_top (y := 1) ((tI_uE h0)) ?_
    refine sb_if_eq (tgt := 40) hx hb (by decide : (1 : Int32).toInt = 1) dX10_look_35 (by decide) (fun h => absurd h (by decide)) (fun c_35_7 => ?_)
    refine lv_iconst (v := 0) hx hb dX10_look_38 (by decide) ?_
    have lx : bq_lx tx z1.toInt z2.toInt = 1 := by unfold bq_lx; rw [if_neg (by omega)]
    exact hQ _ _ _ _ _ _ hw rfl (⟨(by rw [lx, if_neg (by decide)]; decide), (by rw [tI_uE h0, lx]; decide), hk, (iR_eR eR.refl).trans ir0, hF, (rfl).trans e2r, lw_t (fun _ _ _ => rfl) lwr⟩) dX10_look_39
end
section
theorem tx_E.kept {A : Nat → Prop} {U : State} {H H1 : Heap} (h : tx_E A U H) (hq : ∀ a : Nat, a < H.size → ¬ A a → H1[a]? = H[a]?) : tx_E A U H1 := by
  obtain ⟨⟨a, v, h1, h2⟩, ⟨b, w, h3, h4⟩, h5⟩ := h
  exact ⟨⟨a, v, h1, h2.kept hq⟩, ⟨b, w, h3, h4.kept hq⟩, h5.kept hq⟩
def lq_B (p : Program) (s : State) (m : MethodId) (c : Code) (args : Array Value) (cc : ByteArray) (own : String) (nL : Nat) (D : va_G) (cy : Nat → ClassId) : Prop :=
  p.tables.exec = Jvm.exec ∧ c.code = cc ∧ (∀ w ∈ lw_g, w.before args s = true) ∧ s.vm.findClass own = some m.cls ∧ va_K D vwCl (ti_ty cy) s ∧ c.maxLocals = nL ∧ True ∧ ti_N s
section
variable {p : Program} {l : Launch} {e : Env} {R : Room} {s : State} {m : MethodId} {args : Array Value} {below : List Frame} {meth : Method} {c : Code} {H H0 : Heap} {locs : List Loc} {cells slots : Nat} {Q : State → Prop} {pc : Nat} {ls : Array Slot} {rest : List Value} {cc : ByteArray} {own : String} {nL : Nat} {D : va_G} {cy : Nat → ClassId} {As : Nat → Prop} {ws : va_W}
/-- a new row of a basic type -/
theorem lq_nA {atype : ArrayType} {ty : FieldType} (t0 : Nat) (C : lq_B p s m c args cc own nL D cy) (hac : Cond.arrayClass (newarray.typeOf atype) ∈ lw_g) (hty : newarray.typeOf atype = ty) (hp : ∀ C, ty ≠ .object C) (ht : (ti_ty cy)[t0]? = some (cy t0, ty)) (hP : va_P D vwCl ws H) (hD : va_D As ws) (hS : va_S As H0 H locs) (hA : ∀ q, H0.size ≤ q → As q)
    {n : Int32} {N' : Nat} {a0 : vp_A} (ha : ∀ cA : ClassId, vp_cell cA a0 = arrV cA N' (fun _ => defaultValue ty)) (hn : ¬ n < 0) (hN : n.toNatClampNeg = N') (hbytes : N' * componentBytes ty ≤ 536870912) (k2 n2 : Nat) (hcells : cells + 1 ≤ k2) (hslots : slots + N' ≤ n2) (hR : k2 ≤ R.cells ∧ n2 ≤ R.slots) (hdg : decode cc pc = .ok (.newarray atype, 2))
    (kk : ∀ (q : Nat) (H1 : Heap), va_P D vwCl (ws ++ [(q, .inl (cy t0, a0))]) H1 → va_D As (ws ++ [(q, .inl (cy t0, a0))]) → va_S As H0 H1 locs → W p l e R s m args below meth c H1 locs k2 n2 Q (F0 m (pc + 2) ls (.ref q :: rest))) : W p l e R s m args below meth c H locs cells slots Q (F0 m pc ls (.int n :: rest)) := by
  refine va_newa (atype := atype) (ty := ty) C.1 C.2.1 (C.2.2.1 _ hac) hty C.2.2.2.2.1 hP hD hS hA ha hn hN hbytes (Nat.le_trans hcells hR.1) (Nat.le_trans hslots hR.2) hdg ?_
  intro q cA H1 hK1 hP1 hD1 hS1
  obtain rfl := ti_sameP hp C.2.2.2.2.1 ht hK1
  exact W.widen hcells hslots (kk q H1 hP1 hD1 hS1)
/-- a new object -/
theorem lq_nO {Cn : String} {T : u_T} {N ci idx : Nat} (ty : Nat → FieldType) (hty : ∀ k, k < N → parseFieldDescriptor (T k).2.2.1 = some (ty k)) (C : lq_B p s m c args cc own nL D cy) (hin : ∀ w ∈ u_ws Cn T N, w ∈ lw_g) (hck : Cond.classLink own idx Cn ∈ lw_g) (his : Cond.instantiable Cn N ∈ lw_g) (hini : Cond.initialized Cn ∈ lw_g) (hcl : vwCl[ci]? = some (Cn, T, N)) (hP : va_P D vwCl ws H) (hD : va_D As ws) (hS : va_S As H0 H locs) (hA : ∀ q, H0.size ≤ q → As q)
    {fs : List Value} (hfs : ∀ j, j < N → defaultValue (ty j) = vp_V fs j) (k2 n2 : Nat) (hcells : cells + 1 ≤ k2) (hslots : slots + N ≤ n2) (hR : k2 ≤ R.cells ∧ n2 ≤ R.slots) (hdg : decode cc pc = .ok (.new idx, 3))
    (kk : ∀ (q : Nat) (H1 : Heap), va_P D vwCl (ws ++ [(q, .inr (ci, fs))]) H1 → va_D As (ws ++ [(q, .inr (ci, fs))]) → va_S As H0 H1 locs → W p l e R s m args below meth c H1 locs k2 n2 Q (F0 m (pc + 3) ls (.ref q :: rest))) : W p l e R s m args below meth c H locs cells slots Q (F0 m pc ls rest) := by
  refine va_new (ci := ci) (C := Cn) (T := T) (N := N) C.1 C.2.1 C.2.2.1 hin ty hty C.2.2.2.1 (C.2.2.1 _ hck) (C.2.2.1 _ his) (C.2.2.1 _ hini) C.2.2.2.2.1 hP hD hS hA hcl hfs (Nat.le_trans hcells hR.1) (Nat.le_trans hslots hR.2) hdg ?_
  intro q H1 hP1 hD1 hS1
  exact W.widen hcells hslots (kk q H1 hP1 hD1 hS1)
/-- a constructor's call, of the last cell -/
theorem lq_callCx {y : MethodName} {cc2 : ByteArray} {n2 k2 mc ms q : Nat} {X : va_W} {e0 : va_E} {S : Type} {post : S → Prop} {blk : S → va_W} (C : lq_B p s m c args cc own nL D cy) (hM : ti_Kc l y cc2 n2 k2 mc ms D cy q H.size e0 post blk)
    (hrun : ∀ (hp : PreS s H (ti_PcC D cy q H.size e0) [.ref q]), va_Run p l e R s m args below meth c H locs cells slots mc ms (F0 m pc ls (.ref q :: rest)) rest (va_Qv post (fun u t => va_P D vwCl (blk u) t.heap ∧ va_D (va_A [(q, e0)] H.size) (blk u)) (va_A [(q, e0)] H.size) (Value.ref q :: []).toArray) (va_A [(q, e0)] H.size))
    (hP : va_P D vwCl (X ++ [(q, e0)]) H) (hD : va_D As (X ++ [(q, e0)])) (hS : va_S As H0 H locs) (hA : ∀ q, H0.size ≤ q → As q) (k3 n3 : Nat) (hcells : cells + mc ≤ k3) (hslots : slots + ms ≤ n3)
    (kk : ∀ (u : S) (H1 : Heap) (locs1 : List Loc), post u → va_P D vwCl (X ++ blk u) H1 → va_D As (X ++ blk u) → va_S As H0 H1 locs1 → W p l e R s m args below meth c H1 locs1 k3 n3 Q (F0 m (pc + 3) ls rest)) : W p l e R s m args below meth c H locs cells slots Q (F0 m pc ls (.ref q :: rest)) := by
  have hF : ∀ z, va_A [(q, e0)] H.size z → As z := va_free (wc := [(q, e0)]) hD hS hA [X.length] (by simp)
  have hP0 : va_P D vwCl [(q, e0)] H := hP.sub (ws' := [(q, e0)]) [X.length] (by simp)
  refine va_callv (hrun ⟨ti_blindC, fun U hU hW => ⟨rfl, by rw [hU], by rw [hU]; exact hP0, va_K.moved hW.alike C.2.2.2.2.1, C.2.2.2.2.2.2.2.warm hW⟩⟩) hS (fun z _ h => hF z h) hF ?_
  intro u t H1 locs1 ht hvm hpo hB hz hk hS1
  rw [ht] at hB
  obtain ⟨hP2, hD2⟩ := ti_joinL hP hD hk hF hB.1 hB.2
  exact W.widen hcells hslots (kk u H1 locs1 hpo hP2 hD2 hS1)
theorem lq_callCI {y : MethodName} {cc2 : ByteArray} {n2 k2 mc ms idx q : Nat} {X : va_W} {e0 : va_E} {S : Type} {post : S → Prop} {blk : S → va_W} (C : lq_B p s m c args cc own nL D cy) (hM : ti_Kc l y cc2 n2 k2 mc ms D cy q H.size e0 post blk) (hml : Cond.methodLink own idx y ∈ lw_g) (hy : y.name = "<init>") (hm : Cond.instanceMethod y ∈ lw_g) (hi : Cond.initialized y.cls ∈ lw_g) (hc : Cond.code y cc2 n2 none ∈ lw_g) (hd : ti_Vd y 0)
    (hP : va_P D vwCl (X ++ [(q, e0)]) H) (hD : va_D As (X ++ [(q, e0)])) (hS : va_S As H0 H locs) (hA : ∀ q, H0.size ≤ q → As q) (hsz : ls.size = nL) (hrs : (rest.map fun v => v.category).sum ≤ 8) (hR : k2 + 1 ≤ R.frames ∧ 8 + (n2 + 11) + 60 * k2 ≤ R.locals) (k3 n3 : Nat) (hcells : cells + mc ≤ k3) (hslots : slots + ms ≤ n3) (hR2 : k3 ≤ R.cells ∧ n3 ≤ R.slots) (hdg : decode cc pc = .ok (.invokespecial idx, 3))
    (kk : ∀ (u : S) (H1 : Heap) (locs1 : List Loc), post u → va_P D vwCl (X ++ blk u) H1 → va_D As (X ++ blk u) → va_S As H0 H1 locs1 → W p l e R s m args below meth c H1 locs1 k3 n3 Q (F0 m (pc + 3) ls rest)) : W p l e R s m args below meth c H locs cells slots Q (F0 m pc ls (.ref q :: rest)) :=
  lq_callCx (n2 := n2) (k2 := k2) C hM (fun hp => va_runI (As := []) (rest := rest) ⟨C.1, C.2.1, C.2.2.2.2.2.1, C.2.2.2.1, C.2.2.1⟩ hM (cwI 0 C.2.2.1 (lw_g_good (fun w hw => (List.mem_cons.mp hw).elim (fun h => h ▸ hc) (fun h => h))) rfl rfl rfl (C.2.2.1 _ hi) (C.2.2.1 _ hml) (C.2.2.1 _ hm) hy hd hR) hp rfl rfl hsz rfl (lv_room hrs) hdg ⟨Nat.le_trans hcells hR2.1, Nat.le_trans hslots hR2.2⟩) hP hD hS hA k3 n3 hcells hslots kk
end
def lq_F (s : State) : Nat → Prop := fun q => s.heap.size ≤ q
/-- the two worlds: new cells, apart -/
def lq_A (s : State) (A1 A2 : Nat → Nat → Nat) : Prop := ti_inj ti_LT A1 ∧ ti_inj ti_LM A2 ∧ (∀ q, ti_As ti_LT A1 q → lq_F s q) ∧ (∀ q, ti_As ti_LM A2 q → lq_F s q) ∧ ∀ q, ti_As ti_LT A1 q → ti_As ti_LM A2 q → False
def lq_O (s : State) (D : va_G) (cy : Nat → ClassId) (A1 A2 : Nat → Nat → Nat) (q3 : Nat) (H : Heap) : Prop := lq_F s q3 ∧ ¬ ti_As ti_LT A1 q3 ∧ ¬ ti_As ti_LM A2 q3 ∧ ∃ f : Nat → Int64, va_P D vwCl [(q3, .inl (cy 2, 1, .inr (.inl f)))] H
theorem lq_O.kept {s : State} {D : va_G} {cy : Nat → ClassId} {A1 A2 : Nat → Nat → Nat} {q3 : Nat} {H H1 : Heap} (h : lq_O s D cy A1 A2 q3 H) (hk : q3 < H.size → H1[q3]? = H[q3]?) : lq_O s D cy A1 A2 q3 H1 := by
  obtain ⟨h1, h2, h3, f, hf⟩ := h
  refine ⟨h1, h2, h3, f, hf.kept (fun k q hq => ?_)⟩
  match k, hq with
  | 0, hq => cases hq; exact hk ((hf 0 _ rfl).lt)
  | k + 1, hq => simp at hq
def lq_H (s : State) (D : va_G) (cy : Nat → ClassId) (A1 A2 : Nat → Nat → Nat) (q3 : Nat) (M1 M2 : ti_M) (H : Heap) (locs : List Loc) : Prop := va_P D vwCl (ti_W ti_LT A1 cy M1) H ∧ va_P D vwCl (ti_W ti_LM A2 cy M2) H ∧ va_S (lq_F s) s.heap H locs ∧ lq_O s D cy A1 A2 q3 H
theorem va_P_l {D : va_G} {cl : List vw_C} {a b : va_W} {H : Heap} (h : va_P D cl (a ++ b) H) : va_P D cl a H := fun k q hk => h k q (by rw [List.getElem?_append_left (List.getElem?_eq_some_iff.mp hk).1]; exact hk)
theorem va_P_r {D : va_G} {cl : List vw_C} {a b : va_W} {H : Heap} (h : va_P D cl (a ++ b) H) : va_P D cl b H := fun k q hk => h (a.length + k) q (by rw [List.getElem?_append_right (Nat.le_add_right _ _), Nat.add_sub_cancel_left]; exact hk)
theorem va_D_l {A : Nat → Prop} {a b : va_W} (h : va_D A (a ++ b)) : va_D A a := by
  have e : ∀ (k : Nat) (q : Nat × va_E), a[k]? = some q → (a ++ b)[k]? = some q := fun k q hk => by rw [List.getElem?_append_left (List.getElem?_eq_some_iff.mp hk).1]; exact hk
  exact ⟨fun i j p q hi hj => h.1 i j p q (e i p hi) (e j q hj), fun k q hk => h.2 k q (e k q hk)⟩
theorem va_D_r {A : Nat → Prop} {a b : va_W} (h : va_D A (a ++ b)) : va_D A b := by
  have e : ∀ (k : Nat) (q : Nat × va_E), b[k]? = some q → (a ++ b)[a.length + k]? = some q := fun k q hk => by rw [List.getElem?_append_right (Nat.le_add_right _ _), Nat.add_sub_cancel_left]; exact hk
  exact ⟨fun i j p q hi hj hpq => Nat.add_left_cancel (h.1 _ _ p q (e i p hi) (e j q hj) hpq), fun k q hk => h.2 _ q (e k q hk)⟩
theorem va_D_x {A : Nat → Prop} {a b : va_W} (h : va_D A (a ++ b)) {i j : Nat} {p q : Nat × va_E} (hi : a[i]? = some p) (hj : b[j]? = some q) : p.1 ≠ q.1 := by
  intro e
  have hl := (List.getElem?_eq_some_iff.mp hi).1
  have := h.1 i (a.length + j) p q (by rw [List.getElem?_append_left hl]; exact hi) (by rw [List.getElem?_append_right (Nat.le_add_right _ _), Nat.add_sub_cancel_left]; exact hj) e
  omega
/-- the worlds out of one list -/
theorem lq_mk {s : State} {D : va_G} {cy : Nat → ClassId} {A1 A2 : Nat → Nat → Nat} {q3 : Nat} {M1 M2 : ti_M} {f : Nat → Int64} {H : Heap} {locs : List Loc} (hP : va_P D vwCl ((ti_W ti_LT A1 cy M1 ++ ti_W ti_LM A2 cy M2) ++ [(q3, .inl (cy 2, 1, .inr (.inl f)))]) H) (hD : va_D (lq_F s) ((ti_W ti_LT A1 cy M1 ++ ti_W ti_LM A2 cy M2) ++ [(q3, .inl (cy 2, 1, .inr (.inl f)))])) (hS : va_S (lq_F s) s.heap H locs) : lq_A s A1 A2 ∧ lq_H s D cy A1 A2 q3 M1 M2 H locs := by
  have hP1 := va_P_l hP
  have hD1 := va_D_l hD
  have hD3 := va_D_r hD
  refine ⟨⟨ti_injD (va_D_l hD1), ti_injD (va_D_r hD1), ti_AsD (va_D_l hD1), ti_AsD (va_D_r hD1), ?_⟩, va_P_l hP1, va_P_r hP1, hS, hD3.2 0 _ rfl, ?_, ?_, f, va_P_r hP⟩
  · rintro q ⟨r, hr, rfl⟩ ⟨r2, hr2, e⟩
    obtain ⟨i, hi⟩ := List.getElem?_of_mem hr
    obtain ⟨j, hj⟩ := List.getElem?_of_mem hr2
    exact va_D_x hD1 (ti_W_at hi) (ti_W_at hj) e.symm
  · rintro ⟨r, hr, e⟩
    obtain ⟨i, hi⟩ := List.getElem?_of_mem hr
    have h0 := ti_W_at (A := A1) (cy := cy) (M := M1) hi
    exact va_D_x hD (i := i) (j := 0) (by rw [List.getElem?_append_left (List.getElem?_eq_some_iff.mp h0).1]; exact h0) rfl e
  · rintro ⟨r, hr, e⟩
    obtain ⟨i, hi⟩ := List.getElem?_of_mem hr
    have h0 := ti_W_at (A := A2) (cy := cy) (M := M2) hi
    exact va_D_x hD (i := (ti_W ti_LT A1 cy M1).length + i) (j := 0) (by rw [List.getElem?_append_right (Nat.le_add_right _ _), Nat.add_sub_cancel_left]; exact h0) rfl e
section
variable {p : Program} {l : Launch} {e : Env} {R : Room} {s : State} {m : MethodId} {args : Array Value} {below : List Frame} {meth : Method} {c : Code} {H : Heap} {locs : List Loc} {cells slots : Nat} {Q : State → Prop} {pc : Nat} {ls : Array Slot} {rest : List Value} {cc : ByteArray} {own : String} {nL : Nat} {D : va_G} {cy : Nat → ClassId} {A1 A2 : Nat → Nat → Nat} {q3 : Nat} {M1 M2 : ti_M}
theorem lq_callTi {y : MethodName} {cc2 : ByteArray} {n2 k2 idx : Nat} {ret : Option FieldType} {av st : List Value} {post : Int32 → ti_M → Prop} {T : u_T} {N : Nat} (C : lq_B p s m c args cc own nL D cy) (hA : lq_A s A1 A2) (hw : lq_H s D cy A1 A2 q3 M1 M2 H locs)
    (hM : ti_Ki l y cc2 n2 ret k2 ti_LT D A1 cy M1 (.ref (A1 0 0) :: av) post) (hV : ti_V own idx y cc2 n2 ret) (hd : ti_Vd y av.length) (hcl : vwCl[9]? = some (y.cls, T, N)) (hst : st = av.reverse ++ .ref (A1 0 0) :: rest) (hsz : ls.size = nL) (hrs : (rest.map fun v => v.category).sum ≤ 8) (hR : k2 + 1 ≤ R.frames ∧ 8 + (n2 + 11) + 60 * k2 ≤ R.locals) (hcs : cells ≤ R.cells ∧ slots ≤ R.slots) (hdg : decode cc pc = .ok (.invokevirtual idx, 3))
    (kk : ∀ (r : Int32) (M3 : ti_M) (H1 : Heap) (locs1 : List Loc), post r M3 → lq_H s D cy A1 A2 q3 M3 M2 H1 locs1 → W p l e R s m args below meth c H1 locs1 cells slots Q (F0 m (pc + 3) ls (.int r :: rest))) : W p l e R s m args below meth c H locs cells slots Q (F0 m pc ls st) := by
  have C1 : ti_C p s m c args cc own nL D cy ti_LT A1 := ⟨C.1, C.2.1, C.2.2.1, C.2.2.2.1, C.2.2.2.2.1, C.2.2.2.2.2.1, hA.1, ti_LT_nd⟩
  have hw1 : ti_H ti_LT D A1 cy H M1 H [] := ⟨hw.1, va_S.rf⟩
  subst hst
  refine va_calli (va_runV (As := av) (rest := rest) ⟨C.1, C.2.1, C.2.2.2.2.2.1, C.2.2.2.1, C.2.2.1⟩ hM (ti_cwV C1 hV hd hR) ⟨ti_blind, ti_recv C1 hw1 ob_0 (by decide) hcl, ti_pre C1 hw1⟩ rfl rfl hsz rfl (lv_room hrs) hdg ⟨hcs.1, hcs.2⟩) hw.2.2.1 (fun q _ h => hA.2.2.1 q h) (fun q h => hA.2.2.1 q h) ?_
  intro r u t H1 locs1 ht hvm hpo hB hz hk hS
  have K2 := hw.2.1.kept (H1 := H1) (fun k q hq => by
    have hq2 := (ti_W_D hA.2.1 cy M2).2 k q hq
    exact hk q.1 ((hw.2.1 k q hq).lt) (fun h => hA.2.2.2.2 q.1 h hq2))
  exact kk r u H1 locs1 hpo ⟨by rw [← ht]; exact hB, K2, hS, hw.2.2.2.kept (fun h9 => hk q3 h9 hw.2.2.2.2.1)⟩
theorem lq_callTl {y : MethodName} {cc2 : ByteArray} {n2 k2 idx : Nat} {ret : Option FieldType} {av st : List Value} {post : Int64 → ti_M → Prop} {T : u_T} {N : Nat} (C : lq_B p s m c args cc own nL D cy) (hA : lq_A s A1 A2) (hw : lq_H s D cy A1 A2 q3 M1 M2 H locs)
    (hM : ti_Kl l y cc2 n2 ret k2 ti_LT D A1 cy M1 (.ref (A1 0 0) :: av) post) (hV : ti_V own idx y cc2 n2 ret) (hd : ti_Vd y av.length) (hcl : vwCl[9]? = some (y.cls, T, N)) (hst : st = av.reverse ++ .ref (A1 0 0) :: rest) (hsz : ls.size = nL) (hrs : (rest.map fun v => v.category).sum ≤ 8) (hR : k2 + 1 ≤ R.frames ∧ 8 + (n2 + 11) + 60 * k2 ≤ R.locals) (hcs : cells ≤ R.cells ∧ slots ≤ R.slots) (hdg : decode cc pc = .ok (.invokevirtual idx, 3))
    (kk : ∀ (r : Int64) (M3 : ti_M) (H1 : Heap) (locs1 : List Loc), post r M3 → lq_H s D cy A1 A2 q3 M3 M2 H1 locs1 → W p l e R s m args below meth c H1 locs1 cells slots Q (F0 m (pc + 3) ls (.long r :: rest))) : W p l e R s m args below meth c H locs cells slots Q (F0 m pc ls st) := by
  have C1 : ti_C p s m c args cc own nL D cy ti_LT A1 := ⟨C.1, C.2.1, C.2.2.1, C.2.2.2.1, C.2.2.2.2.1, C.2.2.2.2.2.1, hA.1, ti_LT_nd⟩
  have hw1 : ti_H ti_LT D A1 cy H M1 H [] := ⟨hw.1, va_S.rf⟩
  subst hst
  refine va_calll (va_runV (As := av) (rest := rest) ⟨C.1, C.2.1, C.2.2.2.2.2.1, C.2.2.2.1, C.2.2.1⟩ hM (ti_cwV C1 hV hd hR) ⟨ti_blind, ti_recv C1 hw1 ob_0 (by decide) hcl, ti_pre C1 hw1⟩ rfl rfl hsz rfl (lv_room hrs) hdg ⟨hcs.1, hcs.2⟩) hw.2.2.1 (fun q _ h => hA.2.2.1 q h) (fun q h => hA.2.2.1 q h) ?_
  intro r u t H1 locs1 ht hvm hpo hB hz hk hS
  have K2 := hw.2.1.kept (H1 := H1) (fun k q hq => by
    have hq2 := (ti_W_D hA.2.1 cy M2).2 k q hq
    exact hk q.1 ((hw.2.1 k q hq).lt) (fun h => hA.2.2.2.2 q.1 h hq2))
  exact kk r u H1 locs1 hpo ⟨by rw [← ht]; exact hB, K2, hS, hw.2.2.2.kept (fun h9 => hk q3 h9 hw.2.2.2.2.1)⟩
theorem lq_callMi {y : MethodName} {cc2 : ByteArray} {n2 k2 idx : Nat} {ret : Option FieldType} {av st : List Value} {post : Int32 → ti_M → Prop} {T : u_T} {N : Nat} (C : lq_B p s m c args cc own nL D cy) (hA : lq_A s A1 A2) (hw : lq_H s D cy A1 A2 q3 M1 M2 H locs)
    (hM : ti_Ki l y cc2 n2 ret k2 ti_LM D A2 cy M2 (.ref (A2 60 0) :: av) post) (hV : ti_V own idx y cc2 n2 ret) (hd : ti_Vd y av.length) (hcl : vwCl[10]? = some (y.cls, T, N)) (hst : st = av.reverse ++ .ref (A2 60 0) :: rest) (hsz : ls.size = nL) (hrs : (rest.map fun v => v.category).sum ≤ 8) (hR : k2 + 1 ≤ R.frames ∧ 8 + (n2 + 11) + 60 * k2 ≤ R.locals) (hcs : cells ≤ R.cells ∧ slots ≤ R.slots) (hdg : decode cc pc = .ok (.invokevirtual idx, 3))
    (kk : ∀ (r : Int32) (M3 : ti_M) (H1 : Heap) (locs1 : List Loc), post r M3 → lq_H s D cy A1 A2 q3 M1 M3 H1 locs1 → W p l e R s m args below meth c H1 locs1 cells slots Q (F0 m (pc + 3) ls (.int r :: rest))) : W p l e R s m args below meth c H locs cells slots Q (F0 m pc ls st) := by
  have C1 : ti_C p s m c args cc own nL D cy ti_LM A2 := ⟨C.1, C.2.1, C.2.2.1, C.2.2.2.1, C.2.2.2.2.1, C.2.2.2.2.2.1, hA.2.1, ti_LM_nd⟩
  have hw1 : ti_H ti_LM D A2 cy H M2 H [] := ⟨hw.2.1, va_S.rf⟩
  subst hst
  refine va_calli (va_runV (As := av) (rest := rest) ⟨C.1, C.2.1, C.2.2.2.2.2.1, C.2.2.2.1, C.2.2.1⟩ hM (ti_cwV C1 hV hd hR) ⟨ti_blind, ti_recv C1 hw1 ob_60 (by decide) hcl, ti_pre C1 hw1⟩ rfl rfl hsz rfl (lv_room hrs) hdg ⟨hcs.1, hcs.2⟩) hw.2.2.1 (fun q _ h => hA.2.2.2.1 q h) (fun q h => hA.2.2.2.1 q h) ?_
  intro r u t H1 locs1 ht hvm hpo hB hz hk hS
  have K2 := hw.1.kept (H1 := H1) (fun k q hq => by
    have hq2 := (ti_W_D hA.1 cy M1).2 k q hq
    exact hk q.1 ((hw.1 k q hq).lt) (fun h => hA.2.2.2.2 q.1 hq2 h))
  exact kk r u H1 locs1 hpo ⟨K2, by rw [← ht]; exact hB, hS, hw.2.2.2.kept (fun h9 => hk q3 h9 hw.2.2.2.2.2.1)⟩
theorem lq_callMl {y : MethodName} {cc2 : ByteArray} {n2 k2 idx : Nat} {ret : Option FieldType} {av st : List Value} {post : Int64 → ti_M → Prop} {T : u_T} {N : Nat} (C : lq_B p s m c args cc own nL D cy) (hA : lq_A s A1 A2) (hw : lq_H s D cy A1 A2 q3 M1 M2 H locs)
    (hM : ti_Kl l y cc2 n2 ret k2 ti_LM D A2 cy M2 (.ref (A2 60 0) :: av) post) (hV : ti_V own idx y cc2 n2 ret) (hd : ti_Vd y av.length) (hcl : vwCl[10]? = some (y.cls, T, N)) (hst : st = av.reverse ++ .ref (A2 60 0) :: rest) (hsz : ls.size = nL) (hrs : (rest.map fun v => v.category).sum ≤ 8) (hR : k2 + 1 ≤ R.frames ∧ 8 + (n2 + 11) + 60 * k2 ≤ R.locals) (hcs : cells ≤ R.cells ∧ slots ≤ R.slots) (hdg : decode cc pc = .ok (.invokevirtual idx, 3))
    (kk : ∀ (r : Int64) (M3 : ti_M) (H1 : Heap) (locs1 : List Loc), post r M3 → lq_H s D cy A1 A2 q3 M1 M3 H1 locs1 → W p l e R s m args below meth c H1 locs1 cells slots Q (F0 m (pc + 3) ls (.long r :: rest))) : W p l e R s m args below meth c H locs cells slots Q (F0 m pc ls st) := by
  have C1 : ti_C p s m c args cc own nL D cy ti_LM A2 := ⟨C.1, C.2.1, C.2.2.1, C.2.2.2.1, C.2.2.2.2.1, C.2.2.2.2.2.1, hA.2.1, ti_LM_nd⟩
  have hw1 : ti_H ti_LM D A2 cy H M2 H [] := ⟨hw.2.1, va_S.rf⟩
  subst hst
  refine va_calll (va_runV (As := av) (rest := rest) ⟨C.1, C.2.1, C.2.2.2.2.2.1, C.2.2.2.1, C.2.2.1⟩ hM (ti_cwV C1 hV hd hR) ⟨ti_blind, ti_recv C1 hw1 ob_60 (by decide) hcl, ti_pre C1 hw1⟩ rfl rfl hsz rfl (lv_room hrs) hdg ⟨hcs.1, hcs.2⟩) hw.2.2.1 (fun q _ h => hA.2.2.2.1 q h) (fun q h => hA.2.2.2.1 q h) ?_
  intro r u t H1 locs1 ht hvm hpo hB hz hk hS
  have K2 := hw.1.kept (H1 := H1) (fun k q hq => by
    have hq2 := (ti_W_D hA.1 cy M1).2 k q hq
    exact hk q.1 ((hw.1 k q hq).lt) (fun h => hA.2.2.2.2 q.1 hq2 h))
  exact kk r u H1 locs1 hpo ⟨K2, by rw [← ht]; exact hB, hS, hw.2.2.2.kept (fun h9 => hk q3 h9 hw.2.2.2.2.2.1)⟩
theorem lq_callTiE {y : MethodName} {cc2 : ByteArray} {n2 k2 idx : Nat} {ret : Option FieldType} {av st : List Value} {post : Int32 → ti_M → Prop} {T : u_T} {N : Nat} (C : lq_B p s m c args cc own nL D cy) (hA : lq_A s A1 A2) (hE : tx_E (lq_F s) s s.heap) (hw : lq_H s D cy A1 A2 q3 M1 M2 H locs)
    (hM : ti_KiE l y cc2 n2 ret k2 ti_LT D A1 cy M1 (.ref (A1 0 0) :: av) post) (hV : ti_V own idx y cc2 n2 ret) (hd : ti_Vd y av.length) (hcl : vwCl[9]? = some (y.cls, T, N)) (hst : st = av.reverse ++ .ref (A1 0 0) :: rest) (hsz : ls.size = nL) (hrs : (rest.map fun v => v.category).sum ≤ 8) (hR : k2 + 1 ≤ R.frames ∧ 8 + (n2 + 11) + 60 * k2 ≤ R.locals) (hcs : cells ≤ R.cells ∧ slots ≤ R.slots) (hdg : decode cc pc = .ok (.invokevirtual idx, 3))
    (kk : ∀ (r : Int32) (M3 : ti_M) (H1 : Heap) (locs1 : List Loc), post r M3 → lq_H s D cy A1 A2 q3 M3 M2 H1 locs1 → W p l e R s m args below meth c H1 locs1 cells slots Q (F0 m (pc + 3) ls (.int r :: rest))) : W p l e R s m args below meth c H locs cells slots Q (F0 m pc ls st) := by
  have C1 : ti_C p s m c args cc own nL D cy ti_LT A1 := ⟨C.1, C.2.1, C.2.2.1, C.2.2.2.1, C.2.2.2.2.1, C.2.2.2.2.2.1, hA.1, ti_LT_nd⟩
  have hw1 : ti_H ti_LT D A1 cy H M1 H [] := ⟨hw.1, va_S.rf⟩
  subst hst
  refine va_calli (va_runV (As := av) (rest := rest) ⟨C.1, C.2.1, C.2.2.2.2.2.1, C.2.2.2.1, C.2.2.1⟩ hM (ti_cwV C1 hV hd hR) ⟨ti_blindE, ti_recv C1 hw1 ob_0 (by decide) hcl, ti_preE C1 ((hE.kept hw.2.2.1.2.1).narrow (fun q h => hA.2.2.1 q h)) hw1⟩ rfl rfl hsz rfl (lv_room hrs) hdg ⟨hcs.1, hcs.2⟩) hw.2.2.1 (fun q _ h => hA.2.2.1 q h) (fun q h => hA.2.2.1 q h) ?_
  intro r u t H1 locs1 ht hvm hpo hB hz hk hS
  have K2 := hw.2.1.kept (H1 := H1) (fun k q hq => by
    have hq2 := (ti_W_D hA.2.1 cy M2).2 k q hq
    exact hk q.1 ((hw.2.1 k q hq).lt) (fun h => hA.2.2.2.2 q.1 h hq2))
  exact kk r u H1 locs1 hpo ⟨by rw [← ht]; exact hB, K2, hS, hw.2.2.2.kept (fun h9 => hk q3 h9 hw.2.2.2.2.1)⟩
theorem lq_callMiE {y : MethodName} {cc2 : ByteArray} {n2 k2 idx : Nat} {ret : Option FieldType} {av st : List Value} {post : Int32 → ti_M → Prop} {T : u_T} {N : Nat} (C : lq_B p s m c args cc own nL D cy) (hA : lq_A s A1 A2) (hE : tx_E (lq_F s) s s.heap) (hw : lq_H s D cy A1 A2 q3 M1 M2 H locs)
    (hM : ti_KiE l y cc2 n2 ret k2 ti_LM D A2 cy M2 (.ref (A2 60 0) :: av) post) (hV : ti_V own idx y cc2 n2 ret) (hd : ti_Vd y av.length) (hcl : vwCl[10]? = some (y.cls, T, N)) (hst : st = av.reverse ++ .ref (A2 60 0) :: rest) (hsz : ls.size = nL) (hrs : (rest.map fun v => v.category).sum ≤ 8) (hR : k2 + 1 ≤ R.frames ∧ 8 + (n2 + 11) + 60 * k2 ≤ R.locals) (hcs : cells ≤ R.cells ∧ slots ≤ R.slots) (hdg : decode cc pc = .ok (.invokevirtual idx, 3))
    (kk : ∀ (r : Int32) (M3 : ti_M) (H1 : Heap) (locs1 : List Loc), post r M3 → lq_H s D cy A1 A2 q3 M1 M3 H1 locs1 → W p l e R s m args below meth c H1 locs1 cells slots Q (F0 m (pc + 3) ls (.int r :: rest))) : W p l e R s m args below meth c H locs cells slots Q (F0 m pc ls st) := by
  have C1 : ti_C p s m c args cc own nL D cy ti_LM A2 := ⟨C.1, C.2.1, C.2.2.1, C.2.2.2.1, C.2.2.2.2.1, C.2.2.2.2.2.1, hA.2.1, ti_LM_nd⟩
  have hw1 : ti_H ti_LM D A2 cy H M2 H [] := ⟨hw.2.1, va_S.rf⟩
  subst hst
  refine va_calli (va_runV (As := av) (rest := rest) ⟨C.1, C.2.1, C.2.2.2.2.2.1, C.2.2.2.1, C.2.2.1⟩ hM (ti_cwV C1 hV hd hR) ⟨ti_blindE, ti_recv C1 hw1 ob_60 (by decide) hcl, ti_preE C1 ((hE.kept hw.2.2.1.2.1).narrow (fun q h => hA.2.2.2.1 q h)) hw1⟩ rfl rfl hsz rfl (lv_room hrs) hdg ⟨hcs.1, hcs.2⟩) hw.2.2.1 (fun q _ h => hA.2.2.2.1 q h) (fun q h => hA.2.2.2.1 q h) ?_
  intro r u t H1 locs1 ht hvm hpo hB hz hk hS
  have K2 := hw.1.kept (H1 := H1) (fun k q hq => by
    have hq2 := (ti_W_D hA.1 cy M1).2 k q hq
    exact hk q.1 ((hw.1 k q hq).lt) (fun h => hA.2.2.2.2 q.1 hq2 h))
  exact kk r u H1 locs1 hpo ⟨K2, by rw [← ht]; exact hB, hS, hw.2.2.2.kept (fun h9 => hk q3 h9 hw.2.2.2.2.2.1)⟩
end
theorem lq_in {iv k : Int32} {L : Nat} (hi : 0 ≤ iv.toInt ∧ iv.toInt + 6 ≤ L) (hL : L ≤ 3072) (h0 : 0 ≤ k.toInt) (h5 : k.toInt ≤ 5) : vp_in (iv + k) L := by
  have t : (iv + k).toInt = iv.toInt + k.toInt := i_add rfl rfl rfl (by omega) (by omega)
  exact vp_in_iff.mpr (by omega)
theorem lq_in0 {iv : Int32} {L : Nat} (hi : 0 ≤ iv.toInt ∧ iv.toInt + 6 ≤ L) : vp_in iv L := vp_in_iff.mpr (by omega)
/-- class and reference between two calls of the script -/
def lq_I (M1 M2 : ti_M) : Prop := ∃ (Tc : gC) (Tm : gM), cF Tc M1 ∧ mF Tm M2 ∧ tI M1 2 1 = tI M2 60 2 ∧ (∀ i : Nat, (i : Int) < (tI M1 2 1).toInt → (Tc.1 i &&& 255).toInt = (Tm.1 i).toInt) ∧ (tI M1 1 4).toInt = Tm.2.1.toInt ∧ (tI M1 1 5).toInt = Tm.2.2.1.toInt ∧ Tc.2.1.toInt = Tm.2.2.2.1.toInt ∧ Tc.2.2.1.toInt = Tm.2.2.2.2.1.toInt ∧ ∃ rg : Nat → Int, tdC M1 rg ∧ tdR M2 rg ∧ lE M1 M2
theorem lq_fd {M1 M2 N1 N2 : ti_M} {Tc : gC} {Tm : gM} {r1 r2 z1 z2 z3 z4 z5 : Int32} (h1 : cF Tc M1) (h2 : mF Tm M2) (h : tI M1 2 1 = tI M2 60 2) (hB : ∀ i : Nat, (i : Int) < (tI M1 2 1).toInt → (Tc.1 i &&& 255).toInt = (Tm.1 i).toInt) (hR : (tI M1 1 4).toInt = Tm.2.1.toInt ∧ (tI M1 1 5).toInt = Tm.2.2.1.toInt) (hS : Tc.2.1.toInt = Tm.2.2.2.1.toInt ∧ Tc.2.2.1.toInt = Tm.2.2.2.2.1.toInt) (h5 : ∀ k : Nat, tI N1 50 k = tI M1 50 k) {rg : Nat → Int} (hd1 : tdC N1 rg) (hd2 : tdR N2 rg) (hle : lE N1 N2)
    (p1 : (680 < (tI M1 2 1).toInt ∧ r1.toInt = -1 ∧ cF Tc N1 ∧ tI N1 2 1 = tI M1 2 1 ∧ (∀ k : Nat, tI N1 1 k = tI M1 1 k)) ∨ ((tI M1 2 1).toInt ≤ 680 ∧ r1.toInt = (tI M1 2 1).toInt + 20 ∧ cF (cG N1) N1 ∧ (tI N1 2 1).toInt = (tI M1 2 1).toInt + 20 ∧ (∀ i : Nat, (i : Int) < (tI M1 2 1).toInt → tY N1 2 0 i = tY M1 2 0 i) ∧ (∀ j : Nat, j < 20 → (tY N1 2 0 ((tI M1 2 1).toInt.toNat + j) &&& 255).toInt = pp_fb z1 z2 z3 z4 z5 j) ∧ (∀ k : Nat, tI N1 1 k = tI M1 1 k))) (p2 : (680 < (tI M2 60 2).toInt ∧ r2.toInt = -1 ∧ mF (mG N2) N2 ∧ tI N2 60 2 = tI M2 60 2 ∧ tY N2 60 1 = tY M2 60 1 ∧ tI N2 60 27 = tI M2 60 27 ∧ tI N2 60 28 = tI M2 60 28 ∧ tI N2 60 58 = tI M2 60 58 ∧ tI N2 60 59 = tI M2 60 59) ∨ ((tI M2 60 2).toInt ≤ 680 ∧ r2.toInt = (tI M2 60 2).toInt + 20 ∧ mF (mG N2) N2 ∧ (tI N2 60 2).toInt = (tI M2 60 2).toInt + 20 ∧ (∀ i : Nat, (i : Int) < (tI M2 60 2).toInt → tY N2 60 1 i = tY M2 60 1 i) ∧ (∀ j : Nat, j < 20 → (tY N2 60 1 ((tI M2 60 2).toInt.toNat + j)).toInt = pp_fb z1 z2 z3 z4 z5 j) ∧ tI N2 60 27 = tI M2 60 27 ∧ tI N2 60 28 = tI M2 60 28 ∧ tI N2 60 58 = tI M2 60 58 ∧ tI N2 60 59 = tI M2 60 59)) : r1.toInt = r2.toInt ∧ lq_I N1 N2 := by
  have eT : tY M1 2 0 = Tc.1 := congrArg (fun t => t.1) h1.1.2.2
  have eT5 : tI M1 50 5 = Tc.2.1 := congrArg (fun t => t.2.1) h1.1.2.2
  have eT6 : tI M1 50 6 = Tc.2.2.1 := congrArg (fun t => t.2.2.1) h1.1.2.2
  have eM : tY M2 60 1 = Tm.1 := congrArg (fun t => t.1) h2.1.2.2.2
  have eM7 : tI M2 60 27 = Tm.2.1 := congrArg (fun t => t.2.1) h2.1.2.2.2
  have eM8 : tI M2 60 28 = Tm.2.2.1 := congrArg (fun t => t.2.2.1) h2.1.2.2.2
  have eS5 : tI M2 60 58 = Tm.2.2.2.1 := congrArg (fun t => t.2.2.2.1) h2.1.2.2.2
  have eS6 : tI M2 60 59 = Tm.2.2.2.2.1 := congrArg (fun t => t.2.2.2.2.1) h2.1.2.2.2
  have b1 : 0 ≤ (tI M1 2 1).toInt ∧ (tI M1 2 1).toInt ≤ 700 := cI_rd (x := tI M1 2 1) (k := 1) h1.1 ob_2.1 rfl
  rcases p1 with ⟨a1, a2, a3, a4, a9⟩ | ⟨a1, a2, a3, a4, a5, a6, a9⟩ <;> rcases p2 with ⟨c1, c2, c3, c4, c5, c7, c8, c9, c10⟩ | ⟨c1, c2, c3, c4, c5, c6, c7, c8, c9, c10⟩
  · refine ⟨by omega, Tc, mG N2, a3, c3, a4.trans (h.trans c4.symm), fun i hi => ?_, (congrArg Int32.toInt (a9 4)).trans (hR.1.trans (congrArg Int32.toInt (eM7.symm.trans c7.symm))), (congrArg Int32.toInt (a9 5)).trans (hR.2.trans (congrArg Int32.toInt (eM8.symm.trans c8.symm))), hS.1.trans (congrArg Int32.toInt (eS5.symm.trans c9.symm)), hS.2.trans (congrArg Int32.toInt (eS6.symm.trans c10.symm)), rg, hd1, hd2, hle⟩
    rw [a4] at hi
    show _ = (tY N2 60 1 i).toInt
    rw [c5, eM]; exact hB i hi
  · rw [h] at a1; omega
  · rw [h] at a1; omega
  · rw [h] at a2 a4 a5 a6 b1
    refine ⟨by omega, cG N1, mG N2, a3, c3, Int32.toInt_inj.mp (by omega), fun i hi => ?_, (congrArg Int32.toInt (a9 4)).trans (hR.1.trans (congrArg Int32.toInt (eM7.symm.trans c7.symm))), (congrArg Int32.toInt (a9 5)).trans (hR.2.trans (congrArg Int32.toInt (eM8.symm.trans c8.symm))), (congrArg Int32.toInt ((h5 5).trans eT5)).trans (hS.1.trans (congrArg Int32.toInt (eS5.symm.trans c9.symm))), (congrArg Int32.toInt ((h5 6).trans eT6)).trans (hS.2.trans (congrArg Int32.toInt (eS6.symm.trans c10.symm))), rg, hd1, hd2, hle⟩
    show (tY N1 2 0 i &&& 255).toInt = (tY N2 60 1 i).toInt
    by_cases q : (i : Int) < (tI M2 60 2).toInt
    · rw [a5 i q, c5 i q, eT, eM]; exact hB i (by rw [h]; exact q)
    · have e : (tI M2 60 2).toInt.toNat + (i - (tI M2 60 2).toInt.toNat) = i := by omega
      have g1 := a6 (i - (tI M2 60 2).toInt.toNat) (by omega)
      have g2 := c6 (i - (tI M2 60 2).toInt.toNat) (by omega)
      rw [e] at g1 g2
      rw [g1, g2]
theorem td_0 {M1 M2 : ti_M} (a : tT M1 0 1 = some 3) (b : tT M1 0 2 = some 4) (c : tI M1 3 4 = 0) (d : tY M2 60 3 0 = 0) : ∃ rg : Nat → Int, tdC M1 rg ∧ tdR M2 rg := by
  refine ⟨fun k => if k < 100 then 0 else (tI M1 (ti_men 3 (k - 100)) 0).toInt, ⟨3, Or.inl rfl, a, b, by rw [c]; rfl, fun i hi => ?_⟩, by rw [d]; rfl, fun i hi hl => ?_⟩
  · show (if 100 + i < 100 then (0 : Int) else (tI M1 (ti_men 3 (100 + i - 100)) 0).toInt) = _
    rw [if_neg (by omega), Nat.add_sub_cancel_left]
  · exact absurd hl (by show ¬ (i : Int) < (if 7 < 100 then (0 : Int) else _); rw [if_pos (by decide)]; omega)
/-- the class's text, the reference's: what they leave -/
def lT1 (Tc : gC) (nn r : Int32) (rg J K J2 : Nat → Int) (N1 M1 : ti_M) : Prop := ((nn.toInt < 0 ∨ (tI M1 2 1).toInt < nn.toInt) ∧ r.toInt = -2 ∧ N1 = M1) ∨ (¬ (nn.toInt < 0 ∨ (tI M1 2 1).toInt < nn.toInt) ∧ cF (cG N1) N1 ∧ tI N1 2 1 = 0 ∧ r.toInt = pp_an (pp_tx (fun i => (Tc.1 i &&& 255).toInt) nn.toInt.toNat J) ∧ (tI N1 1 4).toInt = (pp_tx (fun i => (Tc.1 i &&& 255).toInt) nn.toInt.toNat J) 4 ∧ (tI N1 1 5).toInt = (pp_tx (fun i => (Tc.1 i &&& 255).toInt) nn.toInt.toNat J) 5 ∧ ((pp_tx (fun i => (Tc.1 i &&& 255).toInt) nn.toInt.toNat J) 4 ≠ 0 → tdC N1 rg ∧ cG N1 = Tc ∧ rR N1 M1 ∧ (∀ (t0 : Nat) (tx0 : Nat → Int), tT M1 0 1 = some t0 → tC t0 tx0 M1 → tC t0 tx0 N1) ∧ ∀ o k : Nat, (o = 0 ∨ 26 < o) → tI N1 o k = tI M1 o k ∧ tY N1 o k = tY M1 o k) ∧ ((pp_tx (fun i => (Tc.1 i &&& 255).toInt) nn.toInt.toNat J) 4 = 0 → tdC N1 (pp_tx (fun i => (Tc.1 i &&& 255).toInt) nn.toInt.toNat J) ∧ ∃ t : Nat, (t = 3 ∨ t = 4) ∧ tC t (tX (pp_tx (fun i => (Tc.1 i &&& 255).toInt) nn.toInt.toNat J) (qq_tx (fun i => (Tc.1 i &&& 255).toInt) nn.toInt.toNat J K)) N1 ∧ tT N1 0 1 = some t ∧ tT N1 27 0 = some t ∧ qC 27 (bq_s0 (tX (pp_tx (fun i => (Tc.1 i &&& 255).toInt) nn.toInt.toNat J) (qq_tx (fun i => (Tc.1 i &&& 255).toInt) nn.toInt.toNat J K)) J2) N1 ∧ tI N1 28 2 = 0 ∧ tI N1 0 7 = 0 ∧ tI N1 50 5 = 0 ∧ tI N1 50 6 = -1))
def lT2 (Tc : gC) (Tm : gM) (nn r : Int32) (J K J2 : Nat → Int) (N2 M2 : ti_M) : Prop := ((nn.toInt < 0 ∨ (tI M2 60 2).toInt < nn.toInt) ∧ r.toInt = -2 ∧ mF Tm N2 ∧ tI N2 60 2 = tI M2 60 2 ∧ ∃ z : Int32, N2 = uI M2 60 0 z) ∨ (¬ (nn.toInt < 0 ∨ (tI M2 60 2).toInt < nn.toInt) ∧ tI N2 60 2 = 0 ∧ mF (mG N2) N2 ∧ r.toInt = pp_an (pp_tx (fun i => (Tc.1 i &&& 255).toInt) nn.toInt.toNat J) ∧ (tI N2 60 27).toInt = (pp_tx (fun i => (Tc.1 i &&& 255).toInt) nn.toInt.toNat J) 4 ∧ (tI N2 60 28).toInt = (pp_tx (fun i => (Tc.1 i &&& 255).toInt) nn.toInt.toNat J) 5 ∧ ((pp_tx (fun i => (Tc.1 i &&& 255).toInt) nn.toInt.toNat J) 4 ≠ 0 → lx N2 M2 ∧ gU N2 M2) ∧ ((pp_tx (fun i => (Tc.1 i &&& 255).toInt) nn.toInt.toNat J) 4 = 0 → tdR N2 (pp_tx (fun i => (Tc.1 i &&& 255).toInt) nn.toInt.toNat J) ∧ tW (tX (pp_tx (fun i => (Tc.1 i &&& 255).toInt) nn.toInt.toNat J) (qq_tx (fun i => (Tc.1 i &&& 255).toInt) nn.toInt.toNat J K)) ∧ tR (tX (pp_tx (fun i => (Tc.1 i &&& 255).toInt) nn.toInt.toNat J) (qq_tx (fun i => (Tc.1 i &&& 255).toInt) nn.toInt.toNat J K)) N2 ∧ qR ((tX (pp_tx (fun i => (Tc.1 i &&& 255).toInt) nn.toInt.toNat J) (qq_tx (fun i => (Tc.1 i &&& 255).toInt) nn.toInt.toNat J K)) 4).toNat 0 (bq_s0 (tX (pp_tx (fun i => (Tc.1 i &&& 255).toInt) nn.toInt.toNat J) (qq_tx (fun i => (Tc.1 i &&& 255).toInt) nn.toInt.toNat J K)) J2) N2 ∧ qV ((tX (pp_tx (fun i => (Tc.1 i &&& 255).toInt) nn.toInt.toNat J) (qq_tx (fun i => (Tc.1 i &&& 255).toInt) nn.toInt.toNat J K)) 4).toNat 0 (bq_s0 (tX (pp_tx (fun i => (Tc.1 i &&& 255).toInt) nn.toInt.toNat J) (qq_tx (fun i => (Tc.1 i &&& 255).toInt) nn.toInt.toNat J K)) J2) N2 ∧ tI N2 60 51 = 0 ∧ tI N2 60 52 = 0 ∧ tI N2 60 53 = tI M2 60 53 ∧ tI N2 60 58 = 0 ∧ tI N2 60 59 = -1))
theorem lq_tJ {M1 N1 : ti_M} {Tc : gC} {nn r : Int32} {rg : Nat → Int} (p : ((nn.toInt < 0 ∨ (tI M1 2 1).toInt < nn.toInt) ∧ r.toInt = -2 ∧ N1 = M1) ∨ (¬ (nn.toInt < 0 ∨ (tI M1 2 1).toInt < nn.toInt) ∧ cF (cG N1) N1 ∧ tI N1 2 1 = 0 ∧ ∃ J K : Nat → Int, r.toInt = pp_an (pp_tx (fun i => (Tc.1 i &&& 255).toInt) nn.toInt.toNat J) ∧ (tI N1 1 4).toInt = (pp_tx (fun i => (Tc.1 i &&& 255).toInt) nn.toInt.toNat J) 4 ∧ (tI N1 1 5).toInt = (pp_tx (fun i => (Tc.1 i &&& 255).toInt) nn.toInt.toNat J) 5 ∧ ((pp_tx (fun i => (Tc.1 i &&& 255).toInt) nn.toInt.toNat J) 4 ≠ 0 → tdC N1 rg ∧ cG N1 = Tc ∧ rR N1 M1 ∧ (∀ (t0 : Nat) (tx0 : Nat → Int), tT M1 0 1 = some t0 → tC t0 tx0 M1 → tC t0 tx0 N1) ∧ ∀ o k : Nat, (o = 0 ∨ 26 < o) → tI N1 o k = tI M1 o k ∧ tY N1 o k = tY M1 o k) ∧ ((pp_tx (fun i => (Tc.1 i &&& 255).toInt) nn.toInt.toNat J) 4 = 0 → tdC N1 (pp_tx (fun i => (Tc.1 i &&& 255).toInt) nn.toInt.toNat J) ∧ ∃ t : Nat, (t = 3 ∨ t = 4) ∧ tC t (tX (pp_tx (fun i => (Tc.1 i &&& 255).toInt) nn.toInt.toNat J) (qq_tx (fun i => (Tc.1 i &&& 255).toInt) nn.toInt.toNat J K)) N1 ∧ tT N1 0 1 = some t ∧ tT N1 27 0 = some t ∧ (∃ rg2 : Nat → Int, qC 27 (bq_s0 (tX (pp_tx (fun i => (Tc.1 i &&& 255).toInt) nn.toInt.toNat J) (qq_tx (fun i => (Tc.1 i &&& 255).toInt) nn.toInt.toNat J K)) rg2) N1) ∧ tI N1 28 2 = 0 ∧ tI N1 0 7 = 0 ∧ tI N1 50 5 = 0 ∧ tI N1 50 6 = -1))) : ∃ J K J2 : Nat → Int, lT1 Tc nn r rg J K J2 N1 M1 := by
  rcases p with p | ⟨a1, a2, a3, J, K, a4, a5, a6, a7, a8⟩
  · exact ⟨fun _ => 0, fun _ => 0, fun _ => 0, Or.inl p⟩
  · by_cases q : (pp_tx (fun i => (Tc.1 i &&& 255).toInt) nn.toInt.toNat J) 4 = 0
    · obtain ⟨b1, t, b2, b3, b4, b5, ⟨rg2, b6⟩, b7⟩ := a8 q
      exact ⟨J, K, rg2, Or.inr ⟨a1, a2, a3, a4, a5, a6, a7, fun _ => ⟨b1, t, b2, b3, b4, b5, b6, b7⟩⟩⟩
    · exact ⟨J, K, fun _ => 0, Or.inr ⟨a1, a2, a3, a4, a5, a6, a7, fun r => absurd r q⟩⟩
theorem lq_tx {M1 M2 N1 N2 : ti_M} {Tc : gC} {Tm : gM} {r1 r2 nn : Int32} {J K J2 : Nat → Int} (h1 : cF Tc M1) (h2 : mF Tm M2) (h : tI M1 2 1 = tI M2 60 2) (hB : ∀ i : Nat, (i : Int) < (tI M1 2 1).toInt → (Tc.1 i &&& 255).toInt = (Tm.1 i).toInt) (hR : (tI M1 1 4).toInt = Tm.2.1.toInt ∧ (tI M1 1 5).toInt = Tm.2.2.1.toInt) (hS : Tc.2.1.toInt = Tm.2.2.2.1.toInt ∧ Tc.2.2.1.toInt = Tm.2.2.2.2.1.toInt) {rg : Nat → Int} (hd1 : tdC M1 rg) (hd2 : tdR M2 rg) (hle : lE M1 M2)
    (p1 : lT1 Tc nn r1 rg J K J2 N1 M1) (p2 : lT2 Tc Tm nn r2 J K J2 N2 M2) : r1.toInt = r2.toInt ∧ lq_I N1 N2 := by
  have eS5 : tI M2 60 58 = Tm.2.2.2.1 := congrArg (fun t => t.2.2.2.1) h2.1.2.2.2
  have eS6 : tI M2 60 59 = Tm.2.2.2.2.1 := congrArg (fun t => t.2.2.2.2.1) h2.1.2.2.2
  unfold lT1 at p1
  unfold lT2 at p2
  rw [h] at p1
  rcases p1 with ⟨a1, a2, a3⟩ | ⟨a1, a2, a3, a4, a5, a6, a7, a8⟩ <;> rcases p2 with ⟨b1, b2, b3, b4, z, b5⟩ | ⟨b1, b2, b3, b4, b5, b6, b7, b8⟩
  · rw [a3]
    exact ⟨a2.trans b2.symm, Tc, Tm, h1, b3, h.trans b4.symm, hB, hR.1, hR.2, hS.1, hS.2, rg, hd1, tdR_lw hd2 (fun _ _ _ => by rw [b5]; exact tY_uIE rfl), lE_0 hle b5⟩
  · exact absurd a1 b1
  · exact absurd b1 a1
  · have T : ∀ i : Nat, (i : Int) < (tI N1 2 1).toInt → ((cG N1).1 i &&& 255).toInt = ((mG N2).1 i).toInt := fun i hi => by
      rw [a3] at hi
      have z0 : (0 : Int32).toInt = 0 := by decide
      omega
    by_cases q : (pp_tx (fun i => (Tc.1 i &&& 255).toInt) nn.toInt.toNat J) 4 = 0
    · obtain ⟨c1, t, c2, c3, c4, c5, c6, c7, c8, c9, c10⟩ := a8 q
      obtain ⟨d1, d2, d3, d4, d5, d6, d7, d8, d9, d10⟩ := b8 q
      obtain ⟨t7, tx7, s7, p7, si7, u7, c7x, hb7⟩ := id hle
      exact ⟨a4.trans b4.symm, cG N1, mG N2, a2, b3, a3.trans b2.symm, T, a5.trans b5.symm, a6.trans b6.symm, by show (tI N1 50 5).toInt = (tI N2 60 58).toInt; rw [c9, d9], by show (tI N1 50 6).toInt = (tI N2 60 59).toInt; rw [c10, d10], _, c1, d1, lE_new c2 c3 c4 c5 c6 c7 c8 d2 d3 d4 d5 d6 d7 (d8.trans hb7.2.2.1.2.2.2.2.2)⟩
    · obtain ⟨c1, c2, c3, c4, c5⟩ := a7 q
      obtain ⟨d1, d2⟩ := b7 q
      exact ⟨a4.trans b4.symm, cG N1, mG N2, a2, b3, a3.trans b2.symm, T, a5.trans b5.symm, a6.trans b6.symm, (congrArg (fun t => Int32.toInt t.2.1) c2).trans (hS.1.trans (congrArg Int32.toInt (eS5.symm.trans (d1.2.2.2.2 58 (by decide)).symm))), (congrArg (fun t => Int32.toInt t.2.2.1) c2).trans (hS.2.trans (congrArg Int32.toInt (eS6.symm.trans (d1.2.2.2.2 59 (by decide)).symm))), rg, c1, tdR_lx hd2 d1, lE_fl hle h2.1 d1 d2 c4 c5 c3⟩
theorem lq_st {M1 M2 N1 N2 : ti_M} {Tc : gC} {Tm : gM} {r1 r2 : Int32} {a1 a2 k : Int} {B1 B2 X1 X2 : Prop} (h1 : cF Tc M1) (h2 : mF Tm M2) (h : tI M1 2 1 = tI M2 60 2) (hB : ∀ i : Nat, (i : Int) < (tI M1 2 1).toInt → (Tc.1 i &&& 255).toInt = (Tm.1 i).toInt) (hR : (tI M1 1 4).toInt = Tm.2.1.toInt ∧ (tI M1 1 5).toInt = Tm.2.2.1.toInt) (hS : Tc.2.1.toInt = Tm.2.2.2.1.toInt ∧ Tc.2.2.1.toInt = Tm.2.2.2.2.1.toInt) {rg : Nat → Int} (hd1 : tdC M1 rg) (hd2 : tdR M2 rg)
    (hb : B1 ↔ B2) (hx : X1 → X2 → lw N2 M2 → a1 = a2 ∧ (tI N1 50 5).toInt = (tI N2 60 58).toInt ∧ (tI N1 50 6).toInt = (tI N2 60 59).toInt ∧ lE N1 N2) (hle : lE M1 M2)
    (p1 : (B1 ∧ r1.toInt = k ∧ N1 = M1) ∨ (¬ B1 ∧ r1.toInt = a1 ∧ cF (cG N1) N1 ∧ tI N1 2 1 = tI M1 2 1 ∧ tl N1 M1 ∧ tY N1 2 0 = tY M1 2 0 ∧ X1))
    (p2 : (B2 ∧ r2.toInt = k ∧ mF Tm N2 ∧ tI N2 60 2 = tI M2 60 2 ∧ lw N2 M2 ∧ qy N2 M2) ∨ (¬ B2 ∧ r2.toInt = a2 ∧ mF (mG N2) N2 ∧ tI N2 60 2 = tI M2 60 2 ∧ lw N2 M2 ∧ tY N2 60 1 = tY M2 60 1 ∧ tI N2 60 27 = tI M2 60 27 ∧ tI N2 60 28 = tI M2 60 28 ∧ X2)) : r1.toInt = r2.toInt ∧ lq_I N1 N2 := by
  have eT : tY M1 2 0 = Tc.1 := congrArg (fun t => t.1) h1.1.2.2
  have eM : tY M2 60 1 = Tm.1 := congrArg (fun t => t.1) h2.1.2.2.2
  have eM7 : tI M2 60 27 = Tm.2.1 := congrArg (fun t => t.2.1) h2.1.2.2.2
  have eM8 : tI M2 60 28 = Tm.2.2.1 := congrArg (fun t => t.2.2.1) h2.1.2.2.2
  rcases p1 with ⟨a, b, rfl⟩ | ⟨a, b, c, d, e, f, g⟩ <;> rcases p2 with ⟨x, y, z, u, v, v2⟩ | ⟨x, y, z, u, v, w, s, t, o⟩
  · exact ⟨b.trans y.symm, Tc, Tm, h1, z, h.trans u.symm, hB, hR.1, hR.2, hS.1, hS.2, rg, hd1, tdR_lw hd2 v, lE_eo hle (q := 2) eo.refl (Or.inl rfl) rfl v2 v⟩
  · exact absurd (hb.mp a) x
  · exact absurd (hb.mpr x) a
  · obtain ⟨q1, q2, q3, q4⟩ := hx g o v
    refine ⟨b.trans (q1.trans y.symm), cG N1, mG N2, c, z, d.trans (h.trans u.symm), fun i hi => ?_, (congrArg Int32.toInt ((e.1 1 4 (by decide) (by decide)))).trans (hR.1.trans (congrArg Int32.toInt (eM7.symm.trans s.symm))), (congrArg Int32.toInt ((e.1 1 5 (by decide) (by decide)))).trans (hR.2.trans (congrArg Int32.toInt (eM8.symm.trans t.symm))), q2, q3, rg, tdC_tl hd1 e, tdR_lw hd2 v, q4⟩
    show (tY N1 2 0 i &&& 255).toInt = (tY N2 60 1 i).toInt
    rw [f, w, eT, eM]
    rw [d] at hi
    exact hB i hi
/-- steps -/
theorem lq_sp {M1 M2 N1 N2 : ti_M} {Tc : gC} {Tm : gM} {r1 r2 : Int32} {a1 a2 k : Int} {P1 P2 Q1 Q2 X Y Y0 : Prop} (h1 : cF Tc M1) (h : tI M1 2 1 = tI M2 60 2) (hB : ∀ i : Nat, (i : Int) < (tI M1 2 1).toInt → (Tc.1 i &&& 255).toInt = (Tm.1 i).toInt) (hR : (tI M1 1 4).toInt = Tm.2.1.toInt ∧ (tI M1 1 5).toInt = Tm.2.2.1.toInt) (hS : Tc.2.1.toInt = Tm.2.2.2.1.toInt ∧ Tc.2.2.1.toInt = Tm.2.2.2.2.1.toInt) {rg : Nat → Int} (hd1 : tdC M1 rg) (hd2 : tdR M2 rg)
    (p1 : (Q1 ∧ r1.toInt = k ∧ N1 = M1) ∨ (P1 ∧ r1.toInt = a1 ∧ cF Tc N1 ∧ kG N1 M1 ∧ X)) (p2 : ((Q2 ∧ r2.toInt = k ∧ Y0) ∨ (P2 ∧ r2.toInt = a2 ∧ Y)) ∧ iR N2 M2 ∧ mF Tm N2 ∧ tI N2 60 2 = tI M2 60 2 ∧ lw N2 M2) (ha : P1 → a1 = a2) (h12 : Q1 → ¬ P2) (h21 : Q2 → ¬ P1) (h0 : iR N2 M2 → Y0 → lE M1 N2) (hx : P1 → kG N1 M1 → iR N2 M2 → X → Y → lE N1 N2) : r1.toInt = r2.toInt ∧ lq_I N1 N2 := by
  obtain ⟨p2, i, f, e, l⟩ := p2
  rcases p1 with ⟨b1, b2, b3⟩ | ⟨b1, b2, b3, b4, b5⟩ <;> rcases p2 with ⟨d1, d2, d3⟩ | ⟨d1, d2, d3⟩
  · rw [b3]
    exact ⟨b2.trans d2.symm, Tc, Tm, h1, f, h.trans e.symm, hB, hR.1, hR.2, hS.1, hS.2, rg, hd1, tdR_lw hd2 l, h0 i d3⟩
  · exact absurd d1 (h12 b1)
  · exact absurd b1 (h21 d1)
  · have e2 := (b4.1 2 1 (by decide)).1
    exact ⟨b2.trans ((ha b1).trans d2.symm), Tc, Tm, b3, f, e2.trans (h.trans e.symm), fun j hj => hB j (by rw [← e2]; exact hj), (congrArg Int32.toInt (b4.1 1 4 (by decide)).1).trans hR.1, (congrArg Int32.toInt (b4.1 1 5 (by decide)).1).trans hR.2, hS.1, hS.2, rg, tdC_tl hd1 (tl_kG b4), tdR_lw hd2 l, hx b1 b4 i b5 d3⟩
/-- observers -/
theorem lq_ob {M1 M2 N1 N2 : ti_M} {Tc : gC} {Tm : gM} {r1 r2 : Int32} {V1 V2 : Int} {Y0 : Prop} (h1 : cF Tc M1) (h : tI M1 2 1 = tI M2 60 2) (hB : ∀ i : Nat, (i : Int) < (tI M1 2 1).toInt → (Tc.1 i &&& 255).toInt = (Tm.1 i).toInt) (hR : (tI M1 1 4).toInt = Tm.2.1.toInt ∧ (tI M1 1 5).toInt = Tm.2.2.1.toInt) (hS : Tc.2.1.toInt = Tm.2.2.2.1.toInt ∧ Tc.2.2.1.toInt = Tm.2.2.2.2.1.toInt) {rg : Nat → Int} (hd1 : tdC M1 rg) (hd2 : tdR M2 rg)
    (p1 : N1 = M1 ∧ r1.toInt = V1) (p2 : r2.toInt = V2 ∧ Y0 ∧ iR N2 M2 ∧ mF Tm N2 ∧ tI N2 60 2 = tI M2 60 2 ∧ lw N2 M2) (hv : V1 = V2) (h0 : iR N2 M2 → Y0 → lE M1 N2) : r1.toInt = r2.toInt ∧ lq_I N1 N2 := by
  obtain ⟨b3, b2⟩ := p1
  obtain ⟨d2, d3, i, f, e, l⟩ := p2
  rw [b3]
  exact ⟨b2.trans (hv.trans d2.symm), Tc, Tm, h1, f, h.trans e.symm, hB, hR.1, hR.2, hS.1, hS.2, rg, hd1, tdR_lw hd2 l, h0 i d3⟩
theorem lq_kp {M1 M2 N1 N2 : ti_M} {Tc : gC} {Tm : gM} {r1 r2 : Int32} {t : Nat} {tx s p si : Nat → Int} {u : Nat → Nat → Int} {c : Int} (h : tI M1 2 1 = tI M2 60 2) (hB : ∀ i : Nat, (i : Int) < (tI M1 2 1).toInt → (Tc.1 i &&& 255).toInt = (Tm.1 i).toInt) (hR : (tI M1 1 4).toInt = Tm.2.1.toInt ∧ (tI M1 1 5).toInt = Tm.2.2.1.toInt) (hS : Tc.2.1.toInt = Tm.2.2.2.1.toInt ∧ Tc.2.2.1.toInt = Tm.2.2.2.2.1.toInt) {rg : Nat → Int} (hd1 : tdC M1 rg) (hd2 : tdR M2 rg) (hb : lB t tx s p si u c M1 M2)
    (p1 : r1.toInt = s 2 ∧ cF Tc N1 ∧ tI N1 0 7 = 1 ∧ kK N1 M1 ∧ qC 49 s N1 ∧ tT N1 49 0 = some t ∧ kC t tx s u c p N1) (p2 : r2.toInt = s 2 ∧ kR tx s u c p N2 ∧ tI N2 60 51 = 1 ∧ (qR (tx 4).toNat 2 s N2 ∧ qV (tx 4).toNat 2 s N2 ∧ hI3 p (s 2) N2) ∧ mF Tm N2 ∧ tI N2 60 2 = tI M2 60 2 ∧ lw N2 M2) : r1.toInt = r2.toInt ∧ lq_I N1 N2 := by
  obtain ⟨a1, a2, a3, a4, a5, a6, a7⟩ := p1
  obtain ⟨b1, b2, b3, b4, b5, b6, b7⟩ := p2
  have e2 := a4.1 2 1 (by decide) (by decide)
  exact ⟨a1.trans b1.symm, Tc, Tm, a2, b5, e2.trans (h.trans b6.symm), fun j hj => hB j (by rw [← e2]; exact hj), (congrArg Int32.toInt (a4.1 1 4 (by decide) (by decide))).trans hR.1, (congrArg Int32.toInt (a4.1 1 5 (by decide) (by decide))).trans hR.2, hS.1, hS.2, rg, tdC_tl hd1 (tl_kK a4), tdR_lw hd2 b7, t, tx, s, p, s, u, c, lB_kp hb a3 a5 a6 a7 b2 b3 b4⟩
end
section
def R_law : String := "ThirdInLineLaw"
def lw_P (b : Addr) (xs : List Int32) (args : Array Value) (s : State) : Prop := args = #[.ref b] ∧ s.IntsAt b xs ∧ xs.length ≤ 3072 ∧ (Jvm.Cond.and given_1 narrow_1).before args s = true
def lw_Q (_ : Array Value) (s : State) (o : Outcome) (t : State) : Prop := o = .returned (some (.int 1)) ∧ Framed s o t [] 601024 7293034
def lw_Z (below : List Frame) (a : Array Value) (s : State) : State → Prop := fun t => ∃ o, t.status = .running ∧ Ended t below o ∧ lw_Q a s o t
/-- the law's own end, with 1 on the stack, nothing written that was there before, its room as the claim has it -/
theorem lw_ret {p : Program} {l : Launch} {e : Env} {s : State} {m : MethodId} {below : List Frame} {meth : Method} {c : Code} {b : Nat} (hx : p.tables.exec = Jvm.exec) (hb : c.code = code) (hr : meth.sig.returnType = ret) (hlocks : meth.locks = false) {pc : Nat} {H : Heap} {ls : Array Slot} (hdg : decode code pc = .ok (.ireturn, 1)) : W p l e room_1 s m #[Value.ref b] below meth c H [] 601024 7293034 (lw_Z below #[Value.ref b] s) (F0 m pc ls [.int 1]) := by
  intro T hT X
  obtain ⟨fs, hret, hrun, hended, hW, hframe⟩ := X.leave (v := some (.int 1)) (hlocks := hlocks) (fun h => by rw [hr] at h; cases h)
  have hmeth' : T.vm.method? m = some meth := X.method'
  refine ⟨T.setFrames fs, ?_, .returned (some (.int 1)), hrun, hended, rfl, ⟨_, rfl⟩, hW, hframe⟩
  jvm_step X.here [X.here.top, hx, hb, hdg, hmeth', hr, ret, narrow_b1]
  (try refine ⟨rfl, ?_⟩); (try refine ⟨rfl, ?_⟩)
  first | (intro acts; rw [hret _ acts rfl rfl rfl]) | rw [hret _ _ rfl rfl rfl]
  exact Steps.refl _
/-- what holds at the law's entry: the machine, the code, the tables' words (any of lw_tbl by 'hts w (by decide +kernel)'), the script of L ints xs at the cell b, what the Statement gives of the start (any of its parts by flat_of_before) -/
def lw_At (p : Program) (s : State) (m : MethodId) (meth : Method) (c : Code) (b L : Nat) (xs : Nat → Int32) : Prop :=
  p.tables.exec = Jvm.exec ∧ c.code = code ∧ meth.sig.returnType = ret ∧ c.maxLocals = 7 ∧ s.vm.findClass R_law = some m.cls ∧ (∀ w ∈ lw_tbl, w.before #[Value.ref b] s = true) ∧ va_X b L xs s s.heap ∧ b < s.heap.size ∧ meth.locks = false ∧ (Jvm.Cond.and given_1 narrow_1).before #[Value.ref b] s = true
def lq_Z (p : Program) (s : State) (m : MethodId) (meth : Method) (c : Code) (D : va_G) (cy : Nat → ClassId) (A1 A2 : Nat → Nat → Nat) (b L : Nat) (xs : Nat → Int32) : Prop :=
  lq_B p s m c #[Value.ref b] cL_law RL 7 D cy ∧ lq_A s A1 A2 ∧ va_X b L xs s s.heap ∧ b < s.heap.size ∧ meth.sig.returnType = ret ∧ meth.locks = false ∧ L ≤ 3072 ∧ tx_E (lq_F s) s s.heap
theorem lq_ret {p : Program} {l : Launch} {e : Env} {s : State} {m : MethodId} {below : List Frame} {meth : Method} {c : Code} {b : Nat} {H : Heap} {locs : List Loc} {ls : Array Slot} {cells slots : Nat} (hx : p.tables.exec = Jvm.exec) (hb : c.code = cL_law) (hr : meth.sig.returnType = ret) (hlk : meth.locks = false) (hS : va_S (lq_F s) s.heap H locs) (hc : cells ≤ 601024 ∧ slots ≤ 7293034) : W p l e room_1 s m #[Value.ref b] below meth c H locs cells slots (lw_Z below #[Value.ref b] s) (F0 m 1527 ls []) := by
  refine lv_iconst (v := 1) hx hb dL_law_1527 (by decide) ?_
  refine va_forget (fun q hq => hS.2.2 q hq) ?_
  refine W.widen (k := 601024) (n := 7293034) hc.1 hc.2 ?_
  exact lw_ret hx hb hr hlk dL_law_1528
set_option maxRecDepth 100000 in
theorem lq_c0 {p : Program} {l : Launch} {e : Env} {s : State} {m : MethodId} {below : List Frame} {meth : Method} {c : Code} {D : va_G} {cy : Nat → ClassId} {A1 A2 : Nat → Nat → Nat} {M1 M2 : ti_M} {b q3 L cells slots : Nat} {iv : Int32} {xs : Nat → Int32} {H : Heap} {locs : List Loc} {ls : Array Slot} (Z : lq_Z p s m meth c D cy A1 A2 b L xs) (hcs : cells ≤ room_1.cells ∧ slots ≤ room_1.slots) (hw : lq_H s D cy A1 A2 q3 M1 M2 H locs) (hI : lq_I M1 M2) (hi : 0 ≤ iv.toInt ∧ iv.toInt + 6 ≤ L) (hl : lv_has ls 7 [(4, .int iv), (3, .ref q3), (2, .ref (A2 60 0)), (1, .ref (A1 0 0)), (0, .ref b)]) (kk : ∀ (M1 M2 : ti_M) (H : Heap) (locs : List Loc) (ls : Array Slot), lq_H s D cy A1 A2 q3 M1 M2 H locs → lq_I M1 M2 → lv_has ls 7 [(4, .int iv), (3, .ref q3), (2, .ref (A2 60 0)), (1, .ref (A1 0 0)), (0, .ref b)] → W p l e room_1 s m #[Value.ref b] below meth c H locs cells slots (lw_Z below #[Value.ref b] s) (F0 m 1521 ls [])) : W p l e room_1 s m #[Value.ref b] below meth c H locs cells slots (lw_Z below #[Value.ref b] s) (F0 m 208 ls []) := by
  have C := Z.1
  have hA := Z.2.1
  have hx := C.1
  have hb := C.2.1
  have hbA : ¬ lq_F s b := Nat.not_le.mpr Z.2.2.2.1
  have hL := Z.2.2.2.2.2.2.1
  have hE := Z.2.2.2.2.2.2.2
  obtain ⟨Tc, Tm, hF1, hF2, hE0, hB0, hR1, hR2, hS1, hS2, rg, htd1, htd2, hle⟩ := hI
  have hR := And.intro hR1 hR2
  have hS := And.intro hS1 hS2
  refine lv_aload_n hx hb dL_law_208 rfl (lv_at hl 3 rfl) ?_
  refine lv_aload_n hx hb dL_law_209 rfl (lv_at hl 4 rfl) ?_
  refine lv_iload hx hb dL_law_210 (lv_at hl 0 rfl) ?_
  refine lv_iconst (v := 1) hx hb dL_law_212 (by decide) ?_
  refine lv_iadd hx hb dL_law_213 ?_
  refine va_sld (i := iv + 1) hx hb Z.2.2.1 Z.2.2.2.1 hbA hw.2.2.1 (lq_in hi hL (by decide) (by decide)) dL_law_214 ?_
  refine lv_aload_n hx hb dL_law_215 rfl (lv_at hl 4 rfl) ?_
  refine lv_iload hx hb dL_law_216 (lv_at hl 0 rfl) ?_
  refine lv_iconst (v := 2) hx hb dL_law_218 (by decide) ?_
  refine lv_iadd hx hb dL_law_219 ?_
  refine va_sld (i := iv + 2) hx hb Z.2.2.1 Z.2.2.2.1 hbA hw.2.2.1 (lq_in hi hL (by decide) (by decide)) dL_law_220 ?_
  refine lv_aload_n hx hb dL_law_221 rfl (lv_at hl 4 rfl) ?_
  refine lv_iload hx hb dL_law_222 (lv_at hl 0 rfl) ?_
  refine lv_iconst (v := 3) hx hb dL_law_224 (by decide) ?_
  refine lv_iadd hx hb dL_law_225 ?_
  refine va_sld (i := iv + 3) hx hb Z.2.2.1 Z.2.2.2.1 hbA hw.2.2.1 (lq_in hi hL (by decide) (by decide)) dL_law_226 ?_
  refine lv_aload_n hx hb dL_law_227 rfl (lv_at hl 4 rfl) ?_
  refine lv_iload hx hb dL_law_228 (lv_at hl 0 rfl) ?_
  refine lv_iconst (v := 4) hx hb dL_law_230 (by decide) ?_
  refine lv_iadd hx hb dL_law_231 ?_
  refine va_sld (i := iv + 4) hx hb Z.2.2.1 Z.2.2.2.1 hbA hw.2.2.1 (lq_in hi hL (by decide) (by decide)) dL_law_232 ?_
  refine lv_aload_n hx hb dL_law_233 rfl (lv_at hl 4 rfl) ?_
  refine lv_iload hx hb dL_law_234 (lv_at hl 0 rfl) ?_
  refine lv_iconst (v := 5) hx hb dL_law_236 (by decide) ?_
  refine lv_iadd hx hb dL_law_237 ?_
  refine va_sld (i := iv + 5) hx hb Z.2.2.1 Z.2.2.2.1 hbA hw.2.2.1 (lq_in hi hL (by decide) (by decide)) dL_law_238 ?_
  refine lq_callTi (av := [.int (xs (iv + 1 : Int32).toNatClampNeg), .int (xs (iv + 2 : Int32).toNatClampNeg), .int (xs (iv + 3 : Int32).toNatClampNeg), .int (xs (iv + 4 : Int32).toNatClampNeg), .int (xs (iv + 5 : Int32).toNatClampNeg)]) C hA hw (w_X9_feed l D A1 cy hA.1 M1 hF1.1 hF1 (xs (iv + 1 : Int32).toNatClampNeg) (xs (iv + 2 : Int32).toNatClampNeg) (xs (iv + 3 : Int32).toNatClampNeg) (xs (iv + 4 : Int32).toNatClampNeg) (xs (iv + 5 : Int32).toNatClampNeg)) ⟨ml_L_21, ym_X9_feed, yv_X9_feed, yi_X9_feed, yc_X9_feed⟩ yd_X9_feed rfl rfl hl.1 (Nat.le_of_ble_eq_true rfl) ⟨by decide, by decide⟩ hcs dL_law_239 (fun rT N1 H locs hpT hw => ?_)
  refine lv_pop hx hb dL_law_242 rfl ?_
  refine lv_aload_n hx hb dL_law_243 rfl (lv_at hl 2 rfl) ?_
  refine lv_aload_n hx hb dL_law_244 rfl (lv_at hl 4 rfl) ?_
  refine lv_iload hx hb dL_law_245 (lv_at hl 0 rfl) ?_
  refine lv_iconst (v := 1) hx hb dL_law_247 (by decide) ?_
  refine lv_iadd hx hb dL_law_248 ?_
  refine va_sld (i := iv + 1) hx hb Z.2.2.1 Z.2.2.2.1 hbA hw.2.2.1 (lq_in hi hL (by decide) (by decide)) dL_law_249 ?_
  refine lv_aload_n hx hb dL_law_250 rfl (lv_at hl 4 rfl) ?_
  refine lv_iload hx hb dL_law_251 (lv_at hl 0 rfl) ?_
  refine lv_iconst (v := 2) hx hb dL_law_253 (by decide) ?_
  refine lv_iadd hx hb dL_law_254 ?_
  refine va_sld (i := iv + 2) hx hb Z.2.2.1 Z.2.2.2.1 hbA hw.2.2.1 (lq_in hi hL (by decide) (by decide)) dL_law_255 ?_
  refine lv_aload_n hx hb dL_law_256 rfl (lv_at hl 4 rfl) ?_
  refine lv_iload hx hb dL_law_257 (lv_at hl 0 rfl) ?_
  refine lv_iconst (v := 3) hx hb dL_law_259 (by decide) ?_
  refine lv_iadd hx hb dL_law_260 ?_
  refine va_sld (i := iv + 3) hx hb Z.2.2.1 Z.2.2.2.1 hbA hw.2.2.1 (lq_in hi hL (by decide) (by decide)) dL_law_261 ?_
  refine lv_aload_n hx hb dL_law_262 rfl (lv_at hl 4 rfl) ?_
  refine lv_iload hx hb dL_law_263 (lv_at hl 0 rfl) ?_
  refine lv_iconst (v := 4) hx hb dL_law_265 (by decide) ?_
  refine lv_iadd hx hb dL_law_266 ?_
  refine va_sld (i := iv + 4) hx hb Z.2.2.1 Z.2.2.2.1 hbA hw.2.2.1 (lq_in hi hL (by decide) (by decide)) dL_law_267 ?_
  refine lv_aload_n hx hb dL_law_268 rfl (lv_at hl 4 rfl) ?_
  refine lv_iload hx hb dL_law_269 (lv_at hl 0 rfl) ?_
  refine lv_iconst (v := 5) hx hb dL_law_271 (by decide) ?_
  refine lv_iadd hx hb dL_law_272 ?_
  refine va_sld (i := iv + 5) hx hb Z.2.2.1 Z.2.2.2.1 hbA hw.2.2.1 (lq_in hi hL (by decide) (by decide)) dL_law_273 ?_
  refine lq_callMi (av := [.int (xs (iv + 1 : Int32).toNatClampNeg), .int (xs (iv + 2 : Int32).toNatClampNeg), .int (xs (iv + 3 : Int32).toNatClampNeg), .int (xs (iv + 4 : Int32).toNatClampNeg), .int (xs (iv + 5 : Int32).toNatClampNeg)]) C hA hw (w_X10_feed l D A2 cy hA.2.1 M2 (mI_self hF2.1) hF2 (xs (iv + 1 : Int32).toNatClampNeg) (xs (iv + 2 : Int32).toNatClampNeg) (xs (iv + 3 : Int32).toNatClampNeg) (xs (iv + 4 : Int32).toNatClampNeg) (xs (iv + 5 : Int32).toNatClampNeg)) ⟨ml_L_25, ym_X10_feed, yv_X10_feed, yi_X10_feed, yc_X10_feed⟩ yd_X10_feed rfl rfl hl.1 (Nat.le_of_ble_eq_true rfl) ⟨by decide, by decide⟩ hcs dL_law_274 (fun rM N2 H locs hpM hw => ?_)
  refine lv_pop hx hb dL_law_277 rfl ?_
  obtain ⟨hpT, hT5, hTT⟩ := hpT
  obtain ⟨hpM, hM5, hMq⟩ := hpM
  have q := lq_fd hF1 hF2 hE0 hB0 hR hS (fun k => hT5.1 50 k (by decide)) (tdC_5 htd1 ⟨fun o k h => hT5.1 o k (by omega), tT_fr hTT, tT_fr hTT⟩) (tdR_lw htd2 hM5) (lE_eo hle hT5 (Or.inl rfl) hTT hMq hM5) hpT hpM
  refine lv_goto (tgt := 1521) hx hb dL_law_278 (by decide) ?_
  exact kk N1 N2 H locs ls hw q.2 hl
set_option maxRecDepth 100000 in
theorem lq_c1 {p : Program} {l : Launch} {e : Env} {s : State} {m : MethodId} {below : List Frame} {meth : Method} {c : Code} {D : va_G} {cy : Nat → ClassId} {A1 A2 : Nat → Nat → Nat} {M1 M2 : ti_M} {b q3 L cells slots : Nat} {iv : Int32} {xs : Nat → Int32} {H : Heap} {locs : List Loc} {ls : Array Slot} (Z : lq_Z p s m meth c D cy A1 A2 b L xs) (hcs : cells ≤ room_1.cells ∧ slots ≤ room_1.slots) (hw : lq_H s D cy A1 A2 q3 M1 M2 H locs) (hI : lq_I M1 M2) (hi : 0 ≤ iv.toInt ∧ iv.toInt + 6 ≤ L) (hl : lv_has ls 7 [(4, .int iv), (3, .ref q3), (2, .ref (A2 60 0)), (1, .ref (A1 0 0)), (0, .ref b)]) (kk : ∀ (M1 M2 : ti_M) (H : Heap) (locs : List Loc) (ls : Array Slot), lq_H s D cy A1 A2 q3 M1 M2 H locs → lq_I M1 M2 → lv_has ls 7 [(4, .int iv), (3, .ref q3), (2, .ref (A2 60 0)), (1, .ref (A1 0 0)), (0, .ref b)] → W p l e room_1 s m #[Value.ref b] below meth c H locs cells slots (lw_Z below #[Value.ref b] s) (F0 m 1521 ls [])) : W p l e room_1 s m #[Value.ref b] below meth c H locs cells slots (lw_Z below #[Value.ref b] s) (F0 m 281 ls []) := by
  have C := Z.1
  have hA := Z.2.1
  have hx := C.1
  have hb := C.2.1
  have hbA : ¬ lq_F s b := Nat.not_le.mpr Z.2.2.2.1
  have hL := Z.2.2.2.2.2.2.1
  have hE := Z.2.2.2.2.2.2.2
  obtain ⟨Tc, Tm, hF1, hF2, hE0, hB0, hR1, hR2, hS1, hS2, rg, htd1, htd2, hle⟩ := hI
  have hR := And.intro hR1 hR2
  have hS := And.intro hS1 hS2
  refine lv_aload_n hx hb dL_law_281 rfl (lv_at hl 3 rfl) ?_
  refine lv_aload_n hx hb dL_law_282 rfl (lv_at hl 4 rfl) ?_
  refine lv_iload hx hb dL_law_283 (lv_at hl 0 rfl) ?_
  refine lv_iconst (v := 1) hx hb dL_law_285 (by decide) ?_
  refine lv_iadd hx hb dL_law_286 ?_
  refine va_sld (i := iv + 1) hx hb Z.2.2.1 Z.2.2.2.1 hbA hw.2.2.1 (lq_in hi hL (by decide) (by decide)) dL_law_287 ?_
  refine lq_callTiE (av := [.int (xs (iv + 1 : Int32).toNatClampNeg)]) C hA hE hw (z_X9_text l D A1 cy hA.1 M1 hF1.1 hF1 (xs (iv + 1 : Int32).toNatClampNeg) (fun i => (Tc.1 i &&& 255).toInt) _ rfl rfl rg htd1) ⟨ml_L_26, ym_X9_text, yv_X9_text, yi_X9_text, yc_X9_text⟩ yd_X9_text rfl rfl hl.1 (Nat.le_of_ble_eq_true rfl) ⟨by decide, by decide⟩ hcs dL_law_288 (fun rT N1 H locs hpT hw => ?_)
  obtain ⟨J, K, J2, hpT⟩ := lq_tJ hpT
  refine lv_pop hx hb dL_law_291 rfl ?_
  refine lv_aload_n hx hb dL_law_292 rfl (lv_at hl 2 rfl) ?_
  refine lv_aload_n hx hb dL_law_293 rfl (lv_at hl 4 rfl) ?_
  refine lv_iload hx hb dL_law_294 (lv_at hl 0 rfl) ?_
  refine lv_iconst (v := 1) hx hb dL_law_296 (by decide) ?_
  refine lv_iadd hx hb dL_law_297 ?_
  refine va_sld (i := iv + 1) hx hb Z.2.2.1 Z.2.2.2.1 hbA hw.2.2.1 (lq_in hi hL (by decide) (by decide)) dL_law_298 ?_
  refine lq_callMiE (av := [.int (xs (iv + 1 : Int32).toNatClampNeg)]) C hA hE hw (z_X10_text l D A2 cy hA.2.1 M2 hF2.1 hF2 (xs (iv + 1 : Int32).toNatClampNeg) (fun i => (Tc.1 i &&& 255).toInt) J (fun hn i hi => by rw [show tY M2 60 1 = Tm.1 from congrArg (fun t => t.1) hF2.1.2.2.2]; exact (hB0 i (by rw [hE0]; omega)).symm) K J2) ⟨ml_L_30, ym_X10_text, yv_X10_text, yi_X10_text, yc_X10_text⟩ yd_X10_text rfl rfl hl.1 (Nat.le_of_ble_eq_true rfl) ⟨by decide, by decide⟩ hcs dL_law_299 (fun rM N2 H locs hpM hw => ?_)
  refine lv_pop hx hb dL_law_302 rfl ?_
  have q := lq_tx hF1 hF2 hE0 hB0 hR hS htd1 htd2 hle hpT hpM
  refine lv_goto (tgt := 1521) hx hb dL_law_303 (by decide) ?_
  exact kk N1 N2 H locs ls hw q.2 hl
set_option maxRecDepth 100000 in
theorem lq_c2 {p : Program} {l : Launch} {e : Env} {s : State} {m : MethodId} {below : List Frame} {meth : Method} {c : Code} {D : va_G} {cy : Nat → ClassId} {A1 A2 : Nat → Nat → Nat} {M1 M2 : ti_M} {b q3 L cells slots : Nat} {iv : Int32} {xs : Nat → Int32} {H : Heap} {locs : List Loc} {ls : Array Slot} (Z : lq_Z p s m meth c D cy A1 A2 b L xs) (hcs : cells ≤ room_1.cells ∧ slots ≤ room_1.slots) (hw : lq_H s D cy A1 A2 q3 M1 M2 H locs) (hI : lq_I M1 M2) (hi : 0 ≤ iv.toInt ∧ iv.toInt + 6 ≤ L) (hl : lv_has ls 7 [(4, .int iv), (3, .ref q3), (2, .ref (A2 60 0)), (1, .ref (A1 0 0)), (0, .ref b)]) (kk : ∀ (M1 M2 : ti_M) (H : Heap) (locs : List Loc) (ls : Array Slot), lq_H s D cy A1 A2 q3 M1 M2 H locs → lq_I M1 M2 → lv_has ls 7 [(4, .int iv), (3, .ref q3), (2, .ref (A2 60 0)), (1, .ref (A1 0 0)), (0, .ref b)] → W p l e room_1 s m #[Value.ref b] below meth c H locs cells slots (lw_Z below #[Value.ref b] s) (F0 m 1521 ls [])) : W p l e room_1 s m #[Value.ref b] below meth c H locs cells slots (lw_Z below #[Value.ref b] s) (F0 m 306 ls []) := by
  have C := Z.1
  have hA := Z.2.1
  have hx := C.1
  have hb := C.2.1
  have hbA : ¬ lq_F s b := Nat.not_le.mpr Z.2.2.2.1
  have hL := Z.2.2.2.2.2.2.1
  have hE := Z.2.2.2.2.2.2.2
  obtain ⟨Tc, Tm, hF1, hF2, hE0, hB0, hR1, hR2, hS1, hS2, rg, htd1, htd2, hle⟩ := hI
  have hR := And.intro hR1 hR2
  have hS := And.intro hS1 hS2
  refine lv_aload_n hx hb dL_law_306 rfl (lv_at hl 3 rfl) ?_
  refine lv_aload_n hx hb dL_law_307 rfl (lv_at hl 4 rfl) ?_
  refine lv_iload hx hb dL_law_308 (lv_at hl 0 rfl) ?_
  refine lv_iconst (v := 1) hx hb dL_law_310 (by decide) ?_
  refine lv_iadd hx hb dL_law_311 ?_
  refine va_sld (i := iv + 1) hx hb Z.2.2.1 Z.2.2.2.1 hbA hw.2.2.1 (lq_in hi hL (by decide) (by decide)) dL_law_312 ?_
  refine lq_callTi (av := [.int (xs (iv + 1 : Int32).toNatClampNeg)]) C hA hw (f_X9_fault l D A1 cy hA.1 M1 hF1.1 hF1 (xs (iv + 1 : Int32).toNatClampNeg)) ⟨ml_L_31, ym_X9_fault, yv_X9_fault, yi_X9_fault, yc_X9_fault⟩ yd_X9_fault rfl rfl hl.1 (Nat.le_of_ble_eq_true rfl) ⟨by decide, by decide⟩ hcs dL_law_313 (fun rT N1 H locs hpT hw => ?_)
  refine lv_pop hx hb dL_law_316 rfl ?_
  refine lv_aload_n hx hb dL_law_317 rfl (lv_at hl 2 rfl) ?_
  refine lv_aload_n hx hb dL_law_318 rfl (lv_at hl 4 rfl) ?_
  refine lv_iload hx hb dL_law_319 (lv_at hl 0 rfl) ?_
  refine lv_iconst (v := 1) hx hb dL_law_321 (by decide) ?_
  refine lv_iadd hx hb dL_law_322 ?_
  refine va_sld (i := iv + 1) hx hb Z.2.2.1 Z.2.2.2.1 hbA hw.2.2.1 (lq_in hi hL (by decide) (by decide)) dL_law_323 ?_
  refine lq_callMi (av := [.int (xs (iv + 1 : Int32).toNatClampNeg)]) C hA hw (f_X10_fault l D A2 cy hA.2.1 M2 hF2.1 hF2 (xs (iv + 1 : Int32).toNatClampNeg)) ⟨ml_L_34, ym_X10_fault, yv_X10_fault, yi_X10_fault, yc_X10_fault⟩ yd_X10_fault rfl rfl hl.1 (Nat.le_of_ble_eq_true rfl) ⟨by decide, by decide⟩ hcs dL_law_324 (fun rM N2 H locs hpM hw => ?_)
  refine lv_pop hx hb dL_law_327 rfl ?_
  refine lv_goto (tgt := 1521) hx hb dL_law_328 (by decide) ?_
  exact kk N1 N2 H locs ls hw ⟨Tc, Tm, hpT.2.2.1, hpM.2.1, hpT.2.2.2.1.trans (hE0.trans (show tI N2 60 2 = tI M2 60 2 from hpM.2.2.1).symm), (fun i hi => hB0 i (by rw [← hpT.2.2.2.1]; exact hi)), (congrArg Int32.toInt (hpT.2.2.2.2.1 1 4 (by decide) (by decide))).trans hR.1, (congrArg Int32.toInt (hpT.2.2.2.2.1 1 5 (by decide) (by decide))).trans hR.2, hS1, hS2, rg, tdC_tl htd1 hpT.2.2.2.2, tdR_lw htd2 hpM.2.2.2, lE_obs hle hpT.1 hpT.2.1 hpM.1.1 (fun q => hpM.1.2.trans q) hpM.2.2.2⟩ hl
set_option maxRecDepth 100000 in
theorem lq_c3 {p : Program} {l : Launch} {e : Env} {s : State} {m : MethodId} {below : List Frame} {meth : Method} {c : Code} {D : va_G} {cy : Nat → ClassId} {A1 A2 : Nat → Nat → Nat} {M1 M2 : ti_M} {b q3 L cells slots : Nat} {iv : Int32} {xs : Nat → Int32} {H : Heap} {locs : List Loc} {ls : Array Slot} (Z : lq_Z p s m meth c D cy A1 A2 b L xs) (hcs : cells ≤ room_1.cells ∧ slots ≤ room_1.slots) (hw : lq_H s D cy A1 A2 q3 M1 M2 H locs) (hI : lq_I M1 M2) (hi : 0 ≤ iv.toInt ∧ iv.toInt + 6 ≤ L) (hl : lv_has ls 7 [(4, .int iv), (3, .ref q3), (2, .ref (A2 60 0)), (1, .ref (A1 0 0)), (0, .ref b)]) (kk : ∀ (M1 M2 : ti_M) (H : Heap) (locs : List Loc) (ls : Array Slot), lq_H s D cy A1 A2 q3 M1 M2 H locs → lq_I M1 M2 → lv_has ls 7 [(4, .int iv), (3, .ref q3), (2, .ref (A2 60 0)), (1, .ref (A1 0 0)), (0, .ref b)] → W p l e room_1 s m #[Value.ref b] below meth c H locs cells slots (lw_Z below #[Value.ref b] s) (F0 m 1521 ls [])) : W p l e room_1 s m #[Value.ref b] below meth c H locs cells slots (lw_Z below #[Value.ref b] s) (F0 m 331 ls []) := by
  have C := Z.1
  have hA := Z.2.1
  have hx := C.1
  have hb := C.2.1
  have hbA : ¬ lq_F s b := Nat.not_le.mpr Z.2.2.2.1
  have hL := Z.2.2.2.2.2.2.1
  have hE := Z.2.2.2.2.2.2.2
  obtain ⟨Tc, Tm, hF1, hF2, hE0, hB0, hR1, hR2, hS1, hS2, rg, htd1, htd2, hle⟩ := hI
  have hR := And.intro hR1 hR2
  have hS := And.intro hS1 hS2
  refine lv_aload_n hx hb dL_law_331 rfl (lv_at hl 3 rfl) ?_
  refine lv_aload_n hx hb dL_law_332 rfl (lv_at hl 4 rfl) ?_
  refine lv_iload hx hb dL_law_333 (lv_at hl 0 rfl) ?_
  refine lv_iconst (v := 1) hx hb dL_law_335 (by decide) ?_
  refine lv_iadd hx hb dL_law_336 ?_
  refine va_sld (i := iv + 1) hx hb Z.2.2.1 Z.2.2.2.1 hbA hw.2.2.1 (lq_in hi hL (by decide) (by decide)) dL_law_337 ?_
  refine lq_callTi (av := [.int (xs (iv + 1 : Int32).toNatClampNeg)]) C hA hw (f_X9_named l D A1 cy hA.1 M1 hF1.1 hF1 (xs (iv + 1 : Int32).toNatClampNeg)) ⟨ml_L_35, ym_X9_named, yv_X9_named, yi_X9_named, yc_X9_named⟩ yd_X9_named rfl rfl hl.1 (Nat.le_of_ble_eq_true rfl) ⟨by decide, by decide⟩ hcs dL_law_338 (fun rT N1 H locs hpT hw => ?_)
  refine lv_pop hx hb dL_law_341 rfl ?_
  refine lv_aload_n hx hb dL_law_342 rfl (lv_at hl 2 rfl) ?_
  refine lv_aload_n hx hb dL_law_343 rfl (lv_at hl 4 rfl) ?_
  refine lv_iload hx hb dL_law_344 (lv_at hl 0 rfl) ?_
  refine lv_iconst (v := 1) hx hb dL_law_346 (by decide) ?_
  refine lv_iadd hx hb dL_law_347 ?_
  refine va_sld (i := iv + 1) hx hb Z.2.2.1 Z.2.2.2.1 hbA hw.2.2.1 (lq_in hi hL (by decide) (by decide)) dL_law_348 ?_
  refine lq_callMi (av := [.int (xs (iv + 1 : Int32).toNatClampNeg)]) C hA hw (f_X10_named l D A2 cy hA.2.1 M2 hF2.1 hF2 (xs (iv + 1 : Int32).toNatClampNeg)) ⟨ml_L_38, ym_X10_named, yv_X10_named, yi_X10_named, yc_X10_named⟩ yd_X10_named rfl rfl hl.1 (Nat.le_of_ble_eq_true rfl) ⟨by decide, by decide⟩ hcs dL_law_349 (fun rM N2 H locs hpM hw => ?_)
  refine lv_pop hx hb dL_law_352 rfl ?_
  refine lv_goto (tgt := 1521) hx hb dL_law_353 (by decide) ?_
  exact kk N1 N2 H locs ls hw ⟨Tc, Tm, hpT.2.2.1, hpM.2.1, hpT.2.2.2.1.trans (hE0.trans (show tI N2 60 2 = tI M2 60 2 from hpM.2.2.1).symm), (fun i hi => hB0 i (by rw [← hpT.2.2.2.1]; exact hi)), (congrArg Int32.toInt (hpT.2.2.2.2.1 1 4 (by decide) (by decide))).trans hR.1, (congrArg Int32.toInt (hpT.2.2.2.2.1 1 5 (by decide) (by decide))).trans hR.2, hS1, hS2, rg, tdC_tl htd1 hpT.2.2.2.2, tdR_lw htd2 hpM.2.2.2, lE_obs hle hpT.1 hpT.2.1 hpM.1.1 (fun q => hpM.1.2.trans q) hpM.2.2.2⟩ hl
set_option maxRecDepth 100000 in
theorem lq_c5 {p : Program} {l : Launch} {e : Env} {s : State} {m : MethodId} {below : List Frame} {meth : Method} {c : Code} {D : va_G} {cy : Nat → ClassId} {A1 A2 : Nat → Nat → Nat} {M1 M2 : ti_M} {b q3 L cells slots : Nat} {iv : Int32} {xs : Nat → Int32} {H : Heap} {locs : List Loc} {ls : Array Slot} (Z : lq_Z p s m meth c D cy A1 A2 b L xs) (hcs : cells ≤ room_1.cells ∧ slots ≤ room_1.slots) (hw : lq_H s D cy A1 A2 q3 M1 M2 H locs) (hI : lq_I M1 M2) (hi : 0 ≤ iv.toInt ∧ iv.toInt + 6 ≤ L) (hl : lv_has ls 7 [(4, .int iv), (3, .ref q3), (2, .ref (A2 60 0)), (1, .ref (A1 0 0)), (0, .ref b)]) (kk : ∀ (M1 M2 : ti_M) (H : Heap) (locs : List Loc) (ls : Array Slot), lq_H s D cy A1 A2 q3 M1 M2 H locs → lq_I M1 M2 → lv_has ls 7 [(4, .int iv), (3, .ref q3), (2, .ref (A2 60 0)), (1, .ref (A1 0 0)), (0, .ref b)] → W p l e room_1 s m #[Value.ref b] below meth c H locs cells slots (lw_Z below #[Value.ref b] s) (F0 m 1521 ls [])) : W p l e room_1 s m #[Value.ref b] below meth c H locs cells slots (lw_Z below #[Value.ref b] s) (F0 m 424 ls []) := by
  have C := Z.1
  have hA := Z.2.1
  have hx := C.1
  have hb := C.2.1
  have hbA : ¬ lq_F s b := Nat.not_le.mpr Z.2.2.2.1
  have hL := Z.2.2.2.2.2.2.1
  have hE := Z.2.2.2.2.2.2.2
  obtain ⟨Tc, Tm, hF1, hF2, hE0, hB0, hR1, hR2, hS1, hS2, rg, htd1, htd2, hle⟩ := hI
  have hR := And.intro hR1 hR2
  have hS := And.intro hS1 hS2
  obtain ⟨t9, tx9, s9, p9, si9, u9, c9, hb9⟩ := id hle
  obtain ⟨ht9, hkC9, hkR9, hW9, ⟨hw9, h19⟩, hU9, hi9⟩ := id hb9
  have m9 : 0 ≤ s9 2 ∧ s9 2 ≤ 120 := by
    have b : ib 0 120 (tY M2 60 34 0) := hF2.1.2.1 34 0 (by decide)
    rw [hkR9.2.1.1.1]; exact b
  refine lv_aload_n hx hb dL_law_424 rfl (lv_at hl 3 rfl) ?_
  refine lv_aload_n hx hb dL_law_425 rfl (lv_at hl 4 rfl) ?_
  refine lv_iload hx hb dL_law_426 (lv_at hl 0 rfl) ?_
  refine lv_iconst (v := 1) hx hb dL_law_428 (by decide) ?_
  refine lv_iadd hx hb dL_law_429 ?_
  refine va_sld (i := iv + 1) hx hb Z.2.2.1 Z.2.2.2.1 hbA hw.2.2.1 (lq_in hi hL (by decide) (by decide)) dL_law_430 ?_
  refine lq_callTi (av := [.int (xs (iv + 1 : Int32).toNatClampNeg)]) C hA hw (z_X9_stands l D A1 cy hA.1 M1 hF1.1 hF1 t9 ht9 tx9 s9 p9 u9 c9 hkC9 (xs (iv + 1 : Int32).toNatClampNeg)) ⟨ml_L_49, ym_X9_stands, yv_X9_stands, yi_X9_stands, yc_X9_stands⟩ yd_X9_stands rfl rfl hl.1 (Nat.le_of_ble_eq_true rfl) ⟨by decide, by decide⟩ hcs dL_law_431 (fun rT N1 H locs hpT hw => ?_)
  refine lv_pop hx hb dL_law_434 rfl ?_
  refine lv_aload_n hx hb dL_law_435 rfl (lv_at hl 2 rfl) ?_
  refine lv_aload_n hx hb dL_law_436 rfl (lv_at hl 4 rfl) ?_
  refine lv_iload hx hb dL_law_437 (lv_at hl 0 rfl) ?_
  refine lv_iconst (v := 1) hx hb dL_law_439 (by decide) ?_
  refine lv_iadd hx hb dL_law_440 ?_
  refine va_sld (i := iv + 1) hx hb Z.2.2.1 Z.2.2.2.1 hbA hw.2.2.1 (lq_in hi hL (by decide) (by decide)) dL_law_441 ?_
  refine lq_callMi (av := [.int (xs (iv + 1 : Int32).toNatClampNeg)]) C hA hw (z_X10_stands l D A2 cy hA.2.1 M2 hF2.1 hF2 (xs (iv + 1 : Int32).toNatClampNeg) tx9 s9 p9 u9 c9 hW9.1 hW9 hw9 h19 hkR9) ⟨ml_L_52, ym_X10_stands, yv_X10_stands, yi_X10_stands, yc_X10_stands⟩ yd_X10_stands rfl rfl hl.1 (Nat.le_of_ble_eq_true rfl) ⟨by decide, by decide⟩ hcs dL_law_442 (fun rM N2 H locs hpM hw => ?_)
  refine lv_pop hx hb dL_law_445 rfl ?_
  have q := lq_ob hF1 hE0 hB0 hR hS htd1 htd2 hpT hpM rfl (fun i y => ⟨_, _, _, _, _, _, _, lB_no hb9 i y⟩)
  refine lv_goto (tgt := 1521) hx hb dL_law_446 (by decide) ?_
  exact kk N1 N2 H locs ls hw q.2 hl
set_option maxRecDepth 100000 in
theorem lq_c6 {p : Program} {l : Launch} {e : Env} {s : State} {m : MethodId} {below : List Frame} {meth : Method} {c : Code} {D : va_G} {cy : Nat → ClassId} {A1 A2 : Nat → Nat → Nat} {M1 M2 : ti_M} {b q3 L cells slots : Nat} {iv : Int32} {xs : Nat → Int32} {H : Heap} {locs : List Loc} {ls : Array Slot} (Z : lq_Z p s m meth c D cy A1 A2 b L xs) (hcs : cells ≤ room_1.cells ∧ slots ≤ room_1.slots) (hw : lq_H s D cy A1 A2 q3 M1 M2 H locs) (hI : lq_I M1 M2) (hi : 0 ≤ iv.toInt ∧ iv.toInt + 6 ≤ L) (hl : lv_has ls 7 [(4, .int iv), (3, .ref q3), (2, .ref (A2 60 0)), (1, .ref (A1 0 0)), (0, .ref b)]) (kk : ∀ (M1 M2 : ti_M) (H : Heap) (locs : List Loc) (ls : Array Slot), lq_H s D cy A1 A2 q3 M1 M2 H locs → lq_I M1 M2 → lv_has ls 7 [(4, .int iv), (3, .ref q3), (2, .ref (A2 60 0)), (1, .ref (A1 0 0)), (0, .ref b)] → W p l e room_1 s m #[Value.ref b] below meth c H locs cells slots (lw_Z below #[Value.ref b] s) (F0 m 1521 ls [])) : W p l e room_1 s m #[Value.ref b] below meth c H locs cells slots (lw_Z below #[Value.ref b] s) (F0 m 449 ls []) := by
  have C := Z.1
  have hA := Z.2.1
  have hx := C.1
  have hb := C.2.1
  have hbA : ¬ lq_F s b := Nat.not_le.mpr Z.2.2.2.1
  have hL := Z.2.2.2.2.2.2.1
  have hE := Z.2.2.2.2.2.2.2
  obtain ⟨Tc, Tm, hF1, hF2, hE0, hB0, hR1, hR2, hS1, hS2, rg, htd1, htd2, hle⟩ := hI
  have hR := And.intro hR1 hR2
  have hS := And.intro hS1 hS2
  obtain ⟨t9, tx9, s9, p9, si9, u9, c9, hb9⟩ := id hle
  obtain ⟨ht9, hkC9, hkR9, hW9, ⟨hw9, h19⟩, hU9, hi9⟩ := id hb9
  have m9 : 0 ≤ s9 2 ∧ s9 2 ≤ 120 := by
    have b : ib 0 120 (tY M2 60 34 0) := hF2.1.2.1 34 0 (by decide)
    rw [hkR9.2.1.1.1]; exact b
  refine lv_aload_n hx hb dL_law_449 rfl (lv_at hl 3 rfl) ?_
  refine lv_aload_n hx hb dL_law_450 rfl (lv_at hl 4 rfl) ?_
  refine lv_iload hx hb dL_law_451 (lv_at hl 0 rfl) ?_
  refine lv_iconst (v := 1) hx hb dL_law_453 (by decide) ?_
  refine lv_iadd hx hb dL_law_454 ?_
  refine va_sld (i := iv + 1) hx hb Z.2.2.1 Z.2.2.2.1 hbA hw.2.2.1 (lq_in hi hL (by decide) (by decide)) dL_law_455 ?_
  refine lq_callTi (av := [.int (xs (iv + 1 : Int32).toNatClampNeg)]) C hA hw (z_X9_holder l D A1 cy hA.1 M1 hF1.1 hF1 t9 ht9 tx9 s9 p9 u9 c9 hkC9 (xs (iv + 1 : Int32).toNatClampNeg)) ⟨ml_L_53, ym_X9_holder, yv_X9_holder, yi_X9_holder, yc_X9_holder⟩ yd_X9_holder rfl rfl hl.1 (Nat.le_of_ble_eq_true rfl) ⟨by decide, by decide⟩ hcs dL_law_456 (fun rT N1 H locs hpT hw => ?_)
  refine lv_pop hx hb dL_law_459 rfl ?_
  refine lv_aload_n hx hb dL_law_460 rfl (lv_at hl 2 rfl) ?_
  refine lv_aload_n hx hb dL_law_461 rfl (lv_at hl 4 rfl) ?_
  refine lv_iload hx hb dL_law_462 (lv_at hl 0 rfl) ?_
  refine lv_iconst (v := 1) hx hb dL_law_464 (by decide) ?_
  refine lv_iadd hx hb dL_law_465 ?_
  refine va_sld (i := iv + 1) hx hb Z.2.2.1 Z.2.2.2.1 hbA hw.2.2.1 (lq_in hi hL (by decide) (by decide)) dL_law_466 ?_
  refine lq_callMi (av := [.int (xs (iv + 1 : Int32).toNatClampNeg)]) C hA hw (z_X10_holder l D A2 cy hA.2.1 M2 hF2.1 hF2 (xs (iv + 1 : Int32).toNatClampNeg) tx9 s9 p9 u9 c9 hW9.1 hW9 hw9 h19 hkR9) ⟨ml_L_56, ym_X10_holder, yv_X10_holder, yi_X10_holder, yc_X10_holder⟩ yd_X10_holder rfl rfl hl.1 (Nat.le_of_ble_eq_true rfl) ⟨by decide, by decide⟩ hcs dL_law_467 (fun rM N2 H locs hpM hw => ?_)
  refine lv_pop hx hb dL_law_470 rfl ?_
  have q := lq_ob hF1 hE0 hB0 hR hS htd1 htd2 hpT hpM rfl (fun i y => ⟨_, _, _, _, _, _, _, lB_no hb9 i y⟩)
  refine lv_goto (tgt := 1521) hx hb dL_law_471 (by decide) ?_
  exact kk N1 N2 H locs ls hw q.2 hl
set_option maxRecDepth 100000 in
theorem lq_c7 {p : Program} {l : Launch} {e : Env} {s : State} {m : MethodId} {below : List Frame} {meth : Method} {c : Code} {D : va_G} {cy : Nat → ClassId} {A1 A2 : Nat → Nat → Nat} {M1 M2 : ti_M} {b q3 L cells slots : Nat} {iv : Int32} {xs : Nat → Int32} {H : Heap} {locs : List Loc} {ls : Array Slot} (Z : lq_Z p s m meth c D cy A1 A2 b L xs) (hcs : cells ≤ room_1.cells ∧ slots ≤ room_1.slots) (hw : lq_H s D cy A1 A2 q3 M1 M2 H locs) (hI : lq_I M1 M2) (hi : 0 ≤ iv.toInt ∧ iv.toInt + 6 ≤ L) (hl : lv_has ls 7 [(4, .int iv), (3, .ref q3), (2, .ref (A2 60 0)), (1, .ref (A1 0 0)), (0, .ref b)]) (kk : ∀ (M1 M2 : ti_M) (H : Heap) (locs : List Loc) (ls : Array Slot), lq_H s D cy A1 A2 q3 M1 M2 H locs → lq_I M1 M2 → lv_has ls 7 [(4, .int iv), (3, .ref q3), (2, .ref (A2 60 0)), (1, .ref (A1 0 0)), (0, .ref b)] → W p l e room_1 s m #[Value.ref b] below meth c H locs cells slots (lw_Z below #[Value.ref b] s) (F0 m 1521 ls [])) : W p l e room_1 s m #[Value.ref b] below meth c H locs cells slots (lw_Z below #[Value.ref b] s) (F0 m 474 ls []) := by
  have C := Z.1
  have hA := Z.2.1
  have hx := C.1
  have hb := C.2.1
  have hbA : ¬ lq_F s b := Nat.not_le.mpr Z.2.2.2.1
  have hL := Z.2.2.2.2.2.2.1
  have hE := Z.2.2.2.2.2.2.2
  obtain ⟨Tc, Tm, hF1, hF2, hE0, hB0, hR1, hR2, hS1, hS2, rg, htd1, htd2, hle⟩ := hI
  have hR := And.intro hR1 hR2
  have hS := And.intro hS1 hS2
  refine lv_aload_n hx hb dL_law_474 rfl (lv_at hl 3 rfl) ?_
  refine lv_aload_n hx hb dL_law_475 rfl (lv_at hl 4 rfl) ?_
  refine lv_iload hx hb dL_law_476 (lv_at hl 0 rfl) ?_
  refine lv_iconst (v := 1) hx hb dL_law_478 (by decide) ?_
  refine lv_iadd hx hb dL_law_479 ?_
  refine va_sld (i := iv + 1) hx hb Z.2.2.1 Z.2.2.2.1 hbA hw.2.2.1 (lq_in hi hL (by decide) (by decide)) dL_law_480 ?_
  refine lv_aload_n hx hb dL_law_481 rfl (lv_at hl 4 rfl) ?_
  refine lv_iload hx hb dL_law_482 (lv_at hl 0 rfl) ?_
  refine lv_iconst (v := 2) hx hb dL_law_484 (by decide) ?_
  refine lv_iadd hx hb dL_law_485 ?_
  refine va_sld (i := iv + 2) hx hb Z.2.2.1 Z.2.2.2.1 hbA hw.2.2.1 (lq_in hi hL (by decide) (by decide)) dL_law_486 ?_
  refine lq_callTl (av := [.int (xs (iv + 1 : Int32).toNatClampNeg), .int (xs (iv + 2 : Int32).toNatClampNeg)]) C hA hw (f_X9_law l D A1 cy hA.1 M1 hF1.1 hF1 (xs (iv + 1 : Int32).toNatClampNeg) (xs (iv + 2 : Int32).toNatClampNeg)) ⟨ml_L_57, ym_X9_law, yv_X9_law, yi_X9_law, yc_X9_law⟩ yd_X9_law rfl rfl hl.1 (Nat.le_of_ble_eq_true rfl) ⟨by decide, by decide⟩ hcs dL_law_487 (fun rT N1 H locs hpT hw => ?_)
  refine lv_pop2_2 hx hb dL_law_490 rfl ?_
  refine lv_aload_n hx hb dL_law_491 rfl (lv_at hl 2 rfl) ?_
  refine lv_aload_n hx hb dL_law_492 rfl (lv_at hl 4 rfl) ?_
  refine lv_iload hx hb dL_law_493 (lv_at hl 0 rfl) ?_
  refine lv_iconst (v := 1) hx hb dL_law_495 (by decide) ?_
  refine lv_iadd hx hb dL_law_496 ?_
  refine va_sld (i := iv + 1) hx hb Z.2.2.1 Z.2.2.2.1 hbA hw.2.2.1 (lq_in hi hL (by decide) (by decide)) dL_law_497 ?_
  refine lv_aload_n hx hb dL_law_498 rfl (lv_at hl 4 rfl) ?_
  refine lv_iload hx hb dL_law_499 (lv_at hl 0 rfl) ?_
  refine lv_iconst (v := 2) hx hb dL_law_501 (by decide) ?_
  refine lv_iadd hx hb dL_law_502 ?_
  refine va_sld (i := iv + 2) hx hb Z.2.2.1 Z.2.2.2.1 hbA hw.2.2.1 (lq_in hi hL (by decide) (by decide)) dL_law_503 ?_
  refine lq_callMl (av := [.int (xs (iv + 1 : Int32).toNatClampNeg), .int (xs (iv + 2 : Int32).toNatClampNeg)]) C hA hw (f_X10_law l D A2 cy hA.2.1 M2 hF2.1 hF2 (xs (iv + 1 : Int32).toNatClampNeg) (xs (iv + 2 : Int32).toNatClampNeg)) ⟨ml_L_61, ym_X10_law, yv_X10_law, yi_X10_law, yc_X10_law⟩ yd_X10_law rfl rfl hl.1 (Nat.le_of_ble_eq_true rfl) ⟨by decide, by decide⟩ hcs dL_law_504 (fun rM N2 H locs hpM hw => ?_)
  refine lv_pop2_2 hx hb dL_law_507 rfl ?_
  refine lv_goto (tgt := 1521) hx hb dL_law_508 (by decide) ?_
  exact kk N1 N2 H locs ls hw ⟨Tc, Tm, hpT.2.2.1, hpM.2.1, hpT.2.2.2.1.trans (hE0.trans (show tI N2 60 2 = tI M2 60 2 from hpM.2.2.1).symm), (fun i hi => hB0 i (by rw [← hpT.2.2.2.1]; exact hi)), (congrArg Int32.toInt (hpT.2.2.2.2.1 1 4 (by decide) (by decide))).trans hR.1, (congrArg Int32.toInt (hpT.2.2.2.2.1 1 5 (by decide) (by decide))).trans hR.2, hS1, hS2, rg, tdC_tl htd1 hpT.2.2.2.2, tdR_lw htd2 hpM.2.2.2, lE_obs hle hpT.1 hpT.2.1 hpM.1.1 (fun q => hpM.1.2.trans q) hpM.2.2.2⟩ hl
set_option maxRecDepth 100000 in
theorem lq_c8 {p : Program} {l : Launch} {e : Env} {s : State} {m : MethodId} {below : List Frame} {meth : Method} {c : Code} {D : va_G} {cy : Nat → ClassId} {A1 A2 : Nat → Nat → Nat} {M1 M2 : ti_M} {b q3 L cells slots : Nat} {iv : Int32} {xs : Nat → Int32} {H : Heap} {locs : List Loc} {ls : Array Slot} (Z : lq_Z p s m meth c D cy A1 A2 b L xs) (hcs : cells ≤ room_1.cells ∧ slots ≤ room_1.slots) (hw : lq_H s D cy A1 A2 q3 M1 M2 H locs) (hI : lq_I M1 M2) (hi : 0 ≤ iv.toInt ∧ iv.toInt + 6 ≤ L) (hl : lv_has ls 7 [(4, .int iv), (3, .ref q3), (2, .ref (A2 60 0)), (1, .ref (A1 0 0)), (0, .ref b)]) (kk : ∀ (M1 M2 : ti_M) (H : Heap) (locs : List Loc) (ls : Array Slot), lq_H s D cy A1 A2 q3 M1 M2 H locs → lq_I M1 M2 → lv_has ls 7 [(4, .int iv), (3, .ref q3), (2, .ref (A2 60 0)), (1, .ref (A1 0 0)), (0, .ref b)] → W p l e room_1 s m #[Value.ref b] below meth c H locs cells slots (lw_Z below #[Value.ref b] s) (F0 m 1521 ls [])) : W p l e room_1 s m #[Value.ref b] below meth c H locs cells slots (lw_Z below #[Value.ref b] s) (F0 m 511 ls []) := by
  have C := Z.1
  have hA := Z.2.1
  have hx := C.1
  have hb := C.2.1
  have hbA : ¬ lq_F s b := Nat.not_le.mpr Z.2.2.2.1
  have hL := Z.2.2.2.2.2.2.1
  have hE := Z.2.2.2.2.2.2.2
  obtain ⟨Tc, Tm, hF1, hF2, hE0, hB0, hR1, hR2, hS1, hS2, rg, htd1, htd2, hle⟩ := hI
  have hR := And.intro hR1 hR2
  have hS := And.intro hS1 hS2
  obtain ⟨t9, tx9, s9, p9, si9, u9, c9, hb9⟩ := id hle
  obtain ⟨ht9, hkC9, hkR9, hW9, ⟨hw9, h19⟩, hU9, hi9⟩ := id hb9
  have m9 : 0 ≤ s9 2 ∧ s9 2 ≤ 120 := by
    have b : ib 0 120 (tY M2 60 34 0) := hF2.1.2.1 34 0 (by decide)
    rw [hkR9.2.1.1.1]; exact b
  refine lv_aload_n hx hb dL_law_511 rfl (lv_at hl 3 rfl) ?_
  refine lv_aload_n hx hb dL_law_512 rfl (lv_at hl 4 rfl) ?_
  refine lv_iload hx hb dL_law_513 (lv_at hl 0 rfl) ?_
  refine lv_iconst (v := 1) hx hb dL_law_515 (by decide) ?_
  refine lv_iadd hx hb dL_law_516 ?_
  refine va_sld (i := iv + 1) hx hb Z.2.2.1 Z.2.2.2.1 hbA hw.2.2.1 (lq_in hi hL (by decide) (by decide)) dL_law_517 ?_
  refine lq_callTi (av := [.int (xs (iv + 1 : Int32).toNatClampNeg)]) C hA hw (z_X9_go l D A1 cy hA.1 M1 hF1.1 hF1 t9 ht9 tx9 s9 p9 u9 c9 hkC9 h19 hw9.2.1.2 (xs (iv + 1 : Int32).toNatClampNeg)) ⟨ml_L_62, ym_X9_go, yv_X9_go, yi_X9_go, yc_X9_go⟩ yd_X9_go rfl rfl hl.1 (Nat.le_of_ble_eq_true rfl) ⟨by decide, by decide⟩ hcs dL_law_518 (fun rT N1 H locs hpT hw => ?_)
  refine lv_pop hx hb dL_law_521 rfl ?_
  refine lv_aload_n hx hb dL_law_522 rfl (lv_at hl 2 rfl) ?_
  refine lv_aload_n hx hb dL_law_523 rfl (lv_at hl 4 rfl) ?_
  refine lv_iload hx hb dL_law_524 (lv_at hl 0 rfl) ?_
  refine lv_iconst (v := 1) hx hb dL_law_526 (by decide) ?_
  refine lv_iadd hx hb dL_law_527 ?_
  refine va_sld (i := iv + 1) hx hb Z.2.2.1 Z.2.2.2.1 hbA hw.2.2.1 (lq_in hi hL (by decide) (by decide)) dL_law_528 ?_
  refine lq_callMi (av := [.int (xs (iv + 1 : Int32).toNatClampNeg)]) C hA hw (z_X10_go l D A2 cy hA.2.1 M2 hF2.1 hF2 (xs (iv + 1 : Int32).toNatClampNeg) tx9 s9 p9 u9 c9 hW9.1 hW9 hw9 h19 hkR9) ⟨ml_L_65, ym_X10_go, yv_X10_go, yi_X10_go, yc_X10_go⟩ yd_X10_go rfl rfl hl.1 (Nat.le_of_ble_eq_true rfl) ⟨by decide, by decide⟩ hcs dL_law_529 (fun rM N2 H locs hpM hw => ?_)
  refine lv_pop hx hb dL_law_532 rfl ?_
  have q := lq_sp hF1 hE0 hB0 hR hS htd1 htd2 hpT hpM (fun _ => rfl) (fun a b => a b) (fun a b => a b) (fun i y => ⟨_, _, _, _, _, _, _, lB_no hb9 i y⟩) (fun q g i x y => ⟨_, _, _, _, _, _, _, lB_go hb9 g i m9.1 (by omega) (by rw [show (((xs (iv + 1 : Int32).toNatClampNeg).toInt.toNat : Nat) : Int) = (xs (iv + 1 : Int32).toNatClampNeg).toInt by omega]) x y⟩)
  refine lv_goto (tgt := 1521) hx hb dL_law_533 (by decide) ?_
  exact kk N1 N2 H locs ls hw q.2 hl
set_option maxRecDepth 100000 in
theorem lq_c9 {p : Program} {l : Launch} {e : Env} {s : State} {m : MethodId} {below : List Frame} {meth : Method} {c : Code} {D : va_G} {cy : Nat → ClassId} {A1 A2 : Nat → Nat → Nat} {M1 M2 : ti_M} {b q3 L cells slots : Nat} {iv : Int32} {xs : Nat → Int32} {H : Heap} {locs : List Loc} {ls : Array Slot} (Z : lq_Z p s m meth c D cy A1 A2 b L xs) (hcs : cells ≤ room_1.cells ∧ slots ≤ room_1.slots) (hw : lq_H s D cy A1 A2 q3 M1 M2 H locs) (hI : lq_I M1 M2) (hi : 0 ≤ iv.toInt ∧ iv.toInt + 6 ≤ L) (hl : lv_has ls 7 [(4, .int iv), (3, .ref q3), (2, .ref (A2 60 0)), (1, .ref (A1 0 0)), (0, .ref b)]) (kk : ∀ (M1 M2 : ti_M) (H : Heap) (locs : List Loc) (ls : Array Slot), lq_H s D cy A1 A2 q3 M1 M2 H locs → lq_I M1 M2 → lv_has ls 7 [(4, .int iv), (3, .ref q3), (2, .ref (A2 60 0)), (1, .ref (A1 0 0)), (0, .ref b)] → W p l e room_1 s m #[Value.ref b] below meth c H locs cells slots (lw_Z below #[Value.ref b] s) (F0 m 1521 ls [])) : W p l e room_1 s m #[Value.ref b] below meth c H locs cells slots (lw_Z below #[Value.ref b] s) (F0 m 536 ls []) := by
  have C := Z.1
  have hA := Z.2.1
  have hx := C.1
  have hb := C.2.1
  have hbA : ¬ lq_F s b := Nat.not_le.mpr Z.2.2.2.1
  have hL := Z.2.2.2.2.2.2.1
  have hE := Z.2.2.2.2.2.2.2
  obtain ⟨Tc, Tm, hF1, hF2, hE0, hB0, hR1, hR2, hS1, hS2, rg, htd1, htd2, hle⟩ := hI
  have hR := And.intro hR1 hR2
  have hS := And.intro hS1 hS2
  obtain ⟨t9, tx9, s9, p9, si9, u9, c9, hb9⟩ := id hle
  obtain ⟨ht9, hkC9, hkR9, hW9, ⟨hw9, h19⟩, hU9, hi9⟩ := id hb9
  have m9 : 0 ≤ s9 2 ∧ s9 2 ≤ 120 := by
    have b : ib 0 120 (tY M2 60 34 0) := hF2.1.2.1 34 0 (by decide)
    rw [hkR9.2.1.1.1]; exact b
  refine lv_aload_n hx hb dL_law_536 rfl (lv_at hl 3 rfl) ?_
  refine lv_aload_n hx hb dL_law_537 rfl (lv_at hl 4 rfl) ?_
  refine lv_iload hx hb dL_law_538 (lv_at hl 0 rfl) ?_
  refine lv_iconst (v := 1) hx hb dL_law_540 (by decide) ?_
  refine lv_iadd hx hb dL_law_541 ?_
  refine va_sld (i := iv + 1) hx hb Z.2.2.1 Z.2.2.2.1 hbA hw.2.2.1 (lq_in hi hL (by decide) (by decide)) dL_law_542 ?_
  refine lq_callTi (av := [.int (xs (iv + 1 : Int32).toNatClampNeg)]) C hA hw (z_X9_join l D A1 cy hA.1 M1 hF1.1 hF1 t9 ht9 tx9 s9 p9 u9 c9 hkC9 (xs (iv + 1 : Int32).toNatClampNeg)) ⟨ml_L_66, ym_X9_join, yv_X9_join, yi_X9_join, yc_X9_join⟩ yd_X9_join rfl rfl hl.1 (Nat.le_of_ble_eq_true rfl) ⟨by decide, by decide⟩ hcs dL_law_543 (fun rT N1 H locs hpT hw => ?_)
  refine lv_pop hx hb dL_law_546 rfl ?_
  refine lv_aload_n hx hb dL_law_547 rfl (lv_at hl 2 rfl) ?_
  refine lv_aload_n hx hb dL_law_548 rfl (lv_at hl 4 rfl) ?_
  refine lv_iload hx hb dL_law_549 (lv_at hl 0 rfl) ?_
  refine lv_iconst (v := 1) hx hb dL_law_551 (by decide) ?_
  refine lv_iadd hx hb dL_law_552 ?_
  refine va_sld (i := iv + 1) hx hb Z.2.2.1 Z.2.2.2.1 hbA hw.2.2.1 (lq_in hi hL (by decide) (by decide)) dL_law_553 ?_
  refine lq_callMi (av := [.int (xs (iv + 1 : Int32).toNatClampNeg)]) C hA hw (z_X10_join l D A2 cy hA.2.1 M2 hF2.1 hF2 (xs (iv + 1 : Int32).toNatClampNeg) tx9 s9 p9 u9 c9 hW9.1 hW9 hw9 h19 hkR9) ⟨ml_L_69, ym_X10_join, yv_X10_join, yi_X10_join, yc_X10_join⟩ yd_X10_join rfl rfl hl.1 (Nat.le_of_ble_eq_true rfl) ⟨by decide, by decide⟩ hcs dL_law_554 (fun rM N2 H locs hpM hw => ?_)
  refine lv_pop hx hb dL_law_557 rfl ?_
  have q := lq_sp hF1 hE0 hB0 hR hS htd1 htd2 hpT hpM (fun q => po_ap hw9 hW9 q.1 q.2.1 q.2.2) (fun a b => a b) (fun a b => a b) (fun i y => ⟨_, _, _, _, _, _, _, lB_no hb9 i y⟩) (fun q g i x y => ⟨_, _, _, _, _, _, _, lB_st hb9 g i x y (wF_ap hW9 hw9 q.1 q.2.1 q.2.2).1 ((ap_k ⟨by decide, by decide⟩).trans h19) (ap_k ⟨by decide, by decide⟩)⟩)
  refine lv_goto (tgt := 1521) hx hb dL_law_558 (by decide) ?_
  exact kk N1 N2 H locs ls hw q.2 hl
set_option maxRecDepth 100000 in
theorem lq_c10 {p : Program} {l : Launch} {e : Env} {s : State} {m : MethodId} {below : List Frame} {meth : Method} {c : Code} {D : va_G} {cy : Nat → ClassId} {A1 A2 : Nat → Nat → Nat} {M1 M2 : ti_M} {b q3 L cells slots : Nat} {iv : Int32} {xs : Nat → Int32} {H : Heap} {locs : List Loc} {ls : Array Slot} (Z : lq_Z p s m meth c D cy A1 A2 b L xs) (hcs : cells ≤ room_1.cells ∧ slots ≤ room_1.slots) (hw : lq_H s D cy A1 A2 q3 M1 M2 H locs) (hI : lq_I M1 M2) (hi : 0 ≤ iv.toInt ∧ iv.toInt + 6 ≤ L) (hl : lv_has ls 7 [(4, .int iv), (3, .ref q3), (2, .ref (A2 60 0)), (1, .ref (A1 0 0)), (0, .ref b)]) (kk : ∀ (M1 M2 : ti_M) (H : Heap) (locs : List Loc) (ls : Array Slot), lq_H s D cy A1 A2 q3 M1 M2 H locs → lq_I M1 M2 → lv_has ls 7 [(4, .int iv), (3, .ref q3), (2, .ref (A2 60 0)), (1, .ref (A1 0 0)), (0, .ref b)] → W p l e room_1 s m #[Value.ref b] below meth c H locs cells slots (lw_Z below #[Value.ref b] s) (F0 m 1521 ls [])) : W p l e room_1 s m #[Value.ref b] below meth c H locs cells slots (lw_Z below #[Value.ref b] s) (F0 m 561 ls []) := by
  have C := Z.1
  have hA := Z.2.1
  have hx := C.1
  have hb := C.2.1
  have hbA : ¬ lq_F s b := Nat.not_le.mpr Z.2.2.2.1
  have hL := Z.2.2.2.2.2.2.1
  have hE := Z.2.2.2.2.2.2.2
  obtain ⟨Tc, Tm, hF1, hF2, hE0, hB0, hR1, hR2, hS1, hS2, rg, htd1, htd2, hle⟩ := hI
  have hR := And.intro hR1 hR2
  have hS := And.intro hS1 hS2
  obtain ⟨t9, tx9, s9, p9, si9, u9, c9, hb9⟩ := id hle
  obtain ⟨ht9, hkC9, hkR9, hW9, ⟨hw9, h19⟩, hU9, hi9⟩ := id hb9
  have m9 : 0 ≤ s9 2 ∧ s9 2 ≤ 120 := by
    have b : ib 0 120 (tY M2 60 34 0) := hF2.1.2.1 34 0 (by decide)
    rw [hkR9.2.1.1.1]; exact b
  refine lv_aload_n hx hb dL_law_561 rfl (lv_at hl 3 rfl) ?_
  refine lv_aload_n hx hb dL_law_562 rfl (lv_at hl 4 rfl) ?_
  refine lv_iload hx hb dL_law_563 (lv_at hl 0 rfl) ?_
  refine lv_iconst (v := 1) hx hb dL_law_565 (by decide) ?_
  refine lv_iadd hx hb dL_law_566 ?_
  refine va_sld (i := iv + 1) hx hb Z.2.2.1 Z.2.2.2.1 hbA hw.2.2.1 (lq_in hi hL (by decide) (by decide)) dL_law_567 ?_
  refine lq_callTi (av := [.int (xs (iv + 1 : Int32).toNatClampNeg)]) C hA hw (z_X9_out l D A1 cy hA.1 M1 hF1.1 hF1 t9 ht9 tx9 s9 p9 u9 c9 hkC9 (xs (iv + 1 : Int32).toNatClampNeg)) ⟨ml_L_70, ym_X9_out, yv_X9_out, yi_X9_out, yc_X9_out⟩ yd_X9_out rfl rfl hl.1 (Nat.le_of_ble_eq_true rfl) ⟨by decide, by decide⟩ hcs dL_law_568 (fun rT N1 H locs hpT hw => ?_)
  refine lv_pop hx hb dL_law_571 rfl ?_
  refine lv_aload_n hx hb dL_law_572 rfl (lv_at hl 2 rfl) ?_
  refine lv_aload_n hx hb dL_law_573 rfl (lv_at hl 4 rfl) ?_
  refine lv_iload hx hb dL_law_574 (lv_at hl 0 rfl) ?_
  refine lv_iconst (v := 1) hx hb dL_law_576 (by decide) ?_
  refine lv_iadd hx hb dL_law_577 ?_
  refine va_sld (i := iv + 1) hx hb Z.2.2.1 Z.2.2.2.1 hbA hw.2.2.1 (lq_in hi hL (by decide) (by decide)) dL_law_578 ?_
  refine lq_callMi (av := [.int (xs (iv + 1 : Int32).toNatClampNeg)]) C hA hw (z_X10_out l D A2 cy hA.2.1 M2 hF2.1 hF2 (xs (iv + 1 : Int32).toNatClampNeg) tx9 s9 p9 u9 c9 hW9.1 hW9 hw9 h19 hkR9) ⟨ml_L_74, ym_X10_out, yv_X10_out, yi_X10_out, yc_X10_out⟩ yd_X10_out rfl rfl hl.1 (Nat.le_of_ble_eq_true rfl) ⟨by decide, by decide⟩ hcs dL_law_579 (fun rM N2 H locs hpM hw => ?_)
  refine lv_pop hx hb dL_law_582 rfl ?_
  have q := lq_sp hF1 hE0 hB0 hR hS htd1 htd2 hpT hpM (fun _ => rfl) (fun a b => a b) (fun a b => a b) (fun i y => ⟨_, _, _, _, _, _, _, lB_no hb9 i y⟩) (fun q g i x y => ⟨_, _, _, _, _, _, _, lB_st hb9 g i x y (wF_out hW9 hw9 q.1 q.2.1 q.2.2) ((rm_k ⟨by decide, by decide⟩).trans h19) (rm_k ⟨by decide, by decide⟩)⟩)
  refine lv_goto (tgt := 1521) hx hb dL_law_583 (by decide) ?_
  exact kk N1 N2 H locs ls hw q.2 hl
set_option maxRecDepth 100000 in
theorem lq_c11 {p : Program} {l : Launch} {e : Env} {s : State} {m : MethodId} {below : List Frame} {meth : Method} {c : Code} {D : va_G} {cy : Nat → ClassId} {A1 A2 : Nat → Nat → Nat} {M1 M2 : ti_M} {b q3 L cells slots : Nat} {iv : Int32} {xs : Nat → Int32} {H : Heap} {locs : List Loc} {ls : Array Slot} (Z : lq_Z p s m meth c D cy A1 A2 b L xs) (hcs : cells ≤ room_1.cells ∧ slots ≤ room_1.slots) (hw : lq_H s D cy A1 A2 q3 M1 M2 H locs) (hI : lq_I M1 M2) (hi : 0 ≤ iv.toInt ∧ iv.toInt + 6 ≤ L) (hl : lv_has ls 7 [(4, .int iv), (3, .ref q3), (2, .ref (A2 60 0)), (1, .ref (A1 0 0)), (0, .ref b)]) (kk : ∀ (M1 M2 : ti_M) (H : Heap) (locs : List Loc) (ls : Array Slot), lq_H s D cy A1 A2 q3 M1 M2 H locs → lq_I M1 M2 → lv_has ls 7 [(4, .int iv), (3, .ref q3), (2, .ref (A2 60 0)), (1, .ref (A1 0 0)), (0, .ref b)] → W p l e room_1 s m #[Value.ref b] below meth c H locs cells slots (lw_Z below #[Value.ref b] s) (F0 m 1521 ls [])) : W p l e room_1 s m #[Value.ref b] below meth c H locs cells slots (lw_Z below #[Value.ref b] s) (F0 m 586 ls []) := by
  have C := Z.1
  have hA := Z.2.1
  have hx := C.1
  have hb := C.2.1
  have hbA : ¬ lq_F s b := Nat.not_le.mpr Z.2.2.2.1
  have hL := Z.2.2.2.2.2.2.1
  have hE := Z.2.2.2.2.2.2.2
  obtain ⟨Tc, Tm, hF1, hF2, hE0, hB0, hR1, hR2, hS1, hS2, rg, htd1, htd2, hle⟩ := hI
  have hR := And.intro hR1 hR2
  have hS := And.intro hS1 hS2
  obtain ⟨t9, tx9, s9, p9, si9, u9, c9, hb9⟩ := id hle
  obtain ⟨ht9, hkC9, hkR9, hW9, ⟨hw9, h19⟩, hU9, hi9⟩ := id hb9
  have m9 : 0 ≤ s9 2 ∧ s9 2 ≤ 120 := by
    have b : ib 0 120 (tY M2 60 34 0) := hF2.1.2.1 34 0 (by decide)
    rw [hkR9.2.1.1.1]; exact b
  refine lv_aload_n hx hb dL_law_586 rfl (lv_at hl 3 rfl) ?_
  refine lv_aload_n hx hb dL_law_587 rfl (lv_at hl 4 rfl) ?_
  refine lv_iload hx hb dL_law_588 (lv_at hl 0 rfl) ?_
  refine lv_iconst (v := 1) hx hb dL_law_590 (by decide) ?_
  refine lv_iadd hx hb dL_law_591 ?_
  refine va_sld (i := iv + 1) hx hb Z.2.2.1 Z.2.2.2.1 hbA hw.2.2.1 (lq_in hi hL (by decide) (by decide)) dL_law_592 ?_
  refine lv_aload_n hx hb dL_law_593 rfl (lv_at hl 4 rfl) ?_
  refine lv_iload hx hb dL_law_594 (lv_at hl 0 rfl) ?_
  refine lv_iconst (v := 2) hx hb dL_law_596 (by decide) ?_
  refine lv_iadd hx hb dL_law_597 ?_
  refine va_sld (i := iv + 2) hx hb Z.2.2.1 Z.2.2.2.1 hbA hw.2.2.1 (lq_in hi hL (by decide) (by decide)) dL_law_598 ?_
  refine lv_aload_n hx hb dL_law_599 rfl (lv_at hl 4 rfl) ?_
  refine lv_iload hx hb dL_law_600 (lv_at hl 0 rfl) ?_
  refine lv_iconst (v := 3) hx hb dL_law_602 (by decide) ?_
  refine lv_iadd hx hb dL_law_603 ?_
  refine va_sld (i := iv + 3) hx hb Z.2.2.1 Z.2.2.2.1 hbA hw.2.2.1 (lq_in hi hL (by decide) (by decide)) dL_law_604 ?_
  refine lq_callTi (av := [.int (xs (iv + 1 : Int32).toNatClampNeg), .int (xs (iv + 2 : Int32).toNatClampNeg), .int (xs (iv + 3 : Int32).toNatClampNeg)]) C hA hw (z_X9_swap l D A1 cy hA.1 M1 hF1.1 hF1 t9 ht9 tx9 s9 p9 u9 c9 hkC9 (xs (iv + 1 : Int32).toNatClampNeg) (xs (iv + 2 : Int32).toNatClampNeg) (xs (iv + 3 : Int32).toNatClampNeg)) ⟨ml_L_75, ym_X9_swap, yv_X9_swap, yi_X9_swap, yc_X9_swap⟩ yd_X9_swap rfl rfl hl.1 (Nat.le_of_ble_eq_true rfl) ⟨by decide, by decide⟩ hcs dL_law_605 (fun rT N1 H locs hpT hw => ?_)
  refine lv_pop hx hb dL_law_608 rfl ?_
  refine lv_aload_n hx hb dL_law_609 rfl (lv_at hl 2 rfl) ?_
  refine lv_aload_n hx hb dL_law_610 rfl (lv_at hl 4 rfl) ?_
  refine lv_iload hx hb dL_law_611 (lv_at hl 0 rfl) ?_
  refine lv_iconst (v := 1) hx hb dL_law_613 (by decide) ?_
  refine lv_iadd hx hb dL_law_614 ?_
  refine va_sld (i := iv + 1) hx hb Z.2.2.1 Z.2.2.2.1 hbA hw.2.2.1 (lq_in hi hL (by decide) (by decide)) dL_law_615 ?_
  refine lv_aload_n hx hb dL_law_616 rfl (lv_at hl 4 rfl) ?_
  refine lv_iload hx hb dL_law_617 (lv_at hl 0 rfl) ?_
  refine lv_iconst (v := 2) hx hb dL_law_619 (by decide) ?_
  refine lv_iadd hx hb dL_law_620 ?_
  refine va_sld (i := iv + 2) hx hb Z.2.2.1 Z.2.2.2.1 hbA hw.2.2.1 (lq_in hi hL (by decide) (by decide)) dL_law_621 ?_
  refine lv_aload_n hx hb dL_law_622 rfl (lv_at hl 4 rfl) ?_
  refine lv_iload hx hb dL_law_623 (lv_at hl 0 rfl) ?_
  refine lv_iconst (v := 3) hx hb dL_law_625 (by decide) ?_
  refine lv_iadd hx hb dL_law_626 ?_
  refine va_sld (i := iv + 3) hx hb Z.2.2.1 Z.2.2.2.1 hbA hw.2.2.1 (lq_in hi hL (by decide) (by decide)) dL_law_627 ?_
  refine lq_callMi (av := [.int (xs (iv + 1 : Int32).toNatClampNeg), .int (xs (iv + 2 : Int32).toNatClampNeg), .int (xs (iv + 3 : Int32).toNatClampNeg)]) C hA hw (z_X10_swap l D A2 cy hA.2.1 M2 hF2.1 hF2 (xs (iv + 1 : Int32).toNatClampNeg) (xs (iv + 2 : Int32).toNatClampNeg) (xs (iv + 3 : Int32).toNatClampNeg) tx9 s9 p9 u9 c9 hW9.1 hW9 hw9 h19 hkR9) ⟨ml_L_79, ym_X10_swap, yv_X10_swap, yi_X10_swap, yc_X10_swap⟩ yd_X10_swap rfl rfl hl.1 (Nat.le_of_ble_eq_true rfl) ⟨by decide, by decide⟩ hcs dL_law_628 (fun rM N2 H locs hpM hw => ?_)
  refine lv_pop hx hb dL_law_631 rfl ?_
  have q := lq_sp hF1 hE0 hB0 hR hS htd1 htd2 hpT hpM (fun _ => rfl) (fun a b => a b) (fun a b => a b) (fun i y => ⟨_, _, _, _, _, _, _, lB_no hb9 i y⟩) (fun q g i x y => ⟨_, _, _, _, _, _, _, lB_st hb9 g i x y (wF_sw hW9 hw9 q.1.1 q.1.2.1 q.1.2.2 q.2.1.1 q.2.1.2.1 q.2.1.2.2) ((sw_lo (by decide)).trans h19) (sw_lo (by decide))⟩)
  refine lv_goto (tgt := 1521) hx hb dL_law_632 (by decide) ?_
  exact kk N1 N2 H locs ls hw q.2 hl
set_option maxRecDepth 100000 in
theorem lq_c12 {p : Program} {l : Launch} {e : Env} {s : State} {m : MethodId} {below : List Frame} {meth : Method} {c : Code} {D : va_G} {cy : Nat → ClassId} {A1 A2 : Nat → Nat → Nat} {M1 M2 : ti_M} {b q3 L cells slots : Nat} {iv : Int32} {xs : Nat → Int32} {H : Heap} {locs : List Loc} {ls : Array Slot} (Z : lq_Z p s m meth c D cy A1 A2 b L xs) (hcs : cells ≤ room_1.cells ∧ slots ≤ room_1.slots) (hw : lq_H s D cy A1 A2 q3 M1 M2 H locs) (hI : lq_I M1 M2) (hi : 0 ≤ iv.toInt ∧ iv.toInt + 6 ≤ L) (hl : lv_has ls 7 [(4, .int iv), (3, .ref q3), (2, .ref (A2 60 0)), (1, .ref (A1 0 0)), (0, .ref b)]) (kk : ∀ (M1 M2 : ti_M) (H : Heap) (locs : List Loc) (ls : Array Slot), lq_H s D cy A1 A2 q3 M1 M2 H locs → lq_I M1 M2 → lv_has ls 7 [(4, .int iv), (3, .ref q3), (2, .ref (A2 60 0)), (1, .ref (A1 0 0)), (0, .ref b)] → W p l e room_1 s m #[Value.ref b] below meth c H locs cells slots (lw_Z below #[Value.ref b] s) (F0 m 1521 ls [])) : W p l e room_1 s m #[Value.ref b] below meth c H locs cells slots (lw_Z below #[Value.ref b] s) (F0 m 635 ls []) := by
  have C := Z.1
  have hA := Z.2.1
  have hx := C.1
  have hb := C.2.1
  have hbA : ¬ lq_F s b := Nat.not_le.mpr Z.2.2.2.1
  have hL := Z.2.2.2.2.2.2.1
  have hE := Z.2.2.2.2.2.2.2
  obtain ⟨Tc, Tm, hF1, hF2, hE0, hB0, hR1, hR2, hS1, hS2, rg, htd1, htd2, hle⟩ := hI
  have hR := And.intro hR1 hR2
  have hS := And.intro hS1 hS2
  obtain ⟨t9, tx9, s9, p9, si9, u9, c9, hb9⟩ := id hle
  obtain ⟨ht9, hkC9, hkR9, hW9, ⟨hw9, h19⟩, hU9, hi9⟩ := id hb9
  have m9 : 0 ≤ s9 2 ∧ s9 2 ≤ 120 := by
    have b : ib 0 120 (tY M2 60 34 0) := hF2.1.2.1 34 0 (by decide)
    rw [hkR9.2.1.1.1]; exact b
  refine lv_aload_n hx hb dL_law_635 rfl (lv_at hl 3 rfl) ?_
  refine lv_aload_n hx hb dL_law_636 rfl (lv_at hl 4 rfl) ?_
  refine lv_iload hx hb dL_law_637 (lv_at hl 0 rfl) ?_
  refine lv_iconst (v := 1) hx hb dL_law_639 (by decide) ?_
  refine lv_iadd hx hb dL_law_640 ?_
  refine va_sld (i := iv + 1) hx hb Z.2.2.1 Z.2.2.2.1 hbA hw.2.2.1 (lq_in hi hL (by decide) (by decide)) dL_law_641 ?_
  refine lv_aload_n hx hb dL_law_642 rfl (lv_at hl 4 rfl) ?_
  refine lv_iload hx hb dL_law_643 (lv_at hl 0 rfl) ?_
  refine lv_iconst (v := 2) hx hb dL_law_645 (by decide) ?_
  refine lv_iadd hx hb dL_law_646 ?_
  refine va_sld (i := iv + 2) hx hb Z.2.2.1 Z.2.2.2.1 hbA hw.2.2.1 (lq_in hi hL (by decide) (by decide)) dL_law_647 ?_
  refine lq_callTi (av := [.int (xs (iv + 1 : Int32).toNatClampNeg), .int (xs (iv + 2 : Int32).toNatClampNeg)]) C hA hw (z_X9_kneel l D A1 cy hA.1 M1 hF1.1 hF1 t9 ht9 tx9 s9 p9 u9 c9 hkC9 (xs (iv + 1 : Int32).toNatClampNeg) (xs (iv + 2 : Int32).toNatClampNeg)) ⟨ml_L_80, ym_X9_kneel, yv_X9_kneel, yi_X9_kneel, yc_X9_kneel⟩ yd_X9_kneel rfl rfl hl.1 (Nat.le_of_ble_eq_true rfl) ⟨by decide, by decide⟩ hcs dL_law_648 (fun rT N1 H locs hpT hw => ?_)
  refine lv_pop hx hb dL_law_651 rfl ?_
  refine lv_aload_n hx hb dL_law_652 rfl (lv_at hl 2 rfl) ?_
  refine lv_aload_n hx hb dL_law_653 rfl (lv_at hl 4 rfl) ?_
  refine lv_iload hx hb dL_law_654 (lv_at hl 0 rfl) ?_
  refine lv_iconst (v := 1) hx hb dL_law_656 (by decide) ?_
  refine lv_iadd hx hb dL_law_657 ?_
  refine va_sld (i := iv + 1) hx hb Z.2.2.1 Z.2.2.2.1 hbA hw.2.2.1 (lq_in hi hL (by decide) (by decide)) dL_law_658 ?_
  refine lv_aload_n hx hb dL_law_659 rfl (lv_at hl 4 rfl) ?_
  refine lv_iload hx hb dL_law_660 (lv_at hl 0 rfl) ?_
  refine lv_iconst (v := 2) hx hb dL_law_662 (by decide) ?_
  refine lv_iadd hx hb dL_law_663 ?_
  refine va_sld (i := iv + 2) hx hb Z.2.2.1 Z.2.2.2.1 hbA hw.2.2.1 (lq_in hi hL (by decide) (by decide)) dL_law_664 ?_
  refine lq_callMi (av := [.int (xs (iv + 1 : Int32).toNatClampNeg), .int (xs (iv + 2 : Int32).toNatClampNeg)]) C hA hw (z_X10_kneel l D A2 cy hA.2.1 M2 hF2.1 hF2 (xs (iv + 1 : Int32).toNatClampNeg) (xs (iv + 2 : Int32).toNatClampNeg) tx9 s9 p9 u9 c9 hW9.1 hW9 hw9 h19 hkR9) ⟨ml_L_84, ym_X10_kneel, yv_X10_kneel, yi_X10_kneel, yc_X10_kneel⟩ yd_X10_kneel rfl rfl hl.1 (Nat.le_of_ble_eq_true rfl) ⟨by decide, by decide⟩ hcs dL_law_665 (fun rM N2 H locs hpM hw => ?_)
  refine lv_pop hx hb dL_law_668 rfl ?_
  have q := lq_sp hF1 hE0 hB0 hR hS htd1 htd2 hpT hpM (fun _ => rfl) (fun a b => a b) (fun a b => a b) (fun i y => ⟨_, _, _, _, _, _, _, lB_no hb9 i y⟩) (fun q g i x y => ⟨_, _, _, _, _, _, _, lB_st hb9 g i x y (wF_k hW9 hw9 (Or.inl (by have a1 := q.1; have a2 := q.2; have a3 := hW9.1; omega))) ((su_n (by omega)).trans h19) (su_n (by omega))⟩)
  refine lv_goto (tgt := 1521) hx hb dL_law_669 (by decide) ?_
  exact kk N1 N2 H locs ls hw q.2 hl
set_option maxRecDepth 100000 in
theorem lq_c13 {p : Program} {l : Launch} {e : Env} {s : State} {m : MethodId} {below : List Frame} {meth : Method} {c : Code} {D : va_G} {cy : Nat → ClassId} {A1 A2 : Nat → Nat → Nat} {M1 M2 : ti_M} {b q3 L cells slots : Nat} {iv : Int32} {xs : Nat → Int32} {H : Heap} {locs : List Loc} {ls : Array Slot} (Z : lq_Z p s m meth c D cy A1 A2 b L xs) (hcs : cells ≤ room_1.cells ∧ slots ≤ room_1.slots) (hw : lq_H s D cy A1 A2 q3 M1 M2 H locs) (hI : lq_I M1 M2) (hi : 0 ≤ iv.toInt ∧ iv.toInt + 6 ≤ L) (hl : lv_has ls 7 [(4, .int iv), (3, .ref q3), (2, .ref (A2 60 0)), (1, .ref (A1 0 0)), (0, .ref b)]) (kk : ∀ (M1 M2 : ti_M) (H : Heap) (locs : List Loc) (ls : Array Slot), lq_H s D cy A1 A2 q3 M1 M2 H locs → lq_I M1 M2 → lv_has ls 7 [(4, .int iv), (3, .ref q3), (2, .ref (A2 60 0)), (1, .ref (A1 0 0)), (0, .ref b)] → W p l e room_1 s m #[Value.ref b] below meth c H locs cells slots (lw_Z below #[Value.ref b] s) (F0 m 1521 ls [])) : W p l e room_1 s m #[Value.ref b] below meth c H locs cells slots (lw_Z below #[Value.ref b] s) (F0 m 672 ls []) := by
  have C := Z.1
  have hA := Z.2.1
  have hx := C.1
  have hb := C.2.1
  have hbA : ¬ lq_F s b := Nat.not_le.mpr Z.2.2.2.1
  have hL := Z.2.2.2.2.2.2.1
  have hE := Z.2.2.2.2.2.2.2
  obtain ⟨Tc, Tm, hF1, hF2, hE0, hB0, hR1, hR2, hS1, hS2, rg, htd1, htd2, hle⟩ := hI
  have hR := And.intro hR1 hR2
  have hS := And.intro hS1 hS2
  obtain ⟨t9, tx9, s9, p9, si9, u9, c9, hb9⟩ := id hle
  obtain ⟨ht9, hkC9, hkR9, hW9, ⟨hw9, h19⟩, hU9, hi9⟩ := id hb9
  have m9 : 0 ≤ s9 2 ∧ s9 2 ≤ 120 := by
    have b : ib 0 120 (tY M2 60 34 0) := hF2.1.2.1 34 0 (by decide)
    rw [hkR9.2.1.1.1]; exact b
  refine lv_aload_n hx hb dL_law_672 rfl (lv_at hl 3 rfl) ?_
  refine lv_aload_n hx hb dL_law_673 rfl (lv_at hl 4 rfl) ?_
  refine lv_iload hx hb dL_law_674 (lv_at hl 0 rfl) ?_
  refine lv_iconst (v := 1) hx hb dL_law_676 (by decide) ?_
  refine lv_iadd hx hb dL_law_677 ?_
  refine va_sld (i := iv + 1) hx hb Z.2.2.1 Z.2.2.2.1 hbA hw.2.2.1 (lq_in hi hL (by decide) (by decide)) dL_law_678 ?_
  refine lq_callTi (av := [.int (xs (iv + 1 : Int32).toNatClampNeg)]) C hA hw (z_X9_cough l D A1 cy hA.1 M1 hF1.1 hF1 t9 ht9 tx9 s9 p9 u9 c9 hkC9 (xs (iv + 1 : Int32).toNatClampNeg)) ⟨ml_L_85, ym_X9_cough, yv_X9_cough, yi_X9_cough, yc_X9_cough⟩ yd_X9_cough rfl rfl hl.1 (Nat.le_of_ble_eq_true rfl) ⟨by decide, by decide⟩ hcs dL_law_679 (fun rT N1 H locs hpT hw => ?_)
  refine lv_pop hx hb dL_law_682 rfl ?_
  refine lv_aload_n hx hb dL_law_683 rfl (lv_at hl 2 rfl) ?_
  refine lv_aload_n hx hb dL_law_684 rfl (lv_at hl 4 rfl) ?_
  refine lv_iload hx hb dL_law_685 (lv_at hl 0 rfl) ?_
  refine lv_iconst (v := 1) hx hb dL_law_687 (by decide) ?_
  refine lv_iadd hx hb dL_law_688 ?_
  refine va_sld (i := iv + 1) hx hb Z.2.2.1 Z.2.2.2.1 hbA hw.2.2.1 (lq_in hi hL (by decide) (by decide)) dL_law_689 ?_
  refine lq_callMi (av := [.int (xs (iv + 1 : Int32).toNatClampNeg)]) C hA hw (z_X10_cough l D A2 cy hA.2.1 M2 hF2.1 hF2 (xs (iv + 1 : Int32).toNatClampNeg) tx9 s9 p9 u9 c9 hW9.1 hW9 hw9 h19 hkR9) ⟨ml_L_88, ym_X10_cough, yv_X10_cough, yi_X10_cough, yc_X10_cough⟩ yd_X10_cough rfl rfl hl.1 (Nat.le_of_ble_eq_true rfl) ⟨by decide, by decide⟩ hcs dL_law_690 (fun rM N2 H locs hpM hw => ?_)
  refine lv_pop hx hb dL_law_693 rfl ?_
  have q := lq_sp hF1 hE0 hB0 hR hS htd1 htd2 hpT hpM (fun _ => rfl) (fun a b => a b) (fun a b => a b) (fun i y => ⟨_, _, _, _, _, _, _, lB_no hb9 i y⟩) (fun q g i x y => ⟨_, _, _, _, _, _, _, lB_st hb9 g i x y (wF_k hW9 hw9 (Or.inr (Or.inl (by have a1 := q.1; have a2 := q.2; have a3 := hW9.1; omega)))) ((su_n (by omega)).trans h19) (su_n (by omega))⟩)
  refine lv_goto (tgt := 1521) hx hb dL_law_694 (by decide) ?_
  exact kk N1 N2 H locs ls hw q.2 hl
set_option maxRecDepth 100000 in
theorem lq_c14 {p : Program} {l : Launch} {e : Env} {s : State} {m : MethodId} {below : List Frame} {meth : Method} {c : Code} {D : va_G} {cy : Nat → ClassId} {A1 A2 : Nat → Nat → Nat} {M1 M2 : ti_M} {b q3 L cells slots : Nat} {iv : Int32} {xs : Nat → Int32} {H : Heap} {locs : List Loc} {ls : Array Slot} (Z : lq_Z p s m meth c D cy A1 A2 b L xs) (hcs : cells ≤ room_1.cells ∧ slots ≤ room_1.slots) (hw : lq_H s D cy A1 A2 q3 M1 M2 H locs) (hI : lq_I M1 M2) (hi : 0 ≤ iv.toInt ∧ iv.toInt + 6 ≤ L) (hl : lv_has ls 7 [(4, .int iv), (3, .ref q3), (2, .ref (A2 60 0)), (1, .ref (A1 0 0)), (0, .ref b)]) (kk : ∀ (M1 M2 : ti_M) (H : Heap) (locs : List Loc) (ls : Array Slot), lq_H s D cy A1 A2 q3 M1 M2 H locs → lq_I M1 M2 → lv_has ls 7 [(4, .int iv), (3, .ref q3), (2, .ref (A2 60 0)), (1, .ref (A1 0 0)), (0, .ref b)] → W p l e room_1 s m #[Value.ref b] below meth c H locs cells slots (lw_Z below #[Value.ref b] s) (F0 m 1521 ls [])) : W p l e room_1 s m #[Value.ref b] below meth c H locs cells slots (lw_Z below #[Value.ref b] s) (F0 m 697 ls []) := by
  have C := Z.1
  have hA := Z.2.1
  have hx := C.1
  have hb := C.2.1
  have hbA : ¬ lq_F s b := Nat.not_le.mpr Z.2.2.2.1
  have hL := Z.2.2.2.2.2.2.1
  have hE := Z.2.2.2.2.2.2.2
  obtain ⟨Tc, Tm, hF1, hF2, hE0, hB0, hR1, hR2, hS1, hS2, rg, htd1, htd2, hle⟩ := hI
  have hR := And.intro hR1 hR2
  have hS := And.intro hS1 hS2
  obtain ⟨t9, tx9, s9, p9, si9, u9, c9, hb9⟩ := id hle
  obtain ⟨ht9, hkC9, hkR9, hW9, ⟨hw9, h19⟩, hU9, hi9⟩ := id hb9
  have m9 : 0 ≤ s9 2 ∧ s9 2 ≤ 120 := by
    have b : ib 0 120 (tY M2 60 34 0) := hF2.1.2.1 34 0 (by decide)
    rw [hkR9.2.1.1.1]; exact b
  refine lv_aload_n hx hb dL_law_697 rfl (lv_at hl 3 rfl) ?_
  refine lv_aload_n hx hb dL_law_698 rfl (lv_at hl 4 rfl) ?_
  refine lv_iload hx hb dL_law_699 (lv_at hl 0 rfl) ?_
  refine lv_iconst (v := 1) hx hb dL_law_701 (by decide) ?_
  refine lv_iadd hx hb dL_law_702 ?_
  refine va_sld (i := iv + 1) hx hb Z.2.2.1 Z.2.2.2.1 hbA hw.2.2.1 (lq_in hi hL (by decide) (by decide)) dL_law_703 ?_
  refine lv_aload_n hx hb dL_law_704 rfl (lv_at hl 4 rfl) ?_
  refine lv_iload hx hb dL_law_705 (lv_at hl 0 rfl) ?_
  refine lv_iconst (v := 2) hx hb dL_law_707 (by decide) ?_
  refine lv_iadd hx hb dL_law_708 ?_
  refine va_sld (i := iv + 2) hx hb Z.2.2.1 Z.2.2.2.1 hbA hw.2.2.1 (lq_in hi hL (by decide) (by decide)) dL_law_709 ?_
  refine lq_callTi (av := [.int (xs (iv + 1 : Int32).toNatClampNeg), .int (xs (iv + 2 : Int32).toNatClampNeg)]) C hA hw (z_X9_move l D A1 cy hA.1 M1 hF1.1 hF1 t9 ht9 tx9 s9 p9 u9 c9 hkC9 (xs (iv + 1 : Int32).toNatClampNeg) (xs (iv + 2 : Int32).toNatClampNeg)) ⟨ml_L_89, ym_X9_move, yv_X9_move, yi_X9_move, yc_X9_move⟩ yd_X9_move rfl rfl hl.1 (Nat.le_of_ble_eq_true rfl) ⟨by decide, by decide⟩ hcs dL_law_710 (fun rT N1 H locs hpT hw => ?_)
  refine lv_pop hx hb dL_law_713 rfl ?_
  refine lv_aload_n hx hb dL_law_714 rfl (lv_at hl 2 rfl) ?_
  refine lv_aload_n hx hb dL_law_715 rfl (lv_at hl 4 rfl) ?_
  refine lv_iload hx hb dL_law_716 (lv_at hl 0 rfl) ?_
  refine lv_iconst (v := 1) hx hb dL_law_718 (by decide) ?_
  refine lv_iadd hx hb dL_law_719 ?_
  refine va_sld (i := iv + 1) hx hb Z.2.2.1 Z.2.2.2.1 hbA hw.2.2.1 (lq_in hi hL (by decide) (by decide)) dL_law_720 ?_
  refine lv_aload_n hx hb dL_law_721 rfl (lv_at hl 4 rfl) ?_
  refine lv_iload hx hb dL_law_722 (lv_at hl 0 rfl) ?_
  refine lv_iconst (v := 2) hx hb dL_law_724 (by decide) ?_
  refine lv_iadd hx hb dL_law_725 ?_
  refine va_sld (i := iv + 2) hx hb Z.2.2.1 Z.2.2.2.1 hbA hw.2.2.1 (lq_in hi hL (by decide) (by decide)) dL_law_726 ?_
  refine lq_callMi (av := [.int (xs (iv + 1 : Int32).toNatClampNeg), .int (xs (iv + 2 : Int32).toNatClampNeg)]) C hA hw (z_X10_move l D A2 cy hA.2.1 M2 hF2.1 hF2 (xs (iv + 1 : Int32).toNatClampNeg) (xs (iv + 2 : Int32).toNatClampNeg) tx9 s9 p9 u9 c9 hW9.1 hW9 hw9 h19 hkR9) ⟨ml_L_92, ym_X10_move, yv_X10_move, yi_X10_move, yc_X10_move⟩ yd_X10_move rfl rfl hl.1 (Nat.le_of_ble_eq_true rfl) ⟨by decide, by decide⟩ hcs dL_law_727 (fun rM N2 H locs hpM hw => ?_)
  refine lv_pop hx hb dL_law_730 rfl ?_
  have q := lq_sp hF1 hE0 hB0 hR hS htd1 htd2 hpT hpM (fun _ => rfl) (fun a b => a b) (fun a b => a b) (fun i y => ⟨_, _, _, _, _, _, _, lB_no hb9 i y⟩) (fun q g i x y => ⟨_, _, _, _, _, _, _, lB_st hb9 g i x y (wF_k hW9 hw9 (Or.inr (Or.inr (by have a1 := q.1; have a2 := q.2; have a3 := hW9.1; omega)))) ((su_n (by omega)).trans h19) (su_n (by omega))⟩)
  refine lv_goto (tgt := 1521) hx hb dL_law_731 (by decide) ?_
  exact kk N1 N2 H locs ls hw q.2 hl
set_option maxRecDepth 100000 in
theorem lq_c15 {p : Program} {l : Launch} {e : Env} {s : State} {m : MethodId} {below : List Frame} {meth : Method} {c : Code} {D : va_G} {cy : Nat → ClassId} {A1 A2 : Nat → Nat → Nat} {M1 M2 : ti_M} {b q3 L cells slots : Nat} {iv : Int32} {xs : Nat → Int32} {H : Heap} {locs : List Loc} {ls : Array Slot} (Z : lq_Z p s m meth c D cy A1 A2 b L xs) (hcs : cells ≤ room_1.cells ∧ slots ≤ room_1.slots) (hw : lq_H s D cy A1 A2 q3 M1 M2 H locs) (hI : lq_I M1 M2) (hi : 0 ≤ iv.toInt ∧ iv.toInt + 6 ≤ L) (hl : lv_has ls 7 [(4, .int iv), (3, .ref q3), (2, .ref (A2 60 0)), (1, .ref (A1 0 0)), (0, .ref b)]) (kk : ∀ (M1 M2 : ti_M) (H : Heap) (locs : List Loc) (ls : Array Slot), lq_H s D cy A1 A2 q3 M1 M2 H locs → lq_I M1 M2 → lv_has ls 7 [(4, .int iv), (3, .ref q3), (2, .ref (A2 60 0)), (1, .ref (A1 0 0)), (0, .ref b)] → W p l e room_1 s m #[Value.ref b] below meth c H locs cells slots (lw_Z below #[Value.ref b] s) (F0 m 1521 ls [])) : W p l e room_1 s m #[Value.ref b] below meth c H locs cells slots (lw_Z below #[Value.ref b] s) (F0 m 734 ls []) := by
  have C := Z.1
  have hA := Z.2.1
  have hx := C.1
  have hb := C.2.1
  have hbA : ¬ lq_F s b := Nat.not_le.mpr Z.2.2.2.1
  have hL := Z.2.2.2.2.2.2.1
  have hE := Z.2.2.2.2.2.2.2
  obtain ⟨Tc, Tm, hF1, hF2, hE0, hB0, hR1, hR2, hS1, hS2, rg, htd1, htd2, hle⟩ := hI
  have hR := And.intro hR1 hR2
  have hS := And.intro hS1 hS2
  obtain ⟨t9, tx9, s9, p9, si9, u9, c9, hb9⟩ := id hle
  obtain ⟨ht9, hkC9, hkR9, hW9, ⟨hw9, h19⟩, hU9, hi9⟩ := id hb9
  have m9 : 0 ≤ s9 2 ∧ s9 2 ≤ 120 := by
    have b : ib 0 120 (tY M2 60 34 0) := hF2.1.2.1 34 0 (by decide)
    rw [hkR9.2.1.1.1]; exact b
  refine lv_aload_n hx hb dL_law_734 rfl (lv_at hl 3 rfl) ?_
  refine lv_aload_n hx hb dL_law_735 rfl (lv_at hl 4 rfl) ?_
  refine lv_iload hx hb dL_law_736 (lv_at hl 0 rfl) ?_
  refine lv_iconst (v := 1) hx hb dL_law_738 (by decide) ?_
  refine lv_iadd hx hb dL_law_739 ?_
  refine va_sld (i := iv + 1) hx hb Z.2.2.1 Z.2.2.2.1 hbA hw.2.2.1 (lq_in hi hL (by decide) (by decide)) dL_law_740 ?_
  refine lv_aload_n hx hb dL_law_741 rfl (lv_at hl 4 rfl) ?_
  refine lv_iload hx hb dL_law_742 (lv_at hl 0 rfl) ?_
  refine lv_iconst (v := 2) hx hb dL_law_744 (by decide) ?_
  refine lv_iadd hx hb dL_law_745 ?_
  refine va_sld (i := iv + 2) hx hb Z.2.2.1 Z.2.2.2.1 hbA hw.2.2.1 (lq_in hi hL (by decide) (by decide)) dL_law_746 ?_
  refine lq_callTi (av := [.int (xs (iv + 1 : Int32).toNatClampNeg), .int (xs (iv + 2 : Int32).toNatClampNeg)]) C hA hw (z_X9_was l D A1 cy hA.1 M1 hF1.1 hF1 t9 ht9 tx9 s9 p9 u9 c9 hkC9 (xs (iv + 1 : Int32).toNatClampNeg) (xs (iv + 2 : Int32).toNatClampNeg)) ⟨ml_L_93, ym_X9_was, yv_X9_was, yi_X9_was, yc_X9_was⟩ yd_X9_was rfl rfl hl.1 (Nat.le_of_ble_eq_true rfl) ⟨by decide, by decide⟩ hcs dL_law_747 (fun rT N1 H locs hpT hw => ?_)
  refine lv_pop hx hb dL_law_750 rfl ?_
  refine lv_aload_n hx hb dL_law_751 rfl (lv_at hl 2 rfl) ?_
  refine lv_aload_n hx hb dL_law_752 rfl (lv_at hl 4 rfl) ?_
  refine lv_iload hx hb dL_law_753 (lv_at hl 0 rfl) ?_
  refine lv_iconst (v := 1) hx hb dL_law_755 (by decide) ?_
  refine lv_iadd hx hb dL_law_756 ?_
  refine va_sld (i := iv + 1) hx hb Z.2.2.1 Z.2.2.2.1 hbA hw.2.2.1 (lq_in hi hL (by decide) (by decide)) dL_law_757 ?_
  refine lv_aload_n hx hb dL_law_758 rfl (lv_at hl 4 rfl) ?_
  refine lv_iload hx hb dL_law_759 (lv_at hl 0 rfl) ?_
  refine lv_iconst (v := 2) hx hb dL_law_761 (by decide) ?_
  refine lv_iadd hx hb dL_law_762 ?_
  refine va_sld (i := iv + 2) hx hb Z.2.2.1 Z.2.2.2.1 hbA hw.2.2.1 (lq_in hi hL (by decide) (by decide)) dL_law_763 ?_
  refine lq_callMi (av := [.int (xs (iv + 1 : Int32).toNatClampNeg), .int (xs (iv + 2 : Int32).toNatClampNeg)]) C hA hw (z_X10_was l D A2 cy hA.2.1 M2 hF2.1 hF2 (xs (iv + 1 : Int32).toNatClampNeg) (xs (iv + 2 : Int32).toNatClampNeg) tx9 s9 p9 u9 c9 hW9.1 hW9 hw9 h19 hkR9) ⟨ml_L_96, ym_X10_was, yv_X10_was, yi_X10_was, yc_X10_was⟩ yd_X10_was rfl rfl hl.1 (Nat.le_of_ble_eq_true rfl) ⟨by decide, by decide⟩ hcs dL_law_764 (fun rM N2 H locs hpM hw => ?_)
  refine lv_pop hx hb dL_law_767 rfl ?_
  have q := lq_ob hF1 hE0 hB0 hR hS htd1 htd2 hpT hpM rfl (fun i y => ⟨_, _, _, _, _, _, _, lB_no hb9 i y⟩)
  refine lv_goto (tgt := 1521) hx hb dL_law_768 (by decide) ?_
  exact kk N1 N2 H locs ls hw q.2 hl
set_option maxRecDepth 100000 in
theorem lq_c16 {p : Program} {l : Launch} {e : Env} {s : State} {m : MethodId} {below : List Frame} {meth : Method} {c : Code} {D : va_G} {cy : Nat → ClassId} {A1 A2 : Nat → Nat → Nat} {M1 M2 : ti_M} {b q3 L cells slots : Nat} {iv : Int32} {xs : Nat → Int32} {H : Heap} {locs : List Loc} {ls : Array Slot} (Z : lq_Z p s m meth c D cy A1 A2 b L xs) (hcs : cells ≤ room_1.cells ∧ slots ≤ room_1.slots) (hw : lq_H s D cy A1 A2 q3 M1 M2 H locs) (hI : lq_I M1 M2) (hi : 0 ≤ iv.toInt ∧ iv.toInt + 6 ≤ L) (hl : lv_has ls 7 [(4, .int iv), (3, .ref q3), (2, .ref (A2 60 0)), (1, .ref (A1 0 0)), (0, .ref b)]) (kk : ∀ (M1 M2 : ti_M) (H : Heap) (locs : List Loc) (ls : Array Slot), lq_H s D cy A1 A2 q3 M1 M2 H locs → lq_I M1 M2 → lv_has ls 7 [(4, .int iv), (3, .ref q3), (2, .ref (A2 60 0)), (1, .ref (A1 0 0)), (0, .ref b)] → W p l e room_1 s m #[Value.ref b] below meth c H locs cells slots (lw_Z below #[Value.ref b] s) (F0 m 1521 ls [])) : W p l e room_1 s m #[Value.ref b] below meth c H locs cells slots (lw_Z below #[Value.ref b] s) (F0 m 771 ls []) := by
  have C := Z.1
  have hA := Z.2.1
  have hx := C.1
  have hb := C.2.1
  have hbA : ¬ lq_F s b := Nat.not_le.mpr Z.2.2.2.1
  have hL := Z.2.2.2.2.2.2.1
  have hE := Z.2.2.2.2.2.2.2
  obtain ⟨Tc, Tm, hF1, hF2, hE0, hB0, hR1, hR2, hS1, hS2, rg, htd1, htd2, hle⟩ := hI
  have hR := And.intro hR1 hR2
  have hS := And.intro hS1 hS2
  refine lv_aload_n hx hb dL_law_771 rfl (lv_at hl 3 rfl) ?_
  refine lv_aload_n hx hb dL_law_772 rfl (lv_at hl 4 rfl) ?_
  refine lv_iload hx hb dL_law_773 (lv_at hl 0 rfl) ?_
  refine lv_iconst (v := 1) hx hb dL_law_775 (by decide) ?_
  refine lv_iadd hx hb dL_law_776 ?_
  refine va_sld (i := iv + 1) hx hb Z.2.2.1 Z.2.2.2.1 hbA hw.2.2.1 (lq_in hi hL (by decide) (by decide)) dL_law_777 ?_
  refine lv_aload_n hx hb dL_law_778 rfl (lv_at hl 4 rfl) ?_
  refine lv_iload hx hb dL_law_779 (lv_at hl 0 rfl) ?_
  refine lv_iconst (v := 2) hx hb dL_law_781 (by decide) ?_
  refine lv_iadd hx hb dL_law_782 ?_
  refine va_sld (i := iv + 2) hx hb Z.2.2.1 Z.2.2.2.1 hbA hw.2.2.1 (lq_in hi hL (by decide) (by decide)) dL_law_783 ?_
  refine lq_callTi (av := [.int (xs (iv + 1 : Int32).toNatClampNeg), .int (xs (iv + 2 : Int32).toNatClampNeg)]) C hA hw (f_X9_ruled l D A1 cy hA.1 M1 hF1.1 hF1 (xs (iv + 1 : Int32).toNatClampNeg) (xs (iv + 2 : Int32).toNatClampNeg)) ⟨ml_L_97, ym_X9_ruled, yv_X9_ruled, yi_X9_ruled, yc_X9_ruled⟩ yd_X9_ruled rfl rfl hl.1 (Nat.le_of_ble_eq_true rfl) ⟨by decide, by decide⟩ hcs dL_law_784 (fun rT N1 H locs hpT hw => ?_)
  refine lv_pop hx hb dL_law_787 rfl ?_
  refine lv_aload_n hx hb dL_law_788 rfl (lv_at hl 2 rfl) ?_
  refine lv_aload_n hx hb dL_law_789 rfl (lv_at hl 4 rfl) ?_
  refine lv_iload hx hb dL_law_790 (lv_at hl 0 rfl) ?_
  refine lv_iconst (v := 1) hx hb dL_law_792 (by decide) ?_
  refine lv_iadd hx hb dL_law_793 ?_
  refine va_sld (i := iv + 1) hx hb Z.2.2.1 Z.2.2.2.1 hbA hw.2.2.1 (lq_in hi hL (by decide) (by decide)) dL_law_794 ?_
  refine lv_aload_n hx hb dL_law_795 rfl (lv_at hl 4 rfl) ?_
  refine lv_iload hx hb dL_law_796 (lv_at hl 0 rfl) ?_
  refine lv_iconst (v := 2) hx hb dL_law_798 (by decide) ?_
  refine lv_iadd hx hb dL_law_799 ?_
  refine va_sld (i := iv + 2) hx hb Z.2.2.1 Z.2.2.2.1 hbA hw.2.2.1 (lq_in hi hL (by decide) (by decide)) dL_law_800 ?_
  refine lq_callMi (av := [.int (xs (iv + 1 : Int32).toNatClampNeg), .int (xs (iv + 2 : Int32).toNatClampNeg)]) C hA hw (f_X10_ruled l D A2 cy hA.2.1 M2 hF2.1 hF2 (xs (iv + 1 : Int32).toNatClampNeg) (xs (iv + 2 : Int32).toNatClampNeg)) ⟨ml_L_100, ym_X10_ruled, yv_X10_ruled, yi_X10_ruled, yc_X10_ruled⟩ yd_X10_ruled rfl rfl hl.1 (Nat.le_of_ble_eq_true rfl) ⟨by decide, by decide⟩ hcs dL_law_801 (fun rM N2 H locs hpM hw => ?_)
  refine lv_pop hx hb dL_law_804 rfl ?_
  refine lv_goto (tgt := 1521) hx hb dL_law_805 (by decide) ?_
  exact kk N1 N2 H locs ls hw ⟨Tc, Tm, hpT.2.2.1, hpM.2.1, hpT.2.2.2.1.trans (hE0.trans (show tI N2 60 2 = tI M2 60 2 from hpM.2.2.1).symm), (fun i hi => hB0 i (by rw [← hpT.2.2.2.1]; exact hi)), (congrArg Int32.toInt (hpT.2.2.2.2.1 1 4 (by decide) (by decide))).trans hR.1, (congrArg Int32.toInt (hpT.2.2.2.2.1 1 5 (by decide) (by decide))).trans hR.2, hS1, hS2, rg, tdC_tl htd1 hpT.2.2.2.2, tdR_lw htd2 hpM.2.2.2, lE_obs hle hpT.1 hpT.2.1 hpM.1.1 (fun q => hpM.1.2.trans q) hpM.2.2.2⟩ hl
set_option maxRecDepth 100000 in
theorem lq_c17 {p : Program} {l : Launch} {e : Env} {s : State} {m : MethodId} {below : List Frame} {meth : Method} {c : Code} {D : va_G} {cy : Nat → ClassId} {A1 A2 : Nat → Nat → Nat} {M1 M2 : ti_M} {b q3 L cells slots : Nat} {iv : Int32} {xs : Nat → Int32} {H : Heap} {locs : List Loc} {ls : Array Slot} (Z : lq_Z p s m meth c D cy A1 A2 b L xs) (hcs : cells ≤ room_1.cells ∧ slots ≤ room_1.slots) (hw : lq_H s D cy A1 A2 q3 M1 M2 H locs) (hI : lq_I M1 M2) (hi : 0 ≤ iv.toInt ∧ iv.toInt + 6 ≤ L) (hl : lv_has ls 7 [(4, .int iv), (3, .ref q3), (2, .ref (A2 60 0)), (1, .ref (A1 0 0)), (0, .ref b)]) (kk : ∀ (M1 M2 : ti_M) (H : Heap) (locs : List Loc) (ls : Array Slot), lq_H s D cy A1 A2 q3 M1 M2 H locs → lq_I M1 M2 → lv_has ls 7 [(4, .int iv), (3, .ref q3), (2, .ref (A2 60 0)), (1, .ref (A1 0 0)), (0, .ref b)] → W p l e room_1 s m #[Value.ref b] below meth c H locs cells slots (lw_Z below #[Value.ref b] s) (F0 m 1521 ls [])) : W p l e room_1 s m #[Value.ref b] below meth c H locs cells slots (lw_Z below #[Value.ref b] s) (F0 m 808 ls []) := by
  have C := Z.1
  have hA := Z.2.1
  have hx := C.1
  have hb := C.2.1
  have hbA : ¬ lq_F s b := Nat.not_le.mpr Z.2.2.2.1
  have hL := Z.2.2.2.2.2.2.1
  have hE := Z.2.2.2.2.2.2.2
  obtain ⟨Tc, Tm, hF1, hF2, hE0, hB0, hR1, hR2, hS1, hS2, rg, htd1, htd2, hle⟩ := hI
  have hR := And.intro hR1 hR2
  have hS := And.intro hS1 hS2
  refine lv_aload_n hx hb dL_law_808 rfl (lv_at hl 3 rfl) ?_
  refine lv_aload_n hx hb dL_law_809 rfl (lv_at hl 4 rfl) ?_
  refine lv_iload hx hb dL_law_810 (lv_at hl 0 rfl) ?_
  refine lv_iconst (v := 1) hx hb dL_law_812 (by decide) ?_
  refine lv_iadd hx hb dL_law_813 ?_
  refine va_sld (i := iv + 1) hx hb Z.2.2.1 Z.2.2.2.1 hbA hw.2.2.1 (lq_in hi hL (by decide) (by decide)) dL_law_814 ?_
  refine lq_callTi (av := [.int (xs (iv + 1 : Int32).toNatClampNeg)]) C hA hw (f_X9_served l D A1 cy hA.1 M1 hF1.1 hF1 (xs (iv + 1 : Int32).toNatClampNeg)) ⟨ml_L_101, ym_X9_served, yv_X9_served, yi_X9_served, yc_X9_served⟩ yd_X9_served rfl rfl hl.1 (Nat.le_of_ble_eq_true rfl) ⟨by decide, by decide⟩ hcs dL_law_815 (fun rT N1 H locs hpT hw => ?_)
  refine lv_pop hx hb dL_law_818 rfl ?_
  refine lv_aload_n hx hb dL_law_819 rfl (lv_at hl 2 rfl) ?_
  refine lv_aload_n hx hb dL_law_820 rfl (lv_at hl 4 rfl) ?_
  refine lv_iload hx hb dL_law_821 (lv_at hl 0 rfl) ?_
  refine lv_iconst (v := 1) hx hb dL_law_823 (by decide) ?_
  refine lv_iadd hx hb dL_law_824 ?_
  refine va_sld (i := iv + 1) hx hb Z.2.2.1 Z.2.2.2.1 hbA hw.2.2.1 (lq_in hi hL (by decide) (by decide)) dL_law_825 ?_
  refine lq_callMi (av := [.int (xs (iv + 1 : Int32).toNatClampNeg)]) C hA hw (f_X10_served l D A2 cy hA.2.1 M2 hF2.1 hF2 (xs (iv + 1 : Int32).toNatClampNeg)) ⟨ml_L_104, ym_X10_served, yv_X10_served, yi_X10_served, yc_X10_served⟩ yd_X10_served rfl rfl hl.1 (Nat.le_of_ble_eq_true rfl) ⟨by decide, by decide⟩ hcs dL_law_826 (fun rM N2 H locs hpM hw => ?_)
  refine lv_pop hx hb dL_law_829 rfl ?_
  refine lv_goto (tgt := 1521) hx hb dL_law_830 (by decide) ?_
  exact kk N1 N2 H locs ls hw ⟨Tc, Tm, hpT.2.2.1, hpM.2.1, hpT.2.2.2.1.trans (hE0.trans (show tI N2 60 2 = tI M2 60 2 from hpM.2.2.1).symm), (fun i hi => hB0 i (by rw [← hpT.2.2.2.1]; exact hi)), (congrArg Int32.toInt (hpT.2.2.2.2.1 1 4 (by decide) (by decide))).trans hR.1, (congrArg Int32.toInt (hpT.2.2.2.2.1 1 5 (by decide) (by decide))).trans hR.2, hS1, hS2, rg, tdC_tl htd1 hpT.2.2.2.2, tdR_lw htd2 hpM.2.2.2, lE_obs hle hpT.1 hpT.2.1 hpM.1.1 (fun q => hpM.1.2.trans q) hpM.2.2.2⟩ hl
set_option maxRecDepth 100000 in
theorem lq_c18 {p : Program} {l : Launch} {e : Env} {s : State} {m : MethodId} {below : List Frame} {meth : Method} {c : Code} {D : va_G} {cy : Nat → ClassId} {A1 A2 : Nat → Nat → Nat} {M1 M2 : ti_M} {b q3 L cells slots : Nat} {iv : Int32} {xs : Nat → Int32} {H : Heap} {locs : List Loc} {ls : Array Slot} (Z : lq_Z p s m meth c D cy A1 A2 b L xs) (hcs : cells ≤ room_1.cells ∧ slots ≤ room_1.slots) (hw : lq_H s D cy A1 A2 q3 M1 M2 H locs) (hI : lq_I M1 M2) (hi : 0 ≤ iv.toInt ∧ iv.toInt + 6 ≤ L) (hl : lv_has ls 7 [(4, .int iv), (3, .ref q3), (2, .ref (A2 60 0)), (1, .ref (A1 0 0)), (0, .ref b)]) (kk : ∀ (M1 M2 : ti_M) (H : Heap) (locs : List Loc) (ls : Array Slot), lq_H s D cy A1 A2 q3 M1 M2 H locs → lq_I M1 M2 → lv_has ls 7 [(4, .int iv), (3, .ref q3), (2, .ref (A2 60 0)), (1, .ref (A1 0 0)), (0, .ref b)] → W p l e room_1 s m #[Value.ref b] below meth c H locs cells slots (lw_Z below #[Value.ref b] s) (F0 m 1521 ls [])) : W p l e room_1 s m #[Value.ref b] below meth c H locs cells slots (lw_Z below #[Value.ref b] s) (F0 m 833 ls []) := by
  have C := Z.1
  have hA := Z.2.1
  have hx := C.1
  have hb := C.2.1
  have hbA : ¬ lq_F s b := Nat.not_le.mpr Z.2.2.2.1
  have hL := Z.2.2.2.2.2.2.1
  have hE := Z.2.2.2.2.2.2.2
  obtain ⟨Tc, Tm, hF1, hF2, hE0, hB0, hR1, hR2, hS1, hS2, rg, htd1, htd2, hle⟩ := hI
  have hR := And.intro hR1 hR2
  have hS := And.intro hS1 hS2
  refine lv_aload_n hx hb dL_law_833 rfl (lv_at hl 3 rfl) ?_
  refine lv_aload_n hx hb dL_law_834 rfl (lv_at hl 4 rfl) ?_
  refine lv_iload hx hb dL_law_835 (lv_at hl 0 rfl) ?_
  refine lv_iconst (v := 1) hx hb dL_law_837 (by decide) ?_
  refine lv_iadd hx hb dL_law_838 ?_
  refine va_sld (i := iv + 1) hx hb Z.2.2.1 Z.2.2.2.1 hbA hw.2.2.1 (lq_in hi hL (by decide) (by decide)) dL_law_839 ?_
  refine lv_aload_n hx hb dL_law_840 rfl (lv_at hl 4 rfl) ?_
  refine lv_iload hx hb dL_law_841 (lv_at hl 0 rfl) ?_
  refine lv_iconst (v := 2) hx hb dL_law_843 (by decide) ?_
  refine lv_iadd hx hb dL_law_844 ?_
  refine va_sld (i := iv + 2) hx hb Z.2.2.1 Z.2.2.2.1 hbA hw.2.2.1 (lq_in hi hL (by decide) (by decide)) dL_law_845 ?_
  refine lv_aload_n hx hb dL_law_846 rfl (lv_at hl 4 rfl) ?_
  refine lv_iload hx hb dL_law_847 (lv_at hl 0 rfl) ?_
  refine lv_iconst (v := 3) hx hb dL_law_849 (by decide) ?_
  refine lv_iadd hx hb dL_law_850 ?_
  refine va_sld (i := iv + 3) hx hb Z.2.2.1 Z.2.2.2.1 hbA hw.2.2.1 (lq_in hi hL (by decide) (by decide)) dL_law_851 ?_
  refine lq_callTi (av := [.int (xs (iv + 1 : Int32).toNatClampNeg), .int (xs (iv + 2 : Int32).toNatClampNeg), .int (xs (iv + 3 : Int32).toNatClampNeg)]) C hA hw (f_X9_coming l D A1 cy hA.1 M1 hF1.1 hF1 (xs (iv + 1 : Int32).toNatClampNeg) (xs (iv + 2 : Int32).toNatClampNeg) (xs (iv + 3 : Int32).toNatClampNeg)) ⟨ml_L_105, ym_X9_coming, yv_X9_coming, yi_X9_coming, yc_X9_coming⟩ yd_X9_coming rfl rfl hl.1 (Nat.le_of_ble_eq_true rfl) ⟨by decide, by decide⟩ hcs dL_law_852 (fun rT N1 H locs hpT hw => ?_)
  refine lv_pop hx hb dL_law_855 rfl ?_
  refine lv_aload_n hx hb dL_law_856 rfl (lv_at hl 2 rfl) ?_
  refine lv_aload_n hx hb dL_law_857 rfl (lv_at hl 4 rfl) ?_
  refine lv_iload hx hb dL_law_858 (lv_at hl 0 rfl) ?_
  refine lv_iconst (v := 1) hx hb dL_law_860 (by decide) ?_
  refine lv_iadd hx hb dL_law_861 ?_
  refine va_sld (i := iv + 1) hx hb Z.2.2.1 Z.2.2.2.1 hbA hw.2.2.1 (lq_in hi hL (by decide) (by decide)) dL_law_862 ?_
  refine lv_aload_n hx hb dL_law_863 rfl (lv_at hl 4 rfl) ?_
  refine lv_iload hx hb dL_law_864 (lv_at hl 0 rfl) ?_
  refine lv_iconst (v := 2) hx hb dL_law_866 (by decide) ?_
  refine lv_iadd hx hb dL_law_867 ?_
  refine va_sld (i := iv + 2) hx hb Z.2.2.1 Z.2.2.2.1 hbA hw.2.2.1 (lq_in hi hL (by decide) (by decide)) dL_law_868 ?_
  refine lv_aload_n hx hb dL_law_869 rfl (lv_at hl 4 rfl) ?_
  refine lv_iload hx hb dL_law_870 (lv_at hl 0 rfl) ?_
  refine lv_iconst (v := 3) hx hb dL_law_872 (by decide) ?_
  refine lv_iadd hx hb dL_law_873 ?_
  refine va_sld (i := iv + 3) hx hb Z.2.2.1 Z.2.2.2.1 hbA hw.2.2.1 (lq_in hi hL (by decide) (by decide)) dL_law_874 ?_
  refine lq_callMi (av := [.int (xs (iv + 1 : Int32).toNatClampNeg), .int (xs (iv + 2 : Int32).toNatClampNeg), .int (xs (iv + 3 : Int32).toNatClampNeg)]) C hA hw (f_X10_coming l D A2 cy hA.2.1 M2 hF2.1 hF2 (xs (iv + 1 : Int32).toNatClampNeg) (xs (iv + 2 : Int32).toNatClampNeg) (xs (iv + 3 : Int32).toNatClampNeg)) ⟨ml_L_109, ym_X10_coming, yv_X10_coming, yi_X10_coming, yc_X10_coming⟩ yd_X10_coming rfl rfl hl.1 (Nat.le_of_ble_eq_true rfl) ⟨by decide, by decide⟩ hcs dL_law_875 (fun rM N2 H locs hpM hw => ?_)
  refine lv_pop hx hb dL_law_878 rfl ?_
  refine lv_goto (tgt := 1521) hx hb dL_law_879 (by decide) ?_
  exact kk N1 N2 H locs ls hw ⟨Tc, Tm, hpT.2.2.1, hpM.2.1, hpT.2.2.2.1.trans (hE0.trans (show tI N2 60 2 = tI M2 60 2 from hpM.2.2.1).symm), (fun i hi => hB0 i (by rw [← hpT.2.2.2.1]; exact hi)), (congrArg Int32.toInt (hpT.2.2.2.2.1 1 4 (by decide) (by decide))).trans hR.1, (congrArg Int32.toInt (hpT.2.2.2.2.1 1 5 (by decide) (by decide))).trans hR.2, hS1, hS2, rg, tdC_tl htd1 hpT.2.2.2.2, tdR_lw htd2 hpM.2.2.2, lE_obs hle hpT.1 hpT.2.1 hpM.1.1 (fun q => hpM.1.2.trans q) hpM.2.2.2⟩ hl
set_option maxRecDepth 100000 in
theorem lq_c19 {p : Program} {l : Launch} {e : Env} {s : State} {m : MethodId} {below : List Frame} {meth : Method} {c : Code} {D : va_G} {cy : Nat → ClassId} {A1 A2 : Nat → Nat → Nat} {M1 M2 : ti_M} {b q3 L cells slots : Nat} {iv : Int32} {xs : Nat → Int32} {H : Heap} {locs : List Loc} {ls : Array Slot} (Z : lq_Z p s m meth c D cy A1 A2 b L xs) (hcs : cells ≤ room_1.cells ∧ slots ≤ room_1.slots) (hw : lq_H s D cy A1 A2 q3 M1 M2 H locs) (hI : lq_I M1 M2) (hi : 0 ≤ iv.toInt ∧ iv.toInt + 6 ≤ L) (hl : lv_has ls 7 [(4, .int iv), (3, .ref q3), (2, .ref (A2 60 0)), (1, .ref (A1 0 0)), (0, .ref b)]) (kk : ∀ (M1 M2 : ti_M) (H : Heap) (locs : List Loc) (ls : Array Slot), lq_H s D cy A1 A2 q3 M1 M2 H locs → lq_I M1 M2 → lv_has ls 7 [(4, .int iv), (3, .ref q3), (2, .ref (A2 60 0)), (1, .ref (A1 0 0)), (0, .ref b)] → W p l e room_1 s m #[Value.ref b] below meth c H locs cells slots (lw_Z below #[Value.ref b] s) (F0 m 1521 ls [])) : W p l e room_1 s m #[Value.ref b] below meth c H locs cells slots (lw_Z below #[Value.ref b] s) (F0 m 882 ls []) := by
  have C := Z.1
  have hA := Z.2.1
  have hx := C.1
  have hb := C.2.1
  have hbA : ¬ lq_F s b := Nat.not_le.mpr Z.2.2.2.1
  have hL := Z.2.2.2.2.2.2.1
  have hE := Z.2.2.2.2.2.2.2
  obtain ⟨Tc, Tm, hF1, hF2, hE0, hB0, hR1, hR2, hS1, hS2, rg, htd1, htd2, hle⟩ := hI
  have hR := And.intro hR1 hR2
  have hS := And.intro hS1 hS2
  refine lv_aload_n hx hb dL_law_882 rfl (lv_at hl 3 rfl) ?_
  refine lv_aload_n hx hb dL_law_883 rfl (lv_at hl 4 rfl) ?_
  refine lv_iload hx hb dL_law_884 (lv_at hl 0 rfl) ?_
  refine lv_iconst (v := 1) hx hb dL_law_886 (by decide) ?_
  refine lv_iadd hx hb dL_law_887 ?_
  refine va_sld (i := iv + 1) hx hb Z.2.2.1 Z.2.2.2.1 hbA hw.2.2.1 (lq_in hi hL (by decide) (by decide)) dL_law_888 ?_
  refine lv_aload_n hx hb dL_law_889 rfl (lv_at hl 4 rfl) ?_
  refine lv_iload hx hb dL_law_890 (lv_at hl 0 rfl) ?_
  refine lv_iconst (v := 2) hx hb dL_law_892 (by decide) ?_
  refine lv_iadd hx hb dL_law_893 ?_
  refine va_sld (i := iv + 2) hx hb Z.2.2.1 Z.2.2.2.1 hbA hw.2.2.1 (lq_in hi hL (by decide) (by decide)) dL_law_894 ?_
  refine lv_aload_n hx hb dL_law_895 rfl (lv_at hl 4 rfl) ?_
  refine lv_iload hx hb dL_law_896 (lv_at hl 0 rfl) ?_
  refine lv_iconst (v := 3) hx hb dL_law_898 (by decide) ?_
  refine lv_iadd hx hb dL_law_899 ?_
  refine va_sld (i := iv + 3) hx hb Z.2.2.1 Z.2.2.2.1 hbA hw.2.2.1 (lq_in hi hL (by decide) (by decide)) dL_law_900 ?_
  refine lq_callTi (av := [.int (xs (iv + 1 : Int32).toNatClampNeg), .int (xs (iv + 2 : Int32).toNatClampNeg), .int (xs (iv + 3 : Int32).toNatClampNeg)]) C hA hw (f_X9_decree l D A1 cy hA.1 M1 hF1.1 hF1 (xs (iv + 1 : Int32).toNatClampNeg) (xs (iv + 2 : Int32).toNatClampNeg) (xs (iv + 3 : Int32).toNatClampNeg)) ⟨ml_L_110, ym_X9_decree, yv_X9_decree, yi_X9_decree, yc_X9_decree⟩ yd_X9_decree rfl rfl hl.1 (Nat.le_of_ble_eq_true rfl) ⟨by decide, by decide⟩ hcs dL_law_901 (fun rT N1 H locs hpT hw => ?_)
  refine lv_pop hx hb dL_law_904 rfl ?_
  refine lv_aload_n hx hb dL_law_905 rfl (lv_at hl 2 rfl) ?_
  refine lv_aload_n hx hb dL_law_906 rfl (lv_at hl 4 rfl) ?_
  refine lv_iload hx hb dL_law_907 (lv_at hl 0 rfl) ?_
  refine lv_iconst (v := 1) hx hb dL_law_909 (by decide) ?_
  refine lv_iadd hx hb dL_law_910 ?_
  refine va_sld (i := iv + 1) hx hb Z.2.2.1 Z.2.2.2.1 hbA hw.2.2.1 (lq_in hi hL (by decide) (by decide)) dL_law_911 ?_
  refine lv_aload_n hx hb dL_law_912 rfl (lv_at hl 4 rfl) ?_
  refine lv_iload hx hb dL_law_913 (lv_at hl 0 rfl) ?_
  refine lv_iconst (v := 2) hx hb dL_law_915 (by decide) ?_
  refine lv_iadd hx hb dL_law_916 ?_
  refine va_sld (i := iv + 2) hx hb Z.2.2.1 Z.2.2.2.1 hbA hw.2.2.1 (lq_in hi hL (by decide) (by decide)) dL_law_917 ?_
  refine lv_aload_n hx hb dL_law_918 rfl (lv_at hl 4 rfl) ?_
  refine lv_iload hx hb dL_law_919 (lv_at hl 0 rfl) ?_
  refine lv_iconst (v := 3) hx hb dL_law_921 (by decide) ?_
  refine lv_iadd hx hb dL_law_922 ?_
  refine va_sld (i := iv + 3) hx hb Z.2.2.1 Z.2.2.2.1 hbA hw.2.2.1 (lq_in hi hL (by decide) (by decide)) dL_law_923 ?_
  refine lq_callMi (av := [.int (xs (iv + 1 : Int32).toNatClampNeg), .int (xs (iv + 2 : Int32).toNatClampNeg), .int (xs (iv + 3 : Int32).toNatClampNeg)]) C hA hw (f_X10_decree l D A2 cy hA.2.1 M2 hF2.1 hF2 (xs (iv + 1 : Int32).toNatClampNeg) (xs (iv + 2 : Int32).toNatClampNeg) (xs (iv + 3 : Int32).toNatClampNeg)) ⟨ml_L_113, ym_X10_decree, yv_X10_decree, yi_X10_decree, yc_X10_decree⟩ yd_X10_decree rfl rfl hl.1 (Nat.le_of_ble_eq_true rfl) ⟨by decide, by decide⟩ hcs dL_law_924 (fun rM N2 H locs hpM hw => ?_)
  refine lv_pop hx hb dL_law_927 rfl ?_
  refine lv_goto (tgt := 1521) hx hb dL_law_928 (by decide) ?_
  exact kk N1 N2 H locs ls hw ⟨Tc, Tm, hpT.2.2.1, hpM.2.1, hpT.2.2.2.1.trans (hE0.trans (show tI N2 60 2 = tI M2 60 2 from hpM.2.2.1).symm), (fun i hi => hB0 i (by rw [← hpT.2.2.2.1]; exact hi)), (congrArg Int32.toInt (hpT.2.2.2.2.1 1 4 (by decide) (by decide))).trans hR.1, (congrArg Int32.toInt (hpT.2.2.2.2.1 1 5 (by decide) (by decide))).trans hR.2, hS1, hS2, rg, tdC_tl htd1 hpT.2.2.2.2, tdR_lw htd2 hpM.2.2.2, lE_obs hle hpT.1 hpT.2.1 hpM.1.1 (fun q => hpM.1.2.trans q) hpM.2.2.2⟩ hl
set_option maxRecDepth 100000 in
theorem lq_c20 {p : Program} {l : Launch} {e : Env} {s : State} {m : MethodId} {below : List Frame} {meth : Method} {c : Code} {D : va_G} {cy : Nat → ClassId} {A1 A2 : Nat → Nat → Nat} {M1 M2 : ti_M} {b q3 L cells slots : Nat} {iv : Int32} {xs : Nat → Int32} {H : Heap} {locs : List Loc} {ls : Array Slot} (Z : lq_Z p s m meth c D cy A1 A2 b L xs) (hcs : cells ≤ room_1.cells ∧ slots ≤ room_1.slots) (hw : lq_H s D cy A1 A2 q3 M1 M2 H locs) (hI : lq_I M1 M2) (hi : 0 ≤ iv.toInt ∧ iv.toInt + 6 ≤ L) (hl : lv_has ls 7 [(4, .int iv), (3, .ref q3), (2, .ref (A2 60 0)), (1, .ref (A1 0 0)), (0, .ref b)]) (kk : ∀ (M1 M2 : ti_M) (H : Heap) (locs : List Loc) (ls : Array Slot), lq_H s D cy A1 A2 q3 M1 M2 H locs → lq_I M1 M2 → lv_has ls 7 [(4, .int iv), (3, .ref q3), (2, .ref (A2 60 0)), (1, .ref (A1 0 0)), (0, .ref b)] → W p l e room_1 s m #[Value.ref b] below meth c H locs cells slots (lw_Z below #[Value.ref b] s) (F0 m 1521 ls [])) : W p l e room_1 s m #[Value.ref b] below meth c H locs cells slots (lw_Z below #[Value.ref b] s) (F0 m 931 ls []) := by
  have C := Z.1
  have hA := Z.2.1
  have hx := C.1
  have hb := C.2.1
  have hbA : ¬ lq_F s b := Nat.not_le.mpr Z.2.2.2.1
  have hL := Z.2.2.2.2.2.2.1
  have hE := Z.2.2.2.2.2.2.2
  obtain ⟨Tc, Tm, hF1, hF2, hE0, hB0, hR1, hR2, hS1, hS2, rg, htd1, htd2, hle⟩ := hI
  have hR := And.intro hR1 hR2
  have hS := And.intro hS1 hS2
  refine lv_aload_n hx hb dL_law_931 rfl (lv_at hl 3 rfl) ?_
  refine lq_callTi (av := []) C hA hw (f_X9_coup l D A1 cy hA.1 M1 hF1.1 hF1) ⟨ml_L_114, ym_X9_coup, yv_X9_coup, yi_X9_coup, yc_X9_coup⟩ yd_X9_coup rfl rfl hl.1 (Nat.le_of_ble_eq_true rfl) ⟨by decide, by decide⟩ hcs dL_law_932 (fun rT N1 H locs hpT hw => ?_)
  refine lv_pop hx hb dL_law_935 rfl ?_
  refine lv_aload_n hx hb dL_law_936 rfl (lv_at hl 2 rfl) ?_
  refine lq_callMi (av := []) C hA hw (f_X10_coup l D A2 cy hA.2.1 M2 hF2.1 hF2) ⟨ml_L_117, ym_X10_coup, yv_X10_coup, yi_X10_coup, yc_X10_coup⟩ yd_X10_coup rfl rfl hl.1 (Nat.le_of_ble_eq_true rfl) ⟨by decide, by decide⟩ hcs dL_law_937 (fun rM N2 H locs hpM hw => ?_)
  refine lv_pop hx hb dL_law_940 rfl ?_
  refine lv_goto (tgt := 1521) hx hb dL_law_941 (by decide) ?_
  exact kk N1 N2 H locs ls hw ⟨Tc, Tm, hpT.2.2.1, hpM.2.1, hpT.2.2.2.1.trans (hE0.trans (show tI N2 60 2 = tI M2 60 2 from hpM.2.2.1).symm), (fun i hi => hB0 i (by rw [← hpT.2.2.2.1]; exact hi)), (congrArg Int32.toInt (hpT.2.2.2.2.1 1 4 (by decide) (by decide))).trans hR.1, (congrArg Int32.toInt (hpT.2.2.2.2.1 1 5 (by decide) (by decide))).trans hR.2, hS1, hS2, rg, tdC_tl htd1 hpT.2.2.2.2, tdR_lw htd2 hpM.2.2.2, lE_obs hle hpT.1 hpT.2.1 hpM.1.1 (fun q => hpM.1.2.trans q) hpM.2.2.2⟩ hl
set_option maxRecDepth 100000 in
theorem lq_c21 {p : Program} {l : Launch} {e : Env} {s : State} {m : MethodId} {below : List Frame} {meth : Method} {c : Code} {D : va_G} {cy : Nat → ClassId} {A1 A2 : Nat → Nat → Nat} {M1 M2 : ti_M} {b q3 L cells slots : Nat} {iv : Int32} {xs : Nat → Int32} {H : Heap} {locs : List Loc} {ls : Array Slot} (Z : lq_Z p s m meth c D cy A1 A2 b L xs) (hcs : cells ≤ room_1.cells ∧ slots ≤ room_1.slots) (hw : lq_H s D cy A1 A2 q3 M1 M2 H locs) (hI : lq_I M1 M2) (hi : 0 ≤ iv.toInt ∧ iv.toInt + 6 ≤ L) (hl : lv_has ls 7 [(4, .int iv), (3, .ref q3), (2, .ref (A2 60 0)), (1, .ref (A1 0 0)), (0, .ref b)]) (kk : ∀ (M1 M2 : ti_M) (H : Heap) (locs : List Loc) (ls : Array Slot), lq_H s D cy A1 A2 q3 M1 M2 H locs → lq_I M1 M2 → lv_has ls 7 [(4, .int iv), (3, .ref q3), (2, .ref (A2 60 0)), (1, .ref (A1 0 0)), (0, .ref b)] → W p l e room_1 s m #[Value.ref b] below meth c H locs cells slots (lw_Z below #[Value.ref b] s) (F0 m 1521 ls [])) : W p l e room_1 s m #[Value.ref b] below meth c H locs cells slots (lw_Z below #[Value.ref b] s) (F0 m 944 ls []) := by
  have C := Z.1
  have hA := Z.2.1
  have hx := C.1
  have hb := C.2.1
  have hbA : ¬ lq_F s b := Nat.not_le.mpr Z.2.2.2.1
  have hL := Z.2.2.2.2.2.2.1
  have hE := Z.2.2.2.2.2.2.2
  obtain ⟨Tc, Tm, hF1, hF2, hE0, hB0, hR1, hR2, hS1, hS2, rg, htd1, htd2, hle⟩ := hI
  have hR := And.intro hR1 hR2
  have hS := And.intro hS1 hS2
  refine lv_aload_n hx hb dL_law_944 rfl (lv_at hl 3 rfl) ?_
  refine lv_aload_n hx hb dL_law_945 rfl (lv_at hl 4 rfl) ?_
  refine lv_iload hx hb dL_law_946 (lv_at hl 0 rfl) ?_
  refine lv_iconst (v := 1) hx hb dL_law_948 (by decide) ?_
  refine lv_iadd hx hb dL_law_949 ?_
  refine va_sld (i := iv + 1) hx hb Z.2.2.1 Z.2.2.2.1 hbA hw.2.2.1 (lq_in hi hL (by decide) (by decide)) dL_law_950 ?_
  refine lv_aload_n hx hb dL_law_951 rfl (lv_at hl 4 rfl) ?_
  refine lv_iload hx hb dL_law_952 (lv_at hl 0 rfl) ?_
  refine lv_iconst (v := 2) hx hb dL_law_954 (by decide) ?_
  refine lv_iadd hx hb dL_law_955 ?_
  refine va_sld (i := iv + 2) hx hb Z.2.2.1 Z.2.2.2.1 hbA hw.2.2.1 (lq_in hi hL (by decide) (by decide)) dL_law_956 ?_
  refine lv_aload_n hx hb dL_law_957 rfl (lv_at hl 4 rfl) ?_
  refine lv_iload hx hb dL_law_958 (lv_at hl 0 rfl) ?_
  refine lv_iconst (v := 3) hx hb dL_law_960 (by decide) ?_
  refine lv_iadd hx hb dL_law_961 ?_
  refine va_sld (i := iv + 3) hx hb Z.2.2.1 Z.2.2.2.1 hbA hw.2.2.1 (lq_in hi hL (by decide) (by decide)) dL_law_962 ?_
  refine lq_callTi (av := [.int (xs (iv + 1 : Int32).toNatClampNeg), .int (xs (iv + 2 : Int32).toNatClampNeg), .int (xs (iv + 3 : Int32).toNatClampNeg)]) C hA hw (f_X9_rests l D A1 cy hA.1 M1 hF1.1 hF1 (xs (iv + 1 : Int32).toNatClampNeg) (xs (iv + 2 : Int32).toNatClampNeg) (xs (iv + 3 : Int32).toNatClampNeg)) ⟨ml_L_118, ym_X9_rests, yv_X9_rests, yi_X9_rests, yc_X9_rests⟩ yd_X9_rests rfl rfl hl.1 (Nat.le_of_ble_eq_true rfl) ⟨by decide, by decide⟩ hcs dL_law_963 (fun rT N1 H locs hpT hw => ?_)
  refine lv_pop hx hb dL_law_966 rfl ?_
  refine lv_aload_n hx hb dL_law_967 rfl (lv_at hl 2 rfl) ?_
  refine lv_aload_n hx hb dL_law_968 rfl (lv_at hl 4 rfl) ?_
  refine lv_iload hx hb dL_law_969 (lv_at hl 0 rfl) ?_
  refine lv_iconst (v := 1) hx hb dL_law_971 (by decide) ?_
  refine lv_iadd hx hb dL_law_972 ?_
  refine va_sld (i := iv + 1) hx hb Z.2.2.1 Z.2.2.2.1 hbA hw.2.2.1 (lq_in hi hL (by decide) (by decide)) dL_law_973 ?_
  refine lv_aload_n hx hb dL_law_974 rfl (lv_at hl 4 rfl) ?_
  refine lv_iload hx hb dL_law_975 (lv_at hl 0 rfl) ?_
  refine lv_iconst (v := 2) hx hb dL_law_977 (by decide) ?_
  refine lv_iadd hx hb dL_law_978 ?_
  refine va_sld (i := iv + 2) hx hb Z.2.2.1 Z.2.2.2.1 hbA hw.2.2.1 (lq_in hi hL (by decide) (by decide)) dL_law_979 ?_
  refine lv_aload_n hx hb dL_law_980 rfl (lv_at hl 4 rfl) ?_
  refine lv_iload hx hb dL_law_981 (lv_at hl 0 rfl) ?_
  refine lv_iconst (v := 3) hx hb dL_law_983 (by decide) ?_
  refine lv_iadd hx hb dL_law_984 ?_
  refine va_sld (i := iv + 3) hx hb Z.2.2.1 Z.2.2.2.1 hbA hw.2.2.1 (lq_in hi hL (by decide) (by decide)) dL_law_985 ?_
  refine lq_callMi (av := [.int (xs (iv + 1 : Int32).toNatClampNeg), .int (xs (iv + 2 : Int32).toNatClampNeg), .int (xs (iv + 3 : Int32).toNatClampNeg)]) C hA hw (f_X10_rests l D A2 cy hA.2.1 M2 hF2.1 hF2 (xs (iv + 1 : Int32).toNatClampNeg) (xs (iv + 2 : Int32).toNatClampNeg) (xs (iv + 3 : Int32).toNatClampNeg)) ⟨ml_L_121, ym_X10_rests, yv_X10_rests, yi_X10_rests, yc_X10_rests⟩ yd_X10_rests rfl rfl hl.1 (Nat.le_of_ble_eq_true rfl) ⟨by decide, by decide⟩ hcs dL_law_986 (fun rM N2 H locs hpM hw => ?_)
  refine lv_pop hx hb dL_law_989 rfl ?_
  refine lv_goto (tgt := 1521) hx hb dL_law_990 (by decide) ?_
  exact kk N1 N2 H locs ls hw ⟨Tc, Tm, hpT.2.2.1, hpM.2.1, hpT.2.2.2.1.trans (hE0.trans (show tI N2 60 2 = tI M2 60 2 from hpM.2.2.1).symm), (fun i hi => hB0 i (by rw [← hpT.2.2.2.1]; exact hi)), (congrArg Int32.toInt (hpT.2.2.2.2.1 1 4 (by decide) (by decide))).trans hR.1, (congrArg Int32.toInt (hpT.2.2.2.2.1 1 5 (by decide) (by decide))).trans hR.2, hS1, hS2, rg, tdC_tl htd1 hpT.2.2.2.2, tdR_lw htd2 hpM.2.2.2, lE_obs hle hpT.1 hpT.2.1 hpM.1.1 (fun q => hpM.1.2.trans q) hpM.2.2.2⟩ hl
set_option maxRecDepth 100000 in
theorem lq_c22 {p : Program} {l : Launch} {e : Env} {s : State} {m : MethodId} {below : List Frame} {meth : Method} {c : Code} {D : va_G} {cy : Nat → ClassId} {A1 A2 : Nat → Nat → Nat} {M1 M2 : ti_M} {b q3 L cells slots : Nat} {iv : Int32} {xs : Nat → Int32} {H : Heap} {locs : List Loc} {ls : Array Slot} (Z : lq_Z p s m meth c D cy A1 A2 b L xs) (hcs : cells ≤ room_1.cells ∧ slots ≤ room_1.slots) (hw : lq_H s D cy A1 A2 q3 M1 M2 H locs) (hI : lq_I M1 M2) (hi : 0 ≤ iv.toInt ∧ iv.toInt + 6 ≤ L) (hl : lv_has ls 7 [(4, .int iv), (3, .ref q3), (2, .ref (A2 60 0)), (1, .ref (A1 0 0)), (0, .ref b)]) (kk : ∀ (M1 M2 : ti_M) (H : Heap) (locs : List Loc) (ls : Array Slot), lq_H s D cy A1 A2 q3 M1 M2 H locs → lq_I M1 M2 → lv_has ls 7 [(4, .int iv), (3, .ref q3), (2, .ref (A2 60 0)), (1, .ref (A1 0 0)), (0, .ref b)] → W p l e room_1 s m #[Value.ref b] below meth c H locs cells slots (lw_Z below #[Value.ref b] s) (F0 m 1521 ls [])) : W p l e room_1 s m #[Value.ref b] below meth c H locs cells slots (lw_Z below #[Value.ref b] s) (F0 m 993 ls []) := by
  have C := Z.1
  have hA := Z.2.1
  have hx := C.1
  have hb := C.2.1
  have hbA : ¬ lq_F s b := Nat.not_le.mpr Z.2.2.2.1
  have hL := Z.2.2.2.2.2.2.1
  have hE := Z.2.2.2.2.2.2.2
  obtain ⟨Tc, Tm, hF1, hF2, hE0, hB0, hR1, hR2, hS1, hS2, rg, htd1, htd2, hle⟩ := hI
  have hR := And.intro hR1 hR2
  have hS := And.intro hS1 hS2
  refine lv_aload_n hx hb dL_law_993 rfl (lv_at hl 3 rfl) ?_
  refine lv_aload_n hx hb dL_law_994 rfl (lv_at hl 4 rfl) ?_
  refine lv_iload hx hb dL_law_995 (lv_at hl 0 rfl) ?_
  refine lv_iconst (v := 1) hx hb dL_law_997 (by decide) ?_
  refine lv_iadd hx hb dL_law_998 ?_
  refine va_sld (i := iv + 1) hx hb Z.2.2.1 Z.2.2.2.1 hbA hw.2.2.1 (lq_in hi hL (by decide) (by decide)) dL_law_999 ?_
  refine lv_aload_n hx hb dL_law_1000 rfl (lv_at hl 4 rfl) ?_
  refine lv_iload hx hb dL_law_1001 (lv_at hl 0 rfl) ?_
  refine lv_iconst (v := 2) hx hb dL_law_1003 (by decide) ?_
  refine lv_iadd hx hb dL_law_1004 ?_
  refine va_sld (i := iv + 2) hx hb Z.2.2.1 Z.2.2.2.1 hbA hw.2.2.1 (lq_in hi hL (by decide) (by decide)) dL_law_1005 ?_
  refine lv_aload_n hx hb dL_law_1006 rfl (lv_at hl 4 rfl) ?_
  refine lv_iload hx hb dL_law_1007 (lv_at hl 0 rfl) ?_
  refine lv_iconst (v := 3) hx hb dL_law_1009 (by decide) ?_
  refine lv_iadd hx hb dL_law_1010 ?_
  refine va_sld (i := iv + 3) hx hb Z.2.2.1 Z.2.2.2.1 hbA hw.2.2.1 (lq_in hi hL (by decide) (by decide)) dL_law_1011 ?_
  refine lv_aload_n hx hb dL_law_1012 rfl (lv_at hl 4 rfl) ?_
  refine lv_iload hx hb dL_law_1013 (lv_at hl 0 rfl) ?_
  refine lv_iconst (v := 4) hx hb dL_law_1015 (by decide) ?_
  refine lv_iadd hx hb dL_law_1016 ?_
  refine va_sld (i := iv + 4) hx hb Z.2.2.1 Z.2.2.2.1 hbA hw.2.2.1 (lq_in hi hL (by decide) (by decide)) dL_law_1017 ?_
  refine lq_callTi (av := [.int (xs (iv + 1 : Int32).toNatClampNeg), .int (xs (iv + 2 : Int32).toNatClampNeg), .int (xs (iv + 3 : Int32).toNatClampNeg), .int (xs (iv + 4 : Int32).toNatClampNeg)]) C hA hw (f_X9_rest l D A1 cy hA.1 M1 hF1.1 hF1 (xs (iv + 1 : Int32).toNatClampNeg) (xs (iv + 2 : Int32).toNatClampNeg) (xs (iv + 3 : Int32).toNatClampNeg) (xs (iv + 4 : Int32).toNatClampNeg)) ⟨ml_L_122, ym_X9_rest, yv_X9_rest, yi_X9_rest, yc_X9_rest⟩ yd_X9_rest rfl rfl hl.1 (Nat.le_of_ble_eq_true rfl) ⟨by decide, by decide⟩ hcs dL_law_1018 (fun rT N1 H locs hpT hw => ?_)
  refine lv_pop hx hb dL_law_1021 rfl ?_
  refine lv_aload_n hx hb dL_law_1022 rfl (lv_at hl 2 rfl) ?_
  refine lv_aload_n hx hb dL_law_1023 rfl (lv_at hl 4 rfl) ?_
  refine lv_iload hx hb dL_law_1024 (lv_at hl 0 rfl) ?_
  refine lv_iconst (v := 1) hx hb dL_law_1026 (by decide) ?_
  refine lv_iadd hx hb dL_law_1027 ?_
  refine va_sld (i := iv + 1) hx hb Z.2.2.1 Z.2.2.2.1 hbA hw.2.2.1 (lq_in hi hL (by decide) (by decide)) dL_law_1028 ?_
  refine lv_aload_n hx hb dL_law_1029 rfl (lv_at hl 4 rfl) ?_
  refine lv_iload hx hb dL_law_1030 (lv_at hl 0 rfl) ?_
  refine lv_iconst (v := 2) hx hb dL_law_1032 (by decide) ?_
  refine lv_iadd hx hb dL_law_1033 ?_
  refine va_sld (i := iv + 2) hx hb Z.2.2.1 Z.2.2.2.1 hbA hw.2.2.1 (lq_in hi hL (by decide) (by decide)) dL_law_1034 ?_
  refine lv_aload_n hx hb dL_law_1035 rfl (lv_at hl 4 rfl) ?_
  refine lv_iload hx hb dL_law_1036 (lv_at hl 0 rfl) ?_
  refine lv_iconst (v := 3) hx hb dL_law_1038 (by decide) ?_
  refine lv_iadd hx hb dL_law_1039 ?_
  refine va_sld (i := iv + 3) hx hb Z.2.2.1 Z.2.2.2.1 hbA hw.2.2.1 (lq_in hi hL (by decide) (by decide)) dL_law_1040 ?_
  refine lv_aload_n hx hb dL_law_1041 rfl (lv_at hl 4 rfl) ?_
  refine lv_iload hx hb dL_law_1042 (lv_at hl 0 rfl) ?_
  refine lv_iconst (v := 4) hx hb dL_law_1044 (by decide) ?_
  refine lv_iadd hx hb dL_law_1045 ?_
  refine va_sld (i := iv + 4) hx hb Z.2.2.1 Z.2.2.2.1 hbA hw.2.2.1 (lq_in hi hL (by decide) (by decide)) dL_law_1046 ?_
  refine lq_callMi (av := [.int (xs (iv + 1 : Int32).toNatClampNeg), .int (xs (iv + 2 : Int32).toNatClampNeg), .int (xs (iv + 3 : Int32).toNatClampNeg), .int (xs (iv + 4 : Int32).toNatClampNeg)]) C hA hw (f_X10_rest l D A2 cy hA.2.1 M2 hF2.1 hF2 (xs (iv + 1 : Int32).toNatClampNeg) (xs (iv + 2 : Int32).toNatClampNeg) (xs (iv + 3 : Int32).toNatClampNeg) (xs (iv + 4 : Int32).toNatClampNeg)) ⟨ml_L_126, ym_X10_rest, yv_X10_rest, yi_X10_rest, yc_X10_rest⟩ yd_X10_rest rfl rfl hl.1 (Nat.le_of_ble_eq_true rfl) ⟨by decide, by decide⟩ hcs dL_law_1047 (fun rM N2 H locs hpM hw => ?_)
  refine lv_pop hx hb dL_law_1050 rfl ?_
  refine lv_goto (tgt := 1521) hx hb dL_law_1051 (by decide) ?_
  exact kk N1 N2 H locs ls hw ⟨Tc, Tm, hpT.2.2.1, hpM.2.1, hpT.2.2.2.1.trans (hE0.trans (show tI N2 60 2 = tI M2 60 2 from hpM.2.2.1).symm), (fun i hi => hB0 i (by rw [← hpT.2.2.2.1]; exact hi)), (congrArg Int32.toInt (hpT.2.2.2.2.1 1 4 (by decide) (by decide))).trans hR.1, (congrArg Int32.toInt (hpT.2.2.2.2.1 1 5 (by decide) (by decide))).trans hR.2, hS1, hS2, rg, tdC_tl htd1 hpT.2.2.2.2, tdR_lw htd2 hpM.2.2.2, lE_obs hle hpT.1 hpT.2.1 hpM.1.1 (fun q => hpM.1.2.trans q) hpM.2.2.2⟩ hl
set_option maxRecDepth 100000 in
theorem lq_c23 {p : Program} {l : Launch} {e : Env} {s : State} {m : MethodId} {below : List Frame} {meth : Method} {c : Code} {D : va_G} {cy : Nat → ClassId} {A1 A2 : Nat → Nat → Nat} {M1 M2 : ti_M} {b q3 L cells slots : Nat} {iv : Int32} {xs : Nat → Int32} {H : Heap} {locs : List Loc} {ls : Array Slot} (Z : lq_Z p s m meth c D cy A1 A2 b L xs) (hcs : cells ≤ room_1.cells ∧ slots ≤ room_1.slots) (hw : lq_H s D cy A1 A2 q3 M1 M2 H locs) (hI : lq_I M1 M2) (hi : 0 ≤ iv.toInt ∧ iv.toInt + 6 ≤ L) (hl : lv_has ls 7 [(4, .int iv), (3, .ref q3), (2, .ref (A2 60 0)), (1, .ref (A1 0 0)), (0, .ref b)]) (kk : ∀ (M1 M2 : ti_M) (H : Heap) (locs : List Loc) (ls : Array Slot), lq_H s D cy A1 A2 q3 M1 M2 H locs → lq_I M1 M2 → lv_has ls 7 [(4, .int iv), (3, .ref q3), (2, .ref (A2 60 0)), (1, .ref (A1 0 0)), (0, .ref b)] → W p l e room_1 s m #[Value.ref b] below meth c H locs cells slots (lw_Z below #[Value.ref b] s) (F0 m 1521 ls [])) : W p l e room_1 s m #[Value.ref b] below meth c H locs cells slots (lw_Z below #[Value.ref b] s) (F0 m 1054 ls []) := by
  have C := Z.1
  have hA := Z.2.1
  have hx := C.1
  have hb := C.2.1
  have hbA : ¬ lq_F s b := Nat.not_le.mpr Z.2.2.2.1
  have hL := Z.2.2.2.2.2.2.1
  have hE := Z.2.2.2.2.2.2.2
  obtain ⟨Tc, Tm, hF1, hF2, hE0, hB0, hR1, hR2, hS1, hS2, rg, htd1, htd2, hle⟩ := hI
  have hR := And.intro hR1 hR2
  have hS := And.intro hS1 hS2
  refine lv_aload_n hx hb dL_law_1054 rfl (lv_at hl 3 rfl) ?_
  refine lv_aload_n hx hb dL_law_1055 rfl (lv_at hl 4 rfl) ?_
  refine lv_iload hx hb dL_law_1056 (lv_at hl 0 rfl) ?_
  refine lv_iconst (v := 1) hx hb dL_law_1058 (by decide) ?_
  refine lv_iadd hx hb dL_law_1059 ?_
  refine va_sld (i := iv + 1) hx hb Z.2.2.1 Z.2.2.2.1 hbA hw.2.2.1 (lq_in hi hL (by decide) (by decide)) dL_law_1060 ?_
  refine lv_aload_n hx hb dL_law_1061 rfl (lv_at hl 4 rfl) ?_
  refine lv_iload hx hb dL_law_1062 (lv_at hl 0 rfl) ?_
  refine lv_iconst (v := 2) hx hb dL_law_1064 (by decide) ?_
  refine lv_iadd hx hb dL_law_1065 ?_
  refine va_sld (i := iv + 2) hx hb Z.2.2.1 Z.2.2.2.1 hbA hw.2.2.1 (lq_in hi hL (by decide) (by decide)) dL_law_1066 ?_
  refine lv_aload_n hx hb dL_law_1067 rfl (lv_at hl 4 rfl) ?_
  refine lv_iload hx hb dL_law_1068 (lv_at hl 0 rfl) ?_
  refine lv_iconst (v := 3) hx hb dL_law_1070 (by decide) ?_
  refine lv_iadd hx hb dL_law_1071 ?_
  refine va_sld (i := iv + 3) hx hb Z.2.2.1 Z.2.2.2.1 hbA hw.2.2.1 (lq_in hi hL (by decide) (by decide)) dL_law_1072 ?_
  refine lv_aload_n hx hb dL_law_1073 rfl (lv_at hl 4 rfl) ?_
  refine lv_iload hx hb dL_law_1074 (lv_at hl 0 rfl) ?_
  refine lv_iconst (v := 4) hx hb dL_law_1076 (by decide) ?_
  refine lv_iadd hx hb dL_law_1077 ?_
  refine va_sld (i := iv + 4) hx hb Z.2.2.1 Z.2.2.2.1 hbA hw.2.2.1 (lq_in hi hL (by decide) (by decide)) dL_law_1078 ?_
  refine lq_callTi (av := [.int (xs (iv + 1 : Int32).toNatClampNeg), .int (xs (iv + 2 : Int32).toNatClampNeg), .int (xs (iv + 3 : Int32).toNatClampNeg), .int (xs (iv + 4 : Int32).toNatClampNeg)]) C hA hw (f_X9_best l D A1 cy hA.1 M1 hF1.1 hF1 (xs (iv + 1 : Int32).toNatClampNeg) (xs (iv + 2 : Int32).toNatClampNeg) (xs (iv + 3 : Int32).toNatClampNeg) (xs (iv + 4 : Int32).toNatClampNeg)) ⟨ml_L_127, ym_X9_best, yv_X9_best, yi_X9_best, yc_X9_best⟩ yd_X9_best rfl rfl hl.1 (Nat.le_of_ble_eq_true rfl) ⟨by decide, by decide⟩ hcs dL_law_1079 (fun rT N1 H locs hpT hw => ?_)
  refine lv_pop hx hb dL_law_1082 rfl ?_
  refine lv_aload_n hx hb dL_law_1083 rfl (lv_at hl 2 rfl) ?_
  refine lv_aload_n hx hb dL_law_1084 rfl (lv_at hl 4 rfl) ?_
  refine lv_iload hx hb dL_law_1085 (lv_at hl 0 rfl) ?_
  refine lv_iconst (v := 1) hx hb dL_law_1087 (by decide) ?_
  refine lv_iadd hx hb dL_law_1088 ?_
  refine va_sld (i := iv + 1) hx hb Z.2.2.1 Z.2.2.2.1 hbA hw.2.2.1 (lq_in hi hL (by decide) (by decide)) dL_law_1089 ?_
  refine lv_aload_n hx hb dL_law_1090 rfl (lv_at hl 4 rfl) ?_
  refine lv_iload hx hb dL_law_1091 (lv_at hl 0 rfl) ?_
  refine lv_iconst (v := 2) hx hb dL_law_1093 (by decide) ?_
  refine lv_iadd hx hb dL_law_1094 ?_
  refine va_sld (i := iv + 2) hx hb Z.2.2.1 Z.2.2.2.1 hbA hw.2.2.1 (lq_in hi hL (by decide) (by decide)) dL_law_1095 ?_
  refine lv_aload_n hx hb dL_law_1096 rfl (lv_at hl 4 rfl) ?_
  refine lv_iload hx hb dL_law_1097 (lv_at hl 0 rfl) ?_
  refine lv_iconst (v := 3) hx hb dL_law_1099 (by decide) ?_
  refine lv_iadd hx hb dL_law_1100 ?_
  refine va_sld (i := iv + 3) hx hb Z.2.2.1 Z.2.2.2.1 hbA hw.2.2.1 (lq_in hi hL (by decide) (by decide)) dL_law_1101 ?_
  refine lv_aload_n hx hb dL_law_1102 rfl (lv_at hl 4 rfl) ?_
  refine lv_iload hx hb dL_law_1103 (lv_at hl 0 rfl) ?_
  refine lv_iconst (v := 4) hx hb dL_law_1105 (by decide) ?_
  refine lv_iadd hx hb dL_law_1106 ?_
  refine va_sld (i := iv + 4) hx hb Z.2.2.1 Z.2.2.2.1 hbA hw.2.2.1 (lq_in hi hL (by decide) (by decide)) dL_law_1107 ?_
  refine lq_callMi (av := [.int (xs (iv + 1 : Int32).toNatClampNeg), .int (xs (iv + 2 : Int32).toNatClampNeg), .int (xs (iv + 3 : Int32).toNatClampNeg), .int (xs (iv + 4 : Int32).toNatClampNeg)]) C hA hw (f_X10_best l D A2 cy hA.2.1 M2 hF2.1 hF2 (xs (iv + 1 : Int32).toNatClampNeg) (xs (iv + 2 : Int32).toNatClampNeg) (xs (iv + 3 : Int32).toNatClampNeg) (xs (iv + 4 : Int32).toNatClampNeg)) ⟨ml_L_130, ym_X10_best, yv_X10_best, yi_X10_best, yc_X10_best⟩ yd_X10_best rfl rfl hl.1 (Nat.le_of_ble_eq_true rfl) ⟨by decide, by decide⟩ hcs dL_law_1108 (fun rM N2 H locs hpM hw => ?_)
  refine lv_pop hx hb dL_law_1111 rfl ?_
  refine lv_goto (tgt := 1521) hx hb dL_law_1112 (by decide) ?_
  exact kk N1 N2 H locs ls hw ⟨Tc, Tm, hpT.2.2.1, hpM.2.1, hpT.2.2.2.1.trans (hE0.trans (show tI N2 60 2 = tI M2 60 2 from hpM.2.2.1).symm), (fun i hi => hB0 i (by rw [← hpT.2.2.2.1]; exact hi)), (congrArg Int32.toInt (hpT.2.2.2.2.1 1 4 (by decide) (by decide))).trans hR.1, (congrArg Int32.toInt (hpT.2.2.2.2.1 1 5 (by decide) (by decide))).trans hR.2, hS1, hS2, rg, tdC_tl htd1 hpT.2.2.2.2, tdR_lw htd2 hpM.2.2.2, lE_obs hle hpT.1 hpT.2.1 hpM.1.1 (fun q => hpM.1.2.trans q) hpM.2.2.2⟩ hl
set_option maxRecDepth 100000 in
theorem lq_c24 {p : Program} {l : Launch} {e : Env} {s : State} {m : MethodId} {below : List Frame} {meth : Method} {c : Code} {D : va_G} {cy : Nat → ClassId} {A1 A2 : Nat → Nat → Nat} {M1 M2 : ti_M} {b q3 L cells slots : Nat} {iv : Int32} {xs : Nat → Int32} {H : Heap} {locs : List Loc} {ls : Array Slot} (Z : lq_Z p s m meth c D cy A1 A2 b L xs) (hcs : cells ≤ room_1.cells ∧ slots ≤ room_1.slots) (hw : lq_H s D cy A1 A2 q3 M1 M2 H locs) (hI : lq_I M1 M2) (hi : 0 ≤ iv.toInt ∧ iv.toInt + 6 ≤ L) (hl : lv_has ls 7 [(4, .int iv), (3, .ref q3), (2, .ref (A2 60 0)), (1, .ref (A1 0 0)), (0, .ref b)]) (kk : ∀ (M1 M2 : ti_M) (H : Heap) (locs : List Loc) (ls : Array Slot), lq_H s D cy A1 A2 q3 M1 M2 H locs → lq_I M1 M2 → lv_has ls 7 [(4, .int iv), (3, .ref q3), (2, .ref (A2 60 0)), (1, .ref (A1 0 0)), (0, .ref b)] → W p l e room_1 s m #[Value.ref b] below meth c H locs cells slots (lw_Z below #[Value.ref b] s) (F0 m 1521 ls [])) : W p l e room_1 s m #[Value.ref b] below meth c H locs cells slots (lw_Z below #[Value.ref b] s) (F0 m 1115 ls []) := by
  have C := Z.1
  have hA := Z.2.1
  have hx := C.1
  have hb := C.2.1
  have hbA : ¬ lq_F s b := Nat.not_le.mpr Z.2.2.2.1
  have hL := Z.2.2.2.2.2.2.1
  have hE := Z.2.2.2.2.2.2.2
  obtain ⟨Tc, Tm, hF1, hF2, hE0, hB0, hR1, hR2, hS1, hS2, rg, htd1, htd2, hle⟩ := hI
  have hR := And.intro hR1 hR2
  have hS := And.intro hS1 hS2
  refine lv_aload_n hx hb dL_law_1115 rfl (lv_at hl 3 rfl) ?_
  refine lv_aload_n hx hb dL_law_1116 rfl (lv_at hl 4 rfl) ?_
  refine lv_iload hx hb dL_law_1117 (lv_at hl 0 rfl) ?_
  refine lv_iconst (v := 1) hx hb dL_law_1119 (by decide) ?_
  refine lv_iadd hx hb dL_law_1120 ?_
  refine va_sld (i := iv + 1) hx hb Z.2.2.1 Z.2.2.2.1 hbA hw.2.2.1 (lq_in hi hL (by decide) (by decide)) dL_law_1121 ?_
  refine lv_aload_n hx hb dL_law_1122 rfl (lv_at hl 4 rfl) ?_
  refine lv_iload hx hb dL_law_1123 (lv_at hl 0 rfl) ?_
  refine lv_iconst (v := 2) hx hb dL_law_1125 (by decide) ?_
  refine lv_iadd hx hb dL_law_1126 ?_
  refine va_sld (i := iv + 2) hx hb Z.2.2.1 Z.2.2.2.1 hbA hw.2.2.1 (lq_in hi hL (by decide) (by decide)) dL_law_1127 ?_
  refine lv_aload_n hx hb dL_law_1128 rfl (lv_at hl 4 rfl) ?_
  refine lv_iload hx hb dL_law_1129 (lv_at hl 0 rfl) ?_
  refine lv_iconst (v := 3) hx hb dL_law_1131 (by decide) ?_
  refine lv_iadd hx hb dL_law_1132 ?_
  refine va_sld (i := iv + 3) hx hb Z.2.2.1 Z.2.2.2.1 hbA hw.2.2.1 (lq_in hi hL (by decide) (by decide)) dL_law_1133 ?_
  refine lq_callTi (av := [.int (xs (iv + 1 : Int32).toNatClampNeg), .int (xs (iv + 2 : Int32).toNatClampNeg), .int (xs (iv + 3 : Int32).toNatClampNeg)]) C hA hw (f_X9_fairest l D A1 cy hA.1 M1 hF1.1 hF1 (xs (iv + 1 : Int32).toNatClampNeg) (xs (iv + 2 : Int32).toNatClampNeg) (xs (iv + 3 : Int32).toNatClampNeg)) ⟨ml_L_131, ym_X9_fairest, yv_X9_fairest, yi_X9_fairest, yc_X9_fairest⟩ yd_X9_fairest rfl rfl hl.1 (Nat.le_of_ble_eq_true rfl) ⟨by decide, by decide⟩ hcs dL_law_1134 (fun rT N1 H locs hpT hw => ?_)
  refine lv_pop hx hb dL_law_1137 rfl ?_
  refine lv_aload_n hx hb dL_law_1138 rfl (lv_at hl 2 rfl) ?_
  refine lv_aload_n hx hb dL_law_1139 rfl (lv_at hl 4 rfl) ?_
  refine lv_iload hx hb dL_law_1140 (lv_at hl 0 rfl) ?_
  refine lv_iconst (v := 1) hx hb dL_law_1142 (by decide) ?_
  refine lv_iadd hx hb dL_law_1143 ?_
  refine va_sld (i := iv + 1) hx hb Z.2.2.1 Z.2.2.2.1 hbA hw.2.2.1 (lq_in hi hL (by decide) (by decide)) dL_law_1144 ?_
  refine lv_aload_n hx hb dL_law_1145 rfl (lv_at hl 4 rfl) ?_
  refine lv_iload hx hb dL_law_1146 (lv_at hl 0 rfl) ?_
  refine lv_iconst (v := 2) hx hb dL_law_1148 (by decide) ?_
  refine lv_iadd hx hb dL_law_1149 ?_
  refine va_sld (i := iv + 2) hx hb Z.2.2.1 Z.2.2.2.1 hbA hw.2.2.1 (lq_in hi hL (by decide) (by decide)) dL_law_1150 ?_
  refine lv_aload_n hx hb dL_law_1151 rfl (lv_at hl 4 rfl) ?_
  refine lv_iload hx hb dL_law_1152 (lv_at hl 0 rfl) ?_
  refine lv_iconst (v := 3) hx hb dL_law_1154 (by decide) ?_
  refine lv_iadd hx hb dL_law_1155 ?_
  refine va_sld (i := iv + 3) hx hb Z.2.2.1 Z.2.2.2.1 hbA hw.2.2.1 (lq_in hi hL (by decide) (by decide)) dL_law_1156 ?_
  refine lq_callMi (av := [.int (xs (iv + 1 : Int32).toNatClampNeg), .int (xs (iv + 2 : Int32).toNatClampNeg), .int (xs (iv + 3 : Int32).toNatClampNeg)]) C hA hw (f_X10_fairest l D A2 cy hA.2.1 M2 hF2.1 hF2 (xs (iv + 1 : Int32).toNatClampNeg) (xs (iv + 2 : Int32).toNatClampNeg) (xs (iv + 3 : Int32).toNatClampNeg)) ⟨ml_L_134, ym_X10_fairest, yv_X10_fairest, yi_X10_fairest, yc_X10_fairest⟩ yd_X10_fairest rfl rfl hl.1 (Nat.le_of_ble_eq_true rfl) ⟨by decide, by decide⟩ hcs dL_law_1157 (fun rM N2 H locs hpM hw => ?_)
  refine lv_pop hx hb dL_law_1160 rfl ?_
  refine lv_goto (tgt := 1521) hx hb dL_law_1161 (by decide) ?_
  exact kk N1 N2 H locs ls hw ⟨Tc, Tm, hpT.2.2.1, hpM.2.1, hpT.2.2.2.1.trans (hE0.trans (show tI N2 60 2 = tI M2 60 2 from hpM.2.2.1).symm), (fun i hi => hB0 i (by rw [← hpT.2.2.2.1]; exact hi)), (congrArg Int32.toInt (hpT.2.2.2.2.1 1 4 (by decide) (by decide))).trans hR.1, (congrArg Int32.toInt (hpT.2.2.2.2.1 1 5 (by decide) (by decide))).trans hR.2, hS1, hS2, rg, tdC_tl htd1 hpT.2.2.2.2, tdR_lw htd2 hpM.2.2.2, lE_obs hle hpT.1 hpT.2.1 hpM.1.1 (fun q => hpM.1.2.trans q) hpM.2.2.2⟩ hl
set_option maxRecDepth 100000 in
theorem lq_c25 {p : Program} {l : Launch} {e : Env} {s : State} {m : MethodId} {below : List Frame} {meth : Method} {c : Code} {D : va_G} {cy : Nat → ClassId} {A1 A2 : Nat → Nat → Nat} {M1 M2 : ti_M} {b q3 L cells slots : Nat} {iv : Int32} {xs : Nat → Int32} {H : Heap} {locs : List Loc} {ls : Array Slot} (Z : lq_Z p s m meth c D cy A1 A2 b L xs) (hcs : cells ≤ room_1.cells ∧ slots ≤ room_1.slots) (hw : lq_H s D cy A1 A2 q3 M1 M2 H locs) (hI : lq_I M1 M2) (hi : 0 ≤ iv.toInt ∧ iv.toInt + 6 ≤ L) (hl : lv_has ls 7 [(4, .int iv), (3, .ref q3), (2, .ref (A2 60 0)), (1, .ref (A1 0 0)), (0, .ref b)]) (kk : ∀ (M1 M2 : ti_M) (H : Heap) (locs : List Loc) (ls : Array Slot), lq_H s D cy A1 A2 q3 M1 M2 H locs → lq_I M1 M2 → lv_has ls 7 [(4, .int iv), (3, .ref q3), (2, .ref (A2 60 0)), (1, .ref (A1 0 0)), (0, .ref b)] → W p l e room_1 s m #[Value.ref b] below meth c H locs cells slots (lw_Z below #[Value.ref b] s) (F0 m 1521 ls [])) : W p l e room_1 s m #[Value.ref b] below meth c H locs cells slots (lw_Z below #[Value.ref b] s) (F0 m 1164 ls []) := by
  have C := Z.1
  have hA := Z.2.1
  have hx := C.1
  have hb := C.2.1
  have hbA : ¬ lq_F s b := Nat.not_le.mpr Z.2.2.2.1
  have hL := Z.2.2.2.2.2.2.1
  have hE := Z.2.2.2.2.2.2.2
  obtain ⟨Tc, Tm, hF1, hF2, hE0, hB0, hR1, hR2, hS1, hS2, rg, htd1, htd2, hle⟩ := hI
  have hR := And.intro hR1 hR2
  have hS := And.intro hS1 hS2
  refine lv_aload_n hx hb dL_law_1164 rfl (lv_at hl 3 rfl) ?_
  refine lv_aload_n hx hb dL_law_1165 rfl (lv_at hl 4 rfl) ?_
  refine lv_iload hx hb dL_law_1166 (lv_at hl 0 rfl) ?_
  refine lv_iconst (v := 1) hx hb dL_law_1168 (by decide) ?_
  refine lv_iadd hx hb dL_law_1169 ?_
  refine va_sld (i := iv + 1) hx hb Z.2.2.1 Z.2.2.2.1 hbA hw.2.2.1 (lq_in hi hL (by decide) (by decide)) dL_law_1170 ?_
  refine lv_aload_n hx hb dL_law_1171 rfl (lv_at hl 4 rfl) ?_
  refine lv_iload hx hb dL_law_1172 (lv_at hl 0 rfl) ?_
  refine lv_iconst (v := 2) hx hb dL_law_1174 (by decide) ?_
  refine lv_iadd hx hb dL_law_1175 ?_
  refine va_sld (i := iv + 2) hx hb Z.2.2.1 Z.2.2.2.1 hbA hw.2.2.1 (lq_in hi hL (by decide) (by decide)) dL_law_1176 ?_
  refine lq_callTi (av := [.int (xs (iv + 1 : Int32).toNatClampNeg), .int (xs (iv + 2 : Int32).toNatClampNeg)]) C hA hw (f_X9_gain l D A1 cy hA.1 M1 hF1.1 hF1 (xs (iv + 1 : Int32).toNatClampNeg) (xs (iv + 2 : Int32).toNatClampNeg)) ⟨ml_L_135, ym_X9_gain, yv_X9_gain, yi_X9_gain, yc_X9_gain⟩ yd_X9_gain rfl rfl hl.1 (Nat.le_of_ble_eq_true rfl) ⟨by decide, by decide⟩ hcs dL_law_1177 (fun rT N1 H locs hpT hw => ?_)
  refine lv_pop hx hb dL_law_1180 rfl ?_
  refine lv_aload_n hx hb dL_law_1181 rfl (lv_at hl 2 rfl) ?_
  refine lv_aload_n hx hb dL_law_1182 rfl (lv_at hl 4 rfl) ?_
  refine lv_iload hx hb dL_law_1183 (lv_at hl 0 rfl) ?_
  refine lv_iconst (v := 1) hx hb dL_law_1185 (by decide) ?_
  refine lv_iadd hx hb dL_law_1186 ?_
  refine va_sld (i := iv + 1) hx hb Z.2.2.1 Z.2.2.2.1 hbA hw.2.2.1 (lq_in hi hL (by decide) (by decide)) dL_law_1187 ?_
  refine lv_aload_n hx hb dL_law_1188 rfl (lv_at hl 4 rfl) ?_
  refine lv_iload hx hb dL_law_1189 (lv_at hl 0 rfl) ?_
  refine lv_iconst (v := 2) hx hb dL_law_1191 (by decide) ?_
  refine lv_iadd hx hb dL_law_1192 ?_
  refine va_sld (i := iv + 2) hx hb Z.2.2.1 Z.2.2.2.1 hbA hw.2.2.1 (lq_in hi hL (by decide) (by decide)) dL_law_1193 ?_
  refine lq_callMi (av := [.int (xs (iv + 1 : Int32).toNatClampNeg), .int (xs (iv + 2 : Int32).toNatClampNeg)]) C hA hw (f_X10_gain l D A2 cy hA.2.1 M2 hF2.1 hF2 (xs (iv + 1 : Int32).toNatClampNeg) (xs (iv + 2 : Int32).toNatClampNeg)) ⟨ml_L_138, ym_X10_gain, yv_X10_gain, yi_X10_gain, yc_X10_gain⟩ yd_X10_gain rfl rfl hl.1 (Nat.le_of_ble_eq_true rfl) ⟨by decide, by decide⟩ hcs dL_law_1194 (fun rM N2 H locs hpM hw => ?_)
  refine lv_pop hx hb dL_law_1197 rfl ?_
  refine lv_goto (tgt := 1521) hx hb dL_law_1198 (by decide) ?_
  exact kk N1 N2 H locs ls hw ⟨Tc, Tm, hpT.2.2.1, hpM.2.1, hpT.2.2.2.1.trans (hE0.trans (show tI N2 60 2 = tI M2 60 2 from hpM.2.2.1).symm), (fun i hi => hB0 i (by rw [← hpT.2.2.2.1]; exact hi)), (congrArg Int32.toInt (hpT.2.2.2.2.1 1 4 (by decide) (by decide))).trans hR.1, (congrArg Int32.toInt (hpT.2.2.2.2.1 1 5 (by decide) (by decide))).trans hR.2, hS1, hS2, rg, tdC_tl htd1 hpT.2.2.2.2, tdR_lw htd2 hpM.2.2.2, lE_obs hle hpT.1 hpT.2.1 hpM.1.1 (fun q => hpM.1.2.trans q) hpM.2.2.2⟩ hl
set_option maxRecDepth 100000 in
theorem lq_c26 {p : Program} {l : Launch} {e : Env} {s : State} {m : MethodId} {below : List Frame} {meth : Method} {c : Code} {D : va_G} {cy : Nat → ClassId} {A1 A2 : Nat → Nat → Nat} {M1 M2 : ti_M} {b q3 L cells slots : Nat} {iv : Int32} {xs : Nat → Int32} {H : Heap} {locs : List Loc} {ls : Array Slot} (Z : lq_Z p s m meth c D cy A1 A2 b L xs) (hcs : cells ≤ room_1.cells ∧ slots ≤ room_1.slots) (hw : lq_H s D cy A1 A2 q3 M1 M2 H locs) (hI : lq_I M1 M2) (hi : 0 ≤ iv.toInt ∧ iv.toInt + 6 ≤ L) (hl : lv_has ls 7 [(4, .int iv), (3, .ref q3), (2, .ref (A2 60 0)), (1, .ref (A1 0 0)), (0, .ref b)]) (kk : ∀ (M1 M2 : ti_M) (H : Heap) (locs : List Loc) (ls : Array Slot), lq_H s D cy A1 A2 q3 M1 M2 H locs → lq_I M1 M2 → lv_has ls 7 [(4, .int iv), (3, .ref q3), (2, .ref (A2 60 0)), (1, .ref (A1 0 0)), (0, .ref b)] → W p l e room_1 s m #[Value.ref b] below meth c H locs cells slots (lw_Z below #[Value.ref b] s) (F0 m 1521 ls [])) : W p l e room_1 s m #[Value.ref b] below meth c H locs cells slots (lw_Z below #[Value.ref b] s) (F0 m 1201 ls []) := by
  have C := Z.1
  have hA := Z.2.1
  have hx := C.1
  have hb := C.2.1
  have hbA : ¬ lq_F s b := Nat.not_le.mpr Z.2.2.2.1
  have hL := Z.2.2.2.2.2.2.1
  have hE := Z.2.2.2.2.2.2.2
  obtain ⟨Tc, Tm, hF1, hF2, hE0, hB0, hR1, hR2, hS1, hS2, rg, htd1, htd2, hle⟩ := hI
  have hR := And.intro hR1 hR2
  have hS := And.intro hS1 hS2
  refine lv_aload_n hx hb dL_law_1201 rfl (lv_at hl 3 rfl) ?_
  refine lv_aload_n hx hb dL_law_1202 rfl (lv_at hl 4 rfl) ?_
  refine lv_iload hx hb dL_law_1203 (lv_at hl 0 rfl) ?_
  refine lv_iconst (v := 1) hx hb dL_law_1205 (by decide) ?_
  refine lv_iadd hx hb dL_law_1206 ?_
  refine va_sld (i := iv + 1) hx hb Z.2.2.1 Z.2.2.2.1 hbA hw.2.2.1 (lq_in hi hL (by decide) (by decide)) dL_law_1207 ?_
  refine lv_aload_n hx hb dL_law_1208 rfl (lv_at hl 4 rfl) ?_
  refine lv_iload hx hb dL_law_1209 (lv_at hl 0 rfl) ?_
  refine lv_iconst (v := 2) hx hb dL_law_1211 (by decide) ?_
  refine lv_iadd hx hb dL_law_1212 ?_
  refine va_sld (i := iv + 2) hx hb Z.2.2.1 Z.2.2.2.1 hbA hw.2.2.1 (lq_in hi hL (by decide) (by decide)) dL_law_1213 ?_
  refine lv_aload_n hx hb dL_law_1214 rfl (lv_at hl 4 rfl) ?_
  refine lv_iload hx hb dL_law_1215 (lv_at hl 0 rfl) ?_
  refine lv_iconst (v := 3) hx hb dL_law_1217 (by decide) ?_
  refine lv_iadd hx hb dL_law_1218 ?_
  refine va_sld (i := iv + 3) hx hb Z.2.2.1 Z.2.2.2.1 hbA hw.2.2.1 (lq_in hi hL (by decide) (by decide)) dL_law_1219 ?_
  refine lq_callTi (av := [.int (xs (iv + 1 : Int32).toNatClampNeg), .int (xs (iv + 2 : Int32).toNatClampNeg), .int (xs (iv + 3 : Int32).toNatClampNeg)]) C hA hw (w_X9_stone l D A1 cy hA.1 M1 hF1.1 hF1 (xs (iv + 1 : Int32).toNatClampNeg) (xs (iv + 2 : Int32).toNatClampNeg) (xs (iv + 3 : Int32).toNatClampNeg) rg htd1) ⟨ml_L_139, ym_X9_stone, yv_X9_stone, yi_X9_stone, yc_X9_stone⟩ yd_X9_stone rfl rfl hl.1 (Nat.le_of_ble_eq_true rfl) ⟨by decide, by decide⟩ hcs dL_law_1220 (fun rT N1 H locs hpT hw => ?_)
  refine lv_pop hx hb dL_law_1223 rfl ?_
  refine lv_aload_n hx hb dL_law_1224 rfl (lv_at hl 2 rfl) ?_
  refine lv_aload_n hx hb dL_law_1225 rfl (lv_at hl 4 rfl) ?_
  refine lv_iload hx hb dL_law_1226 (lv_at hl 0 rfl) ?_
  refine lv_iconst (v := 1) hx hb dL_law_1228 (by decide) ?_
  refine lv_iadd hx hb dL_law_1229 ?_
  refine va_sld (i := iv + 1) hx hb Z.2.2.1 Z.2.2.2.1 hbA hw.2.2.1 (lq_in hi hL (by decide) (by decide)) dL_law_1230 ?_
  refine lv_aload_n hx hb dL_law_1231 rfl (lv_at hl 4 rfl) ?_
  refine lv_iload hx hb dL_law_1232 (lv_at hl 0 rfl) ?_
  refine lv_iconst (v := 2) hx hb dL_law_1234 (by decide) ?_
  refine lv_iadd hx hb dL_law_1235 ?_
  refine va_sld (i := iv + 2) hx hb Z.2.2.1 Z.2.2.2.1 hbA hw.2.2.1 (lq_in hi hL (by decide) (by decide)) dL_law_1236 ?_
  refine lv_aload_n hx hb dL_law_1237 rfl (lv_at hl 4 rfl) ?_
  refine lv_iload hx hb dL_law_1238 (lv_at hl 0 rfl) ?_
  refine lv_iconst (v := 3) hx hb dL_law_1240 (by decide) ?_
  refine lv_iadd hx hb dL_law_1241 ?_
  refine va_sld (i := iv + 3) hx hb Z.2.2.1 Z.2.2.2.1 hbA hw.2.2.1 (lq_in hi hL (by decide) (by decide)) dL_law_1242 ?_
  refine lq_callMi (av := [.int (xs (iv + 1 : Int32).toNatClampNeg), .int (xs (iv + 2 : Int32).toNatClampNeg), .int (xs (iv + 3 : Int32).toNatClampNeg)]) C hA hw (w_X10_stone l D A2 cy hA.2.1 M2 hF2.1 hF2 (xs (iv + 1 : Int32).toNatClampNeg) (xs (iv + 2 : Int32).toNatClampNeg) (xs (iv + 3 : Int32).toNatClampNeg) rg htd2) ⟨ml_L_142, ym_X10_stone, yv_X10_stone, yi_X10_stone, yc_X10_stone⟩ yd_X10_stone rfl rfl hl.1 (Nat.le_of_ble_eq_true rfl) ⟨by decide, by decide⟩ hcs dL_law_1243 (fun rM N2 H locs hpM hw => ?_)
  refine lv_pop hx hb dL_law_1246 rfl ?_
  have hC5 : (tI M1 50 5).toInt = (tI M2 60 58).toInt := (congrArg (fun t => Int32.toInt t.2.1) hF1.1.2.2).trans (hS1.trans (congrArg (fun t => Int32.toInt t.2.2.2.1) hF2.1.2.2.2).symm)
  have hC6 : (tI M1 50 6).toInt = (tI M2 60 59).toInt := (congrArg (fun t => Int32.toInt t.2.2.1) hF1.1.2.2).trans (hS2.trans (congrArg (fun t => Int32.toInt t.2.2.2.2.1) hF2.1.2.2.2).symm)
  have q := lq_st hF1 hF2 hE0 hB0 hR hS htd1 htd2 (by rw [hC5]) (fun g o w => ⟨hC5, g.2.2.1.trans ((congrArg (· + 1) hC5).trans o.2.1.symm), (congrArg Int32.toInt g.2.2.2).trans (hC6.trans (congrArg Int32.toInt o.2.2).symm), lE_eo hle g.1 (Or.inr rfl) g.2.1 o.1 w⟩) hle hpT hpM
  refine lv_goto (tgt := 1521) hx hb dL_law_1247 (by decide) ?_
  exact kk N1 N2 H locs ls hw q.2 hl
set_option maxRecDepth 100000 in
theorem lq_c27 {p : Program} {l : Launch} {e : Env} {s : State} {m : MethodId} {below : List Frame} {meth : Method} {c : Code} {D : va_G} {cy : Nat → ClassId} {A1 A2 : Nat → Nat → Nat} {M1 M2 : ti_M} {b q3 L cells slots : Nat} {iv : Int32} {xs : Nat → Int32} {H : Heap} {locs : List Loc} {ls : Array Slot} (Z : lq_Z p s m meth c D cy A1 A2 b L xs) (hcs : cells ≤ room_1.cells ∧ slots ≤ room_1.slots) (hw : lq_H s D cy A1 A2 q3 M1 M2 H locs) (hI : lq_I M1 M2) (hi : 0 ≤ iv.toInt ∧ iv.toInt + 6 ≤ L) (hl : lv_has ls 7 [(4, .int iv), (3, .ref q3), (2, .ref (A2 60 0)), (1, .ref (A1 0 0)), (0, .ref b)]) (kk : ∀ (M1 M2 : ti_M) (H : Heap) (locs : List Loc) (ls : Array Slot), lq_H s D cy A1 A2 q3 M1 M2 H locs → lq_I M1 M2 → lv_has ls 7 [(4, .int iv), (3, .ref q3), (2, .ref (A2 60 0)), (1, .ref (A1 0 0)), (0, .ref b)] → W p l e room_1 s m #[Value.ref b] below meth c H locs cells slots (lw_Z below #[Value.ref b] s) (F0 m 1521 ls [])) : W p l e room_1 s m #[Value.ref b] below meth c H locs cells slots (lw_Z below #[Value.ref b] s) (F0 m 1250 ls []) := by
  have C := Z.1
  have hA := Z.2.1
  have hx := C.1
  have hb := C.2.1
  have hbA : ¬ lq_F s b := Nat.not_le.mpr Z.2.2.2.1
  have hL := Z.2.2.2.2.2.2.1
  have hE := Z.2.2.2.2.2.2.2
  obtain ⟨Tc, Tm, hF1, hF2, hE0, hB0, hR1, hR2, hS1, hS2, rg, htd1, htd2, hle⟩ := hI
  have hR := And.intro hR1 hR2
  have hS := And.intro hS1 hS2
  refine lv_aload_n hx hb dL_law_1250 rfl (lv_at hl 3 rfl) ?_
  refine lv_aload_n hx hb dL_law_1251 rfl (lv_at hl 4 rfl) ?_
  refine lv_iload hx hb dL_law_1252 (lv_at hl 0 rfl) ?_
  refine lv_iconst (v := 1) hx hb dL_law_1254 (by decide) ?_
  refine lv_iadd hx hb dL_law_1255 ?_
  refine va_sld (i := iv + 1) hx hb Z.2.2.1 Z.2.2.2.1 hbA hw.2.2.1 (lq_in hi hL (by decide) (by decide)) dL_law_1256 ?_
  refine lq_callTi (av := [.int (xs (iv + 1 : Int32).toNatClampNeg)]) C hA hw (w_X9_strike l D A1 cy hA.1 M1 hF1.1 hF1 (xs (iv + 1 : Int32).toNatClampNeg) rg htd1) ⟨ml_L_143, ym_X9_strike, yv_X9_strike, yi_X9_strike, yc_X9_strike⟩ yd_X9_strike rfl rfl hl.1 (Nat.le_of_ble_eq_true rfl) ⟨by decide, by decide⟩ hcs dL_law_1257 (fun rT N1 H locs hpT hw => ?_)
  refine lv_pop hx hb dL_law_1260 rfl ?_
  refine lv_aload_n hx hb dL_law_1261 rfl (lv_at hl 2 rfl) ?_
  refine lv_aload_n hx hb dL_law_1262 rfl (lv_at hl 4 rfl) ?_
  refine lv_iload hx hb dL_law_1263 (lv_at hl 0 rfl) ?_
  refine lv_iconst (v := 1) hx hb dL_law_1265 (by decide) ?_
  refine lv_iadd hx hb dL_law_1266 ?_
  refine va_sld (i := iv + 1) hx hb Z.2.2.1 Z.2.2.2.1 hbA hw.2.2.1 (lq_in hi hL (by decide) (by decide)) dL_law_1267 ?_
  refine lq_callMi (av := [.int (xs (iv + 1 : Int32).toNatClampNeg)]) C hA hw (w_X10_strike l D A2 cy hA.2.1 M2 hF2.1 hF2 (xs (iv + 1 : Int32).toNatClampNeg) rg htd2) ⟨ml_L_146, ym_X10_strike, yv_X10_strike, yi_X10_strike, yc_X10_strike⟩ yd_X10_strike rfl rfl hl.1 (Nat.le_of_ble_eq_true rfl) ⟨by decide, by decide⟩ hcs dL_law_1268 (fun rM N2 H locs hpM hw => ?_)
  refine lv_pop hx hb dL_law_1271 rfl ?_
  have hC5 : (tI M1 50 5).toInt = (tI M2 60 58).toInt := (congrArg (fun t => Int32.toInt t.2.1) hF1.1.2.2).trans (hS1.trans (congrArg (fun t => Int32.toInt t.2.2.2.1) hF2.1.2.2.2).symm)
  have hC6 : (tI M1 50 6).toInt = (tI M2 60 59).toInt := (congrArg (fun t => Int32.toInt t.2.2.1) hF1.1.2.2).trans (hS2.trans (congrArg (fun t => Int32.toInt t.2.2.2.2.1) hF2.1.2.2.2).symm)
  have q := lq_st hF1 hF2 hE0 hB0 hR hS htd1 htd2 (by rw [hC5]) (fun g o w => ⟨hC5, g.2.2.1.trans ((congrArg (· + 1) hC5).trans o.2.1.symm), (congrArg Int32.toInt g.2.2.2).trans (hC6.trans (congrArg Int32.toInt o.2.2).symm), lE_eo hle g.1 (Or.inr rfl) g.2.1 o.1 w⟩) hle hpT hpM
  refine lv_goto (tgt := 1521) hx hb dL_law_1272 (by decide) ?_
  exact kk N1 N2 H locs ls hw q.2 hl
set_option maxRecDepth 100000 in
theorem lq_c28 {p : Program} {l : Launch} {e : Env} {s : State} {m : MethodId} {below : List Frame} {meth : Method} {c : Code} {D : va_G} {cy : Nat → ClassId} {A1 A2 : Nat → Nat → Nat} {M1 M2 : ti_M} {b q3 L cells slots : Nat} {iv : Int32} {xs : Nat → Int32} {H : Heap} {locs : List Loc} {ls : Array Slot} (Z : lq_Z p s m meth c D cy A1 A2 b L xs) (hcs : cells ≤ room_1.cells ∧ slots ≤ room_1.slots) (hw : lq_H s D cy A1 A2 q3 M1 M2 H locs) (hI : lq_I M1 M2) (hi : 0 ≤ iv.toInt ∧ iv.toInt + 6 ≤ L) (hl : lv_has ls 7 [(4, .int iv), (3, .ref q3), (2, .ref (A2 60 0)), (1, .ref (A1 0 0)), (0, .ref b)]) (kk : ∀ (M1 M2 : ti_M) (H : Heap) (locs : List Loc) (ls : Array Slot), lq_H s D cy A1 A2 q3 M1 M2 H locs → lq_I M1 M2 → lv_has ls 7 [(4, .int iv), (3, .ref q3), (2, .ref (A2 60 0)), (1, .ref (A1 0 0)), (0, .ref b)] → W p l e room_1 s m #[Value.ref b] below meth c H locs cells slots (lw_Z below #[Value.ref b] s) (F0 m 1521 ls [])) : W p l e room_1 s m #[Value.ref b] below meth c H locs cells slots (lw_Z below #[Value.ref b] s) (F0 m 1275 ls []) := by
  have C := Z.1
  have hA := Z.2.1
  have hx := C.1
  have hb := C.2.1
  have hbA : ¬ lq_F s b := Nat.not_le.mpr Z.2.2.2.1
  have hL := Z.2.2.2.2.2.2.1
  have hE := Z.2.2.2.2.2.2.2
  obtain ⟨Tc, Tm, hF1, hF2, hE0, hB0, hR1, hR2, hS1, hS2, rg, htd1, htd2, hle⟩ := hI
  have hR := And.intro hR1 hR2
  have hS := And.intro hS1 hS2
  refine lv_aload_n hx hb dL_law_1275 rfl (lv_at hl 3 rfl) ?_
  refine lv_aload_n hx hb dL_law_1276 rfl (lv_at hl 4 rfl) ?_
  refine lv_iload hx hb dL_law_1277 (lv_at hl 0 rfl) ?_
  refine lv_iconst (v := 1) hx hb dL_law_1279 (by decide) ?_
  refine lv_iadd hx hb dL_law_1280 ?_
  refine va_sld (i := iv + 1) hx hb Z.2.2.1 Z.2.2.2.1 hbA hw.2.2.1 (lq_in hi hL (by decide) (by decide)) dL_law_1281 ?_
  refine lq_callTi (av := [.int (xs (iv + 1 : Int32).toNatClampNeg)]) C hA hw (w_X9_known l D A1 cy hA.1 M1 hF1.1 hF1 (xs (iv + 1 : Int32).toNatClampNeg) rg htd1) ⟨ml_L_147, ym_X9_known, yv_X9_known, yi_X9_known, yc_X9_known⟩ yd_X9_known rfl rfl hl.1 (Nat.le_of_ble_eq_true rfl) ⟨by decide, by decide⟩ hcs dL_law_1282 (fun rT N1 H locs hpT hw => ?_)
  refine lv_pop hx hb dL_law_1285 rfl ?_
  refine lv_aload_n hx hb dL_law_1286 rfl (lv_at hl 2 rfl) ?_
  refine lv_aload_n hx hb dL_law_1287 rfl (lv_at hl 4 rfl) ?_
  refine lv_iload hx hb dL_law_1288 (lv_at hl 0 rfl) ?_
  refine lv_iconst (v := 1) hx hb dL_law_1290 (by decide) ?_
  refine lv_iadd hx hb dL_law_1291 ?_
  refine va_sld (i := iv + 1) hx hb Z.2.2.1 Z.2.2.2.1 hbA hw.2.2.1 (lq_in hi hL (by decide) (by decide)) dL_law_1292 ?_
  refine lq_callMi (av := [.int (xs (iv + 1 : Int32).toNatClampNeg)]) C hA hw (w_X10_known l D A2 cy hA.2.1 M2 hF2.1 hF2 (xs (iv + 1 : Int32).toNatClampNeg) rg htd2) ⟨ml_L_150, ym_X10_known, yv_X10_known, yi_X10_known, yc_X10_known⟩ yd_X10_known rfl rfl hl.1 (Nat.le_of_ble_eq_true rfl) ⟨by decide, by decide⟩ hcs dL_law_1293 (fun rM N2 H locs hpM hw => ?_)
  refine lv_pop hx hb dL_law_1296 rfl ?_
  have hC5 : (tI M1 50 5).toInt = (tI M2 60 58).toInt := (congrArg (fun t => Int32.toInt t.2.1) hF1.1.2.2).trans (hS1.trans (congrArg (fun t => Int32.toInt t.2.2.2.1) hF2.1.2.2.2).symm)
  have hC6 : (tI M1 50 6).toInt = (tI M2 60 59).toInt := (congrArg (fun t => Int32.toInt t.2.2.1) hF1.1.2.2).trans (hS2.trans (congrArg (fun t => Int32.toInt t.2.2.2.2.1) hF2.1.2.2.2).symm)
  have q := lq_st hF1 hF2 hE0 hB0 hR hS htd1 htd2 (by rw [hC5]) (fun g o w => ⟨rfl, (congrArg Int32.toInt g.2.2.1).trans (hC5.trans (congrArg Int32.toInt o.2.1).symm), congrArg Int32.toInt (g.2.2.2.trans o.2.2.symm), lE_eo hle g.1 (Or.inr rfl) g.2.1 o.1 w⟩) hle hpT hpM
  refine lv_goto (tgt := 1521) hx hb dL_law_1297 (by decide) ?_
  exact kk N1 N2 H locs ls hw q.2 hl
set_option maxRecDepth 100000 in
theorem lq_c29 {p : Program} {l : Launch} {e : Env} {s : State} {m : MethodId} {below : List Frame} {meth : Method} {c : Code} {D : va_G} {cy : Nat → ClassId} {A1 A2 : Nat → Nat → Nat} {M1 M2 : ti_M} {b q3 L cells slots : Nat} {iv : Int32} {xs : Nat → Int32} {H : Heap} {locs : List Loc} {ls : Array Slot} (Z : lq_Z p s m meth c D cy A1 A2 b L xs) (hcs : cells ≤ room_1.cells ∧ slots ≤ room_1.slots) (hw : lq_H s D cy A1 A2 q3 M1 M2 H locs) (hI : lq_I M1 M2) (hi : 0 ≤ iv.toInt ∧ iv.toInt + 6 ≤ L) (hl : lv_has ls 7 [(4, .int iv), (3, .ref q3), (2, .ref (A2 60 0)), (1, .ref (A1 0 0)), (0, .ref b)]) (kk : ∀ (M1 M2 : ti_M) (H : Heap) (locs : List Loc) (ls : Array Slot), lq_H s D cy A1 A2 q3 M1 M2 H locs → lq_I M1 M2 → lv_has ls 7 [(4, .int iv), (3, .ref q3), (2, .ref (A2 60 0)), (1, .ref (A1 0 0)), (0, .ref b)] → W p l e room_1 s m #[Value.ref b] below meth c H locs cells slots (lw_Z below #[Value.ref b] s) (F0 m 1521 ls [])) : W p l e room_1 s m #[Value.ref b] below meth c H locs cells slots (lw_Z below #[Value.ref b] s) (F0 m 1300 ls []) := by
  have C := Z.1
  have hA := Z.2.1
  have hx := C.1
  have hb := C.2.1
  have hbA : ¬ lq_F s b := Nat.not_le.mpr Z.2.2.2.1
  have hL := Z.2.2.2.2.2.2.1
  have hE := Z.2.2.2.2.2.2.2
  obtain ⟨Tc, Tm, hF1, hF2, hE0, hB0, hR1, hR2, hS1, hS2, rg, htd1, htd2, hle⟩ := hI
  have hR := And.intro hR1 hR2
  have hS := And.intro hS1 hS2
  refine lv_aload_n hx hb dL_law_1300 rfl (lv_at hl 3 rfl) ?_
  refine lq_callTi (av := []) C hA hw (f_X9_came l D A1 cy hA.1 M1 hF1.1 hF1) ⟨ml_L_151, ym_X9_came, yv_X9_came, yi_X9_came, yc_X9_came⟩ yd_X9_came rfl rfl hl.1 (Nat.le_of_ble_eq_true rfl) ⟨by decide, by decide⟩ hcs dL_law_1301 (fun rT N1 H locs hpT hw => ?_)
  refine lv_pop hx hb dL_law_1304 rfl ?_
  refine lv_aload_n hx hb dL_law_1305 rfl (lv_at hl 2 rfl) ?_
  refine lq_callMi (av := []) C hA hw (f_X10_came l D A2 cy hA.2.1 M2 hF2.1 hF2) ⟨ml_L_154, ym_X10_came, yv_X10_came, yi_X10_came, yc_X10_came⟩ yd_X10_came rfl rfl hl.1 (Nat.le_of_ble_eq_true rfl) ⟨by decide, by decide⟩ hcs dL_law_1306 (fun rM N2 H locs hpM hw => ?_)
  refine lv_pop hx hb dL_law_1309 rfl ?_
  refine lv_goto (tgt := 1521) hx hb dL_law_1310 (by decide) ?_
  exact kk N1 N2 H locs ls hw ⟨Tc, Tm, hpT.2.2.1, hpM.2.1, hpT.2.2.2.1.trans (hE0.trans (show tI N2 60 2 = tI M2 60 2 from hpM.2.2.1).symm), (fun i hi => hB0 i (by rw [← hpT.2.2.2.1]; exact hi)), (congrArg Int32.toInt (hpT.2.2.2.2.1 1 4 (by decide) (by decide))).trans hR.1, (congrArg Int32.toInt (hpT.2.2.2.2.1 1 5 (by decide) (by decide))).trans hR.2, hS1, hS2, rg, tdC_tl htd1 hpT.2.2.2.2, tdR_lw htd2 hpM.2.2.2, lE_obs hle hpT.1 hpT.2.1 hpM.1.1 (fun q => hpM.1.2.trans q) hpM.2.2.2⟩ hl
set_option maxRecDepth 100000 in
theorem lq_c30 {p : Program} {l : Launch} {e : Env} {s : State} {m : MethodId} {below : List Frame} {meth : Method} {c : Code} {D : va_G} {cy : Nat → ClassId} {A1 A2 : Nat → Nat → Nat} {M1 M2 : ti_M} {b q3 L cells slots : Nat} {iv : Int32} {xs : Nat → Int32} {H : Heap} {locs : List Loc} {ls : Array Slot} (Z : lq_Z p s m meth c D cy A1 A2 b L xs) (hcs : cells ≤ room_1.cells ∧ slots ≤ room_1.slots) (hw : lq_H s D cy A1 A2 q3 M1 M2 H locs) (hI : lq_I M1 M2) (hi : 0 ≤ iv.toInt ∧ iv.toInt + 6 ≤ L) (hl : lv_has ls 7 [(4, .int iv), (3, .ref q3), (2, .ref (A2 60 0)), (1, .ref (A1 0 0)), (0, .ref b)]) (kk : ∀ (M1 M2 : ti_M) (H : Heap) (locs : List Loc) (ls : Array Slot), lq_H s D cy A1 A2 q3 M1 M2 H locs → lq_I M1 M2 → lv_has ls 7 [(4, .int iv), (3, .ref q3), (2, .ref (A2 60 0)), (1, .ref (A1 0 0)), (0, .ref b)] → W p l e room_1 s m #[Value.ref b] below meth c H locs cells slots (lw_Z below #[Value.ref b] s) (F0 m 1521 ls [])) : W p l e room_1 s m #[Value.ref b] below meth c H locs cells slots (lw_Z below #[Value.ref b] s) (F0 m 1313 ls []) := by
  have C := Z.1
  have hA := Z.2.1
  have hx := C.1
  have hb := C.2.1
  have hbA : ¬ lq_F s b := Nat.not_le.mpr Z.2.2.2.1
  have hL := Z.2.2.2.2.2.2.1
  have hE := Z.2.2.2.2.2.2.2
  obtain ⟨Tc, Tm, hF1, hF2, hE0, hB0, hR1, hR2, hS1, hS2, rg, htd1, htd2, hle⟩ := hI
  have hR := And.intro hR1 hR2
  have hS := And.intro hS1 hS2
  refine lv_aload_n hx hb dL_law_1313 rfl (lv_at hl 3 rfl) ?_
  refine lv_aload_n hx hb dL_law_1314 rfl (lv_at hl 4 rfl) ?_
  refine lv_iload hx hb dL_law_1315 (lv_at hl 0 rfl) ?_
  refine lv_iconst (v := 1) hx hb dL_law_1317 (by decide) ?_
  refine lv_iadd hx hb dL_law_1318 ?_
  refine va_sld (i := iv + 1) hx hb Z.2.2.1 Z.2.2.2.1 hbA hw.2.2.1 (lq_in hi hL (by decide) (by decide)) dL_law_1319 ?_
  refine lv_aload_n hx hb dL_law_1320 rfl (lv_at hl 4 rfl) ?_
  refine lv_iload hx hb dL_law_1321 (lv_at hl 0 rfl) ?_
  refine lv_iconst (v := 2) hx hb dL_law_1323 (by decide) ?_
  refine lv_iadd hx hb dL_law_1324 ?_
  refine va_sld (i := iv + 2) hx hb Z.2.2.1 Z.2.2.2.1 hbA hw.2.2.1 (lq_in hi hL (by decide) (by decide)) dL_law_1325 ?_
  refine lq_callTi (av := [.int (xs (iv + 1 : Int32).toNatClampNeg), .int (xs (iv + 2 : Int32).toNatClampNeg)]) C hA hw (f_X9_one l D A1 cy hA.1 M1 hF1.1 hF1 (xs (iv + 1 : Int32).toNatClampNeg) (xs (iv + 2 : Int32).toNatClampNeg)) ⟨ml_L_155, ym_X9_one, yv_X9_one, yi_X9_one, yc_X9_one⟩ yd_X9_one rfl rfl hl.1 (Nat.le_of_ble_eq_true rfl) ⟨by decide, by decide⟩ hcs dL_law_1326 (fun rT N1 H locs hpT hw => ?_)
  refine lv_pop hx hb dL_law_1329 rfl ?_
  refine lv_aload_n hx hb dL_law_1330 rfl (lv_at hl 2 rfl) ?_
  refine lv_aload_n hx hb dL_law_1331 rfl (lv_at hl 4 rfl) ?_
  refine lv_iload hx hb dL_law_1332 (lv_at hl 0 rfl) ?_
  refine lv_iconst (v := 1) hx hb dL_law_1334 (by decide) ?_
  refine lv_iadd hx hb dL_law_1335 ?_
  refine va_sld (i := iv + 1) hx hb Z.2.2.1 Z.2.2.2.1 hbA hw.2.2.1 (lq_in hi hL (by decide) (by decide)) dL_law_1336 ?_
  refine lv_aload_n hx hb dL_law_1337 rfl (lv_at hl 4 rfl) ?_
  refine lv_iload hx hb dL_law_1338 (lv_at hl 0 rfl) ?_
  refine lv_iconst (v := 2) hx hb dL_law_1340 (by decide) ?_
  refine lv_iadd hx hb dL_law_1341 ?_
  refine va_sld (i := iv + 2) hx hb Z.2.2.1 Z.2.2.2.1 hbA hw.2.2.1 (lq_in hi hL (by decide) (by decide)) dL_law_1342 ?_
  refine lq_callMi (av := [.int (xs (iv + 1 : Int32).toNatClampNeg), .int (xs (iv + 2 : Int32).toNatClampNeg)]) C hA hw (f_X10_one l D A2 cy hA.2.1 M2 hF2.1 hF2 (xs (iv + 1 : Int32).toNatClampNeg) (xs (iv + 2 : Int32).toNatClampNeg)) ⟨ml_L_158, ym_X10_one, yv_X10_one, yi_X10_one, yc_X10_one⟩ yd_X10_one rfl rfl hl.1 (Nat.le_of_ble_eq_true rfl) ⟨by decide, by decide⟩ hcs dL_law_1343 (fun rM N2 H locs hpM hw => ?_)
  refine lv_pop hx hb dL_law_1346 rfl ?_
  refine lv_goto (tgt := 1521) hx hb dL_law_1347 (by decide) ?_
  exact kk N1 N2 H locs ls hw ⟨Tc, Tm, hpT.2.2.1, hpM.2.1, hpT.2.2.2.1.trans (hE0.trans (show tI N2 60 2 = tI M2 60 2 from hpM.2.2.1).symm), (fun i hi => hB0 i (by rw [← hpT.2.2.2.1]; exact hi)), (congrArg Int32.toInt (hpT.2.2.2.2.1 1 4 (by decide) (by decide))).trans hR.1, (congrArg Int32.toInt (hpT.2.2.2.2.1 1 5 (by decide) (by decide))).trans hR.2, hS1, hS2, rg, tdC_tl htd1 hpT.2.2.2.2, tdR_lw htd2 hpM.2.2.2, lE_obs hle hpT.1 hpT.2.1 hpM.1.1 (fun q => hpM.1.2.trans q) hpM.2.2.2⟩ hl
set_option maxRecDepth 100000 in
theorem lq_c31 {p : Program} {l : Launch} {e : Env} {s : State} {m : MethodId} {below : List Frame} {meth : Method} {c : Code} {D : va_G} {cy : Nat → ClassId} {A1 A2 : Nat → Nat → Nat} {M1 M2 : ti_M} {b q3 L cells slots : Nat} {iv : Int32} {xs : Nat → Int32} {H : Heap} {locs : List Loc} {ls : Array Slot} (Z : lq_Z p s m meth c D cy A1 A2 b L xs) (hcs : cells ≤ room_1.cells ∧ slots ≤ room_1.slots) (hw : lq_H s D cy A1 A2 q3 M1 M2 H locs) (hI : lq_I M1 M2) (hi : 0 ≤ iv.toInt ∧ iv.toInt + 6 ≤ L) (hl : lv_has ls 7 [(4, .int iv), (3, .ref q3), (2, .ref (A2 60 0)), (1, .ref (A1 0 0)), (0, .ref b)]) (kk : ∀ (M1 M2 : ti_M) (H : Heap) (locs : List Loc) (ls : Array Slot), lq_H s D cy A1 A2 q3 M1 M2 H locs → lq_I M1 M2 → lv_has ls 7 [(4, .int iv), (3, .ref q3), (2, .ref (A2 60 0)), (1, .ref (A1 0 0)), (0, .ref b)] → W p l e room_1 s m #[Value.ref b] below meth c H locs cells slots (lw_Z below #[Value.ref b] s) (F0 m 1521 ls [])) : W p l e room_1 s m #[Value.ref b] below meth c H locs cells slots (lw_Z below #[Value.ref b] s) (F0 m 1350 ls []) := by
  have C := Z.1
  have hA := Z.2.1
  have hx := C.1
  have hb := C.2.1
  have hbA : ¬ lq_F s b := Nat.not_le.mpr Z.2.2.2.1
  have hL := Z.2.2.2.2.2.2.1
  have hE := Z.2.2.2.2.2.2.2
  obtain ⟨Tc, Tm, hF1, hF2, hE0, hB0, hR1, hR2, hS1, hS2, rg, htd1, htd2, hle⟩ := hI
  have hR := And.intro hR1 hR2
  have hS := And.intro hS1 hS2
  refine lv_aload_n hx hb dL_law_1350 rfl (lv_at hl 3 rfl) ?_
  refine lv_aload_n hx hb dL_law_1351 rfl (lv_at hl 4 rfl) ?_
  refine lv_iload hx hb dL_law_1352 (lv_at hl 0 rfl) ?_
  refine lv_iconst (v := 1) hx hb dL_law_1354 (by decide) ?_
  refine lv_iadd hx hb dL_law_1355 ?_
  refine va_sld (i := iv + 1) hx hb Z.2.2.1 Z.2.2.2.1 hbA hw.2.2.1 (lq_in hi hL (by decide) (by decide)) dL_law_1356 ?_
  refine lv_aload_n hx hb dL_law_1357 rfl (lv_at hl 4 rfl) ?_
  refine lv_iload hx hb dL_law_1358 (lv_at hl 0 rfl) ?_
  refine lv_iconst (v := 2) hx hb dL_law_1360 (by decide) ?_
  refine lv_iadd hx hb dL_law_1361 ?_
  refine va_sld (i := iv + 2) hx hb Z.2.2.1 Z.2.2.2.1 hbA hw.2.2.1 (lq_in hi hL (by decide) (by decide)) dL_law_1362 ?_
  refine lq_callTi (av := [.int (xs (iv + 1 : Int32).toNatClampNeg), .int (xs (iv + 2 : Int32).toNatClampNeg)]) C hA hw (f_X9_empty l D A1 cy hA.1 M1 hF1.1 hF1 (xs (iv + 1 : Int32).toNatClampNeg) (xs (iv + 2 : Int32).toNatClampNeg)) ⟨ml_L_159, ym_X9_empty, yv_X9_empty, yi_X9_empty, yc_X9_empty⟩ yd_X9_empty rfl rfl hl.1 (Nat.le_of_ble_eq_true rfl) ⟨by decide, by decide⟩ hcs dL_law_1363 (fun rT N1 H locs hpT hw => ?_)
  refine lv_pop hx hb dL_law_1366 rfl ?_
  refine lv_aload_n hx hb dL_law_1367 rfl (lv_at hl 2 rfl) ?_
  refine lv_aload_n hx hb dL_law_1368 rfl (lv_at hl 4 rfl) ?_
  refine lv_iload hx hb dL_law_1369 (lv_at hl 0 rfl) ?_
  refine lv_iconst (v := 1) hx hb dL_law_1371 (by decide) ?_
  refine lv_iadd hx hb dL_law_1372 ?_
  refine va_sld (i := iv + 1) hx hb Z.2.2.1 Z.2.2.2.1 hbA hw.2.2.1 (lq_in hi hL (by decide) (by decide)) dL_law_1373 ?_
  refine lv_aload_n hx hb dL_law_1374 rfl (lv_at hl 4 rfl) ?_
  refine lv_iload hx hb dL_law_1375 (lv_at hl 0 rfl) ?_
  refine lv_iconst (v := 2) hx hb dL_law_1377 (by decide) ?_
  refine lv_iadd hx hb dL_law_1378 ?_
  refine va_sld (i := iv + 2) hx hb Z.2.2.1 Z.2.2.2.1 hbA hw.2.2.1 (lq_in hi hL (by decide) (by decide)) dL_law_1379 ?_
  refine lq_callMi (av := [.int (xs (iv + 1 : Int32).toNatClampNeg), .int (xs (iv + 2 : Int32).toNatClampNeg)]) C hA hw (f_X10_empty l D A2 cy hA.2.1 M2 hF2.1 hF2 (xs (iv + 1 : Int32).toNatClampNeg) (xs (iv + 2 : Int32).toNatClampNeg)) ⟨ml_L_162, ym_X10_empty, yv_X10_empty, yi_X10_empty, yc_X10_empty⟩ yd_X10_empty rfl rfl hl.1 (Nat.le_of_ble_eq_true rfl) ⟨by decide, by decide⟩ hcs dL_law_1380 (fun rM N2 H locs hpM hw => ?_)
  refine lv_pop hx hb dL_law_1383 rfl ?_
  refine lv_goto (tgt := 1521) hx hb dL_law_1384 (by decide) ?_
  exact kk N1 N2 H locs ls hw ⟨Tc, Tm, hpT.2.2.1, hpM.2.1, hpT.2.2.2.1.trans (hE0.trans (show tI N2 60 2 = tI M2 60 2 from hpM.2.2.1).symm), (fun i hi => hB0 i (by rw [← hpT.2.2.2.1]; exact hi)), (congrArg Int32.toInt (hpT.2.2.2.2.1 1 4 (by decide) (by decide))).trans hR.1, (congrArg Int32.toInt (hpT.2.2.2.2.1 1 5 (by decide) (by decide))).trans hR.2, hS1, hS2, rg, tdC_tl htd1 hpT.2.2.2.2, tdR_lw htd2 hpM.2.2.2, lE_obs hle hpT.1 hpT.2.1 hpM.1.1 (fun q => hpM.1.2.trans q) hpM.2.2.2⟩ hl
set_option maxRecDepth 100000 in
theorem lq_c32 {p : Program} {l : Launch} {e : Env} {s : State} {m : MethodId} {below : List Frame} {meth : Method} {c : Code} {D : va_G} {cy : Nat → ClassId} {A1 A2 : Nat → Nat → Nat} {M1 M2 : ti_M} {b q3 L cells slots : Nat} {iv : Int32} {xs : Nat → Int32} {H : Heap} {locs : List Loc} {ls : Array Slot} (Z : lq_Z p s m meth c D cy A1 A2 b L xs) (hcs : cells ≤ room_1.cells ∧ slots ≤ room_1.slots) (hw : lq_H s D cy A1 A2 q3 M1 M2 H locs) (hI : lq_I M1 M2) (hi : 0 ≤ iv.toInt ∧ iv.toInt + 6 ≤ L) (hl : lv_has ls 7 [(4, .int iv), (3, .ref q3), (2, .ref (A2 60 0)), (1, .ref (A1 0 0)), (0, .ref b)]) (kk : ∀ (M1 M2 : ti_M) (H : Heap) (locs : List Loc) (ls : Array Slot), lq_H s D cy A1 A2 q3 M1 M2 H locs → lq_I M1 M2 → lv_has ls 7 [(4, .int iv), (3, .ref q3), (2, .ref (A2 60 0)), (1, .ref (A1 0 0)), (0, .ref b)] → W p l e room_1 s m #[Value.ref b] below meth c H locs cells slots (lw_Z below #[Value.ref b] s) (F0 m 1521 ls [])) : W p l e room_1 s m #[Value.ref b] below meth c H locs cells slots (lw_Z below #[Value.ref b] s) (F0 m 1387 ls []) := by
  have C := Z.1
  have hA := Z.2.1
  have hx := C.1
  have hb := C.2.1
  have hbA : ¬ lq_F s b := Nat.not_le.mpr Z.2.2.2.1
  have hL := Z.2.2.2.2.2.2.1
  have hE := Z.2.2.2.2.2.2.2
  obtain ⟨Tc, Tm, hF1, hF2, hE0, hB0, hR1, hR2, hS1, hS2, rg, htd1, htd2, hle⟩ := hI
  have hR := And.intro hR1 hR2
  have hS := And.intro hS1 hS2
  refine lv_aload_n hx hb dL_law_1387 rfl (lv_at hl 3 rfl) ?_
  refine lv_aload_n hx hb dL_law_1388 rfl (lv_at hl 4 rfl) ?_
  refine lv_iload hx hb dL_law_1389 (lv_at hl 0 rfl) ?_
  refine lv_iconst (v := 1) hx hb dL_law_1391 (by decide) ?_
  refine lv_iadd hx hb dL_law_1392 ?_
  refine va_sld (i := iv + 1) hx hb Z.2.2.1 Z.2.2.2.1 hbA hw.2.2.1 (lq_in hi hL (by decide) (by decide)) dL_law_1393 ?_
  refine lv_aload_n hx hb dL_law_1394 rfl (lv_at hl 4 rfl) ?_
  refine lv_iload hx hb dL_law_1395 (lv_at hl 0 rfl) ?_
  refine lv_iconst (v := 2) hx hb dL_law_1397 (by decide) ?_
  refine lv_iadd hx hb dL_law_1398 ?_
  refine va_sld (i := iv + 2) hx hb Z.2.2.1 Z.2.2.2.1 hbA hw.2.2.1 (lq_in hi hL (by decide) (by decide)) dL_law_1399 ?_
  refine lv_aload_n hx hb dL_law_1400 rfl (lv_at hl 4 rfl) ?_
  refine lv_iload hx hb dL_law_1401 (lv_at hl 0 rfl) ?_
  refine lv_iconst (v := 3) hx hb dL_law_1403 (by decide) ?_
  refine lv_iadd hx hb dL_law_1404 ?_
  refine va_sld (i := iv + 3) hx hb Z.2.2.1 Z.2.2.2.1 hbA hw.2.2.1 (lq_in hi hL (by decide) (by decide)) dL_law_1405 ?_
  refine lq_callTi (av := [.int (xs (iv + 1 : Int32).toNatClampNeg), .int (xs (iv + 2 : Int32).toNatClampNeg), .int (xs (iv + 3 : Int32).toNatClampNeg)]) C hA hw (f_X9_chance l D A1 cy hA.1 M1 hF1.1 hF1 (xs (iv + 1 : Int32).toNatClampNeg) (xs (iv + 2 : Int32).toNatClampNeg) (xs (iv + 3 : Int32).toNatClampNeg)) ⟨ml_L_163, ym_X9_chance, yv_X9_chance, yi_X9_chance, yc_X9_chance⟩ yd_X9_chance rfl rfl hl.1 (Nat.le_of_ble_eq_true rfl) ⟨by decide, by decide⟩ hcs dL_law_1406 (fun rT N1 H locs hpT hw => ?_)
  refine lv_pop hx hb dL_law_1409 rfl ?_
  refine lv_aload_n hx hb dL_law_1410 rfl (lv_at hl 2 rfl) ?_
  refine lv_aload_n hx hb dL_law_1411 rfl (lv_at hl 4 rfl) ?_
  refine lv_iload hx hb dL_law_1412 (lv_at hl 0 rfl) ?_
  refine lv_iconst (v := 1) hx hb dL_law_1414 (by decide) ?_
  refine lv_iadd hx hb dL_law_1415 ?_
  refine va_sld (i := iv + 1) hx hb Z.2.2.1 Z.2.2.2.1 hbA hw.2.2.1 (lq_in hi hL (by decide) (by decide)) dL_law_1416 ?_
  refine lv_aload_n hx hb dL_law_1417 rfl (lv_at hl 4 rfl) ?_
  refine lv_iload hx hb dL_law_1418 (lv_at hl 0 rfl) ?_
  refine lv_iconst (v := 2) hx hb dL_law_1420 (by decide) ?_
  refine lv_iadd hx hb dL_law_1421 ?_
  refine va_sld (i := iv + 2) hx hb Z.2.2.1 Z.2.2.2.1 hbA hw.2.2.1 (lq_in hi hL (by decide) (by decide)) dL_law_1422 ?_
  refine lv_aload_n hx hb dL_law_1423 rfl (lv_at hl 4 rfl) ?_
  refine lv_iload hx hb dL_law_1424 (lv_at hl 0 rfl) ?_
  refine lv_iconst (v := 3) hx hb dL_law_1426 (by decide) ?_
  refine lv_iadd hx hb dL_law_1427 ?_
  refine va_sld (i := iv + 3) hx hb Z.2.2.1 Z.2.2.2.1 hbA hw.2.2.1 (lq_in hi hL (by decide) (by decide)) dL_law_1428 ?_
  refine lq_callMi (av := [.int (xs (iv + 1 : Int32).toNatClampNeg), .int (xs (iv + 2 : Int32).toNatClampNeg), .int (xs (iv + 3 : Int32).toNatClampNeg)]) C hA hw (f_X10_chance l D A2 cy hA.2.1 M2 hF2.1 hF2 (xs (iv + 1 : Int32).toNatClampNeg) (xs (iv + 2 : Int32).toNatClampNeg) (xs (iv + 3 : Int32).toNatClampNeg)) ⟨ml_L_166, ym_X10_chance, yv_X10_chance, yi_X10_chance, yc_X10_chance⟩ yd_X10_chance rfl rfl hl.1 (Nat.le_of_ble_eq_true rfl) ⟨by decide, by decide⟩ hcs dL_law_1429 (fun rM N2 H locs hpM hw => ?_)
  refine lv_pop hx hb dL_law_1432 rfl ?_
  refine lv_goto (tgt := 1521) hx hb dL_law_1433 (by decide) ?_
  exact kk N1 N2 H locs ls hw ⟨Tc, Tm, hpT.2.2.1, hpM.2.1, hpT.2.2.2.1.trans (hE0.trans (show tI N2 60 2 = tI M2 60 2 from hpM.2.2.1).symm), (fun i hi => hB0 i (by rw [← hpT.2.2.2.1]; exact hi)), (congrArg Int32.toInt (hpT.2.2.2.2.1 1 4 (by decide) (by decide))).trans hR.1, (congrArg Int32.toInt (hpT.2.2.2.2.1 1 5 (by decide) (by decide))).trans hR.2, hS1, hS2, rg, tdC_tl htd1 hpT.2.2.2.2, tdR_lw htd2 hpM.2.2.2, lE_obs hle hpT.1 hpT.2.1 hpM.1.1 (fun q => hpM.1.2.trans q) hpM.2.2.2⟩ hl
set_option maxRecDepth 100000 in
theorem lq_c33 {p : Program} {l : Launch} {e : Env} {s : State} {m : MethodId} {below : List Frame} {meth : Method} {c : Code} {D : va_G} {cy : Nat → ClassId} {A1 A2 : Nat → Nat → Nat} {M1 M2 : ti_M} {b q3 L cells slots : Nat} {iv : Int32} {xs : Nat → Int32} {H : Heap} {locs : List Loc} {ls : Array Slot} (Z : lq_Z p s m meth c D cy A1 A2 b L xs) (hcs : cells ≤ room_1.cells ∧ slots ≤ room_1.slots) (hw : lq_H s D cy A1 A2 q3 M1 M2 H locs) (hI : lq_I M1 M2) (hi : 0 ≤ iv.toInt ∧ iv.toInt + 6 ≤ L) (hl : lv_has ls 7 [(4, .int iv), (3, .ref q3), (2, .ref (A2 60 0)), (1, .ref (A1 0 0)), (0, .ref b)]) (kk : ∀ (M1 M2 : ti_M) (H : Heap) (locs : List Loc) (ls : Array Slot), lq_H s D cy A1 A2 q3 M1 M2 H locs → lq_I M1 M2 → lv_has ls 7 [(4, .int iv), (3, .ref q3), (2, .ref (A2 60 0)), (1, .ref (A1 0 0)), (0, .ref b)] → W p l e room_1 s m #[Value.ref b] below meth c H locs cells slots (lw_Z below #[Value.ref b] s) (F0 m 1521 ls [])) : W p l e room_1 s m #[Value.ref b] below meth c H locs cells slots (lw_Z below #[Value.ref b] s) (F0 m 1436 ls []) := by
  have C := Z.1
  have hA := Z.2.1
  have hx := C.1
  have hb := C.2.1
  have hbA : ¬ lq_F s b := Nat.not_le.mpr Z.2.2.2.1
  have hL := Z.2.2.2.2.2.2.1
  have hE := Z.2.2.2.2.2.2.2
  obtain ⟨Tc, Tm, hF1, hF2, hE0, hB0, hR1, hR2, hS1, hS2, rg, htd1, htd2, hle⟩ := hI
  have hR := And.intro hR1 hR2
  have hS := And.intro hS1 hS2
  refine lv_aload_n hx hb dL_law_1436 rfl (lv_at hl 3 rfl) ?_
  refine lv_aload_n hx hb dL_law_1437 rfl (lv_at hl 4 rfl) ?_
  refine lv_iload hx hb dL_law_1438 (lv_at hl 0 rfl) ?_
  refine lv_iconst (v := 1) hx hb dL_law_1440 (by decide) ?_
  refine lv_iadd hx hb dL_law_1441 ?_
  refine va_sld (i := iv + 1) hx hb Z.2.2.1 Z.2.2.2.1 hbA hw.2.2.1 (lq_in hi hL (by decide) (by decide)) dL_law_1442 ?_
  refine lv_aload_n hx hb dL_law_1443 rfl (lv_at hl 4 rfl) ?_
  refine lv_iload hx hb dL_law_1444 (lv_at hl 0 rfl) ?_
  refine lv_iconst (v := 2) hx hb dL_law_1446 (by decide) ?_
  refine lv_iadd hx hb dL_law_1447 ?_
  refine va_sld (i := iv + 2) hx hb Z.2.2.1 Z.2.2.2.1 hbA hw.2.2.1 (lq_in hi hL (by decide) (by decide)) dL_law_1448 ?_
  refine lv_aload_n hx hb dL_law_1449 rfl (lv_at hl 4 rfl) ?_
  refine lv_iload hx hb dL_law_1450 (lv_at hl 0 rfl) ?_
  refine lv_iconst (v := 3) hx hb dL_law_1452 (by decide) ?_
  refine lv_iadd hx hb dL_law_1453 ?_
  refine va_sld (i := iv + 3) hx hb Z.2.2.1 Z.2.2.2.1 hbA hw.2.2.1 (lq_in hi hL (by decide) (by decide)) dL_law_1454 ?_
  refine lq_callTi (av := [.int (xs (iv + 1 : Int32).toNatClampNeg), .int (xs (iv + 2 : Int32).toNatClampNeg), .int (xs (iv + 3 : Int32).toNatClampNeg)]) C hA hw (f_X9_tried l D A1 cy hA.1 M1 hF1.1 hF1 (xs (iv + 1 : Int32).toNatClampNeg) (xs (iv + 2 : Int32).toNatClampNeg) (xs (iv + 3 : Int32).toNatClampNeg)) ⟨ml_L_167, ym_X9_tried, yv_X9_tried, yi_X9_tried, yc_X9_tried⟩ yd_X9_tried rfl rfl hl.1 (Nat.le_of_ble_eq_true rfl) ⟨by decide, by decide⟩ hcs dL_law_1455 (fun rT N1 H locs hpT hw => ?_)
  refine lv_pop hx hb dL_law_1458 rfl ?_
  refine lv_aload_n hx hb dL_law_1459 rfl (lv_at hl 2 rfl) ?_
  refine lv_aload_n hx hb dL_law_1460 rfl (lv_at hl 4 rfl) ?_
  refine lv_iload hx hb dL_law_1461 (lv_at hl 0 rfl) ?_
  refine lv_iconst (v := 1) hx hb dL_law_1463 (by decide) ?_
  refine lv_iadd hx hb dL_law_1464 ?_
  refine va_sld (i := iv + 1) hx hb Z.2.2.1 Z.2.2.2.1 hbA hw.2.2.1 (lq_in hi hL (by decide) (by decide)) dL_law_1465 ?_
  refine lv_aload_n hx hb dL_law_1466 rfl (lv_at hl 4 rfl) ?_
  refine lv_iload hx hb dL_law_1467 (lv_at hl 0 rfl) ?_
  refine lv_iconst (v := 2) hx hb dL_law_1469 (by decide) ?_
  refine lv_iadd hx hb dL_law_1470 ?_
  refine va_sld (i := iv + 2) hx hb Z.2.2.1 Z.2.2.2.1 hbA hw.2.2.1 (lq_in hi hL (by decide) (by decide)) dL_law_1471 ?_
  refine lv_aload_n hx hb dL_law_1472 rfl (lv_at hl 4 rfl) ?_
  refine lv_iload hx hb dL_law_1473 (lv_at hl 0 rfl) ?_
  refine lv_iconst (v := 3) hx hb dL_law_1475 (by decide) ?_
  refine lv_iadd hx hb dL_law_1476 ?_
  refine va_sld (i := iv + 3) hx hb Z.2.2.1 Z.2.2.2.1 hbA hw.2.2.1 (lq_in hi hL (by decide) (by decide)) dL_law_1477 ?_
  refine lq_callMi (av := [.int (xs (iv + 1 : Int32).toNatClampNeg), .int (xs (iv + 2 : Int32).toNatClampNeg), .int (xs (iv + 3 : Int32).toNatClampNeg)]) C hA hw (f_X10_tried l D A2 cy hA.2.1 M2 hF2.1 hF2 (xs (iv + 1 : Int32).toNatClampNeg) (xs (iv + 2 : Int32).toNatClampNeg) (xs (iv + 3 : Int32).toNatClampNeg)) ⟨ml_L_170, ym_X10_tried, yv_X10_tried, yi_X10_tried, yc_X10_tried⟩ yd_X10_tried rfl rfl hl.1 (Nat.le_of_ble_eq_true rfl) ⟨by decide, by decide⟩ hcs dL_law_1478 (fun rM N2 H locs hpM hw => ?_)
  refine lv_pop hx hb dL_law_1481 rfl ?_
  refine lv_goto (tgt := 1521) hx hb dL_law_1482 (by decide) ?_
  exact kk N1 N2 H locs ls hw ⟨Tc, Tm, hpT.2.2.1, hpM.2.2.1, hpT.2.2.2.1.trans (hE0.trans (show tI N2 60 2 = tI M2 60 2 from hpM.2.2.2.1).symm), (fun i hi => hB0 i (by rw [← hpT.2.2.2.1]; exact hi)), (congrArg Int32.toInt (hpT.2.2.2.2.1 1 4 (by decide) (by decide))).trans hR.1, (congrArg Int32.toInt (hpT.2.2.2.2.1 1 5 (by decide) (by decide))).trans hR.2, hS1, hS2, rg, tdC_tl htd1 hpT.2.2.2.2, tdR_lw htd2 hpM.2.2.2.2, lE_obs hle hpT.1 hpT.2.1 hpM.1 hpM.2.1 hpM.2.2.2.2⟩ hl
set_option maxRecDepth 100000 in
theorem lq_c34 {p : Program} {l : Launch} {e : Env} {s : State} {m : MethodId} {below : List Frame} {meth : Method} {c : Code} {D : va_G} {cy : Nat → ClassId} {A1 A2 : Nat → Nat → Nat} {M1 M2 : ti_M} {b q3 L cells slots : Nat} {iv : Int32} {xs : Nat → Int32} {H : Heap} {locs : List Loc} {ls : Array Slot} (Z : lq_Z p s m meth c D cy A1 A2 b L xs) (hcs : cells ≤ room_1.cells ∧ slots ≤ room_1.slots) (hw : lq_H s D cy A1 A2 q3 M1 M2 H locs) (hI : lq_I M1 M2) (hi : 0 ≤ iv.toInt ∧ iv.toInt + 6 ≤ L) (hl : lv_has ls 7 [(4, .int iv), (3, .ref q3), (2, .ref (A2 60 0)), (1, .ref (A1 0 0)), (0, .ref b)]) (kk : ∀ (M1 M2 : ti_M) (H : Heap) (locs : List Loc) (ls : Array Slot), lq_H s D cy A1 A2 q3 M1 M2 H locs → lq_I M1 M2 → lv_has ls 7 [(4, .int iv), (3, .ref q3), (2, .ref (A2 60 0)), (1, .ref (A1 0 0)), (0, .ref b)] → W p l e room_1 s m #[Value.ref b] below meth c H locs cells slots (lw_Z below #[Value.ref b] s) (F0 m 1521 ls [])) : W p l e room_1 s m #[Value.ref b] below meth c H locs cells slots (lw_Z below #[Value.ref b] s) (F0 m 1485 ls []) := by
  have C := Z.1
  have hA := Z.2.1
  have hx := C.1
  have hb := C.2.1
  have hbA : ¬ lq_F s b := Nat.not_le.mpr Z.2.2.2.1
  have hL := Z.2.2.2.2.2.2.1
  have hE := Z.2.2.2.2.2.2.2
  obtain ⟨Tc, Tm, hF1, hF2, hE0, hB0, hR1, hR2, hS1, hS2, rg, htd1, htd2, hle⟩ := hI
  have hR := And.intro hR1 hR2
  have hS := And.intro hS1 hS2
  obtain ⟨t9, tx9, s9, p9, si9, u9, c9, hb9⟩ := id hle
  obtain ⟨ht9, hkC9, hkR9, hW9, ⟨hw9, h19⟩, hU9, hi9⟩ := id hb9
  have m9 : 0 ≤ s9 2 ∧ s9 2 ≤ 120 := by
    have b : ib 0 120 (tY M2 60 34 0) := hF2.1.2.1 34 0 (by decide)
    rw [hkR9.2.1.1.1]; exact b
  refine lv_aload_n hx hb dL_law_1485 rfl (lv_at hl 3 rfl) ?_
  refine lq_callTi (av := []) C hA hw (z_X9_undo l D A1 cy hA.1 M1 hF1.1 hF1 t9 ht9 tx9 s9 p9 u9 c9 hkC9) ⟨ml_L_171, ym_X9_undo, yv_X9_undo, yi_X9_undo, yc_X9_undo⟩ yd_X9_undo rfl rfl hl.1 (Nat.le_of_ble_eq_true rfl) ⟨by decide, by decide⟩ hcs dL_law_1486 (fun rT N1 H locs hpT hw => ?_)
  refine lv_pop hx hb dL_law_1489 rfl ?_
  refine lv_aload_n hx hb dL_law_1490 rfl (lv_at hl 2 rfl) ?_
  refine lq_callMi (av := []) C hA hw (z_X10_undo l D A2 cy hA.2.1 M2 hF2.1 hF2 tx9 s9 p9 u9 c9 hW9.1 hW9 hw9 h19 hkR9 (fun i hi => (hU9.2 i hi).2.2)) ⟨ml_L_174, ym_X10_undo, yv_X10_undo, yi_X10_undo, yc_X10_undo⟩ yd_X10_undo rfl rfl hl.1 (Nat.le_of_ble_eq_true rfl) ⟨by decide, by decide⟩ hcs dL_law_1491 (fun rM N2 H locs hpM hw => ?_)
  refine lv_pop hx hb dL_law_1494 rfl ?_
  have q := lq_sp hF1 hE0 hB0 hR hS htd1 htd2 hpT hpM (fun _ => rfl) (fun a b => by omega) (fun a b => by omega) (fun i y => ⟨_, _, _, _, _, _, _, lB_no hb9 i y⟩) (fun q g i x y => ⟨_, _, _, _, _, _, _, lB_un hb9 g i q x y⟩)
  refine lv_goto (tgt := 1521) hx hb dL_law_1495 (by decide) ?_
  exact kk N1 N2 H locs ls hw q.2 hl
set_option maxRecDepth 100000 in
theorem lq_c35 {p : Program} {l : Launch} {e : Env} {s : State} {m : MethodId} {below : List Frame} {meth : Method} {c : Code} {D : va_G} {cy : Nat → ClassId} {A1 A2 : Nat → Nat → Nat} {M1 M2 : ti_M} {b q3 L cells slots : Nat} {iv : Int32} {xs : Nat → Int32} {H : Heap} {locs : List Loc} {ls : Array Slot} (Z : lq_Z p s m meth c D cy A1 A2 b L xs) (hcs : cells ≤ room_1.cells ∧ slots ≤ room_1.slots) (hw : lq_H s D cy A1 A2 q3 M1 M2 H locs) (hI : lq_I M1 M2) (hi : 0 ≤ iv.toInt ∧ iv.toInt + 6 ≤ L) (hl : lv_has ls 7 [(4, .int iv), (3, .ref q3), (2, .ref (A2 60 0)), (1, .ref (A1 0 0)), (0, .ref b)]) (kk : ∀ (M1 M2 : ti_M) (H : Heap) (locs : List Loc) (ls : Array Slot), lq_H s D cy A1 A2 q3 M1 M2 H locs → lq_I M1 M2 → lv_has ls 7 [(4, .int iv), (3, .ref q3), (2, .ref (A2 60 0)), (1, .ref (A1 0 0)), (0, .ref b)] → W p l e room_1 s m #[Value.ref b] below meth c H locs cells slots (lw_Z below #[Value.ref b] s) (F0 m 1521 ls [])) : W p l e room_1 s m #[Value.ref b] below meth c H locs cells slots (lw_Z below #[Value.ref b] s) (F0 m 1498 ls []) := by
  have C := Z.1
  have hA := Z.2.1
  have hx := C.1
  have hb := C.2.1
  have hbA : ¬ lq_F s b := Nat.not_le.mpr Z.2.2.2.1
  have hL := Z.2.2.2.2.2.2.1
  have hE := Z.2.2.2.2.2.2.2
  obtain ⟨Tc, Tm, hF1, hF2, hE0, hB0, hR1, hR2, hS1, hS2, rg, htd1, htd2, hle⟩ := hI
  have hR := And.intro hR1 hR2
  have hS := And.intro hS1 hS2
  obtain ⟨t9, tx9, s9, p9, si9, u9, c9, hb9⟩ := id hle
  obtain ⟨ht9, hkC9, hkR9, hW9, ⟨hw9, h19⟩, hU9, hi9⟩ := id hb9
  have m9 : 0 ≤ s9 2 ∧ s9 2 ≤ 120 := by
    have b : ib 0 120 (tY M2 60 34 0) := hF2.1.2.1 34 0 (by decide)
    rw [hkR9.2.1.1.1]; exact b
  refine lv_aload_n hx hb dL_law_1498 rfl (lv_at hl 3 rfl) ?_
  refine lq_callTi (av := []) C hA hw (z_X9_keep l D A1 cy hA.1 M1 hF1.1 hF1 t9 ht9 tx9 s9 p9 u9 c9 hkC9) ⟨ml_L_175, ym_X9_keep, yv_X9_keep, yi_X9_keep, yc_X9_keep⟩ yd_X9_keep rfl rfl hl.1 (Nat.le_of_ble_eq_true rfl) ⟨by decide, by decide⟩ hcs dL_law_1499 (fun rT N1 H locs hpT hw => ?_)
  refine lv_pop hx hb dL_law_1502 rfl ?_
  refine lv_aload_n hx hb dL_law_1503 rfl (lv_at hl 2 rfl) ?_
  refine lq_callMi (av := []) C hA hw (z_X10_keep l D A2 cy hA.2.1 M2 hF2.1 hF2 tx9 s9 p9 u9 c9 hW9.1 hW9 hw9 h19 hkR9) ⟨ml_L_178, ym_X10_keep, yv_X10_keep, yi_X10_keep, yc_X10_keep⟩ yd_X10_keep rfl rfl hl.1 (Nat.le_of_ble_eq_true rfl) ⟨by decide, by decide⟩ hcs dL_law_1504 (fun rM N2 H locs hpM hw => ?_)
  refine lv_pop hx hb dL_law_1507 rfl ?_
  have q := lq_kp hE0 hB0 hR hS htd1 htd2 hb9 hpT hpM
  refine lv_goto (tgt := 1521) hx hb dL_law_1508 (by decide) ?_
  exact kk N1 N2 H locs ls hw q.2 hl
set_option maxRecDepth 100000 in
theorem lq_c36 {p : Program} {l : Launch} {e : Env} {s : State} {m : MethodId} {below : List Frame} {meth : Method} {c : Code} {D : va_G} {cy : Nat → ClassId} {A1 A2 : Nat → Nat → Nat} {M1 M2 : ti_M} {b q3 L cells slots : Nat} {iv : Int32} {xs : Nat → Int32} {H : Heap} {locs : List Loc} {ls : Array Slot} (Z : lq_Z p s m meth c D cy A1 A2 b L xs) (hcs : cells ≤ room_1.cells ∧ slots ≤ room_1.slots) (hw : lq_H s D cy A1 A2 q3 M1 M2 H locs) (hI : lq_I M1 M2) (hi : 0 ≤ iv.toInt ∧ iv.toInt + 6 ≤ L) (hl : lv_has ls 7 [(4, .int iv), (3, .ref q3), (2, .ref (A2 60 0)), (1, .ref (A1 0 0)), (0, .ref b)]) (kk : ∀ (M1 M2 : ti_M) (H : Heap) (locs : List Loc) (ls : Array Slot), lq_H s D cy A1 A2 q3 M1 M2 H locs → lq_I M1 M2 → lv_has ls 7 [(4, .int iv), (3, .ref q3), (2, .ref (A2 60 0)), (1, .ref (A1 0 0)), (0, .ref b)] → W p l e room_1 s m #[Value.ref b] below meth c H locs cells slots (lw_Z below #[Value.ref b] s) (F0 m 1521 ls [])) : W p l e room_1 s m #[Value.ref b] below meth c H locs cells slots (lw_Z below #[Value.ref b] s) (F0 m 1511 ls []) := by
  have C := Z.1
  have hA := Z.2.1
  have hx := C.1
  have hb := C.2.1
  have hbA : ¬ lq_F s b := Nat.not_le.mpr Z.2.2.2.1
  have hL := Z.2.2.2.2.2.2.1
  have hE := Z.2.2.2.2.2.2.2
  obtain ⟨Tc, Tm, hF1, hF2, hE0, hB0, hR1, hR2, hS1, hS2, rg, htd1, htd2, hle⟩ := hI
  have hR := And.intro hR1 hR2
  have hS := And.intro hS1 hS2
  obtain ⟨t9, tx9, s9, p9, si9, u9, c9, hb9⟩ := id hle
  obtain ⟨ht9, hkC9, hkR9, hW9, ⟨hw9, h19⟩, hU9, hi9⟩ := id hb9
  have m9 : 0 ≤ s9 2 ∧ s9 2 ≤ 120 := by
    have b : ib 0 120 (tY M2 60 34 0) := hF2.1.2.1 34 0 (by decide)
    rw [hkR9.2.1.1.1]; exact b
  have hi2 : (tI M1 0 7).toInt = 0 ↔ (tI M2 60 51).toInt = 0 := by
    rcases hi9 with ⟨a, b⟩ | ⟨a, b, -⟩
    · exact ⟨fun _ => b, fun _ => a⟩
    · exact ⟨fun x => absurd x a, fun x => absurd x b⟩
  refine lv_aload_n hx hb dL_law_1511 rfl (lv_at hl 3 rfl) ?_
  refine lq_callTi (av := []) C hA hw (z_X9_back l D A1 cy hA.1 M1 hF1.1 hF1 t9 ht9 tx9 s9 p9 u9 c9 hkC9 si9 (fun q => by
      rcases hi9 with ⟨a, -⟩ | ⟨-, -, x, -⟩
      · exact absurd a q
      · exact x)) ⟨ml_L_179, ym_X9_back, yv_X9_back, yi_X9_back, yc_X9_back⟩ yd_X9_back rfl rfl hl.1 (Nat.le_of_ble_eq_true rfl) ⟨by decide, by decide⟩ hcs dL_law_1512 (fun rT N1 H locs hpT hw => ?_)
  refine lv_pop hx hb dL_law_1515 rfl ?_
  refine lv_aload_n hx hb dL_law_1516 rfl (lv_at hl 2 rfl) ?_
  refine lq_callMi (av := []) C hA hw (z_X10_back l D A2 cy hA.2.1 M2 hF2.1 hF2 tx9 s9 p9 u9 c9 hW9.1 hW9 hw9 h19 hkR9 si9 (fun q => by
      rcases hi9 with ⟨-, a⟩ | ⟨-, -, -, x, -⟩
      · exact absurd a q
      · exact x)) ⟨ml_L_182, ym_X10_back, yv_X10_back, yi_X10_back, yc_X10_back⟩ yd_X10_back rfl rfl hl.1 (Nat.le_of_ble_eq_true rfl) ⟨by decide, by decide⟩ hcs dL_law_1517 (fun rM N2 H locs hpM hw => ?_)
  refine lv_pop hx hb dL_law_1520 rfl ?_
  have q := lq_sp hF1 hE0 hB0 hR hS htd1 htd2 hpT hpM (fun _ => rfl) (fun a b => b (hi2.mp a)) (fun a b => b (hi2.mpr a)) (fun i y => ⟨_, _, _, _, _, _, _, lB_no hb9 i y⟩) (fun q g i x y => ⟨_, _, _, _, _, _, _, lB_bk hb9 g i q x y⟩)
  refine lv_goto (tgt := 1521) hx hb dL_law_1521 (by decide) ?_
  exact kk N1 N2 H locs ls hw q.2 hl
set_option maxRecDepth 100000 in
theorem lq_c37 {p : Program} {l : Launch} {e : Env} {s : State} {m : MethodId} {below : List Frame} {meth : Method} {c : Code} {D : va_G} {cy : Nat → ClassId} {A1 A2 : Nat → Nat → Nat} {M1 M2 : ti_M} {b q3 L cells slots : Nat} {iv : Int32} {xs : Nat → Int32} {H : Heap} {locs : List Loc} {ls : Array Slot} (Z : lq_Z p s m meth c D cy A1 A2 b L xs) (hcs : cells ≤ room_1.cells ∧ slots ≤ room_1.slots) (hw : lq_H s D cy A1 A2 q3 M1 M2 H locs) (hI : lq_I M1 M2) (hi : 0 ≤ iv.toInt ∧ iv.toInt + 6 ≤ L) (hl : lv_has ls 7 [(4, .int iv), (3, .ref q3), (2, .ref (A2 60 0)), (1, .ref (A1 0 0)), (0, .ref b)]) (kk : ∀ (M1 M2 : ti_M) (H : Heap) (locs : List Loc) (ls : Array Slot), lq_H s D cy A1 A2 q3 M1 M2 H locs → lq_I M1 M2 → lv_has ls 7 [(4, .int iv), (3, .ref q3), (2, .ref (A2 60 0)), (1, .ref (A1 0 0)), (0, .ref b)] → W p l e room_1 s m #[Value.ref b] below meth c H locs cells slots (lw_Z below #[Value.ref b] s) (F0 m 1521 ls [])) : W p l e room_1 s m #[Value.ref b] below meth c H locs cells slots (lw_Z below #[Value.ref b] s) (F0 m 1524 ls []) := by
  have C := Z.1
  have hA := Z.2.1
  have hx := C.1
  have hb := C.2.1
  have hbA : ¬ lq_F s b := Nat.not_le.mpr Z.2.2.2.1
  have hL := Z.2.2.2.2.2.2.1
  have hE := Z.2.2.2.2.2.2.2
  obtain ⟨Tc, Tm, hF1, hF2, hE0, hB0, hR1, hR2, hS1, hS2, rg, htd1, htd2, hle⟩ := hI
  have hR := And.intro hR1 hR2
  have hS := And.intro hS1 hS2
  refine lv_aload_n hx hb dL_law_1524 rfl (lv_at hl 3 rfl) ?_
  refine lv_aload_n hx hb dL_law_1525 rfl (lv_at hl 4 rfl) ?_
  refine lv_iload hx hb dL_law_1526 (lv_at hl 0 rfl) ?_
  refine lv_iconst (v := 1) hx hb dL_law_1528 (by decide) ?_
  refine lv_iadd hx hb dL_law_1529 ?_
  refine va_sld (i := iv + 1) hx hb Z.2.2.1 Z.2.2.2.1 hbA hw.2.2.1 (lq_in hi hL (by decide) (by decide)) dL_law_1530 ?_
  refine lq_callTi (av := [.int (xs (iv + 1 : Int32).toNatClampNeg)]) C hA hw (f_X9_count l D A1 cy hA.1 M1 hF1.1 hF1 (xs (iv + 1 : Int32).toNatClampNeg)) ⟨ml_L_183, ym_X9_count, yv_X9_count, yi_X9_count, yc_X9_count⟩ yd_X9_count rfl rfl hl.1 (Nat.le_of_ble_eq_true rfl) ⟨by decide, by decide⟩ hcs dL_law_1531 (fun rT N1 H locs hpT hw => ?_)
  refine lv_pop hx hb dL_law_1534 rfl ?_
  refine lv_aload_n hx hb dL_law_1535 rfl (lv_at hl 2 rfl) ?_
  refine lv_aload_n hx hb dL_law_1536 rfl (lv_at hl 4 rfl) ?_
  refine lv_iload hx hb dL_law_1537 (lv_at hl 0 rfl) ?_
  refine lv_iconst (v := 1) hx hb dL_law_1539 (by decide) ?_
  refine lv_iadd hx hb dL_law_1540 ?_
  refine va_sld (i := iv + 1) hx hb Z.2.2.1 Z.2.2.2.1 hbA hw.2.2.1 (lq_in hi hL (by decide) (by decide)) dL_law_1541 ?_
  refine lq_callMi (av := [.int (xs (iv + 1 : Int32).toNatClampNeg)]) C hA hw (f_X10_count l D A2 cy hA.2.1 M2 hF2.1 hF2 (xs (iv + 1 : Int32).toNatClampNeg)) ⟨ml_L_186, ym_X10_count, yv_X10_count, yi_X10_count, yc_X10_count⟩ yd_X10_count rfl rfl hl.1 (Nat.le_of_ble_eq_true rfl) ⟨by decide, by decide⟩ hcs dL_law_1542 (fun rM N2 H locs hpM hw => ?_)
  refine lv_pop hx hb dL_law_1545 rfl ?_
  refine lv_goto (tgt := 1521) hx hb dL_law_1546 (by decide) ?_
  exact kk N1 N2 H locs ls hw ⟨Tc, Tm, hpT.2.2.1, hpM.2.1, hpT.2.2.2.1.trans (hE0.trans (show tI N2 60 2 = tI M2 60 2 from hpM.2.2.1).symm), (fun i hi => hB0 i (by rw [← hpT.2.2.2.1]; exact hi)), (congrArg Int32.toInt (hpT.2.2.2.2.1 1 4 (by decide) (by decide))).trans hR.1, (congrArg Int32.toInt (hpT.2.2.2.2.1 1 5 (by decide) (by decide))).trans hR.2, hS1, hS2, rg, tdC_tl htd1 hpT.2.2.2.2, tdR_lw htd2 hpM.2.2.2, lE_obs hle hpT.1 hpT.2.1 hpM.1.1 (fun q => hpM.1.2.trans q) hpM.2.2.2⟩ hl
end
section
section
variable {p : Program} {l : Launch} {e : Env} {R : Room} {s : State} {m : MethodId} {args : Array Value} {below : List Frame} {meth : Method} {c : Code} {H : Heap} {locs : List Loc} {cells slots : Nat}
theorem vx_back9 {T S : State} {R' : Room} {k n : Nat} (X : Stand p l e R s m args below meth c T locs cells slots) (Y : Stand p l e R' ((T.setVm s.vm).setFrames (.invoking m args :: below)) m args below meth c T [] 0 0) (Z : Stand p l e R' ((T.setVm s.vm).setFrames (.invoking m args :: below)) m args below meth c S [] k n) :
    Stand p l e R s m args below meth c S locs (cells + k) (slots + n) := by
  have hW0 : s.WarmedH ((T.setVm s.vm).setFrames (.invoking m args :: below)).vm := State.WarmedH.refl s
  refine { admits := X.admits, cas := X.cas, clock := X.clock, frames := X.frames, room := X.room, hears := X.hears, method := X.method, code := X.code, here := Z.here, tail := Z.tail, warmed := State.WarmedH.trans hW0 Z.warmed, limits := Z.limits.trans (Y.limits.symm.trans X.limits), bytes := Z.bytes.trans (Y.bytes.symm.trans X.bytes), same := ?_ }
  obtain ⟨e1, e2⟩ := Z.same
  rw [State.setFrames_setFrames] at e1
  have h2 : (T.setVm s.vm).sameButNew (S.setVm s.vm) [] k n := ⟨e1, e2⟩
  have h3 := X.same.trans h2
  rw [List.append_nil] at h3
  exact h3
end
section
variable {p : Program} {l : Launch} {e : Env} {R : Room} {s : State} {m : MethodId} {args : Array Value} {below : List Frame} {meth : Method} {c : Code} {H : Heap} {locs : List Loc} {cells slots : Nat} {Q : State → Prop} {ls : Array Slot} {rest : List Value}
theorem vx_athrow {cc : ByteArray} {pc : Nat} (hexec : p.tables.exec = Jvm.exec) (hb : c.code = cc) {q : Addr} (hdg : decode cc pc = .ok (.athrow, 1)) (k : vx_W p l e R s m args below meth c H locs cells slots Q (F0 m pc ls rest) q) : W p l e R s m args below meth c H locs cells slots Q (F0 m pc ls (.ref q :: rest)) := by
  intro T hT X
  obtain ⟨t, st, hq⟩ := k T hT X
  refine ⟨t, ?_, hq⟩
  have hdg' : decode c.code pc = .ok (.athrow, 1) := by rw [hb]; exact hdg
  jvm_step X.here [X.here.top, hexec, hdg', athrow.wp_sem]
  exact st
end
abbrev lk_E2 : String := "java/util/NoSuchElementException"
abbrev lk_Y1 : String := "java/lang/RuntimeException"
abbrev lk_r1 : List String := ["java/lang/Exception"]
abbrev lk_t2 : String := "no such what"
def ly_six : ByteArray := ⟨#[0x2a, 0x2b, 0xb7, 0x00, 0x0d, 0xb1]⟩
theorem ly_six_0 : decode ly_six 0 = .ok (.aload_n 0, 1) := by decide +kernel
theorem ly_six_1 : decode ly_six 1 = .ok (.aload_n 1, 1) := by decide +kernel
theorem ly_six_2 : decode ly_six 2 = .ok (.invokespecial 13, 3) := by decide +kernel
theorem ly_six_5 : decode ly_six 5 = .ok (.return_, 1) := by decide +kernel
/-- what follows the chain among a throw's words -/
def ly_end : List Cond := (Bundle.ownAtoms RX9 158 lk_E2 []).drop (Bundle.throwableAtoms.length + Bundle.throwableSAtoms.length + 5)
def ly_all : List Cond := Bundle.throwableAtoms ++ Bundle.throwableSAtoms ++ (Bundle.passSAtoms lk_E2 lk_Y1 13 ly_six ++ Bundle.chainSAtoms lk_Y1 lk_r1) ++ ly_end
theorem ly_m1 {x : Cond} (h : x ∈ Bundle.throwableAtoms) : x ∈ ly_all := List.mem_append_left _ (List.mem_append_left _ (List.mem_append_left _ h))
theorem ly_m2 {x : Cond} (h : x ∈ Bundle.throwableSAtoms) : x ∈ ly_all := List.mem_append_left _ (List.mem_append_left _ (List.mem_append_right _ h))
theorem ly_m3 {x : Cond} (h : x ∈ Bundle.passSAtoms lk_E2 lk_Y1 13 ly_six) : x ∈ ly_all := List.mem_append_left _ (List.mem_append_right _ (List.mem_append_left _ h))
theorem ly_m4 {x : Cond} (h : x ∈ Bundle.chainSAtoms lk_Y1 lk_r1) : x ∈ ly_all := List.mem_append_left _ (List.mem_append_right _ (List.mem_append_right _ h))
section
variable {p : Program} {l : Launch} {e : Env} {R : Room} {s : State} {m₀ : MethodId} {args : Array Value} {below : List Frame} {meth : Method} {c : Code} {W : State} {locs : List Loc} {cells slots : Nat}
set_option maxHeartbeats 1000000 in
theorem ly_ctor (X : Stand p l e R s m₀ args below meth c W locs cells slots) (hexec : p.tables.exec = Jvm.exec) (htr : e.platform.stackTraces = false)
    (hown : s.vm.findClass RX9 = some m₀.cls)
    (h : ∀ a ∈ ly_all, a.before args s = true)
    (hlocs : ∀ x ∈ locs, ∀ cell, s.heap[x.base]? = some cell → cell.vm.isStatics = false)
    {a : Addr} {cX : ClassId} {kX : Class} (hfoundX : s.vm.findClass lk_E2 = some cX) (hkX : s.vm.classes[cX]? = some kX) (hcell : W.heap[a]? = some (freshCell cX kX)) (hnew : s.heap.size ≤ a)
    {msg : Value} (hmsg : msg.isRef = true)
    {g : JFrame} (hg : g.method = m₀) (hsize : g.locals.size = c.maxLocals) {rest : List Value} (hstack : g.stack = msg :: .ref a :: .ref a :: rest)
    (hd6 : decode c.code g.pc = .ok (.invokespecial 158, 3))
    (hRframes : 5 < R.frames) (hRlocals : 2 * g.monitorRoom + ((Value.ref a :: rest).map fun v => v.category).sum + (13 * 3 + 42) ≤ R.locals) :
    ∃ (V : State) (ce : Cell) (L : List Loc), Stand p l e R s m₀ args below meth c (V.setCell a ce) (locs ++ L) cells slots ∧ (∀ y ∈ L, y.base = a) ∧ a < V.heap.size ∧ ce.cls = cX ∧ ce.vm = .none ∧
      ∀ target, Steps p.tables e below ((V.setCell a ce).setTop { g with stack := .ref a :: rest, pc := g.pc + 3 }) target → Steps p.tables e below (W.setTop g) target := by
  have howns : e.platform.frameOwnsMonitors = true := by rw [X.admits.platform]
  have hfin : e.platform.finalization = false := by rw [X.admits.platform]
  have hpl : e.platform.magicAccessors = ({} : Platform).magicAccessors := by rw [X.admits.platform]
  have a' : ∀ x, x ∈ ly_all → x.holds args s none s [] = true := fun x hx => h x hx
  obtain ⟨T, Z0, L, -, Y⟩ := ThrowableC.of_atoms (args := args) howns hfin hpl (fun x hx => h x (ly_m1 hx))
  obtain ⟨Z, M, LZ, LM, hnZ⟩ := Init0T.ofS_atoms (args := args) hpl L Y (fun x hx => h x (ly_m2 hx))
  obtain ⟨P1, L1, hP1m, hs1⟩ := PassC.ofS_atoms (args := args) (s := s) hpl (X := lk_E2) (Y := lk_Y1) (by decide +kernel) (by decide) ly_six_0 ly_six_1 ly_six_2 ly_six_5 (fun x hx => h x (ly_m3 hx))
  obtain ⟨P2, Ps, hlen, L2, hL, hP2m, hlink2, hlink⟩ := Bundle.chainS (args := args) hpl hnZ lk_r1 lk_Y1 (by decide +kernel) (by decide +kernel) (fun x hx => h x (ly_m4 hx))
  have hsup : P1.sup = P2.m := Option.some.inj (hs1.symm.trans hP2m)
  have hlen : Ps.length = 1 := hlen
  have hfound : s.vm.findClass lk_E2 = some P1.m.cls := findClass_of_methodNamed hP1m
  cases Option.some.inj (hfoundX.symm.trans hfound)
  obtain ⟨c1, kX', hc1, hk, hord, -, -, hn6⟩ := Cond.instantiable_spec (a' (.instantiable lk_E2 6) (by decide +kernel))
  cases Option.some.inj (hc1.symm.trans hfound)
  cases Option.some.inj (hkX.symm.trans hk)
  have hsel0 : selectMethod e.platform s.vm P1.m.cls T.fill0 = .method T.fill0 := by
    obtain ⟨c2, r2, m2, q1, q2, q3, q4, -⟩ := Cond.selects_spec (a' (.selects lk_E2 Bundle.tFill0 Bundle.tFill0) (by decide +kernel))
    cases Option.some.inj (q1.symm.trans hfound)
    cases Option.some.inj (q2.symm.trans (State.methodFound?_of_named Y.fill0 (by decide)))
    cases Option.some.inj (q3.symm.trans Y.fill0)
    rw [Launch.admits_selectMethod X.admits]; exact q4
  have hselF : selectMethod e.platform s.vm P1.m.cls T.fill = .method T.fill := by
    obtain ⟨c2, r2, m2, q1, q2, q3, q4, -⟩ := Cond.selects_spec (a' (.selects lk_E2 Bundle.tFill Bundle.tFill) (by decide +kernel))
    cases Option.some.inj (q1.symm.trans hfound)
    cases Option.some.inj (q2.symm.trans (State.methodFound?_of_named Y.fill (by decide)))
    cases Option.some.inj (q3.symm.trans Y.fill)
    rw [Launch.admits_selectMethod X.admits]; exact q4
  obtain ⟨cellS0, hcS0, hiss⟩ := Y.statics
  obtain ⟨u0, hu0⟩ := Cond.staticRefV Y.unassigned L.unassignedStatic L.statics hcS0 hiss (a' (.isRef (.static Bundle.tN "UNASSIGNED_STACK" Bundle.steD)) (by decide +kernel))
  obtain ⟨sen, hsen⟩ := Cond.staticRefV Y.sentinel L.sentinelStatic L.statics hcS0 hiss (a' (.isRef (.static Bundle.tN "SUPPRESSED_SENTINEL" Bundle.listD)) (by decide +kernel))
  obtain ⟨ci198, i198, fB, hk198, hg198, ha198, hsB, -, hnB, htB, hffB⟩ := Cond.ownField (t := .object "java/lang/Object") Y.found L.cls (by decide +kernel) (a' (.fieldLink Bundle.tN 198 Bundle.tN "backtrace" "Ljava/lang/Object;") (by decide +kernel)) (a' (.lays Bundle.tN Bundle.tN "backtrace" "Ljava/lang/Object;") (by decide +kernel)) e.platform hpl
  obtain ⟨cellS, hcS', heS, -, hkeep⟩ := X.same.2.2.2.2.2 T.aS cellS0 hcS0
  have hcellS : W.heap[T.aS]? = some cellS := hcS'
  have hout' : ∀ i, (⟨T.aS, i⟩ : Loc) ∉ locs := fun i hmem => by
    have := hlocs _ hmem cellS0 hcS0
    rw [hiss] at this; cases this
  have hknownS : cellS.vm ≠ .unknown := by
    rw [heS]; intro hu
    rw [show cellS0.vm = .unknown from hu] at hiss
    cases hiss
  have hneS : T.aS ≠ a := Nat.ne_of_lt (Nat.lt_of_lt_of_le (Array.getElem?_eq_some_iff.mp hcS0).1 hnew)
  obtain ⟨iM, hffM⟩ := Y.msg
  obtain ⟨tyC, dC, hdC, hdnC⟩ := Cond.laysAt hfound hk Y.cause (a' (.lays lk_E2 Bundle.tN "cause" "Ljava/lang/Throwable;") (by decide +kernel))
  obtain ⟨tyS, dS, hdS, hdnS⟩ := Cond.laysAt hfound hk Y.stack (a' (.lays lk_E2 Bundle.tN "stackTrace" Bundle.steD) (by decide +kernel))
  obtain ⟨tyP, dP, hdP, hdnP⟩ := Cond.laysAt hfound hk Y.supp (a' (.lays lk_E2 Bundle.tN "suppressedExceptions" Bundle.listD) (by decide +kernel))
  obtain ⟨tyM, dM, hdM, hdnM⟩ := Cond.laysAt hfound hk hffM (a' (.lays lk_E2 Bundle.tN "detailMessage" "Ljava/lang/String;") (by decide +kernel))
  obtain ⟨tyB, dB, hdB, hdnB⟩ := Cond.laysAt hfound hk hffB (a' (.lays lk_E2 Bundle.tN "backtrace" "Ljava/lang/Object;") (by decide +kernel))
  have bC := Cond.laysApart hdB hdC hdnB hdnC (by rw [hnB, Y.causeName]; decide)
  have bS := Cond.laysApart hdB hdS hdnB hdnS (by rw [hnB, Y.stackName]; decide)
  have bP := Cond.laysApart hdB hdP hdnB hdnP (by rw [hnB, Y.suppName]; decide)
  have hskip : SkipFacts T e.platform s (fun u => u) u0 ((preparedCellV T.toThrowableT (freshCell P1.m.cls kX) a u0 sen).withEntry W.cur) :=
    ⟨{ ci198 := ci198, i198 := i198, fBack := fB }, ⟨hk198, hg198, ha198, hsB⟩, by
      have := fresh_default (c := P1.m.cls) tyB
      rw [htB] at this
      simpa [preparedCellV, Cell.setSlot, Cell.withEntry, Array.getElem?_setIfInBounds, bC, bS, bP, bC.symm, bS.symm, bP.symm, defaultValue] using this, fun _ _ => rfl⟩
  obtain ⟨tm, methC, cdC, kC, vm₁, hnC, -, -, -, -, -, -, -, hW₁, st1⟩ := Steps.initColdS (tb := p.tables) (e := e) (below := below) (s := s) (U := W) X.here hexec X.warmed hpl hown (t := Bundle.initS lk_E2) rfl rfl (Bundle.fit_spec (n := lk_E2) (by decide +kernel)).2
    (a' (.methodLink RX9 158 (Bundle.initS lk_E2)) (by decide +kernel)) (h (.instanceMethod (Bundle.initS lk_E2)) (by decide +kernel)) (bytes := ly_six) (maxL := 2) (h (.code (Bundle.initS lk_E2) ly_six 2 none) (by decide +kernel))
    (f := g) hg (a := a) (msg := msg) (rest := .ref a :: rest) hstack hd6
  cases Option.some.inj (hnC.symm.trans hP1m)
  have X₁ := X.noted hW₁
  obtain ⟨vm₂, X₂, st2⟩ := X₁.ctorMessageOffV hexec (g := { g with stack := .ref a :: rest }) hg hsize T L Z LZ M LM (P1 :: P2 :: Ps)
    (fun P hP => by
      rcases List.mem_cons.mp hP with rfl | hP
      · exact L1
      · rcases List.mem_cons.mp hP with rfl | hP
        · exact L2
        · exact hL P hP) ⟨hsup, hlink2, hlink⟩ (u0 := u0) (sen := sen) (self := a) hmsg (cell := freshCell P1.m.cls kX) (cellS := cellS)
    hcell (fun _ => by simp) (by simp) rfl rfl hsel0 hselF hcellS hneS hknownS (by rw [hkeep _ (hout' _)]; exact hu0) (by rw [hkeep _ (hout' _)]; exact hsen)
    (Takes.of_laid hk hord tyC (by rw [Y.causeType]; rfl)) (Takes.of_laid hk hord tyS (by rw [Y.stackType]; exact fits_refV_array _ u0)) (Takes.of_laid hk hord tyP (by rw [Y.suppType]; exact fits_refV_object _ sen))
    (Takes.of_laid hk hord tyM (by rw [Y.msgType]; exact fits_refV_object _ ⟨msg, hmsg⟩)) Y.objLocals hskip htr [] hd6
    (by simp only [List.length_cons, hlen]; omega) (by simp only [List.length_cons, hlen]; exact hRlocals)
  have hlt : a < ((W.setVm vm₁).setVm vm₂).heap.size := (Array.getElem?_eq_some_iff.mp hcell).1
  refine ⟨(W.setVm vm₁).setVm vm₂, _, _, X₂, fun y hy => ?_, hlt, rfl, rfl, fun target hwalk => st1 _ (fun acts => ?_)⟩
  · simp only [List.mem_cons, List.not_mem_nil, or_false] at hy
    rcases hy with rfl | rfl | rfl | rfl | rfl <;> rfl
  · rw [doInvoke_state]
    exact st2 _ hwalk
end
theorem ly_ot : ∀ w ∈ Cond.classLink RX9 154 lk_E2 :: Cond.initialized lk_E2 :: ly_all.filter vx_no, vx_ot w = true := by decide +kernel
section
variable {p : Program} {l : Launch} {e : Env} {R : Room} {s : State} {m : MethodId} {args : Array Value} {below : List Frame} {meth : Method} {c : Code} {H : Heap} {locs : List Loc} {cells slots : Nat} {Q : State → Prop} {ls : Array Slot} {rest : List Value}
/-- the object, ready to be thrown -/
theorem ly_make {cc : ByteArray} {pc : Nat} (hexec : p.tables.exec = Jvm.exec) (hb : c.code = cc) (hl : l.stackTraces = false) {sa : Nat} {A : Nat → Prop} (hown : s.vm.findClass RX9 = some m.cls)
    (hk : (Cond.classLink RX9 154 lk_E2).before args s = true) (hini : (Cond.initialized lk_E2).before args s = true) (hstr : vk_R RX9 156 lk_t2 sa s) (hat : ∀ w ∈ ly_all.filter vx_no, w.before args s = true)
    (hU : vx_Zq Bundle.tN "UNASSIGNED_STACK" Bundle.steD A s s.heap) (hN : vx_Zq Bundle.tN "SUPPRESSED_SENTINEL" Bundle.listD A s s.heap) (hS : va_S A s.heap H locs) (hsize : ls.size = c.maxLocals)
    (d0 : decode cc pc = .ok (.new 154, 3)) (d3 : decode cc (pc + 3) = .ok (.dup, 1)) (d4 : decode cc (pc + 4) = .ok (.ldc 156, 2)) (d6 : decode cc (pc + 6) = .ok (.invokespecial 158, 3))
    (hRframes : 5 < R.frames) (hRlocals : (rest.map fun v => v.category).sum + (13 * 3 + 43) ≤ R.locals) (hRcells : cells + 1 ≤ R.cells) (hRslots : slots + 6 ≤ R.slots)
    (kk : ∀ (q : Nat) (ce : Cell) (H1 : Heap), H1[q]? = some ce → ce.vm = .none → s.vm.findClass lk_E2 = some ce.cls → H.size ≤ H1.size → (∀ z : Nat, z < H.size → H1[z]? = H[z]?) → W p l e R s m args below meth c H1 locs (cells + 1) (slots + 6) Q (F0 m (pc + 9) ls (.ref q :: rest))) :
    W p l e R s m args below meth c H locs cells slots Q (F0 m pc ls rest) := by
  intro T hT X
  subst hT
  have htr : e.platform.stackTraces = false := (show e.platform.stackTraces = l.stackTraces by rw [X.admits.platform]).trans hl
  have Y := vx_rebase X (R' := { frames := R.frames, locals := R.locals, cells := 1, slots := 6 }) (Nat.le_refl _) (Nat.le_refl _) hRcells hRslots
  obtain ⟨s', hA'⟩ : ∃ z, z = (T.setVm s.vm).setFrames (.invoking m args :: below) := ⟨_, rfl⟩
  rw [← hA'] at Y
  have hvm : s'.vm = s.vm := by rw [hA']; rfl
  have hhp : s'.heap = T.heap := by rw [hA']; rfl
  have hW0 : s.WarmedH s'.vm := by rw [hvm]; exact State.WarmedH.refl s
  have hat' : ∀ w ∈ ly_all.filter vx_no, w.before args s' = true := fun w hw => vx_ot_at hW0 hvm.symm (ly_ot w (List.mem_cons_of_mem _ (List.mem_cons_of_mem _ hw))) (hat w hw)
  have hk' : (Cond.classLink RX9 154 lk_E2).before args s' = true := vx_ot_at hW0 hvm.symm (ly_ot _ List.mem_cons_self) hk
  have hini' : (Cond.initialized lk_E2).before args s' = true := vx_ot_at hW0 hvm.symm (ly_ot _ (List.mem_cons_of_mem _ List.mem_cons_self)) hini
  have hU' : vx_Zq Bundle.tN "UNASSIGNED_STACK" Bundle.steD A s' s'.heap := by rw [hhp]; exact vx_Zq.moved hW0.alike (hU.kept hS.2.1)
  have hN' : vx_Zq Bundle.tN "SUPPRESSED_SENTINEL" Bundle.listD A s' s'.heap := by rw [hhp]; exact vx_Zq.moved hW0.alike (hN.kept hS.2.1)
  have h : ∀ w ∈ ly_all, w.before args s' = true := vx_own hat' (vx_isRefq hU'.1) (vx_isRefq hN'.1) hU'.2.word hN'.2.word
  have hown' : s'.vm.findClass RX9 = some m.cls := by rw [hvm]; exact hown
  have hins : (Cond.instantiable lk_E2 6).before args s' = true := h _ (by decide +kernel)
  obtain ⟨vm₁, cX, kX, hfX, hkX, -, -, X₁, st1⟩ := Y.newCold hexec (own := RX9) (C := lk_E2) (index := 154) (n := 6) hown' hk' hins hini'
    (g := F0 m pc ls rest) rfl (by rw [hb]; exact d0) (Nat.le_refl _) (Nat.le_refl _)
  generalize hT1 : (T.setVm vm₁).pushCell { cls := cX, slots := kX.instanceTypes.map defaultValue, vm := .none } = T1 at X₁ st1
  have hcat : (Value.ref T.heap.size).category = 1 := rfl
  have hcellA : T1.heap[T.heap.size]? = some (freshCell cX kX) := by rw [← hT1]; exact State.heap_pushCell_size _ _
  have d3' : decode c.code (pc + 3) = .ok (.dup, 1) := by rw [hb]; exact d3
  have d4' : decode c.code (pc + 4) = .ok (.ldc 156, 2) := by rw [hb]; exact d4
  have hstr' : vk_R RX9 156 lk_t2 sa s' := vk_R.warm hW0 hstr
  obtain ⟨V, ce, L, Z, hL, hlt, hcl9, hvm9, st⟩ := ly_ctor X₁ hexec htr hown' h (fun x hx => nomatch hx) hfX hkX hcellA (by rw [hhp]; exact Nat.le_refl _) (msg := .ref sa) rfl
    (g := { method := m, pc := pc + 6, locals := ls, stack := .ref sa :: .ref T.heap.size :: .ref T.heap.size :: rest, locked := none }) rfl hsize (rest := rest) rfl
    (by rw [hb]; exact d6) hRframes (by simp only [List.map_cons, List.sum_cons, hcat]; omega)
  have Z0 := Stand.forget (locs := []) Z (fun y hy => by rw [hL y hy, hhp]; exact Nat.le_refl _)
  obtain ⟨f1, f2⟩ := vx_frame Z0.same
  rw [hhp] at f1 f2
  have hh : (V.setCell T.heap.size ce).heap[T.heap.size]? = some ce := heapAt_setCell_self (s := V) ce hlt
  have hvm' : s'.vm = s.vm := hvm
  have hfX' : s.vm.findClass lk_E2 = some cX := by rw [← hvm']; exact hfX
  subst hA'
  have X5 := vx_back9 X Y Z0
  have X6 : Stand p l e R s m args below meth c (V.setCell T.heap.size ce) locs (cells + 1) (slots + 6) := { X5 with same := X5.same.mono (by omega) (by omega) }
  obtain ⟨t, a1, b1⟩ := kk T.heap.size ce (V.setCell T.heap.size ce).heap hh hvm9 (by rw [hcl9]; exact hfX') f1 (fun z hz => f2 z hz (fun y hy => nomatch hy)) _ rfl X6
  refine ⟨t, st1 _ ?_, b1⟩
  show Steps p.tables e below (T1.setTop { method := m, pc := pc + 3, locals := ls, stack := .ref T.heap.size :: rest, locked := none }) _
  jvm_step X₁.here [X₁.here.top, hexec, d3', Value.category]
  exact X₁.ldcString hexec (own := RX9) (text := lk_t2) (index := 156) (a := sa) hown' hstr'.1 hstr'.2
    (g := { method := m, pc := pc + 4, locals := ls, stack := .ref T.heap.size :: .ref T.heap.size :: rest, locked := none }) rfl d4' _ (st _ a1)
end
end

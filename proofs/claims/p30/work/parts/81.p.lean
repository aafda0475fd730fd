variable {Tc : gC} {Tm : gM}
set_option maxHeartbeats 4000000 in
set_option maxRecDepth 100000 in
theorem x_X4_readLaw (l : Launch) (D : va_G) (A : Nat → Nat → Nat) (cy : Nat → ClassId) (hJ : ti_inj ti_LT A) (M : ti_M) (hI : cI Tc M) (t : Nat) (ht : t = 3 ∨ t = 4) (hT : tT M 1 1 = some t) (B : Nat → Int) (n : Nat) (rg : Nat → Int) (hr : rC B n t rg M) : ti_KvE l yX4_readLaw cX4_readLaw 2 71 ti_LT D A cy M [.ref (A 1 0)] (fun M2 => cI Tc M2 ∧ rR M2 M ∧ f0 M2 M ∧ tI M2 2 1 = tI M 2 1 ∧ tT M2 1 1 = tT M 1 1 ∧ ot t M2 M ∧ rC B n t (pp_lw B n rg) M2) := by
  refine ti_eVE yp_X4_readLaw hJ ti_LT_nd (Nat.le_of_ble_eq_true rfl) ?_
  intro p e s m args below meth c Q H0 C hE hQ hw ls hl
  have hx := C.1
  have hb := C.2.1
  have hl : lv_has ls 2 [(0, .ref (A 1 0))] := hl
  have l0 : rg 0 = (tI M 2 4).toInt := hr.2.1.1
  have l1 : rg 1 = (tI M 2 6).toInt := hr.2.1.2.1
  have l2 : rg 2 = (tI M 2 5).toInt := hr.2.1.2.2.1
  have l3 : rg 3 = (tI M 2 3).toInt := hr.2.1.2.2.2
  have l4 : rg 4 = (tI M 1 4).toInt := hr.2.2.1.1
  have l5 : rg 5 = (tI M 1 5).toInt := hr.2.2.1.2.1
  have l7 : rg 7 = (tI M t 4).toInt := hr.2.2.2.1.1
  have l8 : rg 8 = (tI M t 5).toInt := hr.2.2.2.1.2.1
  have l9 : rg 9 = (tI M t 3).toInt := hr.2.2.2.1.2.2
  refine lv_aload_n hx hb dX4_readLaw_0 rfl (lv_at hl 0 rfl) ?_
  refine ti_get (ci := 4) (k := 0) (N := 6) (T := TX4) (v := .ref (A 2 0)) C hw iw_4 rfl ob_1 (by decide) (by decide) fl_X4_12 rfl rfl dX4_readLaw_1 ?_
  refine ti_callVvE (ci := 7) (av := []) C hE hw (x_X7_advance l D A cy hJ M hI ) ⟨ml_X4_92, ym_X7_advance, yv_X7_advance, yi_X7_advance, yc_X7_advance⟩ yd_X7_advance ob_2 (by decide) rfl rfl hl.1 (Nat.le_of_ble_eq_true rfl) ⟨by decide, by decide⟩ ⟨Nat.zero_le _, Nat.zero_le _⟩ dX4_readLaw_4 (fun M_2 H locs hp_2 hw => ?_)
  obtain ⟨iM_2, q_3, q_4, q_5, q_6, p0r_1, p1r_1, p2r_1, p3r_1⟩ := hp_2
  have hs_7 := rC_av ht hr q_6 q_4 p0r_1 p1r_1 p2r_1 p3r_1
  obtain ⟨g_8, eg_8⟩ : ∃ z : Nat → Int, z = pp_av B n rg := ⟨_, rfl⟩
  rw [← eg_8] at hs_7
  have lg_8_0 : g_8 0 = (tI M_2 2 4).toInt := hs_7.2.1.1
  have lg_8_1 : g_8 1 = (tI M_2 2 6).toInt := hs_7.2.1.2.1
  have lg_8_4 : g_8 4 = (tI M_2 1 4).toInt := hs_7.2.2.1.1
  have lg_8_7 : g_8 7 = (tI M_2 t 4).toInt := hs_7.2.2.2.1.1
  have lg_8_8 : g_8 8 = (tI M_2 t 5).toInt := hs_7.2.2.2.1.2.1
  refine lv_aload_n hx hb dX4_readLaw_7 rfl (lv_at hl 0 rfl) ?_
  refine ti_get (ci := 4) (k := 0) (N := 6) (T := TX4) (v := .ref (A 2 0)) C hw iw_4 rfl ob_1 (by decide) (by decide) fl_X4_12 rfl rfl dX4_readLaw_8 ?_
  refine ti_get (ci := 7) (k := 4) (N := 7) (T := TX7) C hw iw_7 rfl ob_2 (by decide) (by decide) fl_X4_41 rfl rfl dX4_readLaw_11 ?_
  refine lv_topi (fun x_9 ex_9 => ?_)
  have bx_9 : 0 ≤ x_9.toInt ∧ x_9.toInt ≤ 41 := cI_rd iM_2 ob_2.1 ex_9
  have ux_9 : (tI M_2 2 4).toInt = x_9.toInt := by rw [ex_9]
  refine lv_istore_n (lv' := [(1, .int x_9), (0, .ref (A 1 0))]) hx hb dX4_readLaw_14 rfl hl (by decide) rfl (fun ls hl => ?_)
  refine lv_iload_n hx hb dX4_readLaw_15 rfl (lv_at hl 0 rfl) ?_
  refine lv_bipush (v := 12) hx hb dX4_readLaw_16 (by decide) ?_
  refine sb_icmp_lt (tgt := 27) hx hb rfl (by decide : (12 : Int32).toInt = 12) dX4_readLaw_18 (by decide) (fun c_18_9 => ?_) (fun c_18_9 => ?_)
  · refine lv_aload_n hx hb dX4_readLaw_27 rfl (lv_at hl 1 rfl) ?_
    refine lv_iconst (v := 1) hx hb dX4_readLaw_28 (by decide) ?_
    refine ti_callVv (ci := 4) (av := [.int 1]) C hw (x_X4_refuse l D A cy hJ M_2 iM_2 t ht 1 B n g_8 hs_7) ⟨ml_X4_82, ym_X4_refuse, yv_X4_refuse, yi_X4_refuse, yc_X4_refuse⟩ yd_X4_refuse ob_1 (by decide) rfl rfl hl.1 (Nat.le_of_ble_eq_true rfl) ⟨by decide, by decide⟩ ⟨Nat.zero_le _, Nat.zero_le _⟩ dX4_readLaw_29 (fun M_13 H locs hp_13 hw => ?_)
    obtain ⟨iM_13, q_14, q_15, q_16, p0r_12⟩ := hp_13
    have hlr_12_1 : (1 : Int32).toInt = 1 := by decide
    simp only [hlr_12_1] at p0r_12
    obtain ⟨g_17, eg_17⟩ : ∃ z : Nat → Int, z = pp_rf 1 g_8 := ⟨_, rfl⟩
    rw [← eg_17] at p0r_12
    have lg_17_0 : g_17 0 = (tI M_13 2 4).toInt := p0r_12.2.1.1
    have lg_17_1 : g_17 1 = (tI M_13 2 6).toInt := p0r_12.2.1.2.1
    have lg_17_4 : g_17 4 = (tI M_13 1 4).toInt := p0r_12.2.2.1.1
    have lg_17_7 : g_17 7 = (tI M_13 t 4).toInt := p0r_12.2.2.2.1.1
    have lg_17_8 : g_17 8 = (tI M_13 t 5).toInt := p0r_12.2.2.2.1.2.1
    exact hQ _ _ _ _ _ hw (⟨iM_13, (rR.trans (rr_of q_14) (rr_of q_3)), (f0.trans (f0_12 q_15) (f0_12 (o2_12 q_4))), ((q_16).trans q_5), ((tT_fr q_14).trans (tT_fr q_3)), (ot.trans (ot_12 ht q_15) (ot_12 ht (o2_12 q_4))), (by unfold pp_lw; rw [← eg_8]; unfold pp_lq; rw [if_neg (fun q => by omega), ← eg_17]; exact p0r_12)⟩) dX4_readLaw_32
  · refine lv_iload_n hx hb dX4_readLaw_21 rfl (lv_at hl 0 rfl) ?_
    refine lv_bipush (v := 14) hx hb dX4_readLaw_22 (by decide) ?_
    refine sb_icmp_le (tgt := 33) hx hb rfl (by decide : (14 : Int32).toInt = 14) dX4_readLaw_24 (by decide) (fun c_24_10 => ?_) (fun c_24_10 => ?_)
    · refine lv_aload_n hx hb dX4_readLaw_33 rfl (lv_at hl 1 rfl) ?_
      refine ti_callVvE (ci := 4) (av := []) C hE hw (x_X4_once l D A cy hJ M_2 iM_2 t ht B n g_8 hs_7 (by omega)) ⟨ml_X4_53, ym_X4_once, yv_X4_once, yi_X4_once, yc_X4_once⟩ yd_X4_once ob_1 (by decide) rfl rfl hl.1 (Nat.le_of_ble_eq_true rfl) ⟨by decide, by decide⟩ ⟨Nat.zero_le _, Nat.zero_le _⟩ dX4_readLaw_34 (fun M_25 H locs hp_25 hw => ?_)
      obtain ⟨iM_25, q_26, q_27, q_28, p0r_24⟩ := hp_25
      obtain ⟨g_29, eg_29⟩ : ∃ z : Nat → Int, z = pp_on B n g_8 := ⟨_, rfl⟩
      rw [← eg_29] at p0r_24
      have lg_29_0 : g_29 0 = (tI M_25 2 4).toInt := p0r_24.2.1.1
      have lg_29_1 : g_29 1 = (tI M_25 2 6).toInt := p0r_24.2.1.2.1
      have lg_29_4 : g_29 4 = (tI M_25 1 4).toInt := p0r_24.2.2.1.1
      have lg_29_7 : g_29 7 = (tI M_25 t 4).toInt := p0r_24.2.2.2.1.1
      have lg_29_8 : g_29 8 = (tI M_25 t 5).toInt := p0r_24.2.2.2.1.2.1
      refine lv_aload_n hx hb dX4_readLaw_37 rfl (lv_at hl 1 rfl) ?_
      refine lv_aload_n hx hb dX4_readLaw_38 rfl (lv_at hl 1 rfl) ?_
      refine ti_get (ci := 4) (k := 1) (N := 6) (T := TX4) (v := .ref (A t 0)) C hw iw_4 rfl ob_1 (by decide) (by decide) fl_X4_28 rfl (ti_Tv ((tT_fr q_26).trans ((tT_fr q_3).trans hT))) dX4_readLaw_39 ?_
      refine ti_get (ci := 8) (k := 2) (N := 12) (T := TX8) (v := .ref (A t 3)) C hw iw_8 rfl (ob_t ht) (by decide) (by decide) fl_X4_150 rfl rfl dX4_readLaw_42 ?_
      refine lv_iload_n hx hb dX4_readLaw_45 rfl (lv_at hl 0 rfl) ?_
      refine lv_bipush (v := 12) hx hb dX4_readLaw_46 (by decide) ?_
      refine lv_isub hx hb dX4_readLaw_48 ?_
      refine lv_topi (fun x_30 ex_30 => ?_)
      have tx_30 : x_30.toInt = x_9.toInt - 12 := i_sub ex_30 rfl (by decide : (12 : Int32).toInt = 12) (by omega) (by omega)
      refine ti_aald (ci := 8) (k := 2) (n := 3) (t0 := 4) (Cn := RX1) (gg := (ti_laws t)) (j := x_30.toNatClampNeg) C hw (ob_t ht) (by decide) (fun _ _ => rfl) rfl (vp_in_iff.mpr (by omega)) rfl dX4_readLaw_49 ?_
      have ob_31 : ti_ob ti_LT (ti_laws t x_30.toNatClampNeg) 1 := ob_l ht (i_nt rfl (by omega) (by omega))
      refine ti_putT (ci := 4) (k := 2) (N := 6) (T := TX4) C hw iw_4 tyX4 tyX4_ok nmX4 rfl ob_1 (by decide) (by decide) fl_X4_154 rfl rfl rfl rfl (fn_4 A _) fs_4_2 dX4_readLaw_50 (fun H locs hw => ?_)
      obtain ⟨M_32, hM_32⟩ : ∃ z : ti_M, z = uT M_25 1 2 (some (ti_laws t x_30.toNatClampNeg)) := ⟨_, rfl⟩
      have hw := hw.to hM_32.symm
      have iM_32 : cI Tc M_32 := cI_uT iM_25 hM_32
      have hs_33 := rC_T hM_32 p0r_24
      have lM_32_0 : g_29 0 = (tI M_32 2 4).toInt := hs_33.2.1.1
      have lM_32_1 : g_29 1 = (tI M_32 2 6).toInt := hs_33.2.1.2.1
      have lM_32_4 : g_29 4 = (tI M_32 1 4).toInt := hs_33.2.2.1.1
      have lM_32_7 : g_29 7 = (tI M_32 t 4).toInt := hs_33.2.2.2.1.1
      have lM_32_8 : g_29 8 = (tI M_32 t 5).toInt := hs_33.2.2.2.1.2.1
      refine lv_aload_n hx hb dX4_readLaw_53 rfl (lv_at hl 1 rfl) ?_
      refine lv_iconst (v := 0) hx hb dX4_readLaw_54 (by decide) ?_
      refine ti_callVvE (ci := 4) (av := [.int 0]) C hE hw (x_X4_readEither_0 l D A cy hJ M_32 iM_32 t ht ((tT_nE hM_32 (nk (by decide))).trans ((tT_fr q_26).trans ((tT_fr q_3).trans hT))) (ti_laws t x_30.toNatClampNeg) ob_31 (tT_uE hM_32) B n g_29 hs_33) ⟨ml_X4_158, ym_X4_readEither, yv_X4_readEither, yi_X4_readEither, yc_X4_readEither⟩ yd_X4_readEither ob_1 (by decide) rfl rfl hl.1 (Nat.le_of_ble_eq_true rfl) ⟨by decide, by decide⟩ ⟨Nat.zero_le _, Nat.zero_le _⟩ dX4_readLaw_55 (fun M_35 H locs hp_35 hw => ?_)
      obtain ⟨iM_35, q_36, q_37, q_38, q_39, p0r_34⟩ := hp_35
      obtain ⟨g_40, eg_40⟩ : ∃ z : Nat → Int, z = pp_ei B n (pp_pt B n 8) g_29 := ⟨_, rfl⟩
      rw [← eg_40] at p0r_34
      have lg_40_0 : g_40 0 = (tI M_35 2 4).toInt := p0r_34.2.1.1
      have lg_40_1 : g_40 1 = (tI M_35 2 6).toInt := p0r_34.2.1.2.1
      have lg_40_4 : g_40 4 = (tI M_35 1 4).toInt := p0r_34.2.2.1.1
      have lg_40_7 : g_40 7 = (tI M_35 t 4).toInt := p0r_34.2.2.2.1.1
      have lg_40_8 : g_40 8 = (tI M_35 t 5).toInt := p0r_34.2.2.2.1.2.1
      exact hQ _ _ _ _ _ hw (⟨iM_35, (rR.trans (rr_of q_36) (rR.trans (rr_T hM_32) (rR.trans (rr_of q_26) (rr_of q_3)))), (f0.trans q_37 (f0.trans (f0_of (ra_T hM_32)) (f0.trans (f0_12 q_27) (f0_12 (o2_12 q_4))))), ((q_38).trans ((tI_uTE hM_32).trans ((q_28).trans q_5))), ((tT_fr q_36).trans ((tT_nE hM_32 (nk (by decide))).trans ((tT_fr q_26).trans (tT_fr q_3)))), (ot.trans q_39 (ot.trans (ot_of (ra_T hM_32)) (ot.trans (ot_12 ht q_27) (ot_12 ht (o2_12 q_4))))), (by unfold pp_lw; rw [← eg_8]; unfold pp_lq; rw [if_pos ⟨by omega, by omega⟩, ← eg_29, ← eg_40]; exact p0r_34)⟩) dX4_readLaw_58
    · refine lv_aload_n hx hb dX4_readLaw_27 rfl (lv_at hl 1 rfl) ?_
      refine lv_iconst (v := 1) hx hb dX4_readLaw_28 (by decide) ?_
      refine ti_callVv (ci := 4) (av := [.int 1]) C hw (x_X4_refuse l D A cy hJ M_2 iM_2 t ht 1 B n g_8 hs_7) ⟨ml_X4_82, ym_X4_refuse, yv_X4_refuse, yi_X4_refuse, yc_X4_refuse⟩ yd_X4_refuse ob_1 (by decide) rfl rfl hl.1 (Nat.le_of_ble_eq_true rfl) ⟨by decide, by decide⟩ ⟨Nat.zero_le _, Nat.zero_le _⟩ dX4_readLaw_29 (fun M_19 H locs hp_19 hw => ?_)
      obtain ⟨iM_19, q_20, q_21, q_22, p0r_18⟩ := hp_19
      have hlr_18_1 : (1 : Int32).toInt = 1 := by decide
      simp only [hlr_18_1] at p0r_18
      obtain ⟨g_23, eg_23⟩ : ∃ z : Nat → Int, z = pp_rf 1 g_8 := ⟨_, rfl⟩
      rw [← eg_23] at p0r_18
      have lg_23_0 : g_23 0 = (tI M_19 2 4).toInt := p0r_18.2.1.1
      have lg_23_1 : g_23 1 = (tI M_19 2 6).toInt := p0r_18.2.1.2.1
      have lg_23_4 : g_23 4 = (tI M_19 1 4).toInt := p0r_18.2.2.1.1
      have lg_23_7 : g_23 7 = (tI M_19 t 4).toInt := p0r_18.2.2.2.1.1
      have lg_23_8 : g_23 8 = (tI M_19 t 5).toInt := p0r_18.2.2.2.1.2.1
      exact hQ _ _ _ _ _ hw (⟨iM_19, (rR.trans (rr_of q_20) (rr_of q_3)), (f0.trans (f0_12 q_21) (f0_12 (o2_12 q_4))), ((q_22).trans q_5), ((tT_fr q_20).trans (tT_fr q_3)), (ot.trans (ot_12 ht q_21) (ot_12 ht (o2_12 q_4))), (by unfold pp_lw; rw [← eg_8]; unfold pp_lq; rw [if_neg (fun q => by omega), ← eg_23]; exact p0r_18)⟩) dX4_readLaw_32
set_option maxHeartbeats 4000000 in
set_option maxRecDepth 100000 in
theorem x_X8_clear (l : Launch) (D : va_G) (A : Nat → Nat → Nat) (cy : Nat → ClassId) (hJ : ti_inj ti_LT A) (M : ti_M) (hI : cI Tc M) (t : Nat) (ht : t = 3 ∨ t = 4) : ti_Kv l yX8_clear cX8_clear 2 0 ti_LT D A cy M [.ref (A t 0)] (fun M2 => cI Tc M2 ∧ M2.2.2.2 = M.2.2.2 ∧ f0 M2 M ∧ tI M2 2 1 = tI M 2 1 ∧ tI M2 1 3 = tI M 1 3 ∧ tI M2 1 4 = tI M 1 4 ∧ tI M2 1 5 = tI M 1 5 ∧ ot t M2 M ∧ (tI M2 t 3).toInt = 0 ∧ (tI M2 t 4).toInt = 0 ∧ (tI M2 t 5).toInt = 0) := by
  refine ti_eV yp_X8_clear hJ ti_LT_nd (Nat.le_of_ble_eq_true rfl) ?_
  intro p e s m args below meth c Q H0 C hQ hw ls hl
  have hx := C.1
  have hb := C.2.1
  have hl : lv_has ls 2 [(0, .ref (A t 0))] := hl
  refine lv_aload_n hx hb dX8_clear_0 rfl (lv_at hl 0 rfl) ?_
  refine lv_iconst (v := 0) hx hb dX8_clear_1 (by decide) ?_
  refine ti_putI (ci := 8) (k := 3) (N := 12) (T := TX8) C hw iw_8 tyX8 tyX8_ok nmX8 rfl (ob_t ht) (by decide) (by decide) fl_X8_32 rfl rfl rfl rfl (fn_8 A _) fs_8_3 dX8_clear_2 (fun H locs hw => ?_)
  obtain ⟨M_1, hM_1⟩ : ∃ z : ti_M, z = uI M t 3 0 := ⟨_, rfl⟩
  have hw := hw.to hM_1.symm
  have iM_1 : cI Tc M_1 := cI_uI hI hM_1 (ob_t ht).1 trivial
  refine lv_aload_n hx hb dX8_clear_5 rfl (lv_at hl 0 rfl) ?_
  refine lv_iconst (v := 0) hx hb dX8_clear_6 (by decide) ?_
  refine ti_putI (ci := 8) (k := 4) (N := 12) (T := TX8) C hw iw_8 tyX8 tyX8_ok nmX8 rfl (ob_t ht) (by decide) (by decide) fl_X8_36 rfl rfl rfl rfl (fn_8 A _) fs_8_4 dX8_clear_7 (fun H locs hw => ?_)
  obtain ⟨M_2, hM_2⟩ : ∃ z : ti_M, z = uI M_1 t 4 0 := ⟨_, rfl⟩
  have hw := hw.to hM_2.symm
  have iM_2 : cI Tc M_2 := cI_uI iM_1 hM_2 (ob_t ht).1 (ib_mk (lo := 0) (hi := 8) (by decide) (by decide))
  have vM_2 : (tI M_2 t 4).toInt = 0 := by rw [tI_uE hM_2]; decide
  refine lv_aload_n hx hb dX8_clear_10 rfl (lv_at hl 0 rfl) ?_
  refine lv_iconst (v := 0) hx hb dX8_clear_11 (by decide) ?_
  refine ti_putI (ci := 8) (k := 5) (N := 12) (T := TX8) C hw iw_8 tyX8 tyX8_ok nmX8 rfl (ob_t ht) (by decide) (by decide) fl_X8_39 rfl rfl rfl rfl (fn_8 A _) fs_8_5 dX8_clear_12 (fun H locs hw => ?_)
  obtain ⟨M_3, hM_3⟩ : ∃ z : ti_M, z = uI M_2 t 5 0 := ⟨_, rfl⟩
  have hw := hw.to hM_3.symm
  have iM_3 : cI Tc M_3 := cI_uI iM_2 hM_3 (ob_t ht).1 trivial
  refine lv_aload_n hx hb dX8_clear_15 rfl (lv_at hl 0 rfl) ?_
  refine lv_sipush (v := 200) hx hb dX8_clear_16 (by decide) ?_
  refine ti_putI (ci := 8) (k := 6) (N := 12) (T := TX8) C hw iw_8 tyX8 tyX8_ok nmX8 rfl (ob_t ht) (by decide) (by decide) fl_X8_42 rfl rfl rfl rfl (fn_8 A _) fs_8_6 dX8_clear_19 (fun H locs hw => ?_)
  obtain ⟨M_4, hM_4⟩ : ∃ z : ti_M, z = uI M_3 t 6 200 := ⟨_, rfl⟩
  have hw := hw.to hM_4.symm
  have iM_4 : cI Tc M_4 := cI_uI iM_3 hM_4 (ob_t ht).1 trivial
  refine lv_aload_n hx hb dX8_clear_22 rfl (lv_at hl 0 rfl) ?_
  refine lv_iconst (v := 2) hx hb dX8_clear_23 (by decide) ?_
  refine ti_putI (ci := 8) (k := 7) (N := 12) (T := TX8) C hw iw_8 tyX8 tyX8_ok nmX8 rfl (ob_t ht) (by decide) (by decide) fl_X8_45 rfl rfl rfl rfl (fn_8 A _) fs_8_7 dX8_clear_24 (fun H locs hw => ?_)
  obtain ⟨M_5, hM_5⟩ : ∃ z : ti_M, z = uI M_4 t 7 2 := ⟨_, rfl⟩
  have hw := hw.to hM_5.symm
  have iM_5 : cI Tc M_5 := cI_uI iM_4 hM_5 (ob_t ht).1 trivial
  refine lv_aload_n hx hb dX8_clear_27 rfl (lv_at hl 0 rfl) ?_
  refine lv_bipush (v := 10) hx hb dX8_clear_28 (by decide) ?_
  refine ti_putI (ci := 8) (k := 8) (N := 12) (T := TX8) C hw iw_8 tyX8 tyX8_ok nmX8 rfl (ob_t ht) (by decide) (by decide) fl_X8_48 rfl rfl rfl rfl (fn_8 A _) fs_8_8 dX8_clear_30 (fun H locs hw => ?_)
  obtain ⟨M_6, hM_6⟩ : ∃ z : ti_M, z = uI M_5 t 8 10 := ⟨_, rfl⟩
  have hw := hw.to hM_6.symm
  have iM_6 : cI Tc M_6 := cI_uI iM_5 hM_6 (ob_t ht).1 trivial
  refine lv_aload_n hx hb dX8_clear_33 rfl (lv_at hl 0 rfl) ?_
  refine lv_iconst (v := 3) hx hb dX8_clear_34 (by decide) ?_
  refine ti_putI (ci := 8) (k := 9) (N := 12) (T := TX8) C hw iw_8 tyX8 tyX8_ok nmX8 rfl (ob_t ht) (by decide) (by decide) fl_X8_51 rfl rfl rfl rfl (fn_8 A _) fs_8_9 dX8_clear_35 (fun H locs hw => ?_)
  obtain ⟨M_7, hM_7⟩ : ∃ z : ti_M, z = uI M_6 t 9 3 := ⟨_, rfl⟩
  have hw := hw.to hM_7.symm
  have iM_7 : cI Tc M_7 := cI_uI iM_6 hM_7 (ob_t ht).1 trivial
  refine lv_aload_n hx hb dX8_clear_38 rfl (lv_at hl 0 rfl) ?_
  refine lv_iconst (v := 0) hx hb dX8_clear_39 (by decide) ?_
  refine ti_putI (ci := 8) (k := 10) (N := 12) (T := TX8) C hw iw_8 tyX8 tyX8_ok nmX8 rfl (ob_t ht) (by decide) (by decide) fl_X8_54 rfl rfl rfl rfl (fn_8 A _) fs_8_10 dX8_clear_40 (fun H locs hw => ?_)
  obtain ⟨M_8, hM_8⟩ : ∃ z : ti_M, z = uI M_7 t 10 0 := ⟨_, rfl⟩
  have hw := hw.to hM_8.symm
  have iM_8 : cI Tc M_8 := cI_uI iM_7 hM_8 (ob_t ht).1 trivial
  refine lv_aload_n hx hb dX8_clear_43 rfl (lv_at hl 0 rfl) ?_
  refine lv_iconst (v := 0) hx hb dX8_clear_44 (by decide) ?_
  refine ti_putI (ci := 8) (k := 11) (N := 12) (T := TX8) C hw iw_8 tyX8 tyX8_ok nmX8 rfl (ob_t ht) (by decide) (by decide) fl_X8_57 rfl rfl rfl rfl (fn_8 A _) fs_8_11 dX8_clear_45 (fun H locs hw => ?_)
  obtain ⟨M_9, hM_9⟩ : ∃ z : ti_M, z = uI M_8 t 11 0 := ⟨_, rfl⟩
  have hw := hw.to hM_9.symm
  have iM_9 : cI Tc M_9 := cI_uI iM_8 hM_9 (ob_t ht).1 trivial
  refine lv_iconst (v := 0) hx hb dX8_clear_48 (by decide) ?_
  refine lv_istore_n (lv' := [(1, .int 0), (0, .ref (A t 0))]) hx hb dX8_clear_49 rfl hl (by decide) rfl (fun ls hl => ?_)
  have hl_50_23 : ∀ (n_24 : Nat) (x_10 : Int32) (M_13 : ti_M) (H : Heap) (locs : List Loc) (ls : Array Slot), (3 - x_10.toInt : Int).toNat < n_24 → (0 ≤ x_10.toInt) → (x_10.toInt ≤ 3) → (cI Tc M_13) → (M_13.2.2.2 = M.2.2.2) → (f0 M_13 M) → (tI M_13 2 1 = tI M 2 1) → (tI M_13 1 3 = tI M 1 3) → (tI M_13 1 4 = tI M 1 4) → (tI M_13 1 5 = tI M 1 5) → (ot t M_13 M) → (tI M_13 t 3 = 0) → (tI M_13 t 4 = 0) → (tI M_13 t 5 = 0) → ti_H ti_LT D A cy H0 M_13 H locs → lv_has ls 2 [(1, .int x_10), (0, .ref (A t 0))] → W p l e (ti_rm 0) s m args below meth c H locs 0 0 Q (F0 m 50 ls []) := by
    intro n_24
    induction n_24 with
    | zero => intro x_10 M_13 H locs ls hf_24; exact absurd hf_24 (Nat.not_lt_zero _)
    | succ n_24 ih_24 =>
      intro x_10 M_13 H locs ls hf_24 b_11 b_12 iM_13 f_14 f_15 f_16 f_17 f_18 f_19 f_20 f_21 f_22 f_23 hw hl
      refine lv_iload_n hx hb dX8_clear_50 rfl (lv_at hl 0 rfl) ?_
      refine lv_iconst (v := 3) hx hb dX8_clear_51 (by decide) ?_
      refine sb_icmp_ge (tgt := 68) hx hb rfl (by decide : (3 : Int32).toInt = 3) dX8_clear_52 (by decide) (fun c_52_24 => ?_) (fun c_52_24 => ?_)
      · refine lv_iconst (v := 0) hx hb dX8_clear_68 (by decide) ?_
        refine lv_istore_n (lv' := [(1, .int 0), (0, .ref (A t 0))]) hx hb dX8_clear_69 rfl hl (by decide) rfl (fun ls hl => ?_)
        have hl_70_41 : ∀ (n_42 : Nat) (x_28 : Int32) (M_31 : ti_M) (H : Heap) (locs : List Loc) (ls : Array Slot), (3 - x_28.toInt : Int).toNat < n_42 → (0 ≤ x_28.toInt) → (x_28.toInt ≤ 3) → (cI Tc M_31) → (M_31.2.2.2 = M.2.2.2) → (f0 M_31 M) → (tI M_31 2 1 = tI M 2 1) → (tI M_31 1 3 = tI M 1 3) → (tI M_31 1 4 = tI M 1 4) → (tI M_31 1 5 = tI M 1 5) → (ot t M_31 M) → (tI M_31 t 3 = 0) → (tI M_31 t 4 = 0) → (tI M_31 t 5 = 0) → ti_H ti_LT D A cy H0 M_31 H locs → lv_has ls 2 [(1, .int x_28), (0, .ref (A t 0))] → W p l e (ti_rm 0) s m args below meth c H locs 0 0 Q (F0 m 70 ls []) := by
          intro n_42
          induction n_42 with
          | zero => intro x_28 M_31 H locs ls hf_42; exact absurd hf_42 (Nat.not_lt_zero _)
          | succ n_42 ih_42 =>
            intro x_28 M_31 H locs ls hf_42 b_29 b_30 iM_31 f_32 f_33 f_34 f_35 f_36 f_37 f_38 f_39 f_40 f_41 hw hl
            refine lv_iload_n hx hb dX8_clear_70 rfl (lv_at hl 0 rfl) ?_
            refine lv_iconst (v := 3) hx hb dX8_clear_71 (by decide) ?_
            refine sb_icmp_ge (tgt := 91) hx hb rfl (by decide : (3 : Int32).toInt = 3) dX8_clear_72 (by decide) (fun c_72_42 => ?_) (fun c_72_42 => ?_)
            · exact hQ _ _ _ _ _ hw (⟨iM_31, (f_32), f_33, (f_34), (f_35), (f_36), (f_37), f_38, (by rw [(f_39)]; decide), (by rw [(f_40)]; decide), (by rw [(f_41)]; decide)⟩) dX8_clear_91
            · refine lv_aload_n hx hb dX8_clear_75 rfl (lv_at hl 1 rfl) ?_
              refine ti_get (ci := 8) (k := 2) (N := 12) (T := TX8) (v := .ref (A t 3)) C hw iw_8 rfl (ob_t ht) (by decide) (by decide) fl_X8_23 rfl rfl dX8_clear_76 ?_
              refine lv_iload_n hx hb dX8_clear_79 rfl (lv_at hl 0 rfl) ?_
              refine ti_aald (ci := 8) (k := 2) (n := 3) (t0 := 4) (Cn := RX1) (gg := (ti_laws t)) (j := x_28.toNatClampNeg) C hw (ob_t ht) (by decide) (fun _ _ => rfl) rfl (vp_in_iff.mpr (by omega)) rfl dX8_clear_80 ?_
              have ob_44 : ti_ob ti_LT (ti_laws t x_28.toNatClampNeg) 1 := ob_l ht (i_nt rfl (by omega) (by omega))
              refine lv_iconst (v := 0) hx hb dX8_clear_81 (by decide) ?_
              refine ti_putI (ci := 1) (k := 3) (N := 4) (T := TX1) C hw iw_1 tyX1 tyX1_ok nmX1 rfl ob_44 (by decide) (by decide) fl_X8_60 rfl rfl rfl rfl (fn_1 A _) fs_1_3 dX8_clear_82 (fun H locs hw => ?_)
              obtain ⟨M_45, hM_45⟩ : ∃ z : ti_M, z = uI M_31 (ti_laws t x_28.toNatClampNeg) 3 0 := ⟨_, rfl⟩
              have hw := hw.to hM_45.symm
              have iM_45 : cI Tc M_45 := cI_uI iM_31 hM_45 ob_44.1 (ib_mk (lo := 0) (hi := 64) (by decide) (by decide))
              have vM_45 : (tI M_45 (ti_laws t x_28.toNatClampNeg) 3).toInt = 0 := by rw [tI_uE hM_45]; decide
              obtain ⟨x_46, ex_46⟩ : ∃ z : Int32, z = x_28 + 1 := ⟨_, rfl⟩
              have tx_46 : x_46.toInt = x_28.toInt + 1 := i_add ex_46 rfl (by decide) (by omega) (by omega)
              refine lv_iinc (v := x_46) (lv' := [(1, .int x_46), (0, .ref (A t 0))]) hx hb dX8_clear_85 hl (k := 0) rfl (by rw [ex_46]; rfl) (by decide) rfl (fun ls hl => ?_)
              refine lv_goto (tgt := 70) hx hb dX8_clear_88 (by decide) ?_
              exact ih_42 x_46 M_45 _ _ _ (by omega) (by first | omega | decide) (by first | omega | decide) iM_45 ((rf_I hM_45).trans f_32) (f0.trans (f0_I hM_45 (f0n ob_44.1 (by decide))) f_33) ((tI_nE hM_45 (nk (by decide))).trans f_34) ((tI_nE hM_45 (no (cls_ne ob_1.1 ob_44.1 (by decide)))).trans f_35) ((tI_nE hM_45 (nk (by decide))).trans f_36) ((tI_nE hM_45 (nk (by decide))).trans f_37) (ot.trans (ot_I ht hM_45 (by have := pp_law ob_44.1; omega)) f_38) ((tI_nE hM_45 (no (cls_ne (ob_t ht).1 ob_44.1 (by decide)))).trans f_39) ((tI_nE hM_45 (nk (by decide))).trans f_40) ((tI_nE hM_45 (nk (by decide))).trans f_41) hw (lv_sub hl [0, 1] rfl)
        exact hl_70_41 ((3 - 0 : Int).toNat + 1) 0 M_13 _ _ _ (Nat.lt_succ_self _) (by have lt0 : (0 : Int32).toInt = 0 := (by decide); first | omega | decide) (by have lt0 : (0 : Int32).toInt = 0 := (by decide); first | omega | decide) iM_13 (f_14) f_15 (f_16) (f_17) (f_18) (f_19) f_20 (f_21) (f_22) (f_23) hw (lv_sub hl [0, 1] rfl)
      · refine lv_aload_n hx hb dX8_clear_55 rfl (lv_at hl 1 rfl) ?_
        refine ti_get (ci := 8) (k := 1) (N := 12) (T := TX8) (v := .ref (A t 2)) C hw iw_8 rfl (ob_t ht) (by decide) (by decide) fl_X8_17 rfl rfl dX8_clear_56 ?_
        refine lv_iload_n hx hb dX8_clear_59 rfl (lv_at hl 0 rfl) ?_
        refine lv_iload_n hx hb dX8_clear_60 rfl (lv_at hl 0 rfl) ?_
        refine ti_iast (ci := 8) (k := 1) (n := 3) C hw (ob_t ht) (by decide) (fun _ _ => rfl) (vp_in_iff.mpr (by omega)) dX8_clear_61 (fun H locs hw => ?_)
        obtain ⟨M_26, hM_26⟩ : ∃ z : ti_M, z = uY M_13 t 1 (upd (tY M_13 t 1) (x_10 : Int32).toNatClampNeg x_10) := ⟨_, rfl⟩
        have hw := hw.to hM_26.symm
        have iM_26 : cI Tc M_26 := cI_up iM_13 hM_26 (ob_t ht).1 trivial
        obtain ⟨x_27, ex_27⟩ : ∃ z : Int32, z = x_10 + 1 := ⟨_, rfl⟩
        have tx_27 : x_27.toInt = x_10.toInt + 1 := i_add ex_27 rfl (by decide) (by omega) (by omega)
        refine lv_iinc (v := x_27) (lv' := [(1, .int x_27), (0, .ref (A t 0))]) hx hb dX8_clear_62 hl (k := 0) rfl (by rw [ex_27]; rfl) (by decide) rfl (fun ls hl => ?_)
        refine lv_goto (tgt := 50) hx hb dX8_clear_65 (by decide) ?_
        exact ih_24 x_27 M_26 _ _ _ (by omega) (by first | omega | decide) (by first | omega | decide) iM_26 ((rf_Y hM_26).trans f_14) (f0.trans (f0_of (ra_Y hM_26)) f_15) ((tI_uYE hM_26).trans f_16) ((tI_uYE hM_26).trans f_17) ((tI_uYE hM_26).trans f_18) ((tI_uYE hM_26).trans f_19) (ot.trans (ot_of (ra_Y hM_26)) f_20) ((tI_uYE hM_26).trans f_21) ((tI_uYE hM_26).trans f_22) ((tI_uYE hM_26).trans f_23) hw (lv_sub hl [0, 1] rfl)
  exact hl_50_23 ((3 - 0 : Int).toNat + 1) 0 M_9 _ _ _ (Nat.lt_succ_self _) (by have lt0 : (0 : Int32).toInt = 0 := (by decide); first | omega | decide) (by have lt0 : (0 : Int32).toInt = 0 := (by decide); first | omega | decide) iM_9 ((rf_I hM_9).trans ((rf_I hM_8).trans ((rf_I hM_7).trans ((rf_I hM_6).trans ((rf_I hM_5).trans ((rf_I hM_4).trans ((rf_I hM_3).trans ((rf_I hM_2).trans (rf_I hM_1))))))))) (f0.trans (f0_I hM_9 (f0n (ob_t ht).1 (by decide))) (f0.trans (f0_I hM_8 (f0n (ob_t ht).1 (by decide))) (f0.trans (f0_I hM_7 (f0n (ob_t ht).1 (by decide))) (f0.trans (f0_I hM_6 (f0n (ob_t ht).1 (by decide))) (f0.trans (f0_I hM_5 (f0n (ob_t ht).1 (by decide))) (f0.trans (f0_I hM_4 (f0n (ob_t ht).1 (by decide))) (f0.trans (f0_I hM_3 (f0n (ob_t ht).1 (by decide))) (f0.trans (f0_I hM_2 (f0n (ob_t ht).1 (by decide))) (f0_I hM_1 (f0n (ob_t ht).1 (by decide))))))))))) ((tI_nE hM_9 (nk (by decide))).trans ((tI_nE hM_8 (nk (by decide))).trans ((tI_nE hM_7 (nk (by decide))).trans ((tI_nE hM_6 (nk (by decide))).trans ((tI_nE hM_5 (nk (by decide))).trans ((tI_nE hM_4 (nk (by decide))).trans ((tI_nE hM_3 (nk (by decide))).trans ((tI_nE hM_2 (nk (by decide))).trans (tI_nE hM_1 (nk (by decide))))))))))) ((tI_nE hM_9 (nk (by decide))).trans ((tI_nE hM_8 (nk (by decide))).trans ((tI_nE hM_7 (nk (by decide))).trans ((tI_nE hM_6 (nk (by decide))).trans ((tI_nE hM_5 (nk (by decide))).trans ((tI_nE hM_4 (nk (by decide))).trans ((tI_nE hM_3 (nk (by decide))).trans ((tI_nE hM_2 (nk (by decide))).trans (tI_nE hM_1 (no (cls_ne ob_1.1 (ob_t ht).1 (by decide)))))))))))) ((tI_nE hM_9 (nk (by decide))).trans ((tI_nE hM_8 (nk (by decide))).trans ((tI_nE hM_7 (nk (by decide))).trans ((tI_nE hM_6 (nk (by decide))).trans ((tI_nE hM_5 (nk (by decide))).trans ((tI_nE hM_4 (nk (by decide))).trans ((tI_nE hM_3 (nk (by decide))).trans ((tI_nE hM_2 (no (cls_ne ob_1.1 (ob_t ht).1 (by decide)))).trans (tI_nE hM_1 (nk (by decide))))))))))) ((tI_nE hM_9 (nk (by decide))).trans ((tI_nE hM_8 (nk (by decide))).trans ((tI_nE hM_7 (nk (by decide))).trans ((tI_nE hM_6 (nk (by decide))).trans ((tI_nE hM_5 (nk (by decide))).trans ((tI_nE hM_4 (nk (by decide))).trans ((tI_nE hM_3 (no (cls_ne ob_1.1 (ob_t ht).1 (by decide)))).trans ((tI_nE hM_2 (nk (by decide))).trans (tI_nE hM_1 (nk (by decide))))))))))) (ot.trans (ot_I ht hM_9 (by omega)) (ot.trans (ot_I ht hM_8 (by omega)) (ot.trans (ot_I ht hM_7 (by omega)) (ot.trans (ot_I ht hM_6 (by omega)) (ot.trans (ot_I ht hM_5 (by omega)) (ot.trans (ot_I ht hM_4 (by omega)) (ot.trans (ot_I ht hM_3 (by omega)) (ot.trans (ot_I ht hM_2 (by omega)) (ot_I ht hM_1 (by omega)))))))))) ((tI_nE hM_9 (nk (by decide))).trans ((tI_nE hM_8 (nk (by decide))).trans ((tI_nE hM_7 (nk (by decide))).trans ((tI_nE hM_6 (nk (by decide))).trans ((tI_nE hM_5 (nk (by decide))).trans ((tI_nE hM_4 (nk (by decide))).trans ((tI_nE hM_3 (nk (by decide))).trans ((tI_nE hM_2 (nk (by decide))).trans (tI_uE hM_1))))))))) ((tI_nE hM_9 (nk (by decide))).trans ((tI_nE hM_8 (nk (by decide))).trans ((tI_nE hM_7 (nk (by decide))).trans ((tI_nE hM_6 (nk (by decide))).trans ((tI_nE hM_5 (nk (by decide))).trans ((tI_nE hM_4 (nk (by decide))).trans ((tI_nE hM_3 (nk (by decide))).trans (tI_uE hM_2)))))))) ((tI_nE hM_9 (nk (by decide))).trans ((tI_nE hM_8 (nk (by decide))).trans ((tI_nE hM_7 (nk (by decide))).trans ((tI_nE hM_6 (nk (by decide))).trans ((tI_nE hM_5 (nk (by decide))).trans ((tI_nE hM_4 (nk (by decide))).trans (tI_uE hM_3))))))) hw (lv_sub hl [0, 1] rfl)
def pp_J (t : Nat) (M : ti_M) : Nat → Int := fun j => if 200 ≤ j then (tI M (ti_men t (j - 200)) 9).toInt else (tI M (ti_men t (j - 100)) 0).toInt
theorem rC_st {B : Nat → Int} {n t : Nat} {N : ti_M} (hB : pt_cB N = B) (hn : pt_cn N = n) (k0 : (tI N 2 4).toInt = pt_K B n 0) (k1 : (tI N 2 6).toInt = pt_V B n 0) (k2 : (tI N 2 5).toInt = ((pt_P B n 0 : Nat) : Int)) (k3 : (tI N 2 3).toInt = pt_A B n 0) (h3 : tI N 1 3 = 0) (h4 : (tI N 1 4).toInt = 0) (h5 : (tI N 1 5).toInt = -1) (t3 : (tI N t 3).toInt = 0) (t4 : (tI N t 4).toInt = 0) (t5 : (tI N t 5).toInt = 0) : rC B n t (pp_r0 B n (pp_J t N)) N := by
  have bz : ∀ k : Nat, pp_bt 0 k = 0 := fun k => by unfold pp_bt; simp
  have j1 : ∀ i : Nat, i < 8 → pp_r0 B n (pp_J t N) (100 + i) = pp_J t N (100 + i) := fun i hi => by
    unfold pp_r0
    rw [if_neg (by omega), if_neg (by omega), if_neg (by omega), if_neg (by omega), if_neg (by omega), if_neg (by omega), if_neg (by omega), if_neg (by omega)]
  have j2 : ∀ i : Nat, i < 8 → pp_r0 B n (pp_J t N) (200 + i) = pp_J t N (200 + i) := fun i hi => by
    unfold pp_r0
    rw [if_neg (by omega), if_neg (by omega), if_neg (by omega), if_neg (by omega), if_neg (by omega), if_neg (by omega), if_neg (by omega), if_neg (by omega)]
  refine ⟨⟨hB, hn⟩, ⟨k0.symm, k1.symm, k2.symm, k3.symm⟩, ⟨?_, ?_, fun k hk => ?_⟩, ⟨?_, ?_, ?_⟩, fun i hi => ⟨?_, ?_⟩⟩
  · rw [h4]; rfl
  · rw [h5]; rfl
  · rw [h3, bz]
    unfold pp_r0
    rw [if_neg (by omega), if_neg (by omega), if_neg (by omega), if_neg (by omega), if_neg (by omega), if_neg (by omega), if_neg (by omega), if_pos (by omega)]
  · rw [t4]; rfl
  · rw [t5]; rfl
  · rw [t3]; rfl
  · rw [j1 i hi]
    unfold pp_J
    rw [if_neg (by omega), show 100 + i - 100 = i by omega]
  · rw [j2 i hi]
    unfold pp_J
    rw [if_pos (by omega), show 200 + i - 200 = i by omega]
theorem cI_cB {M : ti_M} {B : Nat → Int} (h : cI Tc M) (hB : B = fun i => (Tc.1 i &&& 255).toInt) : pt_cB M = B := by
  rw [hB]
  unfold pt_cB
  rw [show tY M 2 0 = Tc.1 from congrArg (fun t => t.1) h.2.2]
theorem cn_e {N : ti_M} {nn : Int32} {n : Nat} (h : (tI N 2 2).toInt = nn.toInt) (hn : n = nn.toInt.toNat) : pt_cn N = n := by
  unfold pt_cn
  rw [h, hn]
set_option maxHeartbeats 4000000 in
set_option maxRecDepth 100000 in
theorem x_X4_read (l : Launch) (D : va_G) (A : Nat → Nat → Nat) (cy : Nat → ClassId) (hJ : ti_inj ti_LT A) (M : ti_M) (hI : cI Tc M) (t : Nat) (ht : t = 3 ∨ t = 4) (nn : Int32) (h1 : 0 ≤ nn.toInt) (h2 : nn.toInt ≤ 700) (B : Nat → Int) (n : Nat) (hB : B = fun i => (Tc.1 i &&& 255).toInt) (hn : n = nn.toInt.toNat) : ti_KiE l yX4_read cX4_read 4 (some .boolean) 72 ti_LT D A cy M [.ref (A 1 0), .int nn, .ref (A t 0)] (fun r M2 => cI Tc M2 ∧ rR M2 M ∧ f0 M2 M ∧ tI M2 2 1 = tI M 2 1 ∧ ot t M2 M ∧ ∃ J : Nat → Int, rC B n t (pp_tx B n J) M2 ∧ ((r = 1 ∧ pp_tx B n J 4 = 0) ∨ (r = 0 ∧ pp_tx B n J 4 ≠ 0))) := by
  refine ti_eIE yp_X4_read hJ ti_LT_nd (Nat.le_of_ble_eq_true rfl) ?_
  intro p e s m args below meth c Q H0 C hE hQ hw ls hl
  have hx := C.1
  have hb := C.2.1
  have hl : lv_has ls 4 [(0, .ref (A 1 0)), (1, .int nn), (2, .ref (A t 0))] := hl
  refine lv_aload_n hx hb dX4_read_0 rfl (lv_at hl 0 rfl) ?_
  refine lv_aload_n hx hb dX4_read_1 rfl (lv_at hl 2 rfl) ?_
  refine ti_putT (ci := 4) (k := 1) (N := 6) (T := TX4) C hw iw_4 tyX4 tyX4_ok nmX4 rfl ob_1 (by decide) (by decide) fl_X4_28 rfl rfl rfl rfl (fn_4 A _) fs_4_1 dX4_read_2 (fun H locs hw => ?_)
  obtain ⟨M_1, hM_1⟩ : ∃ z : ti_M, z = uT M 1 1 (some t) := ⟨_, rfl⟩
  have hw := hw.to hM_1.symm
  have iM_1 : cI Tc M_1 := cI_uT hI hM_1
  refine lv_aload_n hx hb dX4_read_5 rfl (lv_at hl 0 rfl) ?_
  refine ti_get (ci := 4) (k := 1) (N := 6) (T := TX4) (v := .ref (A t 0)) C hw iw_4 rfl ob_1 (by decide) (by decide) fl_X4_28 rfl (ti_Tv (tT_uE hM_1)) dX4_read_6 ?_
  refine ti_callVv (ci := 8) (av := []) C hw (x_X8_clear l D A cy hJ M_1 iM_1 t ht) ⟨ml_X4_32, ym_X8_clear, yv_X8_clear, yi_X8_clear, yc_X8_clear⟩ yd_X8_clear (ob_t ht) (by decide) rfl rfl hl.1 (Nat.le_of_ble_eq_true rfl) ⟨by decide, by decide⟩ ⟨Nat.zero_le _, Nat.zero_le _⟩ dX4_read_9 (fun M_3 H locs hp_3 hw => ?_)
  obtain ⟨iM_3, q_4, q_5, q_6, q_7, q_8, q_9, q_10, p0r_2, p1r_2, p2r_2⟩ := hp_3
  refine lv_aload_n hx hb dX4_read_12 rfl (lv_at hl 0 rfl) ?_
  refine lv_iconst (v := 0) hx hb dX4_read_13 (by decide) ?_
  refine ti_putI (ci := 4) (k := 3) (N := 6) (T := TX4) C hw iw_4 tyX4 tyX4_ok nmX4 rfl ob_1 (by decide) (by decide) fl_X4_18 rfl rfl rfl rfl (fn_4 A _) fs_4_3 dX4_read_14 (fun H locs hw => ?_)
  obtain ⟨M_11, hM_11⟩ : ∃ z : ti_M, z = uI M_3 1 3 0 := ⟨_, rfl⟩
  have hw := hw.to hM_11.symm
  have iM_11 : cI Tc M_11 := cI_uI iM_3 hM_11 ob_1.1 trivial
  refine lv_aload_n hx hb dX4_read_17 rfl (lv_at hl 0 rfl) ?_
  refine lv_iconst (v := 0) hx hb dX4_read_18 (by decide) ?_
  refine ti_putI (ci := 4) (k := 4) (N := 6) (T := TX4) C hw iw_4 tyX4 tyX4_ok nmX4 rfl ob_1 (by decide) (by decide) fl_X4_22 rfl rfl rfl rfl (fn_4 A _) fs_4_4 dX4_read_19 (fun H locs hw => ?_)
  obtain ⟨M_12, hM_12⟩ : ∃ z : ti_M, z = uI M_11 1 4 0 := ⟨_, rfl⟩
  have hw := hw.to hM_12.symm
  have iM_12 : cI Tc M_12 := cI_uI iM_11 hM_12 ob_1.1 trivial
  refine lv_aload_n hx hb dX4_read_22 rfl (lv_at hl 0 rfl) ?_
  refine lv_iconst (v := (-1)) hx hb dX4_read_23 (by decide) ?_
  refine ti_putI (ci := 4) (k := 5) (N := 6) (T := TX4) C hw iw_4 tyX4 tyX4_ok nmX4 rfl ob_1 (by decide) (by decide) fl_X4_25 rfl rfl rfl rfl (fn_4 A _) fs_4_5 dX4_read_24 (fun H locs hw => ?_)
  obtain ⟨M_13, hM_13⟩ : ∃ z : ti_M, z = uI M_12 1 5 (-1) := ⟨_, rfl⟩
  have hw := hw.to hM_13.symm
  have iM_13 : cI Tc M_13 := cI_uI iM_12 hM_13 ob_1.1 trivial
  refine lv_aload_n hx hb dX4_read_27 rfl (lv_at hl 0 rfl) ?_
  refine ti_get (ci := 4) (k := 0) (N := 6) (T := TX4) (v := .ref (A 2 0)) C hw iw_4 rfl ob_1 (by decide) (by decide) fl_X4_12 rfl rfl dX4_read_28 ?_
  refine lv_iload_n hx hb dX4_read_31 rfl (lv_at hl 1 rfl) ?_
  refine ti_callVvE (ci := 7) (av := [.int nn]) C hE hw (x_X7_begin l D A cy hJ M_13 iM_13 nn (by omega) (by omega)) ⟨ml_X4_37, ym_X7_begin, yv_X7_begin, yi_X7_begin, yc_X7_begin⟩ yd_X7_begin ob_2 (by decide) rfl rfl hl.1 (Nat.le_of_ble_eq_true rfl) ⟨by decide, by decide⟩ ⟨Nat.zero_le _, Nat.zero_le _⟩ dX4_read_32 (fun M_15 H locs hp_15 hw => ?_)
  obtain ⟨iM_15, q_16, q_17, q_18, y0M_15, y1M_15, k0M_15, k1M_15, k2M_15, k3M_15⟩ := hp_15
  have en : nn.toInt.toNat = n := hn.symm
  have eB := cI_cB iM_13 hB
  rw [eB, en] at k0M_15 k1M_15 k2M_15 k3M_15
  have hs0 := rC_st (t := t) (cI_cB iM_15 hB) (cn_e y1M_15 hn) k0M_15 k1M_15 k2M_15 k3M_15 (((q_17 1 3 (by decide)).trans ((tI_nE hM_13 (nk (by decide))).trans ((tI_nE hM_12 (nk (by decide))).trans (tI_uE hM_11))))) (by rw [((q_17 1 4 (by decide)).trans ((tI_nE hM_13 (nk (by decide))).trans (tI_uE hM_12)))]; decide) (by rw [((q_17 1 5 (by decide)).trans (tI_uE hM_13))]; decide) ((congrArg Int32.toInt (((q_17 t 3 (by omega)).trans ((tI_nE hM_13 (no (by omega))).trans ((tI_nE hM_12 (no (by omega))).trans (tI_nE hM_11 (no (by omega)))))))).trans p0r_2) ((congrArg Int32.toInt (((q_17 t 4 (by omega)).trans ((tI_nE hM_13 (no (by omega))).trans ((tI_nE hM_12 (no (by omega))).trans (tI_nE hM_11 (no (by omega)))))))).trans p1r_2) ((congrArg Int32.toInt (((q_17 t 5 (by omega)).trans ((tI_nE hM_13 (no (by omega))).trans ((tI_nE hM_12 (no (by omega))).trans (tI_nE hM_11 (no (by omega)))))))).trans p2r_2)
  obtain ⟨J, eJ⟩ : ∃ z : Nat → Int, z = pp_J t M_15 := ⟨_, rfl⟩
  rw [← eJ] at hs0
  obtain ⟨g_19, eg_19⟩ : ∃ z : Nat → Int, z = pp_r0 B n J := ⟨_, rfl⟩
  rw [← eg_19] at hs0
  have lg_19_0 : g_19 0 = (tI M_15 2 4).toInt := hs0.2.1.1
  have lg_19_1 : g_19 1 = (tI M_15 2 6).toInt := hs0.2.1.2.1
  have lg_19_4 : g_19 4 = (tI M_15 1 4).toInt := hs0.2.2.1.1
  have lg_19_7 : g_19 7 = (tI M_15 t 4).toInt := hs0.2.2.2.1.1
  have lg_19_8 : g_19 8 = (tI M_15 t 5).toInt := hs0.2.2.2.1.2.1
  have lg_19_9 : g_19 9 = (tI M_15 t 3).toInt := hs0.2.2.2.1.2.2
  have n0 : g_19 9 = 0 := by rw [eg_19]; rfl
  refine lv_iconst (v := 0) hx hb dX4_read_35 (by decide) ?_
  refine lv_istore_n (lv' := [(3, .int 0), (0, .ref (A 1 0)), (1, .int nn), (2, .ref (A t 0))]) hx hb dX4_read_36 rfl hl (by decide) rfl (fun ls hl => ?_)
  have hl_37_32 : ∀ (n_33 : Nat) (x_20 : Int32) (M_23 : ti_M) (g_29 : Nat → Int) (H : Heap) (locs : List Loc) (ls : Array Slot), (701 - x_20.toInt : Int).toNat < n_33 → (0 ≤ x_20.toInt) → (x_20.toInt ≤ 701) → (cI Tc M_23) → (rR M_23 M) → (f0 M_23 M) → (tI M_23 2 1 = tI M 2 1) → (ot t M_23 M) → (tT M_23 1 1 = (some t)) → (rC B n t g_29 M_23) → (pp_tx B n J = pp_rd B n (n + 1 - (x_20.toInt).toNat) g_29) → (g_29 9 = x_20.toInt) → ti_H ti_LT D A cy H0 M_23 H locs → lv_has ls 4 [(3, .int x_20), (0, .ref (A 1 0)), (1, .int nn), (2, .ref (A t 0))] → W p l e (ti_rm 72) s m args below meth c H locs 0 0 Q (F0 m 37 ls []) := by
    intro n_33
    induction n_33 with
    | zero => intro x_20 M_23 g_29 H locs ls hf_33; exact absurd hf_33 (Nat.not_lt_zero _)
    | succ n_33 ih_33 =>
      intro x_20 M_23 g_29 H locs ls hf_33 b_21 b_22 iM_23 f_24 f_25 f_26 f_27 f_28 hs_30 j_31 j_32 hw hl
      have lg_29_0 : g_29 0 = (tI M_23 2 4).toInt := hs_30.2.1.1
      have lg_29_1 : g_29 1 = (tI M_23 2 6).toInt := hs_30.2.1.2.1
      have lg_29_4 : g_29 4 = (tI M_23 1 4).toInt := hs_30.2.2.1.1
      have lg_29_7 : g_29 7 = (tI M_23 t 4).toInt := hs_30.2.2.2.1.1
      have lg_29_8 : g_29 8 = (tI M_23 t 5).toInt := hs_30.2.2.2.1.2.1
      have lg_29_9 : g_29 9 = (tI M_23 t 3).toInt := hs_30.2.2.2.1.2.2
      refine lv_iload_n hx hb dX4_read_37 rfl (lv_at hl 0 rfl) ?_
      refine lv_iload_n hx hb dX4_read_38 rfl (lv_at hl 2 rfl) ?_
      refine sb_icmp_gt (tgt := 298) hx hb rfl rfl dX4_read_39 (by decide) (fun c_39_33 => ?_) (fun c_39_33 => ?_)
      · refine lv_aload_n hx hb dX4_read_298 rfl (lv_at hl 1 rfl) ?_
        refine ti_get (ci := 4) (k := 4) (N := 6) (T := TX4) C hw iw_4 rfl ob_1 (by decide) (by decide) fl_X4_22 rfl rfl dX4_read_299 ?_
        refine lv_topi (fun x_177 ex_177 => ?_)
        have u_178 : (tI M_23 1 4).toInt = x_177.toInt := by rw [ex_177]
        refine sb_if_ne (tgt := 309) hx hb rfl dX4_read_302 (by decide) (fun c_302_178 => ?_) (fun c_302_178 => ?_)
        · refine lv_iconst (v := 0) hx hb dX4_read_309 (by decide) ?_
          exact hQ _ _ _ _ _ _ hw rfl (⟨iM_23, f_24, f_25, (f_26), f_27, ⟨J, (by rw [show pp_tx B n J = g_29 from j_31.trans (rd_end (by omega))]; exact hs_30), (by rw [show pp_tx B n J = g_29 from j_31.trans (rd_end (by omega))]; exact Or.inr ⟨rfl, by omega⟩)⟩⟩) dX4_read_310
        · refine lv_iconst (v := 1) hx hb dX4_read_305 (by decide) ?_
          refine lv_goto (tgt := 310) hx hb dX4_read_306 (by decide) ?_
          exact hQ _ _ _ _ _ _ hw rfl (⟨iM_23, f_24, f_25, (f_26), f_27, ⟨J, (by rw [show pp_tx B n J = g_29 from j_31.trans (rd_end (by omega))]; exact hs_30), (by rw [show pp_tx B n J = g_29 from j_31.trans (rd_end (by omega))]; exact Or.inl ⟨rfl, by omega⟩)⟩⟩) dX4_read_310
      · refine lv_aload_n hx hb dX4_read_42 rfl (lv_at hl 1 rfl) ?_
        refine ti_get (ci := 4) (k := 0) (N := 6) (T := TX4) (v := .ref (A 2 0)) C hw iw_4 rfl ob_1 (by decide) (by decide) fl_X4_12 rfl rfl dX4_read_43 ?_
        refine ti_get (ci := 7) (k := 4) (N := 7) (T := TX7) C hw iw_7 rfl ob_2 (by decide) (by decide) fl_X4_41 rfl rfl dX4_read_46 ?_
        refine lv_topi (fun x_35 ex_35 => ?_)
        have bx_35 : 0 ≤ x_35.toInt ∧ x_35.toInt ≤ 41 := cI_rd iM_23 ob_2.1 ex_35
        have ux_35 : (tI M_23 2 4).toInt = x_35.toInt := by rw [ex_35]
        refine lv_bipush (v := 27) hx hb dX4_read_49 (by decide) ?_
        refine sb_icmp_eq (tgt := 298) hx hb rfl (by decide : (27 : Int32).toInt = 27) dX4_read_51 (by decide) (fun c_51_35 => ?_) (fun c_51_35 => ?_)
        · refine lv_aload_n hx hb dX4_read_298 rfl (lv_at hl 1 rfl) ?_
          refine ti_get (ci := 4) (k := 4) (N := 6) (T := TX4) C hw iw_4 rfl ob_1 (by decide) (by decide) fl_X4_22 rfl rfl dX4_read_299 ?_
          refine lv_topi (fun x_180 ex_180 => ?_)
          have u_181 : (tI M_23 1 4).toInt = x_180.toInt := by rw [ex_180]
          refine sb_if_ne (tgt := 309) hx hb rfl dX4_read_302 (by decide) (fun c_302_181 => ?_) (fun c_302_181 => ?_)
          · refine lv_iconst (v := 0) hx hb dX4_read_309 (by decide) ?_
            exact hQ _ _ _ _ _ _ hw rfl (⟨iM_23, f_24, f_25, (f_26), f_27, ⟨J, (by rw [show pp_tx B n J = g_29 from j_31.trans (rd_end (by omega))]; exact hs_30), (by rw [show pp_tx B n J = g_29 from j_31.trans (rd_end (by omega))]; exact Or.inr ⟨rfl, by omega⟩)⟩⟩) dX4_read_310
          · refine lv_iconst (v := 1) hx hb dX4_read_305 (by decide) ?_
            refine lv_goto (tgt := 310) hx hb dX4_read_306 (by decide) ?_
            exact hQ _ _ _ _ _ _ hw rfl (⟨iM_23, f_24, f_25, (f_26), f_27, ⟨J, (by rw [show pp_tx B n J = g_29 from j_31.trans (rd_end (by omega))]; exact hs_30), (by rw [show pp_tx B n J = g_29 from j_31.trans (rd_end (by omega))]; exact Or.inl ⟨rfl, by omega⟩)⟩⟩) dX4_read_310
        · refine lv_aload_n hx hb dX4_read_54 rfl (lv_at hl 1 rfl) ?_
          refine ti_get (ci := 4) (k := 4) (N := 6) (T := TX4) C hw iw_4 rfl ob_1 (by decide) (by decide) fl_X4_22 rfl rfl dX4_read_55 ?_
          refine lv_topi (fun x_37 ex_37 => ?_)
          have u_38 : (tI M_23 1 4).toInt = x_37.toInt := by rw [ex_37]
          refine sb_if_ne (tgt := 298) hx hb rfl dX4_read_58 (by decide) (fun c_58_38 => ?_) (fun c_58_38 => ?_)
          · refine lv_aload_n hx hb dX4_read_298 rfl (lv_at hl 1 rfl) ?_
            refine ti_get (ci := 4) (k := 4) (N := 6) (T := TX4) C hw iw_4 rfl ob_1 (by decide) (by decide) fl_X4_22 rfl rfl dX4_read_299 ?_
            refine ti_top (y := x_37) (ex_37.symm) ?_
            refine sb_if_ne (tgt := 309) hx hb rfl dX4_read_302 (by decide) (fun c_302_182 => ?_) (fun c_302_182 => ?_)
            · refine lv_iconst (v := 0) hx hb dX4_read_309 (by decide) ?_
              exact hQ _ _ _ _ _ _ hw rfl (⟨iM_23, f_24, f_25, (f_26), f_27, ⟨J, (by rw [show pp_tx B n J = g_29 from j_31.trans (rd_end (by omega))]; exact hs_30), (by rw [show pp_tx B n J = g_29 from j_31.trans (rd_end (by omega))]; exact Or.inr ⟨rfl, by omega⟩)⟩⟩) dX4_read_310
            · refine lv_iconst (v := 1) hx hb dX4_read_305 (by decide) ?_
              refine lv_goto (tgt := 310) hx hb dX4_read_306 (by decide) ?_
              exact hQ _ _ _ _ _ _ hw rfl (⟨iM_23, f_24, f_25, (f_26), f_27, ⟨J, (by rw [show pp_tx B n J = g_29 from j_31.trans (rd_end (by omega))]; exact hs_30), (by rw [show pp_tx B n J = g_29 from j_31.trans (rd_end (by omega))]; exact Or.inl ⟨rfl, by omega⟩)⟩⟩) dX4_read_310
          · refine lv_aload_n hx hb dX4_read_61 rfl (lv_at hl 1 rfl) ?_
            refine ti_get (ci := 4) (k := 0) (N := 6) (T := TX4) (v := .ref (A 2 0)) C hw iw_4 rfl ob_1 (by decide) (by decide) fl_X4_12 rfl rfl dX4_read_62 ?_
            refine ti_get (ci := 7) (k := 4) (N := 7) (T := TX7) C hw iw_7 rfl ob_2 (by decide) (by decide) fl_X4_41 rfl rfl dX4_read_65 ?_
            refine ti_top (y := x_35) (ex_35.symm) ?_
            have u_40 : (tI M_23 2 4).toInt = (x_35 : Int32).toInt := by rw [(ex_35.symm)]
            have hj_273_163 : ∀ (M_155 : ti_M) (g_161 : Nat → Int) (H : Heap) (locs : List Loc) (ls : Array Slot), (cI Tc M_155) → (rR M_155 M) → (f0 M_155 M) → (tI M_155 2 1 = tI M 2 1) → (ot t M_155 M) → (tT M_155 1 1 = (some t)) → (rC B n t g_161 M_155) → (pp_lb B n g_29 = g_161) → ti_H ti_LT D A cy H0 M_155 H locs → lv_has ls 4 [(3, .int x_20), (0, .ref (A 1 0)), (1, .int nn), (2, .ref (A t 0))] → W p l e (ti_rm 72) s m args below meth c H locs 0 0 Q (F0 m 273 ls []) := by
              intro M_155 g_161 H locs ls iM_155 f_156 f_157 f_158 f_159 f_160 hs_162 j_163 hw hl
              have lg_161_0 : g_161 0 = (tI M_155 2 4).toInt := hs_162.2.1.1
              have lg_161_1 : g_161 1 = (tI M_155 2 6).toInt := hs_162.2.1.2.1
              have lg_161_4 : g_161 4 = (tI M_155 1 4).toInt := hs_162.2.2.1.1
              have lg_161_7 : g_161 7 = (tI M_155 t 4).toInt := hs_162.2.2.2.1.1
              have lg_161_8 : g_161 8 = (tI M_155 t 5).toInt := hs_162.2.2.2.1.2.1
              have lg_161_9 : g_161 9 = (tI M_155 t 3).toInt := hs_162.2.2.2.1.2.2
              refine lv_aload_n hx hb dX4_read_273 rfl (lv_at hl 1 rfl) ?_
              refine lv_bipush (v := 29) hx hb dX4_read_274 (by decide) ?_
              refine ti_callVvE (ci := 4) (av := [.int 29]) C hE hw (x_X4_take l D A cy hJ M_155 iM_155 t ht 29 B n g_161 hs_162) ⟨ml_X4_85, ym_X4_take, yv_X4_take, yi_X4_take, yc_X4_take⟩ yd_X4_take ob_1 (by decide) rfl rfl hl.1 (Nat.le_of_ble_eq_true rfl) ⟨by decide, by decide⟩ ⟨Nat.zero_le _, Nat.zero_le _⟩ dX4_read_276 (fun M_165 H locs hp_165 hw => ?_)
              obtain ⟨iM_165, q_166, q_167, q_168, p0r_164⟩ := hp_165
              have hlr_164_29 : (29 : Int32).toInt = 29 := by decide
              simp only [hlr_164_29] at p0r_164
              obtain ⟨g_169, eg_169⟩ : ∃ z : Nat → Int, z = pp_tk B n 29 g_161 := ⟨_, rfl⟩
              rw [← eg_169] at p0r_164
              have lg_169_0 : g_169 0 = (tI M_165 2 4).toInt := p0r_164.2.1.1
              have lg_169_1 : g_169 1 = (tI M_165 2 6).toInt := p0r_164.2.1.2.1
              have lg_169_4 : g_169 4 = (tI M_165 1 4).toInt := p0r_164.2.2.1.1
              have lg_169_7 : g_169 7 = (tI M_165 t 4).toInt := p0r_164.2.2.2.1.1
              have lg_169_8 : g_169 8 = (tI M_165 t 5).toInt := p0r_164.2.2.2.1.2.1
              have lg_169_9 : g_169 9 = (tI M_165 t 3).toInt := p0r_164.2.2.2.1.2.2
              refine lv_aload_n hx hb dX4_read_279 rfl (lv_at hl 1 rfl) ?_
              refine ti_get (ci := 4) (k := 1) (N := 6) (T := TX4) (v := .ref (A t 0)) C hw iw_4 rfl ob_1 (by decide) (by decide) fl_X4_28 rfl (ti_Tv ((tT_fr q_166).trans f_160)) dX4_read_280 ?_
              refine lv_dup hx hb dX4_read_283 rfl ?_
              refine ti_get (ci := 8) (k := 3) (N := 12) (T := TX8) C hw iw_8 rfl (ob_t ht) (by decide) (by decide) fl_X4_88 rfl rfl dX4_read_284 ?_
              refine lv_topi (fun x_170 ex_170 => ?_)
              have u_171 : (tI M_165 t 3).toInt = x_170.toInt := by rw [ex_170]
              refine lv_iconst (v := 1) hx hb dX4_read_287 (by decide) ?_
              have n9 : g_169 9 = g_29 9 := by rw [eg_169, tk_n (by decide), ← j_163]; exact lb_9
              have l9 : g_169 9 = (x_170 : Int32).toInt := (p0r_164.2.2.2.1.2.2).trans (congrArg Int32.toInt (ex_170.symm))
              refine lv_iadd hx hb dX4_read_288 ?_
              refine lv_topi (fun x_172 ex_172 => ?_)
              have lox_172x_170 := x_170.le_toInt
              have hix_172x_170 := x_170.toInt_lt
              have tx_172 : x_172.toInt = x_170.toInt + 1 := i_add ex_172 rfl (by decide : (1 : Int32).toInt = 1) (by omega) (by omega)
              refine ti_putI (ci := 8) (k := 3) (N := 12) (T := TX8) C hw iw_8 tyX8 tyX8_ok nmX8 rfl (ob_t ht) (by decide) (by decide) fl_X4_88 rfl rfl rfl rfl (fn_8 A _) fs_8_3 dX4_read_289 (fun H locs hw => ?_)
              obtain ⟨M_173, hM_173⟩ : ∃ z : ti_M, z = uI M_165 t 3 x_172 := ⟨_, rfl⟩
              have hw := hw.to hM_173.symm
              have iM_173 : cI Tc M_173 := cI_uI iM_165 hM_173 (ob_t ht).1 trivial
              have hs_174 := rC_t3 ht hM_173 p0r_164
              obtain ⟨g_175, eg_175⟩ : ∃ z : Nat → Int, z = pp_su g_169 9 x_172.toInt := ⟨_, rfl⟩
              rw [← eg_175] at hs_174
              have lg_175_0 : g_175 0 = (tI M_173 2 4).toInt := hs_174.2.1.1
              have lg_175_1 : g_175 1 = (tI M_173 2 6).toInt := hs_174.2.1.2.1
              have lg_175_4 : g_175 4 = (tI M_173 1 4).toInt := hs_174.2.2.1.1
              have lg_175_7 : g_175 7 = (tI M_173 t 4).toInt := hs_174.2.2.2.1.1
              have lg_175_8 : g_175 8 = (tI M_173 t 5).toInt := hs_174.2.2.2.1.2.1
              have lg_175_9 : g_175 9 = (tI M_173 t 3).toInt := hs_174.2.2.2.1.2.2
              have t9 : g_175 9 = (x_172 : Int32).toInt := (hs_174.2.2.2.1.2.2).trans (congrArg Int32.toInt (tI_uE hM_173))
              obtain ⟨x_176, ex_176⟩ : ∃ z : Int32, z = x_20 + 1 := ⟨_, rfl⟩
              have tx_176 : x_176.toInt = x_20.toInt + 1 := i_add ex_176 rfl (by decide) (by omega) (by omega)
              refine lv_iinc (v := x_176) (lv' := [(3, .int x_176), (0, .ref (A 1 0)), (1, .int nn), (2, .ref (A t 0))]) hx hb dX4_read_292 hl (k := 0) rfl (by rw [ex_176]; rfl) (by decide) rfl (fun ls hl => ?_)
              refine lv_goto (tgt := 37) hx hb dX4_read_295 (by decide) ?_
              exact ih_33 x_176 M_173 g_175 _ _ _ (by omega) (by first | omega | decide) (by first | omega | decide) iM_173 (rR.trans (rr_of (rf_I hM_173)) (rR.trans (rr_of q_166) f_156)) (f0.trans (f0_I hM_173 (f0n (ob_t ht).1 (by decide))) (f0.trans (f0_12 q_167) f_157)) ((tI_nE hM_173 (nk (by decide))).trans ((q_168).trans f_158)) (ot.trans (ot_I ht hM_173 (by omega)) (ot.trans (ot_12 ht q_167) f_159)) ((tT_uIE hM_173).trans ((tT_fr q_166).trans f_160)) hs_174 (j_31.trans (rd_step ⟨by omega, by omega⟩ (show g_175 = pp_ln B n g_29 by unfold pp_ln; rw [j_163, ← eg_169]; unfold pp_l9; rw [show g_169 9 + 1 = x_172.toInt by omega, ← eg_175]) (by omega))) (by first | omega | decide) hw (lv_sub hl [0, 1, 2, 3] rfl)
            by_cases s_41_0 : x_35 = 0
            · have qs_41_0 : x_35.toInt = 0 := by rw [s_41_0]; decide
              refine lv_tableIn (tgt := 120) (off := 52) hx hb dX4_read_68 (by rw [s_41_0]; decide) (by rw [s_41_0]; decide) (by rw [s_41_0]; decide) (by decide) ?_
              refine lv_aload_n hx hb dX4_read_120 rfl (lv_at hl 1 rfl) ?_
              refine ti_callVvE (ci := 4) (av := []) C hE hw (x_X4_readMan l D A cy hJ M_23 iM_23 t ht (f_28) B n g_29 hs_30) ⟨ml_X4_44, ym_X4_readMan, yv_X4_readMan, yi_X4_readMan, yc_X4_readMan⟩ yd_X4_readMan ob_1 (by decide) rfl rfl hl.1 (Nat.le_of_ble_eq_true rfl) ⟨by decide, by decide⟩ ⟨Nat.zero_le _, Nat.zero_le _⟩ dX4_read_121 (fun M_43 H locs hp_43 hw => ?_)
              obtain ⟨iM_43, q_44, q_45, q_46, q_47, p0r_42⟩ := hp_43
              obtain ⟨g_48, eg_48⟩ : ∃ z : Nat → Int, z = pp_mn B n g_29 := ⟨_, rfl⟩
              rw [← eg_48] at p0r_42
              have lg_48_0 : g_48 0 = (tI M_43 2 4).toInt := p0r_42.2.1.1
              have lg_48_1 : g_48 1 = (tI M_43 2 6).toInt := p0r_42.2.1.2.1
              have lg_48_4 : g_48 4 = (tI M_43 1 4).toInt := p0r_42.2.2.1.1
              have lg_48_7 : g_48 7 = (tI M_43 t 4).toInt := p0r_42.2.2.2.1.1
              have lg_48_8 : g_48 8 = (tI M_43 t 5).toInt := p0r_42.2.2.2.1.2.1
              have lg_48_9 : g_48 9 = (tI M_43 t 3).toInt := p0r_42.2.2.2.1.2.2
              refine lv_goto (tgt := 273) hx hb dX4_read_124 (by decide) ?_
              exact hj_273_163 M_43 g_48 _ _ _ iM_43 (rR.trans (rr_of q_44) f_24) (f0.trans q_45 f_25) ((q_46).trans f_26) (ot.trans q_47 f_27) ((tT_fr q_44).trans f_28) p0r_42 (by unfold pp_lb; rw [if_pos (by omega), ← eg_48]) hw (lv_sub hl [0, 1, 2, 3] rfl)
            · have qs_41_0 : x_35.toInt ≠ 0 := pt_ne s_41_0 (by decide)
              by_cases s_41_1 : x_35 = 1
              · have qs_41_1 : x_35.toInt = 1 := by rw [s_41_1]; decide
                refine lv_tableIn (tgt := 127) (off := 59) hx hb dX4_read_68 (by rw [s_41_1]; decide) (by rw [s_41_1]; decide) (by rw [s_41_1]; decide) (by decide) ?_
                refine lv_aload_n hx hb dX4_read_127 rfl (lv_at hl 1 rfl) ?_
                refine ti_callVvE (ci := 4) (av := []) C hE hw (x_X4_readGuard l D A cy hJ M_23 iM_23 t ht (f_28) B n g_29 hs_30) ⟨ml_X4_47, ym_X4_readGuard, yv_X4_readGuard, yi_X4_readGuard, yc_X4_readGuard⟩ yd_X4_readGuard ob_1 (by decide) rfl rfl hl.1 (Nat.le_of_ble_eq_true rfl) ⟨by decide, by decide⟩ ⟨Nat.zero_le _, Nat.zero_le _⟩ dX4_read_128 (fun M_50 H locs hp_50 hw => ?_)
                obtain ⟨iM_50, q_51, q_52, q_53, q_54, p0r_49⟩ := hp_50
                obtain ⟨g_55, eg_55⟩ : ∃ z : Nat → Int, z = pp_gd B n g_29 := ⟨_, rfl⟩
                rw [← eg_55] at p0r_49
                have lg_55_0 : g_55 0 = (tI M_50 2 4).toInt := p0r_49.2.1.1
                have lg_55_1 : g_55 1 = (tI M_50 2 6).toInt := p0r_49.2.1.2.1
                have lg_55_4 : g_55 4 = (tI M_50 1 4).toInt := p0r_49.2.2.1.1
                have lg_55_7 : g_55 7 = (tI M_50 t 4).toInt := p0r_49.2.2.2.1.1
                have lg_55_8 : g_55 8 = (tI M_50 t 5).toInt := p0r_49.2.2.2.1.2.1
                have lg_55_9 : g_55 9 = (tI M_50 t 3).toInt := p0r_49.2.2.2.1.2.2
                refine lv_goto (tgt := 273) hx hb dX4_read_131 (by decide) ?_
                exact hj_273_163 M_50 g_55 _ _ _ iM_50 (rR.trans (rr_of q_51) f_24) (f0.trans q_52 f_25) ((q_53).trans f_26) (ot.trans q_54 f_27) ((tT_fr q_51).trans f_28) p0r_49 (by unfold pp_lb; rw [if_neg (by omega), if_pos (by omega), ← eg_55]) hw (lv_sub hl [0, 1, 2, 3] rfl)
              · have qs_41_1 : x_35.toInt ≠ 1 := pt_ne s_41_1 (by decide)
                by_cases s_41_2 : x_35 = 2
                · have qs_41_2 : x_35.toInt = 2 := by rw [s_41_2]; decide
                  refine lv_tableIn (tgt := 134) (off := 66) hx hb dX4_read_68 (by rw [s_41_2]; decide) (by rw [s_41_2]; decide) (by rw [s_41_2]; decide) (by decide) ?_
                  refine lv_aload_n hx hb dX4_read_134 rfl (lv_at hl 1 rfl) ?_
                  refine ti_callVvE (ci := 4) (av := []) C hE hw (x_X4_readPower l D A cy hJ M_23 iM_23 t ht (f_28) B n g_29 hs_30) ⟨ml_X4_50, ym_X4_readPower, yv_X4_readPower, yi_X4_readPower, yc_X4_readPower⟩ yd_X4_readPower ob_1 (by decide) rfl rfl hl.1 (Nat.le_of_ble_eq_true rfl) ⟨by decide, by decide⟩ ⟨Nat.zero_le _, Nat.zero_le _⟩ dX4_read_135 (fun M_57 H locs hp_57 hw => ?_)
                  obtain ⟨iM_57, q_58, q_59, q_60, q_61, p0r_56⟩ := hp_57
                  obtain ⟨g_62, eg_62⟩ : ∃ z : Nat → Int, z = pp_pw B n g_29 := ⟨_, rfl⟩
                  rw [← eg_62] at p0r_56
                  have lg_62_0 : g_62 0 = (tI M_57 2 4).toInt := p0r_56.2.1.1
                  have lg_62_1 : g_62 1 = (tI M_57 2 6).toInt := p0r_56.2.1.2.1
                  have lg_62_4 : g_62 4 = (tI M_57 1 4).toInt := p0r_56.2.2.1.1
                  have lg_62_7 : g_62 7 = (tI M_57 t 4).toInt := p0r_56.2.2.2.1.1
                  have lg_62_8 : g_62 8 = (tI M_57 t 5).toInt := p0r_56.2.2.2.1.2.1
                  have lg_62_9 : g_62 9 = (tI M_57 t 3).toInt := p0r_56.2.2.2.1.2.2
                  refine lv_goto (tgt := 273) hx hb dX4_read_138 (by decide) ?_
                  exact hj_273_163 M_57 g_62 _ _ _ iM_57 (rR.trans (rr_of q_58) f_24) (f0.trans q_59 f_25) ((q_60).trans f_26) (ot.trans q_61 f_27) ((tT_fr q_58).trans f_28) p0r_56 (by unfold pp_lb; rw [if_neg (by omega), if_neg (by omega), if_pos (by omega), ← eg_62]) hw (lv_sub hl [0, 1, 2, 3] rfl)
                · have qs_41_2 : x_35.toInt ≠ 2 := pt_ne s_41_2 (by decide)
                  by_cases s_41_3 : x_35 = 3
                  · have qs_41_3 : x_35.toInt = 3 := by rw [s_41_3]; decide
                    refine lv_tableIn (tgt := 141) (off := 73) hx hb dX4_read_68 (by rw [s_41_3]; decide) (by rw [s_41_3]; decide) (by rw [s_41_3]; decide) (by decide) ?_
                    refine lv_aload_n hx hb dX4_read_141 rfl (lv_at hl 1 rfl) ?_
                    refine ti_callVvE (ci := 4) (av := []) C hE hw (x_X4_once l D A cy hJ M_23 iM_23 t ht B n g_29 hs_30 (by omega)) ⟨ml_X4_53, ym_X4_once, yv_X4_once, yi_X4_once, yc_X4_once⟩ yd_X4_once ob_1 (by decide) rfl rfl hl.1 (Nat.le_of_ble_eq_true rfl) ⟨by decide, by decide⟩ ⟨Nat.zero_le _, Nat.zero_le _⟩ dX4_read_142 (fun M_64 H locs hp_64 hw => ?_)
                    obtain ⟨iM_64, q_65, q_66, q_67, p0r_63⟩ := hp_64
                    obtain ⟨g_68, eg_68⟩ : ∃ z : Nat → Int, z = pp_on B n g_29 := ⟨_, rfl⟩
                    rw [← eg_68] at p0r_63
                    have lg_68_0 : g_68 0 = (tI M_64 2 4).toInt := p0r_63.2.1.1
                    have lg_68_1 : g_68 1 = (tI M_64 2 6).toInt := p0r_63.2.1.2.1
                    have lg_68_4 : g_68 4 = (tI M_64 1 4).toInt := p0r_63.2.2.1.1
                    have lg_68_7 : g_68 7 = (tI M_64 t 4).toInt := p0r_63.2.2.2.1.1
                    have lg_68_8 : g_68 8 = (tI M_64 t 5).toInt := p0r_63.2.2.2.1.2.1
                    have lg_68_9 : g_68 9 = (tI M_64 t 3).toInt := p0r_63.2.2.2.1.2.2
                    refine lv_aload_n hx hb dX4_read_145 rfl (lv_at hl 1 rfl) ?_
                    refine ti_get (ci := 4) (k := 1) (N := 6) (T := TX4) (v := .ref (A t 0)) C hw iw_4 rfl ob_1 (by decide) (by decide) fl_X4_28 rfl (ti_Tv ((tT_fr q_65).trans f_28)) dX4_read_146 ?_
                    refine lv_aload_n hx hb dX4_read_149 rfl (lv_at hl 1 rfl) ?_
                    refine lv_iconst (v := 0) hx hb dX4_read_150 (by decide) ?_
                    refine lv_sipush (v := 999) hx hb dX4_read_151 (by decide) ?_
                    refine ti_callViE (ci := 4) (av := [.int 0, .int 999]) C hE hw (x_X4_number l D A cy hJ M_64 iM_64 t ht 0 999 B n g_68 p0r_63) ⟨ml_X4_56, ym_X4_number, yv_X4_number, yi_X4_number, yc_X4_number⟩ yd_X4_number ob_1 (by decide) rfl rfl hl.1 (Nat.le_of_ble_eq_true rfl) ⟨by decide, by decide⟩ ⟨Nat.zero_le _, Nat.zero_le _⟩ dX4_read_154 (fun r_69 M_70 H locs hp_70 hw => ?_)
                    obtain ⟨iM_70, q_71, q_72, q_73, p0r_69, p1r_69⟩ := hp_70
                    have hlr_69_0 : (0 : Int32).toInt = 0 := by decide
                    have hlr_69_999 : (999 : Int32).toInt = 999 := by decide
                    simp only [hlr_69_0, hlr_69_999] at p1r_69
                    obtain ⟨g_74, eg_74⟩ : ∃ z : Nat → Int, z = pp_nb B n 0 999 g_68 := ⟨_, rfl⟩
                    rw [← eg_74] at p1r_69
                    have lg_74_0 : g_74 0 = (tI M_70 2 4).toInt := p1r_69.2.1.1
                    have lg_74_1 : g_74 1 = (tI M_70 2 6).toInt := p1r_69.2.1.2.1
                    have lg_74_4 : g_74 4 = (tI M_70 1 4).toInt := p1r_69.2.2.1.1
                    have lg_74_7 : g_74 7 = (tI M_70 t 4).toInt := p1r_69.2.2.2.1.1
                    have lg_74_8 : g_74 8 = (tI M_70 t 5).toInt := p1r_69.2.2.2.1.2.1
                    have lg_74_9 : g_74 9 = (tI M_70 t 3).toInt := p1r_69.2.2.2.1.2.2
                    refine ti_putI (ci := 8) (k := 6) (N := 12) (T := TX8) C hw iw_8 tyX8 tyX8_ok nmX8 rfl (ob_t ht) (by decide) (by decide) fl_X4_60 rfl rfl rfl rfl (fn_8 A _) fs_8_6 dX4_read_157 (fun H locs hw => ?_)
                    obtain ⟨M_75, hM_75⟩ : ∃ z : ti_M, z = uI M_70 t 6 r_69 := ⟨_, rfl⟩
                    have hw := hw.to hM_75.symm
                    have iM_75 : cI Tc M_75 := cI_uI iM_70 hM_75 (ob_t ht).1 trivial
                    have hs_76 := rC_t6x ht hM_75 p1r_69
                    have lM_75_0 : g_74 0 = (tI M_75 2 4).toInt := hs_76.2.1.1
                    have lM_75_1 : g_74 1 = (tI M_75 2 6).toInt := hs_76.2.1.2.1
                    have lM_75_4 : g_74 4 = (tI M_75 1 4).toInt := hs_76.2.2.1.1
                    have lM_75_7 : g_74 7 = (tI M_75 t 4).toInt := hs_76.2.2.2.1.1
                    have lM_75_8 : g_74 8 = (tI M_75 t 5).toInt := hs_76.2.2.2.1.2.1
                    have lM_75_9 : g_74 9 = (tI M_75 t 3).toInt := hs_76.2.2.2.1.2.2
                    refine lv_aload_n hx hb dX4_read_160 rfl (lv_at hl 1 rfl) ?_
                    refine ti_get (ci := 4) (k := 1) (N := 6) (T := TX4) (v := .ref (A t 0)) C hw iw_4 rfl ob_1 (by decide) (by decide) fl_X4_28 rfl (ti_Tv ((tT_uIE hM_75).trans ((tT_fr q_71).trans ((tT_fr q_65).trans f_28)))) dX4_read_161 ?_
                    refine lv_aload_n hx hb dX4_read_164 rfl (lv_at hl 1 rfl) ?_
                    refine lv_iconst (v := 1) hx hb dX4_read_165 (by decide) ?_
                    refine lv_bipush (v := 9) hx hb dX4_read_166 (by decide) ?_
                    refine ti_callViE (ci := 4) (av := [.int 1, .int 9]) C hE hw (x_X4_number l D A cy hJ M_75 iM_75 t ht 1 9 B n g_74 hs_76) ⟨ml_X4_56, ym_X4_number, yv_X4_number, yi_X4_number, yc_X4_number⟩ yd_X4_number ob_1 (by decide) rfl rfl hl.1 (Nat.le_of_ble_eq_true rfl) ⟨by decide, by decide⟩ ⟨Nat.zero_le _, Nat.zero_le _⟩ dX4_read_168 (fun r_77 M_78 H locs hp_78 hw => ?_)
                    obtain ⟨iM_78, q_79, q_80, q_81, p0r_77, p1r_77⟩ := hp_78
                    have hlr_77_1 : (1 : Int32).toInt = 1 := by decide
                    have hlr_77_9 : (9 : Int32).toInt = 9 := by decide
                    simp only [hlr_77_1, hlr_77_9] at p1r_77
                    obtain ⟨g_82, eg_82⟩ : ∃ z : Nat → Int, z = pp_nb B n 1 9 g_74 := ⟨_, rfl⟩
                    rw [← eg_82] at p1r_77
                    have lg_82_0 : g_82 0 = (tI M_78 2 4).toInt := p1r_77.2.1.1
                    have lg_82_1 : g_82 1 = (tI M_78 2 6).toInt := p1r_77.2.1.2.1
                    have lg_82_4 : g_82 4 = (tI M_78 1 4).toInt := p1r_77.2.2.1.1
                    have lg_82_7 : g_82 7 = (tI M_78 t 4).toInt := p1r_77.2.2.2.1.1
                    have lg_82_8 : g_82 8 = (tI M_78 t 5).toInt := p1r_77.2.2.2.1.2.1
                    have lg_82_9 : g_82 9 = (tI M_78 t 3).toInt := p1r_77.2.2.2.1.2.2
                    refine ti_putI (ci := 8) (k := 7) (N := 12) (T := TX8) C hw iw_8 tyX8 tyX8_ok nmX8 rfl (ob_t ht) (by decide) (by decide) fl_X4_63 rfl rfl rfl rfl (fn_8 A _) fs_8_7 dX4_read_171 (fun H locs hw => ?_)
                    obtain ⟨M_83, hM_83⟩ : ∃ z : ti_M, z = uI M_78 t 7 r_77 := ⟨_, rfl⟩
                    have hw := hw.to hM_83.symm
                    have iM_83 : cI Tc M_83 := cI_uI iM_78 hM_83 (ob_t ht).1 trivial
                    have hs_84 := rC_t7x ht hM_83 p1r_77
                    have lM_83_0 : g_82 0 = (tI M_83 2 4).toInt := hs_84.2.1.1
                    have lM_83_1 : g_82 1 = (tI M_83 2 6).toInt := hs_84.2.1.2.1
                    have lM_83_4 : g_82 4 = (tI M_83 1 4).toInt := hs_84.2.2.1.1
                    have lM_83_7 : g_82 7 = (tI M_83 t 4).toInt := hs_84.2.2.2.1.1
                    have lM_83_8 : g_82 8 = (tI M_83 t 5).toInt := hs_84.2.2.2.1.2.1
                    have lM_83_9 : g_82 9 = (tI M_83 t 3).toInt := hs_84.2.2.2.1.2.2
                    refine lv_goto (tgt := 273) hx hb dX4_read_174 (by decide) ?_
                    exact hj_273_163 M_83 g_82 _ _ _ iM_83 (rR.trans (rr_of (rf_I hM_83)) (rR.trans (rr_of q_79) (rR.trans (rr_of (rf_I hM_75)) (rR.trans (rr_of q_71) (rR.trans (rr_of q_65) f_24))))) (f0.trans (f0_I hM_83 (f0n (ob_t ht).1 (by decide))) (f0.trans (f0_12 q_80) (f0.trans (f0_I hM_75 (f0n (ob_t ht).1 (by decide))) (f0.trans (f0_12 q_72) (f0.trans (f0_12 q_66) f_25))))) ((tI_nE hM_83 (nk (by decide))).trans ((q_81).trans ((tI_nE hM_75 (nk (by decide))).trans ((q_73).trans ((q_67).trans f_26))))) (ot.trans (ot_I ht hM_83 (by omega)) (ot.trans (ot_12 ht q_80) (ot.trans (ot_I ht hM_75 (by omega)) (ot.trans (ot_12 ht q_72) (ot.trans (ot_12 ht q_66) f_27))))) ((tT_uIE hM_83).trans ((tT_fr q_79).trans ((tT_uIE hM_75).trans ((tT_fr q_71).trans ((tT_fr q_65).trans f_28))))) hs_84 (by unfold pp_lb; rw [if_neg (by omega), if_neg (by omega), if_neg (by omega), if_pos (by omega), ← eg_68, ← eg_74, ← eg_82]) hw (lv_sub hl [0, 1, 2, 3] rfl)
                  · have qs_41_3 : x_35.toInt ≠ 3 := pt_ne s_41_3 (by decide)
                    by_cases s_41_4 : x_35 = 4
                    · have qs_41_4 : x_35.toInt = 4 := by rw [s_41_4]; decide
                      refine lv_tableIn (tgt := 177) (off := 109) hx hb dX4_read_68 (by rw [s_41_4]; decide) (by rw [s_41_4]; decide) (by rw [s_41_4]; decide) (by decide) ?_
                      refine lv_aload_n hx hb dX4_read_177 rfl (lv_at hl 1 rfl) ?_
                      refine ti_callVvE (ci := 4) (av := []) C hE hw (x_X4_once l D A cy hJ M_23 iM_23 t ht B n g_29 hs_30 (by omega)) ⟨ml_X4_53, ym_X4_once, yv_X4_once, yi_X4_once, yc_X4_once⟩ yd_X4_once ob_1 (by decide) rfl rfl hl.1 (Nat.le_of_ble_eq_true rfl) ⟨by decide, by decide⟩ ⟨Nat.zero_le _, Nat.zero_le _⟩ dX4_read_178 (fun M_86 H locs hp_86 hw => ?_)
                      obtain ⟨iM_86, q_87, q_88, q_89, p0r_85⟩ := hp_86
                      obtain ⟨g_90, eg_90⟩ : ∃ z : Nat → Int, z = pp_on B n g_29 := ⟨_, rfl⟩
                      rw [← eg_90] at p0r_85
                      have lg_90_0 : g_90 0 = (tI M_86 2 4).toInt := p0r_85.2.1.1
                      have lg_90_1 : g_90 1 = (tI M_86 2 6).toInt := p0r_85.2.1.2.1
                      have lg_90_4 : g_90 4 = (tI M_86 1 4).toInt := p0r_85.2.2.1.1
                      have lg_90_7 : g_90 7 = (tI M_86 t 4).toInt := p0r_85.2.2.2.1.1
                      have lg_90_8 : g_90 8 = (tI M_86 t 5).toInt := p0r_85.2.2.2.1.2.1
                      have lg_90_9 : g_90 9 = (tI M_86 t 3).toInt := p0r_85.2.2.2.1.2.2
                      refine lv_aload_n hx hb dX4_read_181 rfl (lv_at hl 1 rfl) ?_
                      refine ti_get (ci := 4) (k := 1) (N := 6) (T := TX4) (v := .ref (A t 0)) C hw iw_4 rfl ob_1 (by decide) (by decide) fl_X4_28 rfl (ti_Tv ((tT_fr q_87).trans f_28)) dX4_read_182 ?_
                      refine lv_aload_n hx hb dX4_read_185 rfl (lv_at hl 1 rfl) ?_
                      refine lv_iconst (v := 1) hx hb dX4_read_186 (by decide) ?_
                      refine lv_bipush (v := 30) hx hb dX4_read_187 (by decide) ?_
                      refine ti_callViE (ci := 4) (av := [.int 1, .int 30]) C hE hw (x_X4_number l D A cy hJ M_86 iM_86 t ht 1 30 B n g_90 p0r_85) ⟨ml_X4_56, ym_X4_number, yv_X4_number, yi_X4_number, yc_X4_number⟩ yd_X4_number ob_1 (by decide) rfl rfl hl.1 (Nat.le_of_ble_eq_true rfl) ⟨by decide, by decide⟩ ⟨Nat.zero_le _, Nat.zero_le _⟩ dX4_read_189 (fun r_91 M_92 H locs hp_92 hw => ?_)
                      obtain ⟨iM_92, q_93, q_94, q_95, p0r_91, p1r_91⟩ := hp_92
                      have hlr_91_1 : (1 : Int32).toInt = 1 := by decide
                      have hlr_91_30 : (30 : Int32).toInt = 30 := by decide
                      simp only [hlr_91_1, hlr_91_30] at p1r_91
                      obtain ⟨g_96, eg_96⟩ : ∃ z : Nat → Int, z = pp_nb B n 1 30 g_90 := ⟨_, rfl⟩
                      rw [← eg_96] at p1r_91
                      have lg_96_0 : g_96 0 = (tI M_92 2 4).toInt := p1r_91.2.1.1
                      have lg_96_1 : g_96 1 = (tI M_92 2 6).toInt := p1r_91.2.1.2.1
                      have lg_96_4 : g_96 4 = (tI M_92 1 4).toInt := p1r_91.2.2.1.1
                      have lg_96_7 : g_96 7 = (tI M_92 t 4).toInt := p1r_91.2.2.2.1.1
                      have lg_96_8 : g_96 8 = (tI M_92 t 5).toInt := p1r_91.2.2.2.1.2.1
                      have lg_96_9 : g_96 9 = (tI M_92 t 3).toInt := p1r_91.2.2.2.1.2.2
                      refine ti_putI (ci := 8) (k := 8) (N := 12) (T := TX8) C hw iw_8 tyX8 tyX8_ok nmX8 rfl (ob_t ht) (by decide) (by decide) fl_X4_66 rfl rfl rfl rfl (fn_8 A _) fs_8_8 dX4_read_192 (fun H locs hw => ?_)
                      obtain ⟨M_97, hM_97⟩ : ∃ z : ti_M, z = uI M_92 t 8 r_91 := ⟨_, rfl⟩
                      have hw := hw.to hM_97.symm
                      have iM_97 : cI Tc M_97 := cI_uI iM_92 hM_97 (ob_t ht).1 trivial
                      have hs_98 := rC_t8x ht hM_97 p1r_91
                      have lM_97_0 : g_96 0 = (tI M_97 2 4).toInt := hs_98.2.1.1
                      have lM_97_1 : g_96 1 = (tI M_97 2 6).toInt := hs_98.2.1.2.1
                      have lM_97_4 : g_96 4 = (tI M_97 1 4).toInt := hs_98.2.2.1.1
                      have lM_97_7 : g_96 7 = (tI M_97 t 4).toInt := hs_98.2.2.2.1.1
                      have lM_97_8 : g_96 8 = (tI M_97 t 5).toInt := hs_98.2.2.2.1.2.1
                      have lM_97_9 : g_96 9 = (tI M_97 t 3).toInt := hs_98.2.2.2.1.2.2
                      refine lv_goto (tgt := 273) hx hb dX4_read_195 (by decide) ?_
                      exact hj_273_163 M_97 g_96 _ _ _ iM_97 (rR.trans (rr_of (rf_I hM_97)) (rR.trans (rr_of q_93) (rR.trans (rr_of q_87) f_24))) (f0.trans (f0_I hM_97 (f0n (ob_t ht).1 (by decide))) (f0.trans (f0_12 q_94) (f0.trans (f0_12 q_88) f_25))) ((tI_nE hM_97 (nk (by decide))).trans ((q_95).trans ((q_89).trans f_26))) (ot.trans (ot_I ht hM_97 (by omega)) (ot.trans (ot_12 ht q_94) (ot.trans (ot_12 ht q_88) f_27))) ((tT_uIE hM_97).trans ((tT_fr q_93).trans ((tT_fr q_87).trans f_28))) hs_98 (by unfold pp_lb; rw [if_neg (by omega), if_neg (by omega), if_neg (by omega), if_neg (by omega), if_pos (by omega), ← eg_90, ← eg_96]) hw (lv_sub hl [0, 1, 2, 3] rfl)
                    · have qs_41_4 : x_35.toInt ≠ 4 := pt_ne s_41_4 (by decide)
                      by_cases s_41_5 : x_35 = 5
                      · have qs_41_5 : x_35.toInt = 5 := by rw [s_41_5]; decide
                        refine lv_tableIn (tgt := 198) (off := 130) hx hb dX4_read_68 (by rw [s_41_5]; decide) (by rw [s_41_5]; decide) (by rw [s_41_5]; decide) (by decide) ?_
                        refine lv_aload_n hx hb dX4_read_198 rfl (lv_at hl 1 rfl) ?_
                        refine ti_callVvE (ci := 4) (av := []) C hE hw (x_X4_once l D A cy hJ M_23 iM_23 t ht B n g_29 hs_30 (by omega)) ⟨ml_X4_53, ym_X4_once, yv_X4_once, yi_X4_once, yc_X4_once⟩ yd_X4_once ob_1 (by decide) rfl rfl hl.1 (Nat.le_of_ble_eq_true rfl) ⟨by decide, by decide⟩ ⟨Nat.zero_le _, Nat.zero_le _⟩ dX4_read_199 (fun M_100 H locs hp_100 hw => ?_)
                        obtain ⟨iM_100, q_101, q_102, q_103, p0r_99⟩ := hp_100
                        obtain ⟨g_104, eg_104⟩ : ∃ z : Nat → Int, z = pp_on B n g_29 := ⟨_, rfl⟩
                        rw [← eg_104] at p0r_99
                        have lg_104_0 : g_104 0 = (tI M_100 2 4).toInt := p0r_99.2.1.1
                        have lg_104_1 : g_104 1 = (tI M_100 2 6).toInt := p0r_99.2.1.2.1
                        have lg_104_4 : g_104 4 = (tI M_100 1 4).toInt := p0r_99.2.2.1.1
                        have lg_104_7 : g_104 7 = (tI M_100 t 4).toInt := p0r_99.2.2.2.1.1
                        have lg_104_8 : g_104 8 = (tI M_100 t 5).toInt := p0r_99.2.2.2.1.2.1
                        have lg_104_9 : g_104 9 = (tI M_100 t 3).toInt := p0r_99.2.2.2.1.2.2
                        refine lv_aload_n hx hb dX4_read_202 rfl (lv_at hl 1 rfl) ?_
                        refine ti_get (ci := 4) (k := 1) (N := 6) (T := TX4) (v := .ref (A t 0)) C hw iw_4 rfl ob_1 (by decide) (by decide) fl_X4_28 rfl (ti_Tv ((tT_fr q_101).trans f_28)) dX4_read_203 ?_
                        refine lv_aload_n hx hb dX4_read_206 rfl (lv_at hl 1 rfl) ?_
                        refine lv_iconst (v := 1) hx hb dX4_read_207 (by decide) ?_
                        refine lv_bipush (v := 7) hx hb dX4_read_208 (by decide) ?_
                        refine ti_callViE (ci := 4) (av := [.int 1, .int 7]) C hE hw (x_X4_number l D A cy hJ M_100 iM_100 t ht 1 7 B n g_104 p0r_99) ⟨ml_X4_56, ym_X4_number, yv_X4_number, yi_X4_number, yc_X4_number⟩ yd_X4_number ob_1 (by decide) rfl rfl hl.1 (Nat.le_of_ble_eq_true rfl) ⟨by decide, by decide⟩ ⟨Nat.zero_le _, Nat.zero_le _⟩ dX4_read_210 (fun r_105 M_106 H locs hp_106 hw => ?_)
                        obtain ⟨iM_106, q_107, q_108, q_109, p0r_105, p1r_105⟩ := hp_106
                        have hlr_105_1 : (1 : Int32).toInt = 1 := by decide
                        have hlr_105_7 : (7 : Int32).toInt = 7 := by decide
                        simp only [hlr_105_1, hlr_105_7] at p1r_105
                        obtain ⟨g_110, eg_110⟩ : ∃ z : Nat → Int, z = pp_nb B n 1 7 g_104 := ⟨_, rfl⟩
                        rw [← eg_110] at p1r_105
                        have lg_110_0 : g_110 0 = (tI M_106 2 4).toInt := p1r_105.2.1.1
                        have lg_110_1 : g_110 1 = (tI M_106 2 6).toInt := p1r_105.2.1.2.1
                        have lg_110_4 : g_110 4 = (tI M_106 1 4).toInt := p1r_105.2.2.1.1
                        have lg_110_7 : g_110 7 = (tI M_106 t 4).toInt := p1r_105.2.2.2.1.1
                        have lg_110_8 : g_110 8 = (tI M_106 t 5).toInt := p1r_105.2.2.2.1.2.1
                        have lg_110_9 : g_110 9 = (tI M_106 t 3).toInt := p1r_105.2.2.2.1.2.2
                        refine ti_putI (ci := 8) (k := 9) (N := 12) (T := TX8) C hw iw_8 tyX8 tyX8_ok nmX8 rfl (ob_t ht) (by decide) (by decide) fl_X4_69 rfl rfl rfl rfl (fn_8 A _) fs_8_9 dX4_read_213 (fun H locs hw => ?_)
                        obtain ⟨M_111, hM_111⟩ : ∃ z : ti_M, z = uI M_106 t 9 r_105 := ⟨_, rfl⟩
                        have hw := hw.to hM_111.symm
                        have iM_111 : cI Tc M_111 := cI_uI iM_106 hM_111 (ob_t ht).1 trivial
                        have hs_112 := rC_t9x ht hM_111 p1r_105
                        have lM_111_0 : g_110 0 = (tI M_111 2 4).toInt := hs_112.2.1.1
                        have lM_111_1 : g_110 1 = (tI M_111 2 6).toInt := hs_112.2.1.2.1
                        have lM_111_4 : g_110 4 = (tI M_111 1 4).toInt := hs_112.2.2.1.1
                        have lM_111_7 : g_110 7 = (tI M_111 t 4).toInt := hs_112.2.2.2.1.1
                        have lM_111_8 : g_110 8 = (tI M_111 t 5).toInt := hs_112.2.2.2.1.2.1
                        have lM_111_9 : g_110 9 = (tI M_111 t 3).toInt := hs_112.2.2.2.1.2.2
                        refine lv_goto (tgt := 273) hx hb dX4_read_216 (by decide) ?_
                        exact hj_273_163 M_111 g_110 _ _ _ iM_111 (rR.trans (rr_of (rf_I hM_111)) (rR.trans (rr_of q_107) (rR.trans (rr_of q_101) f_24))) (f0.trans (f0_I hM_111 (f0n (ob_t ht).1 (by decide))) (f0.trans (f0_12 q_108) (f0.trans (f0_12 q_102) f_25))) ((tI_nE hM_111 (nk (by decide))).trans ((q_109).trans ((q_103).trans f_26))) (ot.trans (ot_I ht hM_111 (by omega)) (ot.trans (ot_12 ht q_108) (ot.trans (ot_12 ht q_102) f_27))) ((tT_uIE hM_111).trans ((tT_fr q_107).trans ((tT_fr q_101).trans f_28))) hs_112 (by unfold pp_lb; rw [if_neg (by omega), if_neg (by omega), if_neg (by omega), if_neg (by omega), if_neg (by omega), if_pos (by omega), ← eg_104, ← eg_110]) hw (lv_sub hl [0, 1, 2, 3] rfl)
                      · have qs_41_5 : x_35.toInt ≠ 5 := pt_ne s_41_5 (by decide)
                        by_cases s_41_6 : x_35 = 6
                        · have qs_41_6 : x_35.toInt = 6 := by rw [s_41_6]; decide
                          refine lv_tableIn (tgt := 219) (off := 151) hx hb dX4_read_68 (by rw [s_41_6]; decide) (by rw [s_41_6]; decide) (by rw [s_41_6]; decide) (by decide) ?_
                          refine lv_aload_n hx hb dX4_read_219 rfl (lv_at hl 1 rfl) ?_
                          refine ti_callVvE (ci := 4) (av := []) C hE hw (x_X4_once l D A cy hJ M_23 iM_23 t ht B n g_29 hs_30 (by omega)) ⟨ml_X4_53, ym_X4_once, yv_X4_once, yi_X4_once, yc_X4_once⟩ yd_X4_once ob_1 (by decide) rfl rfl hl.1 (Nat.le_of_ble_eq_true rfl) ⟨by decide, by decide⟩ ⟨Nat.zero_le _, Nat.zero_le _⟩ dX4_read_220 (fun M_114 H locs hp_114 hw => ?_)
                          obtain ⟨iM_114, q_115, q_116, q_117, p0r_113⟩ := hp_114
                          obtain ⟨g_118, eg_118⟩ : ∃ z : Nat → Int, z = pp_on B n g_29 := ⟨_, rfl⟩
                          rw [← eg_118] at p0r_113
                          have lg_118_0 : g_118 0 = (tI M_114 2 4).toInt := p0r_113.2.1.1
                          have lg_118_1 : g_118 1 = (tI M_114 2 6).toInt := p0r_113.2.1.2.1
                          have lg_118_4 : g_118 4 = (tI M_114 1 4).toInt := p0r_113.2.2.1.1
                          have lg_118_7 : g_118 7 = (tI M_114 t 4).toInt := p0r_113.2.2.2.1.1
                          have lg_118_8 : g_118 8 = (tI M_114 t 5).toInt := p0r_113.2.2.2.1.2.1
                          have lg_118_9 : g_118 9 = (tI M_114 t 3).toInt := p0r_113.2.2.2.1.2.2
                          refine lv_aload_n hx hb dX4_read_223 rfl (lv_at hl 1 rfl) ?_
                          refine ti_get (ci := 4) (k := 1) (N := 6) (T := TX4) (v := .ref (A t 0)) C hw iw_4 rfl ob_1 (by decide) (by decide) fl_X4_28 rfl (ti_Tv ((tT_fr q_115).trans f_28)) dX4_read_224 ?_
                          refine lv_aload_n hx hb dX4_read_227 rfl (lv_at hl 1 rfl) ?_
                          refine lv_iconst (v := 0) hx hb dX4_read_228 (by decide) ?_
                          refine lv_bipush (v := 99) hx hb dX4_read_229 (by decide) ?_
                          refine ti_callViE (ci := 4) (av := [.int 0, .int 99]) C hE hw (x_X4_number l D A cy hJ M_114 iM_114 t ht 0 99 B n g_118 p0r_113) ⟨ml_X4_56, ym_X4_number, yv_X4_number, yi_X4_number, yc_X4_number⟩ yd_X4_number ob_1 (by decide) rfl rfl hl.1 (Nat.le_of_ble_eq_true rfl) ⟨by decide, by decide⟩ ⟨Nat.zero_le _, Nat.zero_le _⟩ dX4_read_231 (fun r_119 M_120 H locs hp_120 hw => ?_)
                          obtain ⟨iM_120, q_121, q_122, q_123, p0r_119, p1r_119⟩ := hp_120
                          have hlr_119_0 : (0 : Int32).toInt = 0 := by decide
                          have hlr_119_99 : (99 : Int32).toInt = 99 := by decide
                          simp only [hlr_119_0, hlr_119_99] at p1r_119
                          obtain ⟨g_124, eg_124⟩ : ∃ z : Nat → Int, z = pp_nb B n 0 99 g_118 := ⟨_, rfl⟩
                          rw [← eg_124] at p1r_119
                          have lg_124_0 : g_124 0 = (tI M_120 2 4).toInt := p1r_119.2.1.1
                          have lg_124_1 : g_124 1 = (tI M_120 2 6).toInt := p1r_119.2.1.2.1
                          have lg_124_4 : g_124 4 = (tI M_120 1 4).toInt := p1r_119.2.2.1.1
                          have lg_124_7 : g_124 7 = (tI M_120 t 4).toInt := p1r_119.2.2.2.1.1
                          have lg_124_8 : g_124 8 = (tI M_120 t 5).toInt := p1r_119.2.2.2.1.2.1
                          have lg_124_9 : g_124 9 = (tI M_120 t 3).toInt := p1r_119.2.2.2.1.2.2
                          refine ti_putI (ci := 8) (k := 10) (N := 12) (T := TX8) C hw iw_8 tyX8 tyX8_ok nmX8 rfl (ob_t ht) (by decide) (by decide) fl_X4_72 rfl rfl rfl rfl (fn_8 A _) fs_8_10 dX4_read_234 (fun H locs hw => ?_)
                          obtain ⟨M_125, hM_125⟩ : ∃ z : ti_M, z = uI M_120 t 10 r_119 := ⟨_, rfl⟩
                          have hw := hw.to hM_125.symm
                          have iM_125 : cI Tc M_125 := cI_uI iM_120 hM_125 (ob_t ht).1 trivial
                          have hs_126 := rC_t10x ht hM_125 p1r_119
                          have lM_125_0 : g_124 0 = (tI M_125 2 4).toInt := hs_126.2.1.1
                          have lM_125_1 : g_124 1 = (tI M_125 2 6).toInt := hs_126.2.1.2.1
                          have lM_125_4 : g_124 4 = (tI M_125 1 4).toInt := hs_126.2.2.1.1
                          have lM_125_7 : g_124 7 = (tI M_125 t 4).toInt := hs_126.2.2.2.1.1
                          have lM_125_8 : g_124 8 = (tI M_125 t 5).toInt := hs_126.2.2.2.1.2.1
                          have lM_125_9 : g_124 9 = (tI M_125 t 3).toInt := hs_126.2.2.2.1.2.2
                          refine lv_goto (tgt := 273) hx hb dX4_read_237 (by decide) ?_
                          exact hj_273_163 M_125 g_124 _ _ _ iM_125 (rR.trans (rr_of (rf_I hM_125)) (rR.trans (rr_of q_121) (rR.trans (rr_of q_115) f_24))) (f0.trans (f0_I hM_125 (f0n (ob_t ht).1 (by decide))) (f0.trans (f0_12 q_122) (f0.trans (f0_12 q_116) f_25))) ((tI_nE hM_125 (nk (by decide))).trans ((q_123).trans ((q_117).trans f_26))) (ot.trans (ot_I ht hM_125 (by omega)) (ot.trans (ot_12 ht q_122) (ot.trans (ot_12 ht q_116) f_27))) ((tT_uIE hM_125).trans ((tT_fr q_121).trans ((tT_fr q_115).trans f_28))) hs_126 (by unfold pp_lb; rw [if_neg (by omega), if_neg (by omega), if_neg (by omega), if_neg (by omega), if_neg (by omega), if_neg (by omega), if_pos (by omega), ← eg_118, ← eg_124]) hw (lv_sub hl [0, 1, 2, 3] rfl)
                        · have qs_41_6 : x_35.toInt ≠ 6 := pt_ne s_41_6 (by decide)
                          by_cases s_41_7 : x_35 = 7
                          · have qs_41_7 : x_35.toInt = 7 := by rw [s_41_7]; decide
                            refine lv_tableIn (tgt := 240) (off := 172) hx hb dX4_read_68 (by rw [s_41_7]; decide) (by rw [s_41_7]; decide) (by rw [s_41_7]; decide) (by decide) ?_
                            refine lv_aload_n hx hb dX4_read_240 rfl (lv_at hl 1 rfl) ?_
                            refine ti_callVvE (ci := 4) (av := []) C hE hw (x_X4_once l D A cy hJ M_23 iM_23 t ht B n g_29 hs_30 (by omega)) ⟨ml_X4_53, ym_X4_once, yv_X4_once, yi_X4_once, yc_X4_once⟩ yd_X4_once ob_1 (by decide) rfl rfl hl.1 (Nat.le_of_ble_eq_true rfl) ⟨by decide, by decide⟩ ⟨Nat.zero_le _, Nat.zero_le _⟩ dX4_read_241 (fun M_128 H locs hp_128 hw => ?_)
                            obtain ⟨iM_128, q_129, q_130, q_131, p0r_127⟩ := hp_128
                            obtain ⟨g_132, eg_132⟩ : ∃ z : Nat → Int, z = pp_on B n g_29 := ⟨_, rfl⟩
                            rw [← eg_132] at p0r_127
                            have lg_132_0 : g_132 0 = (tI M_128 2 4).toInt := p0r_127.2.1.1
                            have lg_132_1 : g_132 1 = (tI M_128 2 6).toInt := p0r_127.2.1.2.1
                            have lg_132_4 : g_132 4 = (tI M_128 1 4).toInt := p0r_127.2.2.1.1
                            have lg_132_7 : g_132 7 = (tI M_128 t 4).toInt := p0r_127.2.2.2.1.1
                            have lg_132_8 : g_132 8 = (tI M_128 t 5).toInt := p0r_127.2.2.2.1.2.1
                            have lg_132_9 : g_132 9 = (tI M_128 t 3).toInt := p0r_127.2.2.2.1.2.2
                            refine lv_aload_n hx hb dX4_read_244 rfl (lv_at hl 1 rfl) ?_
                            refine ti_get (ci := 4) (k := 1) (N := 6) (T := TX4) (v := .ref (A t 0)) C hw iw_4 rfl ob_1 (by decide) (by decide) fl_X4_28 rfl (ti_Tv ((tT_fr q_129).trans f_28)) dX4_read_245 ?_
                            refine lv_aload_n hx hb dX4_read_248 rfl (lv_at hl 1 rfl) ?_
                            refine lv_iconst (v := 0) hx hb dX4_read_249 (by decide) ?_
                            refine lv_ldc (v := 99999) hx hb C.2.2.2.1 (C.2.2.1 _ cn_X4_75) dX4_read_250 ?_
                            refine ti_callViE (ci := 4) (av := [.int 0, .int 99999]) C hE hw (x_X4_number l D A cy hJ M_128 iM_128 t ht 0 99999 B n g_132 p0r_127) ⟨ml_X4_56, ym_X4_number, yv_X4_number, yi_X4_number, yc_X4_number⟩ yd_X4_number ob_1 (by decide) rfl rfl hl.1 (Nat.le_of_ble_eq_true rfl) ⟨by decide, by decide⟩ ⟨Nat.zero_le _, Nat.zero_le _⟩ dX4_read_252 (fun r_133 M_134 H locs hp_134 hw => ?_)
                            obtain ⟨iM_134, q_135, q_136, q_137, p0r_133, p1r_133⟩ := hp_134
                            have hlr_133_0 : (0 : Int32).toInt = 0 := by decide
                            have hlr_133_99999 : (99999 : Int32).toInt = 99999 := by decide
                            simp only [hlr_133_0, hlr_133_99999] at p1r_133
                            obtain ⟨g_138, eg_138⟩ : ∃ z : Nat → Int, z = pp_nb B n 0 99999 g_132 := ⟨_, rfl⟩
                            rw [← eg_138] at p1r_133
                            have lg_138_0 : g_138 0 = (tI M_134 2 4).toInt := p1r_133.2.1.1
                            have lg_138_1 : g_138 1 = (tI M_134 2 6).toInt := p1r_133.2.1.2.1
                            have lg_138_4 : g_138 4 = (tI M_134 1 4).toInt := p1r_133.2.2.1.1
                            have lg_138_7 : g_138 7 = (tI M_134 t 4).toInt := p1r_133.2.2.2.1.1
                            have lg_138_8 : g_138 8 = (tI M_134 t 5).toInt := p1r_133.2.2.2.1.2.1
                            have lg_138_9 : g_138 9 = (tI M_134 t 3).toInt := p1r_133.2.2.2.1.2.2
                            refine ti_putI (ci := 8) (k := 11) (N := 12) (T := TX8) C hw iw_8 tyX8 tyX8_ok nmX8 rfl (ob_t ht) (by decide) (by decide) fl_X4_76 rfl rfl rfl rfl (fn_8 A _) fs_8_11 dX4_read_255 (fun H locs hw => ?_)
                            obtain ⟨M_139, hM_139⟩ : ∃ z : ti_M, z = uI M_134 t 11 r_133 := ⟨_, rfl⟩
                            have hw := hw.to hM_139.symm
                            have iM_139 : cI Tc M_139 := cI_uI iM_134 hM_139 (ob_t ht).1 trivial
                            have hs_140 := rC_t11x ht hM_139 p1r_133
                            have lM_139_0 : g_138 0 = (tI M_139 2 4).toInt := hs_140.2.1.1
                            have lM_139_1 : g_138 1 = (tI M_139 2 6).toInt := hs_140.2.1.2.1
                            have lM_139_4 : g_138 4 = (tI M_139 1 4).toInt := hs_140.2.2.1.1
                            have lM_139_7 : g_138 7 = (tI M_139 t 4).toInt := hs_140.2.2.2.1.1
                            have lM_139_8 : g_138 8 = (tI M_139 t 5).toInt := hs_140.2.2.2.1.2.1
                            have lM_139_9 : g_138 9 = (tI M_139 t 3).toInt := hs_140.2.2.2.1.2.2
                            refine lv_goto (tgt := 273) hx hb dX4_read_258 (by decide) ?_
                            exact hj_273_163 M_139 g_138 _ _ _ iM_139 (rR.trans (rr_of (rf_I hM_139)) (rR.trans (rr_of q_135) (rR.trans (rr_of q_129) f_24))) (f0.trans (f0_I hM_139 (f0n (ob_t ht).1 (by decide))) (f0.trans (f0_12 q_136) (f0.trans (f0_12 q_130) f_25))) ((tI_nE hM_139 (nk (by decide))).trans ((q_137).trans ((q_131).trans f_26))) (ot.trans (ot_I ht hM_139 (by omega)) (ot.trans (ot_12 ht q_136) (ot.trans (ot_12 ht q_130) f_27))) ((tT_uIE hM_139).trans ((tT_fr q_135).trans ((tT_fr q_129).trans f_28))) hs_140 (by unfold pp_lb; rw [if_neg (by omega), if_neg (by omega), if_neg (by omega), if_neg (by omega), if_neg (by omega), if_neg (by omega), if_neg (by omega), if_pos (by omega), ← eg_132, ← eg_138]) hw (lv_sub hl [0, 1, 2, 3] rfl)
                          · have qs_41_7 : x_35.toInt ≠ 7 := pt_ne s_41_7 (by decide)
                            by_cases s_41_8 : x_35 = 8
                            · have qs_41_8 : x_35.toInt = 8 := by rw [s_41_8]; decide
                              refine lv_tableIn (tgt := 261) (off := 193) hx hb dX4_read_68 (by rw [s_41_8]; decide) (by rw [s_41_8]; decide) (by rw [s_41_8]; decide) (by decide) ?_
                              refine lv_aload_n hx hb dX4_read_261 rfl (lv_at hl 1 rfl) ?_
                              refine ti_callVvE (ci := 4) (av := []) C hE hw (x_X4_readLaw l D A cy hJ M_23 iM_23 t ht (f_28) B n g_29 hs_30) ⟨ml_X4_79, ym_X4_readLaw, yv_X4_readLaw, yi_X4_readLaw, yc_X4_readLaw⟩ yd_X4_readLaw ob_1 (by decide) rfl rfl hl.1 (Nat.le_of_ble_eq_true rfl) ⟨by decide, by decide⟩ ⟨Nat.zero_le _, Nat.zero_le _⟩ dX4_read_262 (fun M_142 H locs hp_142 hw => ?_)
                              obtain ⟨iM_142, q_143, q_144, q_145, q_146, q_147, p0r_141⟩ := hp_142
                              obtain ⟨g_148, eg_148⟩ : ∃ z : Nat → Int, z = pp_lw B n g_29 := ⟨_, rfl⟩
                              rw [← eg_148] at p0r_141
                              have lg_148_0 : g_148 0 = (tI M_142 2 4).toInt := p0r_141.2.1.1
                              have lg_148_1 : g_148 1 = (tI M_142 2 6).toInt := p0r_141.2.1.2.1
                              have lg_148_4 : g_148 4 = (tI M_142 1 4).toInt := p0r_141.2.2.1.1
                              have lg_148_7 : g_148 7 = (tI M_142 t 4).toInt := p0r_141.2.2.2.1.1
                              have lg_148_8 : g_148 8 = (tI M_142 t 5).toInt := p0r_141.2.2.2.1.2.1
                              have lg_148_9 : g_148 9 = (tI M_142 t 3).toInt := p0r_141.2.2.2.1.2.2
                              refine lv_goto (tgt := 273) hx hb dX4_read_265 (by decide) ?_
                              exact hj_273_163 M_142 g_148 _ _ _ iM_142 (rR.trans q_143 f_24) (f0.trans q_144 f_25) ((q_145).trans f_26) (ot.trans q_147 f_27) ((q_146).trans f_28) p0r_141 (by unfold pp_lb; rw [if_neg (by omega), if_neg (by omega), if_neg (by omega), if_neg (by omega), if_neg (by omega), if_neg (by omega), if_neg (by omega), if_neg (by omega), if_pos (by omega), ← eg_148]) hw (lv_sub hl [0, 1, 2, 3] rfl)
                            · have qs_41_8 : x_35.toInt ≠ 8 := pt_ne s_41_8 (by decide)
                              refine lv_tableOut (tgt := 268) hx hb dX4_read_68 (ti_out (lo := 0) (hi := 8) x_35 (fun v h1 h2 => by rcases (show v = 0 ∨ v = 1 ∨ v = 2 ∨ v = 3 ∨ v = 4 ∨ v = 5 ∨ v = 6 ∨ v = 7 ∨ v = 8 by omega) with rfl | rfl | rfl | rfl | rfl | rfl | rfl | rfl | rfl <;> first | exact ti_nev 0 s_41_0 (by decide) | exact ti_nev 1 s_41_1 (by decide) | exact ti_nev 2 s_41_2 (by decide) | exact ti_nev 3 s_41_3 (by decide) | exact ti_nev 4 s_41_4 (by decide) | exact ti_nev 5 s_41_5 (by decide) | exact ti_nev 6 s_41_6 (by decide) | exact ti_nev 7 s_41_7 (by decide) | exact ti_nev 8 s_41_8 (by decide))) (by decide) ?_
                              refine lv_aload_n hx hb dX4_read_268 rfl (lv_at hl 1 rfl) ?_
                              refine lv_iconst (v := 1) hx hb dX4_read_269 (by decide) ?_
                              refine ti_callVv (ci := 4) (av := [.int 1]) C hw (x_X4_refuse l D A cy hJ M_23 iM_23 t ht 1 B n g_29 hs_30) ⟨ml_X4_82, ym_X4_refuse, yv_X4_refuse, yi_X4_refuse, yc_X4_refuse⟩ yd_X4_refuse ob_1 (by decide) rfl rfl hl.1 (Nat.le_of_ble_eq_true rfl) ⟨by decide, by decide⟩ ⟨Nat.zero_le _, Nat.zero_le _⟩ dX4_read_270 (fun M_150 H locs hp_150 hw => ?_)
                              obtain ⟨iM_150, q_151, q_152, q_153, p0r_149⟩ := hp_150
                              have hlr_149_1 : (1 : Int32).toInt = 1 := by decide
                              simp only [hlr_149_1] at p0r_149
                              obtain ⟨g_154, eg_154⟩ : ∃ z : Nat → Int, z = pp_rf 1 g_29 := ⟨_, rfl⟩
                              rw [← eg_154] at p0r_149
                              have lg_154_0 : g_154 0 = (tI M_150 2 4).toInt := p0r_149.2.1.1
                              have lg_154_1 : g_154 1 = (tI M_150 2 6).toInt := p0r_149.2.1.2.1
                              have lg_154_4 : g_154 4 = (tI M_150 1 4).toInt := p0r_149.2.2.1.1
                              have lg_154_7 : g_154 7 = (tI M_150 t 4).toInt := p0r_149.2.2.2.1.1
                              have lg_154_8 : g_154 8 = (tI M_150 t 5).toInt := p0r_149.2.2.2.1.2.1
                              have lg_154_9 : g_154 9 = (tI M_150 t 3).toInt := p0r_149.2.2.2.1.2.2
                              exact hj_273_163 M_150 g_154 _ _ _ iM_150 (rR.trans (rr_of q_151) f_24) (f0.trans (f0_12 q_152) f_25) ((q_153).trans f_26) (ot.trans (ot_12 ht q_152) f_27) ((tT_fr q_151).trans f_28) p0r_149 (by unfold pp_lb; rw [if_neg (by omega), if_neg (by omega), if_neg (by omega), if_neg (by omega), if_neg (by omega), if_neg (by omega), if_neg (by omega), if_neg (by omega), if_neg (by omega), ← eg_154]) hw (lv_sub hl [0, 1, 2, 3] rfl)
  exact hl_37_32 ((701 - 0 : Int).toNat + 1) 0 M_15 g_19 _ _ _ (Nat.lt_succ_self _) (by have lt0 : (0 : Int32).toInt = 0 := (by decide); first | omega | decide) (by have lt0 : (0 : Int32).toInt = 0 := (by decide); first | omega | decide) iM_15 (rR.trans (rr_of q_16) (rR.trans (rr_of (rf_I hM_13)) (rR.trans (rr_of (rf_I hM_12)) (rR.trans (rr_of (rf_I hM_11)) (rR.trans (rr_of q_4) (rr_T hM_1)))))) (f0.trans (f0_12 (o2_12 q_17)) (f0.trans (f0_I hM_13 (by decide)) (f0.trans (f0_I hM_12 (by decide)) (f0.trans (f0_I hM_11 (by decide)) (f0.trans q_5 (f0_of (ra_T hM_1))))))) ((q_18).trans ((tI_nE hM_13 (nk (by decide))).trans ((tI_nE hM_12 (nk (by decide))).trans ((tI_nE hM_11 (nk (by decide))).trans ((q_6).trans (tI_uTE hM_1)))))) (ot.trans (ot_12 ht (o2_12 q_17)) (ot.trans (ot_I ht hM_13 (by omega)) (ot.trans (ot_I ht hM_12 (by omega)) (ot.trans (ot_I ht hM_11 (by omega)) (ot.trans q_10 (ot_of (ra_T hM_1))))))) ((tT_fr q_16).trans ((tT_uIE hM_13).trans ((tT_uIE hM_12).trans ((tT_uIE hM_11).trans ((tT_fr q_4).trans (tT_uE hM_1)))))) hs0 (by unfold pp_tx; rw [← eg_19]; rfl) (by have lt0 : (0 : Int32).toInt = 0 := (by decide); first | omega | decide) hw (lv_sub hl [0, 1, 2, 3] rfl)

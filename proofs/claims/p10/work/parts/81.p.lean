variable {Tc : gC} {Tm : gM}
set_option maxHeartbeats 4000000 in
set_option maxRecDepth 100000 in
theorem x_X4_readLaw (l : Launch) (D : va_G) (A : Nat → Nat → Nat) (cy : Nat → ClassId) (hJ : ti_inj ti_LT A) (M : ti_M) (hI : cI Tc M) (t : Nat) (ht : t = 3 ∨ t = 4) (hT : tT M 1 1 = some t) (B : Nat → Int) (n : Nat) (rg : Nat → Int) (hr : rC B n t rg M) (td : Nat → Int) (hq : tq t td M) : ti_KvE l yX4_readLaw cX4_readLaw 2 71 ti_LT D A cy M [.ref (A 1 0)] (fun M2 => cI Tc M2 ∧ rR M2 M ∧ f0 M2 M ∧ tI M2 2 1 = tI M 2 1 ∧ tT M2 1 1 = tT M 1 1 ∧ ot t M2 M ∧ rC B n t (pp_lw B n rg) M2 ∧ tq t (qq_lw B n rg td) M2) := by
  refine ti_eVE yp_X4_readLaw hJ ti_LT_nd (Nat.le_of_ble_eq_true rfl) ?_
  intro p e s m args below meth c Q H0 C hE hQ hw ls hl
  have hx := C.1
  have hb := C.2.1
  have hl : lv_has ls 2 [(0, .ref (A 1 0))] := hl
  have l0 : rg 0 = (tI M 2 4).toInt := hr.2.1.1
  have l1 : rg 1 = (tI M 2 6).toInt := hr.2.1.2.1
  have l2 : rg 2 = (tI M 2 5).toInt := hr.2.1.2.2.1
  have l3 : rg 3 = (tI M 2 3).toInt := hr.2.1.2.2.2
  have l4 : rg 4 = (tI M 1 4).toInt := hr.2.2.1.1
  have l5 : rg 5 = (tI M 1 5).toInt := hr.2.2.1.2.1
  have l7 : rg 7 = (tI M t 4).toInt := hr.2.2.2.1.1
  have l8 : rg 8 = (tI M t 5).toInt := hr.2.2.2.1.2.1
  have l9 : rg 9 = (tI M t 3).toInt := hr.2.2.2.1.2.2
  refine lv_aload_n hx hb dX4_readLaw_0 rfl (lv_at hl 0 rfl) ?_
  refine ti_get (ci := 4) (k := 0) (N := 6) (T := TX4) (v := .ref (A 2 0)) C hw iw_4 rfl ob_1 (by decide) (by decide) fl_X4_12 rfl rfl dX4_readLaw_1 ?_
  refine ti_callVvE (ci := 7) (av := []) C hE hw (x_X7_advance l D A cy hJ M hI ) ⟨ml_X4_92, ym_X7_advance, yv_X7_advance, yi_X7_advance, yc_X7_advance⟩ yd_X7_advance ob_2 (by decide) rfl rfl hl.1 (Nat.le_of_ble_eq_true rfl) ⟨by decide, by decide⟩ ⟨Nat.zero_le _, Nat.zero_le _⟩ dX4_readLaw_4 (fun M_2 H locs hp_2 hw => ?_)
  obtain ⟨iM_2, q_3, q_4, q_5, q_6, p0r_1, p1r_1, p2r_1, p3r_1⟩ := hp_2
  have hs_7 := rC_av ht hr q_6 q_4 p0r_1 p1r_1 p2r_1 p3r_1
  obtain ⟨g_8, eg_8⟩ : ∃ z : Nat → Int, z = pp_av B n rg := ⟨_, rfl⟩
  rw [← eg_8] at hs_7
  have lg_8_0 : g_8 0 = (tI M_2 2 4).toInt := hs_7.2.1.1
  have lg_8_1 : g_8 1 = (tI M_2 2 6).toInt := hs_7.2.1.2.1
  have lg_8_4 : g_8 4 = (tI M_2 1 4).toInt := hs_7.2.2.1.1
  have lg_8_7 : g_8 7 = (tI M_2 t 4).toInt := hs_7.2.2.2.1.1
  have lg_8_8 : g_8 8 = (tI M_2 t 5).toInt := hs_7.2.2.2.1.2.1
  have tq_9 : tq t td M_2 := tq_fr ht hq (o2_12 q_4) q_6.1
  refine lv_aload_n hx hb dX4_readLaw_7 rfl (lv_at hl 0 rfl) ?_
  refine ti_get (ci := 4) (k := 0) (N := 6) (T := TX4) (v := .ref (A 2 0)) C hw iw_4 rfl ob_1 (by decide) (by decide) fl_X4_12 rfl rfl dX4_readLaw_8 ?_
  refine ti_get (ci := 7) (k := 4) (N := 7) (T := TX7) C hw iw_7 rfl ob_2 (by decide) (by decide) fl_X4_41 rfl rfl dX4_readLaw_11 ?_
  refine lv_topi (fun x_10 ex_10 => ?_)
  have bx_10 : 0 ≤ x_10.toInt ∧ x_10.toInt ≤ 41 := cI_rd iM_2 ob_2.1 ex_10
  have ux_10 : (tI M_2 2 4).toInt = x_10.toInt := by rw [ex_10]
  refine lv_istore_n (lv' := [(1, .int x_10), (0, .ref (A 1 0))]) hx hb dX4_readLaw_14 rfl hl (by decide) rfl (fun ls hl => ?_)
  refine lv_iload_n hx hb dX4_readLaw_15 rfl (lv_at hl 0 rfl) ?_
  refine lv_bipush (v := 12) hx hb dX4_readLaw_16 (by decide) ?_
  refine sb_icmp_lt (tgt := 27) hx hb rfl (by decide : (12 : Int32).toInt = 12) dX4_readLaw_18 (by decide) (fun c_18_10 => ?_) (fun c_18_10 => ?_)
  · refine lv_aload_n hx hb dX4_readLaw_27 rfl (lv_at hl 1 rfl) ?_
    refine lv_iconst (v := 1) hx hb dX4_readLaw_28 (by decide) ?_
    refine ti_callVv (ci := 4) (av := [.int 1]) C hw (x_X4_refuse l D A cy hJ M_2 iM_2 t ht 1 B n g_8 hs_7) ⟨ml_X4_82, ym_X4_refuse, yv_X4_refuse, yi_X4_refuse, yc_X4_refuse⟩ yd_X4_refuse ob_1 (by decide) rfl rfl hl.1 (Nat.le_of_ble_eq_true rfl) ⟨by decide, by decide⟩ ⟨Nat.zero_le _, Nat.zero_le _⟩ dX4_readLaw_29 (fun M_14 H locs hp_14 hw => ?_)
    obtain ⟨iM_14, q_15, q_16, q_17, q_18, p0r_13⟩ := hp_14
    have hlr_13_1 : (1 : Int32).toInt = 1 := by decide
    simp only [hlr_13_1] at p0r_13
    obtain ⟨g_19, eg_19⟩ : ∃ z : Nat → Int, z = pp_rf 1 g_8 := ⟨_, rfl⟩
    rw [← eg_19] at p0r_13
    have lg_19_0 : g_19 0 = (tI M_14 2 4).toInt := p0r_13.2.1.1
    have lg_19_1 : g_19 1 = (tI M_14 2 6).toInt := p0r_13.2.1.2.1
    have lg_19_4 : g_19 4 = (tI M_14 1 4).toInt := p0r_13.2.2.1.1
    have lg_19_7 : g_19 7 = (tI M_14 t 4).toInt := p0r_13.2.2.2.1.1
    have lg_19_8 : g_19 8 = (tI M_14 t 5).toInt := p0r_13.2.2.2.1.2.1
    have tq_20 : tq t td M_14 := tq_fr ht tq_9 q_16 q_18
    exact hQ _ _ _ _ _ hw (⟨iM_14, (rR.trans (rr_of q_15) (rr_of q_3)), (f0.trans (f0_12 q_16) (f0_12 (o2_12 q_4))), ((q_17).trans q_5), ((tT_fr q_15).trans (tT_fr q_3)), (ot.trans (ot_12 ht q_16 q_18) (ot_12 ht (o2_12 q_4) q_6.1)), (by unfold pp_lw; rw [← eg_8]; unfold pp_lq; rw [if_neg (fun q => by omega), ← eg_19]; exact p0r_13), (by unfold qq_lw; rw [← eg_8]; unfold qq_lq; rw [if_neg (fun q => by omega)]; exact tq_20)⟩) dX4_readLaw_32
  · refine lv_iload_n hx hb dX4_readLaw_21 rfl (lv_at hl 0 rfl) ?_
    refine lv_bipush (v := 14) hx hb dX4_readLaw_22 (by decide) ?_
    refine sb_icmp_le (tgt := 33) hx hb rfl (by decide : (14 : Int32).toInt = 14) dX4_readLaw_24 (by decide) (fun c_24_11 => ?_) (fun c_24_11 => ?_)
    · refine lv_aload_n hx hb dX4_readLaw_33 rfl (lv_at hl 1 rfl) ?_
      refine ti_callVvE (ci := 4) (av := []) C hE hw (x_X4_once l D A cy hJ M_2 iM_2 t ht B n g_8 hs_7 (by omega)) ⟨ml_X4_53, ym_X4_once, yv_X4_once, yi_X4_once, yc_X4_once⟩ yd_X4_once ob_1 (by decide) rfl rfl hl.1 (Nat.le_of_ble_eq_true rfl) ⟨by decide, by decide⟩ ⟨Nat.zero_le _, Nat.zero_le _⟩ dX4_readLaw_34 (fun M_30 H locs hp_30 hw => ?_)
      obtain ⟨iM_30, q_31, q_32, q_33, q_34, p0r_29⟩ := hp_30
      obtain ⟨g_35, eg_35⟩ : ∃ z : Nat → Int, z = pp_on B n g_8 := ⟨_, rfl⟩
      rw [← eg_35] at p0r_29
      have lg_35_0 : g_35 0 = (tI M_30 2 4).toInt := p0r_29.2.1.1
      have lg_35_1 : g_35 1 = (tI M_30 2 6).toInt := p0r_29.2.1.2.1
      have lg_35_4 : g_35 4 = (tI M_30 1 4).toInt := p0r_29.2.2.1.1
      have lg_35_7 : g_35 7 = (tI M_30 t 4).toInt := p0r_29.2.2.2.1.1
      have lg_35_8 : g_35 8 = (tI M_30 t 5).toInt := p0r_29.2.2.2.1.2.1
      have tq_36 : tq t td M_30 := tq_fr ht tq_9 q_32 q_34
      refine lv_aload_n hx hb dX4_readLaw_37 rfl (lv_at hl 1 rfl) ?_
      refine lv_aload_n hx hb dX4_readLaw_38 rfl (lv_at hl 1 rfl) ?_
      refine ti_get (ci := 4) (k := 1) (N := 6) (T := TX4) (v := .ref (A t 0)) C hw iw_4 rfl ob_1 (by decide) (by decide) fl_X4_28 rfl (ti_Tv ((tT_fr q_31).trans ((tT_fr q_3).trans hT))) dX4_readLaw_39 ?_
      refine ti_get (ci := 8) (k := 2) (N := 12) (T := TX8) (v := .ref (A t 3)) C hw iw_8 rfl (ob_t ht) (by decide) (by decide) fl_X4_150 rfl rfl dX4_readLaw_42 ?_
      refine lv_iload_n hx hb dX4_readLaw_45 rfl (lv_at hl 0 rfl) ?_
      refine lv_bipush (v := 12) hx hb dX4_readLaw_46 (by decide) ?_
      refine lv_isub hx hb dX4_readLaw_48 ?_
      refine lv_topi (fun x_37 ex_37 => ?_)
      have tx_37 : x_37.toInt = x_10.toInt - 12 := i_sub ex_37 rfl (by decide : (12 : Int32).toInt = 12) (by omega) (by omega)
      refine ti_aald (ci := 8) (k := 2) (n := 3) (t0 := 4) (Cn := RX1) (gg := (ti_laws t)) (j := x_37.toNatClampNeg) C hw (ob_t ht) (by decide) (fun _ _ => rfl) rfl (vp_in_iff.mpr (by omega)) rfl dX4_readLaw_49 ?_
      have ob_38 : ti_ob ti_LT (ti_laws t x_37.toNatClampNeg) 1 := ob_l ht (i_nt rfl (by omega) (by omega))
      refine ti_putT (ci := 4) (k := 2) (N := 6) (T := TX4) C hw iw_4 tyX4 tyX4_ok nmX4 rfl ob_1 (by decide) (by decide) fl_X4_154 rfl rfl rfl rfl (fn_4 A _) fs_4_2 dX4_readLaw_50 (fun H locs hw => ?_)
      obtain ⟨M_39, hM_39⟩ : ∃ z : ti_M, z = uT M_30 1 2 (some (ti_laws t x_37.toNatClampNeg)) := ⟨_, rfl⟩
      have hw := hw.to hM_39.symm
      have iM_39 : cI Tc M_39 := cI_uT iM_30 hM_39
      have hs_40 := rC_T hM_39 p0r_29
      have lM_39_0 : g_35 0 = (tI M_39 2 4).toInt := hs_40.2.1.1
      have lM_39_1 : g_35 1 = (tI M_39 2 6).toInt := hs_40.2.1.2.1
      have lM_39_4 : g_35 4 = (tI M_39 1 4).toInt := hs_40.2.2.1.1
      have lM_39_7 : g_35 7 = (tI M_39 t 4).toInt := hs_40.2.2.2.1.1
      have lM_39_8 : g_35 8 = (tI M_39 t 5).toInt := hs_40.2.2.2.1.2.1
      have tq_41 : tq t td M_39 := tq_T tq_36 hM_39
      refine lv_aload_n hx hb dX4_readLaw_53 rfl (lv_at hl 1 rfl) ?_
      refine lv_iconst (v := 0) hx hb dX4_readLaw_54 (by decide) ?_
      refine ti_callVvE (ci := 4) (av := [.int 0]) C hE hw (x_X4_readEither_0 l D A cy hJ M_39 iM_39 t ht ((tT_nE hM_39 (nk (by decide))).trans ((tT_fr q_31).trans ((tT_fr q_3).trans hT))) x_37.toNatClampNeg (i_nt (x := x_37) rfl (by omega) (by omega)) (tT_uE hM_39) B n g_35 hs_40 td tq_41) ⟨ml_X4_158, ym_X4_readEither, yv_X4_readEither, yi_X4_readEither, yc_X4_readEither⟩ yd_X4_readEither ob_1 (by decide) rfl rfl hl.1 (Nat.le_of_ble_eq_true rfl) ⟨by decide, by decide⟩ ⟨Nat.zero_le _, Nat.zero_le _⟩ dX4_readLaw_55 (fun M_43 H locs hp_43 hw => ?_)
      obtain ⟨iM_43, q_44, q_45, q_46, q_47, p0r_42, p1r_42⟩ := hp_43
      obtain ⟨g_48, eg_48⟩ : ∃ z : Nat → Int, z = pp_ei B n (pp_pt B n 8) g_35 := ⟨_, rfl⟩
      rw [← eg_48] at p0r_42
      have lg_48_0 : g_48 0 = (tI M_43 2 4).toInt := p0r_42.2.1.1
      have lg_48_1 : g_48 1 = (tI M_43 2 6).toInt := p0r_42.2.1.2.1
      have lg_48_4 : g_48 4 = (tI M_43 1 4).toInt := p0r_42.2.2.1.1
      have lg_48_7 : g_48 7 = (tI M_43 t 4).toInt := p0r_42.2.2.2.1.1
      have lg_48_8 : g_48 8 = (tI M_43 t 5).toInt := p0r_42.2.2.2.1.2.1
      obtain ⟨d_49, ed_49⟩ : ∃ z : Nat → Int, z = qq_ei B n x_37.toNatClampNeg (pp_pt B n 8) (qq_pt B n x_37.toNatClampNeg 8) g_35 td := ⟨_, rfl⟩
      rw [← ed_49] at p1r_42
      exact hQ _ _ _ _ _ hw (⟨iM_43, (rR.trans (rr_of q_44) (rR.trans (rr_T hM_39) (rR.trans (rr_of q_31) (rr_of q_3)))), (f0.trans q_45 (f0.trans (f0_of (ra_T hM_39)) (f0.trans (f0_12 q_32) (f0_12 (o2_12 q_4))))), ((q_46).trans ((tI_uTE hM_39).trans ((q_33).trans q_5))), ((tT_fr q_44).trans ((tT_nE hM_39 (nk (by decide))).trans ((tT_fr q_31).trans (tT_fr q_3)))), (ot.trans q_47 (ot.trans (ot_of (ra_T hM_39) (ry_T hM_39)) (ot.trans (ot_12 ht q_32 q_34) (ot_12 ht (o2_12 q_4) q_6.1)))), (by unfold pp_lw; rw [← eg_8]; unfold pp_lq; rw [if_pos ⟨by omega, by omega⟩, ← eg_35, ← eg_48]; exact p0r_42), (by unfold qq_lw; rw [← eg_8]; unfold qq_lq; rw [if_pos ⟨by omega, by omega⟩, show (g_8 0 - 12).toNat = x_37.toNatClampNeg by (show _ = x_37.toInt.toNat; omega), ← eg_35, ← ed_49]; exact p1r_42)⟩) dX4_readLaw_58
    · refine lv_aload_n hx hb dX4_readLaw_27 rfl (lv_at hl 1 rfl) ?_
      refine lv_iconst (v := 1) hx hb dX4_readLaw_28 (by decide) ?_
      refine ti_callVv (ci := 4) (av := [.int 1]) C hw (x_X4_refuse l D A cy hJ M_2 iM_2 t ht 1 B n g_8 hs_7) ⟨ml_X4_82, ym_X4_refuse, yv_X4_refuse, yi_X4_refuse, yc_X4_refuse⟩ yd_X4_refuse ob_1 (by decide) rfl rfl hl.1 (Nat.le_of_ble_eq_true rfl) ⟨by decide, by decide⟩ ⟨Nat.zero_le _, Nat.zero_le _⟩ dX4_readLaw_29 (fun M_22 H locs hp_22 hw => ?_)
      obtain ⟨iM_22, q_23, q_24, q_25, q_26, p0r_21⟩ := hp_22
      have hlr_21_1 : (1 : Int32).toInt = 1 := by decide
      simp only [hlr_21_1] at p0r_21
      obtain ⟨g_27, eg_27⟩ : ∃ z : Nat → Int, z = pp_rf 1 g_8 := ⟨_, rfl⟩
      rw [← eg_27] at p0r_21
      have lg_27_0 : g_27 0 = (tI M_22 2 4).toInt := p0r_21.2.1.1
      have lg_27_1 : g_27 1 = (tI M_22 2 6).toInt := p0r_21.2.1.2.1
      have lg_27_4 : g_27 4 = (tI M_22 1 4).toInt := p0r_21.2.2.1.1
      have lg_27_7 : g_27 7 = (tI M_22 t 4).toInt := p0r_21.2.2.2.1.1
      have lg_27_8 : g_27 8 = (tI M_22 t 5).toInt := p0r_21.2.2.2.1.2.1
      have tq_28 : tq t td M_22 := tq_fr ht tq_9 q_24 q_26
      exact hQ _ _ _ _ _ hw (⟨iM_22, (rR.trans (rr_of q_23) (rr_of q_3)), (f0.trans (f0_12 q_24) (f0_12 (o2_12 q_4))), ((q_25).trans q_5), ((tT_fr q_23).trans (tT_fr q_3)), (ot.trans (ot_12 ht q_24 q_26) (ot_12 ht (o2_12 q_4) q_6.1)), (by unfold pp_lw; rw [← eg_8]; unfold pp_lq; rw [if_neg (fun q => by omega), ← eg_27]; exact p0r_21), (by unfold qq_lw; rw [← eg_8]; unfold qq_lq; rw [if_neg (fun q => by omega)]; exact tq_28)⟩) dX4_readLaw_32
/-- nothing told -/
def qq_cl (td : Nat → Int) : Nat → Int := pp_su (pp_su (pp_su (pp_su (pp_su (pp_su (pp_su (pp_su (pp_su (pp_su (pp_su (pp_su td 6 200) 7 2) 8 10) 9 3) 10 0) 11 0) (32 + 0) 0) (32 + 1) 1) (32 + 2) 2) (300 + 0) 0) (300 + 1) 0) (300 + 2) 0
/-- what a text tells, as it stands -/
def qJ (t : Nat) (M : ti_M) : Nat → Int := fun k => if k < 32 then (tI M t k).toInt else if k < 100 then (tY M t 1 (k - 32)).toInt else if k < 300 then (tI M (ti_men t ((k - 100) / 16)) ((k - 100) % 16)).toInt else if k < 400 then (tI M (ti_laws t (k - 300)) 3).toInt else (tY M (ti_laws t ((k - 400) / 64)) 0 ((k - 400) % 64)).toInt
theorem tq_J {t : Nat} {M : ti_M} : tq t (qJ t M) M := by
  refine ⟨fun k h1 h2 => ?_, fun i hi => ?_, fun i k hi h1 h2 => ?_, fun j hj => ⟨?_, fun n hn => ?_⟩⟩
  · unfold qJ; rw [if_pos (by omega)]
  · unfold qJ; rw [if_neg (by omega), if_pos (by omega), show 32 + i - 32 = i by omega]
  · unfold qJ; rw [if_neg (by omega), if_neg (by omega), if_pos (by omega), show (100 + 16 * i + k - 100) / 16 = i by omega, show (100 + 16 * i + k - 100) % 16 = k by omega]
  · unfold qJ; rw [if_neg (by omega), if_neg (by omega), if_neg (by omega), if_pos (by omega), show 300 + j - 300 = j by omega]
  · unfold qJ; rw [if_neg (by omega), if_neg (by omega), if_neg (by omega), if_neg (by omega), show (400 + 64 * j + n - 400) / 64 = j by omega, show (400 + 64 * j + n - 400) % 64 = n by omega]
set_option maxHeartbeats 4000000 in
set_option maxRecDepth 100000 in
theorem x_X8_clear (l : Launch) (D : va_G) (A : Nat → Nat → Nat) (cy : Nat → ClassId) (hJ : ti_inj ti_LT A) (M : ti_M) (hI : cI Tc M) (t : Nat) (ht : t = 3 ∨ t = 4) (td : Nat → Int) (hq : tq t td M) : ti_Kv l yX8_clear cX8_clear 2 0 ti_LT D A cy M [.ref (A t 0)] (fun M2 => cI Tc M2 ∧ M2.2.2.2 = M.2.2.2 ∧ f0 M2 M ∧ tI M2 2 1 = tI M 2 1 ∧ tI M2 1 3 = tI M 1 3 ∧ tI M2 1 4 = tI M 1 4 ∧ tI M2 1 5 = tI M 1 5 ∧ ot t M2 M ∧ (tI M2 t 3).toInt = 0 ∧ (tI M2 t 4).toInt = 0 ∧ (tI M2 t 5).toInt = 0 ∧ tq t (qq_cl td) M2) := by
  refine ti_eV yp_X8_clear hJ ti_LT_nd (Nat.le_of_ble_eq_true rfl) ?_
  intro p e s m args below meth c Q H0 C hQ hw ls hl
  have hx := C.1
  have hb := C.2.1
  have hl : lv_has ls 2 [(0, .ref (A t 0))] := hl
  refine lv_aload_n hx hb dX8_clear_0 rfl (lv_at hl 0 rfl) ?_
  refine lv_iconst (v := 0) hx hb dX8_clear_1 (by decide) ?_
  refine ti_putI (ci := 8) (k := 3) (N := 12) (T := TX8) C hw iw_8 tyX8 tyX8_ok nmX8 rfl (ob_t ht) (by decide) (by decide) fl_X8_32 rfl rfl rfl rfl (fn_8 A _) fs_8_3 dX8_clear_2 (fun H locs hw => ?_)
  obtain ⟨M_1, hM_1⟩ : ∃ z : ti_M, z = uI M t 3 0 := ⟨_, rfl⟩
  have hw := hw.to hM_1.symm
  have iM_1 : cI Tc M_1 := cI_uI hI hM_1 (ob_t ht).1 trivial
  have tq_3 : tq t td M_1 := tq_t0 ht hq hM_1 (by decide)
  refine lv_aload_n hx hb dX8_clear_5 rfl (lv_at hl 0 rfl) ?_
  refine lv_iconst (v := 0) hx hb dX8_clear_6 (by decide) ?_
  refine ti_putI (ci := 8) (k := 4) (N := 12) (T := TX8) C hw iw_8 tyX8 tyX8_ok nmX8 rfl (ob_t ht) (by decide) (by decide) fl_X8_36 rfl rfl rfl rfl (fn_8 A _) fs_8_4 dX8_clear_7 (fun H locs hw => ?_)
  obtain ⟨M_4, hM_4⟩ : ∃ z : ti_M, z = uI M_1 t 4 0 := ⟨_, rfl⟩
  have hw := hw.to hM_4.symm
  have iM_4 : cI Tc M_4 := cI_uI iM_1 hM_4 (ob_t ht).1 (ib_mk (lo := 0) (hi := 8) (by decide) (by decide))
  have vM_4 : (tI M_4 t 4).toInt = 0 := by rw [tI_uE hM_4]; decide
  have tq_6 : tq t td M_4 := tq_t0 ht tq_3 hM_4 (by decide)
  refine lv_aload_n hx hb dX8_clear_10 rfl (lv_at hl 0 rfl) ?_
  refine lv_iconst (v := 0) hx hb dX8_clear_11 (by decide) ?_
  refine ti_putI (ci := 8) (k := 5) (N := 12) (T := TX8) C hw iw_8 tyX8 tyX8_ok nmX8 rfl (ob_t ht) (by decide) (by decide) fl_X8_39 rfl rfl rfl rfl (fn_8 A _) fs_8_5 dX8_clear_12 (fun H locs hw => ?_)
  obtain ⟨M_7, hM_7⟩ : ∃ z : ti_M, z = uI M_4 t 5 0 := ⟨_, rfl⟩
  have hw := hw.to hM_7.symm
  have iM_7 : cI Tc M_7 := cI_uI iM_4 hM_7 (ob_t ht).1 trivial
  have tq_9 : tq t td M_7 := tq_t0 ht tq_6 hM_7 (by decide)
  refine lv_aload_n hx hb dX8_clear_15 rfl (lv_at hl 0 rfl) ?_
  refine lv_sipush (v := 200) hx hb dX8_clear_16 (by decide) ?_
  refine ti_putI (ci := 8) (k := 6) (N := 12) (T := TX8) C hw iw_8 tyX8 tyX8_ok nmX8 rfl (ob_t ht) (by decide) (by decide) fl_X8_42 rfl rfl rfl rfl (fn_8 A _) fs_8_6 dX8_clear_19 (fun H locs hw => ?_)
  obtain ⟨M_10, hM_10⟩ : ∃ z : ti_M, z = uI M_7 t 6 200 := ⟨_, rfl⟩
  have hw := hw.to hM_10.symm
  have iM_10 : cI Tc M_10 := cI_uI iM_7 hM_10 (ob_t ht).1 trivial
  have tq_11 : tq t (pp_su td 6 200) M_10 := tq_t ht tq_9 (by decide : (200 : Int32).toInt = 200) hM_10 (by decide)
  obtain ⟨d_12, ed_12⟩ : ∃ z : Nat → Int, z = pp_su td 6 200 := ⟨_, rfl⟩
  rw [← ed_12] at tq_11
  refine lv_aload_n hx hb dX8_clear_22 rfl (lv_at hl 0 rfl) ?_
  refine lv_iconst (v := 2) hx hb dX8_clear_23 (by decide) ?_
  refine ti_putI (ci := 8) (k := 7) (N := 12) (T := TX8) C hw iw_8 tyX8 tyX8_ok nmX8 rfl (ob_t ht) (by decide) (by decide) fl_X8_45 rfl rfl rfl rfl (fn_8 A _) fs_8_7 dX8_clear_24 (fun H locs hw => ?_)
  obtain ⟨M_13, hM_13⟩ : ∃ z : ti_M, z = uI M_10 t 7 2 := ⟨_, rfl⟩
  have hw := hw.to hM_13.symm
  have iM_13 : cI Tc M_13 := cI_uI iM_10 hM_13 (ob_t ht).1 trivial
  have tq_14 : tq t (pp_su d_12 7 2) M_13 := tq_t ht tq_11 (by decide : (2 : Int32).toInt = 2) hM_13 (by decide)
  obtain ⟨d_15, ed_15⟩ : ∃ z : Nat → Int, z = pp_su d_12 7 2 := ⟨_, rfl⟩
  rw [← ed_15] at tq_14
  refine lv_aload_n hx hb dX8_clear_27 rfl (lv_at hl 0 rfl) ?_
  refine lv_bipush (v := 10) hx hb dX8_clear_28 (by decide) ?_
  refine ti_putI (ci := 8) (k := 8) (N := 12) (T := TX8) C hw iw_8 tyX8 tyX8_ok nmX8 rfl (ob_t ht) (by decide) (by decide) fl_X8_48 rfl rfl rfl rfl (fn_8 A _) fs_8_8 dX8_clear_30 (fun H locs hw => ?_)
  obtain ⟨M_16, hM_16⟩ : ∃ z : ti_M, z = uI M_13 t 8 10 := ⟨_, rfl⟩
  have hw := hw.to hM_16.symm
  have iM_16 : cI Tc M_16 := cI_uI iM_13 hM_16 (ob_t ht).1 trivial
  have tq_17 : tq t (pp_su d_15 8 10) M_16 := tq_t ht tq_14 (by decide : (10 : Int32).toInt = 10) hM_16 (by decide)
  obtain ⟨d_18, ed_18⟩ : ∃ z : Nat → Int, z = pp_su d_15 8 10 := ⟨_, rfl⟩
  rw [← ed_18] at tq_17
  refine lv_aload_n hx hb dX8_clear_33 rfl (lv_at hl 0 rfl) ?_
  refine lv_iconst (v := 3) hx hb dX8_clear_34 (by decide) ?_
  refine ti_putI (ci := 8) (k := 9) (N := 12) (T := TX8) C hw iw_8 tyX8 tyX8_ok nmX8 rfl (ob_t ht) (by decide) (by decide) fl_X8_51 rfl rfl rfl rfl (fn_8 A _) fs_8_9 dX8_clear_35 (fun H locs hw => ?_)
  obtain ⟨M_19, hM_19⟩ : ∃ z : ti_M, z = uI M_16 t 9 3 := ⟨_, rfl⟩
  have hw := hw.to hM_19.symm
  have iM_19 : cI Tc M_19 := cI_uI iM_16 hM_19 (ob_t ht).1 trivial
  have tq_20 : tq t (pp_su d_18 9 3) M_19 := tq_t ht tq_17 (by decide : (3 : Int32).toInt = 3) hM_19 (by decide)
  obtain ⟨d_21, ed_21⟩ : ∃ z : Nat → Int, z = pp_su d_18 9 3 := ⟨_, rfl⟩
  rw [← ed_21] at tq_20
  refine lv_aload_n hx hb dX8_clear_38 rfl (lv_at hl 0 rfl) ?_
  refine lv_iconst (v := 0) hx hb dX8_clear_39 (by decide) ?_
  refine ti_putI (ci := 8) (k := 10) (N := 12) (T := TX8) C hw iw_8 tyX8 tyX8_ok nmX8 rfl (ob_t ht) (by decide) (by decide) fl_X8_54 rfl rfl rfl rfl (fn_8 A _) fs_8_10 dX8_clear_40 (fun H locs hw => ?_)
  obtain ⟨M_22, hM_22⟩ : ∃ z : ti_M, z = uI M_19 t 10 0 := ⟨_, rfl⟩
  have hw := hw.to hM_22.symm
  have iM_22 : cI Tc M_22 := cI_uI iM_19 hM_22 (ob_t ht).1 trivial
  have tq_23 : tq t (pp_su d_21 10 0) M_22 := tq_t ht tq_20 (by decide : (0 : Int32).toInt = 0) hM_22 (by decide)
  obtain ⟨d_24, ed_24⟩ : ∃ z : Nat → Int, z = pp_su d_21 10 0 := ⟨_, rfl⟩
  rw [← ed_24] at tq_23
  refine lv_aload_n hx hb dX8_clear_43 rfl (lv_at hl 0 rfl) ?_
  refine lv_iconst (v := 0) hx hb dX8_clear_44 (by decide) ?_
  refine ti_putI (ci := 8) (k := 11) (N := 12) (T := TX8) C hw iw_8 tyX8 tyX8_ok nmX8 rfl (ob_t ht) (by decide) (by decide) fl_X8_57 rfl rfl rfl rfl (fn_8 A _) fs_8_11 dX8_clear_45 (fun H locs hw => ?_)
  obtain ⟨M_25, hM_25⟩ : ∃ z : ti_M, z = uI M_22 t 11 0 := ⟨_, rfl⟩
  have hw := hw.to hM_25.symm
  have iM_25 : cI Tc M_25 := cI_uI iM_22 hM_25 (ob_t ht).1 trivial
  have tq_26 : tq t (pp_su d_24 11 0) M_25 := tq_t ht tq_23 (by decide : (0 : Int32).toInt = 0) hM_25 (by decide)
  obtain ⟨d_27, ed_27⟩ : ∃ z : Nat → Int, z = pp_su d_24 11 0 := ⟨_, rfl⟩
  rw [← ed_27] at tq_26
  refine lv_iconst (v := 0) hx hb dX8_clear_48 (by decide) ?_
  refine lv_istore_n (lv' := [(1, .int 0), (0, .ref (A t 0))]) hx hb dX8_clear_49 rfl hl (by decide) rfl (fun ls hl => ?_)
  refine lv_iload_n hx hb dX8_clear_50 rfl (lv_at hl 0 rfl) ?_
  refine lv_iconst (v := 3) hx hb dX8_clear_51 (by decide) ?_
  refine sb_icmp_ge (tgt := 68) hx hb (by decide : (0 : Int32).toInt = 0) (by decide : (3 : Int32).toInt = 3) dX8_clear_52 (by decide) (fun h => absurd h (by decide)) (fun c_52_27 => ?_)
  refine lv_aload_n hx hb dX8_clear_55 rfl (lv_at hl 1 rfl) ?_
  refine ti_get (ci := 8) (k := 1) (N := 12) (T := TX8) (v := .ref (A t 2)) C hw iw_8 rfl (ob_t ht) (by decide) (by decide) fl_X8_17 rfl rfl dX8_clear_56 ?_
  refine lv_iload_n hx hb dX8_clear_59 rfl (lv_at hl 0 rfl) ?_
  refine lv_iload_n hx hb dX8_clear_60 rfl (lv_at hl 0 rfl) ?_
  refine ti_iast (ci := 8) (k := 1) (n := 3) C hw (ob_t ht) (by decide) (fun _ _ => rfl) (by unfold vp_in; decide) dX8_clear_61 (fun H locs hw => ?_)
  obtain ⟨M_29, hM_29⟩ : ∃ z : ti_M, z = uY M_25 t 1 (upd (tY M_25 t 1) (0 : Int32).toNatClampNeg 0) := ⟨_, rfl⟩
  have hw := hw.to hM_29.symm
  have iM_29 : cI Tc M_29 := cI_up iM_25 hM_29 (ob_t ht).1 trivial
  have tq_30 : tq t (pp_su d_27 (32 + 0) 0) M_29 := tq_Y1 (z := 0) ht tq_26 (by decide) (by decide) (by decide : (0 : Int32).toInt = 0) hM_29
  obtain ⟨d_31, ed_31⟩ : ∃ z : Nat → Int, z = pp_su d_27 (32 + 0) 0 := ⟨_, rfl⟩
  rw [← ed_31] at tq_30
  refine lv_iinc (v := 1) (lv' := [(1, .int 1), (0, .ref (A t 0))]) hx hb dX8_clear_62 hl (k := 0) rfl (by decide) (by decide) rfl (fun ls hl => ?_)
  refine lv_goto (tgt := 50) hx hb dX8_clear_65 (by decide) ?_
  refine lv_iload_n hx hb dX8_clear_50 rfl (lv_at hl 0 rfl) ?_
  refine lv_iconst (v := 3) hx hb dX8_clear_51 (by decide) ?_
  refine sb_icmp_ge (tgt := 68) hx hb (by decide : (1 : Int32).toInt = 1) (by decide : (3 : Int32).toInt = 3) dX8_clear_52 (by decide) (fun h => absurd h (by decide)) (fun c_52_31 => ?_)
  refine lv_aload_n hx hb dX8_clear_55 rfl (lv_at hl 1 rfl) ?_
  refine ti_get (ci := 8) (k := 1) (N := 12) (T := TX8) (v := .ref (A t 2)) C hw iw_8 rfl (ob_t ht) (by decide) (by decide) fl_X8_17 rfl rfl dX8_clear_56 ?_
  refine lv_iload_n hx hb dX8_clear_59 rfl (lv_at hl 0 rfl) ?_
  refine lv_iload_n hx hb dX8_clear_60 rfl (lv_at hl 0 rfl) ?_
  refine ti_iast (ci := 8) (k := 1) (n := 3) C hw (ob_t ht) (by decide) (fun _ _ => rfl) (by unfold vp_in; decide) dX8_clear_61 (fun H locs hw => ?_)
  obtain ⟨M_33, hM_33⟩ : ∃ z : ti_M, z = uY M_29 t 1 (upd (tY M_29 t 1) (1 : Int32).toNatClampNeg 1) := ⟨_, rfl⟩
  have hw := hw.to hM_33.symm
  have iM_33 : cI Tc M_33 := cI_up iM_29 hM_33 (ob_t ht).1 trivial
  have tq_34 : tq t (pp_su d_31 (32 + 1) 1) M_33 := tq_Y1 (z := 1) ht tq_30 (by decide) (by decide) (by decide : (1 : Int32).toInt = 1) hM_33
  obtain ⟨d_35, ed_35⟩ : ∃ z : Nat → Int, z = pp_su d_31 (32 + 1) 1 := ⟨_, rfl⟩
  rw [← ed_35] at tq_34
  refine lv_iinc (v := 2) (lv' := [(1, .int 2), (0, .ref (A t 0))]) hx hb dX8_clear_62 hl (k := 0) rfl (by decide) (by decide) rfl (fun ls hl => ?_)
  refine lv_goto (tgt := 50) hx hb dX8_clear_65 (by decide) ?_
  refine lv_iload_n hx hb dX8_clear_50 rfl (lv_at hl 0 rfl) ?_
  refine lv_iconst (v := 3) hx hb dX8_clear_51 (by decide) ?_
  refine sb_icmp_ge (tgt := 68) hx hb (by decide : (2 : Int32).toInt = 2) (by decide : (3 : Int32).toInt = 3) dX8_clear_52 (by decide) (fun h => absurd h (by decide)) (fun c_52_35 => ?_)
  refine lv_aload_n hx hb dX8_clear_55 rfl (lv_at hl 1 rfl) ?_
  refine ti_get (ci := 8) (k := 1) (N := 12) (T := TX8) (v := .ref (A t 2)) C hw iw_8 rfl (ob_t ht) (by decide) (by decide) fl_X8_17 rfl rfl dX8_clear_56 ?_
  refine lv_iload_n hx hb dX8_clear_59 rfl (lv_at hl 0 rfl) ?_
  refine lv_iload_n hx hb dX8_clear_60 rfl (lv_at hl 0 rfl) ?_
  refine ti_iast (ci := 8) (k := 1) (n := 3) C hw (ob_t ht) (by decide) (fun _ _ => rfl) (by unfold vp_in; decide) dX8_clear_61 (fun H locs hw => ?_)
  obtain ⟨M_37, hM_37⟩ : ∃ z : ti_M, z = uY M_33 t 1 (upd (tY M_33 t 1) (2 : Int32).toNatClampNeg 2) := ⟨_, rfl⟩
  have hw := hw.to hM_37.symm
  have iM_37 : cI Tc M_37 := cI_up iM_33 hM_37 (ob_t ht).1 trivial
  have tq_38 : tq t (pp_su d_35 (32 + 2) 2) M_37 := tq_Y1 (z := 2) ht tq_34 (by decide) (by decide) (by decide : (2 : Int32).toInt = 2) hM_37
  obtain ⟨d_39, ed_39⟩ : ∃ z : Nat → Int, z = pp_su d_35 (32 + 2) 2 := ⟨_, rfl⟩
  rw [← ed_39] at tq_38
  refine lv_iinc (v := 3) (lv' := [(1, .int 3), (0, .ref (A t 0))]) hx hb dX8_clear_62 hl (k := 0) rfl (by decide) (by decide) rfl (fun ls hl => ?_)
  refine lv_goto (tgt := 50) hx hb dX8_clear_65 (by decide) ?_
  refine lv_iload_n hx hb dX8_clear_50 rfl (lv_at hl 0 rfl) ?_
  refine lv_iconst (v := 3) hx hb dX8_clear_51 (by decide) ?_
  refine sb_icmp_ge (tgt := 68) hx hb (by decide : (3 : Int32).toInt = 3) (by decide : (3 : Int32).toInt = 3) dX8_clear_52 (by decide) (fun c_52_39 => ?_) (fun h => absurd h (by decide))
  refine lv_iconst (v := 0) hx hb dX8_clear_68 (by decide) ?_
  refine lv_istore_n (lv' := [(1, .int 0), (0, .ref (A t 0))]) hx hb dX8_clear_69 rfl hl (by decide) rfl (fun ls hl => ?_)
  refine lv_iload_n hx hb dX8_clear_70 rfl (lv_at hl 0 rfl) ?_
  refine lv_iconst (v := 3) hx hb dX8_clear_71 (by decide) ?_
  refine sb_icmp_ge (tgt := 91) hx hb (by decide : (0 : Int32).toInt = 0) (by decide : (3 : Int32).toInt = 3) dX8_clear_72 (by decide) (fun h => absurd h (by decide)) (fun c_72_40 => ?_)
  refine lv_aload_n hx hb dX8_clear_75 rfl (lv_at hl 1 rfl) ?_
  refine ti_get (ci := 8) (k := 2) (N := 12) (T := TX8) (v := .ref (A t 3)) C hw iw_8 rfl (ob_t ht) (by decide) (by decide) fl_X8_23 rfl rfl dX8_clear_76 ?_
  refine lv_iload_n hx hb dX8_clear_79 rfl (lv_at hl 0 rfl) ?_
  refine ti_aald (ci := 8) (k := 2) (n := 3) (t0 := 4) (Cn := RX1) (gg := (ti_laws t)) (j := 0) C hw (ob_t ht) (by decide) (fun _ _ => rfl) rfl (by unfold vp_in; decide) (by decide) dX8_clear_80 ?_
  have ob_42 : ti_ob ti_LT (ti_laws t 0) 1 := ob_l ht (by decide)
  refine lv_iconst (v := 0) hx hb dX8_clear_81 (by decide) ?_
  refine ti_putI (ci := 1) (k := 3) (N := 4) (T := TX1) C hw iw_1 tyX1 tyX1_ok nmX1 rfl ob_42 (by decide) (by decide) fl_X8_60 rfl rfl rfl rfl (fn_1 A _) fs_1_3 dX8_clear_82 (fun H locs hw => ?_)
  obtain ⟨M_43, hM_43⟩ : ∃ z : ti_M, z = uI M_37 (ti_laws t 0) 3 0 := ⟨_, rfl⟩
  have hw := hw.to hM_43.symm
  have iM_43 : cI Tc M_43 := cI_uI iM_37 hM_43 ob_42.1 (ib_mk (lo := 0) (hi := 64) (by decide) (by decide))
  have vM_43 : (tI M_43 (ti_laws t 0) 3).toInt = 0 := by rw [tI_uE hM_43]; decide
  have tq_44 : tq t (pp_su d_39 (300 + 0) 0) M_43 := tq_l ht (by decide) tq_38 (by decide : (0 : Int32).toInt = 0) hM_43
  obtain ⟨d_45, ed_45⟩ : ∃ z : Nat → Int, z = pp_su d_39 (300 + 0) 0 := ⟨_, rfl⟩
  rw [← ed_45] at tq_44
  refine lv_iinc (v := 1) (lv' := [(1, .int 1), (0, .ref (A t 0))]) hx hb dX8_clear_85 hl (k := 0) rfl (by decide) (by decide) rfl (fun ls hl => ?_)
  refine lv_goto (tgt := 70) hx hb dX8_clear_88 (by decide) ?_
  refine lv_iload_n hx hb dX8_clear_70 rfl (lv_at hl 0 rfl) ?_
  refine lv_iconst (v := 3) hx hb dX8_clear_71 (by decide) ?_
  refine sb_icmp_ge (tgt := 91) hx hb (by decide : (1 : Int32).toInt = 1) (by decide : (3 : Int32).toInt = 3) dX8_clear_72 (by decide) (fun h => absurd h (by decide)) (fun c_72_45 => ?_)
  refine lv_aload_n hx hb dX8_clear_75 rfl (lv_at hl 1 rfl) ?_
  refine ti_get (ci := 8) (k := 2) (N := 12) (T := TX8) (v := .ref (A t 3)) C hw iw_8 rfl (ob_t ht) (by decide) (by decide) fl_X8_23 rfl rfl dX8_clear_76 ?_
  refine lv_iload_n hx hb dX8_clear_79 rfl (lv_at hl 0 rfl) ?_
  refine ti_aald (ci := 8) (k := 2) (n := 3) (t0 := 4) (Cn := RX1) (gg := (ti_laws t)) (j := 1) C hw (ob_t ht) (by decide) (fun _ _ => rfl) rfl (by unfold vp_in; decide) (by decide) dX8_clear_80 ?_
  have ob_47 : ti_ob ti_LT (ti_laws t 1) 1 := ob_l ht (by decide)
  refine lv_iconst (v := 0) hx hb dX8_clear_81 (by decide) ?_
  refine ti_putI (ci := 1) (k := 3) (N := 4) (T := TX1) C hw iw_1 tyX1 tyX1_ok nmX1 rfl ob_47 (by decide) (by decide) fl_X8_60 rfl rfl rfl rfl (fn_1 A _) fs_1_3 dX8_clear_82 (fun H locs hw => ?_)
  obtain ⟨M_48, hM_48⟩ : ∃ z : ti_M, z = uI M_43 (ti_laws t 1) 3 0 := ⟨_, rfl⟩
  have hw := hw.to hM_48.symm
  have iM_48 : cI Tc M_48 := cI_uI iM_43 hM_48 ob_47.1 (ib_mk (lo := 0) (hi := 64) (by decide) (by decide))
  have vM_48 : (tI M_48 (ti_laws t 1) 3).toInt = 0 := by rw [tI_uE hM_48]; decide
  have tq_49 : tq t (pp_su d_45 (300 + 1) 0) M_48 := tq_l ht (by decide) tq_44 (by decide : (0 : Int32).toInt = 0) hM_48
  obtain ⟨d_50, ed_50⟩ : ∃ z : Nat → Int, z = pp_su d_45 (300 + 1) 0 := ⟨_, rfl⟩
  rw [← ed_50] at tq_49
  refine lv_iinc (v := 2) (lv' := [(1, .int 2), (0, .ref (A t 0))]) hx hb dX8_clear_85 hl (k := 0) rfl (by decide) (by decide) rfl (fun ls hl => ?_)
  refine lv_goto (tgt := 70) hx hb dX8_clear_88 (by decide) ?_
  refine lv_iload_n hx hb dX8_clear_70 rfl (lv_at hl 0 rfl) ?_
  refine lv_iconst (v := 3) hx hb dX8_clear_71 (by decide) ?_
  refine sb_icmp_ge (tgt := 91) hx hb (by decide : (2 : Int32).toInt = 2) (by decide : (3 : Int32).toInt = 3) dX8_clear_72 (by decide) (fun h => absurd h (by decide)) (fun c_72_50 => ?_)
  refine lv_aload_n hx hb dX8_clear_75 rfl (lv_at hl 1 rfl) ?_
  refine ti_get (ci := 8) (k := 2) (N := 12) (T := TX8) (v := .ref (A t 3)) C hw iw_8 rfl (ob_t ht) (by decide) (by decide) fl_X8_23 rfl rfl dX8_clear_76 ?_
  refine lv_iload_n hx hb dX8_clear_79 rfl (lv_at hl 0 rfl) ?_
  refine ti_aald (ci := 8) (k := 2) (n := 3) (t0 := 4) (Cn := RX1) (gg := (ti_laws t)) (j := 2) C hw (ob_t ht) (by decide) (fun _ _ => rfl) rfl (by unfold vp_in; decide) (by decide) dX8_clear_80 ?_
  have ob_52 : ti_ob ti_LT (ti_laws t 2) 1 := ob_l ht (by decide)
  refine lv_iconst (v := 0) hx hb dX8_clear_81 (by decide) ?_
  refine ti_putI (ci := 1) (k := 3) (N := 4) (T := TX1) C hw iw_1 tyX1 tyX1_ok nmX1 rfl ob_52 (by decide) (by decide) fl_X8_60 rfl rfl rfl rfl (fn_1 A _) fs_1_3 dX8_clear_82 (fun H locs hw => ?_)
  obtain ⟨M_53, hM_53⟩ : ∃ z : ti_M, z = uI M_48 (ti_laws t 2) 3 0 := ⟨_, rfl⟩
  have hw := hw.to hM_53.symm
  have iM_53 : cI Tc M_53 := cI_uI iM_48 hM_53 ob_52.1 (ib_mk (lo := 0) (hi := 64) (by decide) (by decide))
  have vM_53 : (tI M_53 (ti_laws t 2) 3).toInt = 0 := by rw [tI_uE hM_53]; decide
  have tq_54 : tq t (pp_su d_50 (300 + 2) 0) M_53 := tq_l ht (by decide) tq_49 (by decide : (0 : Int32).toInt = 0) hM_53
  obtain ⟨d_55, ed_55⟩ : ∃ z : Nat → Int, z = pp_su d_50 (300 + 2) 0 := ⟨_, rfl⟩
  rw [← ed_55] at tq_54
  refine lv_iinc (v := 3) (lv' := [(1, .int 3), (0, .ref (A t 0))]) hx hb dX8_clear_85 hl (k := 0) rfl (by decide) (by decide) rfl (fun ls hl => ?_)
  refine lv_goto (tgt := 70) hx hb dX8_clear_88 (by decide) ?_
  refine lv_iload_n hx hb dX8_clear_70 rfl (lv_at hl 0 rfl) ?_
  refine lv_iconst (v := 3) hx hb dX8_clear_71 (by decide) ?_
  refine sb_icmp_ge (tgt := 91) hx hb (by decide : (3 : Int32).toInt = 3) (by decide : (3 : Int32).toInt = 3) dX8_clear_72 (by decide) (fun c_72_55 => ?_) (fun h => absurd h (by decide))
  exact hQ _ _ _ _ _ hw (⟨iM_53, ((rf_I hM_53).trans ((rf_I hM_48).trans ((rf_I hM_43).trans ((rf_Y hM_37).trans ((rf_Y hM_33).trans ((rf_Y hM_29).trans ((rf_I hM_25).trans ((rf_I hM_22).trans ((rf_I hM_19).trans ((rf_I hM_16).trans ((rf_I hM_13).trans ((rf_I hM_10).trans ((rf_I hM_7).trans ((rf_I hM_4).trans (rf_I hM_1))))))))))))))), (f0.trans (f0_I hM_53 (f0n ob_52.1 (by decide))) (f0.trans (f0_I hM_48 (f0n ob_47.1 (by decide))) (f0.trans (f0_I hM_43 (f0n ob_42.1 (by decide))) (f0.trans (f0_of (ra_Y hM_37)) (f0.trans (f0_of (ra_Y hM_33)) (f0.trans (f0_of (ra_Y hM_29)) (f0.trans (f0_I hM_25 (f0n (ob_t ht).1 (by decide))) (f0.trans (f0_I hM_22 (f0n (ob_t ht).1 (by decide))) (f0.trans (f0_I hM_19 (f0n (ob_t ht).1 (by decide))) (f0.trans (f0_I hM_16 (f0n (ob_t ht).1 (by decide))) (f0.trans (f0_I hM_13 (f0n (ob_t ht).1 (by decide))) (f0.trans (f0_I hM_10 (f0n (ob_t ht).1 (by decide))) (f0.trans (f0_I hM_7 (f0n (ob_t ht).1 (by decide))) (f0.trans (f0_I hM_4 (f0n (ob_t ht).1 (by decide))) (f0_I hM_1 (f0n (ob_t ht).1 (by decide))))))))))))))))), ((tI_nE hM_53 (nk (by decide))).trans ((tI_nE hM_48 (nk (by decide))).trans ((tI_nE hM_43 (nk (by decide))).trans ((tI_uYE hM_37).trans ((tI_uYE hM_33).trans ((tI_uYE hM_29).trans ((tI_nE hM_25 (nk (by decide))).trans ((tI_nE hM_22 (nk (by decide))).trans ((tI_nE hM_19 (nk (by decide))).trans ((tI_nE hM_16 (nk (by decide))).trans ((tI_nE hM_13 (nk (by decide))).trans ((tI_nE hM_10 (nk (by decide))).trans ((tI_nE hM_7 (nk (by decide))).trans ((tI_nE hM_4 (nk (by decide))).trans (tI_nE hM_1 (nk (by decide))))))))))))))))), ((tI_nE hM_53 (no (cls_ne ob_1.1 ob_52.1 (by decide)))).trans ((tI_nE hM_48 (no (cls_ne ob_1.1 ob_47.1 (by decide)))).trans ((tI_nE hM_43 (no (cls_ne ob_1.1 ob_42.1 (by decide)))).trans ((tI_uYE hM_37).trans ((tI_uYE hM_33).trans ((tI_uYE hM_29).trans ((tI_nE hM_25 (nk (by decide))).trans ((tI_nE hM_22 (nk (by decide))).trans ((tI_nE hM_19 (nk (by decide))).trans ((tI_nE hM_16 (nk (by decide))).trans ((tI_nE hM_13 (nk (by decide))).trans ((tI_nE hM_10 (nk (by decide))).trans ((tI_nE hM_7 (nk (by decide))).trans ((tI_nE hM_4 (nk (by decide))).trans (tI_nE hM_1 (no (cls_ne ob_1.1 (ob_t ht).1 (by decide)))))))))))))))))), ((tI_nE hM_53 (nk (by decide))).trans ((tI_nE hM_48 (nk (by decide))).trans ((tI_nE hM_43 (nk (by decide))).trans ((tI_uYE hM_37).trans ((tI_uYE hM_33).trans ((tI_uYE hM_29).trans ((tI_nE hM_25 (nk (by decide))).trans ((tI_nE hM_22 (nk (by decide))).trans ((tI_nE hM_19 (nk (by decide))).trans ((tI_nE hM_16 (nk (by decide))).trans ((tI_nE hM_13 (nk (by decide))).trans ((tI_nE hM_10 (nk (by decide))).trans ((tI_nE hM_7 (nk (by decide))).trans ((tI_nE hM_4 (no (cls_ne ob_1.1 (ob_t ht).1 (by decide)))).trans (tI_nE hM_1 (nk (by decide))))))))))))))))), ((tI_nE hM_53 (nk (by decide))).trans ((tI_nE hM_48 (nk (by decide))).trans ((tI_nE hM_43 (nk (by decide))).trans ((tI_uYE hM_37).trans ((tI_uYE hM_33).trans ((tI_uYE hM_29).trans ((tI_nE hM_25 (nk (by decide))).trans ((tI_nE hM_22 (nk (by decide))).trans ((tI_nE hM_19 (nk (by decide))).trans ((tI_nE hM_16 (nk (by decide))).trans ((tI_nE hM_13 (nk (by decide))).trans ((tI_nE hM_10 (nk (by decide))).trans ((tI_nE hM_7 (no (cls_ne ob_1.1 (ob_t ht).1 (by decide)))).trans ((tI_nE hM_4 (nk (by decide))).trans (tI_nE hM_1 (nk (by decide))))))))))))))))), (ot.trans (ot_l ht (by decide) hM_53) (ot.trans (ot_l ht (by decide) hM_48) (ot.trans (ot_l ht (by decide) hM_43) (ot.trans (ot_Yt ht hM_37) (ot.trans (ot_Yt ht hM_33) (ot.trans (ot_Yt ht hM_29) (ot.trans (ot_I ht hM_25 (by omega)) (ot.trans (ot_I ht hM_22 (by omega)) (ot.trans (ot_I ht hM_19 (by omega)) (ot.trans (ot_I ht hM_16 (by omega)) (ot.trans (ot_I ht hM_13 (by omega)) (ot.trans (ot_I ht hM_10 (by omega)) (ot.trans (ot_I ht hM_7 (by omega)) (ot.trans (ot_I ht hM_4 (by omega)) (ot_I ht hM_1 (by omega)))))))))))))))), (by rw [((tI_nE hM_53 (no (cls_ne (ob_t ht).1 ob_52.1 (by decide)))).trans ((tI_nE hM_48 (no (cls_ne (ob_t ht).1 ob_47.1 (by decide)))).trans ((tI_nE hM_43 (no (cls_ne (ob_t ht).1 ob_42.1 (by decide)))).trans ((tI_uYE hM_37).trans ((tI_uYE hM_33).trans ((tI_uYE hM_29).trans ((tI_nE hM_25 (nk (by decide))).trans ((tI_nE hM_22 (nk (by decide))).trans ((tI_nE hM_19 (nk (by decide))).trans ((tI_nE hM_16 (nk (by decide))).trans ((tI_nE hM_13 (nk (by decide))).trans ((tI_nE hM_10 (nk (by decide))).trans ((tI_nE hM_7 (nk (by decide))).trans ((tI_nE hM_4 (nk (by decide))).trans (tI_uE hM_1)))))))))))))))]; decide), (by rw [((tI_nE hM_53 (nk (by decide))).trans ((tI_nE hM_48 (nk (by decide))).trans ((tI_nE hM_43 (nk (by decide))).trans ((tI_uYE hM_37).trans ((tI_uYE hM_33).trans ((tI_uYE hM_29).trans ((tI_nE hM_25 (nk (by decide))).trans ((tI_nE hM_22 (nk (by decide))).trans ((tI_nE hM_19 (nk (by decide))).trans ((tI_nE hM_16 (nk (by decide))).trans ((tI_nE hM_13 (nk (by decide))).trans ((tI_nE hM_10 (nk (by decide))).trans ((tI_nE hM_7 (nk (by decide))).trans (tI_uE hM_4))))))))))))))]; decide), (by rw [((tI_nE hM_53 (nk (by decide))).trans ((tI_nE hM_48 (nk (by decide))).trans ((tI_nE hM_43 (nk (by decide))).trans ((tI_uYE hM_37).trans ((tI_uYE hM_33).trans ((tI_uYE hM_29).trans ((tI_nE hM_25 (nk (by decide))).trans ((tI_nE hM_22 (nk (by decide))).trans ((tI_nE hM_19 (nk (by decide))).trans ((tI_nE hM_16 (nk (by decide))).trans ((tI_nE hM_13 (nk (by decide))).trans ((tI_nE hM_10 (nk (by decide))).trans (tI_uE hM_7)))))))))))))]; decide), (by unfold qq_cl; rw [← ed_12, ← ed_15, ← ed_18, ← ed_21, ← ed_24, ← ed_27, ← ed_31, ← ed_35, ← ed_39, ← ed_45, ← ed_50, ← ed_55]; exact tq_54)⟩) dX8_clear_91
/-! a line, a text: what they tell -/
section
variable (B : Nat → Int) (n : Nat)
def qq_rd : Nat → (Nat → Int) → (Nat → Int) → Nat → Int
  | 0, _, td => td
  | f + 1, s, td => if s 0 ≠ 27 ∧ s 4 = 0 then qq_rd f (pp_ln B n s) (qq_lb B n s td) else td
def qq_tx (J K : Nat → Int) : Nat → Int := qq_rd B n (n + 1) (pp_r0 B n J) (qq_cl K)
end
theorem qrd_step {B : Nat → Int} {n f f' : Nat} {s s' td td' : Nat → Int} (h : s 0 ≠ 27 ∧ s 4 = 0) (e : s' = pp_ln B n s) (e2 : td' = qq_lb B n s td) (hf : f = f' + 1) : qq_rd B n f s td = qq_rd B n f' s' td' := by
  subst e e2 hf
  rw [qq_rd, if_pos h]
theorem qrd_end {B : Nat → Int} {n f : Nat} {s td : Nat → Int} (h : f = 0 ∨ s 0 = 27 ∨ s 4 ≠ 0) : qq_rd B n f s td = td := by
  cases f with
  | zero => rfl
  | succ f => rw [qq_rd, if_neg (by omega)]
def pp_J (t : Nat) (M : ti_M) : Nat → Int := fun j => if 200 ≤ j then (tI M (ti_men t (j - 200)) 9).toInt else (tI M (ti_men t (j - 100)) 0).toInt
theorem rC_st {B : Nat → Int} {n t : Nat} {N : ti_M} (hB : pt_cB N = B) (hn : pt_cn N = n) (k0 : (tI N 2 4).toInt = pt_K B n 0) (k1 : (tI N 2 6).toInt = pt_V B n 0) (k2 : (tI N 2 5).toInt = ((pt_P B n 0 : Nat) : Int)) (k3 : (tI N 2 3).toInt = pt_A B n 0) (h3 : tI N 1 3 = 0) (h4 : (tI N 1 4).toInt = 0) (h5 : (tI N 1 5).toInt = -1) (t3 : (tI N t 3).toInt = 0) (t4 : (tI N t 4).toInt = 0) (t5 : (tI N t 5).toInt = 0) : rC B n t (pp_r0 B n (pp_J t N)) N := by
  have bz : ∀ k : Nat, pp_bt 0 k = 0 := fun k => by unfold pp_bt; simp
  have j1 : ∀ i : Nat, i < 8 → pp_r0 B n (pp_J t N) (100 + i) = pp_J t N (100 + i) := fun i hi => by
    unfold pp_r0
    rw [if_neg (by omega), if_neg (by omega), if_neg (by omega), if_neg (by omega), if_neg (by omega), if_neg (by omega), if_neg (by omega), if_neg (by omega)]
  have j2 : ∀ i : Nat, i < 8 → pp_r0 B n (pp_J t N) (200 + i) = pp_J t N (200 + i) := fun i hi => by
    unfold pp_r0
    rw [if_neg (by omega), if_neg (by omega), if_neg (by omega), if_neg (by omega), if_neg (by omega), if_neg (by omega), if_neg (by omega), if_neg (by omega)]
  refine ⟨⟨hB, hn⟩, ⟨k0.symm, k1.symm, k2.symm, k3.symm⟩, ⟨?_, ?_, fun k hk => ?_⟩, ⟨?_, ?_, ?_⟩, fun i hi => ⟨?_, ?_⟩⟩
  · rw [h4]; rfl
  · rw [h5]; rfl
  · rw [h3, bz]
    unfold pp_r0
    rw [if_neg (by omega), if_neg (by omega), if_neg (by omega), if_neg (by omega), if_neg (by omega), if_neg (by omega), if_neg (by omega), if_pos (by omega)]
  · rw [t4]; rfl
  · rw [t5]; rfl
  · rw [t3]; rfl
  · rw [j1 i hi]
    unfold pp_J
    rw [if_neg (by omega), show 100 + i - 100 = i by omega]
  · rw [j2 i hi]
    unfold pp_J
    rw [if_pos (by omega), show 200 + i - 200 = i by omega]
theorem cI_cB {M : ti_M} {B : Nat → Int} (h : cI Tc M) (hB : B = fun i => (Tc.1 i &&& 255).toInt) : pt_cB M = B := by
  rw [hB]
  unfold pt_cB
  rw [show tY M 2 0 = Tc.1 from congrArg (fun t => t.1) h.2.2]
theorem cn_e {N : ti_M} {nn : Int32} {n : Nat} (h : (tI N 2 2).toInt = nn.toInt) (hn : n = nn.toInt.toNat) : pt_cn N = n := by
  unfold pt_cn
  rw [h, hn]
set_option maxHeartbeats 4000000 in
set_option maxRecDepth 100000 in
theorem x_X4_read (l : Launch) (D : va_G) (A : Nat → Nat → Nat) (cy : Nat → ClassId) (hJ : ti_inj ti_LT A) (M : ti_M) (hI : cI Tc M) (t : Nat) (ht : t = 3 ∨ t = 4) (nn : Int32) (h1 : 0 ≤ nn.toInt) (h2 : nn.toInt ≤ 700) (B : Nat → Int) (n : Nat) (hB : B = fun i => (Tc.1 i &&& 255).toInt) (hn : n = nn.toInt.toNat) : ti_KiE l yX4_read cX4_read 4 (some .boolean) 72 ti_LT D A cy M [.ref (A 1 0), .int nn, .ref (A t 0)] (fun r M2 => cI Tc M2 ∧ rR M2 M ∧ f0 M2 M ∧ tI M2 2 1 = tI M 2 1 ∧ ot t M2 M ∧ ∃ J K : Nat → Int, rC B n t (pp_tx B n J) M2 ∧ tq t (qq_tx B n J K) M2 ∧ ((r = 1 ∧ pp_tx B n J 4 = 0) ∨ (r = 0 ∧ pp_tx B n J 4 ≠ 0))) := by
  refine ti_eIE yp_X4_read hJ ti_LT_nd (Nat.le_of_ble_eq_true rfl) ?_
  intro p e s m args below meth c Q H0 C hE hQ hw ls hl
  have hx := C.1
  have hb := C.2.1
  have hl : lv_has ls 4 [(0, .ref (A 1 0)), (1, .int nn), (2, .ref (A t 0))] := hl
  obtain ⟨td, etd⟩ : ∃ z : Nat → Int, z = qJ t M := ⟨_, rfl⟩
  have hq : tq t td M := by rw [etd]; exact tq_J
  refine lv_aload_n hx hb dX4_read_0 rfl (lv_at hl 0 rfl) ?_
  refine lv_aload_n hx hb dX4_read_1 rfl (lv_at hl 2 rfl) ?_
  refine ti_putT (ci := 4) (k := 1) (N := 6) (T := TX4) C hw iw_4 tyX4 tyX4_ok nmX4 rfl ob_1 (by decide) (by decide) fl_X4_28 rfl rfl rfl rfl (fn_4 A _) fs_4_1 dX4_read_2 (fun H locs hw => ?_)
  obtain ⟨M_1, hM_1⟩ : ∃ z : ti_M, z = uT M 1 1 (some t) := ⟨_, rfl⟩
  have hw := hw.to hM_1.symm
  have iM_1 : cI Tc M_1 := cI_uT hI hM_1
  have tq_2 : tq t td M_1 := tq_T hq hM_1
  refine lv_aload_n hx hb dX4_read_5 rfl (lv_at hl 0 rfl) ?_
  refine ti_get (ci := 4) (k := 1) (N := 6) (T := TX4) (v := .ref (A t 0)) C hw iw_4 rfl ob_1 (by decide) (by decide) fl_X4_28 rfl (ti_Tv (tT_uE hM_1)) dX4_read_6 ?_
  refine ti_callVv (ci := 8) (av := []) C hw (x_X8_clear l D A cy hJ M_1 iM_1 t ht td tq_2) ⟨ml_X4_32, ym_X8_clear, yv_X8_clear, yi_X8_clear, yc_X8_clear⟩ yd_X8_clear (ob_t ht) (by decide) rfl rfl hl.1 (Nat.le_of_ble_eq_true rfl) ⟨by decide, by decide⟩ ⟨Nat.zero_le _, Nat.zero_le _⟩ dX4_read_9 (fun M_4 H locs hp_4 hw => ?_)
  obtain ⟨iM_4, q_5, q_6, q_7, q_8, q_9, q_10, q_11, p0r_3, p1r_3, p2r_3, p3r_3⟩ := hp_4
  obtain ⟨d_12, ed_12⟩ : ∃ z : Nat → Int, z = qq_cl td := ⟨_, rfl⟩
  rw [← ed_12] at p3r_3
  refine lv_aload_n hx hb dX4_read_12 rfl (lv_at hl 0 rfl) ?_
  refine lv_iconst (v := 0) hx hb dX4_read_13 (by decide) ?_
  refine ti_putI (ci := 4) (k := 3) (N := 6) (T := TX4) C hw iw_4 tyX4 tyX4_ok nmX4 rfl ob_1 (by decide) (by decide) fl_X4_18 rfl rfl rfl rfl (fn_4 A _) fs_4_3 dX4_read_14 (fun H locs hw => ?_)
  obtain ⟨M_13, hM_13⟩ : ∃ z : ti_M, z = uI M_4 1 3 0 := ⟨_, rfl⟩
  have hw := hw.to hM_13.symm
  have iM_13 : cI Tc M_13 := cI_uI iM_4 hM_13 ob_1.1 trivial
  have tq_15 : tq t d_12 M_13 := tq_I0 ht p3r_3 hM_13 (by decide)
  refine lv_aload_n hx hb dX4_read_17 rfl (lv_at hl 0 rfl) ?_
  refine lv_iconst (v := 0) hx hb dX4_read_18 (by decide) ?_
  refine ti_putI (ci := 4) (k := 4) (N := 6) (T := TX4) C hw iw_4 tyX4 tyX4_ok nmX4 rfl ob_1 (by decide) (by decide) fl_X4_22 rfl rfl rfl rfl (fn_4 A _) fs_4_4 dX4_read_19 (fun H locs hw => ?_)
  obtain ⟨M_16, hM_16⟩ : ∃ z : ti_M, z = uI M_13 1 4 0 := ⟨_, rfl⟩
  have hw := hw.to hM_16.symm
  have iM_16 : cI Tc M_16 := cI_uI iM_13 hM_16 ob_1.1 trivial
  have tq_18 : tq t d_12 M_16 := tq_I0 ht tq_15 hM_16 (by decide)
  refine lv_aload_n hx hb dX4_read_22 rfl (lv_at hl 0 rfl) ?_
  refine lv_iconst (v := (-1)) hx hb dX4_read_23 (by decide) ?_
  refine ti_putI (ci := 4) (k := 5) (N := 6) (T := TX4) C hw iw_4 tyX4 tyX4_ok nmX4 rfl ob_1 (by decide) (by decide) fl_X4_25 rfl rfl rfl rfl (fn_4 A _) fs_4_5 dX4_read_24 (fun H locs hw => ?_)
  obtain ⟨M_19, hM_19⟩ : ∃ z : ti_M, z = uI M_16 1 5 (-1) := ⟨_, rfl⟩
  have hw := hw.to hM_19.symm
  have iM_19 : cI Tc M_19 := cI_uI iM_16 hM_19 ob_1.1 trivial
  have tq_21 : tq t d_12 M_19 := tq_I0 ht tq_18 hM_19 (by decide)
  refine lv_aload_n hx hb dX4_read_27 rfl (lv_at hl 0 rfl) ?_
  refine ti_get (ci := 4) (k := 0) (N := 6) (T := TX4) (v := .ref (A 2 0)) C hw iw_4 rfl ob_1 (by decide) (by decide) fl_X4_12 rfl rfl dX4_read_28 ?_
  refine lv_iload_n hx hb dX4_read_31 rfl (lv_at hl 1 rfl) ?_
  refine ti_callVvE (ci := 7) (av := [.int nn]) C hE hw (x_X7_begin l D A cy hJ M_19 iM_19 nn (by omega) (by omega)) ⟨ml_X4_37, ym_X7_begin, yv_X7_begin, yi_X7_begin, yc_X7_begin⟩ yd_X7_begin ob_2 (by decide) rfl rfl hl.1 (Nat.le_of_ble_eq_true rfl) ⟨by decide, by decide⟩ ⟨Nat.zero_le _, Nat.zero_le _⟩ dX4_read_32 (fun M_23 H locs hp_23 hw => ?_)
  obtain ⟨iM_23, q_24, q_25, q_26, y0M_23, y1M_23, k0M_23, k1M_23, k2M_23, k3M_23⟩ := hp_23
  have en : nn.toInt.toNat = n := hn.symm
  have eB := cI_cB iM_19 hB
  rw [eB, en] at k0M_23 k1M_23 k2M_23 k3M_23
  have hs0 := rC_st (t := t) (cI_cB iM_23 hB) (cn_e y1M_23 hn) k0M_23 k1M_23 k2M_23 k3M_23 (((q_25 1 3 (by decide)).trans ((tI_nE hM_19 (nk (by decide))).trans ((tI_nE hM_16 (nk (by decide))).trans (tI_uE hM_13))))) (by rw [((q_25 1 4 (by decide)).trans ((tI_nE hM_19 (nk (by decide))).trans (tI_uE hM_16)))]; decide) (by rw [((q_25 1 5 (by decide)).trans (tI_uE hM_19))]; decide) ((congrArg Int32.toInt (((q_25 t 3 (by omega)).trans ((tI_nE hM_19 (no (by omega))).trans ((tI_nE hM_16 (no (by omega))).trans (tI_nE hM_13 (no (by omega)))))))).trans p0r_3) ((congrArg Int32.toInt (((q_25 t 4 (by omega)).trans ((tI_nE hM_19 (no (by omega))).trans ((tI_nE hM_16 (no (by omega))).trans (tI_nE hM_13 (no (by omega)))))))).trans p1r_3) ((congrArg Int32.toInt (((q_25 t 5 (by omega)).trans ((tI_nE hM_19 (no (by omega))).trans ((tI_nE hM_16 (no (by omega))).trans (tI_nE hM_13 (no (by omega)))))))).trans p2r_3)
  obtain ⟨J, eJ⟩ : ∃ z : Nat → Int, z = pp_J t M_23 := ⟨_, rfl⟩
  rw [← eJ] at hs0
  obtain ⟨g_27, eg_27⟩ : ∃ z : Nat → Int, z = pp_r0 B n J := ⟨_, rfl⟩
  rw [← eg_27] at hs0
  have lg_27_0 : g_27 0 = (tI M_23 2 4).toInt := hs0.2.1.1
  have lg_27_1 : g_27 1 = (tI M_23 2 6).toInt := hs0.2.1.2.1
  have lg_27_4 : g_27 4 = (tI M_23 1 4).toInt := hs0.2.2.1.1
  have lg_27_7 : g_27 7 = (tI M_23 t 4).toInt := hs0.2.2.2.1.1
  have lg_27_8 : g_27 8 = (tI M_23 t 5).toInt := hs0.2.2.2.1.2.1
  have lg_27_9 : g_27 9 = (tI M_23 t 3).toInt := hs0.2.2.2.1.2.2
  have tq_28 : tq t d_12 M_23 := tq_fr ht tq_21 (o2_12 q_25) y0M_23
  have n0 : g_27 9 = 0 := by rw [eg_27]; rfl
  refine lv_iconst (v := 0) hx hb dX4_read_35 (by decide) ?_
  refine lv_istore_n (lv' := [(3, .int 0), (0, .ref (A 1 0)), (1, .int nn), (2, .ref (A t 0))]) hx hb dX4_read_36 rfl hl (by decide) rfl (fun ls hl => ?_)
  have hl_37_44 : ∀ (n_45 : Nat) (x_29 : Int32) (M_32 : ti_M) (g_38 : Nat → Int) (d_40 : Nat → Int) (H : Heap) (locs : List Loc) (ls : Array Slot), (701 - x_29.toInt : Int).toNat < n_45 → (0 ≤ x_29.toInt) → (x_29.toInt ≤ 701) → (cI Tc M_32) → (rR M_32 M) → (f0 M_32 M) → (tI M_32 2 1 = tI M 2 1) → (ot t M_32 M) → (tT M_32 1 1 = (some t)) → (rC B n t g_38 M_32) → (tq t d_40 M_32) → (pp_tx B n J = pp_rd B n (n + 1 - (x_29.toInt).toNat) g_38) → (qq_tx B n J td = qq_rd B n (n + 1 - (x_29.toInt).toNat) g_38 d_40) → (g_38 9 = x_29.toInt) → ti_H ti_LT D A cy H0 M_32 H locs → lv_has ls 4 [(3, .int x_29), (0, .ref (A 1 0)), (1, .int nn), (2, .ref (A t 0))] → W p l e (ti_rm 72) s m args below meth c H locs 0 0 Q (F0 m 37 ls []) := by
    intro n_45
    induction n_45 with
    | zero => intro x_29 M_32 g_38 d_40 H locs ls hf_45; exact absurd hf_45 (Nat.not_lt_zero _)
    | succ n_45 ih_45 =>
      intro x_29 M_32 g_38 d_40 H locs ls hf_45 b_30 b_31 iM_32 f_33 f_34 f_35 f_36 f_37 hs_39 tq_41 j_42 j_43 j_44 hw hl
      have lg_38_0 : g_38 0 = (tI M_32 2 4).toInt := hs_39.2.1.1
      have lg_38_1 : g_38 1 = (tI M_32 2 6).toInt := hs_39.2.1.2.1
      have lg_38_4 : g_38 4 = (tI M_32 1 4).toInt := hs_39.2.2.1.1
      have lg_38_7 : g_38 7 = (tI M_32 t 4).toInt := hs_39.2.2.2.1.1
      have lg_38_8 : g_38 8 = (tI M_32 t 5).toInt := hs_39.2.2.2.1.2.1
      have lg_38_9 : g_38 9 = (tI M_32 t 3).toInt := hs_39.2.2.2.1.2.2
      refine lv_iload_n hx hb dX4_read_37 rfl (lv_at hl 0 rfl) ?_
      refine lv_iload_n hx hb dX4_read_38 rfl (lv_at hl 2 rfl) ?_
      refine sb_icmp_gt (tgt := 298) hx hb rfl rfl dX4_read_39 (by decide) (fun c_39_45 => ?_) (fun c_39_45 => ?_)
      · refine lv_aload_n hx hb dX4_read_298 rfl (lv_at hl 1 rfl) ?_
        refine ti_get (ci := 4) (k := 4) (N := 6) (T := TX4) C hw iw_4 rfl ob_1 (by decide) (by decide) fl_X4_22 rfl rfl dX4_read_299 ?_
        refine lv_topi (fun x_235 ex_235 => ?_)
        have u_236 : (tI M_32 1 4).toInt = x_235.toInt := by rw [ex_235]
        refine sb_if_ne (tgt := 309) hx hb rfl dX4_read_302 (by decide) (fun c_302_236 => ?_) (fun c_302_236 => ?_)
        · refine lv_iconst (v := 0) hx hb dX4_read_309 (by decide) ?_
          exact hQ _ _ _ _ _ _ hw rfl (⟨iM_32, f_33, f_34, (f_35), f_36, ⟨J, td, (by rw [show pp_tx B n J = g_38 from j_42.trans (rd_end (by omega))]; exact hs_39), (by rw [show qq_tx B n J td = d_40 from j_43.trans (qrd_end (by omega))]; exact tq_41), (by rw [show pp_tx B n J = g_38 from j_42.trans (rd_end (by omega))]; exact Or.inr ⟨rfl, by omega⟩)⟩⟩) dX4_read_310
        · refine lv_iconst (v := 1) hx hb dX4_read_305 (by decide) ?_
          refine lv_goto (tgt := 310) hx hb dX4_read_306 (by decide) ?_
          exact hQ _ _ _ _ _ _ hw rfl (⟨iM_32, f_33, f_34, (f_35), f_36, ⟨J, td, (by rw [show pp_tx B n J = g_38 from j_42.trans (rd_end (by omega))]; exact hs_39), (by rw [show qq_tx B n J td = d_40 from j_43.trans (qrd_end (by omega))]; exact tq_41), (by rw [show pp_tx B n J = g_38 from j_42.trans (rd_end (by omega))]; exact Or.inl ⟨rfl, by omega⟩)⟩⟩) dX4_read_310
      · refine lv_aload_n hx hb dX4_read_42 rfl (lv_at hl 1 rfl) ?_
        refine ti_get (ci := 4) (k := 0) (N := 6) (T := TX4) (v := .ref (A 2 0)) C hw iw_4 rfl ob_1 (by decide) (by decide) fl_X4_12 rfl rfl dX4_read_43 ?_
        refine ti_get (ci := 7) (k := 4) (N := 7) (T := TX7) C hw iw_7 rfl ob_2 (by decide) (by decide) fl_X4_41 rfl rfl dX4_read_46 ?_
        refine lv_topi (fun x_47 ex_47 => ?_)
        have bx_47 : 0 ≤ x_47.toInt ∧ x_47.toInt ≤ 41 := cI_rd iM_32 ob_2.1 ex_47
        have ux_47 : (tI M_32 2 4).toInt = x_47.toInt := by rw [ex_47]
        refine lv_bipush (v := 27) hx hb dX4_read_49 (by decide) ?_
        refine sb_icmp_eq (tgt := 298) hx hb rfl (by decide : (27 : Int32).toInt = 27) dX4_read_51 (by decide) (fun c_51_47 => ?_) (fun c_51_47 => ?_)
        · refine lv_aload_n hx hb dX4_read_298 rfl (lv_at hl 1 rfl) ?_
          refine ti_get (ci := 4) (k := 4) (N := 6) (T := TX4) C hw iw_4 rfl ob_1 (by decide) (by decide) fl_X4_22 rfl rfl dX4_read_299 ?_
          refine lv_topi (fun x_238 ex_238 => ?_)
          have u_239 : (tI M_32 1 4).toInt = x_238.toInt := by rw [ex_238]
          refine sb_if_ne (tgt := 309) hx hb rfl dX4_read_302 (by decide) (fun c_302_239 => ?_) (fun c_302_239 => ?_)
          · refine lv_iconst (v := 0) hx hb dX4_read_309 (by decide) ?_
            exact hQ _ _ _ _ _ _ hw rfl (⟨iM_32, f_33, f_34, (f_35), f_36, ⟨J, td, (by rw [show pp_tx B n J = g_38 from j_42.trans (rd_end (by omega))]; exact hs_39), (by rw [show qq_tx B n J td = d_40 from j_43.trans (qrd_end (by omega))]; exact tq_41), (by rw [show pp_tx B n J = g_38 from j_42.trans (rd_end (by omega))]; exact Or.inr ⟨rfl, by omega⟩)⟩⟩) dX4_read_310
          · refine lv_iconst (v := 1) hx hb dX4_read_305 (by decide) ?_
            refine lv_goto (tgt := 310) hx hb dX4_read_306 (by decide) ?_
            exact hQ _ _ _ _ _ _ hw rfl (⟨iM_32, f_33, f_34, (f_35), f_36, ⟨J, td, (by rw [show pp_tx B n J = g_38 from j_42.trans (rd_end (by omega))]; exact hs_39), (by rw [show qq_tx B n J td = d_40 from j_43.trans (qrd_end (by omega))]; exact tq_41), (by rw [show pp_tx B n J = g_38 from j_42.trans (rd_end (by omega))]; exact Or.inl ⟨rfl, by omega⟩)⟩⟩) dX4_read_310
        · refine lv_aload_n hx hb dX4_read_54 rfl (lv_at hl 1 rfl) ?_
          refine ti_get (ci := 4) (k := 4) (N := 6) (T := TX4) C hw iw_4 rfl ob_1 (by decide) (by decide) fl_X4_22 rfl rfl dX4_read_55 ?_
          refine lv_topi (fun x_49 ex_49 => ?_)
          have u_50 : (tI M_32 1 4).toInt = x_49.toInt := by rw [ex_49]
          refine sb_if_ne (tgt := 298) hx hb rfl dX4_read_58 (by decide) (fun c_58_50 => ?_) (fun c_58_50 => ?_)
          · refine lv_aload_n hx hb dX4_read_298 rfl (lv_at hl 1 rfl) ?_
            refine ti_get (ci := 4) (k := 4) (N := 6) (T := TX4) C hw iw_4 rfl ob_1 (by decide) (by decide) fl_X4_22 rfl rfl dX4_read_299 ?_
            refine ti_top (y := x_49) (ex_49.symm) ?_
            refine sb_if_ne (tgt := 309) hx hb rfl dX4_read_302 (by decide) (fun c_302_240 => ?_) (fun c_302_240 => ?_)
            · refine lv_iconst (v := 0) hx hb dX4_read_309 (by decide) ?_
              exact hQ _ _ _ _ _ _ hw rfl (⟨iM_32, f_33, f_34, (f_35), f_36, ⟨J, td, (by rw [show pp_tx B n J = g_38 from j_42.trans (rd_end (by omega))]; exact hs_39), (by rw [show qq_tx B n J td = d_40 from j_43.trans (qrd_end (by omega))]; exact tq_41), (by rw [show pp_tx B n J = g_38 from j_42.trans (rd_end (by omega))]; exact Or.inr ⟨rfl, by omega⟩)⟩⟩) dX4_read_310
            · refine lv_iconst (v := 1) hx hb dX4_read_305 (by decide) ?_
              refine lv_goto (tgt := 310) hx hb dX4_read_306 (by decide) ?_
              exact hQ _ _ _ _ _ _ hw rfl (⟨iM_32, f_33, f_34, (f_35), f_36, ⟨J, td, (by rw [show pp_tx B n J = g_38 from j_42.trans (rd_end (by omega))]; exact hs_39), (by rw [show qq_tx B n J td = d_40 from j_43.trans (qrd_end (by omega))]; exact tq_41), (by rw [show pp_tx B n J = g_38 from j_42.trans (rd_end (by omega))]; exact Or.inl ⟨rfl, by omega⟩)⟩⟩) dX4_read_310
          · refine lv_aload_n hx hb dX4_read_61 rfl (lv_at hl 1 rfl) ?_
            refine ti_get (ci := 4) (k := 0) (N := 6) (T := TX4) (v := .ref (A 2 0)) C hw iw_4 rfl ob_1 (by decide) (by decide) fl_X4_12 rfl rfl dX4_read_62 ?_
            refine ti_get (ci := 7) (k := 4) (N := 7) (T := TX7) C hw iw_7 rfl ob_2 (by decide) (by decide) fl_X4_41 rfl rfl dX4_read_65 ?_
            refine ti_top (y := x_47) (ex_47.symm) ?_
            have u_52 : (tI M_32 2 4).toInt = (x_47 : Int32).toInt := by rw [(ex_47.symm)]
            have hj_273_217 : ∀ (M_206 : ti_M) (g_212 : Nat → Int) (d_214 : Nat → Int) (H : Heap) (locs : List Loc) (ls : Array Slot), (cI Tc M_206) → (rR M_206 M) → (f0 M_206 M) → (tI M_206 2 1 = tI M 2 1) → (ot t M_206 M) → (tT M_206 1 1 = (some t)) → (rC B n t g_212 M_206) → (tq t d_214 M_206) → (pp_lb B n g_38 = g_212) → (qq_lb B n g_38 d_40 = d_214) → ti_H ti_LT D A cy H0 M_206 H locs → lv_has ls 4 [(3, .int x_29), (0, .ref (A 1 0)), (1, .int nn), (2, .ref (A t 0))] → W p l e (ti_rm 72) s m args below meth c H locs 0 0 Q (F0 m 273 ls []) := by
              intro M_206 g_212 d_214 H locs ls iM_206 f_207 f_208 f_209 f_210 f_211 hs_213 tq_215 j_216 j_217 hw hl
              have lg_212_0 : g_212 0 = (tI M_206 2 4).toInt := hs_213.2.1.1
              have lg_212_1 : g_212 1 = (tI M_206 2 6).toInt := hs_213.2.1.2.1
              have lg_212_4 : g_212 4 = (tI M_206 1 4).toInt := hs_213.2.2.1.1
              have lg_212_7 : g_212 7 = (tI M_206 t 4).toInt := hs_213.2.2.2.1.1
              have lg_212_8 : g_212 8 = (tI M_206 t 5).toInt := hs_213.2.2.2.1.2.1
              have lg_212_9 : g_212 9 = (tI M_206 t 3).toInt := hs_213.2.2.2.1.2.2
              refine lv_aload_n hx hb dX4_read_273 rfl (lv_at hl 1 rfl) ?_
              refine lv_bipush (v := 29) hx hb dX4_read_274 (by decide) ?_
              refine ti_callVvE (ci := 4) (av := [.int 29]) C hE hw (x_X4_take l D A cy hJ M_206 iM_206 t ht 29 B n g_212 hs_213) ⟨ml_X4_85, ym_X4_take, yv_X4_take, yi_X4_take, yc_X4_take⟩ yd_X4_take ob_1 (by decide) rfl rfl hl.1 (Nat.le_of_ble_eq_true rfl) ⟨by decide, by decide⟩ ⟨Nat.zero_le _, Nat.zero_le _⟩ dX4_read_276 (fun M_219 H locs hp_219 hw => ?_)
              obtain ⟨iM_219, q_220, q_221, q_222, q_223, p0r_218⟩ := hp_219
              have hlr_218_29 : (29 : Int32).toInt = 29 := by decide
              simp only [hlr_218_29] at p0r_218
              obtain ⟨g_224, eg_224⟩ : ∃ z : Nat → Int, z = pp_tk B n 29 g_212 := ⟨_, rfl⟩
              rw [← eg_224] at p0r_218
              have lg_224_0 : g_224 0 = (tI M_219 2 4).toInt := p0r_218.2.1.1
              have lg_224_1 : g_224 1 = (tI M_219 2 6).toInt := p0r_218.2.1.2.1
              have lg_224_4 : g_224 4 = (tI M_219 1 4).toInt := p0r_218.2.2.1.1
              have lg_224_7 : g_224 7 = (tI M_219 t 4).toInt := p0r_218.2.2.2.1.1
              have lg_224_8 : g_224 8 = (tI M_219 t 5).toInt := p0r_218.2.2.2.1.2.1
              have lg_224_9 : g_224 9 = (tI M_219 t 3).toInt := p0r_218.2.2.2.1.2.2
              have tq_225 : tq t d_214 M_219 := tq_fr ht tq_215 q_221 q_223
              refine lv_aload_n hx hb dX4_read_279 rfl (lv_at hl 1 rfl) ?_
              refine ti_get (ci := 4) (k := 1) (N := 6) (T := TX4) (v := .ref (A t 0)) C hw iw_4 rfl ob_1 (by decide) (by decide) fl_X4_28 rfl (ti_Tv ((tT_fr q_220).trans f_211)) dX4_read_280 ?_
              refine lv_dup hx hb dX4_read_283 rfl ?_
              refine ti_get (ci := 8) (k := 3) (N := 12) (T := TX8) C hw iw_8 rfl (ob_t ht) (by decide) (by decide) fl_X4_88 rfl rfl dX4_read_284 ?_
              refine lv_topi (fun x_226 ex_226 => ?_)
              have u_227 : (tI M_219 t 3).toInt = x_226.toInt := by rw [ex_226]
              refine lv_iconst (v := 1) hx hb dX4_read_287 (by decide) ?_
              have n9 : g_224 9 = g_38 9 := by rw [eg_224, tk_n (by decide), ← j_216]; exact lb_9
              have l9 : g_224 9 = (x_226 : Int32).toInt := (p0r_218.2.2.2.1.2.2).trans (congrArg Int32.toInt (ex_226.symm))
              refine lv_iadd hx hb dX4_read_288 ?_
              refine lv_topi (fun x_228 ex_228 => ?_)
              have lox_228x_226 := x_226.le_toInt
              have hix_228x_226 := x_226.toInt_lt
              have tx_228 : x_228.toInt = x_226.toInt + 1 := i_add ex_228 rfl (by decide : (1 : Int32).toInt = 1) (by omega) (by omega)
              refine ti_putI (ci := 8) (k := 3) (N := 12) (T := TX8) C hw iw_8 tyX8 tyX8_ok nmX8 rfl (ob_t ht) (by decide) (by decide) fl_X4_88 rfl rfl rfl rfl (fn_8 A _) fs_8_3 dX4_read_289 (fun H locs hw => ?_)
              obtain ⟨M_229, hM_229⟩ : ∃ z : ti_M, z = uI M_219 t 3 x_228 := ⟨_, rfl⟩
              have hw := hw.to hM_229.symm
              have iM_229 : cI Tc M_229 := cI_uI iM_219 hM_229 (ob_t ht).1 trivial
              have hs_230 := rC_t3 ht hM_229 p0r_218
              obtain ⟨g_231, eg_231⟩ : ∃ z : Nat → Int, z = pp_su g_224 9 x_228.toInt := ⟨_, rfl⟩
              rw [← eg_231] at hs_230
              have lg_231_0 : g_231 0 = (tI M_229 2 4).toInt := hs_230.2.1.1
              have lg_231_1 : g_231 1 = (tI M_229 2 6).toInt := hs_230.2.1.2.1
              have lg_231_4 : g_231 4 = (tI M_229 1 4).toInt := hs_230.2.2.1.1
              have lg_231_7 : g_231 7 = (tI M_229 t 4).toInt := hs_230.2.2.2.1.1
              have lg_231_8 : g_231 8 = (tI M_229 t 5).toInt := hs_230.2.2.2.1.2.1
              have lg_231_9 : g_231 9 = (tI M_229 t 3).toInt := hs_230.2.2.2.1.2.2
              have tq_233 : tq t d_214 M_229 := tq_t0 ht tq_225 hM_229 (by decide)
              have t9 : g_231 9 = (x_228 : Int32).toInt := (hs_230.2.2.2.1.2.2).trans (congrArg Int32.toInt (tI_uE hM_229))
              obtain ⟨x_234, ex_234⟩ : ∃ z : Int32, z = x_29 + 1 := ⟨_, rfl⟩
              have tx_234 : x_234.toInt = x_29.toInt + 1 := i_add ex_234 rfl (by decide) (by omega) (by omega)
              refine lv_iinc (v := x_234) (lv' := [(3, .int x_234), (0, .ref (A 1 0)), (1, .int nn), (2, .ref (A t 0))]) hx hb dX4_read_292 hl (k := 0) rfl (by rw [ex_234]; rfl) (by decide) rfl (fun ls hl => ?_)
              refine lv_goto (tgt := 37) hx hb dX4_read_295 (by decide) ?_
              exact ih_45 x_234 M_229 g_231 d_214 _ _ _ (by omega) (by first | omega | decide) (by first | omega | decide) iM_229 (rR.trans (rr_of (rf_I hM_229)) (rR.trans (rr_of q_220) f_207)) (f0.trans (f0_I hM_229 (f0n (ob_t ht).1 (by decide))) (f0.trans (f0_12 q_221) f_208)) ((tI_nE hM_229 (nk (by decide))).trans ((q_222).trans f_209)) (ot.trans (ot_I ht hM_229 (by omega)) (ot.trans (ot_12 ht q_221 q_223) f_210)) ((tT_uIE hM_229).trans ((tT_fr q_220).trans f_211)) hs_230 tq_233 (j_42.trans (rd_step ⟨by omega, by omega⟩ (show g_231 = pp_ln B n g_38 by unfold pp_ln; rw [j_216, ← eg_224]; unfold pp_l9; rw [show g_224 9 + 1 = x_228.toInt by omega, ← eg_231]) (by omega))) (j_43.trans (qrd_step ⟨by omega, by omega⟩ (show g_231 = pp_ln B n g_38 by unfold pp_ln; rw [j_216, ← eg_224]; unfold pp_l9; rw [show g_224 9 + 1 = x_228.toInt by omega, ← eg_231]) j_217.symm (by omega))) (by first | omega | decide) hw (lv_sub hl [0, 1, 2, 3] rfl)
            by_cases s_53_0 : x_47 = 0
            · have qs_53_0 : x_47.toInt = 0 := by rw [s_53_0]; decide
              refine lv_tableIn (tgt := 120) (off := 52) hx hb dX4_read_68 (by rw [s_53_0]; decide) (by rw [s_53_0]; decide) (by rw [s_53_0]; decide) (by decide) ?_
              refine lv_aload_n hx hb dX4_read_120 rfl (lv_at hl 1 rfl) ?_
              refine ti_callVvE (ci := 4) (av := []) C hE hw (x_X4_readMan l D A cy hJ M_32 iM_32 t ht (f_37) B n g_38 hs_39 d_40 tq_41) ⟨ml_X4_44, ym_X4_readMan, yv_X4_readMan, yi_X4_readMan, yc_X4_readMan⟩ yd_X4_readMan ob_1 (by decide) rfl rfl hl.1 (Nat.le_of_ble_eq_true rfl) ⟨by decide, by decide⟩ ⟨Nat.zero_le _, Nat.zero_le _⟩ dX4_read_121 (fun M_55 H locs hp_55 hw => ?_)
              obtain ⟨iM_55, q_56, q_57, q_58, q_59, p0r_54, p1r_54⟩ := hp_55
              obtain ⟨g_60, eg_60⟩ : ∃ z : Nat → Int, z = pp_mn B n g_38 := ⟨_, rfl⟩
              rw [← eg_60] at p0r_54
              have lg_60_0 : g_60 0 = (tI M_55 2 4).toInt := p0r_54.2.1.1
              have lg_60_1 : g_60 1 = (tI M_55 2 6).toInt := p0r_54.2.1.2.1
              have lg_60_4 : g_60 4 = (tI M_55 1 4).toInt := p0r_54.2.2.1.1
              have lg_60_7 : g_60 7 = (tI M_55 t 4).toInt := p0r_54.2.2.2.1.1
              have lg_60_8 : g_60 8 = (tI M_55 t 5).toInt := p0r_54.2.2.2.1.2.1
              have lg_60_9 : g_60 9 = (tI M_55 t 3).toInt := p0r_54.2.2.2.1.2.2
              obtain ⟨d_61, ed_61⟩ : ∃ z : Nat → Int, z = qq_mn B n g_38 d_40 := ⟨_, rfl⟩
              rw [← ed_61] at p1r_54
              refine lv_goto (tgt := 273) hx hb dX4_read_124 (by decide) ?_
              exact hj_273_217 M_55 g_60 d_61 _ _ _ iM_55 (rR.trans (rr_of q_56) f_33) (f0.trans q_57 f_34) ((q_58).trans f_35) (ot.trans q_59 f_36) ((tT_fr q_56).trans f_37) p0r_54 p1r_54 (by unfold pp_lb; rw [if_pos (by omega), ← eg_60]) (by unfold qq_lb; rw [if_pos (by omega), ← ed_61]) hw (lv_sub hl [0, 1, 2, 3] rfl)
            · have qs_53_0 : x_47.toInt ≠ 0 := pt_ne s_53_0 (by decide)
              by_cases s_53_1 : x_47 = 1
              · have qs_53_1 : x_47.toInt = 1 := by rw [s_53_1]; decide
                refine lv_tableIn (tgt := 127) (off := 59) hx hb dX4_read_68 (by rw [s_53_1]; decide) (by rw [s_53_1]; decide) (by rw [s_53_1]; decide) (by decide) ?_
                refine lv_aload_n hx hb dX4_read_127 rfl (lv_at hl 1 rfl) ?_
                refine ti_callVvE (ci := 4) (av := []) C hE hw (x_X4_readGuard l D A cy hJ M_32 iM_32 t ht (f_37) B n g_38 hs_39 d_40 tq_41) ⟨ml_X4_47, ym_X4_readGuard, yv_X4_readGuard, yi_X4_readGuard, yc_X4_readGuard⟩ yd_X4_readGuard ob_1 (by decide) rfl rfl hl.1 (Nat.le_of_ble_eq_true rfl) ⟨by decide, by decide⟩ ⟨Nat.zero_le _, Nat.zero_le _⟩ dX4_read_128 (fun M_63 H locs hp_63 hw => ?_)
                obtain ⟨iM_63, q_64, q_65, q_66, q_67, p0r_62, p1r_62⟩ := hp_63
                obtain ⟨g_68, eg_68⟩ : ∃ z : Nat → Int, z = pp_gd B n g_38 := ⟨_, rfl⟩
                rw [← eg_68] at p0r_62
                have lg_68_0 : g_68 0 = (tI M_63 2 4).toInt := p0r_62.2.1.1
                have lg_68_1 : g_68 1 = (tI M_63 2 6).toInt := p0r_62.2.1.2.1
                have lg_68_4 : g_68 4 = (tI M_63 1 4).toInt := p0r_62.2.2.1.1
                have lg_68_7 : g_68 7 = (tI M_63 t 4).toInt := p0r_62.2.2.2.1.1
                have lg_68_8 : g_68 8 = (tI M_63 t 5).toInt := p0r_62.2.2.2.1.2.1
                have lg_68_9 : g_68 9 = (tI M_63 t 3).toInt := p0r_62.2.2.2.1.2.2
                refine lv_goto (tgt := 273) hx hb dX4_read_131 (by decide) ?_
                exact hj_273_217 M_63 g_68 d_40 _ _ _ iM_63 (rR.trans (rr_of q_64) f_33) (f0.trans q_65 f_34) ((q_66).trans f_35) (ot.trans q_67 f_36) ((tT_fr q_64).trans f_37) p0r_62 p1r_62 (by unfold pp_lb; rw [if_neg (by omega), if_pos (by omega), ← eg_68]) (by unfold qq_lb; rw [if_neg (by omega), if_pos (by omega)]) hw (lv_sub hl [0, 1, 2, 3] rfl)
              · have qs_53_1 : x_47.toInt ≠ 1 := pt_ne s_53_1 (by decide)
                by_cases s_53_2 : x_47 = 2
                · have qs_53_2 : x_47.toInt = 2 := by rw [s_53_2]; decide
                  refine lv_tableIn (tgt := 134) (off := 66) hx hb dX4_read_68 (by rw [s_53_2]; decide) (by rw [s_53_2]; decide) (by rw [s_53_2]; decide) (by decide) ?_
                  refine lv_aload_n hx hb dX4_read_134 rfl (lv_at hl 1 rfl) ?_
                  refine ti_callVvE (ci := 4) (av := []) C hE hw (x_X4_readPower l D A cy hJ M_32 iM_32 t ht (f_37) B n g_38 hs_39 d_40 tq_41) ⟨ml_X4_50, ym_X4_readPower, yv_X4_readPower, yi_X4_readPower, yc_X4_readPower⟩ yd_X4_readPower ob_1 (by decide) rfl rfl hl.1 (Nat.le_of_ble_eq_true rfl) ⟨by decide, by decide⟩ ⟨Nat.zero_le _, Nat.zero_le _⟩ dX4_read_135 (fun M_70 H locs hp_70 hw => ?_)
                  obtain ⟨iM_70, q_71, q_72, q_73, q_74, p0r_69, p1r_69⟩ := hp_70
                  obtain ⟨g_75, eg_75⟩ : ∃ z : Nat → Int, z = pp_pw B n g_38 := ⟨_, rfl⟩
                  rw [← eg_75] at p0r_69
                  have lg_75_0 : g_75 0 = (tI M_70 2 4).toInt := p0r_69.2.1.1
                  have lg_75_1 : g_75 1 = (tI M_70 2 6).toInt := p0r_69.2.1.2.1
                  have lg_75_4 : g_75 4 = (tI M_70 1 4).toInt := p0r_69.2.2.1.1
                  have lg_75_7 : g_75 7 = (tI M_70 t 4).toInt := p0r_69.2.2.2.1.1
                  have lg_75_8 : g_75 8 = (tI M_70 t 5).toInt := p0r_69.2.2.2.1.2.1
                  have lg_75_9 : g_75 9 = (tI M_70 t 3).toInt := p0r_69.2.2.2.1.2.2
                  obtain ⟨d_76, ed_76⟩ : ∃ z : Nat → Int, z = qq_pw B n g_38 d_40 := ⟨_, rfl⟩
                  rw [← ed_76] at p1r_69
                  refine lv_goto (tgt := 273) hx hb dX4_read_138 (by decide) ?_
                  exact hj_273_217 M_70 g_75 d_76 _ _ _ iM_70 (rR.trans (rr_of q_71) f_33) (f0.trans q_72 f_34) ((q_73).trans f_35) (ot.trans q_74 f_36) ((tT_fr q_71).trans f_37) p0r_69 p1r_69 (by unfold pp_lb; rw [if_neg (by omega), if_neg (by omega), if_pos (by omega), ← eg_75]) (by unfold qq_lb; rw [if_neg (by omega), if_neg (by omega), if_pos (by omega), ← ed_76]) hw (lv_sub hl [0, 1, 2, 3] rfl)
                · have qs_53_2 : x_47.toInt ≠ 2 := pt_ne s_53_2 (by decide)
                  by_cases s_53_3 : x_47 = 3
                  · have qs_53_3 : x_47.toInt = 3 := by rw [s_53_3]; decide
                    refine lv_tableIn (tgt := 141) (off := 73) hx hb dX4_read_68 (by rw [s_53_3]; decide) (by rw [s_53_3]; decide) (by rw [s_53_3]; decide) (by decide) ?_
                    refine lv_aload_n hx hb dX4_read_141 rfl (lv_at hl 1 rfl) ?_
                    refine ti_callVvE (ci := 4) (av := []) C hE hw (x_X4_once l D A cy hJ M_32 iM_32 t ht B n g_38 hs_39 (by omega)) ⟨ml_X4_53, ym_X4_once, yv_X4_once, yi_X4_once, yc_X4_once⟩ yd_X4_once ob_1 (by decide) rfl rfl hl.1 (Nat.le_of_ble_eq_true rfl) ⟨by decide, by decide⟩ ⟨Nat.zero_le _, Nat.zero_le _⟩ dX4_read_142 (fun M_78 H locs hp_78 hw => ?_)
                    obtain ⟨iM_78, q_79, q_80, q_81, q_82, p0r_77⟩ := hp_78
                    obtain ⟨g_83, eg_83⟩ : ∃ z : Nat → Int, z = pp_on B n g_38 := ⟨_, rfl⟩
                    rw [← eg_83] at p0r_77
                    have lg_83_0 : g_83 0 = (tI M_78 2 4).toInt := p0r_77.2.1.1
                    have lg_83_1 : g_83 1 = (tI M_78 2 6).toInt := p0r_77.2.1.2.1
                    have lg_83_4 : g_83 4 = (tI M_78 1 4).toInt := p0r_77.2.2.1.1
                    have lg_83_7 : g_83 7 = (tI M_78 t 4).toInt := p0r_77.2.2.2.1.1
                    have lg_83_8 : g_83 8 = (tI M_78 t 5).toInt := p0r_77.2.2.2.1.2.1
                    have lg_83_9 : g_83 9 = (tI M_78 t 3).toInt := p0r_77.2.2.2.1.2.2
                    have tq_84 : tq t d_40 M_78 := tq_fr ht tq_41 q_80 q_82
                    refine lv_aload_n hx hb dX4_read_145 rfl (lv_at hl 1 rfl) ?_
                    refine ti_get (ci := 4) (k := 1) (N := 6) (T := TX4) (v := .ref (A t 0)) C hw iw_4 rfl ob_1 (by decide) (by decide) fl_X4_28 rfl (ti_Tv ((tT_fr q_79).trans f_37)) dX4_read_146 ?_
                    refine lv_aload_n hx hb dX4_read_149 rfl (lv_at hl 1 rfl) ?_
                    refine lv_iconst (v := 0) hx hb dX4_read_150 (by decide) ?_
                    refine lv_sipush (v := 999) hx hb dX4_read_151 (by decide) ?_
                    refine ti_callViE (ci := 4) (av := [.int 0, .int 999]) C hE hw (x_X4_number l D A cy hJ M_78 iM_78 t ht 0 999 B n g_83 p0r_77) ⟨ml_X4_56, ym_X4_number, yv_X4_number, yi_X4_number, yc_X4_number⟩ yd_X4_number ob_1 (by decide) rfl rfl hl.1 (Nat.le_of_ble_eq_true rfl) ⟨by decide, by decide⟩ ⟨Nat.zero_le _, Nat.zero_le _⟩ dX4_read_154 (fun r_85 M_86 H locs hp_86 hw => ?_)
                    obtain ⟨iM_86, q_87, q_88, q_89, q_90, p0r_85, p1r_85⟩ := hp_86
                    have hlr_85_0 : (0 : Int32).toInt = 0 := by decide
                    have hlr_85_999 : (999 : Int32).toInt = 999 := by decide
                    simp only [hlr_85_0, hlr_85_999] at p1r_85
                    obtain ⟨g_91, eg_91⟩ : ∃ z : Nat → Int, z = pp_nb B n 0 999 g_83 := ⟨_, rfl⟩
                    rw [← eg_91] at p1r_85
                    have lg_91_0 : g_91 0 = (tI M_86 2 4).toInt := p1r_85.2.1.1
                    have lg_91_1 : g_91 1 = (tI M_86 2 6).toInt := p1r_85.2.1.2.1
                    have lg_91_4 : g_91 4 = (tI M_86 1 4).toInt := p1r_85.2.2.1.1
                    have lg_91_7 : g_91 7 = (tI M_86 t 4).toInt := p1r_85.2.2.2.1.1
                    have lg_91_8 : g_91 8 = (tI M_86 t 5).toInt := p1r_85.2.2.2.1.2.1
                    have lg_91_9 : g_91 9 = (tI M_86 t 3).toInt := p1r_85.2.2.2.1.2.2
                    have tq_92 : tq t d_40 M_86 := tq_fr ht tq_84 q_88 q_90
                    refine ti_putI (ci := 8) (k := 6) (N := 12) (T := TX8) C hw iw_8 tyX8 tyX8_ok nmX8 rfl (ob_t ht) (by decide) (by decide) fl_X4_60 rfl rfl rfl rfl (fn_8 A _) fs_8_6 dX4_read_157 (fun H locs hw => ?_)
                    obtain ⟨M_93, hM_93⟩ : ∃ z : ti_M, z = uI M_86 t 6 r_85 := ⟨_, rfl⟩
                    have hw := hw.to hM_93.symm
                    have iM_93 : cI Tc M_93 := cI_uI iM_86 hM_93 (ob_t ht).1 trivial
                    have hs_94 := rC_t6x ht hM_93 p1r_85
                    have lM_93_0 : g_91 0 = (tI M_93 2 4).toInt := hs_94.2.1.1
                    have lM_93_1 : g_91 1 = (tI M_93 2 6).toInt := hs_94.2.1.2.1
                    have lM_93_4 : g_91 4 = (tI M_93 1 4).toInt := hs_94.2.2.1.1
                    have lM_93_7 : g_91 7 = (tI M_93 t 4).toInt := hs_94.2.2.2.1.1
                    have lM_93_8 : g_91 8 = (tI M_93 t 5).toInt := hs_94.2.2.2.1.2.1
                    have lM_93_9 : g_91 9 = (tI M_93 t 3).toInt := hs_94.2.2.2.1.2.2
                    have tq_95 : tq t (pp_su d_40 6 r_85.toInt) M_93 := tq_t ht tq_92 rfl hM_93 (by decide)
                    obtain ⟨d_96, ed_96⟩ : ∃ z : Nat → Int, z = pp_su d_40 6 r_85.toInt := ⟨_, rfl⟩
                    rw [← ed_96] at tq_95
                    refine lv_aload_n hx hb dX4_read_160 rfl (lv_at hl 1 rfl) ?_
                    refine ti_get (ci := 4) (k := 1) (N := 6) (T := TX4) (v := .ref (A t 0)) C hw iw_4 rfl ob_1 (by decide) (by decide) fl_X4_28 rfl (ti_Tv ((tT_uIE hM_93).trans ((tT_fr q_87).trans ((tT_fr q_79).trans f_37)))) dX4_read_161 ?_
                    refine lv_aload_n hx hb dX4_read_164 rfl (lv_at hl 1 rfl) ?_
                    refine lv_iconst (v := 1) hx hb dX4_read_165 (by decide) ?_
                    refine lv_bipush (v := 9) hx hb dX4_read_166 (by decide) ?_
                    refine ti_callViE (ci := 4) (av := [.int 1, .int 9]) C hE hw (x_X4_number l D A cy hJ M_93 iM_93 t ht 1 9 B n g_91 hs_94) ⟨ml_X4_56, ym_X4_number, yv_X4_number, yi_X4_number, yc_X4_number⟩ yd_X4_number ob_1 (by decide) rfl rfl hl.1 (Nat.le_of_ble_eq_true rfl) ⟨by decide, by decide⟩ ⟨Nat.zero_le _, Nat.zero_le _⟩ dX4_read_168 (fun r_97 M_98 H locs hp_98 hw => ?_)
                    obtain ⟨iM_98, q_99, q_100, q_101, q_102, p0r_97, p1r_97⟩ := hp_98
                    have hlr_97_1 : (1 : Int32).toInt = 1 := by decide
                    have hlr_97_9 : (9 : Int32).toInt = 9 := by decide
                    simp only [hlr_97_1, hlr_97_9] at p1r_97
                    obtain ⟨g_103, eg_103⟩ : ∃ z : Nat → Int, z = pp_nb B n 1 9 g_91 := ⟨_, rfl⟩
                    rw [← eg_103] at p1r_97
                    have lg_103_0 : g_103 0 = (tI M_98 2 4).toInt := p1r_97.2.1.1
                    have lg_103_1 : g_103 1 = (tI M_98 2 6).toInt := p1r_97.2.1.2.1
                    have lg_103_4 : g_103 4 = (tI M_98 1 4).toInt := p1r_97.2.2.1.1
                    have lg_103_7 : g_103 7 = (tI M_98 t 4).toInt := p1r_97.2.2.2.1.1
                    have lg_103_8 : g_103 8 = (tI M_98 t 5).toInt := p1r_97.2.2.2.1.2.1
                    have lg_103_9 : g_103 9 = (tI M_98 t 3).toInt := p1r_97.2.2.2.1.2.2
                    have tq_104 : tq t d_96 M_98 := tq_fr ht tq_95 q_100 q_102
                    refine ti_putI (ci := 8) (k := 7) (N := 12) (T := TX8) C hw iw_8 tyX8 tyX8_ok nmX8 rfl (ob_t ht) (by decide) (by decide) fl_X4_63 rfl rfl rfl rfl (fn_8 A _) fs_8_7 dX4_read_171 (fun H locs hw => ?_)
                    obtain ⟨M_105, hM_105⟩ : ∃ z : ti_M, z = uI M_98 t 7 r_97 := ⟨_, rfl⟩
                    have hw := hw.to hM_105.symm
                    have iM_105 : cI Tc M_105 := cI_uI iM_98 hM_105 (ob_t ht).1 trivial
                    have hs_106 := rC_t7x ht hM_105 p1r_97
                    have lM_105_0 : g_103 0 = (tI M_105 2 4).toInt := hs_106.2.1.1
                    have lM_105_1 : g_103 1 = (tI M_105 2 6).toInt := hs_106.2.1.2.1
                    have lM_105_4 : g_103 4 = (tI M_105 1 4).toInt := hs_106.2.2.1.1
                    have lM_105_7 : g_103 7 = (tI M_105 t 4).toInt := hs_106.2.2.2.1.1
                    have lM_105_8 : g_103 8 = (tI M_105 t 5).toInt := hs_106.2.2.2.1.2.1
                    have lM_105_9 : g_103 9 = (tI M_105 t 3).toInt := hs_106.2.2.2.1.2.2
                    have tq_107 : tq t (pp_su d_96 7 r_97.toInt) M_105 := tq_t ht tq_104 rfl hM_105 (by decide)
                    obtain ⟨d_108, ed_108⟩ : ∃ z : Nat → Int, z = pp_su d_96 7 r_97.toInt := ⟨_, rfl⟩
                    rw [← ed_108] at tq_107
                    refine lv_goto (tgt := 273) hx hb dX4_read_174 (by decide) ?_
                    exact hj_273_217 M_105 g_103 d_108 _ _ _ iM_105 (rR.trans (rr_of (rf_I hM_105)) (rR.trans (rr_of q_99) (rR.trans (rr_of (rf_I hM_93)) (rR.trans (rr_of q_87) (rR.trans (rr_of q_79) f_33))))) (f0.trans (f0_I hM_105 (f0n (ob_t ht).1 (by decide))) (f0.trans (f0_12 q_100) (f0.trans (f0_I hM_93 (f0n (ob_t ht).1 (by decide))) (f0.trans (f0_12 q_88) (f0.trans (f0_12 q_80) f_34))))) ((tI_nE hM_105 (nk (by decide))).trans ((q_101).trans ((tI_nE hM_93 (nk (by decide))).trans ((q_89).trans ((q_81).trans f_35))))) (ot.trans (ot_I ht hM_105 (by omega)) (ot.trans (ot_12 ht q_100 q_102) (ot.trans (ot_I ht hM_93 (by omega)) (ot.trans (ot_12 ht q_88 q_90) (ot.trans (ot_12 ht q_80 q_82) f_36))))) ((tT_uIE hM_105).trans ((tT_fr q_99).trans ((tT_uIE hM_93).trans ((tT_fr q_87).trans ((tT_fr q_79).trans f_37))))) hs_106 tq_107 (by unfold pp_lb; rw [if_neg (by omega), if_neg (by omega), if_neg (by omega), if_pos (by omega), ← eg_83, ← eg_91, ← eg_103]) (by unfold qq_lb; rw [if_neg (by omega), if_neg (by omega), if_neg (by omega), if_pos (by omega), ← eg_83, ← eg_91, ← p0r_85, ← p0r_97, ← ed_96, ← ed_108]) hw (lv_sub hl [0, 1, 2, 3] rfl)
                  · have qs_53_3 : x_47.toInt ≠ 3 := pt_ne s_53_3 (by decide)
                    by_cases s_53_4 : x_47 = 4
                    · have qs_53_4 : x_47.toInt = 4 := by rw [s_53_4]; decide
                      refine lv_tableIn (tgt := 177) (off := 109) hx hb dX4_read_68 (by rw [s_53_4]; decide) (by rw [s_53_4]; decide) (by rw [s_53_4]; decide) (by decide) ?_
                      refine lv_aload_n hx hb dX4_read_177 rfl (lv_at hl 1 rfl) ?_
                      refine ti_callVvE (ci := 4) (av := []) C hE hw (x_X4_once l D A cy hJ M_32 iM_32 t ht B n g_38 hs_39 (by omega)) ⟨ml_X4_53, ym_X4_once, yv_X4_once, yi_X4_once, yc_X4_once⟩ yd_X4_once ob_1 (by decide) rfl rfl hl.1 (Nat.le_of_ble_eq_true rfl) ⟨by decide, by decide⟩ ⟨Nat.zero_le _, Nat.zero_le _⟩ dX4_read_178 (fun M_110 H locs hp_110 hw => ?_)
                      obtain ⟨iM_110, q_111, q_112, q_113, q_114, p0r_109⟩ := hp_110
                      obtain ⟨g_115, eg_115⟩ : ∃ z : Nat → Int, z = pp_on B n g_38 := ⟨_, rfl⟩
                      rw [← eg_115] at p0r_109
                      have lg_115_0 : g_115 0 = (tI M_110 2 4).toInt := p0r_109.2.1.1
                      have lg_115_1 : g_115 1 = (tI M_110 2 6).toInt := p0r_109.2.1.2.1
                      have lg_115_4 : g_115 4 = (tI M_110 1 4).toInt := p0r_109.2.2.1.1
                      have lg_115_7 : g_115 7 = (tI M_110 t 4).toInt := p0r_109.2.2.2.1.1
                      have lg_115_8 : g_115 8 = (tI M_110 t 5).toInt := p0r_109.2.2.2.1.2.1
                      have lg_115_9 : g_115 9 = (tI M_110 t 3).toInt := p0r_109.2.2.2.1.2.2
                      have tq_116 : tq t d_40 M_110 := tq_fr ht tq_41 q_112 q_114
                      refine lv_aload_n hx hb dX4_read_181 rfl (lv_at hl 1 rfl) ?_
                      refine ti_get (ci := 4) (k := 1) (N := 6) (T := TX4) (v := .ref (A t 0)) C hw iw_4 rfl ob_1 (by decide) (by decide) fl_X4_28 rfl (ti_Tv ((tT_fr q_111).trans f_37)) dX4_read_182 ?_
                      refine lv_aload_n hx hb dX4_read_185 rfl (lv_at hl 1 rfl) ?_
                      refine lv_iconst (v := 1) hx hb dX4_read_186 (by decide) ?_
                      refine lv_bipush (v := 30) hx hb dX4_read_187 (by decide) ?_
                      refine ti_callViE (ci := 4) (av := [.int 1, .int 30]) C hE hw (x_X4_number l D A cy hJ M_110 iM_110 t ht 1 30 B n g_115 p0r_109) ⟨ml_X4_56, ym_X4_number, yv_X4_number, yi_X4_number, yc_X4_number⟩ yd_X4_number ob_1 (by decide) rfl rfl hl.1 (Nat.le_of_ble_eq_true rfl) ⟨by decide, by decide⟩ ⟨Nat.zero_le _, Nat.zero_le _⟩ dX4_read_189 (fun r_117 M_118 H locs hp_118 hw => ?_)
                      obtain ⟨iM_118, q_119, q_120, q_121, q_122, p0r_117, p1r_117⟩ := hp_118
                      have hlr_117_1 : (1 : Int32).toInt = 1 := by decide
                      have hlr_117_30 : (30 : Int32).toInt = 30 := by decide
                      simp only [hlr_117_1, hlr_117_30] at p1r_117
                      obtain ⟨g_123, eg_123⟩ : ∃ z : Nat → Int, z = pp_nb B n 1 30 g_115 := ⟨_, rfl⟩
                      rw [← eg_123] at p1r_117
                      have lg_123_0 : g_123 0 = (tI M_118 2 4).toInt := p1r_117.2.1.1
                      have lg_123_1 : g_123 1 = (tI M_118 2 6).toInt := p1r_117.2.1.2.1
                      have lg_123_4 : g_123 4 = (tI M_118 1 4).toInt := p1r_117.2.2.1.1
                      have lg_123_7 : g_123 7 = (tI M_118 t 4).toInt := p1r_117.2.2.2.1.1
                      have lg_123_8 : g_123 8 = (tI M_118 t 5).toInt := p1r_117.2.2.2.1.2.1
                      have lg_123_9 : g_123 9 = (tI M_118 t 3).toInt := p1r_117.2.2.2.1.2.2
                      have tq_124 : tq t d_40 M_118 := tq_fr ht tq_116 q_120 q_122
                      refine ti_putI (ci := 8) (k := 8) (N := 12) (T := TX8) C hw iw_8 tyX8 tyX8_ok nmX8 rfl (ob_t ht) (by decide) (by decide) fl_X4_66 rfl rfl rfl rfl (fn_8 A _) fs_8_8 dX4_read_192 (fun H locs hw => ?_)
                      obtain ⟨M_125, hM_125⟩ : ∃ z : ti_M, z = uI M_118 t 8 r_117 := ⟨_, rfl⟩
                      have hw := hw.to hM_125.symm
                      have iM_125 : cI Tc M_125 := cI_uI iM_118 hM_125 (ob_t ht).1 trivial
                      have hs_126 := rC_t8x ht hM_125 p1r_117
                      have lM_125_0 : g_123 0 = (tI M_125 2 4).toInt := hs_126.2.1.1
                      have lM_125_1 : g_123 1 = (tI M_125 2 6).toInt := hs_126.2.1.2.1
                      have lM_125_4 : g_123 4 = (tI M_125 1 4).toInt := hs_126.2.2.1.1
                      have lM_125_7 : g_123 7 = (tI M_125 t 4).toInt := hs_126.2.2.2.1.1
                      have lM_125_8 : g_123 8 = (tI M_125 t 5).toInt := hs_126.2.2.2.1.2.1
                      have lM_125_9 : g_123 9 = (tI M_125 t 3).toInt := hs_126.2.2.2.1.2.2
                      have tq_127 : tq t (pp_su d_40 8 r_117.toInt) M_125 := tq_t ht tq_124 rfl hM_125 (by decide)
                      obtain ⟨d_128, ed_128⟩ : ∃ z : Nat → Int, z = pp_su d_40 8 r_117.toInt := ⟨_, rfl⟩
                      rw [← ed_128] at tq_127
                      refine lv_goto (tgt := 273) hx hb dX4_read_195 (by decide) ?_
                      exact hj_273_217 M_125 g_123 d_128 _ _ _ iM_125 (rR.trans (rr_of (rf_I hM_125)) (rR.trans (rr_of q_119) (rR.trans (rr_of q_111) f_33))) (f0.trans (f0_I hM_125 (f0n (ob_t ht).1 (by decide))) (f0.trans (f0_12 q_120) (f0.trans (f0_12 q_112) f_34))) ((tI_nE hM_125 (nk (by decide))).trans ((q_121).trans ((q_113).trans f_35))) (ot.trans (ot_I ht hM_125 (by omega)) (ot.trans (ot_12 ht q_120 q_122) (ot.trans (ot_12 ht q_112 q_114) f_36))) ((tT_uIE hM_125).trans ((tT_fr q_119).trans ((tT_fr q_111).trans f_37))) hs_126 tq_127 (by unfold pp_lb; rw [if_neg (by omega), if_neg (by omega), if_neg (by omega), if_neg (by omega), if_pos (by omega), ← eg_115, ← eg_123]) (by unfold qq_lb; rw [if_neg (by omega), if_neg (by omega), if_neg (by omega), if_neg (by omega), if_pos (by omega), ← eg_115, ← p0r_117, ← ed_128]) hw (lv_sub hl [0, 1, 2, 3] rfl)
                    · have qs_53_4 : x_47.toInt ≠ 4 := pt_ne s_53_4 (by decide)
                      by_cases s_53_5 : x_47 = 5
                      · have qs_53_5 : x_47.toInt = 5 := by rw [s_53_5]; decide
                        refine lv_tableIn (tgt := 198) (off := 130) hx hb dX4_read_68 (by rw [s_53_5]; decide) (by rw [s_53_5]; decide) (by rw [s_53_5]; decide) (by decide) ?_
                        refine lv_aload_n hx hb dX4_read_198 rfl (lv_at hl 1 rfl) ?_
                        refine ti_callVvE (ci := 4) (av := []) C hE hw (x_X4_once l D A cy hJ M_32 iM_32 t ht B n g_38 hs_39 (by omega)) ⟨ml_X4_53, ym_X4_once, yv_X4_once, yi_X4_once, yc_X4_once⟩ yd_X4_once ob_1 (by decide) rfl rfl hl.1 (Nat.le_of_ble_eq_true rfl) ⟨by decide, by decide⟩ ⟨Nat.zero_le _, Nat.zero_le _⟩ dX4_read_199 (fun M_130 H locs hp_130 hw => ?_)
                        obtain ⟨iM_130, q_131, q_132, q_133, q_134, p0r_129⟩ := hp_130
                        obtain ⟨g_135, eg_135⟩ : ∃ z : Nat → Int, z = pp_on B n g_38 := ⟨_, rfl⟩
                        rw [← eg_135] at p0r_129
                        have lg_135_0 : g_135 0 = (tI M_130 2 4).toInt := p0r_129.2.1.1
                        have lg_135_1 : g_135 1 = (tI M_130 2 6).toInt := p0r_129.2.1.2.1
                        have lg_135_4 : g_135 4 = (tI M_130 1 4).toInt := p0r_129.2.2.1.1
                        have lg_135_7 : g_135 7 = (tI M_130 t 4).toInt := p0r_129.2.2.2.1.1
                        have lg_135_8 : g_135 8 = (tI M_130 t 5).toInt := p0r_129.2.2.2.1.2.1
                        have lg_135_9 : g_135 9 = (tI M_130 t 3).toInt := p0r_129.2.2.2.1.2.2
                        have tq_136 : tq t d_40 M_130 := tq_fr ht tq_41 q_132 q_134
                        refine lv_aload_n hx hb dX4_read_202 rfl (lv_at hl 1 rfl) ?_
                        refine ti_get (ci := 4) (k := 1) (N := 6) (T := TX4) (v := .ref (A t 0)) C hw iw_4 rfl ob_1 (by decide) (by decide) fl_X4_28 rfl (ti_Tv ((tT_fr q_131).trans f_37)) dX4_read_203 ?_
                        refine lv_aload_n hx hb dX4_read_206 rfl (lv_at hl 1 rfl) ?_
                        refine lv_iconst (v := 1) hx hb dX4_read_207 (by decide) ?_
                        refine lv_bipush (v := 7) hx hb dX4_read_208 (by decide) ?_
                        refine ti_callViE (ci := 4) (av := [.int 1, .int 7]) C hE hw (x_X4_number l D A cy hJ M_130 iM_130 t ht 1 7 B n g_135 p0r_129) ⟨ml_X4_56, ym_X4_number, yv_X4_number, yi_X4_number, yc_X4_number⟩ yd_X4_number ob_1 (by decide) rfl rfl hl.1 (Nat.le_of_ble_eq_true rfl) ⟨by decide, by decide⟩ ⟨Nat.zero_le _, Nat.zero_le _⟩ dX4_read_210 (fun r_137 M_138 H locs hp_138 hw => ?_)
                        obtain ⟨iM_138, q_139, q_140, q_141, q_142, p0r_137, p1r_137⟩ := hp_138
                        have hlr_137_1 : (1 : Int32).toInt = 1 := by decide
                        have hlr_137_7 : (7 : Int32).toInt = 7 := by decide
                        simp only [hlr_137_1, hlr_137_7] at p1r_137
                        obtain ⟨g_143, eg_143⟩ : ∃ z : Nat → Int, z = pp_nb B n 1 7 g_135 := ⟨_, rfl⟩
                        rw [← eg_143] at p1r_137
                        have lg_143_0 : g_143 0 = (tI M_138 2 4).toInt := p1r_137.2.1.1
                        have lg_143_1 : g_143 1 = (tI M_138 2 6).toInt := p1r_137.2.1.2.1
                        have lg_143_4 : g_143 4 = (tI M_138 1 4).toInt := p1r_137.2.2.1.1
                        have lg_143_7 : g_143 7 = (tI M_138 t 4).toInt := p1r_137.2.2.2.1.1
                        have lg_143_8 : g_143 8 = (tI M_138 t 5).toInt := p1r_137.2.2.2.1.2.1
                        have lg_143_9 : g_143 9 = (tI M_138 t 3).toInt := p1r_137.2.2.2.1.2.2
                        have tq_144 : tq t d_40 M_138 := tq_fr ht tq_136 q_140 q_142
                        refine ti_putI (ci := 8) (k := 9) (N := 12) (T := TX8) C hw iw_8 tyX8 tyX8_ok nmX8 rfl (ob_t ht) (by decide) (by decide) fl_X4_69 rfl rfl rfl rfl (fn_8 A _) fs_8_9 dX4_read_213 (fun H locs hw => ?_)
                        obtain ⟨M_145, hM_145⟩ : ∃ z : ti_M, z = uI M_138 t 9 r_137 := ⟨_, rfl⟩
                        have hw := hw.to hM_145.symm
                        have iM_145 : cI Tc M_145 := cI_uI iM_138 hM_145 (ob_t ht).1 trivial
                        have hs_146 := rC_t9x ht hM_145 p1r_137
                        have lM_145_0 : g_143 0 = (tI M_145 2 4).toInt := hs_146.2.1.1
                        have lM_145_1 : g_143 1 = (tI M_145 2 6).toInt := hs_146.2.1.2.1
                        have lM_145_4 : g_143 4 = (tI M_145 1 4).toInt := hs_146.2.2.1.1
                        have lM_145_7 : g_143 7 = (tI M_145 t 4).toInt := hs_146.2.2.2.1.1
                        have lM_145_8 : g_143 8 = (tI M_145 t 5).toInt := hs_146.2.2.2.1.2.1
                        have lM_145_9 : g_143 9 = (tI M_145 t 3).toInt := hs_146.2.2.2.1.2.2
                        have tq_147 : tq t (pp_su d_40 9 r_137.toInt) M_145 := tq_t ht tq_144 rfl hM_145 (by decide)
                        obtain ⟨d_148, ed_148⟩ : ∃ z : Nat → Int, z = pp_su d_40 9 r_137.toInt := ⟨_, rfl⟩
                        rw [← ed_148] at tq_147
                        refine lv_goto (tgt := 273) hx hb dX4_read_216 (by decide) ?_
                        exact hj_273_217 M_145 g_143 d_148 _ _ _ iM_145 (rR.trans (rr_of (rf_I hM_145)) (rR.trans (rr_of q_139) (rR.trans (rr_of q_131) f_33))) (f0.trans (f0_I hM_145 (f0n (ob_t ht).1 (by decide))) (f0.trans (f0_12 q_140) (f0.trans (f0_12 q_132) f_34))) ((tI_nE hM_145 (nk (by decide))).trans ((q_141).trans ((q_133).trans f_35))) (ot.trans (ot_I ht hM_145 (by omega)) (ot.trans (ot_12 ht q_140 q_142) (ot.trans (ot_12 ht q_132 q_134) f_36))) ((tT_uIE hM_145).trans ((tT_fr q_139).trans ((tT_fr q_131).trans f_37))) hs_146 tq_147 (by unfold pp_lb; rw [if_neg (by omega), if_neg (by omega), if_neg (by omega), if_neg (by omega), if_neg (by omega), if_pos (by omega), ← eg_135, ← eg_143]) (by unfold qq_lb; rw [if_neg (by omega), if_neg (by omega), if_neg (by omega), if_neg (by omega), if_neg (by omega), if_pos (by omega), ← eg_135, ← p0r_137, ← ed_148]) hw (lv_sub hl [0, 1, 2, 3] rfl)
                      · have qs_53_5 : x_47.toInt ≠ 5 := pt_ne s_53_5 (by decide)
                        by_cases s_53_6 : x_47 = 6
                        · have qs_53_6 : x_47.toInt = 6 := by rw [s_53_6]; decide
                          refine lv_tableIn (tgt := 219) (off := 151) hx hb dX4_read_68 (by rw [s_53_6]; decide) (by rw [s_53_6]; decide) (by rw [s_53_6]; decide) (by decide) ?_
                          refine lv_aload_n hx hb dX4_read_219 rfl (lv_at hl 1 rfl) ?_
                          refine ti_callVvE (ci := 4) (av := []) C hE hw (x_X4_once l D A cy hJ M_32 iM_32 t ht B n g_38 hs_39 (by omega)) ⟨ml_X4_53, ym_X4_once, yv_X4_once, yi_X4_once, yc_X4_once⟩ yd_X4_once ob_1 (by decide) rfl rfl hl.1 (Nat.le_of_ble_eq_true rfl) ⟨by decide, by decide⟩ ⟨Nat.zero_le _, Nat.zero_le _⟩ dX4_read_220 (fun M_150 H locs hp_150 hw => ?_)
                          obtain ⟨iM_150, q_151, q_152, q_153, q_154, p0r_149⟩ := hp_150
                          obtain ⟨g_155, eg_155⟩ : ∃ z : Nat → Int, z = pp_on B n g_38 := ⟨_, rfl⟩
                          rw [← eg_155] at p0r_149
                          have lg_155_0 : g_155 0 = (tI M_150 2 4).toInt := p0r_149.2.1.1
                          have lg_155_1 : g_155 1 = (tI M_150 2 6).toInt := p0r_149.2.1.2.1
                          have lg_155_4 : g_155 4 = (tI M_150 1 4).toInt := p0r_149.2.2.1.1
                          have lg_155_7 : g_155 7 = (tI M_150 t 4).toInt := p0r_149.2.2.2.1.1
                          have lg_155_8 : g_155 8 = (tI M_150 t 5).toInt := p0r_149.2.2.2.1.2.1
                          have lg_155_9 : g_155 9 = (tI M_150 t 3).toInt := p0r_149.2.2.2.1.2.2
                          have tq_156 : tq t d_40 M_150 := tq_fr ht tq_41 q_152 q_154
                          refine lv_aload_n hx hb dX4_read_223 rfl (lv_at hl 1 rfl) ?_
                          refine ti_get (ci := 4) (k := 1) (N := 6) (T := TX4) (v := .ref (A t 0)) C hw iw_4 rfl ob_1 (by decide) (by decide) fl_X4_28 rfl (ti_Tv ((tT_fr q_151).trans f_37)) dX4_read_224 ?_
                          refine lv_aload_n hx hb dX4_read_227 rfl (lv_at hl 1 rfl) ?_
                          refine lv_iconst (v := 0) hx hb dX4_read_228 (by decide) ?_
                          refine lv_bipush (v := 99) hx hb dX4_read_229 (by decide) ?_
                          refine ti_callViE (ci := 4) (av := [.int 0, .int 99]) C hE hw (x_X4_number l D A cy hJ M_150 iM_150 t ht 0 99 B n g_155 p0r_149) ⟨ml_X4_56, ym_X4_number, yv_X4_number, yi_X4_number, yc_X4_number⟩ yd_X4_number ob_1 (by decide) rfl rfl hl.1 (Nat.le_of_ble_eq_true rfl) ⟨by decide, by decide⟩ ⟨Nat.zero_le _, Nat.zero_le _⟩ dX4_read_231 (fun r_157 M_158 H locs hp_158 hw => ?_)
                          obtain ⟨iM_158, q_159, q_160, q_161, q_162, p0r_157, p1r_157⟩ := hp_158
                          have hlr_157_0 : (0 : Int32).toInt = 0 := by decide
                          have hlr_157_99 : (99 : Int32).toInt = 99 := by decide
                          simp only [hlr_157_0, hlr_157_99] at p1r_157
                          obtain ⟨g_163, eg_163⟩ : ∃ z : Nat → Int, z = pp_nb B n 0 99 g_155 := ⟨_, rfl⟩
                          rw [← eg_163] at p1r_157
                          have lg_163_0 : g_163 0 = (tI M_158 2 4).toInt := p1r_157.2.1.1
                          have lg_163_1 : g_163 1 = (tI M_158 2 6).toInt := p1r_157.2.1.2.1
                          have lg_163_4 : g_163 4 = (tI M_158 1 4).toInt := p1r_157.2.2.1.1
                          have lg_163_7 : g_163 7 = (tI M_158 t 4).toInt := p1r_157.2.2.2.1.1
                          have lg_163_8 : g_163 8 = (tI M_158 t 5).toInt := p1r_157.2.2.2.1.2.1
                          have lg_163_9 : g_163 9 = (tI M_158 t 3).toInt := p1r_157.2.2.2.1.2.2
                          have tq_164 : tq t d_40 M_158 := tq_fr ht tq_156 q_160 q_162
                          refine ti_putI (ci := 8) (k := 10) (N := 12) (T := TX8) C hw iw_8 tyX8 tyX8_ok nmX8 rfl (ob_t ht) (by decide) (by decide) fl_X4_72 rfl rfl rfl rfl (fn_8 A _) fs_8_10 dX4_read_234 (fun H locs hw => ?_)
                          obtain ⟨M_165, hM_165⟩ : ∃ z : ti_M, z = uI M_158 t 10 r_157 := ⟨_, rfl⟩
                          have hw := hw.to hM_165.symm
                          have iM_165 : cI Tc M_165 := cI_uI iM_158 hM_165 (ob_t ht).1 trivial
                          have hs_166 := rC_t10x ht hM_165 p1r_157
                          have lM_165_0 : g_163 0 = (tI M_165 2 4).toInt := hs_166.2.1.1
                          have lM_165_1 : g_163 1 = (tI M_165 2 6).toInt := hs_166.2.1.2.1
                          have lM_165_4 : g_163 4 = (tI M_165 1 4).toInt := hs_166.2.2.1.1
                          have lM_165_7 : g_163 7 = (tI M_165 t 4).toInt := hs_166.2.2.2.1.1
                          have lM_165_8 : g_163 8 = (tI M_165 t 5).toInt := hs_166.2.2.2.1.2.1
                          have lM_165_9 : g_163 9 = (tI M_165 t 3).toInt := hs_166.2.2.2.1.2.2
                          have tq_167 : tq t (pp_su d_40 10 r_157.toInt) M_165 := tq_t ht tq_164 rfl hM_165 (by decide)
                          obtain ⟨d_168, ed_168⟩ : ∃ z : Nat → Int, z = pp_su d_40 10 r_157.toInt := ⟨_, rfl⟩
                          rw [← ed_168] at tq_167
                          refine lv_goto (tgt := 273) hx hb dX4_read_237 (by decide) ?_
                          exact hj_273_217 M_165 g_163 d_168 _ _ _ iM_165 (rR.trans (rr_of (rf_I hM_165)) (rR.trans (rr_of q_159) (rR.trans (rr_of q_151) f_33))) (f0.trans (f0_I hM_165 (f0n (ob_t ht).1 (by decide))) (f0.trans (f0_12 q_160) (f0.trans (f0_12 q_152) f_34))) ((tI_nE hM_165 (nk (by decide))).trans ((q_161).trans ((q_153).trans f_35))) (ot.trans (ot_I ht hM_165 (by omega)) (ot.trans (ot_12 ht q_160 q_162) (ot.trans (ot_12 ht q_152 q_154) f_36))) ((tT_uIE hM_165).trans ((tT_fr q_159).trans ((tT_fr q_151).trans f_37))) hs_166 tq_167 (by unfold pp_lb; rw [if_neg (by omega), if_neg (by omega), if_neg (by omega), if_neg (by omega), if_neg (by omega), if_neg (by omega), if_pos (by omega), ← eg_155, ← eg_163]) (by unfold qq_lb; rw [if_neg (by omega), if_neg (by omega), if_neg (by omega), if_neg (by omega), if_neg (by omega), if_neg (by omega), if_pos (by omega), ← eg_155, ← p0r_157, ← ed_168]) hw (lv_sub hl [0, 1, 2, 3] rfl)
                        · have qs_53_6 : x_47.toInt ≠ 6 := pt_ne s_53_6 (by decide)
                          by_cases s_53_7 : x_47 = 7
                          · have qs_53_7 : x_47.toInt = 7 := by rw [s_53_7]; decide
                            refine lv_tableIn (tgt := 240) (off := 172) hx hb dX4_read_68 (by rw [s_53_7]; decide) (by rw [s_53_7]; decide) (by rw [s_53_7]; decide) (by decide) ?_
                            refine lv_aload_n hx hb dX4_read_240 rfl (lv_at hl 1 rfl) ?_
                            refine ti_callVvE (ci := 4) (av := []) C hE hw (x_X4_once l D A cy hJ M_32 iM_32 t ht B n g_38 hs_39 (by omega)) ⟨ml_X4_53, ym_X4_once, yv_X4_once, yi_X4_once, yc_X4_once⟩ yd_X4_once ob_1 (by decide) rfl rfl hl.1 (Nat.le_of_ble_eq_true rfl) ⟨by decide, by decide⟩ ⟨Nat.zero_le _, Nat.zero_le _⟩ dX4_read_241 (fun M_170 H locs hp_170 hw => ?_)
                            obtain ⟨iM_170, q_171, q_172, q_173, q_174, p0r_169⟩ := hp_170
                            obtain ⟨g_175, eg_175⟩ : ∃ z : Nat → Int, z = pp_on B n g_38 := ⟨_, rfl⟩
                            rw [← eg_175] at p0r_169
                            have lg_175_0 : g_175 0 = (tI M_170 2 4).toInt := p0r_169.2.1.1
                            have lg_175_1 : g_175 1 = (tI M_170 2 6).toInt := p0r_169.2.1.2.1
                            have lg_175_4 : g_175 4 = (tI M_170 1 4).toInt := p0r_169.2.2.1.1
                            have lg_175_7 : g_175 7 = (tI M_170 t 4).toInt := p0r_169.2.2.2.1.1
                            have lg_175_8 : g_175 8 = (tI M_170 t 5).toInt := p0r_169.2.2.2.1.2.1
                            have lg_175_9 : g_175 9 = (tI M_170 t 3).toInt := p0r_169.2.2.2.1.2.2
                            have tq_176 : tq t d_40 M_170 := tq_fr ht tq_41 q_172 q_174
                            refine lv_aload_n hx hb dX4_read_244 rfl (lv_at hl 1 rfl) ?_
                            refine ti_get (ci := 4) (k := 1) (N := 6) (T := TX4) (v := .ref (A t 0)) C hw iw_4 rfl ob_1 (by decide) (by decide) fl_X4_28 rfl (ti_Tv ((tT_fr q_171).trans f_37)) dX4_read_245 ?_
                            refine lv_aload_n hx hb dX4_read_248 rfl (lv_at hl 1 rfl) ?_
                            refine lv_iconst (v := 0) hx hb dX4_read_249 (by decide) ?_
                            refine lv_ldc (v := 99999) hx hb C.2.2.2.1 (C.2.2.1 _ cn_X4_75) dX4_read_250 ?_
                            refine ti_callViE (ci := 4) (av := [.int 0, .int 99999]) C hE hw (x_X4_number l D A cy hJ M_170 iM_170 t ht 0 99999 B n g_175 p0r_169) ⟨ml_X4_56, ym_X4_number, yv_X4_number, yi_X4_number, yc_X4_number⟩ yd_X4_number ob_1 (by decide) rfl rfl hl.1 (Nat.le_of_ble_eq_true rfl) ⟨by decide, by decide⟩ ⟨Nat.zero_le _, Nat.zero_le _⟩ dX4_read_252 (fun r_177 M_178 H locs hp_178 hw => ?_)
                            obtain ⟨iM_178, q_179, q_180, q_181, q_182, p0r_177, p1r_177⟩ := hp_178
                            have hlr_177_0 : (0 : Int32).toInt = 0 := by decide
                            have hlr_177_99999 : (99999 : Int32).toInt = 99999 := by decide
                            simp only [hlr_177_0, hlr_177_99999] at p1r_177
                            obtain ⟨g_183, eg_183⟩ : ∃ z : Nat → Int, z = pp_nb B n 0 99999 g_175 := ⟨_, rfl⟩
                            rw [← eg_183] at p1r_177
                            have lg_183_0 : g_183 0 = (tI M_178 2 4).toInt := p1r_177.2.1.1
                            have lg_183_1 : g_183 1 = (tI M_178 2 6).toInt := p1r_177.2.1.2.1
                            have lg_183_4 : g_183 4 = (tI M_178 1 4).toInt := p1r_177.2.2.1.1
                            have lg_183_7 : g_183 7 = (tI M_178 t 4).toInt := p1r_177.2.2.2.1.1
                            have lg_183_8 : g_183 8 = (tI M_178 t 5).toInt := p1r_177.2.2.2.1.2.1
                            have lg_183_9 : g_183 9 = (tI M_178 t 3).toInt := p1r_177.2.2.2.1.2.2
                            have tq_184 : tq t d_40 M_178 := tq_fr ht tq_176 q_180 q_182
                            refine ti_putI (ci := 8) (k := 11) (N := 12) (T := TX8) C hw iw_8 tyX8 tyX8_ok nmX8 rfl (ob_t ht) (by decide) (by decide) fl_X4_76 rfl rfl rfl rfl (fn_8 A _) fs_8_11 dX4_read_255 (fun H locs hw => ?_)
                            obtain ⟨M_185, hM_185⟩ : ∃ z : ti_M, z = uI M_178 t 11 r_177 := ⟨_, rfl⟩
                            have hw := hw.to hM_185.symm
                            have iM_185 : cI Tc M_185 := cI_uI iM_178 hM_185 (ob_t ht).1 trivial
                            have hs_186 := rC_t11x ht hM_185 p1r_177
                            have lM_185_0 : g_183 0 = (tI M_185 2 4).toInt := hs_186.2.1.1
                            have lM_185_1 : g_183 1 = (tI M_185 2 6).toInt := hs_186.2.1.2.1
                            have lM_185_4 : g_183 4 = (tI M_185 1 4).toInt := hs_186.2.2.1.1
                            have lM_185_7 : g_183 7 = (tI M_185 t 4).toInt := hs_186.2.2.2.1.1
                            have lM_185_8 : g_183 8 = (tI M_185 t 5).toInt := hs_186.2.2.2.1.2.1
                            have lM_185_9 : g_183 9 = (tI M_185 t 3).toInt := hs_186.2.2.2.1.2.2
                            have tq_187 : tq t (pp_su d_40 11 r_177.toInt) M_185 := tq_t ht tq_184 rfl hM_185 (by decide)
                            obtain ⟨d_188, ed_188⟩ : ∃ z : Nat → Int, z = pp_su d_40 11 r_177.toInt := ⟨_, rfl⟩
                            rw [← ed_188] at tq_187
                            refine lv_goto (tgt := 273) hx hb dX4_read_258 (by decide) ?_
                            exact hj_273_217 M_185 g_183 d_188 _ _ _ iM_185 (rR.trans (rr_of (rf_I hM_185)) (rR.trans (rr_of q_179) (rR.trans (rr_of q_171) f_33))) (f0.trans (f0_I hM_185 (f0n (ob_t ht).1 (by decide))) (f0.trans (f0_12 q_180) (f0.trans (f0_12 q_172) f_34))) ((tI_nE hM_185 (nk (by decide))).trans ((q_181).trans ((q_173).trans f_35))) (ot.trans (ot_I ht hM_185 (by omega)) (ot.trans (ot_12 ht q_180 q_182) (ot.trans (ot_12 ht q_172 q_174) f_36))) ((tT_uIE hM_185).trans ((tT_fr q_179).trans ((tT_fr q_171).trans f_37))) hs_186 tq_187 (by unfold pp_lb; rw [if_neg (by omega), if_neg (by omega), if_neg (by omega), if_neg (by omega), if_neg (by omega), if_neg (by omega), if_neg (by omega), if_pos (by omega), ← eg_175, ← eg_183]) (by unfold qq_lb; rw [if_neg (by omega), if_neg (by omega), if_neg (by omega), if_neg (by omega), if_neg (by omega), if_neg (by omega), if_neg (by omega), if_pos (by omega), ← eg_175, ← p0r_177, ← ed_188]) hw (lv_sub hl [0, 1, 2, 3] rfl)
                          · have qs_53_7 : x_47.toInt ≠ 7 := pt_ne s_53_7 (by decide)
                            by_cases s_53_8 : x_47 = 8
                            · have qs_53_8 : x_47.toInt = 8 := by rw [s_53_8]; decide
                              refine lv_tableIn (tgt := 261) (off := 193) hx hb dX4_read_68 (by rw [s_53_8]; decide) (by rw [s_53_8]; decide) (by rw [s_53_8]; decide) (by decide) ?_
                              refine lv_aload_n hx hb dX4_read_261 rfl (lv_at hl 1 rfl) ?_
                              refine ti_callVvE (ci := 4) (av := []) C hE hw (x_X4_readLaw l D A cy hJ M_32 iM_32 t ht (f_37) B n g_38 hs_39 d_40 tq_41) ⟨ml_X4_79, ym_X4_readLaw, yv_X4_readLaw, yi_X4_readLaw, yc_X4_readLaw⟩ yd_X4_readLaw ob_1 (by decide) rfl rfl hl.1 (Nat.le_of_ble_eq_true rfl) ⟨by decide, by decide⟩ ⟨Nat.zero_le _, Nat.zero_le _⟩ dX4_read_262 (fun M_190 H locs hp_190 hw => ?_)
                              obtain ⟨iM_190, q_191, q_192, q_193, q_194, q_195, p0r_189, p1r_189⟩ := hp_190
                              obtain ⟨g_196, eg_196⟩ : ∃ z : Nat → Int, z = pp_lw B n g_38 := ⟨_, rfl⟩
                              rw [← eg_196] at p0r_189
                              have lg_196_0 : g_196 0 = (tI M_190 2 4).toInt := p0r_189.2.1.1
                              have lg_196_1 : g_196 1 = (tI M_190 2 6).toInt := p0r_189.2.1.2.1
                              have lg_196_4 : g_196 4 = (tI M_190 1 4).toInt := p0r_189.2.2.1.1
                              have lg_196_7 : g_196 7 = (tI M_190 t 4).toInt := p0r_189.2.2.2.1.1
                              have lg_196_8 : g_196 8 = (tI M_190 t 5).toInt := p0r_189.2.2.2.1.2.1
                              have lg_196_9 : g_196 9 = (tI M_190 t 3).toInt := p0r_189.2.2.2.1.2.2
                              obtain ⟨d_197, ed_197⟩ : ∃ z : Nat → Int, z = qq_lw B n g_38 d_40 := ⟨_, rfl⟩
                              rw [← ed_197] at p1r_189
                              refine lv_goto (tgt := 273) hx hb dX4_read_265 (by decide) ?_
                              exact hj_273_217 M_190 g_196 d_197 _ _ _ iM_190 (rR.trans q_191 f_33) (f0.trans q_192 f_34) ((q_193).trans f_35) (ot.trans q_195 f_36) ((q_194).trans f_37) p0r_189 p1r_189 (by unfold pp_lb; rw [if_neg (by omega), if_neg (by omega), if_neg (by omega), if_neg (by omega), if_neg (by omega), if_neg (by omega), if_neg (by omega), if_neg (by omega), if_pos (by omega), ← eg_196]) (by unfold qq_lb; rw [if_neg (by omega), if_neg (by omega), if_neg (by omega), if_neg (by omega), if_neg (by omega), if_neg (by omega), if_neg (by omega), if_neg (by omega), if_pos (by omega), ← ed_197]) hw (lv_sub hl [0, 1, 2, 3] rfl)
                            · have qs_53_8 : x_47.toInt ≠ 8 := pt_ne s_53_8 (by decide)
                              refine lv_tableOut (tgt := 268) hx hb dX4_read_68 (ti_out (lo := 0) (hi := 8) x_47 (fun v h1 h2 => by rcases (show v = 0 ∨ v = 1 ∨ v = 2 ∨ v = 3 ∨ v = 4 ∨ v = 5 ∨ v = 6 ∨ v = 7 ∨ v = 8 by omega) with rfl | rfl | rfl | rfl | rfl | rfl | rfl | rfl | rfl <;> first | exact ti_nev 0 s_53_0 (by decide) | exact ti_nev 1 s_53_1 (by decide) | exact ti_nev 2 s_53_2 (by decide) | exact ti_nev 3 s_53_3 (by decide) | exact ti_nev 4 s_53_4 (by decide) | exact ti_nev 5 s_53_5 (by decide) | exact ti_nev 6 s_53_6 (by decide) | exact ti_nev 7 s_53_7 (by decide) | exact ti_nev 8 s_53_8 (by decide))) (by decide) ?_
                              refine lv_aload_n hx hb dX4_read_268 rfl (lv_at hl 1 rfl) ?_
                              refine lv_iconst (v := 1) hx hb dX4_read_269 (by decide) ?_
                              refine ti_callVv (ci := 4) (av := [.int 1]) C hw (x_X4_refuse l D A cy hJ M_32 iM_32 t ht 1 B n g_38 hs_39) ⟨ml_X4_82, ym_X4_refuse, yv_X4_refuse, yi_X4_refuse, yc_X4_refuse⟩ yd_X4_refuse ob_1 (by decide) rfl rfl hl.1 (Nat.le_of_ble_eq_true rfl) ⟨by decide, by decide⟩ ⟨Nat.zero_le _, Nat.zero_le _⟩ dX4_read_270 (fun M_199 H locs hp_199 hw => ?_)
                              obtain ⟨iM_199, q_200, q_201, q_202, q_203, p0r_198⟩ := hp_199
                              have hlr_198_1 : (1 : Int32).toInt = 1 := by decide
                              simp only [hlr_198_1] at p0r_198
                              obtain ⟨g_204, eg_204⟩ : ∃ z : Nat → Int, z = pp_rf 1 g_38 := ⟨_, rfl⟩
                              rw [← eg_204] at p0r_198
                              have lg_204_0 : g_204 0 = (tI M_199 2 4).toInt := p0r_198.2.1.1
                              have lg_204_1 : g_204 1 = (tI M_199 2 6).toInt := p0r_198.2.1.2.1
                              have lg_204_4 : g_204 4 = (tI M_199 1 4).toInt := p0r_198.2.2.1.1
                              have lg_204_7 : g_204 7 = (tI M_199 t 4).toInt := p0r_198.2.2.2.1.1
                              have lg_204_8 : g_204 8 = (tI M_199 t 5).toInt := p0r_198.2.2.2.1.2.1
                              have lg_204_9 : g_204 9 = (tI M_199 t 3).toInt := p0r_198.2.2.2.1.2.2
                              have tq_205 : tq t d_40 M_199 := tq_fr ht tq_41 q_201 q_203
                              exact hj_273_217 M_199 g_204 d_40 _ _ _ iM_199 (rR.trans (rr_of q_200) f_33) (f0.trans (f0_12 q_201) f_34) ((q_202).trans f_35) (ot.trans (ot_12 ht q_201 q_203) f_36) ((tT_fr q_200).trans f_37) p0r_198 tq_205 (by unfold pp_lb; rw [if_neg (by omega), if_neg (by omega), if_neg (by omega), if_neg (by omega), if_neg (by omega), if_neg (by omega), if_neg (by omega), if_neg (by omega), if_neg (by omega), ← eg_204]) (by unfold qq_lb; rw [if_neg (by omega), if_neg (by omega), if_neg (by omega), if_neg (by omega), if_neg (by omega), if_neg (by omega), if_neg (by omega), if_neg (by omega), if_neg (by omega)]) hw (lv_sub hl [0, 1, 2, 3] rfl)
  exact hl_37_44 ((701 - 0 : Int).toNat + 1) 0 M_23 g_27 d_12 _ _ _ (Nat.lt_succ_self _) (by have lt0 : (0 : Int32).toInt = 0 := (by decide); first | omega | decide) (by have lt0 : (0 : Int32).toInt = 0 := (by decide); first | omega | decide) iM_23 (rR.trans (rr_of q_24) (rR.trans (rr_of (rf_I hM_19)) (rR.trans (rr_of (rf_I hM_16)) (rR.trans (rr_of (rf_I hM_13)) (rR.trans (rr_of q_5) (rr_T hM_1)))))) (f0.trans (f0_12 (o2_12 q_25)) (f0.trans (f0_I hM_19 (by decide)) (f0.trans (f0_I hM_16 (by decide)) (f0.trans (f0_I hM_13 (by decide)) (f0.trans q_6 (f0_of (ra_T hM_1))))))) ((q_26).trans ((tI_nE hM_19 (nk (by decide))).trans ((tI_nE hM_16 (nk (by decide))).trans ((tI_nE hM_13 (nk (by decide))).trans ((q_7).trans (tI_uTE hM_1)))))) (ot.trans (ot_12 ht (o2_12 q_25) y0M_23) (ot.trans (ot_I ht hM_19 (by omega)) (ot.trans (ot_I ht hM_16 (by omega)) (ot.trans (ot_I ht hM_13 (by omega)) (ot.trans q_11 (ot_of (ra_T hM_1) (ry_T hM_1))))))) ((tT_fr q_24).trans ((tT_uIE hM_19).trans ((tT_uIE hM_16).trans ((tT_uIE hM_13).trans ((tT_fr q_5).trans (tT_uE hM_1)))))) hs0 tq_28 (by unfold pp_tx; rw [← eg_27]; rfl) (by unfold qq_tx; rw [← eg_27, ← ed_12]; rfl) (by have lt0 : (0 : Int32).toInt = 0 := (by decide); first | omega | decide) hw (lv_sub hl [0, 1, 2, 3] rfl)

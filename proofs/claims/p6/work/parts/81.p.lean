section
variable {Tc : gC} {Tm : gM}
set_option maxHeartbeats 4000000 in
set_option maxRecDepth 100000 in
theorem x_X4_readLaw (l : Launch) (D : va_G) (A : Nat → Nat → Nat) (cy : Nat → ClassId) (hJ : ti_inj ti_LT A) (M : ti_M) (hI : cI Tc M) (t : Nat) (ht : t = 3 ∨ t = 4) (hT : tT M 1 1 = some t) (B : Nat → Int) (n : Nat) (rg : Nat → Int) (hr : rC B n t rg M) (td : Nat → Int) (hq : tq t td M) : ti_KvE l yX4_readLaw cX4_readLaw 2 71 ti_LT D A cy M [.ref (A 1 0)] (fun M2 => cI Tc M2 ∧ rR M2 M ∧ f0 M2 M ∧ tI M2 2 1 = tI M 2 1 ∧ tT M2 1 1 = tT M 1 1 ∧ ot t M2 M ∧ rC B n t (pp_lw B n rg) M2 ∧ tq t (qq_lw B n rg td) M2) := by
  refine ti_eVE yp_X4_readLaw hJ ti_LT_nd (Nat.le_of_ble_eq_true rfl) ?_
  intro p e s m args below meth c Q H0 C hE hQ hw ls hl
  have hx := C.1
  have hb := C.2.1
  have hl : lv_has ls 2 [(0, .ref (A 1 0))] := hl
  have l0 : rg 0 = (tI M 2 4).toInt := hr.2.1.1
  have l1 : rg 1 = (tI M 2 6).toInt := hr.2.1.2.1
  have l2 : rg 2 = (tI M 2 5).toInt := hr.2.1.2.2.1
  have l3 : rg 3 = (tI M 2 3).toInt := hr.2.1.2.2.2
  have l4 : rg 4 = (tI M 1 4).toInt := hr.2.2.1.1
  have l5 : rg 5 = (tI M 1 5).toInt := hr.2.2.1.2.1
  have l7 : rg 7 = (tI M t 4).toInt := hr.2.2.2.1.1
  have l8 : rg 8 = (tI M t 5).toInt := hr.2.2.2.1.2.1
  have l9 : rg 9 = (tI M t 3).toInt := hr.2.2.2.1.2.2
  refine lv_aload_n hx hb dX4_readLaw_0 rfl (lv_at hl 0 rfl) ?_
  refine ti_get (ci := 4) (k := 0) (N := 6) (T := TX4) (v := .ref (A 2 0)) C hw iw_4 rfl ob_1 (by decide) (by decide) fl_X4_12 rfl rfl dX4_readLaw_1 ?_
  refine ti_callVvE (ci := 7) (av := []) C hE hw (x_X7_advance l D A cy hJ M hI ) ⟨ml_X4_92, ym_X7_advance, yv_X7_advance, yi_X7_advance, yc_X7_advance⟩ yd_X7_advance ob_2 (by decide) rfl rfl hl.1 (Nat.le_of_ble_eq_true rfl) ⟨by decide, by decide⟩ ⟨Nat.zero_le _, Nat.zero_le _⟩ dX4_readLaw_4 (fun M_2 H locs hp_2 hw => ?_)
  obtain ⟨iM_2, q_3, q_4, q_5, q_6, p0r_1, p1r_1, p2r_1, p3r_1⟩ := hp_2
  have hs_7 := rC_av ht hr q_6 q_4 p0r_1 p1r_1 p2r_1 p3r_1
  obtain ⟨g_8, eg_8⟩ : ∃ z : Nat → Int, z = pp_av B n rg := ⟨_, rfl⟩
  rw [← eg_8] at hs_7
  have lg_8_0 : g_8 0 = (tI M_2 2 4).toInt := hs_7.2.1.1
  have lg_8_1 : g_8 1 = (tI M_2 2 6).toInt := hs_7.2.1.2.1
  have lg_8_4 : g_8 4 = (tI M_2 1 4).toInt := hs_7.2.2.1.1
  have lg_8_7 : g_8 7 = (tI M_2 t 4).toInt := hs_7.2.2.2.1.1
  have lg_8_8 : g_8 8 = (tI M_2 t 5).toInt := hs_7.2.2.2.1.2.1
  have tq_9 : tq t td M_2 := tq_fr ht hq (o2_12 q_4) q_6.1
  refine lv_aload_n hx hb dX4_readLaw_7 rfl (lv_at hl 0 rfl) ?_
  refine ti_get (ci := 4) (k := 0) (N := 6) (T := TX4) (v := .ref (A 2 0)) C hw iw_4 rfl ob_1 (by decide) (by decide) fl_X4_12 rfl rfl dX4_readLaw_8 ?_
  refine ti_get (ci := 7) (k := 4) (N := 7) (T := TX7) C hw iw_7 rfl ob_2 (by decide) (by decide) fl_X4_41 rfl rfl dX4_readLaw_11 ?_
  refine lv_topi (fun x_10 ex_10 => ?_)
  have bx_10 : 0 ≤ x_10.toInt ∧ x_10.toInt ≤ 41 := cI_rd iM_2 ob_2.1 ex_10
  have ux_10 : (tI M_2 2 4).toInt = x_10.toInt := by rw [ex_10]
  refine lv_istore_n (lv' := [(1, .int x_10), (0, .ref (A 1 0))]) hx hb dX4_readLaw_14 rfl hl (by decide) rfl (fun ls hl => ?_)
  refine lv_iload_n hx hb dX4_readLaw_15 rfl (lv_at hl 0 rfl) ?_
  refine lv_bipush (v := 12) hx hb dX4_readLaw_16 (by decide) ?_
  refine sb_icmp_lt (tgt := 27) hx hb rfl (by decide : (12 : Int32).toInt = 12) dX4_readLaw_18 (by decide) (fun c_18_10 => ?_) (fun c_18_10 => ?_)
  · refine lv_aload_n hx hb dX4_readLaw_27 rfl (lv_at hl 1 rfl) ?_
    refine lv_iconst (v := 1) hx hb dX4_readLaw_28 (by decide) ?_
    refine ti_callVv (ci := 4) (av := [.int 1]) C hw (x_X4_refuse l D A cy hJ M_2 iM_2 t ht 1 B n g_8 hs_7) ⟨ml_X4_82, ym_X4_refuse, yv_X4_refuse, yi_X4_refuse, yc_X4_refuse⟩ yd_X4_refuse ob_1 (by decide) rfl rfl hl.1 (Nat.le_of_ble_eq_true rfl) ⟨by decide, by decide⟩ ⟨Nat.zero_le _, Nat.zero_le _⟩ dX4_readLaw_29 (fun M_14 H locs hp_14 hw => ?_)
    obtain ⟨iM_14, q_15, q_16, q_17, q_18, p0r_13⟩ := hp_14
    have hlr_13_1 : (1 : Int32).toInt = 1 := by decide
    simp only [hlr_13_1] at p0r_13
    obtain ⟨g_19, eg_19⟩ : ∃ z : Nat → Int, z = pp_rf 1 g_8 := ⟨_, rfl⟩
    rw [← eg_19] at p0r_13
    have lg_19_0 : g_19 0 = (tI M_14 2 4).toInt := p0r_13.2.1.1
    have lg_19_1 : g_19 1 = (tI M_14 2 6).toInt := p0r_13.2.1.2.1
    have lg_19_4 : g_19 4 = (tI M_14 1 4).toInt := p0r_13.2.2.1.1
    have lg_19_7 : g_19 7 = (tI M_14 t 4).toInt := p0r_13.2.2.2.1.1
    have lg_19_8 : g_19 8 = (tI M_14 t 5).toInt := p0r_13.2.2.2.1.2.1
    have tq_20 : tq t td M_14 := tq_fr ht tq_9 q_16 q_18
    exact hQ _ _ _ _ _ hw (⟨iM_14, (rR.trans (rr_of q_15) (rr_of q_3)), (f0.trans (f0_12 q_16) (f0_12 (o2_12 q_4))), ((q_17).trans q_5), ((tT_fr q_15).trans (tT_fr q_3)), (ot.trans (ot_12 ht q_16 q_18) (ot_12 ht (o2_12 q_4) q_6.1)), (by unfold pp_lw; rw [← eg_8]; unfold pp_lq; rw [if_neg (fun q => by omega), ← eg_19]; exact p0r_13), (by unfold qq_lw; rw [← eg_8]; unfold qq_lq; rw [if_neg (fun q => by omega)]; exact tq_20)⟩) dX4_readLaw_32
  · refine lv_iload_n hx hb dX4_readLaw_21 rfl (lv_at hl 0 rfl) ?_
    refine lv_bipush (v := 14) hx hb dX4_readLaw_22 (by decide) ?_
    refine sb_icmp_le (tgt := 33) hx hb rfl (by decide : (14 : Int32).toInt = 14) dX4_readLaw_24 (by decide) (fun c_24_11 => ?_) (fun c_24_11 => ?_)
    · refine lv_aload_n hx hb dX4_readLaw_33 rfl (lv_at hl 1 rfl) ?_
      refine ti_callVvE (ci := 4) (av := []) C hE hw (x_X4_once l D A cy hJ M_2 iM_2 t ht B n g_8 hs_7 (by omega)) ⟨ml_X4_53, ym_X4_once, yv_X4_once, yi_X4_once, yc_X4_once⟩ yd_X4_once ob_1 (by decide) rfl rfl hl.1 (Nat.le_of_ble_eq_true rfl) ⟨by decide, by decide⟩ ⟨Nat.zero_le _, Nat.zero_le _⟩ dX4_readLaw_34 (fun M_30 H locs hp_30 hw => ?_)
      obtain ⟨iM_30, q_31, q_32, q_33, q_34, p0r_29⟩ := hp_30
      obtain ⟨g_35, eg_35⟩ : ∃ z : Nat → Int, z = pp_on B n g_8 := ⟨_, rfl⟩
      rw [← eg_35] at p0r_29
      have lg_35_0 : g_35 0 = (tI M_30 2 4).toInt := p0r_29.2.1.1
      have lg_35_1 : g_35 1 = (tI M_30 2 6).toInt := p0r_29.2.1.2.1
      have lg_35_4 : g_35 4 = (tI M_30 1 4).toInt := p0r_29.2.2.1.1
      have lg_35_7 : g_35 7 = (tI M_30 t 4).toInt := p0r_29.2.2.2.1.1
      have lg_35_8 : g_35 8 = (tI M_30 t 5).toInt := p0r_29.2.2.2.1.2.1
      have tq_36 : tq t td M_30 := tq_fr ht tq_9 q_32 q_34
      refine lv_aload_n hx hb dX4_readLaw_37 rfl (lv_at hl 1 rfl) ?_
      refine lv_aload_n hx hb dX4_readLaw_38 rfl (lv_at hl 1 rfl) ?_
      refine ti_get (ci := 4) (k := 1) (N := 6) (T := TX4) (v := .ref (A t 0)) C hw iw_4 rfl ob_1 (by decide) (by decide) fl_X4_28 rfl (ti_Tv ((tT_fr q_31).trans ((tT_fr q_3).trans hT))) dX4_readLaw_39 ?_
      refine ti_get (ci := 8) (k := 2) (N := 12) (T := TX8) (v := .ref (A t 3)) C hw iw_8 rfl (ob_t ht) (by decide) (by decide) fl_X4_150 rfl rfl dX4_readLaw_42 ?_
      refine lv_iload_n hx hb dX4_readLaw_45 rfl (lv_at hl 0 rfl) ?_
      refine lv_bipush (v := 12) hx hb dX4_readLaw_46 (by decide) ?_
      refine lv_isub hx hb dX4_readLaw_48 ?_
      refine lv_topi (fun x_37 ex_37 => ?_)
      have tx_37 : x_37.toInt = x_10.toInt - 12 := i_sub ex_37 rfl (by decide : (12 : Int32).toInt = 12) (by omega) (by omega)
      refine ti_aald (ci := 8) (k := 2) (n := 3) (t0 := 4) (Cn := RX1) (gg := (ti_laws t)) (j := x_37.toNatClampNeg) C hw (ob_t ht) (by decide) (fun _ _ => rfl) rfl (vp_in_iff.mpr (by omega)) rfl dX4_readLaw_49 ?_
      have ob_38 : ti_ob ti_LT (ti_laws t x_37.toNatClampNeg) 1 := ob_l ht (i_nt rfl (by omega) (by omega))
      refine ti_putT (ci := 4) (k := 2) (N := 6) (T := TX4) C hw iw_4 tyX4 tyX4_ok nmX4 rfl ob_1 (by decide) (by decide) fl_X4_154 rfl rfl rfl rfl (fn_4 A _) fs_4_2 dX4_readLaw_50 (fun H locs hw => ?_)
      obtain ⟨M_39, hM_39⟩ : ∃ z : ti_M, z = uT M_30 1 2 (some (ti_laws t x_37.toNatClampNeg)) := ⟨_, rfl⟩
      have hw := hw.to hM_39.symm
      have iM_39 : cI Tc M_39 := cI_uT iM_30 hM_39
      have hs_40 := rC_T hM_39 p0r_29
      have lM_39_0 : g_35 0 = (tI M_39 2 4).toInt := hs_40.2.1.1
      have lM_39_1 : g_35 1 = (tI M_39 2 6).toInt := hs_40.2.1.2.1
      have lM_39_4 : g_35 4 = (tI M_39 1 4).toInt := hs_40.2.2.1.1
      have lM_39_7 : g_35 7 = (tI M_39 t 4).toInt := hs_40.2.2.2.1.1
      have lM_39_8 : g_35 8 = (tI M_39 t 5).toInt := hs_40.2.2.2.1.2.1
      have tq_41 : tq t td M_39 := tq_T tq_36 hM_39
      refine lv_aload_n hx hb dX4_readLaw_53 rfl (lv_at hl 1 rfl) ?_
      refine lv_iconst (v := 0) hx hb dX4_readLaw_54 (by decide) ?_
      refine ti_callVvE (ci := 4) (av := [.int 0]) C hE hw (x_X4_readEither_0 l D A cy hJ M_39 iM_39 t ht ((tT_nE hM_39 (nk (by decide))).trans ((tT_fr q_31).trans ((tT_fr q_3).trans hT))) x_37.toNatClampNeg (i_nt (x := x_37) rfl (by omega) (by omega)) (tT_uE hM_39) B n g_35 hs_40 td tq_41) ⟨ml_X4_158, ym_X4_readEither, yv_X4_readEither, yi_X4_readEither, yc_X4_readEither⟩ yd_X4_readEither ob_1 (by decide) rfl rfl hl.1 (Nat.le_of_ble_eq_true rfl) ⟨by decide, by decide⟩ ⟨Nat.zero_le _, Nat.zero_le _⟩ dX4_readLaw_55 (fun M_43 H locs hp_43 hw => ?_)
      obtain ⟨iM_43, q_44, q_45, q_46, q_47, p0r_42, p1r_42⟩ := hp_43
      obtain ⟨g_48, eg_48⟩ : ∃ z : Nat → Int, z = pp_ei B n (pp_pt B n 8) g_35 := ⟨_, rfl⟩
      rw [← eg_48] at p0r_42
      have lg_48_0 : g_48 0 = (tI M_43 2 4).toInt := p0r_42.2.1.1
      have lg_48_1 : g_48 1 = (tI M_43 2 6).toInt := p0r_42.2.1.2.1
      have lg_48_4 : g_48 4 = (tI M_43 1 4).toInt := p0r_42.2.2.1.1
      have lg_48_7 : g_48 7 = (tI M_43 t 4).toInt := p0r_42.2.2.2.1.1
      have lg_48_8 : g_48 8 = (tI M_43 t 5).toInt := p0r_42.2.2.2.1.2.1
      obtain ⟨d_49, ed_49⟩ : ∃ z : Nat → Int, z = qq_ei B n x_37.toNatClampNeg (pp_pt B n 8) (qq_pt B n x_37.toNatClampNeg 8) g_35 td := ⟨_, rfl⟩
      rw [← ed_49] at p1r_42
      exact hQ _ _ _ _ _ hw (⟨iM_43, (rR.trans (rr_of q_44) (rR.trans (rr_T hM_39) (rR.trans (rr_of q_31) (rr_of q_3)))), (f0.trans q_45 (f0.trans (f0_of (ra_T hM_39)) (f0.trans (f0_12 q_32) (f0_12 (o2_12 q_4))))), ((q_46).trans ((tI_uTE hM_39).trans ((q_33).trans q_5))), ((tT_fr q_44).trans ((tT_nE hM_39 (nk (by decide))).trans ((tT_fr q_31).trans (tT_fr q_3)))), (ot.trans q_47 (ot.trans (ot_of (ra_T hM_39) (ry_T hM_39)) (ot.trans (ot_12 ht q_32 q_34) (ot_12 ht (o2_12 q_4) q_6.1)))), (by unfold pp_lw; rw [← eg_8]; unfold pp_lq; rw [if_pos ⟨by omega, by omega⟩, ← eg_35, ← eg_48]; exact p0r_42), (by unfold qq_lw; rw [← eg_8]; unfold qq_lq; rw [if_pos ⟨by omega, by omega⟩, show (g_8 0 - 12).toNat = x_37.toNatClampNeg by (show _ = x_37.toInt.toNat; omega), ← eg_35, ← ed_49]; exact p1r_42)⟩) dX4_readLaw_58
    · refine lv_aload_n hx hb dX4_readLaw_27 rfl (lv_at hl 1 rfl) ?_
      refine lv_iconst (v := 1) hx hb dX4_readLaw_28 (by decide) ?_
      refine ti_callVv (ci := 4) (av := [.int 1]) C hw (x_X4_refuse l D A cy hJ M_2 iM_2 t ht 1 B n g_8 hs_7) ⟨ml_X4_82, ym_X4_refuse, yv_X4_refuse, yi_X4_refuse, yc_X4_refuse⟩ yd_X4_refuse ob_1 (by decide) rfl rfl hl.1 (Nat.le_of_ble_eq_true rfl) ⟨by decide, by decide⟩ ⟨Nat.zero_le _, Nat.zero_le _⟩ dX4_readLaw_29 (fun M_22 H locs hp_22 hw => ?_)
      obtain ⟨iM_22, q_23, q_24, q_25, q_26, p0r_21⟩ := hp_22
      have hlr_21_1 : (1 : Int32).toInt = 1 := by decide
      simp only [hlr_21_1] at p0r_21
      obtain ⟨g_27, eg_27⟩ : ∃ z : Nat → Int, z = pp_rf 1 g_8 := ⟨_, rfl⟩
      rw [← eg_27] at p0r_21
      have lg_27_0 : g_27 0 = (tI M_22 2 4).toInt := p0r_21.2.1.1
      have lg_27_1 : g_27 1 = (tI M_22 2 6).toInt := p0r_21.2.1.2.1
      have lg_27_4 : g_27 4 = (tI M_22 1 4).toInt := p0r_21.2.2.1.1
      have lg_27_7 : g_27 7 = (tI M_22 t 4).toInt := p0r_21.2.2.2.1.1
      have lg_27_8 : g_27 8 = (tI M_22 t 5).toInt := p0r_21.2.2.2.1.2.1
      have tq_28 : tq t td M_22 := tq_fr ht tq_9 q_24 q_26
      exact hQ _ _ _ _ _ hw (⟨iM_22, (rR.trans (rr_of q_23) (rr_of q_3)), (f0.trans (f0_12 q_24) (f0_12 (o2_12 q_4))), ((q_25).trans q_5), ((tT_fr q_23).trans (tT_fr q_3)), (ot.trans (ot_12 ht q_24 q_26) (ot_12 ht (o2_12 q_4) q_6.1)), (by unfold pp_lw; rw [← eg_8]; unfold pp_lq; rw [if_neg (fun q => by omega), ← eg_27]; exact p0r_21), (by unfold qq_lw; rw [← eg_8]; unfold qq_lq; rw [if_neg (fun q => by omega)]; exact tq_28)⟩) dX4_readLaw_32
/-- nothing told -/
def qq_cl (td : Nat → Int) : Nat → Int := pp_su (pp_su (pp_su (pp_su (pp_su (pp_su (pp_su (pp_su (pp_su (pp_su (pp_su (pp_su td 6 200) 7 2) 8 10) 9 3) 10 0) 11 0) (32 + 0) 0) (32 + 1) 1) (32 + 2) 2) (300 + 0) 0) (300 + 1) 0) (300 + 2) 0
/-- what a text tells, as it stands -/
def qJ (t : Nat) (M : ti_M) : Nat → Int := fun k => if k < 32 then (tI M t k).toInt else if k < 100 then (tY M t 1 (k - 32)).toInt else if k < 300 then (tI M (ti_men t ((k - 100) / 16)) ((k - 100) % 16)).toInt else if k < 400 then (tI M (ti_laws t (k - 300)) 3).toInt else (tY M (ti_laws t ((k - 400) / 64)) 0 ((k - 400) % 64)).toInt
theorem tq_J {t : Nat} {M : ti_M} : tq t (qJ t M) M := by
  refine ⟨fun k h1 h2 => ?_, fun i hi => ?_, fun i k hi h1 h2 => ?_, fun j hj => ⟨?_, fun n hn => ?_⟩⟩
  · unfold qJ; rw [if_pos (by omega)]
  · unfold qJ; rw [if_neg (by omega), if_pos (by omega), show 32 + i - 32 = i by omega]
  · unfold qJ; rw [if_neg (by omega), if_neg (by omega), if_pos (by omega), show (100 + 16 * i + k - 100) / 16 = i by omega, show (100 + 16 * i + k - 100) % 16 = k by omega]
  · unfold qJ; rw [if_neg (by omega), if_neg (by omega), if_neg (by omega), if_pos (by omega), show 300 + j - 300 = j by omega]
  · unfold qJ; rw [if_neg (by omega), if_neg (by omega), if_neg (by omega), if_neg (by omega), show (400 + 64 * j + n - 400) / 64 = j by omega, show (400 + 64 * j + n - 400) % 64 = n by omega]
set_option maxHeartbeats 4000000 in
set_option maxRecDepth 100000 in
theorem x_X8_clear (l : Launch) (D : va_G) (A : Nat → Nat → Nat) (cy : Nat → ClassId) (hJ : ti_inj ti_LT A) (M : ti_M) (hI : cI Tc M) (t : Nat) (ht : t = 3 ∨ t = 4) (td : Nat → Int) (hq : tq t td M) : ti_Kv l yX8_clear cX8_clear 2 0 ti_LT D A cy M [.ref (A t 0)] (fun M2 => cI Tc M2 ∧ M2.2.2.2 = M.2.2.2 ∧ f0 M2 M ∧ tI M2 2 1 = tI M 2 1 ∧ tI M2 1 3 = tI M 1 3 ∧ tI M2 1 4 = tI M 1 4 ∧ tI M2 1 5 = tI M 1 5 ∧ ot t M2 M ∧ (tI M2 t 3).toInt = 0 ∧ (tI M2 t 4).toInt = 0 ∧ (tI M2 t 5).toInt = 0 ∧ tq t (qq_cl td) M2) := by
  refine ti_eV yp_X8_clear hJ ti_LT_nd (Nat.le_of_ble_eq_true rfl) ?_
  intro p e s m args below meth c Q H0 C hQ hw ls hl
  have hx := C.1
  have hb := C.2.1
  have hl : lv_has ls 2 [(0, .ref (A t 0))] := hl
  refine lv_aload_n hx hb dX8_clear_0 rfl (lv_at hl 0 rfl) ?_
  refine lv_iconst (v := 0) hx hb dX8_clear_1 (by decide) ?_
  refine ti_putI (ci := 8) (k := 3) (N := 12) (T := TX8) C hw iw_8 tyX8 tyX8_ok nmX8 rfl (ob_t ht) (by decide) (by decide) fl_X8_32 rfl rfl rfl rfl (fn_8 A _) fs_8_3 dX8_clear_2 (fun H locs hw => ?_)
  obtain ⟨M_1, hM_1⟩ : ∃ z : ti_M, z = uI M t 3 0 := ⟨_, rfl⟩
  have hw := hw.to hM_1.symm
  have iM_1 : cI Tc M_1 := cI_uI hI hM_1 (ob_t ht).1 trivial
  have tq_3 : tq t td M_1 := tq_t0 ht hq hM_1 (by decide)
  refine lv_aload_n hx hb dX8_clear_5 rfl (lv_at hl 0 rfl) ?_
  refine lv_iconst (v := 0) hx hb dX8_clear_6 (by decide) ?_
  refine ti_putI (ci := 8) (k := 4) (N := 12) (T := TX8) C hw iw_8 tyX8 tyX8_ok nmX8 rfl (ob_t ht) (by decide) (by decide) fl_X8_36 rfl rfl rfl rfl (fn_8 A _) fs_8_4 dX8_clear_7 (fun H locs hw => ?_)
  obtain ⟨M_4, hM_4⟩ : ∃ z : ti_M, z = uI M_1 t 4 0 := ⟨_, rfl⟩
  have hw := hw.to hM_4.symm
  have iM_4 : cI Tc M_4 := cI_uI iM_1 hM_4 (ob_t ht).1 (ib_mk (lo := 0) (hi := 8) (by decide) (by decide))
  have vM_4 : (tI M_4 t 4).toInt = 0 := by rw [tI_uE hM_4]; decide
  have tq_6 : tq t td M_4 := tq_t0 ht tq_3 hM_4 (by decide)
  refine lv_aload_n hx hb dX8_clear_10 rfl (lv_at hl 0 rfl) ?_
  refine lv_iconst (v := 0) hx hb dX8_clear_11 (by decide) ?_
  refine ti_putI (ci := 8) (k := 5) (N := 12) (T := TX8) C hw iw_8 tyX8 tyX8_ok nmX8 rfl (ob_t ht) (by decide) (by decide) fl_X8_39 rfl rfl rfl rfl (fn_8 A _) fs_8_5 dX8_clear_12 (fun H locs hw => ?_)
  obtain ⟨M_7, hM_7⟩ : ∃ z : ti_M, z = uI M_4 t 5 0 := ⟨_, rfl⟩
  have hw := hw.to hM_7.symm
  have iM_7 : cI Tc M_7 := cI_uI iM_4 hM_7 (ob_t ht).1 trivial
  have tq_9 : tq t td M_7 := tq_t0 ht tq_6 hM_7 (by decide)
  refine lv_aload_n hx hb dX8_clear_15 rfl (lv_at hl 0 rfl) ?_
  refine lv_sipush (v := 200) hx hb dX8_clear_16 (by decide) ?_
  refine ti_putI (ci := 8) (k := 6) (N := 12) (T := TX8) C hw iw_8 tyX8 tyX8_ok nmX8 rfl (ob_t ht) (by decide) (by decide) fl_X8_42 rfl rfl rfl rfl (fn_8 A _) fs_8_6 dX8_clear_19 (fun H locs hw => ?_)
  obtain ⟨M_10, hM_10⟩ : ∃ z : ti_M, z = uI M_7 t 6 200 := ⟨_, rfl⟩
  have hw := hw.to hM_10.symm
  have iM_10 : cI Tc M_10 := cI_uI iM_7 hM_10 (ob_t ht).1 trivial
  have tq_11 : tq t (pp_su td 6 200) M_10 := tq_t ht tq_9 (by decide : (200 : Int32).toInt = 200) hM_10 (by decide)
  obtain ⟨d_12, ed_12⟩ : ∃ z : Nat → Int, z = pp_su td 6 200 := ⟨_, rfl⟩
  rw [← ed_12] at tq_11
  refine lv_aload_n hx hb dX8_clear_22 rfl (lv_at hl 0 rfl) ?_
  refine lv_iconst (v := 2) hx hb dX8_clear_23 (by decide) ?_
  refine ti_putI (ci := 8) (k := 7) (N := 12) (T := TX8) C hw iw_8 tyX8 tyX8_ok nmX8 rfl (ob_t ht) (by decide) (by decide) fl_X8_45 rfl rfl rfl rfl (fn_8 A _) fs_8_7 dX8_clear_24 (fun H locs hw => ?_)
  obtain ⟨M_13, hM_13⟩ : ∃ z : ti_M, z = uI M_10 t 7 2 := ⟨_, rfl⟩
  have hw := hw.to hM_13.symm
  have iM_13 : cI Tc M_13 := cI_uI iM_10 hM_13 (ob_t ht).1 trivial
  have tq_14 : tq t (pp_su d_12 7 2) M_13 := tq_t ht tq_11 (by decide : (2 : Int32).toInt = 2) hM_13 (by decide)
  obtain ⟨d_15, ed_15⟩ : ∃ z : Nat → Int, z = pp_su d_12 7 2 := ⟨_, rfl⟩
  rw [← ed_15] at tq_14
  refine lv_aload_n hx hb dX8_clear_27 rfl (lv_at hl 0 rfl) ?_
  refine lv_bipush (v := 10) hx hb dX8_clear_28 (by decide) ?_
  refine ti_putI (ci := 8) (k := 8) (N := 12) (T := TX8) C hw iw_8 tyX8 tyX8_ok nmX8 rfl (ob_t ht) (by decide) (by decide) fl_X8_48 rfl rfl rfl rfl (fn_8 A _) fs_8_8 dX8_clear_30 (fun H locs hw => ?_)
  obtain ⟨M_16, hM_16⟩ : ∃ z : ti_M, z = uI M_13 t 8 10 := ⟨_, rfl⟩
  have hw := hw.to hM_16.symm
  have iM_16 : cI Tc M_16 := cI_uI iM_13 hM_16 (ob_t ht).1 trivial
  have tq_17 : tq t (pp_su d_15 8 10) M_16 := tq_t ht tq_14 (by decide : (10 : Int32).toInt = 10) hM_16 (by decide)
  obtain ⟨d_18, ed_18⟩ : ∃ z : Nat → Int, z = pp_su d_15 8 10 := ⟨_, rfl⟩
  rw [← ed_18] at tq_17
  refine lv_aload_n hx hb dX8_clear_33 rfl (lv_at hl 0 rfl) ?_
  refine lv_iconst (v := 3) hx hb dX8_clear_34 (by decide) ?_
  refine ti_putI (ci := 8) (k := 9) (N := 12) (T := TX8) C hw iw_8 tyX8 tyX8_ok nmX8 rfl (ob_t ht) (by decide) (by decide) fl_X8_51 rfl rfl rfl rfl (fn_8 A _) fs_8_9 dX8_clear_35 (fun H locs hw => ?_)
  obtain ⟨M_19, hM_19⟩ : ∃ z : ti_M, z = uI M_16 t 9 3 := ⟨_, rfl⟩
  have hw := hw.to hM_19.symm
  have iM_19 : cI Tc M_19 := cI_uI iM_16 hM_19 (ob_t ht).1 trivial
  have tq_20 : tq t (pp_su d_18 9 3) M_19 := tq_t ht tq_17 (by decide : (3 : Int32).toInt = 3) hM_19 (by decide)
  obtain ⟨d_21, ed_21⟩ : ∃ z : Nat → Int, z = pp_su d_18 9 3 := ⟨_, rfl⟩
  rw [← ed_21] at tq_20
  refine lv_aload_n hx hb dX8_clear_38 rfl (lv_at hl 0 rfl) ?_
  refine lv_iconst (v := 0) hx hb dX8_clear_39 (by decide) ?_
  refine ti_putI (ci := 8) (k := 10) (N := 12) (T := TX8) C hw iw_8 tyX8 tyX8_ok nmX8 rfl (ob_t ht) (by decide) (by decide) fl_X8_54 rfl rfl rfl rfl (fn_8 A _) fs_8_10 dX8_clear_40 (fun H locs hw => ?_)
  obtain ⟨M_22, hM_22⟩ : ∃ z : ti_M, z = uI M_19 t 10 0 := ⟨_, rfl⟩
  have hw := hw.to hM_22.symm
  have iM_22 : cI Tc M_22 := cI_uI iM_19 hM_22 (ob_t ht).1 trivial
  have tq_23 : tq t (pp_su d_21 10 0) M_22 := tq_t ht tq_20 (by decide : (0 : Int32).toInt = 0) hM_22 (by decide)
  obtain ⟨d_24, ed_24⟩ : ∃ z : Nat → Int, z = pp_su d_21 10 0 := ⟨_, rfl⟩
  rw [← ed_24] at tq_23
  refine lv_aload_n hx hb dX8_clear_43 rfl (lv_at hl 0 rfl) ?_
  refine lv_iconst (v := 0) hx hb dX8_clear_44 (by decide) ?_
  refine ti_putI (ci := 8) (k := 11) (N := 12) (T := TX8) C hw iw_8 tyX8 tyX8_ok nmX8 rfl (ob_t ht) (by decide) (by decide) fl_X8_57 rfl rfl rfl rfl (fn_8 A _) fs_8_11 dX8_clear_45 (fun H locs hw => ?_)
  obtain ⟨M_25, hM_25⟩ : ∃ z : ti_M, z = uI M_22 t 11 0 := ⟨_, rfl⟩
  have hw := hw.to hM_25.symm
  have iM_25 : cI Tc M_25 := cI_uI iM_22 hM_25 (ob_t ht).1 trivial
  have tq_26 : tq t (pp_su d_24 11 0) M_25 := tq_t ht tq_23 (by decide : (0 : Int32).toInt = 0) hM_25 (by decide)
  obtain ⟨d_27, ed_27⟩ : ∃ z : Nat → Int, z = pp_su d_24 11 0 := ⟨_, rfl⟩
  rw [← ed_27] at tq_26
  refine lv_iconst (v := 0) hx hb dX8_clear_48 (by decide) ?_
  refine lv_istore_n (lv' := [(1, .int 0), (0, .ref (A t 0))]) hx hb dX8_clear_49 rfl hl (by decide) rfl (fun ls hl => ?_)
  refine lv_iload_n hx hb dX8_clear_50 rfl (lv_at hl 0 rfl) ?_
  refine lv_iconst (v := 3) hx hb dX8_clear_51 (by decide) ?_
  refine sb_icmp_ge (tgt := 68) hx hb (by decide : (0 : Int32).toInt = 0) (by decide : (3 : Int32).toInt = 3) dX8_clear_52 (by decide) (fun h => absurd h (by decide)) (fun c_52_27 => ?_)
  refine lv_aload_n hx hb dX8_clear_55 rfl (lv_at hl 1 rfl) ?_
  refine ti_get (ci := 8) (k := 1) (N := 12) (T := TX8) (v := .ref (A t 2)) C hw iw_8 rfl (ob_t ht) (by decide) (by decide) fl_X8_17 rfl rfl dX8_clear_56 ?_
  refine lv_iload_n hx hb dX8_clear_59 rfl (lv_at hl 0 rfl) ?_
  refine lv_iload_n hx hb dX8_clear_60 rfl (lv_at hl 0 rfl) ?_
  refine ti_iast (ci := 8) (k := 1) (n := 3) C hw (ob_t ht) (by decide) (fun _ _ => rfl) (by unfold vp_in; decide) dX8_clear_61 (fun H locs hw => ?_)
  obtain ⟨M_29, hM_29⟩ : ∃ z : ti_M, z = uY M_25 t 1 (upd (tY M_25 t 1) (0 : Int32).toNatClampNeg 0) := ⟨_, rfl⟩
  have hw := hw.to hM_29.symm
  have iM_29 : cI Tc M_29 := cI_up iM_25 hM_29 (ob_t ht).1 trivial
  have tq_30 : tq t (pp_su d_27 (32 + 0) 0) M_29 := tq_Y1 (z := 0) ht tq_26 (by decide) (by decide) (by decide : (0 : Int32).toInt = 0) hM_29
  obtain ⟨d_31, ed_31⟩ : ∃ z : Nat → Int, z = pp_su d_27 (32 + 0) 0 := ⟨_, rfl⟩
  rw [← ed_31] at tq_30
  refine lv_iinc (v := 1) (lv' := [(1, .int 1), (0, .ref (A t 0))]) hx hb dX8_clear_62 hl (k := 0) rfl (by decide) (by decide) rfl (fun ls hl => ?_)
  refine lv_goto (tgt := 50) hx hb dX8_clear_65 (by decide) ?_
  refine lv_iload_n hx hb dX8_clear_50 rfl (lv_at hl 0 rfl) ?_
  refine lv_iconst (v := 3) hx hb dX8_clear_51 (by decide) ?_
  refine sb_icmp_ge (tgt := 68) hx hb (by decide : (1 : Int32).toInt = 1) (by decide : (3 : Int32).toInt = 3) dX8_clear_52 (by decide) (fun h => absurd h (by decide)) (fun c_52_31 => ?_)
  refine lv_aload_n hx hb dX8_clear_55 rfl (lv_at hl 1 rfl) ?_
  refine ti_get (ci := 8) (k := 1) (N := 12) (T := TX8) (v := .ref (A t 2)) C hw iw_8 rfl (ob_t ht) (by decide) (by decide) fl_X8_17 rfl rfl dX8_clear_56 ?_
  refine lv_iload_n hx hb dX8_clear_59 rfl (lv_at hl 0 rfl) ?_
  refine lv_iload_n hx hb dX8_clear_60 rfl (lv_at hl 0 rfl) ?_
  refine ti_iast (ci := 8) (k := 1) (n := 3) C hw (ob_t ht) (by decide) (fun _ _ => rfl) (by unfold vp_in; decide) dX8_clear_61 (fun H locs hw => ?_)
  obtain ⟨M_33, hM_33⟩ : ∃ z : ti_M, z = uY M_29 t 1 (upd (tY M_29 t 1) (1 : Int32).toNatClampNeg 1) := ⟨_, rfl⟩
  have hw := hw.to hM_33.symm
  have iM_33 : cI Tc M_33 := cI_up iM_29 hM_33 (ob_t ht).1 trivial
  have tq_34 : tq t (pp_su d_31 (32 + 1) 1) M_33 := tq_Y1 (z := 1) ht tq_30 (by decide) (by decide) (by decide : (1 : Int32).toInt = 1) hM_33
  obtain ⟨d_35, ed_35⟩ : ∃ z : Nat → Int, z = pp_su d_31 (32 + 1) 1 := ⟨_, rfl⟩
  rw [← ed_35] at tq_34
  refine lv_iinc (v := 2) (lv' := [(1, .int 2), (0, .ref (A t 0))]) hx hb dX8_clear_62 hl (k := 0) rfl (by decide) (by decide) rfl (fun ls hl => ?_)
  refine lv_goto (tgt := 50) hx hb dX8_clear_65 (by decide) ?_
  refine lv_iload_n hx hb dX8_clear_50 rfl (lv_at hl 0 rfl) ?_
  refine lv_iconst (v := 3) hx hb dX8_clear_51 (by decide) ?_
  refine sb_icmp_ge (tgt := 68) hx hb (by decide : (2 : Int32).toInt = 2) (by decide : (3 : Int32).toInt = 3) dX8_clear_52 (by decide) (fun h => absurd h (by decide)) (fun c_52_35 => ?_)
  refine lv_aload_n hx hb dX8_clear_55 rfl (lv_at hl 1 rfl) ?_
  refine ti_get (ci := 8) (k := 1) (N := 12) (T := TX8) (v := .ref (A t 2)) C hw iw_8 rfl (ob_t ht) (by decide) (by decide) fl_X8_17 rfl rfl dX8_clear_56 ?_
  refine lv_iload_n hx hb dX8_clear_59 rfl (lv_at hl 0 rfl) ?_
  refine lv_iload_n hx hb dX8_clear_60 rfl (lv_at hl 0 rfl) ?_
  refine ti_iast (ci := 8) (k := 1) (n := 3) C hw (ob_t ht) (by decide) (fun _ _ => rfl) (by unfold vp_in; decide) dX8_clear_61 (fun H locs hw => ?_)
  obtain ⟨M_37, hM_37⟩ : ∃ z : ti_M, z = uY M_33 t 1 (upd (tY M_33 t 1) (2 : Int32).toNatClampNeg 2) := ⟨_, rfl⟩
  have hw := hw.to hM_37.symm
  have iM_37 : cI Tc M_37 := cI_up iM_33 hM_37 (ob_t ht).1 trivial
  have tq_38 : tq t (pp_su d_35 (32 + 2) 2) M_37 := tq_Y1 (z := 2) ht tq_34 (by decide) (by decide) (by decide : (2 : Int32).toInt = 2) hM_37
  obtain ⟨d_39, ed_39⟩ : ∃ z : Nat → Int, z = pp_su d_35 (32 + 2) 2 := ⟨_, rfl⟩
  rw [← ed_39] at tq_38
  refine lv_iinc (v := 3) (lv' := [(1, .int 3), (0, .ref (A t 0))]) hx hb dX8_clear_62 hl (k := 0) rfl (by decide) (by decide) rfl (fun ls hl => ?_)
  refine lv_goto (tgt := 50) hx hb dX8_clear_65 (by decide) ?_
  refine lv_iload_n hx hb dX8_clear_50 rfl (lv_at hl 0 rfl) ?_
  refine lv_iconst (v := 3) hx hb dX8_clear_51 (by decide) ?_
  refine sb_icmp_ge (tgt := 68) hx hb (by decide : (3 : Int32).toInt = 3) (by decide : (3 : Int32).toInt = 3) dX8_clear_52 (by decide) (fun c_52_39 => ?_) (fun h => absurd h (by decide))
  refine lv_iconst (v := 0) hx hb dX8_clear_68 (by decide) ?_
  refine lv_istore_n (lv' := [(1, .int 0), (0, .ref (A t 0))]) hx hb dX8_clear_69 rfl hl (by decide) rfl (fun ls hl => ?_)
  refine lv_iload_n hx hb dX8_clear_70 rfl (lv_at hl 0 rfl) ?_
  refine lv_iconst (v := 3) hx hb dX8_clear_71 (by decide) ?_
  refine sb_icmp_ge (tgt := 91) hx hb (by decide : (0 : Int32).toInt = 0) (by decide : (3 : Int32).toInt = 3) dX8_clear_72 (by decide) (fun h => absurd h (by decide)) (fun c_72_40 => ?_)
  refine lv_aload_n hx hb dX8_clear_75 rfl (lv_at hl 1 rfl) ?_
  refine ti_get (ci := 8) (k := 2) (N := 12) (T := TX8) (v := .ref (A t 3)) C hw iw_8 rfl (ob_t ht) (by decide) (by decide) fl_X8_23 rfl rfl dX8_clear_76 ?_
  refine lv_iload_n hx hb dX8_clear_79 rfl (lv_at hl 0 rfl) ?_
  refine ti_aald (ci := 8) (k := 2) (n := 3) (t0 := 4) (Cn := RX1) (gg := (ti_laws t)) (j := 0) C hw (ob_t ht) (by decide) (fun _ _ => rfl) rfl (by unfold vp_in; decide) (by decide) dX8_clear_80 ?_
  have ob_42 : ti_ob ti_LT (ti_laws t 0) 1 := ob_l ht (by decide)
  refine lv_iconst (v := 0) hx hb dX8_clear_81 (by decide) ?_
  refine ti_putI (ci := 1) (k := 3) (N := 4) (T := TX1) C hw iw_1 tyX1 tyX1_ok nmX1 rfl ob_42 (by decide) (by decide) fl_X8_60 rfl rfl rfl rfl (fn_1 A _) fs_1_3 dX8_clear_82 (fun H locs hw => ?_)
  obtain ⟨M_43, hM_43⟩ : ∃ z : ti_M, z = uI M_37 (ti_laws t 0) 3 0 := ⟨_, rfl⟩
  have hw := hw.to hM_43.symm
  have iM_43 : cI Tc M_43 := cI_uI iM_37 hM_43 ob_42.1 (ib_mk (lo := 0) (hi := 64) (by decide) (by decide))
  have vM_43 : (tI M_43 (ti_laws t 0) 3).toInt = 0 := by rw [tI_uE hM_43]; decide
  have tq_44 : tq t (pp_su d_39 (300 + 0) 0) M_43 := tq_l ht (by decide) tq_38 (by decide : (0 : Int32).toInt = 0) hM_43
  obtain ⟨d_45, ed_45⟩ : ∃ z : Nat → Int, z = pp_su d_39 (300 + 0) 0 := ⟨_, rfl⟩
  rw [← ed_45] at tq_44
  refine lv_iinc (v := 1) (lv' := [(1, .int 1), (0, .ref (A t 0))]) hx hb dX8_clear_85 hl (k := 0) rfl (by decide) (by decide) rfl (fun ls hl => ?_)
  refine lv_goto (tgt := 70) hx hb dX8_clear_88 (by decide) ?_
  refine lv_iload_n hx hb dX8_clear_70 rfl (lv_at hl 0 rfl) ?_
  refine lv_iconst (v := 3) hx hb dX8_clear_71 (by decide) ?_
  refine sb_icmp_ge (tgt := 91) hx hb (by decide : (1 : Int32).toInt = 1) (by decide : (3 : Int32).toInt = 3) dX8_clear_72 (by decide) (fun h => absurd h (by decide)) (fun c_72_45 => ?_)
  refine lv_aload_n hx hb dX8_clear_75 rfl (lv_at hl 1 rfl) ?_
  refine ti_get (ci := 8) (k := 2) (N := 12) (T := TX8) (v := .ref (A t 3)) C hw iw_8 rfl (ob_t ht) (by decide) (by decide) fl_X8_23 rfl rfl dX8_clear_76 ?_
  refine lv_iload_n hx hb dX8_clear_79 rfl (lv_at hl 0 rfl) ?_
  refine ti_aald (ci := 8) (k := 2) (n := 3) (t0 := 4) (Cn := RX1) (gg := (ti_laws t)) (j := 1) C hw (ob_t ht) (by decide) (fun _ _ => rfl) rfl (by unfold vp_in; decide) (by decide) dX8_clear_80 ?_
  have ob_47 : ti_ob ti_LT (ti_laws t 1) 1 := ob_l ht (by decide)
  refine lv_iconst (v := 0) hx hb dX8_clear_81 (by decide) ?_
  refine ti_putI (ci := 1) (k := 3) (N := 4) (T := TX1) C hw iw_1 tyX1 tyX1_ok nmX1 rfl ob_47 (by decide) (by decide) fl_X8_60 rfl rfl rfl rfl (fn_1 A _) fs_1_3 dX8_clear_82 (fun H locs hw => ?_)
  obtain ⟨M_48, hM_48⟩ : ∃ z : ti_M, z = uI M_43 (ti_laws t 1) 3 0 := ⟨_, rfl⟩
  have hw := hw.to hM_48.symm
  have iM_48 : cI Tc M_48 := cI_uI iM_43 hM_48 ob_47.1 (ib_mk (lo := 0) (hi := 64) (by decide) (by decide))
  have vM_48 : (tI M_48 (ti_laws t 1) 3).toInt = 0 := by rw [tI_uE hM_48]; decide
  have tq_49 : tq t (pp_su d_45 (300 + 1) 0) M_48 := tq_l ht (by decide) tq_44 (by decide : (0 : Int32).toInt = 0) hM_48
  obtain ⟨d_50, ed_50⟩ : ∃ z : Nat → Int, z = pp_su d_45 (300 + 1) 0 := ⟨_, rfl⟩
  rw [← ed_50] at tq_49
  refine lv_iinc (v := 2) (lv' := [(1, .int 2), (0, .ref (A t 0))]) hx hb dX8_clear_85 hl (k := 0) rfl (by decide) (by decide) rfl (fun ls hl => ?_)
  refine lv_goto (tgt := 70) hx hb dX8_clear_88 (by decide) ?_
  refine lv_iload_n hx hb dX8_clear_70 rfl (lv_at hl 0 rfl) ?_
  refine lv_iconst (v := 3) hx hb dX8_clear_71 (by decide) ?_
  refine sb_icmp_ge (tgt := 91) hx hb (by decide : (2 : Int32).toInt = 2) (by decide : (3 : Int32).toInt = 3) dX8_clear_72 (by decide) (fun h => absurd h (by decide)) (fun c_72_50 => ?_)
  refine lv_aload_n hx hb dX8_clear_75 rfl (lv_at hl 1 rfl) ?_
  refine ti_get (ci := 8) (k := 2) (N := 12) (T := TX8) (v := .ref (A t 3)) C hw iw_8 rfl (ob_t ht) (by decide) (by decide) fl_X8_23 rfl rfl dX8_clear_76 ?_
  refine lv_iload_n hx hb dX8_clear_79 rfl (lv_at hl 0 rfl) ?_
  refine ti_aald (ci := 8) (k := 2) (n := 3) (t0 := 4) (Cn := RX1) (gg := (ti_laws t)) (j := 2) C hw (ob_t ht) (by decide) (fun _ _ => rfl) rfl (by unfold vp_in; decide) (by decide) dX8_clear_80 ?_
  have ob_52 : ti_ob ti_LT (ti_laws t 2) 1 := ob_l ht (by decide)
  refine lv_iconst (v := 0) hx hb dX8_clear_81 (by decide) ?_
  refine ti_putI (ci := 1) (k := 3) (N := 4) (T := TX1) C hw iw_1 tyX1 tyX1_ok nmX1 rfl ob_52 (by decide) (by decide) fl_X8_60 rfl rfl rfl rfl (fn_1 A _) fs_1_3 dX8_clear_82 (fun H locs hw => ?_)
  obtain ⟨M_53, hM_53⟩ : ∃ z : ti_M, z = uI M_48 (ti_laws t 2) 3 0 := ⟨_, rfl⟩
  have hw := hw.to hM_53.symm
  have iM_53 : cI Tc M_53 := cI_uI iM_48 hM_53 ob_52.1 (ib_mk (lo := 0) (hi := 64) (by decide) (by decide))
  have vM_53 : (tI M_53 (ti_laws t 2) 3).toInt = 0 := by rw [tI_uE hM_53]; decide
  have tq_54 : tq t (pp_su d_50 (300 + 2) 0) M_53 := tq_l ht (by decide) tq_49 (by decide : (0 : Int32).toInt = 0) hM_53
  obtain ⟨d_55, ed_55⟩ : ∃ z : Nat → Int, z = pp_su d_50 (300 + 2) 0 := ⟨_, rfl⟩
  rw [← ed_55] at tq_54
  refine lv_iinc (v := 3) (lv' := [(1, .int 3), (0, .ref (A t 0))]) hx hb dX8_clear_85 hl (k := 0) rfl (by decide) (by decide) rfl (fun ls hl => ?_)
  refine lv_goto (tgt := 70) hx hb dX8_clear_88 (by decide) ?_
  refine lv_iload_n hx hb dX8_clear_70 rfl (lv_at hl 0 rfl) ?_
  refine lv_iconst (v := 3) hx hb dX8_clear_71 (by decide) ?_
  refine sb_icmp_ge (tgt := 91) hx hb (by decide : (3 : Int32).toInt = 3) (by decide : (3 : Int32).toInt = 3) dX8_clear_72 (by decide) (fun c_72_55 => ?_) (fun h => absurd h (by decide))
  exact hQ _ _ _ _ _ hw (⟨iM_53, ((rf_I hM_53).trans ((rf_I hM_48).trans ((rf_I hM_43).trans ((rf_Y hM_37).trans ((rf_Y hM_33).trans ((rf_Y hM_29).trans ((rf_I hM_25).trans ((rf_I hM_22).trans ((rf_I hM_19).trans ((rf_I hM_16).trans ((rf_I hM_13).trans ((rf_I hM_10).trans ((rf_I hM_7).trans ((rf_I hM_4).trans (rf_I hM_1))))))))))))))), (f0.trans (f0_I hM_53 (f0n ob_52.1 (by decide))) (f0.trans (f0_I hM_48 (f0n ob_47.1 (by decide))) (f0.trans (f0_I hM_43 (f0n ob_42.1 (by decide))) (f0.trans (f0_of (ra_Y hM_37)) (f0.trans (f0_of (ra_Y hM_33)) (f0.trans (f0_of (ra_Y hM_29)) (f0.trans (f0_I hM_25 (f0n (ob_t ht).1 (by decide))) (f0.trans (f0_I hM_22 (f0n (ob_t ht).1 (by decide))) (f0.trans (f0_I hM_19 (f0n (ob_t ht).1 (by decide))) (f0.trans (f0_I hM_16 (f0n (ob_t ht).1 (by decide))) (f0.trans (f0_I hM_13 (f0n (ob_t ht).1 (by decide))) (f0.trans (f0_I hM_10 (f0n (ob_t ht).1 (by decide))) (f0.trans (f0_I hM_7 (f0n (ob_t ht).1 (by decide))) (f0.trans (f0_I hM_4 (f0n (ob_t ht).1 (by decide))) (f0_I hM_1 (f0n (ob_t ht).1 (by decide))))))))))))))))), ((tI_nE hM_53 (nk (by decide))).trans ((tI_nE hM_48 (nk (by decide))).trans ((tI_nE hM_43 (nk (by decide))).trans ((tI_uYE hM_37).trans ((tI_uYE hM_33).trans ((tI_uYE hM_29).trans ((tI_nE hM_25 (nk (by decide))).trans ((tI_nE hM_22 (nk (by decide))).trans ((tI_nE hM_19 (nk (by decide))).trans ((tI_nE hM_16 (nk (by decide))).trans ((tI_nE hM_13 (nk (by decide))).trans ((tI_nE hM_10 (nk (by decide))).trans ((tI_nE hM_7 (nk (by decide))).trans ((tI_nE hM_4 (nk (by decide))).trans (tI_nE hM_1 (nk (by decide))))))))))))))))), ((tI_nE hM_53 (no (cls_ne ob_1.1 ob_52.1 (by decide)))).trans ((tI_nE hM_48 (no (cls_ne ob_1.1 ob_47.1 (by decide)))).trans ((tI_nE hM_43 (no (cls_ne ob_1.1 ob_42.1 (by decide)))).trans ((tI_uYE hM_37).trans ((tI_uYE hM_33).trans ((tI_uYE hM_29).trans ((tI_nE hM_25 (nk (by decide))).trans ((tI_nE hM_22 (nk (by decide))).trans ((tI_nE hM_19 (nk (by decide))).trans ((tI_nE hM_16 (nk (by decide))).trans ((tI_nE hM_13 (nk (by decide))).trans ((tI_nE hM_10 (nk (by decide))).trans ((tI_nE hM_7 (nk (by decide))).trans ((tI_nE hM_4 (nk (by decide))).trans (tI_nE hM_1 (no (cls_ne ob_1.1 (ob_t ht).1 (by decide)))))))))))))))))), ((tI_nE hM_53 (nk (by decide))).trans ((tI_nE hM_48 (nk (by decide))).trans ((tI_nE hM_43 (nk (by decide))).trans ((tI_uYE hM_37).trans ((tI_uYE hM_33).trans ((tI_uYE hM_29).trans ((tI_nE hM_25 (nk (by decide))).trans ((tI_nE hM_22 (nk (by decide))).trans ((tI_nE hM_19 (nk (by decide))).trans ((tI_nE hM_16 (nk (by decide))).trans ((tI_nE hM_13 (nk (by decide))).trans ((tI_nE hM_10 (nk (by decide))).trans ((tI_nE hM_7 (nk (by decide))).trans ((tI_nE hM_4 (no (cls_ne ob_1.1 (ob_t ht).1 (by decide)))).trans (tI_nE hM_1 (nk (by decide))))))))))))))))), ((tI_nE hM_53 (nk (by decide))).trans ((tI_nE hM_48 (nk (by decide))).trans ((tI_nE hM_43 (nk (by decide))).trans ((tI_uYE hM_37).trans ((tI_uYE hM_33).trans ((tI_uYE hM_29).trans ((tI_nE hM_25 (nk (by decide))).trans ((tI_nE hM_22 (nk (by decide))).trans ((tI_nE hM_19 (nk (by decide))).trans ((tI_nE hM_16 (nk (by decide))).trans ((tI_nE hM_13 (nk (by decide))).trans ((tI_nE hM_10 (nk (by decide))).trans ((tI_nE hM_7 (no (cls_ne ob_1.1 (ob_t ht).1 (by decide)))).trans ((tI_nE hM_4 (nk (by decide))).trans (tI_nE hM_1 (nk (by decide))))))))))))))))), (ot.trans (ot_l ht (by decide) hM_53) (ot.trans (ot_l ht (by decide) hM_48) (ot.trans (ot_l ht (by decide) hM_43) (ot.trans (ot_Yt ht hM_37) (ot.trans (ot_Yt ht hM_33) (ot.trans (ot_Yt ht hM_29) (ot.trans (ot_I ht hM_25 (by omega)) (ot.trans (ot_I ht hM_22 (by omega)) (ot.trans (ot_I ht hM_19 (by omega)) (ot.trans (ot_I ht hM_16 (by omega)) (ot.trans (ot_I ht hM_13 (by omega)) (ot.trans (ot_I ht hM_10 (by omega)) (ot.trans (ot_I ht hM_7 (by omega)) (ot.trans (ot_I ht hM_4 (by omega)) (ot_I ht hM_1 (by omega)))))))))))))))), (by rw [((tI_nE hM_53 (no (cls_ne (ob_t ht).1 ob_52.1 (by decide)))).trans ((tI_nE hM_48 (no (cls_ne (ob_t ht).1 ob_47.1 (by decide)))).trans ((tI_nE hM_43 (no (cls_ne (ob_t ht).1 ob_42.1 (by decide)))).trans ((tI_uYE hM_37).trans ((tI_uYE hM_33).trans ((tI_uYE hM_29).trans ((tI_nE hM_25 (nk (by decide))).trans ((tI_nE hM_22 (nk (by decide))).trans ((tI_nE hM_19 (nk (by decide))).trans ((tI_nE hM_16 (nk (by decide))).trans ((tI_nE hM_13 (nk (by decide))).trans ((tI_nE hM_10 (nk (by decide))).trans ((tI_nE hM_7 (nk (by decide))).trans ((tI_nE hM_4 (nk (by decide))).trans (tI_uE hM_1)))))))))))))))]; decide), (by rw [((tI_nE hM_53 (nk (by decide))).trans ((tI_nE hM_48 (nk (by decide))).trans ((tI_nE hM_43 (nk (by decide))).trans ((tI_uYE hM_37).trans ((tI_uYE hM_33).trans ((tI_uYE hM_29).trans ((tI_nE hM_25 (nk (by decide))).trans ((tI_nE hM_22 (nk (by decide))).trans ((tI_nE hM_19 (nk (by decide))).trans ((tI_nE hM_16 (nk (by decide))).trans ((tI_nE hM_13 (nk (by decide))).trans ((tI_nE hM_10 (nk (by decide))).trans ((tI_nE hM_7 (nk (by decide))).trans (tI_uE hM_4))))))))))))))]; decide), (by rw [((tI_nE hM_53 (nk (by decide))).trans ((tI_nE hM_48 (nk (by decide))).trans ((tI_nE hM_43 (nk (by decide))).trans ((tI_uYE hM_37).trans ((tI_uYE hM_33).trans ((tI_uYE hM_29).trans ((tI_nE hM_25 (nk (by decide))).trans ((tI_nE hM_22 (nk (by decide))).trans ((tI_nE hM_19 (nk (by decide))).trans ((tI_nE hM_16 (nk (by decide))).trans ((tI_nE hM_13 (nk (by decide))).trans ((tI_nE hM_10 (nk (by decide))).trans (tI_uE hM_7)))))))))))))]; decide), (by unfold qq_cl; rw [← ed_12, ← ed_15, ← ed_18, ← ed_21, ← ed_24, ← ed_27, ← ed_31, ← ed_35, ← ed_39, ← ed_45, ← ed_50, ← ed_55]; exact tq_54)⟩) dX8_clear_91
section
variable (B : Nat → Int) (n : Nat)
def qq_rd : Nat → (Nat → Int) → (Nat → Int) → Nat → Int
  | 0, _, td => td
  | f + 1, s, td => if s 0 ≠ 27 ∧ s 4 = 0 then qq_rd f (pp_ln B n s) (qq_lb B n s td) else td
def qq_tx (J K : Nat → Int) : Nat → Int := qq_rd B n (n + 1) (pp_r0 B n J) (qq_cl K)
end
theorem qrd_step {B : Nat → Int} {n f f' : Nat} {s s' td td' : Nat → Int} (h : s 0 ≠ 27 ∧ s 4 = 0) (e : s' = pp_ln B n s) (e2 : td' = qq_lb B n s td) (hf : f = f' + 1) : qq_rd B n f s td = qq_rd B n f' s' td' := by
  subst e e2 hf
  rw [qq_rd, if_pos h]
theorem qrd_end {B : Nat → Int} {n f : Nat} {s td : Nat → Int} (h : f = 0 ∨ s 0 = 27 ∨ s 4 ≠ 0) : qq_rd B n f s td = td := by
  cases f with
  | zero => rfl
  | succ f => rw [qq_rd, if_neg (by omega)]
def pp_J (t : Nat) (M : ti_M) : Nat → Int := fun j => if 200 ≤ j then (tI M (ti_men t (j - 200)) 9).toInt else (tI M (ti_men t (j - 100)) 0).toInt
theorem rC_st {B : Nat → Int} {n t : Nat} {N : ti_M} (hB : pt_cB N = B) (hn : pt_cn N = n) (k0 : (tI N 2 4).toInt = pt_K B n 0) (k1 : (tI N 2 6).toInt = pt_V B n 0) (k2 : (tI N 2 5).toInt = ((pt_P B n 0 : Nat) : Int)) (k3 : (tI N 2 3).toInt = pt_A B n 0) (h3 : tI N 1 3 = 0) (h4 : (tI N 1 4).toInt = 0) (h5 : (tI N 1 5).toInt = -1) (t3 : (tI N t 3).toInt = 0) (t4 : (tI N t 4).toInt = 0) (t5 : (tI N t 5).toInt = 0) : rC B n t (pp_r0 B n (pp_J t N)) N := by
  have bz : ∀ k : Nat, pp_bt 0 k = 0 := fun k => by unfold pp_bt; simp
  have j1 : ∀ i : Nat, i < 8 → pp_r0 B n (pp_J t N) (100 + i) = pp_J t N (100 + i) := fun i hi => by
    unfold pp_r0
    rw [if_neg (by omega), if_neg (by omega), if_neg (by omega), if_neg (by omega), if_neg (by omega), if_neg (by omega), if_neg (by omega), if_neg (by omega)]
  have j2 : ∀ i : Nat, i < 8 → pp_r0 B n (pp_J t N) (200 + i) = pp_J t N (200 + i) := fun i hi => by
    unfold pp_r0
    rw [if_neg (by omega), if_neg (by omega), if_neg (by omega), if_neg (by omega), if_neg (by omega), if_neg (by omega), if_neg (by omega), if_neg (by omega)]
  refine ⟨⟨hB, hn⟩, ⟨k0.symm, k1.symm, k2.symm, k3.symm⟩, ⟨?_, ?_, fun k hk => ?_⟩, ⟨?_, ?_, ?_⟩, fun i hi => ⟨?_, ?_⟩⟩
  · rw [h4]; rfl
  · rw [h5]; rfl
  · rw [h3, bz]
    unfold pp_r0
    rw [if_neg (by omega), if_neg (by omega), if_neg (by omega), if_neg (by omega), if_neg (by omega), if_neg (by omega), if_neg (by omega), if_pos (by omega)]
  · rw [t4]; rfl
  · rw [t5]; rfl
  · rw [t3]; rfl
  · rw [j1 i hi]
    unfold pp_J
    rw [if_neg (by omega), show 100 + i - 100 = i by omega]
  · rw [j2 i hi]
    unfold pp_J
    rw [if_pos (by omega), show 200 + i - 200 = i by omega]
theorem cI_cB {M : ti_M} {B : Nat → Int} (h : cI Tc M) (hB : B = fun i => (Tc.1 i &&& 255).toInt) : pt_cB M = B := by
  rw [hB]
  unfold pt_cB
  rw [show tY M 2 0 = Tc.1 from congrArg (fun t => t.1) h.2.2]
theorem cn_e {N : ti_M} {nn : Int32} {n : Nat} (h : (tI N 2 2).toInt = nn.toInt) (hn : n = nn.toInt.toNat) : pt_cn N = n := by
  unfold pt_cn
  rw [h, hn]
set_option maxHeartbeats 4000000 in
set_option maxRecDepth 100000 in
theorem x_X4_read (l : Launch) (D : va_G) (A : Nat → Nat → Nat) (cy : Nat → ClassId) (hJ : ti_inj ti_LT A) (M : ti_M) (hI : cI Tc M) (t : Nat) (ht : t = 3 ∨ t = 4) (nn : Int32) (h1 : 0 ≤ nn.toInt) (h2 : nn.toInt ≤ 700) (B : Nat → Int) (n : Nat) (hB : B = fun i => (Tc.1 i &&& 255).toInt) (hn : n = nn.toInt.toNat) : ti_KiE l yX4_read cX4_read 4 (some .boolean) 72 ti_LT D A cy M [.ref (A 1 0), .int nn, .ref (A t 0)] (fun r M2 => cI Tc M2 ∧ rR M2 M ∧ f0 M2 M ∧ tI M2 2 1 = tI M 2 1 ∧ ot t M2 M ∧ ∃ J K : Nat → Int, rC B n t (pp_tx B n J) M2 ∧ tq t (qq_tx B n J K) M2 ∧ ((r = 1 ∧ pp_tx B n J 4 = 0) ∨ (r = 0 ∧ pp_tx B n J 4 ≠ 0))) := by
  refine ti_eIE yp_X4_read hJ ti_LT_nd (Nat.le_of_ble_eq_true rfl) ?_
  intro p e s m args below meth c Q H0 C hE hQ hw ls hl
  have hx := C.1
  have hb := C.2.1
  have hl : lv_has ls 4 [(0, .ref (A 1 0)), (1, .int nn), (2, .ref (A t 0))] := hl
  obtain ⟨td, etd⟩ : ∃ z : Nat → Int, z = qJ t M := ⟨_, rfl⟩
  have hq : tq t td M := by rw [etd]; exact tq_J
  refine lv_aload_n hx hb dX4_read_0 rfl (lv_at hl 0 rfl) ?_
  refine lv_aload_n hx hb dX4_read_1 rfl (lv_at hl 2 rfl) ?_
  refine ti_putT (ci := 4) (k := 1) (N := 6) (T := TX4) C hw iw_4 tyX4 tyX4_ok nmX4 rfl ob_1 (by decide) (by decide) fl_X4_28 rfl rfl rfl rfl (fn_4 A _) fs_4_1 dX4_read_2 (fun H locs hw => ?_)
  obtain ⟨M_1, hM_1⟩ : ∃ z : ti_M, z = uT M 1 1 (some t) := ⟨_, rfl⟩
  have hw := hw.to hM_1.symm
  have iM_1 : cI Tc M_1 := cI_uT hI hM_1
  have tq_2 : tq t td M_1 := tq_T hq hM_1
  refine lv_aload_n hx hb dX4_read_5 rfl (lv_at hl 0 rfl) ?_
  refine ti_get (ci := 4) (k := 1) (N := 6) (T := TX4) (v := .ref (A t 0)) C hw iw_4 rfl ob_1 (by decide) (by decide) fl_X4_28 rfl (ti_Tv (tT_uE hM_1)) dX4_read_6 ?_
  refine ti_callVv (ci := 8) (av := []) C hw (x_X8_clear l D A cy hJ M_1 iM_1 t ht td tq_2) ⟨ml_X4_32, ym_X8_clear, yv_X8_clear, yi_X8_clear, yc_X8_clear⟩ yd_X8_clear (ob_t ht) (by decide) rfl rfl hl.1 (Nat.le_of_ble_eq_true rfl) ⟨by decide, by decide⟩ ⟨Nat.zero_le _, Nat.zero_le _⟩ dX4_read_9 (fun M_4 H locs hp_4 hw => ?_)
  obtain ⟨iM_4, q_5, q_6, q_7, q_8, q_9, q_10, q_11, p0r_3, p1r_3, p2r_3, p3r_3⟩ := hp_4
  obtain ⟨d_12, ed_12⟩ : ∃ z : Nat → Int, z = qq_cl td := ⟨_, rfl⟩
  rw [← ed_12] at p3r_3
  refine lv_aload_n hx hb dX4_read_12 rfl (lv_at hl 0 rfl) ?_
  refine lv_iconst (v := 0) hx hb dX4_read_13 (by decide) ?_
  refine ti_putI (ci := 4) (k := 3) (N := 6) (T := TX4) C hw iw_4 tyX4 tyX4_ok nmX4 rfl ob_1 (by decide) (by decide) fl_X4_18 rfl rfl rfl rfl (fn_4 A _) fs_4_3 dX4_read_14 (fun H locs hw => ?_)
  obtain ⟨M_13, hM_13⟩ : ∃ z : ti_M, z = uI M_4 1 3 0 := ⟨_, rfl⟩
  have hw := hw.to hM_13.symm
  have iM_13 : cI Tc M_13 := cI_uI iM_4 hM_13 ob_1.1 trivial
  have tq_15 : tq t d_12 M_13 := tq_I0 ht p3r_3 hM_13 (by decide)
  refine lv_aload_n hx hb dX4_read_17 rfl (lv_at hl 0 rfl) ?_
  refine lv_iconst (v := 0) hx hb dX4_read_18 (by decide) ?_
  refine ti_putI (ci := 4) (k := 4) (N := 6) (T := TX4) C hw iw_4 tyX4 tyX4_ok nmX4 rfl ob_1 (by decide) (by decide) fl_X4_22 rfl rfl rfl rfl (fn_4 A _) fs_4_4 dX4_read_19 (fun H locs hw => ?_)
  obtain ⟨M_16, hM_16⟩ : ∃ z : ti_M, z = uI M_13 1 4 0 := ⟨_, rfl⟩
  have hw := hw.to hM_16.symm
  have iM_16 : cI Tc M_16 := cI_uI iM_13 hM_16 ob_1.1 trivial
  have tq_18 : tq t d_12 M_16 := tq_I0 ht tq_15 hM_16 (by decide)
  refine lv_aload_n hx hb dX4_read_22 rfl (lv_at hl 0 rfl) ?_
  refine lv_iconst (v := (-1)) hx hb dX4_read_23 (by decide) ?_
  refine ti_putI (ci := 4) (k := 5) (N := 6) (T := TX4) C hw iw_4 tyX4 tyX4_ok nmX4 rfl ob_1 (by decide) (by decide) fl_X4_25 rfl rfl rfl rfl (fn_4 A _) fs_4_5 dX4_read_24 (fun H locs hw => ?_)
  obtain ⟨M_19, hM_19⟩ : ∃ z : ti_M, z = uI M_16 1 5 (-1) := ⟨_, rfl⟩
  have hw := hw.to hM_19.symm
  have iM_19 : cI Tc M_19 := cI_uI iM_16 hM_19 ob_1.1 trivial
  have tq_21 : tq t d_12 M_19 := tq_I0 ht tq_18 hM_19 (by decide)
  refine lv_aload_n hx hb dX4_read_27 rfl (lv_at hl 0 rfl) ?_
  refine ti_get (ci := 4) (k := 0) (N := 6) (T := TX4) (v := .ref (A 2 0)) C hw iw_4 rfl ob_1 (by decide) (by decide) fl_X4_12 rfl rfl dX4_read_28 ?_
  refine lv_iload_n hx hb dX4_read_31 rfl (lv_at hl 1 rfl) ?_
  refine ti_callVvE (ci := 7) (av := [.int nn]) C hE hw (x_X7_begin l D A cy hJ M_19 iM_19 nn (by omega) (by omega)) ⟨ml_X4_37, ym_X7_begin, yv_X7_begin, yi_X7_begin, yc_X7_begin⟩ yd_X7_begin ob_2 (by decide) rfl rfl hl.1 (Nat.le_of_ble_eq_true rfl) ⟨by decide, by decide⟩ ⟨Nat.zero_le _, Nat.zero_le _⟩ dX4_read_32 (fun M_23 H locs hp_23 hw => ?_)
  obtain ⟨iM_23, q_24, q_25, q_26, y0M_23, y1M_23, k0M_23, k1M_23, k2M_23, k3M_23⟩ := hp_23
  have en : nn.toInt.toNat = n := hn.symm
  have eB := cI_cB iM_19 hB
  rw [eB, en] at k0M_23 k1M_23 k2M_23 k3M_23
  have hs0 := rC_st (t := t) (cI_cB iM_23 hB) (cn_e y1M_23 hn) k0M_23 k1M_23 k2M_23 k3M_23 (((q_25 1 3 (by decide)).trans ((tI_nE hM_19 (nk (by decide))).trans ((tI_nE hM_16 (nk (by decide))).trans (tI_uE hM_13))))) (by rw [((q_25 1 4 (by decide)).trans ((tI_nE hM_19 (nk (by decide))).trans (tI_uE hM_16)))]; decide) (by rw [((q_25 1 5 (by decide)).trans (tI_uE hM_19))]; decide) ((congrArg Int32.toInt (((q_25 t 3 (by omega)).trans ((tI_nE hM_19 (no (by omega))).trans ((tI_nE hM_16 (no (by omega))).trans (tI_nE hM_13 (no (by omega)))))))).trans p0r_3) ((congrArg Int32.toInt (((q_25 t 4 (by omega)).trans ((tI_nE hM_19 (no (by omega))).trans ((tI_nE hM_16 (no (by omega))).trans (tI_nE hM_13 (no (by omega)))))))).trans p1r_3) ((congrArg Int32.toInt (((q_25 t 5 (by omega)).trans ((tI_nE hM_19 (no (by omega))).trans ((tI_nE hM_16 (no (by omega))).trans (tI_nE hM_13 (no (by omega)))))))).trans p2r_3)
  obtain ⟨J, eJ⟩ : ∃ z : Nat → Int, z = pp_J t M_23 := ⟨_, rfl⟩
  rw [← eJ] at hs0
  obtain ⟨g_27, eg_27⟩ : ∃ z : Nat → Int, z = pp_r0 B n J := ⟨_, rfl⟩
  rw [← eg_27] at hs0
  have lg_27_0 : g_27 0 = (tI M_23 2 4).toInt := hs0.2.1.1
  have lg_27_1 : g_27 1 = (tI M_23 2 6).toInt := hs0.2.1.2.1
  have lg_27_4 : g_27 4 = (tI M_23 1 4).toInt := hs0.2.2.1.1
  have lg_27_7 : g_27 7 = (tI M_23 t 4).toInt := hs0.2.2.2.1.1
  have lg_27_8 : g_27 8 = (tI M_23 t 5).toInt := hs0.2.2.2.1.2.1
  have lg_27_9 : g_27 9 = (tI M_23 t 3).toInt := hs0.2.2.2.1.2.2
  have tq_28 : tq t d_12 M_23 := tq_fr ht tq_21 (o2_12 q_25) y0M_23
  have n0 : g_27 9 = 0 := by rw [eg_27]; rfl
  refine lv_iconst (v := 0) hx hb dX4_read_35 (by decide) ?_
  refine lv_istore_n (lv' := [(3, .int 0), (0, .ref (A 1 0)), (1, .int nn), (2, .ref (A t 0))]) hx hb dX4_read_36 rfl hl (by decide) rfl (fun ls hl => ?_)
  have hl_37_44 : ∀ (n_45 : Nat) (x_29 : Int32) (M_32 : ti_M) (g_38 : Nat → Int) (d_40 : Nat → Int) (H : Heap) (locs : List Loc) (ls : Array Slot), (701 - x_29.toInt : Int).toNat < n_45 → (0 ≤ x_29.toInt) → (x_29.toInt ≤ 701) → (cI Tc M_32) → (rR M_32 M) → (f0 M_32 M) → (tI M_32 2 1 = tI M 2 1) → (ot t M_32 M) → (tT M_32 1 1 = (some t)) → (rC B n t g_38 M_32) → (tq t d_40 M_32) → (pp_tx B n J = pp_rd B n (n + 1 - (x_29.toInt).toNat) g_38) → (qq_tx B n J td = qq_rd B n (n + 1 - (x_29.toInt).toNat) g_38 d_40) → (g_38 9 = x_29.toInt) → ti_H ti_LT D A cy H0 M_32 H locs → lv_has ls 4 [(3, .int x_29), (0, .ref (A 1 0)), (1, .int nn), (2, .ref (A t 0))] → W p l e (ti_rm 72) s m args below meth c H locs 0 0 Q (F0 m 37 ls []) := by
    intro n_45
    induction n_45 with
    | zero => intro x_29 M_32 g_38 d_40 H locs ls hf_45; exact absurd hf_45 (Nat.not_lt_zero _)
    | succ n_45 ih_45 =>
      intro x_29 M_32 g_38 d_40 H locs ls hf_45 b_30 b_31 iM_32 f_33 f_34 f_35 f_36 f_37 hs_39 tq_41 j_42 j_43 j_44 hw hl
      have lg_38_0 : g_38 0 = (tI M_32 2 4).toInt := hs_39.2.1.1
      have lg_38_1 : g_38 1 = (tI M_32 2 6).toInt := hs_39.2.1.2.1
      have lg_38_4 : g_38 4 = (tI M_32 1 4).toInt := hs_39.2.2.1.1
      have lg_38_7 : g_38 7 = (tI M_32 t 4).toInt := hs_39.2.2.2.1.1
      have lg_38_8 : g_38 8 = (tI M_32 t 5).toInt := hs_39.2.2.2.1.2.1
      have lg_38_9 : g_38 9 = (tI M_32 t 3).toInt := hs_39.2.2.2.1.2.2
      refine lv_iload_n hx hb dX4_read_37 rfl (lv_at hl 0 rfl) ?_
      refine lv_iload_n hx hb dX4_read_38 rfl (lv_at hl 2 rfl) ?_
      refine sb_icmp_gt (tgt := 298) hx hb rfl rfl dX4_read_39 (by decide) (fun c_39_45 => ?_) (fun c_39_45 => ?_)
      · refine lv_aload_n hx hb dX4_read_298 rfl (lv_at hl 1 rfl) ?_
        refine ti_get (ci := 4) (k := 4) (N := 6) (T := TX4) C hw iw_4 rfl ob_1 (by decide) (by decide) fl_X4_22 rfl rfl dX4_read_299 ?_
        refine lv_topi (fun x_235 ex_235 => ?_)
        have u_236 : (tI M_32 1 4).toInt = x_235.toInt := by rw [ex_235]
        refine sb_if_ne (tgt := 309) hx hb rfl dX4_read_302 (by decide) (fun c_302_236 => ?_) (fun c_302_236 => ?_)
        · refine lv_iconst (v := 0) hx hb dX4_read_309 (by decide) ?_
          exact hQ _ _ _ _ _ _ hw rfl (⟨iM_32, f_33, f_34, (f_35), f_36, ⟨J, td, (by rw [show pp_tx B n J = g_38 from j_42.trans (rd_end (by omega))]; exact hs_39), (by rw [show qq_tx B n J td = d_40 from j_43.trans (qrd_end (by omega))]; exact tq_41), (by rw [show pp_tx B n J = g_38 from j_42.trans (rd_end (by omega))]; exact Or.inr ⟨rfl, by omega⟩)⟩⟩) dX4_read_310
        · refine lv_iconst (v := 1) hx hb dX4_read_305 (by decide) ?_
          refine lv_goto (tgt := 310) hx hb dX4_read_306 (by decide) ?_
          exact hQ _ _ _ _ _ _ hw rfl (⟨iM_32, f_33, f_34, (f_35), f_36, ⟨J, td, (by rw [show pp_tx B n J = g_38 from j_42.trans (rd_end (by omega))]; exact hs_39), (by rw [show qq_tx B n J td = d_40 from j_43.trans (qrd_end (by omega))]; exact tq_41), (by rw [show pp_tx B n J = g_38 from j_42.trans (rd_end (by omega))]; exact Or.inl ⟨rfl, by omega⟩)⟩⟩) dX4_read_310
      · refine lv_aload_n hx hb dX4_read_42 rfl (lv_at hl 1 rfl) ?_
        refine ti_get (ci := 4) (k := 0) (N := 6) (T := TX4) (v := .ref (A 2 0)) C hw iw_4 rfl ob_1 (by decide) (by decide) fl_X4_12 rfl rfl dX4_read_43 ?_
        refine ti_get (ci := 7) (k := 4) (N := 7) (T := TX7) C hw iw_7 rfl ob_2 (by decide) (by decide) fl_X4_41 rfl rfl dX4_read_46 ?_
        refine lv_topi (fun x_47 ex_47 => ?_)
        have bx_47 : 0 ≤ x_47.toInt ∧ x_47.toInt ≤ 41 := cI_rd iM_32 ob_2.1 ex_47
        have ux_47 : (tI M_32 2 4).toInt = x_47.toInt := by rw [ex_47]
        refine lv_bipush (v := 27) hx hb dX4_read_49 (by decide) ?_
        refine sb_icmp_eq (tgt := 298) hx hb rfl (by decide : (27 : Int32).toInt = 27) dX4_read_51 (by decide) (fun c_51_47 => ?_) (fun c_51_47 => ?_)
        · refine lv_aload_n hx hb dX4_read_298 rfl (lv_at hl 1 rfl) ?_
          refine ti_get (ci := 4) (k := 4) (N := 6) (T := TX4) C hw iw_4 rfl ob_1 (by decide) (by decide) fl_X4_22 rfl rfl dX4_read_299 ?_
          refine lv_topi (fun x_238 ex_238 => ?_)
          have u_239 : (tI M_32 1 4).toInt = x_238.toInt := by rw [ex_238]
          refine sb_if_ne (tgt := 309) hx hb rfl dX4_read_302 (by decide) (fun c_302_239 => ?_) (fun c_302_239 => ?_)
          · refine lv_iconst (v := 0) hx hb dX4_read_309 (by decide) ?_
            exact hQ _ _ _ _ _ _ hw rfl (⟨iM_32, f_33, f_34, (f_35), f_36, ⟨J, td, (by rw [show pp_tx B n J = g_38 from j_42.trans (rd_end (by omega))]; exact hs_39), (by rw [show qq_tx B n J td = d_40 from j_43.trans (qrd_end (by omega))]; exact tq_41), (by rw [show pp_tx B n J = g_38 from j_42.trans (rd_end (by omega))]; exact Or.inr ⟨rfl, by omega⟩)⟩⟩) dX4_read_310
          · refine lv_iconst (v := 1) hx hb dX4_read_305 (by decide) ?_
            refine lv_goto (tgt := 310) hx hb dX4_read_306 (by decide) ?_
            exact hQ _ _ _ _ _ _ hw rfl (⟨iM_32, f_33, f_34, (f_35), f_36, ⟨J, td, (by rw [show pp_tx B n J = g_38 from j_42.trans (rd_end (by omega))]; exact hs_39), (by rw [show qq_tx B n J td = d_40 from j_43.trans (qrd_end (by omega))]; exact tq_41), (by rw [show pp_tx B n J = g_38 from j_42.trans (rd_end (by omega))]; exact Or.inl ⟨rfl, by omega⟩)⟩⟩) dX4_read_310
        · refine lv_aload_n hx hb dX4_read_54 rfl (lv_at hl 1 rfl) ?_
          refine ti_get (ci := 4) (k := 4) (N := 6) (T := TX4) C hw iw_4 rfl ob_1 (by decide) (by decide) fl_X4_22 rfl rfl dX4_read_55 ?_
          refine lv_topi (fun x_49 ex_49 => ?_)
          have u_50 : (tI M_32 1 4).toInt = x_49.toInt := by rw [ex_49]
          refine sb_if_ne (tgt := 298) hx hb rfl dX4_read_58 (by decide) (fun c_58_50 => ?_) (fun c_58_50 => ?_)
          · refine lv_aload_n hx hb dX4_read_298 rfl (lv_at hl 1 rfl) ?_
            refine ti_get (ci := 4) (k := 4) (N := 6) (T := TX4) C hw iw_4 rfl ob_1 (by decide) (by decide) fl_X4_22 rfl rfl dX4_read_299 ?_
            refine ti_top (y := x_49) (ex_49.symm) ?_
            refine sb_if_ne (tgt := 309) hx hb rfl dX4_read_302 (by decide) (fun c_302_240 => ?_) (fun c_302_240 => ?_)
            · refine lv_iconst (v := 0) hx hb dX4_read_309 (by decide) ?_
              exact hQ _ _ _ _ _ _ hw rfl (⟨iM_32, f_33, f_34, (f_35), f_36, ⟨J, td, (by rw [show pp_tx B n J = g_38 from j_42.trans (rd_end (by omega))]; exact hs_39), (by rw [show qq_tx B n J td = d_40 from j_43.trans (qrd_end (by omega))]; exact tq_41), (by rw [show pp_tx B n J = g_38 from j_42.trans (rd_end (by omega))]; exact Or.inr ⟨rfl, by omega⟩)⟩⟩) dX4_read_310
            · refine lv_iconst (v := 1) hx hb dX4_read_305 (by decide) ?_
              refine lv_goto (tgt := 310) hx hb dX4_read_306 (by decide) ?_
              exact hQ _ _ _ _ _ _ hw rfl (⟨iM_32, f_33, f_34, (f_35), f_36, ⟨J, td, (by rw [show pp_tx B n J = g_38 from j_42.trans (rd_end (by omega))]; exact hs_39), (by rw [show qq_tx B n J td = d_40 from j_43.trans (qrd_end (by omega))]; exact tq_41), (by rw [show pp_tx B n J = g_38 from j_42.trans (rd_end (by omega))]; exact Or.inl ⟨rfl, by omega⟩)⟩⟩) dX4_read_310
          · refine lv_aload_n hx hb dX4_read_61 rfl (lv_at hl 1 rfl) ?_
            refine ti_get (ci := 4) (k := 0) (N := 6) (T := TX4) (v := .ref (A 2 0)) C hw iw_4 rfl ob_1 (by decide) (by decide) fl_X4_12 rfl rfl dX4_read_62 ?_
            refine ti_get (ci := 7) (k := 4) (N := 7) (T := TX7) C hw iw_7 rfl ob_2 (by decide) (by decide) fl_X4_41 rfl rfl dX4_read_65 ?_
            refine ti_top (y := x_47) (ex_47.symm) ?_
            have u_52 : (tI M_32 2 4).toInt = (x_47 : Int32).toInt := by rw [(ex_47.symm)]
            have hj_273_217 : ∀ (M_206 : ti_M) (g_212 : Nat → Int) (d_214 : Nat → Int) (H : Heap) (locs : List Loc) (ls : Array Slot), (cI Tc M_206) → (rR M_206 M) → (f0 M_206 M) → (tI M_206 2 1 = tI M 2 1) → (ot t M_206 M) → (tT M_206 1 1 = (some t)) → (rC B n t g_212 M_206) → (tq t d_214 M_206) → (pp_lb B n g_38 = g_212) → (qq_lb B n g_38 d_40 = d_214) → ti_H ti_LT D A cy H0 M_206 H locs → lv_has ls 4 [(3, .int x_29), (0, .ref (A 1 0)), (1, .int nn), (2, .ref (A t 0))] → W p l e (ti_rm 72) s m args below meth c H locs 0 0 Q (F0 m 273 ls []) := by
              intro M_206 g_212 d_214 H locs ls iM_206 f_207 f_208 f_209 f_210 f_211 hs_213 tq_215 j_216 j_217 hw hl
              have lg_212_0 : g_212 0 = (tI M_206 2 4).toInt := hs_213.2.1.1
              have lg_212_1 : g_212 1 = (tI M_206 2 6).toInt := hs_213.2.1.2.1
              have lg_212_4 : g_212 4 = (tI M_206 1 4).toInt := hs_213.2.2.1.1
              have lg_212_7 : g_212 7 = (tI M_206 t 4).toInt := hs_213.2.2.2.1.1
              have lg_212_8 : g_212 8 = (tI M_206 t 5).toInt := hs_213.2.2.2.1.2.1
              have lg_212_9 : g_212 9 = (tI M_206 t 3).toInt := hs_213.2.2.2.1.2.2
              refine lv_aload_n hx hb dX4_read_273 rfl (lv_at hl 1 rfl) ?_
              refine lv_bipush (v := 29) hx hb dX4_read_274 (by decide) ?_
              refine ti_callVvE (ci := 4) (av := [.int 29]) C hE hw (x_X4_take l D A cy hJ M_206 iM_206 t ht 29 B n g_212 hs_213) ⟨ml_X4_85, ym_X4_take, yv_X4_take, yi_X4_take, yc_X4_take⟩ yd_X4_take ob_1 (by decide) rfl rfl hl.1 (Nat.le_of_ble_eq_true rfl) ⟨by decide, by decide⟩ ⟨Nat.zero_le _, Nat.zero_le _⟩ dX4_read_276 (fun M_219 H locs hp_219 hw => ?_)
              obtain ⟨iM_219, q_220, q_221, q_222, q_223, p0r_218⟩ := hp_219
              have hlr_218_29 : (29 : Int32).toInt = 29 := by decide
              simp only [hlr_218_29] at p0r_218
              obtain ⟨g_224, eg_224⟩ : ∃ z : Nat → Int, z = pp_tk B n 29 g_212 := ⟨_, rfl⟩
              rw [← eg_224] at p0r_218
              have lg_224_0 : g_224 0 = (tI M_219 2 4).toInt := p0r_218.2.1.1
              have lg_224_1 : g_224 1 = (tI M_219 2 6).toInt := p0r_218.2.1.2.1
              have lg_224_4 : g_224 4 = (tI M_219 1 4).toInt := p0r_218.2.2.1.1
              have lg_224_7 : g_224 7 = (tI M_219 t 4).toInt := p0r_218.2.2.2.1.1
              have lg_224_8 : g_224 8 = (tI M_219 t 5).toInt := p0r_218.2.2.2.1.2.1
              have lg_224_9 : g_224 9 = (tI M_219 t 3).toInt := p0r_218.2.2.2.1.2.2
              have tq_225 : tq t d_214 M_219 := tq_fr ht tq_215 q_221 q_223
              refine lv_aload_n hx hb dX4_read_279 rfl (lv_at hl 1 rfl) ?_
              refine ti_get (ci := 4) (k := 1) (N := 6) (T := TX4) (v := .ref (A t 0)) C hw iw_4 rfl ob_1 (by decide) (by decide) fl_X4_28 rfl (ti_Tv ((tT_fr q_220).trans f_211)) dX4_read_280 ?_
              refine lv_dup hx hb dX4_read_283 rfl ?_
              refine ti_get (ci := 8) (k := 3) (N := 12) (T := TX8) C hw iw_8 rfl (ob_t ht) (by decide) (by decide) fl_X4_88 rfl rfl dX4_read_284 ?_
              refine lv_topi (fun x_226 ex_226 => ?_)
              have u_227 : (tI M_219 t 3).toInt = x_226.toInt := by rw [ex_226]
              refine lv_iconst (v := 1) hx hb dX4_read_287 (by decide) ?_
              have n9 : g_224 9 = g_38 9 := by rw [eg_224, tk_n (by decide), ← j_216]; exact lb_9
              have l9 : g_224 9 = (x_226 : Int32).toInt := (p0r_218.2.2.2.1.2.2).trans (congrArg Int32.toInt (ex_226.symm))
              refine lv_iadd hx hb dX4_read_288 ?_
              refine lv_topi (fun x_228 ex_228 => ?_)
              have lox_228x_226 := x_226.le_toInt
              have hix_228x_226 := x_226.toInt_lt
              have tx_228 : x_228.toInt = x_226.toInt + 1 := i_add ex_228 rfl (by decide : (1 : Int32).toInt = 1) (by omega) (by omega)
              refine ti_putI (ci := 8) (k := 3) (N := 12) (T := TX8) C hw iw_8 tyX8 tyX8_ok nmX8 rfl (ob_t ht) (by decide) (by decide) fl_X4_88 rfl rfl rfl rfl (fn_8 A _) fs_8_3 dX4_read_289 (fun H locs hw => ?_)
              obtain ⟨M_229, hM_229⟩ : ∃ z : ti_M, z = uI M_219 t 3 x_228 := ⟨_, rfl⟩
              have hw := hw.to hM_229.symm
              have iM_229 : cI Tc M_229 := cI_uI iM_219 hM_229 (ob_t ht).1 trivial
              have hs_230 := rC_t3 ht hM_229 p0r_218
              obtain ⟨g_231, eg_231⟩ : ∃ z : Nat → Int, z = pp_su g_224 9 x_228.toInt := ⟨_, rfl⟩
              rw [← eg_231] at hs_230
              have lg_231_0 : g_231 0 = (tI M_229 2 4).toInt := hs_230.2.1.1
              have lg_231_1 : g_231 1 = (tI M_229 2 6).toInt := hs_230.2.1.2.1
              have lg_231_4 : g_231 4 = (tI M_229 1 4).toInt := hs_230.2.2.1.1
              have lg_231_7 : g_231 7 = (tI M_229 t 4).toInt := hs_230.2.2.2.1.1
              have lg_231_8 : g_231 8 = (tI M_229 t 5).toInt := hs_230.2.2.2.1.2.1
              have lg_231_9 : g_231 9 = (tI M_229 t 3).toInt := hs_230.2.2.2.1.2.2
              have tq_233 : tq t d_214 M_229 := tq_t0 ht tq_225 hM_229 (by decide)
              have t9 : g_231 9 = (x_228 : Int32).toInt := (hs_230.2.2.2.1.2.2).trans (congrArg Int32.toInt (tI_uE hM_229))
              obtain ⟨x_234, ex_234⟩ : ∃ z : Int32, z = x_29 + 1 := ⟨_, rfl⟩
              have tx_234 : x_234.toInt = x_29.toInt + 1 := i_add ex_234 rfl (by decide) (by omega) (by omega)
              refine lv_iinc (v := x_234) (lv' := [(3, .int x_234), (0, .ref (A 1 0)), (1, .int nn), (2, .ref (A t 0))]) hx hb dX4_read_292 hl (k := 0) rfl (by rw [ex_234]; rfl) (by decide) rfl (fun ls hl => ?_)
              refine lv_goto (tgt := 37) hx hb dX4_read_295 (by decide) ?_
              exact ih_45 x_234 M_229 g_231 d_214 _ _ _ (by omega) (by first | omega | decide) (by first | omega | decide) iM_229 (rR.trans (rr_of (rf_I hM_229)) (rR.trans (rr_of q_220) f_207)) (f0.trans (f0_I hM_229 (f0n (ob_t ht).1 (by decide))) (f0.trans (f0_12 q_221) f_208)) ((tI_nE hM_229 (nk (by decide))).trans ((q_222).trans f_209)) (ot.trans (ot_I ht hM_229 (by omega)) (ot.trans (ot_12 ht q_221 q_223) f_210)) ((tT_uIE hM_229).trans ((tT_fr q_220).trans f_211)) hs_230 tq_233 (j_42.trans (rd_step ⟨by omega, by omega⟩ (show g_231 = pp_ln B n g_38 by unfold pp_ln; rw [j_216, ← eg_224]; unfold pp_l9; rw [show g_224 9 + 1 = x_228.toInt by omega, ← eg_231]) (by omega))) (j_43.trans (qrd_step ⟨by omega, by omega⟩ (show g_231 = pp_ln B n g_38 by unfold pp_ln; rw [j_216, ← eg_224]; unfold pp_l9; rw [show g_224 9 + 1 = x_228.toInt by omega, ← eg_231]) j_217.symm (by omega))) (by first | omega | decide) hw (lv_sub hl [0, 1, 2, 3] rfl)
            by_cases s_53_0 : x_47 = 0
            · have qs_53_0 : x_47.toInt = 0 := by rw [s_53_0]; decide
              refine lv_tableIn (tgt := 120) (off := 52) hx hb dX4_read_68 (by rw [s_53_0]; decide) (by rw [s_53_0]; decide) (by rw [s_53_0]; decide) (by decide) ?_
              refine lv_aload_n hx hb dX4_read_120 rfl (lv_at hl 1 rfl) ?_
              refine ti_callVvE (ci := 4) (av := []) C hE hw (x_X4_readMan l D A cy hJ M_32 iM_32 t ht (f_37) B n g_38 hs_39 d_40 tq_41) ⟨ml_X4_44, ym_X4_readMan, yv_X4_readMan, yi_X4_readMan, yc_X4_readMan⟩ yd_X4_readMan ob_1 (by decide) rfl rfl hl.1 (Nat.le_of_ble_eq_true rfl) ⟨by decide, by decide⟩ ⟨Nat.zero_le _, Nat.zero_le _⟩ dX4_read_121 (fun M_55 H locs hp_55 hw => ?_)
              obtain ⟨iM_55, q_56, q_57, q_58, q_59, p0r_54, p1r_54⟩ := hp_55
              obtain ⟨g_60, eg_60⟩ : ∃ z : Nat → Int, z = pp_mn B n g_38 := ⟨_, rfl⟩
              rw [← eg_60] at p0r_54
              have lg_60_0 : g_60 0 = (tI M_55 2 4).toInt := p0r_54.2.1.1
              have lg_60_1 : g_60 1 = (tI M_55 2 6).toInt := p0r_54.2.1.2.1
              have lg_60_4 : g_60 4 = (tI M_55 1 4).toInt := p0r_54.2.2.1.1
              have lg_60_7 : g_60 7 = (tI M_55 t 4).toInt := p0r_54.2.2.2.1.1
              have lg_60_8 : g_60 8 = (tI M_55 t 5).toInt := p0r_54.2.2.2.1.2.1
              have lg_60_9 : g_60 9 = (tI M_55 t 3).toInt := p0r_54.2.2.2.1.2.2
              obtain ⟨d_61, ed_61⟩ : ∃ z : Nat → Int, z = qq_mn B n g_38 d_40 := ⟨_, rfl⟩
              rw [← ed_61] at p1r_54
              refine lv_goto (tgt := 273) hx hb dX4_read_124 (by decide) ?_
              exact hj_273_217 M_55 g_60 d_61 _ _ _ iM_55 (rR.trans (rr_of q_56) f_33) (f0.trans q_57 f_34) ((q_58).trans f_35) (ot.trans q_59 f_36) ((tT_fr q_56).trans f_37) p0r_54 p1r_54 (by unfold pp_lb; rw [if_pos (by omega), ← eg_60]) (by unfold qq_lb; rw [if_pos (by omega), ← ed_61]) hw (lv_sub hl [0, 1, 2, 3] rfl)
            · have qs_53_0 : x_47.toInt ≠ 0 := pt_ne s_53_0 (by decide)
              by_cases s_53_1 : x_47 = 1
              · have qs_53_1 : x_47.toInt = 1 := by rw [s_53_1]; decide
                refine lv_tableIn (tgt := 127) (off := 59) hx hb dX4_read_68 (by rw [s_53_1]; decide) (by rw [s_53_1]; decide) (by rw [s_53_1]; decide) (by decide) ?_
                refine lv_aload_n hx hb dX4_read_127 rfl (lv_at hl 1 rfl) ?_
                refine ti_callVvE (ci := 4) (av := []) C hE hw (x_X4_readGuard l D A cy hJ M_32 iM_32 t ht (f_37) B n g_38 hs_39 d_40 tq_41) ⟨ml_X4_47, ym_X4_readGuard, yv_X4_readGuard, yi_X4_readGuard, yc_X4_readGuard⟩ yd_X4_readGuard ob_1 (by decide) rfl rfl hl.1 (Nat.le_of_ble_eq_true rfl) ⟨by decide, by decide⟩ ⟨Nat.zero_le _, Nat.zero_le _⟩ dX4_read_128 (fun M_63 H locs hp_63 hw => ?_)
                obtain ⟨iM_63, q_64, q_65, q_66, q_67, p0r_62, p1r_62⟩ := hp_63
                obtain ⟨g_68, eg_68⟩ : ∃ z : Nat → Int, z = pp_gd B n g_38 := ⟨_, rfl⟩
                rw [← eg_68] at p0r_62
                have lg_68_0 : g_68 0 = (tI M_63 2 4).toInt := p0r_62.2.1.1
                have lg_68_1 : g_68 1 = (tI M_63 2 6).toInt := p0r_62.2.1.2.1
                have lg_68_4 : g_68 4 = (tI M_63 1 4).toInt := p0r_62.2.2.1.1
                have lg_68_7 : g_68 7 = (tI M_63 t 4).toInt := p0r_62.2.2.2.1.1
                have lg_68_8 : g_68 8 = (tI M_63 t 5).toInt := p0r_62.2.2.2.1.2.1
                have lg_68_9 : g_68 9 = (tI M_63 t 3).toInt := p0r_62.2.2.2.1.2.2
                refine lv_goto (tgt := 273) hx hb dX4_read_131 (by decide) ?_
                exact hj_273_217 M_63 g_68 d_40 _ _ _ iM_63 (rR.trans (rr_of q_64) f_33) (f0.trans q_65 f_34) ((q_66).trans f_35) (ot.trans q_67 f_36) ((tT_fr q_64).trans f_37) p0r_62 p1r_62 (by unfold pp_lb; rw [if_neg (by omega), if_pos (by omega), ← eg_68]) (by unfold qq_lb; rw [if_neg (by omega), if_pos (by omega)]) hw (lv_sub hl [0, 1, 2, 3] rfl)
              · have qs_53_1 : x_47.toInt ≠ 1 := pt_ne s_53_1 (by decide)
                by_cases s_53_2 : x_47 = 2
                · have qs_53_2 : x_47.toInt = 2 := by rw [s_53_2]; decide
                  refine lv_tableIn (tgt := 134) (off := 66) hx hb dX4_read_68 (by rw [s_53_2]; decide) (by rw [s_53_2]; decide) (by rw [s_53_2]; decide) (by decide) ?_
                  refine lv_aload_n hx hb dX4_read_134 rfl (lv_at hl 1 rfl) ?_
                  refine ti_callVvE (ci := 4) (av := []) C hE hw (x_X4_readPower l D A cy hJ M_32 iM_32 t ht (f_37) B n g_38 hs_39 d_40 tq_41) ⟨ml_X4_50, ym_X4_readPower, yv_X4_readPower, yi_X4_readPower, yc_X4_readPower⟩ yd_X4_readPower ob_1 (by decide) rfl rfl hl.1 (Nat.le_of_ble_eq_true rfl) ⟨by decide, by decide⟩ ⟨Nat.zero_le _, Nat.zero_le _⟩ dX4_read_135 (fun M_70 H locs hp_70 hw => ?_)
                  obtain ⟨iM_70, q_71, q_72, q_73, q_74, p0r_69, p1r_69⟩ := hp_70
                  obtain ⟨g_75, eg_75⟩ : ∃ z : Nat → Int, z = pp_pw B n g_38 := ⟨_, rfl⟩
                  rw [← eg_75] at p0r_69
                  have lg_75_0 : g_75 0 = (tI M_70 2 4).toInt := p0r_69.2.1.1
                  have lg_75_1 : g_75 1 = (tI M_70 2 6).toInt := p0r_69.2.1.2.1
                  have lg_75_4 : g_75 4 = (tI M_70 1 4).toInt := p0r_69.2.2.1.1
                  have lg_75_7 : g_75 7 = (tI M_70 t 4).toInt := p0r_69.2.2.2.1.1
                  have lg_75_8 : g_75 8 = (tI M_70 t 5).toInt := p0r_69.2.2.2.1.2.1
                  have lg_75_9 : g_75 9 = (tI M_70 t 3).toInt := p0r_69.2.2.2.1.2.2
                  obtain ⟨d_76, ed_76⟩ : ∃ z : Nat → Int, z = qq_pw B n g_38 d_40 := ⟨_, rfl⟩
                  rw [← ed_76] at p1r_69
                  refine lv_goto (tgt := 273) hx hb dX4_read_138 (by decide) ?_
                  exact hj_273_217 M_70 g_75 d_76 _ _ _ iM_70 (rR.trans (rr_of q_71) f_33) (f0.trans q_72 f_34) ((q_73).trans f_35) (ot.trans q_74 f_36) ((tT_fr q_71).trans f_37) p0r_69 p1r_69 (by unfold pp_lb; rw [if_neg (by omega), if_neg (by omega), if_pos (by omega), ← eg_75]) (by unfold qq_lb; rw [if_neg (by omega), if_neg (by omega), if_pos (by omega), ← ed_76]) hw (lv_sub hl [0, 1, 2, 3] rfl)
                · have qs_53_2 : x_47.toInt ≠ 2 := pt_ne s_53_2 (by decide)
                  by_cases s_53_3 : x_47 = 3
                  · have qs_53_3 : x_47.toInt = 3 := by rw [s_53_3]; decide
                    refine lv_tableIn (tgt := 141) (off := 73) hx hb dX4_read_68 (by rw [s_53_3]; decide) (by rw [s_53_3]; decide) (by rw [s_53_3]; decide) (by decide) ?_
                    refine lv_aload_n hx hb dX4_read_141 rfl (lv_at hl 1 rfl) ?_
                    refine ti_callVvE (ci := 4) (av := []) C hE hw (x_X4_once l D A cy hJ M_32 iM_32 t ht B n g_38 hs_39 (by omega)) ⟨ml_X4_53, ym_X4_once, yv_X4_once, yi_X4_once, yc_X4_once⟩ yd_X4_once ob_1 (by decide) rfl rfl hl.1 (Nat.le_of_ble_eq_true rfl) ⟨by decide, by decide⟩ ⟨Nat.zero_le _, Nat.zero_le _⟩ dX4_read_142 (fun M_78 H locs hp_78 hw => ?_)
                    obtain ⟨iM_78, q_79, q_80, q_81, q_82, p0r_77⟩ := hp_78
                    obtain ⟨g_83, eg_83⟩ : ∃ z : Nat → Int, z = pp_on B n g_38 := ⟨_, rfl⟩
                    rw [← eg_83] at p0r_77
                    have lg_83_0 : g_83 0 = (tI M_78 2 4).toInt := p0r_77.2.1.1
                    have lg_83_1 : g_83 1 = (tI M_78 2 6).toInt := p0r_77.2.1.2.1
                    have lg_83_4 : g_83 4 = (tI M_78 1 4).toInt := p0r_77.2.2.1.1
                    have lg_83_7 : g_83 7 = (tI M_78 t 4).toInt := p0r_77.2.2.2.1.1
                    have lg_83_8 : g_83 8 = (tI M_78 t 5).toInt := p0r_77.2.2.2.1.2.1
                    have lg_83_9 : g_83 9 = (tI M_78 t 3).toInt := p0r_77.2.2.2.1.2.2
                    have tq_84 : tq t d_40 M_78 := tq_fr ht tq_41 q_80 q_82
                    refine lv_aload_n hx hb dX4_read_145 rfl (lv_at hl 1 rfl) ?_
                    refine ti_get (ci := 4) (k := 1) (N := 6) (T := TX4) (v := .ref (A t 0)) C hw iw_4 rfl ob_1 (by decide) (by decide) fl_X4_28 rfl (ti_Tv ((tT_fr q_79).trans f_37)) dX4_read_146 ?_
                    refine lv_aload_n hx hb dX4_read_149 rfl (lv_at hl 1 rfl) ?_
                    refine lv_iconst (v := 0) hx hb dX4_read_150 (by decide) ?_
                    refine lv_sipush (v := 999) hx hb dX4_read_151 (by decide) ?_
                    refine ti_callViE (ci := 4) (av := [.int 0, .int 999]) C hE hw (x_X4_number l D A cy hJ M_78 iM_78 t ht 0 999 B n g_83 p0r_77) ⟨ml_X4_56, ym_X4_number, yv_X4_number, yi_X4_number, yc_X4_number⟩ yd_X4_number ob_1 (by decide) rfl rfl hl.1 (Nat.le_of_ble_eq_true rfl) ⟨by decide, by decide⟩ ⟨Nat.zero_le _, Nat.zero_le _⟩ dX4_read_154 (fun r_85 M_86 H locs hp_86 hw => ?_)
                    obtain ⟨iM_86, q_87, q_88, q_89, q_90, p0r_85, p1r_85⟩ := hp_86
                    have hlr_85_0 : (0 : Int32).toInt = 0 := by decide
                    have hlr_85_999 : (999 : Int32).toInt = 999 := by decide
                    simp only [hlr_85_0, hlr_85_999] at p1r_85
                    obtain ⟨g_91, eg_91⟩ : ∃ z : Nat → Int, z = pp_nb B n 0 999 g_83 := ⟨_, rfl⟩
                    rw [← eg_91] at p1r_85
                    have lg_91_0 : g_91 0 = (tI M_86 2 4).toInt := p1r_85.2.1.1
                    have lg_91_1 : g_91 1 = (tI M_86 2 6).toInt := p1r_85.2.1.2.1
                    have lg_91_4 : g_91 4 = (tI M_86 1 4).toInt := p1r_85.2.2.1.1
                    have lg_91_7 : g_91 7 = (tI M_86 t 4).toInt := p1r_85.2.2.2.1.1
                    have lg_91_8 : g_91 8 = (tI M_86 t 5).toInt := p1r_85.2.2.2.1.2.1
                    have lg_91_9 : g_91 9 = (tI M_86 t 3).toInt := p1r_85.2.2.2.1.2.2
                    have tq_92 : tq t d_40 M_86 := tq_fr ht tq_84 q_88 q_90
                    refine ti_putI (ci := 8) (k := 6) (N := 12) (T := TX8) C hw iw_8 tyX8 tyX8_ok nmX8 rfl (ob_t ht) (by decide) (by decide) fl_X4_60 rfl rfl rfl rfl (fn_8 A _) fs_8_6 dX4_read_157 (fun H locs hw => ?_)
                    obtain ⟨M_93, hM_93⟩ : ∃ z : ti_M, z = uI M_86 t 6 r_85 := ⟨_, rfl⟩
                    have hw := hw.to hM_93.symm
                    have iM_93 : cI Tc M_93 := cI_uI iM_86 hM_93 (ob_t ht).1 trivial
                    have hs_94 := rC_t6x ht hM_93 p1r_85
                    have lM_93_0 : g_91 0 = (tI M_93 2 4).toInt := hs_94.2.1.1
                    have lM_93_1 : g_91 1 = (tI M_93 2 6).toInt := hs_94.2.1.2.1
                    have lM_93_4 : g_91 4 = (tI M_93 1 4).toInt := hs_94.2.2.1.1
                    have lM_93_7 : g_91 7 = (tI M_93 t 4).toInt := hs_94.2.2.2.1.1
                    have lM_93_8 : g_91 8 = (tI M_93 t 5).toInt := hs_94.2.2.2.1.2.1
                    have lM_93_9 : g_91 9 = (tI M_93 t 3).toInt := hs_94.2.2.2.1.2.2
                    have tq_95 : tq t (pp_su d_40 6 r_85.toInt) M_93 := tq_t ht tq_92 rfl hM_93 (by decide)
                    obtain ⟨d_96, ed_96⟩ : ∃ z : Nat → Int, z = pp_su d_40 6 r_85.toInt := ⟨_, rfl⟩
                    rw [← ed_96] at tq_95
                    refine lv_aload_n hx hb dX4_read_160 rfl (lv_at hl 1 rfl) ?_
                    refine ti_get (ci := 4) (k := 1) (N := 6) (T := TX4) (v := .ref (A t 0)) C hw iw_4 rfl ob_1 (by decide) (by decide) fl_X4_28 rfl (ti_Tv ((tT_uIE hM_93).trans ((tT_fr q_87).trans ((tT_fr q_79).trans f_37)))) dX4_read_161 ?_
                    refine lv_aload_n hx hb dX4_read_164 rfl (lv_at hl 1 rfl) ?_
                    refine lv_iconst (v := 1) hx hb dX4_read_165 (by decide) ?_
                    refine lv_bipush (v := 9) hx hb dX4_read_166 (by decide) ?_
                    refine ti_callViE (ci := 4) (av := [.int 1, .int 9]) C hE hw (x_X4_number l D A cy hJ M_93 iM_93 t ht 1 9 B n g_91 hs_94) ⟨ml_X4_56, ym_X4_number, yv_X4_number, yi_X4_number, yc_X4_number⟩ yd_X4_number ob_1 (by decide) rfl rfl hl.1 (Nat.le_of_ble_eq_true rfl) ⟨by decide, by decide⟩ ⟨Nat.zero_le _, Nat.zero_le _⟩ dX4_read_168 (fun r_97 M_98 H locs hp_98 hw => ?_)
                    obtain ⟨iM_98, q_99, q_100, q_101, q_102, p0r_97, p1r_97⟩ := hp_98
                    have hlr_97_1 : (1 : Int32).toInt = 1 := by decide
                    have hlr_97_9 : (9 : Int32).toInt = 9 := by decide
                    simp only [hlr_97_1, hlr_97_9] at p1r_97
                    obtain ⟨g_103, eg_103⟩ : ∃ z : Nat → Int, z = pp_nb B n 1 9 g_91 := ⟨_, rfl⟩
                    rw [← eg_103] at p1r_97
                    have lg_103_0 : g_103 0 = (tI M_98 2 4).toInt := p1r_97.2.1.1
                    have lg_103_1 : g_103 1 = (tI M_98 2 6).toInt := p1r_97.2.1.2.1
                    have lg_103_4 : g_103 4 = (tI M_98 1 4).toInt := p1r_97.2.2.1.1
                    have lg_103_7 : g_103 7 = (tI M_98 t 4).toInt := p1r_97.2.2.2.1.1
                    have lg_103_8 : g_103 8 = (tI M_98 t 5).toInt := p1r_97.2.2.2.1.2.1
                    have lg_103_9 : g_103 9 = (tI M_98 t 3).toInt := p1r_97.2.2.2.1.2.2
                    have tq_104 : tq t d_96 M_98 := tq_fr ht tq_95 q_100 q_102
                    refine ti_putI (ci := 8) (k := 7) (N := 12) (T := TX8) C hw iw_8 tyX8 tyX8_ok nmX8 rfl (ob_t ht) (by decide) (by decide) fl_X4_63 rfl rfl rfl rfl (fn_8 A _) fs_8_7 dX4_read_171 (fun H locs hw => ?_)
                    obtain ⟨M_105, hM_105⟩ : ∃ z : ti_M, z = uI M_98 t 7 r_97 := ⟨_, rfl⟩
                    have hw := hw.to hM_105.symm
                    have iM_105 : cI Tc M_105 := cI_uI iM_98 hM_105 (ob_t ht).1 trivial
                    have hs_106 := rC_t7x ht hM_105 p1r_97
                    have lM_105_0 : g_103 0 = (tI M_105 2 4).toInt := hs_106.2.1.1
                    have lM_105_1 : g_103 1 = (tI M_105 2 6).toInt := hs_106.2.1.2.1
                    have lM_105_4 : g_103 4 = (tI M_105 1 4).toInt := hs_106.2.2.1.1
                    have lM_105_7 : g_103 7 = (tI M_105 t 4).toInt := hs_106.2.2.2.1.1
                    have lM_105_8 : g_103 8 = (tI M_105 t 5).toInt := hs_106.2.2.2.1.2.1
                    have lM_105_9 : g_103 9 = (tI M_105 t 3).toInt := hs_106.2.2.2.1.2.2
                    have tq_107 : tq t (pp_su d_96 7 r_97.toInt) M_105 := tq_t ht tq_104 rfl hM_105 (by decide)
                    obtain ⟨d_108, ed_108⟩ : ∃ z : Nat → Int, z = pp_su d_96 7 r_97.toInt := ⟨_, rfl⟩
                    rw [← ed_108] at tq_107
                    refine lv_goto (tgt := 273) hx hb dX4_read_174 (by decide) ?_
                    exact hj_273_217 M_105 g_103 d_108 _ _ _ iM_105 (rR.trans (rr_of (rf_I hM_105)) (rR.trans (rr_of q_99) (rR.trans (rr_of (rf_I hM_93)) (rR.trans (rr_of q_87) (rR.trans (rr_of q_79) f_33))))) (f0.trans (f0_I hM_105 (f0n (ob_t ht).1 (by decide))) (f0.trans (f0_12 q_100) (f0.trans (f0_I hM_93 (f0n (ob_t ht).1 (by decide))) (f0.trans (f0_12 q_88) (f0.trans (f0_12 q_80) f_34))))) ((tI_nE hM_105 (nk (by decide))).trans ((q_101).trans ((tI_nE hM_93 (nk (by decide))).trans ((q_89).trans ((q_81).trans f_35))))) (ot.trans (ot_I ht hM_105 (by omega)) (ot.trans (ot_12 ht q_100 q_102) (ot.trans (ot_I ht hM_93 (by omega)) (ot.trans (ot_12 ht q_88 q_90) (ot.trans (ot_12 ht q_80 q_82) f_36))))) ((tT_uIE hM_105).trans ((tT_fr q_99).trans ((tT_uIE hM_93).trans ((tT_fr q_87).trans ((tT_fr q_79).trans f_37))))) hs_106 tq_107 (by unfold pp_lb; rw [if_neg (by omega), if_neg (by omega), if_neg (by omega), if_pos (by omega), ← eg_83, ← eg_91, ← eg_103]) (by unfold qq_lb; rw [if_neg (by omega), if_neg (by omega), if_neg (by omega), if_pos (by omega), ← eg_83, ← eg_91, ← p0r_85, ← p0r_97, ← ed_96, ← ed_108]) hw (lv_sub hl [0, 1, 2, 3] rfl)
                  · have qs_53_3 : x_47.toInt ≠ 3 := pt_ne s_53_3 (by decide)
                    by_cases s_53_4 : x_47 = 4
                    · have qs_53_4 : x_47.toInt = 4 := by rw [s_53_4]; decide
                      refine lv_tableIn (tgt := 177) (off := 109) hx hb dX4_read_68 (by rw [s_53_4]; decide) (by rw [s_53_4]; decide) (by rw [s_53_4]; decide) (by decide) ?_
                      refine lv_aload_n hx hb dX4_read_177 rfl (lv_at hl 1 rfl) ?_
                      refine ti_callVvE (ci := 4) (av := []) C hE hw (x_X4_once l D A cy hJ M_32 iM_32 t ht B n g_38 hs_39 (by omega)) ⟨ml_X4_53, ym_X4_once, yv_X4_once, yi_X4_once, yc_X4_once⟩ yd_X4_once ob_1 (by decide) rfl rfl hl.1 (Nat.le_of_ble_eq_true rfl) ⟨by decide, by decide⟩ ⟨Nat.zero_le _, Nat.zero_le _⟩ dX4_read_178 (fun M_110 H locs hp_110 hw => ?_)
                      obtain ⟨iM_110, q_111, q_112, q_113, q_114, p0r_109⟩ := hp_110
                      obtain ⟨g_115, eg_115⟩ : ∃ z : Nat → Int, z = pp_on B n g_38 := ⟨_, rfl⟩
                      rw [← eg_115] at p0r_109
                      have lg_115_0 : g_115 0 = (tI M_110 2 4).toInt := p0r_109.2.1.1
                      have lg_115_1 : g_115 1 = (tI M_110 2 6).toInt := p0r_109.2.1.2.1
                      have lg_115_4 : g_115 4 = (tI M_110 1 4).toInt := p0r_109.2.2.1.1
                      have lg_115_7 : g_115 7 = (tI M_110 t 4).toInt := p0r_109.2.2.2.1.1
                      have lg_115_8 : g_115 8 = (tI M_110 t 5).toInt := p0r_109.2.2.2.1.2.1
                      have lg_115_9 : g_115 9 = (tI M_110 t 3).toInt := p0r_109.2.2.2.1.2.2
                      have tq_116 : tq t d_40 M_110 := tq_fr ht tq_41 q_112 q_114
                      refine lv_aload_n hx hb dX4_read_181 rfl (lv_at hl 1 rfl) ?_
                      refine ti_get (ci := 4) (k := 1) (N := 6) (T := TX4) (v := .ref (A t 0)) C hw iw_4 rfl ob_1 (by decide) (by decide) fl_X4_28 rfl (ti_Tv ((tT_fr q_111).trans f_37)) dX4_read_182 ?_
                      refine lv_aload_n hx hb dX4_read_185 rfl (lv_at hl 1 rfl) ?_
                      refine lv_iconst (v := 1) hx hb dX4_read_186 (by decide) ?_
                      refine lv_bipush (v := 30) hx hb dX4_read_187 (by decide) ?_
                      refine ti_callViE (ci := 4) (av := [.int 1, .int 30]) C hE hw (x_X4_number l D A cy hJ M_110 iM_110 t ht 1 30 B n g_115 p0r_109) ⟨ml_X4_56, ym_X4_number, yv_X4_number, yi_X4_number, yc_X4_number⟩ yd_X4_number ob_1 (by decide) rfl rfl hl.1 (Nat.le_of_ble_eq_true rfl) ⟨by decide, by decide⟩ ⟨Nat.zero_le _, Nat.zero_le _⟩ dX4_read_189 (fun r_117 M_118 H locs hp_118 hw => ?_)
                      obtain ⟨iM_118, q_119, q_120, q_121, q_122, p0r_117, p1r_117⟩ := hp_118
                      have hlr_117_1 : (1 : Int32).toInt = 1 := by decide
                      have hlr_117_30 : (30 : Int32).toInt = 30 := by decide
                      simp only [hlr_117_1, hlr_117_30] at p1r_117
                      obtain ⟨g_123, eg_123⟩ : ∃ z : Nat → Int, z = pp_nb B n 1 30 g_115 := ⟨_, rfl⟩
                      rw [← eg_123] at p1r_117
                      have lg_123_0 : g_123 0 = (tI M_118 2 4).toInt := p1r_117.2.1.1
                      have lg_123_1 : g_123 1 = (tI M_118 2 6).toInt := p1r_117.2.1.2.1
                      have lg_123_4 : g_123 4 = (tI M_118 1 4).toInt := p1r_117.2.2.1.1
                      have lg_123_7 : g_123 7 = (tI M_118 t 4).toInt := p1r_117.2.2.2.1.1
                      have lg_123_8 : g_123 8 = (tI M_118 t 5).toInt := p1r_117.2.2.2.1.2.1
                      have lg_123_9 : g_123 9 = (tI M_118 t 3).toInt := p1r_117.2.2.2.1.2.2
                      have tq_124 : tq t d_40 M_118 := tq_fr ht tq_116 q_120 q_122
                      refine ti_putI (ci := 8) (k := 8) (N := 12) (T := TX8) C hw iw_8 tyX8 tyX8_ok nmX8 rfl (ob_t ht) (by decide) (by decide) fl_X4_66 rfl rfl rfl rfl (fn_8 A _) fs_8_8 dX4_read_192 (fun H locs hw => ?_)
                      obtain ⟨M_125, hM_125⟩ : ∃ z : ti_M, z = uI M_118 t 8 r_117 := ⟨_, rfl⟩
                      have hw := hw.to hM_125.symm
                      have iM_125 : cI Tc M_125 := cI_uI iM_118 hM_125 (ob_t ht).1 trivial
                      have hs_126 := rC_t8x ht hM_125 p1r_117
                      have lM_125_0 : g_123 0 = (tI M_125 2 4).toInt := hs_126.2.1.1
                      have lM_125_1 : g_123 1 = (tI M_125 2 6).toInt := hs_126.2.1.2.1
                      have lM_125_4 : g_123 4 = (tI M_125 1 4).toInt := hs_126.2.2.1.1
                      have lM_125_7 : g_123 7 = (tI M_125 t 4).toInt := hs_126.2.2.2.1.1
                      have lM_125_8 : g_123 8 = (tI M_125 t 5).toInt := hs_126.2.2.2.1.2.1
                      have lM_125_9 : g_123 9 = (tI M_125 t 3).toInt := hs_126.2.2.2.1.2.2
                      have tq_127 : tq t (pp_su d_40 8 r_117.toInt) M_125 := tq_t ht tq_124 rfl hM_125 (by decide)
                      obtain ⟨d_128, ed_128⟩ : ∃ z : Nat → Int, z = pp_su d_40 8 r_117.toInt := ⟨_, rfl⟩
                      rw [← ed_128] at tq_127
                      refine lv_goto (tgt := 273) hx hb dX4_read_195 (by decide) ?_
                      exact hj_273_217 M_125 g_123 d_128 _ _ _ iM_125 (rR.trans (rr_of (rf_I hM_125)) (rR.trans (rr_of q_119) (rR.trans (rr_of q_111) f_33))) (f0.trans (f0_I hM_125 (f0n (ob_t ht).1 (by decide))) (f0.trans (f0_12 q_120) (f0.trans (f0_12 q_112) f_34))) ((tI_nE hM_125 (nk (by decide))).trans ((q_121).trans ((q_113).trans f_35))) (ot.trans (ot_I ht hM_125 (by omega)) (ot.trans (ot_12 ht q_120 q_122) (ot.trans (ot_12 ht q_112 q_114) f_36))) ((tT_uIE hM_125).trans ((tT_fr q_119).trans ((tT_fr q_111).trans f_37))) hs_126 tq_127 (by unfold pp_lb; rw [if_neg (by omega), if_neg (by omega), if_neg (by omega), if_neg (by omega), if_pos (by omega), ← eg_115, ← eg_123]) (by unfold qq_lb; rw [if_neg (by omega), if_neg (by omega), if_neg (by omega), if_neg (by omega), if_pos (by omega), ← eg_115, ← p0r_117, ← ed_128]) hw (lv_sub hl [0, 1, 2, 3] rfl)
                    · have qs_53_4 : x_47.toInt ≠ 4 := pt_ne s_53_4 (by decide)
                      by_cases s_53_5 : x_47 = 5
                      · have qs_53_5 : x_47.toInt = 5 := by rw [s_53_5]; decide
                        refine lv_tableIn (tgt := 198) (off := 130) hx hb dX4_read_68 (by rw [s_53_5]; decide) (by rw [s_53_5]; decide) (by rw [s_53_5]; decide) (by decide) ?_
                        refine lv_aload_n hx hb dX4_read_198 rfl (lv_at hl 1 rfl) ?_
                        refine ti_callVvE (ci := 4) (av := []) C hE hw (x_X4_once l D A cy hJ M_32 iM_32 t ht B n g_38 hs_39 (by omega)) ⟨ml_X4_53, ym_X4_once, yv_X4_once, yi_X4_once, yc_X4_once⟩ yd_X4_once ob_1 (by decide) rfl rfl hl.1 (Nat.le_of_ble_eq_true rfl) ⟨by decide, by decide⟩ ⟨Nat.zero_le _, Nat.zero_le _⟩ dX4_read_199 (fun M_130 H locs hp_130 hw => ?_)
                        obtain ⟨iM_130, q_131, q_132, q_133, q_134, p0r_129⟩ := hp_130
                        obtain ⟨g_135, eg_135⟩ : ∃ z : Nat → Int, z = pp_on B n g_38 := ⟨_, rfl⟩
                        rw [← eg_135] at p0r_129
                        have lg_135_0 : g_135 0 = (tI M_130 2 4).toInt := p0r_129.2.1.1
                        have lg_135_1 : g_135 1 = (tI M_130 2 6).toInt := p0r_129.2.1.2.1
                        have lg_135_4 : g_135 4 = (tI M_130 1 4).toInt := p0r_129.2.2.1.1
                        have lg_135_7 : g_135 7 = (tI M_130 t 4).toInt := p0r_129.2.2.2.1.1
                        have lg_135_8 : g_135 8 = (tI M_130 t 5).toInt := p0r_129.2.2.2.1.2.1
                        have lg_135_9 : g_135 9 = (tI M_130 t 3).toInt := p0r_129.2.2.2.1.2.2
                        have tq_136 : tq t d_40 M_130 := tq_fr ht tq_41 q_132 q_134
                        refine lv_aload_n hx hb dX4_read_202 rfl (lv_at hl 1 rfl) ?_
                        refine ti_get (ci := 4) (k := 1) (N := 6) (T := TX4) (v := .ref (A t 0)) C hw iw_4 rfl ob_1 (by decide) (by decide) fl_X4_28 rfl (ti_Tv ((tT_fr q_131).trans f_37)) dX4_read_203 ?_
                        refine lv_aload_n hx hb dX4_read_206 rfl (lv_at hl 1 rfl) ?_
                        refine lv_iconst (v := 1) hx hb dX4_read_207 (by decide) ?_
                        refine lv_bipush (v := 7) hx hb dX4_read_208 (by decide) ?_
                        refine ti_callViE (ci := 4) (av := [.int 1, .int 7]) C hE hw (x_X4_number l D A cy hJ M_130 iM_130 t ht 1 7 B n g_135 p0r_129) ⟨ml_X4_56, ym_X4_number, yv_X4_number, yi_X4_number, yc_X4_number⟩ yd_X4_number ob_1 (by decide) rfl rfl hl.1 (Nat.le_of_ble_eq_true rfl) ⟨by decide, by decide⟩ ⟨Nat.zero_le _, Nat.zero_le _⟩ dX4_read_210 (fun r_137 M_138 H locs hp_138 hw => ?_)
                        obtain ⟨iM_138, q_139, q_140, q_141, q_142, p0r_137, p1r_137⟩ := hp_138
                        have hlr_137_1 : (1 : Int32).toInt = 1 := by decide
                        have hlr_137_7 : (7 : Int32).toInt = 7 := by decide
                        simp only [hlr_137_1, hlr_137_7] at p1r_137
                        obtain ⟨g_143, eg_143⟩ : ∃ z : Nat → Int, z = pp_nb B n 1 7 g_135 := ⟨_, rfl⟩
                        rw [← eg_143] at p1r_137
                        have lg_143_0 : g_143 0 = (tI M_138 2 4).toInt := p1r_137.2.1.1
                        have lg_143_1 : g_143 1 = (tI M_138 2 6).toInt := p1r_137.2.1.2.1
                        have lg_143_4 : g_143 4 = (tI M_138 1 4).toInt := p1r_137.2.2.1.1
                        have lg_143_7 : g_143 7 = (tI M_138 t 4).toInt := p1r_137.2.2.2.1.1
                        have lg_143_8 : g_143 8 = (tI M_138 t 5).toInt := p1r_137.2.2.2.1.2.1
                        have lg_143_9 : g_143 9 = (tI M_138 t 3).toInt := p1r_137.2.2.2.1.2.2
                        have tq_144 : tq t d_40 M_138 := tq_fr ht tq_136 q_140 q_142
                        refine ti_putI (ci := 8) (k := 9) (N := 12) (T := TX8) C hw iw_8 tyX8 tyX8_ok nmX8 rfl (ob_t ht) (by decide) (by decide) fl_X4_69 rfl rfl rfl rfl (fn_8 A _) fs_8_9 dX4_read_213 (fun H locs hw => ?_)
                        obtain ⟨M_145, hM_145⟩ : ∃ z : ti_M, z = uI M_138 t 9 r_137 := ⟨_, rfl⟩
                        have hw := hw.to hM_145.symm
                        have iM_145 : cI Tc M_145 := cI_uI iM_138 hM_145 (ob_t ht).1 trivial
                        have hs_146 := rC_t9x ht hM_145 p1r_137
                        have lM_145_0 : g_143 0 = (tI M_145 2 4).toInt := hs_146.2.1.1
                        have lM_145_1 : g_143 1 = (tI M_145 2 6).toInt := hs_146.2.1.2.1
                        have lM_145_4 : g_143 4 = (tI M_145 1 4).toInt := hs_146.2.2.1.1
                        have lM_145_7 : g_143 7 = (tI M_145 t 4).toInt := hs_146.2.2.2.1.1
                        have lM_145_8 : g_143 8 = (tI M_145 t 5).toInt := hs_146.2.2.2.1.2.1
                        have lM_145_9 : g_143 9 = (tI M_145 t 3).toInt := hs_146.2.2.2.1.2.2
                        have tq_147 : tq t (pp_su d_40 9 r_137.toInt) M_145 := tq_t ht tq_144 rfl hM_145 (by decide)
                        obtain ⟨d_148, ed_148⟩ : ∃ z : Nat → Int, z = pp_su d_40 9 r_137.toInt := ⟨_, rfl⟩
                        rw [← ed_148] at tq_147
                        refine lv_goto (tgt := 273) hx hb dX4_read_216 (by decide) ?_
                        exact hj_273_217 M_145 g_143 d_148 _ _ _ iM_145 (rR.trans (rr_of (rf_I hM_145)) (rR.trans (rr_of q_139) (rR.trans (rr_of q_131) f_33))) (f0.trans (f0_I hM_145 (f0n (ob_t ht).1 (by decide))) (f0.trans (f0_12 q_140) (f0.trans (f0_12 q_132) f_34))) ((tI_nE hM_145 (nk (by decide))).trans ((q_141).trans ((q_133).trans f_35))) (ot.trans (ot_I ht hM_145 (by omega)) (ot.trans (ot_12 ht q_140 q_142) (ot.trans (ot_12 ht q_132 q_134) f_36))) ((tT_uIE hM_145).trans ((tT_fr q_139).trans ((tT_fr q_131).trans f_37))) hs_146 tq_147 (by unfold pp_lb; rw [if_neg (by omega), if_neg (by omega), if_neg (by omega), if_neg (by omega), if_neg (by omega), if_pos (by omega), ← eg_135, ← eg_143]) (by unfold qq_lb; rw [if_neg (by omega), if_neg (by omega), if_neg (by omega), if_neg (by omega), if_neg (by omega), if_pos (by omega), ← eg_135, ← p0r_137, ← ed_148]) hw (lv_sub hl [0, 1, 2, 3] rfl)
                      · have qs_53_5 : x_47.toInt ≠ 5 := pt_ne s_53_5 (by decide)
                        by_cases s_53_6 : x_47 = 6
                        · have qs_53_6 : x_47.toInt = 6 := by rw [s_53_6]; decide
                          refine lv_tableIn (tgt := 219) (off := 151) hx hb dX4_read_68 (by rw [s_53_6]; decide) (by rw [s_53_6]; decide) (by rw [s_53_6]; decide) (by decide) ?_
                          refine lv_aload_n hx hb dX4_read_219 rfl (lv_at hl 1 rfl) ?_
                          refine ti_callVvE (ci := 4) (av := []) C hE hw (x_X4_once l D A cy hJ M_32 iM_32 t ht B n g_38 hs_39 (by omega)) ⟨ml_X4_53, ym_X4_once, yv_X4_once, yi_X4_once, yc_X4_once⟩ yd_X4_once ob_1 (by decide) rfl rfl hl.1 (Nat.le_of_ble_eq_true rfl) ⟨by decide, by decide⟩ ⟨Nat.zero_le _, Nat.zero_le _⟩ dX4_read_220 (fun M_150 H locs hp_150 hw => ?_)
                          obtain ⟨iM_150, q_151, q_152, q_153, q_154, p0r_149⟩ := hp_150
                          obtain ⟨g_155, eg_155⟩ : ∃ z : Nat → Int, z = pp_on B n g_38 := ⟨_, rfl⟩
                          rw [← eg_155] at p0r_149
                          have lg_155_0 : g_155 0 = (tI M_150 2 4).toInt := p0r_149.2.1.1
                          have lg_155_1 : g_155 1 = (tI M_150 2 6).toInt := p0r_149.2.1.2.1
                          have lg_155_4 : g_155 4 = (tI M_150 1 4).toInt := p0r_149.2.2.1.1
                          have lg_155_7 : g_155 7 = (tI M_150 t 4).toInt := p0r_149.2.2.2.1.1
                          have lg_155_8 : g_155 8 = (tI M_150 t 5).toInt := p0r_149.2.2.2.1.2.1
                          have lg_155_9 : g_155 9 = (tI M_150 t 3).toInt := p0r_149.2.2.2.1.2.2
                          have tq_156 : tq t d_40 M_150 := tq_fr ht tq_41 q_152 q_154
                          refine lv_aload_n hx hb dX4_read_223 rfl (lv_at hl 1 rfl) ?_
                          refine ti_get (ci := 4) (k := 1) (N := 6) (T := TX4) (v := .ref (A t 0)) C hw iw_4 rfl ob_1 (by decide) (by decide) fl_X4_28 rfl (ti_Tv ((tT_fr q_151).trans f_37)) dX4_read_224 ?_
                          refine lv_aload_n hx hb dX4_read_227 rfl (lv_at hl 1 rfl) ?_
                          refine lv_iconst (v := 0) hx hb dX4_read_228 (by decide) ?_
                          refine lv_bipush (v := 99) hx hb dX4_read_229 (by decide) ?_
                          refine ti_callViE (ci := 4) (av := [.int 0, .int 99]) C hE hw (x_X4_number l D A cy hJ M_150 iM_150 t ht 0 99 B n g_155 p0r_149) ⟨ml_X4_56, ym_X4_number, yv_X4_number, yi_X4_number, yc_X4_number⟩ yd_X4_number ob_1 (by decide) rfl rfl hl.1 (Nat.le_of_ble_eq_true rfl) ⟨by decide, by decide⟩ ⟨Nat.zero_le _, Nat.zero_le _⟩ dX4_read_231 (fun r_157 M_158 H locs hp_158 hw => ?_)
                          obtain ⟨iM_158, q_159, q_160, q_161, q_162, p0r_157, p1r_157⟩ := hp_158
                          have hlr_157_0 : (0 : Int32).toInt = 0 := by decide
                          have hlr_157_99 : (99 : Int32).toInt = 99 := by decide
                          simp only [hlr_157_0, hlr_157_99] at p1r_157
                          obtain ⟨g_163, eg_163⟩ : ∃ z : Nat → Int, z = pp_nb B n 0 99 g_155 := ⟨_, rfl⟩
                          rw [← eg_163] at p1r_157
                          have lg_163_0 : g_163 0 = (tI M_158 2 4).toInt := p1r_157.2.1.1
                          have lg_163_1 : g_163 1 = (tI M_158 2 6).toInt := p1r_157.2.1.2.1
                          have lg_163_4 : g_163 4 = (tI M_158 1 4).toInt := p1r_157.2.2.1.1
                          have lg_163_7 : g_163 7 = (tI M_158 t 4).toInt := p1r_157.2.2.2.1.1
                          have lg_163_8 : g_163 8 = (tI M_158 t 5).toInt := p1r_157.2.2.2.1.2.1
                          have lg_163_9 : g_163 9 = (tI M_158 t 3).toInt := p1r_157.2.2.2.1.2.2
                          have tq_164 : tq t d_40 M_158 := tq_fr ht tq_156 q_160 q_162
                          refine ti_putI (ci := 8) (k := 10) (N := 12) (T := TX8) C hw iw_8 tyX8 tyX8_ok nmX8 rfl (ob_t ht) (by decide) (by decide) fl_X4_72 rfl rfl rfl rfl (fn_8 A _) fs_8_10 dX4_read_234 (fun H locs hw => ?_)
                          obtain ⟨M_165, hM_165⟩ : ∃ z : ti_M, z = uI M_158 t 10 r_157 := ⟨_, rfl⟩
                          have hw := hw.to hM_165.symm
                          have iM_165 : cI Tc M_165 := cI_uI iM_158 hM_165 (ob_t ht).1 trivial
                          have hs_166 := rC_t10x ht hM_165 p1r_157
                          have lM_165_0 : g_163 0 = (tI M_165 2 4).toInt := hs_166.2.1.1
                          have lM_165_1 : g_163 1 = (tI M_165 2 6).toInt := hs_166.2.1.2.1
                          have lM_165_4 : g_163 4 = (tI M_165 1 4).toInt := hs_166.2.2.1.1
                          have lM_165_7 : g_163 7 = (tI M_165 t 4).toInt := hs_166.2.2.2.1.1
                          have lM_165_8 : g_163 8 = (tI M_165 t 5).toInt := hs_166.2.2.2.1.2.1
                          have lM_165_9 : g_163 9 = (tI M_165 t 3).toInt := hs_166.2.2.2.1.2.2
                          have tq_167 : tq t (pp_su d_40 10 r_157.toInt) M_165 := tq_t ht tq_164 rfl hM_165 (by decide)
                          obtain ⟨d_168, ed_168⟩ : ∃ z : Nat → Int, z = pp_su d_40 10 r_157.toInt := ⟨_, rfl⟩
                          rw [← ed_168] at tq_167
                          refine lv_goto (tgt := 273) hx hb dX4_read_237 (by decide) ?_
                          exact hj_273_217 M_165 g_163 d_168 _ _ _ iM_165 (rR.trans (rr_of (rf_I hM_165)) (rR.trans (rr_of q_159) (rR.trans (rr_of q_151) f_33))) (f0.trans (f0_I hM_165 (f0n (ob_t ht).1 (by decide))) (f0.trans (f0_12 q_160) (f0.trans (f0_12 q_152) f_34))) ((tI_nE hM_165 (nk (by decide))).trans ((q_161).trans ((q_153).trans f_35))) (ot.trans (ot_I ht hM_165 (by omega)) (ot.trans (ot_12 ht q_160 q_162) (ot.trans (ot_12 ht q_152 q_154) f_36))) ((tT_uIE hM_165).trans ((tT_fr q_159).trans ((tT_fr q_151).trans f_37))) hs_166 tq_167 (by unfold pp_lb; rw [if_neg (by omega), if_neg (by omega), if_neg (by omega), if_neg (by omega), if_neg (by omega), if_neg (by omega), if_pos (by omega), ← eg_155, ← eg_163]) (by unfold qq_lb; rw [if_neg (by omega), if_neg (by omega), if_neg (by omega), if_neg (by omega), if_neg (by omega), if_neg (by omega), if_pos (by omega), ← eg_155, ← p0r_157, ← ed_168]) hw (lv_sub hl [0, 1, 2, 3] rfl)
                        · have qs_53_6 : x_47.toInt ≠ 6 := pt_ne s_53_6 (by decide)
                          by_cases s_53_7 : x_47 = 7
                          · have qs_53_7 : x_47.toInt = 7 := by rw [s_53_7]; decide
                            refine lv_tableIn (tgt := 240) (off := 172) hx hb dX4_read_68 (by rw [s_53_7]; decide) (by rw [s_53_7]; decide) (by rw [s_53_7]; decide) (by decide) ?_
                            refine lv_aload_n hx hb dX4_read_240 rfl (lv_at hl 1 rfl) ?_
                            refine ti_callVvE (ci := 4) (av := []) C hE hw (x_X4_once l D A cy hJ M_32 iM_32 t ht B n g_38 hs_39 (by omega)) ⟨ml_X4_53, ym_X4_once, yv_X4_once, yi_X4_once, yc_X4_once⟩ yd_X4_once ob_1 (by decide) rfl rfl hl.1 (Nat.le_of_ble_eq_true rfl) ⟨by decide, by decide⟩ ⟨Nat.zero_le _, Nat.zero_le _⟩ dX4_read_241 (fun M_170 H locs hp_170 hw => ?_)
                            obtain ⟨iM_170, q_171, q_172, q_173, q_174, p0r_169⟩ := hp_170
                            obtain ⟨g_175, eg_175⟩ : ∃ z : Nat → Int, z = pp_on B n g_38 := ⟨_, rfl⟩
                            rw [← eg_175] at p0r_169
                            have lg_175_0 : g_175 0 = (tI M_170 2 4).toInt := p0r_169.2.1.1
                            have lg_175_1 : g_175 1 = (tI M_170 2 6).toInt := p0r_169.2.1.2.1
                            have lg_175_4 : g_175 4 = (tI M_170 1 4).toInt := p0r_169.2.2.1.1
                            have lg_175_7 : g_175 7 = (tI M_170 t 4).toInt := p0r_169.2.2.2.1.1
                            have lg_175_8 : g_175 8 = (tI M_170 t 5).toInt := p0r_169.2.2.2.1.2.1
                            have lg_175_9 : g_175 9 = (tI M_170 t 3).toInt := p0r_169.2.2.2.1.2.2
                            have tq_176 : tq t d_40 M_170 := tq_fr ht tq_41 q_172 q_174
                            refine lv_aload_n hx hb dX4_read_244 rfl (lv_at hl 1 rfl) ?_
                            refine ti_get (ci := 4) (k := 1) (N := 6) (T := TX4) (v := .ref (A t 0)) C hw iw_4 rfl ob_1 (by decide) (by decide) fl_X4_28 rfl (ti_Tv ((tT_fr q_171).trans f_37)) dX4_read_245 ?_
                            refine lv_aload_n hx hb dX4_read_248 rfl (lv_at hl 1 rfl) ?_
                            refine lv_iconst (v := 0) hx hb dX4_read_249 (by decide) ?_
                            refine lv_ldc (v := 99999) hx hb C.2.2.2.1 (C.2.2.1 _ cn_X4_75) dX4_read_250 ?_
                            refine ti_callViE (ci := 4) (av := [.int 0, .int 99999]) C hE hw (x_X4_number l D A cy hJ M_170 iM_170 t ht 0 99999 B n g_175 p0r_169) ⟨ml_X4_56, ym_X4_number, yv_X4_number, yi_X4_number, yc_X4_number⟩ yd_X4_number ob_1 (by decide) rfl rfl hl.1 (Nat.le_of_ble_eq_true rfl) ⟨by decide, by decide⟩ ⟨Nat.zero_le _, Nat.zero_le _⟩ dX4_read_252 (fun r_177 M_178 H locs hp_178 hw => ?_)
                            obtain ⟨iM_178, q_179, q_180, q_181, q_182, p0r_177, p1r_177⟩ := hp_178
                            have hlr_177_0 : (0 : Int32).toInt = 0 := by decide
                            have hlr_177_99999 : (99999 : Int32).toInt = 99999 := by decide
                            simp only [hlr_177_0, hlr_177_99999] at p1r_177
                            obtain ⟨g_183, eg_183⟩ : ∃ z : Nat → Int, z = pp_nb B n 0 99999 g_175 := ⟨_, rfl⟩
                            rw [← eg_183] at p1r_177
                            have lg_183_0 : g_183 0 = (tI M_178 2 4).toInt := p1r_177.2.1.1
                            have lg_183_1 : g_183 1 = (tI M_178 2 6).toInt := p1r_177.2.1.2.1
                            have lg_183_4 : g_183 4 = (tI M_178 1 4).toInt := p1r_177.2.2.1.1
                            have lg_183_7 : g_183 7 = (tI M_178 t 4).toInt := p1r_177.2.2.2.1.1
                            have lg_183_8 : g_183 8 = (tI M_178 t 5).toInt := p1r_177.2.2.2.1.2.1
                            have lg_183_9 : g_183 9 = (tI M_178 t 3).toInt := p1r_177.2.2.2.1.2.2
                            have tq_184 : tq t d_40 M_178 := tq_fr ht tq_176 q_180 q_182
                            refine ti_putI (ci := 8) (k := 11) (N := 12) (T := TX8) C hw iw_8 tyX8 tyX8_ok nmX8 rfl (ob_t ht) (by decide) (by decide) fl_X4_76 rfl rfl rfl rfl (fn_8 A _) fs_8_11 dX4_read_255 (fun H locs hw => ?_)
                            obtain ⟨M_185, hM_185⟩ : ∃ z : ti_M, z = uI M_178 t 11 r_177 := ⟨_, rfl⟩
                            have hw := hw.to hM_185.symm
                            have iM_185 : cI Tc M_185 := cI_uI iM_178 hM_185 (ob_t ht).1 trivial
                            have hs_186 := rC_t11x ht hM_185 p1r_177
                            have lM_185_0 : g_183 0 = (tI M_185 2 4).toInt := hs_186.2.1.1
                            have lM_185_1 : g_183 1 = (tI M_185 2 6).toInt := hs_186.2.1.2.1
                            have lM_185_4 : g_183 4 = (tI M_185 1 4).toInt := hs_186.2.2.1.1
                            have lM_185_7 : g_183 7 = (tI M_185 t 4).toInt := hs_186.2.2.2.1.1
                            have lM_185_8 : g_183 8 = (tI M_185 t 5).toInt := hs_186.2.2.2.1.2.1
                            have lM_185_9 : g_183 9 = (tI M_185 t 3).toInt := hs_186.2.2.2.1.2.2
                            have tq_187 : tq t (pp_su d_40 11 r_177.toInt) M_185 := tq_t ht tq_184 rfl hM_185 (by decide)
                            obtain ⟨d_188, ed_188⟩ : ∃ z : Nat → Int, z = pp_su d_40 11 r_177.toInt := ⟨_, rfl⟩
                            rw [← ed_188] at tq_187
                            refine lv_goto (tgt := 273) hx hb dX4_read_258 (by decide) ?_
                            exact hj_273_217 M_185 g_183 d_188 _ _ _ iM_185 (rR.trans (rr_of (rf_I hM_185)) (rR.trans (rr_of q_179) (rR.trans (rr_of q_171) f_33))) (f0.trans (f0_I hM_185 (f0n (ob_t ht).1 (by decide))) (f0.trans (f0_12 q_180) (f0.trans (f0_12 q_172) f_34))) ((tI_nE hM_185 (nk (by decide))).trans ((q_181).trans ((q_173).trans f_35))) (ot.trans (ot_I ht hM_185 (by omega)) (ot.trans (ot_12 ht q_180 q_182) (ot.trans (ot_12 ht q_172 q_174) f_36))) ((tT_uIE hM_185).trans ((tT_fr q_179).trans ((tT_fr q_171).trans f_37))) hs_186 tq_187 (by unfold pp_lb; rw [if_neg (by omega), if_neg (by omega), if_neg (by omega), if_neg (by omega), if_neg (by omega), if_neg (by omega), if_neg (by omega), if_pos (by omega), ← eg_175, ← eg_183]) (by unfold qq_lb; rw [if_neg (by omega), if_neg (by omega), if_neg (by omega), if_neg (by omega), if_neg (by omega), if_neg (by omega), if_neg (by omega), if_pos (by omega), ← eg_175, ← p0r_177, ← ed_188]) hw (lv_sub hl [0, 1, 2, 3] rfl)
                          · have qs_53_7 : x_47.toInt ≠ 7 := pt_ne s_53_7 (by decide)
                            by_cases s_53_8 : x_47 = 8
                            · have qs_53_8 : x_47.toInt = 8 := by rw [s_53_8]; decide
                              refine lv_tableIn (tgt := 261) (off := 193) hx hb dX4_read_68 (by rw [s_53_8]; decide) (by rw [s_53_8]; decide) (by rw [s_53_8]; decide) (by decide) ?_
                              refine lv_aload_n hx hb dX4_read_261 rfl (lv_at hl 1 rfl) ?_
                              refine ti_callVvE (ci := 4) (av := []) C hE hw (x_X4_readLaw l D A cy hJ M_32 iM_32 t ht (f_37) B n g_38 hs_39 d_40 tq_41) ⟨ml_X4_79, ym_X4_readLaw, yv_X4_readLaw, yi_X4_readLaw, yc_X4_readLaw⟩ yd_X4_readLaw ob_1 (by decide) rfl rfl hl.1 (Nat.le_of_ble_eq_true rfl) ⟨by decide, by decide⟩ ⟨Nat.zero_le _, Nat.zero_le _⟩ dX4_read_262 (fun M_190 H locs hp_190 hw => ?_)
                              obtain ⟨iM_190, q_191, q_192, q_193, q_194, q_195, p0r_189, p1r_189⟩ := hp_190
                              obtain ⟨g_196, eg_196⟩ : ∃ z : Nat → Int, z = pp_lw B n g_38 := ⟨_, rfl⟩
                              rw [← eg_196] at p0r_189
                              have lg_196_0 : g_196 0 = (tI M_190 2 4).toInt := p0r_189.2.1.1
                              have lg_196_1 : g_196 1 = (tI M_190 2 6).toInt := p0r_189.2.1.2.1
                              have lg_196_4 : g_196 4 = (tI M_190 1 4).toInt := p0r_189.2.2.1.1
                              have lg_196_7 : g_196 7 = (tI M_190 t 4).toInt := p0r_189.2.2.2.1.1
                              have lg_196_8 : g_196 8 = (tI M_190 t 5).toInt := p0r_189.2.2.2.1.2.1
                              have lg_196_9 : g_196 9 = (tI M_190 t 3).toInt := p0r_189.2.2.2.1.2.2
                              obtain ⟨d_197, ed_197⟩ : ∃ z : Nat → Int, z = qq_lw B n g_38 d_40 := ⟨_, rfl⟩
                              rw [← ed_197] at p1r_189
                              refine lv_goto (tgt := 273) hx hb dX4_read_265 (by decide) ?_
                              exact hj_273_217 M_190 g_196 d_197 _ _ _ iM_190 (rR.trans q_191 f_33) (f0.trans q_192 f_34) ((q_193).trans f_35) (ot.trans q_195 f_36) ((q_194).trans f_37) p0r_189 p1r_189 (by unfold pp_lb; rw [if_neg (by omega), if_neg (by omega), if_neg (by omega), if_neg (by omega), if_neg (by omega), if_neg (by omega), if_neg (by omega), if_neg (by omega), if_pos (by omega), ← eg_196]) (by unfold qq_lb; rw [if_neg (by omega), if_neg (by omega), if_neg (by omega), if_neg (by omega), if_neg (by omega), if_neg (by omega), if_neg (by omega), if_neg (by omega), if_pos (by omega), ← ed_197]) hw (lv_sub hl [0, 1, 2, 3] rfl)
                            · have qs_53_8 : x_47.toInt ≠ 8 := pt_ne s_53_8 (by decide)
                              refine lv_tableOut (tgt := 268) hx hb dX4_read_68 (ti_out (lo := 0) (hi := 8) x_47 (fun v h1 h2 => by rcases (show v = 0 ∨ v = 1 ∨ v = 2 ∨ v = 3 ∨ v = 4 ∨ v = 5 ∨ v = 6 ∨ v = 7 ∨ v = 8 by omega) with rfl | rfl | rfl | rfl | rfl | rfl | rfl | rfl | rfl <;> first | exact ti_nev 0 s_53_0 (by decide) | exact ti_nev 1 s_53_1 (by decide) | exact ti_nev 2 s_53_2 (by decide) | exact ti_nev 3 s_53_3 (by decide) | exact ti_nev 4 s_53_4 (by decide) | exact ti_nev 5 s_53_5 (by decide) | exact ti_nev 6 s_53_6 (by decide) | exact ti_nev 7 s_53_7 (by decide) | exact ti_nev 8 s_53_8 (by decide))) (by decide) ?_
                              refine lv_aload_n hx hb dX4_read_268 rfl (lv_at hl 1 rfl) ?_
                              refine lv_iconst (v := 1) hx hb dX4_read_269 (by decide) ?_
                              refine ti_callVv (ci := 4) (av := [.int 1]) C hw (x_X4_refuse l D A cy hJ M_32 iM_32 t ht 1 B n g_38 hs_39) ⟨ml_X4_82, ym_X4_refuse, yv_X4_refuse, yi_X4_refuse, yc_X4_refuse⟩ yd_X4_refuse ob_1 (by decide) rfl rfl hl.1 (Nat.le_of_ble_eq_true rfl) ⟨by decide, by decide⟩ ⟨Nat.zero_le _, Nat.zero_le _⟩ dX4_read_270 (fun M_199 H locs hp_199 hw => ?_)
                              obtain ⟨iM_199, q_200, q_201, q_202, q_203, p0r_198⟩ := hp_199
                              have hlr_198_1 : (1 : Int32).toInt = 1 := by decide
                              simp only [hlr_198_1] at p0r_198
                              obtain ⟨g_204, eg_204⟩ : ∃ z : Nat → Int, z = pp_rf 1 g_38 := ⟨_, rfl⟩
                              rw [← eg_204] at p0r_198
                              have lg_204_0 : g_204 0 = (tI M_199 2 4).toInt := p0r_198.2.1.1
                              have lg_204_1 : g_204 1 = (tI M_199 2 6).toInt := p0r_198.2.1.2.1
                              have lg_204_4 : g_204 4 = (tI M_199 1 4).toInt := p0r_198.2.2.1.1
                              have lg_204_7 : g_204 7 = (tI M_199 t 4).toInt := p0r_198.2.2.2.1.1
                              have lg_204_8 : g_204 8 = (tI M_199 t 5).toInt := p0r_198.2.2.2.1.2.1
                              have lg_204_9 : g_204 9 = (tI M_199 t 3).toInt := p0r_198.2.2.2.1.2.2
                              have tq_205 : tq t d_40 M_199 := tq_fr ht tq_41 q_201 q_203
                              exact hj_273_217 M_199 g_204 d_40 _ _ _ iM_199 (rR.trans (rr_of q_200) f_33) (f0.trans (f0_12 q_201) f_34) ((q_202).trans f_35) (ot.trans (ot_12 ht q_201 q_203) f_36) ((tT_fr q_200).trans f_37) p0r_198 tq_205 (by unfold pp_lb; rw [if_neg (by omega), if_neg (by omega), if_neg (by omega), if_neg (by omega), if_neg (by omega), if_neg (by omega), if_neg (by omega), if_neg (by omega), if_neg (by omega), ← eg_204]) (by unfold qq_lb; rw [if_neg (by omega), if_neg (by omega), if_neg (by omega), if_neg (by omega), if_neg (by omega), if_neg (by omega), if_neg (by omega), if_neg (by omega), if_neg (by omega)]) hw (lv_sub hl [0, 1, 2, 3] rfl)
  exact hl_37_44 ((701 - 0 : Int).toNat + 1) 0 M_23 g_27 d_12 _ _ _ (Nat.lt_succ_self _) (by have lt0 : (0 : Int32).toInt = 0 := (by decide); first | omega | decide) (by have lt0 : (0 : Int32).toInt = 0 := (by decide); first | omega | decide) iM_23 (rR.trans (rr_of q_24) (rR.trans (rr_of (rf_I hM_19)) (rR.trans (rr_of (rf_I hM_16)) (rR.trans (rr_of (rf_I hM_13)) (rR.trans (rr_of q_5) (rr_T hM_1)))))) (f0.trans (f0_12 (o2_12 q_25)) (f0.trans (f0_I hM_19 (by decide)) (f0.trans (f0_I hM_16 (by decide)) (f0.trans (f0_I hM_13 (by decide)) (f0.trans q_6 (f0_of (ra_T hM_1))))))) ((q_26).trans ((tI_nE hM_19 (nk (by decide))).trans ((tI_nE hM_16 (nk (by decide))).trans ((tI_nE hM_13 (nk (by decide))).trans ((q_7).trans (tI_uTE hM_1)))))) (ot.trans (ot_12 ht (o2_12 q_25) y0M_23) (ot.trans (ot_I ht hM_19 (by omega)) (ot.trans (ot_I ht hM_16 (by omega)) (ot.trans (ot_I ht hM_13 (by omega)) (ot.trans q_11 (ot_of (ra_T hM_1) (ry_T hM_1))))))) ((tT_fr q_24).trans ((tT_uIE hM_19).trans ((tT_uIE hM_16).trans ((tT_uIE hM_13).trans ((tT_fr q_5).trans (tT_uE hM_1)))))) hs0 tq_28 (by unfold pp_tx; rw [← eg_27]; rfl) (by unfold qq_tx; rw [← eg_27, ← ed_12]; rfl) (by have lt0 : (0 : Int32).toInt = 0 := (by decide); first | omega | decide) hw (lv_sub hl [0, 1, 2, 3] rfl)
end
section
variable {Tc : gC} {Tm : gM}
theorem n8_255 (x : Int32) : x.toInt8.toInt32 &&& 255 = x &&& 255 := by
  apply Int32.toBitVec_inj.mp
  rw [Int32.toBitVec_and, Int32.toBitVec_and]
  have h : ∀ i : Nat, i < 32 → ((255 : Int32).toBitVec.getLsbD i = true → i < 8) := by decide
  have e : x.toInt8.toInt32.toBitVec = (x.toBitVec.signExtend 8).signExtend 32 := rfl
  rw [e]
  apply BitVec.eq_of_getLsbD_eq
  intro i hi
  rw [BitVec.getLsbD_and, BitVec.getLsbD_and]
  by_cases q : i < 8
  · have e2 : ((x.toBitVec.signExtend 8).signExtend 32).getLsbD i = x.toBitVec.getLsbD i := by
      rw [BitVec.getLsbD_signExtend, BitVec.getLsbD_signExtend]
      simp [q, hi]
    rw [e2]
  · have e2 : (255 : Int32).toBitVec.getLsbD i = false := by
      cases g : (255 : Int32).toBitVec.getLsbD i with
      | true => exact absurd (h i hi g) q
      | false => rfl
    rw [e2, Bool.and_false, Bool.and_false]
theorem pb_st {y x z : Int32} (e : y = x.toInt8.toInt32) (e2 : x = z) : vp_nar .byte y &&& 255 = z &&& 255 := by
  rw [vp_nar_byte, n8_255, e, n8_255, e2]
theorem cI_tp {M N : ti_M} {f : Nat → Int32} (h : cI Tc M) (e : N = uY M 2 0 f) : cI (cG N) N := by
  subst e
  refine ⟨fun o2 k2 => h.1 o2 k2, fun o2 k2 i => ?_, rfl⟩
  by_cases q : k2 = 0 ∧ o2 = 2
  · obtain ⟨rfl, rfl⟩ := q; show cBY 7 0 _; trivial
  · rw [tY_n _ _ _ _ q]; exact h.2.1 o2 k2 i
theorem cF_rx {M N : ti_M} {Tn : gC} (h : cF Tc M) (hI : cI Tn N) (r : rR N M) (x : f0 N M) : cF Tn N := by
  obtain ⟨-, h1, h2, h3, h4, h5⟩ := h
  refine ⟨hI, h1.to (r 0 1 (by decide)), h2.to (r 0 2 (by decide)), h3.to (r 27 0 (by decide)), h4.to (x 1).2 (x 2).2 (fun i hi => r _ _ (by omega)), fun q => (h5 ?_).to (r 49 0 (by decide))⟩
  rwa [(x 7).1] at q
end
section
variable {Tc : gC} {Tm : gM}
/-- the told text's count of men and their names are in the registers; the other text is the spare -/
def tdC (M : ti_M) (rg : Nat → Int) : Prop := ∃ t, (t = 3 ∨ t = 4) ∧ tT M 0 1 = some t ∧ tT M 0 2 = some (7 - t) ∧ rg 7 = (tI M t 4).toInt ∧ ∀ i : Nat, i < 8 → rg (100 + i) = (tI M (ti_men t i) 0).toInt
theorem tdC_sp {M : ti_M} {rg : Nat → Int} {t1 t2 : Nat} (h : tdC M rg) (e1 : tT M 0 1 = some t1) (e2 : tT M 0 2 = some t2) : t2 = 7 - t1 := by
  obtain ⟨t, -, a, b, -, -⟩ := h
  obtain rfl : t1 = t := Option.some.inj (e1.symm.trans a)
  exact Option.some.inj (e2.symm.trans b)
theorem tdC_of {M N : ti_M} {rg : Nat → Int} {t1 : Nat} (h : tdC M rg) (e1 : tT M 0 1 = some t1) (hI : ∀ k : Nat, tI N t1 k = tI M t1 k) (hm : ∀ i k : Nat, i < 8 → tI N (ti_men t1 i) k = tI M (ti_men t1 i) k) (a : tT N 0 1 = some t1) (b : tT N 0 2 = some (7 - t1)) : tdC N rg := by
  obtain ⟨t, ht, a1, b1, c, d⟩ := h
  obtain rfl : t1 = t := Option.some.inj (e1.symm.trans a1)
  exact ⟨t1, ht, a, b, by rw [hI]; exact c, fun i hi => by rw [hm i 0 hi]; exact d i hi⟩
theorem tdC_tl {M N : ti_M} {rg : Nat → Int} (h : tdC M rg) (x : tl N M) : tdC N rg := by
  obtain ⟨t, ht, a, b, -, -⟩ := id h
  exact tdC_of h a (fun k => x.1 t k (by omega) (by omega)) (fun i k hi => x.1 _ k (by have := pp_men (t := t) (i := i); omega) (pp_men20 hi)) (x.2.1.trans a) (x.2.2.trans b)
theorem tdC_rc {M R N : ti_M} {rg : Nat → Int} {B : Nat → Int} {n : Nat} {J : Nat → Int} {t1 t2 : Nat} (h : tdC M rg) (ht2 : t2 = 3 ∨ t2 = 4) (e1 : tT M 0 1 = some t1) (e2 : tT M 0 2 = some t2) (hJ : rC B n t2 J R) (x : ∀ o k : Nat, 1 ≤ o → o < 27 → tI N o k = tI R o k) (a : tT N 0 1 = some t2) (b : tT N 0 2 = some t1) : tdC N J := by
  have e := tdC_sp h e1 e2
  have e4 : 7 - t2 = t1 := by
    obtain ⟨t, ht, a1, -, -, -⟩ := id h
    obtain rfl : t1 = t := Option.some.inj (e1.symm.trans a1)
    omega
  exact ⟨t2, ht2, a, by rw [e4]; exact b, by rw [x t2 4 (by omega) (by omega)]; exact hJ.2.2.2.1.1, fun i hi => by rw [x _ 0 (by have := pp_men (t := t2) (i := i); omega) (by have := pp_men20 (t := t2) hi; omega)]; exact (hJ.2.2.2.2 i hi).1⟩
theorem tdC_ot {M N : ti_M} {rg : Nat → Int} {t1 t2 : Nat} (h : tdC M rg) (e1 : tT M 0 1 = some t1) (e2 : tT M 0 2 = some t2) (x : ot t2 N M) (a : tT N 0 1 = some t1) (b : tT N 0 2 = some t2) : tdC N rg := by
  have e := tdC_sp h e1 e2
  obtain ⟨t, ht, a1, -, -, -⟩ := id h
  obtain rfl : t1 = t := Option.some.inj (e1.symm.trans a1)
  have e3 : 7 - t2 = t1 := by omega
  subst e
  unfold ot at x
  rw [e3] at x
  exact tdC_of h e1 x.1 x.2.1 a b
def t5 (N M : ti_M) : Prop := (∀ o k : Nat, 3 ≤ o → tI N o k = tI M o k) ∧ tT N 0 1 = tT M 0 1 ∧ tT N 0 2 = tT M 0 2
theorem tdC_5 {M N : ti_M} {rg : Nat → Int} (h : tdC M rg) (x : t5 N M) : tdC N rg := by
  obtain ⟨t, ht, a, b, -, -⟩ := id h
  exact tdC_of h a (fun k => x.1 t k (by omega)) (fun i k hi => x.1 _ k (by have := pp_men (t := t) (i := i); omega)) (x.2.1.trans a) (x.2.2.trans b)
end
section
variable {Tc : gC} {Tm : gM}
set_option maxHeartbeats 4000000 in
set_option maxRecDepth 100000 in
theorem x_X9_isPlace (l : Launch) (D : va_G) (A : Nat → Nat → Nat) (cy : Nat → ClassId) (hJ : ti_inj ti_LT A) (M : ti_M) (hI : cI Tc M)  (mn : Int32) : ti_Ki l yX9_isPlace cX9_isPlace 2 (some .boolean) 0 ti_LT D A cy M [.ref (A 0 0), .int mn] (fun r M2 => M2 = M ∧ ((r = 1 ∧ 0 ≤ mn.toInt ∧ mn.toInt ≤ 7) ∨ (r = 0 ∧ (mn.toInt < 0 ∨ 7 < mn.toInt)))) := by
  refine ti_eI yp_X9_isPlace hJ ti_LT_nd (Nat.le_of_ble_eq_true rfl) ?_
  intro p e s m args below meth c Q H0 C hQ hw ls hl
  have hx := C.1
  have hb := C.2.1
  have hl : lv_has ls 2 [(0, .ref (A 0 0)), (1, .int mn)] := hl
  refine lv_iload_n hx hb dX9_isPlace_0 rfl (lv_at hl 1 rfl) ?_
  refine sb_if_lt (tgt := 14) hx hb rfl dX9_isPlace_1 (by decide) (fun c_1_0 => ?_) (fun c_1_0 => ?_)
  · refine lv_iconst (v := 0) hx hb dX9_isPlace_14 (by decide) ?_
    exact hQ _ _ _ _ _ _ hw rfl (⟨rfl, Or.inr ⟨rfl, by omega⟩⟩) dX9_isPlace_15
  · refine lv_iload_n hx hb dX9_isPlace_4 rfl (lv_at hl 1 rfl) ?_
    refine lv_bipush (v := 8) hx hb dX9_isPlace_5 (by decide) ?_
    refine sb_icmp_ge (tgt := 14) hx hb rfl (by decide : (8 : Int32).toInt = 8) dX9_isPlace_7 (by decide) (fun c_7_1 => ?_) (fun c_7_1 => ?_)
    · refine lv_iconst (v := 0) hx hb dX9_isPlace_14 (by decide) ?_
      exact hQ _ _ _ _ _ _ hw rfl (⟨rfl, Or.inr ⟨rfl, by omega⟩⟩) dX9_isPlace_15
    · refine lv_iconst (v := 1) hx hb dX9_isPlace_10 (by decide) ?_
      refine lv_goto (tgt := 15) hx hb dX9_isPlace_11 (by decide) ?_
      exact hQ _ _ _ _ _ _ hw rfl (⟨rfl, Or.inl ⟨rfl, by omega, by omega⟩⟩) dX9_isPlace_15
set_option maxHeartbeats 4000000 in
set_option maxRecDepth 100000 in
theorem x_X9_isMan (l : Launch) (D : va_G) (A : Nat → Nat → Nat) (cy : Nat → ClassId) (hJ : ti_inj ti_LT A) (M : ti_M) (hI : cI Tc M) (t1 : Nat) (ht1 : t1 = 3 ∨ t1 = 4) (hT1 : tT M 0 1 = some t1) (mn : Int32) : ti_Ki l yX9_isMan cX9_isMan 2 (some .boolean) 0 ti_LT D A cy M [.ref (A 0 0), .int mn] (fun r M2 => M2 = M ∧ ((r = 1 ∧ 0 ≤ mn.toInt ∧ mn.toInt < (tI M t1 4).toInt) ∨ (r = 0 ∧ (mn.toInt < 0 ∨ (tI M t1 4).toInt ≤ mn.toInt)))) := by
  refine ti_eI yp_X9_isMan hJ ti_LT_nd (Nat.le_of_ble_eq_true rfl) ?_
  intro p e s m args below meth c Q H0 C hQ hw ls hl
  have hx := C.1
  have hb := C.2.1
  have hl : lv_has ls 2 [(0, .ref (A 0 0)), (1, .int mn)] := hl
  refine lv_iload_n hx hb dX9_isMan_0 rfl (lv_at hl 1 rfl) ?_
  refine sb_if_lt (tgt := 19) hx hb rfl dX9_isMan_1 (by decide) (fun c_1_0 => ?_) (fun c_1_0 => ?_)
  · refine lv_iconst (v := 0) hx hb dX9_isMan_19 (by decide) ?_
    exact hQ _ _ _ _ _ _ hw rfl (⟨rfl, Or.inr ⟨rfl, by omega⟩⟩) dX9_isMan_20
  · refine lv_iload_n hx hb dX9_isMan_4 rfl (lv_at hl 1 rfl) ?_
    refine lv_aload_n hx hb dX9_isMan_5 rfl (lv_at hl 0 rfl) ?_
    refine ti_get (ci := 9) (k := 1) (N := 10) (T := TX9) (v := .ref (A t1 0)) C hw iw_9 rfl ob_0 (by decide) (by decide) fl_X9_19 rfl (ti_Tv (hT1)) dX9_isMan_6 ?_
    refine ti_get (ci := 8) (k := 4) (N := 12) (T := TX8) C hw iw_8 rfl (ob_t ht1) (by decide) (by decide) fl_X9_301 rfl rfl dX9_isMan_9 ?_
    refine lv_topi (fun x_2 ex_2 => ?_)
    have bx_2 : 0 ≤ x_2.toInt ∧ x_2.toInt ≤ 8 := cI_rd hI (ob_t ht1).1 ex_2
    have ux_2 : (tI M t1 4).toInt = x_2.toInt := by rw [ex_2]
    refine sb_icmp_ge (tgt := 19) hx hb rfl rfl dX9_isMan_12 (by decide) (fun c_12_2 => ?_) (fun c_12_2 => ?_)
    · refine lv_iconst (v := 0) hx hb dX9_isMan_19 (by decide) ?_
      exact hQ _ _ _ _ _ _ hw rfl (⟨rfl, Or.inr ⟨rfl, by omega⟩⟩) dX9_isMan_20
    · refine lv_iconst (v := 1) hx hb dX9_isMan_15 (by decide) ?_
      refine lv_goto (tgt := 20) hx hb dX9_isMan_16 (by decide) ?_
      exact hQ _ _ _ _ _ _ hw rfl (⟨rfl, Or.inl ⟨rfl, by omega, by omega⟩⟩) dX9_isMan_20
end
section
variable {Tc : gC} {Tm : gM}
variable {Tc : gC} {Tm : gM}
/-- as an int wraps -/
def bw (x : Int) : Int := x.bmod 4294967296
abbrev bl_ER : Int := -9223372036854775808
def bl_if (p : Prop) [Decidable p] : Int := if p then 1 else 0
/-- a sign's work, unbounded -/
def bl_w (k a b : Int) : Int :=
  if k = 38 then a + b else if k = 39 then a - b else if k = 40 then (if a * b ≤ 1000000000000 ∧ -1000000000000 ≤ a * b then a * b else bl_ER) else if k = 41 then (if b = 0 then bl_ER else Int.tdiv a b) else if k = 32 then bl_if (a < b) else if k = 33 then bl_if (a ≤ b) else if k = 34 then bl_if (a = b) else if k = 35 then bl_if (a ≠ b) else if k = 36 then bl_if (b ≤ a) else if k = 37 then bl_if (b < a) else if k = 22 then bl_if (a ≠ 0 ∧ b ≠ 0) else if k = 23 then bl_if (a ≠ 0 ∨ b ≠ 0) else bl_ER
/-- a law's value: code, facts, how many knots are left, which is next, how many lie on the pile, the pile -/
def bl_rn (co fa : Nat → Int) : Nat → Nat → Nat → (Nat → Int) → Int
  | 0, _, t, st => if t = 1 then st 0 else bl_ER
  | f + 1, i, t, st =>
    if -21 ≤ co i then bl_rn co fa f (i + 1) (t + 1) (pp_su st t (if 0 ≤ co i then co i else fa (-(co i) - 16).toNat))
    else if co i = -24 ∧ 0 < t then bl_rn co fa f (i + 1) t (pp_su st (t - 1) (if st (t - 1) = 0 then 1 else 0))
    else if 1 < t then (if 1000000000000 < bl_w (-(co i)) (st (t - 2)) (st (t - 1)) ∨ bl_w (-(co i)) (st (t - 2)) (st (t - 1)) < -1000000000000 then bl_ER else bl_rn co fa f (i + 1) (t - 1) (pp_su st (t - 2) (bl_w (-(co i)) (st (t - 2)) (st (t - 1)))))
    else bl_rn co fa f (i + 1) t st
def bq_ma (s : Nat → Int) (p : Int) : Int := if 0 ≤ p ∧ p < s 3 then s (96 + p.toNat) else -2
def bq_pf (s : Nat → Int) (m : Int) : Nat → Nat → Int
  | 0, _ => -1
  | f + 1, p => if s (96 + p) = m then (p : Int) else bq_pf s m f (p + 1)
/-- the place of a man from p on -/
def bq_po (s : Nat → Int) (m : Int) (p : Nat) : Int := bq_pf s m ((s 3).toNat - p) p
theorem po_go {s : Nat → Int} {m : Int} {p : Nat} (h : p < (s 3).toNat) (hp : ¬ s (96 + p) = m) : bq_po s m p = bq_po s m (p + 1) := by
  unfold bq_po
  rw [show (s 3).toNat - p = ((s 3).toNat - (p + 1)) + 1 by omega, bq_pf, if_neg hp]
theorem po_at {s : Nat → Int} {m : Int} {p : Nat} (h : p < (s 3).toNat) (hp : s (96 + p) = m) : bq_po s m p = p := by
  unfold bq_po
  rw [show (s 3).toNat - p = ((s 3).toNat - (p + 1)) + 1 by omega, bq_pf, if_pos hp]
theorem po_end {s : Nat → Int} {m : Int} {p : Nat} (h : (s 3).toNat ≤ p) : bq_po s m p = -1 := by
  unfold bq_po
  rw [show (s 3).toNat - p = 0 by omega]
  rfl
def bq_wt (s : Nat → Int) (m : Int) : Int := if s (128 + m.toNat) = 0 then 0 else if s (128 + m.toNat) = 1 then bw (s 2 - s (208 + m.toNat)) else bw (s (224 + m.toNat) - s (208 + m.toNat))
def bq_fa (tx s : Nat → Int) (m : Int) (ps : Int) (j : Nat) : Int := if j = 0 then tx (100 + 16 * m.toNat + 1) else if j = 1 then tx (100 + 16 * m.toNat + 2) else if j = 2 then tx (100 + 16 * m.toNat + 4) else if j = 3 then s (192 + m.toNat) else if j = 4 then ps else bq_wt s m
/-- a law's value for who stands at a place -/
def bq_lv (tx s : Nat → Int) (k : Nat) (pl ps : Int) : Int := if bq_ma s pl < 0 ∨ tx (300 + k) = 0 then bl_ER else bl_rn (fun n => tx (400 + 64 * k + n)) (bq_fa tx s (bq_ma s pl) ps) (tx (300 + k)).toNat 0 0 (fun _ => 0)
def bq_pt (v lo hi wo : Int) : Int := if v = bl_ER then wo else if v < lo then lo else if hi < v then hi else v
def bq_nd (tx s : Nat → Int) : Int := bq_pt (bq_lv tx s 2 0 (s 3)) 1 9 ((s 3 + 1) / 2)
/-- one joins -/
def bq_ap (s : Nat → Int) (m : Int) : Nat → Int := if s 3 < 8 then pp_su (pp_su (pp_su (pp_su s (96 + (s 3).toNat) m) 3 (s 3 + 1)) (128 + m.toNat) 1) (208 + m.toNat) (s 2) else s
/-- places from i on move up by one -/
def bq_sf : Nat → Nat → (Nat → Int) → Nat → Int
  | 0, _, s => s
  | f + 1, i, s => bq_sf f (i + 1) (pp_su s (96 + i) (s (96 + i + 1)))
def bq_r2 (s : Nat → Int) (m : Int) (ns mi : Int) : Nat → Int := pp_su (pp_su (pp_su (pp_su s (128 + m.toNat) ns) (224 + m.toNat) mi) (240 + m.toNat) 0) (256 + m.toNat) 0
/-- one leaves his place -/
def bq_rm (s : Nat → Int) (p ns : Int) : Nat → Int := if bq_ma s p < 0 then s else bq_r2 (bq_sf (s 3 - 1 - p).toNat p.toNat (pp_su s 3 (s 3 - 1))) (bq_ma s p) ns (s 2)
def bq_ex (s : Nat → Int) (a b : Int) : Nat → Int := if 0 ≤ bq_po s a 0 ∧ 0 ≤ bq_po s b 0 then pp_su (pp_su s (96 + (bq_po s a 0).toNat) b) (96 + (bq_po s b 0).toNat) a else s
/-- who joins next: from m on, the best so far -/
def bq_nf (tx s : Nat → Int) : Nat → Nat → Int → Int
  | 0, _, b => b
  | f + 1, m, b => bq_nf tx s f (m + 1) (if s (128 + m) = 0 ∧ s (144 + m) = s 2 ∧ (b = -1 ∨ tx (100 + 16 * m + 2) < tx (100 + 16 * b.toNat + 2) ∨ (tx (100 + 16 * m + 2) = tx (100 + 16 * b.toNat + 2) ∧ tx (100 + 16 * b.toNat + 1) < tx (100 + 16 * m + 1))) then (m : Int) else b)
def bq_nx (tx s : Nat → Int) : Int := bq_nf tx s (tx 4).toNat 0 (-1)
/-- who comes joins -/
def bq_wl (tx : Nat → Int) : Nat → (Nat → Int) → Nat → Int
  | 0, s => s
  | f + 1, s => if bq_nx tx s = -1 then s else bq_wl tx f (bq_ap s (bq_nx tx s))
/-- how many coughs are heard: places left, from p on, heard so far -/
def bq_hs (s : Nat → Int) : Nat → Nat → Int → Int
  | 0, _, h => h
  | f + 1, p, h => bq_hs s f (p + 1) (bw (h + s (256 + (s (96 + p)).toNat)))
def bq_mn (a b : Int) : Int := if b < a then b else a
def bq_lh (tx s : Nat → Int) : Int := bq_mn (tx 9) (s 3 - 1)
def bq_fc (s : Nat → Int) : Nat → Int := fun j => if 256 ≤ j ∧ j < 264 then 0 else s j
/-- coughs -/
def bq_hc (tx s : Nat → Int) : Nat → Int :=
  if s 1 = 0 then (if 0 < bq_hs s (bq_lh tx s).toNat 1 0 ∧ bq_nd tx s ≤ bq_hs s (bq_lh tx s).toNat 1 0 ∧ ¬ (1 < s 3 ∧ tx (100 + 16 * (s 97).toNat + 9) = s 96) then bq_fc (bq_rm s 0 3) else bq_fc s) else s
/-- the first is served -/
def bq_pn (tx s : Nat → Int) : Int := bq_mn (bq_mn (tx 7) (bw (tx (100 + 16 * (s 96).toNat + 4) - s (176 + (s 96).toNat)))) (s 4)
def bq_pr (tx s : Nat → Int) : Nat → Int := if s 3 = 0 then s else pp_su (pp_su s 4 (bw (s 4 - bq_pn tx s))) (176 + (s 96).toNat) (bw (s (176 + (s 96).toNat) + bq_pn tx s))
/-- one pays -/
def bq_py (s : Nat → Int) (m k n : Int) : Nat → Int := pp_su (pp_su s (192 + m.toNat) (bw (s (192 + m.toNat) - n))) (192 + k.toNat) (bw (pp_su s (192 + m.toNat) (bw (s (192 + m.toNat) - n)) (192 + k.toNat) + n))
def bq_l1 (tx s : Nat → Int) (k : Int) (p : Nat) : Nat → Int := if s (96 + p) = k then s else bq_py s (s (96 + p)) k (bq_mn (bq_pt (bq_lv tx s 0 p p) 0 99 1) (s (192 + (s (96 + p)).toNat)))
def bq_lf (tx : Nat → Int) (k : Int) : Nat → Nat → (Nat → Int) → Nat → Int
  | 0, _, s => s
  | f + 1, p, s => bq_lf tx k f (p + 1) (bq_l1 tx s k p)
/-- the tax -/
def bq_ly (tx s : Nat → Int) : Nat → Int := if bq_ma s (s 114) < 0 ∨ tx 8 < 1 ∨ ¬ s 2 % tx 8 = 0 then s else bq_lf tx (bq_ma s (s 114)) (s 3).toNat 0 s
def bq_w1 (tx s : Nat → Int) (p : Nat) : Nat → Int := if 0 < s (240 + (s (96 + p)).toNat) then pp_su s (240 + (s (96 + p)).toNat) (s (240 + (s (96 + p)).toNat) - 1) else if 0 < p then pp_su s (160 + (s (96 + p)).toNat) (bw (s (160 + (s (96 + p)).toNat) - bq_pt (bq_lv tx s 1 p p) 0 9 1)) else s
def bq_wf (tx : Nat → Int) : Nat → Nat → (Nat → Int) → Nat → Int
  | 0, _, s => s
  | f + 1, p, s => bq_wf tx f (p + 1) (bq_w1 tx s p)
/-- patience -/
def bq_wr (tx s : Nat → Int) : Nat → Int := bq_wf tx (s 3).toNat 0 s
def bq_o1 (s : Nat → Int) (p : Nat) : Nat → Int := if s (160 + (s (96 + p)).toNat) ≤ 0 then bq_rm s p 3 else s
/-- from place p down to 1 -/
def bq_of : Nat → (Nat → Int) → Nat → Int
  | 0, s => s
  | p + 1, s => bq_of p (bq_o1 s (p + 1))
def bq_sv (tx s : Nat → Int) : Nat → Int := if 0 < s 3 ∧ tx (100 + 16 * (s 96).toNat + 4) ≤ s (176 + (s 96).toNat) then bq_rm s 0 2 else s
/-- who is served, who has lost patience -/
def bq_rl (tx s : Nat → Int) : Nat → Int := bq_of ((bq_sv tx s) 3 - 1).toNat (bq_sv tx s)
def bq_dr (n : Int) : Int := (n * 1103515245 + 12345) % 2147483648
/-- muttering -/
def bq_mt (tx s : Nat → Int) : Nat → Int := if s 1 = 3 ∨ tx 10 = 0 then s else if (bq_dr (s 5) / 65536) % 100 < tx 10 ∧ 1 < s 3 then bq_rm (pp_su s 5 (bq_dr (s 5))) (s 3 - 1) 3 else pp_su s 5 (bq_dr (s 5))
def bq_m1 (s : Nat → Int) : Nat → Int := pp_su s 2 (bw (s 2 + 1))
/-- a minute -/
def bq_ps (tx s : Nat → Int) : Nat → Int := bq_m1 (bq_mt tx (bq_rl tx (bq_wr tx (bq_ly tx (bq_pr tx (bq_hc tx (bq_wl tx (tx 4).toNat s)))))))
def bq_pl (tx : Nat → Int) : Nat → (Nat → Int) → Nat → Int
  | 0, s => s
  | f + 1, s => bq_pl tx f (bq_ps tx s)
theorem su_cg {s s' : Nat → Int} {k k' : Nat} {v v' : Int} (h : s = s') (hk : k = k') (hv : v = v') : pp_su s k v = pp_su s' k' v' := by rw [h, hk, hv]
theorem bw_id {x : Int} (h1 : -2147483648 ≤ x) (h2 : x ≤ 2147483647) : bw x = x := by
  unfold bw
  rw [Int.bmod_def]
  split <;> omega
theorem bw_add {x y z : Int32} {a b : Int} (e : z = x + y) (ha : x.toInt = a) (hb : y.toInt = b) : z.toInt = bw (a + b) := by
  rw [e, Int32.toInt_add, ha, hb]; rfl
theorem bw_sub {x y z : Int32} {a b : Int} (e : z = x - y) (ha : x.toInt = a) (hb : y.toInt = b) : z.toInt = bw (a - b) := by
  rw [e, Int32.toInt_sub, ha, hb]; rfl
/-- all but the object q stays -/
def eo (q : Nat) (N M : ti_M) : Prop := (∀ o k : Nat, o ≠ q → tI N o k = tI M o k) ∧ ∀ o k : Nat, o ≠ q → tY N o k = tY M o k
theorem eo.refl {q : Nat} {M : ti_M} : eo q M M := ⟨fun _ _ _ => rfl, fun _ _ _ => rfl⟩
theorem eo.trans {q : Nat} {K N M : ti_M} (x : eo q K N) (y : eo q N M) : eo q K M := ⟨fun o k h => (x.1 o k h).trans (y.1 o k h), fun o k h => (x.2 o k h).trans (y.2 o k h)⟩
theorem eo_I {q k : Nat} {N M : ti_M} {v : Int32} (e : N = uI M q k v) : eo q N M := ⟨fun _ _ h => tI_nE e (no h), fun _ _ _ => tY_uIE e⟩
theorem eo_Y {q k : Nat} {N M : ti_M} {f : Nat → Int32} (e : N = uY M q k f) : eo q N M := ⟨fun _ _ _ => tI_uYE e, fun _ _ h => tY_nE e (no h)⟩
theorem eo_Z {q o k : Nat} {N M : ti_M} {f : Nat → Int64} (e : N = uZ M o k f) : eo q N M := ⟨fun _ _ _ => tI_uZE e, fun _ _ _ => tY_uZE e⟩
theorem eo_T {q o k : Nat} {N M : ti_M} {f : Option Nat} (e : N = uT M o k f) : eo q N M := ⟨fun _ _ _ => tI_uTE e, fun _ _ _ => tY_uTE e⟩
theorem eo_of {q : Nat} {N M : ti_M} (e1 : N.1 = M.1) (e2 : N.2.1 = M.2.1) : eo q N M := ⟨fun _ _ _ => tI_fr e1, fun _ _ _ => tY_fr e2⟩
def qC (q : Nat) (s : Nat → Int) (M : ti_M) : Prop := (∀ k : Nat, 1 ≤ k → k ≤ 5 → s k = (tI M q k).toInt) ∧ ∀ k i : Nat, 6 ≤ k → k ≤ 16 → i < 8 → (k = 7 → i < 3) → s (16 * k + i) = (tY M q k i).toInt
section
variable {q t k j : Nat} {s tx : Nat → Int} {M N : ti_M} {v : Int32} {z : Int}
theorem qC_I (h : qC q s M) (hv : v.toInt = z) (e : N = uI M q k v) (hk : k ≤ 5) : qC q (pp_su s k z) N := by
  refine ⟨fun k2 h1 h2 => ?_, fun k2 i h1 h2 hi h7 => ?_⟩
  · by_cases r : k2 = k
    · subst r; rw [su_s, tI_uE e, hv]
    · rw [su_n r, tI_nE e (nk r)]; exact h.1 k2 h1 h2
  · rw [su_n (by omega), tY_uIE e]; exact h.2 k2 i h1 h2 hi h7
theorem qC_Y {i : Int32} (h : qC q s M) (hi : i.toInt = (j : Int)) (hv : v.toInt = z) (e : N = uY M q k (upd (tY M q k) i.toNatClampNeg v)) (h6 : 6 ≤ k) (hj : j < 8) : qC q (pp_su s (16 * k + j) z) N := by
  rw [i_cl hi] at e
  refine ⟨fun k2 h1 h2 => ?_, fun k2 i2 h1 h2 hi2 h7 => ?_⟩
  · rw [su_n (by omega), tI_uYE e]; exact h.1 k2 h1 h2
  · by_cases r : k2 = k
    · subst r
      rw [tY_uE e]
      by_cases r2 : i2 = j
      · subst r2; rw [su_s, pk_us, hv]
      · rw [su_n (by omega), pk_un r2]; exact h.2 k2 i2 h1 h2 hi2 h7
    · rw [su_n (by omega), tY_nE e (nk r)]; exact h.2 k2 i2 h1 h2 hi2 h7
theorem qC_Z {o : Nat} {f : Nat → Int64} (h : qC q s M) (e : N = uZ M o k f) : qC q s N := by subst e; exact h
theorem qC_T {o : Nat} {f : Option Nat} (h : qC q s M) (e : N = uT M o k f) : qC q s N := by subst e; exact h
theorem qC_eo {o : Nat} (h : qC q s M) (e : eo o N M) (ho : q ≠ o) : qC q s N := ⟨fun k h1 h2 => by rw [e.1 q k ho]; exact h.1 k h1 h2, fun k i h1 h2 hi h7 => by rw [e.2 q k ho]; exact h.2 k i h1 h2 hi h7⟩
theorem qC_of (h : qC q s M) (e1 : N.1 = M.1) (e2 : N.2.1 = M.2.1) : qC q s N := ⟨fun k h1 h2 => by rw [tI_fr e1]; exact h.1 k h1 h2, fun k i h1 h2 hi h7 => by rw [tY_fr e2]; exact h.2 k i h1 h2 hi h7⟩
theorem qC_y {i : Int32} {a : Int} (h : qC q s M) (hi : i.toInt = a) (h0 : 0 ≤ a) (h8 : a < 8) (h6 : 6 ≤ k) (h16 : k ≤ 16) (e : v = tY M q k i.toNatClampNeg) (h7 : k = 7 → a < 3 := by omega) : s (16 * k + a.toNat) = v.toInt := by
  rw [h.2 k a.toNat h6 h16 (by omega) (by omega), e, i_cl (n := a.toNat) (by omega)]
def tC (t : Nat) (tx : Nat → Int) (M : ti_M) : Prop := (∀ k : Nat, 4 ≤ k → k ≤ 11 → tx k = (tI M t k).toInt) ∧ (∀ i : Nat, i < 3 → tx (32 + i) = (tY M t 1 i).toInt) ∧ (∀ i k : Nat, i < 8 → 1 ≤ k → k ≤ 9 → tx (100 + 16 * i + k) = (tI M (ti_men t i) k).toInt) ∧ ∀ j : Nat, j < 3 → tx (300 + j) = (tI M (ti_laws t j) 3).toInt ∧ ∀ n : Nat, n < 64 → tx (400 + 64 * j + n) = (tY M (ti_laws t j) 0 n).toInt
theorem tC_eo (ht : t = 3 ∨ t = 4) (hq : ti_cls q = 3) (h : tC t tx M) (e : eo q N M) : tC t tx N := by
  have e1 : t ≠ q := cls_ne (ob_t ht).1 hq (by decide)
  have e2 : ∀ i : Nat, i < 8 → ti_men t i ≠ q := fun i hi => cls_ne (ob_m ht hi).1 hq (by decide)
  have e3 : ∀ i : Nat, i < 3 → ti_laws t i ≠ q := fun i hi => cls_ne (ob_l ht hi).1 hq (by decide)
  refine ⟨fun k h1 h2 => ?_, fun i hi => ?_, fun i k hi h1 h2 => ?_, fun j hj => ⟨?_, fun n hn => ?_⟩⟩
  · rw [e.1 t k e1]; exact h.1 k h1 h2
  · rw [e.2 t 1 e1]; exact h.2.1 i hi
  · rw [e.1 _ k (e2 i hi)]; exact h.2.2.1 i k hi h1 h2
  · rw [e.1 _ 3 (e3 j hj)]; exact (h.2.2.2 j hj).1
  · rw [e.2 _ 0 (e3 j hj)]; exact (h.2.2.2 j hj).2 n hn
end
theorem sf_go {n i : Nat} {s : Nat → Int} (h : i < n) : bq_sf (n - i) i s = bq_sf (n - (i + 1)) (i + 1) (pp_su s (96 + i) (s (96 + i + 1))) := by
  rw [show n - i = (n - (i + 1)) + 1 by omega]; rfl
theorem i_div2 {x z : Int32} {a : Int} (e : z = x / 2) (ha : x.toInt = a) (h : 0 ≤ a) : z.toInt = a / 2 := by
  rw [e, lg_idiv_nonneg (by omega) (by decide), ha]; rfl
theorem lg_c {a b : Int64} {z : Int32} (e : z = lg_cmp a b) : (a.toInt < b.toInt ∧ z.toInt = -1) ∨ (a.toInt = b.toInt ∧ z.toInt = 0) ∨ (b.toInt < a.toInt ∧ z.toInt = 1) := by
  rw [e]
  unfold lg_cmp
  by_cases h : a > b
  · rw [if_pos h]
    exact Or.inr (Or.inr ⟨Int64.lt_iff_toInt_lt.mp h, by decide⟩)
  · rw [if_neg h]
    by_cases h2 : a = b
    · rw [if_pos h2]
      exact Or.inr (Or.inl ⟨by rw [h2], by decide⟩)
    · rw [if_neg h2]
      have h3 : ¬ b.toInt < a.toInt := fun q => h (Int64.lt_iff_toInt_lt.mpr q)
      have h4 : ¬ a.toInt = b.toInt := fun q => h2 (Int64.toInt_inj.mp q)
      exact Or.inl ⟨by omega, by decide⟩
theorem bm64 {x : Int} (h1 : -9223372036854775808 ≤ x) (h2 : x ≤ 9223372036854775807) : x.bmod (2 ^ 64) = x := by
  rw [Int.bmod_def]
  split <;> omega
theorem l_add {x y z : Int64} {a b : Int} (e : z = x + y) (ha : x.toInt = a) (hb : y.toInt = b) (h1 : -9223372036854775808 ≤ a + b) (h2 : a + b ≤ 9223372036854775807) : z.toInt = a + b := by
  rw [e, Int64.toInt_add, ha, hb]; exact bm64 h1 h2
theorem l_sub {x y z : Int64} {a b : Int} (e : z = x - y) (ha : x.toInt = a) (hb : y.toInt = b) (h1 : -9223372036854775808 ≤ a - b) (h2 : a - b ≤ 9223372036854775807) : z.toInt = a - b := by
  rw [e, Int64.toInt_sub, ha, hb]; exact bm64 h1 h2
theorem l_mul {x y z : Int64} {a b : Int} (e : z = x * y) (ha : x.toInt = a) (hb : y.toInt = b) (h1 : -9223372036854775808 ≤ a * b) (h2 : a * b ≤ 9223372036854775807) : z.toInt = a * b := by
  rw [e, Int64.toInt_mul, ha, hb]; exact bm64 h1 h2
theorem l_neg {x z : Int64} {a : Int} (e : z = -x) (ha : x.toInt = a) (h1 : -9223372036854775807 ≤ a) (h2 : a ≤ 9223372036854775807) : z.toInt = -a := by
  rw [e, Int64.toInt_neg, ha]; exact bm64 (by omega) (by omega)
theorem l_div {x y z : Int64} {a b : Int} (e : z = x / y) (ha : x.toInt = a) (hb : y.toInt = b) (h1 : -9223372036854775807 ≤ a) (h2 : a ≤ 9223372036854775807) : z.toInt = Int.tdiv a b := by
  have hm : Int.tdiv a b ≤ 9223372036854775807 ∧ -9223372036854775807 ≤ Int.tdiv a b := by
    have h3 := Int.natAbs_tdiv_le_natAbs a b
    omega
  rw [e, Int64.toInt_div, ha, hb]; exact bm64 (by omega) (by omega)
/-- a product of two, by a quotient -/
theorem bl_mq {a b n m : Int} (hn : (a < 0 ∧ n = -a) ∨ (0 < a ∧ n = a)) (hm : m = Int.tdiv 1000000000000 n) : (b ≤ m ∧ -m ≤ b) ↔ (a * b ≤ 1000000000000 ∧ -1000000000000 ≤ a * b) := by
  have h0 : 0 < n := by omega
  have e : m = 1000000000000 / n := by rw [hm, Int.tdiv_eq_ediv_of_nonneg (by decide)]
  have k1 : ∀ x : Int, x ≤ m ↔ x * n ≤ 1000000000000 := fun x => by rw [e]; exact Int.le_ediv_iff_mul_le h0
  have k2 := k1 b
  have k3 := k1 (-b)
  have k4 : -b * n = -(b * n) := Int.neg_mul b n
  have k5 : (a < 0 ∧ a * b = -(b * n)) ∨ (0 < a ∧ a * b = b * n) := by
    rcases hn with ⟨h, rfl⟩ | ⟨h, rfl⟩
    · exact Or.inl ⟨h, by rw [Int.mul_neg, Int.neg_neg, Int.mul_comm]⟩
    · exact Or.inr ⟨h, Int.mul_comm _ _⟩
  rw [k4] at k3
  generalize b * n = w at *
  generalize a * b = u at *
  omega
theorem bl_dv {n m : Int} (hn : 0 < n) (hm : m = Int.tdiv 1000000000000 n) : 0 ≤ m ∧ m ≤ 1000000000000 := by
  rw [hm, Int.tdiv_eq_ediv_of_nonneg (by decide)]
  exact ⟨Int.ediv_nonneg (by decide) (by omega), Int.ediv_le_self _ (by decide)⟩
def lz (lw : Nat) (fa st : Nat → Int) (t : Int) (M : ti_M) : Prop := (∀ j : Nat, j < 6 → (tZ M lw 2 j).toInt = fa j ∧ -1000000000000 ≤ fa j ∧ fa j ≤ 1000000000000) ∧ ∀ j : Nat, (j : Int) < t → (tZ M lw 1 j).toInt = st j ∧ -1000000000000 ≤ st j ∧ st j ≤ 1000000000000
theorem lz_up {lw : Nat} {fa st : Nat → Int} {t t2 z j0 : Int} {y : Int32} {v : Int64} {M N : ti_M} (h : lz lw fa st t M) (e : N = uZ M lw 1 (vp_updL (tZ M lw 1) y.toNatClampNeg v)) (hy : y.toInt = j0) (h0 : 0 ≤ j0) (hv : v.toInt = z) (hz : -1000000000000 ≤ z ∧ z ≤ 1000000000000) (ht : ∀ j : Nat, (j : Int) < t2 → (j : Int) = j0 ∨ (j : Int) < t) : lz lw fa (pp_su st j0.toNat z) t2 N := by
  rw [i_cl (n := j0.toNat) (by omega)] at e
  refine ⟨fun j hj => by rw [tZ_nE e (by omega)]; exact h.1 j hj, fun j hj => ?_⟩
  rw [tZ_uE e]
  unfold vp_updL
  by_cases q : j = j0.toNat
  · subst q
    rw [su_s, if_pos rfl]
    exact ⟨hv, hz⟩
  · rw [su_n q, if_neg q]
    exact h.2 j (by rcases ht j hj with r | r; omega; exact r)
theorem rn_0 {co fa : Nat → Int} {f i t : Nat} {st : Nat → Int} (h : f = 0) : bl_rn co fa f i t st = if t = 1 then st 0 else bl_ER := by subst h; rfl
theorem rn_p {co fa : Nat → Int} {f f' i t : Nat} {st : Nat → Int} (e : f = f' + 1) (h : -21 ≤ co i) : bl_rn co fa f i t st = bl_rn co fa f' (i + 1) (t + 1) (pp_su st t (if 0 ≤ co i then co i else fa (-(co i) - 16).toNat)) := by subst e; rw [bl_rn, if_pos h]
theorem rn_n {co fa : Nat → Int} {f f' i t : Nat} {st : Nat → Int} (e : f = f' + 1) (h : co i = -24 ∧ 0 < t) : bl_rn co fa f i t st = bl_rn co fa f' (i + 1) t (pp_su st (t - 1) (if st (t - 1) = 0 then 1 else 0)) := by subst e; rw [bl_rn, if_neg (by omega), if_pos h]
theorem rn_x {co fa : Nat → Int} {f f' i t : Nat} {st : Nat → Int} (e : f = f' + 1) (h : co i < -21 ∧ ¬ (co i = -24 ∧ 0 < t) ∧ 1 < t) (hx : 1000000000000 < bl_w (-(co i)) (st (t - 2)) (st (t - 1)) ∨ bl_w (-(co i)) (st (t - 2)) (st (t - 1)) < -1000000000000) : bl_rn co fa f i t st = bl_ER := by subst e; rw [bl_rn, if_neg (by omega), if_neg h.2.1, if_pos h.2.2, if_pos hx]
theorem rn_b {co fa : Nat → Int} {f f' i t : Nat} {st : Nat → Int} (e : f = f' + 1) (h : co i < -21 ∧ ¬ (co i = -24 ∧ 0 < t) ∧ 1 < t) (hx : ¬ (1000000000000 < bl_w (-(co i)) (st (t - 2)) (st (t - 1)) ∨ bl_w (-(co i)) (st (t - 2)) (st (t - 1)) < -1000000000000)) : bl_rn co fa f i t st = bl_rn co fa f' (i + 1) (t - 1) (pp_su st (t - 2) (bl_w (-(co i)) (st (t - 2)) (st (t - 1)))) := by subst e; rw [bl_rn, if_neg (by omega), if_neg h.2.1, if_pos h.2.2, if_neg hx]
theorem rn_s {co fa : Nat → Int} {f f' i t : Nat} {st : Nat → Int} (e : f = f' + 1) (h : co i < -21 ∧ ¬ (co i = -24 ∧ 0 < t) ∧ ¬ 1 < t) : bl_rn co fa f i t st = bl_rn co fa f' (i + 1) t st := by subst e; rw [bl_rn, if_neg (by omega), if_neg h.2.1, if_neg h.2.2]
/-- a fact is laid -/
theorem lz_fa {lw n : Nat} {fa : Nat → Int} {y : Int32} {v : Int64} {M N : ti_M} (h : ∀ j : Nat, j < n → (tZ M lw 2 j).toInt = fa j ∧ -1000000000000 ≤ fa j ∧ fa j ≤ 1000000000000) (e : N = uZ M lw 2 (vp_updL (tZ M lw 2) y.toNatClampNeg v)) (hy : y.toInt = (n : Int)) (hv : v.toInt = fa n) (hb : -1000000000000 ≤ v.toInt ∧ v.toInt ≤ 1000000000000) : ∀ j : Nat, j < n + 1 → (tZ N lw 2 j).toInt = fa j ∧ -1000000000000 ≤ fa j ∧ fa j ≤ 1000000000000 := by
  rw [i_cl hy] at e
  intro j hj
  rw [tZ_uE e]
  unfold vp_updL
  by_cases q : j = n
  · subst q; rw [if_pos rfl, ← hv]; exact ⟨rfl, hb⟩
  · rw [if_neg q]; exact h j (by omega)
theorem co_y {co : Nat → Int} {lw : Nat} {M N : ti_M} {x i : Int32} (hco : ∀ n : Nat, n < 64 → co n = (tY M lw 0 n).toInt) (e : N.2.1 = M.2.1) (ex : x = tY N lw 0 i.toNatClampNeg) (h0 : 0 ≤ i.toInt) (h1 : i.toInt < 64) : co i.toInt.toNat = x.toInt := by
  rw [hco _ (by omega), ex, i_cl (n := i.toInt.toNat) (by omega), tY_fr e]
theorem lz_1 {lw : Nat} {fa st : Nat → Int} {t : Int} {M : ti_M} {x : Int64} {i : Int32} (h : lz lw fa st t M) (ex : x = tZ M lw 1 i.toNatClampNeg) (h0 : 0 ≤ i.toInt) (h1 : i.toInt < t) : x.toInt = st i.toInt.toNat ∧ -1000000000000 ≤ x.toInt ∧ x.toInt ≤ 1000000000000 := by
  rw [i_cl (n := i.toInt.toNat) (by omega)] at ex
  have q := h.2 i.toInt.toNat (by omega)
  rw [ex, q.1]; exact ⟨rfl, q.2⟩
theorem lz_2 {lw : Nat} {fa st : Nat → Int} {t : Int} {M : ti_M} {x : Int64} {i : Int32} (h : lz lw fa st t M) (ex : x = tZ M lw 2 i.toNatClampNeg) (h0 : 0 ≤ i.toInt) (h1 : i.toInt < 6) : x.toInt = fa i.toInt.toNat ∧ -1000000000000 ≤ x.toInt ∧ x.toInt ≤ 1000000000000 := by
  rw [i_cl (n := i.toInt.toNat) (by omega)] at ex
  have q := h.1 i.toInt.toNat (by omega)
  rw [ex, q.1]; exact ⟨rfl, q.2⟩
def vq (co : Nat → Int) (len : Int) (tx rg : Nat → Int) (pl ps : Int) : Int := if bq_ma rg pl < 0 ∨ len = 0 then bl_ER else bl_rn co (bq_fa tx rg (bq_ma rg pl) ps) len.toNat 0 0 (fun _ => 0)
section
variable {tx rg : Nat → Int} {k : Nat}
theorem ap_k {m : Int} (h : k < 96 ∧ k ≠ 3) : bq_ap rg m k = rg k := by
  unfold bq_ap
  split
  · rw [su_n (by omega), su_n (by omega), su_n (by omega), su_n (by omega)]
  · rfl
theorem sf_k (h : k < 96) : ∀ (f i : Nat) (s : Nat → Int), bq_sf f i s k = s k := by
  intro f
  induction f with
  | zero => intro i s; rfl
  | succ f ih => intro i s; rw [bq_sf, ih, su_n (by omega)]
theorem rm_k {p ns : Int} (h : k < 96 ∧ k ≠ 3) : bq_rm rg p ns k = rg k := by
  unfold bq_rm bq_r2
  split
  · rfl
  · rw [su_n (by omega), su_n (by omega), su_n (by omega), su_n (by omega), sf_k h.1, su_n h.2]
theorem fc_k (h : k < 96) : bq_fc rg k = rg k := by unfold bq_fc; rw [if_neg (by omega)]
theorem wl_k (h : k < 96 ∧ k ≠ 3) : ∀ (f : Nat) (s : Nat → Int), bq_wl tx f s k = s k := by
  intro f
  induction f with
  | zero => intro s; rfl
  | succ f ih =>
    intro s
    rw [bq_wl]
    split
    · rfl
    · rw [ih, ap_k h]
theorem hc_k (h : k < 96 ∧ k ≠ 3) : bq_hc tx rg k = rg k := by
  unfold bq_hc
  split
  · split
    · rw [fc_k h.1, rm_k h]
    · rw [fc_k h.1]
  · rfl
theorem pr_k (h : k < 96 ∧ k ≠ 4) : bq_pr tx rg k = rg k := by
  unfold bq_pr
  split
  · rfl
  · rw [su_n (by omega), su_n h.2]
theorem l1_k {t : Int} {p : Nat} (h : k < 96) : bq_l1 tx rg t p k = rg k := by
  unfold bq_l1 bq_py
  split
  · rfl
  · rw [su_n (by omega), su_n (by omega)]
theorem lf_k {t : Int} (h : k < 96) : ∀ (f p : Nat) (s : Nat → Int), bq_lf tx t f p s k = s k := by
  intro f
  induction f with
  | zero => intro p s; rfl
  | succ f ih => intro p s; rw [bq_lf, ih, l1_k h]
theorem ly_k (h : k < 96) : bq_ly tx rg k = rg k := by
  unfold bq_ly
  split
  · rfl
  · exact lf_k h _ _ _
theorem w1_k {p : Nat} (h : k < 96) : bq_w1 tx rg p k = rg k := by
  unfold bq_w1
  split
  · rw [su_n (by omega)]
  · split
    · rw [su_n (by omega)]
    · rfl
theorem wf_k (h : k < 96) : ∀ (f p : Nat) (s : Nat → Int), bq_wf tx f p s k = s k := by
  intro f
  induction f with
  | zero => intro p s; rfl
  | succ f ih => intro p s; rw [bq_wf, ih, w1_k h]
theorem wr_k (h : k < 96) : bq_wr tx rg k = rg k := wf_k h _ _ _
theorem of_k (h : k < 96 ∧ k ≠ 3) : ∀ (p : Nat) (s : Nat → Int), bq_of p s k = s k := by
  intro p
  induction p with
  | zero => intro s; rfl
  | succ p ih =>
    intro s
    rw [bq_of, ih]
    unfold bq_o1
    split
    · exact rm_k h
    · rfl
theorem sv_k (h : k < 96 ∧ k ≠ 3) : bq_sv tx rg k = rg k := by
  unfold bq_sv
  split
  · exact rm_k h
  · rfl
theorem rl_k (h : k < 96 ∧ k ≠ 3) : bq_rl tx rg k = rg k := by
  unfold bq_rl
  rw [of_k h, sv_k h]
theorem nf_go {s : Nat → Int} {f f' m : Nat} {b : Int} (e : f = f' + 1) : bq_nf tx s f m b = bq_nf tx s f' (m + 1) (if s (128 + m) = 0 ∧ s (144 + m) = s 2 ∧ (b = -1 ∨ tx (100 + 16 * m + 2) < tx (100 + 16 * b.toNat + 2) ∨ (tx (100 + 16 * m + 2) = tx (100 + 16 * b.toNat + 2) ∧ tx (100 + 16 * b.toNat + 1) < tx (100 + 16 * m + 1))) then (m : Int) else b) := by subst e; rfl
theorem nf_end {s : Nat → Int} {f m : Nat} {b : Int} (e : f = 0) : bq_nf tx s f m b = b := by subst e; rfl
theorem wl_go {s : Nat → Int} {f f' : Nat} (e : f = f' + 1) (h : bq_nx tx s ≠ -1) : bq_wl tx f s = bq_wl tx f' (bq_ap s (bq_nx tx s)) := by subst e; rw [bq_wl, if_neg h]
theorem wl_end {s : Nat → Int} {f : Nat} (h : f = 0 ∨ bq_nx tx s = -1) : bq_wl tx f s = s := by
  cases f with
  | zero => rfl
  | succ f => rw [bq_wl, if_pos (by omega)]
theorem hs_go {s : Nat → Int} {f f' p : Nat} {h : Int} (e : f = f' + 1) : bq_hs s f p h = bq_hs s f' (p + 1) (bw (h + s (256 + (s (96 + p)).toNat))) := by subst e; rfl
theorem hs_end {s : Nat → Int} {f p : Nat} {h : Int} (e : f = 0) : bq_hs s f p h = h := by subst e; rfl
theorem lf_go {t : Int} {f f' p : Nat} {s : Nat → Int} (e : f = f' + 1) : bq_lf tx t f p s = bq_lf tx t f' (p + 1) (bq_l1 tx s t p) := by subst e; rfl
theorem lf_end {t : Int} {f p : Nat} {s : Nat → Int} (e : f = 0) : bq_lf tx t f p s = s := by subst e; rfl
theorem wf_go {f f' p : Nat} {s : Nat → Int} (e : f = f' + 1) : bq_wf tx f p s = bq_wf tx f' (p + 1) (bq_w1 tx s p) := by subst e; rfl
theorem wf_end {f p : Nat} {s : Nat → Int} (e : f = 0) : bq_wf tx f p s = s := by subst e; rfl
end
theorem of_go {p p' : Nat} {s : Nat → Int} (e : p = p' + 1) : bq_of p s = bq_of p' (bq_o1 s p) := by subst e; rfl
theorem is_b {x b z : Int32} (e : z = x &&& b) (hx : x.toInt = 0 ∨ x.toInt = 1 ∨ x.toInt = 3) (hb : b = 1 ∨ b = 2 ∨ b = 4 ∨ b = 8 ∨ b = 16 ∨ b = 32) : (z.toInt ≠ 0 ∧ ((b.toInt = 1 ∧ x.toInt ≠ 0) ∨ (b.toInt = 2 ∧ x.toInt = 3))) ∨ (z.toInt = 0 ∧ ((b.toInt = 1 ∧ x.toInt = 0) ∨ (b.toInt = 2 ∧ x.toInt ≠ 3) ∨ 2 < b.toInt)) := by
  have hx2 : x = 0 ∨ x = 1 ∨ x = 3 := by
    rcases hx with h | h | h
    · exact Or.inl (Int32.toInt_inj.mp (h.trans (by decide)))
    · exact Or.inr (Or.inl (Int32.toInt_inj.mp (h.trans (by decide))))
    · exact Or.inr (Or.inr (Int32.toInt_inj.mp (h.trans (by decide))))
  subst e
  rcases hx2 with rfl | rfl | rfl <;> rcases hb with rfl | rfl | rfl | rfl | rfl | rfl <;> decide
/-- eight are filled -/
theorem qC_fl {q : Nat} {rg : Nat → Int} {M N : ti_M} {g : Nat → Int32} (h : qC q rg M) (e : N = uY M q 16 g) (hg : ∀ j : Nat, j < 8 → g j = 0) : qC q (bq_fc rg) N := by
  refine ⟨fun k h1 h2 => ?_, fun k i h6 h16 hi h7 => ?_⟩
  · rw [fc_k (by omega), tI_uYE e]; exact h.1 k h1 h2
  · unfold bq_fc
    by_cases r : k = 16
    · subst r; rw [if_pos (by omega), tY_uE e, hg i hi]; decide
    · rw [if_neg (by omega), tY_nE e (nk r)]; exact h.2 k i h6 h16 hi h7
theorem l_min {x y z : Int64} (e : z = if y < x then y else x) : (z.toInt = y.toInt ∧ y.toInt < x.toInt) ∨ (z.toInt = x.toInt ∧ x.toInt ≤ y.toInt) := by
  by_cases h : y < x
  · rw [if_pos h] at e; exact Or.inl ⟨by rw [e], Int64.lt_iff_toInt_lt.mp h⟩
  · rw [if_neg h] at e; exact Or.inr ⟨by rw [e], by have : ¬ y.toInt < x.toInt := fun q => h (Int64.lt_iff_toInt_lt.mpr q); omega⟩
theorem l_max {x y z : Int64} (e : z = if y < x then x else y) : (z.toInt = x.toInt ∧ y.toInt < x.toInt) ∨ (z.toInt = y.toInt ∧ x.toInt ≤ y.toInt) := by
  by_cases h : y < x
  · rw [if_pos h] at e; exact Or.inl ⟨by rw [e], Int64.lt_iff_toInt_lt.mp h⟩
  · rw [if_neg h] at e; exact Or.inr ⟨by rw [e], by have : ¬ y.toInt < x.toInt := fun q => h (Int64.lt_iff_toInt_lt.mpr q); omega⟩
theorem l_2i {x : Int64} {z : Int32} (e : z = x.toInt32) (h1 : -2147483648 ≤ x.toInt) (h2 : x.toInt ≤ 2147483647) : z.toInt = x.toInt := by
  rw [e, Int64.toInt_toInt32]; exact Kit.bmod32 (by omega) (by omega)
theorem l_and {x m z : Int64} {a : Int} (e : z = x &&& m) (hm : m = 2147483647) (hx : x.toInt = a) (h0 : 0 ≤ a) : z.toInt = a % 2147483648 := by
  have h1 : x.toBitVec.toNat = a.toNat := by
    have q : x.toInt = x.toBitVec.toInt := rfl
    rw [hx, BitVec.toInt_eq_toNat_cond] at q
    split at q <;> omega
  have h2 : z.toBitVec.toNat = a.toNat % 2147483648 := by
    rw [e, hm, Int64.toBitVec_and, BitVec.toNat_and, h1, show (2147483647 : Int64).toBitVec.toNat = 2 ^ 31 - 1 by decide, Nat.and_two_pow_sub_one_eq_mod]
  have q : z.toInt = z.toBitVec.toInt := rfl
  rw [q, BitVec.toInt_eq_toNat_cond, if_pos (by omega), h2]
  omega
theorem i_divc {x y z : Int32} {a b : Int} (e : z = x / y) (ha : x.toInt = a) (hb : y.toInt = b) (h : 0 ≤ a) (h2 : 0 < b) : z.toInt = a / b := by
  rw [e, lg_idiv_nonneg (by omega) (by omega), ha, hb]
theorem cp_row {q r k i n : Nat} {a b : Int32} {Mj N Mf M : ti_M} (e : N = uY Mj q k (va_cpy (tY Mj r k) (tY Mj q k) a.toNatClampNeg a.toNatClampNeg b.toNatClampNeg)) (ha : a = 0) (hb : b.toInt = (n : Int)) (hf : tY Mf q k = tY N q k) (hr : tY Mj r k = tY M r k) (hi : i < n) : tY Mf q k i = tY M r k i := by
  rw [hf, tY_uE e, i_cl hb, ha, show (0 : Int32).toNatClampNeg = 0 by decide]
  unfold va_cpy
  rw [if_pos (by omega), hr, Nat.sub_zero, Nat.zero_add]
/-- told powers come in -/
def bq_cp (tx s : Nat → Int) : Nat → Int := fun j => if 112 ≤ j ∧ j < 115 then tx (32 + (j - 112)) else s j
theorem qC_cp {q t : Nat} {tx rg : Nat → Int} {a b : Int32} {M N : ti_M} (h : qC q rg M) (ht : tC t tx M) (e : N = uY M q 7 (va_cpy (tY M t 1) (tY M q 7) a.toNatClampNeg a.toNatClampNeg b.toNatClampNeg)) (ha : a = 0) (hb : b = 3) : qC q (bq_cp tx rg) N := by
  rw [ha, hb, show (0 : Int32).toNatClampNeg = 0 by decide, show (3 : Int32).toNatClampNeg = 3 by decide] at e
  refine ⟨fun k h1 h2 => ?_, fun k i h6 h16 hi h7 => ?_⟩
  · unfold bq_cp; rw [if_neg (by omega), tI_uYE e]; exact h.1 k h1 h2
  · unfold bq_cp
    by_cases r : k = 7
    · subst r
      have h3 := h7 rfl
      rw [if_pos (by omega), tY_uE e]
      unfold va_cpy
      rw [if_pos (by omega), show 32 + (16 * 7 + i - 112) = 32 + i by omega, show 0 + (i - 0) = i by omega]
      exact ht.2.1 i h3
    · rw [if_neg (by omega), tY_nE e (nk r)]; exact h.2 k i h6 h16 hi h7
/-- a row of eight is filled -/
def bq_fl (s : Nat → Int) (b : Nat) : Nat → Int := fun j => if b ≤ j ∧ j < b + 8 then 0 else s j
theorem qC_f8 {q k : Nat} {rg : Nat → Int} {M N : ti_M} {g : Nat → Int32} (h : qC q rg M) (e : N = uY M q k g) (hk : 8 ≤ k ∧ k ≤ 16) (hg : ∀ j : Nat, j < 8 → (g j).toInt = 0) : qC q (bq_fl rg (16 * k)) N := by
  refine ⟨fun k2 h1 h2 => ?_, fun k2 i h6 h16 hi h7 => ?_⟩
  · unfold bq_fl; rw [if_neg (by omega), tI_uYE e]; exact h.1 k2 h1 h2
  · unfold bq_fl
    by_cases r : k2 = k
    · subst r; rw [if_pos (by omega), tY_uE e, hg i hi]
    · rw [if_neg (by omega), tY_nE e (nk r)]; exact h.2 k2 i h6 h16 hi h7
/-- as the text tells it, for n men -/
def bq_s1 (tx J : Nat → Int) (n : Nat) : Nat → Int := fun j => if j = 1 ∨ j = 2 ∨ j = 3 then 0 else if j = 4 then tx 6 else if j = 5 then tx 11 else if 112 ≤ j ∧ j < 115 then tx (32 + (j - 112)) else if 144 ≤ j ∧ j < 144 + n then tx (100 + 16 * (j - 144) + 7) else if 160 ≤ j ∧ j < 160 + n then tx (100 + 16 * (j - 160) + 3) else if 192 ≤ j ∧ j < 192 + n then tx (100 + 16 * (j - 192) + 5) else J j
theorem s1_go {tx J : Nat → Int} {n : Nat} (hn : n < 8) : pp_su (pp_su (pp_su (bq_s1 tx J n) (144 + n) (tx (100 + 16 * n + 7))) (160 + n) (tx (100 + 16 * n + 3))) (192 + n) (tx (100 + 16 * n + 5)) = bq_s1 tx J (n + 1) := by
  funext j
  by_cases h1 : j = 144 + n
  · subst h1
    rw [su_n (by omega), su_n (by omega), su_s]
    unfold bq_s1
    rw [if_neg (by omega), if_neg (by omega), if_neg (by omega), if_neg (by omega), if_pos (by omega), show 144 + n - 144 = n by omega]
  · by_cases h2 : j = 160 + n
    · subst h2
      rw [su_n (by omega), su_s]
      unfold bq_s1
      rw [if_neg (by omega), if_neg (by omega), if_neg (by omega), if_neg (by omega), if_neg (by omega), if_pos (by omega), show 160 + n - 160 = n by omega]
    · by_cases h3 : j = 192 + n
      · subst h3
        rw [su_s]
        unfold bq_s1
        rw [if_neg (by omega), if_neg (by omega), if_neg (by omega), if_neg (by omega), if_neg (by omega), if_neg (by omega), if_pos (by omega), show 192 + n - 192 = n by omega]
      · rw [su_n h3, su_n h2, su_n h1]
        unfold bq_s1
        by_cases c1 : j = 1 ∨ j = 2 ∨ j = 3
        · rw [if_pos c1, if_pos c1]
        · rw [if_neg c1, if_neg c1]
          by_cases c4 : j = 4
          · rw [if_pos c4, if_pos c4]
          · rw [if_neg c4, if_neg c4]
            by_cases c5 : j = 5
            · rw [if_pos c5, if_pos c5]
            · rw [if_neg c5, if_neg c5]
              by_cases c6 : 112 ≤ j ∧ j < 115
              · rw [if_pos c6, if_pos c6]
              · rw [if_neg c6, if_neg c6]
                by_cases c7 : 144 ≤ j ∧ j < 144 + n
                · rw [if_pos c7, if_pos (by omega)]
                · rw [if_neg c7, if_neg (show ¬ (144 ≤ j ∧ j < 144 + (n + 1)) by omega)]
                  by_cases c8 : 160 ≤ j ∧ j < 160 + n
                  · rw [if_pos c8, if_pos (by omega)]
                  · rw [if_neg c8, if_neg (show ¬ (160 ≤ j ∧ j < 160 + (n + 1)) by omega)]
                    by_cases c9 : 192 ≤ j ∧ j < 192 + n
                    · rw [if_pos c9, if_pos (by omega)]
                    · rw [if_neg c9, if_neg (show ¬ (192 ≤ j ∧ j < 192 + (n + 1)) by omega)]
theorem s1_0 {tx J : Nat → Int} : bq_cp tx (pp_su (pp_su (pp_su (pp_su (pp_su J 1 0) 2 0) 3 0) 4 (tx 6)) 5 (tx 11)) = bq_s1 tx J 0 := by
  funext j
  unfold bq_cp bq_s1
  by_cases c6 : 112 ≤ j ∧ j < 115
  · rw [if_pos c6, if_neg (by omega), if_neg (by omega), if_neg (by omega), if_pos c6]
  · rw [if_neg c6]
    by_cases c5 : j = 5
    · subst c5; rw [su_s]; rfl
    · rw [su_n c5]
      by_cases c4 : j = 4
      · subst c4; rw [su_s]; rfl
      · rw [su_n c4]
        by_cases c3 : j = 3
        · subst c3; rw [su_s]; rfl
        · rw [su_n c3]
          by_cases c2 : j = 2
          · subst c2; rw [su_s]; rfl
          · rw [su_n c2]
            by_cases c1 : j = 1
            · subst c1; rw [su_s]; rfl
            · rw [su_n c1, if_neg (by omega), if_neg c4, if_neg c5, if_neg c6, if_neg (by omega), if_neg (by omega), if_neg (by omega)]
/-- as the text tells it; J where nothing is told -/
def bq_s0 (tx J : Nat → Int) : Nat → Int := bq_fl (bq_fl (bq_fl (bq_fl (bq_s1 tx J (tx 4).toNat) 128) 176) 240) 256
section
variable {tx rg : Nat → Int} {k : Nat}
theorem mt_k (h : k < 96 ∧ k ≠ 3 ∧ k ≠ 5) : bq_mt tx rg k = rg k := by
  unfold bq_mt
  split
  · rfl
  · split
    · rw [rm_k ⟨h.1, h.2.1⟩, su_n h.2.2]
    · rw [su_n h.2.2]
theorem mt_5 (h : 0 ≤ rg 5) : 0 ≤ bq_mt tx rg 5 := by
  have hd : 0 ≤ bq_dr (rg 5) := by unfold bq_dr; omega
  unfold bq_mt
  split
  · exact h
  · split
    · rw [rm_k (by decide), su_s]; exact hd
    · rw [su_s]; exact hd
theorem ps_1 : bq_ps tx rg 1 = rg 1 := by
  unfold bq_ps bq_m1
  rw [su_n (by decide), mt_k (by decide), rl_k (by decide), wr_k (by decide), ly_k (by decide), pr_k (by decide), hc_k (by decide), wl_k (by decide)]
theorem ps_2 : bq_ps tx rg 2 = bw (rg 2 + 1) := by
  unfold bq_ps bq_m1
  rw [su_s, mt_k (by decide), rl_k (by decide), wr_k (by decide), ly_k (by decide), pr_k (by decide), hc_k (by decide), wl_k (by decide)]
theorem ps_5 (h : 0 ≤ rg 5) : 0 ≤ bq_ps tx rg 5 := by
  unfold bq_ps bq_m1
  rw [su_n (by decide)]
  apply mt_5
  rw [rl_k (by decide), wr_k (by decide), ly_k (by decide), pr_k (by decide), hc_k (by decide), wl_k (by decide)]
  exact h
theorem pl_go {f f' : Nat} {s : Nat → Int} (e : f = f' + 1) : bq_pl tx f s = bq_pl tx f' (bq_ps tx s) := by subst e; rfl
end
theorem bl_wn {x z : Int32} (e : z = -x) (a b : Int) : bl_w z.toInt a b = bl_w (-x.toInt) a b := by
  by_cases h : -2147483647 ≤ x.toInt
  · rw [i_neg e rfl h]
  · have h1 := x.le_toInt
    have hx : x.toInt = -2147483648 := by omega
    have hz : z = -2147483648 := by rw [e, show x = -2147483648 from Int32.toInt_inj.mp (hx.trans (by decide))]; decide
    rw [hx, hz, show (-2147483648 : Int32).toInt = -2147483648 by decide]
    unfold bl_w
    rw [if_neg (by decide), if_neg (by decide), if_neg (by decide), if_neg (by decide), if_neg (by decide), if_neg (by decide), if_neg (by decide), if_neg (by decide), if_neg (by decide), if_neg (by decide), if_neg (by decide), if_neg (by decide), if_neg (by decide), if_neg (by decide), if_neg (by decide), if_neg (by decide), if_neg (by decide), if_neg (by decide), if_neg (by decide), if_neg (by decide), if_neg (by decide), if_neg (by decide), if_neg (by decide), if_neg (by decide)]
end
section
variable {Tc : gC} {Tm : gM}
variable {Tc : gC} {Tm : gM}
def bz1 (s : Nat → Int) (m : Nat) : Int := if s (128 + m) = 0 then 1 else 0
/-- how many of eight are to come -/
def bc0 (s : Nat → Int) : Int := bz1 s 0 + bz1 s 1 + bz1 s 2 + bz1 s 3 + bz1 s 4 + bz1 s 5 + bz1 s 6 + bz1 s 7
/-- bounds of what is told -/
def tW (tx : Nat → Int) : Prop := (0 ≤ tx 4 ∧ tx 4 ≤ 8) ∧ (0 ≤ tx 6 ∧ tx 6 ≤ 999) ∧ 1 ≤ tx 7 ∧ 1 ≤ tx 8 ∧ (1 ≤ tx 9 ∧ tx 9 ≤ 7) ∧ 0 ≤ tx 10 ∧ 0 ≤ tx 11 ∧ (∀ m : Nat, m < 8 → (m : Int) < tx 4 → 1 ≤ tx (100 + 16 * m + 4) ∧ tx (100 + 16 * m + 4) ≤ 30) ∧ (∀ k : Nat, k < 3 → 0 ≤ tx (32 + k) ∧ tx (32 + k) ≤ 7) ∧ ∀ m : Nat, m < 8 → (m : Int) < tx 4 → -1 ≤ tx (100 + 16 * m + 9) ∧ tx (100 + 16 * m + 9) ≤ 7
def wA (tx s : Nat → Int) : Prop := ∀ p : Nat, (p : Int) < s 3 → 0 ≤ s (96 + p) ∧ s (96 + p) < tx 4 ∧ s (128 + (s (96 + p)).toNat) = 1
def wB (s : Nat → Int) : Prop := ∀ p r : Nat, (p : Int) < s 3 → (r : Int) < s 3 → s (96 + p) = s (96 + r) → p = r
def wC (tx s : Nat → Int) : Prop := ∀ m : Nat, (m : Int) < tx 4 → s (128 + m) = 1 → ∃ p : Nat, (p : Int) < s 3 ∧ s (96 + p) = m
def wD (tx s : Nat → Int) : Prop := (∀ m : Nat, m < 8 → (0 ≤ s (128 + m) ∧ s (128 + m) ≤ 3) ∧ 0 ≤ s (240 + m) ∧ 0 ≤ s (256 + m) ∧ s (256 + m) ≤ 1 ∧ (tx 4 ≤ (m : Int) → s (128 + m) = 0)) ∧ (∀ m : Nat, m < 8 → (m : Int) < tx 4 → 0 ≤ s (176 + m) ∧ s (176 + m) ≤ tx (100 + 16 * m + 4)) ∧ ∀ k : Nat, k < 3 → 0 ≤ s (112 + k) ∧ s (112 + k) ≤ 7
def wF (tx s : Nat → Int) : Prop := (0 ≤ s 3 ∧ s 3 + bc0 s ≤ 8) ∧ ((0 ≤ s 4 ∧ s 4 ≤ 999) ∧ 0 ≤ s 5) ∧ wA tx s ∧ wB s ∧ wC tx s ∧ wD tx s
section
variable {tx s g : Nat → Int}
theorem bz1_b (m : Nat) : 0 ≤ bz1 s m ∧ bz1 s m ≤ 1 := by unfold bz1; split <;> omega
theorem bc0_b : 0 ≤ bc0 s := by
  have h := fun m => bz1_b (s := s) m
  have h0 := h 0; have h1 := h 1; have h2 := h 2; have h3 := h 3; have h4 := h 4; have h5 := h 5; have h6 := h 6; have h7 := h 7
  unfold bc0; omega
theorem wF_8 (h : wF tx s) : 0 ≤ s 3 ∧ s 3 ≤ 8 := by have := bc0_b (s := s); have := h.1; omega
theorem bc0_eq (h : ∀ m : Nat, m < 8 → g (128 + m) = s (128 + m)) : bc0 g = bc0 s := by
  unfold bc0 bz1
  rw [h 0 (by omega), h 1 (by omega), h 2 (by omega), h 3 (by omega), h 4 (by omega), h 5 (by omega), h 6 (by omega), h 7 (by omega)]
theorem bc0_go {m : Nat} (hm : m < 8) (h0 : s (128 + m) = 0) (hg : g (128 + m) ≠ 0) (h : ∀ j : Nat, j < 8 → j ≠ m → g (128 + j) = s (128 + j)) : bc0 g + 1 = bc0 s := by
  have e : ∀ j : Nat, j < 8 → j ≠ m → bz1 g j = bz1 s j := fun j h1 h2 => by unfold bz1; rw [h j h1 h2]
  have e1 : bz1 g m = 0 := by unfold bz1; rw [if_neg hg]
  have e2 : bz1 s m = 1 := by unfold bz1; rw [if_pos h0]
  unfold bc0
  rcases (show m = 0 ∨ m = 1 ∨ m = 2 ∨ m = 3 ∨ m = 4 ∨ m = 5 ∨ m = 6 ∨ m = 7 by omega) with rfl | rfl | rfl | rfl | rfl | rfl | rfl | rfl
  · rw [e1, e2, e 1 (by omega) (by omega), e 2 (by omega) (by omega), e 3 (by omega) (by omega), e 4 (by omega) (by omega), e 5 (by omega) (by omega), e 6 (by omega) (by omega), e 7 (by omega) (by omega)]; omega
  · rw [e1, e2, e 0 (by omega) (by omega), e 2 (by omega) (by omega), e 3 (by omega) (by omega), e 4 (by omega) (by omega), e 5 (by omega) (by omega), e 6 (by omega) (by omega), e 7 (by omega) (by omega)]; omega
  · rw [e1, e2, e 0 (by omega) (by omega), e 1 (by omega) (by omega), e 3 (by omega) (by omega), e 4 (by omega) (by omega), e 5 (by omega) (by omega), e 6 (by omega) (by omega), e 7 (by omega) (by omega)]; omega
  · rw [e1, e2, e 0 (by omega) (by omega), e 1 (by omega) (by omega), e 2 (by omega) (by omega), e 4 (by omega) (by omega), e 5 (by omega) (by omega), e 6 (by omega) (by omega), e 7 (by omega) (by omega)]; omega
  · rw [e1, e2, e 0 (by omega) (by omega), e 1 (by omega) (by omega), e 2 (by omega) (by omega), e 3 (by omega) (by omega), e 5 (by omega) (by omega), e 6 (by omega) (by omega), e 7 (by omega) (by omega)]; omega
  · rw [e1, e2, e 0 (by omega) (by omega), e 1 (by omega) (by omega), e 2 (by omega) (by omega), e 3 (by omega) (by omega), e 4 (by omega) (by omega), e 6 (by omega) (by omega), e 7 (by omega) (by omega)]; omega
  · rw [e1, e2, e 0 (by omega) (by omega), e 1 (by omega) (by omega), e 2 (by omega) (by omega), e 3 (by omega) (by omega), e 4 (by omega) (by omega), e 5 (by omega) (by omega), e 7 (by omega) (by omega)]; omega
  · rw [e1, e2, e 0 (by omega) (by omega), e 1 (by omega) (by omega), e 2 (by omega) (by omega), e 3 (by omega) (by omega), e 4 (by omega) (by omega), e 5 (by omega) (by omega), e 6 (by omega) (by omega)]; omega
/-- what doesn't touch who stands where -/
theorem wF_of (ht : tW tx) (h : wF tx s) (h3 : g 3 = s 3) (h4 : 0 ≤ g 4 ∧ g 4 ≤ 999) (h5 : 0 ≤ g 5) (hp : ∀ p : Nat, p < 8 → g (96 + p) = s (96 + p)) (hs : ∀ m : Nat, m < 8 → g (128 + m) = s (128 + m)) (hD : wD tx g) : wF tx g := by
  have h8 := wF_8 h
  obtain ⟨⟨a1, a2⟩, -, A, B, C, -⟩ := h
  refine ⟨⟨by omega, by rw [h3, bc0_eq hs]; exact a2⟩, ⟨h4, h5⟩, fun p q => ?_, fun p r q1 q2 e => ?_, fun m q e => ?_, hD⟩
  · rw [h3] at q
    have x := A p q
    rw [hp p (by omega)]
    refine ⟨x.1, x.2.1, ?_⟩
    have c : (s (96 + p)).toNat < 8 := by have := ht.1; omega
    rw [hs _ c]; exact x.2.2
  · rw [h3] at q1 q2
    rw [hp p (by omega), hp r (by omega)] at e
    exact B p r q1 q2 e
  · by_cases c : m < 8
    · rw [hs m c] at e
      obtain ⟨p, p1, p2⟩ := C m q e
      exact ⟨p, by omega, by rw [hp p (by omega)]; exact p2⟩
    · exfalso; have := ht.1; omega
theorem sf_at : ∀ (f i : Nat) (s : Nat → Int) (j : Nat), bq_sf f i s j = if 96 + i ≤ j ∧ j < 96 + i + f then s (j + 1) else s j := by
  intro f
  induction f with
  | zero => intro i s j; rw [if_neg (by omega)]; rfl
  | succ f ih =>
    intro i s j
    rw [bq_sf, ih]
    by_cases c : 96 + (i + 1) ≤ j ∧ j < 96 + (i + 1) + f
    · rw [if_pos c, if_pos (by omega), su_n (by omega)]
    · rw [if_neg c]
      by_cases d : j = 96 + i
      · subst d; rw [su_s, if_pos (by omega)]
      · rw [su_n d, if_neg (by omega)]
theorem wF_ap (ht : tW tx) (h : wF tx s) {m : Int} (h0 : 0 ≤ m) (h1 : m < tx 4) (hs : s (128 + m.toNat) = 0) : wF tx (bq_ap s m) ∧ bc0 (bq_ap s m) < bc0 s := by
  have h8 := wF_8 h
  have ht4 := ht.1
  obtain ⟨⟨a1, a2⟩, ⟨a4, a5⟩, A, B, C, D⟩ := h
  have hm : m.toNat < 8 := by omega
  have e3 : s 3 < 8 := by
    have k := bc0_go (s := s) (g := pp_su s (128 + m.toNat) 1) hm hs (by rw [su_s]; decide) (fun j _ hj => su_n (by omega))
    have := bc0_b (s := pp_su s (128 + m.toNat) 1)
    omega
  obtain ⟨g, eg⟩ : ∃ g, g = bq_ap s m := ⟨_, rfl⟩
  rw [← eg]
  unfold bq_ap at eg
  rw [if_pos e3] at eg
  have g3 : g 3 = s 3 + 1 := by rw [eg, su_n (by omega), su_n (by omega), su_s]
  have gp : ∀ p : Nat, p < 8 → p ≠ (s 3).toNat → g (96 + p) = s (96 + p) := fun p hp hq => by rw [eg, su_n (by omega), su_n (by omega), su_n (by omega), su_n (by omega)]
  have gq : g (96 + (s 3).toNat) = m := by rw [eg, su_n (by omega), su_n (by omega), su_n (by omega), su_s]
  have gm : g (128 + m.toNat) = 1 := by rw [eg, su_n (by omega), su_s]
  have gs : ∀ j : Nat, j < 8 → j ≠ m.toNat → g (128 + j) = s (128 + j) := fun j hj hq => by rw [eg, su_n (by omega), su_n (by omega), su_n (by omega), su_n (by omega)]
  have gk : ∀ k : Nat, k ≠ 3 → k < 96 ∨ (104 ≤ k ∧ k < 128) ∨ (136 ≤ k ∧ k < 208) ∨ 216 ≤ k → g k = s k := fun k hk hq => by rw [eg, su_n (by omega), su_n (by omega), su_n (by omega), su_n (by omega)]
  have gc : bc0 g + 1 = bc0 s := bc0_go hm hs (by rw [gm]; decide) gs
  refine ⟨⟨⟨by omega, by omega⟩, ⟨by rw [gk 4 (by decide) (by decide)]; exact a4, by rw [gk 5 (by decide) (by decide)]; exact a5⟩, fun p q => ?_, fun p r q1 q2 e => ?_, fun j q e => ?_, ⟨fun j hj => ?_, fun j hj hl => ?_, fun k hk => ?_⟩⟩, by omega⟩
  · by_cases c : p = (s 3).toNat
    · subst c; rw [gq]; exact ⟨h0, h1, gm⟩
    · have x := A p (by omega)
      rw [gp p (by omega) c]
      refine ⟨x.1, x.2.1, ?_⟩
      rw [gs _ (by omega) (fun e => by have := x.2.2; rw [e, hs] at this; omega)]
      exact x.2.2
  · have f : ∀ p : Nat, (p : Int) < s 3 → s (96 + p) ≠ m := fun p hp e => by have := (A p hp).2.2; rw [e, hs] at this; omega
    by_cases c : p = (s 3).toNat
    · by_cases d : r = (s 3).toNat
      · omega
      · exfalso; subst c; rw [gq, gp r (by omega) d] at e; exact f r (by omega) e.symm
    · by_cases d : r = (s 3).toNat
      · exfalso; subst d; rw [gq, gp p (by omega) c] at e; exact f p (by omega) e
      · rw [gp p (by omega) c, gp r (by omega) d] at e; exact B p r (by omega) (by omega) e
  · by_cases c : j = m.toNat
    · exact ⟨(s 3).toNat, by omega, by rw [gq]; omega⟩
    · rw [gs j (by omega) c] at e
      obtain ⟨p, p1, p2⟩ := C j q e
      exact ⟨p, by omega, by rw [gp p (by omega) (by omega)]; exact p2⟩
  · have d := D.1 j hj
    rw [gk _ (by omega) (by omega : 240 + j < 96 ∨ _), gk (256 + j) (by omega) (by omega)]
    by_cases c : j = m.toNat
    · subst c; rw [gm]; exact ⟨by decide, d.2.1, d.2.2.1, d.2.2.2.1, fun q => by omega⟩
    · rw [gs j hj c]; exact d
  · rw [gk _ (by omega) (by omega)]; exact D.2.1 j hj hl
  · rw [gk _ (by omega) (by omega)]; exact D.2.2 k hk
theorem ma_at {p : Nat} (h : (p : Int) < s 3) : bq_ma s p = s (96 + p) := by
  unfold bq_ma
  rw [if_pos (by omega), show ((p : Int)).toNat = p by omega]
theorem wF_rm (ht : tW tx) (h : wF tx s) {p : Nat} (hp : (p : Int) < s 3) {ns : Int} (hn : 2 ≤ ns ∧ ns ≤ 3) : wF tx (bq_rm s p ns) ∧ bq_rm s p ns 3 = s 3 - 1 ∧ bc0 (bq_rm s p ns) = bc0 s := by
  have h8 := wF_8 h
  have ht4 := ht.1
  obtain ⟨⟨a1, a2⟩, ⟨a4, a5⟩, A, B, C, D⟩ := h
  have x := A p hp
  obtain ⟨g, eg⟩ : ∃ g, g = bq_rm s p ns := ⟨_, rfl⟩
  rw [← eg]
  unfold bq_rm bq_r2 at eg
  rw [ma_at hp, if_neg (by omega)] at eg
  obtain ⟨m, em⟩ : ∃ m : Nat, m = (s (96 + p)).toNat := ⟨_, rfl⟩
  rw [← em] at eg
  have xm : s (128 + m) = 1 := by rw [em]; exact x.2.2
  have hm : m < 8 := by omega
  have g3 : g 3 = s 3 - 1 := by rw [eg, su_n (by omega), su_n (by omega), su_n (by omega), su_n (by omega), sf_k (by decide), su_s]
  have gp : ∀ r : Nat, r < 8 → g (96 + r) = if p ≤ r ∧ (r : Int) < s 3 - 1 then s (96 + r + 1) else s (96 + r) := fun r hr => by
    rw [eg, su_n (by omega), su_n (by omega), su_n (by omega), su_n (by omega), sf_at]
    by_cases c : p ≤ r ∧ (r : Int) < s 3 - 1
    · rw [if_pos (by omega), if_pos c, su_n (by omega)]
    · rw [if_neg (by omega), if_neg c, su_n (by omega)]
  have gm : g (128 + m) = ns := by rw [eg, su_n (by omega), su_n (by omega), su_n (by omega), su_s]
  have gk : ∀ k : Nat, k ≠ 3 → k < 96 ∨ 104 ≤ k → k ≠ 128 + m → k ≠ 224 + m → k ≠ 240 + m → k ≠ 256 + m → g k = s k := fun k hk hq k1 k2 k3 k4 => by
    rw [eg, su_n k4, su_n k3, su_n k2, su_n k1, sf_at, if_neg (by omega), su_n hk]
  have gs : ∀ j : Nat, j < 8 → j ≠ m → g (128 + j) = s (128 + j) := fun j hj hq => gk _ (by omega) (by omega) (by omega) (by omega) (by omega) (by omega)
  have gc : bc0 g = bc0 s := by
    have e : ∀ j : Nat, j < 8 → bz1 g j = bz1 s j := fun j hj => by
      by_cases c : j = m
      · subst c; unfold bz1; rw [gm, xm, if_neg (by omega), if_neg (by omega)]
      · unfold bz1; rw [gs j hj c]
    unfold bc0
    rw [e 0 (by omega), e 1 (by omega), e 2 (by omega), e 3 (by omega), e 4 (by omega), e 5 (by omega), e 6 (by omega), e 7 (by omega)]
  -- who stands at r now stood at r or behind it
  have w : ∀ r : Nat, (r : Int) < s 3 - 1 → ∃ u : Nat, (u : Int) < s 3 ∧ u ≠ p ∧ g (96 + r) = s (96 + u) ∧ (u = r ∨ u = r + 1) ∧ (u = r ↔ r < p) := fun r hr => by
    rw [gp r (by omega)]
    by_cases c : p ≤ r
    · rw [if_pos ⟨c, hr⟩]; exact ⟨r + 1, by omega, by omega, rfl, by omega, by omega⟩
    · rw [if_neg (by omega)]; exact ⟨r, by omega, by omega, rfl, by omega, by omega⟩
  have ne : ∀ u : Nat, (u : Int) < s 3 → u ≠ p → (s (96 + u)).toNat ≠ m := fun u h1 h2 e => h2 (B u p h1 hp (by have := A u h1; omega))
  refine ⟨⟨⟨by omega, by omega⟩, ⟨by rw [gk 4 (by decide) (by decide) (by omega) (by omega) (by omega) (by omega)]; exact a4, by rw [gk 5 (by decide) (by decide) (by omega) (by omega) (by omega) (by omega)]; exact a5⟩, fun r q => ?_, fun r r2 q1 q2 e => ?_, fun j q e => ?_, ⟨fun j hj => ?_, fun j hj hl => ?_, fun k hk => ?_⟩⟩, g3, gc⟩
  · obtain ⟨u, u1, u2, u3, -, -⟩ := w r (by omega)
    have y := A u u1
    rw [u3]
    exact ⟨y.1, y.2.1, by rw [gs _ (by omega) (ne u u1 u2)]; exact y.2.2⟩
  · obtain ⟨u, u1, u2, u3, u4, u5⟩ := w r (by omega)
    obtain ⟨v, v1, v2, v3, v4, v5⟩ := w r2 (by omega)
    rw [u3, v3] at e
    have := B u v u1 v1 e
    omega
  · by_cases c : j = m
    · subst c; rw [gm] at e; omega
    · rw [gs j (by omega) c] at e
      obtain ⟨u, u1, u2⟩ := C j q e
      have hu : u ≠ p := fun e2 => by subst e2; omega
      by_cases d : u < p
      · exact ⟨u, by omega, by rw [gp u (by omega), if_neg (by omega)]; exact u2⟩
      · exact ⟨u - 1, by omega, by rw [gp (u - 1) (by omega), if_pos (by omega), show 96 + (u - 1) + 1 = 96 + u by omega]; exact u2⟩
  · have d := D.1 j hj
    by_cases c : j = m
    · subst c
      rw [gm, show g (240 + j) = 0 by rw [eg, su_n (by omega), su_s], show g (256 + j) = 0 by rw [eg, su_s]]
      omega
    · rw [gs j hj c, gk (240 + j) (by omega) (by omega) (by omega) (by omega) (by omega) (by omega), gk (256 + j) (by omega) (by omega) (by omega) (by omega) (by omega) (by omega)]
      exact d
  · rw [gk (176 + j) (by omega) (by omega) (by omega) (by omega) (by omega) (by omega)]; exact D.2.1 j hj hl
  · rw [gk (112 + k) (by omega) (by omega) (by omega) (by omega) (by omega) (by omega)]; exact D.2.2 k hk
theorem nf_at : ∀ (f m : Nat) (b : Int), (m + f : Int) ≤ tx 4 → (b = -1 ∨ (0 ≤ b ∧ b < tx 4 ∧ s (128 + b.toNat) = 0)) → (bq_nf tx s f m b = -1 ∨ (0 ≤ bq_nf tx s f m b ∧ bq_nf tx s f m b < tx 4 ∧ s (128 + (bq_nf tx s f m b).toNat) = 0)) := by
  intro f
  induction f with
  | zero => intro m b _ h; exact h
  | succ f ih =>
    intro m b hm h
    rw [bq_nf]
    refine ih (m + 1) _ (by omega) ?_
    split
    · rename_i c
      exact Or.inr ⟨by omega, by omega, c.1⟩
    · exact h
theorem nx_at (ht : tW tx) : bq_nx tx s = -1 ∨ (0 ≤ bq_nx tx s ∧ bq_nx tx s < tx 4 ∧ s (128 + (bq_nx tx s).toNat) = 0) := nf_at _ _ _ (by have := ht.1; omega) (Or.inl rfl)
theorem wF_wl (ht : tW tx) : ∀ (f : Nat) (s : Nat → Int), wF tx s → wF tx (bq_wl tx f s) := by
  intro f
  induction f with
  | zero => intro s h; exact h
  | succ f ih =>
    intro s h
    rw [bq_wl]
    split
    · exact h
    · rename_i c
      rcases nx_at (s := s) ht with q | q
      · exact absurd q c
      · exact ih _ (wF_ap ht h q.1 q.2.1 q.2.2).1
theorem wF_fc (ht : tW tx) (h : wF tx s) : wF tx (bq_fc s) := by
  have e : ∀ j : Nat, j < 256 → bq_fc s j = s j := fun j hj => by unfold bq_fc; rw [if_neg (by omega)]
  have D := h.2.2.2.2.2
  refine wF_of ht h (e 3 (by decide)) (by rw [e 4 (by decide)]; exact h.2.1.1) (by rw [e 5 (by decide)]; exact h.2.1.2) (fun p hp => e _ (by omega)) (fun m hm => e _ (by omega)) ⟨fun m hm => ?_, fun m hm hl => ?_, fun k hk => ?_⟩
  · rw [e _ (by omega), e (240 + m) (by omega), show bq_fc s (256 + m) = 0 by unfold bq_fc; rw [if_pos (by omega)]]
    have := D.1 m hm; omega
  · rw [e _ (by omega)]; exact D.2.1 m hm hl
  · rw [e _ (by omega)]; exact D.2.2 k hk
theorem wF_hc (ht : tW tx) (h : wF tx s) : wF tx (bq_hc tx s) := by
  unfold bq_hc
  split
  · split
    · refine wF_fc ht ?_
      by_cases c : 0 < s 3
      · exact (wF_rm ht h (p := 0) (by omega) (ns := 3) (by decide)).1
      · have e : bq_ma s 0 = -2 := by unfold bq_ma; rw [if_neg (by omega)]
        unfold bq_rm
        rw [e, if_pos (by decide)]; exact h
    · exact wF_fc ht h
  · exact h
theorem pn_b (ht : tW tx) (h : wF tx s) (h3 : 0 < s 3) : 0 ≤ bq_pn tx s ∧ bq_pn tx s ≤ s 4 ∧ bq_pn tx s ≤ tx (100 + 16 * (s 96).toNat + 4) - s (176 + (s 96).toNat) := by
  have x := h.2.2.1 0 (by omega)
  have ht4 := ht.1
  have d := h.2.2.2.2.2.2.1 (s 96).toNat (by have := x.1; have := x.2.1; simp only [Nat.add_zero] at *; omega) (by have := x.1; have := x.2.1; simp only [Nat.add_zero] at *; omega)
  have b := ht.2.2.2.2.2.2.2.1 (s 96).toNat (by have := x.1; have := x.2.1; simp only [Nat.add_zero] at *; omega) (by have := x.1; have := x.2.1; simp only [Nat.add_zero] at *; omega)
  have w := h.2.1.1
  have r := ht.2.2.1
  unfold bq_pn
  rw [bw_id (x := tx (100 + 16 * (s 96).toNat + 4) - s (176 + (s 96).toNat)) (by omega) (by omega)]
  unfold bq_mn
  split <;> split <;> omega
theorem wF_pr (ht : tW tx) (h : wF tx s) : wF tx (bq_pr tx s) := by
  unfold bq_pr
  split
  · exact h
  · rename_i c
    have h3 : 0 < s 3 := by have := h.1; omega
    have n := pn_b ht h h3
    have x := h.2.2.1 0 (by omega)
    simp only [Nat.add_zero] at x
    have ht4 := ht.1
    have hf : (s 96).toNat < 8 := by omega
    have D := h.2.2.2.2.2
    have d := D.2.1 (s 96).toNat hf (by omega)
    have b := ht.2.2.2.2.2.2.2.1 (s 96).toNat hf (by omega)
    have w := h.2.1.1
    rw [bw_id (x := s 4 - bq_pn tx s) (by omega) (by omega), bw_id (x := s (176 + (s 96).toNat) + bq_pn tx s) (by omega) (by omega)]
    obtain ⟨f, ef⟩ : ∃ f, f = (s 96).toNat := ⟨_, rfl⟩
    rw [← ef] at hf d b n ⊢
    have e : ∀ j : Nat, j ≠ 4 → j ≠ 176 + f → pp_su (pp_su s 4 (s 4 - bq_pn tx s)) (176 + f) (s (176 + f) + bq_pn tx s) j = s j := fun j h1 h2 => by rw [su_n h2, su_n h1]
    refine wF_of ht h (e 3 (by decide) (by omega)) (by rw [su_n (by omega), su_s]; omega) (by rw [e 5 (by decide) (by omega)]; exact h.2.1.2) (fun p hp => e _ (by omega) (by omega)) (fun m hm => e _ (by omega) (by omega)) ⟨fun m hm => ?_, fun m hm hl => ?_, fun k hk => ?_⟩
    · rw [e _ (by omega) (by omega), e (240 + m) (by omega) (by omega), e (256 + m) (by omega) (by omega)]; exact D.1 m hm
    · by_cases q : m = f
      · subst q; rw [su_s]; omega
      · rw [e _ (by omega) (by omega)]; exact D.2.1 m hm hl
    · rw [e _ (by omega) (by omega)]; exact D.2.2 k hk
/-- coins and patience don't matter -/
theorem wF_su (ht : tW tx) (h : wF tx s) {k : Nat} {v : Int} (hk : (144 ≤ k ∧ k < 176) ∨ (192 ≤ k ∧ k < 240) ∨ k = 1 ∨ k = 2) : wF tx (pp_su s k v) := by
  have D := h.2.2.2.2.2
  refine wF_of ht h (su_n (by omega)) (by rw [su_n (by omega)]; exact h.2.1.1) (by rw [su_n (by omega)]; exact h.2.1.2) (fun p hp => su_n (by omega)) (fun m hm => su_n (by omega)) ⟨fun m hm => ?_, fun m hm hl => ?_, fun j hj => ?_⟩
  · rw [su_n (by omega), su_n (by omega), su_n (by omega)]; exact D.1 m hm
  · rw [su_n (by omega)]; exact D.2.1 m hm hl
  · rw [su_n (by omega)]; exact D.2.2 j hj
theorem wF_l1 (ht : tW tx) (h : wF tx s) {t : Int} {p : Nat} (h0 : 0 ≤ t) (h1 : t < tx 4) (hp : (p : Int) < s 3) : wF tx (bq_l1 tx s t p) := by
  have ht4 := ht.1
  have x := h.2.2.1 p hp
  unfold bq_l1 bq_py
  split
  · exact h
  · exact wF_su ht (wF_su ht h (by omega)) (by omega)
theorem wF_lf (ht : tW tx) {t : Int} (h0 : 0 ≤ t) (h1 : t < tx 4) : ∀ (f p : Nat) (s : Nat → Int), (p + f : Int) ≤ s 3 → wF tx s → wF tx (bq_lf tx t f p s) := by
  intro f
  induction f with
  | zero => intro p s _ h; exact h
  | succ f ih =>
    intro p s hp h
    rw [bq_lf]
    exact ih (p + 1) _ (by rw [l1_k (by decide)]; omega) (wF_l1 ht h h0 h1 (by omega))
theorem wF_ly (ht : tW tx) (h : wF tx s) : wF tx (bq_ly tx s) := by
  unfold bq_ly
  split
  · exact h
  · rename_i c
    have h8 := wF_8 h
    have k : 0 ≤ s 114 ∧ s 114 < s 3 := by
      by_cases q : 0 ≤ s 114 ∧ s 114 < s 3
      · exact q
      · exact absurd (Or.inl (by unfold bq_ma; rw [if_neg q]; decide)) c
    have x := h.2.2.1 (s 114).toNat (by omega)
    have e : bq_ma s (s 114) = s (96 + (s 114).toNat) := by unfold bq_ma; rw [if_pos k]
    rw [e]
    exact wF_lf ht x.1 x.2.1 _ _ _ (by omega) h
theorem wF_w1 (ht : tW tx) (h : wF tx s) {p : Nat} (hp : (p : Int) < s 3) : wF tx (bq_w1 tx s p) := by
  have ht4 := ht.1
  have x := h.2.2.1 p hp
  unfold bq_w1
  split
  · rename_i c
    obtain ⟨m, em⟩ : ∃ m, m = (s (96 + p)).toNat := ⟨_, rfl⟩
    have hm : m < 8 := by omega
    rw [← em] at c ⊢
    have D := h.2.2.2.2.2
    refine wF_of ht h (su_n (by omega)) (by rw [su_n (by omega)]; exact h.2.1.1) (by rw [su_n (by omega)]; exact h.2.1.2) (fun p hp => su_n (by omega)) (fun j hj => su_n (by omega)) ⟨fun j hj => ?_, fun j hj hl => ?_, fun k hk => ?_⟩
    · rw [su_n (by omega), su_n (j := 256 + j) (by omega)]
      have d := D.1 j hj
      by_cases q : j = m
      · subst q; rw [su_s]; omega
      · rw [su_n (by omega)]; exact d
    · rw [su_n (by omega)]; exact D.2.1 j hj hl
    · rw [su_n (by omega)]; exact D.2.2 k hk
  · split
    · exact wF_su ht h (by omega)
    · exact h
theorem wF_wf (ht : tW tx) : ∀ (f p : Nat) (s : Nat → Int), (p + f : Int) ≤ s 3 → wF tx s → wF tx (bq_wf tx f p s) := by
  intro f
  induction f with
  | zero => intro p s _ h; exact h
  | succ f ih =>
    intro p s hp h
    rw [bq_wf]
    exact ih (p + 1) _ (by rw [w1_k (by decide)]; omega) (wF_w1 ht h (by omega))
theorem wF_wr (ht : tW tx) (h : wF tx s) : wF tx (bq_wr tx s) := wF_wf ht _ _ _ (by have := wF_8 h; omega) h
theorem wF_sv (ht : tW tx) (h : wF tx s) : wF tx (bq_sv tx s) := by
  unfold bq_sv
  split
  · rename_i c; exact (wF_rm ht h (p := 0) (by omega) (by decide)).1
  · exact h
theorem wF_off (ht : tW tx) : ∀ (p : Nat) (s : Nat → Int), ((p : Int) < s 3 ∨ p = 0) → wF tx s → wF tx (bq_of p s) := by
  intro p
  induction p with
  | zero => intro s _ h; exact h
  | succ p ih =>
    intro s hp h
    rw [bq_of]
    unfold bq_o1
    split
    · have r := wF_rm ht h (p := p + 1) (by omega) (ns := 3) (by decide)
      exact ih _ (Or.inl (by rw [r.2.1]; omega)) r.1
    · exact ih _ (Or.inl (by omega)) h
theorem wF_rl (ht : tW tx) (h : wF tx s) : wF tx (bq_rl tx s) := by
  have k := wF_sv ht h
  have k8 := wF_8 k
  unfold bq_rl
  exact wF_off ht _ _ (by omega) k
theorem wF_mt (ht : tW tx) (h : wF tx s) : wF tx (bq_mt tx s) := by
  have hd : 0 ≤ bq_dr (s 5) := by unfold bq_dr; omega
  have k : wF tx (pp_su s 5 (bq_dr (s 5))) := by
    have D := h.2.2.2.2.2
    refine wF_of ht h (su_n (by omega)) (by rw [su_n (by omega)]; exact h.2.1.1) (by rw [su_s]; exact hd) (fun p hp => su_n (by omega)) (fun m hm => su_n (by omega)) ⟨fun m hm => ?_, fun m hm hl => ?_, fun j hj => ?_⟩
    · rw [su_n (by omega), su_n (by omega), su_n (by omega)]; exact D.1 m hm
    · rw [su_n (by omega)]; exact D.2.1 m hm hl
    · rw [su_n (by omega)]; exact D.2.2 j hj
  unfold bq_mt
  split
  · exact h
  · split
    · rename_i c
      have e : s 3 - 1 = (((s 3 - 1).toNat : Nat) : Int) := by omega
      rw [e]
      exact (wF_rm ht k (p := (s 3 - 1).toNat) (by rw [su_n (by decide)]; omega) (by decide)).1
    · exact k
theorem wF_ps (ht : tW tx) (h : wF tx s) : wF tx (bq_ps tx s) := by
  unfold bq_ps bq_m1
  exact wF_su ht (wF_mt ht (wF_rl ht (wF_wr ht (wF_ly ht (wF_pr ht (wF_hc ht (wF_wl ht _ _ h))))))) (by omega)
theorem fl_n {b j : Nat} (h : j < b ∨ b + 8 ≤ j) : bq_fl s b j = s j := by unfold bq_fl; rw [if_neg (by omega)]
theorem fl_s {b j : Nat} (h : b ≤ j ∧ j < b + 8) : bq_fl s b j = 0 := by unfold bq_fl; rw [if_pos h]
theorem wF_s0 (ht : tW tx) : wF tx (bq_s0 tx s) := by
  have e : ∀ j : Nat, j < 128 → bq_s0 tx s j = bq_s1 tx s (tx 4).toNat j := fun j hj => by unfold bq_s0; rw [fl_n (by omega), fl_n (by omega), fl_n (by omega), fl_n (by omega)]
  have e3 : bq_s0 tx s 3 = 0 := by rw [e 3 (by decide)]; rfl
  have e4 : bq_s0 tx s 4 = tx 6 := by rw [e 4 (by decide)]; rfl
  have e5 : bq_s0 tx s 5 = tx 11 := by rw [e 5 (by decide)]; rfl
  have eS : ∀ m : Nat, m < 8 → bq_s0 tx s (128 + m) = 0 := fun m hm => by unfold bq_s0; rw [fl_n (by omega), fl_n (by omega), fl_n (by omega), fl_s (by omega)]
  have b8 : bc0 (bq_s0 tx s) ≤ 8 := by
    have h := fun m => bz1_b (s := bq_s0 tx s) m
    have h0 := h 0; have h1 := h 1; have h2 := h 2; have h3 := h 3; have h4 := h 4; have h5 := h 5; have h6 := h 6; have h7 := h 7
    unfold bc0; omega
  refine ⟨⟨by omega, by omega⟩, ⟨by rw [e4]; exact ht.2.1, by rw [e5]; exact ht.2.2.2.2.2.2.1⟩, fun p q => by omega, fun p r q _ _ => by omega, fun m q h => ?_, ⟨fun m hm => ?_, fun m hm hl => ?_, fun k hk => ?_⟩⟩
  · rw [eS m (by have := ht.1; omega)] at h; omega
  · rw [eS m hm, show bq_s0 tx s (240 + m) = 0 by unfold bq_s0; rw [fl_n (by omega), fl_s (by omega)], show bq_s0 tx s (256 + m) = 0 by unfold bq_s0; rw [fl_s (by omega)]]; omega
  · rw [show bq_s0 tx s (176 + m) = 0 by unfold bq_s0; rw [fl_n (by omega), fl_n (by omega), fl_s (by omega)]]
    have := ht.2.2.2.2.2.2.2.1 m hm hl; omega
  · rw [e _ (by omega), show bq_s1 tx s (tx 4).toNat (112 + k) = tx (32 + k) by unfold bq_s1; rw [if_neg (by omega), if_neg (by omega), if_neg (by omega), if_pos (by omega), show 32 + (112 + k - 112) = 32 + k by omega]]
    exact ht.2.2.2.2.2.2.2.2.1 k hk
/-- so many are to come at least -/
theorem bc0_ge (ht : tW tx) (h : wF tx s) {m : Nat} (h1 : (m : Int) < tx 4) (hs : s (128 + m) = 0) : 8 - tx 4 + 1 ≤ bc0 s := by
  have D := h.2.2.2.2.2.1
  have ht4 := ht.1
  have e : ∀ j : Nat, j < 8 → 0 ≤ bz1 s j ∧ (tx 4 ≤ (j : Int) → bz1 s j = 1) := fun j hj => ⟨(bz1_b j).1, fun q => by unfold bz1; rw [if_pos ((D j hj).2.2.2.2 q)]⟩
  have em : bz1 s m = 1 := by unfold bz1; rw [if_pos hs]
  have e0 := e 0 (by omega); have e1 := e 1 (by omega); have e2 := e 2 (by omega); have e3 := e 3 (by omega)
  have e4 := e 4 (by omega); have e5 := e 5 (by omega); have e6 := e 6 (by omega); have e7 := e 7 (by omega)
  unfold bc0
  generalize tx 4 = n at *
  have hn : n = 0 ∨ n = 1 ∨ n = 2 ∨ n = 3 ∨ n = 4 ∨ n = 5 ∨ n = 6 ∨ n = 7 ∨ n = 8 := by omega
  rcases (show m = 0 ∨ m = 1 ∨ m = 2 ∨ m = 3 ∨ m = 4 ∨ m = 5 ∨ m = 6 ∨ m = 7 by omega) with rfl | rfl | rfl | rfl | rfl | rfl | rfl | rfl <;> rcases hn with rfl | rfl | rfl | rfl | rfl | rfl | rfl | rfl | rfl <;> omega
theorem wF_s3 (ht : tW tx) (h : wF tx s) {m : Nat} (h1 : (m : Int) < tx 4) (hs : s (128 + m) = 0) : s 3 < 8 := by
  have := bc0_ge ht h h1 hs
  have := h.1
  have := ht.1
  omega
theorem bc0_8 : bc0 s ≤ 8 := by
  have h := fun m => bz1_b (s := s) m
  have h0 := h 0; have h1 := h 1; have h2 := h 2; have h3 := h 3; have h4 := h 4; have h5 := h 5; have h6 := h 6; have h7 := h 7
  unfold bc0; omega
end
end
section
variable {Tc : gC} {Tm : gM}
set_option maxHeartbeats 4000000 in
set_option maxRecDepth 100000 in
theorem z_X3_manAt (l : Launch) (D : va_G) (A : Nat → Nat → Nat) (cy : Nat → ClassId) (hJ : ti_inj ti_LT A) (M : ti_M) (hI : cI Tc M) (q : Nat) (hq : ti_ob ti_LT q 3) (pl : Int32) (rg : Nat → Int) (hs : qC q rg M) : ti_Ki l yX3_manAt cX3_manAt 2 (some .int) 0 ti_LT D A cy M [.ref (A q 0), .int pl] (fun r M2 => M2 = M ∧ (-2) ≤ r.toInt ∧ r.toInt ≤ 7 ∧ r.toInt = bq_ma rg pl.toInt ∧ (r.toInt < 0 ∨ (0 ≤ pl.toInt ∧ pl.toInt < rg 3))) := by
  refine ti_eI yp_X3_manAt hJ ti_LT_nd (Nat.le_of_ble_eq_true rfl) ?_
  intro p e s m args below meth c Q H0 C hQ hw ls hl
  have hx := C.1
  have hb := C.2.1
  have hl : lv_has ls 2 [(0, .ref (A q 0)), (1, .int pl)] := hl
  refine lv_iload_n hx hb dX3_manAt_0 rfl (lv_at hl 1 rfl) ?_
  refine sb_if_lt (tgt := 21) hx hb rfl dX3_manAt_1 (by decide) (fun c_1_0 => ?_) (fun c_1_0 => ?_)
  · refine lv_bipush (v := (-2)) hx hb dX3_manAt_21 (by decide) ?_
    exact hQ _ _ _ _ _ _ hw rfl (⟨rfl, by first | omega | decide, by first | omega | decide, (by have lv : ((-2) : Int32).toInt = (-2) := (by decide); unfold bq_ma; (repeat (first | rw [if_pos (by omega)] | rw [if_neg (by omega)])); first | omega), by first | omega | exact Or.inl (by decide)⟩) dX3_manAt_23
  · refine lv_iload_n hx hb dX3_manAt_4 rfl (lv_at hl 1 rfl) ?_
    refine lv_aload_n hx hb dX3_manAt_5 rfl (lv_at hl 0 rfl) ?_
    refine ti_get (ci := 3) (k := 3) (N := 17) (T := TX3) C hw iw_3 rfl hq (by decide) (by decide) fl_X3_56 rfl rfl dX3_manAt_6 ?_
    refine lv_topi (fun x_2 ex_2 => ?_)
    have bx_2 : 0 ≤ x_2.toInt ∧ x_2.toInt ≤ 8 := cI_rd hI hq.1 ex_2
    have ux_2 : (tI M q 3).toInt = x_2.toInt := by rw [ex_2]
    have L_3 : rg 3 = x_2.toInt := ((hs.1 3 (by decide) (by decide)).trans (congrArg Int32.toInt (ex_2.symm))).trans rfl
    refine sb_icmp_ge (tgt := 21) hx hb rfl rfl dX3_manAt_9 (by decide) (fun c_9_3 => ?_) (fun c_9_3 => ?_)
    · refine lv_bipush (v := (-2)) hx hb dX3_manAt_21 (by decide) ?_
      exact hQ _ _ _ _ _ _ hw rfl (⟨rfl, by first | omega | decide, by first | omega | decide, (by have lv : ((-2) : Int32).toInt = (-2) := (by decide); unfold bq_ma; (repeat (first | rw [if_pos (by omega)] | rw [if_neg (by omega)])); first | omega), by first | omega | exact Or.inl (by decide)⟩) dX3_manAt_23
    · refine lv_aload_n hx hb dX3_manAt_12 rfl (lv_at hl 0 rfl) ?_
      refine ti_get (ci := 3) (k := 6) (N := 17) (T := TX3) (v := .ref (A q 7)) C hw iw_3 rfl hq (by decide) (by decide) fl_X3_9 rfl rfl dX3_manAt_13 ?_
      refine lv_iload_n hx hb dX3_manAt_16 rfl (lv_at hl 1 rfl) ?_
      refine ti_iald (ci := 3) (k := 6) (n := 8) C hw hq (by decide) (fun _ _ => rfl) (vp_in_iff.mpr (by omega)) dX3_manAt_17 ?_
      refine lv_topi (fun x_5 ex_5 => ?_)
      have bx_5 : 0 ≤ x_5.toInt ∧ x_5.toInt ≤ 7 := cI_ry hI hq.1 ex_5
      have L_6 : rg (96 + pl.toInt.toNat) = x_5.toInt := qC_y (k := 6) hs rfl (by omega) (by omega) (by decide) (by decide) ex_5
      refine lv_goto (tgt := 23) hx hb dX3_manAt_18 (by decide) ?_
      exact hQ _ _ _ _ _ _ hw rfl (⟨rfl, by first | omega | decide, by first | omega | decide, (by unfold bq_ma; (repeat (first | rw [if_pos (by omega)] | rw [if_neg (by omega)])); first | omega), by first | omega | exact Or.inl (by decide)⟩) dX3_manAt_23
set_option maxHeartbeats 4000000 in
set_option maxRecDepth 100000 in
theorem z_X3_placeOf (l : Launch) (D : va_G) (A : Nat → Nat → Nat) (cy : Nat → ClassId) (hJ : ti_inj ti_LT A) (M : ti_M) (hI : cI Tc M) (q : Nat) (hq : ti_ob ti_LT q 3) (mn : Int32) (rg : Nat → Int) (hs : qC q rg M) : ti_Ki l yX3_placeOf cX3_placeOf 3 (some .int) 0 ti_LT D A cy M [.ref (A q 0), .int mn] (fun r M2 => M2 = M ∧ (-1) ≤ r.toInt ∧ r.toInt ≤ 7 ∧ r.toInt = bq_po rg mn.toInt 0) := by
  refine ti_eI yp_X3_placeOf hJ ti_LT_nd (Nat.le_of_ble_eq_true rfl) ?_
  intro p e s m args below meth c Q H0 C hQ hw ls hl
  have hx := C.1
  have hb := C.2.1
  have hl : lv_has ls 3 [(0, .ref (A q 0)), (1, .int mn)] := hl
  refine lv_iconst (v := 0) hx hb dX3_placeOf_0 (by decide) ?_
  refine lv_istore_n (lv' := [(2, .int 0), (0, .ref (A q 0)), (1, .int mn)]) hx hb dX3_placeOf_1 rfl hl (by decide) rfl (fun ls hl => ?_)
  have hl_2_4 : ∀ (n_5 : Nat) (x_1 : Int32) (H : Heap) (locs : List Loc) (ls : Array Slot), (8 - x_1.toInt : Int).toNat < n_5 → (0 ≤ x_1.toInt) → (x_1.toInt ≤ 8) → (bq_po rg mn.toInt 0 = bq_po rg mn.toInt (x_1.toInt).toNat) → ti_H ti_LT D A cy H0 M H locs → lv_has ls 3 [(2, .int x_1), (0, .ref (A q 0)), (1, .int mn)] → W p l e (ti_rm 0) s m args below meth c H locs 0 0 Q (F0 m 2 ls []) := by
    intro n_5
    induction n_5 with
    | zero => intro x_1 H locs ls hf_5; exact absurd hf_5 (Nat.not_lt_zero _)
    | succ n_5 ih_5 =>
      intro x_1 H locs ls hf_5 b_2 b_3 j_4 hw hl
      refine lv_iload_n hx hb dX3_placeOf_2 rfl (lv_at hl 0 rfl) ?_
      refine lv_aload_n hx hb dX3_placeOf_3 rfl (lv_at hl 1 rfl) ?_
      refine ti_get (ci := 3) (k := 3) (N := 17) (T := TX3) C hw iw_3 rfl hq (by decide) (by decide) fl_X3_56 rfl rfl dX3_placeOf_4 ?_
      refine lv_topi (fun x_6 ex_6 => ?_)
      have bx_6 : 0 ≤ x_6.toInt ∧ x_6.toInt ≤ 8 := cI_rd hI hq.1 ex_6
      have ux_6 : (tI M q 3).toInt = x_6.toInt := by rw [ex_6]
      have L_7 : rg 3 = x_6.toInt := ((hs.1 3 (by decide) (by decide)).trans (congrArg Int32.toInt (ex_6.symm))).trans rfl
      refine sb_icmp_ge (tgt := 28) hx hb rfl rfl dX3_placeOf_7 (by decide) (fun c_7_7 => ?_) (fun c_7_7 => ?_)
      · refine lv_iconst (v := (-1)) hx hb dX3_placeOf_28 (by decide) ?_
        exact hQ _ _ _ _ _ _ hw rfl (⟨rfl, by first | omega | decide, by first | omega | decide, (by rw [j_4, po_end (s := rg) (m := mn.toInt) (p := x_1.toInt.toNat) (by omega)]; decide)⟩) dX3_placeOf_29
      · refine lv_aload_n hx hb dX3_placeOf_10 rfl (lv_at hl 1 rfl) ?_
        refine ti_get (ci := 3) (k := 6) (N := 17) (T := TX3) (v := .ref (A q 7)) C hw iw_3 rfl hq (by decide) (by decide) fl_X3_9 rfl rfl dX3_placeOf_11 ?_
        refine lv_iload_n hx hb dX3_placeOf_14 rfl (lv_at hl 0 rfl) ?_
        refine ti_iald (ci := 3) (k := 6) (n := 8) C hw hq (by decide) (fun _ _ => rfl) (vp_in_iff.mpr (by omega)) dX3_placeOf_15 ?_
        refine lv_topi (fun x_9 ex_9 => ?_)
        have bx_9 : 0 ≤ x_9.toInt ∧ x_9.toInt ≤ 7 := cI_ry hI hq.1 ex_9
        have L_10 : rg (96 + x_1.toInt.toNat) = x_9.toInt := qC_y (k := 6) hs rfl (by omega) (by omega) (by decide) (by decide) ex_9
        refine lv_iload_n hx hb dX3_placeOf_16 rfl (lv_at hl 2 rfl) ?_
        refine sb_icmp_ne (tgt := 22) hx hb rfl rfl dX3_placeOf_17 (by decide) (fun c_17_10 => ?_) (fun c_17_10 => ?_)
        · obtain ⟨x_12, ex_12⟩ : ∃ z : Int32, z = x_1 + 1 := ⟨_, rfl⟩
          have tx_12 : x_12.toInt = x_1.toInt + 1 := i_add ex_12 rfl (by decide) (by omega) (by omega)
          refine lv_iinc (v := x_12) (lv' := [(2, .int x_12), (0, .ref (A q 0)), (1, .int mn)]) hx hb dX3_placeOf_22 hl (k := 0) rfl (by rw [ex_12]; rfl) (by decide) rfl (fun ls hl => ?_)
          refine lv_goto (tgt := 2) hx hb dX3_placeOf_25 (by decide) ?_
          exact ih_5 x_12 _ _ _ (by omega) (by first | omega | decide) (by first | omega | decide) (by rw [show x_12.toInt.toNat = x_1.toInt.toNat + 1 by omega, ← po_go (s := rg) (m := mn.toInt) (p := x_1.toInt.toNat) (by omega) (by omega)]; exact j_4) hw (lv_sub hl [0, 1, 2] rfl)
        · refine lv_iload_n hx hb dX3_placeOf_20 rfl (lv_at hl 0 rfl) ?_
          exact hQ _ _ _ _ _ _ hw rfl (⟨rfl, by first | omega | decide, by first | omega | decide, (by rw [j_4, po_at (s := rg) (m := mn.toInt) (p := x_1.toInt.toNat) (by omega) (by omega)]; omega)⟩) dX3_placeOf_21
  exact hl_2_4 ((8 - 0 : Int).toNat + 1) 0 _ _ _ (Nat.lt_succ_self _) (by have lt0 : (0 : Int32).toInt = 0 := (by decide); first | omega | decide) (by have lt0 : (0 : Int32).toInt = 0 := (by decide); first | omega | decide) rfl hw (lv_sub hl [0, 1, 2] rfl)
set_option maxHeartbeats 4000000 in
set_option maxRecDepth 100000 in
theorem z_X3_waited (l : Launch) (D : va_G) (A : Nat → Nat → Nat) (cy : Nat → ClassId) (hJ : ti_inj ti_LT A) (M : ti_M) (hI : cI Tc M) (q : Nat) (hq : ti_ob ti_LT q 3) (mn : Int32) (h1 : 0 ≤ mn.toInt) (h2 : mn.toInt ≤ 7) (rg : Nat → Int) (hs : qC q rg M) : ti_Ki l yX3_waited cX3_waited 2 (some .int) 0 ti_LT D A cy M [.ref (A q 0), .int mn] (fun r M2 => M2 = M ∧ r.toInt = bq_wt rg mn.toInt) := by
  refine ti_eI yp_X3_waited hJ ti_LT_nd (Nat.le_of_ble_eq_true rfl) ?_
  intro p e s m args below meth c Q H0 C hQ hw ls hl
  have hx := C.1
  have hb := C.2.1
  have hl : lv_has ls 2 [(0, .ref (A q 0)), (1, .int mn)] := hl
  refine lv_aload_n hx hb dX3_waited_0 rfl (lv_at hl 0 rfl) ?_
  refine ti_get (ci := 3) (k := 8) (N := 17) (T := TX3) (v := .ref (A q 9)) C hw iw_3 rfl hq (by decide) (by decide) fl_X3_18 rfl rfl dX3_waited_1 ?_
  refine lv_iload_n hx hb dX3_waited_4 rfl (lv_at hl 1 rfl) ?_
  refine ti_iald (ci := 3) (k := 8) (n := 8) C hw hq (by decide) (fun _ _ => rfl) (vp_in_iff.mpr (by omega)) dX3_waited_5 ?_
  refine lv_topi (fun x_1 ex_1 => ?_)
  have L_2 : rg (128 + mn.toInt.toNat) = x_1.toInt := qC_y (k := 8) hs rfl (by omega) (by omega) (by decide) (by decide) ex_1
  by_cases s_3_0 : x_1 = 0
  · have qs_3_0 : x_1.toInt = 0 := by rw [s_3_0]; decide
    refine lv_lookup (tgt := 32) hx hb dX3_waited_6 (by decide) (off := 26) (by rw [s_3_0]; decide) (by decide) ?_
    refine lv_iconst (v := 0) hx hb dX3_waited_32 (by decide) ?_
    exact hQ _ _ _ _ _ _ hw rfl (⟨rfl, (by have lv : (0 : Int32).toInt = 0 := (by decide); unfold bq_wt; (repeat (first | rw [if_pos (by omega)] | rw [if_neg (by omega)])); first | omega)⟩) dX3_waited_33
  · have qs_3_0 : x_1.toInt ≠ 0 := pt_ne s_3_0 (by decide)
    by_cases s_3_1 : x_1 = 1
    · have qs_3_1 : x_1.toInt = 1 := by rw [s_3_1]; decide
      refine lv_lookup (tgt := 34) hx hb dX3_waited_6 (by decide) (off := 28) (by rw [s_3_1]; decide) (by decide) ?_
      refine lv_aload_n hx hb dX3_waited_34 rfl (lv_at hl 0 rfl) ?_
      refine ti_get (ci := 3) (k := 2) (N := 17) (T := TX3) C hw iw_3 rfl hq (by decide) (by decide) fl_X3_53 rfl rfl dX3_waited_35 ?_
      refine lv_topi (fun x_4 ex_4 => ?_)
      have L_5 : rg 2 = x_4.toInt := ((hs.1 2 (by decide) (by decide)).trans (congrArg Int32.toInt (ex_4.symm))).trans rfl
      refine lv_aload_n hx hb dX3_waited_38 rfl (lv_at hl 0 rfl) ?_
      refine ti_get (ci := 3) (k := 13) (N := 17) (T := TX3) (v := .ref (A q 14)) C hw iw_3 rfl hq (by decide) (by decide) fl_X3_33 rfl rfl dX3_waited_39 ?_
      refine lv_iload_n hx hb dX3_waited_42 rfl (lv_at hl 1 rfl) ?_
      refine ti_iald (ci := 3) (k := 13) (n := 8) C hw hq (by decide) (fun _ _ => rfl) (vp_in_iff.mpr (by omega)) dX3_waited_43 ?_
      refine lv_topi (fun x_6 ex_6 => ?_)
      have L_7 : rg (208 + mn.toInt.toNat) = x_6.toInt := qC_y (k := 13) hs rfl (by omega) (by omega) (by decide) (by decide) ex_6
      refine lv_isub hx hb dX3_waited_44 ?_
      refine lv_topi (fun x_8 ex_8 => ?_)
      have tx_8 : x_8.toInt = bw (x_4.toInt - x_6.toInt) := bw_sub ex_8 rfl rfl
      exact hQ _ _ _ _ _ _ hw rfl (⟨rfl, (by unfold bq_wt; (repeat (first | rw [if_pos (by omega)] | rw [if_neg (by omega)])); first | omega | (rw [tx_8]; exact congrArg bw (by omega)))⟩) dX3_waited_45
    · have qs_3_1 : x_1.toInt ≠ 1 := pt_ne s_3_1 (by decide)
      refine lv_lookup (tgt := 46) hx hb dX3_waited_6 (by decide) (off := 40) (ti_lk _ x_1.toInt _ (by intro q hq; simp only [List.mem_cons, List.not_mem_nil, or_false] at hq; rcases hq with rfl | rfl <;> first | exact ti_nev 0 s_3_0 (by decide) | exact ti_nev 1 s_3_1 (by decide))) (by decide) ?_
      refine lv_aload_n hx hb dX3_waited_46 rfl (lv_at hl 0 rfl) ?_
      refine ti_get (ci := 3) (k := 14) (N := 17) (T := TX3) (v := .ref (A q 15)) C hw iw_3 rfl hq (by decide) (by decide) fl_X3_36 rfl rfl dX3_waited_47 ?_
      refine lv_iload_n hx hb dX3_waited_50 rfl (lv_at hl 1 rfl) ?_
      refine ti_iald (ci := 3) (k := 14) (n := 8) C hw hq (by decide) (fun _ _ => rfl) (vp_in_iff.mpr (by omega)) dX3_waited_51 ?_
      refine lv_topi (fun x_9 ex_9 => ?_)
      have L_10 : rg (224 + mn.toInt.toNat) = x_9.toInt := qC_y (k := 14) hs rfl (by omega) (by omega) (by decide) (by decide) ex_9
      refine lv_aload_n hx hb dX3_waited_52 rfl (lv_at hl 0 rfl) ?_
      refine ti_get (ci := 3) (k := 13) (N := 17) (T := TX3) (v := .ref (A q 14)) C hw iw_3 rfl hq (by decide) (by decide) fl_X3_33 rfl rfl dX3_waited_53 ?_
      refine lv_iload_n hx hb dX3_waited_56 rfl (lv_at hl 1 rfl) ?_
      refine ti_iald (ci := 3) (k := 13) (n := 8) C hw hq (by decide) (fun _ _ => rfl) (vp_in_iff.mpr (by omega)) dX3_waited_57 ?_
      refine lv_topi (fun x_11 ex_11 => ?_)
      have L_12 : rg (208 + mn.toInt.toNat) = x_11.toInt := qC_y (k := 13) hs rfl (by omega) (by omega) (by decide) (by decide) ex_11
      refine lv_isub hx hb dX3_waited_58 ?_
      refine lv_topi (fun x_13 ex_13 => ?_)
      have tx_13 : x_13.toInt = bw (x_9.toInt - x_11.toInt) := bw_sub ex_13 rfl rfl
      exact hQ _ _ _ _ _ _ hw rfl (⟨rfl, (by unfold bq_wt; (repeat (first | rw [if_pos (by omega)] | rw [if_neg (by omega)])); first | omega | (rw [tx_13]; exact congrArg bw (by omega)))⟩) dX3_waited_59
set_option maxHeartbeats 4000000 in
set_option maxRecDepth 100000 in
theorem z_X3_append (l : Launch) (D : va_G) (A : Nat → Nat → Nat) (cy : Nat → ClassId) (hJ : ti_inj ti_LT A) (M : ti_M) (hI : cI Tc M) (q : Nat) (hq : ti_ob ti_LT q 3) (mn : Int32) (h1 : 0 ≤ mn.toInt) (h2 : mn.toInt ≤ 7) (rg : Nat → Int) (hs : qC q rg M) : ti_Kv l yX3_append cX3_append 2 0 ti_LT D A cy M [.ref (A q 0), .int mn] (fun M2 => cI Tc M2 ∧ M2.2.2.2 = M.2.2.2 ∧ eo q M2 M ∧ qC q (bq_ap rg mn.toInt) M2) := by
  refine ti_eV yp_X3_append hJ ti_LT_nd (Nat.le_of_ble_eq_true rfl) ?_
  intro p e s m args below meth c Q H0 C hQ hw ls hl
  have hx := C.1
  have hb := C.2.1
  have hl : lv_has ls 2 [(0, .ref (A q 0)), (1, .int mn)] := hl
  refine lv_aload_n hx hb dX3_append_0 rfl (lv_at hl 0 rfl) ?_
  refine ti_get (ci := 3) (k := 3) (N := 17) (T := TX3) C hw iw_3 rfl hq (by decide) (by decide) fl_X3_56 rfl rfl dX3_append_1 ?_
  refine lv_topi (fun x_1 ex_1 => ?_)
  have bx_1 : 0 ≤ x_1.toInt ∧ x_1.toInt ≤ 8 := cI_rd hI hq.1 ex_1
  have ux_1 : (tI M q 3).toInt = x_1.toInt := by rw [ex_1]
  have L_2 : rg 3 = x_1.toInt := ((hs.1 3 (by decide) (by decide)).trans (congrArg Int32.toInt (ex_1.symm))).trans rfl
  refine lv_bipush (v := 8) hx hb dX3_append_4 (by decide) ?_
  refine sb_icmp_ge (tgt := 46) hx hb rfl (by decide : (8 : Int32).toInt = 8) dX3_append_6 (by decide) (fun c_6_2 => ?_) (fun c_6_2 => ?_)
  · have E_27 : bq_ap rg mn.toInt = rg := by
      unfold bq_ap
      (repeat (first | rw [if_pos (by omega)] | rw [if_neg (by omega)]))
      all_goals ((repeat' (first | rfl | assumption | refine su_cg ?_ ?_ ?_)) <;> first | omega | (exact congrArg bw (by omega)))
    exact hQ _ _ _ _ _ hw (⟨hI, rfl, eo.refl, (by rw [E_27]; exact hs)⟩) dX3_append_46
  · refine lv_aload_n hx hb dX3_append_9 rfl (lv_at hl 0 rfl) ?_
    refine ti_get (ci := 3) (k := 6) (N := 17) (T := TX3) (v := .ref (A q 7)) C hw iw_3 rfl hq (by decide) (by decide) fl_X3_9 rfl rfl dX3_append_10 ?_
    refine lv_aload_n hx hb dX3_append_13 rfl (lv_at hl 0 rfl) ?_
    refine ti_get (ci := 3) (k := 3) (N := 17) (T := TX3) C hw iw_3 rfl hq (by decide) (by decide) fl_X3_56 rfl rfl dX3_append_14 ?_
    refine ti_top (y := x_1) (ex_1.symm) ?_
    have u_4 : (tI M q 3).toInt = (x_1 : Int32).toInt := by rw [(ex_1.symm)]
    have L_5 : rg 3 = x_1.toInt := ((hs.1 3 (by decide) (by decide)).trans (congrArg Int32.toInt (ex_1.symm))).trans rfl
    refine lv_iload_n hx hb dX3_append_17 rfl (lv_at hl 1 rfl) ?_
    refine ti_iast (ci := 3) (k := 6) (n := 8) C hw hq (by decide) (fun _ _ => rfl) (vp_in_iff.mpr (by omega)) dX3_append_18 (fun H locs hw => ?_)
    obtain ⟨M_6, hM_6⟩ : ∃ z : ti_M, z = uY M q 6 (upd (tY M q 6) (x_1 : Int32).toNatClampNeg mn) := ⟨_, rfl⟩
    have hw := hw.to hM_6.symm
    have iM_6 : cI Tc M_6 := cI_up hI hM_6 hq.1 (ib_mk (lo := 0) (hi := 7) (by omega) (by omega))
    have hs_7 : qC q (pp_su rg (96 + x_1.toInt.toNat) mn.toInt) M_6 := qC_Y (k := 6) (j := x_1.toInt.toNat) (i := x_1) hs (by omega) rfl hM_6 (by decide) (by omega)
    obtain ⟨g_8, eg_8⟩ : ∃ z : Nat → Int, z = pp_su rg (96 + x_1.toInt.toNat) mn.toInt := ⟨_, rfl⟩
    rw [← eg_8] at hs_7
    refine lv_aload_n hx hb dX3_append_19 rfl (lv_at hl 0 rfl) ?_
    refine lv_dup hx hb dX3_append_20 rfl ?_
    refine ti_get (ci := 3) (k := 3) (N := 17) (T := TX3) C hw iw_3 rfl hq (by decide) (by decide) fl_X3_56 rfl rfl dX3_append_21 ?_
    refine ti_top (y := x_1) ((tI_uYE hM_6).trans ex_1.symm) ?_
    have u_9 : (tI M_6 q 3).toInt = (x_1 : Int32).toInt := by rw [((tI_uYE hM_6).trans ex_1.symm)]
    have L_10 : g_8 3 = x_1.toInt := ((hs_7.1 3 (by decide) (by decide)).trans (congrArg Int32.toInt ((tI_uYE hM_6).trans ex_1.symm))).trans rfl
    have L_11 : rg 3 = x_1.toInt := (show g_8 3 = rg 3 by rw [eg_8, su_n (by omega)]).symm.trans L_10
    refine lv_iconst (v := 1) hx hb dX3_append_24 (by decide) ?_
    refine lv_iadd hx hb dX3_append_25 ?_
    refine lv_topi (fun x_12 ex_12 => ?_)
    have tx_12 : x_12.toInt = x_1.toInt + 1 := i_add ex_12 rfl (by decide : (1 : Int32).toInt = 1) (by omega) (by omega)
    refine ti_putI (ci := 3) (k := 3) (N := 17) (T := TX3) C hw iw_3 tyX3 tyX3_ok nmX3 rfl hq (by decide) (by decide) fl_X3_56 rfl rfl rfl rfl (fn_3 A _) fs_3_3 dX3_append_26 (fun H locs hw => ?_)
    obtain ⟨M_13, hM_13⟩ : ∃ z : ti_M, z = uI M_6 q 3 x_12 := ⟨_, rfl⟩
    have hw := hw.to hM_13.symm
    have iM_13 : cI Tc M_13 := cI_uI iM_6 hM_13 hq.1 (ib_mk (lo := 0) (hi := 8) (by omega) (by omega))
    have vM_13 : (tI M_13 q 3).toInt = (x_12 : Int32).toInt := by rw [tI_uE hM_13]
    have hs_14 : qC q (pp_su g_8 3 x_12.toInt) M_13 := qC_I hs_7 rfl hM_13 (by decide)
    obtain ⟨g_15, eg_15⟩ : ∃ z : Nat → Int, z = pp_su g_8 3 x_12.toInt := ⟨_, rfl⟩
    rw [← eg_15] at hs_14
    have sg_15 : g_15 3 = x_12.toInt := by rw [eg_15, su_s]
    refine lv_aload_n hx hb dX3_append_29 rfl (lv_at hl 0 rfl) ?_
    refine ti_get (ci := 3) (k := 8) (N := 17) (T := TX3) (v := .ref (A q 9)) C hw iw_3 rfl hq (by decide) (by decide) fl_X3_18 rfl rfl dX3_append_30 ?_
    refine lv_iload_n hx hb dX3_append_33 rfl (lv_at hl 1 rfl) ?_
    refine lv_iconst (v := 1) hx hb dX3_append_34 (by decide) ?_
    refine ti_iast (ci := 3) (k := 8) (n := 8) C hw hq (by decide) (fun _ _ => rfl) (vp_in_iff.mpr (by omega)) dX3_append_35 (fun H locs hw => ?_)
    obtain ⟨M_16, hM_16⟩ : ∃ z : ti_M, z = uY M_13 q 8 (upd (tY M_13 q 8) (mn : Int32).toNatClampNeg 1) := ⟨_, rfl⟩
    have hw := hw.to hM_16.symm
    have iM_16 : cI Tc M_16 := cI_up iM_13 hM_16 hq.1 trivial
    have hs_17 : qC q (pp_su g_15 (128 + mn.toInt.toNat) 1) M_16 := qC_Y (k := 8) (j := mn.toInt.toNat) (i := mn) hs_14 (by omega) (by decide : (1 : Int32).toInt = 1) hM_16 (by decide) (by omega)
    obtain ⟨g_18, eg_18⟩ : ∃ z : Nat → Int, z = pp_su g_15 (128 + mn.toInt.toNat) 1 := ⟨_, rfl⟩
    rw [← eg_18] at hs_17
    refine lv_aload_n hx hb dX3_append_36 rfl (lv_at hl 0 rfl) ?_
    refine ti_get (ci := 3) (k := 13) (N := 17) (T := TX3) (v := .ref (A q 14)) C hw iw_3 rfl hq (by decide) (by decide) fl_X3_33 rfl rfl dX3_append_37 ?_
    refine lv_iload_n hx hb dX3_append_40 rfl (lv_at hl 1 rfl) ?_
    refine lv_aload_n hx hb dX3_append_41 rfl (lv_at hl 0 rfl) ?_
    refine ti_get (ci := 3) (k := 2) (N := 17) (T := TX3) C hw iw_3 rfl hq (by decide) (by decide) fl_X3_53 rfl rfl dX3_append_42 ?_
    refine lv_topi (fun x_19 ex_19 => ?_)
    have L_20 : g_18 2 = x_19.toInt := ((hs_17.1 2 (by decide) (by decide)).trans (congrArg Int32.toInt (ex_19.symm))).trans rfl
    have L_21 : g_15 2 = x_19.toInt := (show g_18 2 = g_15 2 by rw [eg_18, su_n (by omega)]).symm.trans L_20
    have L_22 : g_8 2 = x_19.toInt := (show g_15 2 = g_8 2 by rw [eg_15, su_n (by omega)]).symm.trans L_21
    have L_23 : rg 2 = x_19.toInt := (show g_8 2 = rg 2 by rw [eg_8, su_n (by omega)]).symm.trans L_22
    refine ti_iast (ci := 3) (k := 13) (n := 8) C hw hq (by decide) (fun _ _ => rfl) (vp_in_iff.mpr (by omega)) dX3_append_45 (fun H locs hw => ?_)
    obtain ⟨M_24, hM_24⟩ : ∃ z : ti_M, z = uY M_16 q 13 (upd (tY M_16 q 13) (mn : Int32).toNatClampNeg x_19) := ⟨_, rfl⟩
    have hw := hw.to hM_24.symm
    have iM_24 : cI Tc M_24 := cI_up iM_16 hM_24 hq.1 trivial
    have hs_25 : qC q (pp_su g_18 (208 + mn.toInt.toNat) x_19.toInt) M_24 := qC_Y (k := 13) (j := mn.toInt.toNat) (i := mn) hs_17 (by omega) rfl hM_24 (by decide) (by omega)
    obtain ⟨g_26, eg_26⟩ : ∃ z : Nat → Int, z = pp_su g_18 (208 + mn.toInt.toNat) x_19.toInt := ⟨_, rfl⟩
    rw [← eg_26] at hs_25
    have E_28 : bq_ap rg mn.toInt = g_26 := by
      unfold bq_ap
      (repeat (first | rw [if_pos (by omega)] | rw [if_neg (by omega)]))
      all_goals subst eg_26 eg_18 eg_15 eg_8
      all_goals ((repeat' (first | rfl | assumption | refine su_cg ?_ ?_ ?_)) <;> first | omega | (exact congrArg bw (by omega)))
    exact hQ _ _ _ _ _ hw (⟨iM_24, ((rf_Y hM_24).trans ((rf_Y hM_16).trans ((rf_I hM_13).trans (rf_Y hM_6)))), (eo.trans (eo_Y hM_24) (eo.trans (eo_Y hM_16) (eo.trans (eo_I hM_13) (eo_Y hM_6)))), (by rw [E_28]; exact hs_25)⟩) dX3_append_46
set_option maxHeartbeats 4000000 in
set_option maxRecDepth 100000 in
theorem z_X3_remove (l : Launch) (D : va_G) (A : Nat → Nat → Nat) (cy : Nat → ClassId) (hJ : ti_inj ti_LT A) (M : ti_M) (hI : cI Tc M) (q : Nat) (hq : ti_ob ti_LT q 3) (pl ns : Int32) (rg : Nat → Int) (hs : qC q rg M) : ti_Kv l yX3_remove cX3_remove 5 1 ti_LT D A cy M [.ref (A q 0), .int pl, .int ns] (fun M2 => cI Tc M2 ∧ M2.2.2.2 = M.2.2.2 ∧ eo q M2 M ∧ qC q (bq_rm rg pl.toInt ns.toInt) M2) := by
  refine ti_eV yp_X3_remove hJ ti_LT_nd (Nat.le_of_ble_eq_true rfl) ?_
  intro p e s m args below meth c Q H0 C hQ hw ls hl
  have hx := C.1
  have hb := C.2.1
  have hl : lv_has ls 5 [(0, .ref (A q 0)), (1, .int pl), (2, .int ns)] := hl
  refine lv_aload_n hx hb dX3_remove_0 rfl (lv_at hl 0 rfl) ?_
  refine lv_iload_n hx hb dX3_remove_1 rfl (lv_at hl 1 rfl) ?_
  refine ti_callVi (ci := 3) (av := [.int pl]) C hw (z_X3_manAt l D A cy hJ M hI q hq pl rg hs) ⟨ml_X3_99, ym_X3_manAt, yv_X3_manAt, yi_X3_manAt, yc_X3_manAt⟩ yd_X3_manAt hq (by decide) rfl rfl hl.1 (Nat.le_of_ble_eq_true rfl) ⟨by decide, by decide⟩ ⟨Nat.zero_le _, Nat.zero_le _⟩ dX3_remove_2 (fun r_1 M_2 H locs hp_2 hw => ?_)
  obtain ⟨hm, b0r_1, b1r_1, pr_1, p0r_1⟩ := hp_2
  have hw := hw.to hm
  refine lv_istore_n (lv' := [(3, .int r_1), (0, .ref (A q 0)), (1, .int pl), (2, .int ns)]) hx hb dX3_remove_5 rfl hl (by decide) rfl (fun ls hl => ?_)
  refine lv_iload_n hx hb dX3_remove_6 rfl (lv_at hl 0 rfl) ?_
  refine sb_if_ge (tgt := 11) hx hb rfl dX3_remove_7 (by decide) (fun c_7_2 => ?_) (fun c_7_2 => ?_)
  · refine lv_aload_n hx hb dX3_remove_11 rfl (lv_at hl 1 rfl) ?_
    refine lv_dup hx hb dX3_remove_12 rfl ?_
    refine ti_get (ci := 3) (k := 3) (N := 17) (T := TX3) C hw iw_3 rfl hq (by decide) (by decide) fl_X3_56 rfl rfl dX3_remove_13 ?_
    refine lv_topi (fun x_4 ex_4 => ?_)
    have bx_4 : 0 ≤ x_4.toInt ∧ x_4.toInt ≤ 8 := cI_rd hI hq.1 ex_4
    have ux_4 : (tI M q 3).toInt = x_4.toInt := by rw [ex_4]
    have L_5 : rg 3 = x_4.toInt := ((hs.1 3 (by decide) (by decide)).trans (congrArg Int32.toInt (ex_4.symm))).trans rfl
    refine lv_iconst (v := 1) hx hb dX3_remove_16 (by decide) ?_
    refine lv_isub hx hb dX3_remove_17 ?_
    refine lv_topi (fun x_6 ex_6 => ?_)
    have tx_6 : x_6.toInt = x_4.toInt - 1 := i_sub ex_6 rfl (by decide : (1 : Int32).toInt = 1) (by omega) (by omega)
    refine ti_putI (ci := 3) (k := 3) (N := 17) (T := TX3) C hw iw_3 tyX3 tyX3_ok nmX3 rfl hq (by decide) (by decide) fl_X3_56 rfl rfl rfl rfl (fn_3 A _) fs_3_3 dX3_remove_18 (fun H locs hw => ?_)
    obtain ⟨M_7, hM_7⟩ : ∃ z : ti_M, z = uI M q 3 x_6 := ⟨_, rfl⟩
    have hw := hw.to hM_7.symm
    have iM_7 : cI Tc M_7 := cI_uI hI hM_7 hq.1 (ib_mk (lo := 0) (hi := 8) (by omega) (by omega))
    have vM_7 : (tI M_7 q 3).toInt = (x_6 : Int32).toInt := by rw [tI_uE hM_7]
    have hs_8 : qC q (pp_su rg 3 x_6.toInt) M_7 := qC_I hs rfl hM_7 (by decide)
    obtain ⟨g_9, eg_9⟩ : ∃ z : Nat → Int, z = pp_su rg 3 x_6.toInt := ⟨_, rfl⟩
    rw [← eg_9] at hs_8
    have sg_9 : g_9 3 = x_6.toInt := by rw [eg_9, su_s]
    have w2g_9 : g_9 2 = rg 2 := by rw [eg_9, su_n (by omega)]
    refine lv_iload_n hx hb dX3_remove_21 rfl (lv_at hl 2 rfl) ?_
    refine lv_istore (lv' := [(4, .int pl), (3, .int r_1), (0, .ref (A q 0)), (1, .int pl), (2, .int ns)]) hx hb dX3_remove_22 hl (by decide) rfl (fun ls hl => ?_)
    have hl_24_21 : ∀ (n_22 : Nat) (x_10 : Int32) (M_13 : ti_M) (g_16 : Nat → Int) (H : Heap) (locs : List Loc) (ls : Array Slot), (8 - x_10.toInt : Int).toNat < n_22 → (0 ≤ x_10.toInt) → (x_10.toInt ≤ 8) → (cI Tc M_13) → (M_13.2.2.2 = M.2.2.2) → (eo q M_13 M) → (qC q g_16 M_13) → (x_10.toInt ≤ 8) → (bq_sf ((g_16 3).toNat - (x_10.toInt).toNat) (x_10.toInt).toNat g_16 = bq_sf (rg 3 - 1 - pl.toInt).toNat pl.toInt.toNat (pp_su rg 3 (rg 3 - 1))) → (g_16 3 = rg 3 - 1) → (g_16 2 = rg 2) → ti_H ti_LT D A cy H0 M_13 H locs → lv_has ls 5 [(4, .int x_10), (3, .int r_1), (0, .ref (A q 0)), (1, .int pl), (2, .int ns)] → W p l e (ti_rm 1) s m args below meth c H locs 0 0 Q (F0 m 24 ls []) := by
      intro n_22
      induction n_22 with
      | zero => intro x_10 M_13 g_16 H locs ls hf_22; exact absurd hf_22 (Nat.not_lt_zero _)
      | succ n_22 ih_22 =>
        intro x_10 M_13 g_16 H locs ls hf_22 b_11 b_12 iM_13 f_14 f_15 hs_17 j_18 j_19 j_20 j_21 hw hl
        refine lv_iload hx hb dX3_remove_24 (lv_at hl 0 rfl) ?_
        refine lv_aload_n hx hb dX3_remove_26 rfl (lv_at hl 2 rfl) ?_
        refine ti_get (ci := 3) (k := 3) (N := 17) (T := TX3) C hw iw_3 rfl hq (by decide) (by decide) fl_X3_56 rfl rfl dX3_remove_27 ?_
        refine lv_topi (fun x_23 ex_23 => ?_)
        have bx_23 : 0 ≤ x_23.toInt ∧ x_23.toInt ≤ 8 := cI_rd iM_13 hq.1 ex_23
        have ux_23 : (tI M_13 q 3).toInt = x_23.toInt := by rw [ex_23]
        have L_24 : g_16 3 = x_23.toInt := ((hs_17.1 3 (by decide) (by decide)).trans (congrArg Int32.toInt (ex_23.symm))).trans rfl
        refine sb_icmp_ge (tgt := 55) hx hb rfl rfl dX3_remove_30 (by decide) (fun c_30_24 => ?_) (fun c_30_24 => ?_)
        · refine lv_aload_n hx hb dX3_remove_55 rfl (lv_at hl 2 rfl) ?_
          refine ti_get (ci := 3) (k := 8) (N := 17) (T := TX3) (v := .ref (A q 9)) C hw iw_3 rfl hq (by decide) (by decide) fl_X3_18 rfl rfl dX3_remove_56 ?_
          refine lv_iload_n hx hb dX3_remove_59 rfl (lv_at hl 1 rfl) ?_
          refine lv_iload_n hx hb dX3_remove_60 rfl (lv_at hl 4 rfl) ?_
          refine ti_iast (ci := 3) (k := 8) (n := 8) C hw hq (by decide) (fun _ _ => rfl) (vp_in_iff.mpr (by omega)) dX3_remove_61 (fun H locs hw => ?_)
          obtain ⟨M_33, hM_33⟩ : ∃ z : ti_M, z = uY M_13 q 8 (upd (tY M_13 q 8) (r_1 : Int32).toNatClampNeg ns) := ⟨_, rfl⟩
          have hw := hw.to hM_33.symm
          have iM_33 : cI Tc M_33 := cI_up iM_13 hM_33 hq.1 trivial
          have hs_34 : qC q (pp_su g_16 (128 + r_1.toInt.toNat) ns.toInt) M_33 := qC_Y (k := 8) (j := r_1.toInt.toNat) (i := r_1) hs_17 (by omega) rfl hM_33 (by decide) (by omega)
          obtain ⟨g_35, eg_35⟩ : ∃ z : Nat → Int, z = pp_su g_16 (128 + r_1.toInt.toNat) ns.toInt := ⟨_, rfl⟩
          rw [← eg_35] at hs_34
          have w2g_35 : g_35 2 = g_16 2 := by rw [eg_35, su_n (by omega)]
          have w3g_35 : g_35 3 = g_16 3 := by rw [eg_35, su_n (by omega)]
          refine lv_aload_n hx hb dX3_remove_62 rfl (lv_at hl 2 rfl) ?_
          refine ti_get (ci := 3) (k := 14) (N := 17) (T := TX3) (v := .ref (A q 15)) C hw iw_3 rfl hq (by decide) (by decide) fl_X3_36 rfl rfl dX3_remove_63 ?_
          refine lv_iload_n hx hb dX3_remove_66 rfl (lv_at hl 1 rfl) ?_
          refine lv_aload_n hx hb dX3_remove_67 rfl (lv_at hl 2 rfl) ?_
          refine ti_get (ci := 3) (k := 2) (N := 17) (T := TX3) C hw iw_3 rfl hq (by decide) (by decide) fl_X3_53 rfl rfl dX3_remove_68 ?_
          refine lv_topi (fun x_36 ex_36 => ?_)
          have L_37 : g_35 2 = x_36.toInt := ((hs_34.1 2 (by decide) (by decide)).trans (congrArg Int32.toInt (ex_36.symm))).trans rfl
          have L_38 : g_16 2 = x_36.toInt := (show g_35 2 = g_16 2 by rw [eg_35, su_n (by omega)]).symm.trans L_37
          refine ti_iast (ci := 3) (k := 14) (n := 8) C hw hq (by decide) (fun _ _ => rfl) (vp_in_iff.mpr (by omega)) dX3_remove_71 (fun H locs hw => ?_)
          obtain ⟨M_39, hM_39⟩ : ∃ z : ti_M, z = uY M_33 q 14 (upd (tY M_33 q 14) (r_1 : Int32).toNatClampNeg x_36) := ⟨_, rfl⟩
          have hw := hw.to hM_39.symm
          have iM_39 : cI Tc M_39 := cI_up iM_33 hM_39 hq.1 trivial
          have hs_40 : qC q (pp_su g_35 (224 + r_1.toInt.toNat) x_36.toInt) M_39 := qC_Y (k := 14) (j := r_1.toInt.toNat) (i := r_1) hs_34 (by omega) rfl hM_39 (by decide) (by omega)
          obtain ⟨g_41, eg_41⟩ : ∃ z : Nat → Int, z = pp_su g_35 (224 + r_1.toInt.toNat) x_36.toInt := ⟨_, rfl⟩
          rw [← eg_41] at hs_40
          have w2g_41 : g_41 2 = g_35 2 := by rw [eg_41, su_n (by omega)]
          have w3g_41 : g_41 3 = g_35 3 := by rw [eg_41, su_n (by omega)]
          refine lv_aload_n hx hb dX3_remove_72 rfl (lv_at hl 2 rfl) ?_
          refine ti_get (ci := 3) (k := 15) (N := 17) (T := TX3) (v := .ref (A q 16)) C hw iw_3 rfl hq (by decide) (by decide) fl_X3_39 rfl rfl dX3_remove_73 ?_
          refine lv_iload_n hx hb dX3_remove_76 rfl (lv_at hl 1 rfl) ?_
          refine lv_iconst (v := 0) hx hb dX3_remove_77 (by decide) ?_
          refine ti_iast (ci := 3) (k := 15) (n := 8) C hw hq (by decide) (fun _ _ => rfl) (vp_in_iff.mpr (by omega)) dX3_remove_78 (fun H locs hw => ?_)
          obtain ⟨M_42, hM_42⟩ : ∃ z : ti_M, z = uY M_39 q 15 (upd (tY M_39 q 15) (r_1 : Int32).toNatClampNeg 0) := ⟨_, rfl⟩
          have hw := hw.to hM_42.symm
          have iM_42 : cI Tc M_42 := cI_up iM_39 hM_42 hq.1 trivial
          have hs_43 : qC q (pp_su g_41 (240 + r_1.toInt.toNat) 0) M_42 := qC_Y (k := 15) (j := r_1.toInt.toNat) (i := r_1) hs_40 (by omega) (by decide : (0 : Int32).toInt = 0) hM_42 (by decide) (by omega)
          obtain ⟨g_44, eg_44⟩ : ∃ z : Nat → Int, z = pp_su g_41 (240 + r_1.toInt.toNat) 0 := ⟨_, rfl⟩
          rw [← eg_44] at hs_43
          have w2g_44 : g_44 2 = g_41 2 := by rw [eg_44, su_n (by omega)]
          have w3g_44 : g_44 3 = g_41 3 := by rw [eg_44, su_n (by omega)]
          refine lv_aload_n hx hb dX3_remove_79 rfl (lv_at hl 2 rfl) ?_
          refine ti_get (ci := 3) (k := 16) (N := 17) (T := TX3) (v := .ref (A q 17)) C hw iw_3 rfl hq (by decide) (by decide) fl_X3_42 rfl rfl dX3_remove_80 ?_
          refine lv_iload_n hx hb dX3_remove_83 rfl (lv_at hl 1 rfl) ?_
          refine lv_iconst (v := 0) hx hb dX3_remove_84 (by decide) ?_
          refine ti_iast (ci := 3) (k := 16) (n := 8) C hw hq (by decide) (fun _ _ => rfl) (vp_in_iff.mpr (by omega)) dX3_remove_85 (fun H locs hw => ?_)
          obtain ⟨M_45, hM_45⟩ : ∃ z : ti_M, z = uY M_42 q 16 (upd (tY M_42 q 16) (r_1 : Int32).toNatClampNeg 0) := ⟨_, rfl⟩
          have hw := hw.to hM_45.symm
          have iM_45 : cI Tc M_45 := cI_up iM_42 hM_45 hq.1 trivial
          have hs_46 : qC q (pp_su g_44 (256 + r_1.toInt.toNat) 0) M_45 := qC_Y (k := 16) (j := r_1.toInt.toNat) (i := r_1) hs_43 (by omega) (by decide : (0 : Int32).toInt = 0) hM_45 (by decide) (by omega)
          obtain ⟨g_47, eg_47⟩ : ∃ z : Nat → Int, z = pp_su g_44 (256 + r_1.toInt.toNat) 0 := ⟨_, rfl⟩
          rw [← eg_47] at hs_46
          have w2g_47 : g_47 2 = g_44 2 := by rw [eg_47, su_n (by omega)]
          have w3g_47 : g_47 3 = g_44 3 := by rw [eg_47, su_n (by omega)]
          have E_48 : bq_rm rg pl.toInt ns.toInt = g_47 := by
            unfold bq_rm bq_r2; rw [if_neg (by omega), ← j_19, show (g_16 3).toNat - x_10.toInt.toNat = 0 by omega]
            subst eg_47 eg_44 eg_41 eg_35
            exact su_cg (su_cg (su_cg (su_cg rfl (by omega) (by omega)) (by omega) (by omega)) (by omega) (by omega)) (by omega) (by omega)
          exact hQ _ _ _ _ _ hw (⟨iM_45, ((rf_Y hM_45).trans ((rf_Y hM_42).trans ((rf_Y hM_39).trans ((rf_Y hM_33).trans f_14)))), (eo.trans (eo_Y hM_45) (eo.trans (eo_Y hM_42) (eo.trans (eo_Y hM_39) (eo.trans (eo_Y hM_33) f_15)))), (by rw [E_48]; exact hs_46)⟩) dX3_remove_86
        · refine lv_aload_n hx hb dX3_remove_33 rfl (lv_at hl 2 rfl) ?_
          refine ti_get (ci := 3) (k := 6) (N := 17) (T := TX3) (v := .ref (A q 7)) C hw iw_3 rfl hq (by decide) (by decide) fl_X3_9 rfl rfl dX3_remove_34 ?_
          refine lv_iload hx hb dX3_remove_37 (lv_at hl 0 rfl) ?_
          refine lv_aload_n hx hb dX3_remove_39 rfl (lv_at hl 2 rfl) ?_
          refine ti_get (ci := 3) (k := 6) (N := 17) (T := TX3) (v := .ref (A q 7)) C hw iw_3 rfl hq (by decide) (by decide) fl_X3_9 rfl rfl dX3_remove_40 ?_
          refine lv_iload hx hb dX3_remove_43 (lv_at hl 0 rfl) ?_
          refine lv_iconst (v := 1) hx hb dX3_remove_45 (by decide) ?_
          refine lv_iadd hx hb dX3_remove_46 ?_
          refine lv_topi (fun x_26 ex_26 => ?_)
          have tx_26 : x_26.toInt = x_10.toInt + 1 := i_add ex_26 rfl (by decide : (1 : Int32).toInt = 1) (by omega) (by omega)
          refine ti_iald (ci := 3) (k := 6) (n := 8) C hw hq (by decide) (fun _ _ => rfl) (vp_in_iff.mpr (by omega)) dX3_remove_47 ?_
          refine lv_topi (fun x_27 ex_27 => ?_)
          have bx_27 : 0 ≤ x_27.toInt ∧ x_27.toInt ≤ 7 := cI_ry iM_13 hq.1 ex_27
          have L_28 : g_16 (96 + x_26.toInt.toNat) = x_27.toInt := qC_y (k := 6) hs_17 rfl (by omega) (by omega) (by decide) (by decide) ex_27
          refine ti_iast (ci := 3) (k := 6) (n := 8) C hw hq (by decide) (fun _ _ => rfl) (vp_in_iff.mpr (by omega)) dX3_remove_48 (fun H locs hw => ?_)
          obtain ⟨M_29, hM_29⟩ : ∃ z : ti_M, z = uY M_13 q 6 (upd (tY M_13 q 6) (x_10 : Int32).toNatClampNeg x_27) := ⟨_, rfl⟩
          have hw := hw.to hM_29.symm
          have iM_29 : cI Tc M_29 := cI_up iM_13 hM_29 hq.1 (ib_mk (lo := 0) (hi := 7) (by omega) (by omega))
          have hs_30 : qC q (pp_su g_16 (96 + x_10.toInt.toNat) x_27.toInt) M_29 := qC_Y (k := 6) (j := x_10.toInt.toNat) (i := x_10) hs_17 (by omega) rfl hM_29 (by decide) (by omega)
          obtain ⟨g_31, eg_31⟩ : ∃ z : Nat → Int, z = pp_su g_16 (96 + x_10.toInt.toNat) x_27.toInt := ⟨_, rfl⟩
          rw [← eg_31] at hs_30
          have w2g_31 : g_31 2 = g_16 2 := by rw [eg_31, su_n (by omega)]
          have w3g_31 : g_31 3 = g_16 3 := by rw [eg_31, su_n (by omega)]
          obtain ⟨x_32, ex_32⟩ : ∃ z : Int32, z = x_10 + 1 := ⟨_, rfl⟩
          have tx_32 : x_32.toInt = x_10.toInt + 1 := i_add ex_32 rfl (by decide) (by omega) (by omega)
          refine lv_iinc (v := x_32) (lv' := [(4, .int x_32), (3, .int r_1), (0, .ref (A q 0)), (1, .int pl), (2, .int ns)]) hx hb dX3_remove_49 hl (k := 0) rfl (by rw [ex_32]; rfl) (by decide) rfl (fun ls hl => ?_)
          refine lv_goto (tgt := 24) hx hb dX3_remove_52 (by decide) ?_
          exact ih_22 x_32 M_29 g_31 _ _ _ (by omega) (by first | omega | decide) (by first | omega | decide) iM_29 ((rf_Y hM_29).trans f_14) (eo.trans (eo_Y hM_29) f_15) hs_30 (by first | omega | decide) (by rw [← j_19, sf_go (s := g_16) (n := (g_16 3).toNat) (i := x_10.toInt.toNat) (by omega), show x_32.toInt.toNat = x_10.toInt.toNat + 1 by omega, show (g_31 3).toNat = (g_16 3).toNat by omega]; subst eg_31; exact congrArg _ (su_cg rfl (by omega) (by rw [show 96 + x_10.toInt.toNat + 1 = 96 + x_26.toInt.toNat by omega]; omega))) (by first | omega | decide) (by first | omega | decide) hw (lv_sub hl [0, 1, 2, 3, 4] rfl)
    exact hl_24_21 ((8 - pl.toInt : Int).toNat + 1) pl M_7 g_9 _ _ _ (Nat.lt_succ_self _) (by first | omega | decide) (by first | omega | decide) iM_7 (rf_I hM_7) (eo_I hM_7) hs_8 (by first | omega | decide) (by rw [show (g_9 3).toNat - pl.toInt.toNat = (rg 3 - 1 - pl.toInt).toNat by omega]; subst eg_9; exact congrArg _ (su_cg rfl rfl (by omega))) (by first | omega | decide) (by first | omega | decide) hw (lv_sub hl [0, 1, 2, 3, 4] rfl)
  · exact hQ _ _ _ _ _ hw (⟨hI, rfl, eo.refl, (by unfold bq_rm; rw [if_pos (by omega)]; exact hs)⟩) dX3_remove_10
set_option maxHeartbeats 4000000 in
set_option maxRecDepth 100000 in
theorem z_X3_exchange (l : Launch) (D : va_G) (A : Nat → Nat → Nat) (cy : Nat → ClassId) (hJ : ti_inj ti_LT A) (M : ti_M) (hI : cI Tc M) (q : Nat) (hq : ti_ob ti_LT q 3) (a1 a2 : Int32) (h1 : 0 ≤ a1.toInt) (h2 : a1.toInt ≤ 7) (h3 : 0 ≤ a2.toInt) (h4 : a2.toInt ≤ 7) (rg : Nat → Int) (hs : qC q rg M) : ti_Kv l yX3_exchange cX3_exchange 5 1 ti_LT D A cy M [.ref (A q 0), .int a1, .int a2] (fun M2 => cI Tc M2 ∧ M2.2.2.2 = M.2.2.2 ∧ eo q M2 M ∧ qC q (bq_ex rg a1.toInt a2.toInt) M2) := by
  refine ti_eV yp_X3_exchange hJ ti_LT_nd (Nat.le_of_ble_eq_true rfl) ?_
  intro p e s m args below meth c Q H0 C hQ hw ls hl
  have hx := C.1
  have hb := C.2.1
  have hl : lv_has ls 5 [(0, .ref (A q 0)), (1, .int a1), (2, .int a2)] := hl
  refine lv_aload_n hx hb dX3_exchange_0 rfl (lv_at hl 0 rfl) ?_
  refine lv_iload_n hx hb dX3_exchange_1 rfl (lv_at hl 1 rfl) ?_
  refine ti_callVi (ci := 3) (av := [.int a1]) C hw (z_X3_placeOf l D A cy hJ M hI q hq a1 rg hs) ⟨ml_X3_103, ym_X3_placeOf, yv_X3_placeOf, yi_X3_placeOf, yc_X3_placeOf⟩ yd_X3_placeOf hq (by decide) rfl rfl hl.1 (Nat.le_of_ble_eq_true rfl) ⟨by decide, by decide⟩ ⟨Nat.zero_le _, Nat.zero_le _⟩ dX3_exchange_2 (fun r_1 M_2 H locs hp_2 hw => ?_)
  obtain ⟨hm, b0r_1, b1r_1, pr_1⟩ := hp_2
  have hw := hw.to hm
  refine lv_istore_n (lv' := [(3, .int r_1), (0, .ref (A q 0)), (1, .int a1), (2, .int a2)]) hx hb dX3_exchange_5 rfl hl (by decide) rfl (fun ls hl => ?_)
  refine lv_aload_n hx hb dX3_exchange_6 rfl (lv_at hl 1 rfl) ?_
  refine lv_iload_n hx hb dX3_exchange_7 rfl (lv_at hl 3 rfl) ?_
  refine ti_callVi (ci := 3) (av := [.int a2]) C hw (z_X3_placeOf l D A cy hJ M hI q hq a2 rg hs) ⟨ml_X3_103, ym_X3_placeOf, yv_X3_placeOf, yi_X3_placeOf, yc_X3_placeOf⟩ yd_X3_placeOf hq (by decide) rfl rfl hl.1 (Nat.le_of_ble_eq_true rfl) ⟨by decide, by decide⟩ ⟨Nat.zero_le _, Nat.zero_le _⟩ dX3_exchange_8 (fun r_3 M_4 H locs hp_4 hw => ?_)
  obtain ⟨hm, b0r_3, b1r_3, pr_3⟩ := hp_4
  have hw := hw.to hm
  refine lv_istore (lv' := [(4, .int r_3), (3, .int r_1), (0, .ref (A q 0)), (1, .int a1), (2, .int a2)]) hx hb dX3_exchange_11 hl (by decide) rfl (fun ls hl => ?_)
  refine lv_iload_n hx hb dX3_exchange_13 rfl (lv_at hl 1 rfl) ?_
  refine sb_if_lt (tgt := 37) hx hb rfl dX3_exchange_14 (by decide) (fun c_14_4 => ?_) (fun c_14_4 => ?_)
  · have E_13 : bq_ex rg a1.toInt a2.toInt = rg := by
      unfold bq_ex
      (repeat (first | rw [if_pos (by omega)] | rw [if_neg (by omega)]))
      all_goals ((repeat' (first | rfl | assumption | refine su_cg ?_ ?_ ?_)) <;> first | omega | (exact congrArg bw (by omega)))
    exact hQ _ _ _ _ _ hw (⟨hI, rfl, eo.refl, (by rw [E_13]; exact hs)⟩) dX3_exchange_37
  · refine lv_iload hx hb dX3_exchange_17 (lv_at hl 0 rfl) ?_
    refine sb_if_lt (tgt := 37) hx hb rfl dX3_exchange_19 (by decide) (fun c_19_5 => ?_) (fun c_19_5 => ?_)
    · have E_14 : bq_ex rg a1.toInt a2.toInt = rg := by
        unfold bq_ex
        (repeat (first | rw [if_pos (by omega)] | rw [if_neg (by omega)]))
        all_goals ((repeat' (first | rfl | assumption | refine su_cg ?_ ?_ ?_)) <;> first | omega | (exact congrArg bw (by omega)))
      exact hQ _ _ _ _ _ hw (⟨hI, rfl, eo.refl, (by rw [E_14]; exact hs)⟩) dX3_exchange_37
    · refine lv_aload_n hx hb dX3_exchange_22 rfl (lv_at hl 2 rfl) ?_
      refine ti_get (ci := 3) (k := 6) (N := 17) (T := TX3) (v := .ref (A q 7)) C hw iw_3 rfl hq (by decide) (by decide) fl_X3_9 rfl rfl dX3_exchange_23 ?_
      refine lv_iload_n hx hb dX3_exchange_26 rfl (lv_at hl 1 rfl) ?_
      refine lv_iload_n hx hb dX3_exchange_27 rfl (lv_at hl 4 rfl) ?_
      refine ti_iast (ci := 3) (k := 6) (n := 8) C hw hq (by decide) (fun _ _ => rfl) (vp_in_iff.mpr (by omega)) dX3_exchange_28 (fun H locs hw => ?_)
      obtain ⟨M_7, hM_7⟩ : ∃ z : ti_M, z = uY M q 6 (upd (tY M q 6) (r_1 : Int32).toNatClampNeg a2) := ⟨_, rfl⟩
      have hw := hw.to hM_7.symm
      have iM_7 : cI Tc M_7 := cI_up hI hM_7 hq.1 (ib_mk (lo := 0) (hi := 7) (by omega) (by omega))
      have hs_8 : qC q (pp_su rg (96 + r_1.toInt.toNat) a2.toInt) M_7 := qC_Y (k := 6) (j := r_1.toInt.toNat) (i := r_1) hs (by omega) rfl hM_7 (by decide) (by omega)
      obtain ⟨g_9, eg_9⟩ : ∃ z : Nat → Int, z = pp_su rg (96 + r_1.toInt.toNat) a2.toInt := ⟨_, rfl⟩
      rw [← eg_9] at hs_8
      refine lv_aload_n hx hb dX3_exchange_29 rfl (lv_at hl 2 rfl) ?_
      refine ti_get (ci := 3) (k := 6) (N := 17) (T := TX3) (v := .ref (A q 7)) C hw iw_3 rfl hq (by decide) (by decide) fl_X3_9 rfl rfl dX3_exchange_30 ?_
      refine lv_iload hx hb dX3_exchange_33 (lv_at hl 0 rfl) ?_
      refine lv_iload_n hx hb dX3_exchange_35 rfl (lv_at hl 3 rfl) ?_
      refine ti_iast (ci := 3) (k := 6) (n := 8) C hw hq (by decide) (fun _ _ => rfl) (vp_in_iff.mpr (by omega)) dX3_exchange_36 (fun H locs hw => ?_)
      obtain ⟨M_10, hM_10⟩ : ∃ z : ti_M, z = uY M_7 q 6 (upd (tY M_7 q 6) (r_3 : Int32).toNatClampNeg a1) := ⟨_, rfl⟩
      have hw := hw.to hM_10.symm
      have iM_10 : cI Tc M_10 := cI_up iM_7 hM_10 hq.1 (ib_mk (lo := 0) (hi := 7) (by omega) (by omega))
      have hs_11 : qC q (pp_su g_9 (96 + r_3.toInt.toNat) a1.toInt) M_10 := qC_Y (k := 6) (j := r_3.toInt.toNat) (i := r_3) hs_8 (by omega) rfl hM_10 (by decide) (by omega)
      obtain ⟨g_12, eg_12⟩ : ∃ z : Nat → Int, z = pp_su g_9 (96 + r_3.toInt.toNat) a1.toInt := ⟨_, rfl⟩
      rw [← eg_12] at hs_11
      have E_15 : bq_ex rg a1.toInt a2.toInt = g_12 := by
        unfold bq_ex
        (repeat (first | rw [if_pos (by omega)] | rw [if_neg (by omega)]))
        all_goals subst eg_12 eg_9
        all_goals ((repeat' (first | rfl | assumption | refine su_cg ?_ ?_ ?_)) <;> first | omega | (exact congrArg bw (by omega)))
      exact hQ _ _ _ _ _ hw (⟨iM_10, ((rf_Y hM_10).trans (rf_Y hM_7)), (eo.trans (eo_Y hM_10) (eo_Y hM_7)), (by rw [E_15]; exact hs_11)⟩) dX3_exchange_37
end

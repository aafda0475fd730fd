variable {Tc : gC} {Tm : gM}
def pp_m1 (B : Nat → Int) (n : Nat) (s : Nat → Int) : Nat → Int := pp_su (pp_av B n s) (100 + (s 7).toNat) (pp_av B n s 1)
def pp_m2 (s : Nat → Int) : Nat → Int := if s 0 = 25 ∧ ¬ pp_fd s (s 1) 0 = -1 then pp_rf 3 s else s
def pp_m3 (B : Nat → Int) (n : Nat) (s : Nat → Int) : Nat → Int := pp_nb B n 0 59 (pp_nb B n 0 99 (pp_nb B n 0 99 (pp_nb B n 1 30 (pp_nb B n 1 99 (pp_nb B n 0 9 (pp_nb B n 1 99 (pp_tk B n 25 s)))))))
def pp_m4 (B : Nat → Int) (n : Nat) (s : Nat → Int) : Nat → Int := if s 0 = 15 then pp_av B n s else s
def pp_m5 (s : Nat → Int) : Nat → Int := pp_su (pp_su s (200 + (s 7).toNat) (-1)) 7 (s 7 + 1)
/-- a line of a man -/
def pp_mn (B : Nat → Int) (n : Nat) (s : Nat → Int) : Nat → Int := if s 7 < 8 then pp_m5 (pp_m4 B n (pp_m3 B n (pp_m2 (pp_m1 B n s)))) else pp_rf 2 s
def pp_g1 (B : Nat → Int) (n : Nat) (a : Int) (s : Nat → Int) : Nat → Int := pp_tk B n 25 (if s (200 + a.toNat) = -1 then s else pp_rf 3 s)
def pp_g2 (B : Nat → Int) (n : Nat) (a b : Int) (s : Nat → Int) : Nat → Int := pp_su (pp_tk B n 25 (if b = a then pp_rf 5 s else s)) (200 + a.toNat) b
def pp_g3 (B : Nat → Int) (n : Nat) (a : Int) (s : Nat → Int) : Nat → Int := pp_g2 B n a (pp_tv s) (pp_tm s)
/-- a line of a guard, behind its first word -/
def pp_gd (B : Nat → Int) (n : Nat) (s : Nat → Int) : Nat → Int := if pp_tv (pp_av B n s) = -1 then pp_tm (pp_av B n s) else pp_g3 B n (pp_tv (pp_av B n s)) (pp_g1 B n (pp_tv (pp_av B n s)) (pp_tm (pp_av B n s)))
/-- a line of a power -/
def pp_pw (B : Nat → Int) (n : Nat) (s : Nat → Int) : Nat → Int := if 9 ≤ pp_av B n s 0 ∧ pp_av B n s 0 ≤ 11 then pp_nb B n 0 7 (pp_on B n (pp_av B n s)) else pp_rf 1 (pp_av B n s)
set_option maxHeartbeats 4000000 in
set_option maxRecDepth 100000 in
theorem x_X4_readMan (l : Launch) (D : va_G) (A : Nat → Nat → Nat) (cy : Nat → ClassId) (hJ : ti_inj ti_LT A) (M : ti_M) (hI : cI Tc M) (t : Nat) (ht : t = 3 ∨ t = 4) (hT : tT M 1 1 = some t) (B : Nat → Int) (n : Nat) (rg : Nat → Int) (hr : rC B n t rg M) : ti_KvE l yX4_readMan cX4_readMan 2 8 ti_LT D A cy M [.ref (A 1 0)] (fun M2 => cI Tc M2 ∧ M2.2.2.2 = M.2.2.2 ∧ f0 M2 M ∧ tI M2 2 1 = tI M 2 1 ∧ ot t M2 M ∧ rC B n t (pp_mn B n rg) M2) := by
  refine ti_eVE yp_X4_readMan hJ ti_LT_nd (Nat.le_of_ble_eq_true rfl) ?_
  intro p e s m args below meth c Q H0 C hE hQ hw ls hl
  have hx := C.1
  have hb := C.2.1
  have hl : lv_has ls 2 [(0, .ref (A 1 0))] := hl
  have l0 : rg 0 = (tI M 2 4).toInt := hr.2.1.1
  have l1 : rg 1 = (tI M 2 6).toInt := hr.2.1.2.1
  have l2 : rg 2 = (tI M 2 5).toInt := hr.2.1.2.2.1
  have l3 : rg 3 = (tI M 2 3).toInt := hr.2.1.2.2.2
  have l4 : rg 4 = (tI M 1 4).toInt := hr.2.2.1.1
  have l5 : rg 5 = (tI M 1 5).toInt := hr.2.2.1.2.1
  have l7 : rg 7 = (tI M t 4).toInt := hr.2.2.2.1.1
  have l8 : rg 8 = (tI M t 5).toInt := hr.2.2.2.1.2.1
  have l9 : rg 9 = (tI M t 3).toInt := hr.2.2.2.1.2.2
  refine lv_aload_n hx hb dX4_readMan_0 rfl (lv_at hl 0 rfl) ?_
  refine ti_get (ci := 4) (k := 1) (N := 6) (T := TX4) (v := .ref (A t 0)) C hw iw_4 rfl ob_1 (by decide) (by decide) fl_X4_28 rfl (ti_Tv (hT)) dX4_readMan_1 ?_
  refine ti_get (ci := 8) (k := 4) (N := 12) (T := TX8) C hw iw_8 rfl (ob_t ht) (by decide) (by decide) fl_X4_98 rfl rfl dX4_readMan_4 ?_
  refine lv_topi (fun x_1 ex_1 => ?_)
  have bx_1 : 0 ≤ x_1.toInt ∧ x_1.toInt ≤ 8 := cI_rd hI (ob_t ht).1 ex_1
  have ux_1 : (tI M t 4).toInt = x_1.toInt := by rw [ex_1]
  refine lv_bipush (v := 8) hx hb dX4_readMan_7 (by decide) ?_
  refine sb_icmp_lt (tgt := 18) hx hb rfl (by decide : (8 : Int32).toInt = 8) dX4_readMan_9 (by decide) (fun c_9_1 => ?_) (fun c_9_1 => ?_)
  · refine lv_aload_n hx hb dX4_readMan_18 rfl (lv_at hl 0 rfl) ?_
    refine ti_get (ci := 4) (k := 1) (N := 6) (T := TX4) (v := .ref (A t 0)) C hw iw_4 rfl ob_1 (by decide) (by decide) fl_X4_28 rfl (ti_Tv (hT)) dX4_readMan_19 ?_
    refine ti_get (ci := 8) (k := 0) (N := 12) (T := TX8) (v := .ref (A t 1)) C hw iw_8 rfl (ob_t ht) (by decide) (by decide) fl_X4_101 rfl rfl dX4_readMan_22 ?_
    refine lv_aload_n hx hb dX4_readMan_25 rfl (lv_at hl 0 rfl) ?_
    refine ti_get (ci := 4) (k := 1) (N := 6) (T := TX4) (v := .ref (A t 0)) C hw iw_4 rfl ob_1 (by decide) (by decide) fl_X4_28 rfl (ti_Tv (hT)) dX4_readMan_26 ?_
    refine ti_get (ci := 8) (k := 4) (N := 12) (T := TX8) C hw iw_8 rfl (ob_t ht) (by decide) (by decide) fl_X4_98 rfl rfl dX4_readMan_29 ?_
    refine ti_top (y := x_1) (ex_1.symm) ?_
    have u_9 : (tI M t 4).toInt = (x_1 : Int32).toInt := by rw [(ex_1.symm)]
    refine ti_aald (ci := 8) (k := 0) (n := 8) (t0 := 5) (Cn := RX2) (gg := (ti_men t)) (j := x_1.toNatClampNeg) C hw (ob_t ht) (by decide) (fun _ _ => rfl) rfl (vp_in_iff.mpr (by omega)) rfl dX4_readMan_32 ?_
    have ob_10 : ti_ob ti_LT (ti_men t x_1.toNatClampNeg) 2 := ob_m ht (i_nt rfl (by omega) (by omega))
    refine lv_astore_n (lv' := [(1, .ref (A (ti_men t x_1.toNatClampNeg) 0)), (0, .ref (A 1 0))]) hx hb dX4_readMan_33 rfl hl (by decide) rfl (fun ls hl => ?_)
    refine lv_aload_n hx hb dX4_readMan_34 rfl (lv_at hl 1 rfl) ?_
    refine ti_get (ci := 4) (k := 0) (N := 6) (T := TX4) (v := .ref (A 2 0)) C hw iw_4 rfl ob_1 (by decide) (by decide) fl_X4_12 rfl rfl dX4_readMan_35 ?_
    refine ti_callVvE (ci := 7) (av := []) C hE hw (x_X7_advance l D A cy hJ M hI ) ⟨ml_X4_92, ym_X7_advance, yv_X7_advance, yi_X7_advance, yc_X7_advance⟩ yd_X7_advance ob_2 (by decide) rfl rfl hl.1 (Nat.le_of_ble_eq_true rfl) ⟨by decide, by decide⟩ ⟨Nat.zero_le _, Nat.zero_le _⟩ dX4_readMan_38 (fun M_12 H locs hp_12 hw => ?_)
    obtain ⟨iM_12, q_13, q_14, q_15, q_16, p0r_11, p1r_11, p2r_11, p3r_11⟩ := hp_12
    have hs_17 := rC_av ht hr q_16 q_14 p0r_11 p1r_11 p2r_11 p3r_11
    obtain ⟨g_18, eg_18⟩ : ∃ z : Nat → Int, z = pp_av B n rg := ⟨_, rfl⟩
    rw [← eg_18] at hs_17
    have lg_18_0 : g_18 0 = (tI M_12 2 4).toInt := hs_17.2.1.1
    have lg_18_1 : g_18 1 = (tI M_12 2 6).toInt := hs_17.2.1.2.1
    have lg_18_4 : g_18 4 = (tI M_12 1 4).toInt := hs_17.2.2.1.1
    have lg_18_7 : g_18 7 = (tI M_12 t 4).toInt := hs_17.2.2.2.1.1
    have lg_18_8 : g_18 8 = (tI M_12 t 5).toInt := hs_17.2.2.2.1.2.1
    refine lv_aload_n hx hb dX4_readMan_41 rfl (lv_at hl 0 rfl) ?_
    refine lv_aload_n hx hb dX4_readMan_42 rfl (lv_at hl 1 rfl) ?_
    refine ti_get (ci := 4) (k := 0) (N := 6) (T := TX4) (v := .ref (A 2 0)) C hw iw_4 rfl ob_1 (by decide) (by decide) fl_X4_12 rfl rfl dX4_readMan_43 ?_
    refine ti_get (ci := 7) (k := 6) (N := 7) (T := TX7) C hw iw_7 rfl ob_2 (by decide) (by decide) fl_X4_95 rfl rfl dX4_readMan_46 ?_
    refine lv_topi (fun x_19 ex_19 => ?_)
    have bx_19 : 0 ≤ x_19.toInt ∧ x_19.toInt ≤ 2147483647 := cI_rd iM_12 ob_2.1 ex_19
    have ux_19 : (tI M_12 2 6).toInt = x_19.toInt := by rw [ex_19]
    refine ti_putI (ci := 2) (k := 0) (N := 10) (T := TX2) C hw iw_2 tyX2 tyX2_ok nmX2 rfl ob_10 (by decide) (by decide) fl_X4_105 rfl rfl rfl rfl (fn_2 A _) fs_2_0 dX4_readMan_49 (fun H locs hw => ?_)
    obtain ⟨M_20, hM_20⟩ : ∃ z : ti_M, z = uI M_12 (ti_men t x_1.toNatClampNeg) 0 x_19 := ⟨_, rfl⟩
    have hw := hw.to hM_20.symm
    have iM_20 : cI Tc M_20 := cI_uI iM_12 hM_20 ob_10.1 trivial
    have hs_21 := rC_m0 (j := x_1.toNatClampNeg) ht (i_nt (x := x_1) rfl (by omega) (by omega)) hM_20 hs_17
    obtain ⟨g_22, eg_22⟩ : ∃ z : Nat → Int, z = pp_su g_18 (100 + x_1.toNatClampNeg) x_19.toInt := ⟨_, rfl⟩
    rw [← eg_22] at hs_21
    have lg_22_0 : g_22 0 = (tI M_20 2 4).toInt := hs_21.2.1.1
    have lg_22_1 : g_22 1 = (tI M_20 2 6).toInt := hs_21.2.1.2.1
    have lg_22_4 : g_22 4 = (tI M_20 1 4).toInt := hs_21.2.2.1.1
    have lg_22_7 : g_22 7 = (tI M_20 t 4).toInt := hs_21.2.2.2.1.1
    have lg_22_8 : g_22 8 = (tI M_20 t 5).toInt := hs_21.2.2.2.1.2.1
    have v1 : g_22 1 = x_19.toInt := by rw [lg_22_1, ((tI_nE hM_20 (nk (by decide))).trans ex_19.symm)]
    refine lv_aload_n hx hb dX4_readMan_52 rfl (lv_at hl 1 rfl) ?_
    refine ti_get (ci := 4) (k := 0) (N := 6) (T := TX4) (v := .ref (A 2 0)) C hw iw_4 rfl ob_1 (by decide) (by decide) fl_X4_12 rfl rfl dX4_readMan_53 ?_
    refine ti_get (ci := 7) (k := 4) (N := 7) (T := TX7) C hw iw_7 rfl ob_2 (by decide) (by decide) fl_X4_41 rfl rfl dX4_readMan_56 ?_
    refine lv_topi (fun x_23 ex_23 => ?_)
    have bx_23 : 0 ≤ x_23.toInt ∧ x_23.toInt ≤ 41 := cI_rd iM_20 ob_2.1 ex_23
    have ux_23 : (tI M_20 2 4).toInt = x_23.toInt := by rw [ex_23]
    refine lv_bipush (v := 25) hx hb dX4_readMan_59 (by decide) ?_
    have hj_84_43 : ∀ (M_34 : ti_M) (g_41 : Nat → Int) (H : Heap) (locs : List Loc) (ls : Array Slot), (cI Tc M_34) → (M_34.2.2.2 = M.2.2.2) → (f0 M_34 M) → (tI M_34 2 1 = tI M 2 1) → (ot t M_34 M) → (tI M_34 t 4 = x_1) → (tT M_34 1 1 = (some t)) → (rC B n t g_41 M_34) → (pp_m2 g_22 = g_41) → ti_H ti_LT D A cy H0 M_34 H locs → lv_has ls 2 [(1, .ref (A (ti_men t x_1.toNatClampNeg) 0)), (0, .ref (A 1 0))] → W p l e (ti_rm 8) s m args below meth c H locs 0 0 Q (F0 m 84 ls []) := by
      intro M_34 g_41 H locs ls iM_34 f_35 f_36 f_37 f_38 f_39 f_40 hs_42 j_43 hw hl
      have lg_41_0 : g_41 0 = (tI M_34 2 4).toInt := hs_42.2.1.1
      have lg_41_1 : g_41 1 = (tI M_34 2 6).toInt := hs_42.2.1.2.1
      have lg_41_4 : g_41 4 = (tI M_34 1 4).toInt := hs_42.2.2.1.1
      have lg_41_7 : g_41 7 = (tI M_34 t 4).toInt := hs_42.2.2.2.1.1
      have lg_41_8 : g_41 8 = (tI M_34 t 5).toInt := hs_42.2.2.2.1.2.1
      refine lv_aload_n hx hb dX4_readMan_84 rfl (lv_at hl 1 rfl) ?_
      refine lv_bipush (v := 25) hx hb dX4_readMan_85 (by decide) ?_
      refine ti_callVvE (ci := 4) (av := [.int 25]) C hE hw (x_X4_take l D A cy hJ M_34 iM_34 t ht 25 B n g_41 hs_42) ⟨ml_X4_85, ym_X4_take, yv_X4_take, yi_X4_take, yc_X4_take⟩ yd_X4_take ob_1 (by decide) rfl rfl hl.1 (Nat.le_of_ble_eq_true rfl) ⟨by decide, by decide⟩ ⟨Nat.zero_le _, Nat.zero_le _⟩ dX4_readMan_87 (fun M_45 H locs hp_45 hw => ?_)
      obtain ⟨iM_45, q_46, q_47, q_48, p0r_44⟩ := hp_45
      have hlr_44_25 : (25 : Int32).toInt = 25 := by decide
      simp only [hlr_44_25] at p0r_44
      obtain ⟨g_49, eg_49⟩ : ∃ z : Nat → Int, z = pp_tk B n 25 g_41 := ⟨_, rfl⟩
      rw [← eg_49] at p0r_44
      have lg_49_0 : g_49 0 = (tI M_45 2 4).toInt := p0r_44.2.1.1
      have lg_49_1 : g_49 1 = (tI M_45 2 6).toInt := p0r_44.2.1.2.1
      have lg_49_4 : g_49 4 = (tI M_45 1 4).toInt := p0r_44.2.2.1.1
      have lg_49_7 : g_49 7 = (tI M_45 t 4).toInt := p0r_44.2.2.2.1.1
      have lg_49_8 : g_49 8 = (tI M_45 t 5).toInt := p0r_44.2.2.2.1.2.1
      refine lv_aload_n hx hb dX4_readMan_90 rfl (lv_at hl 0 rfl) ?_
      refine lv_aload_n hx hb dX4_readMan_91 rfl (lv_at hl 1 rfl) ?_
      refine lv_iconst (v := 1) hx hb dX4_readMan_92 (by decide) ?_
      refine lv_bipush (v := 99) hx hb dX4_readMan_93 (by decide) ?_
      refine ti_callViE (ci := 4) (av := [.int 1, .int 99]) C hE hw (x_X4_number l D A cy hJ M_45 iM_45 t ht 1 99 B n g_49 p0r_44) ⟨ml_X4_56, ym_X4_number, yv_X4_number, yi_X4_number, yc_X4_number⟩ yd_X4_number ob_1 (by decide) rfl rfl hl.1 (Nat.le_of_ble_eq_true rfl) ⟨by decide, by decide⟩ ⟨Nat.zero_le _, Nat.zero_le _⟩ dX4_readMan_95 (fun r_50 M_51 H locs hp_51 hw => ?_)
      obtain ⟨iM_51, q_52, q_53, q_54, p0r_50, p1r_50⟩ := hp_51
      have hlr_50_1 : (1 : Int32).toInt = 1 := by decide
      have hlr_50_99 : (99 : Int32).toInt = 99 := by decide
      simp only [hlr_50_1, hlr_50_99] at p1r_50
      obtain ⟨g_55, eg_55⟩ : ∃ z : Nat → Int, z = pp_nb B n 1 99 g_49 := ⟨_, rfl⟩
      rw [← eg_55] at p1r_50
      have lg_55_0 : g_55 0 = (tI M_51 2 4).toInt := p1r_50.2.1.1
      have lg_55_1 : g_55 1 = (tI M_51 2 6).toInt := p1r_50.2.1.2.1
      have lg_55_4 : g_55 4 = (tI M_51 1 4).toInt := p1r_50.2.2.1.1
      have lg_55_7 : g_55 7 = (tI M_51 t 4).toInt := p1r_50.2.2.2.1.1
      have lg_55_8 : g_55 8 = (tI M_51 t 5).toInt := p1r_50.2.2.2.1.2.1
      refine ti_putI (ci := 2) (k := 1) (N := 10) (T := TX2) C hw iw_2 tyX2 tyX2_ok nmX2 rfl ob_10 (by decide) (by decide) fl_X4_114 rfl rfl rfl rfl (fn_2 A _) fs_2_1 dX4_readMan_98 (fun H locs hw => ?_)
      obtain ⟨M_56, hM_56⟩ : ∃ z : ti_M, z = uI M_51 (ti_men t x_1.toNatClampNeg) 1 r_50 := ⟨_, rfl⟩
      have hw := hw.to hM_56.symm
      have iM_56 : cI Tc M_56 := cI_uI iM_51 hM_56 ob_10.1 trivial
      have hs_57 := rC_m1x (j := x_1.toNatClampNeg) ht hM_56 p1r_50
      have lM_56_0 : g_55 0 = (tI M_56 2 4).toInt := hs_57.2.1.1
      have lM_56_1 : g_55 1 = (tI M_56 2 6).toInt := hs_57.2.1.2.1
      have lM_56_4 : g_55 4 = (tI M_56 1 4).toInt := hs_57.2.2.1.1
      have lM_56_7 : g_55 7 = (tI M_56 t 4).toInt := hs_57.2.2.2.1.1
      have lM_56_8 : g_55 8 = (tI M_56 t 5).toInt := hs_57.2.2.2.1.2.1
      refine lv_aload_n hx hb dX4_readMan_101 rfl (lv_at hl 0 rfl) ?_
      refine lv_aload_n hx hb dX4_readMan_102 rfl (lv_at hl 1 rfl) ?_
      refine lv_iconst (v := 0) hx hb dX4_readMan_103 (by decide) ?_
      refine lv_bipush (v := 9) hx hb dX4_readMan_104 (by decide) ?_
      refine ti_callViE (ci := 4) (av := [.int 0, .int 9]) C hE hw (x_X4_number l D A cy hJ M_56 iM_56 t ht 0 9 B n g_55 hs_57) ⟨ml_X4_56, ym_X4_number, yv_X4_number, yi_X4_number, yc_X4_number⟩ yd_X4_number ob_1 (by decide) rfl rfl hl.1 (Nat.le_of_ble_eq_true rfl) ⟨by decide, by decide⟩ ⟨Nat.zero_le _, Nat.zero_le _⟩ dX4_readMan_106 (fun r_58 M_59 H locs hp_59 hw => ?_)
      obtain ⟨iM_59, q_60, q_61, q_62, p0r_58, p1r_58⟩ := hp_59
      have hlr_58_0 : (0 : Int32).toInt = 0 := by decide
      have hlr_58_9 : (9 : Int32).toInt = 9 := by decide
      simp only [hlr_58_0, hlr_58_9] at p1r_58
      obtain ⟨g_63, eg_63⟩ : ∃ z : Nat → Int, z = pp_nb B n 0 9 g_55 := ⟨_, rfl⟩
      rw [← eg_63] at p1r_58
      have lg_63_0 : g_63 0 = (tI M_59 2 4).toInt := p1r_58.2.1.1
      have lg_63_1 : g_63 1 = (tI M_59 2 6).toInt := p1r_58.2.1.2.1
      have lg_63_4 : g_63 4 = (tI M_59 1 4).toInt := p1r_58.2.2.1.1
      have lg_63_7 : g_63 7 = (tI M_59 t 4).toInt := p1r_58.2.2.2.1.1
      have lg_63_8 : g_63 8 = (tI M_59 t 5).toInt := p1r_58.2.2.2.1.2.1
      refine ti_putI (ci := 2) (k := 2) (N := 10) (T := TX2) C hw iw_2 tyX2 tyX2_ok nmX2 rfl ob_10 (by decide) (by decide) fl_X4_117 rfl rfl rfl rfl (fn_2 A _) fs_2_2 dX4_readMan_109 (fun H locs hw => ?_)
      obtain ⟨M_64, hM_64⟩ : ∃ z : ti_M, z = uI M_59 (ti_men t x_1.toNatClampNeg) 2 r_58 := ⟨_, rfl⟩
      have hw := hw.to hM_64.symm
      have iM_64 : cI Tc M_64 := cI_uI iM_59 hM_64 ob_10.1 trivial
      have hs_65 := rC_m2x (j := x_1.toNatClampNeg) ht hM_64 p1r_58
      have lM_64_0 : g_63 0 = (tI M_64 2 4).toInt := hs_65.2.1.1
      have lM_64_1 : g_63 1 = (tI M_64 2 6).toInt := hs_65.2.1.2.1
      have lM_64_4 : g_63 4 = (tI M_64 1 4).toInt := hs_65.2.2.1.1
      have lM_64_7 : g_63 7 = (tI M_64 t 4).toInt := hs_65.2.2.2.1.1
      have lM_64_8 : g_63 8 = (tI M_64 t 5).toInt := hs_65.2.2.2.1.2.1
      refine lv_aload_n hx hb dX4_readMan_112 rfl (lv_at hl 0 rfl) ?_
      refine lv_aload_n hx hb dX4_readMan_113 rfl (lv_at hl 1 rfl) ?_
      refine lv_iconst (v := 1) hx hb dX4_readMan_114 (by decide) ?_
      refine lv_bipush (v := 99) hx hb dX4_readMan_115 (by decide) ?_
      refine ti_callViE (ci := 4) (av := [.int 1, .int 99]) C hE hw (x_X4_number l D A cy hJ M_64 iM_64 t ht 1 99 B n g_63 hs_65) ⟨ml_X4_56, ym_X4_number, yv_X4_number, yi_X4_number, yc_X4_number⟩ yd_X4_number ob_1 (by decide) rfl rfl hl.1 (Nat.le_of_ble_eq_true rfl) ⟨by decide, by decide⟩ ⟨Nat.zero_le _, Nat.zero_le _⟩ dX4_readMan_117 (fun r_66 M_67 H locs hp_67 hw => ?_)
      obtain ⟨iM_67, q_68, q_69, q_70, p0r_66, p1r_66⟩ := hp_67
      have hlr_66_1 : (1 : Int32).toInt = 1 := by decide
      have hlr_66_99 : (99 : Int32).toInt = 99 := by decide
      simp only [hlr_66_1, hlr_66_99] at p1r_66
      obtain ⟨g_71, eg_71⟩ : ∃ z : Nat → Int, z = pp_nb B n 1 99 g_63 := ⟨_, rfl⟩
      rw [← eg_71] at p1r_66
      have lg_71_0 : g_71 0 = (tI M_67 2 4).toInt := p1r_66.2.1.1
      have lg_71_1 : g_71 1 = (tI M_67 2 6).toInt := p1r_66.2.1.2.1
      have lg_71_4 : g_71 4 = (tI M_67 1 4).toInt := p1r_66.2.2.1.1
      have lg_71_7 : g_71 7 = (tI M_67 t 4).toInt := p1r_66.2.2.2.1.1
      have lg_71_8 : g_71 8 = (tI M_67 t 5).toInt := p1r_66.2.2.2.1.2.1
      refine ti_putI (ci := 2) (k := 3) (N := 10) (T := TX2) C hw iw_2 tyX2 tyX2_ok nmX2 rfl ob_10 (by decide) (by decide) fl_X4_120 rfl rfl rfl rfl (fn_2 A _) fs_2_3 dX4_readMan_120 (fun H locs hw => ?_)
      obtain ⟨M_72, hM_72⟩ : ∃ z : ti_M, z = uI M_67 (ti_men t x_1.toNatClampNeg) 3 r_66 := ⟨_, rfl⟩
      have hw := hw.to hM_72.symm
      have iM_72 : cI Tc M_72 := cI_uI iM_67 hM_72 ob_10.1 trivial
      have hs_73 := rC_m3x (j := x_1.toNatClampNeg) ht hM_72 p1r_66
      have lM_72_0 : g_71 0 = (tI M_72 2 4).toInt := hs_73.2.1.1
      have lM_72_1 : g_71 1 = (tI M_72 2 6).toInt := hs_73.2.1.2.1
      have lM_72_4 : g_71 4 = (tI M_72 1 4).toInt := hs_73.2.2.1.1
      have lM_72_7 : g_71 7 = (tI M_72 t 4).toInt := hs_73.2.2.2.1.1
      have lM_72_8 : g_71 8 = (tI M_72 t 5).toInt := hs_73.2.2.2.1.2.1
      refine lv_aload_n hx hb dX4_readMan_123 rfl (lv_at hl 0 rfl) ?_
      refine lv_aload_n hx hb dX4_readMan_124 rfl (lv_at hl 1 rfl) ?_
      refine lv_iconst (v := 1) hx hb dX4_readMan_125 (by decide) ?_
      refine lv_bipush (v := 30) hx hb dX4_readMan_126 (by decide) ?_
      refine ti_callViE (ci := 4) (av := [.int 1, .int 30]) C hE hw (x_X4_number l D A cy hJ M_72 iM_72 t ht 1 30 B n g_71 hs_73) ⟨ml_X4_56, ym_X4_number, yv_X4_number, yi_X4_number, yc_X4_number⟩ yd_X4_number ob_1 (by decide) rfl rfl hl.1 (Nat.le_of_ble_eq_true rfl) ⟨by decide, by decide⟩ ⟨Nat.zero_le _, Nat.zero_le _⟩ dX4_readMan_128 (fun r_74 M_75 H locs hp_75 hw => ?_)
      obtain ⟨iM_75, q_76, q_77, q_78, p0r_74, p1r_74⟩ := hp_75
      have hlr_74_1 : (1 : Int32).toInt = 1 := by decide
      have hlr_74_30 : (30 : Int32).toInt = 30 := by decide
      simp only [hlr_74_1, hlr_74_30] at p1r_74
      obtain ⟨g_79, eg_79⟩ : ∃ z : Nat → Int, z = pp_nb B n 1 30 g_71 := ⟨_, rfl⟩
      rw [← eg_79] at p1r_74
      have lg_79_0 : g_79 0 = (tI M_75 2 4).toInt := p1r_74.2.1.1
      have lg_79_1 : g_79 1 = (tI M_75 2 6).toInt := p1r_74.2.1.2.1
      have lg_79_4 : g_79 4 = (tI M_75 1 4).toInt := p1r_74.2.2.1.1
      have lg_79_7 : g_79 7 = (tI M_75 t 4).toInt := p1r_74.2.2.2.1.1
      have lg_79_8 : g_79 8 = (tI M_75 t 5).toInt := p1r_74.2.2.2.1.2.1
      refine ti_putI (ci := 2) (k := 4) (N := 10) (T := TX2) C hw iw_2 tyX2 tyX2_ok nmX2 rfl ob_10 (by decide) (by decide) fl_X4_123 rfl rfl rfl rfl (fn_2 A _) fs_2_4 dX4_readMan_131 (fun H locs hw => ?_)
      obtain ⟨M_80, hM_80⟩ : ∃ z : ti_M, z = uI M_75 (ti_men t x_1.toNatClampNeg) 4 r_74 := ⟨_, rfl⟩
      have hw := hw.to hM_80.symm
      have iM_80 : cI Tc M_80 := cI_uI iM_75 hM_80 ob_10.1 trivial
      have hs_81 := rC_m4x (j := x_1.toNatClampNeg) ht hM_80 p1r_74
      have lM_80_0 : g_79 0 = (tI M_80 2 4).toInt := hs_81.2.1.1
      have lM_80_1 : g_79 1 = (tI M_80 2 6).toInt := hs_81.2.1.2.1
      have lM_80_4 : g_79 4 = (tI M_80 1 4).toInt := hs_81.2.2.1.1
      have lM_80_7 : g_79 7 = (tI M_80 t 4).toInt := hs_81.2.2.2.1.1
      have lM_80_8 : g_79 8 = (tI M_80 t 5).toInt := hs_81.2.2.2.1.2.1
      refine lv_aload_n hx hb dX4_readMan_134 rfl (lv_at hl 0 rfl) ?_
      refine lv_aload_n hx hb dX4_readMan_135 rfl (lv_at hl 1 rfl) ?_
      refine lv_iconst (v := 0) hx hb dX4_readMan_136 (by decide) ?_
      refine lv_bipush (v := 99) hx hb dX4_readMan_137 (by decide) ?_
      refine ti_callViE (ci := 4) (av := [.int 0, .int 99]) C hE hw (x_X4_number l D A cy hJ M_80 iM_80 t ht 0 99 B n g_79 hs_81) ⟨ml_X4_56, ym_X4_number, yv_X4_number, yi_X4_number, yc_X4_number⟩ yd_X4_number ob_1 (by decide) rfl rfl hl.1 (Nat.le_of_ble_eq_true rfl) ⟨by decide, by decide⟩ ⟨Nat.zero_le _, Nat.zero_le _⟩ dX4_readMan_139 (fun r_82 M_83 H locs hp_83 hw => ?_)
      obtain ⟨iM_83, q_84, q_85, q_86, p0r_82, p1r_82⟩ := hp_83
      have hlr_82_0 : (0 : Int32).toInt = 0 := by decide
      have hlr_82_99 : (99 : Int32).toInt = 99 := by decide
      simp only [hlr_82_0, hlr_82_99] at p1r_82
      obtain ⟨g_87, eg_87⟩ : ∃ z : Nat → Int, z = pp_nb B n 0 99 g_79 := ⟨_, rfl⟩
      rw [← eg_87] at p1r_82
      have lg_87_0 : g_87 0 = (tI M_83 2 4).toInt := p1r_82.2.1.1
      have lg_87_1 : g_87 1 = (tI M_83 2 6).toInt := p1r_82.2.1.2.1
      have lg_87_4 : g_87 4 = (tI M_83 1 4).toInt := p1r_82.2.2.1.1
      have lg_87_7 : g_87 7 = (tI M_83 t 4).toInt := p1r_82.2.2.2.1.1
      have lg_87_8 : g_87 8 = (tI M_83 t 5).toInt := p1r_82.2.2.2.1.2.1
      refine ti_putI (ci := 2) (k := 5) (N := 10) (T := TX2) C hw iw_2 tyX2 tyX2_ok nmX2 rfl ob_10 (by decide) (by decide) fl_X4_126 rfl rfl rfl rfl (fn_2 A _) fs_2_5 dX4_readMan_142 (fun H locs hw => ?_)
      obtain ⟨M_88, hM_88⟩ : ∃ z : ti_M, z = uI M_83 (ti_men t x_1.toNatClampNeg) 5 r_82 := ⟨_, rfl⟩
      have hw := hw.to hM_88.symm
      have iM_88 : cI Tc M_88 := cI_uI iM_83 hM_88 ob_10.1 trivial
      have hs_89 := rC_m5x (j := x_1.toNatClampNeg) ht hM_88 p1r_82
      have lM_88_0 : g_87 0 = (tI M_88 2 4).toInt := hs_89.2.1.1
      have lM_88_1 : g_87 1 = (tI M_88 2 6).toInt := hs_89.2.1.2.1
      have lM_88_4 : g_87 4 = (tI M_88 1 4).toInt := hs_89.2.2.1.1
      have lM_88_7 : g_87 7 = (tI M_88 t 4).toInt := hs_89.2.2.2.1.1
      have lM_88_8 : g_87 8 = (tI M_88 t 5).toInt := hs_89.2.2.2.1.2.1
      refine lv_aload_n hx hb dX4_readMan_145 rfl (lv_at hl 0 rfl) ?_
      refine lv_aload_n hx hb dX4_readMan_146 rfl (lv_at hl 1 rfl) ?_
      refine lv_iconst (v := 0) hx hb dX4_readMan_147 (by decide) ?_
      refine lv_bipush (v := 99) hx hb dX4_readMan_148 (by decide) ?_
      refine ti_callViE (ci := 4) (av := [.int 0, .int 99]) C hE hw (x_X4_number l D A cy hJ M_88 iM_88 t ht 0 99 B n g_87 hs_89) ⟨ml_X4_56, ym_X4_number, yv_X4_number, yi_X4_number, yc_X4_number⟩ yd_X4_number ob_1 (by decide) rfl rfl hl.1 (Nat.le_of_ble_eq_true rfl) ⟨by decide, by decide⟩ ⟨Nat.zero_le _, Nat.zero_le _⟩ dX4_readMan_150 (fun r_90 M_91 H locs hp_91 hw => ?_)
      obtain ⟨iM_91, q_92, q_93, q_94, p0r_90, p1r_90⟩ := hp_91
      have hlr_90_0 : (0 : Int32).toInt = 0 := by decide
      have hlr_90_99 : (99 : Int32).toInt = 99 := by decide
      simp only [hlr_90_0, hlr_90_99] at p1r_90
      obtain ⟨g_95, eg_95⟩ : ∃ z : Nat → Int, z = pp_nb B n 0 99 g_87 := ⟨_, rfl⟩
      rw [← eg_95] at p1r_90
      have lg_95_0 : g_95 0 = (tI M_91 2 4).toInt := p1r_90.2.1.1
      have lg_95_1 : g_95 1 = (tI M_91 2 6).toInt := p1r_90.2.1.2.1
      have lg_95_4 : g_95 4 = (tI M_91 1 4).toInt := p1r_90.2.2.1.1
      have lg_95_7 : g_95 7 = (tI M_91 t 4).toInt := p1r_90.2.2.2.1.1
      have lg_95_8 : g_95 8 = (tI M_91 t 5).toInt := p1r_90.2.2.2.1.2.1
      refine ti_putI (ci := 2) (k := 6) (N := 10) (T := TX2) C hw iw_2 tyX2 tyX2_ok nmX2 rfl ob_10 (by decide) (by decide) fl_X4_129 rfl rfl rfl rfl (fn_2 A _) fs_2_6 dX4_readMan_153 (fun H locs hw => ?_)
      obtain ⟨M_96, hM_96⟩ : ∃ z : ti_M, z = uI M_91 (ti_men t x_1.toNatClampNeg) 6 r_90 := ⟨_, rfl⟩
      have hw := hw.to hM_96.symm
      have iM_96 : cI Tc M_96 := cI_uI iM_91 hM_96 ob_10.1 trivial
      have hs_97 := rC_m6x (j := x_1.toNatClampNeg) ht hM_96 p1r_90
      have lM_96_0 : g_95 0 = (tI M_96 2 4).toInt := hs_97.2.1.1
      have lM_96_1 : g_95 1 = (tI M_96 2 6).toInt := hs_97.2.1.2.1
      have lM_96_4 : g_95 4 = (tI M_96 1 4).toInt := hs_97.2.2.1.1
      have lM_96_7 : g_95 7 = (tI M_96 t 4).toInt := hs_97.2.2.2.1.1
      have lM_96_8 : g_95 8 = (tI M_96 t 5).toInt := hs_97.2.2.2.1.2.1
      refine lv_aload_n hx hb dX4_readMan_156 rfl (lv_at hl 0 rfl) ?_
      refine lv_aload_n hx hb dX4_readMan_157 rfl (lv_at hl 1 rfl) ?_
      refine lv_iconst (v := 0) hx hb dX4_readMan_158 (by decide) ?_
      refine lv_bipush (v := 59) hx hb dX4_readMan_159 (by decide) ?_
      refine ti_callViE (ci := 4) (av := [.int 0, .int 59]) C hE hw (x_X4_number l D A cy hJ M_96 iM_96 t ht 0 59 B n g_95 hs_97) ⟨ml_X4_56, ym_X4_number, yv_X4_number, yi_X4_number, yc_X4_number⟩ yd_X4_number ob_1 (by decide) rfl rfl hl.1 (Nat.le_of_ble_eq_true rfl) ⟨by decide, by decide⟩ ⟨Nat.zero_le _, Nat.zero_le _⟩ dX4_readMan_161 (fun r_98 M_99 H locs hp_99 hw => ?_)
      obtain ⟨iM_99, q_100, q_101, q_102, p0r_98, p1r_98⟩ := hp_99
      have hlr_98_0 : (0 : Int32).toInt = 0 := by decide
      have hlr_98_59 : (59 : Int32).toInt = 59 := by decide
      simp only [hlr_98_0, hlr_98_59] at p1r_98
      obtain ⟨g_103, eg_103⟩ : ∃ z : Nat → Int, z = pp_nb B n 0 59 g_95 := ⟨_, rfl⟩
      rw [← eg_103] at p1r_98
      have lg_103_0 : g_103 0 = (tI M_99 2 4).toInt := p1r_98.2.1.1
      have lg_103_1 : g_103 1 = (tI M_99 2 6).toInt := p1r_98.2.1.2.1
      have lg_103_4 : g_103 4 = (tI M_99 1 4).toInt := p1r_98.2.2.1.1
      have lg_103_7 : g_103 7 = (tI M_99 t 4).toInt := p1r_98.2.2.2.1.1
      have lg_103_8 : g_103 8 = (tI M_99 t 5).toInt := p1r_98.2.2.2.1.2.1
      refine ti_putI (ci := 2) (k := 7) (N := 10) (T := TX2) C hw iw_2 tyX2 tyX2_ok nmX2 rfl ob_10 (by decide) (by decide) fl_X4_132 rfl rfl rfl rfl (fn_2 A _) fs_2_7 dX4_readMan_164 (fun H locs hw => ?_)
      obtain ⟨M_104, hM_104⟩ : ∃ z : ti_M, z = uI M_99 (ti_men t x_1.toNatClampNeg) 7 r_98 := ⟨_, rfl⟩
      have hw := hw.to hM_104.symm
      have iM_104 : cI Tc M_104 := cI_uI iM_99 hM_104 ob_10.1 trivial
      have hs_105 := rC_m7x (j := x_1.toNatClampNeg) ht hM_104 p1r_98
      have lM_104_0 : g_103 0 = (tI M_104 2 4).toInt := hs_105.2.1.1
      have lM_104_1 : g_103 1 = (tI M_104 2 6).toInt := hs_105.2.1.2.1
      have lM_104_4 : g_103 4 = (tI M_104 1 4).toInt := hs_105.2.2.1.1
      have lM_104_7 : g_103 7 = (tI M_104 t 4).toInt := hs_105.2.2.2.1.1
      have lM_104_8 : g_103 8 = (tI M_104 t 5).toInt := hs_105.2.2.2.1.2.1
      refine lv_aload_n hx hb dX4_readMan_167 rfl (lv_at hl 0 rfl) ?_
      refine lv_aload_n hx hb dX4_readMan_168 rfl (lv_at hl 1 rfl) ?_
      refine ti_get (ci := 4) (k := 0) (N := 6) (T := TX4) (v := .ref (A 2 0)) C hw iw_4 rfl ob_1 (by decide) (by decide) fl_X4_12 rfl rfl dX4_readMan_169 ?_
      refine ti_get (ci := 7) (k := 4) (N := 7) (T := TX7) C hw iw_7 rfl ob_2 (by decide) (by decide) fl_X4_41 rfl rfl dX4_readMan_172 ?_
      refine lv_topi (fun x_106 ex_106 => ?_)
      have bx_106 : 0 ≤ x_106.toInt ∧ x_106.toInt ≤ 41 := cI_rd iM_104 ob_2.1 ex_106
      have ux_106 : (tI M_104 2 4).toInt = x_106.toInt := by rw [ex_106]
      refine lv_bipush (v := 15) hx hb dX4_readMan_175 (by decide) ?_
      refine sb_icmp_ne (tgt := 184) hx hb rfl (by decide : (15 : Int32).toInt = 15) dX4_readMan_177 (by decide) (fun c_177_106 => ?_) (fun c_177_106 => ?_)
      · refine lv_iconst (v := 0) hx hb dX4_readMan_184 (by decide) ?_
        refine ti_putI (ci := 2) (k := 8) (N := 10) (T := TX2) C hw iw_2 tyX2 tyX2_ok nmX2 rfl ob_10 (by decide) (by decide) fl_X4_135 rfl rfl rfl rfl (fn_2 A _) fs_2_8 dX4_readMan_185 (fun H locs hw => ?_)
        obtain ⟨M_111, hM_111⟩ : ∃ z : ti_M, z = uI M_104 (ti_men t x_1.toNatClampNeg) 8 0 := ⟨_, rfl⟩
        have hw := hw.to hM_111.symm
        have iM_111 : cI Tc M_111 := cI_uI iM_104 hM_111 ob_10.1 trivial
        have hs_112 := rC_m8x (j := x_1.toNatClampNeg) ht hM_111 hs_105
        have lM_111_0 : g_103 0 = (tI M_111 2 4).toInt := hs_112.2.1.1
        have lM_111_1 : g_103 1 = (tI M_111 2 6).toInt := hs_112.2.1.2.1
        have lM_111_4 : g_103 4 = (tI M_111 1 4).toInt := hs_112.2.2.1.1
        have lM_111_7 : g_103 7 = (tI M_111 t 4).toInt := hs_112.2.2.2.1.1
        have lM_111_8 : g_103 8 = (tI M_111 t 5).toInt := hs_112.2.2.2.1.2.1
        refine lv_aload_n hx hb dX4_readMan_188 rfl (lv_at hl 0 rfl) ?_
        refine ti_get (ci := 2) (k := 8) (N := 10) (T := TX2) C hw iw_2 rfl ob_10 (by decide) (by decide) fl_X4_135 rfl rfl dX4_readMan_189 ?_
        refine ti_top (y := 0) (tI_uE hM_111) ?_
        refine sb_if_eq (tgt := 202) hx hb (by decide : (0 : Int32).toInt = 0) dX4_readMan_192 (by decide) (fun c_192_112 => ?_) (fun h => absurd h (by decide))
        refine lv_aload_n hx hb dX4_readMan_202 rfl (lv_at hl 0 rfl) ?_
        refine lv_iconst (v := (-1)) hx hb dX4_readMan_203 (by decide) ?_
        refine ti_putI (ci := 2) (k := 9) (N := 10) (T := TX2) C hw iw_2 tyX2 tyX2_ok nmX2 rfl ob_10 (by decide) (by decide) fl_X4_139 rfl rfl rfl rfl (fn_2 A _) fs_2_9 dX4_readMan_204 (fun H locs hw => ?_)
        obtain ⟨M_122, hM_122⟩ : ∃ z : ti_M, z = uI M_111 (ti_men t x_1.toNatClampNeg) 9 (-1) := ⟨_, rfl⟩
        have hw := hw.to hM_122.symm
        have iM_122 : cI Tc M_122 := cI_uI iM_111 hM_122 ob_10.1 trivial
        have hs_123 := rC_m9 (j := x_1.toNatClampNeg) ht (i_nt (x := x_1) rfl (by omega) (by omega)) hM_122 hs_112
        rw [show ((-1) : Int32).toInt = (-1) by decide] at hs_123
        obtain ⟨g_124, eg_124⟩ : ∃ z : Nat → Int, z = pp_su g_103 (200 + x_1.toNatClampNeg) (-1) := ⟨_, rfl⟩
        rw [← eg_124] at hs_123
        have lg_124_0 : g_124 0 = (tI M_122 2 4).toInt := hs_123.2.1.1
        have lg_124_1 : g_124 1 = (tI M_122 2 6).toInt := hs_123.2.1.2.1
        have lg_124_4 : g_124 4 = (tI M_122 1 4).toInt := hs_123.2.2.1.1
        have lg_124_7 : g_124 7 = (tI M_122 t 4).toInt := hs_123.2.2.2.1.1
        have lg_124_8 : g_124 8 = (tI M_122 t 5).toInt := hs_123.2.2.2.1.2.1
        refine lv_aload_n hx hb dX4_readMan_207 rfl (lv_at hl 1 rfl) ?_
        refine ti_get (ci := 4) (k := 1) (N := 6) (T := TX4) (v := .ref (A t 0)) C hw iw_4 rfl ob_1 (by decide) (by decide) fl_X4_28 rfl (ti_Tv ((tT_uIE hM_122).trans ((tT_uIE hM_111).trans ((tT_uIE hM_104).trans ((tT_fr q_100).trans ((tT_uIE hM_96).trans ((tT_fr q_92).trans ((tT_uIE hM_88).trans ((tT_fr q_84).trans ((tT_uIE hM_80).trans ((tT_fr q_76).trans ((tT_uIE hM_72).trans ((tT_fr q_68).trans ((tT_uIE hM_64).trans ((tT_fr q_60).trans ((tT_uIE hM_56).trans ((tT_fr q_52).trans ((tT_fr q_46).trans f_40)))))))))))))))))) dX4_readMan_208 ?_
        refine lv_dup hx hb dX4_readMan_211 rfl ?_
        refine ti_get (ci := 8) (k := 4) (N := 12) (T := TX8) C hw iw_8 rfl (ob_t ht) (by decide) (by decide) fl_X4_98 rfl rfl dX4_readMan_212 ?_
        refine ti_top (y := x_1) ((tI_nE hM_122 (nk (by decide))).trans ((tI_nE hM_111 (nk (by decide))).trans ((tI_nE hM_104 (nk (by decide))).trans ((q_101 t 4 (cls_ne (ob_t ht).1 ob_1.1 (by decide)) (cls_ne (ob_t ht).1 ob_2.1 (by decide))).trans ((tI_nE hM_96 (nk (by decide))).trans ((q_93 t 4 (cls_ne (ob_t ht).1 ob_1.1 (by decide)) (cls_ne (ob_t ht).1 ob_2.1 (by decide))).trans ((tI_nE hM_88 (nk (by decide))).trans ((q_85 t 4 (cls_ne (ob_t ht).1 ob_1.1 (by decide)) (cls_ne (ob_t ht).1 ob_2.1 (by decide))).trans ((tI_nE hM_80 (no (cls_ne (ob_t ht).1 ob_10.1 (by decide)))).trans ((q_77 t 4 (cls_ne (ob_t ht).1 ob_1.1 (by decide)) (cls_ne (ob_t ht).1 ob_2.1 (by decide))).trans ((tI_nE hM_72 (nk (by decide))).trans ((q_69 t 4 (cls_ne (ob_t ht).1 ob_1.1 (by decide)) (cls_ne (ob_t ht).1 ob_2.1 (by decide))).trans ((tI_nE hM_64 (nk (by decide))).trans ((q_61 t 4 (cls_ne (ob_t ht).1 ob_1.1 (by decide)) (cls_ne (ob_t ht).1 ob_2.1 (by decide))).trans ((tI_nE hM_56 (nk (by decide))).trans ((q_53 t 4 (cls_ne (ob_t ht).1 ob_1.1 (by decide)) (cls_ne (ob_t ht).1 ob_2.1 (by decide))).trans ((q_47 t 4 (cls_ne (ob_t ht).1 ob_1.1 (by decide)) (cls_ne (ob_t ht).1 ob_2.1 (by decide))).trans f_39))))))))))))))))) ?_
        have u_125 : (tI M_122 t 4).toInt = (x_1 : Int32).toInt := by rw [((tI_nE hM_122 (nk (by decide))).trans ((tI_nE hM_111 (nk (by decide))).trans ((tI_nE hM_104 (nk (by decide))).trans ((q_101 t 4 (cls_ne (ob_t ht).1 ob_1.1 (by decide)) (cls_ne (ob_t ht).1 ob_2.1 (by decide))).trans ((tI_nE hM_96 (nk (by decide))).trans ((q_93 t 4 (cls_ne (ob_t ht).1 ob_1.1 (by decide)) (cls_ne (ob_t ht).1 ob_2.1 (by decide))).trans ((tI_nE hM_88 (nk (by decide))).trans ((q_85 t 4 (cls_ne (ob_t ht).1 ob_1.1 (by decide)) (cls_ne (ob_t ht).1 ob_2.1 (by decide))).trans ((tI_nE hM_80 (no (cls_ne (ob_t ht).1 ob_10.1 (by decide)))).trans ((q_77 t 4 (cls_ne (ob_t ht).1 ob_1.1 (by decide)) (cls_ne (ob_t ht).1 ob_2.1 (by decide))).trans ((tI_nE hM_72 (nk (by decide))).trans ((q_69 t 4 (cls_ne (ob_t ht).1 ob_1.1 (by decide)) (cls_ne (ob_t ht).1 ob_2.1 (by decide))).trans ((tI_nE hM_64 (nk (by decide))).trans ((q_61 t 4 (cls_ne (ob_t ht).1 ob_1.1 (by decide)) (cls_ne (ob_t ht).1 ob_2.1 (by decide))).trans ((tI_nE hM_56 (nk (by decide))).trans ((q_53 t 4 (cls_ne (ob_t ht).1 ob_1.1 (by decide)) (cls_ne (ob_t ht).1 ob_2.1 (by decide))).trans ((q_47 t 4 (cls_ne (ob_t ht).1 ob_1.1 (by decide)) (cls_ne (ob_t ht).1 ob_2.1 (by decide))).trans f_39)))))))))))))))))]
        refine lv_iconst (v := 1) hx hb dX4_readMan_215 (by decide) ?_
        refine lv_iadd hx hb dX4_readMan_216 ?_
        refine lv_topi (fun x_126 ex_126 => ?_)
        have lox_126x_1 := x_1.le_toInt
        have hix_126x_1 := x_1.toInt_lt
        have tx_126 : x_126.toInt = x_1.toInt + 1 := i_add ex_126 rfl (by decide : (1 : Int32).toInt = 1) (by omega) (by omega)
        refine ti_putI (ci := 8) (k := 4) (N := 12) (T := TX8) C hw iw_8 tyX8 tyX8_ok nmX8 rfl (ob_t ht) (by decide) (by decide) fl_X4_98 rfl rfl rfl rfl (fn_8 A _) fs_8_4 dX4_readMan_217 (fun H locs hw => ?_)
        obtain ⟨M_127, hM_127⟩ : ∃ z : ti_M, z = uI M_122 t 4 x_126 := ⟨_, rfl⟩
        have hw := hw.to hM_127.symm
        have iM_127 : cI Tc M_127 := cI_uI iM_122 hM_127 (ob_t ht).1 (ib_mk (lo := 0) (hi := 8) (by omega) (by omega))
        have vM_127 : (tI M_127 t 4).toInt = (x_126 : Int32).toInt := by rw [tI_uE hM_127]
        have hs_128 := rC_t4 ht hM_127 hs_123
        obtain ⟨g_129, eg_129⟩ : ∃ z : Nat → Int, z = pp_su g_124 7 x_126.toInt := ⟨_, rfl⟩
        rw [← eg_129] at hs_128
        have lg_129_0 : g_129 0 = (tI M_127 2 4).toInt := hs_128.2.1.1
        have lg_129_1 : g_129 1 = (tI M_127 2 6).toInt := hs_128.2.1.2.1
        have lg_129_4 : g_129 4 = (tI M_127 1 4).toInt := hs_128.2.2.1.1
        have lg_129_7 : g_129 7 = (tI M_127 t 4).toInt := hs_128.2.2.2.1.1
        have lg_129_8 : g_129 8 = (tI M_127 t 5).toInt := hs_128.2.2.2.1.2.1
        have h47 : g_103 7 = x_1.toInt := by rw [hs_112.2.2.2.1.1, ((tI_nE hM_111 (nk (by decide))).trans ((tI_nE hM_104 (nk (by decide))).trans ((q_101 t 4 (cls_ne (ob_t ht).1 ob_1.1 (by decide)) (cls_ne (ob_t ht).1 ob_2.1 (by decide))).trans ((tI_nE hM_96 (nk (by decide))).trans ((q_93 t 4 (cls_ne (ob_t ht).1 ob_1.1 (by decide)) (cls_ne (ob_t ht).1 ob_2.1 (by decide))).trans ((tI_nE hM_88 (nk (by decide))).trans ((q_85 t 4 (cls_ne (ob_t ht).1 ob_1.1 (by decide)) (cls_ne (ob_t ht).1 ob_2.1 (by decide))).trans ((tI_nE hM_80 (no (cls_ne (ob_t ht).1 ob_10.1 (by decide)))).trans ((q_77 t 4 (cls_ne (ob_t ht).1 ob_1.1 (by decide)) (cls_ne (ob_t ht).1 ob_2.1 (by decide))).trans ((tI_nE hM_72 (nk (by decide))).trans ((q_69 t 4 (cls_ne (ob_t ht).1 ob_1.1 (by decide)) (cls_ne (ob_t ht).1 ob_2.1 (by decide))).trans ((tI_nE hM_64 (nk (by decide))).trans ((q_61 t 4 (cls_ne (ob_t ht).1 ob_1.1 (by decide)) (cls_ne (ob_t ht).1 ob_2.1 (by decide))).trans ((tI_nE hM_56 (nk (by decide))).trans ((q_53 t 4 (cls_ne (ob_t ht).1 ob_1.1 (by decide)) (cls_ne (ob_t ht).1 ob_2.1 (by decide))).trans ((q_47 t 4 (cls_ne (ob_t ht).1 ob_1.1 (by decide)) (cls_ne (ob_t ht).1 ob_2.1 (by decide))).trans f_39))))))))))))))))]
        have E1 : pp_m1 B n rg = g_22 := by unfold pp_m1; rw [← eg_18, show (rg 7).toNat = x_1.toNatClampNeg by (show (rg 7).toNat = x_1.toInt.toNat; omega), show g_18 1 = x_19.toInt by omega, ← eg_22]
        have E3 : pp_m3 B n g_41 = g_103 := by unfold pp_m3; rw [← eg_49, ← eg_55, ← eg_63, ← eg_71, ← eg_79, ← eg_87, ← eg_95, ← eg_103]
        have E4 : pp_m4 B n g_103 = g_103 := by unfold pp_m4; rw [if_neg (by omega)]
        have E5 : pp_m5 g_103 = g_129 := by unfold pp_m5; rw [show (g_103 7).toNat = x_1.toNatClampNeg by (show (g_103 7).toNat = x_1.toInt.toNat; omega), show g_103 7 + 1 = x_126.toInt by omega, ← eg_124, ← eg_129]
        exact hQ _ _ _ _ _ hw (⟨iM_127, ((rf_I hM_127).trans ((rf_I hM_122).trans ((rf_I hM_111).trans ((rf_I hM_104).trans ((q_100).trans ((rf_I hM_96).trans ((q_92).trans ((rf_I hM_88).trans ((q_84).trans ((rf_I hM_80).trans ((q_76).trans ((rf_I hM_72).trans ((q_68).trans ((rf_I hM_64).trans ((q_60).trans ((rf_I hM_56).trans ((q_52).trans ((q_46).trans f_35)))))))))))))))))), (f0.trans (f0_I hM_127 (f0n (ob_t ht).1 (by decide))) (f0.trans (f0_I hM_122 (f0n ob_10.1 (by decide))) (f0.trans (f0_I hM_111 (f0n ob_10.1 (by decide))) (f0.trans (f0_I hM_104 (f0n ob_10.1 (by decide))) (f0.trans (f0_12 q_101) (f0.trans (f0_I hM_96 (f0n ob_10.1 (by decide))) (f0.trans (f0_12 q_93) (f0.trans (f0_I hM_88 (f0n ob_10.1 (by decide))) (f0.trans (f0_12 q_85) (f0.trans (f0_I hM_80 (f0n ob_10.1 (by decide))) (f0.trans (f0_12 q_77) (f0.trans (f0_I hM_72 (f0n ob_10.1 (by decide))) (f0.trans (f0_12 q_69) (f0.trans (f0_I hM_64 (f0n ob_10.1 (by decide))) (f0.trans (f0_12 q_61) (f0.trans (f0_I hM_56 (f0n ob_10.1 (by decide))) (f0.trans (f0_12 q_53) (f0.trans (f0_12 q_47) f_36)))))))))))))))))), ((tI_nE hM_127 (nk (by decide))).trans ((tI_nE hM_122 (nk (by decide))).trans ((tI_nE hM_111 (nk (by decide))).trans ((tI_nE hM_104 (nk (by decide))).trans ((q_102).trans ((tI_nE hM_96 (nk (by decide))).trans ((q_94).trans ((tI_nE hM_88 (nk (by decide))).trans ((q_86).trans ((tI_nE hM_80 (nk (by decide))).trans ((q_78).trans ((tI_nE hM_72 (nk (by decide))).trans ((q_70).trans ((tI_nE hM_64 (nk (by decide))).trans ((q_62).trans ((tI_nE hM_56 (no (cls_ne ob_2.1 ob_10.1 (by decide)))).trans ((q_54).trans ((q_48).trans f_37)))))))))))))))))), (ot.trans (ot_I ht hM_127 (by omega)) (ot.trans (ot_m ht (i_nt (x := x_1) rfl (by omega) (by omega)) hM_122) (ot.trans (ot_m ht (i_nt (x := x_1) rfl (by omega) (by omega)) hM_111) (ot.trans (ot_m ht (i_nt (x := x_1) rfl (by omega) (by omega)) hM_104) (ot.trans (ot_12 ht q_101) (ot.trans (ot_m ht (i_nt (x := x_1) rfl (by omega) (by omega)) hM_96) (ot.trans (ot_12 ht q_93) (ot.trans (ot_m ht (i_nt (x := x_1) rfl (by omega) (by omega)) hM_88) (ot.trans (ot_12 ht q_85) (ot.trans (ot_m ht (i_nt (x := x_1) rfl (by omega) (by omega)) hM_80) (ot.trans (ot_12 ht q_77) (ot.trans (ot_m ht (i_nt (x := x_1) rfl (by omega) (by omega)) hM_72) (ot.trans (ot_12 ht q_69) (ot.trans (ot_m ht (i_nt (x := x_1) rfl (by omega) (by omega)) hM_64) (ot.trans (ot_12 ht q_61) (ot.trans (ot_m ht (i_nt (x := x_1) rfl (by omega) (by omega)) hM_56) (ot.trans (ot_12 ht q_53) (ot.trans (ot_12 ht q_47) f_38)))))))))))))))))), (by unfold pp_mn; rw [if_pos (by omega), E1, j_43, E3, E4, E5]; exact hs_128)⟩) dX4_readMan_220
      · refine lv_iconst (v := 1) hx hb dX4_readMan_180 (by decide) ?_
        refine lv_goto (tgt := 185) hx hb dX4_readMan_181 (by decide) ?_
        refine ti_putI (ci := 2) (k := 8) (N := 10) (T := TX2) C hw iw_2 tyX2 tyX2_ok nmX2 rfl ob_10 (by decide) (by decide) fl_X4_135 rfl rfl rfl rfl (fn_2 A _) fs_2_8 dX4_readMan_185 (fun H locs hw => ?_)
        obtain ⟨M_108, hM_108⟩ : ∃ z : ti_M, z = uI M_104 (ti_men t x_1.toNatClampNeg) 8 1 := ⟨_, rfl⟩
        have hw := hw.to hM_108.symm
        have iM_108 : cI Tc M_108 := cI_uI iM_104 hM_108 ob_10.1 trivial
        have hs_109 := rC_m8x (j := x_1.toNatClampNeg) ht hM_108 hs_105
        have lM_108_0 : g_103 0 = (tI M_108 2 4).toInt := hs_109.2.1.1
        have lM_108_1 : g_103 1 = (tI M_108 2 6).toInt := hs_109.2.1.2.1
        have lM_108_4 : g_103 4 = (tI M_108 1 4).toInt := hs_109.2.2.1.1
        have lM_108_7 : g_103 7 = (tI M_108 t 4).toInt := hs_109.2.2.2.1.1
        have lM_108_8 : g_103 8 = (tI M_108 t 5).toInt := hs_109.2.2.2.1.2.1
        refine lv_aload_n hx hb dX4_readMan_188 rfl (lv_at hl 0 rfl) ?_
        refine ti_get (ci := 2) (k := 8) (N := 10) (T := TX2) C hw iw_2 rfl ob_10 (by decide) (by decide) fl_X4_135 rfl rfl dX4_readMan_189 ?_
        refine ti_top (y := 1) (tI_uE hM_108) ?_
        refine sb_if_eq (tgt := 202) hx hb (by decide : (1 : Int32).toInt = 1) dX4_readMan_192 (by decide) (fun h => absurd h (by decide)) (fun c_192_109 => ?_)
        refine lv_aload_n hx hb dX4_readMan_195 rfl (lv_at hl 1 rfl) ?_
        refine ti_get (ci := 4) (k := 0) (N := 6) (T := TX4) (v := .ref (A 2 0)) C hw iw_4 rfl ob_1 (by decide) (by decide) fl_X4_12 rfl rfl dX4_readMan_196 ?_
        refine ti_callVvE (ci := 7) (av := []) C hE hw (x_X7_advance l D A cy hJ M_108 iM_108 ) ⟨ml_X4_92, ym_X7_advance, yv_X7_advance, yi_X7_advance, yc_X7_advance⟩ yd_X7_advance ob_2 (by decide) rfl rfl hl.1 (Nat.le_of_ble_eq_true rfl) ⟨by decide, by decide⟩ ⟨Nat.zero_le _, Nat.zero_le _⟩ dX4_readMan_199 (fun M_115 H locs hp_115 hw => ?_)
        obtain ⟨iM_115, q_116, q_117, q_118, q_119, p0r_114, p1r_114, p2r_114, p3r_114⟩ := hp_115
        have hs_120 := rC_av ht hs_109 q_119 q_117 p0r_114 p1r_114 p2r_114 p3r_114
        obtain ⟨g_121, eg_121⟩ : ∃ z : Nat → Int, z = pp_av B n g_103 := ⟨_, rfl⟩
        rw [← eg_121] at hs_120
        have lg_121_0 : g_121 0 = (tI M_115 2 4).toInt := hs_120.2.1.1
        have lg_121_1 : g_121 1 = (tI M_115 2 6).toInt := hs_120.2.1.2.1
        have lg_121_4 : g_121 4 = (tI M_115 1 4).toInt := hs_120.2.2.1.1
        have lg_121_7 : g_121 7 = (tI M_115 t 4).toInt := hs_120.2.2.2.1.1
        have lg_121_8 : g_121 8 = (tI M_115 t 5).toInt := hs_120.2.2.2.1.2.1
        refine lv_aload_n hx hb dX4_readMan_202 rfl (lv_at hl 0 rfl) ?_
        refine lv_iconst (v := (-1)) hx hb dX4_readMan_203 (by decide) ?_
        refine ti_putI (ci := 2) (k := 9) (N := 10) (T := TX2) C hw iw_2 tyX2 tyX2_ok nmX2 rfl ob_10 (by decide) (by decide) fl_X4_139 rfl rfl rfl rfl (fn_2 A _) fs_2_9 dX4_readMan_204 (fun H locs hw => ?_)
        obtain ⟨M_130, hM_130⟩ : ∃ z : ti_M, z = uI M_115 (ti_men t x_1.toNatClampNeg) 9 (-1) := ⟨_, rfl⟩
        have hw := hw.to hM_130.symm
        have iM_130 : cI Tc M_130 := cI_uI iM_115 hM_130 ob_10.1 trivial
        have hs_131 := rC_m9 (j := x_1.toNatClampNeg) ht (i_nt (x := x_1) rfl (by omega) (by omega)) hM_130 hs_120
        rw [show ((-1) : Int32).toInt = (-1) by decide] at hs_131
        obtain ⟨g_132, eg_132⟩ : ∃ z : Nat → Int, z = pp_su g_121 (200 + x_1.toNatClampNeg) (-1) := ⟨_, rfl⟩
        rw [← eg_132] at hs_131
        have lg_132_0 : g_132 0 = (tI M_130 2 4).toInt := hs_131.2.1.1
        have lg_132_1 : g_132 1 = (tI M_130 2 6).toInt := hs_131.2.1.2.1
        have lg_132_4 : g_132 4 = (tI M_130 1 4).toInt := hs_131.2.2.1.1
        have lg_132_7 : g_132 7 = (tI M_130 t 4).toInt := hs_131.2.2.2.1.1
        have lg_132_8 : g_132 8 = (tI M_130 t 5).toInt := hs_131.2.2.2.1.2.1
        refine lv_aload_n hx hb dX4_readMan_207 rfl (lv_at hl 1 rfl) ?_
        refine ti_get (ci := 4) (k := 1) (N := 6) (T := TX4) (v := .ref (A t 0)) C hw iw_4 rfl ob_1 (by decide) (by decide) fl_X4_28 rfl (ti_Tv ((tT_uIE hM_130).trans ((tT_fr q_116).trans ((tT_uIE hM_108).trans ((tT_uIE hM_104).trans ((tT_fr q_100).trans ((tT_uIE hM_96).trans ((tT_fr q_92).trans ((tT_uIE hM_88).trans ((tT_fr q_84).trans ((tT_uIE hM_80).trans ((tT_fr q_76).trans ((tT_uIE hM_72).trans ((tT_fr q_68).trans ((tT_uIE hM_64).trans ((tT_fr q_60).trans ((tT_uIE hM_56).trans ((tT_fr q_52).trans ((tT_fr q_46).trans f_40))))))))))))))))))) dX4_readMan_208 ?_
        refine lv_dup hx hb dX4_readMan_211 rfl ?_
        refine ti_get (ci := 8) (k := 4) (N := 12) (T := TX8) C hw iw_8 rfl (ob_t ht) (by decide) (by decide) fl_X4_98 rfl rfl dX4_readMan_212 ?_
        refine ti_top (y := x_1) ((tI_nE hM_130 (nk (by decide))).trans (((o2_12 q_117) t 4 (cls_ne (ob_t ht).1 ob_1.1 (by decide)) (cls_ne (ob_t ht).1 ob_2.1 (by decide))).trans ((tI_nE hM_108 (nk (by decide))).trans ((tI_nE hM_104 (nk (by decide))).trans ((q_101 t 4 (cls_ne (ob_t ht).1 ob_1.1 (by decide)) (cls_ne (ob_t ht).1 ob_2.1 (by decide))).trans ((tI_nE hM_96 (nk (by decide))).trans ((q_93 t 4 (cls_ne (ob_t ht).1 ob_1.1 (by decide)) (cls_ne (ob_t ht).1 ob_2.1 (by decide))).trans ((tI_nE hM_88 (nk (by decide))).trans ((q_85 t 4 (cls_ne (ob_t ht).1 ob_1.1 (by decide)) (cls_ne (ob_t ht).1 ob_2.1 (by decide))).trans ((tI_nE hM_80 (no (cls_ne (ob_t ht).1 ob_10.1 (by decide)))).trans ((q_77 t 4 (cls_ne (ob_t ht).1 ob_1.1 (by decide)) (cls_ne (ob_t ht).1 ob_2.1 (by decide))).trans ((tI_nE hM_72 (nk (by decide))).trans ((q_69 t 4 (cls_ne (ob_t ht).1 ob_1.1 (by decide)) (cls_ne (ob_t ht).1 ob_2.1 (by decide))).trans ((tI_nE hM_64 (nk (by decide))).trans ((q_61 t 4 (cls_ne (ob_t ht).1 ob_1.1 (by decide)) (cls_ne (ob_t ht).1 ob_2.1 (by decide))).trans ((tI_nE hM_56 (nk (by decide))).trans ((q_53 t 4 (cls_ne (ob_t ht).1 ob_1.1 (by decide)) (cls_ne (ob_t ht).1 ob_2.1 (by decide))).trans ((q_47 t 4 (cls_ne (ob_t ht).1 ob_1.1 (by decide)) (cls_ne (ob_t ht).1 ob_2.1 (by decide))).trans f_39)))))))))))))))))) ?_
        have u_133 : (tI M_130 t 4).toInt = (x_1 : Int32).toInt := by rw [((tI_nE hM_130 (nk (by decide))).trans (((o2_12 q_117) t 4 (cls_ne (ob_t ht).1 ob_1.1 (by decide)) (cls_ne (ob_t ht).1 ob_2.1 (by decide))).trans ((tI_nE hM_108 (nk (by decide))).trans ((tI_nE hM_104 (nk (by decide))).trans ((q_101 t 4 (cls_ne (ob_t ht).1 ob_1.1 (by decide)) (cls_ne (ob_t ht).1 ob_2.1 (by decide))).trans ((tI_nE hM_96 (nk (by decide))).trans ((q_93 t 4 (cls_ne (ob_t ht).1 ob_1.1 (by decide)) (cls_ne (ob_t ht).1 ob_2.1 (by decide))).trans ((tI_nE hM_88 (nk (by decide))).trans ((q_85 t 4 (cls_ne (ob_t ht).1 ob_1.1 (by decide)) (cls_ne (ob_t ht).1 ob_2.1 (by decide))).trans ((tI_nE hM_80 (no (cls_ne (ob_t ht).1 ob_10.1 (by decide)))).trans ((q_77 t 4 (cls_ne (ob_t ht).1 ob_1.1 (by decide)) (cls_ne (ob_t ht).1 ob_2.1 (by decide))).trans ((tI_nE hM_72 (nk (by decide))).trans ((q_69 t 4 (cls_ne (ob_t ht).1 ob_1.1 (by decide)) (cls_ne (ob_t ht).1 ob_2.1 (by decide))).trans ((tI_nE hM_64 (nk (by decide))).trans ((q_61 t 4 (cls_ne (ob_t ht).1 ob_1.1 (by decide)) (cls_ne (ob_t ht).1 ob_2.1 (by decide))).trans ((tI_nE hM_56 (nk (by decide))).trans ((q_53 t 4 (cls_ne (ob_t ht).1 ob_1.1 (by decide)) (cls_ne (ob_t ht).1 ob_2.1 (by decide))).trans ((q_47 t 4 (cls_ne (ob_t ht).1 ob_1.1 (by decide)) (cls_ne (ob_t ht).1 ob_2.1 (by decide))).trans f_39))))))))))))))))))]
        refine lv_iconst (v := 1) hx hb dX4_readMan_215 (by decide) ?_
        refine lv_iadd hx hb dX4_readMan_216 ?_
        refine lv_topi (fun x_134 ex_134 => ?_)
        have lox_134x_1 := x_1.le_toInt
        have hix_134x_1 := x_1.toInt_lt
        have tx_134 : x_134.toInt = x_1.toInt + 1 := i_add ex_134 rfl (by decide : (1 : Int32).toInt = 1) (by omega) (by omega)
        refine ti_putI (ci := 8) (k := 4) (N := 12) (T := TX8) C hw iw_8 tyX8 tyX8_ok nmX8 rfl (ob_t ht) (by decide) (by decide) fl_X4_98 rfl rfl rfl rfl (fn_8 A _) fs_8_4 dX4_readMan_217 (fun H locs hw => ?_)
        obtain ⟨M_135, hM_135⟩ : ∃ z : ti_M, z = uI M_130 t 4 x_134 := ⟨_, rfl⟩
        have hw := hw.to hM_135.symm
        have iM_135 : cI Tc M_135 := cI_uI iM_130 hM_135 (ob_t ht).1 (ib_mk (lo := 0) (hi := 8) (by omega) (by omega))
        have vM_135 : (tI M_135 t 4).toInt = (x_134 : Int32).toInt := by rw [tI_uE hM_135]
        have hs_136 := rC_t4 ht hM_135 hs_131
        obtain ⟨g_137, eg_137⟩ : ∃ z : Nat → Int, z = pp_su g_132 7 x_134.toInt := ⟨_, rfl⟩
        rw [← eg_137] at hs_136
        have lg_137_0 : g_137 0 = (tI M_135 2 4).toInt := hs_136.2.1.1
        have lg_137_1 : g_137 1 = (tI M_135 2 6).toInt := hs_136.2.1.2.1
        have lg_137_4 : g_137 4 = (tI M_135 1 4).toInt := hs_136.2.2.1.1
        have lg_137_7 : g_137 7 = (tI M_135 t 4).toInt := hs_136.2.2.2.1.1
        have lg_137_8 : g_137 8 = (tI M_135 t 5).toInt := hs_136.2.2.2.1.2.1
        have h47 : g_121 7 = x_1.toInt := by rw [hs_120.2.2.2.1.1, (((o2_12 q_117) t 4 (cls_ne (ob_t ht).1 ob_1.1 (by decide)) (cls_ne (ob_t ht).1 ob_2.1 (by decide))).trans ((tI_nE hM_108 (nk (by decide))).trans ((tI_nE hM_104 (nk (by decide))).trans ((q_101 t 4 (cls_ne (ob_t ht).1 ob_1.1 (by decide)) (cls_ne (ob_t ht).1 ob_2.1 (by decide))).trans ((tI_nE hM_96 (nk (by decide))).trans ((q_93 t 4 (cls_ne (ob_t ht).1 ob_1.1 (by decide)) (cls_ne (ob_t ht).1 ob_2.1 (by decide))).trans ((tI_nE hM_88 (nk (by decide))).trans ((q_85 t 4 (cls_ne (ob_t ht).1 ob_1.1 (by decide)) (cls_ne (ob_t ht).1 ob_2.1 (by decide))).trans ((tI_nE hM_80 (no (cls_ne (ob_t ht).1 ob_10.1 (by decide)))).trans ((q_77 t 4 (cls_ne (ob_t ht).1 ob_1.1 (by decide)) (cls_ne (ob_t ht).1 ob_2.1 (by decide))).trans ((tI_nE hM_72 (nk (by decide))).trans ((q_69 t 4 (cls_ne (ob_t ht).1 ob_1.1 (by decide)) (cls_ne (ob_t ht).1 ob_2.1 (by decide))).trans ((tI_nE hM_64 (nk (by decide))).trans ((q_61 t 4 (cls_ne (ob_t ht).1 ob_1.1 (by decide)) (cls_ne (ob_t ht).1 ob_2.1 (by decide))).trans ((tI_nE hM_56 (nk (by decide))).trans ((q_53 t 4 (cls_ne (ob_t ht).1 ob_1.1 (by decide)) (cls_ne (ob_t ht).1 ob_2.1 (by decide))).trans ((q_47 t 4 (cls_ne (ob_t ht).1 ob_1.1 (by decide)) (cls_ne (ob_t ht).1 ob_2.1 (by decide))).trans f_39)))))))))))))))))]
        have E1 : pp_m1 B n rg = g_22 := by unfold pp_m1; rw [← eg_18, show (rg 7).toNat = x_1.toNatClampNeg by (show (rg 7).toNat = x_1.toInt.toNat; omega), show g_18 1 = x_19.toInt by omega, ← eg_22]
        have E3 : pp_m3 B n g_41 = g_103 := by unfold pp_m3; rw [← eg_49, ← eg_55, ← eg_63, ← eg_71, ← eg_79, ← eg_87, ← eg_95, ← eg_103]
        have E4 : pp_m4 B n g_103 = g_121 := by unfold pp_m4; rw [if_pos (by omega), ← eg_121]
        have E5 : pp_m5 g_121 = g_137 := by unfold pp_m5; rw [show (g_121 7).toNat = x_1.toNatClampNeg by (show (g_121 7).toNat = x_1.toInt.toNat; omega), show g_121 7 + 1 = x_134.toInt by omega, ← eg_132, ← eg_137]
        exact hQ _ _ _ _ _ hw (⟨iM_135, ((rf_I hM_135).trans ((rf_I hM_130).trans ((q_116).trans ((rf_I hM_108).trans ((rf_I hM_104).trans ((q_100).trans ((rf_I hM_96).trans ((q_92).trans ((rf_I hM_88).trans ((q_84).trans ((rf_I hM_80).trans ((q_76).trans ((rf_I hM_72).trans ((q_68).trans ((rf_I hM_64).trans ((q_60).trans ((rf_I hM_56).trans ((q_52).trans ((q_46).trans f_35))))))))))))))))))), (f0.trans (f0_I hM_135 (f0n (ob_t ht).1 (by decide))) (f0.trans (f0_I hM_130 (f0n ob_10.1 (by decide))) (f0.trans (f0_12 (o2_12 q_117)) (f0.trans (f0_I hM_108 (f0n ob_10.1 (by decide))) (f0.trans (f0_I hM_104 (f0n ob_10.1 (by decide))) (f0.trans (f0_12 q_101) (f0.trans (f0_I hM_96 (f0n ob_10.1 (by decide))) (f0.trans (f0_12 q_93) (f0.trans (f0_I hM_88 (f0n ob_10.1 (by decide))) (f0.trans (f0_12 q_85) (f0.trans (f0_I hM_80 (f0n ob_10.1 (by decide))) (f0.trans (f0_12 q_77) (f0.trans (f0_I hM_72 (f0n ob_10.1 (by decide))) (f0.trans (f0_12 q_69) (f0.trans (f0_I hM_64 (f0n ob_10.1 (by decide))) (f0.trans (f0_12 q_61) (f0.trans (f0_I hM_56 (f0n ob_10.1 (by decide))) (f0.trans (f0_12 q_53) (f0.trans (f0_12 q_47) f_36))))))))))))))))))), ((tI_nE hM_135 (nk (by decide))).trans ((tI_nE hM_130 (nk (by decide))).trans ((q_118).trans ((tI_nE hM_108 (nk (by decide))).trans ((tI_nE hM_104 (nk (by decide))).trans ((q_102).trans ((tI_nE hM_96 (nk (by decide))).trans ((q_94).trans ((tI_nE hM_88 (nk (by decide))).trans ((q_86).trans ((tI_nE hM_80 (nk (by decide))).trans ((q_78).trans ((tI_nE hM_72 (nk (by decide))).trans ((q_70).trans ((tI_nE hM_64 (nk (by decide))).trans ((q_62).trans ((tI_nE hM_56 (no (cls_ne ob_2.1 ob_10.1 (by decide)))).trans ((q_54).trans ((q_48).trans f_37))))))))))))))))))), (ot.trans (ot_I ht hM_135 (by omega)) (ot.trans (ot_m ht (i_nt (x := x_1) rfl (by omega) (by omega)) hM_130) (ot.trans (ot_12 ht (o2_12 q_117)) (ot.trans (ot_m ht (i_nt (x := x_1) rfl (by omega) (by omega)) hM_108) (ot.trans (ot_m ht (i_nt (x := x_1) rfl (by omega) (by omega)) hM_104) (ot.trans (ot_12 ht q_101) (ot.trans (ot_m ht (i_nt (x := x_1) rfl (by omega) (by omega)) hM_96) (ot.trans (ot_12 ht q_93) (ot.trans (ot_m ht (i_nt (x := x_1) rfl (by omega) (by omega)) hM_88) (ot.trans (ot_12 ht q_85) (ot.trans (ot_m ht (i_nt (x := x_1) rfl (by omega) (by omega)) hM_80) (ot.trans (ot_12 ht q_77) (ot.trans (ot_m ht (i_nt (x := x_1) rfl (by omega) (by omega)) hM_72) (ot.trans (ot_12 ht q_69) (ot.trans (ot_m ht (i_nt (x := x_1) rfl (by omega) (by omega)) hM_64) (ot.trans (ot_12 ht q_61) (ot.trans (ot_m ht (i_nt (x := x_1) rfl (by omega) (by omega)) hM_56) (ot.trans (ot_12 ht q_53) (ot.trans (ot_12 ht q_47) f_38))))))))))))))))))), (by unfold pp_mn; rw [if_pos (by omega), E1, j_43, E3, E4, E5]; exact hs_136)⟩) dX4_readMan_220
    refine sb_icmp_ne (tgt := 84) hx hb rfl (by decide : (25 : Int32).toInt = 25) dX4_readMan_61 (by decide) (fun c_61_23 => ?_) (fun c_61_23 => ?_)
    · exact hj_84_43 M_20 g_22 _ _ _ iM_20 ((rf_I hM_20).trans q_13) (f0.trans (f0_I hM_20 (f0n ob_10.1 (by decide))) (f0_12 (o2_12 q_14))) ((tI_nE hM_20 (nk (by decide))).trans q_15) (ot.trans (ot_m ht (i_nt (x := x_1) rfl (by omega) (by omega)) hM_20) (ot_12 ht (o2_12 q_14))) ((tI_nE hM_20 (nk (by decide))).trans (((o2_12 q_14) t 4 (cls_ne (ob_t ht).1 ob_1.1 (by decide)) (cls_ne (ob_t ht).1 ob_2.1 (by decide))).trans ex_1.symm)) ((tT_uIE hM_20).trans ((tT_fr q_13).trans hT)) hs_21 (by unfold pp_m2; rw [if_neg (fun q => absurd q.1 (by omega))]) hw (lv_sub hl [0, 1] rfl)
    · refine lv_aload_n hx hb dX4_readMan_64 rfl (lv_at hl 1 rfl) ?_
      refine ti_get (ci := 4) (k := 1) (N := 6) (T := TX4) (v := .ref (A t 0)) C hw iw_4 rfl ob_1 (by decide) (by decide) fl_X4_28 rfl (ti_Tv ((tT_uIE hM_20).trans ((tT_fr q_13).trans hT))) dX4_readMan_65 ?_
      refine lv_aload_n hx hb dX4_readMan_68 rfl (lv_at hl 0 rfl) ?_
      refine ti_get (ci := 2) (k := 0) (N := 10) (T := TX2) C hw iw_2 rfl ob_10 (by decide) (by decide) fl_X4_105 rfl rfl dX4_readMan_69 ?_
      refine ti_top (y := x_19) (tI_uE hM_20) ?_
      refine ti_callVi (ci := 8) (av := [.int x_19]) C hw (x_X8_find l D A cy hJ M_20 iM_20 t ht x_19 B n g_22 hs_21) ⟨ml_X4_110, ym_X8_find, yv_X8_find, yi_X8_find, yc_X8_find⟩ yd_X8_find (ob_t ht) (by decide) rfl rfl hl.1 (Nat.le_of_ble_eq_true rfl) ⟨by decide, by decide⟩ ⟨Nat.zero_le _, Nat.zero_le _⟩ dX4_readMan_72 (fun r_25 M_26 H locs hp_26 hw => ?_)
      obtain ⟨hm, b0r_25, b1r_25, p0r_25⟩ := hp_26
      have hw := hw.to hm
      refine lv_iconst (v := (-1)) hx hb dX4_readMan_75 (by decide) ?_
      refine sb_icmp_eq (tgt := 84) hx hb rfl (by decide : ((-1) : Int32).toInt = (-1)) dX4_readMan_76 (by decide) (fun c_76_26 => ?_) (fun c_76_26 => ?_)
      · exact hj_84_43 M_20 g_22 _ _ _ iM_20 ((rf_I hM_20).trans q_13) (f0.trans (f0_I hM_20 (f0n ob_10.1 (by decide))) (f0_12 (o2_12 q_14))) ((tI_nE hM_20 (nk (by decide))).trans q_15) (ot.trans (ot_m ht (i_nt (x := x_1) rfl (by omega) (by omega)) hM_20) (ot_12 ht (o2_12 q_14))) ((tI_nE hM_20 (nk (by decide))).trans (((o2_12 q_14) t 4 (cls_ne (ob_t ht).1 ob_1.1 (by decide)) (cls_ne (ob_t ht).1 ob_2.1 (by decide))).trans ex_1.symm)) ((tT_uIE hM_20).trans ((tT_fr q_13).trans hT)) hs_21 (by unfold pp_m2; rw [if_neg (fun q => q.2 (by rw [show pp_fd g_22 (g_22 1) 0 = r_25.toInt by (rw [show g_22 1 = x_19.toInt by omega]; exact p0r_25.symm)]; omega))]) hw (lv_sub hl [0, 1] rfl)
      · refine lv_aload_n hx hb dX4_readMan_79 rfl (lv_at hl 1 rfl) ?_
        refine lv_iconst (v := 3) hx hb dX4_readMan_80 (by decide) ?_
        refine ti_callVv (ci := 4) (av := [.int 3]) C hw (x_X4_refuse l D A cy hJ M_20 iM_20 t ht 3 B n g_22 hs_21) ⟨ml_X4_82, ym_X4_refuse, yv_X4_refuse, yi_X4_refuse, yc_X4_refuse⟩ yd_X4_refuse ob_1 (by decide) rfl rfl hl.1 (Nat.le_of_ble_eq_true rfl) ⟨by decide, by decide⟩ ⟨Nat.zero_le _, Nat.zero_le _⟩ dX4_readMan_81 (fun M_29 H locs hp_29 hw => ?_)
        obtain ⟨iM_29, q_30, q_31, q_32, p0r_28⟩ := hp_29
        have hlr_28_3 : (3 : Int32).toInt = 3 := by decide
        simp only [hlr_28_3] at p0r_28
        obtain ⟨g_33, eg_33⟩ : ∃ z : Nat → Int, z = pp_rf 3 g_22 := ⟨_, rfl⟩
        rw [← eg_33] at p0r_28
        have lg_33_0 : g_33 0 = (tI M_29 2 4).toInt := p0r_28.2.1.1
        have lg_33_1 : g_33 1 = (tI M_29 2 6).toInt := p0r_28.2.1.2.1
        have lg_33_4 : g_33 4 = (tI M_29 1 4).toInt := p0r_28.2.2.1.1
        have lg_33_7 : g_33 7 = (tI M_29 t 4).toInt := p0r_28.2.2.2.1.1
        have lg_33_8 : g_33 8 = (tI M_29 t 5).toInt := p0r_28.2.2.2.1.2.1
        exact hj_84_43 M_29 g_33 _ _ _ iM_29 ((q_30).trans ((rf_I hM_20).trans q_13)) (f0.trans (f0_12 q_31) (f0.trans (f0_I hM_20 (f0n ob_10.1 (by decide))) (f0_12 (o2_12 q_14)))) ((q_32).trans ((tI_nE hM_20 (nk (by decide))).trans q_15)) (ot.trans (ot_12 ht q_31) (ot.trans (ot_m ht (i_nt (x := x_1) rfl (by omega) (by omega)) hM_20) (ot_12 ht (o2_12 q_14)))) ((q_31 t 4 (cls_ne (ob_t ht).1 ob_1.1 (by decide)) (cls_ne (ob_t ht).1 ob_2.1 (by decide))).trans ((tI_nE hM_20 (nk (by decide))).trans (((o2_12 q_14) t 4 (cls_ne (ob_t ht).1 ob_1.1 (by decide)) (cls_ne (ob_t ht).1 ob_2.1 (by decide))).trans ex_1.symm))) ((tT_fr q_30).trans ((tT_uIE hM_20).trans ((tT_fr q_13).trans hT))) p0r_28 (by unfold pp_m2; rw [if_pos ⟨by omega, by rw [show pp_fd g_22 (g_22 1) 0 = r_25.toInt by (rw [show g_22 1 = x_19.toInt by omega]; exact p0r_25.symm)]; omega⟩, ← eg_33]) hw (lv_sub hl [0, 1] rfl)
  · refine lv_aload_n hx hb dX4_readMan_12 rfl (lv_at hl 0 rfl) ?_
    refine lv_iconst (v := 2) hx hb dX4_readMan_13 (by decide) ?_
    refine ti_callVv (ci := 4) (av := [.int 2]) C hw (x_X4_refuse l D A cy hJ M hI t ht 2 B n rg hr) ⟨ml_X4_82, ym_X4_refuse, yv_X4_refuse, yi_X4_refuse, yc_X4_refuse⟩ yd_X4_refuse ob_1 (by decide) rfl rfl hl.1 (Nat.le_of_ble_eq_true rfl) ⟨by decide, by decide⟩ ⟨Nat.zero_le _, Nat.zero_le _⟩ dX4_readMan_14 (fun M_4 H locs hp_4 hw => ?_)
    obtain ⟨iM_4, q_5, q_6, q_7, p0r_3⟩ := hp_4
    have hlr_3_2 : (2 : Int32).toInt = 2 := by decide
    simp only [hlr_3_2] at p0r_3
    obtain ⟨g_8, eg_8⟩ : ∃ z : Nat → Int, z = pp_rf 2 rg := ⟨_, rfl⟩
    rw [← eg_8] at p0r_3
    have lg_8_0 : g_8 0 = (tI M_4 2 4).toInt := p0r_3.2.1.1
    have lg_8_1 : g_8 1 = (tI M_4 2 6).toInt := p0r_3.2.1.2.1
    have lg_8_4 : g_8 4 = (tI M_4 1 4).toInt := p0r_3.2.2.1.1
    have lg_8_7 : g_8 7 = (tI M_4 t 4).toInt := p0r_3.2.2.2.1.1
    have lg_8_8 : g_8 8 = (tI M_4 t 5).toInt := p0r_3.2.2.2.1.2.1
    exact hQ _ _ _ _ _ hw (⟨iM_4, (q_5), (f0_12 q_6), (q_7), (ot_12 ht q_6), (by unfold pp_mn; rw [if_neg (by omega), ← eg_8]; exact p0r_3)⟩) dX4_readMan_17
set_option maxHeartbeats 4000000 in
set_option maxRecDepth 100000 in
theorem x_X4_readPower (l : Launch) (D : va_G) (A : Nat → Nat → Nat) (cy : Nat → ClassId) (hJ : ti_inj ti_LT A) (M : ti_M) (hI : cI Tc M) (t : Nat) (ht : t = 3 ∨ t = 4) (hT : tT M 1 1 = some t) (B : Nat → Int) (n : Nat) (rg : Nat → Int) (hr : rC B n t rg M) : ti_KvE l yX4_readPower cX4_readPower 2 8 ti_LT D A cy M [.ref (A 1 0)] (fun M2 => cI Tc M2 ∧ M2.2.2.2 = M.2.2.2 ∧ f0 M2 M ∧ tI M2 2 1 = tI M 2 1 ∧ ot t M2 M ∧ rC B n t (pp_pw B n rg) M2) := by
  refine ti_eVE yp_X4_readPower hJ ti_LT_nd (Nat.le_of_ble_eq_true rfl) ?_
  intro p e s m args below meth c Q H0 C hE hQ hw ls hl
  have hx := C.1
  have hb := C.2.1
  have hl : lv_has ls 2 [(0, .ref (A 1 0))] := hl
  have l0 : rg 0 = (tI M 2 4).toInt := hr.2.1.1
  have l1 : rg 1 = (tI M 2 6).toInt := hr.2.1.2.1
  have l2 : rg 2 = (tI M 2 5).toInt := hr.2.1.2.2.1
  have l3 : rg 3 = (tI M 2 3).toInt := hr.2.1.2.2.2
  have l4 : rg 4 = (tI M 1 4).toInt := hr.2.2.1.1
  have l5 : rg 5 = (tI M 1 5).toInt := hr.2.2.1.2.1
  have l7 : rg 7 = (tI M t 4).toInt := hr.2.2.2.1.1
  have l8 : rg 8 = (tI M t 5).toInt := hr.2.2.2.1.2.1
  have l9 : rg 9 = (tI M t 3).toInt := hr.2.2.2.1.2.2
  refine lv_aload_n hx hb dX4_readPower_0 rfl (lv_at hl 0 rfl) ?_
  refine ti_get (ci := 4) (k := 0) (N := 6) (T := TX4) (v := .ref (A 2 0)) C hw iw_4 rfl ob_1 (by decide) (by decide) fl_X4_12 rfl rfl dX4_readPower_1 ?_
  refine ti_callVvE (ci := 7) (av := []) C hE hw (x_X7_advance l D A cy hJ M hI ) ⟨ml_X4_92, ym_X7_advance, yv_X7_advance, yi_X7_advance, yc_X7_advance⟩ yd_X7_advance ob_2 (by decide) rfl rfl hl.1 (Nat.le_of_ble_eq_true rfl) ⟨by decide, by decide⟩ ⟨Nat.zero_le _, Nat.zero_le _⟩ dX4_readPower_4 (fun M_2 H locs hp_2 hw => ?_)
  obtain ⟨iM_2, q_3, q_4, q_5, q_6, p0r_1, p1r_1, p2r_1, p3r_1⟩ := hp_2
  have hs_7 := rC_av ht hr q_6 q_4 p0r_1 p1r_1 p2r_1 p3r_1
  obtain ⟨g_8, eg_8⟩ : ∃ z : Nat → Int, z = pp_av B n rg := ⟨_, rfl⟩
  rw [← eg_8] at hs_7
  have lg_8_0 : g_8 0 = (tI M_2 2 4).toInt := hs_7.2.1.1
  have lg_8_1 : g_8 1 = (tI M_2 2 6).toInt := hs_7.2.1.2.1
  have lg_8_4 : g_8 4 = (tI M_2 1 4).toInt := hs_7.2.2.1.1
  have lg_8_7 : g_8 7 = (tI M_2 t 4).toInt := hs_7.2.2.2.1.1
  have lg_8_8 : g_8 8 = (tI M_2 t 5).toInt := hs_7.2.2.2.1.2.1
  refine lv_aload_n hx hb dX4_readPower_7 rfl (lv_at hl 0 rfl) ?_
  refine ti_get (ci := 4) (k := 0) (N := 6) (T := TX4) (v := .ref (A 2 0)) C hw iw_4 rfl ob_1 (by decide) (by decide) fl_X4_12 rfl rfl dX4_readPower_8 ?_
  refine ti_get (ci := 7) (k := 4) (N := 7) (T := TX7) C hw iw_7 rfl ob_2 (by decide) (by decide) fl_X4_41 rfl rfl dX4_readPower_11 ?_
  refine lv_topi (fun x_9 ex_9 => ?_)
  have bx_9 : 0 ≤ x_9.toInt ∧ x_9.toInt ≤ 41 := cI_rd iM_2 ob_2.1 ex_9
  have ux_9 : (tI M_2 2 4).toInt = x_9.toInt := by rw [ex_9]
  refine lv_istore_n (lv' := [(1, .int x_9), (0, .ref (A 1 0))]) hx hb dX4_readPower_14 rfl hl (by decide) rfl (fun ls hl => ?_)
  refine lv_iload_n hx hb dX4_readPower_15 rfl (lv_at hl 0 rfl) ?_
  refine lv_bipush (v := 9) hx hb dX4_readPower_16 (by decide) ?_
  refine sb_icmp_lt (tgt := 27) hx hb rfl (by decide : (9 : Int32).toInt = 9) dX4_readPower_18 (by decide) (fun c_18_9 => ?_) (fun c_18_9 => ?_)
  · refine lv_aload_n hx hb dX4_readPower_27 rfl (lv_at hl 1 rfl) ?_
    refine lv_iconst (v := 1) hx hb dX4_readPower_28 (by decide) ?_
    refine ti_callVv (ci := 4) (av := [.int 1]) C hw (x_X4_refuse l D A cy hJ M_2 iM_2 t ht 1 B n g_8 hs_7) ⟨ml_X4_82, ym_X4_refuse, yv_X4_refuse, yi_X4_refuse, yc_X4_refuse⟩ yd_X4_refuse ob_1 (by decide) rfl rfl hl.1 (Nat.le_of_ble_eq_true rfl) ⟨by decide, by decide⟩ ⟨Nat.zero_le _, Nat.zero_le _⟩ dX4_readPower_29 (fun M_13 H locs hp_13 hw => ?_)
    obtain ⟨iM_13, q_14, q_15, q_16, p0r_12⟩ := hp_13
    have hlr_12_1 : (1 : Int32).toInt = 1 := by decide
    simp only [hlr_12_1] at p0r_12
    obtain ⟨g_17, eg_17⟩ : ∃ z : Nat → Int, z = pp_rf 1 g_8 := ⟨_, rfl⟩
    rw [← eg_17] at p0r_12
    have lg_17_0 : g_17 0 = (tI M_13 2 4).toInt := p0r_12.2.1.1
    have lg_17_1 : g_17 1 = (tI M_13 2 6).toInt := p0r_12.2.1.2.1
    have lg_17_4 : g_17 4 = (tI M_13 1 4).toInt := p0r_12.2.2.1.1
    have lg_17_7 : g_17 7 = (tI M_13 t 4).toInt := p0r_12.2.2.2.1.1
    have lg_17_8 : g_17 8 = (tI M_13 t 5).toInt := p0r_12.2.2.2.1.2.1
    exact hQ _ _ _ _ _ hw (⟨iM_13, ((q_14).trans q_3), (f0.trans (f0_12 q_15) (f0_12 (o2_12 q_4))), ((q_16).trans q_5), (ot.trans (ot_12 ht q_15) (ot_12 ht (o2_12 q_4))), (by unfold pp_pw; rw [← eg_8, if_neg (fun q => by omega), ← eg_17]; exact p0r_12)⟩) dX4_readPower_32
  · refine lv_iload_n hx hb dX4_readPower_21 rfl (lv_at hl 0 rfl) ?_
    refine lv_bipush (v := 11) hx hb dX4_readPower_22 (by decide) ?_
    refine sb_icmp_le (tgt := 33) hx hb rfl (by decide : (11 : Int32).toInt = 11) dX4_readPower_24 (by decide) (fun c_24_10 => ?_) (fun c_24_10 => ?_)
    · refine lv_aload_n hx hb dX4_readPower_33 rfl (lv_at hl 1 rfl) ?_
      refine ti_callVvE (ci := 4) (av := []) C hE hw (x_X4_once l D A cy hJ M_2 iM_2 t ht B n g_8 hs_7 (by omega)) ⟨ml_X4_53, ym_X4_once, yv_X4_once, yi_X4_once, yc_X4_once⟩ yd_X4_once ob_1 (by decide) rfl rfl hl.1 (Nat.le_of_ble_eq_true rfl) ⟨by decide, by decide⟩ ⟨Nat.zero_le _, Nat.zero_le _⟩ dX4_readPower_34 (fun M_25 H locs hp_25 hw => ?_)
      obtain ⟨iM_25, q_26, q_27, q_28, p0r_24⟩ := hp_25
      obtain ⟨g_29, eg_29⟩ : ∃ z : Nat → Int, z = pp_on B n g_8 := ⟨_, rfl⟩
      rw [← eg_29] at p0r_24
      have lg_29_0 : g_29 0 = (tI M_25 2 4).toInt := p0r_24.2.1.1
      have lg_29_1 : g_29 1 = (tI M_25 2 6).toInt := p0r_24.2.1.2.1
      have lg_29_4 : g_29 4 = (tI M_25 1 4).toInt := p0r_24.2.2.1.1
      have lg_29_7 : g_29 7 = (tI M_25 t 4).toInt := p0r_24.2.2.2.1.1
      have lg_29_8 : g_29 8 = (tI M_25 t 5).toInt := p0r_24.2.2.2.1.2.1
      refine lv_aload_n hx hb dX4_readPower_37 rfl (lv_at hl 1 rfl) ?_
      refine ti_get (ci := 4) (k := 1) (N := 6) (T := TX4) (v := .ref (A t 0)) C hw iw_4 rfl ob_1 (by decide) (by decide) fl_X4_28 rfl (ti_Tv ((tT_fr q_26).trans ((tT_fr q_3).trans hT))) dX4_readPower_38 ?_
      refine ti_get (ci := 8) (k := 1) (N := 12) (T := TX8) (v := .ref (A t 2)) C hw iw_8 rfl (ob_t ht) (by decide) (by decide) fl_X4_146 rfl rfl dX4_readPower_41 ?_
      refine lv_iload_n hx hb dX4_readPower_44 rfl (lv_at hl 0 rfl) ?_
      refine lv_bipush (v := 9) hx hb dX4_readPower_45 (by decide) ?_
      refine lv_isub hx hb dX4_readPower_47 ?_
      refine lv_topi (fun x_30 ex_30 => ?_)
      have tx_30 : x_30.toInt = x_9.toInt - 9 := i_sub ex_30 rfl (by decide : (9 : Int32).toInt = 9) (by omega) (by omega)
      refine lv_aload_n hx hb dX4_readPower_48 rfl (lv_at hl 1 rfl) ?_
      refine lv_iconst (v := 0) hx hb dX4_readPower_49 (by decide) ?_
      refine lv_bipush (v := 7) hx hb dX4_readPower_50 (by decide) ?_
      refine ti_callViE (ci := 4) (av := [.int 0, .int 7]) C hE hw (x_X4_number l D A cy hJ M_25 iM_25 t ht 0 7 B n g_29 p0r_24) ⟨ml_X4_56, ym_X4_number, yv_X4_number, yi_X4_number, yc_X4_number⟩ yd_X4_number ob_1 (by decide) rfl rfl hl.1 (Nat.le_of_ble_eq_true rfl) ⟨by decide, by decide⟩ ⟨Nat.zero_le _, Nat.zero_le _⟩ dX4_readPower_52 (fun r_31 M_32 H locs hp_32 hw => ?_)
      obtain ⟨iM_32, q_33, q_34, q_35, p0r_31, p1r_31⟩ := hp_32
      have hlr_31_0 : (0 : Int32).toInt = 0 := by decide
      have hlr_31_7 : (7 : Int32).toInt = 7 := by decide
      simp only [hlr_31_0, hlr_31_7] at p1r_31
      obtain ⟨g_36, eg_36⟩ : ∃ z : Nat → Int, z = pp_nb B n 0 7 g_29 := ⟨_, rfl⟩
      rw [← eg_36] at p1r_31
      have lg_36_0 : g_36 0 = (tI M_32 2 4).toInt := p1r_31.2.1.1
      have lg_36_1 : g_36 1 = (tI M_32 2 6).toInt := p1r_31.2.1.2.1
      have lg_36_4 : g_36 4 = (tI M_32 1 4).toInt := p1r_31.2.2.1.1
      have lg_36_7 : g_36 7 = (tI M_32 t 4).toInt := p1r_31.2.2.2.1.1
      have lg_36_8 : g_36 8 = (tI M_32 t 5).toInt := p1r_31.2.2.2.1.2.1
      refine ti_iast (ci := 8) (k := 1) (n := 3) C hw (ob_t ht) (by decide) (fun _ _ => rfl) (vp_in_iff.mpr (by omega)) dX4_readPower_55 (fun H locs hw => ?_)
      obtain ⟨M_37, hM_37⟩ : ∃ z : ti_M, z = uY M_32 t 1 (upd (tY M_32 t 1) (x_30 : Int32).toNatClampNeg r_31) := ⟨_, rfl⟩
      have hw := hw.to hM_37.symm
      have iM_37 : cI Tc M_37 := cI_up iM_32 hM_37 (ob_t ht).1 trivial
      have hs_38 := rC_Y hM_37 (no (cls_ne ob_2.1 (ob_t ht).1 (by decide))) p1r_31
      have lM_37_0 : g_36 0 = (tI M_37 2 4).toInt := hs_38.2.1.1
      have lM_37_1 : g_36 1 = (tI M_37 2 6).toInt := hs_38.2.1.2.1
      have lM_37_4 : g_36 4 = (tI M_37 1 4).toInt := hs_38.2.2.1.1
      have lM_37_7 : g_36 7 = (tI M_37 t 4).toInt := hs_38.2.2.2.1.1
      have lM_37_8 : g_36 8 = (tI M_37 t 5).toInt := hs_38.2.2.2.1.2.1
      exact hQ _ _ _ _ _ hw (⟨iM_37, ((rf_Y hM_37).trans ((q_33).trans ((q_26).trans q_3))), (f0.trans (f0_of (ra_Y hM_37)) (f0.trans (f0_12 q_34) (f0.trans (f0_12 q_27) (f0_12 (o2_12 q_4))))), ((tI_uYE hM_37).trans ((q_35).trans ((q_28).trans q_5))), (ot.trans (ot_of (ra_Y hM_37)) (ot.trans (ot_12 ht q_34) (ot.trans (ot_12 ht q_27) (ot_12 ht (o2_12 q_4))))), (by unfold pp_pw; rw [← eg_8, if_pos ⟨by omega, by omega⟩, ← eg_29, ← eg_36]; exact hs_38)⟩) dX4_readPower_56
    · refine lv_aload_n hx hb dX4_readPower_27 rfl (lv_at hl 1 rfl) ?_
      refine lv_iconst (v := 1) hx hb dX4_readPower_28 (by decide) ?_
      refine ti_callVv (ci := 4) (av := [.int 1]) C hw (x_X4_refuse l D A cy hJ M_2 iM_2 t ht 1 B n g_8 hs_7) ⟨ml_X4_82, ym_X4_refuse, yv_X4_refuse, yi_X4_refuse, yc_X4_refuse⟩ yd_X4_refuse ob_1 (by decide) rfl rfl hl.1 (Nat.le_of_ble_eq_true rfl) ⟨by decide, by decide⟩ ⟨Nat.zero_le _, Nat.zero_le _⟩ dX4_readPower_29 (fun M_19 H locs hp_19 hw => ?_)
      obtain ⟨iM_19, q_20, q_21, q_22, p0r_18⟩ := hp_19
      have hlr_18_1 : (1 : Int32).toInt = 1 := by decide
      simp only [hlr_18_1] at p0r_18
      obtain ⟨g_23, eg_23⟩ : ∃ z : Nat → Int, z = pp_rf 1 g_8 := ⟨_, rfl⟩
      rw [← eg_23] at p0r_18
      have lg_23_0 : g_23 0 = (tI M_19 2 4).toInt := p0r_18.2.1.1
      have lg_23_1 : g_23 1 = (tI M_19 2 6).toInt := p0r_18.2.1.2.1
      have lg_23_4 : g_23 4 = (tI M_19 1 4).toInt := p0r_18.2.2.1.1
      have lg_23_7 : g_23 7 = (tI M_19 t 4).toInt := p0r_18.2.2.2.1.1
      have lg_23_8 : g_23 8 = (tI M_19 t 5).toInt := p0r_18.2.2.2.1.2.1
      exact hQ _ _ _ _ _ hw (⟨iM_19, ((q_20).trans q_3), (f0.trans (f0_12 q_21) (f0_12 (o2_12 q_4))), ((q_22).trans q_5), (ot.trans (ot_12 ht q_21) (ot_12 ht (o2_12 q_4))), (by unfold pp_pw; rw [← eg_8, if_neg (fun q => by omega), ← eg_23]; exact p0r_18)⟩) dX4_readPower_32
set_option maxHeartbeats 4000000 in
set_option maxRecDepth 100000 in
theorem x_X4_readGuard (l : Launch) (D : va_G) (A : Nat → Nat → Nat) (cy : Nat → ClassId) (hJ : ti_inj ti_LT A) (M : ti_M) (hI : cI Tc M) (t : Nat) (ht : t = 3 ∨ t = 4) (hT : tT M 1 1 = some t) (B : Nat → Int) (n : Nat) (rg : Nat → Int) (hr : rC B n t rg M) : ti_KvE l yX4_readGuard cX4_readGuard 3 8 ti_LT D A cy M [.ref (A 1 0)] (fun M2 => cI Tc M2 ∧ M2.2.2.2 = M.2.2.2 ∧ f0 M2 M ∧ tI M2 2 1 = tI M 2 1 ∧ ot t M2 M ∧ rC B n t (pp_gd B n rg) M2) := by
  refine ti_eVE yp_X4_readGuard hJ ti_LT_nd (Nat.le_of_ble_eq_true rfl) ?_
  intro p e s m args below meth c Q H0 C hE hQ hw ls hl
  have hx := C.1
  have hb := C.2.1
  have hl : lv_has ls 3 [(0, .ref (A 1 0))] := hl
  have l0 : rg 0 = (tI M 2 4).toInt := hr.2.1.1
  have l1 : rg 1 = (tI M 2 6).toInt := hr.2.1.2.1
  have l2 : rg 2 = (tI M 2 5).toInt := hr.2.1.2.2.1
  have l3 : rg 3 = (tI M 2 3).toInt := hr.2.1.2.2.2
  have l4 : rg 4 = (tI M 1 4).toInt := hr.2.2.1.1
  have l5 : rg 5 = (tI M 1 5).toInt := hr.2.2.1.2.1
  have l7 : rg 7 = (tI M t 4).toInt := hr.2.2.2.1.1
  have l8 : rg 8 = (tI M t 5).toInt := hr.2.2.2.1.2.1
  have l9 : rg 9 = (tI M t 3).toInt := hr.2.2.2.1.2.2
  refine lv_aload_n hx hb dX4_readGuard_0 rfl (lv_at hl 0 rfl) ?_
  refine ti_get (ci := 4) (k := 0) (N := 6) (T := TX4) (v := .ref (A 2 0)) C hw iw_4 rfl ob_1 (by decide) (by decide) fl_X4_12 rfl rfl dX4_readGuard_1 ?_
  refine ti_callVvE (ci := 7) (av := []) C hE hw (x_X7_advance l D A cy hJ M hI ) ⟨ml_X4_92, ym_X7_advance, yv_X7_advance, yi_X7_advance, yc_X7_advance⟩ yd_X7_advance ob_2 (by decide) rfl rfl hl.1 (Nat.le_of_ble_eq_true rfl) ⟨by decide, by decide⟩ ⟨Nat.zero_le _, Nat.zero_le _⟩ dX4_readGuard_4 (fun M_2 H locs hp_2 hw => ?_)
  obtain ⟨iM_2, q_3, q_4, q_5, q_6, p0r_1, p1r_1, p2r_1, p3r_1⟩ := hp_2
  have hs_7 := rC_av ht hr q_6 q_4 p0r_1 p1r_1 p2r_1 p3r_1
  obtain ⟨g_8, eg_8⟩ : ∃ z : Nat → Int, z = pp_av B n rg := ⟨_, rfl⟩
  rw [← eg_8] at hs_7
  have lg_8_0 : g_8 0 = (tI M_2 2 4).toInt := hs_7.2.1.1
  have lg_8_1 : g_8 1 = (tI M_2 2 6).toInt := hs_7.2.1.2.1
  have lg_8_4 : g_8 4 = (tI M_2 1 4).toInt := hs_7.2.2.1.1
  have lg_8_7 : g_8 7 = (tI M_2 t 4).toInt := hs_7.2.2.2.1.1
  have lg_8_8 : g_8 8 = (tI M_2 t 5).toInt := hs_7.2.2.2.1.2.1
  refine lv_aload_n hx hb dX4_readGuard_7 rfl (lv_at hl 0 rfl) ?_
  refine ti_callVi (ci := 4) (av := []) C hw (x_X4_toldMan l D A cy hJ M_2 iM_2 t ht ((tT_fr q_3).trans hT) B n g_8 hs_7) ⟨ml_X4_142, ym_X4_toldMan, yv_X4_toldMan, yi_X4_toldMan, yc_X4_toldMan⟩ yd_X4_toldMan ob_1 (by decide) rfl rfl hl.1 (Nat.le_of_ble_eq_true rfl) ⟨by decide, by decide⟩ ⟨Nat.zero_le _, Nat.zero_le _⟩ dX4_readGuard_8 (fun r_9 M_10 H locs hp_10 hw => ?_)
  obtain ⟨iM_10, q_11, q_12, q_13, b0r_9, b1r_9, p0r_9, p1r_9⟩ := hp_10
  obtain ⟨g_14, eg_14⟩ : ∃ z : Nat → Int, z = pp_tm g_8 := ⟨_, rfl⟩
  rw [← eg_14] at p1r_9
  have lg_14_0 : g_14 0 = (tI M_10 2 4).toInt := p1r_9.2.1.1
  have lg_14_1 : g_14 1 = (tI M_10 2 6).toInt := p1r_9.2.1.2.1
  have lg_14_4 : g_14 4 = (tI M_10 1 4).toInt := p1r_9.2.2.1.1
  have lg_14_7 : g_14 7 = (tI M_10 t 4).toInt := p1r_9.2.2.2.1.1
  have lg_14_8 : g_14 8 = (tI M_10 t 5).toInt := p1r_9.2.2.2.1.2.1
  refine lv_istore_n (lv' := [(1, .int r_9), (0, .ref (A 1 0))]) hx hb dX4_readGuard_11 rfl hl (by decide) rfl (fun ls hl => ?_)
  refine lv_iload_n hx hb dX4_readGuard_12 rfl (lv_at hl 0 rfl) ?_
  refine lv_iconst (v := (-1)) hx hb dX4_readGuard_13 (by decide) ?_
  refine sb_icmp_ne (tgt := 18) hx hb rfl (by decide : ((-1) : Int32).toInt = (-1)) dX4_readGuard_14 (by decide) (fun c_14_14 => ?_) (fun c_14_14 => ?_)
  · refine lv_aload_n hx hb dX4_readGuard_18 rfl (lv_at hl 1 rfl) ?_
    refine ti_get (ci := 4) (k := 1) (N := 6) (T := TX4) (v := .ref (A t 0)) C hw iw_4 rfl ob_1 (by decide) (by decide) fl_X4_28 rfl (ti_Tv ((tT_fr q_11).trans ((tT_fr q_3).trans hT))) dX4_readGuard_19 ?_
    refine ti_get (ci := 8) (k := 0) (N := 12) (T := TX8) (v := .ref (A t 1)) C hw iw_8 rfl (ob_t ht) (by decide) (by decide) fl_X4_101 rfl rfl dX4_readGuard_22 ?_
    refine lv_iload_n hx hb dX4_readGuard_25 rfl (lv_at hl 0 rfl) ?_
    refine ti_aald (ci := 8) (k := 0) (n := 8) (t0 := 5) (Cn := RX2) (gg := (ti_men t)) (j := r_9.toNatClampNeg) C hw (ob_t ht) (by decide) (fun _ _ => rfl) rfl (vp_in_iff.mpr (by omega)) rfl dX4_readGuard_26 ?_
    have ob_16 : ti_ob ti_LT (ti_men t r_9.toNatClampNeg) 2 := ob_m ht (i_nt rfl (by omega) (by omega))
    refine ti_get (ci := 2) (k := 9) (N := 10) (T := TX2) C hw iw_2 rfl ob_16 (by decide) (by decide) fl_X4_139 rfl rfl dX4_readGuard_27 ?_
    refine lv_topi (fun x_17 ex_17 => ?_)
    have u_18 : (tI M_10 (ti_men t r_9.toNatClampNeg) 9).toInt = x_17.toInt := by rw [ex_17]
    have gu : g_14 (200 + r_9.toInt.toNat) = x_17.toInt := by rw [ex_17]; exact (p1r_9.2.2.2.2 r_9.toInt.toNat (by omega)).2
    refine lv_iconst (v := (-1)) hx hb dX4_readGuard_30 (by decide) ?_
    refine sb_icmp_eq (tgt := 39) hx hb rfl (by decide : ((-1) : Int32).toInt = (-1)) dX4_readGuard_31 (by decide) (fun c_31_18 => ?_) (fun c_31_18 => ?_)
    · refine lv_aload_n hx hb dX4_readGuard_39 rfl (lv_at hl 1 rfl) ?_
      refine lv_bipush (v := 25) hx hb dX4_readGuard_40 (by decide) ?_
      refine ti_callVvE (ci := 4) (av := [.int 25]) C hE hw (x_X4_take l D A cy hJ M_10 iM_10 t ht 25 B n g_14 p1r_9) ⟨ml_X4_85, ym_X4_take, yv_X4_take, yi_X4_take, yc_X4_take⟩ yd_X4_take ob_1 (by decide) rfl rfl hl.1 (Nat.le_of_ble_eq_true rfl) ⟨by decide, by decide⟩ ⟨Nat.zero_le _, Nat.zero_le _⟩ dX4_readGuard_42 (fun M_27 H locs hp_27 hw => ?_)
      obtain ⟨iM_27, q_28, q_29, q_30, p0r_26⟩ := hp_27
      have hlr_26_25 : (25 : Int32).toInt = 25 := by decide
      simp only [hlr_26_25] at p0r_26
      obtain ⟨g_31, eg_31⟩ : ∃ z : Nat → Int, z = pp_tk B n 25 g_14 := ⟨_, rfl⟩
      rw [← eg_31] at p0r_26
      have lg_31_0 : g_31 0 = (tI M_27 2 4).toInt := p0r_26.2.1.1
      have lg_31_1 : g_31 1 = (tI M_27 2 6).toInt := p0r_26.2.1.2.1
      have lg_31_4 : g_31 4 = (tI M_27 1 4).toInt := p0r_26.2.2.1.1
      have lg_31_7 : g_31 7 = (tI M_27 t 4).toInt := p0r_26.2.2.2.1.1
      have lg_31_8 : g_31 8 = (tI M_27 t 5).toInt := p0r_26.2.2.2.1.2.1
      refine lv_aload_n hx hb dX4_readGuard_45 rfl (lv_at hl 1 rfl) ?_
      refine ti_callVi (ci := 4) (av := []) C hw (x_X4_toldMan l D A cy hJ M_27 iM_27 t ht ((tT_fr q_28).trans ((tT_fr q_11).trans ((tT_fr q_3).trans hT))) B n g_31 p0r_26) ⟨ml_X4_142, ym_X4_toldMan, yv_X4_toldMan, yi_X4_toldMan, yc_X4_toldMan⟩ yd_X4_toldMan ob_1 (by decide) rfl rfl hl.1 (Nat.le_of_ble_eq_true rfl) ⟨by decide, by decide⟩ ⟨Nat.zero_le _, Nat.zero_le _⟩ dX4_readGuard_46 (fun r_32 M_33 H locs hp_33 hw => ?_)
      obtain ⟨iM_33, q_34, q_35, q_36, b0r_32, b1r_32, p0r_32, p1r_32⟩ := hp_33
      obtain ⟨g_37, eg_37⟩ : ∃ z : Nat → Int, z = pp_tm g_31 := ⟨_, rfl⟩
      rw [← eg_37] at p1r_32
      have lg_37_0 : g_37 0 = (tI M_33 2 4).toInt := p1r_32.2.1.1
      have lg_37_1 : g_37 1 = (tI M_33 2 6).toInt := p1r_32.2.1.2.1
      have lg_37_4 : g_37 4 = (tI M_33 1 4).toInt := p1r_32.2.2.1.1
      have lg_37_7 : g_37 7 = (tI M_33 t 4).toInt := p1r_32.2.2.2.1.1
      have lg_37_8 : g_37 8 = (tI M_33 t 5).toInt := p1r_32.2.2.2.1.2.1
      refine lv_istore_n (lv' := [(2, .int r_32), (1, .int r_9), (0, .ref (A 1 0))]) hx hb dX4_readGuard_49 rfl hl (by decide) rfl (fun ls hl => ?_)
      refine lv_iload_n hx hb dX4_readGuard_50 rfl (lv_at hl 0 rfl) ?_
      refine lv_iload_n hx hb dX4_readGuard_51 rfl (lv_at hl 1 rfl) ?_
      refine sb_icmp_ne (tgt := 60) hx hb rfl rfl dX4_readGuard_52 (by decide) (fun c_52_37 => ?_) (fun c_52_37 => ?_)
      · refine lv_aload_n hx hb dX4_readGuard_60 rfl (lv_at hl 2 rfl) ?_
        refine lv_bipush (v := 25) hx hb dX4_readGuard_61 (by decide) ?_
        refine ti_callVvE (ci := 4) (av := [.int 25]) C hE hw (x_X4_take l D A cy hJ M_33 iM_33 t ht 25 B n g_37 p1r_32) ⟨ml_X4_85, ym_X4_take, yv_X4_take, yi_X4_take, yc_X4_take⟩ yd_X4_take ob_1 (by decide) rfl rfl hl.1 (Nat.le_of_ble_eq_true rfl) ⟨by decide, by decide⟩ ⟨Nat.zero_le _, Nat.zero_le _⟩ dX4_readGuard_63 (fun M_65 H locs hp_65 hw => ?_)
        obtain ⟨iM_65, q_66, q_67, q_68, p0r_64⟩ := hp_65
        have hlr_64_25 : (25 : Int32).toInt = 25 := by decide
        simp only [hlr_64_25] at p0r_64
        obtain ⟨g_69, eg_69⟩ : ∃ z : Nat → Int, z = pp_tk B n 25 g_37 := ⟨_, rfl⟩
        rw [← eg_69] at p0r_64
        have lg_69_0 : g_69 0 = (tI M_65 2 4).toInt := p0r_64.2.1.1
        have lg_69_1 : g_69 1 = (tI M_65 2 6).toInt := p0r_64.2.1.2.1
        have lg_69_4 : g_69 4 = (tI M_65 1 4).toInt := p0r_64.2.2.1.1
        have lg_69_7 : g_69 7 = (tI M_65 t 4).toInt := p0r_64.2.2.2.1.1
        have lg_69_8 : g_69 8 = (tI M_65 t 5).toInt := p0r_64.2.2.2.1.2.1
        refine lv_aload_n hx hb dX4_readGuard_66 rfl (lv_at hl 2 rfl) ?_
        refine ti_get (ci := 4) (k := 1) (N := 6) (T := TX4) (v := .ref (A t 0)) C hw iw_4 rfl ob_1 (by decide) (by decide) fl_X4_28 rfl (ti_Tv ((tT_fr q_66).trans ((tT_fr q_34).trans ((tT_fr q_28).trans ((tT_fr q_11).trans ((tT_fr q_3).trans hT)))))) dX4_readGuard_67 ?_
        refine ti_get (ci := 8) (k := 0) (N := 12) (T := TX8) (v := .ref (A t 1)) C hw iw_8 rfl (ob_t ht) (by decide) (by decide) fl_X4_101 rfl rfl dX4_readGuard_70 ?_
        refine lv_iload_n hx hb dX4_readGuard_73 rfl (lv_at hl 1 rfl) ?_
        refine ti_aald (ci := 8) (k := 0) (n := 8) (t0 := 5) (Cn := RX2) (gg := (ti_men t)) (j := r_9.toNatClampNeg) C hw (ob_t ht) (by decide) (fun _ _ => rfl) rfl (vp_in_iff.mpr (by omega)) rfl dX4_readGuard_74 ?_
        refine lv_iload_n hx hb dX4_readGuard_75 rfl (lv_at hl 0 rfl) ?_
        refine ti_putI (ci := 2) (k := 9) (N := 10) (T := TX2) C hw iw_2 tyX2 tyX2_ok nmX2 rfl ob_16 (by decide) (by decide) fl_X4_139 rfl rfl rfl rfl (fn_2 A _) fs_2_9 dX4_readGuard_76 (fun H locs hw => ?_)
        obtain ⟨M_70, hM_70⟩ : ∃ z : ti_M, z = uI M_65 (ti_men t r_9.toNatClampNeg) 9 r_32 := ⟨_, rfl⟩
        have hw := hw.to hM_70.symm
        have iM_70 : cI Tc M_70 := cI_uI iM_65 hM_70 ob_16.1 trivial
        have hs_71 := rC_m9 (j := r_9.toNatClampNeg) ht (i_nt (x := r_9) rfl (by omega) (by omega)) hM_70 p0r_64
        obtain ⟨g_72, eg_72⟩ : ∃ z : Nat → Int, z = pp_su g_69 (200 + r_9.toNatClampNeg) r_32.toInt := ⟨_, rfl⟩
        rw [← eg_72] at hs_71
        have lg_72_0 : g_72 0 = (tI M_70 2 4).toInt := hs_71.2.1.1
        have lg_72_1 : g_72 1 = (tI M_70 2 6).toInt := hs_71.2.1.2.1
        have lg_72_4 : g_72 4 = (tI M_70 1 4).toInt := hs_71.2.2.1.1
        have lg_72_7 : g_72 7 = (tI M_70 t 4).toInt := hs_71.2.2.2.1.1
        have lg_72_8 : g_72 8 = (tI M_70 t 5).toInt := hs_71.2.2.2.1.2.1
        have E1 : pp_g1 B n r_9.toInt g_14 = g_31 := by unfold pp_g1; rw [if_pos (by rw [gu]; omega), ← eg_31]
        have E2 : pp_g3 B n r_9.toInt g_31 = g_72 := by unfold pp_g3; rw [show pp_tv g_31 = r_32.toInt from p0r_32.symm, ← eg_37]; unfold pp_g2; rw [if_neg (by omega), show r_9.toInt.toNat = r_9.toNatClampNeg from rfl, ← eg_69, ← eg_72]
        exact hQ _ _ _ _ _ hw (⟨iM_70, ((rf_I hM_70).trans ((q_66).trans ((q_34).trans ((q_28).trans ((q_11).trans q_3))))), (f0.trans (f0_I hM_70 (f0n ob_16.1 (by decide))) (f0.trans (f0_12 q_67) (f0.trans (f0_12 q_35) (f0.trans (f0_12 q_29) (f0.trans (f0_12 q_12) (f0_12 (o2_12 q_4))))))), ((tI_nE hM_70 (nk (by decide))).trans ((q_68).trans ((q_36).trans ((q_30).trans ((q_13).trans q_5))))), (ot.trans (ot_m ht (i_nt (x := r_9) rfl (by omega) (by omega)) hM_70) (ot.trans (ot_12 ht q_67) (ot.trans (ot_12 ht q_35) (ot.trans (ot_12 ht q_29) (ot.trans (ot_12 ht q_12) (ot_12 ht (o2_12 q_4))))))), (by unfold pp_gd; rw [← eg_8, ← eg_14, show pp_tv g_8 = r_9.toInt from p0r_9.symm, if_neg (by omega), E1, E2]; exact hs_71)⟩) dX4_readGuard_79
      · refine lv_aload_n hx hb dX4_readGuard_55 rfl (lv_at hl 2 rfl) ?_
        refine lv_iconst (v := 5) hx hb dX4_readGuard_56 (by decide) ?_
        refine ti_callVv (ci := 4) (av := [.int 5]) C hw (x_X4_refuse l D A cy hJ M_33 iM_33 t ht 5 B n g_37 p1r_32) ⟨ml_X4_82, ym_X4_refuse, yv_X4_refuse, yi_X4_refuse, yc_X4_refuse⟩ yd_X4_refuse ob_1 (by decide) rfl rfl hl.1 (Nat.le_of_ble_eq_true rfl) ⟨by decide, by decide⟩ ⟨Nat.zero_le _, Nat.zero_le _⟩ dX4_readGuard_57 (fun M_53 H locs hp_53 hw => ?_)
        obtain ⟨iM_53, q_54, q_55, q_56, p0r_52⟩ := hp_53
        have hlr_52_5 : (5 : Int32).toInt = 5 := by decide
        simp only [hlr_52_5] at p0r_52
        obtain ⟨g_57, eg_57⟩ : ∃ z : Nat → Int, z = pp_rf 5 g_37 := ⟨_, rfl⟩
        rw [← eg_57] at p0r_52
        have lg_57_0 : g_57 0 = (tI M_53 2 4).toInt := p0r_52.2.1.1
        have lg_57_1 : g_57 1 = (tI M_53 2 6).toInt := p0r_52.2.1.2.1
        have lg_57_4 : g_57 4 = (tI M_53 1 4).toInt := p0r_52.2.2.1.1
        have lg_57_7 : g_57 7 = (tI M_53 t 4).toInt := p0r_52.2.2.2.1.1
        have lg_57_8 : g_57 8 = (tI M_53 t 5).toInt := p0r_52.2.2.2.1.2.1
        refine lv_aload_n hx hb dX4_readGuard_60 rfl (lv_at hl 2 rfl) ?_
        refine lv_bipush (v := 25) hx hb dX4_readGuard_61 (by decide) ?_
        refine ti_callVvE (ci := 4) (av := [.int 25]) C hE hw (x_X4_take l D A cy hJ M_53 iM_53 t ht 25 B n g_57 p0r_52) ⟨ml_X4_85, ym_X4_take, yv_X4_take, yi_X4_take, yc_X4_take⟩ yd_X4_take ob_1 (by decide) rfl rfl hl.1 (Nat.le_of_ble_eq_true rfl) ⟨by decide, by decide⟩ ⟨Nat.zero_le _, Nat.zero_le _⟩ dX4_readGuard_63 (fun M_83 H locs hp_83 hw => ?_)
        obtain ⟨iM_83, q_84, q_85, q_86, p0r_82⟩ := hp_83
        have hlr_82_25 : (25 : Int32).toInt = 25 := by decide
        simp only [hlr_82_25] at p0r_82
        obtain ⟨g_87, eg_87⟩ : ∃ z : Nat → Int, z = pp_tk B n 25 g_57 := ⟨_, rfl⟩
        rw [← eg_87] at p0r_82
        have lg_87_0 : g_87 0 = (tI M_83 2 4).toInt := p0r_82.2.1.1
        have lg_87_1 : g_87 1 = (tI M_83 2 6).toInt := p0r_82.2.1.2.1
        have lg_87_4 : g_87 4 = (tI M_83 1 4).toInt := p0r_82.2.2.1.1
        have lg_87_7 : g_87 7 = (tI M_83 t 4).toInt := p0r_82.2.2.2.1.1
        have lg_87_8 : g_87 8 = (tI M_83 t 5).toInt := p0r_82.2.2.2.1.2.1
        refine lv_aload_n hx hb dX4_readGuard_66 rfl (lv_at hl 2 rfl) ?_
        refine ti_get (ci := 4) (k := 1) (N := 6) (T := TX4) (v := .ref (A t 0)) C hw iw_4 rfl ob_1 (by decide) (by decide) fl_X4_28 rfl (ti_Tv ((tT_fr q_84).trans ((tT_fr q_54).trans ((tT_fr q_34).trans ((tT_fr q_28).trans ((tT_fr q_11).trans ((tT_fr q_3).trans hT))))))) dX4_readGuard_67 ?_
        refine ti_get (ci := 8) (k := 0) (N := 12) (T := TX8) (v := .ref (A t 1)) C hw iw_8 rfl (ob_t ht) (by decide) (by decide) fl_X4_101 rfl rfl dX4_readGuard_70 ?_
        refine lv_iload_n hx hb dX4_readGuard_73 rfl (lv_at hl 1 rfl) ?_
        refine ti_aald (ci := 8) (k := 0) (n := 8) (t0 := 5) (Cn := RX2) (gg := (ti_men t)) (j := r_9.toNatClampNeg) C hw (ob_t ht) (by decide) (fun _ _ => rfl) rfl (vp_in_iff.mpr (by omega)) rfl dX4_readGuard_74 ?_
        refine lv_iload_n hx hb dX4_readGuard_75 rfl (lv_at hl 0 rfl) ?_
        refine ti_putI (ci := 2) (k := 9) (N := 10) (T := TX2) C hw iw_2 tyX2 tyX2_ok nmX2 rfl ob_16 (by decide) (by decide) fl_X4_139 rfl rfl rfl rfl (fn_2 A _) fs_2_9 dX4_readGuard_76 (fun H locs hw => ?_)
        obtain ⟨M_88, hM_88⟩ : ∃ z : ti_M, z = uI M_83 (ti_men t r_9.toNatClampNeg) 9 r_32 := ⟨_, rfl⟩
        have hw := hw.to hM_88.symm
        have iM_88 : cI Tc M_88 := cI_uI iM_83 hM_88 ob_16.1 trivial
        have hs_89 := rC_m9 (j := r_9.toNatClampNeg) ht (i_nt (x := r_9) rfl (by omega) (by omega)) hM_88 p0r_82
        obtain ⟨g_90, eg_90⟩ : ∃ z : Nat → Int, z = pp_su g_87 (200 + r_9.toNatClampNeg) r_32.toInt := ⟨_, rfl⟩
        rw [← eg_90] at hs_89
        have lg_90_0 : g_90 0 = (tI M_88 2 4).toInt := hs_89.2.1.1
        have lg_90_1 : g_90 1 = (tI M_88 2 6).toInt := hs_89.2.1.2.1
        have lg_90_4 : g_90 4 = (tI M_88 1 4).toInt := hs_89.2.2.1.1
        have lg_90_7 : g_90 7 = (tI M_88 t 4).toInt := hs_89.2.2.2.1.1
        have lg_90_8 : g_90 8 = (tI M_88 t 5).toInt := hs_89.2.2.2.1.2.1
        have E1 : pp_g1 B n r_9.toInt g_14 = g_31 := by unfold pp_g1; rw [if_pos (by rw [gu]; omega), ← eg_31]
        have E2 : pp_g3 B n r_9.toInt g_31 = g_90 := by unfold pp_g3; rw [show pp_tv g_31 = r_32.toInt from p0r_32.symm, ← eg_37]; unfold pp_g2; rw [if_pos (by omega), show r_9.toInt.toNat = r_9.toNatClampNeg from rfl, ← eg_57, ← eg_87, ← eg_90]
        exact hQ _ _ _ _ _ hw (⟨iM_88, ((rf_I hM_88).trans ((q_84).trans ((q_54).trans ((q_34).trans ((q_28).trans ((q_11).trans q_3)))))), (f0.trans (f0_I hM_88 (f0n ob_16.1 (by decide))) (f0.trans (f0_12 q_85) (f0.trans (f0_12 q_55) (f0.trans (f0_12 q_35) (f0.trans (f0_12 q_29) (f0.trans (f0_12 q_12) (f0_12 (o2_12 q_4)))))))), ((tI_nE hM_88 (nk (by decide))).trans ((q_86).trans ((q_56).trans ((q_36).trans ((q_30).trans ((q_13).trans q_5)))))), (ot.trans (ot_m ht (i_nt (x := r_9) rfl (by omega) (by omega)) hM_88) (ot.trans (ot_12 ht q_85) (ot.trans (ot_12 ht q_55) (ot.trans (ot_12 ht q_35) (ot.trans (ot_12 ht q_29) (ot.trans (ot_12 ht q_12) (ot_12 ht (o2_12 q_4)))))))), (by unfold pp_gd; rw [← eg_8, ← eg_14, show pp_tv g_8 = r_9.toInt from p0r_9.symm, if_neg (by omega), E1, E2]; exact hs_89)⟩) dX4_readGuard_79
    · refine lv_aload_n hx hb dX4_readGuard_34 rfl (lv_at hl 1 rfl) ?_
      refine lv_iconst (v := 3) hx hb dX4_readGuard_35 (by decide) ?_
      refine ti_callVv (ci := 4) (av := [.int 3]) C hw (x_X4_refuse l D A cy hJ M_10 iM_10 t ht 3 B n g_14 p1r_9) ⟨ml_X4_82, ym_X4_refuse, yv_X4_refuse, yi_X4_refuse, yc_X4_refuse⟩ yd_X4_refuse ob_1 (by decide) rfl rfl hl.1 (Nat.le_of_ble_eq_true rfl) ⟨by decide, by decide⟩ ⟨Nat.zero_le _, Nat.zero_le _⟩ dX4_readGuard_36 (fun M_21 H locs hp_21 hw => ?_)
      obtain ⟨iM_21, q_22, q_23, q_24, p0r_20⟩ := hp_21
      have hlr_20_3 : (3 : Int32).toInt = 3 := by decide
      simp only [hlr_20_3] at p0r_20
      obtain ⟨g_25, eg_25⟩ : ∃ z : Nat → Int, z = pp_rf 3 g_14 := ⟨_, rfl⟩
      rw [← eg_25] at p0r_20
      have lg_25_0 : g_25 0 = (tI M_21 2 4).toInt := p0r_20.2.1.1
      have lg_25_1 : g_25 1 = (tI M_21 2 6).toInt := p0r_20.2.1.2.1
      have lg_25_4 : g_25 4 = (tI M_21 1 4).toInt := p0r_20.2.2.1.1
      have lg_25_7 : g_25 7 = (tI M_21 t 4).toInt := p0r_20.2.2.2.1.1
      have lg_25_8 : g_25 8 = (tI M_21 t 5).toInt := p0r_20.2.2.2.1.2.1
      refine lv_aload_n hx hb dX4_readGuard_39 rfl (lv_at hl 1 rfl) ?_
      refine lv_bipush (v := 25) hx hb dX4_readGuard_40 (by decide) ?_
      refine ti_callVvE (ci := 4) (av := [.int 25]) C hE hw (x_X4_take l D A cy hJ M_21 iM_21 t ht 25 B n g_25 p0r_20) ⟨ml_X4_85, ym_X4_take, yv_X4_take, yi_X4_take, yc_X4_take⟩ yd_X4_take ob_1 (by decide) rfl rfl hl.1 (Nat.le_of_ble_eq_true rfl) ⟨by decide, by decide⟩ ⟨Nat.zero_le _, Nat.zero_le _⟩ dX4_readGuard_42 (fun M_40 H locs hp_40 hw => ?_)
      obtain ⟨iM_40, q_41, q_42, q_43, p0r_39⟩ := hp_40
      have hlr_39_25 : (25 : Int32).toInt = 25 := by decide
      simp only [hlr_39_25] at p0r_39
      obtain ⟨g_44, eg_44⟩ : ∃ z : Nat → Int, z = pp_tk B n 25 g_25 := ⟨_, rfl⟩
      rw [← eg_44] at p0r_39
      have lg_44_0 : g_44 0 = (tI M_40 2 4).toInt := p0r_39.2.1.1
      have lg_44_1 : g_44 1 = (tI M_40 2 6).toInt := p0r_39.2.1.2.1
      have lg_44_4 : g_44 4 = (tI M_40 1 4).toInt := p0r_39.2.2.1.1
      have lg_44_7 : g_44 7 = (tI M_40 t 4).toInt := p0r_39.2.2.2.1.1
      have lg_44_8 : g_44 8 = (tI M_40 t 5).toInt := p0r_39.2.2.2.1.2.1
      refine lv_aload_n hx hb dX4_readGuard_45 rfl (lv_at hl 1 rfl) ?_
      refine ti_callVi (ci := 4) (av := []) C hw (x_X4_toldMan l D A cy hJ M_40 iM_40 t ht ((tT_fr q_41).trans ((tT_fr q_22).trans ((tT_fr q_11).trans ((tT_fr q_3).trans hT)))) B n g_44 p0r_39) ⟨ml_X4_142, ym_X4_toldMan, yv_X4_toldMan, yi_X4_toldMan, yc_X4_toldMan⟩ yd_X4_toldMan ob_1 (by decide) rfl rfl hl.1 (Nat.le_of_ble_eq_true rfl) ⟨by decide, by decide⟩ ⟨Nat.zero_le _, Nat.zero_le _⟩ dX4_readGuard_46 (fun r_45 M_46 H locs hp_46 hw => ?_)
      obtain ⟨iM_46, q_47, q_48, q_49, b0r_45, b1r_45, p0r_45, p1r_45⟩ := hp_46
      obtain ⟨g_50, eg_50⟩ : ∃ z : Nat → Int, z = pp_tm g_44 := ⟨_, rfl⟩
      rw [← eg_50] at p1r_45
      have lg_50_0 : g_50 0 = (tI M_46 2 4).toInt := p1r_45.2.1.1
      have lg_50_1 : g_50 1 = (tI M_46 2 6).toInt := p1r_45.2.1.2.1
      have lg_50_4 : g_50 4 = (tI M_46 1 4).toInt := p1r_45.2.2.1.1
      have lg_50_7 : g_50 7 = (tI M_46 t 4).toInt := p1r_45.2.2.2.1.1
      have lg_50_8 : g_50 8 = (tI M_46 t 5).toInt := p1r_45.2.2.2.1.2.1
      refine lv_istore_n (lv' := [(2, .int r_45), (1, .int r_9), (0, .ref (A 1 0))]) hx hb dX4_readGuard_49 rfl hl (by decide) rfl (fun ls hl => ?_)
      refine lv_iload_n hx hb dX4_readGuard_50 rfl (lv_at hl 0 rfl) ?_
      refine lv_iload_n hx hb dX4_readGuard_51 rfl (lv_at hl 1 rfl) ?_
      refine sb_icmp_ne (tgt := 60) hx hb rfl rfl dX4_readGuard_52 (by decide) (fun c_52_50 => ?_) (fun c_52_50 => ?_)
      · refine lv_aload_n hx hb dX4_readGuard_60 rfl (lv_at hl 2 rfl) ?_
        refine lv_bipush (v := 25) hx hb dX4_readGuard_61 (by decide) ?_
        refine ti_callVvE (ci := 4) (av := [.int 25]) C hE hw (x_X4_take l D A cy hJ M_46 iM_46 t ht 25 B n g_50 p1r_45) ⟨ml_X4_85, ym_X4_take, yv_X4_take, yi_X4_take, yc_X4_take⟩ yd_X4_take ob_1 (by decide) rfl rfl hl.1 (Nat.le_of_ble_eq_true rfl) ⟨by decide, by decide⟩ ⟨Nat.zero_le _, Nat.zero_le _⟩ dX4_readGuard_63 (fun M_74 H locs hp_74 hw => ?_)
        obtain ⟨iM_74, q_75, q_76, q_77, p0r_73⟩ := hp_74
        have hlr_73_25 : (25 : Int32).toInt = 25 := by decide
        simp only [hlr_73_25] at p0r_73
        obtain ⟨g_78, eg_78⟩ : ∃ z : Nat → Int, z = pp_tk B n 25 g_50 := ⟨_, rfl⟩
        rw [← eg_78] at p0r_73
        have lg_78_0 : g_78 0 = (tI M_74 2 4).toInt := p0r_73.2.1.1
        have lg_78_1 : g_78 1 = (tI M_74 2 6).toInt := p0r_73.2.1.2.1
        have lg_78_4 : g_78 4 = (tI M_74 1 4).toInt := p0r_73.2.2.1.1
        have lg_78_7 : g_78 7 = (tI M_74 t 4).toInt := p0r_73.2.2.2.1.1
        have lg_78_8 : g_78 8 = (tI M_74 t 5).toInt := p0r_73.2.2.2.1.2.1
        refine lv_aload_n hx hb dX4_readGuard_66 rfl (lv_at hl 2 rfl) ?_
        refine ti_get (ci := 4) (k := 1) (N := 6) (T := TX4) (v := .ref (A t 0)) C hw iw_4 rfl ob_1 (by decide) (by decide) fl_X4_28 rfl (ti_Tv ((tT_fr q_75).trans ((tT_fr q_47).trans ((tT_fr q_41).trans ((tT_fr q_22).trans ((tT_fr q_11).trans ((tT_fr q_3).trans hT))))))) dX4_readGuard_67 ?_
        refine ti_get (ci := 8) (k := 0) (N := 12) (T := TX8) (v := .ref (A t 1)) C hw iw_8 rfl (ob_t ht) (by decide) (by decide) fl_X4_101 rfl rfl dX4_readGuard_70 ?_
        refine lv_iload_n hx hb dX4_readGuard_73 rfl (lv_at hl 1 rfl) ?_
        refine ti_aald (ci := 8) (k := 0) (n := 8) (t0 := 5) (Cn := RX2) (gg := (ti_men t)) (j := r_9.toNatClampNeg) C hw (ob_t ht) (by decide) (fun _ _ => rfl) rfl (vp_in_iff.mpr (by omega)) rfl dX4_readGuard_74 ?_
        refine lv_iload_n hx hb dX4_readGuard_75 rfl (lv_at hl 0 rfl) ?_
        refine ti_putI (ci := 2) (k := 9) (N := 10) (T := TX2) C hw iw_2 tyX2 tyX2_ok nmX2 rfl ob_16 (by decide) (by decide) fl_X4_139 rfl rfl rfl rfl (fn_2 A _) fs_2_9 dX4_readGuard_76 (fun H locs hw => ?_)
        obtain ⟨M_79, hM_79⟩ : ∃ z : ti_M, z = uI M_74 (ti_men t r_9.toNatClampNeg) 9 r_45 := ⟨_, rfl⟩
        have hw := hw.to hM_79.symm
        have iM_79 : cI Tc M_79 := cI_uI iM_74 hM_79 ob_16.1 trivial
        have hs_80 := rC_m9 (j := r_9.toNatClampNeg) ht (i_nt (x := r_9) rfl (by omega) (by omega)) hM_79 p0r_73
        obtain ⟨g_81, eg_81⟩ : ∃ z : Nat → Int, z = pp_su g_78 (200 + r_9.toNatClampNeg) r_45.toInt := ⟨_, rfl⟩
        rw [← eg_81] at hs_80
        have lg_81_0 : g_81 0 = (tI M_79 2 4).toInt := hs_80.2.1.1
        have lg_81_1 : g_81 1 = (tI M_79 2 6).toInt := hs_80.2.1.2.1
        have lg_81_4 : g_81 4 = (tI M_79 1 4).toInt := hs_80.2.2.1.1
        have lg_81_7 : g_81 7 = (tI M_79 t 4).toInt := hs_80.2.2.2.1.1
        have lg_81_8 : g_81 8 = (tI M_79 t 5).toInt := hs_80.2.2.2.1.2.1
        have E1 : pp_g1 B n r_9.toInt g_14 = g_44 := by unfold pp_g1; rw [if_neg (by rw [gu]; omega), ← eg_25, ← eg_44]
        have E2 : pp_g3 B n r_9.toInt g_44 = g_81 := by unfold pp_g3; rw [show pp_tv g_44 = r_45.toInt from p0r_45.symm, ← eg_50]; unfold pp_g2; rw [if_neg (by omega), show r_9.toInt.toNat = r_9.toNatClampNeg from rfl, ← eg_78, ← eg_81]
        exact hQ _ _ _ _ _ hw (⟨iM_79, ((rf_I hM_79).trans ((q_75).trans ((q_47).trans ((q_41).trans ((q_22).trans ((q_11).trans q_3)))))), (f0.trans (f0_I hM_79 (f0n ob_16.1 (by decide))) (f0.trans (f0_12 q_76) (f0.trans (f0_12 q_48) (f0.trans (f0_12 q_42) (f0.trans (f0_12 q_23) (f0.trans (f0_12 q_12) (f0_12 (o2_12 q_4)))))))), ((tI_nE hM_79 (nk (by decide))).trans ((q_77).trans ((q_49).trans ((q_43).trans ((q_24).trans ((q_13).trans q_5)))))), (ot.trans (ot_m ht (i_nt (x := r_9) rfl (by omega) (by omega)) hM_79) (ot.trans (ot_12 ht q_76) (ot.trans (ot_12 ht q_48) (ot.trans (ot_12 ht q_42) (ot.trans (ot_12 ht q_23) (ot.trans (ot_12 ht q_12) (ot_12 ht (o2_12 q_4)))))))), (by unfold pp_gd; rw [← eg_8, ← eg_14, show pp_tv g_8 = r_9.toInt from p0r_9.symm, if_neg (by omega), E1, E2]; exact hs_80)⟩) dX4_readGuard_79
      · refine lv_aload_n hx hb dX4_readGuard_55 rfl (lv_at hl 2 rfl) ?_
        refine lv_iconst (v := 5) hx hb dX4_readGuard_56 (by decide) ?_
        refine ti_callVv (ci := 4) (av := [.int 5]) C hw (x_X4_refuse l D A cy hJ M_46 iM_46 t ht 5 B n g_50 p1r_45) ⟨ml_X4_82, ym_X4_refuse, yv_X4_refuse, yi_X4_refuse, yc_X4_refuse⟩ yd_X4_refuse ob_1 (by decide) rfl rfl hl.1 (Nat.le_of_ble_eq_true rfl) ⟨by decide, by decide⟩ ⟨Nat.zero_le _, Nat.zero_le _⟩ dX4_readGuard_57 (fun M_59 H locs hp_59 hw => ?_)
        obtain ⟨iM_59, q_60, q_61, q_62, p0r_58⟩ := hp_59
        have hlr_58_5 : (5 : Int32).toInt = 5 := by decide
        simp only [hlr_58_5] at p0r_58
        obtain ⟨g_63, eg_63⟩ : ∃ z : Nat → Int, z = pp_rf 5 g_50 := ⟨_, rfl⟩
        rw [← eg_63] at p0r_58
        have lg_63_0 : g_63 0 = (tI M_59 2 4).toInt := p0r_58.2.1.1
        have lg_63_1 : g_63 1 = (tI M_59 2 6).toInt := p0r_58.2.1.2.1
        have lg_63_4 : g_63 4 = (tI M_59 1 4).toInt := p0r_58.2.2.1.1
        have lg_63_7 : g_63 7 = (tI M_59 t 4).toInt := p0r_58.2.2.2.1.1
        have lg_63_8 : g_63 8 = (tI M_59 t 5).toInt := p0r_58.2.2.2.1.2.1
        refine lv_aload_n hx hb dX4_readGuard_60 rfl (lv_at hl 2 rfl) ?_
        refine lv_bipush (v := 25) hx hb dX4_readGuard_61 (by decide) ?_
        refine ti_callVvE (ci := 4) (av := [.int 25]) C hE hw (x_X4_take l D A cy hJ M_59 iM_59 t ht 25 B n g_63 p0r_58) ⟨ml_X4_85, ym_X4_take, yv_X4_take, yi_X4_take, yc_X4_take⟩ yd_X4_take ob_1 (by decide) rfl rfl hl.1 (Nat.le_of_ble_eq_true rfl) ⟨by decide, by decide⟩ ⟨Nat.zero_le _, Nat.zero_le _⟩ dX4_readGuard_63 (fun M_92 H locs hp_92 hw => ?_)
        obtain ⟨iM_92, q_93, q_94, q_95, p0r_91⟩ := hp_92
        have hlr_91_25 : (25 : Int32).toInt = 25 := by decide
        simp only [hlr_91_25] at p0r_91
        obtain ⟨g_96, eg_96⟩ : ∃ z : Nat → Int, z = pp_tk B n 25 g_63 := ⟨_, rfl⟩
        rw [← eg_96] at p0r_91
        have lg_96_0 : g_96 0 = (tI M_92 2 4).toInt := p0r_91.2.1.1
        have lg_96_1 : g_96 1 = (tI M_92 2 6).toInt := p0r_91.2.1.2.1
        have lg_96_4 : g_96 4 = (tI M_92 1 4).toInt := p0r_91.2.2.1.1
        have lg_96_7 : g_96 7 = (tI M_92 t 4).toInt := p0r_91.2.2.2.1.1
        have lg_96_8 : g_96 8 = (tI M_92 t 5).toInt := p0r_91.2.2.2.1.2.1
        refine lv_aload_n hx hb dX4_readGuard_66 rfl (lv_at hl 2 rfl) ?_
        refine ti_get (ci := 4) (k := 1) (N := 6) (T := TX4) (v := .ref (A t 0)) C hw iw_4 rfl ob_1 (by decide) (by decide) fl_X4_28 rfl (ti_Tv ((tT_fr q_93).trans ((tT_fr q_60).trans ((tT_fr q_47).trans ((tT_fr q_41).trans ((tT_fr q_22).trans ((tT_fr q_11).trans ((tT_fr q_3).trans hT)))))))) dX4_readGuard_67 ?_
        refine ti_get (ci := 8) (k := 0) (N := 12) (T := TX8) (v := .ref (A t 1)) C hw iw_8 rfl (ob_t ht) (by decide) (by decide) fl_X4_101 rfl rfl dX4_readGuard_70 ?_
        refine lv_iload_n hx hb dX4_readGuard_73 rfl (lv_at hl 1 rfl) ?_
        refine ti_aald (ci := 8) (k := 0) (n := 8) (t0 := 5) (Cn := RX2) (gg := (ti_men t)) (j := r_9.toNatClampNeg) C hw (ob_t ht) (by decide) (fun _ _ => rfl) rfl (vp_in_iff.mpr (by omega)) rfl dX4_readGuard_74 ?_
        refine lv_iload_n hx hb dX4_readGuard_75 rfl (lv_at hl 0 rfl) ?_
        refine ti_putI (ci := 2) (k := 9) (N := 10) (T := TX2) C hw iw_2 tyX2 tyX2_ok nmX2 rfl ob_16 (by decide) (by decide) fl_X4_139 rfl rfl rfl rfl (fn_2 A _) fs_2_9 dX4_readGuard_76 (fun H locs hw => ?_)
        obtain ⟨M_97, hM_97⟩ : ∃ z : ti_M, z = uI M_92 (ti_men t r_9.toNatClampNeg) 9 r_45 := ⟨_, rfl⟩
        have hw := hw.to hM_97.symm
        have iM_97 : cI Tc M_97 := cI_uI iM_92 hM_97 ob_16.1 trivial
        have hs_98 := rC_m9 (j := r_9.toNatClampNeg) ht (i_nt (x := r_9) rfl (by omega) (by omega)) hM_97 p0r_91
        obtain ⟨g_99, eg_99⟩ : ∃ z : Nat → Int, z = pp_su g_96 (200 + r_9.toNatClampNeg) r_45.toInt := ⟨_, rfl⟩
        rw [← eg_99] at hs_98
        have lg_99_0 : g_99 0 = (tI M_97 2 4).toInt := hs_98.2.1.1
        have lg_99_1 : g_99 1 = (tI M_97 2 6).toInt := hs_98.2.1.2.1
        have lg_99_4 : g_99 4 = (tI M_97 1 4).toInt := hs_98.2.2.1.1
        have lg_99_7 : g_99 7 = (tI M_97 t 4).toInt := hs_98.2.2.2.1.1
        have lg_99_8 : g_99 8 = (tI M_97 t 5).toInt := hs_98.2.2.2.1.2.1
        have E1 : pp_g1 B n r_9.toInt g_14 = g_44 := by unfold pp_g1; rw [if_neg (by rw [gu]; omega), ← eg_25, ← eg_44]
        have E2 : pp_g3 B n r_9.toInt g_44 = g_99 := by unfold pp_g3; rw [show pp_tv g_44 = r_45.toInt from p0r_45.symm, ← eg_50]; unfold pp_g2; rw [if_pos (by omega), show r_9.toInt.toNat = r_9.toNatClampNeg from rfl, ← eg_63, ← eg_96, ← eg_99]
        exact hQ _ _ _ _ _ hw (⟨iM_97, ((rf_I hM_97).trans ((q_93).trans ((q_60).trans ((q_47).trans ((q_41).trans ((q_22).trans ((q_11).trans q_3))))))), (f0.trans (f0_I hM_97 (f0n ob_16.1 (by decide))) (f0.trans (f0_12 q_94) (f0.trans (f0_12 q_61) (f0.trans (f0_12 q_48) (f0.trans (f0_12 q_42) (f0.trans (f0_12 q_23) (f0.trans (f0_12 q_12) (f0_12 (o2_12 q_4))))))))), ((tI_nE hM_97 (nk (by decide))).trans ((q_95).trans ((q_62).trans ((q_49).trans ((q_43).trans ((q_24).trans ((q_13).trans q_5))))))), (ot.trans (ot_m ht (i_nt (x := r_9) rfl (by omega) (by omega)) hM_97) (ot.trans (ot_12 ht q_94) (ot.trans (ot_12 ht q_61) (ot.trans (ot_12 ht q_48) (ot.trans (ot_12 ht q_42) (ot.trans (ot_12 ht q_23) (ot.trans (ot_12 ht q_12) (ot_12 ht (o2_12 q_4))))))))), (by unfold pp_gd; rw [← eg_8, ← eg_14, show pp_tv g_8 = r_9.toInt from p0r_9.symm, if_neg (by omega), E1, E2]; exact hs_98)⟩) dX4_readGuard_79
  · exact hQ _ _ _ _ _ hw (⟨iM_10, ((q_11).trans q_3), (f0.trans (f0_12 q_12) (f0_12 (o2_12 q_4))), ((q_13).trans q_5), (ot.trans (ot_12 ht q_12) (ot_12 ht (o2_12 q_4))), (by unfold pp_gd; rw [← eg_8, ← eg_14, show pp_tv g_8 = r_9.toInt from p0r_9.symm, if_pos (by omega)]; exact p1r_9)⟩) dX4_readGuard_17

variable {Tc : Nat → Int32} {Tm : (Nat → Int32) × Int32 × Int32}
def pp_m1 (B : Nat → Int) (n : Nat) (s : Nat → Int) : Nat → Int := pp_su (pp_av B n s) (100 + (s 7).toNat) (pp_av B n s 1)
def pp_m2 (s : Nat → Int) : Nat → Int := if s 0 = 25 ∧ ¬ pp_fd s (s 1) 0 = -1 then pp_rf 3 s else s
def pp_m3 (B : Nat → Int) (n : Nat) (s : Nat → Int) : Nat → Int := pp_nb B n 0 59 (pp_nb B n 0 99 (pp_nb B n 0 99 (pp_nb B n 1 30 (pp_nb B n 1 99 (pp_nb B n 0 9 (pp_nb B n 1 99 (pp_tk B n 25 s)))))))
def pp_m4 (B : Nat → Int) (n : Nat) (s : Nat → Int) : Nat → Int := if s 0 = 15 then pp_av B n s else s
def pp_m5 (s : Nat → Int) : Nat → Int := pp_su (pp_su s (200 + (s 7).toNat) (-1)) 7 (s 7 + 1)
/-- a line of a man -/
def pp_mn (B : Nat → Int) (n : Nat) (s : Nat → Int) : Nat → Int := if s 7 < 8 then pp_m5 (pp_m4 B n (pp_m3 B n (pp_m2 (pp_m1 B n s)))) else pp_rf 2 s
def pp_g1 (B : Nat → Int) (n : Nat) (a : Int) (s : Nat → Int) : Nat → Int := pp_tk B n 25 (if s (200 + a.toNat) = -1 then s else pp_rf 3 s)
def pp_g2 (B : Nat → Int) (n : Nat) (a b : Int) (s : Nat → Int) : Nat → Int := pp_su (pp_tk B n 25 (if b = a then pp_rf 5 s else s)) (200 + a.toNat) b
def pp_g3 (B : Nat → Int) (n : Nat) (a : Int) (s : Nat → Int) : Nat → Int := pp_g2 B n a (pp_tv s) (pp_tm s)
/-- a line of a guard, behind its first word -/
def pp_gd (B : Nat → Int) (n : Nat) (s : Nat → Int) : Nat → Int := if pp_tv (pp_av B n s) = -1 then pp_tm (pp_av B n s) else pp_g3 B n (pp_tv (pp_av B n s)) (pp_g1 B n (pp_tv (pp_av B n s)) (pp_tm (pp_av B n s)))
/-- a line of a power -/
def pp_pw (B : Nat → Int) (n : Nat) (s : Nat → Int) : Nat → Int := if 9 ≤ pp_av B n s 0 ∧ pp_av B n s 0 ≤ 11 then pp_nb B n 0 7 (pp_on B n (pp_av B n s)) else pp_rf 1 (pp_av B n s)
set_option maxHeartbeats 4000000 in
set_option maxRecDepth 100000 in
theorem x_X4_readMan (l : Launch) (D : va_G) (A : Nat → Nat → Nat) (cy : Nat → ClassId) (hJ : ti_inj ti_LT A) (M : ti_M) (hI : cI Tc M) (t : Nat) (ht : t = 3 ∨ t = 4) (hT : tT M 1 1 = some t) (B : Nat → Int) (n : Nat) (rg : Nat → Int) (hr : rC B n t rg M) : ti_KvE l yX4_readMan cX4_readMan 2 8 ti_LT D A cy M [.ref (A 1 0)] (fun M2 => cI Tc M2 ∧ M2.2.2.2 = M.2.2.2 ∧ f0 M2 M ∧ tI M2 2 1 = tI M 2 1 ∧ rC B n t (pp_mn B n rg) M2) := by
  refine ti_eVE yp_X4_readMan hJ ti_LT_nd (Nat.le_of_ble_eq_true rfl) ?_
  intro p e s m args below meth c Q H0 C hE hQ hw ls hl
  have hx := C.1
  have hb := C.2.1
  have hl : lv_has ls 2 [(0, .ref (A 1 0))] := hl
  have l0 : rg 0 = (tI M 2 4).toInt := hr.2.1.1
  have l1 : rg 1 = (tI M 2 6).toInt := hr.2.1.2.1
  have l2 : rg 2 = (tI M 2 5).toInt := hr.2.1.2.2.1
  have l3 : rg 3 = (tI M 2 3).toInt := hr.2.1.2.2.2
  have l4 : rg 4 = (tI M 1 4).toInt := hr.2.2.1.1
  have l5 : rg 5 = (tI M 1 5).toInt := hr.2.2.1.2.1
  have l7 : rg 7 = (tI M t 4).toInt := hr.2.2.2.1.1
  have l8 : rg 8 = (tI M t 5).toInt := hr.2.2.2.1.2.1
  have l9 : rg 9 = (tI M t 3).toInt := hr.2.2.2.1.2.2
  refine lv_aload_n hx hb dX4_readMan_0 rfl (lv_at hl 0 rfl) ?_
  refine ti_get (ci := 4) (k := 1) (N := 6) (T := TX4) (v := .ref (A t 0)) C hw iw_4 rfl ob_1 (by decide) (by decide) fl_X4_28 rfl (ti_Tv (hT)) dX4_readMan_1 ?_
  refine ti_get (ci := 8) (k := 4) (N := 12) (T := TX8) C hw iw_8 rfl (ob_t ht) (by decide) (by decide) fl_X4_98 rfl rfl dX4_readMan_4 ?_
  refine lv_topi (fun x_1 ex_1 => ?_)
  have bx_1 : 0 ≤ x_1.toInt ∧ x_1.toInt ≤ 8 := cI_rd hI (ob_t ht).1 ex_1
  have ux_1 : (tI M t 4).toInt = x_1.toInt := by rw [ex_1]
  refine lv_bipush (v := 8) hx hb dX4_readMan_7 (by decide) ?_
  refine sb_icmp_lt (tgt := 18) hx hb rfl (by decide : (8 : Int32).toInt = 8) dX4_readMan_9 (by decide) (fun c_9_1 => ?_) (fun c_9_1 => ?_)
  · refine lv_aload_n hx hb dX4_readMan_18 rfl (lv_at hl 0 rfl) ?_
    refine ti_get (ci := 4) (k := 1) (N := 6) (T := TX4) (v := .ref (A t 0)) C hw iw_4 rfl ob_1 (by decide) (by decide) fl_X4_28 rfl (ti_Tv (hT)) dX4_readMan_19 ?_
    refine ti_get (ci := 8) (k := 0) (N := 12) (T := TX8) (v := .ref (A t 1)) C hw iw_8 rfl (ob_t ht) (by decide) (by decide) fl_X4_101 rfl rfl dX4_readMan_22 ?_
    refine lv_aload_n hx hb dX4_readMan_25 rfl (lv_at hl 0 rfl) ?_
    refine ti_get (ci := 4) (k := 1) (N := 6) (T := TX4) (v := .ref (A t 0)) C hw iw_4 rfl ob_1 (by decide) (by decide) fl_X4_28 rfl (ti_Tv (hT)) dX4_readMan_26 ?_
    refine ti_get (ci := 8) (k := 4) (N := 12) (T := TX8) C hw iw_8 rfl (ob_t ht) (by decide) (by decide) fl_X4_98 rfl rfl dX4_readMan_29 ?_
    refine ti_top (y := x_1) (ex_1.symm) ?_
    have u_9 : (tI M t 4).toInt = (x_1 : Int32).toInt := by rw [(ex_1.symm)]
    refine ti_aald (ci := 8) (k := 0) (n := 8) (t0 := 5) (Cn := RX2) (gg := (ti_men t)) (j := x_1.toNatClampNeg) C hw (ob_t ht) (by decide) (fun _ _ => rfl) rfl (vp_in_iff.mpr (by omega)) rfl dX4_readMan_32 ?_
    have ob_10 : ti_ob ti_LT (ti_men t x_1.toNatClampNeg) 2 := ob_m ht (i_nt rfl (by omega) (by omega))
    refine lv_astore_n (lv' := [(1, .ref (A (ti_men t x_1.toNatClampNeg) 0)), (0, .ref (A 1 0))]) hx hb dX4_readMan_33 rfl hl (by decide) rfl (fun ls hl => ?_)
    refine lv_aload_n hx hb dX4_readMan_34 rfl (lv_at hl 1 rfl) ?_
    refine ti_get (ci := 4) (k := 0) (N := 6) (T := TX4) (v := .ref (A 2 0)) C hw iw_4 rfl ob_1 (by decide) (by decide) fl_X4_12 rfl rfl dX4_readMan_35 ?_
    refine ti_callVvE (ci := 7) (av := []) C hE hw (x_X7_advance l D A cy hJ M hI ) ⟨ml_X4_92, ym_X7_advance, yv_X7_advance, yi_X7_advance, yc_X7_advance⟩ yd_X7_advance ob_2 (by decide) rfl rfl hl.1 (Nat.le_of_ble_eq_true rfl) ⟨by decide, by decide⟩ ⟨Nat.zero_le _, Nat.zero_le _⟩ dX4_readMan_38 (fun M_12 H locs hp_12 hw => ?_)
    obtain ⟨iM_12, q_13, q_14, q_15, q_16, p0r_11, p1r_11, p2r_11, p3r_11⟩ := hp_12
    have hs_17 := rC_av ht hr q_16 q_14 p0r_11 p1r_11 p2r_11 p3r_11
    obtain ⟨g_18, eg_18⟩ : ∃ z : Nat → Int, z = pp_av B n rg := ⟨_, rfl⟩
    rw [← eg_18] at hs_17
    have lg_18_0 : g_18 0 = (tI M_12 2 4).toInt := hs_17.2.1.1
    have lg_18_1 : g_18 1 = (tI M_12 2 6).toInt := hs_17.2.1.2.1
    have lg_18_4 : g_18 4 = (tI M_12 1 4).toInt := hs_17.2.2.1.1
    have lg_18_7 : g_18 7 = (tI M_12 t 4).toInt := hs_17.2.2.2.1.1
    have lg_18_8 : g_18 8 = (tI M_12 t 5).toInt := hs_17.2.2.2.1.2.1
    refine lv_aload_n hx hb dX4_readMan_41 rfl (lv_at hl 0 rfl) ?_
    refine lv_aload_n hx hb dX4_readMan_42 rfl (lv_at hl 1 rfl) ?_
    refine ti_get (ci := 4) (k := 0) (N := 6) (T := TX4) (v := .ref (A 2 0)) C hw iw_4 rfl ob_1 (by decide) (by decide) fl_X4_12 rfl rfl dX4_readMan_43 ?_
    refine ti_get (ci := 7) (k := 6) (N := 7) (T := TX7) C hw iw_7 rfl ob_2 (by decide) (by decide) fl_X4_95 rfl rfl dX4_readMan_46 ?_
    refine lv_topi (fun x_19 ex_19 => ?_)
    have bx_19 : 0 ≤ x_19.toInt ∧ x_19.toInt ≤ 2147483647 := cI_rd iM_12 ob_2.1 ex_19
    have ux_19 : (tI M_12 2 6).toInt = x_19.toInt := by rw [ex_19]
    refine ti_putI (ci := 2) (k := 0) (N := 10) (T := TX2) C hw iw_2 tyX2 tyX2_ok nmX2 rfl ob_10 (by decide) (by decide) fl_X4_105 rfl rfl rfl rfl (fn_2 A _) fs_2_0 dX4_readMan_49 (fun H locs hw => ?_)
    obtain ⟨M_20, hM_20⟩ : ∃ z : ti_M, z = uI M_12 (ti_men t x_1.toNatClampNeg) 0 x_19 := ⟨_, rfl⟩
    have hw := hw.to hM_20.symm
    have iM_20 : cI Tc M_20 := cI_uI iM_12 hM_20 ob_10.1 trivial
    have hs_21 := rC_m0 (j := x_1.toNatClampNeg) ht (i_nt (x := x_1) rfl (by omega) (by omega)) hM_20 hs_17
    obtain ⟨g_22, eg_22⟩ : ∃ z : Nat → Int, z = pp_su g_18 (100 + x_1.toNatClampNeg) x_19.toInt := ⟨_, rfl⟩
    rw [← eg_22] at hs_21
    have lg_22_0 : g_22 0 = (tI M_20 2 4).toInt := hs_21.2.1.1
    have lg_22_1 : g_22 1 = (tI M_20 2 6).toInt := hs_21.2.1.2.1
    have lg_22_4 : g_22 4 = (tI M_20 1 4).toInt := hs_21.2.2.1.1
    have lg_22_7 : g_22 7 = (tI M_20 t 4).toInt := hs_21.2.2.2.1.1
    have lg_22_8 : g_22 8 = (tI M_20 t 5).toInt := hs_21.2.2.2.1.2.1
    have v1 : g_22 1 = x_19.toInt := by rw [lg_22_1, ((tI_nE hM_20 (nk (by decide))).trans ex_19.symm)]
    refine lv_aload_n hx hb dX4_readMan_52 rfl (lv_at hl 1 rfl) ?_
    refine ti_get (ci := 4) (k := 0) (N := 6) (T := TX4) (v := .ref (A 2 0)) C hw iw_4 rfl ob_1 (by decide) (by decide) fl_X4_12 rfl rfl dX4_readMan_53 ?_
    refine ti_get (ci := 7) (k := 4) (N := 7) (T := TX7) C hw iw_7 rfl ob_2 (by decide) (by decide) fl_X4_41 rfl rfl dX4_readMan_56 ?_
    refine lv_topi (fun x_23 ex_23 => ?_)
    have bx_23 : 0 ≤ x_23.toInt ∧ x_23.toInt ≤ 41 := cI_rd iM_20 ob_2.1 ex_23
    have ux_23 : (tI M_20 2 4).toInt = x_23.toInt := by rw [ex_23]
    refine lv_bipush (v := 25) hx hb dX4_readMan_59 (by decide) ?_
    have hj_84_42 : ∀ (M_34 : ti_M) (g_40 : Nat → Int) (H : Heap) (locs : List Loc) (ls : Array Slot), (cI Tc M_34) → (M_34.2.2.2 = M.2.2.2) → (f0 M_34 M) → (tI M_34 2 1 = tI M 2 1) → (tI M_34 t 4 = x_1) → (tT M_34 1 1 = (some t)) → (rC B n t g_40 M_34) → (pp_m2 g_22 = g_40) → ti_H ti_LT D A cy H0 M_34 H locs → lv_has ls 2 [(1, .ref (A (ti_men t x_1.toNatClampNeg) 0)), (0, .ref (A 1 0))] → W p l e (ti_rm 8) s m args below meth c H locs 0 0 Q (F0 m 84 ls []) := by
      intro M_34 g_40 H locs ls iM_34 f_35 f_36 f_37 f_38 f_39 hs_41 j_42 hw hl
      have lg_40_0 : g_40 0 = (tI M_34 2 4).toInt := hs_41.2.1.1
      have lg_40_1 : g_40 1 = (tI M_34 2 6).toInt := hs_41.2.1.2.1
      have lg_40_4 : g_40 4 = (tI M_34 1 4).toInt := hs_41.2.2.1.1
      have lg_40_7 : g_40 7 = (tI M_34 t 4).toInt := hs_41.2.2.2.1.1
      have lg_40_8 : g_40 8 = (tI M_34 t 5).toInt := hs_41.2.2.2.1.2.1
      refine lv_aload_n hx hb dX4_readMan_84 rfl (lv_at hl 1 rfl) ?_
      refine lv_bipush (v := 25) hx hb dX4_readMan_85 (by decide) ?_
      refine ti_callVvE (ci := 4) (av := [.int 25]) C hE hw (x_X4_take l D A cy hJ M_34 iM_34 t ht 25 B n g_40 hs_41) ⟨ml_X4_85, ym_X4_take, yv_X4_take, yi_X4_take, yc_X4_take⟩ yd_X4_take ob_1 (by decide) rfl rfl hl.1 (Nat.le_of_ble_eq_true rfl) ⟨by decide, by decide⟩ ⟨Nat.zero_le _, Nat.zero_le _⟩ dX4_readMan_87 (fun M_44 H locs hp_44 hw => ?_)
      obtain ⟨iM_44, q_45, q_46, q_47, p0r_43⟩ := hp_44
      have hlr_43_25 : (25 : Int32).toInt = 25 := by decide
      simp only [hlr_43_25] at p0r_43
      obtain ⟨g_48, eg_48⟩ : ∃ z : Nat → Int, z = pp_tk B n 25 g_40 := ⟨_, rfl⟩
      rw [← eg_48] at p0r_43
      have lg_48_0 : g_48 0 = (tI M_44 2 4).toInt := p0r_43.2.1.1
      have lg_48_1 : g_48 1 = (tI M_44 2 6).toInt := p0r_43.2.1.2.1
      have lg_48_4 : g_48 4 = (tI M_44 1 4).toInt := p0r_43.2.2.1.1
      have lg_48_7 : g_48 7 = (tI M_44 t 4).toInt := p0r_43.2.2.2.1.1
      have lg_48_8 : g_48 8 = (tI M_44 t 5).toInt := p0r_43.2.2.2.1.2.1
      refine lv_aload_n hx hb dX4_readMan_90 rfl (lv_at hl 0 rfl) ?_
      refine lv_aload_n hx hb dX4_readMan_91 rfl (lv_at hl 1 rfl) ?_
      refine lv_iconst (v := 1) hx hb dX4_readMan_92 (by decide) ?_
      refine lv_bipush (v := 99) hx hb dX4_readMan_93 (by decide) ?_
      refine ti_callViE (ci := 4) (av := [.int 1, .int 99]) C hE hw (x_X4_number l D A cy hJ M_44 iM_44 t ht 1 99 B n g_48 p0r_43) ⟨ml_X4_56, ym_X4_number, yv_X4_number, yi_X4_number, yc_X4_number⟩ yd_X4_number ob_1 (by decide) rfl rfl hl.1 (Nat.le_of_ble_eq_true rfl) ⟨by decide, by decide⟩ ⟨Nat.zero_le _, Nat.zero_le _⟩ dX4_readMan_95 (fun r_49 M_50 H locs hp_50 hw => ?_)
      obtain ⟨iM_50, q_51, q_52, q_53, p0r_49, p1r_49⟩ := hp_50
      have hlr_49_1 : (1 : Int32).toInt = 1 := by decide
      have hlr_49_99 : (99 : Int32).toInt = 99 := by decide
      simp only [hlr_49_1, hlr_49_99] at p1r_49
      obtain ⟨g_54, eg_54⟩ : ∃ z : Nat → Int, z = pp_nb B n 1 99 g_48 := ⟨_, rfl⟩
      rw [← eg_54] at p1r_49
      have lg_54_0 : g_54 0 = (tI M_50 2 4).toInt := p1r_49.2.1.1
      have lg_54_1 : g_54 1 = (tI M_50 2 6).toInt := p1r_49.2.1.2.1
      have lg_54_4 : g_54 4 = (tI M_50 1 4).toInt := p1r_49.2.2.1.1
      have lg_54_7 : g_54 7 = (tI M_50 t 4).toInt := p1r_49.2.2.2.1.1
      have lg_54_8 : g_54 8 = (tI M_50 t 5).toInt := p1r_49.2.2.2.1.2.1
      refine ti_putI (ci := 2) (k := 1) (N := 10) (T := TX2) C hw iw_2 tyX2 tyX2_ok nmX2 rfl ob_10 (by decide) (by decide) fl_X4_114 rfl rfl rfl rfl (fn_2 A _) fs_2_1 dX4_readMan_98 (fun H locs hw => ?_)
      obtain ⟨M_55, hM_55⟩ : ∃ z : ti_M, z = uI M_50 (ti_men t x_1.toNatClampNeg) 1 r_49 := ⟨_, rfl⟩
      have hw := hw.to hM_55.symm
      have iM_55 : cI Tc M_55 := cI_uI iM_50 hM_55 ob_10.1 trivial
      have hs_56 := rC_m1x (j := x_1.toNatClampNeg) ht hM_55 p1r_49
      have lM_55_0 : g_54 0 = (tI M_55 2 4).toInt := hs_56.2.1.1
      have lM_55_1 : g_54 1 = (tI M_55 2 6).toInt := hs_56.2.1.2.1
      have lM_55_4 : g_54 4 = (tI M_55 1 4).toInt := hs_56.2.2.1.1
      have lM_55_7 : g_54 7 = (tI M_55 t 4).toInt := hs_56.2.2.2.1.1
      have lM_55_8 : g_54 8 = (tI M_55 t 5).toInt := hs_56.2.2.2.1.2.1
      refine lv_aload_n hx hb dX4_readMan_101 rfl (lv_at hl 0 rfl) ?_
      refine lv_aload_n hx hb dX4_readMan_102 rfl (lv_at hl 1 rfl) ?_
      refine lv_iconst (v := 0) hx hb dX4_readMan_103 (by decide) ?_
      refine lv_bipush (v := 9) hx hb dX4_readMan_104 (by decide) ?_
      refine ti_callViE (ci := 4) (av := [.int 0, .int 9]) C hE hw (x_X4_number l D A cy hJ M_55 iM_55 t ht 0 9 B n g_54 hs_56) ⟨ml_X4_56, ym_X4_number, yv_X4_number, yi_X4_number, yc_X4_number⟩ yd_X4_number ob_1 (by decide) rfl rfl hl.1 (Nat.le_of_ble_eq_true rfl) ⟨by decide, by decide⟩ ⟨Nat.zero_le _, Nat.zero_le _⟩ dX4_readMan_106 (fun r_57 M_58 H locs hp_58 hw => ?_)
      obtain ⟨iM_58, q_59, q_60, q_61, p0r_57, p1r_57⟩ := hp_58
      have hlr_57_0 : (0 : Int32).toInt = 0 := by decide
      have hlr_57_9 : (9 : Int32).toInt = 9 := by decide
      simp only [hlr_57_0, hlr_57_9] at p1r_57
      obtain ⟨g_62, eg_62⟩ : ∃ z : Nat → Int, z = pp_nb B n 0 9 g_54 := ⟨_, rfl⟩
      rw [← eg_62] at p1r_57
      have lg_62_0 : g_62 0 = (tI M_58 2 4).toInt := p1r_57.2.1.1
      have lg_62_1 : g_62 1 = (tI M_58 2 6).toInt := p1r_57.2.1.2.1
      have lg_62_4 : g_62 4 = (tI M_58 1 4).toInt := p1r_57.2.2.1.1
      have lg_62_7 : g_62 7 = (tI M_58 t 4).toInt := p1r_57.2.2.2.1.1
      have lg_62_8 : g_62 8 = (tI M_58 t 5).toInt := p1r_57.2.2.2.1.2.1
      refine ti_putI (ci := 2) (k := 2) (N := 10) (T := TX2) C hw iw_2 tyX2 tyX2_ok nmX2 rfl ob_10 (by decide) (by decide) fl_X4_117 rfl rfl rfl rfl (fn_2 A _) fs_2_2 dX4_readMan_109 (fun H locs hw => ?_)
      obtain ⟨M_63, hM_63⟩ : ∃ z : ti_M, z = uI M_58 (ti_men t x_1.toNatClampNeg) 2 r_57 := ⟨_, rfl⟩
      have hw := hw.to hM_63.symm
      have iM_63 : cI Tc M_63 := cI_uI iM_58 hM_63 ob_10.1 trivial
      have hs_64 := rC_m2x (j := x_1.toNatClampNeg) ht hM_63 p1r_57
      have lM_63_0 : g_62 0 = (tI M_63 2 4).toInt := hs_64.2.1.1
      have lM_63_1 : g_62 1 = (tI M_63 2 6).toInt := hs_64.2.1.2.1
      have lM_63_4 : g_62 4 = (tI M_63 1 4).toInt := hs_64.2.2.1.1
      have lM_63_7 : g_62 7 = (tI M_63 t 4).toInt := hs_64.2.2.2.1.1
      have lM_63_8 : g_62 8 = (tI M_63 t 5).toInt := hs_64.2.2.2.1.2.1
      refine lv_aload_n hx hb dX4_readMan_112 rfl (lv_at hl 0 rfl) ?_
      refine lv_aload_n hx hb dX4_readMan_113 rfl (lv_at hl 1 rfl) ?_
      refine lv_iconst (v := 1) hx hb dX4_readMan_114 (by decide) ?_
      refine lv_bipush (v := 99) hx hb dX4_readMan_115 (by decide) ?_
      refine ti_callViE (ci := 4) (av := [.int 1, .int 99]) C hE hw (x_X4_number l D A cy hJ M_63 iM_63 t ht 1 99 B n g_62 hs_64) ⟨ml_X4_56, ym_X4_number, yv_X4_number, yi_X4_number, yc_X4_number⟩ yd_X4_number ob_1 (by decide) rfl rfl hl.1 (Nat.le_of_ble_eq_true rfl) ⟨by decide, by decide⟩ ⟨Nat.zero_le _, Nat.zero_le _⟩ dX4_readMan_117 (fun r_65 M_66 H locs hp_66 hw => ?_)
      obtain ⟨iM_66, q_67, q_68, q_69, p0r_65, p1r_65⟩ := hp_66
      have hlr_65_1 : (1 : Int32).toInt = 1 := by decide
      have hlr_65_99 : (99 : Int32).toInt = 99 := by decide
      simp only [hlr_65_1, hlr_65_99] at p1r_65
      obtain ⟨g_70, eg_70⟩ : ∃ z : Nat → Int, z = pp_nb B n 1 99 g_62 := ⟨_, rfl⟩
      rw [← eg_70] at p1r_65
      have lg_70_0 : g_70 0 = (tI M_66 2 4).toInt := p1r_65.2.1.1
      have lg_70_1 : g_70 1 = (tI M_66 2 6).toInt := p1r_65.2.1.2.1
      have lg_70_4 : g_70 4 = (tI M_66 1 4).toInt := p1r_65.2.2.1.1
      have lg_70_7 : g_70 7 = (tI M_66 t 4).toInt := p1r_65.2.2.2.1.1
      have lg_70_8 : g_70 8 = (tI M_66 t 5).toInt := p1r_65.2.2.2.1.2.1
      refine ti_putI (ci := 2) (k := 3) (N := 10) (T := TX2) C hw iw_2 tyX2 tyX2_ok nmX2 rfl ob_10 (by decide) (by decide) fl_X4_120 rfl rfl rfl rfl (fn_2 A _) fs_2_3 dX4_readMan_120 (fun H locs hw => ?_)
      obtain ⟨M_71, hM_71⟩ : ∃ z : ti_M, z = uI M_66 (ti_men t x_1.toNatClampNeg) 3 r_65 := ⟨_, rfl⟩
      have hw := hw.to hM_71.symm
      have iM_71 : cI Tc M_71 := cI_uI iM_66 hM_71 ob_10.1 trivial
      have hs_72 := rC_m3x (j := x_1.toNatClampNeg) ht hM_71 p1r_65
      have lM_71_0 : g_70 0 = (tI M_71 2 4).toInt := hs_72.2.1.1
      have lM_71_1 : g_70 1 = (tI M_71 2 6).toInt := hs_72.2.1.2.1
      have lM_71_4 : g_70 4 = (tI M_71 1 4).toInt := hs_72.2.2.1.1
      have lM_71_7 : g_70 7 = (tI M_71 t 4).toInt := hs_72.2.2.2.1.1
      have lM_71_8 : g_70 8 = (tI M_71 t 5).toInt := hs_72.2.2.2.1.2.1
      refine lv_aload_n hx hb dX4_readMan_123 rfl (lv_at hl 0 rfl) ?_
      refine lv_aload_n hx hb dX4_readMan_124 rfl (lv_at hl 1 rfl) ?_
      refine lv_iconst (v := 1) hx hb dX4_readMan_125 (by decide) ?_
      refine lv_bipush (v := 30) hx hb dX4_readMan_126 (by decide) ?_
      refine ti_callViE (ci := 4) (av := [.int 1, .int 30]) C hE hw (x_X4_number l D A cy hJ M_71 iM_71 t ht 1 30 B n g_70 hs_72) ⟨ml_X4_56, ym_X4_number, yv_X4_number, yi_X4_number, yc_X4_number⟩ yd_X4_number ob_1 (by decide) rfl rfl hl.1 (Nat.le_of_ble_eq_true rfl) ⟨by decide, by decide⟩ ⟨Nat.zero_le _, Nat.zero_le _⟩ dX4_readMan_128 (fun r_73 M_74 H locs hp_74 hw => ?_)
      obtain ⟨iM_74, q_75, q_76, q_77, p0r_73, p1r_73⟩ := hp_74
      have hlr_73_1 : (1 : Int32).toInt = 1 := by decide
      have hlr_73_30 : (30 : Int32).toInt = 30 := by decide
      simp only [hlr_73_1, hlr_73_30] at p1r_73
      obtain ⟨g_78, eg_78⟩ : ∃ z : Nat → Int, z = pp_nb B n 1 30 g_70 := ⟨_, rfl⟩
      rw [← eg_78] at p1r_73
      have lg_78_0 : g_78 0 = (tI M_74 2 4).toInt := p1r_73.2.1.1
      have lg_78_1 : g_78 1 = (tI M_74 2 6).toInt := p1r_73.2.1.2.1
      have lg_78_4 : g_78 4 = (tI M_74 1 4).toInt := p1r_73.2.2.1.1
      have lg_78_7 : g_78 7 = (tI M_74 t 4).toInt := p1r_73.2.2.2.1.1
      have lg_78_8 : g_78 8 = (tI M_74 t 5).toInt := p1r_73.2.2.2.1.2.1
      refine ti_putI (ci := 2) (k := 4) (N := 10) (T := TX2) C hw iw_2 tyX2 tyX2_ok nmX2 rfl ob_10 (by decide) (by decide) fl_X4_123 rfl rfl rfl rfl (fn_2 A _) fs_2_4 dX4_readMan_131 (fun H locs hw => ?_)
      obtain ⟨M_79, hM_79⟩ : ∃ z : ti_M, z = uI M_74 (ti_men t x_1.toNatClampNeg) 4 r_73 := ⟨_, rfl⟩
      have hw := hw.to hM_79.symm
      have iM_79 : cI Tc M_79 := cI_uI iM_74 hM_79 ob_10.1 trivial
      have hs_80 := rC_m4x (j := x_1.toNatClampNeg) ht hM_79 p1r_73
      have lM_79_0 : g_78 0 = (tI M_79 2 4).toInt := hs_80.2.1.1
      have lM_79_1 : g_78 1 = (tI M_79 2 6).toInt := hs_80.2.1.2.1
      have lM_79_4 : g_78 4 = (tI M_79 1 4).toInt := hs_80.2.2.1.1
      have lM_79_7 : g_78 7 = (tI M_79 t 4).toInt := hs_80.2.2.2.1.1
      have lM_79_8 : g_78 8 = (tI M_79 t 5).toInt := hs_80.2.2.2.1.2.1
      refine lv_aload_n hx hb dX4_readMan_134 rfl (lv_at hl 0 rfl) ?_
      refine lv_aload_n hx hb dX4_readMan_135 rfl (lv_at hl 1 rfl) ?_
      refine lv_iconst (v := 0) hx hb dX4_readMan_136 (by decide) ?_
      refine lv_bipush (v := 99) hx hb dX4_readMan_137 (by decide) ?_
      refine ti_callViE (ci := 4) (av := [.int 0, .int 99]) C hE hw (x_X4_number l D A cy hJ M_79 iM_79 t ht 0 99 B n g_78 hs_80) ⟨ml_X4_56, ym_X4_number, yv_X4_number, yi_X4_number, yc_X4_number⟩ yd_X4_number ob_1 (by decide) rfl rfl hl.1 (Nat.le_of_ble_eq_true rfl) ⟨by decide, by decide⟩ ⟨Nat.zero_le _, Nat.zero_le _⟩ dX4_readMan_139 (fun r_81 M_82 H locs hp_82 hw => ?_)
      obtain ⟨iM_82, q_83, q_84, q_85, p0r_81, p1r_81⟩ := hp_82
      have hlr_81_0 : (0 : Int32).toInt = 0 := by decide
      have hlr_81_99 : (99 : Int32).toInt = 99 := by decide
      simp only [hlr_81_0, hlr_81_99] at p1r_81
      obtain ⟨g_86, eg_86⟩ : ∃ z : Nat → Int, z = pp_nb B n 0 99 g_78 := ⟨_, rfl⟩
      rw [← eg_86] at p1r_81
      have lg_86_0 : g_86 0 = (tI M_82 2 4).toInt := p1r_81.2.1.1
      have lg_86_1 : g_86 1 = (tI M_82 2 6).toInt := p1r_81.2.1.2.1
      have lg_86_4 : g_86 4 = (tI M_82 1 4).toInt := p1r_81.2.2.1.1
      have lg_86_7 : g_86 7 = (tI M_82 t 4).toInt := p1r_81.2.2.2.1.1
      have lg_86_8 : g_86 8 = (tI M_82 t 5).toInt := p1r_81.2.2.2.1.2.1
      refine ti_putI (ci := 2) (k := 5) (N := 10) (T := TX2) C hw iw_2 tyX2 tyX2_ok nmX2 rfl ob_10 (by decide) (by decide) fl_X4_126 rfl rfl rfl rfl (fn_2 A _) fs_2_5 dX4_readMan_142 (fun H locs hw => ?_)
      obtain ⟨M_87, hM_87⟩ : ∃ z : ti_M, z = uI M_82 (ti_men t x_1.toNatClampNeg) 5 r_81 := ⟨_, rfl⟩
      have hw := hw.to hM_87.symm
      have iM_87 : cI Tc M_87 := cI_uI iM_82 hM_87 ob_10.1 trivial
      have hs_88 := rC_m5x (j := x_1.toNatClampNeg) ht hM_87 p1r_81
      have lM_87_0 : g_86 0 = (tI M_87 2 4).toInt := hs_88.2.1.1
      have lM_87_1 : g_86 1 = (tI M_87 2 6).toInt := hs_88.2.1.2.1
      have lM_87_4 : g_86 4 = (tI M_87 1 4).toInt := hs_88.2.2.1.1
      have lM_87_7 : g_86 7 = (tI M_87 t 4).toInt := hs_88.2.2.2.1.1
      have lM_87_8 : g_86 8 = (tI M_87 t 5).toInt := hs_88.2.2.2.1.2.1
      refine lv_aload_n hx hb dX4_readMan_145 rfl (lv_at hl 0 rfl) ?_
      refine lv_aload_n hx hb dX4_readMan_146 rfl (lv_at hl 1 rfl) ?_
      refine lv_iconst (v := 0) hx hb dX4_readMan_147 (by decide) ?_
      refine lv_bipush (v := 99) hx hb dX4_readMan_148 (by decide) ?_
      refine ti_callViE (ci := 4) (av := [.int 0, .int 99]) C hE hw (x_X4_number l D A cy hJ M_87 iM_87 t ht 0 99 B n g_86 hs_88) ⟨ml_X4_56, ym_X4_number, yv_X4_number, yi_X4_number, yc_X4_number⟩ yd_X4_number ob_1 (by decide) rfl rfl hl.1 (Nat.le_of_ble_eq_true rfl) ⟨by decide, by decide⟩ ⟨Nat.zero_le _, Nat.zero_le _⟩ dX4_readMan_150 (fun r_89 M_90 H locs hp_90 hw => ?_)
      obtain ⟨iM_90, q_91, q_92, q_93, p0r_89, p1r_89⟩ := hp_90
      have hlr_89_0 : (0 : Int32).toInt = 0 := by decide
      have hlr_89_99 : (99 : Int32).toInt = 99 := by decide
      simp only [hlr_89_0, hlr_89_99] at p1r_89
      obtain ⟨g_94, eg_94⟩ : ∃ z : Nat → Int, z = pp_nb B n 0 99 g_86 := ⟨_, rfl⟩
      rw [← eg_94] at p1r_89
      have lg_94_0 : g_94 0 = (tI M_90 2 4).toInt := p1r_89.2.1.1
      have lg_94_1 : g_94 1 = (tI M_90 2 6).toInt := p1r_89.2.1.2.1
      have lg_94_4 : g_94 4 = (tI M_90 1 4).toInt := p1r_89.2.2.1.1
      have lg_94_7 : g_94 7 = (tI M_90 t 4).toInt := p1r_89.2.2.2.1.1
      have lg_94_8 : g_94 8 = (tI M_90 t 5).toInt := p1r_89.2.2.2.1.2.1
      refine ti_putI (ci := 2) (k := 6) (N := 10) (T := TX2) C hw iw_2 tyX2 tyX2_ok nmX2 rfl ob_10 (by decide) (by decide) fl_X4_129 rfl rfl rfl rfl (fn_2 A _) fs_2_6 dX4_readMan_153 (fun H locs hw => ?_)
      obtain ⟨M_95, hM_95⟩ : ∃ z : ti_M, z = uI M_90 (ti_men t x_1.toNatClampNeg) 6 r_89 := ⟨_, rfl⟩
      have hw := hw.to hM_95.symm
      have iM_95 : cI Tc M_95 := cI_uI iM_90 hM_95 ob_10.1 trivial
      have hs_96 := rC_m6x (j := x_1.toNatClampNeg) ht hM_95 p1r_89
      have lM_95_0 : g_94 0 = (tI M_95 2 4).toInt := hs_96.2.1.1
      have lM_95_1 : g_94 1 = (tI M_95 2 6).toInt := hs_96.2.1.2.1
      have lM_95_4 : g_94 4 = (tI M_95 1 4).toInt := hs_96.2.2.1.1
      have lM_95_7 : g_94 7 = (tI M_95 t 4).toInt := hs_96.2.2.2.1.1
      have lM_95_8 : g_94 8 = (tI M_95 t 5).toInt := hs_96.2.2.2.1.2.1
      refine lv_aload_n hx hb dX4_readMan_156 rfl (lv_at hl 0 rfl) ?_
      refine lv_aload_n hx hb dX4_readMan_157 rfl (lv_at hl 1 rfl) ?_
      refine lv_iconst (v := 0) hx hb dX4_readMan_158 (by decide) ?_
      refine lv_bipush (v := 59) hx hb dX4_readMan_159 (by decide) ?_
      refine ti_callViE (ci := 4) (av := [.int 0, .int 59]) C hE hw (x_X4_number l D A cy hJ M_95 iM_95 t ht 0 59 B n g_94 hs_96) ⟨ml_X4_56, ym_X4_number, yv_X4_number, yi_X4_number, yc_X4_number⟩ yd_X4_number ob_1 (by decide) rfl rfl hl.1 (Nat.le_of_ble_eq_true rfl) ⟨by decide, by decide⟩ ⟨Nat.zero_le _, Nat.zero_le _⟩ dX4_readMan_161 (fun r_97 M_98 H locs hp_98 hw => ?_)
      obtain ⟨iM_98, q_99, q_100, q_101, p0r_97, p1r_97⟩ := hp_98
      have hlr_97_0 : (0 : Int32).toInt = 0 := by decide
      have hlr_97_59 : (59 : Int32).toInt = 59 := by decide
      simp only [hlr_97_0, hlr_97_59] at p1r_97
      obtain ⟨g_102, eg_102⟩ : ∃ z : Nat → Int, z = pp_nb B n 0 59 g_94 := ⟨_, rfl⟩
      rw [← eg_102] at p1r_97
      have lg_102_0 : g_102 0 = (tI M_98 2 4).toInt := p1r_97.2.1.1
      have lg_102_1 : g_102 1 = (tI M_98 2 6).toInt := p1r_97.2.1.2.1
      have lg_102_4 : g_102 4 = (tI M_98 1 4).toInt := p1r_97.2.2.1.1
      have lg_102_7 : g_102 7 = (tI M_98 t 4).toInt := p1r_97.2.2.2.1.1
      have lg_102_8 : g_102 8 = (tI M_98 t 5).toInt := p1r_97.2.2.2.1.2.1
      refine ti_putI (ci := 2) (k := 7) (N := 10) (T := TX2) C hw iw_2 tyX2 tyX2_ok nmX2 rfl ob_10 (by decide) (by decide) fl_X4_132 rfl rfl rfl rfl (fn_2 A _) fs_2_7 dX4_readMan_164 (fun H locs hw => ?_)
      obtain ⟨M_103, hM_103⟩ : ∃ z : ti_M, z = uI M_98 (ti_men t x_1.toNatClampNeg) 7 r_97 := ⟨_, rfl⟩
      have hw := hw.to hM_103.symm
      have iM_103 : cI Tc M_103 := cI_uI iM_98 hM_103 ob_10.1 trivial
      have hs_104 := rC_m7x (j := x_1.toNatClampNeg) ht hM_103 p1r_97
      have lM_103_0 : g_102 0 = (tI M_103 2 4).toInt := hs_104.2.1.1
      have lM_103_1 : g_102 1 = (tI M_103 2 6).toInt := hs_104.2.1.2.1
      have lM_103_4 : g_102 4 = (tI M_103 1 4).toInt := hs_104.2.2.1.1
      have lM_103_7 : g_102 7 = (tI M_103 t 4).toInt := hs_104.2.2.2.1.1
      have lM_103_8 : g_102 8 = (tI M_103 t 5).toInt := hs_104.2.2.2.1.2.1
      refine lv_aload_n hx hb dX4_readMan_167 rfl (lv_at hl 0 rfl) ?_
      refine lv_aload_n hx hb dX4_readMan_168 rfl (lv_at hl 1 rfl) ?_
      refine ti_get (ci := 4) (k := 0) (N := 6) (T := TX4) (v := .ref (A 2 0)) C hw iw_4 rfl ob_1 (by decide) (by decide) fl_X4_12 rfl rfl dX4_readMan_169 ?_
      refine ti_get (ci := 7) (k := 4) (N := 7) (T := TX7) C hw iw_7 rfl ob_2 (by decide) (by decide) fl_X4_41 rfl rfl dX4_readMan_172 ?_
      refine lv_topi (fun x_105 ex_105 => ?_)
      have bx_105 : 0 ≤ x_105.toInt ∧ x_105.toInt ≤ 41 := cI_rd iM_103 ob_2.1 ex_105
      have ux_105 : (tI M_103 2 4).toInt = x_105.toInt := by rw [ex_105]
      refine lv_bipush (v := 15) hx hb dX4_readMan_175 (by decide) ?_
      refine sb_icmp_ne (tgt := 184) hx hb rfl (by decide : (15 : Int32).toInt = 15) dX4_readMan_177 (by decide) (fun c_177_105 => ?_) (fun c_177_105 => ?_)
      · refine lv_iconst (v := 0) hx hb dX4_readMan_184 (by decide) ?_
        refine ti_putI (ci := 2) (k := 8) (N := 10) (T := TX2) C hw iw_2 tyX2 tyX2_ok nmX2 rfl ob_10 (by decide) (by decide) fl_X4_135 rfl rfl rfl rfl (fn_2 A _) fs_2_8 dX4_readMan_185 (fun H locs hw => ?_)
        obtain ⟨M_110, hM_110⟩ : ∃ z : ti_M, z = uI M_103 (ti_men t x_1.toNatClampNeg) 8 0 := ⟨_, rfl⟩
        have hw := hw.to hM_110.symm
        have iM_110 : cI Tc M_110 := cI_uI iM_103 hM_110 ob_10.1 trivial
        have hs_111 := rC_m8x (j := x_1.toNatClampNeg) ht hM_110 hs_104
        have lM_110_0 : g_102 0 = (tI M_110 2 4).toInt := hs_111.2.1.1
        have lM_110_1 : g_102 1 = (tI M_110 2 6).toInt := hs_111.2.1.2.1
        have lM_110_4 : g_102 4 = (tI M_110 1 4).toInt := hs_111.2.2.1.1
        have lM_110_7 : g_102 7 = (tI M_110 t 4).toInt := hs_111.2.2.2.1.1
        have lM_110_8 : g_102 8 = (tI M_110 t 5).toInt := hs_111.2.2.2.1.2.1
        refine lv_aload_n hx hb dX4_readMan_188 rfl (lv_at hl 0 rfl) ?_
        refine ti_get (ci := 2) (k := 8) (N := 10) (T := TX2) C hw iw_2 rfl ob_10 (by decide) (by decide) fl_X4_135 rfl rfl dX4_readMan_189 ?_
        refine ti_top (y := 0) (tI_uE hM_110) ?_
        refine sb_if_eq (tgt := 202) hx hb (by decide : (0 : Int32).toInt = 0) dX4_readMan_192 (by decide) (fun c_192_111 => ?_) (fun h => absurd h (by decide))
        refine lv_aload_n hx hb dX4_readMan_202 rfl (lv_at hl 0 rfl) ?_
        refine lv_iconst (v := (-1)) hx hb dX4_readMan_203 (by decide) ?_
        refine ti_putI (ci := 2) (k := 9) (N := 10) (T := TX2) C hw iw_2 tyX2 tyX2_ok nmX2 rfl ob_10 (by decide) (by decide) fl_X4_139 rfl rfl rfl rfl (fn_2 A _) fs_2_9 dX4_readMan_204 (fun H locs hw => ?_)
        obtain ⟨M_121, hM_121⟩ : ∃ z : ti_M, z = uI M_110 (ti_men t x_1.toNatClampNeg) 9 (-1) := ⟨_, rfl⟩
        have hw := hw.to hM_121.symm
        have iM_121 : cI Tc M_121 := cI_uI iM_110 hM_121 ob_10.1 trivial
        have hs_122 := rC_m9 (j := x_1.toNatClampNeg) ht (i_nt (x := x_1) rfl (by omega) (by omega)) hM_121 hs_111
        rw [show ((-1) : Int32).toInt = (-1) by decide] at hs_122
        obtain ⟨g_123, eg_123⟩ : ∃ z : Nat → Int, z = pp_su g_102 (200 + x_1.toNatClampNeg) (-1) := ⟨_, rfl⟩
        rw [← eg_123] at hs_122
        have lg_123_0 : g_123 0 = (tI M_121 2 4).toInt := hs_122.2.1.1
        have lg_123_1 : g_123 1 = (tI M_121 2 6).toInt := hs_122.2.1.2.1
        have lg_123_4 : g_123 4 = (tI M_121 1 4).toInt := hs_122.2.2.1.1
        have lg_123_7 : g_123 7 = (tI M_121 t 4).toInt := hs_122.2.2.2.1.1
        have lg_123_8 : g_123 8 = (tI M_121 t 5).toInt := hs_122.2.2.2.1.2.1
        refine lv_aload_n hx hb dX4_readMan_207 rfl (lv_at hl 1 rfl) ?_
        refine ti_get (ci := 4) (k := 1) (N := 6) (T := TX4) (v := .ref (A t 0)) C hw iw_4 rfl ob_1 (by decide) (by decide) fl_X4_28 rfl (ti_Tv ((tT_uIE hM_121).trans ((tT_uIE hM_110).trans ((tT_uIE hM_103).trans ((tT_fr q_99).trans ((tT_uIE hM_95).trans ((tT_fr q_91).trans ((tT_uIE hM_87).trans ((tT_fr q_83).trans ((tT_uIE hM_79).trans ((tT_fr q_75).trans ((tT_uIE hM_71).trans ((tT_fr q_67).trans ((tT_uIE hM_63).trans ((tT_fr q_59).trans ((tT_uIE hM_55).trans ((tT_fr q_51).trans ((tT_fr q_45).trans f_39)))))))))))))))))) dX4_readMan_208 ?_
        refine lv_dup hx hb dX4_readMan_211 rfl ?_
        refine ti_get (ci := 8) (k := 4) (N := 12) (T := TX8) C hw iw_8 rfl (ob_t ht) (by decide) (by decide) fl_X4_98 rfl rfl dX4_readMan_212 ?_
        refine ti_top (y := x_1) ((tI_nE hM_121 (nk (by decide))).trans ((tI_nE hM_110 (nk (by decide))).trans ((tI_nE hM_103 (nk (by decide))).trans ((q_100 t 4 (cls_ne (ob_t ht).1 ob_1.1 (by decide)) (cls_ne (ob_t ht).1 ob_2.1 (by decide))).trans ((tI_nE hM_95 (nk (by decide))).trans ((q_92 t 4 (cls_ne (ob_t ht).1 ob_1.1 (by decide)) (cls_ne (ob_t ht).1 ob_2.1 (by decide))).trans ((tI_nE hM_87 (nk (by decide))).trans ((q_84 t 4 (cls_ne (ob_t ht).1 ob_1.1 (by decide)) (cls_ne (ob_t ht).1 ob_2.1 (by decide))).trans ((tI_nE hM_79 (no (cls_ne (ob_t ht).1 ob_10.1 (by decide)))).trans ((q_76 t 4 (cls_ne (ob_t ht).1 ob_1.1 (by decide)) (cls_ne (ob_t ht).1 ob_2.1 (by decide))).trans ((tI_nE hM_71 (nk (by decide))).trans ((q_68 t 4 (cls_ne (ob_t ht).1 ob_1.1 (by decide)) (cls_ne (ob_t ht).1 ob_2.1 (by decide))).trans ((tI_nE hM_63 (nk (by decide))).trans ((q_60 t 4 (cls_ne (ob_t ht).1 ob_1.1 (by decide)) (cls_ne (ob_t ht).1 ob_2.1 (by decide))).trans ((tI_nE hM_55 (nk (by decide))).trans ((q_52 t 4 (cls_ne (ob_t ht).1 ob_1.1 (by decide)) (cls_ne (ob_t ht).1 ob_2.1 (by decide))).trans ((q_46 t 4 (cls_ne (ob_t ht).1 ob_1.1 (by decide)) (cls_ne (ob_t ht).1 ob_2.1 (by decide))).trans f_38))))))))))))))))) ?_
        have u_124 : (tI M_121 t 4).toInt = (x_1 : Int32).toInt := by rw [((tI_nE hM_121 (nk (by decide))).trans ((tI_nE hM_110 (nk (by decide))).trans ((tI_nE hM_103 (nk (by decide))).trans ((q_100 t 4 (cls_ne (ob_t ht).1 ob_1.1 (by decide)) (cls_ne (ob_t ht).1 ob_2.1 (by decide))).trans ((tI_nE hM_95 (nk (by decide))).trans ((q_92 t 4 (cls_ne (ob_t ht).1 ob_1.1 (by decide)) (cls_ne (ob_t ht).1 ob_2.1 (by decide))).trans ((tI_nE hM_87 (nk (by decide))).trans ((q_84 t 4 (cls_ne (ob_t ht).1 ob_1.1 (by decide)) (cls_ne (ob_t ht).1 ob_2.1 (by decide))).trans ((tI_nE hM_79 (no (cls_ne (ob_t ht).1 ob_10.1 (by decide)))).trans ((q_76 t 4 (cls_ne (ob_t ht).1 ob_1.1 (by decide)) (cls_ne (ob_t ht).1 ob_2.1 (by decide))).trans ((tI_nE hM_71 (nk (by decide))).trans ((q_68 t 4 (cls_ne (ob_t ht).1 ob_1.1 (by decide)) (cls_ne (ob_t ht).1 ob_2.1 (by decide))).trans ((tI_nE hM_63 (nk (by decide))).trans ((q_60 t 4 (cls_ne (ob_t ht).1 ob_1.1 (by decide)) (cls_ne (ob_t ht).1 ob_2.1 (by decide))).trans ((tI_nE hM_55 (nk (by decide))).trans ((q_52 t 4 (cls_ne (ob_t ht).1 ob_1.1 (by decide)) (cls_ne (ob_t ht).1 ob_2.1 (by decide))).trans ((q_46 t 4 (cls_ne (ob_t ht).1 ob_1.1 (by decide)) (cls_ne (ob_t ht).1 ob_2.1 (by decide))).trans f_38)))))))))))))))))]
        refine lv_iconst (v := 1) hx hb dX4_readMan_215 (by decide) ?_
        refine lv_iadd hx hb dX4_readMan_216 ?_
        refine lv_topi (fun x_125 ex_125 => ?_)
        have lox_125x_1 := x_1.le_toInt
        have hix_125x_1 := x_1.toInt_lt
        have tx_125 : x_125.toInt = x_1.toInt + 1 := i_add ex_125 rfl (by decide : (1 : Int32).toInt = 1) (by omega) (by omega)
        refine ti_putI (ci := 8) (k := 4) (N := 12) (T := TX8) C hw iw_8 tyX8 tyX8_ok nmX8 rfl (ob_t ht) (by decide) (by decide) fl_X4_98 rfl rfl rfl rfl (fn_8 A _) fs_8_4 dX4_readMan_217 (fun H locs hw => ?_)
        obtain ⟨M_126, hM_126⟩ : ∃ z : ti_M, z = uI M_121 t 4 x_125 := ⟨_, rfl⟩
        have hw := hw.to hM_126.symm
        have iM_126 : cI Tc M_126 := cI_uI iM_121 hM_126 (ob_t ht).1 (ib_mk (lo := 0) (hi := 8) (by omega) (by omega))
        have vM_126 : (tI M_126 t 4).toInt = (x_125 : Int32).toInt := by rw [tI_uE hM_126]
        have hs_127 := rC_t4 ht hM_126 hs_122
        obtain ⟨g_128, eg_128⟩ : ∃ z : Nat → Int, z = pp_su g_123 7 x_125.toInt := ⟨_, rfl⟩
        rw [← eg_128] at hs_127
        have lg_128_0 : g_128 0 = (tI M_126 2 4).toInt := hs_127.2.1.1
        have lg_128_1 : g_128 1 = (tI M_126 2 6).toInt := hs_127.2.1.2.1
        have lg_128_4 : g_128 4 = (tI M_126 1 4).toInt := hs_127.2.2.1.1
        have lg_128_7 : g_128 7 = (tI M_126 t 4).toInt := hs_127.2.2.2.1.1
        have lg_128_8 : g_128 8 = (tI M_126 t 5).toInt := hs_127.2.2.2.1.2.1
        have h47 : g_102 7 = x_1.toInt := by rw [hs_111.2.2.2.1.1, ((tI_nE hM_110 (nk (by decide))).trans ((tI_nE hM_103 (nk (by decide))).trans ((q_100 t 4 (cls_ne (ob_t ht).1 ob_1.1 (by decide)) (cls_ne (ob_t ht).1 ob_2.1 (by decide))).trans ((tI_nE hM_95 (nk (by decide))).trans ((q_92 t 4 (cls_ne (ob_t ht).1 ob_1.1 (by decide)) (cls_ne (ob_t ht).1 ob_2.1 (by decide))).trans ((tI_nE hM_87 (nk (by decide))).trans ((q_84 t 4 (cls_ne (ob_t ht).1 ob_1.1 (by decide)) (cls_ne (ob_t ht).1 ob_2.1 (by decide))).trans ((tI_nE hM_79 (no (cls_ne (ob_t ht).1 ob_10.1 (by decide)))).trans ((q_76 t 4 (cls_ne (ob_t ht).1 ob_1.1 (by decide)) (cls_ne (ob_t ht).1 ob_2.1 (by decide))).trans ((tI_nE hM_71 (nk (by decide))).trans ((q_68 t 4 (cls_ne (ob_t ht).1 ob_1.1 (by decide)) (cls_ne (ob_t ht).1 ob_2.1 (by decide))).trans ((tI_nE hM_63 (nk (by decide))).trans ((q_60 t 4 (cls_ne (ob_t ht).1 ob_1.1 (by decide)) (cls_ne (ob_t ht).1 ob_2.1 (by decide))).trans ((tI_nE hM_55 (nk (by decide))).trans ((q_52 t 4 (cls_ne (ob_t ht).1 ob_1.1 (by decide)) (cls_ne (ob_t ht).1 ob_2.1 (by decide))).trans ((q_46 t 4 (cls_ne (ob_t ht).1 ob_1.1 (by decide)) (cls_ne (ob_t ht).1 ob_2.1 (by decide))).trans f_38))))))))))))))))]
        have E1 : pp_m1 B n rg = g_22 := by unfold pp_m1; rw [← eg_18, show (rg 7).toNat = x_1.toNatClampNeg by (show (rg 7).toNat = x_1.toInt.toNat; omega), show g_18 1 = x_19.toInt by omega, ← eg_22]
        have E3 : pp_m3 B n g_40 = g_102 := by unfold pp_m3; rw [← eg_48, ← eg_54, ← eg_62, ← eg_70, ← eg_78, ← eg_86, ← eg_94, ← eg_102]
        have E4 : pp_m4 B n g_102 = g_102 := by unfold pp_m4; rw [if_neg (by omega)]
        have E5 : pp_m5 g_102 = g_128 := by unfold pp_m5; rw [show (g_102 7).toNat = x_1.toNatClampNeg by (show (g_102 7).toNat = x_1.toInt.toNat; omega), show g_102 7 + 1 = x_125.toInt by omega, ← eg_123, ← eg_128]
        exact hQ _ _ _ _ _ hw (⟨iM_126, ((rf_I hM_126).trans ((rf_I hM_121).trans ((rf_I hM_110).trans ((rf_I hM_103).trans ((q_99).trans ((rf_I hM_95).trans ((q_91).trans ((rf_I hM_87).trans ((q_83).trans ((rf_I hM_79).trans ((q_75).trans ((rf_I hM_71).trans ((q_67).trans ((rf_I hM_63).trans ((q_59).trans ((rf_I hM_55).trans ((q_51).trans ((q_45).trans f_35)))))))))))))))))), (f0.trans (f0_I hM_126 (f0n (ob_t ht).1 (by decide))) (f0.trans (f0_I hM_121 (f0n ob_10.1 (by decide))) (f0.trans (f0_I hM_110 (f0n ob_10.1 (by decide))) (f0.trans (f0_I hM_103 (f0n ob_10.1 (by decide))) (f0.trans (f0_12 q_100) (f0.trans (f0_I hM_95 (f0n ob_10.1 (by decide))) (f0.trans (f0_12 q_92) (f0.trans (f0_I hM_87 (f0n ob_10.1 (by decide))) (f0.trans (f0_12 q_84) (f0.trans (f0_I hM_79 (f0n ob_10.1 (by decide))) (f0.trans (f0_12 q_76) (f0.trans (f0_I hM_71 (f0n ob_10.1 (by decide))) (f0.trans (f0_12 q_68) (f0.trans (f0_I hM_63 (f0n ob_10.1 (by decide))) (f0.trans (f0_12 q_60) (f0.trans (f0_I hM_55 (f0n ob_10.1 (by decide))) (f0.trans (f0_12 q_52) (f0.trans (f0_12 q_46) f_36)))))))))))))))))), ((tI_nE hM_126 (nk (by decide))).trans ((tI_nE hM_121 (nk (by decide))).trans ((tI_nE hM_110 (nk (by decide))).trans ((tI_nE hM_103 (nk (by decide))).trans ((q_101).trans ((tI_nE hM_95 (nk (by decide))).trans ((q_93).trans ((tI_nE hM_87 (nk (by decide))).trans ((q_85).trans ((tI_nE hM_79 (nk (by decide))).trans ((q_77).trans ((tI_nE hM_71 (nk (by decide))).trans ((q_69).trans ((tI_nE hM_63 (nk (by decide))).trans ((q_61).trans ((tI_nE hM_55 (no (cls_ne ob_2.1 ob_10.1 (by decide)))).trans ((q_53).trans ((q_47).trans f_37)))))))))))))))))), (by unfold pp_mn; rw [if_pos (by omega), E1, j_42, E3, E4, E5]; exact hs_127)⟩) dX4_readMan_220
      · refine lv_iconst (v := 1) hx hb dX4_readMan_180 (by decide) ?_
        refine lv_goto (tgt := 185) hx hb dX4_readMan_181 (by decide) ?_
        refine ti_putI (ci := 2) (k := 8) (N := 10) (T := TX2) C hw iw_2 tyX2 tyX2_ok nmX2 rfl ob_10 (by decide) (by decide) fl_X4_135 rfl rfl rfl rfl (fn_2 A _) fs_2_8 dX4_readMan_185 (fun H locs hw => ?_)
        obtain ⟨M_107, hM_107⟩ : ∃ z : ti_M, z = uI M_103 (ti_men t x_1.toNatClampNeg) 8 1 := ⟨_, rfl⟩
        have hw := hw.to hM_107.symm
        have iM_107 : cI Tc M_107 := cI_uI iM_103 hM_107 ob_10.1 trivial
        have hs_108 := rC_m8x (j := x_1.toNatClampNeg) ht hM_107 hs_104
        have lM_107_0 : g_102 0 = (tI M_107 2 4).toInt := hs_108.2.1.1
        have lM_107_1 : g_102 1 = (tI M_107 2 6).toInt := hs_108.2.1.2.1
        have lM_107_4 : g_102 4 = (tI M_107 1 4).toInt := hs_108.2.2.1.1
        have lM_107_7 : g_102 7 = (tI M_107 t 4).toInt := hs_108.2.2.2.1.1
        have lM_107_8 : g_102 8 = (tI M_107 t 5).toInt := hs_108.2.2.2.1.2.1
        refine lv_aload_n hx hb dX4_readMan_188 rfl (lv_at hl 0 rfl) ?_
        refine ti_get (ci := 2) (k := 8) (N := 10) (T := TX2) C hw iw_2 rfl ob_10 (by decide) (by decide) fl_X4_135 rfl rfl dX4_readMan_189 ?_
        refine ti_top (y := 1) (tI_uE hM_107) ?_
        refine sb_if_eq (tgt := 202) hx hb (by decide : (1 : Int32).toInt = 1) dX4_readMan_192 (by decide) (fun h => absurd h (by decide)) (fun c_192_108 => ?_)
        refine lv_aload_n hx hb dX4_readMan_195 rfl (lv_at hl 1 rfl) ?_
        refine ti_get (ci := 4) (k := 0) (N := 6) (T := TX4) (v := .ref (A 2 0)) C hw iw_4 rfl ob_1 (by decide) (by decide) fl_X4_12 rfl rfl dX4_readMan_196 ?_
        refine ti_callVvE (ci := 7) (av := []) C hE hw (x_X7_advance l D A cy hJ M_107 iM_107 ) ⟨ml_X4_92, ym_X7_advance, yv_X7_advance, yi_X7_advance, yc_X7_advance⟩ yd_X7_advance ob_2 (by decide) rfl rfl hl.1 (Nat.le_of_ble_eq_true rfl) ⟨by decide, by decide⟩ ⟨Nat.zero_le _, Nat.zero_le _⟩ dX4_readMan_199 (fun M_114 H locs hp_114 hw => ?_)
        obtain ⟨iM_114, q_115, q_116, q_117, q_118, p0r_113, p1r_113, p2r_113, p3r_113⟩ := hp_114
        have hs_119 := rC_av ht hs_108 q_118 q_116 p0r_113 p1r_113 p2r_113 p3r_113
        obtain ⟨g_120, eg_120⟩ : ∃ z : Nat → Int, z = pp_av B n g_102 := ⟨_, rfl⟩
        rw [← eg_120] at hs_119
        have lg_120_0 : g_120 0 = (tI M_114 2 4).toInt := hs_119.2.1.1
        have lg_120_1 : g_120 1 = (tI M_114 2 6).toInt := hs_119.2.1.2.1
        have lg_120_4 : g_120 4 = (tI M_114 1 4).toInt := hs_119.2.2.1.1
        have lg_120_7 : g_120 7 = (tI M_114 t 4).toInt := hs_119.2.2.2.1.1
        have lg_120_8 : g_120 8 = (tI M_114 t 5).toInt := hs_119.2.2.2.1.2.1
        refine lv_aload_n hx hb dX4_readMan_202 rfl (lv_at hl 0 rfl) ?_
        refine lv_iconst (v := (-1)) hx hb dX4_readMan_203 (by decide) ?_
        refine ti_putI (ci := 2) (k := 9) (N := 10) (T := TX2) C hw iw_2 tyX2 tyX2_ok nmX2 rfl ob_10 (by decide) (by decide) fl_X4_139 rfl rfl rfl rfl (fn_2 A _) fs_2_9 dX4_readMan_204 (fun H locs hw => ?_)
        obtain ⟨M_129, hM_129⟩ : ∃ z : ti_M, z = uI M_114 (ti_men t x_1.toNatClampNeg) 9 (-1) := ⟨_, rfl⟩
        have hw := hw.to hM_129.symm
        have iM_129 : cI Tc M_129 := cI_uI iM_114 hM_129 ob_10.1 trivial
        have hs_130 := rC_m9 (j := x_1.toNatClampNeg) ht (i_nt (x := x_1) rfl (by omega) (by omega)) hM_129 hs_119
        rw [show ((-1) : Int32).toInt = (-1) by decide] at hs_130
        obtain ⟨g_131, eg_131⟩ : ∃ z : Nat → Int, z = pp_su g_120 (200 + x_1.toNatClampNeg) (-1) := ⟨_, rfl⟩
        rw [← eg_131] at hs_130
        have lg_131_0 : g_131 0 = (tI M_129 2 4).toInt := hs_130.2.1.1
        have lg_131_1 : g_131 1 = (tI M_129 2 6).toInt := hs_130.2.1.2.1
        have lg_131_4 : g_131 4 = (tI M_129 1 4).toInt := hs_130.2.2.1.1
        have lg_131_7 : g_131 7 = (tI M_129 t 4).toInt := hs_130.2.2.2.1.1
        have lg_131_8 : g_131 8 = (tI M_129 t 5).toInt := hs_130.2.2.2.1.2.1
        refine lv_aload_n hx hb dX4_readMan_207 rfl (lv_at hl 1 rfl) ?_
        refine ti_get (ci := 4) (k := 1) (N := 6) (T := TX4) (v := .ref (A t 0)) C hw iw_4 rfl ob_1 (by decide) (by decide) fl_X4_28 rfl (ti_Tv ((tT_uIE hM_129).trans ((tT_fr q_115).trans ((tT_uIE hM_107).trans ((tT_uIE hM_103).trans ((tT_fr q_99).trans ((tT_uIE hM_95).trans ((tT_fr q_91).trans ((tT_uIE hM_87).trans ((tT_fr q_83).trans ((tT_uIE hM_79).trans ((tT_fr q_75).trans ((tT_uIE hM_71).trans ((tT_fr q_67).trans ((tT_uIE hM_63).trans ((tT_fr q_59).trans ((tT_uIE hM_55).trans ((tT_fr q_51).trans ((tT_fr q_45).trans f_39))))))))))))))))))) dX4_readMan_208 ?_
        refine lv_dup hx hb dX4_readMan_211 rfl ?_
        refine ti_get (ci := 8) (k := 4) (N := 12) (T := TX8) C hw iw_8 rfl (ob_t ht) (by decide) (by decide) fl_X4_98 rfl rfl dX4_readMan_212 ?_
        refine ti_top (y := x_1) ((tI_nE hM_129 (nk (by decide))).trans (((o2_12 q_116) t 4 (cls_ne (ob_t ht).1 ob_1.1 (by decide)) (cls_ne (ob_t ht).1 ob_2.1 (by decide))).trans ((tI_nE hM_107 (nk (by decide))).trans ((tI_nE hM_103 (nk (by decide))).trans ((q_100 t 4 (cls_ne (ob_t ht).1 ob_1.1 (by decide)) (cls_ne (ob_t ht).1 ob_2.1 (by decide))).trans ((tI_nE hM_95 (nk (by decide))).trans ((q_92 t 4 (cls_ne (ob_t ht).1 ob_1.1 (by decide)) (cls_ne (ob_t ht).1 ob_2.1 (by decide))).trans ((tI_nE hM_87 (nk (by decide))).trans ((q_84 t 4 (cls_ne (ob_t ht).1 ob_1.1 (by decide)) (cls_ne (ob_t ht).1 ob_2.1 (by decide))).trans ((tI_nE hM_79 (no (cls_ne (ob_t ht).1 ob_10.1 (by decide)))).trans ((q_76 t 4 (cls_ne (ob_t ht).1 ob_1.1 (by decide)) (cls_ne (ob_t ht).1 ob_2.1 (by decide))).trans ((tI_nE hM_71 (nk (by decide))).trans ((q_68 t 4 (cls_ne (ob_t ht).1 ob_1.1 (by decide)) (cls_ne (ob_t ht).1 ob_2.1 (by decide))).trans ((tI_nE hM_63 (nk (by decide))).trans ((q_60 t 4 (cls_ne (ob_t ht).1 ob_1.1 (by decide)) (cls_ne (ob_t ht).1 ob_2.1 (by decide))).trans ((tI_nE hM_55 (nk (by decide))).trans ((q_52 t 4 (cls_ne (ob_t ht).1 ob_1.1 (by decide)) (cls_ne (ob_t ht).1 ob_2.1 (by decide))).trans ((q_46 t 4 (cls_ne (ob_t ht).1 ob_1.1 (by decide)) (cls_ne (ob_t ht).1 ob_2.1 (by decide))).trans f_38)))))))))))))))))) ?_
        have u_132 : (tI M_129 t 4).toInt = (x_1 : Int32).toInt := by rw [((tI_nE hM_129 (nk (by decide))).trans (((o2_12 q_116) t 4 (cls_ne (ob_t ht).1 ob_1.1 (by decide)) (cls_ne (ob_t ht).1 ob_2.1 (by decide))).trans ((tI_nE hM_107 (nk (by decide))).trans ((tI_nE hM_103 (nk (by decide))).trans ((q_100 t 4 (cls_ne (ob_t ht).1 ob_1.1 (by decide)) (cls_ne (ob_t ht).1 ob_2.1 (by decide))).trans ((tI_nE hM_95 (nk (by decide))).trans ((q_92 t 4 (cls_ne (ob_t ht).1 ob_1.1 (by decide)) (cls_ne (ob_t ht).1 ob_2.1 (by decide))).trans ((tI_nE hM_87 (nk (by decide))).trans ((q_84 t 4 (cls_ne (ob_t ht).1 ob_1.1 (by decide)) (cls_ne (ob_t ht).1 ob_2.1 (by decide))).trans ((tI_nE hM_79 (no (cls_ne (ob_t ht).1 ob_10.1 (by decide)))).trans ((q_76 t 4 (cls_ne (ob_t ht).1 ob_1.1 (by decide)) (cls_ne (ob_t ht).1 ob_2.1 (by decide))).trans ((tI_nE hM_71 (nk (by decide))).trans ((q_68 t 4 (cls_ne (ob_t ht).1 ob_1.1 (by decide)) (cls_ne (ob_t ht).1 ob_2.1 (by decide))).trans ((tI_nE hM_63 (nk (by decide))).trans ((q_60 t 4 (cls_ne (ob_t ht).1 ob_1.1 (by decide)) (cls_ne (ob_t ht).1 ob_2.1 (by decide))).trans ((tI_nE hM_55 (nk (by decide))).trans ((q_52 t 4 (cls_ne (ob_t ht).1 ob_1.1 (by decide)) (cls_ne (ob_t ht).1 ob_2.1 (by decide))).trans ((q_46 t 4 (cls_ne (ob_t ht).1 ob_1.1 (by decide)) (cls_ne (ob_t ht).1 ob_2.1 (by decide))).trans f_38))))))))))))))))))]
        refine lv_iconst (v := 1) hx hb dX4_readMan_215 (by decide) ?_
        refine lv_iadd hx hb dX4_readMan_216 ?_
        refine lv_topi (fun x_133 ex_133 => ?_)
        have lox_133x_1 := x_1.le_toInt
        have hix_133x_1 := x_1.toInt_lt
        have tx_133 : x_133.toInt = x_1.toInt + 1 := i_add ex_133 rfl (by decide : (1 : Int32).toInt = 1) (by omega) (by omega)
        refine ti_putI (ci := 8) (k := 4) (N := 12) (T := TX8) C hw iw_8 tyX8 tyX8_ok nmX8 rfl (ob_t ht) (by decide) (by decide) fl_X4_98 rfl rfl rfl rfl (fn_8 A _) fs_8_4 dX4_readMan_217 (fun H locs hw => ?_)
        obtain ⟨M_134, hM_134⟩ : ∃ z : ti_M, z = uI M_129 t 4 x_133 := ⟨_, rfl⟩
        have hw := hw.to hM_134.symm
        have iM_134 : cI Tc M_134 := cI_uI iM_129 hM_134 (ob_t ht).1 (ib_mk (lo := 0) (hi := 8) (by omega) (by omega))
        have vM_134 : (tI M_134 t 4).toInt = (x_133 : Int32).toInt := by rw [tI_uE hM_134]
        have hs_135 := rC_t4 ht hM_134 hs_130
        obtain ⟨g_136, eg_136⟩ : ∃ z : Nat → Int, z = pp_su g_131 7 x_133.toInt := ⟨_, rfl⟩
        rw [← eg_136] at hs_135
        have lg_136_0 : g_136 0 = (tI M_134 2 4).toInt := hs_135.2.1.1
        have lg_136_1 : g_136 1 = (tI M_134 2 6).toInt := hs_135.2.1.2.1
        have lg_136_4 : g_136 4 = (tI M_134 1 4).toInt := hs_135.2.2.1.1
        have lg_136_7 : g_136 7 = (tI M_134 t 4).toInt := hs_135.2.2.2.1.1
        have lg_136_8 : g_136 8 = (tI M_134 t 5).toInt := hs_135.2.2.2.1.2.1
        have h47 : g_120 7 = x_1.toInt := by rw [hs_119.2.2.2.1.1, (((o2_12 q_116) t 4 (cls_ne (ob_t ht).1 ob_1.1 (by decide)) (cls_ne (ob_t ht).1 ob_2.1 (by decide))).trans ((tI_nE hM_107 (nk (by decide))).trans ((tI_nE hM_103 (nk (by decide))).trans ((q_100 t 4 (cls_ne (ob_t ht).1 ob_1.1 (by decide)) (cls_ne (ob_t ht).1 ob_2.1 (by decide))).trans ((tI_nE hM_95 (nk (by decide))).trans ((q_92 t 4 (cls_ne (ob_t ht).1 ob_1.1 (by decide)) (cls_ne (ob_t ht).1 ob_2.1 (by decide))).trans ((tI_nE hM_87 (nk (by decide))).trans ((q_84 t 4 (cls_ne (ob_t ht).1 ob_1.1 (by decide)) (cls_ne (ob_t ht).1 ob_2.1 (by decide))).trans ((tI_nE hM_79 (no (cls_ne (ob_t ht).1 ob_10.1 (by decide)))).trans ((q_76 t 4 (cls_ne (ob_t ht).1 ob_1.1 (by decide)) (cls_ne (ob_t ht).1 ob_2.1 (by decide))).trans ((tI_nE hM_71 (nk (by decide))).trans ((q_68 t 4 (cls_ne (ob_t ht).1 ob_1.1 (by decide)) (cls_ne (ob_t ht).1 ob_2.1 (by decide))).trans ((tI_nE hM_63 (nk (by decide))).trans ((q_60 t 4 (cls_ne (ob_t ht).1 ob_1.1 (by decide)) (cls_ne (ob_t ht).1 ob_2.1 (by decide))).trans ((tI_nE hM_55 (nk (by decide))).trans ((q_52 t 4 (cls_ne (ob_t ht).1 ob_1.1 (by decide)) (cls_ne (ob_t ht).1 ob_2.1 (by decide))).trans ((q_46 t 4 (cls_ne (ob_t ht).1 ob_1.1 (by decide)) (cls_ne (ob_t ht).1 ob_2.1 (by decide))).trans f_38)))))))))))))))))]
        have E1 : pp_m1 B n rg = g_22 := by unfold pp_m1; rw [← eg_18, show (rg 7).toNat = x_1.toNatClampNeg by (show (rg 7).toNat = x_1.toInt.toNat; omega), show g_18 1 = x_19.toInt by omega, ← eg_22]
        have E3 : pp_m3 B n g_40 = g_102 := by unfold pp_m3; rw [← eg_48, ← eg_54, ← eg_62, ← eg_70, ← eg_78, ← eg_86, ← eg_94, ← eg_102]
        have E4 : pp_m4 B n g_102 = g_120 := by unfold pp_m4; rw [if_pos (by omega), ← eg_120]
        have E5 : pp_m5 g_120 = g_136 := by unfold pp_m5; rw [show (g_120 7).toNat = x_1.toNatClampNeg by (show (g_120 7).toNat = x_1.toInt.toNat; omega), show g_120 7 + 1 = x_133.toInt by omega, ← eg_131, ← eg_136]
        exact hQ _ _ _ _ _ hw (⟨iM_134, ((rf_I hM_134).trans ((rf_I hM_129).trans ((q_115).trans ((rf_I hM_107).trans ((rf_I hM_103).trans ((q_99).trans ((rf_I hM_95).trans ((q_91).trans ((rf_I hM_87).trans ((q_83).trans ((rf_I hM_79).trans ((q_75).trans ((rf_I hM_71).trans ((q_67).trans ((rf_I hM_63).trans ((q_59).trans ((rf_I hM_55).trans ((q_51).trans ((q_45).trans f_35))))))))))))))))))), (f0.trans (f0_I hM_134 (f0n (ob_t ht).1 (by decide))) (f0.trans (f0_I hM_129 (f0n ob_10.1 (by decide))) (f0.trans (f0_12 (o2_12 q_116)) (f0.trans (f0_I hM_107 (f0n ob_10.1 (by decide))) (f0.trans (f0_I hM_103 (f0n ob_10.1 (by decide))) (f0.trans (f0_12 q_100) (f0.trans (f0_I hM_95 (f0n ob_10.1 (by decide))) (f0.trans (f0_12 q_92) (f0.trans (f0_I hM_87 (f0n ob_10.1 (by decide))) (f0.trans (f0_12 q_84) (f0.trans (f0_I hM_79 (f0n ob_10.1 (by decide))) (f0.trans (f0_12 q_76) (f0.trans (f0_I hM_71 (f0n ob_10.1 (by decide))) (f0.trans (f0_12 q_68) (f0.trans (f0_I hM_63 (f0n ob_10.1 (by decide))) (f0.trans (f0_12 q_60) (f0.trans (f0_I hM_55 (f0n ob_10.1 (by decide))) (f0.trans (f0_12 q_52) (f0.trans (f0_12 q_46) f_36))))))))))))))))))), ((tI_nE hM_134 (nk (by decide))).trans ((tI_nE hM_129 (nk (by decide))).trans ((q_117).trans ((tI_nE hM_107 (nk (by decide))).trans ((tI_nE hM_103 (nk (by decide))).trans ((q_101).trans ((tI_nE hM_95 (nk (by decide))).trans ((q_93).trans ((tI_nE hM_87 (nk (by decide))).trans ((q_85).trans ((tI_nE hM_79 (nk (by decide))).trans ((q_77).trans ((tI_nE hM_71 (nk (by decide))).trans ((q_69).trans ((tI_nE hM_63 (nk (by decide))).trans ((q_61).trans ((tI_nE hM_55 (no (cls_ne ob_2.1 ob_10.1 (by decide)))).trans ((q_53).trans ((q_47).trans f_37))))))))))))))))))), (by unfold pp_mn; rw [if_pos (by omega), E1, j_42, E3, E4, E5]; exact hs_135)⟩) dX4_readMan_220
    refine sb_icmp_ne (tgt := 84) hx hb rfl (by decide : (25 : Int32).toInt = 25) dX4_readMan_61 (by decide) (fun c_61_23 => ?_) (fun c_61_23 => ?_)
    · exact hj_84_42 M_20 g_22 _ _ _ iM_20 ((rf_I hM_20).trans q_13) (f0.trans (f0_I hM_20 (f0n ob_10.1 (by decide))) (f0_12 (o2_12 q_14))) ((tI_nE hM_20 (nk (by decide))).trans q_15) ((tI_nE hM_20 (nk (by decide))).trans (((o2_12 q_14) t 4 (cls_ne (ob_t ht).1 ob_1.1 (by decide)) (cls_ne (ob_t ht).1 ob_2.1 (by decide))).trans ex_1.symm)) ((tT_uIE hM_20).trans ((tT_fr q_13).trans hT)) hs_21 (by unfold pp_m2; rw [if_neg (fun q => absurd q.1 (by omega))]) hw (lv_sub hl [0, 1] rfl)
    · refine lv_aload_n hx hb dX4_readMan_64 rfl (lv_at hl 1 rfl) ?_
      refine ti_get (ci := 4) (k := 1) (N := 6) (T := TX4) (v := .ref (A t 0)) C hw iw_4 rfl ob_1 (by decide) (by decide) fl_X4_28 rfl (ti_Tv ((tT_uIE hM_20).trans ((tT_fr q_13).trans hT))) dX4_readMan_65 ?_
      refine lv_aload_n hx hb dX4_readMan_68 rfl (lv_at hl 0 rfl) ?_
      refine ti_get (ci := 2) (k := 0) (N := 10) (T := TX2) C hw iw_2 rfl ob_10 (by decide) (by decide) fl_X4_105 rfl rfl dX4_readMan_69 ?_
      refine ti_top (y := x_19) (tI_uE hM_20) ?_
      refine ti_callVi (ci := 8) (av := [.int x_19]) C hw (x_X8_find l D A cy hJ M_20 iM_20 t ht x_19 B n g_22 hs_21) ⟨ml_X4_110, ym_X8_find, yv_X8_find, yi_X8_find, yc_X8_find⟩ yd_X8_find (ob_t ht) (by decide) rfl rfl hl.1 (Nat.le_of_ble_eq_true rfl) ⟨by decide, by decide⟩ ⟨Nat.zero_le _, Nat.zero_le _⟩ dX4_readMan_72 (fun r_25 M_26 H locs hp_26 hw => ?_)
      obtain ⟨hm, b0r_25, b1r_25, p0r_25⟩ := hp_26
      have hw := hw.to hm
      refine lv_iconst (v := (-1)) hx hb dX4_readMan_75 (by decide) ?_
      refine sb_icmp_eq (tgt := 84) hx hb rfl (by decide : ((-1) : Int32).toInt = (-1)) dX4_readMan_76 (by decide) (fun c_76_26 => ?_) (fun c_76_26 => ?_)
      · exact hj_84_42 M_20 g_22 _ _ _ iM_20 ((rf_I hM_20).trans q_13) (f0.trans (f0_I hM_20 (f0n ob_10.1 (by decide))) (f0_12 (o2_12 q_14))) ((tI_nE hM_20 (nk (by decide))).trans q_15) ((tI_nE hM_20 (nk (by decide))).trans (((o2_12 q_14) t 4 (cls_ne (ob_t ht).1 ob_1.1 (by decide)) (cls_ne (ob_t ht).1 ob_2.1 (by decide))).trans ex_1.symm)) ((tT_uIE hM_20).trans ((tT_fr q_13).trans hT)) hs_21 (by unfold pp_m2; rw [if_neg (fun q => q.2 (by rw [show pp_fd g_22 (g_22 1) 0 = r_25.toInt by (rw [show g_22 1 = x_19.toInt by omega]; exact p0r_25.symm)]; omega))]) hw (lv_sub hl [0, 1] rfl)
      · refine lv_aload_n hx hb dX4_readMan_79 rfl (lv_at hl 1 rfl) ?_
        refine lv_iconst (v := 3) hx hb dX4_readMan_80 (by decide) ?_
        refine ti_callVv (ci := 4) (av := [.int 3]) C hw (x_X4_refuse l D A cy hJ M_20 iM_20 t ht 3 B n g_22 hs_21) ⟨ml_X4_82, ym_X4_refuse, yv_X4_refuse, yi_X4_refuse, yc_X4_refuse⟩ yd_X4_refuse ob_1 (by decide) rfl rfl hl.1 (Nat.le_of_ble_eq_true rfl) ⟨by decide, by decide⟩ ⟨Nat.zero_le _, Nat.zero_le _⟩ dX4_readMan_81 (fun M_29 H locs hp_29 hw => ?_)
        obtain ⟨iM_29, q_30, q_31, q_32, p0r_28⟩ := hp_29
        have hlr_28_3 : (3 : Int32).toInt = 3 := by decide
        simp only [hlr_28_3] at p0r_28
        obtain ⟨g_33, eg_33⟩ : ∃ z : Nat → Int, z = pp_rf 3 g_22 := ⟨_, rfl⟩
        rw [← eg_33] at p0r_28
        have lg_33_0 : g_33 0 = (tI M_29 2 4).toInt := p0r_28.2.1.1
        have lg_33_1 : g_33 1 = (tI M_29 2 6).toInt := p0r_28.2.1.2.1
        have lg_33_4 : g_33 4 = (tI M_29 1 4).toInt := p0r_28.2.2.1.1
        have lg_33_7 : g_33 7 = (tI M_29 t 4).toInt := p0r_28.2.2.2.1.1
        have lg_33_8 : g_33 8 = (tI M_29 t 5).toInt := p0r_28.2.2.2.1.2.1
        exact hj_84_42 M_29 g_33 _ _ _ iM_29 ((q_30).trans ((rf_I hM_20).trans q_13)) (f0.trans (f0_12 q_31) (f0.trans (f0_I hM_20 (f0n ob_10.1 (by decide))) (f0_12 (o2_12 q_14)))) ((q_32).trans ((tI_nE hM_20 (nk (by decide))).trans q_15)) ((q_31 t 4 (cls_ne (ob_t ht).1 ob_1.1 (by decide)) (cls_ne (ob_t ht).1 ob_2.1 (by decide))).trans ((tI_nE hM_20 (nk (by decide))).trans (((o2_12 q_14) t 4 (cls_ne (ob_t ht).1 ob_1.1 (by decide)) (cls_ne (ob_t ht).1 ob_2.1 (by decide))).trans ex_1.symm))) ((tT_fr q_30).trans ((tT_uIE hM_20).trans ((tT_fr q_13).trans hT))) p0r_28 (by unfold pp_m2; rw [if_pos ⟨by omega, by rw [show pp_fd g_22 (g_22 1) 0 = r_25.toInt by (rw [show g_22 1 = x_19.toInt by omega]; exact p0r_25.symm)]; omega⟩, ← eg_33]) hw (lv_sub hl [0, 1] rfl)
  · refine lv_aload_n hx hb dX4_readMan_12 rfl (lv_at hl 0 rfl) ?_
    refine lv_iconst (v := 2) hx hb dX4_readMan_13 (by decide) ?_
    refine ti_callVv (ci := 4) (av := [.int 2]) C hw (x_X4_refuse l D A cy hJ M hI t ht 2 B n rg hr) ⟨ml_X4_82, ym_X4_refuse, yv_X4_refuse, yi_X4_refuse, yc_X4_refuse⟩ yd_X4_refuse ob_1 (by decide) rfl rfl hl.1 (Nat.le_of_ble_eq_true rfl) ⟨by decide, by decide⟩ ⟨Nat.zero_le _, Nat.zero_le _⟩ dX4_readMan_14 (fun M_4 H locs hp_4 hw => ?_)
    obtain ⟨iM_4, q_5, q_6, q_7, p0r_3⟩ := hp_4
    have hlr_3_2 : (2 : Int32).toInt = 2 := by decide
    simp only [hlr_3_2] at p0r_3
    obtain ⟨g_8, eg_8⟩ : ∃ z : Nat → Int, z = pp_rf 2 rg := ⟨_, rfl⟩
    rw [← eg_8] at p0r_3
    have lg_8_0 : g_8 0 = (tI M_4 2 4).toInt := p0r_3.2.1.1
    have lg_8_1 : g_8 1 = (tI M_4 2 6).toInt := p0r_3.2.1.2.1
    have lg_8_4 : g_8 4 = (tI M_4 1 4).toInt := p0r_3.2.2.1.1
    have lg_8_7 : g_8 7 = (tI M_4 t 4).toInt := p0r_3.2.2.2.1.1
    have lg_8_8 : g_8 8 = (tI M_4 t 5).toInt := p0r_3.2.2.2.1.2.1
    exact hQ _ _ _ _ _ hw (⟨iM_4, (q_5), (f0_12 q_6), (q_7), (by unfold pp_mn; rw [if_neg (by omega), ← eg_8]; exact p0r_3)⟩) dX4_readMan_17
set_option maxHeartbeats 4000000 in
set_option maxRecDepth 100000 in
theorem x_X4_readPower (l : Launch) (D : va_G) (A : Nat → Nat → Nat) (cy : Nat → ClassId) (hJ : ti_inj ti_LT A) (M : ti_M) (hI : cI Tc M) (t : Nat) (ht : t = 3 ∨ t = 4) (hT : tT M 1 1 = some t) (B : Nat → Int) (n : Nat) (rg : Nat → Int) (hr : rC B n t rg M) : ti_KvE l yX4_readPower cX4_readPower 2 8 ti_LT D A cy M [.ref (A 1 0)] (fun M2 => cI Tc M2 ∧ M2.2.2.2 = M.2.2.2 ∧ f0 M2 M ∧ tI M2 2 1 = tI M 2 1 ∧ rC B n t (pp_pw B n rg) M2) := by
  refine ti_eVE yp_X4_readPower hJ ti_LT_nd (Nat.le_of_ble_eq_true rfl) ?_
  intro p e s m args below meth c Q H0 C hE hQ hw ls hl
  have hx := C.1
  have hb := C.2.1
  have hl : lv_has ls 2 [(0, .ref (A 1 0))] := hl
  have l0 : rg 0 = (tI M 2 4).toInt := hr.2.1.1
  have l1 : rg 1 = (tI M 2 6).toInt := hr.2.1.2.1
  have l2 : rg 2 = (tI M 2 5).toInt := hr.2.1.2.2.1
  have l3 : rg 3 = (tI M 2 3).toInt := hr.2.1.2.2.2
  have l4 : rg 4 = (tI M 1 4).toInt := hr.2.2.1.1
  have l5 : rg 5 = (tI M 1 5).toInt := hr.2.2.1.2.1
  have l7 : rg 7 = (tI M t 4).toInt := hr.2.2.2.1.1
  have l8 : rg 8 = (tI M t 5).toInt := hr.2.2.2.1.2.1
  have l9 : rg 9 = (tI M t 3).toInt := hr.2.2.2.1.2.2
  refine lv_aload_n hx hb dX4_readPower_0 rfl (lv_at hl 0 rfl) ?_
  refine ti_get (ci := 4) (k := 0) (N := 6) (T := TX4) (v := .ref (A 2 0)) C hw iw_4 rfl ob_1 (by decide) (by decide) fl_X4_12 rfl rfl dX4_readPower_1 ?_
  refine ti_callVvE (ci := 7) (av := []) C hE hw (x_X7_advance l D A cy hJ M hI ) ⟨ml_X4_92, ym_X7_advance, yv_X7_advance, yi_X7_advance, yc_X7_advance⟩ yd_X7_advance ob_2 (by decide) rfl rfl hl.1 (Nat.le_of_ble_eq_true rfl) ⟨by decide, by decide⟩ ⟨Nat.zero_le _, Nat.zero_le _⟩ dX4_readPower_4 (fun M_2 H locs hp_2 hw => ?_)
  obtain ⟨iM_2, q_3, q_4, q_5, q_6, p0r_1, p1r_1, p2r_1, p3r_1⟩ := hp_2
  have hs_7 := rC_av ht hr q_6 q_4 p0r_1 p1r_1 p2r_1 p3r_1
  obtain ⟨g_8, eg_8⟩ : ∃ z : Nat → Int, z = pp_av B n rg := ⟨_, rfl⟩
  rw [← eg_8] at hs_7
  have lg_8_0 : g_8 0 = (tI M_2 2 4).toInt := hs_7.2.1.1
  have lg_8_1 : g_8 1 = (tI M_2 2 6).toInt := hs_7.2.1.2.1
  have lg_8_4 : g_8 4 = (tI M_2 1 4).toInt := hs_7.2.2.1.1
  have lg_8_7 : g_8 7 = (tI M_2 t 4).toInt := hs_7.2.2.2.1.1
  have lg_8_8 : g_8 8 = (tI M_2 t 5).toInt := hs_7.2.2.2.1.2.1
  refine lv_aload_n hx hb dX4_readPower_7 rfl (lv_at hl 0 rfl) ?_
  refine ti_get (ci := 4) (k := 0) (N := 6) (T := TX4) (v := .ref (A 2 0)) C hw iw_4 rfl ob_1 (by decide) (by decide) fl_X4_12 rfl rfl dX4_readPower_8 ?_
  refine ti_get (ci := 7) (k := 4) (N := 7) (T := TX7) C hw iw_7 rfl ob_2 (by decide) (by decide) fl_X4_41 rfl rfl dX4_readPower_11 ?_
  refine lv_topi (fun x_9 ex_9 => ?_)
  have bx_9 : 0 ≤ x_9.toInt ∧ x_9.toInt ≤ 41 := cI_rd iM_2 ob_2.1 ex_9
  have ux_9 : (tI M_2 2 4).toInt = x_9.toInt := by rw [ex_9]
  refine lv_istore_n (lv' := [(1, .int x_9), (0, .ref (A 1 0))]) hx hb dX4_readPower_14 rfl hl (by decide) rfl (fun ls hl => ?_)
  refine lv_iload_n hx hb dX4_readPower_15 rfl (lv_at hl 0 rfl) ?_
  refine lv_bipush (v := 9) hx hb dX4_readPower_16 (by decide) ?_
  refine sb_icmp_lt (tgt := 27) hx hb rfl (by decide : (9 : Int32).toInt = 9) dX4_readPower_18 (by decide) (fun c_18_9 => ?_) (fun c_18_9 => ?_)
  · refine lv_aload_n hx hb dX4_readPower_27 rfl (lv_at hl 1 rfl) ?_
    refine lv_iconst (v := 1) hx hb dX4_readPower_28 (by decide) ?_
    refine ti_callVv (ci := 4) (av := [.int 1]) C hw (x_X4_refuse l D A cy hJ M_2 iM_2 t ht 1 B n g_8 hs_7) ⟨ml_X4_82, ym_X4_refuse, yv_X4_refuse, yi_X4_refuse, yc_X4_refuse⟩ yd_X4_refuse ob_1 (by decide) rfl rfl hl.1 (Nat.le_of_ble_eq_true rfl) ⟨by decide, by decide⟩ ⟨Nat.zero_le _, Nat.zero_le _⟩ dX4_readPower_29 (fun M_13 H locs hp_13 hw => ?_)
    obtain ⟨iM_13, q_14, q_15, q_16, p0r_12⟩ := hp_13
    have hlr_12_1 : (1 : Int32).toInt = 1 := by decide
    simp only [hlr_12_1] at p0r_12
    obtain ⟨g_17, eg_17⟩ : ∃ z : Nat → Int, z = pp_rf 1 g_8 := ⟨_, rfl⟩
    rw [← eg_17] at p0r_12
    have lg_17_0 : g_17 0 = (tI M_13 2 4).toInt := p0r_12.2.1.1
    have lg_17_1 : g_17 1 = (tI M_13 2 6).toInt := p0r_12.2.1.2.1
    have lg_17_4 : g_17 4 = (tI M_13 1 4).toInt := p0r_12.2.2.1.1
    have lg_17_7 : g_17 7 = (tI M_13 t 4).toInt := p0r_12.2.2.2.1.1
    have lg_17_8 : g_17 8 = (tI M_13 t 5).toInt := p0r_12.2.2.2.1.2.1
    exact hQ _ _ _ _ _ hw (⟨iM_13, ((q_14).trans q_3), (f0.trans (f0_12 q_15) (f0_12 (o2_12 q_4))), ((q_16).trans q_5), (by unfold pp_pw; rw [← eg_8, if_neg (fun q => by omega), ← eg_17]; exact p0r_12)⟩) dX4_readPower_32
  · refine lv_iload_n hx hb dX4_readPower_21 rfl (lv_at hl 0 rfl) ?_
    refine lv_bipush (v := 11) hx hb dX4_readPower_22 (by decide) ?_
    refine sb_icmp_le (tgt := 33) hx hb rfl (by decide : (11 : Int32).toInt = 11) dX4_readPower_24 (by decide) (fun c_24_10 => ?_) (fun c_24_10 => ?_)
    · refine lv_aload_n hx hb dX4_readPower_33 rfl (lv_at hl 1 rfl) ?_
      refine ti_callVvE (ci := 4) (av := []) C hE hw (x_X4_once l D A cy hJ M_2 iM_2 t ht B n g_8 hs_7 (by omega)) ⟨ml_X4_53, ym_X4_once, yv_X4_once, yi_X4_once, yc_X4_once⟩ yd_X4_once ob_1 (by decide) rfl rfl hl.1 (Nat.le_of_ble_eq_true rfl) ⟨by decide, by decide⟩ ⟨Nat.zero_le _, Nat.zero_le _⟩ dX4_readPower_34 (fun M_25 H locs hp_25 hw => ?_)
      obtain ⟨iM_25, q_26, q_27, q_28, p0r_24⟩ := hp_25
      obtain ⟨g_29, eg_29⟩ : ∃ z : Nat → Int, z = pp_on B n g_8 := ⟨_, rfl⟩
      rw [← eg_29] at p0r_24
      have lg_29_0 : g_29 0 = (tI M_25 2 4).toInt := p0r_24.2.1.1
      have lg_29_1 : g_29 1 = (tI M_25 2 6).toInt := p0r_24.2.1.2.1
      have lg_29_4 : g_29 4 = (tI M_25 1 4).toInt := p0r_24.2.2.1.1
      have lg_29_7 : g_29 7 = (tI M_25 t 4).toInt := p0r_24.2.2.2.1.1
      have lg_29_8 : g_29 8 = (tI M_25 t 5).toInt := p0r_24.2.2.2.1.2.1
      refine lv_aload_n hx hb dX4_readPower_37 rfl (lv_at hl 1 rfl) ?_
      refine ti_get (ci := 4) (k := 1) (N := 6) (T := TX4) (v := .ref (A t 0)) C hw iw_4 rfl ob_1 (by decide) (by decide) fl_X4_28 rfl (ti_Tv ((tT_fr q_26).trans ((tT_fr q_3).trans hT))) dX4_readPower_38 ?_
      refine ti_get (ci := 8) (k := 1) (N := 12) (T := TX8) (v := .ref (A t 2)) C hw iw_8 rfl (ob_t ht) (by decide) (by decide) fl_X4_146 rfl rfl dX4_readPower_41 ?_
      refine lv_iload_n hx hb dX4_readPower_44 rfl (lv_at hl 0 rfl) ?_
      refine lv_bipush (v := 9) hx hb dX4_readPower_45 (by decide) ?_
      refine lv_isub hx hb dX4_readPower_47 ?_
      refine lv_topi (fun x_30 ex_30 => ?_)
      have tx_30 : x_30.toInt = x_9.toInt - 9 := i_sub ex_30 rfl (by decide : (9 : Int32).toInt = 9) (by omega) (by omega)
      refine lv_aload_n hx hb dX4_readPower_48 rfl (lv_at hl 1 rfl) ?_
      refine lv_iconst (v := 0) hx hb dX4_readPower_49 (by decide) ?_
      refine lv_bipush (v := 7) hx hb dX4_readPower_50 (by decide) ?_
      refine ti_callViE (ci := 4) (av := [.int 0, .int 7]) C hE hw (x_X4_number l D A cy hJ M_25 iM_25 t ht 0 7 B n g_29 p0r_24) ⟨ml_X4_56, ym_X4_number, yv_X4_number, yi_X4_number, yc_X4_number⟩ yd_X4_number ob_1 (by decide) rfl rfl hl.1 (Nat.le_of_ble_eq_true rfl) ⟨by decide, by decide⟩ ⟨Nat.zero_le _, Nat.zero_le _⟩ dX4_readPower_52 (fun r_31 M_32 H locs hp_32 hw => ?_)
      obtain ⟨iM_32, q_33, q_34, q_35, p0r_31, p1r_31⟩ := hp_32
      have hlr_31_0 : (0 : Int32).toInt = 0 := by decide
      have hlr_31_7 : (7 : Int32).toInt = 7 := by decide
      simp only [hlr_31_0, hlr_31_7] at p1r_31
      obtain ⟨g_36, eg_36⟩ : ∃ z : Nat → Int, z = pp_nb B n 0 7 g_29 := ⟨_, rfl⟩
      rw [← eg_36] at p1r_31
      have lg_36_0 : g_36 0 = (tI M_32 2 4).toInt := p1r_31.2.1.1
      have lg_36_1 : g_36 1 = (tI M_32 2 6).toInt := p1r_31.2.1.2.1
      have lg_36_4 : g_36 4 = (tI M_32 1 4).toInt := p1r_31.2.2.1.1
      have lg_36_7 : g_36 7 = (tI M_32 t 4).toInt := p1r_31.2.2.2.1.1
      have lg_36_8 : g_36 8 = (tI M_32 t 5).toInt := p1r_31.2.2.2.1.2.1
      refine ti_iast (ci := 8) (k := 1) (n := 3) C hw (ob_t ht) (by decide) (fun _ _ => rfl) (vp_in_iff.mpr (by omega)) dX4_readPower_55 (fun H locs hw => ?_)
      obtain ⟨M_37, hM_37⟩ : ∃ z : ti_M, z = uY M_32 t 1 (upd (tY M_32 t 1) (x_30 : Int32).toNatClampNeg r_31) := ⟨_, rfl⟩
      have hw := hw.to hM_37.symm
      have iM_37 : cI Tc M_37 := cI_up iM_32 hM_37 (ob_t ht).1 trivial
      have hs_38 := rC_Y hM_37 (no (cls_ne ob_2.1 (ob_t ht).1 (by decide))) p1r_31
      have lM_37_0 : g_36 0 = (tI M_37 2 4).toInt := hs_38.2.1.1
      have lM_37_1 : g_36 1 = (tI M_37 2 6).toInt := hs_38.2.1.2.1
      have lM_37_4 : g_36 4 = (tI M_37 1 4).toInt := hs_38.2.2.1.1
      have lM_37_7 : g_36 7 = (tI M_37 t 4).toInt := hs_38.2.2.2.1.1
      have lM_37_8 : g_36 8 = (tI M_37 t 5).toInt := hs_38.2.2.2.1.2.1
      exact hQ _ _ _ _ _ hw (⟨iM_37, ((rf_Y hM_37).trans ((q_33).trans ((q_26).trans q_3))), (f0.trans (f0_of (ra_Y hM_37)) (f0.trans (f0_12 q_34) (f0.trans (f0_12 q_27) (f0_12 (o2_12 q_4))))), ((tI_uYE hM_37).trans ((q_35).trans ((q_28).trans q_5))), (by unfold pp_pw; rw [← eg_8, if_pos ⟨by omega, by omega⟩, ← eg_29, ← eg_36]; exact hs_38)⟩) dX4_readPower_56
    · refine lv_aload_n hx hb dX4_readPower_27 rfl (lv_at hl 1 rfl) ?_
      refine lv_iconst (v := 1) hx hb dX4_readPower_28 (by decide) ?_
      refine ti_callVv (ci := 4) (av := [.int 1]) C hw (x_X4_refuse l D A cy hJ M_2 iM_2 t ht 1 B n g_8 hs_7) ⟨ml_X4_82, ym_X4_refuse, yv_X4_refuse, yi_X4_refuse, yc_X4_refuse⟩ yd_X4_refuse ob_1 (by decide) rfl rfl hl.1 (Nat.le_of_ble_eq_true rfl) ⟨by decide, by decide⟩ ⟨Nat.zero_le _, Nat.zero_le _⟩ dX4_readPower_29 (fun M_19 H locs hp_19 hw => ?_)
      obtain ⟨iM_19, q_20, q_21, q_22, p0r_18⟩ := hp_19
      have hlr_18_1 : (1 : Int32).toInt = 1 := by decide
      simp only [hlr_18_1] at p0r_18
      obtain ⟨g_23, eg_23⟩ : ∃ z : Nat → Int, z = pp_rf 1 g_8 := ⟨_, rfl⟩
      rw [← eg_23] at p0r_18
      have lg_23_0 : g_23 0 = (tI M_19 2 4).toInt := p0r_18.2.1.1
      have lg_23_1 : g_23 1 = (tI M_19 2 6).toInt := p0r_18.2.1.2.1
      have lg_23_4 : g_23 4 = (tI M_19 1 4).toInt := p0r_18.2.2.1.1
      have lg_23_7 : g_23 7 = (tI M_19 t 4).toInt := p0r_18.2.2.2.1.1
      have lg_23_8 : g_23 8 = (tI M_19 t 5).toInt := p0r_18.2.2.2.1.2.1
      exact hQ _ _ _ _ _ hw (⟨iM_19, ((q_20).trans q_3), (f0.trans (f0_12 q_21) (f0_12 (o2_12 q_4))), ((q_22).trans q_5), (by unfold pp_pw; rw [← eg_8, if_neg (fun q => by omega), ← eg_23]; exact p0r_18)⟩) dX4_readPower_32
set_option maxHeartbeats 4000000 in
set_option maxRecDepth 100000 in
theorem x_X4_readGuard (l : Launch) (D : va_G) (A : Nat → Nat → Nat) (cy : Nat → ClassId) (hJ : ti_inj ti_LT A) (M : ti_M) (hI : cI Tc M) (t : Nat) (ht : t = 3 ∨ t = 4) (hT : tT M 1 1 = some t) (B : Nat → Int) (n : Nat) (rg : Nat → Int) (hr : rC B n t rg M) : ti_KvE l yX4_readGuard cX4_readGuard 3 8 ti_LT D A cy M [.ref (A 1 0)] (fun M2 => cI Tc M2 ∧ M2.2.2.2 = M.2.2.2 ∧ f0 M2 M ∧ tI M2 2 1 = tI M 2 1 ∧ rC B n t (pp_gd B n rg) M2) := by
  refine ti_eVE yp_X4_readGuard hJ ti_LT_nd (Nat.le_of_ble_eq_true rfl) ?_
  intro p e s m args below meth c Q H0 C hE hQ hw ls hl
  have hx := C.1
  have hb := C.2.1
  have hl : lv_has ls 3 [(0, .ref (A 1 0))] := hl
  have l0 : rg 0 = (tI M 2 4).toInt := hr.2.1.1
  have l1 : rg 1 = (tI M 2 6).toInt := hr.2.1.2.1
  have l2 : rg 2 = (tI M 2 5).toInt := hr.2.1.2.2.1
  have l3 : rg 3 = (tI M 2 3).toInt := hr.2.1.2.2.2
  have l4 : rg 4 = (tI M 1 4).toInt := hr.2.2.1.1
  have l5 : rg 5 = (tI M 1 5).toInt := hr.2.2.1.2.1
  have l7 : rg 7 = (tI M t 4).toInt := hr.2.2.2.1.1
  have l8 : rg 8 = (tI M t 5).toInt := hr.2.2.2.1.2.1
  have l9 : rg 9 = (tI M t 3).toInt := hr.2.2.2.1.2.2
  refine lv_aload_n hx hb dX4_readGuard_0 rfl (lv_at hl 0 rfl) ?_
  refine ti_get (ci := 4) (k := 0) (N := 6) (T := TX4) (v := .ref (A 2 0)) C hw iw_4 rfl ob_1 (by decide) (by decide) fl_X4_12 rfl rfl dX4_readGuard_1 ?_
  refine ti_callVvE (ci := 7) (av := []) C hE hw (x_X7_advance l D A cy hJ M hI ) ⟨ml_X4_92, ym_X7_advance, yv_X7_advance, yi_X7_advance, yc_X7_advance⟩ yd_X7_advance ob_2 (by decide) rfl rfl hl.1 (Nat.le_of_ble_eq_true rfl) ⟨by decide, by decide⟩ ⟨Nat.zero_le _, Nat.zero_le _⟩ dX4_readGuard_4 (fun M_2 H locs hp_2 hw => ?_)
  obtain ⟨iM_2, q_3, q_4, q_5, q_6, p0r_1, p1r_1, p2r_1, p3r_1⟩ := hp_2
  have hs_7 := rC_av ht hr q_6 q_4 p0r_1 p1r_1 p2r_1 p3r_1
  obtain ⟨g_8, eg_8⟩ : ∃ z : Nat → Int, z = pp_av B n rg := ⟨_, rfl⟩
  rw [← eg_8] at hs_7
  have lg_8_0 : g_8 0 = (tI M_2 2 4).toInt := hs_7.2.1.1
  have lg_8_1 : g_8 1 = (tI M_2 2 6).toInt := hs_7.2.1.2.1
  have lg_8_4 : g_8 4 = (tI M_2 1 4).toInt := hs_7.2.2.1.1
  have lg_8_7 : g_8 7 = (tI M_2 t 4).toInt := hs_7.2.2.2.1.1
  have lg_8_8 : g_8 8 = (tI M_2 t 5).toInt := hs_7.2.2.2.1.2.1
  refine lv_aload_n hx hb dX4_readGuard_7 rfl (lv_at hl 0 rfl) ?_
  refine ti_callVi (ci := 4) (av := []) C hw (x_X4_toldMan l D A cy hJ M_2 iM_2 t ht ((tT_fr q_3).trans hT) B n g_8 hs_7) ⟨ml_X4_142, ym_X4_toldMan, yv_X4_toldMan, yi_X4_toldMan, yc_X4_toldMan⟩ yd_X4_toldMan ob_1 (by decide) rfl rfl hl.1 (Nat.le_of_ble_eq_true rfl) ⟨by decide, by decide⟩ ⟨Nat.zero_le _, Nat.zero_le _⟩ dX4_readGuard_8 (fun r_9 M_10 H locs hp_10 hw => ?_)
  obtain ⟨iM_10, q_11, q_12, q_13, b0r_9, b1r_9, p0r_9, p1r_9⟩ := hp_10
  obtain ⟨g_14, eg_14⟩ : ∃ z : Nat → Int, z = pp_tm g_8 := ⟨_, rfl⟩
  rw [← eg_14] at p1r_9
  have lg_14_0 : g_14 0 = (tI M_10 2 4).toInt := p1r_9.2.1.1
  have lg_14_1 : g_14 1 = (tI M_10 2 6).toInt := p1r_9.2.1.2.1
  have lg_14_4 : g_14 4 = (tI M_10 1 4).toInt := p1r_9.2.2.1.1
  have lg_14_7 : g_14 7 = (tI M_10 t 4).toInt := p1r_9.2.2.2.1.1
  have lg_14_8 : g_14 8 = (tI M_10 t 5).toInt := p1r_9.2.2.2.1.2.1
  refine lv_istore_n (lv' := [(1, .int r_9), (0, .ref (A 1 0))]) hx hb dX4_readGuard_11 rfl hl (by decide) rfl (fun ls hl => ?_)
  refine lv_iload_n hx hb dX4_readGuard_12 rfl (lv_at hl 0 rfl) ?_
  refine lv_iconst (v := (-1)) hx hb dX4_readGuard_13 (by decide) ?_
  refine sb_icmp_ne (tgt := 18) hx hb rfl (by decide : ((-1) : Int32).toInt = (-1)) dX4_readGuard_14 (by decide) (fun c_14_14 => ?_) (fun c_14_14 => ?_)
  · refine lv_aload_n hx hb dX4_readGuard_18 rfl (lv_at hl 1 rfl) ?_
    refine ti_get (ci := 4) (k := 1) (N := 6) (T := TX4) (v := .ref (A t 0)) C hw iw_4 rfl ob_1 (by decide) (by decide) fl_X4_28 rfl (ti_Tv ((tT_fr q_11).trans ((tT_fr q_3).trans hT))) dX4_readGuard_19 ?_
    refine ti_get (ci := 8) (k := 0) (N := 12) (T := TX8) (v := .ref (A t 1)) C hw iw_8 rfl (ob_t ht) (by decide) (by decide) fl_X4_101 rfl rfl dX4_readGuard_22 ?_
    refine lv_iload_n hx hb dX4_readGuard_25 rfl (lv_at hl 0 rfl) ?_
    refine ti_aald (ci := 8) (k := 0) (n := 8) (t0 := 5) (Cn := RX2) (gg := (ti_men t)) (j := r_9.toNatClampNeg) C hw (ob_t ht) (by decide) (fun _ _ => rfl) rfl (vp_in_iff.mpr (by omega)) rfl dX4_readGuard_26 ?_
    have ob_16 : ti_ob ti_LT (ti_men t r_9.toNatClampNeg) 2 := ob_m ht (i_nt rfl (by omega) (by omega))
    refine ti_get (ci := 2) (k := 9) (N := 10) (T := TX2) C hw iw_2 rfl ob_16 (by decide) (by decide) fl_X4_139 rfl rfl dX4_readGuard_27 ?_
    refine lv_topi (fun x_17 ex_17 => ?_)
    have u_18 : (tI M_10 (ti_men t r_9.toNatClampNeg) 9).toInt = x_17.toInt := by rw [ex_17]
    have gu : g_14 (200 + r_9.toInt.toNat) = x_17.toInt := by rw [ex_17]; exact (p1r_9.2.2.2.2 r_9.toInt.toNat (by omega)).2
    refine lv_iconst (v := (-1)) hx hb dX4_readGuard_30 (by decide) ?_
    refine sb_icmp_eq (tgt := 39) hx hb rfl (by decide : ((-1) : Int32).toInt = (-1)) dX4_readGuard_31 (by decide) (fun c_31_18 => ?_) (fun c_31_18 => ?_)
    · refine lv_aload_n hx hb dX4_readGuard_39 rfl (lv_at hl 1 rfl) ?_
      refine lv_bipush (v := 25) hx hb dX4_readGuard_40 (by decide) ?_
      refine ti_callVvE (ci := 4) (av := [.int 25]) C hE hw (x_X4_take l D A cy hJ M_10 iM_10 t ht 25 B n g_14 p1r_9) ⟨ml_X4_85, ym_X4_take, yv_X4_take, yi_X4_take, yc_X4_take⟩ yd_X4_take ob_1 (by decide) rfl rfl hl.1 (Nat.le_of_ble_eq_true rfl) ⟨by decide, by decide⟩ ⟨Nat.zero_le _, Nat.zero_le _⟩ dX4_readGuard_42 (fun M_27 H locs hp_27 hw => ?_)
      obtain ⟨iM_27, q_28, q_29, q_30, p0r_26⟩ := hp_27
      have hlr_26_25 : (25 : Int32).toInt = 25 := by decide
      simp only [hlr_26_25] at p0r_26
      obtain ⟨g_31, eg_31⟩ : ∃ z : Nat → Int, z = pp_tk B n 25 g_14 := ⟨_, rfl⟩
      rw [← eg_31] at p0r_26
      have lg_31_0 : g_31 0 = (tI M_27 2 4).toInt := p0r_26.2.1.1
      have lg_31_1 : g_31 1 = (tI M_27 2 6).toInt := p0r_26.2.1.2.1
      have lg_31_4 : g_31 4 = (tI M_27 1 4).toInt := p0r_26.2.2.1.1
      have lg_31_7 : g_31 7 = (tI M_27 t 4).toInt := p0r_26.2.2.2.1.1
      have lg_31_8 : g_31 8 = (tI M_27 t 5).toInt := p0r_26.2.2.2.1.2.1
      refine lv_aload_n hx hb dX4_readGuard_45 rfl (lv_at hl 1 rfl) ?_
      refine ti_callVi (ci := 4) (av := []) C hw (x_X4_toldMan l D A cy hJ M_27 iM_27 t ht ((tT_fr q_28).trans ((tT_fr q_11).trans ((tT_fr q_3).trans hT))) B n g_31 p0r_26) ⟨ml_X4_142, ym_X4_toldMan, yv_X4_toldMan, yi_X4_toldMan, yc_X4_toldMan⟩ yd_X4_toldMan ob_1 (by decide) rfl rfl hl.1 (Nat.le_of_ble_eq_true rfl) ⟨by decide, by decide⟩ ⟨Nat.zero_le _, Nat.zero_le _⟩ dX4_readGuard_46 (fun r_32 M_33 H locs hp_33 hw => ?_)
      obtain ⟨iM_33, q_34, q_35, q_36, b0r_32, b1r_32, p0r_32, p1r_32⟩ := hp_33
      obtain ⟨g_37, eg_37⟩ : ∃ z : Nat → Int, z = pp_tm g_31 := ⟨_, rfl⟩
      rw [← eg_37] at p1r_32
      have lg_37_0 : g_37 0 = (tI M_33 2 4).toInt := p1r_32.2.1.1
      have lg_37_1 : g_37 1 = (tI M_33 2 6).toInt := p1r_32.2.1.2.1
      have lg_37_4 : g_37 4 = (tI M_33 1 4).toInt := p1r_32.2.2.1.1
      have lg_37_7 : g_37 7 = (tI M_33 t 4).toInt := p1r_32.2.2.2.1.1
      have lg_37_8 : g_37 8 = (tI M_33 t 5).toInt := p1r_32.2.2.2.1.2.1
      refine lv_istore_n (lv' := [(2, .int r_32), (1, .int r_9), (0, .ref (A 1 0))]) hx hb dX4_readGuard_49 rfl hl (by decide) rfl (fun ls hl => ?_)
      refine lv_iload_n hx hb dX4_readGuard_50 rfl (lv_at hl 0 rfl) ?_
      refine lv_iload_n hx hb dX4_readGuard_51 rfl (lv_at hl 1 rfl) ?_
      refine sb_icmp_ne (tgt := 60) hx hb rfl rfl dX4_readGuard_52 (by decide) (fun c_52_37 => ?_) (fun c_52_37 => ?_)
      · refine lv_aload_n hx hb dX4_readGuard_60 rfl (lv_at hl 2 rfl) ?_
        refine lv_bipush (v := 25) hx hb dX4_readGuard_61 (by decide) ?_
        refine ti_callVvE (ci := 4) (av := [.int 25]) C hE hw (x_X4_take l D A cy hJ M_33 iM_33 t ht 25 B n g_37 p1r_32) ⟨ml_X4_85, ym_X4_take, yv_X4_take, yi_X4_take, yc_X4_take⟩ yd_X4_take ob_1 (by decide) rfl rfl hl.1 (Nat.le_of_ble_eq_true rfl) ⟨by decide, by decide⟩ ⟨Nat.zero_le _, Nat.zero_le _⟩ dX4_readGuard_63 (fun M_65 H locs hp_65 hw => ?_)
        obtain ⟨iM_65, q_66, q_67, q_68, p0r_64⟩ := hp_65
        have hlr_64_25 : (25 : Int32).toInt = 25 := by decide
        simp only [hlr_64_25] at p0r_64
        obtain ⟨g_69, eg_69⟩ : ∃ z : Nat → Int, z = pp_tk B n 25 g_37 := ⟨_, rfl⟩
        rw [← eg_69] at p0r_64
        have lg_69_0 : g_69 0 = (tI M_65 2 4).toInt := p0r_64.2.1.1
        have lg_69_1 : g_69 1 = (tI M_65 2 6).toInt := p0r_64.2.1.2.1
        have lg_69_4 : g_69 4 = (tI M_65 1 4).toInt := p0r_64.2.2.1.1
        have lg_69_7 : g_69 7 = (tI M_65 t 4).toInt := p0r_64.2.2.2.1.1
        have lg_69_8 : g_69 8 = (tI M_65 t 5).toInt := p0r_64.2.2.2.1.2.1
        refine lv_aload_n hx hb dX4_readGuard_66 rfl (lv_at hl 2 rfl) ?_
        refine ti_get (ci := 4) (k := 1) (N := 6) (T := TX4) (v := .ref (A t 0)) C hw iw_4 rfl ob_1 (by decide) (by decide) fl_X4_28 rfl (ti_Tv ((tT_fr q_66).trans ((tT_fr q_34).trans ((tT_fr q_28).trans ((tT_fr q_11).trans ((tT_fr q_3).trans hT)))))) dX4_readGuard_67 ?_
        refine ti_get (ci := 8) (k := 0) (N := 12) (T := TX8) (v := .ref (A t 1)) C hw iw_8 rfl (ob_t ht) (by decide) (by decide) fl_X4_101 rfl rfl dX4_readGuard_70 ?_
        refine lv_iload_n hx hb dX4_readGuard_73 rfl (lv_at hl 1 rfl) ?_
        refine ti_aald (ci := 8) (k := 0) (n := 8) (t0 := 5) (Cn := RX2) (gg := (ti_men t)) (j := r_9.toNatClampNeg) C hw (ob_t ht) (by decide) (fun _ _ => rfl) rfl (vp_in_iff.mpr (by omega)) rfl dX4_readGuard_74 ?_
        refine lv_iload_n hx hb dX4_readGuard_75 rfl (lv_at hl 0 rfl) ?_
        refine ti_putI (ci := 2) (k := 9) (N := 10) (T := TX2) C hw iw_2 tyX2 tyX2_ok nmX2 rfl ob_16 (by decide) (by decide) fl_X4_139 rfl rfl rfl rfl (fn_2 A _) fs_2_9 dX4_readGuard_76 (fun H locs hw => ?_)
        obtain ⟨M_70, hM_70⟩ : ∃ z : ti_M, z = uI M_65 (ti_men t r_9.toNatClampNeg) 9 r_32 := ⟨_, rfl⟩
        have hw := hw.to hM_70.symm
        have iM_70 : cI Tc M_70 := cI_uI iM_65 hM_70 ob_16.1 trivial
        have hs_71 := rC_m9 (j := r_9.toNatClampNeg) ht (i_nt (x := r_9) rfl (by omega) (by omega)) hM_70 p0r_64
        obtain ⟨g_72, eg_72⟩ : ∃ z : Nat → Int, z = pp_su g_69 (200 + r_9.toNatClampNeg) r_32.toInt := ⟨_, rfl⟩
        rw [← eg_72] at hs_71
        have lg_72_0 : g_72 0 = (tI M_70 2 4).toInt := hs_71.2.1.1
        have lg_72_1 : g_72 1 = (tI M_70 2 6).toInt := hs_71.2.1.2.1
        have lg_72_4 : g_72 4 = (tI M_70 1 4).toInt := hs_71.2.2.1.1
        have lg_72_7 : g_72 7 = (tI M_70 t 4).toInt := hs_71.2.2.2.1.1
        have lg_72_8 : g_72 8 = (tI M_70 t 5).toInt := hs_71.2.2.2.1.2.1
        have E1 : pp_g1 B n r_9.toInt g_14 = g_31 := by unfold pp_g1; rw [if_pos (by rw [gu]; omega), ← eg_31]
        have E2 : pp_g3 B n r_9.toInt g_31 = g_72 := by unfold pp_g3; rw [show pp_tv g_31 = r_32.toInt from p0r_32.symm, ← eg_37]; unfold pp_g2; rw [if_neg (by omega), show r_9.toInt.toNat = r_9.toNatClampNeg from rfl, ← eg_69, ← eg_72]
        exact hQ _ _ _ _ _ hw (⟨iM_70, ((rf_I hM_70).trans ((q_66).trans ((q_34).trans ((q_28).trans ((q_11).trans q_3))))), (f0.trans (f0_I hM_70 (f0n ob_16.1 (by decide))) (f0.trans (f0_12 q_67) (f0.trans (f0_12 q_35) (f0.trans (f0_12 q_29) (f0.trans (f0_12 q_12) (f0_12 (o2_12 q_4))))))), ((tI_nE hM_70 (nk (by decide))).trans ((q_68).trans ((q_36).trans ((q_30).trans ((q_13).trans q_5))))), (by unfold pp_gd; rw [← eg_8, ← eg_14, show pp_tv g_8 = r_9.toInt from p0r_9.symm, if_neg (by omega), E1, E2]; exact hs_71)⟩) dX4_readGuard_79
      · refine lv_aload_n hx hb dX4_readGuard_55 rfl (lv_at hl 2 rfl) ?_
        refine lv_iconst (v := 5) hx hb dX4_readGuard_56 (by decide) ?_
        refine ti_callVv (ci := 4) (av := [.int 5]) C hw (x_X4_refuse l D A cy hJ M_33 iM_33 t ht 5 B n g_37 p1r_32) ⟨ml_X4_82, ym_X4_refuse, yv_X4_refuse, yi_X4_refuse, yc_X4_refuse⟩ yd_X4_refuse ob_1 (by decide) rfl rfl hl.1 (Nat.le_of_ble_eq_true rfl) ⟨by decide, by decide⟩ ⟨Nat.zero_le _, Nat.zero_le _⟩ dX4_readGuard_57 (fun M_53 H locs hp_53 hw => ?_)
        obtain ⟨iM_53, q_54, q_55, q_56, p0r_52⟩ := hp_53
        have hlr_52_5 : (5 : Int32).toInt = 5 := by decide
        simp only [hlr_52_5] at p0r_52
        obtain ⟨g_57, eg_57⟩ : ∃ z : Nat → Int, z = pp_rf 5 g_37 := ⟨_, rfl⟩
        rw [← eg_57] at p0r_52
        have lg_57_0 : g_57 0 = (tI M_53 2 4).toInt := p0r_52.2.1.1
        have lg_57_1 : g_57 1 = (tI M_53 2 6).toInt := p0r_52.2.1.2.1
        have lg_57_4 : g_57 4 = (tI M_53 1 4).toInt := p0r_52.2.2.1.1
        have lg_57_7 : g_57 7 = (tI M_53 t 4).toInt := p0r_52.2.2.2.1.1
        have lg_57_8 : g_57 8 = (tI M_53 t 5).toInt := p0r_52.2.2.2.1.2.1
        refine lv_aload_n hx hb dX4_readGuard_60 rfl (lv_at hl 2 rfl) ?_
        refine lv_bipush (v := 25) hx hb dX4_readGuard_61 (by decide) ?_
        refine ti_callVvE (ci := 4) (av := [.int 25]) C hE hw (x_X4_take l D A cy hJ M_53 iM_53 t ht 25 B n g_57 p0r_52) ⟨ml_X4_85, ym_X4_take, yv_X4_take, yi_X4_take, yc_X4_take⟩ yd_X4_take ob_1 (by decide) rfl rfl hl.1 (Nat.le_of_ble_eq_true rfl) ⟨by decide, by decide⟩ ⟨Nat.zero_le _, Nat.zero_le _⟩ dX4_readGuard_63 (fun M_83 H locs hp_83 hw => ?_)
        obtain ⟨iM_83, q_84, q_85, q_86, p0r_82⟩ := hp_83
        have hlr_82_25 : (25 : Int32).toInt = 25 := by decide
        simp only [hlr_82_25] at p0r_82
        obtain ⟨g_87, eg_87⟩ : ∃ z : Nat → Int, z = pp_tk B n 25 g_57 := ⟨_, rfl⟩
        rw [← eg_87] at p0r_82
        have lg_87_0 : g_87 0 = (tI M_83 2 4).toInt := p0r_82.2.1.1
        have lg_87_1 : g_87 1 = (tI M_83 2 6).toInt := p0r_82.2.1.2.1
        have lg_87_4 : g_87 4 = (tI M_83 1 4).toInt := p0r_82.2.2.1.1
        have lg_87_7 : g_87 7 = (tI M_83 t 4).toInt := p0r_82.2.2.2.1.1
        have lg_87_8 : g_87 8 = (tI M_83 t 5).toInt := p0r_82.2.2.2.1.2.1
        refine lv_aload_n hx hb dX4_readGuard_66 rfl (lv_at hl 2 rfl) ?_
        refine ti_get (ci := 4) (k := 1) (N := 6) (T := TX4) (v := .ref (A t 0)) C hw iw_4 rfl ob_1 (by decide) (by decide) fl_X4_28 rfl (ti_Tv ((tT_fr q_84).trans ((tT_fr q_54).trans ((tT_fr q_34).trans ((tT_fr q_28).trans ((tT_fr q_11).trans ((tT_fr q_3).trans hT))))))) dX4_readGuard_67 ?_
        refine ti_get (ci := 8) (k := 0) (N := 12) (T := TX8) (v := .ref (A t 1)) C hw iw_8 rfl (ob_t ht) (by decide) (by decide) fl_X4_101 rfl rfl dX4_readGuard_70 ?_
        refine lv_iload_n hx hb dX4_readGuard_73 rfl (lv_at hl 1 rfl) ?_
        refine ti_aald (ci := 8) (k := 0) (n := 8) (t0 := 5) (Cn := RX2) (gg := (ti_men t)) (j := r_9.toNatClampNeg) C hw (ob_t ht) (by decide) (fun _ _ => rfl) rfl (vp_in_iff.mpr (by omega)) rfl dX4_readGuard_74 ?_
        refine lv_iload_n hx hb dX4_readGuard_75 rfl (lv_at hl 0 rfl) ?_
        refine ti_putI (ci := 2) (k := 9) (N := 10) (T := TX2) C hw iw_2 tyX2 tyX2_ok nmX2 rfl ob_16 (by decide) (by decide) fl_X4_139 rfl rfl rfl rfl (fn_2 A _) fs_2_9 dX4_readGuard_76 (fun H locs hw => ?_)
        obtain ⟨M_88, hM_88⟩ : ∃ z : ti_M, z = uI M_83 (ti_men t r_9.toNatClampNeg) 9 r_32 := ⟨_, rfl⟩
        have hw := hw.to hM_88.symm
        have iM_88 : cI Tc M_88 := cI_uI iM_83 hM_88 ob_16.1 trivial
        have hs_89 := rC_m9 (j := r_9.toNatClampNeg) ht (i_nt (x := r_9) rfl (by omega) (by omega)) hM_88 p0r_82
        obtain ⟨g_90, eg_90⟩ : ∃ z : Nat → Int, z = pp_su g_87 (200 + r_9.toNatClampNeg) r_32.toInt := ⟨_, rfl⟩
        rw [← eg_90] at hs_89
        have lg_90_0 : g_90 0 = (tI M_88 2 4).toInt := hs_89.2.1.1
        have lg_90_1 : g_90 1 = (tI M_88 2 6).toInt := hs_89.2.1.2.1
        have lg_90_4 : g_90 4 = (tI M_88 1 4).toInt := hs_89.2.2.1.1
        have lg_90_7 : g_90 7 = (tI M_88 t 4).toInt := hs_89.2.2.2.1.1
        have lg_90_8 : g_90 8 = (tI M_88 t 5).toInt := hs_89.2.2.2.1.2.1
        have E1 : pp_g1 B n r_9.toInt g_14 = g_31 := by unfold pp_g1; rw [if_pos (by rw [gu]; omega), ← eg_31]
        have E2 : pp_g3 B n r_9.toInt g_31 = g_90 := by unfold pp_g3; rw [show pp_tv g_31 = r_32.toInt from p0r_32.symm, ← eg_37]; unfold pp_g2; rw [if_pos (by omega), show r_9.toInt.toNat = r_9.toNatClampNeg from rfl, ← eg_57, ← eg_87, ← eg_90]
        exact hQ _ _ _ _ _ hw (⟨iM_88, ((rf_I hM_88).trans ((q_84).trans ((q_54).trans ((q_34).trans ((q_28).trans ((q_11).trans q_3)))))), (f0.trans (f0_I hM_88 (f0n ob_16.1 (by decide))) (f0.trans (f0_12 q_85) (f0.trans (f0_12 q_55) (f0.trans (f0_12 q_35) (f0.trans (f0_12 q_29) (f0.trans (f0_12 q_12) (f0_12 (o2_12 q_4)))))))), ((tI_nE hM_88 (nk (by decide))).trans ((q_86).trans ((q_56).trans ((q_36).trans ((q_30).trans ((q_13).trans q_5)))))), (by unfold pp_gd; rw [← eg_8, ← eg_14, show pp_tv g_8 = r_9.toInt from p0r_9.symm, if_neg (by omega), E1, E2]; exact hs_89)⟩) dX4_readGuard_79
    · refine lv_aload_n hx hb dX4_readGuard_34 rfl (lv_at hl 1 rfl) ?_
      refine lv_iconst (v := 3) hx hb dX4_readGuard_35 (by decide) ?_
      refine ti_callVv (ci := 4) (av := [.int 3]) C hw (x_X4_refuse l D A cy hJ M_10 iM_10 t ht 3 B n g_14 p1r_9) ⟨ml_X4_82, ym_X4_refuse, yv_X4_refuse, yi_X4_refuse, yc_X4_refuse⟩ yd_X4_refuse ob_1 (by decide) rfl rfl hl.1 (Nat.le_of_ble_eq_true rfl) ⟨by decide, by decide⟩ ⟨Nat.zero_le _, Nat.zero_le _⟩ dX4_readGuard_36 (fun M_21 H locs hp_21 hw => ?_)
      obtain ⟨iM_21, q_22, q_23, q_24, p0r_20⟩ := hp_21
      have hlr_20_3 : (3 : Int32).toInt = 3 := by decide
      simp only [hlr_20_3] at p0r_20
      obtain ⟨g_25, eg_25⟩ : ∃ z : Nat → Int, z = pp_rf 3 g_14 := ⟨_, rfl⟩
      rw [← eg_25] at p0r_20
      have lg_25_0 : g_25 0 = (tI M_21 2 4).toInt := p0r_20.2.1.1
      have lg_25_1 : g_25 1 = (tI M_21 2 6).toInt := p0r_20.2.1.2.1
      have lg_25_4 : g_25 4 = (tI M_21 1 4).toInt := p0r_20.2.2.1.1
      have lg_25_7 : g_25 7 = (tI M_21 t 4).toInt := p0r_20.2.2.2.1.1
      have lg_25_8 : g_25 8 = (tI M_21 t 5).toInt := p0r_20.2.2.2.1.2.1
      refine lv_aload_n hx hb dX4_readGuard_39 rfl (lv_at hl 1 rfl) ?_
      refine lv_bipush (v := 25) hx hb dX4_readGuard_40 (by decide) ?_
      refine ti_callVvE (ci := 4) (av := [.int 25]) C hE hw (x_X4_take l D A cy hJ M_21 iM_21 t ht 25 B n g_25 p0r_20) ⟨ml_X4_85, ym_X4_take, yv_X4_take, yi_X4_take, yc_X4_take⟩ yd_X4_take ob_1 (by decide) rfl rfl hl.1 (Nat.le_of_ble_eq_true rfl) ⟨by decide, by decide⟩ ⟨Nat.zero_le _, Nat.zero_le _⟩ dX4_readGuard_42 (fun M_40 H locs hp_40 hw => ?_)
      obtain ⟨iM_40, q_41, q_42, q_43, p0r_39⟩ := hp_40
      have hlr_39_25 : (25 : Int32).toInt = 25 := by decide
      simp only [hlr_39_25] at p0r_39
      obtain ⟨g_44, eg_44⟩ : ∃ z : Nat → Int, z = pp_tk B n 25 g_25 := ⟨_, rfl⟩
      rw [← eg_44] at p0r_39
      have lg_44_0 : g_44 0 = (tI M_40 2 4).toInt := p0r_39.2.1.1
      have lg_44_1 : g_44 1 = (tI M_40 2 6).toInt := p0r_39.2.1.2.1
      have lg_44_4 : g_44 4 = (tI M_40 1 4).toInt := p0r_39.2.2.1.1
      have lg_44_7 : g_44 7 = (tI M_40 t 4).toInt := p0r_39.2.2.2.1.1
      have lg_44_8 : g_44 8 = (tI M_40 t 5).toInt := p0r_39.2.2.2.1.2.1
      refine lv_aload_n hx hb dX4_readGuard_45 rfl (lv_at hl 1 rfl) ?_
      refine ti_callVi (ci := 4) (av := []) C hw (x_X4_toldMan l D A cy hJ M_40 iM_40 t ht ((tT_fr q_41).trans ((tT_fr q_22).trans ((tT_fr q_11).trans ((tT_fr q_3).trans hT)))) B n g_44 p0r_39) ⟨ml_X4_142, ym_X4_toldMan, yv_X4_toldMan, yi_X4_toldMan, yc_X4_toldMan⟩ yd_X4_toldMan ob_1 (by decide) rfl rfl hl.1 (Nat.le_of_ble_eq_true rfl) ⟨by decide, by decide⟩ ⟨Nat.zero_le _, Nat.zero_le _⟩ dX4_readGuard_46 (fun r_45 M_46 H locs hp_46 hw => ?_)
      obtain ⟨iM_46, q_47, q_48, q_49, b0r_45, b1r_45, p0r_45, p1r_45⟩ := hp_46
      obtain ⟨g_50, eg_50⟩ : ∃ z : Nat → Int, z = pp_tm g_44 := ⟨_, rfl⟩
      rw [← eg_50] at p1r_45
      have lg_50_0 : g_50 0 = (tI M_46 2 4).toInt := p1r_45.2.1.1
      have lg_50_1 : g_50 1 = (tI M_46 2 6).toInt := p1r_45.2.1.2.1
      have lg_50_4 : g_50 4 = (tI M_46 1 4).toInt := p1r_45.2.2.1.1
      have lg_50_7 : g_50 7 = (tI M_46 t 4).toInt := p1r_45.2.2.2.1.1
      have lg_50_8 : g_50 8 = (tI M_46 t 5).toInt := p1r_45.2.2.2.1.2.1
      refine lv_istore_n (lv' := [(2, .int r_45), (1, .int r_9), (0, .ref (A 1 0))]) hx hb dX4_readGuard_49 rfl hl (by decide) rfl (fun ls hl => ?_)
      refine lv_iload_n hx hb dX4_readGuard_50 rfl (lv_at hl 0 rfl) ?_
      refine lv_iload_n hx hb dX4_readGuard_51 rfl (lv_at hl 1 rfl) ?_
      refine sb_icmp_ne (tgt := 60) hx hb rfl rfl dX4_readGuard_52 (by decide) (fun c_52_50 => ?_) (fun c_52_50 => ?_)
      · refine lv_aload_n hx hb dX4_readGuard_60 rfl (lv_at hl 2 rfl) ?_
        refine lv_bipush (v := 25) hx hb dX4_readGuard_61 (by decide) ?_
        refine ti_callVvE (ci := 4) (av := [.int 25]) C hE hw (x_X4_take l D A cy hJ M_46 iM_46 t ht 25 B n g_50 p1r_45) ⟨ml_X4_85, ym_X4_take, yv_X4_take, yi_X4_take, yc_X4_take⟩ yd_X4_take ob_1 (by decide) rfl rfl hl.1 (Nat.le_of_ble_eq_true rfl) ⟨by decide, by decide⟩ ⟨Nat.zero_le _, Nat.zero_le _⟩ dX4_readGuard_63 (fun M_74 H locs hp_74 hw => ?_)
        obtain ⟨iM_74, q_75, q_76, q_77, p0r_73⟩ := hp_74
        have hlr_73_25 : (25 : Int32).toInt = 25 := by decide
        simp only [hlr_73_25] at p0r_73
        obtain ⟨g_78, eg_78⟩ : ∃ z : Nat → Int, z = pp_tk B n 25 g_50 := ⟨_, rfl⟩
        rw [← eg_78] at p0r_73
        have lg_78_0 : g_78 0 = (tI M_74 2 4).toInt := p0r_73.2.1.1
        have lg_78_1 : g_78 1 = (tI M_74 2 6).toInt := p0r_73.2.1.2.1
        have lg_78_4 : g_78 4 = (tI M_74 1 4).toInt := p0r_73.2.2.1.1
        have lg_78_7 : g_78 7 = (tI M_74 t 4).toInt := p0r_73.2.2.2.1.1
        have lg_78_8 : g_78 8 = (tI M_74 t 5).toInt := p0r_73.2.2.2.1.2.1
        refine lv_aload_n hx hb dX4_readGuard_66 rfl (lv_at hl 2 rfl) ?_
        refine ti_get (ci := 4) (k := 1) (N := 6) (T := TX4) (v := .ref (A t 0)) C hw iw_4 rfl ob_1 (by decide) (by decide) fl_X4_28 rfl (ti_Tv ((tT_fr q_75).trans ((tT_fr q_47).trans ((tT_fr q_41).trans ((tT_fr q_22).trans ((tT_fr q_11).trans ((tT_fr q_3).trans hT))))))) dX4_readGuard_67 ?_
        refine ti_get (ci := 8) (k := 0) (N := 12) (T := TX8) (v := .ref (A t 1)) C hw iw_8 rfl (ob_t ht) (by decide) (by decide) fl_X4_101 rfl rfl dX4_readGuard_70 ?_
        refine lv_iload_n hx hb dX4_readGuard_73 rfl (lv_at hl 1 rfl) ?_
        refine ti_aald (ci := 8) (k := 0) (n := 8) (t0 := 5) (Cn := RX2) (gg := (ti_men t)) (j := r_9.toNatClampNeg) C hw (ob_t ht) (by decide) (fun _ _ => rfl) rfl (vp_in_iff.mpr (by omega)) rfl dX4_readGuard_74 ?_
        refine lv_iload_n hx hb dX4_readGuard_75 rfl (lv_at hl 0 rfl) ?_
        refine ti_putI (ci := 2) (k := 9) (N := 10) (T := TX2) C hw iw_2 tyX2 tyX2_ok nmX2 rfl ob_16 (by decide) (by decide) fl_X4_139 rfl rfl rfl rfl (fn_2 A _) fs_2_9 dX4_readGuard_76 (fun H locs hw => ?_)
        obtain ⟨M_79, hM_79⟩ : ∃ z : ti_M, z = uI M_74 (ti_men t r_9.toNatClampNeg) 9 r_45 := ⟨_, rfl⟩
        have hw := hw.to hM_79.symm
        have iM_79 : cI Tc M_79 := cI_uI iM_74 hM_79 ob_16.1 trivial
        have hs_80 := rC_m9 (j := r_9.toNatClampNeg) ht (i_nt (x := r_9) rfl (by omega) (by omega)) hM_79 p0r_73
        obtain ⟨g_81, eg_81⟩ : ∃ z : Nat → Int, z = pp_su g_78 (200 + r_9.toNatClampNeg) r_45.toInt := ⟨_, rfl⟩
        rw [← eg_81] at hs_80
        have lg_81_0 : g_81 0 = (tI M_79 2 4).toInt := hs_80.2.1.1
        have lg_81_1 : g_81 1 = (tI M_79 2 6).toInt := hs_80.2.1.2.1
        have lg_81_4 : g_81 4 = (tI M_79 1 4).toInt := hs_80.2.2.1.1
        have lg_81_7 : g_81 7 = (tI M_79 t 4).toInt := hs_80.2.2.2.1.1
        have lg_81_8 : g_81 8 = (tI M_79 t 5).toInt := hs_80.2.2.2.1.2.1
        have E1 : pp_g1 B n r_9.toInt g_14 = g_44 := by unfold pp_g1; rw [if_neg (by rw [gu]; omega), ← eg_25, ← eg_44]
        have E2 : pp_g3 B n r_9.toInt g_44 = g_81 := by unfold pp_g3; rw [show pp_tv g_44 = r_45.toInt from p0r_45.symm, ← eg_50]; unfold pp_g2; rw [if_neg (by omega), show r_9.toInt.toNat = r_9.toNatClampNeg from rfl, ← eg_78, ← eg_81]
        exact hQ _ _ _ _ _ hw (⟨iM_79, ((rf_I hM_79).trans ((q_75).trans ((q_47).trans ((q_41).trans ((q_22).trans ((q_11).trans q_3)))))), (f0.trans (f0_I hM_79 (f0n ob_16.1 (by decide))) (f0.trans (f0_12 q_76) (f0.trans (f0_12 q_48) (f0.trans (f0_12 q_42) (f0.trans (f0_12 q_23) (f0.trans (f0_12 q_12) (f0_12 (o2_12 q_4)))))))), ((tI_nE hM_79 (nk (by decide))).trans ((q_77).trans ((q_49).trans ((q_43).trans ((q_24).trans ((q_13).trans q_5)))))), (by unfold pp_gd; rw [← eg_8, ← eg_14, show pp_tv g_8 = r_9.toInt from p0r_9.symm, if_neg (by omega), E1, E2]; exact hs_80)⟩) dX4_readGuard_79
      · refine lv_aload_n hx hb dX4_readGuard_55 rfl (lv_at hl 2 rfl) ?_
        refine lv_iconst (v := 5) hx hb dX4_readGuard_56 (by decide) ?_
        refine ti_callVv (ci := 4) (av := [.int 5]) C hw (x_X4_refuse l D A cy hJ M_46 iM_46 t ht 5 B n g_50 p1r_45) ⟨ml_X4_82, ym_X4_refuse, yv_X4_refuse, yi_X4_refuse, yc_X4_refuse⟩ yd_X4_refuse ob_1 (by decide) rfl rfl hl.1 (Nat.le_of_ble_eq_true rfl) ⟨by decide, by decide⟩ ⟨Nat.zero_le _, Nat.zero_le _⟩ dX4_readGuard_57 (fun M_59 H locs hp_59 hw => ?_)
        obtain ⟨iM_59, q_60, q_61, q_62, p0r_58⟩ := hp_59
        have hlr_58_5 : (5 : Int32).toInt = 5 := by decide
        simp only [hlr_58_5] at p0r_58
        obtain ⟨g_63, eg_63⟩ : ∃ z : Nat → Int, z = pp_rf 5 g_50 := ⟨_, rfl⟩
        rw [← eg_63] at p0r_58
        have lg_63_0 : g_63 0 = (tI M_59 2 4).toInt := p0r_58.2.1.1
        have lg_63_1 : g_63 1 = (tI M_59 2 6).toInt := p0r_58.2.1.2.1
        have lg_63_4 : g_63 4 = (tI M_59 1 4).toInt := p0r_58.2.2.1.1
        have lg_63_7 : g_63 7 = (tI M_59 t 4).toInt := p0r_58.2.2.2.1.1
        have lg_63_8 : g_63 8 = (tI M_59 t 5).toInt := p0r_58.2.2.2.1.2.1
        refine lv_aload_n hx hb dX4_readGuard_60 rfl (lv_at hl 2 rfl) ?_
        refine lv_bipush (v := 25) hx hb dX4_readGuard_61 (by decide) ?_
        refine ti_callVvE (ci := 4) (av := [.int 25]) C hE hw (x_X4_take l D A cy hJ M_59 iM_59 t ht 25 B n g_63 p0r_58) ⟨ml_X4_85, ym_X4_take, yv_X4_take, yi_X4_take, yc_X4_take⟩ yd_X4_take ob_1 (by decide) rfl rfl hl.1 (Nat.le_of_ble_eq_true rfl) ⟨by decide, by decide⟩ ⟨Nat.zero_le _, Nat.zero_le _⟩ dX4_readGuard_63 (fun M_92 H locs hp_92 hw => ?_)
        obtain ⟨iM_92, q_93, q_94, q_95, p0r_91⟩ := hp_92
        have hlr_91_25 : (25 : Int32).toInt = 25 := by decide
        simp only [hlr_91_25] at p0r_91
        obtain ⟨g_96, eg_96⟩ : ∃ z : Nat → Int, z = pp_tk B n 25 g_63 := ⟨_, rfl⟩
        rw [← eg_96] at p0r_91
        have lg_96_0 : g_96 0 = (tI M_92 2 4).toInt := p0r_91.2.1.1
        have lg_96_1 : g_96 1 = (tI M_92 2 6).toInt := p0r_91.2.1.2.1
        have lg_96_4 : g_96 4 = (tI M_92 1 4).toInt := p0r_91.2.2.1.1
        have lg_96_7 : g_96 7 = (tI M_92 t 4).toInt := p0r_91.2.2.2.1.1
        have lg_96_8 : g_96 8 = (tI M_92 t 5).toInt := p0r_91.2.2.2.1.2.1
        refine lv_aload_n hx hb dX4_readGuard_66 rfl (lv_at hl 2 rfl) ?_
        refine ti_get (ci := 4) (k := 1) (N := 6) (T := TX4) (v := .ref (A t 0)) C hw iw_4 rfl ob_1 (by decide) (by decide) fl_X4_28 rfl (ti_Tv ((tT_fr q_93).trans ((tT_fr q_60).trans ((tT_fr q_47).trans ((tT_fr q_41).trans ((tT_fr q_22).trans ((tT_fr q_11).trans ((tT_fr q_3).trans hT)))))))) dX4_readGuard_67 ?_
        refine ti_get (ci := 8) (k := 0) (N := 12) (T := TX8) (v := .ref (A t 1)) C hw iw_8 rfl (ob_t ht) (by decide) (by decide) fl_X4_101 rfl rfl dX4_readGuard_70 ?_
        refine lv_iload_n hx hb dX4_readGuard_73 rfl (lv_at hl 1 rfl) ?_
        refine ti_aald (ci := 8) (k := 0) (n := 8) (t0 := 5) (Cn := RX2) (gg := (ti_men t)) (j := r_9.toNatClampNeg) C hw (ob_t ht) (by decide) (fun _ _ => rfl) rfl (vp_in_iff.mpr (by omega)) rfl dX4_readGuard_74 ?_
        refine lv_iload_n hx hb dX4_readGuard_75 rfl (lv_at hl 0 rfl) ?_
        refine ti_putI (ci := 2) (k := 9) (N := 10) (T := TX2) C hw iw_2 tyX2 tyX2_ok nmX2 rfl ob_16 (by decide) (by decide) fl_X4_139 rfl rfl rfl rfl (fn_2 A _) fs_2_9 dX4_readGuard_76 (fun H locs hw => ?_)
        obtain ⟨M_97, hM_97⟩ : ∃ z : ti_M, z = uI M_92 (ti_men t r_9.toNatClampNeg) 9 r_45 := ⟨_, rfl⟩
        have hw := hw.to hM_97.symm
        have iM_97 : cI Tc M_97 := cI_uI iM_92 hM_97 ob_16.1 trivial
        have hs_98 := rC_m9 (j := r_9.toNatClampNeg) ht (i_nt (x := r_9) rfl (by omega) (by omega)) hM_97 p0r_91
        obtain ⟨g_99, eg_99⟩ : ∃ z : Nat → Int, z = pp_su g_96 (200 + r_9.toNatClampNeg) r_45.toInt := ⟨_, rfl⟩
        rw [← eg_99] at hs_98
        have lg_99_0 : g_99 0 = (tI M_97 2 4).toInt := hs_98.2.1.1
        have lg_99_1 : g_99 1 = (tI M_97 2 6).toInt := hs_98.2.1.2.1
        have lg_99_4 : g_99 4 = (tI M_97 1 4).toInt := hs_98.2.2.1.1
        have lg_99_7 : g_99 7 = (tI M_97 t 4).toInt := hs_98.2.2.2.1.1
        have lg_99_8 : g_99 8 = (tI M_97 t 5).toInt := hs_98.2.2.2.1.2.1
        have E1 : pp_g1 B n r_9.toInt g_14 = g_44 := by unfold pp_g1; rw [if_neg (by rw [gu]; omega), ← eg_25, ← eg_44]
        have E2 : pp_g3 B n r_9.toInt g_44 = g_99 := by unfold pp_g3; rw [show pp_tv g_44 = r_45.toInt from p0r_45.symm, ← eg_50]; unfold pp_g2; rw [if_pos (by omega), show r_9.toInt.toNat = r_9.toNatClampNeg from rfl, ← eg_63, ← eg_96, ← eg_99]
        exact hQ _ _ _ _ _ hw (⟨iM_97, ((rf_I hM_97).trans ((q_93).trans ((q_60).trans ((q_47).trans ((q_41).trans ((q_22).trans ((q_11).trans q_3))))))), (f0.trans (f0_I hM_97 (f0n ob_16.1 (by decide))) (f0.trans (f0_12 q_94) (f0.trans (f0_12 q_61) (f0.trans (f0_12 q_48) (f0.trans (f0_12 q_42) (f0.trans (f0_12 q_23) (f0.trans (f0_12 q_12) (f0_12 (o2_12 q_4))))))))), ((tI_nE hM_97 (nk (by decide))).trans ((q_95).trans ((q_62).trans ((q_49).trans ((q_43).trans ((q_24).trans ((q_13).trans q_5))))))), (by unfold pp_gd; rw [← eg_8, ← eg_14, show pp_tv g_8 = r_9.toInt from p0r_9.symm, if_neg (by omega), E1, E2]; exact hs_98)⟩) dX4_readGuard_79
  · exact hQ _ _ _ _ _ hw (⟨iM_10, ((q_11).trans q_3), (f0.trans (f0_12 q_12) (f0_12 (o2_12 q_4))), ((q_13).trans q_5), (by unfold pp_gd; rw [← eg_8, ← eg_14, show pp_tv g_8 = r_9.toInt from p0r_9.symm, if_pos (by omega)]; exact p1r_9)⟩) dX4_readGuard_17

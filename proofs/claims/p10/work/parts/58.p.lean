variable {Tc : gC} {Tm : gM}
def pp_m1 (B : Nat → Int) (n : Nat) (s : Nat → Int) : Nat → Int := pp_su (pp_av B n s) (100 + (s 7).toNat) (pp_av B n s 1)
def pp_m2 (s : Nat → Int) : Nat → Int := if s 0 = 25 ∧ ¬ pp_fd s (s 1) 0 = -1 then pp_rf 3 s else s
def pp_m3 (B : Nat → Int) (n : Nat) (s : Nat → Int) : Nat → Int := pp_nb B n 0 59 (pp_nb B n 0 99 (pp_nb B n 0 99 (pp_nb B n 1 30 (pp_nb B n 1 99 (pp_nb B n 0 9 (pp_nb B n 1 99 (pp_tk B n 25 s)))))))
def pp_m4 (B : Nat → Int) (n : Nat) (s : Nat → Int) : Nat → Int := if s 0 = 15 then pp_av B n s else s
def pp_m5 (s : Nat → Int) : Nat → Int := pp_su (pp_su s (200 + (s 7).toNat) (-1)) 7 (s 7 + 1)
/-- a line of a man -/
def pp_mn (B : Nat → Int) (n : Nat) (s : Nat → Int) : Nat → Int := if s 7 < 8 then pp_m5 (pp_m4 B n (pp_m3 B n (pp_m2 (pp_m1 B n s)))) else pp_rf 2 s
def pp_g1 (B : Nat → Int) (n : Nat) (a : Int) (s : Nat → Int) : Nat → Int := pp_tk B n 25 (if s (200 + a.toNat) = -1 then s else pp_rf 3 s)
def pp_g2 (B : Nat → Int) (n : Nat) (a b : Int) (s : Nat → Int) : Nat → Int := pp_su (pp_tk B n 25 (if b = a then pp_rf 5 s else s)) (200 + a.toNat) b
def pp_g3 (B : Nat → Int) (n : Nat) (a : Int) (s : Nat → Int) : Nat → Int := pp_g2 B n a (pp_tv s) (pp_tm s)
/-- a line of a guard, behind its first word -/
def pp_gd (B : Nat → Int) (n : Nat) (s : Nat → Int) : Nat → Int := if pp_tv (pp_av B n s) = -1 then pp_tm (pp_av B n s) else pp_g3 B n (pp_tv (pp_av B n s)) (pp_g1 B n (pp_tv (pp_av B n s)) (pp_tm (pp_av B n s)))
/-- a line of a power -/
def pp_pw (B : Nat → Int) (n : Nat) (s : Nat → Int) : Nat → Int := if 9 ≤ pp_av B n s 0 ∧ pp_av B n s 0 ≤ 11 then pp_nb B n 0 7 (pp_on B n (pp_av B n s)) else pp_rf 1 (pp_av B n s)
/-! what they tell: b behind the name -/
def qq_m3 (B : Nat → Int) (n : Nat) (m : Nat) (b td : Nat → Int) : Nat → Int := pp_su (pp_su (pp_su (pp_su (pp_su (pp_su (pp_su td (100 + 16 * m + 1) (b 1)) (100 + 16 * m + 2) (pp_nb B n 1 99 b 1)) (100 + 16 * m + 3) (pp_nb B n 0 9 (pp_nb B n 1 99 b) 1)) (100 + 16 * m + 4) (pp_nb B n 1 99 (pp_nb B n 0 9 (pp_nb B n 1 99 b)) 1)) (100 + 16 * m + 5) (pp_nb B n 1 30 (pp_nb B n 1 99 (pp_nb B n 0 9 (pp_nb B n 1 99 b))) 1)) (100 + 16 * m + 6) (pp_nb B n 0 99 (pp_nb B n 1 30 (pp_nb B n 1 99 (pp_nb B n 0 9 (pp_nb B n 1 99 b)))) 1)) (100 + 16 * m + 7) (pp_nb B n 0 99 (pp_nb B n 0 99 (pp_nb B n 1 30 (pp_nb B n 1 99 (pp_nb B n 0 9 (pp_nb B n 1 99 b))))) 1)
def qq_m4 (m : Nat) (g td : Nat → Int) : Nat → Int := pp_su td (100 + 16 * m + 8) (if g 0 = 15 then 1 else 0)
def qq_mn (B : Nat → Int) (n : Nat) (s td : Nat → Int) : Nat → Int := if s 7 < 8 then qq_m4 (s 7).toNat (pp_m3 B n (pp_m2 (pp_m1 B n s))) (qq_m3 B n (s 7).toNat (pp_tk B n 25 (pp_m2 (pp_m1 B n s))) td) else td
def qq_pw (B : Nat → Int) (n : Nat) (s td : Nat → Int) : Nat → Int := if 9 ≤ pp_av B n s 0 ∧ pp_av B n s 0 ≤ 11 then pp_su td (32 + (pp_av B n s 0 - 9).toNat) (pp_on B n (pp_av B n s) 1) else td
set_option maxHeartbeats 4000000 in
set_option maxRecDepth 100000 in
theorem x_X4_readMan (l : Launch) (D : va_G) (A : Nat → Nat → Nat) (cy : Nat → ClassId) (hJ : ti_inj ti_LT A) (M : ti_M) (hI : cI Tc M) (t : Nat) (ht : t = 3 ∨ t = 4) (hT : tT M 1 1 = some t) (B : Nat → Int) (n : Nat) (rg : Nat → Int) (hr : rC B n t rg M) (td : Nat → Int) (hq : tq t td M) : ti_KvE l yX4_readMan cX4_readMan 2 8 ti_LT D A cy M [.ref (A 1 0)] (fun M2 => cI Tc M2 ∧ M2.2.2.2 = M.2.2.2 ∧ f0 M2 M ∧ tI M2 2 1 = tI M 2 1 ∧ ot t M2 M ∧ rC B n t (pp_mn B n rg) M2 ∧ tq t (qq_mn B n rg td) M2) := by
  refine ti_eVE yp_X4_readMan hJ ti_LT_nd (Nat.le_of_ble_eq_true rfl) ?_
  intro p e s m args below meth c Q H0 C hE hQ hw ls hl
  have hx := C.1
  have hb := C.2.1
  have hl : lv_has ls 2 [(0, .ref (A 1 0))] := hl
  have l0 : rg 0 = (tI M 2 4).toInt := hr.2.1.1
  have l1 : rg 1 = (tI M 2 6).toInt := hr.2.1.2.1
  have l2 : rg 2 = (tI M 2 5).toInt := hr.2.1.2.2.1
  have l3 : rg 3 = (tI M 2 3).toInt := hr.2.1.2.2.2
  have l4 : rg 4 = (tI M 1 4).toInt := hr.2.2.1.1
  have l5 : rg 5 = (tI M 1 5).toInt := hr.2.2.1.2.1
  have l7 : rg 7 = (tI M t 4).toInt := hr.2.2.2.1.1
  have l8 : rg 8 = (tI M t 5).toInt := hr.2.2.2.1.2.1
  have l9 : rg 9 = (tI M t 3).toInt := hr.2.2.2.1.2.2
  refine lv_aload_n hx hb dX4_readMan_0 rfl (lv_at hl 0 rfl) ?_
  refine ti_get (ci := 4) (k := 1) (N := 6) (T := TX4) (v := .ref (A t 0)) C hw iw_4 rfl ob_1 (by decide) (by decide) fl_X4_28 rfl (ti_Tv (hT)) dX4_readMan_1 ?_
  refine ti_get (ci := 8) (k := 4) (N := 12) (T := TX8) C hw iw_8 rfl (ob_t ht) (by decide) (by decide) fl_X4_98 rfl rfl dX4_readMan_4 ?_
  refine lv_topi (fun x_1 ex_1 => ?_)
  have bx_1 : 0 ≤ x_1.toInt ∧ x_1.toInt ≤ 8 := cI_rd hI (ob_t ht).1 ex_1
  have ux_1 : (tI M t 4).toInt = x_1.toInt := by rw [ex_1]
  refine lv_bipush (v := 8) hx hb dX4_readMan_7 (by decide) ?_
  refine sb_icmp_lt (tgt := 18) hx hb rfl (by decide : (8 : Int32).toInt = 8) dX4_readMan_9 (by decide) (fun c_9_1 => ?_) (fun c_9_1 => ?_)
  · refine lv_aload_n hx hb dX4_readMan_18 rfl (lv_at hl 0 rfl) ?_
    refine ti_get (ci := 4) (k := 1) (N := 6) (T := TX4) (v := .ref (A t 0)) C hw iw_4 rfl ob_1 (by decide) (by decide) fl_X4_28 rfl (ti_Tv (hT)) dX4_readMan_19 ?_
    refine ti_get (ci := 8) (k := 0) (N := 12) (T := TX8) (v := .ref (A t 1)) C hw iw_8 rfl (ob_t ht) (by decide) (by decide) fl_X4_101 rfl rfl dX4_readMan_22 ?_
    refine lv_aload_n hx hb dX4_readMan_25 rfl (lv_at hl 0 rfl) ?_
    refine ti_get (ci := 4) (k := 1) (N := 6) (T := TX4) (v := .ref (A t 0)) C hw iw_4 rfl ob_1 (by decide) (by decide) fl_X4_28 rfl (ti_Tv (hT)) dX4_readMan_26 ?_
    refine ti_get (ci := 8) (k := 4) (N := 12) (T := TX8) C hw iw_8 rfl (ob_t ht) (by decide) (by decide) fl_X4_98 rfl rfl dX4_readMan_29 ?_
    refine ti_top (y := x_1) (ex_1.symm) ?_
    have u_11 : (tI M t 4).toInt = (x_1 : Int32).toInt := by rw [(ex_1.symm)]
    refine ti_aald (ci := 8) (k := 0) (n := 8) (t0 := 5) (Cn := RX2) (gg := (ti_men t)) (j := x_1.toNatClampNeg) C hw (ob_t ht) (by decide) (fun _ _ => rfl) rfl (vp_in_iff.mpr (by omega)) rfl dX4_readMan_32 ?_
    have ob_12 : ti_ob ti_LT (ti_men t x_1.toNatClampNeg) 2 := ob_m ht (i_nt rfl (by omega) (by omega))
    refine lv_astore_n (lv' := [(1, .ref (A (ti_men t x_1.toNatClampNeg) 0)), (0, .ref (A 1 0))]) hx hb dX4_readMan_33 rfl hl (by decide) rfl (fun ls hl => ?_)
    refine lv_aload_n hx hb dX4_readMan_34 rfl (lv_at hl 1 rfl) ?_
    refine ti_get (ci := 4) (k := 0) (N := 6) (T := TX4) (v := .ref (A 2 0)) C hw iw_4 rfl ob_1 (by decide) (by decide) fl_X4_12 rfl rfl dX4_readMan_35 ?_
    refine ti_callVvE (ci := 7) (av := []) C hE hw (x_X7_advance l D A cy hJ M hI ) ⟨ml_X4_92, ym_X7_advance, yv_X7_advance, yi_X7_advance, yc_X7_advance⟩ yd_X7_advance ob_2 (by decide) rfl rfl hl.1 (Nat.le_of_ble_eq_true rfl) ⟨by decide, by decide⟩ ⟨Nat.zero_le _, Nat.zero_le _⟩ dX4_readMan_38 (fun M_14 H locs hp_14 hw => ?_)
    obtain ⟨iM_14, q_15, q_16, q_17, q_18, p0r_13, p1r_13, p2r_13, p3r_13⟩ := hp_14
    have hs_19 := rC_av ht hr q_18 q_16 p0r_13 p1r_13 p2r_13 p3r_13
    obtain ⟨g_20, eg_20⟩ : ∃ z : Nat → Int, z = pp_av B n rg := ⟨_, rfl⟩
    rw [← eg_20] at hs_19
    have lg_20_0 : g_20 0 = (tI M_14 2 4).toInt := hs_19.2.1.1
    have lg_20_1 : g_20 1 = (tI M_14 2 6).toInt := hs_19.2.1.2.1
    have lg_20_4 : g_20 4 = (tI M_14 1 4).toInt := hs_19.2.2.1.1
    have lg_20_7 : g_20 7 = (tI M_14 t 4).toInt := hs_19.2.2.2.1.1
    have lg_20_8 : g_20 8 = (tI M_14 t 5).toInt := hs_19.2.2.2.1.2.1
    have tq_21 : tq t td M_14 := tq_fr ht hq (o2_12 q_16) q_18.1
    refine lv_aload_n hx hb dX4_readMan_41 rfl (lv_at hl 0 rfl) ?_
    refine lv_aload_n hx hb dX4_readMan_42 rfl (lv_at hl 1 rfl) ?_
    refine ti_get (ci := 4) (k := 0) (N := 6) (T := TX4) (v := .ref (A 2 0)) C hw iw_4 rfl ob_1 (by decide) (by decide) fl_X4_12 rfl rfl dX4_readMan_43 ?_
    refine ti_get (ci := 7) (k := 6) (N := 7) (T := TX7) C hw iw_7 rfl ob_2 (by decide) (by decide) fl_X4_95 rfl rfl dX4_readMan_46 ?_
    refine lv_topi (fun x_22 ex_22 => ?_)
    have bx_22 : 0 ≤ x_22.toInt ∧ x_22.toInt ≤ 2147483647 := cI_rd iM_14 ob_2.1 ex_22
    have ux_22 : (tI M_14 2 6).toInt = x_22.toInt := by rw [ex_22]
    refine ti_putI (ci := 2) (k := 0) (N := 10) (T := TX2) C hw iw_2 tyX2 tyX2_ok nmX2 rfl ob_12 (by decide) (by decide) fl_X4_105 rfl rfl rfl rfl (fn_2 A _) fs_2_0 dX4_readMan_49 (fun H locs hw => ?_)
    obtain ⟨M_23, hM_23⟩ : ∃ z : ti_M, z = uI M_14 (ti_men t x_1.toNatClampNeg) 0 x_22 := ⟨_, rfl⟩
    have hw := hw.to hM_23.symm
    have iM_23 : cI Tc M_23 := cI_uI iM_14 hM_23 ob_12.1 trivial
    have hs_24 := rC_m0 (j := x_1.toNatClampNeg) ht (i_nt (x := x_1) rfl (by omega) (by omega)) hM_23 hs_19
    obtain ⟨g_25, eg_25⟩ : ∃ z : Nat → Int, z = pp_su g_20 (100 + x_1.toNatClampNeg) x_22.toInt := ⟨_, rfl⟩
    rw [← eg_25] at hs_24
    have lg_25_0 : g_25 0 = (tI M_23 2 4).toInt := hs_24.2.1.1
    have lg_25_1 : g_25 1 = (tI M_23 2 6).toInt := hs_24.2.1.2.1
    have lg_25_4 : g_25 4 = (tI M_23 1 4).toInt := hs_24.2.2.1.1
    have lg_25_7 : g_25 7 = (tI M_23 t 4).toInt := hs_24.2.2.2.1.1
    have lg_25_8 : g_25 8 = (tI M_23 t 5).toInt := hs_24.2.2.2.1.2.1
    have tq_27 : tq t td M_23 := tq_m0 ht (i_nt (x := x_1) rfl (by omega) (by omega)) tq_21 hM_23 (by decide)
    have v1 : g_25 1 = x_22.toInt := by rw [lg_25_1, ((tI_nE hM_23 (nk (by decide))).trans ex_22.symm)]
    refine lv_aload_n hx hb dX4_readMan_52 rfl (lv_at hl 1 rfl) ?_
    refine ti_get (ci := 4) (k := 0) (N := 6) (T := TX4) (v := .ref (A 2 0)) C hw iw_4 rfl ob_1 (by decide) (by decide) fl_X4_12 rfl rfl dX4_readMan_53 ?_
    refine ti_get (ci := 7) (k := 4) (N := 7) (T := TX7) C hw iw_7 rfl ob_2 (by decide) (by decide) fl_X4_41 rfl rfl dX4_readMan_56 ?_
    refine lv_topi (fun x_28 ex_28 => ?_)
    have bx_28 : 0 ≤ x_28.toInt ∧ x_28.toInt ≤ 41 := cI_rd iM_23 ob_2.1 ex_28
    have ux_28 : (tI M_23 2 4).toInt = x_28.toInt := by rw [ex_28]
    refine lv_bipush (v := 25) hx hb dX4_readMan_59 (by decide) ?_
    have hj_84_53 : ∀ (M_41 : ti_M) (g_48 : Nat → Int) (d_50 : Nat → Int) (H : Heap) (locs : List Loc) (ls : Array Slot), (cI Tc M_41) → (M_41.2.2.2 = M.2.2.2) → (f0 M_41 M) → (tI M_41 2 1 = tI M 2 1) → (ot t M_41 M) → (tI M_41 t 4 = x_1) → (tT M_41 1 1 = (some t)) → (rC B n t g_48 M_41) → (tq t d_50 M_41) → (pp_m2 g_25 = g_48) → (td = d_50) → ti_H ti_LT D A cy H0 M_41 H locs → lv_has ls 2 [(1, .ref (A (ti_men t x_1.toNatClampNeg) 0)), (0, .ref (A 1 0))] → W p l e (ti_rm 8) s m args below meth c H locs 0 0 Q (F0 m 84 ls []) := by
      intro M_41 g_48 d_50 H locs ls iM_41 f_42 f_43 f_44 f_45 f_46 f_47 hs_49 tq_51 j_52 j_53 hw hl
      have lg_48_0 : g_48 0 = (tI M_41 2 4).toInt := hs_49.2.1.1
      have lg_48_1 : g_48 1 = (tI M_41 2 6).toInt := hs_49.2.1.2.1
      have lg_48_4 : g_48 4 = (tI M_41 1 4).toInt := hs_49.2.2.1.1
      have lg_48_7 : g_48 7 = (tI M_41 t 4).toInt := hs_49.2.2.2.1.1
      have lg_48_8 : g_48 8 = (tI M_41 t 5).toInt := hs_49.2.2.2.1.2.1
      refine lv_aload_n hx hb dX4_readMan_84 rfl (lv_at hl 1 rfl) ?_
      refine lv_bipush (v := 25) hx hb dX4_readMan_85 (by decide) ?_
      refine ti_callVvE (ci := 4) (av := [.int 25]) C hE hw (x_X4_take l D A cy hJ M_41 iM_41 t ht 25 B n g_48 hs_49) ⟨ml_X4_85, ym_X4_take, yv_X4_take, yi_X4_take, yc_X4_take⟩ yd_X4_take ob_1 (by decide) rfl rfl hl.1 (Nat.le_of_ble_eq_true rfl) ⟨by decide, by decide⟩ ⟨Nat.zero_le _, Nat.zero_le _⟩ dX4_readMan_87 (fun M_55 H locs hp_55 hw => ?_)
      obtain ⟨iM_55, q_56, q_57, q_58, q_59, p0r_54⟩ := hp_55
      have hlr_54_25 : (25 : Int32).toInt = 25 := by decide
      simp only [hlr_54_25] at p0r_54
      obtain ⟨g_60, eg_60⟩ : ∃ z : Nat → Int, z = pp_tk B n 25 g_48 := ⟨_, rfl⟩
      rw [← eg_60] at p0r_54
      have lg_60_0 : g_60 0 = (tI M_55 2 4).toInt := p0r_54.2.1.1
      have lg_60_1 : g_60 1 = (tI M_55 2 6).toInt := p0r_54.2.1.2.1
      have lg_60_4 : g_60 4 = (tI M_55 1 4).toInt := p0r_54.2.2.1.1
      have lg_60_7 : g_60 7 = (tI M_55 t 4).toInt := p0r_54.2.2.2.1.1
      have lg_60_8 : g_60 8 = (tI M_55 t 5).toInt := p0r_54.2.2.2.1.2.1
      have tq_61 : tq t d_50 M_55 := tq_fr ht tq_51 q_57 q_59
      refine lv_aload_n hx hb dX4_readMan_90 rfl (lv_at hl 0 rfl) ?_
      refine lv_aload_n hx hb dX4_readMan_91 rfl (lv_at hl 1 rfl) ?_
      refine lv_iconst (v := 1) hx hb dX4_readMan_92 (by decide) ?_
      refine lv_bipush (v := 99) hx hb dX4_readMan_93 (by decide) ?_
      refine ti_callViE (ci := 4) (av := [.int 1, .int 99]) C hE hw (x_X4_number l D A cy hJ M_55 iM_55 t ht 1 99 B n g_60 p0r_54) ⟨ml_X4_56, ym_X4_number, yv_X4_number, yi_X4_number, yc_X4_number⟩ yd_X4_number ob_1 (by decide) rfl rfl hl.1 (Nat.le_of_ble_eq_true rfl) ⟨by decide, by decide⟩ ⟨Nat.zero_le _, Nat.zero_le _⟩ dX4_readMan_95 (fun r_62 M_63 H locs hp_63 hw => ?_)
      obtain ⟨iM_63, q_64, q_65, q_66, q_67, p0r_62, p1r_62⟩ := hp_63
      have hlr_62_1 : (1 : Int32).toInt = 1 := by decide
      have hlr_62_99 : (99 : Int32).toInt = 99 := by decide
      simp only [hlr_62_1, hlr_62_99] at p1r_62
      obtain ⟨g_68, eg_68⟩ : ∃ z : Nat → Int, z = pp_nb B n 1 99 g_60 := ⟨_, rfl⟩
      rw [← eg_68] at p1r_62
      have lg_68_0 : g_68 0 = (tI M_63 2 4).toInt := p1r_62.2.1.1
      have lg_68_1 : g_68 1 = (tI M_63 2 6).toInt := p1r_62.2.1.2.1
      have lg_68_4 : g_68 4 = (tI M_63 1 4).toInt := p1r_62.2.2.1.1
      have lg_68_7 : g_68 7 = (tI M_63 t 4).toInt := p1r_62.2.2.2.1.1
      have lg_68_8 : g_68 8 = (tI M_63 t 5).toInt := p1r_62.2.2.2.1.2.1
      have tq_69 : tq t d_50 M_63 := tq_fr ht tq_61 q_65 q_67
      refine ti_putI (ci := 2) (k := 1) (N := 10) (T := TX2) C hw iw_2 tyX2 tyX2_ok nmX2 rfl ob_12 (by decide) (by decide) fl_X4_114 rfl rfl rfl rfl (fn_2 A _) fs_2_1 dX4_readMan_98 (fun H locs hw => ?_)
      obtain ⟨M_70, hM_70⟩ : ∃ z : ti_M, z = uI M_63 (ti_men t x_1.toNatClampNeg) 1 r_62 := ⟨_, rfl⟩
      have hw := hw.to hM_70.symm
      have iM_70 : cI Tc M_70 := cI_uI iM_63 hM_70 ob_12.1 trivial
      have hs_71 := rC_m1x (j := x_1.toNatClampNeg) ht hM_70 p1r_62
      have lM_70_0 : g_68 0 = (tI M_70 2 4).toInt := hs_71.2.1.1
      have lM_70_1 : g_68 1 = (tI M_70 2 6).toInt := hs_71.2.1.2.1
      have lM_70_4 : g_68 4 = (tI M_70 1 4).toInt := hs_71.2.2.1.1
      have lM_70_7 : g_68 7 = (tI M_70 t 4).toInt := hs_71.2.2.2.1.1
      have lM_70_8 : g_68 8 = (tI M_70 t 5).toInt := hs_71.2.2.2.1.2.1
      have tq_72 : tq t (pp_su d_50 (100 + 16 * x_1.toNatClampNeg + 1) r_62.toInt) M_70 := tq_m ht (i_nt (x := x_1) rfl (by omega) (by omega)) tq_69 rfl hM_70 (by decide)
      obtain ⟨d_73, ed_73⟩ : ∃ z : Nat → Int, z = pp_su d_50 (100 + 16 * x_1.toNatClampNeg + 1) r_62.toInt := ⟨_, rfl⟩
      rw [← ed_73] at tq_72
      refine lv_aload_n hx hb dX4_readMan_101 rfl (lv_at hl 0 rfl) ?_
      refine lv_aload_n hx hb dX4_readMan_102 rfl (lv_at hl 1 rfl) ?_
      refine lv_iconst (v := 0) hx hb dX4_readMan_103 (by decide) ?_
      refine lv_bipush (v := 9) hx hb dX4_readMan_104 (by decide) ?_
      refine ti_callViE (ci := 4) (av := [.int 0, .int 9]) C hE hw (x_X4_number l D A cy hJ M_70 iM_70 t ht 0 9 B n g_68 hs_71) ⟨ml_X4_56, ym_X4_number, yv_X4_number, yi_X4_number, yc_X4_number⟩ yd_X4_number ob_1 (by decide) rfl rfl hl.1 (Nat.le_of_ble_eq_true rfl) ⟨by decide, by decide⟩ ⟨Nat.zero_le _, Nat.zero_le _⟩ dX4_readMan_106 (fun r_74 M_75 H locs hp_75 hw => ?_)
      obtain ⟨iM_75, q_76, q_77, q_78, q_79, p0r_74, p1r_74⟩ := hp_75
      have hlr_74_0 : (0 : Int32).toInt = 0 := by decide
      have hlr_74_9 : (9 : Int32).toInt = 9 := by decide
      simp only [hlr_74_0, hlr_74_9] at p1r_74
      obtain ⟨g_80, eg_80⟩ : ∃ z : Nat → Int, z = pp_nb B n 0 9 g_68 := ⟨_, rfl⟩
      rw [← eg_80] at p1r_74
      have lg_80_0 : g_80 0 = (tI M_75 2 4).toInt := p1r_74.2.1.1
      have lg_80_1 : g_80 1 = (tI M_75 2 6).toInt := p1r_74.2.1.2.1
      have lg_80_4 : g_80 4 = (tI M_75 1 4).toInt := p1r_74.2.2.1.1
      have lg_80_7 : g_80 7 = (tI M_75 t 4).toInt := p1r_74.2.2.2.1.1
      have lg_80_8 : g_80 8 = (tI M_75 t 5).toInt := p1r_74.2.2.2.1.2.1
      have tq_81 : tq t d_73 M_75 := tq_fr ht tq_72 q_77 q_79
      refine ti_putI (ci := 2) (k := 2) (N := 10) (T := TX2) C hw iw_2 tyX2 tyX2_ok nmX2 rfl ob_12 (by decide) (by decide) fl_X4_117 rfl rfl rfl rfl (fn_2 A _) fs_2_2 dX4_readMan_109 (fun H locs hw => ?_)
      obtain ⟨M_82, hM_82⟩ : ∃ z : ti_M, z = uI M_75 (ti_men t x_1.toNatClampNeg) 2 r_74 := ⟨_, rfl⟩
      have hw := hw.to hM_82.symm
      have iM_82 : cI Tc M_82 := cI_uI iM_75 hM_82 ob_12.1 trivial
      have hs_83 := rC_m2x (j := x_1.toNatClampNeg) ht hM_82 p1r_74
      have lM_82_0 : g_80 0 = (tI M_82 2 4).toInt := hs_83.2.1.1
      have lM_82_1 : g_80 1 = (tI M_82 2 6).toInt := hs_83.2.1.2.1
      have lM_82_4 : g_80 4 = (tI M_82 1 4).toInt := hs_83.2.2.1.1
      have lM_82_7 : g_80 7 = (tI M_82 t 4).toInt := hs_83.2.2.2.1.1
      have lM_82_8 : g_80 8 = (tI M_82 t 5).toInt := hs_83.2.2.2.1.2.1
      have tq_84 : tq t (pp_su d_73 (100 + 16 * x_1.toNatClampNeg + 2) r_74.toInt) M_82 := tq_m ht (i_nt (x := x_1) rfl (by omega) (by omega)) tq_81 rfl hM_82 (by decide)
      obtain ⟨d_85, ed_85⟩ : ∃ z : Nat → Int, z = pp_su d_73 (100 + 16 * x_1.toNatClampNeg + 2) r_74.toInt := ⟨_, rfl⟩
      rw [← ed_85] at tq_84
      refine lv_aload_n hx hb dX4_readMan_112 rfl (lv_at hl 0 rfl) ?_
      refine lv_aload_n hx hb dX4_readMan_113 rfl (lv_at hl 1 rfl) ?_
      refine lv_iconst (v := 1) hx hb dX4_readMan_114 (by decide) ?_
      refine lv_bipush (v := 99) hx hb dX4_readMan_115 (by decide) ?_
      refine ti_callViE (ci := 4) (av := [.int 1, .int 99]) C hE hw (x_X4_number l D A cy hJ M_82 iM_82 t ht 1 99 B n g_80 hs_83) ⟨ml_X4_56, ym_X4_number, yv_X4_number, yi_X4_number, yc_X4_number⟩ yd_X4_number ob_1 (by decide) rfl rfl hl.1 (Nat.le_of_ble_eq_true rfl) ⟨by decide, by decide⟩ ⟨Nat.zero_le _, Nat.zero_le _⟩ dX4_readMan_117 (fun r_86 M_87 H locs hp_87 hw => ?_)
      obtain ⟨iM_87, q_88, q_89, q_90, q_91, p0r_86, p1r_86⟩ := hp_87
      have hlr_86_1 : (1 : Int32).toInt = 1 := by decide
      have hlr_86_99 : (99 : Int32).toInt = 99 := by decide
      simp only [hlr_86_1, hlr_86_99] at p1r_86
      obtain ⟨g_92, eg_92⟩ : ∃ z : Nat → Int, z = pp_nb B n 1 99 g_80 := ⟨_, rfl⟩
      rw [← eg_92] at p1r_86
      have lg_92_0 : g_92 0 = (tI M_87 2 4).toInt := p1r_86.2.1.1
      have lg_92_1 : g_92 1 = (tI M_87 2 6).toInt := p1r_86.2.1.2.1
      have lg_92_4 : g_92 4 = (tI M_87 1 4).toInt := p1r_86.2.2.1.1
      have lg_92_7 : g_92 7 = (tI M_87 t 4).toInt := p1r_86.2.2.2.1.1
      have lg_92_8 : g_92 8 = (tI M_87 t 5).toInt := p1r_86.2.2.2.1.2.1
      have tq_93 : tq t d_85 M_87 := tq_fr ht tq_84 q_89 q_91
      refine ti_putI (ci := 2) (k := 3) (N := 10) (T := TX2) C hw iw_2 tyX2 tyX2_ok nmX2 rfl ob_12 (by decide) (by decide) fl_X4_120 rfl rfl rfl rfl (fn_2 A _) fs_2_3 dX4_readMan_120 (fun H locs hw => ?_)
      obtain ⟨M_94, hM_94⟩ : ∃ z : ti_M, z = uI M_87 (ti_men t x_1.toNatClampNeg) 3 r_86 := ⟨_, rfl⟩
      have hw := hw.to hM_94.symm
      have iM_94 : cI Tc M_94 := cI_uI iM_87 hM_94 ob_12.1 trivial
      have hs_95 := rC_m3x (j := x_1.toNatClampNeg) ht hM_94 p1r_86
      have lM_94_0 : g_92 0 = (tI M_94 2 4).toInt := hs_95.2.1.1
      have lM_94_1 : g_92 1 = (tI M_94 2 6).toInt := hs_95.2.1.2.1
      have lM_94_4 : g_92 4 = (tI M_94 1 4).toInt := hs_95.2.2.1.1
      have lM_94_7 : g_92 7 = (tI M_94 t 4).toInt := hs_95.2.2.2.1.1
      have lM_94_8 : g_92 8 = (tI M_94 t 5).toInt := hs_95.2.2.2.1.2.1
      have tq_96 : tq t (pp_su d_85 (100 + 16 * x_1.toNatClampNeg + 3) r_86.toInt) M_94 := tq_m ht (i_nt (x := x_1) rfl (by omega) (by omega)) tq_93 rfl hM_94 (by decide)
      obtain ⟨d_97, ed_97⟩ : ∃ z : Nat → Int, z = pp_su d_85 (100 + 16 * x_1.toNatClampNeg + 3) r_86.toInt := ⟨_, rfl⟩
      rw [← ed_97] at tq_96
      refine lv_aload_n hx hb dX4_readMan_123 rfl (lv_at hl 0 rfl) ?_
      refine lv_aload_n hx hb dX4_readMan_124 rfl (lv_at hl 1 rfl) ?_
      refine lv_iconst (v := 1) hx hb dX4_readMan_125 (by decide) ?_
      refine lv_bipush (v := 30) hx hb dX4_readMan_126 (by decide) ?_
      refine ti_callViE (ci := 4) (av := [.int 1, .int 30]) C hE hw (x_X4_number l D A cy hJ M_94 iM_94 t ht 1 30 B n g_92 hs_95) ⟨ml_X4_56, ym_X4_number, yv_X4_number, yi_X4_number, yc_X4_number⟩ yd_X4_number ob_1 (by decide) rfl rfl hl.1 (Nat.le_of_ble_eq_true rfl) ⟨by decide, by decide⟩ ⟨Nat.zero_le _, Nat.zero_le _⟩ dX4_readMan_128 (fun r_98 M_99 H locs hp_99 hw => ?_)
      obtain ⟨iM_99, q_100, q_101, q_102, q_103, p0r_98, p1r_98⟩ := hp_99
      have hlr_98_1 : (1 : Int32).toInt = 1 := by decide
      have hlr_98_30 : (30 : Int32).toInt = 30 := by decide
      simp only [hlr_98_1, hlr_98_30] at p1r_98
      obtain ⟨g_104, eg_104⟩ : ∃ z : Nat → Int, z = pp_nb B n 1 30 g_92 := ⟨_, rfl⟩
      rw [← eg_104] at p1r_98
      have lg_104_0 : g_104 0 = (tI M_99 2 4).toInt := p1r_98.2.1.1
      have lg_104_1 : g_104 1 = (tI M_99 2 6).toInt := p1r_98.2.1.2.1
      have lg_104_4 : g_104 4 = (tI M_99 1 4).toInt := p1r_98.2.2.1.1
      have lg_104_7 : g_104 7 = (tI M_99 t 4).toInt := p1r_98.2.2.2.1.1
      have lg_104_8 : g_104 8 = (tI M_99 t 5).toInt := p1r_98.2.2.2.1.2.1
      have tq_105 : tq t d_97 M_99 := tq_fr ht tq_96 q_101 q_103
      refine ti_putI (ci := 2) (k := 4) (N := 10) (T := TX2) C hw iw_2 tyX2 tyX2_ok nmX2 rfl ob_12 (by decide) (by decide) fl_X4_123 rfl rfl rfl rfl (fn_2 A _) fs_2_4 dX4_readMan_131 (fun H locs hw => ?_)
      obtain ⟨M_106, hM_106⟩ : ∃ z : ti_M, z = uI M_99 (ti_men t x_1.toNatClampNeg) 4 r_98 := ⟨_, rfl⟩
      have hw := hw.to hM_106.symm
      have iM_106 : cI Tc M_106 := cI_uI iM_99 hM_106 ob_12.1 trivial
      have hs_107 := rC_m4x (j := x_1.toNatClampNeg) ht hM_106 p1r_98
      have lM_106_0 : g_104 0 = (tI M_106 2 4).toInt := hs_107.2.1.1
      have lM_106_1 : g_104 1 = (tI M_106 2 6).toInt := hs_107.2.1.2.1
      have lM_106_4 : g_104 4 = (tI M_106 1 4).toInt := hs_107.2.2.1.1
      have lM_106_7 : g_104 7 = (tI M_106 t 4).toInt := hs_107.2.2.2.1.1
      have lM_106_8 : g_104 8 = (tI M_106 t 5).toInt := hs_107.2.2.2.1.2.1
      have tq_108 : tq t (pp_su d_97 (100 + 16 * x_1.toNatClampNeg + 4) r_98.toInt) M_106 := tq_m ht (i_nt (x := x_1) rfl (by omega) (by omega)) tq_105 rfl hM_106 (by decide)
      obtain ⟨d_109, ed_109⟩ : ∃ z : Nat → Int, z = pp_su d_97 (100 + 16 * x_1.toNatClampNeg + 4) r_98.toInt := ⟨_, rfl⟩
      rw [← ed_109] at tq_108
      refine lv_aload_n hx hb dX4_readMan_134 rfl (lv_at hl 0 rfl) ?_
      refine lv_aload_n hx hb dX4_readMan_135 rfl (lv_at hl 1 rfl) ?_
      refine lv_iconst (v := 0) hx hb dX4_readMan_136 (by decide) ?_
      refine lv_bipush (v := 99) hx hb dX4_readMan_137 (by decide) ?_
      refine ti_callViE (ci := 4) (av := [.int 0, .int 99]) C hE hw (x_X4_number l D A cy hJ M_106 iM_106 t ht 0 99 B n g_104 hs_107) ⟨ml_X4_56, ym_X4_number, yv_X4_number, yi_X4_number, yc_X4_number⟩ yd_X4_number ob_1 (by decide) rfl rfl hl.1 (Nat.le_of_ble_eq_true rfl) ⟨by decide, by decide⟩ ⟨Nat.zero_le _, Nat.zero_le _⟩ dX4_readMan_139 (fun r_110 M_111 H locs hp_111 hw => ?_)
      obtain ⟨iM_111, q_112, q_113, q_114, q_115, p0r_110, p1r_110⟩ := hp_111
      have hlr_110_0 : (0 : Int32).toInt = 0 := by decide
      have hlr_110_99 : (99 : Int32).toInt = 99 := by decide
      simp only [hlr_110_0, hlr_110_99] at p1r_110
      obtain ⟨g_116, eg_116⟩ : ∃ z : Nat → Int, z = pp_nb B n 0 99 g_104 := ⟨_, rfl⟩
      rw [← eg_116] at p1r_110
      have lg_116_0 : g_116 0 = (tI M_111 2 4).toInt := p1r_110.2.1.1
      have lg_116_1 : g_116 1 = (tI M_111 2 6).toInt := p1r_110.2.1.2.1
      have lg_116_4 : g_116 4 = (tI M_111 1 4).toInt := p1r_110.2.2.1.1
      have lg_116_7 : g_116 7 = (tI M_111 t 4).toInt := p1r_110.2.2.2.1.1
      have lg_116_8 : g_116 8 = (tI M_111 t 5).toInt := p1r_110.2.2.2.1.2.1
      have tq_117 : tq t d_109 M_111 := tq_fr ht tq_108 q_113 q_115
      refine ti_putI (ci := 2) (k := 5) (N := 10) (T := TX2) C hw iw_2 tyX2 tyX2_ok nmX2 rfl ob_12 (by decide) (by decide) fl_X4_126 rfl rfl rfl rfl (fn_2 A _) fs_2_5 dX4_readMan_142 (fun H locs hw => ?_)
      obtain ⟨M_118, hM_118⟩ : ∃ z : ti_M, z = uI M_111 (ti_men t x_1.toNatClampNeg) 5 r_110 := ⟨_, rfl⟩
      have hw := hw.to hM_118.symm
      have iM_118 : cI Tc M_118 := cI_uI iM_111 hM_118 ob_12.1 trivial
      have hs_119 := rC_m5x (j := x_1.toNatClampNeg) ht hM_118 p1r_110
      have lM_118_0 : g_116 0 = (tI M_118 2 4).toInt := hs_119.2.1.1
      have lM_118_1 : g_116 1 = (tI M_118 2 6).toInt := hs_119.2.1.2.1
      have lM_118_4 : g_116 4 = (tI M_118 1 4).toInt := hs_119.2.2.1.1
      have lM_118_7 : g_116 7 = (tI M_118 t 4).toInt := hs_119.2.2.2.1.1
      have lM_118_8 : g_116 8 = (tI M_118 t 5).toInt := hs_119.2.2.2.1.2.1
      have tq_120 : tq t (pp_su d_109 (100 + 16 * x_1.toNatClampNeg + 5) r_110.toInt) M_118 := tq_m ht (i_nt (x := x_1) rfl (by omega) (by omega)) tq_117 rfl hM_118 (by decide)
      obtain ⟨d_121, ed_121⟩ : ∃ z : Nat → Int, z = pp_su d_109 (100 + 16 * x_1.toNatClampNeg + 5) r_110.toInt := ⟨_, rfl⟩
      rw [← ed_121] at tq_120
      refine lv_aload_n hx hb dX4_readMan_145 rfl (lv_at hl 0 rfl) ?_
      refine lv_aload_n hx hb dX4_readMan_146 rfl (lv_at hl 1 rfl) ?_
      refine lv_iconst (v := 0) hx hb dX4_readMan_147 (by decide) ?_
      refine lv_bipush (v := 99) hx hb dX4_readMan_148 (by decide) ?_
      refine ti_callViE (ci := 4) (av := [.int 0, .int 99]) C hE hw (x_X4_number l D A cy hJ M_118 iM_118 t ht 0 99 B n g_116 hs_119) ⟨ml_X4_56, ym_X4_number, yv_X4_number, yi_X4_number, yc_X4_number⟩ yd_X4_number ob_1 (by decide) rfl rfl hl.1 (Nat.le_of_ble_eq_true rfl) ⟨by decide, by decide⟩ ⟨Nat.zero_le _, Nat.zero_le _⟩ dX4_readMan_150 (fun r_122 M_123 H locs hp_123 hw => ?_)
      obtain ⟨iM_123, q_124, q_125, q_126, q_127, p0r_122, p1r_122⟩ := hp_123
      have hlr_122_0 : (0 : Int32).toInt = 0 := by decide
      have hlr_122_99 : (99 : Int32).toInt = 99 := by decide
      simp only [hlr_122_0, hlr_122_99] at p1r_122
      obtain ⟨g_128, eg_128⟩ : ∃ z : Nat → Int, z = pp_nb B n 0 99 g_116 := ⟨_, rfl⟩
      rw [← eg_128] at p1r_122
      have lg_128_0 : g_128 0 = (tI M_123 2 4).toInt := p1r_122.2.1.1
      have lg_128_1 : g_128 1 = (tI M_123 2 6).toInt := p1r_122.2.1.2.1
      have lg_128_4 : g_128 4 = (tI M_123 1 4).toInt := p1r_122.2.2.1.1
      have lg_128_7 : g_128 7 = (tI M_123 t 4).toInt := p1r_122.2.2.2.1.1
      have lg_128_8 : g_128 8 = (tI M_123 t 5).toInt := p1r_122.2.2.2.1.2.1
      have tq_129 : tq t d_121 M_123 := tq_fr ht tq_120 q_125 q_127
      refine ti_putI (ci := 2) (k := 6) (N := 10) (T := TX2) C hw iw_2 tyX2 tyX2_ok nmX2 rfl ob_12 (by decide) (by decide) fl_X4_129 rfl rfl rfl rfl (fn_2 A _) fs_2_6 dX4_readMan_153 (fun H locs hw => ?_)
      obtain ⟨M_130, hM_130⟩ : ∃ z : ti_M, z = uI M_123 (ti_men t x_1.toNatClampNeg) 6 r_122 := ⟨_, rfl⟩
      have hw := hw.to hM_130.symm
      have iM_130 : cI Tc M_130 := cI_uI iM_123 hM_130 ob_12.1 trivial
      have hs_131 := rC_m6x (j := x_1.toNatClampNeg) ht hM_130 p1r_122
      have lM_130_0 : g_128 0 = (tI M_130 2 4).toInt := hs_131.2.1.1
      have lM_130_1 : g_128 1 = (tI M_130 2 6).toInt := hs_131.2.1.2.1
      have lM_130_4 : g_128 4 = (tI M_130 1 4).toInt := hs_131.2.2.1.1
      have lM_130_7 : g_128 7 = (tI M_130 t 4).toInt := hs_131.2.2.2.1.1
      have lM_130_8 : g_128 8 = (tI M_130 t 5).toInt := hs_131.2.2.2.1.2.1
      have tq_132 : tq t (pp_su d_121 (100 + 16 * x_1.toNatClampNeg + 6) r_122.toInt) M_130 := tq_m ht (i_nt (x := x_1) rfl (by omega) (by omega)) tq_129 rfl hM_130 (by decide)
      obtain ⟨d_133, ed_133⟩ : ∃ z : Nat → Int, z = pp_su d_121 (100 + 16 * x_1.toNatClampNeg + 6) r_122.toInt := ⟨_, rfl⟩
      rw [← ed_133] at tq_132
      refine lv_aload_n hx hb dX4_readMan_156 rfl (lv_at hl 0 rfl) ?_
      refine lv_aload_n hx hb dX4_readMan_157 rfl (lv_at hl 1 rfl) ?_
      refine lv_iconst (v := 0) hx hb dX4_readMan_158 (by decide) ?_
      refine lv_bipush (v := 59) hx hb dX4_readMan_159 (by decide) ?_
      refine ti_callViE (ci := 4) (av := [.int 0, .int 59]) C hE hw (x_X4_number l D A cy hJ M_130 iM_130 t ht 0 59 B n g_128 hs_131) ⟨ml_X4_56, ym_X4_number, yv_X4_number, yi_X4_number, yc_X4_number⟩ yd_X4_number ob_1 (by decide) rfl rfl hl.1 (Nat.le_of_ble_eq_true rfl) ⟨by decide, by decide⟩ ⟨Nat.zero_le _, Nat.zero_le _⟩ dX4_readMan_161 (fun r_134 M_135 H locs hp_135 hw => ?_)
      obtain ⟨iM_135, q_136, q_137, q_138, q_139, p0r_134, p1r_134⟩ := hp_135
      have hlr_134_0 : (0 : Int32).toInt = 0 := by decide
      have hlr_134_59 : (59 : Int32).toInt = 59 := by decide
      simp only [hlr_134_0, hlr_134_59] at p1r_134
      obtain ⟨g_140, eg_140⟩ : ∃ z : Nat → Int, z = pp_nb B n 0 59 g_128 := ⟨_, rfl⟩
      rw [← eg_140] at p1r_134
      have lg_140_0 : g_140 0 = (tI M_135 2 4).toInt := p1r_134.2.1.1
      have lg_140_1 : g_140 1 = (tI M_135 2 6).toInt := p1r_134.2.1.2.1
      have lg_140_4 : g_140 4 = (tI M_135 1 4).toInt := p1r_134.2.2.1.1
      have lg_140_7 : g_140 7 = (tI M_135 t 4).toInt := p1r_134.2.2.2.1.1
      have lg_140_8 : g_140 8 = (tI M_135 t 5).toInt := p1r_134.2.2.2.1.2.1
      have tq_141 : tq t d_133 M_135 := tq_fr ht tq_132 q_137 q_139
      refine ti_putI (ci := 2) (k := 7) (N := 10) (T := TX2) C hw iw_2 tyX2 tyX2_ok nmX2 rfl ob_12 (by decide) (by decide) fl_X4_132 rfl rfl rfl rfl (fn_2 A _) fs_2_7 dX4_readMan_164 (fun H locs hw => ?_)
      obtain ⟨M_142, hM_142⟩ : ∃ z : ti_M, z = uI M_135 (ti_men t x_1.toNatClampNeg) 7 r_134 := ⟨_, rfl⟩
      have hw := hw.to hM_142.symm
      have iM_142 : cI Tc M_142 := cI_uI iM_135 hM_142 ob_12.1 trivial
      have hs_143 := rC_m7x (j := x_1.toNatClampNeg) ht hM_142 p1r_134
      have lM_142_0 : g_140 0 = (tI M_142 2 4).toInt := hs_143.2.1.1
      have lM_142_1 : g_140 1 = (tI M_142 2 6).toInt := hs_143.2.1.2.1
      have lM_142_4 : g_140 4 = (tI M_142 1 4).toInt := hs_143.2.2.1.1
      have lM_142_7 : g_140 7 = (tI M_142 t 4).toInt := hs_143.2.2.2.1.1
      have lM_142_8 : g_140 8 = (tI M_142 t 5).toInt := hs_143.2.2.2.1.2.1
      have tq_144 : tq t (pp_su d_133 (100 + 16 * x_1.toNatClampNeg + 7) r_134.toInt) M_142 := tq_m ht (i_nt (x := x_1) rfl (by omega) (by omega)) tq_141 rfl hM_142 (by decide)
      obtain ⟨d_145, ed_145⟩ : ∃ z : Nat → Int, z = pp_su d_133 (100 + 16 * x_1.toNatClampNeg + 7) r_134.toInt := ⟨_, rfl⟩
      rw [← ed_145] at tq_144
      refine lv_aload_n hx hb dX4_readMan_167 rfl (lv_at hl 0 rfl) ?_
      refine lv_aload_n hx hb dX4_readMan_168 rfl (lv_at hl 1 rfl) ?_
      refine ti_get (ci := 4) (k := 0) (N := 6) (T := TX4) (v := .ref (A 2 0)) C hw iw_4 rfl ob_1 (by decide) (by decide) fl_X4_12 rfl rfl dX4_readMan_169 ?_
      refine ti_get (ci := 7) (k := 4) (N := 7) (T := TX7) C hw iw_7 rfl ob_2 (by decide) (by decide) fl_X4_41 rfl rfl dX4_readMan_172 ?_
      refine lv_topi (fun x_146 ex_146 => ?_)
      have bx_146 : 0 ≤ x_146.toInt ∧ x_146.toInt ≤ 41 := cI_rd iM_142 ob_2.1 ex_146
      have ux_146 : (tI M_142 2 4).toInt = x_146.toInt := by rw [ex_146]
      refine lv_bipush (v := 15) hx hb dX4_readMan_175 (by decide) ?_
      refine sb_icmp_ne (tgt := 184) hx hb rfl (by decide : (15 : Int32).toInt = 15) dX4_readMan_177 (by decide) (fun c_177_146 => ?_) (fun c_177_146 => ?_)
      · refine lv_iconst (v := 0) hx hb dX4_readMan_184 (by decide) ?_
        refine ti_putI (ci := 2) (k := 8) (N := 10) (T := TX2) C hw iw_2 tyX2 tyX2_ok nmX2 rfl ob_12 (by decide) (by decide) fl_X4_135 rfl rfl rfl rfl (fn_2 A _) fs_2_8 dX4_readMan_185 (fun H locs hw => ?_)
        obtain ⟨M_153, hM_153⟩ : ∃ z : ti_M, z = uI M_142 (ti_men t x_1.toNatClampNeg) 8 0 := ⟨_, rfl⟩
        have hw := hw.to hM_153.symm
        have iM_153 : cI Tc M_153 := cI_uI iM_142 hM_153 ob_12.1 trivial
        have hs_154 := rC_m8x (j := x_1.toNatClampNeg) ht hM_153 hs_143
        have lM_153_0 : g_140 0 = (tI M_153 2 4).toInt := hs_154.2.1.1
        have lM_153_1 : g_140 1 = (tI M_153 2 6).toInt := hs_154.2.1.2.1
        have lM_153_4 : g_140 4 = (tI M_153 1 4).toInt := hs_154.2.2.1.1
        have lM_153_7 : g_140 7 = (tI M_153 t 4).toInt := hs_154.2.2.2.1.1
        have lM_153_8 : g_140 8 = (tI M_153 t 5).toInt := hs_154.2.2.2.1.2.1
        have tq_155 : tq t (pp_su d_145 (100 + 16 * x_1.toNatClampNeg + 8) 0) M_153 := tq_m ht (i_nt (x := x_1) rfl (by omega) (by omega)) tq_144 (by decide : (0 : Int32).toInt = 0) hM_153 (by decide)
        obtain ⟨d_156, ed_156⟩ : ∃ z : Nat → Int, z = pp_su d_145 (100 + 16 * x_1.toNatClampNeg + 8) 0 := ⟨_, rfl⟩
        rw [← ed_156] at tq_155
        refine lv_aload_n hx hb dX4_readMan_188 rfl (lv_at hl 0 rfl) ?_
        refine ti_get (ci := 2) (k := 8) (N := 10) (T := TX2) C hw iw_2 rfl ob_12 (by decide) (by decide) fl_X4_135 rfl rfl dX4_readMan_189 ?_
        refine ti_top (y := 0) (tI_uE hM_153) ?_
        refine sb_if_eq (tgt := 202) hx hb (by decide : (0 : Int32).toInt = 0) dX4_readMan_192 (by decide) (fun c_192_156 => ?_) (fun h => absurd h (by decide))
        refine lv_aload_n hx hb dX4_readMan_202 rfl (lv_at hl 0 rfl) ?_
        refine lv_iconst (v := (-1)) hx hb dX4_readMan_203 (by decide) ?_
        refine ti_putI (ci := 2) (k := 9) (N := 10) (T := TX2) C hw iw_2 tyX2 tyX2_ok nmX2 rfl ob_12 (by decide) (by decide) fl_X4_139 rfl rfl rfl rfl (fn_2 A _) fs_2_9 dX4_readMan_204 (fun H locs hw => ?_)
        obtain ⟨M_167, hM_167⟩ : ∃ z : ti_M, z = uI M_153 (ti_men t x_1.toNatClampNeg) 9 (-1) := ⟨_, rfl⟩
        have hw := hw.to hM_167.symm
        have iM_167 : cI Tc M_167 := cI_uI iM_153 hM_167 ob_12.1 trivial
        have hs_168 := rC_m9 (j := x_1.toNatClampNeg) ht (i_nt (x := x_1) rfl (by omega) (by omega)) hM_167 hs_154
        rw [show ((-1) : Int32).toInt = (-1) by decide] at hs_168
        obtain ⟨g_169, eg_169⟩ : ∃ z : Nat → Int, z = pp_su g_140 (200 + x_1.toNatClampNeg) (-1) := ⟨_, rfl⟩
        rw [← eg_169] at hs_168
        have lg_169_0 : g_169 0 = (tI M_167 2 4).toInt := hs_168.2.1.1
        have lg_169_1 : g_169 1 = (tI M_167 2 6).toInt := hs_168.2.1.2.1
        have lg_169_4 : g_169 4 = (tI M_167 1 4).toInt := hs_168.2.2.1.1
        have lg_169_7 : g_169 7 = (tI M_167 t 4).toInt := hs_168.2.2.2.1.1
        have lg_169_8 : g_169 8 = (tI M_167 t 5).toInt := hs_168.2.2.2.1.2.1
        have tq_171 : tq t d_156 M_167 := tq_m0 ht (i_nt (x := x_1) rfl (by omega) (by omega)) tq_155 hM_167 (by decide)
        refine lv_aload_n hx hb dX4_readMan_207 rfl (lv_at hl 1 rfl) ?_
        refine ti_get (ci := 4) (k := 1) (N := 6) (T := TX4) (v := .ref (A t 0)) C hw iw_4 rfl ob_1 (by decide) (by decide) fl_X4_28 rfl (ti_Tv ((tT_uIE hM_167).trans ((tT_uIE hM_153).trans ((tT_uIE hM_142).trans ((tT_fr q_136).trans ((tT_uIE hM_130).trans ((tT_fr q_124).trans ((tT_uIE hM_118).trans ((tT_fr q_112).trans ((tT_uIE hM_106).trans ((tT_fr q_100).trans ((tT_uIE hM_94).trans ((tT_fr q_88).trans ((tT_uIE hM_82).trans ((tT_fr q_76).trans ((tT_uIE hM_70).trans ((tT_fr q_64).trans ((tT_fr q_56).trans f_47)))))))))))))))))) dX4_readMan_208 ?_
        refine lv_dup hx hb dX4_readMan_211 rfl ?_
        refine ti_get (ci := 8) (k := 4) (N := 12) (T := TX8) C hw iw_8 rfl (ob_t ht) (by decide) (by decide) fl_X4_98 rfl rfl dX4_readMan_212 ?_
        refine ti_top (y := x_1) ((tI_nE hM_167 (nk (by decide))).trans ((tI_nE hM_153 (nk (by decide))).trans ((tI_nE hM_142 (nk (by decide))).trans ((q_137 t 4 (cls_ne (ob_t ht).1 ob_1.1 (by decide)) (cls_ne (ob_t ht).1 ob_2.1 (by decide))).trans ((tI_nE hM_130 (nk (by decide))).trans ((q_125 t 4 (cls_ne (ob_t ht).1 ob_1.1 (by decide)) (cls_ne (ob_t ht).1 ob_2.1 (by decide))).trans ((tI_nE hM_118 (nk (by decide))).trans ((q_113 t 4 (cls_ne (ob_t ht).1 ob_1.1 (by decide)) (cls_ne (ob_t ht).1 ob_2.1 (by decide))).trans ((tI_nE hM_106 (no (cls_ne (ob_t ht).1 ob_12.1 (by decide)))).trans ((q_101 t 4 (cls_ne (ob_t ht).1 ob_1.1 (by decide)) (cls_ne (ob_t ht).1 ob_2.1 (by decide))).trans ((tI_nE hM_94 (nk (by decide))).trans ((q_89 t 4 (cls_ne (ob_t ht).1 ob_1.1 (by decide)) (cls_ne (ob_t ht).1 ob_2.1 (by decide))).trans ((tI_nE hM_82 (nk (by decide))).trans ((q_77 t 4 (cls_ne (ob_t ht).1 ob_1.1 (by decide)) (cls_ne (ob_t ht).1 ob_2.1 (by decide))).trans ((tI_nE hM_70 (nk (by decide))).trans ((q_65 t 4 (cls_ne (ob_t ht).1 ob_1.1 (by decide)) (cls_ne (ob_t ht).1 ob_2.1 (by decide))).trans ((q_57 t 4 (cls_ne (ob_t ht).1 ob_1.1 (by decide)) (cls_ne (ob_t ht).1 ob_2.1 (by decide))).trans f_46))))))))))))))))) ?_
        have u_172 : (tI M_167 t 4).toInt = (x_1 : Int32).toInt := by rw [((tI_nE hM_167 (nk (by decide))).trans ((tI_nE hM_153 (nk (by decide))).trans ((tI_nE hM_142 (nk (by decide))).trans ((q_137 t 4 (cls_ne (ob_t ht).1 ob_1.1 (by decide)) (cls_ne (ob_t ht).1 ob_2.1 (by decide))).trans ((tI_nE hM_130 (nk (by decide))).trans ((q_125 t 4 (cls_ne (ob_t ht).1 ob_1.1 (by decide)) (cls_ne (ob_t ht).1 ob_2.1 (by decide))).trans ((tI_nE hM_118 (nk (by decide))).trans ((q_113 t 4 (cls_ne (ob_t ht).1 ob_1.1 (by decide)) (cls_ne (ob_t ht).1 ob_2.1 (by decide))).trans ((tI_nE hM_106 (no (cls_ne (ob_t ht).1 ob_12.1 (by decide)))).trans ((q_101 t 4 (cls_ne (ob_t ht).1 ob_1.1 (by decide)) (cls_ne (ob_t ht).1 ob_2.1 (by decide))).trans ((tI_nE hM_94 (nk (by decide))).trans ((q_89 t 4 (cls_ne (ob_t ht).1 ob_1.1 (by decide)) (cls_ne (ob_t ht).1 ob_2.1 (by decide))).trans ((tI_nE hM_82 (nk (by decide))).trans ((q_77 t 4 (cls_ne (ob_t ht).1 ob_1.1 (by decide)) (cls_ne (ob_t ht).1 ob_2.1 (by decide))).trans ((tI_nE hM_70 (nk (by decide))).trans ((q_65 t 4 (cls_ne (ob_t ht).1 ob_1.1 (by decide)) (cls_ne (ob_t ht).1 ob_2.1 (by decide))).trans ((q_57 t 4 (cls_ne (ob_t ht).1 ob_1.1 (by decide)) (cls_ne (ob_t ht).1 ob_2.1 (by decide))).trans f_46)))))))))))))))))]
        refine lv_iconst (v := 1) hx hb dX4_readMan_215 (by decide) ?_
        refine lv_iadd hx hb dX4_readMan_216 ?_
        refine lv_topi (fun x_173 ex_173 => ?_)
        have lox_173x_1 := x_1.le_toInt
        have hix_173x_1 := x_1.toInt_lt
        have tx_173 : x_173.toInt = x_1.toInt + 1 := i_add ex_173 rfl (by decide : (1 : Int32).toInt = 1) (by omega) (by omega)
        refine ti_putI (ci := 8) (k := 4) (N := 12) (T := TX8) C hw iw_8 tyX8 tyX8_ok nmX8 rfl (ob_t ht) (by decide) (by decide) fl_X4_98 rfl rfl rfl rfl (fn_8 A _) fs_8_4 dX4_readMan_217 (fun H locs hw => ?_)
        obtain ⟨M_174, hM_174⟩ : ∃ z : ti_M, z = uI M_167 t 4 x_173 := ⟨_, rfl⟩
        have hw := hw.to hM_174.symm
        have iM_174 : cI Tc M_174 := cI_uI iM_167 hM_174 (ob_t ht).1 (ib_mk (lo := 0) (hi := 8) (by omega) (by omega))
        have vM_174 : (tI M_174 t 4).toInt = (x_173 : Int32).toInt := by rw [tI_uE hM_174]
        have hs_175 := rC_t4 ht hM_174 hs_168
        obtain ⟨g_176, eg_176⟩ : ∃ z : Nat → Int, z = pp_su g_169 7 x_173.toInt := ⟨_, rfl⟩
        rw [← eg_176] at hs_175
        have lg_176_0 : g_176 0 = (tI M_174 2 4).toInt := hs_175.2.1.1
        have lg_176_1 : g_176 1 = (tI M_174 2 6).toInt := hs_175.2.1.2.1
        have lg_176_4 : g_176 4 = (tI M_174 1 4).toInt := hs_175.2.2.1.1
        have lg_176_7 : g_176 7 = (tI M_174 t 4).toInt := hs_175.2.2.2.1.1
        have lg_176_8 : g_176 8 = (tI M_174 t 5).toInt := hs_175.2.2.2.1.2.1
        have tq_178 : tq t d_156 M_174 := tq_t0 ht tq_171 hM_174 (by decide)
        have h47 : g_140 7 = x_1.toInt := by rw [hs_154.2.2.2.1.1, ((tI_nE hM_153 (nk (by decide))).trans ((tI_nE hM_142 (nk (by decide))).trans ((q_137 t 4 (cls_ne (ob_t ht).1 ob_1.1 (by decide)) (cls_ne (ob_t ht).1 ob_2.1 (by decide))).trans ((tI_nE hM_130 (nk (by decide))).trans ((q_125 t 4 (cls_ne (ob_t ht).1 ob_1.1 (by decide)) (cls_ne (ob_t ht).1 ob_2.1 (by decide))).trans ((tI_nE hM_118 (nk (by decide))).trans ((q_113 t 4 (cls_ne (ob_t ht).1 ob_1.1 (by decide)) (cls_ne (ob_t ht).1 ob_2.1 (by decide))).trans ((tI_nE hM_106 (no (cls_ne (ob_t ht).1 ob_12.1 (by decide)))).trans ((q_101 t 4 (cls_ne (ob_t ht).1 ob_1.1 (by decide)) (cls_ne (ob_t ht).1 ob_2.1 (by decide))).trans ((tI_nE hM_94 (nk (by decide))).trans ((q_89 t 4 (cls_ne (ob_t ht).1 ob_1.1 (by decide)) (cls_ne (ob_t ht).1 ob_2.1 (by decide))).trans ((tI_nE hM_82 (nk (by decide))).trans ((q_77 t 4 (cls_ne (ob_t ht).1 ob_1.1 (by decide)) (cls_ne (ob_t ht).1 ob_2.1 (by decide))).trans ((tI_nE hM_70 (nk (by decide))).trans ((q_65 t 4 (cls_ne (ob_t ht).1 ob_1.1 (by decide)) (cls_ne (ob_t ht).1 ob_2.1 (by decide))).trans ((q_57 t 4 (cls_ne (ob_t ht).1 ob_1.1 (by decide)) (cls_ne (ob_t ht).1 ob_2.1 (by decide))).trans f_46))))))))))))))))]
        have E1 : pp_m1 B n rg = g_25 := by unfold pp_m1; rw [← eg_20, show (rg 7).toNat = x_1.toNatClampNeg by (show (rg 7).toNat = x_1.toInt.toNat; omega), show g_20 1 = x_22.toInt by omega, ← eg_25]
        have E3 : pp_m3 B n g_48 = g_140 := by unfold pp_m3; rw [← eg_60, ← eg_68, ← eg_80, ← eg_92, ← eg_104, ← eg_116, ← eg_128, ← eg_140]
        have E4 : pp_m4 B n g_140 = g_140 := by unfold pp_m4; rw [if_neg (by omega)]
        have E5 : pp_m5 g_140 = g_176 := by unfold pp_m5; rw [show (g_140 7).toNat = x_1.toNatClampNeg by (show (g_140 7).toNat = x_1.toInt.toNat; omega), show g_140 7 + 1 = x_173.toInt by omega, ← eg_169, ← eg_176]
        have ET : qq_mn B n rg d_50 = d_156 := by unfold qq_mn; rw [if_pos (by omega), E1, j_52, E3, ← eg_60]; unfold qq_m3 qq_m4; rw [show (rg 7).toNat = x_1.toNatClampNeg by (show (rg 7).toNat = x_1.toInt.toNat; omega), ← eg_68, ← eg_80, ← eg_92, ← eg_104, ← eg_116, ← eg_128, ← p0r_62, ← p0r_74, ← p0r_86, ← p0r_98, ← p0r_110, ← p0r_122, ← p0r_134, if_neg (by omega), ← ed_73, ← ed_85, ← ed_97, ← ed_109, ← ed_121, ← ed_133, ← ed_145, ← ed_156]
        exact hQ _ _ _ _ _ hw (⟨iM_174, ((rf_I hM_174).trans ((rf_I hM_167).trans ((rf_I hM_153).trans ((rf_I hM_142).trans ((q_136).trans ((rf_I hM_130).trans ((q_124).trans ((rf_I hM_118).trans ((q_112).trans ((rf_I hM_106).trans ((q_100).trans ((rf_I hM_94).trans ((q_88).trans ((rf_I hM_82).trans ((q_76).trans ((rf_I hM_70).trans ((q_64).trans ((q_56).trans f_42)))))))))))))))))), (f0.trans (f0_I hM_174 (f0n (ob_t ht).1 (by decide))) (f0.trans (f0_I hM_167 (f0n ob_12.1 (by decide))) (f0.trans (f0_I hM_153 (f0n ob_12.1 (by decide))) (f0.trans (f0_I hM_142 (f0n ob_12.1 (by decide))) (f0.trans (f0_12 q_137) (f0.trans (f0_I hM_130 (f0n ob_12.1 (by decide))) (f0.trans (f0_12 q_125) (f0.trans (f0_I hM_118 (f0n ob_12.1 (by decide))) (f0.trans (f0_12 q_113) (f0.trans (f0_I hM_106 (f0n ob_12.1 (by decide))) (f0.trans (f0_12 q_101) (f0.trans (f0_I hM_94 (f0n ob_12.1 (by decide))) (f0.trans (f0_12 q_89) (f0.trans (f0_I hM_82 (f0n ob_12.1 (by decide))) (f0.trans (f0_12 q_77) (f0.trans (f0_I hM_70 (f0n ob_12.1 (by decide))) (f0.trans (f0_12 q_65) (f0.trans (f0_12 q_57) f_43)))))))))))))))))), ((tI_nE hM_174 (nk (by decide))).trans ((tI_nE hM_167 (nk (by decide))).trans ((tI_nE hM_153 (nk (by decide))).trans ((tI_nE hM_142 (nk (by decide))).trans ((q_138).trans ((tI_nE hM_130 (nk (by decide))).trans ((q_126).trans ((tI_nE hM_118 (nk (by decide))).trans ((q_114).trans ((tI_nE hM_106 (nk (by decide))).trans ((q_102).trans ((tI_nE hM_94 (nk (by decide))).trans ((q_90).trans ((tI_nE hM_82 (nk (by decide))).trans ((q_78).trans ((tI_nE hM_70 (no (cls_ne ob_2.1 ob_12.1 (by decide)))).trans ((q_66).trans ((q_58).trans f_44)))))))))))))))))), (ot.trans (ot_I ht hM_174 (by omega)) (ot.trans (ot_m ht (i_nt (x := x_1) rfl (by omega) (by omega)) hM_167) (ot.trans (ot_m ht (i_nt (x := x_1) rfl (by omega) (by omega)) hM_153) (ot.trans (ot_m ht (i_nt (x := x_1) rfl (by omega) (by omega)) hM_142) (ot.trans (ot_12 ht q_137 q_139) (ot.trans (ot_m ht (i_nt (x := x_1) rfl (by omega) (by omega)) hM_130) (ot.trans (ot_12 ht q_125 q_127) (ot.trans (ot_m ht (i_nt (x := x_1) rfl (by omega) (by omega)) hM_118) (ot.trans (ot_12 ht q_113 q_115) (ot.trans (ot_m ht (i_nt (x := x_1) rfl (by omega) (by omega)) hM_106) (ot.trans (ot_12 ht q_101 q_103) (ot.trans (ot_m ht (i_nt (x := x_1) rfl (by omega) (by omega)) hM_94) (ot.trans (ot_12 ht q_89 q_91) (ot.trans (ot_m ht (i_nt (x := x_1) rfl (by omega) (by omega)) hM_82) (ot.trans (ot_12 ht q_77 q_79) (ot.trans (ot_m ht (i_nt (x := x_1) rfl (by omega) (by omega)) hM_70) (ot.trans (ot_12 ht q_65 q_67) (ot.trans (ot_12 ht q_57 q_59) f_45)))))))))))))))))), (by unfold pp_mn; rw [if_pos (by omega), E1, j_52, E3, E4, E5]; exact hs_175), (by rw [show td = d_50 from j_53, ET]; exact tq_178)⟩) dX4_readMan_220
      · refine lv_iconst (v := 1) hx hb dX4_readMan_180 (by decide) ?_
        refine lv_goto (tgt := 185) hx hb dX4_readMan_181 (by decide) ?_
        refine ti_putI (ci := 2) (k := 8) (N := 10) (T := TX2) C hw iw_2 tyX2 tyX2_ok nmX2 rfl ob_12 (by decide) (by decide) fl_X4_135 rfl rfl rfl rfl (fn_2 A _) fs_2_8 dX4_readMan_185 (fun H locs hw => ?_)
        obtain ⟨M_148, hM_148⟩ : ∃ z : ti_M, z = uI M_142 (ti_men t x_1.toNatClampNeg) 8 1 := ⟨_, rfl⟩
        have hw := hw.to hM_148.symm
        have iM_148 : cI Tc M_148 := cI_uI iM_142 hM_148 ob_12.1 trivial
        have hs_149 := rC_m8x (j := x_1.toNatClampNeg) ht hM_148 hs_143
        have lM_148_0 : g_140 0 = (tI M_148 2 4).toInt := hs_149.2.1.1
        have lM_148_1 : g_140 1 = (tI M_148 2 6).toInt := hs_149.2.1.2.1
        have lM_148_4 : g_140 4 = (tI M_148 1 4).toInt := hs_149.2.2.1.1
        have lM_148_7 : g_140 7 = (tI M_148 t 4).toInt := hs_149.2.2.2.1.1
        have lM_148_8 : g_140 8 = (tI M_148 t 5).toInt := hs_149.2.2.2.1.2.1
        have tq_150 : tq t (pp_su d_145 (100 + 16 * x_1.toNatClampNeg + 8) 1) M_148 := tq_m ht (i_nt (x := x_1) rfl (by omega) (by omega)) tq_144 (by decide : (1 : Int32).toInt = 1) hM_148 (by decide)
        obtain ⟨d_151, ed_151⟩ : ∃ z : Nat → Int, z = pp_su d_145 (100 + 16 * x_1.toNatClampNeg + 8) 1 := ⟨_, rfl⟩
        rw [← ed_151] at tq_150
        refine lv_aload_n hx hb dX4_readMan_188 rfl (lv_at hl 0 rfl) ?_
        refine ti_get (ci := 2) (k := 8) (N := 10) (T := TX2) C hw iw_2 rfl ob_12 (by decide) (by decide) fl_X4_135 rfl rfl dX4_readMan_189 ?_
        refine ti_top (y := 1) (tI_uE hM_148) ?_
        refine sb_if_eq (tgt := 202) hx hb (by decide : (1 : Int32).toInt = 1) dX4_readMan_192 (by decide) (fun h => absurd h (by decide)) (fun c_192_151 => ?_)
        refine lv_aload_n hx hb dX4_readMan_195 rfl (lv_at hl 1 rfl) ?_
        refine ti_get (ci := 4) (k := 0) (N := 6) (T := TX4) (v := .ref (A 2 0)) C hw iw_4 rfl ob_1 (by decide) (by decide) fl_X4_12 rfl rfl dX4_readMan_196 ?_
        refine ti_callVvE (ci := 7) (av := []) C hE hw (x_X7_advance l D A cy hJ M_148 iM_148 ) ⟨ml_X4_92, ym_X7_advance, yv_X7_advance, yi_X7_advance, yc_X7_advance⟩ yd_X7_advance ob_2 (by decide) rfl rfl hl.1 (Nat.le_of_ble_eq_true rfl) ⟨by decide, by decide⟩ ⟨Nat.zero_le _, Nat.zero_le _⟩ dX4_readMan_199 (fun M_159 H locs hp_159 hw => ?_)
        obtain ⟨iM_159, q_160, q_161, q_162, q_163, p0r_158, p1r_158, p2r_158, p3r_158⟩ := hp_159
        have hs_164 := rC_av ht hs_149 q_163 q_161 p0r_158 p1r_158 p2r_158 p3r_158
        obtain ⟨g_165, eg_165⟩ : ∃ z : Nat → Int, z = pp_av B n g_140 := ⟨_, rfl⟩
        rw [← eg_165] at hs_164
        have lg_165_0 : g_165 0 = (tI M_159 2 4).toInt := hs_164.2.1.1
        have lg_165_1 : g_165 1 = (tI M_159 2 6).toInt := hs_164.2.1.2.1
        have lg_165_4 : g_165 4 = (tI M_159 1 4).toInt := hs_164.2.2.1.1
        have lg_165_7 : g_165 7 = (tI M_159 t 4).toInt := hs_164.2.2.2.1.1
        have lg_165_8 : g_165 8 = (tI M_159 t 5).toInt := hs_164.2.2.2.1.2.1
        have tq_166 : tq t d_151 M_159 := tq_fr ht tq_150 (o2_12 q_161) q_163.1
        refine lv_aload_n hx hb dX4_readMan_202 rfl (lv_at hl 0 rfl) ?_
        refine lv_iconst (v := (-1)) hx hb dX4_readMan_203 (by decide) ?_
        refine ti_putI (ci := 2) (k := 9) (N := 10) (T := TX2) C hw iw_2 tyX2 tyX2_ok nmX2 rfl ob_12 (by decide) (by decide) fl_X4_139 rfl rfl rfl rfl (fn_2 A _) fs_2_9 dX4_readMan_204 (fun H locs hw => ?_)
        obtain ⟨M_179, hM_179⟩ : ∃ z : ti_M, z = uI M_159 (ti_men t x_1.toNatClampNeg) 9 (-1) := ⟨_, rfl⟩
        have hw := hw.to hM_179.symm
        have iM_179 : cI Tc M_179 := cI_uI iM_159 hM_179 ob_12.1 trivial
        have hs_180 := rC_m9 (j := x_1.toNatClampNeg) ht (i_nt (x := x_1) rfl (by omega) (by omega)) hM_179 hs_164
        rw [show ((-1) : Int32).toInt = (-1) by decide] at hs_180
        obtain ⟨g_181, eg_181⟩ : ∃ z : Nat → Int, z = pp_su g_165 (200 + x_1.toNatClampNeg) (-1) := ⟨_, rfl⟩
        rw [← eg_181] at hs_180
        have lg_181_0 : g_181 0 = (tI M_179 2 4).toInt := hs_180.2.1.1
        have lg_181_1 : g_181 1 = (tI M_179 2 6).toInt := hs_180.2.1.2.1
        have lg_181_4 : g_181 4 = (tI M_179 1 4).toInt := hs_180.2.2.1.1
        have lg_181_7 : g_181 7 = (tI M_179 t 4).toInt := hs_180.2.2.2.1.1
        have lg_181_8 : g_181 8 = (tI M_179 t 5).toInt := hs_180.2.2.2.1.2.1
        have tq_183 : tq t d_151 M_179 := tq_m0 ht (i_nt (x := x_1) rfl (by omega) (by omega)) tq_166 hM_179 (by decide)
        refine lv_aload_n hx hb dX4_readMan_207 rfl (lv_at hl 1 rfl) ?_
        refine ti_get (ci := 4) (k := 1) (N := 6) (T := TX4) (v := .ref (A t 0)) C hw iw_4 rfl ob_1 (by decide) (by decide) fl_X4_28 rfl (ti_Tv ((tT_uIE hM_179).trans ((tT_fr q_160).trans ((tT_uIE hM_148).trans ((tT_uIE hM_142).trans ((tT_fr q_136).trans ((tT_uIE hM_130).trans ((tT_fr q_124).trans ((tT_uIE hM_118).trans ((tT_fr q_112).trans ((tT_uIE hM_106).trans ((tT_fr q_100).trans ((tT_uIE hM_94).trans ((tT_fr q_88).trans ((tT_uIE hM_82).trans ((tT_fr q_76).trans ((tT_uIE hM_70).trans ((tT_fr q_64).trans ((tT_fr q_56).trans f_47))))))))))))))))))) dX4_readMan_208 ?_
        refine lv_dup hx hb dX4_readMan_211 rfl ?_
        refine ti_get (ci := 8) (k := 4) (N := 12) (T := TX8) C hw iw_8 rfl (ob_t ht) (by decide) (by decide) fl_X4_98 rfl rfl dX4_readMan_212 ?_
        refine ti_top (y := x_1) ((tI_nE hM_179 (nk (by decide))).trans (((o2_12 q_161) t 4 (cls_ne (ob_t ht).1 ob_1.1 (by decide)) (cls_ne (ob_t ht).1 ob_2.1 (by decide))).trans ((tI_nE hM_148 (nk (by decide))).trans ((tI_nE hM_142 (nk (by decide))).trans ((q_137 t 4 (cls_ne (ob_t ht).1 ob_1.1 (by decide)) (cls_ne (ob_t ht).1 ob_2.1 (by decide))).trans ((tI_nE hM_130 (nk (by decide))).trans ((q_125 t 4 (cls_ne (ob_t ht).1 ob_1.1 (by decide)) (cls_ne (ob_t ht).1 ob_2.1 (by decide))).trans ((tI_nE hM_118 (nk (by decide))).trans ((q_113 t 4 (cls_ne (ob_t ht).1 ob_1.1 (by decide)) (cls_ne (ob_t ht).1 ob_2.1 (by decide))).trans ((tI_nE hM_106 (no (cls_ne (ob_t ht).1 ob_12.1 (by decide)))).trans ((q_101 t 4 (cls_ne (ob_t ht).1 ob_1.1 (by decide)) (cls_ne (ob_t ht).1 ob_2.1 (by decide))).trans ((tI_nE hM_94 (nk (by decide))).trans ((q_89 t 4 (cls_ne (ob_t ht).1 ob_1.1 (by decide)) (cls_ne (ob_t ht).1 ob_2.1 (by decide))).trans ((tI_nE hM_82 (nk (by decide))).trans ((q_77 t 4 (cls_ne (ob_t ht).1 ob_1.1 (by decide)) (cls_ne (ob_t ht).1 ob_2.1 (by decide))).trans ((tI_nE hM_70 (nk (by decide))).trans ((q_65 t 4 (cls_ne (ob_t ht).1 ob_1.1 (by decide)) (cls_ne (ob_t ht).1 ob_2.1 (by decide))).trans ((q_57 t 4 (cls_ne (ob_t ht).1 ob_1.1 (by decide)) (cls_ne (ob_t ht).1 ob_2.1 (by decide))).trans f_46)))))))))))))))))) ?_
        have u_184 : (tI M_179 t 4).toInt = (x_1 : Int32).toInt := by rw [((tI_nE hM_179 (nk (by decide))).trans (((o2_12 q_161) t 4 (cls_ne (ob_t ht).1 ob_1.1 (by decide)) (cls_ne (ob_t ht).1 ob_2.1 (by decide))).trans ((tI_nE hM_148 (nk (by decide))).trans ((tI_nE hM_142 (nk (by decide))).trans ((q_137 t 4 (cls_ne (ob_t ht).1 ob_1.1 (by decide)) (cls_ne (ob_t ht).1 ob_2.1 (by decide))).trans ((tI_nE hM_130 (nk (by decide))).trans ((q_125 t 4 (cls_ne (ob_t ht).1 ob_1.1 (by decide)) (cls_ne (ob_t ht).1 ob_2.1 (by decide))).trans ((tI_nE hM_118 (nk (by decide))).trans ((q_113 t 4 (cls_ne (ob_t ht).1 ob_1.1 (by decide)) (cls_ne (ob_t ht).1 ob_2.1 (by decide))).trans ((tI_nE hM_106 (no (cls_ne (ob_t ht).1 ob_12.1 (by decide)))).trans ((q_101 t 4 (cls_ne (ob_t ht).1 ob_1.1 (by decide)) (cls_ne (ob_t ht).1 ob_2.1 (by decide))).trans ((tI_nE hM_94 (nk (by decide))).trans ((q_89 t 4 (cls_ne (ob_t ht).1 ob_1.1 (by decide)) (cls_ne (ob_t ht).1 ob_2.1 (by decide))).trans ((tI_nE hM_82 (nk (by decide))).trans ((q_77 t 4 (cls_ne (ob_t ht).1 ob_1.1 (by decide)) (cls_ne (ob_t ht).1 ob_2.1 (by decide))).trans ((tI_nE hM_70 (nk (by decide))).trans ((q_65 t 4 (cls_ne (ob_t ht).1 ob_1.1 (by decide)) (cls_ne (ob_t ht).1 ob_2.1 (by decide))).trans ((q_57 t 4 (cls_ne (ob_t ht).1 ob_1.1 (by decide)) (cls_ne (ob_t ht).1 ob_2.1 (by decide))).trans f_46))))))))))))))))))]
        refine lv_iconst (v := 1) hx hb dX4_readMan_215 (by decide) ?_
        refine lv_iadd hx hb dX4_readMan_216 ?_
        refine lv_topi (fun x_185 ex_185 => ?_)
        have lox_185x_1 := x_1.le_toInt
        have hix_185x_1 := x_1.toInt_lt
        have tx_185 : x_185.toInt = x_1.toInt + 1 := i_add ex_185 rfl (by decide : (1 : Int32).toInt = 1) (by omega) (by omega)
        refine ti_putI (ci := 8) (k := 4) (N := 12) (T := TX8) C hw iw_8 tyX8 tyX8_ok nmX8 rfl (ob_t ht) (by decide) (by decide) fl_X4_98 rfl rfl rfl rfl (fn_8 A _) fs_8_4 dX4_readMan_217 (fun H locs hw => ?_)
        obtain ⟨M_186, hM_186⟩ : ∃ z : ti_M, z = uI M_179 t 4 x_185 := ⟨_, rfl⟩
        have hw := hw.to hM_186.symm
        have iM_186 : cI Tc M_186 := cI_uI iM_179 hM_186 (ob_t ht).1 (ib_mk (lo := 0) (hi := 8) (by omega) (by omega))
        have vM_186 : (tI M_186 t 4).toInt = (x_185 : Int32).toInt := by rw [tI_uE hM_186]
        have hs_187 := rC_t4 ht hM_186 hs_180
        obtain ⟨g_188, eg_188⟩ : ∃ z : Nat → Int, z = pp_su g_181 7 x_185.toInt := ⟨_, rfl⟩
        rw [← eg_188] at hs_187
        have lg_188_0 : g_188 0 = (tI M_186 2 4).toInt := hs_187.2.1.1
        have lg_188_1 : g_188 1 = (tI M_186 2 6).toInt := hs_187.2.1.2.1
        have lg_188_4 : g_188 4 = (tI M_186 1 4).toInt := hs_187.2.2.1.1
        have lg_188_7 : g_188 7 = (tI M_186 t 4).toInt := hs_187.2.2.2.1.1
        have lg_188_8 : g_188 8 = (tI M_186 t 5).toInt := hs_187.2.2.2.1.2.1
        have tq_190 : tq t d_151 M_186 := tq_t0 ht tq_183 hM_186 (by decide)
        have h47 : g_165 7 = x_1.toInt := by rw [hs_164.2.2.2.1.1, (((o2_12 q_161) t 4 (cls_ne (ob_t ht).1 ob_1.1 (by decide)) (cls_ne (ob_t ht).1 ob_2.1 (by decide))).trans ((tI_nE hM_148 (nk (by decide))).trans ((tI_nE hM_142 (nk (by decide))).trans ((q_137 t 4 (cls_ne (ob_t ht).1 ob_1.1 (by decide)) (cls_ne (ob_t ht).1 ob_2.1 (by decide))).trans ((tI_nE hM_130 (nk (by decide))).trans ((q_125 t 4 (cls_ne (ob_t ht).1 ob_1.1 (by decide)) (cls_ne (ob_t ht).1 ob_2.1 (by decide))).trans ((tI_nE hM_118 (nk (by decide))).trans ((q_113 t 4 (cls_ne (ob_t ht).1 ob_1.1 (by decide)) (cls_ne (ob_t ht).1 ob_2.1 (by decide))).trans ((tI_nE hM_106 (no (cls_ne (ob_t ht).1 ob_12.1 (by decide)))).trans ((q_101 t 4 (cls_ne (ob_t ht).1 ob_1.1 (by decide)) (cls_ne (ob_t ht).1 ob_2.1 (by decide))).trans ((tI_nE hM_94 (nk (by decide))).trans ((q_89 t 4 (cls_ne (ob_t ht).1 ob_1.1 (by decide)) (cls_ne (ob_t ht).1 ob_2.1 (by decide))).trans ((tI_nE hM_82 (nk (by decide))).trans ((q_77 t 4 (cls_ne (ob_t ht).1 ob_1.1 (by decide)) (cls_ne (ob_t ht).1 ob_2.1 (by decide))).trans ((tI_nE hM_70 (nk (by decide))).trans ((q_65 t 4 (cls_ne (ob_t ht).1 ob_1.1 (by decide)) (cls_ne (ob_t ht).1 ob_2.1 (by decide))).trans ((q_57 t 4 (cls_ne (ob_t ht).1 ob_1.1 (by decide)) (cls_ne (ob_t ht).1 ob_2.1 (by decide))).trans f_46)))))))))))))))))]
        have E1 : pp_m1 B n rg = g_25 := by unfold pp_m1; rw [← eg_20, show (rg 7).toNat = x_1.toNatClampNeg by (show (rg 7).toNat = x_1.toInt.toNat; omega), show g_20 1 = x_22.toInt by omega, ← eg_25]
        have E3 : pp_m3 B n g_48 = g_140 := by unfold pp_m3; rw [← eg_60, ← eg_68, ← eg_80, ← eg_92, ← eg_104, ← eg_116, ← eg_128, ← eg_140]
        have E4 : pp_m4 B n g_140 = g_165 := by unfold pp_m4; rw [if_pos (by omega), ← eg_165]
        have E5 : pp_m5 g_165 = g_188 := by unfold pp_m5; rw [show (g_165 7).toNat = x_1.toNatClampNeg by (show (g_165 7).toNat = x_1.toInt.toNat; omega), show g_165 7 + 1 = x_185.toInt by omega, ← eg_181, ← eg_188]
        have ET : qq_mn B n rg d_50 = d_151 := by unfold qq_mn; rw [if_pos (by omega), E1, j_52, E3, ← eg_60]; unfold qq_m3 qq_m4; rw [show (rg 7).toNat = x_1.toNatClampNeg by (show (rg 7).toNat = x_1.toInt.toNat; omega), ← eg_68, ← eg_80, ← eg_92, ← eg_104, ← eg_116, ← eg_128, ← p0r_62, ← p0r_74, ← p0r_86, ← p0r_98, ← p0r_110, ← p0r_122, ← p0r_134, if_pos (by omega), ← ed_73, ← ed_85, ← ed_97, ← ed_109, ← ed_121, ← ed_133, ← ed_145, ← ed_151]
        exact hQ _ _ _ _ _ hw (⟨iM_186, ((rf_I hM_186).trans ((rf_I hM_179).trans ((q_160).trans ((rf_I hM_148).trans ((rf_I hM_142).trans ((q_136).trans ((rf_I hM_130).trans ((q_124).trans ((rf_I hM_118).trans ((q_112).trans ((rf_I hM_106).trans ((q_100).trans ((rf_I hM_94).trans ((q_88).trans ((rf_I hM_82).trans ((q_76).trans ((rf_I hM_70).trans ((q_64).trans ((q_56).trans f_42))))))))))))))))))), (f0.trans (f0_I hM_186 (f0n (ob_t ht).1 (by decide))) (f0.trans (f0_I hM_179 (f0n ob_12.1 (by decide))) (f0.trans (f0_12 (o2_12 q_161)) (f0.trans (f0_I hM_148 (f0n ob_12.1 (by decide))) (f0.trans (f0_I hM_142 (f0n ob_12.1 (by decide))) (f0.trans (f0_12 q_137) (f0.trans (f0_I hM_130 (f0n ob_12.1 (by decide))) (f0.trans (f0_12 q_125) (f0.trans (f0_I hM_118 (f0n ob_12.1 (by decide))) (f0.trans (f0_12 q_113) (f0.trans (f0_I hM_106 (f0n ob_12.1 (by decide))) (f0.trans (f0_12 q_101) (f0.trans (f0_I hM_94 (f0n ob_12.1 (by decide))) (f0.trans (f0_12 q_89) (f0.trans (f0_I hM_82 (f0n ob_12.1 (by decide))) (f0.trans (f0_12 q_77) (f0.trans (f0_I hM_70 (f0n ob_12.1 (by decide))) (f0.trans (f0_12 q_65) (f0.trans (f0_12 q_57) f_43))))))))))))))))))), ((tI_nE hM_186 (nk (by decide))).trans ((tI_nE hM_179 (nk (by decide))).trans ((q_162).trans ((tI_nE hM_148 (nk (by decide))).trans ((tI_nE hM_142 (nk (by decide))).trans ((q_138).trans ((tI_nE hM_130 (nk (by decide))).trans ((q_126).trans ((tI_nE hM_118 (nk (by decide))).trans ((q_114).trans ((tI_nE hM_106 (nk (by decide))).trans ((q_102).trans ((tI_nE hM_94 (nk (by decide))).trans ((q_90).trans ((tI_nE hM_82 (nk (by decide))).trans ((q_78).trans ((tI_nE hM_70 (no (cls_ne ob_2.1 ob_12.1 (by decide)))).trans ((q_66).trans ((q_58).trans f_44))))))))))))))))))), (ot.trans (ot_I ht hM_186 (by omega)) (ot.trans (ot_m ht (i_nt (x := x_1) rfl (by omega) (by omega)) hM_179) (ot.trans (ot_12 ht (o2_12 q_161) q_163.1) (ot.trans (ot_m ht (i_nt (x := x_1) rfl (by omega) (by omega)) hM_148) (ot.trans (ot_m ht (i_nt (x := x_1) rfl (by omega) (by omega)) hM_142) (ot.trans (ot_12 ht q_137 q_139) (ot.trans (ot_m ht (i_nt (x := x_1) rfl (by omega) (by omega)) hM_130) (ot.trans (ot_12 ht q_125 q_127) (ot.trans (ot_m ht (i_nt (x := x_1) rfl (by omega) (by omega)) hM_118) (ot.trans (ot_12 ht q_113 q_115) (ot.trans (ot_m ht (i_nt (x := x_1) rfl (by omega) (by omega)) hM_106) (ot.trans (ot_12 ht q_101 q_103) (ot.trans (ot_m ht (i_nt (x := x_1) rfl (by omega) (by omega)) hM_94) (ot.trans (ot_12 ht q_89 q_91) (ot.trans (ot_m ht (i_nt (x := x_1) rfl (by omega) (by omega)) hM_82) (ot.trans (ot_12 ht q_77 q_79) (ot.trans (ot_m ht (i_nt (x := x_1) rfl (by omega) (by omega)) hM_70) (ot.trans (ot_12 ht q_65 q_67) (ot.trans (ot_12 ht q_57 q_59) f_45))))))))))))))))))), (by unfold pp_mn; rw [if_pos (by omega), E1, j_52, E3, E4, E5]; exact hs_187), (by rw [show td = d_50 from j_53, ET]; exact tq_190)⟩) dX4_readMan_220
    refine sb_icmp_ne (tgt := 84) hx hb rfl (by decide : (25 : Int32).toInt = 25) dX4_readMan_61 (by decide) (fun c_61_28 => ?_) (fun c_61_28 => ?_)
    · exact hj_84_53 M_23 g_25 td _ _ _ iM_23 ((rf_I hM_23).trans q_15) (f0.trans (f0_I hM_23 (f0n ob_12.1 (by decide))) (f0_12 (o2_12 q_16))) ((tI_nE hM_23 (nk (by decide))).trans q_17) (ot.trans (ot_m ht (i_nt (x := x_1) rfl (by omega) (by omega)) hM_23) (ot_12 ht (o2_12 q_16) q_18.1)) ((tI_nE hM_23 (nk (by decide))).trans (((o2_12 q_16) t 4 (cls_ne (ob_t ht).1 ob_1.1 (by decide)) (cls_ne (ob_t ht).1 ob_2.1 (by decide))).trans ex_1.symm)) ((tT_uIE hM_23).trans ((tT_fr q_15).trans hT)) hs_24 tq_27 (by unfold pp_m2; rw [if_neg (fun q => absurd q.1 (by omega))]) rfl hw (lv_sub hl [0, 1] rfl)
    · refine lv_aload_n hx hb dX4_readMan_64 rfl (lv_at hl 1 rfl) ?_
      refine ti_get (ci := 4) (k := 1) (N := 6) (T := TX4) (v := .ref (A t 0)) C hw iw_4 rfl ob_1 (by decide) (by decide) fl_X4_28 rfl (ti_Tv ((tT_uIE hM_23).trans ((tT_fr q_15).trans hT))) dX4_readMan_65 ?_
      refine lv_aload_n hx hb dX4_readMan_68 rfl (lv_at hl 0 rfl) ?_
      refine ti_get (ci := 2) (k := 0) (N := 10) (T := TX2) C hw iw_2 rfl ob_12 (by decide) (by decide) fl_X4_105 rfl rfl dX4_readMan_69 ?_
      refine ti_top (y := x_22) (tI_uE hM_23) ?_
      refine ti_callVi (ci := 8) (av := [.int x_22]) C hw (x_X8_find l D A cy hJ M_23 iM_23 t ht x_22 B n g_25 hs_24) ⟨ml_X4_110, ym_X8_find, yv_X8_find, yi_X8_find, yc_X8_find⟩ yd_X8_find (ob_t ht) (by decide) rfl rfl hl.1 (Nat.le_of_ble_eq_true rfl) ⟨by decide, by decide⟩ ⟨Nat.zero_le _, Nat.zero_le _⟩ dX4_readMan_72 (fun r_30 M_31 H locs hp_31 hw => ?_)
      obtain ⟨hm, b0r_30, b1r_30, p0r_30⟩ := hp_31
      have hw := hw.to hm
      refine lv_iconst (v := (-1)) hx hb dX4_readMan_75 (by decide) ?_
      refine sb_icmp_eq (tgt := 84) hx hb rfl (by decide : ((-1) : Int32).toInt = (-1)) dX4_readMan_76 (by decide) (fun c_76_31 => ?_) (fun c_76_31 => ?_)
      · exact hj_84_53 M_23 g_25 td _ _ _ iM_23 ((rf_I hM_23).trans q_15) (f0.trans (f0_I hM_23 (f0n ob_12.1 (by decide))) (f0_12 (o2_12 q_16))) ((tI_nE hM_23 (nk (by decide))).trans q_17) (ot.trans (ot_m ht (i_nt (x := x_1) rfl (by omega) (by omega)) hM_23) (ot_12 ht (o2_12 q_16) q_18.1)) ((tI_nE hM_23 (nk (by decide))).trans (((o2_12 q_16) t 4 (cls_ne (ob_t ht).1 ob_1.1 (by decide)) (cls_ne (ob_t ht).1 ob_2.1 (by decide))).trans ex_1.symm)) ((tT_uIE hM_23).trans ((tT_fr q_15).trans hT)) hs_24 tq_27 (by unfold pp_m2; rw [if_neg (fun q => q.2 (by rw [show pp_fd g_25 (g_25 1) 0 = r_30.toInt by (rw [show g_25 1 = x_22.toInt by omega]; exact p0r_30.symm)]; omega))]) rfl hw (lv_sub hl [0, 1] rfl)
      · refine lv_aload_n hx hb dX4_readMan_79 rfl (lv_at hl 1 rfl) ?_
        refine lv_iconst (v := 3) hx hb dX4_readMan_80 (by decide) ?_
        refine ti_callVv (ci := 4) (av := [.int 3]) C hw (x_X4_refuse l D A cy hJ M_23 iM_23 t ht 3 B n g_25 hs_24) ⟨ml_X4_82, ym_X4_refuse, yv_X4_refuse, yi_X4_refuse, yc_X4_refuse⟩ yd_X4_refuse ob_1 (by decide) rfl rfl hl.1 (Nat.le_of_ble_eq_true rfl) ⟨by decide, by decide⟩ ⟨Nat.zero_le _, Nat.zero_le _⟩ dX4_readMan_81 (fun M_34 H locs hp_34 hw => ?_)
        obtain ⟨iM_34, q_35, q_36, q_37, q_38, p0r_33⟩ := hp_34
        have hlr_33_3 : (3 : Int32).toInt = 3 := by decide
        simp only [hlr_33_3] at p0r_33
        obtain ⟨g_39, eg_39⟩ : ∃ z : Nat → Int, z = pp_rf 3 g_25 := ⟨_, rfl⟩
        rw [← eg_39] at p0r_33
        have lg_39_0 : g_39 0 = (tI M_34 2 4).toInt := p0r_33.2.1.1
        have lg_39_1 : g_39 1 = (tI M_34 2 6).toInt := p0r_33.2.1.2.1
        have lg_39_4 : g_39 4 = (tI M_34 1 4).toInt := p0r_33.2.2.1.1
        have lg_39_7 : g_39 7 = (tI M_34 t 4).toInt := p0r_33.2.2.2.1.1
        have lg_39_8 : g_39 8 = (tI M_34 t 5).toInt := p0r_33.2.2.2.1.2.1
        have tq_40 : tq t td M_34 := tq_fr ht tq_27 q_36 q_38
        exact hj_84_53 M_34 g_39 td _ _ _ iM_34 ((q_35).trans ((rf_I hM_23).trans q_15)) (f0.trans (f0_12 q_36) (f0.trans (f0_I hM_23 (f0n ob_12.1 (by decide))) (f0_12 (o2_12 q_16)))) ((q_37).trans ((tI_nE hM_23 (nk (by decide))).trans q_17)) (ot.trans (ot_12 ht q_36 q_38) (ot.trans (ot_m ht (i_nt (x := x_1) rfl (by omega) (by omega)) hM_23) (ot_12 ht (o2_12 q_16) q_18.1))) ((q_36 t 4 (cls_ne (ob_t ht).1 ob_1.1 (by decide)) (cls_ne (ob_t ht).1 ob_2.1 (by decide))).trans ((tI_nE hM_23 (nk (by decide))).trans (((o2_12 q_16) t 4 (cls_ne (ob_t ht).1 ob_1.1 (by decide)) (cls_ne (ob_t ht).1 ob_2.1 (by decide))).trans ex_1.symm))) ((tT_fr q_35).trans ((tT_uIE hM_23).trans ((tT_fr q_15).trans hT))) p0r_33 tq_40 (by unfold pp_m2; rw [if_pos ⟨by omega, by rw [show pp_fd g_25 (g_25 1) 0 = r_30.toInt by (rw [show g_25 1 = x_22.toInt by omega]; exact p0r_30.symm)]; omega⟩, ← eg_39]) rfl hw (lv_sub hl [0, 1] rfl)
  · refine lv_aload_n hx hb dX4_readMan_12 rfl (lv_at hl 0 rfl) ?_
    refine lv_iconst (v := 2) hx hb dX4_readMan_13 (by decide) ?_
    refine ti_callVv (ci := 4) (av := [.int 2]) C hw (x_X4_refuse l D A cy hJ M hI t ht 2 B n rg hr) ⟨ml_X4_82, ym_X4_refuse, yv_X4_refuse, yi_X4_refuse, yc_X4_refuse⟩ yd_X4_refuse ob_1 (by decide) rfl rfl hl.1 (Nat.le_of_ble_eq_true rfl) ⟨by decide, by decide⟩ ⟨Nat.zero_le _, Nat.zero_le _⟩ dX4_readMan_14 (fun M_4 H locs hp_4 hw => ?_)
    obtain ⟨iM_4, q_5, q_6, q_7, q_8, p0r_3⟩ := hp_4
    have hlr_3_2 : (2 : Int32).toInt = 2 := by decide
    simp only [hlr_3_2] at p0r_3
    obtain ⟨g_9, eg_9⟩ : ∃ z : Nat → Int, z = pp_rf 2 rg := ⟨_, rfl⟩
    rw [← eg_9] at p0r_3
    have lg_9_0 : g_9 0 = (tI M_4 2 4).toInt := p0r_3.2.1.1
    have lg_9_1 : g_9 1 = (tI M_4 2 6).toInt := p0r_3.2.1.2.1
    have lg_9_4 : g_9 4 = (tI M_4 1 4).toInt := p0r_3.2.2.1.1
    have lg_9_7 : g_9 7 = (tI M_4 t 4).toInt := p0r_3.2.2.2.1.1
    have lg_9_8 : g_9 8 = (tI M_4 t 5).toInt := p0r_3.2.2.2.1.2.1
    have tq_10 : tq t td M_4 := tq_fr ht hq q_6 q_8
    exact hQ _ _ _ _ _ hw (⟨iM_4, (q_5), (f0_12 q_6), (q_7), (ot_12 ht q_6 q_8), (by unfold pp_mn; rw [if_neg (by omega), ← eg_9]; exact p0r_3), (by unfold qq_mn; rw [if_neg (by omega)]; exact tq_10)⟩) dX4_readMan_17
set_option maxHeartbeats 4000000 in
set_option maxRecDepth 100000 in
theorem x_X4_readPower (l : Launch) (D : va_G) (A : Nat → Nat → Nat) (cy : Nat → ClassId) (hJ : ti_inj ti_LT A) (M : ti_M) (hI : cI Tc M) (t : Nat) (ht : t = 3 ∨ t = 4) (hT : tT M 1 1 = some t) (B : Nat → Int) (n : Nat) (rg : Nat → Int) (hr : rC B n t rg M) (td : Nat → Int) (hq : tq t td M) : ti_KvE l yX4_readPower cX4_readPower 2 8 ti_LT D A cy M [.ref (A 1 0)] (fun M2 => cI Tc M2 ∧ M2.2.2.2 = M.2.2.2 ∧ f0 M2 M ∧ tI M2 2 1 = tI M 2 1 ∧ ot t M2 M ∧ rC B n t (pp_pw B n rg) M2 ∧ tq t (qq_pw B n rg td) M2) := by
  refine ti_eVE yp_X4_readPower hJ ti_LT_nd (Nat.le_of_ble_eq_true rfl) ?_
  intro p e s m args below meth c Q H0 C hE hQ hw ls hl
  have hx := C.1
  have hb := C.2.1
  have hl : lv_has ls 2 [(0, .ref (A 1 0))] := hl
  have l0 : rg 0 = (tI M 2 4).toInt := hr.2.1.1
  have l1 : rg 1 = (tI M 2 6).toInt := hr.2.1.2.1
  have l2 : rg 2 = (tI M 2 5).toInt := hr.2.1.2.2.1
  have l3 : rg 3 = (tI M 2 3).toInt := hr.2.1.2.2.2
  have l4 : rg 4 = (tI M 1 4).toInt := hr.2.2.1.1
  have l5 : rg 5 = (tI M 1 5).toInt := hr.2.2.1.2.1
  have l7 : rg 7 = (tI M t 4).toInt := hr.2.2.2.1.1
  have l8 : rg 8 = (tI M t 5).toInt := hr.2.2.2.1.2.1
  have l9 : rg 9 = (tI M t 3).toInt := hr.2.2.2.1.2.2
  refine lv_aload_n hx hb dX4_readPower_0 rfl (lv_at hl 0 rfl) ?_
  refine ti_get (ci := 4) (k := 0) (N := 6) (T := TX4) (v := .ref (A 2 0)) C hw iw_4 rfl ob_1 (by decide) (by decide) fl_X4_12 rfl rfl dX4_readPower_1 ?_
  refine ti_callVvE (ci := 7) (av := []) C hE hw (x_X7_advance l D A cy hJ M hI ) ⟨ml_X4_92, ym_X7_advance, yv_X7_advance, yi_X7_advance, yc_X7_advance⟩ yd_X7_advance ob_2 (by decide) rfl rfl hl.1 (Nat.le_of_ble_eq_true rfl) ⟨by decide, by decide⟩ ⟨Nat.zero_le _, Nat.zero_le _⟩ dX4_readPower_4 (fun M_2 H locs hp_2 hw => ?_)
  obtain ⟨iM_2, q_3, q_4, q_5, q_6, p0r_1, p1r_1, p2r_1, p3r_1⟩ := hp_2
  have hs_7 := rC_av ht hr q_6 q_4 p0r_1 p1r_1 p2r_1 p3r_1
  obtain ⟨g_8, eg_8⟩ : ∃ z : Nat → Int, z = pp_av B n rg := ⟨_, rfl⟩
  rw [← eg_8] at hs_7
  have lg_8_0 : g_8 0 = (tI M_2 2 4).toInt := hs_7.2.1.1
  have lg_8_1 : g_8 1 = (tI M_2 2 6).toInt := hs_7.2.1.2.1
  have lg_8_4 : g_8 4 = (tI M_2 1 4).toInt := hs_7.2.2.1.1
  have lg_8_7 : g_8 7 = (tI M_2 t 4).toInt := hs_7.2.2.2.1.1
  have lg_8_8 : g_8 8 = (tI M_2 t 5).toInt := hs_7.2.2.2.1.2.1
  have tq_9 : tq t td M_2 := tq_fr ht hq (o2_12 q_4) q_6.1
  refine lv_aload_n hx hb dX4_readPower_7 rfl (lv_at hl 0 rfl) ?_
  refine ti_get (ci := 4) (k := 0) (N := 6) (T := TX4) (v := .ref (A 2 0)) C hw iw_4 rfl ob_1 (by decide) (by decide) fl_X4_12 rfl rfl dX4_readPower_8 ?_
  refine ti_get (ci := 7) (k := 4) (N := 7) (T := TX7) C hw iw_7 rfl ob_2 (by decide) (by decide) fl_X4_41 rfl rfl dX4_readPower_11 ?_
  refine lv_topi (fun x_10 ex_10 => ?_)
  have bx_10 : 0 ≤ x_10.toInt ∧ x_10.toInt ≤ 41 := cI_rd iM_2 ob_2.1 ex_10
  have ux_10 : (tI M_2 2 4).toInt = x_10.toInt := by rw [ex_10]
  refine lv_istore_n (lv' := [(1, .int x_10), (0, .ref (A 1 0))]) hx hb dX4_readPower_14 rfl hl (by decide) rfl (fun ls hl => ?_)
  refine lv_iload_n hx hb dX4_readPower_15 rfl (lv_at hl 0 rfl) ?_
  refine lv_bipush (v := 9) hx hb dX4_readPower_16 (by decide) ?_
  refine sb_icmp_lt (tgt := 27) hx hb rfl (by decide : (9 : Int32).toInt = 9) dX4_readPower_18 (by decide) (fun c_18_10 => ?_) (fun c_18_10 => ?_)
  · refine lv_aload_n hx hb dX4_readPower_27 rfl (lv_at hl 1 rfl) ?_
    refine lv_iconst (v := 1) hx hb dX4_readPower_28 (by decide) ?_
    refine ti_callVv (ci := 4) (av := [.int 1]) C hw (x_X4_refuse l D A cy hJ M_2 iM_2 t ht 1 B n g_8 hs_7) ⟨ml_X4_82, ym_X4_refuse, yv_X4_refuse, yi_X4_refuse, yc_X4_refuse⟩ yd_X4_refuse ob_1 (by decide) rfl rfl hl.1 (Nat.le_of_ble_eq_true rfl) ⟨by decide, by decide⟩ ⟨Nat.zero_le _, Nat.zero_le _⟩ dX4_readPower_29 (fun M_14 H locs hp_14 hw => ?_)
    obtain ⟨iM_14, q_15, q_16, q_17, q_18, p0r_13⟩ := hp_14
    have hlr_13_1 : (1 : Int32).toInt = 1 := by decide
    simp only [hlr_13_1] at p0r_13
    obtain ⟨g_19, eg_19⟩ : ∃ z : Nat → Int, z = pp_rf 1 g_8 := ⟨_, rfl⟩
    rw [← eg_19] at p0r_13
    have lg_19_0 : g_19 0 = (tI M_14 2 4).toInt := p0r_13.2.1.1
    have lg_19_1 : g_19 1 = (tI M_14 2 6).toInt := p0r_13.2.1.2.1
    have lg_19_4 : g_19 4 = (tI M_14 1 4).toInt := p0r_13.2.2.1.1
    have lg_19_7 : g_19 7 = (tI M_14 t 4).toInt := p0r_13.2.2.2.1.1
    have lg_19_8 : g_19 8 = (tI M_14 t 5).toInt := p0r_13.2.2.2.1.2.1
    have tq_20 : tq t td M_14 := tq_fr ht tq_9 q_16 q_18
    exact hQ _ _ _ _ _ hw (⟨iM_14, ((q_15).trans q_3), (f0.trans (f0_12 q_16) (f0_12 (o2_12 q_4))), ((q_17).trans q_5), (ot.trans (ot_12 ht q_16 q_18) (ot_12 ht (o2_12 q_4) q_6.1)), (by unfold pp_pw; rw [← eg_8, if_neg (fun q => by omega), ← eg_19]; exact p0r_13), (by unfold qq_pw; rw [← eg_8, if_neg (fun q => by omega)]; exact tq_20)⟩) dX4_readPower_32
  · refine lv_iload_n hx hb dX4_readPower_21 rfl (lv_at hl 0 rfl) ?_
    refine lv_bipush (v := 11) hx hb dX4_readPower_22 (by decide) ?_
    refine sb_icmp_le (tgt := 33) hx hb rfl (by decide : (11 : Int32).toInt = 11) dX4_readPower_24 (by decide) (fun c_24_11 => ?_) (fun c_24_11 => ?_)
    · refine lv_aload_n hx hb dX4_readPower_33 rfl (lv_at hl 1 rfl) ?_
      refine ti_callVvE (ci := 4) (av := []) C hE hw (x_X4_once l D A cy hJ M_2 iM_2 t ht B n g_8 hs_7 (by omega)) ⟨ml_X4_53, ym_X4_once, yv_X4_once, yi_X4_once, yc_X4_once⟩ yd_X4_once ob_1 (by decide) rfl rfl hl.1 (Nat.le_of_ble_eq_true rfl) ⟨by decide, by decide⟩ ⟨Nat.zero_le _, Nat.zero_le _⟩ dX4_readPower_34 (fun M_30 H locs hp_30 hw => ?_)
      obtain ⟨iM_30, q_31, q_32, q_33, q_34, p0r_29⟩ := hp_30
      obtain ⟨g_35, eg_35⟩ : ∃ z : Nat → Int, z = pp_on B n g_8 := ⟨_, rfl⟩
      rw [← eg_35] at p0r_29
      have lg_35_0 : g_35 0 = (tI M_30 2 4).toInt := p0r_29.2.1.1
      have lg_35_1 : g_35 1 = (tI M_30 2 6).toInt := p0r_29.2.1.2.1
      have lg_35_4 : g_35 4 = (tI M_30 1 4).toInt := p0r_29.2.2.1.1
      have lg_35_7 : g_35 7 = (tI M_30 t 4).toInt := p0r_29.2.2.2.1.1
      have lg_35_8 : g_35 8 = (tI M_30 t 5).toInt := p0r_29.2.2.2.1.2.1
      have tq_36 : tq t td M_30 := tq_fr ht tq_9 q_32 q_34
      refine lv_aload_n hx hb dX4_readPower_37 rfl (lv_at hl 1 rfl) ?_
      refine ti_get (ci := 4) (k := 1) (N := 6) (T := TX4) (v := .ref (A t 0)) C hw iw_4 rfl ob_1 (by decide) (by decide) fl_X4_28 rfl (ti_Tv ((tT_fr q_31).trans ((tT_fr q_3).trans hT))) dX4_readPower_38 ?_
      refine ti_get (ci := 8) (k := 1) (N := 12) (T := TX8) (v := .ref (A t 2)) C hw iw_8 rfl (ob_t ht) (by decide) (by decide) fl_X4_146 rfl rfl dX4_readPower_41 ?_
      refine lv_iload_n hx hb dX4_readPower_44 rfl (lv_at hl 0 rfl) ?_
      refine lv_bipush (v := 9) hx hb dX4_readPower_45 (by decide) ?_
      refine lv_isub hx hb dX4_readPower_47 ?_
      refine lv_topi (fun x_37 ex_37 => ?_)
      have tx_37 : x_37.toInt = x_10.toInt - 9 := i_sub ex_37 rfl (by decide : (9 : Int32).toInt = 9) (by omega) (by omega)
      refine lv_aload_n hx hb dX4_readPower_48 rfl (lv_at hl 1 rfl) ?_
      refine lv_iconst (v := 0) hx hb dX4_readPower_49 (by decide) ?_
      refine lv_bipush (v := 7) hx hb dX4_readPower_50 (by decide) ?_
      refine ti_callViE (ci := 4) (av := [.int 0, .int 7]) C hE hw (x_X4_number l D A cy hJ M_30 iM_30 t ht 0 7 B n g_35 p0r_29) ⟨ml_X4_56, ym_X4_number, yv_X4_number, yi_X4_number, yc_X4_number⟩ yd_X4_number ob_1 (by decide) rfl rfl hl.1 (Nat.le_of_ble_eq_true rfl) ⟨by decide, by decide⟩ ⟨Nat.zero_le _, Nat.zero_le _⟩ dX4_readPower_52 (fun r_38 M_39 H locs hp_39 hw => ?_)
      obtain ⟨iM_39, q_40, q_41, q_42, q_43, p0r_38, p1r_38⟩ := hp_39
      have hlr_38_0 : (0 : Int32).toInt = 0 := by decide
      have hlr_38_7 : (7 : Int32).toInt = 7 := by decide
      simp only [hlr_38_0, hlr_38_7] at p1r_38
      obtain ⟨g_44, eg_44⟩ : ∃ z : Nat → Int, z = pp_nb B n 0 7 g_35 := ⟨_, rfl⟩
      rw [← eg_44] at p1r_38
      have lg_44_0 : g_44 0 = (tI M_39 2 4).toInt := p1r_38.2.1.1
      have lg_44_1 : g_44 1 = (tI M_39 2 6).toInt := p1r_38.2.1.2.1
      have lg_44_4 : g_44 4 = (tI M_39 1 4).toInt := p1r_38.2.2.1.1
      have lg_44_7 : g_44 7 = (tI M_39 t 4).toInt := p1r_38.2.2.2.1.1
      have lg_44_8 : g_44 8 = (tI M_39 t 5).toInt := p1r_38.2.2.2.1.2.1
      have tq_45 : tq t td M_39 := tq_fr ht tq_36 q_41 q_43
      refine ti_iast (ci := 8) (k := 1) (n := 3) C hw (ob_t ht) (by decide) (fun _ _ => rfl) (vp_in_iff.mpr (by omega)) dX4_readPower_55 (fun H locs hw => ?_)
      obtain ⟨M_46, hM_46⟩ : ∃ z : ti_M, z = uY M_39 t 1 (upd (tY M_39 t 1) (x_37 : Int32).toNatClampNeg r_38) := ⟨_, rfl⟩
      have hw := hw.to hM_46.symm
      have iM_46 : cI Tc M_46 := cI_up iM_39 hM_46 (ob_t ht).1 trivial
      have hs_47 := rC_Y hM_46 (no (cls_ne ob_2.1 (ob_t ht).1 (by decide))) p1r_38
      have lM_46_0 : g_44 0 = (tI M_46 2 4).toInt := hs_47.2.1.1
      have lM_46_1 : g_44 1 = (tI M_46 2 6).toInt := hs_47.2.1.2.1
      have lM_46_4 : g_44 4 = (tI M_46 1 4).toInt := hs_47.2.2.1.1
      have lM_46_7 : g_44 7 = (tI M_46 t 4).toInt := hs_47.2.2.2.1.1
      have lM_46_8 : g_44 8 = (tI M_46 t 5).toInt := hs_47.2.2.2.1.2.1
      have tq_48 : tq t (pp_su td (32 + x_37.toInt.toNat) r_38.toInt) M_46 := tq_Y1 (z := x_37) ht tq_45 (by omega) (by omega) rfl hM_46
      obtain ⟨d_49, ed_49⟩ : ∃ z : Nat → Int, z = pp_su td (32 + x_37.toInt.toNat) r_38.toInt := ⟨_, rfl⟩
      rw [← ed_49] at tq_48
      exact hQ _ _ _ _ _ hw (⟨iM_46, ((rf_Y hM_46).trans ((q_40).trans ((q_31).trans q_3))), (f0.trans (f0_of (ra_Y hM_46)) (f0.trans (f0_12 q_41) (f0.trans (f0_12 q_32) (f0_12 (o2_12 q_4))))), ((tI_uYE hM_46).trans ((q_42).trans ((q_33).trans q_5))), (ot.trans (ot_Yt ht hM_46) (ot.trans (ot_12 ht q_41 q_43) (ot.trans (ot_12 ht q_32 q_34) (ot_12 ht (o2_12 q_4) q_6.1)))), (by unfold pp_pw; rw [← eg_8, if_pos ⟨by omega, by omega⟩, ← eg_35, ← eg_44]; exact hs_47), (by unfold qq_pw; rw [← eg_8, if_pos ⟨by omega, by omega⟩, ← eg_35, ← p0r_38, show (g_8 0 - 9).toNat = x_37.toInt.toNat by omega, ← ed_49]; exact tq_48)⟩) dX4_readPower_56
    · refine lv_aload_n hx hb dX4_readPower_27 rfl (lv_at hl 1 rfl) ?_
      refine lv_iconst (v := 1) hx hb dX4_readPower_28 (by decide) ?_
      refine ti_callVv (ci := 4) (av := [.int 1]) C hw (x_X4_refuse l D A cy hJ M_2 iM_2 t ht 1 B n g_8 hs_7) ⟨ml_X4_82, ym_X4_refuse, yv_X4_refuse, yi_X4_refuse, yc_X4_refuse⟩ yd_X4_refuse ob_1 (by decide) rfl rfl hl.1 (Nat.le_of_ble_eq_true rfl) ⟨by decide, by decide⟩ ⟨Nat.zero_le _, Nat.zero_le _⟩ dX4_readPower_29 (fun M_22 H locs hp_22 hw => ?_)
      obtain ⟨iM_22, q_23, q_24, q_25, q_26, p0r_21⟩ := hp_22
      have hlr_21_1 : (1 : Int32).toInt = 1 := by decide
      simp only [hlr_21_1] at p0r_21
      obtain ⟨g_27, eg_27⟩ : ∃ z : Nat → Int, z = pp_rf 1 g_8 := ⟨_, rfl⟩
      rw [← eg_27] at p0r_21
      have lg_27_0 : g_27 0 = (tI M_22 2 4).toInt := p0r_21.2.1.1
      have lg_27_1 : g_27 1 = (tI M_22 2 6).toInt := p0r_21.2.1.2.1
      have lg_27_4 : g_27 4 = (tI M_22 1 4).toInt := p0r_21.2.2.1.1
      have lg_27_7 : g_27 7 = (tI M_22 t 4).toInt := p0r_21.2.2.2.1.1
      have lg_27_8 : g_27 8 = (tI M_22 t 5).toInt := p0r_21.2.2.2.1.2.1
      have tq_28 : tq t td M_22 := tq_fr ht tq_9 q_24 q_26
      exact hQ _ _ _ _ _ hw (⟨iM_22, ((q_23).trans q_3), (f0.trans (f0_12 q_24) (f0_12 (o2_12 q_4))), ((q_25).trans q_5), (ot.trans (ot_12 ht q_24 q_26) (ot_12 ht (o2_12 q_4) q_6.1)), (by unfold pp_pw; rw [← eg_8, if_neg (fun q => by omega), ← eg_27]; exact p0r_21), (by unfold qq_pw; rw [← eg_8, if_neg (fun q => by omega)]; exact tq_28)⟩) dX4_readPower_32
set_option maxHeartbeats 4000000 in
set_option maxRecDepth 100000 in
theorem x_X4_readGuard (l : Launch) (D : va_G) (A : Nat → Nat → Nat) (cy : Nat → ClassId) (hJ : ti_inj ti_LT A) (M : ti_M) (hI : cI Tc M) (t : Nat) (ht : t = 3 ∨ t = 4) (hT : tT M 1 1 = some t) (B : Nat → Int) (n : Nat) (rg : Nat → Int) (hr : rC B n t rg M) (td : Nat → Int) (hq : tq t td M) : ti_KvE l yX4_readGuard cX4_readGuard 3 8 ti_LT D A cy M [.ref (A 1 0)] (fun M2 => cI Tc M2 ∧ M2.2.2.2 = M.2.2.2 ∧ f0 M2 M ∧ tI M2 2 1 = tI M 2 1 ∧ ot t M2 M ∧ rC B n t (pp_gd B n rg) M2 ∧ tq t (td) M2) := by
  refine ti_eVE yp_X4_readGuard hJ ti_LT_nd (Nat.le_of_ble_eq_true rfl) ?_
  intro p e s m args below meth c Q H0 C hE hQ hw ls hl
  have hx := C.1
  have hb := C.2.1
  have hl : lv_has ls 3 [(0, .ref (A 1 0))] := hl
  have l0 : rg 0 = (tI M 2 4).toInt := hr.2.1.1
  have l1 : rg 1 = (tI M 2 6).toInt := hr.2.1.2.1
  have l2 : rg 2 = (tI M 2 5).toInt := hr.2.1.2.2.1
  have l3 : rg 3 = (tI M 2 3).toInt := hr.2.1.2.2.2
  have l4 : rg 4 = (tI M 1 4).toInt := hr.2.2.1.1
  have l5 : rg 5 = (tI M 1 5).toInt := hr.2.2.1.2.1
  have l7 : rg 7 = (tI M t 4).toInt := hr.2.2.2.1.1
  have l8 : rg 8 = (tI M t 5).toInt := hr.2.2.2.1.2.1
  have l9 : rg 9 = (tI M t 3).toInt := hr.2.2.2.1.2.2
  refine lv_aload_n hx hb dX4_readGuard_0 rfl (lv_at hl 0 rfl) ?_
  refine ti_get (ci := 4) (k := 0) (N := 6) (T := TX4) (v := .ref (A 2 0)) C hw iw_4 rfl ob_1 (by decide) (by decide) fl_X4_12 rfl rfl dX4_readGuard_1 ?_
  refine ti_callVvE (ci := 7) (av := []) C hE hw (x_X7_advance l D A cy hJ M hI ) ⟨ml_X4_92, ym_X7_advance, yv_X7_advance, yi_X7_advance, yc_X7_advance⟩ yd_X7_advance ob_2 (by decide) rfl rfl hl.1 (Nat.le_of_ble_eq_true rfl) ⟨by decide, by decide⟩ ⟨Nat.zero_le _, Nat.zero_le _⟩ dX4_readGuard_4 (fun M_2 H locs hp_2 hw => ?_)
  obtain ⟨iM_2, q_3, q_4, q_5, q_6, p0r_1, p1r_1, p2r_1, p3r_1⟩ := hp_2
  have hs_7 := rC_av ht hr q_6 q_4 p0r_1 p1r_1 p2r_1 p3r_1
  obtain ⟨g_8, eg_8⟩ : ∃ z : Nat → Int, z = pp_av B n rg := ⟨_, rfl⟩
  rw [← eg_8] at hs_7
  have lg_8_0 : g_8 0 = (tI M_2 2 4).toInt := hs_7.2.1.1
  have lg_8_1 : g_8 1 = (tI M_2 2 6).toInt := hs_7.2.1.2.1
  have lg_8_4 : g_8 4 = (tI M_2 1 4).toInt := hs_7.2.2.1.1
  have lg_8_7 : g_8 7 = (tI M_2 t 4).toInt := hs_7.2.2.2.1.1
  have lg_8_8 : g_8 8 = (tI M_2 t 5).toInt := hs_7.2.2.2.1.2.1
  have tq_9 : tq t td M_2 := tq_fr ht hq (o2_12 q_4) q_6.1
  refine lv_aload_n hx hb dX4_readGuard_7 rfl (lv_at hl 0 rfl) ?_
  refine ti_callVi (ci := 4) (av := []) C hw (x_X4_toldMan l D A cy hJ M_2 iM_2 t ht ((tT_fr q_3).trans hT) B n g_8 hs_7) ⟨ml_X4_142, ym_X4_toldMan, yv_X4_toldMan, yi_X4_toldMan, yc_X4_toldMan⟩ yd_X4_toldMan ob_1 (by decide) rfl rfl hl.1 (Nat.le_of_ble_eq_true rfl) ⟨by decide, by decide⟩ ⟨Nat.zero_le _, Nat.zero_le _⟩ dX4_readGuard_8 (fun r_10 M_11 H locs hp_11 hw => ?_)
  obtain ⟨iM_11, q_12, q_13, q_14, q_15, b0r_10, b1r_10, p0r_10, p1r_10⟩ := hp_11
  obtain ⟨g_16, eg_16⟩ : ∃ z : Nat → Int, z = pp_tm g_8 := ⟨_, rfl⟩
  rw [← eg_16] at p1r_10
  have lg_16_0 : g_16 0 = (tI M_11 2 4).toInt := p1r_10.2.1.1
  have lg_16_1 : g_16 1 = (tI M_11 2 6).toInt := p1r_10.2.1.2.1
  have lg_16_4 : g_16 4 = (tI M_11 1 4).toInt := p1r_10.2.2.1.1
  have lg_16_7 : g_16 7 = (tI M_11 t 4).toInt := p1r_10.2.2.2.1.1
  have lg_16_8 : g_16 8 = (tI M_11 t 5).toInt := p1r_10.2.2.2.1.2.1
  have tq_17 : tq t td M_11 := tq_fr ht tq_9 q_13 q_15
  refine lv_istore_n (lv' := [(1, .int r_10), (0, .ref (A 1 0))]) hx hb dX4_readGuard_11 rfl hl (by decide) rfl (fun ls hl => ?_)
  refine lv_iload_n hx hb dX4_readGuard_12 rfl (lv_at hl 0 rfl) ?_
  refine lv_iconst (v := (-1)) hx hb dX4_readGuard_13 (by decide) ?_
  refine sb_icmp_ne (tgt := 18) hx hb rfl (by decide : ((-1) : Int32).toInt = (-1)) dX4_readGuard_14 (by decide) (fun c_14_17 => ?_) (fun c_14_17 => ?_)
  · refine lv_aload_n hx hb dX4_readGuard_18 rfl (lv_at hl 1 rfl) ?_
    refine ti_get (ci := 4) (k := 1) (N := 6) (T := TX4) (v := .ref (A t 0)) C hw iw_4 rfl ob_1 (by decide) (by decide) fl_X4_28 rfl (ti_Tv ((tT_fr q_12).trans ((tT_fr q_3).trans hT))) dX4_readGuard_19 ?_
    refine ti_get (ci := 8) (k := 0) (N := 12) (T := TX8) (v := .ref (A t 1)) C hw iw_8 rfl (ob_t ht) (by decide) (by decide) fl_X4_101 rfl rfl dX4_readGuard_22 ?_
    refine lv_iload_n hx hb dX4_readGuard_25 rfl (lv_at hl 0 rfl) ?_
    refine ti_aald (ci := 8) (k := 0) (n := 8) (t0 := 5) (Cn := RX2) (gg := (ti_men t)) (j := r_10.toNatClampNeg) C hw (ob_t ht) (by decide) (fun _ _ => rfl) rfl (vp_in_iff.mpr (by omega)) rfl dX4_readGuard_26 ?_
    have ob_19 : ti_ob ti_LT (ti_men t r_10.toNatClampNeg) 2 := ob_m ht (i_nt rfl (by omega) (by omega))
    refine ti_get (ci := 2) (k := 9) (N := 10) (T := TX2) C hw iw_2 rfl ob_19 (by decide) (by decide) fl_X4_139 rfl rfl dX4_readGuard_27 ?_
    refine lv_topi (fun x_20 ex_20 => ?_)
    have u_21 : (tI M_11 (ti_men t r_10.toNatClampNeg) 9).toInt = x_20.toInt := by rw [ex_20]
    have gu : g_16 (200 + r_10.toInt.toNat) = x_20.toInt := by rw [ex_20]; exact (p1r_10.2.2.2.2 r_10.toInt.toNat (by omega)).2
    refine lv_iconst (v := (-1)) hx hb dX4_readGuard_30 (by decide) ?_
    refine sb_icmp_eq (tgt := 39) hx hb rfl (by decide : ((-1) : Int32).toInt = (-1)) dX4_readGuard_31 (by decide) (fun c_31_21 => ?_) (fun c_31_21 => ?_)
    · refine lv_aload_n hx hb dX4_readGuard_39 rfl (lv_at hl 1 rfl) ?_
      refine lv_bipush (v := 25) hx hb dX4_readGuard_40 (by decide) ?_
      refine ti_callVvE (ci := 4) (av := [.int 25]) C hE hw (x_X4_take l D A cy hJ M_11 iM_11 t ht 25 B n g_16 p1r_10) ⟨ml_X4_85, ym_X4_take, yv_X4_take, yi_X4_take, yc_X4_take⟩ yd_X4_take ob_1 (by decide) rfl rfl hl.1 (Nat.le_of_ble_eq_true rfl) ⟨by decide, by decide⟩ ⟨Nat.zero_le _, Nat.zero_le _⟩ dX4_readGuard_42 (fun M_32 H locs hp_32 hw => ?_)
      obtain ⟨iM_32, q_33, q_34, q_35, q_36, p0r_31⟩ := hp_32
      have hlr_31_25 : (25 : Int32).toInt = 25 := by decide
      simp only [hlr_31_25] at p0r_31
      obtain ⟨g_37, eg_37⟩ : ∃ z : Nat → Int, z = pp_tk B n 25 g_16 := ⟨_, rfl⟩
      rw [← eg_37] at p0r_31
      have lg_37_0 : g_37 0 = (tI M_32 2 4).toInt := p0r_31.2.1.1
      have lg_37_1 : g_37 1 = (tI M_32 2 6).toInt := p0r_31.2.1.2.1
      have lg_37_4 : g_37 4 = (tI M_32 1 4).toInt := p0r_31.2.2.1.1
      have lg_37_7 : g_37 7 = (tI M_32 t 4).toInt := p0r_31.2.2.2.1.1
      have lg_37_8 : g_37 8 = (tI M_32 t 5).toInt := p0r_31.2.2.2.1.2.1
      have tq_38 : tq t td M_32 := tq_fr ht tq_17 q_34 q_36
      refine lv_aload_n hx hb dX4_readGuard_45 rfl (lv_at hl 1 rfl) ?_
      refine ti_callVi (ci := 4) (av := []) C hw (x_X4_toldMan l D A cy hJ M_32 iM_32 t ht ((tT_fr q_33).trans ((tT_fr q_12).trans ((tT_fr q_3).trans hT))) B n g_37 p0r_31) ⟨ml_X4_142, ym_X4_toldMan, yv_X4_toldMan, yi_X4_toldMan, yc_X4_toldMan⟩ yd_X4_toldMan ob_1 (by decide) rfl rfl hl.1 (Nat.le_of_ble_eq_true rfl) ⟨by decide, by decide⟩ ⟨Nat.zero_le _, Nat.zero_le _⟩ dX4_readGuard_46 (fun r_39 M_40 H locs hp_40 hw => ?_)
      obtain ⟨iM_40, q_41, q_42, q_43, q_44, b0r_39, b1r_39, p0r_39, p1r_39⟩ := hp_40
      obtain ⟨g_45, eg_45⟩ : ∃ z : Nat → Int, z = pp_tm g_37 := ⟨_, rfl⟩
      rw [← eg_45] at p1r_39
      have lg_45_0 : g_45 0 = (tI M_40 2 4).toInt := p1r_39.2.1.1
      have lg_45_1 : g_45 1 = (tI M_40 2 6).toInt := p1r_39.2.1.2.1
      have lg_45_4 : g_45 4 = (tI M_40 1 4).toInt := p1r_39.2.2.1.1
      have lg_45_7 : g_45 7 = (tI M_40 t 4).toInt := p1r_39.2.2.2.1.1
      have lg_45_8 : g_45 8 = (tI M_40 t 5).toInt := p1r_39.2.2.2.1.2.1
      have tq_46 : tq t td M_40 := tq_fr ht tq_38 q_42 q_44
      refine lv_istore_n (lv' := [(2, .int r_39), (1, .int r_10), (0, .ref (A 1 0))]) hx hb dX4_readGuard_49 rfl hl (by decide) rfl (fun ls hl => ?_)
      refine lv_iload_n hx hb dX4_readGuard_50 rfl (lv_at hl 0 rfl) ?_
      refine lv_iload_n hx hb dX4_readGuard_51 rfl (lv_at hl 1 rfl) ?_
      refine sb_icmp_ne (tgt := 60) hx hb rfl rfl dX4_readGuard_52 (by decide) (fun c_52_46 => ?_) (fun c_52_46 => ?_)
      · refine lv_aload_n hx hb dX4_readGuard_60 rfl (lv_at hl 2 rfl) ?_
        refine lv_bipush (v := 25) hx hb dX4_readGuard_61 (by decide) ?_
        refine ti_callVvE (ci := 4) (av := [.int 25]) C hE hw (x_X4_take l D A cy hJ M_40 iM_40 t ht 25 B n g_45 p1r_39) ⟨ml_X4_85, ym_X4_take, yv_X4_take, yi_X4_take, yc_X4_take⟩ yd_X4_take ob_1 (by decide) rfl rfl hl.1 (Nat.le_of_ble_eq_true rfl) ⟨by decide, by decide⟩ ⟨Nat.zero_le _, Nat.zero_le _⟩ dX4_readGuard_63 (fun M_82 H locs hp_82 hw => ?_)
        obtain ⟨iM_82, q_83, q_84, q_85, q_86, p0r_81⟩ := hp_82
        have hlr_81_25 : (25 : Int32).toInt = 25 := by decide
        simp only [hlr_81_25] at p0r_81
        obtain ⟨g_87, eg_87⟩ : ∃ z : Nat → Int, z = pp_tk B n 25 g_45 := ⟨_, rfl⟩
        rw [← eg_87] at p0r_81
        have lg_87_0 : g_87 0 = (tI M_82 2 4).toInt := p0r_81.2.1.1
        have lg_87_1 : g_87 1 = (tI M_82 2 6).toInt := p0r_81.2.1.2.1
        have lg_87_4 : g_87 4 = (tI M_82 1 4).toInt := p0r_81.2.2.1.1
        have lg_87_7 : g_87 7 = (tI M_82 t 4).toInt := p0r_81.2.2.2.1.1
        have lg_87_8 : g_87 8 = (tI M_82 t 5).toInt := p0r_81.2.2.2.1.2.1
        have tq_88 : tq t td M_82 := tq_fr ht tq_46 q_84 q_86
        refine lv_aload_n hx hb dX4_readGuard_66 rfl (lv_at hl 2 rfl) ?_
        refine ti_get (ci := 4) (k := 1) (N := 6) (T := TX4) (v := .ref (A t 0)) C hw iw_4 rfl ob_1 (by decide) (by decide) fl_X4_28 rfl (ti_Tv ((tT_fr q_83).trans ((tT_fr q_41).trans ((tT_fr q_33).trans ((tT_fr q_12).trans ((tT_fr q_3).trans hT)))))) dX4_readGuard_67 ?_
        refine ti_get (ci := 8) (k := 0) (N := 12) (T := TX8) (v := .ref (A t 1)) C hw iw_8 rfl (ob_t ht) (by decide) (by decide) fl_X4_101 rfl rfl dX4_readGuard_70 ?_
        refine lv_iload_n hx hb dX4_readGuard_73 rfl (lv_at hl 1 rfl) ?_
        refine ti_aald (ci := 8) (k := 0) (n := 8) (t0 := 5) (Cn := RX2) (gg := (ti_men t)) (j := r_10.toNatClampNeg) C hw (ob_t ht) (by decide) (fun _ _ => rfl) rfl (vp_in_iff.mpr (by omega)) rfl dX4_readGuard_74 ?_
        refine lv_iload_n hx hb dX4_readGuard_75 rfl (lv_at hl 0 rfl) ?_
        refine ti_putI (ci := 2) (k := 9) (N := 10) (T := TX2) C hw iw_2 tyX2 tyX2_ok nmX2 rfl ob_19 (by decide) (by decide) fl_X4_139 rfl rfl rfl rfl (fn_2 A _) fs_2_9 dX4_readGuard_76 (fun H locs hw => ?_)
        obtain ⟨M_89, hM_89⟩ : ∃ z : ti_M, z = uI M_82 (ti_men t r_10.toNatClampNeg) 9 r_39 := ⟨_, rfl⟩
        have hw := hw.to hM_89.symm
        have iM_89 : cI Tc M_89 := cI_uI iM_82 hM_89 ob_19.1 trivial
        have hs_90 := rC_m9 (j := r_10.toNatClampNeg) ht (i_nt (x := r_10) rfl (by omega) (by omega)) hM_89 p0r_81
        obtain ⟨g_91, eg_91⟩ : ∃ z : Nat → Int, z = pp_su g_87 (200 + r_10.toNatClampNeg) r_39.toInt := ⟨_, rfl⟩
        rw [← eg_91] at hs_90
        have lg_91_0 : g_91 0 = (tI M_89 2 4).toInt := hs_90.2.1.1
        have lg_91_1 : g_91 1 = (tI M_89 2 6).toInt := hs_90.2.1.2.1
        have lg_91_4 : g_91 4 = (tI M_89 1 4).toInt := hs_90.2.2.1.1
        have lg_91_7 : g_91 7 = (tI M_89 t 4).toInt := hs_90.2.2.2.1.1
        have lg_91_8 : g_91 8 = (tI M_89 t 5).toInt := hs_90.2.2.2.1.2.1
        have tq_93 : tq t td M_89 := tq_m0 ht (i_nt (x := r_10) rfl (by omega) (by omega)) tq_88 hM_89 (by decide)
        have E1 : pp_g1 B n r_10.toInt g_16 = g_37 := by unfold pp_g1; rw [if_pos (by rw [gu]; omega), ← eg_37]
        have E2 : pp_g3 B n r_10.toInt g_37 = g_91 := by unfold pp_g3; rw [show pp_tv g_37 = r_39.toInt from p0r_39.symm, ← eg_45]; unfold pp_g2; rw [if_neg (by omega), show r_10.toInt.toNat = r_10.toNatClampNeg from rfl, ← eg_87, ← eg_91]
        exact hQ _ _ _ _ _ hw (⟨iM_89, ((rf_I hM_89).trans ((q_83).trans ((q_41).trans ((q_33).trans ((q_12).trans q_3))))), (f0.trans (f0_I hM_89 (f0n ob_19.1 (by decide))) (f0.trans (f0_12 q_84) (f0.trans (f0_12 q_42) (f0.trans (f0_12 q_34) (f0.trans (f0_12 q_13) (f0_12 (o2_12 q_4))))))), ((tI_nE hM_89 (nk (by decide))).trans ((q_85).trans ((q_43).trans ((q_35).trans ((q_14).trans q_5))))), (ot.trans (ot_m ht (i_nt (x := r_10) rfl (by omega) (by omega)) hM_89) (ot.trans (ot_12 ht q_84 q_86) (ot.trans (ot_12 ht q_42 q_44) (ot.trans (ot_12 ht q_34 q_36) (ot.trans (ot_12 ht q_13 q_15) (ot_12 ht (o2_12 q_4) q_6.1)))))), (by unfold pp_gd; rw [← eg_8, ← eg_16, show pp_tv g_8 = r_10.toInt from p0r_10.symm, if_neg (by omega), E1, E2]; exact hs_90), tq_93⟩) dX4_readGuard_79
      · refine lv_aload_n hx hb dX4_readGuard_55 rfl (lv_at hl 2 rfl) ?_
        refine lv_iconst (v := 5) hx hb dX4_readGuard_56 (by decide) ?_
        refine ti_callVv (ci := 4) (av := [.int 5]) C hw (x_X4_refuse l D A cy hJ M_40 iM_40 t ht 5 B n g_45 p1r_39) ⟨ml_X4_82, ym_X4_refuse, yv_X4_refuse, yi_X4_refuse, yc_X4_refuse⟩ yd_X4_refuse ob_1 (by decide) rfl rfl hl.1 (Nat.le_of_ble_eq_true rfl) ⟨by decide, by decide⟩ ⟨Nat.zero_le _, Nat.zero_le _⟩ dX4_readGuard_57 (fun M_66 H locs hp_66 hw => ?_)
        obtain ⟨iM_66, q_67, q_68, q_69, q_70, p0r_65⟩ := hp_66
        have hlr_65_5 : (5 : Int32).toInt = 5 := by decide
        simp only [hlr_65_5] at p0r_65
        obtain ⟨g_71, eg_71⟩ : ∃ z : Nat → Int, z = pp_rf 5 g_45 := ⟨_, rfl⟩
        rw [← eg_71] at p0r_65
        have lg_71_0 : g_71 0 = (tI M_66 2 4).toInt := p0r_65.2.1.1
        have lg_71_1 : g_71 1 = (tI M_66 2 6).toInt := p0r_65.2.1.2.1
        have lg_71_4 : g_71 4 = (tI M_66 1 4).toInt := p0r_65.2.2.1.1
        have lg_71_7 : g_71 7 = (tI M_66 t 4).toInt := p0r_65.2.2.2.1.1
        have lg_71_8 : g_71 8 = (tI M_66 t 5).toInt := p0r_65.2.2.2.1.2.1
        have tq_72 : tq t td M_66 := tq_fr ht tq_46 q_68 q_70
        refine lv_aload_n hx hb dX4_readGuard_60 rfl (lv_at hl 2 rfl) ?_
        refine lv_bipush (v := 25) hx hb dX4_readGuard_61 (by decide) ?_
        refine ti_callVvE (ci := 4) (av := [.int 25]) C hE hw (x_X4_take l D A cy hJ M_66 iM_66 t ht 25 B n g_71 p0r_65) ⟨ml_X4_85, ym_X4_take, yv_X4_take, yi_X4_take, yc_X4_take⟩ yd_X4_take ob_1 (by decide) rfl rfl hl.1 (Nat.le_of_ble_eq_true rfl) ⟨by decide, by decide⟩ ⟨Nat.zero_le _, Nat.zero_le _⟩ dX4_readGuard_63 (fun M_108 H locs hp_108 hw => ?_)
        obtain ⟨iM_108, q_109, q_110, q_111, q_112, p0r_107⟩ := hp_108
        have hlr_107_25 : (25 : Int32).toInt = 25 := by decide
        simp only [hlr_107_25] at p0r_107
        obtain ⟨g_113, eg_113⟩ : ∃ z : Nat → Int, z = pp_tk B n 25 g_71 := ⟨_, rfl⟩
        rw [← eg_113] at p0r_107
        have lg_113_0 : g_113 0 = (tI M_108 2 4).toInt := p0r_107.2.1.1
        have lg_113_1 : g_113 1 = (tI M_108 2 6).toInt := p0r_107.2.1.2.1
        have lg_113_4 : g_113 4 = (tI M_108 1 4).toInt := p0r_107.2.2.1.1
        have lg_113_7 : g_113 7 = (tI M_108 t 4).toInt := p0r_107.2.2.2.1.1
        have lg_113_8 : g_113 8 = (tI M_108 t 5).toInt := p0r_107.2.2.2.1.2.1
        have tq_114 : tq t td M_108 := tq_fr ht tq_72 q_110 q_112
        refine lv_aload_n hx hb dX4_readGuard_66 rfl (lv_at hl 2 rfl) ?_
        refine ti_get (ci := 4) (k := 1) (N := 6) (T := TX4) (v := .ref (A t 0)) C hw iw_4 rfl ob_1 (by decide) (by decide) fl_X4_28 rfl (ti_Tv ((tT_fr q_109).trans ((tT_fr q_67).trans ((tT_fr q_41).trans ((tT_fr q_33).trans ((tT_fr q_12).trans ((tT_fr q_3).trans hT))))))) dX4_readGuard_67 ?_
        refine ti_get (ci := 8) (k := 0) (N := 12) (T := TX8) (v := .ref (A t 1)) C hw iw_8 rfl (ob_t ht) (by decide) (by decide) fl_X4_101 rfl rfl dX4_readGuard_70 ?_
        refine lv_iload_n hx hb dX4_readGuard_73 rfl (lv_at hl 1 rfl) ?_
        refine ti_aald (ci := 8) (k := 0) (n := 8) (t0 := 5) (Cn := RX2) (gg := (ti_men t)) (j := r_10.toNatClampNeg) C hw (ob_t ht) (by decide) (fun _ _ => rfl) rfl (vp_in_iff.mpr (by omega)) rfl dX4_readGuard_74 ?_
        refine lv_iload_n hx hb dX4_readGuard_75 rfl (lv_at hl 0 rfl) ?_
        refine ti_putI (ci := 2) (k := 9) (N := 10) (T := TX2) C hw iw_2 tyX2 tyX2_ok nmX2 rfl ob_19 (by decide) (by decide) fl_X4_139 rfl rfl rfl rfl (fn_2 A _) fs_2_9 dX4_readGuard_76 (fun H locs hw => ?_)
        obtain ⟨M_115, hM_115⟩ : ∃ z : ti_M, z = uI M_108 (ti_men t r_10.toNatClampNeg) 9 r_39 := ⟨_, rfl⟩
        have hw := hw.to hM_115.symm
        have iM_115 : cI Tc M_115 := cI_uI iM_108 hM_115 ob_19.1 trivial
        have hs_116 := rC_m9 (j := r_10.toNatClampNeg) ht (i_nt (x := r_10) rfl (by omega) (by omega)) hM_115 p0r_107
        obtain ⟨g_117, eg_117⟩ : ∃ z : Nat → Int, z = pp_su g_113 (200 + r_10.toNatClampNeg) r_39.toInt := ⟨_, rfl⟩
        rw [← eg_117] at hs_116
        have lg_117_0 : g_117 0 = (tI M_115 2 4).toInt := hs_116.2.1.1
        have lg_117_1 : g_117 1 = (tI M_115 2 6).toInt := hs_116.2.1.2.1
        have lg_117_4 : g_117 4 = (tI M_115 1 4).toInt := hs_116.2.2.1.1
        have lg_117_7 : g_117 7 = (tI M_115 t 4).toInt := hs_116.2.2.2.1.1
        have lg_117_8 : g_117 8 = (tI M_115 t 5).toInt := hs_116.2.2.2.1.2.1
        have tq_119 : tq t td M_115 := tq_m0 ht (i_nt (x := r_10) rfl (by omega) (by omega)) tq_114 hM_115 (by decide)
        have E1 : pp_g1 B n r_10.toInt g_16 = g_37 := by unfold pp_g1; rw [if_pos (by rw [gu]; omega), ← eg_37]
        have E2 : pp_g3 B n r_10.toInt g_37 = g_117 := by unfold pp_g3; rw [show pp_tv g_37 = r_39.toInt from p0r_39.symm, ← eg_45]; unfold pp_g2; rw [if_pos (by omega), show r_10.toInt.toNat = r_10.toNatClampNeg from rfl, ← eg_71, ← eg_113, ← eg_117]
        exact hQ _ _ _ _ _ hw (⟨iM_115, ((rf_I hM_115).trans ((q_109).trans ((q_67).trans ((q_41).trans ((q_33).trans ((q_12).trans q_3)))))), (f0.trans (f0_I hM_115 (f0n ob_19.1 (by decide))) (f0.trans (f0_12 q_110) (f0.trans (f0_12 q_68) (f0.trans (f0_12 q_42) (f0.trans (f0_12 q_34) (f0.trans (f0_12 q_13) (f0_12 (o2_12 q_4)))))))), ((tI_nE hM_115 (nk (by decide))).trans ((q_111).trans ((q_69).trans ((q_43).trans ((q_35).trans ((q_14).trans q_5)))))), (ot.trans (ot_m ht (i_nt (x := r_10) rfl (by omega) (by omega)) hM_115) (ot.trans (ot_12 ht q_110 q_112) (ot.trans (ot_12 ht q_68 q_70) (ot.trans (ot_12 ht q_42 q_44) (ot.trans (ot_12 ht q_34 q_36) (ot.trans (ot_12 ht q_13 q_15) (ot_12 ht (o2_12 q_4) q_6.1))))))), (by unfold pp_gd; rw [← eg_8, ← eg_16, show pp_tv g_8 = r_10.toInt from p0r_10.symm, if_neg (by omega), E1, E2]; exact hs_116), tq_119⟩) dX4_readGuard_79
    · refine lv_aload_n hx hb dX4_readGuard_34 rfl (lv_at hl 1 rfl) ?_
      refine lv_iconst (v := 3) hx hb dX4_readGuard_35 (by decide) ?_
      refine ti_callVv (ci := 4) (av := [.int 3]) C hw (x_X4_refuse l D A cy hJ M_11 iM_11 t ht 3 B n g_16 p1r_10) ⟨ml_X4_82, ym_X4_refuse, yv_X4_refuse, yi_X4_refuse, yc_X4_refuse⟩ yd_X4_refuse ob_1 (by decide) rfl rfl hl.1 (Nat.le_of_ble_eq_true rfl) ⟨by decide, by decide⟩ ⟨Nat.zero_le _, Nat.zero_le _⟩ dX4_readGuard_36 (fun M_24 H locs hp_24 hw => ?_)
      obtain ⟨iM_24, q_25, q_26, q_27, q_28, p0r_23⟩ := hp_24
      have hlr_23_3 : (3 : Int32).toInt = 3 := by decide
      simp only [hlr_23_3] at p0r_23
      obtain ⟨g_29, eg_29⟩ : ∃ z : Nat → Int, z = pp_rf 3 g_16 := ⟨_, rfl⟩
      rw [← eg_29] at p0r_23
      have lg_29_0 : g_29 0 = (tI M_24 2 4).toInt := p0r_23.2.1.1
      have lg_29_1 : g_29 1 = (tI M_24 2 6).toInt := p0r_23.2.1.2.1
      have lg_29_4 : g_29 4 = (tI M_24 1 4).toInt := p0r_23.2.2.1.1
      have lg_29_7 : g_29 7 = (tI M_24 t 4).toInt := p0r_23.2.2.2.1.1
      have lg_29_8 : g_29 8 = (tI M_24 t 5).toInt := p0r_23.2.2.2.1.2.1
      have tq_30 : tq t td M_24 := tq_fr ht tq_17 q_26 q_28
      refine lv_aload_n hx hb dX4_readGuard_39 rfl (lv_at hl 1 rfl) ?_
      refine lv_bipush (v := 25) hx hb dX4_readGuard_40 (by decide) ?_
      refine ti_callVvE (ci := 4) (av := [.int 25]) C hE hw (x_X4_take l D A cy hJ M_24 iM_24 t ht 25 B n g_29 p0r_23) ⟨ml_X4_85, ym_X4_take, yv_X4_take, yi_X4_take, yc_X4_take⟩ yd_X4_take ob_1 (by decide) rfl rfl hl.1 (Nat.le_of_ble_eq_true rfl) ⟨by decide, by decide⟩ ⟨Nat.zero_le _, Nat.zero_le _⟩ dX4_readGuard_42 (fun M_49 H locs hp_49 hw => ?_)
      obtain ⟨iM_49, q_50, q_51, q_52, q_53, p0r_48⟩ := hp_49
      have hlr_48_25 : (25 : Int32).toInt = 25 := by decide
      simp only [hlr_48_25] at p0r_48
      obtain ⟨g_54, eg_54⟩ : ∃ z : Nat → Int, z = pp_tk B n 25 g_29 := ⟨_, rfl⟩
      rw [← eg_54] at p0r_48
      have lg_54_0 : g_54 0 = (tI M_49 2 4).toInt := p0r_48.2.1.1
      have lg_54_1 : g_54 1 = (tI M_49 2 6).toInt := p0r_48.2.1.2.1
      have lg_54_4 : g_54 4 = (tI M_49 1 4).toInt := p0r_48.2.2.1.1
      have lg_54_7 : g_54 7 = (tI M_49 t 4).toInt := p0r_48.2.2.2.1.1
      have lg_54_8 : g_54 8 = (tI M_49 t 5).toInt := p0r_48.2.2.2.1.2.1
      have tq_55 : tq t td M_49 := tq_fr ht tq_30 q_51 q_53
      refine lv_aload_n hx hb dX4_readGuard_45 rfl (lv_at hl 1 rfl) ?_
      refine ti_callVi (ci := 4) (av := []) C hw (x_X4_toldMan l D A cy hJ M_49 iM_49 t ht ((tT_fr q_50).trans ((tT_fr q_25).trans ((tT_fr q_12).trans ((tT_fr q_3).trans hT)))) B n g_54 p0r_48) ⟨ml_X4_142, ym_X4_toldMan, yv_X4_toldMan, yi_X4_toldMan, yc_X4_toldMan⟩ yd_X4_toldMan ob_1 (by decide) rfl rfl hl.1 (Nat.le_of_ble_eq_true rfl) ⟨by decide, by decide⟩ ⟨Nat.zero_le _, Nat.zero_le _⟩ dX4_readGuard_46 (fun r_56 M_57 H locs hp_57 hw => ?_)
      obtain ⟨iM_57, q_58, q_59, q_60, q_61, b0r_56, b1r_56, p0r_56, p1r_56⟩ := hp_57
      obtain ⟨g_62, eg_62⟩ : ∃ z : Nat → Int, z = pp_tm g_54 := ⟨_, rfl⟩
      rw [← eg_62] at p1r_56
      have lg_62_0 : g_62 0 = (tI M_57 2 4).toInt := p1r_56.2.1.1
      have lg_62_1 : g_62 1 = (tI M_57 2 6).toInt := p1r_56.2.1.2.1
      have lg_62_4 : g_62 4 = (tI M_57 1 4).toInt := p1r_56.2.2.1.1
      have lg_62_7 : g_62 7 = (tI M_57 t 4).toInt := p1r_56.2.2.2.1.1
      have lg_62_8 : g_62 8 = (tI M_57 t 5).toInt := p1r_56.2.2.2.1.2.1
      have tq_63 : tq t td M_57 := tq_fr ht tq_55 q_59 q_61
      refine lv_istore_n (lv' := [(2, .int r_56), (1, .int r_10), (0, .ref (A 1 0))]) hx hb dX4_readGuard_49 rfl hl (by decide) rfl (fun ls hl => ?_)
      refine lv_iload_n hx hb dX4_readGuard_50 rfl (lv_at hl 0 rfl) ?_
      refine lv_iload_n hx hb dX4_readGuard_51 rfl (lv_at hl 1 rfl) ?_
      refine sb_icmp_ne (tgt := 60) hx hb rfl rfl dX4_readGuard_52 (by decide) (fun c_52_63 => ?_) (fun c_52_63 => ?_)
      · refine lv_aload_n hx hb dX4_readGuard_60 rfl (lv_at hl 2 rfl) ?_
        refine lv_bipush (v := 25) hx hb dX4_readGuard_61 (by decide) ?_
        refine ti_callVvE (ci := 4) (av := [.int 25]) C hE hw (x_X4_take l D A cy hJ M_57 iM_57 t ht 25 B n g_62 p1r_56) ⟨ml_X4_85, ym_X4_take, yv_X4_take, yi_X4_take, yc_X4_take⟩ yd_X4_take ob_1 (by decide) rfl rfl hl.1 (Nat.le_of_ble_eq_true rfl) ⟨by decide, by decide⟩ ⟨Nat.zero_le _, Nat.zero_le _⟩ dX4_readGuard_63 (fun M_95 H locs hp_95 hw => ?_)
        obtain ⟨iM_95, q_96, q_97, q_98, q_99, p0r_94⟩ := hp_95
        have hlr_94_25 : (25 : Int32).toInt = 25 := by decide
        simp only [hlr_94_25] at p0r_94
        obtain ⟨g_100, eg_100⟩ : ∃ z : Nat → Int, z = pp_tk B n 25 g_62 := ⟨_, rfl⟩
        rw [← eg_100] at p0r_94
        have lg_100_0 : g_100 0 = (tI M_95 2 4).toInt := p0r_94.2.1.1
        have lg_100_1 : g_100 1 = (tI M_95 2 6).toInt := p0r_94.2.1.2.1
        have lg_100_4 : g_100 4 = (tI M_95 1 4).toInt := p0r_94.2.2.1.1
        have lg_100_7 : g_100 7 = (tI M_95 t 4).toInt := p0r_94.2.2.2.1.1
        have lg_100_8 : g_100 8 = (tI M_95 t 5).toInt := p0r_94.2.2.2.1.2.1
        have tq_101 : tq t td M_95 := tq_fr ht tq_63 q_97 q_99
        refine lv_aload_n hx hb dX4_readGuard_66 rfl (lv_at hl 2 rfl) ?_
        refine ti_get (ci := 4) (k := 1) (N := 6) (T := TX4) (v := .ref (A t 0)) C hw iw_4 rfl ob_1 (by decide) (by decide) fl_X4_28 rfl (ti_Tv ((tT_fr q_96).trans ((tT_fr q_58).trans ((tT_fr q_50).trans ((tT_fr q_25).trans ((tT_fr q_12).trans ((tT_fr q_3).trans hT))))))) dX4_readGuard_67 ?_
        refine ti_get (ci := 8) (k := 0) (N := 12) (T := TX8) (v := .ref (A t 1)) C hw iw_8 rfl (ob_t ht) (by decide) (by decide) fl_X4_101 rfl rfl dX4_readGuard_70 ?_
        refine lv_iload_n hx hb dX4_readGuard_73 rfl (lv_at hl 1 rfl) ?_
        refine ti_aald (ci := 8) (k := 0) (n := 8) (t0 := 5) (Cn := RX2) (gg := (ti_men t)) (j := r_10.toNatClampNeg) C hw (ob_t ht) (by decide) (fun _ _ => rfl) rfl (vp_in_iff.mpr (by omega)) rfl dX4_readGuard_74 ?_
        refine lv_iload_n hx hb dX4_readGuard_75 rfl (lv_at hl 0 rfl) ?_
        refine ti_putI (ci := 2) (k := 9) (N := 10) (T := TX2) C hw iw_2 tyX2 tyX2_ok nmX2 rfl ob_19 (by decide) (by decide) fl_X4_139 rfl rfl rfl rfl (fn_2 A _) fs_2_9 dX4_readGuard_76 (fun H locs hw => ?_)
        obtain ⟨M_102, hM_102⟩ : ∃ z : ti_M, z = uI M_95 (ti_men t r_10.toNatClampNeg) 9 r_56 := ⟨_, rfl⟩
        have hw := hw.to hM_102.symm
        have iM_102 : cI Tc M_102 := cI_uI iM_95 hM_102 ob_19.1 trivial
        have hs_103 := rC_m9 (j := r_10.toNatClampNeg) ht (i_nt (x := r_10) rfl (by omega) (by omega)) hM_102 p0r_94
        obtain ⟨g_104, eg_104⟩ : ∃ z : Nat → Int, z = pp_su g_100 (200 + r_10.toNatClampNeg) r_56.toInt := ⟨_, rfl⟩
        rw [← eg_104] at hs_103
        have lg_104_0 : g_104 0 = (tI M_102 2 4).toInt := hs_103.2.1.1
        have lg_104_1 : g_104 1 = (tI M_102 2 6).toInt := hs_103.2.1.2.1
        have lg_104_4 : g_104 4 = (tI M_102 1 4).toInt := hs_103.2.2.1.1
        have lg_104_7 : g_104 7 = (tI M_102 t 4).toInt := hs_103.2.2.2.1.1
        have lg_104_8 : g_104 8 = (tI M_102 t 5).toInt := hs_103.2.2.2.1.2.1
        have tq_106 : tq t td M_102 := tq_m0 ht (i_nt (x := r_10) rfl (by omega) (by omega)) tq_101 hM_102 (by decide)
        have E1 : pp_g1 B n r_10.toInt g_16 = g_54 := by unfold pp_g1; rw [if_neg (by rw [gu]; omega), ← eg_29, ← eg_54]
        have E2 : pp_g3 B n r_10.toInt g_54 = g_104 := by unfold pp_g3; rw [show pp_tv g_54 = r_56.toInt from p0r_56.symm, ← eg_62]; unfold pp_g2; rw [if_neg (by omega), show r_10.toInt.toNat = r_10.toNatClampNeg from rfl, ← eg_100, ← eg_104]
        exact hQ _ _ _ _ _ hw (⟨iM_102, ((rf_I hM_102).trans ((q_96).trans ((q_58).trans ((q_50).trans ((q_25).trans ((q_12).trans q_3)))))), (f0.trans (f0_I hM_102 (f0n ob_19.1 (by decide))) (f0.trans (f0_12 q_97) (f0.trans (f0_12 q_59) (f0.trans (f0_12 q_51) (f0.trans (f0_12 q_26) (f0.trans (f0_12 q_13) (f0_12 (o2_12 q_4)))))))), ((tI_nE hM_102 (nk (by decide))).trans ((q_98).trans ((q_60).trans ((q_52).trans ((q_27).trans ((q_14).trans q_5)))))), (ot.trans (ot_m ht (i_nt (x := r_10) rfl (by omega) (by omega)) hM_102) (ot.trans (ot_12 ht q_97 q_99) (ot.trans (ot_12 ht q_59 q_61) (ot.trans (ot_12 ht q_51 q_53) (ot.trans (ot_12 ht q_26 q_28) (ot.trans (ot_12 ht q_13 q_15) (ot_12 ht (o2_12 q_4) q_6.1))))))), (by unfold pp_gd; rw [← eg_8, ← eg_16, show pp_tv g_8 = r_10.toInt from p0r_10.symm, if_neg (by omega), E1, E2]; exact hs_103), tq_106⟩) dX4_readGuard_79
      · refine lv_aload_n hx hb dX4_readGuard_55 rfl (lv_at hl 2 rfl) ?_
        refine lv_iconst (v := 5) hx hb dX4_readGuard_56 (by decide) ?_
        refine ti_callVv (ci := 4) (av := [.int 5]) C hw (x_X4_refuse l D A cy hJ M_57 iM_57 t ht 5 B n g_62 p1r_56) ⟨ml_X4_82, ym_X4_refuse, yv_X4_refuse, yi_X4_refuse, yc_X4_refuse⟩ yd_X4_refuse ob_1 (by decide) rfl rfl hl.1 (Nat.le_of_ble_eq_true rfl) ⟨by decide, by decide⟩ ⟨Nat.zero_le _, Nat.zero_le _⟩ dX4_readGuard_57 (fun M_74 H locs hp_74 hw => ?_)
        obtain ⟨iM_74, q_75, q_76, q_77, q_78, p0r_73⟩ := hp_74
        have hlr_73_5 : (5 : Int32).toInt = 5 := by decide
        simp only [hlr_73_5] at p0r_73
        obtain ⟨g_79, eg_79⟩ : ∃ z : Nat → Int, z = pp_rf 5 g_62 := ⟨_, rfl⟩
        rw [← eg_79] at p0r_73
        have lg_79_0 : g_79 0 = (tI M_74 2 4).toInt := p0r_73.2.1.1
        have lg_79_1 : g_79 1 = (tI M_74 2 6).toInt := p0r_73.2.1.2.1
        have lg_79_4 : g_79 4 = (tI M_74 1 4).toInt := p0r_73.2.2.1.1
        have lg_79_7 : g_79 7 = (tI M_74 t 4).toInt := p0r_73.2.2.2.1.1
        have lg_79_8 : g_79 8 = (tI M_74 t 5).toInt := p0r_73.2.2.2.1.2.1
        have tq_80 : tq t td M_74 := tq_fr ht tq_63 q_76 q_78
        refine lv_aload_n hx hb dX4_readGuard_60 rfl (lv_at hl 2 rfl) ?_
        refine lv_bipush (v := 25) hx hb dX4_readGuard_61 (by decide) ?_
        refine ti_callVvE (ci := 4) (av := [.int 25]) C hE hw (x_X4_take l D A cy hJ M_74 iM_74 t ht 25 B n g_79 p0r_73) ⟨ml_X4_85, ym_X4_take, yv_X4_take, yi_X4_take, yc_X4_take⟩ yd_X4_take ob_1 (by decide) rfl rfl hl.1 (Nat.le_of_ble_eq_true rfl) ⟨by decide, by decide⟩ ⟨Nat.zero_le _, Nat.zero_le _⟩ dX4_readGuard_63 (fun M_121 H locs hp_121 hw => ?_)
        obtain ⟨iM_121, q_122, q_123, q_124, q_125, p0r_120⟩ := hp_121
        have hlr_120_25 : (25 : Int32).toInt = 25 := by decide
        simp only [hlr_120_25] at p0r_120
        obtain ⟨g_126, eg_126⟩ : ∃ z : Nat → Int, z = pp_tk B n 25 g_79 := ⟨_, rfl⟩
        rw [← eg_126] at p0r_120
        have lg_126_0 : g_126 0 = (tI M_121 2 4).toInt := p0r_120.2.1.1
        have lg_126_1 : g_126 1 = (tI M_121 2 6).toInt := p0r_120.2.1.2.1
        have lg_126_4 : g_126 4 = (tI M_121 1 4).toInt := p0r_120.2.2.1.1
        have lg_126_7 : g_126 7 = (tI M_121 t 4).toInt := p0r_120.2.2.2.1.1
        have lg_126_8 : g_126 8 = (tI M_121 t 5).toInt := p0r_120.2.2.2.1.2.1
        have tq_127 : tq t td M_121 := tq_fr ht tq_80 q_123 q_125
        refine lv_aload_n hx hb dX4_readGuard_66 rfl (lv_at hl 2 rfl) ?_
        refine ti_get (ci := 4) (k := 1) (N := 6) (T := TX4) (v := .ref (A t 0)) C hw iw_4 rfl ob_1 (by decide) (by decide) fl_X4_28 rfl (ti_Tv ((tT_fr q_122).trans ((tT_fr q_75).trans ((tT_fr q_58).trans ((tT_fr q_50).trans ((tT_fr q_25).trans ((tT_fr q_12).trans ((tT_fr q_3).trans hT)))))))) dX4_readGuard_67 ?_
        refine ti_get (ci := 8) (k := 0) (N := 12) (T := TX8) (v := .ref (A t 1)) C hw iw_8 rfl (ob_t ht) (by decide) (by decide) fl_X4_101 rfl rfl dX4_readGuard_70 ?_
        refine lv_iload_n hx hb dX4_readGuard_73 rfl (lv_at hl 1 rfl) ?_
        refine ti_aald (ci := 8) (k := 0) (n := 8) (t0 := 5) (Cn := RX2) (gg := (ti_men t)) (j := r_10.toNatClampNeg) C hw (ob_t ht) (by decide) (fun _ _ => rfl) rfl (vp_in_iff.mpr (by omega)) rfl dX4_readGuard_74 ?_
        refine lv_iload_n hx hb dX4_readGuard_75 rfl (lv_at hl 0 rfl) ?_
        refine ti_putI (ci := 2) (k := 9) (N := 10) (T := TX2) C hw iw_2 tyX2 tyX2_ok nmX2 rfl ob_19 (by decide) (by decide) fl_X4_139 rfl rfl rfl rfl (fn_2 A _) fs_2_9 dX4_readGuard_76 (fun H locs hw => ?_)
        obtain ⟨M_128, hM_128⟩ : ∃ z : ti_M, z = uI M_121 (ti_men t r_10.toNatClampNeg) 9 r_56 := ⟨_, rfl⟩
        have hw := hw.to hM_128.symm
        have iM_128 : cI Tc M_128 := cI_uI iM_121 hM_128 ob_19.1 trivial
        have hs_129 := rC_m9 (j := r_10.toNatClampNeg) ht (i_nt (x := r_10) rfl (by omega) (by omega)) hM_128 p0r_120
        obtain ⟨g_130, eg_130⟩ : ∃ z : Nat → Int, z = pp_su g_126 (200 + r_10.toNatClampNeg) r_56.toInt := ⟨_, rfl⟩
        rw [← eg_130] at hs_129
        have lg_130_0 : g_130 0 = (tI M_128 2 4).toInt := hs_129.2.1.1
        have lg_130_1 : g_130 1 = (tI M_128 2 6).toInt := hs_129.2.1.2.1
        have lg_130_4 : g_130 4 = (tI M_128 1 4).toInt := hs_129.2.2.1.1
        have lg_130_7 : g_130 7 = (tI M_128 t 4).toInt := hs_129.2.2.2.1.1
        have lg_130_8 : g_130 8 = (tI M_128 t 5).toInt := hs_129.2.2.2.1.2.1
        have tq_132 : tq t td M_128 := tq_m0 ht (i_nt (x := r_10) rfl (by omega) (by omega)) tq_127 hM_128 (by decide)
        have E1 : pp_g1 B n r_10.toInt g_16 = g_54 := by unfold pp_g1; rw [if_neg (by rw [gu]; omega), ← eg_29, ← eg_54]
        have E2 : pp_g3 B n r_10.toInt g_54 = g_130 := by unfold pp_g3; rw [show pp_tv g_54 = r_56.toInt from p0r_56.symm, ← eg_62]; unfold pp_g2; rw [if_pos (by omega), show r_10.toInt.toNat = r_10.toNatClampNeg from rfl, ← eg_79, ← eg_126, ← eg_130]
        exact hQ _ _ _ _ _ hw (⟨iM_128, ((rf_I hM_128).trans ((q_122).trans ((q_75).trans ((q_58).trans ((q_50).trans ((q_25).trans ((q_12).trans q_3))))))), (f0.trans (f0_I hM_128 (f0n ob_19.1 (by decide))) (f0.trans (f0_12 q_123) (f0.trans (f0_12 q_76) (f0.trans (f0_12 q_59) (f0.trans (f0_12 q_51) (f0.trans (f0_12 q_26) (f0.trans (f0_12 q_13) (f0_12 (o2_12 q_4))))))))), ((tI_nE hM_128 (nk (by decide))).trans ((q_124).trans ((q_77).trans ((q_60).trans ((q_52).trans ((q_27).trans ((q_14).trans q_5))))))), (ot.trans (ot_m ht (i_nt (x := r_10) rfl (by omega) (by omega)) hM_128) (ot.trans (ot_12 ht q_123 q_125) (ot.trans (ot_12 ht q_76 q_78) (ot.trans (ot_12 ht q_59 q_61) (ot.trans (ot_12 ht q_51 q_53) (ot.trans (ot_12 ht q_26 q_28) (ot.trans (ot_12 ht q_13 q_15) (ot_12 ht (o2_12 q_4) q_6.1)))))))), (by unfold pp_gd; rw [← eg_8, ← eg_16, show pp_tv g_8 = r_10.toInt from p0r_10.symm, if_neg (by omega), E1, E2]; exact hs_129), tq_132⟩) dX4_readGuard_79
  · exact hQ _ _ _ _ _ hw (⟨iM_11, ((q_12).trans q_3), (f0.trans (f0_12 q_13) (f0_12 (o2_12 q_4))), ((q_14).trans q_5), (ot.trans (ot_12 ht q_13 q_15) (ot_12 ht (o2_12 q_4) q_6.1)), (by unfold pp_gd; rw [← eg_8, ← eg_16, show pp_tv g_8 = r_10.toInt from p0r_10.symm, if_pos (by omega)]; exact p1r_10), tq_17⟩) dX4_readGuard_17

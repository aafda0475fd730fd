variable {Tc : gC} {Tm : gM}
set_option maxHeartbeats 4000000 in
set_option maxRecDepth 100000 in
theorem x_X1_add (l : Launch) (D : va_G) (A : Nat → Nat → Nat) (cy : Nat → ClassId) (hJ : ti_inj ti_LT A) (M : ti_M) (hI : cI Tc M) (t : Nat) (ht : t = 3 ∨ t = 4) (j : Nat) (hj : j < 3) (kn : Int32) (hk : 0 ≤ kn.toInt ∨ kn.toInt ≤ -16) (B : Nat → Int) (n : Nat) (rg : Nat → Int) (hr : rC B n t rg M) (td : Nat → Int) (hq : tq t td M) : ti_Kv l yX1_add cX1_add 2 0 ti_LT D A cy M [.ref (A (ti_laws t j) 0), .int kn] (fun M2 => cI Tc M2 ∧ M2.2.2.2 = M.2.2.2 ∧ fX M2 M ∧ ot t M2 M ∧ rC B n t rg M2 ∧ tq t (qa j kn.toInt td) M2) := by
  refine ti_eV yp_X1_add hJ ti_LT_nd (Nat.le_of_ble_eq_true rfl) ?_
  intro p e s m args below meth c Q H0 C hQ hw ls hl
  have hx := C.1
  have hb := C.2.1
  have hl : lv_has ls 2 [(0, .ref (A (ti_laws t j) 0)), (1, .int kn)] := hl
  have lt := (hq.2.2.2 j hj).1
  have l0 : rg 0 = (tI M 2 4).toInt := hr.2.1.1
  have l1 : rg 1 = (tI M 2 6).toInt := hr.2.1.2.1
  have l2 : rg 2 = (tI M 2 5).toInt := hr.2.1.2.2.1
  have l3 : rg 3 = (tI M 2 3).toInt := hr.2.1.2.2.2
  have l4 : rg 4 = (tI M 1 4).toInt := hr.2.2.1.1
  have l5 : rg 5 = (tI M 1 5).toInt := hr.2.2.1.2.1
  have l7 : rg 7 = (tI M t 4).toInt := hr.2.2.2.1.1
  have l8 : rg 8 = (tI M t 5).toInt := hr.2.2.2.1.2.1
  have l9 : rg 9 = (tI M t 3).toInt := hr.2.2.2.1.2.2
  refine lv_aload_n hx hb dX1_add_0 rfl (lv_at hl 0 rfl) ?_
  refine ti_get (ci := 1) (k := 3) (N := 4) (T := TX1) C hw iw_1 rfl (ob_l ht hj) (by decide) (by decide) fl_X1_24 rfl rfl dX1_add_1 ?_
  refine lv_topi (fun x_1 ex_1 => ?_)
  have bx_1 : 0 ≤ x_1.toInt ∧ x_1.toInt ≤ 64 := cI_rd hI (ob_l ht hj).1 ex_1
  have ux_1 : (tI M (ti_laws t j) 3).toInt = x_1.toInt := by rw [ex_1]
  refine lv_bipush (v := 64) hx hb dX1_add_4 (by decide) ?_
  refine sb_icmp_ge (tgt := 29) hx hb rfl (by decide : (64 : Int32).toInt = 64) dX1_add_6 (by decide) (fun c_6_1 => ?_) (fun c_6_1 => ?_)
  · exact hQ _ _ _ _ _ hw (⟨hI, rfl, fX.refl, ot.refl, hr, (by unfold qa; rw [if_neg (by omega)]; exact hq)⟩) dX1_add_29
  · refine lv_aload_n hx hb dX1_add_9 rfl (lv_at hl 0 rfl) ?_
    refine ti_get (ci := 1) (k := 0) (N := 4) (T := TX1) (v := .ref (A (ti_laws t j) 1)) C hw iw_1 rfl (ob_l ht hj) (by decide) (by decide) fl_X1_11 rfl rfl dX1_add_10 ?_
    refine lv_aload_n hx hb dX1_add_13 rfl (lv_at hl 0 rfl) ?_
    refine ti_get (ci := 1) (k := 3) (N := 4) (T := TX1) C hw iw_1 rfl (ob_l ht hj) (by decide) (by decide) fl_X1_24 rfl rfl dX1_add_14 ?_
    refine ti_top (y := x_1) (ex_1.symm) ?_
    have u_3 : (tI M (ti_laws t j) 3).toInt = (x_1 : Int32).toInt := by rw [(ex_1.symm)]
    refine lv_iload_n hx hb dX1_add_17 rfl (lv_at hl 1 rfl) ?_
    refine ti_iast (ci := 1) (k := 0) (n := 64) C hw (ob_l ht hj) (by decide) (fun _ _ => rfl) (vp_in_iff.mpr (by omega)) dX1_add_18 (fun H locs hw => ?_)
    obtain ⟨M_4, hM_4⟩ : ∃ z : ti_M, z = uY M (ti_laws t j) 0 (upd (tY M (ti_laws t j) 0) (x_1 : Int32).toNatClampNeg kn) := ⟨_, rfl⟩
    have hw := hw.to hM_4.symm
    have iM_4 : cI Tc M_4 := cI_up hI hM_4 (ob_l ht hj).1 hk
    have hs_5 := rC_Y hM_4 (no (cls_ne ob_2.1 (ob_l ht hj).1 (by decide))) hr
    have lM_4_0 : rg 0 = (tI M_4 2 4).toInt := hs_5.2.1.1
    have lM_4_1 : rg 1 = (tI M_4 2 6).toInt := hs_5.2.1.2.1
    have lM_4_4 : rg 4 = (tI M_4 1 4).toInt := hs_5.2.2.1.1
    have lM_4_7 : rg 7 = (tI M_4 t 4).toInt := hs_5.2.2.2.1.1
    have lM_4_8 : rg 8 = (tI M_4 t 5).toInt := hs_5.2.2.2.1.2.1
    have tq_6 : tq t (pp_su td (400 + 64 * j + x_1.toInt.toNat) kn.toInt) M_4 := tq_Yc (z := x_1) ht hj hq (by omega) (by omega) rfl hM_4
    obtain ⟨d_7, ed_7⟩ : ∃ z : Nat → Int, z = pp_su td (400 + 64 * j + x_1.toInt.toNat) kn.toInt := ⟨_, rfl⟩
    rw [← ed_7] at tq_6
    refine lv_aload_n hx hb dX1_add_19 rfl (lv_at hl 0 rfl) ?_
    refine lv_dup hx hb dX1_add_20 rfl ?_
    refine ti_get (ci := 1) (k := 3) (N := 4) (T := TX1) C hw iw_1 rfl (ob_l ht hj) (by decide) (by decide) fl_X1_24 rfl rfl dX1_add_21 ?_
    refine ti_top (y := x_1) ((tI_uYE hM_4).trans ex_1.symm) ?_
    have u_8 : (tI M_4 (ti_laws t j) 3).toInt = (x_1 : Int32).toInt := by rw [((tI_uYE hM_4).trans ex_1.symm)]
    refine lv_iconst (v := 1) hx hb dX1_add_24 (by decide) ?_
    refine lv_iadd hx hb dX1_add_25 ?_
    refine lv_topi (fun x_9 ex_9 => ?_)
    have tx_9 : x_9.toInt = x_1.toInt + 1 := i_add ex_9 rfl (by decide : (1 : Int32).toInt = 1) (by omega) (by omega)
    refine ti_putI (ci := 1) (k := 3) (N := 4) (T := TX1) C hw iw_1 tyX1 tyX1_ok nmX1 rfl (ob_l ht hj) (by decide) (by decide) fl_X1_24 rfl rfl rfl rfl (fn_1 A _) fs_1_3 dX1_add_26 (fun H locs hw => ?_)
    obtain ⟨M_10, hM_10⟩ : ∃ z : ti_M, z = uI M_4 (ti_laws t j) 3 x_9 := ⟨_, rfl⟩
    have hw := hw.to hM_10.symm
    have iM_10 : cI Tc M_10 := cI_uI iM_4 hM_10 (ob_l ht hj).1 (ib_mk (lo := 0) (hi := 64) (by omega) (by omega))
    have vM_10 : (tI M_10 (ti_laws t j) 3).toInt = (x_9 : Int32).toInt := by rw [tI_uE hM_10]
    have hs_11 := rC_X ht (pp_law (ob_l ht hj).1) hM_10 hs_5
    have lM_10_0 : rg 0 = (tI M_10 2 4).toInt := hs_11.2.1.1
    have lM_10_1 : rg 1 = (tI M_10 2 6).toInt := hs_11.2.1.2.1
    have lM_10_4 : rg 4 = (tI M_10 1 4).toInt := hs_11.2.2.1.1
    have lM_10_7 : rg 7 = (tI M_10 t 4).toInt := hs_11.2.2.2.1.1
    have lM_10_8 : rg 8 = (tI M_10 t 5).toInt := hs_11.2.2.2.1.2.1
    have tq_12 : tq t (pp_su d_7 (300 + j) x_9.toInt) M_10 := tq_l ht hj tq_6 rfl hM_10
    obtain ⟨d_13, ed_13⟩ : ∃ z : Nat → Int, z = pp_su d_7 (300 + j) x_9.toInt := ⟨_, rfl⟩
    rw [← ed_13] at tq_12
    exact hQ _ _ _ _ _ hw (⟨iM_10, ((rf_I hM_10).trans (rf_Y hM_4)), (fX.trans (fx_I hM_10 (fxn (ob_l ht hj).1 (by decide))) (fx_of (ra_Y hM_4))), (ot.trans (ot_l ht hj hM_10) (ot_Yl ht hj hM_4)), hs_11, (by unfold qa; rw [if_pos (by omega), show (td (300 + j)).toNat = x_1.toInt.toNat by omega, ← ed_7, show td (300 + j) + 1 = x_9.toInt by omega, ← ed_13]; exact tq_12)⟩) dX1_add_29
set_option maxHeartbeats 4000000 in
set_option maxRecDepth 100000 in
theorem x_X4_readPart_8 (l : Launch) (D : va_G) (A : Nat → Nat → Nat) (cy : Nat → ClassId) (hJ : ti_inj ti_LT A) (M : ti_M) (hI : cI Tc M) (t : Nat) (ht : t = 3 ∨ t = 4) (hT : tT M 1 1 = some t) (j : Nat) (hj : j < 3) (hL : tT M 1 2 = some (ti_laws t j)) (B : Nat → Int) (n : Nat) (rg : Nat → Int) (hr : rC B n t rg M) (td : Nat → Int) (hq : tq t td M) : ti_KvE l yX4_readPart cX4_readPart 3 8 ti_LT D A cy M [.ref (A 1 0), .int 8] (fun M2 => cI Tc M2 ∧ M2.2.2.2 = M.2.2.2 ∧ f0 M2 M ∧ tI M2 2 1 = tI M 2 1 ∧ ot t M2 M ∧ rC B n t (pp_pt B n 0 rg) M2 ∧ tq t (qq_pt B n j 0 rg td) M2) := by
  refine ti_eVE yp_X4_readPart hJ ti_LT_nd (Nat.le_of_ble_eq_true rfl) ?_
  intro p e s m args below meth c Q H0 C hE hQ hw ls hl
  have hx := C.1
  have hb := C.2.1
  have hl : lv_has ls 3 [(0, .ref (A 1 0)), (1, .int 8)] := hl
  have l0 : rg 0 = (tI M 2 4).toInt := hr.2.1.1
  have l1 : rg 1 = (tI M 2 6).toInt := hr.2.1.2.1
  have l2 : rg 2 = (tI M 2 5).toInt := hr.2.1.2.2.1
  have l3 : rg 3 = (tI M 2 3).toInt := hr.2.1.2.2.2
  have l4 : rg 4 = (tI M 1 4).toInt := hr.2.2.1.1
  have l5 : rg 5 = (tI M 1 5).toInt := hr.2.2.1.2.1
  have l7 : rg 7 = (tI M t 4).toInt := hr.2.2.2.1.1
  have l8 : rg 8 = (tI M t 5).toInt := hr.2.2.2.1.2.1
  have l9 : rg 9 = (tI M t 3).toInt := hr.2.2.2.1.2.2
  refine lv_aload_n hx hb dX4_readPart_0 rfl (lv_at hl 0 rfl) ?_
  refine ti_get (ci := 4) (k := 0) (N := 6) (T := TX4) (v := .ref (A 2 0)) C hw iw_4 rfl ob_1 (by decide) (by decide) fl_X4_12 rfl rfl dX4_readPart_1 ?_
  refine ti_get (ci := 7) (k := 4) (N := 7) (T := TX7) C hw iw_7 rfl ob_2 (by decide) (by decide) fl_X4_41 rfl rfl dX4_readPart_4 ?_
  refine lv_topi (fun x_1 ex_1 => ?_)
  have bx_1 : 0 ≤ x_1.toInt ∧ x_1.toInt ≤ 41 := cI_rd hI ob_2.1 ex_1
  have ux_1 : (tI M 2 4).toInt = x_1.toInt := by rw [ex_1]
  refine lv_istore_n (lv' := [(2, .int x_1), (0, .ref (A 1 0)), (1, .int 8)]) hx hb dX4_readPart_7 rfl hl (by decide) rfl (fun ls hl => ?_)
  refine lv_iload_n hx hb dX4_readPart_8 rfl (lv_at hl 0 rfl) ?_
  refine lv_bipush (v := 30) hx hb dX4_readPart_9 (by decide) ?_
  refine sb_icmp_ne (tgt := 28) hx hb rfl (by decide : (30 : Int32).toInt = 30) dX4_readPart_11 (by decide) (fun c_11_1 => ?_) (fun c_11_1 => ?_)
  · refine lv_iload_n hx hb dX4_readPart_28 rfl (lv_at hl 0 rfl) ?_
    refine lv_bipush (v := 30) hx hb dX4_readPart_29 (by decide) ?_
    refine sb_icmp_ne (tgt := 57) hx hb rfl (by decide : (30 : Int32).toInt = 30) dX4_readPart_31 (by decide) (fun c_31_11 => ?_) (fun h => by omega)
    refine lv_iload_n hx hb dX4_readPart_57 rfl (lv_at hl 0 rfl) ?_
    refine lv_bipush (v := 26) hx hb dX4_readPart_58 (by decide) ?_
    refine sb_icmp_ne (tgt := 84) hx hb rfl (by decide : (26 : Int32).toInt = 26) dX4_readPart_60 (by decide) (fun c_60_12 => ?_) (fun c_60_12 => ?_)
    · refine lv_iload_n hx hb dX4_readPart_84 rfl (lv_at hl 0 rfl) ?_
      refine lv_bipush (v := 26) hx hb dX4_readPart_85 (by decide) ?_
      refine sb_icmp_ne (tgt := 111) hx hb rfl (by decide : (26 : Int32).toInt = 26) dX4_readPart_87 (by decide) (fun c_87_23 => ?_) (fun h => by omega)
      refine lv_iload_n hx hb dX4_readPart_111 rfl (lv_at hl 0 rfl) ?_
      refine lv_bipush (v := 16) hx hb dX4_readPart_112 (by decide) ?_
      refine sb_icmp_lt (tgt := 139) hx hb rfl (by decide : (16 : Int32).toInt = 16) dX4_readPart_114 (by decide) (fun c_114_40 => ?_) (fun c_114_40 => ?_)
      · refine lv_aload_n hx hb dX4_readPart_139 rfl (lv_at hl 1 rfl) ?_
        refine lv_iconst (v := 1) hx hb dX4_readPart_140 (by decide) ?_
        refine ti_callVv (ci := 4) (av := [.int 1]) C hw (x_X4_refuse l D A cy hJ M hI t ht 1 B n rg hr) ⟨ml_X4_82, ym_X4_refuse, yv_X4_refuse, yi_X4_refuse, yc_X4_refuse⟩ yd_X4_refuse ob_1 (by decide) rfl rfl hl.1 (Nat.le_of_ble_eq_true rfl) ⟨by decide, by decide⟩ ⟨Nat.zero_le _, Nat.zero_le _⟩ dX4_readPart_141 (fun M_59 H locs hp_59 hw => ?_)
        obtain ⟨iM_59, q_60, q_61, q_62, q_63, p0r_58⟩ := hp_59
        have hlr_58_1 : (1 : Int32).toInt = 1 := by decide
        simp only [hlr_58_1] at p0r_58
        obtain ⟨g_64, eg_64⟩ : ∃ z : Nat → Int, z = pp_rf 1 rg := ⟨_, rfl⟩
        rw [← eg_64] at p0r_58
        have lg_64_0 : g_64 0 = (tI M_59 2 4).toInt := p0r_58.2.1.1
        have lg_64_1 : g_64 1 = (tI M_59 2 6).toInt := p0r_58.2.1.2.1
        have lg_64_4 : g_64 4 = (tI M_59 1 4).toInt := p0r_58.2.2.1.1
        have lg_64_7 : g_64 7 = (tI M_59 t 4).toInt := p0r_58.2.2.2.1.1
        have lg_64_8 : g_64 8 = (tI M_59 t 5).toInt := p0r_58.2.2.2.1.2.1
        have tq_65 : tq t td M_59 := tq_fr ht hq q_61 q_63
        exact hQ _ _ _ _ _ hw (⟨iM_59, (q_60), (f0_12 q_61), (q_62), (ot_12 ht q_61 q_63), (by rw [pe_0, if_neg (by omega)]; unfold pp_p0; rw [if_neg (by omega), if_neg (fun q => by omega), ← eg_64]; exact p0r_58), (by rw [qe_0, if_neg (by omega)]; unfold qq_p0; rw [if_neg (by omega), if_neg (fun q => by omega)]; exact tq_65)⟩) dX4_readPart_144
      · refine lv_iload_n hx hb dX4_readPart_117 rfl (lv_at hl 0 rfl) ?_
        refine lv_bipush (v := 21) hx hb dX4_readPart_118 (by decide) ?_
        refine sb_icmp_gt (tgt := 139) hx hb rfl (by decide : (21 : Int32).toInt = 21) dX4_readPart_120 (by decide) (fun c_120_41 => ?_) (fun c_120_41 => ?_)
        · refine lv_aload_n hx hb dX4_readPart_139 rfl (lv_at hl 1 rfl) ?_
          refine lv_iconst (v := 1) hx hb dX4_readPart_140 (by decide) ?_
          refine ti_callVv (ci := 4) (av := [.int 1]) C hw (x_X4_refuse l D A cy hJ M hI t ht 1 B n rg hr) ⟨ml_X4_82, ym_X4_refuse, yv_X4_refuse, yi_X4_refuse, yc_X4_refuse⟩ yd_X4_refuse ob_1 (by decide) rfl rfl hl.1 (Nat.le_of_ble_eq_true rfl) ⟨by decide, by decide⟩ ⟨Nat.zero_le _, Nat.zero_le _⟩ dX4_readPart_141 (fun M_67 H locs hp_67 hw => ?_)
          obtain ⟨iM_67, q_68, q_69, q_70, q_71, p0r_66⟩ := hp_67
          have hlr_66_1 : (1 : Int32).toInt = 1 := by decide
          simp only [hlr_66_1] at p0r_66
          obtain ⟨g_72, eg_72⟩ : ∃ z : Nat → Int, z = pp_rf 1 rg := ⟨_, rfl⟩
          rw [← eg_72] at p0r_66
          have lg_72_0 : g_72 0 = (tI M_67 2 4).toInt := p0r_66.2.1.1
          have lg_72_1 : g_72 1 = (tI M_67 2 6).toInt := p0r_66.2.1.2.1
          have lg_72_4 : g_72 4 = (tI M_67 1 4).toInt := p0r_66.2.2.1.1
          have lg_72_7 : g_72 7 = (tI M_67 t 4).toInt := p0r_66.2.2.2.1.1
          have lg_72_8 : g_72 8 = (tI M_67 t 5).toInt := p0r_66.2.2.2.1.2.1
          have tq_73 : tq t td M_67 := tq_fr ht hq q_69 q_71
          exact hQ _ _ _ _ _ hw (⟨iM_67, (q_68), (f0_12 q_69), (q_70), (ot_12 ht q_69 q_71), (by rw [pe_0, if_neg (by omega)]; unfold pp_p0; rw [if_neg (by omega), if_neg (fun q => by omega), ← eg_72]; exact p0r_66), (by rw [qe_0, if_neg (by omega)]; unfold qq_p0; rw [if_neg (by omega), if_neg (fun q => by omega)]; exact tq_73)⟩) dX4_readPart_144
        · refine lv_aload_n hx hb dX4_readPart_123 rfl (lv_at hl 1 rfl) ?_
          refine ti_get (ci := 4) (k := 2) (N := 6) (T := TX4) (v := .ref (A (ti_laws t j) 0)) C hw iw_4 rfl ob_1 (by decide) (by decide) fl_X4_154 rfl (ti_Tv (hL)) dX4_readPart_124 ?_
          refine lv_iload_n hx hb dX4_readPart_127 rfl (lv_at hl 0 rfl) ?_
          refine lv_ineg hx hb dX4_readPart_128 ?_
          refine lv_topi (fun x_43 ex_43 => ?_)
          have tx_43 : x_43.toInt = -x_1.toInt := i_neg ex_43 rfl (by omega)
          refine ti_callVv (ci := 1) (av := [.int x_43]) C hw (x_X1_add l D A cy hJ M hI t ht j hj x_43 (by first | omega | exact Or.inl (by decide) | exact Or.inr (by decide)) B n rg hr td hq) ⟨ml_X4_170, ym_X1_add, yv_X1_add, yi_X1_add, yc_X1_add⟩ yd_X1_add (ob_l ht hj) (by decide) rfl rfl hl.1 (Nat.le_of_ble_eq_true rfl) ⟨by decide, by decide⟩ ⟨Nat.zero_le _, Nat.zero_le _⟩ dX4_readPart_129 (fun M_45 H locs hp_45 hw => ?_)
          obtain ⟨iM_45, q_46, q_47, q_48, p0r_44, p1r_44⟩ := hp_45
          have lM_45_0 : rg 0 = (tI M_45 2 4).toInt := p0r_44.2.1.1
          have lM_45_1 : rg 1 = (tI M_45 2 6).toInt := p0r_44.2.1.2.1
          have lM_45_4 : rg 4 = (tI M_45 1 4).toInt := p0r_44.2.2.1.1
          have lM_45_7 : rg 7 = (tI M_45 t 4).toInt := p0r_44.2.2.2.1.1
          have lM_45_8 : rg 8 = (tI M_45 t 5).toInt := p0r_44.2.2.2.1.2.1
          obtain ⟨d_49, ed_49⟩ : ∃ z : Nat → Int, z = qa j x_43.toInt td := ⟨_, rfl⟩
          rw [← ed_49] at p1r_44
          refine lv_aload_n hx hb dX4_readPart_132 rfl (lv_at hl 1 rfl) ?_
          refine ti_callVvE (ci := 4) (av := []) C hE hw (x_X4_knot l D A cy hJ M_45 iM_45 t ht ((tT_fr q_46).trans hT) B n rg p0r_44 d_49 p1r_44) ⟨ml_X4_167, ym_X4_knot, yv_X4_knot, yi_X4_knot, yc_X4_knot⟩ yd_X4_knot ob_1 (by decide) rfl rfl hl.1 (Nat.le_of_ble_eq_true rfl) ⟨by decide, by decide⟩ ⟨Nat.zero_le _, Nat.zero_le _⟩ dX4_readPart_133 (fun M_51 H locs hp_51 hw => ?_)
          obtain ⟨iM_51, q_52, q_53, q_54, q_55, q_56, p0r_50, p1r_50⟩ := hp_51
          obtain ⟨g_57, eg_57⟩ : ∃ z : Nat → Int, z = pp_kn B n rg := ⟨_, rfl⟩
          rw [← eg_57] at p0r_50
          have lg_57_0 : g_57 0 = (tI M_51 2 4).toInt := p0r_50.2.1.1
          have lg_57_1 : g_57 1 = (tI M_51 2 6).toInt := p0r_50.2.1.2.1
          have lg_57_4 : g_57 4 = (tI M_51 1 4).toInt := p0r_50.2.2.1.1
          have lg_57_7 : g_57 7 = (tI M_51 t 4).toInt := p0r_50.2.2.2.1.1
          have lg_57_8 : g_57 8 = (tI M_51 t 5).toInt := p0r_50.2.2.2.1.2.1
          refine lv_goto (tgt := 144) hx hb dX4_readPart_136 (by decide) ?_
          exact hQ _ _ _ _ _ hw (⟨iM_51, ((q_52).trans q_46), (f0.trans q_53 (f0_x q_47)), ((q_54).trans ((q_47 1).2.1)), (ot.trans q_55 q_48), (by rw [pe_0, if_neg (by omega)]; unfold pp_p0; rw [if_neg (by omega), if_pos ⟨by omega, by omega⟩, ← eg_57]; exact p0r_50), (by rw [qe_0, if_neg (by omega)]; unfold qq_p0; rw [if_neg (by omega), if_pos ⟨by omega, by omega⟩, show -(rg 0) = x_43.toInt by omega, ← ed_49]; exact p1r_50)⟩) dX4_readPart_144
    · refine lv_aload_n hx hb dX4_readPart_63 rfl (lv_at hl 1 rfl) ?_
      refine ti_get (ci := 4) (k := 0) (N := 6) (T := TX4) (v := .ref (A 2 0)) C hw iw_4 rfl ob_1 (by decide) (by decide) fl_X4_12 rfl rfl dX4_readPart_64 ?_
      refine ti_get (ci := 7) (k := 6) (N := 7) (T := TX7) C hw iw_7 rfl ob_2 (by decide) (by decide) fl_X4_95 rfl rfl dX4_readPart_67 ?_
      refine lv_topi (fun x_14 ex_14 => ?_)
      have bx_14 : 0 ≤ x_14.toInt ∧ x_14.toInt ≤ 2147483647 := cI_rd hI ob_2.1 ex_14
      have ux_14 : (tI M 2 6).toInt = x_14.toInt := by rw [ex_14]
      refine lv_sipush (v := 9999) hx hb dX4_readPart_70 (by decide) ?_
      refine sb_icmp_le (tgt := 84) hx hb rfl (by decide : (9999 : Int32).toInt = 9999) dX4_readPart_73 (by decide) (fun c_73_14 => ?_) (fun c_73_14 => ?_)
      · refine lv_iload_n hx hb dX4_readPart_84 rfl (lv_at hl 0 rfl) ?_
        refine lv_bipush (v := 26) hx hb dX4_readPart_85 (by decide) ?_
        refine sb_icmp_ne (tgt := 111) hx hb rfl (by decide : (26 : Int32).toInt = 26) dX4_readPart_87 (by decide) (fun h => by omega) (fun c_87_24 => ?_)
        refine lv_aload_n hx hb dX4_readPart_90 rfl (lv_at hl 1 rfl) ?_
        refine ti_get (ci := 4) (k := 2) (N := 6) (T := TX4) (v := .ref (A (ti_laws t j) 0)) C hw iw_4 rfl ob_1 (by decide) (by decide) fl_X4_154 rfl (ti_Tv (hL)) dX4_readPart_91 ?_
        refine lv_aload_n hx hb dX4_readPart_94 rfl (lv_at hl 1 rfl) ?_
        refine ti_get (ci := 4) (k := 0) (N := 6) (T := TX4) (v := .ref (A 2 0)) C hw iw_4 rfl ob_1 (by decide) (by decide) fl_X4_12 rfl rfl dX4_readPart_95 ?_
        refine ti_get (ci := 7) (k := 6) (N := 7) (T := TX7) C hw iw_7 rfl ob_2 (by decide) (by decide) fl_X4_95 rfl rfl dX4_readPart_98 ?_
        refine ti_top (y := x_14) (ex_14.symm) ?_
        have u_26 : (tI M 2 6).toInt = (x_14 : Int32).toInt := by rw [(ex_14.symm)]
        refine ti_callVv (ci := 1) (av := [.int x_14]) C hw (x_X1_add l D A cy hJ M hI t ht j hj x_14 (by first | omega | exact Or.inl (by decide) | exact Or.inr (by decide)) B n rg hr td hq) ⟨ml_X4_170, ym_X1_add, yv_X1_add, yi_X1_add, yc_X1_add⟩ yd_X1_add (ob_l ht hj) (by decide) rfl rfl hl.1 (Nat.le_of_ble_eq_true rfl) ⟨by decide, by decide⟩ ⟨Nat.zero_le _, Nat.zero_le _⟩ dX4_readPart_101 (fun M_28 H locs hp_28 hw => ?_)
        obtain ⟨iM_28, q_29, q_30, q_31, p0r_27, p1r_27⟩ := hp_28
        have lM_28_0 : rg 0 = (tI M_28 2 4).toInt := p0r_27.2.1.1
        have lM_28_1 : rg 1 = (tI M_28 2 6).toInt := p0r_27.2.1.2.1
        have lM_28_4 : rg 4 = (tI M_28 1 4).toInt := p0r_27.2.2.1.1
        have lM_28_7 : rg 7 = (tI M_28 t 4).toInt := p0r_27.2.2.2.1.1
        have lM_28_8 : rg 8 = (tI M_28 t 5).toInt := p0r_27.2.2.2.1.2.1
        obtain ⟨d_32, ed_32⟩ : ∃ z : Nat → Int, z = qa j x_14.toInt td := ⟨_, rfl⟩
        rw [← ed_32] at p1r_27
        refine lv_aload_n hx hb dX4_readPart_104 rfl (lv_at hl 1 rfl) ?_
        refine ti_callVvE (ci := 4) (av := []) C hE hw (x_X4_knot l D A cy hJ M_28 iM_28 t ht ((tT_fr q_29).trans hT) B n rg p0r_27 d_32 p1r_27) ⟨ml_X4_167, ym_X4_knot, yv_X4_knot, yi_X4_knot, yc_X4_knot⟩ yd_X4_knot ob_1 (by decide) rfl rfl hl.1 (Nat.le_of_ble_eq_true rfl) ⟨by decide, by decide⟩ ⟨Nat.zero_le _, Nat.zero_le _⟩ dX4_readPart_105 (fun M_34 H locs hp_34 hw => ?_)
        obtain ⟨iM_34, q_35, q_36, q_37, q_38, q_39, p0r_33, p1r_33⟩ := hp_34
        obtain ⟨g_40, eg_40⟩ : ∃ z : Nat → Int, z = pp_kn B n rg := ⟨_, rfl⟩
        rw [← eg_40] at p0r_33
        have lg_40_0 : g_40 0 = (tI M_34 2 4).toInt := p0r_33.2.1.1
        have lg_40_1 : g_40 1 = (tI M_34 2 6).toInt := p0r_33.2.1.2.1
        have lg_40_4 : g_40 4 = (tI M_34 1 4).toInt := p0r_33.2.2.1.1
        have lg_40_7 : g_40 7 = (tI M_34 t 4).toInt := p0r_33.2.2.2.1.1
        have lg_40_8 : g_40 8 = (tI M_34 t 5).toInt := p0r_33.2.2.2.1.2.1
        refine lv_goto (tgt := 144) hx hb dX4_readPart_108 (by decide) ?_
        exact hQ _ _ _ _ _ hw (⟨iM_34, ((q_35).trans q_29), (f0.trans q_36 (f0_x q_30)), ((q_37).trans ((q_30 1).2.1)), (ot.trans q_38 q_31), (by rw [pe_0, if_neg (by omega)]; unfold pp_p0; rw [if_pos (by omega), if_neg (by omega), ← eg_40]; exact p0r_33), (by rw [qe_0, if_neg (by omega)]; unfold qq_p0; rw [if_pos (by omega), if_neg (by omega), show rg 1 = x_14.toInt by omega, ← ed_32]; exact p1r_33)⟩) dX4_readPart_144
      · refine lv_aload_n hx hb dX4_readPart_76 rfl (lv_at hl 1 rfl) ?_
        refine lv_iconst (v := 2) hx hb dX4_readPart_77 (by decide) ?_
        refine ti_callVv (ci := 4) (av := [.int 2]) C hw (x_X4_refuse l D A cy hJ M hI t ht 2 B n rg hr) ⟨ml_X4_82, ym_X4_refuse, yv_X4_refuse, yi_X4_refuse, yc_X4_refuse⟩ yd_X4_refuse ob_1 (by decide) rfl rfl hl.1 (Nat.le_of_ble_eq_true rfl) ⟨by decide, by decide⟩ ⟨Nat.zero_le _, Nat.zero_le _⟩ dX4_readPart_78 (fun M_17 H locs hp_17 hw => ?_)
        obtain ⟨iM_17, q_18, q_19, q_20, q_21, p0r_16⟩ := hp_17
        have hlr_16_2 : (2 : Int32).toInt = 2 := by decide
        simp only [hlr_16_2] at p0r_16
        obtain ⟨g_22, eg_22⟩ : ∃ z : Nat → Int, z = pp_rf 2 rg := ⟨_, rfl⟩
        rw [← eg_22] at p0r_16
        have lg_22_0 : g_22 0 = (tI M_17 2 4).toInt := p0r_16.2.1.1
        have lg_22_1 : g_22 1 = (tI M_17 2 6).toInt := p0r_16.2.1.2.1
        have lg_22_4 : g_22 4 = (tI M_17 1 4).toInt := p0r_16.2.2.1.1
        have lg_22_7 : g_22 7 = (tI M_17 t 4).toInt := p0r_16.2.2.2.1.1
        have lg_22_8 : g_22 8 = (tI M_17 t 5).toInt := p0r_16.2.2.2.1.2.1
        have tq_23 : tq t td M_17 := tq_fr ht hq q_19 q_21
        refine lv_goto (tgt := 144) hx hb dX4_readPart_81 (by decide) ?_
        exact hQ _ _ _ _ _ hw (⟨iM_17, (q_18), (f0_12 q_19), (q_20), (ot_12 ht q_19 q_21), (by rw [pe_0, if_neg (by omega)]; unfold pp_p0; rw [if_pos (by omega), if_pos (by omega), ← eg_22]; exact p0r_16), (by rw [qe_0, if_neg (by omega)]; unfold qq_p0; rw [if_pos (by omega), if_pos (by omega)]; exact tq_23)⟩) dX4_readPart_144
  · refine lv_iload_n hx hb dX4_readPart_14 rfl (lv_at hl 2 rfl) ?_
    refine lv_bipush (v := 8) hx hb dX4_readPart_15 (by decide) ?_
    refine sb_icmp_lt (tgt := 28) hx hb (by decide : (8 : Int32).toInt = 8) (by decide : (8 : Int32).toInt = 8) dX4_readPart_17 (by decide) (fun h => absurd h (by decide)) (fun c_17_2 => ?_)
    refine lv_aload_n hx hb dX4_readPart_20 rfl (lv_at hl 1 rfl) ?_
    refine lv_iconst (v := 2) hx hb dX4_readPart_21 (by decide) ?_
    refine ti_callVv (ci := 4) (av := [.int 2]) C hw (x_X4_refuse l D A cy hJ M hI t ht 2 B n rg hr) ⟨ml_X4_82, ym_X4_refuse, yv_X4_refuse, yi_X4_refuse, yc_X4_refuse⟩ yd_X4_refuse ob_1 (by decide) rfl rfl hl.1 (Nat.le_of_ble_eq_true rfl) ⟨by decide, by decide⟩ ⟨Nat.zero_le _, Nat.zero_le _⟩ dX4_readPart_22 (fun M_5 H locs hp_5 hw => ?_)
    obtain ⟨iM_5, q_6, q_7, q_8, q_9, p0r_4⟩ := hp_5
    have hlr_4_2 : (2 : Int32).toInt = 2 := by decide
    simp only [hlr_4_2] at p0r_4
    obtain ⟨g_10, eg_10⟩ : ∃ z : Nat → Int, z = pp_rf 2 rg := ⟨_, rfl⟩
    rw [← eg_10] at p0r_4
    have lg_10_0 : g_10 0 = (tI M_5 2 4).toInt := p0r_4.2.1.1
    have lg_10_1 : g_10 1 = (tI M_5 2 6).toInt := p0r_4.2.1.2.1
    have lg_10_4 : g_10 4 = (tI M_5 1 4).toInt := p0r_4.2.2.1.1
    have lg_10_7 : g_10 7 = (tI M_5 t 4).toInt := p0r_4.2.2.2.1.1
    have lg_10_8 : g_10 8 = (tI M_5 t 5).toInt := p0r_4.2.2.2.1.2.1
    have tq_11 : tq t td M_5 := tq_fr ht hq q_7 q_9
    refine lv_goto (tgt := 144) hx hb dX4_readPart_25 (by decide) ?_
    exact hQ _ _ _ _ _ hw (⟨iM_5, (q_6), (f0_12 q_7), (q_8), (ot_12 ht q_7 q_9), (by rw [pe_0, if_pos (by omega), ← eg_10]; exact p0r_4), (by rw [qe_0, if_pos (by omega)]; exact tq_11)⟩) dX4_readPart_144
set_option maxHeartbeats 4000000 in
set_option maxRecDepth 100000 in
theorem x_X4_readProduct_8 (l : Launch) (D : va_G) (A : Nat → Nat → Nat) (cy : Nat → ClassId) (hJ : ti_inj ti_LT A) (M : ti_M) (hI : cI Tc M) (t : Nat) (ht : t = 3 ∨ t = 4) (hT : tT M 1 1 = some t) (j : Nat) (hj : j < 3) (hL : tT M 1 2 = some (ti_laws t j)) (B : Nat → Int) (n : Nat) (rg : Nat → Int) (hr : rC B n t rg M) (td : Nat → Int) (hq : tq t td M) : ti_KvE l yX4_readProduct cX4_readProduct 4 9 ti_LT D A cy M [.ref (A 1 0), .int 8] (fun M2 => cI Tc M2 ∧ M2.2.2.2 = M.2.2.2 ∧ f0 M2 M ∧ tI M2 2 1 = tI M 2 1 ∧ ot t M2 M ∧ rC B n t (pp_pd B n (pp_pt B n 0) rg) M2 ∧ tq t (qq_pd B n j (pp_pt B n 0) (qq_pt B n j 0) rg td) M2) := by
  refine ti_eVE yp_X4_readProduct hJ ti_LT_nd (Nat.le_of_ble_eq_true rfl) ?_
  intro p e s m args below meth c Q H0 C hE hQ hw ls hl
  have hx := C.1
  have hb := C.2.1
  have hl : lv_has ls 4 [(0, .ref (A 1 0)), (1, .int 8)] := hl
  have l0 : rg 0 = (tI M 2 4).toInt := hr.2.1.1
  have l1 : rg 1 = (tI M 2 6).toInt := hr.2.1.2.1
  have l2 : rg 2 = (tI M 2 5).toInt := hr.2.1.2.2.1
  have l3 : rg 3 = (tI M 2 3).toInt := hr.2.1.2.2.2
  have l4 : rg 4 = (tI M 1 4).toInt := hr.2.2.1.1
  have l5 : rg 5 = (tI M 1 5).toInt := hr.2.2.1.2.1
  have l7 : rg 7 = (tI M t 4).toInt := hr.2.2.2.1.1
  have l8 : rg 8 = (tI M t 5).toInt := hr.2.2.2.1.2.1
  have l9 : rg 9 = (tI M t 3).toInt := hr.2.2.2.1.2.2
  refine lv_aload_n hx hb dX4_readProduct_0 rfl (lv_at hl 0 rfl) ?_
  refine lv_iload_n hx hb dX4_readProduct_1 rfl (lv_at hl 1 rfl) ?_
  refine ti_callVvE (ci := 4) (av := [.int 8]) C hE hw (x_X4_readPart_8 l D A cy hJ M hI t ht (hT) j hj (hL) B n rg hr td hq) ⟨ml_X4_187, ym_X4_readPart, yv_X4_readPart, yi_X4_readPart, yc_X4_readPart⟩ yd_X4_readPart ob_1 (by decide) rfl rfl hl.1 (Nat.le_of_ble_eq_true rfl) ⟨by decide, by decide⟩ ⟨Nat.zero_le _, Nat.zero_le _⟩ dX4_readProduct_2 (fun M_2 H locs hp_2 hw => ?_)
  obtain ⟨iM_2, q_3, q_4, q_5, q_6, p0r_1, p1r_1⟩ := hp_2
  obtain ⟨g_7, eg_7⟩ : ∃ z : Nat → Int, z = pp_pt B n 0 rg := ⟨_, rfl⟩
  rw [← eg_7] at p0r_1
  have lg_7_0 : g_7 0 = (tI M_2 2 4).toInt := p0r_1.2.1.1
  have lg_7_1 : g_7 1 = (tI M_2 2 6).toInt := p0r_1.2.1.2.1
  have lg_7_4 : g_7 4 = (tI M_2 1 4).toInt := p0r_1.2.2.1.1
  have lg_7_7 : g_7 7 = (tI M_2 t 4).toInt := p0r_1.2.2.2.1.1
  have lg_7_8 : g_7 8 = (tI M_2 t 5).toInt := p0r_1.2.2.2.1.2.1
  obtain ⟨d_8, ed_8⟩ : ∃ z : Nat → Int, z = qq_pt B n j 0 rg td := ⟨_, rfl⟩
  rw [← ed_8] at p1r_1
  refine lv_iconst (v := 0) hx hb dX4_readProduct_5 (by decide) ?_
  refine lv_istore_n (lv' := [(2, .int 0), (0, .ref (A 1 0)), (1, .int 8)]) hx hb dX4_readProduct_6 rfl hl (by decide) rfl (fun ls hl => ?_)
  have hl_7_24 : ∀ (n_25 : Nat) (x_9 : Int32) (M_12 : ti_M) (g_19 : Nat → Int) (d_21 : Nat → Int) (H : Heap) (locs : List Loc) (ls : Array Slot), (64 - x_9.toInt : Int).toNat < n_25 → (0 ≤ x_9.toInt) → (x_9.toInt ≤ 64) → (cI Tc M_12) → (M_12.2.2.2 = M.2.2.2) → (f0 M_12 M) → (tI M_12 2 1 = tI M 2 1) → (ot t M_12 M) → (tT M_12 1 1 = (some t)) → (tT M_12 1 2 = (some (ti_laws t j))) → (rC B n t g_19 M_12) → (tq t d_21 M_12) → (pp_lp pp_qT (fun s => (pp_pt B n 0) (pp_kn B n s)) 64 g_7 = pp_lp pp_qT (fun s => (pp_pt B n 0) (pp_kn B n s)) (64 - (x_9.toInt).toNat) g_19) → (qq_lp pp_qT (fun s => (pp_pt B n 0) (pp_kn B n s)) (fun s td => qa j (-(s 0)) ((qq_pt B n j 0) (pp_kn B n s) td)) 64 g_7 d_8 = qq_lp pp_qT (fun s => (pp_pt B n 0) (pp_kn B n s)) (fun s td => qa j (-(s 0)) ((qq_pt B n j 0) (pp_kn B n s) td)) (64 - (x_9.toInt).toNat) g_19 d_21) → ti_H ti_LT D A cy H0 M_12 H locs → lv_has ls 4 [(2, .int x_9), (0, .ref (A 1 0)), (1, .int 8)] → W p l e (ti_rm 9) s m args below meth c H locs 0 0 Q (F0 m 7 ls []) := by
    intro n_25
    induction n_25 with
    | zero => intro x_9 M_12 g_19 d_21 H locs ls hf_25; exact absurd hf_25 (Nat.not_lt_zero _)
    | succ n_25 ih_25 =>
      intro x_9 M_12 g_19 d_21 H locs ls hf_25 b_10 b_11 iM_12 f_13 f_14 f_15 f_16 f_17 f_18 hs_20 tq_22 j_23 j_24 hw hl
      have lg_19_0 : g_19 0 = (tI M_12 2 4).toInt := hs_20.2.1.1
      have lg_19_1 : g_19 1 = (tI M_12 2 6).toInt := hs_20.2.1.2.1
      have lg_19_4 : g_19 4 = (tI M_12 1 4).toInt := hs_20.2.2.1.1
      have lg_19_7 : g_19 7 = (tI M_12 t 4).toInt := hs_20.2.2.2.1.1
      have lg_19_8 : g_19 8 = (tI M_12 t 5).toInt := hs_20.2.2.2.1.2.1
      refine lv_iload_n hx hb dX4_readProduct_7 rfl (lv_at hl 0 rfl) ?_
      refine lv_bipush (v := 64) hx hb dX4_readProduct_8 (by decide) ?_
      refine sb_icmp_ge (tgt := 69) hx hb rfl (by decide : (64 : Int32).toInt = 64) dX4_readProduct_10 (by decide) (fun c_10_25 => ?_) (fun c_10_25 => ?_)
      · exact hQ _ _ _ _ _ hw (⟨iM_12, (f_13), f_14, (f_15), f_16, (by unfold pp_pd; rw [← eg_7, j_23, lp_end (P := pp_qT) (f := 64 - x_9.toInt.toNat) (s := g_19) (Or.inl (by omega))]; exact hs_20), (by unfold qq_pd; rw [← eg_7, ← ed_8, j_24, qlp_end (P := pp_qT) (f := 64 - x_9.toInt.toNat) (s := g_19) (Or.inl (by omega))]; exact tq_22)⟩) dX4_readProduct_69
      · refine lv_aload_n hx hb dX4_readProduct_13 rfl (lv_at hl 1 rfl) ?_
        refine ti_get (ci := 4) (k := 0) (N := 6) (T := TX4) (v := .ref (A 2 0)) C hw iw_4 rfl ob_1 (by decide) (by decide) fl_X4_12 rfl rfl dX4_readProduct_14 ?_
        refine ti_get (ci := 7) (k := 4) (N := 7) (T := TX7) C hw iw_7 rfl ob_2 (by decide) (by decide) fl_X4_41 rfl rfl dX4_readProduct_17 ?_
        refine lv_topi (fun x_27 ex_27 => ?_)
        have bx_27 : 0 ≤ x_27.toInt ∧ x_27.toInt ≤ 41 := cI_rd iM_12 ob_2.1 ex_27
        have ux_27 : (tI M_12 2 4).toInt = x_27.toInt := by rw [ex_27]
        refine lv_bipush (v := 40) hx hb dX4_readProduct_20 (by decide) ?_
        refine sb_icmp_eq (tgt := 37) hx hb rfl (by decide : (40 : Int32).toInt = 40) dX4_readProduct_22 (by decide) (fun c_22_27 => ?_) (fun c_22_27 => ?_)
        · refine lv_aload_n hx hb dX4_readProduct_37 rfl (lv_at hl 1 rfl) ?_
          refine ti_get (ci := 4) (k := 0) (N := 6) (T := TX4) (v := .ref (A 2 0)) C hw iw_4 rfl ob_1 (by decide) (by decide) fl_X4_12 rfl rfl dX4_readProduct_38 ?_
          refine ti_get (ci := 7) (k := 4) (N := 7) (T := TX7) C hw iw_7 rfl ob_2 (by decide) (by decide) fl_X4_41 rfl rfl dX4_readProduct_41 ?_
          refine ti_top (y := x_27) (ex_27.symm) ?_
          have u_31 : (tI M_12 2 4).toInt = (x_27 : Int32).toInt := by rw [(ex_27.symm)]
          refine lv_istore_n (lv' := [(3, .int x_27), (2, .int x_9), (0, .ref (A 1 0)), (1, .int 8)]) hx hb dX4_readProduct_44 rfl hl (by decide) rfl (fun ls hl => ?_)
          refine lv_aload_n hx hb dX4_readProduct_45 rfl (lv_at hl 2 rfl) ?_
          refine ti_callVvE (ci := 4) (av := []) C hE hw (x_X4_knot l D A cy hJ M_12 iM_12 t ht (f_17) B n g_19 hs_20 d_21 tq_22) ⟨ml_X4_167, ym_X4_knot, yv_X4_knot, yi_X4_knot, yc_X4_knot⟩ yd_X4_knot ob_1 (by decide) rfl rfl hl.1 (Nat.le_of_ble_eq_true rfl) ⟨by decide, by decide⟩ ⟨Nat.zero_le _, Nat.zero_le _⟩ dX4_readProduct_46 (fun M_33 H locs hp_33 hw => ?_)
          obtain ⟨iM_33, q_34, q_35, q_36, q_37, q_38, p0r_32, p1r_32⟩ := hp_33
          obtain ⟨g_39, eg_39⟩ : ∃ z : Nat → Int, z = pp_kn B n g_19 := ⟨_, rfl⟩
          rw [← eg_39] at p0r_32
          have lg_39_0 : g_39 0 = (tI M_33 2 4).toInt := p0r_32.2.1.1
          have lg_39_1 : g_39 1 = (tI M_33 2 6).toInt := p0r_32.2.1.2.1
          have lg_39_4 : g_39 4 = (tI M_33 1 4).toInt := p0r_32.2.2.1.1
          have lg_39_7 : g_39 7 = (tI M_33 t 4).toInt := p0r_32.2.2.2.1.1
          have lg_39_8 : g_39 8 = (tI M_33 t 5).toInt := p0r_32.2.2.2.1.2.1
          refine lv_aload_n hx hb dX4_readProduct_49 rfl (lv_at hl 2 rfl) ?_
          refine lv_iload_n hx hb dX4_readProduct_50 rfl (lv_at hl 3 rfl) ?_
          refine ti_callVvE (ci := 4) (av := [.int 8]) C hE hw (x_X4_readPart_8 l D A cy hJ M_33 iM_33 t ht ((tT_fr q_34).trans f_17) j hj ((tT_fr q_34).trans f_18) B n g_39 p0r_32 d_21 p1r_32) ⟨ml_X4_187, ym_X4_readPart, yv_X4_readPart, yi_X4_readPart, yc_X4_readPart⟩ yd_X4_readPart ob_1 (by decide) rfl rfl hl.1 (Nat.le_of_ble_eq_true rfl) ⟨by decide, by decide⟩ ⟨Nat.zero_le _, Nat.zero_le _⟩ dX4_readProduct_51 (fun M_41 H locs hp_41 hw => ?_)
          obtain ⟨iM_41, q_42, q_43, q_44, q_45, p0r_40, p1r_40⟩ := hp_41
          obtain ⟨g_46, eg_46⟩ : ∃ z : Nat → Int, z = pp_pt B n 0 g_39 := ⟨_, rfl⟩
          rw [← eg_46] at p0r_40
          have lg_46_0 : g_46 0 = (tI M_41 2 4).toInt := p0r_40.2.1.1
          have lg_46_1 : g_46 1 = (tI M_41 2 6).toInt := p0r_40.2.1.2.1
          have lg_46_4 : g_46 4 = (tI M_41 1 4).toInt := p0r_40.2.2.1.1
          have lg_46_7 : g_46 7 = (tI M_41 t 4).toInt := p0r_40.2.2.2.1.1
          have lg_46_8 : g_46 8 = (tI M_41 t 5).toInt := p0r_40.2.2.2.1.2.1
          obtain ⟨d_47, ed_47⟩ : ∃ z : Nat → Int, z = qq_pt B n j 0 g_39 d_21 := ⟨_, rfl⟩
          rw [← ed_47] at p1r_40
          refine lv_aload_n hx hb dX4_readProduct_54 rfl (lv_at hl 2 rfl) ?_
          refine ti_get (ci := 4) (k := 2) (N := 6) (T := TX4) (v := .ref (A (ti_laws t j) 0)) C hw iw_4 rfl ob_1 (by decide) (by decide) fl_X4_154 rfl (ti_Tv ((tT_fr q_42).trans ((tT_fr q_34).trans f_18))) dX4_readProduct_55 ?_
          refine lv_iload_n hx hb dX4_readProduct_58 rfl (lv_at hl 0 rfl) ?_
          refine lv_ineg hx hb dX4_readProduct_59 ?_
          refine lv_topi (fun x_48 ex_48 => ?_)
          have tx_48 : x_48.toInt = -x_27.toInt := i_neg ex_48 rfl (by omega)
          refine ti_callVv (ci := 1) (av := [.int x_48]) C hw (x_X1_add l D A cy hJ M_41 iM_41 t ht j hj x_48 (by first | omega | exact Or.inl (by decide) | exact Or.inr (by decide)) B n g_46 p0r_40 d_47 p1r_40) ⟨ml_X4_170, ym_X1_add, yv_X1_add, yi_X1_add, yc_X1_add⟩ yd_X1_add (ob_l ht hj) (by decide) rfl rfl hl.1 (Nat.le_of_ble_eq_true rfl) ⟨by decide, by decide⟩ ⟨Nat.zero_le _, Nat.zero_le _⟩ dX4_readProduct_60 (fun M_50 H locs hp_50 hw => ?_)
          obtain ⟨iM_50, q_51, q_52, q_53, p0r_49, p1r_49⟩ := hp_50
          have lM_50_0 : g_46 0 = (tI M_50 2 4).toInt := p0r_49.2.1.1
          have lM_50_1 : g_46 1 = (tI M_50 2 6).toInt := p0r_49.2.1.2.1
          have lM_50_4 : g_46 4 = (tI M_50 1 4).toInt := p0r_49.2.2.1.1
          have lM_50_7 : g_46 7 = (tI M_50 t 4).toInt := p0r_49.2.2.2.1.1
          have lM_50_8 : g_46 8 = (tI M_50 t 5).toInt := p0r_49.2.2.2.1.2.1
          obtain ⟨d_54, ed_54⟩ : ∃ z : Nat → Int, z = qa j x_48.toInt d_47 := ⟨_, rfl⟩
          rw [← ed_54] at p1r_49
          obtain ⟨x_55, ex_55⟩ : ∃ z : Int32, z = x_9 + 1 := ⟨_, rfl⟩
          have tx_55 : x_55.toInt = x_9.toInt + 1 := i_add ex_55 rfl (by decide) (by omega) (by omega)
          refine lv_iinc (v := x_55) (lv' := [(2, .int x_55), (3, .int x_27), (0, .ref (A 1 0)), (1, .int 8)]) hx hb dX4_readProduct_63 hl (k := 1) rfl (by rw [ex_55]; rfl) (by decide) rfl (fun ls hl => ?_)
          refine lv_goto (tgt := 7) hx hb dX4_readProduct_66 (by decide) ?_
          exact ih_25 x_55 M_50 g_46 d_54 _ _ _ (by omega) (by first | omega | decide) (by first | omega | decide) iM_50 ((q_51).trans ((q_42).trans ((q_34).trans f_13))) (f0.trans (f0_x q_52) (f0.trans q_43 (f0.trans q_35 f_14))) (((q_52 1).2.1).trans ((q_44).trans ((q_36).trans f_15))) (ot.trans q_53 (ot.trans q_45 (ot.trans q_37 f_16))) ((tT_fr q_51).trans ((tT_fr q_42).trans ((tT_fr q_34).trans f_17))) ((tT_fr q_51).trans ((tT_fr q_42).trans ((tT_fr q_34).trans f_18))) p0r_49 p1r_49 (j_23.trans (lp_step (decide_eq_true (by omega)) (by rw [eg_46, eg_39]) (by omega))) (j_24.trans (qlp_step (decide_eq_true (by omega)) (by rw [eg_46, eg_39]) (by rw [ed_54, show x_48.toInt = -(g_19 0) by omega, ed_47, eg_39]) (by omega))) hw (lv_sub hl [0, 2, 3] rfl)
        · refine lv_aload_n hx hb dX4_readProduct_25 rfl (lv_at hl 1 rfl) ?_
          refine ti_get (ci := 4) (k := 0) (N := 6) (T := TX4) (v := .ref (A 2 0)) C hw iw_4 rfl ob_1 (by decide) (by decide) fl_X4_12 rfl rfl dX4_readProduct_26 ?_
          refine ti_get (ci := 7) (k := 4) (N := 7) (T := TX7) C hw iw_7 rfl ob_2 (by decide) (by decide) fl_X4_41 rfl rfl dX4_readProduct_29 ?_
          refine ti_top (y := x_27) (ex_27.symm) ?_
          have u_29 : (tI M_12 2 4).toInt = (x_27 : Int32).toInt := by rw [(ex_27.symm)]
          refine lv_bipush (v := 41) hx hb dX4_readProduct_32 (by decide) ?_
          refine sb_icmp_ne (tgt := 69) hx hb rfl (by decide : (41 : Int32).toInt = 41) dX4_readProduct_34 (by decide) (fun c_34_29 => ?_) (fun c_34_29 => ?_)
          · exact hQ _ _ _ _ _ hw (⟨iM_12, (f_13), f_14, (f_15), f_16, (by unfold pp_pd; rw [← eg_7, j_23, lp_end (P := pp_qT) (f := 64 - x_9.toInt.toNat) (s := g_19) (Or.inr (decide_eq_false (by omega)))]; exact hs_20), (by unfold qq_pd; rw [← eg_7, ← ed_8, j_24, qlp_end (P := pp_qT) (f := 64 - x_9.toInt.toNat) (s := g_19) (Or.inr (decide_eq_false (by omega)))]; exact tq_22)⟩) dX4_readProduct_69
          · refine lv_aload_n hx hb dX4_readProduct_37 rfl (lv_at hl 1 rfl) ?_
            refine ti_get (ci := 4) (k := 0) (N := 6) (T := TX4) (v := .ref (A 2 0)) C hw iw_4 rfl ob_1 (by decide) (by decide) fl_X4_12 rfl rfl dX4_readProduct_38 ?_
            refine ti_get (ci := 7) (k := 4) (N := 7) (T := TX7) C hw iw_7 rfl ob_2 (by decide) (by decide) fl_X4_41 rfl rfl dX4_readProduct_41 ?_
            refine ti_top (y := x_27) (ex_27.symm) ?_
            have u_56 : (tI M_12 2 4).toInt = (x_27 : Int32).toInt := by rw [(ex_27.symm)]
            refine lv_istore_n (lv' := [(3, .int x_27), (2, .int x_9), (0, .ref (A 1 0)), (1, .int 8)]) hx hb dX4_readProduct_44 rfl hl (by decide) rfl (fun ls hl => ?_)
            refine lv_aload_n hx hb dX4_readProduct_45 rfl (lv_at hl 2 rfl) ?_
            refine ti_callVvE (ci := 4) (av := []) C hE hw (x_X4_knot l D A cy hJ M_12 iM_12 t ht (f_17) B n g_19 hs_20 d_21 tq_22) ⟨ml_X4_167, ym_X4_knot, yv_X4_knot, yi_X4_knot, yc_X4_knot⟩ yd_X4_knot ob_1 (by decide) rfl rfl hl.1 (Nat.le_of_ble_eq_true rfl) ⟨by decide, by decide⟩ ⟨Nat.zero_le _, Nat.zero_le _⟩ dX4_readProduct_46 (fun M_58 H locs hp_58 hw => ?_)
            obtain ⟨iM_58, q_59, q_60, q_61, q_62, q_63, p0r_57, p1r_57⟩ := hp_58
            obtain ⟨g_64, eg_64⟩ : ∃ z : Nat → Int, z = pp_kn B n g_19 := ⟨_, rfl⟩
            rw [← eg_64] at p0r_57
            have lg_64_0 : g_64 0 = (tI M_58 2 4).toInt := p0r_57.2.1.1
            have lg_64_1 : g_64 1 = (tI M_58 2 6).toInt := p0r_57.2.1.2.1
            have lg_64_4 : g_64 4 = (tI M_58 1 4).toInt := p0r_57.2.2.1.1
            have lg_64_7 : g_64 7 = (tI M_58 t 4).toInt := p0r_57.2.2.2.1.1
            have lg_64_8 : g_64 8 = (tI M_58 t 5).toInt := p0r_57.2.2.2.1.2.1
            refine lv_aload_n hx hb dX4_readProduct_49 rfl (lv_at hl 2 rfl) ?_
            refine lv_iload_n hx hb dX4_readProduct_50 rfl (lv_at hl 3 rfl) ?_
            refine ti_callVvE (ci := 4) (av := [.int 8]) C hE hw (x_X4_readPart_8 l D A cy hJ M_58 iM_58 t ht ((tT_fr q_59).trans f_17) j hj ((tT_fr q_59).trans f_18) B n g_64 p0r_57 d_21 p1r_57) ⟨ml_X4_187, ym_X4_readPart, yv_X4_readPart, yi_X4_readPart, yc_X4_readPart⟩ yd_X4_readPart ob_1 (by decide) rfl rfl hl.1 (Nat.le_of_ble_eq_true rfl) ⟨by decide, by decide⟩ ⟨Nat.zero_le _, Nat.zero_le _⟩ dX4_readProduct_51 (fun M_66 H locs hp_66 hw => ?_)
            obtain ⟨iM_66, q_67, q_68, q_69, q_70, p0r_65, p1r_65⟩ := hp_66
            obtain ⟨g_71, eg_71⟩ : ∃ z : Nat → Int, z = pp_pt B n 0 g_64 := ⟨_, rfl⟩
            rw [← eg_71] at p0r_65
            have lg_71_0 : g_71 0 = (tI M_66 2 4).toInt := p0r_65.2.1.1
            have lg_71_1 : g_71 1 = (tI M_66 2 6).toInt := p0r_65.2.1.2.1
            have lg_71_4 : g_71 4 = (tI M_66 1 4).toInt := p0r_65.2.2.1.1
            have lg_71_7 : g_71 7 = (tI M_66 t 4).toInt := p0r_65.2.2.2.1.1
            have lg_71_8 : g_71 8 = (tI M_66 t 5).toInt := p0r_65.2.2.2.1.2.1
            obtain ⟨d_72, ed_72⟩ : ∃ z : Nat → Int, z = qq_pt B n j 0 g_64 d_21 := ⟨_, rfl⟩
            rw [← ed_72] at p1r_65
            refine lv_aload_n hx hb dX4_readProduct_54 rfl (lv_at hl 2 rfl) ?_
            refine ti_get (ci := 4) (k := 2) (N := 6) (T := TX4) (v := .ref (A (ti_laws t j) 0)) C hw iw_4 rfl ob_1 (by decide) (by decide) fl_X4_154 rfl (ti_Tv ((tT_fr q_67).trans ((tT_fr q_59).trans f_18))) dX4_readProduct_55 ?_
            refine lv_iload_n hx hb dX4_readProduct_58 rfl (lv_at hl 0 rfl) ?_
            refine lv_ineg hx hb dX4_readProduct_59 ?_
            refine lv_topi (fun x_73 ex_73 => ?_)
            have tx_73 : x_73.toInt = -x_27.toInt := i_neg ex_73 rfl (by omega)
            refine ti_callVv (ci := 1) (av := [.int x_73]) C hw (x_X1_add l D A cy hJ M_66 iM_66 t ht j hj x_73 (by first | omega | exact Or.inl (by decide) | exact Or.inr (by decide)) B n g_71 p0r_65 d_72 p1r_65) ⟨ml_X4_170, ym_X1_add, yv_X1_add, yi_X1_add, yc_X1_add⟩ yd_X1_add (ob_l ht hj) (by decide) rfl rfl hl.1 (Nat.le_of_ble_eq_true rfl) ⟨by decide, by decide⟩ ⟨Nat.zero_le _, Nat.zero_le _⟩ dX4_readProduct_60 (fun M_75 H locs hp_75 hw => ?_)
            obtain ⟨iM_75, q_76, q_77, q_78, p0r_74, p1r_74⟩ := hp_75
            have lM_75_0 : g_71 0 = (tI M_75 2 4).toInt := p0r_74.2.1.1
            have lM_75_1 : g_71 1 = (tI M_75 2 6).toInt := p0r_74.2.1.2.1
            have lM_75_4 : g_71 4 = (tI M_75 1 4).toInt := p0r_74.2.2.1.1
            have lM_75_7 : g_71 7 = (tI M_75 t 4).toInt := p0r_74.2.2.2.1.1
            have lM_75_8 : g_71 8 = (tI M_75 t 5).toInt := p0r_74.2.2.2.1.2.1
            obtain ⟨d_79, ed_79⟩ : ∃ z : Nat → Int, z = qa j x_73.toInt d_72 := ⟨_, rfl⟩
            rw [← ed_79] at p1r_74
            obtain ⟨x_80, ex_80⟩ : ∃ z : Int32, z = x_9 + 1 := ⟨_, rfl⟩
            have tx_80 : x_80.toInt = x_9.toInt + 1 := i_add ex_80 rfl (by decide) (by omega) (by omega)
            refine lv_iinc (v := x_80) (lv' := [(2, .int x_80), (3, .int x_27), (0, .ref (A 1 0)), (1, .int 8)]) hx hb dX4_readProduct_63 hl (k := 1) rfl (by rw [ex_80]; rfl) (by decide) rfl (fun ls hl => ?_)
            refine lv_goto (tgt := 7) hx hb dX4_readProduct_66 (by decide) ?_
            exact ih_25 x_80 M_75 g_71 d_79 _ _ _ (by omega) (by first | omega | decide) (by first | omega | decide) iM_75 ((q_76).trans ((q_67).trans ((q_59).trans f_13))) (f0.trans (f0_x q_77) (f0.trans q_68 (f0.trans q_60 f_14))) (((q_77 1).2.1).trans ((q_69).trans ((q_61).trans f_15))) (ot.trans q_78 (ot.trans q_70 (ot.trans q_62 f_16))) ((tT_fr q_76).trans ((tT_fr q_67).trans ((tT_fr q_59).trans f_17))) ((tT_fr q_76).trans ((tT_fr q_67).trans ((tT_fr q_59).trans f_18))) p0r_74 p1r_74 (j_23.trans (lp_step (decide_eq_true (by omega)) (by rw [eg_71, eg_64]) (by omega))) (j_24.trans (qlp_step (decide_eq_true (by omega)) (by rw [eg_71, eg_64]) (by rw [ed_79, show x_73.toInt = -(g_19 0) by omega, ed_72, eg_64]) (by omega))) hw (lv_sub hl [0, 2, 3] rfl)
  exact hl_7_24 ((64 - 0 : Int).toNat + 1) 0 M_2 g_7 d_8 _ _ _ (Nat.lt_succ_self _) (by have lt0 : (0 : Int32).toInt = 0 := (by decide); first | omega | decide) (by have lt0 : (0 : Int32).toInt = 0 := (by decide); first | omega | decide) iM_2 (q_3) q_4 (q_5) q_6 ((tT_fr q_3).trans hT) ((tT_fr q_3).trans hL) p0r_1 p1r_1 rfl rfl hw (lv_sub hl [0, 1, 2] rfl)
set_option maxHeartbeats 4000000 in
set_option maxRecDepth 100000 in
theorem x_X4_readSum_8 (l : Launch) (D : va_G) (A : Nat → Nat → Nat) (cy : Nat → ClassId) (hJ : ti_inj ti_LT A) (M : ti_M) (hI : cI Tc M) (t : Nat) (ht : t = 3 ∨ t = 4) (hT : tT M 1 1 = some t) (j : Nat) (hj : j < 3) (hL : tT M 1 2 = some (ti_laws t j)) (B : Nat → Int) (n : Nat) (rg : Nat → Int) (hr : rC B n t rg M) (td : Nat → Int) (hq : tq t td M) : ti_KvE l yX4_readSum cX4_readSum 4 10 ti_LT D A cy M [.ref (A 1 0), .int 8] (fun M2 => cI Tc M2 ∧ M2.2.2.2 = M.2.2.2 ∧ f0 M2 M ∧ tI M2 2 1 = tI M 2 1 ∧ ot t M2 M ∧ rC B n t (pp_sm B n (pp_pt B n 0) rg) M2 ∧ tq t (qq_sm B n j (pp_pt B n 0) (qq_pt B n j 0) rg td) M2) := by
  refine ti_eVE yp_X4_readSum hJ ti_LT_nd (Nat.le_of_ble_eq_true rfl) ?_
  intro p e s m args below meth c Q H0 C hE hQ hw ls hl
  have hx := C.1
  have hb := C.2.1
  have hl : lv_has ls 4 [(0, .ref (A 1 0)), (1, .int 8)] := hl
  have l0 : rg 0 = (tI M 2 4).toInt := hr.2.1.1
  have l1 : rg 1 = (tI M 2 6).toInt := hr.2.1.2.1
  have l2 : rg 2 = (tI M 2 5).toInt := hr.2.1.2.2.1
  have l3 : rg 3 = (tI M 2 3).toInt := hr.2.1.2.2.2
  have l4 : rg 4 = (tI M 1 4).toInt := hr.2.2.1.1
  have l5 : rg 5 = (tI M 1 5).toInt := hr.2.2.1.2.1
  have l7 : rg 7 = (tI M t 4).toInt := hr.2.2.2.1.1
  have l8 : rg 8 = (tI M t 5).toInt := hr.2.2.2.1.2.1
  have l9 : rg 9 = (tI M t 3).toInt := hr.2.2.2.1.2.2
  refine lv_aload_n hx hb dX4_readSum_0 rfl (lv_at hl 0 rfl) ?_
  refine lv_iload_n hx hb dX4_readSum_1 rfl (lv_at hl 1 rfl) ?_
  refine ti_callVvE (ci := 4) (av := [.int 8]) C hE hw (x_X4_readProduct_8 l D A cy hJ M hI t ht (hT) j hj (hL) B n rg hr td hq) ⟨ml_X4_184, ym_X4_readProduct, yv_X4_readProduct, yi_X4_readProduct, yc_X4_readProduct⟩ yd_X4_readProduct ob_1 (by decide) rfl rfl hl.1 (Nat.le_of_ble_eq_true rfl) ⟨by decide, by decide⟩ ⟨Nat.zero_le _, Nat.zero_le _⟩ dX4_readSum_2 (fun M_2 H locs hp_2 hw => ?_)
  obtain ⟨iM_2, q_3, q_4, q_5, q_6, p0r_1, p1r_1⟩ := hp_2
  obtain ⟨g_7, eg_7⟩ : ∃ z : Nat → Int, z = pp_pd B n (pp_pt B n 0) rg := ⟨_, rfl⟩
  rw [← eg_7] at p0r_1
  have lg_7_0 : g_7 0 = (tI M_2 2 4).toInt := p0r_1.2.1.1
  have lg_7_1 : g_7 1 = (tI M_2 2 6).toInt := p0r_1.2.1.2.1
  have lg_7_4 : g_7 4 = (tI M_2 1 4).toInt := p0r_1.2.2.1.1
  have lg_7_7 : g_7 7 = (tI M_2 t 4).toInt := p0r_1.2.2.2.1.1
  have lg_7_8 : g_7 8 = (tI M_2 t 5).toInt := p0r_1.2.2.2.1.2.1
  obtain ⟨d_8, ed_8⟩ : ∃ z : Nat → Int, z = qq_pd B n j (pp_pt B n 0) (qq_pt B n j 0) rg td := ⟨_, rfl⟩
  rw [← ed_8] at p1r_1
  refine lv_iconst (v := 0) hx hb dX4_readSum_5 (by decide) ?_
  refine lv_istore_n (lv' := [(2, .int 0), (0, .ref (A 1 0)), (1, .int 8)]) hx hb dX4_readSum_6 rfl hl (by decide) rfl (fun ls hl => ?_)
  have hl_7_24 : ∀ (n_25 : Nat) (x_9 : Int32) (M_12 : ti_M) (g_19 : Nat → Int) (d_21 : Nat → Int) (H : Heap) (locs : List Loc) (ls : Array Slot), (64 - x_9.toInt : Int).toNat < n_25 → (0 ≤ x_9.toInt) → (x_9.toInt ≤ 64) → (cI Tc M_12) → (M_12.2.2.2 = M.2.2.2) → (f0 M_12 M) → (tI M_12 2 1 = tI M 2 1) → (ot t M_12 M) → (tT M_12 1 1 = (some t)) → (tT M_12 1 2 = (some (ti_laws t j))) → (rC B n t g_19 M_12) → (tq t d_21 M_12) → (pp_lp pp_qP (fun s => pp_pd B n (pp_pt B n 0) (pp_kn B n s)) 64 g_7 = pp_lp pp_qP (fun s => pp_pd B n (pp_pt B n 0) (pp_kn B n s)) (64 - (x_9.toInt).toNat) g_19) → (qq_lp pp_qP (fun s => pp_pd B n (pp_pt B n 0) (pp_kn B n s)) (fun s td => qa j (-(s 0)) (qq_pd B n j (pp_pt B n 0) (qq_pt B n j 0) (pp_kn B n s) td)) 64 g_7 d_8 = qq_lp pp_qP (fun s => pp_pd B n (pp_pt B n 0) (pp_kn B n s)) (fun s td => qa j (-(s 0)) (qq_pd B n j (pp_pt B n 0) (qq_pt B n j 0) (pp_kn B n s) td)) (64 - (x_9.toInt).toNat) g_19 d_21) → ti_H ti_LT D A cy H0 M_12 H locs → lv_has ls 4 [(2, .int x_9), (0, .ref (A 1 0)), (1, .int 8)] → W p l e (ti_rm 10) s m args below meth c H locs 0 0 Q (F0 m 7 ls []) := by
    intro n_25
    induction n_25 with
    | zero => intro x_9 M_12 g_19 d_21 H locs ls hf_25; exact absurd hf_25 (Nat.not_lt_zero _)
    | succ n_25 ih_25 =>
      intro x_9 M_12 g_19 d_21 H locs ls hf_25 b_10 b_11 iM_12 f_13 f_14 f_15 f_16 f_17 f_18 hs_20 tq_22 j_23 j_24 hw hl
      have lg_19_0 : g_19 0 = (tI M_12 2 4).toInt := hs_20.2.1.1
      have lg_19_1 : g_19 1 = (tI M_12 2 6).toInt := hs_20.2.1.2.1
      have lg_19_4 : g_19 4 = (tI M_12 1 4).toInt := hs_20.2.2.1.1
      have lg_19_7 : g_19 7 = (tI M_12 t 4).toInt := hs_20.2.2.2.1.1
      have lg_19_8 : g_19 8 = (tI M_12 t 5).toInt := hs_20.2.2.2.1.2.1
      refine lv_iload_n hx hb dX4_readSum_7 rfl (lv_at hl 0 rfl) ?_
      refine lv_bipush (v := 64) hx hb dX4_readSum_8 (by decide) ?_
      refine sb_icmp_ge (tgt := 69) hx hb rfl (by decide : (64 : Int32).toInt = 64) dX4_readSum_10 (by decide) (fun c_10_25 => ?_) (fun c_10_25 => ?_)
      · exact hQ _ _ _ _ _ hw (⟨iM_12, (f_13), f_14, (f_15), f_16, (by unfold pp_sm; rw [← eg_7, j_23, lp_end (P := pp_qP) (f := 64 - x_9.toInt.toNat) (s := g_19) (Or.inl (by omega))]; exact hs_20), (by unfold qq_sm; rw [← eg_7, ← ed_8, j_24, qlp_end (P := pp_qP) (f := 64 - x_9.toInt.toNat) (s := g_19) (Or.inl (by omega))]; exact tq_22)⟩) dX4_readSum_69
      · refine lv_aload_n hx hb dX4_readSum_13 rfl (lv_at hl 1 rfl) ?_
        refine ti_get (ci := 4) (k := 0) (N := 6) (T := TX4) (v := .ref (A 2 0)) C hw iw_4 rfl ob_1 (by decide) (by decide) fl_X4_12 rfl rfl dX4_readSum_14 ?_
        refine ti_get (ci := 7) (k := 4) (N := 7) (T := TX7) C hw iw_7 rfl ob_2 (by decide) (by decide) fl_X4_41 rfl rfl dX4_readSum_17 ?_
        refine lv_topi (fun x_27 ex_27 => ?_)
        have bx_27 : 0 ≤ x_27.toInt ∧ x_27.toInt ≤ 41 := cI_rd iM_12 ob_2.1 ex_27
        have ux_27 : (tI M_12 2 4).toInt = x_27.toInt := by rw [ex_27]
        refine lv_bipush (v := 38) hx hb dX4_readSum_20 (by decide) ?_
        refine sb_icmp_eq (tgt := 37) hx hb rfl (by decide : (38 : Int32).toInt = 38) dX4_readSum_22 (by decide) (fun c_22_27 => ?_) (fun c_22_27 => ?_)
        · refine lv_aload_n hx hb dX4_readSum_37 rfl (lv_at hl 1 rfl) ?_
          refine ti_get (ci := 4) (k := 0) (N := 6) (T := TX4) (v := .ref (A 2 0)) C hw iw_4 rfl ob_1 (by decide) (by decide) fl_X4_12 rfl rfl dX4_readSum_38 ?_
          refine ti_get (ci := 7) (k := 4) (N := 7) (T := TX7) C hw iw_7 rfl ob_2 (by decide) (by decide) fl_X4_41 rfl rfl dX4_readSum_41 ?_
          refine ti_top (y := x_27) (ex_27.symm) ?_
          have u_31 : (tI M_12 2 4).toInt = (x_27 : Int32).toInt := by rw [(ex_27.symm)]
          refine lv_istore_n (lv' := [(3, .int x_27), (2, .int x_9), (0, .ref (A 1 0)), (1, .int 8)]) hx hb dX4_readSum_44 rfl hl (by decide) rfl (fun ls hl => ?_)
          refine lv_aload_n hx hb dX4_readSum_45 rfl (lv_at hl 2 rfl) ?_
          refine ti_callVvE (ci := 4) (av := []) C hE hw (x_X4_knot l D A cy hJ M_12 iM_12 t ht (f_17) B n g_19 hs_20 d_21 tq_22) ⟨ml_X4_167, ym_X4_knot, yv_X4_knot, yi_X4_knot, yc_X4_knot⟩ yd_X4_knot ob_1 (by decide) rfl rfl hl.1 (Nat.le_of_ble_eq_true rfl) ⟨by decide, by decide⟩ ⟨Nat.zero_le _, Nat.zero_le _⟩ dX4_readSum_46 (fun M_33 H locs hp_33 hw => ?_)
          obtain ⟨iM_33, q_34, q_35, q_36, q_37, q_38, p0r_32, p1r_32⟩ := hp_33
          obtain ⟨g_39, eg_39⟩ : ∃ z : Nat → Int, z = pp_kn B n g_19 := ⟨_, rfl⟩
          rw [← eg_39] at p0r_32
          have lg_39_0 : g_39 0 = (tI M_33 2 4).toInt := p0r_32.2.1.1
          have lg_39_1 : g_39 1 = (tI M_33 2 6).toInt := p0r_32.2.1.2.1
          have lg_39_4 : g_39 4 = (tI M_33 1 4).toInt := p0r_32.2.2.1.1
          have lg_39_7 : g_39 7 = (tI M_33 t 4).toInt := p0r_32.2.2.2.1.1
          have lg_39_8 : g_39 8 = (tI M_33 t 5).toInt := p0r_32.2.2.2.1.2.1
          refine lv_aload_n hx hb dX4_readSum_49 rfl (lv_at hl 2 rfl) ?_
          refine lv_iload_n hx hb dX4_readSum_50 rfl (lv_at hl 3 rfl) ?_
          refine ti_callVvE (ci := 4) (av := [.int 8]) C hE hw (x_X4_readProduct_8 l D A cy hJ M_33 iM_33 t ht ((tT_fr q_34).trans f_17) j hj ((tT_fr q_34).trans f_18) B n g_39 p0r_32 d_21 p1r_32) ⟨ml_X4_184, ym_X4_readProduct, yv_X4_readProduct, yi_X4_readProduct, yc_X4_readProduct⟩ yd_X4_readProduct ob_1 (by decide) rfl rfl hl.1 (Nat.le_of_ble_eq_true rfl) ⟨by decide, by decide⟩ ⟨Nat.zero_le _, Nat.zero_le _⟩ dX4_readSum_51 (fun M_41 H locs hp_41 hw => ?_)
          obtain ⟨iM_41, q_42, q_43, q_44, q_45, p0r_40, p1r_40⟩ := hp_41
          obtain ⟨g_46, eg_46⟩ : ∃ z : Nat → Int, z = pp_pd B n (pp_pt B n 0) g_39 := ⟨_, rfl⟩
          rw [← eg_46] at p0r_40
          have lg_46_0 : g_46 0 = (tI M_41 2 4).toInt := p0r_40.2.1.1
          have lg_46_1 : g_46 1 = (tI M_41 2 6).toInt := p0r_40.2.1.2.1
          have lg_46_4 : g_46 4 = (tI M_41 1 4).toInt := p0r_40.2.2.1.1
          have lg_46_7 : g_46 7 = (tI M_41 t 4).toInt := p0r_40.2.2.2.1.1
          have lg_46_8 : g_46 8 = (tI M_41 t 5).toInt := p0r_40.2.2.2.1.2.1
          obtain ⟨d_47, ed_47⟩ : ∃ z : Nat → Int, z = qq_pd B n j (pp_pt B n 0) (qq_pt B n j 0) g_39 d_21 := ⟨_, rfl⟩
          rw [← ed_47] at p1r_40
          refine lv_aload_n hx hb dX4_readSum_54 rfl (lv_at hl 2 rfl) ?_
          refine ti_get (ci := 4) (k := 2) (N := 6) (T := TX4) (v := .ref (A (ti_laws t j) 0)) C hw iw_4 rfl ob_1 (by decide) (by decide) fl_X4_154 rfl (ti_Tv ((tT_fr q_42).trans ((tT_fr q_34).trans f_18))) dX4_readSum_55 ?_
          refine lv_iload_n hx hb dX4_readSum_58 rfl (lv_at hl 0 rfl) ?_
          refine lv_ineg hx hb dX4_readSum_59 ?_
          refine lv_topi (fun x_48 ex_48 => ?_)
          have tx_48 : x_48.toInt = -x_27.toInt := i_neg ex_48 rfl (by omega)
          refine ti_callVv (ci := 1) (av := [.int x_48]) C hw (x_X1_add l D A cy hJ M_41 iM_41 t ht j hj x_48 (by first | omega | exact Or.inl (by decide) | exact Or.inr (by decide)) B n g_46 p0r_40 d_47 p1r_40) ⟨ml_X4_170, ym_X1_add, yv_X1_add, yi_X1_add, yc_X1_add⟩ yd_X1_add (ob_l ht hj) (by decide) rfl rfl hl.1 (Nat.le_of_ble_eq_true rfl) ⟨by decide, by decide⟩ ⟨Nat.zero_le _, Nat.zero_le _⟩ dX4_readSum_60 (fun M_50 H locs hp_50 hw => ?_)
          obtain ⟨iM_50, q_51, q_52, q_53, p0r_49, p1r_49⟩ := hp_50
          have lM_50_0 : g_46 0 = (tI M_50 2 4).toInt := p0r_49.2.1.1
          have lM_50_1 : g_46 1 = (tI M_50 2 6).toInt := p0r_49.2.1.2.1
          have lM_50_4 : g_46 4 = (tI M_50 1 4).toInt := p0r_49.2.2.1.1
          have lM_50_7 : g_46 7 = (tI M_50 t 4).toInt := p0r_49.2.2.2.1.1
          have lM_50_8 : g_46 8 = (tI M_50 t 5).toInt := p0r_49.2.2.2.1.2.1
          obtain ⟨d_54, ed_54⟩ : ∃ z : Nat → Int, z = qa j x_48.toInt d_47 := ⟨_, rfl⟩
          rw [← ed_54] at p1r_49
          obtain ⟨x_55, ex_55⟩ : ∃ z : Int32, z = x_9 + 1 := ⟨_, rfl⟩
          have tx_55 : x_55.toInt = x_9.toInt + 1 := i_add ex_55 rfl (by decide) (by omega) (by omega)
          refine lv_iinc (v := x_55) (lv' := [(2, .int x_55), (3, .int x_27), (0, .ref (A 1 0)), (1, .int 8)]) hx hb dX4_readSum_63 hl (k := 1) rfl (by rw [ex_55]; rfl) (by decide) rfl (fun ls hl => ?_)
          refine lv_goto (tgt := 7) hx hb dX4_readSum_66 (by decide) ?_
          exact ih_25 x_55 M_50 g_46 d_54 _ _ _ (by omega) (by first | omega | decide) (by first | omega | decide) iM_50 ((q_51).trans ((q_42).trans ((q_34).trans f_13))) (f0.trans (f0_x q_52) (f0.trans q_43 (f0.trans q_35 f_14))) (((q_52 1).2.1).trans ((q_44).trans ((q_36).trans f_15))) (ot.trans q_53 (ot.trans q_45 (ot.trans q_37 f_16))) ((tT_fr q_51).trans ((tT_fr q_42).trans ((tT_fr q_34).trans f_17))) ((tT_fr q_51).trans ((tT_fr q_42).trans ((tT_fr q_34).trans f_18))) p0r_49 p1r_49 (j_23.trans (lp_step (decide_eq_true (by omega)) (by rw [eg_46, eg_39]) (by omega))) (j_24.trans (qlp_step (decide_eq_true (by omega)) (by rw [eg_46, eg_39]) (by rw [ed_54, show x_48.toInt = -(g_19 0) by omega, ed_47, eg_39]) (by omega))) hw (lv_sub hl [0, 2, 3] rfl)
        · refine lv_aload_n hx hb dX4_readSum_25 rfl (lv_at hl 1 rfl) ?_
          refine ti_get (ci := 4) (k := 0) (N := 6) (T := TX4) (v := .ref (A 2 0)) C hw iw_4 rfl ob_1 (by decide) (by decide) fl_X4_12 rfl rfl dX4_readSum_26 ?_
          refine ti_get (ci := 7) (k := 4) (N := 7) (T := TX7) C hw iw_7 rfl ob_2 (by decide) (by decide) fl_X4_41 rfl rfl dX4_readSum_29 ?_
          refine ti_top (y := x_27) (ex_27.symm) ?_
          have u_29 : (tI M_12 2 4).toInt = (x_27 : Int32).toInt := by rw [(ex_27.symm)]
          refine lv_bipush (v := 39) hx hb dX4_readSum_32 (by decide) ?_
          refine sb_icmp_ne (tgt := 69) hx hb rfl (by decide : (39 : Int32).toInt = 39) dX4_readSum_34 (by decide) (fun c_34_29 => ?_) (fun c_34_29 => ?_)
          · exact hQ _ _ _ _ _ hw (⟨iM_12, (f_13), f_14, (f_15), f_16, (by unfold pp_sm; rw [← eg_7, j_23, lp_end (P := pp_qP) (f := 64 - x_9.toInt.toNat) (s := g_19) (Or.inr (decide_eq_false (by omega)))]; exact hs_20), (by unfold qq_sm; rw [← eg_7, ← ed_8, j_24, qlp_end (P := pp_qP) (f := 64 - x_9.toInt.toNat) (s := g_19) (Or.inr (decide_eq_false (by omega)))]; exact tq_22)⟩) dX4_readSum_69
          · refine lv_aload_n hx hb dX4_readSum_37 rfl (lv_at hl 1 rfl) ?_
            refine ti_get (ci := 4) (k := 0) (N := 6) (T := TX4) (v := .ref (A 2 0)) C hw iw_4 rfl ob_1 (by decide) (by decide) fl_X4_12 rfl rfl dX4_readSum_38 ?_
            refine ti_get (ci := 7) (k := 4) (N := 7) (T := TX7) C hw iw_7 rfl ob_2 (by decide) (by decide) fl_X4_41 rfl rfl dX4_readSum_41 ?_
            refine ti_top (y := x_27) (ex_27.symm) ?_
            have u_56 : (tI M_12 2 4).toInt = (x_27 : Int32).toInt := by rw [(ex_27.symm)]
            refine lv_istore_n (lv' := [(3, .int x_27), (2, .int x_9), (0, .ref (A 1 0)), (1, .int 8)]) hx hb dX4_readSum_44 rfl hl (by decide) rfl (fun ls hl => ?_)
            refine lv_aload_n hx hb dX4_readSum_45 rfl (lv_at hl 2 rfl) ?_
            refine ti_callVvE (ci := 4) (av := []) C hE hw (x_X4_knot l D A cy hJ M_12 iM_12 t ht (f_17) B n g_19 hs_20 d_21 tq_22) ⟨ml_X4_167, ym_X4_knot, yv_X4_knot, yi_X4_knot, yc_X4_knot⟩ yd_X4_knot ob_1 (by decide) rfl rfl hl.1 (Nat.le_of_ble_eq_true rfl) ⟨by decide, by decide⟩ ⟨Nat.zero_le _, Nat.zero_le _⟩ dX4_readSum_46 (fun M_58 H locs hp_58 hw => ?_)
            obtain ⟨iM_58, q_59, q_60, q_61, q_62, q_63, p0r_57, p1r_57⟩ := hp_58
            obtain ⟨g_64, eg_64⟩ : ∃ z : Nat → Int, z = pp_kn B n g_19 := ⟨_, rfl⟩
            rw [← eg_64] at p0r_57
            have lg_64_0 : g_64 0 = (tI M_58 2 4).toInt := p0r_57.2.1.1
            have lg_64_1 : g_64 1 = (tI M_58 2 6).toInt := p0r_57.2.1.2.1
            have lg_64_4 : g_64 4 = (tI M_58 1 4).toInt := p0r_57.2.2.1.1
            have lg_64_7 : g_64 7 = (tI M_58 t 4).toInt := p0r_57.2.2.2.1.1
            have lg_64_8 : g_64 8 = (tI M_58 t 5).toInt := p0r_57.2.2.2.1.2.1
            refine lv_aload_n hx hb dX4_readSum_49 rfl (lv_at hl 2 rfl) ?_
            refine lv_iload_n hx hb dX4_readSum_50 rfl (lv_at hl 3 rfl) ?_
            refine ti_callVvE (ci := 4) (av := [.int 8]) C hE hw (x_X4_readProduct_8 l D A cy hJ M_58 iM_58 t ht ((tT_fr q_59).trans f_17) j hj ((tT_fr q_59).trans f_18) B n g_64 p0r_57 d_21 p1r_57) ⟨ml_X4_184, ym_X4_readProduct, yv_X4_readProduct, yi_X4_readProduct, yc_X4_readProduct⟩ yd_X4_readProduct ob_1 (by decide) rfl rfl hl.1 (Nat.le_of_ble_eq_true rfl) ⟨by decide, by decide⟩ ⟨Nat.zero_le _, Nat.zero_le _⟩ dX4_readSum_51 (fun M_66 H locs hp_66 hw => ?_)
            obtain ⟨iM_66, q_67, q_68, q_69, q_70, p0r_65, p1r_65⟩ := hp_66
            obtain ⟨g_71, eg_71⟩ : ∃ z : Nat → Int, z = pp_pd B n (pp_pt B n 0) g_64 := ⟨_, rfl⟩
            rw [← eg_71] at p0r_65
            have lg_71_0 : g_71 0 = (tI M_66 2 4).toInt := p0r_65.2.1.1
            have lg_71_1 : g_71 1 = (tI M_66 2 6).toInt := p0r_65.2.1.2.1
            have lg_71_4 : g_71 4 = (tI M_66 1 4).toInt := p0r_65.2.2.1.1
            have lg_71_7 : g_71 7 = (tI M_66 t 4).toInt := p0r_65.2.2.2.1.1
            have lg_71_8 : g_71 8 = (tI M_66 t 5).toInt := p0r_65.2.2.2.1.2.1
            obtain ⟨d_72, ed_72⟩ : ∃ z : Nat → Int, z = qq_pd B n j (pp_pt B n 0) (qq_pt B n j 0) g_64 d_21 := ⟨_, rfl⟩
            rw [← ed_72] at p1r_65
            refine lv_aload_n hx hb dX4_readSum_54 rfl (lv_at hl 2 rfl) ?_
            refine ti_get (ci := 4) (k := 2) (N := 6) (T := TX4) (v := .ref (A (ti_laws t j) 0)) C hw iw_4 rfl ob_1 (by decide) (by decide) fl_X4_154 rfl (ti_Tv ((tT_fr q_67).trans ((tT_fr q_59).trans f_18))) dX4_readSum_55 ?_
            refine lv_iload_n hx hb dX4_readSum_58 rfl (lv_at hl 0 rfl) ?_
            refine lv_ineg hx hb dX4_readSum_59 ?_
            refine lv_topi (fun x_73 ex_73 => ?_)
            have tx_73 : x_73.toInt = -x_27.toInt := i_neg ex_73 rfl (by omega)
            refine ti_callVv (ci := 1) (av := [.int x_73]) C hw (x_X1_add l D A cy hJ M_66 iM_66 t ht j hj x_73 (by first | omega | exact Or.inl (by decide) | exact Or.inr (by decide)) B n g_71 p0r_65 d_72 p1r_65) ⟨ml_X4_170, ym_X1_add, yv_X1_add, yi_X1_add, yc_X1_add⟩ yd_X1_add (ob_l ht hj) (by decide) rfl rfl hl.1 (Nat.le_of_ble_eq_true rfl) ⟨by decide, by decide⟩ ⟨Nat.zero_le _, Nat.zero_le _⟩ dX4_readSum_60 (fun M_75 H locs hp_75 hw => ?_)
            obtain ⟨iM_75, q_76, q_77, q_78, p0r_74, p1r_74⟩ := hp_75
            have lM_75_0 : g_71 0 = (tI M_75 2 4).toInt := p0r_74.2.1.1
            have lM_75_1 : g_71 1 = (tI M_75 2 6).toInt := p0r_74.2.1.2.1
            have lM_75_4 : g_71 4 = (tI M_75 1 4).toInt := p0r_74.2.2.1.1
            have lM_75_7 : g_71 7 = (tI M_75 t 4).toInt := p0r_74.2.2.2.1.1
            have lM_75_8 : g_71 8 = (tI M_75 t 5).toInt := p0r_74.2.2.2.1.2.1
            obtain ⟨d_79, ed_79⟩ : ∃ z : Nat → Int, z = qa j x_73.toInt d_72 := ⟨_, rfl⟩
            rw [← ed_79] at p1r_74
            obtain ⟨x_80, ex_80⟩ : ∃ z : Int32, z = x_9 + 1 := ⟨_, rfl⟩
            have tx_80 : x_80.toInt = x_9.toInt + 1 := i_add ex_80 rfl (by decide) (by omega) (by omega)
            refine lv_iinc (v := x_80) (lv' := [(2, .int x_80), (3, .int x_27), (0, .ref (A 1 0)), (1, .int 8)]) hx hb dX4_readSum_63 hl (k := 1) rfl (by rw [ex_80]; rfl) (by decide) rfl (fun ls hl => ?_)
            refine lv_goto (tgt := 7) hx hb dX4_readSum_66 (by decide) ?_
            exact ih_25 x_80 M_75 g_71 d_79 _ _ _ (by omega) (by first | omega | decide) (by first | omega | decide) iM_75 ((q_76).trans ((q_67).trans ((q_59).trans f_13))) (f0.trans (f0_x q_77) (f0.trans q_68 (f0.trans q_60 f_14))) (((q_77 1).2.1).trans ((q_69).trans ((q_61).trans f_15))) (ot.trans q_78 (ot.trans q_70 (ot.trans q_62 f_16))) ((tT_fr q_76).trans ((tT_fr q_67).trans ((tT_fr q_59).trans f_17))) ((tT_fr q_76).trans ((tT_fr q_67).trans ((tT_fr q_59).trans f_18))) p0r_74 p1r_74 (j_23.trans (lp_step (decide_eq_true (by omega)) (by rw [eg_71, eg_64]) (by omega))) (j_24.trans (qlp_step (decide_eq_true (by omega)) (by rw [eg_71, eg_64]) (by rw [ed_79, show x_73.toInt = -(g_19 0) by omega, ed_72, eg_64]) (by omega))) hw (lv_sub hl [0, 2, 3] rfl)
  exact hl_7_24 ((64 - 0 : Int).toNat + 1) 0 M_2 g_7 d_8 _ _ _ (Nat.lt_succ_self _) (by have lt0 : (0 : Int32).toInt = 0 := (by decide); first | omega | decide) (by have lt0 : (0 : Int32).toInt = 0 := (by decide); first | omega | decide) iM_2 (q_3) q_4 (q_5) q_6 ((tT_fr q_3).trans hT) ((tT_fr q_3).trans hL) p0r_1 p1r_1 rfl rfl hw (lv_sub hl [0, 1, 2] rfl)
set_option maxHeartbeats 4000000 in
set_option maxRecDepth 100000 in
theorem x_X4_readComparison_8 (l : Launch) (D : va_G) (A : Nat → Nat → Nat) (cy : Nat → ClassId) (hJ : ti_inj ti_LT A) (M : ti_M) (hI : cI Tc M) (t : Nat) (ht : t = 3 ∨ t = 4) (hT : tT M 1 1 = some t) (j : Nat) (hj : j < 3) (hL : tT M 1 2 = some (ti_laws t j)) (B : Nat → Int) (n : Nat) (rg : Nat → Int) (hr : rC B n t rg M) (td : Nat → Int) (hq : tq t td M) : ti_KvE l yX4_readComparison cX4_readComparison 3 11 ti_LT D A cy M [.ref (A 1 0), .int 8] (fun M2 => cI Tc M2 ∧ M2.2.2.2 = M.2.2.2 ∧ f0 M2 M ∧ tI M2 2 1 = tI M 2 1 ∧ ot t M2 M ∧ rC B n t (pp_cm B n (pp_pt B n 0) rg) M2 ∧ tq t (qq_cm B n j (pp_pt B n 0) (qq_pt B n j 0) rg td) M2) := by
  refine ti_eVE yp_X4_readComparison hJ ti_LT_nd (Nat.le_of_ble_eq_true rfl) ?_
  intro p e s m args below meth c Q H0 C hE hQ hw ls hl
  have hx := C.1
  have hb := C.2.1
  have hl : lv_has ls 3 [(0, .ref (A 1 0)), (1, .int 8)] := hl
  have l0 : rg 0 = (tI M 2 4).toInt := hr.2.1.1
  have l1 : rg 1 = (tI M 2 6).toInt := hr.2.1.2.1
  have l2 : rg 2 = (tI M 2 5).toInt := hr.2.1.2.2.1
  have l3 : rg 3 = (tI M 2 3).toInt := hr.2.1.2.2.2
  have l4 : rg 4 = (tI M 1 4).toInt := hr.2.2.1.1
  have l5 : rg 5 = (tI M 1 5).toInt := hr.2.2.1.2.1
  have l7 : rg 7 = (tI M t 4).toInt := hr.2.2.2.1.1
  have l8 : rg 8 = (tI M t 5).toInt := hr.2.2.2.1.2.1
  have l9 : rg 9 = (tI M t 3).toInt := hr.2.2.2.1.2.2
  refine lv_aload_n hx hb dX4_readComparison_0 rfl (lv_at hl 0 rfl) ?_
  refine lv_iload_n hx hb dX4_readComparison_1 rfl (lv_at hl 1 rfl) ?_
  refine ti_callVvE (ci := 4) (av := [.int 8]) C hE hw (x_X4_readSum_8 l D A cy hJ M hI t ht (hT) j hj (hL) B n rg hr td hq) ⟨ml_X4_181, ym_X4_readSum, yv_X4_readSum, yi_X4_readSum, yc_X4_readSum⟩ yd_X4_readSum ob_1 (by decide) rfl rfl hl.1 (Nat.le_of_ble_eq_true rfl) ⟨by decide, by decide⟩ ⟨Nat.zero_le _, Nat.zero_le _⟩ dX4_readComparison_2 (fun M_2 H locs hp_2 hw => ?_)
  obtain ⟨iM_2, q_3, q_4, q_5, q_6, p0r_1, p1r_1⟩ := hp_2
  obtain ⟨g_7, eg_7⟩ : ∃ z : Nat → Int, z = pp_sm B n (pp_pt B n 0) rg := ⟨_, rfl⟩
  rw [← eg_7] at p0r_1
  have lg_7_0 : g_7 0 = (tI M_2 2 4).toInt := p0r_1.2.1.1
  have lg_7_1 : g_7 1 = (tI M_2 2 6).toInt := p0r_1.2.1.2.1
  have lg_7_4 : g_7 4 = (tI M_2 1 4).toInt := p0r_1.2.2.1.1
  have lg_7_7 : g_7 7 = (tI M_2 t 4).toInt := p0r_1.2.2.2.1.1
  have lg_7_8 : g_7 8 = (tI M_2 t 5).toInt := p0r_1.2.2.2.1.2.1
  obtain ⟨d_8, ed_8⟩ : ∃ z : Nat → Int, z = qq_sm B n j (pp_pt B n 0) (qq_pt B n j 0) rg td := ⟨_, rfl⟩
  rw [← ed_8] at p1r_1
  refine lv_aload_n hx hb dX4_readComparison_5 rfl (lv_at hl 0 rfl) ?_
  refine ti_get (ci := 4) (k := 0) (N := 6) (T := TX4) (v := .ref (A 2 0)) C hw iw_4 rfl ob_1 (by decide) (by decide) fl_X4_12 rfl rfl dX4_readComparison_6 ?_
  refine ti_get (ci := 7) (k := 4) (N := 7) (T := TX7) C hw iw_7 rfl ob_2 (by decide) (by decide) fl_X4_41 rfl rfl dX4_readComparison_9 ?_
  refine lv_topi (fun x_9 ex_9 => ?_)
  have bx_9 : 0 ≤ x_9.toInt ∧ x_9.toInt ≤ 41 := cI_rd iM_2 ob_2.1 ex_9
  have ux_9 : (tI M_2 2 4).toInt = x_9.toInt := by rw [ex_9]
  refine lv_istore_n (lv' := [(2, .int x_9), (0, .ref (A 1 0)), (1, .int 8)]) hx hb dX4_readComparison_12 rfl hl (by decide) rfl (fun ls hl => ?_)
  refine lv_iload_n hx hb dX4_readComparison_13 rfl (lv_at hl 0 rfl) ?_
  refine lv_bipush (v := 32) hx hb dX4_readComparison_14 (by decide) ?_
  refine sb_icmp_lt (tgt := 43) hx hb rfl (by decide : (32 : Int32).toInt = 32) dX4_readComparison_16 (by decide) (fun c_16_9 => ?_) (fun c_16_9 => ?_)
  · exact hQ _ _ _ _ _ hw (⟨iM_2, (q_3), q_4, (q_5), q_6, (by unfold pp_cm; rw [← eg_7]; unfold pp_c2; rw [if_neg (fun q => by omega)]; exact p0r_1), (by unfold qq_cm; rw [← eg_7, ← ed_8]; unfold qq_c2; rw [if_neg (fun q => by omega)]; exact p1r_1)⟩) dX4_readComparison_43
  · refine lv_iload_n hx hb dX4_readComparison_19 rfl (lv_at hl 0 rfl) ?_
    refine lv_bipush (v := 37) hx hb dX4_readComparison_20 (by decide) ?_
    refine sb_icmp_gt (tgt := 43) hx hb rfl (by decide : (37 : Int32).toInt = 37) dX4_readComparison_22 (by decide) (fun c_22_10 => ?_) (fun c_22_10 => ?_)
    · exact hQ _ _ _ _ _ hw (⟨iM_2, (q_3), q_4, (q_5), q_6, (by unfold pp_cm; rw [← eg_7]; unfold pp_c2; rw [if_neg (fun q => by omega)]; exact p0r_1), (by unfold qq_cm; rw [← eg_7, ← ed_8]; unfold qq_c2; rw [if_neg (fun q => by omega)]; exact p1r_1)⟩) dX4_readComparison_43
    · refine lv_aload_n hx hb dX4_readComparison_25 rfl (lv_at hl 1 rfl) ?_
      refine ti_callVvE (ci := 4) (av := []) C hE hw (x_X4_knot l D A cy hJ M_2 iM_2 t ht ((tT_fr q_3).trans hT) B n g_7 p0r_1 d_8 p1r_1) ⟨ml_X4_167, ym_X4_knot, yv_X4_knot, yi_X4_knot, yc_X4_knot⟩ yd_X4_knot ob_1 (by decide) rfl rfl hl.1 (Nat.le_of_ble_eq_true rfl) ⟨by decide, by decide⟩ ⟨Nat.zero_le _, Nat.zero_le _⟩ dX4_readComparison_26 (fun M_13 H locs hp_13 hw => ?_)
      obtain ⟨iM_13, q_14, q_15, q_16, q_17, q_18, p0r_12, p1r_12⟩ := hp_13
      obtain ⟨g_19, eg_19⟩ : ∃ z : Nat → Int, z = pp_kn B n g_7 := ⟨_, rfl⟩
      rw [← eg_19] at p0r_12
      have lg_19_0 : g_19 0 = (tI M_13 2 4).toInt := p0r_12.2.1.1
      have lg_19_1 : g_19 1 = (tI M_13 2 6).toInt := p0r_12.2.1.2.1
      have lg_19_4 : g_19 4 = (tI M_13 1 4).toInt := p0r_12.2.2.1.1
      have lg_19_7 : g_19 7 = (tI M_13 t 4).toInt := p0r_12.2.2.2.1.1
      have lg_19_8 : g_19 8 = (tI M_13 t 5).toInt := p0r_12.2.2.2.1.2.1
      refine lv_aload_n hx hb dX4_readComparison_29 rfl (lv_at hl 1 rfl) ?_
      refine lv_iload_n hx hb dX4_readComparison_30 rfl (lv_at hl 2 rfl) ?_
      refine ti_callVvE (ci := 4) (av := [.int 8]) C hE hw (x_X4_readSum_8 l D A cy hJ M_13 iM_13 t ht ((tT_fr q_14).trans ((tT_fr q_3).trans hT)) j hj ((tT_fr q_14).trans ((tT_fr q_3).trans hL)) B n g_19 p0r_12 d_8 p1r_12) ⟨ml_X4_181, ym_X4_readSum, yv_X4_readSum, yi_X4_readSum, yc_X4_readSum⟩ yd_X4_readSum ob_1 (by decide) rfl rfl hl.1 (Nat.le_of_ble_eq_true rfl) ⟨by decide, by decide⟩ ⟨Nat.zero_le _, Nat.zero_le _⟩ dX4_readComparison_31 (fun M_21 H locs hp_21 hw => ?_)
      obtain ⟨iM_21, q_22, q_23, q_24, q_25, p0r_20, p1r_20⟩ := hp_21
      obtain ⟨g_26, eg_26⟩ : ∃ z : Nat → Int, z = pp_sm B n (pp_pt B n 0) g_19 := ⟨_, rfl⟩
      rw [← eg_26] at p0r_20
      have lg_26_0 : g_26 0 = (tI M_21 2 4).toInt := p0r_20.2.1.1
      have lg_26_1 : g_26 1 = (tI M_21 2 6).toInt := p0r_20.2.1.2.1
      have lg_26_4 : g_26 4 = (tI M_21 1 4).toInt := p0r_20.2.2.1.1
      have lg_26_7 : g_26 7 = (tI M_21 t 4).toInt := p0r_20.2.2.2.1.1
      have lg_26_8 : g_26 8 = (tI M_21 t 5).toInt := p0r_20.2.2.2.1.2.1
      obtain ⟨d_27, ed_27⟩ : ∃ z : Nat → Int, z = qq_sm B n j (pp_pt B n 0) (qq_pt B n j 0) g_19 d_8 := ⟨_, rfl⟩
      rw [← ed_27] at p1r_20
      refine lv_aload_n hx hb dX4_readComparison_34 rfl (lv_at hl 1 rfl) ?_
      refine ti_get (ci := 4) (k := 2) (N := 6) (T := TX4) (v := .ref (A (ti_laws t j) 0)) C hw iw_4 rfl ob_1 (by decide) (by decide) fl_X4_154 rfl (ti_Tv ((tT_fr q_22).trans ((tT_fr q_14).trans ((tT_fr q_3).trans hL)))) dX4_readComparison_35 ?_
      refine lv_iload_n hx hb dX4_readComparison_38 rfl (lv_at hl 0 rfl) ?_
      refine lv_ineg hx hb dX4_readComparison_39 ?_
      refine lv_topi (fun x_28 ex_28 => ?_)
      have tx_28 : x_28.toInt = -x_9.toInt := i_neg ex_28 rfl (by omega)
      refine ti_callVv (ci := 1) (av := [.int x_28]) C hw (x_X1_add l D A cy hJ M_21 iM_21 t ht j hj x_28 (by first | omega | exact Or.inl (by decide) | exact Or.inr (by decide)) B n g_26 p0r_20 d_27 p1r_20) ⟨ml_X4_170, ym_X1_add, yv_X1_add, yi_X1_add, yc_X1_add⟩ yd_X1_add (ob_l ht hj) (by decide) rfl rfl hl.1 (Nat.le_of_ble_eq_true rfl) ⟨by decide, by decide⟩ ⟨Nat.zero_le _, Nat.zero_le _⟩ dX4_readComparison_40 (fun M_30 H locs hp_30 hw => ?_)
      obtain ⟨iM_30, q_31, q_32, q_33, p0r_29, p1r_29⟩ := hp_30
      have lM_30_0 : g_26 0 = (tI M_30 2 4).toInt := p0r_29.2.1.1
      have lM_30_1 : g_26 1 = (tI M_30 2 6).toInt := p0r_29.2.1.2.1
      have lM_30_4 : g_26 4 = (tI M_30 1 4).toInt := p0r_29.2.2.1.1
      have lM_30_7 : g_26 7 = (tI M_30 t 4).toInt := p0r_29.2.2.2.1.1
      have lM_30_8 : g_26 8 = (tI M_30 t 5).toInt := p0r_29.2.2.2.1.2.1
      obtain ⟨d_34, ed_34⟩ : ∃ z : Nat → Int, z = qa j x_28.toInt d_27 := ⟨_, rfl⟩
      rw [← ed_34] at p1r_29
      exact hQ _ _ _ _ _ hw (⟨iM_30, ((q_31).trans ((q_22).trans ((q_14).trans q_3))), (f0.trans (f0_x q_32) (f0.trans q_23 (f0.trans q_15 q_4))), (((q_32 1).2.1).trans ((q_24).trans ((q_16).trans q_5))), (ot.trans q_33 (ot.trans q_25 (ot.trans q_17 q_6))), (by unfold pp_cm; rw [← eg_7]; unfold pp_c2; rw [if_pos ⟨by omega, by omega⟩, ← eg_19, ← eg_26]; exact p0r_29), (by unfold qq_cm; rw [← eg_7, ← ed_8]; unfold qq_c2; rw [if_pos ⟨by omega, by omega⟩, ← eg_19, ← ed_27, show -(g_7 0) = x_28.toInt by omega, ← ed_34]; exact p1r_29)⟩) dX4_readComparison_43
set_option maxHeartbeats 4000000 in
set_option maxRecDepth 100000 in
theorem x_X4_readNegated_8 (l : Launch) (D : va_G) (A : Nat → Nat → Nat) (cy : Nat → ClassId) (hJ : ti_inj ti_LT A) (M : ti_M) (hI : cI Tc M) (t : Nat) (ht : t = 3 ∨ t = 4) (hT : tT M 1 1 = some t) (j : Nat) (hj : j < 3) (hL : tT M 1 2 = some (ti_laws t j)) (B : Nat → Int) (n : Nat) (rg : Nat → Int) (hr : rC B n t rg M) (td : Nat → Int) (hq : tq t td M) : ti_KvE l yX4_readNegated cX4_readNegated 4 12 ti_LT D A cy M [.ref (A 1 0), .int 8] (fun M2 => cI Tc M2 ∧ M2.2.2.2 = M.2.2.2 ∧ f0 M2 M ∧ tI M2 2 1 = tI M 2 1 ∧ ot t M2 M ∧ rC B n t (pp_ng B n (pp_pt B n 0) rg) M2 ∧ tq t (qq_ng B n j (pp_pt B n 0) (qq_pt B n j 0) rg td) M2) := by
  refine ti_eVE yp_X4_readNegated hJ ti_LT_nd (Nat.le_of_ble_eq_true rfl) ?_
  intro p e s m args below meth c Q H0 C hE hQ hw ls hl
  have hx := C.1
  have hb := C.2.1
  have hl : lv_has ls 4 [(0, .ref (A 1 0)), (1, .int 8)] := hl
  have l0 : rg 0 = (tI M 2 4).toInt := hr.2.1.1
  have l1 : rg 1 = (tI M 2 6).toInt := hr.2.1.2.1
  have l2 : rg 2 = (tI M 2 5).toInt := hr.2.1.2.2.1
  have l3 : rg 3 = (tI M 2 3).toInt := hr.2.1.2.2.2
  have l4 : rg 4 = (tI M 1 4).toInt := hr.2.2.1.1
  have l5 : rg 5 = (tI M 1 5).toInt := hr.2.2.1.2.1
  have l7 : rg 7 = (tI M t 4).toInt := hr.2.2.2.1.1
  have l8 : rg 8 = (tI M t 5).toInt := hr.2.2.2.1.2.1
  have l9 : rg 9 = (tI M t 3).toInt := hr.2.2.2.1.2.2
  refine lv_iconst (v := 0) hx hb dX4_readNegated_0 (by decide) ?_
  refine lv_istore_n (lv' := [(2, .int 0), (0, .ref (A 1 0)), (1, .int 8)]) hx hb dX4_readNegated_1 rfl hl (by decide) rfl (fun ls hl => ?_)
  have hl_2_17 : ∀ (n_18 : Nat) (x_1 : Int32) (M_4 : ti_M) (g_11 : Nat → Int) (d_13 : Nat → Int) (H : Heap) (locs : List Loc) (ls : Array Slot), (65 - x_1.toInt : Int).toNat < n_18 → (0 ≤ x_1.toInt) → (x_1.toInt ≤ 65) → (cI Tc M_4) → (M_4.2.2.2 = M.2.2.2) → (f0 M_4 M) → (tI M_4 2 1 = tI M 2 1) → (ot t M_4 M) → (tT M_4 1 1 = (some t)) → (tT M_4 1 2 = (some (ti_laws t j))) → (rC B n t g_11 M_4) → (tq t d_13 M_4) → (pp_lp pp_qN (pp_kn B n) 65 rg = pp_lp pp_qN (pp_kn B n) (65 - (x_1.toInt).toNat) g_11) → (qq_ca B n 65 rg 0 = qq_ca B n (65 - (x_1.toInt).toNat) g_11 (x_1.toInt).toNat) → (td = d_13) → ti_H ti_LT D A cy H0 M_4 H locs → lv_has ls 4 [(2, .int x_1), (0, .ref (A 1 0)), (1, .int 8)] → W p l e (ti_rm 12) s m args below meth c H locs 0 0 Q (F0 m 2 ls []) := by
    intro n_18
    induction n_18 with
    | zero => intro x_1 M_4 g_11 d_13 H locs ls hf_18; exact absurd hf_18 (Nat.not_lt_zero _)
    | succ n_18 ih_18 =>
      intro x_1 M_4 g_11 d_13 H locs ls hf_18 b_2 b_3 iM_4 f_5 f_6 f_7 f_8 f_9 f_10 hs_12 tq_14 j_15 j_16 j_17 hw hl
      have lg_11_0 : g_11 0 = (tI M_4 2 4).toInt := hs_12.2.1.1
      have lg_11_1 : g_11 1 = (tI M_4 2 6).toInt := hs_12.2.1.2.1
      have lg_11_4 : g_11 4 = (tI M_4 1 4).toInt := hs_12.2.2.1.1
      have lg_11_7 : g_11 7 = (tI M_4 t 4).toInt := hs_12.2.2.2.1.1
      have lg_11_8 : g_11 8 = (tI M_4 t 5).toInt := hs_12.2.2.2.1.2.1
      refine lv_iload_n hx hb dX4_readNegated_2 rfl (lv_at hl 0 rfl) ?_
      refine lv_bipush (v := 64) hx hb dX4_readNegated_3 (by decide) ?_
      have hj_30_33 : ∀  (H : Heap) (locs : List Loc) (ls : Array Slot), (pp_lp pp_qN (pp_kn B n) 65 rg = g_11) → (qq_ca B n 65 rg 0 = (x_1.toInt).toNat) → (td = d_13) → ti_H ti_LT D A cy H0 M_4 H locs → lv_has ls 4 [(2, .int x_1), (0, .ref (A 1 0)), (1, .int 8)] → W p l e (ti_rm 12) s m args below meth c H locs 0 0 Q (F0 m 30 ls []) := by
        intro  H locs ls j_31 j_32 j_33 hw hl
        have lg_11_0 : g_11 0 = (tI M_4 2 4).toInt := hs_12.2.1.1
        have lg_11_1 : g_11 1 = (tI M_4 2 6).toInt := hs_12.2.1.2.1
        have lg_11_4 : g_11 4 = (tI M_4 1 4).toInt := hs_12.2.2.1.1
        have lg_11_7 : g_11 7 = (tI M_4 t 4).toInt := hs_12.2.2.2.1.1
        have lg_11_8 : g_11 8 = (tI M_4 t 5).toInt := hs_12.2.2.2.1.2.1
        refine lv_aload_n hx hb dX4_readNegated_30 rfl (lv_at hl 1 rfl) ?_
        refine lv_iload_n hx hb dX4_readNegated_31 rfl (lv_at hl 2 rfl) ?_
        refine ti_callVvE (ci := 4) (av := [.int 8]) C hE hw (x_X4_readComparison_8 l D A cy hJ M_4 iM_4 t ht (f_9) j hj (f_10) B n g_11 hs_12 d_13 tq_14) ⟨ml_X4_178, ym_X4_readComparison, yv_X4_readComparison, yi_X4_readComparison, yc_X4_readComparison⟩ yd_X4_readComparison ob_1 (by decide) rfl rfl hl.1 (Nat.le_of_ble_eq_true rfl) ⟨by decide, by decide⟩ ⟨Nat.zero_le _, Nat.zero_le _⟩ dX4_readNegated_32 (fun M_35 H locs hp_35 hw => ?_)
        obtain ⟨iM_35, q_36, q_37, q_38, q_39, p0r_34, p1r_34⟩ := hp_35
        obtain ⟨g_40, eg_40⟩ : ∃ z : Nat → Int, z = pp_cm B n (pp_pt B n 0) g_11 := ⟨_, rfl⟩
        rw [← eg_40] at p0r_34
        have lg_40_0 : g_40 0 = (tI M_35 2 4).toInt := p0r_34.2.1.1
        have lg_40_1 : g_40 1 = (tI M_35 2 6).toInt := p0r_34.2.1.2.1
        have lg_40_4 : g_40 4 = (tI M_35 1 4).toInt := p0r_34.2.2.1.1
        have lg_40_7 : g_40 7 = (tI M_35 t 4).toInt := p0r_34.2.2.2.1.1
        have lg_40_8 : g_40 8 = (tI M_35 t 5).toInt := p0r_34.2.2.2.1.2.1
        obtain ⟨d_41, ed_41⟩ : ∃ z : Nat → Int, z = qq_cm B n j (pp_pt B n 0) (qq_pt B n j 0) g_11 d_13 := ⟨_, rfl⟩
        rw [← ed_41] at p1r_34
        have EM : pp_ng B n (pp_pt B n 0) rg = g_40 := by unfold pp_ng; rw [j_31, ← eg_40]
        have ET : qq_ng B n j (pp_pt B n 0) (qq_pt B n j 0) rg td = qq_na j x_1.toInt.toNat d_41 := by unfold qq_ng; rw [j_32, j_31, show td = d_13 from j_33, ← ed_41]
        refine lv_iconst (v := 0) hx hb dX4_readNegated_35 (by decide) ?_
        refine lv_istore_n (lv' := [(3, .int 0), (2, .int x_1), (0, .ref (A 1 0)), (1, .int 8)]) hx hb dX4_readNegated_36 rfl hl (by decide) rfl (fun ls hl => ?_)
        have hl_37_58 : ∀ (n_59 : Nat) (x_42 : Int32) (M_45 : ti_M) (g_52 : Nat → Int) (d_54 : Nat → Int) (H : Heap) (locs : List Loc) (ls : Array Slot), (65 - x_42.toInt : Int).toNat < n_59 → (0 ≤ x_42.toInt) → (x_42.toInt ≤ 65) → (cI Tc M_45) → (M_45.2.2.2 = M.2.2.2) → (f0 M_45 M) → (tI M_45 2 1 = tI M 2 1) → (ot t M_45 M) → (tT M_45 1 1 = (some t)) → (tT M_45 1 2 = (some (ti_laws t j))) → (rC B n t g_52 M_45) → (tq t d_54 M_45) → (g_40 = g_52) → (qq_na j (x_42.toInt).toNat d_41 = d_54) → (x_42.toInt ≤ x_1.toInt) → ti_H ti_LT D A cy H0 M_45 H locs → lv_has ls 4 [(3, .int x_42), (2, .int x_1), (0, .ref (A 1 0)), (1, .int 8)] → W p l e (ti_rm 12) s m args below meth c H locs 0 0 Q (F0 m 37 ls []) := by
          intro n_59
          induction n_59 with
          | zero => intro x_42 M_45 g_52 d_54 H locs ls hf_59; exact absurd hf_59 (Nat.not_lt_zero _)
          | succ n_59 ih_59 =>
            intro x_42 M_45 g_52 d_54 H locs ls hf_59 b_43 b_44 iM_45 f_46 f_47 f_48 f_49 f_50 f_51 hs_53 tq_55 j_56 j_57 j_58 hw hl
            have lg_52_0 : g_52 0 = (tI M_45 2 4).toInt := hs_53.2.1.1
            have lg_52_1 : g_52 1 = (tI M_45 2 6).toInt := hs_53.2.1.2.1
            have lg_52_4 : g_52 4 = (tI M_45 1 4).toInt := hs_53.2.2.1.1
            have lg_52_7 : g_52 7 = (tI M_45 t 4).toInt := hs_53.2.2.2.1.1
            have lg_52_8 : g_52 8 = (tI M_45 t 5).toInt := hs_53.2.2.2.1.2.1
            refine lv_iload_n hx hb dX4_readNegated_37 rfl (lv_at hl 0 rfl) ?_
            refine lv_iload_n hx hb dX4_readNegated_38 rfl (lv_at hl 1 rfl) ?_
            refine sb_icmp_ge (tgt := 57) hx hb rfl rfl dX4_readNegated_39 (by decide) (fun c_39_59 => ?_) (fun c_39_59 => ?_)
            · exact hQ _ _ _ _ _ hw (⟨iM_45, (f_46), f_47, (f_48), f_49, (by rw [EM, j_56]; exact hs_53), (by rw [ET, show x_1.toInt.toNat = x_42.toInt.toNat by omega, j_57]; exact tq_55)⟩) dX4_readNegated_57
            · refine lv_aload_n hx hb dX4_readNegated_42 rfl (lv_at hl 2 rfl) ?_
              refine ti_get (ci := 4) (k := 2) (N := 6) (T := TX4) (v := .ref (A (ti_laws t j) 0)) C hw iw_4 rfl ob_1 (by decide) (by decide) fl_X4_154 rfl (ti_Tv (f_51)) dX4_readNegated_43 ?_
              refine lv_bipush (v := (-24)) hx hb dX4_readNegated_46 (by decide) ?_
              refine ti_callVv (ci := 1) (av := [.int (-24)]) C hw (x_X1_add l D A cy hJ M_45 iM_45 t ht j hj (-24) (by first | omega | exact Or.inl (by decide) | exact Or.inr (by decide)) B n g_52 hs_53 d_54 tq_55) ⟨ml_X4_170, ym_X1_add, yv_X1_add, yi_X1_add, yc_X1_add⟩ yd_X1_add (ob_l ht hj) (by decide) rfl rfl hl.1 (Nat.le_of_ble_eq_true rfl) ⟨by decide, by decide⟩ ⟨Nat.zero_le _, Nat.zero_le _⟩ dX4_readNegated_48 (fun M_62 H locs hp_62 hw => ?_)
              obtain ⟨iM_62, q_63, q_64, q_65, p0r_61, p1r_61⟩ := hp_62
              have lM_62_0 : g_52 0 = (tI M_62 2 4).toInt := p0r_61.2.1.1
              have lM_62_1 : g_52 1 = (tI M_62 2 6).toInt := p0r_61.2.1.2.1
              have lM_62_4 : g_52 4 = (tI M_62 1 4).toInt := p0r_61.2.2.1.1
              have lM_62_7 : g_52 7 = (tI M_62 t 4).toInt := p0r_61.2.2.2.1.1
              have lM_62_8 : g_52 8 = (tI M_62 t 5).toInt := p0r_61.2.2.2.1.2.1
              simp only [show ((-24) : Int32).toInt = (-24) by decide] at p1r_61
              obtain ⟨d_66, ed_66⟩ : ∃ z : Nat → Int, z = qa j (-24) d_54 := ⟨_, rfl⟩
              rw [← ed_66] at p1r_61
              obtain ⟨x_67, ex_67⟩ : ∃ z : Int32, z = x_42 + 1 := ⟨_, rfl⟩
              have tx_67 : x_67.toInt = x_42.toInt + 1 := i_add ex_67 rfl (by decide) (by omega) (by omega)
              refine lv_iinc (v := x_67) (lv' := [(3, .int x_67), (2, .int x_1), (0, .ref (A 1 0)), (1, .int 8)]) hx hb dX4_readNegated_51 hl (k := 0) rfl (by rw [ex_67]; rfl) (by decide) rfl (fun ls hl => ?_)
              refine lv_goto (tgt := 37) hx hb dX4_readNegated_54 (by decide) ?_
              exact ih_59 x_67 M_62 g_52 d_66 _ _ _ (by omega) (by first | omega | decide) (by first | omega | decide) iM_62 ((q_63).trans f_46) (f0.trans (f0_x q_64) f_47) (((q_64 1).2.1).trans f_48) (ot.trans q_65 f_49) ((tT_fr q_63).trans f_50) ((tT_fr q_63).trans f_51) p0r_61 p1r_61 j_56 (by rw [show x_67.toInt.toNat = x_42.toInt.toNat + 1 by omega, ed_66, ← j_57]; rfl) (by first | omega | decide) hw (lv_sub hl [0, 1, 2, 3] rfl)
        exact hl_37_58 ((65 - 0 : Int).toNat + 1) 0 M_35 g_40 d_41 _ _ _ (Nat.lt_succ_self _) (by have lt0 : (0 : Int32).toInt = 0 := (by decide); first | omega | decide) (by have lt0 : (0 : Int32).toInt = 0 := (by decide); first | omega | decide) iM_35 ((q_36).trans f_5) (f0.trans q_37 f_6) ((q_38).trans f_7) (ot.trans q_39 f_8) ((tT_fr q_36).trans f_9) ((tT_fr q_36).trans f_10) p0r_34 p1r_34 rfl rfl (by have lt0 : (0 : Int32).toInt = 0 := (by decide); first | omega | decide) hw (lv_sub hl [0, 1, 2, 3] rfl)
      refine sb_icmp_gt (tgt := 30) hx hb rfl (by decide : (64 : Int32).toInt = 64) dX4_readNegated_5 (by decide) (fun c_5_18 => ?_) (fun c_5_18 => ?_)
      · exact hj_30_33  _ _ _ (by rw [j_15, lp_end (P := pp_qN) (f := 65 - x_1.toInt.toNat) (s := g_11) (Or.inl (by omega))]) (by rw [j_16, ca_end (f := 65 - x_1.toInt.toNat) (s := g_11) (Or.inl (by omega))]) j_17 hw (lv_sub hl [0, 1, 2] rfl)
      · refine lv_aload_n hx hb dX4_readNegated_8 rfl (lv_at hl 1 rfl) ?_
        refine ti_get (ci := 4) (k := 0) (N := 6) (T := TX4) (v := .ref (A 2 0)) C hw iw_4 rfl ob_1 (by decide) (by decide) fl_X4_12 rfl rfl dX4_readNegated_9 ?_
        refine ti_get (ci := 7) (k := 4) (N := 7) (T := TX7) C hw iw_7 rfl ob_2 (by decide) (by decide) fl_X4_41 rfl rfl dX4_readNegated_12 ?_
        refine lv_topi (fun x_20 ex_20 => ?_)
        have bx_20 : 0 ≤ x_20.toInt ∧ x_20.toInt ≤ 41 := cI_rd iM_4 ob_2.1 ex_20
        have ux_20 : (tI M_4 2 4).toInt = x_20.toInt := by rw [ex_20]
        refine lv_bipush (v := 24) hx hb dX4_readNegated_15 (by decide) ?_
        refine sb_icmp_ne (tgt := 30) hx hb rfl (by decide : (24 : Int32).toInt = 24) dX4_readNegated_17 (by decide) (fun c_17_20 => ?_) (fun c_17_20 => ?_)
        · exact hj_30_33  _ _ _ (by rw [j_15, lp_end (P := pp_qN) (f := 65 - x_1.toInt.toNat) (s := g_11) (Or.inr (decide_eq_false (by omega)))]) (by rw [j_16, ca_end (f := 65 - x_1.toInt.toNat) (s := g_11) (Or.inr (decide_eq_false (by omega)))]) j_17 hw (lv_sub hl [0, 1, 2] rfl)
        · refine lv_aload_n hx hb dX4_readNegated_20 rfl (lv_at hl 1 rfl) ?_
          refine ti_callVvE (ci := 4) (av := []) C hE hw (x_X4_knot l D A cy hJ M_4 iM_4 t ht (f_9) B n g_11 hs_12 d_13 tq_14) ⟨ml_X4_167, ym_X4_knot, yv_X4_knot, yi_X4_knot, yc_X4_knot⟩ yd_X4_knot ob_1 (by decide) rfl rfl hl.1 (Nat.le_of_ble_eq_true rfl) ⟨by decide, by decide⟩ ⟨Nat.zero_le _, Nat.zero_le _⟩ dX4_readNegated_21 (fun M_23 H locs hp_23 hw => ?_)
          obtain ⟨iM_23, q_24, q_25, q_26, q_27, q_28, p0r_22, p1r_22⟩ := hp_23
          obtain ⟨g_29, eg_29⟩ : ∃ z : Nat → Int, z = pp_kn B n g_11 := ⟨_, rfl⟩
          rw [← eg_29] at p0r_22
          have lg_29_0 : g_29 0 = (tI M_23 2 4).toInt := p0r_22.2.1.1
          have lg_29_1 : g_29 1 = (tI M_23 2 6).toInt := p0r_22.2.1.2.1
          have lg_29_4 : g_29 4 = (tI M_23 1 4).toInt := p0r_22.2.2.1.1
          have lg_29_7 : g_29 7 = (tI M_23 t 4).toInt := p0r_22.2.2.2.1.1
          have lg_29_8 : g_29 8 = (tI M_23 t 5).toInt := p0r_22.2.2.2.1.2.1
          obtain ⟨x_30, ex_30⟩ : ∃ z : Int32, z = x_1 + 1 := ⟨_, rfl⟩
          have tx_30 : x_30.toInt = x_1.toInt + 1 := i_add ex_30 rfl (by decide) (by omega) (by omega)
          refine lv_iinc (v := x_30) (lv' := [(2, .int x_30), (0, .ref (A 1 0)), (1, .int 8)]) hx hb dX4_readNegated_24 hl (k := 0) rfl (by rw [ex_30]; rfl) (by decide) rfl (fun ls hl => ?_)
          refine lv_goto (tgt := 2) hx hb dX4_readNegated_27 (by decide) ?_
          exact ih_18 x_30 M_23 g_29 d_13 _ _ _ (by omega) (by first | omega | decide) (by first | omega | decide) iM_23 ((q_24).trans f_5) (f0.trans q_25 f_6) ((q_26).trans f_7) (ot.trans q_27 f_8) ((tT_fr q_24).trans f_9) ((tT_fr q_24).trans f_10) p0r_22 p1r_22 (j_15.trans (lp_step (decide_eq_true (by omega)) (by rw [eg_29]) (by omega))) (j_16.trans (ca_step (decide_eq_true (by omega)) (by rw [eg_29]) (by omega) (by omega))) j_17 hw (lv_sub hl [0, 1, 2] rfl)
  exact hl_2_17 ((65 - 0 : Int).toNat + 1) 0 M rg td _ _ _ (Nat.lt_succ_self _) (by have lt0 : (0 : Int32).toInt = 0 := (by decide); first | omega | decide) (by have lt0 : (0 : Int32).toInt = 0 := (by decide); first | omega | decide) hI rfl f0.refl rfl ot.refl (hT) (hL) hr hq rfl rfl rfl hw (lv_sub hl [0, 1, 2] rfl)
set_option maxHeartbeats 4000000 in
set_option maxRecDepth 100000 in
theorem x_X4_readBoth_8 (l : Launch) (D : va_G) (A : Nat → Nat → Nat) (cy : Nat → ClassId) (hJ : ti_inj ti_LT A) (M : ti_M) (hI : cI Tc M) (t : Nat) (ht : t = 3 ∨ t = 4) (hT : tT M 1 1 = some t) (j : Nat) (hj : j < 3) (hL : tT M 1 2 = some (ti_laws t j)) (B : Nat → Int) (n : Nat) (rg : Nat → Int) (hr : rC B n t rg M) (td : Nat → Int) (hq : tq t td M) : ti_KvE l yX4_readBoth cX4_readBoth 3 13 ti_LT D A cy M [.ref (A 1 0), .int 8] (fun M2 => cI Tc M2 ∧ M2.2.2.2 = M.2.2.2 ∧ f0 M2 M ∧ tI M2 2 1 = tI M 2 1 ∧ ot t M2 M ∧ rC B n t (pp_bo B n (pp_pt B n 0) rg) M2 ∧ tq t (qq_bo B n j (pp_pt B n 0) (qq_pt B n j 0) rg td) M2) := by
  refine ti_eVE yp_X4_readBoth hJ ti_LT_nd (Nat.le_of_ble_eq_true rfl) ?_
  intro p e s m args below meth c Q H0 C hE hQ hw ls hl
  have hx := C.1
  have hb := C.2.1
  have hl : lv_has ls 3 [(0, .ref (A 1 0)), (1, .int 8)] := hl
  have l0 : rg 0 = (tI M 2 4).toInt := hr.2.1.1
  have l1 : rg 1 = (tI M 2 6).toInt := hr.2.1.2.1
  have l2 : rg 2 = (tI M 2 5).toInt := hr.2.1.2.2.1
  have l3 : rg 3 = (tI M 2 3).toInt := hr.2.1.2.2.2
  have l4 : rg 4 = (tI M 1 4).toInt := hr.2.2.1.1
  have l5 : rg 5 = (tI M 1 5).toInt := hr.2.2.1.2.1
  have l7 : rg 7 = (tI M t 4).toInt := hr.2.2.2.1.1
  have l8 : rg 8 = (tI M t 5).toInt := hr.2.2.2.1.2.1
  have l9 : rg 9 = (tI M t 3).toInt := hr.2.2.2.1.2.2
  refine lv_aload_n hx hb dX4_readBoth_0 rfl (lv_at hl 0 rfl) ?_
  refine lv_iload_n hx hb dX4_readBoth_1 rfl (lv_at hl 1 rfl) ?_
  refine ti_callVvE (ci := 4) (av := [.int 8]) C hE hw (x_X4_readNegated_8 l D A cy hJ M hI t ht (hT) j hj (hL) B n rg hr td hq) ⟨ml_X4_175, ym_X4_readNegated, yv_X4_readNegated, yi_X4_readNegated, yc_X4_readNegated⟩ yd_X4_readNegated ob_1 (by decide) rfl rfl hl.1 (Nat.le_of_ble_eq_true rfl) ⟨by decide, by decide⟩ ⟨Nat.zero_le _, Nat.zero_le _⟩ dX4_readBoth_2 (fun M_2 H locs hp_2 hw => ?_)
  obtain ⟨iM_2, q_3, q_4, q_5, q_6, p0r_1, p1r_1⟩ := hp_2
  obtain ⟨g_7, eg_7⟩ : ∃ z : Nat → Int, z = pp_ng B n (pp_pt B n 0) rg := ⟨_, rfl⟩
  rw [← eg_7] at p0r_1
  have lg_7_0 : g_7 0 = (tI M_2 2 4).toInt := p0r_1.2.1.1
  have lg_7_1 : g_7 1 = (tI M_2 2 6).toInt := p0r_1.2.1.2.1
  have lg_7_4 : g_7 4 = (tI M_2 1 4).toInt := p0r_1.2.2.1.1
  have lg_7_7 : g_7 7 = (tI M_2 t 4).toInt := p0r_1.2.2.2.1.1
  have lg_7_8 : g_7 8 = (tI M_2 t 5).toInt := p0r_1.2.2.2.1.2.1
  obtain ⟨d_8, ed_8⟩ : ∃ z : Nat → Int, z = qq_ng B n j (pp_pt B n 0) (qq_pt B n j 0) rg td := ⟨_, rfl⟩
  rw [← ed_8] at p1r_1
  refine lv_iconst (v := 0) hx hb dX4_readBoth_5 (by decide) ?_
  refine lv_istore_n (lv' := [(2, .int 0), (0, .ref (A 1 0)), (1, .int 8)]) hx hb dX4_readBoth_6 rfl hl (by decide) rfl (fun ls hl => ?_)
  have hl_7_24 : ∀ (n_25 : Nat) (x_9 : Int32) (M_12 : ti_M) (g_19 : Nat → Int) (d_21 : Nat → Int) (H : Heap) (locs : List Loc) (ls : Array Slot), (64 - x_9.toInt : Int).toNat < n_25 → (0 ≤ x_9.toInt) → (x_9.toInt ≤ 64) → (cI Tc M_12) → (M_12.2.2.2 = M.2.2.2) → (f0 M_12 M) → (tI M_12 2 1 = tI M 2 1) → (ot t M_12 M) → (tT M_12 1 1 = (some t)) → (tT M_12 1 2 = (some (ti_laws t j))) → (rC B n t g_19 M_12) → (tq t d_21 M_12) → (pp_lp pp_qA (fun s => pp_ng B n (pp_pt B n 0) (pp_kn B n s)) 64 g_7 = pp_lp pp_qA (fun s => pp_ng B n (pp_pt B n 0) (pp_kn B n s)) (64 - (x_9.toInt).toNat) g_19) → (qq_lp pp_qA (fun s => pp_ng B n (pp_pt B n 0) (pp_kn B n s)) (fun s td => qa j (-22) (qq_ng B n j (pp_pt B n 0) (qq_pt B n j 0) (pp_kn B n s) td)) 64 g_7 d_8 = qq_lp pp_qA (fun s => pp_ng B n (pp_pt B n 0) (pp_kn B n s)) (fun s td => qa j (-22) (qq_ng B n j (pp_pt B n 0) (qq_pt B n j 0) (pp_kn B n s) td)) (64 - (x_9.toInt).toNat) g_19 d_21) → ti_H ti_LT D A cy H0 M_12 H locs → lv_has ls 3 [(2, .int x_9), (0, .ref (A 1 0)), (1, .int 8)] → W p l e (ti_rm 13) s m args below meth c H locs 0 0 Q (F0 m 7 ls []) := by
    intro n_25
    induction n_25 with
    | zero => intro x_9 M_12 g_19 d_21 H locs ls hf_25; exact absurd hf_25 (Nat.not_lt_zero _)
    | succ n_25 ih_25 =>
      intro x_9 M_12 g_19 d_21 H locs ls hf_25 b_10 b_11 iM_12 f_13 f_14 f_15 f_16 f_17 f_18 hs_20 tq_22 j_23 j_24 hw hl
      have lg_19_0 : g_19 0 = (tI M_12 2 4).toInt := hs_20.2.1.1
      have lg_19_1 : g_19 1 = (tI M_12 2 6).toInt := hs_20.2.1.2.1
      have lg_19_4 : g_19 4 = (tI M_12 1 4).toInt := hs_20.2.2.1.1
      have lg_19_7 : g_19 7 = (tI M_12 t 4).toInt := hs_20.2.2.2.1.1
      have lg_19_8 : g_19 8 = (tI M_12 t 5).toInt := hs_20.2.2.2.1.2.1
      refine lv_iload_n hx hb dX4_readBoth_7 rfl (lv_at hl 0 rfl) ?_
      refine lv_bipush (v := 64) hx hb dX4_readBoth_8 (by decide) ?_
      refine sb_icmp_ge (tgt := 49) hx hb rfl (by decide : (64 : Int32).toInt = 64) dX4_readBoth_10 (by decide) (fun c_10_25 => ?_) (fun c_10_25 => ?_)
      · exact hQ _ _ _ _ _ hw (⟨iM_12, (f_13), f_14, (f_15), f_16, (by unfold pp_bo; rw [← eg_7, j_23, lp_end (P := pp_qA) (f := 64 - x_9.toInt.toNat) (s := g_19) (Or.inl (by omega))]; exact hs_20), (by unfold qq_bo; rw [← eg_7, ← ed_8, j_24, qlp_end (P := pp_qA) (f := 64 - x_9.toInt.toNat) (s := g_19) (Or.inl (by omega))]; exact tq_22)⟩) dX4_readBoth_49
      · refine lv_aload_n hx hb dX4_readBoth_13 rfl (lv_at hl 1 rfl) ?_
        refine ti_get (ci := 4) (k := 0) (N := 6) (T := TX4) (v := .ref (A 2 0)) C hw iw_4 rfl ob_1 (by decide) (by decide) fl_X4_12 rfl rfl dX4_readBoth_14 ?_
        refine ti_get (ci := 7) (k := 4) (N := 7) (T := TX7) C hw iw_7 rfl ob_2 (by decide) (by decide) fl_X4_41 rfl rfl dX4_readBoth_17 ?_
        refine lv_topi (fun x_27 ex_27 => ?_)
        have bx_27 : 0 ≤ x_27.toInt ∧ x_27.toInt ≤ 41 := cI_rd iM_12 ob_2.1 ex_27
        have ux_27 : (tI M_12 2 4).toInt = x_27.toInt := by rw [ex_27]
        refine lv_bipush (v := 22) hx hb dX4_readBoth_20 (by decide) ?_
        refine sb_icmp_ne (tgt := 49) hx hb rfl (by decide : (22 : Int32).toInt = 22) dX4_readBoth_22 (by decide) (fun c_22_27 => ?_) (fun c_22_27 => ?_)
        · exact hQ _ _ _ _ _ hw (⟨iM_12, (f_13), f_14, (f_15), f_16, (by unfold pp_bo; rw [← eg_7, j_23, lp_end (P := pp_qA) (f := 64 - x_9.toInt.toNat) (s := g_19) (Or.inr (decide_eq_false (by omega)))]; exact hs_20), (by unfold qq_bo; rw [← eg_7, ← ed_8, j_24, qlp_end (P := pp_qA) (f := 64 - x_9.toInt.toNat) (s := g_19) (Or.inr (decide_eq_false (by omega)))]; exact tq_22)⟩) dX4_readBoth_49
        · refine lv_aload_n hx hb dX4_readBoth_25 rfl (lv_at hl 1 rfl) ?_
          refine ti_callVvE (ci := 4) (av := []) C hE hw (x_X4_knot l D A cy hJ M_12 iM_12 t ht (f_17) B n g_19 hs_20 d_21 tq_22) ⟨ml_X4_167, ym_X4_knot, yv_X4_knot, yi_X4_knot, yc_X4_knot⟩ yd_X4_knot ob_1 (by decide) rfl rfl hl.1 (Nat.le_of_ble_eq_true rfl) ⟨by decide, by decide⟩ ⟨Nat.zero_le _, Nat.zero_le _⟩ dX4_readBoth_26 (fun M_30 H locs hp_30 hw => ?_)
          obtain ⟨iM_30, q_31, q_32, q_33, q_34, q_35, p0r_29, p1r_29⟩ := hp_30
          obtain ⟨g_36, eg_36⟩ : ∃ z : Nat → Int, z = pp_kn B n g_19 := ⟨_, rfl⟩
          rw [← eg_36] at p0r_29
          have lg_36_0 : g_36 0 = (tI M_30 2 4).toInt := p0r_29.2.1.1
          have lg_36_1 : g_36 1 = (tI M_30 2 6).toInt := p0r_29.2.1.2.1
          have lg_36_4 : g_36 4 = (tI M_30 1 4).toInt := p0r_29.2.2.1.1
          have lg_36_7 : g_36 7 = (tI M_30 t 4).toInt := p0r_29.2.2.2.1.1
          have lg_36_8 : g_36 8 = (tI M_30 t 5).toInt := p0r_29.2.2.2.1.2.1
          refine lv_aload_n hx hb dX4_readBoth_29 rfl (lv_at hl 1 rfl) ?_
          refine lv_iload_n hx hb dX4_readBoth_30 rfl (lv_at hl 2 rfl) ?_
          refine ti_callVvE (ci := 4) (av := [.int 8]) C hE hw (x_X4_readNegated_8 l D A cy hJ M_30 iM_30 t ht ((tT_fr q_31).trans f_17) j hj ((tT_fr q_31).trans f_18) B n g_36 p0r_29 d_21 p1r_29) ⟨ml_X4_175, ym_X4_readNegated, yv_X4_readNegated, yi_X4_readNegated, yc_X4_readNegated⟩ yd_X4_readNegated ob_1 (by decide) rfl rfl hl.1 (Nat.le_of_ble_eq_true rfl) ⟨by decide, by decide⟩ ⟨Nat.zero_le _, Nat.zero_le _⟩ dX4_readBoth_31 (fun M_38 H locs hp_38 hw => ?_)
          obtain ⟨iM_38, q_39, q_40, q_41, q_42, p0r_37, p1r_37⟩ := hp_38
          obtain ⟨g_43, eg_43⟩ : ∃ z : Nat → Int, z = pp_ng B n (pp_pt B n 0) g_36 := ⟨_, rfl⟩
          rw [← eg_43] at p0r_37
          have lg_43_0 : g_43 0 = (tI M_38 2 4).toInt := p0r_37.2.1.1
          have lg_43_1 : g_43 1 = (tI M_38 2 6).toInt := p0r_37.2.1.2.1
          have lg_43_4 : g_43 4 = (tI M_38 1 4).toInt := p0r_37.2.2.1.1
          have lg_43_7 : g_43 7 = (tI M_38 t 4).toInt := p0r_37.2.2.2.1.1
          have lg_43_8 : g_43 8 = (tI M_38 t 5).toInt := p0r_37.2.2.2.1.2.1
          obtain ⟨d_44, ed_44⟩ : ∃ z : Nat → Int, z = qq_ng B n j (pp_pt B n 0) (qq_pt B n j 0) g_36 d_21 := ⟨_, rfl⟩
          rw [← ed_44] at p1r_37
          refine lv_aload_n hx hb dX4_readBoth_34 rfl (lv_at hl 1 rfl) ?_
          refine ti_get (ci := 4) (k := 2) (N := 6) (T := TX4) (v := .ref (A (ti_laws t j) 0)) C hw iw_4 rfl ob_1 (by decide) (by decide) fl_X4_154 rfl (ti_Tv ((tT_fr q_39).trans ((tT_fr q_31).trans f_18))) dX4_readBoth_35 ?_
          refine lv_bipush (v := (-22)) hx hb dX4_readBoth_38 (by decide) ?_
          refine ti_callVv (ci := 1) (av := [.int (-22)]) C hw (x_X1_add l D A cy hJ M_38 iM_38 t ht j hj (-22) (by first | omega | exact Or.inl (by decide) | exact Or.inr (by decide)) B n g_43 p0r_37 d_44 p1r_37) ⟨ml_X4_170, ym_X1_add, yv_X1_add, yi_X1_add, yc_X1_add⟩ yd_X1_add (ob_l ht hj) (by decide) rfl rfl hl.1 (Nat.le_of_ble_eq_true rfl) ⟨by decide, by decide⟩ ⟨Nat.zero_le _, Nat.zero_le _⟩ dX4_readBoth_40 (fun M_46 H locs hp_46 hw => ?_)
          obtain ⟨iM_46, q_47, q_48, q_49, p0r_45, p1r_45⟩ := hp_46
          have lM_46_0 : g_43 0 = (tI M_46 2 4).toInt := p0r_45.2.1.1
          have lM_46_1 : g_43 1 = (tI M_46 2 6).toInt := p0r_45.2.1.2.1
          have lM_46_4 : g_43 4 = (tI M_46 1 4).toInt := p0r_45.2.2.1.1
          have lM_46_7 : g_43 7 = (tI M_46 t 4).toInt := p0r_45.2.2.2.1.1
          have lM_46_8 : g_43 8 = (tI M_46 t 5).toInt := p0r_45.2.2.2.1.2.1
          simp only [show ((-22) : Int32).toInt = (-22) by decide] at p1r_45
          obtain ⟨d_50, ed_50⟩ : ∃ z : Nat → Int, z = qa j (-22) d_44 := ⟨_, rfl⟩
          rw [← ed_50] at p1r_45
          obtain ⟨x_51, ex_51⟩ : ∃ z : Int32, z = x_9 + 1 := ⟨_, rfl⟩
          have tx_51 : x_51.toInt = x_9.toInt + 1 := i_add ex_51 rfl (by decide) (by omega) (by omega)
          refine lv_iinc (v := x_51) (lv' := [(2, .int x_51), (0, .ref (A 1 0)), (1, .int 8)]) hx hb dX4_readBoth_43 hl (k := 0) rfl (by rw [ex_51]; rfl) (by decide) rfl (fun ls hl => ?_)
          refine lv_goto (tgt := 7) hx hb dX4_readBoth_46 (by decide) ?_
          exact ih_25 x_51 M_46 g_43 d_50 _ _ _ (by omega) (by first | omega | decide) (by first | omega | decide) iM_46 ((q_47).trans ((q_39).trans ((q_31).trans f_13))) (f0.trans (f0_x q_48) (f0.trans q_40 (f0.trans q_32 f_14))) (((q_48 1).2.1).trans ((q_41).trans ((q_33).trans f_15))) (ot.trans q_49 (ot.trans q_42 (ot.trans q_34 f_16))) ((tT_fr q_47).trans ((tT_fr q_39).trans ((tT_fr q_31).trans f_17))) ((tT_fr q_47).trans ((tT_fr q_39).trans ((tT_fr q_31).trans f_18))) p0r_45 p1r_45 (j_23.trans (lp_step (decide_eq_true (by omega)) (by rw [eg_43, eg_36]) (by omega))) (j_24.trans (qlp_step (decide_eq_true (by omega)) (by rw [eg_43, eg_36]) (by rw [ed_50, ed_44, eg_36]) (by omega))) hw (lv_sub hl [0, 1, 2] rfl)
  exact hl_7_24 ((64 - 0 : Int).toNat + 1) 0 M_2 g_7 d_8 _ _ _ (Nat.lt_succ_self _) (by have lt0 : (0 : Int32).toInt = 0 := (by decide); first | omega | decide) (by have lt0 : (0 : Int32).toInt = 0 := (by decide); first | omega | decide) iM_2 (q_3) q_4 (q_5) q_6 ((tT_fr q_3).trans hT) ((tT_fr q_3).trans hL) p0r_1 p1r_1 rfl rfl hw (lv_sub hl [0, 1, 2] rfl)
set_option maxHeartbeats 4000000 in
set_option maxRecDepth 100000 in
theorem x_X4_readEither_8 (l : Launch) (D : va_G) (A : Nat → Nat → Nat) (cy : Nat → ClassId) (hJ : ti_inj ti_LT A) (M : ti_M) (hI : cI Tc M) (t : Nat) (ht : t = 3 ∨ t = 4) (hT : tT M 1 1 = some t) (j : Nat) (hj : j < 3) (hL : tT M 1 2 = some (ti_laws t j)) (B : Nat → Int) (n : Nat) (rg : Nat → Int) (hr : rC B n t rg M) (td : Nat → Int) (hq : tq t td M) : ti_KvE l yX4_readEither cX4_readEither 3 14 ti_LT D A cy M [.ref (A 1 0), .int 8] (fun M2 => cI Tc M2 ∧ M2.2.2.2 = M.2.2.2 ∧ f0 M2 M ∧ tI M2 2 1 = tI M 2 1 ∧ ot t M2 M ∧ rC B n t (pp_ei B n (pp_pt B n 0) rg) M2 ∧ tq t (qq_ei B n j (pp_pt B n 0) (qq_pt B n j 0) rg td) M2) := by
  refine ti_eVE yp_X4_readEither hJ ti_LT_nd (Nat.le_of_ble_eq_true rfl) ?_
  intro p e s m args below meth c Q H0 C hE hQ hw ls hl
  have hx := C.1
  have hb := C.2.1
  have hl : lv_has ls 3 [(0, .ref (A 1 0)), (1, .int 8)] := hl
  have l0 : rg 0 = (tI M 2 4).toInt := hr.2.1.1
  have l1 : rg 1 = (tI M 2 6).toInt := hr.2.1.2.1
  have l2 : rg 2 = (tI M 2 5).toInt := hr.2.1.2.2.1
  have l3 : rg 3 = (tI M 2 3).toInt := hr.2.1.2.2.2
  have l4 : rg 4 = (tI M 1 4).toInt := hr.2.2.1.1
  have l5 : rg 5 = (tI M 1 5).toInt := hr.2.2.1.2.1
  have l7 : rg 7 = (tI M t 4).toInt := hr.2.2.2.1.1
  have l8 : rg 8 = (tI M t 5).toInt := hr.2.2.2.1.2.1
  have l9 : rg 9 = (tI M t 3).toInt := hr.2.2.2.1.2.2
  refine lv_aload_n hx hb dX4_readEither_0 rfl (lv_at hl 0 rfl) ?_
  refine lv_iload_n hx hb dX4_readEither_1 rfl (lv_at hl 1 rfl) ?_
  refine ti_callVvE (ci := 4) (av := [.int 8]) C hE hw (x_X4_readBoth_8 l D A cy hJ M hI t ht (hT) j hj (hL) B n rg hr td hq) ⟨ml_X4_164, ym_X4_readBoth, yv_X4_readBoth, yi_X4_readBoth, yc_X4_readBoth⟩ yd_X4_readBoth ob_1 (by decide) rfl rfl hl.1 (Nat.le_of_ble_eq_true rfl) ⟨by decide, by decide⟩ ⟨Nat.zero_le _, Nat.zero_le _⟩ dX4_readEither_2 (fun M_2 H locs hp_2 hw => ?_)
  obtain ⟨iM_2, q_3, q_4, q_5, q_6, p0r_1, p1r_1⟩ := hp_2
  obtain ⟨g_7, eg_7⟩ : ∃ z : Nat → Int, z = pp_bo B n (pp_pt B n 0) rg := ⟨_, rfl⟩
  rw [← eg_7] at p0r_1
  have lg_7_0 : g_7 0 = (tI M_2 2 4).toInt := p0r_1.2.1.1
  have lg_7_1 : g_7 1 = (tI M_2 2 6).toInt := p0r_1.2.1.2.1
  have lg_7_4 : g_7 4 = (tI M_2 1 4).toInt := p0r_1.2.2.1.1
  have lg_7_7 : g_7 7 = (tI M_2 t 4).toInt := p0r_1.2.2.2.1.1
  have lg_7_8 : g_7 8 = (tI M_2 t 5).toInt := p0r_1.2.2.2.1.2.1
  obtain ⟨d_8, ed_8⟩ : ∃ z : Nat → Int, z = qq_bo B n j (pp_pt B n 0) (qq_pt B n j 0) rg td := ⟨_, rfl⟩
  rw [← ed_8] at p1r_1
  refine lv_iconst (v := 0) hx hb dX4_readEither_5 (by decide) ?_
  refine lv_istore_n (lv' := [(2, .int 0), (0, .ref (A 1 0)), (1, .int 8)]) hx hb dX4_readEither_6 rfl hl (by decide) rfl (fun ls hl => ?_)
  have hl_7_24 : ∀ (n_25 : Nat) (x_9 : Int32) (M_12 : ti_M) (g_19 : Nat → Int) (d_21 : Nat → Int) (H : Heap) (locs : List Loc) (ls : Array Slot), (64 - x_9.toInt : Int).toNat < n_25 → (0 ≤ x_9.toInt) → (x_9.toInt ≤ 64) → (cI Tc M_12) → (M_12.2.2.2 = M.2.2.2) → (f0 M_12 M) → (tI M_12 2 1 = tI M 2 1) → (ot t M_12 M) → (tT M_12 1 1 = (some t)) → (tT M_12 1 2 = (some (ti_laws t j))) → (rC B n t g_19 M_12) → (tq t d_21 M_12) → (pp_lp pp_qO (fun s => pp_bo B n (pp_pt B n 0) (pp_kn B n s)) 64 g_7 = pp_lp pp_qO (fun s => pp_bo B n (pp_pt B n 0) (pp_kn B n s)) (64 - (x_9.toInt).toNat) g_19) → (qq_lp pp_qO (fun s => pp_bo B n (pp_pt B n 0) (pp_kn B n s)) (fun s td => qa j (-23) (qq_bo B n j (pp_pt B n 0) (qq_pt B n j 0) (pp_kn B n s) td)) 64 g_7 d_8 = qq_lp pp_qO (fun s => pp_bo B n (pp_pt B n 0) (pp_kn B n s)) (fun s td => qa j (-23) (qq_bo B n j (pp_pt B n 0) (qq_pt B n j 0) (pp_kn B n s) td)) (64 - (x_9.toInt).toNat) g_19 d_21) → ti_H ti_LT D A cy H0 M_12 H locs → lv_has ls 3 [(2, .int x_9), (0, .ref (A 1 0)), (1, .int 8)] → W p l e (ti_rm 14) s m args below meth c H locs 0 0 Q (F0 m 7 ls []) := by
    intro n_25
    induction n_25 with
    | zero => intro x_9 M_12 g_19 d_21 H locs ls hf_25; exact absurd hf_25 (Nat.not_lt_zero _)
    | succ n_25 ih_25 =>
      intro x_9 M_12 g_19 d_21 H locs ls hf_25 b_10 b_11 iM_12 f_13 f_14 f_15 f_16 f_17 f_18 hs_20 tq_22 j_23 j_24 hw hl
      have lg_19_0 : g_19 0 = (tI M_12 2 4).toInt := hs_20.2.1.1
      have lg_19_1 : g_19 1 = (tI M_12 2 6).toInt := hs_20.2.1.2.1
      have lg_19_4 : g_19 4 = (tI M_12 1 4).toInt := hs_20.2.2.1.1
      have lg_19_7 : g_19 7 = (tI M_12 t 4).toInt := hs_20.2.2.2.1.1
      have lg_19_8 : g_19 8 = (tI M_12 t 5).toInt := hs_20.2.2.2.1.2.1
      refine lv_iload_n hx hb dX4_readEither_7 rfl (lv_at hl 0 rfl) ?_
      refine lv_bipush (v := 64) hx hb dX4_readEither_8 (by decide) ?_
      refine sb_icmp_ge (tgt := 49) hx hb rfl (by decide : (64 : Int32).toInt = 64) dX4_readEither_10 (by decide) (fun c_10_25 => ?_) (fun c_10_25 => ?_)
      · exact hQ _ _ _ _ _ hw (⟨iM_12, (f_13), f_14, (f_15), f_16, (by unfold pp_ei; rw [← eg_7, j_23, lp_end (P := pp_qO) (f := 64 - x_9.toInt.toNat) (s := g_19) (Or.inl (by omega))]; exact hs_20), (by unfold qq_ei; rw [← eg_7, ← ed_8, j_24, qlp_end (P := pp_qO) (f := 64 - x_9.toInt.toNat) (s := g_19) (Or.inl (by omega))]; exact tq_22)⟩) dX4_readEither_49
      · refine lv_aload_n hx hb dX4_readEither_13 rfl (lv_at hl 1 rfl) ?_
        refine ti_get (ci := 4) (k := 0) (N := 6) (T := TX4) (v := .ref (A 2 0)) C hw iw_4 rfl ob_1 (by decide) (by decide) fl_X4_12 rfl rfl dX4_readEither_14 ?_
        refine ti_get (ci := 7) (k := 4) (N := 7) (T := TX7) C hw iw_7 rfl ob_2 (by decide) (by decide) fl_X4_41 rfl rfl dX4_readEither_17 ?_
        refine lv_topi (fun x_27 ex_27 => ?_)
        have bx_27 : 0 ≤ x_27.toInt ∧ x_27.toInt ≤ 41 := cI_rd iM_12 ob_2.1 ex_27
        have ux_27 : (tI M_12 2 4).toInt = x_27.toInt := by rw [ex_27]
        refine lv_bipush (v := 23) hx hb dX4_readEither_20 (by decide) ?_
        refine sb_icmp_ne (tgt := 49) hx hb rfl (by decide : (23 : Int32).toInt = 23) dX4_readEither_22 (by decide) (fun c_22_27 => ?_) (fun c_22_27 => ?_)
        · exact hQ _ _ _ _ _ hw (⟨iM_12, (f_13), f_14, (f_15), f_16, (by unfold pp_ei; rw [← eg_7, j_23, lp_end (P := pp_qO) (f := 64 - x_9.toInt.toNat) (s := g_19) (Or.inr (decide_eq_false (by omega)))]; exact hs_20), (by unfold qq_ei; rw [← eg_7, ← ed_8, j_24, qlp_end (P := pp_qO) (f := 64 - x_9.toInt.toNat) (s := g_19) (Or.inr (decide_eq_false (by omega)))]; exact tq_22)⟩) dX4_readEither_49
        · refine lv_aload_n hx hb dX4_readEither_25 rfl (lv_at hl 1 rfl) ?_
          refine ti_callVvE (ci := 4) (av := []) C hE hw (x_X4_knot l D A cy hJ M_12 iM_12 t ht (f_17) B n g_19 hs_20 d_21 tq_22) ⟨ml_X4_167, ym_X4_knot, yv_X4_knot, yi_X4_knot, yc_X4_knot⟩ yd_X4_knot ob_1 (by decide) rfl rfl hl.1 (Nat.le_of_ble_eq_true rfl) ⟨by decide, by decide⟩ ⟨Nat.zero_le _, Nat.zero_le _⟩ dX4_readEither_26 (fun M_30 H locs hp_30 hw => ?_)
          obtain ⟨iM_30, q_31, q_32, q_33, q_34, q_35, p0r_29, p1r_29⟩ := hp_30
          obtain ⟨g_36, eg_36⟩ : ∃ z : Nat → Int, z = pp_kn B n g_19 := ⟨_, rfl⟩
          rw [← eg_36] at p0r_29
          have lg_36_0 : g_36 0 = (tI M_30 2 4).toInt := p0r_29.2.1.1
          have lg_36_1 : g_36 1 = (tI M_30 2 6).toInt := p0r_29.2.1.2.1
          have lg_36_4 : g_36 4 = (tI M_30 1 4).toInt := p0r_29.2.2.1.1
          have lg_36_7 : g_36 7 = (tI M_30 t 4).toInt := p0r_29.2.2.2.1.1
          have lg_36_8 : g_36 8 = (tI M_30 t 5).toInt := p0r_29.2.2.2.1.2.1
          refine lv_aload_n hx hb dX4_readEither_29 rfl (lv_at hl 1 rfl) ?_
          refine lv_iload_n hx hb dX4_readEither_30 rfl (lv_at hl 2 rfl) ?_
          refine ti_callVvE (ci := 4) (av := [.int 8]) C hE hw (x_X4_readBoth_8 l D A cy hJ M_30 iM_30 t ht ((tT_fr q_31).trans f_17) j hj ((tT_fr q_31).trans f_18) B n g_36 p0r_29 d_21 p1r_29) ⟨ml_X4_164, ym_X4_readBoth, yv_X4_readBoth, yi_X4_readBoth, yc_X4_readBoth⟩ yd_X4_readBoth ob_1 (by decide) rfl rfl hl.1 (Nat.le_of_ble_eq_true rfl) ⟨by decide, by decide⟩ ⟨Nat.zero_le _, Nat.zero_le _⟩ dX4_readEither_31 (fun M_38 H locs hp_38 hw => ?_)
          obtain ⟨iM_38, q_39, q_40, q_41, q_42, p0r_37, p1r_37⟩ := hp_38
          obtain ⟨g_43, eg_43⟩ : ∃ z : Nat → Int, z = pp_bo B n (pp_pt B n 0) g_36 := ⟨_, rfl⟩
          rw [← eg_43] at p0r_37
          have lg_43_0 : g_43 0 = (tI M_38 2 4).toInt := p0r_37.2.1.1
          have lg_43_1 : g_43 1 = (tI M_38 2 6).toInt := p0r_37.2.1.2.1
          have lg_43_4 : g_43 4 = (tI M_38 1 4).toInt := p0r_37.2.2.1.1
          have lg_43_7 : g_43 7 = (tI M_38 t 4).toInt := p0r_37.2.2.2.1.1
          have lg_43_8 : g_43 8 = (tI M_38 t 5).toInt := p0r_37.2.2.2.1.2.1
          obtain ⟨d_44, ed_44⟩ : ∃ z : Nat → Int, z = qq_bo B n j (pp_pt B n 0) (qq_pt B n j 0) g_36 d_21 := ⟨_, rfl⟩
          rw [← ed_44] at p1r_37
          refine lv_aload_n hx hb dX4_readEither_34 rfl (lv_at hl 1 rfl) ?_
          refine ti_get (ci := 4) (k := 2) (N := 6) (T := TX4) (v := .ref (A (ti_laws t j) 0)) C hw iw_4 rfl ob_1 (by decide) (by decide) fl_X4_154 rfl (ti_Tv ((tT_fr q_39).trans ((tT_fr q_31).trans f_18))) dX4_readEither_35 ?_
          refine lv_bipush (v := (-23)) hx hb dX4_readEither_38 (by decide) ?_
          refine ti_callVv (ci := 1) (av := [.int (-23)]) C hw (x_X1_add l D A cy hJ M_38 iM_38 t ht j hj (-23) (by first | omega | exact Or.inl (by decide) | exact Or.inr (by decide)) B n g_43 p0r_37 d_44 p1r_37) ⟨ml_X4_170, ym_X1_add, yv_X1_add, yi_X1_add, yc_X1_add⟩ yd_X1_add (ob_l ht hj) (by decide) rfl rfl hl.1 (Nat.le_of_ble_eq_true rfl) ⟨by decide, by decide⟩ ⟨Nat.zero_le _, Nat.zero_le _⟩ dX4_readEither_40 (fun M_46 H locs hp_46 hw => ?_)
          obtain ⟨iM_46, q_47, q_48, q_49, p0r_45, p1r_45⟩ := hp_46
          have lM_46_0 : g_43 0 = (tI M_46 2 4).toInt := p0r_45.2.1.1
          have lM_46_1 : g_43 1 = (tI M_46 2 6).toInt := p0r_45.2.1.2.1
          have lM_46_4 : g_43 4 = (tI M_46 1 4).toInt := p0r_45.2.2.1.1
          have lM_46_7 : g_43 7 = (tI M_46 t 4).toInt := p0r_45.2.2.2.1.1
          have lM_46_8 : g_43 8 = (tI M_46 t 5).toInt := p0r_45.2.2.2.1.2.1
          simp only [show ((-23) : Int32).toInt = (-23) by decide] at p1r_45
          obtain ⟨d_50, ed_50⟩ : ∃ z : Nat → Int, z = qa j (-23) d_44 := ⟨_, rfl⟩
          rw [← ed_50] at p1r_45
          obtain ⟨x_51, ex_51⟩ : ∃ z : Int32, z = x_9 + 1 := ⟨_, rfl⟩
          have tx_51 : x_51.toInt = x_9.toInt + 1 := i_add ex_51 rfl (by decide) (by omega) (by omega)
          refine lv_iinc (v := x_51) (lv' := [(2, .int x_51), (0, .ref (A 1 0)), (1, .int 8)]) hx hb dX4_readEither_43 hl (k := 0) rfl (by rw [ex_51]; rfl) (by decide) rfl (fun ls hl => ?_)
          refine lv_goto (tgt := 7) hx hb dX4_readEither_46 (by decide) ?_
          exact ih_25 x_51 M_46 g_43 d_50 _ _ _ (by omega) (by first | omega | decide) (by first | omega | decide) iM_46 ((q_47).trans ((q_39).trans ((q_31).trans f_13))) (f0.trans (f0_x q_48) (f0.trans q_40 (f0.trans q_32 f_14))) (((q_48 1).2.1).trans ((q_41).trans ((q_33).trans f_15))) (ot.trans q_49 (ot.trans q_42 (ot.trans q_34 f_16))) ((tT_fr q_47).trans ((tT_fr q_39).trans ((tT_fr q_31).trans f_17))) ((tT_fr q_47).trans ((tT_fr q_39).trans ((tT_fr q_31).trans f_18))) p0r_45 p1r_45 (j_23.trans (lp_step (decide_eq_true (by omega)) (by rw [eg_43, eg_36]) (by omega))) (j_24.trans (qlp_step (decide_eq_true (by omega)) (by rw [eg_43, eg_36]) (by rw [ed_50, ed_44, eg_36]) (by omega))) hw (lv_sub hl [0, 1, 2] rfl)
  exact hl_7_24 ((64 - 0 : Int).toNat + 1) 0 M_2 g_7 d_8 _ _ _ (Nat.lt_succ_self _) (by have lt0 : (0 : Int32).toInt = 0 := (by decide); first | omega | decide) (by have lt0 : (0 : Int32).toInt = 0 := (by decide); first | omega | decide) iM_2 (q_3) q_4 (q_5) q_6 ((tT_fr q_3).trans hT) ((tT_fr q_3).trans hL) p0r_1 p1r_1 rfl rfl hw (lv_sub hl [0, 1, 2] rfl)
set_option maxHeartbeats 4000000 in
set_option maxRecDepth 100000 in
theorem x_X4_readPart_7 (l : Launch) (D : va_G) (A : Nat → Nat → Nat) (cy : Nat → ClassId) (hJ : ti_inj ti_LT A) (M : ti_M) (hI : cI Tc M) (t : Nat) (ht : t = 3 ∨ t = 4) (hT : tT M 1 1 = some t) (j : Nat) (hj : j < 3) (hL : tT M 1 2 = some (ti_laws t j)) (B : Nat → Int) (n : Nat) (rg : Nat → Int) (hr : rC B n t rg M) (td : Nat → Int) (hq : tq t td M) : ti_KvE l yX4_readPart cX4_readPart 3 15 ti_LT D A cy M [.ref (A 1 0), .int 7] (fun M2 => cI Tc M2 ∧ M2.2.2.2 = M.2.2.2 ∧ f0 M2 M ∧ tI M2 2 1 = tI M 2 1 ∧ ot t M2 M ∧ rC B n t (pp_pt B n 1 rg) M2 ∧ tq t (qq_pt B n j 1 rg td) M2) := by
  refine ti_eVE yp_X4_readPart hJ ti_LT_nd (Nat.le_of_ble_eq_true rfl) ?_
  intro p e s m args below meth c Q H0 C hE hQ hw ls hl
  have hx := C.1
  have hb := C.2.1
  have hl : lv_has ls 3 [(0, .ref (A 1 0)), (1, .int 7)] := hl
  have l0 : rg 0 = (tI M 2 4).toInt := hr.2.1.1
  have l1 : rg 1 = (tI M 2 6).toInt := hr.2.1.2.1
  have l2 : rg 2 = (tI M 2 5).toInt := hr.2.1.2.2.1
  have l3 : rg 3 = (tI M 2 3).toInt := hr.2.1.2.2.2
  have l4 : rg 4 = (tI M 1 4).toInt := hr.2.2.1.1
  have l5 : rg 5 = (tI M 1 5).toInt := hr.2.2.1.2.1
  have l7 : rg 7 = (tI M t 4).toInt := hr.2.2.2.1.1
  have l8 : rg 8 = (tI M t 5).toInt := hr.2.2.2.1.2.1
  have l9 : rg 9 = (tI M t 3).toInt := hr.2.2.2.1.2.2
  refine lv_aload_n hx hb dX4_readPart_0 rfl (lv_at hl 0 rfl) ?_
  refine ti_get (ci := 4) (k := 0) (N := 6) (T := TX4) (v := .ref (A 2 0)) C hw iw_4 rfl ob_1 (by decide) (by decide) fl_X4_12 rfl rfl dX4_readPart_1 ?_
  refine ti_get (ci := 7) (k := 4) (N := 7) (T := TX7) C hw iw_7 rfl ob_2 (by decide) (by decide) fl_X4_41 rfl rfl dX4_readPart_4 ?_
  refine lv_topi (fun x_1 ex_1 => ?_)
  have bx_1 : 0 ≤ x_1.toInt ∧ x_1.toInt ≤ 41 := cI_rd hI ob_2.1 ex_1
  have ux_1 : (tI M 2 4).toInt = x_1.toInt := by rw [ex_1]
  refine lv_istore_n (lv' := [(2, .int x_1), (0, .ref (A 1 0)), (1, .int 7)]) hx hb dX4_readPart_7 rfl hl (by decide) rfl (fun ls hl => ?_)
  refine lv_iload_n hx hb dX4_readPart_8 rfl (lv_at hl 0 rfl) ?_
  refine lv_bipush (v := 30) hx hb dX4_readPart_9 (by decide) ?_
  refine sb_icmp_ne (tgt := 28) hx hb rfl (by decide : (30 : Int32).toInt = 30) dX4_readPart_11 (by decide) (fun c_11_1 => ?_) (fun c_11_1 => ?_)
  · refine lv_iload_n hx hb dX4_readPart_28 rfl (lv_at hl 0 rfl) ?_
    refine lv_bipush (v := 30) hx hb dX4_readPart_29 (by decide) ?_
    refine sb_icmp_ne (tgt := 57) hx hb rfl (by decide : (30 : Int32).toInt = 30) dX4_readPart_31 (by decide) (fun c_31_3 => ?_) (fun h => by omega)
    refine lv_iload_n hx hb dX4_readPart_57 rfl (lv_at hl 0 rfl) ?_
    refine lv_bipush (v := 26) hx hb dX4_readPart_58 (by decide) ?_
    refine sb_icmp_ne (tgt := 84) hx hb rfl (by decide : (26 : Int32).toInt = 26) dX4_readPart_60 (by decide) (fun c_60_30 => ?_) (fun c_60_30 => ?_)
    · refine lv_iload_n hx hb dX4_readPart_84 rfl (lv_at hl 0 rfl) ?_
      refine lv_bipush (v := 26) hx hb dX4_readPart_85 (by decide) ?_
      refine sb_icmp_ne (tgt := 111) hx hb rfl (by decide : (26 : Int32).toInt = 26) dX4_readPart_87 (by decide) (fun c_87_41 => ?_) (fun h => by omega)
      refine lv_iload_n hx hb dX4_readPart_111 rfl (lv_at hl 0 rfl) ?_
      refine lv_bipush (v := 16) hx hb dX4_readPart_112 (by decide) ?_
      refine sb_icmp_lt (tgt := 139) hx hb rfl (by decide : (16 : Int32).toInt = 16) dX4_readPart_114 (by decide) (fun c_114_58 => ?_) (fun c_114_58 => ?_)
      · refine lv_aload_n hx hb dX4_readPart_139 rfl (lv_at hl 1 rfl) ?_
        refine lv_iconst (v := 1) hx hb dX4_readPart_140 (by decide) ?_
        refine ti_callVv (ci := 4) (av := [.int 1]) C hw (x_X4_refuse l D A cy hJ M hI t ht 1 B n rg hr) ⟨ml_X4_82, ym_X4_refuse, yv_X4_refuse, yi_X4_refuse, yc_X4_refuse⟩ yd_X4_refuse ob_1 (by decide) rfl rfl hl.1 (Nat.le_of_ble_eq_true rfl) ⟨by decide, by decide⟩ ⟨Nat.zero_le _, Nat.zero_le _⟩ dX4_readPart_141 (fun M_77 H locs hp_77 hw => ?_)
        obtain ⟨iM_77, q_78, q_79, q_80, q_81, p0r_76⟩ := hp_77
        have hlr_76_1 : (1 : Int32).toInt = 1 := by decide
        simp only [hlr_76_1] at p0r_76
        obtain ⟨g_82, eg_82⟩ : ∃ z : Nat → Int, z = pp_rf 1 rg := ⟨_, rfl⟩
        rw [← eg_82] at p0r_76
        have lg_82_0 : g_82 0 = (tI M_77 2 4).toInt := p0r_76.2.1.1
        have lg_82_1 : g_82 1 = (tI M_77 2 6).toInt := p0r_76.2.1.2.1
        have lg_82_4 : g_82 4 = (tI M_77 1 4).toInt := p0r_76.2.2.1.1
        have lg_82_7 : g_82 7 = (tI M_77 t 4).toInt := p0r_76.2.2.2.1.1
        have lg_82_8 : g_82 8 = (tI M_77 t 5).toInt := p0r_76.2.2.2.1.2.1
        have tq_83 : tq t td M_77 := tq_fr ht hq q_79 q_81
        exact hQ _ _ _ _ _ hw (⟨iM_77, (q_78), (f0_12 q_79), (q_80), (ot_12 ht q_79 q_81), (by rw [pe_1, if_neg (by omega)]; unfold pp_p0; rw [if_neg (by omega), if_neg (fun q => by omega), ← eg_82]; exact p0r_76), (by rw [qe_1, if_neg (by omega)]; unfold qq_p0; rw [if_neg (by omega), if_neg (fun q => by omega)]; exact tq_83)⟩) dX4_readPart_144
      · refine lv_iload_n hx hb dX4_readPart_117 rfl (lv_at hl 0 rfl) ?_
        refine lv_bipush (v := 21) hx hb dX4_readPart_118 (by decide) ?_
        refine sb_icmp_gt (tgt := 139) hx hb rfl (by decide : (21 : Int32).toInt = 21) dX4_readPart_120 (by decide) (fun c_120_59 => ?_) (fun c_120_59 => ?_)
        · refine lv_aload_n hx hb dX4_readPart_139 rfl (lv_at hl 1 rfl) ?_
          refine lv_iconst (v := 1) hx hb dX4_readPart_140 (by decide) ?_
          refine ti_callVv (ci := 4) (av := [.int 1]) C hw (x_X4_refuse l D A cy hJ M hI t ht 1 B n rg hr) ⟨ml_X4_82, ym_X4_refuse, yv_X4_refuse, yi_X4_refuse, yc_X4_refuse⟩ yd_X4_refuse ob_1 (by decide) rfl rfl hl.1 (Nat.le_of_ble_eq_true rfl) ⟨by decide, by decide⟩ ⟨Nat.zero_le _, Nat.zero_le _⟩ dX4_readPart_141 (fun M_85 H locs hp_85 hw => ?_)
          obtain ⟨iM_85, q_86, q_87, q_88, q_89, p0r_84⟩ := hp_85
          have hlr_84_1 : (1 : Int32).toInt = 1 := by decide
          simp only [hlr_84_1] at p0r_84
          obtain ⟨g_90, eg_90⟩ : ∃ z : Nat → Int, z = pp_rf 1 rg := ⟨_, rfl⟩
          rw [← eg_90] at p0r_84
          have lg_90_0 : g_90 0 = (tI M_85 2 4).toInt := p0r_84.2.1.1
          have lg_90_1 : g_90 1 = (tI M_85 2 6).toInt := p0r_84.2.1.2.1
          have lg_90_4 : g_90 4 = (tI M_85 1 4).toInt := p0r_84.2.2.1.1
          have lg_90_7 : g_90 7 = (tI M_85 t 4).toInt := p0r_84.2.2.2.1.1
          have lg_90_8 : g_90 8 = (tI M_85 t 5).toInt := p0r_84.2.2.2.1.2.1
          have tq_91 : tq t td M_85 := tq_fr ht hq q_87 q_89
          exact hQ _ _ _ _ _ hw (⟨iM_85, (q_86), (f0_12 q_87), (q_88), (ot_12 ht q_87 q_89), (by rw [pe_1, if_neg (by omega)]; unfold pp_p0; rw [if_neg (by omega), if_neg (fun q => by omega), ← eg_90]; exact p0r_84), (by rw [qe_1, if_neg (by omega)]; unfold qq_p0; rw [if_neg (by omega), if_neg (fun q => by omega)]; exact tq_91)⟩) dX4_readPart_144
        · refine lv_aload_n hx hb dX4_readPart_123 rfl (lv_at hl 1 rfl) ?_
          refine ti_get (ci := 4) (k := 2) (N := 6) (T := TX4) (v := .ref (A (ti_laws t j) 0)) C hw iw_4 rfl ob_1 (by decide) (by decide) fl_X4_154 rfl (ti_Tv (hL)) dX4_readPart_124 ?_
          refine lv_iload_n hx hb dX4_readPart_127 rfl (lv_at hl 0 rfl) ?_
          refine lv_ineg hx hb dX4_readPart_128 ?_
          refine lv_topi (fun x_61 ex_61 => ?_)
          have tx_61 : x_61.toInt = -x_1.toInt := i_neg ex_61 rfl (by omega)
          refine ti_callVv (ci := 1) (av := [.int x_61]) C hw (x_X1_add l D A cy hJ M hI t ht j hj x_61 (by first | omega | exact Or.inl (by decide) | exact Or.inr (by decide)) B n rg hr td hq) ⟨ml_X4_170, ym_X1_add, yv_X1_add, yi_X1_add, yc_X1_add⟩ yd_X1_add (ob_l ht hj) (by decide) rfl rfl hl.1 (Nat.le_of_ble_eq_true rfl) ⟨by decide, by decide⟩ ⟨Nat.zero_le _, Nat.zero_le _⟩ dX4_readPart_129 (fun M_63 H locs hp_63 hw => ?_)
          obtain ⟨iM_63, q_64, q_65, q_66, p0r_62, p1r_62⟩ := hp_63
          have lM_63_0 : rg 0 = (tI M_63 2 4).toInt := p0r_62.2.1.1
          have lM_63_1 : rg 1 = (tI M_63 2 6).toInt := p0r_62.2.1.2.1
          have lM_63_4 : rg 4 = (tI M_63 1 4).toInt := p0r_62.2.2.1.1
          have lM_63_7 : rg 7 = (tI M_63 t 4).toInt := p0r_62.2.2.2.1.1
          have lM_63_8 : rg 8 = (tI M_63 t 5).toInt := p0r_62.2.2.2.1.2.1
          obtain ⟨d_67, ed_67⟩ : ∃ z : Nat → Int, z = qa j x_61.toInt td := ⟨_, rfl⟩
          rw [← ed_67] at p1r_62
          refine lv_aload_n hx hb dX4_readPart_132 rfl (lv_at hl 1 rfl) ?_
          refine ti_callVvE (ci := 4) (av := []) C hE hw (x_X4_knot l D A cy hJ M_63 iM_63 t ht ((tT_fr q_64).trans hT) B n rg p0r_62 d_67 p1r_62) ⟨ml_X4_167, ym_X4_knot, yv_X4_knot, yi_X4_knot, yc_X4_knot⟩ yd_X4_knot ob_1 (by decide) rfl rfl hl.1 (Nat.le_of_ble_eq_true rfl) ⟨by decide, by decide⟩ ⟨Nat.zero_le _, Nat.zero_le _⟩ dX4_readPart_133 (fun M_69 H locs hp_69 hw => ?_)
          obtain ⟨iM_69, q_70, q_71, q_72, q_73, q_74, p0r_68, p1r_68⟩ := hp_69
          obtain ⟨g_75, eg_75⟩ : ∃ z : Nat → Int, z = pp_kn B n rg := ⟨_, rfl⟩
          rw [← eg_75] at p0r_68
          have lg_75_0 : g_75 0 = (tI M_69 2 4).toInt := p0r_68.2.1.1
          have lg_75_1 : g_75 1 = (tI M_69 2 6).toInt := p0r_68.2.1.2.1
          have lg_75_4 : g_75 4 = (tI M_69 1 4).toInt := p0r_68.2.2.1.1
          have lg_75_7 : g_75 7 = (tI M_69 t 4).toInt := p0r_68.2.2.2.1.1
          have lg_75_8 : g_75 8 = (tI M_69 t 5).toInt := p0r_68.2.2.2.1.2.1
          refine lv_goto (tgt := 144) hx hb dX4_readPart_136 (by decide) ?_
          exact hQ _ _ _ _ _ hw (⟨iM_69, ((q_70).trans q_64), (f0.trans q_71 (f0_x q_65)), ((q_72).trans ((q_65 1).2.1)), (ot.trans q_73 q_66), (by rw [pe_1, if_neg (by omega)]; unfold pp_p0; rw [if_neg (by omega), if_pos ⟨by omega, by omega⟩, ← eg_75]; exact p0r_68), (by rw [qe_1, if_neg (by omega)]; unfold qq_p0; rw [if_neg (by omega), if_pos ⟨by omega, by omega⟩, show -(rg 0) = x_61.toInt by omega, ← ed_67]; exact p1r_68)⟩) dX4_readPart_144
    · refine lv_aload_n hx hb dX4_readPart_63 rfl (lv_at hl 1 rfl) ?_
      refine ti_get (ci := 4) (k := 0) (N := 6) (T := TX4) (v := .ref (A 2 0)) C hw iw_4 rfl ob_1 (by decide) (by decide) fl_X4_12 rfl rfl dX4_readPart_64 ?_
      refine ti_get (ci := 7) (k := 6) (N := 7) (T := TX7) C hw iw_7 rfl ob_2 (by decide) (by decide) fl_X4_95 rfl rfl dX4_readPart_67 ?_
      refine lv_topi (fun x_32 ex_32 => ?_)
      have bx_32 : 0 ≤ x_32.toInt ∧ x_32.toInt ≤ 2147483647 := cI_rd hI ob_2.1 ex_32
      have ux_32 : (tI M 2 6).toInt = x_32.toInt := by rw [ex_32]
      refine lv_sipush (v := 9999) hx hb dX4_readPart_70 (by decide) ?_
      refine sb_icmp_le (tgt := 84) hx hb rfl (by decide : (9999 : Int32).toInt = 9999) dX4_readPart_73 (by decide) (fun c_73_32 => ?_) (fun c_73_32 => ?_)
      · refine lv_iload_n hx hb dX4_readPart_84 rfl (lv_at hl 0 rfl) ?_
        refine lv_bipush (v := 26) hx hb dX4_readPart_85 (by decide) ?_
        refine sb_icmp_ne (tgt := 111) hx hb rfl (by decide : (26 : Int32).toInt = 26) dX4_readPart_87 (by decide) (fun h => by omega) (fun c_87_42 => ?_)
        refine lv_aload_n hx hb dX4_readPart_90 rfl (lv_at hl 1 rfl) ?_
        refine ti_get (ci := 4) (k := 2) (N := 6) (T := TX4) (v := .ref (A (ti_laws t j) 0)) C hw iw_4 rfl ob_1 (by decide) (by decide) fl_X4_154 rfl (ti_Tv (hL)) dX4_readPart_91 ?_
        refine lv_aload_n hx hb dX4_readPart_94 rfl (lv_at hl 1 rfl) ?_
        refine ti_get (ci := 4) (k := 0) (N := 6) (T := TX4) (v := .ref (A 2 0)) C hw iw_4 rfl ob_1 (by decide) (by decide) fl_X4_12 rfl rfl dX4_readPart_95 ?_
        refine ti_get (ci := 7) (k := 6) (N := 7) (T := TX7) C hw iw_7 rfl ob_2 (by decide) (by decide) fl_X4_95 rfl rfl dX4_readPart_98 ?_
        refine ti_top (y := x_32) (ex_32.symm) ?_
        have u_44 : (tI M 2 6).toInt = (x_32 : Int32).toInt := by rw [(ex_32.symm)]
        refine ti_callVv (ci := 1) (av := [.int x_32]) C hw (x_X1_add l D A cy hJ M hI t ht j hj x_32 (by first | omega | exact Or.inl (by decide) | exact Or.inr (by decide)) B n rg hr td hq) ⟨ml_X4_170, ym_X1_add, yv_X1_add, yi_X1_add, yc_X1_add⟩ yd_X1_add (ob_l ht hj) (by decide) rfl rfl hl.1 (Nat.le_of_ble_eq_true rfl) ⟨by decide, by decide⟩ ⟨Nat.zero_le _, Nat.zero_le _⟩ dX4_readPart_101 (fun M_46 H locs hp_46 hw => ?_)
        obtain ⟨iM_46, q_47, q_48, q_49, p0r_45, p1r_45⟩ := hp_46
        have lM_46_0 : rg 0 = (tI M_46 2 4).toInt := p0r_45.2.1.1
        have lM_46_1 : rg 1 = (tI M_46 2 6).toInt := p0r_45.2.1.2.1
        have lM_46_4 : rg 4 = (tI M_46 1 4).toInt := p0r_45.2.2.1.1
        have lM_46_7 : rg 7 = (tI M_46 t 4).toInt := p0r_45.2.2.2.1.1
        have lM_46_8 : rg 8 = (tI M_46 t 5).toInt := p0r_45.2.2.2.1.2.1
        obtain ⟨d_50, ed_50⟩ : ∃ z : Nat → Int, z = qa j x_32.toInt td := ⟨_, rfl⟩
        rw [← ed_50] at p1r_45
        refine lv_aload_n hx hb dX4_readPart_104 rfl (lv_at hl 1 rfl) ?_
        refine ti_callVvE (ci := 4) (av := []) C hE hw (x_X4_knot l D A cy hJ M_46 iM_46 t ht ((tT_fr q_47).trans hT) B n rg p0r_45 d_50 p1r_45) ⟨ml_X4_167, ym_X4_knot, yv_X4_knot, yi_X4_knot, yc_X4_knot⟩ yd_X4_knot ob_1 (by decide) rfl rfl hl.1 (Nat.le_of_ble_eq_true rfl) ⟨by decide, by decide⟩ ⟨Nat.zero_le _, Nat.zero_le _⟩ dX4_readPart_105 (fun M_52 H locs hp_52 hw => ?_)
        obtain ⟨iM_52, q_53, q_54, q_55, q_56, q_57, p0r_51, p1r_51⟩ := hp_52
        obtain ⟨g_58, eg_58⟩ : ∃ z : Nat → Int, z = pp_kn B n rg := ⟨_, rfl⟩
        rw [← eg_58] at p0r_51
        have lg_58_0 : g_58 0 = (tI M_52 2 4).toInt := p0r_51.2.1.1
        have lg_58_1 : g_58 1 = (tI M_52 2 6).toInt := p0r_51.2.1.2.1
        have lg_58_4 : g_58 4 = (tI M_52 1 4).toInt := p0r_51.2.2.1.1
        have lg_58_7 : g_58 7 = (tI M_52 t 4).toInt := p0r_51.2.2.2.1.1
        have lg_58_8 : g_58 8 = (tI M_52 t 5).toInt := p0r_51.2.2.2.1.2.1
        refine lv_goto (tgt := 144) hx hb dX4_readPart_108 (by decide) ?_
        exact hQ _ _ _ _ _ hw (⟨iM_52, ((q_53).trans q_47), (f0.trans q_54 (f0_x q_48)), ((q_55).trans ((q_48 1).2.1)), (ot.trans q_56 q_49), (by rw [pe_1, if_neg (by omega)]; unfold pp_p0; rw [if_pos (by omega), if_neg (by omega), ← eg_58]; exact p0r_51), (by rw [qe_1, if_neg (by omega)]; unfold qq_p0; rw [if_pos (by omega), if_neg (by omega), show rg 1 = x_32.toInt by omega, ← ed_50]; exact p1r_51)⟩) dX4_readPart_144
      · refine lv_aload_n hx hb dX4_readPart_76 rfl (lv_at hl 1 rfl) ?_
        refine lv_iconst (v := 2) hx hb dX4_readPart_77 (by decide) ?_
        refine ti_callVv (ci := 4) (av := [.int 2]) C hw (x_X4_refuse l D A cy hJ M hI t ht 2 B n rg hr) ⟨ml_X4_82, ym_X4_refuse, yv_X4_refuse, yi_X4_refuse, yc_X4_refuse⟩ yd_X4_refuse ob_1 (by decide) rfl rfl hl.1 (Nat.le_of_ble_eq_true rfl) ⟨by decide, by decide⟩ ⟨Nat.zero_le _, Nat.zero_le _⟩ dX4_readPart_78 (fun M_35 H locs hp_35 hw => ?_)
        obtain ⟨iM_35, q_36, q_37, q_38, q_39, p0r_34⟩ := hp_35
        have hlr_34_2 : (2 : Int32).toInt = 2 := by decide
        simp only [hlr_34_2] at p0r_34
        obtain ⟨g_40, eg_40⟩ : ∃ z : Nat → Int, z = pp_rf 2 rg := ⟨_, rfl⟩
        rw [← eg_40] at p0r_34
        have lg_40_0 : g_40 0 = (tI M_35 2 4).toInt := p0r_34.2.1.1
        have lg_40_1 : g_40 1 = (tI M_35 2 6).toInt := p0r_34.2.1.2.1
        have lg_40_4 : g_40 4 = (tI M_35 1 4).toInt := p0r_34.2.2.1.1
        have lg_40_7 : g_40 7 = (tI M_35 t 4).toInt := p0r_34.2.2.2.1.1
        have lg_40_8 : g_40 8 = (tI M_35 t 5).toInt := p0r_34.2.2.2.1.2.1
        have tq_41 : tq t td M_35 := tq_fr ht hq q_37 q_39
        refine lv_goto (tgt := 144) hx hb dX4_readPart_81 (by decide) ?_
        exact hQ _ _ _ _ _ hw (⟨iM_35, (q_36), (f0_12 q_37), (q_38), (ot_12 ht q_37 q_39), (by rw [pe_1, if_neg (by omega)]; unfold pp_p0; rw [if_pos (by omega), if_pos (by omega), ← eg_40]; exact p0r_34), (by rw [qe_1, if_neg (by omega)]; unfold qq_p0; rw [if_pos (by omega), if_pos (by omega)]; exact tq_41)⟩) dX4_readPart_144
  · refine lv_iload_n hx hb dX4_readPart_14 rfl (lv_at hl 2 rfl) ?_
    refine lv_bipush (v := 8) hx hb dX4_readPart_15 (by decide) ?_
    refine sb_icmp_lt (tgt := 28) hx hb (by decide : (7 : Int32).toInt = 7) (by decide : (8 : Int32).toInt = 8) dX4_readPart_17 (by decide) (fun c_17_2 => ?_) (fun h => absurd h (by decide))
    refine lv_iload_n hx hb dX4_readPart_28 rfl (lv_at hl 0 rfl) ?_
    refine lv_bipush (v := 30) hx hb dX4_readPart_29 (by decide) ?_
    refine sb_icmp_ne (tgt := 57) hx hb rfl (by decide : (30 : Int32).toInt = 30) dX4_readPart_31 (by decide) (fun h => by omega) (fun c_31_4 => ?_)
    refine lv_aload_n hx hb dX4_readPart_34 rfl (lv_at hl 1 rfl) ?_
    refine ti_get (ci := 4) (k := 0) (N := 6) (T := TX4) (v := .ref (A 2 0)) C hw iw_4 rfl ob_1 (by decide) (by decide) fl_X4_12 rfl rfl dX4_readPart_35 ?_
    refine ti_callVvE (ci := 7) (av := []) C hE hw (x_X7_advance l D A cy hJ M hI ) ⟨ml_X4_92, ym_X7_advance, yv_X7_advance, yi_X7_advance, yc_X7_advance⟩ yd_X7_advance ob_2 (by decide) rfl rfl hl.1 (Nat.le_of_ble_eq_true rfl) ⟨by decide, by decide⟩ ⟨Nat.zero_le _, Nat.zero_le _⟩ dX4_readPart_38 (fun M_7 H locs hp_7 hw => ?_)
    obtain ⟨iM_7, q_8, q_9, q_10, q_11, p0r_6, p1r_6, p2r_6, p3r_6⟩ := hp_7
    have hs_12 := rC_av ht hr q_11 q_9 p0r_6 p1r_6 p2r_6 p3r_6
    obtain ⟨g_13, eg_13⟩ : ∃ z : Nat → Int, z = pp_av B n rg := ⟨_, rfl⟩
    rw [← eg_13] at hs_12
    have lg_13_0 : g_13 0 = (tI M_7 2 4).toInt := hs_12.2.1.1
    have lg_13_1 : g_13 1 = (tI M_7 2 6).toInt := hs_12.2.1.2.1
    have lg_13_4 : g_13 4 = (tI M_7 1 4).toInt := hs_12.2.2.1.1
    have lg_13_7 : g_13 7 = (tI M_7 t 4).toInt := hs_12.2.2.2.1.1
    have lg_13_8 : g_13 8 = (tI M_7 t 5).toInt := hs_12.2.2.2.1.2.1
    have tq_14 : tq t td M_7 := tq_fr ht hq (o2_12 q_9) q_11.1
    refine lv_aload_n hx hb dX4_readPart_41 rfl (lv_at hl 1 rfl) ?_
    refine lv_iload_n hx hb dX4_readPart_42 rfl (lv_at hl 2 rfl) ?_
    refine lv_iconst (v := 1) hx hb dX4_readPart_43 (by decide) ?_
    refine lv_iadd hx hb dX4_readPart_44 ?_
    refine ti_top (y := 8) (by decide) ?_
    refine ti_callVvE (ci := 4) (av := [.int 8]) C hE hw (x_X4_readEither_8 l D A cy hJ M_7 iM_7 t ht ((tT_fr q_8).trans hT) j hj ((tT_fr q_8).trans hL) B n g_13 hs_12 td tq_14) ⟨ml_X4_158, ym_X4_readEither, yv_X4_readEither, yi_X4_readEither, yc_X4_readEither⟩ yd_X4_readEither ob_1 (by decide) rfl rfl hl.1 (Nat.le_of_ble_eq_true rfl) ⟨by decide, by decide⟩ ⟨Nat.zero_le _, Nat.zero_le _⟩ dX4_readPart_45 (fun M_16 H locs hp_16 hw => ?_)
    obtain ⟨iM_16, q_17, q_18, q_19, q_20, p0r_15, p1r_15⟩ := hp_16
    obtain ⟨g_21, eg_21⟩ : ∃ z : Nat → Int, z = pp_ei B n (pp_pt B n 0) g_13 := ⟨_, rfl⟩
    rw [← eg_21] at p0r_15
    have lg_21_0 : g_21 0 = (tI M_16 2 4).toInt := p0r_15.2.1.1
    have lg_21_1 : g_21 1 = (tI M_16 2 6).toInt := p0r_15.2.1.2.1
    have lg_21_4 : g_21 4 = (tI M_16 1 4).toInt := p0r_15.2.2.1.1
    have lg_21_7 : g_21 7 = (tI M_16 t 4).toInt := p0r_15.2.2.2.1.1
    have lg_21_8 : g_21 8 = (tI M_16 t 5).toInt := p0r_15.2.2.2.1.2.1
    obtain ⟨d_22, ed_22⟩ : ∃ z : Nat → Int, z = qq_ei B n j (pp_pt B n 0) (qq_pt B n j 0) g_13 td := ⟨_, rfl⟩
    rw [← ed_22] at p1r_15
    refine lv_aload_n hx hb dX4_readPart_48 rfl (lv_at hl 1 rfl) ?_
    refine lv_bipush (v := 31) hx hb dX4_readPart_49 (by decide) ?_
    refine ti_callVvE (ci := 4) (av := [.int 31]) C hE hw (x_X4_take l D A cy hJ M_16 iM_16 t ht 31 B n g_21 p0r_15) ⟨ml_X4_85, ym_X4_take, yv_X4_take, yi_X4_take, yc_X4_take⟩ yd_X4_take ob_1 (by decide) rfl rfl hl.1 (Nat.le_of_ble_eq_true rfl) ⟨by decide, by decide⟩ ⟨Nat.zero_le _, Nat.zero_le _⟩ dX4_readPart_51 (fun M_24 H locs hp_24 hw => ?_)
    obtain ⟨iM_24, q_25, q_26, q_27, q_28, p0r_23⟩ := hp_24
    have hlr_23_31 : (31 : Int32).toInt = 31 := by decide
    simp only [hlr_23_31] at p0r_23
    obtain ⟨g_29, eg_29⟩ : ∃ z : Nat → Int, z = pp_tk B n 31 g_21 := ⟨_, rfl⟩
    rw [← eg_29] at p0r_23
    have lg_29_0 : g_29 0 = (tI M_24 2 4).toInt := p0r_23.2.1.1
    have lg_29_1 : g_29 1 = (tI M_24 2 6).toInt := p0r_23.2.1.2.1
    have lg_29_4 : g_29 4 = (tI M_24 1 4).toInt := p0r_23.2.2.1.1
    have lg_29_7 : g_29 7 = (tI M_24 t 4).toInt := p0r_23.2.2.2.1.1
    have lg_29_8 : g_29 8 = (tI M_24 t 5).toInt := p0r_23.2.2.2.1.2.1
    have tq_30 : tq t d_22 M_24 := tq_fr ht p1r_15 q_26 q_28
    refine lv_goto (tgt := 144) hx hb dX4_readPart_54 (by decide) ?_
    exact hQ _ _ _ _ _ hw (⟨iM_24, ((q_25).trans ((q_17).trans q_8)), (f0.trans (f0_12 q_26) (f0.trans q_18 (f0_12 (o2_12 q_9)))), ((q_27).trans ((q_19).trans q_10)), (ot.trans (ot_12 ht q_26 q_28) (ot.trans q_20 (ot_12 ht (o2_12 q_9) q_11.1))), (by rw [pe_1, if_pos (by omega), ← eg_13, ← eg_21, ← eg_29]; exact p0r_23), (by rw [qe_1, if_pos (by omega), ← eg_13, ← ed_22]; exact tq_30)⟩) dX4_readPart_144
set_option maxHeartbeats 4000000 in
set_option maxRecDepth 100000 in
theorem x_X4_readProduct_7 (l : Launch) (D : va_G) (A : Nat → Nat → Nat) (cy : Nat → ClassId) (hJ : ti_inj ti_LT A) (M : ti_M) (hI : cI Tc M) (t : Nat) (ht : t = 3 ∨ t = 4) (hT : tT M 1 1 = some t) (j : Nat) (hj : j < 3) (hL : tT M 1 2 = some (ti_laws t j)) (B : Nat → Int) (n : Nat) (rg : Nat → Int) (hr : rC B n t rg M) (td : Nat → Int) (hq : tq t td M) : ti_KvE l yX4_readProduct cX4_readProduct 4 16 ti_LT D A cy M [.ref (A 1 0), .int 7] (fun M2 => cI Tc M2 ∧ M2.2.2.2 = M.2.2.2 ∧ f0 M2 M ∧ tI M2 2 1 = tI M 2 1 ∧ ot t M2 M ∧ rC B n t (pp_pd B n (pp_pt B n 1) rg) M2 ∧ tq t (qq_pd B n j (pp_pt B n 1) (qq_pt B n j 1) rg td) M2) := by
  refine ti_eVE yp_X4_readProduct hJ ti_LT_nd (Nat.le_of_ble_eq_true rfl) ?_
  intro p e s m args below meth c Q H0 C hE hQ hw ls hl
  have hx := C.1
  have hb := C.2.1
  have hl : lv_has ls 4 [(0, .ref (A 1 0)), (1, .int 7)] := hl
  have l0 : rg 0 = (tI M 2 4).toInt := hr.2.1.1
  have l1 : rg 1 = (tI M 2 6).toInt := hr.2.1.2.1
  have l2 : rg 2 = (tI M 2 5).toInt := hr.2.1.2.2.1
  have l3 : rg 3 = (tI M 2 3).toInt := hr.2.1.2.2.2
  have l4 : rg 4 = (tI M 1 4).toInt := hr.2.2.1.1
  have l5 : rg 5 = (tI M 1 5).toInt := hr.2.2.1.2.1
  have l7 : rg 7 = (tI M t 4).toInt := hr.2.2.2.1.1
  have l8 : rg 8 = (tI M t 5).toInt := hr.2.2.2.1.2.1
  have l9 : rg 9 = (tI M t 3).toInt := hr.2.2.2.1.2.2
  refine lv_aload_n hx hb dX4_readProduct_0 rfl (lv_at hl 0 rfl) ?_
  refine lv_iload_n hx hb dX4_readProduct_1 rfl (lv_at hl 1 rfl) ?_
  refine ti_callVvE (ci := 4) (av := [.int 7]) C hE hw (x_X4_readPart_7 l D A cy hJ M hI t ht (hT) j hj (hL) B n rg hr td hq) ⟨ml_X4_187, ym_X4_readPart, yv_X4_readPart, yi_X4_readPart, yc_X4_readPart⟩ yd_X4_readPart ob_1 (by decide) rfl rfl hl.1 (Nat.le_of_ble_eq_true rfl) ⟨by decide, by decide⟩ ⟨Nat.zero_le _, Nat.zero_le _⟩ dX4_readProduct_2 (fun M_2 H locs hp_2 hw => ?_)
  obtain ⟨iM_2, q_3, q_4, q_5, q_6, p0r_1, p1r_1⟩ := hp_2
  obtain ⟨g_7, eg_7⟩ : ∃ z : Nat → Int, z = pp_pt B n 1 rg := ⟨_, rfl⟩
  rw [← eg_7] at p0r_1
  have lg_7_0 : g_7 0 = (tI M_2 2 4).toInt := p0r_1.2.1.1
  have lg_7_1 : g_7 1 = (tI M_2 2 6).toInt := p0r_1.2.1.2.1
  have lg_7_4 : g_7 4 = (tI M_2 1 4).toInt := p0r_1.2.2.1.1
  have lg_7_7 : g_7 7 = (tI M_2 t 4).toInt := p0r_1.2.2.2.1.1
  have lg_7_8 : g_7 8 = (tI M_2 t 5).toInt := p0r_1.2.2.2.1.2.1
  obtain ⟨d_8, ed_8⟩ : ∃ z : Nat → Int, z = qq_pt B n j 1 rg td := ⟨_, rfl⟩
  rw [← ed_8] at p1r_1
  refine lv_iconst (v := 0) hx hb dX4_readProduct_5 (by decide) ?_
  refine lv_istore_n (lv' := [(2, .int 0), (0, .ref (A 1 0)), (1, .int 7)]) hx hb dX4_readProduct_6 rfl hl (by decide) rfl (fun ls hl => ?_)
  have hl_7_24 : ∀ (n_25 : Nat) (x_9 : Int32) (M_12 : ti_M) (g_19 : Nat → Int) (d_21 : Nat → Int) (H : Heap) (locs : List Loc) (ls : Array Slot), (64 - x_9.toInt : Int).toNat < n_25 → (0 ≤ x_9.toInt) → (x_9.toInt ≤ 64) → (cI Tc M_12) → (M_12.2.2.2 = M.2.2.2) → (f0 M_12 M) → (tI M_12 2 1 = tI M 2 1) → (ot t M_12 M) → (tT M_12 1 1 = (some t)) → (tT M_12 1 2 = (some (ti_laws t j))) → (rC B n t g_19 M_12) → (tq t d_21 M_12) → (pp_lp pp_qT (fun s => (pp_pt B n 1) (pp_kn B n s)) 64 g_7 = pp_lp pp_qT (fun s => (pp_pt B n 1) (pp_kn B n s)) (64 - (x_9.toInt).toNat) g_19) → (qq_lp pp_qT (fun s => (pp_pt B n 1) (pp_kn B n s)) (fun s td => qa j (-(s 0)) ((qq_pt B n j 1) (pp_kn B n s) td)) 64 g_7 d_8 = qq_lp pp_qT (fun s => (pp_pt B n 1) (pp_kn B n s)) (fun s td => qa j (-(s 0)) ((qq_pt B n j 1) (pp_kn B n s) td)) (64 - (x_9.toInt).toNat) g_19 d_21) → ti_H ti_LT D A cy H0 M_12 H locs → lv_has ls 4 [(2, .int x_9), (0, .ref (A 1 0)), (1, .int 7)] → W p l e (ti_rm 16) s m args below meth c H locs 0 0 Q (F0 m 7 ls []) := by
    intro n_25
    induction n_25 with
    | zero => intro x_9 M_12 g_19 d_21 H locs ls hf_25; exact absurd hf_25 (Nat.not_lt_zero _)
    | succ n_25 ih_25 =>
      intro x_9 M_12 g_19 d_21 H locs ls hf_25 b_10 b_11 iM_12 f_13 f_14 f_15 f_16 f_17 f_18 hs_20 tq_22 j_23 j_24 hw hl
      have lg_19_0 : g_19 0 = (tI M_12 2 4).toInt := hs_20.2.1.1
      have lg_19_1 : g_19 1 = (tI M_12 2 6).toInt := hs_20.2.1.2.1
      have lg_19_4 : g_19 4 = (tI M_12 1 4).toInt := hs_20.2.2.1.1
      have lg_19_7 : g_19 7 = (tI M_12 t 4).toInt := hs_20.2.2.2.1.1
      have lg_19_8 : g_19 8 = (tI M_12 t 5).toInt := hs_20.2.2.2.1.2.1
      refine lv_iload_n hx hb dX4_readProduct_7 rfl (lv_at hl 0 rfl) ?_
      refine lv_bipush (v := 64) hx hb dX4_readProduct_8 (by decide) ?_
      refine sb_icmp_ge (tgt := 69) hx hb rfl (by decide : (64 : Int32).toInt = 64) dX4_readProduct_10 (by decide) (fun c_10_25 => ?_) (fun c_10_25 => ?_)
      · exact hQ _ _ _ _ _ hw (⟨iM_12, (f_13), f_14, (f_15), f_16, (by unfold pp_pd; rw [← eg_7, j_23, lp_end (P := pp_qT) (f := 64 - x_9.toInt.toNat) (s := g_19) (Or.inl (by omega))]; exact hs_20), (by unfold qq_pd; rw [← eg_7, ← ed_8, j_24, qlp_end (P := pp_qT) (f := 64 - x_9.toInt.toNat) (s := g_19) (Or.inl (by omega))]; exact tq_22)⟩) dX4_readProduct_69
      · refine lv_aload_n hx hb dX4_readProduct_13 rfl (lv_at hl 1 rfl) ?_
        refine ti_get (ci := 4) (k := 0) (N := 6) (T := TX4) (v := .ref (A 2 0)) C hw iw_4 rfl ob_1 (by decide) (by decide) fl_X4_12 rfl rfl dX4_readProduct_14 ?_
        refine ti_get (ci := 7) (k := 4) (N := 7) (T := TX7) C hw iw_7 rfl ob_2 (by decide) (by decide) fl_X4_41 rfl rfl dX4_readProduct_17 ?_
        refine lv_topi (fun x_27 ex_27 => ?_)
        have bx_27 : 0 ≤ x_27.toInt ∧ x_27.toInt ≤ 41 := cI_rd iM_12 ob_2.1 ex_27
        have ux_27 : (tI M_12 2 4).toInt = x_27.toInt := by rw [ex_27]
        refine lv_bipush (v := 40) hx hb dX4_readProduct_20 (by decide) ?_
        refine sb_icmp_eq (tgt := 37) hx hb rfl (by decide : (40 : Int32).toInt = 40) dX4_readProduct_22 (by decide) (fun c_22_27 => ?_) (fun c_22_27 => ?_)
        · refine lv_aload_n hx hb dX4_readProduct_37 rfl (lv_at hl 1 rfl) ?_
          refine ti_get (ci := 4) (k := 0) (N := 6) (T := TX4) (v := .ref (A 2 0)) C hw iw_4 rfl ob_1 (by decide) (by decide) fl_X4_12 rfl rfl dX4_readProduct_38 ?_
          refine ti_get (ci := 7) (k := 4) (N := 7) (T := TX7) C hw iw_7 rfl ob_2 (by decide) (by decide) fl_X4_41 rfl rfl dX4_readProduct_41 ?_
          refine ti_top (y := x_27) (ex_27.symm) ?_
          have u_31 : (tI M_12 2 4).toInt = (x_27 : Int32).toInt := by rw [(ex_27.symm)]
          refine lv_istore_n (lv' := [(3, .int x_27), (2, .int x_9), (0, .ref (A 1 0)), (1, .int 7)]) hx hb dX4_readProduct_44 rfl hl (by decide) rfl (fun ls hl => ?_)
          refine lv_aload_n hx hb dX4_readProduct_45 rfl (lv_at hl 2 rfl) ?_
          refine ti_callVvE (ci := 4) (av := []) C hE hw (x_X4_knot l D A cy hJ M_12 iM_12 t ht (f_17) B n g_19 hs_20 d_21 tq_22) ⟨ml_X4_167, ym_X4_knot, yv_X4_knot, yi_X4_knot, yc_X4_knot⟩ yd_X4_knot ob_1 (by decide) rfl rfl hl.1 (Nat.le_of_ble_eq_true rfl) ⟨by decide, by decide⟩ ⟨Nat.zero_le _, Nat.zero_le _⟩ dX4_readProduct_46 (fun M_33 H locs hp_33 hw => ?_)
          obtain ⟨iM_33, q_34, q_35, q_36, q_37, q_38, p0r_32, p1r_32⟩ := hp_33
          obtain ⟨g_39, eg_39⟩ : ∃ z : Nat → Int, z = pp_kn B n g_19 := ⟨_, rfl⟩
          rw [← eg_39] at p0r_32
          have lg_39_0 : g_39 0 = (tI M_33 2 4).toInt := p0r_32.2.1.1
          have lg_39_1 : g_39 1 = (tI M_33 2 6).toInt := p0r_32.2.1.2.1
          have lg_39_4 : g_39 4 = (tI M_33 1 4).toInt := p0r_32.2.2.1.1
          have lg_39_7 : g_39 7 = (tI M_33 t 4).toInt := p0r_32.2.2.2.1.1
          have lg_39_8 : g_39 8 = (tI M_33 t 5).toInt := p0r_32.2.2.2.1.2.1
          refine lv_aload_n hx hb dX4_readProduct_49 rfl (lv_at hl 2 rfl) ?_
          refine lv_iload_n hx hb dX4_readProduct_50 rfl (lv_at hl 3 rfl) ?_
          refine ti_callVvE (ci := 4) (av := [.int 7]) C hE hw (x_X4_readPart_7 l D A cy hJ M_33 iM_33 t ht ((tT_fr q_34).trans f_17) j hj ((tT_fr q_34).trans f_18) B n g_39 p0r_32 d_21 p1r_32) ⟨ml_X4_187, ym_X4_readPart, yv_X4_readPart, yi_X4_readPart, yc_X4_readPart⟩ yd_X4_readPart ob_1 (by decide) rfl rfl hl.1 (Nat.le_of_ble_eq_true rfl) ⟨by decide, by decide⟩ ⟨Nat.zero_le _, Nat.zero_le _⟩ dX4_readProduct_51 (fun M_41 H locs hp_41 hw => ?_)
          obtain ⟨iM_41, q_42, q_43, q_44, q_45, p0r_40, p1r_40⟩ := hp_41
          obtain ⟨g_46, eg_46⟩ : ∃ z : Nat → Int, z = pp_pt B n 1 g_39 := ⟨_, rfl⟩
          rw [← eg_46] at p0r_40
          have lg_46_0 : g_46 0 = (tI M_41 2 4).toInt := p0r_40.2.1.1
          have lg_46_1 : g_46 1 = (tI M_41 2 6).toInt := p0r_40.2.1.2.1
          have lg_46_4 : g_46 4 = (tI M_41 1 4).toInt := p0r_40.2.2.1.1
          have lg_46_7 : g_46 7 = (tI M_41 t 4).toInt := p0r_40.2.2.2.1.1
          have lg_46_8 : g_46 8 = (tI M_41 t 5).toInt := p0r_40.2.2.2.1.2.1
          obtain ⟨d_47, ed_47⟩ : ∃ z : Nat → Int, z = qq_pt B n j 1 g_39 d_21 := ⟨_, rfl⟩
          rw [← ed_47] at p1r_40
          refine lv_aload_n hx hb dX4_readProduct_54 rfl (lv_at hl 2 rfl) ?_
          refine ti_get (ci := 4) (k := 2) (N := 6) (T := TX4) (v := .ref (A (ti_laws t j) 0)) C hw iw_4 rfl ob_1 (by decide) (by decide) fl_X4_154 rfl (ti_Tv ((tT_fr q_42).trans ((tT_fr q_34).trans f_18))) dX4_readProduct_55 ?_
          refine lv_iload_n hx hb dX4_readProduct_58 rfl (lv_at hl 0 rfl) ?_
          refine lv_ineg hx hb dX4_readProduct_59 ?_
          refine lv_topi (fun x_48 ex_48 => ?_)
          have tx_48 : x_48.toInt = -x_27.toInt := i_neg ex_48 rfl (by omega)
          refine ti_callVv (ci := 1) (av := [.int x_48]) C hw (x_X1_add l D A cy hJ M_41 iM_41 t ht j hj x_48 (by first | omega | exact Or.inl (by decide) | exact Or.inr (by decide)) B n g_46 p0r_40 d_47 p1r_40) ⟨ml_X4_170, ym_X1_add, yv_X1_add, yi_X1_add, yc_X1_add⟩ yd_X1_add (ob_l ht hj) (by decide) rfl rfl hl.1 (Nat.le_of_ble_eq_true rfl) ⟨by decide, by decide⟩ ⟨Nat.zero_le _, Nat.zero_le _⟩ dX4_readProduct_60 (fun M_50 H locs hp_50 hw => ?_)
          obtain ⟨iM_50, q_51, q_52, q_53, p0r_49, p1r_49⟩ := hp_50
          have lM_50_0 : g_46 0 = (tI M_50 2 4).toInt := p0r_49.2.1.1
          have lM_50_1 : g_46 1 = (tI M_50 2 6).toInt := p0r_49.2.1.2.1
          have lM_50_4 : g_46 4 = (tI M_50 1 4).toInt := p0r_49.2.2.1.1
          have lM_50_7 : g_46 7 = (tI M_50 t 4).toInt := p0r_49.2.2.2.1.1
          have lM_50_8 : g_46 8 = (tI M_50 t 5).toInt := p0r_49.2.2.2.1.2.1
          obtain ⟨d_54, ed_54⟩ : ∃ z : Nat → Int, z = qa j x_48.toInt d_47 := ⟨_, rfl⟩
          rw [← ed_54] at p1r_49
          obtain ⟨x_55, ex_55⟩ : ∃ z : Int32, z = x_9 + 1 := ⟨_, rfl⟩
          have tx_55 : x_55.toInt = x_9.toInt + 1 := i_add ex_55 rfl (by decide) (by omega) (by omega)
          refine lv_iinc (v := x_55) (lv' := [(2, .int x_55), (3, .int x_27), (0, .ref (A 1 0)), (1, .int 7)]) hx hb dX4_readProduct_63 hl (k := 1) rfl (by rw [ex_55]; rfl) (by decide) rfl (fun ls hl => ?_)
          refine lv_goto (tgt := 7) hx hb dX4_readProduct_66 (by decide) ?_
          exact ih_25 x_55 M_50 g_46 d_54 _ _ _ (by omega) (by first | omega | decide) (by first | omega | decide) iM_50 ((q_51).trans ((q_42).trans ((q_34).trans f_13))) (f0.trans (f0_x q_52) (f0.trans q_43 (f0.trans q_35 f_14))) (((q_52 1).2.1).trans ((q_44).trans ((q_36).trans f_15))) (ot.trans q_53 (ot.trans q_45 (ot.trans q_37 f_16))) ((tT_fr q_51).trans ((tT_fr q_42).trans ((tT_fr q_34).trans f_17))) ((tT_fr q_51).trans ((tT_fr q_42).trans ((tT_fr q_34).trans f_18))) p0r_49 p1r_49 (j_23.trans (lp_step (decide_eq_true (by omega)) (by rw [eg_46, eg_39]) (by omega))) (j_24.trans (qlp_step (decide_eq_true (by omega)) (by rw [eg_46, eg_39]) (by rw [ed_54, show x_48.toInt = -(g_19 0) by omega, ed_47, eg_39]) (by omega))) hw (lv_sub hl [0, 2, 3] rfl)
        · refine lv_aload_n hx hb dX4_readProduct_25 rfl (lv_at hl 1 rfl) ?_
          refine ti_get (ci := 4) (k := 0) (N := 6) (T := TX4) (v := .ref (A 2 0)) C hw iw_4 rfl ob_1 (by decide) (by decide) fl_X4_12 rfl rfl dX4_readProduct_26 ?_
          refine ti_get (ci := 7) (k := 4) (N := 7) (T := TX7) C hw iw_7 rfl ob_2 (by decide) (by decide) fl_X4_41 rfl rfl dX4_readProduct_29 ?_
          refine ti_top (y := x_27) (ex_27.symm) ?_
          have u_29 : (tI M_12 2 4).toInt = (x_27 : Int32).toInt := by rw [(ex_27.symm)]
          refine lv_bipush (v := 41) hx hb dX4_readProduct_32 (by decide) ?_
          refine sb_icmp_ne (tgt := 69) hx hb rfl (by decide : (41 : Int32).toInt = 41) dX4_readProduct_34 (by decide) (fun c_34_29 => ?_) (fun c_34_29 => ?_)
          · exact hQ _ _ _ _ _ hw (⟨iM_12, (f_13), f_14, (f_15), f_16, (by unfold pp_pd; rw [← eg_7, j_23, lp_end (P := pp_qT) (f := 64 - x_9.toInt.toNat) (s := g_19) (Or.inr (decide_eq_false (by omega)))]; exact hs_20), (by unfold qq_pd; rw [← eg_7, ← ed_8, j_24, qlp_end (P := pp_qT) (f := 64 - x_9.toInt.toNat) (s := g_19) (Or.inr (decide_eq_false (by omega)))]; exact tq_22)⟩) dX4_readProduct_69
          · refine lv_aload_n hx hb dX4_readProduct_37 rfl (lv_at hl 1 rfl) ?_
            refine ti_get (ci := 4) (k := 0) (N := 6) (T := TX4) (v := .ref (A 2 0)) C hw iw_4 rfl ob_1 (by decide) (by decide) fl_X4_12 rfl rfl dX4_readProduct_38 ?_
            refine ti_get (ci := 7) (k := 4) (N := 7) (T := TX7) C hw iw_7 rfl ob_2 (by decide) (by decide) fl_X4_41 rfl rfl dX4_readProduct_41 ?_
            refine ti_top (y := x_27) (ex_27.symm) ?_
            have u_56 : (tI M_12 2 4).toInt = (x_27 : Int32).toInt := by rw [(ex_27.symm)]
            refine lv_istore_n (lv' := [(3, .int x_27), (2, .int x_9), (0, .ref (A 1 0)), (1, .int 7)]) hx hb dX4_readProduct_44 rfl hl (by decide) rfl (fun ls hl => ?_)
            refine lv_aload_n hx hb dX4_readProduct_45 rfl (lv_at hl 2 rfl) ?_
            refine ti_callVvE (ci := 4) (av := []) C hE hw (x_X4_knot l D A cy hJ M_12 iM_12 t ht (f_17) B n g_19 hs_20 d_21 tq_22) ⟨ml_X4_167, ym_X4_knot, yv_X4_knot, yi_X4_knot, yc_X4_knot⟩ yd_X4_knot ob_1 (by decide) rfl rfl hl.1 (Nat.le_of_ble_eq_true rfl) ⟨by decide, by decide⟩ ⟨Nat.zero_le _, Nat.zero_le _⟩ dX4_readProduct_46 (fun M_58 H locs hp_58 hw => ?_)
            obtain ⟨iM_58, q_59, q_60, q_61, q_62, q_63, p0r_57, p1r_57⟩ := hp_58
            obtain ⟨g_64, eg_64⟩ : ∃ z : Nat → Int, z = pp_kn B n g_19 := ⟨_, rfl⟩
            rw [← eg_64] at p0r_57
            have lg_64_0 : g_64 0 = (tI M_58 2 4).toInt := p0r_57.2.1.1
            have lg_64_1 : g_64 1 = (tI M_58 2 6).toInt := p0r_57.2.1.2.1
            have lg_64_4 : g_64 4 = (tI M_58 1 4).toInt := p0r_57.2.2.1.1
            have lg_64_7 : g_64 7 = (tI M_58 t 4).toInt := p0r_57.2.2.2.1.1
            have lg_64_8 : g_64 8 = (tI M_58 t 5).toInt := p0r_57.2.2.2.1.2.1
            refine lv_aload_n hx hb dX4_readProduct_49 rfl (lv_at hl 2 rfl) ?_
            refine lv_iload_n hx hb dX4_readProduct_50 rfl (lv_at hl 3 rfl) ?_
            refine ti_callVvE (ci := 4) (av := [.int 7]) C hE hw (x_X4_readPart_7 l D A cy hJ M_58 iM_58 t ht ((tT_fr q_59).trans f_17) j hj ((tT_fr q_59).trans f_18) B n g_64 p0r_57 d_21 p1r_57) ⟨ml_X4_187, ym_X4_readPart, yv_X4_readPart, yi_X4_readPart, yc_X4_readPart⟩ yd_X4_readPart ob_1 (by decide) rfl rfl hl.1 (Nat.le_of_ble_eq_true rfl) ⟨by decide, by decide⟩ ⟨Nat.zero_le _, Nat.zero_le _⟩ dX4_readProduct_51 (fun M_66 H locs hp_66 hw => ?_)
            obtain ⟨iM_66, q_67, q_68, q_69, q_70, p0r_65, p1r_65⟩ := hp_66
            obtain ⟨g_71, eg_71⟩ : ∃ z : Nat → Int, z = pp_pt B n 1 g_64 := ⟨_, rfl⟩
            rw [← eg_71] at p0r_65
            have lg_71_0 : g_71 0 = (tI M_66 2 4).toInt := p0r_65.2.1.1
            have lg_71_1 : g_71 1 = (tI M_66 2 6).toInt := p0r_65.2.1.2.1
            have lg_71_4 : g_71 4 = (tI M_66 1 4).toInt := p0r_65.2.2.1.1
            have lg_71_7 : g_71 7 = (tI M_66 t 4).toInt := p0r_65.2.2.2.1.1
            have lg_71_8 : g_71 8 = (tI M_66 t 5).toInt := p0r_65.2.2.2.1.2.1
            obtain ⟨d_72, ed_72⟩ : ∃ z : Nat → Int, z = qq_pt B n j 1 g_64 d_21 := ⟨_, rfl⟩
            rw [← ed_72] at p1r_65
            refine lv_aload_n hx hb dX4_readProduct_54 rfl (lv_at hl 2 rfl) ?_
            refine ti_get (ci := 4) (k := 2) (N := 6) (T := TX4) (v := .ref (A (ti_laws t j) 0)) C hw iw_4 rfl ob_1 (by decide) (by decide) fl_X4_154 rfl (ti_Tv ((tT_fr q_67).trans ((tT_fr q_59).trans f_18))) dX4_readProduct_55 ?_
            refine lv_iload_n hx hb dX4_readProduct_58 rfl (lv_at hl 0 rfl) ?_
            refine lv_ineg hx hb dX4_readProduct_59 ?_
            refine lv_topi (fun x_73 ex_73 => ?_)
            have tx_73 : x_73.toInt = -x_27.toInt := i_neg ex_73 rfl (by omega)
            refine ti_callVv (ci := 1) (av := [.int x_73]) C hw (x_X1_add l D A cy hJ M_66 iM_66 t ht j hj x_73 (by first | omega | exact Or.inl (by decide) | exact Or.inr (by decide)) B n g_71 p0r_65 d_72 p1r_65) ⟨ml_X4_170, ym_X1_add, yv_X1_add, yi_X1_add, yc_X1_add⟩ yd_X1_add (ob_l ht hj) (by decide) rfl rfl hl.1 (Nat.le_of_ble_eq_true rfl) ⟨by decide, by decide⟩ ⟨Nat.zero_le _, Nat.zero_le _⟩ dX4_readProduct_60 (fun M_75 H locs hp_75 hw => ?_)
            obtain ⟨iM_75, q_76, q_77, q_78, p0r_74, p1r_74⟩ := hp_75
            have lM_75_0 : g_71 0 = (tI M_75 2 4).toInt := p0r_74.2.1.1
            have lM_75_1 : g_71 1 = (tI M_75 2 6).toInt := p0r_74.2.1.2.1
            have lM_75_4 : g_71 4 = (tI M_75 1 4).toInt := p0r_74.2.2.1.1
            have lM_75_7 : g_71 7 = (tI M_75 t 4).toInt := p0r_74.2.2.2.1.1
            have lM_75_8 : g_71 8 = (tI M_75 t 5).toInt := p0r_74.2.2.2.1.2.1
            obtain ⟨d_79, ed_79⟩ : ∃ z : Nat → Int, z = qa j x_73.toInt d_72 := ⟨_, rfl⟩
            rw [← ed_79] at p1r_74
            obtain ⟨x_80, ex_80⟩ : ∃ z : Int32, z = x_9 + 1 := ⟨_, rfl⟩
            have tx_80 : x_80.toInt = x_9.toInt + 1 := i_add ex_80 rfl (by decide) (by omega) (by omega)
            refine lv_iinc (v := x_80) (lv' := [(2, .int x_80), (3, .int x_27), (0, .ref (A 1 0)), (1, .int 7)]) hx hb dX4_readProduct_63 hl (k := 1) rfl (by rw [ex_80]; rfl) (by decide) rfl (fun ls hl => ?_)
            refine lv_goto (tgt := 7) hx hb dX4_readProduct_66 (by decide) ?_
            exact ih_25 x_80 M_75 g_71 d_79 _ _ _ (by omega) (by first | omega | decide) (by first | omega | decide) iM_75 ((q_76).trans ((q_67).trans ((q_59).trans f_13))) (f0.trans (f0_x q_77) (f0.trans q_68 (f0.trans q_60 f_14))) (((q_77 1).2.1).trans ((q_69).trans ((q_61).trans f_15))) (ot.trans q_78 (ot.trans q_70 (ot.trans q_62 f_16))) ((tT_fr q_76).trans ((tT_fr q_67).trans ((tT_fr q_59).trans f_17))) ((tT_fr q_76).trans ((tT_fr q_67).trans ((tT_fr q_59).trans f_18))) p0r_74 p1r_74 (j_23.trans (lp_step (decide_eq_true (by omega)) (by rw [eg_71, eg_64]) (by omega))) (j_24.trans (qlp_step (decide_eq_true (by omega)) (by rw [eg_71, eg_64]) (by rw [ed_79, show x_73.toInt = -(g_19 0) by omega, ed_72, eg_64]) (by omega))) hw (lv_sub hl [0, 2, 3] rfl)
  exact hl_7_24 ((64 - 0 : Int).toNat + 1) 0 M_2 g_7 d_8 _ _ _ (Nat.lt_succ_self _) (by have lt0 : (0 : Int32).toInt = 0 := (by decide); first | omega | decide) (by have lt0 : (0 : Int32).toInt = 0 := (by decide); first | omega | decide) iM_2 (q_3) q_4 (q_5) q_6 ((tT_fr q_3).trans hT) ((tT_fr q_3).trans hL) p0r_1 p1r_1 rfl rfl hw (lv_sub hl [0, 1, 2] rfl)
set_option maxHeartbeats 4000000 in
set_option maxRecDepth 100000 in
theorem x_X4_readSum_7 (l : Launch) (D : va_G) (A : Nat → Nat → Nat) (cy : Nat → ClassId) (hJ : ti_inj ti_LT A) (M : ti_M) (hI : cI Tc M) (t : Nat) (ht : t = 3 ∨ t = 4) (hT : tT M 1 1 = some t) (j : Nat) (hj : j < 3) (hL : tT M 1 2 = some (ti_laws t j)) (B : Nat → Int) (n : Nat) (rg : Nat → Int) (hr : rC B n t rg M) (td : Nat → Int) (hq : tq t td M) : ti_KvE l yX4_readSum cX4_readSum 4 17 ti_LT D A cy M [.ref (A 1 0), .int 7] (fun M2 => cI Tc M2 ∧ M2.2.2.2 = M.2.2.2 ∧ f0 M2 M ∧ tI M2 2 1 = tI M 2 1 ∧ ot t M2 M ∧ rC B n t (pp_sm B n (pp_pt B n 1) rg) M2 ∧ tq t (qq_sm B n j (pp_pt B n 1) (qq_pt B n j 1) rg td) M2) := by
  refine ti_eVE yp_X4_readSum hJ ti_LT_nd (Nat.le_of_ble_eq_true rfl) ?_
  intro p e s m args below meth c Q H0 C hE hQ hw ls hl
  have hx := C.1
  have hb := C.2.1
  have hl : lv_has ls 4 [(0, .ref (A 1 0)), (1, .int 7)] := hl
  have l0 : rg 0 = (tI M 2 4).toInt := hr.2.1.1
  have l1 : rg 1 = (tI M 2 6).toInt := hr.2.1.2.1
  have l2 : rg 2 = (tI M 2 5).toInt := hr.2.1.2.2.1
  have l3 : rg 3 = (tI M 2 3).toInt := hr.2.1.2.2.2
  have l4 : rg 4 = (tI M 1 4).toInt := hr.2.2.1.1
  have l5 : rg 5 = (tI M 1 5).toInt := hr.2.2.1.2.1
  have l7 : rg 7 = (tI M t 4).toInt := hr.2.2.2.1.1
  have l8 : rg 8 = (tI M t 5).toInt := hr.2.2.2.1.2.1
  have l9 : rg 9 = (tI M t 3).toInt := hr.2.2.2.1.2.2
  refine lv_aload_n hx hb dX4_readSum_0 rfl (lv_at hl 0 rfl) ?_
  refine lv_iload_n hx hb dX4_readSum_1 rfl (lv_at hl 1 rfl) ?_
  refine ti_callVvE (ci := 4) (av := [.int 7]) C hE hw (x_X4_readProduct_7 l D A cy hJ M hI t ht (hT) j hj (hL) B n rg hr td hq) ⟨ml_X4_184, ym_X4_readProduct, yv_X4_readProduct, yi_X4_readProduct, yc_X4_readProduct⟩ yd_X4_readProduct ob_1 (by decide) rfl rfl hl.1 (Nat.le_of_ble_eq_true rfl) ⟨by decide, by decide⟩ ⟨Nat.zero_le _, Nat.zero_le _⟩ dX4_readSum_2 (fun M_2 H locs hp_2 hw => ?_)
  obtain ⟨iM_2, q_3, q_4, q_5, q_6, p0r_1, p1r_1⟩ := hp_2
  obtain ⟨g_7, eg_7⟩ : ∃ z : Nat → Int, z = pp_pd B n (pp_pt B n 1) rg := ⟨_, rfl⟩
  rw [← eg_7] at p0r_1
  have lg_7_0 : g_7 0 = (tI M_2 2 4).toInt := p0r_1.2.1.1
  have lg_7_1 : g_7 1 = (tI M_2 2 6).toInt := p0r_1.2.1.2.1
  have lg_7_4 : g_7 4 = (tI M_2 1 4).toInt := p0r_1.2.2.1.1
  have lg_7_7 : g_7 7 = (tI M_2 t 4).toInt := p0r_1.2.2.2.1.1
  have lg_7_8 : g_7 8 = (tI M_2 t 5).toInt := p0r_1.2.2.2.1.2.1
  obtain ⟨d_8, ed_8⟩ : ∃ z : Nat → Int, z = qq_pd B n j (pp_pt B n 1) (qq_pt B n j 1) rg td := ⟨_, rfl⟩
  rw [← ed_8] at p1r_1
  refine lv_iconst (v := 0) hx hb dX4_readSum_5 (by decide) ?_
  refine lv_istore_n (lv' := [(2, .int 0), (0, .ref (A 1 0)), (1, .int 7)]) hx hb dX4_readSum_6 rfl hl (by decide) rfl (fun ls hl => ?_)
  have hl_7_24 : ∀ (n_25 : Nat) (x_9 : Int32) (M_12 : ti_M) (g_19 : Nat → Int) (d_21 : Nat → Int) (H : Heap) (locs : List Loc) (ls : Array Slot), (64 - x_9.toInt : Int).toNat < n_25 → (0 ≤ x_9.toInt) → (x_9.toInt ≤ 64) → (cI Tc M_12) → (M_12.2.2.2 = M.2.2.2) → (f0 M_12 M) → (tI M_12 2 1 = tI M 2 1) → (ot t M_12 M) → (tT M_12 1 1 = (some t)) → (tT M_12 1 2 = (some (ti_laws t j))) → (rC B n t g_19 M_12) → (tq t d_21 M_12) → (pp_lp pp_qP (fun s => pp_pd B n (pp_pt B n 1) (pp_kn B n s)) 64 g_7 = pp_lp pp_qP (fun s => pp_pd B n (pp_pt B n 1) (pp_kn B n s)) (64 - (x_9.toInt).toNat) g_19) → (qq_lp pp_qP (fun s => pp_pd B n (pp_pt B n 1) (pp_kn B n s)) (fun s td => qa j (-(s 0)) (qq_pd B n j (pp_pt B n 1) (qq_pt B n j 1) (pp_kn B n s) td)) 64 g_7 d_8 = qq_lp pp_qP (fun s => pp_pd B n (pp_pt B n 1) (pp_kn B n s)) (fun s td => qa j (-(s 0)) (qq_pd B n j (pp_pt B n 1) (qq_pt B n j 1) (pp_kn B n s) td)) (64 - (x_9.toInt).toNat) g_19 d_21) → ti_H ti_LT D A cy H0 M_12 H locs → lv_has ls 4 [(2, .int x_9), (0, .ref (A 1 0)), (1, .int 7)] → W p l e (ti_rm 17) s m args below meth c H locs 0 0 Q (F0 m 7 ls []) := by
    intro n_25
    induction n_25 with
    | zero => intro x_9 M_12 g_19 d_21 H locs ls hf_25; exact absurd hf_25 (Nat.not_lt_zero _)
    | succ n_25 ih_25 =>
      intro x_9 M_12 g_19 d_21 H locs ls hf_25 b_10 b_11 iM_12 f_13 f_14 f_15 f_16 f_17 f_18 hs_20 tq_22 j_23 j_24 hw hl
      have lg_19_0 : g_19 0 = (tI M_12 2 4).toInt := hs_20.2.1.1
      have lg_19_1 : g_19 1 = (tI M_12 2 6).toInt := hs_20.2.1.2.1
      have lg_19_4 : g_19 4 = (tI M_12 1 4).toInt := hs_20.2.2.1.1
      have lg_19_7 : g_19 7 = (tI M_12 t 4).toInt := hs_20.2.2.2.1.1
      have lg_19_8 : g_19 8 = (tI M_12 t 5).toInt := hs_20.2.2.2.1.2.1
      refine lv_iload_n hx hb dX4_readSum_7 rfl (lv_at hl 0 rfl) ?_
      refine lv_bipush (v := 64) hx hb dX4_readSum_8 (by decide) ?_
      refine sb_icmp_ge (tgt := 69) hx hb rfl (by decide : (64 : Int32).toInt = 64) dX4_readSum_10 (by decide) (fun c_10_25 => ?_) (fun c_10_25 => ?_)
      · exact hQ _ _ _ _ _ hw (⟨iM_12, (f_13), f_14, (f_15), f_16, (by unfold pp_sm; rw [← eg_7, j_23, lp_end (P := pp_qP) (f := 64 - x_9.toInt.toNat) (s := g_19) (Or.inl (by omega))]; exact hs_20), (by unfold qq_sm; rw [← eg_7, ← ed_8, j_24, qlp_end (P := pp_qP) (f := 64 - x_9.toInt.toNat) (s := g_19) (Or.inl (by omega))]; exact tq_22)⟩) dX4_readSum_69
      · refine lv_aload_n hx hb dX4_readSum_13 rfl (lv_at hl 1 rfl) ?_
        refine ti_get (ci := 4) (k := 0) (N := 6) (T := TX4) (v := .ref (A 2 0)) C hw iw_4 rfl ob_1 (by decide) (by decide) fl_X4_12 rfl rfl dX4_readSum_14 ?_
        refine ti_get (ci := 7) (k := 4) (N := 7) (T := TX7) C hw iw_7 rfl ob_2 (by decide) (by decide) fl_X4_41 rfl rfl dX4_readSum_17 ?_
        refine lv_topi (fun x_27 ex_27 => ?_)
        have bx_27 : 0 ≤ x_27.toInt ∧ x_27.toInt ≤ 41 := cI_rd iM_12 ob_2.1 ex_27
        have ux_27 : (tI M_12 2 4).toInt = x_27.toInt := by rw [ex_27]
        refine lv_bipush (v := 38) hx hb dX4_readSum_20 (by decide) ?_
        refine sb_icmp_eq (tgt := 37) hx hb rfl (by decide : (38 : Int32).toInt = 38) dX4_readSum_22 (by decide) (fun c_22_27 => ?_) (fun c_22_27 => ?_)
        · refine lv_aload_n hx hb dX4_readSum_37 rfl (lv_at hl 1 rfl) ?_
          refine ti_get (ci := 4) (k := 0) (N := 6) (T := TX4) (v := .ref (A 2 0)) C hw iw_4 rfl ob_1 (by decide) (by decide) fl_X4_12 rfl rfl dX4_readSum_38 ?_
          refine ti_get (ci := 7) (k := 4) (N := 7) (T := TX7) C hw iw_7 rfl ob_2 (by decide) (by decide) fl_X4_41 rfl rfl dX4_readSum_41 ?_
          refine ti_top (y := x_27) (ex_27.symm) ?_
          have u_31 : (tI M_12 2 4).toInt = (x_27 : Int32).toInt := by rw [(ex_27.symm)]
          refine lv_istore_n (lv' := [(3, .int x_27), (2, .int x_9), (0, .ref (A 1 0)), (1, .int 7)]) hx hb dX4_readSum_44 rfl hl (by decide) rfl (fun ls hl => ?_)
          refine lv_aload_n hx hb dX4_readSum_45 rfl (lv_at hl 2 rfl) ?_
          refine ti_callVvE (ci := 4) (av := []) C hE hw (x_X4_knot l D A cy hJ M_12 iM_12 t ht (f_17) B n g_19 hs_20 d_21 tq_22) ⟨ml_X4_167, ym_X4_knot, yv_X4_knot, yi_X4_knot, yc_X4_knot⟩ yd_X4_knot ob_1 (by decide) rfl rfl hl.1 (Nat.le_of_ble_eq_true rfl) ⟨by decide, by decide⟩ ⟨Nat.zero_le _, Nat.zero_le _⟩ dX4_readSum_46 (fun M_33 H locs hp_33 hw => ?_)
          obtain ⟨iM_33, q_34, q_35, q_36, q_37, q_38, p0r_32, p1r_32⟩ := hp_33
          obtain ⟨g_39, eg_39⟩ : ∃ z : Nat → Int, z = pp_kn B n g_19 := ⟨_, rfl⟩
          rw [← eg_39] at p0r_32
          have lg_39_0 : g_39 0 = (tI M_33 2 4).toInt := p0r_32.2.1.1
          have lg_39_1 : g_39 1 = (tI M_33 2 6).toInt := p0r_32.2.1.2.1
          have lg_39_4 : g_39 4 = (tI M_33 1 4).toInt := p0r_32.2.2.1.1
          have lg_39_7 : g_39 7 = (tI M_33 t 4).toInt := p0r_32.2.2.2.1.1
          have lg_39_8 : g_39 8 = (tI M_33 t 5).toInt := p0r_32.2.2.2.1.2.1
          refine lv_aload_n hx hb dX4_readSum_49 rfl (lv_at hl 2 rfl) ?_
          refine lv_iload_n hx hb dX4_readSum_50 rfl (lv_at hl 3 rfl) ?_
          refine ti_callVvE (ci := 4) (av := [.int 7]) C hE hw (x_X4_readProduct_7 l D A cy hJ M_33 iM_33 t ht ((tT_fr q_34).trans f_17) j hj ((tT_fr q_34).trans f_18) B n g_39 p0r_32 d_21 p1r_32) ⟨ml_X4_184, ym_X4_readProduct, yv_X4_readProduct, yi_X4_readProduct, yc_X4_readProduct⟩ yd_X4_readProduct ob_1 (by decide) rfl rfl hl.1 (Nat.le_of_ble_eq_true rfl) ⟨by decide, by decide⟩ ⟨Nat.zero_le _, Nat.zero_le _⟩ dX4_readSum_51 (fun M_41 H locs hp_41 hw => ?_)
          obtain ⟨iM_41, q_42, q_43, q_44, q_45, p0r_40, p1r_40⟩ := hp_41
          obtain ⟨g_46, eg_46⟩ : ∃ z : Nat → Int, z = pp_pd B n (pp_pt B n 1) g_39 := ⟨_, rfl⟩
          rw [← eg_46] at p0r_40
          have lg_46_0 : g_46 0 = (tI M_41 2 4).toInt := p0r_40.2.1.1
          have lg_46_1 : g_46 1 = (tI M_41 2 6).toInt := p0r_40.2.1.2.1
          have lg_46_4 : g_46 4 = (tI M_41 1 4).toInt := p0r_40.2.2.1.1
          have lg_46_7 : g_46 7 = (tI M_41 t 4).toInt := p0r_40.2.2.2.1.1
          have lg_46_8 : g_46 8 = (tI M_41 t 5).toInt := p0r_40.2.2.2.1.2.1
          obtain ⟨d_47, ed_47⟩ : ∃ z : Nat → Int, z = qq_pd B n j (pp_pt B n 1) (qq_pt B n j 1) g_39 d_21 := ⟨_, rfl⟩
          rw [← ed_47] at p1r_40
          refine lv_aload_n hx hb dX4_readSum_54 rfl (lv_at hl 2 rfl) ?_
          refine ti_get (ci := 4) (k := 2) (N := 6) (T := TX4) (v := .ref (A (ti_laws t j) 0)) C hw iw_4 rfl ob_1 (by decide) (by decide) fl_X4_154 rfl (ti_Tv ((tT_fr q_42).trans ((tT_fr q_34).trans f_18))) dX4_readSum_55 ?_
          refine lv_iload_n hx hb dX4_readSum_58 rfl (lv_at hl 0 rfl) ?_
          refine lv_ineg hx hb dX4_readSum_59 ?_
          refine lv_topi (fun x_48 ex_48 => ?_)
          have tx_48 : x_48.toInt = -x_27.toInt := i_neg ex_48 rfl (by omega)
          refine ti_callVv (ci := 1) (av := [.int x_48]) C hw (x_X1_add l D A cy hJ M_41 iM_41 t ht j hj x_48 (by first | omega | exact Or.inl (by decide) | exact Or.inr (by decide)) B n g_46 p0r_40 d_47 p1r_40) ⟨ml_X4_170, ym_X1_add, yv_X1_add, yi_X1_add, yc_X1_add⟩ yd_X1_add (ob_l ht hj) (by decide) rfl rfl hl.1 (Nat.le_of_ble_eq_true rfl) ⟨by decide, by decide⟩ ⟨Nat.zero_le _, Nat.zero_le _⟩ dX4_readSum_60 (fun M_50 H locs hp_50 hw => ?_)
          obtain ⟨iM_50, q_51, q_52, q_53, p0r_49, p1r_49⟩ := hp_50
          have lM_50_0 : g_46 0 = (tI M_50 2 4).toInt := p0r_49.2.1.1
          have lM_50_1 : g_46 1 = (tI M_50 2 6).toInt := p0r_49.2.1.2.1
          have lM_50_4 : g_46 4 = (tI M_50 1 4).toInt := p0r_49.2.2.1.1
          have lM_50_7 : g_46 7 = (tI M_50 t 4).toInt := p0r_49.2.2.2.1.1
          have lM_50_8 : g_46 8 = (tI M_50 t 5).toInt := p0r_49.2.2.2.1.2.1
          obtain ⟨d_54, ed_54⟩ : ∃ z : Nat → Int, z = qa j x_48.toInt d_47 := ⟨_, rfl⟩
          rw [← ed_54] at p1r_49
          obtain ⟨x_55, ex_55⟩ : ∃ z : Int32, z = x_9 + 1 := ⟨_, rfl⟩
          have tx_55 : x_55.toInt = x_9.toInt + 1 := i_add ex_55 rfl (by decide) (by omega) (by omega)
          refine lv_iinc (v := x_55) (lv' := [(2, .int x_55), (3, .int x_27), (0, .ref (A 1 0)), (1, .int 7)]) hx hb dX4_readSum_63 hl (k := 1) rfl (by rw [ex_55]; rfl) (by decide) rfl (fun ls hl => ?_)
          refine lv_goto (tgt := 7) hx hb dX4_readSum_66 (by decide) ?_
          exact ih_25 x_55 M_50 g_46 d_54 _ _ _ (by omega) (by first | omega | decide) (by first | omega | decide) iM_50 ((q_51).trans ((q_42).trans ((q_34).trans f_13))) (f0.trans (f0_x q_52) (f0.trans q_43 (f0.trans q_35 f_14))) (((q_52 1).2.1).trans ((q_44).trans ((q_36).trans f_15))) (ot.trans q_53 (ot.trans q_45 (ot.trans q_37 f_16))) ((tT_fr q_51).trans ((tT_fr q_42).trans ((tT_fr q_34).trans f_17))) ((tT_fr q_51).trans ((tT_fr q_42).trans ((tT_fr q_34).trans f_18))) p0r_49 p1r_49 (j_23.trans (lp_step (decide_eq_true (by omega)) (by rw [eg_46, eg_39]) (by omega))) (j_24.trans (qlp_step (decide_eq_true (by omega)) (by rw [eg_46, eg_39]) (by rw [ed_54, show x_48.toInt = -(g_19 0) by omega, ed_47, eg_39]) (by omega))) hw (lv_sub hl [0, 2, 3] rfl)
        · refine lv_aload_n hx hb dX4_readSum_25 rfl (lv_at hl 1 rfl) ?_
          refine ti_get (ci := 4) (k := 0) (N := 6) (T := TX4) (v := .ref (A 2 0)) C hw iw_4 rfl ob_1 (by decide) (by decide) fl_X4_12 rfl rfl dX4_readSum_26 ?_
          refine ti_get (ci := 7) (k := 4) (N := 7) (T := TX7) C hw iw_7 rfl ob_2 (by decide) (by decide) fl_X4_41 rfl rfl dX4_readSum_29 ?_
          refine ti_top (y := x_27) (ex_27.symm) ?_
          have u_29 : (tI M_12 2 4).toInt = (x_27 : Int32).toInt := by rw [(ex_27.symm)]
          refine lv_bipush (v := 39) hx hb dX4_readSum_32 (by decide) ?_
          refine sb_icmp_ne (tgt := 69) hx hb rfl (by decide : (39 : Int32).toInt = 39) dX4_readSum_34 (by decide) (fun c_34_29 => ?_) (fun c_34_29 => ?_)
          · exact hQ _ _ _ _ _ hw (⟨iM_12, (f_13), f_14, (f_15), f_16, (by unfold pp_sm; rw [← eg_7, j_23, lp_end (P := pp_qP) (f := 64 - x_9.toInt.toNat) (s := g_19) (Or.inr (decide_eq_false (by omega)))]; exact hs_20), (by unfold qq_sm; rw [← eg_7, ← ed_8, j_24, qlp_end (P := pp_qP) (f := 64 - x_9.toInt.toNat) (s := g_19) (Or.inr (decide_eq_false (by omega)))]; exact tq_22)⟩) dX4_readSum_69
          · refine lv_aload_n hx hb dX4_readSum_37 rfl (lv_at hl 1 rfl) ?_
            refine ti_get (ci := 4) (k := 0) (N := 6) (T := TX4) (v := .ref (A 2 0)) C hw iw_4 rfl ob_1 (by decide) (by decide) fl_X4_12 rfl rfl dX4_readSum_38 ?_
            refine ti_get (ci := 7) (k := 4) (N := 7) (T := TX7) C hw iw_7 rfl ob_2 (by decide) (by decide) fl_X4_41 rfl rfl dX4_readSum_41 ?_
            refine ti_top (y := x_27) (ex_27.symm) ?_
            have u_56 : (tI M_12 2 4).toInt = (x_27 : Int32).toInt := by rw [(ex_27.symm)]
            refine lv_istore_n (lv' := [(3, .int x_27), (2, .int x_9), (0, .ref (A 1 0)), (1, .int 7)]) hx hb dX4_readSum_44 rfl hl (by decide) rfl (fun ls hl => ?_)
            refine lv_aload_n hx hb dX4_readSum_45 rfl (lv_at hl 2 rfl) ?_
            refine ti_callVvE (ci := 4) (av := []) C hE hw (x_X4_knot l D A cy hJ M_12 iM_12 t ht (f_17) B n g_19 hs_20 d_21 tq_22) ⟨ml_X4_167, ym_X4_knot, yv_X4_knot, yi_X4_knot, yc_X4_knot⟩ yd_X4_knot ob_1 (by decide) rfl rfl hl.1 (Nat.le_of_ble_eq_true rfl) ⟨by decide, by decide⟩ ⟨Nat.zero_le _, Nat.zero_le _⟩ dX4_readSum_46 (fun M_58 H locs hp_58 hw => ?_)
            obtain ⟨iM_58, q_59, q_60, q_61, q_62, q_63, p0r_57, p1r_57⟩ := hp_58
            obtain ⟨g_64, eg_64⟩ : ∃ z : Nat → Int, z = pp_kn B n g_19 := ⟨_, rfl⟩
            rw [← eg_64] at p0r_57
            have lg_64_0 : g_64 0 = (tI M_58 2 4).toInt := p0r_57.2.1.1
            have lg_64_1 : g_64 1 = (tI M_58 2 6).toInt := p0r_57.2.1.2.1
            have lg_64_4 : g_64 4 = (tI M_58 1 4).toInt := p0r_57.2.2.1.1
            have lg_64_7 : g_64 7 = (tI M_58 t 4).toInt := p0r_57.2.2.2.1.1
            have lg_64_8 : g_64 8 = (tI M_58 t 5).toInt := p0r_57.2.2.2.1.2.1
            refine lv_aload_n hx hb dX4_readSum_49 rfl (lv_at hl 2 rfl) ?_
            refine lv_iload_n hx hb dX4_readSum_50 rfl (lv_at hl 3 rfl) ?_
            refine ti_callVvE (ci := 4) (av := [.int 7]) C hE hw (x_X4_readProduct_7 l D A cy hJ M_58 iM_58 t ht ((tT_fr q_59).trans f_17) j hj ((tT_fr q_59).trans f_18) B n g_64 p0r_57 d_21 p1r_57) ⟨ml_X4_184, ym_X4_readProduct, yv_X4_readProduct, yi_X4_readProduct, yc_X4_readProduct⟩ yd_X4_readProduct ob_1 (by decide) rfl rfl hl.1 (Nat.le_of_ble_eq_true rfl) ⟨by decide, by decide⟩ ⟨Nat.zero_le _, Nat.zero_le _⟩ dX4_readSum_51 (fun M_66 H locs hp_66 hw => ?_)
            obtain ⟨iM_66, q_67, q_68, q_69, q_70, p0r_65, p1r_65⟩ := hp_66
            obtain ⟨g_71, eg_71⟩ : ∃ z : Nat → Int, z = pp_pd B n (pp_pt B n 1) g_64 := ⟨_, rfl⟩
            rw [← eg_71] at p0r_65
            have lg_71_0 : g_71 0 = (tI M_66 2 4).toInt := p0r_65.2.1.1
            have lg_71_1 : g_71 1 = (tI M_66 2 6).toInt := p0r_65.2.1.2.1
            have lg_71_4 : g_71 4 = (tI M_66 1 4).toInt := p0r_65.2.2.1.1
            have lg_71_7 : g_71 7 = (tI M_66 t 4).toInt := p0r_65.2.2.2.1.1
            have lg_71_8 : g_71 8 = (tI M_66 t 5).toInt := p0r_65.2.2.2.1.2.1
            obtain ⟨d_72, ed_72⟩ : ∃ z : Nat → Int, z = qq_pd B n j (pp_pt B n 1) (qq_pt B n j 1) g_64 d_21 := ⟨_, rfl⟩
            rw [← ed_72] at p1r_65
            refine lv_aload_n hx hb dX4_readSum_54 rfl (lv_at hl 2 rfl) ?_
            refine ti_get (ci := 4) (k := 2) (N := 6) (T := TX4) (v := .ref (A (ti_laws t j) 0)) C hw iw_4 rfl ob_1 (by decide) (by decide) fl_X4_154 rfl (ti_Tv ((tT_fr q_67).trans ((tT_fr q_59).trans f_18))) dX4_readSum_55 ?_
            refine lv_iload_n hx hb dX4_readSum_58 rfl (lv_at hl 0 rfl) ?_
            refine lv_ineg hx hb dX4_readSum_59 ?_
            refine lv_topi (fun x_73 ex_73 => ?_)
            have tx_73 : x_73.toInt = -x_27.toInt := i_neg ex_73 rfl (by omega)
            refine ti_callVv (ci := 1) (av := [.int x_73]) C hw (x_X1_add l D A cy hJ M_66 iM_66 t ht j hj x_73 (by first | omega | exact Or.inl (by decide) | exact Or.inr (by decide)) B n g_71 p0r_65 d_72 p1r_65) ⟨ml_X4_170, ym_X1_add, yv_X1_add, yi_X1_add, yc_X1_add⟩ yd_X1_add (ob_l ht hj) (by decide) rfl rfl hl.1 (Nat.le_of_ble_eq_true rfl) ⟨by decide, by decide⟩ ⟨Nat.zero_le _, Nat.zero_le _⟩ dX4_readSum_60 (fun M_75 H locs hp_75 hw => ?_)
            obtain ⟨iM_75, q_76, q_77, q_78, p0r_74, p1r_74⟩ := hp_75
            have lM_75_0 : g_71 0 = (tI M_75 2 4).toInt := p0r_74.2.1.1
            have lM_75_1 : g_71 1 = (tI M_75 2 6).toInt := p0r_74.2.1.2.1
            have lM_75_4 : g_71 4 = (tI M_75 1 4).toInt := p0r_74.2.2.1.1
            have lM_75_7 : g_71 7 = (tI M_75 t 4).toInt := p0r_74.2.2.2.1.1
            have lM_75_8 : g_71 8 = (tI M_75 t 5).toInt := p0r_74.2.2.2.1.2.1
            obtain ⟨d_79, ed_79⟩ : ∃ z : Nat → Int, z = qa j x_73.toInt d_72 := ⟨_, rfl⟩
            rw [← ed_79] at p1r_74
            obtain ⟨x_80, ex_80⟩ : ∃ z : Int32, z = x_9 + 1 := ⟨_, rfl⟩
            have tx_80 : x_80.toInt = x_9.toInt + 1 := i_add ex_80 rfl (by decide) (by omega) (by omega)
            refine lv_iinc (v := x_80) (lv' := [(2, .int x_80), (3, .int x_27), (0, .ref (A 1 0)), (1, .int 7)]) hx hb dX4_readSum_63 hl (k := 1) rfl (by rw [ex_80]; rfl) (by decide) rfl (fun ls hl => ?_)
            refine lv_goto (tgt := 7) hx hb dX4_readSum_66 (by decide) ?_
            exact ih_25 x_80 M_75 g_71 d_79 _ _ _ (by omega) (by first | omega | decide) (by first | omega | decide) iM_75 ((q_76).trans ((q_67).trans ((q_59).trans f_13))) (f0.trans (f0_x q_77) (f0.trans q_68 (f0.trans q_60 f_14))) (((q_77 1).2.1).trans ((q_69).trans ((q_61).trans f_15))) (ot.trans q_78 (ot.trans q_70 (ot.trans q_62 f_16))) ((tT_fr q_76).trans ((tT_fr q_67).trans ((tT_fr q_59).trans f_17))) ((tT_fr q_76).trans ((tT_fr q_67).trans ((tT_fr q_59).trans f_18))) p0r_74 p1r_74 (j_23.trans (lp_step (decide_eq_true (by omega)) (by rw [eg_71, eg_64]) (by omega))) (j_24.trans (qlp_step (decide_eq_true (by omega)) (by rw [eg_71, eg_64]) (by rw [ed_79, show x_73.toInt = -(g_19 0) by omega, ed_72, eg_64]) (by omega))) hw (lv_sub hl [0, 2, 3] rfl)
  exact hl_7_24 ((64 - 0 : Int).toNat + 1) 0 M_2 g_7 d_8 _ _ _ (Nat.lt_succ_self _) (by have lt0 : (0 : Int32).toInt = 0 := (by decide); first | omega | decide) (by have lt0 : (0 : Int32).toInt = 0 := (by decide); first | omega | decide) iM_2 (q_3) q_4 (q_5) q_6 ((tT_fr q_3).trans hT) ((tT_fr q_3).trans hL) p0r_1 p1r_1 rfl rfl hw (lv_sub hl [0, 1, 2] rfl)
set_option maxHeartbeats 4000000 in
set_option maxRecDepth 100000 in
theorem x_X4_readComparison_7 (l : Launch) (D : va_G) (A : Nat → Nat → Nat) (cy : Nat → ClassId) (hJ : ti_inj ti_LT A) (M : ti_M) (hI : cI Tc M) (t : Nat) (ht : t = 3 ∨ t = 4) (hT : tT M 1 1 = some t) (j : Nat) (hj : j < 3) (hL : tT M 1 2 = some (ti_laws t j)) (B : Nat → Int) (n : Nat) (rg : Nat → Int) (hr : rC B n t rg M) (td : Nat → Int) (hq : tq t td M) : ti_KvE l yX4_readComparison cX4_readComparison 3 18 ti_LT D A cy M [.ref (A 1 0), .int 7] (fun M2 => cI Tc M2 ∧ M2.2.2.2 = M.2.2.2 ∧ f0 M2 M ∧ tI M2 2 1 = tI M 2 1 ∧ ot t M2 M ∧ rC B n t (pp_cm B n (pp_pt B n 1) rg) M2 ∧ tq t (qq_cm B n j (pp_pt B n 1) (qq_pt B n j 1) rg td) M2) := by
  refine ti_eVE yp_X4_readComparison hJ ti_LT_nd (Nat.le_of_ble_eq_true rfl) ?_
  intro p e s m args below meth c Q H0 C hE hQ hw ls hl
  have hx := C.1
  have hb := C.2.1
  have hl : lv_has ls 3 [(0, .ref (A 1 0)), (1, .int 7)] := hl
  have l0 : rg 0 = (tI M 2 4).toInt := hr.2.1.1
  have l1 : rg 1 = (tI M 2 6).toInt := hr.2.1.2.1
  have l2 : rg 2 = (tI M 2 5).toInt := hr.2.1.2.2.1
  have l3 : rg 3 = (tI M 2 3).toInt := hr.2.1.2.2.2
  have l4 : rg 4 = (tI M 1 4).toInt := hr.2.2.1.1
  have l5 : rg 5 = (tI M 1 5).toInt := hr.2.2.1.2.1
  have l7 : rg 7 = (tI M t 4).toInt := hr.2.2.2.1.1
  have l8 : rg 8 = (tI M t 5).toInt := hr.2.2.2.1.2.1
  have l9 : rg 9 = (tI M t 3).toInt := hr.2.2.2.1.2.2
  refine lv_aload_n hx hb dX4_readComparison_0 rfl (lv_at hl 0 rfl) ?_
  refine lv_iload_n hx hb dX4_readComparison_1 rfl (lv_at hl 1 rfl) ?_
  refine ti_callVvE (ci := 4) (av := [.int 7]) C hE hw (x_X4_readSum_7 l D A cy hJ M hI t ht (hT) j hj (hL) B n rg hr td hq) ⟨ml_X4_181, ym_X4_readSum, yv_X4_readSum, yi_X4_readSum, yc_X4_readSum⟩ yd_X4_readSum ob_1 (by decide) rfl rfl hl.1 (Nat.le_of_ble_eq_true rfl) ⟨by decide, by decide⟩ ⟨Nat.zero_le _, Nat.zero_le _⟩ dX4_readComparison_2 (fun M_2 H locs hp_2 hw => ?_)
  obtain ⟨iM_2, q_3, q_4, q_5, q_6, p0r_1, p1r_1⟩ := hp_2
  obtain ⟨g_7, eg_7⟩ : ∃ z : Nat → Int, z = pp_sm B n (pp_pt B n 1) rg := ⟨_, rfl⟩
  rw [← eg_7] at p0r_1
  have lg_7_0 : g_7 0 = (tI M_2 2 4).toInt := p0r_1.2.1.1
  have lg_7_1 : g_7 1 = (tI M_2 2 6).toInt := p0r_1.2.1.2.1
  have lg_7_4 : g_7 4 = (tI M_2 1 4).toInt := p0r_1.2.2.1.1
  have lg_7_7 : g_7 7 = (tI M_2 t 4).toInt := p0r_1.2.2.2.1.1
  have lg_7_8 : g_7 8 = (tI M_2 t 5).toInt := p0r_1.2.2.2.1.2.1
  obtain ⟨d_8, ed_8⟩ : ∃ z : Nat → Int, z = qq_sm B n j (pp_pt B n 1) (qq_pt B n j 1) rg td := ⟨_, rfl⟩
  rw [← ed_8] at p1r_1
  refine lv_aload_n hx hb dX4_readComparison_5 rfl (lv_at hl 0 rfl) ?_
  refine ti_get (ci := 4) (k := 0) (N := 6) (T := TX4) (v := .ref (A 2 0)) C hw iw_4 rfl ob_1 (by decide) (by decide) fl_X4_12 rfl rfl dX4_readComparison_6 ?_
  refine ti_get (ci := 7) (k := 4) (N := 7) (T := TX7) C hw iw_7 rfl ob_2 (by decide) (by decide) fl_X4_41 rfl rfl dX4_readComparison_9 ?_
  refine lv_topi (fun x_9 ex_9 => ?_)
  have bx_9 : 0 ≤ x_9.toInt ∧ x_9.toInt ≤ 41 := cI_rd iM_2 ob_2.1 ex_9
  have ux_9 : (tI M_2 2 4).toInt = x_9.toInt := by rw [ex_9]
  refine lv_istore_n (lv' := [(2, .int x_9), (0, .ref (A 1 0)), (1, .int 7)]) hx hb dX4_readComparison_12 rfl hl (by decide) rfl (fun ls hl => ?_)
  refine lv_iload_n hx hb dX4_readComparison_13 rfl (lv_at hl 0 rfl) ?_
  refine lv_bipush (v := 32) hx hb dX4_readComparison_14 (by decide) ?_
  refine sb_icmp_lt (tgt := 43) hx hb rfl (by decide : (32 : Int32).toInt = 32) dX4_readComparison_16 (by decide) (fun c_16_9 => ?_) (fun c_16_9 => ?_)
  · exact hQ _ _ _ _ _ hw (⟨iM_2, (q_3), q_4, (q_5), q_6, (by unfold pp_cm; rw [← eg_7]; unfold pp_c2; rw [if_neg (fun q => by omega)]; exact p0r_1), (by unfold qq_cm; rw [← eg_7, ← ed_8]; unfold qq_c2; rw [if_neg (fun q => by omega)]; exact p1r_1)⟩) dX4_readComparison_43
  · refine lv_iload_n hx hb dX4_readComparison_19 rfl (lv_at hl 0 rfl) ?_
    refine lv_bipush (v := 37) hx hb dX4_readComparison_20 (by decide) ?_
    refine sb_icmp_gt (tgt := 43) hx hb rfl (by decide : (37 : Int32).toInt = 37) dX4_readComparison_22 (by decide) (fun c_22_10 => ?_) (fun c_22_10 => ?_)
    · exact hQ _ _ _ _ _ hw (⟨iM_2, (q_3), q_4, (q_5), q_6, (by unfold pp_cm; rw [← eg_7]; unfold pp_c2; rw [if_neg (fun q => by omega)]; exact p0r_1), (by unfold qq_cm; rw [← eg_7, ← ed_8]; unfold qq_c2; rw [if_neg (fun q => by omega)]; exact p1r_1)⟩) dX4_readComparison_43
    · refine lv_aload_n hx hb dX4_readComparison_25 rfl (lv_at hl 1 rfl) ?_
      refine ti_callVvE (ci := 4) (av := []) C hE hw (x_X4_knot l D A cy hJ M_2 iM_2 t ht ((tT_fr q_3).trans hT) B n g_7 p0r_1 d_8 p1r_1) ⟨ml_X4_167, ym_X4_knot, yv_X4_knot, yi_X4_knot, yc_X4_knot⟩ yd_X4_knot ob_1 (by decide) rfl rfl hl.1 (Nat.le_of_ble_eq_true rfl) ⟨by decide, by decide⟩ ⟨Nat.zero_le _, Nat.zero_le _⟩ dX4_readComparison_26 (fun M_13 H locs hp_13 hw => ?_)
      obtain ⟨iM_13, q_14, q_15, q_16, q_17, q_18, p0r_12, p1r_12⟩ := hp_13
      obtain ⟨g_19, eg_19⟩ : ∃ z : Nat → Int, z = pp_kn B n g_7 := ⟨_, rfl⟩
      rw [← eg_19] at p0r_12
      have lg_19_0 : g_19 0 = (tI M_13 2 4).toInt := p0r_12.2.1.1
      have lg_19_1 : g_19 1 = (tI M_13 2 6).toInt := p0r_12.2.1.2.1
      have lg_19_4 : g_19 4 = (tI M_13 1 4).toInt := p0r_12.2.2.1.1
      have lg_19_7 : g_19 7 = (tI M_13 t 4).toInt := p0r_12.2.2.2.1.1
      have lg_19_8 : g_19 8 = (tI M_13 t 5).toInt := p0r_12.2.2.2.1.2.1
      refine lv_aload_n hx hb dX4_readComparison_29 rfl (lv_at hl 1 rfl) ?_
      refine lv_iload_n hx hb dX4_readComparison_30 rfl (lv_at hl 2 rfl) ?_
      refine ti_callVvE (ci := 4) (av := [.int 7]) C hE hw (x_X4_readSum_7 l D A cy hJ M_13 iM_13 t ht ((tT_fr q_14).trans ((tT_fr q_3).trans hT)) j hj ((tT_fr q_14).trans ((tT_fr q_3).trans hL)) B n g_19 p0r_12 d_8 p1r_12) ⟨ml_X4_181, ym_X4_readSum, yv_X4_readSum, yi_X4_readSum, yc_X4_readSum⟩ yd_X4_readSum ob_1 (by decide) rfl rfl hl.1 (Nat.le_of_ble_eq_true rfl) ⟨by decide, by decide⟩ ⟨Nat.zero_le _, Nat.zero_le _⟩ dX4_readComparison_31 (fun M_21 H locs hp_21 hw => ?_)
      obtain ⟨iM_21, q_22, q_23, q_24, q_25, p0r_20, p1r_20⟩ := hp_21
      obtain ⟨g_26, eg_26⟩ : ∃ z : Nat → Int, z = pp_sm B n (pp_pt B n 1) g_19 := ⟨_, rfl⟩
      rw [← eg_26] at p0r_20
      have lg_26_0 : g_26 0 = (tI M_21 2 4).toInt := p0r_20.2.1.1
      have lg_26_1 : g_26 1 = (tI M_21 2 6).toInt := p0r_20.2.1.2.1
      have lg_26_4 : g_26 4 = (tI M_21 1 4).toInt := p0r_20.2.2.1.1
      have lg_26_7 : g_26 7 = (tI M_21 t 4).toInt := p0r_20.2.2.2.1.1
      have lg_26_8 : g_26 8 = (tI M_21 t 5).toInt := p0r_20.2.2.2.1.2.1
      obtain ⟨d_27, ed_27⟩ : ∃ z : Nat → Int, z = qq_sm B n j (pp_pt B n 1) (qq_pt B n j 1) g_19 d_8 := ⟨_, rfl⟩
      rw [← ed_27] at p1r_20
      refine lv_aload_n hx hb dX4_readComparison_34 rfl (lv_at hl 1 rfl) ?_
      refine ti_get (ci := 4) (k := 2) (N := 6) (T := TX4) (v := .ref (A (ti_laws t j) 0)) C hw iw_4 rfl ob_1 (by decide) (by decide) fl_X4_154 rfl (ti_Tv ((tT_fr q_22).trans ((tT_fr q_14).trans ((tT_fr q_3).trans hL)))) dX4_readComparison_35 ?_
      refine lv_iload_n hx hb dX4_readComparison_38 rfl (lv_at hl 0 rfl) ?_
      refine lv_ineg hx hb dX4_readComparison_39 ?_
      refine lv_topi (fun x_28 ex_28 => ?_)
      have tx_28 : x_28.toInt = -x_9.toInt := i_neg ex_28 rfl (by omega)
      refine ti_callVv (ci := 1) (av := [.int x_28]) C hw (x_X1_add l D A cy hJ M_21 iM_21 t ht j hj x_28 (by first | omega | exact Or.inl (by decide) | exact Or.inr (by decide)) B n g_26 p0r_20 d_27 p1r_20) ⟨ml_X4_170, ym_X1_add, yv_X1_add, yi_X1_add, yc_X1_add⟩ yd_X1_add (ob_l ht hj) (by decide) rfl rfl hl.1 (Nat.le_of_ble_eq_true rfl) ⟨by decide, by decide⟩ ⟨Nat.zero_le _, Nat.zero_le _⟩ dX4_readComparison_40 (fun M_30 H locs hp_30 hw => ?_)
      obtain ⟨iM_30, q_31, q_32, q_33, p0r_29, p1r_29⟩ := hp_30
      have lM_30_0 : g_26 0 = (tI M_30 2 4).toInt := p0r_29.2.1.1
      have lM_30_1 : g_26 1 = (tI M_30 2 6).toInt := p0r_29.2.1.2.1
      have lM_30_4 : g_26 4 = (tI M_30 1 4).toInt := p0r_29.2.2.1.1
      have lM_30_7 : g_26 7 = (tI M_30 t 4).toInt := p0r_29.2.2.2.1.1
      have lM_30_8 : g_26 8 = (tI M_30 t 5).toInt := p0r_29.2.2.2.1.2.1
      obtain ⟨d_34, ed_34⟩ : ∃ z : Nat → Int, z = qa j x_28.toInt d_27 := ⟨_, rfl⟩
      rw [← ed_34] at p1r_29
      exact hQ _ _ _ _ _ hw (⟨iM_30, ((q_31).trans ((q_22).trans ((q_14).trans q_3))), (f0.trans (f0_x q_32) (f0.trans q_23 (f0.trans q_15 q_4))), (((q_32 1).2.1).trans ((q_24).trans ((q_16).trans q_5))), (ot.trans q_33 (ot.trans q_25 (ot.trans q_17 q_6))), (by unfold pp_cm; rw [← eg_7]; unfold pp_c2; rw [if_pos ⟨by omega, by omega⟩, ← eg_19, ← eg_26]; exact p0r_29), (by unfold qq_cm; rw [← eg_7, ← ed_8]; unfold qq_c2; rw [if_pos ⟨by omega, by omega⟩, ← eg_19, ← ed_27, show -(g_7 0) = x_28.toInt by omega, ← ed_34]; exact p1r_29)⟩) dX4_readComparison_43
set_option maxHeartbeats 4000000 in
set_option maxRecDepth 100000 in
theorem x_X4_readNegated_7 (l : Launch) (D : va_G) (A : Nat → Nat → Nat) (cy : Nat → ClassId) (hJ : ti_inj ti_LT A) (M : ti_M) (hI : cI Tc M) (t : Nat) (ht : t = 3 ∨ t = 4) (hT : tT M 1 1 = some t) (j : Nat) (hj : j < 3) (hL : tT M 1 2 = some (ti_laws t j)) (B : Nat → Int) (n : Nat) (rg : Nat → Int) (hr : rC B n t rg M) (td : Nat → Int) (hq : tq t td M) : ti_KvE l yX4_readNegated cX4_readNegated 4 19 ti_LT D A cy M [.ref (A 1 0), .int 7] (fun M2 => cI Tc M2 ∧ M2.2.2.2 = M.2.2.2 ∧ f0 M2 M ∧ tI M2 2 1 = tI M 2 1 ∧ ot t M2 M ∧ rC B n t (pp_ng B n (pp_pt B n 1) rg) M2 ∧ tq t (qq_ng B n j (pp_pt B n 1) (qq_pt B n j 1) rg td) M2) := by
  refine ti_eVE yp_X4_readNegated hJ ti_LT_nd (Nat.le_of_ble_eq_true rfl) ?_
  intro p e s m args below meth c Q H0 C hE hQ hw ls hl
  have hx := C.1
  have hb := C.2.1
  have hl : lv_has ls 4 [(0, .ref (A 1 0)), (1, .int 7)] := hl
  have l0 : rg 0 = (tI M 2 4).toInt := hr.2.1.1
  have l1 : rg 1 = (tI M 2 6).toInt := hr.2.1.2.1
  have l2 : rg 2 = (tI M 2 5).toInt := hr.2.1.2.2.1
  have l3 : rg 3 = (tI M 2 3).toInt := hr.2.1.2.2.2
  have l4 : rg 4 = (tI M 1 4).toInt := hr.2.2.1.1
  have l5 : rg 5 = (tI M 1 5).toInt := hr.2.2.1.2.1
  have l7 : rg 7 = (tI M t 4).toInt := hr.2.2.2.1.1
  have l8 : rg 8 = (tI M t 5).toInt := hr.2.2.2.1.2.1
  have l9 : rg 9 = (tI M t 3).toInt := hr.2.2.2.1.2.2
  refine lv_iconst (v := 0) hx hb dX4_readNegated_0 (by decide) ?_
  refine lv_istore_n (lv' := [(2, .int 0), (0, .ref (A 1 0)), (1, .int 7)]) hx hb dX4_readNegated_1 rfl hl (by decide) rfl (fun ls hl => ?_)
  have hl_2_17 : ∀ (n_18 : Nat) (x_1 : Int32) (M_4 : ti_M) (g_11 : Nat → Int) (d_13 : Nat → Int) (H : Heap) (locs : List Loc) (ls : Array Slot), (65 - x_1.toInt : Int).toNat < n_18 → (0 ≤ x_1.toInt) → (x_1.toInt ≤ 65) → (cI Tc M_4) → (M_4.2.2.2 = M.2.2.2) → (f0 M_4 M) → (tI M_4 2 1 = tI M 2 1) → (ot t M_4 M) → (tT M_4 1 1 = (some t)) → (tT M_4 1 2 = (some (ti_laws t j))) → (rC B n t g_11 M_4) → (tq t d_13 M_4) → (pp_lp pp_qN (pp_kn B n) 65 rg = pp_lp pp_qN (pp_kn B n) (65 - (x_1.toInt).toNat) g_11) → (qq_ca B n 65 rg 0 = qq_ca B n (65 - (x_1.toInt).toNat) g_11 (x_1.toInt).toNat) → (td = d_13) → ti_H ti_LT D A cy H0 M_4 H locs → lv_has ls 4 [(2, .int x_1), (0, .ref (A 1 0)), (1, .int 7)] → W p l e (ti_rm 19) s m args below meth c H locs 0 0 Q (F0 m 2 ls []) := by
    intro n_18
    induction n_18 with
    | zero => intro x_1 M_4 g_11 d_13 H locs ls hf_18; exact absurd hf_18 (Nat.not_lt_zero _)
    | succ n_18 ih_18 =>
      intro x_1 M_4 g_11 d_13 H locs ls hf_18 b_2 b_3 iM_4 f_5 f_6 f_7 f_8 f_9 f_10 hs_12 tq_14 j_15 j_16 j_17 hw hl
      have lg_11_0 : g_11 0 = (tI M_4 2 4).toInt := hs_12.2.1.1
      have lg_11_1 : g_11 1 = (tI M_4 2 6).toInt := hs_12.2.1.2.1
      have lg_11_4 : g_11 4 = (tI M_4 1 4).toInt := hs_12.2.2.1.1
      have lg_11_7 : g_11 7 = (tI M_4 t 4).toInt := hs_12.2.2.2.1.1
      have lg_11_8 : g_11 8 = (tI M_4 t 5).toInt := hs_12.2.2.2.1.2.1
      refine lv_iload_n hx hb dX4_readNegated_2 rfl (lv_at hl 0 rfl) ?_
      refine lv_bipush (v := 64) hx hb dX4_readNegated_3 (by decide) ?_
      have hj_30_33 : ∀  (H : Heap) (locs : List Loc) (ls : Array Slot), (pp_lp pp_qN (pp_kn B n) 65 rg = g_11) → (qq_ca B n 65 rg 0 = (x_1.toInt).toNat) → (td = d_13) → ti_H ti_LT D A cy H0 M_4 H locs → lv_has ls 4 [(2, .int x_1), (0, .ref (A 1 0)), (1, .int 7)] → W p l e (ti_rm 19) s m args below meth c H locs 0 0 Q (F0 m 30 ls []) := by
        intro  H locs ls j_31 j_32 j_33 hw hl
        have lg_11_0 : g_11 0 = (tI M_4 2 4).toInt := hs_12.2.1.1
        have lg_11_1 : g_11 1 = (tI M_4 2 6).toInt := hs_12.2.1.2.1
        have lg_11_4 : g_11 4 = (tI M_4 1 4).toInt := hs_12.2.2.1.1
        have lg_11_7 : g_11 7 = (tI M_4 t 4).toInt := hs_12.2.2.2.1.1
        have lg_11_8 : g_11 8 = (tI M_4 t 5).toInt := hs_12.2.2.2.1.2.1
        refine lv_aload_n hx hb dX4_readNegated_30 rfl (lv_at hl 1 rfl) ?_
        refine lv_iload_n hx hb dX4_readNegated_31 rfl (lv_at hl 2 rfl) ?_
        refine ti_callVvE (ci := 4) (av := [.int 7]) C hE hw (x_X4_readComparison_7 l D A cy hJ M_4 iM_4 t ht (f_9) j hj (f_10) B n g_11 hs_12 d_13 tq_14) ⟨ml_X4_178, ym_X4_readComparison, yv_X4_readComparison, yi_X4_readComparison, yc_X4_readComparison⟩ yd_X4_readComparison ob_1 (by decide) rfl rfl hl.1 (Nat.le_of_ble_eq_true rfl) ⟨by decide, by decide⟩ ⟨Nat.zero_le _, Nat.zero_le _⟩ dX4_readNegated_32 (fun M_35 H locs hp_35 hw => ?_)
        obtain ⟨iM_35, q_36, q_37, q_38, q_39, p0r_34, p1r_34⟩ := hp_35
        obtain ⟨g_40, eg_40⟩ : ∃ z : Nat → Int, z = pp_cm B n (pp_pt B n 1) g_11 := ⟨_, rfl⟩
        rw [← eg_40] at p0r_34
        have lg_40_0 : g_40 0 = (tI M_35 2 4).toInt := p0r_34.2.1.1
        have lg_40_1 : g_40 1 = (tI M_35 2 6).toInt := p0r_34.2.1.2.1
        have lg_40_4 : g_40 4 = (tI M_35 1 4).toInt := p0r_34.2.2.1.1
        have lg_40_7 : g_40 7 = (tI M_35 t 4).toInt := p0r_34.2.2.2.1.1
        have lg_40_8 : g_40 8 = (tI M_35 t 5).toInt := p0r_34.2.2.2.1.2.1
        obtain ⟨d_41, ed_41⟩ : ∃ z : Nat → Int, z = qq_cm B n j (pp_pt B n 1) (qq_pt B n j 1) g_11 d_13 := ⟨_, rfl⟩
        rw [← ed_41] at p1r_34
        have EM : pp_ng B n (pp_pt B n 1) rg = g_40 := by unfold pp_ng; rw [j_31, ← eg_40]
        have ET : qq_ng B n j (pp_pt B n 1) (qq_pt B n j 1) rg td = qq_na j x_1.toInt.toNat d_41 := by unfold qq_ng; rw [j_32, j_31, show td = d_13 from j_33, ← ed_41]
        refine lv_iconst (v := 0) hx hb dX4_readNegated_35 (by decide) ?_
        refine lv_istore_n (lv' := [(3, .int 0), (2, .int x_1), (0, .ref (A 1 0)), (1, .int 7)]) hx hb dX4_readNegated_36 rfl hl (by decide) rfl (fun ls hl => ?_)
        have hl_37_58 : ∀ (n_59 : Nat) (x_42 : Int32) (M_45 : ti_M) (g_52 : Nat → Int) (d_54 : Nat → Int) (H : Heap) (locs : List Loc) (ls : Array Slot), (65 - x_42.toInt : Int).toNat < n_59 → (0 ≤ x_42.toInt) → (x_42.toInt ≤ 65) → (cI Tc M_45) → (M_45.2.2.2 = M.2.2.2) → (f0 M_45 M) → (tI M_45 2 1 = tI M 2 1) → (ot t M_45 M) → (tT M_45 1 1 = (some t)) → (tT M_45 1 2 = (some (ti_laws t j))) → (rC B n t g_52 M_45) → (tq t d_54 M_45) → (g_40 = g_52) → (qq_na j (x_42.toInt).toNat d_41 = d_54) → (x_42.toInt ≤ x_1.toInt) → ti_H ti_LT D A cy H0 M_45 H locs → lv_has ls 4 [(3, .int x_42), (2, .int x_1), (0, .ref (A 1 0)), (1, .int 7)] → W p l e (ti_rm 19) s m args below meth c H locs 0 0 Q (F0 m 37 ls []) := by
          intro n_59
          induction n_59 with
          | zero => intro x_42 M_45 g_52 d_54 H locs ls hf_59; exact absurd hf_59 (Nat.not_lt_zero _)
          | succ n_59 ih_59 =>
            intro x_42 M_45 g_52 d_54 H locs ls hf_59 b_43 b_44 iM_45 f_46 f_47 f_48 f_49 f_50 f_51 hs_53 tq_55 j_56 j_57 j_58 hw hl
            have lg_52_0 : g_52 0 = (tI M_45 2 4).toInt := hs_53.2.1.1
            have lg_52_1 : g_52 1 = (tI M_45 2 6).toInt := hs_53.2.1.2.1
            have lg_52_4 : g_52 4 = (tI M_45 1 4).toInt := hs_53.2.2.1.1
            have lg_52_7 : g_52 7 = (tI M_45 t 4).toInt := hs_53.2.2.2.1.1
            have lg_52_8 : g_52 8 = (tI M_45 t 5).toInt := hs_53.2.2.2.1.2.1
            refine lv_iload_n hx hb dX4_readNegated_37 rfl (lv_at hl 0 rfl) ?_
            refine lv_iload_n hx hb dX4_readNegated_38 rfl (lv_at hl 1 rfl) ?_
            refine sb_icmp_ge (tgt := 57) hx hb rfl rfl dX4_readNegated_39 (by decide) (fun c_39_59 => ?_) (fun c_39_59 => ?_)
            · exact hQ _ _ _ _ _ hw (⟨iM_45, (f_46), f_47, (f_48), f_49, (by rw [EM, j_56]; exact hs_53), (by rw [ET, show x_1.toInt.toNat = x_42.toInt.toNat by omega, j_57]; exact tq_55)⟩) dX4_readNegated_57
            · refine lv_aload_n hx hb dX4_readNegated_42 rfl (lv_at hl 2 rfl) ?_
              refine ti_get (ci := 4) (k := 2) (N := 6) (T := TX4) (v := .ref (A (ti_laws t j) 0)) C hw iw_4 rfl ob_1 (by decide) (by decide) fl_X4_154 rfl (ti_Tv (f_51)) dX4_readNegated_43 ?_
              refine lv_bipush (v := (-24)) hx hb dX4_readNegated_46 (by decide) ?_
              refine ti_callVv (ci := 1) (av := [.int (-24)]) C hw (x_X1_add l D A cy hJ M_45 iM_45 t ht j hj (-24) (by first | omega | exact Or.inl (by decide) | exact Or.inr (by decide)) B n g_52 hs_53 d_54 tq_55) ⟨ml_X4_170, ym_X1_add, yv_X1_add, yi_X1_add, yc_X1_add⟩ yd_X1_add (ob_l ht hj) (by decide) rfl rfl hl.1 (Nat.le_of_ble_eq_true rfl) ⟨by decide, by decide⟩ ⟨Nat.zero_le _, Nat.zero_le _⟩ dX4_readNegated_48 (fun M_62 H locs hp_62 hw => ?_)
              obtain ⟨iM_62, q_63, q_64, q_65, p0r_61, p1r_61⟩ := hp_62
              have lM_62_0 : g_52 0 = (tI M_62 2 4).toInt := p0r_61.2.1.1
              have lM_62_1 : g_52 1 = (tI M_62 2 6).toInt := p0r_61.2.1.2.1
              have lM_62_4 : g_52 4 = (tI M_62 1 4).toInt := p0r_61.2.2.1.1
              have lM_62_7 : g_52 7 = (tI M_62 t 4).toInt := p0r_61.2.2.2.1.1
              have lM_62_8 : g_52 8 = (tI M_62 t 5).toInt := p0r_61.2.2.2.1.2.1
              simp only [show ((-24) : Int32).toInt = (-24) by decide] at p1r_61
              obtain ⟨d_66, ed_66⟩ : ∃ z : Nat → Int, z = qa j (-24) d_54 := ⟨_, rfl⟩
              rw [← ed_66] at p1r_61
              obtain ⟨x_67, ex_67⟩ : ∃ z : Int32, z = x_42 + 1 := ⟨_, rfl⟩
              have tx_67 : x_67.toInt = x_42.toInt + 1 := i_add ex_67 rfl (by decide) (by omega) (by omega)
              refine lv_iinc (v := x_67) (lv' := [(3, .int x_67), (2, .int x_1), (0, .ref (A 1 0)), (1, .int 7)]) hx hb dX4_readNegated_51 hl (k := 0) rfl (by rw [ex_67]; rfl) (by decide) rfl (fun ls hl => ?_)
              refine lv_goto (tgt := 37) hx hb dX4_readNegated_54 (by decide) ?_
              exact ih_59 x_67 M_62 g_52 d_66 _ _ _ (by omega) (by first | omega | decide) (by first | omega | decide) iM_62 ((q_63).trans f_46) (f0.trans (f0_x q_64) f_47) (((q_64 1).2.1).trans f_48) (ot.trans q_65 f_49) ((tT_fr q_63).trans f_50) ((tT_fr q_63).trans f_51) p0r_61 p1r_61 j_56 (by rw [show x_67.toInt.toNat = x_42.toInt.toNat + 1 by omega, ed_66, ← j_57]; rfl) (by first | omega | decide) hw (lv_sub hl [0, 1, 2, 3] rfl)
        exact hl_37_58 ((65 - 0 : Int).toNat + 1) 0 M_35 g_40 d_41 _ _ _ (Nat.lt_succ_self _) (by have lt0 : (0 : Int32).toInt = 0 := (by decide); first | omega | decide) (by have lt0 : (0 : Int32).toInt = 0 := (by decide); first | omega | decide) iM_35 ((q_36).trans f_5) (f0.trans q_37 f_6) ((q_38).trans f_7) (ot.trans q_39 f_8) ((tT_fr q_36).trans f_9) ((tT_fr q_36).trans f_10) p0r_34 p1r_34 rfl rfl (by have lt0 : (0 : Int32).toInt = 0 := (by decide); first | omega | decide) hw (lv_sub hl [0, 1, 2, 3] rfl)
      refine sb_icmp_gt (tgt := 30) hx hb rfl (by decide : (64 : Int32).toInt = 64) dX4_readNegated_5 (by decide) (fun c_5_18 => ?_) (fun c_5_18 => ?_)
      · exact hj_30_33  _ _ _ (by rw [j_15, lp_end (P := pp_qN) (f := 65 - x_1.toInt.toNat) (s := g_11) (Or.inl (by omega))]) (by rw [j_16, ca_end (f := 65 - x_1.toInt.toNat) (s := g_11) (Or.inl (by omega))]) j_17 hw (lv_sub hl [0, 1, 2] rfl)
      · refine lv_aload_n hx hb dX4_readNegated_8 rfl (lv_at hl 1 rfl) ?_
        refine ti_get (ci := 4) (k := 0) (N := 6) (T := TX4) (v := .ref (A 2 0)) C hw iw_4 rfl ob_1 (by decide) (by decide) fl_X4_12 rfl rfl dX4_readNegated_9 ?_
        refine ti_get (ci := 7) (k := 4) (N := 7) (T := TX7) C hw iw_7 rfl ob_2 (by decide) (by decide) fl_X4_41 rfl rfl dX4_readNegated_12 ?_
        refine lv_topi (fun x_20 ex_20 => ?_)
        have bx_20 : 0 ≤ x_20.toInt ∧ x_20.toInt ≤ 41 := cI_rd iM_4 ob_2.1 ex_20
        have ux_20 : (tI M_4 2 4).toInt = x_20.toInt := by rw [ex_20]
        refine lv_bipush (v := 24) hx hb dX4_readNegated_15 (by decide) ?_
        refine sb_icmp_ne (tgt := 30) hx hb rfl (by decide : (24 : Int32).toInt = 24) dX4_readNegated_17 (by decide) (fun c_17_20 => ?_) (fun c_17_20 => ?_)
        · exact hj_30_33  _ _ _ (by rw [j_15, lp_end (P := pp_qN) (f := 65 - x_1.toInt.toNat) (s := g_11) (Or.inr (decide_eq_false (by omega)))]) (by rw [j_16, ca_end (f := 65 - x_1.toInt.toNat) (s := g_11) (Or.inr (decide_eq_false (by omega)))]) j_17 hw (lv_sub hl [0, 1, 2] rfl)
        · refine lv_aload_n hx hb dX4_readNegated_20 rfl (lv_at hl 1 rfl) ?_
          refine ti_callVvE (ci := 4) (av := []) C hE hw (x_X4_knot l D A cy hJ M_4 iM_4 t ht (f_9) B n g_11 hs_12 d_13 tq_14) ⟨ml_X4_167, ym_X4_knot, yv_X4_knot, yi_X4_knot, yc_X4_knot⟩ yd_X4_knot ob_1 (by decide) rfl rfl hl.1 (Nat.le_of_ble_eq_true rfl) ⟨by decide, by decide⟩ ⟨Nat.zero_le _, Nat.zero_le _⟩ dX4_readNegated_21 (fun M_23 H locs hp_23 hw => ?_)
          obtain ⟨iM_23, q_24, q_25, q_26, q_27, q_28, p0r_22, p1r_22⟩ := hp_23
          obtain ⟨g_29, eg_29⟩ : ∃ z : Nat → Int, z = pp_kn B n g_11 := ⟨_, rfl⟩
          rw [← eg_29] at p0r_22
          have lg_29_0 : g_29 0 = (tI M_23 2 4).toInt := p0r_22.2.1.1
          have lg_29_1 : g_29 1 = (tI M_23 2 6).toInt := p0r_22.2.1.2.1
          have lg_29_4 : g_29 4 = (tI M_23 1 4).toInt := p0r_22.2.2.1.1
          have lg_29_7 : g_29 7 = (tI M_23 t 4).toInt := p0r_22.2.2.2.1.1
          have lg_29_8 : g_29 8 = (tI M_23 t 5).toInt := p0r_22.2.2.2.1.2.1
          obtain ⟨x_30, ex_30⟩ : ∃ z : Int32, z = x_1 + 1 := ⟨_, rfl⟩
          have tx_30 : x_30.toInt = x_1.toInt + 1 := i_add ex_30 rfl (by decide) (by omega) (by omega)
          refine lv_iinc (v := x_30) (lv' := [(2, .int x_30), (0, .ref (A 1 0)), (1, .int 7)]) hx hb dX4_readNegated_24 hl (k := 0) rfl (by rw [ex_30]; rfl) (by decide) rfl (fun ls hl => ?_)
          refine lv_goto (tgt := 2) hx hb dX4_readNegated_27 (by decide) ?_
          exact ih_18 x_30 M_23 g_29 d_13 _ _ _ (by omega) (by first | omega | decide) (by first | omega | decide) iM_23 ((q_24).trans f_5) (f0.trans q_25 f_6) ((q_26).trans f_7) (ot.trans q_27 f_8) ((tT_fr q_24).trans f_9) ((tT_fr q_24).trans f_10) p0r_22 p1r_22 (j_15.trans (lp_step (decide_eq_true (by omega)) (by rw [eg_29]) (by omega))) (j_16.trans (ca_step (decide_eq_true (by omega)) (by rw [eg_29]) (by omega) (by omega))) j_17 hw (lv_sub hl [0, 1, 2] rfl)
  exact hl_2_17 ((65 - 0 : Int).toNat + 1) 0 M rg td _ _ _ (Nat.lt_succ_self _) (by have lt0 : (0 : Int32).toInt = 0 := (by decide); first | omega | decide) (by have lt0 : (0 : Int32).toInt = 0 := (by decide); first | omega | decide) hI rfl f0.refl rfl ot.refl (hT) (hL) hr hq rfl rfl rfl hw (lv_sub hl [0, 1, 2] rfl)
set_option maxHeartbeats 4000000 in
set_option maxRecDepth 100000 in
theorem x_X4_readBoth_7 (l : Launch) (D : va_G) (A : Nat → Nat → Nat) (cy : Nat → ClassId) (hJ : ti_inj ti_LT A) (M : ti_M) (hI : cI Tc M) (t : Nat) (ht : t = 3 ∨ t = 4) (hT : tT M 1 1 = some t) (j : Nat) (hj : j < 3) (hL : tT M 1 2 = some (ti_laws t j)) (B : Nat → Int) (n : Nat) (rg : Nat → Int) (hr : rC B n t rg M) (td : Nat → Int) (hq : tq t td M) : ti_KvE l yX4_readBoth cX4_readBoth 3 20 ti_LT D A cy M [.ref (A 1 0), .int 7] (fun M2 => cI Tc M2 ∧ M2.2.2.2 = M.2.2.2 ∧ f0 M2 M ∧ tI M2 2 1 = tI M 2 1 ∧ ot t M2 M ∧ rC B n t (pp_bo B n (pp_pt B n 1) rg) M2 ∧ tq t (qq_bo B n j (pp_pt B n 1) (qq_pt B n j 1) rg td) M2) := by
  refine ti_eVE yp_X4_readBoth hJ ti_LT_nd (Nat.le_of_ble_eq_true rfl) ?_
  intro p e s m args below meth c Q H0 C hE hQ hw ls hl
  have hx := C.1
  have hb := C.2.1
  have hl : lv_has ls 3 [(0, .ref (A 1 0)), (1, .int 7)] := hl
  have l0 : rg 0 = (tI M 2 4).toInt := hr.2.1.1
  have l1 : rg 1 = (tI M 2 6).toInt := hr.2.1.2.1
  have l2 : rg 2 = (tI M 2 5).toInt := hr.2.1.2.2.1
  have l3 : rg 3 = (tI M 2 3).toInt := hr.2.1.2.2.2
  have l4 : rg 4 = (tI M 1 4).toInt := hr.2.2.1.1
  have l5 : rg 5 = (tI M 1 5).toInt := hr.2.2.1.2.1
  have l7 : rg 7 = (tI M t 4).toInt := hr.2.2.2.1.1
  have l8 : rg 8 = (tI M t 5).toInt := hr.2.2.2.1.2.1
  have l9 : rg 9 = (tI M t 3).toInt := hr.2.2.2.1.2.2
  refine lv_aload_n hx hb dX4_readBoth_0 rfl (lv_at hl 0 rfl) ?_
  refine lv_iload_n hx hb dX4_readBoth_1 rfl (lv_at hl 1 rfl) ?_
  refine ti_callVvE (ci := 4) (av := [.int 7]) C hE hw (x_X4_readNegated_7 l D A cy hJ M hI t ht (hT) j hj (hL) B n rg hr td hq) ⟨ml_X4_175, ym_X4_readNegated, yv_X4_readNegated, yi_X4_readNegated, yc_X4_readNegated⟩ yd_X4_readNegated ob_1 (by decide) rfl rfl hl.1 (Nat.le_of_ble_eq_true rfl) ⟨by decide, by decide⟩ ⟨Nat.zero_le _, Nat.zero_le _⟩ dX4_readBoth_2 (fun M_2 H locs hp_2 hw => ?_)
  obtain ⟨iM_2, q_3, q_4, q_5, q_6, p0r_1, p1r_1⟩ := hp_2
  obtain ⟨g_7, eg_7⟩ : ∃ z : Nat → Int, z = pp_ng B n (pp_pt B n 1) rg := ⟨_, rfl⟩
  rw [← eg_7] at p0r_1
  have lg_7_0 : g_7 0 = (tI M_2 2 4).toInt := p0r_1.2.1.1
  have lg_7_1 : g_7 1 = (tI M_2 2 6).toInt := p0r_1.2.1.2.1
  have lg_7_4 : g_7 4 = (tI M_2 1 4).toInt := p0r_1.2.2.1.1
  have lg_7_7 : g_7 7 = (tI M_2 t 4).toInt := p0r_1.2.2.2.1.1
  have lg_7_8 : g_7 8 = (tI M_2 t 5).toInt := p0r_1.2.2.2.1.2.1
  obtain ⟨d_8, ed_8⟩ : ∃ z : Nat → Int, z = qq_ng B n j (pp_pt B n 1) (qq_pt B n j 1) rg td := ⟨_, rfl⟩
  rw [← ed_8] at p1r_1
  refine lv_iconst (v := 0) hx hb dX4_readBoth_5 (by decide) ?_
  refine lv_istore_n (lv' := [(2, .int 0), (0, .ref (A 1 0)), (1, .int 7)]) hx hb dX4_readBoth_6 rfl hl (by decide) rfl (fun ls hl => ?_)
  have hl_7_24 : ∀ (n_25 : Nat) (x_9 : Int32) (M_12 : ti_M) (g_19 : Nat → Int) (d_21 : Nat → Int) (H : Heap) (locs : List Loc) (ls : Array Slot), (64 - x_9.toInt : Int).toNat < n_25 → (0 ≤ x_9.toInt) → (x_9.toInt ≤ 64) → (cI Tc M_12) → (M_12.2.2.2 = M.2.2.2) → (f0 M_12 M) → (tI M_12 2 1 = tI M 2 1) → (ot t M_12 M) → (tT M_12 1 1 = (some t)) → (tT M_12 1 2 = (some (ti_laws t j))) → (rC B n t g_19 M_12) → (tq t d_21 M_12) → (pp_lp pp_qA (fun s => pp_ng B n (pp_pt B n 1) (pp_kn B n s)) 64 g_7 = pp_lp pp_qA (fun s => pp_ng B n (pp_pt B n 1) (pp_kn B n s)) (64 - (x_9.toInt).toNat) g_19) → (qq_lp pp_qA (fun s => pp_ng B n (pp_pt B n 1) (pp_kn B n s)) (fun s td => qa j (-22) (qq_ng B n j (pp_pt B n 1) (qq_pt B n j 1) (pp_kn B n s) td)) 64 g_7 d_8 = qq_lp pp_qA (fun s => pp_ng B n (pp_pt B n 1) (pp_kn B n s)) (fun s td => qa j (-22) (qq_ng B n j (pp_pt B n 1) (qq_pt B n j 1) (pp_kn B n s) td)) (64 - (x_9.toInt).toNat) g_19 d_21) → ti_H ti_LT D A cy H0 M_12 H locs → lv_has ls 3 [(2, .int x_9), (0, .ref (A 1 0)), (1, .int 7)] → W p l e (ti_rm 20) s m args below meth c H locs 0 0 Q (F0 m 7 ls []) := by
    intro n_25
    induction n_25 with
    | zero => intro x_9 M_12 g_19 d_21 H locs ls hf_25; exact absurd hf_25 (Nat.not_lt_zero _)
    | succ n_25 ih_25 =>
      intro x_9 M_12 g_19 d_21 H locs ls hf_25 b_10 b_11 iM_12 f_13 f_14 f_15 f_16 f_17 f_18 hs_20 tq_22 j_23 j_24 hw hl
      have lg_19_0 : g_19 0 = (tI M_12 2 4).toInt := hs_20.2.1.1
      have lg_19_1 : g_19 1 = (tI M_12 2 6).toInt := hs_20.2.1.2.1
      have lg_19_4 : g_19 4 = (tI M_12 1 4).toInt := hs_20.2.2.1.1
      have lg_19_7 : g_19 7 = (tI M_12 t 4).toInt := hs_20.2.2.2.1.1
      have lg_19_8 : g_19 8 = (tI M_12 t 5).toInt := hs_20.2.2.2.1.2.1
      refine lv_iload_n hx hb dX4_readBoth_7 rfl (lv_at hl 0 rfl) ?_
      refine lv_bipush (v := 64) hx hb dX4_readBoth_8 (by decide) ?_
      refine sb_icmp_ge (tgt := 49) hx hb rfl (by decide : (64 : Int32).toInt = 64) dX4_readBoth_10 (by decide) (fun c_10_25 => ?_) (fun c_10_25 => ?_)
      · exact hQ _ _ _ _ _ hw (⟨iM_12, (f_13), f_14, (f_15), f_16, (by unfold pp_bo; rw [← eg_7, j_23, lp_end (P := pp_qA) (f := 64 - x_9.toInt.toNat) (s := g_19) (Or.inl (by omega))]; exact hs_20), (by unfold qq_bo; rw [← eg_7, ← ed_8, j_24, qlp_end (P := pp_qA) (f := 64 - x_9.toInt.toNat) (s := g_19) (Or.inl (by omega))]; exact tq_22)⟩) dX4_readBoth_49
      · refine lv_aload_n hx hb dX4_readBoth_13 rfl (lv_at hl 1 rfl) ?_
        refine ti_get (ci := 4) (k := 0) (N := 6) (T := TX4) (v := .ref (A 2 0)) C hw iw_4 rfl ob_1 (by decide) (by decide) fl_X4_12 rfl rfl dX4_readBoth_14 ?_
        refine ti_get (ci := 7) (k := 4) (N := 7) (T := TX7) C hw iw_7 rfl ob_2 (by decide) (by decide) fl_X4_41 rfl rfl dX4_readBoth_17 ?_
        refine lv_topi (fun x_27 ex_27 => ?_)
        have bx_27 : 0 ≤ x_27.toInt ∧ x_27.toInt ≤ 41 := cI_rd iM_12 ob_2.1 ex_27
        have ux_27 : (tI M_12 2 4).toInt = x_27.toInt := by rw [ex_27]
        refine lv_bipush (v := 22) hx hb dX4_readBoth_20 (by decide) ?_
        refine sb_icmp_ne (tgt := 49) hx hb rfl (by decide : (22 : Int32).toInt = 22) dX4_readBoth_22 (by decide) (fun c_22_27 => ?_) (fun c_22_27 => ?_)
        · exact hQ _ _ _ _ _ hw (⟨iM_12, (f_13), f_14, (f_15), f_16, (by unfold pp_bo; rw [← eg_7, j_23, lp_end (P := pp_qA) (f := 64 - x_9.toInt.toNat) (s := g_19) (Or.inr (decide_eq_false (by omega)))]; exact hs_20), (by unfold qq_bo; rw [← eg_7, ← ed_8, j_24, qlp_end (P := pp_qA) (f := 64 - x_9.toInt.toNat) (s := g_19) (Or.inr (decide_eq_false (by omega)))]; exact tq_22)⟩) dX4_readBoth_49
        · refine lv_aload_n hx hb dX4_readBoth_25 rfl (lv_at hl 1 rfl) ?_
          refine ti_callVvE (ci := 4) (av := []) C hE hw (x_X4_knot l D A cy hJ M_12 iM_12 t ht (f_17) B n g_19 hs_20 d_21 tq_22) ⟨ml_X4_167, ym_X4_knot, yv_X4_knot, yi_X4_knot, yc_X4_knot⟩ yd_X4_knot ob_1 (by decide) rfl rfl hl.1 (Nat.le_of_ble_eq_true rfl) ⟨by decide, by decide⟩ ⟨Nat.zero_le _, Nat.zero_le _⟩ dX4_readBoth_26 (fun M_30 H locs hp_30 hw => ?_)
          obtain ⟨iM_30, q_31, q_32, q_33, q_34, q_35, p0r_29, p1r_29⟩ := hp_30
          obtain ⟨g_36, eg_36⟩ : ∃ z : Nat → Int, z = pp_kn B n g_19 := ⟨_, rfl⟩
          rw [← eg_36] at p0r_29
          have lg_36_0 : g_36 0 = (tI M_30 2 4).toInt := p0r_29.2.1.1
          have lg_36_1 : g_36 1 = (tI M_30 2 6).toInt := p0r_29.2.1.2.1
          have lg_36_4 : g_36 4 = (tI M_30 1 4).toInt := p0r_29.2.2.1.1
          have lg_36_7 : g_36 7 = (tI M_30 t 4).toInt := p0r_29.2.2.2.1.1
          have lg_36_8 : g_36 8 = (tI M_30 t 5).toInt := p0r_29.2.2.2.1.2.1
          refine lv_aload_n hx hb dX4_readBoth_29 rfl (lv_at hl 1 rfl) ?_
          refine lv_iload_n hx hb dX4_readBoth_30 rfl (lv_at hl 2 rfl) ?_
          refine ti_callVvE (ci := 4) (av := [.int 7]) C hE hw (x_X4_readNegated_7 l D A cy hJ M_30 iM_30 t ht ((tT_fr q_31).trans f_17) j hj ((tT_fr q_31).trans f_18) B n g_36 p0r_29 d_21 p1r_29) ⟨ml_X4_175, ym_X4_readNegated, yv_X4_readNegated, yi_X4_readNegated, yc_X4_readNegated⟩ yd_X4_readNegated ob_1 (by decide) rfl rfl hl.1 (Nat.le_of_ble_eq_true rfl) ⟨by decide, by decide⟩ ⟨Nat.zero_le _, Nat.zero_le _⟩ dX4_readBoth_31 (fun M_38 H locs hp_38 hw => ?_)
          obtain ⟨iM_38, q_39, q_40, q_41, q_42, p0r_37, p1r_37⟩ := hp_38
          obtain ⟨g_43, eg_43⟩ : ∃ z : Nat → Int, z = pp_ng B n (pp_pt B n 1) g_36 := ⟨_, rfl⟩
          rw [← eg_43] at p0r_37
          have lg_43_0 : g_43 0 = (tI M_38 2 4).toInt := p0r_37.2.1.1
          have lg_43_1 : g_43 1 = (tI M_38 2 6).toInt := p0r_37.2.1.2.1
          have lg_43_4 : g_43 4 = (tI M_38 1 4).toInt := p0r_37.2.2.1.1
          have lg_43_7 : g_43 7 = (tI M_38 t 4).toInt := p0r_37.2.2.2.1.1
          have lg_43_8 : g_43 8 = (tI M_38 t 5).toInt := p0r_37.2.2.2.1.2.1
          obtain ⟨d_44, ed_44⟩ : ∃ z : Nat → Int, z = qq_ng B n j (pp_pt B n 1) (qq_pt B n j 1) g_36 d_21 := ⟨_, rfl⟩
          rw [← ed_44] at p1r_37
          refine lv_aload_n hx hb dX4_readBoth_34 rfl (lv_at hl 1 rfl) ?_
          refine ti_get (ci := 4) (k := 2) (N := 6) (T := TX4) (v := .ref (A (ti_laws t j) 0)) C hw iw_4 rfl ob_1 (by decide) (by decide) fl_X4_154 rfl (ti_Tv ((tT_fr q_39).trans ((tT_fr q_31).trans f_18))) dX4_readBoth_35 ?_
          refine lv_bipush (v := (-22)) hx hb dX4_readBoth_38 (by decide) ?_
          refine ti_callVv (ci := 1) (av := [.int (-22)]) C hw (x_X1_add l D A cy hJ M_38 iM_38 t ht j hj (-22) (by first | omega | exact Or.inl (by decide) | exact Or.inr (by decide)) B n g_43 p0r_37 d_44 p1r_37) ⟨ml_X4_170, ym_X1_add, yv_X1_add, yi_X1_add, yc_X1_add⟩ yd_X1_add (ob_l ht hj) (by decide) rfl rfl hl.1 (Nat.le_of_ble_eq_true rfl) ⟨by decide, by decide⟩ ⟨Nat.zero_le _, Nat.zero_le _⟩ dX4_readBoth_40 (fun M_46 H locs hp_46 hw => ?_)
          obtain ⟨iM_46, q_47, q_48, q_49, p0r_45, p1r_45⟩ := hp_46
          have lM_46_0 : g_43 0 = (tI M_46 2 4).toInt := p0r_45.2.1.1
          have lM_46_1 : g_43 1 = (tI M_46 2 6).toInt := p0r_45.2.1.2.1
          have lM_46_4 : g_43 4 = (tI M_46 1 4).toInt := p0r_45.2.2.1.1
          have lM_46_7 : g_43 7 = (tI M_46 t 4).toInt := p0r_45.2.2.2.1.1
          have lM_46_8 : g_43 8 = (tI M_46 t 5).toInt := p0r_45.2.2.2.1.2.1
          simp only [show ((-22) : Int32).toInt = (-22) by decide] at p1r_45
          obtain ⟨d_50, ed_50⟩ : ∃ z : Nat → Int, z = qa j (-22) d_44 := ⟨_, rfl⟩
          rw [← ed_50] at p1r_45
          obtain ⟨x_51, ex_51⟩ : ∃ z : Int32, z = x_9 + 1 := ⟨_, rfl⟩
          have tx_51 : x_51.toInt = x_9.toInt + 1 := i_add ex_51 rfl (by decide) (by omega) (by omega)
          refine lv_iinc (v := x_51) (lv' := [(2, .int x_51), (0, .ref (A 1 0)), (1, .int 7)]) hx hb dX4_readBoth_43 hl (k := 0) rfl (by rw [ex_51]; rfl) (by decide) rfl (fun ls hl => ?_)
          refine lv_goto (tgt := 7) hx hb dX4_readBoth_46 (by decide) ?_
          exact ih_25 x_51 M_46 g_43 d_50 _ _ _ (by omega) (by first | omega | decide) (by first | omega | decide) iM_46 ((q_47).trans ((q_39).trans ((q_31).trans f_13))) (f0.trans (f0_x q_48) (f0.trans q_40 (f0.trans q_32 f_14))) (((q_48 1).2.1).trans ((q_41).trans ((q_33).trans f_15))) (ot.trans q_49 (ot.trans q_42 (ot.trans q_34 f_16))) ((tT_fr q_47).trans ((tT_fr q_39).trans ((tT_fr q_31).trans f_17))) ((tT_fr q_47).trans ((tT_fr q_39).trans ((tT_fr q_31).trans f_18))) p0r_45 p1r_45 (j_23.trans (lp_step (decide_eq_true (by omega)) (by rw [eg_43, eg_36]) (by omega))) (j_24.trans (qlp_step (decide_eq_true (by omega)) (by rw [eg_43, eg_36]) (by rw [ed_50, ed_44, eg_36]) (by omega))) hw (lv_sub hl [0, 1, 2] rfl)
  exact hl_7_24 ((64 - 0 : Int).toNat + 1) 0 M_2 g_7 d_8 _ _ _ (Nat.lt_succ_self _) (by have lt0 : (0 : Int32).toInt = 0 := (by decide); first | omega | decide) (by have lt0 : (0 : Int32).toInt = 0 := (by decide); first | omega | decide) iM_2 (q_3) q_4 (q_5) q_6 ((tT_fr q_3).trans hT) ((tT_fr q_3).trans hL) p0r_1 p1r_1 rfl rfl hw (lv_sub hl [0, 1, 2] rfl)
set_option maxHeartbeats 4000000 in
set_option maxRecDepth 100000 in
theorem x_X4_readEither_7 (l : Launch) (D : va_G) (A : Nat → Nat → Nat) (cy : Nat → ClassId) (hJ : ti_inj ti_LT A) (M : ti_M) (hI : cI Tc M) (t : Nat) (ht : t = 3 ∨ t = 4) (hT : tT M 1 1 = some t) (j : Nat) (hj : j < 3) (hL : tT M 1 2 = some (ti_laws t j)) (B : Nat → Int) (n : Nat) (rg : Nat → Int) (hr : rC B n t rg M) (td : Nat → Int) (hq : tq t td M) : ti_KvE l yX4_readEither cX4_readEither 3 21 ti_LT D A cy M [.ref (A 1 0), .int 7] (fun M2 => cI Tc M2 ∧ M2.2.2.2 = M.2.2.2 ∧ f0 M2 M ∧ tI M2 2 1 = tI M 2 1 ∧ ot t M2 M ∧ rC B n t (pp_ei B n (pp_pt B n 1) rg) M2 ∧ tq t (qq_ei B n j (pp_pt B n 1) (qq_pt B n j 1) rg td) M2) := by
  refine ti_eVE yp_X4_readEither hJ ti_LT_nd (Nat.le_of_ble_eq_true rfl) ?_
  intro p e s m args below meth c Q H0 C hE hQ hw ls hl
  have hx := C.1
  have hb := C.2.1
  have hl : lv_has ls 3 [(0, .ref (A 1 0)), (1, .int 7)] := hl
  have l0 : rg 0 = (tI M 2 4).toInt := hr.2.1.1
  have l1 : rg 1 = (tI M 2 6).toInt := hr.2.1.2.1
  have l2 : rg 2 = (tI M 2 5).toInt := hr.2.1.2.2.1
  have l3 : rg 3 = (tI M 2 3).toInt := hr.2.1.2.2.2
  have l4 : rg 4 = (tI M 1 4).toInt := hr.2.2.1.1
  have l5 : rg 5 = (tI M 1 5).toInt := hr.2.2.1.2.1
  have l7 : rg 7 = (tI M t 4).toInt := hr.2.2.2.1.1
  have l8 : rg 8 = (tI M t 5).toInt := hr.2.2.2.1.2.1
  have l9 : rg 9 = (tI M t 3).toInt := hr.2.2.2.1.2.2
  refine lv_aload_n hx hb dX4_readEither_0 rfl (lv_at hl 0 rfl) ?_
  refine lv_iload_n hx hb dX4_readEither_1 rfl (lv_at hl 1 rfl) ?_
  refine ti_callVvE (ci := 4) (av := [.int 7]) C hE hw (x_X4_readBoth_7 l D A cy hJ M hI t ht (hT) j hj (hL) B n rg hr td hq) ⟨ml_X4_164, ym_X4_readBoth, yv_X4_readBoth, yi_X4_readBoth, yc_X4_readBoth⟩ yd_X4_readBoth ob_1 (by decide) rfl rfl hl.1 (Nat.le_of_ble_eq_true rfl) ⟨by decide, by decide⟩ ⟨Nat.zero_le _, Nat.zero_le _⟩ dX4_readEither_2 (fun M_2 H locs hp_2 hw => ?_)
  obtain ⟨iM_2, q_3, q_4, q_5, q_6, p0r_1, p1r_1⟩ := hp_2
  obtain ⟨g_7, eg_7⟩ : ∃ z : Nat → Int, z = pp_bo B n (pp_pt B n 1) rg := ⟨_, rfl⟩
  rw [← eg_7] at p0r_1
  have lg_7_0 : g_7 0 = (tI M_2 2 4).toInt := p0r_1.2.1.1
  have lg_7_1 : g_7 1 = (tI M_2 2 6).toInt := p0r_1.2.1.2.1
  have lg_7_4 : g_7 4 = (tI M_2 1 4).toInt := p0r_1.2.2.1.1
  have lg_7_7 : g_7 7 = (tI M_2 t 4).toInt := p0r_1.2.2.2.1.1
  have lg_7_8 : g_7 8 = (tI M_2 t 5).toInt := p0r_1.2.2.2.1.2.1
  obtain ⟨d_8, ed_8⟩ : ∃ z : Nat → Int, z = qq_bo B n j (pp_pt B n 1) (qq_pt B n j 1) rg td := ⟨_, rfl⟩
  rw [← ed_8] at p1r_1
  refine lv_iconst (v := 0) hx hb dX4_readEither_5 (by decide) ?_
  refine lv_istore_n (lv' := [(2, .int 0), (0, .ref (A 1 0)), (1, .int 7)]) hx hb dX4_readEither_6 rfl hl (by decide) rfl (fun ls hl => ?_)
  have hl_7_24 : ∀ (n_25 : Nat) (x_9 : Int32) (M_12 : ti_M) (g_19 : Nat → Int) (d_21 : Nat → Int) (H : Heap) (locs : List Loc) (ls : Array Slot), (64 - x_9.toInt : Int).toNat < n_25 → (0 ≤ x_9.toInt) → (x_9.toInt ≤ 64) → (cI Tc M_12) → (M_12.2.2.2 = M.2.2.2) → (f0 M_12 M) → (tI M_12 2 1 = tI M 2 1) → (ot t M_12 M) → (tT M_12 1 1 = (some t)) → (tT M_12 1 2 = (some (ti_laws t j))) → (rC B n t g_19 M_12) → (tq t d_21 M_12) → (pp_lp pp_qO (fun s => pp_bo B n (pp_pt B n 1) (pp_kn B n s)) 64 g_7 = pp_lp pp_qO (fun s => pp_bo B n (pp_pt B n 1) (pp_kn B n s)) (64 - (x_9.toInt).toNat) g_19) → (qq_lp pp_qO (fun s => pp_bo B n (pp_pt B n 1) (pp_kn B n s)) (fun s td => qa j (-23) (qq_bo B n j (pp_pt B n 1) (qq_pt B n j 1) (pp_kn B n s) td)) 64 g_7 d_8 = qq_lp pp_qO (fun s => pp_bo B n (pp_pt B n 1) (pp_kn B n s)) (fun s td => qa j (-23) (qq_bo B n j (pp_pt B n 1) (qq_pt B n j 1) (pp_kn B n s) td)) (64 - (x_9.toInt).toNat) g_19 d_21) → ti_H ti_LT D A cy H0 M_12 H locs → lv_has ls 3 [(2, .int x_9), (0, .ref (A 1 0)), (1, .int 7)] → W p l e (ti_rm 21) s m args below meth c H locs 0 0 Q (F0 m 7 ls []) := by
    intro n_25
    induction n_25 with
    | zero => intro x_9 M_12 g_19 d_21 H locs ls hf_25; exact absurd hf_25 (Nat.not_lt_zero _)
    | succ n_25 ih_25 =>
      intro x_9 M_12 g_19 d_21 H locs ls hf_25 b_10 b_11 iM_12 f_13 f_14 f_15 f_16 f_17 f_18 hs_20 tq_22 j_23 j_24 hw hl
      have lg_19_0 : g_19 0 = (tI M_12 2 4).toInt := hs_20.2.1.1
      have lg_19_1 : g_19 1 = (tI M_12 2 6).toInt := hs_20.2.1.2.1
      have lg_19_4 : g_19 4 = (tI M_12 1 4).toInt := hs_20.2.2.1.1
      have lg_19_7 : g_19 7 = (tI M_12 t 4).toInt := hs_20.2.2.2.1.1
      have lg_19_8 : g_19 8 = (tI M_12 t 5).toInt := hs_20.2.2.2.1.2.1
      refine lv_iload_n hx hb dX4_readEither_7 rfl (lv_at hl 0 rfl) ?_
      refine lv_bipush (v := 64) hx hb dX4_readEither_8 (by decide) ?_
      refine sb_icmp_ge (tgt := 49) hx hb rfl (by decide : (64 : Int32).toInt = 64) dX4_readEither_10 (by decide) (fun c_10_25 => ?_) (fun c_10_25 => ?_)
      · exact hQ _ _ _ _ _ hw (⟨iM_12, (f_13), f_14, (f_15), f_16, (by unfold pp_ei; rw [← eg_7, j_23, lp_end (P := pp_qO) (f := 64 - x_9.toInt.toNat) (s := g_19) (Or.inl (by omega))]; exact hs_20), (by unfold qq_ei; rw [← eg_7, ← ed_8, j_24, qlp_end (P := pp_qO) (f := 64 - x_9.toInt.toNat) (s := g_19) (Or.inl (by omega))]; exact tq_22)⟩) dX4_readEither_49
      · refine lv_aload_n hx hb dX4_readEither_13 rfl (lv_at hl 1 rfl) ?_
        refine ti_get (ci := 4) (k := 0) (N := 6) (T := TX4) (v := .ref (A 2 0)) C hw iw_4 rfl ob_1 (by decide) (by decide) fl_X4_12 rfl rfl dX4_readEither_14 ?_
        refine ti_get (ci := 7) (k := 4) (N := 7) (T := TX7) C hw iw_7 rfl ob_2 (by decide) (by decide) fl_X4_41 rfl rfl dX4_readEither_17 ?_
        refine lv_topi (fun x_27 ex_27 => ?_)
        have bx_27 : 0 ≤ x_27.toInt ∧ x_27.toInt ≤ 41 := cI_rd iM_12 ob_2.1 ex_27
        have ux_27 : (tI M_12 2 4).toInt = x_27.toInt := by rw [ex_27]
        refine lv_bipush (v := 23) hx hb dX4_readEither_20 (by decide) ?_
        refine sb_icmp_ne (tgt := 49) hx hb rfl (by decide : (23 : Int32).toInt = 23) dX4_readEither_22 (by decide) (fun c_22_27 => ?_) (fun c_22_27 => ?_)
        · exact hQ _ _ _ _ _ hw (⟨iM_12, (f_13), f_14, (f_15), f_16, (by unfold pp_ei; rw [← eg_7, j_23, lp_end (P := pp_qO) (f := 64 - x_9.toInt.toNat) (s := g_19) (Or.inr (decide_eq_false (by omega)))]; exact hs_20), (by unfold qq_ei; rw [← eg_7, ← ed_8, j_24, qlp_end (P := pp_qO) (f := 64 - x_9.toInt.toNat) (s := g_19) (Or.inr (decide_eq_false (by omega)))]; exact tq_22)⟩) dX4_readEither_49
        · refine lv_aload_n hx hb dX4_readEither_25 rfl (lv_at hl 1 rfl) ?_
          refine ti_callVvE (ci := 4) (av := []) C hE hw (x_X4_knot l D A cy hJ M_12 iM_12 t ht (f_17) B n g_19 hs_20 d_21 tq_22) ⟨ml_X4_167, ym_X4_knot, yv_X4_knot, yi_X4_knot, yc_X4_knot⟩ yd_X4_knot ob_1 (by decide) rfl rfl hl.1 (Nat.le_of_ble_eq_true rfl) ⟨by decide, by decide⟩ ⟨Nat.zero_le _, Nat.zero_le _⟩ dX4_readEither_26 (fun M_30 H locs hp_30 hw => ?_)
          obtain ⟨iM_30, q_31, q_32, q_33, q_34, q_35, p0r_29, p1r_29⟩ := hp_30
          obtain ⟨g_36, eg_36⟩ : ∃ z : Nat → Int, z = pp_kn B n g_19 := ⟨_, rfl⟩
          rw [← eg_36] at p0r_29
          have lg_36_0 : g_36 0 = (tI M_30 2 4).toInt := p0r_29.2.1.1
          have lg_36_1 : g_36 1 = (tI M_30 2 6).toInt := p0r_29.2.1.2.1
          have lg_36_4 : g_36 4 = (tI M_30 1 4).toInt := p0r_29.2.2.1.1
          have lg_36_7 : g_36 7 = (tI M_30 t 4).toInt := p0r_29.2.2.2.1.1
          have lg_36_8 : g_36 8 = (tI M_30 t 5).toInt := p0r_29.2.2.2.1.2.1
          refine lv_aload_n hx hb dX4_readEither_29 rfl (lv_at hl 1 rfl) ?_
          refine lv_iload_n hx hb dX4_readEither_30 rfl (lv_at hl 2 rfl) ?_
          refine ti_callVvE (ci := 4) (av := [.int 7]) C hE hw (x_X4_readBoth_7 l D A cy hJ M_30 iM_30 t ht ((tT_fr q_31).trans f_17) j hj ((tT_fr q_31).trans f_18) B n g_36 p0r_29 d_21 p1r_29) ⟨ml_X4_164, ym_X4_readBoth, yv_X4_readBoth, yi_X4_readBoth, yc_X4_readBoth⟩ yd_X4_readBoth ob_1 (by decide) rfl rfl hl.1 (Nat.le_of_ble_eq_true rfl) ⟨by decide, by decide⟩ ⟨Nat.zero_le _, Nat.zero_le _⟩ dX4_readEither_31 (fun M_38 H locs hp_38 hw => ?_)
          obtain ⟨iM_38, q_39, q_40, q_41, q_42, p0r_37, p1r_37⟩ := hp_38
          obtain ⟨g_43, eg_43⟩ : ∃ z : Nat → Int, z = pp_bo B n (pp_pt B n 1) g_36 := ⟨_, rfl⟩
          rw [← eg_43] at p0r_37
          have lg_43_0 : g_43 0 = (tI M_38 2 4).toInt := p0r_37.2.1.1
          have lg_43_1 : g_43 1 = (tI M_38 2 6).toInt := p0r_37.2.1.2.1
          have lg_43_4 : g_43 4 = (tI M_38 1 4).toInt := p0r_37.2.2.1.1
          have lg_43_7 : g_43 7 = (tI M_38 t 4).toInt := p0r_37.2.2.2.1.1
          have lg_43_8 : g_43 8 = (tI M_38 t 5).toInt := p0r_37.2.2.2.1.2.1
          obtain ⟨d_44, ed_44⟩ : ∃ z : Nat → Int, z = qq_bo B n j (pp_pt B n 1) (qq_pt B n j 1) g_36 d_21 := ⟨_, rfl⟩
          rw [← ed_44] at p1r_37
          refine lv_aload_n hx hb dX4_readEither_34 rfl (lv_at hl 1 rfl) ?_
          refine ti_get (ci := 4) (k := 2) (N := 6) (T := TX4) (v := .ref (A (ti_laws t j) 0)) C hw iw_4 rfl ob_1 (by decide) (by decide) fl_X4_154 rfl (ti_Tv ((tT_fr q_39).trans ((tT_fr q_31).trans f_18))) dX4_readEither_35 ?_
          refine lv_bipush (v := (-23)) hx hb dX4_readEither_38 (by decide) ?_
          refine ti_callVv (ci := 1) (av := [.int (-23)]) C hw (x_X1_add l D A cy hJ M_38 iM_38 t ht j hj (-23) (by first | omega | exact Or.inl (by decide) | exact Or.inr (by decide)) B n g_43 p0r_37 d_44 p1r_37) ⟨ml_X4_170, ym_X1_add, yv_X1_add, yi_X1_add, yc_X1_add⟩ yd_X1_add (ob_l ht hj) (by decide) rfl rfl hl.1 (Nat.le_of_ble_eq_true rfl) ⟨by decide, by decide⟩ ⟨Nat.zero_le _, Nat.zero_le _⟩ dX4_readEither_40 (fun M_46 H locs hp_46 hw => ?_)
          obtain ⟨iM_46, q_47, q_48, q_49, p0r_45, p1r_45⟩ := hp_46
          have lM_46_0 : g_43 0 = (tI M_46 2 4).toInt := p0r_45.2.1.1
          have lM_46_1 : g_43 1 = (tI M_46 2 6).toInt := p0r_45.2.1.2.1
          have lM_46_4 : g_43 4 = (tI M_46 1 4).toInt := p0r_45.2.2.1.1
          have lM_46_7 : g_43 7 = (tI M_46 t 4).toInt := p0r_45.2.2.2.1.1
          have lM_46_8 : g_43 8 = (tI M_46 t 5).toInt := p0r_45.2.2.2.1.2.1
          simp only [show ((-23) : Int32).toInt = (-23) by decide] at p1r_45
          obtain ⟨d_50, ed_50⟩ : ∃ z : Nat → Int, z = qa j (-23) d_44 := ⟨_, rfl⟩
          rw [← ed_50] at p1r_45
          obtain ⟨x_51, ex_51⟩ : ∃ z : Int32, z = x_9 + 1 := ⟨_, rfl⟩
          have tx_51 : x_51.toInt = x_9.toInt + 1 := i_add ex_51 rfl (by decide) (by omega) (by omega)
          refine lv_iinc (v := x_51) (lv' := [(2, .int x_51), (0, .ref (A 1 0)), (1, .int 7)]) hx hb dX4_readEither_43 hl (k := 0) rfl (by rw [ex_51]; rfl) (by decide) rfl (fun ls hl => ?_)
          refine lv_goto (tgt := 7) hx hb dX4_readEither_46 (by decide) ?_
          exact ih_25 x_51 M_46 g_43 d_50 _ _ _ (by omega) (by first | omega | decide) (by first | omega | decide) iM_46 ((q_47).trans ((q_39).trans ((q_31).trans f_13))) (f0.trans (f0_x q_48) (f0.trans q_40 (f0.trans q_32 f_14))) (((q_48 1).2.1).trans ((q_41).trans ((q_33).trans f_15))) (ot.trans q_49 (ot.trans q_42 (ot.trans q_34 f_16))) ((tT_fr q_47).trans ((tT_fr q_39).trans ((tT_fr q_31).trans f_17))) ((tT_fr q_47).trans ((tT_fr q_39).trans ((tT_fr q_31).trans f_18))) p0r_45 p1r_45 (j_23.trans (lp_step (decide_eq_true (by omega)) (by rw [eg_43, eg_36]) (by omega))) (j_24.trans (qlp_step (decide_eq_true (by omega)) (by rw [eg_43, eg_36]) (by rw [ed_50, ed_44, eg_36]) (by omega))) hw (lv_sub hl [0, 1, 2] rfl)
  exact hl_7_24 ((64 - 0 : Int).toNat + 1) 0 M_2 g_7 d_8 _ _ _ (Nat.lt_succ_self _) (by have lt0 : (0 : Int32).toInt = 0 := (by decide); first | omega | decide) (by have lt0 : (0 : Int32).toInt = 0 := (by decide); first | omega | decide) iM_2 (q_3) q_4 (q_5) q_6 ((tT_fr q_3).trans hT) ((tT_fr q_3).trans hL) p0r_1 p1r_1 rfl rfl hw (lv_sub hl [0, 1, 2] rfl)
set_option maxHeartbeats 4000000 in
set_option maxRecDepth 100000 in
theorem x_X4_readPart_6 (l : Launch) (D : va_G) (A : Nat → Nat → Nat) (cy : Nat → ClassId) (hJ : ti_inj ti_LT A) (M : ti_M) (hI : cI Tc M) (t : Nat) (ht : t = 3 ∨ t = 4) (hT : tT M 1 1 = some t) (j : Nat) (hj : j < 3) (hL : tT M 1 2 = some (ti_laws t j)) (B : Nat → Int) (n : Nat) (rg : Nat → Int) (hr : rC B n t rg M) (td : Nat → Int) (hq : tq t td M) : ti_KvE l yX4_readPart cX4_readPart 3 22 ti_LT D A cy M [.ref (A 1 0), .int 6] (fun M2 => cI Tc M2 ∧ M2.2.2.2 = M.2.2.2 ∧ f0 M2 M ∧ tI M2 2 1 = tI M 2 1 ∧ ot t M2 M ∧ rC B n t (pp_pt B n 2 rg) M2 ∧ tq t (qq_pt B n j 2 rg td) M2) := by
  refine ti_eVE yp_X4_readPart hJ ti_LT_nd (Nat.le_of_ble_eq_true rfl) ?_
  intro p e s m args below meth c Q H0 C hE hQ hw ls hl
  have hx := C.1
  have hb := C.2.1
  have hl : lv_has ls 3 [(0, .ref (A 1 0)), (1, .int 6)] := hl
  have l0 : rg 0 = (tI M 2 4).toInt := hr.2.1.1
  have l1 : rg 1 = (tI M 2 6).toInt := hr.2.1.2.1
  have l2 : rg 2 = (tI M 2 5).toInt := hr.2.1.2.2.1
  have l3 : rg 3 = (tI M 2 3).toInt := hr.2.1.2.2.2
  have l4 : rg 4 = (tI M 1 4).toInt := hr.2.2.1.1
  have l5 : rg 5 = (tI M 1 5).toInt := hr.2.2.1.2.1
  have l7 : rg 7 = (tI M t 4).toInt := hr.2.2.2.1.1
  have l8 : rg 8 = (tI M t 5).toInt := hr.2.2.2.1.2.1
  have l9 : rg 9 = (tI M t 3).toInt := hr.2.2.2.1.2.2
  refine lv_aload_n hx hb dX4_readPart_0 rfl (lv_at hl 0 rfl) ?_
  refine ti_get (ci := 4) (k := 0) (N := 6) (T := TX4) (v := .ref (A 2 0)) C hw iw_4 rfl ob_1 (by decide) (by decide) fl_X4_12 rfl rfl dX4_readPart_1 ?_
  refine ti_get (ci := 7) (k := 4) (N := 7) (T := TX7) C hw iw_7 rfl ob_2 (by decide) (by decide) fl_X4_41 rfl rfl dX4_readPart_4 ?_
  refine lv_topi (fun x_1 ex_1 => ?_)
  have bx_1 : 0 ≤ x_1.toInt ∧ x_1.toInt ≤ 41 := cI_rd hI ob_2.1 ex_1
  have ux_1 : (tI M 2 4).toInt = x_1.toInt := by rw [ex_1]
  refine lv_istore_n (lv' := [(2, .int x_1), (0, .ref (A 1 0)), (1, .int 6)]) hx hb dX4_readPart_7 rfl hl (by decide) rfl (fun ls hl => ?_)
  refine lv_iload_n hx hb dX4_readPart_8 rfl (lv_at hl 0 rfl) ?_
  refine lv_bipush (v := 30) hx hb dX4_readPart_9 (by decide) ?_
  refine sb_icmp_ne (tgt := 28) hx hb rfl (by decide : (30 : Int32).toInt = 30) dX4_readPart_11 (by decide) (fun c_11_1 => ?_) (fun c_11_1 => ?_)
  · refine lv_iload_n hx hb dX4_readPart_28 rfl (lv_at hl 0 rfl) ?_
    refine lv_bipush (v := 30) hx hb dX4_readPart_29 (by decide) ?_
    refine sb_icmp_ne (tgt := 57) hx hb rfl (by decide : (30 : Int32).toInt = 30) dX4_readPart_31 (by decide) (fun c_31_3 => ?_) (fun h => by omega)
    refine lv_iload_n hx hb dX4_readPart_57 rfl (lv_at hl 0 rfl) ?_
    refine lv_bipush (v := 26) hx hb dX4_readPart_58 (by decide) ?_
    refine sb_icmp_ne (tgt := 84) hx hb rfl (by decide : (26 : Int32).toInt = 26) dX4_readPart_60 (by decide) (fun c_60_30 => ?_) (fun c_60_30 => ?_)
    · refine lv_iload_n hx hb dX4_readPart_84 rfl (lv_at hl 0 rfl) ?_
      refine lv_bipush (v := 26) hx hb dX4_readPart_85 (by decide) ?_
      refine sb_icmp_ne (tgt := 111) hx hb rfl (by decide : (26 : Int32).toInt = 26) dX4_readPart_87 (by decide) (fun c_87_41 => ?_) (fun h => by omega)
      refine lv_iload_n hx hb dX4_readPart_111 rfl (lv_at hl 0 rfl) ?_
      refine lv_bipush (v := 16) hx hb dX4_readPart_112 (by decide) ?_
      refine sb_icmp_lt (tgt := 139) hx hb rfl (by decide : (16 : Int32).toInt = 16) dX4_readPart_114 (by decide) (fun c_114_58 => ?_) (fun c_114_58 => ?_)
      · refine lv_aload_n hx hb dX4_readPart_139 rfl (lv_at hl 1 rfl) ?_
        refine lv_iconst (v := 1) hx hb dX4_readPart_140 (by decide) ?_
        refine ti_callVv (ci := 4) (av := [.int 1]) C hw (x_X4_refuse l D A cy hJ M hI t ht 1 B n rg hr) ⟨ml_X4_82, ym_X4_refuse, yv_X4_refuse, yi_X4_refuse, yc_X4_refuse⟩ yd_X4_refuse ob_1 (by decide) rfl rfl hl.1 (Nat.le_of_ble_eq_true rfl) ⟨by decide, by decide⟩ ⟨Nat.zero_le _, Nat.zero_le _⟩ dX4_readPart_141 (fun M_77 H locs hp_77 hw => ?_)
        obtain ⟨iM_77, q_78, q_79, q_80, q_81, p0r_76⟩ := hp_77
        have hlr_76_1 : (1 : Int32).toInt = 1 := by decide
        simp only [hlr_76_1] at p0r_76
        obtain ⟨g_82, eg_82⟩ : ∃ z : Nat → Int, z = pp_rf 1 rg := ⟨_, rfl⟩
        rw [← eg_82] at p0r_76
        have lg_82_0 : g_82 0 = (tI M_77 2 4).toInt := p0r_76.2.1.1
        have lg_82_1 : g_82 1 = (tI M_77 2 6).toInt := p0r_76.2.1.2.1
        have lg_82_4 : g_82 4 = (tI M_77 1 4).toInt := p0r_76.2.2.1.1
        have lg_82_7 : g_82 7 = (tI M_77 t 4).toInt := p0r_76.2.2.2.1.1
        have lg_82_8 : g_82 8 = (tI M_77 t 5).toInt := p0r_76.2.2.2.1.2.1
        have tq_83 : tq t td M_77 := tq_fr ht hq q_79 q_81
        exact hQ _ _ _ _ _ hw (⟨iM_77, (q_78), (f0_12 q_79), (q_80), (ot_12 ht q_79 q_81), (by rw [pe_2, if_neg (by omega)]; unfold pp_p0; rw [if_neg (by omega), if_neg (fun q => by omega), ← eg_82]; exact p0r_76), (by rw [qe_2, if_neg (by omega)]; unfold qq_p0; rw [if_neg (by omega), if_neg (fun q => by omega)]; exact tq_83)⟩) dX4_readPart_144
      · refine lv_iload_n hx hb dX4_readPart_117 rfl (lv_at hl 0 rfl) ?_
        refine lv_bipush (v := 21) hx hb dX4_readPart_118 (by decide) ?_
        refine sb_icmp_gt (tgt := 139) hx hb rfl (by decide : (21 : Int32).toInt = 21) dX4_readPart_120 (by decide) (fun c_120_59 => ?_) (fun c_120_59 => ?_)
        · refine lv_aload_n hx hb dX4_readPart_139 rfl (lv_at hl 1 rfl) ?_
          refine lv_iconst (v := 1) hx hb dX4_readPart_140 (by decide) ?_
          refine ti_callVv (ci := 4) (av := [.int 1]) C hw (x_X4_refuse l D A cy hJ M hI t ht 1 B n rg hr) ⟨ml_X4_82, ym_X4_refuse, yv_X4_refuse, yi_X4_refuse, yc_X4_refuse⟩ yd_X4_refuse ob_1 (by decide) rfl rfl hl.1 (Nat.le_of_ble_eq_true rfl) ⟨by decide, by decide⟩ ⟨Nat.zero_le _, Nat.zero_le _⟩ dX4_readPart_141 (fun M_85 H locs hp_85 hw => ?_)
          obtain ⟨iM_85, q_86, q_87, q_88, q_89, p0r_84⟩ := hp_85
          have hlr_84_1 : (1 : Int32).toInt = 1 := by decide
          simp only [hlr_84_1] at p0r_84
          obtain ⟨g_90, eg_90⟩ : ∃ z : Nat → Int, z = pp_rf 1 rg := ⟨_, rfl⟩
          rw [← eg_90] at p0r_84
          have lg_90_0 : g_90 0 = (tI M_85 2 4).toInt := p0r_84.2.1.1
          have lg_90_1 : g_90 1 = (tI M_85 2 6).toInt := p0r_84.2.1.2.1
          have lg_90_4 : g_90 4 = (tI M_85 1 4).toInt := p0r_84.2.2.1.1
          have lg_90_7 : g_90 7 = (tI M_85 t 4).toInt := p0r_84.2.2.2.1.1
          have lg_90_8 : g_90 8 = (tI M_85 t 5).toInt := p0r_84.2.2.2.1.2.1
          have tq_91 : tq t td M_85 := tq_fr ht hq q_87 q_89
          exact hQ _ _ _ _ _ hw (⟨iM_85, (q_86), (f0_12 q_87), (q_88), (ot_12 ht q_87 q_89), (by rw [pe_2, if_neg (by omega)]; unfold pp_p0; rw [if_neg (by omega), if_neg (fun q => by omega), ← eg_90]; exact p0r_84), (by rw [qe_2, if_neg (by omega)]; unfold qq_p0; rw [if_neg (by omega), if_neg (fun q => by omega)]; exact tq_91)⟩) dX4_readPart_144
        · refine lv_aload_n hx hb dX4_readPart_123 rfl (lv_at hl 1 rfl) ?_
          refine ti_get (ci := 4) (k := 2) (N := 6) (T := TX4) (v := .ref (A (ti_laws t j) 0)) C hw iw_4 rfl ob_1 (by decide) (by decide) fl_X4_154 rfl (ti_Tv (hL)) dX4_readPart_124 ?_
          refine lv_iload_n hx hb dX4_readPart_127 rfl (lv_at hl 0 rfl) ?_
          refine lv_ineg hx hb dX4_readPart_128 ?_
          refine lv_topi (fun x_61 ex_61 => ?_)
          have tx_61 : x_61.toInt = -x_1.toInt := i_neg ex_61 rfl (by omega)
          refine ti_callVv (ci := 1) (av := [.int x_61]) C hw (x_X1_add l D A cy hJ M hI t ht j hj x_61 (by first | omega | exact Or.inl (by decide) | exact Or.inr (by decide)) B n rg hr td hq) ⟨ml_X4_170, ym_X1_add, yv_X1_add, yi_X1_add, yc_X1_add⟩ yd_X1_add (ob_l ht hj) (by decide) rfl rfl hl.1 (Nat.le_of_ble_eq_true rfl) ⟨by decide, by decide⟩ ⟨Nat.zero_le _, Nat.zero_le _⟩ dX4_readPart_129 (fun M_63 H locs hp_63 hw => ?_)
          obtain ⟨iM_63, q_64, q_65, q_66, p0r_62, p1r_62⟩ := hp_63
          have lM_63_0 : rg 0 = (tI M_63 2 4).toInt := p0r_62.2.1.1
          have lM_63_1 : rg 1 = (tI M_63 2 6).toInt := p0r_62.2.1.2.1
          have lM_63_4 : rg 4 = (tI M_63 1 4).toInt := p0r_62.2.2.1.1
          have lM_63_7 : rg 7 = (tI M_63 t 4).toInt := p0r_62.2.2.2.1.1
          have lM_63_8 : rg 8 = (tI M_63 t 5).toInt := p0r_62.2.2.2.1.2.1
          obtain ⟨d_67, ed_67⟩ : ∃ z : Nat → Int, z = qa j x_61.toInt td := ⟨_, rfl⟩
          rw [← ed_67] at p1r_62
          refine lv_aload_n hx hb dX4_readPart_132 rfl (lv_at hl 1 rfl) ?_
          refine ti_callVvE (ci := 4) (av := []) C hE hw (x_X4_knot l D A cy hJ M_63 iM_63 t ht ((tT_fr q_64).trans hT) B n rg p0r_62 d_67 p1r_62) ⟨ml_X4_167, ym_X4_knot, yv_X4_knot, yi_X4_knot, yc_X4_knot⟩ yd_X4_knot ob_1 (by decide) rfl rfl hl.1 (Nat.le_of_ble_eq_true rfl) ⟨by decide, by decide⟩ ⟨Nat.zero_le _, Nat.zero_le _⟩ dX4_readPart_133 (fun M_69 H locs hp_69 hw => ?_)
          obtain ⟨iM_69, q_70, q_71, q_72, q_73, q_74, p0r_68, p1r_68⟩ := hp_69
          obtain ⟨g_75, eg_75⟩ : ∃ z : Nat → Int, z = pp_kn B n rg := ⟨_, rfl⟩
          rw [← eg_75] at p0r_68
          have lg_75_0 : g_75 0 = (tI M_69 2 4).toInt := p0r_68.2.1.1
          have lg_75_1 : g_75 1 = (tI M_69 2 6).toInt := p0r_68.2.1.2.1
          have lg_75_4 : g_75 4 = (tI M_69 1 4).toInt := p0r_68.2.2.1.1
          have lg_75_7 : g_75 7 = (tI M_69 t 4).toInt := p0r_68.2.2.2.1.1
          have lg_75_8 : g_75 8 = (tI M_69 t 5).toInt := p0r_68.2.2.2.1.2.1
          refine lv_goto (tgt := 144) hx hb dX4_readPart_136 (by decide) ?_
          exact hQ _ _ _ _ _ hw (⟨iM_69, ((q_70).trans q_64), (f0.trans q_71 (f0_x q_65)), ((q_72).trans ((q_65 1).2.1)), (ot.trans q_73 q_66), (by rw [pe_2, if_neg (by omega)]; unfold pp_p0; rw [if_neg (by omega), if_pos ⟨by omega, by omega⟩, ← eg_75]; exact p0r_68), (by rw [qe_2, if_neg (by omega)]; unfold qq_p0; rw [if_neg (by omega), if_pos ⟨by omega, by omega⟩, show -(rg 0) = x_61.toInt by omega, ← ed_67]; exact p1r_68)⟩) dX4_readPart_144
    · refine lv_aload_n hx hb dX4_readPart_63 rfl (lv_at hl 1 rfl) ?_
      refine ti_get (ci := 4) (k := 0) (N := 6) (T := TX4) (v := .ref (A 2 0)) C hw iw_4 rfl ob_1 (by decide) (by decide) fl_X4_12 rfl rfl dX4_readPart_64 ?_
      refine ti_get (ci := 7) (k := 6) (N := 7) (T := TX7) C hw iw_7 rfl ob_2 (by decide) (by decide) fl_X4_95 rfl rfl dX4_readPart_67 ?_
      refine lv_topi (fun x_32 ex_32 => ?_)
      have bx_32 : 0 ≤ x_32.toInt ∧ x_32.toInt ≤ 2147483647 := cI_rd hI ob_2.1 ex_32
      have ux_32 : (tI M 2 6).toInt = x_32.toInt := by rw [ex_32]
      refine lv_sipush (v := 9999) hx hb dX4_readPart_70 (by decide) ?_
      refine sb_icmp_le (tgt := 84) hx hb rfl (by decide : (9999 : Int32).toInt = 9999) dX4_readPart_73 (by decide) (fun c_73_32 => ?_) (fun c_73_32 => ?_)
      · refine lv_iload_n hx hb dX4_readPart_84 rfl (lv_at hl 0 rfl) ?_
        refine lv_bipush (v := 26) hx hb dX4_readPart_85 (by decide) ?_
        refine sb_icmp_ne (tgt := 111) hx hb rfl (by decide : (26 : Int32).toInt = 26) dX4_readPart_87 (by decide) (fun h => by omega) (fun c_87_42 => ?_)
        refine lv_aload_n hx hb dX4_readPart_90 rfl (lv_at hl 1 rfl) ?_
        refine ti_get (ci := 4) (k := 2) (N := 6) (T := TX4) (v := .ref (A (ti_laws t j) 0)) C hw iw_4 rfl ob_1 (by decide) (by decide) fl_X4_154 rfl (ti_Tv (hL)) dX4_readPart_91 ?_
        refine lv_aload_n hx hb dX4_readPart_94 rfl (lv_at hl 1 rfl) ?_
        refine ti_get (ci := 4) (k := 0) (N := 6) (T := TX4) (v := .ref (A 2 0)) C hw iw_4 rfl ob_1 (by decide) (by decide) fl_X4_12 rfl rfl dX4_readPart_95 ?_
        refine ti_get (ci := 7) (k := 6) (N := 7) (T := TX7) C hw iw_7 rfl ob_2 (by decide) (by decide) fl_X4_95 rfl rfl dX4_readPart_98 ?_
        refine ti_top (y := x_32) (ex_32.symm) ?_
        have u_44 : (tI M 2 6).toInt = (x_32 : Int32).toInt := by rw [(ex_32.symm)]
        refine ti_callVv (ci := 1) (av := [.int x_32]) C hw (x_X1_add l D A cy hJ M hI t ht j hj x_32 (by first | omega | exact Or.inl (by decide) | exact Or.inr (by decide)) B n rg hr td hq) ⟨ml_X4_170, ym_X1_add, yv_X1_add, yi_X1_add, yc_X1_add⟩ yd_X1_add (ob_l ht hj) (by decide) rfl rfl hl.1 (Nat.le_of_ble_eq_true rfl) ⟨by decide, by decide⟩ ⟨Nat.zero_le _, Nat.zero_le _⟩ dX4_readPart_101 (fun M_46 H locs hp_46 hw => ?_)
        obtain ⟨iM_46, q_47, q_48, q_49, p0r_45, p1r_45⟩ := hp_46
        have lM_46_0 : rg 0 = (tI M_46 2 4).toInt := p0r_45.2.1.1
        have lM_46_1 : rg 1 = (tI M_46 2 6).toInt := p0r_45.2.1.2.1
        have lM_46_4 : rg 4 = (tI M_46 1 4).toInt := p0r_45.2.2.1.1
        have lM_46_7 : rg 7 = (tI M_46 t 4).toInt := p0r_45.2.2.2.1.1
        have lM_46_8 : rg 8 = (tI M_46 t 5).toInt := p0r_45.2.2.2.1.2.1
        obtain ⟨d_50, ed_50⟩ : ∃ z : Nat → Int, z = qa j x_32.toInt td := ⟨_, rfl⟩
        rw [← ed_50] at p1r_45
        refine lv_aload_n hx hb dX4_readPart_104 rfl (lv_at hl 1 rfl) ?_
        refine ti_callVvE (ci := 4) (av := []) C hE hw (x_X4_knot l D A cy hJ M_46 iM_46 t ht ((tT_fr q_47).trans hT) B n rg p0r_45 d_50 p1r_45) ⟨ml_X4_167, ym_X4_knot, yv_X4_knot, yi_X4_knot, yc_X4_knot⟩ yd_X4_knot ob_1 (by decide) rfl rfl hl.1 (Nat.le_of_ble_eq_true rfl) ⟨by decide, by decide⟩ ⟨Nat.zero_le _, Nat.zero_le _⟩ dX4_readPart_105 (fun M_52 H locs hp_52 hw => ?_)
        obtain ⟨iM_52, q_53, q_54, q_55, q_56, q_57, p0r_51, p1r_51⟩ := hp_52
        obtain ⟨g_58, eg_58⟩ : ∃ z : Nat → Int, z = pp_kn B n rg := ⟨_, rfl⟩
        rw [← eg_58] at p0r_51
        have lg_58_0 : g_58 0 = (tI M_52 2 4).toInt := p0r_51.2.1.1
        have lg_58_1 : g_58 1 = (tI M_52 2 6).toInt := p0r_51.2.1.2.1
        have lg_58_4 : g_58 4 = (tI M_52 1 4).toInt := p0r_51.2.2.1.1
        have lg_58_7 : g_58 7 = (tI M_52 t 4).toInt := p0r_51.2.2.2.1.1
        have lg_58_8 : g_58 8 = (tI M_52 t 5).toInt := p0r_51.2.2.2.1.2.1
        refine lv_goto (tgt := 144) hx hb dX4_readPart_108 (by decide) ?_
        exact hQ _ _ _ _ _ hw (⟨iM_52, ((q_53).trans q_47), (f0.trans q_54 (f0_x q_48)), ((q_55).trans ((q_48 1).2.1)), (ot.trans q_56 q_49), (by rw [pe_2, if_neg (by omega)]; unfold pp_p0; rw [if_pos (by omega), if_neg (by omega), ← eg_58]; exact p0r_51), (by rw [qe_2, if_neg (by omega)]; unfold qq_p0; rw [if_pos (by omega), if_neg (by omega), show rg 1 = x_32.toInt by omega, ← ed_50]; exact p1r_51)⟩) dX4_readPart_144
      · refine lv_aload_n hx hb dX4_readPart_76 rfl (lv_at hl 1 rfl) ?_
        refine lv_iconst (v := 2) hx hb dX4_readPart_77 (by decide) ?_
        refine ti_callVv (ci := 4) (av := [.int 2]) C hw (x_X4_refuse l D A cy hJ M hI t ht 2 B n rg hr) ⟨ml_X4_82, ym_X4_refuse, yv_X4_refuse, yi_X4_refuse, yc_X4_refuse⟩ yd_X4_refuse ob_1 (by decide) rfl rfl hl.1 (Nat.le_of_ble_eq_true rfl) ⟨by decide, by decide⟩ ⟨Nat.zero_le _, Nat.zero_le _⟩ dX4_readPart_78 (fun M_35 H locs hp_35 hw => ?_)
        obtain ⟨iM_35, q_36, q_37, q_38, q_39, p0r_34⟩ := hp_35
        have hlr_34_2 : (2 : Int32).toInt = 2 := by decide
        simp only [hlr_34_2] at p0r_34
        obtain ⟨g_40, eg_40⟩ : ∃ z : Nat → Int, z = pp_rf 2 rg := ⟨_, rfl⟩
        rw [← eg_40] at p0r_34
        have lg_40_0 : g_40 0 = (tI M_35 2 4).toInt := p0r_34.2.1.1
        have lg_40_1 : g_40 1 = (tI M_35 2 6).toInt := p0r_34.2.1.2.1
        have lg_40_4 : g_40 4 = (tI M_35 1 4).toInt := p0r_34.2.2.1.1
        have lg_40_7 : g_40 7 = (tI M_35 t 4).toInt := p0r_34.2.2.2.1.1
        have lg_40_8 : g_40 8 = (tI M_35 t 5).toInt := p0r_34.2.2.2.1.2.1
        have tq_41 : tq t td M_35 := tq_fr ht hq q_37 q_39
        refine lv_goto (tgt := 144) hx hb dX4_readPart_81 (by decide) ?_
        exact hQ _ _ _ _ _ hw (⟨iM_35, (q_36), (f0_12 q_37), (q_38), (ot_12 ht q_37 q_39), (by rw [pe_2, if_neg (by omega)]; unfold pp_p0; rw [if_pos (by omega), if_pos (by omega), ← eg_40]; exact p0r_34), (by rw [qe_2, if_neg (by omega)]; unfold qq_p0; rw [if_pos (by omega), if_pos (by omega)]; exact tq_41)⟩) dX4_readPart_144
  · refine lv_iload_n hx hb dX4_readPart_14 rfl (lv_at hl 2 rfl) ?_
    refine lv_bipush (v := 8) hx hb dX4_readPart_15 (by decide) ?_
    refine sb_icmp_lt (tgt := 28) hx hb (by decide : (6 : Int32).toInt = 6) (by decide : (8 : Int32).toInt = 8) dX4_readPart_17 (by decide) (fun c_17_2 => ?_) (fun h => absurd h (by decide))
    refine lv_iload_n hx hb dX4_readPart_28 rfl (lv_at hl 0 rfl) ?_
    refine lv_bipush (v := 30) hx hb dX4_readPart_29 (by decide) ?_
    refine sb_icmp_ne (tgt := 57) hx hb rfl (by decide : (30 : Int32).toInt = 30) dX4_readPart_31 (by decide) (fun h => by omega) (fun c_31_4 => ?_)
    refine lv_aload_n hx hb dX4_readPart_34 rfl (lv_at hl 1 rfl) ?_
    refine ti_get (ci := 4) (k := 0) (N := 6) (T := TX4) (v := .ref (A 2 0)) C hw iw_4 rfl ob_1 (by decide) (by decide) fl_X4_12 rfl rfl dX4_readPart_35 ?_
    refine ti_callVvE (ci := 7) (av := []) C hE hw (x_X7_advance l D A cy hJ M hI ) ⟨ml_X4_92, ym_X7_advance, yv_X7_advance, yi_X7_advance, yc_X7_advance⟩ yd_X7_advance ob_2 (by decide) rfl rfl hl.1 (Nat.le_of_ble_eq_true rfl) ⟨by decide, by decide⟩ ⟨Nat.zero_le _, Nat.zero_le _⟩ dX4_readPart_38 (fun M_7 H locs hp_7 hw => ?_)
    obtain ⟨iM_7, q_8, q_9, q_10, q_11, p0r_6, p1r_6, p2r_6, p3r_6⟩ := hp_7
    have hs_12 := rC_av ht hr q_11 q_9 p0r_6 p1r_6 p2r_6 p3r_6
    obtain ⟨g_13, eg_13⟩ : ∃ z : Nat → Int, z = pp_av B n rg := ⟨_, rfl⟩
    rw [← eg_13] at hs_12
    have lg_13_0 : g_13 0 = (tI M_7 2 4).toInt := hs_12.2.1.1
    have lg_13_1 : g_13 1 = (tI M_7 2 6).toInt := hs_12.2.1.2.1
    have lg_13_4 : g_13 4 = (tI M_7 1 4).toInt := hs_12.2.2.1.1
    have lg_13_7 : g_13 7 = (tI M_7 t 4).toInt := hs_12.2.2.2.1.1
    have lg_13_8 : g_13 8 = (tI M_7 t 5).toInt := hs_12.2.2.2.1.2.1
    have tq_14 : tq t td M_7 := tq_fr ht hq (o2_12 q_9) q_11.1
    refine lv_aload_n hx hb dX4_readPart_41 rfl (lv_at hl 1 rfl) ?_
    refine lv_iload_n hx hb dX4_readPart_42 rfl (lv_at hl 2 rfl) ?_
    refine lv_iconst (v := 1) hx hb dX4_readPart_43 (by decide) ?_
    refine lv_iadd hx hb dX4_readPart_44 ?_
    refine ti_top (y := 7) (by decide) ?_
    refine ti_callVvE (ci := 4) (av := [.int 7]) C hE hw (x_X4_readEither_7 l D A cy hJ M_7 iM_7 t ht ((tT_fr q_8).trans hT) j hj ((tT_fr q_8).trans hL) B n g_13 hs_12 td tq_14) ⟨ml_X4_158, ym_X4_readEither, yv_X4_readEither, yi_X4_readEither, yc_X4_readEither⟩ yd_X4_readEither ob_1 (by decide) rfl rfl hl.1 (Nat.le_of_ble_eq_true rfl) ⟨by decide, by decide⟩ ⟨Nat.zero_le _, Nat.zero_le _⟩ dX4_readPart_45 (fun M_16 H locs hp_16 hw => ?_)
    obtain ⟨iM_16, q_17, q_18, q_19, q_20, p0r_15, p1r_15⟩ := hp_16
    obtain ⟨g_21, eg_21⟩ : ∃ z : Nat → Int, z = pp_ei B n (pp_pt B n 1) g_13 := ⟨_, rfl⟩
    rw [← eg_21] at p0r_15
    have lg_21_0 : g_21 0 = (tI M_16 2 4).toInt := p0r_15.2.1.1
    have lg_21_1 : g_21 1 = (tI M_16 2 6).toInt := p0r_15.2.1.2.1
    have lg_21_4 : g_21 4 = (tI M_16 1 4).toInt := p0r_15.2.2.1.1
    have lg_21_7 : g_21 7 = (tI M_16 t 4).toInt := p0r_15.2.2.2.1.1
    have lg_21_8 : g_21 8 = (tI M_16 t 5).toInt := p0r_15.2.2.2.1.2.1
    obtain ⟨d_22, ed_22⟩ : ∃ z : Nat → Int, z = qq_ei B n j (pp_pt B n 1) (qq_pt B n j 1) g_13 td := ⟨_, rfl⟩
    rw [← ed_22] at p1r_15
    refine lv_aload_n hx hb dX4_readPart_48 rfl (lv_at hl 1 rfl) ?_
    refine lv_bipush (v := 31) hx hb dX4_readPart_49 (by decide) ?_
    refine ti_callVvE (ci := 4) (av := [.int 31]) C hE hw (x_X4_take l D A cy hJ M_16 iM_16 t ht 31 B n g_21 p0r_15) ⟨ml_X4_85, ym_X4_take, yv_X4_take, yi_X4_take, yc_X4_take⟩ yd_X4_take ob_1 (by decide) rfl rfl hl.1 (Nat.le_of_ble_eq_true rfl) ⟨by decide, by decide⟩ ⟨Nat.zero_le _, Nat.zero_le _⟩ dX4_readPart_51 (fun M_24 H locs hp_24 hw => ?_)
    obtain ⟨iM_24, q_25, q_26, q_27, q_28, p0r_23⟩ := hp_24
    have hlr_23_31 : (31 : Int32).toInt = 31 := by decide
    simp only [hlr_23_31] at p0r_23
    obtain ⟨g_29, eg_29⟩ : ∃ z : Nat → Int, z = pp_tk B n 31 g_21 := ⟨_, rfl⟩
    rw [← eg_29] at p0r_23
    have lg_29_0 : g_29 0 = (tI M_24 2 4).toInt := p0r_23.2.1.1
    have lg_29_1 : g_29 1 = (tI M_24 2 6).toInt := p0r_23.2.1.2.1
    have lg_29_4 : g_29 4 = (tI M_24 1 4).toInt := p0r_23.2.2.1.1
    have lg_29_7 : g_29 7 = (tI M_24 t 4).toInt := p0r_23.2.2.2.1.1
    have lg_29_8 : g_29 8 = (tI M_24 t 5).toInt := p0r_23.2.2.2.1.2.1
    have tq_30 : tq t d_22 M_24 := tq_fr ht p1r_15 q_26 q_28
    refine lv_goto (tgt := 144) hx hb dX4_readPart_54 (by decide) ?_
    exact hQ _ _ _ _ _ hw (⟨iM_24, ((q_25).trans ((q_17).trans q_8)), (f0.trans (f0_12 q_26) (f0.trans q_18 (f0_12 (o2_12 q_9)))), ((q_27).trans ((q_19).trans q_10)), (ot.trans (ot_12 ht q_26 q_28) (ot.trans q_20 (ot_12 ht (o2_12 q_9) q_11.1))), (by rw [pe_2, if_pos (by omega), ← eg_13, ← eg_21, ← eg_29]; exact p0r_23), (by rw [qe_2, if_pos (by omega), ← eg_13, ← ed_22]; exact tq_30)⟩) dX4_readPart_144
set_option maxHeartbeats 4000000 in
set_option maxRecDepth 100000 in
theorem x_X4_readProduct_6 (l : Launch) (D : va_G) (A : Nat → Nat → Nat) (cy : Nat → ClassId) (hJ : ti_inj ti_LT A) (M : ti_M) (hI : cI Tc M) (t : Nat) (ht : t = 3 ∨ t = 4) (hT : tT M 1 1 = some t) (j : Nat) (hj : j < 3) (hL : tT M 1 2 = some (ti_laws t j)) (B : Nat → Int) (n : Nat) (rg : Nat → Int) (hr : rC B n t rg M) (td : Nat → Int) (hq : tq t td M) : ti_KvE l yX4_readProduct cX4_readProduct 4 23 ti_LT D A cy M [.ref (A 1 0), .int 6] (fun M2 => cI Tc M2 ∧ M2.2.2.2 = M.2.2.2 ∧ f0 M2 M ∧ tI M2 2 1 = tI M 2 1 ∧ ot t M2 M ∧ rC B n t (pp_pd B n (pp_pt B n 2) rg) M2 ∧ tq t (qq_pd B n j (pp_pt B n 2) (qq_pt B n j 2) rg td) M2) := by
  refine ti_eVE yp_X4_readProduct hJ ti_LT_nd (Nat.le_of_ble_eq_true rfl) ?_
  intro p e s m args below meth c Q H0 C hE hQ hw ls hl
  have hx := C.1
  have hb := C.2.1
  have hl : lv_has ls 4 [(0, .ref (A 1 0)), (1, .int 6)] := hl
  have l0 : rg 0 = (tI M 2 4).toInt := hr.2.1.1
  have l1 : rg 1 = (tI M 2 6).toInt := hr.2.1.2.1
  have l2 : rg 2 = (tI M 2 5).toInt := hr.2.1.2.2.1
  have l3 : rg 3 = (tI M 2 3).toInt := hr.2.1.2.2.2
  have l4 : rg 4 = (tI M 1 4).toInt := hr.2.2.1.1
  have l5 : rg 5 = (tI M 1 5).toInt := hr.2.2.1.2.1
  have l7 : rg 7 = (tI M t 4).toInt := hr.2.2.2.1.1
  have l8 : rg 8 = (tI M t 5).toInt := hr.2.2.2.1.2.1
  have l9 : rg 9 = (tI M t 3).toInt := hr.2.2.2.1.2.2
  refine lv_aload_n hx hb dX4_readProduct_0 rfl (lv_at hl 0 rfl) ?_
  refine lv_iload_n hx hb dX4_readProduct_1 rfl (lv_at hl 1 rfl) ?_
  refine ti_callVvE (ci := 4) (av := [.int 6]) C hE hw (x_X4_readPart_6 l D A cy hJ M hI t ht (hT) j hj (hL) B n rg hr td hq) ⟨ml_X4_187, ym_X4_readPart, yv_X4_readPart, yi_X4_readPart, yc_X4_readPart⟩ yd_X4_readPart ob_1 (by decide) rfl rfl hl.1 (Nat.le_of_ble_eq_true rfl) ⟨by decide, by decide⟩ ⟨Nat.zero_le _, Nat.zero_le _⟩ dX4_readProduct_2 (fun M_2 H locs hp_2 hw => ?_)
  obtain ⟨iM_2, q_3, q_4, q_5, q_6, p0r_1, p1r_1⟩ := hp_2
  obtain ⟨g_7, eg_7⟩ : ∃ z : Nat → Int, z = pp_pt B n 2 rg := ⟨_, rfl⟩
  rw [← eg_7] at p0r_1
  have lg_7_0 : g_7 0 = (tI M_2 2 4).toInt := p0r_1.2.1.1
  have lg_7_1 : g_7 1 = (tI M_2 2 6).toInt := p0r_1.2.1.2.1
  have lg_7_4 : g_7 4 = (tI M_2 1 4).toInt := p0r_1.2.2.1.1
  have lg_7_7 : g_7 7 = (tI M_2 t 4).toInt := p0r_1.2.2.2.1.1
  have lg_7_8 : g_7 8 = (tI M_2 t 5).toInt := p0r_1.2.2.2.1.2.1
  obtain ⟨d_8, ed_8⟩ : ∃ z : Nat → Int, z = qq_pt B n j 2 rg td := ⟨_, rfl⟩
  rw [← ed_8] at p1r_1
  refine lv_iconst (v := 0) hx hb dX4_readProduct_5 (by decide) ?_
  refine lv_istore_n (lv' := [(2, .int 0), (0, .ref (A 1 0)), (1, .int 6)]) hx hb dX4_readProduct_6 rfl hl (by decide) rfl (fun ls hl => ?_)
  have hl_7_24 : ∀ (n_25 : Nat) (x_9 : Int32) (M_12 : ti_M) (g_19 : Nat → Int) (d_21 : Nat → Int) (H : Heap) (locs : List Loc) (ls : Array Slot), (64 - x_9.toInt : Int).toNat < n_25 → (0 ≤ x_9.toInt) → (x_9.toInt ≤ 64) → (cI Tc M_12) → (M_12.2.2.2 = M.2.2.2) → (f0 M_12 M) → (tI M_12 2 1 = tI M 2 1) → (ot t M_12 M) → (tT M_12 1 1 = (some t)) → (tT M_12 1 2 = (some (ti_laws t j))) → (rC B n t g_19 M_12) → (tq t d_21 M_12) → (pp_lp pp_qT (fun s => (pp_pt B n 2) (pp_kn B n s)) 64 g_7 = pp_lp pp_qT (fun s => (pp_pt B n 2) (pp_kn B n s)) (64 - (x_9.toInt).toNat) g_19) → (qq_lp pp_qT (fun s => (pp_pt B n 2) (pp_kn B n s)) (fun s td => qa j (-(s 0)) ((qq_pt B n j 2) (pp_kn B n s) td)) 64 g_7 d_8 = qq_lp pp_qT (fun s => (pp_pt B n 2) (pp_kn B n s)) (fun s td => qa j (-(s 0)) ((qq_pt B n j 2) (pp_kn B n s) td)) (64 - (x_9.toInt).toNat) g_19 d_21) → ti_H ti_LT D A cy H0 M_12 H locs → lv_has ls 4 [(2, .int x_9), (0, .ref (A 1 0)), (1, .int 6)] → W p l e (ti_rm 23) s m args below meth c H locs 0 0 Q (F0 m 7 ls []) := by
    intro n_25
    induction n_25 with
    | zero => intro x_9 M_12 g_19 d_21 H locs ls hf_25; exact absurd hf_25 (Nat.not_lt_zero _)
    | succ n_25 ih_25 =>
      intro x_9 M_12 g_19 d_21 H locs ls hf_25 b_10 b_11 iM_12 f_13 f_14 f_15 f_16 f_17 f_18 hs_20 tq_22 j_23 j_24 hw hl
      have lg_19_0 : g_19 0 = (tI M_12 2 4).toInt := hs_20.2.1.1
      have lg_19_1 : g_19 1 = (tI M_12 2 6).toInt := hs_20.2.1.2.1
      have lg_19_4 : g_19 4 = (tI M_12 1 4).toInt := hs_20.2.2.1.1
      have lg_19_7 : g_19 7 = (tI M_12 t 4).toInt := hs_20.2.2.2.1.1
      have lg_19_8 : g_19 8 = (tI M_12 t 5).toInt := hs_20.2.2.2.1.2.1
      refine lv_iload_n hx hb dX4_readProduct_7 rfl (lv_at hl 0 rfl) ?_
      refine lv_bipush (v := 64) hx hb dX4_readProduct_8 (by decide) ?_
      refine sb_icmp_ge (tgt := 69) hx hb rfl (by decide : (64 : Int32).toInt = 64) dX4_readProduct_10 (by decide) (fun c_10_25 => ?_) (fun c_10_25 => ?_)
      · exact hQ _ _ _ _ _ hw (⟨iM_12, (f_13), f_14, (f_15), f_16, (by unfold pp_pd; rw [← eg_7, j_23, lp_end (P := pp_qT) (f := 64 - x_9.toInt.toNat) (s := g_19) (Or.inl (by omega))]; exact hs_20), (by unfold qq_pd; rw [← eg_7, ← ed_8, j_24, qlp_end (P := pp_qT) (f := 64 - x_9.toInt.toNat) (s := g_19) (Or.inl (by omega))]; exact tq_22)⟩) dX4_readProduct_69
      · refine lv_aload_n hx hb dX4_readProduct_13 rfl (lv_at hl 1 rfl) ?_
        refine ti_get (ci := 4) (k := 0) (N := 6) (T := TX4) (v := .ref (A 2 0)) C hw iw_4 rfl ob_1 (by decide) (by decide) fl_X4_12 rfl rfl dX4_readProduct_14 ?_
        refine ti_get (ci := 7) (k := 4) (N := 7) (T := TX7) C hw iw_7 rfl ob_2 (by decide) (by decide) fl_X4_41 rfl rfl dX4_readProduct_17 ?_
        refine lv_topi (fun x_27 ex_27 => ?_)
        have bx_27 : 0 ≤ x_27.toInt ∧ x_27.toInt ≤ 41 := cI_rd iM_12 ob_2.1 ex_27
        have ux_27 : (tI M_12 2 4).toInt = x_27.toInt := by rw [ex_27]
        refine lv_bipush (v := 40) hx hb dX4_readProduct_20 (by decide) ?_
        refine sb_icmp_eq (tgt := 37) hx hb rfl (by decide : (40 : Int32).toInt = 40) dX4_readProduct_22 (by decide) (fun c_22_27 => ?_) (fun c_22_27 => ?_)
        · refine lv_aload_n hx hb dX4_readProduct_37 rfl (lv_at hl 1 rfl) ?_
          refine ti_get (ci := 4) (k := 0) (N := 6) (T := TX4) (v := .ref (A 2 0)) C hw iw_4 rfl ob_1 (by decide) (by decide) fl_X4_12 rfl rfl dX4_readProduct_38 ?_
          refine ti_get (ci := 7) (k := 4) (N := 7) (T := TX7) C hw iw_7 rfl ob_2 (by decide) (by decide) fl_X4_41 rfl rfl dX4_readProduct_41 ?_
          refine ti_top (y := x_27) (ex_27.symm) ?_
          have u_31 : (tI M_12 2 4).toInt = (x_27 : Int32).toInt := by rw [(ex_27.symm)]
          refine lv_istore_n (lv' := [(3, .int x_27), (2, .int x_9), (0, .ref (A 1 0)), (1, .int 6)]) hx hb dX4_readProduct_44 rfl hl (by decide) rfl (fun ls hl => ?_)
          refine lv_aload_n hx hb dX4_readProduct_45 rfl (lv_at hl 2 rfl) ?_
          refine ti_callVvE (ci := 4) (av := []) C hE hw (x_X4_knot l D A cy hJ M_12 iM_12 t ht (f_17) B n g_19 hs_20 d_21 tq_22) ⟨ml_X4_167, ym_X4_knot, yv_X4_knot, yi_X4_knot, yc_X4_knot⟩ yd_X4_knot ob_1 (by decide) rfl rfl hl.1 (Nat.le_of_ble_eq_true rfl) ⟨by decide, by decide⟩ ⟨Nat.zero_le _, Nat.zero_le _⟩ dX4_readProduct_46 (fun M_33 H locs hp_33 hw => ?_)
          obtain ⟨iM_33, q_34, q_35, q_36, q_37, q_38, p0r_32, p1r_32⟩ := hp_33
          obtain ⟨g_39, eg_39⟩ : ∃ z : Nat → Int, z = pp_kn B n g_19 := ⟨_, rfl⟩
          rw [← eg_39] at p0r_32
          have lg_39_0 : g_39 0 = (tI M_33 2 4).toInt := p0r_32.2.1.1
          have lg_39_1 : g_39 1 = (tI M_33 2 6).toInt := p0r_32.2.1.2.1
          have lg_39_4 : g_39 4 = (tI M_33 1 4).toInt := p0r_32.2.2.1.1
          have lg_39_7 : g_39 7 = (tI M_33 t 4).toInt := p0r_32.2.2.2.1.1
          have lg_39_8 : g_39 8 = (tI M_33 t 5).toInt := p0r_32.2.2.2.1.2.1
          refine lv_aload_n hx hb dX4_readProduct_49 rfl (lv_at hl 2 rfl) ?_
          refine lv_iload_n hx hb dX4_readProduct_50 rfl (lv_at hl 3 rfl) ?_
          refine ti_callVvE (ci := 4) (av := [.int 6]) C hE hw (x_X4_readPart_6 l D A cy hJ M_33 iM_33 t ht ((tT_fr q_34).trans f_17) j hj ((tT_fr q_34).trans f_18) B n g_39 p0r_32 d_21 p1r_32) ⟨ml_X4_187, ym_X4_readPart, yv_X4_readPart, yi_X4_readPart, yc_X4_readPart⟩ yd_X4_readPart ob_1 (by decide) rfl rfl hl.1 (Nat.le_of_ble_eq_true rfl) ⟨by decide, by decide⟩ ⟨Nat.zero_le _, Nat.zero_le _⟩ dX4_readProduct_51 (fun M_41 H locs hp_41 hw => ?_)
          obtain ⟨iM_41, q_42, q_43, q_44, q_45, p0r_40, p1r_40⟩ := hp_41
          obtain ⟨g_46, eg_46⟩ : ∃ z : Nat → Int, z = pp_pt B n 2 g_39 := ⟨_, rfl⟩
          rw [← eg_46] at p0r_40
          have lg_46_0 : g_46 0 = (tI M_41 2 4).toInt := p0r_40.2.1.1
          have lg_46_1 : g_46 1 = (tI M_41 2 6).toInt := p0r_40.2.1.2.1
          have lg_46_4 : g_46 4 = (tI M_41 1 4).toInt := p0r_40.2.2.1.1
          have lg_46_7 : g_46 7 = (tI M_41 t 4).toInt := p0r_40.2.2.2.1.1
          have lg_46_8 : g_46 8 = (tI M_41 t 5).toInt := p0r_40.2.2.2.1.2.1
          obtain ⟨d_47, ed_47⟩ : ∃ z : Nat → Int, z = qq_pt B n j 2 g_39 d_21 := ⟨_, rfl⟩
          rw [← ed_47] at p1r_40
          refine lv_aload_n hx hb dX4_readProduct_54 rfl (lv_at hl 2 rfl) ?_
          refine ti_get (ci := 4) (k := 2) (N := 6) (T := TX4) (v := .ref (A (ti_laws t j) 0)) C hw iw_4 rfl ob_1 (by decide) (by decide) fl_X4_154 rfl (ti_Tv ((tT_fr q_42).trans ((tT_fr q_34).trans f_18))) dX4_readProduct_55 ?_
          refine lv_iload_n hx hb dX4_readProduct_58 rfl (lv_at hl 0 rfl) ?_
          refine lv_ineg hx hb dX4_readProduct_59 ?_
          refine lv_topi (fun x_48 ex_48 => ?_)
          have tx_48 : x_48.toInt = -x_27.toInt := i_neg ex_48 rfl (by omega)
          refine ti_callVv (ci := 1) (av := [.int x_48]) C hw (x_X1_add l D A cy hJ M_41 iM_41 t ht j hj x_48 (by first | omega | exact Or.inl (by decide) | exact Or.inr (by decide)) B n g_46 p0r_40 d_47 p1r_40) ⟨ml_X4_170, ym_X1_add, yv_X1_add, yi_X1_add, yc_X1_add⟩ yd_X1_add (ob_l ht hj) (by decide) rfl rfl hl.1 (Nat.le_of_ble_eq_true rfl) ⟨by decide, by decide⟩ ⟨Nat.zero_le _, Nat.zero_le _⟩ dX4_readProduct_60 (fun M_50 H locs hp_50 hw => ?_)
          obtain ⟨iM_50, q_51, q_52, q_53, p0r_49, p1r_49⟩ := hp_50
          have lM_50_0 : g_46 0 = (tI M_50 2 4).toInt := p0r_49.2.1.1
          have lM_50_1 : g_46 1 = (tI M_50 2 6).toInt := p0r_49.2.1.2.1
          have lM_50_4 : g_46 4 = (tI M_50 1 4).toInt := p0r_49.2.2.1.1
          have lM_50_7 : g_46 7 = (tI M_50 t 4).toInt := p0r_49.2.2.2.1.1
          have lM_50_8 : g_46 8 = (tI M_50 t 5).toInt := p0r_49.2.2.2.1.2.1
          obtain ⟨d_54, ed_54⟩ : ∃ z : Nat → Int, z = qa j x_48.toInt d_47 := ⟨_, rfl⟩
          rw [← ed_54] at p1r_49
          obtain ⟨x_55, ex_55⟩ : ∃ z : Int32, z = x_9 + 1 := ⟨_, rfl⟩
          have tx_55 : x_55.toInt = x_9.toInt + 1 := i_add ex_55 rfl (by decide) (by omega) (by omega)
          refine lv_iinc (v := x_55) (lv' := [(2, .int x_55), (3, .int x_27), (0, .ref (A 1 0)), (1, .int 6)]) hx hb dX4_readProduct_63 hl (k := 1) rfl (by rw [ex_55]; rfl) (by decide) rfl (fun ls hl => ?_)
          refine lv_goto (tgt := 7) hx hb dX4_readProduct_66 (by decide) ?_
          exact ih_25 x_55 M_50 g_46 d_54 _ _ _ (by omega) (by first | omega | decide) (by first | omega | decide) iM_50 ((q_51).trans ((q_42).trans ((q_34).trans f_13))) (f0.trans (f0_x q_52) (f0.trans q_43 (f0.trans q_35 f_14))) (((q_52 1).2.1).trans ((q_44).trans ((q_36).trans f_15))) (ot.trans q_53 (ot.trans q_45 (ot.trans q_37 f_16))) ((tT_fr q_51).trans ((tT_fr q_42).trans ((tT_fr q_34).trans f_17))) ((tT_fr q_51).trans ((tT_fr q_42).trans ((tT_fr q_34).trans f_18))) p0r_49 p1r_49 (j_23.trans (lp_step (decide_eq_true (by omega)) (by rw [eg_46, eg_39]) (by omega))) (j_24.trans (qlp_step (decide_eq_true (by omega)) (by rw [eg_46, eg_39]) (by rw [ed_54, show x_48.toInt = -(g_19 0) by omega, ed_47, eg_39]) (by omega))) hw (lv_sub hl [0, 2, 3] rfl)
        · refine lv_aload_n hx hb dX4_readProduct_25 rfl (lv_at hl 1 rfl) ?_
          refine ti_get (ci := 4) (k := 0) (N := 6) (T := TX4) (v := .ref (A 2 0)) C hw iw_4 rfl ob_1 (by decide) (by decide) fl_X4_12 rfl rfl dX4_readProduct_26 ?_
          refine ti_get (ci := 7) (k := 4) (N := 7) (T := TX7) C hw iw_7 rfl ob_2 (by decide) (by decide) fl_X4_41 rfl rfl dX4_readProduct_29 ?_
          refine ti_top (y := x_27) (ex_27.symm) ?_
          have u_29 : (tI M_12 2 4).toInt = (x_27 : Int32).toInt := by rw [(ex_27.symm)]
          refine lv_bipush (v := 41) hx hb dX4_readProduct_32 (by decide) ?_
          refine sb_icmp_ne (tgt := 69) hx hb rfl (by decide : (41 : Int32).toInt = 41) dX4_readProduct_34 (by decide) (fun c_34_29 => ?_) (fun c_34_29 => ?_)
          · exact hQ _ _ _ _ _ hw (⟨iM_12, (f_13), f_14, (f_15), f_16, (by unfold pp_pd; rw [← eg_7, j_23, lp_end (P := pp_qT) (f := 64 - x_9.toInt.toNat) (s := g_19) (Or.inr (decide_eq_false (by omega)))]; exact hs_20), (by unfold qq_pd; rw [← eg_7, ← ed_8, j_24, qlp_end (P := pp_qT) (f := 64 - x_9.toInt.toNat) (s := g_19) (Or.inr (decide_eq_false (by omega)))]; exact tq_22)⟩) dX4_readProduct_69
          · refine lv_aload_n hx hb dX4_readProduct_37 rfl (lv_at hl 1 rfl) ?_
            refine ti_get (ci := 4) (k := 0) (N := 6) (T := TX4) (v := .ref (A 2 0)) C hw iw_4 rfl ob_1 (by decide) (by decide) fl_X4_12 rfl rfl dX4_readProduct_38 ?_
            refine ti_get (ci := 7) (k := 4) (N := 7) (T := TX7) C hw iw_7 rfl ob_2 (by decide) (by decide) fl_X4_41 rfl rfl dX4_readProduct_41 ?_
            refine ti_top (y := x_27) (ex_27.symm) ?_
            have u_56 : (tI M_12 2 4).toInt = (x_27 : Int32).toInt := by rw [(ex_27.symm)]
            refine lv_istore_n (lv' := [(3, .int x_27), (2, .int x_9), (0, .ref (A 1 0)), (1, .int 6)]) hx hb dX4_readProduct_44 rfl hl (by decide) rfl (fun ls hl => ?_)
            refine lv_aload_n hx hb dX4_readProduct_45 rfl (lv_at hl 2 rfl) ?_
            refine ti_callVvE (ci := 4) (av := []) C hE hw (x_X4_knot l D A cy hJ M_12 iM_12 t ht (f_17) B n g_19 hs_20 d_21 tq_22) ⟨ml_X4_167, ym_X4_knot, yv_X4_knot, yi_X4_knot, yc_X4_knot⟩ yd_X4_knot ob_1 (by decide) rfl rfl hl.1 (Nat.le_of_ble_eq_true rfl) ⟨by decide, by decide⟩ ⟨Nat.zero_le _, Nat.zero_le _⟩ dX4_readProduct_46 (fun M_58 H locs hp_58 hw => ?_)
            obtain ⟨iM_58, q_59, q_60, q_61, q_62, q_63, p0r_57, p1r_57⟩ := hp_58
            obtain ⟨g_64, eg_64⟩ : ∃ z : Nat → Int, z = pp_kn B n g_19 := ⟨_, rfl⟩
            rw [← eg_64] at p0r_57
            have lg_64_0 : g_64 0 = (tI M_58 2 4).toInt := p0r_57.2.1.1
            have lg_64_1 : g_64 1 = (tI M_58 2 6).toInt := p0r_57.2.1.2.1
            have lg_64_4 : g_64 4 = (tI M_58 1 4).toInt := p0r_57.2.2.1.1
            have lg_64_7 : g_64 7 = (tI M_58 t 4).toInt := p0r_57.2.2.2.1.1
            have lg_64_8 : g_64 8 = (tI M_58 t 5).toInt := p0r_57.2.2.2.1.2.1
            refine lv_aload_n hx hb dX4_readProduct_49 rfl (lv_at hl 2 rfl) ?_
            refine lv_iload_n hx hb dX4_readProduct_50 rfl (lv_at hl 3 rfl) ?_
            refine ti_callVvE (ci := 4) (av := [.int 6]) C hE hw (x_X4_readPart_6 l D A cy hJ M_58 iM_58 t ht ((tT_fr q_59).trans f_17) j hj ((tT_fr q_59).trans f_18) B n g_64 p0r_57 d_21 p1r_57) ⟨ml_X4_187, ym_X4_readPart, yv_X4_readPart, yi_X4_readPart, yc_X4_readPart⟩ yd_X4_readPart ob_1 (by decide) rfl rfl hl.1 (Nat.le_of_ble_eq_true rfl) ⟨by decide, by decide⟩ ⟨Nat.zero_le _, Nat.zero_le _⟩ dX4_readProduct_51 (fun M_66 H locs hp_66 hw => ?_)
            obtain ⟨iM_66, q_67, q_68, q_69, q_70, p0r_65, p1r_65⟩ := hp_66
            obtain ⟨g_71, eg_71⟩ : ∃ z : Nat → Int, z = pp_pt B n 2 g_64 := ⟨_, rfl⟩
            rw [← eg_71] at p0r_65
            have lg_71_0 : g_71 0 = (tI M_66 2 4).toInt := p0r_65.2.1.1
            have lg_71_1 : g_71 1 = (tI M_66 2 6).toInt := p0r_65.2.1.2.1
            have lg_71_4 : g_71 4 = (tI M_66 1 4).toInt := p0r_65.2.2.1.1
            have lg_71_7 : g_71 7 = (tI M_66 t 4).toInt := p0r_65.2.2.2.1.1
            have lg_71_8 : g_71 8 = (tI M_66 t 5).toInt := p0r_65.2.2.2.1.2.1
            obtain ⟨d_72, ed_72⟩ : ∃ z : Nat → Int, z = qq_pt B n j 2 g_64 d_21 := ⟨_, rfl⟩
            rw [← ed_72] at p1r_65
            refine lv_aload_n hx hb dX4_readProduct_54 rfl (lv_at hl 2 rfl) ?_
            refine ti_get (ci := 4) (k := 2) (N := 6) (T := TX4) (v := .ref (A (ti_laws t j) 0)) C hw iw_4 rfl ob_1 (by decide) (by decide) fl_X4_154 rfl (ti_Tv ((tT_fr q_67).trans ((tT_fr q_59).trans f_18))) dX4_readProduct_55 ?_
            refine lv_iload_n hx hb dX4_readProduct_58 rfl (lv_at hl 0 rfl) ?_
            refine lv_ineg hx hb dX4_readProduct_59 ?_
            refine lv_topi (fun x_73 ex_73 => ?_)
            have tx_73 : x_73.toInt = -x_27.toInt := i_neg ex_73 rfl (by omega)
            refine ti_callVv (ci := 1) (av := [.int x_73]) C hw (x_X1_add l D A cy hJ M_66 iM_66 t ht j hj x_73 (by first | omega | exact Or.inl (by decide) | exact Or.inr (by decide)) B n g_71 p0r_65 d_72 p1r_65) ⟨ml_X4_170, ym_X1_add, yv_X1_add, yi_X1_add, yc_X1_add⟩ yd_X1_add (ob_l ht hj) (by decide) rfl rfl hl.1 (Nat.le_of_ble_eq_true rfl) ⟨by decide, by decide⟩ ⟨Nat.zero_le _, Nat.zero_le _⟩ dX4_readProduct_60 (fun M_75 H locs hp_75 hw => ?_)
            obtain ⟨iM_75, q_76, q_77, q_78, p0r_74, p1r_74⟩ := hp_75
            have lM_75_0 : g_71 0 = (tI M_75 2 4).toInt := p0r_74.2.1.1
            have lM_75_1 : g_71 1 = (tI M_75 2 6).toInt := p0r_74.2.1.2.1
            have lM_75_4 : g_71 4 = (tI M_75 1 4).toInt := p0r_74.2.2.1.1
            have lM_75_7 : g_71 7 = (tI M_75 t 4).toInt := p0r_74.2.2.2.1.1
            have lM_75_8 : g_71 8 = (tI M_75 t 5).toInt := p0r_74.2.2.2.1.2.1
            obtain ⟨d_79, ed_79⟩ : ∃ z : Nat → Int, z = qa j x_73.toInt d_72 := ⟨_, rfl⟩
            rw [← ed_79] at p1r_74
            obtain ⟨x_80, ex_80⟩ : ∃ z : Int32, z = x_9 + 1 := ⟨_, rfl⟩
            have tx_80 : x_80.toInt = x_9.toInt + 1 := i_add ex_80 rfl (by decide) (by omega) (by omega)
            refine lv_iinc (v := x_80) (lv' := [(2, .int x_80), (3, .int x_27), (0, .ref (A 1 0)), (1, .int 6)]) hx hb dX4_readProduct_63 hl (k := 1) rfl (by rw [ex_80]; rfl) (by decide) rfl (fun ls hl => ?_)
            refine lv_goto (tgt := 7) hx hb dX4_readProduct_66 (by decide) ?_
            exact ih_25 x_80 M_75 g_71 d_79 _ _ _ (by omega) (by first | omega | decide) (by first | omega | decide) iM_75 ((q_76).trans ((q_67).trans ((q_59).trans f_13))) (f0.trans (f0_x q_77) (f0.trans q_68 (f0.trans q_60 f_14))) (((q_77 1).2.1).trans ((q_69).trans ((q_61).trans f_15))) (ot.trans q_78 (ot.trans q_70 (ot.trans q_62 f_16))) ((tT_fr q_76).trans ((tT_fr q_67).trans ((tT_fr q_59).trans f_17))) ((tT_fr q_76).trans ((tT_fr q_67).trans ((tT_fr q_59).trans f_18))) p0r_74 p1r_74 (j_23.trans (lp_step (decide_eq_true (by omega)) (by rw [eg_71, eg_64]) (by omega))) (j_24.trans (qlp_step (decide_eq_true (by omega)) (by rw [eg_71, eg_64]) (by rw [ed_79, show x_73.toInt = -(g_19 0) by omega, ed_72, eg_64]) (by omega))) hw (lv_sub hl [0, 2, 3] rfl)
  exact hl_7_24 ((64 - 0 : Int).toNat + 1) 0 M_2 g_7 d_8 _ _ _ (Nat.lt_succ_self _) (by have lt0 : (0 : Int32).toInt = 0 := (by decide); first | omega | decide) (by have lt0 : (0 : Int32).toInt = 0 := (by decide); first | omega | decide) iM_2 (q_3) q_4 (q_5) q_6 ((tT_fr q_3).trans hT) ((tT_fr q_3).trans hL) p0r_1 p1r_1 rfl rfl hw (lv_sub hl [0, 1, 2] rfl)
set_option maxHeartbeats 4000000 in
set_option maxRecDepth 100000 in
theorem x_X4_readSum_6 (l : Launch) (D : va_G) (A : Nat → Nat → Nat) (cy : Nat → ClassId) (hJ : ti_inj ti_LT A) (M : ti_M) (hI : cI Tc M) (t : Nat) (ht : t = 3 ∨ t = 4) (hT : tT M 1 1 = some t) (j : Nat) (hj : j < 3) (hL : tT M 1 2 = some (ti_laws t j)) (B : Nat → Int) (n : Nat) (rg : Nat → Int) (hr : rC B n t rg M) (td : Nat → Int) (hq : tq t td M) : ti_KvE l yX4_readSum cX4_readSum 4 24 ti_LT D A cy M [.ref (A 1 0), .int 6] (fun M2 => cI Tc M2 ∧ M2.2.2.2 = M.2.2.2 ∧ f0 M2 M ∧ tI M2 2 1 = tI M 2 1 ∧ ot t M2 M ∧ rC B n t (pp_sm B n (pp_pt B n 2) rg) M2 ∧ tq t (qq_sm B n j (pp_pt B n 2) (qq_pt B n j 2) rg td) M2) := by
  refine ti_eVE yp_X4_readSum hJ ti_LT_nd (Nat.le_of_ble_eq_true rfl) ?_
  intro p e s m args below meth c Q H0 C hE hQ hw ls hl
  have hx := C.1
  have hb := C.2.1
  have hl : lv_has ls 4 [(0, .ref (A 1 0)), (1, .int 6)] := hl
  have l0 : rg 0 = (tI M 2 4).toInt := hr.2.1.1
  have l1 : rg 1 = (tI M 2 6).toInt := hr.2.1.2.1
  have l2 : rg 2 = (tI M 2 5).toInt := hr.2.1.2.2.1
  have l3 : rg 3 = (tI M 2 3).toInt := hr.2.1.2.2.2
  have l4 : rg 4 = (tI M 1 4).toInt := hr.2.2.1.1
  have l5 : rg 5 = (tI M 1 5).toInt := hr.2.2.1.2.1
  have l7 : rg 7 = (tI M t 4).toInt := hr.2.2.2.1.1
  have l8 : rg 8 = (tI M t 5).toInt := hr.2.2.2.1.2.1
  have l9 : rg 9 = (tI M t 3).toInt := hr.2.2.2.1.2.2
  refine lv_aload_n hx hb dX4_readSum_0 rfl (lv_at hl 0 rfl) ?_
  refine lv_iload_n hx hb dX4_readSum_1 rfl (lv_at hl 1 rfl) ?_
  refine ti_callVvE (ci := 4) (av := [.int 6]) C hE hw (x_X4_readProduct_6 l D A cy hJ M hI t ht (hT) j hj (hL) B n rg hr td hq) ⟨ml_X4_184, ym_X4_readProduct, yv_X4_readProduct, yi_X4_readProduct, yc_X4_readProduct⟩ yd_X4_readProduct ob_1 (by decide) rfl rfl hl.1 (Nat.le_of_ble_eq_true rfl) ⟨by decide, by decide⟩ ⟨Nat.zero_le _, Nat.zero_le _⟩ dX4_readSum_2 (fun M_2 H locs hp_2 hw => ?_)
  obtain ⟨iM_2, q_3, q_4, q_5, q_6, p0r_1, p1r_1⟩ := hp_2
  obtain ⟨g_7, eg_7⟩ : ∃ z : Nat → Int, z = pp_pd B n (pp_pt B n 2) rg := ⟨_, rfl⟩
  rw [← eg_7] at p0r_1
  have lg_7_0 : g_7 0 = (tI M_2 2 4).toInt := p0r_1.2.1.1
  have lg_7_1 : g_7 1 = (tI M_2 2 6).toInt := p0r_1.2.1.2.1
  have lg_7_4 : g_7 4 = (tI M_2 1 4).toInt := p0r_1.2.2.1.1
  have lg_7_7 : g_7 7 = (tI M_2 t 4).toInt := p0r_1.2.2.2.1.1
  have lg_7_8 : g_7 8 = (tI M_2 t 5).toInt := p0r_1.2.2.2.1.2.1
  obtain ⟨d_8, ed_8⟩ : ∃ z : Nat → Int, z = qq_pd B n j (pp_pt B n 2) (qq_pt B n j 2) rg td := ⟨_, rfl⟩
  rw [← ed_8] at p1r_1
  refine lv_iconst (v := 0) hx hb dX4_readSum_5 (by decide) ?_
  refine lv_istore_n (lv' := [(2, .int 0), (0, .ref (A 1 0)), (1, .int 6)]) hx hb dX4_readSum_6 rfl hl (by decide) rfl (fun ls hl => ?_)
  have hl_7_24 : ∀ (n_25 : Nat) (x_9 : Int32) (M_12 : ti_M) (g_19 : Nat → Int) (d_21 : Nat → Int) (H : Heap) (locs : List Loc) (ls : Array Slot), (64 - x_9.toInt : Int).toNat < n_25 → (0 ≤ x_9.toInt) → (x_9.toInt ≤ 64) → (cI Tc M_12) → (M_12.2.2.2 = M.2.2.2) → (f0 M_12 M) → (tI M_12 2 1 = tI M 2 1) → (ot t M_12 M) → (tT M_12 1 1 = (some t)) → (tT M_12 1 2 = (some (ti_laws t j))) → (rC B n t g_19 M_12) → (tq t d_21 M_12) → (pp_lp pp_qP (fun s => pp_pd B n (pp_pt B n 2) (pp_kn B n s)) 64 g_7 = pp_lp pp_qP (fun s => pp_pd B n (pp_pt B n 2) (pp_kn B n s)) (64 - (x_9.toInt).toNat) g_19) → (qq_lp pp_qP (fun s => pp_pd B n (pp_pt B n 2) (pp_kn B n s)) (fun s td => qa j (-(s 0)) (qq_pd B n j (pp_pt B n 2) (qq_pt B n j 2) (pp_kn B n s) td)) 64 g_7 d_8 = qq_lp pp_qP (fun s => pp_pd B n (pp_pt B n 2) (pp_kn B n s)) (fun s td => qa j (-(s 0)) (qq_pd B n j (pp_pt B n 2) (qq_pt B n j 2) (pp_kn B n s) td)) (64 - (x_9.toInt).toNat) g_19 d_21) → ti_H ti_LT D A cy H0 M_12 H locs → lv_has ls 4 [(2, .int x_9), (0, .ref (A 1 0)), (1, .int 6)] → W p l e (ti_rm 24) s m args below meth c H locs 0 0 Q (F0 m 7 ls []) := by
    intro n_25
    induction n_25 with
    | zero => intro x_9 M_12 g_19 d_21 H locs ls hf_25; exact absurd hf_25 (Nat.not_lt_zero _)
    | succ n_25 ih_25 =>
      intro x_9 M_12 g_19 d_21 H locs ls hf_25 b_10 b_11 iM_12 f_13 f_14 f_15 f_16 f_17 f_18 hs_20 tq_22 j_23 j_24 hw hl
      have lg_19_0 : g_19 0 = (tI M_12 2 4).toInt := hs_20.2.1.1
      have lg_19_1 : g_19 1 = (tI M_12 2 6).toInt := hs_20.2.1.2.1
      have lg_19_4 : g_19 4 = (tI M_12 1 4).toInt := hs_20.2.2.1.1
      have lg_19_7 : g_19 7 = (tI M_12 t 4).toInt := hs_20.2.2.2.1.1
      have lg_19_8 : g_19 8 = (tI M_12 t 5).toInt := hs_20.2.2.2.1.2.1
      refine lv_iload_n hx hb dX4_readSum_7 rfl (lv_at hl 0 rfl) ?_
      refine lv_bipush (v := 64) hx hb dX4_readSum_8 (by decide) ?_
      refine sb_icmp_ge (tgt := 69) hx hb rfl (by decide : (64 : Int32).toInt = 64) dX4_readSum_10 (by decide) (fun c_10_25 => ?_) (fun c_10_25 => ?_)
      · exact hQ _ _ _ _ _ hw (⟨iM_12, (f_13), f_14, (f_15), f_16, (by unfold pp_sm; rw [← eg_7, j_23, lp_end (P := pp_qP) (f := 64 - x_9.toInt.toNat) (s := g_19) (Or.inl (by omega))]; exact hs_20), (by unfold qq_sm; rw [← eg_7, ← ed_8, j_24, qlp_end (P := pp_qP) (f := 64 - x_9.toInt.toNat) (s := g_19) (Or.inl (by omega))]; exact tq_22)⟩) dX4_readSum_69
      · refine lv_aload_n hx hb dX4_readSum_13 rfl (lv_at hl 1 rfl) ?_
        refine ti_get (ci := 4) (k := 0) (N := 6) (T := TX4) (v := .ref (A 2 0)) C hw iw_4 rfl ob_1 (by decide) (by decide) fl_X4_12 rfl rfl dX4_readSum_14 ?_
        refine ti_get (ci := 7) (k := 4) (N := 7) (T := TX7) C hw iw_7 rfl ob_2 (by decide) (by decide) fl_X4_41 rfl rfl dX4_readSum_17 ?_
        refine lv_topi (fun x_27 ex_27 => ?_)
        have bx_27 : 0 ≤ x_27.toInt ∧ x_27.toInt ≤ 41 := cI_rd iM_12 ob_2.1 ex_27
        have ux_27 : (tI M_12 2 4).toInt = x_27.toInt := by rw [ex_27]
        refine lv_bipush (v := 38) hx hb dX4_readSum_20 (by decide) ?_
        refine sb_icmp_eq (tgt := 37) hx hb rfl (by decide : (38 : Int32).toInt = 38) dX4_readSum_22 (by decide) (fun c_22_27 => ?_) (fun c_22_27 => ?_)
        · refine lv_aload_n hx hb dX4_readSum_37 rfl (lv_at hl 1 rfl) ?_
          refine ti_get (ci := 4) (k := 0) (N := 6) (T := TX4) (v := .ref (A 2 0)) C hw iw_4 rfl ob_1 (by decide) (by decide) fl_X4_12 rfl rfl dX4_readSum_38 ?_
          refine ti_get (ci := 7) (k := 4) (N := 7) (T := TX7) C hw iw_7 rfl ob_2 (by decide) (by decide) fl_X4_41 rfl rfl dX4_readSum_41 ?_
          refine ti_top (y := x_27) (ex_27.symm) ?_
          have u_31 : (tI M_12 2 4).toInt = (x_27 : Int32).toInt := by rw [(ex_27.symm)]
          refine lv_istore_n (lv' := [(3, .int x_27), (2, .int x_9), (0, .ref (A 1 0)), (1, .int 6)]) hx hb dX4_readSum_44 rfl hl (by decide) rfl (fun ls hl => ?_)
          refine lv_aload_n hx hb dX4_readSum_45 rfl (lv_at hl 2 rfl) ?_
          refine ti_callVvE (ci := 4) (av := []) C hE hw (x_X4_knot l D A cy hJ M_12 iM_12 t ht (f_17) B n g_19 hs_20 d_21 tq_22) ⟨ml_X4_167, ym_X4_knot, yv_X4_knot, yi_X4_knot, yc_X4_knot⟩ yd_X4_knot ob_1 (by decide) rfl rfl hl.1 (Nat.le_of_ble_eq_true rfl) ⟨by decide, by decide⟩ ⟨Nat.zero_le _, Nat.zero_le _⟩ dX4_readSum_46 (fun M_33 H locs hp_33 hw => ?_)
          obtain ⟨iM_33, q_34, q_35, q_36, q_37, q_38, p0r_32, p1r_32⟩ := hp_33
          obtain ⟨g_39, eg_39⟩ : ∃ z : Nat → Int, z = pp_kn B n g_19 := ⟨_, rfl⟩
          rw [← eg_39] at p0r_32
          have lg_39_0 : g_39 0 = (tI M_33 2 4).toInt := p0r_32.2.1.1
          have lg_39_1 : g_39 1 = (tI M_33 2 6).toInt := p0r_32.2.1.2.1
          have lg_39_4 : g_39 4 = (tI M_33 1 4).toInt := p0r_32.2.2.1.1
          have lg_39_7 : g_39 7 = (tI M_33 t 4).toInt := p0r_32.2.2.2.1.1
          have lg_39_8 : g_39 8 = (tI M_33 t 5).toInt := p0r_32.2.2.2.1.2.1
          refine lv_aload_n hx hb dX4_readSum_49 rfl (lv_at hl 2 rfl) ?_
          refine lv_iload_n hx hb dX4_readSum_50 rfl (lv_at hl 3 rfl) ?_
          refine ti_callVvE (ci := 4) (av := [.int 6]) C hE hw (x_X4_readProduct_6 l D A cy hJ M_33 iM_33 t ht ((tT_fr q_34).trans f_17) j hj ((tT_fr q_34).trans f_18) B n g_39 p0r_32 d_21 p1r_32) ⟨ml_X4_184, ym_X4_readProduct, yv_X4_readProduct, yi_X4_readProduct, yc_X4_readProduct⟩ yd_X4_readProduct ob_1 (by decide) rfl rfl hl.1 (Nat.le_of_ble_eq_true rfl) ⟨by decide, by decide⟩ ⟨Nat.zero_le _, Nat.zero_le _⟩ dX4_readSum_51 (fun M_41 H locs hp_41 hw => ?_)
          obtain ⟨iM_41, q_42, q_43, q_44, q_45, p0r_40, p1r_40⟩ := hp_41
          obtain ⟨g_46, eg_46⟩ : ∃ z : Nat → Int, z = pp_pd B n (pp_pt B n 2) g_39 := ⟨_, rfl⟩
          rw [← eg_46] at p0r_40
          have lg_46_0 : g_46 0 = (tI M_41 2 4).toInt := p0r_40.2.1.1
          have lg_46_1 : g_46 1 = (tI M_41 2 6).toInt := p0r_40.2.1.2.1
          have lg_46_4 : g_46 4 = (tI M_41 1 4).toInt := p0r_40.2.2.1.1
          have lg_46_7 : g_46 7 = (tI M_41 t 4).toInt := p0r_40.2.2.2.1.1
          have lg_46_8 : g_46 8 = (tI M_41 t 5).toInt := p0r_40.2.2.2.1.2.1
          obtain ⟨d_47, ed_47⟩ : ∃ z : Nat → Int, z = qq_pd B n j (pp_pt B n 2) (qq_pt B n j 2) g_39 d_21 := ⟨_, rfl⟩
          rw [← ed_47] at p1r_40
          refine lv_aload_n hx hb dX4_readSum_54 rfl (lv_at hl 2 rfl) ?_
          refine ti_get (ci := 4) (k := 2) (N := 6) (T := TX4) (v := .ref (A (ti_laws t j) 0)) C hw iw_4 rfl ob_1 (by decide) (by decide) fl_X4_154 rfl (ti_Tv ((tT_fr q_42).trans ((tT_fr q_34).trans f_18))) dX4_readSum_55 ?_
          refine lv_iload_n hx hb dX4_readSum_58 rfl (lv_at hl 0 rfl) ?_
          refine lv_ineg hx hb dX4_readSum_59 ?_
          refine lv_topi (fun x_48 ex_48 => ?_)
          have tx_48 : x_48.toInt = -x_27.toInt := i_neg ex_48 rfl (by omega)
          refine ti_callVv (ci := 1) (av := [.int x_48]) C hw (x_X1_add l D A cy hJ M_41 iM_41 t ht j hj x_48 (by first | omega | exact Or.inl (by decide) | exact Or.inr (by decide)) B n g_46 p0r_40 d_47 p1r_40) ⟨ml_X4_170, ym_X1_add, yv_X1_add, yi_X1_add, yc_X1_add⟩ yd_X1_add (ob_l ht hj) (by decide) rfl rfl hl.1 (Nat.le_of_ble_eq_true rfl) ⟨by decide, by decide⟩ ⟨Nat.zero_le _, Nat.zero_le _⟩ dX4_readSum_60 (fun M_50 H locs hp_50 hw => ?_)
          obtain ⟨iM_50, q_51, q_52, q_53, p0r_49, p1r_49⟩ := hp_50
          have lM_50_0 : g_46 0 = (tI M_50 2 4).toInt := p0r_49.2.1.1
          have lM_50_1 : g_46 1 = (tI M_50 2 6).toInt := p0r_49.2.1.2.1
          have lM_50_4 : g_46 4 = (tI M_50 1 4).toInt := p0r_49.2.2.1.1
          have lM_50_7 : g_46 7 = (tI M_50 t 4).toInt := p0r_49.2.2.2.1.1
          have lM_50_8 : g_46 8 = (tI M_50 t 5).toInt := p0r_49.2.2.2.1.2.1
          obtain ⟨d_54, ed_54⟩ : ∃ z : Nat → Int, z = qa j x_48.toInt d_47 := ⟨_, rfl⟩
          rw [← ed_54] at p1r_49
          obtain ⟨x_55, ex_55⟩ : ∃ z : Int32, z = x_9 + 1 := ⟨_, rfl⟩
          have tx_55 : x_55.toInt = x_9.toInt + 1 := i_add ex_55 rfl (by decide) (by omega) (by omega)
          refine lv_iinc (v := x_55) (lv' := [(2, .int x_55), (3, .int x_27), (0, .ref (A 1 0)), (1, .int 6)]) hx hb dX4_readSum_63 hl (k := 1) rfl (by rw [ex_55]; rfl) (by decide) rfl (fun ls hl => ?_)
          refine lv_goto (tgt := 7) hx hb dX4_readSum_66 (by decide) ?_
          exact ih_25 x_55 M_50 g_46 d_54 _ _ _ (by omega) (by first | omega | decide) (by first | omega | decide) iM_50 ((q_51).trans ((q_42).trans ((q_34).trans f_13))) (f0.trans (f0_x q_52) (f0.trans q_43 (f0.trans q_35 f_14))) (((q_52 1).2.1).trans ((q_44).trans ((q_36).trans f_15))) (ot.trans q_53 (ot.trans q_45 (ot.trans q_37 f_16))) ((tT_fr q_51).trans ((tT_fr q_42).trans ((tT_fr q_34).trans f_17))) ((tT_fr q_51).trans ((tT_fr q_42).trans ((tT_fr q_34).trans f_18))) p0r_49 p1r_49 (j_23.trans (lp_step (decide_eq_true (by omega)) (by rw [eg_46, eg_39]) (by omega))) (j_24.trans (qlp_step (decide_eq_true (by omega)) (by rw [eg_46, eg_39]) (by rw [ed_54, show x_48.toInt = -(g_19 0) by omega, ed_47, eg_39]) (by omega))) hw (lv_sub hl [0, 2, 3] rfl)
        · refine lv_aload_n hx hb dX4_readSum_25 rfl (lv_at hl 1 rfl) ?_
          refine ti_get (ci := 4) (k := 0) (N := 6) (T := TX4) (v := .ref (A 2 0)) C hw iw_4 rfl ob_1 (by decide) (by decide) fl_X4_12 rfl rfl dX4_readSum_26 ?_
          refine ti_get (ci := 7) (k := 4) (N := 7) (T := TX7) C hw iw_7 rfl ob_2 (by decide) (by decide) fl_X4_41 rfl rfl dX4_readSum_29 ?_
          refine ti_top (y := x_27) (ex_27.symm) ?_
          have u_29 : (tI M_12 2 4).toInt = (x_27 : Int32).toInt := by rw [(ex_27.symm)]
          refine lv_bipush (v := 39) hx hb dX4_readSum_32 (by decide) ?_
          refine sb_icmp_ne (tgt := 69) hx hb rfl (by decide : (39 : Int32).toInt = 39) dX4_readSum_34 (by decide) (fun c_34_29 => ?_) (fun c_34_29 => ?_)
          · exact hQ _ _ _ _ _ hw (⟨iM_12, (f_13), f_14, (f_15), f_16, (by unfold pp_sm; rw [← eg_7, j_23, lp_end (P := pp_qP) (f := 64 - x_9.toInt.toNat) (s := g_19) (Or.inr (decide_eq_false (by omega)))]; exact hs_20), (by unfold qq_sm; rw [← eg_7, ← ed_8, j_24, qlp_end (P := pp_qP) (f := 64 - x_9.toInt.toNat) (s := g_19) (Or.inr (decide_eq_false (by omega)))]; exact tq_22)⟩) dX4_readSum_69
          · refine lv_aload_n hx hb dX4_readSum_37 rfl (lv_at hl 1 rfl) ?_
            refine ti_get (ci := 4) (k := 0) (N := 6) (T := TX4) (v := .ref (A 2 0)) C hw iw_4 rfl ob_1 (by decide) (by decide) fl_X4_12 rfl rfl dX4_readSum_38 ?_
            refine ti_get (ci := 7) (k := 4) (N := 7) (T := TX7) C hw iw_7 rfl ob_2 (by decide) (by decide) fl_X4_41 rfl rfl dX4_readSum_41 ?_
            refine ti_top (y := x_27) (ex_27.symm) ?_
            have u_56 : (tI M_12 2 4).toInt = (x_27 : Int32).toInt := by rw [(ex_27.symm)]
            refine lv_istore_n (lv' := [(3, .int x_27), (2, .int x_9), (0, .ref (A 1 0)), (1, .int 6)]) hx hb dX4_readSum_44 rfl hl (by decide) rfl (fun ls hl => ?_)
            refine lv_aload_n hx hb dX4_readSum_45 rfl (lv_at hl 2 rfl) ?_
            refine ti_callVvE (ci := 4) (av := []) C hE hw (x_X4_knot l D A cy hJ M_12 iM_12 t ht (f_17) B n g_19 hs_20 d_21 tq_22) ⟨ml_X4_167, ym_X4_knot, yv_X4_knot, yi_X4_knot, yc_X4_knot⟩ yd_X4_knot ob_1 (by decide) rfl rfl hl.1 (Nat.le_of_ble_eq_true rfl) ⟨by decide, by decide⟩ ⟨Nat.zero_le _, Nat.zero_le _⟩ dX4_readSum_46 (fun M_58 H locs hp_58 hw => ?_)
            obtain ⟨iM_58, q_59, q_60, q_61, q_62, q_63, p0r_57, p1r_57⟩ := hp_58
            obtain ⟨g_64, eg_64⟩ : ∃ z : Nat → Int, z = pp_kn B n g_19 := ⟨_, rfl⟩
            rw [← eg_64] at p0r_57
            have lg_64_0 : g_64 0 = (tI M_58 2 4).toInt := p0r_57.2.1.1
            have lg_64_1 : g_64 1 = (tI M_58 2 6).toInt := p0r_57.2.1.2.1
            have lg_64_4 : g_64 4 = (tI M_58 1 4).toInt := p0r_57.2.2.1.1
            have lg_64_7 : g_64 7 = (tI M_58 t 4).toInt := p0r_57.2.2.2.1.1
            have lg_64_8 : g_64 8 = (tI M_58 t 5).toInt := p0r_57.2.2.2.1.2.1
            refine lv_aload_n hx hb dX4_readSum_49 rfl (lv_at hl 2 rfl) ?_
            refine lv_iload_n hx hb dX4_readSum_50 rfl (lv_at hl 3 rfl) ?_
            refine ti_callVvE (ci := 4) (av := [.int 6]) C hE hw (x_X4_readProduct_6 l D A cy hJ M_58 iM_58 t ht ((tT_fr q_59).trans f_17) j hj ((tT_fr q_59).trans f_18) B n g_64 p0r_57 d_21 p1r_57) ⟨ml_X4_184, ym_X4_readProduct, yv_X4_readProduct, yi_X4_readProduct, yc_X4_readProduct⟩ yd_X4_readProduct ob_1 (by decide) rfl rfl hl.1 (Nat.le_of_ble_eq_true rfl) ⟨by decide, by decide⟩ ⟨Nat.zero_le _, Nat.zero_le _⟩ dX4_readSum_51 (fun M_66 H locs hp_66 hw => ?_)
            obtain ⟨iM_66, q_67, q_68, q_69, q_70, p0r_65, p1r_65⟩ := hp_66
            obtain ⟨g_71, eg_71⟩ : ∃ z : Nat → Int, z = pp_pd B n (pp_pt B n 2) g_64 := ⟨_, rfl⟩
            rw [← eg_71] at p0r_65
            have lg_71_0 : g_71 0 = (tI M_66 2 4).toInt := p0r_65.2.1.1
            have lg_71_1 : g_71 1 = (tI M_66 2 6).toInt := p0r_65.2.1.2.1
            have lg_71_4 : g_71 4 = (tI M_66 1 4).toInt := p0r_65.2.2.1.1
            have lg_71_7 : g_71 7 = (tI M_66 t 4).toInt := p0r_65.2.2.2.1.1
            have lg_71_8 : g_71 8 = (tI M_66 t 5).toInt := p0r_65.2.2.2.1.2.1
            obtain ⟨d_72, ed_72⟩ : ∃ z : Nat → Int, z = qq_pd B n j (pp_pt B n 2) (qq_pt B n j 2) g_64 d_21 := ⟨_, rfl⟩
            rw [← ed_72] at p1r_65
            refine lv_aload_n hx hb dX4_readSum_54 rfl (lv_at hl 2 rfl) ?_
            refine ti_get (ci := 4) (k := 2) (N := 6) (T := TX4) (v := .ref (A (ti_laws t j) 0)) C hw iw_4 rfl ob_1 (by decide) (by decide) fl_X4_154 rfl (ti_Tv ((tT_fr q_67).trans ((tT_fr q_59).trans f_18))) dX4_readSum_55 ?_
            refine lv_iload_n hx hb dX4_readSum_58 rfl (lv_at hl 0 rfl) ?_
            refine lv_ineg hx hb dX4_readSum_59 ?_
            refine lv_topi (fun x_73 ex_73 => ?_)
            have tx_73 : x_73.toInt = -x_27.toInt := i_neg ex_73 rfl (by omega)
            refine ti_callVv (ci := 1) (av := [.int x_73]) C hw (x_X1_add l D A cy hJ M_66 iM_66 t ht j hj x_73 (by first | omega | exact Or.inl (by decide) | exact Or.inr (by decide)) B n g_71 p0r_65 d_72 p1r_65) ⟨ml_X4_170, ym_X1_add, yv_X1_add, yi_X1_add, yc_X1_add⟩ yd_X1_add (ob_l ht hj) (by decide) rfl rfl hl.1 (Nat.le_of_ble_eq_true rfl) ⟨by decide, by decide⟩ ⟨Nat.zero_le _, Nat.zero_le _⟩ dX4_readSum_60 (fun M_75 H locs hp_75 hw => ?_)
            obtain ⟨iM_75, q_76, q_77, q_78, p0r_74, p1r_74⟩ := hp_75
            have lM_75_0 : g_71 0 = (tI M_75 2 4).toInt := p0r_74.2.1.1
            have lM_75_1 : g_71 1 = (tI M_75 2 6).toInt := p0r_74.2.1.2.1
            have lM_75_4 : g_71 4 = (tI M_75 1 4).toInt := p0r_74.2.2.1.1
            have lM_75_7 : g_71 7 = (tI M_75 t 4).toInt := p0r_74.2.2.2.1.1
            have lM_75_8 : g_71 8 = (tI M_75 t 5).toInt := p0r_74.2.2.2.1.2.1
            obtain ⟨d_79, ed_79⟩ : ∃ z : Nat → Int, z = qa j x_73.toInt d_72 := ⟨_, rfl⟩
            rw [← ed_79] at p1r_74
            obtain ⟨x_80, ex_80⟩ : ∃ z : Int32, z = x_9 + 1 := ⟨_, rfl⟩
            have tx_80 : x_80.toInt = x_9.toInt + 1 := i_add ex_80 rfl (by decide) (by omega) (by omega)
            refine lv_iinc (v := x_80) (lv' := [(2, .int x_80), (3, .int x_27), (0, .ref (A 1 0)), (1, .int 6)]) hx hb dX4_readSum_63 hl (k := 1) rfl (by rw [ex_80]; rfl) (by decide) rfl (fun ls hl => ?_)
            refine lv_goto (tgt := 7) hx hb dX4_readSum_66 (by decide) ?_
            exact ih_25 x_80 M_75 g_71 d_79 _ _ _ (by omega) (by first | omega | decide) (by first | omega | decide) iM_75 ((q_76).trans ((q_67).trans ((q_59).trans f_13))) (f0.trans (f0_x q_77) (f0.trans q_68 (f0.trans q_60 f_14))) (((q_77 1).2.1).trans ((q_69).trans ((q_61).trans f_15))) (ot.trans q_78 (ot.trans q_70 (ot.trans q_62 f_16))) ((tT_fr q_76).trans ((tT_fr q_67).trans ((tT_fr q_59).trans f_17))) ((tT_fr q_76).trans ((tT_fr q_67).trans ((tT_fr q_59).trans f_18))) p0r_74 p1r_74 (j_23.trans (lp_step (decide_eq_true (by omega)) (by rw [eg_71, eg_64]) (by omega))) (j_24.trans (qlp_step (decide_eq_true (by omega)) (by rw [eg_71, eg_64]) (by rw [ed_79, show x_73.toInt = -(g_19 0) by omega, ed_72, eg_64]) (by omega))) hw (lv_sub hl [0, 2, 3] rfl)
  exact hl_7_24 ((64 - 0 : Int).toNat + 1) 0 M_2 g_7 d_8 _ _ _ (Nat.lt_succ_self _) (by have lt0 : (0 : Int32).toInt = 0 := (by decide); first | omega | decide) (by have lt0 : (0 : Int32).toInt = 0 := (by decide); first | omega | decide) iM_2 (q_3) q_4 (q_5) q_6 ((tT_fr q_3).trans hT) ((tT_fr q_3).trans hL) p0r_1 p1r_1 rfl rfl hw (lv_sub hl [0, 1, 2] rfl)
set_option maxHeartbeats 4000000 in
set_option maxRecDepth 100000 in
theorem x_X4_readComparison_6 (l : Launch) (D : va_G) (A : Nat → Nat → Nat) (cy : Nat → ClassId) (hJ : ti_inj ti_LT A) (M : ti_M) (hI : cI Tc M) (t : Nat) (ht : t = 3 ∨ t = 4) (hT : tT M 1 1 = some t) (j : Nat) (hj : j < 3) (hL : tT M 1 2 = some (ti_laws t j)) (B : Nat → Int) (n : Nat) (rg : Nat → Int) (hr : rC B n t rg M) (td : Nat → Int) (hq : tq t td M) : ti_KvE l yX4_readComparison cX4_readComparison 3 25 ti_LT D A cy M [.ref (A 1 0), .int 6] (fun M2 => cI Tc M2 ∧ M2.2.2.2 = M.2.2.2 ∧ f0 M2 M ∧ tI M2 2 1 = tI M 2 1 ∧ ot t M2 M ∧ rC B n t (pp_cm B n (pp_pt B n 2) rg) M2 ∧ tq t (qq_cm B n j (pp_pt B n 2) (qq_pt B n j 2) rg td) M2) := by
  refine ti_eVE yp_X4_readComparison hJ ti_LT_nd (Nat.le_of_ble_eq_true rfl) ?_
  intro p e s m args below meth c Q H0 C hE hQ hw ls hl
  have hx := C.1
  have hb := C.2.1
  have hl : lv_has ls 3 [(0, .ref (A 1 0)), (1, .int 6)] := hl
  have l0 : rg 0 = (tI M 2 4).toInt := hr.2.1.1
  have l1 : rg 1 = (tI M 2 6).toInt := hr.2.1.2.1
  have l2 : rg 2 = (tI M 2 5).toInt := hr.2.1.2.2.1
  have l3 : rg 3 = (tI M 2 3).toInt := hr.2.1.2.2.2
  have l4 : rg 4 = (tI M 1 4).toInt := hr.2.2.1.1
  have l5 : rg 5 = (tI M 1 5).toInt := hr.2.2.1.2.1
  have l7 : rg 7 = (tI M t 4).toInt := hr.2.2.2.1.1
  have l8 : rg 8 = (tI M t 5).toInt := hr.2.2.2.1.2.1
  have l9 : rg 9 = (tI M t 3).toInt := hr.2.2.2.1.2.2
  refine lv_aload_n hx hb dX4_readComparison_0 rfl (lv_at hl 0 rfl) ?_
  refine lv_iload_n hx hb dX4_readComparison_1 rfl (lv_at hl 1 rfl) ?_
  refine ti_callVvE (ci := 4) (av := [.int 6]) C hE hw (x_X4_readSum_6 l D A cy hJ M hI t ht (hT) j hj (hL) B n rg hr td hq) ⟨ml_X4_181, ym_X4_readSum, yv_X4_readSum, yi_X4_readSum, yc_X4_readSum⟩ yd_X4_readSum ob_1 (by decide) rfl rfl hl.1 (Nat.le_of_ble_eq_true rfl) ⟨by decide, by decide⟩ ⟨Nat.zero_le _, Nat.zero_le _⟩ dX4_readComparison_2 (fun M_2 H locs hp_2 hw => ?_)
  obtain ⟨iM_2, q_3, q_4, q_5, q_6, p0r_1, p1r_1⟩ := hp_2
  obtain ⟨g_7, eg_7⟩ : ∃ z : Nat → Int, z = pp_sm B n (pp_pt B n 2) rg := ⟨_, rfl⟩
  rw [← eg_7] at p0r_1
  have lg_7_0 : g_7 0 = (tI M_2 2 4).toInt := p0r_1.2.1.1
  have lg_7_1 : g_7 1 = (tI M_2 2 6).toInt := p0r_1.2.1.2.1
  have lg_7_4 : g_7 4 = (tI M_2 1 4).toInt := p0r_1.2.2.1.1
  have lg_7_7 : g_7 7 = (tI M_2 t 4).toInt := p0r_1.2.2.2.1.1
  have lg_7_8 : g_7 8 = (tI M_2 t 5).toInt := p0r_1.2.2.2.1.2.1
  obtain ⟨d_8, ed_8⟩ : ∃ z : Nat → Int, z = qq_sm B n j (pp_pt B n 2) (qq_pt B n j 2) rg td := ⟨_, rfl⟩
  rw [← ed_8] at p1r_1
  refine lv_aload_n hx hb dX4_readComparison_5 rfl (lv_at hl 0 rfl) ?_
  refine ti_get (ci := 4) (k := 0) (N := 6) (T := TX4) (v := .ref (A 2 0)) C hw iw_4 rfl ob_1 (by decide) (by decide) fl_X4_12 rfl rfl dX4_readComparison_6 ?_
  refine ti_get (ci := 7) (k := 4) (N := 7) (T := TX7) C hw iw_7 rfl ob_2 (by decide) (by decide) fl_X4_41 rfl rfl dX4_readComparison_9 ?_
  refine lv_topi (fun x_9 ex_9 => ?_)
  have bx_9 : 0 ≤ x_9.toInt ∧ x_9.toInt ≤ 41 := cI_rd iM_2 ob_2.1 ex_9
  have ux_9 : (tI M_2 2 4).toInt = x_9.toInt := by rw [ex_9]
  refine lv_istore_n (lv' := [(2, .int x_9), (0, .ref (A 1 0)), (1, .int 6)]) hx hb dX4_readComparison_12 rfl hl (by decide) rfl (fun ls hl => ?_)
  refine lv_iload_n hx hb dX4_readComparison_13 rfl (lv_at hl 0 rfl) ?_
  refine lv_bipush (v := 32) hx hb dX4_readComparison_14 (by decide) ?_
  refine sb_icmp_lt (tgt := 43) hx hb rfl (by decide : (32 : Int32).toInt = 32) dX4_readComparison_16 (by decide) (fun c_16_9 => ?_) (fun c_16_9 => ?_)
  · exact hQ _ _ _ _ _ hw (⟨iM_2, (q_3), q_4, (q_5), q_6, (by unfold pp_cm; rw [← eg_7]; unfold pp_c2; rw [if_neg (fun q => by omega)]; exact p0r_1), (by unfold qq_cm; rw [← eg_7, ← ed_8]; unfold qq_c2; rw [if_neg (fun q => by omega)]; exact p1r_1)⟩) dX4_readComparison_43
  · refine lv_iload_n hx hb dX4_readComparison_19 rfl (lv_at hl 0 rfl) ?_
    refine lv_bipush (v := 37) hx hb dX4_readComparison_20 (by decide) ?_
    refine sb_icmp_gt (tgt := 43) hx hb rfl (by decide : (37 : Int32).toInt = 37) dX4_readComparison_22 (by decide) (fun c_22_10 => ?_) (fun c_22_10 => ?_)
    · exact hQ _ _ _ _ _ hw (⟨iM_2, (q_3), q_4, (q_5), q_6, (by unfold pp_cm; rw [← eg_7]; unfold pp_c2; rw [if_neg (fun q => by omega)]; exact p0r_1), (by unfold qq_cm; rw [← eg_7, ← ed_8]; unfold qq_c2; rw [if_neg (fun q => by omega)]; exact p1r_1)⟩) dX4_readComparison_43
    · refine lv_aload_n hx hb dX4_readComparison_25 rfl (lv_at hl 1 rfl) ?_
      refine ti_callVvE (ci := 4) (av := []) C hE hw (x_X4_knot l D A cy hJ M_2 iM_2 t ht ((tT_fr q_3).trans hT) B n g_7 p0r_1 d_8 p1r_1) ⟨ml_X4_167, ym_X4_knot, yv_X4_knot, yi_X4_knot, yc_X4_knot⟩ yd_X4_knot ob_1 (by decide) rfl rfl hl.1 (Nat.le_of_ble_eq_true rfl) ⟨by decide, by decide⟩ ⟨Nat.zero_le _, Nat.zero_le _⟩ dX4_readComparison_26 (fun M_13 H locs hp_13 hw => ?_)
      obtain ⟨iM_13, q_14, q_15, q_16, q_17, q_18, p0r_12, p1r_12⟩ := hp_13
      obtain ⟨g_19, eg_19⟩ : ∃ z : Nat → Int, z = pp_kn B n g_7 := ⟨_, rfl⟩
      rw [← eg_19] at p0r_12
      have lg_19_0 : g_19 0 = (tI M_13 2 4).toInt := p0r_12.2.1.1
      have lg_19_1 : g_19 1 = (tI M_13 2 6).toInt := p0r_12.2.1.2.1
      have lg_19_4 : g_19 4 = (tI M_13 1 4).toInt := p0r_12.2.2.1.1
      have lg_19_7 : g_19 7 = (tI M_13 t 4).toInt := p0r_12.2.2.2.1.1
      have lg_19_8 : g_19 8 = (tI M_13 t 5).toInt := p0r_12.2.2.2.1.2.1
      refine lv_aload_n hx hb dX4_readComparison_29 rfl (lv_at hl 1 rfl) ?_
      refine lv_iload_n hx hb dX4_readComparison_30 rfl (lv_at hl 2 rfl) ?_
      refine ti_callVvE (ci := 4) (av := [.int 6]) C hE hw (x_X4_readSum_6 l D A cy hJ M_13 iM_13 t ht ((tT_fr q_14).trans ((tT_fr q_3).trans hT)) j hj ((tT_fr q_14).trans ((tT_fr q_3).trans hL)) B n g_19 p0r_12 d_8 p1r_12) ⟨ml_X4_181, ym_X4_readSum, yv_X4_readSum, yi_X4_readSum, yc_X4_readSum⟩ yd_X4_readSum ob_1 (by decide) rfl rfl hl.1 (Nat.le_of_ble_eq_true rfl) ⟨by decide, by decide⟩ ⟨Nat.zero_le _, Nat.zero_le _⟩ dX4_readComparison_31 (fun M_21 H locs hp_21 hw => ?_)
      obtain ⟨iM_21, q_22, q_23, q_24, q_25, p0r_20, p1r_20⟩ := hp_21
      obtain ⟨g_26, eg_26⟩ : ∃ z : Nat → Int, z = pp_sm B n (pp_pt B n 2) g_19 := ⟨_, rfl⟩
      rw [← eg_26] at p0r_20
      have lg_26_0 : g_26 0 = (tI M_21 2 4).toInt := p0r_20.2.1.1
      have lg_26_1 : g_26 1 = (tI M_21 2 6).toInt := p0r_20.2.1.2.1
      have lg_26_4 : g_26 4 = (tI M_21 1 4).toInt := p0r_20.2.2.1.1
      have lg_26_7 : g_26 7 = (tI M_21 t 4).toInt := p0r_20.2.2.2.1.1
      have lg_26_8 : g_26 8 = (tI M_21 t 5).toInt := p0r_20.2.2.2.1.2.1
      obtain ⟨d_27, ed_27⟩ : ∃ z : Nat → Int, z = qq_sm B n j (pp_pt B n 2) (qq_pt B n j 2) g_19 d_8 := ⟨_, rfl⟩
      rw [← ed_27] at p1r_20
      refine lv_aload_n hx hb dX4_readComparison_34 rfl (lv_at hl 1 rfl) ?_
      refine ti_get (ci := 4) (k := 2) (N := 6) (T := TX4) (v := .ref (A (ti_laws t j) 0)) C hw iw_4 rfl ob_1 (by decide) (by decide) fl_X4_154 rfl (ti_Tv ((tT_fr q_22).trans ((tT_fr q_14).trans ((tT_fr q_3).trans hL)))) dX4_readComparison_35 ?_
      refine lv_iload_n hx hb dX4_readComparison_38 rfl (lv_at hl 0 rfl) ?_
      refine lv_ineg hx hb dX4_readComparison_39 ?_
      refine lv_topi (fun x_28 ex_28 => ?_)
      have tx_28 : x_28.toInt = -x_9.toInt := i_neg ex_28 rfl (by omega)
      refine ti_callVv (ci := 1) (av := [.int x_28]) C hw (x_X1_add l D A cy hJ M_21 iM_21 t ht j hj x_28 (by first | omega | exact Or.inl (by decide) | exact Or.inr (by decide)) B n g_26 p0r_20 d_27 p1r_20) ⟨ml_X4_170, ym_X1_add, yv_X1_add, yi_X1_add, yc_X1_add⟩ yd_X1_add (ob_l ht hj) (by decide) rfl rfl hl.1 (Nat.le_of_ble_eq_true rfl) ⟨by decide, by decide⟩ ⟨Nat.zero_le _, Nat.zero_le _⟩ dX4_readComparison_40 (fun M_30 H locs hp_30 hw => ?_)
      obtain ⟨iM_30, q_31, q_32, q_33, p0r_29, p1r_29⟩ := hp_30
      have lM_30_0 : g_26 0 = (tI M_30 2 4).toInt := p0r_29.2.1.1
      have lM_30_1 : g_26 1 = (tI M_30 2 6).toInt := p0r_29.2.1.2.1
      have lM_30_4 : g_26 4 = (tI M_30 1 4).toInt := p0r_29.2.2.1.1
      have lM_30_7 : g_26 7 = (tI M_30 t 4).toInt := p0r_29.2.2.2.1.1
      have lM_30_8 : g_26 8 = (tI M_30 t 5).toInt := p0r_29.2.2.2.1.2.1
      obtain ⟨d_34, ed_34⟩ : ∃ z : Nat → Int, z = qa j x_28.toInt d_27 := ⟨_, rfl⟩
      rw [← ed_34] at p1r_29
      exact hQ _ _ _ _ _ hw (⟨iM_30, ((q_31).trans ((q_22).trans ((q_14).trans q_3))), (f0.trans (f0_x q_32) (f0.trans q_23 (f0.trans q_15 q_4))), (((q_32 1).2.1).trans ((q_24).trans ((q_16).trans q_5))), (ot.trans q_33 (ot.trans q_25 (ot.trans q_17 q_6))), (by unfold pp_cm; rw [← eg_7]; unfold pp_c2; rw [if_pos ⟨by omega, by omega⟩, ← eg_19, ← eg_26]; exact p0r_29), (by unfold qq_cm; rw [← eg_7, ← ed_8]; unfold qq_c2; rw [if_pos ⟨by omega, by omega⟩, ← eg_19, ← ed_27, show -(g_7 0) = x_28.toInt by omega, ← ed_34]; exact p1r_29)⟩) dX4_readComparison_43
set_option maxHeartbeats 4000000 in
set_option maxRecDepth 100000 in
theorem x_X4_readNegated_6 (l : Launch) (D : va_G) (A : Nat → Nat → Nat) (cy : Nat → ClassId) (hJ : ti_inj ti_LT A) (M : ti_M) (hI : cI Tc M) (t : Nat) (ht : t = 3 ∨ t = 4) (hT : tT M 1 1 = some t) (j : Nat) (hj : j < 3) (hL : tT M 1 2 = some (ti_laws t j)) (B : Nat → Int) (n : Nat) (rg : Nat → Int) (hr : rC B n t rg M) (td : Nat → Int) (hq : tq t td M) : ti_KvE l yX4_readNegated cX4_readNegated 4 26 ti_LT D A cy M [.ref (A 1 0), .int 6] (fun M2 => cI Tc M2 ∧ M2.2.2.2 = M.2.2.2 ∧ f0 M2 M ∧ tI M2 2 1 = tI M 2 1 ∧ ot t M2 M ∧ rC B n t (pp_ng B n (pp_pt B n 2) rg) M2 ∧ tq t (qq_ng B n j (pp_pt B n 2) (qq_pt B n j 2) rg td) M2) := by
  refine ti_eVE yp_X4_readNegated hJ ti_LT_nd (Nat.le_of_ble_eq_true rfl) ?_
  intro p e s m args below meth c Q H0 C hE hQ hw ls hl
  have hx := C.1
  have hb := C.2.1
  have hl : lv_has ls 4 [(0, .ref (A 1 0)), (1, .int 6)] := hl
  have l0 : rg 0 = (tI M 2 4).toInt := hr.2.1.1
  have l1 : rg 1 = (tI M 2 6).toInt := hr.2.1.2.1
  have l2 : rg 2 = (tI M 2 5).toInt := hr.2.1.2.2.1
  have l3 : rg 3 = (tI M 2 3).toInt := hr.2.1.2.2.2
  have l4 : rg 4 = (tI M 1 4).toInt := hr.2.2.1.1
  have l5 : rg 5 = (tI M 1 5).toInt := hr.2.2.1.2.1
  have l7 : rg 7 = (tI M t 4).toInt := hr.2.2.2.1.1
  have l8 : rg 8 = (tI M t 5).toInt := hr.2.2.2.1.2.1
  have l9 : rg 9 = (tI M t 3).toInt := hr.2.2.2.1.2.2
  refine lv_iconst (v := 0) hx hb dX4_readNegated_0 (by decide) ?_
  refine lv_istore_n (lv' := [(2, .int 0), (0, .ref (A 1 0)), (1, .int 6)]) hx hb dX4_readNegated_1 rfl hl (by decide) rfl (fun ls hl => ?_)
  have hl_2_17 : ∀ (n_18 : Nat) (x_1 : Int32) (M_4 : ti_M) (g_11 : Nat → Int) (d_13 : Nat → Int) (H : Heap) (locs : List Loc) (ls : Array Slot), (65 - x_1.toInt : Int).toNat < n_18 → (0 ≤ x_1.toInt) → (x_1.toInt ≤ 65) → (cI Tc M_4) → (M_4.2.2.2 = M.2.2.2) → (f0 M_4 M) → (tI M_4 2 1 = tI M 2 1) → (ot t M_4 M) → (tT M_4 1 1 = (some t)) → (tT M_4 1 2 = (some (ti_laws t j))) → (rC B n t g_11 M_4) → (tq t d_13 M_4) → (pp_lp pp_qN (pp_kn B n) 65 rg = pp_lp pp_qN (pp_kn B n) (65 - (x_1.toInt).toNat) g_11) → (qq_ca B n 65 rg 0 = qq_ca B n (65 - (x_1.toInt).toNat) g_11 (x_1.toInt).toNat) → (td = d_13) → ti_H ti_LT D A cy H0 M_4 H locs → lv_has ls 4 [(2, .int x_1), (0, .ref (A 1 0)), (1, .int 6)] → W p l e (ti_rm 26) s m args below meth c H locs 0 0 Q (F0 m 2 ls []) := by
    intro n_18
    induction n_18 with
    | zero => intro x_1 M_4 g_11 d_13 H locs ls hf_18; exact absurd hf_18 (Nat.not_lt_zero _)
    | succ n_18 ih_18 =>
      intro x_1 M_4 g_11 d_13 H locs ls hf_18 b_2 b_3 iM_4 f_5 f_6 f_7 f_8 f_9 f_10 hs_12 tq_14 j_15 j_16 j_17 hw hl
      have lg_11_0 : g_11 0 = (tI M_4 2 4).toInt := hs_12.2.1.1
      have lg_11_1 : g_11 1 = (tI M_4 2 6).toInt := hs_12.2.1.2.1
      have lg_11_4 : g_11 4 = (tI M_4 1 4).toInt := hs_12.2.2.1.1
      have lg_11_7 : g_11 7 = (tI M_4 t 4).toInt := hs_12.2.2.2.1.1
      have lg_11_8 : g_11 8 = (tI M_4 t 5).toInt := hs_12.2.2.2.1.2.1
      refine lv_iload_n hx hb dX4_readNegated_2 rfl (lv_at hl 0 rfl) ?_
      refine lv_bipush (v := 64) hx hb dX4_readNegated_3 (by decide) ?_
      have hj_30_33 : ∀  (H : Heap) (locs : List Loc) (ls : Array Slot), (pp_lp pp_qN (pp_kn B n) 65 rg = g_11) → (qq_ca B n 65 rg 0 = (x_1.toInt).toNat) → (td = d_13) → ti_H ti_LT D A cy H0 M_4 H locs → lv_has ls 4 [(2, .int x_1), (0, .ref (A 1 0)), (1, .int 6)] → W p l e (ti_rm 26) s m args below meth c H locs 0 0 Q (F0 m 30 ls []) := by
        intro  H locs ls j_31 j_32 j_33 hw hl
        have lg_11_0 : g_11 0 = (tI M_4 2 4).toInt := hs_12.2.1.1
        have lg_11_1 : g_11 1 = (tI M_4 2 6).toInt := hs_12.2.1.2.1
        have lg_11_4 : g_11 4 = (tI M_4 1 4).toInt := hs_12.2.2.1.1
        have lg_11_7 : g_11 7 = (tI M_4 t 4).toInt := hs_12.2.2.2.1.1
        have lg_11_8 : g_11 8 = (tI M_4 t 5).toInt := hs_12.2.2.2.1.2.1
        refine lv_aload_n hx hb dX4_readNegated_30 rfl (lv_at hl 1 rfl) ?_
        refine lv_iload_n hx hb dX4_readNegated_31 rfl (lv_at hl 2 rfl) ?_
        refine ti_callVvE (ci := 4) (av := [.int 6]) C hE hw (x_X4_readComparison_6 l D A cy hJ M_4 iM_4 t ht (f_9) j hj (f_10) B n g_11 hs_12 d_13 tq_14) ⟨ml_X4_178, ym_X4_readComparison, yv_X4_readComparison, yi_X4_readComparison, yc_X4_readComparison⟩ yd_X4_readComparison ob_1 (by decide) rfl rfl hl.1 (Nat.le_of_ble_eq_true rfl) ⟨by decide, by decide⟩ ⟨Nat.zero_le _, Nat.zero_le _⟩ dX4_readNegated_32 (fun M_35 H locs hp_35 hw => ?_)
        obtain ⟨iM_35, q_36, q_37, q_38, q_39, p0r_34, p1r_34⟩ := hp_35
        obtain ⟨g_40, eg_40⟩ : ∃ z : Nat → Int, z = pp_cm B n (pp_pt B n 2) g_11 := ⟨_, rfl⟩
        rw [← eg_40] at p0r_34
        have lg_40_0 : g_40 0 = (tI M_35 2 4).toInt := p0r_34.2.1.1
        have lg_40_1 : g_40 1 = (tI M_35 2 6).toInt := p0r_34.2.1.2.1
        have lg_40_4 : g_40 4 = (tI M_35 1 4).toInt := p0r_34.2.2.1.1
        have lg_40_7 : g_40 7 = (tI M_35 t 4).toInt := p0r_34.2.2.2.1.1
        have lg_40_8 : g_40 8 = (tI M_35 t 5).toInt := p0r_34.2.2.2.1.2.1
        obtain ⟨d_41, ed_41⟩ : ∃ z : Nat → Int, z = qq_cm B n j (pp_pt B n 2) (qq_pt B n j 2) g_11 d_13 := ⟨_, rfl⟩
        rw [← ed_41] at p1r_34
        have EM : pp_ng B n (pp_pt B n 2) rg = g_40 := by unfold pp_ng; rw [j_31, ← eg_40]
        have ET : qq_ng B n j (pp_pt B n 2) (qq_pt B n j 2) rg td = qq_na j x_1.toInt.toNat d_41 := by unfold qq_ng; rw [j_32, j_31, show td = d_13 from j_33, ← ed_41]
        refine lv_iconst (v := 0) hx hb dX4_readNegated_35 (by decide) ?_
        refine lv_istore_n (lv' := [(3, .int 0), (2, .int x_1), (0, .ref (A 1 0)), (1, .int 6)]) hx hb dX4_readNegated_36 rfl hl (by decide) rfl (fun ls hl => ?_)
        have hl_37_58 : ∀ (n_59 : Nat) (x_42 : Int32) (M_45 : ti_M) (g_52 : Nat → Int) (d_54 : Nat → Int) (H : Heap) (locs : List Loc) (ls : Array Slot), (65 - x_42.toInt : Int).toNat < n_59 → (0 ≤ x_42.toInt) → (x_42.toInt ≤ 65) → (cI Tc M_45) → (M_45.2.2.2 = M.2.2.2) → (f0 M_45 M) → (tI M_45 2 1 = tI M 2 1) → (ot t M_45 M) → (tT M_45 1 1 = (some t)) → (tT M_45 1 2 = (some (ti_laws t j))) → (rC B n t g_52 M_45) → (tq t d_54 M_45) → (g_40 = g_52) → (qq_na j (x_42.toInt).toNat d_41 = d_54) → (x_42.toInt ≤ x_1.toInt) → ti_H ti_LT D A cy H0 M_45 H locs → lv_has ls 4 [(3, .int x_42), (2, .int x_1), (0, .ref (A 1 0)), (1, .int 6)] → W p l e (ti_rm 26) s m args below meth c H locs 0 0 Q (F0 m 37 ls []) := by
          intro n_59
          induction n_59 with
          | zero => intro x_42 M_45 g_52 d_54 H locs ls hf_59; exact absurd hf_59 (Nat.not_lt_zero _)
          | succ n_59 ih_59 =>
            intro x_42 M_45 g_52 d_54 H locs ls hf_59 b_43 b_44 iM_45 f_46 f_47 f_48 f_49 f_50 f_51 hs_53 tq_55 j_56 j_57 j_58 hw hl
            have lg_52_0 : g_52 0 = (tI M_45 2 4).toInt := hs_53.2.1.1
            have lg_52_1 : g_52 1 = (tI M_45 2 6).toInt := hs_53.2.1.2.1
            have lg_52_4 : g_52 4 = (tI M_45 1 4).toInt := hs_53.2.2.1.1
            have lg_52_7 : g_52 7 = (tI M_45 t 4).toInt := hs_53.2.2.2.1.1
            have lg_52_8 : g_52 8 = (tI M_45 t 5).toInt := hs_53.2.2.2.1.2.1
            refine lv_iload_n hx hb dX4_readNegated_37 rfl (lv_at hl 0 rfl) ?_
            refine lv_iload_n hx hb dX4_readNegated_38 rfl (lv_at hl 1 rfl) ?_
            refine sb_icmp_ge (tgt := 57) hx hb rfl rfl dX4_readNegated_39 (by decide) (fun c_39_59 => ?_) (fun c_39_59 => ?_)
            · exact hQ _ _ _ _ _ hw (⟨iM_45, (f_46), f_47, (f_48), f_49, (by rw [EM, j_56]; exact hs_53), (by rw [ET, show x_1.toInt.toNat = x_42.toInt.toNat by omega, j_57]; exact tq_55)⟩) dX4_readNegated_57
            · refine lv_aload_n hx hb dX4_readNegated_42 rfl (lv_at hl 2 rfl) ?_
              refine ti_get (ci := 4) (k := 2) (N := 6) (T := TX4) (v := .ref (A (ti_laws t j) 0)) C hw iw_4 rfl ob_1 (by decide) (by decide) fl_X4_154 rfl (ti_Tv (f_51)) dX4_readNegated_43 ?_
              refine lv_bipush (v := (-24)) hx hb dX4_readNegated_46 (by decide) ?_
              refine ti_callVv (ci := 1) (av := [.int (-24)]) C hw (x_X1_add l D A cy hJ M_45 iM_45 t ht j hj (-24) (by first | omega | exact Or.inl (by decide) | exact Or.inr (by decide)) B n g_52 hs_53 d_54 tq_55) ⟨ml_X4_170, ym_X1_add, yv_X1_add, yi_X1_add, yc_X1_add⟩ yd_X1_add (ob_l ht hj) (by decide) rfl rfl hl.1 (Nat.le_of_ble_eq_true rfl) ⟨by decide, by decide⟩ ⟨Nat.zero_le _, Nat.zero_le _⟩ dX4_readNegated_48 (fun M_62 H locs hp_62 hw => ?_)
              obtain ⟨iM_62, q_63, q_64, q_65, p0r_61, p1r_61⟩ := hp_62
              have lM_62_0 : g_52 0 = (tI M_62 2 4).toInt := p0r_61.2.1.1
              have lM_62_1 : g_52 1 = (tI M_62 2 6).toInt := p0r_61.2.1.2.1
              have lM_62_4 : g_52 4 = (tI M_62 1 4).toInt := p0r_61.2.2.1.1
              have lM_62_7 : g_52 7 = (tI M_62 t 4).toInt := p0r_61.2.2.2.1.1
              have lM_62_8 : g_52 8 = (tI M_62 t 5).toInt := p0r_61.2.2.2.1.2.1
              simp only [show ((-24) : Int32).toInt = (-24) by decide] at p1r_61
              obtain ⟨d_66, ed_66⟩ : ∃ z : Nat → Int, z = qa j (-24) d_54 := ⟨_, rfl⟩
              rw [← ed_66] at p1r_61
              obtain ⟨x_67, ex_67⟩ : ∃ z : Int32, z = x_42 + 1 := ⟨_, rfl⟩
              have tx_67 : x_67.toInt = x_42.toInt + 1 := i_add ex_67 rfl (by decide) (by omega) (by omega)
              refine lv_iinc (v := x_67) (lv' := [(3, .int x_67), (2, .int x_1), (0, .ref (A 1 0)), (1, .int 6)]) hx hb dX4_readNegated_51 hl (k := 0) rfl (by rw [ex_67]; rfl) (by decide) rfl (fun ls hl => ?_)
              refine lv_goto (tgt := 37) hx hb dX4_readNegated_54 (by decide) ?_
              exact ih_59 x_67 M_62 g_52 d_66 _ _ _ (by omega) (by first | omega | decide) (by first | omega | decide) iM_62 ((q_63).trans f_46) (f0.trans (f0_x q_64) f_47) (((q_64 1).2.1).trans f_48) (ot.trans q_65 f_49) ((tT_fr q_63).trans f_50) ((tT_fr q_63).trans f_51) p0r_61 p1r_61 j_56 (by rw [show x_67.toInt.toNat = x_42.toInt.toNat + 1 by omega, ed_66, ← j_57]; rfl) (by first | omega | decide) hw (lv_sub hl [0, 1, 2, 3] rfl)
        exact hl_37_58 ((65 - 0 : Int).toNat + 1) 0 M_35 g_40 d_41 _ _ _ (Nat.lt_succ_self _) (by have lt0 : (0 : Int32).toInt = 0 := (by decide); first | omega | decide) (by have lt0 : (0 : Int32).toInt = 0 := (by decide); first | omega | decide) iM_35 ((q_36).trans f_5) (f0.trans q_37 f_6) ((q_38).trans f_7) (ot.trans q_39 f_8) ((tT_fr q_36).trans f_9) ((tT_fr q_36).trans f_10) p0r_34 p1r_34 rfl rfl (by have lt0 : (0 : Int32).toInt = 0 := (by decide); first | omega | decide) hw (lv_sub hl [0, 1, 2, 3] rfl)
      refine sb_icmp_gt (tgt := 30) hx hb rfl (by decide : (64 : Int32).toInt = 64) dX4_readNegated_5 (by decide) (fun c_5_18 => ?_) (fun c_5_18 => ?_)
      · exact hj_30_33  _ _ _ (by rw [j_15, lp_end (P := pp_qN) (f := 65 - x_1.toInt.toNat) (s := g_11) (Or.inl (by omega))]) (by rw [j_16, ca_end (f := 65 - x_1.toInt.toNat) (s := g_11) (Or.inl (by omega))]) j_17 hw (lv_sub hl [0, 1, 2] rfl)
      · refine lv_aload_n hx hb dX4_readNegated_8 rfl (lv_at hl 1 rfl) ?_
        refine ti_get (ci := 4) (k := 0) (N := 6) (T := TX4) (v := .ref (A 2 0)) C hw iw_4 rfl ob_1 (by decide) (by decide) fl_X4_12 rfl rfl dX4_readNegated_9 ?_
        refine ti_get (ci := 7) (k := 4) (N := 7) (T := TX7) C hw iw_7 rfl ob_2 (by decide) (by decide) fl_X4_41 rfl rfl dX4_readNegated_12 ?_
        refine lv_topi (fun x_20 ex_20 => ?_)
        have bx_20 : 0 ≤ x_20.toInt ∧ x_20.toInt ≤ 41 := cI_rd iM_4 ob_2.1 ex_20
        have ux_20 : (tI M_4 2 4).toInt = x_20.toInt := by rw [ex_20]
        refine lv_bipush (v := 24) hx hb dX4_readNegated_15 (by decide) ?_
        refine sb_icmp_ne (tgt := 30) hx hb rfl (by decide : (24 : Int32).toInt = 24) dX4_readNegated_17 (by decide) (fun c_17_20 => ?_) (fun c_17_20 => ?_)
        · exact hj_30_33  _ _ _ (by rw [j_15, lp_end (P := pp_qN) (f := 65 - x_1.toInt.toNat) (s := g_11) (Or.inr (decide_eq_false (by omega)))]) (by rw [j_16, ca_end (f := 65 - x_1.toInt.toNat) (s := g_11) (Or.inr (decide_eq_false (by omega)))]) j_17 hw (lv_sub hl [0, 1, 2] rfl)
        · refine lv_aload_n hx hb dX4_readNegated_20 rfl (lv_at hl 1 rfl) ?_
          refine ti_callVvE (ci := 4) (av := []) C hE hw (x_X4_knot l D A cy hJ M_4 iM_4 t ht (f_9) B n g_11 hs_12 d_13 tq_14) ⟨ml_X4_167, ym_X4_knot, yv_X4_knot, yi_X4_knot, yc_X4_knot⟩ yd_X4_knot ob_1 (by decide) rfl rfl hl.1 (Nat.le_of_ble_eq_true rfl) ⟨by decide, by decide⟩ ⟨Nat.zero_le _, Nat.zero_le _⟩ dX4_readNegated_21 (fun M_23 H locs hp_23 hw => ?_)
          obtain ⟨iM_23, q_24, q_25, q_26, q_27, q_28, p0r_22, p1r_22⟩ := hp_23
          obtain ⟨g_29, eg_29⟩ : ∃ z : Nat → Int, z = pp_kn B n g_11 := ⟨_, rfl⟩
          rw [← eg_29] at p0r_22
          have lg_29_0 : g_29 0 = (tI M_23 2 4).toInt := p0r_22.2.1.1
          have lg_29_1 : g_29 1 = (tI M_23 2 6).toInt := p0r_22.2.1.2.1
          have lg_29_4 : g_29 4 = (tI M_23 1 4).toInt := p0r_22.2.2.1.1
          have lg_29_7 : g_29 7 = (tI M_23 t 4).toInt := p0r_22.2.2.2.1.1
          have lg_29_8 : g_29 8 = (tI M_23 t 5).toInt := p0r_22.2.2.2.1.2.1
          obtain ⟨x_30, ex_30⟩ : ∃ z : Int32, z = x_1 + 1 := ⟨_, rfl⟩
          have tx_30 : x_30.toInt = x_1.toInt + 1 := i_add ex_30 rfl (by decide) (by omega) (by omega)
          refine lv_iinc (v := x_30) (lv' := [(2, .int x_30), (0, .ref (A 1 0)), (1, .int 6)]) hx hb dX4_readNegated_24 hl (k := 0) rfl (by rw [ex_30]; rfl) (by decide) rfl (fun ls hl => ?_)
          refine lv_goto (tgt := 2) hx hb dX4_readNegated_27 (by decide) ?_
          exact ih_18 x_30 M_23 g_29 d_13 _ _ _ (by omega) (by first | omega | decide) (by first | omega | decide) iM_23 ((q_24).trans f_5) (f0.trans q_25 f_6) ((q_26).trans f_7) (ot.trans q_27 f_8) ((tT_fr q_24).trans f_9) ((tT_fr q_24).trans f_10) p0r_22 p1r_22 (j_15.trans (lp_step (decide_eq_true (by omega)) (by rw [eg_29]) (by omega))) (j_16.trans (ca_step (decide_eq_true (by omega)) (by rw [eg_29]) (by omega) (by omega))) j_17 hw (lv_sub hl [0, 1, 2] rfl)
  exact hl_2_17 ((65 - 0 : Int).toNat + 1) 0 M rg td _ _ _ (Nat.lt_succ_self _) (by have lt0 : (0 : Int32).toInt = 0 := (by decide); first | omega | decide) (by have lt0 : (0 : Int32).toInt = 0 := (by decide); first | omega | decide) hI rfl f0.refl rfl ot.refl (hT) (hL) hr hq rfl rfl rfl hw (lv_sub hl [0, 1, 2] rfl)
set_option maxHeartbeats 4000000 in
set_option maxRecDepth 100000 in
theorem x_X4_readBoth_6 (l : Launch) (D : va_G) (A : Nat → Nat → Nat) (cy : Nat → ClassId) (hJ : ti_inj ti_LT A) (M : ti_M) (hI : cI Tc M) (t : Nat) (ht : t = 3 ∨ t = 4) (hT : tT M 1 1 = some t) (j : Nat) (hj : j < 3) (hL : tT M 1 2 = some (ti_laws t j)) (B : Nat → Int) (n : Nat) (rg : Nat → Int) (hr : rC B n t rg M) (td : Nat → Int) (hq : tq t td M) : ti_KvE l yX4_readBoth cX4_readBoth 3 27 ti_LT D A cy M [.ref (A 1 0), .int 6] (fun M2 => cI Tc M2 ∧ M2.2.2.2 = M.2.2.2 ∧ f0 M2 M ∧ tI M2 2 1 = tI M 2 1 ∧ ot t M2 M ∧ rC B n t (pp_bo B n (pp_pt B n 2) rg) M2 ∧ tq t (qq_bo B n j (pp_pt B n 2) (qq_pt B n j 2) rg td) M2) := by
  refine ti_eVE yp_X4_readBoth hJ ti_LT_nd (Nat.le_of_ble_eq_true rfl) ?_
  intro p e s m args below meth c Q H0 C hE hQ hw ls hl
  have hx := C.1
  have hb := C.2.1
  have hl : lv_has ls 3 [(0, .ref (A 1 0)), (1, .int 6)] := hl
  have l0 : rg 0 = (tI M 2 4).toInt := hr.2.1.1
  have l1 : rg 1 = (tI M 2 6).toInt := hr.2.1.2.1
  have l2 : rg 2 = (tI M 2 5).toInt := hr.2.1.2.2.1
  have l3 : rg 3 = (tI M 2 3).toInt := hr.2.1.2.2.2
  have l4 : rg 4 = (tI M 1 4).toInt := hr.2.2.1.1
  have l5 : rg 5 = (tI M 1 5).toInt := hr.2.2.1.2.1
  have l7 : rg 7 = (tI M t 4).toInt := hr.2.2.2.1.1
  have l8 : rg 8 = (tI M t 5).toInt := hr.2.2.2.1.2.1
  have l9 : rg 9 = (tI M t 3).toInt := hr.2.2.2.1.2.2
  refine lv_aload_n hx hb dX4_readBoth_0 rfl (lv_at hl 0 rfl) ?_
  refine lv_iload_n hx hb dX4_readBoth_1 rfl (lv_at hl 1 rfl) ?_
  refine ti_callVvE (ci := 4) (av := [.int 6]) C hE hw (x_X4_readNegated_6 l D A cy hJ M hI t ht (hT) j hj (hL) B n rg hr td hq) ⟨ml_X4_175, ym_X4_readNegated, yv_X4_readNegated, yi_X4_readNegated, yc_X4_readNegated⟩ yd_X4_readNegated ob_1 (by decide) rfl rfl hl.1 (Nat.le_of_ble_eq_true rfl) ⟨by decide, by decide⟩ ⟨Nat.zero_le _, Nat.zero_le _⟩ dX4_readBoth_2 (fun M_2 H locs hp_2 hw => ?_)
  obtain ⟨iM_2, q_3, q_4, q_5, q_6, p0r_1, p1r_1⟩ := hp_2
  obtain ⟨g_7, eg_7⟩ : ∃ z : Nat → Int, z = pp_ng B n (pp_pt B n 2) rg := ⟨_, rfl⟩
  rw [← eg_7] at p0r_1
  have lg_7_0 : g_7 0 = (tI M_2 2 4).toInt := p0r_1.2.1.1
  have lg_7_1 : g_7 1 = (tI M_2 2 6).toInt := p0r_1.2.1.2.1
  have lg_7_4 : g_7 4 = (tI M_2 1 4).toInt := p0r_1.2.2.1.1
  have lg_7_7 : g_7 7 = (tI M_2 t 4).toInt := p0r_1.2.2.2.1.1
  have lg_7_8 : g_7 8 = (tI M_2 t 5).toInt := p0r_1.2.2.2.1.2.1
  obtain ⟨d_8, ed_8⟩ : ∃ z : Nat → Int, z = qq_ng B n j (pp_pt B n 2) (qq_pt B n j 2) rg td := ⟨_, rfl⟩
  rw [← ed_8] at p1r_1
  refine lv_iconst (v := 0) hx hb dX4_readBoth_5 (by decide) ?_
  refine lv_istore_n (lv' := [(2, .int 0), (0, .ref (A 1 0)), (1, .int 6)]) hx hb dX4_readBoth_6 rfl hl (by decide) rfl (fun ls hl => ?_)
  have hl_7_24 : ∀ (n_25 : Nat) (x_9 : Int32) (M_12 : ti_M) (g_19 : Nat → Int) (d_21 : Nat → Int) (H : Heap) (locs : List Loc) (ls : Array Slot), (64 - x_9.toInt : Int).toNat < n_25 → (0 ≤ x_9.toInt) → (x_9.toInt ≤ 64) → (cI Tc M_12) → (M_12.2.2.2 = M.2.2.2) → (f0 M_12 M) → (tI M_12 2 1 = tI M 2 1) → (ot t M_12 M) → (tT M_12 1 1 = (some t)) → (tT M_12 1 2 = (some (ti_laws t j))) → (rC B n t g_19 M_12) → (tq t d_21 M_12) → (pp_lp pp_qA (fun s => pp_ng B n (pp_pt B n 2) (pp_kn B n s)) 64 g_7 = pp_lp pp_qA (fun s => pp_ng B n (pp_pt B n 2) (pp_kn B n s)) (64 - (x_9.toInt).toNat) g_19) → (qq_lp pp_qA (fun s => pp_ng B n (pp_pt B n 2) (pp_kn B n s)) (fun s td => qa j (-22) (qq_ng B n j (pp_pt B n 2) (qq_pt B n j 2) (pp_kn B n s) td)) 64 g_7 d_8 = qq_lp pp_qA (fun s => pp_ng B n (pp_pt B n 2) (pp_kn B n s)) (fun s td => qa j (-22) (qq_ng B n j (pp_pt B n 2) (qq_pt B n j 2) (pp_kn B n s) td)) (64 - (x_9.toInt).toNat) g_19 d_21) → ti_H ti_LT D A cy H0 M_12 H locs → lv_has ls 3 [(2, .int x_9), (0, .ref (A 1 0)), (1, .int 6)] → W p l e (ti_rm 27) s m args below meth c H locs 0 0 Q (F0 m 7 ls []) := by
    intro n_25
    induction n_25 with
    | zero => intro x_9 M_12 g_19 d_21 H locs ls hf_25; exact absurd hf_25 (Nat.not_lt_zero _)
    | succ n_25 ih_25 =>
      intro x_9 M_12 g_19 d_21 H locs ls hf_25 b_10 b_11 iM_12 f_13 f_14 f_15 f_16 f_17 f_18 hs_20 tq_22 j_23 j_24 hw hl
      have lg_19_0 : g_19 0 = (tI M_12 2 4).toInt := hs_20.2.1.1
      have lg_19_1 : g_19 1 = (tI M_12 2 6).toInt := hs_20.2.1.2.1
      have lg_19_4 : g_19 4 = (tI M_12 1 4).toInt := hs_20.2.2.1.1
      have lg_19_7 : g_19 7 = (tI M_12 t 4).toInt := hs_20.2.2.2.1.1
      have lg_19_8 : g_19 8 = (tI M_12 t 5).toInt := hs_20.2.2.2.1.2.1
      refine lv_iload_n hx hb dX4_readBoth_7 rfl (lv_at hl 0 rfl) ?_
      refine lv_bipush (v := 64) hx hb dX4_readBoth_8 (by decide) ?_
      refine sb_icmp_ge (tgt := 49) hx hb rfl (by decide : (64 : Int32).toInt = 64) dX4_readBoth_10 (by decide) (fun c_10_25 => ?_) (fun c_10_25 => ?_)
      · exact hQ _ _ _ _ _ hw (⟨iM_12, (f_13), f_14, (f_15), f_16, (by unfold pp_bo; rw [← eg_7, j_23, lp_end (P := pp_qA) (f := 64 - x_9.toInt.toNat) (s := g_19) (Or.inl (by omega))]; exact hs_20), (by unfold qq_bo; rw [← eg_7, ← ed_8, j_24, qlp_end (P := pp_qA) (f := 64 - x_9.toInt.toNat) (s := g_19) (Or.inl (by omega))]; exact tq_22)⟩) dX4_readBoth_49
      · refine lv_aload_n hx hb dX4_readBoth_13 rfl (lv_at hl 1 rfl) ?_
        refine ti_get (ci := 4) (k := 0) (N := 6) (T := TX4) (v := .ref (A 2 0)) C hw iw_4 rfl ob_1 (by decide) (by decide) fl_X4_12 rfl rfl dX4_readBoth_14 ?_
        refine ti_get (ci := 7) (k := 4) (N := 7) (T := TX7) C hw iw_7 rfl ob_2 (by decide) (by decide) fl_X4_41 rfl rfl dX4_readBoth_17 ?_
        refine lv_topi (fun x_27 ex_27 => ?_)
        have bx_27 : 0 ≤ x_27.toInt ∧ x_27.toInt ≤ 41 := cI_rd iM_12 ob_2.1 ex_27
        have ux_27 : (tI M_12 2 4).toInt = x_27.toInt := by rw [ex_27]
        refine lv_bipush (v := 22) hx hb dX4_readBoth_20 (by decide) ?_
        refine sb_icmp_ne (tgt := 49) hx hb rfl (by decide : (22 : Int32).toInt = 22) dX4_readBoth_22 (by decide) (fun c_22_27 => ?_) (fun c_22_27 => ?_)
        · exact hQ _ _ _ _ _ hw (⟨iM_12, (f_13), f_14, (f_15), f_16, (by unfold pp_bo; rw [← eg_7, j_23, lp_end (P := pp_qA) (f := 64 - x_9.toInt.toNat) (s := g_19) (Or.inr (decide_eq_false (by omega)))]; exact hs_20), (by unfold qq_bo; rw [← eg_7, ← ed_8, j_24, qlp_end (P := pp_qA) (f := 64 - x_9.toInt.toNat) (s := g_19) (Or.inr (decide_eq_false (by omega)))]; exact tq_22)⟩) dX4_readBoth_49
        · refine lv_aload_n hx hb dX4_readBoth_25 rfl (lv_at hl 1 rfl) ?_
          refine ti_callVvE (ci := 4) (av := []) C hE hw (x_X4_knot l D A cy hJ M_12 iM_12 t ht (f_17) B n g_19 hs_20 d_21 tq_22) ⟨ml_X4_167, ym_X4_knot, yv_X4_knot, yi_X4_knot, yc_X4_knot⟩ yd_X4_knot ob_1 (by decide) rfl rfl hl.1 (Nat.le_of_ble_eq_true rfl) ⟨by decide, by decide⟩ ⟨Nat.zero_le _, Nat.zero_le _⟩ dX4_readBoth_26 (fun M_30 H locs hp_30 hw => ?_)
          obtain ⟨iM_30, q_31, q_32, q_33, q_34, q_35, p0r_29, p1r_29⟩ := hp_30
          obtain ⟨g_36, eg_36⟩ : ∃ z : Nat → Int, z = pp_kn B n g_19 := ⟨_, rfl⟩
          rw [← eg_36] at p0r_29
          have lg_36_0 : g_36 0 = (tI M_30 2 4).toInt := p0r_29.2.1.1
          have lg_36_1 : g_36 1 = (tI M_30 2 6).toInt := p0r_29.2.1.2.1
          have lg_36_4 : g_36 4 = (tI M_30 1 4).toInt := p0r_29.2.2.1.1
          have lg_36_7 : g_36 7 = (tI M_30 t 4).toInt := p0r_29.2.2.2.1.1
          have lg_36_8 : g_36 8 = (tI M_30 t 5).toInt := p0r_29.2.2.2.1.2.1
          refine lv_aload_n hx hb dX4_readBoth_29 rfl (lv_at hl 1 rfl) ?_
          refine lv_iload_n hx hb dX4_readBoth_30 rfl (lv_at hl 2 rfl) ?_
          refine ti_callVvE (ci := 4) (av := [.int 6]) C hE hw (x_X4_readNegated_6 l D A cy hJ M_30 iM_30 t ht ((tT_fr q_31).trans f_17) j hj ((tT_fr q_31).trans f_18) B n g_36 p0r_29 d_21 p1r_29) ⟨ml_X4_175, ym_X4_readNegated, yv_X4_readNegated, yi_X4_readNegated, yc_X4_readNegated⟩ yd_X4_readNegated ob_1 (by decide) rfl rfl hl.1 (Nat.le_of_ble_eq_true rfl) ⟨by decide, by decide⟩ ⟨Nat.zero_le _, Nat.zero_le _⟩ dX4_readBoth_31 (fun M_38 H locs hp_38 hw => ?_)
          obtain ⟨iM_38, q_39, q_40, q_41, q_42, p0r_37, p1r_37⟩ := hp_38
          obtain ⟨g_43, eg_43⟩ : ∃ z : Nat → Int, z = pp_ng B n (pp_pt B n 2) g_36 := ⟨_, rfl⟩
          rw [← eg_43] at p0r_37
          have lg_43_0 : g_43 0 = (tI M_38 2 4).toInt := p0r_37.2.1.1
          have lg_43_1 : g_43 1 = (tI M_38 2 6).toInt := p0r_37.2.1.2.1
          have lg_43_4 : g_43 4 = (tI M_38 1 4).toInt := p0r_37.2.2.1.1
          have lg_43_7 : g_43 7 = (tI M_38 t 4).toInt := p0r_37.2.2.2.1.1
          have lg_43_8 : g_43 8 = (tI M_38 t 5).toInt := p0r_37.2.2.2.1.2.1
          obtain ⟨d_44, ed_44⟩ : ∃ z : Nat → Int, z = qq_ng B n j (pp_pt B n 2) (qq_pt B n j 2) g_36 d_21 := ⟨_, rfl⟩
          rw [← ed_44] at p1r_37
          refine lv_aload_n hx hb dX4_readBoth_34 rfl (lv_at hl 1 rfl) ?_
          refine ti_get (ci := 4) (k := 2) (N := 6) (T := TX4) (v := .ref (A (ti_laws t j) 0)) C hw iw_4 rfl ob_1 (by decide) (by decide) fl_X4_154 rfl (ti_Tv ((tT_fr q_39).trans ((tT_fr q_31).trans f_18))) dX4_readBoth_35 ?_
          refine lv_bipush (v := (-22)) hx hb dX4_readBoth_38 (by decide) ?_
          refine ti_callVv (ci := 1) (av := [.int (-22)]) C hw (x_X1_add l D A cy hJ M_38 iM_38 t ht j hj (-22) (by first | omega | exact Or.inl (by decide) | exact Or.inr (by decide)) B n g_43 p0r_37 d_44 p1r_37) ⟨ml_X4_170, ym_X1_add, yv_X1_add, yi_X1_add, yc_X1_add⟩ yd_X1_add (ob_l ht hj) (by decide) rfl rfl hl.1 (Nat.le_of_ble_eq_true rfl) ⟨by decide, by decide⟩ ⟨Nat.zero_le _, Nat.zero_le _⟩ dX4_readBoth_40 (fun M_46 H locs hp_46 hw => ?_)
          obtain ⟨iM_46, q_47, q_48, q_49, p0r_45, p1r_45⟩ := hp_46
          have lM_46_0 : g_43 0 = (tI M_46 2 4).toInt := p0r_45.2.1.1
          have lM_46_1 : g_43 1 = (tI M_46 2 6).toInt := p0r_45.2.1.2.1
          have lM_46_4 : g_43 4 = (tI M_46 1 4).toInt := p0r_45.2.2.1.1
          have lM_46_7 : g_43 7 = (tI M_46 t 4).toInt := p0r_45.2.2.2.1.1
          have lM_46_8 : g_43 8 = (tI M_46 t 5).toInt := p0r_45.2.2.2.1.2.1
          simp only [show ((-22) : Int32).toInt = (-22) by decide] at p1r_45
          obtain ⟨d_50, ed_50⟩ : ∃ z : Nat → Int, z = qa j (-22) d_44 := ⟨_, rfl⟩
          rw [← ed_50] at p1r_45
          obtain ⟨x_51, ex_51⟩ : ∃ z : Int32, z = x_9 + 1 := ⟨_, rfl⟩
          have tx_51 : x_51.toInt = x_9.toInt + 1 := i_add ex_51 rfl (by decide) (by omega) (by omega)
          refine lv_iinc (v := x_51) (lv' := [(2, .int x_51), (0, .ref (A 1 0)), (1, .int 6)]) hx hb dX4_readBoth_43 hl (k := 0) rfl (by rw [ex_51]; rfl) (by decide) rfl (fun ls hl => ?_)
          refine lv_goto (tgt := 7) hx hb dX4_readBoth_46 (by decide) ?_
          exact ih_25 x_51 M_46 g_43 d_50 _ _ _ (by omega) (by first | omega | decide) (by first | omega | decide) iM_46 ((q_47).trans ((q_39).trans ((q_31).trans f_13))) (f0.trans (f0_x q_48) (f0.trans q_40 (f0.trans q_32 f_14))) (((q_48 1).2.1).trans ((q_41).trans ((q_33).trans f_15))) (ot.trans q_49 (ot.trans q_42 (ot.trans q_34 f_16))) ((tT_fr q_47).trans ((tT_fr q_39).trans ((tT_fr q_31).trans f_17))) ((tT_fr q_47).trans ((tT_fr q_39).trans ((tT_fr q_31).trans f_18))) p0r_45 p1r_45 (j_23.trans (lp_step (decide_eq_true (by omega)) (by rw [eg_43, eg_36]) (by omega))) (j_24.trans (qlp_step (decide_eq_true (by omega)) (by rw [eg_43, eg_36]) (by rw [ed_50, ed_44, eg_36]) (by omega))) hw (lv_sub hl [0, 1, 2] rfl)
  exact hl_7_24 ((64 - 0 : Int).toNat + 1) 0 M_2 g_7 d_8 _ _ _ (Nat.lt_succ_self _) (by have lt0 : (0 : Int32).toInt = 0 := (by decide); first | omega | decide) (by have lt0 : (0 : Int32).toInt = 0 := (by decide); first | omega | decide) iM_2 (q_3) q_4 (q_5) q_6 ((tT_fr q_3).trans hT) ((tT_fr q_3).trans hL) p0r_1 p1r_1 rfl rfl hw (lv_sub hl [0, 1, 2] rfl)
set_option maxHeartbeats 4000000 in
set_option maxRecDepth 100000 in
theorem x_X4_readEither_6 (l : Launch) (D : va_G) (A : Nat → Nat → Nat) (cy : Nat → ClassId) (hJ : ti_inj ti_LT A) (M : ti_M) (hI : cI Tc M) (t : Nat) (ht : t = 3 ∨ t = 4) (hT : tT M 1 1 = some t) (j : Nat) (hj : j < 3) (hL : tT M 1 2 = some (ti_laws t j)) (B : Nat → Int) (n : Nat) (rg : Nat → Int) (hr : rC B n t rg M) (td : Nat → Int) (hq : tq t td M) : ti_KvE l yX4_readEither cX4_readEither 3 28 ti_LT D A cy M [.ref (A 1 0), .int 6] (fun M2 => cI Tc M2 ∧ M2.2.2.2 = M.2.2.2 ∧ f0 M2 M ∧ tI M2 2 1 = tI M 2 1 ∧ ot t M2 M ∧ rC B n t (pp_ei B n (pp_pt B n 2) rg) M2 ∧ tq t (qq_ei B n j (pp_pt B n 2) (qq_pt B n j 2) rg td) M2) := by
  refine ti_eVE yp_X4_readEither hJ ti_LT_nd (Nat.le_of_ble_eq_true rfl) ?_
  intro p e s m args below meth c Q H0 C hE hQ hw ls hl
  have hx := C.1
  have hb := C.2.1
  have hl : lv_has ls 3 [(0, .ref (A 1 0)), (1, .int 6)] := hl
  have l0 : rg 0 = (tI M 2 4).toInt := hr.2.1.1
  have l1 : rg 1 = (tI M 2 6).toInt := hr.2.1.2.1
  have l2 : rg 2 = (tI M 2 5).toInt := hr.2.1.2.2.1
  have l3 : rg 3 = (tI M 2 3).toInt := hr.2.1.2.2.2
  have l4 : rg 4 = (tI M 1 4).toInt := hr.2.2.1.1
  have l5 : rg 5 = (tI M 1 5).toInt := hr.2.2.1.2.1
  have l7 : rg 7 = (tI M t 4).toInt := hr.2.2.2.1.1
  have l8 : rg 8 = (tI M t 5).toInt := hr.2.2.2.1.2.1
  have l9 : rg 9 = (tI M t 3).toInt := hr.2.2.2.1.2.2
  refine lv_aload_n hx hb dX4_readEither_0 rfl (lv_at hl 0 rfl) ?_
  refine lv_iload_n hx hb dX4_readEither_1 rfl (lv_at hl 1 rfl) ?_
  refine ti_callVvE (ci := 4) (av := [.int 6]) C hE hw (x_X4_readBoth_6 l D A cy hJ M hI t ht (hT) j hj (hL) B n rg hr td hq) ⟨ml_X4_164, ym_X4_readBoth, yv_X4_readBoth, yi_X4_readBoth, yc_X4_readBoth⟩ yd_X4_readBoth ob_1 (by decide) rfl rfl hl.1 (Nat.le_of_ble_eq_true rfl) ⟨by decide, by decide⟩ ⟨Nat.zero_le _, Nat.zero_le _⟩ dX4_readEither_2 (fun M_2 H locs hp_2 hw => ?_)
  obtain ⟨iM_2, q_3, q_4, q_5, q_6, p0r_1, p1r_1⟩ := hp_2
  obtain ⟨g_7, eg_7⟩ : ∃ z : Nat → Int, z = pp_bo B n (pp_pt B n 2) rg := ⟨_, rfl⟩
  rw [← eg_7] at p0r_1
  have lg_7_0 : g_7 0 = (tI M_2 2 4).toInt := p0r_1.2.1.1
  have lg_7_1 : g_7 1 = (tI M_2 2 6).toInt := p0r_1.2.1.2.1
  have lg_7_4 : g_7 4 = (tI M_2 1 4).toInt := p0r_1.2.2.1.1
  have lg_7_7 : g_7 7 = (tI M_2 t 4).toInt := p0r_1.2.2.2.1.1
  have lg_7_8 : g_7 8 = (tI M_2 t 5).toInt := p0r_1.2.2.2.1.2.1
  obtain ⟨d_8, ed_8⟩ : ∃ z : Nat → Int, z = qq_bo B n j (pp_pt B n 2) (qq_pt B n j 2) rg td := ⟨_, rfl⟩
  rw [← ed_8] at p1r_1
  refine lv_iconst (v := 0) hx hb dX4_readEither_5 (by decide) ?_
  refine lv_istore_n (lv' := [(2, .int 0), (0, .ref (A 1 0)), (1, .int 6)]) hx hb dX4_readEither_6 rfl hl (by decide) rfl (fun ls hl => ?_)
  have hl_7_24 : ∀ (n_25 : Nat) (x_9 : Int32) (M_12 : ti_M) (g_19 : Nat → Int) (d_21 : Nat → Int) (H : Heap) (locs : List Loc) (ls : Array Slot), (64 - x_9.toInt : Int).toNat < n_25 → (0 ≤ x_9.toInt) → (x_9.toInt ≤ 64) → (cI Tc M_12) → (M_12.2.2.2 = M.2.2.2) → (f0 M_12 M) → (tI M_12 2 1 = tI M 2 1) → (ot t M_12 M) → (tT M_12 1 1 = (some t)) → (tT M_12 1 2 = (some (ti_laws t j))) → (rC B n t g_19 M_12) → (tq t d_21 M_12) → (pp_lp pp_qO (fun s => pp_bo B n (pp_pt B n 2) (pp_kn B n s)) 64 g_7 = pp_lp pp_qO (fun s => pp_bo B n (pp_pt B n 2) (pp_kn B n s)) (64 - (x_9.toInt).toNat) g_19) → (qq_lp pp_qO (fun s => pp_bo B n (pp_pt B n 2) (pp_kn B n s)) (fun s td => qa j (-23) (qq_bo B n j (pp_pt B n 2) (qq_pt B n j 2) (pp_kn B n s) td)) 64 g_7 d_8 = qq_lp pp_qO (fun s => pp_bo B n (pp_pt B n 2) (pp_kn B n s)) (fun s td => qa j (-23) (qq_bo B n j (pp_pt B n 2) (qq_pt B n j 2) (pp_kn B n s) td)) (64 - (x_9.toInt).toNat) g_19 d_21) → ti_H ti_LT D A cy H0 M_12 H locs → lv_has ls 3 [(2, .int x_9), (0, .ref (A 1 0)), (1, .int 6)] → W p l e (ti_rm 28) s m args below meth c H locs 0 0 Q (F0 m 7 ls []) := by
    intro n_25
    induction n_25 with
    | zero => intro x_9 M_12 g_19 d_21 H locs ls hf_25; exact absurd hf_25 (Nat.not_lt_zero _)
    | succ n_25 ih_25 =>
      intro x_9 M_12 g_19 d_21 H locs ls hf_25 b_10 b_11 iM_12 f_13 f_14 f_15 f_16 f_17 f_18 hs_20 tq_22 j_23 j_24 hw hl
      have lg_19_0 : g_19 0 = (tI M_12 2 4).toInt := hs_20.2.1.1
      have lg_19_1 : g_19 1 = (tI M_12 2 6).toInt := hs_20.2.1.2.1
      have lg_19_4 : g_19 4 = (tI M_12 1 4).toInt := hs_20.2.2.1.1
      have lg_19_7 : g_19 7 = (tI M_12 t 4).toInt := hs_20.2.2.2.1.1
      have lg_19_8 : g_19 8 = (tI M_12 t 5).toInt := hs_20.2.2.2.1.2.1
      refine lv_iload_n hx hb dX4_readEither_7 rfl (lv_at hl 0 rfl) ?_
      refine lv_bipush (v := 64) hx hb dX4_readEither_8 (by decide) ?_
      refine sb_icmp_ge (tgt := 49) hx hb rfl (by decide : (64 : Int32).toInt = 64) dX4_readEither_10 (by decide) (fun c_10_25 => ?_) (fun c_10_25 => ?_)
      · exact hQ _ _ _ _ _ hw (⟨iM_12, (f_13), f_14, (f_15), f_16, (by unfold pp_ei; rw [← eg_7, j_23, lp_end (P := pp_qO) (f := 64 - x_9.toInt.toNat) (s := g_19) (Or.inl (by omega))]; exact hs_20), (by unfold qq_ei; rw [← eg_7, ← ed_8, j_24, qlp_end (P := pp_qO) (f := 64 - x_9.toInt.toNat) (s := g_19) (Or.inl (by omega))]; exact tq_22)⟩) dX4_readEither_49
      · refine lv_aload_n hx hb dX4_readEither_13 rfl (lv_at hl 1 rfl) ?_
        refine ti_get (ci := 4) (k := 0) (N := 6) (T := TX4) (v := .ref (A 2 0)) C hw iw_4 rfl ob_1 (by decide) (by decide) fl_X4_12 rfl rfl dX4_readEither_14 ?_
        refine ti_get (ci := 7) (k := 4) (N := 7) (T := TX7) C hw iw_7 rfl ob_2 (by decide) (by decide) fl_X4_41 rfl rfl dX4_readEither_17 ?_
        refine lv_topi (fun x_27 ex_27 => ?_)
        have bx_27 : 0 ≤ x_27.toInt ∧ x_27.toInt ≤ 41 := cI_rd iM_12 ob_2.1 ex_27
        have ux_27 : (tI M_12 2 4).toInt = x_27.toInt := by rw [ex_27]
        refine lv_bipush (v := 23) hx hb dX4_readEither_20 (by decide) ?_
        refine sb_icmp_ne (tgt := 49) hx hb rfl (by decide : (23 : Int32).toInt = 23) dX4_readEither_22 (by decide) (fun c_22_27 => ?_) (fun c_22_27 => ?_)
        · exact hQ _ _ _ _ _ hw (⟨iM_12, (f_13), f_14, (f_15), f_16, (by unfold pp_ei; rw [← eg_7, j_23, lp_end (P := pp_qO) (f := 64 - x_9.toInt.toNat) (s := g_19) (Or.inr (decide_eq_false (by omega)))]; exact hs_20), (by unfold qq_ei; rw [← eg_7, ← ed_8, j_24, qlp_end (P := pp_qO) (f := 64 - x_9.toInt.toNat) (s := g_19) (Or.inr (decide_eq_false (by omega)))]; exact tq_22)⟩) dX4_readEither_49
        · refine lv_aload_n hx hb dX4_readEither_25 rfl (lv_at hl 1 rfl) ?_
          refine ti_callVvE (ci := 4) (av := []) C hE hw (x_X4_knot l D A cy hJ M_12 iM_12 t ht (f_17) B n g_19 hs_20 d_21 tq_22) ⟨ml_X4_167, ym_X4_knot, yv_X4_knot, yi_X4_knot, yc_X4_knot⟩ yd_X4_knot ob_1 (by decide) rfl rfl hl.1 (Nat.le_of_ble_eq_true rfl) ⟨by decide, by decide⟩ ⟨Nat.zero_le _, Nat.zero_le _⟩ dX4_readEither_26 (fun M_30 H locs hp_30 hw => ?_)
          obtain ⟨iM_30, q_31, q_32, q_33, q_34, q_35, p0r_29, p1r_29⟩ := hp_30
          obtain ⟨g_36, eg_36⟩ : ∃ z : Nat → Int, z = pp_kn B n g_19 := ⟨_, rfl⟩
          rw [← eg_36] at p0r_29
          have lg_36_0 : g_36 0 = (tI M_30 2 4).toInt := p0r_29.2.1.1
          have lg_36_1 : g_36 1 = (tI M_30 2 6).toInt := p0r_29.2.1.2.1
          have lg_36_4 : g_36 4 = (tI M_30 1 4).toInt := p0r_29.2.2.1.1
          have lg_36_7 : g_36 7 = (tI M_30 t 4).toInt := p0r_29.2.2.2.1.1
          have lg_36_8 : g_36 8 = (tI M_30 t 5).toInt := p0r_29.2.2.2.1.2.1
          refine lv_aload_n hx hb dX4_readEither_29 rfl (lv_at hl 1 rfl) ?_
          refine lv_iload_n hx hb dX4_readEither_30 rfl (lv_at hl 2 rfl) ?_
          refine ti_callVvE (ci := 4) (av := [.int 6]) C hE hw (x_X4_readBoth_6 l D A cy hJ M_30 iM_30 t ht ((tT_fr q_31).trans f_17) j hj ((tT_fr q_31).trans f_18) B n g_36 p0r_29 d_21 p1r_29) ⟨ml_X4_164, ym_X4_readBoth, yv_X4_readBoth, yi_X4_readBoth, yc_X4_readBoth⟩ yd_X4_readBoth ob_1 (by decide) rfl rfl hl.1 (Nat.le_of_ble_eq_true rfl) ⟨by decide, by decide⟩ ⟨Nat.zero_le _, Nat.zero_le _⟩ dX4_readEither_31 (fun M_38 H locs hp_38 hw => ?_)
          obtain ⟨iM_38, q_39, q_40, q_41, q_42, p0r_37, p1r_37⟩ := hp_38
          obtain ⟨g_43, eg_43⟩ : ∃ z : Nat → Int, z = pp_bo B n (pp_pt B n 2) g_36 := ⟨_, rfl⟩
          rw [← eg_43] at p0r_37
          have lg_43_0 : g_43 0 = (tI M_38 2 4).toInt := p0r_37.2.1.1
          have lg_43_1 : g_43 1 = (tI M_38 2 6).toInt := p0r_37.2.1.2.1
          have lg_43_4 : g_43 4 = (tI M_38 1 4).toInt := p0r_37.2.2.1.1
          have lg_43_7 : g_43 7 = (tI M_38 t 4).toInt := p0r_37.2.2.2.1.1
          have lg_43_8 : g_43 8 = (tI M_38 t 5).toInt := p0r_37.2.2.2.1.2.1
          obtain ⟨d_44, ed_44⟩ : ∃ z : Nat → Int, z = qq_bo B n j (pp_pt B n 2) (qq_pt B n j 2) g_36 d_21 := ⟨_, rfl⟩
          rw [← ed_44] at p1r_37
          refine lv_aload_n hx hb dX4_readEither_34 rfl (lv_at hl 1 rfl) ?_
          refine ti_get (ci := 4) (k := 2) (N := 6) (T := TX4) (v := .ref (A (ti_laws t j) 0)) C hw iw_4 rfl ob_1 (by decide) (by decide) fl_X4_154 rfl (ti_Tv ((tT_fr q_39).trans ((tT_fr q_31).trans f_18))) dX4_readEither_35 ?_
          refine lv_bipush (v := (-23)) hx hb dX4_readEither_38 (by decide) ?_
          refine ti_callVv (ci := 1) (av := [.int (-23)]) C hw (x_X1_add l D A cy hJ M_38 iM_38 t ht j hj (-23) (by first | omega | exact Or.inl (by decide) | exact Or.inr (by decide)) B n g_43 p0r_37 d_44 p1r_37) ⟨ml_X4_170, ym_X1_add, yv_X1_add, yi_X1_add, yc_X1_add⟩ yd_X1_add (ob_l ht hj) (by decide) rfl rfl hl.1 (Nat.le_of_ble_eq_true rfl) ⟨by decide, by decide⟩ ⟨Nat.zero_le _, Nat.zero_le _⟩ dX4_readEither_40 (fun M_46 H locs hp_46 hw => ?_)
          obtain ⟨iM_46, q_47, q_48, q_49, p0r_45, p1r_45⟩ := hp_46
          have lM_46_0 : g_43 0 = (tI M_46 2 4).toInt := p0r_45.2.1.1
          have lM_46_1 : g_43 1 = (tI M_46 2 6).toInt := p0r_45.2.1.2.1
          have lM_46_4 : g_43 4 = (tI M_46 1 4).toInt := p0r_45.2.2.1.1
          have lM_46_7 : g_43 7 = (tI M_46 t 4).toInt := p0r_45.2.2.2.1.1
          have lM_46_8 : g_43 8 = (tI M_46 t 5).toInt := p0r_45.2.2.2.1.2.1
          simp only [show ((-23) : Int32).toInt = (-23) by decide] at p1r_45
          obtain ⟨d_50, ed_50⟩ : ∃ z : Nat → Int, z = qa j (-23) d_44 := ⟨_, rfl⟩
          rw [← ed_50] at p1r_45
          obtain ⟨x_51, ex_51⟩ : ∃ z : Int32, z = x_9 + 1 := ⟨_, rfl⟩
          have tx_51 : x_51.toInt = x_9.toInt + 1 := i_add ex_51 rfl (by decide) (by omega) (by omega)
          refine lv_iinc (v := x_51) (lv' := [(2, .int x_51), (0, .ref (A 1 0)), (1, .int 6)]) hx hb dX4_readEither_43 hl (k := 0) rfl (by rw [ex_51]; rfl) (by decide) rfl (fun ls hl => ?_)
          refine lv_goto (tgt := 7) hx hb dX4_readEither_46 (by decide) ?_
          exact ih_25 x_51 M_46 g_43 d_50 _ _ _ (by omega) (by first | omega | decide) (by first | omega | decide) iM_46 ((q_47).trans ((q_39).trans ((q_31).trans f_13))) (f0.trans (f0_x q_48) (f0.trans q_40 (f0.trans q_32 f_14))) (((q_48 1).2.1).trans ((q_41).trans ((q_33).trans f_15))) (ot.trans q_49 (ot.trans q_42 (ot.trans q_34 f_16))) ((tT_fr q_47).trans ((tT_fr q_39).trans ((tT_fr q_31).trans f_17))) ((tT_fr q_47).trans ((tT_fr q_39).trans ((tT_fr q_31).trans f_18))) p0r_45 p1r_45 (j_23.trans (lp_step (decide_eq_true (by omega)) (by rw [eg_43, eg_36]) (by omega))) (j_24.trans (qlp_step (decide_eq_true (by omega)) (by rw [eg_43, eg_36]) (by rw [ed_50, ed_44, eg_36]) (by omega))) hw (lv_sub hl [0, 1, 2] rfl)
  exact hl_7_24 ((64 - 0 : Int).toNat + 1) 0 M_2 g_7 d_8 _ _ _ (Nat.lt_succ_self _) (by have lt0 : (0 : Int32).toInt = 0 := (by decide); first | omega | decide) (by have lt0 : (0 : Int32).toInt = 0 := (by decide); first | omega | decide) iM_2 (q_3) q_4 (q_5) q_6 ((tT_fr q_3).trans hT) ((tT_fr q_3).trans hL) p0r_1 p1r_1 rfl rfl hw (lv_sub hl [0, 1, 2] rfl)
set_option maxHeartbeats 4000000 in
set_option maxRecDepth 100000 in
theorem x_X4_readPart_5 (l : Launch) (D : va_G) (A : Nat → Nat → Nat) (cy : Nat → ClassId) (hJ : ti_inj ti_LT A) (M : ti_M) (hI : cI Tc M) (t : Nat) (ht : t = 3 ∨ t = 4) (hT : tT M 1 1 = some t) (j : Nat) (hj : j < 3) (hL : tT M 1 2 = some (ti_laws t j)) (B : Nat → Int) (n : Nat) (rg : Nat → Int) (hr : rC B n t rg M) (td : Nat → Int) (hq : tq t td M) : ti_KvE l yX4_readPart cX4_readPart 3 29 ti_LT D A cy M [.ref (A 1 0), .int 5] (fun M2 => cI Tc M2 ∧ M2.2.2.2 = M.2.2.2 ∧ f0 M2 M ∧ tI M2 2 1 = tI M 2 1 ∧ ot t M2 M ∧ rC B n t (pp_pt B n 3 rg) M2 ∧ tq t (qq_pt B n j 3 rg td) M2) := by
  refine ti_eVE yp_X4_readPart hJ ti_LT_nd (Nat.le_of_ble_eq_true rfl) ?_
  intro p e s m args below meth c Q H0 C hE hQ hw ls hl
  have hx := C.1
  have hb := C.2.1
  have hl : lv_has ls 3 [(0, .ref (A 1 0)), (1, .int 5)] := hl
  have l0 : rg 0 = (tI M 2 4).toInt := hr.2.1.1
  have l1 : rg 1 = (tI M 2 6).toInt := hr.2.1.2.1
  have l2 : rg 2 = (tI M 2 5).toInt := hr.2.1.2.2.1
  have l3 : rg 3 = (tI M 2 3).toInt := hr.2.1.2.2.2
  have l4 : rg 4 = (tI M 1 4).toInt := hr.2.2.1.1
  have l5 : rg 5 = (tI M 1 5).toInt := hr.2.2.1.2.1
  have l7 : rg 7 = (tI M t 4).toInt := hr.2.2.2.1.1
  have l8 : rg 8 = (tI M t 5).toInt := hr.2.2.2.1.2.1
  have l9 : rg 9 = (tI M t 3).toInt := hr.2.2.2.1.2.2
  refine lv_aload_n hx hb dX4_readPart_0 rfl (lv_at hl 0 rfl) ?_
  refine ti_get (ci := 4) (k := 0) (N := 6) (T := TX4) (v := .ref (A 2 0)) C hw iw_4 rfl ob_1 (by decide) (by decide) fl_X4_12 rfl rfl dX4_readPart_1 ?_
  refine ti_get (ci := 7) (k := 4) (N := 7) (T := TX7) C hw iw_7 rfl ob_2 (by decide) (by decide) fl_X4_41 rfl rfl dX4_readPart_4 ?_
  refine lv_topi (fun x_1 ex_1 => ?_)
  have bx_1 : 0 ≤ x_1.toInt ∧ x_1.toInt ≤ 41 := cI_rd hI ob_2.1 ex_1
  have ux_1 : (tI M 2 4).toInt = x_1.toInt := by rw [ex_1]
  refine lv_istore_n (lv' := [(2, .int x_1), (0, .ref (A 1 0)), (1, .int 5)]) hx hb dX4_readPart_7 rfl hl (by decide) rfl (fun ls hl => ?_)
  refine lv_iload_n hx hb dX4_readPart_8 rfl (lv_at hl 0 rfl) ?_
  refine lv_bipush (v := 30) hx hb dX4_readPart_9 (by decide) ?_
  refine sb_icmp_ne (tgt := 28) hx hb rfl (by decide : (30 : Int32).toInt = 30) dX4_readPart_11 (by decide) (fun c_11_1 => ?_) (fun c_11_1 => ?_)
  · refine lv_iload_n hx hb dX4_readPart_28 rfl (lv_at hl 0 rfl) ?_
    refine lv_bipush (v := 30) hx hb dX4_readPart_29 (by decide) ?_
    refine sb_icmp_ne (tgt := 57) hx hb rfl (by decide : (30 : Int32).toInt = 30) dX4_readPart_31 (by decide) (fun c_31_3 => ?_) (fun h => by omega)
    refine lv_iload_n hx hb dX4_readPart_57 rfl (lv_at hl 0 rfl) ?_
    refine lv_bipush (v := 26) hx hb dX4_readPart_58 (by decide) ?_
    refine sb_icmp_ne (tgt := 84) hx hb rfl (by decide : (26 : Int32).toInt = 26) dX4_readPart_60 (by decide) (fun c_60_30 => ?_) (fun c_60_30 => ?_)
    · refine lv_iload_n hx hb dX4_readPart_84 rfl (lv_at hl 0 rfl) ?_
      refine lv_bipush (v := 26) hx hb dX4_readPart_85 (by decide) ?_
      refine sb_icmp_ne (tgt := 111) hx hb rfl (by decide : (26 : Int32).toInt = 26) dX4_readPart_87 (by decide) (fun c_87_41 => ?_) (fun h => by omega)
      refine lv_iload_n hx hb dX4_readPart_111 rfl (lv_at hl 0 rfl) ?_
      refine lv_bipush (v := 16) hx hb dX4_readPart_112 (by decide) ?_
      refine sb_icmp_lt (tgt := 139) hx hb rfl (by decide : (16 : Int32).toInt = 16) dX4_readPart_114 (by decide) (fun c_114_58 => ?_) (fun c_114_58 => ?_)
      · refine lv_aload_n hx hb dX4_readPart_139 rfl (lv_at hl 1 rfl) ?_
        refine lv_iconst (v := 1) hx hb dX4_readPart_140 (by decide) ?_
        refine ti_callVv (ci := 4) (av := [.int 1]) C hw (x_X4_refuse l D A cy hJ M hI t ht 1 B n rg hr) ⟨ml_X4_82, ym_X4_refuse, yv_X4_refuse, yi_X4_refuse, yc_X4_refuse⟩ yd_X4_refuse ob_1 (by decide) rfl rfl hl.1 (Nat.le_of_ble_eq_true rfl) ⟨by decide, by decide⟩ ⟨Nat.zero_le _, Nat.zero_le _⟩ dX4_readPart_141 (fun M_77 H locs hp_77 hw => ?_)
        obtain ⟨iM_77, q_78, q_79, q_80, q_81, p0r_76⟩ := hp_77
        have hlr_76_1 : (1 : Int32).toInt = 1 := by decide
        simp only [hlr_76_1] at p0r_76
        obtain ⟨g_82, eg_82⟩ : ∃ z : Nat → Int, z = pp_rf 1 rg := ⟨_, rfl⟩
        rw [← eg_82] at p0r_76
        have lg_82_0 : g_82 0 = (tI M_77 2 4).toInt := p0r_76.2.1.1
        have lg_82_1 : g_82 1 = (tI M_77 2 6).toInt := p0r_76.2.1.2.1
        have lg_82_4 : g_82 4 = (tI M_77 1 4).toInt := p0r_76.2.2.1.1
        have lg_82_7 : g_82 7 = (tI M_77 t 4).toInt := p0r_76.2.2.2.1.1
        have lg_82_8 : g_82 8 = (tI M_77 t 5).toInt := p0r_76.2.2.2.1.2.1
        have tq_83 : tq t td M_77 := tq_fr ht hq q_79 q_81
        exact hQ _ _ _ _ _ hw (⟨iM_77, (q_78), (f0_12 q_79), (q_80), (ot_12 ht q_79 q_81), (by rw [pe_3, if_neg (by omega)]; unfold pp_p0; rw [if_neg (by omega), if_neg (fun q => by omega), ← eg_82]; exact p0r_76), (by rw [qe_3, if_neg (by omega)]; unfold qq_p0; rw [if_neg (by omega), if_neg (fun q => by omega)]; exact tq_83)⟩) dX4_readPart_144
      · refine lv_iload_n hx hb dX4_readPart_117 rfl (lv_at hl 0 rfl) ?_
        refine lv_bipush (v := 21) hx hb dX4_readPart_118 (by decide) ?_
        refine sb_icmp_gt (tgt := 139) hx hb rfl (by decide : (21 : Int32).toInt = 21) dX4_readPart_120 (by decide) (fun c_120_59 => ?_) (fun c_120_59 => ?_)
        · refine lv_aload_n hx hb dX4_readPart_139 rfl (lv_at hl 1 rfl) ?_
          refine lv_iconst (v := 1) hx hb dX4_readPart_140 (by decide) ?_
          refine ti_callVv (ci := 4) (av := [.int 1]) C hw (x_X4_refuse l D A cy hJ M hI t ht 1 B n rg hr) ⟨ml_X4_82, ym_X4_refuse, yv_X4_refuse, yi_X4_refuse, yc_X4_refuse⟩ yd_X4_refuse ob_1 (by decide) rfl rfl hl.1 (Nat.le_of_ble_eq_true rfl) ⟨by decide, by decide⟩ ⟨Nat.zero_le _, Nat.zero_le _⟩ dX4_readPart_141 (fun M_85 H locs hp_85 hw => ?_)
          obtain ⟨iM_85, q_86, q_87, q_88, q_89, p0r_84⟩ := hp_85
          have hlr_84_1 : (1 : Int32).toInt = 1 := by decide
          simp only [hlr_84_1] at p0r_84
          obtain ⟨g_90, eg_90⟩ : ∃ z : Nat → Int, z = pp_rf 1 rg := ⟨_, rfl⟩
          rw [← eg_90] at p0r_84
          have lg_90_0 : g_90 0 = (tI M_85 2 4).toInt := p0r_84.2.1.1
          have lg_90_1 : g_90 1 = (tI M_85 2 6).toInt := p0r_84.2.1.2.1
          have lg_90_4 : g_90 4 = (tI M_85 1 4).toInt := p0r_84.2.2.1.1
          have lg_90_7 : g_90 7 = (tI M_85 t 4).toInt := p0r_84.2.2.2.1.1
          have lg_90_8 : g_90 8 = (tI M_85 t 5).toInt := p0r_84.2.2.2.1.2.1
          have tq_91 : tq t td M_85 := tq_fr ht hq q_87 q_89
          exact hQ _ _ _ _ _ hw (⟨iM_85, (q_86), (f0_12 q_87), (q_88), (ot_12 ht q_87 q_89), (by rw [pe_3, if_neg (by omega)]; unfold pp_p0; rw [if_neg (by omega), if_neg (fun q => by omega), ← eg_90]; exact p0r_84), (by rw [qe_3, if_neg (by omega)]; unfold qq_p0; rw [if_neg (by omega), if_neg (fun q => by omega)]; exact tq_91)⟩) dX4_readPart_144
        · refine lv_aload_n hx hb dX4_readPart_123 rfl (lv_at hl 1 rfl) ?_
          refine ti_get (ci := 4) (k := 2) (N := 6) (T := TX4) (v := .ref (A (ti_laws t j) 0)) C hw iw_4 rfl ob_1 (by decide) (by decide) fl_X4_154 rfl (ti_Tv (hL)) dX4_readPart_124 ?_
          refine lv_iload_n hx hb dX4_readPart_127 rfl (lv_at hl 0 rfl) ?_
          refine lv_ineg hx hb dX4_readPart_128 ?_
          refine lv_topi (fun x_61 ex_61 => ?_)
          have tx_61 : x_61.toInt = -x_1.toInt := i_neg ex_61 rfl (by omega)
          refine ti_callVv (ci := 1) (av := [.int x_61]) C hw (x_X1_add l D A cy hJ M hI t ht j hj x_61 (by first | omega | exact Or.inl (by decide) | exact Or.inr (by decide)) B n rg hr td hq) ⟨ml_X4_170, ym_X1_add, yv_X1_add, yi_X1_add, yc_X1_add⟩ yd_X1_add (ob_l ht hj) (by decide) rfl rfl hl.1 (Nat.le_of_ble_eq_true rfl) ⟨by decide, by decide⟩ ⟨Nat.zero_le _, Nat.zero_le _⟩ dX4_readPart_129 (fun M_63 H locs hp_63 hw => ?_)
          obtain ⟨iM_63, q_64, q_65, q_66, p0r_62, p1r_62⟩ := hp_63
          have lM_63_0 : rg 0 = (tI M_63 2 4).toInt := p0r_62.2.1.1
          have lM_63_1 : rg 1 = (tI M_63 2 6).toInt := p0r_62.2.1.2.1
          have lM_63_4 : rg 4 = (tI M_63 1 4).toInt := p0r_62.2.2.1.1
          have lM_63_7 : rg 7 = (tI M_63 t 4).toInt := p0r_62.2.2.2.1.1
          have lM_63_8 : rg 8 = (tI M_63 t 5).toInt := p0r_62.2.2.2.1.2.1
          obtain ⟨d_67, ed_67⟩ : ∃ z : Nat → Int, z = qa j x_61.toInt td := ⟨_, rfl⟩
          rw [← ed_67] at p1r_62
          refine lv_aload_n hx hb dX4_readPart_132 rfl (lv_at hl 1 rfl) ?_
          refine ti_callVvE (ci := 4) (av := []) C hE hw (x_X4_knot l D A cy hJ M_63 iM_63 t ht ((tT_fr q_64).trans hT) B n rg p0r_62 d_67 p1r_62) ⟨ml_X4_167, ym_X4_knot, yv_X4_knot, yi_X4_knot, yc_X4_knot⟩ yd_X4_knot ob_1 (by decide) rfl rfl hl.1 (Nat.le_of_ble_eq_true rfl) ⟨by decide, by decide⟩ ⟨Nat.zero_le _, Nat.zero_le _⟩ dX4_readPart_133 (fun M_69 H locs hp_69 hw => ?_)
          obtain ⟨iM_69, q_70, q_71, q_72, q_73, q_74, p0r_68, p1r_68⟩ := hp_69
          obtain ⟨g_75, eg_75⟩ : ∃ z : Nat → Int, z = pp_kn B n rg := ⟨_, rfl⟩
          rw [← eg_75] at p0r_68
          have lg_75_0 : g_75 0 = (tI M_69 2 4).toInt := p0r_68.2.1.1
          have lg_75_1 : g_75 1 = (tI M_69 2 6).toInt := p0r_68.2.1.2.1
          have lg_75_4 : g_75 4 = (tI M_69 1 4).toInt := p0r_68.2.2.1.1
          have lg_75_7 : g_75 7 = (tI M_69 t 4).toInt := p0r_68.2.2.2.1.1
          have lg_75_8 : g_75 8 = (tI M_69 t 5).toInt := p0r_68.2.2.2.1.2.1
          refine lv_goto (tgt := 144) hx hb dX4_readPart_136 (by decide) ?_
          exact hQ _ _ _ _ _ hw (⟨iM_69, ((q_70).trans q_64), (f0.trans q_71 (f0_x q_65)), ((q_72).trans ((q_65 1).2.1)), (ot.trans q_73 q_66), (by rw [pe_3, if_neg (by omega)]; unfold pp_p0; rw [if_neg (by omega), if_pos ⟨by omega, by omega⟩, ← eg_75]; exact p0r_68), (by rw [qe_3, if_neg (by omega)]; unfold qq_p0; rw [if_neg (by omega), if_pos ⟨by omega, by omega⟩, show -(rg 0) = x_61.toInt by omega, ← ed_67]; exact p1r_68)⟩) dX4_readPart_144
    · refine lv_aload_n hx hb dX4_readPart_63 rfl (lv_at hl 1 rfl) ?_
      refine ti_get (ci := 4) (k := 0) (N := 6) (T := TX4) (v := .ref (A 2 0)) C hw iw_4 rfl ob_1 (by decide) (by decide) fl_X4_12 rfl rfl dX4_readPart_64 ?_
      refine ti_get (ci := 7) (k := 6) (N := 7) (T := TX7) C hw iw_7 rfl ob_2 (by decide) (by decide) fl_X4_95 rfl rfl dX4_readPart_67 ?_
      refine lv_topi (fun x_32 ex_32 => ?_)
      have bx_32 : 0 ≤ x_32.toInt ∧ x_32.toInt ≤ 2147483647 := cI_rd hI ob_2.1 ex_32
      have ux_32 : (tI M 2 6).toInt = x_32.toInt := by rw [ex_32]
      refine lv_sipush (v := 9999) hx hb dX4_readPart_70 (by decide) ?_
      refine sb_icmp_le (tgt := 84) hx hb rfl (by decide : (9999 : Int32).toInt = 9999) dX4_readPart_73 (by decide) (fun c_73_32 => ?_) (fun c_73_32 => ?_)
      · refine lv_iload_n hx hb dX4_readPart_84 rfl (lv_at hl 0 rfl) ?_
        refine lv_bipush (v := 26) hx hb dX4_readPart_85 (by decide) ?_
        refine sb_icmp_ne (tgt := 111) hx hb rfl (by decide : (26 : Int32).toInt = 26) dX4_readPart_87 (by decide) (fun h => by omega) (fun c_87_42 => ?_)
        refine lv_aload_n hx hb dX4_readPart_90 rfl (lv_at hl 1 rfl) ?_
        refine ti_get (ci := 4) (k := 2) (N := 6) (T := TX4) (v := .ref (A (ti_laws t j) 0)) C hw iw_4 rfl ob_1 (by decide) (by decide) fl_X4_154 rfl (ti_Tv (hL)) dX4_readPart_91 ?_
        refine lv_aload_n hx hb dX4_readPart_94 rfl (lv_at hl 1 rfl) ?_
        refine ti_get (ci := 4) (k := 0) (N := 6) (T := TX4) (v := .ref (A 2 0)) C hw iw_4 rfl ob_1 (by decide) (by decide) fl_X4_12 rfl rfl dX4_readPart_95 ?_
        refine ti_get (ci := 7) (k := 6) (N := 7) (T := TX7) C hw iw_7 rfl ob_2 (by decide) (by decide) fl_X4_95 rfl rfl dX4_readPart_98 ?_
        refine ti_top (y := x_32) (ex_32.symm) ?_
        have u_44 : (tI M 2 6).toInt = (x_32 : Int32).toInt := by rw [(ex_32.symm)]
        refine ti_callVv (ci := 1) (av := [.int x_32]) C hw (x_X1_add l D A cy hJ M hI t ht j hj x_32 (by first | omega | exact Or.inl (by decide) | exact Or.inr (by decide)) B n rg hr td hq) ⟨ml_X4_170, ym_X1_add, yv_X1_add, yi_X1_add, yc_X1_add⟩ yd_X1_add (ob_l ht hj) (by decide) rfl rfl hl.1 (Nat.le_of_ble_eq_true rfl) ⟨by decide, by decide⟩ ⟨Nat.zero_le _, Nat.zero_le _⟩ dX4_readPart_101 (fun M_46 H locs hp_46 hw => ?_)
        obtain ⟨iM_46, q_47, q_48, q_49, p0r_45, p1r_45⟩ := hp_46
        have lM_46_0 : rg 0 = (tI M_46 2 4).toInt := p0r_45.2.1.1
        have lM_46_1 : rg 1 = (tI M_46 2 6).toInt := p0r_45.2.1.2.1
        have lM_46_4 : rg 4 = (tI M_46 1 4).toInt := p0r_45.2.2.1.1
        have lM_46_7 : rg 7 = (tI M_46 t 4).toInt := p0r_45.2.2.2.1.1
        have lM_46_8 : rg 8 = (tI M_46 t 5).toInt := p0r_45.2.2.2.1.2.1
        obtain ⟨d_50, ed_50⟩ : ∃ z : Nat → Int, z = qa j x_32.toInt td := ⟨_, rfl⟩
        rw [← ed_50] at p1r_45
        refine lv_aload_n hx hb dX4_readPart_104 rfl (lv_at hl 1 rfl) ?_
        refine ti_callVvE (ci := 4) (av := []) C hE hw (x_X4_knot l D A cy hJ M_46 iM_46 t ht ((tT_fr q_47).trans hT) B n rg p0r_45 d_50 p1r_45) ⟨ml_X4_167, ym_X4_knot, yv_X4_knot, yi_X4_knot, yc_X4_knot⟩ yd_X4_knot ob_1 (by decide) rfl rfl hl.1 (Nat.le_of_ble_eq_true rfl) ⟨by decide, by decide⟩ ⟨Nat.zero_le _, Nat.zero_le _⟩ dX4_readPart_105 (fun M_52 H locs hp_52 hw => ?_)
        obtain ⟨iM_52, q_53, q_54, q_55, q_56, q_57, p0r_51, p1r_51⟩ := hp_52
        obtain ⟨g_58, eg_58⟩ : ∃ z : Nat → Int, z = pp_kn B n rg := ⟨_, rfl⟩
        rw [← eg_58] at p0r_51
        have lg_58_0 : g_58 0 = (tI M_52 2 4).toInt := p0r_51.2.1.1
        have lg_58_1 : g_58 1 = (tI M_52 2 6).toInt := p0r_51.2.1.2.1
        have lg_58_4 : g_58 4 = (tI M_52 1 4).toInt := p0r_51.2.2.1.1
        have lg_58_7 : g_58 7 = (tI M_52 t 4).toInt := p0r_51.2.2.2.1.1
        have lg_58_8 : g_58 8 = (tI M_52 t 5).toInt := p0r_51.2.2.2.1.2.1
        refine lv_goto (tgt := 144) hx hb dX4_readPart_108 (by decide) ?_
        exact hQ _ _ _ _ _ hw (⟨iM_52, ((q_53).trans q_47), (f0.trans q_54 (f0_x q_48)), ((q_55).trans ((q_48 1).2.1)), (ot.trans q_56 q_49), (by rw [pe_3, if_neg (by omega)]; unfold pp_p0; rw [if_pos (by omega), if_neg (by omega), ← eg_58]; exact p0r_51), (by rw [qe_3, if_neg (by omega)]; unfold qq_p0; rw [if_pos (by omega), if_neg (by omega), show rg 1 = x_32.toInt by omega, ← ed_50]; exact p1r_51)⟩) dX4_readPart_144
      · refine lv_aload_n hx hb dX4_readPart_76 rfl (lv_at hl 1 rfl) ?_
        refine lv_iconst (v := 2) hx hb dX4_readPart_77 (by decide) ?_
        refine ti_callVv (ci := 4) (av := [.int 2]) C hw (x_X4_refuse l D A cy hJ M hI t ht 2 B n rg hr) ⟨ml_X4_82, ym_X4_refuse, yv_X4_refuse, yi_X4_refuse, yc_X4_refuse⟩ yd_X4_refuse ob_1 (by decide) rfl rfl hl.1 (Nat.le_of_ble_eq_true rfl) ⟨by decide, by decide⟩ ⟨Nat.zero_le _, Nat.zero_le _⟩ dX4_readPart_78 (fun M_35 H locs hp_35 hw => ?_)
        obtain ⟨iM_35, q_36, q_37, q_38, q_39, p0r_34⟩ := hp_35
        have hlr_34_2 : (2 : Int32).toInt = 2 := by decide
        simp only [hlr_34_2] at p0r_34
        obtain ⟨g_40, eg_40⟩ : ∃ z : Nat → Int, z = pp_rf 2 rg := ⟨_, rfl⟩
        rw [← eg_40] at p0r_34
        have lg_40_0 : g_40 0 = (tI M_35 2 4).toInt := p0r_34.2.1.1
        have lg_40_1 : g_40 1 = (tI M_35 2 6).toInt := p0r_34.2.1.2.1
        have lg_40_4 : g_40 4 = (tI M_35 1 4).toInt := p0r_34.2.2.1.1
        have lg_40_7 : g_40 7 = (tI M_35 t 4).toInt := p0r_34.2.2.2.1.1
        have lg_40_8 : g_40 8 = (tI M_35 t 5).toInt := p0r_34.2.2.2.1.2.1
        have tq_41 : tq t td M_35 := tq_fr ht hq q_37 q_39
        refine lv_goto (tgt := 144) hx hb dX4_readPart_81 (by decide) ?_
        exact hQ _ _ _ _ _ hw (⟨iM_35, (q_36), (f0_12 q_37), (q_38), (ot_12 ht q_37 q_39), (by rw [pe_3, if_neg (by omega)]; unfold pp_p0; rw [if_pos (by omega), if_pos (by omega), ← eg_40]; exact p0r_34), (by rw [qe_3, if_neg (by omega)]; unfold qq_p0; rw [if_pos (by omega), if_pos (by omega)]; exact tq_41)⟩) dX4_readPart_144
  · refine lv_iload_n hx hb dX4_readPart_14 rfl (lv_at hl 2 rfl) ?_
    refine lv_bipush (v := 8) hx hb dX4_readPart_15 (by decide) ?_
    refine sb_icmp_lt (tgt := 28) hx hb (by decide : (5 : Int32).toInt = 5) (by decide : (8 : Int32).toInt = 8) dX4_readPart_17 (by decide) (fun c_17_2 => ?_) (fun h => absurd h (by decide))
    refine lv_iload_n hx hb dX4_readPart_28 rfl (lv_at hl 0 rfl) ?_
    refine lv_bipush (v := 30) hx hb dX4_readPart_29 (by decide) ?_
    refine sb_icmp_ne (tgt := 57) hx hb rfl (by decide : (30 : Int32).toInt = 30) dX4_readPart_31 (by decide) (fun h => by omega) (fun c_31_4 => ?_)
    refine lv_aload_n hx hb dX4_readPart_34 rfl (lv_at hl 1 rfl) ?_
    refine ti_get (ci := 4) (k := 0) (N := 6) (T := TX4) (v := .ref (A 2 0)) C hw iw_4 rfl ob_1 (by decide) (by decide) fl_X4_12 rfl rfl dX4_readPart_35 ?_
    refine ti_callVvE (ci := 7) (av := []) C hE hw (x_X7_advance l D A cy hJ M hI ) ⟨ml_X4_92, ym_X7_advance, yv_X7_advance, yi_X7_advance, yc_X7_advance⟩ yd_X7_advance ob_2 (by decide) rfl rfl hl.1 (Nat.le_of_ble_eq_true rfl) ⟨by decide, by decide⟩ ⟨Nat.zero_le _, Nat.zero_le _⟩ dX4_readPart_38 (fun M_7 H locs hp_7 hw => ?_)
    obtain ⟨iM_7, q_8, q_9, q_10, q_11, p0r_6, p1r_6, p2r_6, p3r_6⟩ := hp_7
    have hs_12 := rC_av ht hr q_11 q_9 p0r_6 p1r_6 p2r_6 p3r_6
    obtain ⟨g_13, eg_13⟩ : ∃ z : Nat → Int, z = pp_av B n rg := ⟨_, rfl⟩
    rw [← eg_13] at hs_12
    have lg_13_0 : g_13 0 = (tI M_7 2 4).toInt := hs_12.2.1.1
    have lg_13_1 : g_13 1 = (tI M_7 2 6).toInt := hs_12.2.1.2.1
    have lg_13_4 : g_13 4 = (tI M_7 1 4).toInt := hs_12.2.2.1.1
    have lg_13_7 : g_13 7 = (tI M_7 t 4).toInt := hs_12.2.2.2.1.1
    have lg_13_8 : g_13 8 = (tI M_7 t 5).toInt := hs_12.2.2.2.1.2.1
    have tq_14 : tq t td M_7 := tq_fr ht hq (o2_12 q_9) q_11.1
    refine lv_aload_n hx hb dX4_readPart_41 rfl (lv_at hl 1 rfl) ?_
    refine lv_iload_n hx hb dX4_readPart_42 rfl (lv_at hl 2 rfl) ?_
    refine lv_iconst (v := 1) hx hb dX4_readPart_43 (by decide) ?_
    refine lv_iadd hx hb dX4_readPart_44 ?_
    refine ti_top (y := 6) (by decide) ?_
    refine ti_callVvE (ci := 4) (av := [.int 6]) C hE hw (x_X4_readEither_6 l D A cy hJ M_7 iM_7 t ht ((tT_fr q_8).trans hT) j hj ((tT_fr q_8).trans hL) B n g_13 hs_12 td tq_14) ⟨ml_X4_158, ym_X4_readEither, yv_X4_readEither, yi_X4_readEither, yc_X4_readEither⟩ yd_X4_readEither ob_1 (by decide) rfl rfl hl.1 (Nat.le_of_ble_eq_true rfl) ⟨by decide, by decide⟩ ⟨Nat.zero_le _, Nat.zero_le _⟩ dX4_readPart_45 (fun M_16 H locs hp_16 hw => ?_)
    obtain ⟨iM_16, q_17, q_18, q_19, q_20, p0r_15, p1r_15⟩ := hp_16
    obtain ⟨g_21, eg_21⟩ : ∃ z : Nat → Int, z = pp_ei B n (pp_pt B n 2) g_13 := ⟨_, rfl⟩
    rw [← eg_21] at p0r_15
    have lg_21_0 : g_21 0 = (tI M_16 2 4).toInt := p0r_15.2.1.1
    have lg_21_1 : g_21 1 = (tI M_16 2 6).toInt := p0r_15.2.1.2.1
    have lg_21_4 : g_21 4 = (tI M_16 1 4).toInt := p0r_15.2.2.1.1
    have lg_21_7 : g_21 7 = (tI M_16 t 4).toInt := p0r_15.2.2.2.1.1
    have lg_21_8 : g_21 8 = (tI M_16 t 5).toInt := p0r_15.2.2.2.1.2.1
    obtain ⟨d_22, ed_22⟩ : ∃ z : Nat → Int, z = qq_ei B n j (pp_pt B n 2) (qq_pt B n j 2) g_13 td := ⟨_, rfl⟩
    rw [← ed_22] at p1r_15
    refine lv_aload_n hx hb dX4_readPart_48 rfl (lv_at hl 1 rfl) ?_
    refine lv_bipush (v := 31) hx hb dX4_readPart_49 (by decide) ?_
    refine ti_callVvE (ci := 4) (av := [.int 31]) C hE hw (x_X4_take l D A cy hJ M_16 iM_16 t ht 31 B n g_21 p0r_15) ⟨ml_X4_85, ym_X4_take, yv_X4_take, yi_X4_take, yc_X4_take⟩ yd_X4_take ob_1 (by decide) rfl rfl hl.1 (Nat.le_of_ble_eq_true rfl) ⟨by decide, by decide⟩ ⟨Nat.zero_le _, Nat.zero_le _⟩ dX4_readPart_51 (fun M_24 H locs hp_24 hw => ?_)
    obtain ⟨iM_24, q_25, q_26, q_27, q_28, p0r_23⟩ := hp_24
    have hlr_23_31 : (31 : Int32).toInt = 31 := by decide
    simp only [hlr_23_31] at p0r_23
    obtain ⟨g_29, eg_29⟩ : ∃ z : Nat → Int, z = pp_tk B n 31 g_21 := ⟨_, rfl⟩
    rw [← eg_29] at p0r_23
    have lg_29_0 : g_29 0 = (tI M_24 2 4).toInt := p0r_23.2.1.1
    have lg_29_1 : g_29 1 = (tI M_24 2 6).toInt := p0r_23.2.1.2.1
    have lg_29_4 : g_29 4 = (tI M_24 1 4).toInt := p0r_23.2.2.1.1
    have lg_29_7 : g_29 7 = (tI M_24 t 4).toInt := p0r_23.2.2.2.1.1
    have lg_29_8 : g_29 8 = (tI M_24 t 5).toInt := p0r_23.2.2.2.1.2.1
    have tq_30 : tq t d_22 M_24 := tq_fr ht p1r_15 q_26 q_28
    refine lv_goto (tgt := 144) hx hb dX4_readPart_54 (by decide) ?_
    exact hQ _ _ _ _ _ hw (⟨iM_24, ((q_25).trans ((q_17).trans q_8)), (f0.trans (f0_12 q_26) (f0.trans q_18 (f0_12 (o2_12 q_9)))), ((q_27).trans ((q_19).trans q_10)), (ot.trans (ot_12 ht q_26 q_28) (ot.trans q_20 (ot_12 ht (o2_12 q_9) q_11.1))), (by rw [pe_3, if_pos (by omega), ← eg_13, ← eg_21, ← eg_29]; exact p0r_23), (by rw [qe_3, if_pos (by omega), ← eg_13, ← ed_22]; exact tq_30)⟩) dX4_readPart_144
set_option maxHeartbeats 4000000 in
set_option maxRecDepth 100000 in
theorem x_X4_readProduct_5 (l : Launch) (D : va_G) (A : Nat → Nat → Nat) (cy : Nat → ClassId) (hJ : ti_inj ti_LT A) (M : ti_M) (hI : cI Tc M) (t : Nat) (ht : t = 3 ∨ t = 4) (hT : tT M 1 1 = some t) (j : Nat) (hj : j < 3) (hL : tT M 1 2 = some (ti_laws t j)) (B : Nat → Int) (n : Nat) (rg : Nat → Int) (hr : rC B n t rg M) (td : Nat → Int) (hq : tq t td M) : ti_KvE l yX4_readProduct cX4_readProduct 4 30 ti_LT D A cy M [.ref (A 1 0), .int 5] (fun M2 => cI Tc M2 ∧ M2.2.2.2 = M.2.2.2 ∧ f0 M2 M ∧ tI M2 2 1 = tI M 2 1 ∧ ot t M2 M ∧ rC B n t (pp_pd B n (pp_pt B n 3) rg) M2 ∧ tq t (qq_pd B n j (pp_pt B n 3) (qq_pt B n j 3) rg td) M2) := by
  refine ti_eVE yp_X4_readProduct hJ ti_LT_nd (Nat.le_of_ble_eq_true rfl) ?_
  intro p e s m args below meth c Q H0 C hE hQ hw ls hl
  have hx := C.1
  have hb := C.2.1
  have hl : lv_has ls 4 [(0, .ref (A 1 0)), (1, .int 5)] := hl
  have l0 : rg 0 = (tI M 2 4).toInt := hr.2.1.1
  have l1 : rg 1 = (tI M 2 6).toInt := hr.2.1.2.1
  have l2 : rg 2 = (tI M 2 5).toInt := hr.2.1.2.2.1
  have l3 : rg 3 = (tI M 2 3).toInt := hr.2.1.2.2.2
  have l4 : rg 4 = (tI M 1 4).toInt := hr.2.2.1.1
  have l5 : rg 5 = (tI M 1 5).toInt := hr.2.2.1.2.1
  have l7 : rg 7 = (tI M t 4).toInt := hr.2.2.2.1.1
  have l8 : rg 8 = (tI M t 5).toInt := hr.2.2.2.1.2.1
  have l9 : rg 9 = (tI M t 3).toInt := hr.2.2.2.1.2.2
  refine lv_aload_n hx hb dX4_readProduct_0 rfl (lv_at hl 0 rfl) ?_
  refine lv_iload_n hx hb dX4_readProduct_1 rfl (lv_at hl 1 rfl) ?_
  refine ti_callVvE (ci := 4) (av := [.int 5]) C hE hw (x_X4_readPart_5 l D A cy hJ M hI t ht (hT) j hj (hL) B n rg hr td hq) ⟨ml_X4_187, ym_X4_readPart, yv_X4_readPart, yi_X4_readPart, yc_X4_readPart⟩ yd_X4_readPart ob_1 (by decide) rfl rfl hl.1 (Nat.le_of_ble_eq_true rfl) ⟨by decide, by decide⟩ ⟨Nat.zero_le _, Nat.zero_le _⟩ dX4_readProduct_2 (fun M_2 H locs hp_2 hw => ?_)
  obtain ⟨iM_2, q_3, q_4, q_5, q_6, p0r_1, p1r_1⟩ := hp_2
  obtain ⟨g_7, eg_7⟩ : ∃ z : Nat → Int, z = pp_pt B n 3 rg := ⟨_, rfl⟩
  rw [← eg_7] at p0r_1
  have lg_7_0 : g_7 0 = (tI M_2 2 4).toInt := p0r_1.2.1.1
  have lg_7_1 : g_7 1 = (tI M_2 2 6).toInt := p0r_1.2.1.2.1
  have lg_7_4 : g_7 4 = (tI M_2 1 4).toInt := p0r_1.2.2.1.1
  have lg_7_7 : g_7 7 = (tI M_2 t 4).toInt := p0r_1.2.2.2.1.1
  have lg_7_8 : g_7 8 = (tI M_2 t 5).toInt := p0r_1.2.2.2.1.2.1
  obtain ⟨d_8, ed_8⟩ : ∃ z : Nat → Int, z = qq_pt B n j 3 rg td := ⟨_, rfl⟩
  rw [← ed_8] at p1r_1
  refine lv_iconst (v := 0) hx hb dX4_readProduct_5 (by decide) ?_
  refine lv_istore_n (lv' := [(2, .int 0), (0, .ref (A 1 0)), (1, .int 5)]) hx hb dX4_readProduct_6 rfl hl (by decide) rfl (fun ls hl => ?_)
  have hl_7_24 : ∀ (n_25 : Nat) (x_9 : Int32) (M_12 : ti_M) (g_19 : Nat → Int) (d_21 : Nat → Int) (H : Heap) (locs : List Loc) (ls : Array Slot), (64 - x_9.toInt : Int).toNat < n_25 → (0 ≤ x_9.toInt) → (x_9.toInt ≤ 64) → (cI Tc M_12) → (M_12.2.2.2 = M.2.2.2) → (f0 M_12 M) → (tI M_12 2 1 = tI M 2 1) → (ot t M_12 M) → (tT M_12 1 1 = (some t)) → (tT M_12 1 2 = (some (ti_laws t j))) → (rC B n t g_19 M_12) → (tq t d_21 M_12) → (pp_lp pp_qT (fun s => (pp_pt B n 3) (pp_kn B n s)) 64 g_7 = pp_lp pp_qT (fun s => (pp_pt B n 3) (pp_kn B n s)) (64 - (x_9.toInt).toNat) g_19) → (qq_lp pp_qT (fun s => (pp_pt B n 3) (pp_kn B n s)) (fun s td => qa j (-(s 0)) ((qq_pt B n j 3) (pp_kn B n s) td)) 64 g_7 d_8 = qq_lp pp_qT (fun s => (pp_pt B n 3) (pp_kn B n s)) (fun s td => qa j (-(s 0)) ((qq_pt B n j 3) (pp_kn B n s) td)) (64 - (x_9.toInt).toNat) g_19 d_21) → ti_H ti_LT D A cy H0 M_12 H locs → lv_has ls 4 [(2, .int x_9), (0, .ref (A 1 0)), (1, .int 5)] → W p l e (ti_rm 30) s m args below meth c H locs 0 0 Q (F0 m 7 ls []) := by
    intro n_25
    induction n_25 with
    | zero => intro x_9 M_12 g_19 d_21 H locs ls hf_25; exact absurd hf_25 (Nat.not_lt_zero _)
    | succ n_25 ih_25 =>
      intro x_9 M_12 g_19 d_21 H locs ls hf_25 b_10 b_11 iM_12 f_13 f_14 f_15 f_16 f_17 f_18 hs_20 tq_22 j_23 j_24 hw hl
      have lg_19_0 : g_19 0 = (tI M_12 2 4).toInt := hs_20.2.1.1
      have lg_19_1 : g_19 1 = (tI M_12 2 6).toInt := hs_20.2.1.2.1
      have lg_19_4 : g_19 4 = (tI M_12 1 4).toInt := hs_20.2.2.1.1
      have lg_19_7 : g_19 7 = (tI M_12 t 4).toInt := hs_20.2.2.2.1.1
      have lg_19_8 : g_19 8 = (tI M_12 t 5).toInt := hs_20.2.2.2.1.2.1
      refine lv_iload_n hx hb dX4_readProduct_7 rfl (lv_at hl 0 rfl) ?_
      refine lv_bipush (v := 64) hx hb dX4_readProduct_8 (by decide) ?_
      refine sb_icmp_ge (tgt := 69) hx hb rfl (by decide : (64 : Int32).toInt = 64) dX4_readProduct_10 (by decide) (fun c_10_25 => ?_) (fun c_10_25 => ?_)
      · exact hQ _ _ _ _ _ hw (⟨iM_12, (f_13), f_14, (f_15), f_16, (by unfold pp_pd; rw [← eg_7, j_23, lp_end (P := pp_qT) (f := 64 - x_9.toInt.toNat) (s := g_19) (Or.inl (by omega))]; exact hs_20), (by unfold qq_pd; rw [← eg_7, ← ed_8, j_24, qlp_end (P := pp_qT) (f := 64 - x_9.toInt.toNat) (s := g_19) (Or.inl (by omega))]; exact tq_22)⟩) dX4_readProduct_69
      · refine lv_aload_n hx hb dX4_readProduct_13 rfl (lv_at hl 1 rfl) ?_
        refine ti_get (ci := 4) (k := 0) (N := 6) (T := TX4) (v := .ref (A 2 0)) C hw iw_4 rfl ob_1 (by decide) (by decide) fl_X4_12 rfl rfl dX4_readProduct_14 ?_
        refine ti_get (ci := 7) (k := 4) (N := 7) (T := TX7) C hw iw_7 rfl ob_2 (by decide) (by decide) fl_X4_41 rfl rfl dX4_readProduct_17 ?_
        refine lv_topi (fun x_27 ex_27 => ?_)
        have bx_27 : 0 ≤ x_27.toInt ∧ x_27.toInt ≤ 41 := cI_rd iM_12 ob_2.1 ex_27
        have ux_27 : (tI M_12 2 4).toInt = x_27.toInt := by rw [ex_27]
        refine lv_bipush (v := 40) hx hb dX4_readProduct_20 (by decide) ?_
        refine sb_icmp_eq (tgt := 37) hx hb rfl (by decide : (40 : Int32).toInt = 40) dX4_readProduct_22 (by decide) (fun c_22_27 => ?_) (fun c_22_27 => ?_)
        · refine lv_aload_n hx hb dX4_readProduct_37 rfl (lv_at hl 1 rfl) ?_
          refine ti_get (ci := 4) (k := 0) (N := 6) (T := TX4) (v := .ref (A 2 0)) C hw iw_4 rfl ob_1 (by decide) (by decide) fl_X4_12 rfl rfl dX4_readProduct_38 ?_
          refine ti_get (ci := 7) (k := 4) (N := 7) (T := TX7) C hw iw_7 rfl ob_2 (by decide) (by decide) fl_X4_41 rfl rfl dX4_readProduct_41 ?_
          refine ti_top (y := x_27) (ex_27.symm) ?_
          have u_31 : (tI M_12 2 4).toInt = (x_27 : Int32).toInt := by rw [(ex_27.symm)]
          refine lv_istore_n (lv' := [(3, .int x_27), (2, .int x_9), (0, .ref (A 1 0)), (1, .int 5)]) hx hb dX4_readProduct_44 rfl hl (by decide) rfl (fun ls hl => ?_)
          refine lv_aload_n hx hb dX4_readProduct_45 rfl (lv_at hl 2 rfl) ?_
          refine ti_callVvE (ci := 4) (av := []) C hE hw (x_X4_knot l D A cy hJ M_12 iM_12 t ht (f_17) B n g_19 hs_20 d_21 tq_22) ⟨ml_X4_167, ym_X4_knot, yv_X4_knot, yi_X4_knot, yc_X4_knot⟩ yd_X4_knot ob_1 (by decide) rfl rfl hl.1 (Nat.le_of_ble_eq_true rfl) ⟨by decide, by decide⟩ ⟨Nat.zero_le _, Nat.zero_le _⟩ dX4_readProduct_46 (fun M_33 H locs hp_33 hw => ?_)
          obtain ⟨iM_33, q_34, q_35, q_36, q_37, q_38, p0r_32, p1r_32⟩ := hp_33
          obtain ⟨g_39, eg_39⟩ : ∃ z : Nat → Int, z = pp_kn B n g_19 := ⟨_, rfl⟩
          rw [← eg_39] at p0r_32
          have lg_39_0 : g_39 0 = (tI M_33 2 4).toInt := p0r_32.2.1.1
          have lg_39_1 : g_39 1 = (tI M_33 2 6).toInt := p0r_32.2.1.2.1
          have lg_39_4 : g_39 4 = (tI M_33 1 4).toInt := p0r_32.2.2.1.1
          have lg_39_7 : g_39 7 = (tI M_33 t 4).toInt := p0r_32.2.2.2.1.1
          have lg_39_8 : g_39 8 = (tI M_33 t 5).toInt := p0r_32.2.2.2.1.2.1
          refine lv_aload_n hx hb dX4_readProduct_49 rfl (lv_at hl 2 rfl) ?_
          refine lv_iload_n hx hb dX4_readProduct_50 rfl (lv_at hl 3 rfl) ?_
          refine ti_callVvE (ci := 4) (av := [.int 5]) C hE hw (x_X4_readPart_5 l D A cy hJ M_33 iM_33 t ht ((tT_fr q_34).trans f_17) j hj ((tT_fr q_34).trans f_18) B n g_39 p0r_32 d_21 p1r_32) ⟨ml_X4_187, ym_X4_readPart, yv_X4_readPart, yi_X4_readPart, yc_X4_readPart⟩ yd_X4_readPart ob_1 (by decide) rfl rfl hl.1 (Nat.le_of_ble_eq_true rfl) ⟨by decide, by decide⟩ ⟨Nat.zero_le _, Nat.zero_le _⟩ dX4_readProduct_51 (fun M_41 H locs hp_41 hw => ?_)
          obtain ⟨iM_41, q_42, q_43, q_44, q_45, p0r_40, p1r_40⟩ := hp_41
          obtain ⟨g_46, eg_46⟩ : ∃ z : Nat → Int, z = pp_pt B n 3 g_39 := ⟨_, rfl⟩
          rw [← eg_46] at p0r_40
          have lg_46_0 : g_46 0 = (tI M_41 2 4).toInt := p0r_40.2.1.1
          have lg_46_1 : g_46 1 = (tI M_41 2 6).toInt := p0r_40.2.1.2.1
          have lg_46_4 : g_46 4 = (tI M_41 1 4).toInt := p0r_40.2.2.1.1
          have lg_46_7 : g_46 7 = (tI M_41 t 4).toInt := p0r_40.2.2.2.1.1
          have lg_46_8 : g_46 8 = (tI M_41 t 5).toInt := p0r_40.2.2.2.1.2.1
          obtain ⟨d_47, ed_47⟩ : ∃ z : Nat → Int, z = qq_pt B n j 3 g_39 d_21 := ⟨_, rfl⟩
          rw [← ed_47] at p1r_40
          refine lv_aload_n hx hb dX4_readProduct_54 rfl (lv_at hl 2 rfl) ?_
          refine ti_get (ci := 4) (k := 2) (N := 6) (T := TX4) (v := .ref (A (ti_laws t j) 0)) C hw iw_4 rfl ob_1 (by decide) (by decide) fl_X4_154 rfl (ti_Tv ((tT_fr q_42).trans ((tT_fr q_34).trans f_18))) dX4_readProduct_55 ?_
          refine lv_iload_n hx hb dX4_readProduct_58 rfl (lv_at hl 0 rfl) ?_
          refine lv_ineg hx hb dX4_readProduct_59 ?_
          refine lv_topi (fun x_48 ex_48 => ?_)
          have tx_48 : x_48.toInt = -x_27.toInt := i_neg ex_48 rfl (by omega)
          refine ti_callVv (ci := 1) (av := [.int x_48]) C hw (x_X1_add l D A cy hJ M_41 iM_41 t ht j hj x_48 (by first | omega | exact Or.inl (by decide) | exact Or.inr (by decide)) B n g_46 p0r_40 d_47 p1r_40) ⟨ml_X4_170, ym_X1_add, yv_X1_add, yi_X1_add, yc_X1_add⟩ yd_X1_add (ob_l ht hj) (by decide) rfl rfl hl.1 (Nat.le_of_ble_eq_true rfl) ⟨by decide, by decide⟩ ⟨Nat.zero_le _, Nat.zero_le _⟩ dX4_readProduct_60 (fun M_50 H locs hp_50 hw => ?_)
          obtain ⟨iM_50, q_51, q_52, q_53, p0r_49, p1r_49⟩ := hp_50
          have lM_50_0 : g_46 0 = (tI M_50 2 4).toInt := p0r_49.2.1.1
          have lM_50_1 : g_46 1 = (tI M_50 2 6).toInt := p0r_49.2.1.2.1
          have lM_50_4 : g_46 4 = (tI M_50 1 4).toInt := p0r_49.2.2.1.1
          have lM_50_7 : g_46 7 = (tI M_50 t 4).toInt := p0r_49.2.2.2.1.1
          have lM_50_8 : g_46 8 = (tI M_50 t 5).toInt := p0r_49.2.2.2.1.2.1
          obtain ⟨d_54, ed_54⟩ : ∃ z : Nat → Int, z = qa j x_48.toInt d_47 := ⟨_, rfl⟩
          rw [← ed_54] at p1r_49
          obtain ⟨x_55, ex_55⟩ : ∃ z : Int32, z = x_9 + 1 := ⟨_, rfl⟩
          have tx_55 : x_55.toInt = x_9.toInt + 1 := i_add ex_55 rfl (by decide) (by omega) (by omega)
          refine lv_iinc (v := x_55) (lv' := [(2, .int x_55), (3, .int x_27), (0, .ref (A 1 0)), (1, .int 5)]) hx hb dX4_readProduct_63 hl (k := 1) rfl (by rw [ex_55]; rfl) (by decide) rfl (fun ls hl => ?_)
          refine lv_goto (tgt := 7) hx hb dX4_readProduct_66 (by decide) ?_
          exact ih_25 x_55 M_50 g_46 d_54 _ _ _ (by omega) (by first | omega | decide) (by first | omega | decide) iM_50 ((q_51).trans ((q_42).trans ((q_34).trans f_13))) (f0.trans (f0_x q_52) (f0.trans q_43 (f0.trans q_35 f_14))) (((q_52 1).2.1).trans ((q_44).trans ((q_36).trans f_15))) (ot.trans q_53 (ot.trans q_45 (ot.trans q_37 f_16))) ((tT_fr q_51).trans ((tT_fr q_42).trans ((tT_fr q_34).trans f_17))) ((tT_fr q_51).trans ((tT_fr q_42).trans ((tT_fr q_34).trans f_18))) p0r_49 p1r_49 (j_23.trans (lp_step (decide_eq_true (by omega)) (by rw [eg_46, eg_39]) (by omega))) (j_24.trans (qlp_step (decide_eq_true (by omega)) (by rw [eg_46, eg_39]) (by rw [ed_54, show x_48.toInt = -(g_19 0) by omega, ed_47, eg_39]) (by omega))) hw (lv_sub hl [0, 2, 3] rfl)
        · refine lv_aload_n hx hb dX4_readProduct_25 rfl (lv_at hl 1 rfl) ?_
          refine ti_get (ci := 4) (k := 0) (N := 6) (T := TX4) (v := .ref (A 2 0)) C hw iw_4 rfl ob_1 (by decide) (by decide) fl_X4_12 rfl rfl dX4_readProduct_26 ?_
          refine ti_get (ci := 7) (k := 4) (N := 7) (T := TX7) C hw iw_7 rfl ob_2 (by decide) (by decide) fl_X4_41 rfl rfl dX4_readProduct_29 ?_
          refine ti_top (y := x_27) (ex_27.symm) ?_
          have u_29 : (tI M_12 2 4).toInt = (x_27 : Int32).toInt := by rw [(ex_27.symm)]
          refine lv_bipush (v := 41) hx hb dX4_readProduct_32 (by decide) ?_
          refine sb_icmp_ne (tgt := 69) hx hb rfl (by decide : (41 : Int32).toInt = 41) dX4_readProduct_34 (by decide) (fun c_34_29 => ?_) (fun c_34_29 => ?_)
          · exact hQ _ _ _ _ _ hw (⟨iM_12, (f_13), f_14, (f_15), f_16, (by unfold pp_pd; rw [← eg_7, j_23, lp_end (P := pp_qT) (f := 64 - x_9.toInt.toNat) (s := g_19) (Or.inr (decide_eq_false (by omega)))]; exact hs_20), (by unfold qq_pd; rw [← eg_7, ← ed_8, j_24, qlp_end (P := pp_qT) (f := 64 - x_9.toInt.toNat) (s := g_19) (Or.inr (decide_eq_false (by omega)))]; exact tq_22)⟩) dX4_readProduct_69
          · refine lv_aload_n hx hb dX4_readProduct_37 rfl (lv_at hl 1 rfl) ?_
            refine ti_get (ci := 4) (k := 0) (N := 6) (T := TX4) (v := .ref (A 2 0)) C hw iw_4 rfl ob_1 (by decide) (by decide) fl_X4_12 rfl rfl dX4_readProduct_38 ?_
            refine ti_get (ci := 7) (k := 4) (N := 7) (T := TX7) C hw iw_7 rfl ob_2 (by decide) (by decide) fl_X4_41 rfl rfl dX4_readProduct_41 ?_
            refine ti_top (y := x_27) (ex_27.symm) ?_
            have u_56 : (tI M_12 2 4).toInt = (x_27 : Int32).toInt := by rw [(ex_27.symm)]
            refine lv_istore_n (lv' := [(3, .int x_27), (2, .int x_9), (0, .ref (A 1 0)), (1, .int 5)]) hx hb dX4_readProduct_44 rfl hl (by decide) rfl (fun ls hl => ?_)
            refine lv_aload_n hx hb dX4_readProduct_45 rfl (lv_at hl 2 rfl) ?_
            refine ti_callVvE (ci := 4) (av := []) C hE hw (x_X4_knot l D A cy hJ M_12 iM_12 t ht (f_17) B n g_19 hs_20 d_21 tq_22) ⟨ml_X4_167, ym_X4_knot, yv_X4_knot, yi_X4_knot, yc_X4_knot⟩ yd_X4_knot ob_1 (by decide) rfl rfl hl.1 (Nat.le_of_ble_eq_true rfl) ⟨by decide, by decide⟩ ⟨Nat.zero_le _, Nat.zero_le _⟩ dX4_readProduct_46 (fun M_58 H locs hp_58 hw => ?_)
            obtain ⟨iM_58, q_59, q_60, q_61, q_62, q_63, p0r_57, p1r_57⟩ := hp_58
            obtain ⟨g_64, eg_64⟩ : ∃ z : Nat → Int, z = pp_kn B n g_19 := ⟨_, rfl⟩
            rw [← eg_64] at p0r_57
            have lg_64_0 : g_64 0 = (tI M_58 2 4).toInt := p0r_57.2.1.1
            have lg_64_1 : g_64 1 = (tI M_58 2 6).toInt := p0r_57.2.1.2.1
            have lg_64_4 : g_64 4 = (tI M_58 1 4).toInt := p0r_57.2.2.1.1
            have lg_64_7 : g_64 7 = (tI M_58 t 4).toInt := p0r_57.2.2.2.1.1
            have lg_64_8 : g_64 8 = (tI M_58 t 5).toInt := p0r_57.2.2.2.1.2.1
            refine lv_aload_n hx hb dX4_readProduct_49 rfl (lv_at hl 2 rfl) ?_
            refine lv_iload_n hx hb dX4_readProduct_50 rfl (lv_at hl 3 rfl) ?_
            refine ti_callVvE (ci := 4) (av := [.int 5]) C hE hw (x_X4_readPart_5 l D A cy hJ M_58 iM_58 t ht ((tT_fr q_59).trans f_17) j hj ((tT_fr q_59).trans f_18) B n g_64 p0r_57 d_21 p1r_57) ⟨ml_X4_187, ym_X4_readPart, yv_X4_readPart, yi_X4_readPart, yc_X4_readPart⟩ yd_X4_readPart ob_1 (by decide) rfl rfl hl.1 (Nat.le_of_ble_eq_true rfl) ⟨by decide, by decide⟩ ⟨Nat.zero_le _, Nat.zero_le _⟩ dX4_readProduct_51 (fun M_66 H locs hp_66 hw => ?_)
            obtain ⟨iM_66, q_67, q_68, q_69, q_70, p0r_65, p1r_65⟩ := hp_66
            obtain ⟨g_71, eg_71⟩ : ∃ z : Nat → Int, z = pp_pt B n 3 g_64 := ⟨_, rfl⟩
            rw [← eg_71] at p0r_65
            have lg_71_0 : g_71 0 = (tI M_66 2 4).toInt := p0r_65.2.1.1
            have lg_71_1 : g_71 1 = (tI M_66 2 6).toInt := p0r_65.2.1.2.1
            have lg_71_4 : g_71 4 = (tI M_66 1 4).toInt := p0r_65.2.2.1.1
            have lg_71_7 : g_71 7 = (tI M_66 t 4).toInt := p0r_65.2.2.2.1.1
            have lg_71_8 : g_71 8 = (tI M_66 t 5).toInt := p0r_65.2.2.2.1.2.1
            obtain ⟨d_72, ed_72⟩ : ∃ z : Nat → Int, z = qq_pt B n j 3 g_64 d_21 := ⟨_, rfl⟩
            rw [← ed_72] at p1r_65
            refine lv_aload_n hx hb dX4_readProduct_54 rfl (lv_at hl 2 rfl) ?_
            refine ti_get (ci := 4) (k := 2) (N := 6) (T := TX4) (v := .ref (A (ti_laws t j) 0)) C hw iw_4 rfl ob_1 (by decide) (by decide) fl_X4_154 rfl (ti_Tv ((tT_fr q_67).trans ((tT_fr q_59).trans f_18))) dX4_readProduct_55 ?_
            refine lv_iload_n hx hb dX4_readProduct_58 rfl (lv_at hl 0 rfl) ?_
            refine lv_ineg hx hb dX4_readProduct_59 ?_
            refine lv_topi (fun x_73 ex_73 => ?_)
            have tx_73 : x_73.toInt = -x_27.toInt := i_neg ex_73 rfl (by omega)
            refine ti_callVv (ci := 1) (av := [.int x_73]) C hw (x_X1_add l D A cy hJ M_66 iM_66 t ht j hj x_73 (by first | omega | exact Or.inl (by decide) | exact Or.inr (by decide)) B n g_71 p0r_65 d_72 p1r_65) ⟨ml_X4_170, ym_X1_add, yv_X1_add, yi_X1_add, yc_X1_add⟩ yd_X1_add (ob_l ht hj) (by decide) rfl rfl hl.1 (Nat.le_of_ble_eq_true rfl) ⟨by decide, by decide⟩ ⟨Nat.zero_le _, Nat.zero_le _⟩ dX4_readProduct_60 (fun M_75 H locs hp_75 hw => ?_)
            obtain ⟨iM_75, q_76, q_77, q_78, p0r_74, p1r_74⟩ := hp_75
            have lM_75_0 : g_71 0 = (tI M_75 2 4).toInt := p0r_74.2.1.1
            have lM_75_1 : g_71 1 = (tI M_75 2 6).toInt := p0r_74.2.1.2.1
            have lM_75_4 : g_71 4 = (tI M_75 1 4).toInt := p0r_74.2.2.1.1
            have lM_75_7 : g_71 7 = (tI M_75 t 4).toInt := p0r_74.2.2.2.1.1
            have lM_75_8 : g_71 8 = (tI M_75 t 5).toInt := p0r_74.2.2.2.1.2.1
            obtain ⟨d_79, ed_79⟩ : ∃ z : Nat → Int, z = qa j x_73.toInt d_72 := ⟨_, rfl⟩
            rw [← ed_79] at p1r_74
            obtain ⟨x_80, ex_80⟩ : ∃ z : Int32, z = x_9 + 1 := ⟨_, rfl⟩
            have tx_80 : x_80.toInt = x_9.toInt + 1 := i_add ex_80 rfl (by decide) (by omega) (by omega)
            refine lv_iinc (v := x_80) (lv' := [(2, .int x_80), (3, .int x_27), (0, .ref (A 1 0)), (1, .int 5)]) hx hb dX4_readProduct_63 hl (k := 1) rfl (by rw [ex_80]; rfl) (by decide) rfl (fun ls hl => ?_)
            refine lv_goto (tgt := 7) hx hb dX4_readProduct_66 (by decide) ?_
            exact ih_25 x_80 M_75 g_71 d_79 _ _ _ (by omega) (by first | omega | decide) (by first | omega | decide) iM_75 ((q_76).trans ((q_67).trans ((q_59).trans f_13))) (f0.trans (f0_x q_77) (f0.trans q_68 (f0.trans q_60 f_14))) (((q_77 1).2.1).trans ((q_69).trans ((q_61).trans f_15))) (ot.trans q_78 (ot.trans q_70 (ot.trans q_62 f_16))) ((tT_fr q_76).trans ((tT_fr q_67).trans ((tT_fr q_59).trans f_17))) ((tT_fr q_76).trans ((tT_fr q_67).trans ((tT_fr q_59).trans f_18))) p0r_74 p1r_74 (j_23.trans (lp_step (decide_eq_true (by omega)) (by rw [eg_71, eg_64]) (by omega))) (j_24.trans (qlp_step (decide_eq_true (by omega)) (by rw [eg_71, eg_64]) (by rw [ed_79, show x_73.toInt = -(g_19 0) by omega, ed_72, eg_64]) (by omega))) hw (lv_sub hl [0, 2, 3] rfl)
  exact hl_7_24 ((64 - 0 : Int).toNat + 1) 0 M_2 g_7 d_8 _ _ _ (Nat.lt_succ_self _) (by have lt0 : (0 : Int32).toInt = 0 := (by decide); first | omega | decide) (by have lt0 : (0 : Int32).toInt = 0 := (by decide); first | omega | decide) iM_2 (q_3) q_4 (q_5) q_6 ((tT_fr q_3).trans hT) ((tT_fr q_3).trans hL) p0r_1 p1r_1 rfl rfl hw (lv_sub hl [0, 1, 2] rfl)
set_option maxHeartbeats 4000000 in
set_option maxRecDepth 100000 in
theorem x_X4_readSum_5 (l : Launch) (D : va_G) (A : Nat → Nat → Nat) (cy : Nat → ClassId) (hJ : ti_inj ti_LT A) (M : ti_M) (hI : cI Tc M) (t : Nat) (ht : t = 3 ∨ t = 4) (hT : tT M 1 1 = some t) (j : Nat) (hj : j < 3) (hL : tT M 1 2 = some (ti_laws t j)) (B : Nat → Int) (n : Nat) (rg : Nat → Int) (hr : rC B n t rg M) (td : Nat → Int) (hq : tq t td M) : ti_KvE l yX4_readSum cX4_readSum 4 31 ti_LT D A cy M [.ref (A 1 0), .int 5] (fun M2 => cI Tc M2 ∧ M2.2.2.2 = M.2.2.2 ∧ f0 M2 M ∧ tI M2 2 1 = tI M 2 1 ∧ ot t M2 M ∧ rC B n t (pp_sm B n (pp_pt B n 3) rg) M2 ∧ tq t (qq_sm B n j (pp_pt B n 3) (qq_pt B n j 3) rg td) M2) := by
  refine ti_eVE yp_X4_readSum hJ ti_LT_nd (Nat.le_of_ble_eq_true rfl) ?_
  intro p e s m args below meth c Q H0 C hE hQ hw ls hl
  have hx := C.1
  have hb := C.2.1
  have hl : lv_has ls 4 [(0, .ref (A 1 0)), (1, .int 5)] := hl
  have l0 : rg 0 = (tI M 2 4).toInt := hr.2.1.1
  have l1 : rg 1 = (tI M 2 6).toInt := hr.2.1.2.1
  have l2 : rg 2 = (tI M 2 5).toInt := hr.2.1.2.2.1
  have l3 : rg 3 = (tI M 2 3).toInt := hr.2.1.2.2.2
  have l4 : rg 4 = (tI M 1 4).toInt := hr.2.2.1.1
  have l5 : rg 5 = (tI M 1 5).toInt := hr.2.2.1.2.1
  have l7 : rg 7 = (tI M t 4).toInt := hr.2.2.2.1.1
  have l8 : rg 8 = (tI M t 5).toInt := hr.2.2.2.1.2.1
  have l9 : rg 9 = (tI M t 3).toInt := hr.2.2.2.1.2.2
  refine lv_aload_n hx hb dX4_readSum_0 rfl (lv_at hl 0 rfl) ?_
  refine lv_iload_n hx hb dX4_readSum_1 rfl (lv_at hl 1 rfl) ?_
  refine ti_callVvE (ci := 4) (av := [.int 5]) C hE hw (x_X4_readProduct_5 l D A cy hJ M hI t ht (hT) j hj (hL) B n rg hr td hq) ⟨ml_X4_184, ym_X4_readProduct, yv_X4_readProduct, yi_X4_readProduct, yc_X4_readProduct⟩ yd_X4_readProduct ob_1 (by decide) rfl rfl hl.1 (Nat.le_of_ble_eq_true rfl) ⟨by decide, by decide⟩ ⟨Nat.zero_le _, Nat.zero_le _⟩ dX4_readSum_2 (fun M_2 H locs hp_2 hw => ?_)
  obtain ⟨iM_2, q_3, q_4, q_5, q_6, p0r_1, p1r_1⟩ := hp_2
  obtain ⟨g_7, eg_7⟩ : ∃ z : Nat → Int, z = pp_pd B n (pp_pt B n 3) rg := ⟨_, rfl⟩
  rw [← eg_7] at p0r_1
  have lg_7_0 : g_7 0 = (tI M_2 2 4).toInt := p0r_1.2.1.1
  have lg_7_1 : g_7 1 = (tI M_2 2 6).toInt := p0r_1.2.1.2.1
  have lg_7_4 : g_7 4 = (tI M_2 1 4).toInt := p0r_1.2.2.1.1
  have lg_7_7 : g_7 7 = (tI M_2 t 4).toInt := p0r_1.2.2.2.1.1
  have lg_7_8 : g_7 8 = (tI M_2 t 5).toInt := p0r_1.2.2.2.1.2.1
  obtain ⟨d_8, ed_8⟩ : ∃ z : Nat → Int, z = qq_pd B n j (pp_pt B n 3) (qq_pt B n j 3) rg td := ⟨_, rfl⟩
  rw [← ed_8] at p1r_1
  refine lv_iconst (v := 0) hx hb dX4_readSum_5 (by decide) ?_
  refine lv_istore_n (lv' := [(2, .int 0), (0, .ref (A 1 0)), (1, .int 5)]) hx hb dX4_readSum_6 rfl hl (by decide) rfl (fun ls hl => ?_)
  have hl_7_24 : ∀ (n_25 : Nat) (x_9 : Int32) (M_12 : ti_M) (g_19 : Nat → Int) (d_21 : Nat → Int) (H : Heap) (locs : List Loc) (ls : Array Slot), (64 - x_9.toInt : Int).toNat < n_25 → (0 ≤ x_9.toInt) → (x_9.toInt ≤ 64) → (cI Tc M_12) → (M_12.2.2.2 = M.2.2.2) → (f0 M_12 M) → (tI M_12 2 1 = tI M 2 1) → (ot t M_12 M) → (tT M_12 1 1 = (some t)) → (tT M_12 1 2 = (some (ti_laws t j))) → (rC B n t g_19 M_12) → (tq t d_21 M_12) → (pp_lp pp_qP (fun s => pp_pd B n (pp_pt B n 3) (pp_kn B n s)) 64 g_7 = pp_lp pp_qP (fun s => pp_pd B n (pp_pt B n 3) (pp_kn B n s)) (64 - (x_9.toInt).toNat) g_19) → (qq_lp pp_qP (fun s => pp_pd B n (pp_pt B n 3) (pp_kn B n s)) (fun s td => qa j (-(s 0)) (qq_pd B n j (pp_pt B n 3) (qq_pt B n j 3) (pp_kn B n s) td)) 64 g_7 d_8 = qq_lp pp_qP (fun s => pp_pd B n (pp_pt B n 3) (pp_kn B n s)) (fun s td => qa j (-(s 0)) (qq_pd B n j (pp_pt B n 3) (qq_pt B n j 3) (pp_kn B n s) td)) (64 - (x_9.toInt).toNat) g_19 d_21) → ti_H ti_LT D A cy H0 M_12 H locs → lv_has ls 4 [(2, .int x_9), (0, .ref (A 1 0)), (1, .int 5)] → W p l e (ti_rm 31) s m args below meth c H locs 0 0 Q (F0 m 7 ls []) := by
    intro n_25
    induction n_25 with
    | zero => intro x_9 M_12 g_19 d_21 H locs ls hf_25; exact absurd hf_25 (Nat.not_lt_zero _)
    | succ n_25 ih_25 =>
      intro x_9 M_12 g_19 d_21 H locs ls hf_25 b_10 b_11 iM_12 f_13 f_14 f_15 f_16 f_17 f_18 hs_20 tq_22 j_23 j_24 hw hl
      have lg_19_0 : g_19 0 = (tI M_12 2 4).toInt := hs_20.2.1.1
      have lg_19_1 : g_19 1 = (tI M_12 2 6).toInt := hs_20.2.1.2.1
      have lg_19_4 : g_19 4 = (tI M_12 1 4).toInt := hs_20.2.2.1.1
      have lg_19_7 : g_19 7 = (tI M_12 t 4).toInt := hs_20.2.2.2.1.1
      have lg_19_8 : g_19 8 = (tI M_12 t 5).toInt := hs_20.2.2.2.1.2.1
      refine lv_iload_n hx hb dX4_readSum_7 rfl (lv_at hl 0 rfl) ?_
      refine lv_bipush (v := 64) hx hb dX4_readSum_8 (by decide) ?_
      refine sb_icmp_ge (tgt := 69) hx hb rfl (by decide : (64 : Int32).toInt = 64) dX4_readSum_10 (by decide) (fun c_10_25 => ?_) (fun c_10_25 => ?_)
      · exact hQ _ _ _ _ _ hw (⟨iM_12, (f_13), f_14, (f_15), f_16, (by unfold pp_sm; rw [← eg_7, j_23, lp_end (P := pp_qP) (f := 64 - x_9.toInt.toNat) (s := g_19) (Or.inl (by omega))]; exact hs_20), (by unfold qq_sm; rw [← eg_7, ← ed_8, j_24, qlp_end (P := pp_qP) (f := 64 - x_9.toInt.toNat) (s := g_19) (Or.inl (by omega))]; exact tq_22)⟩) dX4_readSum_69
      · refine lv_aload_n hx hb dX4_readSum_13 rfl (lv_at hl 1 rfl) ?_
        refine ti_get (ci := 4) (k := 0) (N := 6) (T := TX4) (v := .ref (A 2 0)) C hw iw_4 rfl ob_1 (by decide) (by decide) fl_X4_12 rfl rfl dX4_readSum_14 ?_
        refine ti_get (ci := 7) (k := 4) (N := 7) (T := TX7) C hw iw_7 rfl ob_2 (by decide) (by decide) fl_X4_41 rfl rfl dX4_readSum_17 ?_
        refine lv_topi (fun x_27 ex_27 => ?_)
        have bx_27 : 0 ≤ x_27.toInt ∧ x_27.toInt ≤ 41 := cI_rd iM_12 ob_2.1 ex_27
        have ux_27 : (tI M_12 2 4).toInt = x_27.toInt := by rw [ex_27]
        refine lv_bipush (v := 38) hx hb dX4_readSum_20 (by decide) ?_
        refine sb_icmp_eq (tgt := 37) hx hb rfl (by decide : (38 : Int32).toInt = 38) dX4_readSum_22 (by decide) (fun c_22_27 => ?_) (fun c_22_27 => ?_)
        · refine lv_aload_n hx hb dX4_readSum_37 rfl (lv_at hl 1 rfl) ?_
          refine ti_get (ci := 4) (k := 0) (N := 6) (T := TX4) (v := .ref (A 2 0)) C hw iw_4 rfl ob_1 (by decide) (by decide) fl_X4_12 rfl rfl dX4_readSum_38 ?_
          refine ti_get (ci := 7) (k := 4) (N := 7) (T := TX7) C hw iw_7 rfl ob_2 (by decide) (by decide) fl_X4_41 rfl rfl dX4_readSum_41 ?_
          refine ti_top (y := x_27) (ex_27.symm) ?_
          have u_31 : (tI M_12 2 4).toInt = (x_27 : Int32).toInt := by rw [(ex_27.symm)]
          refine lv_istore_n (lv' := [(3, .int x_27), (2, .int x_9), (0, .ref (A 1 0)), (1, .int 5)]) hx hb dX4_readSum_44 rfl hl (by decide) rfl (fun ls hl => ?_)
          refine lv_aload_n hx hb dX4_readSum_45 rfl (lv_at hl 2 rfl) ?_
          refine ti_callVvE (ci := 4) (av := []) C hE hw (x_X4_knot l D A cy hJ M_12 iM_12 t ht (f_17) B n g_19 hs_20 d_21 tq_22) ⟨ml_X4_167, ym_X4_knot, yv_X4_knot, yi_X4_knot, yc_X4_knot⟩ yd_X4_knot ob_1 (by decide) rfl rfl hl.1 (Nat.le_of_ble_eq_true rfl) ⟨by decide, by decide⟩ ⟨Nat.zero_le _, Nat.zero_le _⟩ dX4_readSum_46 (fun M_33 H locs hp_33 hw => ?_)
          obtain ⟨iM_33, q_34, q_35, q_36, q_37, q_38, p0r_32, p1r_32⟩ := hp_33
          obtain ⟨g_39, eg_39⟩ : ∃ z : Nat → Int, z = pp_kn B n g_19 := ⟨_, rfl⟩
          rw [← eg_39] at p0r_32
          have lg_39_0 : g_39 0 = (tI M_33 2 4).toInt := p0r_32.2.1.1
          have lg_39_1 : g_39 1 = (tI M_33 2 6).toInt := p0r_32.2.1.2.1
          have lg_39_4 : g_39 4 = (tI M_33 1 4).toInt := p0r_32.2.2.1.1
          have lg_39_7 : g_39 7 = (tI M_33 t 4).toInt := p0r_32.2.2.2.1.1
          have lg_39_8 : g_39 8 = (tI M_33 t 5).toInt := p0r_32.2.2.2.1.2.1
          refine lv_aload_n hx hb dX4_readSum_49 rfl (lv_at hl 2 rfl) ?_
          refine lv_iload_n hx hb dX4_readSum_50 rfl (lv_at hl 3 rfl) ?_
          refine ti_callVvE (ci := 4) (av := [.int 5]) C hE hw (x_X4_readProduct_5 l D A cy hJ M_33 iM_33 t ht ((tT_fr q_34).trans f_17) j hj ((tT_fr q_34).trans f_18) B n g_39 p0r_32 d_21 p1r_32) ⟨ml_X4_184, ym_X4_readProduct, yv_X4_readProduct, yi_X4_readProduct, yc_X4_readProduct⟩ yd_X4_readProduct ob_1 (by decide) rfl rfl hl.1 (Nat.le_of_ble_eq_true rfl) ⟨by decide, by decide⟩ ⟨Nat.zero_le _, Nat.zero_le _⟩ dX4_readSum_51 (fun M_41 H locs hp_41 hw => ?_)
          obtain ⟨iM_41, q_42, q_43, q_44, q_45, p0r_40, p1r_40⟩ := hp_41
          obtain ⟨g_46, eg_46⟩ : ∃ z : Nat → Int, z = pp_pd B n (pp_pt B n 3) g_39 := ⟨_, rfl⟩
          rw [← eg_46] at p0r_40
          have lg_46_0 : g_46 0 = (tI M_41 2 4).toInt := p0r_40.2.1.1
          have lg_46_1 : g_46 1 = (tI M_41 2 6).toInt := p0r_40.2.1.2.1
          have lg_46_4 : g_46 4 = (tI M_41 1 4).toInt := p0r_40.2.2.1.1
          have lg_46_7 : g_46 7 = (tI M_41 t 4).toInt := p0r_40.2.2.2.1.1
          have lg_46_8 : g_46 8 = (tI M_41 t 5).toInt := p0r_40.2.2.2.1.2.1
          obtain ⟨d_47, ed_47⟩ : ∃ z : Nat → Int, z = qq_pd B n j (pp_pt B n 3) (qq_pt B n j 3) g_39 d_21 := ⟨_, rfl⟩
          rw [← ed_47] at p1r_40
          refine lv_aload_n hx hb dX4_readSum_54 rfl (lv_at hl 2 rfl) ?_
          refine ti_get (ci := 4) (k := 2) (N := 6) (T := TX4) (v := .ref (A (ti_laws t j) 0)) C hw iw_4 rfl ob_1 (by decide) (by decide) fl_X4_154 rfl (ti_Tv ((tT_fr q_42).trans ((tT_fr q_34).trans f_18))) dX4_readSum_55 ?_
          refine lv_iload_n hx hb dX4_readSum_58 rfl (lv_at hl 0 rfl) ?_
          refine lv_ineg hx hb dX4_readSum_59 ?_
          refine lv_topi (fun x_48 ex_48 => ?_)
          have tx_48 : x_48.toInt = -x_27.toInt := i_neg ex_48 rfl (by omega)
          refine ti_callVv (ci := 1) (av := [.int x_48]) C hw (x_X1_add l D A cy hJ M_41 iM_41 t ht j hj x_48 (by first | omega | exact Or.inl (by decide) | exact Or.inr (by decide)) B n g_46 p0r_40 d_47 p1r_40) ⟨ml_X4_170, ym_X1_add, yv_X1_add, yi_X1_add, yc_X1_add⟩ yd_X1_add (ob_l ht hj) (by decide) rfl rfl hl.1 (Nat.le_of_ble_eq_true rfl) ⟨by decide, by decide⟩ ⟨Nat.zero_le _, Nat.zero_le _⟩ dX4_readSum_60 (fun M_50 H locs hp_50 hw => ?_)
          obtain ⟨iM_50, q_51, q_52, q_53, p0r_49, p1r_49⟩ := hp_50
          have lM_50_0 : g_46 0 = (tI M_50 2 4).toInt := p0r_49.2.1.1
          have lM_50_1 : g_46 1 = (tI M_50 2 6).toInt := p0r_49.2.1.2.1
          have lM_50_4 : g_46 4 = (tI M_50 1 4).toInt := p0r_49.2.2.1.1
          have lM_50_7 : g_46 7 = (tI M_50 t 4).toInt := p0r_49.2.2.2.1.1
          have lM_50_8 : g_46 8 = (tI M_50 t 5).toInt := p0r_49.2.2.2.1.2.1
          obtain ⟨d_54, ed_54⟩ : ∃ z : Nat → Int, z = qa j x_48.toInt d_47 := ⟨_, rfl⟩
          rw [← ed_54] at p1r_49
          obtain ⟨x_55, ex_55⟩ : ∃ z : Int32, z = x_9 + 1 := ⟨_, rfl⟩
          have tx_55 : x_55.toInt = x_9.toInt + 1 := i_add ex_55 rfl (by decide) (by omega) (by omega)
          refine lv_iinc (v := x_55) (lv' := [(2, .int x_55), (3, .int x_27), (0, .ref (A 1 0)), (1, .int 5)]) hx hb dX4_readSum_63 hl (k := 1) rfl (by rw [ex_55]; rfl) (by decide) rfl (fun ls hl => ?_)
          refine lv_goto (tgt := 7) hx hb dX4_readSum_66 (by decide) ?_
          exact ih_25 x_55 M_50 g_46 d_54 _ _ _ (by omega) (by first | omega | decide) (by first | omega | decide) iM_50 ((q_51).trans ((q_42).trans ((q_34).trans f_13))) (f0.trans (f0_x q_52) (f0.trans q_43 (f0.trans q_35 f_14))) (((q_52 1).2.1).trans ((q_44).trans ((q_36).trans f_15))) (ot.trans q_53 (ot.trans q_45 (ot.trans q_37 f_16))) ((tT_fr q_51).trans ((tT_fr q_42).trans ((tT_fr q_34).trans f_17))) ((tT_fr q_51).trans ((tT_fr q_42).trans ((tT_fr q_34).trans f_18))) p0r_49 p1r_49 (j_23.trans (lp_step (decide_eq_true (by omega)) (by rw [eg_46, eg_39]) (by omega))) (j_24.trans (qlp_step (decide_eq_true (by omega)) (by rw [eg_46, eg_39]) (by rw [ed_54, show x_48.toInt = -(g_19 0) by omega, ed_47, eg_39]) (by omega))) hw (lv_sub hl [0, 2, 3] rfl)
        · refine lv_aload_n hx hb dX4_readSum_25 rfl (lv_at hl 1 rfl) ?_
          refine ti_get (ci := 4) (k := 0) (N := 6) (T := TX4) (v := .ref (A 2 0)) C hw iw_4 rfl ob_1 (by decide) (by decide) fl_X4_12 rfl rfl dX4_readSum_26 ?_
          refine ti_get (ci := 7) (k := 4) (N := 7) (T := TX7) C hw iw_7 rfl ob_2 (by decide) (by decide) fl_X4_41 rfl rfl dX4_readSum_29 ?_
          refine ti_top (y := x_27) (ex_27.symm) ?_
          have u_29 : (tI M_12 2 4).toInt = (x_27 : Int32).toInt := by rw [(ex_27.symm)]
          refine lv_bipush (v := 39) hx hb dX4_readSum_32 (by decide) ?_
          refine sb_icmp_ne (tgt := 69) hx hb rfl (by decide : (39 : Int32).toInt = 39) dX4_readSum_34 (by decide) (fun c_34_29 => ?_) (fun c_34_29 => ?_)
          · exact hQ _ _ _ _ _ hw (⟨iM_12, (f_13), f_14, (f_15), f_16, (by unfold pp_sm; rw [← eg_7, j_23, lp_end (P := pp_qP) (f := 64 - x_9.toInt.toNat) (s := g_19) (Or.inr (decide_eq_false (by omega)))]; exact hs_20), (by unfold qq_sm; rw [← eg_7, ← ed_8, j_24, qlp_end (P := pp_qP) (f := 64 - x_9.toInt.toNat) (s := g_19) (Or.inr (decide_eq_false (by omega)))]; exact tq_22)⟩) dX4_readSum_69
          · refine lv_aload_n hx hb dX4_readSum_37 rfl (lv_at hl 1 rfl) ?_
            refine ti_get (ci := 4) (k := 0) (N := 6) (T := TX4) (v := .ref (A 2 0)) C hw iw_4 rfl ob_1 (by decide) (by decide) fl_X4_12 rfl rfl dX4_readSum_38 ?_
            refine ti_get (ci := 7) (k := 4) (N := 7) (T := TX7) C hw iw_7 rfl ob_2 (by decide) (by decide) fl_X4_41 rfl rfl dX4_readSum_41 ?_
            refine ti_top (y := x_27) (ex_27.symm) ?_
            have u_56 : (tI M_12 2 4).toInt = (x_27 : Int32).toInt := by rw [(ex_27.symm)]
            refine lv_istore_n (lv' := [(3, .int x_27), (2, .int x_9), (0, .ref (A 1 0)), (1, .int 5)]) hx hb dX4_readSum_44 rfl hl (by decide) rfl (fun ls hl => ?_)
            refine lv_aload_n hx hb dX4_readSum_45 rfl (lv_at hl 2 rfl) ?_
            refine ti_callVvE (ci := 4) (av := []) C hE hw (x_X4_knot l D A cy hJ M_12 iM_12 t ht (f_17) B n g_19 hs_20 d_21 tq_22) ⟨ml_X4_167, ym_X4_knot, yv_X4_knot, yi_X4_knot, yc_X4_knot⟩ yd_X4_knot ob_1 (by decide) rfl rfl hl.1 (Nat.le_of_ble_eq_true rfl) ⟨by decide, by decide⟩ ⟨Nat.zero_le _, Nat.zero_le _⟩ dX4_readSum_46 (fun M_58 H locs hp_58 hw => ?_)
            obtain ⟨iM_58, q_59, q_60, q_61, q_62, q_63, p0r_57, p1r_57⟩ := hp_58
            obtain ⟨g_64, eg_64⟩ : ∃ z : Nat → Int, z = pp_kn B n g_19 := ⟨_, rfl⟩
            rw [← eg_64] at p0r_57
            have lg_64_0 : g_64 0 = (tI M_58 2 4).toInt := p0r_57.2.1.1
            have lg_64_1 : g_64 1 = (tI M_58 2 6).toInt := p0r_57.2.1.2.1
            have lg_64_4 : g_64 4 = (tI M_58 1 4).toInt := p0r_57.2.2.1.1
            have lg_64_7 : g_64 7 = (tI M_58 t 4).toInt := p0r_57.2.2.2.1.1
            have lg_64_8 : g_64 8 = (tI M_58 t 5).toInt := p0r_57.2.2.2.1.2.1
            refine lv_aload_n hx hb dX4_readSum_49 rfl (lv_at hl 2 rfl) ?_
            refine lv_iload_n hx hb dX4_readSum_50 rfl (lv_at hl 3 rfl) ?_
            refine ti_callVvE (ci := 4) (av := [.int 5]) C hE hw (x_X4_readProduct_5 l D A cy hJ M_58 iM_58 t ht ((tT_fr q_59).trans f_17) j hj ((tT_fr q_59).trans f_18) B n g_64 p0r_57 d_21 p1r_57) ⟨ml_X4_184, ym_X4_readProduct, yv_X4_readProduct, yi_X4_readProduct, yc_X4_readProduct⟩ yd_X4_readProduct ob_1 (by decide) rfl rfl hl.1 (Nat.le_of_ble_eq_true rfl) ⟨by decide, by decide⟩ ⟨Nat.zero_le _, Nat.zero_le _⟩ dX4_readSum_51 (fun M_66 H locs hp_66 hw => ?_)
            obtain ⟨iM_66, q_67, q_68, q_69, q_70, p0r_65, p1r_65⟩ := hp_66
            obtain ⟨g_71, eg_71⟩ : ∃ z : Nat → Int, z = pp_pd B n (pp_pt B n 3) g_64 := ⟨_, rfl⟩
            rw [← eg_71] at p0r_65
            have lg_71_0 : g_71 0 = (tI M_66 2 4).toInt := p0r_65.2.1.1
            have lg_71_1 : g_71 1 = (tI M_66 2 6).toInt := p0r_65.2.1.2.1
            have lg_71_4 : g_71 4 = (tI M_66 1 4).toInt := p0r_65.2.2.1.1
            have lg_71_7 : g_71 7 = (tI M_66 t 4).toInt := p0r_65.2.2.2.1.1
            have lg_71_8 : g_71 8 = (tI M_66 t 5).toInt := p0r_65.2.2.2.1.2.1
            obtain ⟨d_72, ed_72⟩ : ∃ z : Nat → Int, z = qq_pd B n j (pp_pt B n 3) (qq_pt B n j 3) g_64 d_21 := ⟨_, rfl⟩
            rw [← ed_72] at p1r_65
            refine lv_aload_n hx hb dX4_readSum_54 rfl (lv_at hl 2 rfl) ?_
            refine ti_get (ci := 4) (k := 2) (N := 6) (T := TX4) (v := .ref (A (ti_laws t j) 0)) C hw iw_4 rfl ob_1 (by decide) (by decide) fl_X4_154 rfl (ti_Tv ((tT_fr q_67).trans ((tT_fr q_59).trans f_18))) dX4_readSum_55 ?_
            refine lv_iload_n hx hb dX4_readSum_58 rfl (lv_at hl 0 rfl) ?_
            refine lv_ineg hx hb dX4_readSum_59 ?_
            refine lv_topi (fun x_73 ex_73 => ?_)
            have tx_73 : x_73.toInt = -x_27.toInt := i_neg ex_73 rfl (by omega)
            refine ti_callVv (ci := 1) (av := [.int x_73]) C hw (x_X1_add l D A cy hJ M_66 iM_66 t ht j hj x_73 (by first | omega | exact Or.inl (by decide) | exact Or.inr (by decide)) B n g_71 p0r_65 d_72 p1r_65) ⟨ml_X4_170, ym_X1_add, yv_X1_add, yi_X1_add, yc_X1_add⟩ yd_X1_add (ob_l ht hj) (by decide) rfl rfl hl.1 (Nat.le_of_ble_eq_true rfl) ⟨by decide, by decide⟩ ⟨Nat.zero_le _, Nat.zero_le _⟩ dX4_readSum_60 (fun M_75 H locs hp_75 hw => ?_)
            obtain ⟨iM_75, q_76, q_77, q_78, p0r_74, p1r_74⟩ := hp_75
            have lM_75_0 : g_71 0 = (tI M_75 2 4).toInt := p0r_74.2.1.1
            have lM_75_1 : g_71 1 = (tI M_75 2 6).toInt := p0r_74.2.1.2.1
            have lM_75_4 : g_71 4 = (tI M_75 1 4).toInt := p0r_74.2.2.1.1
            have lM_75_7 : g_71 7 = (tI M_75 t 4).toInt := p0r_74.2.2.2.1.1
            have lM_75_8 : g_71 8 = (tI M_75 t 5).toInt := p0r_74.2.2.2.1.2.1
            obtain ⟨d_79, ed_79⟩ : ∃ z : Nat → Int, z = qa j x_73.toInt d_72 := ⟨_, rfl⟩
            rw [← ed_79] at p1r_74
            obtain ⟨x_80, ex_80⟩ : ∃ z : Int32, z = x_9 + 1 := ⟨_, rfl⟩
            have tx_80 : x_80.toInt = x_9.toInt + 1 := i_add ex_80 rfl (by decide) (by omega) (by omega)
            refine lv_iinc (v := x_80) (lv' := [(2, .int x_80), (3, .int x_27), (0, .ref (A 1 0)), (1, .int 5)]) hx hb dX4_readSum_63 hl (k := 1) rfl (by rw [ex_80]; rfl) (by decide) rfl (fun ls hl => ?_)
            refine lv_goto (tgt := 7) hx hb dX4_readSum_66 (by decide) ?_
            exact ih_25 x_80 M_75 g_71 d_79 _ _ _ (by omega) (by first | omega | decide) (by first | omega | decide) iM_75 ((q_76).trans ((q_67).trans ((q_59).trans f_13))) (f0.trans (f0_x q_77) (f0.trans q_68 (f0.trans q_60 f_14))) (((q_77 1).2.1).trans ((q_69).trans ((q_61).trans f_15))) (ot.trans q_78 (ot.trans q_70 (ot.trans q_62 f_16))) ((tT_fr q_76).trans ((tT_fr q_67).trans ((tT_fr q_59).trans f_17))) ((tT_fr q_76).trans ((tT_fr q_67).trans ((tT_fr q_59).trans f_18))) p0r_74 p1r_74 (j_23.trans (lp_step (decide_eq_true (by omega)) (by rw [eg_71, eg_64]) (by omega))) (j_24.trans (qlp_step (decide_eq_true (by omega)) (by rw [eg_71, eg_64]) (by rw [ed_79, show x_73.toInt = -(g_19 0) by omega, ed_72, eg_64]) (by omega))) hw (lv_sub hl [0, 2, 3] rfl)
  exact hl_7_24 ((64 - 0 : Int).toNat + 1) 0 M_2 g_7 d_8 _ _ _ (Nat.lt_succ_self _) (by have lt0 : (0 : Int32).toInt = 0 := (by decide); first | omega | decide) (by have lt0 : (0 : Int32).toInt = 0 := (by decide); first | omega | decide) iM_2 (q_3) q_4 (q_5) q_6 ((tT_fr q_3).trans hT) ((tT_fr q_3).trans hL) p0r_1 p1r_1 rfl rfl hw (lv_sub hl [0, 1, 2] rfl)
set_option maxHeartbeats 4000000 in
set_option maxRecDepth 100000 in
theorem x_X4_readComparison_5 (l : Launch) (D : va_G) (A : Nat → Nat → Nat) (cy : Nat → ClassId) (hJ : ti_inj ti_LT A) (M : ti_M) (hI : cI Tc M) (t : Nat) (ht : t = 3 ∨ t = 4) (hT : tT M 1 1 = some t) (j : Nat) (hj : j < 3) (hL : tT M 1 2 = some (ti_laws t j)) (B : Nat → Int) (n : Nat) (rg : Nat → Int) (hr : rC B n t rg M) (td : Nat → Int) (hq : tq t td M) : ti_KvE l yX4_readComparison cX4_readComparison 3 32 ti_LT D A cy M [.ref (A 1 0), .int 5] (fun M2 => cI Tc M2 ∧ M2.2.2.2 = M.2.2.2 ∧ f0 M2 M ∧ tI M2 2 1 = tI M 2 1 ∧ ot t M2 M ∧ rC B n t (pp_cm B n (pp_pt B n 3) rg) M2 ∧ tq t (qq_cm B n j (pp_pt B n 3) (qq_pt B n j 3) rg td) M2) := by
  refine ti_eVE yp_X4_readComparison hJ ti_LT_nd (Nat.le_of_ble_eq_true rfl) ?_
  intro p e s m args below meth c Q H0 C hE hQ hw ls hl
  have hx := C.1
  have hb := C.2.1
  have hl : lv_has ls 3 [(0, .ref (A 1 0)), (1, .int 5)] := hl
  have l0 : rg 0 = (tI M 2 4).toInt := hr.2.1.1
  have l1 : rg 1 = (tI M 2 6).toInt := hr.2.1.2.1
  have l2 : rg 2 = (tI M 2 5).toInt := hr.2.1.2.2.1
  have l3 : rg 3 = (tI M 2 3).toInt := hr.2.1.2.2.2
  have l4 : rg 4 = (tI M 1 4).toInt := hr.2.2.1.1
  have l5 : rg 5 = (tI M 1 5).toInt := hr.2.2.1.2.1
  have l7 : rg 7 = (tI M t 4).toInt := hr.2.2.2.1.1
  have l8 : rg 8 = (tI M t 5).toInt := hr.2.2.2.1.2.1
  have l9 : rg 9 = (tI M t 3).toInt := hr.2.2.2.1.2.2
  refine lv_aload_n hx hb dX4_readComparison_0 rfl (lv_at hl 0 rfl) ?_
  refine lv_iload_n hx hb dX4_readComparison_1 rfl (lv_at hl 1 rfl) ?_
  refine ti_callVvE (ci := 4) (av := [.int 5]) C hE hw (x_X4_readSum_5 l D A cy hJ M hI t ht (hT) j hj (hL) B n rg hr td hq) ⟨ml_X4_181, ym_X4_readSum, yv_X4_readSum, yi_X4_readSum, yc_X4_readSum⟩ yd_X4_readSum ob_1 (by decide) rfl rfl hl.1 (Nat.le_of_ble_eq_true rfl) ⟨by decide, by decide⟩ ⟨Nat.zero_le _, Nat.zero_le _⟩ dX4_readComparison_2 (fun M_2 H locs hp_2 hw => ?_)
  obtain ⟨iM_2, q_3, q_4, q_5, q_6, p0r_1, p1r_1⟩ := hp_2
  obtain ⟨g_7, eg_7⟩ : ∃ z : Nat → Int, z = pp_sm B n (pp_pt B n 3) rg := ⟨_, rfl⟩
  rw [← eg_7] at p0r_1
  have lg_7_0 : g_7 0 = (tI M_2 2 4).toInt := p0r_1.2.1.1
  have lg_7_1 : g_7 1 = (tI M_2 2 6).toInt := p0r_1.2.1.2.1
  have lg_7_4 : g_7 4 = (tI M_2 1 4).toInt := p0r_1.2.2.1.1
  have lg_7_7 : g_7 7 = (tI M_2 t 4).toInt := p0r_1.2.2.2.1.1
  have lg_7_8 : g_7 8 = (tI M_2 t 5).toInt := p0r_1.2.2.2.1.2.1
  obtain ⟨d_8, ed_8⟩ : ∃ z : Nat → Int, z = qq_sm B n j (pp_pt B n 3) (qq_pt B n j 3) rg td := ⟨_, rfl⟩
  rw [← ed_8] at p1r_1
  refine lv_aload_n hx hb dX4_readComparison_5 rfl (lv_at hl 0 rfl) ?_
  refine ti_get (ci := 4) (k := 0) (N := 6) (T := TX4) (v := .ref (A 2 0)) C hw iw_4 rfl ob_1 (by decide) (by decide) fl_X4_12 rfl rfl dX4_readComparison_6 ?_
  refine ti_get (ci := 7) (k := 4) (N := 7) (T := TX7) C hw iw_7 rfl ob_2 (by decide) (by decide) fl_X4_41 rfl rfl dX4_readComparison_9 ?_
  refine lv_topi (fun x_9 ex_9 => ?_)
  have bx_9 : 0 ≤ x_9.toInt ∧ x_9.toInt ≤ 41 := cI_rd iM_2 ob_2.1 ex_9
  have ux_9 : (tI M_2 2 4).toInt = x_9.toInt := by rw [ex_9]
  refine lv_istore_n (lv' := [(2, .int x_9), (0, .ref (A 1 0)), (1, .int 5)]) hx hb dX4_readComparison_12 rfl hl (by decide) rfl (fun ls hl => ?_)
  refine lv_iload_n hx hb dX4_readComparison_13 rfl (lv_at hl 0 rfl) ?_
  refine lv_bipush (v := 32) hx hb dX4_readComparison_14 (by decide) ?_
  refine sb_icmp_lt (tgt := 43) hx hb rfl (by decide : (32 : Int32).toInt = 32) dX4_readComparison_16 (by decide) (fun c_16_9 => ?_) (fun c_16_9 => ?_)
  · exact hQ _ _ _ _ _ hw (⟨iM_2, (q_3), q_4, (q_5), q_6, (by unfold pp_cm; rw [← eg_7]; unfold pp_c2; rw [if_neg (fun q => by omega)]; exact p0r_1), (by unfold qq_cm; rw [← eg_7, ← ed_8]; unfold qq_c2; rw [if_neg (fun q => by omega)]; exact p1r_1)⟩) dX4_readComparison_43
  · refine lv_iload_n hx hb dX4_readComparison_19 rfl (lv_at hl 0 rfl) ?_
    refine lv_bipush (v := 37) hx hb dX4_readComparison_20 (by decide) ?_
    refine sb_icmp_gt (tgt := 43) hx hb rfl (by decide : (37 : Int32).toInt = 37) dX4_readComparison_22 (by decide) (fun c_22_10 => ?_) (fun c_22_10 => ?_)
    · exact hQ _ _ _ _ _ hw (⟨iM_2, (q_3), q_4, (q_5), q_6, (by unfold pp_cm; rw [← eg_7]; unfold pp_c2; rw [if_neg (fun q => by omega)]; exact p0r_1), (by unfold qq_cm; rw [← eg_7, ← ed_8]; unfold qq_c2; rw [if_neg (fun q => by omega)]; exact p1r_1)⟩) dX4_readComparison_43
    · refine lv_aload_n hx hb dX4_readComparison_25 rfl (lv_at hl 1 rfl) ?_
      refine ti_callVvE (ci := 4) (av := []) C hE hw (x_X4_knot l D A cy hJ M_2 iM_2 t ht ((tT_fr q_3).trans hT) B n g_7 p0r_1 d_8 p1r_1) ⟨ml_X4_167, ym_X4_knot, yv_X4_knot, yi_X4_knot, yc_X4_knot⟩ yd_X4_knot ob_1 (by decide) rfl rfl hl.1 (Nat.le_of_ble_eq_true rfl) ⟨by decide, by decide⟩ ⟨Nat.zero_le _, Nat.zero_le _⟩ dX4_readComparison_26 (fun M_13 H locs hp_13 hw => ?_)
      obtain ⟨iM_13, q_14, q_15, q_16, q_17, q_18, p0r_12, p1r_12⟩ := hp_13
      obtain ⟨g_19, eg_19⟩ : ∃ z : Nat → Int, z = pp_kn B n g_7 := ⟨_, rfl⟩
      rw [← eg_19] at p0r_12
      have lg_19_0 : g_19 0 = (tI M_13 2 4).toInt := p0r_12.2.1.1
      have lg_19_1 : g_19 1 = (tI M_13 2 6).toInt := p0r_12.2.1.2.1
      have lg_19_4 : g_19 4 = (tI M_13 1 4).toInt := p0r_12.2.2.1.1
      have lg_19_7 : g_19 7 = (tI M_13 t 4).toInt := p0r_12.2.2.2.1.1
      have lg_19_8 : g_19 8 = (tI M_13 t 5).toInt := p0r_12.2.2.2.1.2.1
      refine lv_aload_n hx hb dX4_readComparison_29 rfl (lv_at hl 1 rfl) ?_
      refine lv_iload_n hx hb dX4_readComparison_30 rfl (lv_at hl 2 rfl) ?_
      refine ti_callVvE (ci := 4) (av := [.int 5]) C hE hw (x_X4_readSum_5 l D A cy hJ M_13 iM_13 t ht ((tT_fr q_14).trans ((tT_fr q_3).trans hT)) j hj ((tT_fr q_14).trans ((tT_fr q_3).trans hL)) B n g_19 p0r_12 d_8 p1r_12) ⟨ml_X4_181, ym_X4_readSum, yv_X4_readSum, yi_X4_readSum, yc_X4_readSum⟩ yd_X4_readSum ob_1 (by decide) rfl rfl hl.1 (Nat.le_of_ble_eq_true rfl) ⟨by decide, by decide⟩ ⟨Nat.zero_le _, Nat.zero_le _⟩ dX4_readComparison_31 (fun M_21 H locs hp_21 hw => ?_)
      obtain ⟨iM_21, q_22, q_23, q_24, q_25, p0r_20, p1r_20⟩ := hp_21
      obtain ⟨g_26, eg_26⟩ : ∃ z : Nat → Int, z = pp_sm B n (pp_pt B n 3) g_19 := ⟨_, rfl⟩
      rw [← eg_26] at p0r_20
      have lg_26_0 : g_26 0 = (tI M_21 2 4).toInt := p0r_20.2.1.1
      have lg_26_1 : g_26 1 = (tI M_21 2 6).toInt := p0r_20.2.1.2.1
      have lg_26_4 : g_26 4 = (tI M_21 1 4).toInt := p0r_20.2.2.1.1
      have lg_26_7 : g_26 7 = (tI M_21 t 4).toInt := p0r_20.2.2.2.1.1
      have lg_26_8 : g_26 8 = (tI M_21 t 5).toInt := p0r_20.2.2.2.1.2.1
      obtain ⟨d_27, ed_27⟩ : ∃ z : Nat → Int, z = qq_sm B n j (pp_pt B n 3) (qq_pt B n j 3) g_19 d_8 := ⟨_, rfl⟩
      rw [← ed_27] at p1r_20
      refine lv_aload_n hx hb dX4_readComparison_34 rfl (lv_at hl 1 rfl) ?_
      refine ti_get (ci := 4) (k := 2) (N := 6) (T := TX4) (v := .ref (A (ti_laws t j) 0)) C hw iw_4 rfl ob_1 (by decide) (by decide) fl_X4_154 rfl (ti_Tv ((tT_fr q_22).trans ((tT_fr q_14).trans ((tT_fr q_3).trans hL)))) dX4_readComparison_35 ?_
      refine lv_iload_n hx hb dX4_readComparison_38 rfl (lv_at hl 0 rfl) ?_
      refine lv_ineg hx hb dX4_readComparison_39 ?_
      refine lv_topi (fun x_28 ex_28 => ?_)
      have tx_28 : x_28.toInt = -x_9.toInt := i_neg ex_28 rfl (by omega)
      refine ti_callVv (ci := 1) (av := [.int x_28]) C hw (x_X1_add l D A cy hJ M_21 iM_21 t ht j hj x_28 (by first | omega | exact Or.inl (by decide) | exact Or.inr (by decide)) B n g_26 p0r_20 d_27 p1r_20) ⟨ml_X4_170, ym_X1_add, yv_X1_add, yi_X1_add, yc_X1_add⟩ yd_X1_add (ob_l ht hj) (by decide) rfl rfl hl.1 (Nat.le_of_ble_eq_true rfl) ⟨by decide, by decide⟩ ⟨Nat.zero_le _, Nat.zero_le _⟩ dX4_readComparison_40 (fun M_30 H locs hp_30 hw => ?_)
      obtain ⟨iM_30, q_31, q_32, q_33, p0r_29, p1r_29⟩ := hp_30
      have lM_30_0 : g_26 0 = (tI M_30 2 4).toInt := p0r_29.2.1.1
      have lM_30_1 : g_26 1 = (tI M_30 2 6).toInt := p0r_29.2.1.2.1
      have lM_30_4 : g_26 4 = (tI M_30 1 4).toInt := p0r_29.2.2.1.1
      have lM_30_7 : g_26 7 = (tI M_30 t 4).toInt := p0r_29.2.2.2.1.1
      have lM_30_8 : g_26 8 = (tI M_30 t 5).toInt := p0r_29.2.2.2.1.2.1
      obtain ⟨d_34, ed_34⟩ : ∃ z : Nat → Int, z = qa j x_28.toInt d_27 := ⟨_, rfl⟩
      rw [← ed_34] at p1r_29
      exact hQ _ _ _ _ _ hw (⟨iM_30, ((q_31).trans ((q_22).trans ((q_14).trans q_3))), (f0.trans (f0_x q_32) (f0.trans q_23 (f0.trans q_15 q_4))), (((q_32 1).2.1).trans ((q_24).trans ((q_16).trans q_5))), (ot.trans q_33 (ot.trans q_25 (ot.trans q_17 q_6))), (by unfold pp_cm; rw [← eg_7]; unfold pp_c2; rw [if_pos ⟨by omega, by omega⟩, ← eg_19, ← eg_26]; exact p0r_29), (by unfold qq_cm; rw [← eg_7, ← ed_8]; unfold qq_c2; rw [if_pos ⟨by omega, by omega⟩, ← eg_19, ← ed_27, show -(g_7 0) = x_28.toInt by omega, ← ed_34]; exact p1r_29)⟩) dX4_readComparison_43
set_option maxHeartbeats 4000000 in
set_option maxRecDepth 100000 in
theorem x_X4_readNegated_5 (l : Launch) (D : va_G) (A : Nat → Nat → Nat) (cy : Nat → ClassId) (hJ : ti_inj ti_LT A) (M : ti_M) (hI : cI Tc M) (t : Nat) (ht : t = 3 ∨ t = 4) (hT : tT M 1 1 = some t) (j : Nat) (hj : j < 3) (hL : tT M 1 2 = some (ti_laws t j)) (B : Nat → Int) (n : Nat) (rg : Nat → Int) (hr : rC B n t rg M) (td : Nat → Int) (hq : tq t td M) : ti_KvE l yX4_readNegated cX4_readNegated 4 33 ti_LT D A cy M [.ref (A 1 0), .int 5] (fun M2 => cI Tc M2 ∧ M2.2.2.2 = M.2.2.2 ∧ f0 M2 M ∧ tI M2 2 1 = tI M 2 1 ∧ ot t M2 M ∧ rC B n t (pp_ng B n (pp_pt B n 3) rg) M2 ∧ tq t (qq_ng B n j (pp_pt B n 3) (qq_pt B n j 3) rg td) M2) := by
  refine ti_eVE yp_X4_readNegated hJ ti_LT_nd (Nat.le_of_ble_eq_true rfl) ?_
  intro p e s m args below meth c Q H0 C hE hQ hw ls hl
  have hx := C.1
  have hb := C.2.1
  have hl : lv_has ls 4 [(0, .ref (A 1 0)), (1, .int 5)] := hl
  have l0 : rg 0 = (tI M 2 4).toInt := hr.2.1.1
  have l1 : rg 1 = (tI M 2 6).toInt := hr.2.1.2.1
  have l2 : rg 2 = (tI M 2 5).toInt := hr.2.1.2.2.1
  have l3 : rg 3 = (tI M 2 3).toInt := hr.2.1.2.2.2
  have l4 : rg 4 = (tI M 1 4).toInt := hr.2.2.1.1
  have l5 : rg 5 = (tI M 1 5).toInt := hr.2.2.1.2.1
  have l7 : rg 7 = (tI M t 4).toInt := hr.2.2.2.1.1
  have l8 : rg 8 = (tI M t 5).toInt := hr.2.2.2.1.2.1
  have l9 : rg 9 = (tI M t 3).toInt := hr.2.2.2.1.2.2
  refine lv_iconst (v := 0) hx hb dX4_readNegated_0 (by decide) ?_
  refine lv_istore_n (lv' := [(2, .int 0), (0, .ref (A 1 0)), (1, .int 5)]) hx hb dX4_readNegated_1 rfl hl (by decide) rfl (fun ls hl => ?_)
  have hl_2_17 : ∀ (n_18 : Nat) (x_1 : Int32) (M_4 : ti_M) (g_11 : Nat → Int) (d_13 : Nat → Int) (H : Heap) (locs : List Loc) (ls : Array Slot), (65 - x_1.toInt : Int).toNat < n_18 → (0 ≤ x_1.toInt) → (x_1.toInt ≤ 65) → (cI Tc M_4) → (M_4.2.2.2 = M.2.2.2) → (f0 M_4 M) → (tI M_4 2 1 = tI M 2 1) → (ot t M_4 M) → (tT M_4 1 1 = (some t)) → (tT M_4 1 2 = (some (ti_laws t j))) → (rC B n t g_11 M_4) → (tq t d_13 M_4) → (pp_lp pp_qN (pp_kn B n) 65 rg = pp_lp pp_qN (pp_kn B n) (65 - (x_1.toInt).toNat) g_11) → (qq_ca B n 65 rg 0 = qq_ca B n (65 - (x_1.toInt).toNat) g_11 (x_1.toInt).toNat) → (td = d_13) → ti_H ti_LT D A cy H0 M_4 H locs → lv_has ls 4 [(2, .int x_1), (0, .ref (A 1 0)), (1, .int 5)] → W p l e (ti_rm 33) s m args below meth c H locs 0 0 Q (F0 m 2 ls []) := by
    intro n_18
    induction n_18 with
    | zero => intro x_1 M_4 g_11 d_13 H locs ls hf_18; exact absurd hf_18 (Nat.not_lt_zero _)
    | succ n_18 ih_18 =>
      intro x_1 M_4 g_11 d_13 H locs ls hf_18 b_2 b_3 iM_4 f_5 f_6 f_7 f_8 f_9 f_10 hs_12 tq_14 j_15 j_16 j_17 hw hl
      have lg_11_0 : g_11 0 = (tI M_4 2 4).toInt := hs_12.2.1.1
      have lg_11_1 : g_11 1 = (tI M_4 2 6).toInt := hs_12.2.1.2.1
      have lg_11_4 : g_11 4 = (tI M_4 1 4).toInt := hs_12.2.2.1.1
      have lg_11_7 : g_11 7 = (tI M_4 t 4).toInt := hs_12.2.2.2.1.1
      have lg_11_8 : g_11 8 = (tI M_4 t 5).toInt := hs_12.2.2.2.1.2.1
      refine lv_iload_n hx hb dX4_readNegated_2 rfl (lv_at hl 0 rfl) ?_
      refine lv_bipush (v := 64) hx hb dX4_readNegated_3 (by decide) ?_
      have hj_30_33 : ∀  (H : Heap) (locs : List Loc) (ls : Array Slot), (pp_lp pp_qN (pp_kn B n) 65 rg = g_11) → (qq_ca B n 65 rg 0 = (x_1.toInt).toNat) → (td = d_13) → ti_H ti_LT D A cy H0 M_4 H locs → lv_has ls 4 [(2, .int x_1), (0, .ref (A 1 0)), (1, .int 5)] → W p l e (ti_rm 33) s m args below meth c H locs 0 0 Q (F0 m 30 ls []) := by
        intro  H locs ls j_31 j_32 j_33 hw hl
        have lg_11_0 : g_11 0 = (tI M_4 2 4).toInt := hs_12.2.1.1
        have lg_11_1 : g_11 1 = (tI M_4 2 6).toInt := hs_12.2.1.2.1
        have lg_11_4 : g_11 4 = (tI M_4 1 4).toInt := hs_12.2.2.1.1
        have lg_11_7 : g_11 7 = (tI M_4 t 4).toInt := hs_12.2.2.2.1.1
        have lg_11_8 : g_11 8 = (tI M_4 t 5).toInt := hs_12.2.2.2.1.2.1
        refine lv_aload_n hx hb dX4_readNegated_30 rfl (lv_at hl 1 rfl) ?_
        refine lv_iload_n hx hb dX4_readNegated_31 rfl (lv_at hl 2 rfl) ?_
        refine ti_callVvE (ci := 4) (av := [.int 5]) C hE hw (x_X4_readComparison_5 l D A cy hJ M_4 iM_4 t ht (f_9) j hj (f_10) B n g_11 hs_12 d_13 tq_14) ⟨ml_X4_178, ym_X4_readComparison, yv_X4_readComparison, yi_X4_readComparison, yc_X4_readComparison⟩ yd_X4_readComparison ob_1 (by decide) rfl rfl hl.1 (Nat.le_of_ble_eq_true rfl) ⟨by decide, by decide⟩ ⟨Nat.zero_le _, Nat.zero_le _⟩ dX4_readNegated_32 (fun M_35 H locs hp_35 hw => ?_)
        obtain ⟨iM_35, q_36, q_37, q_38, q_39, p0r_34, p1r_34⟩ := hp_35
        obtain ⟨g_40, eg_40⟩ : ∃ z : Nat → Int, z = pp_cm B n (pp_pt B n 3) g_11 := ⟨_, rfl⟩
        rw [← eg_40] at p0r_34
        have lg_40_0 : g_40 0 = (tI M_35 2 4).toInt := p0r_34.2.1.1
        have lg_40_1 : g_40 1 = (tI M_35 2 6).toInt := p0r_34.2.1.2.1
        have lg_40_4 : g_40 4 = (tI M_35 1 4).toInt := p0r_34.2.2.1.1
        have lg_40_7 : g_40 7 = (tI M_35 t 4).toInt := p0r_34.2.2.2.1.1
        have lg_40_8 : g_40 8 = (tI M_35 t 5).toInt := p0r_34.2.2.2.1.2.1
        obtain ⟨d_41, ed_41⟩ : ∃ z : Nat → Int, z = qq_cm B n j (pp_pt B n 3) (qq_pt B n j 3) g_11 d_13 := ⟨_, rfl⟩
        rw [← ed_41] at p1r_34
        have EM : pp_ng B n (pp_pt B n 3) rg = g_40 := by unfold pp_ng; rw [j_31, ← eg_40]
        have ET : qq_ng B n j (pp_pt B n 3) (qq_pt B n j 3) rg td = qq_na j x_1.toInt.toNat d_41 := by unfold qq_ng; rw [j_32, j_31, show td = d_13 from j_33, ← ed_41]
        refine lv_iconst (v := 0) hx hb dX4_readNegated_35 (by decide) ?_
        refine lv_istore_n (lv' := [(3, .int 0), (2, .int x_1), (0, .ref (A 1 0)), (1, .int 5)]) hx hb dX4_readNegated_36 rfl hl (by decide) rfl (fun ls hl => ?_)
        have hl_37_58 : ∀ (n_59 : Nat) (x_42 : Int32) (M_45 : ti_M) (g_52 : Nat → Int) (d_54 : Nat → Int) (H : Heap) (locs : List Loc) (ls : Array Slot), (65 - x_42.toInt : Int).toNat < n_59 → (0 ≤ x_42.toInt) → (x_42.toInt ≤ 65) → (cI Tc M_45) → (M_45.2.2.2 = M.2.2.2) → (f0 M_45 M) → (tI M_45 2 1 = tI M 2 1) → (ot t M_45 M) → (tT M_45 1 1 = (some t)) → (tT M_45 1 2 = (some (ti_laws t j))) → (rC B n t g_52 M_45) → (tq t d_54 M_45) → (g_40 = g_52) → (qq_na j (x_42.toInt).toNat d_41 = d_54) → (x_42.toInt ≤ x_1.toInt) → ti_H ti_LT D A cy H0 M_45 H locs → lv_has ls 4 [(3, .int x_42), (2, .int x_1), (0, .ref (A 1 0)), (1, .int 5)] → W p l e (ti_rm 33) s m args below meth c H locs 0 0 Q (F0 m 37 ls []) := by
          intro n_59
          induction n_59 with
          | zero => intro x_42 M_45 g_52 d_54 H locs ls hf_59; exact absurd hf_59 (Nat.not_lt_zero _)
          | succ n_59 ih_59 =>
            intro x_42 M_45 g_52 d_54 H locs ls hf_59 b_43 b_44 iM_45 f_46 f_47 f_48 f_49 f_50 f_51 hs_53 tq_55 j_56 j_57 j_58 hw hl
            have lg_52_0 : g_52 0 = (tI M_45 2 4).toInt := hs_53.2.1.1
            have lg_52_1 : g_52 1 = (tI M_45 2 6).toInt := hs_53.2.1.2.1
            have lg_52_4 : g_52 4 = (tI M_45 1 4).toInt := hs_53.2.2.1.1
            have lg_52_7 : g_52 7 = (tI M_45 t 4).toInt := hs_53.2.2.2.1.1
            have lg_52_8 : g_52 8 = (tI M_45 t 5).toInt := hs_53.2.2.2.1.2.1
            refine lv_iload_n hx hb dX4_readNegated_37 rfl (lv_at hl 0 rfl) ?_
            refine lv_iload_n hx hb dX4_readNegated_38 rfl (lv_at hl 1 rfl) ?_
            refine sb_icmp_ge (tgt := 57) hx hb rfl rfl dX4_readNegated_39 (by decide) (fun c_39_59 => ?_) (fun c_39_59 => ?_)
            · exact hQ _ _ _ _ _ hw (⟨iM_45, (f_46), f_47, (f_48), f_49, (by rw [EM, j_56]; exact hs_53), (by rw [ET, show x_1.toInt.toNat = x_42.toInt.toNat by omega, j_57]; exact tq_55)⟩) dX4_readNegated_57
            · refine lv_aload_n hx hb dX4_readNegated_42 rfl (lv_at hl 2 rfl) ?_
              refine ti_get (ci := 4) (k := 2) (N := 6) (T := TX4) (v := .ref (A (ti_laws t j) 0)) C hw iw_4 rfl ob_1 (by decide) (by decide) fl_X4_154 rfl (ti_Tv (f_51)) dX4_readNegated_43 ?_
              refine lv_bipush (v := (-24)) hx hb dX4_readNegated_46 (by decide) ?_
              refine ti_callVv (ci := 1) (av := [.int (-24)]) C hw (x_X1_add l D A cy hJ M_45 iM_45 t ht j hj (-24) (by first | omega | exact Or.inl (by decide) | exact Or.inr (by decide)) B n g_52 hs_53 d_54 tq_55) ⟨ml_X4_170, ym_X1_add, yv_X1_add, yi_X1_add, yc_X1_add⟩ yd_X1_add (ob_l ht hj) (by decide) rfl rfl hl.1 (Nat.le_of_ble_eq_true rfl) ⟨by decide, by decide⟩ ⟨Nat.zero_le _, Nat.zero_le _⟩ dX4_readNegated_48 (fun M_62 H locs hp_62 hw => ?_)
              obtain ⟨iM_62, q_63, q_64, q_65, p0r_61, p1r_61⟩ := hp_62
              have lM_62_0 : g_52 0 = (tI M_62 2 4).toInt := p0r_61.2.1.1
              have lM_62_1 : g_52 1 = (tI M_62 2 6).toInt := p0r_61.2.1.2.1
              have lM_62_4 : g_52 4 = (tI M_62 1 4).toInt := p0r_61.2.2.1.1
              have lM_62_7 : g_52 7 = (tI M_62 t 4).toInt := p0r_61.2.2.2.1.1
              have lM_62_8 : g_52 8 = (tI M_62 t 5).toInt := p0r_61.2.2.2.1.2.1
              simp only [show ((-24) : Int32).toInt = (-24) by decide] at p1r_61
              obtain ⟨d_66, ed_66⟩ : ∃ z : Nat → Int, z = qa j (-24) d_54 := ⟨_, rfl⟩
              rw [← ed_66] at p1r_61
              obtain ⟨x_67, ex_67⟩ : ∃ z : Int32, z = x_42 + 1 := ⟨_, rfl⟩
              have tx_67 : x_67.toInt = x_42.toInt + 1 := i_add ex_67 rfl (by decide) (by omega) (by omega)
              refine lv_iinc (v := x_67) (lv' := [(3, .int x_67), (2, .int x_1), (0, .ref (A 1 0)), (1, .int 5)]) hx hb dX4_readNegated_51 hl (k := 0) rfl (by rw [ex_67]; rfl) (by decide) rfl (fun ls hl => ?_)
              refine lv_goto (tgt := 37) hx hb dX4_readNegated_54 (by decide) ?_
              exact ih_59 x_67 M_62 g_52 d_66 _ _ _ (by omega) (by first | omega | decide) (by first | omega | decide) iM_62 ((q_63).trans f_46) (f0.trans (f0_x q_64) f_47) (((q_64 1).2.1).trans f_48) (ot.trans q_65 f_49) ((tT_fr q_63).trans f_50) ((tT_fr q_63).trans f_51) p0r_61 p1r_61 j_56 (by rw [show x_67.toInt.toNat = x_42.toInt.toNat + 1 by omega, ed_66, ← j_57]; rfl) (by first | omega | decide) hw (lv_sub hl [0, 1, 2, 3] rfl)
        exact hl_37_58 ((65 - 0 : Int).toNat + 1) 0 M_35 g_40 d_41 _ _ _ (Nat.lt_succ_self _) (by have lt0 : (0 : Int32).toInt = 0 := (by decide); first | omega | decide) (by have lt0 : (0 : Int32).toInt = 0 := (by decide); first | omega | decide) iM_35 ((q_36).trans f_5) (f0.trans q_37 f_6) ((q_38).trans f_7) (ot.trans q_39 f_8) ((tT_fr q_36).trans f_9) ((tT_fr q_36).trans f_10) p0r_34 p1r_34 rfl rfl (by have lt0 : (0 : Int32).toInt = 0 := (by decide); first | omega | decide) hw (lv_sub hl [0, 1, 2, 3] rfl)
      refine sb_icmp_gt (tgt := 30) hx hb rfl (by decide : (64 : Int32).toInt = 64) dX4_readNegated_5 (by decide) (fun c_5_18 => ?_) (fun c_5_18 => ?_)
      · exact hj_30_33  _ _ _ (by rw [j_15, lp_end (P := pp_qN) (f := 65 - x_1.toInt.toNat) (s := g_11) (Or.inl (by omega))]) (by rw [j_16, ca_end (f := 65 - x_1.toInt.toNat) (s := g_11) (Or.inl (by omega))]) j_17 hw (lv_sub hl [0, 1, 2] rfl)
      · refine lv_aload_n hx hb dX4_readNegated_8 rfl (lv_at hl 1 rfl) ?_
        refine ti_get (ci := 4) (k := 0) (N := 6) (T := TX4) (v := .ref (A 2 0)) C hw iw_4 rfl ob_1 (by decide) (by decide) fl_X4_12 rfl rfl dX4_readNegated_9 ?_
        refine ti_get (ci := 7) (k := 4) (N := 7) (T := TX7) C hw iw_7 rfl ob_2 (by decide) (by decide) fl_X4_41 rfl rfl dX4_readNegated_12 ?_
        refine lv_topi (fun x_20 ex_20 => ?_)
        have bx_20 : 0 ≤ x_20.toInt ∧ x_20.toInt ≤ 41 := cI_rd iM_4 ob_2.1 ex_20
        have ux_20 : (tI M_4 2 4).toInt = x_20.toInt := by rw [ex_20]
        refine lv_bipush (v := 24) hx hb dX4_readNegated_15 (by decide) ?_
        refine sb_icmp_ne (tgt := 30) hx hb rfl (by decide : (24 : Int32).toInt = 24) dX4_readNegated_17 (by decide) (fun c_17_20 => ?_) (fun c_17_20 => ?_)
        · exact hj_30_33  _ _ _ (by rw [j_15, lp_end (P := pp_qN) (f := 65 - x_1.toInt.toNat) (s := g_11) (Or.inr (decide_eq_false (by omega)))]) (by rw [j_16, ca_end (f := 65 - x_1.toInt.toNat) (s := g_11) (Or.inr (decide_eq_false (by omega)))]) j_17 hw (lv_sub hl [0, 1, 2] rfl)
        · refine lv_aload_n hx hb dX4_readNegated_20 rfl (lv_at hl 1 rfl) ?_
          refine ti_callVvE (ci := 4) (av := []) C hE hw (x_X4_knot l D A cy hJ M_4 iM_4 t ht (f_9) B n g_11 hs_12 d_13 tq_14) ⟨ml_X4_167, ym_X4_knot, yv_X4_knot, yi_X4_knot, yc_X4_knot⟩ yd_X4_knot ob_1 (by decide) rfl rfl hl.1 (Nat.le_of_ble_eq_true rfl) ⟨by decide, by decide⟩ ⟨Nat.zero_le _, Nat.zero_le _⟩ dX4_readNegated_21 (fun M_23 H locs hp_23 hw => ?_)
          obtain ⟨iM_23, q_24, q_25, q_26, q_27, q_28, p0r_22, p1r_22⟩ := hp_23
          obtain ⟨g_29, eg_29⟩ : ∃ z : Nat → Int, z = pp_kn B n g_11 := ⟨_, rfl⟩
          rw [← eg_29] at p0r_22
          have lg_29_0 : g_29 0 = (tI M_23 2 4).toInt := p0r_22.2.1.1
          have lg_29_1 : g_29 1 = (tI M_23 2 6).toInt := p0r_22.2.1.2.1
          have lg_29_4 : g_29 4 = (tI M_23 1 4).toInt := p0r_22.2.2.1.1
          have lg_29_7 : g_29 7 = (tI M_23 t 4).toInt := p0r_22.2.2.2.1.1
          have lg_29_8 : g_29 8 = (tI M_23 t 5).toInt := p0r_22.2.2.2.1.2.1
          obtain ⟨x_30, ex_30⟩ : ∃ z : Int32, z = x_1 + 1 := ⟨_, rfl⟩
          have tx_30 : x_30.toInt = x_1.toInt + 1 := i_add ex_30 rfl (by decide) (by omega) (by omega)
          refine lv_iinc (v := x_30) (lv' := [(2, .int x_30), (0, .ref (A 1 0)), (1, .int 5)]) hx hb dX4_readNegated_24 hl (k := 0) rfl (by rw [ex_30]; rfl) (by decide) rfl (fun ls hl => ?_)
          refine lv_goto (tgt := 2) hx hb dX4_readNegated_27 (by decide) ?_
          exact ih_18 x_30 M_23 g_29 d_13 _ _ _ (by omega) (by first | omega | decide) (by first | omega | decide) iM_23 ((q_24).trans f_5) (f0.trans q_25 f_6) ((q_26).trans f_7) (ot.trans q_27 f_8) ((tT_fr q_24).trans f_9) ((tT_fr q_24).trans f_10) p0r_22 p1r_22 (j_15.trans (lp_step (decide_eq_true (by omega)) (by rw [eg_29]) (by omega))) (j_16.trans (ca_step (decide_eq_true (by omega)) (by rw [eg_29]) (by omega) (by omega))) j_17 hw (lv_sub hl [0, 1, 2] rfl)
  exact hl_2_17 ((65 - 0 : Int).toNat + 1) 0 M rg td _ _ _ (Nat.lt_succ_self _) (by have lt0 : (0 : Int32).toInt = 0 := (by decide); first | omega | decide) (by have lt0 : (0 : Int32).toInt = 0 := (by decide); first | omega | decide) hI rfl f0.refl rfl ot.refl (hT) (hL) hr hq rfl rfl rfl hw (lv_sub hl [0, 1, 2] rfl)
set_option maxHeartbeats 4000000 in
set_option maxRecDepth 100000 in
theorem x_X4_readBoth_5 (l : Launch) (D : va_G) (A : Nat → Nat → Nat) (cy : Nat → ClassId) (hJ : ti_inj ti_LT A) (M : ti_M) (hI : cI Tc M) (t : Nat) (ht : t = 3 ∨ t = 4) (hT : tT M 1 1 = some t) (j : Nat) (hj : j < 3) (hL : tT M 1 2 = some (ti_laws t j)) (B : Nat → Int) (n : Nat) (rg : Nat → Int) (hr : rC B n t rg M) (td : Nat → Int) (hq : tq t td M) : ti_KvE l yX4_readBoth cX4_readBoth 3 34 ti_LT D A cy M [.ref (A 1 0), .int 5] (fun M2 => cI Tc M2 ∧ M2.2.2.2 = M.2.2.2 ∧ f0 M2 M ∧ tI M2 2 1 = tI M 2 1 ∧ ot t M2 M ∧ rC B n t (pp_bo B n (pp_pt B n 3) rg) M2 ∧ tq t (qq_bo B n j (pp_pt B n 3) (qq_pt B n j 3) rg td) M2) := by
  refine ti_eVE yp_X4_readBoth hJ ti_LT_nd (Nat.le_of_ble_eq_true rfl) ?_
  intro p e s m args below meth c Q H0 C hE hQ hw ls hl
  have hx := C.1
  have hb := C.2.1
  have hl : lv_has ls 3 [(0, .ref (A 1 0)), (1, .int 5)] := hl
  have l0 : rg 0 = (tI M 2 4).toInt := hr.2.1.1
  have l1 : rg 1 = (tI M 2 6).toInt := hr.2.1.2.1
  have l2 : rg 2 = (tI M 2 5).toInt := hr.2.1.2.2.1
  have l3 : rg 3 = (tI M 2 3).toInt := hr.2.1.2.2.2
  have l4 : rg 4 = (tI M 1 4).toInt := hr.2.2.1.1
  have l5 : rg 5 = (tI M 1 5).toInt := hr.2.2.1.2.1
  have l7 : rg 7 = (tI M t 4).toInt := hr.2.2.2.1.1
  have l8 : rg 8 = (tI M t 5).toInt := hr.2.2.2.1.2.1
  have l9 : rg 9 = (tI M t 3).toInt := hr.2.2.2.1.2.2
  refine lv_aload_n hx hb dX4_readBoth_0 rfl (lv_at hl 0 rfl) ?_
  refine lv_iload_n hx hb dX4_readBoth_1 rfl (lv_at hl 1 rfl) ?_
  refine ti_callVvE (ci := 4) (av := [.int 5]) C hE hw (x_X4_readNegated_5 l D A cy hJ M hI t ht (hT) j hj (hL) B n rg hr td hq) ⟨ml_X4_175, ym_X4_readNegated, yv_X4_readNegated, yi_X4_readNegated, yc_X4_readNegated⟩ yd_X4_readNegated ob_1 (by decide) rfl rfl hl.1 (Nat.le_of_ble_eq_true rfl) ⟨by decide, by decide⟩ ⟨Nat.zero_le _, Nat.zero_le _⟩ dX4_readBoth_2 (fun M_2 H locs hp_2 hw => ?_)
  obtain ⟨iM_2, q_3, q_4, q_5, q_6, p0r_1, p1r_1⟩ := hp_2
  obtain ⟨g_7, eg_7⟩ : ∃ z : Nat → Int, z = pp_ng B n (pp_pt B n 3) rg := ⟨_, rfl⟩
  rw [← eg_7] at p0r_1
  have lg_7_0 : g_7 0 = (tI M_2 2 4).toInt := p0r_1.2.1.1
  have lg_7_1 : g_7 1 = (tI M_2 2 6).toInt := p0r_1.2.1.2.1
  have lg_7_4 : g_7 4 = (tI M_2 1 4).toInt := p0r_1.2.2.1.1
  have lg_7_7 : g_7 7 = (tI M_2 t 4).toInt := p0r_1.2.2.2.1.1
  have lg_7_8 : g_7 8 = (tI M_2 t 5).toInt := p0r_1.2.2.2.1.2.1
  obtain ⟨d_8, ed_8⟩ : ∃ z : Nat → Int, z = qq_ng B n j (pp_pt B n 3) (qq_pt B n j 3) rg td := ⟨_, rfl⟩
  rw [← ed_8] at p1r_1
  refine lv_iconst (v := 0) hx hb dX4_readBoth_5 (by decide) ?_
  refine lv_istore_n (lv' := [(2, .int 0), (0, .ref (A 1 0)), (1, .int 5)]) hx hb dX4_readBoth_6 rfl hl (by decide) rfl (fun ls hl => ?_)
  have hl_7_24 : ∀ (n_25 : Nat) (x_9 : Int32) (M_12 : ti_M) (g_19 : Nat → Int) (d_21 : Nat → Int) (H : Heap) (locs : List Loc) (ls : Array Slot), (64 - x_9.toInt : Int).toNat < n_25 → (0 ≤ x_9.toInt) → (x_9.toInt ≤ 64) → (cI Tc M_12) → (M_12.2.2.2 = M.2.2.2) → (f0 M_12 M) → (tI M_12 2 1 = tI M 2 1) → (ot t M_12 M) → (tT M_12 1 1 = (some t)) → (tT M_12 1 2 = (some (ti_laws t j))) → (rC B n t g_19 M_12) → (tq t d_21 M_12) → (pp_lp pp_qA (fun s => pp_ng B n (pp_pt B n 3) (pp_kn B n s)) 64 g_7 = pp_lp pp_qA (fun s => pp_ng B n (pp_pt B n 3) (pp_kn B n s)) (64 - (x_9.toInt).toNat) g_19) → (qq_lp pp_qA (fun s => pp_ng B n (pp_pt B n 3) (pp_kn B n s)) (fun s td => qa j (-22) (qq_ng B n j (pp_pt B n 3) (qq_pt B n j 3) (pp_kn B n s) td)) 64 g_7 d_8 = qq_lp pp_qA (fun s => pp_ng B n (pp_pt B n 3) (pp_kn B n s)) (fun s td => qa j (-22) (qq_ng B n j (pp_pt B n 3) (qq_pt B n j 3) (pp_kn B n s) td)) (64 - (x_9.toInt).toNat) g_19 d_21) → ti_H ti_LT D A cy H0 M_12 H locs → lv_has ls 3 [(2, .int x_9), (0, .ref (A 1 0)), (1, .int 5)] → W p l e (ti_rm 34) s m args below meth c H locs 0 0 Q (F0 m 7 ls []) := by
    intro n_25
    induction n_25 with
    | zero => intro x_9 M_12 g_19 d_21 H locs ls hf_25; exact absurd hf_25 (Nat.not_lt_zero _)
    | succ n_25 ih_25 =>
      intro x_9 M_12 g_19 d_21 H locs ls hf_25 b_10 b_11 iM_12 f_13 f_14 f_15 f_16 f_17 f_18 hs_20 tq_22 j_23 j_24 hw hl
      have lg_19_0 : g_19 0 = (tI M_12 2 4).toInt := hs_20.2.1.1
      have lg_19_1 : g_19 1 = (tI M_12 2 6).toInt := hs_20.2.1.2.1
      have lg_19_4 : g_19 4 = (tI M_12 1 4).toInt := hs_20.2.2.1.1
      have lg_19_7 : g_19 7 = (tI M_12 t 4).toInt := hs_20.2.2.2.1.1
      have lg_19_8 : g_19 8 = (tI M_12 t 5).toInt := hs_20.2.2.2.1.2.1
      refine lv_iload_n hx hb dX4_readBoth_7 rfl (lv_at hl 0 rfl) ?_
      refine lv_bipush (v := 64) hx hb dX4_readBoth_8 (by decide) ?_
      refine sb_icmp_ge (tgt := 49) hx hb rfl (by decide : (64 : Int32).toInt = 64) dX4_readBoth_10 (by decide) (fun c_10_25 => ?_) (fun c_10_25 => ?_)
      · exact hQ _ _ _ _ _ hw (⟨iM_12, (f_13), f_14, (f_15), f_16, (by unfold pp_bo; rw [← eg_7, j_23, lp_end (P := pp_qA) (f := 64 - x_9.toInt.toNat) (s := g_19) (Or.inl (by omega))]; exact hs_20), (by unfold qq_bo; rw [← eg_7, ← ed_8, j_24, qlp_end (P := pp_qA) (f := 64 - x_9.toInt.toNat) (s := g_19) (Or.inl (by omega))]; exact tq_22)⟩) dX4_readBoth_49
      · refine lv_aload_n hx hb dX4_readBoth_13 rfl (lv_at hl 1 rfl) ?_
        refine ti_get (ci := 4) (k := 0) (N := 6) (T := TX4) (v := .ref (A 2 0)) C hw iw_4 rfl ob_1 (by decide) (by decide) fl_X4_12 rfl rfl dX4_readBoth_14 ?_
        refine ti_get (ci := 7) (k := 4) (N := 7) (T := TX7) C hw iw_7 rfl ob_2 (by decide) (by decide) fl_X4_41 rfl rfl dX4_readBoth_17 ?_
        refine lv_topi (fun x_27 ex_27 => ?_)
        have bx_27 : 0 ≤ x_27.toInt ∧ x_27.toInt ≤ 41 := cI_rd iM_12 ob_2.1 ex_27
        have ux_27 : (tI M_12 2 4).toInt = x_27.toInt := by rw [ex_27]
        refine lv_bipush (v := 22) hx hb dX4_readBoth_20 (by decide) ?_
        refine sb_icmp_ne (tgt := 49) hx hb rfl (by decide : (22 : Int32).toInt = 22) dX4_readBoth_22 (by decide) (fun c_22_27 => ?_) (fun c_22_27 => ?_)
        · exact hQ _ _ _ _ _ hw (⟨iM_12, (f_13), f_14, (f_15), f_16, (by unfold pp_bo; rw [← eg_7, j_23, lp_end (P := pp_qA) (f := 64 - x_9.toInt.toNat) (s := g_19) (Or.inr (decide_eq_false (by omega)))]; exact hs_20), (by unfold qq_bo; rw [← eg_7, ← ed_8, j_24, qlp_end (P := pp_qA) (f := 64 - x_9.toInt.toNat) (s := g_19) (Or.inr (decide_eq_false (by omega)))]; exact tq_22)⟩) dX4_readBoth_49
        · refine lv_aload_n hx hb dX4_readBoth_25 rfl (lv_at hl 1 rfl) ?_
          refine ti_callVvE (ci := 4) (av := []) C hE hw (x_X4_knot l D A cy hJ M_12 iM_12 t ht (f_17) B n g_19 hs_20 d_21 tq_22) ⟨ml_X4_167, ym_X4_knot, yv_X4_knot, yi_X4_knot, yc_X4_knot⟩ yd_X4_knot ob_1 (by decide) rfl rfl hl.1 (Nat.le_of_ble_eq_true rfl) ⟨by decide, by decide⟩ ⟨Nat.zero_le _, Nat.zero_le _⟩ dX4_readBoth_26 (fun M_30 H locs hp_30 hw => ?_)
          obtain ⟨iM_30, q_31, q_32, q_33, q_34, q_35, p0r_29, p1r_29⟩ := hp_30
          obtain ⟨g_36, eg_36⟩ : ∃ z : Nat → Int, z = pp_kn B n g_19 := ⟨_, rfl⟩
          rw [← eg_36] at p0r_29
          have lg_36_0 : g_36 0 = (tI M_30 2 4).toInt := p0r_29.2.1.1
          have lg_36_1 : g_36 1 = (tI M_30 2 6).toInt := p0r_29.2.1.2.1
          have lg_36_4 : g_36 4 = (tI M_30 1 4).toInt := p0r_29.2.2.1.1
          have lg_36_7 : g_36 7 = (tI M_30 t 4).toInt := p0r_29.2.2.2.1.1
          have lg_36_8 : g_36 8 = (tI M_30 t 5).toInt := p0r_29.2.2.2.1.2.1
          refine lv_aload_n hx hb dX4_readBoth_29 rfl (lv_at hl 1 rfl) ?_
          refine lv_iload_n hx hb dX4_readBoth_30 rfl (lv_at hl 2 rfl) ?_
          refine ti_callVvE (ci := 4) (av := [.int 5]) C hE hw (x_X4_readNegated_5 l D A cy hJ M_30 iM_30 t ht ((tT_fr q_31).trans f_17) j hj ((tT_fr q_31).trans f_18) B n g_36 p0r_29 d_21 p1r_29) ⟨ml_X4_175, ym_X4_readNegated, yv_X4_readNegated, yi_X4_readNegated, yc_X4_readNegated⟩ yd_X4_readNegated ob_1 (by decide) rfl rfl hl.1 (Nat.le_of_ble_eq_true rfl) ⟨by decide, by decide⟩ ⟨Nat.zero_le _, Nat.zero_le _⟩ dX4_readBoth_31 (fun M_38 H locs hp_38 hw => ?_)
          obtain ⟨iM_38, q_39, q_40, q_41, q_42, p0r_37, p1r_37⟩ := hp_38
          obtain ⟨g_43, eg_43⟩ : ∃ z : Nat → Int, z = pp_ng B n (pp_pt B n 3) g_36 := ⟨_, rfl⟩
          rw [← eg_43] at p0r_37
          have lg_43_0 : g_43 0 = (tI M_38 2 4).toInt := p0r_37.2.1.1
          have lg_43_1 : g_43 1 = (tI M_38 2 6).toInt := p0r_37.2.1.2.1
          have lg_43_4 : g_43 4 = (tI M_38 1 4).toInt := p0r_37.2.2.1.1
          have lg_43_7 : g_43 7 = (tI M_38 t 4).toInt := p0r_37.2.2.2.1.1
          have lg_43_8 : g_43 8 = (tI M_38 t 5).toInt := p0r_37.2.2.2.1.2.1
          obtain ⟨d_44, ed_44⟩ : ∃ z : Nat → Int, z = qq_ng B n j (pp_pt B n 3) (qq_pt B n j 3) g_36 d_21 := ⟨_, rfl⟩
          rw [← ed_44] at p1r_37
          refine lv_aload_n hx hb dX4_readBoth_34 rfl (lv_at hl 1 rfl) ?_
          refine ti_get (ci := 4) (k := 2) (N := 6) (T := TX4) (v := .ref (A (ti_laws t j) 0)) C hw iw_4 rfl ob_1 (by decide) (by decide) fl_X4_154 rfl (ti_Tv ((tT_fr q_39).trans ((tT_fr q_31).trans f_18))) dX4_readBoth_35 ?_
          refine lv_bipush (v := (-22)) hx hb dX4_readBoth_38 (by decide) ?_
          refine ti_callVv (ci := 1) (av := [.int (-22)]) C hw (x_X1_add l D A cy hJ M_38 iM_38 t ht j hj (-22) (by first | omega | exact Or.inl (by decide) | exact Or.inr (by decide)) B n g_43 p0r_37 d_44 p1r_37) ⟨ml_X4_170, ym_X1_add, yv_X1_add, yi_X1_add, yc_X1_add⟩ yd_X1_add (ob_l ht hj) (by decide) rfl rfl hl.1 (Nat.le_of_ble_eq_true rfl) ⟨by decide, by decide⟩ ⟨Nat.zero_le _, Nat.zero_le _⟩ dX4_readBoth_40 (fun M_46 H locs hp_46 hw => ?_)
          obtain ⟨iM_46, q_47, q_48, q_49, p0r_45, p1r_45⟩ := hp_46
          have lM_46_0 : g_43 0 = (tI M_46 2 4).toInt := p0r_45.2.1.1
          have lM_46_1 : g_43 1 = (tI M_46 2 6).toInt := p0r_45.2.1.2.1
          have lM_46_4 : g_43 4 = (tI M_46 1 4).toInt := p0r_45.2.2.1.1
          have lM_46_7 : g_43 7 = (tI M_46 t 4).toInt := p0r_45.2.2.2.1.1
          have lM_46_8 : g_43 8 = (tI M_46 t 5).toInt := p0r_45.2.2.2.1.2.1
          simp only [show ((-22) : Int32).toInt = (-22) by decide] at p1r_45
          obtain ⟨d_50, ed_50⟩ : ∃ z : Nat → Int, z = qa j (-22) d_44 := ⟨_, rfl⟩
          rw [← ed_50] at p1r_45
          obtain ⟨x_51, ex_51⟩ : ∃ z : Int32, z = x_9 + 1 := ⟨_, rfl⟩
          have tx_51 : x_51.toInt = x_9.toInt + 1 := i_add ex_51 rfl (by decide) (by omega) (by omega)
          refine lv_iinc (v := x_51) (lv' := [(2, .int x_51), (0, .ref (A 1 0)), (1, .int 5)]) hx hb dX4_readBoth_43 hl (k := 0) rfl (by rw [ex_51]; rfl) (by decide) rfl (fun ls hl => ?_)
          refine lv_goto (tgt := 7) hx hb dX4_readBoth_46 (by decide) ?_
          exact ih_25 x_51 M_46 g_43 d_50 _ _ _ (by omega) (by first | omega | decide) (by first | omega | decide) iM_46 ((q_47).trans ((q_39).trans ((q_31).trans f_13))) (f0.trans (f0_x q_48) (f0.trans q_40 (f0.trans q_32 f_14))) (((q_48 1).2.1).trans ((q_41).trans ((q_33).trans f_15))) (ot.trans q_49 (ot.trans q_42 (ot.trans q_34 f_16))) ((tT_fr q_47).trans ((tT_fr q_39).trans ((tT_fr q_31).trans f_17))) ((tT_fr q_47).trans ((tT_fr q_39).trans ((tT_fr q_31).trans f_18))) p0r_45 p1r_45 (j_23.trans (lp_step (decide_eq_true (by omega)) (by rw [eg_43, eg_36]) (by omega))) (j_24.trans (qlp_step (decide_eq_true (by omega)) (by rw [eg_43, eg_36]) (by rw [ed_50, ed_44, eg_36]) (by omega))) hw (lv_sub hl [0, 1, 2] rfl)
  exact hl_7_24 ((64 - 0 : Int).toNat + 1) 0 M_2 g_7 d_8 _ _ _ (Nat.lt_succ_self _) (by have lt0 : (0 : Int32).toInt = 0 := (by decide); first | omega | decide) (by have lt0 : (0 : Int32).toInt = 0 := (by decide); first | omega | decide) iM_2 (q_3) q_4 (q_5) q_6 ((tT_fr q_3).trans hT) ((tT_fr q_3).trans hL) p0r_1 p1r_1 rfl rfl hw (lv_sub hl [0, 1, 2] rfl)
set_option maxHeartbeats 4000000 in
set_option maxRecDepth 100000 in
theorem x_X4_readEither_5 (l : Launch) (D : va_G) (A : Nat → Nat → Nat) (cy : Nat → ClassId) (hJ : ti_inj ti_LT A) (M : ti_M) (hI : cI Tc M) (t : Nat) (ht : t = 3 ∨ t = 4) (hT : tT M 1 1 = some t) (j : Nat) (hj : j < 3) (hL : tT M 1 2 = some (ti_laws t j)) (B : Nat → Int) (n : Nat) (rg : Nat → Int) (hr : rC B n t rg M) (td : Nat → Int) (hq : tq t td M) : ti_KvE l yX4_readEither cX4_readEither 3 35 ti_LT D A cy M [.ref (A 1 0), .int 5] (fun M2 => cI Tc M2 ∧ M2.2.2.2 = M.2.2.2 ∧ f0 M2 M ∧ tI M2 2 1 = tI M 2 1 ∧ ot t M2 M ∧ rC B n t (pp_ei B n (pp_pt B n 3) rg) M2 ∧ tq t (qq_ei B n j (pp_pt B n 3) (qq_pt B n j 3) rg td) M2) := by
  refine ti_eVE yp_X4_readEither hJ ti_LT_nd (Nat.le_of_ble_eq_true rfl) ?_
  intro p e s m args below meth c Q H0 C hE hQ hw ls hl
  have hx := C.1
  have hb := C.2.1
  have hl : lv_has ls 3 [(0, .ref (A 1 0)), (1, .int 5)] := hl
  have l0 : rg 0 = (tI M 2 4).toInt := hr.2.1.1
  have l1 : rg 1 = (tI M 2 6).toInt := hr.2.1.2.1
  have l2 : rg 2 = (tI M 2 5).toInt := hr.2.1.2.2.1
  have l3 : rg 3 = (tI M 2 3).toInt := hr.2.1.2.2.2
  have l4 : rg 4 = (tI M 1 4).toInt := hr.2.2.1.1
  have l5 : rg 5 = (tI M 1 5).toInt := hr.2.2.1.2.1
  have l7 : rg 7 = (tI M t 4).toInt := hr.2.2.2.1.1
  have l8 : rg 8 = (tI M t 5).toInt := hr.2.2.2.1.2.1
  have l9 : rg 9 = (tI M t 3).toInt := hr.2.2.2.1.2.2
  refine lv_aload_n hx hb dX4_readEither_0 rfl (lv_at hl 0 rfl) ?_
  refine lv_iload_n hx hb dX4_readEither_1 rfl (lv_at hl 1 rfl) ?_
  refine ti_callVvE (ci := 4) (av := [.int 5]) C hE hw (x_X4_readBoth_5 l D A cy hJ M hI t ht (hT) j hj (hL) B n rg hr td hq) ⟨ml_X4_164, ym_X4_readBoth, yv_X4_readBoth, yi_X4_readBoth, yc_X4_readBoth⟩ yd_X4_readBoth ob_1 (by decide) rfl rfl hl.1 (Nat.le_of_ble_eq_true rfl) ⟨by decide, by decide⟩ ⟨Nat.zero_le _, Nat.zero_le _⟩ dX4_readEither_2 (fun M_2 H locs hp_2 hw => ?_)
  obtain ⟨iM_2, q_3, q_4, q_5, q_6, p0r_1, p1r_1⟩ := hp_2
  obtain ⟨g_7, eg_7⟩ : ∃ z : Nat → Int, z = pp_bo B n (pp_pt B n 3) rg := ⟨_, rfl⟩
  rw [← eg_7] at p0r_1
  have lg_7_0 : g_7 0 = (tI M_2 2 4).toInt := p0r_1.2.1.1
  have lg_7_1 : g_7 1 = (tI M_2 2 6).toInt := p0r_1.2.1.2.1
  have lg_7_4 : g_7 4 = (tI M_2 1 4).toInt := p0r_1.2.2.1.1
  have lg_7_7 : g_7 7 = (tI M_2 t 4).toInt := p0r_1.2.2.2.1.1
  have lg_7_8 : g_7 8 = (tI M_2 t 5).toInt := p0r_1.2.2.2.1.2.1
  obtain ⟨d_8, ed_8⟩ : ∃ z : Nat → Int, z = qq_bo B n j (pp_pt B n 3) (qq_pt B n j 3) rg td := ⟨_, rfl⟩
  rw [← ed_8] at p1r_1
  refine lv_iconst (v := 0) hx hb dX4_readEither_5 (by decide) ?_
  refine lv_istore_n (lv' := [(2, .int 0), (0, .ref (A 1 0)), (1, .int 5)]) hx hb dX4_readEither_6 rfl hl (by decide) rfl (fun ls hl => ?_)
  have hl_7_24 : ∀ (n_25 : Nat) (x_9 : Int32) (M_12 : ti_M) (g_19 : Nat → Int) (d_21 : Nat → Int) (H : Heap) (locs : List Loc) (ls : Array Slot), (64 - x_9.toInt : Int).toNat < n_25 → (0 ≤ x_9.toInt) → (x_9.toInt ≤ 64) → (cI Tc M_12) → (M_12.2.2.2 = M.2.2.2) → (f0 M_12 M) → (tI M_12 2 1 = tI M 2 1) → (ot t M_12 M) → (tT M_12 1 1 = (some t)) → (tT M_12 1 2 = (some (ti_laws t j))) → (rC B n t g_19 M_12) → (tq t d_21 M_12) → (pp_lp pp_qO (fun s => pp_bo B n (pp_pt B n 3) (pp_kn B n s)) 64 g_7 = pp_lp pp_qO (fun s => pp_bo B n (pp_pt B n 3) (pp_kn B n s)) (64 - (x_9.toInt).toNat) g_19) → (qq_lp pp_qO (fun s => pp_bo B n (pp_pt B n 3) (pp_kn B n s)) (fun s td => qa j (-23) (qq_bo B n j (pp_pt B n 3) (qq_pt B n j 3) (pp_kn B n s) td)) 64 g_7 d_8 = qq_lp pp_qO (fun s => pp_bo B n (pp_pt B n 3) (pp_kn B n s)) (fun s td => qa j (-23) (qq_bo B n j (pp_pt B n 3) (qq_pt B n j 3) (pp_kn B n s) td)) (64 - (x_9.toInt).toNat) g_19 d_21) → ti_H ti_LT D A cy H0 M_12 H locs → lv_has ls 3 [(2, .int x_9), (0, .ref (A 1 0)), (1, .int 5)] → W p l e (ti_rm 35) s m args below meth c H locs 0 0 Q (F0 m 7 ls []) := by
    intro n_25
    induction n_25 with
    | zero => intro x_9 M_12 g_19 d_21 H locs ls hf_25; exact absurd hf_25 (Nat.not_lt_zero _)
    | succ n_25 ih_25 =>
      intro x_9 M_12 g_19 d_21 H locs ls hf_25 b_10 b_11 iM_12 f_13 f_14 f_15 f_16 f_17 f_18 hs_20 tq_22 j_23 j_24 hw hl
      have lg_19_0 : g_19 0 = (tI M_12 2 4).toInt := hs_20.2.1.1
      have lg_19_1 : g_19 1 = (tI M_12 2 6).toInt := hs_20.2.1.2.1
      have lg_19_4 : g_19 4 = (tI M_12 1 4).toInt := hs_20.2.2.1.1
      have lg_19_7 : g_19 7 = (tI M_12 t 4).toInt := hs_20.2.2.2.1.1
      have lg_19_8 : g_19 8 = (tI M_12 t 5).toInt := hs_20.2.2.2.1.2.1
      refine lv_iload_n hx hb dX4_readEither_7 rfl (lv_at hl 0 rfl) ?_
      refine lv_bipush (v := 64) hx hb dX4_readEither_8 (by decide) ?_
      refine sb_icmp_ge (tgt := 49) hx hb rfl (by decide : (64 : Int32).toInt = 64) dX4_readEither_10 (by decide) (fun c_10_25 => ?_) (fun c_10_25 => ?_)
      · exact hQ _ _ _ _ _ hw (⟨iM_12, (f_13), f_14, (f_15), f_16, (by unfold pp_ei; rw [← eg_7, j_23, lp_end (P := pp_qO) (f := 64 - x_9.toInt.toNat) (s := g_19) (Or.inl (by omega))]; exact hs_20), (by unfold qq_ei; rw [← eg_7, ← ed_8, j_24, qlp_end (P := pp_qO) (f := 64 - x_9.toInt.toNat) (s := g_19) (Or.inl (by omega))]; exact tq_22)⟩) dX4_readEither_49
      · refine lv_aload_n hx hb dX4_readEither_13 rfl (lv_at hl 1 rfl) ?_
        refine ti_get (ci := 4) (k := 0) (N := 6) (T := TX4) (v := .ref (A 2 0)) C hw iw_4 rfl ob_1 (by decide) (by decide) fl_X4_12 rfl rfl dX4_readEither_14 ?_
        refine ti_get (ci := 7) (k := 4) (N := 7) (T := TX7) C hw iw_7 rfl ob_2 (by decide) (by decide) fl_X4_41 rfl rfl dX4_readEither_17 ?_
        refine lv_topi (fun x_27 ex_27 => ?_)
        have bx_27 : 0 ≤ x_27.toInt ∧ x_27.toInt ≤ 41 := cI_rd iM_12 ob_2.1 ex_27
        have ux_27 : (tI M_12 2 4).toInt = x_27.toInt := by rw [ex_27]
        refine lv_bipush (v := 23) hx hb dX4_readEither_20 (by decide) ?_
        refine sb_icmp_ne (tgt := 49) hx hb rfl (by decide : (23 : Int32).toInt = 23) dX4_readEither_22 (by decide) (fun c_22_27 => ?_) (fun c_22_27 => ?_)
        · exact hQ _ _ _ _ _ hw (⟨iM_12, (f_13), f_14, (f_15), f_16, (by unfold pp_ei; rw [← eg_7, j_23, lp_end (P := pp_qO) (f := 64 - x_9.toInt.toNat) (s := g_19) (Or.inr (decide_eq_false (by omega)))]; exact hs_20), (by unfold qq_ei; rw [← eg_7, ← ed_8, j_24, qlp_end (P := pp_qO) (f := 64 - x_9.toInt.toNat) (s := g_19) (Or.inr (decide_eq_false (by omega)))]; exact tq_22)⟩) dX4_readEither_49
        · refine lv_aload_n hx hb dX4_readEither_25 rfl (lv_at hl 1 rfl) ?_
          refine ti_callVvE (ci := 4) (av := []) C hE hw (x_X4_knot l D A cy hJ M_12 iM_12 t ht (f_17) B n g_19 hs_20 d_21 tq_22) ⟨ml_X4_167, ym_X4_knot, yv_X4_knot, yi_X4_knot, yc_X4_knot⟩ yd_X4_knot ob_1 (by decide) rfl rfl hl.1 (Nat.le_of_ble_eq_true rfl) ⟨by decide, by decide⟩ ⟨Nat.zero_le _, Nat.zero_le _⟩ dX4_readEither_26 (fun M_30 H locs hp_30 hw => ?_)
          obtain ⟨iM_30, q_31, q_32, q_33, q_34, q_35, p0r_29, p1r_29⟩ := hp_30
          obtain ⟨g_36, eg_36⟩ : ∃ z : Nat → Int, z = pp_kn B n g_19 := ⟨_, rfl⟩
          rw [← eg_36] at p0r_29
          have lg_36_0 : g_36 0 = (tI M_30 2 4).toInt := p0r_29.2.1.1
          have lg_36_1 : g_36 1 = (tI M_30 2 6).toInt := p0r_29.2.1.2.1
          have lg_36_4 : g_36 4 = (tI M_30 1 4).toInt := p0r_29.2.2.1.1
          have lg_36_7 : g_36 7 = (tI M_30 t 4).toInt := p0r_29.2.2.2.1.1
          have lg_36_8 : g_36 8 = (tI M_30 t 5).toInt := p0r_29.2.2.2.1.2.1
          refine lv_aload_n hx hb dX4_readEither_29 rfl (lv_at hl 1 rfl) ?_
          refine lv_iload_n hx hb dX4_readEither_30 rfl (lv_at hl 2 rfl) ?_
          refine ti_callVvE (ci := 4) (av := [.int 5]) C hE hw (x_X4_readBoth_5 l D A cy hJ M_30 iM_30 t ht ((tT_fr q_31).trans f_17) j hj ((tT_fr q_31).trans f_18) B n g_36 p0r_29 d_21 p1r_29) ⟨ml_X4_164, ym_X4_readBoth, yv_X4_readBoth, yi_X4_readBoth, yc_X4_readBoth⟩ yd_X4_readBoth ob_1 (by decide) rfl rfl hl.1 (Nat.le_of_ble_eq_true rfl) ⟨by decide, by decide⟩ ⟨Nat.zero_le _, Nat.zero_le _⟩ dX4_readEither_31 (fun M_38 H locs hp_38 hw => ?_)
          obtain ⟨iM_38, q_39, q_40, q_41, q_42, p0r_37, p1r_37⟩ := hp_38
          obtain ⟨g_43, eg_43⟩ : ∃ z : Nat → Int, z = pp_bo B n (pp_pt B n 3) g_36 := ⟨_, rfl⟩
          rw [← eg_43] at p0r_37
          have lg_43_0 : g_43 0 = (tI M_38 2 4).toInt := p0r_37.2.1.1
          have lg_43_1 : g_43 1 = (tI M_38 2 6).toInt := p0r_37.2.1.2.1
          have lg_43_4 : g_43 4 = (tI M_38 1 4).toInt := p0r_37.2.2.1.1
          have lg_43_7 : g_43 7 = (tI M_38 t 4).toInt := p0r_37.2.2.2.1.1
          have lg_43_8 : g_43 8 = (tI M_38 t 5).toInt := p0r_37.2.2.2.1.2.1
          obtain ⟨d_44, ed_44⟩ : ∃ z : Nat → Int, z = qq_bo B n j (pp_pt B n 3) (qq_pt B n j 3) g_36 d_21 := ⟨_, rfl⟩
          rw [← ed_44] at p1r_37
          refine lv_aload_n hx hb dX4_readEither_34 rfl (lv_at hl 1 rfl) ?_
          refine ti_get (ci := 4) (k := 2) (N := 6) (T := TX4) (v := .ref (A (ti_laws t j) 0)) C hw iw_4 rfl ob_1 (by decide) (by decide) fl_X4_154 rfl (ti_Tv ((tT_fr q_39).trans ((tT_fr q_31).trans f_18))) dX4_readEither_35 ?_
          refine lv_bipush (v := (-23)) hx hb dX4_readEither_38 (by decide) ?_
          refine ti_callVv (ci := 1) (av := [.int (-23)]) C hw (x_X1_add l D A cy hJ M_38 iM_38 t ht j hj (-23) (by first | omega | exact Or.inl (by decide) | exact Or.inr (by decide)) B n g_43 p0r_37 d_44 p1r_37) ⟨ml_X4_170, ym_X1_add, yv_X1_add, yi_X1_add, yc_X1_add⟩ yd_X1_add (ob_l ht hj) (by decide) rfl rfl hl.1 (Nat.le_of_ble_eq_true rfl) ⟨by decide, by decide⟩ ⟨Nat.zero_le _, Nat.zero_le _⟩ dX4_readEither_40 (fun M_46 H locs hp_46 hw => ?_)
          obtain ⟨iM_46, q_47, q_48, q_49, p0r_45, p1r_45⟩ := hp_46
          have lM_46_0 : g_43 0 = (tI M_46 2 4).toInt := p0r_45.2.1.1
          have lM_46_1 : g_43 1 = (tI M_46 2 6).toInt := p0r_45.2.1.2.1
          have lM_46_4 : g_43 4 = (tI M_46 1 4).toInt := p0r_45.2.2.1.1
          have lM_46_7 : g_43 7 = (tI M_46 t 4).toInt := p0r_45.2.2.2.1.1
          have lM_46_8 : g_43 8 = (tI M_46 t 5).toInt := p0r_45.2.2.2.1.2.1
          simp only [show ((-23) : Int32).toInt = (-23) by decide] at p1r_45
          obtain ⟨d_50, ed_50⟩ : ∃ z : Nat → Int, z = qa j (-23) d_44 := ⟨_, rfl⟩
          rw [← ed_50] at p1r_45
          obtain ⟨x_51, ex_51⟩ : ∃ z : Int32, z = x_9 + 1 := ⟨_, rfl⟩
          have tx_51 : x_51.toInt = x_9.toInt + 1 := i_add ex_51 rfl (by decide) (by omega) (by omega)
          refine lv_iinc (v := x_51) (lv' := [(2, .int x_51), (0, .ref (A 1 0)), (1, .int 5)]) hx hb dX4_readEither_43 hl (k := 0) rfl (by rw [ex_51]; rfl) (by decide) rfl (fun ls hl => ?_)
          refine lv_goto (tgt := 7) hx hb dX4_readEither_46 (by decide) ?_
          exact ih_25 x_51 M_46 g_43 d_50 _ _ _ (by omega) (by first | omega | decide) (by first | omega | decide) iM_46 ((q_47).trans ((q_39).trans ((q_31).trans f_13))) (f0.trans (f0_x q_48) (f0.trans q_40 (f0.trans q_32 f_14))) (((q_48 1).2.1).trans ((q_41).trans ((q_33).trans f_15))) (ot.trans q_49 (ot.trans q_42 (ot.trans q_34 f_16))) ((tT_fr q_47).trans ((tT_fr q_39).trans ((tT_fr q_31).trans f_17))) ((tT_fr q_47).trans ((tT_fr q_39).trans ((tT_fr q_31).trans f_18))) p0r_45 p1r_45 (j_23.trans (lp_step (decide_eq_true (by omega)) (by rw [eg_43, eg_36]) (by omega))) (j_24.trans (qlp_step (decide_eq_true (by omega)) (by rw [eg_43, eg_36]) (by rw [ed_50, ed_44, eg_36]) (by omega))) hw (lv_sub hl [0, 1, 2] rfl)
  exact hl_7_24 ((64 - 0 : Int).toNat + 1) 0 M_2 g_7 d_8 _ _ _ (Nat.lt_succ_self _) (by have lt0 : (0 : Int32).toInt = 0 := (by decide); first | omega | decide) (by have lt0 : (0 : Int32).toInt = 0 := (by decide); first | omega | decide) iM_2 (q_3) q_4 (q_5) q_6 ((tT_fr q_3).trans hT) ((tT_fr q_3).trans hL) p0r_1 p1r_1 rfl rfl hw (lv_sub hl [0, 1, 2] rfl)
set_option maxHeartbeats 4000000 in
set_option maxRecDepth 100000 in
theorem x_X4_readPart_4 (l : Launch) (D : va_G) (A : Nat → Nat → Nat) (cy : Nat → ClassId) (hJ : ti_inj ti_LT A) (M : ti_M) (hI : cI Tc M) (t : Nat) (ht : t = 3 ∨ t = 4) (hT : tT M 1 1 = some t) (j : Nat) (hj : j < 3) (hL : tT M 1 2 = some (ti_laws t j)) (B : Nat → Int) (n : Nat) (rg : Nat → Int) (hr : rC B n t rg M) (td : Nat → Int) (hq : tq t td M) : ti_KvE l yX4_readPart cX4_readPart 3 36 ti_LT D A cy M [.ref (A 1 0), .int 4] (fun M2 => cI Tc M2 ∧ M2.2.2.2 = M.2.2.2 ∧ f0 M2 M ∧ tI M2 2 1 = tI M 2 1 ∧ ot t M2 M ∧ rC B n t (pp_pt B n 4 rg) M2 ∧ tq t (qq_pt B n j 4 rg td) M2) := by
  refine ti_eVE yp_X4_readPart hJ ti_LT_nd (Nat.le_of_ble_eq_true rfl) ?_
  intro p e s m args below meth c Q H0 C hE hQ hw ls hl
  have hx := C.1
  have hb := C.2.1
  have hl : lv_has ls 3 [(0, .ref (A 1 0)), (1, .int 4)] := hl
  have l0 : rg 0 = (tI M 2 4).toInt := hr.2.1.1
  have l1 : rg 1 = (tI M 2 6).toInt := hr.2.1.2.1
  have l2 : rg 2 = (tI M 2 5).toInt := hr.2.1.2.2.1
  have l3 : rg 3 = (tI M 2 3).toInt := hr.2.1.2.2.2
  have l4 : rg 4 = (tI M 1 4).toInt := hr.2.2.1.1
  have l5 : rg 5 = (tI M 1 5).toInt := hr.2.2.1.2.1
  have l7 : rg 7 = (tI M t 4).toInt := hr.2.2.2.1.1
  have l8 : rg 8 = (tI M t 5).toInt := hr.2.2.2.1.2.1
  have l9 : rg 9 = (tI M t 3).toInt := hr.2.2.2.1.2.2
  refine lv_aload_n hx hb dX4_readPart_0 rfl (lv_at hl 0 rfl) ?_
  refine ti_get (ci := 4) (k := 0) (N := 6) (T := TX4) (v := .ref (A 2 0)) C hw iw_4 rfl ob_1 (by decide) (by decide) fl_X4_12 rfl rfl dX4_readPart_1 ?_
  refine ti_get (ci := 7) (k := 4) (N := 7) (T := TX7) C hw iw_7 rfl ob_2 (by decide) (by decide) fl_X4_41 rfl rfl dX4_readPart_4 ?_
  refine lv_topi (fun x_1 ex_1 => ?_)
  have bx_1 : 0 ≤ x_1.toInt ∧ x_1.toInt ≤ 41 := cI_rd hI ob_2.1 ex_1
  have ux_1 : (tI M 2 4).toInt = x_1.toInt := by rw [ex_1]
  refine lv_istore_n (lv' := [(2, .int x_1), (0, .ref (A 1 0)), (1, .int 4)]) hx hb dX4_readPart_7 rfl hl (by decide) rfl (fun ls hl => ?_)
  refine lv_iload_n hx hb dX4_readPart_8 rfl (lv_at hl 0 rfl) ?_
  refine lv_bipush (v := 30) hx hb dX4_readPart_9 (by decide) ?_
  refine sb_icmp_ne (tgt := 28) hx hb rfl (by decide : (30 : Int32).toInt = 30) dX4_readPart_11 (by decide) (fun c_11_1 => ?_) (fun c_11_1 => ?_)
  · refine lv_iload_n hx hb dX4_readPart_28 rfl (lv_at hl 0 rfl) ?_
    refine lv_bipush (v := 30) hx hb dX4_readPart_29 (by decide) ?_
    refine sb_icmp_ne (tgt := 57) hx hb rfl (by decide : (30 : Int32).toInt = 30) dX4_readPart_31 (by decide) (fun c_31_3 => ?_) (fun h => by omega)
    refine lv_iload_n hx hb dX4_readPart_57 rfl (lv_at hl 0 rfl) ?_
    refine lv_bipush (v := 26) hx hb dX4_readPart_58 (by decide) ?_
    refine sb_icmp_ne (tgt := 84) hx hb rfl (by decide : (26 : Int32).toInt = 26) dX4_readPart_60 (by decide) (fun c_60_30 => ?_) (fun c_60_30 => ?_)
    · refine lv_iload_n hx hb dX4_readPart_84 rfl (lv_at hl 0 rfl) ?_
      refine lv_bipush (v := 26) hx hb dX4_readPart_85 (by decide) ?_
      refine sb_icmp_ne (tgt := 111) hx hb rfl (by decide : (26 : Int32).toInt = 26) dX4_readPart_87 (by decide) (fun c_87_41 => ?_) (fun h => by omega)
      refine lv_iload_n hx hb dX4_readPart_111 rfl (lv_at hl 0 rfl) ?_
      refine lv_bipush (v := 16) hx hb dX4_readPart_112 (by decide) ?_
      refine sb_icmp_lt (tgt := 139) hx hb rfl (by decide : (16 : Int32).toInt = 16) dX4_readPart_114 (by decide) (fun c_114_58 => ?_) (fun c_114_58 => ?_)
      · refine lv_aload_n hx hb dX4_readPart_139 rfl (lv_at hl 1 rfl) ?_
        refine lv_iconst (v := 1) hx hb dX4_readPart_140 (by decide) ?_
        refine ti_callVv (ci := 4) (av := [.int 1]) C hw (x_X4_refuse l D A cy hJ M hI t ht 1 B n rg hr) ⟨ml_X4_82, ym_X4_refuse, yv_X4_refuse, yi_X4_refuse, yc_X4_refuse⟩ yd_X4_refuse ob_1 (by decide) rfl rfl hl.1 (Nat.le_of_ble_eq_true rfl) ⟨by decide, by decide⟩ ⟨Nat.zero_le _, Nat.zero_le _⟩ dX4_readPart_141 (fun M_77 H locs hp_77 hw => ?_)
        obtain ⟨iM_77, q_78, q_79, q_80, q_81, p0r_76⟩ := hp_77
        have hlr_76_1 : (1 : Int32).toInt = 1 := by decide
        simp only [hlr_76_1] at p0r_76
        obtain ⟨g_82, eg_82⟩ : ∃ z : Nat → Int, z = pp_rf 1 rg := ⟨_, rfl⟩
        rw [← eg_82] at p0r_76
        have lg_82_0 : g_82 0 = (tI M_77 2 4).toInt := p0r_76.2.1.1
        have lg_82_1 : g_82 1 = (tI M_77 2 6).toInt := p0r_76.2.1.2.1
        have lg_82_4 : g_82 4 = (tI M_77 1 4).toInt := p0r_76.2.2.1.1
        have lg_82_7 : g_82 7 = (tI M_77 t 4).toInt := p0r_76.2.2.2.1.1
        have lg_82_8 : g_82 8 = (tI M_77 t 5).toInt := p0r_76.2.2.2.1.2.1
        have tq_83 : tq t td M_77 := tq_fr ht hq q_79 q_81
        exact hQ _ _ _ _ _ hw (⟨iM_77, (q_78), (f0_12 q_79), (q_80), (ot_12 ht q_79 q_81), (by rw [pe_4, if_neg (by omega)]; unfold pp_p0; rw [if_neg (by omega), if_neg (fun q => by omega), ← eg_82]; exact p0r_76), (by rw [qe_4, if_neg (by omega)]; unfold qq_p0; rw [if_neg (by omega), if_neg (fun q => by omega)]; exact tq_83)⟩) dX4_readPart_144
      · refine lv_iload_n hx hb dX4_readPart_117 rfl (lv_at hl 0 rfl) ?_
        refine lv_bipush (v := 21) hx hb dX4_readPart_118 (by decide) ?_
        refine sb_icmp_gt (tgt := 139) hx hb rfl (by decide : (21 : Int32).toInt = 21) dX4_readPart_120 (by decide) (fun c_120_59 => ?_) (fun c_120_59 => ?_)
        · refine lv_aload_n hx hb dX4_readPart_139 rfl (lv_at hl 1 rfl) ?_
          refine lv_iconst (v := 1) hx hb dX4_readPart_140 (by decide) ?_
          refine ti_callVv (ci := 4) (av := [.int 1]) C hw (x_X4_refuse l D A cy hJ M hI t ht 1 B n rg hr) ⟨ml_X4_82, ym_X4_refuse, yv_X4_refuse, yi_X4_refuse, yc_X4_refuse⟩ yd_X4_refuse ob_1 (by decide) rfl rfl hl.1 (Nat.le_of_ble_eq_true rfl) ⟨by decide, by decide⟩ ⟨Nat.zero_le _, Nat.zero_le _⟩ dX4_readPart_141 (fun M_85 H locs hp_85 hw => ?_)
          obtain ⟨iM_85, q_86, q_87, q_88, q_89, p0r_84⟩ := hp_85
          have hlr_84_1 : (1 : Int32).toInt = 1 := by decide
          simp only [hlr_84_1] at p0r_84
          obtain ⟨g_90, eg_90⟩ : ∃ z : Nat → Int, z = pp_rf 1 rg := ⟨_, rfl⟩
          rw [← eg_90] at p0r_84
          have lg_90_0 : g_90 0 = (tI M_85 2 4).toInt := p0r_84.2.1.1
          have lg_90_1 : g_90 1 = (tI M_85 2 6).toInt := p0r_84.2.1.2.1
          have lg_90_4 : g_90 4 = (tI M_85 1 4).toInt := p0r_84.2.2.1.1
          have lg_90_7 : g_90 7 = (tI M_85 t 4).toInt := p0r_84.2.2.2.1.1
          have lg_90_8 : g_90 8 = (tI M_85 t 5).toInt := p0r_84.2.2.2.1.2.1
          have tq_91 : tq t td M_85 := tq_fr ht hq q_87 q_89
          exact hQ _ _ _ _ _ hw (⟨iM_85, (q_86), (f0_12 q_87), (q_88), (ot_12 ht q_87 q_89), (by rw [pe_4, if_neg (by omega)]; unfold pp_p0; rw [if_neg (by omega), if_neg (fun q => by omega), ← eg_90]; exact p0r_84), (by rw [qe_4, if_neg (by omega)]; unfold qq_p0; rw [if_neg (by omega), if_neg (fun q => by omega)]; exact tq_91)⟩) dX4_readPart_144
        · refine lv_aload_n hx hb dX4_readPart_123 rfl (lv_at hl 1 rfl) ?_
          refine ti_get (ci := 4) (k := 2) (N := 6) (T := TX4) (v := .ref (A (ti_laws t j) 0)) C hw iw_4 rfl ob_1 (by decide) (by decide) fl_X4_154 rfl (ti_Tv (hL)) dX4_readPart_124 ?_
          refine lv_iload_n hx hb dX4_readPart_127 rfl (lv_at hl 0 rfl) ?_
          refine lv_ineg hx hb dX4_readPart_128 ?_
          refine lv_topi (fun x_61 ex_61 => ?_)
          have tx_61 : x_61.toInt = -x_1.toInt := i_neg ex_61 rfl (by omega)
          refine ti_callVv (ci := 1) (av := [.int x_61]) C hw (x_X1_add l D A cy hJ M hI t ht j hj x_61 (by first | omega | exact Or.inl (by decide) | exact Or.inr (by decide)) B n rg hr td hq) ⟨ml_X4_170, ym_X1_add, yv_X1_add, yi_X1_add, yc_X1_add⟩ yd_X1_add (ob_l ht hj) (by decide) rfl rfl hl.1 (Nat.le_of_ble_eq_true rfl) ⟨by decide, by decide⟩ ⟨Nat.zero_le _, Nat.zero_le _⟩ dX4_readPart_129 (fun M_63 H locs hp_63 hw => ?_)
          obtain ⟨iM_63, q_64, q_65, q_66, p0r_62, p1r_62⟩ := hp_63
          have lM_63_0 : rg 0 = (tI M_63 2 4).toInt := p0r_62.2.1.1
          have lM_63_1 : rg 1 = (tI M_63 2 6).toInt := p0r_62.2.1.2.1
          have lM_63_4 : rg 4 = (tI M_63 1 4).toInt := p0r_62.2.2.1.1
          have lM_63_7 : rg 7 = (tI M_63 t 4).toInt := p0r_62.2.2.2.1.1
          have lM_63_8 : rg 8 = (tI M_63 t 5).toInt := p0r_62.2.2.2.1.2.1
          obtain ⟨d_67, ed_67⟩ : ∃ z : Nat → Int, z = qa j x_61.toInt td := ⟨_, rfl⟩
          rw [← ed_67] at p1r_62
          refine lv_aload_n hx hb dX4_readPart_132 rfl (lv_at hl 1 rfl) ?_
          refine ti_callVvE (ci := 4) (av := []) C hE hw (x_X4_knot l D A cy hJ M_63 iM_63 t ht ((tT_fr q_64).trans hT) B n rg p0r_62 d_67 p1r_62) ⟨ml_X4_167, ym_X4_knot, yv_X4_knot, yi_X4_knot, yc_X4_knot⟩ yd_X4_knot ob_1 (by decide) rfl rfl hl.1 (Nat.le_of_ble_eq_true rfl) ⟨by decide, by decide⟩ ⟨Nat.zero_le _, Nat.zero_le _⟩ dX4_readPart_133 (fun M_69 H locs hp_69 hw => ?_)
          obtain ⟨iM_69, q_70, q_71, q_72, q_73, q_74, p0r_68, p1r_68⟩ := hp_69
          obtain ⟨g_75, eg_75⟩ : ∃ z : Nat → Int, z = pp_kn B n rg := ⟨_, rfl⟩
          rw [← eg_75] at p0r_68
          have lg_75_0 : g_75 0 = (tI M_69 2 4).toInt := p0r_68.2.1.1
          have lg_75_1 : g_75 1 = (tI M_69 2 6).toInt := p0r_68.2.1.2.1
          have lg_75_4 : g_75 4 = (tI M_69 1 4).toInt := p0r_68.2.2.1.1
          have lg_75_7 : g_75 7 = (tI M_69 t 4).toInt := p0r_68.2.2.2.1.1
          have lg_75_8 : g_75 8 = (tI M_69 t 5).toInt := p0r_68.2.2.2.1.2.1
          refine lv_goto (tgt := 144) hx hb dX4_readPart_136 (by decide) ?_
          exact hQ _ _ _ _ _ hw (⟨iM_69, ((q_70).trans q_64), (f0.trans q_71 (f0_x q_65)), ((q_72).trans ((q_65 1).2.1)), (ot.trans q_73 q_66), (by rw [pe_4, if_neg (by omega)]; unfold pp_p0; rw [if_neg (by omega), if_pos ⟨by omega, by omega⟩, ← eg_75]; exact p0r_68), (by rw [qe_4, if_neg (by omega)]; unfold qq_p0; rw [if_neg (by omega), if_pos ⟨by omega, by omega⟩, show -(rg 0) = x_61.toInt by omega, ← ed_67]; exact p1r_68)⟩) dX4_readPart_144
    · refine lv_aload_n hx hb dX4_readPart_63 rfl (lv_at hl 1 rfl) ?_
      refine ti_get (ci := 4) (k := 0) (N := 6) (T := TX4) (v := .ref (A 2 0)) C hw iw_4 rfl ob_1 (by decide) (by decide) fl_X4_12 rfl rfl dX4_readPart_64 ?_
      refine ti_get (ci := 7) (k := 6) (N := 7) (T := TX7) C hw iw_7 rfl ob_2 (by decide) (by decide) fl_X4_95 rfl rfl dX4_readPart_67 ?_
      refine lv_topi (fun x_32 ex_32 => ?_)
      have bx_32 : 0 ≤ x_32.toInt ∧ x_32.toInt ≤ 2147483647 := cI_rd hI ob_2.1 ex_32
      have ux_32 : (tI M 2 6).toInt = x_32.toInt := by rw [ex_32]
      refine lv_sipush (v := 9999) hx hb dX4_readPart_70 (by decide) ?_
      refine sb_icmp_le (tgt := 84) hx hb rfl (by decide : (9999 : Int32).toInt = 9999) dX4_readPart_73 (by decide) (fun c_73_32 => ?_) (fun c_73_32 => ?_)
      · refine lv_iload_n hx hb dX4_readPart_84 rfl (lv_at hl 0 rfl) ?_
        refine lv_bipush (v := 26) hx hb dX4_readPart_85 (by decide) ?_
        refine sb_icmp_ne (tgt := 111) hx hb rfl (by decide : (26 : Int32).toInt = 26) dX4_readPart_87 (by decide) (fun h => by omega) (fun c_87_42 => ?_)
        refine lv_aload_n hx hb dX4_readPart_90 rfl (lv_at hl 1 rfl) ?_
        refine ti_get (ci := 4) (k := 2) (N := 6) (T := TX4) (v := .ref (A (ti_laws t j) 0)) C hw iw_4 rfl ob_1 (by decide) (by decide) fl_X4_154 rfl (ti_Tv (hL)) dX4_readPart_91 ?_
        refine lv_aload_n hx hb dX4_readPart_94 rfl (lv_at hl 1 rfl) ?_
        refine ti_get (ci := 4) (k := 0) (N := 6) (T := TX4) (v := .ref (A 2 0)) C hw iw_4 rfl ob_1 (by decide) (by decide) fl_X4_12 rfl rfl dX4_readPart_95 ?_
        refine ti_get (ci := 7) (k := 6) (N := 7) (T := TX7) C hw iw_7 rfl ob_2 (by decide) (by decide) fl_X4_95 rfl rfl dX4_readPart_98 ?_
        refine ti_top (y := x_32) (ex_32.symm) ?_
        have u_44 : (tI M 2 6).toInt = (x_32 : Int32).toInt := by rw [(ex_32.symm)]
        refine ti_callVv (ci := 1) (av := [.int x_32]) C hw (x_X1_add l D A cy hJ M hI t ht j hj x_32 (by first | omega | exact Or.inl (by decide) | exact Or.inr (by decide)) B n rg hr td hq) ⟨ml_X4_170, ym_X1_add, yv_X1_add, yi_X1_add, yc_X1_add⟩ yd_X1_add (ob_l ht hj) (by decide) rfl rfl hl.1 (Nat.le_of_ble_eq_true rfl) ⟨by decide, by decide⟩ ⟨Nat.zero_le _, Nat.zero_le _⟩ dX4_readPart_101 (fun M_46 H locs hp_46 hw => ?_)
        obtain ⟨iM_46, q_47, q_48, q_49, p0r_45, p1r_45⟩ := hp_46
        have lM_46_0 : rg 0 = (tI M_46 2 4).toInt := p0r_45.2.1.1
        have lM_46_1 : rg 1 = (tI M_46 2 6).toInt := p0r_45.2.1.2.1
        have lM_46_4 : rg 4 = (tI M_46 1 4).toInt := p0r_45.2.2.1.1
        have lM_46_7 : rg 7 = (tI M_46 t 4).toInt := p0r_45.2.2.2.1.1
        have lM_46_8 : rg 8 = (tI M_46 t 5).toInt := p0r_45.2.2.2.1.2.1
        obtain ⟨d_50, ed_50⟩ : ∃ z : Nat → Int, z = qa j x_32.toInt td := ⟨_, rfl⟩
        rw [← ed_50] at p1r_45
        refine lv_aload_n hx hb dX4_readPart_104 rfl (lv_at hl 1 rfl) ?_
        refine ti_callVvE (ci := 4) (av := []) C hE hw (x_X4_knot l D A cy hJ M_46 iM_46 t ht ((tT_fr q_47).trans hT) B n rg p0r_45 d_50 p1r_45) ⟨ml_X4_167, ym_X4_knot, yv_X4_knot, yi_X4_knot, yc_X4_knot⟩ yd_X4_knot ob_1 (by decide) rfl rfl hl.1 (Nat.le_of_ble_eq_true rfl) ⟨by decide, by decide⟩ ⟨Nat.zero_le _, Nat.zero_le _⟩ dX4_readPart_105 (fun M_52 H locs hp_52 hw => ?_)
        obtain ⟨iM_52, q_53, q_54, q_55, q_56, q_57, p0r_51, p1r_51⟩ := hp_52
        obtain ⟨g_58, eg_58⟩ : ∃ z : Nat → Int, z = pp_kn B n rg := ⟨_, rfl⟩
        rw [← eg_58] at p0r_51
        have lg_58_0 : g_58 0 = (tI M_52 2 4).toInt := p0r_51.2.1.1
        have lg_58_1 : g_58 1 = (tI M_52 2 6).toInt := p0r_51.2.1.2.1
        have lg_58_4 : g_58 4 = (tI M_52 1 4).toInt := p0r_51.2.2.1.1
        have lg_58_7 : g_58 7 = (tI M_52 t 4).toInt := p0r_51.2.2.2.1.1
        have lg_58_8 : g_58 8 = (tI M_52 t 5).toInt := p0r_51.2.2.2.1.2.1
        refine lv_goto (tgt := 144) hx hb dX4_readPart_108 (by decide) ?_
        exact hQ _ _ _ _ _ hw (⟨iM_52, ((q_53).trans q_47), (f0.trans q_54 (f0_x q_48)), ((q_55).trans ((q_48 1).2.1)), (ot.trans q_56 q_49), (by rw [pe_4, if_neg (by omega)]; unfold pp_p0; rw [if_pos (by omega), if_neg (by omega), ← eg_58]; exact p0r_51), (by rw [qe_4, if_neg (by omega)]; unfold qq_p0; rw [if_pos (by omega), if_neg (by omega), show rg 1 = x_32.toInt by omega, ← ed_50]; exact p1r_51)⟩) dX4_readPart_144
      · refine lv_aload_n hx hb dX4_readPart_76 rfl (lv_at hl 1 rfl) ?_
        refine lv_iconst (v := 2) hx hb dX4_readPart_77 (by decide) ?_
        refine ti_callVv (ci := 4) (av := [.int 2]) C hw (x_X4_refuse l D A cy hJ M hI t ht 2 B n rg hr) ⟨ml_X4_82, ym_X4_refuse, yv_X4_refuse, yi_X4_refuse, yc_X4_refuse⟩ yd_X4_refuse ob_1 (by decide) rfl rfl hl.1 (Nat.le_of_ble_eq_true rfl) ⟨by decide, by decide⟩ ⟨Nat.zero_le _, Nat.zero_le _⟩ dX4_readPart_78 (fun M_35 H locs hp_35 hw => ?_)
        obtain ⟨iM_35, q_36, q_37, q_38, q_39, p0r_34⟩ := hp_35
        have hlr_34_2 : (2 : Int32).toInt = 2 := by decide
        simp only [hlr_34_2] at p0r_34
        obtain ⟨g_40, eg_40⟩ : ∃ z : Nat → Int, z = pp_rf 2 rg := ⟨_, rfl⟩
        rw [← eg_40] at p0r_34
        have lg_40_0 : g_40 0 = (tI M_35 2 4).toInt := p0r_34.2.1.1
        have lg_40_1 : g_40 1 = (tI M_35 2 6).toInt := p0r_34.2.1.2.1
        have lg_40_4 : g_40 4 = (tI M_35 1 4).toInt := p0r_34.2.2.1.1
        have lg_40_7 : g_40 7 = (tI M_35 t 4).toInt := p0r_34.2.2.2.1.1
        have lg_40_8 : g_40 8 = (tI M_35 t 5).toInt := p0r_34.2.2.2.1.2.1
        have tq_41 : tq t td M_35 := tq_fr ht hq q_37 q_39
        refine lv_goto (tgt := 144) hx hb dX4_readPart_81 (by decide) ?_
        exact hQ _ _ _ _ _ hw (⟨iM_35, (q_36), (f0_12 q_37), (q_38), (ot_12 ht q_37 q_39), (by rw [pe_4, if_neg (by omega)]; unfold pp_p0; rw [if_pos (by omega), if_pos (by omega), ← eg_40]; exact p0r_34), (by rw [qe_4, if_neg (by omega)]; unfold qq_p0; rw [if_pos (by omega), if_pos (by omega)]; exact tq_41)⟩) dX4_readPart_144
  · refine lv_iload_n hx hb dX4_readPart_14 rfl (lv_at hl 2 rfl) ?_
    refine lv_bipush (v := 8) hx hb dX4_readPart_15 (by decide) ?_
    refine sb_icmp_lt (tgt := 28) hx hb (by decide : (4 : Int32).toInt = 4) (by decide : (8 : Int32).toInt = 8) dX4_readPart_17 (by decide) (fun c_17_2 => ?_) (fun h => absurd h (by decide))
    refine lv_iload_n hx hb dX4_readPart_28 rfl (lv_at hl 0 rfl) ?_
    refine lv_bipush (v := 30) hx hb dX4_readPart_29 (by decide) ?_
    refine sb_icmp_ne (tgt := 57) hx hb rfl (by decide : (30 : Int32).toInt = 30) dX4_readPart_31 (by decide) (fun h => by omega) (fun c_31_4 => ?_)
    refine lv_aload_n hx hb dX4_readPart_34 rfl (lv_at hl 1 rfl) ?_
    refine ti_get (ci := 4) (k := 0) (N := 6) (T := TX4) (v := .ref (A 2 0)) C hw iw_4 rfl ob_1 (by decide) (by decide) fl_X4_12 rfl rfl dX4_readPart_35 ?_
    refine ti_callVvE (ci := 7) (av := []) C hE hw (x_X7_advance l D A cy hJ M hI ) ⟨ml_X4_92, ym_X7_advance, yv_X7_advance, yi_X7_advance, yc_X7_advance⟩ yd_X7_advance ob_2 (by decide) rfl rfl hl.1 (Nat.le_of_ble_eq_true rfl) ⟨by decide, by decide⟩ ⟨Nat.zero_le _, Nat.zero_le _⟩ dX4_readPart_38 (fun M_7 H locs hp_7 hw => ?_)
    obtain ⟨iM_7, q_8, q_9, q_10, q_11, p0r_6, p1r_6, p2r_6, p3r_6⟩ := hp_7
    have hs_12 := rC_av ht hr q_11 q_9 p0r_6 p1r_6 p2r_6 p3r_6
    obtain ⟨g_13, eg_13⟩ : ∃ z : Nat → Int, z = pp_av B n rg := ⟨_, rfl⟩
    rw [← eg_13] at hs_12
    have lg_13_0 : g_13 0 = (tI M_7 2 4).toInt := hs_12.2.1.1
    have lg_13_1 : g_13 1 = (tI M_7 2 6).toInt := hs_12.2.1.2.1
    have lg_13_4 : g_13 4 = (tI M_7 1 4).toInt := hs_12.2.2.1.1
    have lg_13_7 : g_13 7 = (tI M_7 t 4).toInt := hs_12.2.2.2.1.1
    have lg_13_8 : g_13 8 = (tI M_7 t 5).toInt := hs_12.2.2.2.1.2.1
    have tq_14 : tq t td M_7 := tq_fr ht hq (o2_12 q_9) q_11.1
    refine lv_aload_n hx hb dX4_readPart_41 rfl (lv_at hl 1 rfl) ?_
    refine lv_iload_n hx hb dX4_readPart_42 rfl (lv_at hl 2 rfl) ?_
    refine lv_iconst (v := 1) hx hb dX4_readPart_43 (by decide) ?_
    refine lv_iadd hx hb dX4_readPart_44 ?_
    refine ti_top (y := 5) (by decide) ?_
    refine ti_callVvE (ci := 4) (av := [.int 5]) C hE hw (x_X4_readEither_5 l D A cy hJ M_7 iM_7 t ht ((tT_fr q_8).trans hT) j hj ((tT_fr q_8).trans hL) B n g_13 hs_12 td tq_14) ⟨ml_X4_158, ym_X4_readEither, yv_X4_readEither, yi_X4_readEither, yc_X4_readEither⟩ yd_X4_readEither ob_1 (by decide) rfl rfl hl.1 (Nat.le_of_ble_eq_true rfl) ⟨by decide, by decide⟩ ⟨Nat.zero_le _, Nat.zero_le _⟩ dX4_readPart_45 (fun M_16 H locs hp_16 hw => ?_)
    obtain ⟨iM_16, q_17, q_18, q_19, q_20, p0r_15, p1r_15⟩ := hp_16
    obtain ⟨g_21, eg_21⟩ : ∃ z : Nat → Int, z = pp_ei B n (pp_pt B n 3) g_13 := ⟨_, rfl⟩
    rw [← eg_21] at p0r_15
    have lg_21_0 : g_21 0 = (tI M_16 2 4).toInt := p0r_15.2.1.1
    have lg_21_1 : g_21 1 = (tI M_16 2 6).toInt := p0r_15.2.1.2.1
    have lg_21_4 : g_21 4 = (tI M_16 1 4).toInt := p0r_15.2.2.1.1
    have lg_21_7 : g_21 7 = (tI M_16 t 4).toInt := p0r_15.2.2.2.1.1
    have lg_21_8 : g_21 8 = (tI M_16 t 5).toInt := p0r_15.2.2.2.1.2.1
    obtain ⟨d_22, ed_22⟩ : ∃ z : Nat → Int, z = qq_ei B n j (pp_pt B n 3) (qq_pt B n j 3) g_13 td := ⟨_, rfl⟩
    rw [← ed_22] at p1r_15
    refine lv_aload_n hx hb dX4_readPart_48 rfl (lv_at hl 1 rfl) ?_
    refine lv_bipush (v := 31) hx hb dX4_readPart_49 (by decide) ?_
    refine ti_callVvE (ci := 4) (av := [.int 31]) C hE hw (x_X4_take l D A cy hJ M_16 iM_16 t ht 31 B n g_21 p0r_15) ⟨ml_X4_85, ym_X4_take, yv_X4_take, yi_X4_take, yc_X4_take⟩ yd_X4_take ob_1 (by decide) rfl rfl hl.1 (Nat.le_of_ble_eq_true rfl) ⟨by decide, by decide⟩ ⟨Nat.zero_le _, Nat.zero_le _⟩ dX4_readPart_51 (fun M_24 H locs hp_24 hw => ?_)
    obtain ⟨iM_24, q_25, q_26, q_27, q_28, p0r_23⟩ := hp_24
    have hlr_23_31 : (31 : Int32).toInt = 31 := by decide
    simp only [hlr_23_31] at p0r_23
    obtain ⟨g_29, eg_29⟩ : ∃ z : Nat → Int, z = pp_tk B n 31 g_21 := ⟨_, rfl⟩
    rw [← eg_29] at p0r_23
    have lg_29_0 : g_29 0 = (tI M_24 2 4).toInt := p0r_23.2.1.1
    have lg_29_1 : g_29 1 = (tI M_24 2 6).toInt := p0r_23.2.1.2.1
    have lg_29_4 : g_29 4 = (tI M_24 1 4).toInt := p0r_23.2.2.1.1
    have lg_29_7 : g_29 7 = (tI M_24 t 4).toInt := p0r_23.2.2.2.1.1
    have lg_29_8 : g_29 8 = (tI M_24 t 5).toInt := p0r_23.2.2.2.1.2.1
    have tq_30 : tq t d_22 M_24 := tq_fr ht p1r_15 q_26 q_28
    refine lv_goto (tgt := 144) hx hb dX4_readPart_54 (by decide) ?_
    exact hQ _ _ _ _ _ hw (⟨iM_24, ((q_25).trans ((q_17).trans q_8)), (f0.trans (f0_12 q_26) (f0.trans q_18 (f0_12 (o2_12 q_9)))), ((q_27).trans ((q_19).trans q_10)), (ot.trans (ot_12 ht q_26 q_28) (ot.trans q_20 (ot_12 ht (o2_12 q_9) q_11.1))), (by rw [pe_4, if_pos (by omega), ← eg_13, ← eg_21, ← eg_29]; exact p0r_23), (by rw [qe_4, if_pos (by omega), ← eg_13, ← ed_22]; exact tq_30)⟩) dX4_readPart_144
set_option maxHeartbeats 4000000 in
set_option maxRecDepth 100000 in
theorem x_X4_readProduct_4 (l : Launch) (D : va_G) (A : Nat → Nat → Nat) (cy : Nat → ClassId) (hJ : ti_inj ti_LT A) (M : ti_M) (hI : cI Tc M) (t : Nat) (ht : t = 3 ∨ t = 4) (hT : tT M 1 1 = some t) (j : Nat) (hj : j < 3) (hL : tT M 1 2 = some (ti_laws t j)) (B : Nat → Int) (n : Nat) (rg : Nat → Int) (hr : rC B n t rg M) (td : Nat → Int) (hq : tq t td M) : ti_KvE l yX4_readProduct cX4_readProduct 4 37 ti_LT D A cy M [.ref (A 1 0), .int 4] (fun M2 => cI Tc M2 ∧ M2.2.2.2 = M.2.2.2 ∧ f0 M2 M ∧ tI M2 2 1 = tI M 2 1 ∧ ot t M2 M ∧ rC B n t (pp_pd B n (pp_pt B n 4) rg) M2 ∧ tq t (qq_pd B n j (pp_pt B n 4) (qq_pt B n j 4) rg td) M2) := by
  refine ti_eVE yp_X4_readProduct hJ ti_LT_nd (Nat.le_of_ble_eq_true rfl) ?_
  intro p e s m args below meth c Q H0 C hE hQ hw ls hl
  have hx := C.1
  have hb := C.2.1
  have hl : lv_has ls 4 [(0, .ref (A 1 0)), (1, .int 4)] := hl
  have l0 : rg 0 = (tI M 2 4).toInt := hr.2.1.1
  have l1 : rg 1 = (tI M 2 6).toInt := hr.2.1.2.1
  have l2 : rg 2 = (tI M 2 5).toInt := hr.2.1.2.2.1
  have l3 : rg 3 = (tI M 2 3).toInt := hr.2.1.2.2.2
  have l4 : rg 4 = (tI M 1 4).toInt := hr.2.2.1.1
  have l5 : rg 5 = (tI M 1 5).toInt := hr.2.2.1.2.1
  have l7 : rg 7 = (tI M t 4).toInt := hr.2.2.2.1.1
  have l8 : rg 8 = (tI M t 5).toInt := hr.2.2.2.1.2.1
  have l9 : rg 9 = (tI M t 3).toInt := hr.2.2.2.1.2.2
  refine lv_aload_n hx hb dX4_readProduct_0 rfl (lv_at hl 0 rfl) ?_
  refine lv_iload_n hx hb dX4_readProduct_1 rfl (lv_at hl 1 rfl) ?_
  refine ti_callVvE (ci := 4) (av := [.int 4]) C hE hw (x_X4_readPart_4 l D A cy hJ M hI t ht (hT) j hj (hL) B n rg hr td hq) ⟨ml_X4_187, ym_X4_readPart, yv_X4_readPart, yi_X4_readPart, yc_X4_readPart⟩ yd_X4_readPart ob_1 (by decide) rfl rfl hl.1 (Nat.le_of_ble_eq_true rfl) ⟨by decide, by decide⟩ ⟨Nat.zero_le _, Nat.zero_le _⟩ dX4_readProduct_2 (fun M_2 H locs hp_2 hw => ?_)
  obtain ⟨iM_2, q_3, q_4, q_5, q_6, p0r_1, p1r_1⟩ := hp_2
  obtain ⟨g_7, eg_7⟩ : ∃ z : Nat → Int, z = pp_pt B n 4 rg := ⟨_, rfl⟩
  rw [← eg_7] at p0r_1
  have lg_7_0 : g_7 0 = (tI M_2 2 4).toInt := p0r_1.2.1.1
  have lg_7_1 : g_7 1 = (tI M_2 2 6).toInt := p0r_1.2.1.2.1
  have lg_7_4 : g_7 4 = (tI M_2 1 4).toInt := p0r_1.2.2.1.1
  have lg_7_7 : g_7 7 = (tI M_2 t 4).toInt := p0r_1.2.2.2.1.1
  have lg_7_8 : g_7 8 = (tI M_2 t 5).toInt := p0r_1.2.2.2.1.2.1
  obtain ⟨d_8, ed_8⟩ : ∃ z : Nat → Int, z = qq_pt B n j 4 rg td := ⟨_, rfl⟩
  rw [← ed_8] at p1r_1
  refine lv_iconst (v := 0) hx hb dX4_readProduct_5 (by decide) ?_
  refine lv_istore_n (lv' := [(2, .int 0), (0, .ref (A 1 0)), (1, .int 4)]) hx hb dX4_readProduct_6 rfl hl (by decide) rfl (fun ls hl => ?_)
  have hl_7_24 : ∀ (n_25 : Nat) (x_9 : Int32) (M_12 : ti_M) (g_19 : Nat → Int) (d_21 : Nat → Int) (H : Heap) (locs : List Loc) (ls : Array Slot), (64 - x_9.toInt : Int).toNat < n_25 → (0 ≤ x_9.toInt) → (x_9.toInt ≤ 64) → (cI Tc M_12) → (M_12.2.2.2 = M.2.2.2) → (f0 M_12 M) → (tI M_12 2 1 = tI M 2 1) → (ot t M_12 M) → (tT M_12 1 1 = (some t)) → (tT M_12 1 2 = (some (ti_laws t j))) → (rC B n t g_19 M_12) → (tq t d_21 M_12) → (pp_lp pp_qT (fun s => (pp_pt B n 4) (pp_kn B n s)) 64 g_7 = pp_lp pp_qT (fun s => (pp_pt B n 4) (pp_kn B n s)) (64 - (x_9.toInt).toNat) g_19) → (qq_lp pp_qT (fun s => (pp_pt B n 4) (pp_kn B n s)) (fun s td => qa j (-(s 0)) ((qq_pt B n j 4) (pp_kn B n s) td)) 64 g_7 d_8 = qq_lp pp_qT (fun s => (pp_pt B n 4) (pp_kn B n s)) (fun s td => qa j (-(s 0)) ((qq_pt B n j 4) (pp_kn B n s) td)) (64 - (x_9.toInt).toNat) g_19 d_21) → ti_H ti_LT D A cy H0 M_12 H locs → lv_has ls 4 [(2, .int x_9), (0, .ref (A 1 0)), (1, .int 4)] → W p l e (ti_rm 37) s m args below meth c H locs 0 0 Q (F0 m 7 ls []) := by
    intro n_25
    induction n_25 with
    | zero => intro x_9 M_12 g_19 d_21 H locs ls hf_25; exact absurd hf_25 (Nat.not_lt_zero _)
    | succ n_25 ih_25 =>
      intro x_9 M_12 g_19 d_21 H locs ls hf_25 b_10 b_11 iM_12 f_13 f_14 f_15 f_16 f_17 f_18 hs_20 tq_22 j_23 j_24 hw hl
      have lg_19_0 : g_19 0 = (tI M_12 2 4).toInt := hs_20.2.1.1
      have lg_19_1 : g_19 1 = (tI M_12 2 6).toInt := hs_20.2.1.2.1
      have lg_19_4 : g_19 4 = (tI M_12 1 4).toInt := hs_20.2.2.1.1
      have lg_19_7 : g_19 7 = (tI M_12 t 4).toInt := hs_20.2.2.2.1.1
      have lg_19_8 : g_19 8 = (tI M_12 t 5).toInt := hs_20.2.2.2.1.2.1
      refine lv_iload_n hx hb dX4_readProduct_7 rfl (lv_at hl 0 rfl) ?_
      refine lv_bipush (v := 64) hx hb dX4_readProduct_8 (by decide) ?_
      refine sb_icmp_ge (tgt := 69) hx hb rfl (by decide : (64 : Int32).toInt = 64) dX4_readProduct_10 (by decide) (fun c_10_25 => ?_) (fun c_10_25 => ?_)
      · exact hQ _ _ _ _ _ hw (⟨iM_12, (f_13), f_14, (f_15), f_16, (by unfold pp_pd; rw [← eg_7, j_23, lp_end (P := pp_qT) (f := 64 - x_9.toInt.toNat) (s := g_19) (Or.inl (by omega))]; exact hs_20), (by unfold qq_pd; rw [← eg_7, ← ed_8, j_24, qlp_end (P := pp_qT) (f := 64 - x_9.toInt.toNat) (s := g_19) (Or.inl (by omega))]; exact tq_22)⟩) dX4_readProduct_69
      · refine lv_aload_n hx hb dX4_readProduct_13 rfl (lv_at hl 1 rfl) ?_
        refine ti_get (ci := 4) (k := 0) (N := 6) (T := TX4) (v := .ref (A 2 0)) C hw iw_4 rfl ob_1 (by decide) (by decide) fl_X4_12 rfl rfl dX4_readProduct_14 ?_
        refine ti_get (ci := 7) (k := 4) (N := 7) (T := TX7) C hw iw_7 rfl ob_2 (by decide) (by decide) fl_X4_41 rfl rfl dX4_readProduct_17 ?_
        refine lv_topi (fun x_27 ex_27 => ?_)
        have bx_27 : 0 ≤ x_27.toInt ∧ x_27.toInt ≤ 41 := cI_rd iM_12 ob_2.1 ex_27
        have ux_27 : (tI M_12 2 4).toInt = x_27.toInt := by rw [ex_27]
        refine lv_bipush (v := 40) hx hb dX4_readProduct_20 (by decide) ?_
        refine sb_icmp_eq (tgt := 37) hx hb rfl (by decide : (40 : Int32).toInt = 40) dX4_readProduct_22 (by decide) (fun c_22_27 => ?_) (fun c_22_27 => ?_)
        · refine lv_aload_n hx hb dX4_readProduct_37 rfl (lv_at hl 1 rfl) ?_
          refine ti_get (ci := 4) (k := 0) (N := 6) (T := TX4) (v := .ref (A 2 0)) C hw iw_4 rfl ob_1 (by decide) (by decide) fl_X4_12 rfl rfl dX4_readProduct_38 ?_
          refine ti_get (ci := 7) (k := 4) (N := 7) (T := TX7) C hw iw_7 rfl ob_2 (by decide) (by decide) fl_X4_41 rfl rfl dX4_readProduct_41 ?_
          refine ti_top (y := x_27) (ex_27.symm) ?_
          have u_31 : (tI M_12 2 4).toInt = (x_27 : Int32).toInt := by rw [(ex_27.symm)]
          refine lv_istore_n (lv' := [(3, .int x_27), (2, .int x_9), (0, .ref (A 1 0)), (1, .int 4)]) hx hb dX4_readProduct_44 rfl hl (by decide) rfl (fun ls hl => ?_)
          refine lv_aload_n hx hb dX4_readProduct_45 rfl (lv_at hl 2 rfl) ?_
          refine ti_callVvE (ci := 4) (av := []) C hE hw (x_X4_knot l D A cy hJ M_12 iM_12 t ht (f_17) B n g_19 hs_20 d_21 tq_22) ⟨ml_X4_167, ym_X4_knot, yv_X4_knot, yi_X4_knot, yc_X4_knot⟩ yd_X4_knot ob_1 (by decide) rfl rfl hl.1 (Nat.le_of_ble_eq_true rfl) ⟨by decide, by decide⟩ ⟨Nat.zero_le _, Nat.zero_le _⟩ dX4_readProduct_46 (fun M_33 H locs hp_33 hw => ?_)
          obtain ⟨iM_33, q_34, q_35, q_36, q_37, q_38, p0r_32, p1r_32⟩ := hp_33
          obtain ⟨g_39, eg_39⟩ : ∃ z : Nat → Int, z = pp_kn B n g_19 := ⟨_, rfl⟩
          rw [← eg_39] at p0r_32
          have lg_39_0 : g_39 0 = (tI M_33 2 4).toInt := p0r_32.2.1.1
          have lg_39_1 : g_39 1 = (tI M_33 2 6).toInt := p0r_32.2.1.2.1
          have lg_39_4 : g_39 4 = (tI M_33 1 4).toInt := p0r_32.2.2.1.1
          have lg_39_7 : g_39 7 = (tI M_33 t 4).toInt := p0r_32.2.2.2.1.1
          have lg_39_8 : g_39 8 = (tI M_33 t 5).toInt := p0r_32.2.2.2.1.2.1
          refine lv_aload_n hx hb dX4_readProduct_49 rfl (lv_at hl 2 rfl) ?_
          refine lv_iload_n hx hb dX4_readProduct_50 rfl (lv_at hl 3 rfl) ?_
          refine ti_callVvE (ci := 4) (av := [.int 4]) C hE hw (x_X4_readPart_4 l D A cy hJ M_33 iM_33 t ht ((tT_fr q_34).trans f_17) j hj ((tT_fr q_34).trans f_18) B n g_39 p0r_32 d_21 p1r_32) ⟨ml_X4_187, ym_X4_readPart, yv_X4_readPart, yi_X4_readPart, yc_X4_readPart⟩ yd_X4_readPart ob_1 (by decide) rfl rfl hl.1 (Nat.le_of_ble_eq_true rfl) ⟨by decide, by decide⟩ ⟨Nat.zero_le _, Nat.zero_le _⟩ dX4_readProduct_51 (fun M_41 H locs hp_41 hw => ?_)
          obtain ⟨iM_41, q_42, q_43, q_44, q_45, p0r_40, p1r_40⟩ := hp_41
          obtain ⟨g_46, eg_46⟩ : ∃ z : Nat → Int, z = pp_pt B n 4 g_39 := ⟨_, rfl⟩
          rw [← eg_46] at p0r_40
          have lg_46_0 : g_46 0 = (tI M_41 2 4).toInt := p0r_40.2.1.1
          have lg_46_1 : g_46 1 = (tI M_41 2 6).toInt := p0r_40.2.1.2.1
          have lg_46_4 : g_46 4 = (tI M_41 1 4).toInt := p0r_40.2.2.1.1
          have lg_46_7 : g_46 7 = (tI M_41 t 4).toInt := p0r_40.2.2.2.1.1
          have lg_46_8 : g_46 8 = (tI M_41 t 5).toInt := p0r_40.2.2.2.1.2.1
          obtain ⟨d_47, ed_47⟩ : ∃ z : Nat → Int, z = qq_pt B n j 4 g_39 d_21 := ⟨_, rfl⟩
          rw [← ed_47] at p1r_40
          refine lv_aload_n hx hb dX4_readProduct_54 rfl (lv_at hl 2 rfl) ?_
          refine ti_get (ci := 4) (k := 2) (N := 6) (T := TX4) (v := .ref (A (ti_laws t j) 0)) C hw iw_4 rfl ob_1 (by decide) (by decide) fl_X4_154 rfl (ti_Tv ((tT_fr q_42).trans ((tT_fr q_34).trans f_18))) dX4_readProduct_55 ?_
          refine lv_iload_n hx hb dX4_readProduct_58 rfl (lv_at hl 0 rfl) ?_
          refine lv_ineg hx hb dX4_readProduct_59 ?_
          refine lv_topi (fun x_48 ex_48 => ?_)
          have tx_48 : x_48.toInt = -x_27.toInt := i_neg ex_48 rfl (by omega)
          refine ti_callVv (ci := 1) (av := [.int x_48]) C hw (x_X1_add l D A cy hJ M_41 iM_41 t ht j hj x_48 (by first | omega | exact Or.inl (by decide) | exact Or.inr (by decide)) B n g_46 p0r_40 d_47 p1r_40) ⟨ml_X4_170, ym_X1_add, yv_X1_add, yi_X1_add, yc_X1_add⟩ yd_X1_add (ob_l ht hj) (by decide) rfl rfl hl.1 (Nat.le_of_ble_eq_true rfl) ⟨by decide, by decide⟩ ⟨Nat.zero_le _, Nat.zero_le _⟩ dX4_readProduct_60 (fun M_50 H locs hp_50 hw => ?_)
          obtain ⟨iM_50, q_51, q_52, q_53, p0r_49, p1r_49⟩ := hp_50
          have lM_50_0 : g_46 0 = (tI M_50 2 4).toInt := p0r_49.2.1.1
          have lM_50_1 : g_46 1 = (tI M_50 2 6).toInt := p0r_49.2.1.2.1
          have lM_50_4 : g_46 4 = (tI M_50 1 4).toInt := p0r_49.2.2.1.1
          have lM_50_7 : g_46 7 = (tI M_50 t 4).toInt := p0r_49.2.2.2.1.1
          have lM_50_8 : g_46 8 = (tI M_50 t 5).toInt := p0r_49.2.2.2.1.2.1
          obtain ⟨d_54, ed_54⟩ : ∃ z : Nat → Int, z = qa j x_48.toInt d_47 := ⟨_, rfl⟩
          rw [← ed_54] at p1r_49
          obtain ⟨x_55, ex_55⟩ : ∃ z : Int32, z = x_9 + 1 := ⟨_, rfl⟩
          have tx_55 : x_55.toInt = x_9.toInt + 1 := i_add ex_55 rfl (by decide) (by omega) (by omega)
          refine lv_iinc (v := x_55) (lv' := [(2, .int x_55), (3, .int x_27), (0, .ref (A 1 0)), (1, .int 4)]) hx hb dX4_readProduct_63 hl (k := 1) rfl (by rw [ex_55]; rfl) (by decide) rfl (fun ls hl => ?_)
          refine lv_goto (tgt := 7) hx hb dX4_readProduct_66 (by decide) ?_
          exact ih_25 x_55 M_50 g_46 d_54 _ _ _ (by omega) (by first | omega | decide) (by first | omega | decide) iM_50 ((q_51).trans ((q_42).trans ((q_34).trans f_13))) (f0.trans (f0_x q_52) (f0.trans q_43 (f0.trans q_35 f_14))) (((q_52 1).2.1).trans ((q_44).trans ((q_36).trans f_15))) (ot.trans q_53 (ot.trans q_45 (ot.trans q_37 f_16))) ((tT_fr q_51).trans ((tT_fr q_42).trans ((tT_fr q_34).trans f_17))) ((tT_fr q_51).trans ((tT_fr q_42).trans ((tT_fr q_34).trans f_18))) p0r_49 p1r_49 (j_23.trans (lp_step (decide_eq_true (by omega)) (by rw [eg_46, eg_39]) (by omega))) (j_24.trans (qlp_step (decide_eq_true (by omega)) (by rw [eg_46, eg_39]) (by rw [ed_54, show x_48.toInt = -(g_19 0) by omega, ed_47, eg_39]) (by omega))) hw (lv_sub hl [0, 2, 3] rfl)
        · refine lv_aload_n hx hb dX4_readProduct_25 rfl (lv_at hl 1 rfl) ?_
          refine ti_get (ci := 4) (k := 0) (N := 6) (T := TX4) (v := .ref (A 2 0)) C hw iw_4 rfl ob_1 (by decide) (by decide) fl_X4_12 rfl rfl dX4_readProduct_26 ?_
          refine ti_get (ci := 7) (k := 4) (N := 7) (T := TX7) C hw iw_7 rfl ob_2 (by decide) (by decide) fl_X4_41 rfl rfl dX4_readProduct_29 ?_
          refine ti_top (y := x_27) (ex_27.symm) ?_
          have u_29 : (tI M_12 2 4).toInt = (x_27 : Int32).toInt := by rw [(ex_27.symm)]
          refine lv_bipush (v := 41) hx hb dX4_readProduct_32 (by decide) ?_
          refine sb_icmp_ne (tgt := 69) hx hb rfl (by decide : (41 : Int32).toInt = 41) dX4_readProduct_34 (by decide) (fun c_34_29 => ?_) (fun c_34_29 => ?_)
          · exact hQ _ _ _ _ _ hw (⟨iM_12, (f_13), f_14, (f_15), f_16, (by unfold pp_pd; rw [← eg_7, j_23, lp_end (P := pp_qT) (f := 64 - x_9.toInt.toNat) (s := g_19) (Or.inr (decide_eq_false (by omega)))]; exact hs_20), (by unfold qq_pd; rw [← eg_7, ← ed_8, j_24, qlp_end (P := pp_qT) (f := 64 - x_9.toInt.toNat) (s := g_19) (Or.inr (decide_eq_false (by omega)))]; exact tq_22)⟩) dX4_readProduct_69
          · refine lv_aload_n hx hb dX4_readProduct_37 rfl (lv_at hl 1 rfl) ?_
            refine ti_get (ci := 4) (k := 0) (N := 6) (T := TX4) (v := .ref (A 2 0)) C hw iw_4 rfl ob_1 (by decide) (by decide) fl_X4_12 rfl rfl dX4_readProduct_38 ?_
            refine ti_get (ci := 7) (k := 4) (N := 7) (T := TX7) C hw iw_7 rfl ob_2 (by decide) (by decide) fl_X4_41 rfl rfl dX4_readProduct_41 ?_
            refine ti_top (y := x_27) (ex_27.symm) ?_
            have u_56 : (tI M_12 2 4).toInt = (x_27 : Int32).toInt := by rw [(ex_27.symm)]
            refine lv_istore_n (lv' := [(3, .int x_27), (2, .int x_9), (0, .ref (A 1 0)), (1, .int 4)]) hx hb dX4_readProduct_44 rfl hl (by decide) rfl (fun ls hl => ?_)
            refine lv_aload_n hx hb dX4_readProduct_45 rfl (lv_at hl 2 rfl) ?_
            refine ti_callVvE (ci := 4) (av := []) C hE hw (x_X4_knot l D A cy hJ M_12 iM_12 t ht (f_17) B n g_19 hs_20 d_21 tq_22) ⟨ml_X4_167, ym_X4_knot, yv_X4_knot, yi_X4_knot, yc_X4_knot⟩ yd_X4_knot ob_1 (by decide) rfl rfl hl.1 (Nat.le_of_ble_eq_true rfl) ⟨by decide, by decide⟩ ⟨Nat.zero_le _, Nat.zero_le _⟩ dX4_readProduct_46 (fun M_58 H locs hp_58 hw => ?_)
            obtain ⟨iM_58, q_59, q_60, q_61, q_62, q_63, p0r_57, p1r_57⟩ := hp_58
            obtain ⟨g_64, eg_64⟩ : ∃ z : Nat → Int, z = pp_kn B n g_19 := ⟨_, rfl⟩
            rw [← eg_64] at p0r_57
            have lg_64_0 : g_64 0 = (tI M_58 2 4).toInt := p0r_57.2.1.1
            have lg_64_1 : g_64 1 = (tI M_58 2 6).toInt := p0r_57.2.1.2.1
            have lg_64_4 : g_64 4 = (tI M_58 1 4).toInt := p0r_57.2.2.1.1
            have lg_64_7 : g_64 7 = (tI M_58 t 4).toInt := p0r_57.2.2.2.1.1
            have lg_64_8 : g_64 8 = (tI M_58 t 5).toInt := p0r_57.2.2.2.1.2.1
            refine lv_aload_n hx hb dX4_readProduct_49 rfl (lv_at hl 2 rfl) ?_
            refine lv_iload_n hx hb dX4_readProduct_50 rfl (lv_at hl 3 rfl) ?_
            refine ti_callVvE (ci := 4) (av := [.int 4]) C hE hw (x_X4_readPart_4 l D A cy hJ M_58 iM_58 t ht ((tT_fr q_59).trans f_17) j hj ((tT_fr q_59).trans f_18) B n g_64 p0r_57 d_21 p1r_57) ⟨ml_X4_187, ym_X4_readPart, yv_X4_readPart, yi_X4_readPart, yc_X4_readPart⟩ yd_X4_readPart ob_1 (by decide) rfl rfl hl.1 (Nat.le_of_ble_eq_true rfl) ⟨by decide, by decide⟩ ⟨Nat.zero_le _, Nat.zero_le _⟩ dX4_readProduct_51 (fun M_66 H locs hp_66 hw => ?_)
            obtain ⟨iM_66, q_67, q_68, q_69, q_70, p0r_65, p1r_65⟩ := hp_66
            obtain ⟨g_71, eg_71⟩ : ∃ z : Nat → Int, z = pp_pt B n 4 g_64 := ⟨_, rfl⟩
            rw [← eg_71] at p0r_65
            have lg_71_0 : g_71 0 = (tI M_66 2 4).toInt := p0r_65.2.1.1
            have lg_71_1 : g_71 1 = (tI M_66 2 6).toInt := p0r_65.2.1.2.1
            have lg_71_4 : g_71 4 = (tI M_66 1 4).toInt := p0r_65.2.2.1.1
            have lg_71_7 : g_71 7 = (tI M_66 t 4).toInt := p0r_65.2.2.2.1.1
            have lg_71_8 : g_71 8 = (tI M_66 t 5).toInt := p0r_65.2.2.2.1.2.1
            obtain ⟨d_72, ed_72⟩ : ∃ z : Nat → Int, z = qq_pt B n j 4 g_64 d_21 := ⟨_, rfl⟩
            rw [← ed_72] at p1r_65
            refine lv_aload_n hx hb dX4_readProduct_54 rfl (lv_at hl 2 rfl) ?_
            refine ti_get (ci := 4) (k := 2) (N := 6) (T := TX4) (v := .ref (A (ti_laws t j) 0)) C hw iw_4 rfl ob_1 (by decide) (by decide) fl_X4_154 rfl (ti_Tv ((tT_fr q_67).trans ((tT_fr q_59).trans f_18))) dX4_readProduct_55 ?_
            refine lv_iload_n hx hb dX4_readProduct_58 rfl (lv_at hl 0 rfl) ?_
            refine lv_ineg hx hb dX4_readProduct_59 ?_
            refine lv_topi (fun x_73 ex_73 => ?_)
            have tx_73 : x_73.toInt = -x_27.toInt := i_neg ex_73 rfl (by omega)
            refine ti_callVv (ci := 1) (av := [.int x_73]) C hw (x_X1_add l D A cy hJ M_66 iM_66 t ht j hj x_73 (by first | omega | exact Or.inl (by decide) | exact Or.inr (by decide)) B n g_71 p0r_65 d_72 p1r_65) ⟨ml_X4_170, ym_X1_add, yv_X1_add, yi_X1_add, yc_X1_add⟩ yd_X1_add (ob_l ht hj) (by decide) rfl rfl hl.1 (Nat.le_of_ble_eq_true rfl) ⟨by decide, by decide⟩ ⟨Nat.zero_le _, Nat.zero_le _⟩ dX4_readProduct_60 (fun M_75 H locs hp_75 hw => ?_)
            obtain ⟨iM_75, q_76, q_77, q_78, p0r_74, p1r_74⟩ := hp_75
            have lM_75_0 : g_71 0 = (tI M_75 2 4).toInt := p0r_74.2.1.1
            have lM_75_1 : g_71 1 = (tI M_75 2 6).toInt := p0r_74.2.1.2.1
            have lM_75_4 : g_71 4 = (tI M_75 1 4).toInt := p0r_74.2.2.1.1
            have lM_75_7 : g_71 7 = (tI M_75 t 4).toInt := p0r_74.2.2.2.1.1
            have lM_75_8 : g_71 8 = (tI M_75 t 5).toInt := p0r_74.2.2.2.1.2.1
            obtain ⟨d_79, ed_79⟩ : ∃ z : Nat → Int, z = qa j x_73.toInt d_72 := ⟨_, rfl⟩
            rw [← ed_79] at p1r_74
            obtain ⟨x_80, ex_80⟩ : ∃ z : Int32, z = x_9 + 1 := ⟨_, rfl⟩
            have tx_80 : x_80.toInt = x_9.toInt + 1 := i_add ex_80 rfl (by decide) (by omega) (by omega)
            refine lv_iinc (v := x_80) (lv' := [(2, .int x_80), (3, .int x_27), (0, .ref (A 1 0)), (1, .int 4)]) hx hb dX4_readProduct_63 hl (k := 1) rfl (by rw [ex_80]; rfl) (by decide) rfl (fun ls hl => ?_)
            refine lv_goto (tgt := 7) hx hb dX4_readProduct_66 (by decide) ?_
            exact ih_25 x_80 M_75 g_71 d_79 _ _ _ (by omega) (by first | omega | decide) (by first | omega | decide) iM_75 ((q_76).trans ((q_67).trans ((q_59).trans f_13))) (f0.trans (f0_x q_77) (f0.trans q_68 (f0.trans q_60 f_14))) (((q_77 1).2.1).trans ((q_69).trans ((q_61).trans f_15))) (ot.trans q_78 (ot.trans q_70 (ot.trans q_62 f_16))) ((tT_fr q_76).trans ((tT_fr q_67).trans ((tT_fr q_59).trans f_17))) ((tT_fr q_76).trans ((tT_fr q_67).trans ((tT_fr q_59).trans f_18))) p0r_74 p1r_74 (j_23.trans (lp_step (decide_eq_true (by omega)) (by rw [eg_71, eg_64]) (by omega))) (j_24.trans (qlp_step (decide_eq_true (by omega)) (by rw [eg_71, eg_64]) (by rw [ed_79, show x_73.toInt = -(g_19 0) by omega, ed_72, eg_64]) (by omega))) hw (lv_sub hl [0, 2, 3] rfl)
  exact hl_7_24 ((64 - 0 : Int).toNat + 1) 0 M_2 g_7 d_8 _ _ _ (Nat.lt_succ_self _) (by have lt0 : (0 : Int32).toInt = 0 := (by decide); first | omega | decide) (by have lt0 : (0 : Int32).toInt = 0 := (by decide); first | omega | decide) iM_2 (q_3) q_4 (q_5) q_6 ((tT_fr q_3).trans hT) ((tT_fr q_3).trans hL) p0r_1 p1r_1 rfl rfl hw (lv_sub hl [0, 1, 2] rfl)
set_option maxHeartbeats 4000000 in
set_option maxRecDepth 100000 in
theorem x_X4_readSum_4 (l : Launch) (D : va_G) (A : Nat → Nat → Nat) (cy : Nat → ClassId) (hJ : ti_inj ti_LT A) (M : ti_M) (hI : cI Tc M) (t : Nat) (ht : t = 3 ∨ t = 4) (hT : tT M 1 1 = some t) (j : Nat) (hj : j < 3) (hL : tT M 1 2 = some (ti_laws t j)) (B : Nat → Int) (n : Nat) (rg : Nat → Int) (hr : rC B n t rg M) (td : Nat → Int) (hq : tq t td M) : ti_KvE l yX4_readSum cX4_readSum 4 38 ti_LT D A cy M [.ref (A 1 0), .int 4] (fun M2 => cI Tc M2 ∧ M2.2.2.2 = M.2.2.2 ∧ f0 M2 M ∧ tI M2 2 1 = tI M 2 1 ∧ ot t M2 M ∧ rC B n t (pp_sm B n (pp_pt B n 4) rg) M2 ∧ tq t (qq_sm B n j (pp_pt B n 4) (qq_pt B n j 4) rg td) M2) := by
  refine ti_eVE yp_X4_readSum hJ ti_LT_nd (Nat.le_of_ble_eq_true rfl) ?_
  intro p e s m args below meth c Q H0 C hE hQ hw ls hl
  have hx := C.1
  have hb := C.2.1
  have hl : lv_has ls 4 [(0, .ref (A 1 0)), (1, .int 4)] := hl
  have l0 : rg 0 = (tI M 2 4).toInt := hr.2.1.1
  have l1 : rg 1 = (tI M 2 6).toInt := hr.2.1.2.1
  have l2 : rg 2 = (tI M 2 5).toInt := hr.2.1.2.2.1
  have l3 : rg 3 = (tI M 2 3).toInt := hr.2.1.2.2.2
  have l4 : rg 4 = (tI M 1 4).toInt := hr.2.2.1.1
  have l5 : rg 5 = (tI M 1 5).toInt := hr.2.2.1.2.1
  have l7 : rg 7 = (tI M t 4).toInt := hr.2.2.2.1.1
  have l8 : rg 8 = (tI M t 5).toInt := hr.2.2.2.1.2.1
  have l9 : rg 9 = (tI M t 3).toInt := hr.2.2.2.1.2.2
  refine lv_aload_n hx hb dX4_readSum_0 rfl (lv_at hl 0 rfl) ?_
  refine lv_iload_n hx hb dX4_readSum_1 rfl (lv_at hl 1 rfl) ?_
  refine ti_callVvE (ci := 4) (av := [.int 4]) C hE hw (x_X4_readProduct_4 l D A cy hJ M hI t ht (hT) j hj (hL) B n rg hr td hq) ⟨ml_X4_184, ym_X4_readProduct, yv_X4_readProduct, yi_X4_readProduct, yc_X4_readProduct⟩ yd_X4_readProduct ob_1 (by decide) rfl rfl hl.1 (Nat.le_of_ble_eq_true rfl) ⟨by decide, by decide⟩ ⟨Nat.zero_le _, Nat.zero_le _⟩ dX4_readSum_2 (fun M_2 H locs hp_2 hw => ?_)
  obtain ⟨iM_2, q_3, q_4, q_5, q_6, p0r_1, p1r_1⟩ := hp_2
  obtain ⟨g_7, eg_7⟩ : ∃ z : Nat → Int, z = pp_pd B n (pp_pt B n 4) rg := ⟨_, rfl⟩
  rw [← eg_7] at p0r_1
  have lg_7_0 : g_7 0 = (tI M_2 2 4).toInt := p0r_1.2.1.1
  have lg_7_1 : g_7 1 = (tI M_2 2 6).toInt := p0r_1.2.1.2.1
  have lg_7_4 : g_7 4 = (tI M_2 1 4).toInt := p0r_1.2.2.1.1
  have lg_7_7 : g_7 7 = (tI M_2 t 4).toInt := p0r_1.2.2.2.1.1
  have lg_7_8 : g_7 8 = (tI M_2 t 5).toInt := p0r_1.2.2.2.1.2.1
  obtain ⟨d_8, ed_8⟩ : ∃ z : Nat → Int, z = qq_pd B n j (pp_pt B n 4) (qq_pt B n j 4) rg td := ⟨_, rfl⟩
  rw [← ed_8] at p1r_1
  refine lv_iconst (v := 0) hx hb dX4_readSum_5 (by decide) ?_
  refine lv_istore_n (lv' := [(2, .int 0), (0, .ref (A 1 0)), (1, .int 4)]) hx hb dX4_readSum_6 rfl hl (by decide) rfl (fun ls hl => ?_)
  have hl_7_24 : ∀ (n_25 : Nat) (x_9 : Int32) (M_12 : ti_M) (g_19 : Nat → Int) (d_21 : Nat → Int) (H : Heap) (locs : List Loc) (ls : Array Slot), (64 - x_9.toInt : Int).toNat < n_25 → (0 ≤ x_9.toInt) → (x_9.toInt ≤ 64) → (cI Tc M_12) → (M_12.2.2.2 = M.2.2.2) → (f0 M_12 M) → (tI M_12 2 1 = tI M 2 1) → (ot t M_12 M) → (tT M_12 1 1 = (some t)) → (tT M_12 1 2 = (some (ti_laws t j))) → (rC B n t g_19 M_12) → (tq t d_21 M_12) → (pp_lp pp_qP (fun s => pp_pd B n (pp_pt B n 4) (pp_kn B n s)) 64 g_7 = pp_lp pp_qP (fun s => pp_pd B n (pp_pt B n 4) (pp_kn B n s)) (64 - (x_9.toInt).toNat) g_19) → (qq_lp pp_qP (fun s => pp_pd B n (pp_pt B n 4) (pp_kn B n s)) (fun s td => qa j (-(s 0)) (qq_pd B n j (pp_pt B n 4) (qq_pt B n j 4) (pp_kn B n s) td)) 64 g_7 d_8 = qq_lp pp_qP (fun s => pp_pd B n (pp_pt B n 4) (pp_kn B n s)) (fun s td => qa j (-(s 0)) (qq_pd B n j (pp_pt B n 4) (qq_pt B n j 4) (pp_kn B n s) td)) (64 - (x_9.toInt).toNat) g_19 d_21) → ti_H ti_LT D A cy H0 M_12 H locs → lv_has ls 4 [(2, .int x_9), (0, .ref (A 1 0)), (1, .int 4)] → W p l e (ti_rm 38) s m args below meth c H locs 0 0 Q (F0 m 7 ls []) := by
    intro n_25
    induction n_25 with
    | zero => intro x_9 M_12 g_19 d_21 H locs ls hf_25; exact absurd hf_25 (Nat.not_lt_zero _)
    | succ n_25 ih_25 =>
      intro x_9 M_12 g_19 d_21 H locs ls hf_25 b_10 b_11 iM_12 f_13 f_14 f_15 f_16 f_17 f_18 hs_20 tq_22 j_23 j_24 hw hl
      have lg_19_0 : g_19 0 = (tI M_12 2 4).toInt := hs_20.2.1.1
      have lg_19_1 : g_19 1 = (tI M_12 2 6).toInt := hs_20.2.1.2.1
      have lg_19_4 : g_19 4 = (tI M_12 1 4).toInt := hs_20.2.2.1.1
      have lg_19_7 : g_19 7 = (tI M_12 t 4).toInt := hs_20.2.2.2.1.1
      have lg_19_8 : g_19 8 = (tI M_12 t 5).toInt := hs_20.2.2.2.1.2.1
      refine lv_iload_n hx hb dX4_readSum_7 rfl (lv_at hl 0 rfl) ?_
      refine lv_bipush (v := 64) hx hb dX4_readSum_8 (by decide) ?_
      refine sb_icmp_ge (tgt := 69) hx hb rfl (by decide : (64 : Int32).toInt = 64) dX4_readSum_10 (by decide) (fun c_10_25 => ?_) (fun c_10_25 => ?_)
      · exact hQ _ _ _ _ _ hw (⟨iM_12, (f_13), f_14, (f_15), f_16, (by unfold pp_sm; rw [← eg_7, j_23, lp_end (P := pp_qP) (f := 64 - x_9.toInt.toNat) (s := g_19) (Or.inl (by omega))]; exact hs_20), (by unfold qq_sm; rw [← eg_7, ← ed_8, j_24, qlp_end (P := pp_qP) (f := 64 - x_9.toInt.toNat) (s := g_19) (Or.inl (by omega))]; exact tq_22)⟩) dX4_readSum_69
      · refine lv_aload_n hx hb dX4_readSum_13 rfl (lv_at hl 1 rfl) ?_
        refine ti_get (ci := 4) (k := 0) (N := 6) (T := TX4) (v := .ref (A 2 0)) C hw iw_4 rfl ob_1 (by decide) (by decide) fl_X4_12 rfl rfl dX4_readSum_14 ?_
        refine ti_get (ci := 7) (k := 4) (N := 7) (T := TX7) C hw iw_7 rfl ob_2 (by decide) (by decide) fl_X4_41 rfl rfl dX4_readSum_17 ?_
        refine lv_topi (fun x_27 ex_27 => ?_)
        have bx_27 : 0 ≤ x_27.toInt ∧ x_27.toInt ≤ 41 := cI_rd iM_12 ob_2.1 ex_27
        have ux_27 : (tI M_12 2 4).toInt = x_27.toInt := by rw [ex_27]
        refine lv_bipush (v := 38) hx hb dX4_readSum_20 (by decide) ?_
        refine sb_icmp_eq (tgt := 37) hx hb rfl (by decide : (38 : Int32).toInt = 38) dX4_readSum_22 (by decide) (fun c_22_27 => ?_) (fun c_22_27 => ?_)
        · refine lv_aload_n hx hb dX4_readSum_37 rfl (lv_at hl 1 rfl) ?_
          refine ti_get (ci := 4) (k := 0) (N := 6) (T := TX4) (v := .ref (A 2 0)) C hw iw_4 rfl ob_1 (by decide) (by decide) fl_X4_12 rfl rfl dX4_readSum_38 ?_
          refine ti_get (ci := 7) (k := 4) (N := 7) (T := TX7) C hw iw_7 rfl ob_2 (by decide) (by decide) fl_X4_41 rfl rfl dX4_readSum_41 ?_
          refine ti_top (y := x_27) (ex_27.symm) ?_
          have u_31 : (tI M_12 2 4).toInt = (x_27 : Int32).toInt := by rw [(ex_27.symm)]
          refine lv_istore_n (lv' := [(3, .int x_27), (2, .int x_9), (0, .ref (A 1 0)), (1, .int 4)]) hx hb dX4_readSum_44 rfl hl (by decide) rfl (fun ls hl => ?_)
          refine lv_aload_n hx hb dX4_readSum_45 rfl (lv_at hl 2 rfl) ?_
          refine ti_callVvE (ci := 4) (av := []) C hE hw (x_X4_knot l D A cy hJ M_12 iM_12 t ht (f_17) B n g_19 hs_20 d_21 tq_22) ⟨ml_X4_167, ym_X4_knot, yv_X4_knot, yi_X4_knot, yc_X4_knot⟩ yd_X4_knot ob_1 (by decide) rfl rfl hl.1 (Nat.le_of_ble_eq_true rfl) ⟨by decide, by decide⟩ ⟨Nat.zero_le _, Nat.zero_le _⟩ dX4_readSum_46 (fun M_33 H locs hp_33 hw => ?_)
          obtain ⟨iM_33, q_34, q_35, q_36, q_37, q_38, p0r_32, p1r_32⟩ := hp_33
          obtain ⟨g_39, eg_39⟩ : ∃ z : Nat → Int, z = pp_kn B n g_19 := ⟨_, rfl⟩
          rw [← eg_39] at p0r_32
          have lg_39_0 : g_39 0 = (tI M_33 2 4).toInt := p0r_32.2.1.1
          have lg_39_1 : g_39 1 = (tI M_33 2 6).toInt := p0r_32.2.1.2.1
          have lg_39_4 : g_39 4 = (tI M_33 1 4).toInt := p0r_32.2.2.1.1
          have lg_39_7 : g_39 7 = (tI M_33 t 4).toInt := p0r_32.2.2.2.1.1
          have lg_39_8 : g_39 8 = (tI M_33 t 5).toInt := p0r_32.2.2.2.1.2.1
          refine lv_aload_n hx hb dX4_readSum_49 rfl (lv_at hl 2 rfl) ?_
          refine lv_iload_n hx hb dX4_readSum_50 rfl (lv_at hl 3 rfl) ?_
          refine ti_callVvE (ci := 4) (av := [.int 4]) C hE hw (x_X4_readProduct_4 l D A cy hJ M_33 iM_33 t ht ((tT_fr q_34).trans f_17) j hj ((tT_fr q_34).trans f_18) B n g_39 p0r_32 d_21 p1r_32) ⟨ml_X4_184, ym_X4_readProduct, yv_X4_readProduct, yi_X4_readProduct, yc_X4_readProduct⟩ yd_X4_readProduct ob_1 (by decide) rfl rfl hl.1 (Nat.le_of_ble_eq_true rfl) ⟨by decide, by decide⟩ ⟨Nat.zero_le _, Nat.zero_le _⟩ dX4_readSum_51 (fun M_41 H locs hp_41 hw => ?_)
          obtain ⟨iM_41, q_42, q_43, q_44, q_45, p0r_40, p1r_40⟩ := hp_41
          obtain ⟨g_46, eg_46⟩ : ∃ z : Nat → Int, z = pp_pd B n (pp_pt B n 4) g_39 := ⟨_, rfl⟩
          rw [← eg_46] at p0r_40
          have lg_46_0 : g_46 0 = (tI M_41 2 4).toInt := p0r_40.2.1.1
          have lg_46_1 : g_46 1 = (tI M_41 2 6).toInt := p0r_40.2.1.2.1
          have lg_46_4 : g_46 4 = (tI M_41 1 4).toInt := p0r_40.2.2.1.1
          have lg_46_7 : g_46 7 = (tI M_41 t 4).toInt := p0r_40.2.2.2.1.1
          have lg_46_8 : g_46 8 = (tI M_41 t 5).toInt := p0r_40.2.2.2.1.2.1
          obtain ⟨d_47, ed_47⟩ : ∃ z : Nat → Int, z = qq_pd B n j (pp_pt B n 4) (qq_pt B n j 4) g_39 d_21 := ⟨_, rfl⟩
          rw [← ed_47] at p1r_40
          refine lv_aload_n hx hb dX4_readSum_54 rfl (lv_at hl 2 rfl) ?_
          refine ti_get (ci := 4) (k := 2) (N := 6) (T := TX4) (v := .ref (A (ti_laws t j) 0)) C hw iw_4 rfl ob_1 (by decide) (by decide) fl_X4_154 rfl (ti_Tv ((tT_fr q_42).trans ((tT_fr q_34).trans f_18))) dX4_readSum_55 ?_
          refine lv_iload_n hx hb dX4_readSum_58 rfl (lv_at hl 0 rfl) ?_
          refine lv_ineg hx hb dX4_readSum_59 ?_
          refine lv_topi (fun x_48 ex_48 => ?_)
          have tx_48 : x_48.toInt = -x_27.toInt := i_neg ex_48 rfl (by omega)
          refine ti_callVv (ci := 1) (av := [.int x_48]) C hw (x_X1_add l D A cy hJ M_41 iM_41 t ht j hj x_48 (by first | omega | exact Or.inl (by decide) | exact Or.inr (by decide)) B n g_46 p0r_40 d_47 p1r_40) ⟨ml_X4_170, ym_X1_add, yv_X1_add, yi_X1_add, yc_X1_add⟩ yd_X1_add (ob_l ht hj) (by decide) rfl rfl hl.1 (Nat.le_of_ble_eq_true rfl) ⟨by decide, by decide⟩ ⟨Nat.zero_le _, Nat.zero_le _⟩ dX4_readSum_60 (fun M_50 H locs hp_50 hw => ?_)
          obtain ⟨iM_50, q_51, q_52, q_53, p0r_49, p1r_49⟩ := hp_50
          have lM_50_0 : g_46 0 = (tI M_50 2 4).toInt := p0r_49.2.1.1
          have lM_50_1 : g_46 1 = (tI M_50 2 6).toInt := p0r_49.2.1.2.1
          have lM_50_4 : g_46 4 = (tI M_50 1 4).toInt := p0r_49.2.2.1.1
          have lM_50_7 : g_46 7 = (tI M_50 t 4).toInt := p0r_49.2.2.2.1.1
          have lM_50_8 : g_46 8 = (tI M_50 t 5).toInt := p0r_49.2.2.2.1.2.1
          obtain ⟨d_54, ed_54⟩ : ∃ z : Nat → Int, z = qa j x_48.toInt d_47 := ⟨_, rfl⟩
          rw [← ed_54] at p1r_49
          obtain ⟨x_55, ex_55⟩ : ∃ z : Int32, z = x_9 + 1 := ⟨_, rfl⟩
          have tx_55 : x_55.toInt = x_9.toInt + 1 := i_add ex_55 rfl (by decide) (by omega) (by omega)
          refine lv_iinc (v := x_55) (lv' := [(2, .int x_55), (3, .int x_27), (0, .ref (A 1 0)), (1, .int 4)]) hx hb dX4_readSum_63 hl (k := 1) rfl (by rw [ex_55]; rfl) (by decide) rfl (fun ls hl => ?_)
          refine lv_goto (tgt := 7) hx hb dX4_readSum_66 (by decide) ?_
          exact ih_25 x_55 M_50 g_46 d_54 _ _ _ (by omega) (by first | omega | decide) (by first | omega | decide) iM_50 ((q_51).trans ((q_42).trans ((q_34).trans f_13))) (f0.trans (f0_x q_52) (f0.trans q_43 (f0.trans q_35 f_14))) (((q_52 1).2.1).trans ((q_44).trans ((q_36).trans f_15))) (ot.trans q_53 (ot.trans q_45 (ot.trans q_37 f_16))) ((tT_fr q_51).trans ((tT_fr q_42).trans ((tT_fr q_34).trans f_17))) ((tT_fr q_51).trans ((tT_fr q_42).trans ((tT_fr q_34).trans f_18))) p0r_49 p1r_49 (j_23.trans (lp_step (decide_eq_true (by omega)) (by rw [eg_46, eg_39]) (by omega))) (j_24.trans (qlp_step (decide_eq_true (by omega)) (by rw [eg_46, eg_39]) (by rw [ed_54, show x_48.toInt = -(g_19 0) by omega, ed_47, eg_39]) (by omega))) hw (lv_sub hl [0, 2, 3] rfl)
        · refine lv_aload_n hx hb dX4_readSum_25 rfl (lv_at hl 1 rfl) ?_
          refine ti_get (ci := 4) (k := 0) (N := 6) (T := TX4) (v := .ref (A 2 0)) C hw iw_4 rfl ob_1 (by decide) (by decide) fl_X4_12 rfl rfl dX4_readSum_26 ?_
          refine ti_get (ci := 7) (k := 4) (N := 7) (T := TX7) C hw iw_7 rfl ob_2 (by decide) (by decide) fl_X4_41 rfl rfl dX4_readSum_29 ?_
          refine ti_top (y := x_27) (ex_27.symm) ?_
          have u_29 : (tI M_12 2 4).toInt = (x_27 : Int32).toInt := by rw [(ex_27.symm)]
          refine lv_bipush (v := 39) hx hb dX4_readSum_32 (by decide) ?_
          refine sb_icmp_ne (tgt := 69) hx hb rfl (by decide : (39 : Int32).toInt = 39) dX4_readSum_34 (by decide) (fun c_34_29 => ?_) (fun c_34_29 => ?_)
          · exact hQ _ _ _ _ _ hw (⟨iM_12, (f_13), f_14, (f_15), f_16, (by unfold pp_sm; rw [← eg_7, j_23, lp_end (P := pp_qP) (f := 64 - x_9.toInt.toNat) (s := g_19) (Or.inr (decide_eq_false (by omega)))]; exact hs_20), (by unfold qq_sm; rw [← eg_7, ← ed_8, j_24, qlp_end (P := pp_qP) (f := 64 - x_9.toInt.toNat) (s := g_19) (Or.inr (decide_eq_false (by omega)))]; exact tq_22)⟩) dX4_readSum_69
          · refine lv_aload_n hx hb dX4_readSum_37 rfl (lv_at hl 1 rfl) ?_
            refine ti_get (ci := 4) (k := 0) (N := 6) (T := TX4) (v := .ref (A 2 0)) C hw iw_4 rfl ob_1 (by decide) (by decide) fl_X4_12 rfl rfl dX4_readSum_38 ?_
            refine ti_get (ci := 7) (k := 4) (N := 7) (T := TX7) C hw iw_7 rfl ob_2 (by decide) (by decide) fl_X4_41 rfl rfl dX4_readSum_41 ?_
            refine ti_top (y := x_27) (ex_27.symm) ?_
            have u_56 : (tI M_12 2 4).toInt = (x_27 : Int32).toInt := by rw [(ex_27.symm)]
            refine lv_istore_n (lv' := [(3, .int x_27), (2, .int x_9), (0, .ref (A 1 0)), (1, .int 4)]) hx hb dX4_readSum_44 rfl hl (by decide) rfl (fun ls hl => ?_)
            refine lv_aload_n hx hb dX4_readSum_45 rfl (lv_at hl 2 rfl) ?_
            refine ti_callVvE (ci := 4) (av := []) C hE hw (x_X4_knot l D A cy hJ M_12 iM_12 t ht (f_17) B n g_19 hs_20 d_21 tq_22) ⟨ml_X4_167, ym_X4_knot, yv_X4_knot, yi_X4_knot, yc_X4_knot⟩ yd_X4_knot ob_1 (by decide) rfl rfl hl.1 (Nat.le_of_ble_eq_true rfl) ⟨by decide, by decide⟩ ⟨Nat.zero_le _, Nat.zero_le _⟩ dX4_readSum_46 (fun M_58 H locs hp_58 hw => ?_)
            obtain ⟨iM_58, q_59, q_60, q_61, q_62, q_63, p0r_57, p1r_57⟩ := hp_58
            obtain ⟨g_64, eg_64⟩ : ∃ z : Nat → Int, z = pp_kn B n g_19 := ⟨_, rfl⟩
            rw [← eg_64] at p0r_57
            have lg_64_0 : g_64 0 = (tI M_58 2 4).toInt := p0r_57.2.1.1
            have lg_64_1 : g_64 1 = (tI M_58 2 6).toInt := p0r_57.2.1.2.1
            have lg_64_4 : g_64 4 = (tI M_58 1 4).toInt := p0r_57.2.2.1.1
            have lg_64_7 : g_64 7 = (tI M_58 t 4).toInt := p0r_57.2.2.2.1.1
            have lg_64_8 : g_64 8 = (tI M_58 t 5).toInt := p0r_57.2.2.2.1.2.1
            refine lv_aload_n hx hb dX4_readSum_49 rfl (lv_at hl 2 rfl) ?_
            refine lv_iload_n hx hb dX4_readSum_50 rfl (lv_at hl 3 rfl) ?_
            refine ti_callVvE (ci := 4) (av := [.int 4]) C hE hw (x_X4_readProduct_4 l D A cy hJ M_58 iM_58 t ht ((tT_fr q_59).trans f_17) j hj ((tT_fr q_59).trans f_18) B n g_64 p0r_57 d_21 p1r_57) ⟨ml_X4_184, ym_X4_readProduct, yv_X4_readProduct, yi_X4_readProduct, yc_X4_readProduct⟩ yd_X4_readProduct ob_1 (by decide) rfl rfl hl.1 (Nat.le_of_ble_eq_true rfl) ⟨by decide, by decide⟩ ⟨Nat.zero_le _, Nat.zero_le _⟩ dX4_readSum_51 (fun M_66 H locs hp_66 hw => ?_)
            obtain ⟨iM_66, q_67, q_68, q_69, q_70, p0r_65, p1r_65⟩ := hp_66
            obtain ⟨g_71, eg_71⟩ : ∃ z : Nat → Int, z = pp_pd B n (pp_pt B n 4) g_64 := ⟨_, rfl⟩
            rw [← eg_71] at p0r_65
            have lg_71_0 : g_71 0 = (tI M_66 2 4).toInt := p0r_65.2.1.1
            have lg_71_1 : g_71 1 = (tI M_66 2 6).toInt := p0r_65.2.1.2.1
            have lg_71_4 : g_71 4 = (tI M_66 1 4).toInt := p0r_65.2.2.1.1
            have lg_71_7 : g_71 7 = (tI M_66 t 4).toInt := p0r_65.2.2.2.1.1
            have lg_71_8 : g_71 8 = (tI M_66 t 5).toInt := p0r_65.2.2.2.1.2.1
            obtain ⟨d_72, ed_72⟩ : ∃ z : Nat → Int, z = qq_pd B n j (pp_pt B n 4) (qq_pt B n j 4) g_64 d_21 := ⟨_, rfl⟩
            rw [← ed_72] at p1r_65
            refine lv_aload_n hx hb dX4_readSum_54 rfl (lv_at hl 2 rfl) ?_
            refine ti_get (ci := 4) (k := 2) (N := 6) (T := TX4) (v := .ref (A (ti_laws t j) 0)) C hw iw_4 rfl ob_1 (by decide) (by decide) fl_X4_154 rfl (ti_Tv ((tT_fr q_67).trans ((tT_fr q_59).trans f_18))) dX4_readSum_55 ?_
            refine lv_iload_n hx hb dX4_readSum_58 rfl (lv_at hl 0 rfl) ?_
            refine lv_ineg hx hb dX4_readSum_59 ?_
            refine lv_topi (fun x_73 ex_73 => ?_)
            have tx_73 : x_73.toInt = -x_27.toInt := i_neg ex_73 rfl (by omega)
            refine ti_callVv (ci := 1) (av := [.int x_73]) C hw (x_X1_add l D A cy hJ M_66 iM_66 t ht j hj x_73 (by first | omega | exact Or.inl (by decide) | exact Or.inr (by decide)) B n g_71 p0r_65 d_72 p1r_65) ⟨ml_X4_170, ym_X1_add, yv_X1_add, yi_X1_add, yc_X1_add⟩ yd_X1_add (ob_l ht hj) (by decide) rfl rfl hl.1 (Nat.le_of_ble_eq_true rfl) ⟨by decide, by decide⟩ ⟨Nat.zero_le _, Nat.zero_le _⟩ dX4_readSum_60 (fun M_75 H locs hp_75 hw => ?_)
            obtain ⟨iM_75, q_76, q_77, q_78, p0r_74, p1r_74⟩ := hp_75
            have lM_75_0 : g_71 0 = (tI M_75 2 4).toInt := p0r_74.2.1.1
            have lM_75_1 : g_71 1 = (tI M_75 2 6).toInt := p0r_74.2.1.2.1
            have lM_75_4 : g_71 4 = (tI M_75 1 4).toInt := p0r_74.2.2.1.1
            have lM_75_7 : g_71 7 = (tI M_75 t 4).toInt := p0r_74.2.2.2.1.1
            have lM_75_8 : g_71 8 = (tI M_75 t 5).toInt := p0r_74.2.2.2.1.2.1
            obtain ⟨d_79, ed_79⟩ : ∃ z : Nat → Int, z = qa j x_73.toInt d_72 := ⟨_, rfl⟩
            rw [← ed_79] at p1r_74
            obtain ⟨x_80, ex_80⟩ : ∃ z : Int32, z = x_9 + 1 := ⟨_, rfl⟩
            have tx_80 : x_80.toInt = x_9.toInt + 1 := i_add ex_80 rfl (by decide) (by omega) (by omega)
            refine lv_iinc (v := x_80) (lv' := [(2, .int x_80), (3, .int x_27), (0, .ref (A 1 0)), (1, .int 4)]) hx hb dX4_readSum_63 hl (k := 1) rfl (by rw [ex_80]; rfl) (by decide) rfl (fun ls hl => ?_)
            refine lv_goto (tgt := 7) hx hb dX4_readSum_66 (by decide) ?_
            exact ih_25 x_80 M_75 g_71 d_79 _ _ _ (by omega) (by first | omega | decide) (by first | omega | decide) iM_75 ((q_76).trans ((q_67).trans ((q_59).trans f_13))) (f0.trans (f0_x q_77) (f0.trans q_68 (f0.trans q_60 f_14))) (((q_77 1).2.1).trans ((q_69).trans ((q_61).trans f_15))) (ot.trans q_78 (ot.trans q_70 (ot.trans q_62 f_16))) ((tT_fr q_76).trans ((tT_fr q_67).trans ((tT_fr q_59).trans f_17))) ((tT_fr q_76).trans ((tT_fr q_67).trans ((tT_fr q_59).trans f_18))) p0r_74 p1r_74 (j_23.trans (lp_step (decide_eq_true (by omega)) (by rw [eg_71, eg_64]) (by omega))) (j_24.trans (qlp_step (decide_eq_true (by omega)) (by rw [eg_71, eg_64]) (by rw [ed_79, show x_73.toInt = -(g_19 0) by omega, ed_72, eg_64]) (by omega))) hw (lv_sub hl [0, 2, 3] rfl)
  exact hl_7_24 ((64 - 0 : Int).toNat + 1) 0 M_2 g_7 d_8 _ _ _ (Nat.lt_succ_self _) (by have lt0 : (0 : Int32).toInt = 0 := (by decide); first | omega | decide) (by have lt0 : (0 : Int32).toInt = 0 := (by decide); first | omega | decide) iM_2 (q_3) q_4 (q_5) q_6 ((tT_fr q_3).trans hT) ((tT_fr q_3).trans hL) p0r_1 p1r_1 rfl rfl hw (lv_sub hl [0, 1, 2] rfl)
set_option maxHeartbeats 4000000 in
set_option maxRecDepth 100000 in
theorem x_X4_readComparison_4 (l : Launch) (D : va_G) (A : Nat → Nat → Nat) (cy : Nat → ClassId) (hJ : ti_inj ti_LT A) (M : ti_M) (hI : cI Tc M) (t : Nat) (ht : t = 3 ∨ t = 4) (hT : tT M 1 1 = some t) (j : Nat) (hj : j < 3) (hL : tT M 1 2 = some (ti_laws t j)) (B : Nat → Int) (n : Nat) (rg : Nat → Int) (hr : rC B n t rg M) (td : Nat → Int) (hq : tq t td M) : ti_KvE l yX4_readComparison cX4_readComparison 3 39 ti_LT D A cy M [.ref (A 1 0), .int 4] (fun M2 => cI Tc M2 ∧ M2.2.2.2 = M.2.2.2 ∧ f0 M2 M ∧ tI M2 2 1 = tI M 2 1 ∧ ot t M2 M ∧ rC B n t (pp_cm B n (pp_pt B n 4) rg) M2 ∧ tq t (qq_cm B n j (pp_pt B n 4) (qq_pt B n j 4) rg td) M2) := by
  refine ti_eVE yp_X4_readComparison hJ ti_LT_nd (Nat.le_of_ble_eq_true rfl) ?_
  intro p e s m args below meth c Q H0 C hE hQ hw ls hl
  have hx := C.1
  have hb := C.2.1
  have hl : lv_has ls 3 [(0, .ref (A 1 0)), (1, .int 4)] := hl
  have l0 : rg 0 = (tI M 2 4).toInt := hr.2.1.1
  have l1 : rg 1 = (tI M 2 6).toInt := hr.2.1.2.1
  have l2 : rg 2 = (tI M 2 5).toInt := hr.2.1.2.2.1
  have l3 : rg 3 = (tI M 2 3).toInt := hr.2.1.2.2.2
  have l4 : rg 4 = (tI M 1 4).toInt := hr.2.2.1.1
  have l5 : rg 5 = (tI M 1 5).toInt := hr.2.2.1.2.1
  have l7 : rg 7 = (tI M t 4).toInt := hr.2.2.2.1.1
  have l8 : rg 8 = (tI M t 5).toInt := hr.2.2.2.1.2.1
  have l9 : rg 9 = (tI M t 3).toInt := hr.2.2.2.1.2.2
  refine lv_aload_n hx hb dX4_readComparison_0 rfl (lv_at hl 0 rfl) ?_
  refine lv_iload_n hx hb dX4_readComparison_1 rfl (lv_at hl 1 rfl) ?_
  refine ti_callVvE (ci := 4) (av := [.int 4]) C hE hw (x_X4_readSum_4 l D A cy hJ M hI t ht (hT) j hj (hL) B n rg hr td hq) ⟨ml_X4_181, ym_X4_readSum, yv_X4_readSum, yi_X4_readSum, yc_X4_readSum⟩ yd_X4_readSum ob_1 (by decide) rfl rfl hl.1 (Nat.le_of_ble_eq_true rfl) ⟨by decide, by decide⟩ ⟨Nat.zero_le _, Nat.zero_le _⟩ dX4_readComparison_2 (fun M_2 H locs hp_2 hw => ?_)
  obtain ⟨iM_2, q_3, q_4, q_5, q_6, p0r_1, p1r_1⟩ := hp_2
  obtain ⟨g_7, eg_7⟩ : ∃ z : Nat → Int, z = pp_sm B n (pp_pt B n 4) rg := ⟨_, rfl⟩
  rw [← eg_7] at p0r_1
  have lg_7_0 : g_7 0 = (tI M_2 2 4).toInt := p0r_1.2.1.1
  have lg_7_1 : g_7 1 = (tI M_2 2 6).toInt := p0r_1.2.1.2.1
  have lg_7_4 : g_7 4 = (tI M_2 1 4).toInt := p0r_1.2.2.1.1
  have lg_7_7 : g_7 7 = (tI M_2 t 4).toInt := p0r_1.2.2.2.1.1
  have lg_7_8 : g_7 8 = (tI M_2 t 5).toInt := p0r_1.2.2.2.1.2.1
  obtain ⟨d_8, ed_8⟩ : ∃ z : Nat → Int, z = qq_sm B n j (pp_pt B n 4) (qq_pt B n j 4) rg td := ⟨_, rfl⟩
  rw [← ed_8] at p1r_1
  refine lv_aload_n hx hb dX4_readComparison_5 rfl (lv_at hl 0 rfl) ?_
  refine ti_get (ci := 4) (k := 0) (N := 6) (T := TX4) (v := .ref (A 2 0)) C hw iw_4 rfl ob_1 (by decide) (by decide) fl_X4_12 rfl rfl dX4_readComparison_6 ?_
  refine ti_get (ci := 7) (k := 4) (N := 7) (T := TX7) C hw iw_7 rfl ob_2 (by decide) (by decide) fl_X4_41 rfl rfl dX4_readComparison_9 ?_
  refine lv_topi (fun x_9 ex_9 => ?_)
  have bx_9 : 0 ≤ x_9.toInt ∧ x_9.toInt ≤ 41 := cI_rd iM_2 ob_2.1 ex_9
  have ux_9 : (tI M_2 2 4).toInt = x_9.toInt := by rw [ex_9]
  refine lv_istore_n (lv' := [(2, .int x_9), (0, .ref (A 1 0)), (1, .int 4)]) hx hb dX4_readComparison_12 rfl hl (by decide) rfl (fun ls hl => ?_)
  refine lv_iload_n hx hb dX4_readComparison_13 rfl (lv_at hl 0 rfl) ?_
  refine lv_bipush (v := 32) hx hb dX4_readComparison_14 (by decide) ?_
  refine sb_icmp_lt (tgt := 43) hx hb rfl (by decide : (32 : Int32).toInt = 32) dX4_readComparison_16 (by decide) (fun c_16_9 => ?_) (fun c_16_9 => ?_)
  · exact hQ _ _ _ _ _ hw (⟨iM_2, (q_3), q_4, (q_5), q_6, (by unfold pp_cm; rw [← eg_7]; unfold pp_c2; rw [if_neg (fun q => by omega)]; exact p0r_1), (by unfold qq_cm; rw [← eg_7, ← ed_8]; unfold qq_c2; rw [if_neg (fun q => by omega)]; exact p1r_1)⟩) dX4_readComparison_43
  · refine lv_iload_n hx hb dX4_readComparison_19 rfl (lv_at hl 0 rfl) ?_
    refine lv_bipush (v := 37) hx hb dX4_readComparison_20 (by decide) ?_
    refine sb_icmp_gt (tgt := 43) hx hb rfl (by decide : (37 : Int32).toInt = 37) dX4_readComparison_22 (by decide) (fun c_22_10 => ?_) (fun c_22_10 => ?_)
    · exact hQ _ _ _ _ _ hw (⟨iM_2, (q_3), q_4, (q_5), q_6, (by unfold pp_cm; rw [← eg_7]; unfold pp_c2; rw [if_neg (fun q => by omega)]; exact p0r_1), (by unfold qq_cm; rw [← eg_7, ← ed_8]; unfold qq_c2; rw [if_neg (fun q => by omega)]; exact p1r_1)⟩) dX4_readComparison_43
    · refine lv_aload_n hx hb dX4_readComparison_25 rfl (lv_at hl 1 rfl) ?_
      refine ti_callVvE (ci := 4) (av := []) C hE hw (x_X4_knot l D A cy hJ M_2 iM_2 t ht ((tT_fr q_3).trans hT) B n g_7 p0r_1 d_8 p1r_1) ⟨ml_X4_167, ym_X4_knot, yv_X4_knot, yi_X4_knot, yc_X4_knot⟩ yd_X4_knot ob_1 (by decide) rfl rfl hl.1 (Nat.le_of_ble_eq_true rfl) ⟨by decide, by decide⟩ ⟨Nat.zero_le _, Nat.zero_le _⟩ dX4_readComparison_26 (fun M_13 H locs hp_13 hw => ?_)
      obtain ⟨iM_13, q_14, q_15, q_16, q_17, q_18, p0r_12, p1r_12⟩ := hp_13
      obtain ⟨g_19, eg_19⟩ : ∃ z : Nat → Int, z = pp_kn B n g_7 := ⟨_, rfl⟩
      rw [← eg_19] at p0r_12
      have lg_19_0 : g_19 0 = (tI M_13 2 4).toInt := p0r_12.2.1.1
      have lg_19_1 : g_19 1 = (tI M_13 2 6).toInt := p0r_12.2.1.2.1
      have lg_19_4 : g_19 4 = (tI M_13 1 4).toInt := p0r_12.2.2.1.1
      have lg_19_7 : g_19 7 = (tI M_13 t 4).toInt := p0r_12.2.2.2.1.1
      have lg_19_8 : g_19 8 = (tI M_13 t 5).toInt := p0r_12.2.2.2.1.2.1
      refine lv_aload_n hx hb dX4_readComparison_29 rfl (lv_at hl 1 rfl) ?_
      refine lv_iload_n hx hb dX4_readComparison_30 rfl (lv_at hl 2 rfl) ?_
      refine ti_callVvE (ci := 4) (av := [.int 4]) C hE hw (x_X4_readSum_4 l D A cy hJ M_13 iM_13 t ht ((tT_fr q_14).trans ((tT_fr q_3).trans hT)) j hj ((tT_fr q_14).trans ((tT_fr q_3).trans hL)) B n g_19 p0r_12 d_8 p1r_12) ⟨ml_X4_181, ym_X4_readSum, yv_X4_readSum, yi_X4_readSum, yc_X4_readSum⟩ yd_X4_readSum ob_1 (by decide) rfl rfl hl.1 (Nat.le_of_ble_eq_true rfl) ⟨by decide, by decide⟩ ⟨Nat.zero_le _, Nat.zero_le _⟩ dX4_readComparison_31 (fun M_21 H locs hp_21 hw => ?_)
      obtain ⟨iM_21, q_22, q_23, q_24, q_25, p0r_20, p1r_20⟩ := hp_21
      obtain ⟨g_26, eg_26⟩ : ∃ z : Nat → Int, z = pp_sm B n (pp_pt B n 4) g_19 := ⟨_, rfl⟩
      rw [← eg_26] at p0r_20
      have lg_26_0 : g_26 0 = (tI M_21 2 4).toInt := p0r_20.2.1.1
      have lg_26_1 : g_26 1 = (tI M_21 2 6).toInt := p0r_20.2.1.2.1
      have lg_26_4 : g_26 4 = (tI M_21 1 4).toInt := p0r_20.2.2.1.1
      have lg_26_7 : g_26 7 = (tI M_21 t 4).toInt := p0r_20.2.2.2.1.1
      have lg_26_8 : g_26 8 = (tI M_21 t 5).toInt := p0r_20.2.2.2.1.2.1
      obtain ⟨d_27, ed_27⟩ : ∃ z : Nat → Int, z = qq_sm B n j (pp_pt B n 4) (qq_pt B n j 4) g_19 d_8 := ⟨_, rfl⟩
      rw [← ed_27] at p1r_20
      refine lv_aload_n hx hb dX4_readComparison_34 rfl (lv_at hl 1 rfl) ?_
      refine ti_get (ci := 4) (k := 2) (N := 6) (T := TX4) (v := .ref (A (ti_laws t j) 0)) C hw iw_4 rfl ob_1 (by decide) (by decide) fl_X4_154 rfl (ti_Tv ((tT_fr q_22).trans ((tT_fr q_14).trans ((tT_fr q_3).trans hL)))) dX4_readComparison_35 ?_
      refine lv_iload_n hx hb dX4_readComparison_38 rfl (lv_at hl 0 rfl) ?_
      refine lv_ineg hx hb dX4_readComparison_39 ?_
      refine lv_topi (fun x_28 ex_28 => ?_)
      have tx_28 : x_28.toInt = -x_9.toInt := i_neg ex_28 rfl (by omega)
      refine ti_callVv (ci := 1) (av := [.int x_28]) C hw (x_X1_add l D A cy hJ M_21 iM_21 t ht j hj x_28 (by first | omega | exact Or.inl (by decide) | exact Or.inr (by decide)) B n g_26 p0r_20 d_27 p1r_20) ⟨ml_X4_170, ym_X1_add, yv_X1_add, yi_X1_add, yc_X1_add⟩ yd_X1_add (ob_l ht hj) (by decide) rfl rfl hl.1 (Nat.le_of_ble_eq_true rfl) ⟨by decide, by decide⟩ ⟨Nat.zero_le _, Nat.zero_le _⟩ dX4_readComparison_40 (fun M_30 H locs hp_30 hw => ?_)
      obtain ⟨iM_30, q_31, q_32, q_33, p0r_29, p1r_29⟩ := hp_30
      have lM_30_0 : g_26 0 = (tI M_30 2 4).toInt := p0r_29.2.1.1
      have lM_30_1 : g_26 1 = (tI M_30 2 6).toInt := p0r_29.2.1.2.1
      have lM_30_4 : g_26 4 = (tI M_30 1 4).toInt := p0r_29.2.2.1.1
      have lM_30_7 : g_26 7 = (tI M_30 t 4).toInt := p0r_29.2.2.2.1.1
      have lM_30_8 : g_26 8 = (tI M_30 t 5).toInt := p0r_29.2.2.2.1.2.1
      obtain ⟨d_34, ed_34⟩ : ∃ z : Nat → Int, z = qa j x_28.toInt d_27 := ⟨_, rfl⟩
      rw [← ed_34] at p1r_29
      exact hQ _ _ _ _ _ hw (⟨iM_30, ((q_31).trans ((q_22).trans ((q_14).trans q_3))), (f0.trans (f0_x q_32) (f0.trans q_23 (f0.trans q_15 q_4))), (((q_32 1).2.1).trans ((q_24).trans ((q_16).trans q_5))), (ot.trans q_33 (ot.trans q_25 (ot.trans q_17 q_6))), (by unfold pp_cm; rw [← eg_7]; unfold pp_c2; rw [if_pos ⟨by omega, by omega⟩, ← eg_19, ← eg_26]; exact p0r_29), (by unfold qq_cm; rw [← eg_7, ← ed_8]; unfold qq_c2; rw [if_pos ⟨by omega, by omega⟩, ← eg_19, ← ed_27, show -(g_7 0) = x_28.toInt by omega, ← ed_34]; exact p1r_29)⟩) dX4_readComparison_43
set_option maxHeartbeats 4000000 in
set_option maxRecDepth 100000 in
theorem x_X4_readNegated_4 (l : Launch) (D : va_G) (A : Nat → Nat → Nat) (cy : Nat → ClassId) (hJ : ti_inj ti_LT A) (M : ti_M) (hI : cI Tc M) (t : Nat) (ht : t = 3 ∨ t = 4) (hT : tT M 1 1 = some t) (j : Nat) (hj : j < 3) (hL : tT M 1 2 = some (ti_laws t j)) (B : Nat → Int) (n : Nat) (rg : Nat → Int) (hr : rC B n t rg M) (td : Nat → Int) (hq : tq t td M) : ti_KvE l yX4_readNegated cX4_readNegated 4 40 ti_LT D A cy M [.ref (A 1 0), .int 4] (fun M2 => cI Tc M2 ∧ M2.2.2.2 = M.2.2.2 ∧ f0 M2 M ∧ tI M2 2 1 = tI M 2 1 ∧ ot t M2 M ∧ rC B n t (pp_ng B n (pp_pt B n 4) rg) M2 ∧ tq t (qq_ng B n j (pp_pt B n 4) (qq_pt B n j 4) rg td) M2) := by
  refine ti_eVE yp_X4_readNegated hJ ti_LT_nd (Nat.le_of_ble_eq_true rfl) ?_
  intro p e s m args below meth c Q H0 C hE hQ hw ls hl
  have hx := C.1
  have hb := C.2.1
  have hl : lv_has ls 4 [(0, .ref (A 1 0)), (1, .int 4)] := hl
  have l0 : rg 0 = (tI M 2 4).toInt := hr.2.1.1
  have l1 : rg 1 = (tI M 2 6).toInt := hr.2.1.2.1
  have l2 : rg 2 = (tI M 2 5).toInt := hr.2.1.2.2.1
  have l3 : rg 3 = (tI M 2 3).toInt := hr.2.1.2.2.2
  have l4 : rg 4 = (tI M 1 4).toInt := hr.2.2.1.1
  have l5 : rg 5 = (tI M 1 5).toInt := hr.2.2.1.2.1
  have l7 : rg 7 = (tI M t 4).toInt := hr.2.2.2.1.1
  have l8 : rg 8 = (tI M t 5).toInt := hr.2.2.2.1.2.1
  have l9 : rg 9 = (tI M t 3).toInt := hr.2.2.2.1.2.2
  refine lv_iconst (v := 0) hx hb dX4_readNegated_0 (by decide) ?_
  refine lv_istore_n (lv' := [(2, .int 0), (0, .ref (A 1 0)), (1, .int 4)]) hx hb dX4_readNegated_1 rfl hl (by decide) rfl (fun ls hl => ?_)
  have hl_2_17 : ∀ (n_18 : Nat) (x_1 : Int32) (M_4 : ti_M) (g_11 : Nat → Int) (d_13 : Nat → Int) (H : Heap) (locs : List Loc) (ls : Array Slot), (65 - x_1.toInt : Int).toNat < n_18 → (0 ≤ x_1.toInt) → (x_1.toInt ≤ 65) → (cI Tc M_4) → (M_4.2.2.2 = M.2.2.2) → (f0 M_4 M) → (tI M_4 2 1 = tI M 2 1) → (ot t M_4 M) → (tT M_4 1 1 = (some t)) → (tT M_4 1 2 = (some (ti_laws t j))) → (rC B n t g_11 M_4) → (tq t d_13 M_4) → (pp_lp pp_qN (pp_kn B n) 65 rg = pp_lp pp_qN (pp_kn B n) (65 - (x_1.toInt).toNat) g_11) → (qq_ca B n 65 rg 0 = qq_ca B n (65 - (x_1.toInt).toNat) g_11 (x_1.toInt).toNat) → (td = d_13) → ti_H ti_LT D A cy H0 M_4 H locs → lv_has ls 4 [(2, .int x_1), (0, .ref (A 1 0)), (1, .int 4)] → W p l e (ti_rm 40) s m args below meth c H locs 0 0 Q (F0 m 2 ls []) := by
    intro n_18
    induction n_18 with
    | zero => intro x_1 M_4 g_11 d_13 H locs ls hf_18; exact absurd hf_18 (Nat.not_lt_zero _)
    | succ n_18 ih_18 =>
      intro x_1 M_4 g_11 d_13 H locs ls hf_18 b_2 b_3 iM_4 f_5 f_6 f_7 f_8 f_9 f_10 hs_12 tq_14 j_15 j_16 j_17 hw hl
      have lg_11_0 : g_11 0 = (tI M_4 2 4).toInt := hs_12.2.1.1
      have lg_11_1 : g_11 1 = (tI M_4 2 6).toInt := hs_12.2.1.2.1
      have lg_11_4 : g_11 4 = (tI M_4 1 4).toInt := hs_12.2.2.1.1
      have lg_11_7 : g_11 7 = (tI M_4 t 4).toInt := hs_12.2.2.2.1.1
      have lg_11_8 : g_11 8 = (tI M_4 t 5).toInt := hs_12.2.2.2.1.2.1
      refine lv_iload_n hx hb dX4_readNegated_2 rfl (lv_at hl 0 rfl) ?_
      refine lv_bipush (v := 64) hx hb dX4_readNegated_3 (by decide) ?_
      have hj_30_33 : ∀  (H : Heap) (locs : List Loc) (ls : Array Slot), (pp_lp pp_qN (pp_kn B n) 65 rg = g_11) → (qq_ca B n 65 rg 0 = (x_1.toInt).toNat) → (td = d_13) → ti_H ti_LT D A cy H0 M_4 H locs → lv_has ls 4 [(2, .int x_1), (0, .ref (A 1 0)), (1, .int 4)] → W p l e (ti_rm 40) s m args below meth c H locs 0 0 Q (F0 m 30 ls []) := by
        intro  H locs ls j_31 j_32 j_33 hw hl
        have lg_11_0 : g_11 0 = (tI M_4 2 4).toInt := hs_12.2.1.1
        have lg_11_1 : g_11 1 = (tI M_4 2 6).toInt := hs_12.2.1.2.1
        have lg_11_4 : g_11 4 = (tI M_4 1 4).toInt := hs_12.2.2.1.1
        have lg_11_7 : g_11 7 = (tI M_4 t 4).toInt := hs_12.2.2.2.1.1
        have lg_11_8 : g_11 8 = (tI M_4 t 5).toInt := hs_12.2.2.2.1.2.1
        refine lv_aload_n hx hb dX4_readNegated_30 rfl (lv_at hl 1 rfl) ?_
        refine lv_iload_n hx hb dX4_readNegated_31 rfl (lv_at hl 2 rfl) ?_
        refine ti_callVvE (ci := 4) (av := [.int 4]) C hE hw (x_X4_readComparison_4 l D A cy hJ M_4 iM_4 t ht (f_9) j hj (f_10) B n g_11 hs_12 d_13 tq_14) ⟨ml_X4_178, ym_X4_readComparison, yv_X4_readComparison, yi_X4_readComparison, yc_X4_readComparison⟩ yd_X4_readComparison ob_1 (by decide) rfl rfl hl.1 (Nat.le_of_ble_eq_true rfl) ⟨by decide, by decide⟩ ⟨Nat.zero_le _, Nat.zero_le _⟩ dX4_readNegated_32 (fun M_35 H locs hp_35 hw => ?_)
        obtain ⟨iM_35, q_36, q_37, q_38, q_39, p0r_34, p1r_34⟩ := hp_35
        obtain ⟨g_40, eg_40⟩ : ∃ z : Nat → Int, z = pp_cm B n (pp_pt B n 4) g_11 := ⟨_, rfl⟩
        rw [← eg_40] at p0r_34
        have lg_40_0 : g_40 0 = (tI M_35 2 4).toInt := p0r_34.2.1.1
        have lg_40_1 : g_40 1 = (tI M_35 2 6).toInt := p0r_34.2.1.2.1
        have lg_40_4 : g_40 4 = (tI M_35 1 4).toInt := p0r_34.2.2.1.1
        have lg_40_7 : g_40 7 = (tI M_35 t 4).toInt := p0r_34.2.2.2.1.1
        have lg_40_8 : g_40 8 = (tI M_35 t 5).toInt := p0r_34.2.2.2.1.2.1
        obtain ⟨d_41, ed_41⟩ : ∃ z : Nat → Int, z = qq_cm B n j (pp_pt B n 4) (qq_pt B n j 4) g_11 d_13 := ⟨_, rfl⟩
        rw [← ed_41] at p1r_34
        have EM : pp_ng B n (pp_pt B n 4) rg = g_40 := by unfold pp_ng; rw [j_31, ← eg_40]
        have ET : qq_ng B n j (pp_pt B n 4) (qq_pt B n j 4) rg td = qq_na j x_1.toInt.toNat d_41 := by unfold qq_ng; rw [j_32, j_31, show td = d_13 from j_33, ← ed_41]
        refine lv_iconst (v := 0) hx hb dX4_readNegated_35 (by decide) ?_
        refine lv_istore_n (lv' := [(3, .int 0), (2, .int x_1), (0, .ref (A 1 0)), (1, .int 4)]) hx hb dX4_readNegated_36 rfl hl (by decide) rfl (fun ls hl => ?_)
        have hl_37_58 : ∀ (n_59 : Nat) (x_42 : Int32) (M_45 : ti_M) (g_52 : Nat → Int) (d_54 : Nat → Int) (H : Heap) (locs : List Loc) (ls : Array Slot), (65 - x_42.toInt : Int).toNat < n_59 → (0 ≤ x_42.toInt) → (x_42.toInt ≤ 65) → (cI Tc M_45) → (M_45.2.2.2 = M.2.2.2) → (f0 M_45 M) → (tI M_45 2 1 = tI M 2 1) → (ot t M_45 M) → (tT M_45 1 1 = (some t)) → (tT M_45 1 2 = (some (ti_laws t j))) → (rC B n t g_52 M_45) → (tq t d_54 M_45) → (g_40 = g_52) → (qq_na j (x_42.toInt).toNat d_41 = d_54) → (x_42.toInt ≤ x_1.toInt) → ti_H ti_LT D A cy H0 M_45 H locs → lv_has ls 4 [(3, .int x_42), (2, .int x_1), (0, .ref (A 1 0)), (1, .int 4)] → W p l e (ti_rm 40) s m args below meth c H locs 0 0 Q (F0 m 37 ls []) := by
          intro n_59
          induction n_59 with
          | zero => intro x_42 M_45 g_52 d_54 H locs ls hf_59; exact absurd hf_59 (Nat.not_lt_zero _)
          | succ n_59 ih_59 =>
            intro x_42 M_45 g_52 d_54 H locs ls hf_59 b_43 b_44 iM_45 f_46 f_47 f_48 f_49 f_50 f_51 hs_53 tq_55 j_56 j_57 j_58 hw hl
            have lg_52_0 : g_52 0 = (tI M_45 2 4).toInt := hs_53.2.1.1
            have lg_52_1 : g_52 1 = (tI M_45 2 6).toInt := hs_53.2.1.2.1
            have lg_52_4 : g_52 4 = (tI M_45 1 4).toInt := hs_53.2.2.1.1
            have lg_52_7 : g_52 7 = (tI M_45 t 4).toInt := hs_53.2.2.2.1.1
            have lg_52_8 : g_52 8 = (tI M_45 t 5).toInt := hs_53.2.2.2.1.2.1
            refine lv_iload_n hx hb dX4_readNegated_37 rfl (lv_at hl 0 rfl) ?_
            refine lv_iload_n hx hb dX4_readNegated_38 rfl (lv_at hl 1 rfl) ?_
            refine sb_icmp_ge (tgt := 57) hx hb rfl rfl dX4_readNegated_39 (by decide) (fun c_39_59 => ?_) (fun c_39_59 => ?_)
            · exact hQ _ _ _ _ _ hw (⟨iM_45, (f_46), f_47, (f_48), f_49, (by rw [EM, j_56]; exact hs_53), (by rw [ET, show x_1.toInt.toNat = x_42.toInt.toNat by omega, j_57]; exact tq_55)⟩) dX4_readNegated_57
            · refine lv_aload_n hx hb dX4_readNegated_42 rfl (lv_at hl 2 rfl) ?_
              refine ti_get (ci := 4) (k := 2) (N := 6) (T := TX4) (v := .ref (A (ti_laws t j) 0)) C hw iw_4 rfl ob_1 (by decide) (by decide) fl_X4_154 rfl (ti_Tv (f_51)) dX4_readNegated_43 ?_
              refine lv_bipush (v := (-24)) hx hb dX4_readNegated_46 (by decide) ?_
              refine ti_callVv (ci := 1) (av := [.int (-24)]) C hw (x_X1_add l D A cy hJ M_45 iM_45 t ht j hj (-24) (by first | omega | exact Or.inl (by decide) | exact Or.inr (by decide)) B n g_52 hs_53 d_54 tq_55) ⟨ml_X4_170, ym_X1_add, yv_X1_add, yi_X1_add, yc_X1_add⟩ yd_X1_add (ob_l ht hj) (by decide) rfl rfl hl.1 (Nat.le_of_ble_eq_true rfl) ⟨by decide, by decide⟩ ⟨Nat.zero_le _, Nat.zero_le _⟩ dX4_readNegated_48 (fun M_62 H locs hp_62 hw => ?_)
              obtain ⟨iM_62, q_63, q_64, q_65, p0r_61, p1r_61⟩ := hp_62
              have lM_62_0 : g_52 0 = (tI M_62 2 4).toInt := p0r_61.2.1.1
              have lM_62_1 : g_52 1 = (tI M_62 2 6).toInt := p0r_61.2.1.2.1
              have lM_62_4 : g_52 4 = (tI M_62 1 4).toInt := p0r_61.2.2.1.1
              have lM_62_7 : g_52 7 = (tI M_62 t 4).toInt := p0r_61.2.2.2.1.1
              have lM_62_8 : g_52 8 = (tI M_62 t 5).toInt := p0r_61.2.2.2.1.2.1
              simp only [show ((-24) : Int32).toInt = (-24) by decide] at p1r_61
              obtain ⟨d_66, ed_66⟩ : ∃ z : Nat → Int, z = qa j (-24) d_54 := ⟨_, rfl⟩
              rw [← ed_66] at p1r_61
              obtain ⟨x_67, ex_67⟩ : ∃ z : Int32, z = x_42 + 1 := ⟨_, rfl⟩
              have tx_67 : x_67.toInt = x_42.toInt + 1 := i_add ex_67 rfl (by decide) (by omega) (by omega)
              refine lv_iinc (v := x_67) (lv' := [(3, .int x_67), (2, .int x_1), (0, .ref (A 1 0)), (1, .int 4)]) hx hb dX4_readNegated_51 hl (k := 0) rfl (by rw [ex_67]; rfl) (by decide) rfl (fun ls hl => ?_)
              refine lv_goto (tgt := 37) hx hb dX4_readNegated_54 (by decide) ?_
              exact ih_59 x_67 M_62 g_52 d_66 _ _ _ (by omega) (by first | omega | decide) (by first | omega | decide) iM_62 ((q_63).trans f_46) (f0.trans (f0_x q_64) f_47) (((q_64 1).2.1).trans f_48) (ot.trans q_65 f_49) ((tT_fr q_63).trans f_50) ((tT_fr q_63).trans f_51) p0r_61 p1r_61 j_56 (by rw [show x_67.toInt.toNat = x_42.toInt.toNat + 1 by omega, ed_66, ← j_57]; rfl) (by first | omega | decide) hw (lv_sub hl [0, 1, 2, 3] rfl)
        exact hl_37_58 ((65 - 0 : Int).toNat + 1) 0 M_35 g_40 d_41 _ _ _ (Nat.lt_succ_self _) (by have lt0 : (0 : Int32).toInt = 0 := (by decide); first | omega | decide) (by have lt0 : (0 : Int32).toInt = 0 := (by decide); first | omega | decide) iM_35 ((q_36).trans f_5) (f0.trans q_37 f_6) ((q_38).trans f_7) (ot.trans q_39 f_8) ((tT_fr q_36).trans f_9) ((tT_fr q_36).trans f_10) p0r_34 p1r_34 rfl rfl (by have lt0 : (0 : Int32).toInt = 0 := (by decide); first | omega | decide) hw (lv_sub hl [0, 1, 2, 3] rfl)
      refine sb_icmp_gt (tgt := 30) hx hb rfl (by decide : (64 : Int32).toInt = 64) dX4_readNegated_5 (by decide) (fun c_5_18 => ?_) (fun c_5_18 => ?_)
      · exact hj_30_33  _ _ _ (by rw [j_15, lp_end (P := pp_qN) (f := 65 - x_1.toInt.toNat) (s := g_11) (Or.inl (by omega))]) (by rw [j_16, ca_end (f := 65 - x_1.toInt.toNat) (s := g_11) (Or.inl (by omega))]) j_17 hw (lv_sub hl [0, 1, 2] rfl)
      · refine lv_aload_n hx hb dX4_readNegated_8 rfl (lv_at hl 1 rfl) ?_
        refine ti_get (ci := 4) (k := 0) (N := 6) (T := TX4) (v := .ref (A 2 0)) C hw iw_4 rfl ob_1 (by decide) (by decide) fl_X4_12 rfl rfl dX4_readNegated_9 ?_
        refine ti_get (ci := 7) (k := 4) (N := 7) (T := TX7) C hw iw_7 rfl ob_2 (by decide) (by decide) fl_X4_41 rfl rfl dX4_readNegated_12 ?_
        refine lv_topi (fun x_20 ex_20 => ?_)
        have bx_20 : 0 ≤ x_20.toInt ∧ x_20.toInt ≤ 41 := cI_rd iM_4 ob_2.1 ex_20
        have ux_20 : (tI M_4 2 4).toInt = x_20.toInt := by rw [ex_20]
        refine lv_bipush (v := 24) hx hb dX4_readNegated_15 (by decide) ?_
        refine sb_icmp_ne (tgt := 30) hx hb rfl (by decide : (24 : Int32).toInt = 24) dX4_readNegated_17 (by decide) (fun c_17_20 => ?_) (fun c_17_20 => ?_)
        · exact hj_30_33  _ _ _ (by rw [j_15, lp_end (P := pp_qN) (f := 65 - x_1.toInt.toNat) (s := g_11) (Or.inr (decide_eq_false (by omega)))]) (by rw [j_16, ca_end (f := 65 - x_1.toInt.toNat) (s := g_11) (Or.inr (decide_eq_false (by omega)))]) j_17 hw (lv_sub hl [0, 1, 2] rfl)
        · refine lv_aload_n hx hb dX4_readNegated_20 rfl (lv_at hl 1 rfl) ?_
          refine ti_callVvE (ci := 4) (av := []) C hE hw (x_X4_knot l D A cy hJ M_4 iM_4 t ht (f_9) B n g_11 hs_12 d_13 tq_14) ⟨ml_X4_167, ym_X4_knot, yv_X4_knot, yi_X4_knot, yc_X4_knot⟩ yd_X4_knot ob_1 (by decide) rfl rfl hl.1 (Nat.le_of_ble_eq_true rfl) ⟨by decide, by decide⟩ ⟨Nat.zero_le _, Nat.zero_le _⟩ dX4_readNegated_21 (fun M_23 H locs hp_23 hw => ?_)
          obtain ⟨iM_23, q_24, q_25, q_26, q_27, q_28, p0r_22, p1r_22⟩ := hp_23
          obtain ⟨g_29, eg_29⟩ : ∃ z : Nat → Int, z = pp_kn B n g_11 := ⟨_, rfl⟩
          rw [← eg_29] at p0r_22
          have lg_29_0 : g_29 0 = (tI M_23 2 4).toInt := p0r_22.2.1.1
          have lg_29_1 : g_29 1 = (tI M_23 2 6).toInt := p0r_22.2.1.2.1
          have lg_29_4 : g_29 4 = (tI M_23 1 4).toInt := p0r_22.2.2.1.1
          have lg_29_7 : g_29 7 = (tI M_23 t 4).toInt := p0r_22.2.2.2.1.1
          have lg_29_8 : g_29 8 = (tI M_23 t 5).toInt := p0r_22.2.2.2.1.2.1
          obtain ⟨x_30, ex_30⟩ : ∃ z : Int32, z = x_1 + 1 := ⟨_, rfl⟩
          have tx_30 : x_30.toInt = x_1.toInt + 1 := i_add ex_30 rfl (by decide) (by omega) (by omega)
          refine lv_iinc (v := x_30) (lv' := [(2, .int x_30), (0, .ref (A 1 0)), (1, .int 4)]) hx hb dX4_readNegated_24 hl (k := 0) rfl (by rw [ex_30]; rfl) (by decide) rfl (fun ls hl => ?_)
          refine lv_goto (tgt := 2) hx hb dX4_readNegated_27 (by decide) ?_
          exact ih_18 x_30 M_23 g_29 d_13 _ _ _ (by omega) (by first | omega | decide) (by first | omega | decide) iM_23 ((q_24).trans f_5) (f0.trans q_25 f_6) ((q_26).trans f_7) (ot.trans q_27 f_8) ((tT_fr q_24).trans f_9) ((tT_fr q_24).trans f_10) p0r_22 p1r_22 (j_15.trans (lp_step (decide_eq_true (by omega)) (by rw [eg_29]) (by omega))) (j_16.trans (ca_step (decide_eq_true (by omega)) (by rw [eg_29]) (by omega) (by omega))) j_17 hw (lv_sub hl [0, 1, 2] rfl)
  exact hl_2_17 ((65 - 0 : Int).toNat + 1) 0 M rg td _ _ _ (Nat.lt_succ_self _) (by have lt0 : (0 : Int32).toInt = 0 := (by decide); first | omega | decide) (by have lt0 : (0 : Int32).toInt = 0 := (by decide); first | omega | decide) hI rfl f0.refl rfl ot.refl (hT) (hL) hr hq rfl rfl rfl hw (lv_sub hl [0, 1, 2] rfl)
set_option maxHeartbeats 4000000 in
set_option maxRecDepth 100000 in
theorem x_X4_readBoth_4 (l : Launch) (D : va_G) (A : Nat → Nat → Nat) (cy : Nat → ClassId) (hJ : ti_inj ti_LT A) (M : ti_M) (hI : cI Tc M) (t : Nat) (ht : t = 3 ∨ t = 4) (hT : tT M 1 1 = some t) (j : Nat) (hj : j < 3) (hL : tT M 1 2 = some (ti_laws t j)) (B : Nat → Int) (n : Nat) (rg : Nat → Int) (hr : rC B n t rg M) (td : Nat → Int) (hq : tq t td M) : ti_KvE l yX4_readBoth cX4_readBoth 3 41 ti_LT D A cy M [.ref (A 1 0), .int 4] (fun M2 => cI Tc M2 ∧ M2.2.2.2 = M.2.2.2 ∧ f0 M2 M ∧ tI M2 2 1 = tI M 2 1 ∧ ot t M2 M ∧ rC B n t (pp_bo B n (pp_pt B n 4) rg) M2 ∧ tq t (qq_bo B n j (pp_pt B n 4) (qq_pt B n j 4) rg td) M2) := by
  refine ti_eVE yp_X4_readBoth hJ ti_LT_nd (Nat.le_of_ble_eq_true rfl) ?_
  intro p e s m args below meth c Q H0 C hE hQ hw ls hl
  have hx := C.1
  have hb := C.2.1
  have hl : lv_has ls 3 [(0, .ref (A 1 0)), (1, .int 4)] := hl
  have l0 : rg 0 = (tI M 2 4).toInt := hr.2.1.1
  have l1 : rg 1 = (tI M 2 6).toInt := hr.2.1.2.1
  have l2 : rg 2 = (tI M 2 5).toInt := hr.2.1.2.2.1
  have l3 : rg 3 = (tI M 2 3).toInt := hr.2.1.2.2.2
  have l4 : rg 4 = (tI M 1 4).toInt := hr.2.2.1.1
  have l5 : rg 5 = (tI M 1 5).toInt := hr.2.2.1.2.1
  have l7 : rg 7 = (tI M t 4).toInt := hr.2.2.2.1.1
  have l8 : rg 8 = (tI M t 5).toInt := hr.2.2.2.1.2.1
  have l9 : rg 9 = (tI M t 3).toInt := hr.2.2.2.1.2.2
  refine lv_aload_n hx hb dX4_readBoth_0 rfl (lv_at hl 0 rfl) ?_
  refine lv_iload_n hx hb dX4_readBoth_1 rfl (lv_at hl 1 rfl) ?_
  refine ti_callVvE (ci := 4) (av := [.int 4]) C hE hw (x_X4_readNegated_4 l D A cy hJ M hI t ht (hT) j hj (hL) B n rg hr td hq) ⟨ml_X4_175, ym_X4_readNegated, yv_X4_readNegated, yi_X4_readNegated, yc_X4_readNegated⟩ yd_X4_readNegated ob_1 (by decide) rfl rfl hl.1 (Nat.le_of_ble_eq_true rfl) ⟨by decide, by decide⟩ ⟨Nat.zero_le _, Nat.zero_le _⟩ dX4_readBoth_2 (fun M_2 H locs hp_2 hw => ?_)
  obtain ⟨iM_2, q_3, q_4, q_5, q_6, p0r_1, p1r_1⟩ := hp_2
  obtain ⟨g_7, eg_7⟩ : ∃ z : Nat → Int, z = pp_ng B n (pp_pt B n 4) rg := ⟨_, rfl⟩
  rw [← eg_7] at p0r_1
  have lg_7_0 : g_7 0 = (tI M_2 2 4).toInt := p0r_1.2.1.1
  have lg_7_1 : g_7 1 = (tI M_2 2 6).toInt := p0r_1.2.1.2.1
  have lg_7_4 : g_7 4 = (tI M_2 1 4).toInt := p0r_1.2.2.1.1
  have lg_7_7 : g_7 7 = (tI M_2 t 4).toInt := p0r_1.2.2.2.1.1
  have lg_7_8 : g_7 8 = (tI M_2 t 5).toInt := p0r_1.2.2.2.1.2.1
  obtain ⟨d_8, ed_8⟩ : ∃ z : Nat → Int, z = qq_ng B n j (pp_pt B n 4) (qq_pt B n j 4) rg td := ⟨_, rfl⟩
  rw [← ed_8] at p1r_1
  refine lv_iconst (v := 0) hx hb dX4_readBoth_5 (by decide) ?_
  refine lv_istore_n (lv' := [(2, .int 0), (0, .ref (A 1 0)), (1, .int 4)]) hx hb dX4_readBoth_6 rfl hl (by decide) rfl (fun ls hl => ?_)
  have hl_7_24 : ∀ (n_25 : Nat) (x_9 : Int32) (M_12 : ti_M) (g_19 : Nat → Int) (d_21 : Nat → Int) (H : Heap) (locs : List Loc) (ls : Array Slot), (64 - x_9.toInt : Int).toNat < n_25 → (0 ≤ x_9.toInt) → (x_9.toInt ≤ 64) → (cI Tc M_12) → (M_12.2.2.2 = M.2.2.2) → (f0 M_12 M) → (tI M_12 2 1 = tI M 2 1) → (ot t M_12 M) → (tT M_12 1 1 = (some t)) → (tT M_12 1 2 = (some (ti_laws t j))) → (rC B n t g_19 M_12) → (tq t d_21 M_12) → (pp_lp pp_qA (fun s => pp_ng B n (pp_pt B n 4) (pp_kn B n s)) 64 g_7 = pp_lp pp_qA (fun s => pp_ng B n (pp_pt B n 4) (pp_kn B n s)) (64 - (x_9.toInt).toNat) g_19) → (qq_lp pp_qA (fun s => pp_ng B n (pp_pt B n 4) (pp_kn B n s)) (fun s td => qa j (-22) (qq_ng B n j (pp_pt B n 4) (qq_pt B n j 4) (pp_kn B n s) td)) 64 g_7 d_8 = qq_lp pp_qA (fun s => pp_ng B n (pp_pt B n 4) (pp_kn B n s)) (fun s td => qa j (-22) (qq_ng B n j (pp_pt B n 4) (qq_pt B n j 4) (pp_kn B n s) td)) (64 - (x_9.toInt).toNat) g_19 d_21) → ti_H ti_LT D A cy H0 M_12 H locs → lv_has ls 3 [(2, .int x_9), (0, .ref (A 1 0)), (1, .int 4)] → W p l e (ti_rm 41) s m args below meth c H locs 0 0 Q (F0 m 7 ls []) := by
    intro n_25
    induction n_25 with
    | zero => intro x_9 M_12 g_19 d_21 H locs ls hf_25; exact absurd hf_25 (Nat.not_lt_zero _)
    | succ n_25 ih_25 =>
      intro x_9 M_12 g_19 d_21 H locs ls hf_25 b_10 b_11 iM_12 f_13 f_14 f_15 f_16 f_17 f_18 hs_20 tq_22 j_23 j_24 hw hl
      have lg_19_0 : g_19 0 = (tI M_12 2 4).toInt := hs_20.2.1.1
      have lg_19_1 : g_19 1 = (tI M_12 2 6).toInt := hs_20.2.1.2.1
      have lg_19_4 : g_19 4 = (tI M_12 1 4).toInt := hs_20.2.2.1.1
      have lg_19_7 : g_19 7 = (tI M_12 t 4).toInt := hs_20.2.2.2.1.1
      have lg_19_8 : g_19 8 = (tI M_12 t 5).toInt := hs_20.2.2.2.1.2.1
      refine lv_iload_n hx hb dX4_readBoth_7 rfl (lv_at hl 0 rfl) ?_
      refine lv_bipush (v := 64) hx hb dX4_readBoth_8 (by decide) ?_
      refine sb_icmp_ge (tgt := 49) hx hb rfl (by decide : (64 : Int32).toInt = 64) dX4_readBoth_10 (by decide) (fun c_10_25 => ?_) (fun c_10_25 => ?_)
      · exact hQ _ _ _ _ _ hw (⟨iM_12, (f_13), f_14, (f_15), f_16, (by unfold pp_bo; rw [← eg_7, j_23, lp_end (P := pp_qA) (f := 64 - x_9.toInt.toNat) (s := g_19) (Or.inl (by omega))]; exact hs_20), (by unfold qq_bo; rw [← eg_7, ← ed_8, j_24, qlp_end (P := pp_qA) (f := 64 - x_9.toInt.toNat) (s := g_19) (Or.inl (by omega))]; exact tq_22)⟩) dX4_readBoth_49
      · refine lv_aload_n hx hb dX4_readBoth_13 rfl (lv_at hl 1 rfl) ?_
        refine ti_get (ci := 4) (k := 0) (N := 6) (T := TX4) (v := .ref (A 2 0)) C hw iw_4 rfl ob_1 (by decide) (by decide) fl_X4_12 rfl rfl dX4_readBoth_14 ?_
        refine ti_get (ci := 7) (k := 4) (N := 7) (T := TX7) C hw iw_7 rfl ob_2 (by decide) (by decide) fl_X4_41 rfl rfl dX4_readBoth_17 ?_
        refine lv_topi (fun x_27 ex_27 => ?_)
        have bx_27 : 0 ≤ x_27.toInt ∧ x_27.toInt ≤ 41 := cI_rd iM_12 ob_2.1 ex_27
        have ux_27 : (tI M_12 2 4).toInt = x_27.toInt := by rw [ex_27]
        refine lv_bipush (v := 22) hx hb dX4_readBoth_20 (by decide) ?_
        refine sb_icmp_ne (tgt := 49) hx hb rfl (by decide : (22 : Int32).toInt = 22) dX4_readBoth_22 (by decide) (fun c_22_27 => ?_) (fun c_22_27 => ?_)
        · exact hQ _ _ _ _ _ hw (⟨iM_12, (f_13), f_14, (f_15), f_16, (by unfold pp_bo; rw [← eg_7, j_23, lp_end (P := pp_qA) (f := 64 - x_9.toInt.toNat) (s := g_19) (Or.inr (decide_eq_false (by omega)))]; exact hs_20), (by unfold qq_bo; rw [← eg_7, ← ed_8, j_24, qlp_end (P := pp_qA) (f := 64 - x_9.toInt.toNat) (s := g_19) (Or.inr (decide_eq_false (by omega)))]; exact tq_22)⟩) dX4_readBoth_49
        · refine lv_aload_n hx hb dX4_readBoth_25 rfl (lv_at hl 1 rfl) ?_
          refine ti_callVvE (ci := 4) (av := []) C hE hw (x_X4_knot l D A cy hJ M_12 iM_12 t ht (f_17) B n g_19 hs_20 d_21 tq_22) ⟨ml_X4_167, ym_X4_knot, yv_X4_knot, yi_X4_knot, yc_X4_knot⟩ yd_X4_knot ob_1 (by decide) rfl rfl hl.1 (Nat.le_of_ble_eq_true rfl) ⟨by decide, by decide⟩ ⟨Nat.zero_le _, Nat.zero_le _⟩ dX4_readBoth_26 (fun M_30 H locs hp_30 hw => ?_)
          obtain ⟨iM_30, q_31, q_32, q_33, q_34, q_35, p0r_29, p1r_29⟩ := hp_30
          obtain ⟨g_36, eg_36⟩ : ∃ z : Nat → Int, z = pp_kn B n g_19 := ⟨_, rfl⟩
          rw [← eg_36] at p0r_29
          have lg_36_0 : g_36 0 = (tI M_30 2 4).toInt := p0r_29.2.1.1
          have lg_36_1 : g_36 1 = (tI M_30 2 6).toInt := p0r_29.2.1.2.1
          have lg_36_4 : g_36 4 = (tI M_30 1 4).toInt := p0r_29.2.2.1.1
          have lg_36_7 : g_36 7 = (tI M_30 t 4).toInt := p0r_29.2.2.2.1.1
          have lg_36_8 : g_36 8 = (tI M_30 t 5).toInt := p0r_29.2.2.2.1.2.1
          refine lv_aload_n hx hb dX4_readBoth_29 rfl (lv_at hl 1 rfl) ?_
          refine lv_iload_n hx hb dX4_readBoth_30 rfl (lv_at hl 2 rfl) ?_
          refine ti_callVvE (ci := 4) (av := [.int 4]) C hE hw (x_X4_readNegated_4 l D A cy hJ M_30 iM_30 t ht ((tT_fr q_31).trans f_17) j hj ((tT_fr q_31).trans f_18) B n g_36 p0r_29 d_21 p1r_29) ⟨ml_X4_175, ym_X4_readNegated, yv_X4_readNegated, yi_X4_readNegated, yc_X4_readNegated⟩ yd_X4_readNegated ob_1 (by decide) rfl rfl hl.1 (Nat.le_of_ble_eq_true rfl) ⟨by decide, by decide⟩ ⟨Nat.zero_le _, Nat.zero_le _⟩ dX4_readBoth_31 (fun M_38 H locs hp_38 hw => ?_)
          obtain ⟨iM_38, q_39, q_40, q_41, q_42, p0r_37, p1r_37⟩ := hp_38
          obtain ⟨g_43, eg_43⟩ : ∃ z : Nat → Int, z = pp_ng B n (pp_pt B n 4) g_36 := ⟨_, rfl⟩
          rw [← eg_43] at p0r_37
          have lg_43_0 : g_43 0 = (tI M_38 2 4).toInt := p0r_37.2.1.1
          have lg_43_1 : g_43 1 = (tI M_38 2 6).toInt := p0r_37.2.1.2.1
          have lg_43_4 : g_43 4 = (tI M_38 1 4).toInt := p0r_37.2.2.1.1
          have lg_43_7 : g_43 7 = (tI M_38 t 4).toInt := p0r_37.2.2.2.1.1
          have lg_43_8 : g_43 8 = (tI M_38 t 5).toInt := p0r_37.2.2.2.1.2.1
          obtain ⟨d_44, ed_44⟩ : ∃ z : Nat → Int, z = qq_ng B n j (pp_pt B n 4) (qq_pt B n j 4) g_36 d_21 := ⟨_, rfl⟩
          rw [← ed_44] at p1r_37
          refine lv_aload_n hx hb dX4_readBoth_34 rfl (lv_at hl 1 rfl) ?_
          refine ti_get (ci := 4) (k := 2) (N := 6) (T := TX4) (v := .ref (A (ti_laws t j) 0)) C hw iw_4 rfl ob_1 (by decide) (by decide) fl_X4_154 rfl (ti_Tv ((tT_fr q_39).trans ((tT_fr q_31).trans f_18))) dX4_readBoth_35 ?_
          refine lv_bipush (v := (-22)) hx hb dX4_readBoth_38 (by decide) ?_
          refine ti_callVv (ci := 1) (av := [.int (-22)]) C hw (x_X1_add l D A cy hJ M_38 iM_38 t ht j hj (-22) (by first | omega | exact Or.inl (by decide) | exact Or.inr (by decide)) B n g_43 p0r_37 d_44 p1r_37) ⟨ml_X4_170, ym_X1_add, yv_X1_add, yi_X1_add, yc_X1_add⟩ yd_X1_add (ob_l ht hj) (by decide) rfl rfl hl.1 (Nat.le_of_ble_eq_true rfl) ⟨by decide, by decide⟩ ⟨Nat.zero_le _, Nat.zero_le _⟩ dX4_readBoth_40 (fun M_46 H locs hp_46 hw => ?_)
          obtain ⟨iM_46, q_47, q_48, q_49, p0r_45, p1r_45⟩ := hp_46
          have lM_46_0 : g_43 0 = (tI M_46 2 4).toInt := p0r_45.2.1.1
          have lM_46_1 : g_43 1 = (tI M_46 2 6).toInt := p0r_45.2.1.2.1
          have lM_46_4 : g_43 4 = (tI M_46 1 4).toInt := p0r_45.2.2.1.1
          have lM_46_7 : g_43 7 = (tI M_46 t 4).toInt := p0r_45.2.2.2.1.1
          have lM_46_8 : g_43 8 = (tI M_46 t 5).toInt := p0r_45.2.2.2.1.2.1
          simp only [show ((-22) : Int32).toInt = (-22) by decide] at p1r_45
          obtain ⟨d_50, ed_50⟩ : ∃ z : Nat → Int, z = qa j (-22) d_44 := ⟨_, rfl⟩
          rw [← ed_50] at p1r_45
          obtain ⟨x_51, ex_51⟩ : ∃ z : Int32, z = x_9 + 1 := ⟨_, rfl⟩
          have tx_51 : x_51.toInt = x_9.toInt + 1 := i_add ex_51 rfl (by decide) (by omega) (by omega)
          refine lv_iinc (v := x_51) (lv' := [(2, .int x_51), (0, .ref (A 1 0)), (1, .int 4)]) hx hb dX4_readBoth_43 hl (k := 0) rfl (by rw [ex_51]; rfl) (by decide) rfl (fun ls hl => ?_)
          refine lv_goto (tgt := 7) hx hb dX4_readBoth_46 (by decide) ?_
          exact ih_25 x_51 M_46 g_43 d_50 _ _ _ (by omega) (by first | omega | decide) (by first | omega | decide) iM_46 ((q_47).trans ((q_39).trans ((q_31).trans f_13))) (f0.trans (f0_x q_48) (f0.trans q_40 (f0.trans q_32 f_14))) (((q_48 1).2.1).trans ((q_41).trans ((q_33).trans f_15))) (ot.trans q_49 (ot.trans q_42 (ot.trans q_34 f_16))) ((tT_fr q_47).trans ((tT_fr q_39).trans ((tT_fr q_31).trans f_17))) ((tT_fr q_47).trans ((tT_fr q_39).trans ((tT_fr q_31).trans f_18))) p0r_45 p1r_45 (j_23.trans (lp_step (decide_eq_true (by omega)) (by rw [eg_43, eg_36]) (by omega))) (j_24.trans (qlp_step (decide_eq_true (by omega)) (by rw [eg_43, eg_36]) (by rw [ed_50, ed_44, eg_36]) (by omega))) hw (lv_sub hl [0, 1, 2] rfl)
  exact hl_7_24 ((64 - 0 : Int).toNat + 1) 0 M_2 g_7 d_8 _ _ _ (Nat.lt_succ_self _) (by have lt0 : (0 : Int32).toInt = 0 := (by decide); first | omega | decide) (by have lt0 : (0 : Int32).toInt = 0 := (by decide); first | omega | decide) iM_2 (q_3) q_4 (q_5) q_6 ((tT_fr q_3).trans hT) ((tT_fr q_3).trans hL) p0r_1 p1r_1 rfl rfl hw (lv_sub hl [0, 1, 2] rfl)
set_option maxHeartbeats 4000000 in
set_option maxRecDepth 100000 in
theorem x_X4_readEither_4 (l : Launch) (D : va_G) (A : Nat → Nat → Nat) (cy : Nat → ClassId) (hJ : ti_inj ti_LT A) (M : ti_M) (hI : cI Tc M) (t : Nat) (ht : t = 3 ∨ t = 4) (hT : tT M 1 1 = some t) (j : Nat) (hj : j < 3) (hL : tT M 1 2 = some (ti_laws t j)) (B : Nat → Int) (n : Nat) (rg : Nat → Int) (hr : rC B n t rg M) (td : Nat → Int) (hq : tq t td M) : ti_KvE l yX4_readEither cX4_readEither 3 42 ti_LT D A cy M [.ref (A 1 0), .int 4] (fun M2 => cI Tc M2 ∧ M2.2.2.2 = M.2.2.2 ∧ f0 M2 M ∧ tI M2 2 1 = tI M 2 1 ∧ ot t M2 M ∧ rC B n t (pp_ei B n (pp_pt B n 4) rg) M2 ∧ tq t (qq_ei B n j (pp_pt B n 4) (qq_pt B n j 4) rg td) M2) := by
  refine ti_eVE yp_X4_readEither hJ ti_LT_nd (Nat.le_of_ble_eq_true rfl) ?_
  intro p e s m args below meth c Q H0 C hE hQ hw ls hl
  have hx := C.1
  have hb := C.2.1
  have hl : lv_has ls 3 [(0, .ref (A 1 0)), (1, .int 4)] := hl
  have l0 : rg 0 = (tI M 2 4).toInt := hr.2.1.1
  have l1 : rg 1 = (tI M 2 6).toInt := hr.2.1.2.1
  have l2 : rg 2 = (tI M 2 5).toInt := hr.2.1.2.2.1
  have l3 : rg 3 = (tI M 2 3).toInt := hr.2.1.2.2.2
  have l4 : rg 4 = (tI M 1 4).toInt := hr.2.2.1.1
  have l5 : rg 5 = (tI M 1 5).toInt := hr.2.2.1.2.1
  have l7 : rg 7 = (tI M t 4).toInt := hr.2.2.2.1.1
  have l8 : rg 8 = (tI M t 5).toInt := hr.2.2.2.1.2.1
  have l9 : rg 9 = (tI M t 3).toInt := hr.2.2.2.1.2.2
  refine lv_aload_n hx hb dX4_readEither_0 rfl (lv_at hl 0 rfl) ?_
  refine lv_iload_n hx hb dX4_readEither_1 rfl (lv_at hl 1 rfl) ?_
  refine ti_callVvE (ci := 4) (av := [.int 4]) C hE hw (x_X4_readBoth_4 l D A cy hJ M hI t ht (hT) j hj (hL) B n rg hr td hq) ⟨ml_X4_164, ym_X4_readBoth, yv_X4_readBoth, yi_X4_readBoth, yc_X4_readBoth⟩ yd_X4_readBoth ob_1 (by decide) rfl rfl hl.1 (Nat.le_of_ble_eq_true rfl) ⟨by decide, by decide⟩ ⟨Nat.zero_le _, Nat.zero_le _⟩ dX4_readEither_2 (fun M_2 H locs hp_2 hw => ?_)
  obtain ⟨iM_2, q_3, q_4, q_5, q_6, p0r_1, p1r_1⟩ := hp_2
  obtain ⟨g_7, eg_7⟩ : ∃ z : Nat → Int, z = pp_bo B n (pp_pt B n 4) rg := ⟨_, rfl⟩
  rw [← eg_7] at p0r_1
  have lg_7_0 : g_7 0 = (tI M_2 2 4).toInt := p0r_1.2.1.1
  have lg_7_1 : g_7 1 = (tI M_2 2 6).toInt := p0r_1.2.1.2.1
  have lg_7_4 : g_7 4 = (tI M_2 1 4).toInt := p0r_1.2.2.1.1
  have lg_7_7 : g_7 7 = (tI M_2 t 4).toInt := p0r_1.2.2.2.1.1
  have lg_7_8 : g_7 8 = (tI M_2 t 5).toInt := p0r_1.2.2.2.1.2.1
  obtain ⟨d_8, ed_8⟩ : ∃ z : Nat → Int, z = qq_bo B n j (pp_pt B n 4) (qq_pt B n j 4) rg td := ⟨_, rfl⟩
  rw [← ed_8] at p1r_1
  refine lv_iconst (v := 0) hx hb dX4_readEither_5 (by decide) ?_
  refine lv_istore_n (lv' := [(2, .int 0), (0, .ref (A 1 0)), (1, .int 4)]) hx hb dX4_readEither_6 rfl hl (by decide) rfl (fun ls hl => ?_)
  have hl_7_24 : ∀ (n_25 : Nat) (x_9 : Int32) (M_12 : ti_M) (g_19 : Nat → Int) (d_21 : Nat → Int) (H : Heap) (locs : List Loc) (ls : Array Slot), (64 - x_9.toInt : Int).toNat < n_25 → (0 ≤ x_9.toInt) → (x_9.toInt ≤ 64) → (cI Tc M_12) → (M_12.2.2.2 = M.2.2.2) → (f0 M_12 M) → (tI M_12 2 1 = tI M 2 1) → (ot t M_12 M) → (tT M_12 1 1 = (some t)) → (tT M_12 1 2 = (some (ti_laws t j))) → (rC B n t g_19 M_12) → (tq t d_21 M_12) → (pp_lp pp_qO (fun s => pp_bo B n (pp_pt B n 4) (pp_kn B n s)) 64 g_7 = pp_lp pp_qO (fun s => pp_bo B n (pp_pt B n 4) (pp_kn B n s)) (64 - (x_9.toInt).toNat) g_19) → (qq_lp pp_qO (fun s => pp_bo B n (pp_pt B n 4) (pp_kn B n s)) (fun s td => qa j (-23) (qq_bo B n j (pp_pt B n 4) (qq_pt B n j 4) (pp_kn B n s) td)) 64 g_7 d_8 = qq_lp pp_qO (fun s => pp_bo B n (pp_pt B n 4) (pp_kn B n s)) (fun s td => qa j (-23) (qq_bo B n j (pp_pt B n 4) (qq_pt B n j 4) (pp_kn B n s) td)) (64 - (x_9.toInt).toNat) g_19 d_21) → ti_H ti_LT D A cy H0 M_12 H locs → lv_has ls 3 [(2, .int x_9), (0, .ref (A 1 0)), (1, .int 4)] → W p l e (ti_rm 42) s m args below meth c H locs 0 0 Q (F0 m 7 ls []) := by
    intro n_25
    induction n_25 with
    | zero => intro x_9 M_12 g_19 d_21 H locs ls hf_25; exact absurd hf_25 (Nat.not_lt_zero _)
    | succ n_25 ih_25 =>
      intro x_9 M_12 g_19 d_21 H locs ls hf_25 b_10 b_11 iM_12 f_13 f_14 f_15 f_16 f_17 f_18 hs_20 tq_22 j_23 j_24 hw hl
      have lg_19_0 : g_19 0 = (tI M_12 2 4).toInt := hs_20.2.1.1
      have lg_19_1 : g_19 1 = (tI M_12 2 6).toInt := hs_20.2.1.2.1
      have lg_19_4 : g_19 4 = (tI M_12 1 4).toInt := hs_20.2.2.1.1
      have lg_19_7 : g_19 7 = (tI M_12 t 4).toInt := hs_20.2.2.2.1.1
      have lg_19_8 : g_19 8 = (tI M_12 t 5).toInt := hs_20.2.2.2.1.2.1
      refine lv_iload_n hx hb dX4_readEither_7 rfl (lv_at hl 0 rfl) ?_
      refine lv_bipush (v := 64) hx hb dX4_readEither_8 (by decide) ?_
      refine sb_icmp_ge (tgt := 49) hx hb rfl (by decide : (64 : Int32).toInt = 64) dX4_readEither_10 (by decide) (fun c_10_25 => ?_) (fun c_10_25 => ?_)
      · exact hQ _ _ _ _ _ hw (⟨iM_12, (f_13), f_14, (f_15), f_16, (by unfold pp_ei; rw [← eg_7, j_23, lp_end (P := pp_qO) (f := 64 - x_9.toInt.toNat) (s := g_19) (Or.inl (by omega))]; exact hs_20), (by unfold qq_ei; rw [← eg_7, ← ed_8, j_24, qlp_end (P := pp_qO) (f := 64 - x_9.toInt.toNat) (s := g_19) (Or.inl (by omega))]; exact tq_22)⟩) dX4_readEither_49
      · refine lv_aload_n hx hb dX4_readEither_13 rfl (lv_at hl 1 rfl) ?_
        refine ti_get (ci := 4) (k := 0) (N := 6) (T := TX4) (v := .ref (A 2 0)) C hw iw_4 rfl ob_1 (by decide) (by decide) fl_X4_12 rfl rfl dX4_readEither_14 ?_
        refine ti_get (ci := 7) (k := 4) (N := 7) (T := TX7) C hw iw_7 rfl ob_2 (by decide) (by decide) fl_X4_41 rfl rfl dX4_readEither_17 ?_
        refine lv_topi (fun x_27 ex_27 => ?_)
        have bx_27 : 0 ≤ x_27.toInt ∧ x_27.toInt ≤ 41 := cI_rd iM_12 ob_2.1 ex_27
        have ux_27 : (tI M_12 2 4).toInt = x_27.toInt := by rw [ex_27]
        refine lv_bipush (v := 23) hx hb dX4_readEither_20 (by decide) ?_
        refine sb_icmp_ne (tgt := 49) hx hb rfl (by decide : (23 : Int32).toInt = 23) dX4_readEither_22 (by decide) (fun c_22_27 => ?_) (fun c_22_27 => ?_)
        · exact hQ _ _ _ _ _ hw (⟨iM_12, (f_13), f_14, (f_15), f_16, (by unfold pp_ei; rw [← eg_7, j_23, lp_end (P := pp_qO) (f := 64 - x_9.toInt.toNat) (s := g_19) (Or.inr (decide_eq_false (by omega)))]; exact hs_20), (by unfold qq_ei; rw [← eg_7, ← ed_8, j_24, qlp_end (P := pp_qO) (f := 64 - x_9.toInt.toNat) (s := g_19) (Or.inr (decide_eq_false (by omega)))]; exact tq_22)⟩) dX4_readEither_49
        · refine lv_aload_n hx hb dX4_readEither_25 rfl (lv_at hl 1 rfl) ?_
          refine ti_callVvE (ci := 4) (av := []) C hE hw (x_X4_knot l D A cy hJ M_12 iM_12 t ht (f_17) B n g_19 hs_20 d_21 tq_22) ⟨ml_X4_167, ym_X4_knot, yv_X4_knot, yi_X4_knot, yc_X4_knot⟩ yd_X4_knot ob_1 (by decide) rfl rfl hl.1 (Nat.le_of_ble_eq_true rfl) ⟨by decide, by decide⟩ ⟨Nat.zero_le _, Nat.zero_le _⟩ dX4_readEither_26 (fun M_30 H locs hp_30 hw => ?_)
          obtain ⟨iM_30, q_31, q_32, q_33, q_34, q_35, p0r_29, p1r_29⟩ := hp_30
          obtain ⟨g_36, eg_36⟩ : ∃ z : Nat → Int, z = pp_kn B n g_19 := ⟨_, rfl⟩
          rw [← eg_36] at p0r_29
          have lg_36_0 : g_36 0 = (tI M_30 2 4).toInt := p0r_29.2.1.1
          have lg_36_1 : g_36 1 = (tI M_30 2 6).toInt := p0r_29.2.1.2.1
          have lg_36_4 : g_36 4 = (tI M_30 1 4).toInt := p0r_29.2.2.1.1
          have lg_36_7 : g_36 7 = (tI M_30 t 4).toInt := p0r_29.2.2.2.1.1
          have lg_36_8 : g_36 8 = (tI M_30 t 5).toInt := p0r_29.2.2.2.1.2.1
          refine lv_aload_n hx hb dX4_readEither_29 rfl (lv_at hl 1 rfl) ?_
          refine lv_iload_n hx hb dX4_readEither_30 rfl (lv_at hl 2 rfl) ?_
          refine ti_callVvE (ci := 4) (av := [.int 4]) C hE hw (x_X4_readBoth_4 l D A cy hJ M_30 iM_30 t ht ((tT_fr q_31).trans f_17) j hj ((tT_fr q_31).trans f_18) B n g_36 p0r_29 d_21 p1r_29) ⟨ml_X4_164, ym_X4_readBoth, yv_X4_readBoth, yi_X4_readBoth, yc_X4_readBoth⟩ yd_X4_readBoth ob_1 (by decide) rfl rfl hl.1 (Nat.le_of_ble_eq_true rfl) ⟨by decide, by decide⟩ ⟨Nat.zero_le _, Nat.zero_le _⟩ dX4_readEither_31 (fun M_38 H locs hp_38 hw => ?_)
          obtain ⟨iM_38, q_39, q_40, q_41, q_42, p0r_37, p1r_37⟩ := hp_38
          obtain ⟨g_43, eg_43⟩ : ∃ z : Nat → Int, z = pp_bo B n (pp_pt B n 4) g_36 := ⟨_, rfl⟩
          rw [← eg_43] at p0r_37
          have lg_43_0 : g_43 0 = (tI M_38 2 4).toInt := p0r_37.2.1.1
          have lg_43_1 : g_43 1 = (tI M_38 2 6).toInt := p0r_37.2.1.2.1
          have lg_43_4 : g_43 4 = (tI M_38 1 4).toInt := p0r_37.2.2.1.1
          have lg_43_7 : g_43 7 = (tI M_38 t 4).toInt := p0r_37.2.2.2.1.1
          have lg_43_8 : g_43 8 = (tI M_38 t 5).toInt := p0r_37.2.2.2.1.2.1
          obtain ⟨d_44, ed_44⟩ : ∃ z : Nat → Int, z = qq_bo B n j (pp_pt B n 4) (qq_pt B n j 4) g_36 d_21 := ⟨_, rfl⟩
          rw [← ed_44] at p1r_37
          refine lv_aload_n hx hb dX4_readEither_34 rfl (lv_at hl 1 rfl) ?_
          refine ti_get (ci := 4) (k := 2) (N := 6) (T := TX4) (v := .ref (A (ti_laws t j) 0)) C hw iw_4 rfl ob_1 (by decide) (by decide) fl_X4_154 rfl (ti_Tv ((tT_fr q_39).trans ((tT_fr q_31).trans f_18))) dX4_readEither_35 ?_
          refine lv_bipush (v := (-23)) hx hb dX4_readEither_38 (by decide) ?_
          refine ti_callVv (ci := 1) (av := [.int (-23)]) C hw (x_X1_add l D A cy hJ M_38 iM_38 t ht j hj (-23) (by first | omega | exact Or.inl (by decide) | exact Or.inr (by decide)) B n g_43 p0r_37 d_44 p1r_37) ⟨ml_X4_170, ym_X1_add, yv_X1_add, yi_X1_add, yc_X1_add⟩ yd_X1_add (ob_l ht hj) (by decide) rfl rfl hl.1 (Nat.le_of_ble_eq_true rfl) ⟨by decide, by decide⟩ ⟨Nat.zero_le _, Nat.zero_le _⟩ dX4_readEither_40 (fun M_46 H locs hp_46 hw => ?_)
          obtain ⟨iM_46, q_47, q_48, q_49, p0r_45, p1r_45⟩ := hp_46
          have lM_46_0 : g_43 0 = (tI M_46 2 4).toInt := p0r_45.2.1.1
          have lM_46_1 : g_43 1 = (tI M_46 2 6).toInt := p0r_45.2.1.2.1
          have lM_46_4 : g_43 4 = (tI M_46 1 4).toInt := p0r_45.2.2.1.1
          have lM_46_7 : g_43 7 = (tI M_46 t 4).toInt := p0r_45.2.2.2.1.1
          have lM_46_8 : g_43 8 = (tI M_46 t 5).toInt := p0r_45.2.2.2.1.2.1
          simp only [show ((-23) : Int32).toInt = (-23) by decide] at p1r_45
          obtain ⟨d_50, ed_50⟩ : ∃ z : Nat → Int, z = qa j (-23) d_44 := ⟨_, rfl⟩
          rw [← ed_50] at p1r_45
          obtain ⟨x_51, ex_51⟩ : ∃ z : Int32, z = x_9 + 1 := ⟨_, rfl⟩
          have tx_51 : x_51.toInt = x_9.toInt + 1 := i_add ex_51 rfl (by decide) (by omega) (by omega)
          refine lv_iinc (v := x_51) (lv' := [(2, .int x_51), (0, .ref (A 1 0)), (1, .int 4)]) hx hb dX4_readEither_43 hl (k := 0) rfl (by rw [ex_51]; rfl) (by decide) rfl (fun ls hl => ?_)
          refine lv_goto (tgt := 7) hx hb dX4_readEither_46 (by decide) ?_
          exact ih_25 x_51 M_46 g_43 d_50 _ _ _ (by omega) (by first | omega | decide) (by first | omega | decide) iM_46 ((q_47).trans ((q_39).trans ((q_31).trans f_13))) (f0.trans (f0_x q_48) (f0.trans q_40 (f0.trans q_32 f_14))) (((q_48 1).2.1).trans ((q_41).trans ((q_33).trans f_15))) (ot.trans q_49 (ot.trans q_42 (ot.trans q_34 f_16))) ((tT_fr q_47).trans ((tT_fr q_39).trans ((tT_fr q_31).trans f_17))) ((tT_fr q_47).trans ((tT_fr q_39).trans ((tT_fr q_31).trans f_18))) p0r_45 p1r_45 (j_23.trans (lp_step (decide_eq_true (by omega)) (by rw [eg_43, eg_36]) (by omega))) (j_24.trans (qlp_step (decide_eq_true (by omega)) (by rw [eg_43, eg_36]) (by rw [ed_50, ed_44, eg_36]) (by omega))) hw (lv_sub hl [0, 1, 2] rfl)
  exact hl_7_24 ((64 - 0 : Int).toNat + 1) 0 M_2 g_7 d_8 _ _ _ (Nat.lt_succ_self _) (by have lt0 : (0 : Int32).toInt = 0 := (by decide); first | omega | decide) (by have lt0 : (0 : Int32).toInt = 0 := (by decide); first | omega | decide) iM_2 (q_3) q_4 (q_5) q_6 ((tT_fr q_3).trans hT) ((tT_fr q_3).trans hL) p0r_1 p1r_1 rfl rfl hw (lv_sub hl [0, 1, 2] rfl)
set_option maxHeartbeats 4000000 in
set_option maxRecDepth 100000 in
theorem x_X4_readPart_3 (l : Launch) (D : va_G) (A : Nat → Nat → Nat) (cy : Nat → ClassId) (hJ : ti_inj ti_LT A) (M : ti_M) (hI : cI Tc M) (t : Nat) (ht : t = 3 ∨ t = 4) (hT : tT M 1 1 = some t) (j : Nat) (hj : j < 3) (hL : tT M 1 2 = some (ti_laws t j)) (B : Nat → Int) (n : Nat) (rg : Nat → Int) (hr : rC B n t rg M) (td : Nat → Int) (hq : tq t td M) : ti_KvE l yX4_readPart cX4_readPart 3 43 ti_LT D A cy M [.ref (A 1 0), .int 3] (fun M2 => cI Tc M2 ∧ M2.2.2.2 = M.2.2.2 ∧ f0 M2 M ∧ tI M2 2 1 = tI M 2 1 ∧ ot t M2 M ∧ rC B n t (pp_pt B n 5 rg) M2 ∧ tq t (qq_pt B n j 5 rg td) M2) := by
  refine ti_eVE yp_X4_readPart hJ ti_LT_nd (Nat.le_of_ble_eq_true rfl) ?_
  intro p e s m args below meth c Q H0 C hE hQ hw ls hl
  have hx := C.1
  have hb := C.2.1
  have hl : lv_has ls 3 [(0, .ref (A 1 0)), (1, .int 3)] := hl
  have l0 : rg 0 = (tI M 2 4).toInt := hr.2.1.1
  have l1 : rg 1 = (tI M 2 6).toInt := hr.2.1.2.1
  have l2 : rg 2 = (tI M 2 5).toInt := hr.2.1.2.2.1
  have l3 : rg 3 = (tI M 2 3).toInt := hr.2.1.2.2.2
  have l4 : rg 4 = (tI M 1 4).toInt := hr.2.2.1.1
  have l5 : rg 5 = (tI M 1 5).toInt := hr.2.2.1.2.1
  have l7 : rg 7 = (tI M t 4).toInt := hr.2.2.2.1.1
  have l8 : rg 8 = (tI M t 5).toInt := hr.2.2.2.1.2.1
  have l9 : rg 9 = (tI M t 3).toInt := hr.2.2.2.1.2.2
  refine lv_aload_n hx hb dX4_readPart_0 rfl (lv_at hl 0 rfl) ?_
  refine ti_get (ci := 4) (k := 0) (N := 6) (T := TX4) (v := .ref (A 2 0)) C hw iw_4 rfl ob_1 (by decide) (by decide) fl_X4_12 rfl rfl dX4_readPart_1 ?_
  refine ti_get (ci := 7) (k := 4) (N := 7) (T := TX7) C hw iw_7 rfl ob_2 (by decide) (by decide) fl_X4_41 rfl rfl dX4_readPart_4 ?_
  refine lv_topi (fun x_1 ex_1 => ?_)
  have bx_1 : 0 ≤ x_1.toInt ∧ x_1.toInt ≤ 41 := cI_rd hI ob_2.1 ex_1
  have ux_1 : (tI M 2 4).toInt = x_1.toInt := by rw [ex_1]
  refine lv_istore_n (lv' := [(2, .int x_1), (0, .ref (A 1 0)), (1, .int 3)]) hx hb dX4_readPart_7 rfl hl (by decide) rfl (fun ls hl => ?_)
  refine lv_iload_n hx hb dX4_readPart_8 rfl (lv_at hl 0 rfl) ?_
  refine lv_bipush (v := 30) hx hb dX4_readPart_9 (by decide) ?_
  refine sb_icmp_ne (tgt := 28) hx hb rfl (by decide : (30 : Int32).toInt = 30) dX4_readPart_11 (by decide) (fun c_11_1 => ?_) (fun c_11_1 => ?_)
  · refine lv_iload_n hx hb dX4_readPart_28 rfl (lv_at hl 0 rfl) ?_
    refine lv_bipush (v := 30) hx hb dX4_readPart_29 (by decide) ?_
    refine sb_icmp_ne (tgt := 57) hx hb rfl (by decide : (30 : Int32).toInt = 30) dX4_readPart_31 (by decide) (fun c_31_3 => ?_) (fun h => by omega)
    refine lv_iload_n hx hb dX4_readPart_57 rfl (lv_at hl 0 rfl) ?_
    refine lv_bipush (v := 26) hx hb dX4_readPart_58 (by decide) ?_
    refine sb_icmp_ne (tgt := 84) hx hb rfl (by decide : (26 : Int32).toInt = 26) dX4_readPart_60 (by decide) (fun c_60_30 => ?_) (fun c_60_30 => ?_)
    · refine lv_iload_n hx hb dX4_readPart_84 rfl (lv_at hl 0 rfl) ?_
      refine lv_bipush (v := 26) hx hb dX4_readPart_85 (by decide) ?_
      refine sb_icmp_ne (tgt := 111) hx hb rfl (by decide : (26 : Int32).toInt = 26) dX4_readPart_87 (by decide) (fun c_87_41 => ?_) (fun h => by omega)
      refine lv_iload_n hx hb dX4_readPart_111 rfl (lv_at hl 0 rfl) ?_
      refine lv_bipush (v := 16) hx hb dX4_readPart_112 (by decide) ?_
      refine sb_icmp_lt (tgt := 139) hx hb rfl (by decide : (16 : Int32).toInt = 16) dX4_readPart_114 (by decide) (fun c_114_58 => ?_) (fun c_114_58 => ?_)
      · refine lv_aload_n hx hb dX4_readPart_139 rfl (lv_at hl 1 rfl) ?_
        refine lv_iconst (v := 1) hx hb dX4_readPart_140 (by decide) ?_
        refine ti_callVv (ci := 4) (av := [.int 1]) C hw (x_X4_refuse l D A cy hJ M hI t ht 1 B n rg hr) ⟨ml_X4_82, ym_X4_refuse, yv_X4_refuse, yi_X4_refuse, yc_X4_refuse⟩ yd_X4_refuse ob_1 (by decide) rfl rfl hl.1 (Nat.le_of_ble_eq_true rfl) ⟨by decide, by decide⟩ ⟨Nat.zero_le _, Nat.zero_le _⟩ dX4_readPart_141 (fun M_77 H locs hp_77 hw => ?_)
        obtain ⟨iM_77, q_78, q_79, q_80, q_81, p0r_76⟩ := hp_77
        have hlr_76_1 : (1 : Int32).toInt = 1 := by decide
        simp only [hlr_76_1] at p0r_76
        obtain ⟨g_82, eg_82⟩ : ∃ z : Nat → Int, z = pp_rf 1 rg := ⟨_, rfl⟩
        rw [← eg_82] at p0r_76
        have lg_82_0 : g_82 0 = (tI M_77 2 4).toInt := p0r_76.2.1.1
        have lg_82_1 : g_82 1 = (tI M_77 2 6).toInt := p0r_76.2.1.2.1
        have lg_82_4 : g_82 4 = (tI M_77 1 4).toInt := p0r_76.2.2.1.1
        have lg_82_7 : g_82 7 = (tI M_77 t 4).toInt := p0r_76.2.2.2.1.1
        have lg_82_8 : g_82 8 = (tI M_77 t 5).toInt := p0r_76.2.2.2.1.2.1
        have tq_83 : tq t td M_77 := tq_fr ht hq q_79 q_81
        exact hQ _ _ _ _ _ hw (⟨iM_77, (q_78), (f0_12 q_79), (q_80), (ot_12 ht q_79 q_81), (by rw [pe_5, if_neg (by omega)]; unfold pp_p0; rw [if_neg (by omega), if_neg (fun q => by omega), ← eg_82]; exact p0r_76), (by rw [qe_5, if_neg (by omega)]; unfold qq_p0; rw [if_neg (by omega), if_neg (fun q => by omega)]; exact tq_83)⟩) dX4_readPart_144
      · refine lv_iload_n hx hb dX4_readPart_117 rfl (lv_at hl 0 rfl) ?_
        refine lv_bipush (v := 21) hx hb dX4_readPart_118 (by decide) ?_
        refine sb_icmp_gt (tgt := 139) hx hb rfl (by decide : (21 : Int32).toInt = 21) dX4_readPart_120 (by decide) (fun c_120_59 => ?_) (fun c_120_59 => ?_)
        · refine lv_aload_n hx hb dX4_readPart_139 rfl (lv_at hl 1 rfl) ?_
          refine lv_iconst (v := 1) hx hb dX4_readPart_140 (by decide) ?_
          refine ti_callVv (ci := 4) (av := [.int 1]) C hw (x_X4_refuse l D A cy hJ M hI t ht 1 B n rg hr) ⟨ml_X4_82, ym_X4_refuse, yv_X4_refuse, yi_X4_refuse, yc_X4_refuse⟩ yd_X4_refuse ob_1 (by decide) rfl rfl hl.1 (Nat.le_of_ble_eq_true rfl) ⟨by decide, by decide⟩ ⟨Nat.zero_le _, Nat.zero_le _⟩ dX4_readPart_141 (fun M_85 H locs hp_85 hw => ?_)
          obtain ⟨iM_85, q_86, q_87, q_88, q_89, p0r_84⟩ := hp_85
          have hlr_84_1 : (1 : Int32).toInt = 1 := by decide
          simp only [hlr_84_1] at p0r_84
          obtain ⟨g_90, eg_90⟩ : ∃ z : Nat → Int, z = pp_rf 1 rg := ⟨_, rfl⟩
          rw [← eg_90] at p0r_84
          have lg_90_0 : g_90 0 = (tI M_85 2 4).toInt := p0r_84.2.1.1
          have lg_90_1 : g_90 1 = (tI M_85 2 6).toInt := p0r_84.2.1.2.1
          have lg_90_4 : g_90 4 = (tI M_85 1 4).toInt := p0r_84.2.2.1.1
          have lg_90_7 : g_90 7 = (tI M_85 t 4).toInt := p0r_84.2.2.2.1.1
          have lg_90_8 : g_90 8 = (tI M_85 t 5).toInt := p0r_84.2.2.2.1.2.1
          have tq_91 : tq t td M_85 := tq_fr ht hq q_87 q_89
          exact hQ _ _ _ _ _ hw (⟨iM_85, (q_86), (f0_12 q_87), (q_88), (ot_12 ht q_87 q_89), (by rw [pe_5, if_neg (by omega)]; unfold pp_p0; rw [if_neg (by omega), if_neg (fun q => by omega), ← eg_90]; exact p0r_84), (by rw [qe_5, if_neg (by omega)]; unfold qq_p0; rw [if_neg (by omega), if_neg (fun q => by omega)]; exact tq_91)⟩) dX4_readPart_144
        · refine lv_aload_n hx hb dX4_readPart_123 rfl (lv_at hl 1 rfl) ?_
          refine ti_get (ci := 4) (k := 2) (N := 6) (T := TX4) (v := .ref (A (ti_laws t j) 0)) C hw iw_4 rfl ob_1 (by decide) (by decide) fl_X4_154 rfl (ti_Tv (hL)) dX4_readPart_124 ?_
          refine lv_iload_n hx hb dX4_readPart_127 rfl (lv_at hl 0 rfl) ?_
          refine lv_ineg hx hb dX4_readPart_128 ?_
          refine lv_topi (fun x_61 ex_61 => ?_)
          have tx_61 : x_61.toInt = -x_1.toInt := i_neg ex_61 rfl (by omega)
          refine ti_callVv (ci := 1) (av := [.int x_61]) C hw (x_X1_add l D A cy hJ M hI t ht j hj x_61 (by first | omega | exact Or.inl (by decide) | exact Or.inr (by decide)) B n rg hr td hq) ⟨ml_X4_170, ym_X1_add, yv_X1_add, yi_X1_add, yc_X1_add⟩ yd_X1_add (ob_l ht hj) (by decide) rfl rfl hl.1 (Nat.le_of_ble_eq_true rfl) ⟨by decide, by decide⟩ ⟨Nat.zero_le _, Nat.zero_le _⟩ dX4_readPart_129 (fun M_63 H locs hp_63 hw => ?_)
          obtain ⟨iM_63, q_64, q_65, q_66, p0r_62, p1r_62⟩ := hp_63
          have lM_63_0 : rg 0 = (tI M_63 2 4).toInt := p0r_62.2.1.1
          have lM_63_1 : rg 1 = (tI M_63 2 6).toInt := p0r_62.2.1.2.1
          have lM_63_4 : rg 4 = (tI M_63 1 4).toInt := p0r_62.2.2.1.1
          have lM_63_7 : rg 7 = (tI M_63 t 4).toInt := p0r_62.2.2.2.1.1
          have lM_63_8 : rg 8 = (tI M_63 t 5).toInt := p0r_62.2.2.2.1.2.1
          obtain ⟨d_67, ed_67⟩ : ∃ z : Nat → Int, z = qa j x_61.toInt td := ⟨_, rfl⟩
          rw [← ed_67] at p1r_62
          refine lv_aload_n hx hb dX4_readPart_132 rfl (lv_at hl 1 rfl) ?_
          refine ti_callVvE (ci := 4) (av := []) C hE hw (x_X4_knot l D A cy hJ M_63 iM_63 t ht ((tT_fr q_64).trans hT) B n rg p0r_62 d_67 p1r_62) ⟨ml_X4_167, ym_X4_knot, yv_X4_knot, yi_X4_knot, yc_X4_knot⟩ yd_X4_knot ob_1 (by decide) rfl rfl hl.1 (Nat.le_of_ble_eq_true rfl) ⟨by decide, by decide⟩ ⟨Nat.zero_le _, Nat.zero_le _⟩ dX4_readPart_133 (fun M_69 H locs hp_69 hw => ?_)
          obtain ⟨iM_69, q_70, q_71, q_72, q_73, q_74, p0r_68, p1r_68⟩ := hp_69
          obtain ⟨g_75, eg_75⟩ : ∃ z : Nat → Int, z = pp_kn B n rg := ⟨_, rfl⟩
          rw [← eg_75] at p0r_68
          have lg_75_0 : g_75 0 = (tI M_69 2 4).toInt := p0r_68.2.1.1
          have lg_75_1 : g_75 1 = (tI M_69 2 6).toInt := p0r_68.2.1.2.1
          have lg_75_4 : g_75 4 = (tI M_69 1 4).toInt := p0r_68.2.2.1.1
          have lg_75_7 : g_75 7 = (tI M_69 t 4).toInt := p0r_68.2.2.2.1.1
          have lg_75_8 : g_75 8 = (tI M_69 t 5).toInt := p0r_68.2.2.2.1.2.1
          refine lv_goto (tgt := 144) hx hb dX4_readPart_136 (by decide) ?_
          exact hQ _ _ _ _ _ hw (⟨iM_69, ((q_70).trans q_64), (f0.trans q_71 (f0_x q_65)), ((q_72).trans ((q_65 1).2.1)), (ot.trans q_73 q_66), (by rw [pe_5, if_neg (by omega)]; unfold pp_p0; rw [if_neg (by omega), if_pos ⟨by omega, by omega⟩, ← eg_75]; exact p0r_68), (by rw [qe_5, if_neg (by omega)]; unfold qq_p0; rw [if_neg (by omega), if_pos ⟨by omega, by omega⟩, show -(rg 0) = x_61.toInt by omega, ← ed_67]; exact p1r_68)⟩) dX4_readPart_144
    · refine lv_aload_n hx hb dX4_readPart_63 rfl (lv_at hl 1 rfl) ?_
      refine ti_get (ci := 4) (k := 0) (N := 6) (T := TX4) (v := .ref (A 2 0)) C hw iw_4 rfl ob_1 (by decide) (by decide) fl_X4_12 rfl rfl dX4_readPart_64 ?_
      refine ti_get (ci := 7) (k := 6) (N := 7) (T := TX7) C hw iw_7 rfl ob_2 (by decide) (by decide) fl_X4_95 rfl rfl dX4_readPart_67 ?_
      refine lv_topi (fun x_32 ex_32 => ?_)
      have bx_32 : 0 ≤ x_32.toInt ∧ x_32.toInt ≤ 2147483647 := cI_rd hI ob_2.1 ex_32
      have ux_32 : (tI M 2 6).toInt = x_32.toInt := by rw [ex_32]
      refine lv_sipush (v := 9999) hx hb dX4_readPart_70 (by decide) ?_
      refine sb_icmp_le (tgt := 84) hx hb rfl (by decide : (9999 : Int32).toInt = 9999) dX4_readPart_73 (by decide) (fun c_73_32 => ?_) (fun c_73_32 => ?_)
      · refine lv_iload_n hx hb dX4_readPart_84 rfl (lv_at hl 0 rfl) ?_
        refine lv_bipush (v := 26) hx hb dX4_readPart_85 (by decide) ?_
        refine sb_icmp_ne (tgt := 111) hx hb rfl (by decide : (26 : Int32).toInt = 26) dX4_readPart_87 (by decide) (fun h => by omega) (fun c_87_42 => ?_)
        refine lv_aload_n hx hb dX4_readPart_90 rfl (lv_at hl 1 rfl) ?_
        refine ti_get (ci := 4) (k := 2) (N := 6) (T := TX4) (v := .ref (A (ti_laws t j) 0)) C hw iw_4 rfl ob_1 (by decide) (by decide) fl_X4_154 rfl (ti_Tv (hL)) dX4_readPart_91 ?_
        refine lv_aload_n hx hb dX4_readPart_94 rfl (lv_at hl 1 rfl) ?_
        refine ti_get (ci := 4) (k := 0) (N := 6) (T := TX4) (v := .ref (A 2 0)) C hw iw_4 rfl ob_1 (by decide) (by decide) fl_X4_12 rfl rfl dX4_readPart_95 ?_
        refine ti_get (ci := 7) (k := 6) (N := 7) (T := TX7) C hw iw_7 rfl ob_2 (by decide) (by decide) fl_X4_95 rfl rfl dX4_readPart_98 ?_
        refine ti_top (y := x_32) (ex_32.symm) ?_
        have u_44 : (tI M 2 6).toInt = (x_32 : Int32).toInt := by rw [(ex_32.symm)]
        refine ti_callVv (ci := 1) (av := [.int x_32]) C hw (x_X1_add l D A cy hJ M hI t ht j hj x_32 (by first | omega | exact Or.inl (by decide) | exact Or.inr (by decide)) B n rg hr td hq) ⟨ml_X4_170, ym_X1_add, yv_X1_add, yi_X1_add, yc_X1_add⟩ yd_X1_add (ob_l ht hj) (by decide) rfl rfl hl.1 (Nat.le_of_ble_eq_true rfl) ⟨by decide, by decide⟩ ⟨Nat.zero_le _, Nat.zero_le _⟩ dX4_readPart_101 (fun M_46 H locs hp_46 hw => ?_)
        obtain ⟨iM_46, q_47, q_48, q_49, p0r_45, p1r_45⟩ := hp_46
        have lM_46_0 : rg 0 = (tI M_46 2 4).toInt := p0r_45.2.1.1
        have lM_46_1 : rg 1 = (tI M_46 2 6).toInt := p0r_45.2.1.2.1
        have lM_46_4 : rg 4 = (tI M_46 1 4).toInt := p0r_45.2.2.1.1
        have lM_46_7 : rg 7 = (tI M_46 t 4).toInt := p0r_45.2.2.2.1.1
        have lM_46_8 : rg 8 = (tI M_46 t 5).toInt := p0r_45.2.2.2.1.2.1
        obtain ⟨d_50, ed_50⟩ : ∃ z : Nat → Int, z = qa j x_32.toInt td := ⟨_, rfl⟩
        rw [← ed_50] at p1r_45
        refine lv_aload_n hx hb dX4_readPart_104 rfl (lv_at hl 1 rfl) ?_
        refine ti_callVvE (ci := 4) (av := []) C hE hw (x_X4_knot l D A cy hJ M_46 iM_46 t ht ((tT_fr q_47).trans hT) B n rg p0r_45 d_50 p1r_45) ⟨ml_X4_167, ym_X4_knot, yv_X4_knot, yi_X4_knot, yc_X4_knot⟩ yd_X4_knot ob_1 (by decide) rfl rfl hl.1 (Nat.le_of_ble_eq_true rfl) ⟨by decide, by decide⟩ ⟨Nat.zero_le _, Nat.zero_le _⟩ dX4_readPart_105 (fun M_52 H locs hp_52 hw => ?_)
        obtain ⟨iM_52, q_53, q_54, q_55, q_56, q_57, p0r_51, p1r_51⟩ := hp_52
        obtain ⟨g_58, eg_58⟩ : ∃ z : Nat → Int, z = pp_kn B n rg := ⟨_, rfl⟩
        rw [← eg_58] at p0r_51
        have lg_58_0 : g_58 0 = (tI M_52 2 4).toInt := p0r_51.2.1.1
        have lg_58_1 : g_58 1 = (tI M_52 2 6).toInt := p0r_51.2.1.2.1
        have lg_58_4 : g_58 4 = (tI M_52 1 4).toInt := p0r_51.2.2.1.1
        have lg_58_7 : g_58 7 = (tI M_52 t 4).toInt := p0r_51.2.2.2.1.1
        have lg_58_8 : g_58 8 = (tI M_52 t 5).toInt := p0r_51.2.2.2.1.2.1
        refine lv_goto (tgt := 144) hx hb dX4_readPart_108 (by decide) ?_
        exact hQ _ _ _ _ _ hw (⟨iM_52, ((q_53).trans q_47), (f0.trans q_54 (f0_x q_48)), ((q_55).trans ((q_48 1).2.1)), (ot.trans q_56 q_49), (by rw [pe_5, if_neg (by omega)]; unfold pp_p0; rw [if_pos (by omega), if_neg (by omega), ← eg_58]; exact p0r_51), (by rw [qe_5, if_neg (by omega)]; unfold qq_p0; rw [if_pos (by omega), if_neg (by omega), show rg 1 = x_32.toInt by omega, ← ed_50]; exact p1r_51)⟩) dX4_readPart_144
      · refine lv_aload_n hx hb dX4_readPart_76 rfl (lv_at hl 1 rfl) ?_
        refine lv_iconst (v := 2) hx hb dX4_readPart_77 (by decide) ?_
        refine ti_callVv (ci := 4) (av := [.int 2]) C hw (x_X4_refuse l D A cy hJ M hI t ht 2 B n rg hr) ⟨ml_X4_82, ym_X4_refuse, yv_X4_refuse, yi_X4_refuse, yc_X4_refuse⟩ yd_X4_refuse ob_1 (by decide) rfl rfl hl.1 (Nat.le_of_ble_eq_true rfl) ⟨by decide, by decide⟩ ⟨Nat.zero_le _, Nat.zero_le _⟩ dX4_readPart_78 (fun M_35 H locs hp_35 hw => ?_)
        obtain ⟨iM_35, q_36, q_37, q_38, q_39, p0r_34⟩ := hp_35
        have hlr_34_2 : (2 : Int32).toInt = 2 := by decide
        simp only [hlr_34_2] at p0r_34
        obtain ⟨g_40, eg_40⟩ : ∃ z : Nat → Int, z = pp_rf 2 rg := ⟨_, rfl⟩
        rw [← eg_40] at p0r_34
        have lg_40_0 : g_40 0 = (tI M_35 2 4).toInt := p0r_34.2.1.1
        have lg_40_1 : g_40 1 = (tI M_35 2 6).toInt := p0r_34.2.1.2.1
        have lg_40_4 : g_40 4 = (tI M_35 1 4).toInt := p0r_34.2.2.1.1
        have lg_40_7 : g_40 7 = (tI M_35 t 4).toInt := p0r_34.2.2.2.1.1
        have lg_40_8 : g_40 8 = (tI M_35 t 5).toInt := p0r_34.2.2.2.1.2.1
        have tq_41 : tq t td M_35 := tq_fr ht hq q_37 q_39
        refine lv_goto (tgt := 144) hx hb dX4_readPart_81 (by decide) ?_
        exact hQ _ _ _ _ _ hw (⟨iM_35, (q_36), (f0_12 q_37), (q_38), (ot_12 ht q_37 q_39), (by rw [pe_5, if_neg (by omega)]; unfold pp_p0; rw [if_pos (by omega), if_pos (by omega), ← eg_40]; exact p0r_34), (by rw [qe_5, if_neg (by omega)]; unfold qq_p0; rw [if_pos (by omega), if_pos (by omega)]; exact tq_41)⟩) dX4_readPart_144
  · refine lv_iload_n hx hb dX4_readPart_14 rfl (lv_at hl 2 rfl) ?_
    refine lv_bipush (v := 8) hx hb dX4_readPart_15 (by decide) ?_
    refine sb_icmp_lt (tgt := 28) hx hb (by decide : (3 : Int32).toInt = 3) (by decide : (8 : Int32).toInt = 8) dX4_readPart_17 (by decide) (fun c_17_2 => ?_) (fun h => absurd h (by decide))
    refine lv_iload_n hx hb dX4_readPart_28 rfl (lv_at hl 0 rfl) ?_
    refine lv_bipush (v := 30) hx hb dX4_readPart_29 (by decide) ?_
    refine sb_icmp_ne (tgt := 57) hx hb rfl (by decide : (30 : Int32).toInt = 30) dX4_readPart_31 (by decide) (fun h => by omega) (fun c_31_4 => ?_)
    refine lv_aload_n hx hb dX4_readPart_34 rfl (lv_at hl 1 rfl) ?_
    refine ti_get (ci := 4) (k := 0) (N := 6) (T := TX4) (v := .ref (A 2 0)) C hw iw_4 rfl ob_1 (by decide) (by decide) fl_X4_12 rfl rfl dX4_readPart_35 ?_
    refine ti_callVvE (ci := 7) (av := []) C hE hw (x_X7_advance l D A cy hJ M hI ) ⟨ml_X4_92, ym_X7_advance, yv_X7_advance, yi_X7_advance, yc_X7_advance⟩ yd_X7_advance ob_2 (by decide) rfl rfl hl.1 (Nat.le_of_ble_eq_true rfl) ⟨by decide, by decide⟩ ⟨Nat.zero_le _, Nat.zero_le _⟩ dX4_readPart_38 (fun M_7 H locs hp_7 hw => ?_)
    obtain ⟨iM_7, q_8, q_9, q_10, q_11, p0r_6, p1r_6, p2r_6, p3r_6⟩ := hp_7
    have hs_12 := rC_av ht hr q_11 q_9 p0r_6 p1r_6 p2r_6 p3r_6
    obtain ⟨g_13, eg_13⟩ : ∃ z : Nat → Int, z = pp_av B n rg := ⟨_, rfl⟩
    rw [← eg_13] at hs_12
    have lg_13_0 : g_13 0 = (tI M_7 2 4).toInt := hs_12.2.1.1
    have lg_13_1 : g_13 1 = (tI M_7 2 6).toInt := hs_12.2.1.2.1
    have lg_13_4 : g_13 4 = (tI M_7 1 4).toInt := hs_12.2.2.1.1
    have lg_13_7 : g_13 7 = (tI M_7 t 4).toInt := hs_12.2.2.2.1.1
    have lg_13_8 : g_13 8 = (tI M_7 t 5).toInt := hs_12.2.2.2.1.2.1
    have tq_14 : tq t td M_7 := tq_fr ht hq (o2_12 q_9) q_11.1
    refine lv_aload_n hx hb dX4_readPart_41 rfl (lv_at hl 1 rfl) ?_
    refine lv_iload_n hx hb dX4_readPart_42 rfl (lv_at hl 2 rfl) ?_
    refine lv_iconst (v := 1) hx hb dX4_readPart_43 (by decide) ?_
    refine lv_iadd hx hb dX4_readPart_44 ?_
    refine ti_top (y := 4) (by decide) ?_
    refine ti_callVvE (ci := 4) (av := [.int 4]) C hE hw (x_X4_readEither_4 l D A cy hJ M_7 iM_7 t ht ((tT_fr q_8).trans hT) j hj ((tT_fr q_8).trans hL) B n g_13 hs_12 td tq_14) ⟨ml_X4_158, ym_X4_readEither, yv_X4_readEither, yi_X4_readEither, yc_X4_readEither⟩ yd_X4_readEither ob_1 (by decide) rfl rfl hl.1 (Nat.le_of_ble_eq_true rfl) ⟨by decide, by decide⟩ ⟨Nat.zero_le _, Nat.zero_le _⟩ dX4_readPart_45 (fun M_16 H locs hp_16 hw => ?_)
    obtain ⟨iM_16, q_17, q_18, q_19, q_20, p0r_15, p1r_15⟩ := hp_16
    obtain ⟨g_21, eg_21⟩ : ∃ z : Nat → Int, z = pp_ei B n (pp_pt B n 4) g_13 := ⟨_, rfl⟩
    rw [← eg_21] at p0r_15
    have lg_21_0 : g_21 0 = (tI M_16 2 4).toInt := p0r_15.2.1.1
    have lg_21_1 : g_21 1 = (tI M_16 2 6).toInt := p0r_15.2.1.2.1
    have lg_21_4 : g_21 4 = (tI M_16 1 4).toInt := p0r_15.2.2.1.1
    have lg_21_7 : g_21 7 = (tI M_16 t 4).toInt := p0r_15.2.2.2.1.1
    have lg_21_8 : g_21 8 = (tI M_16 t 5).toInt := p0r_15.2.2.2.1.2.1
    obtain ⟨d_22, ed_22⟩ : ∃ z : Nat → Int, z = qq_ei B n j (pp_pt B n 4) (qq_pt B n j 4) g_13 td := ⟨_, rfl⟩
    rw [← ed_22] at p1r_15
    refine lv_aload_n hx hb dX4_readPart_48 rfl (lv_at hl 1 rfl) ?_
    refine lv_bipush (v := 31) hx hb dX4_readPart_49 (by decide) ?_
    refine ti_callVvE (ci := 4) (av := [.int 31]) C hE hw (x_X4_take l D A cy hJ M_16 iM_16 t ht 31 B n g_21 p0r_15) ⟨ml_X4_85, ym_X4_take, yv_X4_take, yi_X4_take, yc_X4_take⟩ yd_X4_take ob_1 (by decide) rfl rfl hl.1 (Nat.le_of_ble_eq_true rfl) ⟨by decide, by decide⟩ ⟨Nat.zero_le _, Nat.zero_le _⟩ dX4_readPart_51 (fun M_24 H locs hp_24 hw => ?_)
    obtain ⟨iM_24, q_25, q_26, q_27, q_28, p0r_23⟩ := hp_24
    have hlr_23_31 : (31 : Int32).toInt = 31 := by decide
    simp only [hlr_23_31] at p0r_23
    obtain ⟨g_29, eg_29⟩ : ∃ z : Nat → Int, z = pp_tk B n 31 g_21 := ⟨_, rfl⟩
    rw [← eg_29] at p0r_23
    have lg_29_0 : g_29 0 = (tI M_24 2 4).toInt := p0r_23.2.1.1
    have lg_29_1 : g_29 1 = (tI M_24 2 6).toInt := p0r_23.2.1.2.1
    have lg_29_4 : g_29 4 = (tI M_24 1 4).toInt := p0r_23.2.2.1.1
    have lg_29_7 : g_29 7 = (tI M_24 t 4).toInt := p0r_23.2.2.2.1.1
    have lg_29_8 : g_29 8 = (tI M_24 t 5).toInt := p0r_23.2.2.2.1.2.1
    have tq_30 : tq t d_22 M_24 := tq_fr ht p1r_15 q_26 q_28
    refine lv_goto (tgt := 144) hx hb dX4_readPart_54 (by decide) ?_
    exact hQ _ _ _ _ _ hw (⟨iM_24, ((q_25).trans ((q_17).trans q_8)), (f0.trans (f0_12 q_26) (f0.trans q_18 (f0_12 (o2_12 q_9)))), ((q_27).trans ((q_19).trans q_10)), (ot.trans (ot_12 ht q_26 q_28) (ot.trans q_20 (ot_12 ht (o2_12 q_9) q_11.1))), (by rw [pe_5, if_pos (by omega), ← eg_13, ← eg_21, ← eg_29]; exact p0r_23), (by rw [qe_5, if_pos (by omega), ← eg_13, ← ed_22]; exact tq_30)⟩) dX4_readPart_144
set_option maxHeartbeats 4000000 in
set_option maxRecDepth 100000 in
theorem x_X4_readProduct_3 (l : Launch) (D : va_G) (A : Nat → Nat → Nat) (cy : Nat → ClassId) (hJ : ti_inj ti_LT A) (M : ti_M) (hI : cI Tc M) (t : Nat) (ht : t = 3 ∨ t = 4) (hT : tT M 1 1 = some t) (j : Nat) (hj : j < 3) (hL : tT M 1 2 = some (ti_laws t j)) (B : Nat → Int) (n : Nat) (rg : Nat → Int) (hr : rC B n t rg M) (td : Nat → Int) (hq : tq t td M) : ti_KvE l yX4_readProduct cX4_readProduct 4 44 ti_LT D A cy M [.ref (A 1 0), .int 3] (fun M2 => cI Tc M2 ∧ M2.2.2.2 = M.2.2.2 ∧ f0 M2 M ∧ tI M2 2 1 = tI M 2 1 ∧ ot t M2 M ∧ rC B n t (pp_pd B n (pp_pt B n 5) rg) M2 ∧ tq t (qq_pd B n j (pp_pt B n 5) (qq_pt B n j 5) rg td) M2) := by
  refine ti_eVE yp_X4_readProduct hJ ti_LT_nd (Nat.le_of_ble_eq_true rfl) ?_
  intro p e s m args below meth c Q H0 C hE hQ hw ls hl
  have hx := C.1
  have hb := C.2.1
  have hl : lv_has ls 4 [(0, .ref (A 1 0)), (1, .int 3)] := hl
  have l0 : rg 0 = (tI M 2 4).toInt := hr.2.1.1
  have l1 : rg 1 = (tI M 2 6).toInt := hr.2.1.2.1
  have l2 : rg 2 = (tI M 2 5).toInt := hr.2.1.2.2.1
  have l3 : rg 3 = (tI M 2 3).toInt := hr.2.1.2.2.2
  have l4 : rg 4 = (tI M 1 4).toInt := hr.2.2.1.1
  have l5 : rg 5 = (tI M 1 5).toInt := hr.2.2.1.2.1
  have l7 : rg 7 = (tI M t 4).toInt := hr.2.2.2.1.1
  have l8 : rg 8 = (tI M t 5).toInt := hr.2.2.2.1.2.1
  have l9 : rg 9 = (tI M t 3).toInt := hr.2.2.2.1.2.2
  refine lv_aload_n hx hb dX4_readProduct_0 rfl (lv_at hl 0 rfl) ?_
  refine lv_iload_n hx hb dX4_readProduct_1 rfl (lv_at hl 1 rfl) ?_
  refine ti_callVvE (ci := 4) (av := [.int 3]) C hE hw (x_X4_readPart_3 l D A cy hJ M hI t ht (hT) j hj (hL) B n rg hr td hq) ⟨ml_X4_187, ym_X4_readPart, yv_X4_readPart, yi_X4_readPart, yc_X4_readPart⟩ yd_X4_readPart ob_1 (by decide) rfl rfl hl.1 (Nat.le_of_ble_eq_true rfl) ⟨by decide, by decide⟩ ⟨Nat.zero_le _, Nat.zero_le _⟩ dX4_readProduct_2 (fun M_2 H locs hp_2 hw => ?_)
  obtain ⟨iM_2, q_3, q_4, q_5, q_6, p0r_1, p1r_1⟩ := hp_2
  obtain ⟨g_7, eg_7⟩ : ∃ z : Nat → Int, z = pp_pt B n 5 rg := ⟨_, rfl⟩
  rw [← eg_7] at p0r_1
  have lg_7_0 : g_7 0 = (tI M_2 2 4).toInt := p0r_1.2.1.1
  have lg_7_1 : g_7 1 = (tI M_2 2 6).toInt := p0r_1.2.1.2.1
  have lg_7_4 : g_7 4 = (tI M_2 1 4).toInt := p0r_1.2.2.1.1
  have lg_7_7 : g_7 7 = (tI M_2 t 4).toInt := p0r_1.2.2.2.1.1
  have lg_7_8 : g_7 8 = (tI M_2 t 5).toInt := p0r_1.2.2.2.1.2.1
  obtain ⟨d_8, ed_8⟩ : ∃ z : Nat → Int, z = qq_pt B n j 5 rg td := ⟨_, rfl⟩
  rw [← ed_8] at p1r_1
  refine lv_iconst (v := 0) hx hb dX4_readProduct_5 (by decide) ?_
  refine lv_istore_n (lv' := [(2, .int 0), (0, .ref (A 1 0)), (1, .int 3)]) hx hb dX4_readProduct_6 rfl hl (by decide) rfl (fun ls hl => ?_)
  have hl_7_24 : ∀ (n_25 : Nat) (x_9 : Int32) (M_12 : ti_M) (g_19 : Nat → Int) (d_21 : Nat → Int) (H : Heap) (locs : List Loc) (ls : Array Slot), (64 - x_9.toInt : Int).toNat < n_25 → (0 ≤ x_9.toInt) → (x_9.toInt ≤ 64) → (cI Tc M_12) → (M_12.2.2.2 = M.2.2.2) → (f0 M_12 M) → (tI M_12 2 1 = tI M 2 1) → (ot t M_12 M) → (tT M_12 1 1 = (some t)) → (tT M_12 1 2 = (some (ti_laws t j))) → (rC B n t g_19 M_12) → (tq t d_21 M_12) → (pp_lp pp_qT (fun s => (pp_pt B n 5) (pp_kn B n s)) 64 g_7 = pp_lp pp_qT (fun s => (pp_pt B n 5) (pp_kn B n s)) (64 - (x_9.toInt).toNat) g_19) → (qq_lp pp_qT (fun s => (pp_pt B n 5) (pp_kn B n s)) (fun s td => qa j (-(s 0)) ((qq_pt B n j 5) (pp_kn B n s) td)) 64 g_7 d_8 = qq_lp pp_qT (fun s => (pp_pt B n 5) (pp_kn B n s)) (fun s td => qa j (-(s 0)) ((qq_pt B n j 5) (pp_kn B n s) td)) (64 - (x_9.toInt).toNat) g_19 d_21) → ti_H ti_LT D A cy H0 M_12 H locs → lv_has ls 4 [(2, .int x_9), (0, .ref (A 1 0)), (1, .int 3)] → W p l e (ti_rm 44) s m args below meth c H locs 0 0 Q (F0 m 7 ls []) := by
    intro n_25
    induction n_25 with
    | zero => intro x_9 M_12 g_19 d_21 H locs ls hf_25; exact absurd hf_25 (Nat.not_lt_zero _)
    | succ n_25 ih_25 =>
      intro x_9 M_12 g_19 d_21 H locs ls hf_25 b_10 b_11 iM_12 f_13 f_14 f_15 f_16 f_17 f_18 hs_20 tq_22 j_23 j_24 hw hl
      have lg_19_0 : g_19 0 = (tI M_12 2 4).toInt := hs_20.2.1.1
      have lg_19_1 : g_19 1 = (tI M_12 2 6).toInt := hs_20.2.1.2.1
      have lg_19_4 : g_19 4 = (tI M_12 1 4).toInt := hs_20.2.2.1.1
      have lg_19_7 : g_19 7 = (tI M_12 t 4).toInt := hs_20.2.2.2.1.1
      have lg_19_8 : g_19 8 = (tI M_12 t 5).toInt := hs_20.2.2.2.1.2.1
      refine lv_iload_n hx hb dX4_readProduct_7 rfl (lv_at hl 0 rfl) ?_
      refine lv_bipush (v := 64) hx hb dX4_readProduct_8 (by decide) ?_
      refine sb_icmp_ge (tgt := 69) hx hb rfl (by decide : (64 : Int32).toInt = 64) dX4_readProduct_10 (by decide) (fun c_10_25 => ?_) (fun c_10_25 => ?_)
      · exact hQ _ _ _ _ _ hw (⟨iM_12, (f_13), f_14, (f_15), f_16, (by unfold pp_pd; rw [← eg_7, j_23, lp_end (P := pp_qT) (f := 64 - x_9.toInt.toNat) (s := g_19) (Or.inl (by omega))]; exact hs_20), (by unfold qq_pd; rw [← eg_7, ← ed_8, j_24, qlp_end (P := pp_qT) (f := 64 - x_9.toInt.toNat) (s := g_19) (Or.inl (by omega))]; exact tq_22)⟩) dX4_readProduct_69
      · refine lv_aload_n hx hb dX4_readProduct_13 rfl (lv_at hl 1 rfl) ?_
        refine ti_get (ci := 4) (k := 0) (N := 6) (T := TX4) (v := .ref (A 2 0)) C hw iw_4 rfl ob_1 (by decide) (by decide) fl_X4_12 rfl rfl dX4_readProduct_14 ?_
        refine ti_get (ci := 7) (k := 4) (N := 7) (T := TX7) C hw iw_7 rfl ob_2 (by decide) (by decide) fl_X4_41 rfl rfl dX4_readProduct_17 ?_
        refine lv_topi (fun x_27 ex_27 => ?_)
        have bx_27 : 0 ≤ x_27.toInt ∧ x_27.toInt ≤ 41 := cI_rd iM_12 ob_2.1 ex_27
        have ux_27 : (tI M_12 2 4).toInt = x_27.toInt := by rw [ex_27]
        refine lv_bipush (v := 40) hx hb dX4_readProduct_20 (by decide) ?_
        refine sb_icmp_eq (tgt := 37) hx hb rfl (by decide : (40 : Int32).toInt = 40) dX4_readProduct_22 (by decide) (fun c_22_27 => ?_) (fun c_22_27 => ?_)
        · refine lv_aload_n hx hb dX4_readProduct_37 rfl (lv_at hl 1 rfl) ?_
          refine ti_get (ci := 4) (k := 0) (N := 6) (T := TX4) (v := .ref (A 2 0)) C hw iw_4 rfl ob_1 (by decide) (by decide) fl_X4_12 rfl rfl dX4_readProduct_38 ?_
          refine ti_get (ci := 7) (k := 4) (N := 7) (T := TX7) C hw iw_7 rfl ob_2 (by decide) (by decide) fl_X4_41 rfl rfl dX4_readProduct_41 ?_
          refine ti_top (y := x_27) (ex_27.symm) ?_
          have u_31 : (tI M_12 2 4).toInt = (x_27 : Int32).toInt := by rw [(ex_27.symm)]
          refine lv_istore_n (lv' := [(3, .int x_27), (2, .int x_9), (0, .ref (A 1 0)), (1, .int 3)]) hx hb dX4_readProduct_44 rfl hl (by decide) rfl (fun ls hl => ?_)
          refine lv_aload_n hx hb dX4_readProduct_45 rfl (lv_at hl 2 rfl) ?_
          refine ti_callVvE (ci := 4) (av := []) C hE hw (x_X4_knot l D A cy hJ M_12 iM_12 t ht (f_17) B n g_19 hs_20 d_21 tq_22) ⟨ml_X4_167, ym_X4_knot, yv_X4_knot, yi_X4_knot, yc_X4_knot⟩ yd_X4_knot ob_1 (by decide) rfl rfl hl.1 (Nat.le_of_ble_eq_true rfl) ⟨by decide, by decide⟩ ⟨Nat.zero_le _, Nat.zero_le _⟩ dX4_readProduct_46 (fun M_33 H locs hp_33 hw => ?_)
          obtain ⟨iM_33, q_34, q_35, q_36, q_37, q_38, p0r_32, p1r_32⟩ := hp_33
          obtain ⟨g_39, eg_39⟩ : ∃ z : Nat → Int, z = pp_kn B n g_19 := ⟨_, rfl⟩
          rw [← eg_39] at p0r_32
          have lg_39_0 : g_39 0 = (tI M_33 2 4).toInt := p0r_32.2.1.1
          have lg_39_1 : g_39 1 = (tI M_33 2 6).toInt := p0r_32.2.1.2.1
          have lg_39_4 : g_39 4 = (tI M_33 1 4).toInt := p0r_32.2.2.1.1
          have lg_39_7 : g_39 7 = (tI M_33 t 4).toInt := p0r_32.2.2.2.1.1
          have lg_39_8 : g_39 8 = (tI M_33 t 5).toInt := p0r_32.2.2.2.1.2.1
          refine lv_aload_n hx hb dX4_readProduct_49 rfl (lv_at hl 2 rfl) ?_
          refine lv_iload_n hx hb dX4_readProduct_50 rfl (lv_at hl 3 rfl) ?_
          refine ti_callVvE (ci := 4) (av := [.int 3]) C hE hw (x_X4_readPart_3 l D A cy hJ M_33 iM_33 t ht ((tT_fr q_34).trans f_17) j hj ((tT_fr q_34).trans f_18) B n g_39 p0r_32 d_21 p1r_32) ⟨ml_X4_187, ym_X4_readPart, yv_X4_readPart, yi_X4_readPart, yc_X4_readPart⟩ yd_X4_readPart ob_1 (by decide) rfl rfl hl.1 (Nat.le_of_ble_eq_true rfl) ⟨by decide, by decide⟩ ⟨Nat.zero_le _, Nat.zero_le _⟩ dX4_readProduct_51 (fun M_41 H locs hp_41 hw => ?_)
          obtain ⟨iM_41, q_42, q_43, q_44, q_45, p0r_40, p1r_40⟩ := hp_41
          obtain ⟨g_46, eg_46⟩ : ∃ z : Nat → Int, z = pp_pt B n 5 g_39 := ⟨_, rfl⟩
          rw [← eg_46] at p0r_40
          have lg_46_0 : g_46 0 = (tI M_41 2 4).toInt := p0r_40.2.1.1
          have lg_46_1 : g_46 1 = (tI M_41 2 6).toInt := p0r_40.2.1.2.1
          have lg_46_4 : g_46 4 = (tI M_41 1 4).toInt := p0r_40.2.2.1.1
          have lg_46_7 : g_46 7 = (tI M_41 t 4).toInt := p0r_40.2.2.2.1.1
          have lg_46_8 : g_46 8 = (tI M_41 t 5).toInt := p0r_40.2.2.2.1.2.1
          obtain ⟨d_47, ed_47⟩ : ∃ z : Nat → Int, z = qq_pt B n j 5 g_39 d_21 := ⟨_, rfl⟩
          rw [← ed_47] at p1r_40
          refine lv_aload_n hx hb dX4_readProduct_54 rfl (lv_at hl 2 rfl) ?_
          refine ti_get (ci := 4) (k := 2) (N := 6) (T := TX4) (v := .ref (A (ti_laws t j) 0)) C hw iw_4 rfl ob_1 (by decide) (by decide) fl_X4_154 rfl (ti_Tv ((tT_fr q_42).trans ((tT_fr q_34).trans f_18))) dX4_readProduct_55 ?_
          refine lv_iload_n hx hb dX4_readProduct_58 rfl (lv_at hl 0 rfl) ?_
          refine lv_ineg hx hb dX4_readProduct_59 ?_
          refine lv_topi (fun x_48 ex_48 => ?_)
          have tx_48 : x_48.toInt = -x_27.toInt := i_neg ex_48 rfl (by omega)
          refine ti_callVv (ci := 1) (av := [.int x_48]) C hw (x_X1_add l D A cy hJ M_41 iM_41 t ht j hj x_48 (by first | omega | exact Or.inl (by decide) | exact Or.inr (by decide)) B n g_46 p0r_40 d_47 p1r_40) ⟨ml_X4_170, ym_X1_add, yv_X1_add, yi_X1_add, yc_X1_add⟩ yd_X1_add (ob_l ht hj) (by decide) rfl rfl hl.1 (Nat.le_of_ble_eq_true rfl) ⟨by decide, by decide⟩ ⟨Nat.zero_le _, Nat.zero_le _⟩ dX4_readProduct_60 (fun M_50 H locs hp_50 hw => ?_)
          obtain ⟨iM_50, q_51, q_52, q_53, p0r_49, p1r_49⟩ := hp_50
          have lM_50_0 : g_46 0 = (tI M_50 2 4).toInt := p0r_49.2.1.1
          have lM_50_1 : g_46 1 = (tI M_50 2 6).toInt := p0r_49.2.1.2.1
          have lM_50_4 : g_46 4 = (tI M_50 1 4).toInt := p0r_49.2.2.1.1
          have lM_50_7 : g_46 7 = (tI M_50 t 4).toInt := p0r_49.2.2.2.1.1
          have lM_50_8 : g_46 8 = (tI M_50 t 5).toInt := p0r_49.2.2.2.1.2.1
          obtain ⟨d_54, ed_54⟩ : ∃ z : Nat → Int, z = qa j x_48.toInt d_47 := ⟨_, rfl⟩
          rw [← ed_54] at p1r_49
          obtain ⟨x_55, ex_55⟩ : ∃ z : Int32, z = x_9 + 1 := ⟨_, rfl⟩
          have tx_55 : x_55.toInt = x_9.toInt + 1 := i_add ex_55 rfl (by decide) (by omega) (by omega)
          refine lv_iinc (v := x_55) (lv' := [(2, .int x_55), (3, .int x_27), (0, .ref (A 1 0)), (1, .int 3)]) hx hb dX4_readProduct_63 hl (k := 1) rfl (by rw [ex_55]; rfl) (by decide) rfl (fun ls hl => ?_)
          refine lv_goto (tgt := 7) hx hb dX4_readProduct_66 (by decide) ?_
          exact ih_25 x_55 M_50 g_46 d_54 _ _ _ (by omega) (by first | omega | decide) (by first | omega | decide) iM_50 ((q_51).trans ((q_42).trans ((q_34).trans f_13))) (f0.trans (f0_x q_52) (f0.trans q_43 (f0.trans q_35 f_14))) (((q_52 1).2.1).trans ((q_44).trans ((q_36).trans f_15))) (ot.trans q_53 (ot.trans q_45 (ot.trans q_37 f_16))) ((tT_fr q_51).trans ((tT_fr q_42).trans ((tT_fr q_34).trans f_17))) ((tT_fr q_51).trans ((tT_fr q_42).trans ((tT_fr q_34).trans f_18))) p0r_49 p1r_49 (j_23.trans (lp_step (decide_eq_true (by omega)) (by rw [eg_46, eg_39]) (by omega))) (j_24.trans (qlp_step (decide_eq_true (by omega)) (by rw [eg_46, eg_39]) (by rw [ed_54, show x_48.toInt = -(g_19 0) by omega, ed_47, eg_39]) (by omega))) hw (lv_sub hl [0, 2, 3] rfl)
        · refine lv_aload_n hx hb dX4_readProduct_25 rfl (lv_at hl 1 rfl) ?_
          refine ti_get (ci := 4) (k := 0) (N := 6) (T := TX4) (v := .ref (A 2 0)) C hw iw_4 rfl ob_1 (by decide) (by decide) fl_X4_12 rfl rfl dX4_readProduct_26 ?_
          refine ti_get (ci := 7) (k := 4) (N := 7) (T := TX7) C hw iw_7 rfl ob_2 (by decide) (by decide) fl_X4_41 rfl rfl dX4_readProduct_29 ?_
          refine ti_top (y := x_27) (ex_27.symm) ?_
          have u_29 : (tI M_12 2 4).toInt = (x_27 : Int32).toInt := by rw [(ex_27.symm)]
          refine lv_bipush (v := 41) hx hb dX4_readProduct_32 (by decide) ?_
          refine sb_icmp_ne (tgt := 69) hx hb rfl (by decide : (41 : Int32).toInt = 41) dX4_readProduct_34 (by decide) (fun c_34_29 => ?_) (fun c_34_29 => ?_)
          · exact hQ _ _ _ _ _ hw (⟨iM_12, (f_13), f_14, (f_15), f_16, (by unfold pp_pd; rw [← eg_7, j_23, lp_end (P := pp_qT) (f := 64 - x_9.toInt.toNat) (s := g_19) (Or.inr (decide_eq_false (by omega)))]; exact hs_20), (by unfold qq_pd; rw [← eg_7, ← ed_8, j_24, qlp_end (P := pp_qT) (f := 64 - x_9.toInt.toNat) (s := g_19) (Or.inr (decide_eq_false (by omega)))]; exact tq_22)⟩) dX4_readProduct_69
          · refine lv_aload_n hx hb dX4_readProduct_37 rfl (lv_at hl 1 rfl) ?_
            refine ti_get (ci := 4) (k := 0) (N := 6) (T := TX4) (v := .ref (A 2 0)) C hw iw_4 rfl ob_1 (by decide) (by decide) fl_X4_12 rfl rfl dX4_readProduct_38 ?_
            refine ti_get (ci := 7) (k := 4) (N := 7) (T := TX7) C hw iw_7 rfl ob_2 (by decide) (by decide) fl_X4_41 rfl rfl dX4_readProduct_41 ?_
            refine ti_top (y := x_27) (ex_27.symm) ?_
            have u_56 : (tI M_12 2 4).toInt = (x_27 : Int32).toInt := by rw [(ex_27.symm)]
            refine lv_istore_n (lv' := [(3, .int x_27), (2, .int x_9), (0, .ref (A 1 0)), (1, .int 3)]) hx hb dX4_readProduct_44 rfl hl (by decide) rfl (fun ls hl => ?_)
            refine lv_aload_n hx hb dX4_readProduct_45 rfl (lv_at hl 2 rfl) ?_
            refine ti_callVvE (ci := 4) (av := []) C hE hw (x_X4_knot l D A cy hJ M_12 iM_12 t ht (f_17) B n g_19 hs_20 d_21 tq_22) ⟨ml_X4_167, ym_X4_knot, yv_X4_knot, yi_X4_knot, yc_X4_knot⟩ yd_X4_knot ob_1 (by decide) rfl rfl hl.1 (Nat.le_of_ble_eq_true rfl) ⟨by decide, by decide⟩ ⟨Nat.zero_le _, Nat.zero_le _⟩ dX4_readProduct_46 (fun M_58 H locs hp_58 hw => ?_)
            obtain ⟨iM_58, q_59, q_60, q_61, q_62, q_63, p0r_57, p1r_57⟩ := hp_58
            obtain ⟨g_64, eg_64⟩ : ∃ z : Nat → Int, z = pp_kn B n g_19 := ⟨_, rfl⟩
            rw [← eg_64] at p0r_57
            have lg_64_0 : g_64 0 = (tI M_58 2 4).toInt := p0r_57.2.1.1
            have lg_64_1 : g_64 1 = (tI M_58 2 6).toInt := p0r_57.2.1.2.1
            have lg_64_4 : g_64 4 = (tI M_58 1 4).toInt := p0r_57.2.2.1.1
            have lg_64_7 : g_64 7 = (tI M_58 t 4).toInt := p0r_57.2.2.2.1.1
            have lg_64_8 : g_64 8 = (tI M_58 t 5).toInt := p0r_57.2.2.2.1.2.1
            refine lv_aload_n hx hb dX4_readProduct_49 rfl (lv_at hl 2 rfl) ?_
            refine lv_iload_n hx hb dX4_readProduct_50 rfl (lv_at hl 3 rfl) ?_
            refine ti_callVvE (ci := 4) (av := [.int 3]) C hE hw (x_X4_readPart_3 l D A cy hJ M_58 iM_58 t ht ((tT_fr q_59).trans f_17) j hj ((tT_fr q_59).trans f_18) B n g_64 p0r_57 d_21 p1r_57) ⟨ml_X4_187, ym_X4_readPart, yv_X4_readPart, yi_X4_readPart, yc_X4_readPart⟩ yd_X4_readPart ob_1 (by decide) rfl rfl hl.1 (Nat.le_of_ble_eq_true rfl) ⟨by decide, by decide⟩ ⟨Nat.zero_le _, Nat.zero_le _⟩ dX4_readProduct_51 (fun M_66 H locs hp_66 hw => ?_)
            obtain ⟨iM_66, q_67, q_68, q_69, q_70, p0r_65, p1r_65⟩ := hp_66
            obtain ⟨g_71, eg_71⟩ : ∃ z : Nat → Int, z = pp_pt B n 5 g_64 := ⟨_, rfl⟩
            rw [← eg_71] at p0r_65
            have lg_71_0 : g_71 0 = (tI M_66 2 4).toInt := p0r_65.2.1.1
            have lg_71_1 : g_71 1 = (tI M_66 2 6).toInt := p0r_65.2.1.2.1
            have lg_71_4 : g_71 4 = (tI M_66 1 4).toInt := p0r_65.2.2.1.1
            have lg_71_7 : g_71 7 = (tI M_66 t 4).toInt := p0r_65.2.2.2.1.1
            have lg_71_8 : g_71 8 = (tI M_66 t 5).toInt := p0r_65.2.2.2.1.2.1
            obtain ⟨d_72, ed_72⟩ : ∃ z : Nat → Int, z = qq_pt B n j 5 g_64 d_21 := ⟨_, rfl⟩
            rw [← ed_72] at p1r_65
            refine lv_aload_n hx hb dX4_readProduct_54 rfl (lv_at hl 2 rfl) ?_
            refine ti_get (ci := 4) (k := 2) (N := 6) (T := TX4) (v := .ref (A (ti_laws t j) 0)) C hw iw_4 rfl ob_1 (by decide) (by decide) fl_X4_154 rfl (ti_Tv ((tT_fr q_67).trans ((tT_fr q_59).trans f_18))) dX4_readProduct_55 ?_
            refine lv_iload_n hx hb dX4_readProduct_58 rfl (lv_at hl 0 rfl) ?_
            refine lv_ineg hx hb dX4_readProduct_59 ?_
            refine lv_topi (fun x_73 ex_73 => ?_)
            have tx_73 : x_73.toInt = -x_27.toInt := i_neg ex_73 rfl (by omega)
            refine ti_callVv (ci := 1) (av := [.int x_73]) C hw (x_X1_add l D A cy hJ M_66 iM_66 t ht j hj x_73 (by first | omega | exact Or.inl (by decide) | exact Or.inr (by decide)) B n g_71 p0r_65 d_72 p1r_65) ⟨ml_X4_170, ym_X1_add, yv_X1_add, yi_X1_add, yc_X1_add⟩ yd_X1_add (ob_l ht hj) (by decide) rfl rfl hl.1 (Nat.le_of_ble_eq_true rfl) ⟨by decide, by decide⟩ ⟨Nat.zero_le _, Nat.zero_le _⟩ dX4_readProduct_60 (fun M_75 H locs hp_75 hw => ?_)
            obtain ⟨iM_75, q_76, q_77, q_78, p0r_74, p1r_74⟩ := hp_75
            have lM_75_0 : g_71 0 = (tI M_75 2 4).toInt := p0r_74.2.1.1
            have lM_75_1 : g_71 1 = (tI M_75 2 6).toInt := p0r_74.2.1.2.1
            have lM_75_4 : g_71 4 = (tI M_75 1 4).toInt := p0r_74.2.2.1.1
            have lM_75_7 : g_71 7 = (tI M_75 t 4).toInt := p0r_74.2.2.2.1.1
            have lM_75_8 : g_71 8 = (tI M_75 t 5).toInt := p0r_74.2.2.2.1.2.1
            obtain ⟨d_79, ed_79⟩ : ∃ z : Nat → Int, z = qa j x_73.toInt d_72 := ⟨_, rfl⟩
            rw [← ed_79] at p1r_74
            obtain ⟨x_80, ex_80⟩ : ∃ z : Int32, z = x_9 + 1 := ⟨_, rfl⟩
            have tx_80 : x_80.toInt = x_9.toInt + 1 := i_add ex_80 rfl (by decide) (by omega) (by omega)
            refine lv_iinc (v := x_80) (lv' := [(2, .int x_80), (3, .int x_27), (0, .ref (A 1 0)), (1, .int 3)]) hx hb dX4_readProduct_63 hl (k := 1) rfl (by rw [ex_80]; rfl) (by decide) rfl (fun ls hl => ?_)
            refine lv_goto (tgt := 7) hx hb dX4_readProduct_66 (by decide) ?_
            exact ih_25 x_80 M_75 g_71 d_79 _ _ _ (by omega) (by first | omega | decide) (by first | omega | decide) iM_75 ((q_76).trans ((q_67).trans ((q_59).trans f_13))) (f0.trans (f0_x q_77) (f0.trans q_68 (f0.trans q_60 f_14))) (((q_77 1).2.1).trans ((q_69).trans ((q_61).trans f_15))) (ot.trans q_78 (ot.trans q_70 (ot.trans q_62 f_16))) ((tT_fr q_76).trans ((tT_fr q_67).trans ((tT_fr q_59).trans f_17))) ((tT_fr q_76).trans ((tT_fr q_67).trans ((tT_fr q_59).trans f_18))) p0r_74 p1r_74 (j_23.trans (lp_step (decide_eq_true (by omega)) (by rw [eg_71, eg_64]) (by omega))) (j_24.trans (qlp_step (decide_eq_true (by omega)) (by rw [eg_71, eg_64]) (by rw [ed_79, show x_73.toInt = -(g_19 0) by omega, ed_72, eg_64]) (by omega))) hw (lv_sub hl [0, 2, 3] rfl)
  exact hl_7_24 ((64 - 0 : Int).toNat + 1) 0 M_2 g_7 d_8 _ _ _ (Nat.lt_succ_self _) (by have lt0 : (0 : Int32).toInt = 0 := (by decide); first | omega | decide) (by have lt0 : (0 : Int32).toInt = 0 := (by decide); first | omega | decide) iM_2 (q_3) q_4 (q_5) q_6 ((tT_fr q_3).trans hT) ((tT_fr q_3).trans hL) p0r_1 p1r_1 rfl rfl hw (lv_sub hl [0, 1, 2] rfl)
set_option maxHeartbeats 4000000 in
set_option maxRecDepth 100000 in
theorem x_X4_readSum_3 (l : Launch) (D : va_G) (A : Nat → Nat → Nat) (cy : Nat → ClassId) (hJ : ti_inj ti_LT A) (M : ti_M) (hI : cI Tc M) (t : Nat) (ht : t = 3 ∨ t = 4) (hT : tT M 1 1 = some t) (j : Nat) (hj : j < 3) (hL : tT M 1 2 = some (ti_laws t j)) (B : Nat → Int) (n : Nat) (rg : Nat → Int) (hr : rC B n t rg M) (td : Nat → Int) (hq : tq t td M) : ti_KvE l yX4_readSum cX4_readSum 4 45 ti_LT D A cy M [.ref (A 1 0), .int 3] (fun M2 => cI Tc M2 ∧ M2.2.2.2 = M.2.2.2 ∧ f0 M2 M ∧ tI M2 2 1 = tI M 2 1 ∧ ot t M2 M ∧ rC B n t (pp_sm B n (pp_pt B n 5) rg) M2 ∧ tq t (qq_sm B n j (pp_pt B n 5) (qq_pt B n j 5) rg td) M2) := by
  refine ti_eVE yp_X4_readSum hJ ti_LT_nd (Nat.le_of_ble_eq_true rfl) ?_
  intro p e s m args below meth c Q H0 C hE hQ hw ls hl
  have hx := C.1
  have hb := C.2.1
  have hl : lv_has ls 4 [(0, .ref (A 1 0)), (1, .int 3)] := hl
  have l0 : rg 0 = (tI M 2 4).toInt := hr.2.1.1
  have l1 : rg 1 = (tI M 2 6).toInt := hr.2.1.2.1
  have l2 : rg 2 = (tI M 2 5).toInt := hr.2.1.2.2.1
  have l3 : rg 3 = (tI M 2 3).toInt := hr.2.1.2.2.2
  have l4 : rg 4 = (tI M 1 4).toInt := hr.2.2.1.1
  have l5 : rg 5 = (tI M 1 5).toInt := hr.2.2.1.2.1
  have l7 : rg 7 = (tI M t 4).toInt := hr.2.2.2.1.1
  have l8 : rg 8 = (tI M t 5).toInt := hr.2.2.2.1.2.1
  have l9 : rg 9 = (tI M t 3).toInt := hr.2.2.2.1.2.2
  refine lv_aload_n hx hb dX4_readSum_0 rfl (lv_at hl 0 rfl) ?_
  refine lv_iload_n hx hb dX4_readSum_1 rfl (lv_at hl 1 rfl) ?_
  refine ti_callVvE (ci := 4) (av := [.int 3]) C hE hw (x_X4_readProduct_3 l D A cy hJ M hI t ht (hT) j hj (hL) B n rg hr td hq) ⟨ml_X4_184, ym_X4_readProduct, yv_X4_readProduct, yi_X4_readProduct, yc_X4_readProduct⟩ yd_X4_readProduct ob_1 (by decide) rfl rfl hl.1 (Nat.le_of_ble_eq_true rfl) ⟨by decide, by decide⟩ ⟨Nat.zero_le _, Nat.zero_le _⟩ dX4_readSum_2 (fun M_2 H locs hp_2 hw => ?_)
  obtain ⟨iM_2, q_3, q_4, q_5, q_6, p0r_1, p1r_1⟩ := hp_2
  obtain ⟨g_7, eg_7⟩ : ∃ z : Nat → Int, z = pp_pd B n (pp_pt B n 5) rg := ⟨_, rfl⟩
  rw [← eg_7] at p0r_1
  have lg_7_0 : g_7 0 = (tI M_2 2 4).toInt := p0r_1.2.1.1
  have lg_7_1 : g_7 1 = (tI M_2 2 6).toInt := p0r_1.2.1.2.1
  have lg_7_4 : g_7 4 = (tI M_2 1 4).toInt := p0r_1.2.2.1.1
  have lg_7_7 : g_7 7 = (tI M_2 t 4).toInt := p0r_1.2.2.2.1.1
  have lg_7_8 : g_7 8 = (tI M_2 t 5).toInt := p0r_1.2.2.2.1.2.1
  obtain ⟨d_8, ed_8⟩ : ∃ z : Nat → Int, z = qq_pd B n j (pp_pt B n 5) (qq_pt B n j 5) rg td := ⟨_, rfl⟩
  rw [← ed_8] at p1r_1
  refine lv_iconst (v := 0) hx hb dX4_readSum_5 (by decide) ?_
  refine lv_istore_n (lv' := [(2, .int 0), (0, .ref (A 1 0)), (1, .int 3)]) hx hb dX4_readSum_6 rfl hl (by decide) rfl (fun ls hl => ?_)
  have hl_7_24 : ∀ (n_25 : Nat) (x_9 : Int32) (M_12 : ti_M) (g_19 : Nat → Int) (d_21 : Nat → Int) (H : Heap) (locs : List Loc) (ls : Array Slot), (64 - x_9.toInt : Int).toNat < n_25 → (0 ≤ x_9.toInt) → (x_9.toInt ≤ 64) → (cI Tc M_12) → (M_12.2.2.2 = M.2.2.2) → (f0 M_12 M) → (tI M_12 2 1 = tI M 2 1) → (ot t M_12 M) → (tT M_12 1 1 = (some t)) → (tT M_12 1 2 = (some (ti_laws t j))) → (rC B n t g_19 M_12) → (tq t d_21 M_12) → (pp_lp pp_qP (fun s => pp_pd B n (pp_pt B n 5) (pp_kn B n s)) 64 g_7 = pp_lp pp_qP (fun s => pp_pd B n (pp_pt B n 5) (pp_kn B n s)) (64 - (x_9.toInt).toNat) g_19) → (qq_lp pp_qP (fun s => pp_pd B n (pp_pt B n 5) (pp_kn B n s)) (fun s td => qa j (-(s 0)) (qq_pd B n j (pp_pt B n 5) (qq_pt B n j 5) (pp_kn B n s) td)) 64 g_7 d_8 = qq_lp pp_qP (fun s => pp_pd B n (pp_pt B n 5) (pp_kn B n s)) (fun s td => qa j (-(s 0)) (qq_pd B n j (pp_pt B n 5) (qq_pt B n j 5) (pp_kn B n s) td)) (64 - (x_9.toInt).toNat) g_19 d_21) → ti_H ti_LT D A cy H0 M_12 H locs → lv_has ls 4 [(2, .int x_9), (0, .ref (A 1 0)), (1, .int 3)] → W p l e (ti_rm 45) s m args below meth c H locs 0 0 Q (F0 m 7 ls []) := by
    intro n_25
    induction n_25 with
    | zero => intro x_9 M_12 g_19 d_21 H locs ls hf_25; exact absurd hf_25 (Nat.not_lt_zero _)
    | succ n_25 ih_25 =>
      intro x_9 M_12 g_19 d_21 H locs ls hf_25 b_10 b_11 iM_12 f_13 f_14 f_15 f_16 f_17 f_18 hs_20 tq_22 j_23 j_24 hw hl
      have lg_19_0 : g_19 0 = (tI M_12 2 4).toInt := hs_20.2.1.1
      have lg_19_1 : g_19 1 = (tI M_12 2 6).toInt := hs_20.2.1.2.1
      have lg_19_4 : g_19 4 = (tI M_12 1 4).toInt := hs_20.2.2.1.1
      have lg_19_7 : g_19 7 = (tI M_12 t 4).toInt := hs_20.2.2.2.1.1
      have lg_19_8 : g_19 8 = (tI M_12 t 5).toInt := hs_20.2.2.2.1.2.1
      refine lv_iload_n hx hb dX4_readSum_7 rfl (lv_at hl 0 rfl) ?_
      refine lv_bipush (v := 64) hx hb dX4_readSum_8 (by decide) ?_
      refine sb_icmp_ge (tgt := 69) hx hb rfl (by decide : (64 : Int32).toInt = 64) dX4_readSum_10 (by decide) (fun c_10_25 => ?_) (fun c_10_25 => ?_)
      · exact hQ _ _ _ _ _ hw (⟨iM_12, (f_13), f_14, (f_15), f_16, (by unfold pp_sm; rw [← eg_7, j_23, lp_end (P := pp_qP) (f := 64 - x_9.toInt.toNat) (s := g_19) (Or.inl (by omega))]; exact hs_20), (by unfold qq_sm; rw [← eg_7, ← ed_8, j_24, qlp_end (P := pp_qP) (f := 64 - x_9.toInt.toNat) (s := g_19) (Or.inl (by omega))]; exact tq_22)⟩) dX4_readSum_69
      · refine lv_aload_n hx hb dX4_readSum_13 rfl (lv_at hl 1 rfl) ?_
        refine ti_get (ci := 4) (k := 0) (N := 6) (T := TX4) (v := .ref (A 2 0)) C hw iw_4 rfl ob_1 (by decide) (by decide) fl_X4_12 rfl rfl dX4_readSum_14 ?_
        refine ti_get (ci := 7) (k := 4) (N := 7) (T := TX7) C hw iw_7 rfl ob_2 (by decide) (by decide) fl_X4_41 rfl rfl dX4_readSum_17 ?_
        refine lv_topi (fun x_27 ex_27 => ?_)
        have bx_27 : 0 ≤ x_27.toInt ∧ x_27.toInt ≤ 41 := cI_rd iM_12 ob_2.1 ex_27
        have ux_27 : (tI M_12 2 4).toInt = x_27.toInt := by rw [ex_27]
        refine lv_bipush (v := 38) hx hb dX4_readSum_20 (by decide) ?_
        refine sb_icmp_eq (tgt := 37) hx hb rfl (by decide : (38 : Int32).toInt = 38) dX4_readSum_22 (by decide) (fun c_22_27 => ?_) (fun c_22_27 => ?_)
        · refine lv_aload_n hx hb dX4_readSum_37 rfl (lv_at hl 1 rfl) ?_
          refine ti_get (ci := 4) (k := 0) (N := 6) (T := TX4) (v := .ref (A 2 0)) C hw iw_4 rfl ob_1 (by decide) (by decide) fl_X4_12 rfl rfl dX4_readSum_38 ?_
          refine ti_get (ci := 7) (k := 4) (N := 7) (T := TX7) C hw iw_7 rfl ob_2 (by decide) (by decide) fl_X4_41 rfl rfl dX4_readSum_41 ?_
          refine ti_top (y := x_27) (ex_27.symm) ?_
          have u_31 : (tI M_12 2 4).toInt = (x_27 : Int32).toInt := by rw [(ex_27.symm)]
          refine lv_istore_n (lv' := [(3, .int x_27), (2, .int x_9), (0, .ref (A 1 0)), (1, .int 3)]) hx hb dX4_readSum_44 rfl hl (by decide) rfl (fun ls hl => ?_)
          refine lv_aload_n hx hb dX4_readSum_45 rfl (lv_at hl 2 rfl) ?_
          refine ti_callVvE (ci := 4) (av := []) C hE hw (x_X4_knot l D A cy hJ M_12 iM_12 t ht (f_17) B n g_19 hs_20 d_21 tq_22) ⟨ml_X4_167, ym_X4_knot, yv_X4_knot, yi_X4_knot, yc_X4_knot⟩ yd_X4_knot ob_1 (by decide) rfl rfl hl.1 (Nat.le_of_ble_eq_true rfl) ⟨by decide, by decide⟩ ⟨Nat.zero_le _, Nat.zero_le _⟩ dX4_readSum_46 (fun M_33 H locs hp_33 hw => ?_)
          obtain ⟨iM_33, q_34, q_35, q_36, q_37, q_38, p0r_32, p1r_32⟩ := hp_33
          obtain ⟨g_39, eg_39⟩ : ∃ z : Nat → Int, z = pp_kn B n g_19 := ⟨_, rfl⟩
          rw [← eg_39] at p0r_32
          have lg_39_0 : g_39 0 = (tI M_33 2 4).toInt := p0r_32.2.1.1
          have lg_39_1 : g_39 1 = (tI M_33 2 6).toInt := p0r_32.2.1.2.1
          have lg_39_4 : g_39 4 = (tI M_33 1 4).toInt := p0r_32.2.2.1.1
          have lg_39_7 : g_39 7 = (tI M_33 t 4).toInt := p0r_32.2.2.2.1.1
          have lg_39_8 : g_39 8 = (tI M_33 t 5).toInt := p0r_32.2.2.2.1.2.1
          refine lv_aload_n hx hb dX4_readSum_49 rfl (lv_at hl 2 rfl) ?_
          refine lv_iload_n hx hb dX4_readSum_50 rfl (lv_at hl 3 rfl) ?_
          refine ti_callVvE (ci := 4) (av := [.int 3]) C hE hw (x_X4_readProduct_3 l D A cy hJ M_33 iM_33 t ht ((tT_fr q_34).trans f_17) j hj ((tT_fr q_34).trans f_18) B n g_39 p0r_32 d_21 p1r_32) ⟨ml_X4_184, ym_X4_readProduct, yv_X4_readProduct, yi_X4_readProduct, yc_X4_readProduct⟩ yd_X4_readProduct ob_1 (by decide) rfl rfl hl.1 (Nat.le_of_ble_eq_true rfl) ⟨by decide, by decide⟩ ⟨Nat.zero_le _, Nat.zero_le _⟩ dX4_readSum_51 (fun M_41 H locs hp_41 hw => ?_)
          obtain ⟨iM_41, q_42, q_43, q_44, q_45, p0r_40, p1r_40⟩ := hp_41
          obtain ⟨g_46, eg_46⟩ : ∃ z : Nat → Int, z = pp_pd B n (pp_pt B n 5) g_39 := ⟨_, rfl⟩
          rw [← eg_46] at p0r_40
          have lg_46_0 : g_46 0 = (tI M_41 2 4).toInt := p0r_40.2.1.1
          have lg_46_1 : g_46 1 = (tI M_41 2 6).toInt := p0r_40.2.1.2.1
          have lg_46_4 : g_46 4 = (tI M_41 1 4).toInt := p0r_40.2.2.1.1
          have lg_46_7 : g_46 7 = (tI M_41 t 4).toInt := p0r_40.2.2.2.1.1
          have lg_46_8 : g_46 8 = (tI M_41 t 5).toInt := p0r_40.2.2.2.1.2.1
          obtain ⟨d_47, ed_47⟩ : ∃ z : Nat → Int, z = qq_pd B n j (pp_pt B n 5) (qq_pt B n j 5) g_39 d_21 := ⟨_, rfl⟩
          rw [← ed_47] at p1r_40
          refine lv_aload_n hx hb dX4_readSum_54 rfl (lv_at hl 2 rfl) ?_
          refine ti_get (ci := 4) (k := 2) (N := 6) (T := TX4) (v := .ref (A (ti_laws t j) 0)) C hw iw_4 rfl ob_1 (by decide) (by decide) fl_X4_154 rfl (ti_Tv ((tT_fr q_42).trans ((tT_fr q_34).trans f_18))) dX4_readSum_55 ?_
          refine lv_iload_n hx hb dX4_readSum_58 rfl (lv_at hl 0 rfl) ?_
          refine lv_ineg hx hb dX4_readSum_59 ?_
          refine lv_topi (fun x_48 ex_48 => ?_)
          have tx_48 : x_48.toInt = -x_27.toInt := i_neg ex_48 rfl (by omega)
          refine ti_callVv (ci := 1) (av := [.int x_48]) C hw (x_X1_add l D A cy hJ M_41 iM_41 t ht j hj x_48 (by first | omega | exact Or.inl (by decide) | exact Or.inr (by decide)) B n g_46 p0r_40 d_47 p1r_40) ⟨ml_X4_170, ym_X1_add, yv_X1_add, yi_X1_add, yc_X1_add⟩ yd_X1_add (ob_l ht hj) (by decide) rfl rfl hl.1 (Nat.le_of_ble_eq_true rfl) ⟨by decide, by decide⟩ ⟨Nat.zero_le _, Nat.zero_le _⟩ dX4_readSum_60 (fun M_50 H locs hp_50 hw => ?_)
          obtain ⟨iM_50, q_51, q_52, q_53, p0r_49, p1r_49⟩ := hp_50
          have lM_50_0 : g_46 0 = (tI M_50 2 4).toInt := p0r_49.2.1.1
          have lM_50_1 : g_46 1 = (tI M_50 2 6).toInt := p0r_49.2.1.2.1
          have lM_50_4 : g_46 4 = (tI M_50 1 4).toInt := p0r_49.2.2.1.1
          have lM_50_7 : g_46 7 = (tI M_50 t 4).toInt := p0r_49.2.2.2.1.1
          have lM_50_8 : g_46 8 = (tI M_50 t 5).toInt := p0r_49.2.2.2.1.2.1
          obtain ⟨d_54, ed_54⟩ : ∃ z : Nat → Int, z = qa j x_48.toInt d_47 := ⟨_, rfl⟩
          rw [← ed_54] at p1r_49
          obtain ⟨x_55, ex_55⟩ : ∃ z : Int32, z = x_9 + 1 := ⟨_, rfl⟩
          have tx_55 : x_55.toInt = x_9.toInt + 1 := i_add ex_55 rfl (by decide) (by omega) (by omega)
          refine lv_iinc (v := x_55) (lv' := [(2, .int x_55), (3, .int x_27), (0, .ref (A 1 0)), (1, .int 3)]) hx hb dX4_readSum_63 hl (k := 1) rfl (by rw [ex_55]; rfl) (by decide) rfl (fun ls hl => ?_)
          refine lv_goto (tgt := 7) hx hb dX4_readSum_66 (by decide) ?_
          exact ih_25 x_55 M_50 g_46 d_54 _ _ _ (by omega) (by first | omega | decide) (by first | omega | decide) iM_50 ((q_51).trans ((q_42).trans ((q_34).trans f_13))) (f0.trans (f0_x q_52) (f0.trans q_43 (f0.trans q_35 f_14))) (((q_52 1).2.1).trans ((q_44).trans ((q_36).trans f_15))) (ot.trans q_53 (ot.trans q_45 (ot.trans q_37 f_16))) ((tT_fr q_51).trans ((tT_fr q_42).trans ((tT_fr q_34).trans f_17))) ((tT_fr q_51).trans ((tT_fr q_42).trans ((tT_fr q_34).trans f_18))) p0r_49 p1r_49 (j_23.trans (lp_step (decide_eq_true (by omega)) (by rw [eg_46, eg_39]) (by omega))) (j_24.trans (qlp_step (decide_eq_true (by omega)) (by rw [eg_46, eg_39]) (by rw [ed_54, show x_48.toInt = -(g_19 0) by omega, ed_47, eg_39]) (by omega))) hw (lv_sub hl [0, 2, 3] rfl)
        · refine lv_aload_n hx hb dX4_readSum_25 rfl (lv_at hl 1 rfl) ?_
          refine ti_get (ci := 4) (k := 0) (N := 6) (T := TX4) (v := .ref (A 2 0)) C hw iw_4 rfl ob_1 (by decide) (by decide) fl_X4_12 rfl rfl dX4_readSum_26 ?_
          refine ti_get (ci := 7) (k := 4) (N := 7) (T := TX7) C hw iw_7 rfl ob_2 (by decide) (by decide) fl_X4_41 rfl rfl dX4_readSum_29 ?_
          refine ti_top (y := x_27) (ex_27.symm) ?_
          have u_29 : (tI M_12 2 4).toInt = (x_27 : Int32).toInt := by rw [(ex_27.symm)]
          refine lv_bipush (v := 39) hx hb dX4_readSum_32 (by decide) ?_
          refine sb_icmp_ne (tgt := 69) hx hb rfl (by decide : (39 : Int32).toInt = 39) dX4_readSum_34 (by decide) (fun c_34_29 => ?_) (fun c_34_29 => ?_)
          · exact hQ _ _ _ _ _ hw (⟨iM_12, (f_13), f_14, (f_15), f_16, (by unfold pp_sm; rw [← eg_7, j_23, lp_end (P := pp_qP) (f := 64 - x_9.toInt.toNat) (s := g_19) (Or.inr (decide_eq_false (by omega)))]; exact hs_20), (by unfold qq_sm; rw [← eg_7, ← ed_8, j_24, qlp_end (P := pp_qP) (f := 64 - x_9.toInt.toNat) (s := g_19) (Or.inr (decide_eq_false (by omega)))]; exact tq_22)⟩) dX4_readSum_69
          · refine lv_aload_n hx hb dX4_readSum_37 rfl (lv_at hl 1 rfl) ?_
            refine ti_get (ci := 4) (k := 0) (N := 6) (T := TX4) (v := .ref (A 2 0)) C hw iw_4 rfl ob_1 (by decide) (by decide) fl_X4_12 rfl rfl dX4_readSum_38 ?_
            refine ti_get (ci := 7) (k := 4) (N := 7) (T := TX7) C hw iw_7 rfl ob_2 (by decide) (by decide) fl_X4_41 rfl rfl dX4_readSum_41 ?_
            refine ti_top (y := x_27) (ex_27.symm) ?_
            have u_56 : (tI M_12 2 4).toInt = (x_27 : Int32).toInt := by rw [(ex_27.symm)]
            refine lv_istore_n (lv' := [(3, .int x_27), (2, .int x_9), (0, .ref (A 1 0)), (1, .int 3)]) hx hb dX4_readSum_44 rfl hl (by decide) rfl (fun ls hl => ?_)
            refine lv_aload_n hx hb dX4_readSum_45 rfl (lv_at hl 2 rfl) ?_
            refine ti_callVvE (ci := 4) (av := []) C hE hw (x_X4_knot l D A cy hJ M_12 iM_12 t ht (f_17) B n g_19 hs_20 d_21 tq_22) ⟨ml_X4_167, ym_X4_knot, yv_X4_knot, yi_X4_knot, yc_X4_knot⟩ yd_X4_knot ob_1 (by decide) rfl rfl hl.1 (Nat.le_of_ble_eq_true rfl) ⟨by decide, by decide⟩ ⟨Nat.zero_le _, Nat.zero_le _⟩ dX4_readSum_46 (fun M_58 H locs hp_58 hw => ?_)
            obtain ⟨iM_58, q_59, q_60, q_61, q_62, q_63, p0r_57, p1r_57⟩ := hp_58
            obtain ⟨g_64, eg_64⟩ : ∃ z : Nat → Int, z = pp_kn B n g_19 := ⟨_, rfl⟩
            rw [← eg_64] at p0r_57
            have lg_64_0 : g_64 0 = (tI M_58 2 4).toInt := p0r_57.2.1.1
            have lg_64_1 : g_64 1 = (tI M_58 2 6).toInt := p0r_57.2.1.2.1
            have lg_64_4 : g_64 4 = (tI M_58 1 4).toInt := p0r_57.2.2.1.1
            have lg_64_7 : g_64 7 = (tI M_58 t 4).toInt := p0r_57.2.2.2.1.1
            have lg_64_8 : g_64 8 = (tI M_58 t 5).toInt := p0r_57.2.2.2.1.2.1
            refine lv_aload_n hx hb dX4_readSum_49 rfl (lv_at hl 2 rfl) ?_
            refine lv_iload_n hx hb dX4_readSum_50 rfl (lv_at hl 3 rfl) ?_
            refine ti_callVvE (ci := 4) (av := [.int 3]) C hE hw (x_X4_readProduct_3 l D A cy hJ M_58 iM_58 t ht ((tT_fr q_59).trans f_17) j hj ((tT_fr q_59).trans f_18) B n g_64 p0r_57 d_21 p1r_57) ⟨ml_X4_184, ym_X4_readProduct, yv_X4_readProduct, yi_X4_readProduct, yc_X4_readProduct⟩ yd_X4_readProduct ob_1 (by decide) rfl rfl hl.1 (Nat.le_of_ble_eq_true rfl) ⟨by decide, by decide⟩ ⟨Nat.zero_le _, Nat.zero_le _⟩ dX4_readSum_51 (fun M_66 H locs hp_66 hw => ?_)
            obtain ⟨iM_66, q_67, q_68, q_69, q_70, p0r_65, p1r_65⟩ := hp_66
            obtain ⟨g_71, eg_71⟩ : ∃ z : Nat → Int, z = pp_pd B n (pp_pt B n 5) g_64 := ⟨_, rfl⟩
            rw [← eg_71] at p0r_65
            have lg_71_0 : g_71 0 = (tI M_66 2 4).toInt := p0r_65.2.1.1
            have lg_71_1 : g_71 1 = (tI M_66 2 6).toInt := p0r_65.2.1.2.1
            have lg_71_4 : g_71 4 = (tI M_66 1 4).toInt := p0r_65.2.2.1.1
            have lg_71_7 : g_71 7 = (tI M_66 t 4).toInt := p0r_65.2.2.2.1.1
            have lg_71_8 : g_71 8 = (tI M_66 t 5).toInt := p0r_65.2.2.2.1.2.1
            obtain ⟨d_72, ed_72⟩ : ∃ z : Nat → Int, z = qq_pd B n j (pp_pt B n 5) (qq_pt B n j 5) g_64 d_21 := ⟨_, rfl⟩
            rw [← ed_72] at p1r_65
            refine lv_aload_n hx hb dX4_readSum_54 rfl (lv_at hl 2 rfl) ?_
            refine ti_get (ci := 4) (k := 2) (N := 6) (T := TX4) (v := .ref (A (ti_laws t j) 0)) C hw iw_4 rfl ob_1 (by decide) (by decide) fl_X4_154 rfl (ti_Tv ((tT_fr q_67).trans ((tT_fr q_59).trans f_18))) dX4_readSum_55 ?_
            refine lv_iload_n hx hb dX4_readSum_58 rfl (lv_at hl 0 rfl) ?_
            refine lv_ineg hx hb dX4_readSum_59 ?_
            refine lv_topi (fun x_73 ex_73 => ?_)
            have tx_73 : x_73.toInt = -x_27.toInt := i_neg ex_73 rfl (by omega)
            refine ti_callVv (ci := 1) (av := [.int x_73]) C hw (x_X1_add l D A cy hJ M_66 iM_66 t ht j hj x_73 (by first | omega | exact Or.inl (by decide) | exact Or.inr (by decide)) B n g_71 p0r_65 d_72 p1r_65) ⟨ml_X4_170, ym_X1_add, yv_X1_add, yi_X1_add, yc_X1_add⟩ yd_X1_add (ob_l ht hj) (by decide) rfl rfl hl.1 (Nat.le_of_ble_eq_true rfl) ⟨by decide, by decide⟩ ⟨Nat.zero_le _, Nat.zero_le _⟩ dX4_readSum_60 (fun M_75 H locs hp_75 hw => ?_)
            obtain ⟨iM_75, q_76, q_77, q_78, p0r_74, p1r_74⟩ := hp_75
            have lM_75_0 : g_71 0 = (tI M_75 2 4).toInt := p0r_74.2.1.1
            have lM_75_1 : g_71 1 = (tI M_75 2 6).toInt := p0r_74.2.1.2.1
            have lM_75_4 : g_71 4 = (tI M_75 1 4).toInt := p0r_74.2.2.1.1
            have lM_75_7 : g_71 7 = (tI M_75 t 4).toInt := p0r_74.2.2.2.1.1
            have lM_75_8 : g_71 8 = (tI M_75 t 5).toInt := p0r_74.2.2.2.1.2.1
            obtain ⟨d_79, ed_79⟩ : ∃ z : Nat → Int, z = qa j x_73.toInt d_72 := ⟨_, rfl⟩
            rw [← ed_79] at p1r_74
            obtain ⟨x_80, ex_80⟩ : ∃ z : Int32, z = x_9 + 1 := ⟨_, rfl⟩
            have tx_80 : x_80.toInt = x_9.toInt + 1 := i_add ex_80 rfl (by decide) (by omega) (by omega)
            refine lv_iinc (v := x_80) (lv' := [(2, .int x_80), (3, .int x_27), (0, .ref (A 1 0)), (1, .int 3)]) hx hb dX4_readSum_63 hl (k := 1) rfl (by rw [ex_80]; rfl) (by decide) rfl (fun ls hl => ?_)
            refine lv_goto (tgt := 7) hx hb dX4_readSum_66 (by decide) ?_
            exact ih_25 x_80 M_75 g_71 d_79 _ _ _ (by omega) (by first | omega | decide) (by first | omega | decide) iM_75 ((q_76).trans ((q_67).trans ((q_59).trans f_13))) (f0.trans (f0_x q_77) (f0.trans q_68 (f0.trans q_60 f_14))) (((q_77 1).2.1).trans ((q_69).trans ((q_61).trans f_15))) (ot.trans q_78 (ot.trans q_70 (ot.trans q_62 f_16))) ((tT_fr q_76).trans ((tT_fr q_67).trans ((tT_fr q_59).trans f_17))) ((tT_fr q_76).trans ((tT_fr q_67).trans ((tT_fr q_59).trans f_18))) p0r_74 p1r_74 (j_23.trans (lp_step (decide_eq_true (by omega)) (by rw [eg_71, eg_64]) (by omega))) (j_24.trans (qlp_step (decide_eq_true (by omega)) (by rw [eg_71, eg_64]) (by rw [ed_79, show x_73.toInt = -(g_19 0) by omega, ed_72, eg_64]) (by omega))) hw (lv_sub hl [0, 2, 3] rfl)
  exact hl_7_24 ((64 - 0 : Int).toNat + 1) 0 M_2 g_7 d_8 _ _ _ (Nat.lt_succ_self _) (by have lt0 : (0 : Int32).toInt = 0 := (by decide); first | omega | decide) (by have lt0 : (0 : Int32).toInt = 0 := (by decide); first | omega | decide) iM_2 (q_3) q_4 (q_5) q_6 ((tT_fr q_3).trans hT) ((tT_fr q_3).trans hL) p0r_1 p1r_1 rfl rfl hw (lv_sub hl [0, 1, 2] rfl)
set_option maxHeartbeats 4000000 in
set_option maxRecDepth 100000 in
theorem x_X4_readComparison_3 (l : Launch) (D : va_G) (A : Nat → Nat → Nat) (cy : Nat → ClassId) (hJ : ti_inj ti_LT A) (M : ti_M) (hI : cI Tc M) (t : Nat) (ht : t = 3 ∨ t = 4) (hT : tT M 1 1 = some t) (j : Nat) (hj : j < 3) (hL : tT M 1 2 = some (ti_laws t j)) (B : Nat → Int) (n : Nat) (rg : Nat → Int) (hr : rC B n t rg M) (td : Nat → Int) (hq : tq t td M) : ti_KvE l yX4_readComparison cX4_readComparison 3 46 ti_LT D A cy M [.ref (A 1 0), .int 3] (fun M2 => cI Tc M2 ∧ M2.2.2.2 = M.2.2.2 ∧ f0 M2 M ∧ tI M2 2 1 = tI M 2 1 ∧ ot t M2 M ∧ rC B n t (pp_cm B n (pp_pt B n 5) rg) M2 ∧ tq t (qq_cm B n j (pp_pt B n 5) (qq_pt B n j 5) rg td) M2) := by
  refine ti_eVE yp_X4_readComparison hJ ti_LT_nd (Nat.le_of_ble_eq_true rfl) ?_
  intro p e s m args below meth c Q H0 C hE hQ hw ls hl
  have hx := C.1
  have hb := C.2.1
  have hl : lv_has ls 3 [(0, .ref (A 1 0)), (1, .int 3)] := hl
  have l0 : rg 0 = (tI M 2 4).toInt := hr.2.1.1
  have l1 : rg 1 = (tI M 2 6).toInt := hr.2.1.2.1
  have l2 : rg 2 = (tI M 2 5).toInt := hr.2.1.2.2.1
  have l3 : rg 3 = (tI M 2 3).toInt := hr.2.1.2.2.2
  have l4 : rg 4 = (tI M 1 4).toInt := hr.2.2.1.1
  have l5 : rg 5 = (tI M 1 5).toInt := hr.2.2.1.2.1
  have l7 : rg 7 = (tI M t 4).toInt := hr.2.2.2.1.1
  have l8 : rg 8 = (tI M t 5).toInt := hr.2.2.2.1.2.1
  have l9 : rg 9 = (tI M t 3).toInt := hr.2.2.2.1.2.2
  refine lv_aload_n hx hb dX4_readComparison_0 rfl (lv_at hl 0 rfl) ?_
  refine lv_iload_n hx hb dX4_readComparison_1 rfl (lv_at hl 1 rfl) ?_
  refine ti_callVvE (ci := 4) (av := [.int 3]) C hE hw (x_X4_readSum_3 l D A cy hJ M hI t ht (hT) j hj (hL) B n rg hr td hq) ⟨ml_X4_181, ym_X4_readSum, yv_X4_readSum, yi_X4_readSum, yc_X4_readSum⟩ yd_X4_readSum ob_1 (by decide) rfl rfl hl.1 (Nat.le_of_ble_eq_true rfl) ⟨by decide, by decide⟩ ⟨Nat.zero_le _, Nat.zero_le _⟩ dX4_readComparison_2 (fun M_2 H locs hp_2 hw => ?_)
  obtain ⟨iM_2, q_3, q_4, q_5, q_6, p0r_1, p1r_1⟩ := hp_2
  obtain ⟨g_7, eg_7⟩ : ∃ z : Nat → Int, z = pp_sm B n (pp_pt B n 5) rg := ⟨_, rfl⟩
  rw [← eg_7] at p0r_1
  have lg_7_0 : g_7 0 = (tI M_2 2 4).toInt := p0r_1.2.1.1
  have lg_7_1 : g_7 1 = (tI M_2 2 6).toInt := p0r_1.2.1.2.1
  have lg_7_4 : g_7 4 = (tI M_2 1 4).toInt := p0r_1.2.2.1.1
  have lg_7_7 : g_7 7 = (tI M_2 t 4).toInt := p0r_1.2.2.2.1.1
  have lg_7_8 : g_7 8 = (tI M_2 t 5).toInt := p0r_1.2.2.2.1.2.1
  obtain ⟨d_8, ed_8⟩ : ∃ z : Nat → Int, z = qq_sm B n j (pp_pt B n 5) (qq_pt B n j 5) rg td := ⟨_, rfl⟩
  rw [← ed_8] at p1r_1
  refine lv_aload_n hx hb dX4_readComparison_5 rfl (lv_at hl 0 rfl) ?_
  refine ti_get (ci := 4) (k := 0) (N := 6) (T := TX4) (v := .ref (A 2 0)) C hw iw_4 rfl ob_1 (by decide) (by decide) fl_X4_12 rfl rfl dX4_readComparison_6 ?_
  refine ti_get (ci := 7) (k := 4) (N := 7) (T := TX7) C hw iw_7 rfl ob_2 (by decide) (by decide) fl_X4_41 rfl rfl dX4_readComparison_9 ?_
  refine lv_topi (fun x_9 ex_9 => ?_)
  have bx_9 : 0 ≤ x_9.toInt ∧ x_9.toInt ≤ 41 := cI_rd iM_2 ob_2.1 ex_9
  have ux_9 : (tI M_2 2 4).toInt = x_9.toInt := by rw [ex_9]
  refine lv_istore_n (lv' := [(2, .int x_9), (0, .ref (A 1 0)), (1, .int 3)]) hx hb dX4_readComparison_12 rfl hl (by decide) rfl (fun ls hl => ?_)
  refine lv_iload_n hx hb dX4_readComparison_13 rfl (lv_at hl 0 rfl) ?_
  refine lv_bipush (v := 32) hx hb dX4_readComparison_14 (by decide) ?_
  refine sb_icmp_lt (tgt := 43) hx hb rfl (by decide : (32 : Int32).toInt = 32) dX4_readComparison_16 (by decide) (fun c_16_9 => ?_) (fun c_16_9 => ?_)
  · exact hQ _ _ _ _ _ hw (⟨iM_2, (q_3), q_4, (q_5), q_6, (by unfold pp_cm; rw [← eg_7]; unfold pp_c2; rw [if_neg (fun q => by omega)]; exact p0r_1), (by unfold qq_cm; rw [← eg_7, ← ed_8]; unfold qq_c2; rw [if_neg (fun q => by omega)]; exact p1r_1)⟩) dX4_readComparison_43
  · refine lv_iload_n hx hb dX4_readComparison_19 rfl (lv_at hl 0 rfl) ?_
    refine lv_bipush (v := 37) hx hb dX4_readComparison_20 (by decide) ?_
    refine sb_icmp_gt (tgt := 43) hx hb rfl (by decide : (37 : Int32).toInt = 37) dX4_readComparison_22 (by decide) (fun c_22_10 => ?_) (fun c_22_10 => ?_)
    · exact hQ _ _ _ _ _ hw (⟨iM_2, (q_3), q_4, (q_5), q_6, (by unfold pp_cm; rw [← eg_7]; unfold pp_c2; rw [if_neg (fun q => by omega)]; exact p0r_1), (by unfold qq_cm; rw [← eg_7, ← ed_8]; unfold qq_c2; rw [if_neg (fun q => by omega)]; exact p1r_1)⟩) dX4_readComparison_43
    · refine lv_aload_n hx hb dX4_readComparison_25 rfl (lv_at hl 1 rfl) ?_
      refine ti_callVvE (ci := 4) (av := []) C hE hw (x_X4_knot l D A cy hJ M_2 iM_2 t ht ((tT_fr q_3).trans hT) B n g_7 p0r_1 d_8 p1r_1) ⟨ml_X4_167, ym_X4_knot, yv_X4_knot, yi_X4_knot, yc_X4_knot⟩ yd_X4_knot ob_1 (by decide) rfl rfl hl.1 (Nat.le_of_ble_eq_true rfl) ⟨by decide, by decide⟩ ⟨Nat.zero_le _, Nat.zero_le _⟩ dX4_readComparison_26 (fun M_13 H locs hp_13 hw => ?_)
      obtain ⟨iM_13, q_14, q_15, q_16, q_17, q_18, p0r_12, p1r_12⟩ := hp_13
      obtain ⟨g_19, eg_19⟩ : ∃ z : Nat → Int, z = pp_kn B n g_7 := ⟨_, rfl⟩
      rw [← eg_19] at p0r_12
      have lg_19_0 : g_19 0 = (tI M_13 2 4).toInt := p0r_12.2.1.1
      have lg_19_1 : g_19 1 = (tI M_13 2 6).toInt := p0r_12.2.1.2.1
      have lg_19_4 : g_19 4 = (tI M_13 1 4).toInt := p0r_12.2.2.1.1
      have lg_19_7 : g_19 7 = (tI M_13 t 4).toInt := p0r_12.2.2.2.1.1
      have lg_19_8 : g_19 8 = (tI M_13 t 5).toInt := p0r_12.2.2.2.1.2.1
      refine lv_aload_n hx hb dX4_readComparison_29 rfl (lv_at hl 1 rfl) ?_
      refine lv_iload_n hx hb dX4_readComparison_30 rfl (lv_at hl 2 rfl) ?_
      refine ti_callVvE (ci := 4) (av := [.int 3]) C hE hw (x_X4_readSum_3 l D A cy hJ M_13 iM_13 t ht ((tT_fr q_14).trans ((tT_fr q_3).trans hT)) j hj ((tT_fr q_14).trans ((tT_fr q_3).trans hL)) B n g_19 p0r_12 d_8 p1r_12) ⟨ml_X4_181, ym_X4_readSum, yv_X4_readSum, yi_X4_readSum, yc_X4_readSum⟩ yd_X4_readSum ob_1 (by decide) rfl rfl hl.1 (Nat.le_of_ble_eq_true rfl) ⟨by decide, by decide⟩ ⟨Nat.zero_le _, Nat.zero_le _⟩ dX4_readComparison_31 (fun M_21 H locs hp_21 hw => ?_)
      obtain ⟨iM_21, q_22, q_23, q_24, q_25, p0r_20, p1r_20⟩ := hp_21
      obtain ⟨g_26, eg_26⟩ : ∃ z : Nat → Int, z = pp_sm B n (pp_pt B n 5) g_19 := ⟨_, rfl⟩
      rw [← eg_26] at p0r_20
      have lg_26_0 : g_26 0 = (tI M_21 2 4).toInt := p0r_20.2.1.1
      have lg_26_1 : g_26 1 = (tI M_21 2 6).toInt := p0r_20.2.1.2.1
      have lg_26_4 : g_26 4 = (tI M_21 1 4).toInt := p0r_20.2.2.1.1
      have lg_26_7 : g_26 7 = (tI M_21 t 4).toInt := p0r_20.2.2.2.1.1
      have lg_26_8 : g_26 8 = (tI M_21 t 5).toInt := p0r_20.2.2.2.1.2.1
      obtain ⟨d_27, ed_27⟩ : ∃ z : Nat → Int, z = qq_sm B n j (pp_pt B n 5) (qq_pt B n j 5) g_19 d_8 := ⟨_, rfl⟩
      rw [← ed_27] at p1r_20
      refine lv_aload_n hx hb dX4_readComparison_34 rfl (lv_at hl 1 rfl) ?_
      refine ti_get (ci := 4) (k := 2) (N := 6) (T := TX4) (v := .ref (A (ti_laws t j) 0)) C hw iw_4 rfl ob_1 (by decide) (by decide) fl_X4_154 rfl (ti_Tv ((tT_fr q_22).trans ((tT_fr q_14).trans ((tT_fr q_3).trans hL)))) dX4_readComparison_35 ?_
      refine lv_iload_n hx hb dX4_readComparison_38 rfl (lv_at hl 0 rfl) ?_
      refine lv_ineg hx hb dX4_readComparison_39 ?_
      refine lv_topi (fun x_28 ex_28 => ?_)
      have tx_28 : x_28.toInt = -x_9.toInt := i_neg ex_28 rfl (by omega)
      refine ti_callVv (ci := 1) (av := [.int x_28]) C hw (x_X1_add l D A cy hJ M_21 iM_21 t ht j hj x_28 (by first | omega | exact Or.inl (by decide) | exact Or.inr (by decide)) B n g_26 p0r_20 d_27 p1r_20) ⟨ml_X4_170, ym_X1_add, yv_X1_add, yi_X1_add, yc_X1_add⟩ yd_X1_add (ob_l ht hj) (by decide) rfl rfl hl.1 (Nat.le_of_ble_eq_true rfl) ⟨by decide, by decide⟩ ⟨Nat.zero_le _, Nat.zero_le _⟩ dX4_readComparison_40 (fun M_30 H locs hp_30 hw => ?_)
      obtain ⟨iM_30, q_31, q_32, q_33, p0r_29, p1r_29⟩ := hp_30
      have lM_30_0 : g_26 0 = (tI M_30 2 4).toInt := p0r_29.2.1.1
      have lM_30_1 : g_26 1 = (tI M_30 2 6).toInt := p0r_29.2.1.2.1
      have lM_30_4 : g_26 4 = (tI M_30 1 4).toInt := p0r_29.2.2.1.1
      have lM_30_7 : g_26 7 = (tI M_30 t 4).toInt := p0r_29.2.2.2.1.1
      have lM_30_8 : g_26 8 = (tI M_30 t 5).toInt := p0r_29.2.2.2.1.2.1
      obtain ⟨d_34, ed_34⟩ : ∃ z : Nat → Int, z = qa j x_28.toInt d_27 := ⟨_, rfl⟩
      rw [← ed_34] at p1r_29
      exact hQ _ _ _ _ _ hw (⟨iM_30, ((q_31).trans ((q_22).trans ((q_14).trans q_3))), (f0.trans (f0_x q_32) (f0.trans q_23 (f0.trans q_15 q_4))), (((q_32 1).2.1).trans ((q_24).trans ((q_16).trans q_5))), (ot.trans q_33 (ot.trans q_25 (ot.trans q_17 q_6))), (by unfold pp_cm; rw [← eg_7]; unfold pp_c2; rw [if_pos ⟨by omega, by omega⟩, ← eg_19, ← eg_26]; exact p0r_29), (by unfold qq_cm; rw [← eg_7, ← ed_8]; unfold qq_c2; rw [if_pos ⟨by omega, by omega⟩, ← eg_19, ← ed_27, show -(g_7 0) = x_28.toInt by omega, ← ed_34]; exact p1r_29)⟩) dX4_readComparison_43
set_option maxHeartbeats 4000000 in
set_option maxRecDepth 100000 in
theorem x_X4_readNegated_3 (l : Launch) (D : va_G) (A : Nat → Nat → Nat) (cy : Nat → ClassId) (hJ : ti_inj ti_LT A) (M : ti_M) (hI : cI Tc M) (t : Nat) (ht : t = 3 ∨ t = 4) (hT : tT M 1 1 = some t) (j : Nat) (hj : j < 3) (hL : tT M 1 2 = some (ti_laws t j)) (B : Nat → Int) (n : Nat) (rg : Nat → Int) (hr : rC B n t rg M) (td : Nat → Int) (hq : tq t td M) : ti_KvE l yX4_readNegated cX4_readNegated 4 47 ti_LT D A cy M [.ref (A 1 0), .int 3] (fun M2 => cI Tc M2 ∧ M2.2.2.2 = M.2.2.2 ∧ f0 M2 M ∧ tI M2 2 1 = tI M 2 1 ∧ ot t M2 M ∧ rC B n t (pp_ng B n (pp_pt B n 5) rg) M2 ∧ tq t (qq_ng B n j (pp_pt B n 5) (qq_pt B n j 5) rg td) M2) := by
  refine ti_eVE yp_X4_readNegated hJ ti_LT_nd (Nat.le_of_ble_eq_true rfl) ?_
  intro p e s m args below meth c Q H0 C hE hQ hw ls hl
  have hx := C.1
  have hb := C.2.1
  have hl : lv_has ls 4 [(0, .ref (A 1 0)), (1, .int 3)] := hl
  have l0 : rg 0 = (tI M 2 4).toInt := hr.2.1.1
  have l1 : rg 1 = (tI M 2 6).toInt := hr.2.1.2.1
  have l2 : rg 2 = (tI M 2 5).toInt := hr.2.1.2.2.1
  have l3 : rg 3 = (tI M 2 3).toInt := hr.2.1.2.2.2
  have l4 : rg 4 = (tI M 1 4).toInt := hr.2.2.1.1
  have l5 : rg 5 = (tI M 1 5).toInt := hr.2.2.1.2.1
  have l7 : rg 7 = (tI M t 4).toInt := hr.2.2.2.1.1
  have l8 : rg 8 = (tI M t 5).toInt := hr.2.2.2.1.2.1
  have l9 : rg 9 = (tI M t 3).toInt := hr.2.2.2.1.2.2
  refine lv_iconst (v := 0) hx hb dX4_readNegated_0 (by decide) ?_
  refine lv_istore_n (lv' := [(2, .int 0), (0, .ref (A 1 0)), (1, .int 3)]) hx hb dX4_readNegated_1 rfl hl (by decide) rfl (fun ls hl => ?_)
  have hl_2_17 : ∀ (n_18 : Nat) (x_1 : Int32) (M_4 : ti_M) (g_11 : Nat → Int) (d_13 : Nat → Int) (H : Heap) (locs : List Loc) (ls : Array Slot), (65 - x_1.toInt : Int).toNat < n_18 → (0 ≤ x_1.toInt) → (x_1.toInt ≤ 65) → (cI Tc M_4) → (M_4.2.2.2 = M.2.2.2) → (f0 M_4 M) → (tI M_4 2 1 = tI M 2 1) → (ot t M_4 M) → (tT M_4 1 1 = (some t)) → (tT M_4 1 2 = (some (ti_laws t j))) → (rC B n t g_11 M_4) → (tq t d_13 M_4) → (pp_lp pp_qN (pp_kn B n) 65 rg = pp_lp pp_qN (pp_kn B n) (65 - (x_1.toInt).toNat) g_11) → (qq_ca B n 65 rg 0 = qq_ca B n (65 - (x_1.toInt).toNat) g_11 (x_1.toInt).toNat) → (td = d_13) → ti_H ti_LT D A cy H0 M_4 H locs → lv_has ls 4 [(2, .int x_1), (0, .ref (A 1 0)), (1, .int 3)] → W p l e (ti_rm 47) s m args below meth c H locs 0 0 Q (F0 m 2 ls []) := by
    intro n_18
    induction n_18 with
    | zero => intro x_1 M_4 g_11 d_13 H locs ls hf_18; exact absurd hf_18 (Nat.not_lt_zero _)
    | succ n_18 ih_18 =>
      intro x_1 M_4 g_11 d_13 H locs ls hf_18 b_2 b_3 iM_4 f_5 f_6 f_7 f_8 f_9 f_10 hs_12 tq_14 j_15 j_16 j_17 hw hl
      have lg_11_0 : g_11 0 = (tI M_4 2 4).toInt := hs_12.2.1.1
      have lg_11_1 : g_11 1 = (tI M_4 2 6).toInt := hs_12.2.1.2.1
      have lg_11_4 : g_11 4 = (tI M_4 1 4).toInt := hs_12.2.2.1.1
      have lg_11_7 : g_11 7 = (tI M_4 t 4).toInt := hs_12.2.2.2.1.1
      have lg_11_8 : g_11 8 = (tI M_4 t 5).toInt := hs_12.2.2.2.1.2.1
      refine lv_iload_n hx hb dX4_readNegated_2 rfl (lv_at hl 0 rfl) ?_
      refine lv_bipush (v := 64) hx hb dX4_readNegated_3 (by decide) ?_
      have hj_30_33 : ∀  (H : Heap) (locs : List Loc) (ls : Array Slot), (pp_lp pp_qN (pp_kn B n) 65 rg = g_11) → (qq_ca B n 65 rg 0 = (x_1.toInt).toNat) → (td = d_13) → ti_H ti_LT D A cy H0 M_4 H locs → lv_has ls 4 [(2, .int x_1), (0, .ref (A 1 0)), (1, .int 3)] → W p l e (ti_rm 47) s m args below meth c H locs 0 0 Q (F0 m 30 ls []) := by
        intro  H locs ls j_31 j_32 j_33 hw hl
        have lg_11_0 : g_11 0 = (tI M_4 2 4).toInt := hs_12.2.1.1
        have lg_11_1 : g_11 1 = (tI M_4 2 6).toInt := hs_12.2.1.2.1
        have lg_11_4 : g_11 4 = (tI M_4 1 4).toInt := hs_12.2.2.1.1
        have lg_11_7 : g_11 7 = (tI M_4 t 4).toInt := hs_12.2.2.2.1.1
        have lg_11_8 : g_11 8 = (tI M_4 t 5).toInt := hs_12.2.2.2.1.2.1
        refine lv_aload_n hx hb dX4_readNegated_30 rfl (lv_at hl 1 rfl) ?_
        refine lv_iload_n hx hb dX4_readNegated_31 rfl (lv_at hl 2 rfl) ?_
        refine ti_callVvE (ci := 4) (av := [.int 3]) C hE hw (x_X4_readComparison_3 l D A cy hJ M_4 iM_4 t ht (f_9) j hj (f_10) B n g_11 hs_12 d_13 tq_14) ⟨ml_X4_178, ym_X4_readComparison, yv_X4_readComparison, yi_X4_readComparison, yc_X4_readComparison⟩ yd_X4_readComparison ob_1 (by decide) rfl rfl hl.1 (Nat.le_of_ble_eq_true rfl) ⟨by decide, by decide⟩ ⟨Nat.zero_le _, Nat.zero_le _⟩ dX4_readNegated_32 (fun M_35 H locs hp_35 hw => ?_)
        obtain ⟨iM_35, q_36, q_37, q_38, q_39, p0r_34, p1r_34⟩ := hp_35
        obtain ⟨g_40, eg_40⟩ : ∃ z : Nat → Int, z = pp_cm B n (pp_pt B n 5) g_11 := ⟨_, rfl⟩
        rw [← eg_40] at p0r_34
        have lg_40_0 : g_40 0 = (tI M_35 2 4).toInt := p0r_34.2.1.1
        have lg_40_1 : g_40 1 = (tI M_35 2 6).toInt := p0r_34.2.1.2.1
        have lg_40_4 : g_40 4 = (tI M_35 1 4).toInt := p0r_34.2.2.1.1
        have lg_40_7 : g_40 7 = (tI M_35 t 4).toInt := p0r_34.2.2.2.1.1
        have lg_40_8 : g_40 8 = (tI M_35 t 5).toInt := p0r_34.2.2.2.1.2.1
        obtain ⟨d_41, ed_41⟩ : ∃ z : Nat → Int, z = qq_cm B n j (pp_pt B n 5) (qq_pt B n j 5) g_11 d_13 := ⟨_, rfl⟩
        rw [← ed_41] at p1r_34
        have EM : pp_ng B n (pp_pt B n 5) rg = g_40 := by unfold pp_ng; rw [j_31, ← eg_40]
        have ET : qq_ng B n j (pp_pt B n 5) (qq_pt B n j 5) rg td = qq_na j x_1.toInt.toNat d_41 := by unfold qq_ng; rw [j_32, j_31, show td = d_13 from j_33, ← ed_41]
        refine lv_iconst (v := 0) hx hb dX4_readNegated_35 (by decide) ?_
        refine lv_istore_n (lv' := [(3, .int 0), (2, .int x_1), (0, .ref (A 1 0)), (1, .int 3)]) hx hb dX4_readNegated_36 rfl hl (by decide) rfl (fun ls hl => ?_)
        have hl_37_58 : ∀ (n_59 : Nat) (x_42 : Int32) (M_45 : ti_M) (g_52 : Nat → Int) (d_54 : Nat → Int) (H : Heap) (locs : List Loc) (ls : Array Slot), (65 - x_42.toInt : Int).toNat < n_59 → (0 ≤ x_42.toInt) → (x_42.toInt ≤ 65) → (cI Tc M_45) → (M_45.2.2.2 = M.2.2.2) → (f0 M_45 M) → (tI M_45 2 1 = tI M 2 1) → (ot t M_45 M) → (tT M_45 1 1 = (some t)) → (tT M_45 1 2 = (some (ti_laws t j))) → (rC B n t g_52 M_45) → (tq t d_54 M_45) → (g_40 = g_52) → (qq_na j (x_42.toInt).toNat d_41 = d_54) → (x_42.toInt ≤ x_1.toInt) → ti_H ti_LT D A cy H0 M_45 H locs → lv_has ls 4 [(3, .int x_42), (2, .int x_1), (0, .ref (A 1 0)), (1, .int 3)] → W p l e (ti_rm 47) s m args below meth c H locs 0 0 Q (F0 m 37 ls []) := by
          intro n_59
          induction n_59 with
          | zero => intro x_42 M_45 g_52 d_54 H locs ls hf_59; exact absurd hf_59 (Nat.not_lt_zero _)
          | succ n_59 ih_59 =>
            intro x_42 M_45 g_52 d_54 H locs ls hf_59 b_43 b_44 iM_45 f_46 f_47 f_48 f_49 f_50 f_51 hs_53 tq_55 j_56 j_57 j_58 hw hl
            have lg_52_0 : g_52 0 = (tI M_45 2 4).toInt := hs_53.2.1.1
            have lg_52_1 : g_52 1 = (tI M_45 2 6).toInt := hs_53.2.1.2.1
            have lg_52_4 : g_52 4 = (tI M_45 1 4).toInt := hs_53.2.2.1.1
            have lg_52_7 : g_52 7 = (tI M_45 t 4).toInt := hs_53.2.2.2.1.1
            have lg_52_8 : g_52 8 = (tI M_45 t 5).toInt := hs_53.2.2.2.1.2.1
            refine lv_iload_n hx hb dX4_readNegated_37 rfl (lv_at hl 0 rfl) ?_
            refine lv_iload_n hx hb dX4_readNegated_38 rfl (lv_at hl 1 rfl) ?_
            refine sb_icmp_ge (tgt := 57) hx hb rfl rfl dX4_readNegated_39 (by decide) (fun c_39_59 => ?_) (fun c_39_59 => ?_)
            · exact hQ _ _ _ _ _ hw (⟨iM_45, (f_46), f_47, (f_48), f_49, (by rw [EM, j_56]; exact hs_53), (by rw [ET, show x_1.toInt.toNat = x_42.toInt.toNat by omega, j_57]; exact tq_55)⟩) dX4_readNegated_57
            · refine lv_aload_n hx hb dX4_readNegated_42 rfl (lv_at hl 2 rfl) ?_
              refine ti_get (ci := 4) (k := 2) (N := 6) (T := TX4) (v := .ref (A (ti_laws t j) 0)) C hw iw_4 rfl ob_1 (by decide) (by decide) fl_X4_154 rfl (ti_Tv (f_51)) dX4_readNegated_43 ?_
              refine lv_bipush (v := (-24)) hx hb dX4_readNegated_46 (by decide) ?_
              refine ti_callVv (ci := 1) (av := [.int (-24)]) C hw (x_X1_add l D A cy hJ M_45 iM_45 t ht j hj (-24) (by first | omega | exact Or.inl (by decide) | exact Or.inr (by decide)) B n g_52 hs_53 d_54 tq_55) ⟨ml_X4_170, ym_X1_add, yv_X1_add, yi_X1_add, yc_X1_add⟩ yd_X1_add (ob_l ht hj) (by decide) rfl rfl hl.1 (Nat.le_of_ble_eq_true rfl) ⟨by decide, by decide⟩ ⟨Nat.zero_le _, Nat.zero_le _⟩ dX4_readNegated_48 (fun M_62 H locs hp_62 hw => ?_)
              obtain ⟨iM_62, q_63, q_64, q_65, p0r_61, p1r_61⟩ := hp_62
              have lM_62_0 : g_52 0 = (tI M_62 2 4).toInt := p0r_61.2.1.1
              have lM_62_1 : g_52 1 = (tI M_62 2 6).toInt := p0r_61.2.1.2.1
              have lM_62_4 : g_52 4 = (tI M_62 1 4).toInt := p0r_61.2.2.1.1
              have lM_62_7 : g_52 7 = (tI M_62 t 4).toInt := p0r_61.2.2.2.1.1
              have lM_62_8 : g_52 8 = (tI M_62 t 5).toInt := p0r_61.2.2.2.1.2.1
              simp only [show ((-24) : Int32).toInt = (-24) by decide] at p1r_61
              obtain ⟨d_66, ed_66⟩ : ∃ z : Nat → Int, z = qa j (-24) d_54 := ⟨_, rfl⟩
              rw [← ed_66] at p1r_61
              obtain ⟨x_67, ex_67⟩ : ∃ z : Int32, z = x_42 + 1 := ⟨_, rfl⟩
              have tx_67 : x_67.toInt = x_42.toInt + 1 := i_add ex_67 rfl (by decide) (by omega) (by omega)
              refine lv_iinc (v := x_67) (lv' := [(3, .int x_67), (2, .int x_1), (0, .ref (A 1 0)), (1, .int 3)]) hx hb dX4_readNegated_51 hl (k := 0) rfl (by rw [ex_67]; rfl) (by decide) rfl (fun ls hl => ?_)
              refine lv_goto (tgt := 37) hx hb dX4_readNegated_54 (by decide) ?_
              exact ih_59 x_67 M_62 g_52 d_66 _ _ _ (by omega) (by first | omega | decide) (by first | omega | decide) iM_62 ((q_63).trans f_46) (f0.trans (f0_x q_64) f_47) (((q_64 1).2.1).trans f_48) (ot.trans q_65 f_49) ((tT_fr q_63).trans f_50) ((tT_fr q_63).trans f_51) p0r_61 p1r_61 j_56 (by rw [show x_67.toInt.toNat = x_42.toInt.toNat + 1 by omega, ed_66, ← j_57]; rfl) (by first | omega | decide) hw (lv_sub hl [0, 1, 2, 3] rfl)
        exact hl_37_58 ((65 - 0 : Int).toNat + 1) 0 M_35 g_40 d_41 _ _ _ (Nat.lt_succ_self _) (by have lt0 : (0 : Int32).toInt = 0 := (by decide); first | omega | decide) (by have lt0 : (0 : Int32).toInt = 0 := (by decide); first | omega | decide) iM_35 ((q_36).trans f_5) (f0.trans q_37 f_6) ((q_38).trans f_7) (ot.trans q_39 f_8) ((tT_fr q_36).trans f_9) ((tT_fr q_36).trans f_10) p0r_34 p1r_34 rfl rfl (by have lt0 : (0 : Int32).toInt = 0 := (by decide); first | omega | decide) hw (lv_sub hl [0, 1, 2, 3] rfl)
      refine sb_icmp_gt (tgt := 30) hx hb rfl (by decide : (64 : Int32).toInt = 64) dX4_readNegated_5 (by decide) (fun c_5_18 => ?_) (fun c_5_18 => ?_)
      · exact hj_30_33  _ _ _ (by rw [j_15, lp_end (P := pp_qN) (f := 65 - x_1.toInt.toNat) (s := g_11) (Or.inl (by omega))]) (by rw [j_16, ca_end (f := 65 - x_1.toInt.toNat) (s := g_11) (Or.inl (by omega))]) j_17 hw (lv_sub hl [0, 1, 2] rfl)
      · refine lv_aload_n hx hb dX4_readNegated_8 rfl (lv_at hl 1 rfl) ?_
        refine ti_get (ci := 4) (k := 0) (N := 6) (T := TX4) (v := .ref (A 2 0)) C hw iw_4 rfl ob_1 (by decide) (by decide) fl_X4_12 rfl rfl dX4_readNegated_9 ?_
        refine ti_get (ci := 7) (k := 4) (N := 7) (T := TX7) C hw iw_7 rfl ob_2 (by decide) (by decide) fl_X4_41 rfl rfl dX4_readNegated_12 ?_
        refine lv_topi (fun x_20 ex_20 => ?_)
        have bx_20 : 0 ≤ x_20.toInt ∧ x_20.toInt ≤ 41 := cI_rd iM_4 ob_2.1 ex_20
        have ux_20 : (tI M_4 2 4).toInt = x_20.toInt := by rw [ex_20]
        refine lv_bipush (v := 24) hx hb dX4_readNegated_15 (by decide) ?_
        refine sb_icmp_ne (tgt := 30) hx hb rfl (by decide : (24 : Int32).toInt = 24) dX4_readNegated_17 (by decide) (fun c_17_20 => ?_) (fun c_17_20 => ?_)
        · exact hj_30_33  _ _ _ (by rw [j_15, lp_end (P := pp_qN) (f := 65 - x_1.toInt.toNat) (s := g_11) (Or.inr (decide_eq_false (by omega)))]) (by rw [j_16, ca_end (f := 65 - x_1.toInt.toNat) (s := g_11) (Or.inr (decide_eq_false (by omega)))]) j_17 hw (lv_sub hl [0, 1, 2] rfl)
        · refine lv_aload_n hx hb dX4_readNegated_20 rfl (lv_at hl 1 rfl) ?_
          refine ti_callVvE (ci := 4) (av := []) C hE hw (x_X4_knot l D A cy hJ M_4 iM_4 t ht (f_9) B n g_11 hs_12 d_13 tq_14) ⟨ml_X4_167, ym_X4_knot, yv_X4_knot, yi_X4_knot, yc_X4_knot⟩ yd_X4_knot ob_1 (by decide) rfl rfl hl.1 (Nat.le_of_ble_eq_true rfl) ⟨by decide, by decide⟩ ⟨Nat.zero_le _, Nat.zero_le _⟩ dX4_readNegated_21 (fun M_23 H locs hp_23 hw => ?_)
          obtain ⟨iM_23, q_24, q_25, q_26, q_27, q_28, p0r_22, p1r_22⟩ := hp_23
          obtain ⟨g_29, eg_29⟩ : ∃ z : Nat → Int, z = pp_kn B n g_11 := ⟨_, rfl⟩
          rw [← eg_29] at p0r_22
          have lg_29_0 : g_29 0 = (tI M_23 2 4).toInt := p0r_22.2.1.1
          have lg_29_1 : g_29 1 = (tI M_23 2 6).toInt := p0r_22.2.1.2.1
          have lg_29_4 : g_29 4 = (tI M_23 1 4).toInt := p0r_22.2.2.1.1
          have lg_29_7 : g_29 7 = (tI M_23 t 4).toInt := p0r_22.2.2.2.1.1
          have lg_29_8 : g_29 8 = (tI M_23 t 5).toInt := p0r_22.2.2.2.1.2.1
          obtain ⟨x_30, ex_30⟩ : ∃ z : Int32, z = x_1 + 1 := ⟨_, rfl⟩
          have tx_30 : x_30.toInt = x_1.toInt + 1 := i_add ex_30 rfl (by decide) (by omega) (by omega)
          refine lv_iinc (v := x_30) (lv' := [(2, .int x_30), (0, .ref (A 1 0)), (1, .int 3)]) hx hb dX4_readNegated_24 hl (k := 0) rfl (by rw [ex_30]; rfl) (by decide) rfl (fun ls hl => ?_)
          refine lv_goto (tgt := 2) hx hb dX4_readNegated_27 (by decide) ?_
          exact ih_18 x_30 M_23 g_29 d_13 _ _ _ (by omega) (by first | omega | decide) (by first | omega | decide) iM_23 ((q_24).trans f_5) (f0.trans q_25 f_6) ((q_26).trans f_7) (ot.trans q_27 f_8) ((tT_fr q_24).trans f_9) ((tT_fr q_24).trans f_10) p0r_22 p1r_22 (j_15.trans (lp_step (decide_eq_true (by omega)) (by rw [eg_29]) (by omega))) (j_16.trans (ca_step (decide_eq_true (by omega)) (by rw [eg_29]) (by omega) (by omega))) j_17 hw (lv_sub hl [0, 1, 2] rfl)
  exact hl_2_17 ((65 - 0 : Int).toNat + 1) 0 M rg td _ _ _ (Nat.lt_succ_self _) (by have lt0 : (0 : Int32).toInt = 0 := (by decide); first | omega | decide) (by have lt0 : (0 : Int32).toInt = 0 := (by decide); first | omega | decide) hI rfl f0.refl rfl ot.refl (hT) (hL) hr hq rfl rfl rfl hw (lv_sub hl [0, 1, 2] rfl)
set_option maxHeartbeats 4000000 in
set_option maxRecDepth 100000 in
theorem x_X4_readBoth_3 (l : Launch) (D : va_G) (A : Nat → Nat → Nat) (cy : Nat → ClassId) (hJ : ti_inj ti_LT A) (M : ti_M) (hI : cI Tc M) (t : Nat) (ht : t = 3 ∨ t = 4) (hT : tT M 1 1 = some t) (j : Nat) (hj : j < 3) (hL : tT M 1 2 = some (ti_laws t j)) (B : Nat → Int) (n : Nat) (rg : Nat → Int) (hr : rC B n t rg M) (td : Nat → Int) (hq : tq t td M) : ti_KvE l yX4_readBoth cX4_readBoth 3 48 ti_LT D A cy M [.ref (A 1 0), .int 3] (fun M2 => cI Tc M2 ∧ M2.2.2.2 = M.2.2.2 ∧ f0 M2 M ∧ tI M2 2 1 = tI M 2 1 ∧ ot t M2 M ∧ rC B n t (pp_bo B n (pp_pt B n 5) rg) M2 ∧ tq t (qq_bo B n j (pp_pt B n 5) (qq_pt B n j 5) rg td) M2) := by
  refine ti_eVE yp_X4_readBoth hJ ti_LT_nd (Nat.le_of_ble_eq_true rfl) ?_
  intro p e s m args below meth c Q H0 C hE hQ hw ls hl
  have hx := C.1
  have hb := C.2.1
  have hl : lv_has ls 3 [(0, .ref (A 1 0)), (1, .int 3)] := hl
  have l0 : rg 0 = (tI M 2 4).toInt := hr.2.1.1
  have l1 : rg 1 = (tI M 2 6).toInt := hr.2.1.2.1
  have l2 : rg 2 = (tI M 2 5).toInt := hr.2.1.2.2.1
  have l3 : rg 3 = (tI M 2 3).toInt := hr.2.1.2.2.2
  have l4 : rg 4 = (tI M 1 4).toInt := hr.2.2.1.1
  have l5 : rg 5 = (tI M 1 5).toInt := hr.2.2.1.2.1
  have l7 : rg 7 = (tI M t 4).toInt := hr.2.2.2.1.1
  have l8 : rg 8 = (tI M t 5).toInt := hr.2.2.2.1.2.1
  have l9 : rg 9 = (tI M t 3).toInt := hr.2.2.2.1.2.2
  refine lv_aload_n hx hb dX4_readBoth_0 rfl (lv_at hl 0 rfl) ?_
  refine lv_iload_n hx hb dX4_readBoth_1 rfl (lv_at hl 1 rfl) ?_
  refine ti_callVvE (ci := 4) (av := [.int 3]) C hE hw (x_X4_readNegated_3 l D A cy hJ M hI t ht (hT) j hj (hL) B n rg hr td hq) ⟨ml_X4_175, ym_X4_readNegated, yv_X4_readNegated, yi_X4_readNegated, yc_X4_readNegated⟩ yd_X4_readNegated ob_1 (by decide) rfl rfl hl.1 (Nat.le_of_ble_eq_true rfl) ⟨by decide, by decide⟩ ⟨Nat.zero_le _, Nat.zero_le _⟩ dX4_readBoth_2 (fun M_2 H locs hp_2 hw => ?_)
  obtain ⟨iM_2, q_3, q_4, q_5, q_6, p0r_1, p1r_1⟩ := hp_2
  obtain ⟨g_7, eg_7⟩ : ∃ z : Nat → Int, z = pp_ng B n (pp_pt B n 5) rg := ⟨_, rfl⟩
  rw [← eg_7] at p0r_1
  have lg_7_0 : g_7 0 = (tI M_2 2 4).toInt := p0r_1.2.1.1
  have lg_7_1 : g_7 1 = (tI M_2 2 6).toInt := p0r_1.2.1.2.1
  have lg_7_4 : g_7 4 = (tI M_2 1 4).toInt := p0r_1.2.2.1.1
  have lg_7_7 : g_7 7 = (tI M_2 t 4).toInt := p0r_1.2.2.2.1.1
  have lg_7_8 : g_7 8 = (tI M_2 t 5).toInt := p0r_1.2.2.2.1.2.1
  obtain ⟨d_8, ed_8⟩ : ∃ z : Nat → Int, z = qq_ng B n j (pp_pt B n 5) (qq_pt B n j 5) rg td := ⟨_, rfl⟩
  rw [← ed_8] at p1r_1
  refine lv_iconst (v := 0) hx hb dX4_readBoth_5 (by decide) ?_
  refine lv_istore_n (lv' := [(2, .int 0), (0, .ref (A 1 0)), (1, .int 3)]) hx hb dX4_readBoth_6 rfl hl (by decide) rfl (fun ls hl => ?_)
  have hl_7_24 : ∀ (n_25 : Nat) (x_9 : Int32) (M_12 : ti_M) (g_19 : Nat → Int) (d_21 : Nat → Int) (H : Heap) (locs : List Loc) (ls : Array Slot), (64 - x_9.toInt : Int).toNat < n_25 → (0 ≤ x_9.toInt) → (x_9.toInt ≤ 64) → (cI Tc M_12) → (M_12.2.2.2 = M.2.2.2) → (f0 M_12 M) → (tI M_12 2 1 = tI M 2 1) → (ot t M_12 M) → (tT M_12 1 1 = (some t)) → (tT M_12 1 2 = (some (ti_laws t j))) → (rC B n t g_19 M_12) → (tq t d_21 M_12) → (pp_lp pp_qA (fun s => pp_ng B n (pp_pt B n 5) (pp_kn B n s)) 64 g_7 = pp_lp pp_qA (fun s => pp_ng B n (pp_pt B n 5) (pp_kn B n s)) (64 - (x_9.toInt).toNat) g_19) → (qq_lp pp_qA (fun s => pp_ng B n (pp_pt B n 5) (pp_kn B n s)) (fun s td => qa j (-22) (qq_ng B n j (pp_pt B n 5) (qq_pt B n j 5) (pp_kn B n s) td)) 64 g_7 d_8 = qq_lp pp_qA (fun s => pp_ng B n (pp_pt B n 5) (pp_kn B n s)) (fun s td => qa j (-22) (qq_ng B n j (pp_pt B n 5) (qq_pt B n j 5) (pp_kn B n s) td)) (64 - (x_9.toInt).toNat) g_19 d_21) → ti_H ti_LT D A cy H0 M_12 H locs → lv_has ls 3 [(2, .int x_9), (0, .ref (A 1 0)), (1, .int 3)] → W p l e (ti_rm 48) s m args below meth c H locs 0 0 Q (F0 m 7 ls []) := by
    intro n_25
    induction n_25 with
    | zero => intro x_9 M_12 g_19 d_21 H locs ls hf_25; exact absurd hf_25 (Nat.not_lt_zero _)
    | succ n_25 ih_25 =>
      intro x_9 M_12 g_19 d_21 H locs ls hf_25 b_10 b_11 iM_12 f_13 f_14 f_15 f_16 f_17 f_18 hs_20 tq_22 j_23 j_24 hw hl
      have lg_19_0 : g_19 0 = (tI M_12 2 4).toInt := hs_20.2.1.1
      have lg_19_1 : g_19 1 = (tI M_12 2 6).toInt := hs_20.2.1.2.1
      have lg_19_4 : g_19 4 = (tI M_12 1 4).toInt := hs_20.2.2.1.1
      have lg_19_7 : g_19 7 = (tI M_12 t 4).toInt := hs_20.2.2.2.1.1
      have lg_19_8 : g_19 8 = (tI M_12 t 5).toInt := hs_20.2.2.2.1.2.1
      refine lv_iload_n hx hb dX4_readBoth_7 rfl (lv_at hl 0 rfl) ?_
      refine lv_bipush (v := 64) hx hb dX4_readBoth_8 (by decide) ?_
      refine sb_icmp_ge (tgt := 49) hx hb rfl (by decide : (64 : Int32).toInt = 64) dX4_readBoth_10 (by decide) (fun c_10_25 => ?_) (fun c_10_25 => ?_)
      · exact hQ _ _ _ _ _ hw (⟨iM_12, (f_13), f_14, (f_15), f_16, (by unfold pp_bo; rw [← eg_7, j_23, lp_end (P := pp_qA) (f := 64 - x_9.toInt.toNat) (s := g_19) (Or.inl (by omega))]; exact hs_20), (by unfold qq_bo; rw [← eg_7, ← ed_8, j_24, qlp_end (P := pp_qA) (f := 64 - x_9.toInt.toNat) (s := g_19) (Or.inl (by omega))]; exact tq_22)⟩) dX4_readBoth_49
      · refine lv_aload_n hx hb dX4_readBoth_13 rfl (lv_at hl 1 rfl) ?_
        refine ti_get (ci := 4) (k := 0) (N := 6) (T := TX4) (v := .ref (A 2 0)) C hw iw_4 rfl ob_1 (by decide) (by decide) fl_X4_12 rfl rfl dX4_readBoth_14 ?_
        refine ti_get (ci := 7) (k := 4) (N := 7) (T := TX7) C hw iw_7 rfl ob_2 (by decide) (by decide) fl_X4_41 rfl rfl dX4_readBoth_17 ?_
        refine lv_topi (fun x_27 ex_27 => ?_)
        have bx_27 : 0 ≤ x_27.toInt ∧ x_27.toInt ≤ 41 := cI_rd iM_12 ob_2.1 ex_27
        have ux_27 : (tI M_12 2 4).toInt = x_27.toInt := by rw [ex_27]
        refine lv_bipush (v := 22) hx hb dX4_readBoth_20 (by decide) ?_
        refine sb_icmp_ne (tgt := 49) hx hb rfl (by decide : (22 : Int32).toInt = 22) dX4_readBoth_22 (by decide) (fun c_22_27 => ?_) (fun c_22_27 => ?_)
        · exact hQ _ _ _ _ _ hw (⟨iM_12, (f_13), f_14, (f_15), f_16, (by unfold pp_bo; rw [← eg_7, j_23, lp_end (P := pp_qA) (f := 64 - x_9.toInt.toNat) (s := g_19) (Or.inr (decide_eq_false (by omega)))]; exact hs_20), (by unfold qq_bo; rw [← eg_7, ← ed_8, j_24, qlp_end (P := pp_qA) (f := 64 - x_9.toInt.toNat) (s := g_19) (Or.inr (decide_eq_false (by omega)))]; exact tq_22)⟩) dX4_readBoth_49
        · refine lv_aload_n hx hb dX4_readBoth_25 rfl (lv_at hl 1 rfl) ?_
          refine ti_callVvE (ci := 4) (av := []) C hE hw (x_X4_knot l D A cy hJ M_12 iM_12 t ht (f_17) B n g_19 hs_20 d_21 tq_22) ⟨ml_X4_167, ym_X4_knot, yv_X4_knot, yi_X4_knot, yc_X4_knot⟩ yd_X4_knot ob_1 (by decide) rfl rfl hl.1 (Nat.le_of_ble_eq_true rfl) ⟨by decide, by decide⟩ ⟨Nat.zero_le _, Nat.zero_le _⟩ dX4_readBoth_26 (fun M_30 H locs hp_30 hw => ?_)
          obtain ⟨iM_30, q_31, q_32, q_33, q_34, q_35, p0r_29, p1r_29⟩ := hp_30
          obtain ⟨g_36, eg_36⟩ : ∃ z : Nat → Int, z = pp_kn B n g_19 := ⟨_, rfl⟩
          rw [← eg_36] at p0r_29
          have lg_36_0 : g_36 0 = (tI M_30 2 4).toInt := p0r_29.2.1.1
          have lg_36_1 : g_36 1 = (tI M_30 2 6).toInt := p0r_29.2.1.2.1
          have lg_36_4 : g_36 4 = (tI M_30 1 4).toInt := p0r_29.2.2.1.1
          have lg_36_7 : g_36 7 = (tI M_30 t 4).toInt := p0r_29.2.2.2.1.1
          have lg_36_8 : g_36 8 = (tI M_30 t 5).toInt := p0r_29.2.2.2.1.2.1
          refine lv_aload_n hx hb dX4_readBoth_29 rfl (lv_at hl 1 rfl) ?_
          refine lv_iload_n hx hb dX4_readBoth_30 rfl (lv_at hl 2 rfl) ?_
          refine ti_callVvE (ci := 4) (av := [.int 3]) C hE hw (x_X4_readNegated_3 l D A cy hJ M_30 iM_30 t ht ((tT_fr q_31).trans f_17) j hj ((tT_fr q_31).trans f_18) B n g_36 p0r_29 d_21 p1r_29) ⟨ml_X4_175, ym_X4_readNegated, yv_X4_readNegated, yi_X4_readNegated, yc_X4_readNegated⟩ yd_X4_readNegated ob_1 (by decide) rfl rfl hl.1 (Nat.le_of_ble_eq_true rfl) ⟨by decide, by decide⟩ ⟨Nat.zero_le _, Nat.zero_le _⟩ dX4_readBoth_31 (fun M_38 H locs hp_38 hw => ?_)
          obtain ⟨iM_38, q_39, q_40, q_41, q_42, p0r_37, p1r_37⟩ := hp_38
          obtain ⟨g_43, eg_43⟩ : ∃ z : Nat → Int, z = pp_ng B n (pp_pt B n 5) g_36 := ⟨_, rfl⟩
          rw [← eg_43] at p0r_37
          have lg_43_0 : g_43 0 = (tI M_38 2 4).toInt := p0r_37.2.1.1
          have lg_43_1 : g_43 1 = (tI M_38 2 6).toInt := p0r_37.2.1.2.1
          have lg_43_4 : g_43 4 = (tI M_38 1 4).toInt := p0r_37.2.2.1.1
          have lg_43_7 : g_43 7 = (tI M_38 t 4).toInt := p0r_37.2.2.2.1.1
          have lg_43_8 : g_43 8 = (tI M_38 t 5).toInt := p0r_37.2.2.2.1.2.1
          obtain ⟨d_44, ed_44⟩ : ∃ z : Nat → Int, z = qq_ng B n j (pp_pt B n 5) (qq_pt B n j 5) g_36 d_21 := ⟨_, rfl⟩
          rw [← ed_44] at p1r_37
          refine lv_aload_n hx hb dX4_readBoth_34 rfl (lv_at hl 1 rfl) ?_
          refine ti_get (ci := 4) (k := 2) (N := 6) (T := TX4) (v := .ref (A (ti_laws t j) 0)) C hw iw_4 rfl ob_1 (by decide) (by decide) fl_X4_154 rfl (ti_Tv ((tT_fr q_39).trans ((tT_fr q_31).trans f_18))) dX4_readBoth_35 ?_
          refine lv_bipush (v := (-22)) hx hb dX4_readBoth_38 (by decide) ?_
          refine ti_callVv (ci := 1) (av := [.int (-22)]) C hw (x_X1_add l D A cy hJ M_38 iM_38 t ht j hj (-22) (by first | omega | exact Or.inl (by decide) | exact Or.inr (by decide)) B n g_43 p0r_37 d_44 p1r_37) ⟨ml_X4_170, ym_X1_add, yv_X1_add, yi_X1_add, yc_X1_add⟩ yd_X1_add (ob_l ht hj) (by decide) rfl rfl hl.1 (Nat.le_of_ble_eq_true rfl) ⟨by decide, by decide⟩ ⟨Nat.zero_le _, Nat.zero_le _⟩ dX4_readBoth_40 (fun M_46 H locs hp_46 hw => ?_)
          obtain ⟨iM_46, q_47, q_48, q_49, p0r_45, p1r_45⟩ := hp_46
          have lM_46_0 : g_43 0 = (tI M_46 2 4).toInt := p0r_45.2.1.1
          have lM_46_1 : g_43 1 = (tI M_46 2 6).toInt := p0r_45.2.1.2.1
          have lM_46_4 : g_43 4 = (tI M_46 1 4).toInt := p0r_45.2.2.1.1
          have lM_46_7 : g_43 7 = (tI M_46 t 4).toInt := p0r_45.2.2.2.1.1
          have lM_46_8 : g_43 8 = (tI M_46 t 5).toInt := p0r_45.2.2.2.1.2.1
          simp only [show ((-22) : Int32).toInt = (-22) by decide] at p1r_45
          obtain ⟨d_50, ed_50⟩ : ∃ z : Nat → Int, z = qa j (-22) d_44 := ⟨_, rfl⟩
          rw [← ed_50] at p1r_45
          obtain ⟨x_51, ex_51⟩ : ∃ z : Int32, z = x_9 + 1 := ⟨_, rfl⟩
          have tx_51 : x_51.toInt = x_9.toInt + 1 := i_add ex_51 rfl (by decide) (by omega) (by omega)
          refine lv_iinc (v := x_51) (lv' := [(2, .int x_51), (0, .ref (A 1 0)), (1, .int 3)]) hx hb dX4_readBoth_43 hl (k := 0) rfl (by rw [ex_51]; rfl) (by decide) rfl (fun ls hl => ?_)
          refine lv_goto (tgt := 7) hx hb dX4_readBoth_46 (by decide) ?_
          exact ih_25 x_51 M_46 g_43 d_50 _ _ _ (by omega) (by first | omega | decide) (by first | omega | decide) iM_46 ((q_47).trans ((q_39).trans ((q_31).trans f_13))) (f0.trans (f0_x q_48) (f0.trans q_40 (f0.trans q_32 f_14))) (((q_48 1).2.1).trans ((q_41).trans ((q_33).trans f_15))) (ot.trans q_49 (ot.trans q_42 (ot.trans q_34 f_16))) ((tT_fr q_47).trans ((tT_fr q_39).trans ((tT_fr q_31).trans f_17))) ((tT_fr q_47).trans ((tT_fr q_39).trans ((tT_fr q_31).trans f_18))) p0r_45 p1r_45 (j_23.trans (lp_step (decide_eq_true (by omega)) (by rw [eg_43, eg_36]) (by omega))) (j_24.trans (qlp_step (decide_eq_true (by omega)) (by rw [eg_43, eg_36]) (by rw [ed_50, ed_44, eg_36]) (by omega))) hw (lv_sub hl [0, 1, 2] rfl)
  exact hl_7_24 ((64 - 0 : Int).toNat + 1) 0 M_2 g_7 d_8 _ _ _ (Nat.lt_succ_self _) (by have lt0 : (0 : Int32).toInt = 0 := (by decide); first | omega | decide) (by have lt0 : (0 : Int32).toInt = 0 := (by decide); first | omega | decide) iM_2 (q_3) q_4 (q_5) q_6 ((tT_fr q_3).trans hT) ((tT_fr q_3).trans hL) p0r_1 p1r_1 rfl rfl hw (lv_sub hl [0, 1, 2] rfl)
set_option maxHeartbeats 4000000 in
set_option maxRecDepth 100000 in
theorem x_X4_readEither_3 (l : Launch) (D : va_G) (A : Nat → Nat → Nat) (cy : Nat → ClassId) (hJ : ti_inj ti_LT A) (M : ti_M) (hI : cI Tc M) (t : Nat) (ht : t = 3 ∨ t = 4) (hT : tT M 1 1 = some t) (j : Nat) (hj : j < 3) (hL : tT M 1 2 = some (ti_laws t j)) (B : Nat → Int) (n : Nat) (rg : Nat → Int) (hr : rC B n t rg M) (td : Nat → Int) (hq : tq t td M) : ti_KvE l yX4_readEither cX4_readEither 3 49 ti_LT D A cy M [.ref (A 1 0), .int 3] (fun M2 => cI Tc M2 ∧ M2.2.2.2 = M.2.2.2 ∧ f0 M2 M ∧ tI M2 2 1 = tI M 2 1 ∧ ot t M2 M ∧ rC B n t (pp_ei B n (pp_pt B n 5) rg) M2 ∧ tq t (qq_ei B n j (pp_pt B n 5) (qq_pt B n j 5) rg td) M2) := by
  refine ti_eVE yp_X4_readEither hJ ti_LT_nd (Nat.le_of_ble_eq_true rfl) ?_
  intro p e s m args below meth c Q H0 C hE hQ hw ls hl
  have hx := C.1
  have hb := C.2.1
  have hl : lv_has ls 3 [(0, .ref (A 1 0)), (1, .int 3)] := hl
  have l0 : rg 0 = (tI M 2 4).toInt := hr.2.1.1
  have l1 : rg 1 = (tI M 2 6).toInt := hr.2.1.2.1
  have l2 : rg 2 = (tI M 2 5).toInt := hr.2.1.2.2.1
  have l3 : rg 3 = (tI M 2 3).toInt := hr.2.1.2.2.2
  have l4 : rg 4 = (tI M 1 4).toInt := hr.2.2.1.1
  have l5 : rg 5 = (tI M 1 5).toInt := hr.2.2.1.2.1
  have l7 : rg 7 = (tI M t 4).toInt := hr.2.2.2.1.1
  have l8 : rg 8 = (tI M t 5).toInt := hr.2.2.2.1.2.1
  have l9 : rg 9 = (tI M t 3).toInt := hr.2.2.2.1.2.2
  refine lv_aload_n hx hb dX4_readEither_0 rfl (lv_at hl 0 rfl) ?_
  refine lv_iload_n hx hb dX4_readEither_1 rfl (lv_at hl 1 rfl) ?_
  refine ti_callVvE (ci := 4) (av := [.int 3]) C hE hw (x_X4_readBoth_3 l D A cy hJ M hI t ht (hT) j hj (hL) B n rg hr td hq) ⟨ml_X4_164, ym_X4_readBoth, yv_X4_readBoth, yi_X4_readBoth, yc_X4_readBoth⟩ yd_X4_readBoth ob_1 (by decide) rfl rfl hl.1 (Nat.le_of_ble_eq_true rfl) ⟨by decide, by decide⟩ ⟨Nat.zero_le _, Nat.zero_le _⟩ dX4_readEither_2 (fun M_2 H locs hp_2 hw => ?_)
  obtain ⟨iM_2, q_3, q_4, q_5, q_6, p0r_1, p1r_1⟩ := hp_2
  obtain ⟨g_7, eg_7⟩ : ∃ z : Nat → Int, z = pp_bo B n (pp_pt B n 5) rg := ⟨_, rfl⟩
  rw [← eg_7] at p0r_1
  have lg_7_0 : g_7 0 = (tI M_2 2 4).toInt := p0r_1.2.1.1
  have lg_7_1 : g_7 1 = (tI M_2 2 6).toInt := p0r_1.2.1.2.1
  have lg_7_4 : g_7 4 = (tI M_2 1 4).toInt := p0r_1.2.2.1.1
  have lg_7_7 : g_7 7 = (tI M_2 t 4).toInt := p0r_1.2.2.2.1.1
  have lg_7_8 : g_7 8 = (tI M_2 t 5).toInt := p0r_1.2.2.2.1.2.1
  obtain ⟨d_8, ed_8⟩ : ∃ z : Nat → Int, z = qq_bo B n j (pp_pt B n 5) (qq_pt B n j 5) rg td := ⟨_, rfl⟩
  rw [← ed_8] at p1r_1
  refine lv_iconst (v := 0) hx hb dX4_readEither_5 (by decide) ?_
  refine lv_istore_n (lv' := [(2, .int 0), (0, .ref (A 1 0)), (1, .int 3)]) hx hb dX4_readEither_6 rfl hl (by decide) rfl (fun ls hl => ?_)
  have hl_7_24 : ∀ (n_25 : Nat) (x_9 : Int32) (M_12 : ti_M) (g_19 : Nat → Int) (d_21 : Nat → Int) (H : Heap) (locs : List Loc) (ls : Array Slot), (64 - x_9.toInt : Int).toNat < n_25 → (0 ≤ x_9.toInt) → (x_9.toInt ≤ 64) → (cI Tc M_12) → (M_12.2.2.2 = M.2.2.2) → (f0 M_12 M) → (tI M_12 2 1 = tI M 2 1) → (ot t M_12 M) → (tT M_12 1 1 = (some t)) → (tT M_12 1 2 = (some (ti_laws t j))) → (rC B n t g_19 M_12) → (tq t d_21 M_12) → (pp_lp pp_qO (fun s => pp_bo B n (pp_pt B n 5) (pp_kn B n s)) 64 g_7 = pp_lp pp_qO (fun s => pp_bo B n (pp_pt B n 5) (pp_kn B n s)) (64 - (x_9.toInt).toNat) g_19) → (qq_lp pp_qO (fun s => pp_bo B n (pp_pt B n 5) (pp_kn B n s)) (fun s td => qa j (-23) (qq_bo B n j (pp_pt B n 5) (qq_pt B n j 5) (pp_kn B n s) td)) 64 g_7 d_8 = qq_lp pp_qO (fun s => pp_bo B n (pp_pt B n 5) (pp_kn B n s)) (fun s td => qa j (-23) (qq_bo B n j (pp_pt B n 5) (qq_pt B n j 5) (pp_kn B n s) td)) (64 - (x_9.toInt).toNat) g_19 d_21) → ti_H ti_LT D A cy H0 M_12 H locs → lv_has ls 3 [(2, .int x_9), (0, .ref (A 1 0)), (1, .int 3)] → W p l e (ti_rm 49) s m args below meth c H locs 0 0 Q (F0 m 7 ls []) := by
    intro n_25
    induction n_25 with
    | zero => intro x_9 M_12 g_19 d_21 H locs ls hf_25; exact absurd hf_25 (Nat.not_lt_zero _)
    | succ n_25 ih_25 =>
      intro x_9 M_12 g_19 d_21 H locs ls hf_25 b_10 b_11 iM_12 f_13 f_14 f_15 f_16 f_17 f_18 hs_20 tq_22 j_23 j_24 hw hl
      have lg_19_0 : g_19 0 = (tI M_12 2 4).toInt := hs_20.2.1.1
      have lg_19_1 : g_19 1 = (tI M_12 2 6).toInt := hs_20.2.1.2.1
      have lg_19_4 : g_19 4 = (tI M_12 1 4).toInt := hs_20.2.2.1.1
      have lg_19_7 : g_19 7 = (tI M_12 t 4).toInt := hs_20.2.2.2.1.1
      have lg_19_8 : g_19 8 = (tI M_12 t 5).toInt := hs_20.2.2.2.1.2.1
      refine lv_iload_n hx hb dX4_readEither_7 rfl (lv_at hl 0 rfl) ?_
      refine lv_bipush (v := 64) hx hb dX4_readEither_8 (by decide) ?_
      refine sb_icmp_ge (tgt := 49) hx hb rfl (by decide : (64 : Int32).toInt = 64) dX4_readEither_10 (by decide) (fun c_10_25 => ?_) (fun c_10_25 => ?_)
      · exact hQ _ _ _ _ _ hw (⟨iM_12, (f_13), f_14, (f_15), f_16, (by unfold pp_ei; rw [← eg_7, j_23, lp_end (P := pp_qO) (f := 64 - x_9.toInt.toNat) (s := g_19) (Or.inl (by omega))]; exact hs_20), (by unfold qq_ei; rw [← eg_7, ← ed_8, j_24, qlp_end (P := pp_qO) (f := 64 - x_9.toInt.toNat) (s := g_19) (Or.inl (by omega))]; exact tq_22)⟩) dX4_readEither_49
      · refine lv_aload_n hx hb dX4_readEither_13 rfl (lv_at hl 1 rfl) ?_
        refine ti_get (ci := 4) (k := 0) (N := 6) (T := TX4) (v := .ref (A 2 0)) C hw iw_4 rfl ob_1 (by decide) (by decide) fl_X4_12 rfl rfl dX4_readEither_14 ?_
        refine ti_get (ci := 7) (k := 4) (N := 7) (T := TX7) C hw iw_7 rfl ob_2 (by decide) (by decide) fl_X4_41 rfl rfl dX4_readEither_17 ?_
        refine lv_topi (fun x_27 ex_27 => ?_)
        have bx_27 : 0 ≤ x_27.toInt ∧ x_27.toInt ≤ 41 := cI_rd iM_12 ob_2.1 ex_27
        have ux_27 : (tI M_12 2 4).toInt = x_27.toInt := by rw [ex_27]
        refine lv_bipush (v := 23) hx hb dX4_readEither_20 (by decide) ?_
        refine sb_icmp_ne (tgt := 49) hx hb rfl (by decide : (23 : Int32).toInt = 23) dX4_readEither_22 (by decide) (fun c_22_27 => ?_) (fun c_22_27 => ?_)
        · exact hQ _ _ _ _ _ hw (⟨iM_12, (f_13), f_14, (f_15), f_16, (by unfold pp_ei; rw [← eg_7, j_23, lp_end (P := pp_qO) (f := 64 - x_9.toInt.toNat) (s := g_19) (Or.inr (decide_eq_false (by omega)))]; exact hs_20), (by unfold qq_ei; rw [← eg_7, ← ed_8, j_24, qlp_end (P := pp_qO) (f := 64 - x_9.toInt.toNat) (s := g_19) (Or.inr (decide_eq_false (by omega)))]; exact tq_22)⟩) dX4_readEither_49
        · refine lv_aload_n hx hb dX4_readEither_25 rfl (lv_at hl 1 rfl) ?_
          refine ti_callVvE (ci := 4) (av := []) C hE hw (x_X4_knot l D A cy hJ M_12 iM_12 t ht (f_17) B n g_19 hs_20 d_21 tq_22) ⟨ml_X4_167, ym_X4_knot, yv_X4_knot, yi_X4_knot, yc_X4_knot⟩ yd_X4_knot ob_1 (by decide) rfl rfl hl.1 (Nat.le_of_ble_eq_true rfl) ⟨by decide, by decide⟩ ⟨Nat.zero_le _, Nat.zero_le _⟩ dX4_readEither_26 (fun M_30 H locs hp_30 hw => ?_)
          obtain ⟨iM_30, q_31, q_32, q_33, q_34, q_35, p0r_29, p1r_29⟩ := hp_30
          obtain ⟨g_36, eg_36⟩ : ∃ z : Nat → Int, z = pp_kn B n g_19 := ⟨_, rfl⟩
          rw [← eg_36] at p0r_29
          have lg_36_0 : g_36 0 = (tI M_30 2 4).toInt := p0r_29.2.1.1
          have lg_36_1 : g_36 1 = (tI M_30 2 6).toInt := p0r_29.2.1.2.1
          have lg_36_4 : g_36 4 = (tI M_30 1 4).toInt := p0r_29.2.2.1.1
          have lg_36_7 : g_36 7 = (tI M_30 t 4).toInt := p0r_29.2.2.2.1.1
          have lg_36_8 : g_36 8 = (tI M_30 t 5).toInt := p0r_29.2.2.2.1.2.1
          refine lv_aload_n hx hb dX4_readEither_29 rfl (lv_at hl 1 rfl) ?_
          refine lv_iload_n hx hb dX4_readEither_30 rfl (lv_at hl 2 rfl) ?_
          refine ti_callVvE (ci := 4) (av := [.int 3]) C hE hw (x_X4_readBoth_3 l D A cy hJ M_30 iM_30 t ht ((tT_fr q_31).trans f_17) j hj ((tT_fr q_31).trans f_18) B n g_36 p0r_29 d_21 p1r_29) ⟨ml_X4_164, ym_X4_readBoth, yv_X4_readBoth, yi_X4_readBoth, yc_X4_readBoth⟩ yd_X4_readBoth ob_1 (by decide) rfl rfl hl.1 (Nat.le_of_ble_eq_true rfl) ⟨by decide, by decide⟩ ⟨Nat.zero_le _, Nat.zero_le _⟩ dX4_readEither_31 (fun M_38 H locs hp_38 hw => ?_)
          obtain ⟨iM_38, q_39, q_40, q_41, q_42, p0r_37, p1r_37⟩ := hp_38
          obtain ⟨g_43, eg_43⟩ : ∃ z : Nat → Int, z = pp_bo B n (pp_pt B n 5) g_36 := ⟨_, rfl⟩
          rw [← eg_43] at p0r_37
          have lg_43_0 : g_43 0 = (tI M_38 2 4).toInt := p0r_37.2.1.1
          have lg_43_1 : g_43 1 = (tI M_38 2 6).toInt := p0r_37.2.1.2.1
          have lg_43_4 : g_43 4 = (tI M_38 1 4).toInt := p0r_37.2.2.1.1
          have lg_43_7 : g_43 7 = (tI M_38 t 4).toInt := p0r_37.2.2.2.1.1
          have lg_43_8 : g_43 8 = (tI M_38 t 5).toInt := p0r_37.2.2.2.1.2.1
          obtain ⟨d_44, ed_44⟩ : ∃ z : Nat → Int, z = qq_bo B n j (pp_pt B n 5) (qq_pt B n j 5) g_36 d_21 := ⟨_, rfl⟩
          rw [← ed_44] at p1r_37
          refine lv_aload_n hx hb dX4_readEither_34 rfl (lv_at hl 1 rfl) ?_
          refine ti_get (ci := 4) (k := 2) (N := 6) (T := TX4) (v := .ref (A (ti_laws t j) 0)) C hw iw_4 rfl ob_1 (by decide) (by decide) fl_X4_154 rfl (ti_Tv ((tT_fr q_39).trans ((tT_fr q_31).trans f_18))) dX4_readEither_35 ?_
          refine lv_bipush (v := (-23)) hx hb dX4_readEither_38 (by decide) ?_
          refine ti_callVv (ci := 1) (av := [.int (-23)]) C hw (x_X1_add l D A cy hJ M_38 iM_38 t ht j hj (-23) (by first | omega | exact Or.inl (by decide) | exact Or.inr (by decide)) B n g_43 p0r_37 d_44 p1r_37) ⟨ml_X4_170, ym_X1_add, yv_X1_add, yi_X1_add, yc_X1_add⟩ yd_X1_add (ob_l ht hj) (by decide) rfl rfl hl.1 (Nat.le_of_ble_eq_true rfl) ⟨by decide, by decide⟩ ⟨Nat.zero_le _, Nat.zero_le _⟩ dX4_readEither_40 (fun M_46 H locs hp_46 hw => ?_)
          obtain ⟨iM_46, q_47, q_48, q_49, p0r_45, p1r_45⟩ := hp_46
          have lM_46_0 : g_43 0 = (tI M_46 2 4).toInt := p0r_45.2.1.1
          have lM_46_1 : g_43 1 = (tI M_46 2 6).toInt := p0r_45.2.1.2.1
          have lM_46_4 : g_43 4 = (tI M_46 1 4).toInt := p0r_45.2.2.1.1
          have lM_46_7 : g_43 7 = (tI M_46 t 4).toInt := p0r_45.2.2.2.1.1
          have lM_46_8 : g_43 8 = (tI M_46 t 5).toInt := p0r_45.2.2.2.1.2.1
          simp only [show ((-23) : Int32).toInt = (-23) by decide] at p1r_45
          obtain ⟨d_50, ed_50⟩ : ∃ z : Nat → Int, z = qa j (-23) d_44 := ⟨_, rfl⟩
          rw [← ed_50] at p1r_45
          obtain ⟨x_51, ex_51⟩ : ∃ z : Int32, z = x_9 + 1 := ⟨_, rfl⟩
          have tx_51 : x_51.toInt = x_9.toInt + 1 := i_add ex_51 rfl (by decide) (by omega) (by omega)
          refine lv_iinc (v := x_51) (lv' := [(2, .int x_51), (0, .ref (A 1 0)), (1, .int 3)]) hx hb dX4_readEither_43 hl (k := 0) rfl (by rw [ex_51]; rfl) (by decide) rfl (fun ls hl => ?_)
          refine lv_goto (tgt := 7) hx hb dX4_readEither_46 (by decide) ?_
          exact ih_25 x_51 M_46 g_43 d_50 _ _ _ (by omega) (by first | omega | decide) (by first | omega | decide) iM_46 ((q_47).trans ((q_39).trans ((q_31).trans f_13))) (f0.trans (f0_x q_48) (f0.trans q_40 (f0.trans q_32 f_14))) (((q_48 1).2.1).trans ((q_41).trans ((q_33).trans f_15))) (ot.trans q_49 (ot.trans q_42 (ot.trans q_34 f_16))) ((tT_fr q_47).trans ((tT_fr q_39).trans ((tT_fr q_31).trans f_17))) ((tT_fr q_47).trans ((tT_fr q_39).trans ((tT_fr q_31).trans f_18))) p0r_45 p1r_45 (j_23.trans (lp_step (decide_eq_true (by omega)) (by rw [eg_43, eg_36]) (by omega))) (j_24.trans (qlp_step (decide_eq_true (by omega)) (by rw [eg_43, eg_36]) (by rw [ed_50, ed_44, eg_36]) (by omega))) hw (lv_sub hl [0, 1, 2] rfl)
  exact hl_7_24 ((64 - 0 : Int).toNat + 1) 0 M_2 g_7 d_8 _ _ _ (Nat.lt_succ_self _) (by have lt0 : (0 : Int32).toInt = 0 := (by decide); first | omega | decide) (by have lt0 : (0 : Int32).toInt = 0 := (by decide); first | omega | decide) iM_2 (q_3) q_4 (q_5) q_6 ((tT_fr q_3).trans hT) ((tT_fr q_3).trans hL) p0r_1 p1r_1 rfl rfl hw (lv_sub hl [0, 1, 2] rfl)
set_option maxHeartbeats 4000000 in
set_option maxRecDepth 100000 in
theorem x_X4_readPart_2 (l : Launch) (D : va_G) (A : Nat → Nat → Nat) (cy : Nat → ClassId) (hJ : ti_inj ti_LT A) (M : ti_M) (hI : cI Tc M) (t : Nat) (ht : t = 3 ∨ t = 4) (hT : tT M 1 1 = some t) (j : Nat) (hj : j < 3) (hL : tT M 1 2 = some (ti_laws t j)) (B : Nat → Int) (n : Nat) (rg : Nat → Int) (hr : rC B n t rg M) (td : Nat → Int) (hq : tq t td M) : ti_KvE l yX4_readPart cX4_readPart 3 50 ti_LT D A cy M [.ref (A 1 0), .int 2] (fun M2 => cI Tc M2 ∧ M2.2.2.2 = M.2.2.2 ∧ f0 M2 M ∧ tI M2 2 1 = tI M 2 1 ∧ ot t M2 M ∧ rC B n t (pp_pt B n 6 rg) M2 ∧ tq t (qq_pt B n j 6 rg td) M2) := by
  refine ti_eVE yp_X4_readPart hJ ti_LT_nd (Nat.le_of_ble_eq_true rfl) ?_
  intro p e s m args below meth c Q H0 C hE hQ hw ls hl
  have hx := C.1
  have hb := C.2.1
  have hl : lv_has ls 3 [(0, .ref (A 1 0)), (1, .int 2)] := hl
  have l0 : rg 0 = (tI M 2 4).toInt := hr.2.1.1
  have l1 : rg 1 = (tI M 2 6).toInt := hr.2.1.2.1
  have l2 : rg 2 = (tI M 2 5).toInt := hr.2.1.2.2.1
  have l3 : rg 3 = (tI M 2 3).toInt := hr.2.1.2.2.2
  have l4 : rg 4 = (tI M 1 4).toInt := hr.2.2.1.1
  have l5 : rg 5 = (tI M 1 5).toInt := hr.2.2.1.2.1
  have l7 : rg 7 = (tI M t 4).toInt := hr.2.2.2.1.1
  have l8 : rg 8 = (tI M t 5).toInt := hr.2.2.2.1.2.1
  have l9 : rg 9 = (tI M t 3).toInt := hr.2.2.2.1.2.2
  refine lv_aload_n hx hb dX4_readPart_0 rfl (lv_at hl 0 rfl) ?_
  refine ti_get (ci := 4) (k := 0) (N := 6) (T := TX4) (v := .ref (A 2 0)) C hw iw_4 rfl ob_1 (by decide) (by decide) fl_X4_12 rfl rfl dX4_readPart_1 ?_
  refine ti_get (ci := 7) (k := 4) (N := 7) (T := TX7) C hw iw_7 rfl ob_2 (by decide) (by decide) fl_X4_41 rfl rfl dX4_readPart_4 ?_
  refine lv_topi (fun x_1 ex_1 => ?_)
  have bx_1 : 0 ≤ x_1.toInt ∧ x_1.toInt ≤ 41 := cI_rd hI ob_2.1 ex_1
  have ux_1 : (tI M 2 4).toInt = x_1.toInt := by rw [ex_1]
  refine lv_istore_n (lv' := [(2, .int x_1), (0, .ref (A 1 0)), (1, .int 2)]) hx hb dX4_readPart_7 rfl hl (by decide) rfl (fun ls hl => ?_)
  refine lv_iload_n hx hb dX4_readPart_8 rfl (lv_at hl 0 rfl) ?_
  refine lv_bipush (v := 30) hx hb dX4_readPart_9 (by decide) ?_
  refine sb_icmp_ne (tgt := 28) hx hb rfl (by decide : (30 : Int32).toInt = 30) dX4_readPart_11 (by decide) (fun c_11_1 => ?_) (fun c_11_1 => ?_)
  · refine lv_iload_n hx hb dX4_readPart_28 rfl (lv_at hl 0 rfl) ?_
    refine lv_bipush (v := 30) hx hb dX4_readPart_29 (by decide) ?_
    refine sb_icmp_ne (tgt := 57) hx hb rfl (by decide : (30 : Int32).toInt = 30) dX4_readPart_31 (by decide) (fun c_31_3 => ?_) (fun h => by omega)
    refine lv_iload_n hx hb dX4_readPart_57 rfl (lv_at hl 0 rfl) ?_
    refine lv_bipush (v := 26) hx hb dX4_readPart_58 (by decide) ?_
    refine sb_icmp_ne (tgt := 84) hx hb rfl (by decide : (26 : Int32).toInt = 26) dX4_readPart_60 (by decide) (fun c_60_30 => ?_) (fun c_60_30 => ?_)
    · refine lv_iload_n hx hb dX4_readPart_84 rfl (lv_at hl 0 rfl) ?_
      refine lv_bipush (v := 26) hx hb dX4_readPart_85 (by decide) ?_
      refine sb_icmp_ne (tgt := 111) hx hb rfl (by decide : (26 : Int32).toInt = 26) dX4_readPart_87 (by decide) (fun c_87_41 => ?_) (fun h => by omega)
      refine lv_iload_n hx hb dX4_readPart_111 rfl (lv_at hl 0 rfl) ?_
      refine lv_bipush (v := 16) hx hb dX4_readPart_112 (by decide) ?_
      refine sb_icmp_lt (tgt := 139) hx hb rfl (by decide : (16 : Int32).toInt = 16) dX4_readPart_114 (by decide) (fun c_114_58 => ?_) (fun c_114_58 => ?_)
      · refine lv_aload_n hx hb dX4_readPart_139 rfl (lv_at hl 1 rfl) ?_
        refine lv_iconst (v := 1) hx hb dX4_readPart_140 (by decide) ?_
        refine ti_callVv (ci := 4) (av := [.int 1]) C hw (x_X4_refuse l D A cy hJ M hI t ht 1 B n rg hr) ⟨ml_X4_82, ym_X4_refuse, yv_X4_refuse, yi_X4_refuse, yc_X4_refuse⟩ yd_X4_refuse ob_1 (by decide) rfl rfl hl.1 (Nat.le_of_ble_eq_true rfl) ⟨by decide, by decide⟩ ⟨Nat.zero_le _, Nat.zero_le _⟩ dX4_readPart_141 (fun M_77 H locs hp_77 hw => ?_)
        obtain ⟨iM_77, q_78, q_79, q_80, q_81, p0r_76⟩ := hp_77
        have hlr_76_1 : (1 : Int32).toInt = 1 := by decide
        simp only [hlr_76_1] at p0r_76
        obtain ⟨g_82, eg_82⟩ : ∃ z : Nat → Int, z = pp_rf 1 rg := ⟨_, rfl⟩
        rw [← eg_82] at p0r_76
        have lg_82_0 : g_82 0 = (tI M_77 2 4).toInt := p0r_76.2.1.1
        have lg_82_1 : g_82 1 = (tI M_77 2 6).toInt := p0r_76.2.1.2.1
        have lg_82_4 : g_82 4 = (tI M_77 1 4).toInt := p0r_76.2.2.1.1
        have lg_82_7 : g_82 7 = (tI M_77 t 4).toInt := p0r_76.2.2.2.1.1
        have lg_82_8 : g_82 8 = (tI M_77 t 5).toInt := p0r_76.2.2.2.1.2.1
        have tq_83 : tq t td M_77 := tq_fr ht hq q_79 q_81
        exact hQ _ _ _ _ _ hw (⟨iM_77, (q_78), (f0_12 q_79), (q_80), (ot_12 ht q_79 q_81), (by rw [pe_6, if_neg (by omega)]; unfold pp_p0; rw [if_neg (by omega), if_neg (fun q => by omega), ← eg_82]; exact p0r_76), (by rw [qe_6, if_neg (by omega)]; unfold qq_p0; rw [if_neg (by omega), if_neg (fun q => by omega)]; exact tq_83)⟩) dX4_readPart_144
      · refine lv_iload_n hx hb dX4_readPart_117 rfl (lv_at hl 0 rfl) ?_
        refine lv_bipush (v := 21) hx hb dX4_readPart_118 (by decide) ?_
        refine sb_icmp_gt (tgt := 139) hx hb rfl (by decide : (21 : Int32).toInt = 21) dX4_readPart_120 (by decide) (fun c_120_59 => ?_) (fun c_120_59 => ?_)
        · refine lv_aload_n hx hb dX4_readPart_139 rfl (lv_at hl 1 rfl) ?_
          refine lv_iconst (v := 1) hx hb dX4_readPart_140 (by decide) ?_
          refine ti_callVv (ci := 4) (av := [.int 1]) C hw (x_X4_refuse l D A cy hJ M hI t ht 1 B n rg hr) ⟨ml_X4_82, ym_X4_refuse, yv_X4_refuse, yi_X4_refuse, yc_X4_refuse⟩ yd_X4_refuse ob_1 (by decide) rfl rfl hl.1 (Nat.le_of_ble_eq_true rfl) ⟨by decide, by decide⟩ ⟨Nat.zero_le _, Nat.zero_le _⟩ dX4_readPart_141 (fun M_85 H locs hp_85 hw => ?_)
          obtain ⟨iM_85, q_86, q_87, q_88, q_89, p0r_84⟩ := hp_85
          have hlr_84_1 : (1 : Int32).toInt = 1 := by decide
          simp only [hlr_84_1] at p0r_84
          obtain ⟨g_90, eg_90⟩ : ∃ z : Nat → Int, z = pp_rf 1 rg := ⟨_, rfl⟩
          rw [← eg_90] at p0r_84
          have lg_90_0 : g_90 0 = (tI M_85 2 4).toInt := p0r_84.2.1.1
          have lg_90_1 : g_90 1 = (tI M_85 2 6).toInt := p0r_84.2.1.2.1
          have lg_90_4 : g_90 4 = (tI M_85 1 4).toInt := p0r_84.2.2.1.1
          have lg_90_7 : g_90 7 = (tI M_85 t 4).toInt := p0r_84.2.2.2.1.1
          have lg_90_8 : g_90 8 = (tI M_85 t 5).toInt := p0r_84.2.2.2.1.2.1
          have tq_91 : tq t td M_85 := tq_fr ht hq q_87 q_89
          exact hQ _ _ _ _ _ hw (⟨iM_85, (q_86), (f0_12 q_87), (q_88), (ot_12 ht q_87 q_89), (by rw [pe_6, if_neg (by omega)]; unfold pp_p0; rw [if_neg (by omega), if_neg (fun q => by omega), ← eg_90]; exact p0r_84), (by rw [qe_6, if_neg (by omega)]; unfold qq_p0; rw [if_neg (by omega), if_neg (fun q => by omega)]; exact tq_91)⟩) dX4_readPart_144
        · refine lv_aload_n hx hb dX4_readPart_123 rfl (lv_at hl 1 rfl) ?_
          refine ti_get (ci := 4) (k := 2) (N := 6) (T := TX4) (v := .ref (A (ti_laws t j) 0)) C hw iw_4 rfl ob_1 (by decide) (by decide) fl_X4_154 rfl (ti_Tv (hL)) dX4_readPart_124 ?_
          refine lv_iload_n hx hb dX4_readPart_127 rfl (lv_at hl 0 rfl) ?_
          refine lv_ineg hx hb dX4_readPart_128 ?_
          refine lv_topi (fun x_61 ex_61 => ?_)
          have tx_61 : x_61.toInt = -x_1.toInt := i_neg ex_61 rfl (by omega)
          refine ti_callVv (ci := 1) (av := [.int x_61]) C hw (x_X1_add l D A cy hJ M hI t ht j hj x_61 (by first | omega | exact Or.inl (by decide) | exact Or.inr (by decide)) B n rg hr td hq) ⟨ml_X4_170, ym_X1_add, yv_X1_add, yi_X1_add, yc_X1_add⟩ yd_X1_add (ob_l ht hj) (by decide) rfl rfl hl.1 (Nat.le_of_ble_eq_true rfl) ⟨by decide, by decide⟩ ⟨Nat.zero_le _, Nat.zero_le _⟩ dX4_readPart_129 (fun M_63 H locs hp_63 hw => ?_)
          obtain ⟨iM_63, q_64, q_65, q_66, p0r_62, p1r_62⟩ := hp_63
          have lM_63_0 : rg 0 = (tI M_63 2 4).toInt := p0r_62.2.1.1
          have lM_63_1 : rg 1 = (tI M_63 2 6).toInt := p0r_62.2.1.2.1
          have lM_63_4 : rg 4 = (tI M_63 1 4).toInt := p0r_62.2.2.1.1
          have lM_63_7 : rg 7 = (tI M_63 t 4).toInt := p0r_62.2.2.2.1.1
          have lM_63_8 : rg 8 = (tI M_63 t 5).toInt := p0r_62.2.2.2.1.2.1
          obtain ⟨d_67, ed_67⟩ : ∃ z : Nat → Int, z = qa j x_61.toInt td := ⟨_, rfl⟩
          rw [← ed_67] at p1r_62
          refine lv_aload_n hx hb dX4_readPart_132 rfl (lv_at hl 1 rfl) ?_
          refine ti_callVvE (ci := 4) (av := []) C hE hw (x_X4_knot l D A cy hJ M_63 iM_63 t ht ((tT_fr q_64).trans hT) B n rg p0r_62 d_67 p1r_62) ⟨ml_X4_167, ym_X4_knot, yv_X4_knot, yi_X4_knot, yc_X4_knot⟩ yd_X4_knot ob_1 (by decide) rfl rfl hl.1 (Nat.le_of_ble_eq_true rfl) ⟨by decide, by decide⟩ ⟨Nat.zero_le _, Nat.zero_le _⟩ dX4_readPart_133 (fun M_69 H locs hp_69 hw => ?_)
          obtain ⟨iM_69, q_70, q_71, q_72, q_73, q_74, p0r_68, p1r_68⟩ := hp_69
          obtain ⟨g_75, eg_75⟩ : ∃ z : Nat → Int, z = pp_kn B n rg := ⟨_, rfl⟩
          rw [← eg_75] at p0r_68
          have lg_75_0 : g_75 0 = (tI M_69 2 4).toInt := p0r_68.2.1.1
          have lg_75_1 : g_75 1 = (tI M_69 2 6).toInt := p0r_68.2.1.2.1
          have lg_75_4 : g_75 4 = (tI M_69 1 4).toInt := p0r_68.2.2.1.1
          have lg_75_7 : g_75 7 = (tI M_69 t 4).toInt := p0r_68.2.2.2.1.1
          have lg_75_8 : g_75 8 = (tI M_69 t 5).toInt := p0r_68.2.2.2.1.2.1
          refine lv_goto (tgt := 144) hx hb dX4_readPart_136 (by decide) ?_
          exact hQ _ _ _ _ _ hw (⟨iM_69, ((q_70).trans q_64), (f0.trans q_71 (f0_x q_65)), ((q_72).trans ((q_65 1).2.1)), (ot.trans q_73 q_66), (by rw [pe_6, if_neg (by omega)]; unfold pp_p0; rw [if_neg (by omega), if_pos ⟨by omega, by omega⟩, ← eg_75]; exact p0r_68), (by rw [qe_6, if_neg (by omega)]; unfold qq_p0; rw [if_neg (by omega), if_pos ⟨by omega, by omega⟩, show -(rg 0) = x_61.toInt by omega, ← ed_67]; exact p1r_68)⟩) dX4_readPart_144
    · refine lv_aload_n hx hb dX4_readPart_63 rfl (lv_at hl 1 rfl) ?_
      refine ti_get (ci := 4) (k := 0) (N := 6) (T := TX4) (v := .ref (A 2 0)) C hw iw_4 rfl ob_1 (by decide) (by decide) fl_X4_12 rfl rfl dX4_readPart_64 ?_
      refine ti_get (ci := 7) (k := 6) (N := 7) (T := TX7) C hw iw_7 rfl ob_2 (by decide) (by decide) fl_X4_95 rfl rfl dX4_readPart_67 ?_
      refine lv_topi (fun x_32 ex_32 => ?_)
      have bx_32 : 0 ≤ x_32.toInt ∧ x_32.toInt ≤ 2147483647 := cI_rd hI ob_2.1 ex_32
      have ux_32 : (tI M 2 6).toInt = x_32.toInt := by rw [ex_32]
      refine lv_sipush (v := 9999) hx hb dX4_readPart_70 (by decide) ?_
      refine sb_icmp_le (tgt := 84) hx hb rfl (by decide : (9999 : Int32).toInt = 9999) dX4_readPart_73 (by decide) (fun c_73_32 => ?_) (fun c_73_32 => ?_)
      · refine lv_iload_n hx hb dX4_readPart_84 rfl (lv_at hl 0 rfl) ?_
        refine lv_bipush (v := 26) hx hb dX4_readPart_85 (by decide) ?_
        refine sb_icmp_ne (tgt := 111) hx hb rfl (by decide : (26 : Int32).toInt = 26) dX4_readPart_87 (by decide) (fun h => by omega) (fun c_87_42 => ?_)
        refine lv_aload_n hx hb dX4_readPart_90 rfl (lv_at hl 1 rfl) ?_
        refine ti_get (ci := 4) (k := 2) (N := 6) (T := TX4) (v := .ref (A (ti_laws t j) 0)) C hw iw_4 rfl ob_1 (by decide) (by decide) fl_X4_154 rfl (ti_Tv (hL)) dX4_readPart_91 ?_
        refine lv_aload_n hx hb dX4_readPart_94 rfl (lv_at hl 1 rfl) ?_
        refine ti_get (ci := 4) (k := 0) (N := 6) (T := TX4) (v := .ref (A 2 0)) C hw iw_4 rfl ob_1 (by decide) (by decide) fl_X4_12 rfl rfl dX4_readPart_95 ?_
        refine ti_get (ci := 7) (k := 6) (N := 7) (T := TX7) C hw iw_7 rfl ob_2 (by decide) (by decide) fl_X4_95 rfl rfl dX4_readPart_98 ?_
        refine ti_top (y := x_32) (ex_32.symm) ?_
        have u_44 : (tI M 2 6).toInt = (x_32 : Int32).toInt := by rw [(ex_32.symm)]
        refine ti_callVv (ci := 1) (av := [.int x_32]) C hw (x_X1_add l D A cy hJ M hI t ht j hj x_32 (by first | omega | exact Or.inl (by decide) | exact Or.inr (by decide)) B n rg hr td hq) ⟨ml_X4_170, ym_X1_add, yv_X1_add, yi_X1_add, yc_X1_add⟩ yd_X1_add (ob_l ht hj) (by decide) rfl rfl hl.1 (Nat.le_of_ble_eq_true rfl) ⟨by decide, by decide⟩ ⟨Nat.zero_le _, Nat.zero_le _⟩ dX4_readPart_101 (fun M_46 H locs hp_46 hw => ?_)
        obtain ⟨iM_46, q_47, q_48, q_49, p0r_45, p1r_45⟩ := hp_46
        have lM_46_0 : rg 0 = (tI M_46 2 4).toInt := p0r_45.2.1.1
        have lM_46_1 : rg 1 = (tI M_46 2 6).toInt := p0r_45.2.1.2.1
        have lM_46_4 : rg 4 = (tI M_46 1 4).toInt := p0r_45.2.2.1.1
        have lM_46_7 : rg 7 = (tI M_46 t 4).toInt := p0r_45.2.2.2.1.1
        have lM_46_8 : rg 8 = (tI M_46 t 5).toInt := p0r_45.2.2.2.1.2.1
        obtain ⟨d_50, ed_50⟩ : ∃ z : Nat → Int, z = qa j x_32.toInt td := ⟨_, rfl⟩
        rw [← ed_50] at p1r_45
        refine lv_aload_n hx hb dX4_readPart_104 rfl (lv_at hl 1 rfl) ?_
        refine ti_callVvE (ci := 4) (av := []) C hE hw (x_X4_knot l D A cy hJ M_46 iM_46 t ht ((tT_fr q_47).trans hT) B n rg p0r_45 d_50 p1r_45) ⟨ml_X4_167, ym_X4_knot, yv_X4_knot, yi_X4_knot, yc_X4_knot⟩ yd_X4_knot ob_1 (by decide) rfl rfl hl.1 (Nat.le_of_ble_eq_true rfl) ⟨by decide, by decide⟩ ⟨Nat.zero_le _, Nat.zero_le _⟩ dX4_readPart_105 (fun M_52 H locs hp_52 hw => ?_)
        obtain ⟨iM_52, q_53, q_54, q_55, q_56, q_57, p0r_51, p1r_51⟩ := hp_52
        obtain ⟨g_58, eg_58⟩ : ∃ z : Nat → Int, z = pp_kn B n rg := ⟨_, rfl⟩
        rw [← eg_58] at p0r_51
        have lg_58_0 : g_58 0 = (tI M_52 2 4).toInt := p0r_51.2.1.1
        have lg_58_1 : g_58 1 = (tI M_52 2 6).toInt := p0r_51.2.1.2.1
        have lg_58_4 : g_58 4 = (tI M_52 1 4).toInt := p0r_51.2.2.1.1
        have lg_58_7 : g_58 7 = (tI M_52 t 4).toInt := p0r_51.2.2.2.1.1
        have lg_58_8 : g_58 8 = (tI M_52 t 5).toInt := p0r_51.2.2.2.1.2.1
        refine lv_goto (tgt := 144) hx hb dX4_readPart_108 (by decide) ?_
        exact hQ _ _ _ _ _ hw (⟨iM_52, ((q_53).trans q_47), (f0.trans q_54 (f0_x q_48)), ((q_55).trans ((q_48 1).2.1)), (ot.trans q_56 q_49), (by rw [pe_6, if_neg (by omega)]; unfold pp_p0; rw [if_pos (by omega), if_neg (by omega), ← eg_58]; exact p0r_51), (by rw [qe_6, if_neg (by omega)]; unfold qq_p0; rw [if_pos (by omega), if_neg (by omega), show rg 1 = x_32.toInt by omega, ← ed_50]; exact p1r_51)⟩) dX4_readPart_144
      · refine lv_aload_n hx hb dX4_readPart_76 rfl (lv_at hl 1 rfl) ?_
        refine lv_iconst (v := 2) hx hb dX4_readPart_77 (by decide) ?_
        refine ti_callVv (ci := 4) (av := [.int 2]) C hw (x_X4_refuse l D A cy hJ M hI t ht 2 B n rg hr) ⟨ml_X4_82, ym_X4_refuse, yv_X4_refuse, yi_X4_refuse, yc_X4_refuse⟩ yd_X4_refuse ob_1 (by decide) rfl rfl hl.1 (Nat.le_of_ble_eq_true rfl) ⟨by decide, by decide⟩ ⟨Nat.zero_le _, Nat.zero_le _⟩ dX4_readPart_78 (fun M_35 H locs hp_35 hw => ?_)
        obtain ⟨iM_35, q_36, q_37, q_38, q_39, p0r_34⟩ := hp_35
        have hlr_34_2 : (2 : Int32).toInt = 2 := by decide
        simp only [hlr_34_2] at p0r_34
        obtain ⟨g_40, eg_40⟩ : ∃ z : Nat → Int, z = pp_rf 2 rg := ⟨_, rfl⟩
        rw [← eg_40] at p0r_34
        have lg_40_0 : g_40 0 = (tI M_35 2 4).toInt := p0r_34.2.1.1
        have lg_40_1 : g_40 1 = (tI M_35 2 6).toInt := p0r_34.2.1.2.1
        have lg_40_4 : g_40 4 = (tI M_35 1 4).toInt := p0r_34.2.2.1.1
        have lg_40_7 : g_40 7 = (tI M_35 t 4).toInt := p0r_34.2.2.2.1.1
        have lg_40_8 : g_40 8 = (tI M_35 t 5).toInt := p0r_34.2.2.2.1.2.1
        have tq_41 : tq t td M_35 := tq_fr ht hq q_37 q_39
        refine lv_goto (tgt := 144) hx hb dX4_readPart_81 (by decide) ?_
        exact hQ _ _ _ _ _ hw (⟨iM_35, (q_36), (f0_12 q_37), (q_38), (ot_12 ht q_37 q_39), (by rw [pe_6, if_neg (by omega)]; unfold pp_p0; rw [if_pos (by omega), if_pos (by omega), ← eg_40]; exact p0r_34), (by rw [qe_6, if_neg (by omega)]; unfold qq_p0; rw [if_pos (by omega), if_pos (by omega)]; exact tq_41)⟩) dX4_readPart_144
  · refine lv_iload_n hx hb dX4_readPart_14 rfl (lv_at hl 2 rfl) ?_
    refine lv_bipush (v := 8) hx hb dX4_readPart_15 (by decide) ?_
    refine sb_icmp_lt (tgt := 28) hx hb (by decide : (2 : Int32).toInt = 2) (by decide : (8 : Int32).toInt = 8) dX4_readPart_17 (by decide) (fun c_17_2 => ?_) (fun h => absurd h (by decide))
    refine lv_iload_n hx hb dX4_readPart_28 rfl (lv_at hl 0 rfl) ?_
    refine lv_bipush (v := 30) hx hb dX4_readPart_29 (by decide) ?_
    refine sb_icmp_ne (tgt := 57) hx hb rfl (by decide : (30 : Int32).toInt = 30) dX4_readPart_31 (by decide) (fun h => by omega) (fun c_31_4 => ?_)
    refine lv_aload_n hx hb dX4_readPart_34 rfl (lv_at hl 1 rfl) ?_
    refine ti_get (ci := 4) (k := 0) (N := 6) (T := TX4) (v := .ref (A 2 0)) C hw iw_4 rfl ob_1 (by decide) (by decide) fl_X4_12 rfl rfl dX4_readPart_35 ?_
    refine ti_callVvE (ci := 7) (av := []) C hE hw (x_X7_advance l D A cy hJ M hI ) ⟨ml_X4_92, ym_X7_advance, yv_X7_advance, yi_X7_advance, yc_X7_advance⟩ yd_X7_advance ob_2 (by decide) rfl rfl hl.1 (Nat.le_of_ble_eq_true rfl) ⟨by decide, by decide⟩ ⟨Nat.zero_le _, Nat.zero_le _⟩ dX4_readPart_38 (fun M_7 H locs hp_7 hw => ?_)
    obtain ⟨iM_7, q_8, q_9, q_10, q_11, p0r_6, p1r_6, p2r_6, p3r_6⟩ := hp_7
    have hs_12 := rC_av ht hr q_11 q_9 p0r_6 p1r_6 p2r_6 p3r_6
    obtain ⟨g_13, eg_13⟩ : ∃ z : Nat → Int, z = pp_av B n rg := ⟨_, rfl⟩
    rw [← eg_13] at hs_12
    have lg_13_0 : g_13 0 = (tI M_7 2 4).toInt := hs_12.2.1.1
    have lg_13_1 : g_13 1 = (tI M_7 2 6).toInt := hs_12.2.1.2.1
    have lg_13_4 : g_13 4 = (tI M_7 1 4).toInt := hs_12.2.2.1.1
    have lg_13_7 : g_13 7 = (tI M_7 t 4).toInt := hs_12.2.2.2.1.1
    have lg_13_8 : g_13 8 = (tI M_7 t 5).toInt := hs_12.2.2.2.1.2.1
    have tq_14 : tq t td M_7 := tq_fr ht hq (o2_12 q_9) q_11.1
    refine lv_aload_n hx hb dX4_readPart_41 rfl (lv_at hl 1 rfl) ?_
    refine lv_iload_n hx hb dX4_readPart_42 rfl (lv_at hl 2 rfl) ?_
    refine lv_iconst (v := 1) hx hb dX4_readPart_43 (by decide) ?_
    refine lv_iadd hx hb dX4_readPart_44 ?_
    refine ti_top (y := 3) (by decide) ?_
    refine ti_callVvE (ci := 4) (av := [.int 3]) C hE hw (x_X4_readEither_3 l D A cy hJ M_7 iM_7 t ht ((tT_fr q_8).trans hT) j hj ((tT_fr q_8).trans hL) B n g_13 hs_12 td tq_14) ⟨ml_X4_158, ym_X4_readEither, yv_X4_readEither, yi_X4_readEither, yc_X4_readEither⟩ yd_X4_readEither ob_1 (by decide) rfl rfl hl.1 (Nat.le_of_ble_eq_true rfl) ⟨by decide, by decide⟩ ⟨Nat.zero_le _, Nat.zero_le _⟩ dX4_readPart_45 (fun M_16 H locs hp_16 hw => ?_)
    obtain ⟨iM_16, q_17, q_18, q_19, q_20, p0r_15, p1r_15⟩ := hp_16
    obtain ⟨g_21, eg_21⟩ : ∃ z : Nat → Int, z = pp_ei B n (pp_pt B n 5) g_13 := ⟨_, rfl⟩
    rw [← eg_21] at p0r_15
    have lg_21_0 : g_21 0 = (tI M_16 2 4).toInt := p0r_15.2.1.1
    have lg_21_1 : g_21 1 = (tI M_16 2 6).toInt := p0r_15.2.1.2.1
    have lg_21_4 : g_21 4 = (tI M_16 1 4).toInt := p0r_15.2.2.1.1
    have lg_21_7 : g_21 7 = (tI M_16 t 4).toInt := p0r_15.2.2.2.1.1
    have lg_21_8 : g_21 8 = (tI M_16 t 5).toInt := p0r_15.2.2.2.1.2.1
    obtain ⟨d_22, ed_22⟩ : ∃ z : Nat → Int, z = qq_ei B n j (pp_pt B n 5) (qq_pt B n j 5) g_13 td := ⟨_, rfl⟩
    rw [← ed_22] at p1r_15
    refine lv_aload_n hx hb dX4_readPart_48 rfl (lv_at hl 1 rfl) ?_
    refine lv_bipush (v := 31) hx hb dX4_readPart_49 (by decide) ?_
    refine ti_callVvE (ci := 4) (av := [.int 31]) C hE hw (x_X4_take l D A cy hJ M_16 iM_16 t ht 31 B n g_21 p0r_15) ⟨ml_X4_85, ym_X4_take, yv_X4_take, yi_X4_take, yc_X4_take⟩ yd_X4_take ob_1 (by decide) rfl rfl hl.1 (Nat.le_of_ble_eq_true rfl) ⟨by decide, by decide⟩ ⟨Nat.zero_le _, Nat.zero_le _⟩ dX4_readPart_51 (fun M_24 H locs hp_24 hw => ?_)
    obtain ⟨iM_24, q_25, q_26, q_27, q_28, p0r_23⟩ := hp_24
    have hlr_23_31 : (31 : Int32).toInt = 31 := by decide
    simp only [hlr_23_31] at p0r_23
    obtain ⟨g_29, eg_29⟩ : ∃ z : Nat → Int, z = pp_tk B n 31 g_21 := ⟨_, rfl⟩
    rw [← eg_29] at p0r_23
    have lg_29_0 : g_29 0 = (tI M_24 2 4).toInt := p0r_23.2.1.1
    have lg_29_1 : g_29 1 = (tI M_24 2 6).toInt := p0r_23.2.1.2.1
    have lg_29_4 : g_29 4 = (tI M_24 1 4).toInt := p0r_23.2.2.1.1
    have lg_29_7 : g_29 7 = (tI M_24 t 4).toInt := p0r_23.2.2.2.1.1
    have lg_29_8 : g_29 8 = (tI M_24 t 5).toInt := p0r_23.2.2.2.1.2.1
    have tq_30 : tq t d_22 M_24 := tq_fr ht p1r_15 q_26 q_28
    refine lv_goto (tgt := 144) hx hb dX4_readPart_54 (by decide) ?_
    exact hQ _ _ _ _ _ hw (⟨iM_24, ((q_25).trans ((q_17).trans q_8)), (f0.trans (f0_12 q_26) (f0.trans q_18 (f0_12 (o2_12 q_9)))), ((q_27).trans ((q_19).trans q_10)), (ot.trans (ot_12 ht q_26 q_28) (ot.trans q_20 (ot_12 ht (o2_12 q_9) q_11.1))), (by rw [pe_6, if_pos (by omega), ← eg_13, ← eg_21, ← eg_29]; exact p0r_23), (by rw [qe_6, if_pos (by omega), ← eg_13, ← ed_22]; exact tq_30)⟩) dX4_readPart_144
set_option maxHeartbeats 4000000 in
set_option maxRecDepth 100000 in
theorem x_X4_readProduct_2 (l : Launch) (D : va_G) (A : Nat → Nat → Nat) (cy : Nat → ClassId) (hJ : ti_inj ti_LT A) (M : ti_M) (hI : cI Tc M) (t : Nat) (ht : t = 3 ∨ t = 4) (hT : tT M 1 1 = some t) (j : Nat) (hj : j < 3) (hL : tT M 1 2 = some (ti_laws t j)) (B : Nat → Int) (n : Nat) (rg : Nat → Int) (hr : rC B n t rg M) (td : Nat → Int) (hq : tq t td M) : ti_KvE l yX4_readProduct cX4_readProduct 4 51 ti_LT D A cy M [.ref (A 1 0), .int 2] (fun M2 => cI Tc M2 ∧ M2.2.2.2 = M.2.2.2 ∧ f0 M2 M ∧ tI M2 2 1 = tI M 2 1 ∧ ot t M2 M ∧ rC B n t (pp_pd B n (pp_pt B n 6) rg) M2 ∧ tq t (qq_pd B n j (pp_pt B n 6) (qq_pt B n j 6) rg td) M2) := by
  refine ti_eVE yp_X4_readProduct hJ ti_LT_nd (Nat.le_of_ble_eq_true rfl) ?_
  intro p e s m args below meth c Q H0 C hE hQ hw ls hl
  have hx := C.1
  have hb := C.2.1
  have hl : lv_has ls 4 [(0, .ref (A 1 0)), (1, .int 2)] := hl
  have l0 : rg 0 = (tI M 2 4).toInt := hr.2.1.1
  have l1 : rg 1 = (tI M 2 6).toInt := hr.2.1.2.1
  have l2 : rg 2 = (tI M 2 5).toInt := hr.2.1.2.2.1
  have l3 : rg 3 = (tI M 2 3).toInt := hr.2.1.2.2.2
  have l4 : rg 4 = (tI M 1 4).toInt := hr.2.2.1.1
  have l5 : rg 5 = (tI M 1 5).toInt := hr.2.2.1.2.1
  have l7 : rg 7 = (tI M t 4).toInt := hr.2.2.2.1.1
  have l8 : rg 8 = (tI M t 5).toInt := hr.2.2.2.1.2.1
  have l9 : rg 9 = (tI M t 3).toInt := hr.2.2.2.1.2.2
  refine lv_aload_n hx hb dX4_readProduct_0 rfl (lv_at hl 0 rfl) ?_
  refine lv_iload_n hx hb dX4_readProduct_1 rfl (lv_at hl 1 rfl) ?_
  refine ti_callVvE (ci := 4) (av := [.int 2]) C hE hw (x_X4_readPart_2 l D A cy hJ M hI t ht (hT) j hj (hL) B n rg hr td hq) ⟨ml_X4_187, ym_X4_readPart, yv_X4_readPart, yi_X4_readPart, yc_X4_readPart⟩ yd_X4_readPart ob_1 (by decide) rfl rfl hl.1 (Nat.le_of_ble_eq_true rfl) ⟨by decide, by decide⟩ ⟨Nat.zero_le _, Nat.zero_le _⟩ dX4_readProduct_2 (fun M_2 H locs hp_2 hw => ?_)
  obtain ⟨iM_2, q_3, q_4, q_5, q_6, p0r_1, p1r_1⟩ := hp_2
  obtain ⟨g_7, eg_7⟩ : ∃ z : Nat → Int, z = pp_pt B n 6 rg := ⟨_, rfl⟩
  rw [← eg_7] at p0r_1
  have lg_7_0 : g_7 0 = (tI M_2 2 4).toInt := p0r_1.2.1.1
  have lg_7_1 : g_7 1 = (tI M_2 2 6).toInt := p0r_1.2.1.2.1
  have lg_7_4 : g_7 4 = (tI M_2 1 4).toInt := p0r_1.2.2.1.1
  have lg_7_7 : g_7 7 = (tI M_2 t 4).toInt := p0r_1.2.2.2.1.1
  have lg_7_8 : g_7 8 = (tI M_2 t 5).toInt := p0r_1.2.2.2.1.2.1
  obtain ⟨d_8, ed_8⟩ : ∃ z : Nat → Int, z = qq_pt B n j 6 rg td := ⟨_, rfl⟩
  rw [← ed_8] at p1r_1
  refine lv_iconst (v := 0) hx hb dX4_readProduct_5 (by decide) ?_
  refine lv_istore_n (lv' := [(2, .int 0), (0, .ref (A 1 0)), (1, .int 2)]) hx hb dX4_readProduct_6 rfl hl (by decide) rfl (fun ls hl => ?_)
  have hl_7_24 : ∀ (n_25 : Nat) (x_9 : Int32) (M_12 : ti_M) (g_19 : Nat → Int) (d_21 : Nat → Int) (H : Heap) (locs : List Loc) (ls : Array Slot), (64 - x_9.toInt : Int).toNat < n_25 → (0 ≤ x_9.toInt) → (x_9.toInt ≤ 64) → (cI Tc M_12) → (M_12.2.2.2 = M.2.2.2) → (f0 M_12 M) → (tI M_12 2 1 = tI M 2 1) → (ot t M_12 M) → (tT M_12 1 1 = (some t)) → (tT M_12 1 2 = (some (ti_laws t j))) → (rC B n t g_19 M_12) → (tq t d_21 M_12) → (pp_lp pp_qT (fun s => (pp_pt B n 6) (pp_kn B n s)) 64 g_7 = pp_lp pp_qT (fun s => (pp_pt B n 6) (pp_kn B n s)) (64 - (x_9.toInt).toNat) g_19) → (qq_lp pp_qT (fun s => (pp_pt B n 6) (pp_kn B n s)) (fun s td => qa j (-(s 0)) ((qq_pt B n j 6) (pp_kn B n s) td)) 64 g_7 d_8 = qq_lp pp_qT (fun s => (pp_pt B n 6) (pp_kn B n s)) (fun s td => qa j (-(s 0)) ((qq_pt B n j 6) (pp_kn B n s) td)) (64 - (x_9.toInt).toNat) g_19 d_21) → ti_H ti_LT D A cy H0 M_12 H locs → lv_has ls 4 [(2, .int x_9), (0, .ref (A 1 0)), (1, .int 2)] → W p l e (ti_rm 51) s m args below meth c H locs 0 0 Q (F0 m 7 ls []) := by
    intro n_25
    induction n_25 with
    | zero => intro x_9 M_12 g_19 d_21 H locs ls hf_25; exact absurd hf_25 (Nat.not_lt_zero _)
    | succ n_25 ih_25 =>
      intro x_9 M_12 g_19 d_21 H locs ls hf_25 b_10 b_11 iM_12 f_13 f_14 f_15 f_16 f_17 f_18 hs_20 tq_22 j_23 j_24 hw hl
      have lg_19_0 : g_19 0 = (tI M_12 2 4).toInt := hs_20.2.1.1
      have lg_19_1 : g_19 1 = (tI M_12 2 6).toInt := hs_20.2.1.2.1
      have lg_19_4 : g_19 4 = (tI M_12 1 4).toInt := hs_20.2.2.1.1
      have lg_19_7 : g_19 7 = (tI M_12 t 4).toInt := hs_20.2.2.2.1.1
      have lg_19_8 : g_19 8 = (tI M_12 t 5).toInt := hs_20.2.2.2.1.2.1
      refine lv_iload_n hx hb dX4_readProduct_7 rfl (lv_at hl 0 rfl) ?_
      refine lv_bipush (v := 64) hx hb dX4_readProduct_8 (by decide) ?_
      refine sb_icmp_ge (tgt := 69) hx hb rfl (by decide : (64 : Int32).toInt = 64) dX4_readProduct_10 (by decide) (fun c_10_25 => ?_) (fun c_10_25 => ?_)
      · exact hQ _ _ _ _ _ hw (⟨iM_12, (f_13), f_14, (f_15), f_16, (by unfold pp_pd; rw [← eg_7, j_23, lp_end (P := pp_qT) (f := 64 - x_9.toInt.toNat) (s := g_19) (Or.inl (by omega))]; exact hs_20), (by unfold qq_pd; rw [← eg_7, ← ed_8, j_24, qlp_end (P := pp_qT) (f := 64 - x_9.toInt.toNat) (s := g_19) (Or.inl (by omega))]; exact tq_22)⟩) dX4_readProduct_69
      · refine lv_aload_n hx hb dX4_readProduct_13 rfl (lv_at hl 1 rfl) ?_
        refine ti_get (ci := 4) (k := 0) (N := 6) (T := TX4) (v := .ref (A 2 0)) C hw iw_4 rfl ob_1 (by decide) (by decide) fl_X4_12 rfl rfl dX4_readProduct_14 ?_
        refine ti_get (ci := 7) (k := 4) (N := 7) (T := TX7) C hw iw_7 rfl ob_2 (by decide) (by decide) fl_X4_41 rfl rfl dX4_readProduct_17 ?_
        refine lv_topi (fun x_27 ex_27 => ?_)
        have bx_27 : 0 ≤ x_27.toInt ∧ x_27.toInt ≤ 41 := cI_rd iM_12 ob_2.1 ex_27
        have ux_27 : (tI M_12 2 4).toInt = x_27.toInt := by rw [ex_27]
        refine lv_bipush (v := 40) hx hb dX4_readProduct_20 (by decide) ?_
        refine sb_icmp_eq (tgt := 37) hx hb rfl (by decide : (40 : Int32).toInt = 40) dX4_readProduct_22 (by decide) (fun c_22_27 => ?_) (fun c_22_27 => ?_)
        · refine lv_aload_n hx hb dX4_readProduct_37 rfl (lv_at hl 1 rfl) ?_
          refine ti_get (ci := 4) (k := 0) (N := 6) (T := TX4) (v := .ref (A 2 0)) C hw iw_4 rfl ob_1 (by decide) (by decide) fl_X4_12 rfl rfl dX4_readProduct_38 ?_
          refine ti_get (ci := 7) (k := 4) (N := 7) (T := TX7) C hw iw_7 rfl ob_2 (by decide) (by decide) fl_X4_41 rfl rfl dX4_readProduct_41 ?_
          refine ti_top (y := x_27) (ex_27.symm) ?_
          have u_31 : (tI M_12 2 4).toInt = (x_27 : Int32).toInt := by rw [(ex_27.symm)]
          refine lv_istore_n (lv' := [(3, .int x_27), (2, .int x_9), (0, .ref (A 1 0)), (1, .int 2)]) hx hb dX4_readProduct_44 rfl hl (by decide) rfl (fun ls hl => ?_)
          refine lv_aload_n hx hb dX4_readProduct_45 rfl (lv_at hl 2 rfl) ?_
          refine ti_callVvE (ci := 4) (av := []) C hE hw (x_X4_knot l D A cy hJ M_12 iM_12 t ht (f_17) B n g_19 hs_20 d_21 tq_22) ⟨ml_X4_167, ym_X4_knot, yv_X4_knot, yi_X4_knot, yc_X4_knot⟩ yd_X4_knot ob_1 (by decide) rfl rfl hl.1 (Nat.le_of_ble_eq_true rfl) ⟨by decide, by decide⟩ ⟨Nat.zero_le _, Nat.zero_le _⟩ dX4_readProduct_46 (fun M_33 H locs hp_33 hw => ?_)
          obtain ⟨iM_33, q_34, q_35, q_36, q_37, q_38, p0r_32, p1r_32⟩ := hp_33
          obtain ⟨g_39, eg_39⟩ : ∃ z : Nat → Int, z = pp_kn B n g_19 := ⟨_, rfl⟩
          rw [← eg_39] at p0r_32
          have lg_39_0 : g_39 0 = (tI M_33 2 4).toInt := p0r_32.2.1.1
          have lg_39_1 : g_39 1 = (tI M_33 2 6).toInt := p0r_32.2.1.2.1
          have lg_39_4 : g_39 4 = (tI M_33 1 4).toInt := p0r_32.2.2.1.1
          have lg_39_7 : g_39 7 = (tI M_33 t 4).toInt := p0r_32.2.2.2.1.1
          have lg_39_8 : g_39 8 = (tI M_33 t 5).toInt := p0r_32.2.2.2.1.2.1
          refine lv_aload_n hx hb dX4_readProduct_49 rfl (lv_at hl 2 rfl) ?_
          refine lv_iload_n hx hb dX4_readProduct_50 rfl (lv_at hl 3 rfl) ?_
          refine ti_callVvE (ci := 4) (av := [.int 2]) C hE hw (x_X4_readPart_2 l D A cy hJ M_33 iM_33 t ht ((tT_fr q_34).trans f_17) j hj ((tT_fr q_34).trans f_18) B n g_39 p0r_32 d_21 p1r_32) ⟨ml_X4_187, ym_X4_readPart, yv_X4_readPart, yi_X4_readPart, yc_X4_readPart⟩ yd_X4_readPart ob_1 (by decide) rfl rfl hl.1 (Nat.le_of_ble_eq_true rfl) ⟨by decide, by decide⟩ ⟨Nat.zero_le _, Nat.zero_le _⟩ dX4_readProduct_51 (fun M_41 H locs hp_41 hw => ?_)
          obtain ⟨iM_41, q_42, q_43, q_44, q_45, p0r_40, p1r_40⟩ := hp_41
          obtain ⟨g_46, eg_46⟩ : ∃ z : Nat → Int, z = pp_pt B n 6 g_39 := ⟨_, rfl⟩
          rw [← eg_46] at p0r_40
          have lg_46_0 : g_46 0 = (tI M_41 2 4).toInt := p0r_40.2.1.1
          have lg_46_1 : g_46 1 = (tI M_41 2 6).toInt := p0r_40.2.1.2.1
          have lg_46_4 : g_46 4 = (tI M_41 1 4).toInt := p0r_40.2.2.1.1
          have lg_46_7 : g_46 7 = (tI M_41 t 4).toInt := p0r_40.2.2.2.1.1
          have lg_46_8 : g_46 8 = (tI M_41 t 5).toInt := p0r_40.2.2.2.1.2.1
          obtain ⟨d_47, ed_47⟩ : ∃ z : Nat → Int, z = qq_pt B n j 6 g_39 d_21 := ⟨_, rfl⟩
          rw [← ed_47] at p1r_40
          refine lv_aload_n hx hb dX4_readProduct_54 rfl (lv_at hl 2 rfl) ?_
          refine ti_get (ci := 4) (k := 2) (N := 6) (T := TX4) (v := .ref (A (ti_laws t j) 0)) C hw iw_4 rfl ob_1 (by decide) (by decide) fl_X4_154 rfl (ti_Tv ((tT_fr q_42).trans ((tT_fr q_34).trans f_18))) dX4_readProduct_55 ?_
          refine lv_iload_n hx hb dX4_readProduct_58 rfl (lv_at hl 0 rfl) ?_
          refine lv_ineg hx hb dX4_readProduct_59 ?_
          refine lv_topi (fun x_48 ex_48 => ?_)
          have tx_48 : x_48.toInt = -x_27.toInt := i_neg ex_48 rfl (by omega)
          refine ti_callVv (ci := 1) (av := [.int x_48]) C hw (x_X1_add l D A cy hJ M_41 iM_41 t ht j hj x_48 (by first | omega | exact Or.inl (by decide) | exact Or.inr (by decide)) B n g_46 p0r_40 d_47 p1r_40) ⟨ml_X4_170, ym_X1_add, yv_X1_add, yi_X1_add, yc_X1_add⟩ yd_X1_add (ob_l ht hj) (by decide) rfl rfl hl.1 (Nat.le_of_ble_eq_true rfl) ⟨by decide, by decide⟩ ⟨Nat.zero_le _, Nat.zero_le _⟩ dX4_readProduct_60 (fun M_50 H locs hp_50 hw => ?_)
          obtain ⟨iM_50, q_51, q_52, q_53, p0r_49, p1r_49⟩ := hp_50
          have lM_50_0 : g_46 0 = (tI M_50 2 4).toInt := p0r_49.2.1.1
          have lM_50_1 : g_46 1 = (tI M_50 2 6).toInt := p0r_49.2.1.2.1
          have lM_50_4 : g_46 4 = (tI M_50 1 4).toInt := p0r_49.2.2.1.1
          have lM_50_7 : g_46 7 = (tI M_50 t 4).toInt := p0r_49.2.2.2.1.1
          have lM_50_8 : g_46 8 = (tI M_50 t 5).toInt := p0r_49.2.2.2.1.2.1
          obtain ⟨d_54, ed_54⟩ : ∃ z : Nat → Int, z = qa j x_48.toInt d_47 := ⟨_, rfl⟩
          rw [← ed_54] at p1r_49
          obtain ⟨x_55, ex_55⟩ : ∃ z : Int32, z = x_9 + 1 := ⟨_, rfl⟩
          have tx_55 : x_55.toInt = x_9.toInt + 1 := i_add ex_55 rfl (by decide) (by omega) (by omega)
          refine lv_iinc (v := x_55) (lv' := [(2, .int x_55), (3, .int x_27), (0, .ref (A 1 0)), (1, .int 2)]) hx hb dX4_readProduct_63 hl (k := 1) rfl (by rw [ex_55]; rfl) (by decide) rfl (fun ls hl => ?_)
          refine lv_goto (tgt := 7) hx hb dX4_readProduct_66 (by decide) ?_
          exact ih_25 x_55 M_50 g_46 d_54 _ _ _ (by omega) (by first | omega | decide) (by first | omega | decide) iM_50 ((q_51).trans ((q_42).trans ((q_34).trans f_13))) (f0.trans (f0_x q_52) (f0.trans q_43 (f0.trans q_35 f_14))) (((q_52 1).2.1).trans ((q_44).trans ((q_36).trans f_15))) (ot.trans q_53 (ot.trans q_45 (ot.trans q_37 f_16))) ((tT_fr q_51).trans ((tT_fr q_42).trans ((tT_fr q_34).trans f_17))) ((tT_fr q_51).trans ((tT_fr q_42).trans ((tT_fr q_34).trans f_18))) p0r_49 p1r_49 (j_23.trans (lp_step (decide_eq_true (by omega)) (by rw [eg_46, eg_39]) (by omega))) (j_24.trans (qlp_step (decide_eq_true (by omega)) (by rw [eg_46, eg_39]) (by rw [ed_54, show x_48.toInt = -(g_19 0) by omega, ed_47, eg_39]) (by omega))) hw (lv_sub hl [0, 2, 3] rfl)
        · refine lv_aload_n hx hb dX4_readProduct_25 rfl (lv_at hl 1 rfl) ?_
          refine ti_get (ci := 4) (k := 0) (N := 6) (T := TX4) (v := .ref (A 2 0)) C hw iw_4 rfl ob_1 (by decide) (by decide) fl_X4_12 rfl rfl dX4_readProduct_26 ?_
          refine ti_get (ci := 7) (k := 4) (N := 7) (T := TX7) C hw iw_7 rfl ob_2 (by decide) (by decide) fl_X4_41 rfl rfl dX4_readProduct_29 ?_
          refine ti_top (y := x_27) (ex_27.symm) ?_
          have u_29 : (tI M_12 2 4).toInt = (x_27 : Int32).toInt := by rw [(ex_27.symm)]
          refine lv_bipush (v := 41) hx hb dX4_readProduct_32 (by decide) ?_
          refine sb_icmp_ne (tgt := 69) hx hb rfl (by decide : (41 : Int32).toInt = 41) dX4_readProduct_34 (by decide) (fun c_34_29 => ?_) (fun c_34_29 => ?_)
          · exact hQ _ _ _ _ _ hw (⟨iM_12, (f_13), f_14, (f_15), f_16, (by unfold pp_pd; rw [← eg_7, j_23, lp_end (P := pp_qT) (f := 64 - x_9.toInt.toNat) (s := g_19) (Or.inr (decide_eq_false (by omega)))]; exact hs_20), (by unfold qq_pd; rw [← eg_7, ← ed_8, j_24, qlp_end (P := pp_qT) (f := 64 - x_9.toInt.toNat) (s := g_19) (Or.inr (decide_eq_false (by omega)))]; exact tq_22)⟩) dX4_readProduct_69
          · refine lv_aload_n hx hb dX4_readProduct_37 rfl (lv_at hl 1 rfl) ?_
            refine ti_get (ci := 4) (k := 0) (N := 6) (T := TX4) (v := .ref (A 2 0)) C hw iw_4 rfl ob_1 (by decide) (by decide) fl_X4_12 rfl rfl dX4_readProduct_38 ?_
            refine ti_get (ci := 7) (k := 4) (N := 7) (T := TX7) C hw iw_7 rfl ob_2 (by decide) (by decide) fl_X4_41 rfl rfl dX4_readProduct_41 ?_
            refine ti_top (y := x_27) (ex_27.symm) ?_
            have u_56 : (tI M_12 2 4).toInt = (x_27 : Int32).toInt := by rw [(ex_27.symm)]
            refine lv_istore_n (lv' := [(3, .int x_27), (2, .int x_9), (0, .ref (A 1 0)), (1, .int 2)]) hx hb dX4_readProduct_44 rfl hl (by decide) rfl (fun ls hl => ?_)
            refine lv_aload_n hx hb dX4_readProduct_45 rfl (lv_at hl 2 rfl) ?_
            refine ti_callVvE (ci := 4) (av := []) C hE hw (x_X4_knot l D A cy hJ M_12 iM_12 t ht (f_17) B n g_19 hs_20 d_21 tq_22) ⟨ml_X4_167, ym_X4_knot, yv_X4_knot, yi_X4_knot, yc_X4_knot⟩ yd_X4_knot ob_1 (by decide) rfl rfl hl.1 (Nat.le_of_ble_eq_true rfl) ⟨by decide, by decide⟩ ⟨Nat.zero_le _, Nat.zero_le _⟩ dX4_readProduct_46 (fun M_58 H locs hp_58 hw => ?_)
            obtain ⟨iM_58, q_59, q_60, q_61, q_62, q_63, p0r_57, p1r_57⟩ := hp_58
            obtain ⟨g_64, eg_64⟩ : ∃ z : Nat → Int, z = pp_kn B n g_19 := ⟨_, rfl⟩
            rw [← eg_64] at p0r_57
            have lg_64_0 : g_64 0 = (tI M_58 2 4).toInt := p0r_57.2.1.1
            have lg_64_1 : g_64 1 = (tI M_58 2 6).toInt := p0r_57.2.1.2.1
            have lg_64_4 : g_64 4 = (tI M_58 1 4).toInt := p0r_57.2.2.1.1
            have lg_64_7 : g_64 7 = (tI M_58 t 4).toInt := p0r_57.2.2.2.1.1
            have lg_64_8 : g_64 8 = (tI M_58 t 5).toInt := p0r_57.2.2.2.1.2.1
            refine lv_aload_n hx hb dX4_readProduct_49 rfl (lv_at hl 2 rfl) ?_
            refine lv_iload_n hx hb dX4_readProduct_50 rfl (lv_at hl 3 rfl) ?_
            refine ti_callVvE (ci := 4) (av := [.int 2]) C hE hw (x_X4_readPart_2 l D A cy hJ M_58 iM_58 t ht ((tT_fr q_59).trans f_17) j hj ((tT_fr q_59).trans f_18) B n g_64 p0r_57 d_21 p1r_57) ⟨ml_X4_187, ym_X4_readPart, yv_X4_readPart, yi_X4_readPart, yc_X4_readPart⟩ yd_X4_readPart ob_1 (by decide) rfl rfl hl.1 (Nat.le_of_ble_eq_true rfl) ⟨by decide, by decide⟩ ⟨Nat.zero_le _, Nat.zero_le _⟩ dX4_readProduct_51 (fun M_66 H locs hp_66 hw => ?_)
            obtain ⟨iM_66, q_67, q_68, q_69, q_70, p0r_65, p1r_65⟩ := hp_66
            obtain ⟨g_71, eg_71⟩ : ∃ z : Nat → Int, z = pp_pt B n 6 g_64 := ⟨_, rfl⟩
            rw [← eg_71] at p0r_65
            have lg_71_0 : g_71 0 = (tI M_66 2 4).toInt := p0r_65.2.1.1
            have lg_71_1 : g_71 1 = (tI M_66 2 6).toInt := p0r_65.2.1.2.1
            have lg_71_4 : g_71 4 = (tI M_66 1 4).toInt := p0r_65.2.2.1.1
            have lg_71_7 : g_71 7 = (tI M_66 t 4).toInt := p0r_65.2.2.2.1.1
            have lg_71_8 : g_71 8 = (tI M_66 t 5).toInt := p0r_65.2.2.2.1.2.1
            obtain ⟨d_72, ed_72⟩ : ∃ z : Nat → Int, z = qq_pt B n j 6 g_64 d_21 := ⟨_, rfl⟩
            rw [← ed_72] at p1r_65
            refine lv_aload_n hx hb dX4_readProduct_54 rfl (lv_at hl 2 rfl) ?_
            refine ti_get (ci := 4) (k := 2) (N := 6) (T := TX4) (v := .ref (A (ti_laws t j) 0)) C hw iw_4 rfl ob_1 (by decide) (by decide) fl_X4_154 rfl (ti_Tv ((tT_fr q_67).trans ((tT_fr q_59).trans f_18))) dX4_readProduct_55 ?_
            refine lv_iload_n hx hb dX4_readProduct_58 rfl (lv_at hl 0 rfl) ?_
            refine lv_ineg hx hb dX4_readProduct_59 ?_
            refine lv_topi (fun x_73 ex_73 => ?_)
            have tx_73 : x_73.toInt = -x_27.toInt := i_neg ex_73 rfl (by omega)
            refine ti_callVv (ci := 1) (av := [.int x_73]) C hw (x_X1_add l D A cy hJ M_66 iM_66 t ht j hj x_73 (by first | omega | exact Or.inl (by decide) | exact Or.inr (by decide)) B n g_71 p0r_65 d_72 p1r_65) ⟨ml_X4_170, ym_X1_add, yv_X1_add, yi_X1_add, yc_X1_add⟩ yd_X1_add (ob_l ht hj) (by decide) rfl rfl hl.1 (Nat.le_of_ble_eq_true rfl) ⟨by decide, by decide⟩ ⟨Nat.zero_le _, Nat.zero_le _⟩ dX4_readProduct_60 (fun M_75 H locs hp_75 hw => ?_)
            obtain ⟨iM_75, q_76, q_77, q_78, p0r_74, p1r_74⟩ := hp_75
            have lM_75_0 : g_71 0 = (tI M_75 2 4).toInt := p0r_74.2.1.1
            have lM_75_1 : g_71 1 = (tI M_75 2 6).toInt := p0r_74.2.1.2.1
            have lM_75_4 : g_71 4 = (tI M_75 1 4).toInt := p0r_74.2.2.1.1
            have lM_75_7 : g_71 7 = (tI M_75 t 4).toInt := p0r_74.2.2.2.1.1
            have lM_75_8 : g_71 8 = (tI M_75 t 5).toInt := p0r_74.2.2.2.1.2.1
            obtain ⟨d_79, ed_79⟩ : ∃ z : Nat → Int, z = qa j x_73.toInt d_72 := ⟨_, rfl⟩
            rw [← ed_79] at p1r_74
            obtain ⟨x_80, ex_80⟩ : ∃ z : Int32, z = x_9 + 1 := ⟨_, rfl⟩
            have tx_80 : x_80.toInt = x_9.toInt + 1 := i_add ex_80 rfl (by decide) (by omega) (by omega)
            refine lv_iinc (v := x_80) (lv' := [(2, .int x_80), (3, .int x_27), (0, .ref (A 1 0)), (1, .int 2)]) hx hb dX4_readProduct_63 hl (k := 1) rfl (by rw [ex_80]; rfl) (by decide) rfl (fun ls hl => ?_)
            refine lv_goto (tgt := 7) hx hb dX4_readProduct_66 (by decide) ?_
            exact ih_25 x_80 M_75 g_71 d_79 _ _ _ (by omega) (by first | omega | decide) (by first | omega | decide) iM_75 ((q_76).trans ((q_67).trans ((q_59).trans f_13))) (f0.trans (f0_x q_77) (f0.trans q_68 (f0.trans q_60 f_14))) (((q_77 1).2.1).trans ((q_69).trans ((q_61).trans f_15))) (ot.trans q_78 (ot.trans q_70 (ot.trans q_62 f_16))) ((tT_fr q_76).trans ((tT_fr q_67).trans ((tT_fr q_59).trans f_17))) ((tT_fr q_76).trans ((tT_fr q_67).trans ((tT_fr q_59).trans f_18))) p0r_74 p1r_74 (j_23.trans (lp_step (decide_eq_true (by omega)) (by rw [eg_71, eg_64]) (by omega))) (j_24.trans (qlp_step (decide_eq_true (by omega)) (by rw [eg_71, eg_64]) (by rw [ed_79, show x_73.toInt = -(g_19 0) by omega, ed_72, eg_64]) (by omega))) hw (lv_sub hl [0, 2, 3] rfl)
  exact hl_7_24 ((64 - 0 : Int).toNat + 1) 0 M_2 g_7 d_8 _ _ _ (Nat.lt_succ_self _) (by have lt0 : (0 : Int32).toInt = 0 := (by decide); first | omega | decide) (by have lt0 : (0 : Int32).toInt = 0 := (by decide); first | omega | decide) iM_2 (q_3) q_4 (q_5) q_6 ((tT_fr q_3).trans hT) ((tT_fr q_3).trans hL) p0r_1 p1r_1 rfl rfl hw (lv_sub hl [0, 1, 2] rfl)
set_option maxHeartbeats 4000000 in
set_option maxRecDepth 100000 in
theorem x_X4_readSum_2 (l : Launch) (D : va_G) (A : Nat → Nat → Nat) (cy : Nat → ClassId) (hJ : ti_inj ti_LT A) (M : ti_M) (hI : cI Tc M) (t : Nat) (ht : t = 3 ∨ t = 4) (hT : tT M 1 1 = some t) (j : Nat) (hj : j < 3) (hL : tT M 1 2 = some (ti_laws t j)) (B : Nat → Int) (n : Nat) (rg : Nat → Int) (hr : rC B n t rg M) (td : Nat → Int) (hq : tq t td M) : ti_KvE l yX4_readSum cX4_readSum 4 52 ti_LT D A cy M [.ref (A 1 0), .int 2] (fun M2 => cI Tc M2 ∧ M2.2.2.2 = M.2.2.2 ∧ f0 M2 M ∧ tI M2 2 1 = tI M 2 1 ∧ ot t M2 M ∧ rC B n t (pp_sm B n (pp_pt B n 6) rg) M2 ∧ tq t (qq_sm B n j (pp_pt B n 6) (qq_pt B n j 6) rg td) M2) := by
  refine ti_eVE yp_X4_readSum hJ ti_LT_nd (Nat.le_of_ble_eq_true rfl) ?_
  intro p e s m args below meth c Q H0 C hE hQ hw ls hl
  have hx := C.1
  have hb := C.2.1
  have hl : lv_has ls 4 [(0, .ref (A 1 0)), (1, .int 2)] := hl
  have l0 : rg 0 = (tI M 2 4).toInt := hr.2.1.1
  have l1 : rg 1 = (tI M 2 6).toInt := hr.2.1.2.1
  have l2 : rg 2 = (tI M 2 5).toInt := hr.2.1.2.2.1
  have l3 : rg 3 = (tI M 2 3).toInt := hr.2.1.2.2.2
  have l4 : rg 4 = (tI M 1 4).toInt := hr.2.2.1.1
  have l5 : rg 5 = (tI M 1 5).toInt := hr.2.2.1.2.1
  have l7 : rg 7 = (tI M t 4).toInt := hr.2.2.2.1.1
  have l8 : rg 8 = (tI M t 5).toInt := hr.2.2.2.1.2.1
  have l9 : rg 9 = (tI M t 3).toInt := hr.2.2.2.1.2.2
  refine lv_aload_n hx hb dX4_readSum_0 rfl (lv_at hl 0 rfl) ?_
  refine lv_iload_n hx hb dX4_readSum_1 rfl (lv_at hl 1 rfl) ?_
  refine ti_callVvE (ci := 4) (av := [.int 2]) C hE hw (x_X4_readProduct_2 l D A cy hJ M hI t ht (hT) j hj (hL) B n rg hr td hq) ⟨ml_X4_184, ym_X4_readProduct, yv_X4_readProduct, yi_X4_readProduct, yc_X4_readProduct⟩ yd_X4_readProduct ob_1 (by decide) rfl rfl hl.1 (Nat.le_of_ble_eq_true rfl) ⟨by decide, by decide⟩ ⟨Nat.zero_le _, Nat.zero_le _⟩ dX4_readSum_2 (fun M_2 H locs hp_2 hw => ?_)
  obtain ⟨iM_2, q_3, q_4, q_5, q_6, p0r_1, p1r_1⟩ := hp_2
  obtain ⟨g_7, eg_7⟩ : ∃ z : Nat → Int, z = pp_pd B n (pp_pt B n 6) rg := ⟨_, rfl⟩
  rw [← eg_7] at p0r_1
  have lg_7_0 : g_7 0 = (tI M_2 2 4).toInt := p0r_1.2.1.1
  have lg_7_1 : g_7 1 = (tI M_2 2 6).toInt := p0r_1.2.1.2.1
  have lg_7_4 : g_7 4 = (tI M_2 1 4).toInt := p0r_1.2.2.1.1
  have lg_7_7 : g_7 7 = (tI M_2 t 4).toInt := p0r_1.2.2.2.1.1
  have lg_7_8 : g_7 8 = (tI M_2 t 5).toInt := p0r_1.2.2.2.1.2.1
  obtain ⟨d_8, ed_8⟩ : ∃ z : Nat → Int, z = qq_pd B n j (pp_pt B n 6) (qq_pt B n j 6) rg td := ⟨_, rfl⟩
  rw [← ed_8] at p1r_1
  refine lv_iconst (v := 0) hx hb dX4_readSum_5 (by decide) ?_
  refine lv_istore_n (lv' := [(2, .int 0), (0, .ref (A 1 0)), (1, .int 2)]) hx hb dX4_readSum_6 rfl hl (by decide) rfl (fun ls hl => ?_)
  have hl_7_24 : ∀ (n_25 : Nat) (x_9 : Int32) (M_12 : ti_M) (g_19 : Nat → Int) (d_21 : Nat → Int) (H : Heap) (locs : List Loc) (ls : Array Slot), (64 - x_9.toInt : Int).toNat < n_25 → (0 ≤ x_9.toInt) → (x_9.toInt ≤ 64) → (cI Tc M_12) → (M_12.2.2.2 = M.2.2.2) → (f0 M_12 M) → (tI M_12 2 1 = tI M 2 1) → (ot t M_12 M) → (tT M_12 1 1 = (some t)) → (tT M_12 1 2 = (some (ti_laws t j))) → (rC B n t g_19 M_12) → (tq t d_21 M_12) → (pp_lp pp_qP (fun s => pp_pd B n (pp_pt B n 6) (pp_kn B n s)) 64 g_7 = pp_lp pp_qP (fun s => pp_pd B n (pp_pt B n 6) (pp_kn B n s)) (64 - (x_9.toInt).toNat) g_19) → (qq_lp pp_qP (fun s => pp_pd B n (pp_pt B n 6) (pp_kn B n s)) (fun s td => qa j (-(s 0)) (qq_pd B n j (pp_pt B n 6) (qq_pt B n j 6) (pp_kn B n s) td)) 64 g_7 d_8 = qq_lp pp_qP (fun s => pp_pd B n (pp_pt B n 6) (pp_kn B n s)) (fun s td => qa j (-(s 0)) (qq_pd B n j (pp_pt B n 6) (qq_pt B n j 6) (pp_kn B n s) td)) (64 - (x_9.toInt).toNat) g_19 d_21) → ti_H ti_LT D A cy H0 M_12 H locs → lv_has ls 4 [(2, .int x_9), (0, .ref (A 1 0)), (1, .int 2)] → W p l e (ti_rm 52) s m args below meth c H locs 0 0 Q (F0 m 7 ls []) := by
    intro n_25
    induction n_25 with
    | zero => intro x_9 M_12 g_19 d_21 H locs ls hf_25; exact absurd hf_25 (Nat.not_lt_zero _)
    | succ n_25 ih_25 =>
      intro x_9 M_12 g_19 d_21 H locs ls hf_25 b_10 b_11 iM_12 f_13 f_14 f_15 f_16 f_17 f_18 hs_20 tq_22 j_23 j_24 hw hl
      have lg_19_0 : g_19 0 = (tI M_12 2 4).toInt := hs_20.2.1.1
      have lg_19_1 : g_19 1 = (tI M_12 2 6).toInt := hs_20.2.1.2.1
      have lg_19_4 : g_19 4 = (tI M_12 1 4).toInt := hs_20.2.2.1.1
      have lg_19_7 : g_19 7 = (tI M_12 t 4).toInt := hs_20.2.2.2.1.1
      have lg_19_8 : g_19 8 = (tI M_12 t 5).toInt := hs_20.2.2.2.1.2.1
      refine lv_iload_n hx hb dX4_readSum_7 rfl (lv_at hl 0 rfl) ?_
      refine lv_bipush (v := 64) hx hb dX4_readSum_8 (by decide) ?_
      refine sb_icmp_ge (tgt := 69) hx hb rfl (by decide : (64 : Int32).toInt = 64) dX4_readSum_10 (by decide) (fun c_10_25 => ?_) (fun c_10_25 => ?_)
      · exact hQ _ _ _ _ _ hw (⟨iM_12, (f_13), f_14, (f_15), f_16, (by unfold pp_sm; rw [← eg_7, j_23, lp_end (P := pp_qP) (f := 64 - x_9.toInt.toNat) (s := g_19) (Or.inl (by omega))]; exact hs_20), (by unfold qq_sm; rw [← eg_7, ← ed_8, j_24, qlp_end (P := pp_qP) (f := 64 - x_9.toInt.toNat) (s := g_19) (Or.inl (by omega))]; exact tq_22)⟩) dX4_readSum_69
      · refine lv_aload_n hx hb dX4_readSum_13 rfl (lv_at hl 1 rfl) ?_
        refine ti_get (ci := 4) (k := 0) (N := 6) (T := TX4) (v := .ref (A 2 0)) C hw iw_4 rfl ob_1 (by decide) (by decide) fl_X4_12 rfl rfl dX4_readSum_14 ?_
        refine ti_get (ci := 7) (k := 4) (N := 7) (T := TX7) C hw iw_7 rfl ob_2 (by decide) (by decide) fl_X4_41 rfl rfl dX4_readSum_17 ?_
        refine lv_topi (fun x_27 ex_27 => ?_)
        have bx_27 : 0 ≤ x_27.toInt ∧ x_27.toInt ≤ 41 := cI_rd iM_12 ob_2.1 ex_27
        have ux_27 : (tI M_12 2 4).toInt = x_27.toInt := by rw [ex_27]
        refine lv_bipush (v := 38) hx hb dX4_readSum_20 (by decide) ?_
        refine sb_icmp_eq (tgt := 37) hx hb rfl (by decide : (38 : Int32).toInt = 38) dX4_readSum_22 (by decide) (fun c_22_27 => ?_) (fun c_22_27 => ?_)
        · refine lv_aload_n hx hb dX4_readSum_37 rfl (lv_at hl 1 rfl) ?_
          refine ti_get (ci := 4) (k := 0) (N := 6) (T := TX4) (v := .ref (A 2 0)) C hw iw_4 rfl ob_1 (by decide) (by decide) fl_X4_12 rfl rfl dX4_readSum_38 ?_
          refine ti_get (ci := 7) (k := 4) (N := 7) (T := TX7) C hw iw_7 rfl ob_2 (by decide) (by decide) fl_X4_41 rfl rfl dX4_readSum_41 ?_
          refine ti_top (y := x_27) (ex_27.symm) ?_
          have u_31 : (tI M_12 2 4).toInt = (x_27 : Int32).toInt := by rw [(ex_27.symm)]
          refine lv_istore_n (lv' := [(3, .int x_27), (2, .int x_9), (0, .ref (A 1 0)), (1, .int 2)]) hx hb dX4_readSum_44 rfl hl (by decide) rfl (fun ls hl => ?_)
          refine lv_aload_n hx hb dX4_readSum_45 rfl (lv_at hl 2 rfl) ?_
          refine ti_callVvE (ci := 4) (av := []) C hE hw (x_X4_knot l D A cy hJ M_12 iM_12 t ht (f_17) B n g_19 hs_20 d_21 tq_22) ⟨ml_X4_167, ym_X4_knot, yv_X4_knot, yi_X4_knot, yc_X4_knot⟩ yd_X4_knot ob_1 (by decide) rfl rfl hl.1 (Nat.le_of_ble_eq_true rfl) ⟨by decide, by decide⟩ ⟨Nat.zero_le _, Nat.zero_le _⟩ dX4_readSum_46 (fun M_33 H locs hp_33 hw => ?_)
          obtain ⟨iM_33, q_34, q_35, q_36, q_37, q_38, p0r_32, p1r_32⟩ := hp_33
          obtain ⟨g_39, eg_39⟩ : ∃ z : Nat → Int, z = pp_kn B n g_19 := ⟨_, rfl⟩
          rw [← eg_39] at p0r_32
          have lg_39_0 : g_39 0 = (tI M_33 2 4).toInt := p0r_32.2.1.1
          have lg_39_1 : g_39 1 = (tI M_33 2 6).toInt := p0r_32.2.1.2.1
          have lg_39_4 : g_39 4 = (tI M_33 1 4).toInt := p0r_32.2.2.1.1
          have lg_39_7 : g_39 7 = (tI M_33 t 4).toInt := p0r_32.2.2.2.1.1
          have lg_39_8 : g_39 8 = (tI M_33 t 5).toInt := p0r_32.2.2.2.1.2.1
          refine lv_aload_n hx hb dX4_readSum_49 rfl (lv_at hl 2 rfl) ?_
          refine lv_iload_n hx hb dX4_readSum_50 rfl (lv_at hl 3 rfl) ?_
          refine ti_callVvE (ci := 4) (av := [.int 2]) C hE hw (x_X4_readProduct_2 l D A cy hJ M_33 iM_33 t ht ((tT_fr q_34).trans f_17) j hj ((tT_fr q_34).trans f_18) B n g_39 p0r_32 d_21 p1r_32) ⟨ml_X4_184, ym_X4_readProduct, yv_X4_readProduct, yi_X4_readProduct, yc_X4_readProduct⟩ yd_X4_readProduct ob_1 (by decide) rfl rfl hl.1 (Nat.le_of_ble_eq_true rfl) ⟨by decide, by decide⟩ ⟨Nat.zero_le _, Nat.zero_le _⟩ dX4_readSum_51 (fun M_41 H locs hp_41 hw => ?_)
          obtain ⟨iM_41, q_42, q_43, q_44, q_45, p0r_40, p1r_40⟩ := hp_41
          obtain ⟨g_46, eg_46⟩ : ∃ z : Nat → Int, z = pp_pd B n (pp_pt B n 6) g_39 := ⟨_, rfl⟩
          rw [← eg_46] at p0r_40
          have lg_46_0 : g_46 0 = (tI M_41 2 4).toInt := p0r_40.2.1.1
          have lg_46_1 : g_46 1 = (tI M_41 2 6).toInt := p0r_40.2.1.2.1
          have lg_46_4 : g_46 4 = (tI M_41 1 4).toInt := p0r_40.2.2.1.1
          have lg_46_7 : g_46 7 = (tI M_41 t 4).toInt := p0r_40.2.2.2.1.1
          have lg_46_8 : g_46 8 = (tI M_41 t 5).toInt := p0r_40.2.2.2.1.2.1
          obtain ⟨d_47, ed_47⟩ : ∃ z : Nat → Int, z = qq_pd B n j (pp_pt B n 6) (qq_pt B n j 6) g_39 d_21 := ⟨_, rfl⟩
          rw [← ed_47] at p1r_40
          refine lv_aload_n hx hb dX4_readSum_54 rfl (lv_at hl 2 rfl) ?_
          refine ti_get (ci := 4) (k := 2) (N := 6) (T := TX4) (v := .ref (A (ti_laws t j) 0)) C hw iw_4 rfl ob_1 (by decide) (by decide) fl_X4_154 rfl (ti_Tv ((tT_fr q_42).trans ((tT_fr q_34).trans f_18))) dX4_readSum_55 ?_
          refine lv_iload_n hx hb dX4_readSum_58 rfl (lv_at hl 0 rfl) ?_
          refine lv_ineg hx hb dX4_readSum_59 ?_
          refine lv_topi (fun x_48 ex_48 => ?_)
          have tx_48 : x_48.toInt = -x_27.toInt := i_neg ex_48 rfl (by omega)
          refine ti_callVv (ci := 1) (av := [.int x_48]) C hw (x_X1_add l D A cy hJ M_41 iM_41 t ht j hj x_48 (by first | omega | exact Or.inl (by decide) | exact Or.inr (by decide)) B n g_46 p0r_40 d_47 p1r_40) ⟨ml_X4_170, ym_X1_add, yv_X1_add, yi_X1_add, yc_X1_add⟩ yd_X1_add (ob_l ht hj) (by decide) rfl rfl hl.1 (Nat.le_of_ble_eq_true rfl) ⟨by decide, by decide⟩ ⟨Nat.zero_le _, Nat.zero_le _⟩ dX4_readSum_60 (fun M_50 H locs hp_50 hw => ?_)
          obtain ⟨iM_50, q_51, q_52, q_53, p0r_49, p1r_49⟩ := hp_50
          have lM_50_0 : g_46 0 = (tI M_50 2 4).toInt := p0r_49.2.1.1
          have lM_50_1 : g_46 1 = (tI M_50 2 6).toInt := p0r_49.2.1.2.1
          have lM_50_4 : g_46 4 = (tI M_50 1 4).toInt := p0r_49.2.2.1.1
          have lM_50_7 : g_46 7 = (tI M_50 t 4).toInt := p0r_49.2.2.2.1.1
          have lM_50_8 : g_46 8 = (tI M_50 t 5).toInt := p0r_49.2.2.2.1.2.1
          obtain ⟨d_54, ed_54⟩ : ∃ z : Nat → Int, z = qa j x_48.toInt d_47 := ⟨_, rfl⟩
          rw [← ed_54] at p1r_49
          obtain ⟨x_55, ex_55⟩ : ∃ z : Int32, z = x_9 + 1 := ⟨_, rfl⟩
          have tx_55 : x_55.toInt = x_9.toInt + 1 := i_add ex_55 rfl (by decide) (by omega) (by omega)
          refine lv_iinc (v := x_55) (lv' := [(2, .int x_55), (3, .int x_27), (0, .ref (A 1 0)), (1, .int 2)]) hx hb dX4_readSum_63 hl (k := 1) rfl (by rw [ex_55]; rfl) (by decide) rfl (fun ls hl => ?_)
          refine lv_goto (tgt := 7) hx hb dX4_readSum_66 (by decide) ?_
          exact ih_25 x_55 M_50 g_46 d_54 _ _ _ (by omega) (by first | omega | decide) (by first | omega | decide) iM_50 ((q_51).trans ((q_42).trans ((q_34).trans f_13))) (f0.trans (f0_x q_52) (f0.trans q_43 (f0.trans q_35 f_14))) (((q_52 1).2.1).trans ((q_44).trans ((q_36).trans f_15))) (ot.trans q_53 (ot.trans q_45 (ot.trans q_37 f_16))) ((tT_fr q_51).trans ((tT_fr q_42).trans ((tT_fr q_34).trans f_17))) ((tT_fr q_51).trans ((tT_fr q_42).trans ((tT_fr q_34).trans f_18))) p0r_49 p1r_49 (j_23.trans (lp_step (decide_eq_true (by omega)) (by rw [eg_46, eg_39]) (by omega))) (j_24.trans (qlp_step (decide_eq_true (by omega)) (by rw [eg_46, eg_39]) (by rw [ed_54, show x_48.toInt = -(g_19 0) by omega, ed_47, eg_39]) (by omega))) hw (lv_sub hl [0, 2, 3] rfl)
        · refine lv_aload_n hx hb dX4_readSum_25 rfl (lv_at hl 1 rfl) ?_
          refine ti_get (ci := 4) (k := 0) (N := 6) (T := TX4) (v := .ref (A 2 0)) C hw iw_4 rfl ob_1 (by decide) (by decide) fl_X4_12 rfl rfl dX4_readSum_26 ?_
          refine ti_get (ci := 7) (k := 4) (N := 7) (T := TX7) C hw iw_7 rfl ob_2 (by decide) (by decide) fl_X4_41 rfl rfl dX4_readSum_29 ?_
          refine ti_top (y := x_27) (ex_27.symm) ?_
          have u_29 : (tI M_12 2 4).toInt = (x_27 : Int32).toInt := by rw [(ex_27.symm)]
          refine lv_bipush (v := 39) hx hb dX4_readSum_32 (by decide) ?_
          refine sb_icmp_ne (tgt := 69) hx hb rfl (by decide : (39 : Int32).toInt = 39) dX4_readSum_34 (by decide) (fun c_34_29 => ?_) (fun c_34_29 => ?_)
          · exact hQ _ _ _ _ _ hw (⟨iM_12, (f_13), f_14, (f_15), f_16, (by unfold pp_sm; rw [← eg_7, j_23, lp_end (P := pp_qP) (f := 64 - x_9.toInt.toNat) (s := g_19) (Or.inr (decide_eq_false (by omega)))]; exact hs_20), (by unfold qq_sm; rw [← eg_7, ← ed_8, j_24, qlp_end (P := pp_qP) (f := 64 - x_9.toInt.toNat) (s := g_19) (Or.inr (decide_eq_false (by omega)))]; exact tq_22)⟩) dX4_readSum_69
          · refine lv_aload_n hx hb dX4_readSum_37 rfl (lv_at hl 1 rfl) ?_
            refine ti_get (ci := 4) (k := 0) (N := 6) (T := TX4) (v := .ref (A 2 0)) C hw iw_4 rfl ob_1 (by decide) (by decide) fl_X4_12 rfl rfl dX4_readSum_38 ?_
            refine ti_get (ci := 7) (k := 4) (N := 7) (T := TX7) C hw iw_7 rfl ob_2 (by decide) (by decide) fl_X4_41 rfl rfl dX4_readSum_41 ?_
            refine ti_top (y := x_27) (ex_27.symm) ?_
            have u_56 : (tI M_12 2 4).toInt = (x_27 : Int32).toInt := by rw [(ex_27.symm)]
            refine lv_istore_n (lv' := [(3, .int x_27), (2, .int x_9), (0, .ref (A 1 0)), (1, .int 2)]) hx hb dX4_readSum_44 rfl hl (by decide) rfl (fun ls hl => ?_)
            refine lv_aload_n hx hb dX4_readSum_45 rfl (lv_at hl 2 rfl) ?_
            refine ti_callVvE (ci := 4) (av := []) C hE hw (x_X4_knot l D A cy hJ M_12 iM_12 t ht (f_17) B n g_19 hs_20 d_21 tq_22) ⟨ml_X4_167, ym_X4_knot, yv_X4_knot, yi_X4_knot, yc_X4_knot⟩ yd_X4_knot ob_1 (by decide) rfl rfl hl.1 (Nat.le_of_ble_eq_true rfl) ⟨by decide, by decide⟩ ⟨Nat.zero_le _, Nat.zero_le _⟩ dX4_readSum_46 (fun M_58 H locs hp_58 hw => ?_)
            obtain ⟨iM_58, q_59, q_60, q_61, q_62, q_63, p0r_57, p1r_57⟩ := hp_58
            obtain ⟨g_64, eg_64⟩ : ∃ z : Nat → Int, z = pp_kn B n g_19 := ⟨_, rfl⟩
            rw [← eg_64] at p0r_57
            have lg_64_0 : g_64 0 = (tI M_58 2 4).toInt := p0r_57.2.1.1
            have lg_64_1 : g_64 1 = (tI M_58 2 6).toInt := p0r_57.2.1.2.1
            have lg_64_4 : g_64 4 = (tI M_58 1 4).toInt := p0r_57.2.2.1.1
            have lg_64_7 : g_64 7 = (tI M_58 t 4).toInt := p0r_57.2.2.2.1.1
            have lg_64_8 : g_64 8 = (tI M_58 t 5).toInt := p0r_57.2.2.2.1.2.1
            refine lv_aload_n hx hb dX4_readSum_49 rfl (lv_at hl 2 rfl) ?_
            refine lv_iload_n hx hb dX4_readSum_50 rfl (lv_at hl 3 rfl) ?_
            refine ti_callVvE (ci := 4) (av := [.int 2]) C hE hw (x_X4_readProduct_2 l D A cy hJ M_58 iM_58 t ht ((tT_fr q_59).trans f_17) j hj ((tT_fr q_59).trans f_18) B n g_64 p0r_57 d_21 p1r_57) ⟨ml_X4_184, ym_X4_readProduct, yv_X4_readProduct, yi_X4_readProduct, yc_X4_readProduct⟩ yd_X4_readProduct ob_1 (by decide) rfl rfl hl.1 (Nat.le_of_ble_eq_true rfl) ⟨by decide, by decide⟩ ⟨Nat.zero_le _, Nat.zero_le _⟩ dX4_readSum_51 (fun M_66 H locs hp_66 hw => ?_)
            obtain ⟨iM_66, q_67, q_68, q_69, q_70, p0r_65, p1r_65⟩ := hp_66
            obtain ⟨g_71, eg_71⟩ : ∃ z : Nat → Int, z = pp_pd B n (pp_pt B n 6) g_64 := ⟨_, rfl⟩
            rw [← eg_71] at p0r_65
            have lg_71_0 : g_71 0 = (tI M_66 2 4).toInt := p0r_65.2.1.1
            have lg_71_1 : g_71 1 = (tI M_66 2 6).toInt := p0r_65.2.1.2.1
            have lg_71_4 : g_71 4 = (tI M_66 1 4).toInt := p0r_65.2.2.1.1
            have lg_71_7 : g_71 7 = (tI M_66 t 4).toInt := p0r_65.2.2.2.1.1
            have lg_71_8 : g_71 8 = (tI M_66 t 5).toInt := p0r_65.2.2.2.1.2.1
            obtain ⟨d_72, ed_72⟩ : ∃ z : Nat → Int, z = qq_pd B n j (pp_pt B n 6) (qq_pt B n j 6) g_64 d_21 := ⟨_, rfl⟩
            rw [← ed_72] at p1r_65
            refine lv_aload_n hx hb dX4_readSum_54 rfl (lv_at hl 2 rfl) ?_
            refine ti_get (ci := 4) (k := 2) (N := 6) (T := TX4) (v := .ref (A (ti_laws t j) 0)) C hw iw_4 rfl ob_1 (by decide) (by decide) fl_X4_154 rfl (ti_Tv ((tT_fr q_67).trans ((tT_fr q_59).trans f_18))) dX4_readSum_55 ?_
            refine lv_iload_n hx hb dX4_readSum_58 rfl (lv_at hl 0 rfl) ?_
            refine lv_ineg hx hb dX4_readSum_59 ?_
            refine lv_topi (fun x_73 ex_73 => ?_)
            have tx_73 : x_73.toInt = -x_27.toInt := i_neg ex_73 rfl (by omega)
            refine ti_callVv (ci := 1) (av := [.int x_73]) C hw (x_X1_add l D A cy hJ M_66 iM_66 t ht j hj x_73 (by first | omega | exact Or.inl (by decide) | exact Or.inr (by decide)) B n g_71 p0r_65 d_72 p1r_65) ⟨ml_X4_170, ym_X1_add, yv_X1_add, yi_X1_add, yc_X1_add⟩ yd_X1_add (ob_l ht hj) (by decide) rfl rfl hl.1 (Nat.le_of_ble_eq_true rfl) ⟨by decide, by decide⟩ ⟨Nat.zero_le _, Nat.zero_le _⟩ dX4_readSum_60 (fun M_75 H locs hp_75 hw => ?_)
            obtain ⟨iM_75, q_76, q_77, q_78, p0r_74, p1r_74⟩ := hp_75
            have lM_75_0 : g_71 0 = (tI M_75 2 4).toInt := p0r_74.2.1.1
            have lM_75_1 : g_71 1 = (tI M_75 2 6).toInt := p0r_74.2.1.2.1
            have lM_75_4 : g_71 4 = (tI M_75 1 4).toInt := p0r_74.2.2.1.1
            have lM_75_7 : g_71 7 = (tI M_75 t 4).toInt := p0r_74.2.2.2.1.1
            have lM_75_8 : g_71 8 = (tI M_75 t 5).toInt := p0r_74.2.2.2.1.2.1
            obtain ⟨d_79, ed_79⟩ : ∃ z : Nat → Int, z = qa j x_73.toInt d_72 := ⟨_, rfl⟩
            rw [← ed_79] at p1r_74
            obtain ⟨x_80, ex_80⟩ : ∃ z : Int32, z = x_9 + 1 := ⟨_, rfl⟩
            have tx_80 : x_80.toInt = x_9.toInt + 1 := i_add ex_80 rfl (by decide) (by omega) (by omega)
            refine lv_iinc (v := x_80) (lv' := [(2, .int x_80), (3, .int x_27), (0, .ref (A 1 0)), (1, .int 2)]) hx hb dX4_readSum_63 hl (k := 1) rfl (by rw [ex_80]; rfl) (by decide) rfl (fun ls hl => ?_)
            refine lv_goto (tgt := 7) hx hb dX4_readSum_66 (by decide) ?_
            exact ih_25 x_80 M_75 g_71 d_79 _ _ _ (by omega) (by first | omega | decide) (by first | omega | decide) iM_75 ((q_76).trans ((q_67).trans ((q_59).trans f_13))) (f0.trans (f0_x q_77) (f0.trans q_68 (f0.trans q_60 f_14))) (((q_77 1).2.1).trans ((q_69).trans ((q_61).trans f_15))) (ot.trans q_78 (ot.trans q_70 (ot.trans q_62 f_16))) ((tT_fr q_76).trans ((tT_fr q_67).trans ((tT_fr q_59).trans f_17))) ((tT_fr q_76).trans ((tT_fr q_67).trans ((tT_fr q_59).trans f_18))) p0r_74 p1r_74 (j_23.trans (lp_step (decide_eq_true (by omega)) (by rw [eg_71, eg_64]) (by omega))) (j_24.trans (qlp_step (decide_eq_true (by omega)) (by rw [eg_71, eg_64]) (by rw [ed_79, show x_73.toInt = -(g_19 0) by omega, ed_72, eg_64]) (by omega))) hw (lv_sub hl [0, 2, 3] rfl)
  exact hl_7_24 ((64 - 0 : Int).toNat + 1) 0 M_2 g_7 d_8 _ _ _ (Nat.lt_succ_self _) (by have lt0 : (0 : Int32).toInt = 0 := (by decide); first | omega | decide) (by have lt0 : (0 : Int32).toInt = 0 := (by decide); first | omega | decide) iM_2 (q_3) q_4 (q_5) q_6 ((tT_fr q_3).trans hT) ((tT_fr q_3).trans hL) p0r_1 p1r_1 rfl rfl hw (lv_sub hl [0, 1, 2] rfl)
set_option maxHeartbeats 4000000 in
set_option maxRecDepth 100000 in
theorem x_X4_readComparison_2 (l : Launch) (D : va_G) (A : Nat → Nat → Nat) (cy : Nat → ClassId) (hJ : ti_inj ti_LT A) (M : ti_M) (hI : cI Tc M) (t : Nat) (ht : t = 3 ∨ t = 4) (hT : tT M 1 1 = some t) (j : Nat) (hj : j < 3) (hL : tT M 1 2 = some (ti_laws t j)) (B : Nat → Int) (n : Nat) (rg : Nat → Int) (hr : rC B n t rg M) (td : Nat → Int) (hq : tq t td M) : ti_KvE l yX4_readComparison cX4_readComparison 3 53 ti_LT D A cy M [.ref (A 1 0), .int 2] (fun M2 => cI Tc M2 ∧ M2.2.2.2 = M.2.2.2 ∧ f0 M2 M ∧ tI M2 2 1 = tI M 2 1 ∧ ot t M2 M ∧ rC B n t (pp_cm B n (pp_pt B n 6) rg) M2 ∧ tq t (qq_cm B n j (pp_pt B n 6) (qq_pt B n j 6) rg td) M2) := by
  refine ti_eVE yp_X4_readComparison hJ ti_LT_nd (Nat.le_of_ble_eq_true rfl) ?_
  intro p e s m args below meth c Q H0 C hE hQ hw ls hl
  have hx := C.1
  have hb := C.2.1
  have hl : lv_has ls 3 [(0, .ref (A 1 0)), (1, .int 2)] := hl
  have l0 : rg 0 = (tI M 2 4).toInt := hr.2.1.1
  have l1 : rg 1 = (tI M 2 6).toInt := hr.2.1.2.1
  have l2 : rg 2 = (tI M 2 5).toInt := hr.2.1.2.2.1
  have l3 : rg 3 = (tI M 2 3).toInt := hr.2.1.2.2.2
  have l4 : rg 4 = (tI M 1 4).toInt := hr.2.2.1.1
  have l5 : rg 5 = (tI M 1 5).toInt := hr.2.2.1.2.1
  have l7 : rg 7 = (tI M t 4).toInt := hr.2.2.2.1.1
  have l8 : rg 8 = (tI M t 5).toInt := hr.2.2.2.1.2.1
  have l9 : rg 9 = (tI M t 3).toInt := hr.2.2.2.1.2.2
  refine lv_aload_n hx hb dX4_readComparison_0 rfl (lv_at hl 0 rfl) ?_
  refine lv_iload_n hx hb dX4_readComparison_1 rfl (lv_at hl 1 rfl) ?_
  refine ti_callVvE (ci := 4) (av := [.int 2]) C hE hw (x_X4_readSum_2 l D A cy hJ M hI t ht (hT) j hj (hL) B n rg hr td hq) ⟨ml_X4_181, ym_X4_readSum, yv_X4_readSum, yi_X4_readSum, yc_X4_readSum⟩ yd_X4_readSum ob_1 (by decide) rfl rfl hl.1 (Nat.le_of_ble_eq_true rfl) ⟨by decide, by decide⟩ ⟨Nat.zero_le _, Nat.zero_le _⟩ dX4_readComparison_2 (fun M_2 H locs hp_2 hw => ?_)
  obtain ⟨iM_2, q_3, q_4, q_5, q_6, p0r_1, p1r_1⟩ := hp_2
  obtain ⟨g_7, eg_7⟩ : ∃ z : Nat → Int, z = pp_sm B n (pp_pt B n 6) rg := ⟨_, rfl⟩
  rw [← eg_7] at p0r_1
  have lg_7_0 : g_7 0 = (tI M_2 2 4).toInt := p0r_1.2.1.1
  have lg_7_1 : g_7 1 = (tI M_2 2 6).toInt := p0r_1.2.1.2.1
  have lg_7_4 : g_7 4 = (tI M_2 1 4).toInt := p0r_1.2.2.1.1
  have lg_7_7 : g_7 7 = (tI M_2 t 4).toInt := p0r_1.2.2.2.1.1
  have lg_7_8 : g_7 8 = (tI M_2 t 5).toInt := p0r_1.2.2.2.1.2.1
  obtain ⟨d_8, ed_8⟩ : ∃ z : Nat → Int, z = qq_sm B n j (pp_pt B n 6) (qq_pt B n j 6) rg td := ⟨_, rfl⟩
  rw [← ed_8] at p1r_1
  refine lv_aload_n hx hb dX4_readComparison_5 rfl (lv_at hl 0 rfl) ?_
  refine ti_get (ci := 4) (k := 0) (N := 6) (T := TX4) (v := .ref (A 2 0)) C hw iw_4 rfl ob_1 (by decide) (by decide) fl_X4_12 rfl rfl dX4_readComparison_6 ?_
  refine ti_get (ci := 7) (k := 4) (N := 7) (T := TX7) C hw iw_7 rfl ob_2 (by decide) (by decide) fl_X4_41 rfl rfl dX4_readComparison_9 ?_
  refine lv_topi (fun x_9 ex_9 => ?_)
  have bx_9 : 0 ≤ x_9.toInt ∧ x_9.toInt ≤ 41 := cI_rd iM_2 ob_2.1 ex_9
  have ux_9 : (tI M_2 2 4).toInt = x_9.toInt := by rw [ex_9]
  refine lv_istore_n (lv' := [(2, .int x_9), (0, .ref (A 1 0)), (1, .int 2)]) hx hb dX4_readComparison_12 rfl hl (by decide) rfl (fun ls hl => ?_)
  refine lv_iload_n hx hb dX4_readComparison_13 rfl (lv_at hl 0 rfl) ?_
  refine lv_bipush (v := 32) hx hb dX4_readComparison_14 (by decide) ?_
  refine sb_icmp_lt (tgt := 43) hx hb rfl (by decide : (32 : Int32).toInt = 32) dX4_readComparison_16 (by decide) (fun c_16_9 => ?_) (fun c_16_9 => ?_)
  · exact hQ _ _ _ _ _ hw (⟨iM_2, (q_3), q_4, (q_5), q_6, (by unfold pp_cm; rw [← eg_7]; unfold pp_c2; rw [if_neg (fun q => by omega)]; exact p0r_1), (by unfold qq_cm; rw [← eg_7, ← ed_8]; unfold qq_c2; rw [if_neg (fun q => by omega)]; exact p1r_1)⟩) dX4_readComparison_43
  · refine lv_iload_n hx hb dX4_readComparison_19 rfl (lv_at hl 0 rfl) ?_
    refine lv_bipush (v := 37) hx hb dX4_readComparison_20 (by decide) ?_
    refine sb_icmp_gt (tgt := 43) hx hb rfl (by decide : (37 : Int32).toInt = 37) dX4_readComparison_22 (by decide) (fun c_22_10 => ?_) (fun c_22_10 => ?_)
    · exact hQ _ _ _ _ _ hw (⟨iM_2, (q_3), q_4, (q_5), q_6, (by unfold pp_cm; rw [← eg_7]; unfold pp_c2; rw [if_neg (fun q => by omega)]; exact p0r_1), (by unfold qq_cm; rw [← eg_7, ← ed_8]; unfold qq_c2; rw [if_neg (fun q => by omega)]; exact p1r_1)⟩) dX4_readComparison_43
    · refine lv_aload_n hx hb dX4_readComparison_25 rfl (lv_at hl 1 rfl) ?_
      refine ti_callVvE (ci := 4) (av := []) C hE hw (x_X4_knot l D A cy hJ M_2 iM_2 t ht ((tT_fr q_3).trans hT) B n g_7 p0r_1 d_8 p1r_1) ⟨ml_X4_167, ym_X4_knot, yv_X4_knot, yi_X4_knot, yc_X4_knot⟩ yd_X4_knot ob_1 (by decide) rfl rfl hl.1 (Nat.le_of_ble_eq_true rfl) ⟨by decide, by decide⟩ ⟨Nat.zero_le _, Nat.zero_le _⟩ dX4_readComparison_26 (fun M_13 H locs hp_13 hw => ?_)
      obtain ⟨iM_13, q_14, q_15, q_16, q_17, q_18, p0r_12, p1r_12⟩ := hp_13
      obtain ⟨g_19, eg_19⟩ : ∃ z : Nat → Int, z = pp_kn B n g_7 := ⟨_, rfl⟩
      rw [← eg_19] at p0r_12
      have lg_19_0 : g_19 0 = (tI M_13 2 4).toInt := p0r_12.2.1.1
      have lg_19_1 : g_19 1 = (tI M_13 2 6).toInt := p0r_12.2.1.2.1
      have lg_19_4 : g_19 4 = (tI M_13 1 4).toInt := p0r_12.2.2.1.1
      have lg_19_7 : g_19 7 = (tI M_13 t 4).toInt := p0r_12.2.2.2.1.1
      have lg_19_8 : g_19 8 = (tI M_13 t 5).toInt := p0r_12.2.2.2.1.2.1
      refine lv_aload_n hx hb dX4_readComparison_29 rfl (lv_at hl 1 rfl) ?_
      refine lv_iload_n hx hb dX4_readComparison_30 rfl (lv_at hl 2 rfl) ?_
      refine ti_callVvE (ci := 4) (av := [.int 2]) C hE hw (x_X4_readSum_2 l D A cy hJ M_13 iM_13 t ht ((tT_fr q_14).trans ((tT_fr q_3).trans hT)) j hj ((tT_fr q_14).trans ((tT_fr q_3).trans hL)) B n g_19 p0r_12 d_8 p1r_12) ⟨ml_X4_181, ym_X4_readSum, yv_X4_readSum, yi_X4_readSum, yc_X4_readSum⟩ yd_X4_readSum ob_1 (by decide) rfl rfl hl.1 (Nat.le_of_ble_eq_true rfl) ⟨by decide, by decide⟩ ⟨Nat.zero_le _, Nat.zero_le _⟩ dX4_readComparison_31 (fun M_21 H locs hp_21 hw => ?_)
      obtain ⟨iM_21, q_22, q_23, q_24, q_25, p0r_20, p1r_20⟩ := hp_21
      obtain ⟨g_26, eg_26⟩ : ∃ z : Nat → Int, z = pp_sm B n (pp_pt B n 6) g_19 := ⟨_, rfl⟩
      rw [← eg_26] at p0r_20
      have lg_26_0 : g_26 0 = (tI M_21 2 4).toInt := p0r_20.2.1.1
      have lg_26_1 : g_26 1 = (tI M_21 2 6).toInt := p0r_20.2.1.2.1
      have lg_26_4 : g_26 4 = (tI M_21 1 4).toInt := p0r_20.2.2.1.1
      have lg_26_7 : g_26 7 = (tI M_21 t 4).toInt := p0r_20.2.2.2.1.1
      have lg_26_8 : g_26 8 = (tI M_21 t 5).toInt := p0r_20.2.2.2.1.2.1
      obtain ⟨d_27, ed_27⟩ : ∃ z : Nat → Int, z = qq_sm B n j (pp_pt B n 6) (qq_pt B n j 6) g_19 d_8 := ⟨_, rfl⟩
      rw [← ed_27] at p1r_20
      refine lv_aload_n hx hb dX4_readComparison_34 rfl (lv_at hl 1 rfl) ?_
      refine ti_get (ci := 4) (k := 2) (N := 6) (T := TX4) (v := .ref (A (ti_laws t j) 0)) C hw iw_4 rfl ob_1 (by decide) (by decide) fl_X4_154 rfl (ti_Tv ((tT_fr q_22).trans ((tT_fr q_14).trans ((tT_fr q_3).trans hL)))) dX4_readComparison_35 ?_
      refine lv_iload_n hx hb dX4_readComparison_38 rfl (lv_at hl 0 rfl) ?_
      refine lv_ineg hx hb dX4_readComparison_39 ?_
      refine lv_topi (fun x_28 ex_28 => ?_)
      have tx_28 : x_28.toInt = -x_9.toInt := i_neg ex_28 rfl (by omega)
      refine ti_callVv (ci := 1) (av := [.int x_28]) C hw (x_X1_add l D A cy hJ M_21 iM_21 t ht j hj x_28 (by first | omega | exact Or.inl (by decide) | exact Or.inr (by decide)) B n g_26 p0r_20 d_27 p1r_20) ⟨ml_X4_170, ym_X1_add, yv_X1_add, yi_X1_add, yc_X1_add⟩ yd_X1_add (ob_l ht hj) (by decide) rfl rfl hl.1 (Nat.le_of_ble_eq_true rfl) ⟨by decide, by decide⟩ ⟨Nat.zero_le _, Nat.zero_le _⟩ dX4_readComparison_40 (fun M_30 H locs hp_30 hw => ?_)
      obtain ⟨iM_30, q_31, q_32, q_33, p0r_29, p1r_29⟩ := hp_30
      have lM_30_0 : g_26 0 = (tI M_30 2 4).toInt := p0r_29.2.1.1
      have lM_30_1 : g_26 1 = (tI M_30 2 6).toInt := p0r_29.2.1.2.1
      have lM_30_4 : g_26 4 = (tI M_30 1 4).toInt := p0r_29.2.2.1.1
      have lM_30_7 : g_26 7 = (tI M_30 t 4).toInt := p0r_29.2.2.2.1.1
      have lM_30_8 : g_26 8 = (tI M_30 t 5).toInt := p0r_29.2.2.2.1.2.1
      obtain ⟨d_34, ed_34⟩ : ∃ z : Nat → Int, z = qa j x_28.toInt d_27 := ⟨_, rfl⟩
      rw [← ed_34] at p1r_29
      exact hQ _ _ _ _ _ hw (⟨iM_30, ((q_31).trans ((q_22).trans ((q_14).trans q_3))), (f0.trans (f0_x q_32) (f0.trans q_23 (f0.trans q_15 q_4))), (((q_32 1).2.1).trans ((q_24).trans ((q_16).trans q_5))), (ot.trans q_33 (ot.trans q_25 (ot.trans q_17 q_6))), (by unfold pp_cm; rw [← eg_7]; unfold pp_c2; rw [if_pos ⟨by omega, by omega⟩, ← eg_19, ← eg_26]; exact p0r_29), (by unfold qq_cm; rw [← eg_7, ← ed_8]; unfold qq_c2; rw [if_pos ⟨by omega, by omega⟩, ← eg_19, ← ed_27, show -(g_7 0) = x_28.toInt by omega, ← ed_34]; exact p1r_29)⟩) dX4_readComparison_43
set_option maxHeartbeats 4000000 in
set_option maxRecDepth 100000 in
theorem x_X4_readNegated_2 (l : Launch) (D : va_G) (A : Nat → Nat → Nat) (cy : Nat → ClassId) (hJ : ti_inj ti_LT A) (M : ti_M) (hI : cI Tc M) (t : Nat) (ht : t = 3 ∨ t = 4) (hT : tT M 1 1 = some t) (j : Nat) (hj : j < 3) (hL : tT M 1 2 = some (ti_laws t j)) (B : Nat → Int) (n : Nat) (rg : Nat → Int) (hr : rC B n t rg M) (td : Nat → Int) (hq : tq t td M) : ti_KvE l yX4_readNegated cX4_readNegated 4 54 ti_LT D A cy M [.ref (A 1 0), .int 2] (fun M2 => cI Tc M2 ∧ M2.2.2.2 = M.2.2.2 ∧ f0 M2 M ∧ tI M2 2 1 = tI M 2 1 ∧ ot t M2 M ∧ rC B n t (pp_ng B n (pp_pt B n 6) rg) M2 ∧ tq t (qq_ng B n j (pp_pt B n 6) (qq_pt B n j 6) rg td) M2) := by
  refine ti_eVE yp_X4_readNegated hJ ti_LT_nd (Nat.le_of_ble_eq_true rfl) ?_
  intro p e s m args below meth c Q H0 C hE hQ hw ls hl
  have hx := C.1
  have hb := C.2.1
  have hl : lv_has ls 4 [(0, .ref (A 1 0)), (1, .int 2)] := hl
  have l0 : rg 0 = (tI M 2 4).toInt := hr.2.1.1
  have l1 : rg 1 = (tI M 2 6).toInt := hr.2.1.2.1
  have l2 : rg 2 = (tI M 2 5).toInt := hr.2.1.2.2.1
  have l3 : rg 3 = (tI M 2 3).toInt := hr.2.1.2.2.2
  have l4 : rg 4 = (tI M 1 4).toInt := hr.2.2.1.1
  have l5 : rg 5 = (tI M 1 5).toInt := hr.2.2.1.2.1
  have l7 : rg 7 = (tI M t 4).toInt := hr.2.2.2.1.1
  have l8 : rg 8 = (tI M t 5).toInt := hr.2.2.2.1.2.1
  have l9 : rg 9 = (tI M t 3).toInt := hr.2.2.2.1.2.2
  refine lv_iconst (v := 0) hx hb dX4_readNegated_0 (by decide) ?_
  refine lv_istore_n (lv' := [(2, .int 0), (0, .ref (A 1 0)), (1, .int 2)]) hx hb dX4_readNegated_1 rfl hl (by decide) rfl (fun ls hl => ?_)
  have hl_2_17 : ∀ (n_18 : Nat) (x_1 : Int32) (M_4 : ti_M) (g_11 : Nat → Int) (d_13 : Nat → Int) (H : Heap) (locs : List Loc) (ls : Array Slot), (65 - x_1.toInt : Int).toNat < n_18 → (0 ≤ x_1.toInt) → (x_1.toInt ≤ 65) → (cI Tc M_4) → (M_4.2.2.2 = M.2.2.2) → (f0 M_4 M) → (tI M_4 2 1 = tI M 2 1) → (ot t M_4 M) → (tT M_4 1 1 = (some t)) → (tT M_4 1 2 = (some (ti_laws t j))) → (rC B n t g_11 M_4) → (tq t d_13 M_4) → (pp_lp pp_qN (pp_kn B n) 65 rg = pp_lp pp_qN (pp_kn B n) (65 - (x_1.toInt).toNat) g_11) → (qq_ca B n 65 rg 0 = qq_ca B n (65 - (x_1.toInt).toNat) g_11 (x_1.toInt).toNat) → (td = d_13) → ti_H ti_LT D A cy H0 M_4 H locs → lv_has ls 4 [(2, .int x_1), (0, .ref (A 1 0)), (1, .int 2)] → W p l e (ti_rm 54) s m args below meth c H locs 0 0 Q (F0 m 2 ls []) := by
    intro n_18
    induction n_18 with
    | zero => intro x_1 M_4 g_11 d_13 H locs ls hf_18; exact absurd hf_18 (Nat.not_lt_zero _)
    | succ n_18 ih_18 =>
      intro x_1 M_4 g_11 d_13 H locs ls hf_18 b_2 b_3 iM_4 f_5 f_6 f_7 f_8 f_9 f_10 hs_12 tq_14 j_15 j_16 j_17 hw hl
      have lg_11_0 : g_11 0 = (tI M_4 2 4).toInt := hs_12.2.1.1
      have lg_11_1 : g_11 1 = (tI M_4 2 6).toInt := hs_12.2.1.2.1
      have lg_11_4 : g_11 4 = (tI M_4 1 4).toInt := hs_12.2.2.1.1
      have lg_11_7 : g_11 7 = (tI M_4 t 4).toInt := hs_12.2.2.2.1.1
      have lg_11_8 : g_11 8 = (tI M_4 t 5).toInt := hs_12.2.2.2.1.2.1
      refine lv_iload_n hx hb dX4_readNegated_2 rfl (lv_at hl 0 rfl) ?_
      refine lv_bipush (v := 64) hx hb dX4_readNegated_3 (by decide) ?_
      have hj_30_33 : ∀  (H : Heap) (locs : List Loc) (ls : Array Slot), (pp_lp pp_qN (pp_kn B n) 65 rg = g_11) → (qq_ca B n 65 rg 0 = (x_1.toInt).toNat) → (td = d_13) → ti_H ti_LT D A cy H0 M_4 H locs → lv_has ls 4 [(2, .int x_1), (0, .ref (A 1 0)), (1, .int 2)] → W p l e (ti_rm 54) s m args below meth c H locs 0 0 Q (F0 m 30 ls []) := by
        intro  H locs ls j_31 j_32 j_33 hw hl
        have lg_11_0 : g_11 0 = (tI M_4 2 4).toInt := hs_12.2.1.1
        have lg_11_1 : g_11 1 = (tI M_4 2 6).toInt := hs_12.2.1.2.1
        have lg_11_4 : g_11 4 = (tI M_4 1 4).toInt := hs_12.2.2.1.1
        have lg_11_7 : g_11 7 = (tI M_4 t 4).toInt := hs_12.2.2.2.1.1
        have lg_11_8 : g_11 8 = (tI M_4 t 5).toInt := hs_12.2.2.2.1.2.1
        refine lv_aload_n hx hb dX4_readNegated_30 rfl (lv_at hl 1 rfl) ?_
        refine lv_iload_n hx hb dX4_readNegated_31 rfl (lv_at hl 2 rfl) ?_
        refine ti_callVvE (ci := 4) (av := [.int 2]) C hE hw (x_X4_readComparison_2 l D A cy hJ M_4 iM_4 t ht (f_9) j hj (f_10) B n g_11 hs_12 d_13 tq_14) ⟨ml_X4_178, ym_X4_readComparison, yv_X4_readComparison, yi_X4_readComparison, yc_X4_readComparison⟩ yd_X4_readComparison ob_1 (by decide) rfl rfl hl.1 (Nat.le_of_ble_eq_true rfl) ⟨by decide, by decide⟩ ⟨Nat.zero_le _, Nat.zero_le _⟩ dX4_readNegated_32 (fun M_35 H locs hp_35 hw => ?_)
        obtain ⟨iM_35, q_36, q_37, q_38, q_39, p0r_34, p1r_34⟩ := hp_35
        obtain ⟨g_40, eg_40⟩ : ∃ z : Nat → Int, z = pp_cm B n (pp_pt B n 6) g_11 := ⟨_, rfl⟩
        rw [← eg_40] at p0r_34
        have lg_40_0 : g_40 0 = (tI M_35 2 4).toInt := p0r_34.2.1.1
        have lg_40_1 : g_40 1 = (tI M_35 2 6).toInt := p0r_34.2.1.2.1
        have lg_40_4 : g_40 4 = (tI M_35 1 4).toInt := p0r_34.2.2.1.1
        have lg_40_7 : g_40 7 = (tI M_35 t 4).toInt := p0r_34.2.2.2.1.1
        have lg_40_8 : g_40 8 = (tI M_35 t 5).toInt := p0r_34.2.2.2.1.2.1
        obtain ⟨d_41, ed_41⟩ : ∃ z : Nat → Int, z = qq_cm B n j (pp_pt B n 6) (qq_pt B n j 6) g_11 d_13 := ⟨_, rfl⟩
        rw [← ed_41] at p1r_34
        have EM : pp_ng B n (pp_pt B n 6) rg = g_40 := by unfold pp_ng; rw [j_31, ← eg_40]
        have ET : qq_ng B n j (pp_pt B n 6) (qq_pt B n j 6) rg td = qq_na j x_1.toInt.toNat d_41 := by unfold qq_ng; rw [j_32, j_31, show td = d_13 from j_33, ← ed_41]
        refine lv_iconst (v := 0) hx hb dX4_readNegated_35 (by decide) ?_
        refine lv_istore_n (lv' := [(3, .int 0), (2, .int x_1), (0, .ref (A 1 0)), (1, .int 2)]) hx hb dX4_readNegated_36 rfl hl (by decide) rfl (fun ls hl => ?_)
        have hl_37_58 : ∀ (n_59 : Nat) (x_42 : Int32) (M_45 : ti_M) (g_52 : Nat → Int) (d_54 : Nat → Int) (H : Heap) (locs : List Loc) (ls : Array Slot), (65 - x_42.toInt : Int).toNat < n_59 → (0 ≤ x_42.toInt) → (x_42.toInt ≤ 65) → (cI Tc M_45) → (M_45.2.2.2 = M.2.2.2) → (f0 M_45 M) → (tI M_45 2 1 = tI M 2 1) → (ot t M_45 M) → (tT M_45 1 1 = (some t)) → (tT M_45 1 2 = (some (ti_laws t j))) → (rC B n t g_52 M_45) → (tq t d_54 M_45) → (g_40 = g_52) → (qq_na j (x_42.toInt).toNat d_41 = d_54) → (x_42.toInt ≤ x_1.toInt) → ti_H ti_LT D A cy H0 M_45 H locs → lv_has ls 4 [(3, .int x_42), (2, .int x_1), (0, .ref (A 1 0)), (1, .int 2)] → W p l e (ti_rm 54) s m args below meth c H locs 0 0 Q (F0 m 37 ls []) := by
          intro n_59
          induction n_59 with
          | zero => intro x_42 M_45 g_52 d_54 H locs ls hf_59; exact absurd hf_59 (Nat.not_lt_zero _)
          | succ n_59 ih_59 =>
            intro x_42 M_45 g_52 d_54 H locs ls hf_59 b_43 b_44 iM_45 f_46 f_47 f_48 f_49 f_50 f_51 hs_53 tq_55 j_56 j_57 j_58 hw hl
            have lg_52_0 : g_52 0 = (tI M_45 2 4).toInt := hs_53.2.1.1
            have lg_52_1 : g_52 1 = (tI M_45 2 6).toInt := hs_53.2.1.2.1
            have lg_52_4 : g_52 4 = (tI M_45 1 4).toInt := hs_53.2.2.1.1
            have lg_52_7 : g_52 7 = (tI M_45 t 4).toInt := hs_53.2.2.2.1.1
            have lg_52_8 : g_52 8 = (tI M_45 t 5).toInt := hs_53.2.2.2.1.2.1
            refine lv_iload_n hx hb dX4_readNegated_37 rfl (lv_at hl 0 rfl) ?_
            refine lv_iload_n hx hb dX4_readNegated_38 rfl (lv_at hl 1 rfl) ?_
            refine sb_icmp_ge (tgt := 57) hx hb rfl rfl dX4_readNegated_39 (by decide) (fun c_39_59 => ?_) (fun c_39_59 => ?_)
            · exact hQ _ _ _ _ _ hw (⟨iM_45, (f_46), f_47, (f_48), f_49, (by rw [EM, j_56]; exact hs_53), (by rw [ET, show x_1.toInt.toNat = x_42.toInt.toNat by omega, j_57]; exact tq_55)⟩) dX4_readNegated_57
            · refine lv_aload_n hx hb dX4_readNegated_42 rfl (lv_at hl 2 rfl) ?_
              refine ti_get (ci := 4) (k := 2) (N := 6) (T := TX4) (v := .ref (A (ti_laws t j) 0)) C hw iw_4 rfl ob_1 (by decide) (by decide) fl_X4_154 rfl (ti_Tv (f_51)) dX4_readNegated_43 ?_
              refine lv_bipush (v := (-24)) hx hb dX4_readNegated_46 (by decide) ?_
              refine ti_callVv (ci := 1) (av := [.int (-24)]) C hw (x_X1_add l D A cy hJ M_45 iM_45 t ht j hj (-24) (by first | omega | exact Or.inl (by decide) | exact Or.inr (by decide)) B n g_52 hs_53 d_54 tq_55) ⟨ml_X4_170, ym_X1_add, yv_X1_add, yi_X1_add, yc_X1_add⟩ yd_X1_add (ob_l ht hj) (by decide) rfl rfl hl.1 (Nat.le_of_ble_eq_true rfl) ⟨by decide, by decide⟩ ⟨Nat.zero_le _, Nat.zero_le _⟩ dX4_readNegated_48 (fun M_62 H locs hp_62 hw => ?_)
              obtain ⟨iM_62, q_63, q_64, q_65, p0r_61, p1r_61⟩ := hp_62
              have lM_62_0 : g_52 0 = (tI M_62 2 4).toInt := p0r_61.2.1.1
              have lM_62_1 : g_52 1 = (tI M_62 2 6).toInt := p0r_61.2.1.2.1
              have lM_62_4 : g_52 4 = (tI M_62 1 4).toInt := p0r_61.2.2.1.1
              have lM_62_7 : g_52 7 = (tI M_62 t 4).toInt := p0r_61.2.2.2.1.1
              have lM_62_8 : g_52 8 = (tI M_62 t 5).toInt := p0r_61.2.2.2.1.2.1
              simp only [show ((-24) : Int32).toInt = (-24) by decide] at p1r_61
              obtain ⟨d_66, ed_66⟩ : ∃ z : Nat → Int, z = qa j (-24) d_54 := ⟨_, rfl⟩
              rw [← ed_66] at p1r_61
              obtain ⟨x_67, ex_67⟩ : ∃ z : Int32, z = x_42 + 1 := ⟨_, rfl⟩
              have tx_67 : x_67.toInt = x_42.toInt + 1 := i_add ex_67 rfl (by decide) (by omega) (by omega)
              refine lv_iinc (v := x_67) (lv' := [(3, .int x_67), (2, .int x_1), (0, .ref (A 1 0)), (1, .int 2)]) hx hb dX4_readNegated_51 hl (k := 0) rfl (by rw [ex_67]; rfl) (by decide) rfl (fun ls hl => ?_)
              refine lv_goto (tgt := 37) hx hb dX4_readNegated_54 (by decide) ?_
              exact ih_59 x_67 M_62 g_52 d_66 _ _ _ (by omega) (by first | omega | decide) (by first | omega | decide) iM_62 ((q_63).trans f_46) (f0.trans (f0_x q_64) f_47) (((q_64 1).2.1).trans f_48) (ot.trans q_65 f_49) ((tT_fr q_63).trans f_50) ((tT_fr q_63).trans f_51) p0r_61 p1r_61 j_56 (by rw [show x_67.toInt.toNat = x_42.toInt.toNat + 1 by omega, ed_66, ← j_57]; rfl) (by first | omega | decide) hw (lv_sub hl [0, 1, 2, 3] rfl)
        exact hl_37_58 ((65 - 0 : Int).toNat + 1) 0 M_35 g_40 d_41 _ _ _ (Nat.lt_succ_self _) (by have lt0 : (0 : Int32).toInt = 0 := (by decide); first | omega | decide) (by have lt0 : (0 : Int32).toInt = 0 := (by decide); first | omega | decide) iM_35 ((q_36).trans f_5) (f0.trans q_37 f_6) ((q_38).trans f_7) (ot.trans q_39 f_8) ((tT_fr q_36).trans f_9) ((tT_fr q_36).trans f_10) p0r_34 p1r_34 rfl rfl (by have lt0 : (0 : Int32).toInt = 0 := (by decide); first | omega | decide) hw (lv_sub hl [0, 1, 2, 3] rfl)
      refine sb_icmp_gt (tgt := 30) hx hb rfl (by decide : (64 : Int32).toInt = 64) dX4_readNegated_5 (by decide) (fun c_5_18 => ?_) (fun c_5_18 => ?_)
      · exact hj_30_33  _ _ _ (by rw [j_15, lp_end (P := pp_qN) (f := 65 - x_1.toInt.toNat) (s := g_11) (Or.inl (by omega))]) (by rw [j_16, ca_end (f := 65 - x_1.toInt.toNat) (s := g_11) (Or.inl (by omega))]) j_17 hw (lv_sub hl [0, 1, 2] rfl)
      · refine lv_aload_n hx hb dX4_readNegated_8 rfl (lv_at hl 1 rfl) ?_
        refine ti_get (ci := 4) (k := 0) (N := 6) (T := TX4) (v := .ref (A 2 0)) C hw iw_4 rfl ob_1 (by decide) (by decide) fl_X4_12 rfl rfl dX4_readNegated_9 ?_
        refine ti_get (ci := 7) (k := 4) (N := 7) (T := TX7) C hw iw_7 rfl ob_2 (by decide) (by decide) fl_X4_41 rfl rfl dX4_readNegated_12 ?_
        refine lv_topi (fun x_20 ex_20 => ?_)
        have bx_20 : 0 ≤ x_20.toInt ∧ x_20.toInt ≤ 41 := cI_rd iM_4 ob_2.1 ex_20
        have ux_20 : (tI M_4 2 4).toInt = x_20.toInt := by rw [ex_20]
        refine lv_bipush (v := 24) hx hb dX4_readNegated_15 (by decide) ?_
        refine sb_icmp_ne (tgt := 30) hx hb rfl (by decide : (24 : Int32).toInt = 24) dX4_readNegated_17 (by decide) (fun c_17_20 => ?_) (fun c_17_20 => ?_)
        · exact hj_30_33  _ _ _ (by rw [j_15, lp_end (P := pp_qN) (f := 65 - x_1.toInt.toNat) (s := g_11) (Or.inr (decide_eq_false (by omega)))]) (by rw [j_16, ca_end (f := 65 - x_1.toInt.toNat) (s := g_11) (Or.inr (decide_eq_false (by omega)))]) j_17 hw (lv_sub hl [0, 1, 2] rfl)
        · refine lv_aload_n hx hb dX4_readNegated_20 rfl (lv_at hl 1 rfl) ?_
          refine ti_callVvE (ci := 4) (av := []) C hE hw (x_X4_knot l D A cy hJ M_4 iM_4 t ht (f_9) B n g_11 hs_12 d_13 tq_14) ⟨ml_X4_167, ym_X4_knot, yv_X4_knot, yi_X4_knot, yc_X4_knot⟩ yd_X4_knot ob_1 (by decide) rfl rfl hl.1 (Nat.le_of_ble_eq_true rfl) ⟨by decide, by decide⟩ ⟨Nat.zero_le _, Nat.zero_le _⟩ dX4_readNegated_21 (fun M_23 H locs hp_23 hw => ?_)
          obtain ⟨iM_23, q_24, q_25, q_26, q_27, q_28, p0r_22, p1r_22⟩ := hp_23
          obtain ⟨g_29, eg_29⟩ : ∃ z : Nat → Int, z = pp_kn B n g_11 := ⟨_, rfl⟩
          rw [← eg_29] at p0r_22
          have lg_29_0 : g_29 0 = (tI M_23 2 4).toInt := p0r_22.2.1.1
          have lg_29_1 : g_29 1 = (tI M_23 2 6).toInt := p0r_22.2.1.2.1
          have lg_29_4 : g_29 4 = (tI M_23 1 4).toInt := p0r_22.2.2.1.1
          have lg_29_7 : g_29 7 = (tI M_23 t 4).toInt := p0r_22.2.2.2.1.1
          have lg_29_8 : g_29 8 = (tI M_23 t 5).toInt := p0r_22.2.2.2.1.2.1
          obtain ⟨x_30, ex_30⟩ : ∃ z : Int32, z = x_1 + 1 := ⟨_, rfl⟩
          have tx_30 : x_30.toInt = x_1.toInt + 1 := i_add ex_30 rfl (by decide) (by omega) (by omega)
          refine lv_iinc (v := x_30) (lv' := [(2, .int x_30), (0, .ref (A 1 0)), (1, .int 2)]) hx hb dX4_readNegated_24 hl (k := 0) rfl (by rw [ex_30]; rfl) (by decide) rfl (fun ls hl => ?_)
          refine lv_goto (tgt := 2) hx hb dX4_readNegated_27 (by decide) ?_
          exact ih_18 x_30 M_23 g_29 d_13 _ _ _ (by omega) (by first | omega | decide) (by first | omega | decide) iM_23 ((q_24).trans f_5) (f0.trans q_25 f_6) ((q_26).trans f_7) (ot.trans q_27 f_8) ((tT_fr q_24).trans f_9) ((tT_fr q_24).trans f_10) p0r_22 p1r_22 (j_15.trans (lp_step (decide_eq_true (by omega)) (by rw [eg_29]) (by omega))) (j_16.trans (ca_step (decide_eq_true (by omega)) (by rw [eg_29]) (by omega) (by omega))) j_17 hw (lv_sub hl [0, 1, 2] rfl)
  exact hl_2_17 ((65 - 0 : Int).toNat + 1) 0 M rg td _ _ _ (Nat.lt_succ_self _) (by have lt0 : (0 : Int32).toInt = 0 := (by decide); first | omega | decide) (by have lt0 : (0 : Int32).toInt = 0 := (by decide); first | omega | decide) hI rfl f0.refl rfl ot.refl (hT) (hL) hr hq rfl rfl rfl hw (lv_sub hl [0, 1, 2] rfl)
set_option maxHeartbeats 4000000 in
set_option maxRecDepth 100000 in
theorem x_X4_readBoth_2 (l : Launch) (D : va_G) (A : Nat → Nat → Nat) (cy : Nat → ClassId) (hJ : ti_inj ti_LT A) (M : ti_M) (hI : cI Tc M) (t : Nat) (ht : t = 3 ∨ t = 4) (hT : tT M 1 1 = some t) (j : Nat) (hj : j < 3) (hL : tT M 1 2 = some (ti_laws t j)) (B : Nat → Int) (n : Nat) (rg : Nat → Int) (hr : rC B n t rg M) (td : Nat → Int) (hq : tq t td M) : ti_KvE l yX4_readBoth cX4_readBoth 3 55 ti_LT D A cy M [.ref (A 1 0), .int 2] (fun M2 => cI Tc M2 ∧ M2.2.2.2 = M.2.2.2 ∧ f0 M2 M ∧ tI M2 2 1 = tI M 2 1 ∧ ot t M2 M ∧ rC B n t (pp_bo B n (pp_pt B n 6) rg) M2 ∧ tq t (qq_bo B n j (pp_pt B n 6) (qq_pt B n j 6) rg td) M2) := by
  refine ti_eVE yp_X4_readBoth hJ ti_LT_nd (Nat.le_of_ble_eq_true rfl) ?_
  intro p e s m args below meth c Q H0 C hE hQ hw ls hl
  have hx := C.1
  have hb := C.2.1
  have hl : lv_has ls 3 [(0, .ref (A 1 0)), (1, .int 2)] := hl
  have l0 : rg 0 = (tI M 2 4).toInt := hr.2.1.1
  have l1 : rg 1 = (tI M 2 6).toInt := hr.2.1.2.1
  have l2 : rg 2 = (tI M 2 5).toInt := hr.2.1.2.2.1
  have l3 : rg 3 = (tI M 2 3).toInt := hr.2.1.2.2.2
  have l4 : rg 4 = (tI M 1 4).toInt := hr.2.2.1.1
  have l5 : rg 5 = (tI M 1 5).toInt := hr.2.2.1.2.1
  have l7 : rg 7 = (tI M t 4).toInt := hr.2.2.2.1.1
  have l8 : rg 8 = (tI M t 5).toInt := hr.2.2.2.1.2.1
  have l9 : rg 9 = (tI M t 3).toInt := hr.2.2.2.1.2.2
  refine lv_aload_n hx hb dX4_readBoth_0 rfl (lv_at hl 0 rfl) ?_
  refine lv_iload_n hx hb dX4_readBoth_1 rfl (lv_at hl 1 rfl) ?_
  refine ti_callVvE (ci := 4) (av := [.int 2]) C hE hw (x_X4_readNegated_2 l D A cy hJ M hI t ht (hT) j hj (hL) B n rg hr td hq) ⟨ml_X4_175, ym_X4_readNegated, yv_X4_readNegated, yi_X4_readNegated, yc_X4_readNegated⟩ yd_X4_readNegated ob_1 (by decide) rfl rfl hl.1 (Nat.le_of_ble_eq_true rfl) ⟨by decide, by decide⟩ ⟨Nat.zero_le _, Nat.zero_le _⟩ dX4_readBoth_2 (fun M_2 H locs hp_2 hw => ?_)
  obtain ⟨iM_2, q_3, q_4, q_5, q_6, p0r_1, p1r_1⟩ := hp_2
  obtain ⟨g_7, eg_7⟩ : ∃ z : Nat → Int, z = pp_ng B n (pp_pt B n 6) rg := ⟨_, rfl⟩
  rw [← eg_7] at p0r_1
  have lg_7_0 : g_7 0 = (tI M_2 2 4).toInt := p0r_1.2.1.1
  have lg_7_1 : g_7 1 = (tI M_2 2 6).toInt := p0r_1.2.1.2.1
  have lg_7_4 : g_7 4 = (tI M_2 1 4).toInt := p0r_1.2.2.1.1
  have lg_7_7 : g_7 7 = (tI M_2 t 4).toInt := p0r_1.2.2.2.1.1
  have lg_7_8 : g_7 8 = (tI M_2 t 5).toInt := p0r_1.2.2.2.1.2.1
  obtain ⟨d_8, ed_8⟩ : ∃ z : Nat → Int, z = qq_ng B n j (pp_pt B n 6) (qq_pt B n j 6) rg td := ⟨_, rfl⟩
  rw [← ed_8] at p1r_1
  refine lv_iconst (v := 0) hx hb dX4_readBoth_5 (by decide) ?_
  refine lv_istore_n (lv' := [(2, .int 0), (0, .ref (A 1 0)), (1, .int 2)]) hx hb dX4_readBoth_6 rfl hl (by decide) rfl (fun ls hl => ?_)
  have hl_7_24 : ∀ (n_25 : Nat) (x_9 : Int32) (M_12 : ti_M) (g_19 : Nat → Int) (d_21 : Nat → Int) (H : Heap) (locs : List Loc) (ls : Array Slot), (64 - x_9.toInt : Int).toNat < n_25 → (0 ≤ x_9.toInt) → (x_9.toInt ≤ 64) → (cI Tc M_12) → (M_12.2.2.2 = M.2.2.2) → (f0 M_12 M) → (tI M_12 2 1 = tI M 2 1) → (ot t M_12 M) → (tT M_12 1 1 = (some t)) → (tT M_12 1 2 = (some (ti_laws t j))) → (rC B n t g_19 M_12) → (tq t d_21 M_12) → (pp_lp pp_qA (fun s => pp_ng B n (pp_pt B n 6) (pp_kn B n s)) 64 g_7 = pp_lp pp_qA (fun s => pp_ng B n (pp_pt B n 6) (pp_kn B n s)) (64 - (x_9.toInt).toNat) g_19) → (qq_lp pp_qA (fun s => pp_ng B n (pp_pt B n 6) (pp_kn B n s)) (fun s td => qa j (-22) (qq_ng B n j (pp_pt B n 6) (qq_pt B n j 6) (pp_kn B n s) td)) 64 g_7 d_8 = qq_lp pp_qA (fun s => pp_ng B n (pp_pt B n 6) (pp_kn B n s)) (fun s td => qa j (-22) (qq_ng B n j (pp_pt B n 6) (qq_pt B n j 6) (pp_kn B n s) td)) (64 - (x_9.toInt).toNat) g_19 d_21) → ti_H ti_LT D A cy H0 M_12 H locs → lv_has ls 3 [(2, .int x_9), (0, .ref (A 1 0)), (1, .int 2)] → W p l e (ti_rm 55) s m args below meth c H locs 0 0 Q (F0 m 7 ls []) := by
    intro n_25
    induction n_25 with
    | zero => intro x_9 M_12 g_19 d_21 H locs ls hf_25; exact absurd hf_25 (Nat.not_lt_zero _)
    | succ n_25 ih_25 =>
      intro x_9 M_12 g_19 d_21 H locs ls hf_25 b_10 b_11 iM_12 f_13 f_14 f_15 f_16 f_17 f_18 hs_20 tq_22 j_23 j_24 hw hl
      have lg_19_0 : g_19 0 = (tI M_12 2 4).toInt := hs_20.2.1.1
      have lg_19_1 : g_19 1 = (tI M_12 2 6).toInt := hs_20.2.1.2.1
      have lg_19_4 : g_19 4 = (tI M_12 1 4).toInt := hs_20.2.2.1.1
      have lg_19_7 : g_19 7 = (tI M_12 t 4).toInt := hs_20.2.2.2.1.1
      have lg_19_8 : g_19 8 = (tI M_12 t 5).toInt := hs_20.2.2.2.1.2.1
      refine lv_iload_n hx hb dX4_readBoth_7 rfl (lv_at hl 0 rfl) ?_
      refine lv_bipush (v := 64) hx hb dX4_readBoth_8 (by decide) ?_
      refine sb_icmp_ge (tgt := 49) hx hb rfl (by decide : (64 : Int32).toInt = 64) dX4_readBoth_10 (by decide) (fun c_10_25 => ?_) (fun c_10_25 => ?_)
      · exact hQ _ _ _ _ _ hw (⟨iM_12, (f_13), f_14, (f_15), f_16, (by unfold pp_bo; rw [← eg_7, j_23, lp_end (P := pp_qA) (f := 64 - x_9.toInt.toNat) (s := g_19) (Or.inl (by omega))]; exact hs_20), (by unfold qq_bo; rw [← eg_7, ← ed_8, j_24, qlp_end (P := pp_qA) (f := 64 - x_9.toInt.toNat) (s := g_19) (Or.inl (by omega))]; exact tq_22)⟩) dX4_readBoth_49
      · refine lv_aload_n hx hb dX4_readBoth_13 rfl (lv_at hl 1 rfl) ?_
        refine ti_get (ci := 4) (k := 0) (N := 6) (T := TX4) (v := .ref (A 2 0)) C hw iw_4 rfl ob_1 (by decide) (by decide) fl_X4_12 rfl rfl dX4_readBoth_14 ?_
        refine ti_get (ci := 7) (k := 4) (N := 7) (T := TX7) C hw iw_7 rfl ob_2 (by decide) (by decide) fl_X4_41 rfl rfl dX4_readBoth_17 ?_
        refine lv_topi (fun x_27 ex_27 => ?_)
        have bx_27 : 0 ≤ x_27.toInt ∧ x_27.toInt ≤ 41 := cI_rd iM_12 ob_2.1 ex_27
        have ux_27 : (tI M_12 2 4).toInt = x_27.toInt := by rw [ex_27]
        refine lv_bipush (v := 22) hx hb dX4_readBoth_20 (by decide) ?_
        refine sb_icmp_ne (tgt := 49) hx hb rfl (by decide : (22 : Int32).toInt = 22) dX4_readBoth_22 (by decide) (fun c_22_27 => ?_) (fun c_22_27 => ?_)
        · exact hQ _ _ _ _ _ hw (⟨iM_12, (f_13), f_14, (f_15), f_16, (by unfold pp_bo; rw [← eg_7, j_23, lp_end (P := pp_qA) (f := 64 - x_9.toInt.toNat) (s := g_19) (Or.inr (decide_eq_false (by omega)))]; exact hs_20), (by unfold qq_bo; rw [← eg_7, ← ed_8, j_24, qlp_end (P := pp_qA) (f := 64 - x_9.toInt.toNat) (s := g_19) (Or.inr (decide_eq_false (by omega)))]; exact tq_22)⟩) dX4_readBoth_49
        · refine lv_aload_n hx hb dX4_readBoth_25 rfl (lv_at hl 1 rfl) ?_
          refine ti_callVvE (ci := 4) (av := []) C hE hw (x_X4_knot l D A cy hJ M_12 iM_12 t ht (f_17) B n g_19 hs_20 d_21 tq_22) ⟨ml_X4_167, ym_X4_knot, yv_X4_knot, yi_X4_knot, yc_X4_knot⟩ yd_X4_knot ob_1 (by decide) rfl rfl hl.1 (Nat.le_of_ble_eq_true rfl) ⟨by decide, by decide⟩ ⟨Nat.zero_le _, Nat.zero_le _⟩ dX4_readBoth_26 (fun M_30 H locs hp_30 hw => ?_)
          obtain ⟨iM_30, q_31, q_32, q_33, q_34, q_35, p0r_29, p1r_29⟩ := hp_30
          obtain ⟨g_36, eg_36⟩ : ∃ z : Nat → Int, z = pp_kn B n g_19 := ⟨_, rfl⟩
          rw [← eg_36] at p0r_29
          have lg_36_0 : g_36 0 = (tI M_30 2 4).toInt := p0r_29.2.1.1
          have lg_36_1 : g_36 1 = (tI M_30 2 6).toInt := p0r_29.2.1.2.1
          have lg_36_4 : g_36 4 = (tI M_30 1 4).toInt := p0r_29.2.2.1.1
          have lg_36_7 : g_36 7 = (tI M_30 t 4).toInt := p0r_29.2.2.2.1.1
          have lg_36_8 : g_36 8 = (tI M_30 t 5).toInt := p0r_29.2.2.2.1.2.1
          refine lv_aload_n hx hb dX4_readBoth_29 rfl (lv_at hl 1 rfl) ?_
          refine lv_iload_n hx hb dX4_readBoth_30 rfl (lv_at hl 2 rfl) ?_
          refine ti_callVvE (ci := 4) (av := [.int 2]) C hE hw (x_X4_readNegated_2 l D A cy hJ M_30 iM_30 t ht ((tT_fr q_31).trans f_17) j hj ((tT_fr q_31).trans f_18) B n g_36 p0r_29 d_21 p1r_29) ⟨ml_X4_175, ym_X4_readNegated, yv_X4_readNegated, yi_X4_readNegated, yc_X4_readNegated⟩ yd_X4_readNegated ob_1 (by decide) rfl rfl hl.1 (Nat.le_of_ble_eq_true rfl) ⟨by decide, by decide⟩ ⟨Nat.zero_le _, Nat.zero_le _⟩ dX4_readBoth_31 (fun M_38 H locs hp_38 hw => ?_)
          obtain ⟨iM_38, q_39, q_40, q_41, q_42, p0r_37, p1r_37⟩ := hp_38
          obtain ⟨g_43, eg_43⟩ : ∃ z : Nat → Int, z = pp_ng B n (pp_pt B n 6) g_36 := ⟨_, rfl⟩
          rw [← eg_43] at p0r_37
          have lg_43_0 : g_43 0 = (tI M_38 2 4).toInt := p0r_37.2.1.1
          have lg_43_1 : g_43 1 = (tI M_38 2 6).toInt := p0r_37.2.1.2.1
          have lg_43_4 : g_43 4 = (tI M_38 1 4).toInt := p0r_37.2.2.1.1
          have lg_43_7 : g_43 7 = (tI M_38 t 4).toInt := p0r_37.2.2.2.1.1
          have lg_43_8 : g_43 8 = (tI M_38 t 5).toInt := p0r_37.2.2.2.1.2.1
          obtain ⟨d_44, ed_44⟩ : ∃ z : Nat → Int, z = qq_ng B n j (pp_pt B n 6) (qq_pt B n j 6) g_36 d_21 := ⟨_, rfl⟩
          rw [← ed_44] at p1r_37
          refine lv_aload_n hx hb dX4_readBoth_34 rfl (lv_at hl 1 rfl) ?_
          refine ti_get (ci := 4) (k := 2) (N := 6) (T := TX4) (v := .ref (A (ti_laws t j) 0)) C hw iw_4 rfl ob_1 (by decide) (by decide) fl_X4_154 rfl (ti_Tv ((tT_fr q_39).trans ((tT_fr q_31).trans f_18))) dX4_readBoth_35 ?_
          refine lv_bipush (v := (-22)) hx hb dX4_readBoth_38 (by decide) ?_
          refine ti_callVv (ci := 1) (av := [.int (-22)]) C hw (x_X1_add l D A cy hJ M_38 iM_38 t ht j hj (-22) (by first | omega | exact Or.inl (by decide) | exact Or.inr (by decide)) B n g_43 p0r_37 d_44 p1r_37) ⟨ml_X4_170, ym_X1_add, yv_X1_add, yi_X1_add, yc_X1_add⟩ yd_X1_add (ob_l ht hj) (by decide) rfl rfl hl.1 (Nat.le_of_ble_eq_true rfl) ⟨by decide, by decide⟩ ⟨Nat.zero_le _, Nat.zero_le _⟩ dX4_readBoth_40 (fun M_46 H locs hp_46 hw => ?_)
          obtain ⟨iM_46, q_47, q_48, q_49, p0r_45, p1r_45⟩ := hp_46
          have lM_46_0 : g_43 0 = (tI M_46 2 4).toInt := p0r_45.2.1.1
          have lM_46_1 : g_43 1 = (tI M_46 2 6).toInt := p0r_45.2.1.2.1
          have lM_46_4 : g_43 4 = (tI M_46 1 4).toInt := p0r_45.2.2.1.1
          have lM_46_7 : g_43 7 = (tI M_46 t 4).toInt := p0r_45.2.2.2.1.1
          have lM_46_8 : g_43 8 = (tI M_46 t 5).toInt := p0r_45.2.2.2.1.2.1
          simp only [show ((-22) : Int32).toInt = (-22) by decide] at p1r_45
          obtain ⟨d_50, ed_50⟩ : ∃ z : Nat → Int, z = qa j (-22) d_44 := ⟨_, rfl⟩
          rw [← ed_50] at p1r_45
          obtain ⟨x_51, ex_51⟩ : ∃ z : Int32, z = x_9 + 1 := ⟨_, rfl⟩
          have tx_51 : x_51.toInt = x_9.toInt + 1 := i_add ex_51 rfl (by decide) (by omega) (by omega)
          refine lv_iinc (v := x_51) (lv' := [(2, .int x_51), (0, .ref (A 1 0)), (1, .int 2)]) hx hb dX4_readBoth_43 hl (k := 0) rfl (by rw [ex_51]; rfl) (by decide) rfl (fun ls hl => ?_)
          refine lv_goto (tgt := 7) hx hb dX4_readBoth_46 (by decide) ?_
          exact ih_25 x_51 M_46 g_43 d_50 _ _ _ (by omega) (by first | omega | decide) (by first | omega | decide) iM_46 ((q_47).trans ((q_39).trans ((q_31).trans f_13))) (f0.trans (f0_x q_48) (f0.trans q_40 (f0.trans q_32 f_14))) (((q_48 1).2.1).trans ((q_41).trans ((q_33).trans f_15))) (ot.trans q_49 (ot.trans q_42 (ot.trans q_34 f_16))) ((tT_fr q_47).trans ((tT_fr q_39).trans ((tT_fr q_31).trans f_17))) ((tT_fr q_47).trans ((tT_fr q_39).trans ((tT_fr q_31).trans f_18))) p0r_45 p1r_45 (j_23.trans (lp_step (decide_eq_true (by omega)) (by rw [eg_43, eg_36]) (by omega))) (j_24.trans (qlp_step (decide_eq_true (by omega)) (by rw [eg_43, eg_36]) (by rw [ed_50, ed_44, eg_36]) (by omega))) hw (lv_sub hl [0, 1, 2] rfl)
  exact hl_7_24 ((64 - 0 : Int).toNat + 1) 0 M_2 g_7 d_8 _ _ _ (Nat.lt_succ_self _) (by have lt0 : (0 : Int32).toInt = 0 := (by decide); first | omega | decide) (by have lt0 : (0 : Int32).toInt = 0 := (by decide); first | omega | decide) iM_2 (q_3) q_4 (q_5) q_6 ((tT_fr q_3).trans hT) ((tT_fr q_3).trans hL) p0r_1 p1r_1 rfl rfl hw (lv_sub hl [0, 1, 2] rfl)
set_option maxHeartbeats 4000000 in
set_option maxRecDepth 100000 in
theorem x_X4_readEither_2 (l : Launch) (D : va_G) (A : Nat → Nat → Nat) (cy : Nat → ClassId) (hJ : ti_inj ti_LT A) (M : ti_M) (hI : cI Tc M) (t : Nat) (ht : t = 3 ∨ t = 4) (hT : tT M 1 1 = some t) (j : Nat) (hj : j < 3) (hL : tT M 1 2 = some (ti_laws t j)) (B : Nat → Int) (n : Nat) (rg : Nat → Int) (hr : rC B n t rg M) (td : Nat → Int) (hq : tq t td M) : ti_KvE l yX4_readEither cX4_readEither 3 56 ti_LT D A cy M [.ref (A 1 0), .int 2] (fun M2 => cI Tc M2 ∧ M2.2.2.2 = M.2.2.2 ∧ f0 M2 M ∧ tI M2 2 1 = tI M 2 1 ∧ ot t M2 M ∧ rC B n t (pp_ei B n (pp_pt B n 6) rg) M2 ∧ tq t (qq_ei B n j (pp_pt B n 6) (qq_pt B n j 6) rg td) M2) := by
  refine ti_eVE yp_X4_readEither hJ ti_LT_nd (Nat.le_of_ble_eq_true rfl) ?_
  intro p e s m args below meth c Q H0 C hE hQ hw ls hl
  have hx := C.1
  have hb := C.2.1
  have hl : lv_has ls 3 [(0, .ref (A 1 0)), (1, .int 2)] := hl
  have l0 : rg 0 = (tI M 2 4).toInt := hr.2.1.1
  have l1 : rg 1 = (tI M 2 6).toInt := hr.2.1.2.1
  have l2 : rg 2 = (tI M 2 5).toInt := hr.2.1.2.2.1
  have l3 : rg 3 = (tI M 2 3).toInt := hr.2.1.2.2.2
  have l4 : rg 4 = (tI M 1 4).toInt := hr.2.2.1.1
  have l5 : rg 5 = (tI M 1 5).toInt := hr.2.2.1.2.1
  have l7 : rg 7 = (tI M t 4).toInt := hr.2.2.2.1.1
  have l8 : rg 8 = (tI M t 5).toInt := hr.2.2.2.1.2.1
  have l9 : rg 9 = (tI M t 3).toInt := hr.2.2.2.1.2.2
  refine lv_aload_n hx hb dX4_readEither_0 rfl (lv_at hl 0 rfl) ?_
  refine lv_iload_n hx hb dX4_readEither_1 rfl (lv_at hl 1 rfl) ?_
  refine ti_callVvE (ci := 4) (av := [.int 2]) C hE hw (x_X4_readBoth_2 l D A cy hJ M hI t ht (hT) j hj (hL) B n rg hr td hq) ⟨ml_X4_164, ym_X4_readBoth, yv_X4_readBoth, yi_X4_readBoth, yc_X4_readBoth⟩ yd_X4_readBoth ob_1 (by decide) rfl rfl hl.1 (Nat.le_of_ble_eq_true rfl) ⟨by decide, by decide⟩ ⟨Nat.zero_le _, Nat.zero_le _⟩ dX4_readEither_2 (fun M_2 H locs hp_2 hw => ?_)
  obtain ⟨iM_2, q_3, q_4, q_5, q_6, p0r_1, p1r_1⟩ := hp_2
  obtain ⟨g_7, eg_7⟩ : ∃ z : Nat → Int, z = pp_bo B n (pp_pt B n 6) rg := ⟨_, rfl⟩
  rw [← eg_7] at p0r_1
  have lg_7_0 : g_7 0 = (tI M_2 2 4).toInt := p0r_1.2.1.1
  have lg_7_1 : g_7 1 = (tI M_2 2 6).toInt := p0r_1.2.1.2.1
  have lg_7_4 : g_7 4 = (tI M_2 1 4).toInt := p0r_1.2.2.1.1
  have lg_7_7 : g_7 7 = (tI M_2 t 4).toInt := p0r_1.2.2.2.1.1
  have lg_7_8 : g_7 8 = (tI M_2 t 5).toInt := p0r_1.2.2.2.1.2.1
  obtain ⟨d_8, ed_8⟩ : ∃ z : Nat → Int, z = qq_bo B n j (pp_pt B n 6) (qq_pt B n j 6) rg td := ⟨_, rfl⟩
  rw [← ed_8] at p1r_1
  refine lv_iconst (v := 0) hx hb dX4_readEither_5 (by decide) ?_
  refine lv_istore_n (lv' := [(2, .int 0), (0, .ref (A 1 0)), (1, .int 2)]) hx hb dX4_readEither_6 rfl hl (by decide) rfl (fun ls hl => ?_)
  have hl_7_24 : ∀ (n_25 : Nat) (x_9 : Int32) (M_12 : ti_M) (g_19 : Nat → Int) (d_21 : Nat → Int) (H : Heap) (locs : List Loc) (ls : Array Slot), (64 - x_9.toInt : Int).toNat < n_25 → (0 ≤ x_9.toInt) → (x_9.toInt ≤ 64) → (cI Tc M_12) → (M_12.2.2.2 = M.2.2.2) → (f0 M_12 M) → (tI M_12 2 1 = tI M 2 1) → (ot t M_12 M) → (tT M_12 1 1 = (some t)) → (tT M_12 1 2 = (some (ti_laws t j))) → (rC B n t g_19 M_12) → (tq t d_21 M_12) → (pp_lp pp_qO (fun s => pp_bo B n (pp_pt B n 6) (pp_kn B n s)) 64 g_7 = pp_lp pp_qO (fun s => pp_bo B n (pp_pt B n 6) (pp_kn B n s)) (64 - (x_9.toInt).toNat) g_19) → (qq_lp pp_qO (fun s => pp_bo B n (pp_pt B n 6) (pp_kn B n s)) (fun s td => qa j (-23) (qq_bo B n j (pp_pt B n 6) (qq_pt B n j 6) (pp_kn B n s) td)) 64 g_7 d_8 = qq_lp pp_qO (fun s => pp_bo B n (pp_pt B n 6) (pp_kn B n s)) (fun s td => qa j (-23) (qq_bo B n j (pp_pt B n 6) (qq_pt B n j 6) (pp_kn B n s) td)) (64 - (x_9.toInt).toNat) g_19 d_21) → ti_H ti_LT D A cy H0 M_12 H locs → lv_has ls 3 [(2, .int x_9), (0, .ref (A 1 0)), (1, .int 2)] → W p l e (ti_rm 56) s m args below meth c H locs 0 0 Q (F0 m 7 ls []) := by
    intro n_25
    induction n_25 with
    | zero => intro x_9 M_12 g_19 d_21 H locs ls hf_25; exact absurd hf_25 (Nat.not_lt_zero _)
    | succ n_25 ih_25 =>
      intro x_9 M_12 g_19 d_21 H locs ls hf_25 b_10 b_11 iM_12 f_13 f_14 f_15 f_16 f_17 f_18 hs_20 tq_22 j_23 j_24 hw hl
      have lg_19_0 : g_19 0 = (tI M_12 2 4).toInt := hs_20.2.1.1
      have lg_19_1 : g_19 1 = (tI M_12 2 6).toInt := hs_20.2.1.2.1
      have lg_19_4 : g_19 4 = (tI M_12 1 4).toInt := hs_20.2.2.1.1
      have lg_19_7 : g_19 7 = (tI M_12 t 4).toInt := hs_20.2.2.2.1.1
      have lg_19_8 : g_19 8 = (tI M_12 t 5).toInt := hs_20.2.2.2.1.2.1
      refine lv_iload_n hx hb dX4_readEither_7 rfl (lv_at hl 0 rfl) ?_
      refine lv_bipush (v := 64) hx hb dX4_readEither_8 (by decide) ?_
      refine sb_icmp_ge (tgt := 49) hx hb rfl (by decide : (64 : Int32).toInt = 64) dX4_readEither_10 (by decide) (fun c_10_25 => ?_) (fun c_10_25 => ?_)
      · exact hQ _ _ _ _ _ hw (⟨iM_12, (f_13), f_14, (f_15), f_16, (by unfold pp_ei; rw [← eg_7, j_23, lp_end (P := pp_qO) (f := 64 - x_9.toInt.toNat) (s := g_19) (Or.inl (by omega))]; exact hs_20), (by unfold qq_ei; rw [← eg_7, ← ed_8, j_24, qlp_end (P := pp_qO) (f := 64 - x_9.toInt.toNat) (s := g_19) (Or.inl (by omega))]; exact tq_22)⟩) dX4_readEither_49
      · refine lv_aload_n hx hb dX4_readEither_13 rfl (lv_at hl 1 rfl) ?_
        refine ti_get (ci := 4) (k := 0) (N := 6) (T := TX4) (v := .ref (A 2 0)) C hw iw_4 rfl ob_1 (by decide) (by decide) fl_X4_12 rfl rfl dX4_readEither_14 ?_
        refine ti_get (ci := 7) (k := 4) (N := 7) (T := TX7) C hw iw_7 rfl ob_2 (by decide) (by decide) fl_X4_41 rfl rfl dX4_readEither_17 ?_
        refine lv_topi (fun x_27 ex_27 => ?_)
        have bx_27 : 0 ≤ x_27.toInt ∧ x_27.toInt ≤ 41 := cI_rd iM_12 ob_2.1 ex_27
        have ux_27 : (tI M_12 2 4).toInt = x_27.toInt := by rw [ex_27]
        refine lv_bipush (v := 23) hx hb dX4_readEither_20 (by decide) ?_
        refine sb_icmp_ne (tgt := 49) hx hb rfl (by decide : (23 : Int32).toInt = 23) dX4_readEither_22 (by decide) (fun c_22_27 => ?_) (fun c_22_27 => ?_)
        · exact hQ _ _ _ _ _ hw (⟨iM_12, (f_13), f_14, (f_15), f_16, (by unfold pp_ei; rw [← eg_7, j_23, lp_end (P := pp_qO) (f := 64 - x_9.toInt.toNat) (s := g_19) (Or.inr (decide_eq_false (by omega)))]; exact hs_20), (by unfold qq_ei; rw [← eg_7, ← ed_8, j_24, qlp_end (P := pp_qO) (f := 64 - x_9.toInt.toNat) (s := g_19) (Or.inr (decide_eq_false (by omega)))]; exact tq_22)⟩) dX4_readEither_49
        · refine lv_aload_n hx hb dX4_readEither_25 rfl (lv_at hl 1 rfl) ?_
          refine ti_callVvE (ci := 4) (av := []) C hE hw (x_X4_knot l D A cy hJ M_12 iM_12 t ht (f_17) B n g_19 hs_20 d_21 tq_22) ⟨ml_X4_167, ym_X4_knot, yv_X4_knot, yi_X4_knot, yc_X4_knot⟩ yd_X4_knot ob_1 (by decide) rfl rfl hl.1 (Nat.le_of_ble_eq_true rfl) ⟨by decide, by decide⟩ ⟨Nat.zero_le _, Nat.zero_le _⟩ dX4_readEither_26 (fun M_30 H locs hp_30 hw => ?_)
          obtain ⟨iM_30, q_31, q_32, q_33, q_34, q_35, p0r_29, p1r_29⟩ := hp_30
          obtain ⟨g_36, eg_36⟩ : ∃ z : Nat → Int, z = pp_kn B n g_19 := ⟨_, rfl⟩
          rw [← eg_36] at p0r_29
          have lg_36_0 : g_36 0 = (tI M_30 2 4).toInt := p0r_29.2.1.1
          have lg_36_1 : g_36 1 = (tI M_30 2 6).toInt := p0r_29.2.1.2.1
          have lg_36_4 : g_36 4 = (tI M_30 1 4).toInt := p0r_29.2.2.1.1
          have lg_36_7 : g_36 7 = (tI M_30 t 4).toInt := p0r_29.2.2.2.1.1
          have lg_36_8 : g_36 8 = (tI M_30 t 5).toInt := p0r_29.2.2.2.1.2.1
          refine lv_aload_n hx hb dX4_readEither_29 rfl (lv_at hl 1 rfl) ?_
          refine lv_iload_n hx hb dX4_readEither_30 rfl (lv_at hl 2 rfl) ?_
          refine ti_callVvE (ci := 4) (av := [.int 2]) C hE hw (x_X4_readBoth_2 l D A cy hJ M_30 iM_30 t ht ((tT_fr q_31).trans f_17) j hj ((tT_fr q_31).trans f_18) B n g_36 p0r_29 d_21 p1r_29) ⟨ml_X4_164, ym_X4_readBoth, yv_X4_readBoth, yi_X4_readBoth, yc_X4_readBoth⟩ yd_X4_readBoth ob_1 (by decide) rfl rfl hl.1 (Nat.le_of_ble_eq_true rfl) ⟨by decide, by decide⟩ ⟨Nat.zero_le _, Nat.zero_le _⟩ dX4_readEither_31 (fun M_38 H locs hp_38 hw => ?_)
          obtain ⟨iM_38, q_39, q_40, q_41, q_42, p0r_37, p1r_37⟩ := hp_38
          obtain ⟨g_43, eg_43⟩ : ∃ z : Nat → Int, z = pp_bo B n (pp_pt B n 6) g_36 := ⟨_, rfl⟩
          rw [← eg_43] at p0r_37
          have lg_43_0 : g_43 0 = (tI M_38 2 4).toInt := p0r_37.2.1.1
          have lg_43_1 : g_43 1 = (tI M_38 2 6).toInt := p0r_37.2.1.2.1
          have lg_43_4 : g_43 4 = (tI M_38 1 4).toInt := p0r_37.2.2.1.1
          have lg_43_7 : g_43 7 = (tI M_38 t 4).toInt := p0r_37.2.2.2.1.1
          have lg_43_8 : g_43 8 = (tI M_38 t 5).toInt := p0r_37.2.2.2.1.2.1
          obtain ⟨d_44, ed_44⟩ : ∃ z : Nat → Int, z = qq_bo B n j (pp_pt B n 6) (qq_pt B n j 6) g_36 d_21 := ⟨_, rfl⟩
          rw [← ed_44] at p1r_37
          refine lv_aload_n hx hb dX4_readEither_34 rfl (lv_at hl 1 rfl) ?_
          refine ti_get (ci := 4) (k := 2) (N := 6) (T := TX4) (v := .ref (A (ti_laws t j) 0)) C hw iw_4 rfl ob_1 (by decide) (by decide) fl_X4_154 rfl (ti_Tv ((tT_fr q_39).trans ((tT_fr q_31).trans f_18))) dX4_readEither_35 ?_
          refine lv_bipush (v := (-23)) hx hb dX4_readEither_38 (by decide) ?_
          refine ti_callVv (ci := 1) (av := [.int (-23)]) C hw (x_X1_add l D A cy hJ M_38 iM_38 t ht j hj (-23) (by first | omega | exact Or.inl (by decide) | exact Or.inr (by decide)) B n g_43 p0r_37 d_44 p1r_37) ⟨ml_X4_170, ym_X1_add, yv_X1_add, yi_X1_add, yc_X1_add⟩ yd_X1_add (ob_l ht hj) (by decide) rfl rfl hl.1 (Nat.le_of_ble_eq_true rfl) ⟨by decide, by decide⟩ ⟨Nat.zero_le _, Nat.zero_le _⟩ dX4_readEither_40 (fun M_46 H locs hp_46 hw => ?_)
          obtain ⟨iM_46, q_47, q_48, q_49, p0r_45, p1r_45⟩ := hp_46
          have lM_46_0 : g_43 0 = (tI M_46 2 4).toInt := p0r_45.2.1.1
          have lM_46_1 : g_43 1 = (tI M_46 2 6).toInt := p0r_45.2.1.2.1
          have lM_46_4 : g_43 4 = (tI M_46 1 4).toInt := p0r_45.2.2.1.1
          have lM_46_7 : g_43 7 = (tI M_46 t 4).toInt := p0r_45.2.2.2.1.1
          have lM_46_8 : g_43 8 = (tI M_46 t 5).toInt := p0r_45.2.2.2.1.2.1
          simp only [show ((-23) : Int32).toInt = (-23) by decide] at p1r_45
          obtain ⟨d_50, ed_50⟩ : ∃ z : Nat → Int, z = qa j (-23) d_44 := ⟨_, rfl⟩
          rw [← ed_50] at p1r_45
          obtain ⟨x_51, ex_51⟩ : ∃ z : Int32, z = x_9 + 1 := ⟨_, rfl⟩
          have tx_51 : x_51.toInt = x_9.toInt + 1 := i_add ex_51 rfl (by decide) (by omega) (by omega)
          refine lv_iinc (v := x_51) (lv' := [(2, .int x_51), (0, .ref (A 1 0)), (1, .int 2)]) hx hb dX4_readEither_43 hl (k := 0) rfl (by rw [ex_51]; rfl) (by decide) rfl (fun ls hl => ?_)
          refine lv_goto (tgt := 7) hx hb dX4_readEither_46 (by decide) ?_
          exact ih_25 x_51 M_46 g_43 d_50 _ _ _ (by omega) (by first | omega | decide) (by first | omega | decide) iM_46 ((q_47).trans ((q_39).trans ((q_31).trans f_13))) (f0.trans (f0_x q_48) (f0.trans q_40 (f0.trans q_32 f_14))) (((q_48 1).2.1).trans ((q_41).trans ((q_33).trans f_15))) (ot.trans q_49 (ot.trans q_42 (ot.trans q_34 f_16))) ((tT_fr q_47).trans ((tT_fr q_39).trans ((tT_fr q_31).trans f_17))) ((tT_fr q_47).trans ((tT_fr q_39).trans ((tT_fr q_31).trans f_18))) p0r_45 p1r_45 (j_23.trans (lp_step (decide_eq_true (by omega)) (by rw [eg_43, eg_36]) (by omega))) (j_24.trans (qlp_step (decide_eq_true (by omega)) (by rw [eg_43, eg_36]) (by rw [ed_50, ed_44, eg_36]) (by omega))) hw (lv_sub hl [0, 1, 2] rfl)
  exact hl_7_24 ((64 - 0 : Int).toNat + 1) 0 M_2 g_7 d_8 _ _ _ (Nat.lt_succ_self _) (by have lt0 : (0 : Int32).toInt = 0 := (by decide); first | omega | decide) (by have lt0 : (0 : Int32).toInt = 0 := (by decide); first | omega | decide) iM_2 (q_3) q_4 (q_5) q_6 ((tT_fr q_3).trans hT) ((tT_fr q_3).trans hL) p0r_1 p1r_1 rfl rfl hw (lv_sub hl [0, 1, 2] rfl)
set_option maxHeartbeats 4000000 in
set_option maxRecDepth 100000 in
theorem x_X4_readPart_1 (l : Launch) (D : va_G) (A : Nat → Nat → Nat) (cy : Nat → ClassId) (hJ : ti_inj ti_LT A) (M : ti_M) (hI : cI Tc M) (t : Nat) (ht : t = 3 ∨ t = 4) (hT : tT M 1 1 = some t) (j : Nat) (hj : j < 3) (hL : tT M 1 2 = some (ti_laws t j)) (B : Nat → Int) (n : Nat) (rg : Nat → Int) (hr : rC B n t rg M) (td : Nat → Int) (hq : tq t td M) : ti_KvE l yX4_readPart cX4_readPart 3 57 ti_LT D A cy M [.ref (A 1 0), .int 1] (fun M2 => cI Tc M2 ∧ M2.2.2.2 = M.2.2.2 ∧ f0 M2 M ∧ tI M2 2 1 = tI M 2 1 ∧ ot t M2 M ∧ rC B n t (pp_pt B n 7 rg) M2 ∧ tq t (qq_pt B n j 7 rg td) M2) := by
  refine ti_eVE yp_X4_readPart hJ ti_LT_nd (Nat.le_of_ble_eq_true rfl) ?_
  intro p e s m args below meth c Q H0 C hE hQ hw ls hl
  have hx := C.1
  have hb := C.2.1
  have hl : lv_has ls 3 [(0, .ref (A 1 0)), (1, .int 1)] := hl
  have l0 : rg 0 = (tI M 2 4).toInt := hr.2.1.1
  have l1 : rg 1 = (tI M 2 6).toInt := hr.2.1.2.1
  have l2 : rg 2 = (tI M 2 5).toInt := hr.2.1.2.2.1
  have l3 : rg 3 = (tI M 2 3).toInt := hr.2.1.2.2.2
  have l4 : rg 4 = (tI M 1 4).toInt := hr.2.2.1.1
  have l5 : rg 5 = (tI M 1 5).toInt := hr.2.2.1.2.1
  have l7 : rg 7 = (tI M t 4).toInt := hr.2.2.2.1.1
  have l8 : rg 8 = (tI M t 5).toInt := hr.2.2.2.1.2.1
  have l9 : rg 9 = (tI M t 3).toInt := hr.2.2.2.1.2.2
  refine lv_aload_n hx hb dX4_readPart_0 rfl (lv_at hl 0 rfl) ?_
  refine ti_get (ci := 4) (k := 0) (N := 6) (T := TX4) (v := .ref (A 2 0)) C hw iw_4 rfl ob_1 (by decide) (by decide) fl_X4_12 rfl rfl dX4_readPart_1 ?_
  refine ti_get (ci := 7) (k := 4) (N := 7) (T := TX7) C hw iw_7 rfl ob_2 (by decide) (by decide) fl_X4_41 rfl rfl dX4_readPart_4 ?_
  refine lv_topi (fun x_1 ex_1 => ?_)
  have bx_1 : 0 ≤ x_1.toInt ∧ x_1.toInt ≤ 41 := cI_rd hI ob_2.1 ex_1
  have ux_1 : (tI M 2 4).toInt = x_1.toInt := by rw [ex_1]
  refine lv_istore_n (lv' := [(2, .int x_1), (0, .ref (A 1 0)), (1, .int 1)]) hx hb dX4_readPart_7 rfl hl (by decide) rfl (fun ls hl => ?_)
  refine lv_iload_n hx hb dX4_readPart_8 rfl (lv_at hl 0 rfl) ?_
  refine lv_bipush (v := 30) hx hb dX4_readPart_9 (by decide) ?_
  refine sb_icmp_ne (tgt := 28) hx hb rfl (by decide : (30 : Int32).toInt = 30) dX4_readPart_11 (by decide) (fun c_11_1 => ?_) (fun c_11_1 => ?_)
  · refine lv_iload_n hx hb dX4_readPart_28 rfl (lv_at hl 0 rfl) ?_
    refine lv_bipush (v := 30) hx hb dX4_readPart_29 (by decide) ?_
    refine sb_icmp_ne (tgt := 57) hx hb rfl (by decide : (30 : Int32).toInt = 30) dX4_readPart_31 (by decide) (fun c_31_3 => ?_) (fun h => by omega)
    refine lv_iload_n hx hb dX4_readPart_57 rfl (lv_at hl 0 rfl) ?_
    refine lv_bipush (v := 26) hx hb dX4_readPart_58 (by decide) ?_
    refine sb_icmp_ne (tgt := 84) hx hb rfl (by decide : (26 : Int32).toInt = 26) dX4_readPart_60 (by decide) (fun c_60_30 => ?_) (fun c_60_30 => ?_)
    · refine lv_iload_n hx hb dX4_readPart_84 rfl (lv_at hl 0 rfl) ?_
      refine lv_bipush (v := 26) hx hb dX4_readPart_85 (by decide) ?_
      refine sb_icmp_ne (tgt := 111) hx hb rfl (by decide : (26 : Int32).toInt = 26) dX4_readPart_87 (by decide) (fun c_87_41 => ?_) (fun h => by omega)
      refine lv_iload_n hx hb dX4_readPart_111 rfl (lv_at hl 0 rfl) ?_
      refine lv_bipush (v := 16) hx hb dX4_readPart_112 (by decide) ?_
      refine sb_icmp_lt (tgt := 139) hx hb rfl (by decide : (16 : Int32).toInt = 16) dX4_readPart_114 (by decide) (fun c_114_58 => ?_) (fun c_114_58 => ?_)
      · refine lv_aload_n hx hb dX4_readPart_139 rfl (lv_at hl 1 rfl) ?_
        refine lv_iconst (v := 1) hx hb dX4_readPart_140 (by decide) ?_
        refine ti_callVv (ci := 4) (av := [.int 1]) C hw (x_X4_refuse l D A cy hJ M hI t ht 1 B n rg hr) ⟨ml_X4_82, ym_X4_refuse, yv_X4_refuse, yi_X4_refuse, yc_X4_refuse⟩ yd_X4_refuse ob_1 (by decide) rfl rfl hl.1 (Nat.le_of_ble_eq_true rfl) ⟨by decide, by decide⟩ ⟨Nat.zero_le _, Nat.zero_le _⟩ dX4_readPart_141 (fun M_77 H locs hp_77 hw => ?_)
        obtain ⟨iM_77, q_78, q_79, q_80, q_81, p0r_76⟩ := hp_77
        have hlr_76_1 : (1 : Int32).toInt = 1 := by decide
        simp only [hlr_76_1] at p0r_76
        obtain ⟨g_82, eg_82⟩ : ∃ z : Nat → Int, z = pp_rf 1 rg := ⟨_, rfl⟩
        rw [← eg_82] at p0r_76
        have lg_82_0 : g_82 0 = (tI M_77 2 4).toInt := p0r_76.2.1.1
        have lg_82_1 : g_82 1 = (tI M_77 2 6).toInt := p0r_76.2.1.2.1
        have lg_82_4 : g_82 4 = (tI M_77 1 4).toInt := p0r_76.2.2.1.1
        have lg_82_7 : g_82 7 = (tI M_77 t 4).toInt := p0r_76.2.2.2.1.1
        have lg_82_8 : g_82 8 = (tI M_77 t 5).toInt := p0r_76.2.2.2.1.2.1
        have tq_83 : tq t td M_77 := tq_fr ht hq q_79 q_81
        exact hQ _ _ _ _ _ hw (⟨iM_77, (q_78), (f0_12 q_79), (q_80), (ot_12 ht q_79 q_81), (by rw [pe_7, if_neg (by omega)]; unfold pp_p0; rw [if_neg (by omega), if_neg (fun q => by omega), ← eg_82]; exact p0r_76), (by rw [qe_7, if_neg (by omega)]; unfold qq_p0; rw [if_neg (by omega), if_neg (fun q => by omega)]; exact tq_83)⟩) dX4_readPart_144
      · refine lv_iload_n hx hb dX4_readPart_117 rfl (lv_at hl 0 rfl) ?_
        refine lv_bipush (v := 21) hx hb dX4_readPart_118 (by decide) ?_
        refine sb_icmp_gt (tgt := 139) hx hb rfl (by decide : (21 : Int32).toInt = 21) dX4_readPart_120 (by decide) (fun c_120_59 => ?_) (fun c_120_59 => ?_)
        · refine lv_aload_n hx hb dX4_readPart_139 rfl (lv_at hl 1 rfl) ?_
          refine lv_iconst (v := 1) hx hb dX4_readPart_140 (by decide) ?_
          refine ti_callVv (ci := 4) (av := [.int 1]) C hw (x_X4_refuse l D A cy hJ M hI t ht 1 B n rg hr) ⟨ml_X4_82, ym_X4_refuse, yv_X4_refuse, yi_X4_refuse, yc_X4_refuse⟩ yd_X4_refuse ob_1 (by decide) rfl rfl hl.1 (Nat.le_of_ble_eq_true rfl) ⟨by decide, by decide⟩ ⟨Nat.zero_le _, Nat.zero_le _⟩ dX4_readPart_141 (fun M_85 H locs hp_85 hw => ?_)
          obtain ⟨iM_85, q_86, q_87, q_88, q_89, p0r_84⟩ := hp_85
          have hlr_84_1 : (1 : Int32).toInt = 1 := by decide
          simp only [hlr_84_1] at p0r_84
          obtain ⟨g_90, eg_90⟩ : ∃ z : Nat → Int, z = pp_rf 1 rg := ⟨_, rfl⟩
          rw [← eg_90] at p0r_84
          have lg_90_0 : g_90 0 = (tI M_85 2 4).toInt := p0r_84.2.1.1
          have lg_90_1 : g_90 1 = (tI M_85 2 6).toInt := p0r_84.2.1.2.1
          have lg_90_4 : g_90 4 = (tI M_85 1 4).toInt := p0r_84.2.2.1.1
          have lg_90_7 : g_90 7 = (tI M_85 t 4).toInt := p0r_84.2.2.2.1.1
          have lg_90_8 : g_90 8 = (tI M_85 t 5).toInt := p0r_84.2.2.2.1.2.1
          have tq_91 : tq t td M_85 := tq_fr ht hq q_87 q_89
          exact hQ _ _ _ _ _ hw (⟨iM_85, (q_86), (f0_12 q_87), (q_88), (ot_12 ht q_87 q_89), (by rw [pe_7, if_neg (by omega)]; unfold pp_p0; rw [if_neg (by omega), if_neg (fun q => by omega), ← eg_90]; exact p0r_84), (by rw [qe_7, if_neg (by omega)]; unfold qq_p0; rw [if_neg (by omega), if_neg (fun q => by omega)]; exact tq_91)⟩) dX4_readPart_144
        · refine lv_aload_n hx hb dX4_readPart_123 rfl (lv_at hl 1 rfl) ?_
          refine ti_get (ci := 4) (k := 2) (N := 6) (T := TX4) (v := .ref (A (ti_laws t j) 0)) C hw iw_4 rfl ob_1 (by decide) (by decide) fl_X4_154 rfl (ti_Tv (hL)) dX4_readPart_124 ?_
          refine lv_iload_n hx hb dX4_readPart_127 rfl (lv_at hl 0 rfl) ?_
          refine lv_ineg hx hb dX4_readPart_128 ?_
          refine lv_topi (fun x_61 ex_61 => ?_)
          have tx_61 : x_61.toInt = -x_1.toInt := i_neg ex_61 rfl (by omega)
          refine ti_callVv (ci := 1) (av := [.int x_61]) C hw (x_X1_add l D A cy hJ M hI t ht j hj x_61 (by first | omega | exact Or.inl (by decide) | exact Or.inr (by decide)) B n rg hr td hq) ⟨ml_X4_170, ym_X1_add, yv_X1_add, yi_X1_add, yc_X1_add⟩ yd_X1_add (ob_l ht hj) (by decide) rfl rfl hl.1 (Nat.le_of_ble_eq_true rfl) ⟨by decide, by decide⟩ ⟨Nat.zero_le _, Nat.zero_le _⟩ dX4_readPart_129 (fun M_63 H locs hp_63 hw => ?_)
          obtain ⟨iM_63, q_64, q_65, q_66, p0r_62, p1r_62⟩ := hp_63
          have lM_63_0 : rg 0 = (tI M_63 2 4).toInt := p0r_62.2.1.1
          have lM_63_1 : rg 1 = (tI M_63 2 6).toInt := p0r_62.2.1.2.1
          have lM_63_4 : rg 4 = (tI M_63 1 4).toInt := p0r_62.2.2.1.1
          have lM_63_7 : rg 7 = (tI M_63 t 4).toInt := p0r_62.2.2.2.1.1
          have lM_63_8 : rg 8 = (tI M_63 t 5).toInt := p0r_62.2.2.2.1.2.1
          obtain ⟨d_67, ed_67⟩ : ∃ z : Nat → Int, z = qa j x_61.toInt td := ⟨_, rfl⟩
          rw [← ed_67] at p1r_62
          refine lv_aload_n hx hb dX4_readPart_132 rfl (lv_at hl 1 rfl) ?_
          refine ti_callVvE (ci := 4) (av := []) C hE hw (x_X4_knot l D A cy hJ M_63 iM_63 t ht ((tT_fr q_64).trans hT) B n rg p0r_62 d_67 p1r_62) ⟨ml_X4_167, ym_X4_knot, yv_X4_knot, yi_X4_knot, yc_X4_knot⟩ yd_X4_knot ob_1 (by decide) rfl rfl hl.1 (Nat.le_of_ble_eq_true rfl) ⟨by decide, by decide⟩ ⟨Nat.zero_le _, Nat.zero_le _⟩ dX4_readPart_133 (fun M_69 H locs hp_69 hw => ?_)
          obtain ⟨iM_69, q_70, q_71, q_72, q_73, q_74, p0r_68, p1r_68⟩ := hp_69
          obtain ⟨g_75, eg_75⟩ : ∃ z : Nat → Int, z = pp_kn B n rg := ⟨_, rfl⟩
          rw [← eg_75] at p0r_68
          have lg_75_0 : g_75 0 = (tI M_69 2 4).toInt := p0r_68.2.1.1
          have lg_75_1 : g_75 1 = (tI M_69 2 6).toInt := p0r_68.2.1.2.1
          have lg_75_4 : g_75 4 = (tI M_69 1 4).toInt := p0r_68.2.2.1.1
          have lg_75_7 : g_75 7 = (tI M_69 t 4).toInt := p0r_68.2.2.2.1.1
          have lg_75_8 : g_75 8 = (tI M_69 t 5).toInt := p0r_68.2.2.2.1.2.1
          refine lv_goto (tgt := 144) hx hb dX4_readPart_136 (by decide) ?_
          exact hQ _ _ _ _ _ hw (⟨iM_69, ((q_70).trans q_64), (f0.trans q_71 (f0_x q_65)), ((q_72).trans ((q_65 1).2.1)), (ot.trans q_73 q_66), (by rw [pe_7, if_neg (by omega)]; unfold pp_p0; rw [if_neg (by omega), if_pos ⟨by omega, by omega⟩, ← eg_75]; exact p0r_68), (by rw [qe_7, if_neg (by omega)]; unfold qq_p0; rw [if_neg (by omega), if_pos ⟨by omega, by omega⟩, show -(rg 0) = x_61.toInt by omega, ← ed_67]; exact p1r_68)⟩) dX4_readPart_144
    · refine lv_aload_n hx hb dX4_readPart_63 rfl (lv_at hl 1 rfl) ?_
      refine ti_get (ci := 4) (k := 0) (N := 6) (T := TX4) (v := .ref (A 2 0)) C hw iw_4 rfl ob_1 (by decide) (by decide) fl_X4_12 rfl rfl dX4_readPart_64 ?_
      refine ti_get (ci := 7) (k := 6) (N := 7) (T := TX7) C hw iw_7 rfl ob_2 (by decide) (by decide) fl_X4_95 rfl rfl dX4_readPart_67 ?_
      refine lv_topi (fun x_32 ex_32 => ?_)
      have bx_32 : 0 ≤ x_32.toInt ∧ x_32.toInt ≤ 2147483647 := cI_rd hI ob_2.1 ex_32
      have ux_32 : (tI M 2 6).toInt = x_32.toInt := by rw [ex_32]
      refine lv_sipush (v := 9999) hx hb dX4_readPart_70 (by decide) ?_
      refine sb_icmp_le (tgt := 84) hx hb rfl (by decide : (9999 : Int32).toInt = 9999) dX4_readPart_73 (by decide) (fun c_73_32 => ?_) (fun c_73_32 => ?_)
      · refine lv_iload_n hx hb dX4_readPart_84 rfl (lv_at hl 0 rfl) ?_
        refine lv_bipush (v := 26) hx hb dX4_readPart_85 (by decide) ?_
        refine sb_icmp_ne (tgt := 111) hx hb rfl (by decide : (26 : Int32).toInt = 26) dX4_readPart_87 (by decide) (fun h => by omega) (fun c_87_42 => ?_)
        refine lv_aload_n hx hb dX4_readPart_90 rfl (lv_at hl 1 rfl) ?_
        refine ti_get (ci := 4) (k := 2) (N := 6) (T := TX4) (v := .ref (A (ti_laws t j) 0)) C hw iw_4 rfl ob_1 (by decide) (by decide) fl_X4_154 rfl (ti_Tv (hL)) dX4_readPart_91 ?_
        refine lv_aload_n hx hb dX4_readPart_94 rfl (lv_at hl 1 rfl) ?_
        refine ti_get (ci := 4) (k := 0) (N := 6) (T := TX4) (v := .ref (A 2 0)) C hw iw_4 rfl ob_1 (by decide) (by decide) fl_X4_12 rfl rfl dX4_readPart_95 ?_
        refine ti_get (ci := 7) (k := 6) (N := 7) (T := TX7) C hw iw_7 rfl ob_2 (by decide) (by decide) fl_X4_95 rfl rfl dX4_readPart_98 ?_
        refine ti_top (y := x_32) (ex_32.symm) ?_
        have u_44 : (tI M 2 6).toInt = (x_32 : Int32).toInt := by rw [(ex_32.symm)]
        refine ti_callVv (ci := 1) (av := [.int x_32]) C hw (x_X1_add l D A cy hJ M hI t ht j hj x_32 (by first | omega | exact Or.inl (by decide) | exact Or.inr (by decide)) B n rg hr td hq) ⟨ml_X4_170, ym_X1_add, yv_X1_add, yi_X1_add, yc_X1_add⟩ yd_X1_add (ob_l ht hj) (by decide) rfl rfl hl.1 (Nat.le_of_ble_eq_true rfl) ⟨by decide, by decide⟩ ⟨Nat.zero_le _, Nat.zero_le _⟩ dX4_readPart_101 (fun M_46 H locs hp_46 hw => ?_)
        obtain ⟨iM_46, q_47, q_48, q_49, p0r_45, p1r_45⟩ := hp_46
        have lM_46_0 : rg 0 = (tI M_46 2 4).toInt := p0r_45.2.1.1
        have lM_46_1 : rg 1 = (tI M_46 2 6).toInt := p0r_45.2.1.2.1
        have lM_46_4 : rg 4 = (tI M_46 1 4).toInt := p0r_45.2.2.1.1
        have lM_46_7 : rg 7 = (tI M_46 t 4).toInt := p0r_45.2.2.2.1.1
        have lM_46_8 : rg 8 = (tI M_46 t 5).toInt := p0r_45.2.2.2.1.2.1
        obtain ⟨d_50, ed_50⟩ : ∃ z : Nat → Int, z = qa j x_32.toInt td := ⟨_, rfl⟩
        rw [← ed_50] at p1r_45
        refine lv_aload_n hx hb dX4_readPart_104 rfl (lv_at hl 1 rfl) ?_
        refine ti_callVvE (ci := 4) (av := []) C hE hw (x_X4_knot l D A cy hJ M_46 iM_46 t ht ((tT_fr q_47).trans hT) B n rg p0r_45 d_50 p1r_45) ⟨ml_X4_167, ym_X4_knot, yv_X4_knot, yi_X4_knot, yc_X4_knot⟩ yd_X4_knot ob_1 (by decide) rfl rfl hl.1 (Nat.le_of_ble_eq_true rfl) ⟨by decide, by decide⟩ ⟨Nat.zero_le _, Nat.zero_le _⟩ dX4_readPart_105 (fun M_52 H locs hp_52 hw => ?_)
        obtain ⟨iM_52, q_53, q_54, q_55, q_56, q_57, p0r_51, p1r_51⟩ := hp_52
        obtain ⟨g_58, eg_58⟩ : ∃ z : Nat → Int, z = pp_kn B n rg := ⟨_, rfl⟩
        rw [← eg_58] at p0r_51
        have lg_58_0 : g_58 0 = (tI M_52 2 4).toInt := p0r_51.2.1.1
        have lg_58_1 : g_58 1 = (tI M_52 2 6).toInt := p0r_51.2.1.2.1
        have lg_58_4 : g_58 4 = (tI M_52 1 4).toInt := p0r_51.2.2.1.1
        have lg_58_7 : g_58 7 = (tI M_52 t 4).toInt := p0r_51.2.2.2.1.1
        have lg_58_8 : g_58 8 = (tI M_52 t 5).toInt := p0r_51.2.2.2.1.2.1
        refine lv_goto (tgt := 144) hx hb dX4_readPart_108 (by decide) ?_
        exact hQ _ _ _ _ _ hw (⟨iM_52, ((q_53).trans q_47), (f0.trans q_54 (f0_x q_48)), ((q_55).trans ((q_48 1).2.1)), (ot.trans q_56 q_49), (by rw [pe_7, if_neg (by omega)]; unfold pp_p0; rw [if_pos (by omega), if_neg (by omega), ← eg_58]; exact p0r_51), (by rw [qe_7, if_neg (by omega)]; unfold qq_p0; rw [if_pos (by omega), if_neg (by omega), show rg 1 = x_32.toInt by omega, ← ed_50]; exact p1r_51)⟩) dX4_readPart_144
      · refine lv_aload_n hx hb dX4_readPart_76 rfl (lv_at hl 1 rfl) ?_
        refine lv_iconst (v := 2) hx hb dX4_readPart_77 (by decide) ?_
        refine ti_callVv (ci := 4) (av := [.int 2]) C hw (x_X4_refuse l D A cy hJ M hI t ht 2 B n rg hr) ⟨ml_X4_82, ym_X4_refuse, yv_X4_refuse, yi_X4_refuse, yc_X4_refuse⟩ yd_X4_refuse ob_1 (by decide) rfl rfl hl.1 (Nat.le_of_ble_eq_true rfl) ⟨by decide, by decide⟩ ⟨Nat.zero_le _, Nat.zero_le _⟩ dX4_readPart_78 (fun M_35 H locs hp_35 hw => ?_)
        obtain ⟨iM_35, q_36, q_37, q_38, q_39, p0r_34⟩ := hp_35
        have hlr_34_2 : (2 : Int32).toInt = 2 := by decide
        simp only [hlr_34_2] at p0r_34
        obtain ⟨g_40, eg_40⟩ : ∃ z : Nat → Int, z = pp_rf 2 rg := ⟨_, rfl⟩
        rw [← eg_40] at p0r_34
        have lg_40_0 : g_40 0 = (tI M_35 2 4).toInt := p0r_34.2.1.1
        have lg_40_1 : g_40 1 = (tI M_35 2 6).toInt := p0r_34.2.1.2.1
        have lg_40_4 : g_40 4 = (tI M_35 1 4).toInt := p0r_34.2.2.1.1
        have lg_40_7 : g_40 7 = (tI M_35 t 4).toInt := p0r_34.2.2.2.1.1
        have lg_40_8 : g_40 8 = (tI M_35 t 5).toInt := p0r_34.2.2.2.1.2.1
        have tq_41 : tq t td M_35 := tq_fr ht hq q_37 q_39
        refine lv_goto (tgt := 144) hx hb dX4_readPart_81 (by decide) ?_
        exact hQ _ _ _ _ _ hw (⟨iM_35, (q_36), (f0_12 q_37), (q_38), (ot_12 ht q_37 q_39), (by rw [pe_7, if_neg (by omega)]; unfold pp_p0; rw [if_pos (by omega), if_pos (by omega), ← eg_40]; exact p0r_34), (by rw [qe_7, if_neg (by omega)]; unfold qq_p0; rw [if_pos (by omega), if_pos (by omega)]; exact tq_41)⟩) dX4_readPart_144
  · refine lv_iload_n hx hb dX4_readPart_14 rfl (lv_at hl 2 rfl) ?_
    refine lv_bipush (v := 8) hx hb dX4_readPart_15 (by decide) ?_
    refine sb_icmp_lt (tgt := 28) hx hb (by decide : (1 : Int32).toInt = 1) (by decide : (8 : Int32).toInt = 8) dX4_readPart_17 (by decide) (fun c_17_2 => ?_) (fun h => absurd h (by decide))
    refine lv_iload_n hx hb dX4_readPart_28 rfl (lv_at hl 0 rfl) ?_
    refine lv_bipush (v := 30) hx hb dX4_readPart_29 (by decide) ?_
    refine sb_icmp_ne (tgt := 57) hx hb rfl (by decide : (30 : Int32).toInt = 30) dX4_readPart_31 (by decide) (fun h => by omega) (fun c_31_4 => ?_)
    refine lv_aload_n hx hb dX4_readPart_34 rfl (lv_at hl 1 rfl) ?_
    refine ti_get (ci := 4) (k := 0) (N := 6) (T := TX4) (v := .ref (A 2 0)) C hw iw_4 rfl ob_1 (by decide) (by decide) fl_X4_12 rfl rfl dX4_readPart_35 ?_
    refine ti_callVvE (ci := 7) (av := []) C hE hw (x_X7_advance l D A cy hJ M hI ) ⟨ml_X4_92, ym_X7_advance, yv_X7_advance, yi_X7_advance, yc_X7_advance⟩ yd_X7_advance ob_2 (by decide) rfl rfl hl.1 (Nat.le_of_ble_eq_true rfl) ⟨by decide, by decide⟩ ⟨Nat.zero_le _, Nat.zero_le _⟩ dX4_readPart_38 (fun M_7 H locs hp_7 hw => ?_)
    obtain ⟨iM_7, q_8, q_9, q_10, q_11, p0r_6, p1r_6, p2r_6, p3r_6⟩ := hp_7
    have hs_12 := rC_av ht hr q_11 q_9 p0r_6 p1r_6 p2r_6 p3r_6
    obtain ⟨g_13, eg_13⟩ : ∃ z : Nat → Int, z = pp_av B n rg := ⟨_, rfl⟩
    rw [← eg_13] at hs_12
    have lg_13_0 : g_13 0 = (tI M_7 2 4).toInt := hs_12.2.1.1
    have lg_13_1 : g_13 1 = (tI M_7 2 6).toInt := hs_12.2.1.2.1
    have lg_13_4 : g_13 4 = (tI M_7 1 4).toInt := hs_12.2.2.1.1
    have lg_13_7 : g_13 7 = (tI M_7 t 4).toInt := hs_12.2.2.2.1.1
    have lg_13_8 : g_13 8 = (tI M_7 t 5).toInt := hs_12.2.2.2.1.2.1
    have tq_14 : tq t td M_7 := tq_fr ht hq (o2_12 q_9) q_11.1
    refine lv_aload_n hx hb dX4_readPart_41 rfl (lv_at hl 1 rfl) ?_
    refine lv_iload_n hx hb dX4_readPart_42 rfl (lv_at hl 2 rfl) ?_
    refine lv_iconst (v := 1) hx hb dX4_readPart_43 (by decide) ?_
    refine lv_iadd hx hb dX4_readPart_44 ?_
    refine ti_top (y := 2) (by decide) ?_
    refine ti_callVvE (ci := 4) (av := [.int 2]) C hE hw (x_X4_readEither_2 l D A cy hJ M_7 iM_7 t ht ((tT_fr q_8).trans hT) j hj ((tT_fr q_8).trans hL) B n g_13 hs_12 td tq_14) ⟨ml_X4_158, ym_X4_readEither, yv_X4_readEither, yi_X4_readEither, yc_X4_readEither⟩ yd_X4_readEither ob_1 (by decide) rfl rfl hl.1 (Nat.le_of_ble_eq_true rfl) ⟨by decide, by decide⟩ ⟨Nat.zero_le _, Nat.zero_le _⟩ dX4_readPart_45 (fun M_16 H locs hp_16 hw => ?_)
    obtain ⟨iM_16, q_17, q_18, q_19, q_20, p0r_15, p1r_15⟩ := hp_16
    obtain ⟨g_21, eg_21⟩ : ∃ z : Nat → Int, z = pp_ei B n (pp_pt B n 6) g_13 := ⟨_, rfl⟩
    rw [← eg_21] at p0r_15
    have lg_21_0 : g_21 0 = (tI M_16 2 4).toInt := p0r_15.2.1.1
    have lg_21_1 : g_21 1 = (tI M_16 2 6).toInt := p0r_15.2.1.2.1
    have lg_21_4 : g_21 4 = (tI M_16 1 4).toInt := p0r_15.2.2.1.1
    have lg_21_7 : g_21 7 = (tI M_16 t 4).toInt := p0r_15.2.2.2.1.1
    have lg_21_8 : g_21 8 = (tI M_16 t 5).toInt := p0r_15.2.2.2.1.2.1
    obtain ⟨d_22, ed_22⟩ : ∃ z : Nat → Int, z = qq_ei B n j (pp_pt B n 6) (qq_pt B n j 6) g_13 td := ⟨_, rfl⟩
    rw [← ed_22] at p1r_15
    refine lv_aload_n hx hb dX4_readPart_48 rfl (lv_at hl 1 rfl) ?_
    refine lv_bipush (v := 31) hx hb dX4_readPart_49 (by decide) ?_
    refine ti_callVvE (ci := 4) (av := [.int 31]) C hE hw (x_X4_take l D A cy hJ M_16 iM_16 t ht 31 B n g_21 p0r_15) ⟨ml_X4_85, ym_X4_take, yv_X4_take, yi_X4_take, yc_X4_take⟩ yd_X4_take ob_1 (by decide) rfl rfl hl.1 (Nat.le_of_ble_eq_true rfl) ⟨by decide, by decide⟩ ⟨Nat.zero_le _, Nat.zero_le _⟩ dX4_readPart_51 (fun M_24 H locs hp_24 hw => ?_)
    obtain ⟨iM_24, q_25, q_26, q_27, q_28, p0r_23⟩ := hp_24
    have hlr_23_31 : (31 : Int32).toInt = 31 := by decide
    simp only [hlr_23_31] at p0r_23
    obtain ⟨g_29, eg_29⟩ : ∃ z : Nat → Int, z = pp_tk B n 31 g_21 := ⟨_, rfl⟩
    rw [← eg_29] at p0r_23
    have lg_29_0 : g_29 0 = (tI M_24 2 4).toInt := p0r_23.2.1.1
    have lg_29_1 : g_29 1 = (tI M_24 2 6).toInt := p0r_23.2.1.2.1
    have lg_29_4 : g_29 4 = (tI M_24 1 4).toInt := p0r_23.2.2.1.1
    have lg_29_7 : g_29 7 = (tI M_24 t 4).toInt := p0r_23.2.2.2.1.1
    have lg_29_8 : g_29 8 = (tI M_24 t 5).toInt := p0r_23.2.2.2.1.2.1
    have tq_30 : tq t d_22 M_24 := tq_fr ht p1r_15 q_26 q_28
    refine lv_goto (tgt := 144) hx hb dX4_readPart_54 (by decide) ?_
    exact hQ _ _ _ _ _ hw (⟨iM_24, ((q_25).trans ((q_17).trans q_8)), (f0.trans (f0_12 q_26) (f0.trans q_18 (f0_12 (o2_12 q_9)))), ((q_27).trans ((q_19).trans q_10)), (ot.trans (ot_12 ht q_26 q_28) (ot.trans q_20 (ot_12 ht (o2_12 q_9) q_11.1))), (by rw [pe_7, if_pos (by omega), ← eg_13, ← eg_21, ← eg_29]; exact p0r_23), (by rw [qe_7, if_pos (by omega), ← eg_13, ← ed_22]; exact tq_30)⟩) dX4_readPart_144
set_option maxHeartbeats 4000000 in
set_option maxRecDepth 100000 in
theorem x_X4_readProduct_1 (l : Launch) (D : va_G) (A : Nat → Nat → Nat) (cy : Nat → ClassId) (hJ : ti_inj ti_LT A) (M : ti_M) (hI : cI Tc M) (t : Nat) (ht : t = 3 ∨ t = 4) (hT : tT M 1 1 = some t) (j : Nat) (hj : j < 3) (hL : tT M 1 2 = some (ti_laws t j)) (B : Nat → Int) (n : Nat) (rg : Nat → Int) (hr : rC B n t rg M) (td : Nat → Int) (hq : tq t td M) : ti_KvE l yX4_readProduct cX4_readProduct 4 58 ti_LT D A cy M [.ref (A 1 0), .int 1] (fun M2 => cI Tc M2 ∧ M2.2.2.2 = M.2.2.2 ∧ f0 M2 M ∧ tI M2 2 1 = tI M 2 1 ∧ ot t M2 M ∧ rC B n t (pp_pd B n (pp_pt B n 7) rg) M2 ∧ tq t (qq_pd B n j (pp_pt B n 7) (qq_pt B n j 7) rg td) M2) := by
  refine ti_eVE yp_X4_readProduct hJ ti_LT_nd (Nat.le_of_ble_eq_true rfl) ?_
  intro p e s m args below meth c Q H0 C hE hQ hw ls hl
  have hx := C.1
  have hb := C.2.1
  have hl : lv_has ls 4 [(0, .ref (A 1 0)), (1, .int 1)] := hl
  have l0 : rg 0 = (tI M 2 4).toInt := hr.2.1.1
  have l1 : rg 1 = (tI M 2 6).toInt := hr.2.1.2.1
  have l2 : rg 2 = (tI M 2 5).toInt := hr.2.1.2.2.1
  have l3 : rg 3 = (tI M 2 3).toInt := hr.2.1.2.2.2
  have l4 : rg 4 = (tI M 1 4).toInt := hr.2.2.1.1
  have l5 : rg 5 = (tI M 1 5).toInt := hr.2.2.1.2.1
  have l7 : rg 7 = (tI M t 4).toInt := hr.2.2.2.1.1
  have l8 : rg 8 = (tI M t 5).toInt := hr.2.2.2.1.2.1
  have l9 : rg 9 = (tI M t 3).toInt := hr.2.2.2.1.2.2
  refine lv_aload_n hx hb dX4_readProduct_0 rfl (lv_at hl 0 rfl) ?_
  refine lv_iload_n hx hb dX4_readProduct_1 rfl (lv_at hl 1 rfl) ?_
  refine ti_callVvE (ci := 4) (av := [.int 1]) C hE hw (x_X4_readPart_1 l D A cy hJ M hI t ht (hT) j hj (hL) B n rg hr td hq) ⟨ml_X4_187, ym_X4_readPart, yv_X4_readPart, yi_X4_readPart, yc_X4_readPart⟩ yd_X4_readPart ob_1 (by decide) rfl rfl hl.1 (Nat.le_of_ble_eq_true rfl) ⟨by decide, by decide⟩ ⟨Nat.zero_le _, Nat.zero_le _⟩ dX4_readProduct_2 (fun M_2 H locs hp_2 hw => ?_)
  obtain ⟨iM_2, q_3, q_4, q_5, q_6, p0r_1, p1r_1⟩ := hp_2
  obtain ⟨g_7, eg_7⟩ : ∃ z : Nat → Int, z = pp_pt B n 7 rg := ⟨_, rfl⟩
  rw [← eg_7] at p0r_1
  have lg_7_0 : g_7 0 = (tI M_2 2 4).toInt := p0r_1.2.1.1
  have lg_7_1 : g_7 1 = (tI M_2 2 6).toInt := p0r_1.2.1.2.1
  have lg_7_4 : g_7 4 = (tI M_2 1 4).toInt := p0r_1.2.2.1.1
  have lg_7_7 : g_7 7 = (tI M_2 t 4).toInt := p0r_1.2.2.2.1.1
  have lg_7_8 : g_7 8 = (tI M_2 t 5).toInt := p0r_1.2.2.2.1.2.1
  obtain ⟨d_8, ed_8⟩ : ∃ z : Nat → Int, z = qq_pt B n j 7 rg td := ⟨_, rfl⟩
  rw [← ed_8] at p1r_1
  refine lv_iconst (v := 0) hx hb dX4_readProduct_5 (by decide) ?_
  refine lv_istore_n (lv' := [(2, .int 0), (0, .ref (A 1 0)), (1, .int 1)]) hx hb dX4_readProduct_6 rfl hl (by decide) rfl (fun ls hl => ?_)
  have hl_7_24 : ∀ (n_25 : Nat) (x_9 : Int32) (M_12 : ti_M) (g_19 : Nat → Int) (d_21 : Nat → Int) (H : Heap) (locs : List Loc) (ls : Array Slot), (64 - x_9.toInt : Int).toNat < n_25 → (0 ≤ x_9.toInt) → (x_9.toInt ≤ 64) → (cI Tc M_12) → (M_12.2.2.2 = M.2.2.2) → (f0 M_12 M) → (tI M_12 2 1 = tI M 2 1) → (ot t M_12 M) → (tT M_12 1 1 = (some t)) → (tT M_12 1 2 = (some (ti_laws t j))) → (rC B n t g_19 M_12) → (tq t d_21 M_12) → (pp_lp pp_qT (fun s => (pp_pt B n 7) (pp_kn B n s)) 64 g_7 = pp_lp pp_qT (fun s => (pp_pt B n 7) (pp_kn B n s)) (64 - (x_9.toInt).toNat) g_19) → (qq_lp pp_qT (fun s => (pp_pt B n 7) (pp_kn B n s)) (fun s td => qa j (-(s 0)) ((qq_pt B n j 7) (pp_kn B n s) td)) 64 g_7 d_8 = qq_lp pp_qT (fun s => (pp_pt B n 7) (pp_kn B n s)) (fun s td => qa j (-(s 0)) ((qq_pt B n j 7) (pp_kn B n s) td)) (64 - (x_9.toInt).toNat) g_19 d_21) → ti_H ti_LT D A cy H0 M_12 H locs → lv_has ls 4 [(2, .int x_9), (0, .ref (A 1 0)), (1, .int 1)] → W p l e (ti_rm 58) s m args below meth c H locs 0 0 Q (F0 m 7 ls []) := by
    intro n_25
    induction n_25 with
    | zero => intro x_9 M_12 g_19 d_21 H locs ls hf_25; exact absurd hf_25 (Nat.not_lt_zero _)
    | succ n_25 ih_25 =>
      intro x_9 M_12 g_19 d_21 H locs ls hf_25 b_10 b_11 iM_12 f_13 f_14 f_15 f_16 f_17 f_18 hs_20 tq_22 j_23 j_24 hw hl
      have lg_19_0 : g_19 0 = (tI M_12 2 4).toInt := hs_20.2.1.1
      have lg_19_1 : g_19 1 = (tI M_12 2 6).toInt := hs_20.2.1.2.1
      have lg_19_4 : g_19 4 = (tI M_12 1 4).toInt := hs_20.2.2.1.1
      have lg_19_7 : g_19 7 = (tI M_12 t 4).toInt := hs_20.2.2.2.1.1
      have lg_19_8 : g_19 8 = (tI M_12 t 5).toInt := hs_20.2.2.2.1.2.1
      refine lv_iload_n hx hb dX4_readProduct_7 rfl (lv_at hl 0 rfl) ?_
      refine lv_bipush (v := 64) hx hb dX4_readProduct_8 (by decide) ?_
      refine sb_icmp_ge (tgt := 69) hx hb rfl (by decide : (64 : Int32).toInt = 64) dX4_readProduct_10 (by decide) (fun c_10_25 => ?_) (fun c_10_25 => ?_)
      · exact hQ _ _ _ _ _ hw (⟨iM_12, (f_13), f_14, (f_15), f_16, (by unfold pp_pd; rw [← eg_7, j_23, lp_end (P := pp_qT) (f := 64 - x_9.toInt.toNat) (s := g_19) (Or.inl (by omega))]; exact hs_20), (by unfold qq_pd; rw [← eg_7, ← ed_8, j_24, qlp_end (P := pp_qT) (f := 64 - x_9.toInt.toNat) (s := g_19) (Or.inl (by omega))]; exact tq_22)⟩) dX4_readProduct_69
      · refine lv_aload_n hx hb dX4_readProduct_13 rfl (lv_at hl 1 rfl) ?_
        refine ti_get (ci := 4) (k := 0) (N := 6) (T := TX4) (v := .ref (A 2 0)) C hw iw_4 rfl ob_1 (by decide) (by decide) fl_X4_12 rfl rfl dX4_readProduct_14 ?_
        refine ti_get (ci := 7) (k := 4) (N := 7) (T := TX7) C hw iw_7 rfl ob_2 (by decide) (by decide) fl_X4_41 rfl rfl dX4_readProduct_17 ?_
        refine lv_topi (fun x_27 ex_27 => ?_)
        have bx_27 : 0 ≤ x_27.toInt ∧ x_27.toInt ≤ 41 := cI_rd iM_12 ob_2.1 ex_27
        have ux_27 : (tI M_12 2 4).toInt = x_27.toInt := by rw [ex_27]
        refine lv_bipush (v := 40) hx hb dX4_readProduct_20 (by decide) ?_
        refine sb_icmp_eq (tgt := 37) hx hb rfl (by decide : (40 : Int32).toInt = 40) dX4_readProduct_22 (by decide) (fun c_22_27 => ?_) (fun c_22_27 => ?_)
        · refine lv_aload_n hx hb dX4_readProduct_37 rfl (lv_at hl 1 rfl) ?_
          refine ti_get (ci := 4) (k := 0) (N := 6) (T := TX4) (v := .ref (A 2 0)) C hw iw_4 rfl ob_1 (by decide) (by decide) fl_X4_12 rfl rfl dX4_readProduct_38 ?_
          refine ti_get (ci := 7) (k := 4) (N := 7) (T := TX7) C hw iw_7 rfl ob_2 (by decide) (by decide) fl_X4_41 rfl rfl dX4_readProduct_41 ?_
          refine ti_top (y := x_27) (ex_27.symm) ?_
          have u_31 : (tI M_12 2 4).toInt = (x_27 : Int32).toInt := by rw [(ex_27.symm)]
          refine lv_istore_n (lv' := [(3, .int x_27), (2, .int x_9), (0, .ref (A 1 0)), (1, .int 1)]) hx hb dX4_readProduct_44 rfl hl (by decide) rfl (fun ls hl => ?_)
          refine lv_aload_n hx hb dX4_readProduct_45 rfl (lv_at hl 2 rfl) ?_
          refine ti_callVvE (ci := 4) (av := []) C hE hw (x_X4_knot l D A cy hJ M_12 iM_12 t ht (f_17) B n g_19 hs_20 d_21 tq_22) ⟨ml_X4_167, ym_X4_knot, yv_X4_knot, yi_X4_knot, yc_X4_knot⟩ yd_X4_knot ob_1 (by decide) rfl rfl hl.1 (Nat.le_of_ble_eq_true rfl) ⟨by decide, by decide⟩ ⟨Nat.zero_le _, Nat.zero_le _⟩ dX4_readProduct_46 (fun M_33 H locs hp_33 hw => ?_)
          obtain ⟨iM_33, q_34, q_35, q_36, q_37, q_38, p0r_32, p1r_32⟩ := hp_33
          obtain ⟨g_39, eg_39⟩ : ∃ z : Nat → Int, z = pp_kn B n g_19 := ⟨_, rfl⟩
          rw [← eg_39] at p0r_32
          have lg_39_0 : g_39 0 = (tI M_33 2 4).toInt := p0r_32.2.1.1
          have lg_39_1 : g_39 1 = (tI M_33 2 6).toInt := p0r_32.2.1.2.1
          have lg_39_4 : g_39 4 = (tI M_33 1 4).toInt := p0r_32.2.2.1.1
          have lg_39_7 : g_39 7 = (tI M_33 t 4).toInt := p0r_32.2.2.2.1.1
          have lg_39_8 : g_39 8 = (tI M_33 t 5).toInt := p0r_32.2.2.2.1.2.1
          refine lv_aload_n hx hb dX4_readProduct_49 rfl (lv_at hl 2 rfl) ?_
          refine lv_iload_n hx hb dX4_readProduct_50 rfl (lv_at hl 3 rfl) ?_
          refine ti_callVvE (ci := 4) (av := [.int 1]) C hE hw (x_X4_readPart_1 l D A cy hJ M_33 iM_33 t ht ((tT_fr q_34).trans f_17) j hj ((tT_fr q_34).trans f_18) B n g_39 p0r_32 d_21 p1r_32) ⟨ml_X4_187, ym_X4_readPart, yv_X4_readPart, yi_X4_readPart, yc_X4_readPart⟩ yd_X4_readPart ob_1 (by decide) rfl rfl hl.1 (Nat.le_of_ble_eq_true rfl) ⟨by decide, by decide⟩ ⟨Nat.zero_le _, Nat.zero_le _⟩ dX4_readProduct_51 (fun M_41 H locs hp_41 hw => ?_)
          obtain ⟨iM_41, q_42, q_43, q_44, q_45, p0r_40, p1r_40⟩ := hp_41
          obtain ⟨g_46, eg_46⟩ : ∃ z : Nat → Int, z = pp_pt B n 7 g_39 := ⟨_, rfl⟩
          rw [← eg_46] at p0r_40
          have lg_46_0 : g_46 0 = (tI M_41 2 4).toInt := p0r_40.2.1.1
          have lg_46_1 : g_46 1 = (tI M_41 2 6).toInt := p0r_40.2.1.2.1
          have lg_46_4 : g_46 4 = (tI M_41 1 4).toInt := p0r_40.2.2.1.1
          have lg_46_7 : g_46 7 = (tI M_41 t 4).toInt := p0r_40.2.2.2.1.1
          have lg_46_8 : g_46 8 = (tI M_41 t 5).toInt := p0r_40.2.2.2.1.2.1
          obtain ⟨d_47, ed_47⟩ : ∃ z : Nat → Int, z = qq_pt B n j 7 g_39 d_21 := ⟨_, rfl⟩
          rw [← ed_47] at p1r_40
          refine lv_aload_n hx hb dX4_readProduct_54 rfl (lv_at hl 2 rfl) ?_
          refine ti_get (ci := 4) (k := 2) (N := 6) (T := TX4) (v := .ref (A (ti_laws t j) 0)) C hw iw_4 rfl ob_1 (by decide) (by decide) fl_X4_154 rfl (ti_Tv ((tT_fr q_42).trans ((tT_fr q_34).trans f_18))) dX4_readProduct_55 ?_
          refine lv_iload_n hx hb dX4_readProduct_58 rfl (lv_at hl 0 rfl) ?_
          refine lv_ineg hx hb dX4_readProduct_59 ?_
          refine lv_topi (fun x_48 ex_48 => ?_)
          have tx_48 : x_48.toInt = -x_27.toInt := i_neg ex_48 rfl (by omega)
          refine ti_callVv (ci := 1) (av := [.int x_48]) C hw (x_X1_add l D A cy hJ M_41 iM_41 t ht j hj x_48 (by first | omega | exact Or.inl (by decide) | exact Or.inr (by decide)) B n g_46 p0r_40 d_47 p1r_40) ⟨ml_X4_170, ym_X1_add, yv_X1_add, yi_X1_add, yc_X1_add⟩ yd_X1_add (ob_l ht hj) (by decide) rfl rfl hl.1 (Nat.le_of_ble_eq_true rfl) ⟨by decide, by decide⟩ ⟨Nat.zero_le _, Nat.zero_le _⟩ dX4_readProduct_60 (fun M_50 H locs hp_50 hw => ?_)
          obtain ⟨iM_50, q_51, q_52, q_53, p0r_49, p1r_49⟩ := hp_50
          have lM_50_0 : g_46 0 = (tI M_50 2 4).toInt := p0r_49.2.1.1
          have lM_50_1 : g_46 1 = (tI M_50 2 6).toInt := p0r_49.2.1.2.1
          have lM_50_4 : g_46 4 = (tI M_50 1 4).toInt := p0r_49.2.2.1.1
          have lM_50_7 : g_46 7 = (tI M_50 t 4).toInt := p0r_49.2.2.2.1.1
          have lM_50_8 : g_46 8 = (tI M_50 t 5).toInt := p0r_49.2.2.2.1.2.1
          obtain ⟨d_54, ed_54⟩ : ∃ z : Nat → Int, z = qa j x_48.toInt d_47 := ⟨_, rfl⟩
          rw [← ed_54] at p1r_49
          obtain ⟨x_55, ex_55⟩ : ∃ z : Int32, z = x_9 + 1 := ⟨_, rfl⟩
          have tx_55 : x_55.toInt = x_9.toInt + 1 := i_add ex_55 rfl (by decide) (by omega) (by omega)
          refine lv_iinc (v := x_55) (lv' := [(2, .int x_55), (3, .int x_27), (0, .ref (A 1 0)), (1, .int 1)]) hx hb dX4_readProduct_63 hl (k := 1) rfl (by rw [ex_55]; rfl) (by decide) rfl (fun ls hl => ?_)
          refine lv_goto (tgt := 7) hx hb dX4_readProduct_66 (by decide) ?_
          exact ih_25 x_55 M_50 g_46 d_54 _ _ _ (by omega) (by first | omega | decide) (by first | omega | decide) iM_50 ((q_51).trans ((q_42).trans ((q_34).trans f_13))) (f0.trans (f0_x q_52) (f0.trans q_43 (f0.trans q_35 f_14))) (((q_52 1).2.1).trans ((q_44).trans ((q_36).trans f_15))) (ot.trans q_53 (ot.trans q_45 (ot.trans q_37 f_16))) ((tT_fr q_51).trans ((tT_fr q_42).trans ((tT_fr q_34).trans f_17))) ((tT_fr q_51).trans ((tT_fr q_42).trans ((tT_fr q_34).trans f_18))) p0r_49 p1r_49 (j_23.trans (lp_step (decide_eq_true (by omega)) (by rw [eg_46, eg_39]) (by omega))) (j_24.trans (qlp_step (decide_eq_true (by omega)) (by rw [eg_46, eg_39]) (by rw [ed_54, show x_48.toInt = -(g_19 0) by omega, ed_47, eg_39]) (by omega))) hw (lv_sub hl [0, 2, 3] rfl)
        · refine lv_aload_n hx hb dX4_readProduct_25 rfl (lv_at hl 1 rfl) ?_
          refine ti_get (ci := 4) (k := 0) (N := 6) (T := TX4) (v := .ref (A 2 0)) C hw iw_4 rfl ob_1 (by decide) (by decide) fl_X4_12 rfl rfl dX4_readProduct_26 ?_
          refine ti_get (ci := 7) (k := 4) (N := 7) (T := TX7) C hw iw_7 rfl ob_2 (by decide) (by decide) fl_X4_41 rfl rfl dX4_readProduct_29 ?_
          refine ti_top (y := x_27) (ex_27.symm) ?_
          have u_29 : (tI M_12 2 4).toInt = (x_27 : Int32).toInt := by rw [(ex_27.symm)]
          refine lv_bipush (v := 41) hx hb dX4_readProduct_32 (by decide) ?_
          refine sb_icmp_ne (tgt := 69) hx hb rfl (by decide : (41 : Int32).toInt = 41) dX4_readProduct_34 (by decide) (fun c_34_29 => ?_) (fun c_34_29 => ?_)
          · exact hQ _ _ _ _ _ hw (⟨iM_12, (f_13), f_14, (f_15), f_16, (by unfold pp_pd; rw [← eg_7, j_23, lp_end (P := pp_qT) (f := 64 - x_9.toInt.toNat) (s := g_19) (Or.inr (decide_eq_false (by omega)))]; exact hs_20), (by unfold qq_pd; rw [← eg_7, ← ed_8, j_24, qlp_end (P := pp_qT) (f := 64 - x_9.toInt.toNat) (s := g_19) (Or.inr (decide_eq_false (by omega)))]; exact tq_22)⟩) dX4_readProduct_69
          · refine lv_aload_n hx hb dX4_readProduct_37 rfl (lv_at hl 1 rfl) ?_
            refine ti_get (ci := 4) (k := 0) (N := 6) (T := TX4) (v := .ref (A 2 0)) C hw iw_4 rfl ob_1 (by decide) (by decide) fl_X4_12 rfl rfl dX4_readProduct_38 ?_
            refine ti_get (ci := 7) (k := 4) (N := 7) (T := TX7) C hw iw_7 rfl ob_2 (by decide) (by decide) fl_X4_41 rfl rfl dX4_readProduct_41 ?_
            refine ti_top (y := x_27) (ex_27.symm) ?_
            have u_56 : (tI M_12 2 4).toInt = (x_27 : Int32).toInt := by rw [(ex_27.symm)]
            refine lv_istore_n (lv' := [(3, .int x_27), (2, .int x_9), (0, .ref (A 1 0)), (1, .int 1)]) hx hb dX4_readProduct_44 rfl hl (by decide) rfl (fun ls hl => ?_)
            refine lv_aload_n hx hb dX4_readProduct_45 rfl (lv_at hl 2 rfl) ?_
            refine ti_callVvE (ci := 4) (av := []) C hE hw (x_X4_knot l D A cy hJ M_12 iM_12 t ht (f_17) B n g_19 hs_20 d_21 tq_22) ⟨ml_X4_167, ym_X4_knot, yv_X4_knot, yi_X4_knot, yc_X4_knot⟩ yd_X4_knot ob_1 (by decide) rfl rfl hl.1 (Nat.le_of_ble_eq_true rfl) ⟨by decide, by decide⟩ ⟨Nat.zero_le _, Nat.zero_le _⟩ dX4_readProduct_46 (fun M_58 H locs hp_58 hw => ?_)
            obtain ⟨iM_58, q_59, q_60, q_61, q_62, q_63, p0r_57, p1r_57⟩ := hp_58
            obtain ⟨g_64, eg_64⟩ : ∃ z : Nat → Int, z = pp_kn B n g_19 := ⟨_, rfl⟩
            rw [← eg_64] at p0r_57
            have lg_64_0 : g_64 0 = (tI M_58 2 4).toInt := p0r_57.2.1.1
            have lg_64_1 : g_64 1 = (tI M_58 2 6).toInt := p0r_57.2.1.2.1
            have lg_64_4 : g_64 4 = (tI M_58 1 4).toInt := p0r_57.2.2.1.1
            have lg_64_7 : g_64 7 = (tI M_58 t 4).toInt := p0r_57.2.2.2.1.1
            have lg_64_8 : g_64 8 = (tI M_58 t 5).toInt := p0r_57.2.2.2.1.2.1
            refine lv_aload_n hx hb dX4_readProduct_49 rfl (lv_at hl 2 rfl) ?_
            refine lv_iload_n hx hb dX4_readProduct_50 rfl (lv_at hl 3 rfl) ?_
            refine ti_callVvE (ci := 4) (av := [.int 1]) C hE hw (x_X4_readPart_1 l D A cy hJ M_58 iM_58 t ht ((tT_fr q_59).trans f_17) j hj ((tT_fr q_59).trans f_18) B n g_64 p0r_57 d_21 p1r_57) ⟨ml_X4_187, ym_X4_readPart, yv_X4_readPart, yi_X4_readPart, yc_X4_readPart⟩ yd_X4_readPart ob_1 (by decide) rfl rfl hl.1 (Nat.le_of_ble_eq_true rfl) ⟨by decide, by decide⟩ ⟨Nat.zero_le _, Nat.zero_le _⟩ dX4_readProduct_51 (fun M_66 H locs hp_66 hw => ?_)
            obtain ⟨iM_66, q_67, q_68, q_69, q_70, p0r_65, p1r_65⟩ := hp_66
            obtain ⟨g_71, eg_71⟩ : ∃ z : Nat → Int, z = pp_pt B n 7 g_64 := ⟨_, rfl⟩
            rw [← eg_71] at p0r_65
            have lg_71_0 : g_71 0 = (tI M_66 2 4).toInt := p0r_65.2.1.1
            have lg_71_1 : g_71 1 = (tI M_66 2 6).toInt := p0r_65.2.1.2.1
            have lg_71_4 : g_71 4 = (tI M_66 1 4).toInt := p0r_65.2.2.1.1
            have lg_71_7 : g_71 7 = (tI M_66 t 4).toInt := p0r_65.2.2.2.1.1
            have lg_71_8 : g_71 8 = (tI M_66 t 5).toInt := p0r_65.2.2.2.1.2.1
            obtain ⟨d_72, ed_72⟩ : ∃ z : Nat → Int, z = qq_pt B n j 7 g_64 d_21 := ⟨_, rfl⟩
            rw [← ed_72] at p1r_65
            refine lv_aload_n hx hb dX4_readProduct_54 rfl (lv_at hl 2 rfl) ?_
            refine ti_get (ci := 4) (k := 2) (N := 6) (T := TX4) (v := .ref (A (ti_laws t j) 0)) C hw iw_4 rfl ob_1 (by decide) (by decide) fl_X4_154 rfl (ti_Tv ((tT_fr q_67).trans ((tT_fr q_59).trans f_18))) dX4_readProduct_55 ?_
            refine lv_iload_n hx hb dX4_readProduct_58 rfl (lv_at hl 0 rfl) ?_
            refine lv_ineg hx hb dX4_readProduct_59 ?_
            refine lv_topi (fun x_73 ex_73 => ?_)
            have tx_73 : x_73.toInt = -x_27.toInt := i_neg ex_73 rfl (by omega)
            refine ti_callVv (ci := 1) (av := [.int x_73]) C hw (x_X1_add l D A cy hJ M_66 iM_66 t ht j hj x_73 (by first | omega | exact Or.inl (by decide) | exact Or.inr (by decide)) B n g_71 p0r_65 d_72 p1r_65) ⟨ml_X4_170, ym_X1_add, yv_X1_add, yi_X1_add, yc_X1_add⟩ yd_X1_add (ob_l ht hj) (by decide) rfl rfl hl.1 (Nat.le_of_ble_eq_true rfl) ⟨by decide, by decide⟩ ⟨Nat.zero_le _, Nat.zero_le _⟩ dX4_readProduct_60 (fun M_75 H locs hp_75 hw => ?_)
            obtain ⟨iM_75, q_76, q_77, q_78, p0r_74, p1r_74⟩ := hp_75
            have lM_75_0 : g_71 0 = (tI M_75 2 4).toInt := p0r_74.2.1.1
            have lM_75_1 : g_71 1 = (tI M_75 2 6).toInt := p0r_74.2.1.2.1
            have lM_75_4 : g_71 4 = (tI M_75 1 4).toInt := p0r_74.2.2.1.1
            have lM_75_7 : g_71 7 = (tI M_75 t 4).toInt := p0r_74.2.2.2.1.1
            have lM_75_8 : g_71 8 = (tI M_75 t 5).toInt := p0r_74.2.2.2.1.2.1
            obtain ⟨d_79, ed_79⟩ : ∃ z : Nat → Int, z = qa j x_73.toInt d_72 := ⟨_, rfl⟩
            rw [← ed_79] at p1r_74
            obtain ⟨x_80, ex_80⟩ : ∃ z : Int32, z = x_9 + 1 := ⟨_, rfl⟩
            have tx_80 : x_80.toInt = x_9.toInt + 1 := i_add ex_80 rfl (by decide) (by omega) (by omega)
            refine lv_iinc (v := x_80) (lv' := [(2, .int x_80), (3, .int x_27), (0, .ref (A 1 0)), (1, .int 1)]) hx hb dX4_readProduct_63 hl (k := 1) rfl (by rw [ex_80]; rfl) (by decide) rfl (fun ls hl => ?_)
            refine lv_goto (tgt := 7) hx hb dX4_readProduct_66 (by decide) ?_
            exact ih_25 x_80 M_75 g_71 d_79 _ _ _ (by omega) (by first | omega | decide) (by first | omega | decide) iM_75 ((q_76).trans ((q_67).trans ((q_59).trans f_13))) (f0.trans (f0_x q_77) (f0.trans q_68 (f0.trans q_60 f_14))) (((q_77 1).2.1).trans ((q_69).trans ((q_61).trans f_15))) (ot.trans q_78 (ot.trans q_70 (ot.trans q_62 f_16))) ((tT_fr q_76).trans ((tT_fr q_67).trans ((tT_fr q_59).trans f_17))) ((tT_fr q_76).trans ((tT_fr q_67).trans ((tT_fr q_59).trans f_18))) p0r_74 p1r_74 (j_23.trans (lp_step (decide_eq_true (by omega)) (by rw [eg_71, eg_64]) (by omega))) (j_24.trans (qlp_step (decide_eq_true (by omega)) (by rw [eg_71, eg_64]) (by rw [ed_79, show x_73.toInt = -(g_19 0) by omega, ed_72, eg_64]) (by omega))) hw (lv_sub hl [0, 2, 3] rfl)
  exact hl_7_24 ((64 - 0 : Int).toNat + 1) 0 M_2 g_7 d_8 _ _ _ (Nat.lt_succ_self _) (by have lt0 : (0 : Int32).toInt = 0 := (by decide); first | omega | decide) (by have lt0 : (0 : Int32).toInt = 0 := (by decide); first | omega | decide) iM_2 (q_3) q_4 (q_5) q_6 ((tT_fr q_3).trans hT) ((tT_fr q_3).trans hL) p0r_1 p1r_1 rfl rfl hw (lv_sub hl [0, 1, 2] rfl)
set_option maxHeartbeats 4000000 in
set_option maxRecDepth 100000 in
theorem x_X4_readSum_1 (l : Launch) (D : va_G) (A : Nat → Nat → Nat) (cy : Nat → ClassId) (hJ : ti_inj ti_LT A) (M : ti_M) (hI : cI Tc M) (t : Nat) (ht : t = 3 ∨ t = 4) (hT : tT M 1 1 = some t) (j : Nat) (hj : j < 3) (hL : tT M 1 2 = some (ti_laws t j)) (B : Nat → Int) (n : Nat) (rg : Nat → Int) (hr : rC B n t rg M) (td : Nat → Int) (hq : tq t td M) : ti_KvE l yX4_readSum cX4_readSum 4 59 ti_LT D A cy M [.ref (A 1 0), .int 1] (fun M2 => cI Tc M2 ∧ M2.2.2.2 = M.2.2.2 ∧ f0 M2 M ∧ tI M2 2 1 = tI M 2 1 ∧ ot t M2 M ∧ rC B n t (pp_sm B n (pp_pt B n 7) rg) M2 ∧ tq t (qq_sm B n j (pp_pt B n 7) (qq_pt B n j 7) rg td) M2) := by
  refine ti_eVE yp_X4_readSum hJ ti_LT_nd (Nat.le_of_ble_eq_true rfl) ?_
  intro p e s m args below meth c Q H0 C hE hQ hw ls hl
  have hx := C.1
  have hb := C.2.1
  have hl : lv_has ls 4 [(0, .ref (A 1 0)), (1, .int 1)] := hl
  have l0 : rg 0 = (tI M 2 4).toInt := hr.2.1.1
  have l1 : rg 1 = (tI M 2 6).toInt := hr.2.1.2.1
  have l2 : rg 2 = (tI M 2 5).toInt := hr.2.1.2.2.1
  have l3 : rg 3 = (tI M 2 3).toInt := hr.2.1.2.2.2
  have l4 : rg 4 = (tI M 1 4).toInt := hr.2.2.1.1
  have l5 : rg 5 = (tI M 1 5).toInt := hr.2.2.1.2.1
  have l7 : rg 7 = (tI M t 4).toInt := hr.2.2.2.1.1
  have l8 : rg 8 = (tI M t 5).toInt := hr.2.2.2.1.2.1
  have l9 : rg 9 = (tI M t 3).toInt := hr.2.2.2.1.2.2
  refine lv_aload_n hx hb dX4_readSum_0 rfl (lv_at hl 0 rfl) ?_
  refine lv_iload_n hx hb dX4_readSum_1 rfl (lv_at hl 1 rfl) ?_
  refine ti_callVvE (ci := 4) (av := [.int 1]) C hE hw (x_X4_readProduct_1 l D A cy hJ M hI t ht (hT) j hj (hL) B n rg hr td hq) ⟨ml_X4_184, ym_X4_readProduct, yv_X4_readProduct, yi_X4_readProduct, yc_X4_readProduct⟩ yd_X4_readProduct ob_1 (by decide) rfl rfl hl.1 (Nat.le_of_ble_eq_true rfl) ⟨by decide, by decide⟩ ⟨Nat.zero_le _, Nat.zero_le _⟩ dX4_readSum_2 (fun M_2 H locs hp_2 hw => ?_)
  obtain ⟨iM_2, q_3, q_4, q_5, q_6, p0r_1, p1r_1⟩ := hp_2
  obtain ⟨g_7, eg_7⟩ : ∃ z : Nat → Int, z = pp_pd B n (pp_pt B n 7) rg := ⟨_, rfl⟩
  rw [← eg_7] at p0r_1
  have lg_7_0 : g_7 0 = (tI M_2 2 4).toInt := p0r_1.2.1.1
  have lg_7_1 : g_7 1 = (tI M_2 2 6).toInt := p0r_1.2.1.2.1
  have lg_7_4 : g_7 4 = (tI M_2 1 4).toInt := p0r_1.2.2.1.1
  have lg_7_7 : g_7 7 = (tI M_2 t 4).toInt := p0r_1.2.2.2.1.1
  have lg_7_8 : g_7 8 = (tI M_2 t 5).toInt := p0r_1.2.2.2.1.2.1
  obtain ⟨d_8, ed_8⟩ : ∃ z : Nat → Int, z = qq_pd B n j (pp_pt B n 7) (qq_pt B n j 7) rg td := ⟨_, rfl⟩
  rw [← ed_8] at p1r_1
  refine lv_iconst (v := 0) hx hb dX4_readSum_5 (by decide) ?_
  refine lv_istore_n (lv' := [(2, .int 0), (0, .ref (A 1 0)), (1, .int 1)]) hx hb dX4_readSum_6 rfl hl (by decide) rfl (fun ls hl => ?_)
  have hl_7_24 : ∀ (n_25 : Nat) (x_9 : Int32) (M_12 : ti_M) (g_19 : Nat → Int) (d_21 : Nat → Int) (H : Heap) (locs : List Loc) (ls : Array Slot), (64 - x_9.toInt : Int).toNat < n_25 → (0 ≤ x_9.toInt) → (x_9.toInt ≤ 64) → (cI Tc M_12) → (M_12.2.2.2 = M.2.2.2) → (f0 M_12 M) → (tI M_12 2 1 = tI M 2 1) → (ot t M_12 M) → (tT M_12 1 1 = (some t)) → (tT M_12 1 2 = (some (ti_laws t j))) → (rC B n t g_19 M_12) → (tq t d_21 M_12) → (pp_lp pp_qP (fun s => pp_pd B n (pp_pt B n 7) (pp_kn B n s)) 64 g_7 = pp_lp pp_qP (fun s => pp_pd B n (pp_pt B n 7) (pp_kn B n s)) (64 - (x_9.toInt).toNat) g_19) → (qq_lp pp_qP (fun s => pp_pd B n (pp_pt B n 7) (pp_kn B n s)) (fun s td => qa j (-(s 0)) (qq_pd B n j (pp_pt B n 7) (qq_pt B n j 7) (pp_kn B n s) td)) 64 g_7 d_8 = qq_lp pp_qP (fun s => pp_pd B n (pp_pt B n 7) (pp_kn B n s)) (fun s td => qa j (-(s 0)) (qq_pd B n j (pp_pt B n 7) (qq_pt B n j 7) (pp_kn B n s) td)) (64 - (x_9.toInt).toNat) g_19 d_21) → ti_H ti_LT D A cy H0 M_12 H locs → lv_has ls 4 [(2, .int x_9), (0, .ref (A 1 0)), (1, .int 1)] → W p l e (ti_rm 59) s m args below meth c H locs 0 0 Q (F0 m 7 ls []) := by
    intro n_25
    induction n_25 with
    | zero => intro x_9 M_12 g_19 d_21 H locs ls hf_25; exact absurd hf_25 (Nat.not_lt_zero _)
    | succ n_25 ih_25 =>
      intro x_9 M_12 g_19 d_21 H locs ls hf_25 b_10 b_11 iM_12 f_13 f_14 f_15 f_16 f_17 f_18 hs_20 tq_22 j_23 j_24 hw hl
      have lg_19_0 : g_19 0 = (tI M_12 2 4).toInt := hs_20.2.1.1
      have lg_19_1 : g_19 1 = (tI M_12 2 6).toInt := hs_20.2.1.2.1
      have lg_19_4 : g_19 4 = (tI M_12 1 4).toInt := hs_20.2.2.1.1
      have lg_19_7 : g_19 7 = (tI M_12 t 4).toInt := hs_20.2.2.2.1.1
      have lg_19_8 : g_19 8 = (tI M_12 t 5).toInt := hs_20.2.2.2.1.2.1
      refine lv_iload_n hx hb dX4_readSum_7 rfl (lv_at hl 0 rfl) ?_
      refine lv_bipush (v := 64) hx hb dX4_readSum_8 (by decide) ?_
      refine sb_icmp_ge (tgt := 69) hx hb rfl (by decide : (64 : Int32).toInt = 64) dX4_readSum_10 (by decide) (fun c_10_25 => ?_) (fun c_10_25 => ?_)
      · exact hQ _ _ _ _ _ hw (⟨iM_12, (f_13), f_14, (f_15), f_16, (by unfold pp_sm; rw [← eg_7, j_23, lp_end (P := pp_qP) (f := 64 - x_9.toInt.toNat) (s := g_19) (Or.inl (by omega))]; exact hs_20), (by unfold qq_sm; rw [← eg_7, ← ed_8, j_24, qlp_end (P := pp_qP) (f := 64 - x_9.toInt.toNat) (s := g_19) (Or.inl (by omega))]; exact tq_22)⟩) dX4_readSum_69
      · refine lv_aload_n hx hb dX4_readSum_13 rfl (lv_at hl 1 rfl) ?_
        refine ti_get (ci := 4) (k := 0) (N := 6) (T := TX4) (v := .ref (A 2 0)) C hw iw_4 rfl ob_1 (by decide) (by decide) fl_X4_12 rfl rfl dX4_readSum_14 ?_
        refine ti_get (ci := 7) (k := 4) (N := 7) (T := TX7) C hw iw_7 rfl ob_2 (by decide) (by decide) fl_X4_41 rfl rfl dX4_readSum_17 ?_
        refine lv_topi (fun x_27 ex_27 => ?_)
        have bx_27 : 0 ≤ x_27.toInt ∧ x_27.toInt ≤ 41 := cI_rd iM_12 ob_2.1 ex_27
        have ux_27 : (tI M_12 2 4).toInt = x_27.toInt := by rw [ex_27]
        refine lv_bipush (v := 38) hx hb dX4_readSum_20 (by decide) ?_
        refine sb_icmp_eq (tgt := 37) hx hb rfl (by decide : (38 : Int32).toInt = 38) dX4_readSum_22 (by decide) (fun c_22_27 => ?_) (fun c_22_27 => ?_)
        · refine lv_aload_n hx hb dX4_readSum_37 rfl (lv_at hl 1 rfl) ?_
          refine ti_get (ci := 4) (k := 0) (N := 6) (T := TX4) (v := .ref (A 2 0)) C hw iw_4 rfl ob_1 (by decide) (by decide) fl_X4_12 rfl rfl dX4_readSum_38 ?_
          refine ti_get (ci := 7) (k := 4) (N := 7) (T := TX7) C hw iw_7 rfl ob_2 (by decide) (by decide) fl_X4_41 rfl rfl dX4_readSum_41 ?_
          refine ti_top (y := x_27) (ex_27.symm) ?_
          have u_31 : (tI M_12 2 4).toInt = (x_27 : Int32).toInt := by rw [(ex_27.symm)]
          refine lv_istore_n (lv' := [(3, .int x_27), (2, .int x_9), (0, .ref (A 1 0)), (1, .int 1)]) hx hb dX4_readSum_44 rfl hl (by decide) rfl (fun ls hl => ?_)
          refine lv_aload_n hx hb dX4_readSum_45 rfl (lv_at hl 2 rfl) ?_
          refine ti_callVvE (ci := 4) (av := []) C hE hw (x_X4_knot l D A cy hJ M_12 iM_12 t ht (f_17) B n g_19 hs_20 d_21 tq_22) ⟨ml_X4_167, ym_X4_knot, yv_X4_knot, yi_X4_knot, yc_X4_knot⟩ yd_X4_knot ob_1 (by decide) rfl rfl hl.1 (Nat.le_of_ble_eq_true rfl) ⟨by decide, by decide⟩ ⟨Nat.zero_le _, Nat.zero_le _⟩ dX4_readSum_46 (fun M_33 H locs hp_33 hw => ?_)
          obtain ⟨iM_33, q_34, q_35, q_36, q_37, q_38, p0r_32, p1r_32⟩ := hp_33
          obtain ⟨g_39, eg_39⟩ : ∃ z : Nat → Int, z = pp_kn B n g_19 := ⟨_, rfl⟩
          rw [← eg_39] at p0r_32
          have lg_39_0 : g_39 0 = (tI M_33 2 4).toInt := p0r_32.2.1.1
          have lg_39_1 : g_39 1 = (tI M_33 2 6).toInt := p0r_32.2.1.2.1
          have lg_39_4 : g_39 4 = (tI M_33 1 4).toInt := p0r_32.2.2.1.1
          have lg_39_7 : g_39 7 = (tI M_33 t 4).toInt := p0r_32.2.2.2.1.1
          have lg_39_8 : g_39 8 = (tI M_33 t 5).toInt := p0r_32.2.2.2.1.2.1
          refine lv_aload_n hx hb dX4_readSum_49 rfl (lv_at hl 2 rfl) ?_
          refine lv_iload_n hx hb dX4_readSum_50 rfl (lv_at hl 3 rfl) ?_
          refine ti_callVvE (ci := 4) (av := [.int 1]) C hE hw (x_X4_readProduct_1 l D A cy hJ M_33 iM_33 t ht ((tT_fr q_34).trans f_17) j hj ((tT_fr q_34).trans f_18) B n g_39 p0r_32 d_21 p1r_32) ⟨ml_X4_184, ym_X4_readProduct, yv_X4_readProduct, yi_X4_readProduct, yc_X4_readProduct⟩ yd_X4_readProduct ob_1 (by decide) rfl rfl hl.1 (Nat.le_of_ble_eq_true rfl) ⟨by decide, by decide⟩ ⟨Nat.zero_le _, Nat.zero_le _⟩ dX4_readSum_51 (fun M_41 H locs hp_41 hw => ?_)
          obtain ⟨iM_41, q_42, q_43, q_44, q_45, p0r_40, p1r_40⟩ := hp_41
          obtain ⟨g_46, eg_46⟩ : ∃ z : Nat → Int, z = pp_pd B n (pp_pt B n 7) g_39 := ⟨_, rfl⟩
          rw [← eg_46] at p0r_40
          have lg_46_0 : g_46 0 = (tI M_41 2 4).toInt := p0r_40.2.1.1
          have lg_46_1 : g_46 1 = (tI M_41 2 6).toInt := p0r_40.2.1.2.1
          have lg_46_4 : g_46 4 = (tI M_41 1 4).toInt := p0r_40.2.2.1.1
          have lg_46_7 : g_46 7 = (tI M_41 t 4).toInt := p0r_40.2.2.2.1.1
          have lg_46_8 : g_46 8 = (tI M_41 t 5).toInt := p0r_40.2.2.2.1.2.1
          obtain ⟨d_47, ed_47⟩ : ∃ z : Nat → Int, z = qq_pd B n j (pp_pt B n 7) (qq_pt B n j 7) g_39 d_21 := ⟨_, rfl⟩
          rw [← ed_47] at p1r_40
          refine lv_aload_n hx hb dX4_readSum_54 rfl (lv_at hl 2 rfl) ?_
          refine ti_get (ci := 4) (k := 2) (N := 6) (T := TX4) (v := .ref (A (ti_laws t j) 0)) C hw iw_4 rfl ob_1 (by decide) (by decide) fl_X4_154 rfl (ti_Tv ((tT_fr q_42).trans ((tT_fr q_34).trans f_18))) dX4_readSum_55 ?_
          refine lv_iload_n hx hb dX4_readSum_58 rfl (lv_at hl 0 rfl) ?_
          refine lv_ineg hx hb dX4_readSum_59 ?_
          refine lv_topi (fun x_48 ex_48 => ?_)
          have tx_48 : x_48.toInt = -x_27.toInt := i_neg ex_48 rfl (by omega)
          refine ti_callVv (ci := 1) (av := [.int x_48]) C hw (x_X1_add l D A cy hJ M_41 iM_41 t ht j hj x_48 (by first | omega | exact Or.inl (by decide) | exact Or.inr (by decide)) B n g_46 p0r_40 d_47 p1r_40) ⟨ml_X4_170, ym_X1_add, yv_X1_add, yi_X1_add, yc_X1_add⟩ yd_X1_add (ob_l ht hj) (by decide) rfl rfl hl.1 (Nat.le_of_ble_eq_true rfl) ⟨by decide, by decide⟩ ⟨Nat.zero_le _, Nat.zero_le _⟩ dX4_readSum_60 (fun M_50 H locs hp_50 hw => ?_)
          obtain ⟨iM_50, q_51, q_52, q_53, p0r_49, p1r_49⟩ := hp_50
          have lM_50_0 : g_46 0 = (tI M_50 2 4).toInt := p0r_49.2.1.1
          have lM_50_1 : g_46 1 = (tI M_50 2 6).toInt := p0r_49.2.1.2.1
          have lM_50_4 : g_46 4 = (tI M_50 1 4).toInt := p0r_49.2.2.1.1
          have lM_50_7 : g_46 7 = (tI M_50 t 4).toInt := p0r_49.2.2.2.1.1
          have lM_50_8 : g_46 8 = (tI M_50 t 5).toInt := p0r_49.2.2.2.1.2.1
          obtain ⟨d_54, ed_54⟩ : ∃ z : Nat → Int, z = qa j x_48.toInt d_47 := ⟨_, rfl⟩
          rw [← ed_54] at p1r_49
          obtain ⟨x_55, ex_55⟩ : ∃ z : Int32, z = x_9 + 1 := ⟨_, rfl⟩
          have tx_55 : x_55.toInt = x_9.toInt + 1 := i_add ex_55 rfl (by decide) (by omega) (by omega)
          refine lv_iinc (v := x_55) (lv' := [(2, .int x_55), (3, .int x_27), (0, .ref (A 1 0)), (1, .int 1)]) hx hb dX4_readSum_63 hl (k := 1) rfl (by rw [ex_55]; rfl) (by decide) rfl (fun ls hl => ?_)
          refine lv_goto (tgt := 7) hx hb dX4_readSum_66 (by decide) ?_
          exact ih_25 x_55 M_50 g_46 d_54 _ _ _ (by omega) (by first | omega | decide) (by first | omega | decide) iM_50 ((q_51).trans ((q_42).trans ((q_34).trans f_13))) (f0.trans (f0_x q_52) (f0.trans q_43 (f0.trans q_35 f_14))) (((q_52 1).2.1).trans ((q_44).trans ((q_36).trans f_15))) (ot.trans q_53 (ot.trans q_45 (ot.trans q_37 f_16))) ((tT_fr q_51).trans ((tT_fr q_42).trans ((tT_fr q_34).trans f_17))) ((tT_fr q_51).trans ((tT_fr q_42).trans ((tT_fr q_34).trans f_18))) p0r_49 p1r_49 (j_23.trans (lp_step (decide_eq_true (by omega)) (by rw [eg_46, eg_39]) (by omega))) (j_24.trans (qlp_step (decide_eq_true (by omega)) (by rw [eg_46, eg_39]) (by rw [ed_54, show x_48.toInt = -(g_19 0) by omega, ed_47, eg_39]) (by omega))) hw (lv_sub hl [0, 2, 3] rfl)
        · refine lv_aload_n hx hb dX4_readSum_25 rfl (lv_at hl 1 rfl) ?_
          refine ti_get (ci := 4) (k := 0) (N := 6) (T := TX4) (v := .ref (A 2 0)) C hw iw_4 rfl ob_1 (by decide) (by decide) fl_X4_12 rfl rfl dX4_readSum_26 ?_
          refine ti_get (ci := 7) (k := 4) (N := 7) (T := TX7) C hw iw_7 rfl ob_2 (by decide) (by decide) fl_X4_41 rfl rfl dX4_readSum_29 ?_
          refine ti_top (y := x_27) (ex_27.symm) ?_
          have u_29 : (tI M_12 2 4).toInt = (x_27 : Int32).toInt := by rw [(ex_27.symm)]
          refine lv_bipush (v := 39) hx hb dX4_readSum_32 (by decide) ?_
          refine sb_icmp_ne (tgt := 69) hx hb rfl (by decide : (39 : Int32).toInt = 39) dX4_readSum_34 (by decide) (fun c_34_29 => ?_) (fun c_34_29 => ?_)
          · exact hQ _ _ _ _ _ hw (⟨iM_12, (f_13), f_14, (f_15), f_16, (by unfold pp_sm; rw [← eg_7, j_23, lp_end (P := pp_qP) (f := 64 - x_9.toInt.toNat) (s := g_19) (Or.inr (decide_eq_false (by omega)))]; exact hs_20), (by unfold qq_sm; rw [← eg_7, ← ed_8, j_24, qlp_end (P := pp_qP) (f := 64 - x_9.toInt.toNat) (s := g_19) (Or.inr (decide_eq_false (by omega)))]; exact tq_22)⟩) dX4_readSum_69
          · refine lv_aload_n hx hb dX4_readSum_37 rfl (lv_at hl 1 rfl) ?_
            refine ti_get (ci := 4) (k := 0) (N := 6) (T := TX4) (v := .ref (A 2 0)) C hw iw_4 rfl ob_1 (by decide) (by decide) fl_X4_12 rfl rfl dX4_readSum_38 ?_
            refine ti_get (ci := 7) (k := 4) (N := 7) (T := TX7) C hw iw_7 rfl ob_2 (by decide) (by decide) fl_X4_41 rfl rfl dX4_readSum_41 ?_
            refine ti_top (y := x_27) (ex_27.symm) ?_
            have u_56 : (tI M_12 2 4).toInt = (x_27 : Int32).toInt := by rw [(ex_27.symm)]
            refine lv_istore_n (lv' := [(3, .int x_27), (2, .int x_9), (0, .ref (A 1 0)), (1, .int 1)]) hx hb dX4_readSum_44 rfl hl (by decide) rfl (fun ls hl => ?_)
            refine lv_aload_n hx hb dX4_readSum_45 rfl (lv_at hl 2 rfl) ?_
            refine ti_callVvE (ci := 4) (av := []) C hE hw (x_X4_knot l D A cy hJ M_12 iM_12 t ht (f_17) B n g_19 hs_20 d_21 tq_22) ⟨ml_X4_167, ym_X4_knot, yv_X4_knot, yi_X4_knot, yc_X4_knot⟩ yd_X4_knot ob_1 (by decide) rfl rfl hl.1 (Nat.le_of_ble_eq_true rfl) ⟨by decide, by decide⟩ ⟨Nat.zero_le _, Nat.zero_le _⟩ dX4_readSum_46 (fun M_58 H locs hp_58 hw => ?_)
            obtain ⟨iM_58, q_59, q_60, q_61, q_62, q_63, p0r_57, p1r_57⟩ := hp_58
            obtain ⟨g_64, eg_64⟩ : ∃ z : Nat → Int, z = pp_kn B n g_19 := ⟨_, rfl⟩
            rw [← eg_64] at p0r_57
            have lg_64_0 : g_64 0 = (tI M_58 2 4).toInt := p0r_57.2.1.1
            have lg_64_1 : g_64 1 = (tI M_58 2 6).toInt := p0r_57.2.1.2.1
            have lg_64_4 : g_64 4 = (tI M_58 1 4).toInt := p0r_57.2.2.1.1
            have lg_64_7 : g_64 7 = (tI M_58 t 4).toInt := p0r_57.2.2.2.1.1
            have lg_64_8 : g_64 8 = (tI M_58 t 5).toInt := p0r_57.2.2.2.1.2.1
            refine lv_aload_n hx hb dX4_readSum_49 rfl (lv_at hl 2 rfl) ?_
            refine lv_iload_n hx hb dX4_readSum_50 rfl (lv_at hl 3 rfl) ?_
            refine ti_callVvE (ci := 4) (av := [.int 1]) C hE hw (x_X4_readProduct_1 l D A cy hJ M_58 iM_58 t ht ((tT_fr q_59).trans f_17) j hj ((tT_fr q_59).trans f_18) B n g_64 p0r_57 d_21 p1r_57) ⟨ml_X4_184, ym_X4_readProduct, yv_X4_readProduct, yi_X4_readProduct, yc_X4_readProduct⟩ yd_X4_readProduct ob_1 (by decide) rfl rfl hl.1 (Nat.le_of_ble_eq_true rfl) ⟨by decide, by decide⟩ ⟨Nat.zero_le _, Nat.zero_le _⟩ dX4_readSum_51 (fun M_66 H locs hp_66 hw => ?_)
            obtain ⟨iM_66, q_67, q_68, q_69, q_70, p0r_65, p1r_65⟩ := hp_66
            obtain ⟨g_71, eg_71⟩ : ∃ z : Nat → Int, z = pp_pd B n (pp_pt B n 7) g_64 := ⟨_, rfl⟩
            rw [← eg_71] at p0r_65
            have lg_71_0 : g_71 0 = (tI M_66 2 4).toInt := p0r_65.2.1.1
            have lg_71_1 : g_71 1 = (tI M_66 2 6).toInt := p0r_65.2.1.2.1
            have lg_71_4 : g_71 4 = (tI M_66 1 4).toInt := p0r_65.2.2.1.1
            have lg_71_7 : g_71 7 = (tI M_66 t 4).toInt := p0r_65.2.2.2.1.1
            have lg_71_8 : g_71 8 = (tI M_66 t 5).toInt := p0r_65.2.2.2.1.2.1
            obtain ⟨d_72, ed_72⟩ : ∃ z : Nat → Int, z = qq_pd B n j (pp_pt B n 7) (qq_pt B n j 7) g_64 d_21 := ⟨_, rfl⟩
            rw [← ed_72] at p1r_65
            refine lv_aload_n hx hb dX4_readSum_54 rfl (lv_at hl 2 rfl) ?_
            refine ti_get (ci := 4) (k := 2) (N := 6) (T := TX4) (v := .ref (A (ti_laws t j) 0)) C hw iw_4 rfl ob_1 (by decide) (by decide) fl_X4_154 rfl (ti_Tv ((tT_fr q_67).trans ((tT_fr q_59).trans f_18))) dX4_readSum_55 ?_
            refine lv_iload_n hx hb dX4_readSum_58 rfl (lv_at hl 0 rfl) ?_
            refine lv_ineg hx hb dX4_readSum_59 ?_
            refine lv_topi (fun x_73 ex_73 => ?_)
            have tx_73 : x_73.toInt = -x_27.toInt := i_neg ex_73 rfl (by omega)
            refine ti_callVv (ci := 1) (av := [.int x_73]) C hw (x_X1_add l D A cy hJ M_66 iM_66 t ht j hj x_73 (by first | omega | exact Or.inl (by decide) | exact Or.inr (by decide)) B n g_71 p0r_65 d_72 p1r_65) ⟨ml_X4_170, ym_X1_add, yv_X1_add, yi_X1_add, yc_X1_add⟩ yd_X1_add (ob_l ht hj) (by decide) rfl rfl hl.1 (Nat.le_of_ble_eq_true rfl) ⟨by decide, by decide⟩ ⟨Nat.zero_le _, Nat.zero_le _⟩ dX4_readSum_60 (fun M_75 H locs hp_75 hw => ?_)
            obtain ⟨iM_75, q_76, q_77, q_78, p0r_74, p1r_74⟩ := hp_75
            have lM_75_0 : g_71 0 = (tI M_75 2 4).toInt := p0r_74.2.1.1
            have lM_75_1 : g_71 1 = (tI M_75 2 6).toInt := p0r_74.2.1.2.1
            have lM_75_4 : g_71 4 = (tI M_75 1 4).toInt := p0r_74.2.2.1.1
            have lM_75_7 : g_71 7 = (tI M_75 t 4).toInt := p0r_74.2.2.2.1.1
            have lM_75_8 : g_71 8 = (tI M_75 t 5).toInt := p0r_74.2.2.2.1.2.1
            obtain ⟨d_79, ed_79⟩ : ∃ z : Nat → Int, z = qa j x_73.toInt d_72 := ⟨_, rfl⟩
            rw [← ed_79] at p1r_74
            obtain ⟨x_80, ex_80⟩ : ∃ z : Int32, z = x_9 + 1 := ⟨_, rfl⟩
            have tx_80 : x_80.toInt = x_9.toInt + 1 := i_add ex_80 rfl (by decide) (by omega) (by omega)
            refine lv_iinc (v := x_80) (lv' := [(2, .int x_80), (3, .int x_27), (0, .ref (A 1 0)), (1, .int 1)]) hx hb dX4_readSum_63 hl (k := 1) rfl (by rw [ex_80]; rfl) (by decide) rfl (fun ls hl => ?_)
            refine lv_goto (tgt := 7) hx hb dX4_readSum_66 (by decide) ?_
            exact ih_25 x_80 M_75 g_71 d_79 _ _ _ (by omega) (by first | omega | decide) (by first | omega | decide) iM_75 ((q_76).trans ((q_67).trans ((q_59).trans f_13))) (f0.trans (f0_x q_77) (f0.trans q_68 (f0.trans q_60 f_14))) (((q_77 1).2.1).trans ((q_69).trans ((q_61).trans f_15))) (ot.trans q_78 (ot.trans q_70 (ot.trans q_62 f_16))) ((tT_fr q_76).trans ((tT_fr q_67).trans ((tT_fr q_59).trans f_17))) ((tT_fr q_76).trans ((tT_fr q_67).trans ((tT_fr q_59).trans f_18))) p0r_74 p1r_74 (j_23.trans (lp_step (decide_eq_true (by omega)) (by rw [eg_71, eg_64]) (by omega))) (j_24.trans (qlp_step (decide_eq_true (by omega)) (by rw [eg_71, eg_64]) (by rw [ed_79, show x_73.toInt = -(g_19 0) by omega, ed_72, eg_64]) (by omega))) hw (lv_sub hl [0, 2, 3] rfl)
  exact hl_7_24 ((64 - 0 : Int).toNat + 1) 0 M_2 g_7 d_8 _ _ _ (Nat.lt_succ_self _) (by have lt0 : (0 : Int32).toInt = 0 := (by decide); first | omega | decide) (by have lt0 : (0 : Int32).toInt = 0 := (by decide); first | omega | decide) iM_2 (q_3) q_4 (q_5) q_6 ((tT_fr q_3).trans hT) ((tT_fr q_3).trans hL) p0r_1 p1r_1 rfl rfl hw (lv_sub hl [0, 1, 2] rfl)
set_option maxHeartbeats 4000000 in
set_option maxRecDepth 100000 in
theorem x_X4_readComparison_1 (l : Launch) (D : va_G) (A : Nat → Nat → Nat) (cy : Nat → ClassId) (hJ : ti_inj ti_LT A) (M : ti_M) (hI : cI Tc M) (t : Nat) (ht : t = 3 ∨ t = 4) (hT : tT M 1 1 = some t) (j : Nat) (hj : j < 3) (hL : tT M 1 2 = some (ti_laws t j)) (B : Nat → Int) (n : Nat) (rg : Nat → Int) (hr : rC B n t rg M) (td : Nat → Int) (hq : tq t td M) : ti_KvE l yX4_readComparison cX4_readComparison 3 60 ti_LT D A cy M [.ref (A 1 0), .int 1] (fun M2 => cI Tc M2 ∧ M2.2.2.2 = M.2.2.2 ∧ f0 M2 M ∧ tI M2 2 1 = tI M 2 1 ∧ ot t M2 M ∧ rC B n t (pp_cm B n (pp_pt B n 7) rg) M2 ∧ tq t (qq_cm B n j (pp_pt B n 7) (qq_pt B n j 7) rg td) M2) := by
  refine ti_eVE yp_X4_readComparison hJ ti_LT_nd (Nat.le_of_ble_eq_true rfl) ?_
  intro p e s m args below meth c Q H0 C hE hQ hw ls hl
  have hx := C.1
  have hb := C.2.1
  have hl : lv_has ls 3 [(0, .ref (A 1 0)), (1, .int 1)] := hl
  have l0 : rg 0 = (tI M 2 4).toInt := hr.2.1.1
  have l1 : rg 1 = (tI M 2 6).toInt := hr.2.1.2.1
  have l2 : rg 2 = (tI M 2 5).toInt := hr.2.1.2.2.1
  have l3 : rg 3 = (tI M 2 3).toInt := hr.2.1.2.2.2
  have l4 : rg 4 = (tI M 1 4).toInt := hr.2.2.1.1
  have l5 : rg 5 = (tI M 1 5).toInt := hr.2.2.1.2.1
  have l7 : rg 7 = (tI M t 4).toInt := hr.2.2.2.1.1
  have l8 : rg 8 = (tI M t 5).toInt := hr.2.2.2.1.2.1
  have l9 : rg 9 = (tI M t 3).toInt := hr.2.2.2.1.2.2
  refine lv_aload_n hx hb dX4_readComparison_0 rfl (lv_at hl 0 rfl) ?_
  refine lv_iload_n hx hb dX4_readComparison_1 rfl (lv_at hl 1 rfl) ?_
  refine ti_callVvE (ci := 4) (av := [.int 1]) C hE hw (x_X4_readSum_1 l D A cy hJ M hI t ht (hT) j hj (hL) B n rg hr td hq) ⟨ml_X4_181, ym_X4_readSum, yv_X4_readSum, yi_X4_readSum, yc_X4_readSum⟩ yd_X4_readSum ob_1 (by decide) rfl rfl hl.1 (Nat.le_of_ble_eq_true rfl) ⟨by decide, by decide⟩ ⟨Nat.zero_le _, Nat.zero_le _⟩ dX4_readComparison_2 (fun M_2 H locs hp_2 hw => ?_)
  obtain ⟨iM_2, q_3, q_4, q_5, q_6, p0r_1, p1r_1⟩ := hp_2
  obtain ⟨g_7, eg_7⟩ : ∃ z : Nat → Int, z = pp_sm B n (pp_pt B n 7) rg := ⟨_, rfl⟩
  rw [← eg_7] at p0r_1
  have lg_7_0 : g_7 0 = (tI M_2 2 4).toInt := p0r_1.2.1.1
  have lg_7_1 : g_7 1 = (tI M_2 2 6).toInt := p0r_1.2.1.2.1
  have lg_7_4 : g_7 4 = (tI M_2 1 4).toInt := p0r_1.2.2.1.1
  have lg_7_7 : g_7 7 = (tI M_2 t 4).toInt := p0r_1.2.2.2.1.1
  have lg_7_8 : g_7 8 = (tI M_2 t 5).toInt := p0r_1.2.2.2.1.2.1
  obtain ⟨d_8, ed_8⟩ : ∃ z : Nat → Int, z = qq_sm B n j (pp_pt B n 7) (qq_pt B n j 7) rg td := ⟨_, rfl⟩
  rw [← ed_8] at p1r_1
  refine lv_aload_n hx hb dX4_readComparison_5 rfl (lv_at hl 0 rfl) ?_
  refine ti_get (ci := 4) (k := 0) (N := 6) (T := TX4) (v := .ref (A 2 0)) C hw iw_4 rfl ob_1 (by decide) (by decide) fl_X4_12 rfl rfl dX4_readComparison_6 ?_
  refine ti_get (ci := 7) (k := 4) (N := 7) (T := TX7) C hw iw_7 rfl ob_2 (by decide) (by decide) fl_X4_41 rfl rfl dX4_readComparison_9 ?_
  refine lv_topi (fun x_9 ex_9 => ?_)
  have bx_9 : 0 ≤ x_9.toInt ∧ x_9.toInt ≤ 41 := cI_rd iM_2 ob_2.1 ex_9
  have ux_9 : (tI M_2 2 4).toInt = x_9.toInt := by rw [ex_9]
  refine lv_istore_n (lv' := [(2, .int x_9), (0, .ref (A 1 0)), (1, .int 1)]) hx hb dX4_readComparison_12 rfl hl (by decide) rfl (fun ls hl => ?_)
  refine lv_iload_n hx hb dX4_readComparison_13 rfl (lv_at hl 0 rfl) ?_
  refine lv_bipush (v := 32) hx hb dX4_readComparison_14 (by decide) ?_
  refine sb_icmp_lt (tgt := 43) hx hb rfl (by decide : (32 : Int32).toInt = 32) dX4_readComparison_16 (by decide) (fun c_16_9 => ?_) (fun c_16_9 => ?_)
  · exact hQ _ _ _ _ _ hw (⟨iM_2, (q_3), q_4, (q_5), q_6, (by unfold pp_cm; rw [← eg_7]; unfold pp_c2; rw [if_neg (fun q => by omega)]; exact p0r_1), (by unfold qq_cm; rw [← eg_7, ← ed_8]; unfold qq_c2; rw [if_neg (fun q => by omega)]; exact p1r_1)⟩) dX4_readComparison_43
  · refine lv_iload_n hx hb dX4_readComparison_19 rfl (lv_at hl 0 rfl) ?_
    refine lv_bipush (v := 37) hx hb dX4_readComparison_20 (by decide) ?_
    refine sb_icmp_gt (tgt := 43) hx hb rfl (by decide : (37 : Int32).toInt = 37) dX4_readComparison_22 (by decide) (fun c_22_10 => ?_) (fun c_22_10 => ?_)
    · exact hQ _ _ _ _ _ hw (⟨iM_2, (q_3), q_4, (q_5), q_6, (by unfold pp_cm; rw [← eg_7]; unfold pp_c2; rw [if_neg (fun q => by omega)]; exact p0r_1), (by unfold qq_cm; rw [← eg_7, ← ed_8]; unfold qq_c2; rw [if_neg (fun q => by omega)]; exact p1r_1)⟩) dX4_readComparison_43
    · refine lv_aload_n hx hb dX4_readComparison_25 rfl (lv_at hl 1 rfl) ?_
      refine ti_callVvE (ci := 4) (av := []) C hE hw (x_X4_knot l D A cy hJ M_2 iM_2 t ht ((tT_fr q_3).trans hT) B n g_7 p0r_1 d_8 p1r_1) ⟨ml_X4_167, ym_X4_knot, yv_X4_knot, yi_X4_knot, yc_X4_knot⟩ yd_X4_knot ob_1 (by decide) rfl rfl hl.1 (Nat.le_of_ble_eq_true rfl) ⟨by decide, by decide⟩ ⟨Nat.zero_le _, Nat.zero_le _⟩ dX4_readComparison_26 (fun M_13 H locs hp_13 hw => ?_)
      obtain ⟨iM_13, q_14, q_15, q_16, q_17, q_18, p0r_12, p1r_12⟩ := hp_13
      obtain ⟨g_19, eg_19⟩ : ∃ z : Nat → Int, z = pp_kn B n g_7 := ⟨_, rfl⟩
      rw [← eg_19] at p0r_12
      have lg_19_0 : g_19 0 = (tI M_13 2 4).toInt := p0r_12.2.1.1
      have lg_19_1 : g_19 1 = (tI M_13 2 6).toInt := p0r_12.2.1.2.1
      have lg_19_4 : g_19 4 = (tI M_13 1 4).toInt := p0r_12.2.2.1.1
      have lg_19_7 : g_19 7 = (tI M_13 t 4).toInt := p0r_12.2.2.2.1.1
      have lg_19_8 : g_19 8 = (tI M_13 t 5).toInt := p0r_12.2.2.2.1.2.1
      refine lv_aload_n hx hb dX4_readComparison_29 rfl (lv_at hl 1 rfl) ?_
      refine lv_iload_n hx hb dX4_readComparison_30 rfl (lv_at hl 2 rfl) ?_
      refine ti_callVvE (ci := 4) (av := [.int 1]) C hE hw (x_X4_readSum_1 l D A cy hJ M_13 iM_13 t ht ((tT_fr q_14).trans ((tT_fr q_3).trans hT)) j hj ((tT_fr q_14).trans ((tT_fr q_3).trans hL)) B n g_19 p0r_12 d_8 p1r_12) ⟨ml_X4_181, ym_X4_readSum, yv_X4_readSum, yi_X4_readSum, yc_X4_readSum⟩ yd_X4_readSum ob_1 (by decide) rfl rfl hl.1 (Nat.le_of_ble_eq_true rfl) ⟨by decide, by decide⟩ ⟨Nat.zero_le _, Nat.zero_le _⟩ dX4_readComparison_31 (fun M_21 H locs hp_21 hw => ?_)
      obtain ⟨iM_21, q_22, q_23, q_24, q_25, p0r_20, p1r_20⟩ := hp_21
      obtain ⟨g_26, eg_26⟩ : ∃ z : Nat → Int, z = pp_sm B n (pp_pt B n 7) g_19 := ⟨_, rfl⟩
      rw [← eg_26] at p0r_20
      have lg_26_0 : g_26 0 = (tI M_21 2 4).toInt := p0r_20.2.1.1
      have lg_26_1 : g_26 1 = (tI M_21 2 6).toInt := p0r_20.2.1.2.1
      have lg_26_4 : g_26 4 = (tI M_21 1 4).toInt := p0r_20.2.2.1.1
      have lg_26_7 : g_26 7 = (tI M_21 t 4).toInt := p0r_20.2.2.2.1.1
      have lg_26_8 : g_26 8 = (tI M_21 t 5).toInt := p0r_20.2.2.2.1.2.1
      obtain ⟨d_27, ed_27⟩ : ∃ z : Nat → Int, z = qq_sm B n j (pp_pt B n 7) (qq_pt B n j 7) g_19 d_8 := ⟨_, rfl⟩
      rw [← ed_27] at p1r_20
      refine lv_aload_n hx hb dX4_readComparison_34 rfl (lv_at hl 1 rfl) ?_
      refine ti_get (ci := 4) (k := 2) (N := 6) (T := TX4) (v := .ref (A (ti_laws t j) 0)) C hw iw_4 rfl ob_1 (by decide) (by decide) fl_X4_154 rfl (ti_Tv ((tT_fr q_22).trans ((tT_fr q_14).trans ((tT_fr q_3).trans hL)))) dX4_readComparison_35 ?_
      refine lv_iload_n hx hb dX4_readComparison_38 rfl (lv_at hl 0 rfl) ?_
      refine lv_ineg hx hb dX4_readComparison_39 ?_
      refine lv_topi (fun x_28 ex_28 => ?_)
      have tx_28 : x_28.toInt = -x_9.toInt := i_neg ex_28 rfl (by omega)
      refine ti_callVv (ci := 1) (av := [.int x_28]) C hw (x_X1_add l D A cy hJ M_21 iM_21 t ht j hj x_28 (by first | omega | exact Or.inl (by decide) | exact Or.inr (by decide)) B n g_26 p0r_20 d_27 p1r_20) ⟨ml_X4_170, ym_X1_add, yv_X1_add, yi_X1_add, yc_X1_add⟩ yd_X1_add (ob_l ht hj) (by decide) rfl rfl hl.1 (Nat.le_of_ble_eq_true rfl) ⟨by decide, by decide⟩ ⟨Nat.zero_le _, Nat.zero_le _⟩ dX4_readComparison_40 (fun M_30 H locs hp_30 hw => ?_)
      obtain ⟨iM_30, q_31, q_32, q_33, p0r_29, p1r_29⟩ := hp_30
      have lM_30_0 : g_26 0 = (tI M_30 2 4).toInt := p0r_29.2.1.1
      have lM_30_1 : g_26 1 = (tI M_30 2 6).toInt := p0r_29.2.1.2.1
      have lM_30_4 : g_26 4 = (tI M_30 1 4).toInt := p0r_29.2.2.1.1
      have lM_30_7 : g_26 7 = (tI M_30 t 4).toInt := p0r_29.2.2.2.1.1
      have lM_30_8 : g_26 8 = (tI M_30 t 5).toInt := p0r_29.2.2.2.1.2.1
      obtain ⟨d_34, ed_34⟩ : ∃ z : Nat → Int, z = qa j x_28.toInt d_27 := ⟨_, rfl⟩
      rw [← ed_34] at p1r_29
      exact hQ _ _ _ _ _ hw (⟨iM_30, ((q_31).trans ((q_22).trans ((q_14).trans q_3))), (f0.trans (f0_x q_32) (f0.trans q_23 (f0.trans q_15 q_4))), (((q_32 1).2.1).trans ((q_24).trans ((q_16).trans q_5))), (ot.trans q_33 (ot.trans q_25 (ot.trans q_17 q_6))), (by unfold pp_cm; rw [← eg_7]; unfold pp_c2; rw [if_pos ⟨by omega, by omega⟩, ← eg_19, ← eg_26]; exact p0r_29), (by unfold qq_cm; rw [← eg_7, ← ed_8]; unfold qq_c2; rw [if_pos ⟨by omega, by omega⟩, ← eg_19, ← ed_27, show -(g_7 0) = x_28.toInt by omega, ← ed_34]; exact p1r_29)⟩) dX4_readComparison_43
set_option maxHeartbeats 4000000 in
set_option maxRecDepth 100000 in
theorem x_X4_readNegated_1 (l : Launch) (D : va_G) (A : Nat → Nat → Nat) (cy : Nat → ClassId) (hJ : ti_inj ti_LT A) (M : ti_M) (hI : cI Tc M) (t : Nat) (ht : t = 3 ∨ t = 4) (hT : tT M 1 1 = some t) (j : Nat) (hj : j < 3) (hL : tT M 1 2 = some (ti_laws t j)) (B : Nat → Int) (n : Nat) (rg : Nat → Int) (hr : rC B n t rg M) (td : Nat → Int) (hq : tq t td M) : ti_KvE l yX4_readNegated cX4_readNegated 4 61 ti_LT D A cy M [.ref (A 1 0), .int 1] (fun M2 => cI Tc M2 ∧ M2.2.2.2 = M.2.2.2 ∧ f0 M2 M ∧ tI M2 2 1 = tI M 2 1 ∧ ot t M2 M ∧ rC B n t (pp_ng B n (pp_pt B n 7) rg) M2 ∧ tq t (qq_ng B n j (pp_pt B n 7) (qq_pt B n j 7) rg td) M2) := by
  refine ti_eVE yp_X4_readNegated hJ ti_LT_nd (Nat.le_of_ble_eq_true rfl) ?_
  intro p e s m args below meth c Q H0 C hE hQ hw ls hl
  have hx := C.1
  have hb := C.2.1
  have hl : lv_has ls 4 [(0, .ref (A 1 0)), (1, .int 1)] := hl
  have l0 : rg 0 = (tI M 2 4).toInt := hr.2.1.1
  have l1 : rg 1 = (tI M 2 6).toInt := hr.2.1.2.1
  have l2 : rg 2 = (tI M 2 5).toInt := hr.2.1.2.2.1
  have l3 : rg 3 = (tI M 2 3).toInt := hr.2.1.2.2.2
  have l4 : rg 4 = (tI M 1 4).toInt := hr.2.2.1.1
  have l5 : rg 5 = (tI M 1 5).toInt := hr.2.2.1.2.1
  have l7 : rg 7 = (tI M t 4).toInt := hr.2.2.2.1.1
  have l8 : rg 8 = (tI M t 5).toInt := hr.2.2.2.1.2.1
  have l9 : rg 9 = (tI M t 3).toInt := hr.2.2.2.1.2.2
  refine lv_iconst (v := 0) hx hb dX4_readNegated_0 (by decide) ?_
  refine lv_istore_n (lv' := [(2, .int 0), (0, .ref (A 1 0)), (1, .int 1)]) hx hb dX4_readNegated_1 rfl hl (by decide) rfl (fun ls hl => ?_)
  have hl_2_17 : ∀ (n_18 : Nat) (x_1 : Int32) (M_4 : ti_M) (g_11 : Nat → Int) (d_13 : Nat → Int) (H : Heap) (locs : List Loc) (ls : Array Slot), (65 - x_1.toInt : Int).toNat < n_18 → (0 ≤ x_1.toInt) → (x_1.toInt ≤ 65) → (cI Tc M_4) → (M_4.2.2.2 = M.2.2.2) → (f0 M_4 M) → (tI M_4 2 1 = tI M 2 1) → (ot t M_4 M) → (tT M_4 1 1 = (some t)) → (tT M_4 1 2 = (some (ti_laws t j))) → (rC B n t g_11 M_4) → (tq t d_13 M_4) → (pp_lp pp_qN (pp_kn B n) 65 rg = pp_lp pp_qN (pp_kn B n) (65 - (x_1.toInt).toNat) g_11) → (qq_ca B n 65 rg 0 = qq_ca B n (65 - (x_1.toInt).toNat) g_11 (x_1.toInt).toNat) → (td = d_13) → ti_H ti_LT D A cy H0 M_4 H locs → lv_has ls 4 [(2, .int x_1), (0, .ref (A 1 0)), (1, .int 1)] → W p l e (ti_rm 61) s m args below meth c H locs 0 0 Q (F0 m 2 ls []) := by
    intro n_18
    induction n_18 with
    | zero => intro x_1 M_4 g_11 d_13 H locs ls hf_18; exact absurd hf_18 (Nat.not_lt_zero _)
    | succ n_18 ih_18 =>
      intro x_1 M_4 g_11 d_13 H locs ls hf_18 b_2 b_3 iM_4 f_5 f_6 f_7 f_8 f_9 f_10 hs_12 tq_14 j_15 j_16 j_17 hw hl
      have lg_11_0 : g_11 0 = (tI M_4 2 4).toInt := hs_12.2.1.1
      have lg_11_1 : g_11 1 = (tI M_4 2 6).toInt := hs_12.2.1.2.1
      have lg_11_4 : g_11 4 = (tI M_4 1 4).toInt := hs_12.2.2.1.1
      have lg_11_7 : g_11 7 = (tI M_4 t 4).toInt := hs_12.2.2.2.1.1
      have lg_11_8 : g_11 8 = (tI M_4 t 5).toInt := hs_12.2.2.2.1.2.1
      refine lv_iload_n hx hb dX4_readNegated_2 rfl (lv_at hl 0 rfl) ?_
      refine lv_bipush (v := 64) hx hb dX4_readNegated_3 (by decide) ?_
      have hj_30_33 : ∀  (H : Heap) (locs : List Loc) (ls : Array Slot), (pp_lp pp_qN (pp_kn B n) 65 rg = g_11) → (qq_ca B n 65 rg 0 = (x_1.toInt).toNat) → (td = d_13) → ti_H ti_LT D A cy H0 M_4 H locs → lv_has ls 4 [(2, .int x_1), (0, .ref (A 1 0)), (1, .int 1)] → W p l e (ti_rm 61) s m args below meth c H locs 0 0 Q (F0 m 30 ls []) := by
        intro  H locs ls j_31 j_32 j_33 hw hl
        have lg_11_0 : g_11 0 = (tI M_4 2 4).toInt := hs_12.2.1.1
        have lg_11_1 : g_11 1 = (tI M_4 2 6).toInt := hs_12.2.1.2.1
        have lg_11_4 : g_11 4 = (tI M_4 1 4).toInt := hs_12.2.2.1.1
        have lg_11_7 : g_11 7 = (tI M_4 t 4).toInt := hs_12.2.2.2.1.1
        have lg_11_8 : g_11 8 = (tI M_4 t 5).toInt := hs_12.2.2.2.1.2.1
        refine lv_aload_n hx hb dX4_readNegated_30 rfl (lv_at hl 1 rfl) ?_
        refine lv_iload_n hx hb dX4_readNegated_31 rfl (lv_at hl 2 rfl) ?_
        refine ti_callVvE (ci := 4) (av := [.int 1]) C hE hw (x_X4_readComparison_1 l D A cy hJ M_4 iM_4 t ht (f_9) j hj (f_10) B n g_11 hs_12 d_13 tq_14) ⟨ml_X4_178, ym_X4_readComparison, yv_X4_readComparison, yi_X4_readComparison, yc_X4_readComparison⟩ yd_X4_readComparison ob_1 (by decide) rfl rfl hl.1 (Nat.le_of_ble_eq_true rfl) ⟨by decide, by decide⟩ ⟨Nat.zero_le _, Nat.zero_le _⟩ dX4_readNegated_32 (fun M_35 H locs hp_35 hw => ?_)
        obtain ⟨iM_35, q_36, q_37, q_38, q_39, p0r_34, p1r_34⟩ := hp_35
        obtain ⟨g_40, eg_40⟩ : ∃ z : Nat → Int, z = pp_cm B n (pp_pt B n 7) g_11 := ⟨_, rfl⟩
        rw [← eg_40] at p0r_34
        have lg_40_0 : g_40 0 = (tI M_35 2 4).toInt := p0r_34.2.1.1
        have lg_40_1 : g_40 1 = (tI M_35 2 6).toInt := p0r_34.2.1.2.1
        have lg_40_4 : g_40 4 = (tI M_35 1 4).toInt := p0r_34.2.2.1.1
        have lg_40_7 : g_40 7 = (tI M_35 t 4).toInt := p0r_34.2.2.2.1.1
        have lg_40_8 : g_40 8 = (tI M_35 t 5).toInt := p0r_34.2.2.2.1.2.1
        obtain ⟨d_41, ed_41⟩ : ∃ z : Nat → Int, z = qq_cm B n j (pp_pt B n 7) (qq_pt B n j 7) g_11 d_13 := ⟨_, rfl⟩
        rw [← ed_41] at p1r_34
        have EM : pp_ng B n (pp_pt B n 7) rg = g_40 := by unfold pp_ng; rw [j_31, ← eg_40]
        have ET : qq_ng B n j (pp_pt B n 7) (qq_pt B n j 7) rg td = qq_na j x_1.toInt.toNat d_41 := by unfold qq_ng; rw [j_32, j_31, show td = d_13 from j_33, ← ed_41]
        refine lv_iconst (v := 0) hx hb dX4_readNegated_35 (by decide) ?_
        refine lv_istore_n (lv' := [(3, .int 0), (2, .int x_1), (0, .ref (A 1 0)), (1, .int 1)]) hx hb dX4_readNegated_36 rfl hl (by decide) rfl (fun ls hl => ?_)
        have hl_37_58 : ∀ (n_59 : Nat) (x_42 : Int32) (M_45 : ti_M) (g_52 : Nat → Int) (d_54 : Nat → Int) (H : Heap) (locs : List Loc) (ls : Array Slot), (65 - x_42.toInt : Int).toNat < n_59 → (0 ≤ x_42.toInt) → (x_42.toInt ≤ 65) → (cI Tc M_45) → (M_45.2.2.2 = M.2.2.2) → (f0 M_45 M) → (tI M_45 2 1 = tI M 2 1) → (ot t M_45 M) → (tT M_45 1 1 = (some t)) → (tT M_45 1 2 = (some (ti_laws t j))) → (rC B n t g_52 M_45) → (tq t d_54 M_45) → (g_40 = g_52) → (qq_na j (x_42.toInt).toNat d_41 = d_54) → (x_42.toInt ≤ x_1.toInt) → ti_H ti_LT D A cy H0 M_45 H locs → lv_has ls 4 [(3, .int x_42), (2, .int x_1), (0, .ref (A 1 0)), (1, .int 1)] → W p l e (ti_rm 61) s m args below meth c H locs 0 0 Q (F0 m 37 ls []) := by
          intro n_59
          induction n_59 with
          | zero => intro x_42 M_45 g_52 d_54 H locs ls hf_59; exact absurd hf_59 (Nat.not_lt_zero _)
          | succ n_59 ih_59 =>
            intro x_42 M_45 g_52 d_54 H locs ls hf_59 b_43 b_44 iM_45 f_46 f_47 f_48 f_49 f_50 f_51 hs_53 tq_55 j_56 j_57 j_58 hw hl
            have lg_52_0 : g_52 0 = (tI M_45 2 4).toInt := hs_53.2.1.1
            have lg_52_1 : g_52 1 = (tI M_45 2 6).toInt := hs_53.2.1.2.1
            have lg_52_4 : g_52 4 = (tI M_45 1 4).toInt := hs_53.2.2.1.1
            have lg_52_7 : g_52 7 = (tI M_45 t 4).toInt := hs_53.2.2.2.1.1
            have lg_52_8 : g_52 8 = (tI M_45 t 5).toInt := hs_53.2.2.2.1.2.1
            refine lv_iload_n hx hb dX4_readNegated_37 rfl (lv_at hl 0 rfl) ?_
            refine lv_iload_n hx hb dX4_readNegated_38 rfl (lv_at hl 1 rfl) ?_
            refine sb_icmp_ge (tgt := 57) hx hb rfl rfl dX4_readNegated_39 (by decide) (fun c_39_59 => ?_) (fun c_39_59 => ?_)
            · exact hQ _ _ _ _ _ hw (⟨iM_45, (f_46), f_47, (f_48), f_49, (by rw [EM, j_56]; exact hs_53), (by rw [ET, show x_1.toInt.toNat = x_42.toInt.toNat by omega, j_57]; exact tq_55)⟩) dX4_readNegated_57
            · refine lv_aload_n hx hb dX4_readNegated_42 rfl (lv_at hl 2 rfl) ?_
              refine ti_get (ci := 4) (k := 2) (N := 6) (T := TX4) (v := .ref (A (ti_laws t j) 0)) C hw iw_4 rfl ob_1 (by decide) (by decide) fl_X4_154 rfl (ti_Tv (f_51)) dX4_readNegated_43 ?_
              refine lv_bipush (v := (-24)) hx hb dX4_readNegated_46 (by decide) ?_
              refine ti_callVv (ci := 1) (av := [.int (-24)]) C hw (x_X1_add l D A cy hJ M_45 iM_45 t ht j hj (-24) (by first | omega | exact Or.inl (by decide) | exact Or.inr (by decide)) B n g_52 hs_53 d_54 tq_55) ⟨ml_X4_170, ym_X1_add, yv_X1_add, yi_X1_add, yc_X1_add⟩ yd_X1_add (ob_l ht hj) (by decide) rfl rfl hl.1 (Nat.le_of_ble_eq_true rfl) ⟨by decide, by decide⟩ ⟨Nat.zero_le _, Nat.zero_le _⟩ dX4_readNegated_48 (fun M_62 H locs hp_62 hw => ?_)
              obtain ⟨iM_62, q_63, q_64, q_65, p0r_61, p1r_61⟩ := hp_62
              have lM_62_0 : g_52 0 = (tI M_62 2 4).toInt := p0r_61.2.1.1
              have lM_62_1 : g_52 1 = (tI M_62 2 6).toInt := p0r_61.2.1.2.1
              have lM_62_4 : g_52 4 = (tI M_62 1 4).toInt := p0r_61.2.2.1.1
              have lM_62_7 : g_52 7 = (tI M_62 t 4).toInt := p0r_61.2.2.2.1.1
              have lM_62_8 : g_52 8 = (tI M_62 t 5).toInt := p0r_61.2.2.2.1.2.1
              simp only [show ((-24) : Int32).toInt = (-24) by decide] at p1r_61
              obtain ⟨d_66, ed_66⟩ : ∃ z : Nat → Int, z = qa j (-24) d_54 := ⟨_, rfl⟩
              rw [← ed_66] at p1r_61
              obtain ⟨x_67, ex_67⟩ : ∃ z : Int32, z = x_42 + 1 := ⟨_, rfl⟩
              have tx_67 : x_67.toInt = x_42.toInt + 1 := i_add ex_67 rfl (by decide) (by omega) (by omega)
              refine lv_iinc (v := x_67) (lv' := [(3, .int x_67), (2, .int x_1), (0, .ref (A 1 0)), (1, .int 1)]) hx hb dX4_readNegated_51 hl (k := 0) rfl (by rw [ex_67]; rfl) (by decide) rfl (fun ls hl => ?_)
              refine lv_goto (tgt := 37) hx hb dX4_readNegated_54 (by decide) ?_
              exact ih_59 x_67 M_62 g_52 d_66 _ _ _ (by omega) (by first | omega | decide) (by first | omega | decide) iM_62 ((q_63).trans f_46) (f0.trans (f0_x q_64) f_47) (((q_64 1).2.1).trans f_48) (ot.trans q_65 f_49) ((tT_fr q_63).trans f_50) ((tT_fr q_63).trans f_51) p0r_61 p1r_61 j_56 (by rw [show x_67.toInt.toNat = x_42.toInt.toNat + 1 by omega, ed_66, ← j_57]; rfl) (by first | omega | decide) hw (lv_sub hl [0, 1, 2, 3] rfl)
        exact hl_37_58 ((65 - 0 : Int).toNat + 1) 0 M_35 g_40 d_41 _ _ _ (Nat.lt_succ_self _) (by have lt0 : (0 : Int32).toInt = 0 := (by decide); first | omega | decide) (by have lt0 : (0 : Int32).toInt = 0 := (by decide); first | omega | decide) iM_35 ((q_36).trans f_5) (f0.trans q_37 f_6) ((q_38).trans f_7) (ot.trans q_39 f_8) ((tT_fr q_36).trans f_9) ((tT_fr q_36).trans f_10) p0r_34 p1r_34 rfl rfl (by have lt0 : (0 : Int32).toInt = 0 := (by decide); first | omega | decide) hw (lv_sub hl [0, 1, 2, 3] rfl)
      refine sb_icmp_gt (tgt := 30) hx hb rfl (by decide : (64 : Int32).toInt = 64) dX4_readNegated_5 (by decide) (fun c_5_18 => ?_) (fun c_5_18 => ?_)
      · exact hj_30_33  _ _ _ (by rw [j_15, lp_end (P := pp_qN) (f := 65 - x_1.toInt.toNat) (s := g_11) (Or.inl (by omega))]) (by rw [j_16, ca_end (f := 65 - x_1.toInt.toNat) (s := g_11) (Or.inl (by omega))]) j_17 hw (lv_sub hl [0, 1, 2] rfl)
      · refine lv_aload_n hx hb dX4_readNegated_8 rfl (lv_at hl 1 rfl) ?_
        refine ti_get (ci := 4) (k := 0) (N := 6) (T := TX4) (v := .ref (A 2 0)) C hw iw_4 rfl ob_1 (by decide) (by decide) fl_X4_12 rfl rfl dX4_readNegated_9 ?_
        refine ti_get (ci := 7) (k := 4) (N := 7) (T := TX7) C hw iw_7 rfl ob_2 (by decide) (by decide) fl_X4_41 rfl rfl dX4_readNegated_12 ?_
        refine lv_topi (fun x_20 ex_20 => ?_)
        have bx_20 : 0 ≤ x_20.toInt ∧ x_20.toInt ≤ 41 := cI_rd iM_4 ob_2.1 ex_20
        have ux_20 : (tI M_4 2 4).toInt = x_20.toInt := by rw [ex_20]
        refine lv_bipush (v := 24) hx hb dX4_readNegated_15 (by decide) ?_
        refine sb_icmp_ne (tgt := 30) hx hb rfl (by decide : (24 : Int32).toInt = 24) dX4_readNegated_17 (by decide) (fun c_17_20 => ?_) (fun c_17_20 => ?_)
        · exact hj_30_33  _ _ _ (by rw [j_15, lp_end (P := pp_qN) (f := 65 - x_1.toInt.toNat) (s := g_11) (Or.inr (decide_eq_false (by omega)))]) (by rw [j_16, ca_end (f := 65 - x_1.toInt.toNat) (s := g_11) (Or.inr (decide_eq_false (by omega)))]) j_17 hw (lv_sub hl [0, 1, 2] rfl)
        · refine lv_aload_n hx hb dX4_readNegated_20 rfl (lv_at hl 1 rfl) ?_
          refine ti_callVvE (ci := 4) (av := []) C hE hw (x_X4_knot l D A cy hJ M_4 iM_4 t ht (f_9) B n g_11 hs_12 d_13 tq_14) ⟨ml_X4_167, ym_X4_knot, yv_X4_knot, yi_X4_knot, yc_X4_knot⟩ yd_X4_knot ob_1 (by decide) rfl rfl hl.1 (Nat.le_of_ble_eq_true rfl) ⟨by decide, by decide⟩ ⟨Nat.zero_le _, Nat.zero_le _⟩ dX4_readNegated_21 (fun M_23 H locs hp_23 hw => ?_)
          obtain ⟨iM_23, q_24, q_25, q_26, q_27, q_28, p0r_22, p1r_22⟩ := hp_23
          obtain ⟨g_29, eg_29⟩ : ∃ z : Nat → Int, z = pp_kn B n g_11 := ⟨_, rfl⟩
          rw [← eg_29] at p0r_22
          have lg_29_0 : g_29 0 = (tI M_23 2 4).toInt := p0r_22.2.1.1
          have lg_29_1 : g_29 1 = (tI M_23 2 6).toInt := p0r_22.2.1.2.1
          have lg_29_4 : g_29 4 = (tI M_23 1 4).toInt := p0r_22.2.2.1.1
          have lg_29_7 : g_29 7 = (tI M_23 t 4).toInt := p0r_22.2.2.2.1.1
          have lg_29_8 : g_29 8 = (tI M_23 t 5).toInt := p0r_22.2.2.2.1.2.1
          obtain ⟨x_30, ex_30⟩ : ∃ z : Int32, z = x_1 + 1 := ⟨_, rfl⟩
          have tx_30 : x_30.toInt = x_1.toInt + 1 := i_add ex_30 rfl (by decide) (by omega) (by omega)
          refine lv_iinc (v := x_30) (lv' := [(2, .int x_30), (0, .ref (A 1 0)), (1, .int 1)]) hx hb dX4_readNegated_24 hl (k := 0) rfl (by rw [ex_30]; rfl) (by decide) rfl (fun ls hl => ?_)
          refine lv_goto (tgt := 2) hx hb dX4_readNegated_27 (by decide) ?_
          exact ih_18 x_30 M_23 g_29 d_13 _ _ _ (by omega) (by first | omega | decide) (by first | omega | decide) iM_23 ((q_24).trans f_5) (f0.trans q_25 f_6) ((q_26).trans f_7) (ot.trans q_27 f_8) ((tT_fr q_24).trans f_9) ((tT_fr q_24).trans f_10) p0r_22 p1r_22 (j_15.trans (lp_step (decide_eq_true (by omega)) (by rw [eg_29]) (by omega))) (j_16.trans (ca_step (decide_eq_true (by omega)) (by rw [eg_29]) (by omega) (by omega))) j_17 hw (lv_sub hl [0, 1, 2] rfl)
  exact hl_2_17 ((65 - 0 : Int).toNat + 1) 0 M rg td _ _ _ (Nat.lt_succ_self _) (by have lt0 : (0 : Int32).toInt = 0 := (by decide); first | omega | decide) (by have lt0 : (0 : Int32).toInt = 0 := (by decide); first | omega | decide) hI rfl f0.refl rfl ot.refl (hT) (hL) hr hq rfl rfl rfl hw (lv_sub hl [0, 1, 2] rfl)
set_option maxHeartbeats 4000000 in
set_option maxRecDepth 100000 in
theorem x_X4_readBoth_1 (l : Launch) (D : va_G) (A : Nat → Nat → Nat) (cy : Nat → ClassId) (hJ : ti_inj ti_LT A) (M : ti_M) (hI : cI Tc M) (t : Nat) (ht : t = 3 ∨ t = 4) (hT : tT M 1 1 = some t) (j : Nat) (hj : j < 3) (hL : tT M 1 2 = some (ti_laws t j)) (B : Nat → Int) (n : Nat) (rg : Nat → Int) (hr : rC B n t rg M) (td : Nat → Int) (hq : tq t td M) : ti_KvE l yX4_readBoth cX4_readBoth 3 62 ti_LT D A cy M [.ref (A 1 0), .int 1] (fun M2 => cI Tc M2 ∧ M2.2.2.2 = M.2.2.2 ∧ f0 M2 M ∧ tI M2 2 1 = tI M 2 1 ∧ ot t M2 M ∧ rC B n t (pp_bo B n (pp_pt B n 7) rg) M2 ∧ tq t (qq_bo B n j (pp_pt B n 7) (qq_pt B n j 7) rg td) M2) := by
  refine ti_eVE yp_X4_readBoth hJ ti_LT_nd (Nat.le_of_ble_eq_true rfl) ?_
  intro p e s m args below meth c Q H0 C hE hQ hw ls hl
  have hx := C.1
  have hb := C.2.1
  have hl : lv_has ls 3 [(0, .ref (A 1 0)), (1, .int 1)] := hl
  have l0 : rg 0 = (tI M 2 4).toInt := hr.2.1.1
  have l1 : rg 1 = (tI M 2 6).toInt := hr.2.1.2.1
  have l2 : rg 2 = (tI M 2 5).toInt := hr.2.1.2.2.1
  have l3 : rg 3 = (tI M 2 3).toInt := hr.2.1.2.2.2
  have l4 : rg 4 = (tI M 1 4).toInt := hr.2.2.1.1
  have l5 : rg 5 = (tI M 1 5).toInt := hr.2.2.1.2.1
  have l7 : rg 7 = (tI M t 4).toInt := hr.2.2.2.1.1
  have l8 : rg 8 = (tI M t 5).toInt := hr.2.2.2.1.2.1
  have l9 : rg 9 = (tI M t 3).toInt := hr.2.2.2.1.2.2
  refine lv_aload_n hx hb dX4_readBoth_0 rfl (lv_at hl 0 rfl) ?_
  refine lv_iload_n hx hb dX4_readBoth_1 rfl (lv_at hl 1 rfl) ?_
  refine ti_callVvE (ci := 4) (av := [.int 1]) C hE hw (x_X4_readNegated_1 l D A cy hJ M hI t ht (hT) j hj (hL) B n rg hr td hq) ⟨ml_X4_175, ym_X4_readNegated, yv_X4_readNegated, yi_X4_readNegated, yc_X4_readNegated⟩ yd_X4_readNegated ob_1 (by decide) rfl rfl hl.1 (Nat.le_of_ble_eq_true rfl) ⟨by decide, by decide⟩ ⟨Nat.zero_le _, Nat.zero_le _⟩ dX4_readBoth_2 (fun M_2 H locs hp_2 hw => ?_)
  obtain ⟨iM_2, q_3, q_4, q_5, q_6, p0r_1, p1r_1⟩ := hp_2
  obtain ⟨g_7, eg_7⟩ : ∃ z : Nat → Int, z = pp_ng B n (pp_pt B n 7) rg := ⟨_, rfl⟩
  rw [← eg_7] at p0r_1
  have lg_7_0 : g_7 0 = (tI M_2 2 4).toInt := p0r_1.2.1.1
  have lg_7_1 : g_7 1 = (tI M_2 2 6).toInt := p0r_1.2.1.2.1
  have lg_7_4 : g_7 4 = (tI M_2 1 4).toInt := p0r_1.2.2.1.1
  have lg_7_7 : g_7 7 = (tI M_2 t 4).toInt := p0r_1.2.2.2.1.1
  have lg_7_8 : g_7 8 = (tI M_2 t 5).toInt := p0r_1.2.2.2.1.2.1
  obtain ⟨d_8, ed_8⟩ : ∃ z : Nat → Int, z = qq_ng B n j (pp_pt B n 7) (qq_pt B n j 7) rg td := ⟨_, rfl⟩
  rw [← ed_8] at p1r_1
  refine lv_iconst (v := 0) hx hb dX4_readBoth_5 (by decide) ?_
  refine lv_istore_n (lv' := [(2, .int 0), (0, .ref (A 1 0)), (1, .int 1)]) hx hb dX4_readBoth_6 rfl hl (by decide) rfl (fun ls hl => ?_)
  have hl_7_24 : ∀ (n_25 : Nat) (x_9 : Int32) (M_12 : ti_M) (g_19 : Nat → Int) (d_21 : Nat → Int) (H : Heap) (locs : List Loc) (ls : Array Slot), (64 - x_9.toInt : Int).toNat < n_25 → (0 ≤ x_9.toInt) → (x_9.toInt ≤ 64) → (cI Tc M_12) → (M_12.2.2.2 = M.2.2.2) → (f0 M_12 M) → (tI M_12 2 1 = tI M 2 1) → (ot t M_12 M) → (tT M_12 1 1 = (some t)) → (tT M_12 1 2 = (some (ti_laws t j))) → (rC B n t g_19 M_12) → (tq t d_21 M_12) → (pp_lp pp_qA (fun s => pp_ng B n (pp_pt B n 7) (pp_kn B n s)) 64 g_7 = pp_lp pp_qA (fun s => pp_ng B n (pp_pt B n 7) (pp_kn B n s)) (64 - (x_9.toInt).toNat) g_19) → (qq_lp pp_qA (fun s => pp_ng B n (pp_pt B n 7) (pp_kn B n s)) (fun s td => qa j (-22) (qq_ng B n j (pp_pt B n 7) (qq_pt B n j 7) (pp_kn B n s) td)) 64 g_7 d_8 = qq_lp pp_qA (fun s => pp_ng B n (pp_pt B n 7) (pp_kn B n s)) (fun s td => qa j (-22) (qq_ng B n j (pp_pt B n 7) (qq_pt B n j 7) (pp_kn B n s) td)) (64 - (x_9.toInt).toNat) g_19 d_21) → ti_H ti_LT D A cy H0 M_12 H locs → lv_has ls 3 [(2, .int x_9), (0, .ref (A 1 0)), (1, .int 1)] → W p l e (ti_rm 62) s m args below meth c H locs 0 0 Q (F0 m 7 ls []) := by
    intro n_25
    induction n_25 with
    | zero => intro x_9 M_12 g_19 d_21 H locs ls hf_25; exact absurd hf_25 (Nat.not_lt_zero _)
    | succ n_25 ih_25 =>
      intro x_9 M_12 g_19 d_21 H locs ls hf_25 b_10 b_11 iM_12 f_13 f_14 f_15 f_16 f_17 f_18 hs_20 tq_22 j_23 j_24 hw hl
      have lg_19_0 : g_19 0 = (tI M_12 2 4).toInt := hs_20.2.1.1
      have lg_19_1 : g_19 1 = (tI M_12 2 6).toInt := hs_20.2.1.2.1
      have lg_19_4 : g_19 4 = (tI M_12 1 4).toInt := hs_20.2.2.1.1
      have lg_19_7 : g_19 7 = (tI M_12 t 4).toInt := hs_20.2.2.2.1.1
      have lg_19_8 : g_19 8 = (tI M_12 t 5).toInt := hs_20.2.2.2.1.2.1
      refine lv_iload_n hx hb dX4_readBoth_7 rfl (lv_at hl 0 rfl) ?_
      refine lv_bipush (v := 64) hx hb dX4_readBoth_8 (by decide) ?_
      refine sb_icmp_ge (tgt := 49) hx hb rfl (by decide : (64 : Int32).toInt = 64) dX4_readBoth_10 (by decide) (fun c_10_25 => ?_) (fun c_10_25 => ?_)
      · exact hQ _ _ _ _ _ hw (⟨iM_12, (f_13), f_14, (f_15), f_16, (by unfold pp_bo; rw [← eg_7, j_23, lp_end (P := pp_qA) (f := 64 - x_9.toInt.toNat) (s := g_19) (Or.inl (by omega))]; exact hs_20), (by unfold qq_bo; rw [← eg_7, ← ed_8, j_24, qlp_end (P := pp_qA) (f := 64 - x_9.toInt.toNat) (s := g_19) (Or.inl (by omega))]; exact tq_22)⟩) dX4_readBoth_49
      · refine lv_aload_n hx hb dX4_readBoth_13 rfl (lv_at hl 1 rfl) ?_
        refine ti_get (ci := 4) (k := 0) (N := 6) (T := TX4) (v := .ref (A 2 0)) C hw iw_4 rfl ob_1 (by decide) (by decide) fl_X4_12 rfl rfl dX4_readBoth_14 ?_
        refine ti_get (ci := 7) (k := 4) (N := 7) (T := TX7) C hw iw_7 rfl ob_2 (by decide) (by decide) fl_X4_41 rfl rfl dX4_readBoth_17 ?_
        refine lv_topi (fun x_27 ex_27 => ?_)
        have bx_27 : 0 ≤ x_27.toInt ∧ x_27.toInt ≤ 41 := cI_rd iM_12 ob_2.1 ex_27
        have ux_27 : (tI M_12 2 4).toInt = x_27.toInt := by rw [ex_27]
        refine lv_bipush (v := 22) hx hb dX4_readBoth_20 (by decide) ?_
        refine sb_icmp_ne (tgt := 49) hx hb rfl (by decide : (22 : Int32).toInt = 22) dX4_readBoth_22 (by decide) (fun c_22_27 => ?_) (fun c_22_27 => ?_)
        · exact hQ _ _ _ _ _ hw (⟨iM_12, (f_13), f_14, (f_15), f_16, (by unfold pp_bo; rw [← eg_7, j_23, lp_end (P := pp_qA) (f := 64 - x_9.toInt.toNat) (s := g_19) (Or.inr (decide_eq_false (by omega)))]; exact hs_20), (by unfold qq_bo; rw [← eg_7, ← ed_8, j_24, qlp_end (P := pp_qA) (f := 64 - x_9.toInt.toNat) (s := g_19) (Or.inr (decide_eq_false (by omega)))]; exact tq_22)⟩) dX4_readBoth_49
        · refine lv_aload_n hx hb dX4_readBoth_25 rfl (lv_at hl 1 rfl) ?_
          refine ti_callVvE (ci := 4) (av := []) C hE hw (x_X4_knot l D A cy hJ M_12 iM_12 t ht (f_17) B n g_19 hs_20 d_21 tq_22) ⟨ml_X4_167, ym_X4_knot, yv_X4_knot, yi_X4_knot, yc_X4_knot⟩ yd_X4_knot ob_1 (by decide) rfl rfl hl.1 (Nat.le_of_ble_eq_true rfl) ⟨by decide, by decide⟩ ⟨Nat.zero_le _, Nat.zero_le _⟩ dX4_readBoth_26 (fun M_30 H locs hp_30 hw => ?_)
          obtain ⟨iM_30, q_31, q_32, q_33, q_34, q_35, p0r_29, p1r_29⟩ := hp_30
          obtain ⟨g_36, eg_36⟩ : ∃ z : Nat → Int, z = pp_kn B n g_19 := ⟨_, rfl⟩
          rw [← eg_36] at p0r_29
          have lg_36_0 : g_36 0 = (tI M_30 2 4).toInt := p0r_29.2.1.1
          have lg_36_1 : g_36 1 = (tI M_30 2 6).toInt := p0r_29.2.1.2.1
          have lg_36_4 : g_36 4 = (tI M_30 1 4).toInt := p0r_29.2.2.1.1
          have lg_36_7 : g_36 7 = (tI M_30 t 4).toInt := p0r_29.2.2.2.1.1
          have lg_36_8 : g_36 8 = (tI M_30 t 5).toInt := p0r_29.2.2.2.1.2.1
          refine lv_aload_n hx hb dX4_readBoth_29 rfl (lv_at hl 1 rfl) ?_
          refine lv_iload_n hx hb dX4_readBoth_30 rfl (lv_at hl 2 rfl) ?_
          refine ti_callVvE (ci := 4) (av := [.int 1]) C hE hw (x_X4_readNegated_1 l D A cy hJ M_30 iM_30 t ht ((tT_fr q_31).trans f_17) j hj ((tT_fr q_31).trans f_18) B n g_36 p0r_29 d_21 p1r_29) ⟨ml_X4_175, ym_X4_readNegated, yv_X4_readNegated, yi_X4_readNegated, yc_X4_readNegated⟩ yd_X4_readNegated ob_1 (by decide) rfl rfl hl.1 (Nat.le_of_ble_eq_true rfl) ⟨by decide, by decide⟩ ⟨Nat.zero_le _, Nat.zero_le _⟩ dX4_readBoth_31 (fun M_38 H locs hp_38 hw => ?_)
          obtain ⟨iM_38, q_39, q_40, q_41, q_42, p0r_37, p1r_37⟩ := hp_38
          obtain ⟨g_43, eg_43⟩ : ∃ z : Nat → Int, z = pp_ng B n (pp_pt B n 7) g_36 := ⟨_, rfl⟩
          rw [← eg_43] at p0r_37
          have lg_43_0 : g_43 0 = (tI M_38 2 4).toInt := p0r_37.2.1.1
          have lg_43_1 : g_43 1 = (tI M_38 2 6).toInt := p0r_37.2.1.2.1
          have lg_43_4 : g_43 4 = (tI M_38 1 4).toInt := p0r_37.2.2.1.1
          have lg_43_7 : g_43 7 = (tI M_38 t 4).toInt := p0r_37.2.2.2.1.1
          have lg_43_8 : g_43 8 = (tI M_38 t 5).toInt := p0r_37.2.2.2.1.2.1
          obtain ⟨d_44, ed_44⟩ : ∃ z : Nat → Int, z = qq_ng B n j (pp_pt B n 7) (qq_pt B n j 7) g_36 d_21 := ⟨_, rfl⟩
          rw [← ed_44] at p1r_37
          refine lv_aload_n hx hb dX4_readBoth_34 rfl (lv_at hl 1 rfl) ?_
          refine ti_get (ci := 4) (k := 2) (N := 6) (T := TX4) (v := .ref (A (ti_laws t j) 0)) C hw iw_4 rfl ob_1 (by decide) (by decide) fl_X4_154 rfl (ti_Tv ((tT_fr q_39).trans ((tT_fr q_31).trans f_18))) dX4_readBoth_35 ?_
          refine lv_bipush (v := (-22)) hx hb dX4_readBoth_38 (by decide) ?_
          refine ti_callVv (ci := 1) (av := [.int (-22)]) C hw (x_X1_add l D A cy hJ M_38 iM_38 t ht j hj (-22) (by first | omega | exact Or.inl (by decide) | exact Or.inr (by decide)) B n g_43 p0r_37 d_44 p1r_37) ⟨ml_X4_170, ym_X1_add, yv_X1_add, yi_X1_add, yc_X1_add⟩ yd_X1_add (ob_l ht hj) (by decide) rfl rfl hl.1 (Nat.le_of_ble_eq_true rfl) ⟨by decide, by decide⟩ ⟨Nat.zero_le _, Nat.zero_le _⟩ dX4_readBoth_40 (fun M_46 H locs hp_46 hw => ?_)
          obtain ⟨iM_46, q_47, q_48, q_49, p0r_45, p1r_45⟩ := hp_46
          have lM_46_0 : g_43 0 = (tI M_46 2 4).toInt := p0r_45.2.1.1
          have lM_46_1 : g_43 1 = (tI M_46 2 6).toInt := p0r_45.2.1.2.1
          have lM_46_4 : g_43 4 = (tI M_46 1 4).toInt := p0r_45.2.2.1.1
          have lM_46_7 : g_43 7 = (tI M_46 t 4).toInt := p0r_45.2.2.2.1.1
          have lM_46_8 : g_43 8 = (tI M_46 t 5).toInt := p0r_45.2.2.2.1.2.1
          simp only [show ((-22) : Int32).toInt = (-22) by decide] at p1r_45
          obtain ⟨d_50, ed_50⟩ : ∃ z : Nat → Int, z = qa j (-22) d_44 := ⟨_, rfl⟩
          rw [← ed_50] at p1r_45
          obtain ⟨x_51, ex_51⟩ : ∃ z : Int32, z = x_9 + 1 := ⟨_, rfl⟩
          have tx_51 : x_51.toInt = x_9.toInt + 1 := i_add ex_51 rfl (by decide) (by omega) (by omega)
          refine lv_iinc (v := x_51) (lv' := [(2, .int x_51), (0, .ref (A 1 0)), (1, .int 1)]) hx hb dX4_readBoth_43 hl (k := 0) rfl (by rw [ex_51]; rfl) (by decide) rfl (fun ls hl => ?_)
          refine lv_goto (tgt := 7) hx hb dX4_readBoth_46 (by decide) ?_
          exact ih_25 x_51 M_46 g_43 d_50 _ _ _ (by omega) (by first | omega | decide) (by first | omega | decide) iM_46 ((q_47).trans ((q_39).trans ((q_31).trans f_13))) (f0.trans (f0_x q_48) (f0.trans q_40 (f0.trans q_32 f_14))) (((q_48 1).2.1).trans ((q_41).trans ((q_33).trans f_15))) (ot.trans q_49 (ot.trans q_42 (ot.trans q_34 f_16))) ((tT_fr q_47).trans ((tT_fr q_39).trans ((tT_fr q_31).trans f_17))) ((tT_fr q_47).trans ((tT_fr q_39).trans ((tT_fr q_31).trans f_18))) p0r_45 p1r_45 (j_23.trans (lp_step (decide_eq_true (by omega)) (by rw [eg_43, eg_36]) (by omega))) (j_24.trans (qlp_step (decide_eq_true (by omega)) (by rw [eg_43, eg_36]) (by rw [ed_50, ed_44, eg_36]) (by omega))) hw (lv_sub hl [0, 1, 2] rfl)
  exact hl_7_24 ((64 - 0 : Int).toNat + 1) 0 M_2 g_7 d_8 _ _ _ (Nat.lt_succ_self _) (by have lt0 : (0 : Int32).toInt = 0 := (by decide); first | omega | decide) (by have lt0 : (0 : Int32).toInt = 0 := (by decide); first | omega | decide) iM_2 (q_3) q_4 (q_5) q_6 ((tT_fr q_3).trans hT) ((tT_fr q_3).trans hL) p0r_1 p1r_1 rfl rfl hw (lv_sub hl [0, 1, 2] rfl)
set_option maxHeartbeats 4000000 in
set_option maxRecDepth 100000 in
theorem x_X4_readEither_1 (l : Launch) (D : va_G) (A : Nat → Nat → Nat) (cy : Nat → ClassId) (hJ : ti_inj ti_LT A) (M : ti_M) (hI : cI Tc M) (t : Nat) (ht : t = 3 ∨ t = 4) (hT : tT M 1 1 = some t) (j : Nat) (hj : j < 3) (hL : tT M 1 2 = some (ti_laws t j)) (B : Nat → Int) (n : Nat) (rg : Nat → Int) (hr : rC B n t rg M) (td : Nat → Int) (hq : tq t td M) : ti_KvE l yX4_readEither cX4_readEither 3 63 ti_LT D A cy M [.ref (A 1 0), .int 1] (fun M2 => cI Tc M2 ∧ M2.2.2.2 = M.2.2.2 ∧ f0 M2 M ∧ tI M2 2 1 = tI M 2 1 ∧ ot t M2 M ∧ rC B n t (pp_ei B n (pp_pt B n 7) rg) M2 ∧ tq t (qq_ei B n j (pp_pt B n 7) (qq_pt B n j 7) rg td) M2) := by
  refine ti_eVE yp_X4_readEither hJ ti_LT_nd (Nat.le_of_ble_eq_true rfl) ?_
  intro p e s m args below meth c Q H0 C hE hQ hw ls hl
  have hx := C.1
  have hb := C.2.1
  have hl : lv_has ls 3 [(0, .ref (A 1 0)), (1, .int 1)] := hl
  have l0 : rg 0 = (tI M 2 4).toInt := hr.2.1.1
  have l1 : rg 1 = (tI M 2 6).toInt := hr.2.1.2.1
  have l2 : rg 2 = (tI M 2 5).toInt := hr.2.1.2.2.1
  have l3 : rg 3 = (tI M 2 3).toInt := hr.2.1.2.2.2
  have l4 : rg 4 = (tI M 1 4).toInt := hr.2.2.1.1
  have l5 : rg 5 = (tI M 1 5).toInt := hr.2.2.1.2.1
  have l7 : rg 7 = (tI M t 4).toInt := hr.2.2.2.1.1
  have l8 : rg 8 = (tI M t 5).toInt := hr.2.2.2.1.2.1
  have l9 : rg 9 = (tI M t 3).toInt := hr.2.2.2.1.2.2
  refine lv_aload_n hx hb dX4_readEither_0 rfl (lv_at hl 0 rfl) ?_
  refine lv_iload_n hx hb dX4_readEither_1 rfl (lv_at hl 1 rfl) ?_
  refine ti_callVvE (ci := 4) (av := [.int 1]) C hE hw (x_X4_readBoth_1 l D A cy hJ M hI t ht (hT) j hj (hL) B n rg hr td hq) ⟨ml_X4_164, ym_X4_readBoth, yv_X4_readBoth, yi_X4_readBoth, yc_X4_readBoth⟩ yd_X4_readBoth ob_1 (by decide) rfl rfl hl.1 (Nat.le_of_ble_eq_true rfl) ⟨by decide, by decide⟩ ⟨Nat.zero_le _, Nat.zero_le _⟩ dX4_readEither_2 (fun M_2 H locs hp_2 hw => ?_)
  obtain ⟨iM_2, q_3, q_4, q_5, q_6, p0r_1, p1r_1⟩ := hp_2
  obtain ⟨g_7, eg_7⟩ : ∃ z : Nat → Int, z = pp_bo B n (pp_pt B n 7) rg := ⟨_, rfl⟩
  rw [← eg_7] at p0r_1
  have lg_7_0 : g_7 0 = (tI M_2 2 4).toInt := p0r_1.2.1.1
  have lg_7_1 : g_7 1 = (tI M_2 2 6).toInt := p0r_1.2.1.2.1
  have lg_7_4 : g_7 4 = (tI M_2 1 4).toInt := p0r_1.2.2.1.1
  have lg_7_7 : g_7 7 = (tI M_2 t 4).toInt := p0r_1.2.2.2.1.1
  have lg_7_8 : g_7 8 = (tI M_2 t 5).toInt := p0r_1.2.2.2.1.2.1
  obtain ⟨d_8, ed_8⟩ : ∃ z : Nat → Int, z = qq_bo B n j (pp_pt B n 7) (qq_pt B n j 7) rg td := ⟨_, rfl⟩
  rw [← ed_8] at p1r_1
  refine lv_iconst (v := 0) hx hb dX4_readEither_5 (by decide) ?_
  refine lv_istore_n (lv' := [(2, .int 0), (0, .ref (A 1 0)), (1, .int 1)]) hx hb dX4_readEither_6 rfl hl (by decide) rfl (fun ls hl => ?_)
  have hl_7_24 : ∀ (n_25 : Nat) (x_9 : Int32) (M_12 : ti_M) (g_19 : Nat → Int) (d_21 : Nat → Int) (H : Heap) (locs : List Loc) (ls : Array Slot), (64 - x_9.toInt : Int).toNat < n_25 → (0 ≤ x_9.toInt) → (x_9.toInt ≤ 64) → (cI Tc M_12) → (M_12.2.2.2 = M.2.2.2) → (f0 M_12 M) → (tI M_12 2 1 = tI M 2 1) → (ot t M_12 M) → (tT M_12 1 1 = (some t)) → (tT M_12 1 2 = (some (ti_laws t j))) → (rC B n t g_19 M_12) → (tq t d_21 M_12) → (pp_lp pp_qO (fun s => pp_bo B n (pp_pt B n 7) (pp_kn B n s)) 64 g_7 = pp_lp pp_qO (fun s => pp_bo B n (pp_pt B n 7) (pp_kn B n s)) (64 - (x_9.toInt).toNat) g_19) → (qq_lp pp_qO (fun s => pp_bo B n (pp_pt B n 7) (pp_kn B n s)) (fun s td => qa j (-23) (qq_bo B n j (pp_pt B n 7) (qq_pt B n j 7) (pp_kn B n s) td)) 64 g_7 d_8 = qq_lp pp_qO (fun s => pp_bo B n (pp_pt B n 7) (pp_kn B n s)) (fun s td => qa j (-23) (qq_bo B n j (pp_pt B n 7) (qq_pt B n j 7) (pp_kn B n s) td)) (64 - (x_9.toInt).toNat) g_19 d_21) → ti_H ti_LT D A cy H0 M_12 H locs → lv_has ls 3 [(2, .int x_9), (0, .ref (A 1 0)), (1, .int 1)] → W p l e (ti_rm 63) s m args below meth c H locs 0 0 Q (F0 m 7 ls []) := by
    intro n_25
    induction n_25 with
    | zero => intro x_9 M_12 g_19 d_21 H locs ls hf_25; exact absurd hf_25 (Nat.not_lt_zero _)
    | succ n_25 ih_25 =>
      intro x_9 M_12 g_19 d_21 H locs ls hf_25 b_10 b_11 iM_12 f_13 f_14 f_15 f_16 f_17 f_18 hs_20 tq_22 j_23 j_24 hw hl
      have lg_19_0 : g_19 0 = (tI M_12 2 4).toInt := hs_20.2.1.1
      have lg_19_1 : g_19 1 = (tI M_12 2 6).toInt := hs_20.2.1.2.1
      have lg_19_4 : g_19 4 = (tI M_12 1 4).toInt := hs_20.2.2.1.1
      have lg_19_7 : g_19 7 = (tI M_12 t 4).toInt := hs_20.2.2.2.1.1
      have lg_19_8 : g_19 8 = (tI M_12 t 5).toInt := hs_20.2.2.2.1.2.1
      refine lv_iload_n hx hb dX4_readEither_7 rfl (lv_at hl 0 rfl) ?_
      refine lv_bipush (v := 64) hx hb dX4_readEither_8 (by decide) ?_
      refine sb_icmp_ge (tgt := 49) hx hb rfl (by decide : (64 : Int32).toInt = 64) dX4_readEither_10 (by decide) (fun c_10_25 => ?_) (fun c_10_25 => ?_)
      · exact hQ _ _ _ _ _ hw (⟨iM_12, (f_13), f_14, (f_15), f_16, (by unfold pp_ei; rw [← eg_7, j_23, lp_end (P := pp_qO) (f := 64 - x_9.toInt.toNat) (s := g_19) (Or.inl (by omega))]; exact hs_20), (by unfold qq_ei; rw [← eg_7, ← ed_8, j_24, qlp_end (P := pp_qO) (f := 64 - x_9.toInt.toNat) (s := g_19) (Or.inl (by omega))]; exact tq_22)⟩) dX4_readEither_49
      · refine lv_aload_n hx hb dX4_readEither_13 rfl (lv_at hl 1 rfl) ?_
        refine ti_get (ci := 4) (k := 0) (N := 6) (T := TX4) (v := .ref (A 2 0)) C hw iw_4 rfl ob_1 (by decide) (by decide) fl_X4_12 rfl rfl dX4_readEither_14 ?_
        refine ti_get (ci := 7) (k := 4) (N := 7) (T := TX7) C hw iw_7 rfl ob_2 (by decide) (by decide) fl_X4_41 rfl rfl dX4_readEither_17 ?_
        refine lv_topi (fun x_27 ex_27 => ?_)
        have bx_27 : 0 ≤ x_27.toInt ∧ x_27.toInt ≤ 41 := cI_rd iM_12 ob_2.1 ex_27
        have ux_27 : (tI M_12 2 4).toInt = x_27.toInt := by rw [ex_27]
        refine lv_bipush (v := 23) hx hb dX4_readEither_20 (by decide) ?_
        refine sb_icmp_ne (tgt := 49) hx hb rfl (by decide : (23 : Int32).toInt = 23) dX4_readEither_22 (by decide) (fun c_22_27 => ?_) (fun c_22_27 => ?_)
        · exact hQ _ _ _ _ _ hw (⟨iM_12, (f_13), f_14, (f_15), f_16, (by unfold pp_ei; rw [← eg_7, j_23, lp_end (P := pp_qO) (f := 64 - x_9.toInt.toNat) (s := g_19) (Or.inr (decide_eq_false (by omega)))]; exact hs_20), (by unfold qq_ei; rw [← eg_7, ← ed_8, j_24, qlp_end (P := pp_qO) (f := 64 - x_9.toInt.toNat) (s := g_19) (Or.inr (decide_eq_false (by omega)))]; exact tq_22)⟩) dX4_readEither_49
        · refine lv_aload_n hx hb dX4_readEither_25 rfl (lv_at hl 1 rfl) ?_
          refine ti_callVvE (ci := 4) (av := []) C hE hw (x_X4_knot l D A cy hJ M_12 iM_12 t ht (f_17) B n g_19 hs_20 d_21 tq_22) ⟨ml_X4_167, ym_X4_knot, yv_X4_knot, yi_X4_knot, yc_X4_knot⟩ yd_X4_knot ob_1 (by decide) rfl rfl hl.1 (Nat.le_of_ble_eq_true rfl) ⟨by decide, by decide⟩ ⟨Nat.zero_le _, Nat.zero_le _⟩ dX4_readEither_26 (fun M_30 H locs hp_30 hw => ?_)
          obtain ⟨iM_30, q_31, q_32, q_33, q_34, q_35, p0r_29, p1r_29⟩ := hp_30
          obtain ⟨g_36, eg_36⟩ : ∃ z : Nat → Int, z = pp_kn B n g_19 := ⟨_, rfl⟩
          rw [← eg_36] at p0r_29
          have lg_36_0 : g_36 0 = (tI M_30 2 4).toInt := p0r_29.2.1.1
          have lg_36_1 : g_36 1 = (tI M_30 2 6).toInt := p0r_29.2.1.2.1
          have lg_36_4 : g_36 4 = (tI M_30 1 4).toInt := p0r_29.2.2.1.1
          have lg_36_7 : g_36 7 = (tI M_30 t 4).toInt := p0r_29.2.2.2.1.1
          have lg_36_8 : g_36 8 = (tI M_30 t 5).toInt := p0r_29.2.2.2.1.2.1
          refine lv_aload_n hx hb dX4_readEither_29 rfl (lv_at hl 1 rfl) ?_
          refine lv_iload_n hx hb dX4_readEither_30 rfl (lv_at hl 2 rfl) ?_
          refine ti_callVvE (ci := 4) (av := [.int 1]) C hE hw (x_X4_readBoth_1 l D A cy hJ M_30 iM_30 t ht ((tT_fr q_31).trans f_17) j hj ((tT_fr q_31).trans f_18) B n g_36 p0r_29 d_21 p1r_29) ⟨ml_X4_164, ym_X4_readBoth, yv_X4_readBoth, yi_X4_readBoth, yc_X4_readBoth⟩ yd_X4_readBoth ob_1 (by decide) rfl rfl hl.1 (Nat.le_of_ble_eq_true rfl) ⟨by decide, by decide⟩ ⟨Nat.zero_le _, Nat.zero_le _⟩ dX4_readEither_31 (fun M_38 H locs hp_38 hw => ?_)
          obtain ⟨iM_38, q_39, q_40, q_41, q_42, p0r_37, p1r_37⟩ := hp_38
          obtain ⟨g_43, eg_43⟩ : ∃ z : Nat → Int, z = pp_bo B n (pp_pt B n 7) g_36 := ⟨_, rfl⟩
          rw [← eg_43] at p0r_37
          have lg_43_0 : g_43 0 = (tI M_38 2 4).toInt := p0r_37.2.1.1
          have lg_43_1 : g_43 1 = (tI M_38 2 6).toInt := p0r_37.2.1.2.1
          have lg_43_4 : g_43 4 = (tI M_38 1 4).toInt := p0r_37.2.2.1.1
          have lg_43_7 : g_43 7 = (tI M_38 t 4).toInt := p0r_37.2.2.2.1.1
          have lg_43_8 : g_43 8 = (tI M_38 t 5).toInt := p0r_37.2.2.2.1.2.1
          obtain ⟨d_44, ed_44⟩ : ∃ z : Nat → Int, z = qq_bo B n j (pp_pt B n 7) (qq_pt B n j 7) g_36 d_21 := ⟨_, rfl⟩
          rw [← ed_44] at p1r_37
          refine lv_aload_n hx hb dX4_readEither_34 rfl (lv_at hl 1 rfl) ?_
          refine ti_get (ci := 4) (k := 2) (N := 6) (T := TX4) (v := .ref (A (ti_laws t j) 0)) C hw iw_4 rfl ob_1 (by decide) (by decide) fl_X4_154 rfl (ti_Tv ((tT_fr q_39).trans ((tT_fr q_31).trans f_18))) dX4_readEither_35 ?_
          refine lv_bipush (v := (-23)) hx hb dX4_readEither_38 (by decide) ?_
          refine ti_callVv (ci := 1) (av := [.int (-23)]) C hw (x_X1_add l D A cy hJ M_38 iM_38 t ht j hj (-23) (by first | omega | exact Or.inl (by decide) | exact Or.inr (by decide)) B n g_43 p0r_37 d_44 p1r_37) ⟨ml_X4_170, ym_X1_add, yv_X1_add, yi_X1_add, yc_X1_add⟩ yd_X1_add (ob_l ht hj) (by decide) rfl rfl hl.1 (Nat.le_of_ble_eq_true rfl) ⟨by decide, by decide⟩ ⟨Nat.zero_le _, Nat.zero_le _⟩ dX4_readEither_40 (fun M_46 H locs hp_46 hw => ?_)
          obtain ⟨iM_46, q_47, q_48, q_49, p0r_45, p1r_45⟩ := hp_46
          have lM_46_0 : g_43 0 = (tI M_46 2 4).toInt := p0r_45.2.1.1
          have lM_46_1 : g_43 1 = (tI M_46 2 6).toInt := p0r_45.2.1.2.1
          have lM_46_4 : g_43 4 = (tI M_46 1 4).toInt := p0r_45.2.2.1.1
          have lM_46_7 : g_43 7 = (tI M_46 t 4).toInt := p0r_45.2.2.2.1.1
          have lM_46_8 : g_43 8 = (tI M_46 t 5).toInt := p0r_45.2.2.2.1.2.1
          simp only [show ((-23) : Int32).toInt = (-23) by decide] at p1r_45
          obtain ⟨d_50, ed_50⟩ : ∃ z : Nat → Int, z = qa j (-23) d_44 := ⟨_, rfl⟩
          rw [← ed_50] at p1r_45
          obtain ⟨x_51, ex_51⟩ : ∃ z : Int32, z = x_9 + 1 := ⟨_, rfl⟩
          have tx_51 : x_51.toInt = x_9.toInt + 1 := i_add ex_51 rfl (by decide) (by omega) (by omega)
          refine lv_iinc (v := x_51) (lv' := [(2, .int x_51), (0, .ref (A 1 0)), (1, .int 1)]) hx hb dX4_readEither_43 hl (k := 0) rfl (by rw [ex_51]; rfl) (by decide) rfl (fun ls hl => ?_)
          refine lv_goto (tgt := 7) hx hb dX4_readEither_46 (by decide) ?_
          exact ih_25 x_51 M_46 g_43 d_50 _ _ _ (by omega) (by first | omega | decide) (by first | omega | decide) iM_46 ((q_47).trans ((q_39).trans ((q_31).trans f_13))) (f0.trans (f0_x q_48) (f0.trans q_40 (f0.trans q_32 f_14))) (((q_48 1).2.1).trans ((q_41).trans ((q_33).trans f_15))) (ot.trans q_49 (ot.trans q_42 (ot.trans q_34 f_16))) ((tT_fr q_47).trans ((tT_fr q_39).trans ((tT_fr q_31).trans f_17))) ((tT_fr q_47).trans ((tT_fr q_39).trans ((tT_fr q_31).trans f_18))) p0r_45 p1r_45 (j_23.trans (lp_step (decide_eq_true (by omega)) (by rw [eg_43, eg_36]) (by omega))) (j_24.trans (qlp_step (decide_eq_true (by omega)) (by rw [eg_43, eg_36]) (by rw [ed_50, ed_44, eg_36]) (by omega))) hw (lv_sub hl [0, 1, 2] rfl)
  exact hl_7_24 ((64 - 0 : Int).toNat + 1) 0 M_2 g_7 d_8 _ _ _ (Nat.lt_succ_self _) (by have lt0 : (0 : Int32).toInt = 0 := (by decide); first | omega | decide) (by have lt0 : (0 : Int32).toInt = 0 := (by decide); first | omega | decide) iM_2 (q_3) q_4 (q_5) q_6 ((tT_fr q_3).trans hT) ((tT_fr q_3).trans hL) p0r_1 p1r_1 rfl rfl hw (lv_sub hl [0, 1, 2] rfl)
set_option maxHeartbeats 4000000 in
set_option maxRecDepth 100000 in
theorem x_X4_readPart_0 (l : Launch) (D : va_G) (A : Nat → Nat → Nat) (cy : Nat → ClassId) (hJ : ti_inj ti_LT A) (M : ti_M) (hI : cI Tc M) (t : Nat) (ht : t = 3 ∨ t = 4) (hT : tT M 1 1 = some t) (j : Nat) (hj : j < 3) (hL : tT M 1 2 = some (ti_laws t j)) (B : Nat → Int) (n : Nat) (rg : Nat → Int) (hr : rC B n t rg M) (td : Nat → Int) (hq : tq t td M) : ti_KvE l yX4_readPart cX4_readPart 3 64 ti_LT D A cy M [.ref (A 1 0), .int 0] (fun M2 => cI Tc M2 ∧ M2.2.2.2 = M.2.2.2 ∧ f0 M2 M ∧ tI M2 2 1 = tI M 2 1 ∧ ot t M2 M ∧ rC B n t (pp_pt B n 8 rg) M2 ∧ tq t (qq_pt B n j 8 rg td) M2) := by
  refine ti_eVE yp_X4_readPart hJ ti_LT_nd (Nat.le_of_ble_eq_true rfl) ?_
  intro p e s m args below meth c Q H0 C hE hQ hw ls hl
  have hx := C.1
  have hb := C.2.1
  have hl : lv_has ls 3 [(0, .ref (A 1 0)), (1, .int 0)] := hl
  have l0 : rg 0 = (tI M 2 4).toInt := hr.2.1.1
  have l1 : rg 1 = (tI M 2 6).toInt := hr.2.1.2.1
  have l2 : rg 2 = (tI M 2 5).toInt := hr.2.1.2.2.1
  have l3 : rg 3 = (tI M 2 3).toInt := hr.2.1.2.2.2
  have l4 : rg 4 = (tI M 1 4).toInt := hr.2.2.1.1
  have l5 : rg 5 = (tI M 1 5).toInt := hr.2.2.1.2.1
  have l7 : rg 7 = (tI M t 4).toInt := hr.2.2.2.1.1
  have l8 : rg 8 = (tI M t 5).toInt := hr.2.2.2.1.2.1
  have l9 : rg 9 = (tI M t 3).toInt := hr.2.2.2.1.2.2
  refine lv_aload_n hx hb dX4_readPart_0 rfl (lv_at hl 0 rfl) ?_
  refine ti_get (ci := 4) (k := 0) (N := 6) (T := TX4) (v := .ref (A 2 0)) C hw iw_4 rfl ob_1 (by decide) (by decide) fl_X4_12 rfl rfl dX4_readPart_1 ?_
  refine ti_get (ci := 7) (k := 4) (N := 7) (T := TX7) C hw iw_7 rfl ob_2 (by decide) (by decide) fl_X4_41 rfl rfl dX4_readPart_4 ?_
  refine lv_topi (fun x_1 ex_1 => ?_)
  have bx_1 : 0 ≤ x_1.toInt ∧ x_1.toInt ≤ 41 := cI_rd hI ob_2.1 ex_1
  have ux_1 : (tI M 2 4).toInt = x_1.toInt := by rw [ex_1]
  refine lv_istore_n (lv' := [(2, .int x_1), (0, .ref (A 1 0)), (1, .int 0)]) hx hb dX4_readPart_7 rfl hl (by decide) rfl (fun ls hl => ?_)
  refine lv_iload_n hx hb dX4_readPart_8 rfl (lv_at hl 0 rfl) ?_
  refine lv_bipush (v := 30) hx hb dX4_readPart_9 (by decide) ?_
  refine sb_icmp_ne (tgt := 28) hx hb rfl (by decide : (30 : Int32).toInt = 30) dX4_readPart_11 (by decide) (fun c_11_1 => ?_) (fun c_11_1 => ?_)
  · refine lv_iload_n hx hb dX4_readPart_28 rfl (lv_at hl 0 rfl) ?_
    refine lv_bipush (v := 30) hx hb dX4_readPart_29 (by decide) ?_
    refine sb_icmp_ne (tgt := 57) hx hb rfl (by decide : (30 : Int32).toInt = 30) dX4_readPart_31 (by decide) (fun c_31_3 => ?_) (fun h => by omega)
    refine lv_iload_n hx hb dX4_readPart_57 rfl (lv_at hl 0 rfl) ?_
    refine lv_bipush (v := 26) hx hb dX4_readPart_58 (by decide) ?_
    refine sb_icmp_ne (tgt := 84) hx hb rfl (by decide : (26 : Int32).toInt = 26) dX4_readPart_60 (by decide) (fun c_60_30 => ?_) (fun c_60_30 => ?_)
    · refine lv_iload_n hx hb dX4_readPart_84 rfl (lv_at hl 0 rfl) ?_
      refine lv_bipush (v := 26) hx hb dX4_readPart_85 (by decide) ?_
      refine sb_icmp_ne (tgt := 111) hx hb rfl (by decide : (26 : Int32).toInt = 26) dX4_readPart_87 (by decide) (fun c_87_41 => ?_) (fun h => by omega)
      refine lv_iload_n hx hb dX4_readPart_111 rfl (lv_at hl 0 rfl) ?_
      refine lv_bipush (v := 16) hx hb dX4_readPart_112 (by decide) ?_
      refine sb_icmp_lt (tgt := 139) hx hb rfl (by decide : (16 : Int32).toInt = 16) dX4_readPart_114 (by decide) (fun c_114_58 => ?_) (fun c_114_58 => ?_)
      · refine lv_aload_n hx hb dX4_readPart_139 rfl (lv_at hl 1 rfl) ?_
        refine lv_iconst (v := 1) hx hb dX4_readPart_140 (by decide) ?_
        refine ti_callVv (ci := 4) (av := [.int 1]) C hw (x_X4_refuse l D A cy hJ M hI t ht 1 B n rg hr) ⟨ml_X4_82, ym_X4_refuse, yv_X4_refuse, yi_X4_refuse, yc_X4_refuse⟩ yd_X4_refuse ob_1 (by decide) rfl rfl hl.1 (Nat.le_of_ble_eq_true rfl) ⟨by decide, by decide⟩ ⟨Nat.zero_le _, Nat.zero_le _⟩ dX4_readPart_141 (fun M_77 H locs hp_77 hw => ?_)
        obtain ⟨iM_77, q_78, q_79, q_80, q_81, p0r_76⟩ := hp_77
        have hlr_76_1 : (1 : Int32).toInt = 1 := by decide
        simp only [hlr_76_1] at p0r_76
        obtain ⟨g_82, eg_82⟩ : ∃ z : Nat → Int, z = pp_rf 1 rg := ⟨_, rfl⟩
        rw [← eg_82] at p0r_76
        have lg_82_0 : g_82 0 = (tI M_77 2 4).toInt := p0r_76.2.1.1
        have lg_82_1 : g_82 1 = (tI M_77 2 6).toInt := p0r_76.2.1.2.1
        have lg_82_4 : g_82 4 = (tI M_77 1 4).toInt := p0r_76.2.2.1.1
        have lg_82_7 : g_82 7 = (tI M_77 t 4).toInt := p0r_76.2.2.2.1.1
        have lg_82_8 : g_82 8 = (tI M_77 t 5).toInt := p0r_76.2.2.2.1.2.1
        have tq_83 : tq t td M_77 := tq_fr ht hq q_79 q_81
        exact hQ _ _ _ _ _ hw (⟨iM_77, (q_78), (f0_12 q_79), (q_80), (ot_12 ht q_79 q_81), (by rw [pe_8, if_neg (by omega)]; unfold pp_p0; rw [if_neg (by omega), if_neg (fun q => by omega), ← eg_82]; exact p0r_76), (by rw [qe_8, if_neg (by omega)]; unfold qq_p0; rw [if_neg (by omega), if_neg (fun q => by omega)]; exact tq_83)⟩) dX4_readPart_144
      · refine lv_iload_n hx hb dX4_readPart_117 rfl (lv_at hl 0 rfl) ?_
        refine lv_bipush (v := 21) hx hb dX4_readPart_118 (by decide) ?_
        refine sb_icmp_gt (tgt := 139) hx hb rfl (by decide : (21 : Int32).toInt = 21) dX4_readPart_120 (by decide) (fun c_120_59 => ?_) (fun c_120_59 => ?_)
        · refine lv_aload_n hx hb dX4_readPart_139 rfl (lv_at hl 1 rfl) ?_
          refine lv_iconst (v := 1) hx hb dX4_readPart_140 (by decide) ?_
          refine ti_callVv (ci := 4) (av := [.int 1]) C hw (x_X4_refuse l D A cy hJ M hI t ht 1 B n rg hr) ⟨ml_X4_82, ym_X4_refuse, yv_X4_refuse, yi_X4_refuse, yc_X4_refuse⟩ yd_X4_refuse ob_1 (by decide) rfl rfl hl.1 (Nat.le_of_ble_eq_true rfl) ⟨by decide, by decide⟩ ⟨Nat.zero_le _, Nat.zero_le _⟩ dX4_readPart_141 (fun M_85 H locs hp_85 hw => ?_)
          obtain ⟨iM_85, q_86, q_87, q_88, q_89, p0r_84⟩ := hp_85
          have hlr_84_1 : (1 : Int32).toInt = 1 := by decide
          simp only [hlr_84_1] at p0r_84
          obtain ⟨g_90, eg_90⟩ : ∃ z : Nat → Int, z = pp_rf 1 rg := ⟨_, rfl⟩
          rw [← eg_90] at p0r_84
          have lg_90_0 : g_90 0 = (tI M_85 2 4).toInt := p0r_84.2.1.1
          have lg_90_1 : g_90 1 = (tI M_85 2 6).toInt := p0r_84.2.1.2.1
          have lg_90_4 : g_90 4 = (tI M_85 1 4).toInt := p0r_84.2.2.1.1
          have lg_90_7 : g_90 7 = (tI M_85 t 4).toInt := p0r_84.2.2.2.1.1
          have lg_90_8 : g_90 8 = (tI M_85 t 5).toInt := p0r_84.2.2.2.1.2.1
          have tq_91 : tq t td M_85 := tq_fr ht hq q_87 q_89
          exact hQ _ _ _ _ _ hw (⟨iM_85, (q_86), (f0_12 q_87), (q_88), (ot_12 ht q_87 q_89), (by rw [pe_8, if_neg (by omega)]; unfold pp_p0; rw [if_neg (by omega), if_neg (fun q => by omega), ← eg_90]; exact p0r_84), (by rw [qe_8, if_neg (by omega)]; unfold qq_p0; rw [if_neg (by omega), if_neg (fun q => by omega)]; exact tq_91)⟩) dX4_readPart_144
        · refine lv_aload_n hx hb dX4_readPart_123 rfl (lv_at hl 1 rfl) ?_
          refine ti_get (ci := 4) (k := 2) (N := 6) (T := TX4) (v := .ref (A (ti_laws t j) 0)) C hw iw_4 rfl ob_1 (by decide) (by decide) fl_X4_154 rfl (ti_Tv (hL)) dX4_readPart_124 ?_
          refine lv_iload_n hx hb dX4_readPart_127 rfl (lv_at hl 0 rfl) ?_
          refine lv_ineg hx hb dX4_readPart_128 ?_
          refine lv_topi (fun x_61 ex_61 => ?_)
          have tx_61 : x_61.toInt = -x_1.toInt := i_neg ex_61 rfl (by omega)
          refine ti_callVv (ci := 1) (av := [.int x_61]) C hw (x_X1_add l D A cy hJ M hI t ht j hj x_61 (by first | omega | exact Or.inl (by decide) | exact Or.inr (by decide)) B n rg hr td hq) ⟨ml_X4_170, ym_X1_add, yv_X1_add, yi_X1_add, yc_X1_add⟩ yd_X1_add (ob_l ht hj) (by decide) rfl rfl hl.1 (Nat.le_of_ble_eq_true rfl) ⟨by decide, by decide⟩ ⟨Nat.zero_le _, Nat.zero_le _⟩ dX4_readPart_129 (fun M_63 H locs hp_63 hw => ?_)
          obtain ⟨iM_63, q_64, q_65, q_66, p0r_62, p1r_62⟩ := hp_63
          have lM_63_0 : rg 0 = (tI M_63 2 4).toInt := p0r_62.2.1.1
          have lM_63_1 : rg 1 = (tI M_63 2 6).toInt := p0r_62.2.1.2.1
          have lM_63_4 : rg 4 = (tI M_63 1 4).toInt := p0r_62.2.2.1.1
          have lM_63_7 : rg 7 = (tI M_63 t 4).toInt := p0r_62.2.2.2.1.1
          have lM_63_8 : rg 8 = (tI M_63 t 5).toInt := p0r_62.2.2.2.1.2.1
          obtain ⟨d_67, ed_67⟩ : ∃ z : Nat → Int, z = qa j x_61.toInt td := ⟨_, rfl⟩
          rw [← ed_67] at p1r_62
          refine lv_aload_n hx hb dX4_readPart_132 rfl (lv_at hl 1 rfl) ?_
          refine ti_callVvE (ci := 4) (av := []) C hE hw (x_X4_knot l D A cy hJ M_63 iM_63 t ht ((tT_fr q_64).trans hT) B n rg p0r_62 d_67 p1r_62) ⟨ml_X4_167, ym_X4_knot, yv_X4_knot, yi_X4_knot, yc_X4_knot⟩ yd_X4_knot ob_1 (by decide) rfl rfl hl.1 (Nat.le_of_ble_eq_true rfl) ⟨by decide, by decide⟩ ⟨Nat.zero_le _, Nat.zero_le _⟩ dX4_readPart_133 (fun M_69 H locs hp_69 hw => ?_)
          obtain ⟨iM_69, q_70, q_71, q_72, q_73, q_74, p0r_68, p1r_68⟩ := hp_69
          obtain ⟨g_75, eg_75⟩ : ∃ z : Nat → Int, z = pp_kn B n rg := ⟨_, rfl⟩
          rw [← eg_75] at p0r_68
          have lg_75_0 : g_75 0 = (tI M_69 2 4).toInt := p0r_68.2.1.1
          have lg_75_1 : g_75 1 = (tI M_69 2 6).toInt := p0r_68.2.1.2.1
          have lg_75_4 : g_75 4 = (tI M_69 1 4).toInt := p0r_68.2.2.1.1
          have lg_75_7 : g_75 7 = (tI M_69 t 4).toInt := p0r_68.2.2.2.1.1
          have lg_75_8 : g_75 8 = (tI M_69 t 5).toInt := p0r_68.2.2.2.1.2.1
          refine lv_goto (tgt := 144) hx hb dX4_readPart_136 (by decide) ?_
          exact hQ _ _ _ _ _ hw (⟨iM_69, ((q_70).trans q_64), (f0.trans q_71 (f0_x q_65)), ((q_72).trans ((q_65 1).2.1)), (ot.trans q_73 q_66), (by rw [pe_8, if_neg (by omega)]; unfold pp_p0; rw [if_neg (by omega), if_pos ⟨by omega, by omega⟩, ← eg_75]; exact p0r_68), (by rw [qe_8, if_neg (by omega)]; unfold qq_p0; rw [if_neg (by omega), if_pos ⟨by omega, by omega⟩, show -(rg 0) = x_61.toInt by omega, ← ed_67]; exact p1r_68)⟩) dX4_readPart_144
    · refine lv_aload_n hx hb dX4_readPart_63 rfl (lv_at hl 1 rfl) ?_
      refine ti_get (ci := 4) (k := 0) (N := 6) (T := TX4) (v := .ref (A 2 0)) C hw iw_4 rfl ob_1 (by decide) (by decide) fl_X4_12 rfl rfl dX4_readPart_64 ?_
      refine ti_get (ci := 7) (k := 6) (N := 7) (T := TX7) C hw iw_7 rfl ob_2 (by decide) (by decide) fl_X4_95 rfl rfl dX4_readPart_67 ?_
      refine lv_topi (fun x_32 ex_32 => ?_)
      have bx_32 : 0 ≤ x_32.toInt ∧ x_32.toInt ≤ 2147483647 := cI_rd hI ob_2.1 ex_32
      have ux_32 : (tI M 2 6).toInt = x_32.toInt := by rw [ex_32]
      refine lv_sipush (v := 9999) hx hb dX4_readPart_70 (by decide) ?_
      refine sb_icmp_le (tgt := 84) hx hb rfl (by decide : (9999 : Int32).toInt = 9999) dX4_readPart_73 (by decide) (fun c_73_32 => ?_) (fun c_73_32 => ?_)
      · refine lv_iload_n hx hb dX4_readPart_84 rfl (lv_at hl 0 rfl) ?_
        refine lv_bipush (v := 26) hx hb dX4_readPart_85 (by decide) ?_
        refine sb_icmp_ne (tgt := 111) hx hb rfl (by decide : (26 : Int32).toInt = 26) dX4_readPart_87 (by decide) (fun h => by omega) (fun c_87_42 => ?_)
        refine lv_aload_n hx hb dX4_readPart_90 rfl (lv_at hl 1 rfl) ?_
        refine ti_get (ci := 4) (k := 2) (N := 6) (T := TX4) (v := .ref (A (ti_laws t j) 0)) C hw iw_4 rfl ob_1 (by decide) (by decide) fl_X4_154 rfl (ti_Tv (hL)) dX4_readPart_91 ?_
        refine lv_aload_n hx hb dX4_readPart_94 rfl (lv_at hl 1 rfl) ?_
        refine ti_get (ci := 4) (k := 0) (N := 6) (T := TX4) (v := .ref (A 2 0)) C hw iw_4 rfl ob_1 (by decide) (by decide) fl_X4_12 rfl rfl dX4_readPart_95 ?_
        refine ti_get (ci := 7) (k := 6) (N := 7) (T := TX7) C hw iw_7 rfl ob_2 (by decide) (by decide) fl_X4_95 rfl rfl dX4_readPart_98 ?_
        refine ti_top (y := x_32) (ex_32.symm) ?_
        have u_44 : (tI M 2 6).toInt = (x_32 : Int32).toInt := by rw [(ex_32.symm)]
        refine ti_callVv (ci := 1) (av := [.int x_32]) C hw (x_X1_add l D A cy hJ M hI t ht j hj x_32 (by first | omega | exact Or.inl (by decide) | exact Or.inr (by decide)) B n rg hr td hq) ⟨ml_X4_170, ym_X1_add, yv_X1_add, yi_X1_add, yc_X1_add⟩ yd_X1_add (ob_l ht hj) (by decide) rfl rfl hl.1 (Nat.le_of_ble_eq_true rfl) ⟨by decide, by decide⟩ ⟨Nat.zero_le _, Nat.zero_le _⟩ dX4_readPart_101 (fun M_46 H locs hp_46 hw => ?_)
        obtain ⟨iM_46, q_47, q_48, q_49, p0r_45, p1r_45⟩ := hp_46
        have lM_46_0 : rg 0 = (tI M_46 2 4).toInt := p0r_45.2.1.1
        have lM_46_1 : rg 1 = (tI M_46 2 6).toInt := p0r_45.2.1.2.1
        have lM_46_4 : rg 4 = (tI M_46 1 4).toInt := p0r_45.2.2.1.1
        have lM_46_7 : rg 7 = (tI M_46 t 4).toInt := p0r_45.2.2.2.1.1
        have lM_46_8 : rg 8 = (tI M_46 t 5).toInt := p0r_45.2.2.2.1.2.1
        obtain ⟨d_50, ed_50⟩ : ∃ z : Nat → Int, z = qa j x_32.toInt td := ⟨_, rfl⟩
        rw [← ed_50] at p1r_45
        refine lv_aload_n hx hb dX4_readPart_104 rfl (lv_at hl 1 rfl) ?_
        refine ti_callVvE (ci := 4) (av := []) C hE hw (x_X4_knot l D A cy hJ M_46 iM_46 t ht ((tT_fr q_47).trans hT) B n rg p0r_45 d_50 p1r_45) ⟨ml_X4_167, ym_X4_knot, yv_X4_knot, yi_X4_knot, yc_X4_knot⟩ yd_X4_knot ob_1 (by decide) rfl rfl hl.1 (Nat.le_of_ble_eq_true rfl) ⟨by decide, by decide⟩ ⟨Nat.zero_le _, Nat.zero_le _⟩ dX4_readPart_105 (fun M_52 H locs hp_52 hw => ?_)
        obtain ⟨iM_52, q_53, q_54, q_55, q_56, q_57, p0r_51, p1r_51⟩ := hp_52
        obtain ⟨g_58, eg_58⟩ : ∃ z : Nat → Int, z = pp_kn B n rg := ⟨_, rfl⟩
        rw [← eg_58] at p0r_51
        have lg_58_0 : g_58 0 = (tI M_52 2 4).toInt := p0r_51.2.1.1
        have lg_58_1 : g_58 1 = (tI M_52 2 6).toInt := p0r_51.2.1.2.1
        have lg_58_4 : g_58 4 = (tI M_52 1 4).toInt := p0r_51.2.2.1.1
        have lg_58_7 : g_58 7 = (tI M_52 t 4).toInt := p0r_51.2.2.2.1.1
        have lg_58_8 : g_58 8 = (tI M_52 t 5).toInt := p0r_51.2.2.2.1.2.1
        refine lv_goto (tgt := 144) hx hb dX4_readPart_108 (by decide) ?_
        exact hQ _ _ _ _ _ hw (⟨iM_52, ((q_53).trans q_47), (f0.trans q_54 (f0_x q_48)), ((q_55).trans ((q_48 1).2.1)), (ot.trans q_56 q_49), (by rw [pe_8, if_neg (by omega)]; unfold pp_p0; rw [if_pos (by omega), if_neg (by omega), ← eg_58]; exact p0r_51), (by rw [qe_8, if_neg (by omega)]; unfold qq_p0; rw [if_pos (by omega), if_neg (by omega), show rg 1 = x_32.toInt by omega, ← ed_50]; exact p1r_51)⟩) dX4_readPart_144
      · refine lv_aload_n hx hb dX4_readPart_76 rfl (lv_at hl 1 rfl) ?_
        refine lv_iconst (v := 2) hx hb dX4_readPart_77 (by decide) ?_
        refine ti_callVv (ci := 4) (av := [.int 2]) C hw (x_X4_refuse l D A cy hJ M hI t ht 2 B n rg hr) ⟨ml_X4_82, ym_X4_refuse, yv_X4_refuse, yi_X4_refuse, yc_X4_refuse⟩ yd_X4_refuse ob_1 (by decide) rfl rfl hl.1 (Nat.le_of_ble_eq_true rfl) ⟨by decide, by decide⟩ ⟨Nat.zero_le _, Nat.zero_le _⟩ dX4_readPart_78 (fun M_35 H locs hp_35 hw => ?_)
        obtain ⟨iM_35, q_36, q_37, q_38, q_39, p0r_34⟩ := hp_35
        have hlr_34_2 : (2 : Int32).toInt = 2 := by decide
        simp only [hlr_34_2] at p0r_34
        obtain ⟨g_40, eg_40⟩ : ∃ z : Nat → Int, z = pp_rf 2 rg := ⟨_, rfl⟩
        rw [← eg_40] at p0r_34
        have lg_40_0 : g_40 0 = (tI M_35 2 4).toInt := p0r_34.2.1.1
        have lg_40_1 : g_40 1 = (tI M_35 2 6).toInt := p0r_34.2.1.2.1
        have lg_40_4 : g_40 4 = (tI M_35 1 4).toInt := p0r_34.2.2.1.1
        have lg_40_7 : g_40 7 = (tI M_35 t 4).toInt := p0r_34.2.2.2.1.1
        have lg_40_8 : g_40 8 = (tI M_35 t 5).toInt := p0r_34.2.2.2.1.2.1
        have tq_41 : tq t td M_35 := tq_fr ht hq q_37 q_39
        refine lv_goto (tgt := 144) hx hb dX4_readPart_81 (by decide) ?_
        exact hQ _ _ _ _ _ hw (⟨iM_35, (q_36), (f0_12 q_37), (q_38), (ot_12 ht q_37 q_39), (by rw [pe_8, if_neg (by omega)]; unfold pp_p0; rw [if_pos (by omega), if_pos (by omega), ← eg_40]; exact p0r_34), (by rw [qe_8, if_neg (by omega)]; unfold qq_p0; rw [if_pos (by omega), if_pos (by omega)]; exact tq_41)⟩) dX4_readPart_144
  · refine lv_iload_n hx hb dX4_readPart_14 rfl (lv_at hl 2 rfl) ?_
    refine lv_bipush (v := 8) hx hb dX4_readPart_15 (by decide) ?_
    refine sb_icmp_lt (tgt := 28) hx hb (by decide : (0 : Int32).toInt = 0) (by decide : (8 : Int32).toInt = 8) dX4_readPart_17 (by decide) (fun c_17_2 => ?_) (fun h => absurd h (by decide))
    refine lv_iload_n hx hb dX4_readPart_28 rfl (lv_at hl 0 rfl) ?_
    refine lv_bipush (v := 30) hx hb dX4_readPart_29 (by decide) ?_
    refine sb_icmp_ne (tgt := 57) hx hb rfl (by decide : (30 : Int32).toInt = 30) dX4_readPart_31 (by decide) (fun h => by omega) (fun c_31_4 => ?_)
    refine lv_aload_n hx hb dX4_readPart_34 rfl (lv_at hl 1 rfl) ?_
    refine ti_get (ci := 4) (k := 0) (N := 6) (T := TX4) (v := .ref (A 2 0)) C hw iw_4 rfl ob_1 (by decide) (by decide) fl_X4_12 rfl rfl dX4_readPart_35 ?_
    refine ti_callVvE (ci := 7) (av := []) C hE hw (x_X7_advance l D A cy hJ M hI ) ⟨ml_X4_92, ym_X7_advance, yv_X7_advance, yi_X7_advance, yc_X7_advance⟩ yd_X7_advance ob_2 (by decide) rfl rfl hl.1 (Nat.le_of_ble_eq_true rfl) ⟨by decide, by decide⟩ ⟨Nat.zero_le _, Nat.zero_le _⟩ dX4_readPart_38 (fun M_7 H locs hp_7 hw => ?_)
    obtain ⟨iM_7, q_8, q_9, q_10, q_11, p0r_6, p1r_6, p2r_6, p3r_6⟩ := hp_7
    have hs_12 := rC_av ht hr q_11 q_9 p0r_6 p1r_6 p2r_6 p3r_6
    obtain ⟨g_13, eg_13⟩ : ∃ z : Nat → Int, z = pp_av B n rg := ⟨_, rfl⟩
    rw [← eg_13] at hs_12
    have lg_13_0 : g_13 0 = (tI M_7 2 4).toInt := hs_12.2.1.1
    have lg_13_1 : g_13 1 = (tI M_7 2 6).toInt := hs_12.2.1.2.1
    have lg_13_4 : g_13 4 = (tI M_7 1 4).toInt := hs_12.2.2.1.1
    have lg_13_7 : g_13 7 = (tI M_7 t 4).toInt := hs_12.2.2.2.1.1
    have lg_13_8 : g_13 8 = (tI M_7 t 5).toInt := hs_12.2.2.2.1.2.1
    have tq_14 : tq t td M_7 := tq_fr ht hq (o2_12 q_9) q_11.1
    refine lv_aload_n hx hb dX4_readPart_41 rfl (lv_at hl 1 rfl) ?_
    refine lv_iload_n hx hb dX4_readPart_42 rfl (lv_at hl 2 rfl) ?_
    refine lv_iconst (v := 1) hx hb dX4_readPart_43 (by decide) ?_
    refine lv_iadd hx hb dX4_readPart_44 ?_
    refine ti_top (y := 1) (by decide) ?_
    refine ti_callVvE (ci := 4) (av := [.int 1]) C hE hw (x_X4_readEither_1 l D A cy hJ M_7 iM_7 t ht ((tT_fr q_8).trans hT) j hj ((tT_fr q_8).trans hL) B n g_13 hs_12 td tq_14) ⟨ml_X4_158, ym_X4_readEither, yv_X4_readEither, yi_X4_readEither, yc_X4_readEither⟩ yd_X4_readEither ob_1 (by decide) rfl rfl hl.1 (Nat.le_of_ble_eq_true rfl) ⟨by decide, by decide⟩ ⟨Nat.zero_le _, Nat.zero_le _⟩ dX4_readPart_45 (fun M_16 H locs hp_16 hw => ?_)
    obtain ⟨iM_16, q_17, q_18, q_19, q_20, p0r_15, p1r_15⟩ := hp_16
    obtain ⟨g_21, eg_21⟩ : ∃ z : Nat → Int, z = pp_ei B n (pp_pt B n 7) g_13 := ⟨_, rfl⟩
    rw [← eg_21] at p0r_15
    have lg_21_0 : g_21 0 = (tI M_16 2 4).toInt := p0r_15.2.1.1
    have lg_21_1 : g_21 1 = (tI M_16 2 6).toInt := p0r_15.2.1.2.1
    have lg_21_4 : g_21 4 = (tI M_16 1 4).toInt := p0r_15.2.2.1.1
    have lg_21_7 : g_21 7 = (tI M_16 t 4).toInt := p0r_15.2.2.2.1.1
    have lg_21_8 : g_21 8 = (tI M_16 t 5).toInt := p0r_15.2.2.2.1.2.1
    obtain ⟨d_22, ed_22⟩ : ∃ z : Nat → Int, z = qq_ei B n j (pp_pt B n 7) (qq_pt B n j 7) g_13 td := ⟨_, rfl⟩
    rw [← ed_22] at p1r_15
    refine lv_aload_n hx hb dX4_readPart_48 rfl (lv_at hl 1 rfl) ?_
    refine lv_bipush (v := 31) hx hb dX4_readPart_49 (by decide) ?_
    refine ti_callVvE (ci := 4) (av := [.int 31]) C hE hw (x_X4_take l D A cy hJ M_16 iM_16 t ht 31 B n g_21 p0r_15) ⟨ml_X4_85, ym_X4_take, yv_X4_take, yi_X4_take, yc_X4_take⟩ yd_X4_take ob_1 (by decide) rfl rfl hl.1 (Nat.le_of_ble_eq_true rfl) ⟨by decide, by decide⟩ ⟨Nat.zero_le _, Nat.zero_le _⟩ dX4_readPart_51 (fun M_24 H locs hp_24 hw => ?_)
    obtain ⟨iM_24, q_25, q_26, q_27, q_28, p0r_23⟩ := hp_24
    have hlr_23_31 : (31 : Int32).toInt = 31 := by decide
    simp only [hlr_23_31] at p0r_23
    obtain ⟨g_29, eg_29⟩ : ∃ z : Nat → Int, z = pp_tk B n 31 g_21 := ⟨_, rfl⟩
    rw [← eg_29] at p0r_23
    have lg_29_0 : g_29 0 = (tI M_24 2 4).toInt := p0r_23.2.1.1
    have lg_29_1 : g_29 1 = (tI M_24 2 6).toInt := p0r_23.2.1.2.1
    have lg_29_4 : g_29 4 = (tI M_24 1 4).toInt := p0r_23.2.2.1.1
    have lg_29_7 : g_29 7 = (tI M_24 t 4).toInt := p0r_23.2.2.2.1.1
    have lg_29_8 : g_29 8 = (tI M_24 t 5).toInt := p0r_23.2.2.2.1.2.1
    have tq_30 : tq t d_22 M_24 := tq_fr ht p1r_15 q_26 q_28
    refine lv_goto (tgt := 144) hx hb dX4_readPart_54 (by decide) ?_
    exact hQ _ _ _ _ _ hw (⟨iM_24, ((q_25).trans ((q_17).trans q_8)), (f0.trans (f0_12 q_26) (f0.trans q_18 (f0_12 (o2_12 q_9)))), ((q_27).trans ((q_19).trans q_10)), (ot.trans (ot_12 ht q_26 q_28) (ot.trans q_20 (ot_12 ht (o2_12 q_9) q_11.1))), (by rw [pe_8, if_pos (by omega), ← eg_13, ← eg_21, ← eg_29]; exact p0r_23), (by rw [qe_8, if_pos (by omega), ← eg_13, ← ed_22]; exact tq_30)⟩) dX4_readPart_144
set_option maxHeartbeats 4000000 in
set_option maxRecDepth 100000 in
theorem x_X4_readProduct_0 (l : Launch) (D : va_G) (A : Nat → Nat → Nat) (cy : Nat → ClassId) (hJ : ti_inj ti_LT A) (M : ti_M) (hI : cI Tc M) (t : Nat) (ht : t = 3 ∨ t = 4) (hT : tT M 1 1 = some t) (j : Nat) (hj : j < 3) (hL : tT M 1 2 = some (ti_laws t j)) (B : Nat → Int) (n : Nat) (rg : Nat → Int) (hr : rC B n t rg M) (td : Nat → Int) (hq : tq t td M) : ti_KvE l yX4_readProduct cX4_readProduct 4 65 ti_LT D A cy M [.ref (A 1 0), .int 0] (fun M2 => cI Tc M2 ∧ M2.2.2.2 = M.2.2.2 ∧ f0 M2 M ∧ tI M2 2 1 = tI M 2 1 ∧ ot t M2 M ∧ rC B n t (pp_pd B n (pp_pt B n 8) rg) M2 ∧ tq t (qq_pd B n j (pp_pt B n 8) (qq_pt B n j 8) rg td) M2) := by
  refine ti_eVE yp_X4_readProduct hJ ti_LT_nd (Nat.le_of_ble_eq_true rfl) ?_
  intro p e s m args below meth c Q H0 C hE hQ hw ls hl
  have hx := C.1
  have hb := C.2.1
  have hl : lv_has ls 4 [(0, .ref (A 1 0)), (1, .int 0)] := hl
  have l0 : rg 0 = (tI M 2 4).toInt := hr.2.1.1
  have l1 : rg 1 = (tI M 2 6).toInt := hr.2.1.2.1
  have l2 : rg 2 = (tI M 2 5).toInt := hr.2.1.2.2.1
  have l3 : rg 3 = (tI M 2 3).toInt := hr.2.1.2.2.2
  have l4 : rg 4 = (tI M 1 4).toInt := hr.2.2.1.1
  have l5 : rg 5 = (tI M 1 5).toInt := hr.2.2.1.2.1
  have l7 : rg 7 = (tI M t 4).toInt := hr.2.2.2.1.1
  have l8 : rg 8 = (tI M t 5).toInt := hr.2.2.2.1.2.1
  have l9 : rg 9 = (tI M t 3).toInt := hr.2.2.2.1.2.2
  refine lv_aload_n hx hb dX4_readProduct_0 rfl (lv_at hl 0 rfl) ?_
  refine lv_iload_n hx hb dX4_readProduct_1 rfl (lv_at hl 1 rfl) ?_
  refine ti_callVvE (ci := 4) (av := [.int 0]) C hE hw (x_X4_readPart_0 l D A cy hJ M hI t ht (hT) j hj (hL) B n rg hr td hq) ⟨ml_X4_187, ym_X4_readPart, yv_X4_readPart, yi_X4_readPart, yc_X4_readPart⟩ yd_X4_readPart ob_1 (by decide) rfl rfl hl.1 (Nat.le_of_ble_eq_true rfl) ⟨by decide, by decide⟩ ⟨Nat.zero_le _, Nat.zero_le _⟩ dX4_readProduct_2 (fun M_2 H locs hp_2 hw => ?_)
  obtain ⟨iM_2, q_3, q_4, q_5, q_6, p0r_1, p1r_1⟩ := hp_2
  obtain ⟨g_7, eg_7⟩ : ∃ z : Nat → Int, z = pp_pt B n 8 rg := ⟨_, rfl⟩
  rw [← eg_7] at p0r_1
  have lg_7_0 : g_7 0 = (tI M_2 2 4).toInt := p0r_1.2.1.1
  have lg_7_1 : g_7 1 = (tI M_2 2 6).toInt := p0r_1.2.1.2.1
  have lg_7_4 : g_7 4 = (tI M_2 1 4).toInt := p0r_1.2.2.1.1
  have lg_7_7 : g_7 7 = (tI M_2 t 4).toInt := p0r_1.2.2.2.1.1
  have lg_7_8 : g_7 8 = (tI M_2 t 5).toInt := p0r_1.2.2.2.1.2.1
  obtain ⟨d_8, ed_8⟩ : ∃ z : Nat → Int, z = qq_pt B n j 8 rg td := ⟨_, rfl⟩
  rw [← ed_8] at p1r_1
  refine lv_iconst (v := 0) hx hb dX4_readProduct_5 (by decide) ?_
  refine lv_istore_n (lv' := [(2, .int 0), (0, .ref (A 1 0)), (1, .int 0)]) hx hb dX4_readProduct_6 rfl hl (by decide) rfl (fun ls hl => ?_)
  have hl_7_24 : ∀ (n_25 : Nat) (x_9 : Int32) (M_12 : ti_M) (g_19 : Nat → Int) (d_21 : Nat → Int) (H : Heap) (locs : List Loc) (ls : Array Slot), (64 - x_9.toInt : Int).toNat < n_25 → (0 ≤ x_9.toInt) → (x_9.toInt ≤ 64) → (cI Tc M_12) → (M_12.2.2.2 = M.2.2.2) → (f0 M_12 M) → (tI M_12 2 1 = tI M 2 1) → (ot t M_12 M) → (tT M_12 1 1 = (some t)) → (tT M_12 1 2 = (some (ti_laws t j))) → (rC B n t g_19 M_12) → (tq t d_21 M_12) → (pp_lp pp_qT (fun s => (pp_pt B n 8) (pp_kn B n s)) 64 g_7 = pp_lp pp_qT (fun s => (pp_pt B n 8) (pp_kn B n s)) (64 - (x_9.toInt).toNat) g_19) → (qq_lp pp_qT (fun s => (pp_pt B n 8) (pp_kn B n s)) (fun s td => qa j (-(s 0)) ((qq_pt B n j 8) (pp_kn B n s) td)) 64 g_7 d_8 = qq_lp pp_qT (fun s => (pp_pt B n 8) (pp_kn B n s)) (fun s td => qa j (-(s 0)) ((qq_pt B n j 8) (pp_kn B n s) td)) (64 - (x_9.toInt).toNat) g_19 d_21) → ti_H ti_LT D A cy H0 M_12 H locs → lv_has ls 4 [(2, .int x_9), (0, .ref (A 1 0)), (1, .int 0)] → W p l e (ti_rm 65) s m args below meth c H locs 0 0 Q (F0 m 7 ls []) := by
    intro n_25
    induction n_25 with
    | zero => intro x_9 M_12 g_19 d_21 H locs ls hf_25; exact absurd hf_25 (Nat.not_lt_zero _)
    | succ n_25 ih_25 =>
      intro x_9 M_12 g_19 d_21 H locs ls hf_25 b_10 b_11 iM_12 f_13 f_14 f_15 f_16 f_17 f_18 hs_20 tq_22 j_23 j_24 hw hl
      have lg_19_0 : g_19 0 = (tI M_12 2 4).toInt := hs_20.2.1.1
      have lg_19_1 : g_19 1 = (tI M_12 2 6).toInt := hs_20.2.1.2.1
      have lg_19_4 : g_19 4 = (tI M_12 1 4).toInt := hs_20.2.2.1.1
      have lg_19_7 : g_19 7 = (tI M_12 t 4).toInt := hs_20.2.2.2.1.1
      have lg_19_8 : g_19 8 = (tI M_12 t 5).toInt := hs_20.2.2.2.1.2.1
      refine lv_iload_n hx hb dX4_readProduct_7 rfl (lv_at hl 0 rfl) ?_
      refine lv_bipush (v := 64) hx hb dX4_readProduct_8 (by decide) ?_
      refine sb_icmp_ge (tgt := 69) hx hb rfl (by decide : (64 : Int32).toInt = 64) dX4_readProduct_10 (by decide) (fun c_10_25 => ?_) (fun c_10_25 => ?_)
      · exact hQ _ _ _ _ _ hw (⟨iM_12, (f_13), f_14, (f_15), f_16, (by unfold pp_pd; rw [← eg_7, j_23, lp_end (P := pp_qT) (f := 64 - x_9.toInt.toNat) (s := g_19) (Or.inl (by omega))]; exact hs_20), (by unfold qq_pd; rw [← eg_7, ← ed_8, j_24, qlp_end (P := pp_qT) (f := 64 - x_9.toInt.toNat) (s := g_19) (Or.inl (by omega))]; exact tq_22)⟩) dX4_readProduct_69
      · refine lv_aload_n hx hb dX4_readProduct_13 rfl (lv_at hl 1 rfl) ?_
        refine ti_get (ci := 4) (k := 0) (N := 6) (T := TX4) (v := .ref (A 2 0)) C hw iw_4 rfl ob_1 (by decide) (by decide) fl_X4_12 rfl rfl dX4_readProduct_14 ?_
        refine ti_get (ci := 7) (k := 4) (N := 7) (T := TX7) C hw iw_7 rfl ob_2 (by decide) (by decide) fl_X4_41 rfl rfl dX4_readProduct_17 ?_
        refine lv_topi (fun x_27 ex_27 => ?_)
        have bx_27 : 0 ≤ x_27.toInt ∧ x_27.toInt ≤ 41 := cI_rd iM_12 ob_2.1 ex_27
        have ux_27 : (tI M_12 2 4).toInt = x_27.toInt := by rw [ex_27]
        refine lv_bipush (v := 40) hx hb dX4_readProduct_20 (by decide) ?_
        refine sb_icmp_eq (tgt := 37) hx hb rfl (by decide : (40 : Int32).toInt = 40) dX4_readProduct_22 (by decide) (fun c_22_27 => ?_) (fun c_22_27 => ?_)
        · refine lv_aload_n hx hb dX4_readProduct_37 rfl (lv_at hl 1 rfl) ?_
          refine ti_get (ci := 4) (k := 0) (N := 6) (T := TX4) (v := .ref (A 2 0)) C hw iw_4 rfl ob_1 (by decide) (by decide) fl_X4_12 rfl rfl dX4_readProduct_38 ?_
          refine ti_get (ci := 7) (k := 4) (N := 7) (T := TX7) C hw iw_7 rfl ob_2 (by decide) (by decide) fl_X4_41 rfl rfl dX4_readProduct_41 ?_
          refine ti_top (y := x_27) (ex_27.symm) ?_
          have u_31 : (tI M_12 2 4).toInt = (x_27 : Int32).toInt := by rw [(ex_27.symm)]
          refine lv_istore_n (lv' := [(3, .int x_27), (2, .int x_9), (0, .ref (A 1 0)), (1, .int 0)]) hx hb dX4_readProduct_44 rfl hl (by decide) rfl (fun ls hl => ?_)
          refine lv_aload_n hx hb dX4_readProduct_45 rfl (lv_at hl 2 rfl) ?_
          refine ti_callVvE (ci := 4) (av := []) C hE hw (x_X4_knot l D A cy hJ M_12 iM_12 t ht (f_17) B n g_19 hs_20 d_21 tq_22) ⟨ml_X4_167, ym_X4_knot, yv_X4_knot, yi_X4_knot, yc_X4_knot⟩ yd_X4_knot ob_1 (by decide) rfl rfl hl.1 (Nat.le_of_ble_eq_true rfl) ⟨by decide, by decide⟩ ⟨Nat.zero_le _, Nat.zero_le _⟩ dX4_readProduct_46 (fun M_33 H locs hp_33 hw => ?_)
          obtain ⟨iM_33, q_34, q_35, q_36, q_37, q_38, p0r_32, p1r_32⟩ := hp_33
          obtain ⟨g_39, eg_39⟩ : ∃ z : Nat → Int, z = pp_kn B n g_19 := ⟨_, rfl⟩
          rw [← eg_39] at p0r_32
          have lg_39_0 : g_39 0 = (tI M_33 2 4).toInt := p0r_32.2.1.1
          have lg_39_1 : g_39 1 = (tI M_33 2 6).toInt := p0r_32.2.1.2.1
          have lg_39_4 : g_39 4 = (tI M_33 1 4).toInt := p0r_32.2.2.1.1
          have lg_39_7 : g_39 7 = (tI M_33 t 4).toInt := p0r_32.2.2.2.1.1
          have lg_39_8 : g_39 8 = (tI M_33 t 5).toInt := p0r_32.2.2.2.1.2.1
          refine lv_aload_n hx hb dX4_readProduct_49 rfl (lv_at hl 2 rfl) ?_
          refine lv_iload_n hx hb dX4_readProduct_50 rfl (lv_at hl 3 rfl) ?_
          refine ti_callVvE (ci := 4) (av := [.int 0]) C hE hw (x_X4_readPart_0 l D A cy hJ M_33 iM_33 t ht ((tT_fr q_34).trans f_17) j hj ((tT_fr q_34).trans f_18) B n g_39 p0r_32 d_21 p1r_32) ⟨ml_X4_187, ym_X4_readPart, yv_X4_readPart, yi_X4_readPart, yc_X4_readPart⟩ yd_X4_readPart ob_1 (by decide) rfl rfl hl.1 (Nat.le_of_ble_eq_true rfl) ⟨by decide, by decide⟩ ⟨Nat.zero_le _, Nat.zero_le _⟩ dX4_readProduct_51 (fun M_41 H locs hp_41 hw => ?_)
          obtain ⟨iM_41, q_42, q_43, q_44, q_45, p0r_40, p1r_40⟩ := hp_41
          obtain ⟨g_46, eg_46⟩ : ∃ z : Nat → Int, z = pp_pt B n 8 g_39 := ⟨_, rfl⟩
          rw [← eg_46] at p0r_40
          have lg_46_0 : g_46 0 = (tI M_41 2 4).toInt := p0r_40.2.1.1
          have lg_46_1 : g_46 1 = (tI M_41 2 6).toInt := p0r_40.2.1.2.1
          have lg_46_4 : g_46 4 = (tI M_41 1 4).toInt := p0r_40.2.2.1.1
          have lg_46_7 : g_46 7 = (tI M_41 t 4).toInt := p0r_40.2.2.2.1.1
          have lg_46_8 : g_46 8 = (tI M_41 t 5).toInt := p0r_40.2.2.2.1.2.1
          obtain ⟨d_47, ed_47⟩ : ∃ z : Nat → Int, z = qq_pt B n j 8 g_39 d_21 := ⟨_, rfl⟩
          rw [← ed_47] at p1r_40
          refine lv_aload_n hx hb dX4_readProduct_54 rfl (lv_at hl 2 rfl) ?_
          refine ti_get (ci := 4) (k := 2) (N := 6) (T := TX4) (v := .ref (A (ti_laws t j) 0)) C hw iw_4 rfl ob_1 (by decide) (by decide) fl_X4_154 rfl (ti_Tv ((tT_fr q_42).trans ((tT_fr q_34).trans f_18))) dX4_readProduct_55 ?_
          refine lv_iload_n hx hb dX4_readProduct_58 rfl (lv_at hl 0 rfl) ?_
          refine lv_ineg hx hb dX4_readProduct_59 ?_
          refine lv_topi (fun x_48 ex_48 => ?_)
          have tx_48 : x_48.toInt = -x_27.toInt := i_neg ex_48 rfl (by omega)
          refine ti_callVv (ci := 1) (av := [.int x_48]) C hw (x_X1_add l D A cy hJ M_41 iM_41 t ht j hj x_48 (by first | omega | exact Or.inl (by decide) | exact Or.inr (by decide)) B n g_46 p0r_40 d_47 p1r_40) ⟨ml_X4_170, ym_X1_add, yv_X1_add, yi_X1_add, yc_X1_add⟩ yd_X1_add (ob_l ht hj) (by decide) rfl rfl hl.1 (Nat.le_of_ble_eq_true rfl) ⟨by decide, by decide⟩ ⟨Nat.zero_le _, Nat.zero_le _⟩ dX4_readProduct_60 (fun M_50 H locs hp_50 hw => ?_)
          obtain ⟨iM_50, q_51, q_52, q_53, p0r_49, p1r_49⟩ := hp_50
          have lM_50_0 : g_46 0 = (tI M_50 2 4).toInt := p0r_49.2.1.1
          have lM_50_1 : g_46 1 = (tI M_50 2 6).toInt := p0r_49.2.1.2.1
          have lM_50_4 : g_46 4 = (tI M_50 1 4).toInt := p0r_49.2.2.1.1
          have lM_50_7 : g_46 7 = (tI M_50 t 4).toInt := p0r_49.2.2.2.1.1
          have lM_50_8 : g_46 8 = (tI M_50 t 5).toInt := p0r_49.2.2.2.1.2.1
          obtain ⟨d_54, ed_54⟩ : ∃ z : Nat → Int, z = qa j x_48.toInt d_47 := ⟨_, rfl⟩
          rw [← ed_54] at p1r_49
          obtain ⟨x_55, ex_55⟩ : ∃ z : Int32, z = x_9 + 1 := ⟨_, rfl⟩
          have tx_55 : x_55.toInt = x_9.toInt + 1 := i_add ex_55 rfl (by decide) (by omega) (by omega)
          refine lv_iinc (v := x_55) (lv' := [(2, .int x_55), (3, .int x_27), (0, .ref (A 1 0)), (1, .int 0)]) hx hb dX4_readProduct_63 hl (k := 1) rfl (by rw [ex_55]; rfl) (by decide) rfl (fun ls hl => ?_)
          refine lv_goto (tgt := 7) hx hb dX4_readProduct_66 (by decide) ?_
          exact ih_25 x_55 M_50 g_46 d_54 _ _ _ (by omega) (by first | omega | decide) (by first | omega | decide) iM_50 ((q_51).trans ((q_42).trans ((q_34).trans f_13))) (f0.trans (f0_x q_52) (f0.trans q_43 (f0.trans q_35 f_14))) (((q_52 1).2.1).trans ((q_44).trans ((q_36).trans f_15))) (ot.trans q_53 (ot.trans q_45 (ot.trans q_37 f_16))) ((tT_fr q_51).trans ((tT_fr q_42).trans ((tT_fr q_34).trans f_17))) ((tT_fr q_51).trans ((tT_fr q_42).trans ((tT_fr q_34).trans f_18))) p0r_49 p1r_49 (j_23.trans (lp_step (decide_eq_true (by omega)) (by rw [eg_46, eg_39]) (by omega))) (j_24.trans (qlp_step (decide_eq_true (by omega)) (by rw [eg_46, eg_39]) (by rw [ed_54, show x_48.toInt = -(g_19 0) by omega, ed_47, eg_39]) (by omega))) hw (lv_sub hl [0, 2, 3] rfl)
        · refine lv_aload_n hx hb dX4_readProduct_25 rfl (lv_at hl 1 rfl) ?_
          refine ti_get (ci := 4) (k := 0) (N := 6) (T := TX4) (v := .ref (A 2 0)) C hw iw_4 rfl ob_1 (by decide) (by decide) fl_X4_12 rfl rfl dX4_readProduct_26 ?_
          refine ti_get (ci := 7) (k := 4) (N := 7) (T := TX7) C hw iw_7 rfl ob_2 (by decide) (by decide) fl_X4_41 rfl rfl dX4_readProduct_29 ?_
          refine ti_top (y := x_27) (ex_27.symm) ?_
          have u_29 : (tI M_12 2 4).toInt = (x_27 : Int32).toInt := by rw [(ex_27.symm)]
          refine lv_bipush (v := 41) hx hb dX4_readProduct_32 (by decide) ?_
          refine sb_icmp_ne (tgt := 69) hx hb rfl (by decide : (41 : Int32).toInt = 41) dX4_readProduct_34 (by decide) (fun c_34_29 => ?_) (fun c_34_29 => ?_)
          · exact hQ _ _ _ _ _ hw (⟨iM_12, (f_13), f_14, (f_15), f_16, (by unfold pp_pd; rw [← eg_7, j_23, lp_end (P := pp_qT) (f := 64 - x_9.toInt.toNat) (s := g_19) (Or.inr (decide_eq_false (by omega)))]; exact hs_20), (by unfold qq_pd; rw [← eg_7, ← ed_8, j_24, qlp_end (P := pp_qT) (f := 64 - x_9.toInt.toNat) (s := g_19) (Or.inr (decide_eq_false (by omega)))]; exact tq_22)⟩) dX4_readProduct_69
          · refine lv_aload_n hx hb dX4_readProduct_37 rfl (lv_at hl 1 rfl) ?_
            refine ti_get (ci := 4) (k := 0) (N := 6) (T := TX4) (v := .ref (A 2 0)) C hw iw_4 rfl ob_1 (by decide) (by decide) fl_X4_12 rfl rfl dX4_readProduct_38 ?_
            refine ti_get (ci := 7) (k := 4) (N := 7) (T := TX7) C hw iw_7 rfl ob_2 (by decide) (by decide) fl_X4_41 rfl rfl dX4_readProduct_41 ?_
            refine ti_top (y := x_27) (ex_27.symm) ?_
            have u_56 : (tI M_12 2 4).toInt = (x_27 : Int32).toInt := by rw [(ex_27.symm)]
            refine lv_istore_n (lv' := [(3, .int x_27), (2, .int x_9), (0, .ref (A 1 0)), (1, .int 0)]) hx hb dX4_readProduct_44 rfl hl (by decide) rfl (fun ls hl => ?_)
            refine lv_aload_n hx hb dX4_readProduct_45 rfl (lv_at hl 2 rfl) ?_
            refine ti_callVvE (ci := 4) (av := []) C hE hw (x_X4_knot l D A cy hJ M_12 iM_12 t ht (f_17) B n g_19 hs_20 d_21 tq_22) ⟨ml_X4_167, ym_X4_knot, yv_X4_knot, yi_X4_knot, yc_X4_knot⟩ yd_X4_knot ob_1 (by decide) rfl rfl hl.1 (Nat.le_of_ble_eq_true rfl) ⟨by decide, by decide⟩ ⟨Nat.zero_le _, Nat.zero_le _⟩ dX4_readProduct_46 (fun M_58 H locs hp_58 hw => ?_)
            obtain ⟨iM_58, q_59, q_60, q_61, q_62, q_63, p0r_57, p1r_57⟩ := hp_58
            obtain ⟨g_64, eg_64⟩ : ∃ z : Nat → Int, z = pp_kn B n g_19 := ⟨_, rfl⟩
            rw [← eg_64] at p0r_57
            have lg_64_0 : g_64 0 = (tI M_58 2 4).toInt := p0r_57.2.1.1
            have lg_64_1 : g_64 1 = (tI M_58 2 6).toInt := p0r_57.2.1.2.1
            have lg_64_4 : g_64 4 = (tI M_58 1 4).toInt := p0r_57.2.2.1.1
            have lg_64_7 : g_64 7 = (tI M_58 t 4).toInt := p0r_57.2.2.2.1.1
            have lg_64_8 : g_64 8 = (tI M_58 t 5).toInt := p0r_57.2.2.2.1.2.1
            refine lv_aload_n hx hb dX4_readProduct_49 rfl (lv_at hl 2 rfl) ?_
            refine lv_iload_n hx hb dX4_readProduct_50 rfl (lv_at hl 3 rfl) ?_
            refine ti_callVvE (ci := 4) (av := [.int 0]) C hE hw (x_X4_readPart_0 l D A cy hJ M_58 iM_58 t ht ((tT_fr q_59).trans f_17) j hj ((tT_fr q_59).trans f_18) B n g_64 p0r_57 d_21 p1r_57) ⟨ml_X4_187, ym_X4_readPart, yv_X4_readPart, yi_X4_readPart, yc_X4_readPart⟩ yd_X4_readPart ob_1 (by decide) rfl rfl hl.1 (Nat.le_of_ble_eq_true rfl) ⟨by decide, by decide⟩ ⟨Nat.zero_le _, Nat.zero_le _⟩ dX4_readProduct_51 (fun M_66 H locs hp_66 hw => ?_)
            obtain ⟨iM_66, q_67, q_68, q_69, q_70, p0r_65, p1r_65⟩ := hp_66
            obtain ⟨g_71, eg_71⟩ : ∃ z : Nat → Int, z = pp_pt B n 8 g_64 := ⟨_, rfl⟩
            rw [← eg_71] at p0r_65
            have lg_71_0 : g_71 0 = (tI M_66 2 4).toInt := p0r_65.2.1.1
            have lg_71_1 : g_71 1 = (tI M_66 2 6).toInt := p0r_65.2.1.2.1
            have lg_71_4 : g_71 4 = (tI M_66 1 4).toInt := p0r_65.2.2.1.1
            have lg_71_7 : g_71 7 = (tI M_66 t 4).toInt := p0r_65.2.2.2.1.1
            have lg_71_8 : g_71 8 = (tI M_66 t 5).toInt := p0r_65.2.2.2.1.2.1
            obtain ⟨d_72, ed_72⟩ : ∃ z : Nat → Int, z = qq_pt B n j 8 g_64 d_21 := ⟨_, rfl⟩
            rw [← ed_72] at p1r_65
            refine lv_aload_n hx hb dX4_readProduct_54 rfl (lv_at hl 2 rfl) ?_
            refine ti_get (ci := 4) (k := 2) (N := 6) (T := TX4) (v := .ref (A (ti_laws t j) 0)) C hw iw_4 rfl ob_1 (by decide) (by decide) fl_X4_154 rfl (ti_Tv ((tT_fr q_67).trans ((tT_fr q_59).trans f_18))) dX4_readProduct_55 ?_
            refine lv_iload_n hx hb dX4_readProduct_58 rfl (lv_at hl 0 rfl) ?_
            refine lv_ineg hx hb dX4_readProduct_59 ?_
            refine lv_topi (fun x_73 ex_73 => ?_)
            have tx_73 : x_73.toInt = -x_27.toInt := i_neg ex_73 rfl (by omega)
            refine ti_callVv (ci := 1) (av := [.int x_73]) C hw (x_X1_add l D A cy hJ M_66 iM_66 t ht j hj x_73 (by first | omega | exact Or.inl (by decide) | exact Or.inr (by decide)) B n g_71 p0r_65 d_72 p1r_65) ⟨ml_X4_170, ym_X1_add, yv_X1_add, yi_X1_add, yc_X1_add⟩ yd_X1_add (ob_l ht hj) (by decide) rfl rfl hl.1 (Nat.le_of_ble_eq_true rfl) ⟨by decide, by decide⟩ ⟨Nat.zero_le _, Nat.zero_le _⟩ dX4_readProduct_60 (fun M_75 H locs hp_75 hw => ?_)
            obtain ⟨iM_75, q_76, q_77, q_78, p0r_74, p1r_74⟩ := hp_75
            have lM_75_0 : g_71 0 = (tI M_75 2 4).toInt := p0r_74.2.1.1
            have lM_75_1 : g_71 1 = (tI M_75 2 6).toInt := p0r_74.2.1.2.1
            have lM_75_4 : g_71 4 = (tI M_75 1 4).toInt := p0r_74.2.2.1.1
            have lM_75_7 : g_71 7 = (tI M_75 t 4).toInt := p0r_74.2.2.2.1.1
            have lM_75_8 : g_71 8 = (tI M_75 t 5).toInt := p0r_74.2.2.2.1.2.1
            obtain ⟨d_79, ed_79⟩ : ∃ z : Nat → Int, z = qa j x_73.toInt d_72 := ⟨_, rfl⟩
            rw [← ed_79] at p1r_74
            obtain ⟨x_80, ex_80⟩ : ∃ z : Int32, z = x_9 + 1 := ⟨_, rfl⟩
            have tx_80 : x_80.toInt = x_9.toInt + 1 := i_add ex_80 rfl (by decide) (by omega) (by omega)
            refine lv_iinc (v := x_80) (lv' := [(2, .int x_80), (3, .int x_27), (0, .ref (A 1 0)), (1, .int 0)]) hx hb dX4_readProduct_63 hl (k := 1) rfl (by rw [ex_80]; rfl) (by decide) rfl (fun ls hl => ?_)
            refine lv_goto (tgt := 7) hx hb dX4_readProduct_66 (by decide) ?_
            exact ih_25 x_80 M_75 g_71 d_79 _ _ _ (by omega) (by first | omega | decide) (by first | omega | decide) iM_75 ((q_76).trans ((q_67).trans ((q_59).trans f_13))) (f0.trans (f0_x q_77) (f0.trans q_68 (f0.trans q_60 f_14))) (((q_77 1).2.1).trans ((q_69).trans ((q_61).trans f_15))) (ot.trans q_78 (ot.trans q_70 (ot.trans q_62 f_16))) ((tT_fr q_76).trans ((tT_fr q_67).trans ((tT_fr q_59).trans f_17))) ((tT_fr q_76).trans ((tT_fr q_67).trans ((tT_fr q_59).trans f_18))) p0r_74 p1r_74 (j_23.trans (lp_step (decide_eq_true (by omega)) (by rw [eg_71, eg_64]) (by omega))) (j_24.trans (qlp_step (decide_eq_true (by omega)) (by rw [eg_71, eg_64]) (by rw [ed_79, show x_73.toInt = -(g_19 0) by omega, ed_72, eg_64]) (by omega))) hw (lv_sub hl [0, 2, 3] rfl)
  exact hl_7_24 ((64 - 0 : Int).toNat + 1) 0 M_2 g_7 d_8 _ _ _ (Nat.lt_succ_self _) (by have lt0 : (0 : Int32).toInt = 0 := (by decide); first | omega | decide) (by have lt0 : (0 : Int32).toInt = 0 := (by decide); first | omega | decide) iM_2 (q_3) q_4 (q_5) q_6 ((tT_fr q_3).trans hT) ((tT_fr q_3).trans hL) p0r_1 p1r_1 rfl rfl hw (lv_sub hl [0, 1, 2] rfl)
set_option maxHeartbeats 4000000 in
set_option maxRecDepth 100000 in
theorem x_X4_readSum_0 (l : Launch) (D : va_G) (A : Nat → Nat → Nat) (cy : Nat → ClassId) (hJ : ti_inj ti_LT A) (M : ti_M) (hI : cI Tc M) (t : Nat) (ht : t = 3 ∨ t = 4) (hT : tT M 1 1 = some t) (j : Nat) (hj : j < 3) (hL : tT M 1 2 = some (ti_laws t j)) (B : Nat → Int) (n : Nat) (rg : Nat → Int) (hr : rC B n t rg M) (td : Nat → Int) (hq : tq t td M) : ti_KvE l yX4_readSum cX4_readSum 4 66 ti_LT D A cy M [.ref (A 1 0), .int 0] (fun M2 => cI Tc M2 ∧ M2.2.2.2 = M.2.2.2 ∧ f0 M2 M ∧ tI M2 2 1 = tI M 2 1 ∧ ot t M2 M ∧ rC B n t (pp_sm B n (pp_pt B n 8) rg) M2 ∧ tq t (qq_sm B n j (pp_pt B n 8) (qq_pt B n j 8) rg td) M2) := by
  refine ti_eVE yp_X4_readSum hJ ti_LT_nd (Nat.le_of_ble_eq_true rfl) ?_
  intro p e s m args below meth c Q H0 C hE hQ hw ls hl
  have hx := C.1
  have hb := C.2.1
  have hl : lv_has ls 4 [(0, .ref (A 1 0)), (1, .int 0)] := hl
  have l0 : rg 0 = (tI M 2 4).toInt := hr.2.1.1
  have l1 : rg 1 = (tI M 2 6).toInt := hr.2.1.2.1
  have l2 : rg 2 = (tI M 2 5).toInt := hr.2.1.2.2.1
  have l3 : rg 3 = (tI M 2 3).toInt := hr.2.1.2.2.2
  have l4 : rg 4 = (tI M 1 4).toInt := hr.2.2.1.1
  have l5 : rg 5 = (tI M 1 5).toInt := hr.2.2.1.2.1
  have l7 : rg 7 = (tI M t 4).toInt := hr.2.2.2.1.1
  have l8 : rg 8 = (tI M t 5).toInt := hr.2.2.2.1.2.1
  have l9 : rg 9 = (tI M t 3).toInt := hr.2.2.2.1.2.2
  refine lv_aload_n hx hb dX4_readSum_0 rfl (lv_at hl 0 rfl) ?_
  refine lv_iload_n hx hb dX4_readSum_1 rfl (lv_at hl 1 rfl) ?_
  refine ti_callVvE (ci := 4) (av := [.int 0]) C hE hw (x_X4_readProduct_0 l D A cy hJ M hI t ht (hT) j hj (hL) B n rg hr td hq) ⟨ml_X4_184, ym_X4_readProduct, yv_X4_readProduct, yi_X4_readProduct, yc_X4_readProduct⟩ yd_X4_readProduct ob_1 (by decide) rfl rfl hl.1 (Nat.le_of_ble_eq_true rfl) ⟨by decide, by decide⟩ ⟨Nat.zero_le _, Nat.zero_le _⟩ dX4_readSum_2 (fun M_2 H locs hp_2 hw => ?_)
  obtain ⟨iM_2, q_3, q_4, q_5, q_6, p0r_1, p1r_1⟩ := hp_2
  obtain ⟨g_7, eg_7⟩ : ∃ z : Nat → Int, z = pp_pd B n (pp_pt B n 8) rg := ⟨_, rfl⟩
  rw [← eg_7] at p0r_1
  have lg_7_0 : g_7 0 = (tI M_2 2 4).toInt := p0r_1.2.1.1
  have lg_7_1 : g_7 1 = (tI M_2 2 6).toInt := p0r_1.2.1.2.1
  have lg_7_4 : g_7 4 = (tI M_2 1 4).toInt := p0r_1.2.2.1.1
  have lg_7_7 : g_7 7 = (tI M_2 t 4).toInt := p0r_1.2.2.2.1.1
  have lg_7_8 : g_7 8 = (tI M_2 t 5).toInt := p0r_1.2.2.2.1.2.1
  obtain ⟨d_8, ed_8⟩ : ∃ z : Nat → Int, z = qq_pd B n j (pp_pt B n 8) (qq_pt B n j 8) rg td := ⟨_, rfl⟩
  rw [← ed_8] at p1r_1
  refine lv_iconst (v := 0) hx hb dX4_readSum_5 (by decide) ?_
  refine lv_istore_n (lv' := [(2, .int 0), (0, .ref (A 1 0)), (1, .int 0)]) hx hb dX4_readSum_6 rfl hl (by decide) rfl (fun ls hl => ?_)
  have hl_7_24 : ∀ (n_25 : Nat) (x_9 : Int32) (M_12 : ti_M) (g_19 : Nat → Int) (d_21 : Nat → Int) (H : Heap) (locs : List Loc) (ls : Array Slot), (64 - x_9.toInt : Int).toNat < n_25 → (0 ≤ x_9.toInt) → (x_9.toInt ≤ 64) → (cI Tc M_12) → (M_12.2.2.2 = M.2.2.2) → (f0 M_12 M) → (tI M_12 2 1 = tI M 2 1) → (ot t M_12 M) → (tT M_12 1 1 = (some t)) → (tT M_12 1 2 = (some (ti_laws t j))) → (rC B n t g_19 M_12) → (tq t d_21 M_12) → (pp_lp pp_qP (fun s => pp_pd B n (pp_pt B n 8) (pp_kn B n s)) 64 g_7 = pp_lp pp_qP (fun s => pp_pd B n (pp_pt B n 8) (pp_kn B n s)) (64 - (x_9.toInt).toNat) g_19) → (qq_lp pp_qP (fun s => pp_pd B n (pp_pt B n 8) (pp_kn B n s)) (fun s td => qa j (-(s 0)) (qq_pd B n j (pp_pt B n 8) (qq_pt B n j 8) (pp_kn B n s) td)) 64 g_7 d_8 = qq_lp pp_qP (fun s => pp_pd B n (pp_pt B n 8) (pp_kn B n s)) (fun s td => qa j (-(s 0)) (qq_pd B n j (pp_pt B n 8) (qq_pt B n j 8) (pp_kn B n s) td)) (64 - (x_9.toInt).toNat) g_19 d_21) → ti_H ti_LT D A cy H0 M_12 H locs → lv_has ls 4 [(2, .int x_9), (0, .ref (A 1 0)), (1, .int 0)] → W p l e (ti_rm 66) s m args below meth c H locs 0 0 Q (F0 m 7 ls []) := by
    intro n_25
    induction n_25 with
    | zero => intro x_9 M_12 g_19 d_21 H locs ls hf_25; exact absurd hf_25 (Nat.not_lt_zero _)
    | succ n_25 ih_25 =>
      intro x_9 M_12 g_19 d_21 H locs ls hf_25 b_10 b_11 iM_12 f_13 f_14 f_15 f_16 f_17 f_18 hs_20 tq_22 j_23 j_24 hw hl
      have lg_19_0 : g_19 0 = (tI M_12 2 4).toInt := hs_20.2.1.1
      have lg_19_1 : g_19 1 = (tI M_12 2 6).toInt := hs_20.2.1.2.1
      have lg_19_4 : g_19 4 = (tI M_12 1 4).toInt := hs_20.2.2.1.1
      have lg_19_7 : g_19 7 = (tI M_12 t 4).toInt := hs_20.2.2.2.1.1
      have lg_19_8 : g_19 8 = (tI M_12 t 5).toInt := hs_20.2.2.2.1.2.1
      refine lv_iload_n hx hb dX4_readSum_7 rfl (lv_at hl 0 rfl) ?_
      refine lv_bipush (v := 64) hx hb dX4_readSum_8 (by decide) ?_
      refine sb_icmp_ge (tgt := 69) hx hb rfl (by decide : (64 : Int32).toInt = 64) dX4_readSum_10 (by decide) (fun c_10_25 => ?_) (fun c_10_25 => ?_)
      · exact hQ _ _ _ _ _ hw (⟨iM_12, (f_13), f_14, (f_15), f_16, (by unfold pp_sm; rw [← eg_7, j_23, lp_end (P := pp_qP) (f := 64 - x_9.toInt.toNat) (s := g_19) (Or.inl (by omega))]; exact hs_20), (by unfold qq_sm; rw [← eg_7, ← ed_8, j_24, qlp_end (P := pp_qP) (f := 64 - x_9.toInt.toNat) (s := g_19) (Or.inl (by omega))]; exact tq_22)⟩) dX4_readSum_69
      · refine lv_aload_n hx hb dX4_readSum_13 rfl (lv_at hl 1 rfl) ?_
        refine ti_get (ci := 4) (k := 0) (N := 6) (T := TX4) (v := .ref (A 2 0)) C hw iw_4 rfl ob_1 (by decide) (by decide) fl_X4_12 rfl rfl dX4_readSum_14 ?_
        refine ti_get (ci := 7) (k := 4) (N := 7) (T := TX7) C hw iw_7 rfl ob_2 (by decide) (by decide) fl_X4_41 rfl rfl dX4_readSum_17 ?_
        refine lv_topi (fun x_27 ex_27 => ?_)
        have bx_27 : 0 ≤ x_27.toInt ∧ x_27.toInt ≤ 41 := cI_rd iM_12 ob_2.1 ex_27
        have ux_27 : (tI M_12 2 4).toInt = x_27.toInt := by rw [ex_27]
        refine lv_bipush (v := 38) hx hb dX4_readSum_20 (by decide) ?_
        refine sb_icmp_eq (tgt := 37) hx hb rfl (by decide : (38 : Int32).toInt = 38) dX4_readSum_22 (by decide) (fun c_22_27 => ?_) (fun c_22_27 => ?_)
        · refine lv_aload_n hx hb dX4_readSum_37 rfl (lv_at hl 1 rfl) ?_
          refine ti_get (ci := 4) (k := 0) (N := 6) (T := TX4) (v := .ref (A 2 0)) C hw iw_4 rfl ob_1 (by decide) (by decide) fl_X4_12 rfl rfl dX4_readSum_38 ?_
          refine ti_get (ci := 7) (k := 4) (N := 7) (T := TX7) C hw iw_7 rfl ob_2 (by decide) (by decide) fl_X4_41 rfl rfl dX4_readSum_41 ?_
          refine ti_top (y := x_27) (ex_27.symm) ?_
          have u_31 : (tI M_12 2 4).toInt = (x_27 : Int32).toInt := by rw [(ex_27.symm)]
          refine lv_istore_n (lv' := [(3, .int x_27), (2, .int x_9), (0, .ref (A 1 0)), (1, .int 0)]) hx hb dX4_readSum_44 rfl hl (by decide) rfl (fun ls hl => ?_)
          refine lv_aload_n hx hb dX4_readSum_45 rfl (lv_at hl 2 rfl) ?_
          refine ti_callVvE (ci := 4) (av := []) C hE hw (x_X4_knot l D A cy hJ M_12 iM_12 t ht (f_17) B n g_19 hs_20 d_21 tq_22) ⟨ml_X4_167, ym_X4_knot, yv_X4_knot, yi_X4_knot, yc_X4_knot⟩ yd_X4_knot ob_1 (by decide) rfl rfl hl.1 (Nat.le_of_ble_eq_true rfl) ⟨by decide, by decide⟩ ⟨Nat.zero_le _, Nat.zero_le _⟩ dX4_readSum_46 (fun M_33 H locs hp_33 hw => ?_)
          obtain ⟨iM_33, q_34, q_35, q_36, q_37, q_38, p0r_32, p1r_32⟩ := hp_33
          obtain ⟨g_39, eg_39⟩ : ∃ z : Nat → Int, z = pp_kn B n g_19 := ⟨_, rfl⟩
          rw [← eg_39] at p0r_32
          have lg_39_0 : g_39 0 = (tI M_33 2 4).toInt := p0r_32.2.1.1
          have lg_39_1 : g_39 1 = (tI M_33 2 6).toInt := p0r_32.2.1.2.1
          have lg_39_4 : g_39 4 = (tI M_33 1 4).toInt := p0r_32.2.2.1.1
          have lg_39_7 : g_39 7 = (tI M_33 t 4).toInt := p0r_32.2.2.2.1.1
          have lg_39_8 : g_39 8 = (tI M_33 t 5).toInt := p0r_32.2.2.2.1.2.1
          refine lv_aload_n hx hb dX4_readSum_49 rfl (lv_at hl 2 rfl) ?_
          refine lv_iload_n hx hb dX4_readSum_50 rfl (lv_at hl 3 rfl) ?_
          refine ti_callVvE (ci := 4) (av := [.int 0]) C hE hw (x_X4_readProduct_0 l D A cy hJ M_33 iM_33 t ht ((tT_fr q_34).trans f_17) j hj ((tT_fr q_34).trans f_18) B n g_39 p0r_32 d_21 p1r_32) ⟨ml_X4_184, ym_X4_readProduct, yv_X4_readProduct, yi_X4_readProduct, yc_X4_readProduct⟩ yd_X4_readProduct ob_1 (by decide) rfl rfl hl.1 (Nat.le_of_ble_eq_true rfl) ⟨by decide, by decide⟩ ⟨Nat.zero_le _, Nat.zero_le _⟩ dX4_readSum_51 (fun M_41 H locs hp_41 hw => ?_)
          obtain ⟨iM_41, q_42, q_43, q_44, q_45, p0r_40, p1r_40⟩ := hp_41
          obtain ⟨g_46, eg_46⟩ : ∃ z : Nat → Int, z = pp_pd B n (pp_pt B n 8) g_39 := ⟨_, rfl⟩
          rw [← eg_46] at p0r_40
          have lg_46_0 : g_46 0 = (tI M_41 2 4).toInt := p0r_40.2.1.1
          have lg_46_1 : g_46 1 = (tI M_41 2 6).toInt := p0r_40.2.1.2.1
          have lg_46_4 : g_46 4 = (tI M_41 1 4).toInt := p0r_40.2.2.1.1
          have lg_46_7 : g_46 7 = (tI M_41 t 4).toInt := p0r_40.2.2.2.1.1
          have lg_46_8 : g_46 8 = (tI M_41 t 5).toInt := p0r_40.2.2.2.1.2.1
          obtain ⟨d_47, ed_47⟩ : ∃ z : Nat → Int, z = qq_pd B n j (pp_pt B n 8) (qq_pt B n j 8) g_39 d_21 := ⟨_, rfl⟩
          rw [← ed_47] at p1r_40
          refine lv_aload_n hx hb dX4_readSum_54 rfl (lv_at hl 2 rfl) ?_
          refine ti_get (ci := 4) (k := 2) (N := 6) (T := TX4) (v := .ref (A (ti_laws t j) 0)) C hw iw_4 rfl ob_1 (by decide) (by decide) fl_X4_154 rfl (ti_Tv ((tT_fr q_42).trans ((tT_fr q_34).trans f_18))) dX4_readSum_55 ?_
          refine lv_iload_n hx hb dX4_readSum_58 rfl (lv_at hl 0 rfl) ?_
          refine lv_ineg hx hb dX4_readSum_59 ?_
          refine lv_topi (fun x_48 ex_48 => ?_)
          have tx_48 : x_48.toInt = -x_27.toInt := i_neg ex_48 rfl (by omega)
          refine ti_callVv (ci := 1) (av := [.int x_48]) C hw (x_X1_add l D A cy hJ M_41 iM_41 t ht j hj x_48 (by first | omega | exact Or.inl (by decide) | exact Or.inr (by decide)) B n g_46 p0r_40 d_47 p1r_40) ⟨ml_X4_170, ym_X1_add, yv_X1_add, yi_X1_add, yc_X1_add⟩ yd_X1_add (ob_l ht hj) (by decide) rfl rfl hl.1 (Nat.le_of_ble_eq_true rfl) ⟨by decide, by decide⟩ ⟨Nat.zero_le _, Nat.zero_le _⟩ dX4_readSum_60 (fun M_50 H locs hp_50 hw => ?_)
          obtain ⟨iM_50, q_51, q_52, q_53, p0r_49, p1r_49⟩ := hp_50
          have lM_50_0 : g_46 0 = (tI M_50 2 4).toInt := p0r_49.2.1.1
          have lM_50_1 : g_46 1 = (tI M_50 2 6).toInt := p0r_49.2.1.2.1
          have lM_50_4 : g_46 4 = (tI M_50 1 4).toInt := p0r_49.2.2.1.1
          have lM_50_7 : g_46 7 = (tI M_50 t 4).toInt := p0r_49.2.2.2.1.1
          have lM_50_8 : g_46 8 = (tI M_50 t 5).toInt := p0r_49.2.2.2.1.2.1
          obtain ⟨d_54, ed_54⟩ : ∃ z : Nat → Int, z = qa j x_48.toInt d_47 := ⟨_, rfl⟩
          rw [← ed_54] at p1r_49
          obtain ⟨x_55, ex_55⟩ : ∃ z : Int32, z = x_9 + 1 := ⟨_, rfl⟩
          have tx_55 : x_55.toInt = x_9.toInt + 1 := i_add ex_55 rfl (by decide) (by omega) (by omega)
          refine lv_iinc (v := x_55) (lv' := [(2, .int x_55), (3, .int x_27), (0, .ref (A 1 0)), (1, .int 0)]) hx hb dX4_readSum_63 hl (k := 1) rfl (by rw [ex_55]; rfl) (by decide) rfl (fun ls hl => ?_)
          refine lv_goto (tgt := 7) hx hb dX4_readSum_66 (by decide) ?_
          exact ih_25 x_55 M_50 g_46 d_54 _ _ _ (by omega) (by first | omega | decide) (by first | omega | decide) iM_50 ((q_51).trans ((q_42).trans ((q_34).trans f_13))) (f0.trans (f0_x q_52) (f0.trans q_43 (f0.trans q_35 f_14))) (((q_52 1).2.1).trans ((q_44).trans ((q_36).trans f_15))) (ot.trans q_53 (ot.trans q_45 (ot.trans q_37 f_16))) ((tT_fr q_51).trans ((tT_fr q_42).trans ((tT_fr q_34).trans f_17))) ((tT_fr q_51).trans ((tT_fr q_42).trans ((tT_fr q_34).trans f_18))) p0r_49 p1r_49 (j_23.trans (lp_step (decide_eq_true (by omega)) (by rw [eg_46, eg_39]) (by omega))) (j_24.trans (qlp_step (decide_eq_true (by omega)) (by rw [eg_46, eg_39]) (by rw [ed_54, show x_48.toInt = -(g_19 0) by omega, ed_47, eg_39]) (by omega))) hw (lv_sub hl [0, 2, 3] rfl)
        · refine lv_aload_n hx hb dX4_readSum_25 rfl (lv_at hl 1 rfl) ?_
          refine ti_get (ci := 4) (k := 0) (N := 6) (T := TX4) (v := .ref (A 2 0)) C hw iw_4 rfl ob_1 (by decide) (by decide) fl_X4_12 rfl rfl dX4_readSum_26 ?_
          refine ti_get (ci := 7) (k := 4) (N := 7) (T := TX7) C hw iw_7 rfl ob_2 (by decide) (by decide) fl_X4_41 rfl rfl dX4_readSum_29 ?_
          refine ti_top (y := x_27) (ex_27.symm) ?_
          have u_29 : (tI M_12 2 4).toInt = (x_27 : Int32).toInt := by rw [(ex_27.symm)]
          refine lv_bipush (v := 39) hx hb dX4_readSum_32 (by decide) ?_
          refine sb_icmp_ne (tgt := 69) hx hb rfl (by decide : (39 : Int32).toInt = 39) dX4_readSum_34 (by decide) (fun c_34_29 => ?_) (fun c_34_29 => ?_)
          · exact hQ _ _ _ _ _ hw (⟨iM_12, (f_13), f_14, (f_15), f_16, (by unfold pp_sm; rw [← eg_7, j_23, lp_end (P := pp_qP) (f := 64 - x_9.toInt.toNat) (s := g_19) (Or.inr (decide_eq_false (by omega)))]; exact hs_20), (by unfold qq_sm; rw [← eg_7, ← ed_8, j_24, qlp_end (P := pp_qP) (f := 64 - x_9.toInt.toNat) (s := g_19) (Or.inr (decide_eq_false (by omega)))]; exact tq_22)⟩) dX4_readSum_69
          · refine lv_aload_n hx hb dX4_readSum_37 rfl (lv_at hl 1 rfl) ?_
            refine ti_get (ci := 4) (k := 0) (N := 6) (T := TX4) (v := .ref (A 2 0)) C hw iw_4 rfl ob_1 (by decide) (by decide) fl_X4_12 rfl rfl dX4_readSum_38 ?_
            refine ti_get (ci := 7) (k := 4) (N := 7) (T := TX7) C hw iw_7 rfl ob_2 (by decide) (by decide) fl_X4_41 rfl rfl dX4_readSum_41 ?_
            refine ti_top (y := x_27) (ex_27.symm) ?_
            have u_56 : (tI M_12 2 4).toInt = (x_27 : Int32).toInt := by rw [(ex_27.symm)]
            refine lv_istore_n (lv' := [(3, .int x_27), (2, .int x_9), (0, .ref (A 1 0)), (1, .int 0)]) hx hb dX4_readSum_44 rfl hl (by decide) rfl (fun ls hl => ?_)
            refine lv_aload_n hx hb dX4_readSum_45 rfl (lv_at hl 2 rfl) ?_
            refine ti_callVvE (ci := 4) (av := []) C hE hw (x_X4_knot l D A cy hJ M_12 iM_12 t ht (f_17) B n g_19 hs_20 d_21 tq_22) ⟨ml_X4_167, ym_X4_knot, yv_X4_knot, yi_X4_knot, yc_X4_knot⟩ yd_X4_knot ob_1 (by decide) rfl rfl hl.1 (Nat.le_of_ble_eq_true rfl) ⟨by decide, by decide⟩ ⟨Nat.zero_le _, Nat.zero_le _⟩ dX4_readSum_46 (fun M_58 H locs hp_58 hw => ?_)
            obtain ⟨iM_58, q_59, q_60, q_61, q_62, q_63, p0r_57, p1r_57⟩ := hp_58
            obtain ⟨g_64, eg_64⟩ : ∃ z : Nat → Int, z = pp_kn B n g_19 := ⟨_, rfl⟩
            rw [← eg_64] at p0r_57
            have lg_64_0 : g_64 0 = (tI M_58 2 4).toInt := p0r_57.2.1.1
            have lg_64_1 : g_64 1 = (tI M_58 2 6).toInt := p0r_57.2.1.2.1
            have lg_64_4 : g_64 4 = (tI M_58 1 4).toInt := p0r_57.2.2.1.1
            have lg_64_7 : g_64 7 = (tI M_58 t 4).toInt := p0r_57.2.2.2.1.1
            have lg_64_8 : g_64 8 = (tI M_58 t 5).toInt := p0r_57.2.2.2.1.2.1
            refine lv_aload_n hx hb dX4_readSum_49 rfl (lv_at hl 2 rfl) ?_
            refine lv_iload_n hx hb dX4_readSum_50 rfl (lv_at hl 3 rfl) ?_
            refine ti_callVvE (ci := 4) (av := [.int 0]) C hE hw (x_X4_readProduct_0 l D A cy hJ M_58 iM_58 t ht ((tT_fr q_59).trans f_17) j hj ((tT_fr q_59).trans f_18) B n g_64 p0r_57 d_21 p1r_57) ⟨ml_X4_184, ym_X4_readProduct, yv_X4_readProduct, yi_X4_readProduct, yc_X4_readProduct⟩ yd_X4_readProduct ob_1 (by decide) rfl rfl hl.1 (Nat.le_of_ble_eq_true rfl) ⟨by decide, by decide⟩ ⟨Nat.zero_le _, Nat.zero_le _⟩ dX4_readSum_51 (fun M_66 H locs hp_66 hw => ?_)
            obtain ⟨iM_66, q_67, q_68, q_69, q_70, p0r_65, p1r_65⟩ := hp_66
            obtain ⟨g_71, eg_71⟩ : ∃ z : Nat → Int, z = pp_pd B n (pp_pt B n 8) g_64 := ⟨_, rfl⟩
            rw [← eg_71] at p0r_65
            have lg_71_0 : g_71 0 = (tI M_66 2 4).toInt := p0r_65.2.1.1
            have lg_71_1 : g_71 1 = (tI M_66 2 6).toInt := p0r_65.2.1.2.1
            have lg_71_4 : g_71 4 = (tI M_66 1 4).toInt := p0r_65.2.2.1.1
            have lg_71_7 : g_71 7 = (tI M_66 t 4).toInt := p0r_65.2.2.2.1.1
            have lg_71_8 : g_71 8 = (tI M_66 t 5).toInt := p0r_65.2.2.2.1.2.1
            obtain ⟨d_72, ed_72⟩ : ∃ z : Nat → Int, z = qq_pd B n j (pp_pt B n 8) (qq_pt B n j 8) g_64 d_21 := ⟨_, rfl⟩
            rw [← ed_72] at p1r_65
            refine lv_aload_n hx hb dX4_readSum_54 rfl (lv_at hl 2 rfl) ?_
            refine ti_get (ci := 4) (k := 2) (N := 6) (T := TX4) (v := .ref (A (ti_laws t j) 0)) C hw iw_4 rfl ob_1 (by decide) (by decide) fl_X4_154 rfl (ti_Tv ((tT_fr q_67).trans ((tT_fr q_59).trans f_18))) dX4_readSum_55 ?_
            refine lv_iload_n hx hb dX4_readSum_58 rfl (lv_at hl 0 rfl) ?_
            refine lv_ineg hx hb dX4_readSum_59 ?_
            refine lv_topi (fun x_73 ex_73 => ?_)
            have tx_73 : x_73.toInt = -x_27.toInt := i_neg ex_73 rfl (by omega)
            refine ti_callVv (ci := 1) (av := [.int x_73]) C hw (x_X1_add l D A cy hJ M_66 iM_66 t ht j hj x_73 (by first | omega | exact Or.inl (by decide) | exact Or.inr (by decide)) B n g_71 p0r_65 d_72 p1r_65) ⟨ml_X4_170, ym_X1_add, yv_X1_add, yi_X1_add, yc_X1_add⟩ yd_X1_add (ob_l ht hj) (by decide) rfl rfl hl.1 (Nat.le_of_ble_eq_true rfl) ⟨by decide, by decide⟩ ⟨Nat.zero_le _, Nat.zero_le _⟩ dX4_readSum_60 (fun M_75 H locs hp_75 hw => ?_)
            obtain ⟨iM_75, q_76, q_77, q_78, p0r_74, p1r_74⟩ := hp_75
            have lM_75_0 : g_71 0 = (tI M_75 2 4).toInt := p0r_74.2.1.1
            have lM_75_1 : g_71 1 = (tI M_75 2 6).toInt := p0r_74.2.1.2.1
            have lM_75_4 : g_71 4 = (tI M_75 1 4).toInt := p0r_74.2.2.1.1
            have lM_75_7 : g_71 7 = (tI M_75 t 4).toInt := p0r_74.2.2.2.1.1
            have lM_75_8 : g_71 8 = (tI M_75 t 5).toInt := p0r_74.2.2.2.1.2.1
            obtain ⟨d_79, ed_79⟩ : ∃ z : Nat → Int, z = qa j x_73.toInt d_72 := ⟨_, rfl⟩
            rw [← ed_79] at p1r_74
            obtain ⟨x_80, ex_80⟩ : ∃ z : Int32, z = x_9 + 1 := ⟨_, rfl⟩
            have tx_80 : x_80.toInt = x_9.toInt + 1 := i_add ex_80 rfl (by decide) (by omega) (by omega)
            refine lv_iinc (v := x_80) (lv' := [(2, .int x_80), (3, .int x_27), (0, .ref (A 1 0)), (1, .int 0)]) hx hb dX4_readSum_63 hl (k := 1) rfl (by rw [ex_80]; rfl) (by decide) rfl (fun ls hl => ?_)
            refine lv_goto (tgt := 7) hx hb dX4_readSum_66 (by decide) ?_
            exact ih_25 x_80 M_75 g_71 d_79 _ _ _ (by omega) (by first | omega | decide) (by first | omega | decide) iM_75 ((q_76).trans ((q_67).trans ((q_59).trans f_13))) (f0.trans (f0_x q_77) (f0.trans q_68 (f0.trans q_60 f_14))) (((q_77 1).2.1).trans ((q_69).trans ((q_61).trans f_15))) (ot.trans q_78 (ot.trans q_70 (ot.trans q_62 f_16))) ((tT_fr q_76).trans ((tT_fr q_67).trans ((tT_fr q_59).trans f_17))) ((tT_fr q_76).trans ((tT_fr q_67).trans ((tT_fr q_59).trans f_18))) p0r_74 p1r_74 (j_23.trans (lp_step (decide_eq_true (by omega)) (by rw [eg_71, eg_64]) (by omega))) (j_24.trans (qlp_step (decide_eq_true (by omega)) (by rw [eg_71, eg_64]) (by rw [ed_79, show x_73.toInt = -(g_19 0) by omega, ed_72, eg_64]) (by omega))) hw (lv_sub hl [0, 2, 3] rfl)
  exact hl_7_24 ((64 - 0 : Int).toNat + 1) 0 M_2 g_7 d_8 _ _ _ (Nat.lt_succ_self _) (by have lt0 : (0 : Int32).toInt = 0 := (by decide); first | omega | decide) (by have lt0 : (0 : Int32).toInt = 0 := (by decide); first | omega | decide) iM_2 (q_3) q_4 (q_5) q_6 ((tT_fr q_3).trans hT) ((tT_fr q_3).trans hL) p0r_1 p1r_1 rfl rfl hw (lv_sub hl [0, 1, 2] rfl)
set_option maxHeartbeats 4000000 in
set_option maxRecDepth 100000 in
theorem x_X4_readComparison_0 (l : Launch) (D : va_G) (A : Nat → Nat → Nat) (cy : Nat → ClassId) (hJ : ti_inj ti_LT A) (M : ti_M) (hI : cI Tc M) (t : Nat) (ht : t = 3 ∨ t = 4) (hT : tT M 1 1 = some t) (j : Nat) (hj : j < 3) (hL : tT M 1 2 = some (ti_laws t j)) (B : Nat → Int) (n : Nat) (rg : Nat → Int) (hr : rC B n t rg M) (td : Nat → Int) (hq : tq t td M) : ti_KvE l yX4_readComparison cX4_readComparison 3 67 ti_LT D A cy M [.ref (A 1 0), .int 0] (fun M2 => cI Tc M2 ∧ M2.2.2.2 = M.2.2.2 ∧ f0 M2 M ∧ tI M2 2 1 = tI M 2 1 ∧ ot t M2 M ∧ rC B n t (pp_cm B n (pp_pt B n 8) rg) M2 ∧ tq t (qq_cm B n j (pp_pt B n 8) (qq_pt B n j 8) rg td) M2) := by
  refine ti_eVE yp_X4_readComparison hJ ti_LT_nd (Nat.le_of_ble_eq_true rfl) ?_
  intro p e s m args below meth c Q H0 C hE hQ hw ls hl
  have hx := C.1
  have hb := C.2.1
  have hl : lv_has ls 3 [(0, .ref (A 1 0)), (1, .int 0)] := hl
  have l0 : rg 0 = (tI M 2 4).toInt := hr.2.1.1
  have l1 : rg 1 = (tI M 2 6).toInt := hr.2.1.2.1
  have l2 : rg 2 = (tI M 2 5).toInt := hr.2.1.2.2.1
  have l3 : rg 3 = (tI M 2 3).toInt := hr.2.1.2.2.2
  have l4 : rg 4 = (tI M 1 4).toInt := hr.2.2.1.1
  have l5 : rg 5 = (tI M 1 5).toInt := hr.2.2.1.2.1
  have l7 : rg 7 = (tI M t 4).toInt := hr.2.2.2.1.1
  have l8 : rg 8 = (tI M t 5).toInt := hr.2.2.2.1.2.1
  have l9 : rg 9 = (tI M t 3).toInt := hr.2.2.2.1.2.2
  refine lv_aload_n hx hb dX4_readComparison_0 rfl (lv_at hl 0 rfl) ?_
  refine lv_iload_n hx hb dX4_readComparison_1 rfl (lv_at hl 1 rfl) ?_
  refine ti_callVvE (ci := 4) (av := [.int 0]) C hE hw (x_X4_readSum_0 l D A cy hJ M hI t ht (hT) j hj (hL) B n rg hr td hq) ⟨ml_X4_181, ym_X4_readSum, yv_X4_readSum, yi_X4_readSum, yc_X4_readSum⟩ yd_X4_readSum ob_1 (by decide) rfl rfl hl.1 (Nat.le_of_ble_eq_true rfl) ⟨by decide, by decide⟩ ⟨Nat.zero_le _, Nat.zero_le _⟩ dX4_readComparison_2 (fun M_2 H locs hp_2 hw => ?_)
  obtain ⟨iM_2, q_3, q_4, q_5, q_6, p0r_1, p1r_1⟩ := hp_2
  obtain ⟨g_7, eg_7⟩ : ∃ z : Nat → Int, z = pp_sm B n (pp_pt B n 8) rg := ⟨_, rfl⟩
  rw [← eg_7] at p0r_1
  have lg_7_0 : g_7 0 = (tI M_2 2 4).toInt := p0r_1.2.1.1
  have lg_7_1 : g_7 1 = (tI M_2 2 6).toInt := p0r_1.2.1.2.1
  have lg_7_4 : g_7 4 = (tI M_2 1 4).toInt := p0r_1.2.2.1.1
  have lg_7_7 : g_7 7 = (tI M_2 t 4).toInt := p0r_1.2.2.2.1.1
  have lg_7_8 : g_7 8 = (tI M_2 t 5).toInt := p0r_1.2.2.2.1.2.1
  obtain ⟨d_8, ed_8⟩ : ∃ z : Nat → Int, z = qq_sm B n j (pp_pt B n 8) (qq_pt B n j 8) rg td := ⟨_, rfl⟩
  rw [← ed_8] at p1r_1
  refine lv_aload_n hx hb dX4_readComparison_5 rfl (lv_at hl 0 rfl) ?_
  refine ti_get (ci := 4) (k := 0) (N := 6) (T := TX4) (v := .ref (A 2 0)) C hw iw_4 rfl ob_1 (by decide) (by decide) fl_X4_12 rfl rfl dX4_readComparison_6 ?_
  refine ti_get (ci := 7) (k := 4) (N := 7) (T := TX7) C hw iw_7 rfl ob_2 (by decide) (by decide) fl_X4_41 rfl rfl dX4_readComparison_9 ?_
  refine lv_topi (fun x_9 ex_9 => ?_)
  have bx_9 : 0 ≤ x_9.toInt ∧ x_9.toInt ≤ 41 := cI_rd iM_2 ob_2.1 ex_9
  have ux_9 : (tI M_2 2 4).toInt = x_9.toInt := by rw [ex_9]
  refine lv_istore_n (lv' := [(2, .int x_9), (0, .ref (A 1 0)), (1, .int 0)]) hx hb dX4_readComparison_12 rfl hl (by decide) rfl (fun ls hl => ?_)
  refine lv_iload_n hx hb dX4_readComparison_13 rfl (lv_at hl 0 rfl) ?_
  refine lv_bipush (v := 32) hx hb dX4_readComparison_14 (by decide) ?_
  refine sb_icmp_lt (tgt := 43) hx hb rfl (by decide : (32 : Int32).toInt = 32) dX4_readComparison_16 (by decide) (fun c_16_9 => ?_) (fun c_16_9 => ?_)
  · exact hQ _ _ _ _ _ hw (⟨iM_2, (q_3), q_4, (q_5), q_6, (by unfold pp_cm; rw [← eg_7]; unfold pp_c2; rw [if_neg (fun q => by omega)]; exact p0r_1), (by unfold qq_cm; rw [← eg_7, ← ed_8]; unfold qq_c2; rw [if_neg (fun q => by omega)]; exact p1r_1)⟩) dX4_readComparison_43
  · refine lv_iload_n hx hb dX4_readComparison_19 rfl (lv_at hl 0 rfl) ?_
    refine lv_bipush (v := 37) hx hb dX4_readComparison_20 (by decide) ?_
    refine sb_icmp_gt (tgt := 43) hx hb rfl (by decide : (37 : Int32).toInt = 37) dX4_readComparison_22 (by decide) (fun c_22_10 => ?_) (fun c_22_10 => ?_)
    · exact hQ _ _ _ _ _ hw (⟨iM_2, (q_3), q_4, (q_5), q_6, (by unfold pp_cm; rw [← eg_7]; unfold pp_c2; rw [if_neg (fun q => by omega)]; exact p0r_1), (by unfold qq_cm; rw [← eg_7, ← ed_8]; unfold qq_c2; rw [if_neg (fun q => by omega)]; exact p1r_1)⟩) dX4_readComparison_43
    · refine lv_aload_n hx hb dX4_readComparison_25 rfl (lv_at hl 1 rfl) ?_
      refine ti_callVvE (ci := 4) (av := []) C hE hw (x_X4_knot l D A cy hJ M_2 iM_2 t ht ((tT_fr q_3).trans hT) B n g_7 p0r_1 d_8 p1r_1) ⟨ml_X4_167, ym_X4_knot, yv_X4_knot, yi_X4_knot, yc_X4_knot⟩ yd_X4_knot ob_1 (by decide) rfl rfl hl.1 (Nat.le_of_ble_eq_true rfl) ⟨by decide, by decide⟩ ⟨Nat.zero_le _, Nat.zero_le _⟩ dX4_readComparison_26 (fun M_13 H locs hp_13 hw => ?_)
      obtain ⟨iM_13, q_14, q_15, q_16, q_17, q_18, p0r_12, p1r_12⟩ := hp_13
      obtain ⟨g_19, eg_19⟩ : ∃ z : Nat → Int, z = pp_kn B n g_7 := ⟨_, rfl⟩
      rw [← eg_19] at p0r_12
      have lg_19_0 : g_19 0 = (tI M_13 2 4).toInt := p0r_12.2.1.1
      have lg_19_1 : g_19 1 = (tI M_13 2 6).toInt := p0r_12.2.1.2.1
      have lg_19_4 : g_19 4 = (tI M_13 1 4).toInt := p0r_12.2.2.1.1
      have lg_19_7 : g_19 7 = (tI M_13 t 4).toInt := p0r_12.2.2.2.1.1
      have lg_19_8 : g_19 8 = (tI M_13 t 5).toInt := p0r_12.2.2.2.1.2.1
      refine lv_aload_n hx hb dX4_readComparison_29 rfl (lv_at hl 1 rfl) ?_
      refine lv_iload_n hx hb dX4_readComparison_30 rfl (lv_at hl 2 rfl) ?_
      refine ti_callVvE (ci := 4) (av := [.int 0]) C hE hw (x_X4_readSum_0 l D A cy hJ M_13 iM_13 t ht ((tT_fr q_14).trans ((tT_fr q_3).trans hT)) j hj ((tT_fr q_14).trans ((tT_fr q_3).trans hL)) B n g_19 p0r_12 d_8 p1r_12) ⟨ml_X4_181, ym_X4_readSum, yv_X4_readSum, yi_X4_readSum, yc_X4_readSum⟩ yd_X4_readSum ob_1 (by decide) rfl rfl hl.1 (Nat.le_of_ble_eq_true rfl) ⟨by decide, by decide⟩ ⟨Nat.zero_le _, Nat.zero_le _⟩ dX4_readComparison_31 (fun M_21 H locs hp_21 hw => ?_)
      obtain ⟨iM_21, q_22, q_23, q_24, q_25, p0r_20, p1r_20⟩ := hp_21
      obtain ⟨g_26, eg_26⟩ : ∃ z : Nat → Int, z = pp_sm B n (pp_pt B n 8) g_19 := ⟨_, rfl⟩
      rw [← eg_26] at p0r_20
      have lg_26_0 : g_26 0 = (tI M_21 2 4).toInt := p0r_20.2.1.1
      have lg_26_1 : g_26 1 = (tI M_21 2 6).toInt := p0r_20.2.1.2.1
      have lg_26_4 : g_26 4 = (tI M_21 1 4).toInt := p0r_20.2.2.1.1
      have lg_26_7 : g_26 7 = (tI M_21 t 4).toInt := p0r_20.2.2.2.1.1
      have lg_26_8 : g_26 8 = (tI M_21 t 5).toInt := p0r_20.2.2.2.1.2.1
      obtain ⟨d_27, ed_27⟩ : ∃ z : Nat → Int, z = qq_sm B n j (pp_pt B n 8) (qq_pt B n j 8) g_19 d_8 := ⟨_, rfl⟩
      rw [← ed_27] at p1r_20
      refine lv_aload_n hx hb dX4_readComparison_34 rfl (lv_at hl 1 rfl) ?_
      refine ti_get (ci := 4) (k := 2) (N := 6) (T := TX4) (v := .ref (A (ti_laws t j) 0)) C hw iw_4 rfl ob_1 (by decide) (by decide) fl_X4_154 rfl (ti_Tv ((tT_fr q_22).trans ((tT_fr q_14).trans ((tT_fr q_3).trans hL)))) dX4_readComparison_35 ?_
      refine lv_iload_n hx hb dX4_readComparison_38 rfl (lv_at hl 0 rfl) ?_
      refine lv_ineg hx hb dX4_readComparison_39 ?_
      refine lv_topi (fun x_28 ex_28 => ?_)
      have tx_28 : x_28.toInt = -x_9.toInt := i_neg ex_28 rfl (by omega)
      refine ti_callVv (ci := 1) (av := [.int x_28]) C hw (x_X1_add l D A cy hJ M_21 iM_21 t ht j hj x_28 (by first | omega | exact Or.inl (by decide) | exact Or.inr (by decide)) B n g_26 p0r_20 d_27 p1r_20) ⟨ml_X4_170, ym_X1_add, yv_X1_add, yi_X1_add, yc_X1_add⟩ yd_X1_add (ob_l ht hj) (by decide) rfl rfl hl.1 (Nat.le_of_ble_eq_true rfl) ⟨by decide, by decide⟩ ⟨Nat.zero_le _, Nat.zero_le _⟩ dX4_readComparison_40 (fun M_30 H locs hp_30 hw => ?_)
      obtain ⟨iM_30, q_31, q_32, q_33, p0r_29, p1r_29⟩ := hp_30
      have lM_30_0 : g_26 0 = (tI M_30 2 4).toInt := p0r_29.2.1.1
      have lM_30_1 : g_26 1 = (tI M_30 2 6).toInt := p0r_29.2.1.2.1
      have lM_30_4 : g_26 4 = (tI M_30 1 4).toInt := p0r_29.2.2.1.1
      have lM_30_7 : g_26 7 = (tI M_30 t 4).toInt := p0r_29.2.2.2.1.1
      have lM_30_8 : g_26 8 = (tI M_30 t 5).toInt := p0r_29.2.2.2.1.2.1
      obtain ⟨d_34, ed_34⟩ : ∃ z : Nat → Int, z = qa j x_28.toInt d_27 := ⟨_, rfl⟩
      rw [← ed_34] at p1r_29
      exact hQ _ _ _ _ _ hw (⟨iM_30, ((q_31).trans ((q_22).trans ((q_14).trans q_3))), (f0.trans (f0_x q_32) (f0.trans q_23 (f0.trans q_15 q_4))), (((q_32 1).2.1).trans ((q_24).trans ((q_16).trans q_5))), (ot.trans q_33 (ot.trans q_25 (ot.trans q_17 q_6))), (by unfold pp_cm; rw [← eg_7]; unfold pp_c2; rw [if_pos ⟨by omega, by omega⟩, ← eg_19, ← eg_26]; exact p0r_29), (by unfold qq_cm; rw [← eg_7, ← ed_8]; unfold qq_c2; rw [if_pos ⟨by omega, by omega⟩, ← eg_19, ← ed_27, show -(g_7 0) = x_28.toInt by omega, ← ed_34]; exact p1r_29)⟩) dX4_readComparison_43
set_option maxHeartbeats 4000000 in
set_option maxRecDepth 100000 in
theorem x_X4_readNegated_0 (l : Launch) (D : va_G) (A : Nat → Nat → Nat) (cy : Nat → ClassId) (hJ : ti_inj ti_LT A) (M : ti_M) (hI : cI Tc M) (t : Nat) (ht : t = 3 ∨ t = 4) (hT : tT M 1 1 = some t) (j : Nat) (hj : j < 3) (hL : tT M 1 2 = some (ti_laws t j)) (B : Nat → Int) (n : Nat) (rg : Nat → Int) (hr : rC B n t rg M) (td : Nat → Int) (hq : tq t td M) : ti_KvE l yX4_readNegated cX4_readNegated 4 68 ti_LT D A cy M [.ref (A 1 0), .int 0] (fun M2 => cI Tc M2 ∧ M2.2.2.2 = M.2.2.2 ∧ f0 M2 M ∧ tI M2 2 1 = tI M 2 1 ∧ ot t M2 M ∧ rC B n t (pp_ng B n (pp_pt B n 8) rg) M2 ∧ tq t (qq_ng B n j (pp_pt B n 8) (qq_pt B n j 8) rg td) M2) := by
  refine ti_eVE yp_X4_readNegated hJ ti_LT_nd (Nat.le_of_ble_eq_true rfl) ?_
  intro p e s m args below meth c Q H0 C hE hQ hw ls hl
  have hx := C.1
  have hb := C.2.1
  have hl : lv_has ls 4 [(0, .ref (A 1 0)), (1, .int 0)] := hl
  have l0 : rg 0 = (tI M 2 4).toInt := hr.2.1.1
  have l1 : rg 1 = (tI M 2 6).toInt := hr.2.1.2.1
  have l2 : rg 2 = (tI M 2 5).toInt := hr.2.1.2.2.1
  have l3 : rg 3 = (tI M 2 3).toInt := hr.2.1.2.2.2
  have l4 : rg 4 = (tI M 1 4).toInt := hr.2.2.1.1
  have l5 : rg 5 = (tI M 1 5).toInt := hr.2.2.1.2.1
  have l7 : rg 7 = (tI M t 4).toInt := hr.2.2.2.1.1
  have l8 : rg 8 = (tI M t 5).toInt := hr.2.2.2.1.2.1
  have l9 : rg 9 = (tI M t 3).toInt := hr.2.2.2.1.2.2
  refine lv_iconst (v := 0) hx hb dX4_readNegated_0 (by decide) ?_
  refine lv_istore_n (lv' := [(2, .int 0), (0, .ref (A 1 0)), (1, .int 0)]) hx hb dX4_readNegated_1 rfl hl (by decide) rfl (fun ls hl => ?_)
  have hl_2_17 : ∀ (n_18 : Nat) (x_1 : Int32) (M_4 : ti_M) (g_11 : Nat → Int) (d_13 : Nat → Int) (H : Heap) (locs : List Loc) (ls : Array Slot), (65 - x_1.toInt : Int).toNat < n_18 → (0 ≤ x_1.toInt) → (x_1.toInt ≤ 65) → (cI Tc M_4) → (M_4.2.2.2 = M.2.2.2) → (f0 M_4 M) → (tI M_4 2 1 = tI M 2 1) → (ot t M_4 M) → (tT M_4 1 1 = (some t)) → (tT M_4 1 2 = (some (ti_laws t j))) → (rC B n t g_11 M_4) → (tq t d_13 M_4) → (pp_lp pp_qN (pp_kn B n) 65 rg = pp_lp pp_qN (pp_kn B n) (65 - (x_1.toInt).toNat) g_11) → (qq_ca B n 65 rg 0 = qq_ca B n (65 - (x_1.toInt).toNat) g_11 (x_1.toInt).toNat) → (td = d_13) → ti_H ti_LT D A cy H0 M_4 H locs → lv_has ls 4 [(2, .int x_1), (0, .ref (A 1 0)), (1, .int 0)] → W p l e (ti_rm 68) s m args below meth c H locs 0 0 Q (F0 m 2 ls []) := by
    intro n_18
    induction n_18 with
    | zero => intro x_1 M_4 g_11 d_13 H locs ls hf_18; exact absurd hf_18 (Nat.not_lt_zero _)
    | succ n_18 ih_18 =>
      intro x_1 M_4 g_11 d_13 H locs ls hf_18 b_2 b_3 iM_4 f_5 f_6 f_7 f_8 f_9 f_10 hs_12 tq_14 j_15 j_16 j_17 hw hl
      have lg_11_0 : g_11 0 = (tI M_4 2 4).toInt := hs_12.2.1.1
      have lg_11_1 : g_11 1 = (tI M_4 2 6).toInt := hs_12.2.1.2.1
      have lg_11_4 : g_11 4 = (tI M_4 1 4).toInt := hs_12.2.2.1.1
      have lg_11_7 : g_11 7 = (tI M_4 t 4).toInt := hs_12.2.2.2.1.1
      have lg_11_8 : g_11 8 = (tI M_4 t 5).toInt := hs_12.2.2.2.1.2.1
      refine lv_iload_n hx hb dX4_readNegated_2 rfl (lv_at hl 0 rfl) ?_
      refine lv_bipush (v := 64) hx hb dX4_readNegated_3 (by decide) ?_
      have hj_30_33 : ∀  (H : Heap) (locs : List Loc) (ls : Array Slot), (pp_lp pp_qN (pp_kn B n) 65 rg = g_11) → (qq_ca B n 65 rg 0 = (x_1.toInt).toNat) → (td = d_13) → ti_H ti_LT D A cy H0 M_4 H locs → lv_has ls 4 [(2, .int x_1), (0, .ref (A 1 0)), (1, .int 0)] → W p l e (ti_rm 68) s m args below meth c H locs 0 0 Q (F0 m 30 ls []) := by
        intro  H locs ls j_31 j_32 j_33 hw hl
        have lg_11_0 : g_11 0 = (tI M_4 2 4).toInt := hs_12.2.1.1
        have lg_11_1 : g_11 1 = (tI M_4 2 6).toInt := hs_12.2.1.2.1
        have lg_11_4 : g_11 4 = (tI M_4 1 4).toInt := hs_12.2.2.1.1
        have lg_11_7 : g_11 7 = (tI M_4 t 4).toInt := hs_12.2.2.2.1.1
        have lg_11_8 : g_11 8 = (tI M_4 t 5).toInt := hs_12.2.2.2.1.2.1
        refine lv_aload_n hx hb dX4_readNegated_30 rfl (lv_at hl 1 rfl) ?_
        refine lv_iload_n hx hb dX4_readNegated_31 rfl (lv_at hl 2 rfl) ?_
        refine ti_callVvE (ci := 4) (av := [.int 0]) C hE hw (x_X4_readComparison_0 l D A cy hJ M_4 iM_4 t ht (f_9) j hj (f_10) B n g_11 hs_12 d_13 tq_14) ⟨ml_X4_178, ym_X4_readComparison, yv_X4_readComparison, yi_X4_readComparison, yc_X4_readComparison⟩ yd_X4_readComparison ob_1 (by decide) rfl rfl hl.1 (Nat.le_of_ble_eq_true rfl) ⟨by decide, by decide⟩ ⟨Nat.zero_le _, Nat.zero_le _⟩ dX4_readNegated_32 (fun M_35 H locs hp_35 hw => ?_)
        obtain ⟨iM_35, q_36, q_37, q_38, q_39, p0r_34, p1r_34⟩ := hp_35
        obtain ⟨g_40, eg_40⟩ : ∃ z : Nat → Int, z = pp_cm B n (pp_pt B n 8) g_11 := ⟨_, rfl⟩
        rw [← eg_40] at p0r_34
        have lg_40_0 : g_40 0 = (tI M_35 2 4).toInt := p0r_34.2.1.1
        have lg_40_1 : g_40 1 = (tI M_35 2 6).toInt := p0r_34.2.1.2.1
        have lg_40_4 : g_40 4 = (tI M_35 1 4).toInt := p0r_34.2.2.1.1
        have lg_40_7 : g_40 7 = (tI M_35 t 4).toInt := p0r_34.2.2.2.1.1
        have lg_40_8 : g_40 8 = (tI M_35 t 5).toInt := p0r_34.2.2.2.1.2.1
        obtain ⟨d_41, ed_41⟩ : ∃ z : Nat → Int, z = qq_cm B n j (pp_pt B n 8) (qq_pt B n j 8) g_11 d_13 := ⟨_, rfl⟩
        rw [← ed_41] at p1r_34
        have EM : pp_ng B n (pp_pt B n 8) rg = g_40 := by unfold pp_ng; rw [j_31, ← eg_40]
        have ET : qq_ng B n j (pp_pt B n 8) (qq_pt B n j 8) rg td = qq_na j x_1.toInt.toNat d_41 := by unfold qq_ng; rw [j_32, j_31, show td = d_13 from j_33, ← ed_41]
        refine lv_iconst (v := 0) hx hb dX4_readNegated_35 (by decide) ?_
        refine lv_istore_n (lv' := [(3, .int 0), (2, .int x_1), (0, .ref (A 1 0)), (1, .int 0)]) hx hb dX4_readNegated_36 rfl hl (by decide) rfl (fun ls hl => ?_)
        have hl_37_58 : ∀ (n_59 : Nat) (x_42 : Int32) (M_45 : ti_M) (g_52 : Nat → Int) (d_54 : Nat → Int) (H : Heap) (locs : List Loc) (ls : Array Slot), (65 - x_42.toInt : Int).toNat < n_59 → (0 ≤ x_42.toInt) → (x_42.toInt ≤ 65) → (cI Tc M_45) → (M_45.2.2.2 = M.2.2.2) → (f0 M_45 M) → (tI M_45 2 1 = tI M 2 1) → (ot t M_45 M) → (tT M_45 1 1 = (some t)) → (tT M_45 1 2 = (some (ti_laws t j))) → (rC B n t g_52 M_45) → (tq t d_54 M_45) → (g_40 = g_52) → (qq_na j (x_42.toInt).toNat d_41 = d_54) → (x_42.toInt ≤ x_1.toInt) → ti_H ti_LT D A cy H0 M_45 H locs → lv_has ls 4 [(3, .int x_42), (2, .int x_1), (0, .ref (A 1 0)), (1, .int 0)] → W p l e (ti_rm 68) s m args below meth c H locs 0 0 Q (F0 m 37 ls []) := by
          intro n_59
          induction n_59 with
          | zero => intro x_42 M_45 g_52 d_54 H locs ls hf_59; exact absurd hf_59 (Nat.not_lt_zero _)
          | succ n_59 ih_59 =>
            intro x_42 M_45 g_52 d_54 H locs ls hf_59 b_43 b_44 iM_45 f_46 f_47 f_48 f_49 f_50 f_51 hs_53 tq_55 j_56 j_57 j_58 hw hl
            have lg_52_0 : g_52 0 = (tI M_45 2 4).toInt := hs_53.2.1.1
            have lg_52_1 : g_52 1 = (tI M_45 2 6).toInt := hs_53.2.1.2.1
            have lg_52_4 : g_52 4 = (tI M_45 1 4).toInt := hs_53.2.2.1.1
            have lg_52_7 : g_52 7 = (tI M_45 t 4).toInt := hs_53.2.2.2.1.1
            have lg_52_8 : g_52 8 = (tI M_45 t 5).toInt := hs_53.2.2.2.1.2.1
            refine lv_iload_n hx hb dX4_readNegated_37 rfl (lv_at hl 0 rfl) ?_
            refine lv_iload_n hx hb dX4_readNegated_38 rfl (lv_at hl 1 rfl) ?_
            refine sb_icmp_ge (tgt := 57) hx hb rfl rfl dX4_readNegated_39 (by decide) (fun c_39_59 => ?_) (fun c_39_59 => ?_)
            · exact hQ _ _ _ _ _ hw (⟨iM_45, (f_46), f_47, (f_48), f_49, (by rw [EM, j_56]; exact hs_53), (by rw [ET, show x_1.toInt.toNat = x_42.toInt.toNat by omega, j_57]; exact tq_55)⟩) dX4_readNegated_57
            · refine lv_aload_n hx hb dX4_readNegated_42 rfl (lv_at hl 2 rfl) ?_
              refine ti_get (ci := 4) (k := 2) (N := 6) (T := TX4) (v := .ref (A (ti_laws t j) 0)) C hw iw_4 rfl ob_1 (by decide) (by decide) fl_X4_154 rfl (ti_Tv (f_51)) dX4_readNegated_43 ?_
              refine lv_bipush (v := (-24)) hx hb dX4_readNegated_46 (by decide) ?_
              refine ti_callVv (ci := 1) (av := [.int (-24)]) C hw (x_X1_add l D A cy hJ M_45 iM_45 t ht j hj (-24) (by first | omega | exact Or.inl (by decide) | exact Or.inr (by decide)) B n g_52 hs_53 d_54 tq_55) ⟨ml_X4_170, ym_X1_add, yv_X1_add, yi_X1_add, yc_X1_add⟩ yd_X1_add (ob_l ht hj) (by decide) rfl rfl hl.1 (Nat.le_of_ble_eq_true rfl) ⟨by decide, by decide⟩ ⟨Nat.zero_le _, Nat.zero_le _⟩ dX4_readNegated_48 (fun M_62 H locs hp_62 hw => ?_)
              obtain ⟨iM_62, q_63, q_64, q_65, p0r_61, p1r_61⟩ := hp_62
              have lM_62_0 : g_52 0 = (tI M_62 2 4).toInt := p0r_61.2.1.1
              have lM_62_1 : g_52 1 = (tI M_62 2 6).toInt := p0r_61.2.1.2.1
              have lM_62_4 : g_52 4 = (tI M_62 1 4).toInt := p0r_61.2.2.1.1
              have lM_62_7 : g_52 7 = (tI M_62 t 4).toInt := p0r_61.2.2.2.1.1
              have lM_62_8 : g_52 8 = (tI M_62 t 5).toInt := p0r_61.2.2.2.1.2.1
              simp only [show ((-24) : Int32).toInt = (-24) by decide] at p1r_61
              obtain ⟨d_66, ed_66⟩ : ∃ z : Nat → Int, z = qa j (-24) d_54 := ⟨_, rfl⟩
              rw [← ed_66] at p1r_61
              obtain ⟨x_67, ex_67⟩ : ∃ z : Int32, z = x_42 + 1 := ⟨_, rfl⟩
              have tx_67 : x_67.toInt = x_42.toInt + 1 := i_add ex_67 rfl (by decide) (by omega) (by omega)
              refine lv_iinc (v := x_67) (lv' := [(3, .int x_67), (2, .int x_1), (0, .ref (A 1 0)), (1, .int 0)]) hx hb dX4_readNegated_51 hl (k := 0) rfl (by rw [ex_67]; rfl) (by decide) rfl (fun ls hl => ?_)
              refine lv_goto (tgt := 37) hx hb dX4_readNegated_54 (by decide) ?_
              exact ih_59 x_67 M_62 g_52 d_66 _ _ _ (by omega) (by first | omega | decide) (by first | omega | decide) iM_62 ((q_63).trans f_46) (f0.trans (f0_x q_64) f_47) (((q_64 1).2.1).trans f_48) (ot.trans q_65 f_49) ((tT_fr q_63).trans f_50) ((tT_fr q_63).trans f_51) p0r_61 p1r_61 j_56 (by rw [show x_67.toInt.toNat = x_42.toInt.toNat + 1 by omega, ed_66, ← j_57]; rfl) (by first | omega | decide) hw (lv_sub hl [0, 1, 2, 3] rfl)
        exact hl_37_58 ((65 - 0 : Int).toNat + 1) 0 M_35 g_40 d_41 _ _ _ (Nat.lt_succ_self _) (by have lt0 : (0 : Int32).toInt = 0 := (by decide); first | omega | decide) (by have lt0 : (0 : Int32).toInt = 0 := (by decide); first | omega | decide) iM_35 ((q_36).trans f_5) (f0.trans q_37 f_6) ((q_38).trans f_7) (ot.trans q_39 f_8) ((tT_fr q_36).trans f_9) ((tT_fr q_36).trans f_10) p0r_34 p1r_34 rfl rfl (by have lt0 : (0 : Int32).toInt = 0 := (by decide); first | omega | decide) hw (lv_sub hl [0, 1, 2, 3] rfl)
      refine sb_icmp_gt (tgt := 30) hx hb rfl (by decide : (64 : Int32).toInt = 64) dX4_readNegated_5 (by decide) (fun c_5_18 => ?_) (fun c_5_18 => ?_)
      · exact hj_30_33  _ _ _ (by rw [j_15, lp_end (P := pp_qN) (f := 65 - x_1.toInt.toNat) (s := g_11) (Or.inl (by omega))]) (by rw [j_16, ca_end (f := 65 - x_1.toInt.toNat) (s := g_11) (Or.inl (by omega))]) j_17 hw (lv_sub hl [0, 1, 2] rfl)
      · refine lv_aload_n hx hb dX4_readNegated_8 rfl (lv_at hl 1 rfl) ?_
        refine ti_get (ci := 4) (k := 0) (N := 6) (T := TX4) (v := .ref (A 2 0)) C hw iw_4 rfl ob_1 (by decide) (by decide) fl_X4_12 rfl rfl dX4_readNegated_9 ?_
        refine ti_get (ci := 7) (k := 4) (N := 7) (T := TX7) C hw iw_7 rfl ob_2 (by decide) (by decide) fl_X4_41 rfl rfl dX4_readNegated_12 ?_
        refine lv_topi (fun x_20 ex_20 => ?_)
        have bx_20 : 0 ≤ x_20.toInt ∧ x_20.toInt ≤ 41 := cI_rd iM_4 ob_2.1 ex_20
        have ux_20 : (tI M_4 2 4).toInt = x_20.toInt := by rw [ex_20]
        refine lv_bipush (v := 24) hx hb dX4_readNegated_15 (by decide) ?_
        refine sb_icmp_ne (tgt := 30) hx hb rfl (by decide : (24 : Int32).toInt = 24) dX4_readNegated_17 (by decide) (fun c_17_20 => ?_) (fun c_17_20 => ?_)
        · exact hj_30_33  _ _ _ (by rw [j_15, lp_end (P := pp_qN) (f := 65 - x_1.toInt.toNat) (s := g_11) (Or.inr (decide_eq_false (by omega)))]) (by rw [j_16, ca_end (f := 65 - x_1.toInt.toNat) (s := g_11) (Or.inr (decide_eq_false (by omega)))]) j_17 hw (lv_sub hl [0, 1, 2] rfl)
        · refine lv_aload_n hx hb dX4_readNegated_20 rfl (lv_at hl 1 rfl) ?_
          refine ti_callVvE (ci := 4) (av := []) C hE hw (x_X4_knot l D A cy hJ M_4 iM_4 t ht (f_9) B n g_11 hs_12 d_13 tq_14) ⟨ml_X4_167, ym_X4_knot, yv_X4_knot, yi_X4_knot, yc_X4_knot⟩ yd_X4_knot ob_1 (by decide) rfl rfl hl.1 (Nat.le_of_ble_eq_true rfl) ⟨by decide, by decide⟩ ⟨Nat.zero_le _, Nat.zero_le _⟩ dX4_readNegated_21 (fun M_23 H locs hp_23 hw => ?_)
          obtain ⟨iM_23, q_24, q_25, q_26, q_27, q_28, p0r_22, p1r_22⟩ := hp_23
          obtain ⟨g_29, eg_29⟩ : ∃ z : Nat → Int, z = pp_kn B n g_11 := ⟨_, rfl⟩
          rw [← eg_29] at p0r_22
          have lg_29_0 : g_29 0 = (tI M_23 2 4).toInt := p0r_22.2.1.1
          have lg_29_1 : g_29 1 = (tI M_23 2 6).toInt := p0r_22.2.1.2.1
          have lg_29_4 : g_29 4 = (tI M_23 1 4).toInt := p0r_22.2.2.1.1
          have lg_29_7 : g_29 7 = (tI M_23 t 4).toInt := p0r_22.2.2.2.1.1
          have lg_29_8 : g_29 8 = (tI M_23 t 5).toInt := p0r_22.2.2.2.1.2.1
          obtain ⟨x_30, ex_30⟩ : ∃ z : Int32, z = x_1 + 1 := ⟨_, rfl⟩
          have tx_30 : x_30.toInt = x_1.toInt + 1 := i_add ex_30 rfl (by decide) (by omega) (by omega)
          refine lv_iinc (v := x_30) (lv' := [(2, .int x_30), (0, .ref (A 1 0)), (1, .int 0)]) hx hb dX4_readNegated_24 hl (k := 0) rfl (by rw [ex_30]; rfl) (by decide) rfl (fun ls hl => ?_)
          refine lv_goto (tgt := 2) hx hb dX4_readNegated_27 (by decide) ?_
          exact ih_18 x_30 M_23 g_29 d_13 _ _ _ (by omega) (by first | omega | decide) (by first | omega | decide) iM_23 ((q_24).trans f_5) (f0.trans q_25 f_6) ((q_26).trans f_7) (ot.trans q_27 f_8) ((tT_fr q_24).trans f_9) ((tT_fr q_24).trans f_10) p0r_22 p1r_22 (j_15.trans (lp_step (decide_eq_true (by omega)) (by rw [eg_29]) (by omega))) (j_16.trans (ca_step (decide_eq_true (by omega)) (by rw [eg_29]) (by omega) (by omega))) j_17 hw (lv_sub hl [0, 1, 2] rfl)
  exact hl_2_17 ((65 - 0 : Int).toNat + 1) 0 M rg td _ _ _ (Nat.lt_succ_self _) (by have lt0 : (0 : Int32).toInt = 0 := (by decide); first | omega | decide) (by have lt0 : (0 : Int32).toInt = 0 := (by decide); first | omega | decide) hI rfl f0.refl rfl ot.refl (hT) (hL) hr hq rfl rfl rfl hw (lv_sub hl [0, 1, 2] rfl)
set_option maxHeartbeats 4000000 in
set_option maxRecDepth 100000 in
theorem x_X4_readBoth_0 (l : Launch) (D : va_G) (A : Nat → Nat → Nat) (cy : Nat → ClassId) (hJ : ti_inj ti_LT A) (M : ti_M) (hI : cI Tc M) (t : Nat) (ht : t = 3 ∨ t = 4) (hT : tT M 1 1 = some t) (j : Nat) (hj : j < 3) (hL : tT M 1 2 = some (ti_laws t j)) (B : Nat → Int) (n : Nat) (rg : Nat → Int) (hr : rC B n t rg M) (td : Nat → Int) (hq : tq t td M) : ti_KvE l yX4_readBoth cX4_readBoth 3 69 ti_LT D A cy M [.ref (A 1 0), .int 0] (fun M2 => cI Tc M2 ∧ M2.2.2.2 = M.2.2.2 ∧ f0 M2 M ∧ tI M2 2 1 = tI M 2 1 ∧ ot t M2 M ∧ rC B n t (pp_bo B n (pp_pt B n 8) rg) M2 ∧ tq t (qq_bo B n j (pp_pt B n 8) (qq_pt B n j 8) rg td) M2) := by
  refine ti_eVE yp_X4_readBoth hJ ti_LT_nd (Nat.le_of_ble_eq_true rfl) ?_
  intro p e s m args below meth c Q H0 C hE hQ hw ls hl
  have hx := C.1
  have hb := C.2.1
  have hl : lv_has ls 3 [(0, .ref (A 1 0)), (1, .int 0)] := hl
  have l0 : rg 0 = (tI M 2 4).toInt := hr.2.1.1
  have l1 : rg 1 = (tI M 2 6).toInt := hr.2.1.2.1
  have l2 : rg 2 = (tI M 2 5).toInt := hr.2.1.2.2.1
  have l3 : rg 3 = (tI M 2 3).toInt := hr.2.1.2.2.2
  have l4 : rg 4 = (tI M 1 4).toInt := hr.2.2.1.1
  have l5 : rg 5 = (tI M 1 5).toInt := hr.2.2.1.2.1
  have l7 : rg 7 = (tI M t 4).toInt := hr.2.2.2.1.1
  have l8 : rg 8 = (tI M t 5).toInt := hr.2.2.2.1.2.1
  have l9 : rg 9 = (tI M t 3).toInt := hr.2.2.2.1.2.2
  refine lv_aload_n hx hb dX4_readBoth_0 rfl (lv_at hl 0 rfl) ?_
  refine lv_iload_n hx hb dX4_readBoth_1 rfl (lv_at hl 1 rfl) ?_
  refine ti_callVvE (ci := 4) (av := [.int 0]) C hE hw (x_X4_readNegated_0 l D A cy hJ M hI t ht (hT) j hj (hL) B n rg hr td hq) ⟨ml_X4_175, ym_X4_readNegated, yv_X4_readNegated, yi_X4_readNegated, yc_X4_readNegated⟩ yd_X4_readNegated ob_1 (by decide) rfl rfl hl.1 (Nat.le_of_ble_eq_true rfl) ⟨by decide, by decide⟩ ⟨Nat.zero_le _, Nat.zero_le _⟩ dX4_readBoth_2 (fun M_2 H locs hp_2 hw => ?_)
  obtain ⟨iM_2, q_3, q_4, q_5, q_6, p0r_1, p1r_1⟩ := hp_2
  obtain ⟨g_7, eg_7⟩ : ∃ z : Nat → Int, z = pp_ng B n (pp_pt B n 8) rg := ⟨_, rfl⟩
  rw [← eg_7] at p0r_1
  have lg_7_0 : g_7 0 = (tI M_2 2 4).toInt := p0r_1.2.1.1
  have lg_7_1 : g_7 1 = (tI M_2 2 6).toInt := p0r_1.2.1.2.1
  have lg_7_4 : g_7 4 = (tI M_2 1 4).toInt := p0r_1.2.2.1.1
  have lg_7_7 : g_7 7 = (tI M_2 t 4).toInt := p0r_1.2.2.2.1.1
  have lg_7_8 : g_7 8 = (tI M_2 t 5).toInt := p0r_1.2.2.2.1.2.1
  obtain ⟨d_8, ed_8⟩ : ∃ z : Nat → Int, z = qq_ng B n j (pp_pt B n 8) (qq_pt B n j 8) rg td := ⟨_, rfl⟩
  rw [← ed_8] at p1r_1
  refine lv_iconst (v := 0) hx hb dX4_readBoth_5 (by decide) ?_
  refine lv_istore_n (lv' := [(2, .int 0), (0, .ref (A 1 0)), (1, .int 0)]) hx hb dX4_readBoth_6 rfl hl (by decide) rfl (fun ls hl => ?_)
  have hl_7_24 : ∀ (n_25 : Nat) (x_9 : Int32) (M_12 : ti_M) (g_19 : Nat → Int) (d_21 : Nat → Int) (H : Heap) (locs : List Loc) (ls : Array Slot), (64 - x_9.toInt : Int).toNat < n_25 → (0 ≤ x_9.toInt) → (x_9.toInt ≤ 64) → (cI Tc M_12) → (M_12.2.2.2 = M.2.2.2) → (f0 M_12 M) → (tI M_12 2 1 = tI M 2 1) → (ot t M_12 M) → (tT M_12 1 1 = (some t)) → (tT M_12 1 2 = (some (ti_laws t j))) → (rC B n t g_19 M_12) → (tq t d_21 M_12) → (pp_lp pp_qA (fun s => pp_ng B n (pp_pt B n 8) (pp_kn B n s)) 64 g_7 = pp_lp pp_qA (fun s => pp_ng B n (pp_pt B n 8) (pp_kn B n s)) (64 - (x_9.toInt).toNat) g_19) → (qq_lp pp_qA (fun s => pp_ng B n (pp_pt B n 8) (pp_kn B n s)) (fun s td => qa j (-22) (qq_ng B n j (pp_pt B n 8) (qq_pt B n j 8) (pp_kn B n s) td)) 64 g_7 d_8 = qq_lp pp_qA (fun s => pp_ng B n (pp_pt B n 8) (pp_kn B n s)) (fun s td => qa j (-22) (qq_ng B n j (pp_pt B n 8) (qq_pt B n j 8) (pp_kn B n s) td)) (64 - (x_9.toInt).toNat) g_19 d_21) → ti_H ti_LT D A cy H0 M_12 H locs → lv_has ls 3 [(2, .int x_9), (0, .ref (A 1 0)), (1, .int 0)] → W p l e (ti_rm 69) s m args below meth c H locs 0 0 Q (F0 m 7 ls []) := by
    intro n_25
    induction n_25 with
    | zero => intro x_9 M_12 g_19 d_21 H locs ls hf_25; exact absurd hf_25 (Nat.not_lt_zero _)
    | succ n_25 ih_25 =>
      intro x_9 M_12 g_19 d_21 H locs ls hf_25 b_10 b_11 iM_12 f_13 f_14 f_15 f_16 f_17 f_18 hs_20 tq_22 j_23 j_24 hw hl
      have lg_19_0 : g_19 0 = (tI M_12 2 4).toInt := hs_20.2.1.1
      have lg_19_1 : g_19 1 = (tI M_12 2 6).toInt := hs_20.2.1.2.1
      have lg_19_4 : g_19 4 = (tI M_12 1 4).toInt := hs_20.2.2.1.1
      have lg_19_7 : g_19 7 = (tI M_12 t 4).toInt := hs_20.2.2.2.1.1
      have lg_19_8 : g_19 8 = (tI M_12 t 5).toInt := hs_20.2.2.2.1.2.1
      refine lv_iload_n hx hb dX4_readBoth_7 rfl (lv_at hl 0 rfl) ?_
      refine lv_bipush (v := 64) hx hb dX4_readBoth_8 (by decide) ?_
      refine sb_icmp_ge (tgt := 49) hx hb rfl (by decide : (64 : Int32).toInt = 64) dX4_readBoth_10 (by decide) (fun c_10_25 => ?_) (fun c_10_25 => ?_)
      · exact hQ _ _ _ _ _ hw (⟨iM_12, (f_13), f_14, (f_15), f_16, (by unfold pp_bo; rw [← eg_7, j_23, lp_end (P := pp_qA) (f := 64 - x_9.toInt.toNat) (s := g_19) (Or.inl (by omega))]; exact hs_20), (by unfold qq_bo; rw [← eg_7, ← ed_8, j_24, qlp_end (P := pp_qA) (f := 64 - x_9.toInt.toNat) (s := g_19) (Or.inl (by omega))]; exact tq_22)⟩) dX4_readBoth_49
      · refine lv_aload_n hx hb dX4_readBoth_13 rfl (lv_at hl 1 rfl) ?_
        refine ti_get (ci := 4) (k := 0) (N := 6) (T := TX4) (v := .ref (A 2 0)) C hw iw_4 rfl ob_1 (by decide) (by decide) fl_X4_12 rfl rfl dX4_readBoth_14 ?_
        refine ti_get (ci := 7) (k := 4) (N := 7) (T := TX7) C hw iw_7 rfl ob_2 (by decide) (by decide) fl_X4_41 rfl rfl dX4_readBoth_17 ?_
        refine lv_topi (fun x_27 ex_27 => ?_)
        have bx_27 : 0 ≤ x_27.toInt ∧ x_27.toInt ≤ 41 := cI_rd iM_12 ob_2.1 ex_27
        have ux_27 : (tI M_12 2 4).toInt = x_27.toInt := by rw [ex_27]
        refine lv_bipush (v := 22) hx hb dX4_readBoth_20 (by decide) ?_
        refine sb_icmp_ne (tgt := 49) hx hb rfl (by decide : (22 : Int32).toInt = 22) dX4_readBoth_22 (by decide) (fun c_22_27 => ?_) (fun c_22_27 => ?_)
        · exact hQ _ _ _ _ _ hw (⟨iM_12, (f_13), f_14, (f_15), f_16, (by unfold pp_bo; rw [← eg_7, j_23, lp_end (P := pp_qA) (f := 64 - x_9.toInt.toNat) (s := g_19) (Or.inr (decide_eq_false (by omega)))]; exact hs_20), (by unfold qq_bo; rw [← eg_7, ← ed_8, j_24, qlp_end (P := pp_qA) (f := 64 - x_9.toInt.toNat) (s := g_19) (Or.inr (decide_eq_false (by omega)))]; exact tq_22)⟩) dX4_readBoth_49
        · refine lv_aload_n hx hb dX4_readBoth_25 rfl (lv_at hl 1 rfl) ?_
          refine ti_callVvE (ci := 4) (av := []) C hE hw (x_X4_knot l D A cy hJ M_12 iM_12 t ht (f_17) B n g_19 hs_20 d_21 tq_22) ⟨ml_X4_167, ym_X4_knot, yv_X4_knot, yi_X4_knot, yc_X4_knot⟩ yd_X4_knot ob_1 (by decide) rfl rfl hl.1 (Nat.le_of_ble_eq_true rfl) ⟨by decide, by decide⟩ ⟨Nat.zero_le _, Nat.zero_le _⟩ dX4_readBoth_26 (fun M_30 H locs hp_30 hw => ?_)
          obtain ⟨iM_30, q_31, q_32, q_33, q_34, q_35, p0r_29, p1r_29⟩ := hp_30
          obtain ⟨g_36, eg_36⟩ : ∃ z : Nat → Int, z = pp_kn B n g_19 := ⟨_, rfl⟩
          rw [← eg_36] at p0r_29
          have lg_36_0 : g_36 0 = (tI M_30 2 4).toInt := p0r_29.2.1.1
          have lg_36_1 : g_36 1 = (tI M_30 2 6).toInt := p0r_29.2.1.2.1
          have lg_36_4 : g_36 4 = (tI M_30 1 4).toInt := p0r_29.2.2.1.1
          have lg_36_7 : g_36 7 = (tI M_30 t 4).toInt := p0r_29.2.2.2.1.1
          have lg_36_8 : g_36 8 = (tI M_30 t 5).toInt := p0r_29.2.2.2.1.2.1
          refine lv_aload_n hx hb dX4_readBoth_29 rfl (lv_at hl 1 rfl) ?_
          refine lv_iload_n hx hb dX4_readBoth_30 rfl (lv_at hl 2 rfl) ?_
          refine ti_callVvE (ci := 4) (av := [.int 0]) C hE hw (x_X4_readNegated_0 l D A cy hJ M_30 iM_30 t ht ((tT_fr q_31).trans f_17) j hj ((tT_fr q_31).trans f_18) B n g_36 p0r_29 d_21 p1r_29) ⟨ml_X4_175, ym_X4_readNegated, yv_X4_readNegated, yi_X4_readNegated, yc_X4_readNegated⟩ yd_X4_readNegated ob_1 (by decide) rfl rfl hl.1 (Nat.le_of_ble_eq_true rfl) ⟨by decide, by decide⟩ ⟨Nat.zero_le _, Nat.zero_le _⟩ dX4_readBoth_31 (fun M_38 H locs hp_38 hw => ?_)
          obtain ⟨iM_38, q_39, q_40, q_41, q_42, p0r_37, p1r_37⟩ := hp_38
          obtain ⟨g_43, eg_43⟩ : ∃ z : Nat → Int, z = pp_ng B n (pp_pt B n 8) g_36 := ⟨_, rfl⟩
          rw [← eg_43] at p0r_37
          have lg_43_0 : g_43 0 = (tI M_38 2 4).toInt := p0r_37.2.1.1
          have lg_43_1 : g_43 1 = (tI M_38 2 6).toInt := p0r_37.2.1.2.1
          have lg_43_4 : g_43 4 = (tI M_38 1 4).toInt := p0r_37.2.2.1.1
          have lg_43_7 : g_43 7 = (tI M_38 t 4).toInt := p0r_37.2.2.2.1.1
          have lg_43_8 : g_43 8 = (tI M_38 t 5).toInt := p0r_37.2.2.2.1.2.1
          obtain ⟨d_44, ed_44⟩ : ∃ z : Nat → Int, z = qq_ng B n j (pp_pt B n 8) (qq_pt B n j 8) g_36 d_21 := ⟨_, rfl⟩
          rw [← ed_44] at p1r_37
          refine lv_aload_n hx hb dX4_readBoth_34 rfl (lv_at hl 1 rfl) ?_
          refine ti_get (ci := 4) (k := 2) (N := 6) (T := TX4) (v := .ref (A (ti_laws t j) 0)) C hw iw_4 rfl ob_1 (by decide) (by decide) fl_X4_154 rfl (ti_Tv ((tT_fr q_39).trans ((tT_fr q_31).trans f_18))) dX4_readBoth_35 ?_
          refine lv_bipush (v := (-22)) hx hb dX4_readBoth_38 (by decide) ?_
          refine ti_callVv (ci := 1) (av := [.int (-22)]) C hw (x_X1_add l D A cy hJ M_38 iM_38 t ht j hj (-22) (by first | omega | exact Or.inl (by decide) | exact Or.inr (by decide)) B n g_43 p0r_37 d_44 p1r_37) ⟨ml_X4_170, ym_X1_add, yv_X1_add, yi_X1_add, yc_X1_add⟩ yd_X1_add (ob_l ht hj) (by decide) rfl rfl hl.1 (Nat.le_of_ble_eq_true rfl) ⟨by decide, by decide⟩ ⟨Nat.zero_le _, Nat.zero_le _⟩ dX4_readBoth_40 (fun M_46 H locs hp_46 hw => ?_)
          obtain ⟨iM_46, q_47, q_48, q_49, p0r_45, p1r_45⟩ := hp_46
          have lM_46_0 : g_43 0 = (tI M_46 2 4).toInt := p0r_45.2.1.1
          have lM_46_1 : g_43 1 = (tI M_46 2 6).toInt := p0r_45.2.1.2.1
          have lM_46_4 : g_43 4 = (tI M_46 1 4).toInt := p0r_45.2.2.1.1
          have lM_46_7 : g_43 7 = (tI M_46 t 4).toInt := p0r_45.2.2.2.1.1
          have lM_46_8 : g_43 8 = (tI M_46 t 5).toInt := p0r_45.2.2.2.1.2.1
          simp only [show ((-22) : Int32).toInt = (-22) by decide] at p1r_45
          obtain ⟨d_50, ed_50⟩ : ∃ z : Nat → Int, z = qa j (-22) d_44 := ⟨_, rfl⟩
          rw [← ed_50] at p1r_45
          obtain ⟨x_51, ex_51⟩ : ∃ z : Int32, z = x_9 + 1 := ⟨_, rfl⟩
          have tx_51 : x_51.toInt = x_9.toInt + 1 := i_add ex_51 rfl (by decide) (by omega) (by omega)
          refine lv_iinc (v := x_51) (lv' := [(2, .int x_51), (0, .ref (A 1 0)), (1, .int 0)]) hx hb dX4_readBoth_43 hl (k := 0) rfl (by rw [ex_51]; rfl) (by decide) rfl (fun ls hl => ?_)
          refine lv_goto (tgt := 7) hx hb dX4_readBoth_46 (by decide) ?_
          exact ih_25 x_51 M_46 g_43 d_50 _ _ _ (by omega) (by first | omega | decide) (by first | omega | decide) iM_46 ((q_47).trans ((q_39).trans ((q_31).trans f_13))) (f0.trans (f0_x q_48) (f0.trans q_40 (f0.trans q_32 f_14))) (((q_48 1).2.1).trans ((q_41).trans ((q_33).trans f_15))) (ot.trans q_49 (ot.trans q_42 (ot.trans q_34 f_16))) ((tT_fr q_47).trans ((tT_fr q_39).trans ((tT_fr q_31).trans f_17))) ((tT_fr q_47).trans ((tT_fr q_39).trans ((tT_fr q_31).trans f_18))) p0r_45 p1r_45 (j_23.trans (lp_step (decide_eq_true (by omega)) (by rw [eg_43, eg_36]) (by omega))) (j_24.trans (qlp_step (decide_eq_true (by omega)) (by rw [eg_43, eg_36]) (by rw [ed_50, ed_44, eg_36]) (by omega))) hw (lv_sub hl [0, 1, 2] rfl)
  exact hl_7_24 ((64 - 0 : Int).toNat + 1) 0 M_2 g_7 d_8 _ _ _ (Nat.lt_succ_self _) (by have lt0 : (0 : Int32).toInt = 0 := (by decide); first | omega | decide) (by have lt0 : (0 : Int32).toInt = 0 := (by decide); first | omega | decide) iM_2 (q_3) q_4 (q_5) q_6 ((tT_fr q_3).trans hT) ((tT_fr q_3).trans hL) p0r_1 p1r_1 rfl rfl hw (lv_sub hl [0, 1, 2] rfl)
set_option maxHeartbeats 4000000 in
set_option maxRecDepth 100000 in
theorem x_X4_readEither_0 (l : Launch) (D : va_G) (A : Nat → Nat → Nat) (cy : Nat → ClassId) (hJ : ti_inj ti_LT A) (M : ti_M) (hI : cI Tc M) (t : Nat) (ht : t = 3 ∨ t = 4) (hT : tT M 1 1 = some t) (j : Nat) (hj : j < 3) (hL : tT M 1 2 = some (ti_laws t j)) (B : Nat → Int) (n : Nat) (rg : Nat → Int) (hr : rC B n t rg M) (td : Nat → Int) (hq : tq t td M) : ti_KvE l yX4_readEither cX4_readEither 3 70 ti_LT D A cy M [.ref (A 1 0), .int 0] (fun M2 => cI Tc M2 ∧ M2.2.2.2 = M.2.2.2 ∧ f0 M2 M ∧ tI M2 2 1 = tI M 2 1 ∧ ot t M2 M ∧ rC B n t (pp_ei B n (pp_pt B n 8) rg) M2 ∧ tq t (qq_ei B n j (pp_pt B n 8) (qq_pt B n j 8) rg td) M2) := by
  refine ti_eVE yp_X4_readEither hJ ti_LT_nd (Nat.le_of_ble_eq_true rfl) ?_
  intro p e s m args below meth c Q H0 C hE hQ hw ls hl
  have hx := C.1
  have hb := C.2.1
  have hl : lv_has ls 3 [(0, .ref (A 1 0)), (1, .int 0)] := hl
  have l0 : rg 0 = (tI M 2 4).toInt := hr.2.1.1
  have l1 : rg 1 = (tI M 2 6).toInt := hr.2.1.2.1
  have l2 : rg 2 = (tI M 2 5).toInt := hr.2.1.2.2.1
  have l3 : rg 3 = (tI M 2 3).toInt := hr.2.1.2.2.2
  have l4 : rg 4 = (tI M 1 4).toInt := hr.2.2.1.1
  have l5 : rg 5 = (tI M 1 5).toInt := hr.2.2.1.2.1
  have l7 : rg 7 = (tI M t 4).toInt := hr.2.2.2.1.1
  have l8 : rg 8 = (tI M t 5).toInt := hr.2.2.2.1.2.1
  have l9 : rg 9 = (tI M t 3).toInt := hr.2.2.2.1.2.2
  refine lv_aload_n hx hb dX4_readEither_0 rfl (lv_at hl 0 rfl) ?_
  refine lv_iload_n hx hb dX4_readEither_1 rfl (lv_at hl 1 rfl) ?_
  refine ti_callVvE (ci := 4) (av := [.int 0]) C hE hw (x_X4_readBoth_0 l D A cy hJ M hI t ht (hT) j hj (hL) B n rg hr td hq) ⟨ml_X4_164, ym_X4_readBoth, yv_X4_readBoth, yi_X4_readBoth, yc_X4_readBoth⟩ yd_X4_readBoth ob_1 (by decide) rfl rfl hl.1 (Nat.le_of_ble_eq_true rfl) ⟨by decide, by decide⟩ ⟨Nat.zero_le _, Nat.zero_le _⟩ dX4_readEither_2 (fun M_2 H locs hp_2 hw => ?_)
  obtain ⟨iM_2, q_3, q_4, q_5, q_6, p0r_1, p1r_1⟩ := hp_2
  obtain ⟨g_7, eg_7⟩ : ∃ z : Nat → Int, z = pp_bo B n (pp_pt B n 8) rg := ⟨_, rfl⟩
  rw [← eg_7] at p0r_1
  have lg_7_0 : g_7 0 = (tI M_2 2 4).toInt := p0r_1.2.1.1
  have lg_7_1 : g_7 1 = (tI M_2 2 6).toInt := p0r_1.2.1.2.1
  have lg_7_4 : g_7 4 = (tI M_2 1 4).toInt := p0r_1.2.2.1.1
  have lg_7_7 : g_7 7 = (tI M_2 t 4).toInt := p0r_1.2.2.2.1.1
  have lg_7_8 : g_7 8 = (tI M_2 t 5).toInt := p0r_1.2.2.2.1.2.1
  obtain ⟨d_8, ed_8⟩ : ∃ z : Nat → Int, z = qq_bo B n j (pp_pt B n 8) (qq_pt B n j 8) rg td := ⟨_, rfl⟩
  rw [← ed_8] at p1r_1
  refine lv_iconst (v := 0) hx hb dX4_readEither_5 (by decide) ?_
  refine lv_istore_n (lv' := [(2, .int 0), (0, .ref (A 1 0)), (1, .int 0)]) hx hb dX4_readEither_6 rfl hl (by decide) rfl (fun ls hl => ?_)
  have hl_7_24 : ∀ (n_25 : Nat) (x_9 : Int32) (M_12 : ti_M) (g_19 : Nat → Int) (d_21 : Nat → Int) (H : Heap) (locs : List Loc) (ls : Array Slot), (64 - x_9.toInt : Int).toNat < n_25 → (0 ≤ x_9.toInt) → (x_9.toInt ≤ 64) → (cI Tc M_12) → (M_12.2.2.2 = M.2.2.2) → (f0 M_12 M) → (tI M_12 2 1 = tI M 2 1) → (ot t M_12 M) → (tT M_12 1 1 = (some t)) → (tT M_12 1 2 = (some (ti_laws t j))) → (rC B n t g_19 M_12) → (tq t d_21 M_12) → (pp_lp pp_qO (fun s => pp_bo B n (pp_pt B n 8) (pp_kn B n s)) 64 g_7 = pp_lp pp_qO (fun s => pp_bo B n (pp_pt B n 8) (pp_kn B n s)) (64 - (x_9.toInt).toNat) g_19) → (qq_lp pp_qO (fun s => pp_bo B n (pp_pt B n 8) (pp_kn B n s)) (fun s td => qa j (-23) (qq_bo B n j (pp_pt B n 8) (qq_pt B n j 8) (pp_kn B n s) td)) 64 g_7 d_8 = qq_lp pp_qO (fun s => pp_bo B n (pp_pt B n 8) (pp_kn B n s)) (fun s td => qa j (-23) (qq_bo B n j (pp_pt B n 8) (qq_pt B n j 8) (pp_kn B n s) td)) (64 - (x_9.toInt).toNat) g_19 d_21) → ti_H ti_LT D A cy H0 M_12 H locs → lv_has ls 3 [(2, .int x_9), (0, .ref (A 1 0)), (1, .int 0)] → W p l e (ti_rm 70) s m args below meth c H locs 0 0 Q (F0 m 7 ls []) := by
    intro n_25
    induction n_25 with
    | zero => intro x_9 M_12 g_19 d_21 H locs ls hf_25; exact absurd hf_25 (Nat.not_lt_zero _)
    | succ n_25 ih_25 =>
      intro x_9 M_12 g_19 d_21 H locs ls hf_25 b_10 b_11 iM_12 f_13 f_14 f_15 f_16 f_17 f_18 hs_20 tq_22 j_23 j_24 hw hl
      have lg_19_0 : g_19 0 = (tI M_12 2 4).toInt := hs_20.2.1.1
      have lg_19_1 : g_19 1 = (tI M_12 2 6).toInt := hs_20.2.1.2.1
      have lg_19_4 : g_19 4 = (tI M_12 1 4).toInt := hs_20.2.2.1.1
      have lg_19_7 : g_19 7 = (tI M_12 t 4).toInt := hs_20.2.2.2.1.1
      have lg_19_8 : g_19 8 = (tI M_12 t 5).toInt := hs_20.2.2.2.1.2.1
      refine lv_iload_n hx hb dX4_readEither_7 rfl (lv_at hl 0 rfl) ?_
      refine lv_bipush (v := 64) hx hb dX4_readEither_8 (by decide) ?_
      refine sb_icmp_ge (tgt := 49) hx hb rfl (by decide : (64 : Int32).toInt = 64) dX4_readEither_10 (by decide) (fun c_10_25 => ?_) (fun c_10_25 => ?_)
      · exact hQ _ _ _ _ _ hw (⟨iM_12, (f_13), f_14, (f_15), f_16, (by unfold pp_ei; rw [← eg_7, j_23, lp_end (P := pp_qO) (f := 64 - x_9.toInt.toNat) (s := g_19) (Or.inl (by omega))]; exact hs_20), (by unfold qq_ei; rw [← eg_7, ← ed_8, j_24, qlp_end (P := pp_qO) (f := 64 - x_9.toInt.toNat) (s := g_19) (Or.inl (by omega))]; exact tq_22)⟩) dX4_readEither_49
      · refine lv_aload_n hx hb dX4_readEither_13 rfl (lv_at hl 1 rfl) ?_
        refine ti_get (ci := 4) (k := 0) (N := 6) (T := TX4) (v := .ref (A 2 0)) C hw iw_4 rfl ob_1 (by decide) (by decide) fl_X4_12 rfl rfl dX4_readEither_14 ?_
        refine ti_get (ci := 7) (k := 4) (N := 7) (T := TX7) C hw iw_7 rfl ob_2 (by decide) (by decide) fl_X4_41 rfl rfl dX4_readEither_17 ?_
        refine lv_topi (fun x_27 ex_27 => ?_)
        have bx_27 : 0 ≤ x_27.toInt ∧ x_27.toInt ≤ 41 := cI_rd iM_12 ob_2.1 ex_27
        have ux_27 : (tI M_12 2 4).toInt = x_27.toInt := by rw [ex_27]
        refine lv_bipush (v := 23) hx hb dX4_readEither_20 (by decide) ?_
        refine sb_icmp_ne (tgt := 49) hx hb rfl (by decide : (23 : Int32).toInt = 23) dX4_readEither_22 (by decide) (fun c_22_27 => ?_) (fun c_22_27 => ?_)
        · exact hQ _ _ _ _ _ hw (⟨iM_12, (f_13), f_14, (f_15), f_16, (by unfold pp_ei; rw [← eg_7, j_23, lp_end (P := pp_qO) (f := 64 - x_9.toInt.toNat) (s := g_19) (Or.inr (decide_eq_false (by omega)))]; exact hs_20), (by unfold qq_ei; rw [← eg_7, ← ed_8, j_24, qlp_end (P := pp_qO) (f := 64 - x_9.toInt.toNat) (s := g_19) (Or.inr (decide_eq_false (by omega)))]; exact tq_22)⟩) dX4_readEither_49
        · refine lv_aload_n hx hb dX4_readEither_25 rfl (lv_at hl 1 rfl) ?_
          refine ti_callVvE (ci := 4) (av := []) C hE hw (x_X4_knot l D A cy hJ M_12 iM_12 t ht (f_17) B n g_19 hs_20 d_21 tq_22) ⟨ml_X4_167, ym_X4_knot, yv_X4_knot, yi_X4_knot, yc_X4_knot⟩ yd_X4_knot ob_1 (by decide) rfl rfl hl.1 (Nat.le_of_ble_eq_true rfl) ⟨by decide, by decide⟩ ⟨Nat.zero_le _, Nat.zero_le _⟩ dX4_readEither_26 (fun M_30 H locs hp_30 hw => ?_)
          obtain ⟨iM_30, q_31, q_32, q_33, q_34, q_35, p0r_29, p1r_29⟩ := hp_30
          obtain ⟨g_36, eg_36⟩ : ∃ z : Nat → Int, z = pp_kn B n g_19 := ⟨_, rfl⟩
          rw [← eg_36] at p0r_29
          have lg_36_0 : g_36 0 = (tI M_30 2 4).toInt := p0r_29.2.1.1
          have lg_36_1 : g_36 1 = (tI M_30 2 6).toInt := p0r_29.2.1.2.1
          have lg_36_4 : g_36 4 = (tI M_30 1 4).toInt := p0r_29.2.2.1.1
          have lg_36_7 : g_36 7 = (tI M_30 t 4).toInt := p0r_29.2.2.2.1.1
          have lg_36_8 : g_36 8 = (tI M_30 t 5).toInt := p0r_29.2.2.2.1.2.1
          refine lv_aload_n hx hb dX4_readEither_29 rfl (lv_at hl 1 rfl) ?_
          refine lv_iload_n hx hb dX4_readEither_30 rfl (lv_at hl 2 rfl) ?_
          refine ti_callVvE (ci := 4) (av := [.int 0]) C hE hw (x_X4_readBoth_0 l D A cy hJ M_30 iM_30 t ht ((tT_fr q_31).trans f_17) j hj ((tT_fr q_31).trans f_18) B n g_36 p0r_29 d_21 p1r_29) ⟨ml_X4_164, ym_X4_readBoth, yv_X4_readBoth, yi_X4_readBoth, yc_X4_readBoth⟩ yd_X4_readBoth ob_1 (by decide) rfl rfl hl.1 (Nat.le_of_ble_eq_true rfl) ⟨by decide, by decide⟩ ⟨Nat.zero_le _, Nat.zero_le _⟩ dX4_readEither_31 (fun M_38 H locs hp_38 hw => ?_)
          obtain ⟨iM_38, q_39, q_40, q_41, q_42, p0r_37, p1r_37⟩ := hp_38
          obtain ⟨g_43, eg_43⟩ : ∃ z : Nat → Int, z = pp_bo B n (pp_pt B n 8) g_36 := ⟨_, rfl⟩
          rw [← eg_43] at p0r_37
          have lg_43_0 : g_43 0 = (tI M_38 2 4).toInt := p0r_37.2.1.1
          have lg_43_1 : g_43 1 = (tI M_38 2 6).toInt := p0r_37.2.1.2.1
          have lg_43_4 : g_43 4 = (tI M_38 1 4).toInt := p0r_37.2.2.1.1
          have lg_43_7 : g_43 7 = (tI M_38 t 4).toInt := p0r_37.2.2.2.1.1
          have lg_43_8 : g_43 8 = (tI M_38 t 5).toInt := p0r_37.2.2.2.1.2.1
          obtain ⟨d_44, ed_44⟩ : ∃ z : Nat → Int, z = qq_bo B n j (pp_pt B n 8) (qq_pt B n j 8) g_36 d_21 := ⟨_, rfl⟩
          rw [← ed_44] at p1r_37
          refine lv_aload_n hx hb dX4_readEither_34 rfl (lv_at hl 1 rfl) ?_
          refine ti_get (ci := 4) (k := 2) (N := 6) (T := TX4) (v := .ref (A (ti_laws t j) 0)) C hw iw_4 rfl ob_1 (by decide) (by decide) fl_X4_154 rfl (ti_Tv ((tT_fr q_39).trans ((tT_fr q_31).trans f_18))) dX4_readEither_35 ?_
          refine lv_bipush (v := (-23)) hx hb dX4_readEither_38 (by decide) ?_
          refine ti_callVv (ci := 1) (av := [.int (-23)]) C hw (x_X1_add l D A cy hJ M_38 iM_38 t ht j hj (-23) (by first | omega | exact Or.inl (by decide) | exact Or.inr (by decide)) B n g_43 p0r_37 d_44 p1r_37) ⟨ml_X4_170, ym_X1_add, yv_X1_add, yi_X1_add, yc_X1_add⟩ yd_X1_add (ob_l ht hj) (by decide) rfl rfl hl.1 (Nat.le_of_ble_eq_true rfl) ⟨by decide, by decide⟩ ⟨Nat.zero_le _, Nat.zero_le _⟩ dX4_readEither_40 (fun M_46 H locs hp_46 hw => ?_)
          obtain ⟨iM_46, q_47, q_48, q_49, p0r_45, p1r_45⟩ := hp_46
          have lM_46_0 : g_43 0 = (tI M_46 2 4).toInt := p0r_45.2.1.1
          have lM_46_1 : g_43 1 = (tI M_46 2 6).toInt := p0r_45.2.1.2.1
          have lM_46_4 : g_43 4 = (tI M_46 1 4).toInt := p0r_45.2.2.1.1
          have lM_46_7 : g_43 7 = (tI M_46 t 4).toInt := p0r_45.2.2.2.1.1
          have lM_46_8 : g_43 8 = (tI M_46 t 5).toInt := p0r_45.2.2.2.1.2.1
          simp only [show ((-23) : Int32).toInt = (-23) by decide] at p1r_45
          obtain ⟨d_50, ed_50⟩ : ∃ z : Nat → Int, z = qa j (-23) d_44 := ⟨_, rfl⟩
          rw [← ed_50] at p1r_45
          obtain ⟨x_51, ex_51⟩ : ∃ z : Int32, z = x_9 + 1 := ⟨_, rfl⟩
          have tx_51 : x_51.toInt = x_9.toInt + 1 := i_add ex_51 rfl (by decide) (by omega) (by omega)
          refine lv_iinc (v := x_51) (lv' := [(2, .int x_51), (0, .ref (A 1 0)), (1, .int 0)]) hx hb dX4_readEither_43 hl (k := 0) rfl (by rw [ex_51]; rfl) (by decide) rfl (fun ls hl => ?_)
          refine lv_goto (tgt := 7) hx hb dX4_readEither_46 (by decide) ?_
          exact ih_25 x_51 M_46 g_43 d_50 _ _ _ (by omega) (by first | omega | decide) (by first | omega | decide) iM_46 ((q_47).trans ((q_39).trans ((q_31).trans f_13))) (f0.trans (f0_x q_48) (f0.trans q_40 (f0.trans q_32 f_14))) (((q_48 1).2.1).trans ((q_41).trans ((q_33).trans f_15))) (ot.trans q_49 (ot.trans q_42 (ot.trans q_34 f_16))) ((tT_fr q_47).trans ((tT_fr q_39).trans ((tT_fr q_31).trans f_17))) ((tT_fr q_47).trans ((tT_fr q_39).trans ((tT_fr q_31).trans f_18))) p0r_45 p1r_45 (j_23.trans (lp_step (decide_eq_true (by omega)) (by rw [eg_43, eg_36]) (by omega))) (j_24.trans (qlp_step (decide_eq_true (by omega)) (by rw [eg_43, eg_36]) (by rw [ed_50, ed_44, eg_36]) (by omega))) hw (lv_sub hl [0, 1, 2] rfl)
  exact hl_7_24 ((64 - 0 : Int).toNat + 1) 0 M_2 g_7 d_8 _ _ _ (Nat.lt_succ_self _) (by have lt0 : (0 : Int32).toInt = 0 := (by decide); first | omega | decide) (by have lt0 : (0 : Int32).toInt = 0 := (by decide); first | omega | decide) iM_2 (q_3) q_4 (q_5) q_6 ((tT_fr q_3).trans hT) ((tT_fr q_3).trans hL) p0r_1 p1r_1 rfl rfl hw (lv_sub hl [0, 1, 2] rfl)

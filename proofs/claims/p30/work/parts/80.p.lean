variable {Tc : gC} {Tm : gM}
set_option maxHeartbeats 4000000 in
set_option maxRecDepth 100000 in
theorem x_X1_add (l : Launch) (D : va_G) (A : Nat → Nat → Nat) (cy : Nat → ClassId) (hJ : ti_inj ti_LT A) (M : ti_M) (hI : cI Tc M) (lw : Nat) (hlw : ti_ob ti_LT lw 1) (kn : Int32) (hk : 0 ≤ kn.toInt ∨ kn.toInt ≤ -16)(t : Nat) (ht : t = 3 ∨ t = 4) (B : Nat → Int) (n : Nat) (rg : Nat → Int) (hr : rC B n t rg M) : ti_Kv l yX1_add cX1_add 2 0 ti_LT D A cy M [.ref (A lw 0), .int kn] (fun M2 => cI Tc M2 ∧ M2.2.2.2 = M.2.2.2 ∧ fX M2 M ∧ rC B n t rg M2) := by
  refine ti_eV yp_X1_add hJ ti_LT_nd (Nat.le_of_ble_eq_true rfl) ?_
  intro p e s m args below meth c Q H0 C hQ hw ls hl
  have hx := C.1
  have hb := C.2.1
  have hl : lv_has ls 2 [(0, .ref (A lw 0)), (1, .int kn)] := hl
  have l0 : rg 0 = (tI M 2 4).toInt := hr.2.1.1
  have l1 : rg 1 = (tI M 2 6).toInt := hr.2.1.2.1
  have l2 : rg 2 = (tI M 2 5).toInt := hr.2.1.2.2.1
  have l3 : rg 3 = (tI M 2 3).toInt := hr.2.1.2.2.2
  have l4 : rg 4 = (tI M 1 4).toInt := hr.2.2.1.1
  have l5 : rg 5 = (tI M 1 5).toInt := hr.2.2.1.2.1
  have l7 : rg 7 = (tI M t 4).toInt := hr.2.2.2.1.1
  have l8 : rg 8 = (tI M t 5).toInt := hr.2.2.2.1.2.1
  have l9 : rg 9 = (tI M t 3).toInt := hr.2.2.2.1.2.2
  refine lv_aload_n hx hb dX1_add_0 rfl (lv_at hl 0 rfl) ?_
  refine ti_get (ci := 1) (k := 3) (N := 4) (T := TX1) C hw iw_1 rfl hlw (by decide) (by decide) fl_X1_24 rfl rfl dX1_add_1 ?_
  refine lv_topi (fun x_1 ex_1 => ?_)
  have bx_1 : 0 ≤ x_1.toInt ∧ x_1.toInt ≤ 64 := cI_rd hI hlw.1 ex_1
  have ux_1 : (tI M lw 3).toInt = x_1.toInt := by rw [ex_1]
  refine lv_bipush (v := 64) hx hb dX1_add_4 (by decide) ?_
  refine sb_icmp_ge (tgt := 29) hx hb rfl (by decide : (64 : Int32).toInt = 64) dX1_add_6 (by decide) (fun c_6_1 => ?_) (fun c_6_1 => ?_)
  · exact hQ _ _ _ _ _ hw (⟨hI, rfl, fX.refl, hr⟩) dX1_add_29
  · refine lv_aload_n hx hb dX1_add_9 rfl (lv_at hl 0 rfl) ?_
    refine ti_get (ci := 1) (k := 0) (N := 4) (T := TX1) (v := .ref (A lw 1)) C hw iw_1 rfl hlw (by decide) (by decide) fl_X1_11 rfl rfl dX1_add_10 ?_
    refine lv_aload_n hx hb dX1_add_13 rfl (lv_at hl 0 rfl) ?_
    refine ti_get (ci := 1) (k := 3) (N := 4) (T := TX1) C hw iw_1 rfl hlw (by decide) (by decide) fl_X1_24 rfl rfl dX1_add_14 ?_
    refine ti_top (y := x_1) (ex_1.symm) ?_
    have u_3 : (tI M lw 3).toInt = (x_1 : Int32).toInt := by rw [(ex_1.symm)]
    refine lv_iload_n hx hb dX1_add_17 rfl (lv_at hl 1 rfl) ?_
    refine ti_iast (ci := 1) (k := 0) (n := 64) C hw hlw (by decide) (fun _ _ => rfl) (vp_in_iff.mpr (by omega)) dX1_add_18 (fun H locs hw => ?_)
    obtain ⟨M_4, hM_4⟩ : ∃ z : ti_M, z = uY M lw 0 (upd (tY M lw 0) (x_1 : Int32).toNatClampNeg kn) := ⟨_, rfl⟩
    have hw := hw.to hM_4.symm
    have iM_4 : cI Tc M_4 := cI_up hI hM_4 hlw.1 hk
    have hs_5 := rC_Y hM_4 (no (cls_ne ob_2.1 hlw.1 (by decide))) hr
    have lM_4_0 : rg 0 = (tI M_4 2 4).toInt := hs_5.2.1.1
    have lM_4_1 : rg 1 = (tI M_4 2 6).toInt := hs_5.2.1.2.1
    have lM_4_4 : rg 4 = (tI M_4 1 4).toInt := hs_5.2.2.1.1
    have lM_4_7 : rg 7 = (tI M_4 t 4).toInt := hs_5.2.2.2.1.1
    have lM_4_8 : rg 8 = (tI M_4 t 5).toInt := hs_5.2.2.2.1.2.1
    refine lv_aload_n hx hb dX1_add_19 rfl (lv_at hl 0 rfl) ?_
    refine lv_dup hx hb dX1_add_20 rfl ?_
    refine ti_get (ci := 1) (k := 3) (N := 4) (T := TX1) C hw iw_1 rfl hlw (by decide) (by decide) fl_X1_24 rfl rfl dX1_add_21 ?_
    refine ti_top (y := x_1) ((tI_uYE hM_4).trans ex_1.symm) ?_
    have u_6 : (tI M_4 lw 3).toInt = (x_1 : Int32).toInt := by rw [((tI_uYE hM_4).trans ex_1.symm)]
    refine lv_iconst (v := 1) hx hb dX1_add_24 (by decide) ?_
    refine lv_iadd hx hb dX1_add_25 ?_
    refine lv_topi (fun x_7 ex_7 => ?_)
    have tx_7 : x_7.toInt = x_1.toInt + 1 := i_add ex_7 rfl (by decide : (1 : Int32).toInt = 1) (by omega) (by omega)
    refine ti_putI (ci := 1) (k := 3) (N := 4) (T := TX1) C hw iw_1 tyX1 tyX1_ok nmX1 rfl hlw (by decide) (by decide) fl_X1_24 rfl rfl rfl rfl (fn_1 A _) fs_1_3 dX1_add_26 (fun H locs hw => ?_)
    obtain ⟨M_8, hM_8⟩ : ∃ z : ti_M, z = uI M_4 lw 3 x_7 := ⟨_, rfl⟩
    have hw := hw.to hM_8.symm
    have iM_8 : cI Tc M_8 := cI_uI iM_4 hM_8 hlw.1 (ib_mk (lo := 0) (hi := 64) (by omega) (by omega))
    have vM_8 : (tI M_8 lw 3).toInt = (x_7 : Int32).toInt := by rw [tI_uE hM_8]
    have hs_9 := rC_X ht (pp_law hlw.1) hM_8 hs_5
    have lM_8_0 : rg 0 = (tI M_8 2 4).toInt := hs_9.2.1.1
    have lM_8_1 : rg 1 = (tI M_8 2 6).toInt := hs_9.2.1.2.1
    have lM_8_4 : rg 4 = (tI M_8 1 4).toInt := hs_9.2.2.1.1
    have lM_8_7 : rg 7 = (tI M_8 t 4).toInt := hs_9.2.2.2.1.1
    have lM_8_8 : rg 8 = (tI M_8 t 5).toInt := hs_9.2.2.2.1.2.1
    exact hQ _ _ _ _ _ hw (⟨iM_8, ((rf_I hM_8).trans (rf_Y hM_4)), (fX.trans (fx_I hM_8 (fxn hlw.1 (by decide))) (fx_of (ra_Y hM_4))), hs_9⟩) dX1_add_29
set_option maxHeartbeats 4000000 in
set_option maxRecDepth 100000 in
theorem x_X4_readPart_8 (l : Launch) (D : va_G) (A : Nat → Nat → Nat) (cy : Nat → ClassId) (hJ : ti_inj ti_LT A) (M : ti_M) (hI : cI Tc M) (t : Nat) (ht : t = 3 ∨ t = 4) (hT : tT M 1 1 = some t) (lw : Nat) (hlw : ti_ob ti_LT lw 1) (hL : tT M 1 2 = some lw) (B : Nat → Int) (n : Nat) (rg : Nat → Int) (hr : rC B n t rg M) : ti_KvE l yX4_readPart cX4_readPart 3 8 ti_LT D A cy M [.ref (A 1 0), .int 8] (fun M2 => cI Tc M2 ∧ M2.2.2.2 = M.2.2.2 ∧ f0 M2 M ∧ tI M2 2 1 = tI M 2 1 ∧ ot t M2 M ∧ rC B n t (pp_pt B n 0 rg) M2) := by
  refine ti_eVE yp_X4_readPart hJ ti_LT_nd (Nat.le_of_ble_eq_true rfl) ?_
  intro p e s m args below meth c Q H0 C hE hQ hw ls hl
  have hx := C.1
  have hb := C.2.1
  have hl : lv_has ls 3 [(0, .ref (A 1 0)), (1, .int 8)] := hl
  have l0 : rg 0 = (tI M 2 4).toInt := hr.2.1.1
  have l1 : rg 1 = (tI M 2 6).toInt := hr.2.1.2.1
  have l2 : rg 2 = (tI M 2 5).toInt := hr.2.1.2.2.1
  have l3 : rg 3 = (tI M 2 3).toInt := hr.2.1.2.2.2
  have l4 : rg 4 = (tI M 1 4).toInt := hr.2.2.1.1
  have l5 : rg 5 = (tI M 1 5).toInt := hr.2.2.1.2.1
  have l7 : rg 7 = (tI M t 4).toInt := hr.2.2.2.1.1
  have l8 : rg 8 = (tI M t 5).toInt := hr.2.2.2.1.2.1
  have l9 : rg 9 = (tI M t 3).toInt := hr.2.2.2.1.2.2
  refine lv_aload_n hx hb dX4_readPart_0 rfl (lv_at hl 0 rfl) ?_
  refine ti_get (ci := 4) (k := 0) (N := 6) (T := TX4) (v := .ref (A 2 0)) C hw iw_4 rfl ob_1 (by decide) (by decide) fl_X4_12 rfl rfl dX4_readPart_1 ?_
  refine ti_get (ci := 7) (k := 4) (N := 7) (T := TX7) C hw iw_7 rfl ob_2 (by decide) (by decide) fl_X4_41 rfl rfl dX4_readPart_4 ?_
  refine lv_topi (fun x_1 ex_1 => ?_)
  have bx_1 : 0 ≤ x_1.toInt ∧ x_1.toInt ≤ 41 := cI_rd hI ob_2.1 ex_1
  have ux_1 : (tI M 2 4).toInt = x_1.toInt := by rw [ex_1]
  refine lv_istore_n (lv' := [(2, .int x_1), (0, .ref (A 1 0)), (1, .int 8)]) hx hb dX4_readPart_7 rfl hl (by decide) rfl (fun ls hl => ?_)
  refine lv_iload_n hx hb dX4_readPart_8 rfl (lv_at hl 0 rfl) ?_
  refine lv_bipush (v := 30) hx hb dX4_readPart_9 (by decide) ?_
  refine sb_icmp_ne (tgt := 28) hx hb rfl (by decide : (30 : Int32).toInt = 30) dX4_readPart_11 (by decide) (fun c_11_1 => ?_) (fun c_11_1 => ?_)
  · refine lv_iload_n hx hb dX4_readPart_28 rfl (lv_at hl 0 rfl) ?_
    refine lv_bipush (v := 30) hx hb dX4_readPart_29 (by decide) ?_
    refine sb_icmp_ne (tgt := 57) hx hb rfl (by decide : (30 : Int32).toInt = 30) dX4_readPart_31 (by decide) (fun c_31_9 => ?_) (fun h => by omega)
    refine lv_iload_n hx hb dX4_readPart_57 rfl (lv_at hl 0 rfl) ?_
    refine lv_bipush (v := 26) hx hb dX4_readPart_58 (by decide) ?_
    refine sb_icmp_ne (tgt := 84) hx hb rfl (by decide : (26 : Int32).toInt = 26) dX4_readPart_60 (by decide) (fun c_60_10 => ?_) (fun c_60_10 => ?_)
    · refine lv_iload_n hx hb dX4_readPart_84 rfl (lv_at hl 0 rfl) ?_
      refine lv_bipush (v := 26) hx hb dX4_readPart_85 (by decide) ?_
      refine sb_icmp_ne (tgt := 111) hx hb rfl (by decide : (26 : Int32).toInt = 26) dX4_readPart_87 (by decide) (fun c_87_19 => ?_) (fun h => by omega)
      refine lv_iload_n hx hb dX4_readPart_111 rfl (lv_at hl 0 rfl) ?_
      refine lv_bipush (v := 16) hx hb dX4_readPart_112 (by decide) ?_
      refine sb_icmp_lt (tgt := 139) hx hb rfl (by decide : (16 : Int32).toInt = 16) dX4_readPart_114 (by decide) (fun c_114_33 => ?_) (fun c_114_33 => ?_)
      · refine lv_aload_n hx hb dX4_readPart_139 rfl (lv_at hl 1 rfl) ?_
        refine lv_iconst (v := 1) hx hb dX4_readPart_140 (by decide) ?_
        refine ti_callVv (ci := 4) (av := [.int 1]) C hw (x_X4_refuse l D A cy hJ M hI t ht 1 B n rg hr) ⟨ml_X4_82, ym_X4_refuse, yv_X4_refuse, yi_X4_refuse, yc_X4_refuse⟩ yd_X4_refuse ob_1 (by decide) rfl rfl hl.1 (Nat.le_of_ble_eq_true rfl) ⟨by decide, by decide⟩ ⟨Nat.zero_le _, Nat.zero_le _⟩ dX4_readPart_141 (fun M_49 H locs hp_49 hw => ?_)
        obtain ⟨iM_49, q_50, q_51, q_52, p0r_48⟩ := hp_49
        have hlr_48_1 : (1 : Int32).toInt = 1 := by decide
        simp only [hlr_48_1] at p0r_48
        obtain ⟨g_53, eg_53⟩ : ∃ z : Nat → Int, z = pp_rf 1 rg := ⟨_, rfl⟩
        rw [← eg_53] at p0r_48
        have lg_53_0 : g_53 0 = (tI M_49 2 4).toInt := p0r_48.2.1.1
        have lg_53_1 : g_53 1 = (tI M_49 2 6).toInt := p0r_48.2.1.2.1
        have lg_53_4 : g_53 4 = (tI M_49 1 4).toInt := p0r_48.2.2.1.1
        have lg_53_7 : g_53 7 = (tI M_49 t 4).toInt := p0r_48.2.2.2.1.1
        have lg_53_8 : g_53 8 = (tI M_49 t 5).toInt := p0r_48.2.2.2.1.2.1
        exact hQ _ _ _ _ _ hw (⟨iM_49, (q_50), (f0_12 q_51), (q_52), (ot_12 ht q_51), (by rw [pe_0, if_neg (by omega)]; unfold pp_p0; rw [if_neg (by omega), if_neg (fun q => by omega), ← eg_53]; exact p0r_48)⟩) dX4_readPart_144
      · refine lv_iload_n hx hb dX4_readPart_117 rfl (lv_at hl 0 rfl) ?_
        refine lv_bipush (v := 21) hx hb dX4_readPart_118 (by decide) ?_
        refine sb_icmp_gt (tgt := 139) hx hb rfl (by decide : (21 : Int32).toInt = 21) dX4_readPart_120 (by decide) (fun c_120_34 => ?_) (fun c_120_34 => ?_)
        · refine lv_aload_n hx hb dX4_readPart_139 rfl (lv_at hl 1 rfl) ?_
          refine lv_iconst (v := 1) hx hb dX4_readPart_140 (by decide) ?_
          refine ti_callVv (ci := 4) (av := [.int 1]) C hw (x_X4_refuse l D A cy hJ M hI t ht 1 B n rg hr) ⟨ml_X4_82, ym_X4_refuse, yv_X4_refuse, yi_X4_refuse, yc_X4_refuse⟩ yd_X4_refuse ob_1 (by decide) rfl rfl hl.1 (Nat.le_of_ble_eq_true rfl) ⟨by decide, by decide⟩ ⟨Nat.zero_le _, Nat.zero_le _⟩ dX4_readPart_141 (fun M_55 H locs hp_55 hw => ?_)
          obtain ⟨iM_55, q_56, q_57, q_58, p0r_54⟩ := hp_55
          have hlr_54_1 : (1 : Int32).toInt = 1 := by decide
          simp only [hlr_54_1] at p0r_54
          obtain ⟨g_59, eg_59⟩ : ∃ z : Nat → Int, z = pp_rf 1 rg := ⟨_, rfl⟩
          rw [← eg_59] at p0r_54
          have lg_59_0 : g_59 0 = (tI M_55 2 4).toInt := p0r_54.2.1.1
          have lg_59_1 : g_59 1 = (tI M_55 2 6).toInt := p0r_54.2.1.2.1
          have lg_59_4 : g_59 4 = (tI M_55 1 4).toInt := p0r_54.2.2.1.1
          have lg_59_7 : g_59 7 = (tI M_55 t 4).toInt := p0r_54.2.2.2.1.1
          have lg_59_8 : g_59 8 = (tI M_55 t 5).toInt := p0r_54.2.2.2.1.2.1
          exact hQ _ _ _ _ _ hw (⟨iM_55, (q_56), (f0_12 q_57), (q_58), (ot_12 ht q_57), (by rw [pe_0, if_neg (by omega)]; unfold pp_p0; rw [if_neg (by omega), if_neg (fun q => by omega), ← eg_59]; exact p0r_54)⟩) dX4_readPart_144
        · refine lv_aload_n hx hb dX4_readPart_123 rfl (lv_at hl 1 rfl) ?_
          refine ti_get (ci := 4) (k := 2) (N := 6) (T := TX4) (v := .ref (A lw 0)) C hw iw_4 rfl ob_1 (by decide) (by decide) fl_X4_154 rfl (ti_Tv (hL)) dX4_readPart_124 ?_
          refine lv_iload_n hx hb dX4_readPart_127 rfl (lv_at hl 0 rfl) ?_
          refine lv_ineg hx hb dX4_readPart_128 ?_
          refine lv_topi (fun x_36 ex_36 => ?_)
          have tx_36 : x_36.toInt = -x_1.toInt := i_neg ex_36 rfl (by omega)
          refine ti_callVv (ci := 1) (av := [.int x_36]) C hw (x_X1_add l D A cy hJ M hI lw hlw x_36 (by first | omega | exact Or.inl (by decide) | exact Or.inr (by decide)) t ht B n rg hr) ⟨ml_X4_170, ym_X1_add, yv_X1_add, yi_X1_add, yc_X1_add⟩ yd_X1_add hlw (by decide) rfl rfl hl.1 (Nat.le_of_ble_eq_true rfl) ⟨by decide, by decide⟩ ⟨Nat.zero_le _, Nat.zero_le _⟩ dX4_readPart_129 (fun M_38 H locs hp_38 hw => ?_)
          obtain ⟨iM_38, q_39, q_40, p0r_37⟩ := hp_38
          have lM_38_0 : rg 0 = (tI M_38 2 4).toInt := p0r_37.2.1.1
          have lM_38_1 : rg 1 = (tI M_38 2 6).toInt := p0r_37.2.1.2.1
          have lM_38_4 : rg 4 = (tI M_38 1 4).toInt := p0r_37.2.2.1.1
          have lM_38_7 : rg 7 = (tI M_38 t 4).toInt := p0r_37.2.2.2.1.1
          have lM_38_8 : rg 8 = (tI M_38 t 5).toInt := p0r_37.2.2.2.1.2.1
          refine lv_aload_n hx hb dX4_readPart_132 rfl (lv_at hl 1 rfl) ?_
          refine ti_callVvE (ci := 4) (av := []) C hE hw (x_X4_knot l D A cy hJ M_38 iM_38 t ht ((tT_fr q_39).trans hT) B n rg p0r_37) ⟨ml_X4_167, ym_X4_knot, yv_X4_knot, yi_X4_knot, yc_X4_knot⟩ yd_X4_knot ob_1 (by decide) rfl rfl hl.1 (Nat.le_of_ble_eq_true rfl) ⟨by decide, by decide⟩ ⟨Nat.zero_le _, Nat.zero_le _⟩ dX4_readPart_133 (fun M_42 H locs hp_42 hw => ?_)
          obtain ⟨iM_42, q_43, q_44, q_45, q_46, p0r_41⟩ := hp_42
          obtain ⟨g_47, eg_47⟩ : ∃ z : Nat → Int, z = pp_kn B n rg := ⟨_, rfl⟩
          rw [← eg_47] at p0r_41
          have lg_47_0 : g_47 0 = (tI M_42 2 4).toInt := p0r_41.2.1.1
          have lg_47_1 : g_47 1 = (tI M_42 2 6).toInt := p0r_41.2.1.2.1
          have lg_47_4 : g_47 4 = (tI M_42 1 4).toInt := p0r_41.2.2.1.1
          have lg_47_7 : g_47 7 = (tI M_42 t 4).toInt := p0r_41.2.2.2.1.1
          have lg_47_8 : g_47 8 = (tI M_42 t 5).toInt := p0r_41.2.2.2.1.2.1
          refine lv_goto (tgt := 144) hx hb dX4_readPart_136 (by decide) ?_
          exact hQ _ _ _ _ _ hw (⟨iM_42, ((q_43).trans q_39), (f0.trans q_44 (f0_x q_40)), ((q_45).trans ((q_40 1).2.1)), (ot.trans q_46 (ot_fx ht q_40)), (by rw [pe_0, if_neg (by omega)]; unfold pp_p0; rw [if_neg (by omega), if_pos ⟨by omega, by omega⟩, ← eg_47]; exact p0r_41)⟩) dX4_readPart_144
    · refine lv_aload_n hx hb dX4_readPart_63 rfl (lv_at hl 1 rfl) ?_
      refine ti_get (ci := 4) (k := 0) (N := 6) (T := TX4) (v := .ref (A 2 0)) C hw iw_4 rfl ob_1 (by decide) (by decide) fl_X4_12 rfl rfl dX4_readPart_64 ?_
      refine ti_get (ci := 7) (k := 6) (N := 7) (T := TX7) C hw iw_7 rfl ob_2 (by decide) (by decide) fl_X4_95 rfl rfl dX4_readPart_67 ?_
      refine lv_topi (fun x_12 ex_12 => ?_)
      have bx_12 : 0 ≤ x_12.toInt ∧ x_12.toInt ≤ 2147483647 := cI_rd hI ob_2.1 ex_12
      have ux_12 : (tI M 2 6).toInt = x_12.toInt := by rw [ex_12]
      refine lv_sipush (v := 9999) hx hb dX4_readPart_70 (by decide) ?_
      refine sb_icmp_le (tgt := 84) hx hb rfl (by decide : (9999 : Int32).toInt = 9999) dX4_readPart_73 (by decide) (fun c_73_12 => ?_) (fun c_73_12 => ?_)
      · refine lv_iload_n hx hb dX4_readPart_84 rfl (lv_at hl 0 rfl) ?_
        refine lv_bipush (v := 26) hx hb dX4_readPart_85 (by decide) ?_
        refine sb_icmp_ne (tgt := 111) hx hb rfl (by decide : (26 : Int32).toInt = 26) dX4_readPart_87 (by decide) (fun h => by omega) (fun c_87_20 => ?_)
        refine lv_aload_n hx hb dX4_readPart_90 rfl (lv_at hl 1 rfl) ?_
        refine ti_get (ci := 4) (k := 2) (N := 6) (T := TX4) (v := .ref (A lw 0)) C hw iw_4 rfl ob_1 (by decide) (by decide) fl_X4_154 rfl (ti_Tv (hL)) dX4_readPart_91 ?_
        refine lv_aload_n hx hb dX4_readPart_94 rfl (lv_at hl 1 rfl) ?_
        refine ti_get (ci := 4) (k := 0) (N := 6) (T := TX4) (v := .ref (A 2 0)) C hw iw_4 rfl ob_1 (by decide) (by decide) fl_X4_12 rfl rfl dX4_readPart_95 ?_
        refine ti_get (ci := 7) (k := 6) (N := 7) (T := TX7) C hw iw_7 rfl ob_2 (by decide) (by decide) fl_X4_95 rfl rfl dX4_readPart_98 ?_
        refine ti_top (y := x_12) (ex_12.symm) ?_
        have u_22 : (tI M 2 6).toInt = (x_12 : Int32).toInt := by rw [(ex_12.symm)]
        refine ti_callVv (ci := 1) (av := [.int x_12]) C hw (x_X1_add l D A cy hJ M hI lw hlw x_12 (by first | omega | exact Or.inl (by decide) | exact Or.inr (by decide)) t ht B n rg hr) ⟨ml_X4_170, ym_X1_add, yv_X1_add, yi_X1_add, yc_X1_add⟩ yd_X1_add hlw (by decide) rfl rfl hl.1 (Nat.le_of_ble_eq_true rfl) ⟨by decide, by decide⟩ ⟨Nat.zero_le _, Nat.zero_le _⟩ dX4_readPart_101 (fun M_24 H locs hp_24 hw => ?_)
        obtain ⟨iM_24, q_25, q_26, p0r_23⟩ := hp_24
        have lM_24_0 : rg 0 = (tI M_24 2 4).toInt := p0r_23.2.1.1
        have lM_24_1 : rg 1 = (tI M_24 2 6).toInt := p0r_23.2.1.2.1
        have lM_24_4 : rg 4 = (tI M_24 1 4).toInt := p0r_23.2.2.1.1
        have lM_24_7 : rg 7 = (tI M_24 t 4).toInt := p0r_23.2.2.2.1.1
        have lM_24_8 : rg 8 = (tI M_24 t 5).toInt := p0r_23.2.2.2.1.2.1
        refine lv_aload_n hx hb dX4_readPart_104 rfl (lv_at hl 1 rfl) ?_
        refine ti_callVvE (ci := 4) (av := []) C hE hw (x_X4_knot l D A cy hJ M_24 iM_24 t ht ((tT_fr q_25).trans hT) B n rg p0r_23) ⟨ml_X4_167, ym_X4_knot, yv_X4_knot, yi_X4_knot, yc_X4_knot⟩ yd_X4_knot ob_1 (by decide) rfl rfl hl.1 (Nat.le_of_ble_eq_true rfl) ⟨by decide, by decide⟩ ⟨Nat.zero_le _, Nat.zero_le _⟩ dX4_readPart_105 (fun M_28 H locs hp_28 hw => ?_)
        obtain ⟨iM_28, q_29, q_30, q_31, q_32, p0r_27⟩ := hp_28
        obtain ⟨g_33, eg_33⟩ : ∃ z : Nat → Int, z = pp_kn B n rg := ⟨_, rfl⟩
        rw [← eg_33] at p0r_27
        have lg_33_0 : g_33 0 = (tI M_28 2 4).toInt := p0r_27.2.1.1
        have lg_33_1 : g_33 1 = (tI M_28 2 6).toInt := p0r_27.2.1.2.1
        have lg_33_4 : g_33 4 = (tI M_28 1 4).toInt := p0r_27.2.2.1.1
        have lg_33_7 : g_33 7 = (tI M_28 t 4).toInt := p0r_27.2.2.2.1.1
        have lg_33_8 : g_33 8 = (tI M_28 t 5).toInt := p0r_27.2.2.2.1.2.1
        refine lv_goto (tgt := 144) hx hb dX4_readPart_108 (by decide) ?_
        exact hQ _ _ _ _ _ hw (⟨iM_28, ((q_29).trans q_25), (f0.trans q_30 (f0_x q_26)), ((q_31).trans ((q_26 1).2.1)), (ot.trans q_32 (ot_fx ht q_26)), (by rw [pe_0, if_neg (by omega)]; unfold pp_p0; rw [if_pos (by omega), if_neg (by omega), ← eg_33]; exact p0r_27)⟩) dX4_readPart_144
      · refine lv_aload_n hx hb dX4_readPart_76 rfl (lv_at hl 1 rfl) ?_
        refine lv_iconst (v := 2) hx hb dX4_readPart_77 (by decide) ?_
        refine ti_callVv (ci := 4) (av := [.int 2]) C hw (x_X4_refuse l D A cy hJ M hI t ht 2 B n rg hr) ⟨ml_X4_82, ym_X4_refuse, yv_X4_refuse, yi_X4_refuse, yc_X4_refuse⟩ yd_X4_refuse ob_1 (by decide) rfl rfl hl.1 (Nat.le_of_ble_eq_true rfl) ⟨by decide, by decide⟩ ⟨Nat.zero_le _, Nat.zero_le _⟩ dX4_readPart_78 (fun M_15 H locs hp_15 hw => ?_)
        obtain ⟨iM_15, q_16, q_17, q_18, p0r_14⟩ := hp_15
        have hlr_14_2 : (2 : Int32).toInt = 2 := by decide
        simp only [hlr_14_2] at p0r_14
        obtain ⟨g_19, eg_19⟩ : ∃ z : Nat → Int, z = pp_rf 2 rg := ⟨_, rfl⟩
        rw [← eg_19] at p0r_14
        have lg_19_0 : g_19 0 = (tI M_15 2 4).toInt := p0r_14.2.1.1
        have lg_19_1 : g_19 1 = (tI M_15 2 6).toInt := p0r_14.2.1.2.1
        have lg_19_4 : g_19 4 = (tI M_15 1 4).toInt := p0r_14.2.2.1.1
        have lg_19_7 : g_19 7 = (tI M_15 t 4).toInt := p0r_14.2.2.2.1.1
        have lg_19_8 : g_19 8 = (tI M_15 t 5).toInt := p0r_14.2.2.2.1.2.1
        refine lv_goto (tgt := 144) hx hb dX4_readPart_81 (by decide) ?_
        exact hQ _ _ _ _ _ hw (⟨iM_15, (q_16), (f0_12 q_17), (q_18), (ot_12 ht q_17), (by rw [pe_0, if_neg (by omega)]; unfold pp_p0; rw [if_pos (by omega), if_pos (by omega), ← eg_19]; exact p0r_14)⟩) dX4_readPart_144
  · refine lv_iload_n hx hb dX4_readPart_14 rfl (lv_at hl 2 rfl) ?_
    refine lv_bipush (v := 8) hx hb dX4_readPart_15 (by decide) ?_
    refine sb_icmp_lt (tgt := 28) hx hb (by decide : (8 : Int32).toInt = 8) (by decide : (8 : Int32).toInt = 8) dX4_readPart_17 (by decide) (fun h => absurd h (by decide)) (fun c_17_2 => ?_)
    refine lv_aload_n hx hb dX4_readPart_20 rfl (lv_at hl 1 rfl) ?_
    refine lv_iconst (v := 2) hx hb dX4_readPart_21 (by decide) ?_
    refine ti_callVv (ci := 4) (av := [.int 2]) C hw (x_X4_refuse l D A cy hJ M hI t ht 2 B n rg hr) ⟨ml_X4_82, ym_X4_refuse, yv_X4_refuse, yi_X4_refuse, yc_X4_refuse⟩ yd_X4_refuse ob_1 (by decide) rfl rfl hl.1 (Nat.le_of_ble_eq_true rfl) ⟨by decide, by decide⟩ ⟨Nat.zero_le _, Nat.zero_le _⟩ dX4_readPart_22 (fun M_5 H locs hp_5 hw => ?_)
    obtain ⟨iM_5, q_6, q_7, q_8, p0r_4⟩ := hp_5
    have hlr_4_2 : (2 : Int32).toInt = 2 := by decide
    simp only [hlr_4_2] at p0r_4
    obtain ⟨g_9, eg_9⟩ : ∃ z : Nat → Int, z = pp_rf 2 rg := ⟨_, rfl⟩
    rw [← eg_9] at p0r_4
    have lg_9_0 : g_9 0 = (tI M_5 2 4).toInt := p0r_4.2.1.1
    have lg_9_1 : g_9 1 = (tI M_5 2 6).toInt := p0r_4.2.1.2.1
    have lg_9_4 : g_9 4 = (tI M_5 1 4).toInt := p0r_4.2.2.1.1
    have lg_9_7 : g_9 7 = (tI M_5 t 4).toInt := p0r_4.2.2.2.1.1
    have lg_9_8 : g_9 8 = (tI M_5 t 5).toInt := p0r_4.2.2.2.1.2.1
    refine lv_goto (tgt := 144) hx hb dX4_readPart_25 (by decide) ?_
    exact hQ _ _ _ _ _ hw (⟨iM_5, (q_6), (f0_12 q_7), (q_8), (ot_12 ht q_7), (by rw [pe_0, if_pos (by omega), ← eg_9]; exact p0r_4)⟩) dX4_readPart_144
set_option maxHeartbeats 4000000 in
set_option maxRecDepth 100000 in
theorem x_X4_readProduct_8 (l : Launch) (D : va_G) (A : Nat → Nat → Nat) (cy : Nat → ClassId) (hJ : ti_inj ti_LT A) (M : ti_M) (hI : cI Tc M) (t : Nat) (ht : t = 3 ∨ t = 4) (hT : tT M 1 1 = some t) (lw : Nat) (hlw : ti_ob ti_LT lw 1) (hL : tT M 1 2 = some lw) (B : Nat → Int) (n : Nat) (rg : Nat → Int) (hr : rC B n t rg M) : ti_KvE l yX4_readProduct cX4_readProduct 4 9 ti_LT D A cy M [.ref (A 1 0), .int 8] (fun M2 => cI Tc M2 ∧ M2.2.2.2 = M.2.2.2 ∧ f0 M2 M ∧ tI M2 2 1 = tI M 2 1 ∧ ot t M2 M ∧ rC B n t (pp_pd B n (pp_pt B n 0) rg) M2) := by
  refine ti_eVE yp_X4_readProduct hJ ti_LT_nd (Nat.le_of_ble_eq_true rfl) ?_
  intro p e s m args below meth c Q H0 C hE hQ hw ls hl
  have hx := C.1
  have hb := C.2.1
  have hl : lv_has ls 4 [(0, .ref (A 1 0)), (1, .int 8)] := hl
  have l0 : rg 0 = (tI M 2 4).toInt := hr.2.1.1
  have l1 : rg 1 = (tI M 2 6).toInt := hr.2.1.2.1
  have l2 : rg 2 = (tI M 2 5).toInt := hr.2.1.2.2.1
  have l3 : rg 3 = (tI M 2 3).toInt := hr.2.1.2.2.2
  have l4 : rg 4 = (tI M 1 4).toInt := hr.2.2.1.1
  have l5 : rg 5 = (tI M 1 5).toInt := hr.2.2.1.2.1
  have l7 : rg 7 = (tI M t 4).toInt := hr.2.2.2.1.1
  have l8 : rg 8 = (tI M t 5).toInt := hr.2.2.2.1.2.1
  have l9 : rg 9 = (tI M t 3).toInt := hr.2.2.2.1.2.2
  refine lv_aload_n hx hb dX4_readProduct_0 rfl (lv_at hl 0 rfl) ?_
  refine lv_iload_n hx hb dX4_readProduct_1 rfl (lv_at hl 1 rfl) ?_
  refine ti_callVvE (ci := 4) (av := [.int 8]) C hE hw (x_X4_readPart_8 l D A cy hJ M hI t ht (hT) lw hlw (hL) B n rg hr) ⟨ml_X4_187, ym_X4_readPart, yv_X4_readPart, yi_X4_readPart, yc_X4_readPart⟩ yd_X4_readPart ob_1 (by decide) rfl rfl hl.1 (Nat.le_of_ble_eq_true rfl) ⟨by decide, by decide⟩ ⟨Nat.zero_le _, Nat.zero_le _⟩ dX4_readProduct_2 (fun M_2 H locs hp_2 hw => ?_)
  obtain ⟨iM_2, q_3, q_4, q_5, q_6, p0r_1⟩ := hp_2
  obtain ⟨g_7, eg_7⟩ : ∃ z : Nat → Int, z = pp_pt B n 0 rg := ⟨_, rfl⟩
  rw [← eg_7] at p0r_1
  have lg_7_0 : g_7 0 = (tI M_2 2 4).toInt := p0r_1.2.1.1
  have lg_7_1 : g_7 1 = (tI M_2 2 6).toInt := p0r_1.2.1.2.1
  have lg_7_4 : g_7 4 = (tI M_2 1 4).toInt := p0r_1.2.2.1.1
  have lg_7_7 : g_7 7 = (tI M_2 t 4).toInt := p0r_1.2.2.2.1.1
  have lg_7_8 : g_7 8 = (tI M_2 t 5).toInt := p0r_1.2.2.2.1.2.1
  refine lv_iconst (v := 0) hx hb dX4_readProduct_5 (by decide) ?_
  refine lv_istore_n (lv' := [(2, .int 0), (0, .ref (A 1 0)), (1, .int 8)]) hx hb dX4_readProduct_6 rfl hl (by decide) rfl (fun ls hl => ?_)
  have hl_7_20 : ∀ (n_21 : Nat) (x_8 : Int32) (M_11 : ti_M) (g_18 : Nat → Int) (H : Heap) (locs : List Loc) (ls : Array Slot), (64 - x_8.toInt : Int).toNat < n_21 → (0 ≤ x_8.toInt) → (x_8.toInt ≤ 64) → (cI Tc M_11) → (M_11.2.2.2 = M.2.2.2) → (f0 M_11 M) → (tI M_11 2 1 = tI M 2 1) → (ot t M_11 M) → (tT M_11 1 1 = (some t)) → (tT M_11 1 2 = (some lw)) → (rC B n t g_18 M_11) → (pp_lp pp_qT (fun s => (pp_pt B n 0) (pp_kn B n s)) 64 g_7 = pp_lp pp_qT (fun s => (pp_pt B n 0) (pp_kn B n s)) (64 - (x_8.toInt).toNat) g_18) → ti_H ti_LT D A cy H0 M_11 H locs → lv_has ls 4 [(2, .int x_8), (0, .ref (A 1 0)), (1, .int 8)] → W p l e (ti_rm 9) s m args below meth c H locs 0 0 Q (F0 m 7 ls []) := by
    intro n_21
    induction n_21 with
    | zero => intro x_8 M_11 g_18 H locs ls hf_21; exact absurd hf_21 (Nat.not_lt_zero _)
    | succ n_21 ih_21 =>
      intro x_8 M_11 g_18 H locs ls hf_21 b_9 b_10 iM_11 f_12 f_13 f_14 f_15 f_16 f_17 hs_19 j_20 hw hl
      have lg_18_0 : g_18 0 = (tI M_11 2 4).toInt := hs_19.2.1.1
      have lg_18_1 : g_18 1 = (tI M_11 2 6).toInt := hs_19.2.1.2.1
      have lg_18_4 : g_18 4 = (tI M_11 1 4).toInt := hs_19.2.2.1.1
      have lg_18_7 : g_18 7 = (tI M_11 t 4).toInt := hs_19.2.2.2.1.1
      have lg_18_8 : g_18 8 = (tI M_11 t 5).toInt := hs_19.2.2.2.1.2.1
      refine lv_iload_n hx hb dX4_readProduct_7 rfl (lv_at hl 0 rfl) ?_
      refine lv_bipush (v := 64) hx hb dX4_readProduct_8 (by decide) ?_
      refine sb_icmp_ge (tgt := 69) hx hb rfl (by decide : (64 : Int32).toInt = 64) dX4_readProduct_10 (by decide) (fun c_10_21 => ?_) (fun c_10_21 => ?_)
      · exact hQ _ _ _ _ _ hw (⟨iM_11, (f_12), f_13, (f_14), f_15, (by unfold pp_pd; rw [← eg_7, j_20, lp_end (P := pp_qT) (f := 64 - x_8.toInt.toNat) (s := g_18) (Or.inl (by omega))]; exact hs_19)⟩) dX4_readProduct_69
      · refine lv_aload_n hx hb dX4_readProduct_13 rfl (lv_at hl 1 rfl) ?_
        refine ti_get (ci := 4) (k := 0) (N := 6) (T := TX4) (v := .ref (A 2 0)) C hw iw_4 rfl ob_1 (by decide) (by decide) fl_X4_12 rfl rfl dX4_readProduct_14 ?_
        refine ti_get (ci := 7) (k := 4) (N := 7) (T := TX7) C hw iw_7 rfl ob_2 (by decide) (by decide) fl_X4_41 rfl rfl dX4_readProduct_17 ?_
        refine lv_topi (fun x_23 ex_23 => ?_)
        have bx_23 : 0 ≤ x_23.toInt ∧ x_23.toInt ≤ 41 := cI_rd iM_11 ob_2.1 ex_23
        have ux_23 : (tI M_11 2 4).toInt = x_23.toInt := by rw [ex_23]
        refine lv_bipush (v := 40) hx hb dX4_readProduct_20 (by decide) ?_
        refine sb_icmp_eq (tgt := 37) hx hb rfl (by decide : (40 : Int32).toInt = 40) dX4_readProduct_22 (by decide) (fun c_22_23 => ?_) (fun c_22_23 => ?_)
        · refine lv_aload_n hx hb dX4_readProduct_37 rfl (lv_at hl 1 rfl) ?_
          refine ti_get (ci := 4) (k := 0) (N := 6) (T := TX4) (v := .ref (A 2 0)) C hw iw_4 rfl ob_1 (by decide) (by decide) fl_X4_12 rfl rfl dX4_readProduct_38 ?_
          refine ti_get (ci := 7) (k := 4) (N := 7) (T := TX7) C hw iw_7 rfl ob_2 (by decide) (by decide) fl_X4_41 rfl rfl dX4_readProduct_41 ?_
          refine ti_top (y := x_23) (ex_23.symm) ?_
          have u_27 : (tI M_11 2 4).toInt = (x_23 : Int32).toInt := by rw [(ex_23.symm)]
          refine lv_istore_n (lv' := [(3, .int x_23), (2, .int x_8), (0, .ref (A 1 0)), (1, .int 8)]) hx hb dX4_readProduct_44 rfl hl (by decide) rfl (fun ls hl => ?_)
          refine lv_aload_n hx hb dX4_readProduct_45 rfl (lv_at hl 2 rfl) ?_
          refine ti_callVvE (ci := 4) (av := []) C hE hw (x_X4_knot l D A cy hJ M_11 iM_11 t ht (f_16) B n g_18 hs_19) ⟨ml_X4_167, ym_X4_knot, yv_X4_knot, yi_X4_knot, yc_X4_knot⟩ yd_X4_knot ob_1 (by decide) rfl rfl hl.1 (Nat.le_of_ble_eq_true rfl) ⟨by decide, by decide⟩ ⟨Nat.zero_le _, Nat.zero_le _⟩ dX4_readProduct_46 (fun M_29 H locs hp_29 hw => ?_)
          obtain ⟨iM_29, q_30, q_31, q_32, q_33, p0r_28⟩ := hp_29
          obtain ⟨g_34, eg_34⟩ : ∃ z : Nat → Int, z = pp_kn B n g_18 := ⟨_, rfl⟩
          rw [← eg_34] at p0r_28
          have lg_34_0 : g_34 0 = (tI M_29 2 4).toInt := p0r_28.2.1.1
          have lg_34_1 : g_34 1 = (tI M_29 2 6).toInt := p0r_28.2.1.2.1
          have lg_34_4 : g_34 4 = (tI M_29 1 4).toInt := p0r_28.2.2.1.1
          have lg_34_7 : g_34 7 = (tI M_29 t 4).toInt := p0r_28.2.2.2.1.1
          have lg_34_8 : g_34 8 = (tI M_29 t 5).toInt := p0r_28.2.2.2.1.2.1
          refine lv_aload_n hx hb dX4_readProduct_49 rfl (lv_at hl 2 rfl) ?_
          refine lv_iload_n hx hb dX4_readProduct_50 rfl (lv_at hl 3 rfl) ?_
          refine ti_callVvE (ci := 4) (av := [.int 8]) C hE hw (x_X4_readPart_8 l D A cy hJ M_29 iM_29 t ht ((tT_fr q_30).trans f_16) lw hlw ((tT_fr q_30).trans f_17) B n g_34 p0r_28) ⟨ml_X4_187, ym_X4_readPart, yv_X4_readPart, yi_X4_readPart, yc_X4_readPart⟩ yd_X4_readPart ob_1 (by decide) rfl rfl hl.1 (Nat.le_of_ble_eq_true rfl) ⟨by decide, by decide⟩ ⟨Nat.zero_le _, Nat.zero_le _⟩ dX4_readProduct_51 (fun M_36 H locs hp_36 hw => ?_)
          obtain ⟨iM_36, q_37, q_38, q_39, q_40, p0r_35⟩ := hp_36
          obtain ⟨g_41, eg_41⟩ : ∃ z : Nat → Int, z = pp_pt B n 0 g_34 := ⟨_, rfl⟩
          rw [← eg_41] at p0r_35
          have lg_41_0 : g_41 0 = (tI M_36 2 4).toInt := p0r_35.2.1.1
          have lg_41_1 : g_41 1 = (tI M_36 2 6).toInt := p0r_35.2.1.2.1
          have lg_41_4 : g_41 4 = (tI M_36 1 4).toInt := p0r_35.2.2.1.1
          have lg_41_7 : g_41 7 = (tI M_36 t 4).toInt := p0r_35.2.2.2.1.1
          have lg_41_8 : g_41 8 = (tI M_36 t 5).toInt := p0r_35.2.2.2.1.2.1
          refine lv_aload_n hx hb dX4_readProduct_54 rfl (lv_at hl 2 rfl) ?_
          refine ti_get (ci := 4) (k := 2) (N := 6) (T := TX4) (v := .ref (A lw 0)) C hw iw_4 rfl ob_1 (by decide) (by decide) fl_X4_154 rfl (ti_Tv ((tT_fr q_37).trans ((tT_fr q_30).trans f_17))) dX4_readProduct_55 ?_
          refine lv_iload_n hx hb dX4_readProduct_58 rfl (lv_at hl 0 rfl) ?_
          refine lv_ineg hx hb dX4_readProduct_59 ?_
          refine lv_topi (fun x_42 ex_42 => ?_)
          have tx_42 : x_42.toInt = -x_23.toInt := i_neg ex_42 rfl (by omega)
          refine ti_callVv (ci := 1) (av := [.int x_42]) C hw (x_X1_add l D A cy hJ M_36 iM_36 lw hlw x_42 (by first | omega | exact Or.inl (by decide) | exact Or.inr (by decide)) t ht B n g_41 p0r_35) ⟨ml_X4_170, ym_X1_add, yv_X1_add, yi_X1_add, yc_X1_add⟩ yd_X1_add hlw (by decide) rfl rfl hl.1 (Nat.le_of_ble_eq_true rfl) ⟨by decide, by decide⟩ ⟨Nat.zero_le _, Nat.zero_le _⟩ dX4_readProduct_60 (fun M_44 H locs hp_44 hw => ?_)
          obtain ⟨iM_44, q_45, q_46, p0r_43⟩ := hp_44
          have lM_44_0 : g_41 0 = (tI M_44 2 4).toInt := p0r_43.2.1.1
          have lM_44_1 : g_41 1 = (tI M_44 2 6).toInt := p0r_43.2.1.2.1
          have lM_44_4 : g_41 4 = (tI M_44 1 4).toInt := p0r_43.2.2.1.1
          have lM_44_7 : g_41 7 = (tI M_44 t 4).toInt := p0r_43.2.2.2.1.1
          have lM_44_8 : g_41 8 = (tI M_44 t 5).toInt := p0r_43.2.2.2.1.2.1
          obtain ⟨x_47, ex_47⟩ : ∃ z : Int32, z = x_8 + 1 := ⟨_, rfl⟩
          have tx_47 : x_47.toInt = x_8.toInt + 1 := i_add ex_47 rfl (by decide) (by omega) (by omega)
          refine lv_iinc (v := x_47) (lv' := [(2, .int x_47), (3, .int x_23), (0, .ref (A 1 0)), (1, .int 8)]) hx hb dX4_readProduct_63 hl (k := 1) rfl (by rw [ex_47]; rfl) (by decide) rfl (fun ls hl => ?_)
          refine lv_goto (tgt := 7) hx hb dX4_readProduct_66 (by decide) ?_
          exact ih_21 x_47 M_44 g_41 _ _ _ (by omega) (by first | omega | decide) (by first | omega | decide) iM_44 ((q_45).trans ((q_37).trans ((q_30).trans f_12))) (f0.trans (f0_x q_46) (f0.trans q_38 (f0.trans q_31 f_13))) (((q_46 1).2.1).trans ((q_39).trans ((q_32).trans f_14))) (ot.trans (ot_fx ht q_46) (ot.trans q_40 (ot.trans q_33 f_15))) ((tT_fr q_45).trans ((tT_fr q_37).trans ((tT_fr q_30).trans f_16))) ((tT_fr q_45).trans ((tT_fr q_37).trans ((tT_fr q_30).trans f_17))) p0r_43 (j_20.trans (lp_step (decide_eq_true (by omega)) (by rw [eg_41, eg_34]) (by omega))) hw (lv_sub hl [0, 2, 3] rfl)
        · refine lv_aload_n hx hb dX4_readProduct_25 rfl (lv_at hl 1 rfl) ?_
          refine ti_get (ci := 4) (k := 0) (N := 6) (T := TX4) (v := .ref (A 2 0)) C hw iw_4 rfl ob_1 (by decide) (by decide) fl_X4_12 rfl rfl dX4_readProduct_26 ?_
          refine ti_get (ci := 7) (k := 4) (N := 7) (T := TX7) C hw iw_7 rfl ob_2 (by decide) (by decide) fl_X4_41 rfl rfl dX4_readProduct_29 ?_
          refine ti_top (y := x_23) (ex_23.symm) ?_
          have u_25 : (tI M_11 2 4).toInt = (x_23 : Int32).toInt := by rw [(ex_23.symm)]
          refine lv_bipush (v := 41) hx hb dX4_readProduct_32 (by decide) ?_
          refine sb_icmp_ne (tgt := 69) hx hb rfl (by decide : (41 : Int32).toInt = 41) dX4_readProduct_34 (by decide) (fun c_34_25 => ?_) (fun c_34_25 => ?_)
          · exact hQ _ _ _ _ _ hw (⟨iM_11, (f_12), f_13, (f_14), f_15, (by unfold pp_pd; rw [← eg_7, j_20, lp_end (P := pp_qT) (f := 64 - x_8.toInt.toNat) (s := g_18) (Or.inr (decide_eq_false (by omega)))]; exact hs_19)⟩) dX4_readProduct_69
          · refine lv_aload_n hx hb dX4_readProduct_37 rfl (lv_at hl 1 rfl) ?_
            refine ti_get (ci := 4) (k := 0) (N := 6) (T := TX4) (v := .ref (A 2 0)) C hw iw_4 rfl ob_1 (by decide) (by decide) fl_X4_12 rfl rfl dX4_readProduct_38 ?_
            refine ti_get (ci := 7) (k := 4) (N := 7) (T := TX7) C hw iw_7 rfl ob_2 (by decide) (by decide) fl_X4_41 rfl rfl dX4_readProduct_41 ?_
            refine ti_top (y := x_23) (ex_23.symm) ?_
            have u_48 : (tI M_11 2 4).toInt = (x_23 : Int32).toInt := by rw [(ex_23.symm)]
            refine lv_istore_n (lv' := [(3, .int x_23), (2, .int x_8), (0, .ref (A 1 0)), (1, .int 8)]) hx hb dX4_readProduct_44 rfl hl (by decide) rfl (fun ls hl => ?_)
            refine lv_aload_n hx hb dX4_readProduct_45 rfl (lv_at hl 2 rfl) ?_
            refine ti_callVvE (ci := 4) (av := []) C hE hw (x_X4_knot l D A cy hJ M_11 iM_11 t ht (f_16) B n g_18 hs_19) ⟨ml_X4_167, ym_X4_knot, yv_X4_knot, yi_X4_knot, yc_X4_knot⟩ yd_X4_knot ob_1 (by decide) rfl rfl hl.1 (Nat.le_of_ble_eq_true rfl) ⟨by decide, by decide⟩ ⟨Nat.zero_le _, Nat.zero_le _⟩ dX4_readProduct_46 (fun M_50 H locs hp_50 hw => ?_)
            obtain ⟨iM_50, q_51, q_52, q_53, q_54, p0r_49⟩ := hp_50
            obtain ⟨g_55, eg_55⟩ : ∃ z : Nat → Int, z = pp_kn B n g_18 := ⟨_, rfl⟩
            rw [← eg_55] at p0r_49
            have lg_55_0 : g_55 0 = (tI M_50 2 4).toInt := p0r_49.2.1.1
            have lg_55_1 : g_55 1 = (tI M_50 2 6).toInt := p0r_49.2.1.2.1
            have lg_55_4 : g_55 4 = (tI M_50 1 4).toInt := p0r_49.2.2.1.1
            have lg_55_7 : g_55 7 = (tI M_50 t 4).toInt := p0r_49.2.2.2.1.1
            have lg_55_8 : g_55 8 = (tI M_50 t 5).toInt := p0r_49.2.2.2.1.2.1
            refine lv_aload_n hx hb dX4_readProduct_49 rfl (lv_at hl 2 rfl) ?_
            refine lv_iload_n hx hb dX4_readProduct_50 rfl (lv_at hl 3 rfl) ?_
            refine ti_callVvE (ci := 4) (av := [.int 8]) C hE hw (x_X4_readPart_8 l D A cy hJ M_50 iM_50 t ht ((tT_fr q_51).trans f_16) lw hlw ((tT_fr q_51).trans f_17) B n g_55 p0r_49) ⟨ml_X4_187, ym_X4_readPart, yv_X4_readPart, yi_X4_readPart, yc_X4_readPart⟩ yd_X4_readPart ob_1 (by decide) rfl rfl hl.1 (Nat.le_of_ble_eq_true rfl) ⟨by decide, by decide⟩ ⟨Nat.zero_le _, Nat.zero_le _⟩ dX4_readProduct_51 (fun M_57 H locs hp_57 hw => ?_)
            obtain ⟨iM_57, q_58, q_59, q_60, q_61, p0r_56⟩ := hp_57
            obtain ⟨g_62, eg_62⟩ : ∃ z : Nat → Int, z = pp_pt B n 0 g_55 := ⟨_, rfl⟩
            rw [← eg_62] at p0r_56
            have lg_62_0 : g_62 0 = (tI M_57 2 4).toInt := p0r_56.2.1.1
            have lg_62_1 : g_62 1 = (tI M_57 2 6).toInt := p0r_56.2.1.2.1
            have lg_62_4 : g_62 4 = (tI M_57 1 4).toInt := p0r_56.2.2.1.1
            have lg_62_7 : g_62 7 = (tI M_57 t 4).toInt := p0r_56.2.2.2.1.1
            have lg_62_8 : g_62 8 = (tI M_57 t 5).toInt := p0r_56.2.2.2.1.2.1
            refine lv_aload_n hx hb dX4_readProduct_54 rfl (lv_at hl 2 rfl) ?_
            refine ti_get (ci := 4) (k := 2) (N := 6) (T := TX4) (v := .ref (A lw 0)) C hw iw_4 rfl ob_1 (by decide) (by decide) fl_X4_154 rfl (ti_Tv ((tT_fr q_58).trans ((tT_fr q_51).trans f_17))) dX4_readProduct_55 ?_
            refine lv_iload_n hx hb dX4_readProduct_58 rfl (lv_at hl 0 rfl) ?_
            refine lv_ineg hx hb dX4_readProduct_59 ?_
            refine lv_topi (fun x_63 ex_63 => ?_)
            have tx_63 : x_63.toInt = -x_23.toInt := i_neg ex_63 rfl (by omega)
            refine ti_callVv (ci := 1) (av := [.int x_63]) C hw (x_X1_add l D A cy hJ M_57 iM_57 lw hlw x_63 (by first | omega | exact Or.inl (by decide) | exact Or.inr (by decide)) t ht B n g_62 p0r_56) ⟨ml_X4_170, ym_X1_add, yv_X1_add, yi_X1_add, yc_X1_add⟩ yd_X1_add hlw (by decide) rfl rfl hl.1 (Nat.le_of_ble_eq_true rfl) ⟨by decide, by decide⟩ ⟨Nat.zero_le _, Nat.zero_le _⟩ dX4_readProduct_60 (fun M_65 H locs hp_65 hw => ?_)
            obtain ⟨iM_65, q_66, q_67, p0r_64⟩ := hp_65
            have lM_65_0 : g_62 0 = (tI M_65 2 4).toInt := p0r_64.2.1.1
            have lM_65_1 : g_62 1 = (tI M_65 2 6).toInt := p0r_64.2.1.2.1
            have lM_65_4 : g_62 4 = (tI M_65 1 4).toInt := p0r_64.2.2.1.1
            have lM_65_7 : g_62 7 = (tI M_65 t 4).toInt := p0r_64.2.2.2.1.1
            have lM_65_8 : g_62 8 = (tI M_65 t 5).toInt := p0r_64.2.2.2.1.2.1
            obtain ⟨x_68, ex_68⟩ : ∃ z : Int32, z = x_8 + 1 := ⟨_, rfl⟩
            have tx_68 : x_68.toInt = x_8.toInt + 1 := i_add ex_68 rfl (by decide) (by omega) (by omega)
            refine lv_iinc (v := x_68) (lv' := [(2, .int x_68), (3, .int x_23), (0, .ref (A 1 0)), (1, .int 8)]) hx hb dX4_readProduct_63 hl (k := 1) rfl (by rw [ex_68]; rfl) (by decide) rfl (fun ls hl => ?_)
            refine lv_goto (tgt := 7) hx hb dX4_readProduct_66 (by decide) ?_
            exact ih_21 x_68 M_65 g_62 _ _ _ (by omega) (by first | omega | decide) (by first | omega | decide) iM_65 ((q_66).trans ((q_58).trans ((q_51).trans f_12))) (f0.trans (f0_x q_67) (f0.trans q_59 (f0.trans q_52 f_13))) (((q_67 1).2.1).trans ((q_60).trans ((q_53).trans f_14))) (ot.trans (ot_fx ht q_67) (ot.trans q_61 (ot.trans q_54 f_15))) ((tT_fr q_66).trans ((tT_fr q_58).trans ((tT_fr q_51).trans f_16))) ((tT_fr q_66).trans ((tT_fr q_58).trans ((tT_fr q_51).trans f_17))) p0r_64 (j_20.trans (lp_step (decide_eq_true (by omega)) (by rw [eg_62, eg_55]) (by omega))) hw (lv_sub hl [0, 2, 3] rfl)
  exact hl_7_20 ((64 - 0 : Int).toNat + 1) 0 M_2 g_7 _ _ _ (Nat.lt_succ_self _) (by have lt0 : (0 : Int32).toInt = 0 := (by decide); first | omega | decide) (by have lt0 : (0 : Int32).toInt = 0 := (by decide); first | omega | decide) iM_2 (q_3) q_4 (q_5) q_6 ((tT_fr q_3).trans hT) ((tT_fr q_3).trans hL) p0r_1 rfl hw (lv_sub hl [0, 1, 2] rfl)
set_option maxHeartbeats 4000000 in
set_option maxRecDepth 100000 in
theorem x_X4_readSum_8 (l : Launch) (D : va_G) (A : Nat → Nat → Nat) (cy : Nat → ClassId) (hJ : ti_inj ti_LT A) (M : ti_M) (hI : cI Tc M) (t : Nat) (ht : t = 3 ∨ t = 4) (hT : tT M 1 1 = some t) (lw : Nat) (hlw : ti_ob ti_LT lw 1) (hL : tT M 1 2 = some lw) (B : Nat → Int) (n : Nat) (rg : Nat → Int) (hr : rC B n t rg M) : ti_KvE l yX4_readSum cX4_readSum 4 10 ti_LT D A cy M [.ref (A 1 0), .int 8] (fun M2 => cI Tc M2 ∧ M2.2.2.2 = M.2.2.2 ∧ f0 M2 M ∧ tI M2 2 1 = tI M 2 1 ∧ ot t M2 M ∧ rC B n t (pp_sm B n (pp_pt B n 0) rg) M2) := by
  refine ti_eVE yp_X4_readSum hJ ti_LT_nd (Nat.le_of_ble_eq_true rfl) ?_
  intro p e s m args below meth c Q H0 C hE hQ hw ls hl
  have hx := C.1
  have hb := C.2.1
  have hl : lv_has ls 4 [(0, .ref (A 1 0)), (1, .int 8)] := hl
  have l0 : rg 0 = (tI M 2 4).toInt := hr.2.1.1
  have l1 : rg 1 = (tI M 2 6).toInt := hr.2.1.2.1
  have l2 : rg 2 = (tI M 2 5).toInt := hr.2.1.2.2.1
  have l3 : rg 3 = (tI M 2 3).toInt := hr.2.1.2.2.2
  have l4 : rg 4 = (tI M 1 4).toInt := hr.2.2.1.1
  have l5 : rg 5 = (tI M 1 5).toInt := hr.2.2.1.2.1
  have l7 : rg 7 = (tI M t 4).toInt := hr.2.2.2.1.1
  have l8 : rg 8 = (tI M t 5).toInt := hr.2.2.2.1.2.1
  have l9 : rg 9 = (tI M t 3).toInt := hr.2.2.2.1.2.2
  refine lv_aload_n hx hb dX4_readSum_0 rfl (lv_at hl 0 rfl) ?_
  refine lv_iload_n hx hb dX4_readSum_1 rfl (lv_at hl 1 rfl) ?_
  refine ti_callVvE (ci := 4) (av := [.int 8]) C hE hw (x_X4_readProduct_8 l D A cy hJ M hI t ht (hT) lw hlw (hL) B n rg hr) ⟨ml_X4_184, ym_X4_readProduct, yv_X4_readProduct, yi_X4_readProduct, yc_X4_readProduct⟩ yd_X4_readProduct ob_1 (by decide) rfl rfl hl.1 (Nat.le_of_ble_eq_true rfl) ⟨by decide, by decide⟩ ⟨Nat.zero_le _, Nat.zero_le _⟩ dX4_readSum_2 (fun M_2 H locs hp_2 hw => ?_)
  obtain ⟨iM_2, q_3, q_4, q_5, q_6, p0r_1⟩ := hp_2
  obtain ⟨g_7, eg_7⟩ : ∃ z : Nat → Int, z = pp_pd B n (pp_pt B n 0) rg := ⟨_, rfl⟩
  rw [← eg_7] at p0r_1
  have lg_7_0 : g_7 0 = (tI M_2 2 4).toInt := p0r_1.2.1.1
  have lg_7_1 : g_7 1 = (tI M_2 2 6).toInt := p0r_1.2.1.2.1
  have lg_7_4 : g_7 4 = (tI M_2 1 4).toInt := p0r_1.2.2.1.1
  have lg_7_7 : g_7 7 = (tI M_2 t 4).toInt := p0r_1.2.2.2.1.1
  have lg_7_8 : g_7 8 = (tI M_2 t 5).toInt := p0r_1.2.2.2.1.2.1
  refine lv_iconst (v := 0) hx hb dX4_readSum_5 (by decide) ?_
  refine lv_istore_n (lv' := [(2, .int 0), (0, .ref (A 1 0)), (1, .int 8)]) hx hb dX4_readSum_6 rfl hl (by decide) rfl (fun ls hl => ?_)
  have hl_7_20 : ∀ (n_21 : Nat) (x_8 : Int32) (M_11 : ti_M) (g_18 : Nat → Int) (H : Heap) (locs : List Loc) (ls : Array Slot), (64 - x_8.toInt : Int).toNat < n_21 → (0 ≤ x_8.toInt) → (x_8.toInt ≤ 64) → (cI Tc M_11) → (M_11.2.2.2 = M.2.2.2) → (f0 M_11 M) → (tI M_11 2 1 = tI M 2 1) → (ot t M_11 M) → (tT M_11 1 1 = (some t)) → (tT M_11 1 2 = (some lw)) → (rC B n t g_18 M_11) → (pp_lp pp_qP (fun s => pp_pd B n (pp_pt B n 0) (pp_kn B n s)) 64 g_7 = pp_lp pp_qP (fun s => pp_pd B n (pp_pt B n 0) (pp_kn B n s)) (64 - (x_8.toInt).toNat) g_18) → ti_H ti_LT D A cy H0 M_11 H locs → lv_has ls 4 [(2, .int x_8), (0, .ref (A 1 0)), (1, .int 8)] → W p l e (ti_rm 10) s m args below meth c H locs 0 0 Q (F0 m 7 ls []) := by
    intro n_21
    induction n_21 with
    | zero => intro x_8 M_11 g_18 H locs ls hf_21; exact absurd hf_21 (Nat.not_lt_zero _)
    | succ n_21 ih_21 =>
      intro x_8 M_11 g_18 H locs ls hf_21 b_9 b_10 iM_11 f_12 f_13 f_14 f_15 f_16 f_17 hs_19 j_20 hw hl
      have lg_18_0 : g_18 0 = (tI M_11 2 4).toInt := hs_19.2.1.1
      have lg_18_1 : g_18 1 = (tI M_11 2 6).toInt := hs_19.2.1.2.1
      have lg_18_4 : g_18 4 = (tI M_11 1 4).toInt := hs_19.2.2.1.1
      have lg_18_7 : g_18 7 = (tI M_11 t 4).toInt := hs_19.2.2.2.1.1
      have lg_18_8 : g_18 8 = (tI M_11 t 5).toInt := hs_19.2.2.2.1.2.1
      refine lv_iload_n hx hb dX4_readSum_7 rfl (lv_at hl 0 rfl) ?_
      refine lv_bipush (v := 64) hx hb dX4_readSum_8 (by decide) ?_
      refine sb_icmp_ge (tgt := 69) hx hb rfl (by decide : (64 : Int32).toInt = 64) dX4_readSum_10 (by decide) (fun c_10_21 => ?_) (fun c_10_21 => ?_)
      · exact hQ _ _ _ _ _ hw (⟨iM_11, (f_12), f_13, (f_14), f_15, (by unfold pp_sm; rw [← eg_7, j_20, lp_end (P := pp_qP) (f := 64 - x_8.toInt.toNat) (s := g_18) (Or.inl (by omega))]; exact hs_19)⟩) dX4_readSum_69
      · refine lv_aload_n hx hb dX4_readSum_13 rfl (lv_at hl 1 rfl) ?_
        refine ti_get (ci := 4) (k := 0) (N := 6) (T := TX4) (v := .ref (A 2 0)) C hw iw_4 rfl ob_1 (by decide) (by decide) fl_X4_12 rfl rfl dX4_readSum_14 ?_
        refine ti_get (ci := 7) (k := 4) (N := 7) (T := TX7) C hw iw_7 rfl ob_2 (by decide) (by decide) fl_X4_41 rfl rfl dX4_readSum_17 ?_
        refine lv_topi (fun x_23 ex_23 => ?_)
        have bx_23 : 0 ≤ x_23.toInt ∧ x_23.toInt ≤ 41 := cI_rd iM_11 ob_2.1 ex_23
        have ux_23 : (tI M_11 2 4).toInt = x_23.toInt := by rw [ex_23]
        refine lv_bipush (v := 38) hx hb dX4_readSum_20 (by decide) ?_
        refine sb_icmp_eq (tgt := 37) hx hb rfl (by decide : (38 : Int32).toInt = 38) dX4_readSum_22 (by decide) (fun c_22_23 => ?_) (fun c_22_23 => ?_)
        · refine lv_aload_n hx hb dX4_readSum_37 rfl (lv_at hl 1 rfl) ?_
          refine ti_get (ci := 4) (k := 0) (N := 6) (T := TX4) (v := .ref (A 2 0)) C hw iw_4 rfl ob_1 (by decide) (by decide) fl_X4_12 rfl rfl dX4_readSum_38 ?_
          refine ti_get (ci := 7) (k := 4) (N := 7) (T := TX7) C hw iw_7 rfl ob_2 (by decide) (by decide) fl_X4_41 rfl rfl dX4_readSum_41 ?_
          refine ti_top (y := x_23) (ex_23.symm) ?_
          have u_27 : (tI M_11 2 4).toInt = (x_23 : Int32).toInt := by rw [(ex_23.symm)]
          refine lv_istore_n (lv' := [(3, .int x_23), (2, .int x_8), (0, .ref (A 1 0)), (1, .int 8)]) hx hb dX4_readSum_44 rfl hl (by decide) rfl (fun ls hl => ?_)
          refine lv_aload_n hx hb dX4_readSum_45 rfl (lv_at hl 2 rfl) ?_
          refine ti_callVvE (ci := 4) (av := []) C hE hw (x_X4_knot l D A cy hJ M_11 iM_11 t ht (f_16) B n g_18 hs_19) ⟨ml_X4_167, ym_X4_knot, yv_X4_knot, yi_X4_knot, yc_X4_knot⟩ yd_X4_knot ob_1 (by decide) rfl rfl hl.1 (Nat.le_of_ble_eq_true rfl) ⟨by decide, by decide⟩ ⟨Nat.zero_le _, Nat.zero_le _⟩ dX4_readSum_46 (fun M_29 H locs hp_29 hw => ?_)
          obtain ⟨iM_29, q_30, q_31, q_32, q_33, p0r_28⟩ := hp_29
          obtain ⟨g_34, eg_34⟩ : ∃ z : Nat → Int, z = pp_kn B n g_18 := ⟨_, rfl⟩
          rw [← eg_34] at p0r_28
          have lg_34_0 : g_34 0 = (tI M_29 2 4).toInt := p0r_28.2.1.1
          have lg_34_1 : g_34 1 = (tI M_29 2 6).toInt := p0r_28.2.1.2.1
          have lg_34_4 : g_34 4 = (tI M_29 1 4).toInt := p0r_28.2.2.1.1
          have lg_34_7 : g_34 7 = (tI M_29 t 4).toInt := p0r_28.2.2.2.1.1
          have lg_34_8 : g_34 8 = (tI M_29 t 5).toInt := p0r_28.2.2.2.1.2.1
          refine lv_aload_n hx hb dX4_readSum_49 rfl (lv_at hl 2 rfl) ?_
          refine lv_iload_n hx hb dX4_readSum_50 rfl (lv_at hl 3 rfl) ?_
          refine ti_callVvE (ci := 4) (av := [.int 8]) C hE hw (x_X4_readProduct_8 l D A cy hJ M_29 iM_29 t ht ((tT_fr q_30).trans f_16) lw hlw ((tT_fr q_30).trans f_17) B n g_34 p0r_28) ⟨ml_X4_184, ym_X4_readProduct, yv_X4_readProduct, yi_X4_readProduct, yc_X4_readProduct⟩ yd_X4_readProduct ob_1 (by decide) rfl rfl hl.1 (Nat.le_of_ble_eq_true rfl) ⟨by decide, by decide⟩ ⟨Nat.zero_le _, Nat.zero_le _⟩ dX4_readSum_51 (fun M_36 H locs hp_36 hw => ?_)
          obtain ⟨iM_36, q_37, q_38, q_39, q_40, p0r_35⟩ := hp_36
          obtain ⟨g_41, eg_41⟩ : ∃ z : Nat → Int, z = pp_pd B n (pp_pt B n 0) g_34 := ⟨_, rfl⟩
          rw [← eg_41] at p0r_35
          have lg_41_0 : g_41 0 = (tI M_36 2 4).toInt := p0r_35.2.1.1
          have lg_41_1 : g_41 1 = (tI M_36 2 6).toInt := p0r_35.2.1.2.1
          have lg_41_4 : g_41 4 = (tI M_36 1 4).toInt := p0r_35.2.2.1.1
          have lg_41_7 : g_41 7 = (tI M_36 t 4).toInt := p0r_35.2.2.2.1.1
          have lg_41_8 : g_41 8 = (tI M_36 t 5).toInt := p0r_35.2.2.2.1.2.1
          refine lv_aload_n hx hb dX4_readSum_54 rfl (lv_at hl 2 rfl) ?_
          refine ti_get (ci := 4) (k := 2) (N := 6) (T := TX4) (v := .ref (A lw 0)) C hw iw_4 rfl ob_1 (by decide) (by decide) fl_X4_154 rfl (ti_Tv ((tT_fr q_37).trans ((tT_fr q_30).trans f_17))) dX4_readSum_55 ?_
          refine lv_iload_n hx hb dX4_readSum_58 rfl (lv_at hl 0 rfl) ?_
          refine lv_ineg hx hb dX4_readSum_59 ?_
          refine lv_topi (fun x_42 ex_42 => ?_)
          have tx_42 : x_42.toInt = -x_23.toInt := i_neg ex_42 rfl (by omega)
          refine ti_callVv (ci := 1) (av := [.int x_42]) C hw (x_X1_add l D A cy hJ M_36 iM_36 lw hlw x_42 (by first | omega | exact Or.inl (by decide) | exact Or.inr (by decide)) t ht B n g_41 p0r_35) ⟨ml_X4_170, ym_X1_add, yv_X1_add, yi_X1_add, yc_X1_add⟩ yd_X1_add hlw (by decide) rfl rfl hl.1 (Nat.le_of_ble_eq_true rfl) ⟨by decide, by decide⟩ ⟨Nat.zero_le _, Nat.zero_le _⟩ dX4_readSum_60 (fun M_44 H locs hp_44 hw => ?_)
          obtain ⟨iM_44, q_45, q_46, p0r_43⟩ := hp_44
          have lM_44_0 : g_41 0 = (tI M_44 2 4).toInt := p0r_43.2.1.1
          have lM_44_1 : g_41 1 = (tI M_44 2 6).toInt := p0r_43.2.1.2.1
          have lM_44_4 : g_41 4 = (tI M_44 1 4).toInt := p0r_43.2.2.1.1
          have lM_44_7 : g_41 7 = (tI M_44 t 4).toInt := p0r_43.2.2.2.1.1
          have lM_44_8 : g_41 8 = (tI M_44 t 5).toInt := p0r_43.2.2.2.1.2.1
          obtain ⟨x_47, ex_47⟩ : ∃ z : Int32, z = x_8 + 1 := ⟨_, rfl⟩
          have tx_47 : x_47.toInt = x_8.toInt + 1 := i_add ex_47 rfl (by decide) (by omega) (by omega)
          refine lv_iinc (v := x_47) (lv' := [(2, .int x_47), (3, .int x_23), (0, .ref (A 1 0)), (1, .int 8)]) hx hb dX4_readSum_63 hl (k := 1) rfl (by rw [ex_47]; rfl) (by decide) rfl (fun ls hl => ?_)
          refine lv_goto (tgt := 7) hx hb dX4_readSum_66 (by decide) ?_
          exact ih_21 x_47 M_44 g_41 _ _ _ (by omega) (by first | omega | decide) (by first | omega | decide) iM_44 ((q_45).trans ((q_37).trans ((q_30).trans f_12))) (f0.trans (f0_x q_46) (f0.trans q_38 (f0.trans q_31 f_13))) (((q_46 1).2.1).trans ((q_39).trans ((q_32).trans f_14))) (ot.trans (ot_fx ht q_46) (ot.trans q_40 (ot.trans q_33 f_15))) ((tT_fr q_45).trans ((tT_fr q_37).trans ((tT_fr q_30).trans f_16))) ((tT_fr q_45).trans ((tT_fr q_37).trans ((tT_fr q_30).trans f_17))) p0r_43 (j_20.trans (lp_step (decide_eq_true (by omega)) (by rw [eg_41, eg_34]) (by omega))) hw (lv_sub hl [0, 2, 3] rfl)
        · refine lv_aload_n hx hb dX4_readSum_25 rfl (lv_at hl 1 rfl) ?_
          refine ti_get (ci := 4) (k := 0) (N := 6) (T := TX4) (v := .ref (A 2 0)) C hw iw_4 rfl ob_1 (by decide) (by decide) fl_X4_12 rfl rfl dX4_readSum_26 ?_
          refine ti_get (ci := 7) (k := 4) (N := 7) (T := TX7) C hw iw_7 rfl ob_2 (by decide) (by decide) fl_X4_41 rfl rfl dX4_readSum_29 ?_
          refine ti_top (y := x_23) (ex_23.symm) ?_
          have u_25 : (tI M_11 2 4).toInt = (x_23 : Int32).toInt := by rw [(ex_23.symm)]
          refine lv_bipush (v := 39) hx hb dX4_readSum_32 (by decide) ?_
          refine sb_icmp_ne (tgt := 69) hx hb rfl (by decide : (39 : Int32).toInt = 39) dX4_readSum_34 (by decide) (fun c_34_25 => ?_) (fun c_34_25 => ?_)
          · exact hQ _ _ _ _ _ hw (⟨iM_11, (f_12), f_13, (f_14), f_15, (by unfold pp_sm; rw [← eg_7, j_20, lp_end (P := pp_qP) (f := 64 - x_8.toInt.toNat) (s := g_18) (Or.inr (decide_eq_false (by omega)))]; exact hs_19)⟩) dX4_readSum_69
          · refine lv_aload_n hx hb dX4_readSum_37 rfl (lv_at hl 1 rfl) ?_
            refine ti_get (ci := 4) (k := 0) (N := 6) (T := TX4) (v := .ref (A 2 0)) C hw iw_4 rfl ob_1 (by decide) (by decide) fl_X4_12 rfl rfl dX4_readSum_38 ?_
            refine ti_get (ci := 7) (k := 4) (N := 7) (T := TX7) C hw iw_7 rfl ob_2 (by decide) (by decide) fl_X4_41 rfl rfl dX4_readSum_41 ?_
            refine ti_top (y := x_23) (ex_23.symm) ?_
            have u_48 : (tI M_11 2 4).toInt = (x_23 : Int32).toInt := by rw [(ex_23.symm)]
            refine lv_istore_n (lv' := [(3, .int x_23), (2, .int x_8), (0, .ref (A 1 0)), (1, .int 8)]) hx hb dX4_readSum_44 rfl hl (by decide) rfl (fun ls hl => ?_)
            refine lv_aload_n hx hb dX4_readSum_45 rfl (lv_at hl 2 rfl) ?_
            refine ti_callVvE (ci := 4) (av := []) C hE hw (x_X4_knot l D A cy hJ M_11 iM_11 t ht (f_16) B n g_18 hs_19) ⟨ml_X4_167, ym_X4_knot, yv_X4_knot, yi_X4_knot, yc_X4_knot⟩ yd_X4_knot ob_1 (by decide) rfl rfl hl.1 (Nat.le_of_ble_eq_true rfl) ⟨by decide, by decide⟩ ⟨Nat.zero_le _, Nat.zero_le _⟩ dX4_readSum_46 (fun M_50 H locs hp_50 hw => ?_)
            obtain ⟨iM_50, q_51, q_52, q_53, q_54, p0r_49⟩ := hp_50
            obtain ⟨g_55, eg_55⟩ : ∃ z : Nat → Int, z = pp_kn B n g_18 := ⟨_, rfl⟩
            rw [← eg_55] at p0r_49
            have lg_55_0 : g_55 0 = (tI M_50 2 4).toInt := p0r_49.2.1.1
            have lg_55_1 : g_55 1 = (tI M_50 2 6).toInt := p0r_49.2.1.2.1
            have lg_55_4 : g_55 4 = (tI M_50 1 4).toInt := p0r_49.2.2.1.1
            have lg_55_7 : g_55 7 = (tI M_50 t 4).toInt := p0r_49.2.2.2.1.1
            have lg_55_8 : g_55 8 = (tI M_50 t 5).toInt := p0r_49.2.2.2.1.2.1
            refine lv_aload_n hx hb dX4_readSum_49 rfl (lv_at hl 2 rfl) ?_
            refine lv_iload_n hx hb dX4_readSum_50 rfl (lv_at hl 3 rfl) ?_
            refine ti_callVvE (ci := 4) (av := [.int 8]) C hE hw (x_X4_readProduct_8 l D A cy hJ M_50 iM_50 t ht ((tT_fr q_51).trans f_16) lw hlw ((tT_fr q_51).trans f_17) B n g_55 p0r_49) ⟨ml_X4_184, ym_X4_readProduct, yv_X4_readProduct, yi_X4_readProduct, yc_X4_readProduct⟩ yd_X4_readProduct ob_1 (by decide) rfl rfl hl.1 (Nat.le_of_ble_eq_true rfl) ⟨by decide, by decide⟩ ⟨Nat.zero_le _, Nat.zero_le _⟩ dX4_readSum_51 (fun M_57 H locs hp_57 hw => ?_)
            obtain ⟨iM_57, q_58, q_59, q_60, q_61, p0r_56⟩ := hp_57
            obtain ⟨g_62, eg_62⟩ : ∃ z : Nat → Int, z = pp_pd B n (pp_pt B n 0) g_55 := ⟨_, rfl⟩
            rw [← eg_62] at p0r_56
            have lg_62_0 : g_62 0 = (tI M_57 2 4).toInt := p0r_56.2.1.1
            have lg_62_1 : g_62 1 = (tI M_57 2 6).toInt := p0r_56.2.1.2.1
            have lg_62_4 : g_62 4 = (tI M_57 1 4).toInt := p0r_56.2.2.1.1
            have lg_62_7 : g_62 7 = (tI M_57 t 4).toInt := p0r_56.2.2.2.1.1
            have lg_62_8 : g_62 8 = (tI M_57 t 5).toInt := p0r_56.2.2.2.1.2.1
            refine lv_aload_n hx hb dX4_readSum_54 rfl (lv_at hl 2 rfl) ?_
            refine ti_get (ci := 4) (k := 2) (N := 6) (T := TX4) (v := .ref (A lw 0)) C hw iw_4 rfl ob_1 (by decide) (by decide) fl_X4_154 rfl (ti_Tv ((tT_fr q_58).trans ((tT_fr q_51).trans f_17))) dX4_readSum_55 ?_
            refine lv_iload_n hx hb dX4_readSum_58 rfl (lv_at hl 0 rfl) ?_
            refine lv_ineg hx hb dX4_readSum_59 ?_
            refine lv_topi (fun x_63 ex_63 => ?_)
            have tx_63 : x_63.toInt = -x_23.toInt := i_neg ex_63 rfl (by omega)
            refine ti_callVv (ci := 1) (av := [.int x_63]) C hw (x_X1_add l D A cy hJ M_57 iM_57 lw hlw x_63 (by first | omega | exact Or.inl (by decide) | exact Or.inr (by decide)) t ht B n g_62 p0r_56) ⟨ml_X4_170, ym_X1_add, yv_X1_add, yi_X1_add, yc_X1_add⟩ yd_X1_add hlw (by decide) rfl rfl hl.1 (Nat.le_of_ble_eq_true rfl) ⟨by decide, by decide⟩ ⟨Nat.zero_le _, Nat.zero_le _⟩ dX4_readSum_60 (fun M_65 H locs hp_65 hw => ?_)
            obtain ⟨iM_65, q_66, q_67, p0r_64⟩ := hp_65
            have lM_65_0 : g_62 0 = (tI M_65 2 4).toInt := p0r_64.2.1.1
            have lM_65_1 : g_62 1 = (tI M_65 2 6).toInt := p0r_64.2.1.2.1
            have lM_65_4 : g_62 4 = (tI M_65 1 4).toInt := p0r_64.2.2.1.1
            have lM_65_7 : g_62 7 = (tI M_65 t 4).toInt := p0r_64.2.2.2.1.1
            have lM_65_8 : g_62 8 = (tI M_65 t 5).toInt := p0r_64.2.2.2.1.2.1
            obtain ⟨x_68, ex_68⟩ : ∃ z : Int32, z = x_8 + 1 := ⟨_, rfl⟩
            have tx_68 : x_68.toInt = x_8.toInt + 1 := i_add ex_68 rfl (by decide) (by omega) (by omega)
            refine lv_iinc (v := x_68) (lv' := [(2, .int x_68), (3, .int x_23), (0, .ref (A 1 0)), (1, .int 8)]) hx hb dX4_readSum_63 hl (k := 1) rfl (by rw [ex_68]; rfl) (by decide) rfl (fun ls hl => ?_)
            refine lv_goto (tgt := 7) hx hb dX4_readSum_66 (by decide) ?_
            exact ih_21 x_68 M_65 g_62 _ _ _ (by omega) (by first | omega | decide) (by first | omega | decide) iM_65 ((q_66).trans ((q_58).trans ((q_51).trans f_12))) (f0.trans (f0_x q_67) (f0.trans q_59 (f0.trans q_52 f_13))) (((q_67 1).2.1).trans ((q_60).trans ((q_53).trans f_14))) (ot.trans (ot_fx ht q_67) (ot.trans q_61 (ot.trans q_54 f_15))) ((tT_fr q_66).trans ((tT_fr q_58).trans ((tT_fr q_51).trans f_16))) ((tT_fr q_66).trans ((tT_fr q_58).trans ((tT_fr q_51).trans f_17))) p0r_64 (j_20.trans (lp_step (decide_eq_true (by omega)) (by rw [eg_62, eg_55]) (by omega))) hw (lv_sub hl [0, 2, 3] rfl)
  exact hl_7_20 ((64 - 0 : Int).toNat + 1) 0 M_2 g_7 _ _ _ (Nat.lt_succ_self _) (by have lt0 : (0 : Int32).toInt = 0 := (by decide); first | omega | decide) (by have lt0 : (0 : Int32).toInt = 0 := (by decide); first | omega | decide) iM_2 (q_3) q_4 (q_5) q_6 ((tT_fr q_3).trans hT) ((tT_fr q_3).trans hL) p0r_1 rfl hw (lv_sub hl [0, 1, 2] rfl)
set_option maxHeartbeats 4000000 in
set_option maxRecDepth 100000 in
theorem x_X4_readComparison_8 (l : Launch) (D : va_G) (A : Nat → Nat → Nat) (cy : Nat → ClassId) (hJ : ti_inj ti_LT A) (M : ti_M) (hI : cI Tc M) (t : Nat) (ht : t = 3 ∨ t = 4) (hT : tT M 1 1 = some t) (lw : Nat) (hlw : ti_ob ti_LT lw 1) (hL : tT M 1 2 = some lw) (B : Nat → Int) (n : Nat) (rg : Nat → Int) (hr : rC B n t rg M) : ti_KvE l yX4_readComparison cX4_readComparison 3 11 ti_LT D A cy M [.ref (A 1 0), .int 8] (fun M2 => cI Tc M2 ∧ M2.2.2.2 = M.2.2.2 ∧ f0 M2 M ∧ tI M2 2 1 = tI M 2 1 ∧ ot t M2 M ∧ rC B n t (pp_cm B n (pp_pt B n 0) rg) M2) := by
  refine ti_eVE yp_X4_readComparison hJ ti_LT_nd (Nat.le_of_ble_eq_true rfl) ?_
  intro p e s m args below meth c Q H0 C hE hQ hw ls hl
  have hx := C.1
  have hb := C.2.1
  have hl : lv_has ls 3 [(0, .ref (A 1 0)), (1, .int 8)] := hl
  have l0 : rg 0 = (tI M 2 4).toInt := hr.2.1.1
  have l1 : rg 1 = (tI M 2 6).toInt := hr.2.1.2.1
  have l2 : rg 2 = (tI M 2 5).toInt := hr.2.1.2.2.1
  have l3 : rg 3 = (tI M 2 3).toInt := hr.2.1.2.2.2
  have l4 : rg 4 = (tI M 1 4).toInt := hr.2.2.1.1
  have l5 : rg 5 = (tI M 1 5).toInt := hr.2.2.1.2.1
  have l7 : rg 7 = (tI M t 4).toInt := hr.2.2.2.1.1
  have l8 : rg 8 = (tI M t 5).toInt := hr.2.2.2.1.2.1
  have l9 : rg 9 = (tI M t 3).toInt := hr.2.2.2.1.2.2
  refine lv_aload_n hx hb dX4_readComparison_0 rfl (lv_at hl 0 rfl) ?_
  refine lv_iload_n hx hb dX4_readComparison_1 rfl (lv_at hl 1 rfl) ?_
  refine ti_callVvE (ci := 4) (av := [.int 8]) C hE hw (x_X4_readSum_8 l D A cy hJ M hI t ht (hT) lw hlw (hL) B n rg hr) ⟨ml_X4_181, ym_X4_readSum, yv_X4_readSum, yi_X4_readSum, yc_X4_readSum⟩ yd_X4_readSum ob_1 (by decide) rfl rfl hl.1 (Nat.le_of_ble_eq_true rfl) ⟨by decide, by decide⟩ ⟨Nat.zero_le _, Nat.zero_le _⟩ dX4_readComparison_2 (fun M_2 H locs hp_2 hw => ?_)
  obtain ⟨iM_2, q_3, q_4, q_5, q_6, p0r_1⟩ := hp_2
  obtain ⟨g_7, eg_7⟩ : ∃ z : Nat → Int, z = pp_sm B n (pp_pt B n 0) rg := ⟨_, rfl⟩
  rw [← eg_7] at p0r_1
  have lg_7_0 : g_7 0 = (tI M_2 2 4).toInt := p0r_1.2.1.1
  have lg_7_1 : g_7 1 = (tI M_2 2 6).toInt := p0r_1.2.1.2.1
  have lg_7_4 : g_7 4 = (tI M_2 1 4).toInt := p0r_1.2.2.1.1
  have lg_7_7 : g_7 7 = (tI M_2 t 4).toInt := p0r_1.2.2.2.1.1
  have lg_7_8 : g_7 8 = (tI M_2 t 5).toInt := p0r_1.2.2.2.1.2.1
  refine lv_aload_n hx hb dX4_readComparison_5 rfl (lv_at hl 0 rfl) ?_
  refine ti_get (ci := 4) (k := 0) (N := 6) (T := TX4) (v := .ref (A 2 0)) C hw iw_4 rfl ob_1 (by decide) (by decide) fl_X4_12 rfl rfl dX4_readComparison_6 ?_
  refine ti_get (ci := 7) (k := 4) (N := 7) (T := TX7) C hw iw_7 rfl ob_2 (by decide) (by decide) fl_X4_41 rfl rfl dX4_readComparison_9 ?_
  refine lv_topi (fun x_8 ex_8 => ?_)
  have bx_8 : 0 ≤ x_8.toInt ∧ x_8.toInt ≤ 41 := cI_rd iM_2 ob_2.1 ex_8
  have ux_8 : (tI M_2 2 4).toInt = x_8.toInt := by rw [ex_8]
  refine lv_istore_n (lv' := [(2, .int x_8), (0, .ref (A 1 0)), (1, .int 8)]) hx hb dX4_readComparison_12 rfl hl (by decide) rfl (fun ls hl => ?_)
  refine lv_iload_n hx hb dX4_readComparison_13 rfl (lv_at hl 0 rfl) ?_
  refine lv_bipush (v := 32) hx hb dX4_readComparison_14 (by decide) ?_
  refine sb_icmp_lt (tgt := 43) hx hb rfl (by decide : (32 : Int32).toInt = 32) dX4_readComparison_16 (by decide) (fun c_16_8 => ?_) (fun c_16_8 => ?_)
  · exact hQ _ _ _ _ _ hw (⟨iM_2, (q_3), q_4, (q_5), q_6, (by unfold pp_cm; rw [← eg_7]; unfold pp_c2; rw [if_neg (fun q => by omega)]; exact p0r_1)⟩) dX4_readComparison_43
  · refine lv_iload_n hx hb dX4_readComparison_19 rfl (lv_at hl 0 rfl) ?_
    refine lv_bipush (v := 37) hx hb dX4_readComparison_20 (by decide) ?_
    refine sb_icmp_gt (tgt := 43) hx hb rfl (by decide : (37 : Int32).toInt = 37) dX4_readComparison_22 (by decide) (fun c_22_9 => ?_) (fun c_22_9 => ?_)
    · exact hQ _ _ _ _ _ hw (⟨iM_2, (q_3), q_4, (q_5), q_6, (by unfold pp_cm; rw [← eg_7]; unfold pp_c2; rw [if_neg (fun q => by omega)]; exact p0r_1)⟩) dX4_readComparison_43
    · refine lv_aload_n hx hb dX4_readComparison_25 rfl (lv_at hl 1 rfl) ?_
      refine ti_callVvE (ci := 4) (av := []) C hE hw (x_X4_knot l D A cy hJ M_2 iM_2 t ht ((tT_fr q_3).trans hT) B n g_7 p0r_1) ⟨ml_X4_167, ym_X4_knot, yv_X4_knot, yi_X4_knot, yc_X4_knot⟩ yd_X4_knot ob_1 (by decide) rfl rfl hl.1 (Nat.le_of_ble_eq_true rfl) ⟨by decide, by decide⟩ ⟨Nat.zero_le _, Nat.zero_le _⟩ dX4_readComparison_26 (fun M_12 H locs hp_12 hw => ?_)
      obtain ⟨iM_12, q_13, q_14, q_15, q_16, p0r_11⟩ := hp_12
      obtain ⟨g_17, eg_17⟩ : ∃ z : Nat → Int, z = pp_kn B n g_7 := ⟨_, rfl⟩
      rw [← eg_17] at p0r_11
      have lg_17_0 : g_17 0 = (tI M_12 2 4).toInt := p0r_11.2.1.1
      have lg_17_1 : g_17 1 = (tI M_12 2 6).toInt := p0r_11.2.1.2.1
      have lg_17_4 : g_17 4 = (tI M_12 1 4).toInt := p0r_11.2.2.1.1
      have lg_17_7 : g_17 7 = (tI M_12 t 4).toInt := p0r_11.2.2.2.1.1
      have lg_17_8 : g_17 8 = (tI M_12 t 5).toInt := p0r_11.2.2.2.1.2.1
      refine lv_aload_n hx hb dX4_readComparison_29 rfl (lv_at hl 1 rfl) ?_
      refine lv_iload_n hx hb dX4_readComparison_30 rfl (lv_at hl 2 rfl) ?_
      refine ti_callVvE (ci := 4) (av := [.int 8]) C hE hw (x_X4_readSum_8 l D A cy hJ M_12 iM_12 t ht ((tT_fr q_13).trans ((tT_fr q_3).trans hT)) lw hlw ((tT_fr q_13).trans ((tT_fr q_3).trans hL)) B n g_17 p0r_11) ⟨ml_X4_181, ym_X4_readSum, yv_X4_readSum, yi_X4_readSum, yc_X4_readSum⟩ yd_X4_readSum ob_1 (by decide) rfl rfl hl.1 (Nat.le_of_ble_eq_true rfl) ⟨by decide, by decide⟩ ⟨Nat.zero_le _, Nat.zero_le _⟩ dX4_readComparison_31 (fun M_19 H locs hp_19 hw => ?_)
      obtain ⟨iM_19, q_20, q_21, q_22, q_23, p0r_18⟩ := hp_19
      obtain ⟨g_24, eg_24⟩ : ∃ z : Nat → Int, z = pp_sm B n (pp_pt B n 0) g_17 := ⟨_, rfl⟩
      rw [← eg_24] at p0r_18
      have lg_24_0 : g_24 0 = (tI M_19 2 4).toInt := p0r_18.2.1.1
      have lg_24_1 : g_24 1 = (tI M_19 2 6).toInt := p0r_18.2.1.2.1
      have lg_24_4 : g_24 4 = (tI M_19 1 4).toInt := p0r_18.2.2.1.1
      have lg_24_7 : g_24 7 = (tI M_19 t 4).toInt := p0r_18.2.2.2.1.1
      have lg_24_8 : g_24 8 = (tI M_19 t 5).toInt := p0r_18.2.2.2.1.2.1
      refine lv_aload_n hx hb dX4_readComparison_34 rfl (lv_at hl 1 rfl) ?_
      refine ti_get (ci := 4) (k := 2) (N := 6) (T := TX4) (v := .ref (A lw 0)) C hw iw_4 rfl ob_1 (by decide) (by decide) fl_X4_154 rfl (ti_Tv ((tT_fr q_20).trans ((tT_fr q_13).trans ((tT_fr q_3).trans hL)))) dX4_readComparison_35 ?_
      refine lv_iload_n hx hb dX4_readComparison_38 rfl (lv_at hl 0 rfl) ?_
      refine lv_ineg hx hb dX4_readComparison_39 ?_
      refine lv_topi (fun x_25 ex_25 => ?_)
      have tx_25 : x_25.toInt = -x_8.toInt := i_neg ex_25 rfl (by omega)
      refine ti_callVv (ci := 1) (av := [.int x_25]) C hw (x_X1_add l D A cy hJ M_19 iM_19 lw hlw x_25 (by first | omega | exact Or.inl (by decide) | exact Or.inr (by decide)) t ht B n g_24 p0r_18) ⟨ml_X4_170, ym_X1_add, yv_X1_add, yi_X1_add, yc_X1_add⟩ yd_X1_add hlw (by decide) rfl rfl hl.1 (Nat.le_of_ble_eq_true rfl) ⟨by decide, by decide⟩ ⟨Nat.zero_le _, Nat.zero_le _⟩ dX4_readComparison_40 (fun M_27 H locs hp_27 hw => ?_)
      obtain ⟨iM_27, q_28, q_29, p0r_26⟩ := hp_27
      have lM_27_0 : g_24 0 = (tI M_27 2 4).toInt := p0r_26.2.1.1
      have lM_27_1 : g_24 1 = (tI M_27 2 6).toInt := p0r_26.2.1.2.1
      have lM_27_4 : g_24 4 = (tI M_27 1 4).toInt := p0r_26.2.2.1.1
      have lM_27_7 : g_24 7 = (tI M_27 t 4).toInt := p0r_26.2.2.2.1.1
      have lM_27_8 : g_24 8 = (tI M_27 t 5).toInt := p0r_26.2.2.2.1.2.1
      exact hQ _ _ _ _ _ hw (⟨iM_27, ((q_28).trans ((q_20).trans ((q_13).trans q_3))), (f0.trans (f0_x q_29) (f0.trans q_21 (f0.trans q_14 q_4))), (((q_29 1).2.1).trans ((q_22).trans ((q_15).trans q_5))), (ot.trans (ot_fx ht q_29) (ot.trans q_23 (ot.trans q_16 q_6))), (by unfold pp_cm; rw [← eg_7]; unfold pp_c2; rw [if_pos ⟨by omega, by omega⟩, ← eg_17, ← eg_24]; exact p0r_26)⟩) dX4_readComparison_43
set_option maxHeartbeats 4000000 in
set_option maxRecDepth 100000 in
theorem x_X4_readNegated_8 (l : Launch) (D : va_G) (A : Nat → Nat → Nat) (cy : Nat → ClassId) (hJ : ti_inj ti_LT A) (M : ti_M) (hI : cI Tc M) (t : Nat) (ht : t = 3 ∨ t = 4) (hT : tT M 1 1 = some t) (lw : Nat) (hlw : ti_ob ti_LT lw 1) (hL : tT M 1 2 = some lw) (B : Nat → Int) (n : Nat) (rg : Nat → Int) (hr : rC B n t rg M) : ti_KvE l yX4_readNegated cX4_readNegated 4 12 ti_LT D A cy M [.ref (A 1 0), .int 8] (fun M2 => cI Tc M2 ∧ M2.2.2.2 = M.2.2.2 ∧ f0 M2 M ∧ tI M2 2 1 = tI M 2 1 ∧ ot t M2 M ∧ rC B n t (pp_ng B n (pp_pt B n 0) rg) M2) := by
  refine ti_eVE yp_X4_readNegated hJ ti_LT_nd (Nat.le_of_ble_eq_true rfl) ?_
  intro p e s m args below meth c Q H0 C hE hQ hw ls hl
  have hx := C.1
  have hb := C.2.1
  have hl : lv_has ls 4 [(0, .ref (A 1 0)), (1, .int 8)] := hl
  have l0 : rg 0 = (tI M 2 4).toInt := hr.2.1.1
  have l1 : rg 1 = (tI M 2 6).toInt := hr.2.1.2.1
  have l2 : rg 2 = (tI M 2 5).toInt := hr.2.1.2.2.1
  have l3 : rg 3 = (tI M 2 3).toInt := hr.2.1.2.2.2
  have l4 : rg 4 = (tI M 1 4).toInt := hr.2.2.1.1
  have l5 : rg 5 = (tI M 1 5).toInt := hr.2.2.1.2.1
  have l7 : rg 7 = (tI M t 4).toInt := hr.2.2.2.1.1
  have l8 : rg 8 = (tI M t 5).toInt := hr.2.2.2.1.2.1
  have l9 : rg 9 = (tI M t 3).toInt := hr.2.2.2.1.2.2
  refine lv_iconst (v := 0) hx hb dX4_readNegated_0 (by decide) ?_
  refine lv_istore_n (lv' := [(2, .int 0), (0, .ref (A 1 0)), (1, .int 8)]) hx hb dX4_readNegated_1 rfl hl (by decide) rfl (fun ls hl => ?_)
  have hl_2_13 : ∀ (n_14 : Nat) (x_1 : Int32) (M_4 : ti_M) (g_11 : Nat → Int) (H : Heap) (locs : List Loc) (ls : Array Slot), (65 - x_1.toInt : Int).toNat < n_14 → (0 ≤ x_1.toInt) → (x_1.toInt ≤ 65) → (cI Tc M_4) → (M_4.2.2.2 = M.2.2.2) → (f0 M_4 M) → (tI M_4 2 1 = tI M 2 1) → (ot t M_4 M) → (tT M_4 1 1 = (some t)) → (tT M_4 1 2 = (some lw)) → (rC B n t g_11 M_4) → (pp_lp pp_qN (pp_kn B n) 65 rg = pp_lp pp_qN (pp_kn B n) (65 - (x_1.toInt).toNat) g_11) → ti_H ti_LT D A cy H0 M_4 H locs → lv_has ls 4 [(2, .int x_1), (0, .ref (A 1 0)), (1, .int 8)] → W p l e (ti_rm 12) s m args below meth c H locs 0 0 Q (F0 m 2 ls []) := by
    intro n_14
    induction n_14 with
    | zero => intro x_1 M_4 g_11 H locs ls hf_14; exact absurd hf_14 (Nat.not_lt_zero _)
    | succ n_14 ih_14 =>
      intro x_1 M_4 g_11 H locs ls hf_14 b_2 b_3 iM_4 f_5 f_6 f_7 f_8 f_9 f_10 hs_12 j_13 hw hl
      have lg_11_0 : g_11 0 = (tI M_4 2 4).toInt := hs_12.2.1.1
      have lg_11_1 : g_11 1 = (tI M_4 2 6).toInt := hs_12.2.1.2.1
      have lg_11_4 : g_11 4 = (tI M_4 1 4).toInt := hs_12.2.2.1.1
      have lg_11_7 : g_11 7 = (tI M_4 t 4).toInt := hs_12.2.2.2.1.1
      have lg_11_8 : g_11 8 = (tI M_4 t 5).toInt := hs_12.2.2.2.1.2.1
      refine lv_iload_n hx hb dX4_readNegated_2 rfl (lv_at hl 0 rfl) ?_
      refine lv_bipush (v := 64) hx hb dX4_readNegated_3 (by decide) ?_
      have hj_30_26 : ∀  (H : Heap) (locs : List Loc) (ls : Array Slot), (pp_lp pp_qN (pp_kn B n) 65 rg = g_11) → ti_H ti_LT D A cy H0 M_4 H locs → lv_has ls 4 [(2, .int x_1), (0, .ref (A 1 0)), (1, .int 8)] → W p l e (ti_rm 12) s m args below meth c H locs 0 0 Q (F0 m 30 ls []) := by
        intro  H locs ls j_26 hw hl
        have lg_11_0 : g_11 0 = (tI M_4 2 4).toInt := hs_12.2.1.1
        have lg_11_1 : g_11 1 = (tI M_4 2 6).toInt := hs_12.2.1.2.1
        have lg_11_4 : g_11 4 = (tI M_4 1 4).toInt := hs_12.2.2.1.1
        have lg_11_7 : g_11 7 = (tI M_4 t 4).toInt := hs_12.2.2.2.1.1
        have lg_11_8 : g_11 8 = (tI M_4 t 5).toInt := hs_12.2.2.2.1.2.1
        refine lv_aload_n hx hb dX4_readNegated_30 rfl (lv_at hl 1 rfl) ?_
        refine lv_iload_n hx hb dX4_readNegated_31 rfl (lv_at hl 2 rfl) ?_
        refine ti_callVvE (ci := 4) (av := [.int 8]) C hE hw (x_X4_readComparison_8 l D A cy hJ M_4 iM_4 t ht (f_9) lw hlw (f_10) B n g_11 hs_12) ⟨ml_X4_178, ym_X4_readComparison, yv_X4_readComparison, yi_X4_readComparison, yc_X4_readComparison⟩ yd_X4_readComparison ob_1 (by decide) rfl rfl hl.1 (Nat.le_of_ble_eq_true rfl) ⟨by decide, by decide⟩ ⟨Nat.zero_le _, Nat.zero_le _⟩ dX4_readNegated_32 (fun M_28 H locs hp_28 hw => ?_)
        obtain ⟨iM_28, q_29, q_30, q_31, q_32, p0r_27⟩ := hp_28
        obtain ⟨g_33, eg_33⟩ : ∃ z : Nat → Int, z = pp_cm B n (pp_pt B n 0) g_11 := ⟨_, rfl⟩
        rw [← eg_33] at p0r_27
        have lg_33_0 : g_33 0 = (tI M_28 2 4).toInt := p0r_27.2.1.1
        have lg_33_1 : g_33 1 = (tI M_28 2 6).toInt := p0r_27.2.1.2.1
        have lg_33_4 : g_33 4 = (tI M_28 1 4).toInt := p0r_27.2.2.1.1
        have lg_33_7 : g_33 7 = (tI M_28 t 4).toInt := p0r_27.2.2.2.1.1
        have lg_33_8 : g_33 8 = (tI M_28 t 5).toInt := p0r_27.2.2.2.1.2.1
        have EM : pp_ng B n (pp_pt B n 0) rg = g_33 := by unfold pp_ng; rw [j_26, ← eg_33]
        refine lv_iconst (v := 0) hx hb dX4_readNegated_35 (by decide) ?_
        refine lv_istore_n (lv' := [(3, .int 0), (2, .int x_1), (0, .ref (A 1 0)), (1, .int 8)]) hx hb dX4_readNegated_36 rfl hl (by decide) rfl (fun ls hl => ?_)
        have hl_37_46 : ∀ (n_47 : Nat) (x_34 : Int32) (M_37 : ti_M) (g_44 : Nat → Int) (H : Heap) (locs : List Loc) (ls : Array Slot), (65 - x_34.toInt : Int).toNat < n_47 → (0 ≤ x_34.toInt) → (x_34.toInt ≤ 65) → (cI Tc M_37) → (M_37.2.2.2 = M.2.2.2) → (f0 M_37 M) → (tI M_37 2 1 = tI M 2 1) → (ot t M_37 M) → (tT M_37 1 1 = (some t)) → (tT M_37 1 2 = (some lw)) → (rC B n t g_44 M_37) → (g_33 = g_44) → ti_H ti_LT D A cy H0 M_37 H locs → lv_has ls 4 [(3, .int x_34), (2, .int x_1), (0, .ref (A 1 0)), (1, .int 8)] → W p l e (ti_rm 12) s m args below meth c H locs 0 0 Q (F0 m 37 ls []) := by
          intro n_47
          induction n_47 with
          | zero => intro x_34 M_37 g_44 H locs ls hf_47; exact absurd hf_47 (Nat.not_lt_zero _)
          | succ n_47 ih_47 =>
            intro x_34 M_37 g_44 H locs ls hf_47 b_35 b_36 iM_37 f_38 f_39 f_40 f_41 f_42 f_43 hs_45 j_46 hw hl
            have lg_44_0 : g_44 0 = (tI M_37 2 4).toInt := hs_45.2.1.1
            have lg_44_1 : g_44 1 = (tI M_37 2 6).toInt := hs_45.2.1.2.1
            have lg_44_4 : g_44 4 = (tI M_37 1 4).toInt := hs_45.2.2.1.1
            have lg_44_7 : g_44 7 = (tI M_37 t 4).toInt := hs_45.2.2.2.1.1
            have lg_44_8 : g_44 8 = (tI M_37 t 5).toInt := hs_45.2.2.2.1.2.1
            refine lv_iload_n hx hb dX4_readNegated_37 rfl (lv_at hl 0 rfl) ?_
            refine lv_iload_n hx hb dX4_readNegated_38 rfl (lv_at hl 1 rfl) ?_
            refine sb_icmp_ge (tgt := 57) hx hb rfl rfl dX4_readNegated_39 (by decide) (fun c_39_47 => ?_) (fun c_39_47 => ?_)
            · exact hQ _ _ _ _ _ hw (⟨iM_37, (f_38), f_39, (f_40), f_41, (by rw [EM, j_46]; exact hs_45)⟩) dX4_readNegated_57
            · refine lv_aload_n hx hb dX4_readNegated_42 rfl (lv_at hl 2 rfl) ?_
              refine ti_get (ci := 4) (k := 2) (N := 6) (T := TX4) (v := .ref (A lw 0)) C hw iw_4 rfl ob_1 (by decide) (by decide) fl_X4_154 rfl (ti_Tv (f_43)) dX4_readNegated_43 ?_
              refine lv_bipush (v := (-24)) hx hb dX4_readNegated_46 (by decide) ?_
              refine ti_callVv (ci := 1) (av := [.int (-24)]) C hw (x_X1_add l D A cy hJ M_37 iM_37 lw hlw (-24) (by first | omega | exact Or.inl (by decide) | exact Or.inr (by decide)) t ht B n g_44 hs_45) ⟨ml_X4_170, ym_X1_add, yv_X1_add, yi_X1_add, yc_X1_add⟩ yd_X1_add hlw (by decide) rfl rfl hl.1 (Nat.le_of_ble_eq_true rfl) ⟨by decide, by decide⟩ ⟨Nat.zero_le _, Nat.zero_le _⟩ dX4_readNegated_48 (fun M_50 H locs hp_50 hw => ?_)
              obtain ⟨iM_50, q_51, q_52, p0r_49⟩ := hp_50
              have lM_50_0 : g_44 0 = (tI M_50 2 4).toInt := p0r_49.2.1.1
              have lM_50_1 : g_44 1 = (tI M_50 2 6).toInt := p0r_49.2.1.2.1
              have lM_50_4 : g_44 4 = (tI M_50 1 4).toInt := p0r_49.2.2.1.1
              have lM_50_7 : g_44 7 = (tI M_50 t 4).toInt := p0r_49.2.2.2.1.1
              have lM_50_8 : g_44 8 = (tI M_50 t 5).toInt := p0r_49.2.2.2.1.2.1
              obtain ⟨x_53, ex_53⟩ : ∃ z : Int32, z = x_34 + 1 := ⟨_, rfl⟩
              have tx_53 : x_53.toInt = x_34.toInt + 1 := i_add ex_53 rfl (by decide) (by omega) (by omega)
              refine lv_iinc (v := x_53) (lv' := [(3, .int x_53), (2, .int x_1), (0, .ref (A 1 0)), (1, .int 8)]) hx hb dX4_readNegated_51 hl (k := 0) rfl (by rw [ex_53]; rfl) (by decide) rfl (fun ls hl => ?_)
              refine lv_goto (tgt := 37) hx hb dX4_readNegated_54 (by decide) ?_
              exact ih_47 x_53 M_50 g_44 _ _ _ (by omega) (by first | omega | decide) (by first | omega | decide) iM_50 ((q_51).trans f_38) (f0.trans (f0_x q_52) f_39) (((q_52 1).2.1).trans f_40) (ot.trans (ot_fx ht q_52) f_41) ((tT_fr q_51).trans f_42) ((tT_fr q_51).trans f_43) p0r_49 j_46 hw (lv_sub hl [0, 1, 2, 3] rfl)
        exact hl_37_46 ((65 - 0 : Int).toNat + 1) 0 M_28 g_33 _ _ _ (Nat.lt_succ_self _) (by have lt0 : (0 : Int32).toInt = 0 := (by decide); first | omega | decide) (by have lt0 : (0 : Int32).toInt = 0 := (by decide); first | omega | decide) iM_28 ((q_29).trans f_5) (f0.trans q_30 f_6) ((q_31).trans f_7) (ot.trans q_32 f_8) ((tT_fr q_29).trans f_9) ((tT_fr q_29).trans f_10) p0r_27 rfl hw (lv_sub hl [0, 1, 2, 3] rfl)
      refine sb_icmp_gt (tgt := 30) hx hb rfl (by decide : (64 : Int32).toInt = 64) dX4_readNegated_5 (by decide) (fun c_5_14 => ?_) (fun c_5_14 => ?_)
      · exact hj_30_26  _ _ _ (by rw [j_13, lp_end (P := pp_qN) (f := 65 - x_1.toInt.toNat) (s := g_11) (Or.inl (by omega))]) hw (lv_sub hl [0, 1, 2] rfl)
      · refine lv_aload_n hx hb dX4_readNegated_8 rfl (lv_at hl 1 rfl) ?_
        refine ti_get (ci := 4) (k := 0) (N := 6) (T := TX4) (v := .ref (A 2 0)) C hw iw_4 rfl ob_1 (by decide) (by decide) fl_X4_12 rfl rfl dX4_readNegated_9 ?_
        refine ti_get (ci := 7) (k := 4) (N := 7) (T := TX7) C hw iw_7 rfl ob_2 (by decide) (by decide) fl_X4_41 rfl rfl dX4_readNegated_12 ?_
        refine lv_topi (fun x_16 ex_16 => ?_)
        have bx_16 : 0 ≤ x_16.toInt ∧ x_16.toInt ≤ 41 := cI_rd iM_4 ob_2.1 ex_16
        have ux_16 : (tI M_4 2 4).toInt = x_16.toInt := by rw [ex_16]
        refine lv_bipush (v := 24) hx hb dX4_readNegated_15 (by decide) ?_
        refine sb_icmp_ne (tgt := 30) hx hb rfl (by decide : (24 : Int32).toInt = 24) dX4_readNegated_17 (by decide) (fun c_17_16 => ?_) (fun c_17_16 => ?_)
        · exact hj_30_26  _ _ _ (by rw [j_13, lp_end (P := pp_qN) (f := 65 - x_1.toInt.toNat) (s := g_11) (Or.inr (decide_eq_false (by omega)))]) hw (lv_sub hl [0, 1, 2] rfl)
        · refine lv_aload_n hx hb dX4_readNegated_20 rfl (lv_at hl 1 rfl) ?_
          refine ti_callVvE (ci := 4) (av := []) C hE hw (x_X4_knot l D A cy hJ M_4 iM_4 t ht (f_9) B n g_11 hs_12) ⟨ml_X4_167, ym_X4_knot, yv_X4_knot, yi_X4_knot, yc_X4_knot⟩ yd_X4_knot ob_1 (by decide) rfl rfl hl.1 (Nat.le_of_ble_eq_true rfl) ⟨by decide, by decide⟩ ⟨Nat.zero_le _, Nat.zero_le _⟩ dX4_readNegated_21 (fun M_19 H locs hp_19 hw => ?_)
          obtain ⟨iM_19, q_20, q_21, q_22, q_23, p0r_18⟩ := hp_19
          obtain ⟨g_24, eg_24⟩ : ∃ z : Nat → Int, z = pp_kn B n g_11 := ⟨_, rfl⟩
          rw [← eg_24] at p0r_18
          have lg_24_0 : g_24 0 = (tI M_19 2 4).toInt := p0r_18.2.1.1
          have lg_24_1 : g_24 1 = (tI M_19 2 6).toInt := p0r_18.2.1.2.1
          have lg_24_4 : g_24 4 = (tI M_19 1 4).toInt := p0r_18.2.2.1.1
          have lg_24_7 : g_24 7 = (tI M_19 t 4).toInt := p0r_18.2.2.2.1.1
          have lg_24_8 : g_24 8 = (tI M_19 t 5).toInt := p0r_18.2.2.2.1.2.1
          obtain ⟨x_25, ex_25⟩ : ∃ z : Int32, z = x_1 + 1 := ⟨_, rfl⟩
          have tx_25 : x_25.toInt = x_1.toInt + 1 := i_add ex_25 rfl (by decide) (by omega) (by omega)
          refine lv_iinc (v := x_25) (lv' := [(2, .int x_25), (0, .ref (A 1 0)), (1, .int 8)]) hx hb dX4_readNegated_24 hl (k := 0) rfl (by rw [ex_25]; rfl) (by decide) rfl (fun ls hl => ?_)
          refine lv_goto (tgt := 2) hx hb dX4_readNegated_27 (by decide) ?_
          exact ih_14 x_25 M_19 g_24 _ _ _ (by omega) (by first | omega | decide) (by first | omega | decide) iM_19 ((q_20).trans f_5) (f0.trans q_21 f_6) ((q_22).trans f_7) (ot.trans q_23 f_8) ((tT_fr q_20).trans f_9) ((tT_fr q_20).trans f_10) p0r_18 (j_13.trans (lp_step (decide_eq_true (by omega)) (by rw [eg_24]) (by omega))) hw (lv_sub hl [0, 1, 2] rfl)
  exact hl_2_13 ((65 - 0 : Int).toNat + 1) 0 M rg _ _ _ (Nat.lt_succ_self _) (by have lt0 : (0 : Int32).toInt = 0 := (by decide); first | omega | decide) (by have lt0 : (0 : Int32).toInt = 0 := (by decide); first | omega | decide) hI rfl f0.refl rfl ot.refl (hT) (hL) hr rfl hw (lv_sub hl [0, 1, 2] rfl)
set_option maxHeartbeats 4000000 in
set_option maxRecDepth 100000 in
theorem x_X4_readBoth_8 (l : Launch) (D : va_G) (A : Nat → Nat → Nat) (cy : Nat → ClassId) (hJ : ti_inj ti_LT A) (M : ti_M) (hI : cI Tc M) (t : Nat) (ht : t = 3 ∨ t = 4) (hT : tT M 1 1 = some t) (lw : Nat) (hlw : ti_ob ti_LT lw 1) (hL : tT M 1 2 = some lw) (B : Nat → Int) (n : Nat) (rg : Nat → Int) (hr : rC B n t rg M) : ti_KvE l yX4_readBoth cX4_readBoth 3 13 ti_LT D A cy M [.ref (A 1 0), .int 8] (fun M2 => cI Tc M2 ∧ M2.2.2.2 = M.2.2.2 ∧ f0 M2 M ∧ tI M2 2 1 = tI M 2 1 ∧ ot t M2 M ∧ rC B n t (pp_bo B n (pp_pt B n 0) rg) M2) := by
  refine ti_eVE yp_X4_readBoth hJ ti_LT_nd (Nat.le_of_ble_eq_true rfl) ?_
  intro p e s m args below meth c Q H0 C hE hQ hw ls hl
  have hx := C.1
  have hb := C.2.1
  have hl : lv_has ls 3 [(0, .ref (A 1 0)), (1, .int 8)] := hl
  have l0 : rg 0 = (tI M 2 4).toInt := hr.2.1.1
  have l1 : rg 1 = (tI M 2 6).toInt := hr.2.1.2.1
  have l2 : rg 2 = (tI M 2 5).toInt := hr.2.1.2.2.1
  have l3 : rg 3 = (tI M 2 3).toInt := hr.2.1.2.2.2
  have l4 : rg 4 = (tI M 1 4).toInt := hr.2.2.1.1
  have l5 : rg 5 = (tI M 1 5).toInt := hr.2.2.1.2.1
  have l7 : rg 7 = (tI M t 4).toInt := hr.2.2.2.1.1
  have l8 : rg 8 = (tI M t 5).toInt := hr.2.2.2.1.2.1
  have l9 : rg 9 = (tI M t 3).toInt := hr.2.2.2.1.2.2
  refine lv_aload_n hx hb dX4_readBoth_0 rfl (lv_at hl 0 rfl) ?_
  refine lv_iload_n hx hb dX4_readBoth_1 rfl (lv_at hl 1 rfl) ?_
  refine ti_callVvE (ci := 4) (av := [.int 8]) C hE hw (x_X4_readNegated_8 l D A cy hJ M hI t ht (hT) lw hlw (hL) B n rg hr) ⟨ml_X4_175, ym_X4_readNegated, yv_X4_readNegated, yi_X4_readNegated, yc_X4_readNegated⟩ yd_X4_readNegated ob_1 (by decide) rfl rfl hl.1 (Nat.le_of_ble_eq_true rfl) ⟨by decide, by decide⟩ ⟨Nat.zero_le _, Nat.zero_le _⟩ dX4_readBoth_2 (fun M_2 H locs hp_2 hw => ?_)
  obtain ⟨iM_2, q_3, q_4, q_5, q_6, p0r_1⟩ := hp_2
  obtain ⟨g_7, eg_7⟩ : ∃ z : Nat → Int, z = pp_ng B n (pp_pt B n 0) rg := ⟨_, rfl⟩
  rw [← eg_7] at p0r_1
  have lg_7_0 : g_7 0 = (tI M_2 2 4).toInt := p0r_1.2.1.1
  have lg_7_1 : g_7 1 = (tI M_2 2 6).toInt := p0r_1.2.1.2.1
  have lg_7_4 : g_7 4 = (tI M_2 1 4).toInt := p0r_1.2.2.1.1
  have lg_7_7 : g_7 7 = (tI M_2 t 4).toInt := p0r_1.2.2.2.1.1
  have lg_7_8 : g_7 8 = (tI M_2 t 5).toInt := p0r_1.2.2.2.1.2.1
  refine lv_iconst (v := 0) hx hb dX4_readBoth_5 (by decide) ?_
  refine lv_istore_n (lv' := [(2, .int 0), (0, .ref (A 1 0)), (1, .int 8)]) hx hb dX4_readBoth_6 rfl hl (by decide) rfl (fun ls hl => ?_)
  have hl_7_20 : ∀ (n_21 : Nat) (x_8 : Int32) (M_11 : ti_M) (g_18 : Nat → Int) (H : Heap) (locs : List Loc) (ls : Array Slot), (64 - x_8.toInt : Int).toNat < n_21 → (0 ≤ x_8.toInt) → (x_8.toInt ≤ 64) → (cI Tc M_11) → (M_11.2.2.2 = M.2.2.2) → (f0 M_11 M) → (tI M_11 2 1 = tI M 2 1) → (ot t M_11 M) → (tT M_11 1 1 = (some t)) → (tT M_11 1 2 = (some lw)) → (rC B n t g_18 M_11) → (pp_lp pp_qA (fun s => pp_ng B n (pp_pt B n 0) (pp_kn B n s)) 64 g_7 = pp_lp pp_qA (fun s => pp_ng B n (pp_pt B n 0) (pp_kn B n s)) (64 - (x_8.toInt).toNat) g_18) → ti_H ti_LT D A cy H0 M_11 H locs → lv_has ls 3 [(2, .int x_8), (0, .ref (A 1 0)), (1, .int 8)] → W p l e (ti_rm 13) s m args below meth c H locs 0 0 Q (F0 m 7 ls []) := by
    intro n_21
    induction n_21 with
    | zero => intro x_8 M_11 g_18 H locs ls hf_21; exact absurd hf_21 (Nat.not_lt_zero _)
    | succ n_21 ih_21 =>
      intro x_8 M_11 g_18 H locs ls hf_21 b_9 b_10 iM_11 f_12 f_13 f_14 f_15 f_16 f_17 hs_19 j_20 hw hl
      have lg_18_0 : g_18 0 = (tI M_11 2 4).toInt := hs_19.2.1.1
      have lg_18_1 : g_18 1 = (tI M_11 2 6).toInt := hs_19.2.1.2.1
      have lg_18_4 : g_18 4 = (tI M_11 1 4).toInt := hs_19.2.2.1.1
      have lg_18_7 : g_18 7 = (tI M_11 t 4).toInt := hs_19.2.2.2.1.1
      have lg_18_8 : g_18 8 = (tI M_11 t 5).toInt := hs_19.2.2.2.1.2.1
      refine lv_iload_n hx hb dX4_readBoth_7 rfl (lv_at hl 0 rfl) ?_
      refine lv_bipush (v := 64) hx hb dX4_readBoth_8 (by decide) ?_
      refine sb_icmp_ge (tgt := 49) hx hb rfl (by decide : (64 : Int32).toInt = 64) dX4_readBoth_10 (by decide) (fun c_10_21 => ?_) (fun c_10_21 => ?_)
      · exact hQ _ _ _ _ _ hw (⟨iM_11, (f_12), f_13, (f_14), f_15, (by unfold pp_bo; rw [← eg_7, j_20, lp_end (P := pp_qA) (f := 64 - x_8.toInt.toNat) (s := g_18) (Or.inl (by omega))]; exact hs_19)⟩) dX4_readBoth_49
      · refine lv_aload_n hx hb dX4_readBoth_13 rfl (lv_at hl 1 rfl) ?_
        refine ti_get (ci := 4) (k := 0) (N := 6) (T := TX4) (v := .ref (A 2 0)) C hw iw_4 rfl ob_1 (by decide) (by decide) fl_X4_12 rfl rfl dX4_readBoth_14 ?_
        refine ti_get (ci := 7) (k := 4) (N := 7) (T := TX7) C hw iw_7 rfl ob_2 (by decide) (by decide) fl_X4_41 rfl rfl dX4_readBoth_17 ?_
        refine lv_topi (fun x_23 ex_23 => ?_)
        have bx_23 : 0 ≤ x_23.toInt ∧ x_23.toInt ≤ 41 := cI_rd iM_11 ob_2.1 ex_23
        have ux_23 : (tI M_11 2 4).toInt = x_23.toInt := by rw [ex_23]
        refine lv_bipush (v := 22) hx hb dX4_readBoth_20 (by decide) ?_
        refine sb_icmp_ne (tgt := 49) hx hb rfl (by decide : (22 : Int32).toInt = 22) dX4_readBoth_22 (by decide) (fun c_22_23 => ?_) (fun c_22_23 => ?_)
        · exact hQ _ _ _ _ _ hw (⟨iM_11, (f_12), f_13, (f_14), f_15, (by unfold pp_bo; rw [← eg_7, j_20, lp_end (P := pp_qA) (f := 64 - x_8.toInt.toNat) (s := g_18) (Or.inr (decide_eq_false (by omega)))]; exact hs_19)⟩) dX4_readBoth_49
        · refine lv_aload_n hx hb dX4_readBoth_25 rfl (lv_at hl 1 rfl) ?_
          refine ti_callVvE (ci := 4) (av := []) C hE hw (x_X4_knot l D A cy hJ M_11 iM_11 t ht (f_16) B n g_18 hs_19) ⟨ml_X4_167, ym_X4_knot, yv_X4_knot, yi_X4_knot, yc_X4_knot⟩ yd_X4_knot ob_1 (by decide) rfl rfl hl.1 (Nat.le_of_ble_eq_true rfl) ⟨by decide, by decide⟩ ⟨Nat.zero_le _, Nat.zero_le _⟩ dX4_readBoth_26 (fun M_26 H locs hp_26 hw => ?_)
          obtain ⟨iM_26, q_27, q_28, q_29, q_30, p0r_25⟩ := hp_26
          obtain ⟨g_31, eg_31⟩ : ∃ z : Nat → Int, z = pp_kn B n g_18 := ⟨_, rfl⟩
          rw [← eg_31] at p0r_25
          have lg_31_0 : g_31 0 = (tI M_26 2 4).toInt := p0r_25.2.1.1
          have lg_31_1 : g_31 1 = (tI M_26 2 6).toInt := p0r_25.2.1.2.1
          have lg_31_4 : g_31 4 = (tI M_26 1 4).toInt := p0r_25.2.2.1.1
          have lg_31_7 : g_31 7 = (tI M_26 t 4).toInt := p0r_25.2.2.2.1.1
          have lg_31_8 : g_31 8 = (tI M_26 t 5).toInt := p0r_25.2.2.2.1.2.1
          refine lv_aload_n hx hb dX4_readBoth_29 rfl (lv_at hl 1 rfl) ?_
          refine lv_iload_n hx hb dX4_readBoth_30 rfl (lv_at hl 2 rfl) ?_
          refine ti_callVvE (ci := 4) (av := [.int 8]) C hE hw (x_X4_readNegated_8 l D A cy hJ M_26 iM_26 t ht ((tT_fr q_27).trans f_16) lw hlw ((tT_fr q_27).trans f_17) B n g_31 p0r_25) ⟨ml_X4_175, ym_X4_readNegated, yv_X4_readNegated, yi_X4_readNegated, yc_X4_readNegated⟩ yd_X4_readNegated ob_1 (by decide) rfl rfl hl.1 (Nat.le_of_ble_eq_true rfl) ⟨by decide, by decide⟩ ⟨Nat.zero_le _, Nat.zero_le _⟩ dX4_readBoth_31 (fun M_33 H locs hp_33 hw => ?_)
          obtain ⟨iM_33, q_34, q_35, q_36, q_37, p0r_32⟩ := hp_33
          obtain ⟨g_38, eg_38⟩ : ∃ z : Nat → Int, z = pp_ng B n (pp_pt B n 0) g_31 := ⟨_, rfl⟩
          rw [← eg_38] at p0r_32
          have lg_38_0 : g_38 0 = (tI M_33 2 4).toInt := p0r_32.2.1.1
          have lg_38_1 : g_38 1 = (tI M_33 2 6).toInt := p0r_32.2.1.2.1
          have lg_38_4 : g_38 4 = (tI M_33 1 4).toInt := p0r_32.2.2.1.1
          have lg_38_7 : g_38 7 = (tI M_33 t 4).toInt := p0r_32.2.2.2.1.1
          have lg_38_8 : g_38 8 = (tI M_33 t 5).toInt := p0r_32.2.2.2.1.2.1
          refine lv_aload_n hx hb dX4_readBoth_34 rfl (lv_at hl 1 rfl) ?_
          refine ti_get (ci := 4) (k := 2) (N := 6) (T := TX4) (v := .ref (A lw 0)) C hw iw_4 rfl ob_1 (by decide) (by decide) fl_X4_154 rfl (ti_Tv ((tT_fr q_34).trans ((tT_fr q_27).trans f_17))) dX4_readBoth_35 ?_
          refine lv_bipush (v := (-22)) hx hb dX4_readBoth_38 (by decide) ?_
          refine ti_callVv (ci := 1) (av := [.int (-22)]) C hw (x_X1_add l D A cy hJ M_33 iM_33 lw hlw (-22) (by first | omega | exact Or.inl (by decide) | exact Or.inr (by decide)) t ht B n g_38 p0r_32) ⟨ml_X4_170, ym_X1_add, yv_X1_add, yi_X1_add, yc_X1_add⟩ yd_X1_add hlw (by decide) rfl rfl hl.1 (Nat.le_of_ble_eq_true rfl) ⟨by decide, by decide⟩ ⟨Nat.zero_le _, Nat.zero_le _⟩ dX4_readBoth_40 (fun M_40 H locs hp_40 hw => ?_)
          obtain ⟨iM_40, q_41, q_42, p0r_39⟩ := hp_40
          have lM_40_0 : g_38 0 = (tI M_40 2 4).toInt := p0r_39.2.1.1
          have lM_40_1 : g_38 1 = (tI M_40 2 6).toInt := p0r_39.2.1.2.1
          have lM_40_4 : g_38 4 = (tI M_40 1 4).toInt := p0r_39.2.2.1.1
          have lM_40_7 : g_38 7 = (tI M_40 t 4).toInt := p0r_39.2.2.2.1.1
          have lM_40_8 : g_38 8 = (tI M_40 t 5).toInt := p0r_39.2.2.2.1.2.1
          obtain ⟨x_43, ex_43⟩ : ∃ z : Int32, z = x_8 + 1 := ⟨_, rfl⟩
          have tx_43 : x_43.toInt = x_8.toInt + 1 := i_add ex_43 rfl (by decide) (by omega) (by omega)
          refine lv_iinc (v := x_43) (lv' := [(2, .int x_43), (0, .ref (A 1 0)), (1, .int 8)]) hx hb dX4_readBoth_43 hl (k := 0) rfl (by rw [ex_43]; rfl) (by decide) rfl (fun ls hl => ?_)
          refine lv_goto (tgt := 7) hx hb dX4_readBoth_46 (by decide) ?_
          exact ih_21 x_43 M_40 g_38 _ _ _ (by omega) (by first | omega | decide) (by first | omega | decide) iM_40 ((q_41).trans ((q_34).trans ((q_27).trans f_12))) (f0.trans (f0_x q_42) (f0.trans q_35 (f0.trans q_28 f_13))) (((q_42 1).2.1).trans ((q_36).trans ((q_29).trans f_14))) (ot.trans (ot_fx ht q_42) (ot.trans q_37 (ot.trans q_30 f_15))) ((tT_fr q_41).trans ((tT_fr q_34).trans ((tT_fr q_27).trans f_16))) ((tT_fr q_41).trans ((tT_fr q_34).trans ((tT_fr q_27).trans f_17))) p0r_39 (j_20.trans (lp_step (decide_eq_true (by omega)) (by rw [eg_38, eg_31]) (by omega))) hw (lv_sub hl [0, 1, 2] rfl)
  exact hl_7_20 ((64 - 0 : Int).toNat + 1) 0 M_2 g_7 _ _ _ (Nat.lt_succ_self _) (by have lt0 : (0 : Int32).toInt = 0 := (by decide); first | omega | decide) (by have lt0 : (0 : Int32).toInt = 0 := (by decide); first | omega | decide) iM_2 (q_3) q_4 (q_5) q_6 ((tT_fr q_3).trans hT) ((tT_fr q_3).trans hL) p0r_1 rfl hw (lv_sub hl [0, 1, 2] rfl)
set_option maxHeartbeats 4000000 in
set_option maxRecDepth 100000 in
theorem x_X4_readEither_8 (l : Launch) (D : va_G) (A : Nat → Nat → Nat) (cy : Nat → ClassId) (hJ : ti_inj ti_LT A) (M : ti_M) (hI : cI Tc M) (t : Nat) (ht : t = 3 ∨ t = 4) (hT : tT M 1 1 = some t) (lw : Nat) (hlw : ti_ob ti_LT lw 1) (hL : tT M 1 2 = some lw) (B : Nat → Int) (n : Nat) (rg : Nat → Int) (hr : rC B n t rg M) : ti_KvE l yX4_readEither cX4_readEither 3 14 ti_LT D A cy M [.ref (A 1 0), .int 8] (fun M2 => cI Tc M2 ∧ M2.2.2.2 = M.2.2.2 ∧ f0 M2 M ∧ tI M2 2 1 = tI M 2 1 ∧ ot t M2 M ∧ rC B n t (pp_ei B n (pp_pt B n 0) rg) M2) := by
  refine ti_eVE yp_X4_readEither hJ ti_LT_nd (Nat.le_of_ble_eq_true rfl) ?_
  intro p e s m args below meth c Q H0 C hE hQ hw ls hl
  have hx := C.1
  have hb := C.2.1
  have hl : lv_has ls 3 [(0, .ref (A 1 0)), (1, .int 8)] := hl
  have l0 : rg 0 = (tI M 2 4).toInt := hr.2.1.1
  have l1 : rg 1 = (tI M 2 6).toInt := hr.2.1.2.1
  have l2 : rg 2 = (tI M 2 5).toInt := hr.2.1.2.2.1
  have l3 : rg 3 = (tI M 2 3).toInt := hr.2.1.2.2.2
  have l4 : rg 4 = (tI M 1 4).toInt := hr.2.2.1.1
  have l5 : rg 5 = (tI M 1 5).toInt := hr.2.2.1.2.1
  have l7 : rg 7 = (tI M t 4).toInt := hr.2.2.2.1.1
  have l8 : rg 8 = (tI M t 5).toInt := hr.2.2.2.1.2.1
  have l9 : rg 9 = (tI M t 3).toInt := hr.2.2.2.1.2.2
  refine lv_aload_n hx hb dX4_readEither_0 rfl (lv_at hl 0 rfl) ?_
  refine lv_iload_n hx hb dX4_readEither_1 rfl (lv_at hl 1 rfl) ?_
  refine ti_callVvE (ci := 4) (av := [.int 8]) C hE hw (x_X4_readBoth_8 l D A cy hJ M hI t ht (hT) lw hlw (hL) B n rg hr) ⟨ml_X4_164, ym_X4_readBoth, yv_X4_readBoth, yi_X4_readBoth, yc_X4_readBoth⟩ yd_X4_readBoth ob_1 (by decide) rfl rfl hl.1 (Nat.le_of_ble_eq_true rfl) ⟨by decide, by decide⟩ ⟨Nat.zero_le _, Nat.zero_le _⟩ dX4_readEither_2 (fun M_2 H locs hp_2 hw => ?_)
  obtain ⟨iM_2, q_3, q_4, q_5, q_6, p0r_1⟩ := hp_2
  obtain ⟨g_7, eg_7⟩ : ∃ z : Nat → Int, z = pp_bo B n (pp_pt B n 0) rg := ⟨_, rfl⟩
  rw [← eg_7] at p0r_1
  have lg_7_0 : g_7 0 = (tI M_2 2 4).toInt := p0r_1.2.1.1
  have lg_7_1 : g_7 1 = (tI M_2 2 6).toInt := p0r_1.2.1.2.1
  have lg_7_4 : g_7 4 = (tI M_2 1 4).toInt := p0r_1.2.2.1.1
  have lg_7_7 : g_7 7 = (tI M_2 t 4).toInt := p0r_1.2.2.2.1.1
  have lg_7_8 : g_7 8 = (tI M_2 t 5).toInt := p0r_1.2.2.2.1.2.1
  refine lv_iconst (v := 0) hx hb dX4_readEither_5 (by decide) ?_
  refine lv_istore_n (lv' := [(2, .int 0), (0, .ref (A 1 0)), (1, .int 8)]) hx hb dX4_readEither_6 rfl hl (by decide) rfl (fun ls hl => ?_)
  have hl_7_20 : ∀ (n_21 : Nat) (x_8 : Int32) (M_11 : ti_M) (g_18 : Nat → Int) (H : Heap) (locs : List Loc) (ls : Array Slot), (64 - x_8.toInt : Int).toNat < n_21 → (0 ≤ x_8.toInt) → (x_8.toInt ≤ 64) → (cI Tc M_11) → (M_11.2.2.2 = M.2.2.2) → (f0 M_11 M) → (tI M_11 2 1 = tI M 2 1) → (ot t M_11 M) → (tT M_11 1 1 = (some t)) → (tT M_11 1 2 = (some lw)) → (rC B n t g_18 M_11) → (pp_lp pp_qO (fun s => pp_bo B n (pp_pt B n 0) (pp_kn B n s)) 64 g_7 = pp_lp pp_qO (fun s => pp_bo B n (pp_pt B n 0) (pp_kn B n s)) (64 - (x_8.toInt).toNat) g_18) → ti_H ti_LT D A cy H0 M_11 H locs → lv_has ls 3 [(2, .int x_8), (0, .ref (A 1 0)), (1, .int 8)] → W p l e (ti_rm 14) s m args below meth c H locs 0 0 Q (F0 m 7 ls []) := by
    intro n_21
    induction n_21 with
    | zero => intro x_8 M_11 g_18 H locs ls hf_21; exact absurd hf_21 (Nat.not_lt_zero _)
    | succ n_21 ih_21 =>
      intro x_8 M_11 g_18 H locs ls hf_21 b_9 b_10 iM_11 f_12 f_13 f_14 f_15 f_16 f_17 hs_19 j_20 hw hl
      have lg_18_0 : g_18 0 = (tI M_11 2 4).toInt := hs_19.2.1.1
      have lg_18_1 : g_18 1 = (tI M_11 2 6).toInt := hs_19.2.1.2.1
      have lg_18_4 : g_18 4 = (tI M_11 1 4).toInt := hs_19.2.2.1.1
      have lg_18_7 : g_18 7 = (tI M_11 t 4).toInt := hs_19.2.2.2.1.1
      have lg_18_8 : g_18 8 = (tI M_11 t 5).toInt := hs_19.2.2.2.1.2.1
      refine lv_iload_n hx hb dX4_readEither_7 rfl (lv_at hl 0 rfl) ?_
      refine lv_bipush (v := 64) hx hb dX4_readEither_8 (by decide) ?_
      refine sb_icmp_ge (tgt := 49) hx hb rfl (by decide : (64 : Int32).toInt = 64) dX4_readEither_10 (by decide) (fun c_10_21 => ?_) (fun c_10_21 => ?_)
      · exact hQ _ _ _ _ _ hw (⟨iM_11, (f_12), f_13, (f_14), f_15, (by unfold pp_ei; rw [← eg_7, j_20, lp_end (P := pp_qO) (f := 64 - x_8.toInt.toNat) (s := g_18) (Or.inl (by omega))]; exact hs_19)⟩) dX4_readEither_49
      · refine lv_aload_n hx hb dX4_readEither_13 rfl (lv_at hl 1 rfl) ?_
        refine ti_get (ci := 4) (k := 0) (N := 6) (T := TX4) (v := .ref (A 2 0)) C hw iw_4 rfl ob_1 (by decide) (by decide) fl_X4_12 rfl rfl dX4_readEither_14 ?_
        refine ti_get (ci := 7) (k := 4) (N := 7) (T := TX7) C hw iw_7 rfl ob_2 (by decide) (by decide) fl_X4_41 rfl rfl dX4_readEither_17 ?_
        refine lv_topi (fun x_23 ex_23 => ?_)
        have bx_23 : 0 ≤ x_23.toInt ∧ x_23.toInt ≤ 41 := cI_rd iM_11 ob_2.1 ex_23
        have ux_23 : (tI M_11 2 4).toInt = x_23.toInt := by rw [ex_23]
        refine lv_bipush (v := 23) hx hb dX4_readEither_20 (by decide) ?_
        refine sb_icmp_ne (tgt := 49) hx hb rfl (by decide : (23 : Int32).toInt = 23) dX4_readEither_22 (by decide) (fun c_22_23 => ?_) (fun c_22_23 => ?_)
        · exact hQ _ _ _ _ _ hw (⟨iM_11, (f_12), f_13, (f_14), f_15, (by unfold pp_ei; rw [← eg_7, j_20, lp_end (P := pp_qO) (f := 64 - x_8.toInt.toNat) (s := g_18) (Or.inr (decide_eq_false (by omega)))]; exact hs_19)⟩) dX4_readEither_49
        · refine lv_aload_n hx hb dX4_readEither_25 rfl (lv_at hl 1 rfl) ?_
          refine ti_callVvE (ci := 4) (av := []) C hE hw (x_X4_knot l D A cy hJ M_11 iM_11 t ht (f_16) B n g_18 hs_19) ⟨ml_X4_167, ym_X4_knot, yv_X4_knot, yi_X4_knot, yc_X4_knot⟩ yd_X4_knot ob_1 (by decide) rfl rfl hl.1 (Nat.le_of_ble_eq_true rfl) ⟨by decide, by decide⟩ ⟨Nat.zero_le _, Nat.zero_le _⟩ dX4_readEither_26 (fun M_26 H locs hp_26 hw => ?_)
          obtain ⟨iM_26, q_27, q_28, q_29, q_30, p0r_25⟩ := hp_26
          obtain ⟨g_31, eg_31⟩ : ∃ z : Nat → Int, z = pp_kn B n g_18 := ⟨_, rfl⟩
          rw [← eg_31] at p0r_25
          have lg_31_0 : g_31 0 = (tI M_26 2 4).toInt := p0r_25.2.1.1
          have lg_31_1 : g_31 1 = (tI M_26 2 6).toInt := p0r_25.2.1.2.1
          have lg_31_4 : g_31 4 = (tI M_26 1 4).toInt := p0r_25.2.2.1.1
          have lg_31_7 : g_31 7 = (tI M_26 t 4).toInt := p0r_25.2.2.2.1.1
          have lg_31_8 : g_31 8 = (tI M_26 t 5).toInt := p0r_25.2.2.2.1.2.1
          refine lv_aload_n hx hb dX4_readEither_29 rfl (lv_at hl 1 rfl) ?_
          refine lv_iload_n hx hb dX4_readEither_30 rfl (lv_at hl 2 rfl) ?_
          refine ti_callVvE (ci := 4) (av := [.int 8]) C hE hw (x_X4_readBoth_8 l D A cy hJ M_26 iM_26 t ht ((tT_fr q_27).trans f_16) lw hlw ((tT_fr q_27).trans f_17) B n g_31 p0r_25) ⟨ml_X4_164, ym_X4_readBoth, yv_X4_readBoth, yi_X4_readBoth, yc_X4_readBoth⟩ yd_X4_readBoth ob_1 (by decide) rfl rfl hl.1 (Nat.le_of_ble_eq_true rfl) ⟨by decide, by decide⟩ ⟨Nat.zero_le _, Nat.zero_le _⟩ dX4_readEither_31 (fun M_33 H locs hp_33 hw => ?_)
          obtain ⟨iM_33, q_34, q_35, q_36, q_37, p0r_32⟩ := hp_33
          obtain ⟨g_38, eg_38⟩ : ∃ z : Nat → Int, z = pp_bo B n (pp_pt B n 0) g_31 := ⟨_, rfl⟩
          rw [← eg_38] at p0r_32
          have lg_38_0 : g_38 0 = (tI M_33 2 4).toInt := p0r_32.2.1.1
          have lg_38_1 : g_38 1 = (tI M_33 2 6).toInt := p0r_32.2.1.2.1
          have lg_38_4 : g_38 4 = (tI M_33 1 4).toInt := p0r_32.2.2.1.1
          have lg_38_7 : g_38 7 = (tI M_33 t 4).toInt := p0r_32.2.2.2.1.1
          have lg_38_8 : g_38 8 = (tI M_33 t 5).toInt := p0r_32.2.2.2.1.2.1
          refine lv_aload_n hx hb dX4_readEither_34 rfl (lv_at hl 1 rfl) ?_
          refine ti_get (ci := 4) (k := 2) (N := 6) (T := TX4) (v := .ref (A lw 0)) C hw iw_4 rfl ob_1 (by decide) (by decide) fl_X4_154 rfl (ti_Tv ((tT_fr q_34).trans ((tT_fr q_27).trans f_17))) dX4_readEither_35 ?_
          refine lv_bipush (v := (-23)) hx hb dX4_readEither_38 (by decide) ?_
          refine ti_callVv (ci := 1) (av := [.int (-23)]) C hw (x_X1_add l D A cy hJ M_33 iM_33 lw hlw (-23) (by first | omega | exact Or.inl (by decide) | exact Or.inr (by decide)) t ht B n g_38 p0r_32) ⟨ml_X4_170, ym_X1_add, yv_X1_add, yi_X1_add, yc_X1_add⟩ yd_X1_add hlw (by decide) rfl rfl hl.1 (Nat.le_of_ble_eq_true rfl) ⟨by decide, by decide⟩ ⟨Nat.zero_le _, Nat.zero_le _⟩ dX4_readEither_40 (fun M_40 H locs hp_40 hw => ?_)
          obtain ⟨iM_40, q_41, q_42, p0r_39⟩ := hp_40
          have lM_40_0 : g_38 0 = (tI M_40 2 4).toInt := p0r_39.2.1.1
          have lM_40_1 : g_38 1 = (tI M_40 2 6).toInt := p0r_39.2.1.2.1
          have lM_40_4 : g_38 4 = (tI M_40 1 4).toInt := p0r_39.2.2.1.1
          have lM_40_7 : g_38 7 = (tI M_40 t 4).toInt := p0r_39.2.2.2.1.1
          have lM_40_8 : g_38 8 = (tI M_40 t 5).toInt := p0r_39.2.2.2.1.2.1
          obtain ⟨x_43, ex_43⟩ : ∃ z : Int32, z = x_8 + 1 := ⟨_, rfl⟩
          have tx_43 : x_43.toInt = x_8.toInt + 1 := i_add ex_43 rfl (by decide) (by omega) (by omega)
          refine lv_iinc (v := x_43) (lv' := [(2, .int x_43), (0, .ref (A 1 0)), (1, .int 8)]) hx hb dX4_readEither_43 hl (k := 0) rfl (by rw [ex_43]; rfl) (by decide) rfl (fun ls hl => ?_)
          refine lv_goto (tgt := 7) hx hb dX4_readEither_46 (by decide) ?_
          exact ih_21 x_43 M_40 g_38 _ _ _ (by omega) (by first | omega | decide) (by first | omega | decide) iM_40 ((q_41).trans ((q_34).trans ((q_27).trans f_12))) (f0.trans (f0_x q_42) (f0.trans q_35 (f0.trans q_28 f_13))) (((q_42 1).2.1).trans ((q_36).trans ((q_29).trans f_14))) (ot.trans (ot_fx ht q_42) (ot.trans q_37 (ot.trans q_30 f_15))) ((tT_fr q_41).trans ((tT_fr q_34).trans ((tT_fr q_27).trans f_16))) ((tT_fr q_41).trans ((tT_fr q_34).trans ((tT_fr q_27).trans f_17))) p0r_39 (j_20.trans (lp_step (decide_eq_true (by omega)) (by rw [eg_38, eg_31]) (by omega))) hw (lv_sub hl [0, 1, 2] rfl)
  exact hl_7_20 ((64 - 0 : Int).toNat + 1) 0 M_2 g_7 _ _ _ (Nat.lt_succ_self _) (by have lt0 : (0 : Int32).toInt = 0 := (by decide); first | omega | decide) (by have lt0 : (0 : Int32).toInt = 0 := (by decide); first | omega | decide) iM_2 (q_3) q_4 (q_5) q_6 ((tT_fr q_3).trans hT) ((tT_fr q_3).trans hL) p0r_1 rfl hw (lv_sub hl [0, 1, 2] rfl)
set_option maxHeartbeats 4000000 in
set_option maxRecDepth 100000 in
theorem x_X4_readPart_7 (l : Launch) (D : va_G) (A : Nat → Nat → Nat) (cy : Nat → ClassId) (hJ : ti_inj ti_LT A) (M : ti_M) (hI : cI Tc M) (t : Nat) (ht : t = 3 ∨ t = 4) (hT : tT M 1 1 = some t) (lw : Nat) (hlw : ti_ob ti_LT lw 1) (hL : tT M 1 2 = some lw) (B : Nat → Int) (n : Nat) (rg : Nat → Int) (hr : rC B n t rg M) : ti_KvE l yX4_readPart cX4_readPart 3 15 ti_LT D A cy M [.ref (A 1 0), .int 7] (fun M2 => cI Tc M2 ∧ M2.2.2.2 = M.2.2.2 ∧ f0 M2 M ∧ tI M2 2 1 = tI M 2 1 ∧ ot t M2 M ∧ rC B n t (pp_pt B n 1 rg) M2) := by
  refine ti_eVE yp_X4_readPart hJ ti_LT_nd (Nat.le_of_ble_eq_true rfl) ?_
  intro p e s m args below meth c Q H0 C hE hQ hw ls hl
  have hx := C.1
  have hb := C.2.1
  have hl : lv_has ls 3 [(0, .ref (A 1 0)), (1, .int 7)] := hl
  have l0 : rg 0 = (tI M 2 4).toInt := hr.2.1.1
  have l1 : rg 1 = (tI M 2 6).toInt := hr.2.1.2.1
  have l2 : rg 2 = (tI M 2 5).toInt := hr.2.1.2.2.1
  have l3 : rg 3 = (tI M 2 3).toInt := hr.2.1.2.2.2
  have l4 : rg 4 = (tI M 1 4).toInt := hr.2.2.1.1
  have l5 : rg 5 = (tI M 1 5).toInt := hr.2.2.1.2.1
  have l7 : rg 7 = (tI M t 4).toInt := hr.2.2.2.1.1
  have l8 : rg 8 = (tI M t 5).toInt := hr.2.2.2.1.2.1
  have l9 : rg 9 = (tI M t 3).toInt := hr.2.2.2.1.2.2
  refine lv_aload_n hx hb dX4_readPart_0 rfl (lv_at hl 0 rfl) ?_
  refine ti_get (ci := 4) (k := 0) (N := 6) (T := TX4) (v := .ref (A 2 0)) C hw iw_4 rfl ob_1 (by decide) (by decide) fl_X4_12 rfl rfl dX4_readPart_1 ?_
  refine ti_get (ci := 7) (k := 4) (N := 7) (T := TX7) C hw iw_7 rfl ob_2 (by decide) (by decide) fl_X4_41 rfl rfl dX4_readPart_4 ?_
  refine lv_topi (fun x_1 ex_1 => ?_)
  have bx_1 : 0 ≤ x_1.toInt ∧ x_1.toInt ≤ 41 := cI_rd hI ob_2.1 ex_1
  have ux_1 : (tI M 2 4).toInt = x_1.toInt := by rw [ex_1]
  refine lv_istore_n (lv' := [(2, .int x_1), (0, .ref (A 1 0)), (1, .int 7)]) hx hb dX4_readPart_7 rfl hl (by decide) rfl (fun ls hl => ?_)
  refine lv_iload_n hx hb dX4_readPart_8 rfl (lv_at hl 0 rfl) ?_
  refine lv_bipush (v := 30) hx hb dX4_readPart_9 (by decide) ?_
  refine sb_icmp_ne (tgt := 28) hx hb rfl (by decide : (30 : Int32).toInt = 30) dX4_readPart_11 (by decide) (fun c_11_1 => ?_) (fun c_11_1 => ?_)
  · refine lv_iload_n hx hb dX4_readPart_28 rfl (lv_at hl 0 rfl) ?_
    refine lv_bipush (v := 30) hx hb dX4_readPart_29 (by decide) ?_
    refine sb_icmp_ne (tgt := 57) hx hb rfl (by decide : (30 : Int32).toInt = 30) dX4_readPart_31 (by decide) (fun c_31_3 => ?_) (fun h => by omega)
    refine lv_iload_n hx hb dX4_readPart_57 rfl (lv_at hl 0 rfl) ?_
    refine lv_bipush (v := 26) hx hb dX4_readPart_58 (by decide) ?_
    refine sb_icmp_ne (tgt := 84) hx hb rfl (by decide : (26 : Int32).toInt = 26) dX4_readPart_60 (by decide) (fun c_60_26 => ?_) (fun c_60_26 => ?_)
    · refine lv_iload_n hx hb dX4_readPart_84 rfl (lv_at hl 0 rfl) ?_
      refine lv_bipush (v := 26) hx hb dX4_readPart_85 (by decide) ?_
      refine sb_icmp_ne (tgt := 111) hx hb rfl (by decide : (26 : Int32).toInt = 26) dX4_readPart_87 (by decide) (fun c_87_35 => ?_) (fun h => by omega)
      refine lv_iload_n hx hb dX4_readPart_111 rfl (lv_at hl 0 rfl) ?_
      refine lv_bipush (v := 16) hx hb dX4_readPart_112 (by decide) ?_
      refine sb_icmp_lt (tgt := 139) hx hb rfl (by decide : (16 : Int32).toInt = 16) dX4_readPart_114 (by decide) (fun c_114_49 => ?_) (fun c_114_49 => ?_)
      · refine lv_aload_n hx hb dX4_readPart_139 rfl (lv_at hl 1 rfl) ?_
        refine lv_iconst (v := 1) hx hb dX4_readPart_140 (by decide) ?_
        refine ti_callVv (ci := 4) (av := [.int 1]) C hw (x_X4_refuse l D A cy hJ M hI t ht 1 B n rg hr) ⟨ml_X4_82, ym_X4_refuse, yv_X4_refuse, yi_X4_refuse, yc_X4_refuse⟩ yd_X4_refuse ob_1 (by decide) rfl rfl hl.1 (Nat.le_of_ble_eq_true rfl) ⟨by decide, by decide⟩ ⟨Nat.zero_le _, Nat.zero_le _⟩ dX4_readPart_141 (fun M_65 H locs hp_65 hw => ?_)
        obtain ⟨iM_65, q_66, q_67, q_68, p0r_64⟩ := hp_65
        have hlr_64_1 : (1 : Int32).toInt = 1 := by decide
        simp only [hlr_64_1] at p0r_64
        obtain ⟨g_69, eg_69⟩ : ∃ z : Nat → Int, z = pp_rf 1 rg := ⟨_, rfl⟩
        rw [← eg_69] at p0r_64
        have lg_69_0 : g_69 0 = (tI M_65 2 4).toInt := p0r_64.2.1.1
        have lg_69_1 : g_69 1 = (tI M_65 2 6).toInt := p0r_64.2.1.2.1
        have lg_69_4 : g_69 4 = (tI M_65 1 4).toInt := p0r_64.2.2.1.1
        have lg_69_7 : g_69 7 = (tI M_65 t 4).toInt := p0r_64.2.2.2.1.1
        have lg_69_8 : g_69 8 = (tI M_65 t 5).toInt := p0r_64.2.2.2.1.2.1
        exact hQ _ _ _ _ _ hw (⟨iM_65, (q_66), (f0_12 q_67), (q_68), (ot_12 ht q_67), (by rw [pe_1, if_neg (by omega)]; unfold pp_p0; rw [if_neg (by omega), if_neg (fun q => by omega), ← eg_69]; exact p0r_64)⟩) dX4_readPart_144
      · refine lv_iload_n hx hb dX4_readPart_117 rfl (lv_at hl 0 rfl) ?_
        refine lv_bipush (v := 21) hx hb dX4_readPart_118 (by decide) ?_
        refine sb_icmp_gt (tgt := 139) hx hb rfl (by decide : (21 : Int32).toInt = 21) dX4_readPart_120 (by decide) (fun c_120_50 => ?_) (fun c_120_50 => ?_)
        · refine lv_aload_n hx hb dX4_readPart_139 rfl (lv_at hl 1 rfl) ?_
          refine lv_iconst (v := 1) hx hb dX4_readPart_140 (by decide) ?_
          refine ti_callVv (ci := 4) (av := [.int 1]) C hw (x_X4_refuse l D A cy hJ M hI t ht 1 B n rg hr) ⟨ml_X4_82, ym_X4_refuse, yv_X4_refuse, yi_X4_refuse, yc_X4_refuse⟩ yd_X4_refuse ob_1 (by decide) rfl rfl hl.1 (Nat.le_of_ble_eq_true rfl) ⟨by decide, by decide⟩ ⟨Nat.zero_le _, Nat.zero_le _⟩ dX4_readPart_141 (fun M_71 H locs hp_71 hw => ?_)
          obtain ⟨iM_71, q_72, q_73, q_74, p0r_70⟩ := hp_71
          have hlr_70_1 : (1 : Int32).toInt = 1 := by decide
          simp only [hlr_70_1] at p0r_70
          obtain ⟨g_75, eg_75⟩ : ∃ z : Nat → Int, z = pp_rf 1 rg := ⟨_, rfl⟩
          rw [← eg_75] at p0r_70
          have lg_75_0 : g_75 0 = (tI M_71 2 4).toInt := p0r_70.2.1.1
          have lg_75_1 : g_75 1 = (tI M_71 2 6).toInt := p0r_70.2.1.2.1
          have lg_75_4 : g_75 4 = (tI M_71 1 4).toInt := p0r_70.2.2.1.1
          have lg_75_7 : g_75 7 = (tI M_71 t 4).toInt := p0r_70.2.2.2.1.1
          have lg_75_8 : g_75 8 = (tI M_71 t 5).toInt := p0r_70.2.2.2.1.2.1
          exact hQ _ _ _ _ _ hw (⟨iM_71, (q_72), (f0_12 q_73), (q_74), (ot_12 ht q_73), (by rw [pe_1, if_neg (by omega)]; unfold pp_p0; rw [if_neg (by omega), if_neg (fun q => by omega), ← eg_75]; exact p0r_70)⟩) dX4_readPart_144
        · refine lv_aload_n hx hb dX4_readPart_123 rfl (lv_at hl 1 rfl) ?_
          refine ti_get (ci := 4) (k := 2) (N := 6) (T := TX4) (v := .ref (A lw 0)) C hw iw_4 rfl ob_1 (by decide) (by decide) fl_X4_154 rfl (ti_Tv (hL)) dX4_readPart_124 ?_
          refine lv_iload_n hx hb dX4_readPart_127 rfl (lv_at hl 0 rfl) ?_
          refine lv_ineg hx hb dX4_readPart_128 ?_
          refine lv_topi (fun x_52 ex_52 => ?_)
          have tx_52 : x_52.toInt = -x_1.toInt := i_neg ex_52 rfl (by omega)
          refine ti_callVv (ci := 1) (av := [.int x_52]) C hw (x_X1_add l D A cy hJ M hI lw hlw x_52 (by first | omega | exact Or.inl (by decide) | exact Or.inr (by decide)) t ht B n rg hr) ⟨ml_X4_170, ym_X1_add, yv_X1_add, yi_X1_add, yc_X1_add⟩ yd_X1_add hlw (by decide) rfl rfl hl.1 (Nat.le_of_ble_eq_true rfl) ⟨by decide, by decide⟩ ⟨Nat.zero_le _, Nat.zero_le _⟩ dX4_readPart_129 (fun M_54 H locs hp_54 hw => ?_)
          obtain ⟨iM_54, q_55, q_56, p0r_53⟩ := hp_54
          have lM_54_0 : rg 0 = (tI M_54 2 4).toInt := p0r_53.2.1.1
          have lM_54_1 : rg 1 = (tI M_54 2 6).toInt := p0r_53.2.1.2.1
          have lM_54_4 : rg 4 = (tI M_54 1 4).toInt := p0r_53.2.2.1.1
          have lM_54_7 : rg 7 = (tI M_54 t 4).toInt := p0r_53.2.2.2.1.1
          have lM_54_8 : rg 8 = (tI M_54 t 5).toInt := p0r_53.2.2.2.1.2.1
          refine lv_aload_n hx hb dX4_readPart_132 rfl (lv_at hl 1 rfl) ?_
          refine ti_callVvE (ci := 4) (av := []) C hE hw (x_X4_knot l D A cy hJ M_54 iM_54 t ht ((tT_fr q_55).trans hT) B n rg p0r_53) ⟨ml_X4_167, ym_X4_knot, yv_X4_knot, yi_X4_knot, yc_X4_knot⟩ yd_X4_knot ob_1 (by decide) rfl rfl hl.1 (Nat.le_of_ble_eq_true rfl) ⟨by decide, by decide⟩ ⟨Nat.zero_le _, Nat.zero_le _⟩ dX4_readPart_133 (fun M_58 H locs hp_58 hw => ?_)
          obtain ⟨iM_58, q_59, q_60, q_61, q_62, p0r_57⟩ := hp_58
          obtain ⟨g_63, eg_63⟩ : ∃ z : Nat → Int, z = pp_kn B n rg := ⟨_, rfl⟩
          rw [← eg_63] at p0r_57
          have lg_63_0 : g_63 0 = (tI M_58 2 4).toInt := p0r_57.2.1.1
          have lg_63_1 : g_63 1 = (tI M_58 2 6).toInt := p0r_57.2.1.2.1
          have lg_63_4 : g_63 4 = (tI M_58 1 4).toInt := p0r_57.2.2.1.1
          have lg_63_7 : g_63 7 = (tI M_58 t 4).toInt := p0r_57.2.2.2.1.1
          have lg_63_8 : g_63 8 = (tI M_58 t 5).toInt := p0r_57.2.2.2.1.2.1
          refine lv_goto (tgt := 144) hx hb dX4_readPart_136 (by decide) ?_
          exact hQ _ _ _ _ _ hw (⟨iM_58, ((q_59).trans q_55), (f0.trans q_60 (f0_x q_56)), ((q_61).trans ((q_56 1).2.1)), (ot.trans q_62 (ot_fx ht q_56)), (by rw [pe_1, if_neg (by omega)]; unfold pp_p0; rw [if_neg (by omega), if_pos ⟨by omega, by omega⟩, ← eg_63]; exact p0r_57)⟩) dX4_readPart_144
    · refine lv_aload_n hx hb dX4_readPart_63 rfl (lv_at hl 1 rfl) ?_
      refine ti_get (ci := 4) (k := 0) (N := 6) (T := TX4) (v := .ref (A 2 0)) C hw iw_4 rfl ob_1 (by decide) (by decide) fl_X4_12 rfl rfl dX4_readPart_64 ?_
      refine ti_get (ci := 7) (k := 6) (N := 7) (T := TX7) C hw iw_7 rfl ob_2 (by decide) (by decide) fl_X4_95 rfl rfl dX4_readPart_67 ?_
      refine lv_topi (fun x_28 ex_28 => ?_)
      have bx_28 : 0 ≤ x_28.toInt ∧ x_28.toInt ≤ 2147483647 := cI_rd hI ob_2.1 ex_28
      have ux_28 : (tI M 2 6).toInt = x_28.toInt := by rw [ex_28]
      refine lv_sipush (v := 9999) hx hb dX4_readPart_70 (by decide) ?_
      refine sb_icmp_le (tgt := 84) hx hb rfl (by decide : (9999 : Int32).toInt = 9999) dX4_readPart_73 (by decide) (fun c_73_28 => ?_) (fun c_73_28 => ?_)
      · refine lv_iload_n hx hb dX4_readPart_84 rfl (lv_at hl 0 rfl) ?_
        refine lv_bipush (v := 26) hx hb dX4_readPart_85 (by decide) ?_
        refine sb_icmp_ne (tgt := 111) hx hb rfl (by decide : (26 : Int32).toInt = 26) dX4_readPart_87 (by decide) (fun h => by omega) (fun c_87_36 => ?_)
        refine lv_aload_n hx hb dX4_readPart_90 rfl (lv_at hl 1 rfl) ?_
        refine ti_get (ci := 4) (k := 2) (N := 6) (T := TX4) (v := .ref (A lw 0)) C hw iw_4 rfl ob_1 (by decide) (by decide) fl_X4_154 rfl (ti_Tv (hL)) dX4_readPart_91 ?_
        refine lv_aload_n hx hb dX4_readPart_94 rfl (lv_at hl 1 rfl) ?_
        refine ti_get (ci := 4) (k := 0) (N := 6) (T := TX4) (v := .ref (A 2 0)) C hw iw_4 rfl ob_1 (by decide) (by decide) fl_X4_12 rfl rfl dX4_readPart_95 ?_
        refine ti_get (ci := 7) (k := 6) (N := 7) (T := TX7) C hw iw_7 rfl ob_2 (by decide) (by decide) fl_X4_95 rfl rfl dX4_readPart_98 ?_
        refine ti_top (y := x_28) (ex_28.symm) ?_
        have u_38 : (tI M 2 6).toInt = (x_28 : Int32).toInt := by rw [(ex_28.symm)]
        refine ti_callVv (ci := 1) (av := [.int x_28]) C hw (x_X1_add l D A cy hJ M hI lw hlw x_28 (by first | omega | exact Or.inl (by decide) | exact Or.inr (by decide)) t ht B n rg hr) ⟨ml_X4_170, ym_X1_add, yv_X1_add, yi_X1_add, yc_X1_add⟩ yd_X1_add hlw (by decide) rfl rfl hl.1 (Nat.le_of_ble_eq_true rfl) ⟨by decide, by decide⟩ ⟨Nat.zero_le _, Nat.zero_le _⟩ dX4_readPart_101 (fun M_40 H locs hp_40 hw => ?_)
        obtain ⟨iM_40, q_41, q_42, p0r_39⟩ := hp_40
        have lM_40_0 : rg 0 = (tI M_40 2 4).toInt := p0r_39.2.1.1
        have lM_40_1 : rg 1 = (tI M_40 2 6).toInt := p0r_39.2.1.2.1
        have lM_40_4 : rg 4 = (tI M_40 1 4).toInt := p0r_39.2.2.1.1
        have lM_40_7 : rg 7 = (tI M_40 t 4).toInt := p0r_39.2.2.2.1.1
        have lM_40_8 : rg 8 = (tI M_40 t 5).toInt := p0r_39.2.2.2.1.2.1
        refine lv_aload_n hx hb dX4_readPart_104 rfl (lv_at hl 1 rfl) ?_
        refine ti_callVvE (ci := 4) (av := []) C hE hw (x_X4_knot l D A cy hJ M_40 iM_40 t ht ((tT_fr q_41).trans hT) B n rg p0r_39) ⟨ml_X4_167, ym_X4_knot, yv_X4_knot, yi_X4_knot, yc_X4_knot⟩ yd_X4_knot ob_1 (by decide) rfl rfl hl.1 (Nat.le_of_ble_eq_true rfl) ⟨by decide, by decide⟩ ⟨Nat.zero_le _, Nat.zero_le _⟩ dX4_readPart_105 (fun M_44 H locs hp_44 hw => ?_)
        obtain ⟨iM_44, q_45, q_46, q_47, q_48, p0r_43⟩ := hp_44
        obtain ⟨g_49, eg_49⟩ : ∃ z : Nat → Int, z = pp_kn B n rg := ⟨_, rfl⟩
        rw [← eg_49] at p0r_43
        have lg_49_0 : g_49 0 = (tI M_44 2 4).toInt := p0r_43.2.1.1
        have lg_49_1 : g_49 1 = (tI M_44 2 6).toInt := p0r_43.2.1.2.1
        have lg_49_4 : g_49 4 = (tI M_44 1 4).toInt := p0r_43.2.2.1.1
        have lg_49_7 : g_49 7 = (tI M_44 t 4).toInt := p0r_43.2.2.2.1.1
        have lg_49_8 : g_49 8 = (tI M_44 t 5).toInt := p0r_43.2.2.2.1.2.1
        refine lv_goto (tgt := 144) hx hb dX4_readPart_108 (by decide) ?_
        exact hQ _ _ _ _ _ hw (⟨iM_44, ((q_45).trans q_41), (f0.trans q_46 (f0_x q_42)), ((q_47).trans ((q_42 1).2.1)), (ot.trans q_48 (ot_fx ht q_42)), (by rw [pe_1, if_neg (by omega)]; unfold pp_p0; rw [if_pos (by omega), if_neg (by omega), ← eg_49]; exact p0r_43)⟩) dX4_readPart_144
      · refine lv_aload_n hx hb dX4_readPart_76 rfl (lv_at hl 1 rfl) ?_
        refine lv_iconst (v := 2) hx hb dX4_readPart_77 (by decide) ?_
        refine ti_callVv (ci := 4) (av := [.int 2]) C hw (x_X4_refuse l D A cy hJ M hI t ht 2 B n rg hr) ⟨ml_X4_82, ym_X4_refuse, yv_X4_refuse, yi_X4_refuse, yc_X4_refuse⟩ yd_X4_refuse ob_1 (by decide) rfl rfl hl.1 (Nat.le_of_ble_eq_true rfl) ⟨by decide, by decide⟩ ⟨Nat.zero_le _, Nat.zero_le _⟩ dX4_readPart_78 (fun M_31 H locs hp_31 hw => ?_)
        obtain ⟨iM_31, q_32, q_33, q_34, p0r_30⟩ := hp_31
        have hlr_30_2 : (2 : Int32).toInt = 2 := by decide
        simp only [hlr_30_2] at p0r_30
        obtain ⟨g_35, eg_35⟩ : ∃ z : Nat → Int, z = pp_rf 2 rg := ⟨_, rfl⟩
        rw [← eg_35] at p0r_30
        have lg_35_0 : g_35 0 = (tI M_31 2 4).toInt := p0r_30.2.1.1
        have lg_35_1 : g_35 1 = (tI M_31 2 6).toInt := p0r_30.2.1.2.1
        have lg_35_4 : g_35 4 = (tI M_31 1 4).toInt := p0r_30.2.2.1.1
        have lg_35_7 : g_35 7 = (tI M_31 t 4).toInt := p0r_30.2.2.2.1.1
        have lg_35_8 : g_35 8 = (tI M_31 t 5).toInt := p0r_30.2.2.2.1.2.1
        refine lv_goto (tgt := 144) hx hb dX4_readPart_81 (by decide) ?_
        exact hQ _ _ _ _ _ hw (⟨iM_31, (q_32), (f0_12 q_33), (q_34), (ot_12 ht q_33), (by rw [pe_1, if_neg (by omega)]; unfold pp_p0; rw [if_pos (by omega), if_pos (by omega), ← eg_35]; exact p0r_30)⟩) dX4_readPart_144
  · refine lv_iload_n hx hb dX4_readPart_14 rfl (lv_at hl 2 rfl) ?_
    refine lv_bipush (v := 8) hx hb dX4_readPart_15 (by decide) ?_
    refine sb_icmp_lt (tgt := 28) hx hb (by decide : (7 : Int32).toInt = 7) (by decide : (8 : Int32).toInt = 8) dX4_readPart_17 (by decide) (fun c_17_2 => ?_) (fun h => absurd h (by decide))
    refine lv_iload_n hx hb dX4_readPart_28 rfl (lv_at hl 0 rfl) ?_
    refine lv_bipush (v := 30) hx hb dX4_readPart_29 (by decide) ?_
    refine sb_icmp_ne (tgt := 57) hx hb rfl (by decide : (30 : Int32).toInt = 30) dX4_readPart_31 (by decide) (fun h => by omega) (fun c_31_4 => ?_)
    refine lv_aload_n hx hb dX4_readPart_34 rfl (lv_at hl 1 rfl) ?_
    refine ti_get (ci := 4) (k := 0) (N := 6) (T := TX4) (v := .ref (A 2 0)) C hw iw_4 rfl ob_1 (by decide) (by decide) fl_X4_12 rfl rfl dX4_readPart_35 ?_
    refine ti_callVvE (ci := 7) (av := []) C hE hw (x_X7_advance l D A cy hJ M hI ) ⟨ml_X4_92, ym_X7_advance, yv_X7_advance, yi_X7_advance, yc_X7_advance⟩ yd_X7_advance ob_2 (by decide) rfl rfl hl.1 (Nat.le_of_ble_eq_true rfl) ⟨by decide, by decide⟩ ⟨Nat.zero_le _, Nat.zero_le _⟩ dX4_readPart_38 (fun M_7 H locs hp_7 hw => ?_)
    obtain ⟨iM_7, q_8, q_9, q_10, q_11, p0r_6, p1r_6, p2r_6, p3r_6⟩ := hp_7
    have hs_12 := rC_av ht hr q_11 q_9 p0r_6 p1r_6 p2r_6 p3r_6
    obtain ⟨g_13, eg_13⟩ : ∃ z : Nat → Int, z = pp_av B n rg := ⟨_, rfl⟩
    rw [← eg_13] at hs_12
    have lg_13_0 : g_13 0 = (tI M_7 2 4).toInt := hs_12.2.1.1
    have lg_13_1 : g_13 1 = (tI M_7 2 6).toInt := hs_12.2.1.2.1
    have lg_13_4 : g_13 4 = (tI M_7 1 4).toInt := hs_12.2.2.1.1
    have lg_13_7 : g_13 7 = (tI M_7 t 4).toInt := hs_12.2.2.2.1.1
    have lg_13_8 : g_13 8 = (tI M_7 t 5).toInt := hs_12.2.2.2.1.2.1
    refine lv_aload_n hx hb dX4_readPart_41 rfl (lv_at hl 1 rfl) ?_
    refine lv_iload_n hx hb dX4_readPart_42 rfl (lv_at hl 2 rfl) ?_
    refine lv_iconst (v := 1) hx hb dX4_readPart_43 (by decide) ?_
    refine lv_iadd hx hb dX4_readPart_44 ?_
    refine ti_top (y := 8) (by decide) ?_
    refine ti_callVvE (ci := 4) (av := [.int 8]) C hE hw (x_X4_readEither_8 l D A cy hJ M_7 iM_7 t ht ((tT_fr q_8).trans hT) lw hlw ((tT_fr q_8).trans hL) B n g_13 hs_12) ⟨ml_X4_158, ym_X4_readEither, yv_X4_readEither, yi_X4_readEither, yc_X4_readEither⟩ yd_X4_readEither ob_1 (by decide) rfl rfl hl.1 (Nat.le_of_ble_eq_true rfl) ⟨by decide, by decide⟩ ⟨Nat.zero_le _, Nat.zero_le _⟩ dX4_readPart_45 (fun M_15 H locs hp_15 hw => ?_)
    obtain ⟨iM_15, q_16, q_17, q_18, q_19, p0r_14⟩ := hp_15
    obtain ⟨g_20, eg_20⟩ : ∃ z : Nat → Int, z = pp_ei B n (pp_pt B n 0) g_13 := ⟨_, rfl⟩
    rw [← eg_20] at p0r_14
    have lg_20_0 : g_20 0 = (tI M_15 2 4).toInt := p0r_14.2.1.1
    have lg_20_1 : g_20 1 = (tI M_15 2 6).toInt := p0r_14.2.1.2.1
    have lg_20_4 : g_20 4 = (tI M_15 1 4).toInt := p0r_14.2.2.1.1
    have lg_20_7 : g_20 7 = (tI M_15 t 4).toInt := p0r_14.2.2.2.1.1
    have lg_20_8 : g_20 8 = (tI M_15 t 5).toInt := p0r_14.2.2.2.1.2.1
    refine lv_aload_n hx hb dX4_readPart_48 rfl (lv_at hl 1 rfl) ?_
    refine lv_bipush (v := 31) hx hb dX4_readPart_49 (by decide) ?_
    refine ti_callVvE (ci := 4) (av := [.int 31]) C hE hw (x_X4_take l D A cy hJ M_15 iM_15 t ht 31 B n g_20 p0r_14) ⟨ml_X4_85, ym_X4_take, yv_X4_take, yi_X4_take, yc_X4_take⟩ yd_X4_take ob_1 (by decide) rfl rfl hl.1 (Nat.le_of_ble_eq_true rfl) ⟨by decide, by decide⟩ ⟨Nat.zero_le _, Nat.zero_le _⟩ dX4_readPart_51 (fun M_22 H locs hp_22 hw => ?_)
    obtain ⟨iM_22, q_23, q_24, q_25, p0r_21⟩ := hp_22
    have hlr_21_31 : (31 : Int32).toInt = 31 := by decide
    simp only [hlr_21_31] at p0r_21
    obtain ⟨g_26, eg_26⟩ : ∃ z : Nat → Int, z = pp_tk B n 31 g_20 := ⟨_, rfl⟩
    rw [← eg_26] at p0r_21
    have lg_26_0 : g_26 0 = (tI M_22 2 4).toInt := p0r_21.2.1.1
    have lg_26_1 : g_26 1 = (tI M_22 2 6).toInt := p0r_21.2.1.2.1
    have lg_26_4 : g_26 4 = (tI M_22 1 4).toInt := p0r_21.2.2.1.1
    have lg_26_7 : g_26 7 = (tI M_22 t 4).toInt := p0r_21.2.2.2.1.1
    have lg_26_8 : g_26 8 = (tI M_22 t 5).toInt := p0r_21.2.2.2.1.2.1
    refine lv_goto (tgt := 144) hx hb dX4_readPart_54 (by decide) ?_
    exact hQ _ _ _ _ _ hw (⟨iM_22, ((q_23).trans ((q_16).trans q_8)), (f0.trans (f0_12 q_24) (f0.trans q_17 (f0_12 (o2_12 q_9)))), ((q_25).trans ((q_18).trans q_10)), (ot.trans (ot_12 ht q_24) (ot.trans q_19 (ot_12 ht (o2_12 q_9)))), (by rw [pe_1, if_pos (by omega), ← eg_13, ← eg_20, ← eg_26]; exact p0r_21)⟩) dX4_readPart_144
set_option maxHeartbeats 4000000 in
set_option maxRecDepth 100000 in
theorem x_X4_readProduct_7 (l : Launch) (D : va_G) (A : Nat → Nat → Nat) (cy : Nat → ClassId) (hJ : ti_inj ti_LT A) (M : ti_M) (hI : cI Tc M) (t : Nat) (ht : t = 3 ∨ t = 4) (hT : tT M 1 1 = some t) (lw : Nat) (hlw : ti_ob ti_LT lw 1) (hL : tT M 1 2 = some lw) (B : Nat → Int) (n : Nat) (rg : Nat → Int) (hr : rC B n t rg M) : ti_KvE l yX4_readProduct cX4_readProduct 4 16 ti_LT D A cy M [.ref (A 1 0), .int 7] (fun M2 => cI Tc M2 ∧ M2.2.2.2 = M.2.2.2 ∧ f0 M2 M ∧ tI M2 2 1 = tI M 2 1 ∧ ot t M2 M ∧ rC B n t (pp_pd B n (pp_pt B n 1) rg) M2) := by
  refine ti_eVE yp_X4_readProduct hJ ti_LT_nd (Nat.le_of_ble_eq_true rfl) ?_
  intro p e s m args below meth c Q H0 C hE hQ hw ls hl
  have hx := C.1
  have hb := C.2.1
  have hl : lv_has ls 4 [(0, .ref (A 1 0)), (1, .int 7)] := hl
  have l0 : rg 0 = (tI M 2 4).toInt := hr.2.1.1
  have l1 : rg 1 = (tI M 2 6).toInt := hr.2.1.2.1
  have l2 : rg 2 = (tI M 2 5).toInt := hr.2.1.2.2.1
  have l3 : rg 3 = (tI M 2 3).toInt := hr.2.1.2.2.2
  have l4 : rg 4 = (tI M 1 4).toInt := hr.2.2.1.1
  have l5 : rg 5 = (tI M 1 5).toInt := hr.2.2.1.2.1
  have l7 : rg 7 = (tI M t 4).toInt := hr.2.2.2.1.1
  have l8 : rg 8 = (tI M t 5).toInt := hr.2.2.2.1.2.1
  have l9 : rg 9 = (tI M t 3).toInt := hr.2.2.2.1.2.2
  refine lv_aload_n hx hb dX4_readProduct_0 rfl (lv_at hl 0 rfl) ?_
  refine lv_iload_n hx hb dX4_readProduct_1 rfl (lv_at hl 1 rfl) ?_
  refine ti_callVvE (ci := 4) (av := [.int 7]) C hE hw (x_X4_readPart_7 l D A cy hJ M hI t ht (hT) lw hlw (hL) B n rg hr) ⟨ml_X4_187, ym_X4_readPart, yv_X4_readPart, yi_X4_readPart, yc_X4_readPart⟩ yd_X4_readPart ob_1 (by decide) rfl rfl hl.1 (Nat.le_of_ble_eq_true rfl) ⟨by decide, by decide⟩ ⟨Nat.zero_le _, Nat.zero_le _⟩ dX4_readProduct_2 (fun M_2 H locs hp_2 hw => ?_)
  obtain ⟨iM_2, q_3, q_4, q_5, q_6, p0r_1⟩ := hp_2
  obtain ⟨g_7, eg_7⟩ : ∃ z : Nat → Int, z = pp_pt B n 1 rg := ⟨_, rfl⟩
  rw [← eg_7] at p0r_1
  have lg_7_0 : g_7 0 = (tI M_2 2 4).toInt := p0r_1.2.1.1
  have lg_7_1 : g_7 1 = (tI M_2 2 6).toInt := p0r_1.2.1.2.1
  have lg_7_4 : g_7 4 = (tI M_2 1 4).toInt := p0r_1.2.2.1.1
  have lg_7_7 : g_7 7 = (tI M_2 t 4).toInt := p0r_1.2.2.2.1.1
  have lg_7_8 : g_7 8 = (tI M_2 t 5).toInt := p0r_1.2.2.2.1.2.1
  refine lv_iconst (v := 0) hx hb dX4_readProduct_5 (by decide) ?_
  refine lv_istore_n (lv' := [(2, .int 0), (0, .ref (A 1 0)), (1, .int 7)]) hx hb dX4_readProduct_6 rfl hl (by decide) rfl (fun ls hl => ?_)
  have hl_7_20 : ∀ (n_21 : Nat) (x_8 : Int32) (M_11 : ti_M) (g_18 : Nat → Int) (H : Heap) (locs : List Loc) (ls : Array Slot), (64 - x_8.toInt : Int).toNat < n_21 → (0 ≤ x_8.toInt) → (x_8.toInt ≤ 64) → (cI Tc M_11) → (M_11.2.2.2 = M.2.2.2) → (f0 M_11 M) → (tI M_11 2 1 = tI M 2 1) → (ot t M_11 M) → (tT M_11 1 1 = (some t)) → (tT M_11 1 2 = (some lw)) → (rC B n t g_18 M_11) → (pp_lp pp_qT (fun s => (pp_pt B n 1) (pp_kn B n s)) 64 g_7 = pp_lp pp_qT (fun s => (pp_pt B n 1) (pp_kn B n s)) (64 - (x_8.toInt).toNat) g_18) → ti_H ti_LT D A cy H0 M_11 H locs → lv_has ls 4 [(2, .int x_8), (0, .ref (A 1 0)), (1, .int 7)] → W p l e (ti_rm 16) s m args below meth c H locs 0 0 Q (F0 m 7 ls []) := by
    intro n_21
    induction n_21 with
    | zero => intro x_8 M_11 g_18 H locs ls hf_21; exact absurd hf_21 (Nat.not_lt_zero _)
    | succ n_21 ih_21 =>
      intro x_8 M_11 g_18 H locs ls hf_21 b_9 b_10 iM_11 f_12 f_13 f_14 f_15 f_16 f_17 hs_19 j_20 hw hl
      have lg_18_0 : g_18 0 = (tI M_11 2 4).toInt := hs_19.2.1.1
      have lg_18_1 : g_18 1 = (tI M_11 2 6).toInt := hs_19.2.1.2.1
      have lg_18_4 : g_18 4 = (tI M_11 1 4).toInt := hs_19.2.2.1.1
      have lg_18_7 : g_18 7 = (tI M_11 t 4).toInt := hs_19.2.2.2.1.1
      have lg_18_8 : g_18 8 = (tI M_11 t 5).toInt := hs_19.2.2.2.1.2.1
      refine lv_iload_n hx hb dX4_readProduct_7 rfl (lv_at hl 0 rfl) ?_
      refine lv_bipush (v := 64) hx hb dX4_readProduct_8 (by decide) ?_
      refine sb_icmp_ge (tgt := 69) hx hb rfl (by decide : (64 : Int32).toInt = 64) dX4_readProduct_10 (by decide) (fun c_10_21 => ?_) (fun c_10_21 => ?_)
      · exact hQ _ _ _ _ _ hw (⟨iM_11, (f_12), f_13, (f_14), f_15, (by unfold pp_pd; rw [← eg_7, j_20, lp_end (P := pp_qT) (f := 64 - x_8.toInt.toNat) (s := g_18) (Or.inl (by omega))]; exact hs_19)⟩) dX4_readProduct_69
      · refine lv_aload_n hx hb dX4_readProduct_13 rfl (lv_at hl 1 rfl) ?_
        refine ti_get (ci := 4) (k := 0) (N := 6) (T := TX4) (v := .ref (A 2 0)) C hw iw_4 rfl ob_1 (by decide) (by decide) fl_X4_12 rfl rfl dX4_readProduct_14 ?_
        refine ti_get (ci := 7) (k := 4) (N := 7) (T := TX7) C hw iw_7 rfl ob_2 (by decide) (by decide) fl_X4_41 rfl rfl dX4_readProduct_17 ?_
        refine lv_topi (fun x_23 ex_23 => ?_)
        have bx_23 : 0 ≤ x_23.toInt ∧ x_23.toInt ≤ 41 := cI_rd iM_11 ob_2.1 ex_23
        have ux_23 : (tI M_11 2 4).toInt = x_23.toInt := by rw [ex_23]
        refine lv_bipush (v := 40) hx hb dX4_readProduct_20 (by decide) ?_
        refine sb_icmp_eq (tgt := 37) hx hb rfl (by decide : (40 : Int32).toInt = 40) dX4_readProduct_22 (by decide) (fun c_22_23 => ?_) (fun c_22_23 => ?_)
        · refine lv_aload_n hx hb dX4_readProduct_37 rfl (lv_at hl 1 rfl) ?_
          refine ti_get (ci := 4) (k := 0) (N := 6) (T := TX4) (v := .ref (A 2 0)) C hw iw_4 rfl ob_1 (by decide) (by decide) fl_X4_12 rfl rfl dX4_readProduct_38 ?_
          refine ti_get (ci := 7) (k := 4) (N := 7) (T := TX7) C hw iw_7 rfl ob_2 (by decide) (by decide) fl_X4_41 rfl rfl dX4_readProduct_41 ?_
          refine ti_top (y := x_23) (ex_23.symm) ?_
          have u_27 : (tI M_11 2 4).toInt = (x_23 : Int32).toInt := by rw [(ex_23.symm)]
          refine lv_istore_n (lv' := [(3, .int x_23), (2, .int x_8), (0, .ref (A 1 0)), (1, .int 7)]) hx hb dX4_readProduct_44 rfl hl (by decide) rfl (fun ls hl => ?_)
          refine lv_aload_n hx hb dX4_readProduct_45 rfl (lv_at hl 2 rfl) ?_
          refine ti_callVvE (ci := 4) (av := []) C hE hw (x_X4_knot l D A cy hJ M_11 iM_11 t ht (f_16) B n g_18 hs_19) ⟨ml_X4_167, ym_X4_knot, yv_X4_knot, yi_X4_knot, yc_X4_knot⟩ yd_X4_knot ob_1 (by decide) rfl rfl hl.1 (Nat.le_of_ble_eq_true rfl) ⟨by decide, by decide⟩ ⟨Nat.zero_le _, Nat.zero_le _⟩ dX4_readProduct_46 (fun M_29 H locs hp_29 hw => ?_)
          obtain ⟨iM_29, q_30, q_31, q_32, q_33, p0r_28⟩ := hp_29
          obtain ⟨g_34, eg_34⟩ : ∃ z : Nat → Int, z = pp_kn B n g_18 := ⟨_, rfl⟩
          rw [← eg_34] at p0r_28
          have lg_34_0 : g_34 0 = (tI M_29 2 4).toInt := p0r_28.2.1.1
          have lg_34_1 : g_34 1 = (tI M_29 2 6).toInt := p0r_28.2.1.2.1
          have lg_34_4 : g_34 4 = (tI M_29 1 4).toInt := p0r_28.2.2.1.1
          have lg_34_7 : g_34 7 = (tI M_29 t 4).toInt := p0r_28.2.2.2.1.1
          have lg_34_8 : g_34 8 = (tI M_29 t 5).toInt := p0r_28.2.2.2.1.2.1
          refine lv_aload_n hx hb dX4_readProduct_49 rfl (lv_at hl 2 rfl) ?_
          refine lv_iload_n hx hb dX4_readProduct_50 rfl (lv_at hl 3 rfl) ?_
          refine ti_callVvE (ci := 4) (av := [.int 7]) C hE hw (x_X4_readPart_7 l D A cy hJ M_29 iM_29 t ht ((tT_fr q_30).trans f_16) lw hlw ((tT_fr q_30).trans f_17) B n g_34 p0r_28) ⟨ml_X4_187, ym_X4_readPart, yv_X4_readPart, yi_X4_readPart, yc_X4_readPart⟩ yd_X4_readPart ob_1 (by decide) rfl rfl hl.1 (Nat.le_of_ble_eq_true rfl) ⟨by decide, by decide⟩ ⟨Nat.zero_le _, Nat.zero_le _⟩ dX4_readProduct_51 (fun M_36 H locs hp_36 hw => ?_)
          obtain ⟨iM_36, q_37, q_38, q_39, q_40, p0r_35⟩ := hp_36
          obtain ⟨g_41, eg_41⟩ : ∃ z : Nat → Int, z = pp_pt B n 1 g_34 := ⟨_, rfl⟩
          rw [← eg_41] at p0r_35
          have lg_41_0 : g_41 0 = (tI M_36 2 4).toInt := p0r_35.2.1.1
          have lg_41_1 : g_41 1 = (tI M_36 2 6).toInt := p0r_35.2.1.2.1
          have lg_41_4 : g_41 4 = (tI M_36 1 4).toInt := p0r_35.2.2.1.1
          have lg_41_7 : g_41 7 = (tI M_36 t 4).toInt := p0r_35.2.2.2.1.1
          have lg_41_8 : g_41 8 = (tI M_36 t 5).toInt := p0r_35.2.2.2.1.2.1
          refine lv_aload_n hx hb dX4_readProduct_54 rfl (lv_at hl 2 rfl) ?_
          refine ti_get (ci := 4) (k := 2) (N := 6) (T := TX4) (v := .ref (A lw 0)) C hw iw_4 rfl ob_1 (by decide) (by decide) fl_X4_154 rfl (ti_Tv ((tT_fr q_37).trans ((tT_fr q_30).trans f_17))) dX4_readProduct_55 ?_
          refine lv_iload_n hx hb dX4_readProduct_58 rfl (lv_at hl 0 rfl) ?_
          refine lv_ineg hx hb dX4_readProduct_59 ?_
          refine lv_topi (fun x_42 ex_42 => ?_)
          have tx_42 : x_42.toInt = -x_23.toInt := i_neg ex_42 rfl (by omega)
          refine ti_callVv (ci := 1) (av := [.int x_42]) C hw (x_X1_add l D A cy hJ M_36 iM_36 lw hlw x_42 (by first | omega | exact Or.inl (by decide) | exact Or.inr (by decide)) t ht B n g_41 p0r_35) ⟨ml_X4_170, ym_X1_add, yv_X1_add, yi_X1_add, yc_X1_add⟩ yd_X1_add hlw (by decide) rfl rfl hl.1 (Nat.le_of_ble_eq_true rfl) ⟨by decide, by decide⟩ ⟨Nat.zero_le _, Nat.zero_le _⟩ dX4_readProduct_60 (fun M_44 H locs hp_44 hw => ?_)
          obtain ⟨iM_44, q_45, q_46, p0r_43⟩ := hp_44
          have lM_44_0 : g_41 0 = (tI M_44 2 4).toInt := p0r_43.2.1.1
          have lM_44_1 : g_41 1 = (tI M_44 2 6).toInt := p0r_43.2.1.2.1
          have lM_44_4 : g_41 4 = (tI M_44 1 4).toInt := p0r_43.2.2.1.1
          have lM_44_7 : g_41 7 = (tI M_44 t 4).toInt := p0r_43.2.2.2.1.1
          have lM_44_8 : g_41 8 = (tI M_44 t 5).toInt := p0r_43.2.2.2.1.2.1
          obtain ⟨x_47, ex_47⟩ : ∃ z : Int32, z = x_8 + 1 := ⟨_, rfl⟩
          have tx_47 : x_47.toInt = x_8.toInt + 1 := i_add ex_47 rfl (by decide) (by omega) (by omega)
          refine lv_iinc (v := x_47) (lv' := [(2, .int x_47), (3, .int x_23), (0, .ref (A 1 0)), (1, .int 7)]) hx hb dX4_readProduct_63 hl (k := 1) rfl (by rw [ex_47]; rfl) (by decide) rfl (fun ls hl => ?_)
          refine lv_goto (tgt := 7) hx hb dX4_readProduct_66 (by decide) ?_
          exact ih_21 x_47 M_44 g_41 _ _ _ (by omega) (by first | omega | decide) (by first | omega | decide) iM_44 ((q_45).trans ((q_37).trans ((q_30).trans f_12))) (f0.trans (f0_x q_46) (f0.trans q_38 (f0.trans q_31 f_13))) (((q_46 1).2.1).trans ((q_39).trans ((q_32).trans f_14))) (ot.trans (ot_fx ht q_46) (ot.trans q_40 (ot.trans q_33 f_15))) ((tT_fr q_45).trans ((tT_fr q_37).trans ((tT_fr q_30).trans f_16))) ((tT_fr q_45).trans ((tT_fr q_37).trans ((tT_fr q_30).trans f_17))) p0r_43 (j_20.trans (lp_step (decide_eq_true (by omega)) (by rw [eg_41, eg_34]) (by omega))) hw (lv_sub hl [0, 2, 3] rfl)
        · refine lv_aload_n hx hb dX4_readProduct_25 rfl (lv_at hl 1 rfl) ?_
          refine ti_get (ci := 4) (k := 0) (N := 6) (T := TX4) (v := .ref (A 2 0)) C hw iw_4 rfl ob_1 (by decide) (by decide) fl_X4_12 rfl rfl dX4_readProduct_26 ?_
          refine ti_get (ci := 7) (k := 4) (N := 7) (T := TX7) C hw iw_7 rfl ob_2 (by decide) (by decide) fl_X4_41 rfl rfl dX4_readProduct_29 ?_
          refine ti_top (y := x_23) (ex_23.symm) ?_
          have u_25 : (tI M_11 2 4).toInt = (x_23 : Int32).toInt := by rw [(ex_23.symm)]
          refine lv_bipush (v := 41) hx hb dX4_readProduct_32 (by decide) ?_
          refine sb_icmp_ne (tgt := 69) hx hb rfl (by decide : (41 : Int32).toInt = 41) dX4_readProduct_34 (by decide) (fun c_34_25 => ?_) (fun c_34_25 => ?_)
          · exact hQ _ _ _ _ _ hw (⟨iM_11, (f_12), f_13, (f_14), f_15, (by unfold pp_pd; rw [← eg_7, j_20, lp_end (P := pp_qT) (f := 64 - x_8.toInt.toNat) (s := g_18) (Or.inr (decide_eq_false (by omega)))]; exact hs_19)⟩) dX4_readProduct_69
          · refine lv_aload_n hx hb dX4_readProduct_37 rfl (lv_at hl 1 rfl) ?_
            refine ti_get (ci := 4) (k := 0) (N := 6) (T := TX4) (v := .ref (A 2 0)) C hw iw_4 rfl ob_1 (by decide) (by decide) fl_X4_12 rfl rfl dX4_readProduct_38 ?_
            refine ti_get (ci := 7) (k := 4) (N := 7) (T := TX7) C hw iw_7 rfl ob_2 (by decide) (by decide) fl_X4_41 rfl rfl dX4_readProduct_41 ?_
            refine ti_top (y := x_23) (ex_23.symm) ?_
            have u_48 : (tI M_11 2 4).toInt = (x_23 : Int32).toInt := by rw [(ex_23.symm)]
            refine lv_istore_n (lv' := [(3, .int x_23), (2, .int x_8), (0, .ref (A 1 0)), (1, .int 7)]) hx hb dX4_readProduct_44 rfl hl (by decide) rfl (fun ls hl => ?_)
            refine lv_aload_n hx hb dX4_readProduct_45 rfl (lv_at hl 2 rfl) ?_
            refine ti_callVvE (ci := 4) (av := []) C hE hw (x_X4_knot l D A cy hJ M_11 iM_11 t ht (f_16) B n g_18 hs_19) ⟨ml_X4_167, ym_X4_knot, yv_X4_knot, yi_X4_knot, yc_X4_knot⟩ yd_X4_knot ob_1 (by decide) rfl rfl hl.1 (Nat.le_of_ble_eq_true rfl) ⟨by decide, by decide⟩ ⟨Nat.zero_le _, Nat.zero_le _⟩ dX4_readProduct_46 (fun M_50 H locs hp_50 hw => ?_)
            obtain ⟨iM_50, q_51, q_52, q_53, q_54, p0r_49⟩ := hp_50
            obtain ⟨g_55, eg_55⟩ : ∃ z : Nat → Int, z = pp_kn B n g_18 := ⟨_, rfl⟩
            rw [← eg_55] at p0r_49
            have lg_55_0 : g_55 0 = (tI M_50 2 4).toInt := p0r_49.2.1.1
            have lg_55_1 : g_55 1 = (tI M_50 2 6).toInt := p0r_49.2.1.2.1
            have lg_55_4 : g_55 4 = (tI M_50 1 4).toInt := p0r_49.2.2.1.1
            have lg_55_7 : g_55 7 = (tI M_50 t 4).toInt := p0r_49.2.2.2.1.1
            have lg_55_8 : g_55 8 = (tI M_50 t 5).toInt := p0r_49.2.2.2.1.2.1
            refine lv_aload_n hx hb dX4_readProduct_49 rfl (lv_at hl 2 rfl) ?_
            refine lv_iload_n hx hb dX4_readProduct_50 rfl (lv_at hl 3 rfl) ?_
            refine ti_callVvE (ci := 4) (av := [.int 7]) C hE hw (x_X4_readPart_7 l D A cy hJ M_50 iM_50 t ht ((tT_fr q_51).trans f_16) lw hlw ((tT_fr q_51).trans f_17) B n g_55 p0r_49) ⟨ml_X4_187, ym_X4_readPart, yv_X4_readPart, yi_X4_readPart, yc_X4_readPart⟩ yd_X4_readPart ob_1 (by decide) rfl rfl hl.1 (Nat.le_of_ble_eq_true rfl) ⟨by decide, by decide⟩ ⟨Nat.zero_le _, Nat.zero_le _⟩ dX4_readProduct_51 (fun M_57 H locs hp_57 hw => ?_)
            obtain ⟨iM_57, q_58, q_59, q_60, q_61, p0r_56⟩ := hp_57
            obtain ⟨g_62, eg_62⟩ : ∃ z : Nat → Int, z = pp_pt B n 1 g_55 := ⟨_, rfl⟩
            rw [← eg_62] at p0r_56
            have lg_62_0 : g_62 0 = (tI M_57 2 4).toInt := p0r_56.2.1.1
            have lg_62_1 : g_62 1 = (tI M_57 2 6).toInt := p0r_56.2.1.2.1
            have lg_62_4 : g_62 4 = (tI M_57 1 4).toInt := p0r_56.2.2.1.1
            have lg_62_7 : g_62 7 = (tI M_57 t 4).toInt := p0r_56.2.2.2.1.1
            have lg_62_8 : g_62 8 = (tI M_57 t 5).toInt := p0r_56.2.2.2.1.2.1
            refine lv_aload_n hx hb dX4_readProduct_54 rfl (lv_at hl 2 rfl) ?_
            refine ti_get (ci := 4) (k := 2) (N := 6) (T := TX4) (v := .ref (A lw 0)) C hw iw_4 rfl ob_1 (by decide) (by decide) fl_X4_154 rfl (ti_Tv ((tT_fr q_58).trans ((tT_fr q_51).trans f_17))) dX4_readProduct_55 ?_
            refine lv_iload_n hx hb dX4_readProduct_58 rfl (lv_at hl 0 rfl) ?_
            refine lv_ineg hx hb dX4_readProduct_59 ?_
            refine lv_topi (fun x_63 ex_63 => ?_)
            have tx_63 : x_63.toInt = -x_23.toInt := i_neg ex_63 rfl (by omega)
            refine ti_callVv (ci := 1) (av := [.int x_63]) C hw (x_X1_add l D A cy hJ M_57 iM_57 lw hlw x_63 (by first | omega | exact Or.inl (by decide) | exact Or.inr (by decide)) t ht B n g_62 p0r_56) ⟨ml_X4_170, ym_X1_add, yv_X1_add, yi_X1_add, yc_X1_add⟩ yd_X1_add hlw (by decide) rfl rfl hl.1 (Nat.le_of_ble_eq_true rfl) ⟨by decide, by decide⟩ ⟨Nat.zero_le _, Nat.zero_le _⟩ dX4_readProduct_60 (fun M_65 H locs hp_65 hw => ?_)
            obtain ⟨iM_65, q_66, q_67, p0r_64⟩ := hp_65
            have lM_65_0 : g_62 0 = (tI M_65 2 4).toInt := p0r_64.2.1.1
            have lM_65_1 : g_62 1 = (tI M_65 2 6).toInt := p0r_64.2.1.2.1
            have lM_65_4 : g_62 4 = (tI M_65 1 4).toInt := p0r_64.2.2.1.1
            have lM_65_7 : g_62 7 = (tI M_65 t 4).toInt := p0r_64.2.2.2.1.1
            have lM_65_8 : g_62 8 = (tI M_65 t 5).toInt := p0r_64.2.2.2.1.2.1
            obtain ⟨x_68, ex_68⟩ : ∃ z : Int32, z = x_8 + 1 := ⟨_, rfl⟩
            have tx_68 : x_68.toInt = x_8.toInt + 1 := i_add ex_68 rfl (by decide) (by omega) (by omega)
            refine lv_iinc (v := x_68) (lv' := [(2, .int x_68), (3, .int x_23), (0, .ref (A 1 0)), (1, .int 7)]) hx hb dX4_readProduct_63 hl (k := 1) rfl (by rw [ex_68]; rfl) (by decide) rfl (fun ls hl => ?_)
            refine lv_goto (tgt := 7) hx hb dX4_readProduct_66 (by decide) ?_
            exact ih_21 x_68 M_65 g_62 _ _ _ (by omega) (by first | omega | decide) (by first | omega | decide) iM_65 ((q_66).trans ((q_58).trans ((q_51).trans f_12))) (f0.trans (f0_x q_67) (f0.trans q_59 (f0.trans q_52 f_13))) (((q_67 1).2.1).trans ((q_60).trans ((q_53).trans f_14))) (ot.trans (ot_fx ht q_67) (ot.trans q_61 (ot.trans q_54 f_15))) ((tT_fr q_66).trans ((tT_fr q_58).trans ((tT_fr q_51).trans f_16))) ((tT_fr q_66).trans ((tT_fr q_58).trans ((tT_fr q_51).trans f_17))) p0r_64 (j_20.trans (lp_step (decide_eq_true (by omega)) (by rw [eg_62, eg_55]) (by omega))) hw (lv_sub hl [0, 2, 3] rfl)
  exact hl_7_20 ((64 - 0 : Int).toNat + 1) 0 M_2 g_7 _ _ _ (Nat.lt_succ_self _) (by have lt0 : (0 : Int32).toInt = 0 := (by decide); first | omega | decide) (by have lt0 : (0 : Int32).toInt = 0 := (by decide); first | omega | decide) iM_2 (q_3) q_4 (q_5) q_6 ((tT_fr q_3).trans hT) ((tT_fr q_3).trans hL) p0r_1 rfl hw (lv_sub hl [0, 1, 2] rfl)
set_option maxHeartbeats 4000000 in
set_option maxRecDepth 100000 in
theorem x_X4_readSum_7 (l : Launch) (D : va_G) (A : Nat → Nat → Nat) (cy : Nat → ClassId) (hJ : ti_inj ti_LT A) (M : ti_M) (hI : cI Tc M) (t : Nat) (ht : t = 3 ∨ t = 4) (hT : tT M 1 1 = some t) (lw : Nat) (hlw : ti_ob ti_LT lw 1) (hL : tT M 1 2 = some lw) (B : Nat → Int) (n : Nat) (rg : Nat → Int) (hr : rC B n t rg M) : ti_KvE l yX4_readSum cX4_readSum 4 17 ti_LT D A cy M [.ref (A 1 0), .int 7] (fun M2 => cI Tc M2 ∧ M2.2.2.2 = M.2.2.2 ∧ f0 M2 M ∧ tI M2 2 1 = tI M 2 1 ∧ ot t M2 M ∧ rC B n t (pp_sm B n (pp_pt B n 1) rg) M2) := by
  refine ti_eVE yp_X4_readSum hJ ti_LT_nd (Nat.le_of_ble_eq_true rfl) ?_
  intro p e s m args below meth c Q H0 C hE hQ hw ls hl
  have hx := C.1
  have hb := C.2.1
  have hl : lv_has ls 4 [(0, .ref (A 1 0)), (1, .int 7)] := hl
  have l0 : rg 0 = (tI M 2 4).toInt := hr.2.1.1
  have l1 : rg 1 = (tI M 2 6).toInt := hr.2.1.2.1
  have l2 : rg 2 = (tI M 2 5).toInt := hr.2.1.2.2.1
  have l3 : rg 3 = (tI M 2 3).toInt := hr.2.1.2.2.2
  have l4 : rg 4 = (tI M 1 4).toInt := hr.2.2.1.1
  have l5 : rg 5 = (tI M 1 5).toInt := hr.2.2.1.2.1
  have l7 : rg 7 = (tI M t 4).toInt := hr.2.2.2.1.1
  have l8 : rg 8 = (tI M t 5).toInt := hr.2.2.2.1.2.1
  have l9 : rg 9 = (tI M t 3).toInt := hr.2.2.2.1.2.2
  refine lv_aload_n hx hb dX4_readSum_0 rfl (lv_at hl 0 rfl) ?_
  refine lv_iload_n hx hb dX4_readSum_1 rfl (lv_at hl 1 rfl) ?_
  refine ti_callVvE (ci := 4) (av := [.int 7]) C hE hw (x_X4_readProduct_7 l D A cy hJ M hI t ht (hT) lw hlw (hL) B n rg hr) ⟨ml_X4_184, ym_X4_readProduct, yv_X4_readProduct, yi_X4_readProduct, yc_X4_readProduct⟩ yd_X4_readProduct ob_1 (by decide) rfl rfl hl.1 (Nat.le_of_ble_eq_true rfl) ⟨by decide, by decide⟩ ⟨Nat.zero_le _, Nat.zero_le _⟩ dX4_readSum_2 (fun M_2 H locs hp_2 hw => ?_)
  obtain ⟨iM_2, q_3, q_4, q_5, q_6, p0r_1⟩ := hp_2
  obtain ⟨g_7, eg_7⟩ : ∃ z : Nat → Int, z = pp_pd B n (pp_pt B n 1) rg := ⟨_, rfl⟩
  rw [← eg_7] at p0r_1
  have lg_7_0 : g_7 0 = (tI M_2 2 4).toInt := p0r_1.2.1.1
  have lg_7_1 : g_7 1 = (tI M_2 2 6).toInt := p0r_1.2.1.2.1
  have lg_7_4 : g_7 4 = (tI M_2 1 4).toInt := p0r_1.2.2.1.1
  have lg_7_7 : g_7 7 = (tI M_2 t 4).toInt := p0r_1.2.2.2.1.1
  have lg_7_8 : g_7 8 = (tI M_2 t 5).toInt := p0r_1.2.2.2.1.2.1
  refine lv_iconst (v := 0) hx hb dX4_readSum_5 (by decide) ?_
  refine lv_istore_n (lv' := [(2, .int 0), (0, .ref (A 1 0)), (1, .int 7)]) hx hb dX4_readSum_6 rfl hl (by decide) rfl (fun ls hl => ?_)
  have hl_7_20 : ∀ (n_21 : Nat) (x_8 : Int32) (M_11 : ti_M) (g_18 : Nat → Int) (H : Heap) (locs : List Loc) (ls : Array Slot), (64 - x_8.toInt : Int).toNat < n_21 → (0 ≤ x_8.toInt) → (x_8.toInt ≤ 64) → (cI Tc M_11) → (M_11.2.2.2 = M.2.2.2) → (f0 M_11 M) → (tI M_11 2 1 = tI M 2 1) → (ot t M_11 M) → (tT M_11 1 1 = (some t)) → (tT M_11 1 2 = (some lw)) → (rC B n t g_18 M_11) → (pp_lp pp_qP (fun s => pp_pd B n (pp_pt B n 1) (pp_kn B n s)) 64 g_7 = pp_lp pp_qP (fun s => pp_pd B n (pp_pt B n 1) (pp_kn B n s)) (64 - (x_8.toInt).toNat) g_18) → ti_H ti_LT D A cy H0 M_11 H locs → lv_has ls 4 [(2, .int x_8), (0, .ref (A 1 0)), (1, .int 7)] → W p l e (ti_rm 17) s m args below meth c H locs 0 0 Q (F0 m 7 ls []) := by
    intro n_21
    induction n_21 with
    | zero => intro x_8 M_11 g_18 H locs ls hf_21; exact absurd hf_21 (Nat.not_lt_zero _)
    | succ n_21 ih_21 =>
      intro x_8 M_11 g_18 H locs ls hf_21 b_9 b_10 iM_11 f_12 f_13 f_14 f_15 f_16 f_17 hs_19 j_20 hw hl
      have lg_18_0 : g_18 0 = (tI M_11 2 4).toInt := hs_19.2.1.1
      have lg_18_1 : g_18 1 = (tI M_11 2 6).toInt := hs_19.2.1.2.1
      have lg_18_4 : g_18 4 = (tI M_11 1 4).toInt := hs_19.2.2.1.1
      have lg_18_7 : g_18 7 = (tI M_11 t 4).toInt := hs_19.2.2.2.1.1
      have lg_18_8 : g_18 8 = (tI M_11 t 5).toInt := hs_19.2.2.2.1.2.1
      refine lv_iload_n hx hb dX4_readSum_7 rfl (lv_at hl 0 rfl) ?_
      refine lv_bipush (v := 64) hx hb dX4_readSum_8 (by decide) ?_
      refine sb_icmp_ge (tgt := 69) hx hb rfl (by decide : (64 : Int32).toInt = 64) dX4_readSum_10 (by decide) (fun c_10_21 => ?_) (fun c_10_21 => ?_)
      · exact hQ _ _ _ _ _ hw (⟨iM_11, (f_12), f_13, (f_14), f_15, (by unfold pp_sm; rw [← eg_7, j_20, lp_end (P := pp_qP) (f := 64 - x_8.toInt.toNat) (s := g_18) (Or.inl (by omega))]; exact hs_19)⟩) dX4_readSum_69
      · refine lv_aload_n hx hb dX4_readSum_13 rfl (lv_at hl 1 rfl) ?_
        refine ti_get (ci := 4) (k := 0) (N := 6) (T := TX4) (v := .ref (A 2 0)) C hw iw_4 rfl ob_1 (by decide) (by decide) fl_X4_12 rfl rfl dX4_readSum_14 ?_
        refine ti_get (ci := 7) (k := 4) (N := 7) (T := TX7) C hw iw_7 rfl ob_2 (by decide) (by decide) fl_X4_41 rfl rfl dX4_readSum_17 ?_
        refine lv_topi (fun x_23 ex_23 => ?_)
        have bx_23 : 0 ≤ x_23.toInt ∧ x_23.toInt ≤ 41 := cI_rd iM_11 ob_2.1 ex_23
        have ux_23 : (tI M_11 2 4).toInt = x_23.toInt := by rw [ex_23]
        refine lv_bipush (v := 38) hx hb dX4_readSum_20 (by decide) ?_
        refine sb_icmp_eq (tgt := 37) hx hb rfl (by decide : (38 : Int32).toInt = 38) dX4_readSum_22 (by decide) (fun c_22_23 => ?_) (fun c_22_23 => ?_)
        · refine lv_aload_n hx hb dX4_readSum_37 rfl (lv_at hl 1 rfl) ?_
          refine ti_get (ci := 4) (k := 0) (N := 6) (T := TX4) (v := .ref (A 2 0)) C hw iw_4 rfl ob_1 (by decide) (by decide) fl_X4_12 rfl rfl dX4_readSum_38 ?_
          refine ti_get (ci := 7) (k := 4) (N := 7) (T := TX7) C hw iw_7 rfl ob_2 (by decide) (by decide) fl_X4_41 rfl rfl dX4_readSum_41 ?_
          refine ti_top (y := x_23) (ex_23.symm) ?_
          have u_27 : (tI M_11 2 4).toInt = (x_23 : Int32).toInt := by rw [(ex_23.symm)]
          refine lv_istore_n (lv' := [(3, .int x_23), (2, .int x_8), (0, .ref (A 1 0)), (1, .int 7)]) hx hb dX4_readSum_44 rfl hl (by decide) rfl (fun ls hl => ?_)
          refine lv_aload_n hx hb dX4_readSum_45 rfl (lv_at hl 2 rfl) ?_
          refine ti_callVvE (ci := 4) (av := []) C hE hw (x_X4_knot l D A cy hJ M_11 iM_11 t ht (f_16) B n g_18 hs_19) ⟨ml_X4_167, ym_X4_knot, yv_X4_knot, yi_X4_knot, yc_X4_knot⟩ yd_X4_knot ob_1 (by decide) rfl rfl hl.1 (Nat.le_of_ble_eq_true rfl) ⟨by decide, by decide⟩ ⟨Nat.zero_le _, Nat.zero_le _⟩ dX4_readSum_46 (fun M_29 H locs hp_29 hw => ?_)
          obtain ⟨iM_29, q_30, q_31, q_32, q_33, p0r_28⟩ := hp_29
          obtain ⟨g_34, eg_34⟩ : ∃ z : Nat → Int, z = pp_kn B n g_18 := ⟨_, rfl⟩
          rw [← eg_34] at p0r_28
          have lg_34_0 : g_34 0 = (tI M_29 2 4).toInt := p0r_28.2.1.1
          have lg_34_1 : g_34 1 = (tI M_29 2 6).toInt := p0r_28.2.1.2.1
          have lg_34_4 : g_34 4 = (tI M_29 1 4).toInt := p0r_28.2.2.1.1
          have lg_34_7 : g_34 7 = (tI M_29 t 4).toInt := p0r_28.2.2.2.1.1
          have lg_34_8 : g_34 8 = (tI M_29 t 5).toInt := p0r_28.2.2.2.1.2.1
          refine lv_aload_n hx hb dX4_readSum_49 rfl (lv_at hl 2 rfl) ?_
          refine lv_iload_n hx hb dX4_readSum_50 rfl (lv_at hl 3 rfl) ?_
          refine ti_callVvE (ci := 4) (av := [.int 7]) C hE hw (x_X4_readProduct_7 l D A cy hJ M_29 iM_29 t ht ((tT_fr q_30).trans f_16) lw hlw ((tT_fr q_30).trans f_17) B n g_34 p0r_28) ⟨ml_X4_184, ym_X4_readProduct, yv_X4_readProduct, yi_X4_readProduct, yc_X4_readProduct⟩ yd_X4_readProduct ob_1 (by decide) rfl rfl hl.1 (Nat.le_of_ble_eq_true rfl) ⟨by decide, by decide⟩ ⟨Nat.zero_le _, Nat.zero_le _⟩ dX4_readSum_51 (fun M_36 H locs hp_36 hw => ?_)
          obtain ⟨iM_36, q_37, q_38, q_39, q_40, p0r_35⟩ := hp_36
          obtain ⟨g_41, eg_41⟩ : ∃ z : Nat → Int, z = pp_pd B n (pp_pt B n 1) g_34 := ⟨_, rfl⟩
          rw [← eg_41] at p0r_35
          have lg_41_0 : g_41 0 = (tI M_36 2 4).toInt := p0r_35.2.1.1
          have lg_41_1 : g_41 1 = (tI M_36 2 6).toInt := p0r_35.2.1.2.1
          have lg_41_4 : g_41 4 = (tI M_36 1 4).toInt := p0r_35.2.2.1.1
          have lg_41_7 : g_41 7 = (tI M_36 t 4).toInt := p0r_35.2.2.2.1.1
          have lg_41_8 : g_41 8 = (tI M_36 t 5).toInt := p0r_35.2.2.2.1.2.1
          refine lv_aload_n hx hb dX4_readSum_54 rfl (lv_at hl 2 rfl) ?_
          refine ti_get (ci := 4) (k := 2) (N := 6) (T := TX4) (v := .ref (A lw 0)) C hw iw_4 rfl ob_1 (by decide) (by decide) fl_X4_154 rfl (ti_Tv ((tT_fr q_37).trans ((tT_fr q_30).trans f_17))) dX4_readSum_55 ?_
          refine lv_iload_n hx hb dX4_readSum_58 rfl (lv_at hl 0 rfl) ?_
          refine lv_ineg hx hb dX4_readSum_59 ?_
          refine lv_topi (fun x_42 ex_42 => ?_)
          have tx_42 : x_42.toInt = -x_23.toInt := i_neg ex_42 rfl (by omega)
          refine ti_callVv (ci := 1) (av := [.int x_42]) C hw (x_X1_add l D A cy hJ M_36 iM_36 lw hlw x_42 (by first | omega | exact Or.inl (by decide) | exact Or.inr (by decide)) t ht B n g_41 p0r_35) ⟨ml_X4_170, ym_X1_add, yv_X1_add, yi_X1_add, yc_X1_add⟩ yd_X1_add hlw (by decide) rfl rfl hl.1 (Nat.le_of_ble_eq_true rfl) ⟨by decide, by decide⟩ ⟨Nat.zero_le _, Nat.zero_le _⟩ dX4_readSum_60 (fun M_44 H locs hp_44 hw => ?_)
          obtain ⟨iM_44, q_45, q_46, p0r_43⟩ := hp_44
          have lM_44_0 : g_41 0 = (tI M_44 2 4).toInt := p0r_43.2.1.1
          have lM_44_1 : g_41 1 = (tI M_44 2 6).toInt := p0r_43.2.1.2.1
          have lM_44_4 : g_41 4 = (tI M_44 1 4).toInt := p0r_43.2.2.1.1
          have lM_44_7 : g_41 7 = (tI M_44 t 4).toInt := p0r_43.2.2.2.1.1
          have lM_44_8 : g_41 8 = (tI M_44 t 5).toInt := p0r_43.2.2.2.1.2.1
          obtain ⟨x_47, ex_47⟩ : ∃ z : Int32, z = x_8 + 1 := ⟨_, rfl⟩
          have tx_47 : x_47.toInt = x_8.toInt + 1 := i_add ex_47 rfl (by decide) (by omega) (by omega)
          refine lv_iinc (v := x_47) (lv' := [(2, .int x_47), (3, .int x_23), (0, .ref (A 1 0)), (1, .int 7)]) hx hb dX4_readSum_63 hl (k := 1) rfl (by rw [ex_47]; rfl) (by decide) rfl (fun ls hl => ?_)
          refine lv_goto (tgt := 7) hx hb dX4_readSum_66 (by decide) ?_
          exact ih_21 x_47 M_44 g_41 _ _ _ (by omega) (by first | omega | decide) (by first | omega | decide) iM_44 ((q_45).trans ((q_37).trans ((q_30).trans f_12))) (f0.trans (f0_x q_46) (f0.trans q_38 (f0.trans q_31 f_13))) (((q_46 1).2.1).trans ((q_39).trans ((q_32).trans f_14))) (ot.trans (ot_fx ht q_46) (ot.trans q_40 (ot.trans q_33 f_15))) ((tT_fr q_45).trans ((tT_fr q_37).trans ((tT_fr q_30).trans f_16))) ((tT_fr q_45).trans ((tT_fr q_37).trans ((tT_fr q_30).trans f_17))) p0r_43 (j_20.trans (lp_step (decide_eq_true (by omega)) (by rw [eg_41, eg_34]) (by omega))) hw (lv_sub hl [0, 2, 3] rfl)
        · refine lv_aload_n hx hb dX4_readSum_25 rfl (lv_at hl 1 rfl) ?_
          refine ti_get (ci := 4) (k := 0) (N := 6) (T := TX4) (v := .ref (A 2 0)) C hw iw_4 rfl ob_1 (by decide) (by decide) fl_X4_12 rfl rfl dX4_readSum_26 ?_
          refine ti_get (ci := 7) (k := 4) (N := 7) (T := TX7) C hw iw_7 rfl ob_2 (by decide) (by decide) fl_X4_41 rfl rfl dX4_readSum_29 ?_
          refine ti_top (y := x_23) (ex_23.symm) ?_
          have u_25 : (tI M_11 2 4).toInt = (x_23 : Int32).toInt := by rw [(ex_23.symm)]
          refine lv_bipush (v := 39) hx hb dX4_readSum_32 (by decide) ?_
          refine sb_icmp_ne (tgt := 69) hx hb rfl (by decide : (39 : Int32).toInt = 39) dX4_readSum_34 (by decide) (fun c_34_25 => ?_) (fun c_34_25 => ?_)
          · exact hQ _ _ _ _ _ hw (⟨iM_11, (f_12), f_13, (f_14), f_15, (by unfold pp_sm; rw [← eg_7, j_20, lp_end (P := pp_qP) (f := 64 - x_8.toInt.toNat) (s := g_18) (Or.inr (decide_eq_false (by omega)))]; exact hs_19)⟩) dX4_readSum_69
          · refine lv_aload_n hx hb dX4_readSum_37 rfl (lv_at hl 1 rfl) ?_
            refine ti_get (ci := 4) (k := 0) (N := 6) (T := TX4) (v := .ref (A 2 0)) C hw iw_4 rfl ob_1 (by decide) (by decide) fl_X4_12 rfl rfl dX4_readSum_38 ?_
            refine ti_get (ci := 7) (k := 4) (N := 7) (T := TX7) C hw iw_7 rfl ob_2 (by decide) (by decide) fl_X4_41 rfl rfl dX4_readSum_41 ?_
            refine ti_top (y := x_23) (ex_23.symm) ?_
            have u_48 : (tI M_11 2 4).toInt = (x_23 : Int32).toInt := by rw [(ex_23.symm)]
            refine lv_istore_n (lv' := [(3, .int x_23), (2, .int x_8), (0, .ref (A 1 0)), (1, .int 7)]) hx hb dX4_readSum_44 rfl hl (by decide) rfl (fun ls hl => ?_)
            refine lv_aload_n hx hb dX4_readSum_45 rfl (lv_at hl 2 rfl) ?_
            refine ti_callVvE (ci := 4) (av := []) C hE hw (x_X4_knot l D A cy hJ M_11 iM_11 t ht (f_16) B n g_18 hs_19) ⟨ml_X4_167, ym_X4_knot, yv_X4_knot, yi_X4_knot, yc_X4_knot⟩ yd_X4_knot ob_1 (by decide) rfl rfl hl.1 (Nat.le_of_ble_eq_true rfl) ⟨by decide, by decide⟩ ⟨Nat.zero_le _, Nat.zero_le _⟩ dX4_readSum_46 (fun M_50 H locs hp_50 hw => ?_)
            obtain ⟨iM_50, q_51, q_52, q_53, q_54, p0r_49⟩ := hp_50
            obtain ⟨g_55, eg_55⟩ : ∃ z : Nat → Int, z = pp_kn B n g_18 := ⟨_, rfl⟩
            rw [← eg_55] at p0r_49
            have lg_55_0 : g_55 0 = (tI M_50 2 4).toInt := p0r_49.2.1.1
            have lg_55_1 : g_55 1 = (tI M_50 2 6).toInt := p0r_49.2.1.2.1
            have lg_55_4 : g_55 4 = (tI M_50 1 4).toInt := p0r_49.2.2.1.1
            have lg_55_7 : g_55 7 = (tI M_50 t 4).toInt := p0r_49.2.2.2.1.1
            have lg_55_8 : g_55 8 = (tI M_50 t 5).toInt := p0r_49.2.2.2.1.2.1
            refine lv_aload_n hx hb dX4_readSum_49 rfl (lv_at hl 2 rfl) ?_
            refine lv_iload_n hx hb dX4_readSum_50 rfl (lv_at hl 3 rfl) ?_
            refine ti_callVvE (ci := 4) (av := [.int 7]) C hE hw (x_X4_readProduct_7 l D A cy hJ M_50 iM_50 t ht ((tT_fr q_51).trans f_16) lw hlw ((tT_fr q_51).trans f_17) B n g_55 p0r_49) ⟨ml_X4_184, ym_X4_readProduct, yv_X4_readProduct, yi_X4_readProduct, yc_X4_readProduct⟩ yd_X4_readProduct ob_1 (by decide) rfl rfl hl.1 (Nat.le_of_ble_eq_true rfl) ⟨by decide, by decide⟩ ⟨Nat.zero_le _, Nat.zero_le _⟩ dX4_readSum_51 (fun M_57 H locs hp_57 hw => ?_)
            obtain ⟨iM_57, q_58, q_59, q_60, q_61, p0r_56⟩ := hp_57
            obtain ⟨g_62, eg_62⟩ : ∃ z : Nat → Int, z = pp_pd B n (pp_pt B n 1) g_55 := ⟨_, rfl⟩
            rw [← eg_62] at p0r_56
            have lg_62_0 : g_62 0 = (tI M_57 2 4).toInt := p0r_56.2.1.1
            have lg_62_1 : g_62 1 = (tI M_57 2 6).toInt := p0r_56.2.1.2.1
            have lg_62_4 : g_62 4 = (tI M_57 1 4).toInt := p0r_56.2.2.1.1
            have lg_62_7 : g_62 7 = (tI M_57 t 4).toInt := p0r_56.2.2.2.1.1
            have lg_62_8 : g_62 8 = (tI M_57 t 5).toInt := p0r_56.2.2.2.1.2.1
            refine lv_aload_n hx hb dX4_readSum_54 rfl (lv_at hl 2 rfl) ?_
            refine ti_get (ci := 4) (k := 2) (N := 6) (T := TX4) (v := .ref (A lw 0)) C hw iw_4 rfl ob_1 (by decide) (by decide) fl_X4_154 rfl (ti_Tv ((tT_fr q_58).trans ((tT_fr q_51).trans f_17))) dX4_readSum_55 ?_
            refine lv_iload_n hx hb dX4_readSum_58 rfl (lv_at hl 0 rfl) ?_
            refine lv_ineg hx hb dX4_readSum_59 ?_
            refine lv_topi (fun x_63 ex_63 => ?_)
            have tx_63 : x_63.toInt = -x_23.toInt := i_neg ex_63 rfl (by omega)
            refine ti_callVv (ci := 1) (av := [.int x_63]) C hw (x_X1_add l D A cy hJ M_57 iM_57 lw hlw x_63 (by first | omega | exact Or.inl (by decide) | exact Or.inr (by decide)) t ht B n g_62 p0r_56) ⟨ml_X4_170, ym_X1_add, yv_X1_add, yi_X1_add, yc_X1_add⟩ yd_X1_add hlw (by decide) rfl rfl hl.1 (Nat.le_of_ble_eq_true rfl) ⟨by decide, by decide⟩ ⟨Nat.zero_le _, Nat.zero_le _⟩ dX4_readSum_60 (fun M_65 H locs hp_65 hw => ?_)
            obtain ⟨iM_65, q_66, q_67, p0r_64⟩ := hp_65
            have lM_65_0 : g_62 0 = (tI M_65 2 4).toInt := p0r_64.2.1.1
            have lM_65_1 : g_62 1 = (tI M_65 2 6).toInt := p0r_64.2.1.2.1
            have lM_65_4 : g_62 4 = (tI M_65 1 4).toInt := p0r_64.2.2.1.1
            have lM_65_7 : g_62 7 = (tI M_65 t 4).toInt := p0r_64.2.2.2.1.1
            have lM_65_8 : g_62 8 = (tI M_65 t 5).toInt := p0r_64.2.2.2.1.2.1
            obtain ⟨x_68, ex_68⟩ : ∃ z : Int32, z = x_8 + 1 := ⟨_, rfl⟩
            have tx_68 : x_68.toInt = x_8.toInt + 1 := i_add ex_68 rfl (by decide) (by omega) (by omega)
            refine lv_iinc (v := x_68) (lv' := [(2, .int x_68), (3, .int x_23), (0, .ref (A 1 0)), (1, .int 7)]) hx hb dX4_readSum_63 hl (k := 1) rfl (by rw [ex_68]; rfl) (by decide) rfl (fun ls hl => ?_)
            refine lv_goto (tgt := 7) hx hb dX4_readSum_66 (by decide) ?_
            exact ih_21 x_68 M_65 g_62 _ _ _ (by omega) (by first | omega | decide) (by first | omega | decide) iM_65 ((q_66).trans ((q_58).trans ((q_51).trans f_12))) (f0.trans (f0_x q_67) (f0.trans q_59 (f0.trans q_52 f_13))) (((q_67 1).2.1).trans ((q_60).trans ((q_53).trans f_14))) (ot.trans (ot_fx ht q_67) (ot.trans q_61 (ot.trans q_54 f_15))) ((tT_fr q_66).trans ((tT_fr q_58).trans ((tT_fr q_51).trans f_16))) ((tT_fr q_66).trans ((tT_fr q_58).trans ((tT_fr q_51).trans f_17))) p0r_64 (j_20.trans (lp_step (decide_eq_true (by omega)) (by rw [eg_62, eg_55]) (by omega))) hw (lv_sub hl [0, 2, 3] rfl)
  exact hl_7_20 ((64 - 0 : Int).toNat + 1) 0 M_2 g_7 _ _ _ (Nat.lt_succ_self _) (by have lt0 : (0 : Int32).toInt = 0 := (by decide); first | omega | decide) (by have lt0 : (0 : Int32).toInt = 0 := (by decide); first | omega | decide) iM_2 (q_3) q_4 (q_5) q_6 ((tT_fr q_3).trans hT) ((tT_fr q_3).trans hL) p0r_1 rfl hw (lv_sub hl [0, 1, 2] rfl)
set_option maxHeartbeats 4000000 in
set_option maxRecDepth 100000 in
theorem x_X4_readComparison_7 (l : Launch) (D : va_G) (A : Nat → Nat → Nat) (cy : Nat → ClassId) (hJ : ti_inj ti_LT A) (M : ti_M) (hI : cI Tc M) (t : Nat) (ht : t = 3 ∨ t = 4) (hT : tT M 1 1 = some t) (lw : Nat) (hlw : ti_ob ti_LT lw 1) (hL : tT M 1 2 = some lw) (B : Nat → Int) (n : Nat) (rg : Nat → Int) (hr : rC B n t rg M) : ti_KvE l yX4_readComparison cX4_readComparison 3 18 ti_LT D A cy M [.ref (A 1 0), .int 7] (fun M2 => cI Tc M2 ∧ M2.2.2.2 = M.2.2.2 ∧ f0 M2 M ∧ tI M2 2 1 = tI M 2 1 ∧ ot t M2 M ∧ rC B n t (pp_cm B n (pp_pt B n 1) rg) M2) := by
  refine ti_eVE yp_X4_readComparison hJ ti_LT_nd (Nat.le_of_ble_eq_true rfl) ?_
  intro p e s m args below meth c Q H0 C hE hQ hw ls hl
  have hx := C.1
  have hb := C.2.1
  have hl : lv_has ls 3 [(0, .ref (A 1 0)), (1, .int 7)] := hl
  have l0 : rg 0 = (tI M 2 4).toInt := hr.2.1.1
  have l1 : rg 1 = (tI M 2 6).toInt := hr.2.1.2.1
  have l2 : rg 2 = (tI M 2 5).toInt := hr.2.1.2.2.1
  have l3 : rg 3 = (tI M 2 3).toInt := hr.2.1.2.2.2
  have l4 : rg 4 = (tI M 1 4).toInt := hr.2.2.1.1
  have l5 : rg 5 = (tI M 1 5).toInt := hr.2.2.1.2.1
  have l7 : rg 7 = (tI M t 4).toInt := hr.2.2.2.1.1
  have l8 : rg 8 = (tI M t 5).toInt := hr.2.2.2.1.2.1
  have l9 : rg 9 = (tI M t 3).toInt := hr.2.2.2.1.2.2
  refine lv_aload_n hx hb dX4_readComparison_0 rfl (lv_at hl 0 rfl) ?_
  refine lv_iload_n hx hb dX4_readComparison_1 rfl (lv_at hl 1 rfl) ?_
  refine ti_callVvE (ci := 4) (av := [.int 7]) C hE hw (x_X4_readSum_7 l D A cy hJ M hI t ht (hT) lw hlw (hL) B n rg hr) ⟨ml_X4_181, ym_X4_readSum, yv_X4_readSum, yi_X4_readSum, yc_X4_readSum⟩ yd_X4_readSum ob_1 (by decide) rfl rfl hl.1 (Nat.le_of_ble_eq_true rfl) ⟨by decide, by decide⟩ ⟨Nat.zero_le _, Nat.zero_le _⟩ dX4_readComparison_2 (fun M_2 H locs hp_2 hw => ?_)
  obtain ⟨iM_2, q_3, q_4, q_5, q_6, p0r_1⟩ := hp_2
  obtain ⟨g_7, eg_7⟩ : ∃ z : Nat → Int, z = pp_sm B n (pp_pt B n 1) rg := ⟨_, rfl⟩
  rw [← eg_7] at p0r_1
  have lg_7_0 : g_7 0 = (tI M_2 2 4).toInt := p0r_1.2.1.1
  have lg_7_1 : g_7 1 = (tI M_2 2 6).toInt := p0r_1.2.1.2.1
  have lg_7_4 : g_7 4 = (tI M_2 1 4).toInt := p0r_1.2.2.1.1
  have lg_7_7 : g_7 7 = (tI M_2 t 4).toInt := p0r_1.2.2.2.1.1
  have lg_7_8 : g_7 8 = (tI M_2 t 5).toInt := p0r_1.2.2.2.1.2.1
  refine lv_aload_n hx hb dX4_readComparison_5 rfl (lv_at hl 0 rfl) ?_
  refine ti_get (ci := 4) (k := 0) (N := 6) (T := TX4) (v := .ref (A 2 0)) C hw iw_4 rfl ob_1 (by decide) (by decide) fl_X4_12 rfl rfl dX4_readComparison_6 ?_
  refine ti_get (ci := 7) (k := 4) (N := 7) (T := TX7) C hw iw_7 rfl ob_2 (by decide) (by decide) fl_X4_41 rfl rfl dX4_readComparison_9 ?_
  refine lv_topi (fun x_8 ex_8 => ?_)
  have bx_8 : 0 ≤ x_8.toInt ∧ x_8.toInt ≤ 41 := cI_rd iM_2 ob_2.1 ex_8
  have ux_8 : (tI M_2 2 4).toInt = x_8.toInt := by rw [ex_8]
  refine lv_istore_n (lv' := [(2, .int x_8), (0, .ref (A 1 0)), (1, .int 7)]) hx hb dX4_readComparison_12 rfl hl (by decide) rfl (fun ls hl => ?_)
  refine lv_iload_n hx hb dX4_readComparison_13 rfl (lv_at hl 0 rfl) ?_
  refine lv_bipush (v := 32) hx hb dX4_readComparison_14 (by decide) ?_
  refine sb_icmp_lt (tgt := 43) hx hb rfl (by decide : (32 : Int32).toInt = 32) dX4_readComparison_16 (by decide) (fun c_16_8 => ?_) (fun c_16_8 => ?_)
  · exact hQ _ _ _ _ _ hw (⟨iM_2, (q_3), q_4, (q_5), q_6, (by unfold pp_cm; rw [← eg_7]; unfold pp_c2; rw [if_neg (fun q => by omega)]; exact p0r_1)⟩) dX4_readComparison_43
  · refine lv_iload_n hx hb dX4_readComparison_19 rfl (lv_at hl 0 rfl) ?_
    refine lv_bipush (v := 37) hx hb dX4_readComparison_20 (by decide) ?_
    refine sb_icmp_gt (tgt := 43) hx hb rfl (by decide : (37 : Int32).toInt = 37) dX4_readComparison_22 (by decide) (fun c_22_9 => ?_) (fun c_22_9 => ?_)
    · exact hQ _ _ _ _ _ hw (⟨iM_2, (q_3), q_4, (q_5), q_6, (by unfold pp_cm; rw [← eg_7]; unfold pp_c2; rw [if_neg (fun q => by omega)]; exact p0r_1)⟩) dX4_readComparison_43
    · refine lv_aload_n hx hb dX4_readComparison_25 rfl (lv_at hl 1 rfl) ?_
      refine ti_callVvE (ci := 4) (av := []) C hE hw (x_X4_knot l D A cy hJ M_2 iM_2 t ht ((tT_fr q_3).trans hT) B n g_7 p0r_1) ⟨ml_X4_167, ym_X4_knot, yv_X4_knot, yi_X4_knot, yc_X4_knot⟩ yd_X4_knot ob_1 (by decide) rfl rfl hl.1 (Nat.le_of_ble_eq_true rfl) ⟨by decide, by decide⟩ ⟨Nat.zero_le _, Nat.zero_le _⟩ dX4_readComparison_26 (fun M_12 H locs hp_12 hw => ?_)
      obtain ⟨iM_12, q_13, q_14, q_15, q_16, p0r_11⟩ := hp_12
      obtain ⟨g_17, eg_17⟩ : ∃ z : Nat → Int, z = pp_kn B n g_7 := ⟨_, rfl⟩
      rw [← eg_17] at p0r_11
      have lg_17_0 : g_17 0 = (tI M_12 2 4).toInt := p0r_11.2.1.1
      have lg_17_1 : g_17 1 = (tI M_12 2 6).toInt := p0r_11.2.1.2.1
      have lg_17_4 : g_17 4 = (tI M_12 1 4).toInt := p0r_11.2.2.1.1
      have lg_17_7 : g_17 7 = (tI M_12 t 4).toInt := p0r_11.2.2.2.1.1
      have lg_17_8 : g_17 8 = (tI M_12 t 5).toInt := p0r_11.2.2.2.1.2.1
      refine lv_aload_n hx hb dX4_readComparison_29 rfl (lv_at hl 1 rfl) ?_
      refine lv_iload_n hx hb dX4_readComparison_30 rfl (lv_at hl 2 rfl) ?_
      refine ti_callVvE (ci := 4) (av := [.int 7]) C hE hw (x_X4_readSum_7 l D A cy hJ M_12 iM_12 t ht ((tT_fr q_13).trans ((tT_fr q_3).trans hT)) lw hlw ((tT_fr q_13).trans ((tT_fr q_3).trans hL)) B n g_17 p0r_11) ⟨ml_X4_181, ym_X4_readSum, yv_X4_readSum, yi_X4_readSum, yc_X4_readSum⟩ yd_X4_readSum ob_1 (by decide) rfl rfl hl.1 (Nat.le_of_ble_eq_true rfl) ⟨by decide, by decide⟩ ⟨Nat.zero_le _, Nat.zero_le _⟩ dX4_readComparison_31 (fun M_19 H locs hp_19 hw => ?_)
      obtain ⟨iM_19, q_20, q_21, q_22, q_23, p0r_18⟩ := hp_19
      obtain ⟨g_24, eg_24⟩ : ∃ z : Nat → Int, z = pp_sm B n (pp_pt B n 1) g_17 := ⟨_, rfl⟩
      rw [← eg_24] at p0r_18
      have lg_24_0 : g_24 0 = (tI M_19 2 4).toInt := p0r_18.2.1.1
      have lg_24_1 : g_24 1 = (tI M_19 2 6).toInt := p0r_18.2.1.2.1
      have lg_24_4 : g_24 4 = (tI M_19 1 4).toInt := p0r_18.2.2.1.1
      have lg_24_7 : g_24 7 = (tI M_19 t 4).toInt := p0r_18.2.2.2.1.1
      have lg_24_8 : g_24 8 = (tI M_19 t 5).toInt := p0r_18.2.2.2.1.2.1
      refine lv_aload_n hx hb dX4_readComparison_34 rfl (lv_at hl 1 rfl) ?_
      refine ti_get (ci := 4) (k := 2) (N := 6) (T := TX4) (v := .ref (A lw 0)) C hw iw_4 rfl ob_1 (by decide) (by decide) fl_X4_154 rfl (ti_Tv ((tT_fr q_20).trans ((tT_fr q_13).trans ((tT_fr q_3).trans hL)))) dX4_readComparison_35 ?_
      refine lv_iload_n hx hb dX4_readComparison_38 rfl (lv_at hl 0 rfl) ?_
      refine lv_ineg hx hb dX4_readComparison_39 ?_
      refine lv_topi (fun x_25 ex_25 => ?_)
      have tx_25 : x_25.toInt = -x_8.toInt := i_neg ex_25 rfl (by omega)
      refine ti_callVv (ci := 1) (av := [.int x_25]) C hw (x_X1_add l D A cy hJ M_19 iM_19 lw hlw x_25 (by first | omega | exact Or.inl (by decide) | exact Or.inr (by decide)) t ht B n g_24 p0r_18) ⟨ml_X4_170, ym_X1_add, yv_X1_add, yi_X1_add, yc_X1_add⟩ yd_X1_add hlw (by decide) rfl rfl hl.1 (Nat.le_of_ble_eq_true rfl) ⟨by decide, by decide⟩ ⟨Nat.zero_le _, Nat.zero_le _⟩ dX4_readComparison_40 (fun M_27 H locs hp_27 hw => ?_)
      obtain ⟨iM_27, q_28, q_29, p0r_26⟩ := hp_27
      have lM_27_0 : g_24 0 = (tI M_27 2 4).toInt := p0r_26.2.1.1
      have lM_27_1 : g_24 1 = (tI M_27 2 6).toInt := p0r_26.2.1.2.1
      have lM_27_4 : g_24 4 = (tI M_27 1 4).toInt := p0r_26.2.2.1.1
      have lM_27_7 : g_24 7 = (tI M_27 t 4).toInt := p0r_26.2.2.2.1.1
      have lM_27_8 : g_24 8 = (tI M_27 t 5).toInt := p0r_26.2.2.2.1.2.1
      exact hQ _ _ _ _ _ hw (⟨iM_27, ((q_28).trans ((q_20).trans ((q_13).trans q_3))), (f0.trans (f0_x q_29) (f0.trans q_21 (f0.trans q_14 q_4))), (((q_29 1).2.1).trans ((q_22).trans ((q_15).trans q_5))), (ot.trans (ot_fx ht q_29) (ot.trans q_23 (ot.trans q_16 q_6))), (by unfold pp_cm; rw [← eg_7]; unfold pp_c2; rw [if_pos ⟨by omega, by omega⟩, ← eg_17, ← eg_24]; exact p0r_26)⟩) dX4_readComparison_43
set_option maxHeartbeats 4000000 in
set_option maxRecDepth 100000 in
theorem x_X4_readNegated_7 (l : Launch) (D : va_G) (A : Nat → Nat → Nat) (cy : Nat → ClassId) (hJ : ti_inj ti_LT A) (M : ti_M) (hI : cI Tc M) (t : Nat) (ht : t = 3 ∨ t = 4) (hT : tT M 1 1 = some t) (lw : Nat) (hlw : ti_ob ti_LT lw 1) (hL : tT M 1 2 = some lw) (B : Nat → Int) (n : Nat) (rg : Nat → Int) (hr : rC B n t rg M) : ti_KvE l yX4_readNegated cX4_readNegated 4 19 ti_LT D A cy M [.ref (A 1 0), .int 7] (fun M2 => cI Tc M2 ∧ M2.2.2.2 = M.2.2.2 ∧ f0 M2 M ∧ tI M2 2 1 = tI M 2 1 ∧ ot t M2 M ∧ rC B n t (pp_ng B n (pp_pt B n 1) rg) M2) := by
  refine ti_eVE yp_X4_readNegated hJ ti_LT_nd (Nat.le_of_ble_eq_true rfl) ?_
  intro p e s m args below meth c Q H0 C hE hQ hw ls hl
  have hx := C.1
  have hb := C.2.1
  have hl : lv_has ls 4 [(0, .ref (A 1 0)), (1, .int 7)] := hl
  have l0 : rg 0 = (tI M 2 4).toInt := hr.2.1.1
  have l1 : rg 1 = (tI M 2 6).toInt := hr.2.1.2.1
  have l2 : rg 2 = (tI M 2 5).toInt := hr.2.1.2.2.1
  have l3 : rg 3 = (tI M 2 3).toInt := hr.2.1.2.2.2
  have l4 : rg 4 = (tI M 1 4).toInt := hr.2.2.1.1
  have l5 : rg 5 = (tI M 1 5).toInt := hr.2.2.1.2.1
  have l7 : rg 7 = (tI M t 4).toInt := hr.2.2.2.1.1
  have l8 : rg 8 = (tI M t 5).toInt := hr.2.2.2.1.2.1
  have l9 : rg 9 = (tI M t 3).toInt := hr.2.2.2.1.2.2
  refine lv_iconst (v := 0) hx hb dX4_readNegated_0 (by decide) ?_
  refine lv_istore_n (lv' := [(2, .int 0), (0, .ref (A 1 0)), (1, .int 7)]) hx hb dX4_readNegated_1 rfl hl (by decide) rfl (fun ls hl => ?_)
  have hl_2_13 : ∀ (n_14 : Nat) (x_1 : Int32) (M_4 : ti_M) (g_11 : Nat → Int) (H : Heap) (locs : List Loc) (ls : Array Slot), (65 - x_1.toInt : Int).toNat < n_14 → (0 ≤ x_1.toInt) → (x_1.toInt ≤ 65) → (cI Tc M_4) → (M_4.2.2.2 = M.2.2.2) → (f0 M_4 M) → (tI M_4 2 1 = tI M 2 1) → (ot t M_4 M) → (tT M_4 1 1 = (some t)) → (tT M_4 1 2 = (some lw)) → (rC B n t g_11 M_4) → (pp_lp pp_qN (pp_kn B n) 65 rg = pp_lp pp_qN (pp_kn B n) (65 - (x_1.toInt).toNat) g_11) → ti_H ti_LT D A cy H0 M_4 H locs → lv_has ls 4 [(2, .int x_1), (0, .ref (A 1 0)), (1, .int 7)] → W p l e (ti_rm 19) s m args below meth c H locs 0 0 Q (F0 m 2 ls []) := by
    intro n_14
    induction n_14 with
    | zero => intro x_1 M_4 g_11 H locs ls hf_14; exact absurd hf_14 (Nat.not_lt_zero _)
    | succ n_14 ih_14 =>
      intro x_1 M_4 g_11 H locs ls hf_14 b_2 b_3 iM_4 f_5 f_6 f_7 f_8 f_9 f_10 hs_12 j_13 hw hl
      have lg_11_0 : g_11 0 = (tI M_4 2 4).toInt := hs_12.2.1.1
      have lg_11_1 : g_11 1 = (tI M_4 2 6).toInt := hs_12.2.1.2.1
      have lg_11_4 : g_11 4 = (tI M_4 1 4).toInt := hs_12.2.2.1.1
      have lg_11_7 : g_11 7 = (tI M_4 t 4).toInt := hs_12.2.2.2.1.1
      have lg_11_8 : g_11 8 = (tI M_4 t 5).toInt := hs_12.2.2.2.1.2.1
      refine lv_iload_n hx hb dX4_readNegated_2 rfl (lv_at hl 0 rfl) ?_
      refine lv_bipush (v := 64) hx hb dX4_readNegated_3 (by decide) ?_
      have hj_30_26 : ∀  (H : Heap) (locs : List Loc) (ls : Array Slot), (pp_lp pp_qN (pp_kn B n) 65 rg = g_11) → ti_H ti_LT D A cy H0 M_4 H locs → lv_has ls 4 [(2, .int x_1), (0, .ref (A 1 0)), (1, .int 7)] → W p l e (ti_rm 19) s m args below meth c H locs 0 0 Q (F0 m 30 ls []) := by
        intro  H locs ls j_26 hw hl
        have lg_11_0 : g_11 0 = (tI M_4 2 4).toInt := hs_12.2.1.1
        have lg_11_1 : g_11 1 = (tI M_4 2 6).toInt := hs_12.2.1.2.1
        have lg_11_4 : g_11 4 = (tI M_4 1 4).toInt := hs_12.2.2.1.1
        have lg_11_7 : g_11 7 = (tI M_4 t 4).toInt := hs_12.2.2.2.1.1
        have lg_11_8 : g_11 8 = (tI M_4 t 5).toInt := hs_12.2.2.2.1.2.1
        refine lv_aload_n hx hb dX4_readNegated_30 rfl (lv_at hl 1 rfl) ?_
        refine lv_iload_n hx hb dX4_readNegated_31 rfl (lv_at hl 2 rfl) ?_
        refine ti_callVvE (ci := 4) (av := [.int 7]) C hE hw (x_X4_readComparison_7 l D A cy hJ M_4 iM_4 t ht (f_9) lw hlw (f_10) B n g_11 hs_12) ⟨ml_X4_178, ym_X4_readComparison, yv_X4_readComparison, yi_X4_readComparison, yc_X4_readComparison⟩ yd_X4_readComparison ob_1 (by decide) rfl rfl hl.1 (Nat.le_of_ble_eq_true rfl) ⟨by decide, by decide⟩ ⟨Nat.zero_le _, Nat.zero_le _⟩ dX4_readNegated_32 (fun M_28 H locs hp_28 hw => ?_)
        obtain ⟨iM_28, q_29, q_30, q_31, q_32, p0r_27⟩ := hp_28
        obtain ⟨g_33, eg_33⟩ : ∃ z : Nat → Int, z = pp_cm B n (pp_pt B n 1) g_11 := ⟨_, rfl⟩
        rw [← eg_33] at p0r_27
        have lg_33_0 : g_33 0 = (tI M_28 2 4).toInt := p0r_27.2.1.1
        have lg_33_1 : g_33 1 = (tI M_28 2 6).toInt := p0r_27.2.1.2.1
        have lg_33_4 : g_33 4 = (tI M_28 1 4).toInt := p0r_27.2.2.1.1
        have lg_33_7 : g_33 7 = (tI M_28 t 4).toInt := p0r_27.2.2.2.1.1
        have lg_33_8 : g_33 8 = (tI M_28 t 5).toInt := p0r_27.2.2.2.1.2.1
        have EM : pp_ng B n (pp_pt B n 1) rg = g_33 := by unfold pp_ng; rw [j_26, ← eg_33]
        refine lv_iconst (v := 0) hx hb dX4_readNegated_35 (by decide) ?_
        refine lv_istore_n (lv' := [(3, .int 0), (2, .int x_1), (0, .ref (A 1 0)), (1, .int 7)]) hx hb dX4_readNegated_36 rfl hl (by decide) rfl (fun ls hl => ?_)
        have hl_37_46 : ∀ (n_47 : Nat) (x_34 : Int32) (M_37 : ti_M) (g_44 : Nat → Int) (H : Heap) (locs : List Loc) (ls : Array Slot), (65 - x_34.toInt : Int).toNat < n_47 → (0 ≤ x_34.toInt) → (x_34.toInt ≤ 65) → (cI Tc M_37) → (M_37.2.2.2 = M.2.2.2) → (f0 M_37 M) → (tI M_37 2 1 = tI M 2 1) → (ot t M_37 M) → (tT M_37 1 1 = (some t)) → (tT M_37 1 2 = (some lw)) → (rC B n t g_44 M_37) → (g_33 = g_44) → ti_H ti_LT D A cy H0 M_37 H locs → lv_has ls 4 [(3, .int x_34), (2, .int x_1), (0, .ref (A 1 0)), (1, .int 7)] → W p l e (ti_rm 19) s m args below meth c H locs 0 0 Q (F0 m 37 ls []) := by
          intro n_47
          induction n_47 with
          | zero => intro x_34 M_37 g_44 H locs ls hf_47; exact absurd hf_47 (Nat.not_lt_zero _)
          | succ n_47 ih_47 =>
            intro x_34 M_37 g_44 H locs ls hf_47 b_35 b_36 iM_37 f_38 f_39 f_40 f_41 f_42 f_43 hs_45 j_46 hw hl
            have lg_44_0 : g_44 0 = (tI M_37 2 4).toInt := hs_45.2.1.1
            have lg_44_1 : g_44 1 = (tI M_37 2 6).toInt := hs_45.2.1.2.1
            have lg_44_4 : g_44 4 = (tI M_37 1 4).toInt := hs_45.2.2.1.1
            have lg_44_7 : g_44 7 = (tI M_37 t 4).toInt := hs_45.2.2.2.1.1
            have lg_44_8 : g_44 8 = (tI M_37 t 5).toInt := hs_45.2.2.2.1.2.1
            refine lv_iload_n hx hb dX4_readNegated_37 rfl (lv_at hl 0 rfl) ?_
            refine lv_iload_n hx hb dX4_readNegated_38 rfl (lv_at hl 1 rfl) ?_
            refine sb_icmp_ge (tgt := 57) hx hb rfl rfl dX4_readNegated_39 (by decide) (fun c_39_47 => ?_) (fun c_39_47 => ?_)
            · exact hQ _ _ _ _ _ hw (⟨iM_37, (f_38), f_39, (f_40), f_41, (by rw [EM, j_46]; exact hs_45)⟩) dX4_readNegated_57
            · refine lv_aload_n hx hb dX4_readNegated_42 rfl (lv_at hl 2 rfl) ?_
              refine ti_get (ci := 4) (k := 2) (N := 6) (T := TX4) (v := .ref (A lw 0)) C hw iw_4 rfl ob_1 (by decide) (by decide) fl_X4_154 rfl (ti_Tv (f_43)) dX4_readNegated_43 ?_
              refine lv_bipush (v := (-24)) hx hb dX4_readNegated_46 (by decide) ?_
              refine ti_callVv (ci := 1) (av := [.int (-24)]) C hw (x_X1_add l D A cy hJ M_37 iM_37 lw hlw (-24) (by first | omega | exact Or.inl (by decide) | exact Or.inr (by decide)) t ht B n g_44 hs_45) ⟨ml_X4_170, ym_X1_add, yv_X1_add, yi_X1_add, yc_X1_add⟩ yd_X1_add hlw (by decide) rfl rfl hl.1 (Nat.le_of_ble_eq_true rfl) ⟨by decide, by decide⟩ ⟨Nat.zero_le _, Nat.zero_le _⟩ dX4_readNegated_48 (fun M_50 H locs hp_50 hw => ?_)
              obtain ⟨iM_50, q_51, q_52, p0r_49⟩ := hp_50
              have lM_50_0 : g_44 0 = (tI M_50 2 4).toInt := p0r_49.2.1.1
              have lM_50_1 : g_44 1 = (tI M_50 2 6).toInt := p0r_49.2.1.2.1
              have lM_50_4 : g_44 4 = (tI M_50 1 4).toInt := p0r_49.2.2.1.1
              have lM_50_7 : g_44 7 = (tI M_50 t 4).toInt := p0r_49.2.2.2.1.1
              have lM_50_8 : g_44 8 = (tI M_50 t 5).toInt := p0r_49.2.2.2.1.2.1
              obtain ⟨x_53, ex_53⟩ : ∃ z : Int32, z = x_34 + 1 := ⟨_, rfl⟩
              have tx_53 : x_53.toInt = x_34.toInt + 1 := i_add ex_53 rfl (by decide) (by omega) (by omega)
              refine lv_iinc (v := x_53) (lv' := [(3, .int x_53), (2, .int x_1), (0, .ref (A 1 0)), (1, .int 7)]) hx hb dX4_readNegated_51 hl (k := 0) rfl (by rw [ex_53]; rfl) (by decide) rfl (fun ls hl => ?_)
              refine lv_goto (tgt := 37) hx hb dX4_readNegated_54 (by decide) ?_
              exact ih_47 x_53 M_50 g_44 _ _ _ (by omega) (by first | omega | decide) (by first | omega | decide) iM_50 ((q_51).trans f_38) (f0.trans (f0_x q_52) f_39) (((q_52 1).2.1).trans f_40) (ot.trans (ot_fx ht q_52) f_41) ((tT_fr q_51).trans f_42) ((tT_fr q_51).trans f_43) p0r_49 j_46 hw (lv_sub hl [0, 1, 2, 3] rfl)
        exact hl_37_46 ((65 - 0 : Int).toNat + 1) 0 M_28 g_33 _ _ _ (Nat.lt_succ_self _) (by have lt0 : (0 : Int32).toInt = 0 := (by decide); first | omega | decide) (by have lt0 : (0 : Int32).toInt = 0 := (by decide); first | omega | decide) iM_28 ((q_29).trans f_5) (f0.trans q_30 f_6) ((q_31).trans f_7) (ot.trans q_32 f_8) ((tT_fr q_29).trans f_9) ((tT_fr q_29).trans f_10) p0r_27 rfl hw (lv_sub hl [0, 1, 2, 3] rfl)
      refine sb_icmp_gt (tgt := 30) hx hb rfl (by decide : (64 : Int32).toInt = 64) dX4_readNegated_5 (by decide) (fun c_5_14 => ?_) (fun c_5_14 => ?_)
      · exact hj_30_26  _ _ _ (by rw [j_13, lp_end (P := pp_qN) (f := 65 - x_1.toInt.toNat) (s := g_11) (Or.inl (by omega))]) hw (lv_sub hl [0, 1, 2] rfl)
      · refine lv_aload_n hx hb dX4_readNegated_8 rfl (lv_at hl 1 rfl) ?_
        refine ti_get (ci := 4) (k := 0) (N := 6) (T := TX4) (v := .ref (A 2 0)) C hw iw_4 rfl ob_1 (by decide) (by decide) fl_X4_12 rfl rfl dX4_readNegated_9 ?_
        refine ti_get (ci := 7) (k := 4) (N := 7) (T := TX7) C hw iw_7 rfl ob_2 (by decide) (by decide) fl_X4_41 rfl rfl dX4_readNegated_12 ?_
        refine lv_topi (fun x_16 ex_16 => ?_)
        have bx_16 : 0 ≤ x_16.toInt ∧ x_16.toInt ≤ 41 := cI_rd iM_4 ob_2.1 ex_16
        have ux_16 : (tI M_4 2 4).toInt = x_16.toInt := by rw [ex_16]
        refine lv_bipush (v := 24) hx hb dX4_readNegated_15 (by decide) ?_
        refine sb_icmp_ne (tgt := 30) hx hb rfl (by decide : (24 : Int32).toInt = 24) dX4_readNegated_17 (by decide) (fun c_17_16 => ?_) (fun c_17_16 => ?_)
        · exact hj_30_26  _ _ _ (by rw [j_13, lp_end (P := pp_qN) (f := 65 - x_1.toInt.toNat) (s := g_11) (Or.inr (decide_eq_false (by omega)))]) hw (lv_sub hl [0, 1, 2] rfl)
        · refine lv_aload_n hx hb dX4_readNegated_20 rfl (lv_at hl 1 rfl) ?_
          refine ti_callVvE (ci := 4) (av := []) C hE hw (x_X4_knot l D A cy hJ M_4 iM_4 t ht (f_9) B n g_11 hs_12) ⟨ml_X4_167, ym_X4_knot, yv_X4_knot, yi_X4_knot, yc_X4_knot⟩ yd_X4_knot ob_1 (by decide) rfl rfl hl.1 (Nat.le_of_ble_eq_true rfl) ⟨by decide, by decide⟩ ⟨Nat.zero_le _, Nat.zero_le _⟩ dX4_readNegated_21 (fun M_19 H locs hp_19 hw => ?_)
          obtain ⟨iM_19, q_20, q_21, q_22, q_23, p0r_18⟩ := hp_19
          obtain ⟨g_24, eg_24⟩ : ∃ z : Nat → Int, z = pp_kn B n g_11 := ⟨_, rfl⟩
          rw [← eg_24] at p0r_18
          have lg_24_0 : g_24 0 = (tI M_19 2 4).toInt := p0r_18.2.1.1
          have lg_24_1 : g_24 1 = (tI M_19 2 6).toInt := p0r_18.2.1.2.1
          have lg_24_4 : g_24 4 = (tI M_19 1 4).toInt := p0r_18.2.2.1.1
          have lg_24_7 : g_24 7 = (tI M_19 t 4).toInt := p0r_18.2.2.2.1.1
          have lg_24_8 : g_24 8 = (tI M_19 t 5).toInt := p0r_18.2.2.2.1.2.1
          obtain ⟨x_25, ex_25⟩ : ∃ z : Int32, z = x_1 + 1 := ⟨_, rfl⟩
          have tx_25 : x_25.toInt = x_1.toInt + 1 := i_add ex_25 rfl (by decide) (by omega) (by omega)
          refine lv_iinc (v := x_25) (lv' := [(2, .int x_25), (0, .ref (A 1 0)), (1, .int 7)]) hx hb dX4_readNegated_24 hl (k := 0) rfl (by rw [ex_25]; rfl) (by decide) rfl (fun ls hl => ?_)
          refine lv_goto (tgt := 2) hx hb dX4_readNegated_27 (by decide) ?_
          exact ih_14 x_25 M_19 g_24 _ _ _ (by omega) (by first | omega | decide) (by first | omega | decide) iM_19 ((q_20).trans f_5) (f0.trans q_21 f_6) ((q_22).trans f_7) (ot.trans q_23 f_8) ((tT_fr q_20).trans f_9) ((tT_fr q_20).trans f_10) p0r_18 (j_13.trans (lp_step (decide_eq_true (by omega)) (by rw [eg_24]) (by omega))) hw (lv_sub hl [0, 1, 2] rfl)
  exact hl_2_13 ((65 - 0 : Int).toNat + 1) 0 M rg _ _ _ (Nat.lt_succ_self _) (by have lt0 : (0 : Int32).toInt = 0 := (by decide); first | omega | decide) (by have lt0 : (0 : Int32).toInt = 0 := (by decide); first | omega | decide) hI rfl f0.refl rfl ot.refl (hT) (hL) hr rfl hw (lv_sub hl [0, 1, 2] rfl)
set_option maxHeartbeats 4000000 in
set_option maxRecDepth 100000 in
theorem x_X4_readBoth_7 (l : Launch) (D : va_G) (A : Nat → Nat → Nat) (cy : Nat → ClassId) (hJ : ti_inj ti_LT A) (M : ti_M) (hI : cI Tc M) (t : Nat) (ht : t = 3 ∨ t = 4) (hT : tT M 1 1 = some t) (lw : Nat) (hlw : ti_ob ti_LT lw 1) (hL : tT M 1 2 = some lw) (B : Nat → Int) (n : Nat) (rg : Nat → Int) (hr : rC B n t rg M) : ti_KvE l yX4_readBoth cX4_readBoth 3 20 ti_LT D A cy M [.ref (A 1 0), .int 7] (fun M2 => cI Tc M2 ∧ M2.2.2.2 = M.2.2.2 ∧ f0 M2 M ∧ tI M2 2 1 = tI M 2 1 ∧ ot t M2 M ∧ rC B n t (pp_bo B n (pp_pt B n 1) rg) M2) := by
  refine ti_eVE yp_X4_readBoth hJ ti_LT_nd (Nat.le_of_ble_eq_true rfl) ?_
  intro p e s m args below meth c Q H0 C hE hQ hw ls hl
  have hx := C.1
  have hb := C.2.1
  have hl : lv_has ls 3 [(0, .ref (A 1 0)), (1, .int 7)] := hl
  have l0 : rg 0 = (tI M 2 4).toInt := hr.2.1.1
  have l1 : rg 1 = (tI M 2 6).toInt := hr.2.1.2.1
  have l2 : rg 2 = (tI M 2 5).toInt := hr.2.1.2.2.1
  have l3 : rg 3 = (tI M 2 3).toInt := hr.2.1.2.2.2
  have l4 : rg 4 = (tI M 1 4).toInt := hr.2.2.1.1
  have l5 : rg 5 = (tI M 1 5).toInt := hr.2.2.1.2.1
  have l7 : rg 7 = (tI M t 4).toInt := hr.2.2.2.1.1
  have l8 : rg 8 = (tI M t 5).toInt := hr.2.2.2.1.2.1
  have l9 : rg 9 = (tI M t 3).toInt := hr.2.2.2.1.2.2
  refine lv_aload_n hx hb dX4_readBoth_0 rfl (lv_at hl 0 rfl) ?_
  refine lv_iload_n hx hb dX4_readBoth_1 rfl (lv_at hl 1 rfl) ?_
  refine ti_callVvE (ci := 4) (av := [.int 7]) C hE hw (x_X4_readNegated_7 l D A cy hJ M hI t ht (hT) lw hlw (hL) B n rg hr) ⟨ml_X4_175, ym_X4_readNegated, yv_X4_readNegated, yi_X4_readNegated, yc_X4_readNegated⟩ yd_X4_readNegated ob_1 (by decide) rfl rfl hl.1 (Nat.le_of_ble_eq_true rfl) ⟨by decide, by decide⟩ ⟨Nat.zero_le _, Nat.zero_le _⟩ dX4_readBoth_2 (fun M_2 H locs hp_2 hw => ?_)
  obtain ⟨iM_2, q_3, q_4, q_5, q_6, p0r_1⟩ := hp_2
  obtain ⟨g_7, eg_7⟩ : ∃ z : Nat → Int, z = pp_ng B n (pp_pt B n 1) rg := ⟨_, rfl⟩
  rw [← eg_7] at p0r_1
  have lg_7_0 : g_7 0 = (tI M_2 2 4).toInt := p0r_1.2.1.1
  have lg_7_1 : g_7 1 = (tI M_2 2 6).toInt := p0r_1.2.1.2.1
  have lg_7_4 : g_7 4 = (tI M_2 1 4).toInt := p0r_1.2.2.1.1
  have lg_7_7 : g_7 7 = (tI M_2 t 4).toInt := p0r_1.2.2.2.1.1
  have lg_7_8 : g_7 8 = (tI M_2 t 5).toInt := p0r_1.2.2.2.1.2.1
  refine lv_iconst (v := 0) hx hb dX4_readBoth_5 (by decide) ?_
  refine lv_istore_n (lv' := [(2, .int 0), (0, .ref (A 1 0)), (1, .int 7)]) hx hb dX4_readBoth_6 rfl hl (by decide) rfl (fun ls hl => ?_)
  have hl_7_20 : ∀ (n_21 : Nat) (x_8 : Int32) (M_11 : ti_M) (g_18 : Nat → Int) (H : Heap) (locs : List Loc) (ls : Array Slot), (64 - x_8.toInt : Int).toNat < n_21 → (0 ≤ x_8.toInt) → (x_8.toInt ≤ 64) → (cI Tc M_11) → (M_11.2.2.2 = M.2.2.2) → (f0 M_11 M) → (tI M_11 2 1 = tI M 2 1) → (ot t M_11 M) → (tT M_11 1 1 = (some t)) → (tT M_11 1 2 = (some lw)) → (rC B n t g_18 M_11) → (pp_lp pp_qA (fun s => pp_ng B n (pp_pt B n 1) (pp_kn B n s)) 64 g_7 = pp_lp pp_qA (fun s => pp_ng B n (pp_pt B n 1) (pp_kn B n s)) (64 - (x_8.toInt).toNat) g_18) → ti_H ti_LT D A cy H0 M_11 H locs → lv_has ls 3 [(2, .int x_8), (0, .ref (A 1 0)), (1, .int 7)] → W p l e (ti_rm 20) s m args below meth c H locs 0 0 Q (F0 m 7 ls []) := by
    intro n_21
    induction n_21 with
    | zero => intro x_8 M_11 g_18 H locs ls hf_21; exact absurd hf_21 (Nat.not_lt_zero _)
    | succ n_21 ih_21 =>
      intro x_8 M_11 g_18 H locs ls hf_21 b_9 b_10 iM_11 f_12 f_13 f_14 f_15 f_16 f_17 hs_19 j_20 hw hl
      have lg_18_0 : g_18 0 = (tI M_11 2 4).toInt := hs_19.2.1.1
      have lg_18_1 : g_18 1 = (tI M_11 2 6).toInt := hs_19.2.1.2.1
      have lg_18_4 : g_18 4 = (tI M_11 1 4).toInt := hs_19.2.2.1.1
      have lg_18_7 : g_18 7 = (tI M_11 t 4).toInt := hs_19.2.2.2.1.1
      have lg_18_8 : g_18 8 = (tI M_11 t 5).toInt := hs_19.2.2.2.1.2.1
      refine lv_iload_n hx hb dX4_readBoth_7 rfl (lv_at hl 0 rfl) ?_
      refine lv_bipush (v := 64) hx hb dX4_readBoth_8 (by decide) ?_
      refine sb_icmp_ge (tgt := 49) hx hb rfl (by decide : (64 : Int32).toInt = 64) dX4_readBoth_10 (by decide) (fun c_10_21 => ?_) (fun c_10_21 => ?_)
      · exact hQ _ _ _ _ _ hw (⟨iM_11, (f_12), f_13, (f_14), f_15, (by unfold pp_bo; rw [← eg_7, j_20, lp_end (P := pp_qA) (f := 64 - x_8.toInt.toNat) (s := g_18) (Or.inl (by omega))]; exact hs_19)⟩) dX4_readBoth_49
      · refine lv_aload_n hx hb dX4_readBoth_13 rfl (lv_at hl 1 rfl) ?_
        refine ti_get (ci := 4) (k := 0) (N := 6) (T := TX4) (v := .ref (A 2 0)) C hw iw_4 rfl ob_1 (by decide) (by decide) fl_X4_12 rfl rfl dX4_readBoth_14 ?_
        refine ti_get (ci := 7) (k := 4) (N := 7) (T := TX7) C hw iw_7 rfl ob_2 (by decide) (by decide) fl_X4_41 rfl rfl dX4_readBoth_17 ?_
        refine lv_topi (fun x_23 ex_23 => ?_)
        have bx_23 : 0 ≤ x_23.toInt ∧ x_23.toInt ≤ 41 := cI_rd iM_11 ob_2.1 ex_23
        have ux_23 : (tI M_11 2 4).toInt = x_23.toInt := by rw [ex_23]
        refine lv_bipush (v := 22) hx hb dX4_readBoth_20 (by decide) ?_
        refine sb_icmp_ne (tgt := 49) hx hb rfl (by decide : (22 : Int32).toInt = 22) dX4_readBoth_22 (by decide) (fun c_22_23 => ?_) (fun c_22_23 => ?_)
        · exact hQ _ _ _ _ _ hw (⟨iM_11, (f_12), f_13, (f_14), f_15, (by unfold pp_bo; rw [← eg_7, j_20, lp_end (P := pp_qA) (f := 64 - x_8.toInt.toNat) (s := g_18) (Or.inr (decide_eq_false (by omega)))]; exact hs_19)⟩) dX4_readBoth_49
        · refine lv_aload_n hx hb dX4_readBoth_25 rfl (lv_at hl 1 rfl) ?_
          refine ti_callVvE (ci := 4) (av := []) C hE hw (x_X4_knot l D A cy hJ M_11 iM_11 t ht (f_16) B n g_18 hs_19) ⟨ml_X4_167, ym_X4_knot, yv_X4_knot, yi_X4_knot, yc_X4_knot⟩ yd_X4_knot ob_1 (by decide) rfl rfl hl.1 (Nat.le_of_ble_eq_true rfl) ⟨by decide, by decide⟩ ⟨Nat.zero_le _, Nat.zero_le _⟩ dX4_readBoth_26 (fun M_26 H locs hp_26 hw => ?_)
          obtain ⟨iM_26, q_27, q_28, q_29, q_30, p0r_25⟩ := hp_26
          obtain ⟨g_31, eg_31⟩ : ∃ z : Nat → Int, z = pp_kn B n g_18 := ⟨_, rfl⟩
          rw [← eg_31] at p0r_25
          have lg_31_0 : g_31 0 = (tI M_26 2 4).toInt := p0r_25.2.1.1
          have lg_31_1 : g_31 1 = (tI M_26 2 6).toInt := p0r_25.2.1.2.1
          have lg_31_4 : g_31 4 = (tI M_26 1 4).toInt := p0r_25.2.2.1.1
          have lg_31_7 : g_31 7 = (tI M_26 t 4).toInt := p0r_25.2.2.2.1.1
          have lg_31_8 : g_31 8 = (tI M_26 t 5).toInt := p0r_25.2.2.2.1.2.1
          refine lv_aload_n hx hb dX4_readBoth_29 rfl (lv_at hl 1 rfl) ?_
          refine lv_iload_n hx hb dX4_readBoth_30 rfl (lv_at hl 2 rfl) ?_
          refine ti_callVvE (ci := 4) (av := [.int 7]) C hE hw (x_X4_readNegated_7 l D A cy hJ M_26 iM_26 t ht ((tT_fr q_27).trans f_16) lw hlw ((tT_fr q_27).trans f_17) B n g_31 p0r_25) ⟨ml_X4_175, ym_X4_readNegated, yv_X4_readNegated, yi_X4_readNegated, yc_X4_readNegated⟩ yd_X4_readNegated ob_1 (by decide) rfl rfl hl.1 (Nat.le_of_ble_eq_true rfl) ⟨by decide, by decide⟩ ⟨Nat.zero_le _, Nat.zero_le _⟩ dX4_readBoth_31 (fun M_33 H locs hp_33 hw => ?_)
          obtain ⟨iM_33, q_34, q_35, q_36, q_37, p0r_32⟩ := hp_33
          obtain ⟨g_38, eg_38⟩ : ∃ z : Nat → Int, z = pp_ng B n (pp_pt B n 1) g_31 := ⟨_, rfl⟩
          rw [← eg_38] at p0r_32
          have lg_38_0 : g_38 0 = (tI M_33 2 4).toInt := p0r_32.2.1.1
          have lg_38_1 : g_38 1 = (tI M_33 2 6).toInt := p0r_32.2.1.2.1
          have lg_38_4 : g_38 4 = (tI M_33 1 4).toInt := p0r_32.2.2.1.1
          have lg_38_7 : g_38 7 = (tI M_33 t 4).toInt := p0r_32.2.2.2.1.1
          have lg_38_8 : g_38 8 = (tI M_33 t 5).toInt := p0r_32.2.2.2.1.2.1
          refine lv_aload_n hx hb dX4_readBoth_34 rfl (lv_at hl 1 rfl) ?_
          refine ti_get (ci := 4) (k := 2) (N := 6) (T := TX4) (v := .ref (A lw 0)) C hw iw_4 rfl ob_1 (by decide) (by decide) fl_X4_154 rfl (ti_Tv ((tT_fr q_34).trans ((tT_fr q_27).trans f_17))) dX4_readBoth_35 ?_
          refine lv_bipush (v := (-22)) hx hb dX4_readBoth_38 (by decide) ?_
          refine ti_callVv (ci := 1) (av := [.int (-22)]) C hw (x_X1_add l D A cy hJ M_33 iM_33 lw hlw (-22) (by first | omega | exact Or.inl (by decide) | exact Or.inr (by decide)) t ht B n g_38 p0r_32) ⟨ml_X4_170, ym_X1_add, yv_X1_add, yi_X1_add, yc_X1_add⟩ yd_X1_add hlw (by decide) rfl rfl hl.1 (Nat.le_of_ble_eq_true rfl) ⟨by decide, by decide⟩ ⟨Nat.zero_le _, Nat.zero_le _⟩ dX4_readBoth_40 (fun M_40 H locs hp_40 hw => ?_)
          obtain ⟨iM_40, q_41, q_42, p0r_39⟩ := hp_40
          have lM_40_0 : g_38 0 = (tI M_40 2 4).toInt := p0r_39.2.1.1
          have lM_40_1 : g_38 1 = (tI M_40 2 6).toInt := p0r_39.2.1.2.1
          have lM_40_4 : g_38 4 = (tI M_40 1 4).toInt := p0r_39.2.2.1.1
          have lM_40_7 : g_38 7 = (tI M_40 t 4).toInt := p0r_39.2.2.2.1.1
          have lM_40_8 : g_38 8 = (tI M_40 t 5).toInt := p0r_39.2.2.2.1.2.1
          obtain ⟨x_43, ex_43⟩ : ∃ z : Int32, z = x_8 + 1 := ⟨_, rfl⟩
          have tx_43 : x_43.toInt = x_8.toInt + 1 := i_add ex_43 rfl (by decide) (by omega) (by omega)
          refine lv_iinc (v := x_43) (lv' := [(2, .int x_43), (0, .ref (A 1 0)), (1, .int 7)]) hx hb dX4_readBoth_43 hl (k := 0) rfl (by rw [ex_43]; rfl) (by decide) rfl (fun ls hl => ?_)
          refine lv_goto (tgt := 7) hx hb dX4_readBoth_46 (by decide) ?_
          exact ih_21 x_43 M_40 g_38 _ _ _ (by omega) (by first | omega | decide) (by first | omega | decide) iM_40 ((q_41).trans ((q_34).trans ((q_27).trans f_12))) (f0.trans (f0_x q_42) (f0.trans q_35 (f0.trans q_28 f_13))) (((q_42 1).2.1).trans ((q_36).trans ((q_29).trans f_14))) (ot.trans (ot_fx ht q_42) (ot.trans q_37 (ot.trans q_30 f_15))) ((tT_fr q_41).trans ((tT_fr q_34).trans ((tT_fr q_27).trans f_16))) ((tT_fr q_41).trans ((tT_fr q_34).trans ((tT_fr q_27).trans f_17))) p0r_39 (j_20.trans (lp_step (decide_eq_true (by omega)) (by rw [eg_38, eg_31]) (by omega))) hw (lv_sub hl [0, 1, 2] rfl)
  exact hl_7_20 ((64 - 0 : Int).toNat + 1) 0 M_2 g_7 _ _ _ (Nat.lt_succ_self _) (by have lt0 : (0 : Int32).toInt = 0 := (by decide); first | omega | decide) (by have lt0 : (0 : Int32).toInt = 0 := (by decide); first | omega | decide) iM_2 (q_3) q_4 (q_5) q_6 ((tT_fr q_3).trans hT) ((tT_fr q_3).trans hL) p0r_1 rfl hw (lv_sub hl [0, 1, 2] rfl)
set_option maxHeartbeats 4000000 in
set_option maxRecDepth 100000 in
theorem x_X4_readEither_7 (l : Launch) (D : va_G) (A : Nat → Nat → Nat) (cy : Nat → ClassId) (hJ : ti_inj ti_LT A) (M : ti_M) (hI : cI Tc M) (t : Nat) (ht : t = 3 ∨ t = 4) (hT : tT M 1 1 = some t) (lw : Nat) (hlw : ti_ob ti_LT lw 1) (hL : tT M 1 2 = some lw) (B : Nat → Int) (n : Nat) (rg : Nat → Int) (hr : rC B n t rg M) : ti_KvE l yX4_readEither cX4_readEither 3 21 ti_LT D A cy M [.ref (A 1 0), .int 7] (fun M2 => cI Tc M2 ∧ M2.2.2.2 = M.2.2.2 ∧ f0 M2 M ∧ tI M2 2 1 = tI M 2 1 ∧ ot t M2 M ∧ rC B n t (pp_ei B n (pp_pt B n 1) rg) M2) := by
  refine ti_eVE yp_X4_readEither hJ ti_LT_nd (Nat.le_of_ble_eq_true rfl) ?_
  intro p e s m args below meth c Q H0 C hE hQ hw ls hl
  have hx := C.1
  have hb := C.2.1
  have hl : lv_has ls 3 [(0, .ref (A 1 0)), (1, .int 7)] := hl
  have l0 : rg 0 = (tI M 2 4).toInt := hr.2.1.1
  have l1 : rg 1 = (tI M 2 6).toInt := hr.2.1.2.1
  have l2 : rg 2 = (tI M 2 5).toInt := hr.2.1.2.2.1
  have l3 : rg 3 = (tI M 2 3).toInt := hr.2.1.2.2.2
  have l4 : rg 4 = (tI M 1 4).toInt := hr.2.2.1.1
  have l5 : rg 5 = (tI M 1 5).toInt := hr.2.2.1.2.1
  have l7 : rg 7 = (tI M t 4).toInt := hr.2.2.2.1.1
  have l8 : rg 8 = (tI M t 5).toInt := hr.2.2.2.1.2.1
  have l9 : rg 9 = (tI M t 3).toInt := hr.2.2.2.1.2.2
  refine lv_aload_n hx hb dX4_readEither_0 rfl (lv_at hl 0 rfl) ?_
  refine lv_iload_n hx hb dX4_readEither_1 rfl (lv_at hl 1 rfl) ?_
  refine ti_callVvE (ci := 4) (av := [.int 7]) C hE hw (x_X4_readBoth_7 l D A cy hJ M hI t ht (hT) lw hlw (hL) B n rg hr) ⟨ml_X4_164, ym_X4_readBoth, yv_X4_readBoth, yi_X4_readBoth, yc_X4_readBoth⟩ yd_X4_readBoth ob_1 (by decide) rfl rfl hl.1 (Nat.le_of_ble_eq_true rfl) ⟨by decide, by decide⟩ ⟨Nat.zero_le _, Nat.zero_le _⟩ dX4_readEither_2 (fun M_2 H locs hp_2 hw => ?_)
  obtain ⟨iM_2, q_3, q_4, q_5, q_6, p0r_1⟩ := hp_2
  obtain ⟨g_7, eg_7⟩ : ∃ z : Nat → Int, z = pp_bo B n (pp_pt B n 1) rg := ⟨_, rfl⟩
  rw [← eg_7] at p0r_1
  have lg_7_0 : g_7 0 = (tI M_2 2 4).toInt := p0r_1.2.1.1
  have lg_7_1 : g_7 1 = (tI M_2 2 6).toInt := p0r_1.2.1.2.1
  have lg_7_4 : g_7 4 = (tI M_2 1 4).toInt := p0r_1.2.2.1.1
  have lg_7_7 : g_7 7 = (tI M_2 t 4).toInt := p0r_1.2.2.2.1.1
  have lg_7_8 : g_7 8 = (tI M_2 t 5).toInt := p0r_1.2.2.2.1.2.1
  refine lv_iconst (v := 0) hx hb dX4_readEither_5 (by decide) ?_
  refine lv_istore_n (lv' := [(2, .int 0), (0, .ref (A 1 0)), (1, .int 7)]) hx hb dX4_readEither_6 rfl hl (by decide) rfl (fun ls hl => ?_)
  have hl_7_20 : ∀ (n_21 : Nat) (x_8 : Int32) (M_11 : ti_M) (g_18 : Nat → Int) (H : Heap) (locs : List Loc) (ls : Array Slot), (64 - x_8.toInt : Int).toNat < n_21 → (0 ≤ x_8.toInt) → (x_8.toInt ≤ 64) → (cI Tc M_11) → (M_11.2.2.2 = M.2.2.2) → (f0 M_11 M) → (tI M_11 2 1 = tI M 2 1) → (ot t M_11 M) → (tT M_11 1 1 = (some t)) → (tT M_11 1 2 = (some lw)) → (rC B n t g_18 M_11) → (pp_lp pp_qO (fun s => pp_bo B n (pp_pt B n 1) (pp_kn B n s)) 64 g_7 = pp_lp pp_qO (fun s => pp_bo B n (pp_pt B n 1) (pp_kn B n s)) (64 - (x_8.toInt).toNat) g_18) → ti_H ti_LT D A cy H0 M_11 H locs → lv_has ls 3 [(2, .int x_8), (0, .ref (A 1 0)), (1, .int 7)] → W p l e (ti_rm 21) s m args below meth c H locs 0 0 Q (F0 m 7 ls []) := by
    intro n_21
    induction n_21 with
    | zero => intro x_8 M_11 g_18 H locs ls hf_21; exact absurd hf_21 (Nat.not_lt_zero _)
    | succ n_21 ih_21 =>
      intro x_8 M_11 g_18 H locs ls hf_21 b_9 b_10 iM_11 f_12 f_13 f_14 f_15 f_16 f_17 hs_19 j_20 hw hl
      have lg_18_0 : g_18 0 = (tI M_11 2 4).toInt := hs_19.2.1.1
      have lg_18_1 : g_18 1 = (tI M_11 2 6).toInt := hs_19.2.1.2.1
      have lg_18_4 : g_18 4 = (tI M_11 1 4).toInt := hs_19.2.2.1.1
      have lg_18_7 : g_18 7 = (tI M_11 t 4).toInt := hs_19.2.2.2.1.1
      have lg_18_8 : g_18 8 = (tI M_11 t 5).toInt := hs_19.2.2.2.1.2.1
      refine lv_iload_n hx hb dX4_readEither_7 rfl (lv_at hl 0 rfl) ?_
      refine lv_bipush (v := 64) hx hb dX4_readEither_8 (by decide) ?_
      refine sb_icmp_ge (tgt := 49) hx hb rfl (by decide : (64 : Int32).toInt = 64) dX4_readEither_10 (by decide) (fun c_10_21 => ?_) (fun c_10_21 => ?_)
      · exact hQ _ _ _ _ _ hw (⟨iM_11, (f_12), f_13, (f_14), f_15, (by unfold pp_ei; rw [← eg_7, j_20, lp_end (P := pp_qO) (f := 64 - x_8.toInt.toNat) (s := g_18) (Or.inl (by omega))]; exact hs_19)⟩) dX4_readEither_49
      · refine lv_aload_n hx hb dX4_readEither_13 rfl (lv_at hl 1 rfl) ?_
        refine ti_get (ci := 4) (k := 0) (N := 6) (T := TX4) (v := .ref (A 2 0)) C hw iw_4 rfl ob_1 (by decide) (by decide) fl_X4_12 rfl rfl dX4_readEither_14 ?_
        refine ti_get (ci := 7) (k := 4) (N := 7) (T := TX7) C hw iw_7 rfl ob_2 (by decide) (by decide) fl_X4_41 rfl rfl dX4_readEither_17 ?_
        refine lv_topi (fun x_23 ex_23 => ?_)
        have bx_23 : 0 ≤ x_23.toInt ∧ x_23.toInt ≤ 41 := cI_rd iM_11 ob_2.1 ex_23
        have ux_23 : (tI M_11 2 4).toInt = x_23.toInt := by rw [ex_23]
        refine lv_bipush (v := 23) hx hb dX4_readEither_20 (by decide) ?_
        refine sb_icmp_ne (tgt := 49) hx hb rfl (by decide : (23 : Int32).toInt = 23) dX4_readEither_22 (by decide) (fun c_22_23 => ?_) (fun c_22_23 => ?_)
        · exact hQ _ _ _ _ _ hw (⟨iM_11, (f_12), f_13, (f_14), f_15, (by unfold pp_ei; rw [← eg_7, j_20, lp_end (P := pp_qO) (f := 64 - x_8.toInt.toNat) (s := g_18) (Or.inr (decide_eq_false (by omega)))]; exact hs_19)⟩) dX4_readEither_49
        · refine lv_aload_n hx hb dX4_readEither_25 rfl (lv_at hl 1 rfl) ?_
          refine ti_callVvE (ci := 4) (av := []) C hE hw (x_X4_knot l D A cy hJ M_11 iM_11 t ht (f_16) B n g_18 hs_19) ⟨ml_X4_167, ym_X4_knot, yv_X4_knot, yi_X4_knot, yc_X4_knot⟩ yd_X4_knot ob_1 (by decide) rfl rfl hl.1 (Nat.le_of_ble_eq_true rfl) ⟨by decide, by decide⟩ ⟨Nat.zero_le _, Nat.zero_le _⟩ dX4_readEither_26 (fun M_26 H locs hp_26 hw => ?_)
          obtain ⟨iM_26, q_27, q_28, q_29, q_30, p0r_25⟩ := hp_26
          obtain ⟨g_31, eg_31⟩ : ∃ z : Nat → Int, z = pp_kn B n g_18 := ⟨_, rfl⟩
          rw [← eg_31] at p0r_25
          have lg_31_0 : g_31 0 = (tI M_26 2 4).toInt := p0r_25.2.1.1
          have lg_31_1 : g_31 1 = (tI M_26 2 6).toInt := p0r_25.2.1.2.1
          have lg_31_4 : g_31 4 = (tI M_26 1 4).toInt := p0r_25.2.2.1.1
          have lg_31_7 : g_31 7 = (tI M_26 t 4).toInt := p0r_25.2.2.2.1.1
          have lg_31_8 : g_31 8 = (tI M_26 t 5).toInt := p0r_25.2.2.2.1.2.1
          refine lv_aload_n hx hb dX4_readEither_29 rfl (lv_at hl 1 rfl) ?_
          refine lv_iload_n hx hb dX4_readEither_30 rfl (lv_at hl 2 rfl) ?_
          refine ti_callVvE (ci := 4) (av := [.int 7]) C hE hw (x_X4_readBoth_7 l D A cy hJ M_26 iM_26 t ht ((tT_fr q_27).trans f_16) lw hlw ((tT_fr q_27).trans f_17) B n g_31 p0r_25) ⟨ml_X4_164, ym_X4_readBoth, yv_X4_readBoth, yi_X4_readBoth, yc_X4_readBoth⟩ yd_X4_readBoth ob_1 (by decide) rfl rfl hl.1 (Nat.le_of_ble_eq_true rfl) ⟨by decide, by decide⟩ ⟨Nat.zero_le _, Nat.zero_le _⟩ dX4_readEither_31 (fun M_33 H locs hp_33 hw => ?_)
          obtain ⟨iM_33, q_34, q_35, q_36, q_37, p0r_32⟩ := hp_33
          obtain ⟨g_38, eg_38⟩ : ∃ z : Nat → Int, z = pp_bo B n (pp_pt B n 1) g_31 := ⟨_, rfl⟩
          rw [← eg_38] at p0r_32
          have lg_38_0 : g_38 0 = (tI M_33 2 4).toInt := p0r_32.2.1.1
          have lg_38_1 : g_38 1 = (tI M_33 2 6).toInt := p0r_32.2.1.2.1
          have lg_38_4 : g_38 4 = (tI M_33 1 4).toInt := p0r_32.2.2.1.1
          have lg_38_7 : g_38 7 = (tI M_33 t 4).toInt := p0r_32.2.2.2.1.1
          have lg_38_8 : g_38 8 = (tI M_33 t 5).toInt := p0r_32.2.2.2.1.2.1
          refine lv_aload_n hx hb dX4_readEither_34 rfl (lv_at hl 1 rfl) ?_
          refine ti_get (ci := 4) (k := 2) (N := 6) (T := TX4) (v := .ref (A lw 0)) C hw iw_4 rfl ob_1 (by decide) (by decide) fl_X4_154 rfl (ti_Tv ((tT_fr q_34).trans ((tT_fr q_27).trans f_17))) dX4_readEither_35 ?_
          refine lv_bipush (v := (-23)) hx hb dX4_readEither_38 (by decide) ?_
          refine ti_callVv (ci := 1) (av := [.int (-23)]) C hw (x_X1_add l D A cy hJ M_33 iM_33 lw hlw (-23) (by first | omega | exact Or.inl (by decide) | exact Or.inr (by decide)) t ht B n g_38 p0r_32) ⟨ml_X4_170, ym_X1_add, yv_X1_add, yi_X1_add, yc_X1_add⟩ yd_X1_add hlw (by decide) rfl rfl hl.1 (Nat.le_of_ble_eq_true rfl) ⟨by decide, by decide⟩ ⟨Nat.zero_le _, Nat.zero_le _⟩ dX4_readEither_40 (fun M_40 H locs hp_40 hw => ?_)
          obtain ⟨iM_40, q_41, q_42, p0r_39⟩ := hp_40
          have lM_40_0 : g_38 0 = (tI M_40 2 4).toInt := p0r_39.2.1.1
          have lM_40_1 : g_38 1 = (tI M_40 2 6).toInt := p0r_39.2.1.2.1
          have lM_40_4 : g_38 4 = (tI M_40 1 4).toInt := p0r_39.2.2.1.1
          have lM_40_7 : g_38 7 = (tI M_40 t 4).toInt := p0r_39.2.2.2.1.1
          have lM_40_8 : g_38 8 = (tI M_40 t 5).toInt := p0r_39.2.2.2.1.2.1
          obtain ⟨x_43, ex_43⟩ : ∃ z : Int32, z = x_8 + 1 := ⟨_, rfl⟩
          have tx_43 : x_43.toInt = x_8.toInt + 1 := i_add ex_43 rfl (by decide) (by omega) (by omega)
          refine lv_iinc (v := x_43) (lv' := [(2, .int x_43), (0, .ref (A 1 0)), (1, .int 7)]) hx hb dX4_readEither_43 hl (k := 0) rfl (by rw [ex_43]; rfl) (by decide) rfl (fun ls hl => ?_)
          refine lv_goto (tgt := 7) hx hb dX4_readEither_46 (by decide) ?_
          exact ih_21 x_43 M_40 g_38 _ _ _ (by omega) (by first | omega | decide) (by first | omega | decide) iM_40 ((q_41).trans ((q_34).trans ((q_27).trans f_12))) (f0.trans (f0_x q_42) (f0.trans q_35 (f0.trans q_28 f_13))) (((q_42 1).2.1).trans ((q_36).trans ((q_29).trans f_14))) (ot.trans (ot_fx ht q_42) (ot.trans q_37 (ot.trans q_30 f_15))) ((tT_fr q_41).trans ((tT_fr q_34).trans ((tT_fr q_27).trans f_16))) ((tT_fr q_41).trans ((tT_fr q_34).trans ((tT_fr q_27).trans f_17))) p0r_39 (j_20.trans (lp_step (decide_eq_true (by omega)) (by rw [eg_38, eg_31]) (by omega))) hw (lv_sub hl [0, 1, 2] rfl)
  exact hl_7_20 ((64 - 0 : Int).toNat + 1) 0 M_2 g_7 _ _ _ (Nat.lt_succ_self _) (by have lt0 : (0 : Int32).toInt = 0 := (by decide); first | omega | decide) (by have lt0 : (0 : Int32).toInt = 0 := (by decide); first | omega | decide) iM_2 (q_3) q_4 (q_5) q_6 ((tT_fr q_3).trans hT) ((tT_fr q_3).trans hL) p0r_1 rfl hw (lv_sub hl [0, 1, 2] rfl)
set_option maxHeartbeats 4000000 in
set_option maxRecDepth 100000 in
theorem x_X4_readPart_6 (l : Launch) (D : va_G) (A : Nat → Nat → Nat) (cy : Nat → ClassId) (hJ : ti_inj ti_LT A) (M : ti_M) (hI : cI Tc M) (t : Nat) (ht : t = 3 ∨ t = 4) (hT : tT M 1 1 = some t) (lw : Nat) (hlw : ti_ob ti_LT lw 1) (hL : tT M 1 2 = some lw) (B : Nat → Int) (n : Nat) (rg : Nat → Int) (hr : rC B n t rg M) : ti_KvE l yX4_readPart cX4_readPart 3 22 ti_LT D A cy M [.ref (A 1 0), .int 6] (fun M2 => cI Tc M2 ∧ M2.2.2.2 = M.2.2.2 ∧ f0 M2 M ∧ tI M2 2 1 = tI M 2 1 ∧ ot t M2 M ∧ rC B n t (pp_pt B n 2 rg) M2) := by
  refine ti_eVE yp_X4_readPart hJ ti_LT_nd (Nat.le_of_ble_eq_true rfl) ?_
  intro p e s m args below meth c Q H0 C hE hQ hw ls hl
  have hx := C.1
  have hb := C.2.1
  have hl : lv_has ls 3 [(0, .ref (A 1 0)), (1, .int 6)] := hl
  have l0 : rg 0 = (tI M 2 4).toInt := hr.2.1.1
  have l1 : rg 1 = (tI M 2 6).toInt := hr.2.1.2.1
  have l2 : rg 2 = (tI M 2 5).toInt := hr.2.1.2.2.1
  have l3 : rg 3 = (tI M 2 3).toInt := hr.2.1.2.2.2
  have l4 : rg 4 = (tI M 1 4).toInt := hr.2.2.1.1
  have l5 : rg 5 = (tI M 1 5).toInt := hr.2.2.1.2.1
  have l7 : rg 7 = (tI M t 4).toInt := hr.2.2.2.1.1
  have l8 : rg 8 = (tI M t 5).toInt := hr.2.2.2.1.2.1
  have l9 : rg 9 = (tI M t 3).toInt := hr.2.2.2.1.2.2
  refine lv_aload_n hx hb dX4_readPart_0 rfl (lv_at hl 0 rfl) ?_
  refine ti_get (ci := 4) (k := 0) (N := 6) (T := TX4) (v := .ref (A 2 0)) C hw iw_4 rfl ob_1 (by decide) (by decide) fl_X4_12 rfl rfl dX4_readPart_1 ?_
  refine ti_get (ci := 7) (k := 4) (N := 7) (T := TX7) C hw iw_7 rfl ob_2 (by decide) (by decide) fl_X4_41 rfl rfl dX4_readPart_4 ?_
  refine lv_topi (fun x_1 ex_1 => ?_)
  have bx_1 : 0 ≤ x_1.toInt ∧ x_1.toInt ≤ 41 := cI_rd hI ob_2.1 ex_1
  have ux_1 : (tI M 2 4).toInt = x_1.toInt := by rw [ex_1]
  refine lv_istore_n (lv' := [(2, .int x_1), (0, .ref (A 1 0)), (1, .int 6)]) hx hb dX4_readPart_7 rfl hl (by decide) rfl (fun ls hl => ?_)
  refine lv_iload_n hx hb dX4_readPart_8 rfl (lv_at hl 0 rfl) ?_
  refine lv_bipush (v := 30) hx hb dX4_readPart_9 (by decide) ?_
  refine sb_icmp_ne (tgt := 28) hx hb rfl (by decide : (30 : Int32).toInt = 30) dX4_readPart_11 (by decide) (fun c_11_1 => ?_) (fun c_11_1 => ?_)
  · refine lv_iload_n hx hb dX4_readPart_28 rfl (lv_at hl 0 rfl) ?_
    refine lv_bipush (v := 30) hx hb dX4_readPart_29 (by decide) ?_
    refine sb_icmp_ne (tgt := 57) hx hb rfl (by decide : (30 : Int32).toInt = 30) dX4_readPart_31 (by decide) (fun c_31_3 => ?_) (fun h => by omega)
    refine lv_iload_n hx hb dX4_readPart_57 rfl (lv_at hl 0 rfl) ?_
    refine lv_bipush (v := 26) hx hb dX4_readPart_58 (by decide) ?_
    refine sb_icmp_ne (tgt := 84) hx hb rfl (by decide : (26 : Int32).toInt = 26) dX4_readPart_60 (by decide) (fun c_60_26 => ?_) (fun c_60_26 => ?_)
    · refine lv_iload_n hx hb dX4_readPart_84 rfl (lv_at hl 0 rfl) ?_
      refine lv_bipush (v := 26) hx hb dX4_readPart_85 (by decide) ?_
      refine sb_icmp_ne (tgt := 111) hx hb rfl (by decide : (26 : Int32).toInt = 26) dX4_readPart_87 (by decide) (fun c_87_35 => ?_) (fun h => by omega)
      refine lv_iload_n hx hb dX4_readPart_111 rfl (lv_at hl 0 rfl) ?_
      refine lv_bipush (v := 16) hx hb dX4_readPart_112 (by decide) ?_
      refine sb_icmp_lt (tgt := 139) hx hb rfl (by decide : (16 : Int32).toInt = 16) dX4_readPart_114 (by decide) (fun c_114_49 => ?_) (fun c_114_49 => ?_)
      · refine lv_aload_n hx hb dX4_readPart_139 rfl (lv_at hl 1 rfl) ?_
        refine lv_iconst (v := 1) hx hb dX4_readPart_140 (by decide) ?_
        refine ti_callVv (ci := 4) (av := [.int 1]) C hw (x_X4_refuse l D A cy hJ M hI t ht 1 B n rg hr) ⟨ml_X4_82, ym_X4_refuse, yv_X4_refuse, yi_X4_refuse, yc_X4_refuse⟩ yd_X4_refuse ob_1 (by decide) rfl rfl hl.1 (Nat.le_of_ble_eq_true rfl) ⟨by decide, by decide⟩ ⟨Nat.zero_le _, Nat.zero_le _⟩ dX4_readPart_141 (fun M_65 H locs hp_65 hw => ?_)
        obtain ⟨iM_65, q_66, q_67, q_68, p0r_64⟩ := hp_65
        have hlr_64_1 : (1 : Int32).toInt = 1 := by decide
        simp only [hlr_64_1] at p0r_64
        obtain ⟨g_69, eg_69⟩ : ∃ z : Nat → Int, z = pp_rf 1 rg := ⟨_, rfl⟩
        rw [← eg_69] at p0r_64
        have lg_69_0 : g_69 0 = (tI M_65 2 4).toInt := p0r_64.2.1.1
        have lg_69_1 : g_69 1 = (tI M_65 2 6).toInt := p0r_64.2.1.2.1
        have lg_69_4 : g_69 4 = (tI M_65 1 4).toInt := p0r_64.2.2.1.1
        have lg_69_7 : g_69 7 = (tI M_65 t 4).toInt := p0r_64.2.2.2.1.1
        have lg_69_8 : g_69 8 = (tI M_65 t 5).toInt := p0r_64.2.2.2.1.2.1
        exact hQ _ _ _ _ _ hw (⟨iM_65, (q_66), (f0_12 q_67), (q_68), (ot_12 ht q_67), (by rw [pe_2, if_neg (by omega)]; unfold pp_p0; rw [if_neg (by omega), if_neg (fun q => by omega), ← eg_69]; exact p0r_64)⟩) dX4_readPart_144
      · refine lv_iload_n hx hb dX4_readPart_117 rfl (lv_at hl 0 rfl) ?_
        refine lv_bipush (v := 21) hx hb dX4_readPart_118 (by decide) ?_
        refine sb_icmp_gt (tgt := 139) hx hb rfl (by decide : (21 : Int32).toInt = 21) dX4_readPart_120 (by decide) (fun c_120_50 => ?_) (fun c_120_50 => ?_)
        · refine lv_aload_n hx hb dX4_readPart_139 rfl (lv_at hl 1 rfl) ?_
          refine lv_iconst (v := 1) hx hb dX4_readPart_140 (by decide) ?_
          refine ti_callVv (ci := 4) (av := [.int 1]) C hw (x_X4_refuse l D A cy hJ M hI t ht 1 B n rg hr) ⟨ml_X4_82, ym_X4_refuse, yv_X4_refuse, yi_X4_refuse, yc_X4_refuse⟩ yd_X4_refuse ob_1 (by decide) rfl rfl hl.1 (Nat.le_of_ble_eq_true rfl) ⟨by decide, by decide⟩ ⟨Nat.zero_le _, Nat.zero_le _⟩ dX4_readPart_141 (fun M_71 H locs hp_71 hw => ?_)
          obtain ⟨iM_71, q_72, q_73, q_74, p0r_70⟩ := hp_71
          have hlr_70_1 : (1 : Int32).toInt = 1 := by decide
          simp only [hlr_70_1] at p0r_70
          obtain ⟨g_75, eg_75⟩ : ∃ z : Nat → Int, z = pp_rf 1 rg := ⟨_, rfl⟩
          rw [← eg_75] at p0r_70
          have lg_75_0 : g_75 0 = (tI M_71 2 4).toInt := p0r_70.2.1.1
          have lg_75_1 : g_75 1 = (tI M_71 2 6).toInt := p0r_70.2.1.2.1
          have lg_75_4 : g_75 4 = (tI M_71 1 4).toInt := p0r_70.2.2.1.1
          have lg_75_7 : g_75 7 = (tI M_71 t 4).toInt := p0r_70.2.2.2.1.1
          have lg_75_8 : g_75 8 = (tI M_71 t 5).toInt := p0r_70.2.2.2.1.2.1
          exact hQ _ _ _ _ _ hw (⟨iM_71, (q_72), (f0_12 q_73), (q_74), (ot_12 ht q_73), (by rw [pe_2, if_neg (by omega)]; unfold pp_p0; rw [if_neg (by omega), if_neg (fun q => by omega), ← eg_75]; exact p0r_70)⟩) dX4_readPart_144
        · refine lv_aload_n hx hb dX4_readPart_123 rfl (lv_at hl 1 rfl) ?_
          refine ti_get (ci := 4) (k := 2) (N := 6) (T := TX4) (v := .ref (A lw 0)) C hw iw_4 rfl ob_1 (by decide) (by decide) fl_X4_154 rfl (ti_Tv (hL)) dX4_readPart_124 ?_
          refine lv_iload_n hx hb dX4_readPart_127 rfl (lv_at hl 0 rfl) ?_
          refine lv_ineg hx hb dX4_readPart_128 ?_
          refine lv_topi (fun x_52 ex_52 => ?_)
          have tx_52 : x_52.toInt = -x_1.toInt := i_neg ex_52 rfl (by omega)
          refine ti_callVv (ci := 1) (av := [.int x_52]) C hw (x_X1_add l D A cy hJ M hI lw hlw x_52 (by first | omega | exact Or.inl (by decide) | exact Or.inr (by decide)) t ht B n rg hr) ⟨ml_X4_170, ym_X1_add, yv_X1_add, yi_X1_add, yc_X1_add⟩ yd_X1_add hlw (by decide) rfl rfl hl.1 (Nat.le_of_ble_eq_true rfl) ⟨by decide, by decide⟩ ⟨Nat.zero_le _, Nat.zero_le _⟩ dX4_readPart_129 (fun M_54 H locs hp_54 hw => ?_)
          obtain ⟨iM_54, q_55, q_56, p0r_53⟩ := hp_54
          have lM_54_0 : rg 0 = (tI M_54 2 4).toInt := p0r_53.2.1.1
          have lM_54_1 : rg 1 = (tI M_54 2 6).toInt := p0r_53.2.1.2.1
          have lM_54_4 : rg 4 = (tI M_54 1 4).toInt := p0r_53.2.2.1.1
          have lM_54_7 : rg 7 = (tI M_54 t 4).toInt := p0r_53.2.2.2.1.1
          have lM_54_8 : rg 8 = (tI M_54 t 5).toInt := p0r_53.2.2.2.1.2.1
          refine lv_aload_n hx hb dX4_readPart_132 rfl (lv_at hl 1 rfl) ?_
          refine ti_callVvE (ci := 4) (av := []) C hE hw (x_X4_knot l D A cy hJ M_54 iM_54 t ht ((tT_fr q_55).trans hT) B n rg p0r_53) ⟨ml_X4_167, ym_X4_knot, yv_X4_knot, yi_X4_knot, yc_X4_knot⟩ yd_X4_knot ob_1 (by decide) rfl rfl hl.1 (Nat.le_of_ble_eq_true rfl) ⟨by decide, by decide⟩ ⟨Nat.zero_le _, Nat.zero_le _⟩ dX4_readPart_133 (fun M_58 H locs hp_58 hw => ?_)
          obtain ⟨iM_58, q_59, q_60, q_61, q_62, p0r_57⟩ := hp_58
          obtain ⟨g_63, eg_63⟩ : ∃ z : Nat → Int, z = pp_kn B n rg := ⟨_, rfl⟩
          rw [← eg_63] at p0r_57
          have lg_63_0 : g_63 0 = (tI M_58 2 4).toInt := p0r_57.2.1.1
          have lg_63_1 : g_63 1 = (tI M_58 2 6).toInt := p0r_57.2.1.2.1
          have lg_63_4 : g_63 4 = (tI M_58 1 4).toInt := p0r_57.2.2.1.1
          have lg_63_7 : g_63 7 = (tI M_58 t 4).toInt := p0r_57.2.2.2.1.1
          have lg_63_8 : g_63 8 = (tI M_58 t 5).toInt := p0r_57.2.2.2.1.2.1
          refine lv_goto (tgt := 144) hx hb dX4_readPart_136 (by decide) ?_
          exact hQ _ _ _ _ _ hw (⟨iM_58, ((q_59).trans q_55), (f0.trans q_60 (f0_x q_56)), ((q_61).trans ((q_56 1).2.1)), (ot.trans q_62 (ot_fx ht q_56)), (by rw [pe_2, if_neg (by omega)]; unfold pp_p0; rw [if_neg (by omega), if_pos ⟨by omega, by omega⟩, ← eg_63]; exact p0r_57)⟩) dX4_readPart_144
    · refine lv_aload_n hx hb dX4_readPart_63 rfl (lv_at hl 1 rfl) ?_
      refine ti_get (ci := 4) (k := 0) (N := 6) (T := TX4) (v := .ref (A 2 0)) C hw iw_4 rfl ob_1 (by decide) (by decide) fl_X4_12 rfl rfl dX4_readPart_64 ?_
      refine ti_get (ci := 7) (k := 6) (N := 7) (T := TX7) C hw iw_7 rfl ob_2 (by decide) (by decide) fl_X4_95 rfl rfl dX4_readPart_67 ?_
      refine lv_topi (fun x_28 ex_28 => ?_)
      have bx_28 : 0 ≤ x_28.toInt ∧ x_28.toInt ≤ 2147483647 := cI_rd hI ob_2.1 ex_28
      have ux_28 : (tI M 2 6).toInt = x_28.toInt := by rw [ex_28]
      refine lv_sipush (v := 9999) hx hb dX4_readPart_70 (by decide) ?_
      refine sb_icmp_le (tgt := 84) hx hb rfl (by decide : (9999 : Int32).toInt = 9999) dX4_readPart_73 (by decide) (fun c_73_28 => ?_) (fun c_73_28 => ?_)
      · refine lv_iload_n hx hb dX4_readPart_84 rfl (lv_at hl 0 rfl) ?_
        refine lv_bipush (v := 26) hx hb dX4_readPart_85 (by decide) ?_
        refine sb_icmp_ne (tgt := 111) hx hb rfl (by decide : (26 : Int32).toInt = 26) dX4_readPart_87 (by decide) (fun h => by omega) (fun c_87_36 => ?_)
        refine lv_aload_n hx hb dX4_readPart_90 rfl (lv_at hl 1 rfl) ?_
        refine ti_get (ci := 4) (k := 2) (N := 6) (T := TX4) (v := .ref (A lw 0)) C hw iw_4 rfl ob_1 (by decide) (by decide) fl_X4_154 rfl (ti_Tv (hL)) dX4_readPart_91 ?_
        refine lv_aload_n hx hb dX4_readPart_94 rfl (lv_at hl 1 rfl) ?_
        refine ti_get (ci := 4) (k := 0) (N := 6) (T := TX4) (v := .ref (A 2 0)) C hw iw_4 rfl ob_1 (by decide) (by decide) fl_X4_12 rfl rfl dX4_readPart_95 ?_
        refine ti_get (ci := 7) (k := 6) (N := 7) (T := TX7) C hw iw_7 rfl ob_2 (by decide) (by decide) fl_X4_95 rfl rfl dX4_readPart_98 ?_
        refine ti_top (y := x_28) (ex_28.symm) ?_
        have u_38 : (tI M 2 6).toInt = (x_28 : Int32).toInt := by rw [(ex_28.symm)]
        refine ti_callVv (ci := 1) (av := [.int x_28]) C hw (x_X1_add l D A cy hJ M hI lw hlw x_28 (by first | omega | exact Or.inl (by decide) | exact Or.inr (by decide)) t ht B n rg hr) ⟨ml_X4_170, ym_X1_add, yv_X1_add, yi_X1_add, yc_X1_add⟩ yd_X1_add hlw (by decide) rfl rfl hl.1 (Nat.le_of_ble_eq_true rfl) ⟨by decide, by decide⟩ ⟨Nat.zero_le _, Nat.zero_le _⟩ dX4_readPart_101 (fun M_40 H locs hp_40 hw => ?_)
        obtain ⟨iM_40, q_41, q_42, p0r_39⟩ := hp_40
        have lM_40_0 : rg 0 = (tI M_40 2 4).toInt := p0r_39.2.1.1
        have lM_40_1 : rg 1 = (tI M_40 2 6).toInt := p0r_39.2.1.2.1
        have lM_40_4 : rg 4 = (tI M_40 1 4).toInt := p0r_39.2.2.1.1
        have lM_40_7 : rg 7 = (tI M_40 t 4).toInt := p0r_39.2.2.2.1.1
        have lM_40_8 : rg 8 = (tI M_40 t 5).toInt := p0r_39.2.2.2.1.2.1
        refine lv_aload_n hx hb dX4_readPart_104 rfl (lv_at hl 1 rfl) ?_
        refine ti_callVvE (ci := 4) (av := []) C hE hw (x_X4_knot l D A cy hJ M_40 iM_40 t ht ((tT_fr q_41).trans hT) B n rg p0r_39) ⟨ml_X4_167, ym_X4_knot, yv_X4_knot, yi_X4_knot, yc_X4_knot⟩ yd_X4_knot ob_1 (by decide) rfl rfl hl.1 (Nat.le_of_ble_eq_true rfl) ⟨by decide, by decide⟩ ⟨Nat.zero_le _, Nat.zero_le _⟩ dX4_readPart_105 (fun M_44 H locs hp_44 hw => ?_)
        obtain ⟨iM_44, q_45, q_46, q_47, q_48, p0r_43⟩ := hp_44
        obtain ⟨g_49, eg_49⟩ : ∃ z : Nat → Int, z = pp_kn B n rg := ⟨_, rfl⟩
        rw [← eg_49] at p0r_43
        have lg_49_0 : g_49 0 = (tI M_44 2 4).toInt := p0r_43.2.1.1
        have lg_49_1 : g_49 1 = (tI M_44 2 6).toInt := p0r_43.2.1.2.1
        have lg_49_4 : g_49 4 = (tI M_44 1 4).toInt := p0r_43.2.2.1.1
        have lg_49_7 : g_49 7 = (tI M_44 t 4).toInt := p0r_43.2.2.2.1.1
        have lg_49_8 : g_49 8 = (tI M_44 t 5).toInt := p0r_43.2.2.2.1.2.1
        refine lv_goto (tgt := 144) hx hb dX4_readPart_108 (by decide) ?_
        exact hQ _ _ _ _ _ hw (⟨iM_44, ((q_45).trans q_41), (f0.trans q_46 (f0_x q_42)), ((q_47).trans ((q_42 1).2.1)), (ot.trans q_48 (ot_fx ht q_42)), (by rw [pe_2, if_neg (by omega)]; unfold pp_p0; rw [if_pos (by omega), if_neg (by omega), ← eg_49]; exact p0r_43)⟩) dX4_readPart_144
      · refine lv_aload_n hx hb dX4_readPart_76 rfl (lv_at hl 1 rfl) ?_
        refine lv_iconst (v := 2) hx hb dX4_readPart_77 (by decide) ?_
        refine ti_callVv (ci := 4) (av := [.int 2]) C hw (x_X4_refuse l D A cy hJ M hI t ht 2 B n rg hr) ⟨ml_X4_82, ym_X4_refuse, yv_X4_refuse, yi_X4_refuse, yc_X4_refuse⟩ yd_X4_refuse ob_1 (by decide) rfl rfl hl.1 (Nat.le_of_ble_eq_true rfl) ⟨by decide, by decide⟩ ⟨Nat.zero_le _, Nat.zero_le _⟩ dX4_readPart_78 (fun M_31 H locs hp_31 hw => ?_)
        obtain ⟨iM_31, q_32, q_33, q_34, p0r_30⟩ := hp_31
        have hlr_30_2 : (2 : Int32).toInt = 2 := by decide
        simp only [hlr_30_2] at p0r_30
        obtain ⟨g_35, eg_35⟩ : ∃ z : Nat → Int, z = pp_rf 2 rg := ⟨_, rfl⟩
        rw [← eg_35] at p0r_30
        have lg_35_0 : g_35 0 = (tI M_31 2 4).toInt := p0r_30.2.1.1
        have lg_35_1 : g_35 1 = (tI M_31 2 6).toInt := p0r_30.2.1.2.1
        have lg_35_4 : g_35 4 = (tI M_31 1 4).toInt := p0r_30.2.2.1.1
        have lg_35_7 : g_35 7 = (tI M_31 t 4).toInt := p0r_30.2.2.2.1.1
        have lg_35_8 : g_35 8 = (tI M_31 t 5).toInt := p0r_30.2.2.2.1.2.1
        refine lv_goto (tgt := 144) hx hb dX4_readPart_81 (by decide) ?_
        exact hQ _ _ _ _ _ hw (⟨iM_31, (q_32), (f0_12 q_33), (q_34), (ot_12 ht q_33), (by rw [pe_2, if_neg (by omega)]; unfold pp_p0; rw [if_pos (by omega), if_pos (by omega), ← eg_35]; exact p0r_30)⟩) dX4_readPart_144
  · refine lv_iload_n hx hb dX4_readPart_14 rfl (lv_at hl 2 rfl) ?_
    refine lv_bipush (v := 8) hx hb dX4_readPart_15 (by decide) ?_
    refine sb_icmp_lt (tgt := 28) hx hb (by decide : (6 : Int32).toInt = 6) (by decide : (8 : Int32).toInt = 8) dX4_readPart_17 (by decide) (fun c_17_2 => ?_) (fun h => absurd h (by decide))
    refine lv_iload_n hx hb dX4_readPart_28 rfl (lv_at hl 0 rfl) ?_
    refine lv_bipush (v := 30) hx hb dX4_readPart_29 (by decide) ?_
    refine sb_icmp_ne (tgt := 57) hx hb rfl (by decide : (30 : Int32).toInt = 30) dX4_readPart_31 (by decide) (fun h => by omega) (fun c_31_4 => ?_)
    refine lv_aload_n hx hb dX4_readPart_34 rfl (lv_at hl 1 rfl) ?_
    refine ti_get (ci := 4) (k := 0) (N := 6) (T := TX4) (v := .ref (A 2 0)) C hw iw_4 rfl ob_1 (by decide) (by decide) fl_X4_12 rfl rfl dX4_readPart_35 ?_
    refine ti_callVvE (ci := 7) (av := []) C hE hw (x_X7_advance l D A cy hJ M hI ) ⟨ml_X4_92, ym_X7_advance, yv_X7_advance, yi_X7_advance, yc_X7_advance⟩ yd_X7_advance ob_2 (by decide) rfl rfl hl.1 (Nat.le_of_ble_eq_true rfl) ⟨by decide, by decide⟩ ⟨Nat.zero_le _, Nat.zero_le _⟩ dX4_readPart_38 (fun M_7 H locs hp_7 hw => ?_)
    obtain ⟨iM_7, q_8, q_9, q_10, q_11, p0r_6, p1r_6, p2r_6, p3r_6⟩ := hp_7
    have hs_12 := rC_av ht hr q_11 q_9 p0r_6 p1r_6 p2r_6 p3r_6
    obtain ⟨g_13, eg_13⟩ : ∃ z : Nat → Int, z = pp_av B n rg := ⟨_, rfl⟩
    rw [← eg_13] at hs_12
    have lg_13_0 : g_13 0 = (tI M_7 2 4).toInt := hs_12.2.1.1
    have lg_13_1 : g_13 1 = (tI M_7 2 6).toInt := hs_12.2.1.2.1
    have lg_13_4 : g_13 4 = (tI M_7 1 4).toInt := hs_12.2.2.1.1
    have lg_13_7 : g_13 7 = (tI M_7 t 4).toInt := hs_12.2.2.2.1.1
    have lg_13_8 : g_13 8 = (tI M_7 t 5).toInt := hs_12.2.2.2.1.2.1
    refine lv_aload_n hx hb dX4_readPart_41 rfl (lv_at hl 1 rfl) ?_
    refine lv_iload_n hx hb dX4_readPart_42 rfl (lv_at hl 2 rfl) ?_
    refine lv_iconst (v := 1) hx hb dX4_readPart_43 (by decide) ?_
    refine lv_iadd hx hb dX4_readPart_44 ?_
    refine ti_top (y := 7) (by decide) ?_
    refine ti_callVvE (ci := 4) (av := [.int 7]) C hE hw (x_X4_readEither_7 l D A cy hJ M_7 iM_7 t ht ((tT_fr q_8).trans hT) lw hlw ((tT_fr q_8).trans hL) B n g_13 hs_12) ⟨ml_X4_158, ym_X4_readEither, yv_X4_readEither, yi_X4_readEither, yc_X4_readEither⟩ yd_X4_readEither ob_1 (by decide) rfl rfl hl.1 (Nat.le_of_ble_eq_true rfl) ⟨by decide, by decide⟩ ⟨Nat.zero_le _, Nat.zero_le _⟩ dX4_readPart_45 (fun M_15 H locs hp_15 hw => ?_)
    obtain ⟨iM_15, q_16, q_17, q_18, q_19, p0r_14⟩ := hp_15
    obtain ⟨g_20, eg_20⟩ : ∃ z : Nat → Int, z = pp_ei B n (pp_pt B n 1) g_13 := ⟨_, rfl⟩
    rw [← eg_20] at p0r_14
    have lg_20_0 : g_20 0 = (tI M_15 2 4).toInt := p0r_14.2.1.1
    have lg_20_1 : g_20 1 = (tI M_15 2 6).toInt := p0r_14.2.1.2.1
    have lg_20_4 : g_20 4 = (tI M_15 1 4).toInt := p0r_14.2.2.1.1
    have lg_20_7 : g_20 7 = (tI M_15 t 4).toInt := p0r_14.2.2.2.1.1
    have lg_20_8 : g_20 8 = (tI M_15 t 5).toInt := p0r_14.2.2.2.1.2.1
    refine lv_aload_n hx hb dX4_readPart_48 rfl (lv_at hl 1 rfl) ?_
    refine lv_bipush (v := 31) hx hb dX4_readPart_49 (by decide) ?_
    refine ti_callVvE (ci := 4) (av := [.int 31]) C hE hw (x_X4_take l D A cy hJ M_15 iM_15 t ht 31 B n g_20 p0r_14) ⟨ml_X4_85, ym_X4_take, yv_X4_take, yi_X4_take, yc_X4_take⟩ yd_X4_take ob_1 (by decide) rfl rfl hl.1 (Nat.le_of_ble_eq_true rfl) ⟨by decide, by decide⟩ ⟨Nat.zero_le _, Nat.zero_le _⟩ dX4_readPart_51 (fun M_22 H locs hp_22 hw => ?_)
    obtain ⟨iM_22, q_23, q_24, q_25, p0r_21⟩ := hp_22
    have hlr_21_31 : (31 : Int32).toInt = 31 := by decide
    simp only [hlr_21_31] at p0r_21
    obtain ⟨g_26, eg_26⟩ : ∃ z : Nat → Int, z = pp_tk B n 31 g_20 := ⟨_, rfl⟩
    rw [← eg_26] at p0r_21
    have lg_26_0 : g_26 0 = (tI M_22 2 4).toInt := p0r_21.2.1.1
    have lg_26_1 : g_26 1 = (tI M_22 2 6).toInt := p0r_21.2.1.2.1
    have lg_26_4 : g_26 4 = (tI M_22 1 4).toInt := p0r_21.2.2.1.1
    have lg_26_7 : g_26 7 = (tI M_22 t 4).toInt := p0r_21.2.2.2.1.1
    have lg_26_8 : g_26 8 = (tI M_22 t 5).toInt := p0r_21.2.2.2.1.2.1
    refine lv_goto (tgt := 144) hx hb dX4_readPart_54 (by decide) ?_
    exact hQ _ _ _ _ _ hw (⟨iM_22, ((q_23).trans ((q_16).trans q_8)), (f0.trans (f0_12 q_24) (f0.trans q_17 (f0_12 (o2_12 q_9)))), ((q_25).trans ((q_18).trans q_10)), (ot.trans (ot_12 ht q_24) (ot.trans q_19 (ot_12 ht (o2_12 q_9)))), (by rw [pe_2, if_pos (by omega), ← eg_13, ← eg_20, ← eg_26]; exact p0r_21)⟩) dX4_readPart_144
set_option maxHeartbeats 4000000 in
set_option maxRecDepth 100000 in
theorem x_X4_readProduct_6 (l : Launch) (D : va_G) (A : Nat → Nat → Nat) (cy : Nat → ClassId) (hJ : ti_inj ti_LT A) (M : ti_M) (hI : cI Tc M) (t : Nat) (ht : t = 3 ∨ t = 4) (hT : tT M 1 1 = some t) (lw : Nat) (hlw : ti_ob ti_LT lw 1) (hL : tT M 1 2 = some lw) (B : Nat → Int) (n : Nat) (rg : Nat → Int) (hr : rC B n t rg M) : ti_KvE l yX4_readProduct cX4_readProduct 4 23 ti_LT D A cy M [.ref (A 1 0), .int 6] (fun M2 => cI Tc M2 ∧ M2.2.2.2 = M.2.2.2 ∧ f0 M2 M ∧ tI M2 2 1 = tI M 2 1 ∧ ot t M2 M ∧ rC B n t (pp_pd B n (pp_pt B n 2) rg) M2) := by
  refine ti_eVE yp_X4_readProduct hJ ti_LT_nd (Nat.le_of_ble_eq_true rfl) ?_
  intro p e s m args below meth c Q H0 C hE hQ hw ls hl
  have hx := C.1
  have hb := C.2.1
  have hl : lv_has ls 4 [(0, .ref (A 1 0)), (1, .int 6)] := hl
  have l0 : rg 0 = (tI M 2 4).toInt := hr.2.1.1
  have l1 : rg 1 = (tI M 2 6).toInt := hr.2.1.2.1
  have l2 : rg 2 = (tI M 2 5).toInt := hr.2.1.2.2.1
  have l3 : rg 3 = (tI M 2 3).toInt := hr.2.1.2.2.2
  have l4 : rg 4 = (tI M 1 4).toInt := hr.2.2.1.1
  have l5 : rg 5 = (tI M 1 5).toInt := hr.2.2.1.2.1
  have l7 : rg 7 = (tI M t 4).toInt := hr.2.2.2.1.1
  have l8 : rg 8 = (tI M t 5).toInt := hr.2.2.2.1.2.1
  have l9 : rg 9 = (tI M t 3).toInt := hr.2.2.2.1.2.2
  refine lv_aload_n hx hb dX4_readProduct_0 rfl (lv_at hl 0 rfl) ?_
  refine lv_iload_n hx hb dX4_readProduct_1 rfl (lv_at hl 1 rfl) ?_
  refine ti_callVvE (ci := 4) (av := [.int 6]) C hE hw (x_X4_readPart_6 l D A cy hJ M hI t ht (hT) lw hlw (hL) B n rg hr) ⟨ml_X4_187, ym_X4_readPart, yv_X4_readPart, yi_X4_readPart, yc_X4_readPart⟩ yd_X4_readPart ob_1 (by decide) rfl rfl hl.1 (Nat.le_of_ble_eq_true rfl) ⟨by decide, by decide⟩ ⟨Nat.zero_le _, Nat.zero_le _⟩ dX4_readProduct_2 (fun M_2 H locs hp_2 hw => ?_)
  obtain ⟨iM_2, q_3, q_4, q_5, q_6, p0r_1⟩ := hp_2
  obtain ⟨g_7, eg_7⟩ : ∃ z : Nat → Int, z = pp_pt B n 2 rg := ⟨_, rfl⟩
  rw [← eg_7] at p0r_1
  have lg_7_0 : g_7 0 = (tI M_2 2 4).toInt := p0r_1.2.1.1
  have lg_7_1 : g_7 1 = (tI M_2 2 6).toInt := p0r_1.2.1.2.1
  have lg_7_4 : g_7 4 = (tI M_2 1 4).toInt := p0r_1.2.2.1.1
  have lg_7_7 : g_7 7 = (tI M_2 t 4).toInt := p0r_1.2.2.2.1.1
  have lg_7_8 : g_7 8 = (tI M_2 t 5).toInt := p0r_1.2.2.2.1.2.1
  refine lv_iconst (v := 0) hx hb dX4_readProduct_5 (by decide) ?_
  refine lv_istore_n (lv' := [(2, .int 0), (0, .ref (A 1 0)), (1, .int 6)]) hx hb dX4_readProduct_6 rfl hl (by decide) rfl (fun ls hl => ?_)
  have hl_7_20 : ∀ (n_21 : Nat) (x_8 : Int32) (M_11 : ti_M) (g_18 : Nat → Int) (H : Heap) (locs : List Loc) (ls : Array Slot), (64 - x_8.toInt : Int).toNat < n_21 → (0 ≤ x_8.toInt) → (x_8.toInt ≤ 64) → (cI Tc M_11) → (M_11.2.2.2 = M.2.2.2) → (f0 M_11 M) → (tI M_11 2 1 = tI M 2 1) → (ot t M_11 M) → (tT M_11 1 1 = (some t)) → (tT M_11 1 2 = (some lw)) → (rC B n t g_18 M_11) → (pp_lp pp_qT (fun s => (pp_pt B n 2) (pp_kn B n s)) 64 g_7 = pp_lp pp_qT (fun s => (pp_pt B n 2) (pp_kn B n s)) (64 - (x_8.toInt).toNat) g_18) → ti_H ti_LT D A cy H0 M_11 H locs → lv_has ls 4 [(2, .int x_8), (0, .ref (A 1 0)), (1, .int 6)] → W p l e (ti_rm 23) s m args below meth c H locs 0 0 Q (F0 m 7 ls []) := by
    intro n_21
    induction n_21 with
    | zero => intro x_8 M_11 g_18 H locs ls hf_21; exact absurd hf_21 (Nat.not_lt_zero _)
    | succ n_21 ih_21 =>
      intro x_8 M_11 g_18 H locs ls hf_21 b_9 b_10 iM_11 f_12 f_13 f_14 f_15 f_16 f_17 hs_19 j_20 hw hl
      have lg_18_0 : g_18 0 = (tI M_11 2 4).toInt := hs_19.2.1.1
      have lg_18_1 : g_18 1 = (tI M_11 2 6).toInt := hs_19.2.1.2.1
      have lg_18_4 : g_18 4 = (tI M_11 1 4).toInt := hs_19.2.2.1.1
      have lg_18_7 : g_18 7 = (tI M_11 t 4).toInt := hs_19.2.2.2.1.1
      have lg_18_8 : g_18 8 = (tI M_11 t 5).toInt := hs_19.2.2.2.1.2.1
      refine lv_iload_n hx hb dX4_readProduct_7 rfl (lv_at hl 0 rfl) ?_
      refine lv_bipush (v := 64) hx hb dX4_readProduct_8 (by decide) ?_
      refine sb_icmp_ge (tgt := 69) hx hb rfl (by decide : (64 : Int32).toInt = 64) dX4_readProduct_10 (by decide) (fun c_10_21 => ?_) (fun c_10_21 => ?_)
      · exact hQ _ _ _ _ _ hw (⟨iM_11, (f_12), f_13, (f_14), f_15, (by unfold pp_pd; rw [← eg_7, j_20, lp_end (P := pp_qT) (f := 64 - x_8.toInt.toNat) (s := g_18) (Or.inl (by omega))]; exact hs_19)⟩) dX4_readProduct_69
      · refine lv_aload_n hx hb dX4_readProduct_13 rfl (lv_at hl 1 rfl) ?_
        refine ti_get (ci := 4) (k := 0) (N := 6) (T := TX4) (v := .ref (A 2 0)) C hw iw_4 rfl ob_1 (by decide) (by decide) fl_X4_12 rfl rfl dX4_readProduct_14 ?_
        refine ti_get (ci := 7) (k := 4) (N := 7) (T := TX7) C hw iw_7 rfl ob_2 (by decide) (by decide) fl_X4_41 rfl rfl dX4_readProduct_17 ?_
        refine lv_topi (fun x_23 ex_23 => ?_)
        have bx_23 : 0 ≤ x_23.toInt ∧ x_23.toInt ≤ 41 := cI_rd iM_11 ob_2.1 ex_23
        have ux_23 : (tI M_11 2 4).toInt = x_23.toInt := by rw [ex_23]
        refine lv_bipush (v := 40) hx hb dX4_readProduct_20 (by decide) ?_
        refine sb_icmp_eq (tgt := 37) hx hb rfl (by decide : (40 : Int32).toInt = 40) dX4_readProduct_22 (by decide) (fun c_22_23 => ?_) (fun c_22_23 => ?_)
        · refine lv_aload_n hx hb dX4_readProduct_37 rfl (lv_at hl 1 rfl) ?_
          refine ti_get (ci := 4) (k := 0) (N := 6) (T := TX4) (v := .ref (A 2 0)) C hw iw_4 rfl ob_1 (by decide) (by decide) fl_X4_12 rfl rfl dX4_readProduct_38 ?_
          refine ti_get (ci := 7) (k := 4) (N := 7) (T := TX7) C hw iw_7 rfl ob_2 (by decide) (by decide) fl_X4_41 rfl rfl dX4_readProduct_41 ?_
          refine ti_top (y := x_23) (ex_23.symm) ?_
          have u_27 : (tI M_11 2 4).toInt = (x_23 : Int32).toInt := by rw [(ex_23.symm)]
          refine lv_istore_n (lv' := [(3, .int x_23), (2, .int x_8), (0, .ref (A 1 0)), (1, .int 6)]) hx hb dX4_readProduct_44 rfl hl (by decide) rfl (fun ls hl => ?_)
          refine lv_aload_n hx hb dX4_readProduct_45 rfl (lv_at hl 2 rfl) ?_
          refine ti_callVvE (ci := 4) (av := []) C hE hw (x_X4_knot l D A cy hJ M_11 iM_11 t ht (f_16) B n g_18 hs_19) ⟨ml_X4_167, ym_X4_knot, yv_X4_knot, yi_X4_knot, yc_X4_knot⟩ yd_X4_knot ob_1 (by decide) rfl rfl hl.1 (Nat.le_of_ble_eq_true rfl) ⟨by decide, by decide⟩ ⟨Nat.zero_le _, Nat.zero_le _⟩ dX4_readProduct_46 (fun M_29 H locs hp_29 hw => ?_)
          obtain ⟨iM_29, q_30, q_31, q_32, q_33, p0r_28⟩ := hp_29
          obtain ⟨g_34, eg_34⟩ : ∃ z : Nat → Int, z = pp_kn B n g_18 := ⟨_, rfl⟩
          rw [← eg_34] at p0r_28
          have lg_34_0 : g_34 0 = (tI M_29 2 4).toInt := p0r_28.2.1.1
          have lg_34_1 : g_34 1 = (tI M_29 2 6).toInt := p0r_28.2.1.2.1
          have lg_34_4 : g_34 4 = (tI M_29 1 4).toInt := p0r_28.2.2.1.1
          have lg_34_7 : g_34 7 = (tI M_29 t 4).toInt := p0r_28.2.2.2.1.1
          have lg_34_8 : g_34 8 = (tI M_29 t 5).toInt := p0r_28.2.2.2.1.2.1
          refine lv_aload_n hx hb dX4_readProduct_49 rfl (lv_at hl 2 rfl) ?_
          refine lv_iload_n hx hb dX4_readProduct_50 rfl (lv_at hl 3 rfl) ?_
          refine ti_callVvE (ci := 4) (av := [.int 6]) C hE hw (x_X4_readPart_6 l D A cy hJ M_29 iM_29 t ht ((tT_fr q_30).trans f_16) lw hlw ((tT_fr q_30).trans f_17) B n g_34 p0r_28) ⟨ml_X4_187, ym_X4_readPart, yv_X4_readPart, yi_X4_readPart, yc_X4_readPart⟩ yd_X4_readPart ob_1 (by decide) rfl rfl hl.1 (Nat.le_of_ble_eq_true rfl) ⟨by decide, by decide⟩ ⟨Nat.zero_le _, Nat.zero_le _⟩ dX4_readProduct_51 (fun M_36 H locs hp_36 hw => ?_)
          obtain ⟨iM_36, q_37, q_38, q_39, q_40, p0r_35⟩ := hp_36
          obtain ⟨g_41, eg_41⟩ : ∃ z : Nat → Int, z = pp_pt B n 2 g_34 := ⟨_, rfl⟩
          rw [← eg_41] at p0r_35
          have lg_41_0 : g_41 0 = (tI M_36 2 4).toInt := p0r_35.2.1.1
          have lg_41_1 : g_41 1 = (tI M_36 2 6).toInt := p0r_35.2.1.2.1
          have lg_41_4 : g_41 4 = (tI M_36 1 4).toInt := p0r_35.2.2.1.1
          have lg_41_7 : g_41 7 = (tI M_36 t 4).toInt := p0r_35.2.2.2.1.1
          have lg_41_8 : g_41 8 = (tI M_36 t 5).toInt := p0r_35.2.2.2.1.2.1
          refine lv_aload_n hx hb dX4_readProduct_54 rfl (lv_at hl 2 rfl) ?_
          refine ti_get (ci := 4) (k := 2) (N := 6) (T := TX4) (v := .ref (A lw 0)) C hw iw_4 rfl ob_1 (by decide) (by decide) fl_X4_154 rfl (ti_Tv ((tT_fr q_37).trans ((tT_fr q_30).trans f_17))) dX4_readProduct_55 ?_
          refine lv_iload_n hx hb dX4_readProduct_58 rfl (lv_at hl 0 rfl) ?_
          refine lv_ineg hx hb dX4_readProduct_59 ?_
          refine lv_topi (fun x_42 ex_42 => ?_)
          have tx_42 : x_42.toInt = -x_23.toInt := i_neg ex_42 rfl (by omega)
          refine ti_callVv (ci := 1) (av := [.int x_42]) C hw (x_X1_add l D A cy hJ M_36 iM_36 lw hlw x_42 (by first | omega | exact Or.inl (by decide) | exact Or.inr (by decide)) t ht B n g_41 p0r_35) ⟨ml_X4_170, ym_X1_add, yv_X1_add, yi_X1_add, yc_X1_add⟩ yd_X1_add hlw (by decide) rfl rfl hl.1 (Nat.le_of_ble_eq_true rfl) ⟨by decide, by decide⟩ ⟨Nat.zero_le _, Nat.zero_le _⟩ dX4_readProduct_60 (fun M_44 H locs hp_44 hw => ?_)
          obtain ⟨iM_44, q_45, q_46, p0r_43⟩ := hp_44
          have lM_44_0 : g_41 0 = (tI M_44 2 4).toInt := p0r_43.2.1.1
          have lM_44_1 : g_41 1 = (tI M_44 2 6).toInt := p0r_43.2.1.2.1
          have lM_44_4 : g_41 4 = (tI M_44 1 4).toInt := p0r_43.2.2.1.1
          have lM_44_7 : g_41 7 = (tI M_44 t 4).toInt := p0r_43.2.2.2.1.1
          have lM_44_8 : g_41 8 = (tI M_44 t 5).toInt := p0r_43.2.2.2.1.2.1
          obtain ⟨x_47, ex_47⟩ : ∃ z : Int32, z = x_8 + 1 := ⟨_, rfl⟩
          have tx_47 : x_47.toInt = x_8.toInt + 1 := i_add ex_47 rfl (by decide) (by omega) (by omega)
          refine lv_iinc (v := x_47) (lv' := [(2, .int x_47), (3, .int x_23), (0, .ref (A 1 0)), (1, .int 6)]) hx hb dX4_readProduct_63 hl (k := 1) rfl (by rw [ex_47]; rfl) (by decide) rfl (fun ls hl => ?_)
          refine lv_goto (tgt := 7) hx hb dX4_readProduct_66 (by decide) ?_
          exact ih_21 x_47 M_44 g_41 _ _ _ (by omega) (by first | omega | decide) (by first | omega | decide) iM_44 ((q_45).trans ((q_37).trans ((q_30).trans f_12))) (f0.trans (f0_x q_46) (f0.trans q_38 (f0.trans q_31 f_13))) (((q_46 1).2.1).trans ((q_39).trans ((q_32).trans f_14))) (ot.trans (ot_fx ht q_46) (ot.trans q_40 (ot.trans q_33 f_15))) ((tT_fr q_45).trans ((tT_fr q_37).trans ((tT_fr q_30).trans f_16))) ((tT_fr q_45).trans ((tT_fr q_37).trans ((tT_fr q_30).trans f_17))) p0r_43 (j_20.trans (lp_step (decide_eq_true (by omega)) (by rw [eg_41, eg_34]) (by omega))) hw (lv_sub hl [0, 2, 3] rfl)
        · refine lv_aload_n hx hb dX4_readProduct_25 rfl (lv_at hl 1 rfl) ?_
          refine ti_get (ci := 4) (k := 0) (N := 6) (T := TX4) (v := .ref (A 2 0)) C hw iw_4 rfl ob_1 (by decide) (by decide) fl_X4_12 rfl rfl dX4_readProduct_26 ?_
          refine ti_get (ci := 7) (k := 4) (N := 7) (T := TX7) C hw iw_7 rfl ob_2 (by decide) (by decide) fl_X4_41 rfl rfl dX4_readProduct_29 ?_
          refine ti_top (y := x_23) (ex_23.symm) ?_
          have u_25 : (tI M_11 2 4).toInt = (x_23 : Int32).toInt := by rw [(ex_23.symm)]
          refine lv_bipush (v := 41) hx hb dX4_readProduct_32 (by decide) ?_
          refine sb_icmp_ne (tgt := 69) hx hb rfl (by decide : (41 : Int32).toInt = 41) dX4_readProduct_34 (by decide) (fun c_34_25 => ?_) (fun c_34_25 => ?_)
          · exact hQ _ _ _ _ _ hw (⟨iM_11, (f_12), f_13, (f_14), f_15, (by unfold pp_pd; rw [← eg_7, j_20, lp_end (P := pp_qT) (f := 64 - x_8.toInt.toNat) (s := g_18) (Or.inr (decide_eq_false (by omega)))]; exact hs_19)⟩) dX4_readProduct_69
          · refine lv_aload_n hx hb dX4_readProduct_37 rfl (lv_at hl 1 rfl) ?_
            refine ti_get (ci := 4) (k := 0) (N := 6) (T := TX4) (v := .ref (A 2 0)) C hw iw_4 rfl ob_1 (by decide) (by decide) fl_X4_12 rfl rfl dX4_readProduct_38 ?_
            refine ti_get (ci := 7) (k := 4) (N := 7) (T := TX7) C hw iw_7 rfl ob_2 (by decide) (by decide) fl_X4_41 rfl rfl dX4_readProduct_41 ?_
            refine ti_top (y := x_23) (ex_23.symm) ?_
            have u_48 : (tI M_11 2 4).toInt = (x_23 : Int32).toInt := by rw [(ex_23.symm)]
            refine lv_istore_n (lv' := [(3, .int x_23), (2, .int x_8), (0, .ref (A 1 0)), (1, .int 6)]) hx hb dX4_readProduct_44 rfl hl (by decide) rfl (fun ls hl => ?_)
            refine lv_aload_n hx hb dX4_readProduct_45 rfl (lv_at hl 2 rfl) ?_
            refine ti_callVvE (ci := 4) (av := []) C hE hw (x_X4_knot l D A cy hJ M_11 iM_11 t ht (f_16) B n g_18 hs_19) ⟨ml_X4_167, ym_X4_knot, yv_X4_knot, yi_X4_knot, yc_X4_knot⟩ yd_X4_knot ob_1 (by decide) rfl rfl hl.1 (Nat.le_of_ble_eq_true rfl) ⟨by decide, by decide⟩ ⟨Nat.zero_le _, Nat.zero_le _⟩ dX4_readProduct_46 (fun M_50 H locs hp_50 hw => ?_)
            obtain ⟨iM_50, q_51, q_52, q_53, q_54, p0r_49⟩ := hp_50
            obtain ⟨g_55, eg_55⟩ : ∃ z : Nat → Int, z = pp_kn B n g_18 := ⟨_, rfl⟩
            rw [← eg_55] at p0r_49
            have lg_55_0 : g_55 0 = (tI M_50 2 4).toInt := p0r_49.2.1.1
            have lg_55_1 : g_55 1 = (tI M_50 2 6).toInt := p0r_49.2.1.2.1
            have lg_55_4 : g_55 4 = (tI M_50 1 4).toInt := p0r_49.2.2.1.1
            have lg_55_7 : g_55 7 = (tI M_50 t 4).toInt := p0r_49.2.2.2.1.1
            have lg_55_8 : g_55 8 = (tI M_50 t 5).toInt := p0r_49.2.2.2.1.2.1
            refine lv_aload_n hx hb dX4_readProduct_49 rfl (lv_at hl 2 rfl) ?_
            refine lv_iload_n hx hb dX4_readProduct_50 rfl (lv_at hl 3 rfl) ?_
            refine ti_callVvE (ci := 4) (av := [.int 6]) C hE hw (x_X4_readPart_6 l D A cy hJ M_50 iM_50 t ht ((tT_fr q_51).trans f_16) lw hlw ((tT_fr q_51).trans f_17) B n g_55 p0r_49) ⟨ml_X4_187, ym_X4_readPart, yv_X4_readPart, yi_X4_readPart, yc_X4_readPart⟩ yd_X4_readPart ob_1 (by decide) rfl rfl hl.1 (Nat.le_of_ble_eq_true rfl) ⟨by decide, by decide⟩ ⟨Nat.zero_le _, Nat.zero_le _⟩ dX4_readProduct_51 (fun M_57 H locs hp_57 hw => ?_)
            obtain ⟨iM_57, q_58, q_59, q_60, q_61, p0r_56⟩ := hp_57
            obtain ⟨g_62, eg_62⟩ : ∃ z : Nat → Int, z = pp_pt B n 2 g_55 := ⟨_, rfl⟩
            rw [← eg_62] at p0r_56
            have lg_62_0 : g_62 0 = (tI M_57 2 4).toInt := p0r_56.2.1.1
            have lg_62_1 : g_62 1 = (tI M_57 2 6).toInt := p0r_56.2.1.2.1
            have lg_62_4 : g_62 4 = (tI M_57 1 4).toInt := p0r_56.2.2.1.1
            have lg_62_7 : g_62 7 = (tI M_57 t 4).toInt := p0r_56.2.2.2.1.1
            have lg_62_8 : g_62 8 = (tI M_57 t 5).toInt := p0r_56.2.2.2.1.2.1
            refine lv_aload_n hx hb dX4_readProduct_54 rfl (lv_at hl 2 rfl) ?_
            refine ti_get (ci := 4) (k := 2) (N := 6) (T := TX4) (v := .ref (A lw 0)) C hw iw_4 rfl ob_1 (by decide) (by decide) fl_X4_154 rfl (ti_Tv ((tT_fr q_58).trans ((tT_fr q_51).trans f_17))) dX4_readProduct_55 ?_
            refine lv_iload_n hx hb dX4_readProduct_58 rfl (lv_at hl 0 rfl) ?_
            refine lv_ineg hx hb dX4_readProduct_59 ?_
            refine lv_topi (fun x_63 ex_63 => ?_)
            have tx_63 : x_63.toInt = -x_23.toInt := i_neg ex_63 rfl (by omega)
            refine ti_callVv (ci := 1) (av := [.int x_63]) C hw (x_X1_add l D A cy hJ M_57 iM_57 lw hlw x_63 (by first | omega | exact Or.inl (by decide) | exact Or.inr (by decide)) t ht B n g_62 p0r_56) ⟨ml_X4_170, ym_X1_add, yv_X1_add, yi_X1_add, yc_X1_add⟩ yd_X1_add hlw (by decide) rfl rfl hl.1 (Nat.le_of_ble_eq_true rfl) ⟨by decide, by decide⟩ ⟨Nat.zero_le _, Nat.zero_le _⟩ dX4_readProduct_60 (fun M_65 H locs hp_65 hw => ?_)
            obtain ⟨iM_65, q_66, q_67, p0r_64⟩ := hp_65
            have lM_65_0 : g_62 0 = (tI M_65 2 4).toInt := p0r_64.2.1.1
            have lM_65_1 : g_62 1 = (tI M_65 2 6).toInt := p0r_64.2.1.2.1
            have lM_65_4 : g_62 4 = (tI M_65 1 4).toInt := p0r_64.2.2.1.1
            have lM_65_7 : g_62 7 = (tI M_65 t 4).toInt := p0r_64.2.2.2.1.1
            have lM_65_8 : g_62 8 = (tI M_65 t 5).toInt := p0r_64.2.2.2.1.2.1
            obtain ⟨x_68, ex_68⟩ : ∃ z : Int32, z = x_8 + 1 := ⟨_, rfl⟩
            have tx_68 : x_68.toInt = x_8.toInt + 1 := i_add ex_68 rfl (by decide) (by omega) (by omega)
            refine lv_iinc (v := x_68) (lv' := [(2, .int x_68), (3, .int x_23), (0, .ref (A 1 0)), (1, .int 6)]) hx hb dX4_readProduct_63 hl (k := 1) rfl (by rw [ex_68]; rfl) (by decide) rfl (fun ls hl => ?_)
            refine lv_goto (tgt := 7) hx hb dX4_readProduct_66 (by decide) ?_
            exact ih_21 x_68 M_65 g_62 _ _ _ (by omega) (by first | omega | decide) (by first | omega | decide) iM_65 ((q_66).trans ((q_58).trans ((q_51).trans f_12))) (f0.trans (f0_x q_67) (f0.trans q_59 (f0.trans q_52 f_13))) (((q_67 1).2.1).trans ((q_60).trans ((q_53).trans f_14))) (ot.trans (ot_fx ht q_67) (ot.trans q_61 (ot.trans q_54 f_15))) ((tT_fr q_66).trans ((tT_fr q_58).trans ((tT_fr q_51).trans f_16))) ((tT_fr q_66).trans ((tT_fr q_58).trans ((tT_fr q_51).trans f_17))) p0r_64 (j_20.trans (lp_step (decide_eq_true (by omega)) (by rw [eg_62, eg_55]) (by omega))) hw (lv_sub hl [0, 2, 3] rfl)
  exact hl_7_20 ((64 - 0 : Int).toNat + 1) 0 M_2 g_7 _ _ _ (Nat.lt_succ_self _) (by have lt0 : (0 : Int32).toInt = 0 := (by decide); first | omega | decide) (by have lt0 : (0 : Int32).toInt = 0 := (by decide); first | omega | decide) iM_2 (q_3) q_4 (q_5) q_6 ((tT_fr q_3).trans hT) ((tT_fr q_3).trans hL) p0r_1 rfl hw (lv_sub hl [0, 1, 2] rfl)
set_option maxHeartbeats 4000000 in
set_option maxRecDepth 100000 in
theorem x_X4_readSum_6 (l : Launch) (D : va_G) (A : Nat → Nat → Nat) (cy : Nat → ClassId) (hJ : ti_inj ti_LT A) (M : ti_M) (hI : cI Tc M) (t : Nat) (ht : t = 3 ∨ t = 4) (hT : tT M 1 1 = some t) (lw : Nat) (hlw : ti_ob ti_LT lw 1) (hL : tT M 1 2 = some lw) (B : Nat → Int) (n : Nat) (rg : Nat → Int) (hr : rC B n t rg M) : ti_KvE l yX4_readSum cX4_readSum 4 24 ti_LT D A cy M [.ref (A 1 0), .int 6] (fun M2 => cI Tc M2 ∧ M2.2.2.2 = M.2.2.2 ∧ f0 M2 M ∧ tI M2 2 1 = tI M 2 1 ∧ ot t M2 M ∧ rC B n t (pp_sm B n (pp_pt B n 2) rg) M2) := by
  refine ti_eVE yp_X4_readSum hJ ti_LT_nd (Nat.le_of_ble_eq_true rfl) ?_
  intro p e s m args below meth c Q H0 C hE hQ hw ls hl
  have hx := C.1
  have hb := C.2.1
  have hl : lv_has ls 4 [(0, .ref (A 1 0)), (1, .int 6)] := hl
  have l0 : rg 0 = (tI M 2 4).toInt := hr.2.1.1
  have l1 : rg 1 = (tI M 2 6).toInt := hr.2.1.2.1
  have l2 : rg 2 = (tI M 2 5).toInt := hr.2.1.2.2.1
  have l3 : rg 3 = (tI M 2 3).toInt := hr.2.1.2.2.2
  have l4 : rg 4 = (tI M 1 4).toInt := hr.2.2.1.1
  have l5 : rg 5 = (tI M 1 5).toInt := hr.2.2.1.2.1
  have l7 : rg 7 = (tI M t 4).toInt := hr.2.2.2.1.1
  have l8 : rg 8 = (tI M t 5).toInt := hr.2.2.2.1.2.1
  have l9 : rg 9 = (tI M t 3).toInt := hr.2.2.2.1.2.2
  refine lv_aload_n hx hb dX4_readSum_0 rfl (lv_at hl 0 rfl) ?_
  refine lv_iload_n hx hb dX4_readSum_1 rfl (lv_at hl 1 rfl) ?_
  refine ti_callVvE (ci := 4) (av := [.int 6]) C hE hw (x_X4_readProduct_6 l D A cy hJ M hI t ht (hT) lw hlw (hL) B n rg hr) ⟨ml_X4_184, ym_X4_readProduct, yv_X4_readProduct, yi_X4_readProduct, yc_X4_readProduct⟩ yd_X4_readProduct ob_1 (by decide) rfl rfl hl.1 (Nat.le_of_ble_eq_true rfl) ⟨by decide, by decide⟩ ⟨Nat.zero_le _, Nat.zero_le _⟩ dX4_readSum_2 (fun M_2 H locs hp_2 hw => ?_)
  obtain ⟨iM_2, q_3, q_4, q_5, q_6, p0r_1⟩ := hp_2
  obtain ⟨g_7, eg_7⟩ : ∃ z : Nat → Int, z = pp_pd B n (pp_pt B n 2) rg := ⟨_, rfl⟩
  rw [← eg_7] at p0r_1
  have lg_7_0 : g_7 0 = (tI M_2 2 4).toInt := p0r_1.2.1.1
  have lg_7_1 : g_7 1 = (tI M_2 2 6).toInt := p0r_1.2.1.2.1
  have lg_7_4 : g_7 4 = (tI M_2 1 4).toInt := p0r_1.2.2.1.1
  have lg_7_7 : g_7 7 = (tI M_2 t 4).toInt := p0r_1.2.2.2.1.1
  have lg_7_8 : g_7 8 = (tI M_2 t 5).toInt := p0r_1.2.2.2.1.2.1
  refine lv_iconst (v := 0) hx hb dX4_readSum_5 (by decide) ?_
  refine lv_istore_n (lv' := [(2, .int 0), (0, .ref (A 1 0)), (1, .int 6)]) hx hb dX4_readSum_6 rfl hl (by decide) rfl (fun ls hl => ?_)
  have hl_7_20 : ∀ (n_21 : Nat) (x_8 : Int32) (M_11 : ti_M) (g_18 : Nat → Int) (H : Heap) (locs : List Loc) (ls : Array Slot), (64 - x_8.toInt : Int).toNat < n_21 → (0 ≤ x_8.toInt) → (x_8.toInt ≤ 64) → (cI Tc M_11) → (M_11.2.2.2 = M.2.2.2) → (f0 M_11 M) → (tI M_11 2 1 = tI M 2 1) → (ot t M_11 M) → (tT M_11 1 1 = (some t)) → (tT M_11 1 2 = (some lw)) → (rC B n t g_18 M_11) → (pp_lp pp_qP (fun s => pp_pd B n (pp_pt B n 2) (pp_kn B n s)) 64 g_7 = pp_lp pp_qP (fun s => pp_pd B n (pp_pt B n 2) (pp_kn B n s)) (64 - (x_8.toInt).toNat) g_18) → ti_H ti_LT D A cy H0 M_11 H locs → lv_has ls 4 [(2, .int x_8), (0, .ref (A 1 0)), (1, .int 6)] → W p l e (ti_rm 24) s m args below meth c H locs 0 0 Q (F0 m 7 ls []) := by
    intro n_21
    induction n_21 with
    | zero => intro x_8 M_11 g_18 H locs ls hf_21; exact absurd hf_21 (Nat.not_lt_zero _)
    | succ n_21 ih_21 =>
      intro x_8 M_11 g_18 H locs ls hf_21 b_9 b_10 iM_11 f_12 f_13 f_14 f_15 f_16 f_17 hs_19 j_20 hw hl
      have lg_18_0 : g_18 0 = (tI M_11 2 4).toInt := hs_19.2.1.1
      have lg_18_1 : g_18 1 = (tI M_11 2 6).toInt := hs_19.2.1.2.1
      have lg_18_4 : g_18 4 = (tI M_11 1 4).toInt := hs_19.2.2.1.1
      have lg_18_7 : g_18 7 = (tI M_11 t 4).toInt := hs_19.2.2.2.1.1
      have lg_18_8 : g_18 8 = (tI M_11 t 5).toInt := hs_19.2.2.2.1.2.1
      refine lv_iload_n hx hb dX4_readSum_7 rfl (lv_at hl 0 rfl) ?_
      refine lv_bipush (v := 64) hx hb dX4_readSum_8 (by decide) ?_
      refine sb_icmp_ge (tgt := 69) hx hb rfl (by decide : (64 : Int32).toInt = 64) dX4_readSum_10 (by decide) (fun c_10_21 => ?_) (fun c_10_21 => ?_)
      · exact hQ _ _ _ _ _ hw (⟨iM_11, (f_12), f_13, (f_14), f_15, (by unfold pp_sm; rw [← eg_7, j_20, lp_end (P := pp_qP) (f := 64 - x_8.toInt.toNat) (s := g_18) (Or.inl (by omega))]; exact hs_19)⟩) dX4_readSum_69
      · refine lv_aload_n hx hb dX4_readSum_13 rfl (lv_at hl 1 rfl) ?_
        refine ti_get (ci := 4) (k := 0) (N := 6) (T := TX4) (v := .ref (A 2 0)) C hw iw_4 rfl ob_1 (by decide) (by decide) fl_X4_12 rfl rfl dX4_readSum_14 ?_
        refine ti_get (ci := 7) (k := 4) (N := 7) (T := TX7) C hw iw_7 rfl ob_2 (by decide) (by decide) fl_X4_41 rfl rfl dX4_readSum_17 ?_
        refine lv_topi (fun x_23 ex_23 => ?_)
        have bx_23 : 0 ≤ x_23.toInt ∧ x_23.toInt ≤ 41 := cI_rd iM_11 ob_2.1 ex_23
        have ux_23 : (tI M_11 2 4).toInt = x_23.toInt := by rw [ex_23]
        refine lv_bipush (v := 38) hx hb dX4_readSum_20 (by decide) ?_
        refine sb_icmp_eq (tgt := 37) hx hb rfl (by decide : (38 : Int32).toInt = 38) dX4_readSum_22 (by decide) (fun c_22_23 => ?_) (fun c_22_23 => ?_)
        · refine lv_aload_n hx hb dX4_readSum_37 rfl (lv_at hl 1 rfl) ?_
          refine ti_get (ci := 4) (k := 0) (N := 6) (T := TX4) (v := .ref (A 2 0)) C hw iw_4 rfl ob_1 (by decide) (by decide) fl_X4_12 rfl rfl dX4_readSum_38 ?_
          refine ti_get (ci := 7) (k := 4) (N := 7) (T := TX7) C hw iw_7 rfl ob_2 (by decide) (by decide) fl_X4_41 rfl rfl dX4_readSum_41 ?_
          refine ti_top (y := x_23) (ex_23.symm) ?_
          have u_27 : (tI M_11 2 4).toInt = (x_23 : Int32).toInt := by rw [(ex_23.symm)]
          refine lv_istore_n (lv' := [(3, .int x_23), (2, .int x_8), (0, .ref (A 1 0)), (1, .int 6)]) hx hb dX4_readSum_44 rfl hl (by decide) rfl (fun ls hl => ?_)
          refine lv_aload_n hx hb dX4_readSum_45 rfl (lv_at hl 2 rfl) ?_
          refine ti_callVvE (ci := 4) (av := []) C hE hw (x_X4_knot l D A cy hJ M_11 iM_11 t ht (f_16) B n g_18 hs_19) ⟨ml_X4_167, ym_X4_knot, yv_X4_knot, yi_X4_knot, yc_X4_knot⟩ yd_X4_knot ob_1 (by decide) rfl rfl hl.1 (Nat.le_of_ble_eq_true rfl) ⟨by decide, by decide⟩ ⟨Nat.zero_le _, Nat.zero_le _⟩ dX4_readSum_46 (fun M_29 H locs hp_29 hw => ?_)
          obtain ⟨iM_29, q_30, q_31, q_32, q_33, p0r_28⟩ := hp_29
          obtain ⟨g_34, eg_34⟩ : ∃ z : Nat → Int, z = pp_kn B n g_18 := ⟨_, rfl⟩
          rw [← eg_34] at p0r_28
          have lg_34_0 : g_34 0 = (tI M_29 2 4).toInt := p0r_28.2.1.1
          have lg_34_1 : g_34 1 = (tI M_29 2 6).toInt := p0r_28.2.1.2.1
          have lg_34_4 : g_34 4 = (tI M_29 1 4).toInt := p0r_28.2.2.1.1
          have lg_34_7 : g_34 7 = (tI M_29 t 4).toInt := p0r_28.2.2.2.1.1
          have lg_34_8 : g_34 8 = (tI M_29 t 5).toInt := p0r_28.2.2.2.1.2.1
          refine lv_aload_n hx hb dX4_readSum_49 rfl (lv_at hl 2 rfl) ?_
          refine lv_iload_n hx hb dX4_readSum_50 rfl (lv_at hl 3 rfl) ?_
          refine ti_callVvE (ci := 4) (av := [.int 6]) C hE hw (x_X4_readProduct_6 l D A cy hJ M_29 iM_29 t ht ((tT_fr q_30).trans f_16) lw hlw ((tT_fr q_30).trans f_17) B n g_34 p0r_28) ⟨ml_X4_184, ym_X4_readProduct, yv_X4_readProduct, yi_X4_readProduct, yc_X4_readProduct⟩ yd_X4_readProduct ob_1 (by decide) rfl rfl hl.1 (Nat.le_of_ble_eq_true rfl) ⟨by decide, by decide⟩ ⟨Nat.zero_le _, Nat.zero_le _⟩ dX4_readSum_51 (fun M_36 H locs hp_36 hw => ?_)
          obtain ⟨iM_36, q_37, q_38, q_39, q_40, p0r_35⟩ := hp_36
          obtain ⟨g_41, eg_41⟩ : ∃ z : Nat → Int, z = pp_pd B n (pp_pt B n 2) g_34 := ⟨_, rfl⟩
          rw [← eg_41] at p0r_35
          have lg_41_0 : g_41 0 = (tI M_36 2 4).toInt := p0r_35.2.1.1
          have lg_41_1 : g_41 1 = (tI M_36 2 6).toInt := p0r_35.2.1.2.1
          have lg_41_4 : g_41 4 = (tI M_36 1 4).toInt := p0r_35.2.2.1.1
          have lg_41_7 : g_41 7 = (tI M_36 t 4).toInt := p0r_35.2.2.2.1.1
          have lg_41_8 : g_41 8 = (tI M_36 t 5).toInt := p0r_35.2.2.2.1.2.1
          refine lv_aload_n hx hb dX4_readSum_54 rfl (lv_at hl 2 rfl) ?_
          refine ti_get (ci := 4) (k := 2) (N := 6) (T := TX4) (v := .ref (A lw 0)) C hw iw_4 rfl ob_1 (by decide) (by decide) fl_X4_154 rfl (ti_Tv ((tT_fr q_37).trans ((tT_fr q_30).trans f_17))) dX4_readSum_55 ?_
          refine lv_iload_n hx hb dX4_readSum_58 rfl (lv_at hl 0 rfl) ?_
          refine lv_ineg hx hb dX4_readSum_59 ?_
          refine lv_topi (fun x_42 ex_42 => ?_)
          have tx_42 : x_42.toInt = -x_23.toInt := i_neg ex_42 rfl (by omega)
          refine ti_callVv (ci := 1) (av := [.int x_42]) C hw (x_X1_add l D A cy hJ M_36 iM_36 lw hlw x_42 (by first | omega | exact Or.inl (by decide) | exact Or.inr (by decide)) t ht B n g_41 p0r_35) ⟨ml_X4_170, ym_X1_add, yv_X1_add, yi_X1_add, yc_X1_add⟩ yd_X1_add hlw (by decide) rfl rfl hl.1 (Nat.le_of_ble_eq_true rfl) ⟨by decide, by decide⟩ ⟨Nat.zero_le _, Nat.zero_le _⟩ dX4_readSum_60 (fun M_44 H locs hp_44 hw => ?_)
          obtain ⟨iM_44, q_45, q_46, p0r_43⟩ := hp_44
          have lM_44_0 : g_41 0 = (tI M_44 2 4).toInt := p0r_43.2.1.1
          have lM_44_1 : g_41 1 = (tI M_44 2 6).toInt := p0r_43.2.1.2.1
          have lM_44_4 : g_41 4 = (tI M_44 1 4).toInt := p0r_43.2.2.1.1
          have lM_44_7 : g_41 7 = (tI M_44 t 4).toInt := p0r_43.2.2.2.1.1
          have lM_44_8 : g_41 8 = (tI M_44 t 5).toInt := p0r_43.2.2.2.1.2.1
          obtain ⟨x_47, ex_47⟩ : ∃ z : Int32, z = x_8 + 1 := ⟨_, rfl⟩
          have tx_47 : x_47.toInt = x_8.toInt + 1 := i_add ex_47 rfl (by decide) (by omega) (by omega)
          refine lv_iinc (v := x_47) (lv' := [(2, .int x_47), (3, .int x_23), (0, .ref (A 1 0)), (1, .int 6)]) hx hb dX4_readSum_63 hl (k := 1) rfl (by rw [ex_47]; rfl) (by decide) rfl (fun ls hl => ?_)
          refine lv_goto (tgt := 7) hx hb dX4_readSum_66 (by decide) ?_
          exact ih_21 x_47 M_44 g_41 _ _ _ (by omega) (by first | omega | decide) (by first | omega | decide) iM_44 ((q_45).trans ((q_37).trans ((q_30).trans f_12))) (f0.trans (f0_x q_46) (f0.trans q_38 (f0.trans q_31 f_13))) (((q_46 1).2.1).trans ((q_39).trans ((q_32).trans f_14))) (ot.trans (ot_fx ht q_46) (ot.trans q_40 (ot.trans q_33 f_15))) ((tT_fr q_45).trans ((tT_fr q_37).trans ((tT_fr q_30).trans f_16))) ((tT_fr q_45).trans ((tT_fr q_37).trans ((tT_fr q_30).trans f_17))) p0r_43 (j_20.trans (lp_step (decide_eq_true (by omega)) (by rw [eg_41, eg_34]) (by omega))) hw (lv_sub hl [0, 2, 3] rfl)
        · refine lv_aload_n hx hb dX4_readSum_25 rfl (lv_at hl 1 rfl) ?_
          refine ti_get (ci := 4) (k := 0) (N := 6) (T := TX4) (v := .ref (A 2 0)) C hw iw_4 rfl ob_1 (by decide) (by decide) fl_X4_12 rfl rfl dX4_readSum_26 ?_
          refine ti_get (ci := 7) (k := 4) (N := 7) (T := TX7) C hw iw_7 rfl ob_2 (by decide) (by decide) fl_X4_41 rfl rfl dX4_readSum_29 ?_
          refine ti_top (y := x_23) (ex_23.symm) ?_
          have u_25 : (tI M_11 2 4).toInt = (x_23 : Int32).toInt := by rw [(ex_23.symm)]
          refine lv_bipush (v := 39) hx hb dX4_readSum_32 (by decide) ?_
          refine sb_icmp_ne (tgt := 69) hx hb rfl (by decide : (39 : Int32).toInt = 39) dX4_readSum_34 (by decide) (fun c_34_25 => ?_) (fun c_34_25 => ?_)
          · exact hQ _ _ _ _ _ hw (⟨iM_11, (f_12), f_13, (f_14), f_15, (by unfold pp_sm; rw [← eg_7, j_20, lp_end (P := pp_qP) (f := 64 - x_8.toInt.toNat) (s := g_18) (Or.inr (decide_eq_false (by omega)))]; exact hs_19)⟩) dX4_readSum_69
          · refine lv_aload_n hx hb dX4_readSum_37 rfl (lv_at hl 1 rfl) ?_
            refine ti_get (ci := 4) (k := 0) (N := 6) (T := TX4) (v := .ref (A 2 0)) C hw iw_4 rfl ob_1 (by decide) (by decide) fl_X4_12 rfl rfl dX4_readSum_38 ?_
            refine ti_get (ci := 7) (k := 4) (N := 7) (T := TX7) C hw iw_7 rfl ob_2 (by decide) (by decide) fl_X4_41 rfl rfl dX4_readSum_41 ?_
            refine ti_top (y := x_23) (ex_23.symm) ?_
            have u_48 : (tI M_11 2 4).toInt = (x_23 : Int32).toInt := by rw [(ex_23.symm)]
            refine lv_istore_n (lv' := [(3, .int x_23), (2, .int x_8), (0, .ref (A 1 0)), (1, .int 6)]) hx hb dX4_readSum_44 rfl hl (by decide) rfl (fun ls hl => ?_)
            refine lv_aload_n hx hb dX4_readSum_45 rfl (lv_at hl 2 rfl) ?_
            refine ti_callVvE (ci := 4) (av := []) C hE hw (x_X4_knot l D A cy hJ M_11 iM_11 t ht (f_16) B n g_18 hs_19) ⟨ml_X4_167, ym_X4_knot, yv_X4_knot, yi_X4_knot, yc_X4_knot⟩ yd_X4_knot ob_1 (by decide) rfl rfl hl.1 (Nat.le_of_ble_eq_true rfl) ⟨by decide, by decide⟩ ⟨Nat.zero_le _, Nat.zero_le _⟩ dX4_readSum_46 (fun M_50 H locs hp_50 hw => ?_)
            obtain ⟨iM_50, q_51, q_52, q_53, q_54, p0r_49⟩ := hp_50
            obtain ⟨g_55, eg_55⟩ : ∃ z : Nat → Int, z = pp_kn B n g_18 := ⟨_, rfl⟩
            rw [← eg_55] at p0r_49
            have lg_55_0 : g_55 0 = (tI M_50 2 4).toInt := p0r_49.2.1.1
            have lg_55_1 : g_55 1 = (tI M_50 2 6).toInt := p0r_49.2.1.2.1
            have lg_55_4 : g_55 4 = (tI M_50 1 4).toInt := p0r_49.2.2.1.1
            have lg_55_7 : g_55 7 = (tI M_50 t 4).toInt := p0r_49.2.2.2.1.1
            have lg_55_8 : g_55 8 = (tI M_50 t 5).toInt := p0r_49.2.2.2.1.2.1
            refine lv_aload_n hx hb dX4_readSum_49 rfl (lv_at hl 2 rfl) ?_
            refine lv_iload_n hx hb dX4_readSum_50 rfl (lv_at hl 3 rfl) ?_
            refine ti_callVvE (ci := 4) (av := [.int 6]) C hE hw (x_X4_readProduct_6 l D A cy hJ M_50 iM_50 t ht ((tT_fr q_51).trans f_16) lw hlw ((tT_fr q_51).trans f_17) B n g_55 p0r_49) ⟨ml_X4_184, ym_X4_readProduct, yv_X4_readProduct, yi_X4_readProduct, yc_X4_readProduct⟩ yd_X4_readProduct ob_1 (by decide) rfl rfl hl.1 (Nat.le_of_ble_eq_true rfl) ⟨by decide, by decide⟩ ⟨Nat.zero_le _, Nat.zero_le _⟩ dX4_readSum_51 (fun M_57 H locs hp_57 hw => ?_)
            obtain ⟨iM_57, q_58, q_59, q_60, q_61, p0r_56⟩ := hp_57
            obtain ⟨g_62, eg_62⟩ : ∃ z : Nat → Int, z = pp_pd B n (pp_pt B n 2) g_55 := ⟨_, rfl⟩
            rw [← eg_62] at p0r_56
            have lg_62_0 : g_62 0 = (tI M_57 2 4).toInt := p0r_56.2.1.1
            have lg_62_1 : g_62 1 = (tI M_57 2 6).toInt := p0r_56.2.1.2.1
            have lg_62_4 : g_62 4 = (tI M_57 1 4).toInt := p0r_56.2.2.1.1
            have lg_62_7 : g_62 7 = (tI M_57 t 4).toInt := p0r_56.2.2.2.1.1
            have lg_62_8 : g_62 8 = (tI M_57 t 5).toInt := p0r_56.2.2.2.1.2.1
            refine lv_aload_n hx hb dX4_readSum_54 rfl (lv_at hl 2 rfl) ?_
            refine ti_get (ci := 4) (k := 2) (N := 6) (T := TX4) (v := .ref (A lw 0)) C hw iw_4 rfl ob_1 (by decide) (by decide) fl_X4_154 rfl (ti_Tv ((tT_fr q_58).trans ((tT_fr q_51).trans f_17))) dX4_readSum_55 ?_
            refine lv_iload_n hx hb dX4_readSum_58 rfl (lv_at hl 0 rfl) ?_
            refine lv_ineg hx hb dX4_readSum_59 ?_
            refine lv_topi (fun x_63 ex_63 => ?_)
            have tx_63 : x_63.toInt = -x_23.toInt := i_neg ex_63 rfl (by omega)
            refine ti_callVv (ci := 1) (av := [.int x_63]) C hw (x_X1_add l D A cy hJ M_57 iM_57 lw hlw x_63 (by first | omega | exact Or.inl (by decide) | exact Or.inr (by decide)) t ht B n g_62 p0r_56) ⟨ml_X4_170, ym_X1_add, yv_X1_add, yi_X1_add, yc_X1_add⟩ yd_X1_add hlw (by decide) rfl rfl hl.1 (Nat.le_of_ble_eq_true rfl) ⟨by decide, by decide⟩ ⟨Nat.zero_le _, Nat.zero_le _⟩ dX4_readSum_60 (fun M_65 H locs hp_65 hw => ?_)
            obtain ⟨iM_65, q_66, q_67, p0r_64⟩ := hp_65
            have lM_65_0 : g_62 0 = (tI M_65 2 4).toInt := p0r_64.2.1.1
            have lM_65_1 : g_62 1 = (tI M_65 2 6).toInt := p0r_64.2.1.2.1
            have lM_65_4 : g_62 4 = (tI M_65 1 4).toInt := p0r_64.2.2.1.1
            have lM_65_7 : g_62 7 = (tI M_65 t 4).toInt := p0r_64.2.2.2.1.1
            have lM_65_8 : g_62 8 = (tI M_65 t 5).toInt := p0r_64.2.2.2.1.2.1
            obtain ⟨x_68, ex_68⟩ : ∃ z : Int32, z = x_8 + 1 := ⟨_, rfl⟩
            have tx_68 : x_68.toInt = x_8.toInt + 1 := i_add ex_68 rfl (by decide) (by omega) (by omega)
            refine lv_iinc (v := x_68) (lv' := [(2, .int x_68), (3, .int x_23), (0, .ref (A 1 0)), (1, .int 6)]) hx hb dX4_readSum_63 hl (k := 1) rfl (by rw [ex_68]; rfl) (by decide) rfl (fun ls hl => ?_)
            refine lv_goto (tgt := 7) hx hb dX4_readSum_66 (by decide) ?_
            exact ih_21 x_68 M_65 g_62 _ _ _ (by omega) (by first | omega | decide) (by first | omega | decide) iM_65 ((q_66).trans ((q_58).trans ((q_51).trans f_12))) (f0.trans (f0_x q_67) (f0.trans q_59 (f0.trans q_52 f_13))) (((q_67 1).2.1).trans ((q_60).trans ((q_53).trans f_14))) (ot.trans (ot_fx ht q_67) (ot.trans q_61 (ot.trans q_54 f_15))) ((tT_fr q_66).trans ((tT_fr q_58).trans ((tT_fr q_51).trans f_16))) ((tT_fr q_66).trans ((tT_fr q_58).trans ((tT_fr q_51).trans f_17))) p0r_64 (j_20.trans (lp_step (decide_eq_true (by omega)) (by rw [eg_62, eg_55]) (by omega))) hw (lv_sub hl [0, 2, 3] rfl)
  exact hl_7_20 ((64 - 0 : Int).toNat + 1) 0 M_2 g_7 _ _ _ (Nat.lt_succ_self _) (by have lt0 : (0 : Int32).toInt = 0 := (by decide); first | omega | decide) (by have lt0 : (0 : Int32).toInt = 0 := (by decide); first | omega | decide) iM_2 (q_3) q_4 (q_5) q_6 ((tT_fr q_3).trans hT) ((tT_fr q_3).trans hL) p0r_1 rfl hw (lv_sub hl [0, 1, 2] rfl)
set_option maxHeartbeats 4000000 in
set_option maxRecDepth 100000 in
theorem x_X4_readComparison_6 (l : Launch) (D : va_G) (A : Nat → Nat → Nat) (cy : Nat → ClassId) (hJ : ti_inj ti_LT A) (M : ti_M) (hI : cI Tc M) (t : Nat) (ht : t = 3 ∨ t = 4) (hT : tT M 1 1 = some t) (lw : Nat) (hlw : ti_ob ti_LT lw 1) (hL : tT M 1 2 = some lw) (B : Nat → Int) (n : Nat) (rg : Nat → Int) (hr : rC B n t rg M) : ti_KvE l yX4_readComparison cX4_readComparison 3 25 ti_LT D A cy M [.ref (A 1 0), .int 6] (fun M2 => cI Tc M2 ∧ M2.2.2.2 = M.2.2.2 ∧ f0 M2 M ∧ tI M2 2 1 = tI M 2 1 ∧ ot t M2 M ∧ rC B n t (pp_cm B n (pp_pt B n 2) rg) M2) := by
  refine ti_eVE yp_X4_readComparison hJ ti_LT_nd (Nat.le_of_ble_eq_true rfl) ?_
  intro p e s m args below meth c Q H0 C hE hQ hw ls hl
  have hx := C.1
  have hb := C.2.1
  have hl : lv_has ls 3 [(0, .ref (A 1 0)), (1, .int 6)] := hl
  have l0 : rg 0 = (tI M 2 4).toInt := hr.2.1.1
  have l1 : rg 1 = (tI M 2 6).toInt := hr.2.1.2.1
  have l2 : rg 2 = (tI M 2 5).toInt := hr.2.1.2.2.1
  have l3 : rg 3 = (tI M 2 3).toInt := hr.2.1.2.2.2
  have l4 : rg 4 = (tI M 1 4).toInt := hr.2.2.1.1
  have l5 : rg 5 = (tI M 1 5).toInt := hr.2.2.1.2.1
  have l7 : rg 7 = (tI M t 4).toInt := hr.2.2.2.1.1
  have l8 : rg 8 = (tI M t 5).toInt := hr.2.2.2.1.2.1
  have l9 : rg 9 = (tI M t 3).toInt := hr.2.2.2.1.2.2
  refine lv_aload_n hx hb dX4_readComparison_0 rfl (lv_at hl 0 rfl) ?_
  refine lv_iload_n hx hb dX4_readComparison_1 rfl (lv_at hl 1 rfl) ?_
  refine ti_callVvE (ci := 4) (av := [.int 6]) C hE hw (x_X4_readSum_6 l D A cy hJ M hI t ht (hT) lw hlw (hL) B n rg hr) ⟨ml_X4_181, ym_X4_readSum, yv_X4_readSum, yi_X4_readSum, yc_X4_readSum⟩ yd_X4_readSum ob_1 (by decide) rfl rfl hl.1 (Nat.le_of_ble_eq_true rfl) ⟨by decide, by decide⟩ ⟨Nat.zero_le _, Nat.zero_le _⟩ dX4_readComparison_2 (fun M_2 H locs hp_2 hw => ?_)
  obtain ⟨iM_2, q_3, q_4, q_5, q_6, p0r_1⟩ := hp_2
  obtain ⟨g_7, eg_7⟩ : ∃ z : Nat → Int, z = pp_sm B n (pp_pt B n 2) rg := ⟨_, rfl⟩
  rw [← eg_7] at p0r_1
  have lg_7_0 : g_7 0 = (tI M_2 2 4).toInt := p0r_1.2.1.1
  have lg_7_1 : g_7 1 = (tI M_2 2 6).toInt := p0r_1.2.1.2.1
  have lg_7_4 : g_7 4 = (tI M_2 1 4).toInt := p0r_1.2.2.1.1
  have lg_7_7 : g_7 7 = (tI M_2 t 4).toInt := p0r_1.2.2.2.1.1
  have lg_7_8 : g_7 8 = (tI M_2 t 5).toInt := p0r_1.2.2.2.1.2.1
  refine lv_aload_n hx hb dX4_readComparison_5 rfl (lv_at hl 0 rfl) ?_
  refine ti_get (ci := 4) (k := 0) (N := 6) (T := TX4) (v := .ref (A 2 0)) C hw iw_4 rfl ob_1 (by decide) (by decide) fl_X4_12 rfl rfl dX4_readComparison_6 ?_
  refine ti_get (ci := 7) (k := 4) (N := 7) (T := TX7) C hw iw_7 rfl ob_2 (by decide) (by decide) fl_X4_41 rfl rfl dX4_readComparison_9 ?_
  refine lv_topi (fun x_8 ex_8 => ?_)
  have bx_8 : 0 ≤ x_8.toInt ∧ x_8.toInt ≤ 41 := cI_rd iM_2 ob_2.1 ex_8
  have ux_8 : (tI M_2 2 4).toInt = x_8.toInt := by rw [ex_8]
  refine lv_istore_n (lv' := [(2, .int x_8), (0, .ref (A 1 0)), (1, .int 6)]) hx hb dX4_readComparison_12 rfl hl (by decide) rfl (fun ls hl => ?_)
  refine lv_iload_n hx hb dX4_readComparison_13 rfl (lv_at hl 0 rfl) ?_
  refine lv_bipush (v := 32) hx hb dX4_readComparison_14 (by decide) ?_
  refine sb_icmp_lt (tgt := 43) hx hb rfl (by decide : (32 : Int32).toInt = 32) dX4_readComparison_16 (by decide) (fun c_16_8 => ?_) (fun c_16_8 => ?_)
  · exact hQ _ _ _ _ _ hw (⟨iM_2, (q_3), q_4, (q_5), q_6, (by unfold pp_cm; rw [← eg_7]; unfold pp_c2; rw [if_neg (fun q => by omega)]; exact p0r_1)⟩) dX4_readComparison_43
  · refine lv_iload_n hx hb dX4_readComparison_19 rfl (lv_at hl 0 rfl) ?_
    refine lv_bipush (v := 37) hx hb dX4_readComparison_20 (by decide) ?_
    refine sb_icmp_gt (tgt := 43) hx hb rfl (by decide : (37 : Int32).toInt = 37) dX4_readComparison_22 (by decide) (fun c_22_9 => ?_) (fun c_22_9 => ?_)
    · exact hQ _ _ _ _ _ hw (⟨iM_2, (q_3), q_4, (q_5), q_6, (by unfold pp_cm; rw [← eg_7]; unfold pp_c2; rw [if_neg (fun q => by omega)]; exact p0r_1)⟩) dX4_readComparison_43
    · refine lv_aload_n hx hb dX4_readComparison_25 rfl (lv_at hl 1 rfl) ?_
      refine ti_callVvE (ci := 4) (av := []) C hE hw (x_X4_knot l D A cy hJ M_2 iM_2 t ht ((tT_fr q_3).trans hT) B n g_7 p0r_1) ⟨ml_X4_167, ym_X4_knot, yv_X4_knot, yi_X4_knot, yc_X4_knot⟩ yd_X4_knot ob_1 (by decide) rfl rfl hl.1 (Nat.le_of_ble_eq_true rfl) ⟨by decide, by decide⟩ ⟨Nat.zero_le _, Nat.zero_le _⟩ dX4_readComparison_26 (fun M_12 H locs hp_12 hw => ?_)
      obtain ⟨iM_12, q_13, q_14, q_15, q_16, p0r_11⟩ := hp_12
      obtain ⟨g_17, eg_17⟩ : ∃ z : Nat → Int, z = pp_kn B n g_7 := ⟨_, rfl⟩
      rw [← eg_17] at p0r_11
      have lg_17_0 : g_17 0 = (tI M_12 2 4).toInt := p0r_11.2.1.1
      have lg_17_1 : g_17 1 = (tI M_12 2 6).toInt := p0r_11.2.1.2.1
      have lg_17_4 : g_17 4 = (tI M_12 1 4).toInt := p0r_11.2.2.1.1
      have lg_17_7 : g_17 7 = (tI M_12 t 4).toInt := p0r_11.2.2.2.1.1
      have lg_17_8 : g_17 8 = (tI M_12 t 5).toInt := p0r_11.2.2.2.1.2.1
      refine lv_aload_n hx hb dX4_readComparison_29 rfl (lv_at hl 1 rfl) ?_
      refine lv_iload_n hx hb dX4_readComparison_30 rfl (lv_at hl 2 rfl) ?_
      refine ti_callVvE (ci := 4) (av := [.int 6]) C hE hw (x_X4_readSum_6 l D A cy hJ M_12 iM_12 t ht ((tT_fr q_13).trans ((tT_fr q_3).trans hT)) lw hlw ((tT_fr q_13).trans ((tT_fr q_3).trans hL)) B n g_17 p0r_11) ⟨ml_X4_181, ym_X4_readSum, yv_X4_readSum, yi_X4_readSum, yc_X4_readSum⟩ yd_X4_readSum ob_1 (by decide) rfl rfl hl.1 (Nat.le_of_ble_eq_true rfl) ⟨by decide, by decide⟩ ⟨Nat.zero_le _, Nat.zero_le _⟩ dX4_readComparison_31 (fun M_19 H locs hp_19 hw => ?_)
      obtain ⟨iM_19, q_20, q_21, q_22, q_23, p0r_18⟩ := hp_19
      obtain ⟨g_24, eg_24⟩ : ∃ z : Nat → Int, z = pp_sm B n (pp_pt B n 2) g_17 := ⟨_, rfl⟩
      rw [← eg_24] at p0r_18
      have lg_24_0 : g_24 0 = (tI M_19 2 4).toInt := p0r_18.2.1.1
      have lg_24_1 : g_24 1 = (tI M_19 2 6).toInt := p0r_18.2.1.2.1
      have lg_24_4 : g_24 4 = (tI M_19 1 4).toInt := p0r_18.2.2.1.1
      have lg_24_7 : g_24 7 = (tI M_19 t 4).toInt := p0r_18.2.2.2.1.1
      have lg_24_8 : g_24 8 = (tI M_19 t 5).toInt := p0r_18.2.2.2.1.2.1
      refine lv_aload_n hx hb dX4_readComparison_34 rfl (lv_at hl 1 rfl) ?_
      refine ti_get (ci := 4) (k := 2) (N := 6) (T := TX4) (v := .ref (A lw 0)) C hw iw_4 rfl ob_1 (by decide) (by decide) fl_X4_154 rfl (ti_Tv ((tT_fr q_20).trans ((tT_fr q_13).trans ((tT_fr q_3).trans hL)))) dX4_readComparison_35 ?_
      refine lv_iload_n hx hb dX4_readComparison_38 rfl (lv_at hl 0 rfl) ?_
      refine lv_ineg hx hb dX4_readComparison_39 ?_
      refine lv_topi (fun x_25 ex_25 => ?_)
      have tx_25 : x_25.toInt = -x_8.toInt := i_neg ex_25 rfl (by omega)
      refine ti_callVv (ci := 1) (av := [.int x_25]) C hw (x_X1_add l D A cy hJ M_19 iM_19 lw hlw x_25 (by first | omega | exact Or.inl (by decide) | exact Or.inr (by decide)) t ht B n g_24 p0r_18) ⟨ml_X4_170, ym_X1_add, yv_X1_add, yi_X1_add, yc_X1_add⟩ yd_X1_add hlw (by decide) rfl rfl hl.1 (Nat.le_of_ble_eq_true rfl) ⟨by decide, by decide⟩ ⟨Nat.zero_le _, Nat.zero_le _⟩ dX4_readComparison_40 (fun M_27 H locs hp_27 hw => ?_)
      obtain ⟨iM_27, q_28, q_29, p0r_26⟩ := hp_27
      have lM_27_0 : g_24 0 = (tI M_27 2 4).toInt := p0r_26.2.1.1
      have lM_27_1 : g_24 1 = (tI M_27 2 6).toInt := p0r_26.2.1.2.1
      have lM_27_4 : g_24 4 = (tI M_27 1 4).toInt := p0r_26.2.2.1.1
      have lM_27_7 : g_24 7 = (tI M_27 t 4).toInt := p0r_26.2.2.2.1.1
      have lM_27_8 : g_24 8 = (tI M_27 t 5).toInt := p0r_26.2.2.2.1.2.1
      exact hQ _ _ _ _ _ hw (⟨iM_27, ((q_28).trans ((q_20).trans ((q_13).trans q_3))), (f0.trans (f0_x q_29) (f0.trans q_21 (f0.trans q_14 q_4))), (((q_29 1).2.1).trans ((q_22).trans ((q_15).trans q_5))), (ot.trans (ot_fx ht q_29) (ot.trans q_23 (ot.trans q_16 q_6))), (by unfold pp_cm; rw [← eg_7]; unfold pp_c2; rw [if_pos ⟨by omega, by omega⟩, ← eg_17, ← eg_24]; exact p0r_26)⟩) dX4_readComparison_43
set_option maxHeartbeats 4000000 in
set_option maxRecDepth 100000 in
theorem x_X4_readNegated_6 (l : Launch) (D : va_G) (A : Nat → Nat → Nat) (cy : Nat → ClassId) (hJ : ti_inj ti_LT A) (M : ti_M) (hI : cI Tc M) (t : Nat) (ht : t = 3 ∨ t = 4) (hT : tT M 1 1 = some t) (lw : Nat) (hlw : ti_ob ti_LT lw 1) (hL : tT M 1 2 = some lw) (B : Nat → Int) (n : Nat) (rg : Nat → Int) (hr : rC B n t rg M) : ti_KvE l yX4_readNegated cX4_readNegated 4 26 ti_LT D A cy M [.ref (A 1 0), .int 6] (fun M2 => cI Tc M2 ∧ M2.2.2.2 = M.2.2.2 ∧ f0 M2 M ∧ tI M2 2 1 = tI M 2 1 ∧ ot t M2 M ∧ rC B n t (pp_ng B n (pp_pt B n 2) rg) M2) := by
  refine ti_eVE yp_X4_readNegated hJ ti_LT_nd (Nat.le_of_ble_eq_true rfl) ?_
  intro p e s m args below meth c Q H0 C hE hQ hw ls hl
  have hx := C.1
  have hb := C.2.1
  have hl : lv_has ls 4 [(0, .ref (A 1 0)), (1, .int 6)] := hl
  have l0 : rg 0 = (tI M 2 4).toInt := hr.2.1.1
  have l1 : rg 1 = (tI M 2 6).toInt := hr.2.1.2.1
  have l2 : rg 2 = (tI M 2 5).toInt := hr.2.1.2.2.1
  have l3 : rg 3 = (tI M 2 3).toInt := hr.2.1.2.2.2
  have l4 : rg 4 = (tI M 1 4).toInt := hr.2.2.1.1
  have l5 : rg 5 = (tI M 1 5).toInt := hr.2.2.1.2.1
  have l7 : rg 7 = (tI M t 4).toInt := hr.2.2.2.1.1
  have l8 : rg 8 = (tI M t 5).toInt := hr.2.2.2.1.2.1
  have l9 : rg 9 = (tI M t 3).toInt := hr.2.2.2.1.2.2
  refine lv_iconst (v := 0) hx hb dX4_readNegated_0 (by decide) ?_
  refine lv_istore_n (lv' := [(2, .int 0), (0, .ref (A 1 0)), (1, .int 6)]) hx hb dX4_readNegated_1 rfl hl (by decide) rfl (fun ls hl => ?_)
  have hl_2_13 : ∀ (n_14 : Nat) (x_1 : Int32) (M_4 : ti_M) (g_11 : Nat → Int) (H : Heap) (locs : List Loc) (ls : Array Slot), (65 - x_1.toInt : Int).toNat < n_14 → (0 ≤ x_1.toInt) → (x_1.toInt ≤ 65) → (cI Tc M_4) → (M_4.2.2.2 = M.2.2.2) → (f0 M_4 M) → (tI M_4 2 1 = tI M 2 1) → (ot t M_4 M) → (tT M_4 1 1 = (some t)) → (tT M_4 1 2 = (some lw)) → (rC B n t g_11 M_4) → (pp_lp pp_qN (pp_kn B n) 65 rg = pp_lp pp_qN (pp_kn B n) (65 - (x_1.toInt).toNat) g_11) → ti_H ti_LT D A cy H0 M_4 H locs → lv_has ls 4 [(2, .int x_1), (0, .ref (A 1 0)), (1, .int 6)] → W p l e (ti_rm 26) s m args below meth c H locs 0 0 Q (F0 m 2 ls []) := by
    intro n_14
    induction n_14 with
    | zero => intro x_1 M_4 g_11 H locs ls hf_14; exact absurd hf_14 (Nat.not_lt_zero _)
    | succ n_14 ih_14 =>
      intro x_1 M_4 g_11 H locs ls hf_14 b_2 b_3 iM_4 f_5 f_6 f_7 f_8 f_9 f_10 hs_12 j_13 hw hl
      have lg_11_0 : g_11 0 = (tI M_4 2 4).toInt := hs_12.2.1.1
      have lg_11_1 : g_11 1 = (tI M_4 2 6).toInt := hs_12.2.1.2.1
      have lg_11_4 : g_11 4 = (tI M_4 1 4).toInt := hs_12.2.2.1.1
      have lg_11_7 : g_11 7 = (tI M_4 t 4).toInt := hs_12.2.2.2.1.1
      have lg_11_8 : g_11 8 = (tI M_4 t 5).toInt := hs_12.2.2.2.1.2.1
      refine lv_iload_n hx hb dX4_readNegated_2 rfl (lv_at hl 0 rfl) ?_
      refine lv_bipush (v := 64) hx hb dX4_readNegated_3 (by decide) ?_
      have hj_30_26 : ∀  (H : Heap) (locs : List Loc) (ls : Array Slot), (pp_lp pp_qN (pp_kn B n) 65 rg = g_11) → ti_H ti_LT D A cy H0 M_4 H locs → lv_has ls 4 [(2, .int x_1), (0, .ref (A 1 0)), (1, .int 6)] → W p l e (ti_rm 26) s m args below meth c H locs 0 0 Q (F0 m 30 ls []) := by
        intro  H locs ls j_26 hw hl
        have lg_11_0 : g_11 0 = (tI M_4 2 4).toInt := hs_12.2.1.1
        have lg_11_1 : g_11 1 = (tI M_4 2 6).toInt := hs_12.2.1.2.1
        have lg_11_4 : g_11 4 = (tI M_4 1 4).toInt := hs_12.2.2.1.1
        have lg_11_7 : g_11 7 = (tI M_4 t 4).toInt := hs_12.2.2.2.1.1
        have lg_11_8 : g_11 8 = (tI M_4 t 5).toInt := hs_12.2.2.2.1.2.1
        refine lv_aload_n hx hb dX4_readNegated_30 rfl (lv_at hl 1 rfl) ?_
        refine lv_iload_n hx hb dX4_readNegated_31 rfl (lv_at hl 2 rfl) ?_
        refine ti_callVvE (ci := 4) (av := [.int 6]) C hE hw (x_X4_readComparison_6 l D A cy hJ M_4 iM_4 t ht (f_9) lw hlw (f_10) B n g_11 hs_12) ⟨ml_X4_178, ym_X4_readComparison, yv_X4_readComparison, yi_X4_readComparison, yc_X4_readComparison⟩ yd_X4_readComparison ob_1 (by decide) rfl rfl hl.1 (Nat.le_of_ble_eq_true rfl) ⟨by decide, by decide⟩ ⟨Nat.zero_le _, Nat.zero_le _⟩ dX4_readNegated_32 (fun M_28 H locs hp_28 hw => ?_)
        obtain ⟨iM_28, q_29, q_30, q_31, q_32, p0r_27⟩ := hp_28
        obtain ⟨g_33, eg_33⟩ : ∃ z : Nat → Int, z = pp_cm B n (pp_pt B n 2) g_11 := ⟨_, rfl⟩
        rw [← eg_33] at p0r_27
        have lg_33_0 : g_33 0 = (tI M_28 2 4).toInt := p0r_27.2.1.1
        have lg_33_1 : g_33 1 = (tI M_28 2 6).toInt := p0r_27.2.1.2.1
        have lg_33_4 : g_33 4 = (tI M_28 1 4).toInt := p0r_27.2.2.1.1
        have lg_33_7 : g_33 7 = (tI M_28 t 4).toInt := p0r_27.2.2.2.1.1
        have lg_33_8 : g_33 8 = (tI M_28 t 5).toInt := p0r_27.2.2.2.1.2.1
        have EM : pp_ng B n (pp_pt B n 2) rg = g_33 := by unfold pp_ng; rw [j_26, ← eg_33]
        refine lv_iconst (v := 0) hx hb dX4_readNegated_35 (by decide) ?_
        refine lv_istore_n (lv' := [(3, .int 0), (2, .int x_1), (0, .ref (A 1 0)), (1, .int 6)]) hx hb dX4_readNegated_36 rfl hl (by decide) rfl (fun ls hl => ?_)
        have hl_37_46 : ∀ (n_47 : Nat) (x_34 : Int32) (M_37 : ti_M) (g_44 : Nat → Int) (H : Heap) (locs : List Loc) (ls : Array Slot), (65 - x_34.toInt : Int).toNat < n_47 → (0 ≤ x_34.toInt) → (x_34.toInt ≤ 65) → (cI Tc M_37) → (M_37.2.2.2 = M.2.2.2) → (f0 M_37 M) → (tI M_37 2 1 = tI M 2 1) → (ot t M_37 M) → (tT M_37 1 1 = (some t)) → (tT M_37 1 2 = (some lw)) → (rC B n t g_44 M_37) → (g_33 = g_44) → ti_H ti_LT D A cy H0 M_37 H locs → lv_has ls 4 [(3, .int x_34), (2, .int x_1), (0, .ref (A 1 0)), (1, .int 6)] → W p l e (ti_rm 26) s m args below meth c H locs 0 0 Q (F0 m 37 ls []) := by
          intro n_47
          induction n_47 with
          | zero => intro x_34 M_37 g_44 H locs ls hf_47; exact absurd hf_47 (Nat.not_lt_zero _)
          | succ n_47 ih_47 =>
            intro x_34 M_37 g_44 H locs ls hf_47 b_35 b_36 iM_37 f_38 f_39 f_40 f_41 f_42 f_43 hs_45 j_46 hw hl
            have lg_44_0 : g_44 0 = (tI M_37 2 4).toInt := hs_45.2.1.1
            have lg_44_1 : g_44 1 = (tI M_37 2 6).toInt := hs_45.2.1.2.1
            have lg_44_4 : g_44 4 = (tI M_37 1 4).toInt := hs_45.2.2.1.1
            have lg_44_7 : g_44 7 = (tI M_37 t 4).toInt := hs_45.2.2.2.1.1
            have lg_44_8 : g_44 8 = (tI M_37 t 5).toInt := hs_45.2.2.2.1.2.1
            refine lv_iload_n hx hb dX4_readNegated_37 rfl (lv_at hl 0 rfl) ?_
            refine lv_iload_n hx hb dX4_readNegated_38 rfl (lv_at hl 1 rfl) ?_
            refine sb_icmp_ge (tgt := 57) hx hb rfl rfl dX4_readNegated_39 (by decide) (fun c_39_47 => ?_) (fun c_39_47 => ?_)
            · exact hQ _ _ _ _ _ hw (⟨iM_37, (f_38), f_39, (f_40), f_41, (by rw [EM, j_46]; exact hs_45)⟩) dX4_readNegated_57
            · refine lv_aload_n hx hb dX4_readNegated_42 rfl (lv_at hl 2 rfl) ?_
              refine ti_get (ci := 4) (k := 2) (N := 6) (T := TX4) (v := .ref (A lw 0)) C hw iw_4 rfl ob_1 (by decide) (by decide) fl_X4_154 rfl (ti_Tv (f_43)) dX4_readNegated_43 ?_
              refine lv_bipush (v := (-24)) hx hb dX4_readNegated_46 (by decide) ?_
              refine ti_callVv (ci := 1) (av := [.int (-24)]) C hw (x_X1_add l D A cy hJ M_37 iM_37 lw hlw (-24) (by first | omega | exact Or.inl (by decide) | exact Or.inr (by decide)) t ht B n g_44 hs_45) ⟨ml_X4_170, ym_X1_add, yv_X1_add, yi_X1_add, yc_X1_add⟩ yd_X1_add hlw (by decide) rfl rfl hl.1 (Nat.le_of_ble_eq_true rfl) ⟨by decide, by decide⟩ ⟨Nat.zero_le _, Nat.zero_le _⟩ dX4_readNegated_48 (fun M_50 H locs hp_50 hw => ?_)
              obtain ⟨iM_50, q_51, q_52, p0r_49⟩ := hp_50
              have lM_50_0 : g_44 0 = (tI M_50 2 4).toInt := p0r_49.2.1.1
              have lM_50_1 : g_44 1 = (tI M_50 2 6).toInt := p0r_49.2.1.2.1
              have lM_50_4 : g_44 4 = (tI M_50 1 4).toInt := p0r_49.2.2.1.1
              have lM_50_7 : g_44 7 = (tI M_50 t 4).toInt := p0r_49.2.2.2.1.1
              have lM_50_8 : g_44 8 = (tI M_50 t 5).toInt := p0r_49.2.2.2.1.2.1
              obtain ⟨x_53, ex_53⟩ : ∃ z : Int32, z = x_34 + 1 := ⟨_, rfl⟩
              have tx_53 : x_53.toInt = x_34.toInt + 1 := i_add ex_53 rfl (by decide) (by omega) (by omega)
              refine lv_iinc (v := x_53) (lv' := [(3, .int x_53), (2, .int x_1), (0, .ref (A 1 0)), (1, .int 6)]) hx hb dX4_readNegated_51 hl (k := 0) rfl (by rw [ex_53]; rfl) (by decide) rfl (fun ls hl => ?_)
              refine lv_goto (tgt := 37) hx hb dX4_readNegated_54 (by decide) ?_
              exact ih_47 x_53 M_50 g_44 _ _ _ (by omega) (by first | omega | decide) (by first | omega | decide) iM_50 ((q_51).trans f_38) (f0.trans (f0_x q_52) f_39) (((q_52 1).2.1).trans f_40) (ot.trans (ot_fx ht q_52) f_41) ((tT_fr q_51).trans f_42) ((tT_fr q_51).trans f_43) p0r_49 j_46 hw (lv_sub hl [0, 1, 2, 3] rfl)
        exact hl_37_46 ((65 - 0 : Int).toNat + 1) 0 M_28 g_33 _ _ _ (Nat.lt_succ_self _) (by have lt0 : (0 : Int32).toInt = 0 := (by decide); first | omega | decide) (by have lt0 : (0 : Int32).toInt = 0 := (by decide); first | omega | decide) iM_28 ((q_29).trans f_5) (f0.trans q_30 f_6) ((q_31).trans f_7) (ot.trans q_32 f_8) ((tT_fr q_29).trans f_9) ((tT_fr q_29).trans f_10) p0r_27 rfl hw (lv_sub hl [0, 1, 2, 3] rfl)
      refine sb_icmp_gt (tgt := 30) hx hb rfl (by decide : (64 : Int32).toInt = 64) dX4_readNegated_5 (by decide) (fun c_5_14 => ?_) (fun c_5_14 => ?_)
      · exact hj_30_26  _ _ _ (by rw [j_13, lp_end (P := pp_qN) (f := 65 - x_1.toInt.toNat) (s := g_11) (Or.inl (by omega))]) hw (lv_sub hl [0, 1, 2] rfl)
      · refine lv_aload_n hx hb dX4_readNegated_8 rfl (lv_at hl 1 rfl) ?_
        refine ti_get (ci := 4) (k := 0) (N := 6) (T := TX4) (v := .ref (A 2 0)) C hw iw_4 rfl ob_1 (by decide) (by decide) fl_X4_12 rfl rfl dX4_readNegated_9 ?_
        refine ti_get (ci := 7) (k := 4) (N := 7) (T := TX7) C hw iw_7 rfl ob_2 (by decide) (by decide) fl_X4_41 rfl rfl dX4_readNegated_12 ?_
        refine lv_topi (fun x_16 ex_16 => ?_)
        have bx_16 : 0 ≤ x_16.toInt ∧ x_16.toInt ≤ 41 := cI_rd iM_4 ob_2.1 ex_16
        have ux_16 : (tI M_4 2 4).toInt = x_16.toInt := by rw [ex_16]
        refine lv_bipush (v := 24) hx hb dX4_readNegated_15 (by decide) ?_
        refine sb_icmp_ne (tgt := 30) hx hb rfl (by decide : (24 : Int32).toInt = 24) dX4_readNegated_17 (by decide) (fun c_17_16 => ?_) (fun c_17_16 => ?_)
        · exact hj_30_26  _ _ _ (by rw [j_13, lp_end (P := pp_qN) (f := 65 - x_1.toInt.toNat) (s := g_11) (Or.inr (decide_eq_false (by omega)))]) hw (lv_sub hl [0, 1, 2] rfl)
        · refine lv_aload_n hx hb dX4_readNegated_20 rfl (lv_at hl 1 rfl) ?_
          refine ti_callVvE (ci := 4) (av := []) C hE hw (x_X4_knot l D A cy hJ M_4 iM_4 t ht (f_9) B n g_11 hs_12) ⟨ml_X4_167, ym_X4_knot, yv_X4_knot, yi_X4_knot, yc_X4_knot⟩ yd_X4_knot ob_1 (by decide) rfl rfl hl.1 (Nat.le_of_ble_eq_true rfl) ⟨by decide, by decide⟩ ⟨Nat.zero_le _, Nat.zero_le _⟩ dX4_readNegated_21 (fun M_19 H locs hp_19 hw => ?_)
          obtain ⟨iM_19, q_20, q_21, q_22, q_23, p0r_18⟩ := hp_19
          obtain ⟨g_24, eg_24⟩ : ∃ z : Nat → Int, z = pp_kn B n g_11 := ⟨_, rfl⟩
          rw [← eg_24] at p0r_18
          have lg_24_0 : g_24 0 = (tI M_19 2 4).toInt := p0r_18.2.1.1
          have lg_24_1 : g_24 1 = (tI M_19 2 6).toInt := p0r_18.2.1.2.1
          have lg_24_4 : g_24 4 = (tI M_19 1 4).toInt := p0r_18.2.2.1.1
          have lg_24_7 : g_24 7 = (tI M_19 t 4).toInt := p0r_18.2.2.2.1.1
          have lg_24_8 : g_24 8 = (tI M_19 t 5).toInt := p0r_18.2.2.2.1.2.1
          obtain ⟨x_25, ex_25⟩ : ∃ z : Int32, z = x_1 + 1 := ⟨_, rfl⟩
          have tx_25 : x_25.toInt = x_1.toInt + 1 := i_add ex_25 rfl (by decide) (by omega) (by omega)
          refine lv_iinc (v := x_25) (lv' := [(2, .int x_25), (0, .ref (A 1 0)), (1, .int 6)]) hx hb dX4_readNegated_24 hl (k := 0) rfl (by rw [ex_25]; rfl) (by decide) rfl (fun ls hl => ?_)
          refine lv_goto (tgt := 2) hx hb dX4_readNegated_27 (by decide) ?_
          exact ih_14 x_25 M_19 g_24 _ _ _ (by omega) (by first | omega | decide) (by first | omega | decide) iM_19 ((q_20).trans f_5) (f0.trans q_21 f_6) ((q_22).trans f_7) (ot.trans q_23 f_8) ((tT_fr q_20).trans f_9) ((tT_fr q_20).trans f_10) p0r_18 (j_13.trans (lp_step (decide_eq_true (by omega)) (by rw [eg_24]) (by omega))) hw (lv_sub hl [0, 1, 2] rfl)
  exact hl_2_13 ((65 - 0 : Int).toNat + 1) 0 M rg _ _ _ (Nat.lt_succ_self _) (by have lt0 : (0 : Int32).toInt = 0 := (by decide); first | omega | decide) (by have lt0 : (0 : Int32).toInt = 0 := (by decide); first | omega | decide) hI rfl f0.refl rfl ot.refl (hT) (hL) hr rfl hw (lv_sub hl [0, 1, 2] rfl)
set_option maxHeartbeats 4000000 in
set_option maxRecDepth 100000 in
theorem x_X4_readBoth_6 (l : Launch) (D : va_G) (A : Nat → Nat → Nat) (cy : Nat → ClassId) (hJ : ti_inj ti_LT A) (M : ti_M) (hI : cI Tc M) (t : Nat) (ht : t = 3 ∨ t = 4) (hT : tT M 1 1 = some t) (lw : Nat) (hlw : ti_ob ti_LT lw 1) (hL : tT M 1 2 = some lw) (B : Nat → Int) (n : Nat) (rg : Nat → Int) (hr : rC B n t rg M) : ti_KvE l yX4_readBoth cX4_readBoth 3 27 ti_LT D A cy M [.ref (A 1 0), .int 6] (fun M2 => cI Tc M2 ∧ M2.2.2.2 = M.2.2.2 ∧ f0 M2 M ∧ tI M2 2 1 = tI M 2 1 ∧ ot t M2 M ∧ rC B n t (pp_bo B n (pp_pt B n 2) rg) M2) := by
  refine ti_eVE yp_X4_readBoth hJ ti_LT_nd (Nat.le_of_ble_eq_true rfl) ?_
  intro p e s m args below meth c Q H0 C hE hQ hw ls hl
  have hx := C.1
  have hb := C.2.1
  have hl : lv_has ls 3 [(0, .ref (A 1 0)), (1, .int 6)] := hl
  have l0 : rg 0 = (tI M 2 4).toInt := hr.2.1.1
  have l1 : rg 1 = (tI M 2 6).toInt := hr.2.1.2.1
  have l2 : rg 2 = (tI M 2 5).toInt := hr.2.1.2.2.1
  have l3 : rg 3 = (tI M 2 3).toInt := hr.2.1.2.2.2
  have l4 : rg 4 = (tI M 1 4).toInt := hr.2.2.1.1
  have l5 : rg 5 = (tI M 1 5).toInt := hr.2.2.1.2.1
  have l7 : rg 7 = (tI M t 4).toInt := hr.2.2.2.1.1
  have l8 : rg 8 = (tI M t 5).toInt := hr.2.2.2.1.2.1
  have l9 : rg 9 = (tI M t 3).toInt := hr.2.2.2.1.2.2
  refine lv_aload_n hx hb dX4_readBoth_0 rfl (lv_at hl 0 rfl) ?_
  refine lv_iload_n hx hb dX4_readBoth_1 rfl (lv_at hl 1 rfl) ?_
  refine ti_callVvE (ci := 4) (av := [.int 6]) C hE hw (x_X4_readNegated_6 l D A cy hJ M hI t ht (hT) lw hlw (hL) B n rg hr) ⟨ml_X4_175, ym_X4_readNegated, yv_X4_readNegated, yi_X4_readNegated, yc_X4_readNegated⟩ yd_X4_readNegated ob_1 (by decide) rfl rfl hl.1 (Nat.le_of_ble_eq_true rfl) ⟨by decide, by decide⟩ ⟨Nat.zero_le _, Nat.zero_le _⟩ dX4_readBoth_2 (fun M_2 H locs hp_2 hw => ?_)
  obtain ⟨iM_2, q_3, q_4, q_5, q_6, p0r_1⟩ := hp_2
  obtain ⟨g_7, eg_7⟩ : ∃ z : Nat → Int, z = pp_ng B n (pp_pt B n 2) rg := ⟨_, rfl⟩
  rw [← eg_7] at p0r_1
  have lg_7_0 : g_7 0 = (tI M_2 2 4).toInt := p0r_1.2.1.1
  have lg_7_1 : g_7 1 = (tI M_2 2 6).toInt := p0r_1.2.1.2.1
  have lg_7_4 : g_7 4 = (tI M_2 1 4).toInt := p0r_1.2.2.1.1
  have lg_7_7 : g_7 7 = (tI M_2 t 4).toInt := p0r_1.2.2.2.1.1
  have lg_7_8 : g_7 8 = (tI M_2 t 5).toInt := p0r_1.2.2.2.1.2.1
  refine lv_iconst (v := 0) hx hb dX4_readBoth_5 (by decide) ?_
  refine lv_istore_n (lv' := [(2, .int 0), (0, .ref (A 1 0)), (1, .int 6)]) hx hb dX4_readBoth_6 rfl hl (by decide) rfl (fun ls hl => ?_)
  have hl_7_20 : ∀ (n_21 : Nat) (x_8 : Int32) (M_11 : ti_M) (g_18 : Nat → Int) (H : Heap) (locs : List Loc) (ls : Array Slot), (64 - x_8.toInt : Int).toNat < n_21 → (0 ≤ x_8.toInt) → (x_8.toInt ≤ 64) → (cI Tc M_11) → (M_11.2.2.2 = M.2.2.2) → (f0 M_11 M) → (tI M_11 2 1 = tI M 2 1) → (ot t M_11 M) → (tT M_11 1 1 = (some t)) → (tT M_11 1 2 = (some lw)) → (rC B n t g_18 M_11) → (pp_lp pp_qA (fun s => pp_ng B n (pp_pt B n 2) (pp_kn B n s)) 64 g_7 = pp_lp pp_qA (fun s => pp_ng B n (pp_pt B n 2) (pp_kn B n s)) (64 - (x_8.toInt).toNat) g_18) → ti_H ti_LT D A cy H0 M_11 H locs → lv_has ls 3 [(2, .int x_8), (0, .ref (A 1 0)), (1, .int 6)] → W p l e (ti_rm 27) s m args below meth c H locs 0 0 Q (F0 m 7 ls []) := by
    intro n_21
    induction n_21 with
    | zero => intro x_8 M_11 g_18 H locs ls hf_21; exact absurd hf_21 (Nat.not_lt_zero _)
    | succ n_21 ih_21 =>
      intro x_8 M_11 g_18 H locs ls hf_21 b_9 b_10 iM_11 f_12 f_13 f_14 f_15 f_16 f_17 hs_19 j_20 hw hl
      have lg_18_0 : g_18 0 = (tI M_11 2 4).toInt := hs_19.2.1.1
      have lg_18_1 : g_18 1 = (tI M_11 2 6).toInt := hs_19.2.1.2.1
      have lg_18_4 : g_18 4 = (tI M_11 1 4).toInt := hs_19.2.2.1.1
      have lg_18_7 : g_18 7 = (tI M_11 t 4).toInt := hs_19.2.2.2.1.1
      have lg_18_8 : g_18 8 = (tI M_11 t 5).toInt := hs_19.2.2.2.1.2.1
      refine lv_iload_n hx hb dX4_readBoth_7 rfl (lv_at hl 0 rfl) ?_
      refine lv_bipush (v := 64) hx hb dX4_readBoth_8 (by decide) ?_
      refine sb_icmp_ge (tgt := 49) hx hb rfl (by decide : (64 : Int32).toInt = 64) dX4_readBoth_10 (by decide) (fun c_10_21 => ?_) (fun c_10_21 => ?_)
      · exact hQ _ _ _ _ _ hw (⟨iM_11, (f_12), f_13, (f_14), f_15, (by unfold pp_bo; rw [← eg_7, j_20, lp_end (P := pp_qA) (f := 64 - x_8.toInt.toNat) (s := g_18) (Or.inl (by omega))]; exact hs_19)⟩) dX4_readBoth_49
      · refine lv_aload_n hx hb dX4_readBoth_13 rfl (lv_at hl 1 rfl) ?_
        refine ti_get (ci := 4) (k := 0) (N := 6) (T := TX4) (v := .ref (A 2 0)) C hw iw_4 rfl ob_1 (by decide) (by decide) fl_X4_12 rfl rfl dX4_readBoth_14 ?_
        refine ti_get (ci := 7) (k := 4) (N := 7) (T := TX7) C hw iw_7 rfl ob_2 (by decide) (by decide) fl_X4_41 rfl rfl dX4_readBoth_17 ?_
        refine lv_topi (fun x_23 ex_23 => ?_)
        have bx_23 : 0 ≤ x_23.toInt ∧ x_23.toInt ≤ 41 := cI_rd iM_11 ob_2.1 ex_23
        have ux_23 : (tI M_11 2 4).toInt = x_23.toInt := by rw [ex_23]
        refine lv_bipush (v := 22) hx hb dX4_readBoth_20 (by decide) ?_
        refine sb_icmp_ne (tgt := 49) hx hb rfl (by decide : (22 : Int32).toInt = 22) dX4_readBoth_22 (by decide) (fun c_22_23 => ?_) (fun c_22_23 => ?_)
        · exact hQ _ _ _ _ _ hw (⟨iM_11, (f_12), f_13, (f_14), f_15, (by unfold pp_bo; rw [← eg_7, j_20, lp_end (P := pp_qA) (f := 64 - x_8.toInt.toNat) (s := g_18) (Or.inr (decide_eq_false (by omega)))]; exact hs_19)⟩) dX4_readBoth_49
        · refine lv_aload_n hx hb dX4_readBoth_25 rfl (lv_at hl 1 rfl) ?_
          refine ti_callVvE (ci := 4) (av := []) C hE hw (x_X4_knot l D A cy hJ M_11 iM_11 t ht (f_16) B n g_18 hs_19) ⟨ml_X4_167, ym_X4_knot, yv_X4_knot, yi_X4_knot, yc_X4_knot⟩ yd_X4_knot ob_1 (by decide) rfl rfl hl.1 (Nat.le_of_ble_eq_true rfl) ⟨by decide, by decide⟩ ⟨Nat.zero_le _, Nat.zero_le _⟩ dX4_readBoth_26 (fun M_26 H locs hp_26 hw => ?_)
          obtain ⟨iM_26, q_27, q_28, q_29, q_30, p0r_25⟩ := hp_26
          obtain ⟨g_31, eg_31⟩ : ∃ z : Nat → Int, z = pp_kn B n g_18 := ⟨_, rfl⟩
          rw [← eg_31] at p0r_25
          have lg_31_0 : g_31 0 = (tI M_26 2 4).toInt := p0r_25.2.1.1
          have lg_31_1 : g_31 1 = (tI M_26 2 6).toInt := p0r_25.2.1.2.1
          have lg_31_4 : g_31 4 = (tI M_26 1 4).toInt := p0r_25.2.2.1.1
          have lg_31_7 : g_31 7 = (tI M_26 t 4).toInt := p0r_25.2.2.2.1.1
          have lg_31_8 : g_31 8 = (tI M_26 t 5).toInt := p0r_25.2.2.2.1.2.1
          refine lv_aload_n hx hb dX4_readBoth_29 rfl (lv_at hl 1 rfl) ?_
          refine lv_iload_n hx hb dX4_readBoth_30 rfl (lv_at hl 2 rfl) ?_
          refine ti_callVvE (ci := 4) (av := [.int 6]) C hE hw (x_X4_readNegated_6 l D A cy hJ M_26 iM_26 t ht ((tT_fr q_27).trans f_16) lw hlw ((tT_fr q_27).trans f_17) B n g_31 p0r_25) ⟨ml_X4_175, ym_X4_readNegated, yv_X4_readNegated, yi_X4_readNegated, yc_X4_readNegated⟩ yd_X4_readNegated ob_1 (by decide) rfl rfl hl.1 (Nat.le_of_ble_eq_true rfl) ⟨by decide, by decide⟩ ⟨Nat.zero_le _, Nat.zero_le _⟩ dX4_readBoth_31 (fun M_33 H locs hp_33 hw => ?_)
          obtain ⟨iM_33, q_34, q_35, q_36, q_37, p0r_32⟩ := hp_33
          obtain ⟨g_38, eg_38⟩ : ∃ z : Nat → Int, z = pp_ng B n (pp_pt B n 2) g_31 := ⟨_, rfl⟩
          rw [← eg_38] at p0r_32
          have lg_38_0 : g_38 0 = (tI M_33 2 4).toInt := p0r_32.2.1.1
          have lg_38_1 : g_38 1 = (tI M_33 2 6).toInt := p0r_32.2.1.2.1
          have lg_38_4 : g_38 4 = (tI M_33 1 4).toInt := p0r_32.2.2.1.1
          have lg_38_7 : g_38 7 = (tI M_33 t 4).toInt := p0r_32.2.2.2.1.1
          have lg_38_8 : g_38 8 = (tI M_33 t 5).toInt := p0r_32.2.2.2.1.2.1
          refine lv_aload_n hx hb dX4_readBoth_34 rfl (lv_at hl 1 rfl) ?_
          refine ti_get (ci := 4) (k := 2) (N := 6) (T := TX4) (v := .ref (A lw 0)) C hw iw_4 rfl ob_1 (by decide) (by decide) fl_X4_154 rfl (ti_Tv ((tT_fr q_34).trans ((tT_fr q_27).trans f_17))) dX4_readBoth_35 ?_
          refine lv_bipush (v := (-22)) hx hb dX4_readBoth_38 (by decide) ?_
          refine ti_callVv (ci := 1) (av := [.int (-22)]) C hw (x_X1_add l D A cy hJ M_33 iM_33 lw hlw (-22) (by first | omega | exact Or.inl (by decide) | exact Or.inr (by decide)) t ht B n g_38 p0r_32) ⟨ml_X4_170, ym_X1_add, yv_X1_add, yi_X1_add, yc_X1_add⟩ yd_X1_add hlw (by decide) rfl rfl hl.1 (Nat.le_of_ble_eq_true rfl) ⟨by decide, by decide⟩ ⟨Nat.zero_le _, Nat.zero_le _⟩ dX4_readBoth_40 (fun M_40 H locs hp_40 hw => ?_)
          obtain ⟨iM_40, q_41, q_42, p0r_39⟩ := hp_40
          have lM_40_0 : g_38 0 = (tI M_40 2 4).toInt := p0r_39.2.1.1
          have lM_40_1 : g_38 1 = (tI M_40 2 6).toInt := p0r_39.2.1.2.1
          have lM_40_4 : g_38 4 = (tI M_40 1 4).toInt := p0r_39.2.2.1.1
          have lM_40_7 : g_38 7 = (tI M_40 t 4).toInt := p0r_39.2.2.2.1.1
          have lM_40_8 : g_38 8 = (tI M_40 t 5).toInt := p0r_39.2.2.2.1.2.1
          obtain ⟨x_43, ex_43⟩ : ∃ z : Int32, z = x_8 + 1 := ⟨_, rfl⟩
          have tx_43 : x_43.toInt = x_8.toInt + 1 := i_add ex_43 rfl (by decide) (by omega) (by omega)
          refine lv_iinc (v := x_43) (lv' := [(2, .int x_43), (0, .ref (A 1 0)), (1, .int 6)]) hx hb dX4_readBoth_43 hl (k := 0) rfl (by rw [ex_43]; rfl) (by decide) rfl (fun ls hl => ?_)
          refine lv_goto (tgt := 7) hx hb dX4_readBoth_46 (by decide) ?_
          exact ih_21 x_43 M_40 g_38 _ _ _ (by omega) (by first | omega | decide) (by first | omega | decide) iM_40 ((q_41).trans ((q_34).trans ((q_27).trans f_12))) (f0.trans (f0_x q_42) (f0.trans q_35 (f0.trans q_28 f_13))) (((q_42 1).2.1).trans ((q_36).trans ((q_29).trans f_14))) (ot.trans (ot_fx ht q_42) (ot.trans q_37 (ot.trans q_30 f_15))) ((tT_fr q_41).trans ((tT_fr q_34).trans ((tT_fr q_27).trans f_16))) ((tT_fr q_41).trans ((tT_fr q_34).trans ((tT_fr q_27).trans f_17))) p0r_39 (j_20.trans (lp_step (decide_eq_true (by omega)) (by rw [eg_38, eg_31]) (by omega))) hw (lv_sub hl [0, 1, 2] rfl)
  exact hl_7_20 ((64 - 0 : Int).toNat + 1) 0 M_2 g_7 _ _ _ (Nat.lt_succ_self _) (by have lt0 : (0 : Int32).toInt = 0 := (by decide); first | omega | decide) (by have lt0 : (0 : Int32).toInt = 0 := (by decide); first | omega | decide) iM_2 (q_3) q_4 (q_5) q_6 ((tT_fr q_3).trans hT) ((tT_fr q_3).trans hL) p0r_1 rfl hw (lv_sub hl [0, 1, 2] rfl)
set_option maxHeartbeats 4000000 in
set_option maxRecDepth 100000 in
theorem x_X4_readEither_6 (l : Launch) (D : va_G) (A : Nat → Nat → Nat) (cy : Nat → ClassId) (hJ : ti_inj ti_LT A) (M : ti_M) (hI : cI Tc M) (t : Nat) (ht : t = 3 ∨ t = 4) (hT : tT M 1 1 = some t) (lw : Nat) (hlw : ti_ob ti_LT lw 1) (hL : tT M 1 2 = some lw) (B : Nat → Int) (n : Nat) (rg : Nat → Int) (hr : rC B n t rg M) : ti_KvE l yX4_readEither cX4_readEither 3 28 ti_LT D A cy M [.ref (A 1 0), .int 6] (fun M2 => cI Tc M2 ∧ M2.2.2.2 = M.2.2.2 ∧ f0 M2 M ∧ tI M2 2 1 = tI M 2 1 ∧ ot t M2 M ∧ rC B n t (pp_ei B n (pp_pt B n 2) rg) M2) := by
  refine ti_eVE yp_X4_readEither hJ ti_LT_nd (Nat.le_of_ble_eq_true rfl) ?_
  intro p e s m args below meth c Q H0 C hE hQ hw ls hl
  have hx := C.1
  have hb := C.2.1
  have hl : lv_has ls 3 [(0, .ref (A 1 0)), (1, .int 6)] := hl
  have l0 : rg 0 = (tI M 2 4).toInt := hr.2.1.1
  have l1 : rg 1 = (tI M 2 6).toInt := hr.2.1.2.1
  have l2 : rg 2 = (tI M 2 5).toInt := hr.2.1.2.2.1
  have l3 : rg 3 = (tI M 2 3).toInt := hr.2.1.2.2.2
  have l4 : rg 4 = (tI M 1 4).toInt := hr.2.2.1.1
  have l5 : rg 5 = (tI M 1 5).toInt := hr.2.2.1.2.1
  have l7 : rg 7 = (tI M t 4).toInt := hr.2.2.2.1.1
  have l8 : rg 8 = (tI M t 5).toInt := hr.2.2.2.1.2.1
  have l9 : rg 9 = (tI M t 3).toInt := hr.2.2.2.1.2.2
  refine lv_aload_n hx hb dX4_readEither_0 rfl (lv_at hl 0 rfl) ?_
  refine lv_iload_n hx hb dX4_readEither_1 rfl (lv_at hl 1 rfl) ?_
  refine ti_callVvE (ci := 4) (av := [.int 6]) C hE hw (x_X4_readBoth_6 l D A cy hJ M hI t ht (hT) lw hlw (hL) B n rg hr) ⟨ml_X4_164, ym_X4_readBoth, yv_X4_readBoth, yi_X4_readBoth, yc_X4_readBoth⟩ yd_X4_readBoth ob_1 (by decide) rfl rfl hl.1 (Nat.le_of_ble_eq_true rfl) ⟨by decide, by decide⟩ ⟨Nat.zero_le _, Nat.zero_le _⟩ dX4_readEither_2 (fun M_2 H locs hp_2 hw => ?_)
  obtain ⟨iM_2, q_3, q_4, q_5, q_6, p0r_1⟩ := hp_2
  obtain ⟨g_7, eg_7⟩ : ∃ z : Nat → Int, z = pp_bo B n (pp_pt B n 2) rg := ⟨_, rfl⟩
  rw [← eg_7] at p0r_1
  have lg_7_0 : g_7 0 = (tI M_2 2 4).toInt := p0r_1.2.1.1
  have lg_7_1 : g_7 1 = (tI M_2 2 6).toInt := p0r_1.2.1.2.1
  have lg_7_4 : g_7 4 = (tI M_2 1 4).toInt := p0r_1.2.2.1.1
  have lg_7_7 : g_7 7 = (tI M_2 t 4).toInt := p0r_1.2.2.2.1.1
  have lg_7_8 : g_7 8 = (tI M_2 t 5).toInt := p0r_1.2.2.2.1.2.1
  refine lv_iconst (v := 0) hx hb dX4_readEither_5 (by decide) ?_
  refine lv_istore_n (lv' := [(2, .int 0), (0, .ref (A 1 0)), (1, .int 6)]) hx hb dX4_readEither_6 rfl hl (by decide) rfl (fun ls hl => ?_)
  have hl_7_20 : ∀ (n_21 : Nat) (x_8 : Int32) (M_11 : ti_M) (g_18 : Nat → Int) (H : Heap) (locs : List Loc) (ls : Array Slot), (64 - x_8.toInt : Int).toNat < n_21 → (0 ≤ x_8.toInt) → (x_8.toInt ≤ 64) → (cI Tc M_11) → (M_11.2.2.2 = M.2.2.2) → (f0 M_11 M) → (tI M_11 2 1 = tI M 2 1) → (ot t M_11 M) → (tT M_11 1 1 = (some t)) → (tT M_11 1 2 = (some lw)) → (rC B n t g_18 M_11) → (pp_lp pp_qO (fun s => pp_bo B n (pp_pt B n 2) (pp_kn B n s)) 64 g_7 = pp_lp pp_qO (fun s => pp_bo B n (pp_pt B n 2) (pp_kn B n s)) (64 - (x_8.toInt).toNat) g_18) → ti_H ti_LT D A cy H0 M_11 H locs → lv_has ls 3 [(2, .int x_8), (0, .ref (A 1 0)), (1, .int 6)] → W p l e (ti_rm 28) s m args below meth c H locs 0 0 Q (F0 m 7 ls []) := by
    intro n_21
    induction n_21 with
    | zero => intro x_8 M_11 g_18 H locs ls hf_21; exact absurd hf_21 (Nat.not_lt_zero _)
    | succ n_21 ih_21 =>
      intro x_8 M_11 g_18 H locs ls hf_21 b_9 b_10 iM_11 f_12 f_13 f_14 f_15 f_16 f_17 hs_19 j_20 hw hl
      have lg_18_0 : g_18 0 = (tI M_11 2 4).toInt := hs_19.2.1.1
      have lg_18_1 : g_18 1 = (tI M_11 2 6).toInt := hs_19.2.1.2.1
      have lg_18_4 : g_18 4 = (tI M_11 1 4).toInt := hs_19.2.2.1.1
      have lg_18_7 : g_18 7 = (tI M_11 t 4).toInt := hs_19.2.2.2.1.1
      have lg_18_8 : g_18 8 = (tI M_11 t 5).toInt := hs_19.2.2.2.1.2.1
      refine lv_iload_n hx hb dX4_readEither_7 rfl (lv_at hl 0 rfl) ?_
      refine lv_bipush (v := 64) hx hb dX4_readEither_8 (by decide) ?_
      refine sb_icmp_ge (tgt := 49) hx hb rfl (by decide : (64 : Int32).toInt = 64) dX4_readEither_10 (by decide) (fun c_10_21 => ?_) (fun c_10_21 => ?_)
      · exact hQ _ _ _ _ _ hw (⟨iM_11, (f_12), f_13, (f_14), f_15, (by unfold pp_ei; rw [← eg_7, j_20, lp_end (P := pp_qO) (f := 64 - x_8.toInt.toNat) (s := g_18) (Or.inl (by omega))]; exact hs_19)⟩) dX4_readEither_49
      · refine lv_aload_n hx hb dX4_readEither_13 rfl (lv_at hl 1 rfl) ?_
        refine ti_get (ci := 4) (k := 0) (N := 6) (T := TX4) (v := .ref (A 2 0)) C hw iw_4 rfl ob_1 (by decide) (by decide) fl_X4_12 rfl rfl dX4_readEither_14 ?_
        refine ti_get (ci := 7) (k := 4) (N := 7) (T := TX7) C hw iw_7 rfl ob_2 (by decide) (by decide) fl_X4_41 rfl rfl dX4_readEither_17 ?_
        refine lv_topi (fun x_23 ex_23 => ?_)
        have bx_23 : 0 ≤ x_23.toInt ∧ x_23.toInt ≤ 41 := cI_rd iM_11 ob_2.1 ex_23
        have ux_23 : (tI M_11 2 4).toInt = x_23.toInt := by rw [ex_23]
        refine lv_bipush (v := 23) hx hb dX4_readEither_20 (by decide) ?_
        refine sb_icmp_ne (tgt := 49) hx hb rfl (by decide : (23 : Int32).toInt = 23) dX4_readEither_22 (by decide) (fun c_22_23 => ?_) (fun c_22_23 => ?_)
        · exact hQ _ _ _ _ _ hw (⟨iM_11, (f_12), f_13, (f_14), f_15, (by unfold pp_ei; rw [← eg_7, j_20, lp_end (P := pp_qO) (f := 64 - x_8.toInt.toNat) (s := g_18) (Or.inr (decide_eq_false (by omega)))]; exact hs_19)⟩) dX4_readEither_49
        · refine lv_aload_n hx hb dX4_readEither_25 rfl (lv_at hl 1 rfl) ?_
          refine ti_callVvE (ci := 4) (av := []) C hE hw (x_X4_knot l D A cy hJ M_11 iM_11 t ht (f_16) B n g_18 hs_19) ⟨ml_X4_167, ym_X4_knot, yv_X4_knot, yi_X4_knot, yc_X4_knot⟩ yd_X4_knot ob_1 (by decide) rfl rfl hl.1 (Nat.le_of_ble_eq_true rfl) ⟨by decide, by decide⟩ ⟨Nat.zero_le _, Nat.zero_le _⟩ dX4_readEither_26 (fun M_26 H locs hp_26 hw => ?_)
          obtain ⟨iM_26, q_27, q_28, q_29, q_30, p0r_25⟩ := hp_26
          obtain ⟨g_31, eg_31⟩ : ∃ z : Nat → Int, z = pp_kn B n g_18 := ⟨_, rfl⟩
          rw [← eg_31] at p0r_25
          have lg_31_0 : g_31 0 = (tI M_26 2 4).toInt := p0r_25.2.1.1
          have lg_31_1 : g_31 1 = (tI M_26 2 6).toInt := p0r_25.2.1.2.1
          have lg_31_4 : g_31 4 = (tI M_26 1 4).toInt := p0r_25.2.2.1.1
          have lg_31_7 : g_31 7 = (tI M_26 t 4).toInt := p0r_25.2.2.2.1.1
          have lg_31_8 : g_31 8 = (tI M_26 t 5).toInt := p0r_25.2.2.2.1.2.1
          refine lv_aload_n hx hb dX4_readEither_29 rfl (lv_at hl 1 rfl) ?_
          refine lv_iload_n hx hb dX4_readEither_30 rfl (lv_at hl 2 rfl) ?_
          refine ti_callVvE (ci := 4) (av := [.int 6]) C hE hw (x_X4_readBoth_6 l D A cy hJ M_26 iM_26 t ht ((tT_fr q_27).trans f_16) lw hlw ((tT_fr q_27).trans f_17) B n g_31 p0r_25) ⟨ml_X4_164, ym_X4_readBoth, yv_X4_readBoth, yi_X4_readBoth, yc_X4_readBoth⟩ yd_X4_readBoth ob_1 (by decide) rfl rfl hl.1 (Nat.le_of_ble_eq_true rfl) ⟨by decide, by decide⟩ ⟨Nat.zero_le _, Nat.zero_le _⟩ dX4_readEither_31 (fun M_33 H locs hp_33 hw => ?_)
          obtain ⟨iM_33, q_34, q_35, q_36, q_37, p0r_32⟩ := hp_33
          obtain ⟨g_38, eg_38⟩ : ∃ z : Nat → Int, z = pp_bo B n (pp_pt B n 2) g_31 := ⟨_, rfl⟩
          rw [← eg_38] at p0r_32
          have lg_38_0 : g_38 0 = (tI M_33 2 4).toInt := p0r_32.2.1.1
          have lg_38_1 : g_38 1 = (tI M_33 2 6).toInt := p0r_32.2.1.2.1
          have lg_38_4 : g_38 4 = (tI M_33 1 4).toInt := p0r_32.2.2.1.1
          have lg_38_7 : g_38 7 = (tI M_33 t 4).toInt := p0r_32.2.2.2.1.1
          have lg_38_8 : g_38 8 = (tI M_33 t 5).toInt := p0r_32.2.2.2.1.2.1
          refine lv_aload_n hx hb dX4_readEither_34 rfl (lv_at hl 1 rfl) ?_
          refine ti_get (ci := 4) (k := 2) (N := 6) (T := TX4) (v := .ref (A lw 0)) C hw iw_4 rfl ob_1 (by decide) (by decide) fl_X4_154 rfl (ti_Tv ((tT_fr q_34).trans ((tT_fr q_27).trans f_17))) dX4_readEither_35 ?_
          refine lv_bipush (v := (-23)) hx hb dX4_readEither_38 (by decide) ?_
          refine ti_callVv (ci := 1) (av := [.int (-23)]) C hw (x_X1_add l D A cy hJ M_33 iM_33 lw hlw (-23) (by first | omega | exact Or.inl (by decide) | exact Or.inr (by decide)) t ht B n g_38 p0r_32) ⟨ml_X4_170, ym_X1_add, yv_X1_add, yi_X1_add, yc_X1_add⟩ yd_X1_add hlw (by decide) rfl rfl hl.1 (Nat.le_of_ble_eq_true rfl) ⟨by decide, by decide⟩ ⟨Nat.zero_le _, Nat.zero_le _⟩ dX4_readEither_40 (fun M_40 H locs hp_40 hw => ?_)
          obtain ⟨iM_40, q_41, q_42, p0r_39⟩ := hp_40
          have lM_40_0 : g_38 0 = (tI M_40 2 4).toInt := p0r_39.2.1.1
          have lM_40_1 : g_38 1 = (tI M_40 2 6).toInt := p0r_39.2.1.2.1
          have lM_40_4 : g_38 4 = (tI M_40 1 4).toInt := p0r_39.2.2.1.1
          have lM_40_7 : g_38 7 = (tI M_40 t 4).toInt := p0r_39.2.2.2.1.1
          have lM_40_8 : g_38 8 = (tI M_40 t 5).toInt := p0r_39.2.2.2.1.2.1
          obtain ⟨x_43, ex_43⟩ : ∃ z : Int32, z = x_8 + 1 := ⟨_, rfl⟩
          have tx_43 : x_43.toInt = x_8.toInt + 1 := i_add ex_43 rfl (by decide) (by omega) (by omega)
          refine lv_iinc (v := x_43) (lv' := [(2, .int x_43), (0, .ref (A 1 0)), (1, .int 6)]) hx hb dX4_readEither_43 hl (k := 0) rfl (by rw [ex_43]; rfl) (by decide) rfl (fun ls hl => ?_)
          refine lv_goto (tgt := 7) hx hb dX4_readEither_46 (by decide) ?_
          exact ih_21 x_43 M_40 g_38 _ _ _ (by omega) (by first | omega | decide) (by first | omega | decide) iM_40 ((q_41).trans ((q_34).trans ((q_27).trans f_12))) (f0.trans (f0_x q_42) (f0.trans q_35 (f0.trans q_28 f_13))) (((q_42 1).2.1).trans ((q_36).trans ((q_29).trans f_14))) (ot.trans (ot_fx ht q_42) (ot.trans q_37 (ot.trans q_30 f_15))) ((tT_fr q_41).trans ((tT_fr q_34).trans ((tT_fr q_27).trans f_16))) ((tT_fr q_41).trans ((tT_fr q_34).trans ((tT_fr q_27).trans f_17))) p0r_39 (j_20.trans (lp_step (decide_eq_true (by omega)) (by rw [eg_38, eg_31]) (by omega))) hw (lv_sub hl [0, 1, 2] rfl)
  exact hl_7_20 ((64 - 0 : Int).toNat + 1) 0 M_2 g_7 _ _ _ (Nat.lt_succ_self _) (by have lt0 : (0 : Int32).toInt = 0 := (by decide); first | omega | decide) (by have lt0 : (0 : Int32).toInt = 0 := (by decide); first | omega | decide) iM_2 (q_3) q_4 (q_5) q_6 ((tT_fr q_3).trans hT) ((tT_fr q_3).trans hL) p0r_1 rfl hw (lv_sub hl [0, 1, 2] rfl)
set_option maxHeartbeats 4000000 in
set_option maxRecDepth 100000 in
theorem x_X4_readPart_5 (l : Launch) (D : va_G) (A : Nat → Nat → Nat) (cy : Nat → ClassId) (hJ : ti_inj ti_LT A) (M : ti_M) (hI : cI Tc M) (t : Nat) (ht : t = 3 ∨ t = 4) (hT : tT M 1 1 = some t) (lw : Nat) (hlw : ti_ob ti_LT lw 1) (hL : tT M 1 2 = some lw) (B : Nat → Int) (n : Nat) (rg : Nat → Int) (hr : rC B n t rg M) : ti_KvE l yX4_readPart cX4_readPart 3 29 ti_LT D A cy M [.ref (A 1 0), .int 5] (fun M2 => cI Tc M2 ∧ M2.2.2.2 = M.2.2.2 ∧ f0 M2 M ∧ tI M2 2 1 = tI M 2 1 ∧ ot t M2 M ∧ rC B n t (pp_pt B n 3 rg) M2) := by
  refine ti_eVE yp_X4_readPart hJ ti_LT_nd (Nat.le_of_ble_eq_true rfl) ?_
  intro p e s m args below meth c Q H0 C hE hQ hw ls hl
  have hx := C.1
  have hb := C.2.1
  have hl : lv_has ls 3 [(0, .ref (A 1 0)), (1, .int 5)] := hl
  have l0 : rg 0 = (tI M 2 4).toInt := hr.2.1.1
  have l1 : rg 1 = (tI M 2 6).toInt := hr.2.1.2.1
  have l2 : rg 2 = (tI M 2 5).toInt := hr.2.1.2.2.1
  have l3 : rg 3 = (tI M 2 3).toInt := hr.2.1.2.2.2
  have l4 : rg 4 = (tI M 1 4).toInt := hr.2.2.1.1
  have l5 : rg 5 = (tI M 1 5).toInt := hr.2.2.1.2.1
  have l7 : rg 7 = (tI M t 4).toInt := hr.2.2.2.1.1
  have l8 : rg 8 = (tI M t 5).toInt := hr.2.2.2.1.2.1
  have l9 : rg 9 = (tI M t 3).toInt := hr.2.2.2.1.2.2
  refine lv_aload_n hx hb dX4_readPart_0 rfl (lv_at hl 0 rfl) ?_
  refine ti_get (ci := 4) (k := 0) (N := 6) (T := TX4) (v := .ref (A 2 0)) C hw iw_4 rfl ob_1 (by decide) (by decide) fl_X4_12 rfl rfl dX4_readPart_1 ?_
  refine ti_get (ci := 7) (k := 4) (N := 7) (T := TX7) C hw iw_7 rfl ob_2 (by decide) (by decide) fl_X4_41 rfl rfl dX4_readPart_4 ?_
  refine lv_topi (fun x_1 ex_1 => ?_)
  have bx_1 : 0 ≤ x_1.toInt ∧ x_1.toInt ≤ 41 := cI_rd hI ob_2.1 ex_1
  have ux_1 : (tI M 2 4).toInt = x_1.toInt := by rw [ex_1]
  refine lv_istore_n (lv' := [(2, .int x_1), (0, .ref (A 1 0)), (1, .int 5)]) hx hb dX4_readPart_7 rfl hl (by decide) rfl (fun ls hl => ?_)
  refine lv_iload_n hx hb dX4_readPart_8 rfl (lv_at hl 0 rfl) ?_
  refine lv_bipush (v := 30) hx hb dX4_readPart_9 (by decide) ?_
  refine sb_icmp_ne (tgt := 28) hx hb rfl (by decide : (30 : Int32).toInt = 30) dX4_readPart_11 (by decide) (fun c_11_1 => ?_) (fun c_11_1 => ?_)
  · refine lv_iload_n hx hb dX4_readPart_28 rfl (lv_at hl 0 rfl) ?_
    refine lv_bipush (v := 30) hx hb dX4_readPart_29 (by decide) ?_
    refine sb_icmp_ne (tgt := 57) hx hb rfl (by decide : (30 : Int32).toInt = 30) dX4_readPart_31 (by decide) (fun c_31_3 => ?_) (fun h => by omega)
    refine lv_iload_n hx hb dX4_readPart_57 rfl (lv_at hl 0 rfl) ?_
    refine lv_bipush (v := 26) hx hb dX4_readPart_58 (by decide) ?_
    refine sb_icmp_ne (tgt := 84) hx hb rfl (by decide : (26 : Int32).toInt = 26) dX4_readPart_60 (by decide) (fun c_60_26 => ?_) (fun c_60_26 => ?_)
    · refine lv_iload_n hx hb dX4_readPart_84 rfl (lv_at hl 0 rfl) ?_
      refine lv_bipush (v := 26) hx hb dX4_readPart_85 (by decide) ?_
      refine sb_icmp_ne (tgt := 111) hx hb rfl (by decide : (26 : Int32).toInt = 26) dX4_readPart_87 (by decide) (fun c_87_35 => ?_) (fun h => by omega)
      refine lv_iload_n hx hb dX4_readPart_111 rfl (lv_at hl 0 rfl) ?_
      refine lv_bipush (v := 16) hx hb dX4_readPart_112 (by decide) ?_
      refine sb_icmp_lt (tgt := 139) hx hb rfl (by decide : (16 : Int32).toInt = 16) dX4_readPart_114 (by decide) (fun c_114_49 => ?_) (fun c_114_49 => ?_)
      · refine lv_aload_n hx hb dX4_readPart_139 rfl (lv_at hl 1 rfl) ?_
        refine lv_iconst (v := 1) hx hb dX4_readPart_140 (by decide) ?_
        refine ti_callVv (ci := 4) (av := [.int 1]) C hw (x_X4_refuse l D A cy hJ M hI t ht 1 B n rg hr) ⟨ml_X4_82, ym_X4_refuse, yv_X4_refuse, yi_X4_refuse, yc_X4_refuse⟩ yd_X4_refuse ob_1 (by decide) rfl rfl hl.1 (Nat.le_of_ble_eq_true rfl) ⟨by decide, by decide⟩ ⟨Nat.zero_le _, Nat.zero_le _⟩ dX4_readPart_141 (fun M_65 H locs hp_65 hw => ?_)
        obtain ⟨iM_65, q_66, q_67, q_68, p0r_64⟩ := hp_65
        have hlr_64_1 : (1 : Int32).toInt = 1 := by decide
        simp only [hlr_64_1] at p0r_64
        obtain ⟨g_69, eg_69⟩ : ∃ z : Nat → Int, z = pp_rf 1 rg := ⟨_, rfl⟩
        rw [← eg_69] at p0r_64
        have lg_69_0 : g_69 0 = (tI M_65 2 4).toInt := p0r_64.2.1.1
        have lg_69_1 : g_69 1 = (tI M_65 2 6).toInt := p0r_64.2.1.2.1
        have lg_69_4 : g_69 4 = (tI M_65 1 4).toInt := p0r_64.2.2.1.1
        have lg_69_7 : g_69 7 = (tI M_65 t 4).toInt := p0r_64.2.2.2.1.1
        have lg_69_8 : g_69 8 = (tI M_65 t 5).toInt := p0r_64.2.2.2.1.2.1
        exact hQ _ _ _ _ _ hw (⟨iM_65, (q_66), (f0_12 q_67), (q_68), (ot_12 ht q_67), (by rw [pe_3, if_neg (by omega)]; unfold pp_p0; rw [if_neg (by omega), if_neg (fun q => by omega), ← eg_69]; exact p0r_64)⟩) dX4_readPart_144
      · refine lv_iload_n hx hb dX4_readPart_117 rfl (lv_at hl 0 rfl) ?_
        refine lv_bipush (v := 21) hx hb dX4_readPart_118 (by decide) ?_
        refine sb_icmp_gt (tgt := 139) hx hb rfl (by decide : (21 : Int32).toInt = 21) dX4_readPart_120 (by decide) (fun c_120_50 => ?_) (fun c_120_50 => ?_)
        · refine lv_aload_n hx hb dX4_readPart_139 rfl (lv_at hl 1 rfl) ?_
          refine lv_iconst (v := 1) hx hb dX4_readPart_140 (by decide) ?_
          refine ti_callVv (ci := 4) (av := [.int 1]) C hw (x_X4_refuse l D A cy hJ M hI t ht 1 B n rg hr) ⟨ml_X4_82, ym_X4_refuse, yv_X4_refuse, yi_X4_refuse, yc_X4_refuse⟩ yd_X4_refuse ob_1 (by decide) rfl rfl hl.1 (Nat.le_of_ble_eq_true rfl) ⟨by decide, by decide⟩ ⟨Nat.zero_le _, Nat.zero_le _⟩ dX4_readPart_141 (fun M_71 H locs hp_71 hw => ?_)
          obtain ⟨iM_71, q_72, q_73, q_74, p0r_70⟩ := hp_71
          have hlr_70_1 : (1 : Int32).toInt = 1 := by decide
          simp only [hlr_70_1] at p0r_70
          obtain ⟨g_75, eg_75⟩ : ∃ z : Nat → Int, z = pp_rf 1 rg := ⟨_, rfl⟩
          rw [← eg_75] at p0r_70
          have lg_75_0 : g_75 0 = (tI M_71 2 4).toInt := p0r_70.2.1.1
          have lg_75_1 : g_75 1 = (tI M_71 2 6).toInt := p0r_70.2.1.2.1
          have lg_75_4 : g_75 4 = (tI M_71 1 4).toInt := p0r_70.2.2.1.1
          have lg_75_7 : g_75 7 = (tI M_71 t 4).toInt := p0r_70.2.2.2.1.1
          have lg_75_8 : g_75 8 = (tI M_71 t 5).toInt := p0r_70.2.2.2.1.2.1
          exact hQ _ _ _ _ _ hw (⟨iM_71, (q_72), (f0_12 q_73), (q_74), (ot_12 ht q_73), (by rw [pe_3, if_neg (by omega)]; unfold pp_p0; rw [if_neg (by omega), if_neg (fun q => by omega), ← eg_75]; exact p0r_70)⟩) dX4_readPart_144
        · refine lv_aload_n hx hb dX4_readPart_123 rfl (lv_at hl 1 rfl) ?_
          refine ti_get (ci := 4) (k := 2) (N := 6) (T := TX4) (v := .ref (A lw 0)) C hw iw_4 rfl ob_1 (by decide) (by decide) fl_X4_154 rfl (ti_Tv (hL)) dX4_readPart_124 ?_
          refine lv_iload_n hx hb dX4_readPart_127 rfl (lv_at hl 0 rfl) ?_
          refine lv_ineg hx hb dX4_readPart_128 ?_
          refine lv_topi (fun x_52 ex_52 => ?_)
          have tx_52 : x_52.toInt = -x_1.toInt := i_neg ex_52 rfl (by omega)
          refine ti_callVv (ci := 1) (av := [.int x_52]) C hw (x_X1_add l D A cy hJ M hI lw hlw x_52 (by first | omega | exact Or.inl (by decide) | exact Or.inr (by decide)) t ht B n rg hr) ⟨ml_X4_170, ym_X1_add, yv_X1_add, yi_X1_add, yc_X1_add⟩ yd_X1_add hlw (by decide) rfl rfl hl.1 (Nat.le_of_ble_eq_true rfl) ⟨by decide, by decide⟩ ⟨Nat.zero_le _, Nat.zero_le _⟩ dX4_readPart_129 (fun M_54 H locs hp_54 hw => ?_)
          obtain ⟨iM_54, q_55, q_56, p0r_53⟩ := hp_54
          have lM_54_0 : rg 0 = (tI M_54 2 4).toInt := p0r_53.2.1.1
          have lM_54_1 : rg 1 = (tI M_54 2 6).toInt := p0r_53.2.1.2.1
          have lM_54_4 : rg 4 = (tI M_54 1 4).toInt := p0r_53.2.2.1.1
          have lM_54_7 : rg 7 = (tI M_54 t 4).toInt := p0r_53.2.2.2.1.1
          have lM_54_8 : rg 8 = (tI M_54 t 5).toInt := p0r_53.2.2.2.1.2.1
          refine lv_aload_n hx hb dX4_readPart_132 rfl (lv_at hl 1 rfl) ?_
          refine ti_callVvE (ci := 4) (av := []) C hE hw (x_X4_knot l D A cy hJ M_54 iM_54 t ht ((tT_fr q_55).trans hT) B n rg p0r_53) ⟨ml_X4_167, ym_X4_knot, yv_X4_knot, yi_X4_knot, yc_X4_knot⟩ yd_X4_knot ob_1 (by decide) rfl rfl hl.1 (Nat.le_of_ble_eq_true rfl) ⟨by decide, by decide⟩ ⟨Nat.zero_le _, Nat.zero_le _⟩ dX4_readPart_133 (fun M_58 H locs hp_58 hw => ?_)
          obtain ⟨iM_58, q_59, q_60, q_61, q_62, p0r_57⟩ := hp_58
          obtain ⟨g_63, eg_63⟩ : ∃ z : Nat → Int, z = pp_kn B n rg := ⟨_, rfl⟩
          rw [← eg_63] at p0r_57
          have lg_63_0 : g_63 0 = (tI M_58 2 4).toInt := p0r_57.2.1.1
          have lg_63_1 : g_63 1 = (tI M_58 2 6).toInt := p0r_57.2.1.2.1
          have lg_63_4 : g_63 4 = (tI M_58 1 4).toInt := p0r_57.2.2.1.1
          have lg_63_7 : g_63 7 = (tI M_58 t 4).toInt := p0r_57.2.2.2.1.1
          have lg_63_8 : g_63 8 = (tI M_58 t 5).toInt := p0r_57.2.2.2.1.2.1
          refine lv_goto (tgt := 144) hx hb dX4_readPart_136 (by decide) ?_
          exact hQ _ _ _ _ _ hw (⟨iM_58, ((q_59).trans q_55), (f0.trans q_60 (f0_x q_56)), ((q_61).trans ((q_56 1).2.1)), (ot.trans q_62 (ot_fx ht q_56)), (by rw [pe_3, if_neg (by omega)]; unfold pp_p0; rw [if_neg (by omega), if_pos ⟨by omega, by omega⟩, ← eg_63]; exact p0r_57)⟩) dX4_readPart_144
    · refine lv_aload_n hx hb dX4_readPart_63 rfl (lv_at hl 1 rfl) ?_
      refine ti_get (ci := 4) (k := 0) (N := 6) (T := TX4) (v := .ref (A 2 0)) C hw iw_4 rfl ob_1 (by decide) (by decide) fl_X4_12 rfl rfl dX4_readPart_64 ?_
      refine ti_get (ci := 7) (k := 6) (N := 7) (T := TX7) C hw iw_7 rfl ob_2 (by decide) (by decide) fl_X4_95 rfl rfl dX4_readPart_67 ?_
      refine lv_topi (fun x_28 ex_28 => ?_)
      have bx_28 : 0 ≤ x_28.toInt ∧ x_28.toInt ≤ 2147483647 := cI_rd hI ob_2.1 ex_28
      have ux_28 : (tI M 2 6).toInt = x_28.toInt := by rw [ex_28]
      refine lv_sipush (v := 9999) hx hb dX4_readPart_70 (by decide) ?_
      refine sb_icmp_le (tgt := 84) hx hb rfl (by decide : (9999 : Int32).toInt = 9999) dX4_readPart_73 (by decide) (fun c_73_28 => ?_) (fun c_73_28 => ?_)
      · refine lv_iload_n hx hb dX4_readPart_84 rfl (lv_at hl 0 rfl) ?_
        refine lv_bipush (v := 26) hx hb dX4_readPart_85 (by decide) ?_
        refine sb_icmp_ne (tgt := 111) hx hb rfl (by decide : (26 : Int32).toInt = 26) dX4_readPart_87 (by decide) (fun h => by omega) (fun c_87_36 => ?_)
        refine lv_aload_n hx hb dX4_readPart_90 rfl (lv_at hl 1 rfl) ?_
        refine ti_get (ci := 4) (k := 2) (N := 6) (T := TX4) (v := .ref (A lw 0)) C hw iw_4 rfl ob_1 (by decide) (by decide) fl_X4_154 rfl (ti_Tv (hL)) dX4_readPart_91 ?_
        refine lv_aload_n hx hb dX4_readPart_94 rfl (lv_at hl 1 rfl) ?_
        refine ti_get (ci := 4) (k := 0) (N := 6) (T := TX4) (v := .ref (A 2 0)) C hw iw_4 rfl ob_1 (by decide) (by decide) fl_X4_12 rfl rfl dX4_readPart_95 ?_
        refine ti_get (ci := 7) (k := 6) (N := 7) (T := TX7) C hw iw_7 rfl ob_2 (by decide) (by decide) fl_X4_95 rfl rfl dX4_readPart_98 ?_
        refine ti_top (y := x_28) (ex_28.symm) ?_
        have u_38 : (tI M 2 6).toInt = (x_28 : Int32).toInt := by rw [(ex_28.symm)]
        refine ti_callVv (ci := 1) (av := [.int x_28]) C hw (x_X1_add l D A cy hJ M hI lw hlw x_28 (by first | omega | exact Or.inl (by decide) | exact Or.inr (by decide)) t ht B n rg hr) ⟨ml_X4_170, ym_X1_add, yv_X1_add, yi_X1_add, yc_X1_add⟩ yd_X1_add hlw (by decide) rfl rfl hl.1 (Nat.le_of_ble_eq_true rfl) ⟨by decide, by decide⟩ ⟨Nat.zero_le _, Nat.zero_le _⟩ dX4_readPart_101 (fun M_40 H locs hp_40 hw => ?_)
        obtain ⟨iM_40, q_41, q_42, p0r_39⟩ := hp_40
        have lM_40_0 : rg 0 = (tI M_40 2 4).toInt := p0r_39.2.1.1
        have lM_40_1 : rg 1 = (tI M_40 2 6).toInt := p0r_39.2.1.2.1
        have lM_40_4 : rg 4 = (tI M_40 1 4).toInt := p0r_39.2.2.1.1
        have lM_40_7 : rg 7 = (tI M_40 t 4).toInt := p0r_39.2.2.2.1.1
        have lM_40_8 : rg 8 = (tI M_40 t 5).toInt := p0r_39.2.2.2.1.2.1
        refine lv_aload_n hx hb dX4_readPart_104 rfl (lv_at hl 1 rfl) ?_
        refine ti_callVvE (ci := 4) (av := []) C hE hw (x_X4_knot l D A cy hJ M_40 iM_40 t ht ((tT_fr q_41).trans hT) B n rg p0r_39) ⟨ml_X4_167, ym_X4_knot, yv_X4_knot, yi_X4_knot, yc_X4_knot⟩ yd_X4_knot ob_1 (by decide) rfl rfl hl.1 (Nat.le_of_ble_eq_true rfl) ⟨by decide, by decide⟩ ⟨Nat.zero_le _, Nat.zero_le _⟩ dX4_readPart_105 (fun M_44 H locs hp_44 hw => ?_)
        obtain ⟨iM_44, q_45, q_46, q_47, q_48, p0r_43⟩ := hp_44
        obtain ⟨g_49, eg_49⟩ : ∃ z : Nat → Int, z = pp_kn B n rg := ⟨_, rfl⟩
        rw [← eg_49] at p0r_43
        have lg_49_0 : g_49 0 = (tI M_44 2 4).toInt := p0r_43.2.1.1
        have lg_49_1 : g_49 1 = (tI M_44 2 6).toInt := p0r_43.2.1.2.1
        have lg_49_4 : g_49 4 = (tI M_44 1 4).toInt := p0r_43.2.2.1.1
        have lg_49_7 : g_49 7 = (tI M_44 t 4).toInt := p0r_43.2.2.2.1.1
        have lg_49_8 : g_49 8 = (tI M_44 t 5).toInt := p0r_43.2.2.2.1.2.1
        refine lv_goto (tgt := 144) hx hb dX4_readPart_108 (by decide) ?_
        exact hQ _ _ _ _ _ hw (⟨iM_44, ((q_45).trans q_41), (f0.trans q_46 (f0_x q_42)), ((q_47).trans ((q_42 1).2.1)), (ot.trans q_48 (ot_fx ht q_42)), (by rw [pe_3, if_neg (by omega)]; unfold pp_p0; rw [if_pos (by omega), if_neg (by omega), ← eg_49]; exact p0r_43)⟩) dX4_readPart_144
      · refine lv_aload_n hx hb dX4_readPart_76 rfl (lv_at hl 1 rfl) ?_
        refine lv_iconst (v := 2) hx hb dX4_readPart_77 (by decide) ?_
        refine ti_callVv (ci := 4) (av := [.int 2]) C hw (x_X4_refuse l D A cy hJ M hI t ht 2 B n rg hr) ⟨ml_X4_82, ym_X4_refuse, yv_X4_refuse, yi_X4_refuse, yc_X4_refuse⟩ yd_X4_refuse ob_1 (by decide) rfl rfl hl.1 (Nat.le_of_ble_eq_true rfl) ⟨by decide, by decide⟩ ⟨Nat.zero_le _, Nat.zero_le _⟩ dX4_readPart_78 (fun M_31 H locs hp_31 hw => ?_)
        obtain ⟨iM_31, q_32, q_33, q_34, p0r_30⟩ := hp_31
        have hlr_30_2 : (2 : Int32).toInt = 2 := by decide
        simp only [hlr_30_2] at p0r_30
        obtain ⟨g_35, eg_35⟩ : ∃ z : Nat → Int, z = pp_rf 2 rg := ⟨_, rfl⟩
        rw [← eg_35] at p0r_30
        have lg_35_0 : g_35 0 = (tI M_31 2 4).toInt := p0r_30.2.1.1
        have lg_35_1 : g_35 1 = (tI M_31 2 6).toInt := p0r_30.2.1.2.1
        have lg_35_4 : g_35 4 = (tI M_31 1 4).toInt := p0r_30.2.2.1.1
        have lg_35_7 : g_35 7 = (tI M_31 t 4).toInt := p0r_30.2.2.2.1.1
        have lg_35_8 : g_35 8 = (tI M_31 t 5).toInt := p0r_30.2.2.2.1.2.1
        refine lv_goto (tgt := 144) hx hb dX4_readPart_81 (by decide) ?_
        exact hQ _ _ _ _ _ hw (⟨iM_31, (q_32), (f0_12 q_33), (q_34), (ot_12 ht q_33), (by rw [pe_3, if_neg (by omega)]; unfold pp_p0; rw [if_pos (by omega), if_pos (by omega), ← eg_35]; exact p0r_30)⟩) dX4_readPart_144
  · refine lv_iload_n hx hb dX4_readPart_14 rfl (lv_at hl 2 rfl) ?_
    refine lv_bipush (v := 8) hx hb dX4_readPart_15 (by decide) ?_
    refine sb_icmp_lt (tgt := 28) hx hb (by decide : (5 : Int32).toInt = 5) (by decide : (8 : Int32).toInt = 8) dX4_readPart_17 (by decide) (fun c_17_2 => ?_) (fun h => absurd h (by decide))
    refine lv_iload_n hx hb dX4_readPart_28 rfl (lv_at hl 0 rfl) ?_
    refine lv_bipush (v := 30) hx hb dX4_readPart_29 (by decide) ?_
    refine sb_icmp_ne (tgt := 57) hx hb rfl (by decide : (30 : Int32).toInt = 30) dX4_readPart_31 (by decide) (fun h => by omega) (fun c_31_4 => ?_)
    refine lv_aload_n hx hb dX4_readPart_34 rfl (lv_at hl 1 rfl) ?_
    refine ti_get (ci := 4) (k := 0) (N := 6) (T := TX4) (v := .ref (A 2 0)) C hw iw_4 rfl ob_1 (by decide) (by decide) fl_X4_12 rfl rfl dX4_readPart_35 ?_
    refine ti_callVvE (ci := 7) (av := []) C hE hw (x_X7_advance l D A cy hJ M hI ) ⟨ml_X4_92, ym_X7_advance, yv_X7_advance, yi_X7_advance, yc_X7_advance⟩ yd_X7_advance ob_2 (by decide) rfl rfl hl.1 (Nat.le_of_ble_eq_true rfl) ⟨by decide, by decide⟩ ⟨Nat.zero_le _, Nat.zero_le _⟩ dX4_readPart_38 (fun M_7 H locs hp_7 hw => ?_)
    obtain ⟨iM_7, q_8, q_9, q_10, q_11, p0r_6, p1r_6, p2r_6, p3r_6⟩ := hp_7
    have hs_12 := rC_av ht hr q_11 q_9 p0r_6 p1r_6 p2r_6 p3r_6
    obtain ⟨g_13, eg_13⟩ : ∃ z : Nat → Int, z = pp_av B n rg := ⟨_, rfl⟩
    rw [← eg_13] at hs_12
    have lg_13_0 : g_13 0 = (tI M_7 2 4).toInt := hs_12.2.1.1
    have lg_13_1 : g_13 1 = (tI M_7 2 6).toInt := hs_12.2.1.2.1
    have lg_13_4 : g_13 4 = (tI M_7 1 4).toInt := hs_12.2.2.1.1
    have lg_13_7 : g_13 7 = (tI M_7 t 4).toInt := hs_12.2.2.2.1.1
    have lg_13_8 : g_13 8 = (tI M_7 t 5).toInt := hs_12.2.2.2.1.2.1
    refine lv_aload_n hx hb dX4_readPart_41 rfl (lv_at hl 1 rfl) ?_
    refine lv_iload_n hx hb dX4_readPart_42 rfl (lv_at hl 2 rfl) ?_
    refine lv_iconst (v := 1) hx hb dX4_readPart_43 (by decide) ?_
    refine lv_iadd hx hb dX4_readPart_44 ?_
    refine ti_top (y := 6) (by decide) ?_
    refine ti_callVvE (ci := 4) (av := [.int 6]) C hE hw (x_X4_readEither_6 l D A cy hJ M_7 iM_7 t ht ((tT_fr q_8).trans hT) lw hlw ((tT_fr q_8).trans hL) B n g_13 hs_12) ⟨ml_X4_158, ym_X4_readEither, yv_X4_readEither, yi_X4_readEither, yc_X4_readEither⟩ yd_X4_readEither ob_1 (by decide) rfl rfl hl.1 (Nat.le_of_ble_eq_true rfl) ⟨by decide, by decide⟩ ⟨Nat.zero_le _, Nat.zero_le _⟩ dX4_readPart_45 (fun M_15 H locs hp_15 hw => ?_)
    obtain ⟨iM_15, q_16, q_17, q_18, q_19, p0r_14⟩ := hp_15
    obtain ⟨g_20, eg_20⟩ : ∃ z : Nat → Int, z = pp_ei B n (pp_pt B n 2) g_13 := ⟨_, rfl⟩
    rw [← eg_20] at p0r_14
    have lg_20_0 : g_20 0 = (tI M_15 2 4).toInt := p0r_14.2.1.1
    have lg_20_1 : g_20 1 = (tI M_15 2 6).toInt := p0r_14.2.1.2.1
    have lg_20_4 : g_20 4 = (tI M_15 1 4).toInt := p0r_14.2.2.1.1
    have lg_20_7 : g_20 7 = (tI M_15 t 4).toInt := p0r_14.2.2.2.1.1
    have lg_20_8 : g_20 8 = (tI M_15 t 5).toInt := p0r_14.2.2.2.1.2.1
    refine lv_aload_n hx hb dX4_readPart_48 rfl (lv_at hl 1 rfl) ?_
    refine lv_bipush (v := 31) hx hb dX4_readPart_49 (by decide) ?_
    refine ti_callVvE (ci := 4) (av := [.int 31]) C hE hw (x_X4_take l D A cy hJ M_15 iM_15 t ht 31 B n g_20 p0r_14) ⟨ml_X4_85, ym_X4_take, yv_X4_take, yi_X4_take, yc_X4_take⟩ yd_X4_take ob_1 (by decide) rfl rfl hl.1 (Nat.le_of_ble_eq_true rfl) ⟨by decide, by decide⟩ ⟨Nat.zero_le _, Nat.zero_le _⟩ dX4_readPart_51 (fun M_22 H locs hp_22 hw => ?_)
    obtain ⟨iM_22, q_23, q_24, q_25, p0r_21⟩ := hp_22
    have hlr_21_31 : (31 : Int32).toInt = 31 := by decide
    simp only [hlr_21_31] at p0r_21
    obtain ⟨g_26, eg_26⟩ : ∃ z : Nat → Int, z = pp_tk B n 31 g_20 := ⟨_, rfl⟩
    rw [← eg_26] at p0r_21
    have lg_26_0 : g_26 0 = (tI M_22 2 4).toInt := p0r_21.2.1.1
    have lg_26_1 : g_26 1 = (tI M_22 2 6).toInt := p0r_21.2.1.2.1
    have lg_26_4 : g_26 4 = (tI M_22 1 4).toInt := p0r_21.2.2.1.1
    have lg_26_7 : g_26 7 = (tI M_22 t 4).toInt := p0r_21.2.2.2.1.1
    have lg_26_8 : g_26 8 = (tI M_22 t 5).toInt := p0r_21.2.2.2.1.2.1
    refine lv_goto (tgt := 144) hx hb dX4_readPart_54 (by decide) ?_
    exact hQ _ _ _ _ _ hw (⟨iM_22, ((q_23).trans ((q_16).trans q_8)), (f0.trans (f0_12 q_24) (f0.trans q_17 (f0_12 (o2_12 q_9)))), ((q_25).trans ((q_18).trans q_10)), (ot.trans (ot_12 ht q_24) (ot.trans q_19 (ot_12 ht (o2_12 q_9)))), (by rw [pe_3, if_pos (by omega), ← eg_13, ← eg_20, ← eg_26]; exact p0r_21)⟩) dX4_readPart_144
set_option maxHeartbeats 4000000 in
set_option maxRecDepth 100000 in
theorem x_X4_readProduct_5 (l : Launch) (D : va_G) (A : Nat → Nat → Nat) (cy : Nat → ClassId) (hJ : ti_inj ti_LT A) (M : ti_M) (hI : cI Tc M) (t : Nat) (ht : t = 3 ∨ t = 4) (hT : tT M 1 1 = some t) (lw : Nat) (hlw : ti_ob ti_LT lw 1) (hL : tT M 1 2 = some lw) (B : Nat → Int) (n : Nat) (rg : Nat → Int) (hr : rC B n t rg M) : ti_KvE l yX4_readProduct cX4_readProduct 4 30 ti_LT D A cy M [.ref (A 1 0), .int 5] (fun M2 => cI Tc M2 ∧ M2.2.2.2 = M.2.2.2 ∧ f0 M2 M ∧ tI M2 2 1 = tI M 2 1 ∧ ot t M2 M ∧ rC B n t (pp_pd B n (pp_pt B n 3) rg) M2) := by
  refine ti_eVE yp_X4_readProduct hJ ti_LT_nd (Nat.le_of_ble_eq_true rfl) ?_
  intro p e s m args below meth c Q H0 C hE hQ hw ls hl
  have hx := C.1
  have hb := C.2.1
  have hl : lv_has ls 4 [(0, .ref (A 1 0)), (1, .int 5)] := hl
  have l0 : rg 0 = (tI M 2 4).toInt := hr.2.1.1
  have l1 : rg 1 = (tI M 2 6).toInt := hr.2.1.2.1
  have l2 : rg 2 = (tI M 2 5).toInt := hr.2.1.2.2.1
  have l3 : rg 3 = (tI M 2 3).toInt := hr.2.1.2.2.2
  have l4 : rg 4 = (tI M 1 4).toInt := hr.2.2.1.1
  have l5 : rg 5 = (tI M 1 5).toInt := hr.2.2.1.2.1
  have l7 : rg 7 = (tI M t 4).toInt := hr.2.2.2.1.1
  have l8 : rg 8 = (tI M t 5).toInt := hr.2.2.2.1.2.1
  have l9 : rg 9 = (tI M t 3).toInt := hr.2.2.2.1.2.2
  refine lv_aload_n hx hb dX4_readProduct_0 rfl (lv_at hl 0 rfl) ?_
  refine lv_iload_n hx hb dX4_readProduct_1 rfl (lv_at hl 1 rfl) ?_
  refine ti_callVvE (ci := 4) (av := [.int 5]) C hE hw (x_X4_readPart_5 l D A cy hJ M hI t ht (hT) lw hlw (hL) B n rg hr) ⟨ml_X4_187, ym_X4_readPart, yv_X4_readPart, yi_X4_readPart, yc_X4_readPart⟩ yd_X4_readPart ob_1 (by decide) rfl rfl hl.1 (Nat.le_of_ble_eq_true rfl) ⟨by decide, by decide⟩ ⟨Nat.zero_le _, Nat.zero_le _⟩ dX4_readProduct_2 (fun M_2 H locs hp_2 hw => ?_)
  obtain ⟨iM_2, q_3, q_4, q_5, q_6, p0r_1⟩ := hp_2
  obtain ⟨g_7, eg_7⟩ : ∃ z : Nat → Int, z = pp_pt B n 3 rg := ⟨_, rfl⟩
  rw [← eg_7] at p0r_1
  have lg_7_0 : g_7 0 = (tI M_2 2 4).toInt := p0r_1.2.1.1
  have lg_7_1 : g_7 1 = (tI M_2 2 6).toInt := p0r_1.2.1.2.1
  have lg_7_4 : g_7 4 = (tI M_2 1 4).toInt := p0r_1.2.2.1.1
  have lg_7_7 : g_7 7 = (tI M_2 t 4).toInt := p0r_1.2.2.2.1.1
  have lg_7_8 : g_7 8 = (tI M_2 t 5).toInt := p0r_1.2.2.2.1.2.1
  refine lv_iconst (v := 0) hx hb dX4_readProduct_5 (by decide) ?_
  refine lv_istore_n (lv' := [(2, .int 0), (0, .ref (A 1 0)), (1, .int 5)]) hx hb dX4_readProduct_6 rfl hl (by decide) rfl (fun ls hl => ?_)
  have hl_7_20 : ∀ (n_21 : Nat) (x_8 : Int32) (M_11 : ti_M) (g_18 : Nat → Int) (H : Heap) (locs : List Loc) (ls : Array Slot), (64 - x_8.toInt : Int).toNat < n_21 → (0 ≤ x_8.toInt) → (x_8.toInt ≤ 64) → (cI Tc M_11) → (M_11.2.2.2 = M.2.2.2) → (f0 M_11 M) → (tI M_11 2 1 = tI M 2 1) → (ot t M_11 M) → (tT M_11 1 1 = (some t)) → (tT M_11 1 2 = (some lw)) → (rC B n t g_18 M_11) → (pp_lp pp_qT (fun s => (pp_pt B n 3) (pp_kn B n s)) 64 g_7 = pp_lp pp_qT (fun s => (pp_pt B n 3) (pp_kn B n s)) (64 - (x_8.toInt).toNat) g_18) → ti_H ti_LT D A cy H0 M_11 H locs → lv_has ls 4 [(2, .int x_8), (0, .ref (A 1 0)), (1, .int 5)] → W p l e (ti_rm 30) s m args below meth c H locs 0 0 Q (F0 m 7 ls []) := by
    intro n_21
    induction n_21 with
    | zero => intro x_8 M_11 g_18 H locs ls hf_21; exact absurd hf_21 (Nat.not_lt_zero _)
    | succ n_21 ih_21 =>
      intro x_8 M_11 g_18 H locs ls hf_21 b_9 b_10 iM_11 f_12 f_13 f_14 f_15 f_16 f_17 hs_19 j_20 hw hl
      have lg_18_0 : g_18 0 = (tI M_11 2 4).toInt := hs_19.2.1.1
      have lg_18_1 : g_18 1 = (tI M_11 2 6).toInt := hs_19.2.1.2.1
      have lg_18_4 : g_18 4 = (tI M_11 1 4).toInt := hs_19.2.2.1.1
      have lg_18_7 : g_18 7 = (tI M_11 t 4).toInt := hs_19.2.2.2.1.1
      have lg_18_8 : g_18 8 = (tI M_11 t 5).toInt := hs_19.2.2.2.1.2.1
      refine lv_iload_n hx hb dX4_readProduct_7 rfl (lv_at hl 0 rfl) ?_
      refine lv_bipush (v := 64) hx hb dX4_readProduct_8 (by decide) ?_
      refine sb_icmp_ge (tgt := 69) hx hb rfl (by decide : (64 : Int32).toInt = 64) dX4_readProduct_10 (by decide) (fun c_10_21 => ?_) (fun c_10_21 => ?_)
      · exact hQ _ _ _ _ _ hw (⟨iM_11, (f_12), f_13, (f_14), f_15, (by unfold pp_pd; rw [← eg_7, j_20, lp_end (P := pp_qT) (f := 64 - x_8.toInt.toNat) (s := g_18) (Or.inl (by omega))]; exact hs_19)⟩) dX4_readProduct_69
      · refine lv_aload_n hx hb dX4_readProduct_13 rfl (lv_at hl 1 rfl) ?_
        refine ti_get (ci := 4) (k := 0) (N := 6) (T := TX4) (v := .ref (A 2 0)) C hw iw_4 rfl ob_1 (by decide) (by decide) fl_X4_12 rfl rfl dX4_readProduct_14 ?_
        refine ti_get (ci := 7) (k := 4) (N := 7) (T := TX7) C hw iw_7 rfl ob_2 (by decide) (by decide) fl_X4_41 rfl rfl dX4_readProduct_17 ?_
        refine lv_topi (fun x_23 ex_23 => ?_)
        have bx_23 : 0 ≤ x_23.toInt ∧ x_23.toInt ≤ 41 := cI_rd iM_11 ob_2.1 ex_23
        have ux_23 : (tI M_11 2 4).toInt = x_23.toInt := by rw [ex_23]
        refine lv_bipush (v := 40) hx hb dX4_readProduct_20 (by decide) ?_
        refine sb_icmp_eq (tgt := 37) hx hb rfl (by decide : (40 : Int32).toInt = 40) dX4_readProduct_22 (by decide) (fun c_22_23 => ?_) (fun c_22_23 => ?_)
        · refine lv_aload_n hx hb dX4_readProduct_37 rfl (lv_at hl 1 rfl) ?_
          refine ti_get (ci := 4) (k := 0) (N := 6) (T := TX4) (v := .ref (A 2 0)) C hw iw_4 rfl ob_1 (by decide) (by decide) fl_X4_12 rfl rfl dX4_readProduct_38 ?_
          refine ti_get (ci := 7) (k := 4) (N := 7) (T := TX7) C hw iw_7 rfl ob_2 (by decide) (by decide) fl_X4_41 rfl rfl dX4_readProduct_41 ?_
          refine ti_top (y := x_23) (ex_23.symm) ?_
          have u_27 : (tI M_11 2 4).toInt = (x_23 : Int32).toInt := by rw [(ex_23.symm)]
          refine lv_istore_n (lv' := [(3, .int x_23), (2, .int x_8), (0, .ref (A 1 0)), (1, .int 5)]) hx hb dX4_readProduct_44 rfl hl (by decide) rfl (fun ls hl => ?_)
          refine lv_aload_n hx hb dX4_readProduct_45 rfl (lv_at hl 2 rfl) ?_
          refine ti_callVvE (ci := 4) (av := []) C hE hw (x_X4_knot l D A cy hJ M_11 iM_11 t ht (f_16) B n g_18 hs_19) ⟨ml_X4_167, ym_X4_knot, yv_X4_knot, yi_X4_knot, yc_X4_knot⟩ yd_X4_knot ob_1 (by decide) rfl rfl hl.1 (Nat.le_of_ble_eq_true rfl) ⟨by decide, by decide⟩ ⟨Nat.zero_le _, Nat.zero_le _⟩ dX4_readProduct_46 (fun M_29 H locs hp_29 hw => ?_)
          obtain ⟨iM_29, q_30, q_31, q_32, q_33, p0r_28⟩ := hp_29
          obtain ⟨g_34, eg_34⟩ : ∃ z : Nat → Int, z = pp_kn B n g_18 := ⟨_, rfl⟩
          rw [← eg_34] at p0r_28
          have lg_34_0 : g_34 0 = (tI M_29 2 4).toInt := p0r_28.2.1.1
          have lg_34_1 : g_34 1 = (tI M_29 2 6).toInt := p0r_28.2.1.2.1
          have lg_34_4 : g_34 4 = (tI M_29 1 4).toInt := p0r_28.2.2.1.1
          have lg_34_7 : g_34 7 = (tI M_29 t 4).toInt := p0r_28.2.2.2.1.1
          have lg_34_8 : g_34 8 = (tI M_29 t 5).toInt := p0r_28.2.2.2.1.2.1
          refine lv_aload_n hx hb dX4_readProduct_49 rfl (lv_at hl 2 rfl) ?_
          refine lv_iload_n hx hb dX4_readProduct_50 rfl (lv_at hl 3 rfl) ?_
          refine ti_callVvE (ci := 4) (av := [.int 5]) C hE hw (x_X4_readPart_5 l D A cy hJ M_29 iM_29 t ht ((tT_fr q_30).trans f_16) lw hlw ((tT_fr q_30).trans f_17) B n g_34 p0r_28) ⟨ml_X4_187, ym_X4_readPart, yv_X4_readPart, yi_X4_readPart, yc_X4_readPart⟩ yd_X4_readPart ob_1 (by decide) rfl rfl hl.1 (Nat.le_of_ble_eq_true rfl) ⟨by decide, by decide⟩ ⟨Nat.zero_le _, Nat.zero_le _⟩ dX4_readProduct_51 (fun M_36 H locs hp_36 hw => ?_)
          obtain ⟨iM_36, q_37, q_38, q_39, q_40, p0r_35⟩ := hp_36
          obtain ⟨g_41, eg_41⟩ : ∃ z : Nat → Int, z = pp_pt B n 3 g_34 := ⟨_, rfl⟩
          rw [← eg_41] at p0r_35
          have lg_41_0 : g_41 0 = (tI M_36 2 4).toInt := p0r_35.2.1.1
          have lg_41_1 : g_41 1 = (tI M_36 2 6).toInt := p0r_35.2.1.2.1
          have lg_41_4 : g_41 4 = (tI M_36 1 4).toInt := p0r_35.2.2.1.1
          have lg_41_7 : g_41 7 = (tI M_36 t 4).toInt := p0r_35.2.2.2.1.1
          have lg_41_8 : g_41 8 = (tI M_36 t 5).toInt := p0r_35.2.2.2.1.2.1
          refine lv_aload_n hx hb dX4_readProduct_54 rfl (lv_at hl 2 rfl) ?_
          refine ti_get (ci := 4) (k := 2) (N := 6) (T := TX4) (v := .ref (A lw 0)) C hw iw_4 rfl ob_1 (by decide) (by decide) fl_X4_154 rfl (ti_Tv ((tT_fr q_37).trans ((tT_fr q_30).trans f_17))) dX4_readProduct_55 ?_
          refine lv_iload_n hx hb dX4_readProduct_58 rfl (lv_at hl 0 rfl) ?_
          refine lv_ineg hx hb dX4_readProduct_59 ?_
          refine lv_topi (fun x_42 ex_42 => ?_)
          have tx_42 : x_42.toInt = -x_23.toInt := i_neg ex_42 rfl (by omega)
          refine ti_callVv (ci := 1) (av := [.int x_42]) C hw (x_X1_add l D A cy hJ M_36 iM_36 lw hlw x_42 (by first | omega | exact Or.inl (by decide) | exact Or.inr (by decide)) t ht B n g_41 p0r_35) ⟨ml_X4_170, ym_X1_add, yv_X1_add, yi_X1_add, yc_X1_add⟩ yd_X1_add hlw (by decide) rfl rfl hl.1 (Nat.le_of_ble_eq_true rfl) ⟨by decide, by decide⟩ ⟨Nat.zero_le _, Nat.zero_le _⟩ dX4_readProduct_60 (fun M_44 H locs hp_44 hw => ?_)
          obtain ⟨iM_44, q_45, q_46, p0r_43⟩ := hp_44
          have lM_44_0 : g_41 0 = (tI M_44 2 4).toInt := p0r_43.2.1.1
          have lM_44_1 : g_41 1 = (tI M_44 2 6).toInt := p0r_43.2.1.2.1
          have lM_44_4 : g_41 4 = (tI M_44 1 4).toInt := p0r_43.2.2.1.1
          have lM_44_7 : g_41 7 = (tI M_44 t 4).toInt := p0r_43.2.2.2.1.1
          have lM_44_8 : g_41 8 = (tI M_44 t 5).toInt := p0r_43.2.2.2.1.2.1
          obtain ⟨x_47, ex_47⟩ : ∃ z : Int32, z = x_8 + 1 := ⟨_, rfl⟩
          have tx_47 : x_47.toInt = x_8.toInt + 1 := i_add ex_47 rfl (by decide) (by omega) (by omega)
          refine lv_iinc (v := x_47) (lv' := [(2, .int x_47), (3, .int x_23), (0, .ref (A 1 0)), (1, .int 5)]) hx hb dX4_readProduct_63 hl (k := 1) rfl (by rw [ex_47]; rfl) (by decide) rfl (fun ls hl => ?_)
          refine lv_goto (tgt := 7) hx hb dX4_readProduct_66 (by decide) ?_
          exact ih_21 x_47 M_44 g_41 _ _ _ (by omega) (by first | omega | decide) (by first | omega | decide) iM_44 ((q_45).trans ((q_37).trans ((q_30).trans f_12))) (f0.trans (f0_x q_46) (f0.trans q_38 (f0.trans q_31 f_13))) (((q_46 1).2.1).trans ((q_39).trans ((q_32).trans f_14))) (ot.trans (ot_fx ht q_46) (ot.trans q_40 (ot.trans q_33 f_15))) ((tT_fr q_45).trans ((tT_fr q_37).trans ((tT_fr q_30).trans f_16))) ((tT_fr q_45).trans ((tT_fr q_37).trans ((tT_fr q_30).trans f_17))) p0r_43 (j_20.trans (lp_step (decide_eq_true (by omega)) (by rw [eg_41, eg_34]) (by omega))) hw (lv_sub hl [0, 2, 3] rfl)
        · refine lv_aload_n hx hb dX4_readProduct_25 rfl (lv_at hl 1 rfl) ?_
          refine ti_get (ci := 4) (k := 0) (N := 6) (T := TX4) (v := .ref (A 2 0)) C hw iw_4 rfl ob_1 (by decide) (by decide) fl_X4_12 rfl rfl dX4_readProduct_26 ?_
          refine ti_get (ci := 7) (k := 4) (N := 7) (T := TX7) C hw iw_7 rfl ob_2 (by decide) (by decide) fl_X4_41 rfl rfl dX4_readProduct_29 ?_
          refine ti_top (y := x_23) (ex_23.symm) ?_
          have u_25 : (tI M_11 2 4).toInt = (x_23 : Int32).toInt := by rw [(ex_23.symm)]
          refine lv_bipush (v := 41) hx hb dX4_readProduct_32 (by decide) ?_
          refine sb_icmp_ne (tgt := 69) hx hb rfl (by decide : (41 : Int32).toInt = 41) dX4_readProduct_34 (by decide) (fun c_34_25 => ?_) (fun c_34_25 => ?_)
          · exact hQ _ _ _ _ _ hw (⟨iM_11, (f_12), f_13, (f_14), f_15, (by unfold pp_pd; rw [← eg_7, j_20, lp_end (P := pp_qT) (f := 64 - x_8.toInt.toNat) (s := g_18) (Or.inr (decide_eq_false (by omega)))]; exact hs_19)⟩) dX4_readProduct_69
          · refine lv_aload_n hx hb dX4_readProduct_37 rfl (lv_at hl 1 rfl) ?_
            refine ti_get (ci := 4) (k := 0) (N := 6) (T := TX4) (v := .ref (A 2 0)) C hw iw_4 rfl ob_1 (by decide) (by decide) fl_X4_12 rfl rfl dX4_readProduct_38 ?_
            refine ti_get (ci := 7) (k := 4) (N := 7) (T := TX7) C hw iw_7 rfl ob_2 (by decide) (by decide) fl_X4_41 rfl rfl dX4_readProduct_41 ?_
            refine ti_top (y := x_23) (ex_23.symm) ?_
            have u_48 : (tI M_11 2 4).toInt = (x_23 : Int32).toInt := by rw [(ex_23.symm)]
            refine lv_istore_n (lv' := [(3, .int x_23), (2, .int x_8), (0, .ref (A 1 0)), (1, .int 5)]) hx hb dX4_readProduct_44 rfl hl (by decide) rfl (fun ls hl => ?_)
            refine lv_aload_n hx hb dX4_readProduct_45 rfl (lv_at hl 2 rfl) ?_
            refine ti_callVvE (ci := 4) (av := []) C hE hw (x_X4_knot l D A cy hJ M_11 iM_11 t ht (f_16) B n g_18 hs_19) ⟨ml_X4_167, ym_X4_knot, yv_X4_knot, yi_X4_knot, yc_X4_knot⟩ yd_X4_knot ob_1 (by decide) rfl rfl hl.1 (Nat.le_of_ble_eq_true rfl) ⟨by decide, by decide⟩ ⟨Nat.zero_le _, Nat.zero_le _⟩ dX4_readProduct_46 (fun M_50 H locs hp_50 hw => ?_)
            obtain ⟨iM_50, q_51, q_52, q_53, q_54, p0r_49⟩ := hp_50
            obtain ⟨g_55, eg_55⟩ : ∃ z : Nat → Int, z = pp_kn B n g_18 := ⟨_, rfl⟩
            rw [← eg_55] at p0r_49
            have lg_55_0 : g_55 0 = (tI M_50 2 4).toInt := p0r_49.2.1.1
            have lg_55_1 : g_55 1 = (tI M_50 2 6).toInt := p0r_49.2.1.2.1
            have lg_55_4 : g_55 4 = (tI M_50 1 4).toInt := p0r_49.2.2.1.1
            have lg_55_7 : g_55 7 = (tI M_50 t 4).toInt := p0r_49.2.2.2.1.1
            have lg_55_8 : g_55 8 = (tI M_50 t 5).toInt := p0r_49.2.2.2.1.2.1
            refine lv_aload_n hx hb dX4_readProduct_49 rfl (lv_at hl 2 rfl) ?_
            refine lv_iload_n hx hb dX4_readProduct_50 rfl (lv_at hl 3 rfl) ?_
            refine ti_callVvE (ci := 4) (av := [.int 5]) C hE hw (x_X4_readPart_5 l D A cy hJ M_50 iM_50 t ht ((tT_fr q_51).trans f_16) lw hlw ((tT_fr q_51).trans f_17) B n g_55 p0r_49) ⟨ml_X4_187, ym_X4_readPart, yv_X4_readPart, yi_X4_readPart, yc_X4_readPart⟩ yd_X4_readPart ob_1 (by decide) rfl rfl hl.1 (Nat.le_of_ble_eq_true rfl) ⟨by decide, by decide⟩ ⟨Nat.zero_le _, Nat.zero_le _⟩ dX4_readProduct_51 (fun M_57 H locs hp_57 hw => ?_)
            obtain ⟨iM_57, q_58, q_59, q_60, q_61, p0r_56⟩ := hp_57
            obtain ⟨g_62, eg_62⟩ : ∃ z : Nat → Int, z = pp_pt B n 3 g_55 := ⟨_, rfl⟩
            rw [← eg_62] at p0r_56
            have lg_62_0 : g_62 0 = (tI M_57 2 4).toInt := p0r_56.2.1.1
            have lg_62_1 : g_62 1 = (tI M_57 2 6).toInt := p0r_56.2.1.2.1
            have lg_62_4 : g_62 4 = (tI M_57 1 4).toInt := p0r_56.2.2.1.1
            have lg_62_7 : g_62 7 = (tI M_57 t 4).toInt := p0r_56.2.2.2.1.1
            have lg_62_8 : g_62 8 = (tI M_57 t 5).toInt := p0r_56.2.2.2.1.2.1
            refine lv_aload_n hx hb dX4_readProduct_54 rfl (lv_at hl 2 rfl) ?_
            refine ti_get (ci := 4) (k := 2) (N := 6) (T := TX4) (v := .ref (A lw 0)) C hw iw_4 rfl ob_1 (by decide) (by decide) fl_X4_154 rfl (ti_Tv ((tT_fr q_58).trans ((tT_fr q_51).trans f_17))) dX4_readProduct_55 ?_
            refine lv_iload_n hx hb dX4_readProduct_58 rfl (lv_at hl 0 rfl) ?_
            refine lv_ineg hx hb dX4_readProduct_59 ?_
            refine lv_topi (fun x_63 ex_63 => ?_)
            have tx_63 : x_63.toInt = -x_23.toInt := i_neg ex_63 rfl (by omega)
            refine ti_callVv (ci := 1) (av := [.int x_63]) C hw (x_X1_add l D A cy hJ M_57 iM_57 lw hlw x_63 (by first | omega | exact Or.inl (by decide) | exact Or.inr (by decide)) t ht B n g_62 p0r_56) ⟨ml_X4_170, ym_X1_add, yv_X1_add, yi_X1_add, yc_X1_add⟩ yd_X1_add hlw (by decide) rfl rfl hl.1 (Nat.le_of_ble_eq_true rfl) ⟨by decide, by decide⟩ ⟨Nat.zero_le _, Nat.zero_le _⟩ dX4_readProduct_60 (fun M_65 H locs hp_65 hw => ?_)
            obtain ⟨iM_65, q_66, q_67, p0r_64⟩ := hp_65
            have lM_65_0 : g_62 0 = (tI M_65 2 4).toInt := p0r_64.2.1.1
            have lM_65_1 : g_62 1 = (tI M_65 2 6).toInt := p0r_64.2.1.2.1
            have lM_65_4 : g_62 4 = (tI M_65 1 4).toInt := p0r_64.2.2.1.1
            have lM_65_7 : g_62 7 = (tI M_65 t 4).toInt := p0r_64.2.2.2.1.1
            have lM_65_8 : g_62 8 = (tI M_65 t 5).toInt := p0r_64.2.2.2.1.2.1
            obtain ⟨x_68, ex_68⟩ : ∃ z : Int32, z = x_8 + 1 := ⟨_, rfl⟩
            have tx_68 : x_68.toInt = x_8.toInt + 1 := i_add ex_68 rfl (by decide) (by omega) (by omega)
            refine lv_iinc (v := x_68) (lv' := [(2, .int x_68), (3, .int x_23), (0, .ref (A 1 0)), (1, .int 5)]) hx hb dX4_readProduct_63 hl (k := 1) rfl (by rw [ex_68]; rfl) (by decide) rfl (fun ls hl => ?_)
            refine lv_goto (tgt := 7) hx hb dX4_readProduct_66 (by decide) ?_
            exact ih_21 x_68 M_65 g_62 _ _ _ (by omega) (by first | omega | decide) (by first | omega | decide) iM_65 ((q_66).trans ((q_58).trans ((q_51).trans f_12))) (f0.trans (f0_x q_67) (f0.trans q_59 (f0.trans q_52 f_13))) (((q_67 1).2.1).trans ((q_60).trans ((q_53).trans f_14))) (ot.trans (ot_fx ht q_67) (ot.trans q_61 (ot.trans q_54 f_15))) ((tT_fr q_66).trans ((tT_fr q_58).trans ((tT_fr q_51).trans f_16))) ((tT_fr q_66).trans ((tT_fr q_58).trans ((tT_fr q_51).trans f_17))) p0r_64 (j_20.trans (lp_step (decide_eq_true (by omega)) (by rw [eg_62, eg_55]) (by omega))) hw (lv_sub hl [0, 2, 3] rfl)
  exact hl_7_20 ((64 - 0 : Int).toNat + 1) 0 M_2 g_7 _ _ _ (Nat.lt_succ_self _) (by have lt0 : (0 : Int32).toInt = 0 := (by decide); first | omega | decide) (by have lt0 : (0 : Int32).toInt = 0 := (by decide); first | omega | decide) iM_2 (q_3) q_4 (q_5) q_6 ((tT_fr q_3).trans hT) ((tT_fr q_3).trans hL) p0r_1 rfl hw (lv_sub hl [0, 1, 2] rfl)
set_option maxHeartbeats 4000000 in
set_option maxRecDepth 100000 in
theorem x_X4_readSum_5 (l : Launch) (D : va_G) (A : Nat → Nat → Nat) (cy : Nat → ClassId) (hJ : ti_inj ti_LT A) (M : ti_M) (hI : cI Tc M) (t : Nat) (ht : t = 3 ∨ t = 4) (hT : tT M 1 1 = some t) (lw : Nat) (hlw : ti_ob ti_LT lw 1) (hL : tT M 1 2 = some lw) (B : Nat → Int) (n : Nat) (rg : Nat → Int) (hr : rC B n t rg M) : ti_KvE l yX4_readSum cX4_readSum 4 31 ti_LT D A cy M [.ref (A 1 0), .int 5] (fun M2 => cI Tc M2 ∧ M2.2.2.2 = M.2.2.2 ∧ f0 M2 M ∧ tI M2 2 1 = tI M 2 1 ∧ ot t M2 M ∧ rC B n t (pp_sm B n (pp_pt B n 3) rg) M2) := by
  refine ti_eVE yp_X4_readSum hJ ti_LT_nd (Nat.le_of_ble_eq_true rfl) ?_
  intro p e s m args below meth c Q H0 C hE hQ hw ls hl
  have hx := C.1
  have hb := C.2.1
  have hl : lv_has ls 4 [(0, .ref (A 1 0)), (1, .int 5)] := hl
  have l0 : rg 0 = (tI M 2 4).toInt := hr.2.1.1
  have l1 : rg 1 = (tI M 2 6).toInt := hr.2.1.2.1
  have l2 : rg 2 = (tI M 2 5).toInt := hr.2.1.2.2.1
  have l3 : rg 3 = (tI M 2 3).toInt := hr.2.1.2.2.2
  have l4 : rg 4 = (tI M 1 4).toInt := hr.2.2.1.1
  have l5 : rg 5 = (tI M 1 5).toInt := hr.2.2.1.2.1
  have l7 : rg 7 = (tI M t 4).toInt := hr.2.2.2.1.1
  have l8 : rg 8 = (tI M t 5).toInt := hr.2.2.2.1.2.1
  have l9 : rg 9 = (tI M t 3).toInt := hr.2.2.2.1.2.2
  refine lv_aload_n hx hb dX4_readSum_0 rfl (lv_at hl 0 rfl) ?_
  refine lv_iload_n hx hb dX4_readSum_1 rfl (lv_at hl 1 rfl) ?_
  refine ti_callVvE (ci := 4) (av := [.int 5]) C hE hw (x_X4_readProduct_5 l D A cy hJ M hI t ht (hT) lw hlw (hL) B n rg hr) ⟨ml_X4_184, ym_X4_readProduct, yv_X4_readProduct, yi_X4_readProduct, yc_X4_readProduct⟩ yd_X4_readProduct ob_1 (by decide) rfl rfl hl.1 (Nat.le_of_ble_eq_true rfl) ⟨by decide, by decide⟩ ⟨Nat.zero_le _, Nat.zero_le _⟩ dX4_readSum_2 (fun M_2 H locs hp_2 hw => ?_)
  obtain ⟨iM_2, q_3, q_4, q_5, q_6, p0r_1⟩ := hp_2
  obtain ⟨g_7, eg_7⟩ : ∃ z : Nat → Int, z = pp_pd B n (pp_pt B n 3) rg := ⟨_, rfl⟩
  rw [← eg_7] at p0r_1
  have lg_7_0 : g_7 0 = (tI M_2 2 4).toInt := p0r_1.2.1.1
  have lg_7_1 : g_7 1 = (tI M_2 2 6).toInt := p0r_1.2.1.2.1
  have lg_7_4 : g_7 4 = (tI M_2 1 4).toInt := p0r_1.2.2.1.1
  have lg_7_7 : g_7 7 = (tI M_2 t 4).toInt := p0r_1.2.2.2.1.1
  have lg_7_8 : g_7 8 = (tI M_2 t 5).toInt := p0r_1.2.2.2.1.2.1
  refine lv_iconst (v := 0) hx hb dX4_readSum_5 (by decide) ?_
  refine lv_istore_n (lv' := [(2, .int 0), (0, .ref (A 1 0)), (1, .int 5)]) hx hb dX4_readSum_6 rfl hl (by decide) rfl (fun ls hl => ?_)
  have hl_7_20 : ∀ (n_21 : Nat) (x_8 : Int32) (M_11 : ti_M) (g_18 : Nat → Int) (H : Heap) (locs : List Loc) (ls : Array Slot), (64 - x_8.toInt : Int).toNat < n_21 → (0 ≤ x_8.toInt) → (x_8.toInt ≤ 64) → (cI Tc M_11) → (M_11.2.2.2 = M.2.2.2) → (f0 M_11 M) → (tI M_11 2 1 = tI M 2 1) → (ot t M_11 M) → (tT M_11 1 1 = (some t)) → (tT M_11 1 2 = (some lw)) → (rC B n t g_18 M_11) → (pp_lp pp_qP (fun s => pp_pd B n (pp_pt B n 3) (pp_kn B n s)) 64 g_7 = pp_lp pp_qP (fun s => pp_pd B n (pp_pt B n 3) (pp_kn B n s)) (64 - (x_8.toInt).toNat) g_18) → ti_H ti_LT D A cy H0 M_11 H locs → lv_has ls 4 [(2, .int x_8), (0, .ref (A 1 0)), (1, .int 5)] → W p l e (ti_rm 31) s m args below meth c H locs 0 0 Q (F0 m 7 ls []) := by
    intro n_21
    induction n_21 with
    | zero => intro x_8 M_11 g_18 H locs ls hf_21; exact absurd hf_21 (Nat.not_lt_zero _)
    | succ n_21 ih_21 =>
      intro x_8 M_11 g_18 H locs ls hf_21 b_9 b_10 iM_11 f_12 f_13 f_14 f_15 f_16 f_17 hs_19 j_20 hw hl
      have lg_18_0 : g_18 0 = (tI M_11 2 4).toInt := hs_19.2.1.1
      have lg_18_1 : g_18 1 = (tI M_11 2 6).toInt := hs_19.2.1.2.1
      have lg_18_4 : g_18 4 = (tI M_11 1 4).toInt := hs_19.2.2.1.1
      have lg_18_7 : g_18 7 = (tI M_11 t 4).toInt := hs_19.2.2.2.1.1
      have lg_18_8 : g_18 8 = (tI M_11 t 5).toInt := hs_19.2.2.2.1.2.1
      refine lv_iload_n hx hb dX4_readSum_7 rfl (lv_at hl 0 rfl) ?_
      refine lv_bipush (v := 64) hx hb dX4_readSum_8 (by decide) ?_
      refine sb_icmp_ge (tgt := 69) hx hb rfl (by decide : (64 : Int32).toInt = 64) dX4_readSum_10 (by decide) (fun c_10_21 => ?_) (fun c_10_21 => ?_)
      · exact hQ _ _ _ _ _ hw (⟨iM_11, (f_12), f_13, (f_14), f_15, (by unfold pp_sm; rw [← eg_7, j_20, lp_end (P := pp_qP) (f := 64 - x_8.toInt.toNat) (s := g_18) (Or.inl (by omega))]; exact hs_19)⟩) dX4_readSum_69
      · refine lv_aload_n hx hb dX4_readSum_13 rfl (lv_at hl 1 rfl) ?_
        refine ti_get (ci := 4) (k := 0) (N := 6) (T := TX4) (v := .ref (A 2 0)) C hw iw_4 rfl ob_1 (by decide) (by decide) fl_X4_12 rfl rfl dX4_readSum_14 ?_
        refine ti_get (ci := 7) (k := 4) (N := 7) (T := TX7) C hw iw_7 rfl ob_2 (by decide) (by decide) fl_X4_41 rfl rfl dX4_readSum_17 ?_
        refine lv_topi (fun x_23 ex_23 => ?_)
        have bx_23 : 0 ≤ x_23.toInt ∧ x_23.toInt ≤ 41 := cI_rd iM_11 ob_2.1 ex_23
        have ux_23 : (tI M_11 2 4).toInt = x_23.toInt := by rw [ex_23]
        refine lv_bipush (v := 38) hx hb dX4_readSum_20 (by decide) ?_
        refine sb_icmp_eq (tgt := 37) hx hb rfl (by decide : (38 : Int32).toInt = 38) dX4_readSum_22 (by decide) (fun c_22_23 => ?_) (fun c_22_23 => ?_)
        · refine lv_aload_n hx hb dX4_readSum_37 rfl (lv_at hl 1 rfl) ?_
          refine ti_get (ci := 4) (k := 0) (N := 6) (T := TX4) (v := .ref (A 2 0)) C hw iw_4 rfl ob_1 (by decide) (by decide) fl_X4_12 rfl rfl dX4_readSum_38 ?_
          refine ti_get (ci := 7) (k := 4) (N := 7) (T := TX7) C hw iw_7 rfl ob_2 (by decide) (by decide) fl_X4_41 rfl rfl dX4_readSum_41 ?_
          refine ti_top (y := x_23) (ex_23.symm) ?_
          have u_27 : (tI M_11 2 4).toInt = (x_23 : Int32).toInt := by rw [(ex_23.symm)]
          refine lv_istore_n (lv' := [(3, .int x_23), (2, .int x_8), (0, .ref (A 1 0)), (1, .int 5)]) hx hb dX4_readSum_44 rfl hl (by decide) rfl (fun ls hl => ?_)
          refine lv_aload_n hx hb dX4_readSum_45 rfl (lv_at hl 2 rfl) ?_
          refine ti_callVvE (ci := 4) (av := []) C hE hw (x_X4_knot l D A cy hJ M_11 iM_11 t ht (f_16) B n g_18 hs_19) ⟨ml_X4_167, ym_X4_knot, yv_X4_knot, yi_X4_knot, yc_X4_knot⟩ yd_X4_knot ob_1 (by decide) rfl rfl hl.1 (Nat.le_of_ble_eq_true rfl) ⟨by decide, by decide⟩ ⟨Nat.zero_le _, Nat.zero_le _⟩ dX4_readSum_46 (fun M_29 H locs hp_29 hw => ?_)
          obtain ⟨iM_29, q_30, q_31, q_32, q_33, p0r_28⟩ := hp_29
          obtain ⟨g_34, eg_34⟩ : ∃ z : Nat → Int, z = pp_kn B n g_18 := ⟨_, rfl⟩
          rw [← eg_34] at p0r_28
          have lg_34_0 : g_34 0 = (tI M_29 2 4).toInt := p0r_28.2.1.1
          have lg_34_1 : g_34 1 = (tI M_29 2 6).toInt := p0r_28.2.1.2.1
          have lg_34_4 : g_34 4 = (tI M_29 1 4).toInt := p0r_28.2.2.1.1
          have lg_34_7 : g_34 7 = (tI M_29 t 4).toInt := p0r_28.2.2.2.1.1
          have lg_34_8 : g_34 8 = (tI M_29 t 5).toInt := p0r_28.2.2.2.1.2.1
          refine lv_aload_n hx hb dX4_readSum_49 rfl (lv_at hl 2 rfl) ?_
          refine lv_iload_n hx hb dX4_readSum_50 rfl (lv_at hl 3 rfl) ?_
          refine ti_callVvE (ci := 4) (av := [.int 5]) C hE hw (x_X4_readProduct_5 l D A cy hJ M_29 iM_29 t ht ((tT_fr q_30).trans f_16) lw hlw ((tT_fr q_30).trans f_17) B n g_34 p0r_28) ⟨ml_X4_184, ym_X4_readProduct, yv_X4_readProduct, yi_X4_readProduct, yc_X4_readProduct⟩ yd_X4_readProduct ob_1 (by decide) rfl rfl hl.1 (Nat.le_of_ble_eq_true rfl) ⟨by decide, by decide⟩ ⟨Nat.zero_le _, Nat.zero_le _⟩ dX4_readSum_51 (fun M_36 H locs hp_36 hw => ?_)
          obtain ⟨iM_36, q_37, q_38, q_39, q_40, p0r_35⟩ := hp_36
          obtain ⟨g_41, eg_41⟩ : ∃ z : Nat → Int, z = pp_pd B n (pp_pt B n 3) g_34 := ⟨_, rfl⟩
          rw [← eg_41] at p0r_35
          have lg_41_0 : g_41 0 = (tI M_36 2 4).toInt := p0r_35.2.1.1
          have lg_41_1 : g_41 1 = (tI M_36 2 6).toInt := p0r_35.2.1.2.1
          have lg_41_4 : g_41 4 = (tI M_36 1 4).toInt := p0r_35.2.2.1.1
          have lg_41_7 : g_41 7 = (tI M_36 t 4).toInt := p0r_35.2.2.2.1.1
          have lg_41_8 : g_41 8 = (tI M_36 t 5).toInt := p0r_35.2.2.2.1.2.1
          refine lv_aload_n hx hb dX4_readSum_54 rfl (lv_at hl 2 rfl) ?_
          refine ti_get (ci := 4) (k := 2) (N := 6) (T := TX4) (v := .ref (A lw 0)) C hw iw_4 rfl ob_1 (by decide) (by decide) fl_X4_154 rfl (ti_Tv ((tT_fr q_37).trans ((tT_fr q_30).trans f_17))) dX4_readSum_55 ?_
          refine lv_iload_n hx hb dX4_readSum_58 rfl (lv_at hl 0 rfl) ?_
          refine lv_ineg hx hb dX4_readSum_59 ?_
          refine lv_topi (fun x_42 ex_42 => ?_)
          have tx_42 : x_42.toInt = -x_23.toInt := i_neg ex_42 rfl (by omega)
          refine ti_callVv (ci := 1) (av := [.int x_42]) C hw (x_X1_add l D A cy hJ M_36 iM_36 lw hlw x_42 (by first | omega | exact Or.inl (by decide) | exact Or.inr (by decide)) t ht B n g_41 p0r_35) ⟨ml_X4_170, ym_X1_add, yv_X1_add, yi_X1_add, yc_X1_add⟩ yd_X1_add hlw (by decide) rfl rfl hl.1 (Nat.le_of_ble_eq_true rfl) ⟨by decide, by decide⟩ ⟨Nat.zero_le _, Nat.zero_le _⟩ dX4_readSum_60 (fun M_44 H locs hp_44 hw => ?_)
          obtain ⟨iM_44, q_45, q_46, p0r_43⟩ := hp_44
          have lM_44_0 : g_41 0 = (tI M_44 2 4).toInt := p0r_43.2.1.1
          have lM_44_1 : g_41 1 = (tI M_44 2 6).toInt := p0r_43.2.1.2.1
          have lM_44_4 : g_41 4 = (tI M_44 1 4).toInt := p0r_43.2.2.1.1
          have lM_44_7 : g_41 7 = (tI M_44 t 4).toInt := p0r_43.2.2.2.1.1
          have lM_44_8 : g_41 8 = (tI M_44 t 5).toInt := p0r_43.2.2.2.1.2.1
          obtain ⟨x_47, ex_47⟩ : ∃ z : Int32, z = x_8 + 1 := ⟨_, rfl⟩
          have tx_47 : x_47.toInt = x_8.toInt + 1 := i_add ex_47 rfl (by decide) (by omega) (by omega)
          refine lv_iinc (v := x_47) (lv' := [(2, .int x_47), (3, .int x_23), (0, .ref (A 1 0)), (1, .int 5)]) hx hb dX4_readSum_63 hl (k := 1) rfl (by rw [ex_47]; rfl) (by decide) rfl (fun ls hl => ?_)
          refine lv_goto (tgt := 7) hx hb dX4_readSum_66 (by decide) ?_
          exact ih_21 x_47 M_44 g_41 _ _ _ (by omega) (by first | omega | decide) (by first | omega | decide) iM_44 ((q_45).trans ((q_37).trans ((q_30).trans f_12))) (f0.trans (f0_x q_46) (f0.trans q_38 (f0.trans q_31 f_13))) (((q_46 1).2.1).trans ((q_39).trans ((q_32).trans f_14))) (ot.trans (ot_fx ht q_46) (ot.trans q_40 (ot.trans q_33 f_15))) ((tT_fr q_45).trans ((tT_fr q_37).trans ((tT_fr q_30).trans f_16))) ((tT_fr q_45).trans ((tT_fr q_37).trans ((tT_fr q_30).trans f_17))) p0r_43 (j_20.trans (lp_step (decide_eq_true (by omega)) (by rw [eg_41, eg_34]) (by omega))) hw (lv_sub hl [0, 2, 3] rfl)
        · refine lv_aload_n hx hb dX4_readSum_25 rfl (lv_at hl 1 rfl) ?_
          refine ti_get (ci := 4) (k := 0) (N := 6) (T := TX4) (v := .ref (A 2 0)) C hw iw_4 rfl ob_1 (by decide) (by decide) fl_X4_12 rfl rfl dX4_readSum_26 ?_
          refine ti_get (ci := 7) (k := 4) (N := 7) (T := TX7) C hw iw_7 rfl ob_2 (by decide) (by decide) fl_X4_41 rfl rfl dX4_readSum_29 ?_
          refine ti_top (y := x_23) (ex_23.symm) ?_
          have u_25 : (tI M_11 2 4).toInt = (x_23 : Int32).toInt := by rw [(ex_23.symm)]
          refine lv_bipush (v := 39) hx hb dX4_readSum_32 (by decide) ?_
          refine sb_icmp_ne (tgt := 69) hx hb rfl (by decide : (39 : Int32).toInt = 39) dX4_readSum_34 (by decide) (fun c_34_25 => ?_) (fun c_34_25 => ?_)
          · exact hQ _ _ _ _ _ hw (⟨iM_11, (f_12), f_13, (f_14), f_15, (by unfold pp_sm; rw [← eg_7, j_20, lp_end (P := pp_qP) (f := 64 - x_8.toInt.toNat) (s := g_18) (Or.inr (decide_eq_false (by omega)))]; exact hs_19)⟩) dX4_readSum_69
          · refine lv_aload_n hx hb dX4_readSum_37 rfl (lv_at hl 1 rfl) ?_
            refine ti_get (ci := 4) (k := 0) (N := 6) (T := TX4) (v := .ref (A 2 0)) C hw iw_4 rfl ob_1 (by decide) (by decide) fl_X4_12 rfl rfl dX4_readSum_38 ?_
            refine ti_get (ci := 7) (k := 4) (N := 7) (T := TX7) C hw iw_7 rfl ob_2 (by decide) (by decide) fl_X4_41 rfl rfl dX4_readSum_41 ?_
            refine ti_top (y := x_23) (ex_23.symm) ?_
            have u_48 : (tI M_11 2 4).toInt = (x_23 : Int32).toInt := by rw [(ex_23.symm)]
            refine lv_istore_n (lv' := [(3, .int x_23), (2, .int x_8), (0, .ref (A 1 0)), (1, .int 5)]) hx hb dX4_readSum_44 rfl hl (by decide) rfl (fun ls hl => ?_)
            refine lv_aload_n hx hb dX4_readSum_45 rfl (lv_at hl 2 rfl) ?_
            refine ti_callVvE (ci := 4) (av := []) C hE hw (x_X4_knot l D A cy hJ M_11 iM_11 t ht (f_16) B n g_18 hs_19) ⟨ml_X4_167, ym_X4_knot, yv_X4_knot, yi_X4_knot, yc_X4_knot⟩ yd_X4_knot ob_1 (by decide) rfl rfl hl.1 (Nat.le_of_ble_eq_true rfl) ⟨by decide, by decide⟩ ⟨Nat.zero_le _, Nat.zero_le _⟩ dX4_readSum_46 (fun M_50 H locs hp_50 hw => ?_)
            obtain ⟨iM_50, q_51, q_52, q_53, q_54, p0r_49⟩ := hp_50
            obtain ⟨g_55, eg_55⟩ : ∃ z : Nat → Int, z = pp_kn B n g_18 := ⟨_, rfl⟩
            rw [← eg_55] at p0r_49
            have lg_55_0 : g_55 0 = (tI M_50 2 4).toInt := p0r_49.2.1.1
            have lg_55_1 : g_55 1 = (tI M_50 2 6).toInt := p0r_49.2.1.2.1
            have lg_55_4 : g_55 4 = (tI M_50 1 4).toInt := p0r_49.2.2.1.1
            have lg_55_7 : g_55 7 = (tI M_50 t 4).toInt := p0r_49.2.2.2.1.1
            have lg_55_8 : g_55 8 = (tI M_50 t 5).toInt := p0r_49.2.2.2.1.2.1
            refine lv_aload_n hx hb dX4_readSum_49 rfl (lv_at hl 2 rfl) ?_
            refine lv_iload_n hx hb dX4_readSum_50 rfl (lv_at hl 3 rfl) ?_
            refine ti_callVvE (ci := 4) (av := [.int 5]) C hE hw (x_X4_readProduct_5 l D A cy hJ M_50 iM_50 t ht ((tT_fr q_51).trans f_16) lw hlw ((tT_fr q_51).trans f_17) B n g_55 p0r_49) ⟨ml_X4_184, ym_X4_readProduct, yv_X4_readProduct, yi_X4_readProduct, yc_X4_readProduct⟩ yd_X4_readProduct ob_1 (by decide) rfl rfl hl.1 (Nat.le_of_ble_eq_true rfl) ⟨by decide, by decide⟩ ⟨Nat.zero_le _, Nat.zero_le _⟩ dX4_readSum_51 (fun M_57 H locs hp_57 hw => ?_)
            obtain ⟨iM_57, q_58, q_59, q_60, q_61, p0r_56⟩ := hp_57
            obtain ⟨g_62, eg_62⟩ : ∃ z : Nat → Int, z = pp_pd B n (pp_pt B n 3) g_55 := ⟨_, rfl⟩
            rw [← eg_62] at p0r_56
            have lg_62_0 : g_62 0 = (tI M_57 2 4).toInt := p0r_56.2.1.1
            have lg_62_1 : g_62 1 = (tI M_57 2 6).toInt := p0r_56.2.1.2.1
            have lg_62_4 : g_62 4 = (tI M_57 1 4).toInt := p0r_56.2.2.1.1
            have lg_62_7 : g_62 7 = (tI M_57 t 4).toInt := p0r_56.2.2.2.1.1
            have lg_62_8 : g_62 8 = (tI M_57 t 5).toInt := p0r_56.2.2.2.1.2.1
            refine lv_aload_n hx hb dX4_readSum_54 rfl (lv_at hl 2 rfl) ?_
            refine ti_get (ci := 4) (k := 2) (N := 6) (T := TX4) (v := .ref (A lw 0)) C hw iw_4 rfl ob_1 (by decide) (by decide) fl_X4_154 rfl (ti_Tv ((tT_fr q_58).trans ((tT_fr q_51).trans f_17))) dX4_readSum_55 ?_
            refine lv_iload_n hx hb dX4_readSum_58 rfl (lv_at hl 0 rfl) ?_
            refine lv_ineg hx hb dX4_readSum_59 ?_
            refine lv_topi (fun x_63 ex_63 => ?_)
            have tx_63 : x_63.toInt = -x_23.toInt := i_neg ex_63 rfl (by omega)
            refine ti_callVv (ci := 1) (av := [.int x_63]) C hw (x_X1_add l D A cy hJ M_57 iM_57 lw hlw x_63 (by first | omega | exact Or.inl (by decide) | exact Or.inr (by decide)) t ht B n g_62 p0r_56) ⟨ml_X4_170, ym_X1_add, yv_X1_add, yi_X1_add, yc_X1_add⟩ yd_X1_add hlw (by decide) rfl rfl hl.1 (Nat.le_of_ble_eq_true rfl) ⟨by decide, by decide⟩ ⟨Nat.zero_le _, Nat.zero_le _⟩ dX4_readSum_60 (fun M_65 H locs hp_65 hw => ?_)
            obtain ⟨iM_65, q_66, q_67, p0r_64⟩ := hp_65
            have lM_65_0 : g_62 0 = (tI M_65 2 4).toInt := p0r_64.2.1.1
            have lM_65_1 : g_62 1 = (tI M_65 2 6).toInt := p0r_64.2.1.2.1
            have lM_65_4 : g_62 4 = (tI M_65 1 4).toInt := p0r_64.2.2.1.1
            have lM_65_7 : g_62 7 = (tI M_65 t 4).toInt := p0r_64.2.2.2.1.1
            have lM_65_8 : g_62 8 = (tI M_65 t 5).toInt := p0r_64.2.2.2.1.2.1
            obtain ⟨x_68, ex_68⟩ : ∃ z : Int32, z = x_8 + 1 := ⟨_, rfl⟩
            have tx_68 : x_68.toInt = x_8.toInt + 1 := i_add ex_68 rfl (by decide) (by omega) (by omega)
            refine lv_iinc (v := x_68) (lv' := [(2, .int x_68), (3, .int x_23), (0, .ref (A 1 0)), (1, .int 5)]) hx hb dX4_readSum_63 hl (k := 1) rfl (by rw [ex_68]; rfl) (by decide) rfl (fun ls hl => ?_)
            refine lv_goto (tgt := 7) hx hb dX4_readSum_66 (by decide) ?_
            exact ih_21 x_68 M_65 g_62 _ _ _ (by omega) (by first | omega | decide) (by first | omega | decide) iM_65 ((q_66).trans ((q_58).trans ((q_51).trans f_12))) (f0.trans (f0_x q_67) (f0.trans q_59 (f0.trans q_52 f_13))) (((q_67 1).2.1).trans ((q_60).trans ((q_53).trans f_14))) (ot.trans (ot_fx ht q_67) (ot.trans q_61 (ot.trans q_54 f_15))) ((tT_fr q_66).trans ((tT_fr q_58).trans ((tT_fr q_51).trans f_16))) ((tT_fr q_66).trans ((tT_fr q_58).trans ((tT_fr q_51).trans f_17))) p0r_64 (j_20.trans (lp_step (decide_eq_true (by omega)) (by rw [eg_62, eg_55]) (by omega))) hw (lv_sub hl [0, 2, 3] rfl)
  exact hl_7_20 ((64 - 0 : Int).toNat + 1) 0 M_2 g_7 _ _ _ (Nat.lt_succ_self _) (by have lt0 : (0 : Int32).toInt = 0 := (by decide); first | omega | decide) (by have lt0 : (0 : Int32).toInt = 0 := (by decide); first | omega | decide) iM_2 (q_3) q_4 (q_5) q_6 ((tT_fr q_3).trans hT) ((tT_fr q_3).trans hL) p0r_1 rfl hw (lv_sub hl [0, 1, 2] rfl)
set_option maxHeartbeats 4000000 in
set_option maxRecDepth 100000 in
theorem x_X4_readComparison_5 (l : Launch) (D : va_G) (A : Nat → Nat → Nat) (cy : Nat → ClassId) (hJ : ti_inj ti_LT A) (M : ti_M) (hI : cI Tc M) (t : Nat) (ht : t = 3 ∨ t = 4) (hT : tT M 1 1 = some t) (lw : Nat) (hlw : ti_ob ti_LT lw 1) (hL : tT M 1 2 = some lw) (B : Nat → Int) (n : Nat) (rg : Nat → Int) (hr : rC B n t rg M) : ti_KvE l yX4_readComparison cX4_readComparison 3 32 ti_LT D A cy M [.ref (A 1 0), .int 5] (fun M2 => cI Tc M2 ∧ M2.2.2.2 = M.2.2.2 ∧ f0 M2 M ∧ tI M2 2 1 = tI M 2 1 ∧ ot t M2 M ∧ rC B n t (pp_cm B n (pp_pt B n 3) rg) M2) := by
  refine ti_eVE yp_X4_readComparison hJ ti_LT_nd (Nat.le_of_ble_eq_true rfl) ?_
  intro p e s m args below meth c Q H0 C hE hQ hw ls hl
  have hx := C.1
  have hb := C.2.1
  have hl : lv_has ls 3 [(0, .ref (A 1 0)), (1, .int 5)] := hl
  have l0 : rg 0 = (tI M 2 4).toInt := hr.2.1.1
  have l1 : rg 1 = (tI M 2 6).toInt := hr.2.1.2.1
  have l2 : rg 2 = (tI M 2 5).toInt := hr.2.1.2.2.1
  have l3 : rg 3 = (tI M 2 3).toInt := hr.2.1.2.2.2
  have l4 : rg 4 = (tI M 1 4).toInt := hr.2.2.1.1
  have l5 : rg 5 = (tI M 1 5).toInt := hr.2.2.1.2.1
  have l7 : rg 7 = (tI M t 4).toInt := hr.2.2.2.1.1
  have l8 : rg 8 = (tI M t 5).toInt := hr.2.2.2.1.2.1
  have l9 : rg 9 = (tI M t 3).toInt := hr.2.2.2.1.2.2
  refine lv_aload_n hx hb dX4_readComparison_0 rfl (lv_at hl 0 rfl) ?_
  refine lv_iload_n hx hb dX4_readComparison_1 rfl (lv_at hl 1 rfl) ?_
  refine ti_callVvE (ci := 4) (av := [.int 5]) C hE hw (x_X4_readSum_5 l D A cy hJ M hI t ht (hT) lw hlw (hL) B n rg hr) ⟨ml_X4_181, ym_X4_readSum, yv_X4_readSum, yi_X4_readSum, yc_X4_readSum⟩ yd_X4_readSum ob_1 (by decide) rfl rfl hl.1 (Nat.le_of_ble_eq_true rfl) ⟨by decide, by decide⟩ ⟨Nat.zero_le _, Nat.zero_le _⟩ dX4_readComparison_2 (fun M_2 H locs hp_2 hw => ?_)
  obtain ⟨iM_2, q_3, q_4, q_5, q_6, p0r_1⟩ := hp_2
  obtain ⟨g_7, eg_7⟩ : ∃ z : Nat → Int, z = pp_sm B n (pp_pt B n 3) rg := ⟨_, rfl⟩
  rw [← eg_7] at p0r_1
  have lg_7_0 : g_7 0 = (tI M_2 2 4).toInt := p0r_1.2.1.1
  have lg_7_1 : g_7 1 = (tI M_2 2 6).toInt := p0r_1.2.1.2.1
  have lg_7_4 : g_7 4 = (tI M_2 1 4).toInt := p0r_1.2.2.1.1
  have lg_7_7 : g_7 7 = (tI M_2 t 4).toInt := p0r_1.2.2.2.1.1
  have lg_7_8 : g_7 8 = (tI M_2 t 5).toInt := p0r_1.2.2.2.1.2.1
  refine lv_aload_n hx hb dX4_readComparison_5 rfl (lv_at hl 0 rfl) ?_
  refine ti_get (ci := 4) (k := 0) (N := 6) (T := TX4) (v := .ref (A 2 0)) C hw iw_4 rfl ob_1 (by decide) (by decide) fl_X4_12 rfl rfl dX4_readComparison_6 ?_
  refine ti_get (ci := 7) (k := 4) (N := 7) (T := TX7) C hw iw_7 rfl ob_2 (by decide) (by decide) fl_X4_41 rfl rfl dX4_readComparison_9 ?_
  refine lv_topi (fun x_8 ex_8 => ?_)
  have bx_8 : 0 ≤ x_8.toInt ∧ x_8.toInt ≤ 41 := cI_rd iM_2 ob_2.1 ex_8
  have ux_8 : (tI M_2 2 4).toInt = x_8.toInt := by rw [ex_8]
  refine lv_istore_n (lv' := [(2, .int x_8), (0, .ref (A 1 0)), (1, .int 5)]) hx hb dX4_readComparison_12 rfl hl (by decide) rfl (fun ls hl => ?_)
  refine lv_iload_n hx hb dX4_readComparison_13 rfl (lv_at hl 0 rfl) ?_
  refine lv_bipush (v := 32) hx hb dX4_readComparison_14 (by decide) ?_
  refine sb_icmp_lt (tgt := 43) hx hb rfl (by decide : (32 : Int32).toInt = 32) dX4_readComparison_16 (by decide) (fun c_16_8 => ?_) (fun c_16_8 => ?_)
  · exact hQ _ _ _ _ _ hw (⟨iM_2, (q_3), q_4, (q_5), q_6, (by unfold pp_cm; rw [← eg_7]; unfold pp_c2; rw [if_neg (fun q => by omega)]; exact p0r_1)⟩) dX4_readComparison_43
  · refine lv_iload_n hx hb dX4_readComparison_19 rfl (lv_at hl 0 rfl) ?_
    refine lv_bipush (v := 37) hx hb dX4_readComparison_20 (by decide) ?_
    refine sb_icmp_gt (tgt := 43) hx hb rfl (by decide : (37 : Int32).toInt = 37) dX4_readComparison_22 (by decide) (fun c_22_9 => ?_) (fun c_22_9 => ?_)
    · exact hQ _ _ _ _ _ hw (⟨iM_2, (q_3), q_4, (q_5), q_6, (by unfold pp_cm; rw [← eg_7]; unfold pp_c2; rw [if_neg (fun q => by omega)]; exact p0r_1)⟩) dX4_readComparison_43
    · refine lv_aload_n hx hb dX4_readComparison_25 rfl (lv_at hl 1 rfl) ?_
      refine ti_callVvE (ci := 4) (av := []) C hE hw (x_X4_knot l D A cy hJ M_2 iM_2 t ht ((tT_fr q_3).trans hT) B n g_7 p0r_1) ⟨ml_X4_167, ym_X4_knot, yv_X4_knot, yi_X4_knot, yc_X4_knot⟩ yd_X4_knot ob_1 (by decide) rfl rfl hl.1 (Nat.le_of_ble_eq_true rfl) ⟨by decide, by decide⟩ ⟨Nat.zero_le _, Nat.zero_le _⟩ dX4_readComparison_26 (fun M_12 H locs hp_12 hw => ?_)
      obtain ⟨iM_12, q_13, q_14, q_15, q_16, p0r_11⟩ := hp_12
      obtain ⟨g_17, eg_17⟩ : ∃ z : Nat → Int, z = pp_kn B n g_7 := ⟨_, rfl⟩
      rw [← eg_17] at p0r_11
      have lg_17_0 : g_17 0 = (tI M_12 2 4).toInt := p0r_11.2.1.1
      have lg_17_1 : g_17 1 = (tI M_12 2 6).toInt := p0r_11.2.1.2.1
      have lg_17_4 : g_17 4 = (tI M_12 1 4).toInt := p0r_11.2.2.1.1
      have lg_17_7 : g_17 7 = (tI M_12 t 4).toInt := p0r_11.2.2.2.1.1
      have lg_17_8 : g_17 8 = (tI M_12 t 5).toInt := p0r_11.2.2.2.1.2.1
      refine lv_aload_n hx hb dX4_readComparison_29 rfl (lv_at hl 1 rfl) ?_
      refine lv_iload_n hx hb dX4_readComparison_30 rfl (lv_at hl 2 rfl) ?_
      refine ti_callVvE (ci := 4) (av := [.int 5]) C hE hw (x_X4_readSum_5 l D A cy hJ M_12 iM_12 t ht ((tT_fr q_13).trans ((tT_fr q_3).trans hT)) lw hlw ((tT_fr q_13).trans ((tT_fr q_3).trans hL)) B n g_17 p0r_11) ⟨ml_X4_181, ym_X4_readSum, yv_X4_readSum, yi_X4_readSum, yc_X4_readSum⟩ yd_X4_readSum ob_1 (by decide) rfl rfl hl.1 (Nat.le_of_ble_eq_true rfl) ⟨by decide, by decide⟩ ⟨Nat.zero_le _, Nat.zero_le _⟩ dX4_readComparison_31 (fun M_19 H locs hp_19 hw => ?_)
      obtain ⟨iM_19, q_20, q_21, q_22, q_23, p0r_18⟩ := hp_19
      obtain ⟨g_24, eg_24⟩ : ∃ z : Nat → Int, z = pp_sm B n (pp_pt B n 3) g_17 := ⟨_, rfl⟩
      rw [← eg_24] at p0r_18
      have lg_24_0 : g_24 0 = (tI M_19 2 4).toInt := p0r_18.2.1.1
      have lg_24_1 : g_24 1 = (tI M_19 2 6).toInt := p0r_18.2.1.2.1
      have lg_24_4 : g_24 4 = (tI M_19 1 4).toInt := p0r_18.2.2.1.1
      have lg_24_7 : g_24 7 = (tI M_19 t 4).toInt := p0r_18.2.2.2.1.1
      have lg_24_8 : g_24 8 = (tI M_19 t 5).toInt := p0r_18.2.2.2.1.2.1
      refine lv_aload_n hx hb dX4_readComparison_34 rfl (lv_at hl 1 rfl) ?_
      refine ti_get (ci := 4) (k := 2) (N := 6) (T := TX4) (v := .ref (A lw 0)) C hw iw_4 rfl ob_1 (by decide) (by decide) fl_X4_154 rfl (ti_Tv ((tT_fr q_20).trans ((tT_fr q_13).trans ((tT_fr q_3).trans hL)))) dX4_readComparison_35 ?_
      refine lv_iload_n hx hb dX4_readComparison_38 rfl (lv_at hl 0 rfl) ?_
      refine lv_ineg hx hb dX4_readComparison_39 ?_
      refine lv_topi (fun x_25 ex_25 => ?_)
      have tx_25 : x_25.toInt = -x_8.toInt := i_neg ex_25 rfl (by omega)
      refine ti_callVv (ci := 1) (av := [.int x_25]) C hw (x_X1_add l D A cy hJ M_19 iM_19 lw hlw x_25 (by first | omega | exact Or.inl (by decide) | exact Or.inr (by decide)) t ht B n g_24 p0r_18) ⟨ml_X4_170, ym_X1_add, yv_X1_add, yi_X1_add, yc_X1_add⟩ yd_X1_add hlw (by decide) rfl rfl hl.1 (Nat.le_of_ble_eq_true rfl) ⟨by decide, by decide⟩ ⟨Nat.zero_le _, Nat.zero_le _⟩ dX4_readComparison_40 (fun M_27 H locs hp_27 hw => ?_)
      obtain ⟨iM_27, q_28, q_29, p0r_26⟩ := hp_27
      have lM_27_0 : g_24 0 = (tI M_27 2 4).toInt := p0r_26.2.1.1
      have lM_27_1 : g_24 1 = (tI M_27 2 6).toInt := p0r_26.2.1.2.1
      have lM_27_4 : g_24 4 = (tI M_27 1 4).toInt := p0r_26.2.2.1.1
      have lM_27_7 : g_24 7 = (tI M_27 t 4).toInt := p0r_26.2.2.2.1.1
      have lM_27_8 : g_24 8 = (tI M_27 t 5).toInt := p0r_26.2.2.2.1.2.1
      exact hQ _ _ _ _ _ hw (⟨iM_27, ((q_28).trans ((q_20).trans ((q_13).trans q_3))), (f0.trans (f0_x q_29) (f0.trans q_21 (f0.trans q_14 q_4))), (((q_29 1).2.1).trans ((q_22).trans ((q_15).trans q_5))), (ot.trans (ot_fx ht q_29) (ot.trans q_23 (ot.trans q_16 q_6))), (by unfold pp_cm; rw [← eg_7]; unfold pp_c2; rw [if_pos ⟨by omega, by omega⟩, ← eg_17, ← eg_24]; exact p0r_26)⟩) dX4_readComparison_43
set_option maxHeartbeats 4000000 in
set_option maxRecDepth 100000 in
theorem x_X4_readNegated_5 (l : Launch) (D : va_G) (A : Nat → Nat → Nat) (cy : Nat → ClassId) (hJ : ti_inj ti_LT A) (M : ti_M) (hI : cI Tc M) (t : Nat) (ht : t = 3 ∨ t = 4) (hT : tT M 1 1 = some t) (lw : Nat) (hlw : ti_ob ti_LT lw 1) (hL : tT M 1 2 = some lw) (B : Nat → Int) (n : Nat) (rg : Nat → Int) (hr : rC B n t rg M) : ti_KvE l yX4_readNegated cX4_readNegated 4 33 ti_LT D A cy M [.ref (A 1 0), .int 5] (fun M2 => cI Tc M2 ∧ M2.2.2.2 = M.2.2.2 ∧ f0 M2 M ∧ tI M2 2 1 = tI M 2 1 ∧ ot t M2 M ∧ rC B n t (pp_ng B n (pp_pt B n 3) rg) M2) := by
  refine ti_eVE yp_X4_readNegated hJ ti_LT_nd (Nat.le_of_ble_eq_true rfl) ?_
  intro p e s m args below meth c Q H0 C hE hQ hw ls hl
  have hx := C.1
  have hb := C.2.1
  have hl : lv_has ls 4 [(0, .ref (A 1 0)), (1, .int 5)] := hl
  have l0 : rg 0 = (tI M 2 4).toInt := hr.2.1.1
  have l1 : rg 1 = (tI M 2 6).toInt := hr.2.1.2.1
  have l2 : rg 2 = (tI M 2 5).toInt := hr.2.1.2.2.1
  have l3 : rg 3 = (tI M 2 3).toInt := hr.2.1.2.2.2
  have l4 : rg 4 = (tI M 1 4).toInt := hr.2.2.1.1
  have l5 : rg 5 = (tI M 1 5).toInt := hr.2.2.1.2.1
  have l7 : rg 7 = (tI M t 4).toInt := hr.2.2.2.1.1
  have l8 : rg 8 = (tI M t 5).toInt := hr.2.2.2.1.2.1
  have l9 : rg 9 = (tI M t 3).toInt := hr.2.2.2.1.2.2
  refine lv_iconst (v := 0) hx hb dX4_readNegated_0 (by decide) ?_
  refine lv_istore_n (lv' := [(2, .int 0), (0, .ref (A 1 0)), (1, .int 5)]) hx hb dX4_readNegated_1 rfl hl (by decide) rfl (fun ls hl => ?_)
  have hl_2_13 : ∀ (n_14 : Nat) (x_1 : Int32) (M_4 : ti_M) (g_11 : Nat → Int) (H : Heap) (locs : List Loc) (ls : Array Slot), (65 - x_1.toInt : Int).toNat < n_14 → (0 ≤ x_1.toInt) → (x_1.toInt ≤ 65) → (cI Tc M_4) → (M_4.2.2.2 = M.2.2.2) → (f0 M_4 M) → (tI M_4 2 1 = tI M 2 1) → (ot t M_4 M) → (tT M_4 1 1 = (some t)) → (tT M_4 1 2 = (some lw)) → (rC B n t g_11 M_4) → (pp_lp pp_qN (pp_kn B n) 65 rg = pp_lp pp_qN (pp_kn B n) (65 - (x_1.toInt).toNat) g_11) → ti_H ti_LT D A cy H0 M_4 H locs → lv_has ls 4 [(2, .int x_1), (0, .ref (A 1 0)), (1, .int 5)] → W p l e (ti_rm 33) s m args below meth c H locs 0 0 Q (F0 m 2 ls []) := by
    intro n_14
    induction n_14 with
    | zero => intro x_1 M_4 g_11 H locs ls hf_14; exact absurd hf_14 (Nat.not_lt_zero _)
    | succ n_14 ih_14 =>
      intro x_1 M_4 g_11 H locs ls hf_14 b_2 b_3 iM_4 f_5 f_6 f_7 f_8 f_9 f_10 hs_12 j_13 hw hl
      have lg_11_0 : g_11 0 = (tI M_4 2 4).toInt := hs_12.2.1.1
      have lg_11_1 : g_11 1 = (tI M_4 2 6).toInt := hs_12.2.1.2.1
      have lg_11_4 : g_11 4 = (tI M_4 1 4).toInt := hs_12.2.2.1.1
      have lg_11_7 : g_11 7 = (tI M_4 t 4).toInt := hs_12.2.2.2.1.1
      have lg_11_8 : g_11 8 = (tI M_4 t 5).toInt := hs_12.2.2.2.1.2.1
      refine lv_iload_n hx hb dX4_readNegated_2 rfl (lv_at hl 0 rfl) ?_
      refine lv_bipush (v := 64) hx hb dX4_readNegated_3 (by decide) ?_
      have hj_30_26 : ∀  (H : Heap) (locs : List Loc) (ls : Array Slot), (pp_lp pp_qN (pp_kn B n) 65 rg = g_11) → ti_H ti_LT D A cy H0 M_4 H locs → lv_has ls 4 [(2, .int x_1), (0, .ref (A 1 0)), (1, .int 5)] → W p l e (ti_rm 33) s m args below meth c H locs 0 0 Q (F0 m 30 ls []) := by
        intro  H locs ls j_26 hw hl
        have lg_11_0 : g_11 0 = (tI M_4 2 4).toInt := hs_12.2.1.1
        have lg_11_1 : g_11 1 = (tI M_4 2 6).toInt := hs_12.2.1.2.1
        have lg_11_4 : g_11 4 = (tI M_4 1 4).toInt := hs_12.2.2.1.1
        have lg_11_7 : g_11 7 = (tI M_4 t 4).toInt := hs_12.2.2.2.1.1
        have lg_11_8 : g_11 8 = (tI M_4 t 5).toInt := hs_12.2.2.2.1.2.1
        refine lv_aload_n hx hb dX4_readNegated_30 rfl (lv_at hl 1 rfl) ?_
        refine lv_iload_n hx hb dX4_readNegated_31 rfl (lv_at hl 2 rfl) ?_
        refine ti_callVvE (ci := 4) (av := [.int 5]) C hE hw (x_X4_readComparison_5 l D A cy hJ M_4 iM_4 t ht (f_9) lw hlw (f_10) B n g_11 hs_12) ⟨ml_X4_178, ym_X4_readComparison, yv_X4_readComparison, yi_X4_readComparison, yc_X4_readComparison⟩ yd_X4_readComparison ob_1 (by decide) rfl rfl hl.1 (Nat.le_of_ble_eq_true rfl) ⟨by decide, by decide⟩ ⟨Nat.zero_le _, Nat.zero_le _⟩ dX4_readNegated_32 (fun M_28 H locs hp_28 hw => ?_)
        obtain ⟨iM_28, q_29, q_30, q_31, q_32, p0r_27⟩ := hp_28
        obtain ⟨g_33, eg_33⟩ : ∃ z : Nat → Int, z = pp_cm B n (pp_pt B n 3) g_11 := ⟨_, rfl⟩
        rw [← eg_33] at p0r_27
        have lg_33_0 : g_33 0 = (tI M_28 2 4).toInt := p0r_27.2.1.1
        have lg_33_1 : g_33 1 = (tI M_28 2 6).toInt := p0r_27.2.1.2.1
        have lg_33_4 : g_33 4 = (tI M_28 1 4).toInt := p0r_27.2.2.1.1
        have lg_33_7 : g_33 7 = (tI M_28 t 4).toInt := p0r_27.2.2.2.1.1
        have lg_33_8 : g_33 8 = (tI M_28 t 5).toInt := p0r_27.2.2.2.1.2.1
        have EM : pp_ng B n (pp_pt B n 3) rg = g_33 := by unfold pp_ng; rw [j_26, ← eg_33]
        refine lv_iconst (v := 0) hx hb dX4_readNegated_35 (by decide) ?_
        refine lv_istore_n (lv' := [(3, .int 0), (2, .int x_1), (0, .ref (A 1 0)), (1, .int 5)]) hx hb dX4_readNegated_36 rfl hl (by decide) rfl (fun ls hl => ?_)
        have hl_37_46 : ∀ (n_47 : Nat) (x_34 : Int32) (M_37 : ti_M) (g_44 : Nat → Int) (H : Heap) (locs : List Loc) (ls : Array Slot), (65 - x_34.toInt : Int).toNat < n_47 → (0 ≤ x_34.toInt) → (x_34.toInt ≤ 65) → (cI Tc M_37) → (M_37.2.2.2 = M.2.2.2) → (f0 M_37 M) → (tI M_37 2 1 = tI M 2 1) → (ot t M_37 M) → (tT M_37 1 1 = (some t)) → (tT M_37 1 2 = (some lw)) → (rC B n t g_44 M_37) → (g_33 = g_44) → ti_H ti_LT D A cy H0 M_37 H locs → lv_has ls 4 [(3, .int x_34), (2, .int x_1), (0, .ref (A 1 0)), (1, .int 5)] → W p l e (ti_rm 33) s m args below meth c H locs 0 0 Q (F0 m 37 ls []) := by
          intro n_47
          induction n_47 with
          | zero => intro x_34 M_37 g_44 H locs ls hf_47; exact absurd hf_47 (Nat.not_lt_zero _)
          | succ n_47 ih_47 =>
            intro x_34 M_37 g_44 H locs ls hf_47 b_35 b_36 iM_37 f_38 f_39 f_40 f_41 f_42 f_43 hs_45 j_46 hw hl
            have lg_44_0 : g_44 0 = (tI M_37 2 4).toInt := hs_45.2.1.1
            have lg_44_1 : g_44 1 = (tI M_37 2 6).toInt := hs_45.2.1.2.1
            have lg_44_4 : g_44 4 = (tI M_37 1 4).toInt := hs_45.2.2.1.1
            have lg_44_7 : g_44 7 = (tI M_37 t 4).toInt := hs_45.2.2.2.1.1
            have lg_44_8 : g_44 8 = (tI M_37 t 5).toInt := hs_45.2.2.2.1.2.1
            refine lv_iload_n hx hb dX4_readNegated_37 rfl (lv_at hl 0 rfl) ?_
            refine lv_iload_n hx hb dX4_readNegated_38 rfl (lv_at hl 1 rfl) ?_
            refine sb_icmp_ge (tgt := 57) hx hb rfl rfl dX4_readNegated_39 (by decide) (fun c_39_47 => ?_) (fun c_39_47 => ?_)
            · exact hQ _ _ _ _ _ hw (⟨iM_37, (f_38), f_39, (f_40), f_41, (by rw [EM, j_46]; exact hs_45)⟩) dX4_readNegated_57
            · refine lv_aload_n hx hb dX4_readNegated_42 rfl (lv_at hl 2 rfl) ?_
              refine ti_get (ci := 4) (k := 2) (N := 6) (T := TX4) (v := .ref (A lw 0)) C hw iw_4 rfl ob_1 (by decide) (by decide) fl_X4_154 rfl (ti_Tv (f_43)) dX4_readNegated_43 ?_
              refine lv_bipush (v := (-24)) hx hb dX4_readNegated_46 (by decide) ?_
              refine ti_callVv (ci := 1) (av := [.int (-24)]) C hw (x_X1_add l D A cy hJ M_37 iM_37 lw hlw (-24) (by first | omega | exact Or.inl (by decide) | exact Or.inr (by decide)) t ht B n g_44 hs_45) ⟨ml_X4_170, ym_X1_add, yv_X1_add, yi_X1_add, yc_X1_add⟩ yd_X1_add hlw (by decide) rfl rfl hl.1 (Nat.le_of_ble_eq_true rfl) ⟨by decide, by decide⟩ ⟨Nat.zero_le _, Nat.zero_le _⟩ dX4_readNegated_48 (fun M_50 H locs hp_50 hw => ?_)
              obtain ⟨iM_50, q_51, q_52, p0r_49⟩ := hp_50
              have lM_50_0 : g_44 0 = (tI M_50 2 4).toInt := p0r_49.2.1.1
              have lM_50_1 : g_44 1 = (tI M_50 2 6).toInt := p0r_49.2.1.2.1
              have lM_50_4 : g_44 4 = (tI M_50 1 4).toInt := p0r_49.2.2.1.1
              have lM_50_7 : g_44 7 = (tI M_50 t 4).toInt := p0r_49.2.2.2.1.1
              have lM_50_8 : g_44 8 = (tI M_50 t 5).toInt := p0r_49.2.2.2.1.2.1
              obtain ⟨x_53, ex_53⟩ : ∃ z : Int32, z = x_34 + 1 := ⟨_, rfl⟩
              have tx_53 : x_53.toInt = x_34.toInt + 1 := i_add ex_53 rfl (by decide) (by omega) (by omega)
              refine lv_iinc (v := x_53) (lv' := [(3, .int x_53), (2, .int x_1), (0, .ref (A 1 0)), (1, .int 5)]) hx hb dX4_readNegated_51 hl (k := 0) rfl (by rw [ex_53]; rfl) (by decide) rfl (fun ls hl => ?_)
              refine lv_goto (tgt := 37) hx hb dX4_readNegated_54 (by decide) ?_
              exact ih_47 x_53 M_50 g_44 _ _ _ (by omega) (by first | omega | decide) (by first | omega | decide) iM_50 ((q_51).trans f_38) (f0.trans (f0_x q_52) f_39) (((q_52 1).2.1).trans f_40) (ot.trans (ot_fx ht q_52) f_41) ((tT_fr q_51).trans f_42) ((tT_fr q_51).trans f_43) p0r_49 j_46 hw (lv_sub hl [0, 1, 2, 3] rfl)
        exact hl_37_46 ((65 - 0 : Int).toNat + 1) 0 M_28 g_33 _ _ _ (Nat.lt_succ_self _) (by have lt0 : (0 : Int32).toInt = 0 := (by decide); first | omega | decide) (by have lt0 : (0 : Int32).toInt = 0 := (by decide); first | omega | decide) iM_28 ((q_29).trans f_5) (f0.trans q_30 f_6) ((q_31).trans f_7) (ot.trans q_32 f_8) ((tT_fr q_29).trans f_9) ((tT_fr q_29).trans f_10) p0r_27 rfl hw (lv_sub hl [0, 1, 2, 3] rfl)
      refine sb_icmp_gt (tgt := 30) hx hb rfl (by decide : (64 : Int32).toInt = 64) dX4_readNegated_5 (by decide) (fun c_5_14 => ?_) (fun c_5_14 => ?_)
      · exact hj_30_26  _ _ _ (by rw [j_13, lp_end (P := pp_qN) (f := 65 - x_1.toInt.toNat) (s := g_11) (Or.inl (by omega))]) hw (lv_sub hl [0, 1, 2] rfl)
      · refine lv_aload_n hx hb dX4_readNegated_8 rfl (lv_at hl 1 rfl) ?_
        refine ti_get (ci := 4) (k := 0) (N := 6) (T := TX4) (v := .ref (A 2 0)) C hw iw_4 rfl ob_1 (by decide) (by decide) fl_X4_12 rfl rfl dX4_readNegated_9 ?_
        refine ti_get (ci := 7) (k := 4) (N := 7) (T := TX7) C hw iw_7 rfl ob_2 (by decide) (by decide) fl_X4_41 rfl rfl dX4_readNegated_12 ?_
        refine lv_topi (fun x_16 ex_16 => ?_)
        have bx_16 : 0 ≤ x_16.toInt ∧ x_16.toInt ≤ 41 := cI_rd iM_4 ob_2.1 ex_16
        have ux_16 : (tI M_4 2 4).toInt = x_16.toInt := by rw [ex_16]
        refine lv_bipush (v := 24) hx hb dX4_readNegated_15 (by decide) ?_
        refine sb_icmp_ne (tgt := 30) hx hb rfl (by decide : (24 : Int32).toInt = 24) dX4_readNegated_17 (by decide) (fun c_17_16 => ?_) (fun c_17_16 => ?_)
        · exact hj_30_26  _ _ _ (by rw [j_13, lp_end (P := pp_qN) (f := 65 - x_1.toInt.toNat) (s := g_11) (Or.inr (decide_eq_false (by omega)))]) hw (lv_sub hl [0, 1, 2] rfl)
        · refine lv_aload_n hx hb dX4_readNegated_20 rfl (lv_at hl 1 rfl) ?_
          refine ti_callVvE (ci := 4) (av := []) C hE hw (x_X4_knot l D A cy hJ M_4 iM_4 t ht (f_9) B n g_11 hs_12) ⟨ml_X4_167, ym_X4_knot, yv_X4_knot, yi_X4_knot, yc_X4_knot⟩ yd_X4_knot ob_1 (by decide) rfl rfl hl.1 (Nat.le_of_ble_eq_true rfl) ⟨by decide, by decide⟩ ⟨Nat.zero_le _, Nat.zero_le _⟩ dX4_readNegated_21 (fun M_19 H locs hp_19 hw => ?_)
          obtain ⟨iM_19, q_20, q_21, q_22, q_23, p0r_18⟩ := hp_19
          obtain ⟨g_24, eg_24⟩ : ∃ z : Nat → Int, z = pp_kn B n g_11 := ⟨_, rfl⟩
          rw [← eg_24] at p0r_18
          have lg_24_0 : g_24 0 = (tI M_19 2 4).toInt := p0r_18.2.1.1
          have lg_24_1 : g_24 1 = (tI M_19 2 6).toInt := p0r_18.2.1.2.1
          have lg_24_4 : g_24 4 = (tI M_19 1 4).toInt := p0r_18.2.2.1.1
          have lg_24_7 : g_24 7 = (tI M_19 t 4).toInt := p0r_18.2.2.2.1.1
          have lg_24_8 : g_24 8 = (tI M_19 t 5).toInt := p0r_18.2.2.2.1.2.1
          obtain ⟨x_25, ex_25⟩ : ∃ z : Int32, z = x_1 + 1 := ⟨_, rfl⟩
          have tx_25 : x_25.toInt = x_1.toInt + 1 := i_add ex_25 rfl (by decide) (by omega) (by omega)
          refine lv_iinc (v := x_25) (lv' := [(2, .int x_25), (0, .ref (A 1 0)), (1, .int 5)]) hx hb dX4_readNegated_24 hl (k := 0) rfl (by rw [ex_25]; rfl) (by decide) rfl (fun ls hl => ?_)
          refine lv_goto (tgt := 2) hx hb dX4_readNegated_27 (by decide) ?_
          exact ih_14 x_25 M_19 g_24 _ _ _ (by omega) (by first | omega | decide) (by first | omega | decide) iM_19 ((q_20).trans f_5) (f0.trans q_21 f_6) ((q_22).trans f_7) (ot.trans q_23 f_8) ((tT_fr q_20).trans f_9) ((tT_fr q_20).trans f_10) p0r_18 (j_13.trans (lp_step (decide_eq_true (by omega)) (by rw [eg_24]) (by omega))) hw (lv_sub hl [0, 1, 2] rfl)
  exact hl_2_13 ((65 - 0 : Int).toNat + 1) 0 M rg _ _ _ (Nat.lt_succ_self _) (by have lt0 : (0 : Int32).toInt = 0 := (by decide); first | omega | decide) (by have lt0 : (0 : Int32).toInt = 0 := (by decide); first | omega | decide) hI rfl f0.refl rfl ot.refl (hT) (hL) hr rfl hw (lv_sub hl [0, 1, 2] rfl)
set_option maxHeartbeats 4000000 in
set_option maxRecDepth 100000 in
theorem x_X4_readBoth_5 (l : Launch) (D : va_G) (A : Nat → Nat → Nat) (cy : Nat → ClassId) (hJ : ti_inj ti_LT A) (M : ti_M) (hI : cI Tc M) (t : Nat) (ht : t = 3 ∨ t = 4) (hT : tT M 1 1 = some t) (lw : Nat) (hlw : ti_ob ti_LT lw 1) (hL : tT M 1 2 = some lw) (B : Nat → Int) (n : Nat) (rg : Nat → Int) (hr : rC B n t rg M) : ti_KvE l yX4_readBoth cX4_readBoth 3 34 ti_LT D A cy M [.ref (A 1 0), .int 5] (fun M2 => cI Tc M2 ∧ M2.2.2.2 = M.2.2.2 ∧ f0 M2 M ∧ tI M2 2 1 = tI M 2 1 ∧ ot t M2 M ∧ rC B n t (pp_bo B n (pp_pt B n 3) rg) M2) := by
  refine ti_eVE yp_X4_readBoth hJ ti_LT_nd (Nat.le_of_ble_eq_true rfl) ?_
  intro p e s m args below meth c Q H0 C hE hQ hw ls hl
  have hx := C.1
  have hb := C.2.1
  have hl : lv_has ls 3 [(0, .ref (A 1 0)), (1, .int 5)] := hl
  have l0 : rg 0 = (tI M 2 4).toInt := hr.2.1.1
  have l1 : rg 1 = (tI M 2 6).toInt := hr.2.1.2.1
  have l2 : rg 2 = (tI M 2 5).toInt := hr.2.1.2.2.1
  have l3 : rg 3 = (tI M 2 3).toInt := hr.2.1.2.2.2
  have l4 : rg 4 = (tI M 1 4).toInt := hr.2.2.1.1
  have l5 : rg 5 = (tI M 1 5).toInt := hr.2.2.1.2.1
  have l7 : rg 7 = (tI M t 4).toInt := hr.2.2.2.1.1
  have l8 : rg 8 = (tI M t 5).toInt := hr.2.2.2.1.2.1
  have l9 : rg 9 = (tI M t 3).toInt := hr.2.2.2.1.2.2
  refine lv_aload_n hx hb dX4_readBoth_0 rfl (lv_at hl 0 rfl) ?_
  refine lv_iload_n hx hb dX4_readBoth_1 rfl (lv_at hl 1 rfl) ?_
  refine ti_callVvE (ci := 4) (av := [.int 5]) C hE hw (x_X4_readNegated_5 l D A cy hJ M hI t ht (hT) lw hlw (hL) B n rg hr) ⟨ml_X4_175, ym_X4_readNegated, yv_X4_readNegated, yi_X4_readNegated, yc_X4_readNegated⟩ yd_X4_readNegated ob_1 (by decide) rfl rfl hl.1 (Nat.le_of_ble_eq_true rfl) ⟨by decide, by decide⟩ ⟨Nat.zero_le _, Nat.zero_le _⟩ dX4_readBoth_2 (fun M_2 H locs hp_2 hw => ?_)
  obtain ⟨iM_2, q_3, q_4, q_5, q_6, p0r_1⟩ := hp_2
  obtain ⟨g_7, eg_7⟩ : ∃ z : Nat → Int, z = pp_ng B n (pp_pt B n 3) rg := ⟨_, rfl⟩
  rw [← eg_7] at p0r_1
  have lg_7_0 : g_7 0 = (tI M_2 2 4).toInt := p0r_1.2.1.1
  have lg_7_1 : g_7 1 = (tI M_2 2 6).toInt := p0r_1.2.1.2.1
  have lg_7_4 : g_7 4 = (tI M_2 1 4).toInt := p0r_1.2.2.1.1
  have lg_7_7 : g_7 7 = (tI M_2 t 4).toInt := p0r_1.2.2.2.1.1
  have lg_7_8 : g_7 8 = (tI M_2 t 5).toInt := p0r_1.2.2.2.1.2.1
  refine lv_iconst (v := 0) hx hb dX4_readBoth_5 (by decide) ?_
  refine lv_istore_n (lv' := [(2, .int 0), (0, .ref (A 1 0)), (1, .int 5)]) hx hb dX4_readBoth_6 rfl hl (by decide) rfl (fun ls hl => ?_)
  have hl_7_20 : ∀ (n_21 : Nat) (x_8 : Int32) (M_11 : ti_M) (g_18 : Nat → Int) (H : Heap) (locs : List Loc) (ls : Array Slot), (64 - x_8.toInt : Int).toNat < n_21 → (0 ≤ x_8.toInt) → (x_8.toInt ≤ 64) → (cI Tc M_11) → (M_11.2.2.2 = M.2.2.2) → (f0 M_11 M) → (tI M_11 2 1 = tI M 2 1) → (ot t M_11 M) → (tT M_11 1 1 = (some t)) → (tT M_11 1 2 = (some lw)) → (rC B n t g_18 M_11) → (pp_lp pp_qA (fun s => pp_ng B n (pp_pt B n 3) (pp_kn B n s)) 64 g_7 = pp_lp pp_qA (fun s => pp_ng B n (pp_pt B n 3) (pp_kn B n s)) (64 - (x_8.toInt).toNat) g_18) → ti_H ti_LT D A cy H0 M_11 H locs → lv_has ls 3 [(2, .int x_8), (0, .ref (A 1 0)), (1, .int 5)] → W p l e (ti_rm 34) s m args below meth c H locs 0 0 Q (F0 m 7 ls []) := by
    intro n_21
    induction n_21 with
    | zero => intro x_8 M_11 g_18 H locs ls hf_21; exact absurd hf_21 (Nat.not_lt_zero _)
    | succ n_21 ih_21 =>
      intro x_8 M_11 g_18 H locs ls hf_21 b_9 b_10 iM_11 f_12 f_13 f_14 f_15 f_16 f_17 hs_19 j_20 hw hl
      have lg_18_0 : g_18 0 = (tI M_11 2 4).toInt := hs_19.2.1.1
      have lg_18_1 : g_18 1 = (tI M_11 2 6).toInt := hs_19.2.1.2.1
      have lg_18_4 : g_18 4 = (tI M_11 1 4).toInt := hs_19.2.2.1.1
      have lg_18_7 : g_18 7 = (tI M_11 t 4).toInt := hs_19.2.2.2.1.1
      have lg_18_8 : g_18 8 = (tI M_11 t 5).toInt := hs_19.2.2.2.1.2.1
      refine lv_iload_n hx hb dX4_readBoth_7 rfl (lv_at hl 0 rfl) ?_
      refine lv_bipush (v := 64) hx hb dX4_readBoth_8 (by decide) ?_
      refine sb_icmp_ge (tgt := 49) hx hb rfl (by decide : (64 : Int32).toInt = 64) dX4_readBoth_10 (by decide) (fun c_10_21 => ?_) (fun c_10_21 => ?_)
      · exact hQ _ _ _ _ _ hw (⟨iM_11, (f_12), f_13, (f_14), f_15, (by unfold pp_bo; rw [← eg_7, j_20, lp_end (P := pp_qA) (f := 64 - x_8.toInt.toNat) (s := g_18) (Or.inl (by omega))]; exact hs_19)⟩) dX4_readBoth_49
      · refine lv_aload_n hx hb dX4_readBoth_13 rfl (lv_at hl 1 rfl) ?_
        refine ti_get (ci := 4) (k := 0) (N := 6) (T := TX4) (v := .ref (A 2 0)) C hw iw_4 rfl ob_1 (by decide) (by decide) fl_X4_12 rfl rfl dX4_readBoth_14 ?_
        refine ti_get (ci := 7) (k := 4) (N := 7) (T := TX7) C hw iw_7 rfl ob_2 (by decide) (by decide) fl_X4_41 rfl rfl dX4_readBoth_17 ?_
        refine lv_topi (fun x_23 ex_23 => ?_)
        have bx_23 : 0 ≤ x_23.toInt ∧ x_23.toInt ≤ 41 := cI_rd iM_11 ob_2.1 ex_23
        have ux_23 : (tI M_11 2 4).toInt = x_23.toInt := by rw [ex_23]
        refine lv_bipush (v := 22) hx hb dX4_readBoth_20 (by decide) ?_
        refine sb_icmp_ne (tgt := 49) hx hb rfl (by decide : (22 : Int32).toInt = 22) dX4_readBoth_22 (by decide) (fun c_22_23 => ?_) (fun c_22_23 => ?_)
        · exact hQ _ _ _ _ _ hw (⟨iM_11, (f_12), f_13, (f_14), f_15, (by unfold pp_bo; rw [← eg_7, j_20, lp_end (P := pp_qA) (f := 64 - x_8.toInt.toNat) (s := g_18) (Or.inr (decide_eq_false (by omega)))]; exact hs_19)⟩) dX4_readBoth_49
        · refine lv_aload_n hx hb dX4_readBoth_25 rfl (lv_at hl 1 rfl) ?_
          refine ti_callVvE (ci := 4) (av := []) C hE hw (x_X4_knot l D A cy hJ M_11 iM_11 t ht (f_16) B n g_18 hs_19) ⟨ml_X4_167, ym_X4_knot, yv_X4_knot, yi_X4_knot, yc_X4_knot⟩ yd_X4_knot ob_1 (by decide) rfl rfl hl.1 (Nat.le_of_ble_eq_true rfl) ⟨by decide, by decide⟩ ⟨Nat.zero_le _, Nat.zero_le _⟩ dX4_readBoth_26 (fun M_26 H locs hp_26 hw => ?_)
          obtain ⟨iM_26, q_27, q_28, q_29, q_30, p0r_25⟩ := hp_26
          obtain ⟨g_31, eg_31⟩ : ∃ z : Nat → Int, z = pp_kn B n g_18 := ⟨_, rfl⟩
          rw [← eg_31] at p0r_25
          have lg_31_0 : g_31 0 = (tI M_26 2 4).toInt := p0r_25.2.1.1
          have lg_31_1 : g_31 1 = (tI M_26 2 6).toInt := p0r_25.2.1.2.1
          have lg_31_4 : g_31 4 = (tI M_26 1 4).toInt := p0r_25.2.2.1.1
          have lg_31_7 : g_31 7 = (tI M_26 t 4).toInt := p0r_25.2.2.2.1.1
          have lg_31_8 : g_31 8 = (tI M_26 t 5).toInt := p0r_25.2.2.2.1.2.1
          refine lv_aload_n hx hb dX4_readBoth_29 rfl (lv_at hl 1 rfl) ?_
          refine lv_iload_n hx hb dX4_readBoth_30 rfl (lv_at hl 2 rfl) ?_
          refine ti_callVvE (ci := 4) (av := [.int 5]) C hE hw (x_X4_readNegated_5 l D A cy hJ M_26 iM_26 t ht ((tT_fr q_27).trans f_16) lw hlw ((tT_fr q_27).trans f_17) B n g_31 p0r_25) ⟨ml_X4_175, ym_X4_readNegated, yv_X4_readNegated, yi_X4_readNegated, yc_X4_readNegated⟩ yd_X4_readNegated ob_1 (by decide) rfl rfl hl.1 (Nat.le_of_ble_eq_true rfl) ⟨by decide, by decide⟩ ⟨Nat.zero_le _, Nat.zero_le _⟩ dX4_readBoth_31 (fun M_33 H locs hp_33 hw => ?_)
          obtain ⟨iM_33, q_34, q_35, q_36, q_37, p0r_32⟩ := hp_33
          obtain ⟨g_38, eg_38⟩ : ∃ z : Nat → Int, z = pp_ng B n (pp_pt B n 3) g_31 := ⟨_, rfl⟩
          rw [← eg_38] at p0r_32
          have lg_38_0 : g_38 0 = (tI M_33 2 4).toInt := p0r_32.2.1.1
          have lg_38_1 : g_38 1 = (tI M_33 2 6).toInt := p0r_32.2.1.2.1
          have lg_38_4 : g_38 4 = (tI M_33 1 4).toInt := p0r_32.2.2.1.1
          have lg_38_7 : g_38 7 = (tI M_33 t 4).toInt := p0r_32.2.2.2.1.1
          have lg_38_8 : g_38 8 = (tI M_33 t 5).toInt := p0r_32.2.2.2.1.2.1
          refine lv_aload_n hx hb dX4_readBoth_34 rfl (lv_at hl 1 rfl) ?_
          refine ti_get (ci := 4) (k := 2) (N := 6) (T := TX4) (v := .ref (A lw 0)) C hw iw_4 rfl ob_1 (by decide) (by decide) fl_X4_154 rfl (ti_Tv ((tT_fr q_34).trans ((tT_fr q_27).trans f_17))) dX4_readBoth_35 ?_
          refine lv_bipush (v := (-22)) hx hb dX4_readBoth_38 (by decide) ?_
          refine ti_callVv (ci := 1) (av := [.int (-22)]) C hw (x_X1_add l D A cy hJ M_33 iM_33 lw hlw (-22) (by first | omega | exact Or.inl (by decide) | exact Or.inr (by decide)) t ht B n g_38 p0r_32) ⟨ml_X4_170, ym_X1_add, yv_X1_add, yi_X1_add, yc_X1_add⟩ yd_X1_add hlw (by decide) rfl rfl hl.1 (Nat.le_of_ble_eq_true rfl) ⟨by decide, by decide⟩ ⟨Nat.zero_le _, Nat.zero_le _⟩ dX4_readBoth_40 (fun M_40 H locs hp_40 hw => ?_)
          obtain ⟨iM_40, q_41, q_42, p0r_39⟩ := hp_40
          have lM_40_0 : g_38 0 = (tI M_40 2 4).toInt := p0r_39.2.1.1
          have lM_40_1 : g_38 1 = (tI M_40 2 6).toInt := p0r_39.2.1.2.1
          have lM_40_4 : g_38 4 = (tI M_40 1 4).toInt := p0r_39.2.2.1.1
          have lM_40_7 : g_38 7 = (tI M_40 t 4).toInt := p0r_39.2.2.2.1.1
          have lM_40_8 : g_38 8 = (tI M_40 t 5).toInt := p0r_39.2.2.2.1.2.1
          obtain ⟨x_43, ex_43⟩ : ∃ z : Int32, z = x_8 + 1 := ⟨_, rfl⟩
          have tx_43 : x_43.toInt = x_8.toInt + 1 := i_add ex_43 rfl (by decide) (by omega) (by omega)
          refine lv_iinc (v := x_43) (lv' := [(2, .int x_43), (0, .ref (A 1 0)), (1, .int 5)]) hx hb dX4_readBoth_43 hl (k := 0) rfl (by rw [ex_43]; rfl) (by decide) rfl (fun ls hl => ?_)
          refine lv_goto (tgt := 7) hx hb dX4_readBoth_46 (by decide) ?_
          exact ih_21 x_43 M_40 g_38 _ _ _ (by omega) (by first | omega | decide) (by first | omega | decide) iM_40 ((q_41).trans ((q_34).trans ((q_27).trans f_12))) (f0.trans (f0_x q_42) (f0.trans q_35 (f0.trans q_28 f_13))) (((q_42 1).2.1).trans ((q_36).trans ((q_29).trans f_14))) (ot.trans (ot_fx ht q_42) (ot.trans q_37 (ot.trans q_30 f_15))) ((tT_fr q_41).trans ((tT_fr q_34).trans ((tT_fr q_27).trans f_16))) ((tT_fr q_41).trans ((tT_fr q_34).trans ((tT_fr q_27).trans f_17))) p0r_39 (j_20.trans (lp_step (decide_eq_true (by omega)) (by rw [eg_38, eg_31]) (by omega))) hw (lv_sub hl [0, 1, 2] rfl)
  exact hl_7_20 ((64 - 0 : Int).toNat + 1) 0 M_2 g_7 _ _ _ (Nat.lt_succ_self _) (by have lt0 : (0 : Int32).toInt = 0 := (by decide); first | omega | decide) (by have lt0 : (0 : Int32).toInt = 0 := (by decide); first | omega | decide) iM_2 (q_3) q_4 (q_5) q_6 ((tT_fr q_3).trans hT) ((tT_fr q_3).trans hL) p0r_1 rfl hw (lv_sub hl [0, 1, 2] rfl)
set_option maxHeartbeats 4000000 in
set_option maxRecDepth 100000 in
theorem x_X4_readEither_5 (l : Launch) (D : va_G) (A : Nat → Nat → Nat) (cy : Nat → ClassId) (hJ : ti_inj ti_LT A) (M : ti_M) (hI : cI Tc M) (t : Nat) (ht : t = 3 ∨ t = 4) (hT : tT M 1 1 = some t) (lw : Nat) (hlw : ti_ob ti_LT lw 1) (hL : tT M 1 2 = some lw) (B : Nat → Int) (n : Nat) (rg : Nat → Int) (hr : rC B n t rg M) : ti_KvE l yX4_readEither cX4_readEither 3 35 ti_LT D A cy M [.ref (A 1 0), .int 5] (fun M2 => cI Tc M2 ∧ M2.2.2.2 = M.2.2.2 ∧ f0 M2 M ∧ tI M2 2 1 = tI M 2 1 ∧ ot t M2 M ∧ rC B n t (pp_ei B n (pp_pt B n 3) rg) M2) := by
  refine ti_eVE yp_X4_readEither hJ ti_LT_nd (Nat.le_of_ble_eq_true rfl) ?_
  intro p e s m args below meth c Q H0 C hE hQ hw ls hl
  have hx := C.1
  have hb := C.2.1
  have hl : lv_has ls 3 [(0, .ref (A 1 0)), (1, .int 5)] := hl
  have l0 : rg 0 = (tI M 2 4).toInt := hr.2.1.1
  have l1 : rg 1 = (tI M 2 6).toInt := hr.2.1.2.1
  have l2 : rg 2 = (tI M 2 5).toInt := hr.2.1.2.2.1
  have l3 : rg 3 = (tI M 2 3).toInt := hr.2.1.2.2.2
  have l4 : rg 4 = (tI M 1 4).toInt := hr.2.2.1.1
  have l5 : rg 5 = (tI M 1 5).toInt := hr.2.2.1.2.1
  have l7 : rg 7 = (tI M t 4).toInt := hr.2.2.2.1.1
  have l8 : rg 8 = (tI M t 5).toInt := hr.2.2.2.1.2.1
  have l9 : rg 9 = (tI M t 3).toInt := hr.2.2.2.1.2.2
  refine lv_aload_n hx hb dX4_readEither_0 rfl (lv_at hl 0 rfl) ?_
  refine lv_iload_n hx hb dX4_readEither_1 rfl (lv_at hl 1 rfl) ?_
  refine ti_callVvE (ci := 4) (av := [.int 5]) C hE hw (x_X4_readBoth_5 l D A cy hJ M hI t ht (hT) lw hlw (hL) B n rg hr) ⟨ml_X4_164, ym_X4_readBoth, yv_X4_readBoth, yi_X4_readBoth, yc_X4_readBoth⟩ yd_X4_readBoth ob_1 (by decide) rfl rfl hl.1 (Nat.le_of_ble_eq_true rfl) ⟨by decide, by decide⟩ ⟨Nat.zero_le _, Nat.zero_le _⟩ dX4_readEither_2 (fun M_2 H locs hp_2 hw => ?_)
  obtain ⟨iM_2, q_3, q_4, q_5, q_6, p0r_1⟩ := hp_2
  obtain ⟨g_7, eg_7⟩ : ∃ z : Nat → Int, z = pp_bo B n (pp_pt B n 3) rg := ⟨_, rfl⟩
  rw [← eg_7] at p0r_1
  have lg_7_0 : g_7 0 = (tI M_2 2 4).toInt := p0r_1.2.1.1
  have lg_7_1 : g_7 1 = (tI M_2 2 6).toInt := p0r_1.2.1.2.1
  have lg_7_4 : g_7 4 = (tI M_2 1 4).toInt := p0r_1.2.2.1.1
  have lg_7_7 : g_7 7 = (tI M_2 t 4).toInt := p0r_1.2.2.2.1.1
  have lg_7_8 : g_7 8 = (tI M_2 t 5).toInt := p0r_1.2.2.2.1.2.1
  refine lv_iconst (v := 0) hx hb dX4_readEither_5 (by decide) ?_
  refine lv_istore_n (lv' := [(2, .int 0), (0, .ref (A 1 0)), (1, .int 5)]) hx hb dX4_readEither_6 rfl hl (by decide) rfl (fun ls hl => ?_)
  have hl_7_20 : ∀ (n_21 : Nat) (x_8 : Int32) (M_11 : ti_M) (g_18 : Nat → Int) (H : Heap) (locs : List Loc) (ls : Array Slot), (64 - x_8.toInt : Int).toNat < n_21 → (0 ≤ x_8.toInt) → (x_8.toInt ≤ 64) → (cI Tc M_11) → (M_11.2.2.2 = M.2.2.2) → (f0 M_11 M) → (tI M_11 2 1 = tI M 2 1) → (ot t M_11 M) → (tT M_11 1 1 = (some t)) → (tT M_11 1 2 = (some lw)) → (rC B n t g_18 M_11) → (pp_lp pp_qO (fun s => pp_bo B n (pp_pt B n 3) (pp_kn B n s)) 64 g_7 = pp_lp pp_qO (fun s => pp_bo B n (pp_pt B n 3) (pp_kn B n s)) (64 - (x_8.toInt).toNat) g_18) → ti_H ti_LT D A cy H0 M_11 H locs → lv_has ls 3 [(2, .int x_8), (0, .ref (A 1 0)), (1, .int 5)] → W p l e (ti_rm 35) s m args below meth c H locs 0 0 Q (F0 m 7 ls []) := by
    intro n_21
    induction n_21 with
    | zero => intro x_8 M_11 g_18 H locs ls hf_21; exact absurd hf_21 (Nat.not_lt_zero _)
    | succ n_21 ih_21 =>
      intro x_8 M_11 g_18 H locs ls hf_21 b_9 b_10 iM_11 f_12 f_13 f_14 f_15 f_16 f_17 hs_19 j_20 hw hl
      have lg_18_0 : g_18 0 = (tI M_11 2 4).toInt := hs_19.2.1.1
      have lg_18_1 : g_18 1 = (tI M_11 2 6).toInt := hs_19.2.1.2.1
      have lg_18_4 : g_18 4 = (tI M_11 1 4).toInt := hs_19.2.2.1.1
      have lg_18_7 : g_18 7 = (tI M_11 t 4).toInt := hs_19.2.2.2.1.1
      have lg_18_8 : g_18 8 = (tI M_11 t 5).toInt := hs_19.2.2.2.1.2.1
      refine lv_iload_n hx hb dX4_readEither_7 rfl (lv_at hl 0 rfl) ?_
      refine lv_bipush (v := 64) hx hb dX4_readEither_8 (by decide) ?_
      refine sb_icmp_ge (tgt := 49) hx hb rfl (by decide : (64 : Int32).toInt = 64) dX4_readEither_10 (by decide) (fun c_10_21 => ?_) (fun c_10_21 => ?_)
      · exact hQ _ _ _ _ _ hw (⟨iM_11, (f_12), f_13, (f_14), f_15, (by unfold pp_ei; rw [← eg_7, j_20, lp_end (P := pp_qO) (f := 64 - x_8.toInt.toNat) (s := g_18) (Or.inl (by omega))]; exact hs_19)⟩) dX4_readEither_49
      · refine lv_aload_n hx hb dX4_readEither_13 rfl (lv_at hl 1 rfl) ?_
        refine ti_get (ci := 4) (k := 0) (N := 6) (T := TX4) (v := .ref (A 2 0)) C hw iw_4 rfl ob_1 (by decide) (by decide) fl_X4_12 rfl rfl dX4_readEither_14 ?_
        refine ti_get (ci := 7) (k := 4) (N := 7) (T := TX7) C hw iw_7 rfl ob_2 (by decide) (by decide) fl_X4_41 rfl rfl dX4_readEither_17 ?_
        refine lv_topi (fun x_23 ex_23 => ?_)
        have bx_23 : 0 ≤ x_23.toInt ∧ x_23.toInt ≤ 41 := cI_rd iM_11 ob_2.1 ex_23
        have ux_23 : (tI M_11 2 4).toInt = x_23.toInt := by rw [ex_23]
        refine lv_bipush (v := 23) hx hb dX4_readEither_20 (by decide) ?_
        refine sb_icmp_ne (tgt := 49) hx hb rfl (by decide : (23 : Int32).toInt = 23) dX4_readEither_22 (by decide) (fun c_22_23 => ?_) (fun c_22_23 => ?_)
        · exact hQ _ _ _ _ _ hw (⟨iM_11, (f_12), f_13, (f_14), f_15, (by unfold pp_ei; rw [← eg_7, j_20, lp_end (P := pp_qO) (f := 64 - x_8.toInt.toNat) (s := g_18) (Or.inr (decide_eq_false (by omega)))]; exact hs_19)⟩) dX4_readEither_49
        · refine lv_aload_n hx hb dX4_readEither_25 rfl (lv_at hl 1 rfl) ?_
          refine ti_callVvE (ci := 4) (av := []) C hE hw (x_X4_knot l D A cy hJ M_11 iM_11 t ht (f_16) B n g_18 hs_19) ⟨ml_X4_167, ym_X4_knot, yv_X4_knot, yi_X4_knot, yc_X4_knot⟩ yd_X4_knot ob_1 (by decide) rfl rfl hl.1 (Nat.le_of_ble_eq_true rfl) ⟨by decide, by decide⟩ ⟨Nat.zero_le _, Nat.zero_le _⟩ dX4_readEither_26 (fun M_26 H locs hp_26 hw => ?_)
          obtain ⟨iM_26, q_27, q_28, q_29, q_30, p0r_25⟩ := hp_26
          obtain ⟨g_31, eg_31⟩ : ∃ z : Nat → Int, z = pp_kn B n g_18 := ⟨_, rfl⟩
          rw [← eg_31] at p0r_25
          have lg_31_0 : g_31 0 = (tI M_26 2 4).toInt := p0r_25.2.1.1
          have lg_31_1 : g_31 1 = (tI M_26 2 6).toInt := p0r_25.2.1.2.1
          have lg_31_4 : g_31 4 = (tI M_26 1 4).toInt := p0r_25.2.2.1.1
          have lg_31_7 : g_31 7 = (tI M_26 t 4).toInt := p0r_25.2.2.2.1.1
          have lg_31_8 : g_31 8 = (tI M_26 t 5).toInt := p0r_25.2.2.2.1.2.1
          refine lv_aload_n hx hb dX4_readEither_29 rfl (lv_at hl 1 rfl) ?_
          refine lv_iload_n hx hb dX4_readEither_30 rfl (lv_at hl 2 rfl) ?_
          refine ti_callVvE (ci := 4) (av := [.int 5]) C hE hw (x_X4_readBoth_5 l D A cy hJ M_26 iM_26 t ht ((tT_fr q_27).trans f_16) lw hlw ((tT_fr q_27).trans f_17) B n g_31 p0r_25) ⟨ml_X4_164, ym_X4_readBoth, yv_X4_readBoth, yi_X4_readBoth, yc_X4_readBoth⟩ yd_X4_readBoth ob_1 (by decide) rfl rfl hl.1 (Nat.le_of_ble_eq_true rfl) ⟨by decide, by decide⟩ ⟨Nat.zero_le _, Nat.zero_le _⟩ dX4_readEither_31 (fun M_33 H locs hp_33 hw => ?_)
          obtain ⟨iM_33, q_34, q_35, q_36, q_37, p0r_32⟩ := hp_33
          obtain ⟨g_38, eg_38⟩ : ∃ z : Nat → Int, z = pp_bo B n (pp_pt B n 3) g_31 := ⟨_, rfl⟩
          rw [← eg_38] at p0r_32
          have lg_38_0 : g_38 0 = (tI M_33 2 4).toInt := p0r_32.2.1.1
          have lg_38_1 : g_38 1 = (tI M_33 2 6).toInt := p0r_32.2.1.2.1
          have lg_38_4 : g_38 4 = (tI M_33 1 4).toInt := p0r_32.2.2.1.1
          have lg_38_7 : g_38 7 = (tI M_33 t 4).toInt := p0r_32.2.2.2.1.1
          have lg_38_8 : g_38 8 = (tI M_33 t 5).toInt := p0r_32.2.2.2.1.2.1
          refine lv_aload_n hx hb dX4_readEither_34 rfl (lv_at hl 1 rfl) ?_
          refine ti_get (ci := 4) (k := 2) (N := 6) (T := TX4) (v := .ref (A lw 0)) C hw iw_4 rfl ob_1 (by decide) (by decide) fl_X4_154 rfl (ti_Tv ((tT_fr q_34).trans ((tT_fr q_27).trans f_17))) dX4_readEither_35 ?_
          refine lv_bipush (v := (-23)) hx hb dX4_readEither_38 (by decide) ?_
          refine ti_callVv (ci := 1) (av := [.int (-23)]) C hw (x_X1_add l D A cy hJ M_33 iM_33 lw hlw (-23) (by first | omega | exact Or.inl (by decide) | exact Or.inr (by decide)) t ht B n g_38 p0r_32) ⟨ml_X4_170, ym_X1_add, yv_X1_add, yi_X1_add, yc_X1_add⟩ yd_X1_add hlw (by decide) rfl rfl hl.1 (Nat.le_of_ble_eq_true rfl) ⟨by decide, by decide⟩ ⟨Nat.zero_le _, Nat.zero_le _⟩ dX4_readEither_40 (fun M_40 H locs hp_40 hw => ?_)
          obtain ⟨iM_40, q_41, q_42, p0r_39⟩ := hp_40
          have lM_40_0 : g_38 0 = (tI M_40 2 4).toInt := p0r_39.2.1.1
          have lM_40_1 : g_38 1 = (tI M_40 2 6).toInt := p0r_39.2.1.2.1
          have lM_40_4 : g_38 4 = (tI M_40 1 4).toInt := p0r_39.2.2.1.1
          have lM_40_7 : g_38 7 = (tI M_40 t 4).toInt := p0r_39.2.2.2.1.1
          have lM_40_8 : g_38 8 = (tI M_40 t 5).toInt := p0r_39.2.2.2.1.2.1
          obtain ⟨x_43, ex_43⟩ : ∃ z : Int32, z = x_8 + 1 := ⟨_, rfl⟩
          have tx_43 : x_43.toInt = x_8.toInt + 1 := i_add ex_43 rfl (by decide) (by omega) (by omega)
          refine lv_iinc (v := x_43) (lv' := [(2, .int x_43), (0, .ref (A 1 0)), (1, .int 5)]) hx hb dX4_readEither_43 hl (k := 0) rfl (by rw [ex_43]; rfl) (by decide) rfl (fun ls hl => ?_)
          refine lv_goto (tgt := 7) hx hb dX4_readEither_46 (by decide) ?_
          exact ih_21 x_43 M_40 g_38 _ _ _ (by omega) (by first | omega | decide) (by first | omega | decide) iM_40 ((q_41).trans ((q_34).trans ((q_27).trans f_12))) (f0.trans (f0_x q_42) (f0.trans q_35 (f0.trans q_28 f_13))) (((q_42 1).2.1).trans ((q_36).trans ((q_29).trans f_14))) (ot.trans (ot_fx ht q_42) (ot.trans q_37 (ot.trans q_30 f_15))) ((tT_fr q_41).trans ((tT_fr q_34).trans ((tT_fr q_27).trans f_16))) ((tT_fr q_41).trans ((tT_fr q_34).trans ((tT_fr q_27).trans f_17))) p0r_39 (j_20.trans (lp_step (decide_eq_true (by omega)) (by rw [eg_38, eg_31]) (by omega))) hw (lv_sub hl [0, 1, 2] rfl)
  exact hl_7_20 ((64 - 0 : Int).toNat + 1) 0 M_2 g_7 _ _ _ (Nat.lt_succ_self _) (by have lt0 : (0 : Int32).toInt = 0 := (by decide); first | omega | decide) (by have lt0 : (0 : Int32).toInt = 0 := (by decide); first | omega | decide) iM_2 (q_3) q_4 (q_5) q_6 ((tT_fr q_3).trans hT) ((tT_fr q_3).trans hL) p0r_1 rfl hw (lv_sub hl [0, 1, 2] rfl)
set_option maxHeartbeats 4000000 in
set_option maxRecDepth 100000 in
theorem x_X4_readPart_4 (l : Launch) (D : va_G) (A : Nat → Nat → Nat) (cy : Nat → ClassId) (hJ : ti_inj ti_LT A) (M : ti_M) (hI : cI Tc M) (t : Nat) (ht : t = 3 ∨ t = 4) (hT : tT M 1 1 = some t) (lw : Nat) (hlw : ti_ob ti_LT lw 1) (hL : tT M 1 2 = some lw) (B : Nat → Int) (n : Nat) (rg : Nat → Int) (hr : rC B n t rg M) : ti_KvE l yX4_readPart cX4_readPart 3 36 ti_LT D A cy M [.ref (A 1 0), .int 4] (fun M2 => cI Tc M2 ∧ M2.2.2.2 = M.2.2.2 ∧ f0 M2 M ∧ tI M2 2 1 = tI M 2 1 ∧ ot t M2 M ∧ rC B n t (pp_pt B n 4 rg) M2) := by
  refine ti_eVE yp_X4_readPart hJ ti_LT_nd (Nat.le_of_ble_eq_true rfl) ?_
  intro p e s m args below meth c Q H0 C hE hQ hw ls hl
  have hx := C.1
  have hb := C.2.1
  have hl : lv_has ls 3 [(0, .ref (A 1 0)), (1, .int 4)] := hl
  have l0 : rg 0 = (tI M 2 4).toInt := hr.2.1.1
  have l1 : rg 1 = (tI M 2 6).toInt := hr.2.1.2.1
  have l2 : rg 2 = (tI M 2 5).toInt := hr.2.1.2.2.1
  have l3 : rg 3 = (tI M 2 3).toInt := hr.2.1.2.2.2
  have l4 : rg 4 = (tI M 1 4).toInt := hr.2.2.1.1
  have l5 : rg 5 = (tI M 1 5).toInt := hr.2.2.1.2.1
  have l7 : rg 7 = (tI M t 4).toInt := hr.2.2.2.1.1
  have l8 : rg 8 = (tI M t 5).toInt := hr.2.2.2.1.2.1
  have l9 : rg 9 = (tI M t 3).toInt := hr.2.2.2.1.2.2
  refine lv_aload_n hx hb dX4_readPart_0 rfl (lv_at hl 0 rfl) ?_
  refine ti_get (ci := 4) (k := 0) (N := 6) (T := TX4) (v := .ref (A 2 0)) C hw iw_4 rfl ob_1 (by decide) (by decide) fl_X4_12 rfl rfl dX4_readPart_1 ?_
  refine ti_get (ci := 7) (k := 4) (N := 7) (T := TX7) C hw iw_7 rfl ob_2 (by decide) (by decide) fl_X4_41 rfl rfl dX4_readPart_4 ?_
  refine lv_topi (fun x_1 ex_1 => ?_)
  have bx_1 : 0 ≤ x_1.toInt ∧ x_1.toInt ≤ 41 := cI_rd hI ob_2.1 ex_1
  have ux_1 : (tI M 2 4).toInt = x_1.toInt := by rw [ex_1]
  refine lv_istore_n (lv' := [(2, .int x_1), (0, .ref (A 1 0)), (1, .int 4)]) hx hb dX4_readPart_7 rfl hl (by decide) rfl (fun ls hl => ?_)
  refine lv_iload_n hx hb dX4_readPart_8 rfl (lv_at hl 0 rfl) ?_
  refine lv_bipush (v := 30) hx hb dX4_readPart_9 (by decide) ?_
  refine sb_icmp_ne (tgt := 28) hx hb rfl (by decide : (30 : Int32).toInt = 30) dX4_readPart_11 (by decide) (fun c_11_1 => ?_) (fun c_11_1 => ?_)
  · refine lv_iload_n hx hb dX4_readPart_28 rfl (lv_at hl 0 rfl) ?_
    refine lv_bipush (v := 30) hx hb dX4_readPart_29 (by decide) ?_
    refine sb_icmp_ne (tgt := 57) hx hb rfl (by decide : (30 : Int32).toInt = 30) dX4_readPart_31 (by decide) (fun c_31_3 => ?_) (fun h => by omega)
    refine lv_iload_n hx hb dX4_readPart_57 rfl (lv_at hl 0 rfl) ?_
    refine lv_bipush (v := 26) hx hb dX4_readPart_58 (by decide) ?_
    refine sb_icmp_ne (tgt := 84) hx hb rfl (by decide : (26 : Int32).toInt = 26) dX4_readPart_60 (by decide) (fun c_60_26 => ?_) (fun c_60_26 => ?_)
    · refine lv_iload_n hx hb dX4_readPart_84 rfl (lv_at hl 0 rfl) ?_
      refine lv_bipush (v := 26) hx hb dX4_readPart_85 (by decide) ?_
      refine sb_icmp_ne (tgt := 111) hx hb rfl (by decide : (26 : Int32).toInt = 26) dX4_readPart_87 (by decide) (fun c_87_35 => ?_) (fun h => by omega)
      refine lv_iload_n hx hb dX4_readPart_111 rfl (lv_at hl 0 rfl) ?_
      refine lv_bipush (v := 16) hx hb dX4_readPart_112 (by decide) ?_
      refine sb_icmp_lt (tgt := 139) hx hb rfl (by decide : (16 : Int32).toInt = 16) dX4_readPart_114 (by decide) (fun c_114_49 => ?_) (fun c_114_49 => ?_)
      · refine lv_aload_n hx hb dX4_readPart_139 rfl (lv_at hl 1 rfl) ?_
        refine lv_iconst (v := 1) hx hb dX4_readPart_140 (by decide) ?_
        refine ti_callVv (ci := 4) (av := [.int 1]) C hw (x_X4_refuse l D A cy hJ M hI t ht 1 B n rg hr) ⟨ml_X4_82, ym_X4_refuse, yv_X4_refuse, yi_X4_refuse, yc_X4_refuse⟩ yd_X4_refuse ob_1 (by decide) rfl rfl hl.1 (Nat.le_of_ble_eq_true rfl) ⟨by decide, by decide⟩ ⟨Nat.zero_le _, Nat.zero_le _⟩ dX4_readPart_141 (fun M_65 H locs hp_65 hw => ?_)
        obtain ⟨iM_65, q_66, q_67, q_68, p0r_64⟩ := hp_65
        have hlr_64_1 : (1 : Int32).toInt = 1 := by decide
        simp only [hlr_64_1] at p0r_64
        obtain ⟨g_69, eg_69⟩ : ∃ z : Nat → Int, z = pp_rf 1 rg := ⟨_, rfl⟩
        rw [← eg_69] at p0r_64
        have lg_69_0 : g_69 0 = (tI M_65 2 4).toInt := p0r_64.2.1.1
        have lg_69_1 : g_69 1 = (tI M_65 2 6).toInt := p0r_64.2.1.2.1
        have lg_69_4 : g_69 4 = (tI M_65 1 4).toInt := p0r_64.2.2.1.1
        have lg_69_7 : g_69 7 = (tI M_65 t 4).toInt := p0r_64.2.2.2.1.1
        have lg_69_8 : g_69 8 = (tI M_65 t 5).toInt := p0r_64.2.2.2.1.2.1
        exact hQ _ _ _ _ _ hw (⟨iM_65, (q_66), (f0_12 q_67), (q_68), (ot_12 ht q_67), (by rw [pe_4, if_neg (by omega)]; unfold pp_p0; rw [if_neg (by omega), if_neg (fun q => by omega), ← eg_69]; exact p0r_64)⟩) dX4_readPart_144
      · refine lv_iload_n hx hb dX4_readPart_117 rfl (lv_at hl 0 rfl) ?_
        refine lv_bipush (v := 21) hx hb dX4_readPart_118 (by decide) ?_
        refine sb_icmp_gt (tgt := 139) hx hb rfl (by decide : (21 : Int32).toInt = 21) dX4_readPart_120 (by decide) (fun c_120_50 => ?_) (fun c_120_50 => ?_)
        · refine lv_aload_n hx hb dX4_readPart_139 rfl (lv_at hl 1 rfl) ?_
          refine lv_iconst (v := 1) hx hb dX4_readPart_140 (by decide) ?_
          refine ti_callVv (ci := 4) (av := [.int 1]) C hw (x_X4_refuse l D A cy hJ M hI t ht 1 B n rg hr) ⟨ml_X4_82, ym_X4_refuse, yv_X4_refuse, yi_X4_refuse, yc_X4_refuse⟩ yd_X4_refuse ob_1 (by decide) rfl rfl hl.1 (Nat.le_of_ble_eq_true rfl) ⟨by decide, by decide⟩ ⟨Nat.zero_le _, Nat.zero_le _⟩ dX4_readPart_141 (fun M_71 H locs hp_71 hw => ?_)
          obtain ⟨iM_71, q_72, q_73, q_74, p0r_70⟩ := hp_71
          have hlr_70_1 : (1 : Int32).toInt = 1 := by decide
          simp only [hlr_70_1] at p0r_70
          obtain ⟨g_75, eg_75⟩ : ∃ z : Nat → Int, z = pp_rf 1 rg := ⟨_, rfl⟩
          rw [← eg_75] at p0r_70
          have lg_75_0 : g_75 0 = (tI M_71 2 4).toInt := p0r_70.2.1.1
          have lg_75_1 : g_75 1 = (tI M_71 2 6).toInt := p0r_70.2.1.2.1
          have lg_75_4 : g_75 4 = (tI M_71 1 4).toInt := p0r_70.2.2.1.1
          have lg_75_7 : g_75 7 = (tI M_71 t 4).toInt := p0r_70.2.2.2.1.1
          have lg_75_8 : g_75 8 = (tI M_71 t 5).toInt := p0r_70.2.2.2.1.2.1
          exact hQ _ _ _ _ _ hw (⟨iM_71, (q_72), (f0_12 q_73), (q_74), (ot_12 ht q_73), (by rw [pe_4, if_neg (by omega)]; unfold pp_p0; rw [if_neg (by omega), if_neg (fun q => by omega), ← eg_75]; exact p0r_70)⟩) dX4_readPart_144
        · refine lv_aload_n hx hb dX4_readPart_123 rfl (lv_at hl 1 rfl) ?_
          refine ti_get (ci := 4) (k := 2) (N := 6) (T := TX4) (v := .ref (A lw 0)) C hw iw_4 rfl ob_1 (by decide) (by decide) fl_X4_154 rfl (ti_Tv (hL)) dX4_readPart_124 ?_
          refine lv_iload_n hx hb dX4_readPart_127 rfl (lv_at hl 0 rfl) ?_
          refine lv_ineg hx hb dX4_readPart_128 ?_
          refine lv_topi (fun x_52 ex_52 => ?_)
          have tx_52 : x_52.toInt = -x_1.toInt := i_neg ex_52 rfl (by omega)
          refine ti_callVv (ci := 1) (av := [.int x_52]) C hw (x_X1_add l D A cy hJ M hI lw hlw x_52 (by first | omega | exact Or.inl (by decide) | exact Or.inr (by decide)) t ht B n rg hr) ⟨ml_X4_170, ym_X1_add, yv_X1_add, yi_X1_add, yc_X1_add⟩ yd_X1_add hlw (by decide) rfl rfl hl.1 (Nat.le_of_ble_eq_true rfl) ⟨by decide, by decide⟩ ⟨Nat.zero_le _, Nat.zero_le _⟩ dX4_readPart_129 (fun M_54 H locs hp_54 hw => ?_)
          obtain ⟨iM_54, q_55, q_56, p0r_53⟩ := hp_54
          have lM_54_0 : rg 0 = (tI M_54 2 4).toInt := p0r_53.2.1.1
          have lM_54_1 : rg 1 = (tI M_54 2 6).toInt := p0r_53.2.1.2.1
          have lM_54_4 : rg 4 = (tI M_54 1 4).toInt := p0r_53.2.2.1.1
          have lM_54_7 : rg 7 = (tI M_54 t 4).toInt := p0r_53.2.2.2.1.1
          have lM_54_8 : rg 8 = (tI M_54 t 5).toInt := p0r_53.2.2.2.1.2.1
          refine lv_aload_n hx hb dX4_readPart_132 rfl (lv_at hl 1 rfl) ?_
          refine ti_callVvE (ci := 4) (av := []) C hE hw (x_X4_knot l D A cy hJ M_54 iM_54 t ht ((tT_fr q_55).trans hT) B n rg p0r_53) ⟨ml_X4_167, ym_X4_knot, yv_X4_knot, yi_X4_knot, yc_X4_knot⟩ yd_X4_knot ob_1 (by decide) rfl rfl hl.1 (Nat.le_of_ble_eq_true rfl) ⟨by decide, by decide⟩ ⟨Nat.zero_le _, Nat.zero_le _⟩ dX4_readPart_133 (fun M_58 H locs hp_58 hw => ?_)
          obtain ⟨iM_58, q_59, q_60, q_61, q_62, p0r_57⟩ := hp_58
          obtain ⟨g_63, eg_63⟩ : ∃ z : Nat → Int, z = pp_kn B n rg := ⟨_, rfl⟩
          rw [← eg_63] at p0r_57
          have lg_63_0 : g_63 0 = (tI M_58 2 4).toInt := p0r_57.2.1.1
          have lg_63_1 : g_63 1 = (tI M_58 2 6).toInt := p0r_57.2.1.2.1
          have lg_63_4 : g_63 4 = (tI M_58 1 4).toInt := p0r_57.2.2.1.1
          have lg_63_7 : g_63 7 = (tI M_58 t 4).toInt := p0r_57.2.2.2.1.1
          have lg_63_8 : g_63 8 = (tI M_58 t 5).toInt := p0r_57.2.2.2.1.2.1
          refine lv_goto (tgt := 144) hx hb dX4_readPart_136 (by decide) ?_
          exact hQ _ _ _ _ _ hw (⟨iM_58, ((q_59).trans q_55), (f0.trans q_60 (f0_x q_56)), ((q_61).trans ((q_56 1).2.1)), (ot.trans q_62 (ot_fx ht q_56)), (by rw [pe_4, if_neg (by omega)]; unfold pp_p0; rw [if_neg (by omega), if_pos ⟨by omega, by omega⟩, ← eg_63]; exact p0r_57)⟩) dX4_readPart_144
    · refine lv_aload_n hx hb dX4_readPart_63 rfl (lv_at hl 1 rfl) ?_
      refine ti_get (ci := 4) (k := 0) (N := 6) (T := TX4) (v := .ref (A 2 0)) C hw iw_4 rfl ob_1 (by decide) (by decide) fl_X4_12 rfl rfl dX4_readPart_64 ?_
      refine ti_get (ci := 7) (k := 6) (N := 7) (T := TX7) C hw iw_7 rfl ob_2 (by decide) (by decide) fl_X4_95 rfl rfl dX4_readPart_67 ?_
      refine lv_topi (fun x_28 ex_28 => ?_)
      have bx_28 : 0 ≤ x_28.toInt ∧ x_28.toInt ≤ 2147483647 := cI_rd hI ob_2.1 ex_28
      have ux_28 : (tI M 2 6).toInt = x_28.toInt := by rw [ex_28]
      refine lv_sipush (v := 9999) hx hb dX4_readPart_70 (by decide) ?_
      refine sb_icmp_le (tgt := 84) hx hb rfl (by decide : (9999 : Int32).toInt = 9999) dX4_readPart_73 (by decide) (fun c_73_28 => ?_) (fun c_73_28 => ?_)
      · refine lv_iload_n hx hb dX4_readPart_84 rfl (lv_at hl 0 rfl) ?_
        refine lv_bipush (v := 26) hx hb dX4_readPart_85 (by decide) ?_
        refine sb_icmp_ne (tgt := 111) hx hb rfl (by decide : (26 : Int32).toInt = 26) dX4_readPart_87 (by decide) (fun h => by omega) (fun c_87_36 => ?_)
        refine lv_aload_n hx hb dX4_readPart_90 rfl (lv_at hl 1 rfl) ?_
        refine ti_get (ci := 4) (k := 2) (N := 6) (T := TX4) (v := .ref (A lw 0)) C hw iw_4 rfl ob_1 (by decide) (by decide) fl_X4_154 rfl (ti_Tv (hL)) dX4_readPart_91 ?_
        refine lv_aload_n hx hb dX4_readPart_94 rfl (lv_at hl 1 rfl) ?_
        refine ti_get (ci := 4) (k := 0) (N := 6) (T := TX4) (v := .ref (A 2 0)) C hw iw_4 rfl ob_1 (by decide) (by decide) fl_X4_12 rfl rfl dX4_readPart_95 ?_
        refine ti_get (ci := 7) (k := 6) (N := 7) (T := TX7) C hw iw_7 rfl ob_2 (by decide) (by decide) fl_X4_95 rfl rfl dX4_readPart_98 ?_
        refine ti_top (y := x_28) (ex_28.symm) ?_
        have u_38 : (tI M 2 6).toInt = (x_28 : Int32).toInt := by rw [(ex_28.symm)]
        refine ti_callVv (ci := 1) (av := [.int x_28]) C hw (x_X1_add l D A cy hJ M hI lw hlw x_28 (by first | omega | exact Or.inl (by decide) | exact Or.inr (by decide)) t ht B n rg hr) ⟨ml_X4_170, ym_X1_add, yv_X1_add, yi_X1_add, yc_X1_add⟩ yd_X1_add hlw (by decide) rfl rfl hl.1 (Nat.le_of_ble_eq_true rfl) ⟨by decide, by decide⟩ ⟨Nat.zero_le _, Nat.zero_le _⟩ dX4_readPart_101 (fun M_40 H locs hp_40 hw => ?_)
        obtain ⟨iM_40, q_41, q_42, p0r_39⟩ := hp_40
        have lM_40_0 : rg 0 = (tI M_40 2 4).toInt := p0r_39.2.1.1
        have lM_40_1 : rg 1 = (tI M_40 2 6).toInt := p0r_39.2.1.2.1
        have lM_40_4 : rg 4 = (tI M_40 1 4).toInt := p0r_39.2.2.1.1
        have lM_40_7 : rg 7 = (tI M_40 t 4).toInt := p0r_39.2.2.2.1.1
        have lM_40_8 : rg 8 = (tI M_40 t 5).toInt := p0r_39.2.2.2.1.2.1
        refine lv_aload_n hx hb dX4_readPart_104 rfl (lv_at hl 1 rfl) ?_
        refine ti_callVvE (ci := 4) (av := []) C hE hw (x_X4_knot l D A cy hJ M_40 iM_40 t ht ((tT_fr q_41).trans hT) B n rg p0r_39) ⟨ml_X4_167, ym_X4_knot, yv_X4_knot, yi_X4_knot, yc_X4_knot⟩ yd_X4_knot ob_1 (by decide) rfl rfl hl.1 (Nat.le_of_ble_eq_true rfl) ⟨by decide, by decide⟩ ⟨Nat.zero_le _, Nat.zero_le _⟩ dX4_readPart_105 (fun M_44 H locs hp_44 hw => ?_)
        obtain ⟨iM_44, q_45, q_46, q_47, q_48, p0r_43⟩ := hp_44
        obtain ⟨g_49, eg_49⟩ : ∃ z : Nat → Int, z = pp_kn B n rg := ⟨_, rfl⟩
        rw [← eg_49] at p0r_43
        have lg_49_0 : g_49 0 = (tI M_44 2 4).toInt := p0r_43.2.1.1
        have lg_49_1 : g_49 1 = (tI M_44 2 6).toInt := p0r_43.2.1.2.1
        have lg_49_4 : g_49 4 = (tI M_44 1 4).toInt := p0r_43.2.2.1.1
        have lg_49_7 : g_49 7 = (tI M_44 t 4).toInt := p0r_43.2.2.2.1.1
        have lg_49_8 : g_49 8 = (tI M_44 t 5).toInt := p0r_43.2.2.2.1.2.1
        refine lv_goto (tgt := 144) hx hb dX4_readPart_108 (by decide) ?_
        exact hQ _ _ _ _ _ hw (⟨iM_44, ((q_45).trans q_41), (f0.trans q_46 (f0_x q_42)), ((q_47).trans ((q_42 1).2.1)), (ot.trans q_48 (ot_fx ht q_42)), (by rw [pe_4, if_neg (by omega)]; unfold pp_p0; rw [if_pos (by omega), if_neg (by omega), ← eg_49]; exact p0r_43)⟩) dX4_readPart_144
      · refine lv_aload_n hx hb dX4_readPart_76 rfl (lv_at hl 1 rfl) ?_
        refine lv_iconst (v := 2) hx hb dX4_readPart_77 (by decide) ?_
        refine ti_callVv (ci := 4) (av := [.int 2]) C hw (x_X4_refuse l D A cy hJ M hI t ht 2 B n rg hr) ⟨ml_X4_82, ym_X4_refuse, yv_X4_refuse, yi_X4_refuse, yc_X4_refuse⟩ yd_X4_refuse ob_1 (by decide) rfl rfl hl.1 (Nat.le_of_ble_eq_true rfl) ⟨by decide, by decide⟩ ⟨Nat.zero_le _, Nat.zero_le _⟩ dX4_readPart_78 (fun M_31 H locs hp_31 hw => ?_)
        obtain ⟨iM_31, q_32, q_33, q_34, p0r_30⟩ := hp_31
        have hlr_30_2 : (2 : Int32).toInt = 2 := by decide
        simp only [hlr_30_2] at p0r_30
        obtain ⟨g_35, eg_35⟩ : ∃ z : Nat → Int, z = pp_rf 2 rg := ⟨_, rfl⟩
        rw [← eg_35] at p0r_30
        have lg_35_0 : g_35 0 = (tI M_31 2 4).toInt := p0r_30.2.1.1
        have lg_35_1 : g_35 1 = (tI M_31 2 6).toInt := p0r_30.2.1.2.1
        have lg_35_4 : g_35 4 = (tI M_31 1 4).toInt := p0r_30.2.2.1.1
        have lg_35_7 : g_35 7 = (tI M_31 t 4).toInt := p0r_30.2.2.2.1.1
        have lg_35_8 : g_35 8 = (tI M_31 t 5).toInt := p0r_30.2.2.2.1.2.1
        refine lv_goto (tgt := 144) hx hb dX4_readPart_81 (by decide) ?_
        exact hQ _ _ _ _ _ hw (⟨iM_31, (q_32), (f0_12 q_33), (q_34), (ot_12 ht q_33), (by rw [pe_4, if_neg (by omega)]; unfold pp_p0; rw [if_pos (by omega), if_pos (by omega), ← eg_35]; exact p0r_30)⟩) dX4_readPart_144
  · refine lv_iload_n hx hb dX4_readPart_14 rfl (lv_at hl 2 rfl) ?_
    refine lv_bipush (v := 8) hx hb dX4_readPart_15 (by decide) ?_
    refine sb_icmp_lt (tgt := 28) hx hb (by decide : (4 : Int32).toInt = 4) (by decide : (8 : Int32).toInt = 8) dX4_readPart_17 (by decide) (fun c_17_2 => ?_) (fun h => absurd h (by decide))
    refine lv_iload_n hx hb dX4_readPart_28 rfl (lv_at hl 0 rfl) ?_
    refine lv_bipush (v := 30) hx hb dX4_readPart_29 (by decide) ?_
    refine sb_icmp_ne (tgt := 57) hx hb rfl (by decide : (30 : Int32).toInt = 30) dX4_readPart_31 (by decide) (fun h => by omega) (fun c_31_4 => ?_)
    refine lv_aload_n hx hb dX4_readPart_34 rfl (lv_at hl 1 rfl) ?_
    refine ti_get (ci := 4) (k := 0) (N := 6) (T := TX4) (v := .ref (A 2 0)) C hw iw_4 rfl ob_1 (by decide) (by decide) fl_X4_12 rfl rfl dX4_readPart_35 ?_
    refine ti_callVvE (ci := 7) (av := []) C hE hw (x_X7_advance l D A cy hJ M hI ) ⟨ml_X4_92, ym_X7_advance, yv_X7_advance, yi_X7_advance, yc_X7_advance⟩ yd_X7_advance ob_2 (by decide) rfl rfl hl.1 (Nat.le_of_ble_eq_true rfl) ⟨by decide, by decide⟩ ⟨Nat.zero_le _, Nat.zero_le _⟩ dX4_readPart_38 (fun M_7 H locs hp_7 hw => ?_)
    obtain ⟨iM_7, q_8, q_9, q_10, q_11, p0r_6, p1r_6, p2r_6, p3r_6⟩ := hp_7
    have hs_12 := rC_av ht hr q_11 q_9 p0r_6 p1r_6 p2r_6 p3r_6
    obtain ⟨g_13, eg_13⟩ : ∃ z : Nat → Int, z = pp_av B n rg := ⟨_, rfl⟩
    rw [← eg_13] at hs_12
    have lg_13_0 : g_13 0 = (tI M_7 2 4).toInt := hs_12.2.1.1
    have lg_13_1 : g_13 1 = (tI M_7 2 6).toInt := hs_12.2.1.2.1
    have lg_13_4 : g_13 4 = (tI M_7 1 4).toInt := hs_12.2.2.1.1
    have lg_13_7 : g_13 7 = (tI M_7 t 4).toInt := hs_12.2.2.2.1.1
    have lg_13_8 : g_13 8 = (tI M_7 t 5).toInt := hs_12.2.2.2.1.2.1
    refine lv_aload_n hx hb dX4_readPart_41 rfl (lv_at hl 1 rfl) ?_
    refine lv_iload_n hx hb dX4_readPart_42 rfl (lv_at hl 2 rfl) ?_
    refine lv_iconst (v := 1) hx hb dX4_readPart_43 (by decide) ?_
    refine lv_iadd hx hb dX4_readPart_44 ?_
    refine ti_top (y := 5) (by decide) ?_
    refine ti_callVvE (ci := 4) (av := [.int 5]) C hE hw (x_X4_readEither_5 l D A cy hJ M_7 iM_7 t ht ((tT_fr q_8).trans hT) lw hlw ((tT_fr q_8).trans hL) B n g_13 hs_12) ⟨ml_X4_158, ym_X4_readEither, yv_X4_readEither, yi_X4_readEither, yc_X4_readEither⟩ yd_X4_readEither ob_1 (by decide) rfl rfl hl.1 (Nat.le_of_ble_eq_true rfl) ⟨by decide, by decide⟩ ⟨Nat.zero_le _, Nat.zero_le _⟩ dX4_readPart_45 (fun M_15 H locs hp_15 hw => ?_)
    obtain ⟨iM_15, q_16, q_17, q_18, q_19, p0r_14⟩ := hp_15
    obtain ⟨g_20, eg_20⟩ : ∃ z : Nat → Int, z = pp_ei B n (pp_pt B n 3) g_13 := ⟨_, rfl⟩
    rw [← eg_20] at p0r_14
    have lg_20_0 : g_20 0 = (tI M_15 2 4).toInt := p0r_14.2.1.1
    have lg_20_1 : g_20 1 = (tI M_15 2 6).toInt := p0r_14.2.1.2.1
    have lg_20_4 : g_20 4 = (tI M_15 1 4).toInt := p0r_14.2.2.1.1
    have lg_20_7 : g_20 7 = (tI M_15 t 4).toInt := p0r_14.2.2.2.1.1
    have lg_20_8 : g_20 8 = (tI M_15 t 5).toInt := p0r_14.2.2.2.1.2.1
    refine lv_aload_n hx hb dX4_readPart_48 rfl (lv_at hl 1 rfl) ?_
    refine lv_bipush (v := 31) hx hb dX4_readPart_49 (by decide) ?_
    refine ti_callVvE (ci := 4) (av := [.int 31]) C hE hw (x_X4_take l D A cy hJ M_15 iM_15 t ht 31 B n g_20 p0r_14) ⟨ml_X4_85, ym_X4_take, yv_X4_take, yi_X4_take, yc_X4_take⟩ yd_X4_take ob_1 (by decide) rfl rfl hl.1 (Nat.le_of_ble_eq_true rfl) ⟨by decide, by decide⟩ ⟨Nat.zero_le _, Nat.zero_le _⟩ dX4_readPart_51 (fun M_22 H locs hp_22 hw => ?_)
    obtain ⟨iM_22, q_23, q_24, q_25, p0r_21⟩ := hp_22
    have hlr_21_31 : (31 : Int32).toInt = 31 := by decide
    simp only [hlr_21_31] at p0r_21
    obtain ⟨g_26, eg_26⟩ : ∃ z : Nat → Int, z = pp_tk B n 31 g_20 := ⟨_, rfl⟩
    rw [← eg_26] at p0r_21
    have lg_26_0 : g_26 0 = (tI M_22 2 4).toInt := p0r_21.2.1.1
    have lg_26_1 : g_26 1 = (tI M_22 2 6).toInt := p0r_21.2.1.2.1
    have lg_26_4 : g_26 4 = (tI M_22 1 4).toInt := p0r_21.2.2.1.1
    have lg_26_7 : g_26 7 = (tI M_22 t 4).toInt := p0r_21.2.2.2.1.1
    have lg_26_8 : g_26 8 = (tI M_22 t 5).toInt := p0r_21.2.2.2.1.2.1
    refine lv_goto (tgt := 144) hx hb dX4_readPart_54 (by decide) ?_
    exact hQ _ _ _ _ _ hw (⟨iM_22, ((q_23).trans ((q_16).trans q_8)), (f0.trans (f0_12 q_24) (f0.trans q_17 (f0_12 (o2_12 q_9)))), ((q_25).trans ((q_18).trans q_10)), (ot.trans (ot_12 ht q_24) (ot.trans q_19 (ot_12 ht (o2_12 q_9)))), (by rw [pe_4, if_pos (by omega), ← eg_13, ← eg_20, ← eg_26]; exact p0r_21)⟩) dX4_readPart_144
set_option maxHeartbeats 4000000 in
set_option maxRecDepth 100000 in
theorem x_X4_readProduct_4 (l : Launch) (D : va_G) (A : Nat → Nat → Nat) (cy : Nat → ClassId) (hJ : ti_inj ti_LT A) (M : ti_M) (hI : cI Tc M) (t : Nat) (ht : t = 3 ∨ t = 4) (hT : tT M 1 1 = some t) (lw : Nat) (hlw : ti_ob ti_LT lw 1) (hL : tT M 1 2 = some lw) (B : Nat → Int) (n : Nat) (rg : Nat → Int) (hr : rC B n t rg M) : ti_KvE l yX4_readProduct cX4_readProduct 4 37 ti_LT D A cy M [.ref (A 1 0), .int 4] (fun M2 => cI Tc M2 ∧ M2.2.2.2 = M.2.2.2 ∧ f0 M2 M ∧ tI M2 2 1 = tI M 2 1 ∧ ot t M2 M ∧ rC B n t (pp_pd B n (pp_pt B n 4) rg) M2) := by
  refine ti_eVE yp_X4_readProduct hJ ti_LT_nd (Nat.le_of_ble_eq_true rfl) ?_
  intro p e s m args below meth c Q H0 C hE hQ hw ls hl
  have hx := C.1
  have hb := C.2.1
  have hl : lv_has ls 4 [(0, .ref (A 1 0)), (1, .int 4)] := hl
  have l0 : rg 0 = (tI M 2 4).toInt := hr.2.1.1
  have l1 : rg 1 = (tI M 2 6).toInt := hr.2.1.2.1
  have l2 : rg 2 = (tI M 2 5).toInt := hr.2.1.2.2.1
  have l3 : rg 3 = (tI M 2 3).toInt := hr.2.1.2.2.2
  have l4 : rg 4 = (tI M 1 4).toInt := hr.2.2.1.1
  have l5 : rg 5 = (tI M 1 5).toInt := hr.2.2.1.2.1
  have l7 : rg 7 = (tI M t 4).toInt := hr.2.2.2.1.1
  have l8 : rg 8 = (tI M t 5).toInt := hr.2.2.2.1.2.1
  have l9 : rg 9 = (tI M t 3).toInt := hr.2.2.2.1.2.2
  refine lv_aload_n hx hb dX4_readProduct_0 rfl (lv_at hl 0 rfl) ?_
  refine lv_iload_n hx hb dX4_readProduct_1 rfl (lv_at hl 1 rfl) ?_
  refine ti_callVvE (ci := 4) (av := [.int 4]) C hE hw (x_X4_readPart_4 l D A cy hJ M hI t ht (hT) lw hlw (hL) B n rg hr) ⟨ml_X4_187, ym_X4_readPart, yv_X4_readPart, yi_X4_readPart, yc_X4_readPart⟩ yd_X4_readPart ob_1 (by decide) rfl rfl hl.1 (Nat.le_of_ble_eq_true rfl) ⟨by decide, by decide⟩ ⟨Nat.zero_le _, Nat.zero_le _⟩ dX4_readProduct_2 (fun M_2 H locs hp_2 hw => ?_)
  obtain ⟨iM_2, q_3, q_4, q_5, q_6, p0r_1⟩ := hp_2
  obtain ⟨g_7, eg_7⟩ : ∃ z : Nat → Int, z = pp_pt B n 4 rg := ⟨_, rfl⟩
  rw [← eg_7] at p0r_1
  have lg_7_0 : g_7 0 = (tI M_2 2 4).toInt := p0r_1.2.1.1
  have lg_7_1 : g_7 1 = (tI M_2 2 6).toInt := p0r_1.2.1.2.1
  have lg_7_4 : g_7 4 = (tI M_2 1 4).toInt := p0r_1.2.2.1.1
  have lg_7_7 : g_7 7 = (tI M_2 t 4).toInt := p0r_1.2.2.2.1.1
  have lg_7_8 : g_7 8 = (tI M_2 t 5).toInt := p0r_1.2.2.2.1.2.1
  refine lv_iconst (v := 0) hx hb dX4_readProduct_5 (by decide) ?_
  refine lv_istore_n (lv' := [(2, .int 0), (0, .ref (A 1 0)), (1, .int 4)]) hx hb dX4_readProduct_6 rfl hl (by decide) rfl (fun ls hl => ?_)
  have hl_7_20 : ∀ (n_21 : Nat) (x_8 : Int32) (M_11 : ti_M) (g_18 : Nat → Int) (H : Heap) (locs : List Loc) (ls : Array Slot), (64 - x_8.toInt : Int).toNat < n_21 → (0 ≤ x_8.toInt) → (x_8.toInt ≤ 64) → (cI Tc M_11) → (M_11.2.2.2 = M.2.2.2) → (f0 M_11 M) → (tI M_11 2 1 = tI M 2 1) → (ot t M_11 M) → (tT M_11 1 1 = (some t)) → (tT M_11 1 2 = (some lw)) → (rC B n t g_18 M_11) → (pp_lp pp_qT (fun s => (pp_pt B n 4) (pp_kn B n s)) 64 g_7 = pp_lp pp_qT (fun s => (pp_pt B n 4) (pp_kn B n s)) (64 - (x_8.toInt).toNat) g_18) → ti_H ti_LT D A cy H0 M_11 H locs → lv_has ls 4 [(2, .int x_8), (0, .ref (A 1 0)), (1, .int 4)] → W p l e (ti_rm 37) s m args below meth c H locs 0 0 Q (F0 m 7 ls []) := by
    intro n_21
    induction n_21 with
    | zero => intro x_8 M_11 g_18 H locs ls hf_21; exact absurd hf_21 (Nat.not_lt_zero _)
    | succ n_21 ih_21 =>
      intro x_8 M_11 g_18 H locs ls hf_21 b_9 b_10 iM_11 f_12 f_13 f_14 f_15 f_16 f_17 hs_19 j_20 hw hl
      have lg_18_0 : g_18 0 = (tI M_11 2 4).toInt := hs_19.2.1.1
      have lg_18_1 : g_18 1 = (tI M_11 2 6).toInt := hs_19.2.1.2.1
      have lg_18_4 : g_18 4 = (tI M_11 1 4).toInt := hs_19.2.2.1.1
      have lg_18_7 : g_18 7 = (tI M_11 t 4).toInt := hs_19.2.2.2.1.1
      have lg_18_8 : g_18 8 = (tI M_11 t 5).toInt := hs_19.2.2.2.1.2.1
      refine lv_iload_n hx hb dX4_readProduct_7 rfl (lv_at hl 0 rfl) ?_
      refine lv_bipush (v := 64) hx hb dX4_readProduct_8 (by decide) ?_
      refine sb_icmp_ge (tgt := 69) hx hb rfl (by decide : (64 : Int32).toInt = 64) dX4_readProduct_10 (by decide) (fun c_10_21 => ?_) (fun c_10_21 => ?_)
      · exact hQ _ _ _ _ _ hw (⟨iM_11, (f_12), f_13, (f_14), f_15, (by unfold pp_pd; rw [← eg_7, j_20, lp_end (P := pp_qT) (f := 64 - x_8.toInt.toNat) (s := g_18) (Or.inl (by omega))]; exact hs_19)⟩) dX4_readProduct_69
      · refine lv_aload_n hx hb dX4_readProduct_13 rfl (lv_at hl 1 rfl) ?_
        refine ti_get (ci := 4) (k := 0) (N := 6) (T := TX4) (v := .ref (A 2 0)) C hw iw_4 rfl ob_1 (by decide) (by decide) fl_X4_12 rfl rfl dX4_readProduct_14 ?_
        refine ti_get (ci := 7) (k := 4) (N := 7) (T := TX7) C hw iw_7 rfl ob_2 (by decide) (by decide) fl_X4_41 rfl rfl dX4_readProduct_17 ?_
        refine lv_topi (fun x_23 ex_23 => ?_)
        have bx_23 : 0 ≤ x_23.toInt ∧ x_23.toInt ≤ 41 := cI_rd iM_11 ob_2.1 ex_23
        have ux_23 : (tI M_11 2 4).toInt = x_23.toInt := by rw [ex_23]
        refine lv_bipush (v := 40) hx hb dX4_readProduct_20 (by decide) ?_
        refine sb_icmp_eq (tgt := 37) hx hb rfl (by decide : (40 : Int32).toInt = 40) dX4_readProduct_22 (by decide) (fun c_22_23 => ?_) (fun c_22_23 => ?_)
        · refine lv_aload_n hx hb dX4_readProduct_37 rfl (lv_at hl 1 rfl) ?_
          refine ti_get (ci := 4) (k := 0) (N := 6) (T := TX4) (v := .ref (A 2 0)) C hw iw_4 rfl ob_1 (by decide) (by decide) fl_X4_12 rfl rfl dX4_readProduct_38 ?_
          refine ti_get (ci := 7) (k := 4) (N := 7) (T := TX7) C hw iw_7 rfl ob_2 (by decide) (by decide) fl_X4_41 rfl rfl dX4_readProduct_41 ?_
          refine ti_top (y := x_23) (ex_23.symm) ?_
          have u_27 : (tI M_11 2 4).toInt = (x_23 : Int32).toInt := by rw [(ex_23.symm)]
          refine lv_istore_n (lv' := [(3, .int x_23), (2, .int x_8), (0, .ref (A 1 0)), (1, .int 4)]) hx hb dX4_readProduct_44 rfl hl (by decide) rfl (fun ls hl => ?_)
          refine lv_aload_n hx hb dX4_readProduct_45 rfl (lv_at hl 2 rfl) ?_
          refine ti_callVvE (ci := 4) (av := []) C hE hw (x_X4_knot l D A cy hJ M_11 iM_11 t ht (f_16) B n g_18 hs_19) ⟨ml_X4_167, ym_X4_knot, yv_X4_knot, yi_X4_knot, yc_X4_knot⟩ yd_X4_knot ob_1 (by decide) rfl rfl hl.1 (Nat.le_of_ble_eq_true rfl) ⟨by decide, by decide⟩ ⟨Nat.zero_le _, Nat.zero_le _⟩ dX4_readProduct_46 (fun M_29 H locs hp_29 hw => ?_)
          obtain ⟨iM_29, q_30, q_31, q_32, q_33, p0r_28⟩ := hp_29
          obtain ⟨g_34, eg_34⟩ : ∃ z : Nat → Int, z = pp_kn B n g_18 := ⟨_, rfl⟩
          rw [← eg_34] at p0r_28
          have lg_34_0 : g_34 0 = (tI M_29 2 4).toInt := p0r_28.2.1.1
          have lg_34_1 : g_34 1 = (tI M_29 2 6).toInt := p0r_28.2.1.2.1
          have lg_34_4 : g_34 4 = (tI M_29 1 4).toInt := p0r_28.2.2.1.1
          have lg_34_7 : g_34 7 = (tI M_29 t 4).toInt := p0r_28.2.2.2.1.1
          have lg_34_8 : g_34 8 = (tI M_29 t 5).toInt := p0r_28.2.2.2.1.2.1
          refine lv_aload_n hx hb dX4_readProduct_49 rfl (lv_at hl 2 rfl) ?_
          refine lv_iload_n hx hb dX4_readProduct_50 rfl (lv_at hl 3 rfl) ?_
          refine ti_callVvE (ci := 4) (av := [.int 4]) C hE hw (x_X4_readPart_4 l D A cy hJ M_29 iM_29 t ht ((tT_fr q_30).trans f_16) lw hlw ((tT_fr q_30).trans f_17) B n g_34 p0r_28) ⟨ml_X4_187, ym_X4_readPart, yv_X4_readPart, yi_X4_readPart, yc_X4_readPart⟩ yd_X4_readPart ob_1 (by decide) rfl rfl hl.1 (Nat.le_of_ble_eq_true rfl) ⟨by decide, by decide⟩ ⟨Nat.zero_le _, Nat.zero_le _⟩ dX4_readProduct_51 (fun M_36 H locs hp_36 hw => ?_)
          obtain ⟨iM_36, q_37, q_38, q_39, q_40, p0r_35⟩ := hp_36
          obtain ⟨g_41, eg_41⟩ : ∃ z : Nat → Int, z = pp_pt B n 4 g_34 := ⟨_, rfl⟩
          rw [← eg_41] at p0r_35
          have lg_41_0 : g_41 0 = (tI M_36 2 4).toInt := p0r_35.2.1.1
          have lg_41_1 : g_41 1 = (tI M_36 2 6).toInt := p0r_35.2.1.2.1
          have lg_41_4 : g_41 4 = (tI M_36 1 4).toInt := p0r_35.2.2.1.1
          have lg_41_7 : g_41 7 = (tI M_36 t 4).toInt := p0r_35.2.2.2.1.1
          have lg_41_8 : g_41 8 = (tI M_36 t 5).toInt := p0r_35.2.2.2.1.2.1
          refine lv_aload_n hx hb dX4_readProduct_54 rfl (lv_at hl 2 rfl) ?_
          refine ti_get (ci := 4) (k := 2) (N := 6) (T := TX4) (v := .ref (A lw 0)) C hw iw_4 rfl ob_1 (by decide) (by decide) fl_X4_154 rfl (ti_Tv ((tT_fr q_37).trans ((tT_fr q_30).trans f_17))) dX4_readProduct_55 ?_
          refine lv_iload_n hx hb dX4_readProduct_58 rfl (lv_at hl 0 rfl) ?_
          refine lv_ineg hx hb dX4_readProduct_59 ?_
          refine lv_topi (fun x_42 ex_42 => ?_)
          have tx_42 : x_42.toInt = -x_23.toInt := i_neg ex_42 rfl (by omega)
          refine ti_callVv (ci := 1) (av := [.int x_42]) C hw (x_X1_add l D A cy hJ M_36 iM_36 lw hlw x_42 (by first | omega | exact Or.inl (by decide) | exact Or.inr (by decide)) t ht B n g_41 p0r_35) ⟨ml_X4_170, ym_X1_add, yv_X1_add, yi_X1_add, yc_X1_add⟩ yd_X1_add hlw (by decide) rfl rfl hl.1 (Nat.le_of_ble_eq_true rfl) ⟨by decide, by decide⟩ ⟨Nat.zero_le _, Nat.zero_le _⟩ dX4_readProduct_60 (fun M_44 H locs hp_44 hw => ?_)
          obtain ⟨iM_44, q_45, q_46, p0r_43⟩ := hp_44
          have lM_44_0 : g_41 0 = (tI M_44 2 4).toInt := p0r_43.2.1.1
          have lM_44_1 : g_41 1 = (tI M_44 2 6).toInt := p0r_43.2.1.2.1
          have lM_44_4 : g_41 4 = (tI M_44 1 4).toInt := p0r_43.2.2.1.1
          have lM_44_7 : g_41 7 = (tI M_44 t 4).toInt := p0r_43.2.2.2.1.1
          have lM_44_8 : g_41 8 = (tI M_44 t 5).toInt := p0r_43.2.2.2.1.2.1
          obtain ⟨x_47, ex_47⟩ : ∃ z : Int32, z = x_8 + 1 := ⟨_, rfl⟩
          have tx_47 : x_47.toInt = x_8.toInt + 1 := i_add ex_47 rfl (by decide) (by omega) (by omega)
          refine lv_iinc (v := x_47) (lv' := [(2, .int x_47), (3, .int x_23), (0, .ref (A 1 0)), (1, .int 4)]) hx hb dX4_readProduct_63 hl (k := 1) rfl (by rw [ex_47]; rfl) (by decide) rfl (fun ls hl => ?_)
          refine lv_goto (tgt := 7) hx hb dX4_readProduct_66 (by decide) ?_
          exact ih_21 x_47 M_44 g_41 _ _ _ (by omega) (by first | omega | decide) (by first | omega | decide) iM_44 ((q_45).trans ((q_37).trans ((q_30).trans f_12))) (f0.trans (f0_x q_46) (f0.trans q_38 (f0.trans q_31 f_13))) (((q_46 1).2.1).trans ((q_39).trans ((q_32).trans f_14))) (ot.trans (ot_fx ht q_46) (ot.trans q_40 (ot.trans q_33 f_15))) ((tT_fr q_45).trans ((tT_fr q_37).trans ((tT_fr q_30).trans f_16))) ((tT_fr q_45).trans ((tT_fr q_37).trans ((tT_fr q_30).trans f_17))) p0r_43 (j_20.trans (lp_step (decide_eq_true (by omega)) (by rw [eg_41, eg_34]) (by omega))) hw (lv_sub hl [0, 2, 3] rfl)
        · refine lv_aload_n hx hb dX4_readProduct_25 rfl (lv_at hl 1 rfl) ?_
          refine ti_get (ci := 4) (k := 0) (N := 6) (T := TX4) (v := .ref (A 2 0)) C hw iw_4 rfl ob_1 (by decide) (by decide) fl_X4_12 rfl rfl dX4_readProduct_26 ?_
          refine ti_get (ci := 7) (k := 4) (N := 7) (T := TX7) C hw iw_7 rfl ob_2 (by decide) (by decide) fl_X4_41 rfl rfl dX4_readProduct_29 ?_
          refine ti_top (y := x_23) (ex_23.symm) ?_
          have u_25 : (tI M_11 2 4).toInt = (x_23 : Int32).toInt := by rw [(ex_23.symm)]
          refine lv_bipush (v := 41) hx hb dX4_readProduct_32 (by decide) ?_
          refine sb_icmp_ne (tgt := 69) hx hb rfl (by decide : (41 : Int32).toInt = 41) dX4_readProduct_34 (by decide) (fun c_34_25 => ?_) (fun c_34_25 => ?_)
          · exact hQ _ _ _ _ _ hw (⟨iM_11, (f_12), f_13, (f_14), f_15, (by unfold pp_pd; rw [← eg_7, j_20, lp_end (P := pp_qT) (f := 64 - x_8.toInt.toNat) (s := g_18) (Or.inr (decide_eq_false (by omega)))]; exact hs_19)⟩) dX4_readProduct_69
          · refine lv_aload_n hx hb dX4_readProduct_37 rfl (lv_at hl 1 rfl) ?_
            refine ti_get (ci := 4) (k := 0) (N := 6) (T := TX4) (v := .ref (A 2 0)) C hw iw_4 rfl ob_1 (by decide) (by decide) fl_X4_12 rfl rfl dX4_readProduct_38 ?_
            refine ti_get (ci := 7) (k := 4) (N := 7) (T := TX7) C hw iw_7 rfl ob_2 (by decide) (by decide) fl_X4_41 rfl rfl dX4_readProduct_41 ?_
            refine ti_top (y := x_23) (ex_23.symm) ?_
            have u_48 : (tI M_11 2 4).toInt = (x_23 : Int32).toInt := by rw [(ex_23.symm)]
            refine lv_istore_n (lv' := [(3, .int x_23), (2, .int x_8), (0, .ref (A 1 0)), (1, .int 4)]) hx hb dX4_readProduct_44 rfl hl (by decide) rfl (fun ls hl => ?_)
            refine lv_aload_n hx hb dX4_readProduct_45 rfl (lv_at hl 2 rfl) ?_
            refine ti_callVvE (ci := 4) (av := []) C hE hw (x_X4_knot l D A cy hJ M_11 iM_11 t ht (f_16) B n g_18 hs_19) ⟨ml_X4_167, ym_X4_knot, yv_X4_knot, yi_X4_knot, yc_X4_knot⟩ yd_X4_knot ob_1 (by decide) rfl rfl hl.1 (Nat.le_of_ble_eq_true rfl) ⟨by decide, by decide⟩ ⟨Nat.zero_le _, Nat.zero_le _⟩ dX4_readProduct_46 (fun M_50 H locs hp_50 hw => ?_)
            obtain ⟨iM_50, q_51, q_52, q_53, q_54, p0r_49⟩ := hp_50
            obtain ⟨g_55, eg_55⟩ : ∃ z : Nat → Int, z = pp_kn B n g_18 := ⟨_, rfl⟩
            rw [← eg_55] at p0r_49
            have lg_55_0 : g_55 0 = (tI M_50 2 4).toInt := p0r_49.2.1.1
            have lg_55_1 : g_55 1 = (tI M_50 2 6).toInt := p0r_49.2.1.2.1
            have lg_55_4 : g_55 4 = (tI M_50 1 4).toInt := p0r_49.2.2.1.1
            have lg_55_7 : g_55 7 = (tI M_50 t 4).toInt := p0r_49.2.2.2.1.1
            have lg_55_8 : g_55 8 = (tI M_50 t 5).toInt := p0r_49.2.2.2.1.2.1
            refine lv_aload_n hx hb dX4_readProduct_49 rfl (lv_at hl 2 rfl) ?_
            refine lv_iload_n hx hb dX4_readProduct_50 rfl (lv_at hl 3 rfl) ?_
            refine ti_callVvE (ci := 4) (av := [.int 4]) C hE hw (x_X4_readPart_4 l D A cy hJ M_50 iM_50 t ht ((tT_fr q_51).trans f_16) lw hlw ((tT_fr q_51).trans f_17) B n g_55 p0r_49) ⟨ml_X4_187, ym_X4_readPart, yv_X4_readPart, yi_X4_readPart, yc_X4_readPart⟩ yd_X4_readPart ob_1 (by decide) rfl rfl hl.1 (Nat.le_of_ble_eq_true rfl) ⟨by decide, by decide⟩ ⟨Nat.zero_le _, Nat.zero_le _⟩ dX4_readProduct_51 (fun M_57 H locs hp_57 hw => ?_)
            obtain ⟨iM_57, q_58, q_59, q_60, q_61, p0r_56⟩ := hp_57
            obtain ⟨g_62, eg_62⟩ : ∃ z : Nat → Int, z = pp_pt B n 4 g_55 := ⟨_, rfl⟩
            rw [← eg_62] at p0r_56
            have lg_62_0 : g_62 0 = (tI M_57 2 4).toInt := p0r_56.2.1.1
            have lg_62_1 : g_62 1 = (tI M_57 2 6).toInt := p0r_56.2.1.2.1
            have lg_62_4 : g_62 4 = (tI M_57 1 4).toInt := p0r_56.2.2.1.1
            have lg_62_7 : g_62 7 = (tI M_57 t 4).toInt := p0r_56.2.2.2.1.1
            have lg_62_8 : g_62 8 = (tI M_57 t 5).toInt := p0r_56.2.2.2.1.2.1
            refine lv_aload_n hx hb dX4_readProduct_54 rfl (lv_at hl 2 rfl) ?_
            refine ti_get (ci := 4) (k := 2) (N := 6) (T := TX4) (v := .ref (A lw 0)) C hw iw_4 rfl ob_1 (by decide) (by decide) fl_X4_154 rfl (ti_Tv ((tT_fr q_58).trans ((tT_fr q_51).trans f_17))) dX4_readProduct_55 ?_
            refine lv_iload_n hx hb dX4_readProduct_58 rfl (lv_at hl 0 rfl) ?_
            refine lv_ineg hx hb dX4_readProduct_59 ?_
            refine lv_topi (fun x_63 ex_63 => ?_)
            have tx_63 : x_63.toInt = -x_23.toInt := i_neg ex_63 rfl (by omega)
            refine ti_callVv (ci := 1) (av := [.int x_63]) C hw (x_X1_add l D A cy hJ M_57 iM_57 lw hlw x_63 (by first | omega | exact Or.inl (by decide) | exact Or.inr (by decide)) t ht B n g_62 p0r_56) ⟨ml_X4_170, ym_X1_add, yv_X1_add, yi_X1_add, yc_X1_add⟩ yd_X1_add hlw (by decide) rfl rfl hl.1 (Nat.le_of_ble_eq_true rfl) ⟨by decide, by decide⟩ ⟨Nat.zero_le _, Nat.zero_le _⟩ dX4_readProduct_60 (fun M_65 H locs hp_65 hw => ?_)
            obtain ⟨iM_65, q_66, q_67, p0r_64⟩ := hp_65
            have lM_65_0 : g_62 0 = (tI M_65 2 4).toInt := p0r_64.2.1.1
            have lM_65_1 : g_62 1 = (tI M_65 2 6).toInt := p0r_64.2.1.2.1
            have lM_65_4 : g_62 4 = (tI M_65 1 4).toInt := p0r_64.2.2.1.1
            have lM_65_7 : g_62 7 = (tI M_65 t 4).toInt := p0r_64.2.2.2.1.1
            have lM_65_8 : g_62 8 = (tI M_65 t 5).toInt := p0r_64.2.2.2.1.2.1
            obtain ⟨x_68, ex_68⟩ : ∃ z : Int32, z = x_8 + 1 := ⟨_, rfl⟩
            have tx_68 : x_68.toInt = x_8.toInt + 1 := i_add ex_68 rfl (by decide) (by omega) (by omega)
            refine lv_iinc (v := x_68) (lv' := [(2, .int x_68), (3, .int x_23), (0, .ref (A 1 0)), (1, .int 4)]) hx hb dX4_readProduct_63 hl (k := 1) rfl (by rw [ex_68]; rfl) (by decide) rfl (fun ls hl => ?_)
            refine lv_goto (tgt := 7) hx hb dX4_readProduct_66 (by decide) ?_
            exact ih_21 x_68 M_65 g_62 _ _ _ (by omega) (by first | omega | decide) (by first | omega | decide) iM_65 ((q_66).trans ((q_58).trans ((q_51).trans f_12))) (f0.trans (f0_x q_67) (f0.trans q_59 (f0.trans q_52 f_13))) (((q_67 1).2.1).trans ((q_60).trans ((q_53).trans f_14))) (ot.trans (ot_fx ht q_67) (ot.trans q_61 (ot.trans q_54 f_15))) ((tT_fr q_66).trans ((tT_fr q_58).trans ((tT_fr q_51).trans f_16))) ((tT_fr q_66).trans ((tT_fr q_58).trans ((tT_fr q_51).trans f_17))) p0r_64 (j_20.trans (lp_step (decide_eq_true (by omega)) (by rw [eg_62, eg_55]) (by omega))) hw (lv_sub hl [0, 2, 3] rfl)
  exact hl_7_20 ((64 - 0 : Int).toNat + 1) 0 M_2 g_7 _ _ _ (Nat.lt_succ_self _) (by have lt0 : (0 : Int32).toInt = 0 := (by decide); first | omega | decide) (by have lt0 : (0 : Int32).toInt = 0 := (by decide); first | omega | decide) iM_2 (q_3) q_4 (q_5) q_6 ((tT_fr q_3).trans hT) ((tT_fr q_3).trans hL) p0r_1 rfl hw (lv_sub hl [0, 1, 2] rfl)
set_option maxHeartbeats 4000000 in
set_option maxRecDepth 100000 in
theorem x_X4_readSum_4 (l : Launch) (D : va_G) (A : Nat → Nat → Nat) (cy : Nat → ClassId) (hJ : ti_inj ti_LT A) (M : ti_M) (hI : cI Tc M) (t : Nat) (ht : t = 3 ∨ t = 4) (hT : tT M 1 1 = some t) (lw : Nat) (hlw : ti_ob ti_LT lw 1) (hL : tT M 1 2 = some lw) (B : Nat → Int) (n : Nat) (rg : Nat → Int) (hr : rC B n t rg M) : ti_KvE l yX4_readSum cX4_readSum 4 38 ti_LT D A cy M [.ref (A 1 0), .int 4] (fun M2 => cI Tc M2 ∧ M2.2.2.2 = M.2.2.2 ∧ f0 M2 M ∧ tI M2 2 1 = tI M 2 1 ∧ ot t M2 M ∧ rC B n t (pp_sm B n (pp_pt B n 4) rg) M2) := by
  refine ti_eVE yp_X4_readSum hJ ti_LT_nd (Nat.le_of_ble_eq_true rfl) ?_
  intro p e s m args below meth c Q H0 C hE hQ hw ls hl
  have hx := C.1
  have hb := C.2.1
  have hl : lv_has ls 4 [(0, .ref (A 1 0)), (1, .int 4)] := hl
  have l0 : rg 0 = (tI M 2 4).toInt := hr.2.1.1
  have l1 : rg 1 = (tI M 2 6).toInt := hr.2.1.2.1
  have l2 : rg 2 = (tI M 2 5).toInt := hr.2.1.2.2.1
  have l3 : rg 3 = (tI M 2 3).toInt := hr.2.1.2.2.2
  have l4 : rg 4 = (tI M 1 4).toInt := hr.2.2.1.1
  have l5 : rg 5 = (tI M 1 5).toInt := hr.2.2.1.2.1
  have l7 : rg 7 = (tI M t 4).toInt := hr.2.2.2.1.1
  have l8 : rg 8 = (tI M t 5).toInt := hr.2.2.2.1.2.1
  have l9 : rg 9 = (tI M t 3).toInt := hr.2.2.2.1.2.2
  refine lv_aload_n hx hb dX4_readSum_0 rfl (lv_at hl 0 rfl) ?_
  refine lv_iload_n hx hb dX4_readSum_1 rfl (lv_at hl 1 rfl) ?_
  refine ti_callVvE (ci := 4) (av := [.int 4]) C hE hw (x_X4_readProduct_4 l D A cy hJ M hI t ht (hT) lw hlw (hL) B n rg hr) ⟨ml_X4_184, ym_X4_readProduct, yv_X4_readProduct, yi_X4_readProduct, yc_X4_readProduct⟩ yd_X4_readProduct ob_1 (by decide) rfl rfl hl.1 (Nat.le_of_ble_eq_true rfl) ⟨by decide, by decide⟩ ⟨Nat.zero_le _, Nat.zero_le _⟩ dX4_readSum_2 (fun M_2 H locs hp_2 hw => ?_)
  obtain ⟨iM_2, q_3, q_4, q_5, q_6, p0r_1⟩ := hp_2
  obtain ⟨g_7, eg_7⟩ : ∃ z : Nat → Int, z = pp_pd B n (pp_pt B n 4) rg := ⟨_, rfl⟩
  rw [← eg_7] at p0r_1
  have lg_7_0 : g_7 0 = (tI M_2 2 4).toInt := p0r_1.2.1.1
  have lg_7_1 : g_7 1 = (tI M_2 2 6).toInt := p0r_1.2.1.2.1
  have lg_7_4 : g_7 4 = (tI M_2 1 4).toInt := p0r_1.2.2.1.1
  have lg_7_7 : g_7 7 = (tI M_2 t 4).toInt := p0r_1.2.2.2.1.1
  have lg_7_8 : g_7 8 = (tI M_2 t 5).toInt := p0r_1.2.2.2.1.2.1
  refine lv_iconst (v := 0) hx hb dX4_readSum_5 (by decide) ?_
  refine lv_istore_n (lv' := [(2, .int 0), (0, .ref (A 1 0)), (1, .int 4)]) hx hb dX4_readSum_6 rfl hl (by decide) rfl (fun ls hl => ?_)
  have hl_7_20 : ∀ (n_21 : Nat) (x_8 : Int32) (M_11 : ti_M) (g_18 : Nat → Int) (H : Heap) (locs : List Loc) (ls : Array Slot), (64 - x_8.toInt : Int).toNat < n_21 → (0 ≤ x_8.toInt) → (x_8.toInt ≤ 64) → (cI Tc M_11) → (M_11.2.2.2 = M.2.2.2) → (f0 M_11 M) → (tI M_11 2 1 = tI M 2 1) → (ot t M_11 M) → (tT M_11 1 1 = (some t)) → (tT M_11 1 2 = (some lw)) → (rC B n t g_18 M_11) → (pp_lp pp_qP (fun s => pp_pd B n (pp_pt B n 4) (pp_kn B n s)) 64 g_7 = pp_lp pp_qP (fun s => pp_pd B n (pp_pt B n 4) (pp_kn B n s)) (64 - (x_8.toInt).toNat) g_18) → ti_H ti_LT D A cy H0 M_11 H locs → lv_has ls 4 [(2, .int x_8), (0, .ref (A 1 0)), (1, .int 4)] → W p l e (ti_rm 38) s m args below meth c H locs 0 0 Q (F0 m 7 ls []) := by
    intro n_21
    induction n_21 with
    | zero => intro x_8 M_11 g_18 H locs ls hf_21; exact absurd hf_21 (Nat.not_lt_zero _)
    | succ n_21 ih_21 =>
      intro x_8 M_11 g_18 H locs ls hf_21 b_9 b_10 iM_11 f_12 f_13 f_14 f_15 f_16 f_17 hs_19 j_20 hw hl
      have lg_18_0 : g_18 0 = (tI M_11 2 4).toInt := hs_19.2.1.1
      have lg_18_1 : g_18 1 = (tI M_11 2 6).toInt := hs_19.2.1.2.1
      have lg_18_4 : g_18 4 = (tI M_11 1 4).toInt := hs_19.2.2.1.1
      have lg_18_7 : g_18 7 = (tI M_11 t 4).toInt := hs_19.2.2.2.1.1
      have lg_18_8 : g_18 8 = (tI M_11 t 5).toInt := hs_19.2.2.2.1.2.1
      refine lv_iload_n hx hb dX4_readSum_7 rfl (lv_at hl 0 rfl) ?_
      refine lv_bipush (v := 64) hx hb dX4_readSum_8 (by decide) ?_
      refine sb_icmp_ge (tgt := 69) hx hb rfl (by decide : (64 : Int32).toInt = 64) dX4_readSum_10 (by decide) (fun c_10_21 => ?_) (fun c_10_21 => ?_)
      · exact hQ _ _ _ _ _ hw (⟨iM_11, (f_12), f_13, (f_14), f_15, (by unfold pp_sm; rw [← eg_7, j_20, lp_end (P := pp_qP) (f := 64 - x_8.toInt.toNat) (s := g_18) (Or.inl (by omega))]; exact hs_19)⟩) dX4_readSum_69
      · refine lv_aload_n hx hb dX4_readSum_13 rfl (lv_at hl 1 rfl) ?_
        refine ti_get (ci := 4) (k := 0) (N := 6) (T := TX4) (v := .ref (A 2 0)) C hw iw_4 rfl ob_1 (by decide) (by decide) fl_X4_12 rfl rfl dX4_readSum_14 ?_
        refine ti_get (ci := 7) (k := 4) (N := 7) (T := TX7) C hw iw_7 rfl ob_2 (by decide) (by decide) fl_X4_41 rfl rfl dX4_readSum_17 ?_
        refine lv_topi (fun x_23 ex_23 => ?_)
        have bx_23 : 0 ≤ x_23.toInt ∧ x_23.toInt ≤ 41 := cI_rd iM_11 ob_2.1 ex_23
        have ux_23 : (tI M_11 2 4).toInt = x_23.toInt := by rw [ex_23]
        refine lv_bipush (v := 38) hx hb dX4_readSum_20 (by decide) ?_
        refine sb_icmp_eq (tgt := 37) hx hb rfl (by decide : (38 : Int32).toInt = 38) dX4_readSum_22 (by decide) (fun c_22_23 => ?_) (fun c_22_23 => ?_)
        · refine lv_aload_n hx hb dX4_readSum_37 rfl (lv_at hl 1 rfl) ?_
          refine ti_get (ci := 4) (k := 0) (N := 6) (T := TX4) (v := .ref (A 2 0)) C hw iw_4 rfl ob_1 (by decide) (by decide) fl_X4_12 rfl rfl dX4_readSum_38 ?_
          refine ti_get (ci := 7) (k := 4) (N := 7) (T := TX7) C hw iw_7 rfl ob_2 (by decide) (by decide) fl_X4_41 rfl rfl dX4_readSum_41 ?_
          refine ti_top (y := x_23) (ex_23.symm) ?_
          have u_27 : (tI M_11 2 4).toInt = (x_23 : Int32).toInt := by rw [(ex_23.symm)]
          refine lv_istore_n (lv' := [(3, .int x_23), (2, .int x_8), (0, .ref (A 1 0)), (1, .int 4)]) hx hb dX4_readSum_44 rfl hl (by decide) rfl (fun ls hl => ?_)
          refine lv_aload_n hx hb dX4_readSum_45 rfl (lv_at hl 2 rfl) ?_
          refine ti_callVvE (ci := 4) (av := []) C hE hw (x_X4_knot l D A cy hJ M_11 iM_11 t ht (f_16) B n g_18 hs_19) ⟨ml_X4_167, ym_X4_knot, yv_X4_knot, yi_X4_knot, yc_X4_knot⟩ yd_X4_knot ob_1 (by decide) rfl rfl hl.1 (Nat.le_of_ble_eq_true rfl) ⟨by decide, by decide⟩ ⟨Nat.zero_le _, Nat.zero_le _⟩ dX4_readSum_46 (fun M_29 H locs hp_29 hw => ?_)
          obtain ⟨iM_29, q_30, q_31, q_32, q_33, p0r_28⟩ := hp_29
          obtain ⟨g_34, eg_34⟩ : ∃ z : Nat → Int, z = pp_kn B n g_18 := ⟨_, rfl⟩
          rw [← eg_34] at p0r_28
          have lg_34_0 : g_34 0 = (tI M_29 2 4).toInt := p0r_28.2.1.1
          have lg_34_1 : g_34 1 = (tI M_29 2 6).toInt := p0r_28.2.1.2.1
          have lg_34_4 : g_34 4 = (tI M_29 1 4).toInt := p0r_28.2.2.1.1
          have lg_34_7 : g_34 7 = (tI M_29 t 4).toInt := p0r_28.2.2.2.1.1
          have lg_34_8 : g_34 8 = (tI M_29 t 5).toInt := p0r_28.2.2.2.1.2.1
          refine lv_aload_n hx hb dX4_readSum_49 rfl (lv_at hl 2 rfl) ?_
          refine lv_iload_n hx hb dX4_readSum_50 rfl (lv_at hl 3 rfl) ?_
          refine ti_callVvE (ci := 4) (av := [.int 4]) C hE hw (x_X4_readProduct_4 l D A cy hJ M_29 iM_29 t ht ((tT_fr q_30).trans f_16) lw hlw ((tT_fr q_30).trans f_17) B n g_34 p0r_28) ⟨ml_X4_184, ym_X4_readProduct, yv_X4_readProduct, yi_X4_readProduct, yc_X4_readProduct⟩ yd_X4_readProduct ob_1 (by decide) rfl rfl hl.1 (Nat.le_of_ble_eq_true rfl) ⟨by decide, by decide⟩ ⟨Nat.zero_le _, Nat.zero_le _⟩ dX4_readSum_51 (fun M_36 H locs hp_36 hw => ?_)
          obtain ⟨iM_36, q_37, q_38, q_39, q_40, p0r_35⟩ := hp_36
          obtain ⟨g_41, eg_41⟩ : ∃ z : Nat → Int, z = pp_pd B n (pp_pt B n 4) g_34 := ⟨_, rfl⟩
          rw [← eg_41] at p0r_35
          have lg_41_0 : g_41 0 = (tI M_36 2 4).toInt := p0r_35.2.1.1
          have lg_41_1 : g_41 1 = (tI M_36 2 6).toInt := p0r_35.2.1.2.1
          have lg_41_4 : g_41 4 = (tI M_36 1 4).toInt := p0r_35.2.2.1.1
          have lg_41_7 : g_41 7 = (tI M_36 t 4).toInt := p0r_35.2.2.2.1.1
          have lg_41_8 : g_41 8 = (tI M_36 t 5).toInt := p0r_35.2.2.2.1.2.1
          refine lv_aload_n hx hb dX4_readSum_54 rfl (lv_at hl 2 rfl) ?_
          refine ti_get (ci := 4) (k := 2) (N := 6) (T := TX4) (v := .ref (A lw 0)) C hw iw_4 rfl ob_1 (by decide) (by decide) fl_X4_154 rfl (ti_Tv ((tT_fr q_37).trans ((tT_fr q_30).trans f_17))) dX4_readSum_55 ?_
          refine lv_iload_n hx hb dX4_readSum_58 rfl (lv_at hl 0 rfl) ?_
          refine lv_ineg hx hb dX4_readSum_59 ?_
          refine lv_topi (fun x_42 ex_42 => ?_)
          have tx_42 : x_42.toInt = -x_23.toInt := i_neg ex_42 rfl (by omega)
          refine ti_callVv (ci := 1) (av := [.int x_42]) C hw (x_X1_add l D A cy hJ M_36 iM_36 lw hlw x_42 (by first | omega | exact Or.inl (by decide) | exact Or.inr (by decide)) t ht B n g_41 p0r_35) ⟨ml_X4_170, ym_X1_add, yv_X1_add, yi_X1_add, yc_X1_add⟩ yd_X1_add hlw (by decide) rfl rfl hl.1 (Nat.le_of_ble_eq_true rfl) ⟨by decide, by decide⟩ ⟨Nat.zero_le _, Nat.zero_le _⟩ dX4_readSum_60 (fun M_44 H locs hp_44 hw => ?_)
          obtain ⟨iM_44, q_45, q_46, p0r_43⟩ := hp_44
          have lM_44_0 : g_41 0 = (tI M_44 2 4).toInt := p0r_43.2.1.1
          have lM_44_1 : g_41 1 = (tI M_44 2 6).toInt := p0r_43.2.1.2.1
          have lM_44_4 : g_41 4 = (tI M_44 1 4).toInt := p0r_43.2.2.1.1
          have lM_44_7 : g_41 7 = (tI M_44 t 4).toInt := p0r_43.2.2.2.1.1
          have lM_44_8 : g_41 8 = (tI M_44 t 5).toInt := p0r_43.2.2.2.1.2.1
          obtain ⟨x_47, ex_47⟩ : ∃ z : Int32, z = x_8 + 1 := ⟨_, rfl⟩
          have tx_47 : x_47.toInt = x_8.toInt + 1 := i_add ex_47 rfl (by decide) (by omega) (by omega)
          refine lv_iinc (v := x_47) (lv' := [(2, .int x_47), (3, .int x_23), (0, .ref (A 1 0)), (1, .int 4)]) hx hb dX4_readSum_63 hl (k := 1) rfl (by rw [ex_47]; rfl) (by decide) rfl (fun ls hl => ?_)
          refine lv_goto (tgt := 7) hx hb dX4_readSum_66 (by decide) ?_
          exact ih_21 x_47 M_44 g_41 _ _ _ (by omega) (by first | omega | decide) (by first | omega | decide) iM_44 ((q_45).trans ((q_37).trans ((q_30).trans f_12))) (f0.trans (f0_x q_46) (f0.trans q_38 (f0.trans q_31 f_13))) (((q_46 1).2.1).trans ((q_39).trans ((q_32).trans f_14))) (ot.trans (ot_fx ht q_46) (ot.trans q_40 (ot.trans q_33 f_15))) ((tT_fr q_45).trans ((tT_fr q_37).trans ((tT_fr q_30).trans f_16))) ((tT_fr q_45).trans ((tT_fr q_37).trans ((tT_fr q_30).trans f_17))) p0r_43 (j_20.trans (lp_step (decide_eq_true (by omega)) (by rw [eg_41, eg_34]) (by omega))) hw (lv_sub hl [0, 2, 3] rfl)
        · refine lv_aload_n hx hb dX4_readSum_25 rfl (lv_at hl 1 rfl) ?_
          refine ti_get (ci := 4) (k := 0) (N := 6) (T := TX4) (v := .ref (A 2 0)) C hw iw_4 rfl ob_1 (by decide) (by decide) fl_X4_12 rfl rfl dX4_readSum_26 ?_
          refine ti_get (ci := 7) (k := 4) (N := 7) (T := TX7) C hw iw_7 rfl ob_2 (by decide) (by decide) fl_X4_41 rfl rfl dX4_readSum_29 ?_
          refine ti_top (y := x_23) (ex_23.symm) ?_
          have u_25 : (tI M_11 2 4).toInt = (x_23 : Int32).toInt := by rw [(ex_23.symm)]
          refine lv_bipush (v := 39) hx hb dX4_readSum_32 (by decide) ?_
          refine sb_icmp_ne (tgt := 69) hx hb rfl (by decide : (39 : Int32).toInt = 39) dX4_readSum_34 (by decide) (fun c_34_25 => ?_) (fun c_34_25 => ?_)
          · exact hQ _ _ _ _ _ hw (⟨iM_11, (f_12), f_13, (f_14), f_15, (by unfold pp_sm; rw [← eg_7, j_20, lp_end (P := pp_qP) (f := 64 - x_8.toInt.toNat) (s := g_18) (Or.inr (decide_eq_false (by omega)))]; exact hs_19)⟩) dX4_readSum_69
          · refine lv_aload_n hx hb dX4_readSum_37 rfl (lv_at hl 1 rfl) ?_
            refine ti_get (ci := 4) (k := 0) (N := 6) (T := TX4) (v := .ref (A 2 0)) C hw iw_4 rfl ob_1 (by decide) (by decide) fl_X4_12 rfl rfl dX4_readSum_38 ?_
            refine ti_get (ci := 7) (k := 4) (N := 7) (T := TX7) C hw iw_7 rfl ob_2 (by decide) (by decide) fl_X4_41 rfl rfl dX4_readSum_41 ?_
            refine ti_top (y := x_23) (ex_23.symm) ?_
            have u_48 : (tI M_11 2 4).toInt = (x_23 : Int32).toInt := by rw [(ex_23.symm)]
            refine lv_istore_n (lv' := [(3, .int x_23), (2, .int x_8), (0, .ref (A 1 0)), (1, .int 4)]) hx hb dX4_readSum_44 rfl hl (by decide) rfl (fun ls hl => ?_)
            refine lv_aload_n hx hb dX4_readSum_45 rfl (lv_at hl 2 rfl) ?_
            refine ti_callVvE (ci := 4) (av := []) C hE hw (x_X4_knot l D A cy hJ M_11 iM_11 t ht (f_16) B n g_18 hs_19) ⟨ml_X4_167, ym_X4_knot, yv_X4_knot, yi_X4_knot, yc_X4_knot⟩ yd_X4_knot ob_1 (by decide) rfl rfl hl.1 (Nat.le_of_ble_eq_true rfl) ⟨by decide, by decide⟩ ⟨Nat.zero_le _, Nat.zero_le _⟩ dX4_readSum_46 (fun M_50 H locs hp_50 hw => ?_)
            obtain ⟨iM_50, q_51, q_52, q_53, q_54, p0r_49⟩ := hp_50
            obtain ⟨g_55, eg_55⟩ : ∃ z : Nat → Int, z = pp_kn B n g_18 := ⟨_, rfl⟩
            rw [← eg_55] at p0r_49
            have lg_55_0 : g_55 0 = (tI M_50 2 4).toInt := p0r_49.2.1.1
            have lg_55_1 : g_55 1 = (tI M_50 2 6).toInt := p0r_49.2.1.2.1
            have lg_55_4 : g_55 4 = (tI M_50 1 4).toInt := p0r_49.2.2.1.1
            have lg_55_7 : g_55 7 = (tI M_50 t 4).toInt := p0r_49.2.2.2.1.1
            have lg_55_8 : g_55 8 = (tI M_50 t 5).toInt := p0r_49.2.2.2.1.2.1
            refine lv_aload_n hx hb dX4_readSum_49 rfl (lv_at hl 2 rfl) ?_
            refine lv_iload_n hx hb dX4_readSum_50 rfl (lv_at hl 3 rfl) ?_
            refine ti_callVvE (ci := 4) (av := [.int 4]) C hE hw (x_X4_readProduct_4 l D A cy hJ M_50 iM_50 t ht ((tT_fr q_51).trans f_16) lw hlw ((tT_fr q_51).trans f_17) B n g_55 p0r_49) ⟨ml_X4_184, ym_X4_readProduct, yv_X4_readProduct, yi_X4_readProduct, yc_X4_readProduct⟩ yd_X4_readProduct ob_1 (by decide) rfl rfl hl.1 (Nat.le_of_ble_eq_true rfl) ⟨by decide, by decide⟩ ⟨Nat.zero_le _, Nat.zero_le _⟩ dX4_readSum_51 (fun M_57 H locs hp_57 hw => ?_)
            obtain ⟨iM_57, q_58, q_59, q_60, q_61, p0r_56⟩ := hp_57
            obtain ⟨g_62, eg_62⟩ : ∃ z : Nat → Int, z = pp_pd B n (pp_pt B n 4) g_55 := ⟨_, rfl⟩
            rw [← eg_62] at p0r_56
            have lg_62_0 : g_62 0 = (tI M_57 2 4).toInt := p0r_56.2.1.1
            have lg_62_1 : g_62 1 = (tI M_57 2 6).toInt := p0r_56.2.1.2.1
            have lg_62_4 : g_62 4 = (tI M_57 1 4).toInt := p0r_56.2.2.1.1
            have lg_62_7 : g_62 7 = (tI M_57 t 4).toInt := p0r_56.2.2.2.1.1
            have lg_62_8 : g_62 8 = (tI M_57 t 5).toInt := p0r_56.2.2.2.1.2.1
            refine lv_aload_n hx hb dX4_readSum_54 rfl (lv_at hl 2 rfl) ?_
            refine ti_get (ci := 4) (k := 2) (N := 6) (T := TX4) (v := .ref (A lw 0)) C hw iw_4 rfl ob_1 (by decide) (by decide) fl_X4_154 rfl (ti_Tv ((tT_fr q_58).trans ((tT_fr q_51).trans f_17))) dX4_readSum_55 ?_
            refine lv_iload_n hx hb dX4_readSum_58 rfl (lv_at hl 0 rfl) ?_
            refine lv_ineg hx hb dX4_readSum_59 ?_
            refine lv_topi (fun x_63 ex_63 => ?_)
            have tx_63 : x_63.toInt = -x_23.toInt := i_neg ex_63 rfl (by omega)
            refine ti_callVv (ci := 1) (av := [.int x_63]) C hw (x_X1_add l D A cy hJ M_57 iM_57 lw hlw x_63 (by first | omega | exact Or.inl (by decide) | exact Or.inr (by decide)) t ht B n g_62 p0r_56) ⟨ml_X4_170, ym_X1_add, yv_X1_add, yi_X1_add, yc_X1_add⟩ yd_X1_add hlw (by decide) rfl rfl hl.1 (Nat.le_of_ble_eq_true rfl) ⟨by decide, by decide⟩ ⟨Nat.zero_le _, Nat.zero_le _⟩ dX4_readSum_60 (fun M_65 H locs hp_65 hw => ?_)
            obtain ⟨iM_65, q_66, q_67, p0r_64⟩ := hp_65
            have lM_65_0 : g_62 0 = (tI M_65 2 4).toInt := p0r_64.2.1.1
            have lM_65_1 : g_62 1 = (tI M_65 2 6).toInt := p0r_64.2.1.2.1
            have lM_65_4 : g_62 4 = (tI M_65 1 4).toInt := p0r_64.2.2.1.1
            have lM_65_7 : g_62 7 = (tI M_65 t 4).toInt := p0r_64.2.2.2.1.1
            have lM_65_8 : g_62 8 = (tI M_65 t 5).toInt := p0r_64.2.2.2.1.2.1
            obtain ⟨x_68, ex_68⟩ : ∃ z : Int32, z = x_8 + 1 := ⟨_, rfl⟩
            have tx_68 : x_68.toInt = x_8.toInt + 1 := i_add ex_68 rfl (by decide) (by omega) (by omega)
            refine lv_iinc (v := x_68) (lv' := [(2, .int x_68), (3, .int x_23), (0, .ref (A 1 0)), (1, .int 4)]) hx hb dX4_readSum_63 hl (k := 1) rfl (by rw [ex_68]; rfl) (by decide) rfl (fun ls hl => ?_)
            refine lv_goto (tgt := 7) hx hb dX4_readSum_66 (by decide) ?_
            exact ih_21 x_68 M_65 g_62 _ _ _ (by omega) (by first | omega | decide) (by first | omega | decide) iM_65 ((q_66).trans ((q_58).trans ((q_51).trans f_12))) (f0.trans (f0_x q_67) (f0.trans q_59 (f0.trans q_52 f_13))) (((q_67 1).2.1).trans ((q_60).trans ((q_53).trans f_14))) (ot.trans (ot_fx ht q_67) (ot.trans q_61 (ot.trans q_54 f_15))) ((tT_fr q_66).trans ((tT_fr q_58).trans ((tT_fr q_51).trans f_16))) ((tT_fr q_66).trans ((tT_fr q_58).trans ((tT_fr q_51).trans f_17))) p0r_64 (j_20.trans (lp_step (decide_eq_true (by omega)) (by rw [eg_62, eg_55]) (by omega))) hw (lv_sub hl [0, 2, 3] rfl)
  exact hl_7_20 ((64 - 0 : Int).toNat + 1) 0 M_2 g_7 _ _ _ (Nat.lt_succ_self _) (by have lt0 : (0 : Int32).toInt = 0 := (by decide); first | omega | decide) (by have lt0 : (0 : Int32).toInt = 0 := (by decide); first | omega | decide) iM_2 (q_3) q_4 (q_5) q_6 ((tT_fr q_3).trans hT) ((tT_fr q_3).trans hL) p0r_1 rfl hw (lv_sub hl [0, 1, 2] rfl)
set_option maxHeartbeats 4000000 in
set_option maxRecDepth 100000 in
theorem x_X4_readComparison_4 (l : Launch) (D : va_G) (A : Nat → Nat → Nat) (cy : Nat → ClassId) (hJ : ti_inj ti_LT A) (M : ti_M) (hI : cI Tc M) (t : Nat) (ht : t = 3 ∨ t = 4) (hT : tT M 1 1 = some t) (lw : Nat) (hlw : ti_ob ti_LT lw 1) (hL : tT M 1 2 = some lw) (B : Nat → Int) (n : Nat) (rg : Nat → Int) (hr : rC B n t rg M) : ti_KvE l yX4_readComparison cX4_readComparison 3 39 ti_LT D A cy M [.ref (A 1 0), .int 4] (fun M2 => cI Tc M2 ∧ M2.2.2.2 = M.2.2.2 ∧ f0 M2 M ∧ tI M2 2 1 = tI M 2 1 ∧ ot t M2 M ∧ rC B n t (pp_cm B n (pp_pt B n 4) rg) M2) := by
  refine ti_eVE yp_X4_readComparison hJ ti_LT_nd (Nat.le_of_ble_eq_true rfl) ?_
  intro p e s m args below meth c Q H0 C hE hQ hw ls hl
  have hx := C.1
  have hb := C.2.1
  have hl : lv_has ls 3 [(0, .ref (A 1 0)), (1, .int 4)] := hl
  have l0 : rg 0 = (tI M 2 4).toInt := hr.2.1.1
  have l1 : rg 1 = (tI M 2 6).toInt := hr.2.1.2.1
  have l2 : rg 2 = (tI M 2 5).toInt := hr.2.1.2.2.1
  have l3 : rg 3 = (tI M 2 3).toInt := hr.2.1.2.2.2
  have l4 : rg 4 = (tI M 1 4).toInt := hr.2.2.1.1
  have l5 : rg 5 = (tI M 1 5).toInt := hr.2.2.1.2.1
  have l7 : rg 7 = (tI M t 4).toInt := hr.2.2.2.1.1
  have l8 : rg 8 = (tI M t 5).toInt := hr.2.2.2.1.2.1
  have l9 : rg 9 = (tI M t 3).toInt := hr.2.2.2.1.2.2
  refine lv_aload_n hx hb dX4_readComparison_0 rfl (lv_at hl 0 rfl) ?_
  refine lv_iload_n hx hb dX4_readComparison_1 rfl (lv_at hl 1 rfl) ?_
  refine ti_callVvE (ci := 4) (av := [.int 4]) C hE hw (x_X4_readSum_4 l D A cy hJ M hI t ht (hT) lw hlw (hL) B n rg hr) ⟨ml_X4_181, ym_X4_readSum, yv_X4_readSum, yi_X4_readSum, yc_X4_readSum⟩ yd_X4_readSum ob_1 (by decide) rfl rfl hl.1 (Nat.le_of_ble_eq_true rfl) ⟨by decide, by decide⟩ ⟨Nat.zero_le _, Nat.zero_le _⟩ dX4_readComparison_2 (fun M_2 H locs hp_2 hw => ?_)
  obtain ⟨iM_2, q_3, q_4, q_5, q_6, p0r_1⟩ := hp_2
  obtain ⟨g_7, eg_7⟩ : ∃ z : Nat → Int, z = pp_sm B n (pp_pt B n 4) rg := ⟨_, rfl⟩
  rw [← eg_7] at p0r_1
  have lg_7_0 : g_7 0 = (tI M_2 2 4).toInt := p0r_1.2.1.1
  have lg_7_1 : g_7 1 = (tI M_2 2 6).toInt := p0r_1.2.1.2.1
  have lg_7_4 : g_7 4 = (tI M_2 1 4).toInt := p0r_1.2.2.1.1
  have lg_7_7 : g_7 7 = (tI M_2 t 4).toInt := p0r_1.2.2.2.1.1
  have lg_7_8 : g_7 8 = (tI M_2 t 5).toInt := p0r_1.2.2.2.1.2.1
  refine lv_aload_n hx hb dX4_readComparison_5 rfl (lv_at hl 0 rfl) ?_
  refine ti_get (ci := 4) (k := 0) (N := 6) (T := TX4) (v := .ref (A 2 0)) C hw iw_4 rfl ob_1 (by decide) (by decide) fl_X4_12 rfl rfl dX4_readComparison_6 ?_
  refine ti_get (ci := 7) (k := 4) (N := 7) (T := TX7) C hw iw_7 rfl ob_2 (by decide) (by decide) fl_X4_41 rfl rfl dX4_readComparison_9 ?_
  refine lv_topi (fun x_8 ex_8 => ?_)
  have bx_8 : 0 ≤ x_8.toInt ∧ x_8.toInt ≤ 41 := cI_rd iM_2 ob_2.1 ex_8
  have ux_8 : (tI M_2 2 4).toInt = x_8.toInt := by rw [ex_8]
  refine lv_istore_n (lv' := [(2, .int x_8), (0, .ref (A 1 0)), (1, .int 4)]) hx hb dX4_readComparison_12 rfl hl (by decide) rfl (fun ls hl => ?_)
  refine lv_iload_n hx hb dX4_readComparison_13 rfl (lv_at hl 0 rfl) ?_
  refine lv_bipush (v := 32) hx hb dX4_readComparison_14 (by decide) ?_
  refine sb_icmp_lt (tgt := 43) hx hb rfl (by decide : (32 : Int32).toInt = 32) dX4_readComparison_16 (by decide) (fun c_16_8 => ?_) (fun c_16_8 => ?_)
  · exact hQ _ _ _ _ _ hw (⟨iM_2, (q_3), q_4, (q_5), q_6, (by unfold pp_cm; rw [← eg_7]; unfold pp_c2; rw [if_neg (fun q => by omega)]; exact p0r_1)⟩) dX4_readComparison_43
  · refine lv_iload_n hx hb dX4_readComparison_19 rfl (lv_at hl 0 rfl) ?_
    refine lv_bipush (v := 37) hx hb dX4_readComparison_20 (by decide) ?_
    refine sb_icmp_gt (tgt := 43) hx hb rfl (by decide : (37 : Int32).toInt = 37) dX4_readComparison_22 (by decide) (fun c_22_9 => ?_) (fun c_22_9 => ?_)
    · exact hQ _ _ _ _ _ hw (⟨iM_2, (q_3), q_4, (q_5), q_6, (by unfold pp_cm; rw [← eg_7]; unfold pp_c2; rw [if_neg (fun q => by omega)]; exact p0r_1)⟩) dX4_readComparison_43
    · refine lv_aload_n hx hb dX4_readComparison_25 rfl (lv_at hl 1 rfl) ?_
      refine ti_callVvE (ci := 4) (av := []) C hE hw (x_X4_knot l D A cy hJ M_2 iM_2 t ht ((tT_fr q_3).trans hT) B n g_7 p0r_1) ⟨ml_X4_167, ym_X4_knot, yv_X4_knot, yi_X4_knot, yc_X4_knot⟩ yd_X4_knot ob_1 (by decide) rfl rfl hl.1 (Nat.le_of_ble_eq_true rfl) ⟨by decide, by decide⟩ ⟨Nat.zero_le _, Nat.zero_le _⟩ dX4_readComparison_26 (fun M_12 H locs hp_12 hw => ?_)
      obtain ⟨iM_12, q_13, q_14, q_15, q_16, p0r_11⟩ := hp_12
      obtain ⟨g_17, eg_17⟩ : ∃ z : Nat → Int, z = pp_kn B n g_7 := ⟨_, rfl⟩
      rw [← eg_17] at p0r_11
      have lg_17_0 : g_17 0 = (tI M_12 2 4).toInt := p0r_11.2.1.1
      have lg_17_1 : g_17 1 = (tI M_12 2 6).toInt := p0r_11.2.1.2.1
      have lg_17_4 : g_17 4 = (tI M_12 1 4).toInt := p0r_11.2.2.1.1
      have lg_17_7 : g_17 7 = (tI M_12 t 4).toInt := p0r_11.2.2.2.1.1
      have lg_17_8 : g_17 8 = (tI M_12 t 5).toInt := p0r_11.2.2.2.1.2.1
      refine lv_aload_n hx hb dX4_readComparison_29 rfl (lv_at hl 1 rfl) ?_
      refine lv_iload_n hx hb dX4_readComparison_30 rfl (lv_at hl 2 rfl) ?_
      refine ti_callVvE (ci := 4) (av := [.int 4]) C hE hw (x_X4_readSum_4 l D A cy hJ M_12 iM_12 t ht ((tT_fr q_13).trans ((tT_fr q_3).trans hT)) lw hlw ((tT_fr q_13).trans ((tT_fr q_3).trans hL)) B n g_17 p0r_11) ⟨ml_X4_181, ym_X4_readSum, yv_X4_readSum, yi_X4_readSum, yc_X4_readSum⟩ yd_X4_readSum ob_1 (by decide) rfl rfl hl.1 (Nat.le_of_ble_eq_true rfl) ⟨by decide, by decide⟩ ⟨Nat.zero_le _, Nat.zero_le _⟩ dX4_readComparison_31 (fun M_19 H locs hp_19 hw => ?_)
      obtain ⟨iM_19, q_20, q_21, q_22, q_23, p0r_18⟩ := hp_19
      obtain ⟨g_24, eg_24⟩ : ∃ z : Nat → Int, z = pp_sm B n (pp_pt B n 4) g_17 := ⟨_, rfl⟩
      rw [← eg_24] at p0r_18
      have lg_24_0 : g_24 0 = (tI M_19 2 4).toInt := p0r_18.2.1.1
      have lg_24_1 : g_24 1 = (tI M_19 2 6).toInt := p0r_18.2.1.2.1
      have lg_24_4 : g_24 4 = (tI M_19 1 4).toInt := p0r_18.2.2.1.1
      have lg_24_7 : g_24 7 = (tI M_19 t 4).toInt := p0r_18.2.2.2.1.1
      have lg_24_8 : g_24 8 = (tI M_19 t 5).toInt := p0r_18.2.2.2.1.2.1
      refine lv_aload_n hx hb dX4_readComparison_34 rfl (lv_at hl 1 rfl) ?_
      refine ti_get (ci := 4) (k := 2) (N := 6) (T := TX4) (v := .ref (A lw 0)) C hw iw_4 rfl ob_1 (by decide) (by decide) fl_X4_154 rfl (ti_Tv ((tT_fr q_20).trans ((tT_fr q_13).trans ((tT_fr q_3).trans hL)))) dX4_readComparison_35 ?_
      refine lv_iload_n hx hb dX4_readComparison_38 rfl (lv_at hl 0 rfl) ?_
      refine lv_ineg hx hb dX4_readComparison_39 ?_
      refine lv_topi (fun x_25 ex_25 => ?_)
      have tx_25 : x_25.toInt = -x_8.toInt := i_neg ex_25 rfl (by omega)
      refine ti_callVv (ci := 1) (av := [.int x_25]) C hw (x_X1_add l D A cy hJ M_19 iM_19 lw hlw x_25 (by first | omega | exact Or.inl (by decide) | exact Or.inr (by decide)) t ht B n g_24 p0r_18) ⟨ml_X4_170, ym_X1_add, yv_X1_add, yi_X1_add, yc_X1_add⟩ yd_X1_add hlw (by decide) rfl rfl hl.1 (Nat.le_of_ble_eq_true rfl) ⟨by decide, by decide⟩ ⟨Nat.zero_le _, Nat.zero_le _⟩ dX4_readComparison_40 (fun M_27 H locs hp_27 hw => ?_)
      obtain ⟨iM_27, q_28, q_29, p0r_26⟩ := hp_27
      have lM_27_0 : g_24 0 = (tI M_27 2 4).toInt := p0r_26.2.1.1
      have lM_27_1 : g_24 1 = (tI M_27 2 6).toInt := p0r_26.2.1.2.1
      have lM_27_4 : g_24 4 = (tI M_27 1 4).toInt := p0r_26.2.2.1.1
      have lM_27_7 : g_24 7 = (tI M_27 t 4).toInt := p0r_26.2.2.2.1.1
      have lM_27_8 : g_24 8 = (tI M_27 t 5).toInt := p0r_26.2.2.2.1.2.1
      exact hQ _ _ _ _ _ hw (⟨iM_27, ((q_28).trans ((q_20).trans ((q_13).trans q_3))), (f0.trans (f0_x q_29) (f0.trans q_21 (f0.trans q_14 q_4))), (((q_29 1).2.1).trans ((q_22).trans ((q_15).trans q_5))), (ot.trans (ot_fx ht q_29) (ot.trans q_23 (ot.trans q_16 q_6))), (by unfold pp_cm; rw [← eg_7]; unfold pp_c2; rw [if_pos ⟨by omega, by omega⟩, ← eg_17, ← eg_24]; exact p0r_26)⟩) dX4_readComparison_43
set_option maxHeartbeats 4000000 in
set_option maxRecDepth 100000 in
theorem x_X4_readNegated_4 (l : Launch) (D : va_G) (A : Nat → Nat → Nat) (cy : Nat → ClassId) (hJ : ti_inj ti_LT A) (M : ti_M) (hI : cI Tc M) (t : Nat) (ht : t = 3 ∨ t = 4) (hT : tT M 1 1 = some t) (lw : Nat) (hlw : ti_ob ti_LT lw 1) (hL : tT M 1 2 = some lw) (B : Nat → Int) (n : Nat) (rg : Nat → Int) (hr : rC B n t rg M) : ti_KvE l yX4_readNegated cX4_readNegated 4 40 ti_LT D A cy M [.ref (A 1 0), .int 4] (fun M2 => cI Tc M2 ∧ M2.2.2.2 = M.2.2.2 ∧ f0 M2 M ∧ tI M2 2 1 = tI M 2 1 ∧ ot t M2 M ∧ rC B n t (pp_ng B n (pp_pt B n 4) rg) M2) := by
  refine ti_eVE yp_X4_readNegated hJ ti_LT_nd (Nat.le_of_ble_eq_true rfl) ?_
  intro p e s m args below meth c Q H0 C hE hQ hw ls hl
  have hx := C.1
  have hb := C.2.1
  have hl : lv_has ls 4 [(0, .ref (A 1 0)), (1, .int 4)] := hl
  have l0 : rg 0 = (tI M 2 4).toInt := hr.2.1.1
  have l1 : rg 1 = (tI M 2 6).toInt := hr.2.1.2.1
  have l2 : rg 2 = (tI M 2 5).toInt := hr.2.1.2.2.1
  have l3 : rg 3 = (tI M 2 3).toInt := hr.2.1.2.2.2
  have l4 : rg 4 = (tI M 1 4).toInt := hr.2.2.1.1
  have l5 : rg 5 = (tI M 1 5).toInt := hr.2.2.1.2.1
  have l7 : rg 7 = (tI M t 4).toInt := hr.2.2.2.1.1
  have l8 : rg 8 = (tI M t 5).toInt := hr.2.2.2.1.2.1
  have l9 : rg 9 = (tI M t 3).toInt := hr.2.2.2.1.2.2
  refine lv_iconst (v := 0) hx hb dX4_readNegated_0 (by decide) ?_
  refine lv_istore_n (lv' := [(2, .int 0), (0, .ref (A 1 0)), (1, .int 4)]) hx hb dX4_readNegated_1 rfl hl (by decide) rfl (fun ls hl => ?_)
  have hl_2_13 : ∀ (n_14 : Nat) (x_1 : Int32) (M_4 : ti_M) (g_11 : Nat → Int) (H : Heap) (locs : List Loc) (ls : Array Slot), (65 - x_1.toInt : Int).toNat < n_14 → (0 ≤ x_1.toInt) → (x_1.toInt ≤ 65) → (cI Tc M_4) → (M_4.2.2.2 = M.2.2.2) → (f0 M_4 M) → (tI M_4 2 1 = tI M 2 1) → (ot t M_4 M) → (tT M_4 1 1 = (some t)) → (tT M_4 1 2 = (some lw)) → (rC B n t g_11 M_4) → (pp_lp pp_qN (pp_kn B n) 65 rg = pp_lp pp_qN (pp_kn B n) (65 - (x_1.toInt).toNat) g_11) → ti_H ti_LT D A cy H0 M_4 H locs → lv_has ls 4 [(2, .int x_1), (0, .ref (A 1 0)), (1, .int 4)] → W p l e (ti_rm 40) s m args below meth c H locs 0 0 Q (F0 m 2 ls []) := by
    intro n_14
    induction n_14 with
    | zero => intro x_1 M_4 g_11 H locs ls hf_14; exact absurd hf_14 (Nat.not_lt_zero _)
    | succ n_14 ih_14 =>
      intro x_1 M_4 g_11 H locs ls hf_14 b_2 b_3 iM_4 f_5 f_6 f_7 f_8 f_9 f_10 hs_12 j_13 hw hl
      have lg_11_0 : g_11 0 = (tI M_4 2 4).toInt := hs_12.2.1.1
      have lg_11_1 : g_11 1 = (tI M_4 2 6).toInt := hs_12.2.1.2.1
      have lg_11_4 : g_11 4 = (tI M_4 1 4).toInt := hs_12.2.2.1.1
      have lg_11_7 : g_11 7 = (tI M_4 t 4).toInt := hs_12.2.2.2.1.1
      have lg_11_8 : g_11 8 = (tI M_4 t 5).toInt := hs_12.2.2.2.1.2.1
      refine lv_iload_n hx hb dX4_readNegated_2 rfl (lv_at hl 0 rfl) ?_
      refine lv_bipush (v := 64) hx hb dX4_readNegated_3 (by decide) ?_
      have hj_30_26 : ∀  (H : Heap) (locs : List Loc) (ls : Array Slot), (pp_lp pp_qN (pp_kn B n) 65 rg = g_11) → ti_H ti_LT D A cy H0 M_4 H locs → lv_has ls 4 [(2, .int x_1), (0, .ref (A 1 0)), (1, .int 4)] → W p l e (ti_rm 40) s m args below meth c H locs 0 0 Q (F0 m 30 ls []) := by
        intro  H locs ls j_26 hw hl
        have lg_11_0 : g_11 0 = (tI M_4 2 4).toInt := hs_12.2.1.1
        have lg_11_1 : g_11 1 = (tI M_4 2 6).toInt := hs_12.2.1.2.1
        have lg_11_4 : g_11 4 = (tI M_4 1 4).toInt := hs_12.2.2.1.1
        have lg_11_7 : g_11 7 = (tI M_4 t 4).toInt := hs_12.2.2.2.1.1
        have lg_11_8 : g_11 8 = (tI M_4 t 5).toInt := hs_12.2.2.2.1.2.1
        refine lv_aload_n hx hb dX4_readNegated_30 rfl (lv_at hl 1 rfl) ?_
        refine lv_iload_n hx hb dX4_readNegated_31 rfl (lv_at hl 2 rfl) ?_
        refine ti_callVvE (ci := 4) (av := [.int 4]) C hE hw (x_X4_readComparison_4 l D A cy hJ M_4 iM_4 t ht (f_9) lw hlw (f_10) B n g_11 hs_12) ⟨ml_X4_178, ym_X4_readComparison, yv_X4_readComparison, yi_X4_readComparison, yc_X4_readComparison⟩ yd_X4_readComparison ob_1 (by decide) rfl rfl hl.1 (Nat.le_of_ble_eq_true rfl) ⟨by decide, by decide⟩ ⟨Nat.zero_le _, Nat.zero_le _⟩ dX4_readNegated_32 (fun M_28 H locs hp_28 hw => ?_)
        obtain ⟨iM_28, q_29, q_30, q_31, q_32, p0r_27⟩ := hp_28
        obtain ⟨g_33, eg_33⟩ : ∃ z : Nat → Int, z = pp_cm B n (pp_pt B n 4) g_11 := ⟨_, rfl⟩
        rw [← eg_33] at p0r_27
        have lg_33_0 : g_33 0 = (tI M_28 2 4).toInt := p0r_27.2.1.1
        have lg_33_1 : g_33 1 = (tI M_28 2 6).toInt := p0r_27.2.1.2.1
        have lg_33_4 : g_33 4 = (tI M_28 1 4).toInt := p0r_27.2.2.1.1
        have lg_33_7 : g_33 7 = (tI M_28 t 4).toInt := p0r_27.2.2.2.1.1
        have lg_33_8 : g_33 8 = (tI M_28 t 5).toInt := p0r_27.2.2.2.1.2.1
        have EM : pp_ng B n (pp_pt B n 4) rg = g_33 := by unfold pp_ng; rw [j_26, ← eg_33]
        refine lv_iconst (v := 0) hx hb dX4_readNegated_35 (by decide) ?_
        refine lv_istore_n (lv' := [(3, .int 0), (2, .int x_1), (0, .ref (A 1 0)), (1, .int 4)]) hx hb dX4_readNegated_36 rfl hl (by decide) rfl (fun ls hl => ?_)
        have hl_37_46 : ∀ (n_47 : Nat) (x_34 : Int32) (M_37 : ti_M) (g_44 : Nat → Int) (H : Heap) (locs : List Loc) (ls : Array Slot), (65 - x_34.toInt : Int).toNat < n_47 → (0 ≤ x_34.toInt) → (x_34.toInt ≤ 65) → (cI Tc M_37) → (M_37.2.2.2 = M.2.2.2) → (f0 M_37 M) → (tI M_37 2 1 = tI M 2 1) → (ot t M_37 M) → (tT M_37 1 1 = (some t)) → (tT M_37 1 2 = (some lw)) → (rC B n t g_44 M_37) → (g_33 = g_44) → ti_H ti_LT D A cy H0 M_37 H locs → lv_has ls 4 [(3, .int x_34), (2, .int x_1), (0, .ref (A 1 0)), (1, .int 4)] → W p l e (ti_rm 40) s m args below meth c H locs 0 0 Q (F0 m 37 ls []) := by
          intro n_47
          induction n_47 with
          | zero => intro x_34 M_37 g_44 H locs ls hf_47; exact absurd hf_47 (Nat.not_lt_zero _)
          | succ n_47 ih_47 =>
            intro x_34 M_37 g_44 H locs ls hf_47 b_35 b_36 iM_37 f_38 f_39 f_40 f_41 f_42 f_43 hs_45 j_46 hw hl
            have lg_44_0 : g_44 0 = (tI M_37 2 4).toInt := hs_45.2.1.1
            have lg_44_1 : g_44 1 = (tI M_37 2 6).toInt := hs_45.2.1.2.1
            have lg_44_4 : g_44 4 = (tI M_37 1 4).toInt := hs_45.2.2.1.1
            have lg_44_7 : g_44 7 = (tI M_37 t 4).toInt := hs_45.2.2.2.1.1
            have lg_44_8 : g_44 8 = (tI M_37 t 5).toInt := hs_45.2.2.2.1.2.1
            refine lv_iload_n hx hb dX4_readNegated_37 rfl (lv_at hl 0 rfl) ?_
            refine lv_iload_n hx hb dX4_readNegated_38 rfl (lv_at hl 1 rfl) ?_
            refine sb_icmp_ge (tgt := 57) hx hb rfl rfl dX4_readNegated_39 (by decide) (fun c_39_47 => ?_) (fun c_39_47 => ?_)
            · exact hQ _ _ _ _ _ hw (⟨iM_37, (f_38), f_39, (f_40), f_41, (by rw [EM, j_46]; exact hs_45)⟩) dX4_readNegated_57
            · refine lv_aload_n hx hb dX4_readNegated_42 rfl (lv_at hl 2 rfl) ?_
              refine ti_get (ci := 4) (k := 2) (N := 6) (T := TX4) (v := .ref (A lw 0)) C hw iw_4 rfl ob_1 (by decide) (by decide) fl_X4_154 rfl (ti_Tv (f_43)) dX4_readNegated_43 ?_
              refine lv_bipush (v := (-24)) hx hb dX4_readNegated_46 (by decide) ?_
              refine ti_callVv (ci := 1) (av := [.int (-24)]) C hw (x_X1_add l D A cy hJ M_37 iM_37 lw hlw (-24) (by first | omega | exact Or.inl (by decide) | exact Or.inr (by decide)) t ht B n g_44 hs_45) ⟨ml_X4_170, ym_X1_add, yv_X1_add, yi_X1_add, yc_X1_add⟩ yd_X1_add hlw (by decide) rfl rfl hl.1 (Nat.le_of_ble_eq_true rfl) ⟨by decide, by decide⟩ ⟨Nat.zero_le _, Nat.zero_le _⟩ dX4_readNegated_48 (fun M_50 H locs hp_50 hw => ?_)
              obtain ⟨iM_50, q_51, q_52, p0r_49⟩ := hp_50
              have lM_50_0 : g_44 0 = (tI M_50 2 4).toInt := p0r_49.2.1.1
              have lM_50_1 : g_44 1 = (tI M_50 2 6).toInt := p0r_49.2.1.2.1
              have lM_50_4 : g_44 4 = (tI M_50 1 4).toInt := p0r_49.2.2.1.1
              have lM_50_7 : g_44 7 = (tI M_50 t 4).toInt := p0r_49.2.2.2.1.1
              have lM_50_8 : g_44 8 = (tI M_50 t 5).toInt := p0r_49.2.2.2.1.2.1
              obtain ⟨x_53, ex_53⟩ : ∃ z : Int32, z = x_34 + 1 := ⟨_, rfl⟩
              have tx_53 : x_53.toInt = x_34.toInt + 1 := i_add ex_53 rfl (by decide) (by omega) (by omega)
              refine lv_iinc (v := x_53) (lv' := [(3, .int x_53), (2, .int x_1), (0, .ref (A 1 0)), (1, .int 4)]) hx hb dX4_readNegated_51 hl (k := 0) rfl (by rw [ex_53]; rfl) (by decide) rfl (fun ls hl => ?_)
              refine lv_goto (tgt := 37) hx hb dX4_readNegated_54 (by decide) ?_
              exact ih_47 x_53 M_50 g_44 _ _ _ (by omega) (by first | omega | decide) (by first | omega | decide) iM_50 ((q_51).trans f_38) (f0.trans (f0_x q_52) f_39) (((q_52 1).2.1).trans f_40) (ot.trans (ot_fx ht q_52) f_41) ((tT_fr q_51).trans f_42) ((tT_fr q_51).trans f_43) p0r_49 j_46 hw (lv_sub hl [0, 1, 2, 3] rfl)
        exact hl_37_46 ((65 - 0 : Int).toNat + 1) 0 M_28 g_33 _ _ _ (Nat.lt_succ_self _) (by have lt0 : (0 : Int32).toInt = 0 := (by decide); first | omega | decide) (by have lt0 : (0 : Int32).toInt = 0 := (by decide); first | omega | decide) iM_28 ((q_29).trans f_5) (f0.trans q_30 f_6) ((q_31).trans f_7) (ot.trans q_32 f_8) ((tT_fr q_29).trans f_9) ((tT_fr q_29).trans f_10) p0r_27 rfl hw (lv_sub hl [0, 1, 2, 3] rfl)
      refine sb_icmp_gt (tgt := 30) hx hb rfl (by decide : (64 : Int32).toInt = 64) dX4_readNegated_5 (by decide) (fun c_5_14 => ?_) (fun c_5_14 => ?_)
      · exact hj_30_26  _ _ _ (by rw [j_13, lp_end (P := pp_qN) (f := 65 - x_1.toInt.toNat) (s := g_11) (Or.inl (by omega))]) hw (lv_sub hl [0, 1, 2] rfl)
      · refine lv_aload_n hx hb dX4_readNegated_8 rfl (lv_at hl 1 rfl) ?_
        refine ti_get (ci := 4) (k := 0) (N := 6) (T := TX4) (v := .ref (A 2 0)) C hw iw_4 rfl ob_1 (by decide) (by decide) fl_X4_12 rfl rfl dX4_readNegated_9 ?_
        refine ti_get (ci := 7) (k := 4) (N := 7) (T := TX7) C hw iw_7 rfl ob_2 (by decide) (by decide) fl_X4_41 rfl rfl dX4_readNegated_12 ?_
        refine lv_topi (fun x_16 ex_16 => ?_)
        have bx_16 : 0 ≤ x_16.toInt ∧ x_16.toInt ≤ 41 := cI_rd iM_4 ob_2.1 ex_16
        have ux_16 : (tI M_4 2 4).toInt = x_16.toInt := by rw [ex_16]
        refine lv_bipush (v := 24) hx hb dX4_readNegated_15 (by decide) ?_
        refine sb_icmp_ne (tgt := 30) hx hb rfl (by decide : (24 : Int32).toInt = 24) dX4_readNegated_17 (by decide) (fun c_17_16 => ?_) (fun c_17_16 => ?_)
        · exact hj_30_26  _ _ _ (by rw [j_13, lp_end (P := pp_qN) (f := 65 - x_1.toInt.toNat) (s := g_11) (Or.inr (decide_eq_false (by omega)))]) hw (lv_sub hl [0, 1, 2] rfl)
        · refine lv_aload_n hx hb dX4_readNegated_20 rfl (lv_at hl 1 rfl) ?_
          refine ti_callVvE (ci := 4) (av := []) C hE hw (x_X4_knot l D A cy hJ M_4 iM_4 t ht (f_9) B n g_11 hs_12) ⟨ml_X4_167, ym_X4_knot, yv_X4_knot, yi_X4_knot, yc_X4_knot⟩ yd_X4_knot ob_1 (by decide) rfl rfl hl.1 (Nat.le_of_ble_eq_true rfl) ⟨by decide, by decide⟩ ⟨Nat.zero_le _, Nat.zero_le _⟩ dX4_readNegated_21 (fun M_19 H locs hp_19 hw => ?_)
          obtain ⟨iM_19, q_20, q_21, q_22, q_23, p0r_18⟩ := hp_19
          obtain ⟨g_24, eg_24⟩ : ∃ z : Nat → Int, z = pp_kn B n g_11 := ⟨_, rfl⟩
          rw [← eg_24] at p0r_18
          have lg_24_0 : g_24 0 = (tI M_19 2 4).toInt := p0r_18.2.1.1
          have lg_24_1 : g_24 1 = (tI M_19 2 6).toInt := p0r_18.2.1.2.1
          have lg_24_4 : g_24 4 = (tI M_19 1 4).toInt := p0r_18.2.2.1.1
          have lg_24_7 : g_24 7 = (tI M_19 t 4).toInt := p0r_18.2.2.2.1.1
          have lg_24_8 : g_24 8 = (tI M_19 t 5).toInt := p0r_18.2.2.2.1.2.1
          obtain ⟨x_25, ex_25⟩ : ∃ z : Int32, z = x_1 + 1 := ⟨_, rfl⟩
          have tx_25 : x_25.toInt = x_1.toInt + 1 := i_add ex_25 rfl (by decide) (by omega) (by omega)
          refine lv_iinc (v := x_25) (lv' := [(2, .int x_25), (0, .ref (A 1 0)), (1, .int 4)]) hx hb dX4_readNegated_24 hl (k := 0) rfl (by rw [ex_25]; rfl) (by decide) rfl (fun ls hl => ?_)
          refine lv_goto (tgt := 2) hx hb dX4_readNegated_27 (by decide) ?_
          exact ih_14 x_25 M_19 g_24 _ _ _ (by omega) (by first | omega | decide) (by first | omega | decide) iM_19 ((q_20).trans f_5) (f0.trans q_21 f_6) ((q_22).trans f_7) (ot.trans q_23 f_8) ((tT_fr q_20).trans f_9) ((tT_fr q_20).trans f_10) p0r_18 (j_13.trans (lp_step (decide_eq_true (by omega)) (by rw [eg_24]) (by omega))) hw (lv_sub hl [0, 1, 2] rfl)
  exact hl_2_13 ((65 - 0 : Int).toNat + 1) 0 M rg _ _ _ (Nat.lt_succ_self _) (by have lt0 : (0 : Int32).toInt = 0 := (by decide); first | omega | decide) (by have lt0 : (0 : Int32).toInt = 0 := (by decide); first | omega | decide) hI rfl f0.refl rfl ot.refl (hT) (hL) hr rfl hw (lv_sub hl [0, 1, 2] rfl)
set_option maxHeartbeats 4000000 in
set_option maxRecDepth 100000 in
theorem x_X4_readBoth_4 (l : Launch) (D : va_G) (A : Nat → Nat → Nat) (cy : Nat → ClassId) (hJ : ti_inj ti_LT A) (M : ti_M) (hI : cI Tc M) (t : Nat) (ht : t = 3 ∨ t = 4) (hT : tT M 1 1 = some t) (lw : Nat) (hlw : ti_ob ti_LT lw 1) (hL : tT M 1 2 = some lw) (B : Nat → Int) (n : Nat) (rg : Nat → Int) (hr : rC B n t rg M) : ti_KvE l yX4_readBoth cX4_readBoth 3 41 ti_LT D A cy M [.ref (A 1 0), .int 4] (fun M2 => cI Tc M2 ∧ M2.2.2.2 = M.2.2.2 ∧ f0 M2 M ∧ tI M2 2 1 = tI M 2 1 ∧ ot t M2 M ∧ rC B n t (pp_bo B n (pp_pt B n 4) rg) M2) := by
  refine ti_eVE yp_X4_readBoth hJ ti_LT_nd (Nat.le_of_ble_eq_true rfl) ?_
  intro p e s m args below meth c Q H0 C hE hQ hw ls hl
  have hx := C.1
  have hb := C.2.1
  have hl : lv_has ls 3 [(0, .ref (A 1 0)), (1, .int 4)] := hl
  have l0 : rg 0 = (tI M 2 4).toInt := hr.2.1.1
  have l1 : rg 1 = (tI M 2 6).toInt := hr.2.1.2.1
  have l2 : rg 2 = (tI M 2 5).toInt := hr.2.1.2.2.1
  have l3 : rg 3 = (tI M 2 3).toInt := hr.2.1.2.2.2
  have l4 : rg 4 = (tI M 1 4).toInt := hr.2.2.1.1
  have l5 : rg 5 = (tI M 1 5).toInt := hr.2.2.1.2.1
  have l7 : rg 7 = (tI M t 4).toInt := hr.2.2.2.1.1
  have l8 : rg 8 = (tI M t 5).toInt := hr.2.2.2.1.2.1
  have l9 : rg 9 = (tI M t 3).toInt := hr.2.2.2.1.2.2
  refine lv_aload_n hx hb dX4_readBoth_0 rfl (lv_at hl 0 rfl) ?_
  refine lv_iload_n hx hb dX4_readBoth_1 rfl (lv_at hl 1 rfl) ?_
  refine ti_callVvE (ci := 4) (av := [.int 4]) C hE hw (x_X4_readNegated_4 l D A cy hJ M hI t ht (hT) lw hlw (hL) B n rg hr) ⟨ml_X4_175, ym_X4_readNegated, yv_X4_readNegated, yi_X4_readNegated, yc_X4_readNegated⟩ yd_X4_readNegated ob_1 (by decide) rfl rfl hl.1 (Nat.le_of_ble_eq_true rfl) ⟨by decide, by decide⟩ ⟨Nat.zero_le _, Nat.zero_le _⟩ dX4_readBoth_2 (fun M_2 H locs hp_2 hw => ?_)
  obtain ⟨iM_2, q_3, q_4, q_5, q_6, p0r_1⟩ := hp_2
  obtain ⟨g_7, eg_7⟩ : ∃ z : Nat → Int, z = pp_ng B n (pp_pt B n 4) rg := ⟨_, rfl⟩
  rw [← eg_7] at p0r_1
  have lg_7_0 : g_7 0 = (tI M_2 2 4).toInt := p0r_1.2.1.1
  have lg_7_1 : g_7 1 = (tI M_2 2 6).toInt := p0r_1.2.1.2.1
  have lg_7_4 : g_7 4 = (tI M_2 1 4).toInt := p0r_1.2.2.1.1
  have lg_7_7 : g_7 7 = (tI M_2 t 4).toInt := p0r_1.2.2.2.1.1
  have lg_7_8 : g_7 8 = (tI M_2 t 5).toInt := p0r_1.2.2.2.1.2.1
  refine lv_iconst (v := 0) hx hb dX4_readBoth_5 (by decide) ?_
  refine lv_istore_n (lv' := [(2, .int 0), (0, .ref (A 1 0)), (1, .int 4)]) hx hb dX4_readBoth_6 rfl hl (by decide) rfl (fun ls hl => ?_)
  have hl_7_20 : ∀ (n_21 : Nat) (x_8 : Int32) (M_11 : ti_M) (g_18 : Nat → Int) (H : Heap) (locs : List Loc) (ls : Array Slot), (64 - x_8.toInt : Int).toNat < n_21 → (0 ≤ x_8.toInt) → (x_8.toInt ≤ 64) → (cI Tc M_11) → (M_11.2.2.2 = M.2.2.2) → (f0 M_11 M) → (tI M_11 2 1 = tI M 2 1) → (ot t M_11 M) → (tT M_11 1 1 = (some t)) → (tT M_11 1 2 = (some lw)) → (rC B n t g_18 M_11) → (pp_lp pp_qA (fun s => pp_ng B n (pp_pt B n 4) (pp_kn B n s)) 64 g_7 = pp_lp pp_qA (fun s => pp_ng B n (pp_pt B n 4) (pp_kn B n s)) (64 - (x_8.toInt).toNat) g_18) → ti_H ti_LT D A cy H0 M_11 H locs → lv_has ls 3 [(2, .int x_8), (0, .ref (A 1 0)), (1, .int 4)] → W p l e (ti_rm 41) s m args below meth c H locs 0 0 Q (F0 m 7 ls []) := by
    intro n_21
    induction n_21 with
    | zero => intro x_8 M_11 g_18 H locs ls hf_21; exact absurd hf_21 (Nat.not_lt_zero _)
    | succ n_21 ih_21 =>
      intro x_8 M_11 g_18 H locs ls hf_21 b_9 b_10 iM_11 f_12 f_13 f_14 f_15 f_16 f_17 hs_19 j_20 hw hl
      have lg_18_0 : g_18 0 = (tI M_11 2 4).toInt := hs_19.2.1.1
      have lg_18_1 : g_18 1 = (tI M_11 2 6).toInt := hs_19.2.1.2.1
      have lg_18_4 : g_18 4 = (tI M_11 1 4).toInt := hs_19.2.2.1.1
      have lg_18_7 : g_18 7 = (tI M_11 t 4).toInt := hs_19.2.2.2.1.1
      have lg_18_8 : g_18 8 = (tI M_11 t 5).toInt := hs_19.2.2.2.1.2.1
      refine lv_iload_n hx hb dX4_readBoth_7 rfl (lv_at hl 0 rfl) ?_
      refine lv_bipush (v := 64) hx hb dX4_readBoth_8 (by decide) ?_
      refine sb_icmp_ge (tgt := 49) hx hb rfl (by decide : (64 : Int32).toInt = 64) dX4_readBoth_10 (by decide) (fun c_10_21 => ?_) (fun c_10_21 => ?_)
      · exact hQ _ _ _ _ _ hw (⟨iM_11, (f_12), f_13, (f_14), f_15, (by unfold pp_bo; rw [← eg_7, j_20, lp_end (P := pp_qA) (f := 64 - x_8.toInt.toNat) (s := g_18) (Or.inl (by omega))]; exact hs_19)⟩) dX4_readBoth_49
      · refine lv_aload_n hx hb dX4_readBoth_13 rfl (lv_at hl 1 rfl) ?_
        refine ti_get (ci := 4) (k := 0) (N := 6) (T := TX4) (v := .ref (A 2 0)) C hw iw_4 rfl ob_1 (by decide) (by decide) fl_X4_12 rfl rfl dX4_readBoth_14 ?_
        refine ti_get (ci := 7) (k := 4) (N := 7) (T := TX7) C hw iw_7 rfl ob_2 (by decide) (by decide) fl_X4_41 rfl rfl dX4_readBoth_17 ?_
        refine lv_topi (fun x_23 ex_23 => ?_)
        have bx_23 : 0 ≤ x_23.toInt ∧ x_23.toInt ≤ 41 := cI_rd iM_11 ob_2.1 ex_23
        have ux_23 : (tI M_11 2 4).toInt = x_23.toInt := by rw [ex_23]
        refine lv_bipush (v := 22) hx hb dX4_readBoth_20 (by decide) ?_
        refine sb_icmp_ne (tgt := 49) hx hb rfl (by decide : (22 : Int32).toInt = 22) dX4_readBoth_22 (by decide) (fun c_22_23 => ?_) (fun c_22_23 => ?_)
        · exact hQ _ _ _ _ _ hw (⟨iM_11, (f_12), f_13, (f_14), f_15, (by unfold pp_bo; rw [← eg_7, j_20, lp_end (P := pp_qA) (f := 64 - x_8.toInt.toNat) (s := g_18) (Or.inr (decide_eq_false (by omega)))]; exact hs_19)⟩) dX4_readBoth_49
        · refine lv_aload_n hx hb dX4_readBoth_25 rfl (lv_at hl 1 rfl) ?_
          refine ti_callVvE (ci := 4) (av := []) C hE hw (x_X4_knot l D A cy hJ M_11 iM_11 t ht (f_16) B n g_18 hs_19) ⟨ml_X4_167, ym_X4_knot, yv_X4_knot, yi_X4_knot, yc_X4_knot⟩ yd_X4_knot ob_1 (by decide) rfl rfl hl.1 (Nat.le_of_ble_eq_true rfl) ⟨by decide, by decide⟩ ⟨Nat.zero_le _, Nat.zero_le _⟩ dX4_readBoth_26 (fun M_26 H locs hp_26 hw => ?_)
          obtain ⟨iM_26, q_27, q_28, q_29, q_30, p0r_25⟩ := hp_26
          obtain ⟨g_31, eg_31⟩ : ∃ z : Nat → Int, z = pp_kn B n g_18 := ⟨_, rfl⟩
          rw [← eg_31] at p0r_25
          have lg_31_0 : g_31 0 = (tI M_26 2 4).toInt := p0r_25.2.1.1
          have lg_31_1 : g_31 1 = (tI M_26 2 6).toInt := p0r_25.2.1.2.1
          have lg_31_4 : g_31 4 = (tI M_26 1 4).toInt := p0r_25.2.2.1.1
          have lg_31_7 : g_31 7 = (tI M_26 t 4).toInt := p0r_25.2.2.2.1.1
          have lg_31_8 : g_31 8 = (tI M_26 t 5).toInt := p0r_25.2.2.2.1.2.1
          refine lv_aload_n hx hb dX4_readBoth_29 rfl (lv_at hl 1 rfl) ?_
          refine lv_iload_n hx hb dX4_readBoth_30 rfl (lv_at hl 2 rfl) ?_
          refine ti_callVvE (ci := 4) (av := [.int 4]) C hE hw (x_X4_readNegated_4 l D A cy hJ M_26 iM_26 t ht ((tT_fr q_27).trans f_16) lw hlw ((tT_fr q_27).trans f_17) B n g_31 p0r_25) ⟨ml_X4_175, ym_X4_readNegated, yv_X4_readNegated, yi_X4_readNegated, yc_X4_readNegated⟩ yd_X4_readNegated ob_1 (by decide) rfl rfl hl.1 (Nat.le_of_ble_eq_true rfl) ⟨by decide, by decide⟩ ⟨Nat.zero_le _, Nat.zero_le _⟩ dX4_readBoth_31 (fun M_33 H locs hp_33 hw => ?_)
          obtain ⟨iM_33, q_34, q_35, q_36, q_37, p0r_32⟩ := hp_33
          obtain ⟨g_38, eg_38⟩ : ∃ z : Nat → Int, z = pp_ng B n (pp_pt B n 4) g_31 := ⟨_, rfl⟩
          rw [← eg_38] at p0r_32
          have lg_38_0 : g_38 0 = (tI M_33 2 4).toInt := p0r_32.2.1.1
          have lg_38_1 : g_38 1 = (tI M_33 2 6).toInt := p0r_32.2.1.2.1
          have lg_38_4 : g_38 4 = (tI M_33 1 4).toInt := p0r_32.2.2.1.1
          have lg_38_7 : g_38 7 = (tI M_33 t 4).toInt := p0r_32.2.2.2.1.1
          have lg_38_8 : g_38 8 = (tI M_33 t 5).toInt := p0r_32.2.2.2.1.2.1
          refine lv_aload_n hx hb dX4_readBoth_34 rfl (lv_at hl 1 rfl) ?_
          refine ti_get (ci := 4) (k := 2) (N := 6) (T := TX4) (v := .ref (A lw 0)) C hw iw_4 rfl ob_1 (by decide) (by decide) fl_X4_154 rfl (ti_Tv ((tT_fr q_34).trans ((tT_fr q_27).trans f_17))) dX4_readBoth_35 ?_
          refine lv_bipush (v := (-22)) hx hb dX4_readBoth_38 (by decide) ?_
          refine ti_callVv (ci := 1) (av := [.int (-22)]) C hw (x_X1_add l D A cy hJ M_33 iM_33 lw hlw (-22) (by first | omega | exact Or.inl (by decide) | exact Or.inr (by decide)) t ht B n g_38 p0r_32) ⟨ml_X4_170, ym_X1_add, yv_X1_add, yi_X1_add, yc_X1_add⟩ yd_X1_add hlw (by decide) rfl rfl hl.1 (Nat.le_of_ble_eq_true rfl) ⟨by decide, by decide⟩ ⟨Nat.zero_le _, Nat.zero_le _⟩ dX4_readBoth_40 (fun M_40 H locs hp_40 hw => ?_)
          obtain ⟨iM_40, q_41, q_42, p0r_39⟩ := hp_40
          have lM_40_0 : g_38 0 = (tI M_40 2 4).toInt := p0r_39.2.1.1
          have lM_40_1 : g_38 1 = (tI M_40 2 6).toInt := p0r_39.2.1.2.1
          have lM_40_4 : g_38 4 = (tI M_40 1 4).toInt := p0r_39.2.2.1.1
          have lM_40_7 : g_38 7 = (tI M_40 t 4).toInt := p0r_39.2.2.2.1.1
          have lM_40_8 : g_38 8 = (tI M_40 t 5).toInt := p0r_39.2.2.2.1.2.1
          obtain ⟨x_43, ex_43⟩ : ∃ z : Int32, z = x_8 + 1 := ⟨_, rfl⟩
          have tx_43 : x_43.toInt = x_8.toInt + 1 := i_add ex_43 rfl (by decide) (by omega) (by omega)
          refine lv_iinc (v := x_43) (lv' := [(2, .int x_43), (0, .ref (A 1 0)), (1, .int 4)]) hx hb dX4_readBoth_43 hl (k := 0) rfl (by rw [ex_43]; rfl) (by decide) rfl (fun ls hl => ?_)
          refine lv_goto (tgt := 7) hx hb dX4_readBoth_46 (by decide) ?_
          exact ih_21 x_43 M_40 g_38 _ _ _ (by omega) (by first | omega | decide) (by first | omega | decide) iM_40 ((q_41).trans ((q_34).trans ((q_27).trans f_12))) (f0.trans (f0_x q_42) (f0.trans q_35 (f0.trans q_28 f_13))) (((q_42 1).2.1).trans ((q_36).trans ((q_29).trans f_14))) (ot.trans (ot_fx ht q_42) (ot.trans q_37 (ot.trans q_30 f_15))) ((tT_fr q_41).trans ((tT_fr q_34).trans ((tT_fr q_27).trans f_16))) ((tT_fr q_41).trans ((tT_fr q_34).trans ((tT_fr q_27).trans f_17))) p0r_39 (j_20.trans (lp_step (decide_eq_true (by omega)) (by rw [eg_38, eg_31]) (by omega))) hw (lv_sub hl [0, 1, 2] rfl)
  exact hl_7_20 ((64 - 0 : Int).toNat + 1) 0 M_2 g_7 _ _ _ (Nat.lt_succ_self _) (by have lt0 : (0 : Int32).toInt = 0 := (by decide); first | omega | decide) (by have lt0 : (0 : Int32).toInt = 0 := (by decide); first | omega | decide) iM_2 (q_3) q_4 (q_5) q_6 ((tT_fr q_3).trans hT) ((tT_fr q_3).trans hL) p0r_1 rfl hw (lv_sub hl [0, 1, 2] rfl)
set_option maxHeartbeats 4000000 in
set_option maxRecDepth 100000 in
theorem x_X4_readEither_4 (l : Launch) (D : va_G) (A : Nat → Nat → Nat) (cy : Nat → ClassId) (hJ : ti_inj ti_LT A) (M : ti_M) (hI : cI Tc M) (t : Nat) (ht : t = 3 ∨ t = 4) (hT : tT M 1 1 = some t) (lw : Nat) (hlw : ti_ob ti_LT lw 1) (hL : tT M 1 2 = some lw) (B : Nat → Int) (n : Nat) (rg : Nat → Int) (hr : rC B n t rg M) : ti_KvE l yX4_readEither cX4_readEither 3 42 ti_LT D A cy M [.ref (A 1 0), .int 4] (fun M2 => cI Tc M2 ∧ M2.2.2.2 = M.2.2.2 ∧ f0 M2 M ∧ tI M2 2 1 = tI M 2 1 ∧ ot t M2 M ∧ rC B n t (pp_ei B n (pp_pt B n 4) rg) M2) := by
  refine ti_eVE yp_X4_readEither hJ ti_LT_nd (Nat.le_of_ble_eq_true rfl) ?_
  intro p e s m args below meth c Q H0 C hE hQ hw ls hl
  have hx := C.1
  have hb := C.2.1
  have hl : lv_has ls 3 [(0, .ref (A 1 0)), (1, .int 4)] := hl
  have l0 : rg 0 = (tI M 2 4).toInt := hr.2.1.1
  have l1 : rg 1 = (tI M 2 6).toInt := hr.2.1.2.1
  have l2 : rg 2 = (tI M 2 5).toInt := hr.2.1.2.2.1
  have l3 : rg 3 = (tI M 2 3).toInt := hr.2.1.2.2.2
  have l4 : rg 4 = (tI M 1 4).toInt := hr.2.2.1.1
  have l5 : rg 5 = (tI M 1 5).toInt := hr.2.2.1.2.1
  have l7 : rg 7 = (tI M t 4).toInt := hr.2.2.2.1.1
  have l8 : rg 8 = (tI M t 5).toInt := hr.2.2.2.1.2.1
  have l9 : rg 9 = (tI M t 3).toInt := hr.2.2.2.1.2.2
  refine lv_aload_n hx hb dX4_readEither_0 rfl (lv_at hl 0 rfl) ?_
  refine lv_iload_n hx hb dX4_readEither_1 rfl (lv_at hl 1 rfl) ?_
  refine ti_callVvE (ci := 4) (av := [.int 4]) C hE hw (x_X4_readBoth_4 l D A cy hJ M hI t ht (hT) lw hlw (hL) B n rg hr) ⟨ml_X4_164, ym_X4_readBoth, yv_X4_readBoth, yi_X4_readBoth, yc_X4_readBoth⟩ yd_X4_readBoth ob_1 (by decide) rfl rfl hl.1 (Nat.le_of_ble_eq_true rfl) ⟨by decide, by decide⟩ ⟨Nat.zero_le _, Nat.zero_le _⟩ dX4_readEither_2 (fun M_2 H locs hp_2 hw => ?_)
  obtain ⟨iM_2, q_3, q_4, q_5, q_6, p0r_1⟩ := hp_2
  obtain ⟨g_7, eg_7⟩ : ∃ z : Nat → Int, z = pp_bo B n (pp_pt B n 4) rg := ⟨_, rfl⟩
  rw [← eg_7] at p0r_1
  have lg_7_0 : g_7 0 = (tI M_2 2 4).toInt := p0r_1.2.1.1
  have lg_7_1 : g_7 1 = (tI M_2 2 6).toInt := p0r_1.2.1.2.1
  have lg_7_4 : g_7 4 = (tI M_2 1 4).toInt := p0r_1.2.2.1.1
  have lg_7_7 : g_7 7 = (tI M_2 t 4).toInt := p0r_1.2.2.2.1.1
  have lg_7_8 : g_7 8 = (tI M_2 t 5).toInt := p0r_1.2.2.2.1.2.1
  refine lv_iconst (v := 0) hx hb dX4_readEither_5 (by decide) ?_
  refine lv_istore_n (lv' := [(2, .int 0), (0, .ref (A 1 0)), (1, .int 4)]) hx hb dX4_readEither_6 rfl hl (by decide) rfl (fun ls hl => ?_)
  have hl_7_20 : ∀ (n_21 : Nat) (x_8 : Int32) (M_11 : ti_M) (g_18 : Nat → Int) (H : Heap) (locs : List Loc) (ls : Array Slot), (64 - x_8.toInt : Int).toNat < n_21 → (0 ≤ x_8.toInt) → (x_8.toInt ≤ 64) → (cI Tc M_11) → (M_11.2.2.2 = M.2.2.2) → (f0 M_11 M) → (tI M_11 2 1 = tI M 2 1) → (ot t M_11 M) → (tT M_11 1 1 = (some t)) → (tT M_11 1 2 = (some lw)) → (rC B n t g_18 M_11) → (pp_lp pp_qO (fun s => pp_bo B n (pp_pt B n 4) (pp_kn B n s)) 64 g_7 = pp_lp pp_qO (fun s => pp_bo B n (pp_pt B n 4) (pp_kn B n s)) (64 - (x_8.toInt).toNat) g_18) → ti_H ti_LT D A cy H0 M_11 H locs → lv_has ls 3 [(2, .int x_8), (0, .ref (A 1 0)), (1, .int 4)] → W p l e (ti_rm 42) s m args below meth c H locs 0 0 Q (F0 m 7 ls []) := by
    intro n_21
    induction n_21 with
    | zero => intro x_8 M_11 g_18 H locs ls hf_21; exact absurd hf_21 (Nat.not_lt_zero _)
    | succ n_21 ih_21 =>
      intro x_8 M_11 g_18 H locs ls hf_21 b_9 b_10 iM_11 f_12 f_13 f_14 f_15 f_16 f_17 hs_19 j_20 hw hl
      have lg_18_0 : g_18 0 = (tI M_11 2 4).toInt := hs_19.2.1.1
      have lg_18_1 : g_18 1 = (tI M_11 2 6).toInt := hs_19.2.1.2.1
      have lg_18_4 : g_18 4 = (tI M_11 1 4).toInt := hs_19.2.2.1.1
      have lg_18_7 : g_18 7 = (tI M_11 t 4).toInt := hs_19.2.2.2.1.1
      have lg_18_8 : g_18 8 = (tI M_11 t 5).toInt := hs_19.2.2.2.1.2.1
      refine lv_iload_n hx hb dX4_readEither_7 rfl (lv_at hl 0 rfl) ?_
      refine lv_bipush (v := 64) hx hb dX4_readEither_8 (by decide) ?_
      refine sb_icmp_ge (tgt := 49) hx hb rfl (by decide : (64 : Int32).toInt = 64) dX4_readEither_10 (by decide) (fun c_10_21 => ?_) (fun c_10_21 => ?_)
      · exact hQ _ _ _ _ _ hw (⟨iM_11, (f_12), f_13, (f_14), f_15, (by unfold pp_ei; rw [← eg_7, j_20, lp_end (P := pp_qO) (f := 64 - x_8.toInt.toNat) (s := g_18) (Or.inl (by omega))]; exact hs_19)⟩) dX4_readEither_49
      · refine lv_aload_n hx hb dX4_readEither_13 rfl (lv_at hl 1 rfl) ?_
        refine ti_get (ci := 4) (k := 0) (N := 6) (T := TX4) (v := .ref (A 2 0)) C hw iw_4 rfl ob_1 (by decide) (by decide) fl_X4_12 rfl rfl dX4_readEither_14 ?_
        refine ti_get (ci := 7) (k := 4) (N := 7) (T := TX7) C hw iw_7 rfl ob_2 (by decide) (by decide) fl_X4_41 rfl rfl dX4_readEither_17 ?_
        refine lv_topi (fun x_23 ex_23 => ?_)
        have bx_23 : 0 ≤ x_23.toInt ∧ x_23.toInt ≤ 41 := cI_rd iM_11 ob_2.1 ex_23
        have ux_23 : (tI M_11 2 4).toInt = x_23.toInt := by rw [ex_23]
        refine lv_bipush (v := 23) hx hb dX4_readEither_20 (by decide) ?_
        refine sb_icmp_ne (tgt := 49) hx hb rfl (by decide : (23 : Int32).toInt = 23) dX4_readEither_22 (by decide) (fun c_22_23 => ?_) (fun c_22_23 => ?_)
        · exact hQ _ _ _ _ _ hw (⟨iM_11, (f_12), f_13, (f_14), f_15, (by unfold pp_ei; rw [← eg_7, j_20, lp_end (P := pp_qO) (f := 64 - x_8.toInt.toNat) (s := g_18) (Or.inr (decide_eq_false (by omega)))]; exact hs_19)⟩) dX4_readEither_49
        · refine lv_aload_n hx hb dX4_readEither_25 rfl (lv_at hl 1 rfl) ?_
          refine ti_callVvE (ci := 4) (av := []) C hE hw (x_X4_knot l D A cy hJ M_11 iM_11 t ht (f_16) B n g_18 hs_19) ⟨ml_X4_167, ym_X4_knot, yv_X4_knot, yi_X4_knot, yc_X4_knot⟩ yd_X4_knot ob_1 (by decide) rfl rfl hl.1 (Nat.le_of_ble_eq_true rfl) ⟨by decide, by decide⟩ ⟨Nat.zero_le _, Nat.zero_le _⟩ dX4_readEither_26 (fun M_26 H locs hp_26 hw => ?_)
          obtain ⟨iM_26, q_27, q_28, q_29, q_30, p0r_25⟩ := hp_26
          obtain ⟨g_31, eg_31⟩ : ∃ z : Nat → Int, z = pp_kn B n g_18 := ⟨_, rfl⟩
          rw [← eg_31] at p0r_25
          have lg_31_0 : g_31 0 = (tI M_26 2 4).toInt := p0r_25.2.1.1
          have lg_31_1 : g_31 1 = (tI M_26 2 6).toInt := p0r_25.2.1.2.1
          have lg_31_4 : g_31 4 = (tI M_26 1 4).toInt := p0r_25.2.2.1.1
          have lg_31_7 : g_31 7 = (tI M_26 t 4).toInt := p0r_25.2.2.2.1.1
          have lg_31_8 : g_31 8 = (tI M_26 t 5).toInt := p0r_25.2.2.2.1.2.1
          refine lv_aload_n hx hb dX4_readEither_29 rfl (lv_at hl 1 rfl) ?_
          refine lv_iload_n hx hb dX4_readEither_30 rfl (lv_at hl 2 rfl) ?_
          refine ti_callVvE (ci := 4) (av := [.int 4]) C hE hw (x_X4_readBoth_4 l D A cy hJ M_26 iM_26 t ht ((tT_fr q_27).trans f_16) lw hlw ((tT_fr q_27).trans f_17) B n g_31 p0r_25) ⟨ml_X4_164, ym_X4_readBoth, yv_X4_readBoth, yi_X4_readBoth, yc_X4_readBoth⟩ yd_X4_readBoth ob_1 (by decide) rfl rfl hl.1 (Nat.le_of_ble_eq_true rfl) ⟨by decide, by decide⟩ ⟨Nat.zero_le _, Nat.zero_le _⟩ dX4_readEither_31 (fun M_33 H locs hp_33 hw => ?_)
          obtain ⟨iM_33, q_34, q_35, q_36, q_37, p0r_32⟩ := hp_33
          obtain ⟨g_38, eg_38⟩ : ∃ z : Nat → Int, z = pp_bo B n (pp_pt B n 4) g_31 := ⟨_, rfl⟩
          rw [← eg_38] at p0r_32
          have lg_38_0 : g_38 0 = (tI M_33 2 4).toInt := p0r_32.2.1.1
          have lg_38_1 : g_38 1 = (tI M_33 2 6).toInt := p0r_32.2.1.2.1
          have lg_38_4 : g_38 4 = (tI M_33 1 4).toInt := p0r_32.2.2.1.1
          have lg_38_7 : g_38 7 = (tI M_33 t 4).toInt := p0r_32.2.2.2.1.1
          have lg_38_8 : g_38 8 = (tI M_33 t 5).toInt := p0r_32.2.2.2.1.2.1
          refine lv_aload_n hx hb dX4_readEither_34 rfl (lv_at hl 1 rfl) ?_
          refine ti_get (ci := 4) (k := 2) (N := 6) (T := TX4) (v := .ref (A lw 0)) C hw iw_4 rfl ob_1 (by decide) (by decide) fl_X4_154 rfl (ti_Tv ((tT_fr q_34).trans ((tT_fr q_27).trans f_17))) dX4_readEither_35 ?_
          refine lv_bipush (v := (-23)) hx hb dX4_readEither_38 (by decide) ?_
          refine ti_callVv (ci := 1) (av := [.int (-23)]) C hw (x_X1_add l D A cy hJ M_33 iM_33 lw hlw (-23) (by first | omega | exact Or.inl (by decide) | exact Or.inr (by decide)) t ht B n g_38 p0r_32) ⟨ml_X4_170, ym_X1_add, yv_X1_add, yi_X1_add, yc_X1_add⟩ yd_X1_add hlw (by decide) rfl rfl hl.1 (Nat.le_of_ble_eq_true rfl) ⟨by decide, by decide⟩ ⟨Nat.zero_le _, Nat.zero_le _⟩ dX4_readEither_40 (fun M_40 H locs hp_40 hw => ?_)
          obtain ⟨iM_40, q_41, q_42, p0r_39⟩ := hp_40
          have lM_40_0 : g_38 0 = (tI M_40 2 4).toInt := p0r_39.2.1.1
          have lM_40_1 : g_38 1 = (tI M_40 2 6).toInt := p0r_39.2.1.2.1
          have lM_40_4 : g_38 4 = (tI M_40 1 4).toInt := p0r_39.2.2.1.1
          have lM_40_7 : g_38 7 = (tI M_40 t 4).toInt := p0r_39.2.2.2.1.1
          have lM_40_8 : g_38 8 = (tI M_40 t 5).toInt := p0r_39.2.2.2.1.2.1
          obtain ⟨x_43, ex_43⟩ : ∃ z : Int32, z = x_8 + 1 := ⟨_, rfl⟩
          have tx_43 : x_43.toInt = x_8.toInt + 1 := i_add ex_43 rfl (by decide) (by omega) (by omega)
          refine lv_iinc (v := x_43) (lv' := [(2, .int x_43), (0, .ref (A 1 0)), (1, .int 4)]) hx hb dX4_readEither_43 hl (k := 0) rfl (by rw [ex_43]; rfl) (by decide) rfl (fun ls hl => ?_)
          refine lv_goto (tgt := 7) hx hb dX4_readEither_46 (by decide) ?_
          exact ih_21 x_43 M_40 g_38 _ _ _ (by omega) (by first | omega | decide) (by first | omega | decide) iM_40 ((q_41).trans ((q_34).trans ((q_27).trans f_12))) (f0.trans (f0_x q_42) (f0.trans q_35 (f0.trans q_28 f_13))) (((q_42 1).2.1).trans ((q_36).trans ((q_29).trans f_14))) (ot.trans (ot_fx ht q_42) (ot.trans q_37 (ot.trans q_30 f_15))) ((tT_fr q_41).trans ((tT_fr q_34).trans ((tT_fr q_27).trans f_16))) ((tT_fr q_41).trans ((tT_fr q_34).trans ((tT_fr q_27).trans f_17))) p0r_39 (j_20.trans (lp_step (decide_eq_true (by omega)) (by rw [eg_38, eg_31]) (by omega))) hw (lv_sub hl [0, 1, 2] rfl)
  exact hl_7_20 ((64 - 0 : Int).toNat + 1) 0 M_2 g_7 _ _ _ (Nat.lt_succ_self _) (by have lt0 : (0 : Int32).toInt = 0 := (by decide); first | omega | decide) (by have lt0 : (0 : Int32).toInt = 0 := (by decide); first | omega | decide) iM_2 (q_3) q_4 (q_5) q_6 ((tT_fr q_3).trans hT) ((tT_fr q_3).trans hL) p0r_1 rfl hw (lv_sub hl [0, 1, 2] rfl)
set_option maxHeartbeats 4000000 in
set_option maxRecDepth 100000 in
theorem x_X4_readPart_3 (l : Launch) (D : va_G) (A : Nat → Nat → Nat) (cy : Nat → ClassId) (hJ : ti_inj ti_LT A) (M : ti_M) (hI : cI Tc M) (t : Nat) (ht : t = 3 ∨ t = 4) (hT : tT M 1 1 = some t) (lw : Nat) (hlw : ti_ob ti_LT lw 1) (hL : tT M 1 2 = some lw) (B : Nat → Int) (n : Nat) (rg : Nat → Int) (hr : rC B n t rg M) : ti_KvE l yX4_readPart cX4_readPart 3 43 ti_LT D A cy M [.ref (A 1 0), .int 3] (fun M2 => cI Tc M2 ∧ M2.2.2.2 = M.2.2.2 ∧ f0 M2 M ∧ tI M2 2 1 = tI M 2 1 ∧ ot t M2 M ∧ rC B n t (pp_pt B n 5 rg) M2) := by
  refine ti_eVE yp_X4_readPart hJ ti_LT_nd (Nat.le_of_ble_eq_true rfl) ?_
  intro p e s m args below meth c Q H0 C hE hQ hw ls hl
  have hx := C.1
  have hb := C.2.1
  have hl : lv_has ls 3 [(0, .ref (A 1 0)), (1, .int 3)] := hl
  have l0 : rg 0 = (tI M 2 4).toInt := hr.2.1.1
  have l1 : rg 1 = (tI M 2 6).toInt := hr.2.1.2.1
  have l2 : rg 2 = (tI M 2 5).toInt := hr.2.1.2.2.1
  have l3 : rg 3 = (tI M 2 3).toInt := hr.2.1.2.2.2
  have l4 : rg 4 = (tI M 1 4).toInt := hr.2.2.1.1
  have l5 : rg 5 = (tI M 1 5).toInt := hr.2.2.1.2.1
  have l7 : rg 7 = (tI M t 4).toInt := hr.2.2.2.1.1
  have l8 : rg 8 = (tI M t 5).toInt := hr.2.2.2.1.2.1
  have l9 : rg 9 = (tI M t 3).toInt := hr.2.2.2.1.2.2
  refine lv_aload_n hx hb dX4_readPart_0 rfl (lv_at hl 0 rfl) ?_
  refine ti_get (ci := 4) (k := 0) (N := 6) (T := TX4) (v := .ref (A 2 0)) C hw iw_4 rfl ob_1 (by decide) (by decide) fl_X4_12 rfl rfl dX4_readPart_1 ?_
  refine ti_get (ci := 7) (k := 4) (N := 7) (T := TX7) C hw iw_7 rfl ob_2 (by decide) (by decide) fl_X4_41 rfl rfl dX4_readPart_4 ?_
  refine lv_topi (fun x_1 ex_1 => ?_)
  have bx_1 : 0 ≤ x_1.toInt ∧ x_1.toInt ≤ 41 := cI_rd hI ob_2.1 ex_1
  have ux_1 : (tI M 2 4).toInt = x_1.toInt := by rw [ex_1]
  refine lv_istore_n (lv' := [(2, .int x_1), (0, .ref (A 1 0)), (1, .int 3)]) hx hb dX4_readPart_7 rfl hl (by decide) rfl (fun ls hl => ?_)
  refine lv_iload_n hx hb dX4_readPart_8 rfl (lv_at hl 0 rfl) ?_
  refine lv_bipush (v := 30) hx hb dX4_readPart_9 (by decide) ?_
  refine sb_icmp_ne (tgt := 28) hx hb rfl (by decide : (30 : Int32).toInt = 30) dX4_readPart_11 (by decide) (fun c_11_1 => ?_) (fun c_11_1 => ?_)
  · refine lv_iload_n hx hb dX4_readPart_28 rfl (lv_at hl 0 rfl) ?_
    refine lv_bipush (v := 30) hx hb dX4_readPart_29 (by decide) ?_
    refine sb_icmp_ne (tgt := 57) hx hb rfl (by decide : (30 : Int32).toInt = 30) dX4_readPart_31 (by decide) (fun c_31_3 => ?_) (fun h => by omega)
    refine lv_iload_n hx hb dX4_readPart_57 rfl (lv_at hl 0 rfl) ?_
    refine lv_bipush (v := 26) hx hb dX4_readPart_58 (by decide) ?_
    refine sb_icmp_ne (tgt := 84) hx hb rfl (by decide : (26 : Int32).toInt = 26) dX4_readPart_60 (by decide) (fun c_60_26 => ?_) (fun c_60_26 => ?_)
    · refine lv_iload_n hx hb dX4_readPart_84 rfl (lv_at hl 0 rfl) ?_
      refine lv_bipush (v := 26) hx hb dX4_readPart_85 (by decide) ?_
      refine sb_icmp_ne (tgt := 111) hx hb rfl (by decide : (26 : Int32).toInt = 26) dX4_readPart_87 (by decide) (fun c_87_35 => ?_) (fun h => by omega)
      refine lv_iload_n hx hb dX4_readPart_111 rfl (lv_at hl 0 rfl) ?_
      refine lv_bipush (v := 16) hx hb dX4_readPart_112 (by decide) ?_
      refine sb_icmp_lt (tgt := 139) hx hb rfl (by decide : (16 : Int32).toInt = 16) dX4_readPart_114 (by decide) (fun c_114_49 => ?_) (fun c_114_49 => ?_)
      · refine lv_aload_n hx hb dX4_readPart_139 rfl (lv_at hl 1 rfl) ?_
        refine lv_iconst (v := 1) hx hb dX4_readPart_140 (by decide) ?_
        refine ti_callVv (ci := 4) (av := [.int 1]) C hw (x_X4_refuse l D A cy hJ M hI t ht 1 B n rg hr) ⟨ml_X4_82, ym_X4_refuse, yv_X4_refuse, yi_X4_refuse, yc_X4_refuse⟩ yd_X4_refuse ob_1 (by decide) rfl rfl hl.1 (Nat.le_of_ble_eq_true rfl) ⟨by decide, by decide⟩ ⟨Nat.zero_le _, Nat.zero_le _⟩ dX4_readPart_141 (fun M_65 H locs hp_65 hw => ?_)
        obtain ⟨iM_65, q_66, q_67, q_68, p0r_64⟩ := hp_65
        have hlr_64_1 : (1 : Int32).toInt = 1 := by decide
        simp only [hlr_64_1] at p0r_64
        obtain ⟨g_69, eg_69⟩ : ∃ z : Nat → Int, z = pp_rf 1 rg := ⟨_, rfl⟩
        rw [← eg_69] at p0r_64
        have lg_69_0 : g_69 0 = (tI M_65 2 4).toInt := p0r_64.2.1.1
        have lg_69_1 : g_69 1 = (tI M_65 2 6).toInt := p0r_64.2.1.2.1
        have lg_69_4 : g_69 4 = (tI M_65 1 4).toInt := p0r_64.2.2.1.1
        have lg_69_7 : g_69 7 = (tI M_65 t 4).toInt := p0r_64.2.2.2.1.1
        have lg_69_8 : g_69 8 = (tI M_65 t 5).toInt := p0r_64.2.2.2.1.2.1
        exact hQ _ _ _ _ _ hw (⟨iM_65, (q_66), (f0_12 q_67), (q_68), (ot_12 ht q_67), (by rw [pe_5, if_neg (by omega)]; unfold pp_p0; rw [if_neg (by omega), if_neg (fun q => by omega), ← eg_69]; exact p0r_64)⟩) dX4_readPart_144
      · refine lv_iload_n hx hb dX4_readPart_117 rfl (lv_at hl 0 rfl) ?_
        refine lv_bipush (v := 21) hx hb dX4_readPart_118 (by decide) ?_
        refine sb_icmp_gt (tgt := 139) hx hb rfl (by decide : (21 : Int32).toInt = 21) dX4_readPart_120 (by decide) (fun c_120_50 => ?_) (fun c_120_50 => ?_)
        · refine lv_aload_n hx hb dX4_readPart_139 rfl (lv_at hl 1 rfl) ?_
          refine lv_iconst (v := 1) hx hb dX4_readPart_140 (by decide) ?_
          refine ti_callVv (ci := 4) (av := [.int 1]) C hw (x_X4_refuse l D A cy hJ M hI t ht 1 B n rg hr) ⟨ml_X4_82, ym_X4_refuse, yv_X4_refuse, yi_X4_refuse, yc_X4_refuse⟩ yd_X4_refuse ob_1 (by decide) rfl rfl hl.1 (Nat.le_of_ble_eq_true rfl) ⟨by decide, by decide⟩ ⟨Nat.zero_le _, Nat.zero_le _⟩ dX4_readPart_141 (fun M_71 H locs hp_71 hw => ?_)
          obtain ⟨iM_71, q_72, q_73, q_74, p0r_70⟩ := hp_71
          have hlr_70_1 : (1 : Int32).toInt = 1 := by decide
          simp only [hlr_70_1] at p0r_70
          obtain ⟨g_75, eg_75⟩ : ∃ z : Nat → Int, z = pp_rf 1 rg := ⟨_, rfl⟩
          rw [← eg_75] at p0r_70
          have lg_75_0 : g_75 0 = (tI M_71 2 4).toInt := p0r_70.2.1.1
          have lg_75_1 : g_75 1 = (tI M_71 2 6).toInt := p0r_70.2.1.2.1
          have lg_75_4 : g_75 4 = (tI M_71 1 4).toInt := p0r_70.2.2.1.1
          have lg_75_7 : g_75 7 = (tI M_71 t 4).toInt := p0r_70.2.2.2.1.1
          have lg_75_8 : g_75 8 = (tI M_71 t 5).toInt := p0r_70.2.2.2.1.2.1
          exact hQ _ _ _ _ _ hw (⟨iM_71, (q_72), (f0_12 q_73), (q_74), (ot_12 ht q_73), (by rw [pe_5, if_neg (by omega)]; unfold pp_p0; rw [if_neg (by omega), if_neg (fun q => by omega), ← eg_75]; exact p0r_70)⟩) dX4_readPart_144
        · refine lv_aload_n hx hb dX4_readPart_123 rfl (lv_at hl 1 rfl) ?_
          refine ti_get (ci := 4) (k := 2) (N := 6) (T := TX4) (v := .ref (A lw 0)) C hw iw_4 rfl ob_1 (by decide) (by decide) fl_X4_154 rfl (ti_Tv (hL)) dX4_readPart_124 ?_
          refine lv_iload_n hx hb dX4_readPart_127 rfl (lv_at hl 0 rfl) ?_
          refine lv_ineg hx hb dX4_readPart_128 ?_
          refine lv_topi (fun x_52 ex_52 => ?_)
          have tx_52 : x_52.toInt = -x_1.toInt := i_neg ex_52 rfl (by omega)
          refine ti_callVv (ci := 1) (av := [.int x_52]) C hw (x_X1_add l D A cy hJ M hI lw hlw x_52 (by first | omega | exact Or.inl (by decide) | exact Or.inr (by decide)) t ht B n rg hr) ⟨ml_X4_170, ym_X1_add, yv_X1_add, yi_X1_add, yc_X1_add⟩ yd_X1_add hlw (by decide) rfl rfl hl.1 (Nat.le_of_ble_eq_true rfl) ⟨by decide, by decide⟩ ⟨Nat.zero_le _, Nat.zero_le _⟩ dX4_readPart_129 (fun M_54 H locs hp_54 hw => ?_)
          obtain ⟨iM_54, q_55, q_56, p0r_53⟩ := hp_54
          have lM_54_0 : rg 0 = (tI M_54 2 4).toInt := p0r_53.2.1.1
          have lM_54_1 : rg 1 = (tI M_54 2 6).toInt := p0r_53.2.1.2.1
          have lM_54_4 : rg 4 = (tI M_54 1 4).toInt := p0r_53.2.2.1.1
          have lM_54_7 : rg 7 = (tI M_54 t 4).toInt := p0r_53.2.2.2.1.1
          have lM_54_8 : rg 8 = (tI M_54 t 5).toInt := p0r_53.2.2.2.1.2.1
          refine lv_aload_n hx hb dX4_readPart_132 rfl (lv_at hl 1 rfl) ?_
          refine ti_callVvE (ci := 4) (av := []) C hE hw (x_X4_knot l D A cy hJ M_54 iM_54 t ht ((tT_fr q_55).trans hT) B n rg p0r_53) ⟨ml_X4_167, ym_X4_knot, yv_X4_knot, yi_X4_knot, yc_X4_knot⟩ yd_X4_knot ob_1 (by decide) rfl rfl hl.1 (Nat.le_of_ble_eq_true rfl) ⟨by decide, by decide⟩ ⟨Nat.zero_le _, Nat.zero_le _⟩ dX4_readPart_133 (fun M_58 H locs hp_58 hw => ?_)
          obtain ⟨iM_58, q_59, q_60, q_61, q_62, p0r_57⟩ := hp_58
          obtain ⟨g_63, eg_63⟩ : ∃ z : Nat → Int, z = pp_kn B n rg := ⟨_, rfl⟩
          rw [← eg_63] at p0r_57
          have lg_63_0 : g_63 0 = (tI M_58 2 4).toInt := p0r_57.2.1.1
          have lg_63_1 : g_63 1 = (tI M_58 2 6).toInt := p0r_57.2.1.2.1
          have lg_63_4 : g_63 4 = (tI M_58 1 4).toInt := p0r_57.2.2.1.1
          have lg_63_7 : g_63 7 = (tI M_58 t 4).toInt := p0r_57.2.2.2.1.1
          have lg_63_8 : g_63 8 = (tI M_58 t 5).toInt := p0r_57.2.2.2.1.2.1
          refine lv_goto (tgt := 144) hx hb dX4_readPart_136 (by decide) ?_
          exact hQ _ _ _ _ _ hw (⟨iM_58, ((q_59).trans q_55), (f0.trans q_60 (f0_x q_56)), ((q_61).trans ((q_56 1).2.1)), (ot.trans q_62 (ot_fx ht q_56)), (by rw [pe_5, if_neg (by omega)]; unfold pp_p0; rw [if_neg (by omega), if_pos ⟨by omega, by omega⟩, ← eg_63]; exact p0r_57)⟩) dX4_readPart_144
    · refine lv_aload_n hx hb dX4_readPart_63 rfl (lv_at hl 1 rfl) ?_
      refine ti_get (ci := 4) (k := 0) (N := 6) (T := TX4) (v := .ref (A 2 0)) C hw iw_4 rfl ob_1 (by decide) (by decide) fl_X4_12 rfl rfl dX4_readPart_64 ?_
      refine ti_get (ci := 7) (k := 6) (N := 7) (T := TX7) C hw iw_7 rfl ob_2 (by decide) (by decide) fl_X4_95 rfl rfl dX4_readPart_67 ?_
      refine lv_topi (fun x_28 ex_28 => ?_)
      have bx_28 : 0 ≤ x_28.toInt ∧ x_28.toInt ≤ 2147483647 := cI_rd hI ob_2.1 ex_28
      have ux_28 : (tI M 2 6).toInt = x_28.toInt := by rw [ex_28]
      refine lv_sipush (v := 9999) hx hb dX4_readPart_70 (by decide) ?_
      refine sb_icmp_le (tgt := 84) hx hb rfl (by decide : (9999 : Int32).toInt = 9999) dX4_readPart_73 (by decide) (fun c_73_28 => ?_) (fun c_73_28 => ?_)
      · refine lv_iload_n hx hb dX4_readPart_84 rfl (lv_at hl 0 rfl) ?_
        refine lv_bipush (v := 26) hx hb dX4_readPart_85 (by decide) ?_
        refine sb_icmp_ne (tgt := 111) hx hb rfl (by decide : (26 : Int32).toInt = 26) dX4_readPart_87 (by decide) (fun h => by omega) (fun c_87_36 => ?_)
        refine lv_aload_n hx hb dX4_readPart_90 rfl (lv_at hl 1 rfl) ?_
        refine ti_get (ci := 4) (k := 2) (N := 6) (T := TX4) (v := .ref (A lw 0)) C hw iw_4 rfl ob_1 (by decide) (by decide) fl_X4_154 rfl (ti_Tv (hL)) dX4_readPart_91 ?_
        refine lv_aload_n hx hb dX4_readPart_94 rfl (lv_at hl 1 rfl) ?_
        refine ti_get (ci := 4) (k := 0) (N := 6) (T := TX4) (v := .ref (A 2 0)) C hw iw_4 rfl ob_1 (by decide) (by decide) fl_X4_12 rfl rfl dX4_readPart_95 ?_
        refine ti_get (ci := 7) (k := 6) (N := 7) (T := TX7) C hw iw_7 rfl ob_2 (by decide) (by decide) fl_X4_95 rfl rfl dX4_readPart_98 ?_
        refine ti_top (y := x_28) (ex_28.symm) ?_
        have u_38 : (tI M 2 6).toInt = (x_28 : Int32).toInt := by rw [(ex_28.symm)]
        refine ti_callVv (ci := 1) (av := [.int x_28]) C hw (x_X1_add l D A cy hJ M hI lw hlw x_28 (by first | omega | exact Or.inl (by decide) | exact Or.inr (by decide)) t ht B n rg hr) ⟨ml_X4_170, ym_X1_add, yv_X1_add, yi_X1_add, yc_X1_add⟩ yd_X1_add hlw (by decide) rfl rfl hl.1 (Nat.le_of_ble_eq_true rfl) ⟨by decide, by decide⟩ ⟨Nat.zero_le _, Nat.zero_le _⟩ dX4_readPart_101 (fun M_40 H locs hp_40 hw => ?_)
        obtain ⟨iM_40, q_41, q_42, p0r_39⟩ := hp_40
        have lM_40_0 : rg 0 = (tI M_40 2 4).toInt := p0r_39.2.1.1
        have lM_40_1 : rg 1 = (tI M_40 2 6).toInt := p0r_39.2.1.2.1
        have lM_40_4 : rg 4 = (tI M_40 1 4).toInt := p0r_39.2.2.1.1
        have lM_40_7 : rg 7 = (tI M_40 t 4).toInt := p0r_39.2.2.2.1.1
        have lM_40_8 : rg 8 = (tI M_40 t 5).toInt := p0r_39.2.2.2.1.2.1
        refine lv_aload_n hx hb dX4_readPart_104 rfl (lv_at hl 1 rfl) ?_
        refine ti_callVvE (ci := 4) (av := []) C hE hw (x_X4_knot l D A cy hJ M_40 iM_40 t ht ((tT_fr q_41).trans hT) B n rg p0r_39) ⟨ml_X4_167, ym_X4_knot, yv_X4_knot, yi_X4_knot, yc_X4_knot⟩ yd_X4_knot ob_1 (by decide) rfl rfl hl.1 (Nat.le_of_ble_eq_true rfl) ⟨by decide, by decide⟩ ⟨Nat.zero_le _, Nat.zero_le _⟩ dX4_readPart_105 (fun M_44 H locs hp_44 hw => ?_)
        obtain ⟨iM_44, q_45, q_46, q_47, q_48, p0r_43⟩ := hp_44
        obtain ⟨g_49, eg_49⟩ : ∃ z : Nat → Int, z = pp_kn B n rg := ⟨_, rfl⟩
        rw [← eg_49] at p0r_43
        have lg_49_0 : g_49 0 = (tI M_44 2 4).toInt := p0r_43.2.1.1
        have lg_49_1 : g_49 1 = (tI M_44 2 6).toInt := p0r_43.2.1.2.1
        have lg_49_4 : g_49 4 = (tI M_44 1 4).toInt := p0r_43.2.2.1.1
        have lg_49_7 : g_49 7 = (tI M_44 t 4).toInt := p0r_43.2.2.2.1.1
        have lg_49_8 : g_49 8 = (tI M_44 t 5).toInt := p0r_43.2.2.2.1.2.1
        refine lv_goto (tgt := 144) hx hb dX4_readPart_108 (by decide) ?_
        exact hQ _ _ _ _ _ hw (⟨iM_44, ((q_45).trans q_41), (f0.trans q_46 (f0_x q_42)), ((q_47).trans ((q_42 1).2.1)), (ot.trans q_48 (ot_fx ht q_42)), (by rw [pe_5, if_neg (by omega)]; unfold pp_p0; rw [if_pos (by omega), if_neg (by omega), ← eg_49]; exact p0r_43)⟩) dX4_readPart_144
      · refine lv_aload_n hx hb dX4_readPart_76 rfl (lv_at hl 1 rfl) ?_
        refine lv_iconst (v := 2) hx hb dX4_readPart_77 (by decide) ?_
        refine ti_callVv (ci := 4) (av := [.int 2]) C hw (x_X4_refuse l D A cy hJ M hI t ht 2 B n rg hr) ⟨ml_X4_82, ym_X4_refuse, yv_X4_refuse, yi_X4_refuse, yc_X4_refuse⟩ yd_X4_refuse ob_1 (by decide) rfl rfl hl.1 (Nat.le_of_ble_eq_true rfl) ⟨by decide, by decide⟩ ⟨Nat.zero_le _, Nat.zero_le _⟩ dX4_readPart_78 (fun M_31 H locs hp_31 hw => ?_)
        obtain ⟨iM_31, q_32, q_33, q_34, p0r_30⟩ := hp_31
        have hlr_30_2 : (2 : Int32).toInt = 2 := by decide
        simp only [hlr_30_2] at p0r_30
        obtain ⟨g_35, eg_35⟩ : ∃ z : Nat → Int, z = pp_rf 2 rg := ⟨_, rfl⟩
        rw [← eg_35] at p0r_30
        have lg_35_0 : g_35 0 = (tI M_31 2 4).toInt := p0r_30.2.1.1
        have lg_35_1 : g_35 1 = (tI M_31 2 6).toInt := p0r_30.2.1.2.1
        have lg_35_4 : g_35 4 = (tI M_31 1 4).toInt := p0r_30.2.2.1.1
        have lg_35_7 : g_35 7 = (tI M_31 t 4).toInt := p0r_30.2.2.2.1.1
        have lg_35_8 : g_35 8 = (tI M_31 t 5).toInt := p0r_30.2.2.2.1.2.1
        refine lv_goto (tgt := 144) hx hb dX4_readPart_81 (by decide) ?_
        exact hQ _ _ _ _ _ hw (⟨iM_31, (q_32), (f0_12 q_33), (q_34), (ot_12 ht q_33), (by rw [pe_5, if_neg (by omega)]; unfold pp_p0; rw [if_pos (by omega), if_pos (by omega), ← eg_35]; exact p0r_30)⟩) dX4_readPart_144
  · refine lv_iload_n hx hb dX4_readPart_14 rfl (lv_at hl 2 rfl) ?_
    refine lv_bipush (v := 8) hx hb dX4_readPart_15 (by decide) ?_
    refine sb_icmp_lt (tgt := 28) hx hb (by decide : (3 : Int32).toInt = 3) (by decide : (8 : Int32).toInt = 8) dX4_readPart_17 (by decide) (fun c_17_2 => ?_) (fun h => absurd h (by decide))
    refine lv_iload_n hx hb dX4_readPart_28 rfl (lv_at hl 0 rfl) ?_
    refine lv_bipush (v := 30) hx hb dX4_readPart_29 (by decide) ?_
    refine sb_icmp_ne (tgt := 57) hx hb rfl (by decide : (30 : Int32).toInt = 30) dX4_readPart_31 (by decide) (fun h => by omega) (fun c_31_4 => ?_)
    refine lv_aload_n hx hb dX4_readPart_34 rfl (lv_at hl 1 rfl) ?_
    refine ti_get (ci := 4) (k := 0) (N := 6) (T := TX4) (v := .ref (A 2 0)) C hw iw_4 rfl ob_1 (by decide) (by decide) fl_X4_12 rfl rfl dX4_readPart_35 ?_
    refine ti_callVvE (ci := 7) (av := []) C hE hw (x_X7_advance l D A cy hJ M hI ) ⟨ml_X4_92, ym_X7_advance, yv_X7_advance, yi_X7_advance, yc_X7_advance⟩ yd_X7_advance ob_2 (by decide) rfl rfl hl.1 (Nat.le_of_ble_eq_true rfl) ⟨by decide, by decide⟩ ⟨Nat.zero_le _, Nat.zero_le _⟩ dX4_readPart_38 (fun M_7 H locs hp_7 hw => ?_)
    obtain ⟨iM_7, q_8, q_9, q_10, q_11, p0r_6, p1r_6, p2r_6, p3r_6⟩ := hp_7
    have hs_12 := rC_av ht hr q_11 q_9 p0r_6 p1r_6 p2r_6 p3r_6
    obtain ⟨g_13, eg_13⟩ : ∃ z : Nat → Int, z = pp_av B n rg := ⟨_, rfl⟩
    rw [← eg_13] at hs_12
    have lg_13_0 : g_13 0 = (tI M_7 2 4).toInt := hs_12.2.1.1
    have lg_13_1 : g_13 1 = (tI M_7 2 6).toInt := hs_12.2.1.2.1
    have lg_13_4 : g_13 4 = (tI M_7 1 4).toInt := hs_12.2.2.1.1
    have lg_13_7 : g_13 7 = (tI M_7 t 4).toInt := hs_12.2.2.2.1.1
    have lg_13_8 : g_13 8 = (tI M_7 t 5).toInt := hs_12.2.2.2.1.2.1
    refine lv_aload_n hx hb dX4_readPart_41 rfl (lv_at hl 1 rfl) ?_
    refine lv_iload_n hx hb dX4_readPart_42 rfl (lv_at hl 2 rfl) ?_
    refine lv_iconst (v := 1) hx hb dX4_readPart_43 (by decide) ?_
    refine lv_iadd hx hb dX4_readPart_44 ?_
    refine ti_top (y := 4) (by decide) ?_
    refine ti_callVvE (ci := 4) (av := [.int 4]) C hE hw (x_X4_readEither_4 l D A cy hJ M_7 iM_7 t ht ((tT_fr q_8).trans hT) lw hlw ((tT_fr q_8).trans hL) B n g_13 hs_12) ⟨ml_X4_158, ym_X4_readEither, yv_X4_readEither, yi_X4_readEither, yc_X4_readEither⟩ yd_X4_readEither ob_1 (by decide) rfl rfl hl.1 (Nat.le_of_ble_eq_true rfl) ⟨by decide, by decide⟩ ⟨Nat.zero_le _, Nat.zero_le _⟩ dX4_readPart_45 (fun M_15 H locs hp_15 hw => ?_)
    obtain ⟨iM_15, q_16, q_17, q_18, q_19, p0r_14⟩ := hp_15
    obtain ⟨g_20, eg_20⟩ : ∃ z : Nat → Int, z = pp_ei B n (pp_pt B n 4) g_13 := ⟨_, rfl⟩
    rw [← eg_20] at p0r_14
    have lg_20_0 : g_20 0 = (tI M_15 2 4).toInt := p0r_14.2.1.1
    have lg_20_1 : g_20 1 = (tI M_15 2 6).toInt := p0r_14.2.1.2.1
    have lg_20_4 : g_20 4 = (tI M_15 1 4).toInt := p0r_14.2.2.1.1
    have lg_20_7 : g_20 7 = (tI M_15 t 4).toInt := p0r_14.2.2.2.1.1
    have lg_20_8 : g_20 8 = (tI M_15 t 5).toInt := p0r_14.2.2.2.1.2.1
    refine lv_aload_n hx hb dX4_readPart_48 rfl (lv_at hl 1 rfl) ?_
    refine lv_bipush (v := 31) hx hb dX4_readPart_49 (by decide) ?_
    refine ti_callVvE (ci := 4) (av := [.int 31]) C hE hw (x_X4_take l D A cy hJ M_15 iM_15 t ht 31 B n g_20 p0r_14) ⟨ml_X4_85, ym_X4_take, yv_X4_take, yi_X4_take, yc_X4_take⟩ yd_X4_take ob_1 (by decide) rfl rfl hl.1 (Nat.le_of_ble_eq_true rfl) ⟨by decide, by decide⟩ ⟨Nat.zero_le _, Nat.zero_le _⟩ dX4_readPart_51 (fun M_22 H locs hp_22 hw => ?_)
    obtain ⟨iM_22, q_23, q_24, q_25, p0r_21⟩ := hp_22
    have hlr_21_31 : (31 : Int32).toInt = 31 := by decide
    simp only [hlr_21_31] at p0r_21
    obtain ⟨g_26, eg_26⟩ : ∃ z : Nat → Int, z = pp_tk B n 31 g_20 := ⟨_, rfl⟩
    rw [← eg_26] at p0r_21
    have lg_26_0 : g_26 0 = (tI M_22 2 4).toInt := p0r_21.2.1.1
    have lg_26_1 : g_26 1 = (tI M_22 2 6).toInt := p0r_21.2.1.2.1
    have lg_26_4 : g_26 4 = (tI M_22 1 4).toInt := p0r_21.2.2.1.1
    have lg_26_7 : g_26 7 = (tI M_22 t 4).toInt := p0r_21.2.2.2.1.1
    have lg_26_8 : g_26 8 = (tI M_22 t 5).toInt := p0r_21.2.2.2.1.2.1
    refine lv_goto (tgt := 144) hx hb dX4_readPart_54 (by decide) ?_
    exact hQ _ _ _ _ _ hw (⟨iM_22, ((q_23).trans ((q_16).trans q_8)), (f0.trans (f0_12 q_24) (f0.trans q_17 (f0_12 (o2_12 q_9)))), ((q_25).trans ((q_18).trans q_10)), (ot.trans (ot_12 ht q_24) (ot.trans q_19 (ot_12 ht (o2_12 q_9)))), (by rw [pe_5, if_pos (by omega), ← eg_13, ← eg_20, ← eg_26]; exact p0r_21)⟩) dX4_readPart_144
set_option maxHeartbeats 4000000 in
set_option maxRecDepth 100000 in
theorem x_X4_readProduct_3 (l : Launch) (D : va_G) (A : Nat → Nat → Nat) (cy : Nat → ClassId) (hJ : ti_inj ti_LT A) (M : ti_M) (hI : cI Tc M) (t : Nat) (ht : t = 3 ∨ t = 4) (hT : tT M 1 1 = some t) (lw : Nat) (hlw : ti_ob ti_LT lw 1) (hL : tT M 1 2 = some lw) (B : Nat → Int) (n : Nat) (rg : Nat → Int) (hr : rC B n t rg M) : ti_KvE l yX4_readProduct cX4_readProduct 4 44 ti_LT D A cy M [.ref (A 1 0), .int 3] (fun M2 => cI Tc M2 ∧ M2.2.2.2 = M.2.2.2 ∧ f0 M2 M ∧ tI M2 2 1 = tI M 2 1 ∧ ot t M2 M ∧ rC B n t (pp_pd B n (pp_pt B n 5) rg) M2) := by
  refine ti_eVE yp_X4_readProduct hJ ti_LT_nd (Nat.le_of_ble_eq_true rfl) ?_
  intro p e s m args below meth c Q H0 C hE hQ hw ls hl
  have hx := C.1
  have hb := C.2.1
  have hl : lv_has ls 4 [(0, .ref (A 1 0)), (1, .int 3)] := hl
  have l0 : rg 0 = (tI M 2 4).toInt := hr.2.1.1
  have l1 : rg 1 = (tI M 2 6).toInt := hr.2.1.2.1
  have l2 : rg 2 = (tI M 2 5).toInt := hr.2.1.2.2.1
  have l3 : rg 3 = (tI M 2 3).toInt := hr.2.1.2.2.2
  have l4 : rg 4 = (tI M 1 4).toInt := hr.2.2.1.1
  have l5 : rg 5 = (tI M 1 5).toInt := hr.2.2.1.2.1
  have l7 : rg 7 = (tI M t 4).toInt := hr.2.2.2.1.1
  have l8 : rg 8 = (tI M t 5).toInt := hr.2.2.2.1.2.1
  have l9 : rg 9 = (tI M t 3).toInt := hr.2.2.2.1.2.2
  refine lv_aload_n hx hb dX4_readProduct_0 rfl (lv_at hl 0 rfl) ?_
  refine lv_iload_n hx hb dX4_readProduct_1 rfl (lv_at hl 1 rfl) ?_
  refine ti_callVvE (ci := 4) (av := [.int 3]) C hE hw (x_X4_readPart_3 l D A cy hJ M hI t ht (hT) lw hlw (hL) B n rg hr) ⟨ml_X4_187, ym_X4_readPart, yv_X4_readPart, yi_X4_readPart, yc_X4_readPart⟩ yd_X4_readPart ob_1 (by decide) rfl rfl hl.1 (Nat.le_of_ble_eq_true rfl) ⟨by decide, by decide⟩ ⟨Nat.zero_le _, Nat.zero_le _⟩ dX4_readProduct_2 (fun M_2 H locs hp_2 hw => ?_)
  obtain ⟨iM_2, q_3, q_4, q_5, q_6, p0r_1⟩ := hp_2
  obtain ⟨g_7, eg_7⟩ : ∃ z : Nat → Int, z = pp_pt B n 5 rg := ⟨_, rfl⟩
  rw [← eg_7] at p0r_1
  have lg_7_0 : g_7 0 = (tI M_2 2 4).toInt := p0r_1.2.1.1
  have lg_7_1 : g_7 1 = (tI M_2 2 6).toInt := p0r_1.2.1.2.1
  have lg_7_4 : g_7 4 = (tI M_2 1 4).toInt := p0r_1.2.2.1.1
  have lg_7_7 : g_7 7 = (tI M_2 t 4).toInt := p0r_1.2.2.2.1.1
  have lg_7_8 : g_7 8 = (tI M_2 t 5).toInt := p0r_1.2.2.2.1.2.1
  refine lv_iconst (v := 0) hx hb dX4_readProduct_5 (by decide) ?_
  refine lv_istore_n (lv' := [(2, .int 0), (0, .ref (A 1 0)), (1, .int 3)]) hx hb dX4_readProduct_6 rfl hl (by decide) rfl (fun ls hl => ?_)
  have hl_7_20 : ∀ (n_21 : Nat) (x_8 : Int32) (M_11 : ti_M) (g_18 : Nat → Int) (H : Heap) (locs : List Loc) (ls : Array Slot), (64 - x_8.toInt : Int).toNat < n_21 → (0 ≤ x_8.toInt) → (x_8.toInt ≤ 64) → (cI Tc M_11) → (M_11.2.2.2 = M.2.2.2) → (f0 M_11 M) → (tI M_11 2 1 = tI M 2 1) → (ot t M_11 M) → (tT M_11 1 1 = (some t)) → (tT M_11 1 2 = (some lw)) → (rC B n t g_18 M_11) → (pp_lp pp_qT (fun s => (pp_pt B n 5) (pp_kn B n s)) 64 g_7 = pp_lp pp_qT (fun s => (pp_pt B n 5) (pp_kn B n s)) (64 - (x_8.toInt).toNat) g_18) → ti_H ti_LT D A cy H0 M_11 H locs → lv_has ls 4 [(2, .int x_8), (0, .ref (A 1 0)), (1, .int 3)] → W p l e (ti_rm 44) s m args below meth c H locs 0 0 Q (F0 m 7 ls []) := by
    intro n_21
    induction n_21 with
    | zero => intro x_8 M_11 g_18 H locs ls hf_21; exact absurd hf_21 (Nat.not_lt_zero _)
    | succ n_21 ih_21 =>
      intro x_8 M_11 g_18 H locs ls hf_21 b_9 b_10 iM_11 f_12 f_13 f_14 f_15 f_16 f_17 hs_19 j_20 hw hl
      have lg_18_0 : g_18 0 = (tI M_11 2 4).toInt := hs_19.2.1.1
      have lg_18_1 : g_18 1 = (tI M_11 2 6).toInt := hs_19.2.1.2.1
      have lg_18_4 : g_18 4 = (tI M_11 1 4).toInt := hs_19.2.2.1.1
      have lg_18_7 : g_18 7 = (tI M_11 t 4).toInt := hs_19.2.2.2.1.1
      have lg_18_8 : g_18 8 = (tI M_11 t 5).toInt := hs_19.2.2.2.1.2.1
      refine lv_iload_n hx hb dX4_readProduct_7 rfl (lv_at hl 0 rfl) ?_
      refine lv_bipush (v := 64) hx hb dX4_readProduct_8 (by decide) ?_
      refine sb_icmp_ge (tgt := 69) hx hb rfl (by decide : (64 : Int32).toInt = 64) dX4_readProduct_10 (by decide) (fun c_10_21 => ?_) (fun c_10_21 => ?_)
      · exact hQ _ _ _ _ _ hw (⟨iM_11, (f_12), f_13, (f_14), f_15, (by unfold pp_pd; rw [← eg_7, j_20, lp_end (P := pp_qT) (f := 64 - x_8.toInt.toNat) (s := g_18) (Or.inl (by omega))]; exact hs_19)⟩) dX4_readProduct_69
      · refine lv_aload_n hx hb dX4_readProduct_13 rfl (lv_at hl 1 rfl) ?_
        refine ti_get (ci := 4) (k := 0) (N := 6) (T := TX4) (v := .ref (A 2 0)) C hw iw_4 rfl ob_1 (by decide) (by decide) fl_X4_12 rfl rfl dX4_readProduct_14 ?_
        refine ti_get (ci := 7) (k := 4) (N := 7) (T := TX7) C hw iw_7 rfl ob_2 (by decide) (by decide) fl_X4_41 rfl rfl dX4_readProduct_17 ?_
        refine lv_topi (fun x_23 ex_23 => ?_)
        have bx_23 : 0 ≤ x_23.toInt ∧ x_23.toInt ≤ 41 := cI_rd iM_11 ob_2.1 ex_23
        have ux_23 : (tI M_11 2 4).toInt = x_23.toInt := by rw [ex_23]
        refine lv_bipush (v := 40) hx hb dX4_readProduct_20 (by decide) ?_
        refine sb_icmp_eq (tgt := 37) hx hb rfl (by decide : (40 : Int32).toInt = 40) dX4_readProduct_22 (by decide) (fun c_22_23 => ?_) (fun c_22_23 => ?_)
        · refine lv_aload_n hx hb dX4_readProduct_37 rfl (lv_at hl 1 rfl) ?_
          refine ti_get (ci := 4) (k := 0) (N := 6) (T := TX4) (v := .ref (A 2 0)) C hw iw_4 rfl ob_1 (by decide) (by decide) fl_X4_12 rfl rfl dX4_readProduct_38 ?_
          refine ti_get (ci := 7) (k := 4) (N := 7) (T := TX7) C hw iw_7 rfl ob_2 (by decide) (by decide) fl_X4_41 rfl rfl dX4_readProduct_41 ?_
          refine ti_top (y := x_23) (ex_23.symm) ?_
          have u_27 : (tI M_11 2 4).toInt = (x_23 : Int32).toInt := by rw [(ex_23.symm)]
          refine lv_istore_n (lv' := [(3, .int x_23), (2, .int x_8), (0, .ref (A 1 0)), (1, .int 3)]) hx hb dX4_readProduct_44 rfl hl (by decide) rfl (fun ls hl => ?_)
          refine lv_aload_n hx hb dX4_readProduct_45 rfl (lv_at hl 2 rfl) ?_
          refine ti_callVvE (ci := 4) (av := []) C hE hw (x_X4_knot l D A cy hJ M_11 iM_11 t ht (f_16) B n g_18 hs_19) ⟨ml_X4_167, ym_X4_knot, yv_X4_knot, yi_X4_knot, yc_X4_knot⟩ yd_X4_knot ob_1 (by decide) rfl rfl hl.1 (Nat.le_of_ble_eq_true rfl) ⟨by decide, by decide⟩ ⟨Nat.zero_le _, Nat.zero_le _⟩ dX4_readProduct_46 (fun M_29 H locs hp_29 hw => ?_)
          obtain ⟨iM_29, q_30, q_31, q_32, q_33, p0r_28⟩ := hp_29
          obtain ⟨g_34, eg_34⟩ : ∃ z : Nat → Int, z = pp_kn B n g_18 := ⟨_, rfl⟩
          rw [← eg_34] at p0r_28
          have lg_34_0 : g_34 0 = (tI M_29 2 4).toInt := p0r_28.2.1.1
          have lg_34_1 : g_34 1 = (tI M_29 2 6).toInt := p0r_28.2.1.2.1
          have lg_34_4 : g_34 4 = (tI M_29 1 4).toInt := p0r_28.2.2.1.1
          have lg_34_7 : g_34 7 = (tI M_29 t 4).toInt := p0r_28.2.2.2.1.1
          have lg_34_8 : g_34 8 = (tI M_29 t 5).toInt := p0r_28.2.2.2.1.2.1
          refine lv_aload_n hx hb dX4_readProduct_49 rfl (lv_at hl 2 rfl) ?_
          refine lv_iload_n hx hb dX4_readProduct_50 rfl (lv_at hl 3 rfl) ?_
          refine ti_callVvE (ci := 4) (av := [.int 3]) C hE hw (x_X4_readPart_3 l D A cy hJ M_29 iM_29 t ht ((tT_fr q_30).trans f_16) lw hlw ((tT_fr q_30).trans f_17) B n g_34 p0r_28) ⟨ml_X4_187, ym_X4_readPart, yv_X4_readPart, yi_X4_readPart, yc_X4_readPart⟩ yd_X4_readPart ob_1 (by decide) rfl rfl hl.1 (Nat.le_of_ble_eq_true rfl) ⟨by decide, by decide⟩ ⟨Nat.zero_le _, Nat.zero_le _⟩ dX4_readProduct_51 (fun M_36 H locs hp_36 hw => ?_)
          obtain ⟨iM_36, q_37, q_38, q_39, q_40, p0r_35⟩ := hp_36
          obtain ⟨g_41, eg_41⟩ : ∃ z : Nat → Int, z = pp_pt B n 5 g_34 := ⟨_, rfl⟩
          rw [← eg_41] at p0r_35
          have lg_41_0 : g_41 0 = (tI M_36 2 4).toInt := p0r_35.2.1.1
          have lg_41_1 : g_41 1 = (tI M_36 2 6).toInt := p0r_35.2.1.2.1
          have lg_41_4 : g_41 4 = (tI M_36 1 4).toInt := p0r_35.2.2.1.1
          have lg_41_7 : g_41 7 = (tI M_36 t 4).toInt := p0r_35.2.2.2.1.1
          have lg_41_8 : g_41 8 = (tI M_36 t 5).toInt := p0r_35.2.2.2.1.2.1
          refine lv_aload_n hx hb dX4_readProduct_54 rfl (lv_at hl 2 rfl) ?_
          refine ti_get (ci := 4) (k := 2) (N := 6) (T := TX4) (v := .ref (A lw 0)) C hw iw_4 rfl ob_1 (by decide) (by decide) fl_X4_154 rfl (ti_Tv ((tT_fr q_37).trans ((tT_fr q_30).trans f_17))) dX4_readProduct_55 ?_
          refine lv_iload_n hx hb dX4_readProduct_58 rfl (lv_at hl 0 rfl) ?_
          refine lv_ineg hx hb dX4_readProduct_59 ?_
          refine lv_topi (fun x_42 ex_42 => ?_)
          have tx_42 : x_42.toInt = -x_23.toInt := i_neg ex_42 rfl (by omega)
          refine ti_callVv (ci := 1) (av := [.int x_42]) C hw (x_X1_add l D A cy hJ M_36 iM_36 lw hlw x_42 (by first | omega | exact Or.inl (by decide) | exact Or.inr (by decide)) t ht B n g_41 p0r_35) ⟨ml_X4_170, ym_X1_add, yv_X1_add, yi_X1_add, yc_X1_add⟩ yd_X1_add hlw (by decide) rfl rfl hl.1 (Nat.le_of_ble_eq_true rfl) ⟨by decide, by decide⟩ ⟨Nat.zero_le _, Nat.zero_le _⟩ dX4_readProduct_60 (fun M_44 H locs hp_44 hw => ?_)
          obtain ⟨iM_44, q_45, q_46, p0r_43⟩ := hp_44
          have lM_44_0 : g_41 0 = (tI M_44 2 4).toInt := p0r_43.2.1.1
          have lM_44_1 : g_41 1 = (tI M_44 2 6).toInt := p0r_43.2.1.2.1
          have lM_44_4 : g_41 4 = (tI M_44 1 4).toInt := p0r_43.2.2.1.1
          have lM_44_7 : g_41 7 = (tI M_44 t 4).toInt := p0r_43.2.2.2.1.1
          have lM_44_8 : g_41 8 = (tI M_44 t 5).toInt := p0r_43.2.2.2.1.2.1
          obtain ⟨x_47, ex_47⟩ : ∃ z : Int32, z = x_8 + 1 := ⟨_, rfl⟩
          have tx_47 : x_47.toInt = x_8.toInt + 1 := i_add ex_47 rfl (by decide) (by omega) (by omega)
          refine lv_iinc (v := x_47) (lv' := [(2, .int x_47), (3, .int x_23), (0, .ref (A 1 0)), (1, .int 3)]) hx hb dX4_readProduct_63 hl (k := 1) rfl (by rw [ex_47]; rfl) (by decide) rfl (fun ls hl => ?_)
          refine lv_goto (tgt := 7) hx hb dX4_readProduct_66 (by decide) ?_
          exact ih_21 x_47 M_44 g_41 _ _ _ (by omega) (by first | omega | decide) (by first | omega | decide) iM_44 ((q_45).trans ((q_37).trans ((q_30).trans f_12))) (f0.trans (f0_x q_46) (f0.trans q_38 (f0.trans q_31 f_13))) (((q_46 1).2.1).trans ((q_39).trans ((q_32).trans f_14))) (ot.trans (ot_fx ht q_46) (ot.trans q_40 (ot.trans q_33 f_15))) ((tT_fr q_45).trans ((tT_fr q_37).trans ((tT_fr q_30).trans f_16))) ((tT_fr q_45).trans ((tT_fr q_37).trans ((tT_fr q_30).trans f_17))) p0r_43 (j_20.trans (lp_step (decide_eq_true (by omega)) (by rw [eg_41, eg_34]) (by omega))) hw (lv_sub hl [0, 2, 3] rfl)
        · refine lv_aload_n hx hb dX4_readProduct_25 rfl (lv_at hl 1 rfl) ?_
          refine ti_get (ci := 4) (k := 0) (N := 6) (T := TX4) (v := .ref (A 2 0)) C hw iw_4 rfl ob_1 (by decide) (by decide) fl_X4_12 rfl rfl dX4_readProduct_26 ?_
          refine ti_get (ci := 7) (k := 4) (N := 7) (T := TX7) C hw iw_7 rfl ob_2 (by decide) (by decide) fl_X4_41 rfl rfl dX4_readProduct_29 ?_
          refine ti_top (y := x_23) (ex_23.symm) ?_
          have u_25 : (tI M_11 2 4).toInt = (x_23 : Int32).toInt := by rw [(ex_23.symm)]
          refine lv_bipush (v := 41) hx hb dX4_readProduct_32 (by decide) ?_
          refine sb_icmp_ne (tgt := 69) hx hb rfl (by decide : (41 : Int32).toInt = 41) dX4_readProduct_34 (by decide) (fun c_34_25 => ?_) (fun c_34_25 => ?_)
          · exact hQ _ _ _ _ _ hw (⟨iM_11, (f_12), f_13, (f_14), f_15, (by unfold pp_pd; rw [← eg_7, j_20, lp_end (P := pp_qT) (f := 64 - x_8.toInt.toNat) (s := g_18) (Or.inr (decide_eq_false (by omega)))]; exact hs_19)⟩) dX4_readProduct_69
          · refine lv_aload_n hx hb dX4_readProduct_37 rfl (lv_at hl 1 rfl) ?_
            refine ti_get (ci := 4) (k := 0) (N := 6) (T := TX4) (v := .ref (A 2 0)) C hw iw_4 rfl ob_1 (by decide) (by decide) fl_X4_12 rfl rfl dX4_readProduct_38 ?_
            refine ti_get (ci := 7) (k := 4) (N := 7) (T := TX7) C hw iw_7 rfl ob_2 (by decide) (by decide) fl_X4_41 rfl rfl dX4_readProduct_41 ?_
            refine ti_top (y := x_23) (ex_23.symm) ?_
            have u_48 : (tI M_11 2 4).toInt = (x_23 : Int32).toInt := by rw [(ex_23.symm)]
            refine lv_istore_n (lv' := [(3, .int x_23), (2, .int x_8), (0, .ref (A 1 0)), (1, .int 3)]) hx hb dX4_readProduct_44 rfl hl (by decide) rfl (fun ls hl => ?_)
            refine lv_aload_n hx hb dX4_readProduct_45 rfl (lv_at hl 2 rfl) ?_
            refine ti_callVvE (ci := 4) (av := []) C hE hw (x_X4_knot l D A cy hJ M_11 iM_11 t ht (f_16) B n g_18 hs_19) ⟨ml_X4_167, ym_X4_knot, yv_X4_knot, yi_X4_knot, yc_X4_knot⟩ yd_X4_knot ob_1 (by decide) rfl rfl hl.1 (Nat.le_of_ble_eq_true rfl) ⟨by decide, by decide⟩ ⟨Nat.zero_le _, Nat.zero_le _⟩ dX4_readProduct_46 (fun M_50 H locs hp_50 hw => ?_)
            obtain ⟨iM_50, q_51, q_52, q_53, q_54, p0r_49⟩ := hp_50
            obtain ⟨g_55, eg_55⟩ : ∃ z : Nat → Int, z = pp_kn B n g_18 := ⟨_, rfl⟩
            rw [← eg_55] at p0r_49
            have lg_55_0 : g_55 0 = (tI M_50 2 4).toInt := p0r_49.2.1.1
            have lg_55_1 : g_55 1 = (tI M_50 2 6).toInt := p0r_49.2.1.2.1
            have lg_55_4 : g_55 4 = (tI M_50 1 4).toInt := p0r_49.2.2.1.1
            have lg_55_7 : g_55 7 = (tI M_50 t 4).toInt := p0r_49.2.2.2.1.1
            have lg_55_8 : g_55 8 = (tI M_50 t 5).toInt := p0r_49.2.2.2.1.2.1
            refine lv_aload_n hx hb dX4_readProduct_49 rfl (lv_at hl 2 rfl) ?_
            refine lv_iload_n hx hb dX4_readProduct_50 rfl (lv_at hl 3 rfl) ?_
            refine ti_callVvE (ci := 4) (av := [.int 3]) C hE hw (x_X4_readPart_3 l D A cy hJ M_50 iM_50 t ht ((tT_fr q_51).trans f_16) lw hlw ((tT_fr q_51).trans f_17) B n g_55 p0r_49) ⟨ml_X4_187, ym_X4_readPart, yv_X4_readPart, yi_X4_readPart, yc_X4_readPart⟩ yd_X4_readPart ob_1 (by decide) rfl rfl hl.1 (Nat.le_of_ble_eq_true rfl) ⟨by decide, by decide⟩ ⟨Nat.zero_le _, Nat.zero_le _⟩ dX4_readProduct_51 (fun M_57 H locs hp_57 hw => ?_)
            obtain ⟨iM_57, q_58, q_59, q_60, q_61, p0r_56⟩ := hp_57
            obtain ⟨g_62, eg_62⟩ : ∃ z : Nat → Int, z = pp_pt B n 5 g_55 := ⟨_, rfl⟩
            rw [← eg_62] at p0r_56
            have lg_62_0 : g_62 0 = (tI M_57 2 4).toInt := p0r_56.2.1.1
            have lg_62_1 : g_62 1 = (tI M_57 2 6).toInt := p0r_56.2.1.2.1
            have lg_62_4 : g_62 4 = (tI M_57 1 4).toInt := p0r_56.2.2.1.1
            have lg_62_7 : g_62 7 = (tI M_57 t 4).toInt := p0r_56.2.2.2.1.1
            have lg_62_8 : g_62 8 = (tI M_57 t 5).toInt := p0r_56.2.2.2.1.2.1
            refine lv_aload_n hx hb dX4_readProduct_54 rfl (lv_at hl 2 rfl) ?_
            refine ti_get (ci := 4) (k := 2) (N := 6) (T := TX4) (v := .ref (A lw 0)) C hw iw_4 rfl ob_1 (by decide) (by decide) fl_X4_154 rfl (ti_Tv ((tT_fr q_58).trans ((tT_fr q_51).trans f_17))) dX4_readProduct_55 ?_
            refine lv_iload_n hx hb dX4_readProduct_58 rfl (lv_at hl 0 rfl) ?_
            refine lv_ineg hx hb dX4_readProduct_59 ?_
            refine lv_topi (fun x_63 ex_63 => ?_)
            have tx_63 : x_63.toInt = -x_23.toInt := i_neg ex_63 rfl (by omega)
            refine ti_callVv (ci := 1) (av := [.int x_63]) C hw (x_X1_add l D A cy hJ M_57 iM_57 lw hlw x_63 (by first | omega | exact Or.inl (by decide) | exact Or.inr (by decide)) t ht B n g_62 p0r_56) ⟨ml_X4_170, ym_X1_add, yv_X1_add, yi_X1_add, yc_X1_add⟩ yd_X1_add hlw (by decide) rfl rfl hl.1 (Nat.le_of_ble_eq_true rfl) ⟨by decide, by decide⟩ ⟨Nat.zero_le _, Nat.zero_le _⟩ dX4_readProduct_60 (fun M_65 H locs hp_65 hw => ?_)
            obtain ⟨iM_65, q_66, q_67, p0r_64⟩ := hp_65
            have lM_65_0 : g_62 0 = (tI M_65 2 4).toInt := p0r_64.2.1.1
            have lM_65_1 : g_62 1 = (tI M_65 2 6).toInt := p0r_64.2.1.2.1
            have lM_65_4 : g_62 4 = (tI M_65 1 4).toInt := p0r_64.2.2.1.1
            have lM_65_7 : g_62 7 = (tI M_65 t 4).toInt := p0r_64.2.2.2.1.1
            have lM_65_8 : g_62 8 = (tI M_65 t 5).toInt := p0r_64.2.2.2.1.2.1
            obtain ⟨x_68, ex_68⟩ : ∃ z : Int32, z = x_8 + 1 := ⟨_, rfl⟩
            have tx_68 : x_68.toInt = x_8.toInt + 1 := i_add ex_68 rfl (by decide) (by omega) (by omega)
            refine lv_iinc (v := x_68) (lv' := [(2, .int x_68), (3, .int x_23), (0, .ref (A 1 0)), (1, .int 3)]) hx hb dX4_readProduct_63 hl (k := 1) rfl (by rw [ex_68]; rfl) (by decide) rfl (fun ls hl => ?_)
            refine lv_goto (tgt := 7) hx hb dX4_readProduct_66 (by decide) ?_
            exact ih_21 x_68 M_65 g_62 _ _ _ (by omega) (by first | omega | decide) (by first | omega | decide) iM_65 ((q_66).trans ((q_58).trans ((q_51).trans f_12))) (f0.trans (f0_x q_67) (f0.trans q_59 (f0.trans q_52 f_13))) (((q_67 1).2.1).trans ((q_60).trans ((q_53).trans f_14))) (ot.trans (ot_fx ht q_67) (ot.trans q_61 (ot.trans q_54 f_15))) ((tT_fr q_66).trans ((tT_fr q_58).trans ((tT_fr q_51).trans f_16))) ((tT_fr q_66).trans ((tT_fr q_58).trans ((tT_fr q_51).trans f_17))) p0r_64 (j_20.trans (lp_step (decide_eq_true (by omega)) (by rw [eg_62, eg_55]) (by omega))) hw (lv_sub hl [0, 2, 3] rfl)
  exact hl_7_20 ((64 - 0 : Int).toNat + 1) 0 M_2 g_7 _ _ _ (Nat.lt_succ_self _) (by have lt0 : (0 : Int32).toInt = 0 := (by decide); first | omega | decide) (by have lt0 : (0 : Int32).toInt = 0 := (by decide); first | omega | decide) iM_2 (q_3) q_4 (q_5) q_6 ((tT_fr q_3).trans hT) ((tT_fr q_3).trans hL) p0r_1 rfl hw (lv_sub hl [0, 1, 2] rfl)
set_option maxHeartbeats 4000000 in
set_option maxRecDepth 100000 in
theorem x_X4_readSum_3 (l : Launch) (D : va_G) (A : Nat → Nat → Nat) (cy : Nat → ClassId) (hJ : ti_inj ti_LT A) (M : ti_M) (hI : cI Tc M) (t : Nat) (ht : t = 3 ∨ t = 4) (hT : tT M 1 1 = some t) (lw : Nat) (hlw : ti_ob ti_LT lw 1) (hL : tT M 1 2 = some lw) (B : Nat → Int) (n : Nat) (rg : Nat → Int) (hr : rC B n t rg M) : ti_KvE l yX4_readSum cX4_readSum 4 45 ti_LT D A cy M [.ref (A 1 0), .int 3] (fun M2 => cI Tc M2 ∧ M2.2.2.2 = M.2.2.2 ∧ f0 M2 M ∧ tI M2 2 1 = tI M 2 1 ∧ ot t M2 M ∧ rC B n t (pp_sm B n (pp_pt B n 5) rg) M2) := by
  refine ti_eVE yp_X4_readSum hJ ti_LT_nd (Nat.le_of_ble_eq_true rfl) ?_
  intro p e s m args below meth c Q H0 C hE hQ hw ls hl
  have hx := C.1
  have hb := C.2.1
  have hl : lv_has ls 4 [(0, .ref (A 1 0)), (1, .int 3)] := hl
  have l0 : rg 0 = (tI M 2 4).toInt := hr.2.1.1
  have l1 : rg 1 = (tI M 2 6).toInt := hr.2.1.2.1
  have l2 : rg 2 = (tI M 2 5).toInt := hr.2.1.2.2.1
  have l3 : rg 3 = (tI M 2 3).toInt := hr.2.1.2.2.2
  have l4 : rg 4 = (tI M 1 4).toInt := hr.2.2.1.1
  have l5 : rg 5 = (tI M 1 5).toInt := hr.2.2.1.2.1
  have l7 : rg 7 = (tI M t 4).toInt := hr.2.2.2.1.1
  have l8 : rg 8 = (tI M t 5).toInt := hr.2.2.2.1.2.1
  have l9 : rg 9 = (tI M t 3).toInt := hr.2.2.2.1.2.2
  refine lv_aload_n hx hb dX4_readSum_0 rfl (lv_at hl 0 rfl) ?_
  refine lv_iload_n hx hb dX4_readSum_1 rfl (lv_at hl 1 rfl) ?_
  refine ti_callVvE (ci := 4) (av := [.int 3]) C hE hw (x_X4_readProduct_3 l D A cy hJ M hI t ht (hT) lw hlw (hL) B n rg hr) ⟨ml_X4_184, ym_X4_readProduct, yv_X4_readProduct, yi_X4_readProduct, yc_X4_readProduct⟩ yd_X4_readProduct ob_1 (by decide) rfl rfl hl.1 (Nat.le_of_ble_eq_true rfl) ⟨by decide, by decide⟩ ⟨Nat.zero_le _, Nat.zero_le _⟩ dX4_readSum_2 (fun M_2 H locs hp_2 hw => ?_)
  obtain ⟨iM_2, q_3, q_4, q_5, q_6, p0r_1⟩ := hp_2
  obtain ⟨g_7, eg_7⟩ : ∃ z : Nat → Int, z = pp_pd B n (pp_pt B n 5) rg := ⟨_, rfl⟩
  rw [← eg_7] at p0r_1
  have lg_7_0 : g_7 0 = (tI M_2 2 4).toInt := p0r_1.2.1.1
  have lg_7_1 : g_7 1 = (tI M_2 2 6).toInt := p0r_1.2.1.2.1
  have lg_7_4 : g_7 4 = (tI M_2 1 4).toInt := p0r_1.2.2.1.1
  have lg_7_7 : g_7 7 = (tI M_2 t 4).toInt := p0r_1.2.2.2.1.1
  have lg_7_8 : g_7 8 = (tI M_2 t 5).toInt := p0r_1.2.2.2.1.2.1
  refine lv_iconst (v := 0) hx hb dX4_readSum_5 (by decide) ?_
  refine lv_istore_n (lv' := [(2, .int 0), (0, .ref (A 1 0)), (1, .int 3)]) hx hb dX4_readSum_6 rfl hl (by decide) rfl (fun ls hl => ?_)
  have hl_7_20 : ∀ (n_21 : Nat) (x_8 : Int32) (M_11 : ti_M) (g_18 : Nat → Int) (H : Heap) (locs : List Loc) (ls : Array Slot), (64 - x_8.toInt : Int).toNat < n_21 → (0 ≤ x_8.toInt) → (x_8.toInt ≤ 64) → (cI Tc M_11) → (M_11.2.2.2 = M.2.2.2) → (f0 M_11 M) → (tI M_11 2 1 = tI M 2 1) → (ot t M_11 M) → (tT M_11 1 1 = (some t)) → (tT M_11 1 2 = (some lw)) → (rC B n t g_18 M_11) → (pp_lp pp_qP (fun s => pp_pd B n (pp_pt B n 5) (pp_kn B n s)) 64 g_7 = pp_lp pp_qP (fun s => pp_pd B n (pp_pt B n 5) (pp_kn B n s)) (64 - (x_8.toInt).toNat) g_18) → ti_H ti_LT D A cy H0 M_11 H locs → lv_has ls 4 [(2, .int x_8), (0, .ref (A 1 0)), (1, .int 3)] → W p l e (ti_rm 45) s m args below meth c H locs 0 0 Q (F0 m 7 ls []) := by
    intro n_21
    induction n_21 with
    | zero => intro x_8 M_11 g_18 H locs ls hf_21; exact absurd hf_21 (Nat.not_lt_zero _)
    | succ n_21 ih_21 =>
      intro x_8 M_11 g_18 H locs ls hf_21 b_9 b_10 iM_11 f_12 f_13 f_14 f_15 f_16 f_17 hs_19 j_20 hw hl
      have lg_18_0 : g_18 0 = (tI M_11 2 4).toInt := hs_19.2.1.1
      have lg_18_1 : g_18 1 = (tI M_11 2 6).toInt := hs_19.2.1.2.1
      have lg_18_4 : g_18 4 = (tI M_11 1 4).toInt := hs_19.2.2.1.1
      have lg_18_7 : g_18 7 = (tI M_11 t 4).toInt := hs_19.2.2.2.1.1
      have lg_18_8 : g_18 8 = (tI M_11 t 5).toInt := hs_19.2.2.2.1.2.1
      refine lv_iload_n hx hb dX4_readSum_7 rfl (lv_at hl 0 rfl) ?_
      refine lv_bipush (v := 64) hx hb dX4_readSum_8 (by decide) ?_
      refine sb_icmp_ge (tgt := 69) hx hb rfl (by decide : (64 : Int32).toInt = 64) dX4_readSum_10 (by decide) (fun c_10_21 => ?_) (fun c_10_21 => ?_)
      · exact hQ _ _ _ _ _ hw (⟨iM_11, (f_12), f_13, (f_14), f_15, (by unfold pp_sm; rw [← eg_7, j_20, lp_end (P := pp_qP) (f := 64 - x_8.toInt.toNat) (s := g_18) (Or.inl (by omega))]; exact hs_19)⟩) dX4_readSum_69
      · refine lv_aload_n hx hb dX4_readSum_13 rfl (lv_at hl 1 rfl) ?_
        refine ti_get (ci := 4) (k := 0) (N := 6) (T := TX4) (v := .ref (A 2 0)) C hw iw_4 rfl ob_1 (by decide) (by decide) fl_X4_12 rfl rfl dX4_readSum_14 ?_
        refine ti_get (ci := 7) (k := 4) (N := 7) (T := TX7) C hw iw_7 rfl ob_2 (by decide) (by decide) fl_X4_41 rfl rfl dX4_readSum_17 ?_
        refine lv_topi (fun x_23 ex_23 => ?_)
        have bx_23 : 0 ≤ x_23.toInt ∧ x_23.toInt ≤ 41 := cI_rd iM_11 ob_2.1 ex_23
        have ux_23 : (tI M_11 2 4).toInt = x_23.toInt := by rw [ex_23]
        refine lv_bipush (v := 38) hx hb dX4_readSum_20 (by decide) ?_
        refine sb_icmp_eq (tgt := 37) hx hb rfl (by decide : (38 : Int32).toInt = 38) dX4_readSum_22 (by decide) (fun c_22_23 => ?_) (fun c_22_23 => ?_)
        · refine lv_aload_n hx hb dX4_readSum_37 rfl (lv_at hl 1 rfl) ?_
          refine ti_get (ci := 4) (k := 0) (N := 6) (T := TX4) (v := .ref (A 2 0)) C hw iw_4 rfl ob_1 (by decide) (by decide) fl_X4_12 rfl rfl dX4_readSum_38 ?_
          refine ti_get (ci := 7) (k := 4) (N := 7) (T := TX7) C hw iw_7 rfl ob_2 (by decide) (by decide) fl_X4_41 rfl rfl dX4_readSum_41 ?_
          refine ti_top (y := x_23) (ex_23.symm) ?_
          have u_27 : (tI M_11 2 4).toInt = (x_23 : Int32).toInt := by rw [(ex_23.symm)]
          refine lv_istore_n (lv' := [(3, .int x_23), (2, .int x_8), (0, .ref (A 1 0)), (1, .int 3)]) hx hb dX4_readSum_44 rfl hl (by decide) rfl (fun ls hl => ?_)
          refine lv_aload_n hx hb dX4_readSum_45 rfl (lv_at hl 2 rfl) ?_
          refine ti_callVvE (ci := 4) (av := []) C hE hw (x_X4_knot l D A cy hJ M_11 iM_11 t ht (f_16) B n g_18 hs_19) ⟨ml_X4_167, ym_X4_knot, yv_X4_knot, yi_X4_knot, yc_X4_knot⟩ yd_X4_knot ob_1 (by decide) rfl rfl hl.1 (Nat.le_of_ble_eq_true rfl) ⟨by decide, by decide⟩ ⟨Nat.zero_le _, Nat.zero_le _⟩ dX4_readSum_46 (fun M_29 H locs hp_29 hw => ?_)
          obtain ⟨iM_29, q_30, q_31, q_32, q_33, p0r_28⟩ := hp_29
          obtain ⟨g_34, eg_34⟩ : ∃ z : Nat → Int, z = pp_kn B n g_18 := ⟨_, rfl⟩
          rw [← eg_34] at p0r_28
          have lg_34_0 : g_34 0 = (tI M_29 2 4).toInt := p0r_28.2.1.1
          have lg_34_1 : g_34 1 = (tI M_29 2 6).toInt := p0r_28.2.1.2.1
          have lg_34_4 : g_34 4 = (tI M_29 1 4).toInt := p0r_28.2.2.1.1
          have lg_34_7 : g_34 7 = (tI M_29 t 4).toInt := p0r_28.2.2.2.1.1
          have lg_34_8 : g_34 8 = (tI M_29 t 5).toInt := p0r_28.2.2.2.1.2.1
          refine lv_aload_n hx hb dX4_readSum_49 rfl (lv_at hl 2 rfl) ?_
          refine lv_iload_n hx hb dX4_readSum_50 rfl (lv_at hl 3 rfl) ?_
          refine ti_callVvE (ci := 4) (av := [.int 3]) C hE hw (x_X4_readProduct_3 l D A cy hJ M_29 iM_29 t ht ((tT_fr q_30).trans f_16) lw hlw ((tT_fr q_30).trans f_17) B n g_34 p0r_28) ⟨ml_X4_184, ym_X4_readProduct, yv_X4_readProduct, yi_X4_readProduct, yc_X4_readProduct⟩ yd_X4_readProduct ob_1 (by decide) rfl rfl hl.1 (Nat.le_of_ble_eq_true rfl) ⟨by decide, by decide⟩ ⟨Nat.zero_le _, Nat.zero_le _⟩ dX4_readSum_51 (fun M_36 H locs hp_36 hw => ?_)
          obtain ⟨iM_36, q_37, q_38, q_39, q_40, p0r_35⟩ := hp_36
          obtain ⟨g_41, eg_41⟩ : ∃ z : Nat → Int, z = pp_pd B n (pp_pt B n 5) g_34 := ⟨_, rfl⟩
          rw [← eg_41] at p0r_35
          have lg_41_0 : g_41 0 = (tI M_36 2 4).toInt := p0r_35.2.1.1
          have lg_41_1 : g_41 1 = (tI M_36 2 6).toInt := p0r_35.2.1.2.1
          have lg_41_4 : g_41 4 = (tI M_36 1 4).toInt := p0r_35.2.2.1.1
          have lg_41_7 : g_41 7 = (tI M_36 t 4).toInt := p0r_35.2.2.2.1.1
          have lg_41_8 : g_41 8 = (tI M_36 t 5).toInt := p0r_35.2.2.2.1.2.1
          refine lv_aload_n hx hb dX4_readSum_54 rfl (lv_at hl 2 rfl) ?_
          refine ti_get (ci := 4) (k := 2) (N := 6) (T := TX4) (v := .ref (A lw 0)) C hw iw_4 rfl ob_1 (by decide) (by decide) fl_X4_154 rfl (ti_Tv ((tT_fr q_37).trans ((tT_fr q_30).trans f_17))) dX4_readSum_55 ?_
          refine lv_iload_n hx hb dX4_readSum_58 rfl (lv_at hl 0 rfl) ?_
          refine lv_ineg hx hb dX4_readSum_59 ?_
          refine lv_topi (fun x_42 ex_42 => ?_)
          have tx_42 : x_42.toInt = -x_23.toInt := i_neg ex_42 rfl (by omega)
          refine ti_callVv (ci := 1) (av := [.int x_42]) C hw (x_X1_add l D A cy hJ M_36 iM_36 lw hlw x_42 (by first | omega | exact Or.inl (by decide) | exact Or.inr (by decide)) t ht B n g_41 p0r_35) ⟨ml_X4_170, ym_X1_add, yv_X1_add, yi_X1_add, yc_X1_add⟩ yd_X1_add hlw (by decide) rfl rfl hl.1 (Nat.le_of_ble_eq_true rfl) ⟨by decide, by decide⟩ ⟨Nat.zero_le _, Nat.zero_le _⟩ dX4_readSum_60 (fun M_44 H locs hp_44 hw => ?_)
          obtain ⟨iM_44, q_45, q_46, p0r_43⟩ := hp_44
          have lM_44_0 : g_41 0 = (tI M_44 2 4).toInt := p0r_43.2.1.1
          have lM_44_1 : g_41 1 = (tI M_44 2 6).toInt := p0r_43.2.1.2.1
          have lM_44_4 : g_41 4 = (tI M_44 1 4).toInt := p0r_43.2.2.1.1
          have lM_44_7 : g_41 7 = (tI M_44 t 4).toInt := p0r_43.2.2.2.1.1
          have lM_44_8 : g_41 8 = (tI M_44 t 5).toInt := p0r_43.2.2.2.1.2.1
          obtain ⟨x_47, ex_47⟩ : ∃ z : Int32, z = x_8 + 1 := ⟨_, rfl⟩
          have tx_47 : x_47.toInt = x_8.toInt + 1 := i_add ex_47 rfl (by decide) (by omega) (by omega)
          refine lv_iinc (v := x_47) (lv' := [(2, .int x_47), (3, .int x_23), (0, .ref (A 1 0)), (1, .int 3)]) hx hb dX4_readSum_63 hl (k := 1) rfl (by rw [ex_47]; rfl) (by decide) rfl (fun ls hl => ?_)
          refine lv_goto (tgt := 7) hx hb dX4_readSum_66 (by decide) ?_
          exact ih_21 x_47 M_44 g_41 _ _ _ (by omega) (by first | omega | decide) (by first | omega | decide) iM_44 ((q_45).trans ((q_37).trans ((q_30).trans f_12))) (f0.trans (f0_x q_46) (f0.trans q_38 (f0.trans q_31 f_13))) (((q_46 1).2.1).trans ((q_39).trans ((q_32).trans f_14))) (ot.trans (ot_fx ht q_46) (ot.trans q_40 (ot.trans q_33 f_15))) ((tT_fr q_45).trans ((tT_fr q_37).trans ((tT_fr q_30).trans f_16))) ((tT_fr q_45).trans ((tT_fr q_37).trans ((tT_fr q_30).trans f_17))) p0r_43 (j_20.trans (lp_step (decide_eq_true (by omega)) (by rw [eg_41, eg_34]) (by omega))) hw (lv_sub hl [0, 2, 3] rfl)
        · refine lv_aload_n hx hb dX4_readSum_25 rfl (lv_at hl 1 rfl) ?_
          refine ti_get (ci := 4) (k := 0) (N := 6) (T := TX4) (v := .ref (A 2 0)) C hw iw_4 rfl ob_1 (by decide) (by decide) fl_X4_12 rfl rfl dX4_readSum_26 ?_
          refine ti_get (ci := 7) (k := 4) (N := 7) (T := TX7) C hw iw_7 rfl ob_2 (by decide) (by decide) fl_X4_41 rfl rfl dX4_readSum_29 ?_
          refine ti_top (y := x_23) (ex_23.symm) ?_
          have u_25 : (tI M_11 2 4).toInt = (x_23 : Int32).toInt := by rw [(ex_23.symm)]
          refine lv_bipush (v := 39) hx hb dX4_readSum_32 (by decide) ?_
          refine sb_icmp_ne (tgt := 69) hx hb rfl (by decide : (39 : Int32).toInt = 39) dX4_readSum_34 (by decide) (fun c_34_25 => ?_) (fun c_34_25 => ?_)
          · exact hQ _ _ _ _ _ hw (⟨iM_11, (f_12), f_13, (f_14), f_15, (by unfold pp_sm; rw [← eg_7, j_20, lp_end (P := pp_qP) (f := 64 - x_8.toInt.toNat) (s := g_18) (Or.inr (decide_eq_false (by omega)))]; exact hs_19)⟩) dX4_readSum_69
          · refine lv_aload_n hx hb dX4_readSum_37 rfl (lv_at hl 1 rfl) ?_
            refine ti_get (ci := 4) (k := 0) (N := 6) (T := TX4) (v := .ref (A 2 0)) C hw iw_4 rfl ob_1 (by decide) (by decide) fl_X4_12 rfl rfl dX4_readSum_38 ?_
            refine ti_get (ci := 7) (k := 4) (N := 7) (T := TX7) C hw iw_7 rfl ob_2 (by decide) (by decide) fl_X4_41 rfl rfl dX4_readSum_41 ?_
            refine ti_top (y := x_23) (ex_23.symm) ?_
            have u_48 : (tI M_11 2 4).toInt = (x_23 : Int32).toInt := by rw [(ex_23.symm)]
            refine lv_istore_n (lv' := [(3, .int x_23), (2, .int x_8), (0, .ref (A 1 0)), (1, .int 3)]) hx hb dX4_readSum_44 rfl hl (by decide) rfl (fun ls hl => ?_)
            refine lv_aload_n hx hb dX4_readSum_45 rfl (lv_at hl 2 rfl) ?_
            refine ti_callVvE (ci := 4) (av := []) C hE hw (x_X4_knot l D A cy hJ M_11 iM_11 t ht (f_16) B n g_18 hs_19) ⟨ml_X4_167, ym_X4_knot, yv_X4_knot, yi_X4_knot, yc_X4_knot⟩ yd_X4_knot ob_1 (by decide) rfl rfl hl.1 (Nat.le_of_ble_eq_true rfl) ⟨by decide, by decide⟩ ⟨Nat.zero_le _, Nat.zero_le _⟩ dX4_readSum_46 (fun M_50 H locs hp_50 hw => ?_)
            obtain ⟨iM_50, q_51, q_52, q_53, q_54, p0r_49⟩ := hp_50
            obtain ⟨g_55, eg_55⟩ : ∃ z : Nat → Int, z = pp_kn B n g_18 := ⟨_, rfl⟩
            rw [← eg_55] at p0r_49
            have lg_55_0 : g_55 0 = (tI M_50 2 4).toInt := p0r_49.2.1.1
            have lg_55_1 : g_55 1 = (tI M_50 2 6).toInt := p0r_49.2.1.2.1
            have lg_55_4 : g_55 4 = (tI M_50 1 4).toInt := p0r_49.2.2.1.1
            have lg_55_7 : g_55 7 = (tI M_50 t 4).toInt := p0r_49.2.2.2.1.1
            have lg_55_8 : g_55 8 = (tI M_50 t 5).toInt := p0r_49.2.2.2.1.2.1
            refine lv_aload_n hx hb dX4_readSum_49 rfl (lv_at hl 2 rfl) ?_
            refine lv_iload_n hx hb dX4_readSum_50 rfl (lv_at hl 3 rfl) ?_
            refine ti_callVvE (ci := 4) (av := [.int 3]) C hE hw (x_X4_readProduct_3 l D A cy hJ M_50 iM_50 t ht ((tT_fr q_51).trans f_16) lw hlw ((tT_fr q_51).trans f_17) B n g_55 p0r_49) ⟨ml_X4_184, ym_X4_readProduct, yv_X4_readProduct, yi_X4_readProduct, yc_X4_readProduct⟩ yd_X4_readProduct ob_1 (by decide) rfl rfl hl.1 (Nat.le_of_ble_eq_true rfl) ⟨by decide, by decide⟩ ⟨Nat.zero_le _, Nat.zero_le _⟩ dX4_readSum_51 (fun M_57 H locs hp_57 hw => ?_)
            obtain ⟨iM_57, q_58, q_59, q_60, q_61, p0r_56⟩ := hp_57
            obtain ⟨g_62, eg_62⟩ : ∃ z : Nat → Int, z = pp_pd B n (pp_pt B n 5) g_55 := ⟨_, rfl⟩
            rw [← eg_62] at p0r_56
            have lg_62_0 : g_62 0 = (tI M_57 2 4).toInt := p0r_56.2.1.1
            have lg_62_1 : g_62 1 = (tI M_57 2 6).toInt := p0r_56.2.1.2.1
            have lg_62_4 : g_62 4 = (tI M_57 1 4).toInt := p0r_56.2.2.1.1
            have lg_62_7 : g_62 7 = (tI M_57 t 4).toInt := p0r_56.2.2.2.1.1
            have lg_62_8 : g_62 8 = (tI M_57 t 5).toInt := p0r_56.2.2.2.1.2.1
            refine lv_aload_n hx hb dX4_readSum_54 rfl (lv_at hl 2 rfl) ?_
            refine ti_get (ci := 4) (k := 2) (N := 6) (T := TX4) (v := .ref (A lw 0)) C hw iw_4 rfl ob_1 (by decide) (by decide) fl_X4_154 rfl (ti_Tv ((tT_fr q_58).trans ((tT_fr q_51).trans f_17))) dX4_readSum_55 ?_
            refine lv_iload_n hx hb dX4_readSum_58 rfl (lv_at hl 0 rfl) ?_
            refine lv_ineg hx hb dX4_readSum_59 ?_
            refine lv_topi (fun x_63 ex_63 => ?_)
            have tx_63 : x_63.toInt = -x_23.toInt := i_neg ex_63 rfl (by omega)
            refine ti_callVv (ci := 1) (av := [.int x_63]) C hw (x_X1_add l D A cy hJ M_57 iM_57 lw hlw x_63 (by first | omega | exact Or.inl (by decide) | exact Or.inr (by decide)) t ht B n g_62 p0r_56) ⟨ml_X4_170, ym_X1_add, yv_X1_add, yi_X1_add, yc_X1_add⟩ yd_X1_add hlw (by decide) rfl rfl hl.1 (Nat.le_of_ble_eq_true rfl) ⟨by decide, by decide⟩ ⟨Nat.zero_le _, Nat.zero_le _⟩ dX4_readSum_60 (fun M_65 H locs hp_65 hw => ?_)
            obtain ⟨iM_65, q_66, q_67, p0r_64⟩ := hp_65
            have lM_65_0 : g_62 0 = (tI M_65 2 4).toInt := p0r_64.2.1.1
            have lM_65_1 : g_62 1 = (tI M_65 2 6).toInt := p0r_64.2.1.2.1
            have lM_65_4 : g_62 4 = (tI M_65 1 4).toInt := p0r_64.2.2.1.1
            have lM_65_7 : g_62 7 = (tI M_65 t 4).toInt := p0r_64.2.2.2.1.1
            have lM_65_8 : g_62 8 = (tI M_65 t 5).toInt := p0r_64.2.2.2.1.2.1
            obtain ⟨x_68, ex_68⟩ : ∃ z : Int32, z = x_8 + 1 := ⟨_, rfl⟩
            have tx_68 : x_68.toInt = x_8.toInt + 1 := i_add ex_68 rfl (by decide) (by omega) (by omega)
            refine lv_iinc (v := x_68) (lv' := [(2, .int x_68), (3, .int x_23), (0, .ref (A 1 0)), (1, .int 3)]) hx hb dX4_readSum_63 hl (k := 1) rfl (by rw [ex_68]; rfl) (by decide) rfl (fun ls hl => ?_)
            refine lv_goto (tgt := 7) hx hb dX4_readSum_66 (by decide) ?_
            exact ih_21 x_68 M_65 g_62 _ _ _ (by omega) (by first | omega | decide) (by first | omega | decide) iM_65 ((q_66).trans ((q_58).trans ((q_51).trans f_12))) (f0.trans (f0_x q_67) (f0.trans q_59 (f0.trans q_52 f_13))) (((q_67 1).2.1).trans ((q_60).trans ((q_53).trans f_14))) (ot.trans (ot_fx ht q_67) (ot.trans q_61 (ot.trans q_54 f_15))) ((tT_fr q_66).trans ((tT_fr q_58).trans ((tT_fr q_51).trans f_16))) ((tT_fr q_66).trans ((tT_fr q_58).trans ((tT_fr q_51).trans f_17))) p0r_64 (j_20.trans (lp_step (decide_eq_true (by omega)) (by rw [eg_62, eg_55]) (by omega))) hw (lv_sub hl [0, 2, 3] rfl)
  exact hl_7_20 ((64 - 0 : Int).toNat + 1) 0 M_2 g_7 _ _ _ (Nat.lt_succ_self _) (by have lt0 : (0 : Int32).toInt = 0 := (by decide); first | omega | decide) (by have lt0 : (0 : Int32).toInt = 0 := (by decide); first | omega | decide) iM_2 (q_3) q_4 (q_5) q_6 ((tT_fr q_3).trans hT) ((tT_fr q_3).trans hL) p0r_1 rfl hw (lv_sub hl [0, 1, 2] rfl)
set_option maxHeartbeats 4000000 in
set_option maxRecDepth 100000 in
theorem x_X4_readComparison_3 (l : Launch) (D : va_G) (A : Nat → Nat → Nat) (cy : Nat → ClassId) (hJ : ti_inj ti_LT A) (M : ti_M) (hI : cI Tc M) (t : Nat) (ht : t = 3 ∨ t = 4) (hT : tT M 1 1 = some t) (lw : Nat) (hlw : ti_ob ti_LT lw 1) (hL : tT M 1 2 = some lw) (B : Nat → Int) (n : Nat) (rg : Nat → Int) (hr : rC B n t rg M) : ti_KvE l yX4_readComparison cX4_readComparison 3 46 ti_LT D A cy M [.ref (A 1 0), .int 3] (fun M2 => cI Tc M2 ∧ M2.2.2.2 = M.2.2.2 ∧ f0 M2 M ∧ tI M2 2 1 = tI M 2 1 ∧ ot t M2 M ∧ rC B n t (pp_cm B n (pp_pt B n 5) rg) M2) := by
  refine ti_eVE yp_X4_readComparison hJ ti_LT_nd (Nat.le_of_ble_eq_true rfl) ?_
  intro p e s m args below meth c Q H0 C hE hQ hw ls hl
  have hx := C.1
  have hb := C.2.1
  have hl : lv_has ls 3 [(0, .ref (A 1 0)), (1, .int 3)] := hl
  have l0 : rg 0 = (tI M 2 4).toInt := hr.2.1.1
  have l1 : rg 1 = (tI M 2 6).toInt := hr.2.1.2.1
  have l2 : rg 2 = (tI M 2 5).toInt := hr.2.1.2.2.1
  have l3 : rg 3 = (tI M 2 3).toInt := hr.2.1.2.2.2
  have l4 : rg 4 = (tI M 1 4).toInt := hr.2.2.1.1
  have l5 : rg 5 = (tI M 1 5).toInt := hr.2.2.1.2.1
  have l7 : rg 7 = (tI M t 4).toInt := hr.2.2.2.1.1
  have l8 : rg 8 = (tI M t 5).toInt := hr.2.2.2.1.2.1
  have l9 : rg 9 = (tI M t 3).toInt := hr.2.2.2.1.2.2
  refine lv_aload_n hx hb dX4_readComparison_0 rfl (lv_at hl 0 rfl) ?_
  refine lv_iload_n hx hb dX4_readComparison_1 rfl (lv_at hl 1 rfl) ?_
  refine ti_callVvE (ci := 4) (av := [.int 3]) C hE hw (x_X4_readSum_3 l D A cy hJ M hI t ht (hT) lw hlw (hL) B n rg hr) ⟨ml_X4_181, ym_X4_readSum, yv_X4_readSum, yi_X4_readSum, yc_X4_readSum⟩ yd_X4_readSum ob_1 (by decide) rfl rfl hl.1 (Nat.le_of_ble_eq_true rfl) ⟨by decide, by decide⟩ ⟨Nat.zero_le _, Nat.zero_le _⟩ dX4_readComparison_2 (fun M_2 H locs hp_2 hw => ?_)
  obtain ⟨iM_2, q_3, q_4, q_5, q_6, p0r_1⟩ := hp_2
  obtain ⟨g_7, eg_7⟩ : ∃ z : Nat → Int, z = pp_sm B n (pp_pt B n 5) rg := ⟨_, rfl⟩
  rw [← eg_7] at p0r_1
  have lg_7_0 : g_7 0 = (tI M_2 2 4).toInt := p0r_1.2.1.1
  have lg_7_1 : g_7 1 = (tI M_2 2 6).toInt := p0r_1.2.1.2.1
  have lg_7_4 : g_7 4 = (tI M_2 1 4).toInt := p0r_1.2.2.1.1
  have lg_7_7 : g_7 7 = (tI M_2 t 4).toInt := p0r_1.2.2.2.1.1
  have lg_7_8 : g_7 8 = (tI M_2 t 5).toInt := p0r_1.2.2.2.1.2.1
  refine lv_aload_n hx hb dX4_readComparison_5 rfl (lv_at hl 0 rfl) ?_
  refine ti_get (ci := 4) (k := 0) (N := 6) (T := TX4) (v := .ref (A 2 0)) C hw iw_4 rfl ob_1 (by decide) (by decide) fl_X4_12 rfl rfl dX4_readComparison_6 ?_
  refine ti_get (ci := 7) (k := 4) (N := 7) (T := TX7) C hw iw_7 rfl ob_2 (by decide) (by decide) fl_X4_41 rfl rfl dX4_readComparison_9 ?_
  refine lv_topi (fun x_8 ex_8 => ?_)
  have bx_8 : 0 ≤ x_8.toInt ∧ x_8.toInt ≤ 41 := cI_rd iM_2 ob_2.1 ex_8
  have ux_8 : (tI M_2 2 4).toInt = x_8.toInt := by rw [ex_8]
  refine lv_istore_n (lv' := [(2, .int x_8), (0, .ref (A 1 0)), (1, .int 3)]) hx hb dX4_readComparison_12 rfl hl (by decide) rfl (fun ls hl => ?_)
  refine lv_iload_n hx hb dX4_readComparison_13 rfl (lv_at hl 0 rfl) ?_
  refine lv_bipush (v := 32) hx hb dX4_readComparison_14 (by decide) ?_
  refine sb_icmp_lt (tgt := 43) hx hb rfl (by decide : (32 : Int32).toInt = 32) dX4_readComparison_16 (by decide) (fun c_16_8 => ?_) (fun c_16_8 => ?_)
  · exact hQ _ _ _ _ _ hw (⟨iM_2, (q_3), q_4, (q_5), q_6, (by unfold pp_cm; rw [← eg_7]; unfold pp_c2; rw [if_neg (fun q => by omega)]; exact p0r_1)⟩) dX4_readComparison_43
  · refine lv_iload_n hx hb dX4_readComparison_19 rfl (lv_at hl 0 rfl) ?_
    refine lv_bipush (v := 37) hx hb dX4_readComparison_20 (by decide) ?_
    refine sb_icmp_gt (tgt := 43) hx hb rfl (by decide : (37 : Int32).toInt = 37) dX4_readComparison_22 (by decide) (fun c_22_9 => ?_) (fun c_22_9 => ?_)
    · exact hQ _ _ _ _ _ hw (⟨iM_2, (q_3), q_4, (q_5), q_6, (by unfold pp_cm; rw [← eg_7]; unfold pp_c2; rw [if_neg (fun q => by omega)]; exact p0r_1)⟩) dX4_readComparison_43
    · refine lv_aload_n hx hb dX4_readComparison_25 rfl (lv_at hl 1 rfl) ?_
      refine ti_callVvE (ci := 4) (av := []) C hE hw (x_X4_knot l D A cy hJ M_2 iM_2 t ht ((tT_fr q_3).trans hT) B n g_7 p0r_1) ⟨ml_X4_167, ym_X4_knot, yv_X4_knot, yi_X4_knot, yc_X4_knot⟩ yd_X4_knot ob_1 (by decide) rfl rfl hl.1 (Nat.le_of_ble_eq_true rfl) ⟨by decide, by decide⟩ ⟨Nat.zero_le _, Nat.zero_le _⟩ dX4_readComparison_26 (fun M_12 H locs hp_12 hw => ?_)
      obtain ⟨iM_12, q_13, q_14, q_15, q_16, p0r_11⟩ := hp_12
      obtain ⟨g_17, eg_17⟩ : ∃ z : Nat → Int, z = pp_kn B n g_7 := ⟨_, rfl⟩
      rw [← eg_17] at p0r_11
      have lg_17_0 : g_17 0 = (tI M_12 2 4).toInt := p0r_11.2.1.1
      have lg_17_1 : g_17 1 = (tI M_12 2 6).toInt := p0r_11.2.1.2.1
      have lg_17_4 : g_17 4 = (tI M_12 1 4).toInt := p0r_11.2.2.1.1
      have lg_17_7 : g_17 7 = (tI M_12 t 4).toInt := p0r_11.2.2.2.1.1
      have lg_17_8 : g_17 8 = (tI M_12 t 5).toInt := p0r_11.2.2.2.1.2.1
      refine lv_aload_n hx hb dX4_readComparison_29 rfl (lv_at hl 1 rfl) ?_
      refine lv_iload_n hx hb dX4_readComparison_30 rfl (lv_at hl 2 rfl) ?_
      refine ti_callVvE (ci := 4) (av := [.int 3]) C hE hw (x_X4_readSum_3 l D A cy hJ M_12 iM_12 t ht ((tT_fr q_13).trans ((tT_fr q_3).trans hT)) lw hlw ((tT_fr q_13).trans ((tT_fr q_3).trans hL)) B n g_17 p0r_11) ⟨ml_X4_181, ym_X4_readSum, yv_X4_readSum, yi_X4_readSum, yc_X4_readSum⟩ yd_X4_readSum ob_1 (by decide) rfl rfl hl.1 (Nat.le_of_ble_eq_true rfl) ⟨by decide, by decide⟩ ⟨Nat.zero_le _, Nat.zero_le _⟩ dX4_readComparison_31 (fun M_19 H locs hp_19 hw => ?_)
      obtain ⟨iM_19, q_20, q_21, q_22, q_23, p0r_18⟩ := hp_19
      obtain ⟨g_24, eg_24⟩ : ∃ z : Nat → Int, z = pp_sm B n (pp_pt B n 5) g_17 := ⟨_, rfl⟩
      rw [← eg_24] at p0r_18
      have lg_24_0 : g_24 0 = (tI M_19 2 4).toInt := p0r_18.2.1.1
      have lg_24_1 : g_24 1 = (tI M_19 2 6).toInt := p0r_18.2.1.2.1
      have lg_24_4 : g_24 4 = (tI M_19 1 4).toInt := p0r_18.2.2.1.1
      have lg_24_7 : g_24 7 = (tI M_19 t 4).toInt := p0r_18.2.2.2.1.1
      have lg_24_8 : g_24 8 = (tI M_19 t 5).toInt := p0r_18.2.2.2.1.2.1
      refine lv_aload_n hx hb dX4_readComparison_34 rfl (lv_at hl 1 rfl) ?_
      refine ti_get (ci := 4) (k := 2) (N := 6) (T := TX4) (v := .ref (A lw 0)) C hw iw_4 rfl ob_1 (by decide) (by decide) fl_X4_154 rfl (ti_Tv ((tT_fr q_20).trans ((tT_fr q_13).trans ((tT_fr q_3).trans hL)))) dX4_readComparison_35 ?_
      refine lv_iload_n hx hb dX4_readComparison_38 rfl (lv_at hl 0 rfl) ?_
      refine lv_ineg hx hb dX4_readComparison_39 ?_
      refine lv_topi (fun x_25 ex_25 => ?_)
      have tx_25 : x_25.toInt = -x_8.toInt := i_neg ex_25 rfl (by omega)
      refine ti_callVv (ci := 1) (av := [.int x_25]) C hw (x_X1_add l D A cy hJ M_19 iM_19 lw hlw x_25 (by first | omega | exact Or.inl (by decide) | exact Or.inr (by decide)) t ht B n g_24 p0r_18) ⟨ml_X4_170, ym_X1_add, yv_X1_add, yi_X1_add, yc_X1_add⟩ yd_X1_add hlw (by decide) rfl rfl hl.1 (Nat.le_of_ble_eq_true rfl) ⟨by decide, by decide⟩ ⟨Nat.zero_le _, Nat.zero_le _⟩ dX4_readComparison_40 (fun M_27 H locs hp_27 hw => ?_)
      obtain ⟨iM_27, q_28, q_29, p0r_26⟩ := hp_27
      have lM_27_0 : g_24 0 = (tI M_27 2 4).toInt := p0r_26.2.1.1
      have lM_27_1 : g_24 1 = (tI M_27 2 6).toInt := p0r_26.2.1.2.1
      have lM_27_4 : g_24 4 = (tI M_27 1 4).toInt := p0r_26.2.2.1.1
      have lM_27_7 : g_24 7 = (tI M_27 t 4).toInt := p0r_26.2.2.2.1.1
      have lM_27_8 : g_24 8 = (tI M_27 t 5).toInt := p0r_26.2.2.2.1.2.1
      exact hQ _ _ _ _ _ hw (⟨iM_27, ((q_28).trans ((q_20).trans ((q_13).trans q_3))), (f0.trans (f0_x q_29) (f0.trans q_21 (f0.trans q_14 q_4))), (((q_29 1).2.1).trans ((q_22).trans ((q_15).trans q_5))), (ot.trans (ot_fx ht q_29) (ot.trans q_23 (ot.trans q_16 q_6))), (by unfold pp_cm; rw [← eg_7]; unfold pp_c2; rw [if_pos ⟨by omega, by omega⟩, ← eg_17, ← eg_24]; exact p0r_26)⟩) dX4_readComparison_43
set_option maxHeartbeats 4000000 in
set_option maxRecDepth 100000 in
theorem x_X4_readNegated_3 (l : Launch) (D : va_G) (A : Nat → Nat → Nat) (cy : Nat → ClassId) (hJ : ti_inj ti_LT A) (M : ti_M) (hI : cI Tc M) (t : Nat) (ht : t = 3 ∨ t = 4) (hT : tT M 1 1 = some t) (lw : Nat) (hlw : ti_ob ti_LT lw 1) (hL : tT M 1 2 = some lw) (B : Nat → Int) (n : Nat) (rg : Nat → Int) (hr : rC B n t rg M) : ti_KvE l yX4_readNegated cX4_readNegated 4 47 ti_LT D A cy M [.ref (A 1 0), .int 3] (fun M2 => cI Tc M2 ∧ M2.2.2.2 = M.2.2.2 ∧ f0 M2 M ∧ tI M2 2 1 = tI M 2 1 ∧ ot t M2 M ∧ rC B n t (pp_ng B n (pp_pt B n 5) rg) M2) := by
  refine ti_eVE yp_X4_readNegated hJ ti_LT_nd (Nat.le_of_ble_eq_true rfl) ?_
  intro p e s m args below meth c Q H0 C hE hQ hw ls hl
  have hx := C.1
  have hb := C.2.1
  have hl : lv_has ls 4 [(0, .ref (A 1 0)), (1, .int 3)] := hl
  have l0 : rg 0 = (tI M 2 4).toInt := hr.2.1.1
  have l1 : rg 1 = (tI M 2 6).toInt := hr.2.1.2.1
  have l2 : rg 2 = (tI M 2 5).toInt := hr.2.1.2.2.1
  have l3 : rg 3 = (tI M 2 3).toInt := hr.2.1.2.2.2
  have l4 : rg 4 = (tI M 1 4).toInt := hr.2.2.1.1
  have l5 : rg 5 = (tI M 1 5).toInt := hr.2.2.1.2.1
  have l7 : rg 7 = (tI M t 4).toInt := hr.2.2.2.1.1
  have l8 : rg 8 = (tI M t 5).toInt := hr.2.2.2.1.2.1
  have l9 : rg 9 = (tI M t 3).toInt := hr.2.2.2.1.2.2
  refine lv_iconst (v := 0) hx hb dX4_readNegated_0 (by decide) ?_
  refine lv_istore_n (lv' := [(2, .int 0), (0, .ref (A 1 0)), (1, .int 3)]) hx hb dX4_readNegated_1 rfl hl (by decide) rfl (fun ls hl => ?_)
  have hl_2_13 : ∀ (n_14 : Nat) (x_1 : Int32) (M_4 : ti_M) (g_11 : Nat → Int) (H : Heap) (locs : List Loc) (ls : Array Slot), (65 - x_1.toInt : Int).toNat < n_14 → (0 ≤ x_1.toInt) → (x_1.toInt ≤ 65) → (cI Tc M_4) → (M_4.2.2.2 = M.2.2.2) → (f0 M_4 M) → (tI M_4 2 1 = tI M 2 1) → (ot t M_4 M) → (tT M_4 1 1 = (some t)) → (tT M_4 1 2 = (some lw)) → (rC B n t g_11 M_4) → (pp_lp pp_qN (pp_kn B n) 65 rg = pp_lp pp_qN (pp_kn B n) (65 - (x_1.toInt).toNat) g_11) → ti_H ti_LT D A cy H0 M_4 H locs → lv_has ls 4 [(2, .int x_1), (0, .ref (A 1 0)), (1, .int 3)] → W p l e (ti_rm 47) s m args below meth c H locs 0 0 Q (F0 m 2 ls []) := by
    intro n_14
    induction n_14 with
    | zero => intro x_1 M_4 g_11 H locs ls hf_14; exact absurd hf_14 (Nat.not_lt_zero _)
    | succ n_14 ih_14 =>
      intro x_1 M_4 g_11 H locs ls hf_14 b_2 b_3 iM_4 f_5 f_6 f_7 f_8 f_9 f_10 hs_12 j_13 hw hl
      have lg_11_0 : g_11 0 = (tI M_4 2 4).toInt := hs_12.2.1.1
      have lg_11_1 : g_11 1 = (tI M_4 2 6).toInt := hs_12.2.1.2.1
      have lg_11_4 : g_11 4 = (tI M_4 1 4).toInt := hs_12.2.2.1.1
      have lg_11_7 : g_11 7 = (tI M_4 t 4).toInt := hs_12.2.2.2.1.1
      have lg_11_8 : g_11 8 = (tI M_4 t 5).toInt := hs_12.2.2.2.1.2.1
      refine lv_iload_n hx hb dX4_readNegated_2 rfl (lv_at hl 0 rfl) ?_
      refine lv_bipush (v := 64) hx hb dX4_readNegated_3 (by decide) ?_
      have hj_30_26 : ∀  (H : Heap) (locs : List Loc) (ls : Array Slot), (pp_lp pp_qN (pp_kn B n) 65 rg = g_11) → ti_H ti_LT D A cy H0 M_4 H locs → lv_has ls 4 [(2, .int x_1), (0, .ref (A 1 0)), (1, .int 3)] → W p l e (ti_rm 47) s m args below meth c H locs 0 0 Q (F0 m 30 ls []) := by
        intro  H locs ls j_26 hw hl
        have lg_11_0 : g_11 0 = (tI M_4 2 4).toInt := hs_12.2.1.1
        have lg_11_1 : g_11 1 = (tI M_4 2 6).toInt := hs_12.2.1.2.1
        have lg_11_4 : g_11 4 = (tI M_4 1 4).toInt := hs_12.2.2.1.1
        have lg_11_7 : g_11 7 = (tI M_4 t 4).toInt := hs_12.2.2.2.1.1
        have lg_11_8 : g_11 8 = (tI M_4 t 5).toInt := hs_12.2.2.2.1.2.1
        refine lv_aload_n hx hb dX4_readNegated_30 rfl (lv_at hl 1 rfl) ?_
        refine lv_iload_n hx hb dX4_readNegated_31 rfl (lv_at hl 2 rfl) ?_
        refine ti_callVvE (ci := 4) (av := [.int 3]) C hE hw (x_X4_readComparison_3 l D A cy hJ M_4 iM_4 t ht (f_9) lw hlw (f_10) B n g_11 hs_12) ⟨ml_X4_178, ym_X4_readComparison, yv_X4_readComparison, yi_X4_readComparison, yc_X4_readComparison⟩ yd_X4_readComparison ob_1 (by decide) rfl rfl hl.1 (Nat.le_of_ble_eq_true rfl) ⟨by decide, by decide⟩ ⟨Nat.zero_le _, Nat.zero_le _⟩ dX4_readNegated_32 (fun M_28 H locs hp_28 hw => ?_)
        obtain ⟨iM_28, q_29, q_30, q_31, q_32, p0r_27⟩ := hp_28
        obtain ⟨g_33, eg_33⟩ : ∃ z : Nat → Int, z = pp_cm B n (pp_pt B n 5) g_11 := ⟨_, rfl⟩
        rw [← eg_33] at p0r_27
        have lg_33_0 : g_33 0 = (tI M_28 2 4).toInt := p0r_27.2.1.1
        have lg_33_1 : g_33 1 = (tI M_28 2 6).toInt := p0r_27.2.1.2.1
        have lg_33_4 : g_33 4 = (tI M_28 1 4).toInt := p0r_27.2.2.1.1
        have lg_33_7 : g_33 7 = (tI M_28 t 4).toInt := p0r_27.2.2.2.1.1
        have lg_33_8 : g_33 8 = (tI M_28 t 5).toInt := p0r_27.2.2.2.1.2.1
        have EM : pp_ng B n (pp_pt B n 5) rg = g_33 := by unfold pp_ng; rw [j_26, ← eg_33]
        refine lv_iconst (v := 0) hx hb dX4_readNegated_35 (by decide) ?_
        refine lv_istore_n (lv' := [(3, .int 0), (2, .int x_1), (0, .ref (A 1 0)), (1, .int 3)]) hx hb dX4_readNegated_36 rfl hl (by decide) rfl (fun ls hl => ?_)
        have hl_37_46 : ∀ (n_47 : Nat) (x_34 : Int32) (M_37 : ti_M) (g_44 : Nat → Int) (H : Heap) (locs : List Loc) (ls : Array Slot), (65 - x_34.toInt : Int).toNat < n_47 → (0 ≤ x_34.toInt) → (x_34.toInt ≤ 65) → (cI Tc M_37) → (M_37.2.2.2 = M.2.2.2) → (f0 M_37 M) → (tI M_37 2 1 = tI M 2 1) → (ot t M_37 M) → (tT M_37 1 1 = (some t)) → (tT M_37 1 2 = (some lw)) → (rC B n t g_44 M_37) → (g_33 = g_44) → ti_H ti_LT D A cy H0 M_37 H locs → lv_has ls 4 [(3, .int x_34), (2, .int x_1), (0, .ref (A 1 0)), (1, .int 3)] → W p l e (ti_rm 47) s m args below meth c H locs 0 0 Q (F0 m 37 ls []) := by
          intro n_47
          induction n_47 with
          | zero => intro x_34 M_37 g_44 H locs ls hf_47; exact absurd hf_47 (Nat.not_lt_zero _)
          | succ n_47 ih_47 =>
            intro x_34 M_37 g_44 H locs ls hf_47 b_35 b_36 iM_37 f_38 f_39 f_40 f_41 f_42 f_43 hs_45 j_46 hw hl
            have lg_44_0 : g_44 0 = (tI M_37 2 4).toInt := hs_45.2.1.1
            have lg_44_1 : g_44 1 = (tI M_37 2 6).toInt := hs_45.2.1.2.1
            have lg_44_4 : g_44 4 = (tI M_37 1 4).toInt := hs_45.2.2.1.1
            have lg_44_7 : g_44 7 = (tI M_37 t 4).toInt := hs_45.2.2.2.1.1
            have lg_44_8 : g_44 8 = (tI M_37 t 5).toInt := hs_45.2.2.2.1.2.1
            refine lv_iload_n hx hb dX4_readNegated_37 rfl (lv_at hl 0 rfl) ?_
            refine lv_iload_n hx hb dX4_readNegated_38 rfl (lv_at hl 1 rfl) ?_
            refine sb_icmp_ge (tgt := 57) hx hb rfl rfl dX4_readNegated_39 (by decide) (fun c_39_47 => ?_) (fun c_39_47 => ?_)
            · exact hQ _ _ _ _ _ hw (⟨iM_37, (f_38), f_39, (f_40), f_41, (by rw [EM, j_46]; exact hs_45)⟩) dX4_readNegated_57
            · refine lv_aload_n hx hb dX4_readNegated_42 rfl (lv_at hl 2 rfl) ?_
              refine ti_get (ci := 4) (k := 2) (N := 6) (T := TX4) (v := .ref (A lw 0)) C hw iw_4 rfl ob_1 (by decide) (by decide) fl_X4_154 rfl (ti_Tv (f_43)) dX4_readNegated_43 ?_
              refine lv_bipush (v := (-24)) hx hb dX4_readNegated_46 (by decide) ?_
              refine ti_callVv (ci := 1) (av := [.int (-24)]) C hw (x_X1_add l D A cy hJ M_37 iM_37 lw hlw (-24) (by first | omega | exact Or.inl (by decide) | exact Or.inr (by decide)) t ht B n g_44 hs_45) ⟨ml_X4_170, ym_X1_add, yv_X1_add, yi_X1_add, yc_X1_add⟩ yd_X1_add hlw (by decide) rfl rfl hl.1 (Nat.le_of_ble_eq_true rfl) ⟨by decide, by decide⟩ ⟨Nat.zero_le _, Nat.zero_le _⟩ dX4_readNegated_48 (fun M_50 H locs hp_50 hw => ?_)
              obtain ⟨iM_50, q_51, q_52, p0r_49⟩ := hp_50
              have lM_50_0 : g_44 0 = (tI M_50 2 4).toInt := p0r_49.2.1.1
              have lM_50_1 : g_44 1 = (tI M_50 2 6).toInt := p0r_49.2.1.2.1
              have lM_50_4 : g_44 4 = (tI M_50 1 4).toInt := p0r_49.2.2.1.1
              have lM_50_7 : g_44 7 = (tI M_50 t 4).toInt := p0r_49.2.2.2.1.1
              have lM_50_8 : g_44 8 = (tI M_50 t 5).toInt := p0r_49.2.2.2.1.2.1
              obtain ⟨x_53, ex_53⟩ : ∃ z : Int32, z = x_34 + 1 := ⟨_, rfl⟩
              have tx_53 : x_53.toInt = x_34.toInt + 1 := i_add ex_53 rfl (by decide) (by omega) (by omega)
              refine lv_iinc (v := x_53) (lv' := [(3, .int x_53), (2, .int x_1), (0, .ref (A 1 0)), (1, .int 3)]) hx hb dX4_readNegated_51 hl (k := 0) rfl (by rw [ex_53]; rfl) (by decide) rfl (fun ls hl => ?_)
              refine lv_goto (tgt := 37) hx hb dX4_readNegated_54 (by decide) ?_
              exact ih_47 x_53 M_50 g_44 _ _ _ (by omega) (by first | omega | decide) (by first | omega | decide) iM_50 ((q_51).trans f_38) (f0.trans (f0_x q_52) f_39) (((q_52 1).2.1).trans f_40) (ot.trans (ot_fx ht q_52) f_41) ((tT_fr q_51).trans f_42) ((tT_fr q_51).trans f_43) p0r_49 j_46 hw (lv_sub hl [0, 1, 2, 3] rfl)
        exact hl_37_46 ((65 - 0 : Int).toNat + 1) 0 M_28 g_33 _ _ _ (Nat.lt_succ_self _) (by have lt0 : (0 : Int32).toInt = 0 := (by decide); first | omega | decide) (by have lt0 : (0 : Int32).toInt = 0 := (by decide); first | omega | decide) iM_28 ((q_29).trans f_5) (f0.trans q_30 f_6) ((q_31).trans f_7) (ot.trans q_32 f_8) ((tT_fr q_29).trans f_9) ((tT_fr q_29).trans f_10) p0r_27 rfl hw (lv_sub hl [0, 1, 2, 3] rfl)
      refine sb_icmp_gt (tgt := 30) hx hb rfl (by decide : (64 : Int32).toInt = 64) dX4_readNegated_5 (by decide) (fun c_5_14 => ?_) (fun c_5_14 => ?_)
      · exact hj_30_26  _ _ _ (by rw [j_13, lp_end (P := pp_qN) (f := 65 - x_1.toInt.toNat) (s := g_11) (Or.inl (by omega))]) hw (lv_sub hl [0, 1, 2] rfl)
      · refine lv_aload_n hx hb dX4_readNegated_8 rfl (lv_at hl 1 rfl) ?_
        refine ti_get (ci := 4) (k := 0) (N := 6) (T := TX4) (v := .ref (A 2 0)) C hw iw_4 rfl ob_1 (by decide) (by decide) fl_X4_12 rfl rfl dX4_readNegated_9 ?_
        refine ti_get (ci := 7) (k := 4) (N := 7) (T := TX7) C hw iw_7 rfl ob_2 (by decide) (by decide) fl_X4_41 rfl rfl dX4_readNegated_12 ?_
        refine lv_topi (fun x_16 ex_16 => ?_)
        have bx_16 : 0 ≤ x_16.toInt ∧ x_16.toInt ≤ 41 := cI_rd iM_4 ob_2.1 ex_16
        have ux_16 : (tI M_4 2 4).toInt = x_16.toInt := by rw [ex_16]
        refine lv_bipush (v := 24) hx hb dX4_readNegated_15 (by decide) ?_
        refine sb_icmp_ne (tgt := 30) hx hb rfl (by decide : (24 : Int32).toInt = 24) dX4_readNegated_17 (by decide) (fun c_17_16 => ?_) (fun c_17_16 => ?_)
        · exact hj_30_26  _ _ _ (by rw [j_13, lp_end (P := pp_qN) (f := 65 - x_1.toInt.toNat) (s := g_11) (Or.inr (decide_eq_false (by omega)))]) hw (lv_sub hl [0, 1, 2] rfl)
        · refine lv_aload_n hx hb dX4_readNegated_20 rfl (lv_at hl 1 rfl) ?_
          refine ti_callVvE (ci := 4) (av := []) C hE hw (x_X4_knot l D A cy hJ M_4 iM_4 t ht (f_9) B n g_11 hs_12) ⟨ml_X4_167, ym_X4_knot, yv_X4_knot, yi_X4_knot, yc_X4_knot⟩ yd_X4_knot ob_1 (by decide) rfl rfl hl.1 (Nat.le_of_ble_eq_true rfl) ⟨by decide, by decide⟩ ⟨Nat.zero_le _, Nat.zero_le _⟩ dX4_readNegated_21 (fun M_19 H locs hp_19 hw => ?_)
          obtain ⟨iM_19, q_20, q_21, q_22, q_23, p0r_18⟩ := hp_19
          obtain ⟨g_24, eg_24⟩ : ∃ z : Nat → Int, z = pp_kn B n g_11 := ⟨_, rfl⟩
          rw [← eg_24] at p0r_18
          have lg_24_0 : g_24 0 = (tI M_19 2 4).toInt := p0r_18.2.1.1
          have lg_24_1 : g_24 1 = (tI M_19 2 6).toInt := p0r_18.2.1.2.1
          have lg_24_4 : g_24 4 = (tI M_19 1 4).toInt := p0r_18.2.2.1.1
          have lg_24_7 : g_24 7 = (tI M_19 t 4).toInt := p0r_18.2.2.2.1.1
          have lg_24_8 : g_24 8 = (tI M_19 t 5).toInt := p0r_18.2.2.2.1.2.1
          obtain ⟨x_25, ex_25⟩ : ∃ z : Int32, z = x_1 + 1 := ⟨_, rfl⟩
          have tx_25 : x_25.toInt = x_1.toInt + 1 := i_add ex_25 rfl (by decide) (by omega) (by omega)
          refine lv_iinc (v := x_25) (lv' := [(2, .int x_25), (0, .ref (A 1 0)), (1, .int 3)]) hx hb dX4_readNegated_24 hl (k := 0) rfl (by rw [ex_25]; rfl) (by decide) rfl (fun ls hl => ?_)
          refine lv_goto (tgt := 2) hx hb dX4_readNegated_27 (by decide) ?_
          exact ih_14 x_25 M_19 g_24 _ _ _ (by omega) (by first | omega | decide) (by first | omega | decide) iM_19 ((q_20).trans f_5) (f0.trans q_21 f_6) ((q_22).trans f_7) (ot.trans q_23 f_8) ((tT_fr q_20).trans f_9) ((tT_fr q_20).trans f_10) p0r_18 (j_13.trans (lp_step (decide_eq_true (by omega)) (by rw [eg_24]) (by omega))) hw (lv_sub hl [0, 1, 2] rfl)
  exact hl_2_13 ((65 - 0 : Int).toNat + 1) 0 M rg _ _ _ (Nat.lt_succ_self _) (by have lt0 : (0 : Int32).toInt = 0 := (by decide); first | omega | decide) (by have lt0 : (0 : Int32).toInt = 0 := (by decide); first | omega | decide) hI rfl f0.refl rfl ot.refl (hT) (hL) hr rfl hw (lv_sub hl [0, 1, 2] rfl)
set_option maxHeartbeats 4000000 in
set_option maxRecDepth 100000 in
theorem x_X4_readBoth_3 (l : Launch) (D : va_G) (A : Nat → Nat → Nat) (cy : Nat → ClassId) (hJ : ti_inj ti_LT A) (M : ti_M) (hI : cI Tc M) (t : Nat) (ht : t = 3 ∨ t = 4) (hT : tT M 1 1 = some t) (lw : Nat) (hlw : ti_ob ti_LT lw 1) (hL : tT M 1 2 = some lw) (B : Nat → Int) (n : Nat) (rg : Nat → Int) (hr : rC B n t rg M) : ti_KvE l yX4_readBoth cX4_readBoth 3 48 ti_LT D A cy M [.ref (A 1 0), .int 3] (fun M2 => cI Tc M2 ∧ M2.2.2.2 = M.2.2.2 ∧ f0 M2 M ∧ tI M2 2 1 = tI M 2 1 ∧ ot t M2 M ∧ rC B n t (pp_bo B n (pp_pt B n 5) rg) M2) := by
  refine ti_eVE yp_X4_readBoth hJ ti_LT_nd (Nat.le_of_ble_eq_true rfl) ?_
  intro p e s m args below meth c Q H0 C hE hQ hw ls hl
  have hx := C.1
  have hb := C.2.1
  have hl : lv_has ls 3 [(0, .ref (A 1 0)), (1, .int 3)] := hl
  have l0 : rg 0 = (tI M 2 4).toInt := hr.2.1.1
  have l1 : rg 1 = (tI M 2 6).toInt := hr.2.1.2.1
  have l2 : rg 2 = (tI M 2 5).toInt := hr.2.1.2.2.1
  have l3 : rg 3 = (tI M 2 3).toInt := hr.2.1.2.2.2
  have l4 : rg 4 = (tI M 1 4).toInt := hr.2.2.1.1
  have l5 : rg 5 = (tI M 1 5).toInt := hr.2.2.1.2.1
  have l7 : rg 7 = (tI M t 4).toInt := hr.2.2.2.1.1
  have l8 : rg 8 = (tI M t 5).toInt := hr.2.2.2.1.2.1
  have l9 : rg 9 = (tI M t 3).toInt := hr.2.2.2.1.2.2
  refine lv_aload_n hx hb dX4_readBoth_0 rfl (lv_at hl 0 rfl) ?_
  refine lv_iload_n hx hb dX4_readBoth_1 rfl (lv_at hl 1 rfl) ?_
  refine ti_callVvE (ci := 4) (av := [.int 3]) C hE hw (x_X4_readNegated_3 l D A cy hJ M hI t ht (hT) lw hlw (hL) B n rg hr) ⟨ml_X4_175, ym_X4_readNegated, yv_X4_readNegated, yi_X4_readNegated, yc_X4_readNegated⟩ yd_X4_readNegated ob_1 (by decide) rfl rfl hl.1 (Nat.le_of_ble_eq_true rfl) ⟨by decide, by decide⟩ ⟨Nat.zero_le _, Nat.zero_le _⟩ dX4_readBoth_2 (fun M_2 H locs hp_2 hw => ?_)
  obtain ⟨iM_2, q_3, q_4, q_5, q_6, p0r_1⟩ := hp_2
  obtain ⟨g_7, eg_7⟩ : ∃ z : Nat → Int, z = pp_ng B n (pp_pt B n 5) rg := ⟨_, rfl⟩
  rw [← eg_7] at p0r_1
  have lg_7_0 : g_7 0 = (tI M_2 2 4).toInt := p0r_1.2.1.1
  have lg_7_1 : g_7 1 = (tI M_2 2 6).toInt := p0r_1.2.1.2.1
  have lg_7_4 : g_7 4 = (tI M_2 1 4).toInt := p0r_1.2.2.1.1
  have lg_7_7 : g_7 7 = (tI M_2 t 4).toInt := p0r_1.2.2.2.1.1
  have lg_7_8 : g_7 8 = (tI M_2 t 5).toInt := p0r_1.2.2.2.1.2.1
  refine lv_iconst (v := 0) hx hb dX4_readBoth_5 (by decide) ?_
  refine lv_istore_n (lv' := [(2, .int 0), (0, .ref (A 1 0)), (1, .int 3)]) hx hb dX4_readBoth_6 rfl hl (by decide) rfl (fun ls hl => ?_)
  have hl_7_20 : ∀ (n_21 : Nat) (x_8 : Int32) (M_11 : ti_M) (g_18 : Nat → Int) (H : Heap) (locs : List Loc) (ls : Array Slot), (64 - x_8.toInt : Int).toNat < n_21 → (0 ≤ x_8.toInt) → (x_8.toInt ≤ 64) → (cI Tc M_11) → (M_11.2.2.2 = M.2.2.2) → (f0 M_11 M) → (tI M_11 2 1 = tI M 2 1) → (ot t M_11 M) → (tT M_11 1 1 = (some t)) → (tT M_11 1 2 = (some lw)) → (rC B n t g_18 M_11) → (pp_lp pp_qA (fun s => pp_ng B n (pp_pt B n 5) (pp_kn B n s)) 64 g_7 = pp_lp pp_qA (fun s => pp_ng B n (pp_pt B n 5) (pp_kn B n s)) (64 - (x_8.toInt).toNat) g_18) → ti_H ti_LT D A cy H0 M_11 H locs → lv_has ls 3 [(2, .int x_8), (0, .ref (A 1 0)), (1, .int 3)] → W p l e (ti_rm 48) s m args below meth c H locs 0 0 Q (F0 m 7 ls []) := by
    intro n_21
    induction n_21 with
    | zero => intro x_8 M_11 g_18 H locs ls hf_21; exact absurd hf_21 (Nat.not_lt_zero _)
    | succ n_21 ih_21 =>
      intro x_8 M_11 g_18 H locs ls hf_21 b_9 b_10 iM_11 f_12 f_13 f_14 f_15 f_16 f_17 hs_19 j_20 hw hl
      have lg_18_0 : g_18 0 = (tI M_11 2 4).toInt := hs_19.2.1.1
      have lg_18_1 : g_18 1 = (tI M_11 2 6).toInt := hs_19.2.1.2.1
      have lg_18_4 : g_18 4 = (tI M_11 1 4).toInt := hs_19.2.2.1.1
      have lg_18_7 : g_18 7 = (tI M_11 t 4).toInt := hs_19.2.2.2.1.1
      have lg_18_8 : g_18 8 = (tI M_11 t 5).toInt := hs_19.2.2.2.1.2.1
      refine lv_iload_n hx hb dX4_readBoth_7 rfl (lv_at hl 0 rfl) ?_
      refine lv_bipush (v := 64) hx hb dX4_readBoth_8 (by decide) ?_
      refine sb_icmp_ge (tgt := 49) hx hb rfl (by decide : (64 : Int32).toInt = 64) dX4_readBoth_10 (by decide) (fun c_10_21 => ?_) (fun c_10_21 => ?_)
      · exact hQ _ _ _ _ _ hw (⟨iM_11, (f_12), f_13, (f_14), f_15, (by unfold pp_bo; rw [← eg_7, j_20, lp_end (P := pp_qA) (f := 64 - x_8.toInt.toNat) (s := g_18) (Or.inl (by omega))]; exact hs_19)⟩) dX4_readBoth_49
      · refine lv_aload_n hx hb dX4_readBoth_13 rfl (lv_at hl 1 rfl) ?_
        refine ti_get (ci := 4) (k := 0) (N := 6) (T := TX4) (v := .ref (A 2 0)) C hw iw_4 rfl ob_1 (by decide) (by decide) fl_X4_12 rfl rfl dX4_readBoth_14 ?_
        refine ti_get (ci := 7) (k := 4) (N := 7) (T := TX7) C hw iw_7 rfl ob_2 (by decide) (by decide) fl_X4_41 rfl rfl dX4_readBoth_17 ?_
        refine lv_topi (fun x_23 ex_23 => ?_)
        have bx_23 : 0 ≤ x_23.toInt ∧ x_23.toInt ≤ 41 := cI_rd iM_11 ob_2.1 ex_23
        have ux_23 : (tI M_11 2 4).toInt = x_23.toInt := by rw [ex_23]
        refine lv_bipush (v := 22) hx hb dX4_readBoth_20 (by decide) ?_
        refine sb_icmp_ne (tgt := 49) hx hb rfl (by decide : (22 : Int32).toInt = 22) dX4_readBoth_22 (by decide) (fun c_22_23 => ?_) (fun c_22_23 => ?_)
        · exact hQ _ _ _ _ _ hw (⟨iM_11, (f_12), f_13, (f_14), f_15, (by unfold pp_bo; rw [← eg_7, j_20, lp_end (P := pp_qA) (f := 64 - x_8.toInt.toNat) (s := g_18) (Or.inr (decide_eq_false (by omega)))]; exact hs_19)⟩) dX4_readBoth_49
        · refine lv_aload_n hx hb dX4_readBoth_25 rfl (lv_at hl 1 rfl) ?_
          refine ti_callVvE (ci := 4) (av := []) C hE hw (x_X4_knot l D A cy hJ M_11 iM_11 t ht (f_16) B n g_18 hs_19) ⟨ml_X4_167, ym_X4_knot, yv_X4_knot, yi_X4_knot, yc_X4_knot⟩ yd_X4_knot ob_1 (by decide) rfl rfl hl.1 (Nat.le_of_ble_eq_true rfl) ⟨by decide, by decide⟩ ⟨Nat.zero_le _, Nat.zero_le _⟩ dX4_readBoth_26 (fun M_26 H locs hp_26 hw => ?_)
          obtain ⟨iM_26, q_27, q_28, q_29, q_30, p0r_25⟩ := hp_26
          obtain ⟨g_31, eg_31⟩ : ∃ z : Nat → Int, z = pp_kn B n g_18 := ⟨_, rfl⟩
          rw [← eg_31] at p0r_25
          have lg_31_0 : g_31 0 = (tI M_26 2 4).toInt := p0r_25.2.1.1
          have lg_31_1 : g_31 1 = (tI M_26 2 6).toInt := p0r_25.2.1.2.1
          have lg_31_4 : g_31 4 = (tI M_26 1 4).toInt := p0r_25.2.2.1.1
          have lg_31_7 : g_31 7 = (tI M_26 t 4).toInt := p0r_25.2.2.2.1.1
          have lg_31_8 : g_31 8 = (tI M_26 t 5).toInt := p0r_25.2.2.2.1.2.1
          refine lv_aload_n hx hb dX4_readBoth_29 rfl (lv_at hl 1 rfl) ?_
          refine lv_iload_n hx hb dX4_readBoth_30 rfl (lv_at hl 2 rfl) ?_
          refine ti_callVvE (ci := 4) (av := [.int 3]) C hE hw (x_X4_readNegated_3 l D A cy hJ M_26 iM_26 t ht ((tT_fr q_27).trans f_16) lw hlw ((tT_fr q_27).trans f_17) B n g_31 p0r_25) ⟨ml_X4_175, ym_X4_readNegated, yv_X4_readNegated, yi_X4_readNegated, yc_X4_readNegated⟩ yd_X4_readNegated ob_1 (by decide) rfl rfl hl.1 (Nat.le_of_ble_eq_true rfl) ⟨by decide, by decide⟩ ⟨Nat.zero_le _, Nat.zero_le _⟩ dX4_readBoth_31 (fun M_33 H locs hp_33 hw => ?_)
          obtain ⟨iM_33, q_34, q_35, q_36, q_37, p0r_32⟩ := hp_33
          obtain ⟨g_38, eg_38⟩ : ∃ z : Nat → Int, z = pp_ng B n (pp_pt B n 5) g_31 := ⟨_, rfl⟩
          rw [← eg_38] at p0r_32
          have lg_38_0 : g_38 0 = (tI M_33 2 4).toInt := p0r_32.2.1.1
          have lg_38_1 : g_38 1 = (tI M_33 2 6).toInt := p0r_32.2.1.2.1
          have lg_38_4 : g_38 4 = (tI M_33 1 4).toInt := p0r_32.2.2.1.1
          have lg_38_7 : g_38 7 = (tI M_33 t 4).toInt := p0r_32.2.2.2.1.1
          have lg_38_8 : g_38 8 = (tI M_33 t 5).toInt := p0r_32.2.2.2.1.2.1
          refine lv_aload_n hx hb dX4_readBoth_34 rfl (lv_at hl 1 rfl) ?_
          refine ti_get (ci := 4) (k := 2) (N := 6) (T := TX4) (v := .ref (A lw 0)) C hw iw_4 rfl ob_1 (by decide) (by decide) fl_X4_154 rfl (ti_Tv ((tT_fr q_34).trans ((tT_fr q_27).trans f_17))) dX4_readBoth_35 ?_
          refine lv_bipush (v := (-22)) hx hb dX4_readBoth_38 (by decide) ?_
          refine ti_callVv (ci := 1) (av := [.int (-22)]) C hw (x_X1_add l D A cy hJ M_33 iM_33 lw hlw (-22) (by first | omega | exact Or.inl (by decide) | exact Or.inr (by decide)) t ht B n g_38 p0r_32) ⟨ml_X4_170, ym_X1_add, yv_X1_add, yi_X1_add, yc_X1_add⟩ yd_X1_add hlw (by decide) rfl rfl hl.1 (Nat.le_of_ble_eq_true rfl) ⟨by decide, by decide⟩ ⟨Nat.zero_le _, Nat.zero_le _⟩ dX4_readBoth_40 (fun M_40 H locs hp_40 hw => ?_)
          obtain ⟨iM_40, q_41, q_42, p0r_39⟩ := hp_40
          have lM_40_0 : g_38 0 = (tI M_40 2 4).toInt := p0r_39.2.1.1
          have lM_40_1 : g_38 1 = (tI M_40 2 6).toInt := p0r_39.2.1.2.1
          have lM_40_4 : g_38 4 = (tI M_40 1 4).toInt := p0r_39.2.2.1.1
          have lM_40_7 : g_38 7 = (tI M_40 t 4).toInt := p0r_39.2.2.2.1.1
          have lM_40_8 : g_38 8 = (tI M_40 t 5).toInt := p0r_39.2.2.2.1.2.1
          obtain ⟨x_43, ex_43⟩ : ∃ z : Int32, z = x_8 + 1 := ⟨_, rfl⟩
          have tx_43 : x_43.toInt = x_8.toInt + 1 := i_add ex_43 rfl (by decide) (by omega) (by omega)
          refine lv_iinc (v := x_43) (lv' := [(2, .int x_43), (0, .ref (A 1 0)), (1, .int 3)]) hx hb dX4_readBoth_43 hl (k := 0) rfl (by rw [ex_43]; rfl) (by decide) rfl (fun ls hl => ?_)
          refine lv_goto (tgt := 7) hx hb dX4_readBoth_46 (by decide) ?_
          exact ih_21 x_43 M_40 g_38 _ _ _ (by omega) (by first | omega | decide) (by first | omega | decide) iM_40 ((q_41).trans ((q_34).trans ((q_27).trans f_12))) (f0.trans (f0_x q_42) (f0.trans q_35 (f0.trans q_28 f_13))) (((q_42 1).2.1).trans ((q_36).trans ((q_29).trans f_14))) (ot.trans (ot_fx ht q_42) (ot.trans q_37 (ot.trans q_30 f_15))) ((tT_fr q_41).trans ((tT_fr q_34).trans ((tT_fr q_27).trans f_16))) ((tT_fr q_41).trans ((tT_fr q_34).trans ((tT_fr q_27).trans f_17))) p0r_39 (j_20.trans (lp_step (decide_eq_true (by omega)) (by rw [eg_38, eg_31]) (by omega))) hw (lv_sub hl [0, 1, 2] rfl)
  exact hl_7_20 ((64 - 0 : Int).toNat + 1) 0 M_2 g_7 _ _ _ (Nat.lt_succ_self _) (by have lt0 : (0 : Int32).toInt = 0 := (by decide); first | omega | decide) (by have lt0 : (0 : Int32).toInt = 0 := (by decide); first | omega | decide) iM_2 (q_3) q_4 (q_5) q_6 ((tT_fr q_3).trans hT) ((tT_fr q_3).trans hL) p0r_1 rfl hw (lv_sub hl [0, 1, 2] rfl)
set_option maxHeartbeats 4000000 in
set_option maxRecDepth 100000 in
theorem x_X4_readEither_3 (l : Launch) (D : va_G) (A : Nat → Nat → Nat) (cy : Nat → ClassId) (hJ : ti_inj ti_LT A) (M : ti_M) (hI : cI Tc M) (t : Nat) (ht : t = 3 ∨ t = 4) (hT : tT M 1 1 = some t) (lw : Nat) (hlw : ti_ob ti_LT lw 1) (hL : tT M 1 2 = some lw) (B : Nat → Int) (n : Nat) (rg : Nat → Int) (hr : rC B n t rg M) : ti_KvE l yX4_readEither cX4_readEither 3 49 ti_LT D A cy M [.ref (A 1 0), .int 3] (fun M2 => cI Tc M2 ∧ M2.2.2.2 = M.2.2.2 ∧ f0 M2 M ∧ tI M2 2 1 = tI M 2 1 ∧ ot t M2 M ∧ rC B n t (pp_ei B n (pp_pt B n 5) rg) M2) := by
  refine ti_eVE yp_X4_readEither hJ ti_LT_nd (Nat.le_of_ble_eq_true rfl) ?_
  intro p e s m args below meth c Q H0 C hE hQ hw ls hl
  have hx := C.1
  have hb := C.2.1
  have hl : lv_has ls 3 [(0, .ref (A 1 0)), (1, .int 3)] := hl
  have l0 : rg 0 = (tI M 2 4).toInt := hr.2.1.1
  have l1 : rg 1 = (tI M 2 6).toInt := hr.2.1.2.1
  have l2 : rg 2 = (tI M 2 5).toInt := hr.2.1.2.2.1
  have l3 : rg 3 = (tI M 2 3).toInt := hr.2.1.2.2.2
  have l4 : rg 4 = (tI M 1 4).toInt := hr.2.2.1.1
  have l5 : rg 5 = (tI M 1 5).toInt := hr.2.2.1.2.1
  have l7 : rg 7 = (tI M t 4).toInt := hr.2.2.2.1.1
  have l8 : rg 8 = (tI M t 5).toInt := hr.2.2.2.1.2.1
  have l9 : rg 9 = (tI M t 3).toInt := hr.2.2.2.1.2.2
  refine lv_aload_n hx hb dX4_readEither_0 rfl (lv_at hl 0 rfl) ?_
  refine lv_iload_n hx hb dX4_readEither_1 rfl (lv_at hl 1 rfl) ?_
  refine ti_callVvE (ci := 4) (av := [.int 3]) C hE hw (x_X4_readBoth_3 l D A cy hJ M hI t ht (hT) lw hlw (hL) B n rg hr) ⟨ml_X4_164, ym_X4_readBoth, yv_X4_readBoth, yi_X4_readBoth, yc_X4_readBoth⟩ yd_X4_readBoth ob_1 (by decide) rfl rfl hl.1 (Nat.le_of_ble_eq_true rfl) ⟨by decide, by decide⟩ ⟨Nat.zero_le _, Nat.zero_le _⟩ dX4_readEither_2 (fun M_2 H locs hp_2 hw => ?_)
  obtain ⟨iM_2, q_3, q_4, q_5, q_6, p0r_1⟩ := hp_2
  obtain ⟨g_7, eg_7⟩ : ∃ z : Nat → Int, z = pp_bo B n (pp_pt B n 5) rg := ⟨_, rfl⟩
  rw [← eg_7] at p0r_1
  have lg_7_0 : g_7 0 = (tI M_2 2 4).toInt := p0r_1.2.1.1
  have lg_7_1 : g_7 1 = (tI M_2 2 6).toInt := p0r_1.2.1.2.1
  have lg_7_4 : g_7 4 = (tI M_2 1 4).toInt := p0r_1.2.2.1.1
  have lg_7_7 : g_7 7 = (tI M_2 t 4).toInt := p0r_1.2.2.2.1.1
  have lg_7_8 : g_7 8 = (tI M_2 t 5).toInt := p0r_1.2.2.2.1.2.1
  refine lv_iconst (v := 0) hx hb dX4_readEither_5 (by decide) ?_
  refine lv_istore_n (lv' := [(2, .int 0), (0, .ref (A 1 0)), (1, .int 3)]) hx hb dX4_readEither_6 rfl hl (by decide) rfl (fun ls hl => ?_)
  have hl_7_20 : ∀ (n_21 : Nat) (x_8 : Int32) (M_11 : ti_M) (g_18 : Nat → Int) (H : Heap) (locs : List Loc) (ls : Array Slot), (64 - x_8.toInt : Int).toNat < n_21 → (0 ≤ x_8.toInt) → (x_8.toInt ≤ 64) → (cI Tc M_11) → (M_11.2.2.2 = M.2.2.2) → (f0 M_11 M) → (tI M_11 2 1 = tI M 2 1) → (ot t M_11 M) → (tT M_11 1 1 = (some t)) → (tT M_11 1 2 = (some lw)) → (rC B n t g_18 M_11) → (pp_lp pp_qO (fun s => pp_bo B n (pp_pt B n 5) (pp_kn B n s)) 64 g_7 = pp_lp pp_qO (fun s => pp_bo B n (pp_pt B n 5) (pp_kn B n s)) (64 - (x_8.toInt).toNat) g_18) → ti_H ti_LT D A cy H0 M_11 H locs → lv_has ls 3 [(2, .int x_8), (0, .ref (A 1 0)), (1, .int 3)] → W p l e (ti_rm 49) s m args below meth c H locs 0 0 Q (F0 m 7 ls []) := by
    intro n_21
    induction n_21 with
    | zero => intro x_8 M_11 g_18 H locs ls hf_21; exact absurd hf_21 (Nat.not_lt_zero _)
    | succ n_21 ih_21 =>
      intro x_8 M_11 g_18 H locs ls hf_21 b_9 b_10 iM_11 f_12 f_13 f_14 f_15 f_16 f_17 hs_19 j_20 hw hl
      have lg_18_0 : g_18 0 = (tI M_11 2 4).toInt := hs_19.2.1.1
      have lg_18_1 : g_18 1 = (tI M_11 2 6).toInt := hs_19.2.1.2.1
      have lg_18_4 : g_18 4 = (tI M_11 1 4).toInt := hs_19.2.2.1.1
      have lg_18_7 : g_18 7 = (tI M_11 t 4).toInt := hs_19.2.2.2.1.1
      have lg_18_8 : g_18 8 = (tI M_11 t 5).toInt := hs_19.2.2.2.1.2.1
      refine lv_iload_n hx hb dX4_readEither_7 rfl (lv_at hl 0 rfl) ?_
      refine lv_bipush (v := 64) hx hb dX4_readEither_8 (by decide) ?_
      refine sb_icmp_ge (tgt := 49) hx hb rfl (by decide : (64 : Int32).toInt = 64) dX4_readEither_10 (by decide) (fun c_10_21 => ?_) (fun c_10_21 => ?_)
      · exact hQ _ _ _ _ _ hw (⟨iM_11, (f_12), f_13, (f_14), f_15, (by unfold pp_ei; rw [← eg_7, j_20, lp_end (P := pp_qO) (f := 64 - x_8.toInt.toNat) (s := g_18) (Or.inl (by omega))]; exact hs_19)⟩) dX4_readEither_49
      · refine lv_aload_n hx hb dX4_readEither_13 rfl (lv_at hl 1 rfl) ?_
        refine ti_get (ci := 4) (k := 0) (N := 6) (T := TX4) (v := .ref (A 2 0)) C hw iw_4 rfl ob_1 (by decide) (by decide) fl_X4_12 rfl rfl dX4_readEither_14 ?_
        refine ti_get (ci := 7) (k := 4) (N := 7) (T := TX7) C hw iw_7 rfl ob_2 (by decide) (by decide) fl_X4_41 rfl rfl dX4_readEither_17 ?_
        refine lv_topi (fun x_23 ex_23 => ?_)
        have bx_23 : 0 ≤ x_23.toInt ∧ x_23.toInt ≤ 41 := cI_rd iM_11 ob_2.1 ex_23
        have ux_23 : (tI M_11 2 4).toInt = x_23.toInt := by rw [ex_23]
        refine lv_bipush (v := 23) hx hb dX4_readEither_20 (by decide) ?_
        refine sb_icmp_ne (tgt := 49) hx hb rfl (by decide : (23 : Int32).toInt = 23) dX4_readEither_22 (by decide) (fun c_22_23 => ?_) (fun c_22_23 => ?_)
        · exact hQ _ _ _ _ _ hw (⟨iM_11, (f_12), f_13, (f_14), f_15, (by unfold pp_ei; rw [← eg_7, j_20, lp_end (P := pp_qO) (f := 64 - x_8.toInt.toNat) (s := g_18) (Or.inr (decide_eq_false (by omega)))]; exact hs_19)⟩) dX4_readEither_49
        · refine lv_aload_n hx hb dX4_readEither_25 rfl (lv_at hl 1 rfl) ?_
          refine ti_callVvE (ci := 4) (av := []) C hE hw (x_X4_knot l D A cy hJ M_11 iM_11 t ht (f_16) B n g_18 hs_19) ⟨ml_X4_167, ym_X4_knot, yv_X4_knot, yi_X4_knot, yc_X4_knot⟩ yd_X4_knot ob_1 (by decide) rfl rfl hl.1 (Nat.le_of_ble_eq_true rfl) ⟨by decide, by decide⟩ ⟨Nat.zero_le _, Nat.zero_le _⟩ dX4_readEither_26 (fun M_26 H locs hp_26 hw => ?_)
          obtain ⟨iM_26, q_27, q_28, q_29, q_30, p0r_25⟩ := hp_26
          obtain ⟨g_31, eg_31⟩ : ∃ z : Nat → Int, z = pp_kn B n g_18 := ⟨_, rfl⟩
          rw [← eg_31] at p0r_25
          have lg_31_0 : g_31 0 = (tI M_26 2 4).toInt := p0r_25.2.1.1
          have lg_31_1 : g_31 1 = (tI M_26 2 6).toInt := p0r_25.2.1.2.1
          have lg_31_4 : g_31 4 = (tI M_26 1 4).toInt := p0r_25.2.2.1.1
          have lg_31_7 : g_31 7 = (tI M_26 t 4).toInt := p0r_25.2.2.2.1.1
          have lg_31_8 : g_31 8 = (tI M_26 t 5).toInt := p0r_25.2.2.2.1.2.1
          refine lv_aload_n hx hb dX4_readEither_29 rfl (lv_at hl 1 rfl) ?_
          refine lv_iload_n hx hb dX4_readEither_30 rfl (lv_at hl 2 rfl) ?_
          refine ti_callVvE (ci := 4) (av := [.int 3]) C hE hw (x_X4_readBoth_3 l D A cy hJ M_26 iM_26 t ht ((tT_fr q_27).trans f_16) lw hlw ((tT_fr q_27).trans f_17) B n g_31 p0r_25) ⟨ml_X4_164, ym_X4_readBoth, yv_X4_readBoth, yi_X4_readBoth, yc_X4_readBoth⟩ yd_X4_readBoth ob_1 (by decide) rfl rfl hl.1 (Nat.le_of_ble_eq_true rfl) ⟨by decide, by decide⟩ ⟨Nat.zero_le _, Nat.zero_le _⟩ dX4_readEither_31 (fun M_33 H locs hp_33 hw => ?_)
          obtain ⟨iM_33, q_34, q_35, q_36, q_37, p0r_32⟩ := hp_33
          obtain ⟨g_38, eg_38⟩ : ∃ z : Nat → Int, z = pp_bo B n (pp_pt B n 5) g_31 := ⟨_, rfl⟩
          rw [← eg_38] at p0r_32
          have lg_38_0 : g_38 0 = (tI M_33 2 4).toInt := p0r_32.2.1.1
          have lg_38_1 : g_38 1 = (tI M_33 2 6).toInt := p0r_32.2.1.2.1
          have lg_38_4 : g_38 4 = (tI M_33 1 4).toInt := p0r_32.2.2.1.1
          have lg_38_7 : g_38 7 = (tI M_33 t 4).toInt := p0r_32.2.2.2.1.1
          have lg_38_8 : g_38 8 = (tI M_33 t 5).toInt := p0r_32.2.2.2.1.2.1
          refine lv_aload_n hx hb dX4_readEither_34 rfl (lv_at hl 1 rfl) ?_
          refine ti_get (ci := 4) (k := 2) (N := 6) (T := TX4) (v := .ref (A lw 0)) C hw iw_4 rfl ob_1 (by decide) (by decide) fl_X4_154 rfl (ti_Tv ((tT_fr q_34).trans ((tT_fr q_27).trans f_17))) dX4_readEither_35 ?_
          refine lv_bipush (v := (-23)) hx hb dX4_readEither_38 (by decide) ?_
          refine ti_callVv (ci := 1) (av := [.int (-23)]) C hw (x_X1_add l D A cy hJ M_33 iM_33 lw hlw (-23) (by first | omega | exact Or.inl (by decide) | exact Or.inr (by decide)) t ht B n g_38 p0r_32) ⟨ml_X4_170, ym_X1_add, yv_X1_add, yi_X1_add, yc_X1_add⟩ yd_X1_add hlw (by decide) rfl rfl hl.1 (Nat.le_of_ble_eq_true rfl) ⟨by decide, by decide⟩ ⟨Nat.zero_le _, Nat.zero_le _⟩ dX4_readEither_40 (fun M_40 H locs hp_40 hw => ?_)
          obtain ⟨iM_40, q_41, q_42, p0r_39⟩ := hp_40
          have lM_40_0 : g_38 0 = (tI M_40 2 4).toInt := p0r_39.2.1.1
          have lM_40_1 : g_38 1 = (tI M_40 2 6).toInt := p0r_39.2.1.2.1
          have lM_40_4 : g_38 4 = (tI M_40 1 4).toInt := p0r_39.2.2.1.1
          have lM_40_7 : g_38 7 = (tI M_40 t 4).toInt := p0r_39.2.2.2.1.1
          have lM_40_8 : g_38 8 = (tI M_40 t 5).toInt := p0r_39.2.2.2.1.2.1
          obtain ⟨x_43, ex_43⟩ : ∃ z : Int32, z = x_8 + 1 := ⟨_, rfl⟩
          have tx_43 : x_43.toInt = x_8.toInt + 1 := i_add ex_43 rfl (by decide) (by omega) (by omega)
          refine lv_iinc (v := x_43) (lv' := [(2, .int x_43), (0, .ref (A 1 0)), (1, .int 3)]) hx hb dX4_readEither_43 hl (k := 0) rfl (by rw [ex_43]; rfl) (by decide) rfl (fun ls hl => ?_)
          refine lv_goto (tgt := 7) hx hb dX4_readEither_46 (by decide) ?_
          exact ih_21 x_43 M_40 g_38 _ _ _ (by omega) (by first | omega | decide) (by first | omega | decide) iM_40 ((q_41).trans ((q_34).trans ((q_27).trans f_12))) (f0.trans (f0_x q_42) (f0.trans q_35 (f0.trans q_28 f_13))) (((q_42 1).2.1).trans ((q_36).trans ((q_29).trans f_14))) (ot.trans (ot_fx ht q_42) (ot.trans q_37 (ot.trans q_30 f_15))) ((tT_fr q_41).trans ((tT_fr q_34).trans ((tT_fr q_27).trans f_16))) ((tT_fr q_41).trans ((tT_fr q_34).trans ((tT_fr q_27).trans f_17))) p0r_39 (j_20.trans (lp_step (decide_eq_true (by omega)) (by rw [eg_38, eg_31]) (by omega))) hw (lv_sub hl [0, 1, 2] rfl)
  exact hl_7_20 ((64 - 0 : Int).toNat + 1) 0 M_2 g_7 _ _ _ (Nat.lt_succ_self _) (by have lt0 : (0 : Int32).toInt = 0 := (by decide); first | omega | decide) (by have lt0 : (0 : Int32).toInt = 0 := (by decide); first | omega | decide) iM_2 (q_3) q_4 (q_5) q_6 ((tT_fr q_3).trans hT) ((tT_fr q_3).trans hL) p0r_1 rfl hw (lv_sub hl [0, 1, 2] rfl)
set_option maxHeartbeats 4000000 in
set_option maxRecDepth 100000 in
theorem x_X4_readPart_2 (l : Launch) (D : va_G) (A : Nat → Nat → Nat) (cy : Nat → ClassId) (hJ : ti_inj ti_LT A) (M : ti_M) (hI : cI Tc M) (t : Nat) (ht : t = 3 ∨ t = 4) (hT : tT M 1 1 = some t) (lw : Nat) (hlw : ti_ob ti_LT lw 1) (hL : tT M 1 2 = some lw) (B : Nat → Int) (n : Nat) (rg : Nat → Int) (hr : rC B n t rg M) : ti_KvE l yX4_readPart cX4_readPart 3 50 ti_LT D A cy M [.ref (A 1 0), .int 2] (fun M2 => cI Tc M2 ∧ M2.2.2.2 = M.2.2.2 ∧ f0 M2 M ∧ tI M2 2 1 = tI M 2 1 ∧ ot t M2 M ∧ rC B n t (pp_pt B n 6 rg) M2) := by
  refine ti_eVE yp_X4_readPart hJ ti_LT_nd (Nat.le_of_ble_eq_true rfl) ?_
  intro p e s m args below meth c Q H0 C hE hQ hw ls hl
  have hx := C.1
  have hb := C.2.1
  have hl : lv_has ls 3 [(0, .ref (A 1 0)), (1, .int 2)] := hl
  have l0 : rg 0 = (tI M 2 4).toInt := hr.2.1.1
  have l1 : rg 1 = (tI M 2 6).toInt := hr.2.1.2.1
  have l2 : rg 2 = (tI M 2 5).toInt := hr.2.1.2.2.1
  have l3 : rg 3 = (tI M 2 3).toInt := hr.2.1.2.2.2
  have l4 : rg 4 = (tI M 1 4).toInt := hr.2.2.1.1
  have l5 : rg 5 = (tI M 1 5).toInt := hr.2.2.1.2.1
  have l7 : rg 7 = (tI M t 4).toInt := hr.2.2.2.1.1
  have l8 : rg 8 = (tI M t 5).toInt := hr.2.2.2.1.2.1
  have l9 : rg 9 = (tI M t 3).toInt := hr.2.2.2.1.2.2
  refine lv_aload_n hx hb dX4_readPart_0 rfl (lv_at hl 0 rfl) ?_
  refine ti_get (ci := 4) (k := 0) (N := 6) (T := TX4) (v := .ref (A 2 0)) C hw iw_4 rfl ob_1 (by decide) (by decide) fl_X4_12 rfl rfl dX4_readPart_1 ?_
  refine ti_get (ci := 7) (k := 4) (N := 7) (T := TX7) C hw iw_7 rfl ob_2 (by decide) (by decide) fl_X4_41 rfl rfl dX4_readPart_4 ?_
  refine lv_topi (fun x_1 ex_1 => ?_)
  have bx_1 : 0 ≤ x_1.toInt ∧ x_1.toInt ≤ 41 := cI_rd hI ob_2.1 ex_1
  have ux_1 : (tI M 2 4).toInt = x_1.toInt := by rw [ex_1]
  refine lv_istore_n (lv' := [(2, .int x_1), (0, .ref (A 1 0)), (1, .int 2)]) hx hb dX4_readPart_7 rfl hl (by decide) rfl (fun ls hl => ?_)
  refine lv_iload_n hx hb dX4_readPart_8 rfl (lv_at hl 0 rfl) ?_
  refine lv_bipush (v := 30) hx hb dX4_readPart_9 (by decide) ?_
  refine sb_icmp_ne (tgt := 28) hx hb rfl (by decide : (30 : Int32).toInt = 30) dX4_readPart_11 (by decide) (fun c_11_1 => ?_) (fun c_11_1 => ?_)
  · refine lv_iload_n hx hb dX4_readPart_28 rfl (lv_at hl 0 rfl) ?_
    refine lv_bipush (v := 30) hx hb dX4_readPart_29 (by decide) ?_
    refine sb_icmp_ne (tgt := 57) hx hb rfl (by decide : (30 : Int32).toInt = 30) dX4_readPart_31 (by decide) (fun c_31_3 => ?_) (fun h => by omega)
    refine lv_iload_n hx hb dX4_readPart_57 rfl (lv_at hl 0 rfl) ?_
    refine lv_bipush (v := 26) hx hb dX4_readPart_58 (by decide) ?_
    refine sb_icmp_ne (tgt := 84) hx hb rfl (by decide : (26 : Int32).toInt = 26) dX4_readPart_60 (by decide) (fun c_60_26 => ?_) (fun c_60_26 => ?_)
    · refine lv_iload_n hx hb dX4_readPart_84 rfl (lv_at hl 0 rfl) ?_
      refine lv_bipush (v := 26) hx hb dX4_readPart_85 (by decide) ?_
      refine sb_icmp_ne (tgt := 111) hx hb rfl (by decide : (26 : Int32).toInt = 26) dX4_readPart_87 (by decide) (fun c_87_35 => ?_) (fun h => by omega)
      refine lv_iload_n hx hb dX4_readPart_111 rfl (lv_at hl 0 rfl) ?_
      refine lv_bipush (v := 16) hx hb dX4_readPart_112 (by decide) ?_
      refine sb_icmp_lt (tgt := 139) hx hb rfl (by decide : (16 : Int32).toInt = 16) dX4_readPart_114 (by decide) (fun c_114_49 => ?_) (fun c_114_49 => ?_)
      · refine lv_aload_n hx hb dX4_readPart_139 rfl (lv_at hl 1 rfl) ?_
        refine lv_iconst (v := 1) hx hb dX4_readPart_140 (by decide) ?_
        refine ti_callVv (ci := 4) (av := [.int 1]) C hw (x_X4_refuse l D A cy hJ M hI t ht 1 B n rg hr) ⟨ml_X4_82, ym_X4_refuse, yv_X4_refuse, yi_X4_refuse, yc_X4_refuse⟩ yd_X4_refuse ob_1 (by decide) rfl rfl hl.1 (Nat.le_of_ble_eq_true rfl) ⟨by decide, by decide⟩ ⟨Nat.zero_le _, Nat.zero_le _⟩ dX4_readPart_141 (fun M_65 H locs hp_65 hw => ?_)
        obtain ⟨iM_65, q_66, q_67, q_68, p0r_64⟩ := hp_65
        have hlr_64_1 : (1 : Int32).toInt = 1 := by decide
        simp only [hlr_64_1] at p0r_64
        obtain ⟨g_69, eg_69⟩ : ∃ z : Nat → Int, z = pp_rf 1 rg := ⟨_, rfl⟩
        rw [← eg_69] at p0r_64
        have lg_69_0 : g_69 0 = (tI M_65 2 4).toInt := p0r_64.2.1.1
        have lg_69_1 : g_69 1 = (tI M_65 2 6).toInt := p0r_64.2.1.2.1
        have lg_69_4 : g_69 4 = (tI M_65 1 4).toInt := p0r_64.2.2.1.1
        have lg_69_7 : g_69 7 = (tI M_65 t 4).toInt := p0r_64.2.2.2.1.1
        have lg_69_8 : g_69 8 = (tI M_65 t 5).toInt := p0r_64.2.2.2.1.2.1
        exact hQ _ _ _ _ _ hw (⟨iM_65, (q_66), (f0_12 q_67), (q_68), (ot_12 ht q_67), (by rw [pe_6, if_neg (by omega)]; unfold pp_p0; rw [if_neg (by omega), if_neg (fun q => by omega), ← eg_69]; exact p0r_64)⟩) dX4_readPart_144
      · refine lv_iload_n hx hb dX4_readPart_117 rfl (lv_at hl 0 rfl) ?_
        refine lv_bipush (v := 21) hx hb dX4_readPart_118 (by decide) ?_
        refine sb_icmp_gt (tgt := 139) hx hb rfl (by decide : (21 : Int32).toInt = 21) dX4_readPart_120 (by decide) (fun c_120_50 => ?_) (fun c_120_50 => ?_)
        · refine lv_aload_n hx hb dX4_readPart_139 rfl (lv_at hl 1 rfl) ?_
          refine lv_iconst (v := 1) hx hb dX4_readPart_140 (by decide) ?_
          refine ti_callVv (ci := 4) (av := [.int 1]) C hw (x_X4_refuse l D A cy hJ M hI t ht 1 B n rg hr) ⟨ml_X4_82, ym_X4_refuse, yv_X4_refuse, yi_X4_refuse, yc_X4_refuse⟩ yd_X4_refuse ob_1 (by decide) rfl rfl hl.1 (Nat.le_of_ble_eq_true rfl) ⟨by decide, by decide⟩ ⟨Nat.zero_le _, Nat.zero_le _⟩ dX4_readPart_141 (fun M_71 H locs hp_71 hw => ?_)
          obtain ⟨iM_71, q_72, q_73, q_74, p0r_70⟩ := hp_71
          have hlr_70_1 : (1 : Int32).toInt = 1 := by decide
          simp only [hlr_70_1] at p0r_70
          obtain ⟨g_75, eg_75⟩ : ∃ z : Nat → Int, z = pp_rf 1 rg := ⟨_, rfl⟩
          rw [← eg_75] at p0r_70
          have lg_75_0 : g_75 0 = (tI M_71 2 4).toInt := p0r_70.2.1.1
          have lg_75_1 : g_75 1 = (tI M_71 2 6).toInt := p0r_70.2.1.2.1
          have lg_75_4 : g_75 4 = (tI M_71 1 4).toInt := p0r_70.2.2.1.1
          have lg_75_7 : g_75 7 = (tI M_71 t 4).toInt := p0r_70.2.2.2.1.1
          have lg_75_8 : g_75 8 = (tI M_71 t 5).toInt := p0r_70.2.2.2.1.2.1
          exact hQ _ _ _ _ _ hw (⟨iM_71, (q_72), (f0_12 q_73), (q_74), (ot_12 ht q_73), (by rw [pe_6, if_neg (by omega)]; unfold pp_p0; rw [if_neg (by omega), if_neg (fun q => by omega), ← eg_75]; exact p0r_70)⟩) dX4_readPart_144
        · refine lv_aload_n hx hb dX4_readPart_123 rfl (lv_at hl 1 rfl) ?_
          refine ti_get (ci := 4) (k := 2) (N := 6) (T := TX4) (v := .ref (A lw 0)) C hw iw_4 rfl ob_1 (by decide) (by decide) fl_X4_154 rfl (ti_Tv (hL)) dX4_readPart_124 ?_
          refine lv_iload_n hx hb dX4_readPart_127 rfl (lv_at hl 0 rfl) ?_
          refine lv_ineg hx hb dX4_readPart_128 ?_
          refine lv_topi (fun x_52 ex_52 => ?_)
          have tx_52 : x_52.toInt = -x_1.toInt := i_neg ex_52 rfl (by omega)
          refine ti_callVv (ci := 1) (av := [.int x_52]) C hw (x_X1_add l D A cy hJ M hI lw hlw x_52 (by first | omega | exact Or.inl (by decide) | exact Or.inr (by decide)) t ht B n rg hr) ⟨ml_X4_170, ym_X1_add, yv_X1_add, yi_X1_add, yc_X1_add⟩ yd_X1_add hlw (by decide) rfl rfl hl.1 (Nat.le_of_ble_eq_true rfl) ⟨by decide, by decide⟩ ⟨Nat.zero_le _, Nat.zero_le _⟩ dX4_readPart_129 (fun M_54 H locs hp_54 hw => ?_)
          obtain ⟨iM_54, q_55, q_56, p0r_53⟩ := hp_54
          have lM_54_0 : rg 0 = (tI M_54 2 4).toInt := p0r_53.2.1.1
          have lM_54_1 : rg 1 = (tI M_54 2 6).toInt := p0r_53.2.1.2.1
          have lM_54_4 : rg 4 = (tI M_54 1 4).toInt := p0r_53.2.2.1.1
          have lM_54_7 : rg 7 = (tI M_54 t 4).toInt := p0r_53.2.2.2.1.1
          have lM_54_8 : rg 8 = (tI M_54 t 5).toInt := p0r_53.2.2.2.1.2.1
          refine lv_aload_n hx hb dX4_readPart_132 rfl (lv_at hl 1 rfl) ?_
          refine ti_callVvE (ci := 4) (av := []) C hE hw (x_X4_knot l D A cy hJ M_54 iM_54 t ht ((tT_fr q_55).trans hT) B n rg p0r_53) ⟨ml_X4_167, ym_X4_knot, yv_X4_knot, yi_X4_knot, yc_X4_knot⟩ yd_X4_knot ob_1 (by decide) rfl rfl hl.1 (Nat.le_of_ble_eq_true rfl) ⟨by decide, by decide⟩ ⟨Nat.zero_le _, Nat.zero_le _⟩ dX4_readPart_133 (fun M_58 H locs hp_58 hw => ?_)
          obtain ⟨iM_58, q_59, q_60, q_61, q_62, p0r_57⟩ := hp_58
          obtain ⟨g_63, eg_63⟩ : ∃ z : Nat → Int, z = pp_kn B n rg := ⟨_, rfl⟩
          rw [← eg_63] at p0r_57
          have lg_63_0 : g_63 0 = (tI M_58 2 4).toInt := p0r_57.2.1.1
          have lg_63_1 : g_63 1 = (tI M_58 2 6).toInt := p0r_57.2.1.2.1
          have lg_63_4 : g_63 4 = (tI M_58 1 4).toInt := p0r_57.2.2.1.1
          have lg_63_7 : g_63 7 = (tI M_58 t 4).toInt := p0r_57.2.2.2.1.1
          have lg_63_8 : g_63 8 = (tI M_58 t 5).toInt := p0r_57.2.2.2.1.2.1
          refine lv_goto (tgt := 144) hx hb dX4_readPart_136 (by decide) ?_
          exact hQ _ _ _ _ _ hw (⟨iM_58, ((q_59).trans q_55), (f0.trans q_60 (f0_x q_56)), ((q_61).trans ((q_56 1).2.1)), (ot.trans q_62 (ot_fx ht q_56)), (by rw [pe_6, if_neg (by omega)]; unfold pp_p0; rw [if_neg (by omega), if_pos ⟨by omega, by omega⟩, ← eg_63]; exact p0r_57)⟩) dX4_readPart_144
    · refine lv_aload_n hx hb dX4_readPart_63 rfl (lv_at hl 1 rfl) ?_
      refine ti_get (ci := 4) (k := 0) (N := 6) (T := TX4) (v := .ref (A 2 0)) C hw iw_4 rfl ob_1 (by decide) (by decide) fl_X4_12 rfl rfl dX4_readPart_64 ?_
      refine ti_get (ci := 7) (k := 6) (N := 7) (T := TX7) C hw iw_7 rfl ob_2 (by decide) (by decide) fl_X4_95 rfl rfl dX4_readPart_67 ?_
      refine lv_topi (fun x_28 ex_28 => ?_)
      have bx_28 : 0 ≤ x_28.toInt ∧ x_28.toInt ≤ 2147483647 := cI_rd hI ob_2.1 ex_28
      have ux_28 : (tI M 2 6).toInt = x_28.toInt := by rw [ex_28]
      refine lv_sipush (v := 9999) hx hb dX4_readPart_70 (by decide) ?_
      refine sb_icmp_le (tgt := 84) hx hb rfl (by decide : (9999 : Int32).toInt = 9999) dX4_readPart_73 (by decide) (fun c_73_28 => ?_) (fun c_73_28 => ?_)
      · refine lv_iload_n hx hb dX4_readPart_84 rfl (lv_at hl 0 rfl) ?_
        refine lv_bipush (v := 26) hx hb dX4_readPart_85 (by decide) ?_
        refine sb_icmp_ne (tgt := 111) hx hb rfl (by decide : (26 : Int32).toInt = 26) dX4_readPart_87 (by decide) (fun h => by omega) (fun c_87_36 => ?_)
        refine lv_aload_n hx hb dX4_readPart_90 rfl (lv_at hl 1 rfl) ?_
        refine ti_get (ci := 4) (k := 2) (N := 6) (T := TX4) (v := .ref (A lw 0)) C hw iw_4 rfl ob_1 (by decide) (by decide) fl_X4_154 rfl (ti_Tv (hL)) dX4_readPart_91 ?_
        refine lv_aload_n hx hb dX4_readPart_94 rfl (lv_at hl 1 rfl) ?_
        refine ti_get (ci := 4) (k := 0) (N := 6) (T := TX4) (v := .ref (A 2 0)) C hw iw_4 rfl ob_1 (by decide) (by decide) fl_X4_12 rfl rfl dX4_readPart_95 ?_
        refine ti_get (ci := 7) (k := 6) (N := 7) (T := TX7) C hw iw_7 rfl ob_2 (by decide) (by decide) fl_X4_95 rfl rfl dX4_readPart_98 ?_
        refine ti_top (y := x_28) (ex_28.symm) ?_
        have u_38 : (tI M 2 6).toInt = (x_28 : Int32).toInt := by rw [(ex_28.symm)]
        refine ti_callVv (ci := 1) (av := [.int x_28]) C hw (x_X1_add l D A cy hJ M hI lw hlw x_28 (by first | omega | exact Or.inl (by decide) | exact Or.inr (by decide)) t ht B n rg hr) ⟨ml_X4_170, ym_X1_add, yv_X1_add, yi_X1_add, yc_X1_add⟩ yd_X1_add hlw (by decide) rfl rfl hl.1 (Nat.le_of_ble_eq_true rfl) ⟨by decide, by decide⟩ ⟨Nat.zero_le _, Nat.zero_le _⟩ dX4_readPart_101 (fun M_40 H locs hp_40 hw => ?_)
        obtain ⟨iM_40, q_41, q_42, p0r_39⟩ := hp_40
        have lM_40_0 : rg 0 = (tI M_40 2 4).toInt := p0r_39.2.1.1
        have lM_40_1 : rg 1 = (tI M_40 2 6).toInt := p0r_39.2.1.2.1
        have lM_40_4 : rg 4 = (tI M_40 1 4).toInt := p0r_39.2.2.1.1
        have lM_40_7 : rg 7 = (tI M_40 t 4).toInt := p0r_39.2.2.2.1.1
        have lM_40_8 : rg 8 = (tI M_40 t 5).toInt := p0r_39.2.2.2.1.2.1
        refine lv_aload_n hx hb dX4_readPart_104 rfl (lv_at hl 1 rfl) ?_
        refine ti_callVvE (ci := 4) (av := []) C hE hw (x_X4_knot l D A cy hJ M_40 iM_40 t ht ((tT_fr q_41).trans hT) B n rg p0r_39) ⟨ml_X4_167, ym_X4_knot, yv_X4_knot, yi_X4_knot, yc_X4_knot⟩ yd_X4_knot ob_1 (by decide) rfl rfl hl.1 (Nat.le_of_ble_eq_true rfl) ⟨by decide, by decide⟩ ⟨Nat.zero_le _, Nat.zero_le _⟩ dX4_readPart_105 (fun M_44 H locs hp_44 hw => ?_)
        obtain ⟨iM_44, q_45, q_46, q_47, q_48, p0r_43⟩ := hp_44
        obtain ⟨g_49, eg_49⟩ : ∃ z : Nat → Int, z = pp_kn B n rg := ⟨_, rfl⟩
        rw [← eg_49] at p0r_43
        have lg_49_0 : g_49 0 = (tI M_44 2 4).toInt := p0r_43.2.1.1
        have lg_49_1 : g_49 1 = (tI M_44 2 6).toInt := p0r_43.2.1.2.1
        have lg_49_4 : g_49 4 = (tI M_44 1 4).toInt := p0r_43.2.2.1.1
        have lg_49_7 : g_49 7 = (tI M_44 t 4).toInt := p0r_43.2.2.2.1.1
        have lg_49_8 : g_49 8 = (tI M_44 t 5).toInt := p0r_43.2.2.2.1.2.1
        refine lv_goto (tgt := 144) hx hb dX4_readPart_108 (by decide) ?_
        exact hQ _ _ _ _ _ hw (⟨iM_44, ((q_45).trans q_41), (f0.trans q_46 (f0_x q_42)), ((q_47).trans ((q_42 1).2.1)), (ot.trans q_48 (ot_fx ht q_42)), (by rw [pe_6, if_neg (by omega)]; unfold pp_p0; rw [if_pos (by omega), if_neg (by omega), ← eg_49]; exact p0r_43)⟩) dX4_readPart_144
      · refine lv_aload_n hx hb dX4_readPart_76 rfl (lv_at hl 1 rfl) ?_
        refine lv_iconst (v := 2) hx hb dX4_readPart_77 (by decide) ?_
        refine ti_callVv (ci := 4) (av := [.int 2]) C hw (x_X4_refuse l D A cy hJ M hI t ht 2 B n rg hr) ⟨ml_X4_82, ym_X4_refuse, yv_X4_refuse, yi_X4_refuse, yc_X4_refuse⟩ yd_X4_refuse ob_1 (by decide) rfl rfl hl.1 (Nat.le_of_ble_eq_true rfl) ⟨by decide, by decide⟩ ⟨Nat.zero_le _, Nat.zero_le _⟩ dX4_readPart_78 (fun M_31 H locs hp_31 hw => ?_)
        obtain ⟨iM_31, q_32, q_33, q_34, p0r_30⟩ := hp_31
        have hlr_30_2 : (2 : Int32).toInt = 2 := by decide
        simp only [hlr_30_2] at p0r_30
        obtain ⟨g_35, eg_35⟩ : ∃ z : Nat → Int, z = pp_rf 2 rg := ⟨_, rfl⟩
        rw [← eg_35] at p0r_30
        have lg_35_0 : g_35 0 = (tI M_31 2 4).toInt := p0r_30.2.1.1
        have lg_35_1 : g_35 1 = (tI M_31 2 6).toInt := p0r_30.2.1.2.1
        have lg_35_4 : g_35 4 = (tI M_31 1 4).toInt := p0r_30.2.2.1.1
        have lg_35_7 : g_35 7 = (tI M_31 t 4).toInt := p0r_30.2.2.2.1.1
        have lg_35_8 : g_35 8 = (tI M_31 t 5).toInt := p0r_30.2.2.2.1.2.1
        refine lv_goto (tgt := 144) hx hb dX4_readPart_81 (by decide) ?_
        exact hQ _ _ _ _ _ hw (⟨iM_31, (q_32), (f0_12 q_33), (q_34), (ot_12 ht q_33), (by rw [pe_6, if_neg (by omega)]; unfold pp_p0; rw [if_pos (by omega), if_pos (by omega), ← eg_35]; exact p0r_30)⟩) dX4_readPart_144
  · refine lv_iload_n hx hb dX4_readPart_14 rfl (lv_at hl 2 rfl) ?_
    refine lv_bipush (v := 8) hx hb dX4_readPart_15 (by decide) ?_
    refine sb_icmp_lt (tgt := 28) hx hb (by decide : (2 : Int32).toInt = 2) (by decide : (8 : Int32).toInt = 8) dX4_readPart_17 (by decide) (fun c_17_2 => ?_) (fun h => absurd h (by decide))
    refine lv_iload_n hx hb dX4_readPart_28 rfl (lv_at hl 0 rfl) ?_
    refine lv_bipush (v := 30) hx hb dX4_readPart_29 (by decide) ?_
    refine sb_icmp_ne (tgt := 57) hx hb rfl (by decide : (30 : Int32).toInt = 30) dX4_readPart_31 (by decide) (fun h => by omega) (fun c_31_4 => ?_)
    refine lv_aload_n hx hb dX4_readPart_34 rfl (lv_at hl 1 rfl) ?_
    refine ti_get (ci := 4) (k := 0) (N := 6) (T := TX4) (v := .ref (A 2 0)) C hw iw_4 rfl ob_1 (by decide) (by decide) fl_X4_12 rfl rfl dX4_readPart_35 ?_
    refine ti_callVvE (ci := 7) (av := []) C hE hw (x_X7_advance l D A cy hJ M hI ) ⟨ml_X4_92, ym_X7_advance, yv_X7_advance, yi_X7_advance, yc_X7_advance⟩ yd_X7_advance ob_2 (by decide) rfl rfl hl.1 (Nat.le_of_ble_eq_true rfl) ⟨by decide, by decide⟩ ⟨Nat.zero_le _, Nat.zero_le _⟩ dX4_readPart_38 (fun M_7 H locs hp_7 hw => ?_)
    obtain ⟨iM_7, q_8, q_9, q_10, q_11, p0r_6, p1r_6, p2r_6, p3r_6⟩ := hp_7
    have hs_12 := rC_av ht hr q_11 q_9 p0r_6 p1r_6 p2r_6 p3r_6
    obtain ⟨g_13, eg_13⟩ : ∃ z : Nat → Int, z = pp_av B n rg := ⟨_, rfl⟩
    rw [← eg_13] at hs_12
    have lg_13_0 : g_13 0 = (tI M_7 2 4).toInt := hs_12.2.1.1
    have lg_13_1 : g_13 1 = (tI M_7 2 6).toInt := hs_12.2.1.2.1
    have lg_13_4 : g_13 4 = (tI M_7 1 4).toInt := hs_12.2.2.1.1
    have lg_13_7 : g_13 7 = (tI M_7 t 4).toInt := hs_12.2.2.2.1.1
    have lg_13_8 : g_13 8 = (tI M_7 t 5).toInt := hs_12.2.2.2.1.2.1
    refine lv_aload_n hx hb dX4_readPart_41 rfl (lv_at hl 1 rfl) ?_
    refine lv_iload_n hx hb dX4_readPart_42 rfl (lv_at hl 2 rfl) ?_
    refine lv_iconst (v := 1) hx hb dX4_readPart_43 (by decide) ?_
    refine lv_iadd hx hb dX4_readPart_44 ?_
    refine ti_top (y := 3) (by decide) ?_
    refine ti_callVvE (ci := 4) (av := [.int 3]) C hE hw (x_X4_readEither_3 l D A cy hJ M_7 iM_7 t ht ((tT_fr q_8).trans hT) lw hlw ((tT_fr q_8).trans hL) B n g_13 hs_12) ⟨ml_X4_158, ym_X4_readEither, yv_X4_readEither, yi_X4_readEither, yc_X4_readEither⟩ yd_X4_readEither ob_1 (by decide) rfl rfl hl.1 (Nat.le_of_ble_eq_true rfl) ⟨by decide, by decide⟩ ⟨Nat.zero_le _, Nat.zero_le _⟩ dX4_readPart_45 (fun M_15 H locs hp_15 hw => ?_)
    obtain ⟨iM_15, q_16, q_17, q_18, q_19, p0r_14⟩ := hp_15
    obtain ⟨g_20, eg_20⟩ : ∃ z : Nat → Int, z = pp_ei B n (pp_pt B n 5) g_13 := ⟨_, rfl⟩
    rw [← eg_20] at p0r_14
    have lg_20_0 : g_20 0 = (tI M_15 2 4).toInt := p0r_14.2.1.1
    have lg_20_1 : g_20 1 = (tI M_15 2 6).toInt := p0r_14.2.1.2.1
    have lg_20_4 : g_20 4 = (tI M_15 1 4).toInt := p0r_14.2.2.1.1
    have lg_20_7 : g_20 7 = (tI M_15 t 4).toInt := p0r_14.2.2.2.1.1
    have lg_20_8 : g_20 8 = (tI M_15 t 5).toInt := p0r_14.2.2.2.1.2.1
    refine lv_aload_n hx hb dX4_readPart_48 rfl (lv_at hl 1 rfl) ?_
    refine lv_bipush (v := 31) hx hb dX4_readPart_49 (by decide) ?_
    refine ti_callVvE (ci := 4) (av := [.int 31]) C hE hw (x_X4_take l D A cy hJ M_15 iM_15 t ht 31 B n g_20 p0r_14) ⟨ml_X4_85, ym_X4_take, yv_X4_take, yi_X4_take, yc_X4_take⟩ yd_X4_take ob_1 (by decide) rfl rfl hl.1 (Nat.le_of_ble_eq_true rfl) ⟨by decide, by decide⟩ ⟨Nat.zero_le _, Nat.zero_le _⟩ dX4_readPart_51 (fun M_22 H locs hp_22 hw => ?_)
    obtain ⟨iM_22, q_23, q_24, q_25, p0r_21⟩ := hp_22
    have hlr_21_31 : (31 : Int32).toInt = 31 := by decide
    simp only [hlr_21_31] at p0r_21
    obtain ⟨g_26, eg_26⟩ : ∃ z : Nat → Int, z = pp_tk B n 31 g_20 := ⟨_, rfl⟩
    rw [← eg_26] at p0r_21
    have lg_26_0 : g_26 0 = (tI M_22 2 4).toInt := p0r_21.2.1.1
    have lg_26_1 : g_26 1 = (tI M_22 2 6).toInt := p0r_21.2.1.2.1
    have lg_26_4 : g_26 4 = (tI M_22 1 4).toInt := p0r_21.2.2.1.1
    have lg_26_7 : g_26 7 = (tI M_22 t 4).toInt := p0r_21.2.2.2.1.1
    have lg_26_8 : g_26 8 = (tI M_22 t 5).toInt := p0r_21.2.2.2.1.2.1
    refine lv_goto (tgt := 144) hx hb dX4_readPart_54 (by decide) ?_
    exact hQ _ _ _ _ _ hw (⟨iM_22, ((q_23).trans ((q_16).trans q_8)), (f0.trans (f0_12 q_24) (f0.trans q_17 (f0_12 (o2_12 q_9)))), ((q_25).trans ((q_18).trans q_10)), (ot.trans (ot_12 ht q_24) (ot.trans q_19 (ot_12 ht (o2_12 q_9)))), (by rw [pe_6, if_pos (by omega), ← eg_13, ← eg_20, ← eg_26]; exact p0r_21)⟩) dX4_readPart_144
set_option maxHeartbeats 4000000 in
set_option maxRecDepth 100000 in
theorem x_X4_readProduct_2 (l : Launch) (D : va_G) (A : Nat → Nat → Nat) (cy : Nat → ClassId) (hJ : ti_inj ti_LT A) (M : ti_M) (hI : cI Tc M) (t : Nat) (ht : t = 3 ∨ t = 4) (hT : tT M 1 1 = some t) (lw : Nat) (hlw : ti_ob ti_LT lw 1) (hL : tT M 1 2 = some lw) (B : Nat → Int) (n : Nat) (rg : Nat → Int) (hr : rC B n t rg M) : ti_KvE l yX4_readProduct cX4_readProduct 4 51 ti_LT D A cy M [.ref (A 1 0), .int 2] (fun M2 => cI Tc M2 ∧ M2.2.2.2 = M.2.2.2 ∧ f0 M2 M ∧ tI M2 2 1 = tI M 2 1 ∧ ot t M2 M ∧ rC B n t (pp_pd B n (pp_pt B n 6) rg) M2) := by
  refine ti_eVE yp_X4_readProduct hJ ti_LT_nd (Nat.le_of_ble_eq_true rfl) ?_
  intro p e s m args below meth c Q H0 C hE hQ hw ls hl
  have hx := C.1
  have hb := C.2.1
  have hl : lv_has ls 4 [(0, .ref (A 1 0)), (1, .int 2)] := hl
  have l0 : rg 0 = (tI M 2 4).toInt := hr.2.1.1
  have l1 : rg 1 = (tI M 2 6).toInt := hr.2.1.2.1
  have l2 : rg 2 = (tI M 2 5).toInt := hr.2.1.2.2.1
  have l3 : rg 3 = (tI M 2 3).toInt := hr.2.1.2.2.2
  have l4 : rg 4 = (tI M 1 4).toInt := hr.2.2.1.1
  have l5 : rg 5 = (tI M 1 5).toInt := hr.2.2.1.2.1
  have l7 : rg 7 = (tI M t 4).toInt := hr.2.2.2.1.1
  have l8 : rg 8 = (tI M t 5).toInt := hr.2.2.2.1.2.1
  have l9 : rg 9 = (tI M t 3).toInt := hr.2.2.2.1.2.2
  refine lv_aload_n hx hb dX4_readProduct_0 rfl (lv_at hl 0 rfl) ?_
  refine lv_iload_n hx hb dX4_readProduct_1 rfl (lv_at hl 1 rfl) ?_
  refine ti_callVvE (ci := 4) (av := [.int 2]) C hE hw (x_X4_readPart_2 l D A cy hJ M hI t ht (hT) lw hlw (hL) B n rg hr) ⟨ml_X4_187, ym_X4_readPart, yv_X4_readPart, yi_X4_readPart, yc_X4_readPart⟩ yd_X4_readPart ob_1 (by decide) rfl rfl hl.1 (Nat.le_of_ble_eq_true rfl) ⟨by decide, by decide⟩ ⟨Nat.zero_le _, Nat.zero_le _⟩ dX4_readProduct_2 (fun M_2 H locs hp_2 hw => ?_)
  obtain ⟨iM_2, q_3, q_4, q_5, q_6, p0r_1⟩ := hp_2
  obtain ⟨g_7, eg_7⟩ : ∃ z : Nat → Int, z = pp_pt B n 6 rg := ⟨_, rfl⟩
  rw [← eg_7] at p0r_1
  have lg_7_0 : g_7 0 = (tI M_2 2 4).toInt := p0r_1.2.1.1
  have lg_7_1 : g_7 1 = (tI M_2 2 6).toInt := p0r_1.2.1.2.1
  have lg_7_4 : g_7 4 = (tI M_2 1 4).toInt := p0r_1.2.2.1.1
  have lg_7_7 : g_7 7 = (tI M_2 t 4).toInt := p0r_1.2.2.2.1.1
  have lg_7_8 : g_7 8 = (tI M_2 t 5).toInt := p0r_1.2.2.2.1.2.1
  refine lv_iconst (v := 0) hx hb dX4_readProduct_5 (by decide) ?_
  refine lv_istore_n (lv' := [(2, .int 0), (0, .ref (A 1 0)), (1, .int 2)]) hx hb dX4_readProduct_6 rfl hl (by decide) rfl (fun ls hl => ?_)
  have hl_7_20 : ∀ (n_21 : Nat) (x_8 : Int32) (M_11 : ti_M) (g_18 : Nat → Int) (H : Heap) (locs : List Loc) (ls : Array Slot), (64 - x_8.toInt : Int).toNat < n_21 → (0 ≤ x_8.toInt) → (x_8.toInt ≤ 64) → (cI Tc M_11) → (M_11.2.2.2 = M.2.2.2) → (f0 M_11 M) → (tI M_11 2 1 = tI M 2 1) → (ot t M_11 M) → (tT M_11 1 1 = (some t)) → (tT M_11 1 2 = (some lw)) → (rC B n t g_18 M_11) → (pp_lp pp_qT (fun s => (pp_pt B n 6) (pp_kn B n s)) 64 g_7 = pp_lp pp_qT (fun s => (pp_pt B n 6) (pp_kn B n s)) (64 - (x_8.toInt).toNat) g_18) → ti_H ti_LT D A cy H0 M_11 H locs → lv_has ls 4 [(2, .int x_8), (0, .ref (A 1 0)), (1, .int 2)] → W p l e (ti_rm 51) s m args below meth c H locs 0 0 Q (F0 m 7 ls []) := by
    intro n_21
    induction n_21 with
    | zero => intro x_8 M_11 g_18 H locs ls hf_21; exact absurd hf_21 (Nat.not_lt_zero _)
    | succ n_21 ih_21 =>
      intro x_8 M_11 g_18 H locs ls hf_21 b_9 b_10 iM_11 f_12 f_13 f_14 f_15 f_16 f_17 hs_19 j_20 hw hl
      have lg_18_0 : g_18 0 = (tI M_11 2 4).toInt := hs_19.2.1.1
      have lg_18_1 : g_18 1 = (tI M_11 2 6).toInt := hs_19.2.1.2.1
      have lg_18_4 : g_18 4 = (tI M_11 1 4).toInt := hs_19.2.2.1.1
      have lg_18_7 : g_18 7 = (tI M_11 t 4).toInt := hs_19.2.2.2.1.1
      have lg_18_8 : g_18 8 = (tI M_11 t 5).toInt := hs_19.2.2.2.1.2.1
      refine lv_iload_n hx hb dX4_readProduct_7 rfl (lv_at hl 0 rfl) ?_
      refine lv_bipush (v := 64) hx hb dX4_readProduct_8 (by decide) ?_
      refine sb_icmp_ge (tgt := 69) hx hb rfl (by decide : (64 : Int32).toInt = 64) dX4_readProduct_10 (by decide) (fun c_10_21 => ?_) (fun c_10_21 => ?_)
      · exact hQ _ _ _ _ _ hw (⟨iM_11, (f_12), f_13, (f_14), f_15, (by unfold pp_pd; rw [← eg_7, j_20, lp_end (P := pp_qT) (f := 64 - x_8.toInt.toNat) (s := g_18) (Or.inl (by omega))]; exact hs_19)⟩) dX4_readProduct_69
      · refine lv_aload_n hx hb dX4_readProduct_13 rfl (lv_at hl 1 rfl) ?_
        refine ti_get (ci := 4) (k := 0) (N := 6) (T := TX4) (v := .ref (A 2 0)) C hw iw_4 rfl ob_1 (by decide) (by decide) fl_X4_12 rfl rfl dX4_readProduct_14 ?_
        refine ti_get (ci := 7) (k := 4) (N := 7) (T := TX7) C hw iw_7 rfl ob_2 (by decide) (by decide) fl_X4_41 rfl rfl dX4_readProduct_17 ?_
        refine lv_topi (fun x_23 ex_23 => ?_)
        have bx_23 : 0 ≤ x_23.toInt ∧ x_23.toInt ≤ 41 := cI_rd iM_11 ob_2.1 ex_23
        have ux_23 : (tI M_11 2 4).toInt = x_23.toInt := by rw [ex_23]
        refine lv_bipush (v := 40) hx hb dX4_readProduct_20 (by decide) ?_
        refine sb_icmp_eq (tgt := 37) hx hb rfl (by decide : (40 : Int32).toInt = 40) dX4_readProduct_22 (by decide) (fun c_22_23 => ?_) (fun c_22_23 => ?_)
        · refine lv_aload_n hx hb dX4_readProduct_37 rfl (lv_at hl 1 rfl) ?_
          refine ti_get (ci := 4) (k := 0) (N := 6) (T := TX4) (v := .ref (A 2 0)) C hw iw_4 rfl ob_1 (by decide) (by decide) fl_X4_12 rfl rfl dX4_readProduct_38 ?_
          refine ti_get (ci := 7) (k := 4) (N := 7) (T := TX7) C hw iw_7 rfl ob_2 (by decide) (by decide) fl_X4_41 rfl rfl dX4_readProduct_41 ?_
          refine ti_top (y := x_23) (ex_23.symm) ?_
          have u_27 : (tI M_11 2 4).toInt = (x_23 : Int32).toInt := by rw [(ex_23.symm)]
          refine lv_istore_n (lv' := [(3, .int x_23), (2, .int x_8), (0, .ref (A 1 0)), (1, .int 2)]) hx hb dX4_readProduct_44 rfl hl (by decide) rfl (fun ls hl => ?_)
          refine lv_aload_n hx hb dX4_readProduct_45 rfl (lv_at hl 2 rfl) ?_
          refine ti_callVvE (ci := 4) (av := []) C hE hw (x_X4_knot l D A cy hJ M_11 iM_11 t ht (f_16) B n g_18 hs_19) ⟨ml_X4_167, ym_X4_knot, yv_X4_knot, yi_X4_knot, yc_X4_knot⟩ yd_X4_knot ob_1 (by decide) rfl rfl hl.1 (Nat.le_of_ble_eq_true rfl) ⟨by decide, by decide⟩ ⟨Nat.zero_le _, Nat.zero_le _⟩ dX4_readProduct_46 (fun M_29 H locs hp_29 hw => ?_)
          obtain ⟨iM_29, q_30, q_31, q_32, q_33, p0r_28⟩ := hp_29
          obtain ⟨g_34, eg_34⟩ : ∃ z : Nat → Int, z = pp_kn B n g_18 := ⟨_, rfl⟩
          rw [← eg_34] at p0r_28
          have lg_34_0 : g_34 0 = (tI M_29 2 4).toInt := p0r_28.2.1.1
          have lg_34_1 : g_34 1 = (tI M_29 2 6).toInt := p0r_28.2.1.2.1
          have lg_34_4 : g_34 4 = (tI M_29 1 4).toInt := p0r_28.2.2.1.1
          have lg_34_7 : g_34 7 = (tI M_29 t 4).toInt := p0r_28.2.2.2.1.1
          have lg_34_8 : g_34 8 = (tI M_29 t 5).toInt := p0r_28.2.2.2.1.2.1
          refine lv_aload_n hx hb dX4_readProduct_49 rfl (lv_at hl 2 rfl) ?_
          refine lv_iload_n hx hb dX4_readProduct_50 rfl (lv_at hl 3 rfl) ?_
          refine ti_callVvE (ci := 4) (av := [.int 2]) C hE hw (x_X4_readPart_2 l D A cy hJ M_29 iM_29 t ht ((tT_fr q_30).trans f_16) lw hlw ((tT_fr q_30).trans f_17) B n g_34 p0r_28) ⟨ml_X4_187, ym_X4_readPart, yv_X4_readPart, yi_X4_readPart, yc_X4_readPart⟩ yd_X4_readPart ob_1 (by decide) rfl rfl hl.1 (Nat.le_of_ble_eq_true rfl) ⟨by decide, by decide⟩ ⟨Nat.zero_le _, Nat.zero_le _⟩ dX4_readProduct_51 (fun M_36 H locs hp_36 hw => ?_)
          obtain ⟨iM_36, q_37, q_38, q_39, q_40, p0r_35⟩ := hp_36
          obtain ⟨g_41, eg_41⟩ : ∃ z : Nat → Int, z = pp_pt B n 6 g_34 := ⟨_, rfl⟩
          rw [← eg_41] at p0r_35
          have lg_41_0 : g_41 0 = (tI M_36 2 4).toInt := p0r_35.2.1.1
          have lg_41_1 : g_41 1 = (tI M_36 2 6).toInt := p0r_35.2.1.2.1
          have lg_41_4 : g_41 4 = (tI M_36 1 4).toInt := p0r_35.2.2.1.1
          have lg_41_7 : g_41 7 = (tI M_36 t 4).toInt := p0r_35.2.2.2.1.1
          have lg_41_8 : g_41 8 = (tI M_36 t 5).toInt := p0r_35.2.2.2.1.2.1
          refine lv_aload_n hx hb dX4_readProduct_54 rfl (lv_at hl 2 rfl) ?_
          refine ti_get (ci := 4) (k := 2) (N := 6) (T := TX4) (v := .ref (A lw 0)) C hw iw_4 rfl ob_1 (by decide) (by decide) fl_X4_154 rfl (ti_Tv ((tT_fr q_37).trans ((tT_fr q_30).trans f_17))) dX4_readProduct_55 ?_
          refine lv_iload_n hx hb dX4_readProduct_58 rfl (lv_at hl 0 rfl) ?_
          refine lv_ineg hx hb dX4_readProduct_59 ?_
          refine lv_topi (fun x_42 ex_42 => ?_)
          have tx_42 : x_42.toInt = -x_23.toInt := i_neg ex_42 rfl (by omega)
          refine ti_callVv (ci := 1) (av := [.int x_42]) C hw (x_X1_add l D A cy hJ M_36 iM_36 lw hlw x_42 (by first | omega | exact Or.inl (by decide) | exact Or.inr (by decide)) t ht B n g_41 p0r_35) ⟨ml_X4_170, ym_X1_add, yv_X1_add, yi_X1_add, yc_X1_add⟩ yd_X1_add hlw (by decide) rfl rfl hl.1 (Nat.le_of_ble_eq_true rfl) ⟨by decide, by decide⟩ ⟨Nat.zero_le _, Nat.zero_le _⟩ dX4_readProduct_60 (fun M_44 H locs hp_44 hw => ?_)
          obtain ⟨iM_44, q_45, q_46, p0r_43⟩ := hp_44
          have lM_44_0 : g_41 0 = (tI M_44 2 4).toInt := p0r_43.2.1.1
          have lM_44_1 : g_41 1 = (tI M_44 2 6).toInt := p0r_43.2.1.2.1
          have lM_44_4 : g_41 4 = (tI M_44 1 4).toInt := p0r_43.2.2.1.1
          have lM_44_7 : g_41 7 = (tI M_44 t 4).toInt := p0r_43.2.2.2.1.1
          have lM_44_8 : g_41 8 = (tI M_44 t 5).toInt := p0r_43.2.2.2.1.2.1
          obtain ⟨x_47, ex_47⟩ : ∃ z : Int32, z = x_8 + 1 := ⟨_, rfl⟩
          have tx_47 : x_47.toInt = x_8.toInt + 1 := i_add ex_47 rfl (by decide) (by omega) (by omega)
          refine lv_iinc (v := x_47) (lv' := [(2, .int x_47), (3, .int x_23), (0, .ref (A 1 0)), (1, .int 2)]) hx hb dX4_readProduct_63 hl (k := 1) rfl (by rw [ex_47]; rfl) (by decide) rfl (fun ls hl => ?_)
          refine lv_goto (tgt := 7) hx hb dX4_readProduct_66 (by decide) ?_
          exact ih_21 x_47 M_44 g_41 _ _ _ (by omega) (by first | omega | decide) (by first | omega | decide) iM_44 ((q_45).trans ((q_37).trans ((q_30).trans f_12))) (f0.trans (f0_x q_46) (f0.trans q_38 (f0.trans q_31 f_13))) (((q_46 1).2.1).trans ((q_39).trans ((q_32).trans f_14))) (ot.trans (ot_fx ht q_46) (ot.trans q_40 (ot.trans q_33 f_15))) ((tT_fr q_45).trans ((tT_fr q_37).trans ((tT_fr q_30).trans f_16))) ((tT_fr q_45).trans ((tT_fr q_37).trans ((tT_fr q_30).trans f_17))) p0r_43 (j_20.trans (lp_step (decide_eq_true (by omega)) (by rw [eg_41, eg_34]) (by omega))) hw (lv_sub hl [0, 2, 3] rfl)
        · refine lv_aload_n hx hb dX4_readProduct_25 rfl (lv_at hl 1 rfl) ?_
          refine ti_get (ci := 4) (k := 0) (N := 6) (T := TX4) (v := .ref (A 2 0)) C hw iw_4 rfl ob_1 (by decide) (by decide) fl_X4_12 rfl rfl dX4_readProduct_26 ?_
          refine ti_get (ci := 7) (k := 4) (N := 7) (T := TX7) C hw iw_7 rfl ob_2 (by decide) (by decide) fl_X4_41 rfl rfl dX4_readProduct_29 ?_
          refine ti_top (y := x_23) (ex_23.symm) ?_
          have u_25 : (tI M_11 2 4).toInt = (x_23 : Int32).toInt := by rw [(ex_23.symm)]
          refine lv_bipush (v := 41) hx hb dX4_readProduct_32 (by decide) ?_
          refine sb_icmp_ne (tgt := 69) hx hb rfl (by decide : (41 : Int32).toInt = 41) dX4_readProduct_34 (by decide) (fun c_34_25 => ?_) (fun c_34_25 => ?_)
          · exact hQ _ _ _ _ _ hw (⟨iM_11, (f_12), f_13, (f_14), f_15, (by unfold pp_pd; rw [← eg_7, j_20, lp_end (P := pp_qT) (f := 64 - x_8.toInt.toNat) (s := g_18) (Or.inr (decide_eq_false (by omega)))]; exact hs_19)⟩) dX4_readProduct_69
          · refine lv_aload_n hx hb dX4_readProduct_37 rfl (lv_at hl 1 rfl) ?_
            refine ti_get (ci := 4) (k := 0) (N := 6) (T := TX4) (v := .ref (A 2 0)) C hw iw_4 rfl ob_1 (by decide) (by decide) fl_X4_12 rfl rfl dX4_readProduct_38 ?_
            refine ti_get (ci := 7) (k := 4) (N := 7) (T := TX7) C hw iw_7 rfl ob_2 (by decide) (by decide) fl_X4_41 rfl rfl dX4_readProduct_41 ?_
            refine ti_top (y := x_23) (ex_23.symm) ?_
            have u_48 : (tI M_11 2 4).toInt = (x_23 : Int32).toInt := by rw [(ex_23.symm)]
            refine lv_istore_n (lv' := [(3, .int x_23), (2, .int x_8), (0, .ref (A 1 0)), (1, .int 2)]) hx hb dX4_readProduct_44 rfl hl (by decide) rfl (fun ls hl => ?_)
            refine lv_aload_n hx hb dX4_readProduct_45 rfl (lv_at hl 2 rfl) ?_
            refine ti_callVvE (ci := 4) (av := []) C hE hw (x_X4_knot l D A cy hJ M_11 iM_11 t ht (f_16) B n g_18 hs_19) ⟨ml_X4_167, ym_X4_knot, yv_X4_knot, yi_X4_knot, yc_X4_knot⟩ yd_X4_knot ob_1 (by decide) rfl rfl hl.1 (Nat.le_of_ble_eq_true rfl) ⟨by decide, by decide⟩ ⟨Nat.zero_le _, Nat.zero_le _⟩ dX4_readProduct_46 (fun M_50 H locs hp_50 hw => ?_)
            obtain ⟨iM_50, q_51, q_52, q_53, q_54, p0r_49⟩ := hp_50
            obtain ⟨g_55, eg_55⟩ : ∃ z : Nat → Int, z = pp_kn B n g_18 := ⟨_, rfl⟩
            rw [← eg_55] at p0r_49
            have lg_55_0 : g_55 0 = (tI M_50 2 4).toInt := p0r_49.2.1.1
            have lg_55_1 : g_55 1 = (tI M_50 2 6).toInt := p0r_49.2.1.2.1
            have lg_55_4 : g_55 4 = (tI M_50 1 4).toInt := p0r_49.2.2.1.1
            have lg_55_7 : g_55 7 = (tI M_50 t 4).toInt := p0r_49.2.2.2.1.1
            have lg_55_8 : g_55 8 = (tI M_50 t 5).toInt := p0r_49.2.2.2.1.2.1
            refine lv_aload_n hx hb dX4_readProduct_49 rfl (lv_at hl 2 rfl) ?_
            refine lv_iload_n hx hb dX4_readProduct_50 rfl (lv_at hl 3 rfl) ?_
            refine ti_callVvE (ci := 4) (av := [.int 2]) C hE hw (x_X4_readPart_2 l D A cy hJ M_50 iM_50 t ht ((tT_fr q_51).trans f_16) lw hlw ((tT_fr q_51).trans f_17) B n g_55 p0r_49) ⟨ml_X4_187, ym_X4_readPart, yv_X4_readPart, yi_X4_readPart, yc_X4_readPart⟩ yd_X4_readPart ob_1 (by decide) rfl rfl hl.1 (Nat.le_of_ble_eq_true rfl) ⟨by decide, by decide⟩ ⟨Nat.zero_le _, Nat.zero_le _⟩ dX4_readProduct_51 (fun M_57 H locs hp_57 hw => ?_)
            obtain ⟨iM_57, q_58, q_59, q_60, q_61, p0r_56⟩ := hp_57
            obtain ⟨g_62, eg_62⟩ : ∃ z : Nat → Int, z = pp_pt B n 6 g_55 := ⟨_, rfl⟩
            rw [← eg_62] at p0r_56
            have lg_62_0 : g_62 0 = (tI M_57 2 4).toInt := p0r_56.2.1.1
            have lg_62_1 : g_62 1 = (tI M_57 2 6).toInt := p0r_56.2.1.2.1
            have lg_62_4 : g_62 4 = (tI M_57 1 4).toInt := p0r_56.2.2.1.1
            have lg_62_7 : g_62 7 = (tI M_57 t 4).toInt := p0r_56.2.2.2.1.1
            have lg_62_8 : g_62 8 = (tI M_57 t 5).toInt := p0r_56.2.2.2.1.2.1
            refine lv_aload_n hx hb dX4_readProduct_54 rfl (lv_at hl 2 rfl) ?_
            refine ti_get (ci := 4) (k := 2) (N := 6) (T := TX4) (v := .ref (A lw 0)) C hw iw_4 rfl ob_1 (by decide) (by decide) fl_X4_154 rfl (ti_Tv ((tT_fr q_58).trans ((tT_fr q_51).trans f_17))) dX4_readProduct_55 ?_
            refine lv_iload_n hx hb dX4_readProduct_58 rfl (lv_at hl 0 rfl) ?_
            refine lv_ineg hx hb dX4_readProduct_59 ?_
            refine lv_topi (fun x_63 ex_63 => ?_)
            have tx_63 : x_63.toInt = -x_23.toInt := i_neg ex_63 rfl (by omega)
            refine ti_callVv (ci := 1) (av := [.int x_63]) C hw (x_X1_add l D A cy hJ M_57 iM_57 lw hlw x_63 (by first | omega | exact Or.inl (by decide) | exact Or.inr (by decide)) t ht B n g_62 p0r_56) ⟨ml_X4_170, ym_X1_add, yv_X1_add, yi_X1_add, yc_X1_add⟩ yd_X1_add hlw (by decide) rfl rfl hl.1 (Nat.le_of_ble_eq_true rfl) ⟨by decide, by decide⟩ ⟨Nat.zero_le _, Nat.zero_le _⟩ dX4_readProduct_60 (fun M_65 H locs hp_65 hw => ?_)
            obtain ⟨iM_65, q_66, q_67, p0r_64⟩ := hp_65
            have lM_65_0 : g_62 0 = (tI M_65 2 4).toInt := p0r_64.2.1.1
            have lM_65_1 : g_62 1 = (tI M_65 2 6).toInt := p0r_64.2.1.2.1
            have lM_65_4 : g_62 4 = (tI M_65 1 4).toInt := p0r_64.2.2.1.1
            have lM_65_7 : g_62 7 = (tI M_65 t 4).toInt := p0r_64.2.2.2.1.1
            have lM_65_8 : g_62 8 = (tI M_65 t 5).toInt := p0r_64.2.2.2.1.2.1
            obtain ⟨x_68, ex_68⟩ : ∃ z : Int32, z = x_8 + 1 := ⟨_, rfl⟩
            have tx_68 : x_68.toInt = x_8.toInt + 1 := i_add ex_68 rfl (by decide) (by omega) (by omega)
            refine lv_iinc (v := x_68) (lv' := [(2, .int x_68), (3, .int x_23), (0, .ref (A 1 0)), (1, .int 2)]) hx hb dX4_readProduct_63 hl (k := 1) rfl (by rw [ex_68]; rfl) (by decide) rfl (fun ls hl => ?_)
            refine lv_goto (tgt := 7) hx hb dX4_readProduct_66 (by decide) ?_
            exact ih_21 x_68 M_65 g_62 _ _ _ (by omega) (by first | omega | decide) (by first | omega | decide) iM_65 ((q_66).trans ((q_58).trans ((q_51).trans f_12))) (f0.trans (f0_x q_67) (f0.trans q_59 (f0.trans q_52 f_13))) (((q_67 1).2.1).trans ((q_60).trans ((q_53).trans f_14))) (ot.trans (ot_fx ht q_67) (ot.trans q_61 (ot.trans q_54 f_15))) ((tT_fr q_66).trans ((tT_fr q_58).trans ((tT_fr q_51).trans f_16))) ((tT_fr q_66).trans ((tT_fr q_58).trans ((tT_fr q_51).trans f_17))) p0r_64 (j_20.trans (lp_step (decide_eq_true (by omega)) (by rw [eg_62, eg_55]) (by omega))) hw (lv_sub hl [0, 2, 3] rfl)
  exact hl_7_20 ((64 - 0 : Int).toNat + 1) 0 M_2 g_7 _ _ _ (Nat.lt_succ_self _) (by have lt0 : (0 : Int32).toInt = 0 := (by decide); first | omega | decide) (by have lt0 : (0 : Int32).toInt = 0 := (by decide); first | omega | decide) iM_2 (q_3) q_4 (q_5) q_6 ((tT_fr q_3).trans hT) ((tT_fr q_3).trans hL) p0r_1 rfl hw (lv_sub hl [0, 1, 2] rfl)
set_option maxHeartbeats 4000000 in
set_option maxRecDepth 100000 in
theorem x_X4_readSum_2 (l : Launch) (D : va_G) (A : Nat → Nat → Nat) (cy : Nat → ClassId) (hJ : ti_inj ti_LT A) (M : ti_M) (hI : cI Tc M) (t : Nat) (ht : t = 3 ∨ t = 4) (hT : tT M 1 1 = some t) (lw : Nat) (hlw : ti_ob ti_LT lw 1) (hL : tT M 1 2 = some lw) (B : Nat → Int) (n : Nat) (rg : Nat → Int) (hr : rC B n t rg M) : ti_KvE l yX4_readSum cX4_readSum 4 52 ti_LT D A cy M [.ref (A 1 0), .int 2] (fun M2 => cI Tc M2 ∧ M2.2.2.2 = M.2.2.2 ∧ f0 M2 M ∧ tI M2 2 1 = tI M 2 1 ∧ ot t M2 M ∧ rC B n t (pp_sm B n (pp_pt B n 6) rg) M2) := by
  refine ti_eVE yp_X4_readSum hJ ti_LT_nd (Nat.le_of_ble_eq_true rfl) ?_
  intro p e s m args below meth c Q H0 C hE hQ hw ls hl
  have hx := C.1
  have hb := C.2.1
  have hl : lv_has ls 4 [(0, .ref (A 1 0)), (1, .int 2)] := hl
  have l0 : rg 0 = (tI M 2 4).toInt := hr.2.1.1
  have l1 : rg 1 = (tI M 2 6).toInt := hr.2.1.2.1
  have l2 : rg 2 = (tI M 2 5).toInt := hr.2.1.2.2.1
  have l3 : rg 3 = (tI M 2 3).toInt := hr.2.1.2.2.2
  have l4 : rg 4 = (tI M 1 4).toInt := hr.2.2.1.1
  have l5 : rg 5 = (tI M 1 5).toInt := hr.2.2.1.2.1
  have l7 : rg 7 = (tI M t 4).toInt := hr.2.2.2.1.1
  have l8 : rg 8 = (tI M t 5).toInt := hr.2.2.2.1.2.1
  have l9 : rg 9 = (tI M t 3).toInt := hr.2.2.2.1.2.2
  refine lv_aload_n hx hb dX4_readSum_0 rfl (lv_at hl 0 rfl) ?_
  refine lv_iload_n hx hb dX4_readSum_1 rfl (lv_at hl 1 rfl) ?_
  refine ti_callVvE (ci := 4) (av := [.int 2]) C hE hw (x_X4_readProduct_2 l D A cy hJ M hI t ht (hT) lw hlw (hL) B n rg hr) ⟨ml_X4_184, ym_X4_readProduct, yv_X4_readProduct, yi_X4_readProduct, yc_X4_readProduct⟩ yd_X4_readProduct ob_1 (by decide) rfl rfl hl.1 (Nat.le_of_ble_eq_true rfl) ⟨by decide, by decide⟩ ⟨Nat.zero_le _, Nat.zero_le _⟩ dX4_readSum_2 (fun M_2 H locs hp_2 hw => ?_)
  obtain ⟨iM_2, q_3, q_4, q_5, q_6, p0r_1⟩ := hp_2
  obtain ⟨g_7, eg_7⟩ : ∃ z : Nat → Int, z = pp_pd B n (pp_pt B n 6) rg := ⟨_, rfl⟩
  rw [← eg_7] at p0r_1
  have lg_7_0 : g_7 0 = (tI M_2 2 4).toInt := p0r_1.2.1.1
  have lg_7_1 : g_7 1 = (tI M_2 2 6).toInt := p0r_1.2.1.2.1
  have lg_7_4 : g_7 4 = (tI M_2 1 4).toInt := p0r_1.2.2.1.1
  have lg_7_7 : g_7 7 = (tI M_2 t 4).toInt := p0r_1.2.2.2.1.1
  have lg_7_8 : g_7 8 = (tI M_2 t 5).toInt := p0r_1.2.2.2.1.2.1
  refine lv_iconst (v := 0) hx hb dX4_readSum_5 (by decide) ?_
  refine lv_istore_n (lv' := [(2, .int 0), (0, .ref (A 1 0)), (1, .int 2)]) hx hb dX4_readSum_6 rfl hl (by decide) rfl (fun ls hl => ?_)
  have hl_7_20 : ∀ (n_21 : Nat) (x_8 : Int32) (M_11 : ti_M) (g_18 : Nat → Int) (H : Heap) (locs : List Loc) (ls : Array Slot), (64 - x_8.toInt : Int).toNat < n_21 → (0 ≤ x_8.toInt) → (x_8.toInt ≤ 64) → (cI Tc M_11) → (M_11.2.2.2 = M.2.2.2) → (f0 M_11 M) → (tI M_11 2 1 = tI M 2 1) → (ot t M_11 M) → (tT M_11 1 1 = (some t)) → (tT M_11 1 2 = (some lw)) → (rC B n t g_18 M_11) → (pp_lp pp_qP (fun s => pp_pd B n (pp_pt B n 6) (pp_kn B n s)) 64 g_7 = pp_lp pp_qP (fun s => pp_pd B n (pp_pt B n 6) (pp_kn B n s)) (64 - (x_8.toInt).toNat) g_18) → ti_H ti_LT D A cy H0 M_11 H locs → lv_has ls 4 [(2, .int x_8), (0, .ref (A 1 0)), (1, .int 2)] → W p l e (ti_rm 52) s m args below meth c H locs 0 0 Q (F0 m 7 ls []) := by
    intro n_21
    induction n_21 with
    | zero => intro x_8 M_11 g_18 H locs ls hf_21; exact absurd hf_21 (Nat.not_lt_zero _)
    | succ n_21 ih_21 =>
      intro x_8 M_11 g_18 H locs ls hf_21 b_9 b_10 iM_11 f_12 f_13 f_14 f_15 f_16 f_17 hs_19 j_20 hw hl
      have lg_18_0 : g_18 0 = (tI M_11 2 4).toInt := hs_19.2.1.1
      have lg_18_1 : g_18 1 = (tI M_11 2 6).toInt := hs_19.2.1.2.1
      have lg_18_4 : g_18 4 = (tI M_11 1 4).toInt := hs_19.2.2.1.1
      have lg_18_7 : g_18 7 = (tI M_11 t 4).toInt := hs_19.2.2.2.1.1
      have lg_18_8 : g_18 8 = (tI M_11 t 5).toInt := hs_19.2.2.2.1.2.1
      refine lv_iload_n hx hb dX4_readSum_7 rfl (lv_at hl 0 rfl) ?_
      refine lv_bipush (v := 64) hx hb dX4_readSum_8 (by decide) ?_
      refine sb_icmp_ge (tgt := 69) hx hb rfl (by decide : (64 : Int32).toInt = 64) dX4_readSum_10 (by decide) (fun c_10_21 => ?_) (fun c_10_21 => ?_)
      · exact hQ _ _ _ _ _ hw (⟨iM_11, (f_12), f_13, (f_14), f_15, (by unfold pp_sm; rw [← eg_7, j_20, lp_end (P := pp_qP) (f := 64 - x_8.toInt.toNat) (s := g_18) (Or.inl (by omega))]; exact hs_19)⟩) dX4_readSum_69
      · refine lv_aload_n hx hb dX4_readSum_13 rfl (lv_at hl 1 rfl) ?_
        refine ti_get (ci := 4) (k := 0) (N := 6) (T := TX4) (v := .ref (A 2 0)) C hw iw_4 rfl ob_1 (by decide) (by decide) fl_X4_12 rfl rfl dX4_readSum_14 ?_
        refine ti_get (ci := 7) (k := 4) (N := 7) (T := TX7) C hw iw_7 rfl ob_2 (by decide) (by decide) fl_X4_41 rfl rfl dX4_readSum_17 ?_
        refine lv_topi (fun x_23 ex_23 => ?_)
        have bx_23 : 0 ≤ x_23.toInt ∧ x_23.toInt ≤ 41 := cI_rd iM_11 ob_2.1 ex_23
        have ux_23 : (tI M_11 2 4).toInt = x_23.toInt := by rw [ex_23]
        refine lv_bipush (v := 38) hx hb dX4_readSum_20 (by decide) ?_
        refine sb_icmp_eq (tgt := 37) hx hb rfl (by decide : (38 : Int32).toInt = 38) dX4_readSum_22 (by decide) (fun c_22_23 => ?_) (fun c_22_23 => ?_)
        · refine lv_aload_n hx hb dX4_readSum_37 rfl (lv_at hl 1 rfl) ?_
          refine ti_get (ci := 4) (k := 0) (N := 6) (T := TX4) (v := .ref (A 2 0)) C hw iw_4 rfl ob_1 (by decide) (by decide) fl_X4_12 rfl rfl dX4_readSum_38 ?_
          refine ti_get (ci := 7) (k := 4) (N := 7) (T := TX7) C hw iw_7 rfl ob_2 (by decide) (by decide) fl_X4_41 rfl rfl dX4_readSum_41 ?_
          refine ti_top (y := x_23) (ex_23.symm) ?_
          have u_27 : (tI M_11 2 4).toInt = (x_23 : Int32).toInt := by rw [(ex_23.symm)]
          refine lv_istore_n (lv' := [(3, .int x_23), (2, .int x_8), (0, .ref (A 1 0)), (1, .int 2)]) hx hb dX4_readSum_44 rfl hl (by decide) rfl (fun ls hl => ?_)
          refine lv_aload_n hx hb dX4_readSum_45 rfl (lv_at hl 2 rfl) ?_
          refine ti_callVvE (ci := 4) (av := []) C hE hw (x_X4_knot l D A cy hJ M_11 iM_11 t ht (f_16) B n g_18 hs_19) ⟨ml_X4_167, ym_X4_knot, yv_X4_knot, yi_X4_knot, yc_X4_knot⟩ yd_X4_knot ob_1 (by decide) rfl rfl hl.1 (Nat.le_of_ble_eq_true rfl) ⟨by decide, by decide⟩ ⟨Nat.zero_le _, Nat.zero_le _⟩ dX4_readSum_46 (fun M_29 H locs hp_29 hw => ?_)
          obtain ⟨iM_29, q_30, q_31, q_32, q_33, p0r_28⟩ := hp_29
          obtain ⟨g_34, eg_34⟩ : ∃ z : Nat → Int, z = pp_kn B n g_18 := ⟨_, rfl⟩
          rw [← eg_34] at p0r_28
          have lg_34_0 : g_34 0 = (tI M_29 2 4).toInt := p0r_28.2.1.1
          have lg_34_1 : g_34 1 = (tI M_29 2 6).toInt := p0r_28.2.1.2.1
          have lg_34_4 : g_34 4 = (tI M_29 1 4).toInt := p0r_28.2.2.1.1
          have lg_34_7 : g_34 7 = (tI M_29 t 4).toInt := p0r_28.2.2.2.1.1
          have lg_34_8 : g_34 8 = (tI M_29 t 5).toInt := p0r_28.2.2.2.1.2.1
          refine lv_aload_n hx hb dX4_readSum_49 rfl (lv_at hl 2 rfl) ?_
          refine lv_iload_n hx hb dX4_readSum_50 rfl (lv_at hl 3 rfl) ?_
          refine ti_callVvE (ci := 4) (av := [.int 2]) C hE hw (x_X4_readProduct_2 l D A cy hJ M_29 iM_29 t ht ((tT_fr q_30).trans f_16) lw hlw ((tT_fr q_30).trans f_17) B n g_34 p0r_28) ⟨ml_X4_184, ym_X4_readProduct, yv_X4_readProduct, yi_X4_readProduct, yc_X4_readProduct⟩ yd_X4_readProduct ob_1 (by decide) rfl rfl hl.1 (Nat.le_of_ble_eq_true rfl) ⟨by decide, by decide⟩ ⟨Nat.zero_le _, Nat.zero_le _⟩ dX4_readSum_51 (fun M_36 H locs hp_36 hw => ?_)
          obtain ⟨iM_36, q_37, q_38, q_39, q_40, p0r_35⟩ := hp_36
          obtain ⟨g_41, eg_41⟩ : ∃ z : Nat → Int, z = pp_pd B n (pp_pt B n 6) g_34 := ⟨_, rfl⟩
          rw [← eg_41] at p0r_35
          have lg_41_0 : g_41 0 = (tI M_36 2 4).toInt := p0r_35.2.1.1
          have lg_41_1 : g_41 1 = (tI M_36 2 6).toInt := p0r_35.2.1.2.1
          have lg_41_4 : g_41 4 = (tI M_36 1 4).toInt := p0r_35.2.2.1.1
          have lg_41_7 : g_41 7 = (tI M_36 t 4).toInt := p0r_35.2.2.2.1.1
          have lg_41_8 : g_41 8 = (tI M_36 t 5).toInt := p0r_35.2.2.2.1.2.1
          refine lv_aload_n hx hb dX4_readSum_54 rfl (lv_at hl 2 rfl) ?_
          refine ti_get (ci := 4) (k := 2) (N := 6) (T := TX4) (v := .ref (A lw 0)) C hw iw_4 rfl ob_1 (by decide) (by decide) fl_X4_154 rfl (ti_Tv ((tT_fr q_37).trans ((tT_fr q_30).trans f_17))) dX4_readSum_55 ?_
          refine lv_iload_n hx hb dX4_readSum_58 rfl (lv_at hl 0 rfl) ?_
          refine lv_ineg hx hb dX4_readSum_59 ?_
          refine lv_topi (fun x_42 ex_42 => ?_)
          have tx_42 : x_42.toInt = -x_23.toInt := i_neg ex_42 rfl (by omega)
          refine ti_callVv (ci := 1) (av := [.int x_42]) C hw (x_X1_add l D A cy hJ M_36 iM_36 lw hlw x_42 (by first | omega | exact Or.inl (by decide) | exact Or.inr (by decide)) t ht B n g_41 p0r_35) ⟨ml_X4_170, ym_X1_add, yv_X1_add, yi_X1_add, yc_X1_add⟩ yd_X1_add hlw (by decide) rfl rfl hl.1 (Nat.le_of_ble_eq_true rfl) ⟨by decide, by decide⟩ ⟨Nat.zero_le _, Nat.zero_le _⟩ dX4_readSum_60 (fun M_44 H locs hp_44 hw => ?_)
          obtain ⟨iM_44, q_45, q_46, p0r_43⟩ := hp_44
          have lM_44_0 : g_41 0 = (tI M_44 2 4).toInt := p0r_43.2.1.1
          have lM_44_1 : g_41 1 = (tI M_44 2 6).toInt := p0r_43.2.1.2.1
          have lM_44_4 : g_41 4 = (tI M_44 1 4).toInt := p0r_43.2.2.1.1
          have lM_44_7 : g_41 7 = (tI M_44 t 4).toInt := p0r_43.2.2.2.1.1
          have lM_44_8 : g_41 8 = (tI M_44 t 5).toInt := p0r_43.2.2.2.1.2.1
          obtain ⟨x_47, ex_47⟩ : ∃ z : Int32, z = x_8 + 1 := ⟨_, rfl⟩
          have tx_47 : x_47.toInt = x_8.toInt + 1 := i_add ex_47 rfl (by decide) (by omega) (by omega)
          refine lv_iinc (v := x_47) (lv' := [(2, .int x_47), (3, .int x_23), (0, .ref (A 1 0)), (1, .int 2)]) hx hb dX4_readSum_63 hl (k := 1) rfl (by rw [ex_47]; rfl) (by decide) rfl (fun ls hl => ?_)
          refine lv_goto (tgt := 7) hx hb dX4_readSum_66 (by decide) ?_
          exact ih_21 x_47 M_44 g_41 _ _ _ (by omega) (by first | omega | decide) (by first | omega | decide) iM_44 ((q_45).trans ((q_37).trans ((q_30).trans f_12))) (f0.trans (f0_x q_46) (f0.trans q_38 (f0.trans q_31 f_13))) (((q_46 1).2.1).trans ((q_39).trans ((q_32).trans f_14))) (ot.trans (ot_fx ht q_46) (ot.trans q_40 (ot.trans q_33 f_15))) ((tT_fr q_45).trans ((tT_fr q_37).trans ((tT_fr q_30).trans f_16))) ((tT_fr q_45).trans ((tT_fr q_37).trans ((tT_fr q_30).trans f_17))) p0r_43 (j_20.trans (lp_step (decide_eq_true (by omega)) (by rw [eg_41, eg_34]) (by omega))) hw (lv_sub hl [0, 2, 3] rfl)
        · refine lv_aload_n hx hb dX4_readSum_25 rfl (lv_at hl 1 rfl) ?_
          refine ti_get (ci := 4) (k := 0) (N := 6) (T := TX4) (v := .ref (A 2 0)) C hw iw_4 rfl ob_1 (by decide) (by decide) fl_X4_12 rfl rfl dX4_readSum_26 ?_
          refine ti_get (ci := 7) (k := 4) (N := 7) (T := TX7) C hw iw_7 rfl ob_2 (by decide) (by decide) fl_X4_41 rfl rfl dX4_readSum_29 ?_
          refine ti_top (y := x_23) (ex_23.symm) ?_
          have u_25 : (tI M_11 2 4).toInt = (x_23 : Int32).toInt := by rw [(ex_23.symm)]
          refine lv_bipush (v := 39) hx hb dX4_readSum_32 (by decide) ?_
          refine sb_icmp_ne (tgt := 69) hx hb rfl (by decide : (39 : Int32).toInt = 39) dX4_readSum_34 (by decide) (fun c_34_25 => ?_) (fun c_34_25 => ?_)
          · exact hQ _ _ _ _ _ hw (⟨iM_11, (f_12), f_13, (f_14), f_15, (by unfold pp_sm; rw [← eg_7, j_20, lp_end (P := pp_qP) (f := 64 - x_8.toInt.toNat) (s := g_18) (Or.inr (decide_eq_false (by omega)))]; exact hs_19)⟩) dX4_readSum_69
          · refine lv_aload_n hx hb dX4_readSum_37 rfl (lv_at hl 1 rfl) ?_
            refine ti_get (ci := 4) (k := 0) (N := 6) (T := TX4) (v := .ref (A 2 0)) C hw iw_4 rfl ob_1 (by decide) (by decide) fl_X4_12 rfl rfl dX4_readSum_38 ?_
            refine ti_get (ci := 7) (k := 4) (N := 7) (T := TX7) C hw iw_7 rfl ob_2 (by decide) (by decide) fl_X4_41 rfl rfl dX4_readSum_41 ?_
            refine ti_top (y := x_23) (ex_23.symm) ?_
            have u_48 : (tI M_11 2 4).toInt = (x_23 : Int32).toInt := by rw [(ex_23.symm)]
            refine lv_istore_n (lv' := [(3, .int x_23), (2, .int x_8), (0, .ref (A 1 0)), (1, .int 2)]) hx hb dX4_readSum_44 rfl hl (by decide) rfl (fun ls hl => ?_)
            refine lv_aload_n hx hb dX4_readSum_45 rfl (lv_at hl 2 rfl) ?_
            refine ti_callVvE (ci := 4) (av := []) C hE hw (x_X4_knot l D A cy hJ M_11 iM_11 t ht (f_16) B n g_18 hs_19) ⟨ml_X4_167, ym_X4_knot, yv_X4_knot, yi_X4_knot, yc_X4_knot⟩ yd_X4_knot ob_1 (by decide) rfl rfl hl.1 (Nat.le_of_ble_eq_true rfl) ⟨by decide, by decide⟩ ⟨Nat.zero_le _, Nat.zero_le _⟩ dX4_readSum_46 (fun M_50 H locs hp_50 hw => ?_)
            obtain ⟨iM_50, q_51, q_52, q_53, q_54, p0r_49⟩ := hp_50
            obtain ⟨g_55, eg_55⟩ : ∃ z : Nat → Int, z = pp_kn B n g_18 := ⟨_, rfl⟩
            rw [← eg_55] at p0r_49
            have lg_55_0 : g_55 0 = (tI M_50 2 4).toInt := p0r_49.2.1.1
            have lg_55_1 : g_55 1 = (tI M_50 2 6).toInt := p0r_49.2.1.2.1
            have lg_55_4 : g_55 4 = (tI M_50 1 4).toInt := p0r_49.2.2.1.1
            have lg_55_7 : g_55 7 = (tI M_50 t 4).toInt := p0r_49.2.2.2.1.1
            have lg_55_8 : g_55 8 = (tI M_50 t 5).toInt := p0r_49.2.2.2.1.2.1
            refine lv_aload_n hx hb dX4_readSum_49 rfl (lv_at hl 2 rfl) ?_
            refine lv_iload_n hx hb dX4_readSum_50 rfl (lv_at hl 3 rfl) ?_
            refine ti_callVvE (ci := 4) (av := [.int 2]) C hE hw (x_X4_readProduct_2 l D A cy hJ M_50 iM_50 t ht ((tT_fr q_51).trans f_16) lw hlw ((tT_fr q_51).trans f_17) B n g_55 p0r_49) ⟨ml_X4_184, ym_X4_readProduct, yv_X4_readProduct, yi_X4_readProduct, yc_X4_readProduct⟩ yd_X4_readProduct ob_1 (by decide) rfl rfl hl.1 (Nat.le_of_ble_eq_true rfl) ⟨by decide, by decide⟩ ⟨Nat.zero_le _, Nat.zero_le _⟩ dX4_readSum_51 (fun M_57 H locs hp_57 hw => ?_)
            obtain ⟨iM_57, q_58, q_59, q_60, q_61, p0r_56⟩ := hp_57
            obtain ⟨g_62, eg_62⟩ : ∃ z : Nat → Int, z = pp_pd B n (pp_pt B n 6) g_55 := ⟨_, rfl⟩
            rw [← eg_62] at p0r_56
            have lg_62_0 : g_62 0 = (tI M_57 2 4).toInt := p0r_56.2.1.1
            have lg_62_1 : g_62 1 = (tI M_57 2 6).toInt := p0r_56.2.1.2.1
            have lg_62_4 : g_62 4 = (tI M_57 1 4).toInt := p0r_56.2.2.1.1
            have lg_62_7 : g_62 7 = (tI M_57 t 4).toInt := p0r_56.2.2.2.1.1
            have lg_62_8 : g_62 8 = (tI M_57 t 5).toInt := p0r_56.2.2.2.1.2.1
            refine lv_aload_n hx hb dX4_readSum_54 rfl (lv_at hl 2 rfl) ?_
            refine ti_get (ci := 4) (k := 2) (N := 6) (T := TX4) (v := .ref (A lw 0)) C hw iw_4 rfl ob_1 (by decide) (by decide) fl_X4_154 rfl (ti_Tv ((tT_fr q_58).trans ((tT_fr q_51).trans f_17))) dX4_readSum_55 ?_
            refine lv_iload_n hx hb dX4_readSum_58 rfl (lv_at hl 0 rfl) ?_
            refine lv_ineg hx hb dX4_readSum_59 ?_
            refine lv_topi (fun x_63 ex_63 => ?_)
            have tx_63 : x_63.toInt = -x_23.toInt := i_neg ex_63 rfl (by omega)
            refine ti_callVv (ci := 1) (av := [.int x_63]) C hw (x_X1_add l D A cy hJ M_57 iM_57 lw hlw x_63 (by first | omega | exact Or.inl (by decide) | exact Or.inr (by decide)) t ht B n g_62 p0r_56) ⟨ml_X4_170, ym_X1_add, yv_X1_add, yi_X1_add, yc_X1_add⟩ yd_X1_add hlw (by decide) rfl rfl hl.1 (Nat.le_of_ble_eq_true rfl) ⟨by decide, by decide⟩ ⟨Nat.zero_le _, Nat.zero_le _⟩ dX4_readSum_60 (fun M_65 H locs hp_65 hw => ?_)
            obtain ⟨iM_65, q_66, q_67, p0r_64⟩ := hp_65
            have lM_65_0 : g_62 0 = (tI M_65 2 4).toInt := p0r_64.2.1.1
            have lM_65_1 : g_62 1 = (tI M_65 2 6).toInt := p0r_64.2.1.2.1
            have lM_65_4 : g_62 4 = (tI M_65 1 4).toInt := p0r_64.2.2.1.1
            have lM_65_7 : g_62 7 = (tI M_65 t 4).toInt := p0r_64.2.2.2.1.1
            have lM_65_8 : g_62 8 = (tI M_65 t 5).toInt := p0r_64.2.2.2.1.2.1
            obtain ⟨x_68, ex_68⟩ : ∃ z : Int32, z = x_8 + 1 := ⟨_, rfl⟩
            have tx_68 : x_68.toInt = x_8.toInt + 1 := i_add ex_68 rfl (by decide) (by omega) (by omega)
            refine lv_iinc (v := x_68) (lv' := [(2, .int x_68), (3, .int x_23), (0, .ref (A 1 0)), (1, .int 2)]) hx hb dX4_readSum_63 hl (k := 1) rfl (by rw [ex_68]; rfl) (by decide) rfl (fun ls hl => ?_)
            refine lv_goto (tgt := 7) hx hb dX4_readSum_66 (by decide) ?_
            exact ih_21 x_68 M_65 g_62 _ _ _ (by omega) (by first | omega | decide) (by first | omega | decide) iM_65 ((q_66).trans ((q_58).trans ((q_51).trans f_12))) (f0.trans (f0_x q_67) (f0.trans q_59 (f0.trans q_52 f_13))) (((q_67 1).2.1).trans ((q_60).trans ((q_53).trans f_14))) (ot.trans (ot_fx ht q_67) (ot.trans q_61 (ot.trans q_54 f_15))) ((tT_fr q_66).trans ((tT_fr q_58).trans ((tT_fr q_51).trans f_16))) ((tT_fr q_66).trans ((tT_fr q_58).trans ((tT_fr q_51).trans f_17))) p0r_64 (j_20.trans (lp_step (decide_eq_true (by omega)) (by rw [eg_62, eg_55]) (by omega))) hw (lv_sub hl [0, 2, 3] rfl)
  exact hl_7_20 ((64 - 0 : Int).toNat + 1) 0 M_2 g_7 _ _ _ (Nat.lt_succ_self _) (by have lt0 : (0 : Int32).toInt = 0 := (by decide); first | omega | decide) (by have lt0 : (0 : Int32).toInt = 0 := (by decide); first | omega | decide) iM_2 (q_3) q_4 (q_5) q_6 ((tT_fr q_3).trans hT) ((tT_fr q_3).trans hL) p0r_1 rfl hw (lv_sub hl [0, 1, 2] rfl)
set_option maxHeartbeats 4000000 in
set_option maxRecDepth 100000 in
theorem x_X4_readComparison_2 (l : Launch) (D : va_G) (A : Nat → Nat → Nat) (cy : Nat → ClassId) (hJ : ti_inj ti_LT A) (M : ti_M) (hI : cI Tc M) (t : Nat) (ht : t = 3 ∨ t = 4) (hT : tT M 1 1 = some t) (lw : Nat) (hlw : ti_ob ti_LT lw 1) (hL : tT M 1 2 = some lw) (B : Nat → Int) (n : Nat) (rg : Nat → Int) (hr : rC B n t rg M) : ti_KvE l yX4_readComparison cX4_readComparison 3 53 ti_LT D A cy M [.ref (A 1 0), .int 2] (fun M2 => cI Tc M2 ∧ M2.2.2.2 = M.2.2.2 ∧ f0 M2 M ∧ tI M2 2 1 = tI M 2 1 ∧ ot t M2 M ∧ rC B n t (pp_cm B n (pp_pt B n 6) rg) M2) := by
  refine ti_eVE yp_X4_readComparison hJ ti_LT_nd (Nat.le_of_ble_eq_true rfl) ?_
  intro p e s m args below meth c Q H0 C hE hQ hw ls hl
  have hx := C.1
  have hb := C.2.1
  have hl : lv_has ls 3 [(0, .ref (A 1 0)), (1, .int 2)] := hl
  have l0 : rg 0 = (tI M 2 4).toInt := hr.2.1.1
  have l1 : rg 1 = (tI M 2 6).toInt := hr.2.1.2.1
  have l2 : rg 2 = (tI M 2 5).toInt := hr.2.1.2.2.1
  have l3 : rg 3 = (tI M 2 3).toInt := hr.2.1.2.2.2
  have l4 : rg 4 = (tI M 1 4).toInt := hr.2.2.1.1
  have l5 : rg 5 = (tI M 1 5).toInt := hr.2.2.1.2.1
  have l7 : rg 7 = (tI M t 4).toInt := hr.2.2.2.1.1
  have l8 : rg 8 = (tI M t 5).toInt := hr.2.2.2.1.2.1
  have l9 : rg 9 = (tI M t 3).toInt := hr.2.2.2.1.2.2
  refine lv_aload_n hx hb dX4_readComparison_0 rfl (lv_at hl 0 rfl) ?_
  refine lv_iload_n hx hb dX4_readComparison_1 rfl (lv_at hl 1 rfl) ?_
  refine ti_callVvE (ci := 4) (av := [.int 2]) C hE hw (x_X4_readSum_2 l D A cy hJ M hI t ht (hT) lw hlw (hL) B n rg hr) ⟨ml_X4_181, ym_X4_readSum, yv_X4_readSum, yi_X4_readSum, yc_X4_readSum⟩ yd_X4_readSum ob_1 (by decide) rfl rfl hl.1 (Nat.le_of_ble_eq_true rfl) ⟨by decide, by decide⟩ ⟨Nat.zero_le _, Nat.zero_le _⟩ dX4_readComparison_2 (fun M_2 H locs hp_2 hw => ?_)
  obtain ⟨iM_2, q_3, q_4, q_5, q_6, p0r_1⟩ := hp_2
  obtain ⟨g_7, eg_7⟩ : ∃ z : Nat → Int, z = pp_sm B n (pp_pt B n 6) rg := ⟨_, rfl⟩
  rw [← eg_7] at p0r_1
  have lg_7_0 : g_7 0 = (tI M_2 2 4).toInt := p0r_1.2.1.1
  have lg_7_1 : g_7 1 = (tI M_2 2 6).toInt := p0r_1.2.1.2.1
  have lg_7_4 : g_7 4 = (tI M_2 1 4).toInt := p0r_1.2.2.1.1
  have lg_7_7 : g_7 7 = (tI M_2 t 4).toInt := p0r_1.2.2.2.1.1
  have lg_7_8 : g_7 8 = (tI M_2 t 5).toInt := p0r_1.2.2.2.1.2.1
  refine lv_aload_n hx hb dX4_readComparison_5 rfl (lv_at hl 0 rfl) ?_
  refine ti_get (ci := 4) (k := 0) (N := 6) (T := TX4) (v := .ref (A 2 0)) C hw iw_4 rfl ob_1 (by decide) (by decide) fl_X4_12 rfl rfl dX4_readComparison_6 ?_
  refine ti_get (ci := 7) (k := 4) (N := 7) (T := TX7) C hw iw_7 rfl ob_2 (by decide) (by decide) fl_X4_41 rfl rfl dX4_readComparison_9 ?_
  refine lv_topi (fun x_8 ex_8 => ?_)
  have bx_8 : 0 ≤ x_8.toInt ∧ x_8.toInt ≤ 41 := cI_rd iM_2 ob_2.1 ex_8
  have ux_8 : (tI M_2 2 4).toInt = x_8.toInt := by rw [ex_8]
  refine lv_istore_n (lv' := [(2, .int x_8), (0, .ref (A 1 0)), (1, .int 2)]) hx hb dX4_readComparison_12 rfl hl (by decide) rfl (fun ls hl => ?_)
  refine lv_iload_n hx hb dX4_readComparison_13 rfl (lv_at hl 0 rfl) ?_
  refine lv_bipush (v := 32) hx hb dX4_readComparison_14 (by decide) ?_
  refine sb_icmp_lt (tgt := 43) hx hb rfl (by decide : (32 : Int32).toInt = 32) dX4_readComparison_16 (by decide) (fun c_16_8 => ?_) (fun c_16_8 => ?_)
  · exact hQ _ _ _ _ _ hw (⟨iM_2, (q_3), q_4, (q_5), q_6, (by unfold pp_cm; rw [← eg_7]; unfold pp_c2; rw [if_neg (fun q => by omega)]; exact p0r_1)⟩) dX4_readComparison_43
  · refine lv_iload_n hx hb dX4_readComparison_19 rfl (lv_at hl 0 rfl) ?_
    refine lv_bipush (v := 37) hx hb dX4_readComparison_20 (by decide) ?_
    refine sb_icmp_gt (tgt := 43) hx hb rfl (by decide : (37 : Int32).toInt = 37) dX4_readComparison_22 (by decide) (fun c_22_9 => ?_) (fun c_22_9 => ?_)
    · exact hQ _ _ _ _ _ hw (⟨iM_2, (q_3), q_4, (q_5), q_6, (by unfold pp_cm; rw [← eg_7]; unfold pp_c2; rw [if_neg (fun q => by omega)]; exact p0r_1)⟩) dX4_readComparison_43
    · refine lv_aload_n hx hb dX4_readComparison_25 rfl (lv_at hl 1 rfl) ?_
      refine ti_callVvE (ci := 4) (av := []) C hE hw (x_X4_knot l D A cy hJ M_2 iM_2 t ht ((tT_fr q_3).trans hT) B n g_7 p0r_1) ⟨ml_X4_167, ym_X4_knot, yv_X4_knot, yi_X4_knot, yc_X4_knot⟩ yd_X4_knot ob_1 (by decide) rfl rfl hl.1 (Nat.le_of_ble_eq_true rfl) ⟨by decide, by decide⟩ ⟨Nat.zero_le _, Nat.zero_le _⟩ dX4_readComparison_26 (fun M_12 H locs hp_12 hw => ?_)
      obtain ⟨iM_12, q_13, q_14, q_15, q_16, p0r_11⟩ := hp_12
      obtain ⟨g_17, eg_17⟩ : ∃ z : Nat → Int, z = pp_kn B n g_7 := ⟨_, rfl⟩
      rw [← eg_17] at p0r_11
      have lg_17_0 : g_17 0 = (tI M_12 2 4).toInt := p0r_11.2.1.1
      have lg_17_1 : g_17 1 = (tI M_12 2 6).toInt := p0r_11.2.1.2.1
      have lg_17_4 : g_17 4 = (tI M_12 1 4).toInt := p0r_11.2.2.1.1
      have lg_17_7 : g_17 7 = (tI M_12 t 4).toInt := p0r_11.2.2.2.1.1
      have lg_17_8 : g_17 8 = (tI M_12 t 5).toInt := p0r_11.2.2.2.1.2.1
      refine lv_aload_n hx hb dX4_readComparison_29 rfl (lv_at hl 1 rfl) ?_
      refine lv_iload_n hx hb dX4_readComparison_30 rfl (lv_at hl 2 rfl) ?_
      refine ti_callVvE (ci := 4) (av := [.int 2]) C hE hw (x_X4_readSum_2 l D A cy hJ M_12 iM_12 t ht ((tT_fr q_13).trans ((tT_fr q_3).trans hT)) lw hlw ((tT_fr q_13).trans ((tT_fr q_3).trans hL)) B n g_17 p0r_11) ⟨ml_X4_181, ym_X4_readSum, yv_X4_readSum, yi_X4_readSum, yc_X4_readSum⟩ yd_X4_readSum ob_1 (by decide) rfl rfl hl.1 (Nat.le_of_ble_eq_true rfl) ⟨by decide, by decide⟩ ⟨Nat.zero_le _, Nat.zero_le _⟩ dX4_readComparison_31 (fun M_19 H locs hp_19 hw => ?_)
      obtain ⟨iM_19, q_20, q_21, q_22, q_23, p0r_18⟩ := hp_19
      obtain ⟨g_24, eg_24⟩ : ∃ z : Nat → Int, z = pp_sm B n (pp_pt B n 6) g_17 := ⟨_, rfl⟩
      rw [← eg_24] at p0r_18
      have lg_24_0 : g_24 0 = (tI M_19 2 4).toInt := p0r_18.2.1.1
      have lg_24_1 : g_24 1 = (tI M_19 2 6).toInt := p0r_18.2.1.2.1
      have lg_24_4 : g_24 4 = (tI M_19 1 4).toInt := p0r_18.2.2.1.1
      have lg_24_7 : g_24 7 = (tI M_19 t 4).toInt := p0r_18.2.2.2.1.1
      have lg_24_8 : g_24 8 = (tI M_19 t 5).toInt := p0r_18.2.2.2.1.2.1
      refine lv_aload_n hx hb dX4_readComparison_34 rfl (lv_at hl 1 rfl) ?_
      refine ti_get (ci := 4) (k := 2) (N := 6) (T := TX4) (v := .ref (A lw 0)) C hw iw_4 rfl ob_1 (by decide) (by decide) fl_X4_154 rfl (ti_Tv ((tT_fr q_20).trans ((tT_fr q_13).trans ((tT_fr q_3).trans hL)))) dX4_readComparison_35 ?_
      refine lv_iload_n hx hb dX4_readComparison_38 rfl (lv_at hl 0 rfl) ?_
      refine lv_ineg hx hb dX4_readComparison_39 ?_
      refine lv_topi (fun x_25 ex_25 => ?_)
      have tx_25 : x_25.toInt = -x_8.toInt := i_neg ex_25 rfl (by omega)
      refine ti_callVv (ci := 1) (av := [.int x_25]) C hw (x_X1_add l D A cy hJ M_19 iM_19 lw hlw x_25 (by first | omega | exact Or.inl (by decide) | exact Or.inr (by decide)) t ht B n g_24 p0r_18) ⟨ml_X4_170, ym_X1_add, yv_X1_add, yi_X1_add, yc_X1_add⟩ yd_X1_add hlw (by decide) rfl rfl hl.1 (Nat.le_of_ble_eq_true rfl) ⟨by decide, by decide⟩ ⟨Nat.zero_le _, Nat.zero_le _⟩ dX4_readComparison_40 (fun M_27 H locs hp_27 hw => ?_)
      obtain ⟨iM_27, q_28, q_29, p0r_26⟩ := hp_27
      have lM_27_0 : g_24 0 = (tI M_27 2 4).toInt := p0r_26.2.1.1
      have lM_27_1 : g_24 1 = (tI M_27 2 6).toInt := p0r_26.2.1.2.1
      have lM_27_4 : g_24 4 = (tI M_27 1 4).toInt := p0r_26.2.2.1.1
      have lM_27_7 : g_24 7 = (tI M_27 t 4).toInt := p0r_26.2.2.2.1.1
      have lM_27_8 : g_24 8 = (tI M_27 t 5).toInt := p0r_26.2.2.2.1.2.1
      exact hQ _ _ _ _ _ hw (⟨iM_27, ((q_28).trans ((q_20).trans ((q_13).trans q_3))), (f0.trans (f0_x q_29) (f0.trans q_21 (f0.trans q_14 q_4))), (((q_29 1).2.1).trans ((q_22).trans ((q_15).trans q_5))), (ot.trans (ot_fx ht q_29) (ot.trans q_23 (ot.trans q_16 q_6))), (by unfold pp_cm; rw [← eg_7]; unfold pp_c2; rw [if_pos ⟨by omega, by omega⟩, ← eg_17, ← eg_24]; exact p0r_26)⟩) dX4_readComparison_43
set_option maxHeartbeats 4000000 in
set_option maxRecDepth 100000 in
theorem x_X4_readNegated_2 (l : Launch) (D : va_G) (A : Nat → Nat → Nat) (cy : Nat → ClassId) (hJ : ti_inj ti_LT A) (M : ti_M) (hI : cI Tc M) (t : Nat) (ht : t = 3 ∨ t = 4) (hT : tT M 1 1 = some t) (lw : Nat) (hlw : ti_ob ti_LT lw 1) (hL : tT M 1 2 = some lw) (B : Nat → Int) (n : Nat) (rg : Nat → Int) (hr : rC B n t rg M) : ti_KvE l yX4_readNegated cX4_readNegated 4 54 ti_LT D A cy M [.ref (A 1 0), .int 2] (fun M2 => cI Tc M2 ∧ M2.2.2.2 = M.2.2.2 ∧ f0 M2 M ∧ tI M2 2 1 = tI M 2 1 ∧ ot t M2 M ∧ rC B n t (pp_ng B n (pp_pt B n 6) rg) M2) := by
  refine ti_eVE yp_X4_readNegated hJ ti_LT_nd (Nat.le_of_ble_eq_true rfl) ?_
  intro p e s m args below meth c Q H0 C hE hQ hw ls hl
  have hx := C.1
  have hb := C.2.1
  have hl : lv_has ls 4 [(0, .ref (A 1 0)), (1, .int 2)] := hl
  have l0 : rg 0 = (tI M 2 4).toInt := hr.2.1.1
  have l1 : rg 1 = (tI M 2 6).toInt := hr.2.1.2.1
  have l2 : rg 2 = (tI M 2 5).toInt := hr.2.1.2.2.1
  have l3 : rg 3 = (tI M 2 3).toInt := hr.2.1.2.2.2
  have l4 : rg 4 = (tI M 1 4).toInt := hr.2.2.1.1
  have l5 : rg 5 = (tI M 1 5).toInt := hr.2.2.1.2.1
  have l7 : rg 7 = (tI M t 4).toInt := hr.2.2.2.1.1
  have l8 : rg 8 = (tI M t 5).toInt := hr.2.2.2.1.2.1
  have l9 : rg 9 = (tI M t 3).toInt := hr.2.2.2.1.2.2
  refine lv_iconst (v := 0) hx hb dX4_readNegated_0 (by decide) ?_
  refine lv_istore_n (lv' := [(2, .int 0), (0, .ref (A 1 0)), (1, .int 2)]) hx hb dX4_readNegated_1 rfl hl (by decide) rfl (fun ls hl => ?_)
  have hl_2_13 : ∀ (n_14 : Nat) (x_1 : Int32) (M_4 : ti_M) (g_11 : Nat → Int) (H : Heap) (locs : List Loc) (ls : Array Slot), (65 - x_1.toInt : Int).toNat < n_14 → (0 ≤ x_1.toInt) → (x_1.toInt ≤ 65) → (cI Tc M_4) → (M_4.2.2.2 = M.2.2.2) → (f0 M_4 M) → (tI M_4 2 1 = tI M 2 1) → (ot t M_4 M) → (tT M_4 1 1 = (some t)) → (tT M_4 1 2 = (some lw)) → (rC B n t g_11 M_4) → (pp_lp pp_qN (pp_kn B n) 65 rg = pp_lp pp_qN (pp_kn B n) (65 - (x_1.toInt).toNat) g_11) → ti_H ti_LT D A cy H0 M_4 H locs → lv_has ls 4 [(2, .int x_1), (0, .ref (A 1 0)), (1, .int 2)] → W p l e (ti_rm 54) s m args below meth c H locs 0 0 Q (F0 m 2 ls []) := by
    intro n_14
    induction n_14 with
    | zero => intro x_1 M_4 g_11 H locs ls hf_14; exact absurd hf_14 (Nat.not_lt_zero _)
    | succ n_14 ih_14 =>
      intro x_1 M_4 g_11 H locs ls hf_14 b_2 b_3 iM_4 f_5 f_6 f_7 f_8 f_9 f_10 hs_12 j_13 hw hl
      have lg_11_0 : g_11 0 = (tI M_4 2 4).toInt := hs_12.2.1.1
      have lg_11_1 : g_11 1 = (tI M_4 2 6).toInt := hs_12.2.1.2.1
      have lg_11_4 : g_11 4 = (tI M_4 1 4).toInt := hs_12.2.2.1.1
      have lg_11_7 : g_11 7 = (tI M_4 t 4).toInt := hs_12.2.2.2.1.1
      have lg_11_8 : g_11 8 = (tI M_4 t 5).toInt := hs_12.2.2.2.1.2.1
      refine lv_iload_n hx hb dX4_readNegated_2 rfl (lv_at hl 0 rfl) ?_
      refine lv_bipush (v := 64) hx hb dX4_readNegated_3 (by decide) ?_
      have hj_30_26 : ∀  (H : Heap) (locs : List Loc) (ls : Array Slot), (pp_lp pp_qN (pp_kn B n) 65 rg = g_11) → ti_H ti_LT D A cy H0 M_4 H locs → lv_has ls 4 [(2, .int x_1), (0, .ref (A 1 0)), (1, .int 2)] → W p l e (ti_rm 54) s m args below meth c H locs 0 0 Q (F0 m 30 ls []) := by
        intro  H locs ls j_26 hw hl
        have lg_11_0 : g_11 0 = (tI M_4 2 4).toInt := hs_12.2.1.1
        have lg_11_1 : g_11 1 = (tI M_4 2 6).toInt := hs_12.2.1.2.1
        have lg_11_4 : g_11 4 = (tI M_4 1 4).toInt := hs_12.2.2.1.1
        have lg_11_7 : g_11 7 = (tI M_4 t 4).toInt := hs_12.2.2.2.1.1
        have lg_11_8 : g_11 8 = (tI M_4 t 5).toInt := hs_12.2.2.2.1.2.1
        refine lv_aload_n hx hb dX4_readNegated_30 rfl (lv_at hl 1 rfl) ?_
        refine lv_iload_n hx hb dX4_readNegated_31 rfl (lv_at hl 2 rfl) ?_
        refine ti_callVvE (ci := 4) (av := [.int 2]) C hE hw (x_X4_readComparison_2 l D A cy hJ M_4 iM_4 t ht (f_9) lw hlw (f_10) B n g_11 hs_12) ⟨ml_X4_178, ym_X4_readComparison, yv_X4_readComparison, yi_X4_readComparison, yc_X4_readComparison⟩ yd_X4_readComparison ob_1 (by decide) rfl rfl hl.1 (Nat.le_of_ble_eq_true rfl) ⟨by decide, by decide⟩ ⟨Nat.zero_le _, Nat.zero_le _⟩ dX4_readNegated_32 (fun M_28 H locs hp_28 hw => ?_)
        obtain ⟨iM_28, q_29, q_30, q_31, q_32, p0r_27⟩ := hp_28
        obtain ⟨g_33, eg_33⟩ : ∃ z : Nat → Int, z = pp_cm B n (pp_pt B n 6) g_11 := ⟨_, rfl⟩
        rw [← eg_33] at p0r_27
        have lg_33_0 : g_33 0 = (tI M_28 2 4).toInt := p0r_27.2.1.1
        have lg_33_1 : g_33 1 = (tI M_28 2 6).toInt := p0r_27.2.1.2.1
        have lg_33_4 : g_33 4 = (tI M_28 1 4).toInt := p0r_27.2.2.1.1
        have lg_33_7 : g_33 7 = (tI M_28 t 4).toInt := p0r_27.2.2.2.1.1
        have lg_33_8 : g_33 8 = (tI M_28 t 5).toInt := p0r_27.2.2.2.1.2.1
        have EM : pp_ng B n (pp_pt B n 6) rg = g_33 := by unfold pp_ng; rw [j_26, ← eg_33]
        refine lv_iconst (v := 0) hx hb dX4_readNegated_35 (by decide) ?_
        refine lv_istore_n (lv' := [(3, .int 0), (2, .int x_1), (0, .ref (A 1 0)), (1, .int 2)]) hx hb dX4_readNegated_36 rfl hl (by decide) rfl (fun ls hl => ?_)
        have hl_37_46 : ∀ (n_47 : Nat) (x_34 : Int32) (M_37 : ti_M) (g_44 : Nat → Int) (H : Heap) (locs : List Loc) (ls : Array Slot), (65 - x_34.toInt : Int).toNat < n_47 → (0 ≤ x_34.toInt) → (x_34.toInt ≤ 65) → (cI Tc M_37) → (M_37.2.2.2 = M.2.2.2) → (f0 M_37 M) → (tI M_37 2 1 = tI M 2 1) → (ot t M_37 M) → (tT M_37 1 1 = (some t)) → (tT M_37 1 2 = (some lw)) → (rC B n t g_44 M_37) → (g_33 = g_44) → ti_H ti_LT D A cy H0 M_37 H locs → lv_has ls 4 [(3, .int x_34), (2, .int x_1), (0, .ref (A 1 0)), (1, .int 2)] → W p l e (ti_rm 54) s m args below meth c H locs 0 0 Q (F0 m 37 ls []) := by
          intro n_47
          induction n_47 with
          | zero => intro x_34 M_37 g_44 H locs ls hf_47; exact absurd hf_47 (Nat.not_lt_zero _)
          | succ n_47 ih_47 =>
            intro x_34 M_37 g_44 H locs ls hf_47 b_35 b_36 iM_37 f_38 f_39 f_40 f_41 f_42 f_43 hs_45 j_46 hw hl
            have lg_44_0 : g_44 0 = (tI M_37 2 4).toInt := hs_45.2.1.1
            have lg_44_1 : g_44 1 = (tI M_37 2 6).toInt := hs_45.2.1.2.1
            have lg_44_4 : g_44 4 = (tI M_37 1 4).toInt := hs_45.2.2.1.1
            have lg_44_7 : g_44 7 = (tI M_37 t 4).toInt := hs_45.2.2.2.1.1
            have lg_44_8 : g_44 8 = (tI M_37 t 5).toInt := hs_45.2.2.2.1.2.1
            refine lv_iload_n hx hb dX4_readNegated_37 rfl (lv_at hl 0 rfl) ?_
            refine lv_iload_n hx hb dX4_readNegated_38 rfl (lv_at hl 1 rfl) ?_
            refine sb_icmp_ge (tgt := 57) hx hb rfl rfl dX4_readNegated_39 (by decide) (fun c_39_47 => ?_) (fun c_39_47 => ?_)
            · exact hQ _ _ _ _ _ hw (⟨iM_37, (f_38), f_39, (f_40), f_41, (by rw [EM, j_46]; exact hs_45)⟩) dX4_readNegated_57
            · refine lv_aload_n hx hb dX4_readNegated_42 rfl (lv_at hl 2 rfl) ?_
              refine ti_get (ci := 4) (k := 2) (N := 6) (T := TX4) (v := .ref (A lw 0)) C hw iw_4 rfl ob_1 (by decide) (by decide) fl_X4_154 rfl (ti_Tv (f_43)) dX4_readNegated_43 ?_
              refine lv_bipush (v := (-24)) hx hb dX4_readNegated_46 (by decide) ?_
              refine ti_callVv (ci := 1) (av := [.int (-24)]) C hw (x_X1_add l D A cy hJ M_37 iM_37 lw hlw (-24) (by first | omega | exact Or.inl (by decide) | exact Or.inr (by decide)) t ht B n g_44 hs_45) ⟨ml_X4_170, ym_X1_add, yv_X1_add, yi_X1_add, yc_X1_add⟩ yd_X1_add hlw (by decide) rfl rfl hl.1 (Nat.le_of_ble_eq_true rfl) ⟨by decide, by decide⟩ ⟨Nat.zero_le _, Nat.zero_le _⟩ dX4_readNegated_48 (fun M_50 H locs hp_50 hw => ?_)
              obtain ⟨iM_50, q_51, q_52, p0r_49⟩ := hp_50
              have lM_50_0 : g_44 0 = (tI M_50 2 4).toInt := p0r_49.2.1.1
              have lM_50_1 : g_44 1 = (tI M_50 2 6).toInt := p0r_49.2.1.2.1
              have lM_50_4 : g_44 4 = (tI M_50 1 4).toInt := p0r_49.2.2.1.1
              have lM_50_7 : g_44 7 = (tI M_50 t 4).toInt := p0r_49.2.2.2.1.1
              have lM_50_8 : g_44 8 = (tI M_50 t 5).toInt := p0r_49.2.2.2.1.2.1
              obtain ⟨x_53, ex_53⟩ : ∃ z : Int32, z = x_34 + 1 := ⟨_, rfl⟩
              have tx_53 : x_53.toInt = x_34.toInt + 1 := i_add ex_53 rfl (by decide) (by omega) (by omega)
              refine lv_iinc (v := x_53) (lv' := [(3, .int x_53), (2, .int x_1), (0, .ref (A 1 0)), (1, .int 2)]) hx hb dX4_readNegated_51 hl (k := 0) rfl (by rw [ex_53]; rfl) (by decide) rfl (fun ls hl => ?_)
              refine lv_goto (tgt := 37) hx hb dX4_readNegated_54 (by decide) ?_
              exact ih_47 x_53 M_50 g_44 _ _ _ (by omega) (by first | omega | decide) (by first | omega | decide) iM_50 ((q_51).trans f_38) (f0.trans (f0_x q_52) f_39) (((q_52 1).2.1).trans f_40) (ot.trans (ot_fx ht q_52) f_41) ((tT_fr q_51).trans f_42) ((tT_fr q_51).trans f_43) p0r_49 j_46 hw (lv_sub hl [0, 1, 2, 3] rfl)
        exact hl_37_46 ((65 - 0 : Int).toNat + 1) 0 M_28 g_33 _ _ _ (Nat.lt_succ_self _) (by have lt0 : (0 : Int32).toInt = 0 := (by decide); first | omega | decide) (by have lt0 : (0 : Int32).toInt = 0 := (by decide); first | omega | decide) iM_28 ((q_29).trans f_5) (f0.trans q_30 f_6) ((q_31).trans f_7) (ot.trans q_32 f_8) ((tT_fr q_29).trans f_9) ((tT_fr q_29).trans f_10) p0r_27 rfl hw (lv_sub hl [0, 1, 2, 3] rfl)
      refine sb_icmp_gt (tgt := 30) hx hb rfl (by decide : (64 : Int32).toInt = 64) dX4_readNegated_5 (by decide) (fun c_5_14 => ?_) (fun c_5_14 => ?_)
      · exact hj_30_26  _ _ _ (by rw [j_13, lp_end (P := pp_qN) (f := 65 - x_1.toInt.toNat) (s := g_11) (Or.inl (by omega))]) hw (lv_sub hl [0, 1, 2] rfl)
      · refine lv_aload_n hx hb dX4_readNegated_8 rfl (lv_at hl 1 rfl) ?_
        refine ti_get (ci := 4) (k := 0) (N := 6) (T := TX4) (v := .ref (A 2 0)) C hw iw_4 rfl ob_1 (by decide) (by decide) fl_X4_12 rfl rfl dX4_readNegated_9 ?_
        refine ti_get (ci := 7) (k := 4) (N := 7) (T := TX7) C hw iw_7 rfl ob_2 (by decide) (by decide) fl_X4_41 rfl rfl dX4_readNegated_12 ?_
        refine lv_topi (fun x_16 ex_16 => ?_)
        have bx_16 : 0 ≤ x_16.toInt ∧ x_16.toInt ≤ 41 := cI_rd iM_4 ob_2.1 ex_16
        have ux_16 : (tI M_4 2 4).toInt = x_16.toInt := by rw [ex_16]
        refine lv_bipush (v := 24) hx hb dX4_readNegated_15 (by decide) ?_
        refine sb_icmp_ne (tgt := 30) hx hb rfl (by decide : (24 : Int32).toInt = 24) dX4_readNegated_17 (by decide) (fun c_17_16 => ?_) (fun c_17_16 => ?_)
        · exact hj_30_26  _ _ _ (by rw [j_13, lp_end (P := pp_qN) (f := 65 - x_1.toInt.toNat) (s := g_11) (Or.inr (decide_eq_false (by omega)))]) hw (lv_sub hl [0, 1, 2] rfl)
        · refine lv_aload_n hx hb dX4_readNegated_20 rfl (lv_at hl 1 rfl) ?_
          refine ti_callVvE (ci := 4) (av := []) C hE hw (x_X4_knot l D A cy hJ M_4 iM_4 t ht (f_9) B n g_11 hs_12) ⟨ml_X4_167, ym_X4_knot, yv_X4_knot, yi_X4_knot, yc_X4_knot⟩ yd_X4_knot ob_1 (by decide) rfl rfl hl.1 (Nat.le_of_ble_eq_true rfl) ⟨by decide, by decide⟩ ⟨Nat.zero_le _, Nat.zero_le _⟩ dX4_readNegated_21 (fun M_19 H locs hp_19 hw => ?_)
          obtain ⟨iM_19, q_20, q_21, q_22, q_23, p0r_18⟩ := hp_19
          obtain ⟨g_24, eg_24⟩ : ∃ z : Nat → Int, z = pp_kn B n g_11 := ⟨_, rfl⟩
          rw [← eg_24] at p0r_18
          have lg_24_0 : g_24 0 = (tI M_19 2 4).toInt := p0r_18.2.1.1
          have lg_24_1 : g_24 1 = (tI M_19 2 6).toInt := p0r_18.2.1.2.1
          have lg_24_4 : g_24 4 = (tI M_19 1 4).toInt := p0r_18.2.2.1.1
          have lg_24_7 : g_24 7 = (tI M_19 t 4).toInt := p0r_18.2.2.2.1.1
          have lg_24_8 : g_24 8 = (tI M_19 t 5).toInt := p0r_18.2.2.2.1.2.1
          obtain ⟨x_25, ex_25⟩ : ∃ z : Int32, z = x_1 + 1 := ⟨_, rfl⟩
          have tx_25 : x_25.toInt = x_1.toInt + 1 := i_add ex_25 rfl (by decide) (by omega) (by omega)
          refine lv_iinc (v := x_25) (lv' := [(2, .int x_25), (0, .ref (A 1 0)), (1, .int 2)]) hx hb dX4_readNegated_24 hl (k := 0) rfl (by rw [ex_25]; rfl) (by decide) rfl (fun ls hl => ?_)
          refine lv_goto (tgt := 2) hx hb dX4_readNegated_27 (by decide) ?_
          exact ih_14 x_25 M_19 g_24 _ _ _ (by omega) (by first | omega | decide) (by first | omega | decide) iM_19 ((q_20).trans f_5) (f0.trans q_21 f_6) ((q_22).trans f_7) (ot.trans q_23 f_8) ((tT_fr q_20).trans f_9) ((tT_fr q_20).trans f_10) p0r_18 (j_13.trans (lp_step (decide_eq_true (by omega)) (by rw [eg_24]) (by omega))) hw (lv_sub hl [0, 1, 2] rfl)
  exact hl_2_13 ((65 - 0 : Int).toNat + 1) 0 M rg _ _ _ (Nat.lt_succ_self _) (by have lt0 : (0 : Int32).toInt = 0 := (by decide); first | omega | decide) (by have lt0 : (0 : Int32).toInt = 0 := (by decide); first | omega | decide) hI rfl f0.refl rfl ot.refl (hT) (hL) hr rfl hw (lv_sub hl [0, 1, 2] rfl)
set_option maxHeartbeats 4000000 in
set_option maxRecDepth 100000 in
theorem x_X4_readBoth_2 (l : Launch) (D : va_G) (A : Nat → Nat → Nat) (cy : Nat → ClassId) (hJ : ti_inj ti_LT A) (M : ti_M) (hI : cI Tc M) (t : Nat) (ht : t = 3 ∨ t = 4) (hT : tT M 1 1 = some t) (lw : Nat) (hlw : ti_ob ti_LT lw 1) (hL : tT M 1 2 = some lw) (B : Nat → Int) (n : Nat) (rg : Nat → Int) (hr : rC B n t rg M) : ti_KvE l yX4_readBoth cX4_readBoth 3 55 ti_LT D A cy M [.ref (A 1 0), .int 2] (fun M2 => cI Tc M2 ∧ M2.2.2.2 = M.2.2.2 ∧ f0 M2 M ∧ tI M2 2 1 = tI M 2 1 ∧ ot t M2 M ∧ rC B n t (pp_bo B n (pp_pt B n 6) rg) M2) := by
  refine ti_eVE yp_X4_readBoth hJ ti_LT_nd (Nat.le_of_ble_eq_true rfl) ?_
  intro p e s m args below meth c Q H0 C hE hQ hw ls hl
  have hx := C.1
  have hb := C.2.1
  have hl : lv_has ls 3 [(0, .ref (A 1 0)), (1, .int 2)] := hl
  have l0 : rg 0 = (tI M 2 4).toInt := hr.2.1.1
  have l1 : rg 1 = (tI M 2 6).toInt := hr.2.1.2.1
  have l2 : rg 2 = (tI M 2 5).toInt := hr.2.1.2.2.1
  have l3 : rg 3 = (tI M 2 3).toInt := hr.2.1.2.2.2
  have l4 : rg 4 = (tI M 1 4).toInt := hr.2.2.1.1
  have l5 : rg 5 = (tI M 1 5).toInt := hr.2.2.1.2.1
  have l7 : rg 7 = (tI M t 4).toInt := hr.2.2.2.1.1
  have l8 : rg 8 = (tI M t 5).toInt := hr.2.2.2.1.2.1
  have l9 : rg 9 = (tI M t 3).toInt := hr.2.2.2.1.2.2
  refine lv_aload_n hx hb dX4_readBoth_0 rfl (lv_at hl 0 rfl) ?_
  refine lv_iload_n hx hb dX4_readBoth_1 rfl (lv_at hl 1 rfl) ?_
  refine ti_callVvE (ci := 4) (av := [.int 2]) C hE hw (x_X4_readNegated_2 l D A cy hJ M hI t ht (hT) lw hlw (hL) B n rg hr) ⟨ml_X4_175, ym_X4_readNegated, yv_X4_readNegated, yi_X4_readNegated, yc_X4_readNegated⟩ yd_X4_readNegated ob_1 (by decide) rfl rfl hl.1 (Nat.le_of_ble_eq_true rfl) ⟨by decide, by decide⟩ ⟨Nat.zero_le _, Nat.zero_le _⟩ dX4_readBoth_2 (fun M_2 H locs hp_2 hw => ?_)
  obtain ⟨iM_2, q_3, q_4, q_5, q_6, p0r_1⟩ := hp_2
  obtain ⟨g_7, eg_7⟩ : ∃ z : Nat → Int, z = pp_ng B n (pp_pt B n 6) rg := ⟨_, rfl⟩
  rw [← eg_7] at p0r_1
  have lg_7_0 : g_7 0 = (tI M_2 2 4).toInt := p0r_1.2.1.1
  have lg_7_1 : g_7 1 = (tI M_2 2 6).toInt := p0r_1.2.1.2.1
  have lg_7_4 : g_7 4 = (tI M_2 1 4).toInt := p0r_1.2.2.1.1
  have lg_7_7 : g_7 7 = (tI M_2 t 4).toInt := p0r_1.2.2.2.1.1
  have lg_7_8 : g_7 8 = (tI M_2 t 5).toInt := p0r_1.2.2.2.1.2.1
  refine lv_iconst (v := 0) hx hb dX4_readBoth_5 (by decide) ?_
  refine lv_istore_n (lv' := [(2, .int 0), (0, .ref (A 1 0)), (1, .int 2)]) hx hb dX4_readBoth_6 rfl hl (by decide) rfl (fun ls hl => ?_)
  have hl_7_20 : ∀ (n_21 : Nat) (x_8 : Int32) (M_11 : ti_M) (g_18 : Nat → Int) (H : Heap) (locs : List Loc) (ls : Array Slot), (64 - x_8.toInt : Int).toNat < n_21 → (0 ≤ x_8.toInt) → (x_8.toInt ≤ 64) → (cI Tc M_11) → (M_11.2.2.2 = M.2.2.2) → (f0 M_11 M) → (tI M_11 2 1 = tI M 2 1) → (ot t M_11 M) → (tT M_11 1 1 = (some t)) → (tT M_11 1 2 = (some lw)) → (rC B n t g_18 M_11) → (pp_lp pp_qA (fun s => pp_ng B n (pp_pt B n 6) (pp_kn B n s)) 64 g_7 = pp_lp pp_qA (fun s => pp_ng B n (pp_pt B n 6) (pp_kn B n s)) (64 - (x_8.toInt).toNat) g_18) → ti_H ti_LT D A cy H0 M_11 H locs → lv_has ls 3 [(2, .int x_8), (0, .ref (A 1 0)), (1, .int 2)] → W p l e (ti_rm 55) s m args below meth c H locs 0 0 Q (F0 m 7 ls []) := by
    intro n_21
    induction n_21 with
    | zero => intro x_8 M_11 g_18 H locs ls hf_21; exact absurd hf_21 (Nat.not_lt_zero _)
    | succ n_21 ih_21 =>
      intro x_8 M_11 g_18 H locs ls hf_21 b_9 b_10 iM_11 f_12 f_13 f_14 f_15 f_16 f_17 hs_19 j_20 hw hl
      have lg_18_0 : g_18 0 = (tI M_11 2 4).toInt := hs_19.2.1.1
      have lg_18_1 : g_18 1 = (tI M_11 2 6).toInt := hs_19.2.1.2.1
      have lg_18_4 : g_18 4 = (tI M_11 1 4).toInt := hs_19.2.2.1.1
      have lg_18_7 : g_18 7 = (tI M_11 t 4).toInt := hs_19.2.2.2.1.1
      have lg_18_8 : g_18 8 = (tI M_11 t 5).toInt := hs_19.2.2.2.1.2.1
      refine lv_iload_n hx hb dX4_readBoth_7 rfl (lv_at hl 0 rfl) ?_
      refine lv_bipush (v := 64) hx hb dX4_readBoth_8 (by decide) ?_
      refine sb_icmp_ge (tgt := 49) hx hb rfl (by decide : (64 : Int32).toInt = 64) dX4_readBoth_10 (by decide) (fun c_10_21 => ?_) (fun c_10_21 => ?_)
      · exact hQ _ _ _ _ _ hw (⟨iM_11, (f_12), f_13, (f_14), f_15, (by unfold pp_bo; rw [← eg_7, j_20, lp_end (P := pp_qA) (f := 64 - x_8.toInt.toNat) (s := g_18) (Or.inl (by omega))]; exact hs_19)⟩) dX4_readBoth_49
      · refine lv_aload_n hx hb dX4_readBoth_13 rfl (lv_at hl 1 rfl) ?_
        refine ti_get (ci := 4) (k := 0) (N := 6) (T := TX4) (v := .ref (A 2 0)) C hw iw_4 rfl ob_1 (by decide) (by decide) fl_X4_12 rfl rfl dX4_readBoth_14 ?_
        refine ti_get (ci := 7) (k := 4) (N := 7) (T := TX7) C hw iw_7 rfl ob_2 (by decide) (by decide) fl_X4_41 rfl rfl dX4_readBoth_17 ?_
        refine lv_topi (fun x_23 ex_23 => ?_)
        have bx_23 : 0 ≤ x_23.toInt ∧ x_23.toInt ≤ 41 := cI_rd iM_11 ob_2.1 ex_23
        have ux_23 : (tI M_11 2 4).toInt = x_23.toInt := by rw [ex_23]
        refine lv_bipush (v := 22) hx hb dX4_readBoth_20 (by decide) ?_
        refine sb_icmp_ne (tgt := 49) hx hb rfl (by decide : (22 : Int32).toInt = 22) dX4_readBoth_22 (by decide) (fun c_22_23 => ?_) (fun c_22_23 => ?_)
        · exact hQ _ _ _ _ _ hw (⟨iM_11, (f_12), f_13, (f_14), f_15, (by unfold pp_bo; rw [← eg_7, j_20, lp_end (P := pp_qA) (f := 64 - x_8.toInt.toNat) (s := g_18) (Or.inr (decide_eq_false (by omega)))]; exact hs_19)⟩) dX4_readBoth_49
        · refine lv_aload_n hx hb dX4_readBoth_25 rfl (lv_at hl 1 rfl) ?_
          refine ti_callVvE (ci := 4) (av := []) C hE hw (x_X4_knot l D A cy hJ M_11 iM_11 t ht (f_16) B n g_18 hs_19) ⟨ml_X4_167, ym_X4_knot, yv_X4_knot, yi_X4_knot, yc_X4_knot⟩ yd_X4_knot ob_1 (by decide) rfl rfl hl.1 (Nat.le_of_ble_eq_true rfl) ⟨by decide, by decide⟩ ⟨Nat.zero_le _, Nat.zero_le _⟩ dX4_readBoth_26 (fun M_26 H locs hp_26 hw => ?_)
          obtain ⟨iM_26, q_27, q_28, q_29, q_30, p0r_25⟩ := hp_26
          obtain ⟨g_31, eg_31⟩ : ∃ z : Nat → Int, z = pp_kn B n g_18 := ⟨_, rfl⟩
          rw [← eg_31] at p0r_25
          have lg_31_0 : g_31 0 = (tI M_26 2 4).toInt := p0r_25.2.1.1
          have lg_31_1 : g_31 1 = (tI M_26 2 6).toInt := p0r_25.2.1.2.1
          have lg_31_4 : g_31 4 = (tI M_26 1 4).toInt := p0r_25.2.2.1.1
          have lg_31_7 : g_31 7 = (tI M_26 t 4).toInt := p0r_25.2.2.2.1.1
          have lg_31_8 : g_31 8 = (tI M_26 t 5).toInt := p0r_25.2.2.2.1.2.1
          refine lv_aload_n hx hb dX4_readBoth_29 rfl (lv_at hl 1 rfl) ?_
          refine lv_iload_n hx hb dX4_readBoth_30 rfl (lv_at hl 2 rfl) ?_
          refine ti_callVvE (ci := 4) (av := [.int 2]) C hE hw (x_X4_readNegated_2 l D A cy hJ M_26 iM_26 t ht ((tT_fr q_27).trans f_16) lw hlw ((tT_fr q_27).trans f_17) B n g_31 p0r_25) ⟨ml_X4_175, ym_X4_readNegated, yv_X4_readNegated, yi_X4_readNegated, yc_X4_readNegated⟩ yd_X4_readNegated ob_1 (by decide) rfl rfl hl.1 (Nat.le_of_ble_eq_true rfl) ⟨by decide, by decide⟩ ⟨Nat.zero_le _, Nat.zero_le _⟩ dX4_readBoth_31 (fun M_33 H locs hp_33 hw => ?_)
          obtain ⟨iM_33, q_34, q_35, q_36, q_37, p0r_32⟩ := hp_33
          obtain ⟨g_38, eg_38⟩ : ∃ z : Nat → Int, z = pp_ng B n (pp_pt B n 6) g_31 := ⟨_, rfl⟩
          rw [← eg_38] at p0r_32
          have lg_38_0 : g_38 0 = (tI M_33 2 4).toInt := p0r_32.2.1.1
          have lg_38_1 : g_38 1 = (tI M_33 2 6).toInt := p0r_32.2.1.2.1
          have lg_38_4 : g_38 4 = (tI M_33 1 4).toInt := p0r_32.2.2.1.1
          have lg_38_7 : g_38 7 = (tI M_33 t 4).toInt := p0r_32.2.2.2.1.1
          have lg_38_8 : g_38 8 = (tI M_33 t 5).toInt := p0r_32.2.2.2.1.2.1
          refine lv_aload_n hx hb dX4_readBoth_34 rfl (lv_at hl 1 rfl) ?_
          refine ti_get (ci := 4) (k := 2) (N := 6) (T := TX4) (v := .ref (A lw 0)) C hw iw_4 rfl ob_1 (by decide) (by decide) fl_X4_154 rfl (ti_Tv ((tT_fr q_34).trans ((tT_fr q_27).trans f_17))) dX4_readBoth_35 ?_
          refine lv_bipush (v := (-22)) hx hb dX4_readBoth_38 (by decide) ?_
          refine ti_callVv (ci := 1) (av := [.int (-22)]) C hw (x_X1_add l D A cy hJ M_33 iM_33 lw hlw (-22) (by first | omega | exact Or.inl (by decide) | exact Or.inr (by decide)) t ht B n g_38 p0r_32) ⟨ml_X4_170, ym_X1_add, yv_X1_add, yi_X1_add, yc_X1_add⟩ yd_X1_add hlw (by decide) rfl rfl hl.1 (Nat.le_of_ble_eq_true rfl) ⟨by decide, by decide⟩ ⟨Nat.zero_le _, Nat.zero_le _⟩ dX4_readBoth_40 (fun M_40 H locs hp_40 hw => ?_)
          obtain ⟨iM_40, q_41, q_42, p0r_39⟩ := hp_40
          have lM_40_0 : g_38 0 = (tI M_40 2 4).toInt := p0r_39.2.1.1
          have lM_40_1 : g_38 1 = (tI M_40 2 6).toInt := p0r_39.2.1.2.1
          have lM_40_4 : g_38 4 = (tI M_40 1 4).toInt := p0r_39.2.2.1.1
          have lM_40_7 : g_38 7 = (tI M_40 t 4).toInt := p0r_39.2.2.2.1.1
          have lM_40_8 : g_38 8 = (tI M_40 t 5).toInt := p0r_39.2.2.2.1.2.1
          obtain ⟨x_43, ex_43⟩ : ∃ z : Int32, z = x_8 + 1 := ⟨_, rfl⟩
          have tx_43 : x_43.toInt = x_8.toInt + 1 := i_add ex_43 rfl (by decide) (by omega) (by omega)
          refine lv_iinc (v := x_43) (lv' := [(2, .int x_43), (0, .ref (A 1 0)), (1, .int 2)]) hx hb dX4_readBoth_43 hl (k := 0) rfl (by rw [ex_43]; rfl) (by decide) rfl (fun ls hl => ?_)
          refine lv_goto (tgt := 7) hx hb dX4_readBoth_46 (by decide) ?_
          exact ih_21 x_43 M_40 g_38 _ _ _ (by omega) (by first | omega | decide) (by first | omega | decide) iM_40 ((q_41).trans ((q_34).trans ((q_27).trans f_12))) (f0.trans (f0_x q_42) (f0.trans q_35 (f0.trans q_28 f_13))) (((q_42 1).2.1).trans ((q_36).trans ((q_29).trans f_14))) (ot.trans (ot_fx ht q_42) (ot.trans q_37 (ot.trans q_30 f_15))) ((tT_fr q_41).trans ((tT_fr q_34).trans ((tT_fr q_27).trans f_16))) ((tT_fr q_41).trans ((tT_fr q_34).trans ((tT_fr q_27).trans f_17))) p0r_39 (j_20.trans (lp_step (decide_eq_true (by omega)) (by rw [eg_38, eg_31]) (by omega))) hw (lv_sub hl [0, 1, 2] rfl)
  exact hl_7_20 ((64 - 0 : Int).toNat + 1) 0 M_2 g_7 _ _ _ (Nat.lt_succ_self _) (by have lt0 : (0 : Int32).toInt = 0 := (by decide); first | omega | decide) (by have lt0 : (0 : Int32).toInt = 0 := (by decide); first | omega | decide) iM_2 (q_3) q_4 (q_5) q_6 ((tT_fr q_3).trans hT) ((tT_fr q_3).trans hL) p0r_1 rfl hw (lv_sub hl [0, 1, 2] rfl)
set_option maxHeartbeats 4000000 in
set_option maxRecDepth 100000 in
theorem x_X4_readEither_2 (l : Launch) (D : va_G) (A : Nat → Nat → Nat) (cy : Nat → ClassId) (hJ : ti_inj ti_LT A) (M : ti_M) (hI : cI Tc M) (t : Nat) (ht : t = 3 ∨ t = 4) (hT : tT M 1 1 = some t) (lw : Nat) (hlw : ti_ob ti_LT lw 1) (hL : tT M 1 2 = some lw) (B : Nat → Int) (n : Nat) (rg : Nat → Int) (hr : rC B n t rg M) : ti_KvE l yX4_readEither cX4_readEither 3 56 ti_LT D A cy M [.ref (A 1 0), .int 2] (fun M2 => cI Tc M2 ∧ M2.2.2.2 = M.2.2.2 ∧ f0 M2 M ∧ tI M2 2 1 = tI M 2 1 ∧ ot t M2 M ∧ rC B n t (pp_ei B n (pp_pt B n 6) rg) M2) := by
  refine ti_eVE yp_X4_readEither hJ ti_LT_nd (Nat.le_of_ble_eq_true rfl) ?_
  intro p e s m args below meth c Q H0 C hE hQ hw ls hl
  have hx := C.1
  have hb := C.2.1
  have hl : lv_has ls 3 [(0, .ref (A 1 0)), (1, .int 2)] := hl
  have l0 : rg 0 = (tI M 2 4).toInt := hr.2.1.1
  have l1 : rg 1 = (tI M 2 6).toInt := hr.2.1.2.1
  have l2 : rg 2 = (tI M 2 5).toInt := hr.2.1.2.2.1
  have l3 : rg 3 = (tI M 2 3).toInt := hr.2.1.2.2.2
  have l4 : rg 4 = (tI M 1 4).toInt := hr.2.2.1.1
  have l5 : rg 5 = (tI M 1 5).toInt := hr.2.2.1.2.1
  have l7 : rg 7 = (tI M t 4).toInt := hr.2.2.2.1.1
  have l8 : rg 8 = (tI M t 5).toInt := hr.2.2.2.1.2.1
  have l9 : rg 9 = (tI M t 3).toInt := hr.2.2.2.1.2.2
  refine lv_aload_n hx hb dX4_readEither_0 rfl (lv_at hl 0 rfl) ?_
  refine lv_iload_n hx hb dX4_readEither_1 rfl (lv_at hl 1 rfl) ?_
  refine ti_callVvE (ci := 4) (av := [.int 2]) C hE hw (x_X4_readBoth_2 l D A cy hJ M hI t ht (hT) lw hlw (hL) B n rg hr) ⟨ml_X4_164, ym_X4_readBoth, yv_X4_readBoth, yi_X4_readBoth, yc_X4_readBoth⟩ yd_X4_readBoth ob_1 (by decide) rfl rfl hl.1 (Nat.le_of_ble_eq_true rfl) ⟨by decide, by decide⟩ ⟨Nat.zero_le _, Nat.zero_le _⟩ dX4_readEither_2 (fun M_2 H locs hp_2 hw => ?_)
  obtain ⟨iM_2, q_3, q_4, q_5, q_6, p0r_1⟩ := hp_2
  obtain ⟨g_7, eg_7⟩ : ∃ z : Nat → Int, z = pp_bo B n (pp_pt B n 6) rg := ⟨_, rfl⟩
  rw [← eg_7] at p0r_1
  have lg_7_0 : g_7 0 = (tI M_2 2 4).toInt := p0r_1.2.1.1
  have lg_7_1 : g_7 1 = (tI M_2 2 6).toInt := p0r_1.2.1.2.1
  have lg_7_4 : g_7 4 = (tI M_2 1 4).toInt := p0r_1.2.2.1.1
  have lg_7_7 : g_7 7 = (tI M_2 t 4).toInt := p0r_1.2.2.2.1.1
  have lg_7_8 : g_7 8 = (tI M_2 t 5).toInt := p0r_1.2.2.2.1.2.1
  refine lv_iconst (v := 0) hx hb dX4_readEither_5 (by decide) ?_
  refine lv_istore_n (lv' := [(2, .int 0), (0, .ref (A 1 0)), (1, .int 2)]) hx hb dX4_readEither_6 rfl hl (by decide) rfl (fun ls hl => ?_)
  have hl_7_20 : ∀ (n_21 : Nat) (x_8 : Int32) (M_11 : ti_M) (g_18 : Nat → Int) (H : Heap) (locs : List Loc) (ls : Array Slot), (64 - x_8.toInt : Int).toNat < n_21 → (0 ≤ x_8.toInt) → (x_8.toInt ≤ 64) → (cI Tc M_11) → (M_11.2.2.2 = M.2.2.2) → (f0 M_11 M) → (tI M_11 2 1 = tI M 2 1) → (ot t M_11 M) → (tT M_11 1 1 = (some t)) → (tT M_11 1 2 = (some lw)) → (rC B n t g_18 M_11) → (pp_lp pp_qO (fun s => pp_bo B n (pp_pt B n 6) (pp_kn B n s)) 64 g_7 = pp_lp pp_qO (fun s => pp_bo B n (pp_pt B n 6) (pp_kn B n s)) (64 - (x_8.toInt).toNat) g_18) → ti_H ti_LT D A cy H0 M_11 H locs → lv_has ls 3 [(2, .int x_8), (0, .ref (A 1 0)), (1, .int 2)] → W p l e (ti_rm 56) s m args below meth c H locs 0 0 Q (F0 m 7 ls []) := by
    intro n_21
    induction n_21 with
    | zero => intro x_8 M_11 g_18 H locs ls hf_21; exact absurd hf_21 (Nat.not_lt_zero _)
    | succ n_21 ih_21 =>
      intro x_8 M_11 g_18 H locs ls hf_21 b_9 b_10 iM_11 f_12 f_13 f_14 f_15 f_16 f_17 hs_19 j_20 hw hl
      have lg_18_0 : g_18 0 = (tI M_11 2 4).toInt := hs_19.2.1.1
      have lg_18_1 : g_18 1 = (tI M_11 2 6).toInt := hs_19.2.1.2.1
      have lg_18_4 : g_18 4 = (tI M_11 1 4).toInt := hs_19.2.2.1.1
      have lg_18_7 : g_18 7 = (tI M_11 t 4).toInt := hs_19.2.2.2.1.1
      have lg_18_8 : g_18 8 = (tI M_11 t 5).toInt := hs_19.2.2.2.1.2.1
      refine lv_iload_n hx hb dX4_readEither_7 rfl (lv_at hl 0 rfl) ?_
      refine lv_bipush (v := 64) hx hb dX4_readEither_8 (by decide) ?_
      refine sb_icmp_ge (tgt := 49) hx hb rfl (by decide : (64 : Int32).toInt = 64) dX4_readEither_10 (by decide) (fun c_10_21 => ?_) (fun c_10_21 => ?_)
      · exact hQ _ _ _ _ _ hw (⟨iM_11, (f_12), f_13, (f_14), f_15, (by unfold pp_ei; rw [← eg_7, j_20, lp_end (P := pp_qO) (f := 64 - x_8.toInt.toNat) (s := g_18) (Or.inl (by omega))]; exact hs_19)⟩) dX4_readEither_49
      · refine lv_aload_n hx hb dX4_readEither_13 rfl (lv_at hl 1 rfl) ?_
        refine ti_get (ci := 4) (k := 0) (N := 6) (T := TX4) (v := .ref (A 2 0)) C hw iw_4 rfl ob_1 (by decide) (by decide) fl_X4_12 rfl rfl dX4_readEither_14 ?_
        refine ti_get (ci := 7) (k := 4) (N := 7) (T := TX7) C hw iw_7 rfl ob_2 (by decide) (by decide) fl_X4_41 rfl rfl dX4_readEither_17 ?_
        refine lv_topi (fun x_23 ex_23 => ?_)
        have bx_23 : 0 ≤ x_23.toInt ∧ x_23.toInt ≤ 41 := cI_rd iM_11 ob_2.1 ex_23
        have ux_23 : (tI M_11 2 4).toInt = x_23.toInt := by rw [ex_23]
        refine lv_bipush (v := 23) hx hb dX4_readEither_20 (by decide) ?_
        refine sb_icmp_ne (tgt := 49) hx hb rfl (by decide : (23 : Int32).toInt = 23) dX4_readEither_22 (by decide) (fun c_22_23 => ?_) (fun c_22_23 => ?_)
        · exact hQ _ _ _ _ _ hw (⟨iM_11, (f_12), f_13, (f_14), f_15, (by unfold pp_ei; rw [← eg_7, j_20, lp_end (P := pp_qO) (f := 64 - x_8.toInt.toNat) (s := g_18) (Or.inr (decide_eq_false (by omega)))]; exact hs_19)⟩) dX4_readEither_49
        · refine lv_aload_n hx hb dX4_readEither_25 rfl (lv_at hl 1 rfl) ?_
          refine ti_callVvE (ci := 4) (av := []) C hE hw (x_X4_knot l D A cy hJ M_11 iM_11 t ht (f_16) B n g_18 hs_19) ⟨ml_X4_167, ym_X4_knot, yv_X4_knot, yi_X4_knot, yc_X4_knot⟩ yd_X4_knot ob_1 (by decide) rfl rfl hl.1 (Nat.le_of_ble_eq_true rfl) ⟨by decide, by decide⟩ ⟨Nat.zero_le _, Nat.zero_le _⟩ dX4_readEither_26 (fun M_26 H locs hp_26 hw => ?_)
          obtain ⟨iM_26, q_27, q_28, q_29, q_30, p0r_25⟩ := hp_26
          obtain ⟨g_31, eg_31⟩ : ∃ z : Nat → Int, z = pp_kn B n g_18 := ⟨_, rfl⟩
          rw [← eg_31] at p0r_25
          have lg_31_0 : g_31 0 = (tI M_26 2 4).toInt := p0r_25.2.1.1
          have lg_31_1 : g_31 1 = (tI M_26 2 6).toInt := p0r_25.2.1.2.1
          have lg_31_4 : g_31 4 = (tI M_26 1 4).toInt := p0r_25.2.2.1.1
          have lg_31_7 : g_31 7 = (tI M_26 t 4).toInt := p0r_25.2.2.2.1.1
          have lg_31_8 : g_31 8 = (tI M_26 t 5).toInt := p0r_25.2.2.2.1.2.1
          refine lv_aload_n hx hb dX4_readEither_29 rfl (lv_at hl 1 rfl) ?_
          refine lv_iload_n hx hb dX4_readEither_30 rfl (lv_at hl 2 rfl) ?_
          refine ti_callVvE (ci := 4) (av := [.int 2]) C hE hw (x_X4_readBoth_2 l D A cy hJ M_26 iM_26 t ht ((tT_fr q_27).trans f_16) lw hlw ((tT_fr q_27).trans f_17) B n g_31 p0r_25) ⟨ml_X4_164, ym_X4_readBoth, yv_X4_readBoth, yi_X4_readBoth, yc_X4_readBoth⟩ yd_X4_readBoth ob_1 (by decide) rfl rfl hl.1 (Nat.le_of_ble_eq_true rfl) ⟨by decide, by decide⟩ ⟨Nat.zero_le _, Nat.zero_le _⟩ dX4_readEither_31 (fun M_33 H locs hp_33 hw => ?_)
          obtain ⟨iM_33, q_34, q_35, q_36, q_37, p0r_32⟩ := hp_33
          obtain ⟨g_38, eg_38⟩ : ∃ z : Nat → Int, z = pp_bo B n (pp_pt B n 6) g_31 := ⟨_, rfl⟩
          rw [← eg_38] at p0r_32
          have lg_38_0 : g_38 0 = (tI M_33 2 4).toInt := p0r_32.2.1.1
          have lg_38_1 : g_38 1 = (tI M_33 2 6).toInt := p0r_32.2.1.2.1
          have lg_38_4 : g_38 4 = (tI M_33 1 4).toInt := p0r_32.2.2.1.1
          have lg_38_7 : g_38 7 = (tI M_33 t 4).toInt := p0r_32.2.2.2.1.1
          have lg_38_8 : g_38 8 = (tI M_33 t 5).toInt := p0r_32.2.2.2.1.2.1
          refine lv_aload_n hx hb dX4_readEither_34 rfl (lv_at hl 1 rfl) ?_
          refine ti_get (ci := 4) (k := 2) (N := 6) (T := TX4) (v := .ref (A lw 0)) C hw iw_4 rfl ob_1 (by decide) (by decide) fl_X4_154 rfl (ti_Tv ((tT_fr q_34).trans ((tT_fr q_27).trans f_17))) dX4_readEither_35 ?_
          refine lv_bipush (v := (-23)) hx hb dX4_readEither_38 (by decide) ?_
          refine ti_callVv (ci := 1) (av := [.int (-23)]) C hw (x_X1_add l D A cy hJ M_33 iM_33 lw hlw (-23) (by first | omega | exact Or.inl (by decide) | exact Or.inr (by decide)) t ht B n g_38 p0r_32) ⟨ml_X4_170, ym_X1_add, yv_X1_add, yi_X1_add, yc_X1_add⟩ yd_X1_add hlw (by decide) rfl rfl hl.1 (Nat.le_of_ble_eq_true rfl) ⟨by decide, by decide⟩ ⟨Nat.zero_le _, Nat.zero_le _⟩ dX4_readEither_40 (fun M_40 H locs hp_40 hw => ?_)
          obtain ⟨iM_40, q_41, q_42, p0r_39⟩ := hp_40
          have lM_40_0 : g_38 0 = (tI M_40 2 4).toInt := p0r_39.2.1.1
          have lM_40_1 : g_38 1 = (tI M_40 2 6).toInt := p0r_39.2.1.2.1
          have lM_40_4 : g_38 4 = (tI M_40 1 4).toInt := p0r_39.2.2.1.1
          have lM_40_7 : g_38 7 = (tI M_40 t 4).toInt := p0r_39.2.2.2.1.1
          have lM_40_8 : g_38 8 = (tI M_40 t 5).toInt := p0r_39.2.2.2.1.2.1
          obtain ⟨x_43, ex_43⟩ : ∃ z : Int32, z = x_8 + 1 := ⟨_, rfl⟩
          have tx_43 : x_43.toInt = x_8.toInt + 1 := i_add ex_43 rfl (by decide) (by omega) (by omega)
          refine lv_iinc (v := x_43) (lv' := [(2, .int x_43), (0, .ref (A 1 0)), (1, .int 2)]) hx hb dX4_readEither_43 hl (k := 0) rfl (by rw [ex_43]; rfl) (by decide) rfl (fun ls hl => ?_)
          refine lv_goto (tgt := 7) hx hb dX4_readEither_46 (by decide) ?_
          exact ih_21 x_43 M_40 g_38 _ _ _ (by omega) (by first | omega | decide) (by first | omega | decide) iM_40 ((q_41).trans ((q_34).trans ((q_27).trans f_12))) (f0.trans (f0_x q_42) (f0.trans q_35 (f0.trans q_28 f_13))) (((q_42 1).2.1).trans ((q_36).trans ((q_29).trans f_14))) (ot.trans (ot_fx ht q_42) (ot.trans q_37 (ot.trans q_30 f_15))) ((tT_fr q_41).trans ((tT_fr q_34).trans ((tT_fr q_27).trans f_16))) ((tT_fr q_41).trans ((tT_fr q_34).trans ((tT_fr q_27).trans f_17))) p0r_39 (j_20.trans (lp_step (decide_eq_true (by omega)) (by rw [eg_38, eg_31]) (by omega))) hw (lv_sub hl [0, 1, 2] rfl)
  exact hl_7_20 ((64 - 0 : Int).toNat + 1) 0 M_2 g_7 _ _ _ (Nat.lt_succ_self _) (by have lt0 : (0 : Int32).toInt = 0 := (by decide); first | omega | decide) (by have lt0 : (0 : Int32).toInt = 0 := (by decide); first | omega | decide) iM_2 (q_3) q_4 (q_5) q_6 ((tT_fr q_3).trans hT) ((tT_fr q_3).trans hL) p0r_1 rfl hw (lv_sub hl [0, 1, 2] rfl)
set_option maxHeartbeats 4000000 in
set_option maxRecDepth 100000 in
theorem x_X4_readPart_1 (l : Launch) (D : va_G) (A : Nat → Nat → Nat) (cy : Nat → ClassId) (hJ : ti_inj ti_LT A) (M : ti_M) (hI : cI Tc M) (t : Nat) (ht : t = 3 ∨ t = 4) (hT : tT M 1 1 = some t) (lw : Nat) (hlw : ti_ob ti_LT lw 1) (hL : tT M 1 2 = some lw) (B : Nat → Int) (n : Nat) (rg : Nat → Int) (hr : rC B n t rg M) : ti_KvE l yX4_readPart cX4_readPart 3 57 ti_LT D A cy M [.ref (A 1 0), .int 1] (fun M2 => cI Tc M2 ∧ M2.2.2.2 = M.2.2.2 ∧ f0 M2 M ∧ tI M2 2 1 = tI M 2 1 ∧ ot t M2 M ∧ rC B n t (pp_pt B n 7 rg) M2) := by
  refine ti_eVE yp_X4_readPart hJ ti_LT_nd (Nat.le_of_ble_eq_true rfl) ?_
  intro p e s m args below meth c Q H0 C hE hQ hw ls hl
  have hx := C.1
  have hb := C.2.1
  have hl : lv_has ls 3 [(0, .ref (A 1 0)), (1, .int 1)] := hl
  have l0 : rg 0 = (tI M 2 4).toInt := hr.2.1.1
  have l1 : rg 1 = (tI M 2 6).toInt := hr.2.1.2.1
  have l2 : rg 2 = (tI M 2 5).toInt := hr.2.1.2.2.1
  have l3 : rg 3 = (tI M 2 3).toInt := hr.2.1.2.2.2
  have l4 : rg 4 = (tI M 1 4).toInt := hr.2.2.1.1
  have l5 : rg 5 = (tI M 1 5).toInt := hr.2.2.1.2.1
  have l7 : rg 7 = (tI M t 4).toInt := hr.2.2.2.1.1
  have l8 : rg 8 = (tI M t 5).toInt := hr.2.2.2.1.2.1
  have l9 : rg 9 = (tI M t 3).toInt := hr.2.2.2.1.2.2
  refine lv_aload_n hx hb dX4_readPart_0 rfl (lv_at hl 0 rfl) ?_
  refine ti_get (ci := 4) (k := 0) (N := 6) (T := TX4) (v := .ref (A 2 0)) C hw iw_4 rfl ob_1 (by decide) (by decide) fl_X4_12 rfl rfl dX4_readPart_1 ?_
  refine ti_get (ci := 7) (k := 4) (N := 7) (T := TX7) C hw iw_7 rfl ob_2 (by decide) (by decide) fl_X4_41 rfl rfl dX4_readPart_4 ?_
  refine lv_topi (fun x_1 ex_1 => ?_)
  have bx_1 : 0 ≤ x_1.toInt ∧ x_1.toInt ≤ 41 := cI_rd hI ob_2.1 ex_1
  have ux_1 : (tI M 2 4).toInt = x_1.toInt := by rw [ex_1]
  refine lv_istore_n (lv' := [(2, .int x_1), (0, .ref (A 1 0)), (1, .int 1)]) hx hb dX4_readPart_7 rfl hl (by decide) rfl (fun ls hl => ?_)
  refine lv_iload_n hx hb dX4_readPart_8 rfl (lv_at hl 0 rfl) ?_
  refine lv_bipush (v := 30) hx hb dX4_readPart_9 (by decide) ?_
  refine sb_icmp_ne (tgt := 28) hx hb rfl (by decide : (30 : Int32).toInt = 30) dX4_readPart_11 (by decide) (fun c_11_1 => ?_) (fun c_11_1 => ?_)
  · refine lv_iload_n hx hb dX4_readPart_28 rfl (lv_at hl 0 rfl) ?_
    refine lv_bipush (v := 30) hx hb dX4_readPart_29 (by decide) ?_
    refine sb_icmp_ne (tgt := 57) hx hb rfl (by decide : (30 : Int32).toInt = 30) dX4_readPart_31 (by decide) (fun c_31_3 => ?_) (fun h => by omega)
    refine lv_iload_n hx hb dX4_readPart_57 rfl (lv_at hl 0 rfl) ?_
    refine lv_bipush (v := 26) hx hb dX4_readPart_58 (by decide) ?_
    refine sb_icmp_ne (tgt := 84) hx hb rfl (by decide : (26 : Int32).toInt = 26) dX4_readPart_60 (by decide) (fun c_60_26 => ?_) (fun c_60_26 => ?_)
    · refine lv_iload_n hx hb dX4_readPart_84 rfl (lv_at hl 0 rfl) ?_
      refine lv_bipush (v := 26) hx hb dX4_readPart_85 (by decide) ?_
      refine sb_icmp_ne (tgt := 111) hx hb rfl (by decide : (26 : Int32).toInt = 26) dX4_readPart_87 (by decide) (fun c_87_35 => ?_) (fun h => by omega)
      refine lv_iload_n hx hb dX4_readPart_111 rfl (lv_at hl 0 rfl) ?_
      refine lv_bipush (v := 16) hx hb dX4_readPart_112 (by decide) ?_
      refine sb_icmp_lt (tgt := 139) hx hb rfl (by decide : (16 : Int32).toInt = 16) dX4_readPart_114 (by decide) (fun c_114_49 => ?_) (fun c_114_49 => ?_)
      · refine lv_aload_n hx hb dX4_readPart_139 rfl (lv_at hl 1 rfl) ?_
        refine lv_iconst (v := 1) hx hb dX4_readPart_140 (by decide) ?_
        refine ti_callVv (ci := 4) (av := [.int 1]) C hw (x_X4_refuse l D A cy hJ M hI t ht 1 B n rg hr) ⟨ml_X4_82, ym_X4_refuse, yv_X4_refuse, yi_X4_refuse, yc_X4_refuse⟩ yd_X4_refuse ob_1 (by decide) rfl rfl hl.1 (Nat.le_of_ble_eq_true rfl) ⟨by decide, by decide⟩ ⟨Nat.zero_le _, Nat.zero_le _⟩ dX4_readPart_141 (fun M_65 H locs hp_65 hw => ?_)
        obtain ⟨iM_65, q_66, q_67, q_68, p0r_64⟩ := hp_65
        have hlr_64_1 : (1 : Int32).toInt = 1 := by decide
        simp only [hlr_64_1] at p0r_64
        obtain ⟨g_69, eg_69⟩ : ∃ z : Nat → Int, z = pp_rf 1 rg := ⟨_, rfl⟩
        rw [← eg_69] at p0r_64
        have lg_69_0 : g_69 0 = (tI M_65 2 4).toInt := p0r_64.2.1.1
        have lg_69_1 : g_69 1 = (tI M_65 2 6).toInt := p0r_64.2.1.2.1
        have lg_69_4 : g_69 4 = (tI M_65 1 4).toInt := p0r_64.2.2.1.1
        have lg_69_7 : g_69 7 = (tI M_65 t 4).toInt := p0r_64.2.2.2.1.1
        have lg_69_8 : g_69 8 = (tI M_65 t 5).toInt := p0r_64.2.2.2.1.2.1
        exact hQ _ _ _ _ _ hw (⟨iM_65, (q_66), (f0_12 q_67), (q_68), (ot_12 ht q_67), (by rw [pe_7, if_neg (by omega)]; unfold pp_p0; rw [if_neg (by omega), if_neg (fun q => by omega), ← eg_69]; exact p0r_64)⟩) dX4_readPart_144
      · refine lv_iload_n hx hb dX4_readPart_117 rfl (lv_at hl 0 rfl) ?_
        refine lv_bipush (v := 21) hx hb dX4_readPart_118 (by decide) ?_
        refine sb_icmp_gt (tgt := 139) hx hb rfl (by decide : (21 : Int32).toInt = 21) dX4_readPart_120 (by decide) (fun c_120_50 => ?_) (fun c_120_50 => ?_)
        · refine lv_aload_n hx hb dX4_readPart_139 rfl (lv_at hl 1 rfl) ?_
          refine lv_iconst (v := 1) hx hb dX4_readPart_140 (by decide) ?_
          refine ti_callVv (ci := 4) (av := [.int 1]) C hw (x_X4_refuse l D A cy hJ M hI t ht 1 B n rg hr) ⟨ml_X4_82, ym_X4_refuse, yv_X4_refuse, yi_X4_refuse, yc_X4_refuse⟩ yd_X4_refuse ob_1 (by decide) rfl rfl hl.1 (Nat.le_of_ble_eq_true rfl) ⟨by decide, by decide⟩ ⟨Nat.zero_le _, Nat.zero_le _⟩ dX4_readPart_141 (fun M_71 H locs hp_71 hw => ?_)
          obtain ⟨iM_71, q_72, q_73, q_74, p0r_70⟩ := hp_71
          have hlr_70_1 : (1 : Int32).toInt = 1 := by decide
          simp only [hlr_70_1] at p0r_70
          obtain ⟨g_75, eg_75⟩ : ∃ z : Nat → Int, z = pp_rf 1 rg := ⟨_, rfl⟩
          rw [← eg_75] at p0r_70
          have lg_75_0 : g_75 0 = (tI M_71 2 4).toInt := p0r_70.2.1.1
          have lg_75_1 : g_75 1 = (tI M_71 2 6).toInt := p0r_70.2.1.2.1
          have lg_75_4 : g_75 4 = (tI M_71 1 4).toInt := p0r_70.2.2.1.1
          have lg_75_7 : g_75 7 = (tI M_71 t 4).toInt := p0r_70.2.2.2.1.1
          have lg_75_8 : g_75 8 = (tI M_71 t 5).toInt := p0r_70.2.2.2.1.2.1
          exact hQ _ _ _ _ _ hw (⟨iM_71, (q_72), (f0_12 q_73), (q_74), (ot_12 ht q_73), (by rw [pe_7, if_neg (by omega)]; unfold pp_p0; rw [if_neg (by omega), if_neg (fun q => by omega), ← eg_75]; exact p0r_70)⟩) dX4_readPart_144
        · refine lv_aload_n hx hb dX4_readPart_123 rfl (lv_at hl 1 rfl) ?_
          refine ti_get (ci := 4) (k := 2) (N := 6) (T := TX4) (v := .ref (A lw 0)) C hw iw_4 rfl ob_1 (by decide) (by decide) fl_X4_154 rfl (ti_Tv (hL)) dX4_readPart_124 ?_
          refine lv_iload_n hx hb dX4_readPart_127 rfl (lv_at hl 0 rfl) ?_
          refine lv_ineg hx hb dX4_readPart_128 ?_
          refine lv_topi (fun x_52 ex_52 => ?_)
          have tx_52 : x_52.toInt = -x_1.toInt := i_neg ex_52 rfl (by omega)
          refine ti_callVv (ci := 1) (av := [.int x_52]) C hw (x_X1_add l D A cy hJ M hI lw hlw x_52 (by first | omega | exact Or.inl (by decide) | exact Or.inr (by decide)) t ht B n rg hr) ⟨ml_X4_170, ym_X1_add, yv_X1_add, yi_X1_add, yc_X1_add⟩ yd_X1_add hlw (by decide) rfl rfl hl.1 (Nat.le_of_ble_eq_true rfl) ⟨by decide, by decide⟩ ⟨Nat.zero_le _, Nat.zero_le _⟩ dX4_readPart_129 (fun M_54 H locs hp_54 hw => ?_)
          obtain ⟨iM_54, q_55, q_56, p0r_53⟩ := hp_54
          have lM_54_0 : rg 0 = (tI M_54 2 4).toInt := p0r_53.2.1.1
          have lM_54_1 : rg 1 = (tI M_54 2 6).toInt := p0r_53.2.1.2.1
          have lM_54_4 : rg 4 = (tI M_54 1 4).toInt := p0r_53.2.2.1.1
          have lM_54_7 : rg 7 = (tI M_54 t 4).toInt := p0r_53.2.2.2.1.1
          have lM_54_8 : rg 8 = (tI M_54 t 5).toInt := p0r_53.2.2.2.1.2.1
          refine lv_aload_n hx hb dX4_readPart_132 rfl (lv_at hl 1 rfl) ?_
          refine ti_callVvE (ci := 4) (av := []) C hE hw (x_X4_knot l D A cy hJ M_54 iM_54 t ht ((tT_fr q_55).trans hT) B n rg p0r_53) ⟨ml_X4_167, ym_X4_knot, yv_X4_knot, yi_X4_knot, yc_X4_knot⟩ yd_X4_knot ob_1 (by decide) rfl rfl hl.1 (Nat.le_of_ble_eq_true rfl) ⟨by decide, by decide⟩ ⟨Nat.zero_le _, Nat.zero_le _⟩ dX4_readPart_133 (fun M_58 H locs hp_58 hw => ?_)
          obtain ⟨iM_58, q_59, q_60, q_61, q_62, p0r_57⟩ := hp_58
          obtain ⟨g_63, eg_63⟩ : ∃ z : Nat → Int, z = pp_kn B n rg := ⟨_, rfl⟩
          rw [← eg_63] at p0r_57
          have lg_63_0 : g_63 0 = (tI M_58 2 4).toInt := p0r_57.2.1.1
          have lg_63_1 : g_63 1 = (tI M_58 2 6).toInt := p0r_57.2.1.2.1
          have lg_63_4 : g_63 4 = (tI M_58 1 4).toInt := p0r_57.2.2.1.1
          have lg_63_7 : g_63 7 = (tI M_58 t 4).toInt := p0r_57.2.2.2.1.1
          have lg_63_8 : g_63 8 = (tI M_58 t 5).toInt := p0r_57.2.2.2.1.2.1
          refine lv_goto (tgt := 144) hx hb dX4_readPart_136 (by decide) ?_
          exact hQ _ _ _ _ _ hw (⟨iM_58, ((q_59).trans q_55), (f0.trans q_60 (f0_x q_56)), ((q_61).trans ((q_56 1).2.1)), (ot.trans q_62 (ot_fx ht q_56)), (by rw [pe_7, if_neg (by omega)]; unfold pp_p0; rw [if_neg (by omega), if_pos ⟨by omega, by omega⟩, ← eg_63]; exact p0r_57)⟩) dX4_readPart_144
    · refine lv_aload_n hx hb dX4_readPart_63 rfl (lv_at hl 1 rfl) ?_
      refine ti_get (ci := 4) (k := 0) (N := 6) (T := TX4) (v := .ref (A 2 0)) C hw iw_4 rfl ob_1 (by decide) (by decide) fl_X4_12 rfl rfl dX4_readPart_64 ?_
      refine ti_get (ci := 7) (k := 6) (N := 7) (T := TX7) C hw iw_7 rfl ob_2 (by decide) (by decide) fl_X4_95 rfl rfl dX4_readPart_67 ?_
      refine lv_topi (fun x_28 ex_28 => ?_)
      have bx_28 : 0 ≤ x_28.toInt ∧ x_28.toInt ≤ 2147483647 := cI_rd hI ob_2.1 ex_28
      have ux_28 : (tI M 2 6).toInt = x_28.toInt := by rw [ex_28]
      refine lv_sipush (v := 9999) hx hb dX4_readPart_70 (by decide) ?_
      refine sb_icmp_le (tgt := 84) hx hb rfl (by decide : (9999 : Int32).toInt = 9999) dX4_readPart_73 (by decide) (fun c_73_28 => ?_) (fun c_73_28 => ?_)
      · refine lv_iload_n hx hb dX4_readPart_84 rfl (lv_at hl 0 rfl) ?_
        refine lv_bipush (v := 26) hx hb dX4_readPart_85 (by decide) ?_
        refine sb_icmp_ne (tgt := 111) hx hb rfl (by decide : (26 : Int32).toInt = 26) dX4_readPart_87 (by decide) (fun h => by omega) (fun c_87_36 => ?_)
        refine lv_aload_n hx hb dX4_readPart_90 rfl (lv_at hl 1 rfl) ?_
        refine ti_get (ci := 4) (k := 2) (N := 6) (T := TX4) (v := .ref (A lw 0)) C hw iw_4 rfl ob_1 (by decide) (by decide) fl_X4_154 rfl (ti_Tv (hL)) dX4_readPart_91 ?_
        refine lv_aload_n hx hb dX4_readPart_94 rfl (lv_at hl 1 rfl) ?_
        refine ti_get (ci := 4) (k := 0) (N := 6) (T := TX4) (v := .ref (A 2 0)) C hw iw_4 rfl ob_1 (by decide) (by decide) fl_X4_12 rfl rfl dX4_readPart_95 ?_
        refine ti_get (ci := 7) (k := 6) (N := 7) (T := TX7) C hw iw_7 rfl ob_2 (by decide) (by decide) fl_X4_95 rfl rfl dX4_readPart_98 ?_
        refine ti_top (y := x_28) (ex_28.symm) ?_
        have u_38 : (tI M 2 6).toInt = (x_28 : Int32).toInt := by rw [(ex_28.symm)]
        refine ti_callVv (ci := 1) (av := [.int x_28]) C hw (x_X1_add l D A cy hJ M hI lw hlw x_28 (by first | omega | exact Or.inl (by decide) | exact Or.inr (by decide)) t ht B n rg hr) ⟨ml_X4_170, ym_X1_add, yv_X1_add, yi_X1_add, yc_X1_add⟩ yd_X1_add hlw (by decide) rfl rfl hl.1 (Nat.le_of_ble_eq_true rfl) ⟨by decide, by decide⟩ ⟨Nat.zero_le _, Nat.zero_le _⟩ dX4_readPart_101 (fun M_40 H locs hp_40 hw => ?_)
        obtain ⟨iM_40, q_41, q_42, p0r_39⟩ := hp_40
        have lM_40_0 : rg 0 = (tI M_40 2 4).toInt := p0r_39.2.1.1
        have lM_40_1 : rg 1 = (tI M_40 2 6).toInt := p0r_39.2.1.2.1
        have lM_40_4 : rg 4 = (tI M_40 1 4).toInt := p0r_39.2.2.1.1
        have lM_40_7 : rg 7 = (tI M_40 t 4).toInt := p0r_39.2.2.2.1.1
        have lM_40_8 : rg 8 = (tI M_40 t 5).toInt := p0r_39.2.2.2.1.2.1
        refine lv_aload_n hx hb dX4_readPart_104 rfl (lv_at hl 1 rfl) ?_
        refine ti_callVvE (ci := 4) (av := []) C hE hw (x_X4_knot l D A cy hJ M_40 iM_40 t ht ((tT_fr q_41).trans hT) B n rg p0r_39) ⟨ml_X4_167, ym_X4_knot, yv_X4_knot, yi_X4_knot, yc_X4_knot⟩ yd_X4_knot ob_1 (by decide) rfl rfl hl.1 (Nat.le_of_ble_eq_true rfl) ⟨by decide, by decide⟩ ⟨Nat.zero_le _, Nat.zero_le _⟩ dX4_readPart_105 (fun M_44 H locs hp_44 hw => ?_)
        obtain ⟨iM_44, q_45, q_46, q_47, q_48, p0r_43⟩ := hp_44
        obtain ⟨g_49, eg_49⟩ : ∃ z : Nat → Int, z = pp_kn B n rg := ⟨_, rfl⟩
        rw [← eg_49] at p0r_43
        have lg_49_0 : g_49 0 = (tI M_44 2 4).toInt := p0r_43.2.1.1
        have lg_49_1 : g_49 1 = (tI M_44 2 6).toInt := p0r_43.2.1.2.1
        have lg_49_4 : g_49 4 = (tI M_44 1 4).toInt := p0r_43.2.2.1.1
        have lg_49_7 : g_49 7 = (tI M_44 t 4).toInt := p0r_43.2.2.2.1.1
        have lg_49_8 : g_49 8 = (tI M_44 t 5).toInt := p0r_43.2.2.2.1.2.1
        refine lv_goto (tgt := 144) hx hb dX4_readPart_108 (by decide) ?_
        exact hQ _ _ _ _ _ hw (⟨iM_44, ((q_45).trans q_41), (f0.trans q_46 (f0_x q_42)), ((q_47).trans ((q_42 1).2.1)), (ot.trans q_48 (ot_fx ht q_42)), (by rw [pe_7, if_neg (by omega)]; unfold pp_p0; rw [if_pos (by omega), if_neg (by omega), ← eg_49]; exact p0r_43)⟩) dX4_readPart_144
      · refine lv_aload_n hx hb dX4_readPart_76 rfl (lv_at hl 1 rfl) ?_
        refine lv_iconst (v := 2) hx hb dX4_readPart_77 (by decide) ?_
        refine ti_callVv (ci := 4) (av := [.int 2]) C hw (x_X4_refuse l D A cy hJ M hI t ht 2 B n rg hr) ⟨ml_X4_82, ym_X4_refuse, yv_X4_refuse, yi_X4_refuse, yc_X4_refuse⟩ yd_X4_refuse ob_1 (by decide) rfl rfl hl.1 (Nat.le_of_ble_eq_true rfl) ⟨by decide, by decide⟩ ⟨Nat.zero_le _, Nat.zero_le _⟩ dX4_readPart_78 (fun M_31 H locs hp_31 hw => ?_)
        obtain ⟨iM_31, q_32, q_33, q_34, p0r_30⟩ := hp_31
        have hlr_30_2 : (2 : Int32).toInt = 2 := by decide
        simp only [hlr_30_2] at p0r_30
        obtain ⟨g_35, eg_35⟩ : ∃ z : Nat → Int, z = pp_rf 2 rg := ⟨_, rfl⟩
        rw [← eg_35] at p0r_30
        have lg_35_0 : g_35 0 = (tI M_31 2 4).toInt := p0r_30.2.1.1
        have lg_35_1 : g_35 1 = (tI M_31 2 6).toInt := p0r_30.2.1.2.1
        have lg_35_4 : g_35 4 = (tI M_31 1 4).toInt := p0r_30.2.2.1.1
        have lg_35_7 : g_35 7 = (tI M_31 t 4).toInt := p0r_30.2.2.2.1.1
        have lg_35_8 : g_35 8 = (tI M_31 t 5).toInt := p0r_30.2.2.2.1.2.1
        refine lv_goto (tgt := 144) hx hb dX4_readPart_81 (by decide) ?_
        exact hQ _ _ _ _ _ hw (⟨iM_31, (q_32), (f0_12 q_33), (q_34), (ot_12 ht q_33), (by rw [pe_7, if_neg (by omega)]; unfold pp_p0; rw [if_pos (by omega), if_pos (by omega), ← eg_35]; exact p0r_30)⟩) dX4_readPart_144
  · refine lv_iload_n hx hb dX4_readPart_14 rfl (lv_at hl 2 rfl) ?_
    refine lv_bipush (v := 8) hx hb dX4_readPart_15 (by decide) ?_
    refine sb_icmp_lt (tgt := 28) hx hb (by decide : (1 : Int32).toInt = 1) (by decide : (8 : Int32).toInt = 8) dX4_readPart_17 (by decide) (fun c_17_2 => ?_) (fun h => absurd h (by decide))
    refine lv_iload_n hx hb dX4_readPart_28 rfl (lv_at hl 0 rfl) ?_
    refine lv_bipush (v := 30) hx hb dX4_readPart_29 (by decide) ?_
    refine sb_icmp_ne (tgt := 57) hx hb rfl (by decide : (30 : Int32).toInt = 30) dX4_readPart_31 (by decide) (fun h => by omega) (fun c_31_4 => ?_)
    refine lv_aload_n hx hb dX4_readPart_34 rfl (lv_at hl 1 rfl) ?_
    refine ti_get (ci := 4) (k := 0) (N := 6) (T := TX4) (v := .ref (A 2 0)) C hw iw_4 rfl ob_1 (by decide) (by decide) fl_X4_12 rfl rfl dX4_readPart_35 ?_
    refine ti_callVvE (ci := 7) (av := []) C hE hw (x_X7_advance l D A cy hJ M hI ) ⟨ml_X4_92, ym_X7_advance, yv_X7_advance, yi_X7_advance, yc_X7_advance⟩ yd_X7_advance ob_2 (by decide) rfl rfl hl.1 (Nat.le_of_ble_eq_true rfl) ⟨by decide, by decide⟩ ⟨Nat.zero_le _, Nat.zero_le _⟩ dX4_readPart_38 (fun M_7 H locs hp_7 hw => ?_)
    obtain ⟨iM_7, q_8, q_9, q_10, q_11, p0r_6, p1r_6, p2r_6, p3r_6⟩ := hp_7
    have hs_12 := rC_av ht hr q_11 q_9 p0r_6 p1r_6 p2r_6 p3r_6
    obtain ⟨g_13, eg_13⟩ : ∃ z : Nat → Int, z = pp_av B n rg := ⟨_, rfl⟩
    rw [← eg_13] at hs_12
    have lg_13_0 : g_13 0 = (tI M_7 2 4).toInt := hs_12.2.1.1
    have lg_13_1 : g_13 1 = (tI M_7 2 6).toInt := hs_12.2.1.2.1
    have lg_13_4 : g_13 4 = (tI M_7 1 4).toInt := hs_12.2.2.1.1
    have lg_13_7 : g_13 7 = (tI M_7 t 4).toInt := hs_12.2.2.2.1.1
    have lg_13_8 : g_13 8 = (tI M_7 t 5).toInt := hs_12.2.2.2.1.2.1
    refine lv_aload_n hx hb dX4_readPart_41 rfl (lv_at hl 1 rfl) ?_
    refine lv_iload_n hx hb dX4_readPart_42 rfl (lv_at hl 2 rfl) ?_
    refine lv_iconst (v := 1) hx hb dX4_readPart_43 (by decide) ?_
    refine lv_iadd hx hb dX4_readPart_44 ?_
    refine ti_top (y := 2) (by decide) ?_
    refine ti_callVvE (ci := 4) (av := [.int 2]) C hE hw (x_X4_readEither_2 l D A cy hJ M_7 iM_7 t ht ((tT_fr q_8).trans hT) lw hlw ((tT_fr q_8).trans hL) B n g_13 hs_12) ⟨ml_X4_158, ym_X4_readEither, yv_X4_readEither, yi_X4_readEither, yc_X4_readEither⟩ yd_X4_readEither ob_1 (by decide) rfl rfl hl.1 (Nat.le_of_ble_eq_true rfl) ⟨by decide, by decide⟩ ⟨Nat.zero_le _, Nat.zero_le _⟩ dX4_readPart_45 (fun M_15 H locs hp_15 hw => ?_)
    obtain ⟨iM_15, q_16, q_17, q_18, q_19, p0r_14⟩ := hp_15
    obtain ⟨g_20, eg_20⟩ : ∃ z : Nat → Int, z = pp_ei B n (pp_pt B n 6) g_13 := ⟨_, rfl⟩
    rw [← eg_20] at p0r_14
    have lg_20_0 : g_20 0 = (tI M_15 2 4).toInt := p0r_14.2.1.1
    have lg_20_1 : g_20 1 = (tI M_15 2 6).toInt := p0r_14.2.1.2.1
    have lg_20_4 : g_20 4 = (tI M_15 1 4).toInt := p0r_14.2.2.1.1
    have lg_20_7 : g_20 7 = (tI M_15 t 4).toInt := p0r_14.2.2.2.1.1
    have lg_20_8 : g_20 8 = (tI M_15 t 5).toInt := p0r_14.2.2.2.1.2.1
    refine lv_aload_n hx hb dX4_readPart_48 rfl (lv_at hl 1 rfl) ?_
    refine lv_bipush (v := 31) hx hb dX4_readPart_49 (by decide) ?_
    refine ti_callVvE (ci := 4) (av := [.int 31]) C hE hw (x_X4_take l D A cy hJ M_15 iM_15 t ht 31 B n g_20 p0r_14) ⟨ml_X4_85, ym_X4_take, yv_X4_take, yi_X4_take, yc_X4_take⟩ yd_X4_take ob_1 (by decide) rfl rfl hl.1 (Nat.le_of_ble_eq_true rfl) ⟨by decide, by decide⟩ ⟨Nat.zero_le _, Nat.zero_le _⟩ dX4_readPart_51 (fun M_22 H locs hp_22 hw => ?_)
    obtain ⟨iM_22, q_23, q_24, q_25, p0r_21⟩ := hp_22
    have hlr_21_31 : (31 : Int32).toInt = 31 := by decide
    simp only [hlr_21_31] at p0r_21
    obtain ⟨g_26, eg_26⟩ : ∃ z : Nat → Int, z = pp_tk B n 31 g_20 := ⟨_, rfl⟩
    rw [← eg_26] at p0r_21
    have lg_26_0 : g_26 0 = (tI M_22 2 4).toInt := p0r_21.2.1.1
    have lg_26_1 : g_26 1 = (tI M_22 2 6).toInt := p0r_21.2.1.2.1
    have lg_26_4 : g_26 4 = (tI M_22 1 4).toInt := p0r_21.2.2.1.1
    have lg_26_7 : g_26 7 = (tI M_22 t 4).toInt := p0r_21.2.2.2.1.1
    have lg_26_8 : g_26 8 = (tI M_22 t 5).toInt := p0r_21.2.2.2.1.2.1
    refine lv_goto (tgt := 144) hx hb dX4_readPart_54 (by decide) ?_
    exact hQ _ _ _ _ _ hw (⟨iM_22, ((q_23).trans ((q_16).trans q_8)), (f0.trans (f0_12 q_24) (f0.trans q_17 (f0_12 (o2_12 q_9)))), ((q_25).trans ((q_18).trans q_10)), (ot.trans (ot_12 ht q_24) (ot.trans q_19 (ot_12 ht (o2_12 q_9)))), (by rw [pe_7, if_pos (by omega), ← eg_13, ← eg_20, ← eg_26]; exact p0r_21)⟩) dX4_readPart_144
set_option maxHeartbeats 4000000 in
set_option maxRecDepth 100000 in
theorem x_X4_readProduct_1 (l : Launch) (D : va_G) (A : Nat → Nat → Nat) (cy : Nat → ClassId) (hJ : ti_inj ti_LT A) (M : ti_M) (hI : cI Tc M) (t : Nat) (ht : t = 3 ∨ t = 4) (hT : tT M 1 1 = some t) (lw : Nat) (hlw : ti_ob ti_LT lw 1) (hL : tT M 1 2 = some lw) (B : Nat → Int) (n : Nat) (rg : Nat → Int) (hr : rC B n t rg M) : ti_KvE l yX4_readProduct cX4_readProduct 4 58 ti_LT D A cy M [.ref (A 1 0), .int 1] (fun M2 => cI Tc M2 ∧ M2.2.2.2 = M.2.2.2 ∧ f0 M2 M ∧ tI M2 2 1 = tI M 2 1 ∧ ot t M2 M ∧ rC B n t (pp_pd B n (pp_pt B n 7) rg) M2) := by
  refine ti_eVE yp_X4_readProduct hJ ti_LT_nd (Nat.le_of_ble_eq_true rfl) ?_
  intro p e s m args below meth c Q H0 C hE hQ hw ls hl
  have hx := C.1
  have hb := C.2.1
  have hl : lv_has ls 4 [(0, .ref (A 1 0)), (1, .int 1)] := hl
  have l0 : rg 0 = (tI M 2 4).toInt := hr.2.1.1
  have l1 : rg 1 = (tI M 2 6).toInt := hr.2.1.2.1
  have l2 : rg 2 = (tI M 2 5).toInt := hr.2.1.2.2.1
  have l3 : rg 3 = (tI M 2 3).toInt := hr.2.1.2.2.2
  have l4 : rg 4 = (tI M 1 4).toInt := hr.2.2.1.1
  have l5 : rg 5 = (tI M 1 5).toInt := hr.2.2.1.2.1
  have l7 : rg 7 = (tI M t 4).toInt := hr.2.2.2.1.1
  have l8 : rg 8 = (tI M t 5).toInt := hr.2.2.2.1.2.1
  have l9 : rg 9 = (tI M t 3).toInt := hr.2.2.2.1.2.2
  refine lv_aload_n hx hb dX4_readProduct_0 rfl (lv_at hl 0 rfl) ?_
  refine lv_iload_n hx hb dX4_readProduct_1 rfl (lv_at hl 1 rfl) ?_
  refine ti_callVvE (ci := 4) (av := [.int 1]) C hE hw (x_X4_readPart_1 l D A cy hJ M hI t ht (hT) lw hlw (hL) B n rg hr) ⟨ml_X4_187, ym_X4_readPart, yv_X4_readPart, yi_X4_readPart, yc_X4_readPart⟩ yd_X4_readPart ob_1 (by decide) rfl rfl hl.1 (Nat.le_of_ble_eq_true rfl) ⟨by decide, by decide⟩ ⟨Nat.zero_le _, Nat.zero_le _⟩ dX4_readProduct_2 (fun M_2 H locs hp_2 hw => ?_)
  obtain ⟨iM_2, q_3, q_4, q_5, q_6, p0r_1⟩ := hp_2
  obtain ⟨g_7, eg_7⟩ : ∃ z : Nat → Int, z = pp_pt B n 7 rg := ⟨_, rfl⟩
  rw [← eg_7] at p0r_1
  have lg_7_0 : g_7 0 = (tI M_2 2 4).toInt := p0r_1.2.1.1
  have lg_7_1 : g_7 1 = (tI M_2 2 6).toInt := p0r_1.2.1.2.1
  have lg_7_4 : g_7 4 = (tI M_2 1 4).toInt := p0r_1.2.2.1.1
  have lg_7_7 : g_7 7 = (tI M_2 t 4).toInt := p0r_1.2.2.2.1.1
  have lg_7_8 : g_7 8 = (tI M_2 t 5).toInt := p0r_1.2.2.2.1.2.1
  refine lv_iconst (v := 0) hx hb dX4_readProduct_5 (by decide) ?_
  refine lv_istore_n (lv' := [(2, .int 0), (0, .ref (A 1 0)), (1, .int 1)]) hx hb dX4_readProduct_6 rfl hl (by decide) rfl (fun ls hl => ?_)
  have hl_7_20 : ∀ (n_21 : Nat) (x_8 : Int32) (M_11 : ti_M) (g_18 : Nat → Int) (H : Heap) (locs : List Loc) (ls : Array Slot), (64 - x_8.toInt : Int).toNat < n_21 → (0 ≤ x_8.toInt) → (x_8.toInt ≤ 64) → (cI Tc M_11) → (M_11.2.2.2 = M.2.2.2) → (f0 M_11 M) → (tI M_11 2 1 = tI M 2 1) → (ot t M_11 M) → (tT M_11 1 1 = (some t)) → (tT M_11 1 2 = (some lw)) → (rC B n t g_18 M_11) → (pp_lp pp_qT (fun s => (pp_pt B n 7) (pp_kn B n s)) 64 g_7 = pp_lp pp_qT (fun s => (pp_pt B n 7) (pp_kn B n s)) (64 - (x_8.toInt).toNat) g_18) → ti_H ti_LT D A cy H0 M_11 H locs → lv_has ls 4 [(2, .int x_8), (0, .ref (A 1 0)), (1, .int 1)] → W p l e (ti_rm 58) s m args below meth c H locs 0 0 Q (F0 m 7 ls []) := by
    intro n_21
    induction n_21 with
    | zero => intro x_8 M_11 g_18 H locs ls hf_21; exact absurd hf_21 (Nat.not_lt_zero _)
    | succ n_21 ih_21 =>
      intro x_8 M_11 g_18 H locs ls hf_21 b_9 b_10 iM_11 f_12 f_13 f_14 f_15 f_16 f_17 hs_19 j_20 hw hl
      have lg_18_0 : g_18 0 = (tI M_11 2 4).toInt := hs_19.2.1.1
      have lg_18_1 : g_18 1 = (tI M_11 2 6).toInt := hs_19.2.1.2.1
      have lg_18_4 : g_18 4 = (tI M_11 1 4).toInt := hs_19.2.2.1.1
      have lg_18_7 : g_18 7 = (tI M_11 t 4).toInt := hs_19.2.2.2.1.1
      have lg_18_8 : g_18 8 = (tI M_11 t 5).toInt := hs_19.2.2.2.1.2.1
      refine lv_iload_n hx hb dX4_readProduct_7 rfl (lv_at hl 0 rfl) ?_
      refine lv_bipush (v := 64) hx hb dX4_readProduct_8 (by decide) ?_
      refine sb_icmp_ge (tgt := 69) hx hb rfl (by decide : (64 : Int32).toInt = 64) dX4_readProduct_10 (by decide) (fun c_10_21 => ?_) (fun c_10_21 => ?_)
      · exact hQ _ _ _ _ _ hw (⟨iM_11, (f_12), f_13, (f_14), f_15, (by unfold pp_pd; rw [← eg_7, j_20, lp_end (P := pp_qT) (f := 64 - x_8.toInt.toNat) (s := g_18) (Or.inl (by omega))]; exact hs_19)⟩) dX4_readProduct_69
      · refine lv_aload_n hx hb dX4_readProduct_13 rfl (lv_at hl 1 rfl) ?_
        refine ti_get (ci := 4) (k := 0) (N := 6) (T := TX4) (v := .ref (A 2 0)) C hw iw_4 rfl ob_1 (by decide) (by decide) fl_X4_12 rfl rfl dX4_readProduct_14 ?_
        refine ti_get (ci := 7) (k := 4) (N := 7) (T := TX7) C hw iw_7 rfl ob_2 (by decide) (by decide) fl_X4_41 rfl rfl dX4_readProduct_17 ?_
        refine lv_topi (fun x_23 ex_23 => ?_)
        have bx_23 : 0 ≤ x_23.toInt ∧ x_23.toInt ≤ 41 := cI_rd iM_11 ob_2.1 ex_23
        have ux_23 : (tI M_11 2 4).toInt = x_23.toInt := by rw [ex_23]
        refine lv_bipush (v := 40) hx hb dX4_readProduct_20 (by decide) ?_
        refine sb_icmp_eq (tgt := 37) hx hb rfl (by decide : (40 : Int32).toInt = 40) dX4_readProduct_22 (by decide) (fun c_22_23 => ?_) (fun c_22_23 => ?_)
        · refine lv_aload_n hx hb dX4_readProduct_37 rfl (lv_at hl 1 rfl) ?_
          refine ti_get (ci := 4) (k := 0) (N := 6) (T := TX4) (v := .ref (A 2 0)) C hw iw_4 rfl ob_1 (by decide) (by decide) fl_X4_12 rfl rfl dX4_readProduct_38 ?_
          refine ti_get (ci := 7) (k := 4) (N := 7) (T := TX7) C hw iw_7 rfl ob_2 (by decide) (by decide) fl_X4_41 rfl rfl dX4_readProduct_41 ?_
          refine ti_top (y := x_23) (ex_23.symm) ?_
          have u_27 : (tI M_11 2 4).toInt = (x_23 : Int32).toInt := by rw [(ex_23.symm)]
          refine lv_istore_n (lv' := [(3, .int x_23), (2, .int x_8), (0, .ref (A 1 0)), (1, .int 1)]) hx hb dX4_readProduct_44 rfl hl (by decide) rfl (fun ls hl => ?_)
          refine lv_aload_n hx hb dX4_readProduct_45 rfl (lv_at hl 2 rfl) ?_
          refine ti_callVvE (ci := 4) (av := []) C hE hw (x_X4_knot l D A cy hJ M_11 iM_11 t ht (f_16) B n g_18 hs_19) ⟨ml_X4_167, ym_X4_knot, yv_X4_knot, yi_X4_knot, yc_X4_knot⟩ yd_X4_knot ob_1 (by decide) rfl rfl hl.1 (Nat.le_of_ble_eq_true rfl) ⟨by decide, by decide⟩ ⟨Nat.zero_le _, Nat.zero_le _⟩ dX4_readProduct_46 (fun M_29 H locs hp_29 hw => ?_)
          obtain ⟨iM_29, q_30, q_31, q_32, q_33, p0r_28⟩ := hp_29
          obtain ⟨g_34, eg_34⟩ : ∃ z : Nat → Int, z = pp_kn B n g_18 := ⟨_, rfl⟩
          rw [← eg_34] at p0r_28
          have lg_34_0 : g_34 0 = (tI M_29 2 4).toInt := p0r_28.2.1.1
          have lg_34_1 : g_34 1 = (tI M_29 2 6).toInt := p0r_28.2.1.2.1
          have lg_34_4 : g_34 4 = (tI M_29 1 4).toInt := p0r_28.2.2.1.1
          have lg_34_7 : g_34 7 = (tI M_29 t 4).toInt := p0r_28.2.2.2.1.1
          have lg_34_8 : g_34 8 = (tI M_29 t 5).toInt := p0r_28.2.2.2.1.2.1
          refine lv_aload_n hx hb dX4_readProduct_49 rfl (lv_at hl 2 rfl) ?_
          refine lv_iload_n hx hb dX4_readProduct_50 rfl (lv_at hl 3 rfl) ?_
          refine ti_callVvE (ci := 4) (av := [.int 1]) C hE hw (x_X4_readPart_1 l D A cy hJ M_29 iM_29 t ht ((tT_fr q_30).trans f_16) lw hlw ((tT_fr q_30).trans f_17) B n g_34 p0r_28) ⟨ml_X4_187, ym_X4_readPart, yv_X4_readPart, yi_X4_readPart, yc_X4_readPart⟩ yd_X4_readPart ob_1 (by decide) rfl rfl hl.1 (Nat.le_of_ble_eq_true rfl) ⟨by decide, by decide⟩ ⟨Nat.zero_le _, Nat.zero_le _⟩ dX4_readProduct_51 (fun M_36 H locs hp_36 hw => ?_)
          obtain ⟨iM_36, q_37, q_38, q_39, q_40, p0r_35⟩ := hp_36
          obtain ⟨g_41, eg_41⟩ : ∃ z : Nat → Int, z = pp_pt B n 7 g_34 := ⟨_, rfl⟩
          rw [← eg_41] at p0r_35
          have lg_41_0 : g_41 0 = (tI M_36 2 4).toInt := p0r_35.2.1.1
          have lg_41_1 : g_41 1 = (tI M_36 2 6).toInt := p0r_35.2.1.2.1
          have lg_41_4 : g_41 4 = (tI M_36 1 4).toInt := p0r_35.2.2.1.1
          have lg_41_7 : g_41 7 = (tI M_36 t 4).toInt := p0r_35.2.2.2.1.1
          have lg_41_8 : g_41 8 = (tI M_36 t 5).toInt := p0r_35.2.2.2.1.2.1
          refine lv_aload_n hx hb dX4_readProduct_54 rfl (lv_at hl 2 rfl) ?_
          refine ti_get (ci := 4) (k := 2) (N := 6) (T := TX4) (v := .ref (A lw 0)) C hw iw_4 rfl ob_1 (by decide) (by decide) fl_X4_154 rfl (ti_Tv ((tT_fr q_37).trans ((tT_fr q_30).trans f_17))) dX4_readProduct_55 ?_
          refine lv_iload_n hx hb dX4_readProduct_58 rfl (lv_at hl 0 rfl) ?_
          refine lv_ineg hx hb dX4_readProduct_59 ?_
          refine lv_topi (fun x_42 ex_42 => ?_)
          have tx_42 : x_42.toInt = -x_23.toInt := i_neg ex_42 rfl (by omega)
          refine ti_callVv (ci := 1) (av := [.int x_42]) C hw (x_X1_add l D A cy hJ M_36 iM_36 lw hlw x_42 (by first | omega | exact Or.inl (by decide) | exact Or.inr (by decide)) t ht B n g_41 p0r_35) ⟨ml_X4_170, ym_X1_add, yv_X1_add, yi_X1_add, yc_X1_add⟩ yd_X1_add hlw (by decide) rfl rfl hl.1 (Nat.le_of_ble_eq_true rfl) ⟨by decide, by decide⟩ ⟨Nat.zero_le _, Nat.zero_le _⟩ dX4_readProduct_60 (fun M_44 H locs hp_44 hw => ?_)
          obtain ⟨iM_44, q_45, q_46, p0r_43⟩ := hp_44
          have lM_44_0 : g_41 0 = (tI M_44 2 4).toInt := p0r_43.2.1.1
          have lM_44_1 : g_41 1 = (tI M_44 2 6).toInt := p0r_43.2.1.2.1
          have lM_44_4 : g_41 4 = (tI M_44 1 4).toInt := p0r_43.2.2.1.1
          have lM_44_7 : g_41 7 = (tI M_44 t 4).toInt := p0r_43.2.2.2.1.1
          have lM_44_8 : g_41 8 = (tI M_44 t 5).toInt := p0r_43.2.2.2.1.2.1
          obtain ⟨x_47, ex_47⟩ : ∃ z : Int32, z = x_8 + 1 := ⟨_, rfl⟩
          have tx_47 : x_47.toInt = x_8.toInt + 1 := i_add ex_47 rfl (by decide) (by omega) (by omega)
          refine lv_iinc (v := x_47) (lv' := [(2, .int x_47), (3, .int x_23), (0, .ref (A 1 0)), (1, .int 1)]) hx hb dX4_readProduct_63 hl (k := 1) rfl (by rw [ex_47]; rfl) (by decide) rfl (fun ls hl => ?_)
          refine lv_goto (tgt := 7) hx hb dX4_readProduct_66 (by decide) ?_
          exact ih_21 x_47 M_44 g_41 _ _ _ (by omega) (by first | omega | decide) (by first | omega | decide) iM_44 ((q_45).trans ((q_37).trans ((q_30).trans f_12))) (f0.trans (f0_x q_46) (f0.trans q_38 (f0.trans q_31 f_13))) (((q_46 1).2.1).trans ((q_39).trans ((q_32).trans f_14))) (ot.trans (ot_fx ht q_46) (ot.trans q_40 (ot.trans q_33 f_15))) ((tT_fr q_45).trans ((tT_fr q_37).trans ((tT_fr q_30).trans f_16))) ((tT_fr q_45).trans ((tT_fr q_37).trans ((tT_fr q_30).trans f_17))) p0r_43 (j_20.trans (lp_step (decide_eq_true (by omega)) (by rw [eg_41, eg_34]) (by omega))) hw (lv_sub hl [0, 2, 3] rfl)
        · refine lv_aload_n hx hb dX4_readProduct_25 rfl (lv_at hl 1 rfl) ?_
          refine ti_get (ci := 4) (k := 0) (N := 6) (T := TX4) (v := .ref (A 2 0)) C hw iw_4 rfl ob_1 (by decide) (by decide) fl_X4_12 rfl rfl dX4_readProduct_26 ?_
          refine ti_get (ci := 7) (k := 4) (N := 7) (T := TX7) C hw iw_7 rfl ob_2 (by decide) (by decide) fl_X4_41 rfl rfl dX4_readProduct_29 ?_
          refine ti_top (y := x_23) (ex_23.symm) ?_
          have u_25 : (tI M_11 2 4).toInt = (x_23 : Int32).toInt := by rw [(ex_23.symm)]
          refine lv_bipush (v := 41) hx hb dX4_readProduct_32 (by decide) ?_
          refine sb_icmp_ne (tgt := 69) hx hb rfl (by decide : (41 : Int32).toInt = 41) dX4_readProduct_34 (by decide) (fun c_34_25 => ?_) (fun c_34_25 => ?_)
          · exact hQ _ _ _ _ _ hw (⟨iM_11, (f_12), f_13, (f_14), f_15, (by unfold pp_pd; rw [← eg_7, j_20, lp_end (P := pp_qT) (f := 64 - x_8.toInt.toNat) (s := g_18) (Or.inr (decide_eq_false (by omega)))]; exact hs_19)⟩) dX4_readProduct_69
          · refine lv_aload_n hx hb dX4_readProduct_37 rfl (lv_at hl 1 rfl) ?_
            refine ti_get (ci := 4) (k := 0) (N := 6) (T := TX4) (v := .ref (A 2 0)) C hw iw_4 rfl ob_1 (by decide) (by decide) fl_X4_12 rfl rfl dX4_readProduct_38 ?_
            refine ti_get (ci := 7) (k := 4) (N := 7) (T := TX7) C hw iw_7 rfl ob_2 (by decide) (by decide) fl_X4_41 rfl rfl dX4_readProduct_41 ?_
            refine ti_top (y := x_23) (ex_23.symm) ?_
            have u_48 : (tI M_11 2 4).toInt = (x_23 : Int32).toInt := by rw [(ex_23.symm)]
            refine lv_istore_n (lv' := [(3, .int x_23), (2, .int x_8), (0, .ref (A 1 0)), (1, .int 1)]) hx hb dX4_readProduct_44 rfl hl (by decide) rfl (fun ls hl => ?_)
            refine lv_aload_n hx hb dX4_readProduct_45 rfl (lv_at hl 2 rfl) ?_
            refine ti_callVvE (ci := 4) (av := []) C hE hw (x_X4_knot l D A cy hJ M_11 iM_11 t ht (f_16) B n g_18 hs_19) ⟨ml_X4_167, ym_X4_knot, yv_X4_knot, yi_X4_knot, yc_X4_knot⟩ yd_X4_knot ob_1 (by decide) rfl rfl hl.1 (Nat.le_of_ble_eq_true rfl) ⟨by decide, by decide⟩ ⟨Nat.zero_le _, Nat.zero_le _⟩ dX4_readProduct_46 (fun M_50 H locs hp_50 hw => ?_)
            obtain ⟨iM_50, q_51, q_52, q_53, q_54, p0r_49⟩ := hp_50
            obtain ⟨g_55, eg_55⟩ : ∃ z : Nat → Int, z = pp_kn B n g_18 := ⟨_, rfl⟩
            rw [← eg_55] at p0r_49
            have lg_55_0 : g_55 0 = (tI M_50 2 4).toInt := p0r_49.2.1.1
            have lg_55_1 : g_55 1 = (tI M_50 2 6).toInt := p0r_49.2.1.2.1
            have lg_55_4 : g_55 4 = (tI M_50 1 4).toInt := p0r_49.2.2.1.1
            have lg_55_7 : g_55 7 = (tI M_50 t 4).toInt := p0r_49.2.2.2.1.1
            have lg_55_8 : g_55 8 = (tI M_50 t 5).toInt := p0r_49.2.2.2.1.2.1
            refine lv_aload_n hx hb dX4_readProduct_49 rfl (lv_at hl 2 rfl) ?_
            refine lv_iload_n hx hb dX4_readProduct_50 rfl (lv_at hl 3 rfl) ?_
            refine ti_callVvE (ci := 4) (av := [.int 1]) C hE hw (x_X4_readPart_1 l D A cy hJ M_50 iM_50 t ht ((tT_fr q_51).trans f_16) lw hlw ((tT_fr q_51).trans f_17) B n g_55 p0r_49) ⟨ml_X4_187, ym_X4_readPart, yv_X4_readPart, yi_X4_readPart, yc_X4_readPart⟩ yd_X4_readPart ob_1 (by decide) rfl rfl hl.1 (Nat.le_of_ble_eq_true rfl) ⟨by decide, by decide⟩ ⟨Nat.zero_le _, Nat.zero_le _⟩ dX4_readProduct_51 (fun M_57 H locs hp_57 hw => ?_)
            obtain ⟨iM_57, q_58, q_59, q_60, q_61, p0r_56⟩ := hp_57
            obtain ⟨g_62, eg_62⟩ : ∃ z : Nat → Int, z = pp_pt B n 7 g_55 := ⟨_, rfl⟩
            rw [← eg_62] at p0r_56
            have lg_62_0 : g_62 0 = (tI M_57 2 4).toInt := p0r_56.2.1.1
            have lg_62_1 : g_62 1 = (tI M_57 2 6).toInt := p0r_56.2.1.2.1
            have lg_62_4 : g_62 4 = (tI M_57 1 4).toInt := p0r_56.2.2.1.1
            have lg_62_7 : g_62 7 = (tI M_57 t 4).toInt := p0r_56.2.2.2.1.1
            have lg_62_8 : g_62 8 = (tI M_57 t 5).toInt := p0r_56.2.2.2.1.2.1
            refine lv_aload_n hx hb dX4_readProduct_54 rfl (lv_at hl 2 rfl) ?_
            refine ti_get (ci := 4) (k := 2) (N := 6) (T := TX4) (v := .ref (A lw 0)) C hw iw_4 rfl ob_1 (by decide) (by decide) fl_X4_154 rfl (ti_Tv ((tT_fr q_58).trans ((tT_fr q_51).trans f_17))) dX4_readProduct_55 ?_
            refine lv_iload_n hx hb dX4_readProduct_58 rfl (lv_at hl 0 rfl) ?_
            refine lv_ineg hx hb dX4_readProduct_59 ?_
            refine lv_topi (fun x_63 ex_63 => ?_)
            have tx_63 : x_63.toInt = -x_23.toInt := i_neg ex_63 rfl (by omega)
            refine ti_callVv (ci := 1) (av := [.int x_63]) C hw (x_X1_add l D A cy hJ M_57 iM_57 lw hlw x_63 (by first | omega | exact Or.inl (by decide) | exact Or.inr (by decide)) t ht B n g_62 p0r_56) ⟨ml_X4_170, ym_X1_add, yv_X1_add, yi_X1_add, yc_X1_add⟩ yd_X1_add hlw (by decide) rfl rfl hl.1 (Nat.le_of_ble_eq_true rfl) ⟨by decide, by decide⟩ ⟨Nat.zero_le _, Nat.zero_le _⟩ dX4_readProduct_60 (fun M_65 H locs hp_65 hw => ?_)
            obtain ⟨iM_65, q_66, q_67, p0r_64⟩ := hp_65
            have lM_65_0 : g_62 0 = (tI M_65 2 4).toInt := p0r_64.2.1.1
            have lM_65_1 : g_62 1 = (tI M_65 2 6).toInt := p0r_64.2.1.2.1
            have lM_65_4 : g_62 4 = (tI M_65 1 4).toInt := p0r_64.2.2.1.1
            have lM_65_7 : g_62 7 = (tI M_65 t 4).toInt := p0r_64.2.2.2.1.1
            have lM_65_8 : g_62 8 = (tI M_65 t 5).toInt := p0r_64.2.2.2.1.2.1
            obtain ⟨x_68, ex_68⟩ : ∃ z : Int32, z = x_8 + 1 := ⟨_, rfl⟩
            have tx_68 : x_68.toInt = x_8.toInt + 1 := i_add ex_68 rfl (by decide) (by omega) (by omega)
            refine lv_iinc (v := x_68) (lv' := [(2, .int x_68), (3, .int x_23), (0, .ref (A 1 0)), (1, .int 1)]) hx hb dX4_readProduct_63 hl (k := 1) rfl (by rw [ex_68]; rfl) (by decide) rfl (fun ls hl => ?_)
            refine lv_goto (tgt := 7) hx hb dX4_readProduct_66 (by decide) ?_
            exact ih_21 x_68 M_65 g_62 _ _ _ (by omega) (by first | omega | decide) (by first | omega | decide) iM_65 ((q_66).trans ((q_58).trans ((q_51).trans f_12))) (f0.trans (f0_x q_67) (f0.trans q_59 (f0.trans q_52 f_13))) (((q_67 1).2.1).trans ((q_60).trans ((q_53).trans f_14))) (ot.trans (ot_fx ht q_67) (ot.trans q_61 (ot.trans q_54 f_15))) ((tT_fr q_66).trans ((tT_fr q_58).trans ((tT_fr q_51).trans f_16))) ((tT_fr q_66).trans ((tT_fr q_58).trans ((tT_fr q_51).trans f_17))) p0r_64 (j_20.trans (lp_step (decide_eq_true (by omega)) (by rw [eg_62, eg_55]) (by omega))) hw (lv_sub hl [0, 2, 3] rfl)
  exact hl_7_20 ((64 - 0 : Int).toNat + 1) 0 M_2 g_7 _ _ _ (Nat.lt_succ_self _) (by have lt0 : (0 : Int32).toInt = 0 := (by decide); first | omega | decide) (by have lt0 : (0 : Int32).toInt = 0 := (by decide); first | omega | decide) iM_2 (q_3) q_4 (q_5) q_6 ((tT_fr q_3).trans hT) ((tT_fr q_3).trans hL) p0r_1 rfl hw (lv_sub hl [0, 1, 2] rfl)
set_option maxHeartbeats 4000000 in
set_option maxRecDepth 100000 in
theorem x_X4_readSum_1 (l : Launch) (D : va_G) (A : Nat → Nat → Nat) (cy : Nat → ClassId) (hJ : ti_inj ti_LT A) (M : ti_M) (hI : cI Tc M) (t : Nat) (ht : t = 3 ∨ t = 4) (hT : tT M 1 1 = some t) (lw : Nat) (hlw : ti_ob ti_LT lw 1) (hL : tT M 1 2 = some lw) (B : Nat → Int) (n : Nat) (rg : Nat → Int) (hr : rC B n t rg M) : ti_KvE l yX4_readSum cX4_readSum 4 59 ti_LT D A cy M [.ref (A 1 0), .int 1] (fun M2 => cI Tc M2 ∧ M2.2.2.2 = M.2.2.2 ∧ f0 M2 M ∧ tI M2 2 1 = tI M 2 1 ∧ ot t M2 M ∧ rC B n t (pp_sm B n (pp_pt B n 7) rg) M2) := by
  refine ti_eVE yp_X4_readSum hJ ti_LT_nd (Nat.le_of_ble_eq_true rfl) ?_
  intro p e s m args below meth c Q H0 C hE hQ hw ls hl
  have hx := C.1
  have hb := C.2.1
  have hl : lv_has ls 4 [(0, .ref (A 1 0)), (1, .int 1)] := hl
  have l0 : rg 0 = (tI M 2 4).toInt := hr.2.1.1
  have l1 : rg 1 = (tI M 2 6).toInt := hr.2.1.2.1
  have l2 : rg 2 = (tI M 2 5).toInt := hr.2.1.2.2.1
  have l3 : rg 3 = (tI M 2 3).toInt := hr.2.1.2.2.2
  have l4 : rg 4 = (tI M 1 4).toInt := hr.2.2.1.1
  have l5 : rg 5 = (tI M 1 5).toInt := hr.2.2.1.2.1
  have l7 : rg 7 = (tI M t 4).toInt := hr.2.2.2.1.1
  have l8 : rg 8 = (tI M t 5).toInt := hr.2.2.2.1.2.1
  have l9 : rg 9 = (tI M t 3).toInt := hr.2.2.2.1.2.2
  refine lv_aload_n hx hb dX4_readSum_0 rfl (lv_at hl 0 rfl) ?_
  refine lv_iload_n hx hb dX4_readSum_1 rfl (lv_at hl 1 rfl) ?_
  refine ti_callVvE (ci := 4) (av := [.int 1]) C hE hw (x_X4_readProduct_1 l D A cy hJ M hI t ht (hT) lw hlw (hL) B n rg hr) ⟨ml_X4_184, ym_X4_readProduct, yv_X4_readProduct, yi_X4_readProduct, yc_X4_readProduct⟩ yd_X4_readProduct ob_1 (by decide) rfl rfl hl.1 (Nat.le_of_ble_eq_true rfl) ⟨by decide, by decide⟩ ⟨Nat.zero_le _, Nat.zero_le _⟩ dX4_readSum_2 (fun M_2 H locs hp_2 hw => ?_)
  obtain ⟨iM_2, q_3, q_4, q_5, q_6, p0r_1⟩ := hp_2
  obtain ⟨g_7, eg_7⟩ : ∃ z : Nat → Int, z = pp_pd B n (pp_pt B n 7) rg := ⟨_, rfl⟩
  rw [← eg_7] at p0r_1
  have lg_7_0 : g_7 0 = (tI M_2 2 4).toInt := p0r_1.2.1.1
  have lg_7_1 : g_7 1 = (tI M_2 2 6).toInt := p0r_1.2.1.2.1
  have lg_7_4 : g_7 4 = (tI M_2 1 4).toInt := p0r_1.2.2.1.1
  have lg_7_7 : g_7 7 = (tI M_2 t 4).toInt := p0r_1.2.2.2.1.1
  have lg_7_8 : g_7 8 = (tI M_2 t 5).toInt := p0r_1.2.2.2.1.2.1
  refine lv_iconst (v := 0) hx hb dX4_readSum_5 (by decide) ?_
  refine lv_istore_n (lv' := [(2, .int 0), (0, .ref (A 1 0)), (1, .int 1)]) hx hb dX4_readSum_6 rfl hl (by decide) rfl (fun ls hl => ?_)
  have hl_7_20 : ∀ (n_21 : Nat) (x_8 : Int32) (M_11 : ti_M) (g_18 : Nat → Int) (H : Heap) (locs : List Loc) (ls : Array Slot), (64 - x_8.toInt : Int).toNat < n_21 → (0 ≤ x_8.toInt) → (x_8.toInt ≤ 64) → (cI Tc M_11) → (M_11.2.2.2 = M.2.2.2) → (f0 M_11 M) → (tI M_11 2 1 = tI M 2 1) → (ot t M_11 M) → (tT M_11 1 1 = (some t)) → (tT M_11 1 2 = (some lw)) → (rC B n t g_18 M_11) → (pp_lp pp_qP (fun s => pp_pd B n (pp_pt B n 7) (pp_kn B n s)) 64 g_7 = pp_lp pp_qP (fun s => pp_pd B n (pp_pt B n 7) (pp_kn B n s)) (64 - (x_8.toInt).toNat) g_18) → ti_H ti_LT D A cy H0 M_11 H locs → lv_has ls 4 [(2, .int x_8), (0, .ref (A 1 0)), (1, .int 1)] → W p l e (ti_rm 59) s m args below meth c H locs 0 0 Q (F0 m 7 ls []) := by
    intro n_21
    induction n_21 with
    | zero => intro x_8 M_11 g_18 H locs ls hf_21; exact absurd hf_21 (Nat.not_lt_zero _)
    | succ n_21 ih_21 =>
      intro x_8 M_11 g_18 H locs ls hf_21 b_9 b_10 iM_11 f_12 f_13 f_14 f_15 f_16 f_17 hs_19 j_20 hw hl
      have lg_18_0 : g_18 0 = (tI M_11 2 4).toInt := hs_19.2.1.1
      have lg_18_1 : g_18 1 = (tI M_11 2 6).toInt := hs_19.2.1.2.1
      have lg_18_4 : g_18 4 = (tI M_11 1 4).toInt := hs_19.2.2.1.1
      have lg_18_7 : g_18 7 = (tI M_11 t 4).toInt := hs_19.2.2.2.1.1
      have lg_18_8 : g_18 8 = (tI M_11 t 5).toInt := hs_19.2.2.2.1.2.1
      refine lv_iload_n hx hb dX4_readSum_7 rfl (lv_at hl 0 rfl) ?_
      refine lv_bipush (v := 64) hx hb dX4_readSum_8 (by decide) ?_
      refine sb_icmp_ge (tgt := 69) hx hb rfl (by decide : (64 : Int32).toInt = 64) dX4_readSum_10 (by decide) (fun c_10_21 => ?_) (fun c_10_21 => ?_)
      · exact hQ _ _ _ _ _ hw (⟨iM_11, (f_12), f_13, (f_14), f_15, (by unfold pp_sm; rw [← eg_7, j_20, lp_end (P := pp_qP) (f := 64 - x_8.toInt.toNat) (s := g_18) (Or.inl (by omega))]; exact hs_19)⟩) dX4_readSum_69
      · refine lv_aload_n hx hb dX4_readSum_13 rfl (lv_at hl 1 rfl) ?_
        refine ti_get (ci := 4) (k := 0) (N := 6) (T := TX4) (v := .ref (A 2 0)) C hw iw_4 rfl ob_1 (by decide) (by decide) fl_X4_12 rfl rfl dX4_readSum_14 ?_
        refine ti_get (ci := 7) (k := 4) (N := 7) (T := TX7) C hw iw_7 rfl ob_2 (by decide) (by decide) fl_X4_41 rfl rfl dX4_readSum_17 ?_
        refine lv_topi (fun x_23 ex_23 => ?_)
        have bx_23 : 0 ≤ x_23.toInt ∧ x_23.toInt ≤ 41 := cI_rd iM_11 ob_2.1 ex_23
        have ux_23 : (tI M_11 2 4).toInt = x_23.toInt := by rw [ex_23]
        refine lv_bipush (v := 38) hx hb dX4_readSum_20 (by decide) ?_
        refine sb_icmp_eq (tgt := 37) hx hb rfl (by decide : (38 : Int32).toInt = 38) dX4_readSum_22 (by decide) (fun c_22_23 => ?_) (fun c_22_23 => ?_)
        · refine lv_aload_n hx hb dX4_readSum_37 rfl (lv_at hl 1 rfl) ?_
          refine ti_get (ci := 4) (k := 0) (N := 6) (T := TX4) (v := .ref (A 2 0)) C hw iw_4 rfl ob_1 (by decide) (by decide) fl_X4_12 rfl rfl dX4_readSum_38 ?_
          refine ti_get (ci := 7) (k := 4) (N := 7) (T := TX7) C hw iw_7 rfl ob_2 (by decide) (by decide) fl_X4_41 rfl rfl dX4_readSum_41 ?_
          refine ti_top (y := x_23) (ex_23.symm) ?_
          have u_27 : (tI M_11 2 4).toInt = (x_23 : Int32).toInt := by rw [(ex_23.symm)]
          refine lv_istore_n (lv' := [(3, .int x_23), (2, .int x_8), (0, .ref (A 1 0)), (1, .int 1)]) hx hb dX4_readSum_44 rfl hl (by decide) rfl (fun ls hl => ?_)
          refine lv_aload_n hx hb dX4_readSum_45 rfl (lv_at hl 2 rfl) ?_
          refine ti_callVvE (ci := 4) (av := []) C hE hw (x_X4_knot l D A cy hJ M_11 iM_11 t ht (f_16) B n g_18 hs_19) ⟨ml_X4_167, ym_X4_knot, yv_X4_knot, yi_X4_knot, yc_X4_knot⟩ yd_X4_knot ob_1 (by decide) rfl rfl hl.1 (Nat.le_of_ble_eq_true rfl) ⟨by decide, by decide⟩ ⟨Nat.zero_le _, Nat.zero_le _⟩ dX4_readSum_46 (fun M_29 H locs hp_29 hw => ?_)
          obtain ⟨iM_29, q_30, q_31, q_32, q_33, p0r_28⟩ := hp_29
          obtain ⟨g_34, eg_34⟩ : ∃ z : Nat → Int, z = pp_kn B n g_18 := ⟨_, rfl⟩
          rw [← eg_34] at p0r_28
          have lg_34_0 : g_34 0 = (tI M_29 2 4).toInt := p0r_28.2.1.1
          have lg_34_1 : g_34 1 = (tI M_29 2 6).toInt := p0r_28.2.1.2.1
          have lg_34_4 : g_34 4 = (tI M_29 1 4).toInt := p0r_28.2.2.1.1
          have lg_34_7 : g_34 7 = (tI M_29 t 4).toInt := p0r_28.2.2.2.1.1
          have lg_34_8 : g_34 8 = (tI M_29 t 5).toInt := p0r_28.2.2.2.1.2.1
          refine lv_aload_n hx hb dX4_readSum_49 rfl (lv_at hl 2 rfl) ?_
          refine lv_iload_n hx hb dX4_readSum_50 rfl (lv_at hl 3 rfl) ?_
          refine ti_callVvE (ci := 4) (av := [.int 1]) C hE hw (x_X4_readProduct_1 l D A cy hJ M_29 iM_29 t ht ((tT_fr q_30).trans f_16) lw hlw ((tT_fr q_30).trans f_17) B n g_34 p0r_28) ⟨ml_X4_184, ym_X4_readProduct, yv_X4_readProduct, yi_X4_readProduct, yc_X4_readProduct⟩ yd_X4_readProduct ob_1 (by decide) rfl rfl hl.1 (Nat.le_of_ble_eq_true rfl) ⟨by decide, by decide⟩ ⟨Nat.zero_le _, Nat.zero_le _⟩ dX4_readSum_51 (fun M_36 H locs hp_36 hw => ?_)
          obtain ⟨iM_36, q_37, q_38, q_39, q_40, p0r_35⟩ := hp_36
          obtain ⟨g_41, eg_41⟩ : ∃ z : Nat → Int, z = pp_pd B n (pp_pt B n 7) g_34 := ⟨_, rfl⟩
          rw [← eg_41] at p0r_35
          have lg_41_0 : g_41 0 = (tI M_36 2 4).toInt := p0r_35.2.1.1
          have lg_41_1 : g_41 1 = (tI M_36 2 6).toInt := p0r_35.2.1.2.1
          have lg_41_4 : g_41 4 = (tI M_36 1 4).toInt := p0r_35.2.2.1.1
          have lg_41_7 : g_41 7 = (tI M_36 t 4).toInt := p0r_35.2.2.2.1.1
          have lg_41_8 : g_41 8 = (tI M_36 t 5).toInt := p0r_35.2.2.2.1.2.1
          refine lv_aload_n hx hb dX4_readSum_54 rfl (lv_at hl 2 rfl) ?_
          refine ti_get (ci := 4) (k := 2) (N := 6) (T := TX4) (v := .ref (A lw 0)) C hw iw_4 rfl ob_1 (by decide) (by decide) fl_X4_154 rfl (ti_Tv ((tT_fr q_37).trans ((tT_fr q_30).trans f_17))) dX4_readSum_55 ?_
          refine lv_iload_n hx hb dX4_readSum_58 rfl (lv_at hl 0 rfl) ?_
          refine lv_ineg hx hb dX4_readSum_59 ?_
          refine lv_topi (fun x_42 ex_42 => ?_)
          have tx_42 : x_42.toInt = -x_23.toInt := i_neg ex_42 rfl (by omega)
          refine ti_callVv (ci := 1) (av := [.int x_42]) C hw (x_X1_add l D A cy hJ M_36 iM_36 lw hlw x_42 (by first | omega | exact Or.inl (by decide) | exact Or.inr (by decide)) t ht B n g_41 p0r_35) ⟨ml_X4_170, ym_X1_add, yv_X1_add, yi_X1_add, yc_X1_add⟩ yd_X1_add hlw (by decide) rfl rfl hl.1 (Nat.le_of_ble_eq_true rfl) ⟨by decide, by decide⟩ ⟨Nat.zero_le _, Nat.zero_le _⟩ dX4_readSum_60 (fun M_44 H locs hp_44 hw => ?_)
          obtain ⟨iM_44, q_45, q_46, p0r_43⟩ := hp_44
          have lM_44_0 : g_41 0 = (tI M_44 2 4).toInt := p0r_43.2.1.1
          have lM_44_1 : g_41 1 = (tI M_44 2 6).toInt := p0r_43.2.1.2.1
          have lM_44_4 : g_41 4 = (tI M_44 1 4).toInt := p0r_43.2.2.1.1
          have lM_44_7 : g_41 7 = (tI M_44 t 4).toInt := p0r_43.2.2.2.1.1
          have lM_44_8 : g_41 8 = (tI M_44 t 5).toInt := p0r_43.2.2.2.1.2.1
          obtain ⟨x_47, ex_47⟩ : ∃ z : Int32, z = x_8 + 1 := ⟨_, rfl⟩
          have tx_47 : x_47.toInt = x_8.toInt + 1 := i_add ex_47 rfl (by decide) (by omega) (by omega)
          refine lv_iinc (v := x_47) (lv' := [(2, .int x_47), (3, .int x_23), (0, .ref (A 1 0)), (1, .int 1)]) hx hb dX4_readSum_63 hl (k := 1) rfl (by rw [ex_47]; rfl) (by decide) rfl (fun ls hl => ?_)
          refine lv_goto (tgt := 7) hx hb dX4_readSum_66 (by decide) ?_
          exact ih_21 x_47 M_44 g_41 _ _ _ (by omega) (by first | omega | decide) (by first | omega | decide) iM_44 ((q_45).trans ((q_37).trans ((q_30).trans f_12))) (f0.trans (f0_x q_46) (f0.trans q_38 (f0.trans q_31 f_13))) (((q_46 1).2.1).trans ((q_39).trans ((q_32).trans f_14))) (ot.trans (ot_fx ht q_46) (ot.trans q_40 (ot.trans q_33 f_15))) ((tT_fr q_45).trans ((tT_fr q_37).trans ((tT_fr q_30).trans f_16))) ((tT_fr q_45).trans ((tT_fr q_37).trans ((tT_fr q_30).trans f_17))) p0r_43 (j_20.trans (lp_step (decide_eq_true (by omega)) (by rw [eg_41, eg_34]) (by omega))) hw (lv_sub hl [0, 2, 3] rfl)
        · refine lv_aload_n hx hb dX4_readSum_25 rfl (lv_at hl 1 rfl) ?_
          refine ti_get (ci := 4) (k := 0) (N := 6) (T := TX4) (v := .ref (A 2 0)) C hw iw_4 rfl ob_1 (by decide) (by decide) fl_X4_12 rfl rfl dX4_readSum_26 ?_
          refine ti_get (ci := 7) (k := 4) (N := 7) (T := TX7) C hw iw_7 rfl ob_2 (by decide) (by decide) fl_X4_41 rfl rfl dX4_readSum_29 ?_
          refine ti_top (y := x_23) (ex_23.symm) ?_
          have u_25 : (tI M_11 2 4).toInt = (x_23 : Int32).toInt := by rw [(ex_23.symm)]
          refine lv_bipush (v := 39) hx hb dX4_readSum_32 (by decide) ?_
          refine sb_icmp_ne (tgt := 69) hx hb rfl (by decide : (39 : Int32).toInt = 39) dX4_readSum_34 (by decide) (fun c_34_25 => ?_) (fun c_34_25 => ?_)
          · exact hQ _ _ _ _ _ hw (⟨iM_11, (f_12), f_13, (f_14), f_15, (by unfold pp_sm; rw [← eg_7, j_20, lp_end (P := pp_qP) (f := 64 - x_8.toInt.toNat) (s := g_18) (Or.inr (decide_eq_false (by omega)))]; exact hs_19)⟩) dX4_readSum_69
          · refine lv_aload_n hx hb dX4_readSum_37 rfl (lv_at hl 1 rfl) ?_
            refine ti_get (ci := 4) (k := 0) (N := 6) (T := TX4) (v := .ref (A 2 0)) C hw iw_4 rfl ob_1 (by decide) (by decide) fl_X4_12 rfl rfl dX4_readSum_38 ?_
            refine ti_get (ci := 7) (k := 4) (N := 7) (T := TX7) C hw iw_7 rfl ob_2 (by decide) (by decide) fl_X4_41 rfl rfl dX4_readSum_41 ?_
            refine ti_top (y := x_23) (ex_23.symm) ?_
            have u_48 : (tI M_11 2 4).toInt = (x_23 : Int32).toInt := by rw [(ex_23.symm)]
            refine lv_istore_n (lv' := [(3, .int x_23), (2, .int x_8), (0, .ref (A 1 0)), (1, .int 1)]) hx hb dX4_readSum_44 rfl hl (by decide) rfl (fun ls hl => ?_)
            refine lv_aload_n hx hb dX4_readSum_45 rfl (lv_at hl 2 rfl) ?_
            refine ti_callVvE (ci := 4) (av := []) C hE hw (x_X4_knot l D A cy hJ M_11 iM_11 t ht (f_16) B n g_18 hs_19) ⟨ml_X4_167, ym_X4_knot, yv_X4_knot, yi_X4_knot, yc_X4_knot⟩ yd_X4_knot ob_1 (by decide) rfl rfl hl.1 (Nat.le_of_ble_eq_true rfl) ⟨by decide, by decide⟩ ⟨Nat.zero_le _, Nat.zero_le _⟩ dX4_readSum_46 (fun M_50 H locs hp_50 hw => ?_)
            obtain ⟨iM_50, q_51, q_52, q_53, q_54, p0r_49⟩ := hp_50
            obtain ⟨g_55, eg_55⟩ : ∃ z : Nat → Int, z = pp_kn B n g_18 := ⟨_, rfl⟩
            rw [← eg_55] at p0r_49
            have lg_55_0 : g_55 0 = (tI M_50 2 4).toInt := p0r_49.2.1.1
            have lg_55_1 : g_55 1 = (tI M_50 2 6).toInt := p0r_49.2.1.2.1
            have lg_55_4 : g_55 4 = (tI M_50 1 4).toInt := p0r_49.2.2.1.1
            have lg_55_7 : g_55 7 = (tI M_50 t 4).toInt := p0r_49.2.2.2.1.1
            have lg_55_8 : g_55 8 = (tI M_50 t 5).toInt := p0r_49.2.2.2.1.2.1
            refine lv_aload_n hx hb dX4_readSum_49 rfl (lv_at hl 2 rfl) ?_
            refine lv_iload_n hx hb dX4_readSum_50 rfl (lv_at hl 3 rfl) ?_
            refine ti_callVvE (ci := 4) (av := [.int 1]) C hE hw (x_X4_readProduct_1 l D A cy hJ M_50 iM_50 t ht ((tT_fr q_51).trans f_16) lw hlw ((tT_fr q_51).trans f_17) B n g_55 p0r_49) ⟨ml_X4_184, ym_X4_readProduct, yv_X4_readProduct, yi_X4_readProduct, yc_X4_readProduct⟩ yd_X4_readProduct ob_1 (by decide) rfl rfl hl.1 (Nat.le_of_ble_eq_true rfl) ⟨by decide, by decide⟩ ⟨Nat.zero_le _, Nat.zero_le _⟩ dX4_readSum_51 (fun M_57 H locs hp_57 hw => ?_)
            obtain ⟨iM_57, q_58, q_59, q_60, q_61, p0r_56⟩ := hp_57
            obtain ⟨g_62, eg_62⟩ : ∃ z : Nat → Int, z = pp_pd B n (pp_pt B n 7) g_55 := ⟨_, rfl⟩
            rw [← eg_62] at p0r_56
            have lg_62_0 : g_62 0 = (tI M_57 2 4).toInt := p0r_56.2.1.1
            have lg_62_1 : g_62 1 = (tI M_57 2 6).toInt := p0r_56.2.1.2.1
            have lg_62_4 : g_62 4 = (tI M_57 1 4).toInt := p0r_56.2.2.1.1
            have lg_62_7 : g_62 7 = (tI M_57 t 4).toInt := p0r_56.2.2.2.1.1
            have lg_62_8 : g_62 8 = (tI M_57 t 5).toInt := p0r_56.2.2.2.1.2.1
            refine lv_aload_n hx hb dX4_readSum_54 rfl (lv_at hl 2 rfl) ?_
            refine ti_get (ci := 4) (k := 2) (N := 6) (T := TX4) (v := .ref (A lw 0)) C hw iw_4 rfl ob_1 (by decide) (by decide) fl_X4_154 rfl (ti_Tv ((tT_fr q_58).trans ((tT_fr q_51).trans f_17))) dX4_readSum_55 ?_
            refine lv_iload_n hx hb dX4_readSum_58 rfl (lv_at hl 0 rfl) ?_
            refine lv_ineg hx hb dX4_readSum_59 ?_
            refine lv_topi (fun x_63 ex_63 => ?_)
            have tx_63 : x_63.toInt = -x_23.toInt := i_neg ex_63 rfl (by omega)
            refine ti_callVv (ci := 1) (av := [.int x_63]) C hw (x_X1_add l D A cy hJ M_57 iM_57 lw hlw x_63 (by first | omega | exact Or.inl (by decide) | exact Or.inr (by decide)) t ht B n g_62 p0r_56) ⟨ml_X4_170, ym_X1_add, yv_X1_add, yi_X1_add, yc_X1_add⟩ yd_X1_add hlw (by decide) rfl rfl hl.1 (Nat.le_of_ble_eq_true rfl) ⟨by decide, by decide⟩ ⟨Nat.zero_le _, Nat.zero_le _⟩ dX4_readSum_60 (fun M_65 H locs hp_65 hw => ?_)
            obtain ⟨iM_65, q_66, q_67, p0r_64⟩ := hp_65
            have lM_65_0 : g_62 0 = (tI M_65 2 4).toInt := p0r_64.2.1.1
            have lM_65_1 : g_62 1 = (tI M_65 2 6).toInt := p0r_64.2.1.2.1
            have lM_65_4 : g_62 4 = (tI M_65 1 4).toInt := p0r_64.2.2.1.1
            have lM_65_7 : g_62 7 = (tI M_65 t 4).toInt := p0r_64.2.2.2.1.1
            have lM_65_8 : g_62 8 = (tI M_65 t 5).toInt := p0r_64.2.2.2.1.2.1
            obtain ⟨x_68, ex_68⟩ : ∃ z : Int32, z = x_8 + 1 := ⟨_, rfl⟩
            have tx_68 : x_68.toInt = x_8.toInt + 1 := i_add ex_68 rfl (by decide) (by omega) (by omega)
            refine lv_iinc (v := x_68) (lv' := [(2, .int x_68), (3, .int x_23), (0, .ref (A 1 0)), (1, .int 1)]) hx hb dX4_readSum_63 hl (k := 1) rfl (by rw [ex_68]; rfl) (by decide) rfl (fun ls hl => ?_)
            refine lv_goto (tgt := 7) hx hb dX4_readSum_66 (by decide) ?_
            exact ih_21 x_68 M_65 g_62 _ _ _ (by omega) (by first | omega | decide) (by first | omega | decide) iM_65 ((q_66).trans ((q_58).trans ((q_51).trans f_12))) (f0.trans (f0_x q_67) (f0.trans q_59 (f0.trans q_52 f_13))) (((q_67 1).2.1).trans ((q_60).trans ((q_53).trans f_14))) (ot.trans (ot_fx ht q_67) (ot.trans q_61 (ot.trans q_54 f_15))) ((tT_fr q_66).trans ((tT_fr q_58).trans ((tT_fr q_51).trans f_16))) ((tT_fr q_66).trans ((tT_fr q_58).trans ((tT_fr q_51).trans f_17))) p0r_64 (j_20.trans (lp_step (decide_eq_true (by omega)) (by rw [eg_62, eg_55]) (by omega))) hw (lv_sub hl [0, 2, 3] rfl)
  exact hl_7_20 ((64 - 0 : Int).toNat + 1) 0 M_2 g_7 _ _ _ (Nat.lt_succ_self _) (by have lt0 : (0 : Int32).toInt = 0 := (by decide); first | omega | decide) (by have lt0 : (0 : Int32).toInt = 0 := (by decide); first | omega | decide) iM_2 (q_3) q_4 (q_5) q_6 ((tT_fr q_3).trans hT) ((tT_fr q_3).trans hL) p0r_1 rfl hw (lv_sub hl [0, 1, 2] rfl)
set_option maxHeartbeats 4000000 in
set_option maxRecDepth 100000 in
theorem x_X4_readComparison_1 (l : Launch) (D : va_G) (A : Nat → Nat → Nat) (cy : Nat → ClassId) (hJ : ti_inj ti_LT A) (M : ti_M) (hI : cI Tc M) (t : Nat) (ht : t = 3 ∨ t = 4) (hT : tT M 1 1 = some t) (lw : Nat) (hlw : ti_ob ti_LT lw 1) (hL : tT M 1 2 = some lw) (B : Nat → Int) (n : Nat) (rg : Nat → Int) (hr : rC B n t rg M) : ti_KvE l yX4_readComparison cX4_readComparison 3 60 ti_LT D A cy M [.ref (A 1 0), .int 1] (fun M2 => cI Tc M2 ∧ M2.2.2.2 = M.2.2.2 ∧ f0 M2 M ∧ tI M2 2 1 = tI M 2 1 ∧ ot t M2 M ∧ rC B n t (pp_cm B n (pp_pt B n 7) rg) M2) := by
  refine ti_eVE yp_X4_readComparison hJ ti_LT_nd (Nat.le_of_ble_eq_true rfl) ?_
  intro p e s m args below meth c Q H0 C hE hQ hw ls hl
  have hx := C.1
  have hb := C.2.1
  have hl : lv_has ls 3 [(0, .ref (A 1 0)), (1, .int 1)] := hl
  have l0 : rg 0 = (tI M 2 4).toInt := hr.2.1.1
  have l1 : rg 1 = (tI M 2 6).toInt := hr.2.1.2.1
  have l2 : rg 2 = (tI M 2 5).toInt := hr.2.1.2.2.1
  have l3 : rg 3 = (tI M 2 3).toInt := hr.2.1.2.2.2
  have l4 : rg 4 = (tI M 1 4).toInt := hr.2.2.1.1
  have l5 : rg 5 = (tI M 1 5).toInt := hr.2.2.1.2.1
  have l7 : rg 7 = (tI M t 4).toInt := hr.2.2.2.1.1
  have l8 : rg 8 = (tI M t 5).toInt := hr.2.2.2.1.2.1
  have l9 : rg 9 = (tI M t 3).toInt := hr.2.2.2.1.2.2
  refine lv_aload_n hx hb dX4_readComparison_0 rfl (lv_at hl 0 rfl) ?_
  refine lv_iload_n hx hb dX4_readComparison_1 rfl (lv_at hl 1 rfl) ?_
  refine ti_callVvE (ci := 4) (av := [.int 1]) C hE hw (x_X4_readSum_1 l D A cy hJ M hI t ht (hT) lw hlw (hL) B n rg hr) ⟨ml_X4_181, ym_X4_readSum, yv_X4_readSum, yi_X4_readSum, yc_X4_readSum⟩ yd_X4_readSum ob_1 (by decide) rfl rfl hl.1 (Nat.le_of_ble_eq_true rfl) ⟨by decide, by decide⟩ ⟨Nat.zero_le _, Nat.zero_le _⟩ dX4_readComparison_2 (fun M_2 H locs hp_2 hw => ?_)
  obtain ⟨iM_2, q_3, q_4, q_5, q_6, p0r_1⟩ := hp_2
  obtain ⟨g_7, eg_7⟩ : ∃ z : Nat → Int, z = pp_sm B n (pp_pt B n 7) rg := ⟨_, rfl⟩
  rw [← eg_7] at p0r_1
  have lg_7_0 : g_7 0 = (tI M_2 2 4).toInt := p0r_1.2.1.1
  have lg_7_1 : g_7 1 = (tI M_2 2 6).toInt := p0r_1.2.1.2.1
  have lg_7_4 : g_7 4 = (tI M_2 1 4).toInt := p0r_1.2.2.1.1
  have lg_7_7 : g_7 7 = (tI M_2 t 4).toInt := p0r_1.2.2.2.1.1
  have lg_7_8 : g_7 8 = (tI M_2 t 5).toInt := p0r_1.2.2.2.1.2.1
  refine lv_aload_n hx hb dX4_readComparison_5 rfl (lv_at hl 0 rfl) ?_
  refine ti_get (ci := 4) (k := 0) (N := 6) (T := TX4) (v := .ref (A 2 0)) C hw iw_4 rfl ob_1 (by decide) (by decide) fl_X4_12 rfl rfl dX4_readComparison_6 ?_
  refine ti_get (ci := 7) (k := 4) (N := 7) (T := TX7) C hw iw_7 rfl ob_2 (by decide) (by decide) fl_X4_41 rfl rfl dX4_readComparison_9 ?_
  refine lv_topi (fun x_8 ex_8 => ?_)
  have bx_8 : 0 ≤ x_8.toInt ∧ x_8.toInt ≤ 41 := cI_rd iM_2 ob_2.1 ex_8
  have ux_8 : (tI M_2 2 4).toInt = x_8.toInt := by rw [ex_8]
  refine lv_istore_n (lv' := [(2, .int x_8), (0, .ref (A 1 0)), (1, .int 1)]) hx hb dX4_readComparison_12 rfl hl (by decide) rfl (fun ls hl => ?_)
  refine lv_iload_n hx hb dX4_readComparison_13 rfl (lv_at hl 0 rfl) ?_
  refine lv_bipush (v := 32) hx hb dX4_readComparison_14 (by decide) ?_
  refine sb_icmp_lt (tgt := 43) hx hb rfl (by decide : (32 : Int32).toInt = 32) dX4_readComparison_16 (by decide) (fun c_16_8 => ?_) (fun c_16_8 => ?_)
  · exact hQ _ _ _ _ _ hw (⟨iM_2, (q_3), q_4, (q_5), q_6, (by unfold pp_cm; rw [← eg_7]; unfold pp_c2; rw [if_neg (fun q => by omega)]; exact p0r_1)⟩) dX4_readComparison_43
  · refine lv_iload_n hx hb dX4_readComparison_19 rfl (lv_at hl 0 rfl) ?_
    refine lv_bipush (v := 37) hx hb dX4_readComparison_20 (by decide) ?_
    refine sb_icmp_gt (tgt := 43) hx hb rfl (by decide : (37 : Int32).toInt = 37) dX4_readComparison_22 (by decide) (fun c_22_9 => ?_) (fun c_22_9 => ?_)
    · exact hQ _ _ _ _ _ hw (⟨iM_2, (q_3), q_4, (q_5), q_6, (by unfold pp_cm; rw [← eg_7]; unfold pp_c2; rw [if_neg (fun q => by omega)]; exact p0r_1)⟩) dX4_readComparison_43
    · refine lv_aload_n hx hb dX4_readComparison_25 rfl (lv_at hl 1 rfl) ?_
      refine ti_callVvE (ci := 4) (av := []) C hE hw (x_X4_knot l D A cy hJ M_2 iM_2 t ht ((tT_fr q_3).trans hT) B n g_7 p0r_1) ⟨ml_X4_167, ym_X4_knot, yv_X4_knot, yi_X4_knot, yc_X4_knot⟩ yd_X4_knot ob_1 (by decide) rfl rfl hl.1 (Nat.le_of_ble_eq_true rfl) ⟨by decide, by decide⟩ ⟨Nat.zero_le _, Nat.zero_le _⟩ dX4_readComparison_26 (fun M_12 H locs hp_12 hw => ?_)
      obtain ⟨iM_12, q_13, q_14, q_15, q_16, p0r_11⟩ := hp_12
      obtain ⟨g_17, eg_17⟩ : ∃ z : Nat → Int, z = pp_kn B n g_7 := ⟨_, rfl⟩
      rw [← eg_17] at p0r_11
      have lg_17_0 : g_17 0 = (tI M_12 2 4).toInt := p0r_11.2.1.1
      have lg_17_1 : g_17 1 = (tI M_12 2 6).toInt := p0r_11.2.1.2.1
      have lg_17_4 : g_17 4 = (tI M_12 1 4).toInt := p0r_11.2.2.1.1
      have lg_17_7 : g_17 7 = (tI M_12 t 4).toInt := p0r_11.2.2.2.1.1
      have lg_17_8 : g_17 8 = (tI M_12 t 5).toInt := p0r_11.2.2.2.1.2.1
      refine lv_aload_n hx hb dX4_readComparison_29 rfl (lv_at hl 1 rfl) ?_
      refine lv_iload_n hx hb dX4_readComparison_30 rfl (lv_at hl 2 rfl) ?_
      refine ti_callVvE (ci := 4) (av := [.int 1]) C hE hw (x_X4_readSum_1 l D A cy hJ M_12 iM_12 t ht ((tT_fr q_13).trans ((tT_fr q_3).trans hT)) lw hlw ((tT_fr q_13).trans ((tT_fr q_3).trans hL)) B n g_17 p0r_11) ⟨ml_X4_181, ym_X4_readSum, yv_X4_readSum, yi_X4_readSum, yc_X4_readSum⟩ yd_X4_readSum ob_1 (by decide) rfl rfl hl.1 (Nat.le_of_ble_eq_true rfl) ⟨by decide, by decide⟩ ⟨Nat.zero_le _, Nat.zero_le _⟩ dX4_readComparison_31 (fun M_19 H locs hp_19 hw => ?_)
      obtain ⟨iM_19, q_20, q_21, q_22, q_23, p0r_18⟩ := hp_19
      obtain ⟨g_24, eg_24⟩ : ∃ z : Nat → Int, z = pp_sm B n (pp_pt B n 7) g_17 := ⟨_, rfl⟩
      rw [← eg_24] at p0r_18
      have lg_24_0 : g_24 0 = (tI M_19 2 4).toInt := p0r_18.2.1.1
      have lg_24_1 : g_24 1 = (tI M_19 2 6).toInt := p0r_18.2.1.2.1
      have lg_24_4 : g_24 4 = (tI M_19 1 4).toInt := p0r_18.2.2.1.1
      have lg_24_7 : g_24 7 = (tI M_19 t 4).toInt := p0r_18.2.2.2.1.1
      have lg_24_8 : g_24 8 = (tI M_19 t 5).toInt := p0r_18.2.2.2.1.2.1
      refine lv_aload_n hx hb dX4_readComparison_34 rfl (lv_at hl 1 rfl) ?_
      refine ti_get (ci := 4) (k := 2) (N := 6) (T := TX4) (v := .ref (A lw 0)) C hw iw_4 rfl ob_1 (by decide) (by decide) fl_X4_154 rfl (ti_Tv ((tT_fr q_20).trans ((tT_fr q_13).trans ((tT_fr q_3).trans hL)))) dX4_readComparison_35 ?_
      refine lv_iload_n hx hb dX4_readComparison_38 rfl (lv_at hl 0 rfl) ?_
      refine lv_ineg hx hb dX4_readComparison_39 ?_
      refine lv_topi (fun x_25 ex_25 => ?_)
      have tx_25 : x_25.toInt = -x_8.toInt := i_neg ex_25 rfl (by omega)
      refine ti_callVv (ci := 1) (av := [.int x_25]) C hw (x_X1_add l D A cy hJ M_19 iM_19 lw hlw x_25 (by first | omega | exact Or.inl (by decide) | exact Or.inr (by decide)) t ht B n g_24 p0r_18) ⟨ml_X4_170, ym_X1_add, yv_X1_add, yi_X1_add, yc_X1_add⟩ yd_X1_add hlw (by decide) rfl rfl hl.1 (Nat.le_of_ble_eq_true rfl) ⟨by decide, by decide⟩ ⟨Nat.zero_le _, Nat.zero_le _⟩ dX4_readComparison_40 (fun M_27 H locs hp_27 hw => ?_)
      obtain ⟨iM_27, q_28, q_29, p0r_26⟩ := hp_27
      have lM_27_0 : g_24 0 = (tI M_27 2 4).toInt := p0r_26.2.1.1
      have lM_27_1 : g_24 1 = (tI M_27 2 6).toInt := p0r_26.2.1.2.1
      have lM_27_4 : g_24 4 = (tI M_27 1 4).toInt := p0r_26.2.2.1.1
      have lM_27_7 : g_24 7 = (tI M_27 t 4).toInt := p0r_26.2.2.2.1.1
      have lM_27_8 : g_24 8 = (tI M_27 t 5).toInt := p0r_26.2.2.2.1.2.1
      exact hQ _ _ _ _ _ hw (⟨iM_27, ((q_28).trans ((q_20).trans ((q_13).trans q_3))), (f0.trans (f0_x q_29) (f0.trans q_21 (f0.trans q_14 q_4))), (((q_29 1).2.1).trans ((q_22).trans ((q_15).trans q_5))), (ot.trans (ot_fx ht q_29) (ot.trans q_23 (ot.trans q_16 q_6))), (by unfold pp_cm; rw [← eg_7]; unfold pp_c2; rw [if_pos ⟨by omega, by omega⟩, ← eg_17, ← eg_24]; exact p0r_26)⟩) dX4_readComparison_43
set_option maxHeartbeats 4000000 in
set_option maxRecDepth 100000 in
theorem x_X4_readNegated_1 (l : Launch) (D : va_G) (A : Nat → Nat → Nat) (cy : Nat → ClassId) (hJ : ti_inj ti_LT A) (M : ti_M) (hI : cI Tc M) (t : Nat) (ht : t = 3 ∨ t = 4) (hT : tT M 1 1 = some t) (lw : Nat) (hlw : ti_ob ti_LT lw 1) (hL : tT M 1 2 = some lw) (B : Nat → Int) (n : Nat) (rg : Nat → Int) (hr : rC B n t rg M) : ti_KvE l yX4_readNegated cX4_readNegated 4 61 ti_LT D A cy M [.ref (A 1 0), .int 1] (fun M2 => cI Tc M2 ∧ M2.2.2.2 = M.2.2.2 ∧ f0 M2 M ∧ tI M2 2 1 = tI M 2 1 ∧ ot t M2 M ∧ rC B n t (pp_ng B n (pp_pt B n 7) rg) M2) := by
  refine ti_eVE yp_X4_readNegated hJ ti_LT_nd (Nat.le_of_ble_eq_true rfl) ?_
  intro p e s m args below meth c Q H0 C hE hQ hw ls hl
  have hx := C.1
  have hb := C.2.1
  have hl : lv_has ls 4 [(0, .ref (A 1 0)), (1, .int 1)] := hl
  have l0 : rg 0 = (tI M 2 4).toInt := hr.2.1.1
  have l1 : rg 1 = (tI M 2 6).toInt := hr.2.1.2.1
  have l2 : rg 2 = (tI M 2 5).toInt := hr.2.1.2.2.1
  have l3 : rg 3 = (tI M 2 3).toInt := hr.2.1.2.2.2
  have l4 : rg 4 = (tI M 1 4).toInt := hr.2.2.1.1
  have l5 : rg 5 = (tI M 1 5).toInt := hr.2.2.1.2.1
  have l7 : rg 7 = (tI M t 4).toInt := hr.2.2.2.1.1
  have l8 : rg 8 = (tI M t 5).toInt := hr.2.2.2.1.2.1
  have l9 : rg 9 = (tI M t 3).toInt := hr.2.2.2.1.2.2
  refine lv_iconst (v := 0) hx hb dX4_readNegated_0 (by decide) ?_
  refine lv_istore_n (lv' := [(2, .int 0), (0, .ref (A 1 0)), (1, .int 1)]) hx hb dX4_readNegated_1 rfl hl (by decide) rfl (fun ls hl => ?_)
  have hl_2_13 : ∀ (n_14 : Nat) (x_1 : Int32) (M_4 : ti_M) (g_11 : Nat → Int) (H : Heap) (locs : List Loc) (ls : Array Slot), (65 - x_1.toInt : Int).toNat < n_14 → (0 ≤ x_1.toInt) → (x_1.toInt ≤ 65) → (cI Tc M_4) → (M_4.2.2.2 = M.2.2.2) → (f0 M_4 M) → (tI M_4 2 1 = tI M 2 1) → (ot t M_4 M) → (tT M_4 1 1 = (some t)) → (tT M_4 1 2 = (some lw)) → (rC B n t g_11 M_4) → (pp_lp pp_qN (pp_kn B n) 65 rg = pp_lp pp_qN (pp_kn B n) (65 - (x_1.toInt).toNat) g_11) → ti_H ti_LT D A cy H0 M_4 H locs → lv_has ls 4 [(2, .int x_1), (0, .ref (A 1 0)), (1, .int 1)] → W p l e (ti_rm 61) s m args below meth c H locs 0 0 Q (F0 m 2 ls []) := by
    intro n_14
    induction n_14 with
    | zero => intro x_1 M_4 g_11 H locs ls hf_14; exact absurd hf_14 (Nat.not_lt_zero _)
    | succ n_14 ih_14 =>
      intro x_1 M_4 g_11 H locs ls hf_14 b_2 b_3 iM_4 f_5 f_6 f_7 f_8 f_9 f_10 hs_12 j_13 hw hl
      have lg_11_0 : g_11 0 = (tI M_4 2 4).toInt := hs_12.2.1.1
      have lg_11_1 : g_11 1 = (tI M_4 2 6).toInt := hs_12.2.1.2.1
      have lg_11_4 : g_11 4 = (tI M_4 1 4).toInt := hs_12.2.2.1.1
      have lg_11_7 : g_11 7 = (tI M_4 t 4).toInt := hs_12.2.2.2.1.1
      have lg_11_8 : g_11 8 = (tI M_4 t 5).toInt := hs_12.2.2.2.1.2.1
      refine lv_iload_n hx hb dX4_readNegated_2 rfl (lv_at hl 0 rfl) ?_
      refine lv_bipush (v := 64) hx hb dX4_readNegated_3 (by decide) ?_
      have hj_30_26 : ∀  (H : Heap) (locs : List Loc) (ls : Array Slot), (pp_lp pp_qN (pp_kn B n) 65 rg = g_11) → ti_H ti_LT D A cy H0 M_4 H locs → lv_has ls 4 [(2, .int x_1), (0, .ref (A 1 0)), (1, .int 1)] → W p l e (ti_rm 61) s m args below meth c H locs 0 0 Q (F0 m 30 ls []) := by
        intro  H locs ls j_26 hw hl
        have lg_11_0 : g_11 0 = (tI M_4 2 4).toInt := hs_12.2.1.1
        have lg_11_1 : g_11 1 = (tI M_4 2 6).toInt := hs_12.2.1.2.1
        have lg_11_4 : g_11 4 = (tI M_4 1 4).toInt := hs_12.2.2.1.1
        have lg_11_7 : g_11 7 = (tI M_4 t 4).toInt := hs_12.2.2.2.1.1
        have lg_11_8 : g_11 8 = (tI M_4 t 5).toInt := hs_12.2.2.2.1.2.1
        refine lv_aload_n hx hb dX4_readNegated_30 rfl (lv_at hl 1 rfl) ?_
        refine lv_iload_n hx hb dX4_readNegated_31 rfl (lv_at hl 2 rfl) ?_
        refine ti_callVvE (ci := 4) (av := [.int 1]) C hE hw (x_X4_readComparison_1 l D A cy hJ M_4 iM_4 t ht (f_9) lw hlw (f_10) B n g_11 hs_12) ⟨ml_X4_178, ym_X4_readComparison, yv_X4_readComparison, yi_X4_readComparison, yc_X4_readComparison⟩ yd_X4_readComparison ob_1 (by decide) rfl rfl hl.1 (Nat.le_of_ble_eq_true rfl) ⟨by decide, by decide⟩ ⟨Nat.zero_le _, Nat.zero_le _⟩ dX4_readNegated_32 (fun M_28 H locs hp_28 hw => ?_)
        obtain ⟨iM_28, q_29, q_30, q_31, q_32, p0r_27⟩ := hp_28
        obtain ⟨g_33, eg_33⟩ : ∃ z : Nat → Int, z = pp_cm B n (pp_pt B n 7) g_11 := ⟨_, rfl⟩
        rw [← eg_33] at p0r_27
        have lg_33_0 : g_33 0 = (tI M_28 2 4).toInt := p0r_27.2.1.1
        have lg_33_1 : g_33 1 = (tI M_28 2 6).toInt := p0r_27.2.1.2.1
        have lg_33_4 : g_33 4 = (tI M_28 1 4).toInt := p0r_27.2.2.1.1
        have lg_33_7 : g_33 7 = (tI M_28 t 4).toInt := p0r_27.2.2.2.1.1
        have lg_33_8 : g_33 8 = (tI M_28 t 5).toInt := p0r_27.2.2.2.1.2.1
        have EM : pp_ng B n (pp_pt B n 7) rg = g_33 := by unfold pp_ng; rw [j_26, ← eg_33]
        refine lv_iconst (v := 0) hx hb dX4_readNegated_35 (by decide) ?_
        refine lv_istore_n (lv' := [(3, .int 0), (2, .int x_1), (0, .ref (A 1 0)), (1, .int 1)]) hx hb dX4_readNegated_36 rfl hl (by decide) rfl (fun ls hl => ?_)
        have hl_37_46 : ∀ (n_47 : Nat) (x_34 : Int32) (M_37 : ti_M) (g_44 : Nat → Int) (H : Heap) (locs : List Loc) (ls : Array Slot), (65 - x_34.toInt : Int).toNat < n_47 → (0 ≤ x_34.toInt) → (x_34.toInt ≤ 65) → (cI Tc M_37) → (M_37.2.2.2 = M.2.2.2) → (f0 M_37 M) → (tI M_37 2 1 = tI M 2 1) → (ot t M_37 M) → (tT M_37 1 1 = (some t)) → (tT M_37 1 2 = (some lw)) → (rC B n t g_44 M_37) → (g_33 = g_44) → ti_H ti_LT D A cy H0 M_37 H locs → lv_has ls 4 [(3, .int x_34), (2, .int x_1), (0, .ref (A 1 0)), (1, .int 1)] → W p l e (ti_rm 61) s m args below meth c H locs 0 0 Q (F0 m 37 ls []) := by
          intro n_47
          induction n_47 with
          | zero => intro x_34 M_37 g_44 H locs ls hf_47; exact absurd hf_47 (Nat.not_lt_zero _)
          | succ n_47 ih_47 =>
            intro x_34 M_37 g_44 H locs ls hf_47 b_35 b_36 iM_37 f_38 f_39 f_40 f_41 f_42 f_43 hs_45 j_46 hw hl
            have lg_44_0 : g_44 0 = (tI M_37 2 4).toInt := hs_45.2.1.1
            have lg_44_1 : g_44 1 = (tI M_37 2 6).toInt := hs_45.2.1.2.1
            have lg_44_4 : g_44 4 = (tI M_37 1 4).toInt := hs_45.2.2.1.1
            have lg_44_7 : g_44 7 = (tI M_37 t 4).toInt := hs_45.2.2.2.1.1
            have lg_44_8 : g_44 8 = (tI M_37 t 5).toInt := hs_45.2.2.2.1.2.1
            refine lv_iload_n hx hb dX4_readNegated_37 rfl (lv_at hl 0 rfl) ?_
            refine lv_iload_n hx hb dX4_readNegated_38 rfl (lv_at hl 1 rfl) ?_
            refine sb_icmp_ge (tgt := 57) hx hb rfl rfl dX4_readNegated_39 (by decide) (fun c_39_47 => ?_) (fun c_39_47 => ?_)
            · exact hQ _ _ _ _ _ hw (⟨iM_37, (f_38), f_39, (f_40), f_41, (by rw [EM, j_46]; exact hs_45)⟩) dX4_readNegated_57
            · refine lv_aload_n hx hb dX4_readNegated_42 rfl (lv_at hl 2 rfl) ?_
              refine ti_get (ci := 4) (k := 2) (N := 6) (T := TX4) (v := .ref (A lw 0)) C hw iw_4 rfl ob_1 (by decide) (by decide) fl_X4_154 rfl (ti_Tv (f_43)) dX4_readNegated_43 ?_
              refine lv_bipush (v := (-24)) hx hb dX4_readNegated_46 (by decide) ?_
              refine ti_callVv (ci := 1) (av := [.int (-24)]) C hw (x_X1_add l D A cy hJ M_37 iM_37 lw hlw (-24) (by first | omega | exact Or.inl (by decide) | exact Or.inr (by decide)) t ht B n g_44 hs_45) ⟨ml_X4_170, ym_X1_add, yv_X1_add, yi_X1_add, yc_X1_add⟩ yd_X1_add hlw (by decide) rfl rfl hl.1 (Nat.le_of_ble_eq_true rfl) ⟨by decide, by decide⟩ ⟨Nat.zero_le _, Nat.zero_le _⟩ dX4_readNegated_48 (fun M_50 H locs hp_50 hw => ?_)
              obtain ⟨iM_50, q_51, q_52, p0r_49⟩ := hp_50
              have lM_50_0 : g_44 0 = (tI M_50 2 4).toInt := p0r_49.2.1.1
              have lM_50_1 : g_44 1 = (tI M_50 2 6).toInt := p0r_49.2.1.2.1
              have lM_50_4 : g_44 4 = (tI M_50 1 4).toInt := p0r_49.2.2.1.1
              have lM_50_7 : g_44 7 = (tI M_50 t 4).toInt := p0r_49.2.2.2.1.1
              have lM_50_8 : g_44 8 = (tI M_50 t 5).toInt := p0r_49.2.2.2.1.2.1
              obtain ⟨x_53, ex_53⟩ : ∃ z : Int32, z = x_34 + 1 := ⟨_, rfl⟩
              have tx_53 : x_53.toInt = x_34.toInt + 1 := i_add ex_53 rfl (by decide) (by omega) (by omega)
              refine lv_iinc (v := x_53) (lv' := [(3, .int x_53), (2, .int x_1), (0, .ref (A 1 0)), (1, .int 1)]) hx hb dX4_readNegated_51 hl (k := 0) rfl (by rw [ex_53]; rfl) (by decide) rfl (fun ls hl => ?_)
              refine lv_goto (tgt := 37) hx hb dX4_readNegated_54 (by decide) ?_
              exact ih_47 x_53 M_50 g_44 _ _ _ (by omega) (by first | omega | decide) (by first | omega | decide) iM_50 ((q_51).trans f_38) (f0.trans (f0_x q_52) f_39) (((q_52 1).2.1).trans f_40) (ot.trans (ot_fx ht q_52) f_41) ((tT_fr q_51).trans f_42) ((tT_fr q_51).trans f_43) p0r_49 j_46 hw (lv_sub hl [0, 1, 2, 3] rfl)
        exact hl_37_46 ((65 - 0 : Int).toNat + 1) 0 M_28 g_33 _ _ _ (Nat.lt_succ_self _) (by have lt0 : (0 : Int32).toInt = 0 := (by decide); first | omega | decide) (by have lt0 : (0 : Int32).toInt = 0 := (by decide); first | omega | decide) iM_28 ((q_29).trans f_5) (f0.trans q_30 f_6) ((q_31).trans f_7) (ot.trans q_32 f_8) ((tT_fr q_29).trans f_9) ((tT_fr q_29).trans f_10) p0r_27 rfl hw (lv_sub hl [0, 1, 2, 3] rfl)
      refine sb_icmp_gt (tgt := 30) hx hb rfl (by decide : (64 : Int32).toInt = 64) dX4_readNegated_5 (by decide) (fun c_5_14 => ?_) (fun c_5_14 => ?_)
      · exact hj_30_26  _ _ _ (by rw [j_13, lp_end (P := pp_qN) (f := 65 - x_1.toInt.toNat) (s := g_11) (Or.inl (by omega))]) hw (lv_sub hl [0, 1, 2] rfl)
      · refine lv_aload_n hx hb dX4_readNegated_8 rfl (lv_at hl 1 rfl) ?_
        refine ti_get (ci := 4) (k := 0) (N := 6) (T := TX4) (v := .ref (A 2 0)) C hw iw_4 rfl ob_1 (by decide) (by decide) fl_X4_12 rfl rfl dX4_readNegated_9 ?_
        refine ti_get (ci := 7) (k := 4) (N := 7) (T := TX7) C hw iw_7 rfl ob_2 (by decide) (by decide) fl_X4_41 rfl rfl dX4_readNegated_12 ?_
        refine lv_topi (fun x_16 ex_16 => ?_)
        have bx_16 : 0 ≤ x_16.toInt ∧ x_16.toInt ≤ 41 := cI_rd iM_4 ob_2.1 ex_16
        have ux_16 : (tI M_4 2 4).toInt = x_16.toInt := by rw [ex_16]
        refine lv_bipush (v := 24) hx hb dX4_readNegated_15 (by decide) ?_
        refine sb_icmp_ne (tgt := 30) hx hb rfl (by decide : (24 : Int32).toInt = 24) dX4_readNegated_17 (by decide) (fun c_17_16 => ?_) (fun c_17_16 => ?_)
        · exact hj_30_26  _ _ _ (by rw [j_13, lp_end (P := pp_qN) (f := 65 - x_1.toInt.toNat) (s := g_11) (Or.inr (decide_eq_false (by omega)))]) hw (lv_sub hl [0, 1, 2] rfl)
        · refine lv_aload_n hx hb dX4_readNegated_20 rfl (lv_at hl 1 rfl) ?_
          refine ti_callVvE (ci := 4) (av := []) C hE hw (x_X4_knot l D A cy hJ M_4 iM_4 t ht (f_9) B n g_11 hs_12) ⟨ml_X4_167, ym_X4_knot, yv_X4_knot, yi_X4_knot, yc_X4_knot⟩ yd_X4_knot ob_1 (by decide) rfl rfl hl.1 (Nat.le_of_ble_eq_true rfl) ⟨by decide, by decide⟩ ⟨Nat.zero_le _, Nat.zero_le _⟩ dX4_readNegated_21 (fun M_19 H locs hp_19 hw => ?_)
          obtain ⟨iM_19, q_20, q_21, q_22, q_23, p0r_18⟩ := hp_19
          obtain ⟨g_24, eg_24⟩ : ∃ z : Nat → Int, z = pp_kn B n g_11 := ⟨_, rfl⟩
          rw [← eg_24] at p0r_18
          have lg_24_0 : g_24 0 = (tI M_19 2 4).toInt := p0r_18.2.1.1
          have lg_24_1 : g_24 1 = (tI M_19 2 6).toInt := p0r_18.2.1.2.1
          have lg_24_4 : g_24 4 = (tI M_19 1 4).toInt := p0r_18.2.2.1.1
          have lg_24_7 : g_24 7 = (tI M_19 t 4).toInt := p0r_18.2.2.2.1.1
          have lg_24_8 : g_24 8 = (tI M_19 t 5).toInt := p0r_18.2.2.2.1.2.1
          obtain ⟨x_25, ex_25⟩ : ∃ z : Int32, z = x_1 + 1 := ⟨_, rfl⟩
          have tx_25 : x_25.toInt = x_1.toInt + 1 := i_add ex_25 rfl (by decide) (by omega) (by omega)
          refine lv_iinc (v := x_25) (lv' := [(2, .int x_25), (0, .ref (A 1 0)), (1, .int 1)]) hx hb dX4_readNegated_24 hl (k := 0) rfl (by rw [ex_25]; rfl) (by decide) rfl (fun ls hl => ?_)
          refine lv_goto (tgt := 2) hx hb dX4_readNegated_27 (by decide) ?_
          exact ih_14 x_25 M_19 g_24 _ _ _ (by omega) (by first | omega | decide) (by first | omega | decide) iM_19 ((q_20).trans f_5) (f0.trans q_21 f_6) ((q_22).trans f_7) (ot.trans q_23 f_8) ((tT_fr q_20).trans f_9) ((tT_fr q_20).trans f_10) p0r_18 (j_13.trans (lp_step (decide_eq_true (by omega)) (by rw [eg_24]) (by omega))) hw (lv_sub hl [0, 1, 2] rfl)
  exact hl_2_13 ((65 - 0 : Int).toNat + 1) 0 M rg _ _ _ (Nat.lt_succ_self _) (by have lt0 : (0 : Int32).toInt = 0 := (by decide); first | omega | decide) (by have lt0 : (0 : Int32).toInt = 0 := (by decide); first | omega | decide) hI rfl f0.refl rfl ot.refl (hT) (hL) hr rfl hw (lv_sub hl [0, 1, 2] rfl)
set_option maxHeartbeats 4000000 in
set_option maxRecDepth 100000 in
theorem x_X4_readBoth_1 (l : Launch) (D : va_G) (A : Nat → Nat → Nat) (cy : Nat → ClassId) (hJ : ti_inj ti_LT A) (M : ti_M) (hI : cI Tc M) (t : Nat) (ht : t = 3 ∨ t = 4) (hT : tT M 1 1 = some t) (lw : Nat) (hlw : ti_ob ti_LT lw 1) (hL : tT M 1 2 = some lw) (B : Nat → Int) (n : Nat) (rg : Nat → Int) (hr : rC B n t rg M) : ti_KvE l yX4_readBoth cX4_readBoth 3 62 ti_LT D A cy M [.ref (A 1 0), .int 1] (fun M2 => cI Tc M2 ∧ M2.2.2.2 = M.2.2.2 ∧ f0 M2 M ∧ tI M2 2 1 = tI M 2 1 ∧ ot t M2 M ∧ rC B n t (pp_bo B n (pp_pt B n 7) rg) M2) := by
  refine ti_eVE yp_X4_readBoth hJ ti_LT_nd (Nat.le_of_ble_eq_true rfl) ?_
  intro p e s m args below meth c Q H0 C hE hQ hw ls hl
  have hx := C.1
  have hb := C.2.1
  have hl : lv_has ls 3 [(0, .ref (A 1 0)), (1, .int 1)] := hl
  have l0 : rg 0 = (tI M 2 4).toInt := hr.2.1.1
  have l1 : rg 1 = (tI M 2 6).toInt := hr.2.1.2.1
  have l2 : rg 2 = (tI M 2 5).toInt := hr.2.1.2.2.1
  have l3 : rg 3 = (tI M 2 3).toInt := hr.2.1.2.2.2
  have l4 : rg 4 = (tI M 1 4).toInt := hr.2.2.1.1
  have l5 : rg 5 = (tI M 1 5).toInt := hr.2.2.1.2.1
  have l7 : rg 7 = (tI M t 4).toInt := hr.2.2.2.1.1
  have l8 : rg 8 = (tI M t 5).toInt := hr.2.2.2.1.2.1
  have l9 : rg 9 = (tI M t 3).toInt := hr.2.2.2.1.2.2
  refine lv_aload_n hx hb dX4_readBoth_0 rfl (lv_at hl 0 rfl) ?_
  refine lv_iload_n hx hb dX4_readBoth_1 rfl (lv_at hl 1 rfl) ?_
  refine ti_callVvE (ci := 4) (av := [.int 1]) C hE hw (x_X4_readNegated_1 l D A cy hJ M hI t ht (hT) lw hlw (hL) B n rg hr) ⟨ml_X4_175, ym_X4_readNegated, yv_X4_readNegated, yi_X4_readNegated, yc_X4_readNegated⟩ yd_X4_readNegated ob_1 (by decide) rfl rfl hl.1 (Nat.le_of_ble_eq_true rfl) ⟨by decide, by decide⟩ ⟨Nat.zero_le _, Nat.zero_le _⟩ dX4_readBoth_2 (fun M_2 H locs hp_2 hw => ?_)
  obtain ⟨iM_2, q_3, q_4, q_5, q_6, p0r_1⟩ := hp_2
  obtain ⟨g_7, eg_7⟩ : ∃ z : Nat → Int, z = pp_ng B n (pp_pt B n 7) rg := ⟨_, rfl⟩
  rw [← eg_7] at p0r_1
  have lg_7_0 : g_7 0 = (tI M_2 2 4).toInt := p0r_1.2.1.1
  have lg_7_1 : g_7 1 = (tI M_2 2 6).toInt := p0r_1.2.1.2.1
  have lg_7_4 : g_7 4 = (tI M_2 1 4).toInt := p0r_1.2.2.1.1
  have lg_7_7 : g_7 7 = (tI M_2 t 4).toInt := p0r_1.2.2.2.1.1
  have lg_7_8 : g_7 8 = (tI M_2 t 5).toInt := p0r_1.2.2.2.1.2.1
  refine lv_iconst (v := 0) hx hb dX4_readBoth_5 (by decide) ?_
  refine lv_istore_n (lv' := [(2, .int 0), (0, .ref (A 1 0)), (1, .int 1)]) hx hb dX4_readBoth_6 rfl hl (by decide) rfl (fun ls hl => ?_)
  have hl_7_20 : ∀ (n_21 : Nat) (x_8 : Int32) (M_11 : ti_M) (g_18 : Nat → Int) (H : Heap) (locs : List Loc) (ls : Array Slot), (64 - x_8.toInt : Int).toNat < n_21 → (0 ≤ x_8.toInt) → (x_8.toInt ≤ 64) → (cI Tc M_11) → (M_11.2.2.2 = M.2.2.2) → (f0 M_11 M) → (tI M_11 2 1 = tI M 2 1) → (ot t M_11 M) → (tT M_11 1 1 = (some t)) → (tT M_11 1 2 = (some lw)) → (rC B n t g_18 M_11) → (pp_lp pp_qA (fun s => pp_ng B n (pp_pt B n 7) (pp_kn B n s)) 64 g_7 = pp_lp pp_qA (fun s => pp_ng B n (pp_pt B n 7) (pp_kn B n s)) (64 - (x_8.toInt).toNat) g_18) → ti_H ti_LT D A cy H0 M_11 H locs → lv_has ls 3 [(2, .int x_8), (0, .ref (A 1 0)), (1, .int 1)] → W p l e (ti_rm 62) s m args below meth c H locs 0 0 Q (F0 m 7 ls []) := by
    intro n_21
    induction n_21 with
    | zero => intro x_8 M_11 g_18 H locs ls hf_21; exact absurd hf_21 (Nat.not_lt_zero _)
    | succ n_21 ih_21 =>
      intro x_8 M_11 g_18 H locs ls hf_21 b_9 b_10 iM_11 f_12 f_13 f_14 f_15 f_16 f_17 hs_19 j_20 hw hl
      have lg_18_0 : g_18 0 = (tI M_11 2 4).toInt := hs_19.2.1.1
      have lg_18_1 : g_18 1 = (tI M_11 2 6).toInt := hs_19.2.1.2.1
      have lg_18_4 : g_18 4 = (tI M_11 1 4).toInt := hs_19.2.2.1.1
      have lg_18_7 : g_18 7 = (tI M_11 t 4).toInt := hs_19.2.2.2.1.1
      have lg_18_8 : g_18 8 = (tI M_11 t 5).toInt := hs_19.2.2.2.1.2.1
      refine lv_iload_n hx hb dX4_readBoth_7 rfl (lv_at hl 0 rfl) ?_
      refine lv_bipush (v := 64) hx hb dX4_readBoth_8 (by decide) ?_
      refine sb_icmp_ge (tgt := 49) hx hb rfl (by decide : (64 : Int32).toInt = 64) dX4_readBoth_10 (by decide) (fun c_10_21 => ?_) (fun c_10_21 => ?_)
      · exact hQ _ _ _ _ _ hw (⟨iM_11, (f_12), f_13, (f_14), f_15, (by unfold pp_bo; rw [← eg_7, j_20, lp_end (P := pp_qA) (f := 64 - x_8.toInt.toNat) (s := g_18) (Or.inl (by omega))]; exact hs_19)⟩) dX4_readBoth_49
      · refine lv_aload_n hx hb dX4_readBoth_13 rfl (lv_at hl 1 rfl) ?_
        refine ti_get (ci := 4) (k := 0) (N := 6) (T := TX4) (v := .ref (A 2 0)) C hw iw_4 rfl ob_1 (by decide) (by decide) fl_X4_12 rfl rfl dX4_readBoth_14 ?_
        refine ti_get (ci := 7) (k := 4) (N := 7) (T := TX7) C hw iw_7 rfl ob_2 (by decide) (by decide) fl_X4_41 rfl rfl dX4_readBoth_17 ?_
        refine lv_topi (fun x_23 ex_23 => ?_)
        have bx_23 : 0 ≤ x_23.toInt ∧ x_23.toInt ≤ 41 := cI_rd iM_11 ob_2.1 ex_23
        have ux_23 : (tI M_11 2 4).toInt = x_23.toInt := by rw [ex_23]
        refine lv_bipush (v := 22) hx hb dX4_readBoth_20 (by decide) ?_
        refine sb_icmp_ne (tgt := 49) hx hb rfl (by decide : (22 : Int32).toInt = 22) dX4_readBoth_22 (by decide) (fun c_22_23 => ?_) (fun c_22_23 => ?_)
        · exact hQ _ _ _ _ _ hw (⟨iM_11, (f_12), f_13, (f_14), f_15, (by unfold pp_bo; rw [← eg_7, j_20, lp_end (P := pp_qA) (f := 64 - x_8.toInt.toNat) (s := g_18) (Or.inr (decide_eq_false (by omega)))]; exact hs_19)⟩) dX4_readBoth_49
        · refine lv_aload_n hx hb dX4_readBoth_25 rfl (lv_at hl 1 rfl) ?_
          refine ti_callVvE (ci := 4) (av := []) C hE hw (x_X4_knot l D A cy hJ M_11 iM_11 t ht (f_16) B n g_18 hs_19) ⟨ml_X4_167, ym_X4_knot, yv_X4_knot, yi_X4_knot, yc_X4_knot⟩ yd_X4_knot ob_1 (by decide) rfl rfl hl.1 (Nat.le_of_ble_eq_true rfl) ⟨by decide, by decide⟩ ⟨Nat.zero_le _, Nat.zero_le _⟩ dX4_readBoth_26 (fun M_26 H locs hp_26 hw => ?_)
          obtain ⟨iM_26, q_27, q_28, q_29, q_30, p0r_25⟩ := hp_26
          obtain ⟨g_31, eg_31⟩ : ∃ z : Nat → Int, z = pp_kn B n g_18 := ⟨_, rfl⟩
          rw [← eg_31] at p0r_25
          have lg_31_0 : g_31 0 = (tI M_26 2 4).toInt := p0r_25.2.1.1
          have lg_31_1 : g_31 1 = (tI M_26 2 6).toInt := p0r_25.2.1.2.1
          have lg_31_4 : g_31 4 = (tI M_26 1 4).toInt := p0r_25.2.2.1.1
          have lg_31_7 : g_31 7 = (tI M_26 t 4).toInt := p0r_25.2.2.2.1.1
          have lg_31_8 : g_31 8 = (tI M_26 t 5).toInt := p0r_25.2.2.2.1.2.1
          refine lv_aload_n hx hb dX4_readBoth_29 rfl (lv_at hl 1 rfl) ?_
          refine lv_iload_n hx hb dX4_readBoth_30 rfl (lv_at hl 2 rfl) ?_
          refine ti_callVvE (ci := 4) (av := [.int 1]) C hE hw (x_X4_readNegated_1 l D A cy hJ M_26 iM_26 t ht ((tT_fr q_27).trans f_16) lw hlw ((tT_fr q_27).trans f_17) B n g_31 p0r_25) ⟨ml_X4_175, ym_X4_readNegated, yv_X4_readNegated, yi_X4_readNegated, yc_X4_readNegated⟩ yd_X4_readNegated ob_1 (by decide) rfl rfl hl.1 (Nat.le_of_ble_eq_true rfl) ⟨by decide, by decide⟩ ⟨Nat.zero_le _, Nat.zero_le _⟩ dX4_readBoth_31 (fun M_33 H locs hp_33 hw => ?_)
          obtain ⟨iM_33, q_34, q_35, q_36, q_37, p0r_32⟩ := hp_33
          obtain ⟨g_38, eg_38⟩ : ∃ z : Nat → Int, z = pp_ng B n (pp_pt B n 7) g_31 := ⟨_, rfl⟩
          rw [← eg_38] at p0r_32
          have lg_38_0 : g_38 0 = (tI M_33 2 4).toInt := p0r_32.2.1.1
          have lg_38_1 : g_38 1 = (tI M_33 2 6).toInt := p0r_32.2.1.2.1
          have lg_38_4 : g_38 4 = (tI M_33 1 4).toInt := p0r_32.2.2.1.1
          have lg_38_7 : g_38 7 = (tI M_33 t 4).toInt := p0r_32.2.2.2.1.1
          have lg_38_8 : g_38 8 = (tI M_33 t 5).toInt := p0r_32.2.2.2.1.2.1
          refine lv_aload_n hx hb dX4_readBoth_34 rfl (lv_at hl 1 rfl) ?_
          refine ti_get (ci := 4) (k := 2) (N := 6) (T := TX4) (v := .ref (A lw 0)) C hw iw_4 rfl ob_1 (by decide) (by decide) fl_X4_154 rfl (ti_Tv ((tT_fr q_34).trans ((tT_fr q_27).trans f_17))) dX4_readBoth_35 ?_
          refine lv_bipush (v := (-22)) hx hb dX4_readBoth_38 (by decide) ?_
          refine ti_callVv (ci := 1) (av := [.int (-22)]) C hw (x_X1_add l D A cy hJ M_33 iM_33 lw hlw (-22) (by first | omega | exact Or.inl (by decide) | exact Or.inr (by decide)) t ht B n g_38 p0r_32) ⟨ml_X4_170, ym_X1_add, yv_X1_add, yi_X1_add, yc_X1_add⟩ yd_X1_add hlw (by decide) rfl rfl hl.1 (Nat.le_of_ble_eq_true rfl) ⟨by decide, by decide⟩ ⟨Nat.zero_le _, Nat.zero_le _⟩ dX4_readBoth_40 (fun M_40 H locs hp_40 hw => ?_)
          obtain ⟨iM_40, q_41, q_42, p0r_39⟩ := hp_40
          have lM_40_0 : g_38 0 = (tI M_40 2 4).toInt := p0r_39.2.1.1
          have lM_40_1 : g_38 1 = (tI M_40 2 6).toInt := p0r_39.2.1.2.1
          have lM_40_4 : g_38 4 = (tI M_40 1 4).toInt := p0r_39.2.2.1.1
          have lM_40_7 : g_38 7 = (tI M_40 t 4).toInt := p0r_39.2.2.2.1.1
          have lM_40_8 : g_38 8 = (tI M_40 t 5).toInt := p0r_39.2.2.2.1.2.1
          obtain ⟨x_43, ex_43⟩ : ∃ z : Int32, z = x_8 + 1 := ⟨_, rfl⟩
          have tx_43 : x_43.toInt = x_8.toInt + 1 := i_add ex_43 rfl (by decide) (by omega) (by omega)
          refine lv_iinc (v := x_43) (lv' := [(2, .int x_43), (0, .ref (A 1 0)), (1, .int 1)]) hx hb dX4_readBoth_43 hl (k := 0) rfl (by rw [ex_43]; rfl) (by decide) rfl (fun ls hl => ?_)
          refine lv_goto (tgt := 7) hx hb dX4_readBoth_46 (by decide) ?_
          exact ih_21 x_43 M_40 g_38 _ _ _ (by omega) (by first | omega | decide) (by first | omega | decide) iM_40 ((q_41).trans ((q_34).trans ((q_27).trans f_12))) (f0.trans (f0_x q_42) (f0.trans q_35 (f0.trans q_28 f_13))) (((q_42 1).2.1).trans ((q_36).trans ((q_29).trans f_14))) (ot.trans (ot_fx ht q_42) (ot.trans q_37 (ot.trans q_30 f_15))) ((tT_fr q_41).trans ((tT_fr q_34).trans ((tT_fr q_27).trans f_16))) ((tT_fr q_41).trans ((tT_fr q_34).trans ((tT_fr q_27).trans f_17))) p0r_39 (j_20.trans (lp_step (decide_eq_true (by omega)) (by rw [eg_38, eg_31]) (by omega))) hw (lv_sub hl [0, 1, 2] rfl)
  exact hl_7_20 ((64 - 0 : Int).toNat + 1) 0 M_2 g_7 _ _ _ (Nat.lt_succ_self _) (by have lt0 : (0 : Int32).toInt = 0 := (by decide); first | omega | decide) (by have lt0 : (0 : Int32).toInt = 0 := (by decide); first | omega | decide) iM_2 (q_3) q_4 (q_5) q_6 ((tT_fr q_3).trans hT) ((tT_fr q_3).trans hL) p0r_1 rfl hw (lv_sub hl [0, 1, 2] rfl)
set_option maxHeartbeats 4000000 in
set_option maxRecDepth 100000 in
theorem x_X4_readEither_1 (l : Launch) (D : va_G) (A : Nat → Nat → Nat) (cy : Nat → ClassId) (hJ : ti_inj ti_LT A) (M : ti_M) (hI : cI Tc M) (t : Nat) (ht : t = 3 ∨ t = 4) (hT : tT M 1 1 = some t) (lw : Nat) (hlw : ti_ob ti_LT lw 1) (hL : tT M 1 2 = some lw) (B : Nat → Int) (n : Nat) (rg : Nat → Int) (hr : rC B n t rg M) : ti_KvE l yX4_readEither cX4_readEither 3 63 ti_LT D A cy M [.ref (A 1 0), .int 1] (fun M2 => cI Tc M2 ∧ M2.2.2.2 = M.2.2.2 ∧ f0 M2 M ∧ tI M2 2 1 = tI M 2 1 ∧ ot t M2 M ∧ rC B n t (pp_ei B n (pp_pt B n 7) rg) M2) := by
  refine ti_eVE yp_X4_readEither hJ ti_LT_nd (Nat.le_of_ble_eq_true rfl) ?_
  intro p e s m args below meth c Q H0 C hE hQ hw ls hl
  have hx := C.1
  have hb := C.2.1
  have hl : lv_has ls 3 [(0, .ref (A 1 0)), (1, .int 1)] := hl
  have l0 : rg 0 = (tI M 2 4).toInt := hr.2.1.1
  have l1 : rg 1 = (tI M 2 6).toInt := hr.2.1.2.1
  have l2 : rg 2 = (tI M 2 5).toInt := hr.2.1.2.2.1
  have l3 : rg 3 = (tI M 2 3).toInt := hr.2.1.2.2.2
  have l4 : rg 4 = (tI M 1 4).toInt := hr.2.2.1.1
  have l5 : rg 5 = (tI M 1 5).toInt := hr.2.2.1.2.1
  have l7 : rg 7 = (tI M t 4).toInt := hr.2.2.2.1.1
  have l8 : rg 8 = (tI M t 5).toInt := hr.2.2.2.1.2.1
  have l9 : rg 9 = (tI M t 3).toInt := hr.2.2.2.1.2.2
  refine lv_aload_n hx hb dX4_readEither_0 rfl (lv_at hl 0 rfl) ?_
  refine lv_iload_n hx hb dX4_readEither_1 rfl (lv_at hl 1 rfl) ?_
  refine ti_callVvE (ci := 4) (av := [.int 1]) C hE hw (x_X4_readBoth_1 l D A cy hJ M hI t ht (hT) lw hlw (hL) B n rg hr) ⟨ml_X4_164, ym_X4_readBoth, yv_X4_readBoth, yi_X4_readBoth, yc_X4_readBoth⟩ yd_X4_readBoth ob_1 (by decide) rfl rfl hl.1 (Nat.le_of_ble_eq_true rfl) ⟨by decide, by decide⟩ ⟨Nat.zero_le _, Nat.zero_le _⟩ dX4_readEither_2 (fun M_2 H locs hp_2 hw => ?_)
  obtain ⟨iM_2, q_3, q_4, q_5, q_6, p0r_1⟩ := hp_2
  obtain ⟨g_7, eg_7⟩ : ∃ z : Nat → Int, z = pp_bo B n (pp_pt B n 7) rg := ⟨_, rfl⟩
  rw [← eg_7] at p0r_1
  have lg_7_0 : g_7 0 = (tI M_2 2 4).toInt := p0r_1.2.1.1
  have lg_7_1 : g_7 1 = (tI M_2 2 6).toInt := p0r_1.2.1.2.1
  have lg_7_4 : g_7 4 = (tI M_2 1 4).toInt := p0r_1.2.2.1.1
  have lg_7_7 : g_7 7 = (tI M_2 t 4).toInt := p0r_1.2.2.2.1.1
  have lg_7_8 : g_7 8 = (tI M_2 t 5).toInt := p0r_1.2.2.2.1.2.1
  refine lv_iconst (v := 0) hx hb dX4_readEither_5 (by decide) ?_
  refine lv_istore_n (lv' := [(2, .int 0), (0, .ref (A 1 0)), (1, .int 1)]) hx hb dX4_readEither_6 rfl hl (by decide) rfl (fun ls hl => ?_)
  have hl_7_20 : ∀ (n_21 : Nat) (x_8 : Int32) (M_11 : ti_M) (g_18 : Nat → Int) (H : Heap) (locs : List Loc) (ls : Array Slot), (64 - x_8.toInt : Int).toNat < n_21 → (0 ≤ x_8.toInt) → (x_8.toInt ≤ 64) → (cI Tc M_11) → (M_11.2.2.2 = M.2.2.2) → (f0 M_11 M) → (tI M_11 2 1 = tI M 2 1) → (ot t M_11 M) → (tT M_11 1 1 = (some t)) → (tT M_11 1 2 = (some lw)) → (rC B n t g_18 M_11) → (pp_lp pp_qO (fun s => pp_bo B n (pp_pt B n 7) (pp_kn B n s)) 64 g_7 = pp_lp pp_qO (fun s => pp_bo B n (pp_pt B n 7) (pp_kn B n s)) (64 - (x_8.toInt).toNat) g_18) → ti_H ti_LT D A cy H0 M_11 H locs → lv_has ls 3 [(2, .int x_8), (0, .ref (A 1 0)), (1, .int 1)] → W p l e (ti_rm 63) s m args below meth c H locs 0 0 Q (F0 m 7 ls []) := by
    intro n_21
    induction n_21 with
    | zero => intro x_8 M_11 g_18 H locs ls hf_21; exact absurd hf_21 (Nat.not_lt_zero _)
    | succ n_21 ih_21 =>
      intro x_8 M_11 g_18 H locs ls hf_21 b_9 b_10 iM_11 f_12 f_13 f_14 f_15 f_16 f_17 hs_19 j_20 hw hl
      have lg_18_0 : g_18 0 = (tI M_11 2 4).toInt := hs_19.2.1.1
      have lg_18_1 : g_18 1 = (tI M_11 2 6).toInt := hs_19.2.1.2.1
      have lg_18_4 : g_18 4 = (tI M_11 1 4).toInt := hs_19.2.2.1.1
      have lg_18_7 : g_18 7 = (tI M_11 t 4).toInt := hs_19.2.2.2.1.1
      have lg_18_8 : g_18 8 = (tI M_11 t 5).toInt := hs_19.2.2.2.1.2.1
      refine lv_iload_n hx hb dX4_readEither_7 rfl (lv_at hl 0 rfl) ?_
      refine lv_bipush (v := 64) hx hb dX4_readEither_8 (by decide) ?_
      refine sb_icmp_ge (tgt := 49) hx hb rfl (by decide : (64 : Int32).toInt = 64) dX4_readEither_10 (by decide) (fun c_10_21 => ?_) (fun c_10_21 => ?_)
      · exact hQ _ _ _ _ _ hw (⟨iM_11, (f_12), f_13, (f_14), f_15, (by unfold pp_ei; rw [← eg_7, j_20, lp_end (P := pp_qO) (f := 64 - x_8.toInt.toNat) (s := g_18) (Or.inl (by omega))]; exact hs_19)⟩) dX4_readEither_49
      · refine lv_aload_n hx hb dX4_readEither_13 rfl (lv_at hl 1 rfl) ?_
        refine ti_get (ci := 4) (k := 0) (N := 6) (T := TX4) (v := .ref (A 2 0)) C hw iw_4 rfl ob_1 (by decide) (by decide) fl_X4_12 rfl rfl dX4_readEither_14 ?_
        refine ti_get (ci := 7) (k := 4) (N := 7) (T := TX7) C hw iw_7 rfl ob_2 (by decide) (by decide) fl_X4_41 rfl rfl dX4_readEither_17 ?_
        refine lv_topi (fun x_23 ex_23 => ?_)
        have bx_23 : 0 ≤ x_23.toInt ∧ x_23.toInt ≤ 41 := cI_rd iM_11 ob_2.1 ex_23
        have ux_23 : (tI M_11 2 4).toInt = x_23.toInt := by rw [ex_23]
        refine lv_bipush (v := 23) hx hb dX4_readEither_20 (by decide) ?_
        refine sb_icmp_ne (tgt := 49) hx hb rfl (by decide : (23 : Int32).toInt = 23) dX4_readEither_22 (by decide) (fun c_22_23 => ?_) (fun c_22_23 => ?_)
        · exact hQ _ _ _ _ _ hw (⟨iM_11, (f_12), f_13, (f_14), f_15, (by unfold pp_ei; rw [← eg_7, j_20, lp_end (P := pp_qO) (f := 64 - x_8.toInt.toNat) (s := g_18) (Or.inr (decide_eq_false (by omega)))]; exact hs_19)⟩) dX4_readEither_49
        · refine lv_aload_n hx hb dX4_readEither_25 rfl (lv_at hl 1 rfl) ?_
          refine ti_callVvE (ci := 4) (av := []) C hE hw (x_X4_knot l D A cy hJ M_11 iM_11 t ht (f_16) B n g_18 hs_19) ⟨ml_X4_167, ym_X4_knot, yv_X4_knot, yi_X4_knot, yc_X4_knot⟩ yd_X4_knot ob_1 (by decide) rfl rfl hl.1 (Nat.le_of_ble_eq_true rfl) ⟨by decide, by decide⟩ ⟨Nat.zero_le _, Nat.zero_le _⟩ dX4_readEither_26 (fun M_26 H locs hp_26 hw => ?_)
          obtain ⟨iM_26, q_27, q_28, q_29, q_30, p0r_25⟩ := hp_26
          obtain ⟨g_31, eg_31⟩ : ∃ z : Nat → Int, z = pp_kn B n g_18 := ⟨_, rfl⟩
          rw [← eg_31] at p0r_25
          have lg_31_0 : g_31 0 = (tI M_26 2 4).toInt := p0r_25.2.1.1
          have lg_31_1 : g_31 1 = (tI M_26 2 6).toInt := p0r_25.2.1.2.1
          have lg_31_4 : g_31 4 = (tI M_26 1 4).toInt := p0r_25.2.2.1.1
          have lg_31_7 : g_31 7 = (tI M_26 t 4).toInt := p0r_25.2.2.2.1.1
          have lg_31_8 : g_31 8 = (tI M_26 t 5).toInt := p0r_25.2.2.2.1.2.1
          refine lv_aload_n hx hb dX4_readEither_29 rfl (lv_at hl 1 rfl) ?_
          refine lv_iload_n hx hb dX4_readEither_30 rfl (lv_at hl 2 rfl) ?_
          refine ti_callVvE (ci := 4) (av := [.int 1]) C hE hw (x_X4_readBoth_1 l D A cy hJ M_26 iM_26 t ht ((tT_fr q_27).trans f_16) lw hlw ((tT_fr q_27).trans f_17) B n g_31 p0r_25) ⟨ml_X4_164, ym_X4_readBoth, yv_X4_readBoth, yi_X4_readBoth, yc_X4_readBoth⟩ yd_X4_readBoth ob_1 (by decide) rfl rfl hl.1 (Nat.le_of_ble_eq_true rfl) ⟨by decide, by decide⟩ ⟨Nat.zero_le _, Nat.zero_le _⟩ dX4_readEither_31 (fun M_33 H locs hp_33 hw => ?_)
          obtain ⟨iM_33, q_34, q_35, q_36, q_37, p0r_32⟩ := hp_33
          obtain ⟨g_38, eg_38⟩ : ∃ z : Nat → Int, z = pp_bo B n (pp_pt B n 7) g_31 := ⟨_, rfl⟩
          rw [← eg_38] at p0r_32
          have lg_38_0 : g_38 0 = (tI M_33 2 4).toInt := p0r_32.2.1.1
          have lg_38_1 : g_38 1 = (tI M_33 2 6).toInt := p0r_32.2.1.2.1
          have lg_38_4 : g_38 4 = (tI M_33 1 4).toInt := p0r_32.2.2.1.1
          have lg_38_7 : g_38 7 = (tI M_33 t 4).toInt := p0r_32.2.2.2.1.1
          have lg_38_8 : g_38 8 = (tI M_33 t 5).toInt := p0r_32.2.2.2.1.2.1
          refine lv_aload_n hx hb dX4_readEither_34 rfl (lv_at hl 1 rfl) ?_
          refine ti_get (ci := 4) (k := 2) (N := 6) (T := TX4) (v := .ref (A lw 0)) C hw iw_4 rfl ob_1 (by decide) (by decide) fl_X4_154 rfl (ti_Tv ((tT_fr q_34).trans ((tT_fr q_27).trans f_17))) dX4_readEither_35 ?_
          refine lv_bipush (v := (-23)) hx hb dX4_readEither_38 (by decide) ?_
          refine ti_callVv (ci := 1) (av := [.int (-23)]) C hw (x_X1_add l D A cy hJ M_33 iM_33 lw hlw (-23) (by first | omega | exact Or.inl (by decide) | exact Or.inr (by decide)) t ht B n g_38 p0r_32) ⟨ml_X4_170, ym_X1_add, yv_X1_add, yi_X1_add, yc_X1_add⟩ yd_X1_add hlw (by decide) rfl rfl hl.1 (Nat.le_of_ble_eq_true rfl) ⟨by decide, by decide⟩ ⟨Nat.zero_le _, Nat.zero_le _⟩ dX4_readEither_40 (fun M_40 H locs hp_40 hw => ?_)
          obtain ⟨iM_40, q_41, q_42, p0r_39⟩ := hp_40
          have lM_40_0 : g_38 0 = (tI M_40 2 4).toInt := p0r_39.2.1.1
          have lM_40_1 : g_38 1 = (tI M_40 2 6).toInt := p0r_39.2.1.2.1
          have lM_40_4 : g_38 4 = (tI M_40 1 4).toInt := p0r_39.2.2.1.1
          have lM_40_7 : g_38 7 = (tI M_40 t 4).toInt := p0r_39.2.2.2.1.1
          have lM_40_8 : g_38 8 = (tI M_40 t 5).toInt := p0r_39.2.2.2.1.2.1
          obtain ⟨x_43, ex_43⟩ : ∃ z : Int32, z = x_8 + 1 := ⟨_, rfl⟩
          have tx_43 : x_43.toInt = x_8.toInt + 1 := i_add ex_43 rfl (by decide) (by omega) (by omega)
          refine lv_iinc (v := x_43) (lv' := [(2, .int x_43), (0, .ref (A 1 0)), (1, .int 1)]) hx hb dX4_readEither_43 hl (k := 0) rfl (by rw [ex_43]; rfl) (by decide) rfl (fun ls hl => ?_)
          refine lv_goto (tgt := 7) hx hb dX4_readEither_46 (by decide) ?_
          exact ih_21 x_43 M_40 g_38 _ _ _ (by omega) (by first | omega | decide) (by first | omega | decide) iM_40 ((q_41).trans ((q_34).trans ((q_27).trans f_12))) (f0.trans (f0_x q_42) (f0.trans q_35 (f0.trans q_28 f_13))) (((q_42 1).2.1).trans ((q_36).trans ((q_29).trans f_14))) (ot.trans (ot_fx ht q_42) (ot.trans q_37 (ot.trans q_30 f_15))) ((tT_fr q_41).trans ((tT_fr q_34).trans ((tT_fr q_27).trans f_16))) ((tT_fr q_41).trans ((tT_fr q_34).trans ((tT_fr q_27).trans f_17))) p0r_39 (j_20.trans (lp_step (decide_eq_true (by omega)) (by rw [eg_38, eg_31]) (by omega))) hw (lv_sub hl [0, 1, 2] rfl)
  exact hl_7_20 ((64 - 0 : Int).toNat + 1) 0 M_2 g_7 _ _ _ (Nat.lt_succ_self _) (by have lt0 : (0 : Int32).toInt = 0 := (by decide); first | omega | decide) (by have lt0 : (0 : Int32).toInt = 0 := (by decide); first | omega | decide) iM_2 (q_3) q_4 (q_5) q_6 ((tT_fr q_3).trans hT) ((tT_fr q_3).trans hL) p0r_1 rfl hw (lv_sub hl [0, 1, 2] rfl)
set_option maxHeartbeats 4000000 in
set_option maxRecDepth 100000 in
theorem x_X4_readPart_0 (l : Launch) (D : va_G) (A : Nat → Nat → Nat) (cy : Nat → ClassId) (hJ : ti_inj ti_LT A) (M : ti_M) (hI : cI Tc M) (t : Nat) (ht : t = 3 ∨ t = 4) (hT : tT M 1 1 = some t) (lw : Nat) (hlw : ti_ob ti_LT lw 1) (hL : tT M 1 2 = some lw) (B : Nat → Int) (n : Nat) (rg : Nat → Int) (hr : rC B n t rg M) : ti_KvE l yX4_readPart cX4_readPart 3 64 ti_LT D A cy M [.ref (A 1 0), .int 0] (fun M2 => cI Tc M2 ∧ M2.2.2.2 = M.2.2.2 ∧ f0 M2 M ∧ tI M2 2 1 = tI M 2 1 ∧ ot t M2 M ∧ rC B n t (pp_pt B n 8 rg) M2) := by
  refine ti_eVE yp_X4_readPart hJ ti_LT_nd (Nat.le_of_ble_eq_true rfl) ?_
  intro p e s m args below meth c Q H0 C hE hQ hw ls hl
  have hx := C.1
  have hb := C.2.1
  have hl : lv_has ls 3 [(0, .ref (A 1 0)), (1, .int 0)] := hl
  have l0 : rg 0 = (tI M 2 4).toInt := hr.2.1.1
  have l1 : rg 1 = (tI M 2 6).toInt := hr.2.1.2.1
  have l2 : rg 2 = (tI M 2 5).toInt := hr.2.1.2.2.1
  have l3 : rg 3 = (tI M 2 3).toInt := hr.2.1.2.2.2
  have l4 : rg 4 = (tI M 1 4).toInt := hr.2.2.1.1
  have l5 : rg 5 = (tI M 1 5).toInt := hr.2.2.1.2.1
  have l7 : rg 7 = (tI M t 4).toInt := hr.2.2.2.1.1
  have l8 : rg 8 = (tI M t 5).toInt := hr.2.2.2.1.2.1
  have l9 : rg 9 = (tI M t 3).toInt := hr.2.2.2.1.2.2
  refine lv_aload_n hx hb dX4_readPart_0 rfl (lv_at hl 0 rfl) ?_
  refine ti_get (ci := 4) (k := 0) (N := 6) (T := TX4) (v := .ref (A 2 0)) C hw iw_4 rfl ob_1 (by decide) (by decide) fl_X4_12 rfl rfl dX4_readPart_1 ?_
  refine ti_get (ci := 7) (k := 4) (N := 7) (T := TX7) C hw iw_7 rfl ob_2 (by decide) (by decide) fl_X4_41 rfl rfl dX4_readPart_4 ?_
  refine lv_topi (fun x_1 ex_1 => ?_)
  have bx_1 : 0 ≤ x_1.toInt ∧ x_1.toInt ≤ 41 := cI_rd hI ob_2.1 ex_1
  have ux_1 : (tI M 2 4).toInt = x_1.toInt := by rw [ex_1]
  refine lv_istore_n (lv' := [(2, .int x_1), (0, .ref (A 1 0)), (1, .int 0)]) hx hb dX4_readPart_7 rfl hl (by decide) rfl (fun ls hl => ?_)
  refine lv_iload_n hx hb dX4_readPart_8 rfl (lv_at hl 0 rfl) ?_
  refine lv_bipush (v := 30) hx hb dX4_readPart_9 (by decide) ?_
  refine sb_icmp_ne (tgt := 28) hx hb rfl (by decide : (30 : Int32).toInt = 30) dX4_readPart_11 (by decide) (fun c_11_1 => ?_) (fun c_11_1 => ?_)
  · refine lv_iload_n hx hb dX4_readPart_28 rfl (lv_at hl 0 rfl) ?_
    refine lv_bipush (v := 30) hx hb dX4_readPart_29 (by decide) ?_
    refine sb_icmp_ne (tgt := 57) hx hb rfl (by decide : (30 : Int32).toInt = 30) dX4_readPart_31 (by decide) (fun c_31_3 => ?_) (fun h => by omega)
    refine lv_iload_n hx hb dX4_readPart_57 rfl (lv_at hl 0 rfl) ?_
    refine lv_bipush (v := 26) hx hb dX4_readPart_58 (by decide) ?_
    refine sb_icmp_ne (tgt := 84) hx hb rfl (by decide : (26 : Int32).toInt = 26) dX4_readPart_60 (by decide) (fun c_60_26 => ?_) (fun c_60_26 => ?_)
    · refine lv_iload_n hx hb dX4_readPart_84 rfl (lv_at hl 0 rfl) ?_
      refine lv_bipush (v := 26) hx hb dX4_readPart_85 (by decide) ?_
      refine sb_icmp_ne (tgt := 111) hx hb rfl (by decide : (26 : Int32).toInt = 26) dX4_readPart_87 (by decide) (fun c_87_35 => ?_) (fun h => by omega)
      refine lv_iload_n hx hb dX4_readPart_111 rfl (lv_at hl 0 rfl) ?_
      refine lv_bipush (v := 16) hx hb dX4_readPart_112 (by decide) ?_
      refine sb_icmp_lt (tgt := 139) hx hb rfl (by decide : (16 : Int32).toInt = 16) dX4_readPart_114 (by decide) (fun c_114_49 => ?_) (fun c_114_49 => ?_)
      · refine lv_aload_n hx hb dX4_readPart_139 rfl (lv_at hl 1 rfl) ?_
        refine lv_iconst (v := 1) hx hb dX4_readPart_140 (by decide) ?_
        refine ti_callVv (ci := 4) (av := [.int 1]) C hw (x_X4_refuse l D A cy hJ M hI t ht 1 B n rg hr) ⟨ml_X4_82, ym_X4_refuse, yv_X4_refuse, yi_X4_refuse, yc_X4_refuse⟩ yd_X4_refuse ob_1 (by decide) rfl rfl hl.1 (Nat.le_of_ble_eq_true rfl) ⟨by decide, by decide⟩ ⟨Nat.zero_le _, Nat.zero_le _⟩ dX4_readPart_141 (fun M_65 H locs hp_65 hw => ?_)
        obtain ⟨iM_65, q_66, q_67, q_68, p0r_64⟩ := hp_65
        have hlr_64_1 : (1 : Int32).toInt = 1 := by decide
        simp only [hlr_64_1] at p0r_64
        obtain ⟨g_69, eg_69⟩ : ∃ z : Nat → Int, z = pp_rf 1 rg := ⟨_, rfl⟩
        rw [← eg_69] at p0r_64
        have lg_69_0 : g_69 0 = (tI M_65 2 4).toInt := p0r_64.2.1.1
        have lg_69_1 : g_69 1 = (tI M_65 2 6).toInt := p0r_64.2.1.2.1
        have lg_69_4 : g_69 4 = (tI M_65 1 4).toInt := p0r_64.2.2.1.1
        have lg_69_7 : g_69 7 = (tI M_65 t 4).toInt := p0r_64.2.2.2.1.1
        have lg_69_8 : g_69 8 = (tI M_65 t 5).toInt := p0r_64.2.2.2.1.2.1
        exact hQ _ _ _ _ _ hw (⟨iM_65, (q_66), (f0_12 q_67), (q_68), (ot_12 ht q_67), (by rw [pe_8, if_neg (by omega)]; unfold pp_p0; rw [if_neg (by omega), if_neg (fun q => by omega), ← eg_69]; exact p0r_64)⟩) dX4_readPart_144
      · refine lv_iload_n hx hb dX4_readPart_117 rfl (lv_at hl 0 rfl) ?_
        refine lv_bipush (v := 21) hx hb dX4_readPart_118 (by decide) ?_
        refine sb_icmp_gt (tgt := 139) hx hb rfl (by decide : (21 : Int32).toInt = 21) dX4_readPart_120 (by decide) (fun c_120_50 => ?_) (fun c_120_50 => ?_)
        · refine lv_aload_n hx hb dX4_readPart_139 rfl (lv_at hl 1 rfl) ?_
          refine lv_iconst (v := 1) hx hb dX4_readPart_140 (by decide) ?_
          refine ti_callVv (ci := 4) (av := [.int 1]) C hw (x_X4_refuse l D A cy hJ M hI t ht 1 B n rg hr) ⟨ml_X4_82, ym_X4_refuse, yv_X4_refuse, yi_X4_refuse, yc_X4_refuse⟩ yd_X4_refuse ob_1 (by decide) rfl rfl hl.1 (Nat.le_of_ble_eq_true rfl) ⟨by decide, by decide⟩ ⟨Nat.zero_le _, Nat.zero_le _⟩ dX4_readPart_141 (fun M_71 H locs hp_71 hw => ?_)
          obtain ⟨iM_71, q_72, q_73, q_74, p0r_70⟩ := hp_71
          have hlr_70_1 : (1 : Int32).toInt = 1 := by decide
          simp only [hlr_70_1] at p0r_70
          obtain ⟨g_75, eg_75⟩ : ∃ z : Nat → Int, z = pp_rf 1 rg := ⟨_, rfl⟩
          rw [← eg_75] at p0r_70
          have lg_75_0 : g_75 0 = (tI M_71 2 4).toInt := p0r_70.2.1.1
          have lg_75_1 : g_75 1 = (tI M_71 2 6).toInt := p0r_70.2.1.2.1
          have lg_75_4 : g_75 4 = (tI M_71 1 4).toInt := p0r_70.2.2.1.1
          have lg_75_7 : g_75 7 = (tI M_71 t 4).toInt := p0r_70.2.2.2.1.1
          have lg_75_8 : g_75 8 = (tI M_71 t 5).toInt := p0r_70.2.2.2.1.2.1
          exact hQ _ _ _ _ _ hw (⟨iM_71, (q_72), (f0_12 q_73), (q_74), (ot_12 ht q_73), (by rw [pe_8, if_neg (by omega)]; unfold pp_p0; rw [if_neg (by omega), if_neg (fun q => by omega), ← eg_75]; exact p0r_70)⟩) dX4_readPart_144
        · refine lv_aload_n hx hb dX4_readPart_123 rfl (lv_at hl 1 rfl) ?_
          refine ti_get (ci := 4) (k := 2) (N := 6) (T := TX4) (v := .ref (A lw 0)) C hw iw_4 rfl ob_1 (by decide) (by decide) fl_X4_154 rfl (ti_Tv (hL)) dX4_readPart_124 ?_
          refine lv_iload_n hx hb dX4_readPart_127 rfl (lv_at hl 0 rfl) ?_
          refine lv_ineg hx hb dX4_readPart_128 ?_
          refine lv_topi (fun x_52 ex_52 => ?_)
          have tx_52 : x_52.toInt = -x_1.toInt := i_neg ex_52 rfl (by omega)
          refine ti_callVv (ci := 1) (av := [.int x_52]) C hw (x_X1_add l D A cy hJ M hI lw hlw x_52 (by first | omega | exact Or.inl (by decide) | exact Or.inr (by decide)) t ht B n rg hr) ⟨ml_X4_170, ym_X1_add, yv_X1_add, yi_X1_add, yc_X1_add⟩ yd_X1_add hlw (by decide) rfl rfl hl.1 (Nat.le_of_ble_eq_true rfl) ⟨by decide, by decide⟩ ⟨Nat.zero_le _, Nat.zero_le _⟩ dX4_readPart_129 (fun M_54 H locs hp_54 hw => ?_)
          obtain ⟨iM_54, q_55, q_56, p0r_53⟩ := hp_54
          have lM_54_0 : rg 0 = (tI M_54 2 4).toInt := p0r_53.2.1.1
          have lM_54_1 : rg 1 = (tI M_54 2 6).toInt := p0r_53.2.1.2.1
          have lM_54_4 : rg 4 = (tI M_54 1 4).toInt := p0r_53.2.2.1.1
          have lM_54_7 : rg 7 = (tI M_54 t 4).toInt := p0r_53.2.2.2.1.1
          have lM_54_8 : rg 8 = (tI M_54 t 5).toInt := p0r_53.2.2.2.1.2.1
          refine lv_aload_n hx hb dX4_readPart_132 rfl (lv_at hl 1 rfl) ?_
          refine ti_callVvE (ci := 4) (av := []) C hE hw (x_X4_knot l D A cy hJ M_54 iM_54 t ht ((tT_fr q_55).trans hT) B n rg p0r_53) ⟨ml_X4_167, ym_X4_knot, yv_X4_knot, yi_X4_knot, yc_X4_knot⟩ yd_X4_knot ob_1 (by decide) rfl rfl hl.1 (Nat.le_of_ble_eq_true rfl) ⟨by decide, by decide⟩ ⟨Nat.zero_le _, Nat.zero_le _⟩ dX4_readPart_133 (fun M_58 H locs hp_58 hw => ?_)
          obtain ⟨iM_58, q_59, q_60, q_61, q_62, p0r_57⟩ := hp_58
          obtain ⟨g_63, eg_63⟩ : ∃ z : Nat → Int, z = pp_kn B n rg := ⟨_, rfl⟩
          rw [← eg_63] at p0r_57
          have lg_63_0 : g_63 0 = (tI M_58 2 4).toInt := p0r_57.2.1.1
          have lg_63_1 : g_63 1 = (tI M_58 2 6).toInt := p0r_57.2.1.2.1
          have lg_63_4 : g_63 4 = (tI M_58 1 4).toInt := p0r_57.2.2.1.1
          have lg_63_7 : g_63 7 = (tI M_58 t 4).toInt := p0r_57.2.2.2.1.1
          have lg_63_8 : g_63 8 = (tI M_58 t 5).toInt := p0r_57.2.2.2.1.2.1
          refine lv_goto (tgt := 144) hx hb dX4_readPart_136 (by decide) ?_
          exact hQ _ _ _ _ _ hw (⟨iM_58, ((q_59).trans q_55), (f0.trans q_60 (f0_x q_56)), ((q_61).trans ((q_56 1).2.1)), (ot.trans q_62 (ot_fx ht q_56)), (by rw [pe_8, if_neg (by omega)]; unfold pp_p0; rw [if_neg (by omega), if_pos ⟨by omega, by omega⟩, ← eg_63]; exact p0r_57)⟩) dX4_readPart_144
    · refine lv_aload_n hx hb dX4_readPart_63 rfl (lv_at hl 1 rfl) ?_
      refine ti_get (ci := 4) (k := 0) (N := 6) (T := TX4) (v := .ref (A 2 0)) C hw iw_4 rfl ob_1 (by decide) (by decide) fl_X4_12 rfl rfl dX4_readPart_64 ?_
      refine ti_get (ci := 7) (k := 6) (N := 7) (T := TX7) C hw iw_7 rfl ob_2 (by decide) (by decide) fl_X4_95 rfl rfl dX4_readPart_67 ?_
      refine lv_topi (fun x_28 ex_28 => ?_)
      have bx_28 : 0 ≤ x_28.toInt ∧ x_28.toInt ≤ 2147483647 := cI_rd hI ob_2.1 ex_28
      have ux_28 : (tI M 2 6).toInt = x_28.toInt := by rw [ex_28]
      refine lv_sipush (v := 9999) hx hb dX4_readPart_70 (by decide) ?_
      refine sb_icmp_le (tgt := 84) hx hb rfl (by decide : (9999 : Int32).toInt = 9999) dX4_readPart_73 (by decide) (fun c_73_28 => ?_) (fun c_73_28 => ?_)
      · refine lv_iload_n hx hb dX4_readPart_84 rfl (lv_at hl 0 rfl) ?_
        refine lv_bipush (v := 26) hx hb dX4_readPart_85 (by decide) ?_
        refine sb_icmp_ne (tgt := 111) hx hb rfl (by decide : (26 : Int32).toInt = 26) dX4_readPart_87 (by decide) (fun h => by omega) (fun c_87_36 => ?_)
        refine lv_aload_n hx hb dX4_readPart_90 rfl (lv_at hl 1 rfl) ?_
        refine ti_get (ci := 4) (k := 2) (N := 6) (T := TX4) (v := .ref (A lw 0)) C hw iw_4 rfl ob_1 (by decide) (by decide) fl_X4_154 rfl (ti_Tv (hL)) dX4_readPart_91 ?_
        refine lv_aload_n hx hb dX4_readPart_94 rfl (lv_at hl 1 rfl) ?_
        refine ti_get (ci := 4) (k := 0) (N := 6) (T := TX4) (v := .ref (A 2 0)) C hw iw_4 rfl ob_1 (by decide) (by decide) fl_X4_12 rfl rfl dX4_readPart_95 ?_
        refine ti_get (ci := 7) (k := 6) (N := 7) (T := TX7) C hw iw_7 rfl ob_2 (by decide) (by decide) fl_X4_95 rfl rfl dX4_readPart_98 ?_
        refine ti_top (y := x_28) (ex_28.symm) ?_
        have u_38 : (tI M 2 6).toInt = (x_28 : Int32).toInt := by rw [(ex_28.symm)]
        refine ti_callVv (ci := 1) (av := [.int x_28]) C hw (x_X1_add l D A cy hJ M hI lw hlw x_28 (by first | omega | exact Or.inl (by decide) | exact Or.inr (by decide)) t ht B n rg hr) ⟨ml_X4_170, ym_X1_add, yv_X1_add, yi_X1_add, yc_X1_add⟩ yd_X1_add hlw (by decide) rfl rfl hl.1 (Nat.le_of_ble_eq_true rfl) ⟨by decide, by decide⟩ ⟨Nat.zero_le _, Nat.zero_le _⟩ dX4_readPart_101 (fun M_40 H locs hp_40 hw => ?_)
        obtain ⟨iM_40, q_41, q_42, p0r_39⟩ := hp_40
        have lM_40_0 : rg 0 = (tI M_40 2 4).toInt := p0r_39.2.1.1
        have lM_40_1 : rg 1 = (tI M_40 2 6).toInt := p0r_39.2.1.2.1
        have lM_40_4 : rg 4 = (tI M_40 1 4).toInt := p0r_39.2.2.1.1
        have lM_40_7 : rg 7 = (tI M_40 t 4).toInt := p0r_39.2.2.2.1.1
        have lM_40_8 : rg 8 = (tI M_40 t 5).toInt := p0r_39.2.2.2.1.2.1
        refine lv_aload_n hx hb dX4_readPart_104 rfl (lv_at hl 1 rfl) ?_
        refine ti_callVvE (ci := 4) (av := []) C hE hw (x_X4_knot l D A cy hJ M_40 iM_40 t ht ((tT_fr q_41).trans hT) B n rg p0r_39) ⟨ml_X4_167, ym_X4_knot, yv_X4_knot, yi_X4_knot, yc_X4_knot⟩ yd_X4_knot ob_1 (by decide) rfl rfl hl.1 (Nat.le_of_ble_eq_true rfl) ⟨by decide, by decide⟩ ⟨Nat.zero_le _, Nat.zero_le _⟩ dX4_readPart_105 (fun M_44 H locs hp_44 hw => ?_)
        obtain ⟨iM_44, q_45, q_46, q_47, q_48, p0r_43⟩ := hp_44
        obtain ⟨g_49, eg_49⟩ : ∃ z : Nat → Int, z = pp_kn B n rg := ⟨_, rfl⟩
        rw [← eg_49] at p0r_43
        have lg_49_0 : g_49 0 = (tI M_44 2 4).toInt := p0r_43.2.1.1
        have lg_49_1 : g_49 1 = (tI M_44 2 6).toInt := p0r_43.2.1.2.1
        have lg_49_4 : g_49 4 = (tI M_44 1 4).toInt := p0r_43.2.2.1.1
        have lg_49_7 : g_49 7 = (tI M_44 t 4).toInt := p0r_43.2.2.2.1.1
        have lg_49_8 : g_49 8 = (tI M_44 t 5).toInt := p0r_43.2.2.2.1.2.1
        refine lv_goto (tgt := 144) hx hb dX4_readPart_108 (by decide) ?_
        exact hQ _ _ _ _ _ hw (⟨iM_44, ((q_45).trans q_41), (f0.trans q_46 (f0_x q_42)), ((q_47).trans ((q_42 1).2.1)), (ot.trans q_48 (ot_fx ht q_42)), (by rw [pe_8, if_neg (by omega)]; unfold pp_p0; rw [if_pos (by omega), if_neg (by omega), ← eg_49]; exact p0r_43)⟩) dX4_readPart_144
      · refine lv_aload_n hx hb dX4_readPart_76 rfl (lv_at hl 1 rfl) ?_
        refine lv_iconst (v := 2) hx hb dX4_readPart_77 (by decide) ?_
        refine ti_callVv (ci := 4) (av := [.int 2]) C hw (x_X4_refuse l D A cy hJ M hI t ht 2 B n rg hr) ⟨ml_X4_82, ym_X4_refuse, yv_X4_refuse, yi_X4_refuse, yc_X4_refuse⟩ yd_X4_refuse ob_1 (by decide) rfl rfl hl.1 (Nat.le_of_ble_eq_true rfl) ⟨by decide, by decide⟩ ⟨Nat.zero_le _, Nat.zero_le _⟩ dX4_readPart_78 (fun M_31 H locs hp_31 hw => ?_)
        obtain ⟨iM_31, q_32, q_33, q_34, p0r_30⟩ := hp_31
        have hlr_30_2 : (2 : Int32).toInt = 2 := by decide
        simp only [hlr_30_2] at p0r_30
        obtain ⟨g_35, eg_35⟩ : ∃ z : Nat → Int, z = pp_rf 2 rg := ⟨_, rfl⟩
        rw [← eg_35] at p0r_30
        have lg_35_0 : g_35 0 = (tI M_31 2 4).toInt := p0r_30.2.1.1
        have lg_35_1 : g_35 1 = (tI M_31 2 6).toInt := p0r_30.2.1.2.1
        have lg_35_4 : g_35 4 = (tI M_31 1 4).toInt := p0r_30.2.2.1.1
        have lg_35_7 : g_35 7 = (tI M_31 t 4).toInt := p0r_30.2.2.2.1.1
        have lg_35_8 : g_35 8 = (tI M_31 t 5).toInt := p0r_30.2.2.2.1.2.1
        refine lv_goto (tgt := 144) hx hb dX4_readPart_81 (by decide) ?_
        exact hQ _ _ _ _ _ hw (⟨iM_31, (q_32), (f0_12 q_33), (q_34), (ot_12 ht q_33), (by rw [pe_8, if_neg (by omega)]; unfold pp_p0; rw [if_pos (by omega), if_pos (by omega), ← eg_35]; exact p0r_30)⟩) dX4_readPart_144
  · refine lv_iload_n hx hb dX4_readPart_14 rfl (lv_at hl 2 rfl) ?_
    refine lv_bipush (v := 8) hx hb dX4_readPart_15 (by decide) ?_
    refine sb_icmp_lt (tgt := 28) hx hb (by decide : (0 : Int32).toInt = 0) (by decide : (8 : Int32).toInt = 8) dX4_readPart_17 (by decide) (fun c_17_2 => ?_) (fun h => absurd h (by decide))
    refine lv_iload_n hx hb dX4_readPart_28 rfl (lv_at hl 0 rfl) ?_
    refine lv_bipush (v := 30) hx hb dX4_readPart_29 (by decide) ?_
    refine sb_icmp_ne (tgt := 57) hx hb rfl (by decide : (30 : Int32).toInt = 30) dX4_readPart_31 (by decide) (fun h => by omega) (fun c_31_4 => ?_)
    refine lv_aload_n hx hb dX4_readPart_34 rfl (lv_at hl 1 rfl) ?_
    refine ti_get (ci := 4) (k := 0) (N := 6) (T := TX4) (v := .ref (A 2 0)) C hw iw_4 rfl ob_1 (by decide) (by decide) fl_X4_12 rfl rfl dX4_readPart_35 ?_
    refine ti_callVvE (ci := 7) (av := []) C hE hw (x_X7_advance l D A cy hJ M hI ) ⟨ml_X4_92, ym_X7_advance, yv_X7_advance, yi_X7_advance, yc_X7_advance⟩ yd_X7_advance ob_2 (by decide) rfl rfl hl.1 (Nat.le_of_ble_eq_true rfl) ⟨by decide, by decide⟩ ⟨Nat.zero_le _, Nat.zero_le _⟩ dX4_readPart_38 (fun M_7 H locs hp_7 hw => ?_)
    obtain ⟨iM_7, q_8, q_9, q_10, q_11, p0r_6, p1r_6, p2r_6, p3r_6⟩ := hp_7
    have hs_12 := rC_av ht hr q_11 q_9 p0r_6 p1r_6 p2r_6 p3r_6
    obtain ⟨g_13, eg_13⟩ : ∃ z : Nat → Int, z = pp_av B n rg := ⟨_, rfl⟩
    rw [← eg_13] at hs_12
    have lg_13_0 : g_13 0 = (tI M_7 2 4).toInt := hs_12.2.1.1
    have lg_13_1 : g_13 1 = (tI M_7 2 6).toInt := hs_12.2.1.2.1
    have lg_13_4 : g_13 4 = (tI M_7 1 4).toInt := hs_12.2.2.1.1
    have lg_13_7 : g_13 7 = (tI M_7 t 4).toInt := hs_12.2.2.2.1.1
    have lg_13_8 : g_13 8 = (tI M_7 t 5).toInt := hs_12.2.2.2.1.2.1
    refine lv_aload_n hx hb dX4_readPart_41 rfl (lv_at hl 1 rfl) ?_
    refine lv_iload_n hx hb dX4_readPart_42 rfl (lv_at hl 2 rfl) ?_
    refine lv_iconst (v := 1) hx hb dX4_readPart_43 (by decide) ?_
    refine lv_iadd hx hb dX4_readPart_44 ?_
    refine ti_top (y := 1) (by decide) ?_
    refine ti_callVvE (ci := 4) (av := [.int 1]) C hE hw (x_X4_readEither_1 l D A cy hJ M_7 iM_7 t ht ((tT_fr q_8).trans hT) lw hlw ((tT_fr q_8).trans hL) B n g_13 hs_12) ⟨ml_X4_158, ym_X4_readEither, yv_X4_readEither, yi_X4_readEither, yc_X4_readEither⟩ yd_X4_readEither ob_1 (by decide) rfl rfl hl.1 (Nat.le_of_ble_eq_true rfl) ⟨by decide, by decide⟩ ⟨Nat.zero_le _, Nat.zero_le _⟩ dX4_readPart_45 (fun M_15 H locs hp_15 hw => ?_)
    obtain ⟨iM_15, q_16, q_17, q_18, q_19, p0r_14⟩ := hp_15
    obtain ⟨g_20, eg_20⟩ : ∃ z : Nat → Int, z = pp_ei B n (pp_pt B n 7) g_13 := ⟨_, rfl⟩
    rw [← eg_20] at p0r_14
    have lg_20_0 : g_20 0 = (tI M_15 2 4).toInt := p0r_14.2.1.1
    have lg_20_1 : g_20 1 = (tI M_15 2 6).toInt := p0r_14.2.1.2.1
    have lg_20_4 : g_20 4 = (tI M_15 1 4).toInt := p0r_14.2.2.1.1
    have lg_20_7 : g_20 7 = (tI M_15 t 4).toInt := p0r_14.2.2.2.1.1
    have lg_20_8 : g_20 8 = (tI M_15 t 5).toInt := p0r_14.2.2.2.1.2.1
    refine lv_aload_n hx hb dX4_readPart_48 rfl (lv_at hl 1 rfl) ?_
    refine lv_bipush (v := 31) hx hb dX4_readPart_49 (by decide) ?_
    refine ti_callVvE (ci := 4) (av := [.int 31]) C hE hw (x_X4_take l D A cy hJ M_15 iM_15 t ht 31 B n g_20 p0r_14) ⟨ml_X4_85, ym_X4_take, yv_X4_take, yi_X4_take, yc_X4_take⟩ yd_X4_take ob_1 (by decide) rfl rfl hl.1 (Nat.le_of_ble_eq_true rfl) ⟨by decide, by decide⟩ ⟨Nat.zero_le _, Nat.zero_le _⟩ dX4_readPart_51 (fun M_22 H locs hp_22 hw => ?_)
    obtain ⟨iM_22, q_23, q_24, q_25, p0r_21⟩ := hp_22
    have hlr_21_31 : (31 : Int32).toInt = 31 := by decide
    simp only [hlr_21_31] at p0r_21
    obtain ⟨g_26, eg_26⟩ : ∃ z : Nat → Int, z = pp_tk B n 31 g_20 := ⟨_, rfl⟩
    rw [← eg_26] at p0r_21
    have lg_26_0 : g_26 0 = (tI M_22 2 4).toInt := p0r_21.2.1.1
    have lg_26_1 : g_26 1 = (tI M_22 2 6).toInt := p0r_21.2.1.2.1
    have lg_26_4 : g_26 4 = (tI M_22 1 4).toInt := p0r_21.2.2.1.1
    have lg_26_7 : g_26 7 = (tI M_22 t 4).toInt := p0r_21.2.2.2.1.1
    have lg_26_8 : g_26 8 = (tI M_22 t 5).toInt := p0r_21.2.2.2.1.2.1
    refine lv_goto (tgt := 144) hx hb dX4_readPart_54 (by decide) ?_
    exact hQ _ _ _ _ _ hw (⟨iM_22, ((q_23).trans ((q_16).trans q_8)), (f0.trans (f0_12 q_24) (f0.trans q_17 (f0_12 (o2_12 q_9)))), ((q_25).trans ((q_18).trans q_10)), (ot.trans (ot_12 ht q_24) (ot.trans q_19 (ot_12 ht (o2_12 q_9)))), (by rw [pe_8, if_pos (by omega), ← eg_13, ← eg_20, ← eg_26]; exact p0r_21)⟩) dX4_readPart_144
set_option maxHeartbeats 4000000 in
set_option maxRecDepth 100000 in
theorem x_X4_readProduct_0 (l : Launch) (D : va_G) (A : Nat → Nat → Nat) (cy : Nat → ClassId) (hJ : ti_inj ti_LT A) (M : ti_M) (hI : cI Tc M) (t : Nat) (ht : t = 3 ∨ t = 4) (hT : tT M 1 1 = some t) (lw : Nat) (hlw : ti_ob ti_LT lw 1) (hL : tT M 1 2 = some lw) (B : Nat → Int) (n : Nat) (rg : Nat → Int) (hr : rC B n t rg M) : ti_KvE l yX4_readProduct cX4_readProduct 4 65 ti_LT D A cy M [.ref (A 1 0), .int 0] (fun M2 => cI Tc M2 ∧ M2.2.2.2 = M.2.2.2 ∧ f0 M2 M ∧ tI M2 2 1 = tI M 2 1 ∧ ot t M2 M ∧ rC B n t (pp_pd B n (pp_pt B n 8) rg) M2) := by
  refine ti_eVE yp_X4_readProduct hJ ti_LT_nd (Nat.le_of_ble_eq_true rfl) ?_
  intro p e s m args below meth c Q H0 C hE hQ hw ls hl
  have hx := C.1
  have hb := C.2.1
  have hl : lv_has ls 4 [(0, .ref (A 1 0)), (1, .int 0)] := hl
  have l0 : rg 0 = (tI M 2 4).toInt := hr.2.1.1
  have l1 : rg 1 = (tI M 2 6).toInt := hr.2.1.2.1
  have l2 : rg 2 = (tI M 2 5).toInt := hr.2.1.2.2.1
  have l3 : rg 3 = (tI M 2 3).toInt := hr.2.1.2.2.2
  have l4 : rg 4 = (tI M 1 4).toInt := hr.2.2.1.1
  have l5 : rg 5 = (tI M 1 5).toInt := hr.2.2.1.2.1
  have l7 : rg 7 = (tI M t 4).toInt := hr.2.2.2.1.1
  have l8 : rg 8 = (tI M t 5).toInt := hr.2.2.2.1.2.1
  have l9 : rg 9 = (tI M t 3).toInt := hr.2.2.2.1.2.2
  refine lv_aload_n hx hb dX4_readProduct_0 rfl (lv_at hl 0 rfl) ?_
  refine lv_iload_n hx hb dX4_readProduct_1 rfl (lv_at hl 1 rfl) ?_
  refine ti_callVvE (ci := 4) (av := [.int 0]) C hE hw (x_X4_readPart_0 l D A cy hJ M hI t ht (hT) lw hlw (hL) B n rg hr) ⟨ml_X4_187, ym_X4_readPart, yv_X4_readPart, yi_X4_readPart, yc_X4_readPart⟩ yd_X4_readPart ob_1 (by decide) rfl rfl hl.1 (Nat.le_of_ble_eq_true rfl) ⟨by decide, by decide⟩ ⟨Nat.zero_le _, Nat.zero_le _⟩ dX4_readProduct_2 (fun M_2 H locs hp_2 hw => ?_)
  obtain ⟨iM_2, q_3, q_4, q_5, q_6, p0r_1⟩ := hp_2
  obtain ⟨g_7, eg_7⟩ : ∃ z : Nat → Int, z = pp_pt B n 8 rg := ⟨_, rfl⟩
  rw [← eg_7] at p0r_1
  have lg_7_0 : g_7 0 = (tI M_2 2 4).toInt := p0r_1.2.1.1
  have lg_7_1 : g_7 1 = (tI M_2 2 6).toInt := p0r_1.2.1.2.1
  have lg_7_4 : g_7 4 = (tI M_2 1 4).toInt := p0r_1.2.2.1.1
  have lg_7_7 : g_7 7 = (tI M_2 t 4).toInt := p0r_1.2.2.2.1.1
  have lg_7_8 : g_7 8 = (tI M_2 t 5).toInt := p0r_1.2.2.2.1.2.1
  refine lv_iconst (v := 0) hx hb dX4_readProduct_5 (by decide) ?_
  refine lv_istore_n (lv' := [(2, .int 0), (0, .ref (A 1 0)), (1, .int 0)]) hx hb dX4_readProduct_6 rfl hl (by decide) rfl (fun ls hl => ?_)
  have hl_7_20 : ∀ (n_21 : Nat) (x_8 : Int32) (M_11 : ti_M) (g_18 : Nat → Int) (H : Heap) (locs : List Loc) (ls : Array Slot), (64 - x_8.toInt : Int).toNat < n_21 → (0 ≤ x_8.toInt) → (x_8.toInt ≤ 64) → (cI Tc M_11) → (M_11.2.2.2 = M.2.2.2) → (f0 M_11 M) → (tI M_11 2 1 = tI M 2 1) → (ot t M_11 M) → (tT M_11 1 1 = (some t)) → (tT M_11 1 2 = (some lw)) → (rC B n t g_18 M_11) → (pp_lp pp_qT (fun s => (pp_pt B n 8) (pp_kn B n s)) 64 g_7 = pp_lp pp_qT (fun s => (pp_pt B n 8) (pp_kn B n s)) (64 - (x_8.toInt).toNat) g_18) → ti_H ti_LT D A cy H0 M_11 H locs → lv_has ls 4 [(2, .int x_8), (0, .ref (A 1 0)), (1, .int 0)] → W p l e (ti_rm 65) s m args below meth c H locs 0 0 Q (F0 m 7 ls []) := by
    intro n_21
    induction n_21 with
    | zero => intro x_8 M_11 g_18 H locs ls hf_21; exact absurd hf_21 (Nat.not_lt_zero _)
    | succ n_21 ih_21 =>
      intro x_8 M_11 g_18 H locs ls hf_21 b_9 b_10 iM_11 f_12 f_13 f_14 f_15 f_16 f_17 hs_19 j_20 hw hl
      have lg_18_0 : g_18 0 = (tI M_11 2 4).toInt := hs_19.2.1.1
      have lg_18_1 : g_18 1 = (tI M_11 2 6).toInt := hs_19.2.1.2.1
      have lg_18_4 : g_18 4 = (tI M_11 1 4).toInt := hs_19.2.2.1.1
      have lg_18_7 : g_18 7 = (tI M_11 t 4).toInt := hs_19.2.2.2.1.1
      have lg_18_8 : g_18 8 = (tI M_11 t 5).toInt := hs_19.2.2.2.1.2.1
      refine lv_iload_n hx hb dX4_readProduct_7 rfl (lv_at hl 0 rfl) ?_
      refine lv_bipush (v := 64) hx hb dX4_readProduct_8 (by decide) ?_
      refine sb_icmp_ge (tgt := 69) hx hb rfl (by decide : (64 : Int32).toInt = 64) dX4_readProduct_10 (by decide) (fun c_10_21 => ?_) (fun c_10_21 => ?_)
      · exact hQ _ _ _ _ _ hw (⟨iM_11, (f_12), f_13, (f_14), f_15, (by unfold pp_pd; rw [← eg_7, j_20, lp_end (P := pp_qT) (f := 64 - x_8.toInt.toNat) (s := g_18) (Or.inl (by omega))]; exact hs_19)⟩) dX4_readProduct_69
      · refine lv_aload_n hx hb dX4_readProduct_13 rfl (lv_at hl 1 rfl) ?_
        refine ti_get (ci := 4) (k := 0) (N := 6) (T := TX4) (v := .ref (A 2 0)) C hw iw_4 rfl ob_1 (by decide) (by decide) fl_X4_12 rfl rfl dX4_readProduct_14 ?_
        refine ti_get (ci := 7) (k := 4) (N := 7) (T := TX7) C hw iw_7 rfl ob_2 (by decide) (by decide) fl_X4_41 rfl rfl dX4_readProduct_17 ?_
        refine lv_topi (fun x_23 ex_23 => ?_)
        have bx_23 : 0 ≤ x_23.toInt ∧ x_23.toInt ≤ 41 := cI_rd iM_11 ob_2.1 ex_23
        have ux_23 : (tI M_11 2 4).toInt = x_23.toInt := by rw [ex_23]
        refine lv_bipush (v := 40) hx hb dX4_readProduct_20 (by decide) ?_
        refine sb_icmp_eq (tgt := 37) hx hb rfl (by decide : (40 : Int32).toInt = 40) dX4_readProduct_22 (by decide) (fun c_22_23 => ?_) (fun c_22_23 => ?_)
        · refine lv_aload_n hx hb dX4_readProduct_37 rfl (lv_at hl 1 rfl) ?_
          refine ti_get (ci := 4) (k := 0) (N := 6) (T := TX4) (v := .ref (A 2 0)) C hw iw_4 rfl ob_1 (by decide) (by decide) fl_X4_12 rfl rfl dX4_readProduct_38 ?_
          refine ti_get (ci := 7) (k := 4) (N := 7) (T := TX7) C hw iw_7 rfl ob_2 (by decide) (by decide) fl_X4_41 rfl rfl dX4_readProduct_41 ?_
          refine ti_top (y := x_23) (ex_23.symm) ?_
          have u_27 : (tI M_11 2 4).toInt = (x_23 : Int32).toInt := by rw [(ex_23.symm)]
          refine lv_istore_n (lv' := [(3, .int x_23), (2, .int x_8), (0, .ref (A 1 0)), (1, .int 0)]) hx hb dX4_readProduct_44 rfl hl (by decide) rfl (fun ls hl => ?_)
          refine lv_aload_n hx hb dX4_readProduct_45 rfl (lv_at hl 2 rfl) ?_
          refine ti_callVvE (ci := 4) (av := []) C hE hw (x_X4_knot l D A cy hJ M_11 iM_11 t ht (f_16) B n g_18 hs_19) ⟨ml_X4_167, ym_X4_knot, yv_X4_knot, yi_X4_knot, yc_X4_knot⟩ yd_X4_knot ob_1 (by decide) rfl rfl hl.1 (Nat.le_of_ble_eq_true rfl) ⟨by decide, by decide⟩ ⟨Nat.zero_le _, Nat.zero_le _⟩ dX4_readProduct_46 (fun M_29 H locs hp_29 hw => ?_)
          obtain ⟨iM_29, q_30, q_31, q_32, q_33, p0r_28⟩ := hp_29
          obtain ⟨g_34, eg_34⟩ : ∃ z : Nat → Int, z = pp_kn B n g_18 := ⟨_, rfl⟩
          rw [← eg_34] at p0r_28
          have lg_34_0 : g_34 0 = (tI M_29 2 4).toInt := p0r_28.2.1.1
          have lg_34_1 : g_34 1 = (tI M_29 2 6).toInt := p0r_28.2.1.2.1
          have lg_34_4 : g_34 4 = (tI M_29 1 4).toInt := p0r_28.2.2.1.1
          have lg_34_7 : g_34 7 = (tI M_29 t 4).toInt := p0r_28.2.2.2.1.1
          have lg_34_8 : g_34 8 = (tI M_29 t 5).toInt := p0r_28.2.2.2.1.2.1
          refine lv_aload_n hx hb dX4_readProduct_49 rfl (lv_at hl 2 rfl) ?_
          refine lv_iload_n hx hb dX4_readProduct_50 rfl (lv_at hl 3 rfl) ?_
          refine ti_callVvE (ci := 4) (av := [.int 0]) C hE hw (x_X4_readPart_0 l D A cy hJ M_29 iM_29 t ht ((tT_fr q_30).trans f_16) lw hlw ((tT_fr q_30).trans f_17) B n g_34 p0r_28) ⟨ml_X4_187, ym_X4_readPart, yv_X4_readPart, yi_X4_readPart, yc_X4_readPart⟩ yd_X4_readPart ob_1 (by decide) rfl rfl hl.1 (Nat.le_of_ble_eq_true rfl) ⟨by decide, by decide⟩ ⟨Nat.zero_le _, Nat.zero_le _⟩ dX4_readProduct_51 (fun M_36 H locs hp_36 hw => ?_)
          obtain ⟨iM_36, q_37, q_38, q_39, q_40, p0r_35⟩ := hp_36
          obtain ⟨g_41, eg_41⟩ : ∃ z : Nat → Int, z = pp_pt B n 8 g_34 := ⟨_, rfl⟩
          rw [← eg_41] at p0r_35
          have lg_41_0 : g_41 0 = (tI M_36 2 4).toInt := p0r_35.2.1.1
          have lg_41_1 : g_41 1 = (tI M_36 2 6).toInt := p0r_35.2.1.2.1
          have lg_41_4 : g_41 4 = (tI M_36 1 4).toInt := p0r_35.2.2.1.1
          have lg_41_7 : g_41 7 = (tI M_36 t 4).toInt := p0r_35.2.2.2.1.1
          have lg_41_8 : g_41 8 = (tI M_36 t 5).toInt := p0r_35.2.2.2.1.2.1
          refine lv_aload_n hx hb dX4_readProduct_54 rfl (lv_at hl 2 rfl) ?_
          refine ti_get (ci := 4) (k := 2) (N := 6) (T := TX4) (v := .ref (A lw 0)) C hw iw_4 rfl ob_1 (by decide) (by decide) fl_X4_154 rfl (ti_Tv ((tT_fr q_37).trans ((tT_fr q_30).trans f_17))) dX4_readProduct_55 ?_
          refine lv_iload_n hx hb dX4_readProduct_58 rfl (lv_at hl 0 rfl) ?_
          refine lv_ineg hx hb dX4_readProduct_59 ?_
          refine lv_topi (fun x_42 ex_42 => ?_)
          have tx_42 : x_42.toInt = -x_23.toInt := i_neg ex_42 rfl (by omega)
          refine ti_callVv (ci := 1) (av := [.int x_42]) C hw (x_X1_add l D A cy hJ M_36 iM_36 lw hlw x_42 (by first | omega | exact Or.inl (by decide) | exact Or.inr (by decide)) t ht B n g_41 p0r_35) ⟨ml_X4_170, ym_X1_add, yv_X1_add, yi_X1_add, yc_X1_add⟩ yd_X1_add hlw (by decide) rfl rfl hl.1 (Nat.le_of_ble_eq_true rfl) ⟨by decide, by decide⟩ ⟨Nat.zero_le _, Nat.zero_le _⟩ dX4_readProduct_60 (fun M_44 H locs hp_44 hw => ?_)
          obtain ⟨iM_44, q_45, q_46, p0r_43⟩ := hp_44
          have lM_44_0 : g_41 0 = (tI M_44 2 4).toInt := p0r_43.2.1.1
          have lM_44_1 : g_41 1 = (tI M_44 2 6).toInt := p0r_43.2.1.2.1
          have lM_44_4 : g_41 4 = (tI M_44 1 4).toInt := p0r_43.2.2.1.1
          have lM_44_7 : g_41 7 = (tI M_44 t 4).toInt := p0r_43.2.2.2.1.1
          have lM_44_8 : g_41 8 = (tI M_44 t 5).toInt := p0r_43.2.2.2.1.2.1
          obtain ⟨x_47, ex_47⟩ : ∃ z : Int32, z = x_8 + 1 := ⟨_, rfl⟩
          have tx_47 : x_47.toInt = x_8.toInt + 1 := i_add ex_47 rfl (by decide) (by omega) (by omega)
          refine lv_iinc (v := x_47) (lv' := [(2, .int x_47), (3, .int x_23), (0, .ref (A 1 0)), (1, .int 0)]) hx hb dX4_readProduct_63 hl (k := 1) rfl (by rw [ex_47]; rfl) (by decide) rfl (fun ls hl => ?_)
          refine lv_goto (tgt := 7) hx hb dX4_readProduct_66 (by decide) ?_
          exact ih_21 x_47 M_44 g_41 _ _ _ (by omega) (by first | omega | decide) (by first | omega | decide) iM_44 ((q_45).trans ((q_37).trans ((q_30).trans f_12))) (f0.trans (f0_x q_46) (f0.trans q_38 (f0.trans q_31 f_13))) (((q_46 1).2.1).trans ((q_39).trans ((q_32).trans f_14))) (ot.trans (ot_fx ht q_46) (ot.trans q_40 (ot.trans q_33 f_15))) ((tT_fr q_45).trans ((tT_fr q_37).trans ((tT_fr q_30).trans f_16))) ((tT_fr q_45).trans ((tT_fr q_37).trans ((tT_fr q_30).trans f_17))) p0r_43 (j_20.trans (lp_step (decide_eq_true (by omega)) (by rw [eg_41, eg_34]) (by omega))) hw (lv_sub hl [0, 2, 3] rfl)
        · refine lv_aload_n hx hb dX4_readProduct_25 rfl (lv_at hl 1 rfl) ?_
          refine ti_get (ci := 4) (k := 0) (N := 6) (T := TX4) (v := .ref (A 2 0)) C hw iw_4 rfl ob_1 (by decide) (by decide) fl_X4_12 rfl rfl dX4_readProduct_26 ?_
          refine ti_get (ci := 7) (k := 4) (N := 7) (T := TX7) C hw iw_7 rfl ob_2 (by decide) (by decide) fl_X4_41 rfl rfl dX4_readProduct_29 ?_
          refine ti_top (y := x_23) (ex_23.symm) ?_
          have u_25 : (tI M_11 2 4).toInt = (x_23 : Int32).toInt := by rw [(ex_23.symm)]
          refine lv_bipush (v := 41) hx hb dX4_readProduct_32 (by decide) ?_
          refine sb_icmp_ne (tgt := 69) hx hb rfl (by decide : (41 : Int32).toInt = 41) dX4_readProduct_34 (by decide) (fun c_34_25 => ?_) (fun c_34_25 => ?_)
          · exact hQ _ _ _ _ _ hw (⟨iM_11, (f_12), f_13, (f_14), f_15, (by unfold pp_pd; rw [← eg_7, j_20, lp_end (P := pp_qT) (f := 64 - x_8.toInt.toNat) (s := g_18) (Or.inr (decide_eq_false (by omega)))]; exact hs_19)⟩) dX4_readProduct_69
          · refine lv_aload_n hx hb dX4_readProduct_37 rfl (lv_at hl 1 rfl) ?_
            refine ti_get (ci := 4) (k := 0) (N := 6) (T := TX4) (v := .ref (A 2 0)) C hw iw_4 rfl ob_1 (by decide) (by decide) fl_X4_12 rfl rfl dX4_readProduct_38 ?_
            refine ti_get (ci := 7) (k := 4) (N := 7) (T := TX7) C hw iw_7 rfl ob_2 (by decide) (by decide) fl_X4_41 rfl rfl dX4_readProduct_41 ?_
            refine ti_top (y := x_23) (ex_23.symm) ?_
            have u_48 : (tI M_11 2 4).toInt = (x_23 : Int32).toInt := by rw [(ex_23.symm)]
            refine lv_istore_n (lv' := [(3, .int x_23), (2, .int x_8), (0, .ref (A 1 0)), (1, .int 0)]) hx hb dX4_readProduct_44 rfl hl (by decide) rfl (fun ls hl => ?_)
            refine lv_aload_n hx hb dX4_readProduct_45 rfl (lv_at hl 2 rfl) ?_
            refine ti_callVvE (ci := 4) (av := []) C hE hw (x_X4_knot l D A cy hJ M_11 iM_11 t ht (f_16) B n g_18 hs_19) ⟨ml_X4_167, ym_X4_knot, yv_X4_knot, yi_X4_knot, yc_X4_knot⟩ yd_X4_knot ob_1 (by decide) rfl rfl hl.1 (Nat.le_of_ble_eq_true rfl) ⟨by decide, by decide⟩ ⟨Nat.zero_le _, Nat.zero_le _⟩ dX4_readProduct_46 (fun M_50 H locs hp_50 hw => ?_)
            obtain ⟨iM_50, q_51, q_52, q_53, q_54, p0r_49⟩ := hp_50
            obtain ⟨g_55, eg_55⟩ : ∃ z : Nat → Int, z = pp_kn B n g_18 := ⟨_, rfl⟩
            rw [← eg_55] at p0r_49
            have lg_55_0 : g_55 0 = (tI M_50 2 4).toInt := p0r_49.2.1.1
            have lg_55_1 : g_55 1 = (tI M_50 2 6).toInt := p0r_49.2.1.2.1
            have lg_55_4 : g_55 4 = (tI M_50 1 4).toInt := p0r_49.2.2.1.1
            have lg_55_7 : g_55 7 = (tI M_50 t 4).toInt := p0r_49.2.2.2.1.1
            have lg_55_8 : g_55 8 = (tI M_50 t 5).toInt := p0r_49.2.2.2.1.2.1
            refine lv_aload_n hx hb dX4_readProduct_49 rfl (lv_at hl 2 rfl) ?_
            refine lv_iload_n hx hb dX4_readProduct_50 rfl (lv_at hl 3 rfl) ?_
            refine ti_callVvE (ci := 4) (av := [.int 0]) C hE hw (x_X4_readPart_0 l D A cy hJ M_50 iM_50 t ht ((tT_fr q_51).trans f_16) lw hlw ((tT_fr q_51).trans f_17) B n g_55 p0r_49) ⟨ml_X4_187, ym_X4_readPart, yv_X4_readPart, yi_X4_readPart, yc_X4_readPart⟩ yd_X4_readPart ob_1 (by decide) rfl rfl hl.1 (Nat.le_of_ble_eq_true rfl) ⟨by decide, by decide⟩ ⟨Nat.zero_le _, Nat.zero_le _⟩ dX4_readProduct_51 (fun M_57 H locs hp_57 hw => ?_)
            obtain ⟨iM_57, q_58, q_59, q_60, q_61, p0r_56⟩ := hp_57
            obtain ⟨g_62, eg_62⟩ : ∃ z : Nat → Int, z = pp_pt B n 8 g_55 := ⟨_, rfl⟩
            rw [← eg_62] at p0r_56
            have lg_62_0 : g_62 0 = (tI M_57 2 4).toInt := p0r_56.2.1.1
            have lg_62_1 : g_62 1 = (tI M_57 2 6).toInt := p0r_56.2.1.2.1
            have lg_62_4 : g_62 4 = (tI M_57 1 4).toInt := p0r_56.2.2.1.1
            have lg_62_7 : g_62 7 = (tI M_57 t 4).toInt := p0r_56.2.2.2.1.1
            have lg_62_8 : g_62 8 = (tI M_57 t 5).toInt := p0r_56.2.2.2.1.2.1
            refine lv_aload_n hx hb dX4_readProduct_54 rfl (lv_at hl 2 rfl) ?_
            refine ti_get (ci := 4) (k := 2) (N := 6) (T := TX4) (v := .ref (A lw 0)) C hw iw_4 rfl ob_1 (by decide) (by decide) fl_X4_154 rfl (ti_Tv ((tT_fr q_58).trans ((tT_fr q_51).trans f_17))) dX4_readProduct_55 ?_
            refine lv_iload_n hx hb dX4_readProduct_58 rfl (lv_at hl 0 rfl) ?_
            refine lv_ineg hx hb dX4_readProduct_59 ?_
            refine lv_topi (fun x_63 ex_63 => ?_)
            have tx_63 : x_63.toInt = -x_23.toInt := i_neg ex_63 rfl (by omega)
            refine ti_callVv (ci := 1) (av := [.int x_63]) C hw (x_X1_add l D A cy hJ M_57 iM_57 lw hlw x_63 (by first | omega | exact Or.inl (by decide) | exact Or.inr (by decide)) t ht B n g_62 p0r_56) ⟨ml_X4_170, ym_X1_add, yv_X1_add, yi_X1_add, yc_X1_add⟩ yd_X1_add hlw (by decide) rfl rfl hl.1 (Nat.le_of_ble_eq_true rfl) ⟨by decide, by decide⟩ ⟨Nat.zero_le _, Nat.zero_le _⟩ dX4_readProduct_60 (fun M_65 H locs hp_65 hw => ?_)
            obtain ⟨iM_65, q_66, q_67, p0r_64⟩ := hp_65
            have lM_65_0 : g_62 0 = (tI M_65 2 4).toInt := p0r_64.2.1.1
            have lM_65_1 : g_62 1 = (tI M_65 2 6).toInt := p0r_64.2.1.2.1
            have lM_65_4 : g_62 4 = (tI M_65 1 4).toInt := p0r_64.2.2.1.1
            have lM_65_7 : g_62 7 = (tI M_65 t 4).toInt := p0r_64.2.2.2.1.1
            have lM_65_8 : g_62 8 = (tI M_65 t 5).toInt := p0r_64.2.2.2.1.2.1
            obtain ⟨x_68, ex_68⟩ : ∃ z : Int32, z = x_8 + 1 := ⟨_, rfl⟩
            have tx_68 : x_68.toInt = x_8.toInt + 1 := i_add ex_68 rfl (by decide) (by omega) (by omega)
            refine lv_iinc (v := x_68) (lv' := [(2, .int x_68), (3, .int x_23), (0, .ref (A 1 0)), (1, .int 0)]) hx hb dX4_readProduct_63 hl (k := 1) rfl (by rw [ex_68]; rfl) (by decide) rfl (fun ls hl => ?_)
            refine lv_goto (tgt := 7) hx hb dX4_readProduct_66 (by decide) ?_
            exact ih_21 x_68 M_65 g_62 _ _ _ (by omega) (by first | omega | decide) (by first | omega | decide) iM_65 ((q_66).trans ((q_58).trans ((q_51).trans f_12))) (f0.trans (f0_x q_67) (f0.trans q_59 (f0.trans q_52 f_13))) (((q_67 1).2.1).trans ((q_60).trans ((q_53).trans f_14))) (ot.trans (ot_fx ht q_67) (ot.trans q_61 (ot.trans q_54 f_15))) ((tT_fr q_66).trans ((tT_fr q_58).trans ((tT_fr q_51).trans f_16))) ((tT_fr q_66).trans ((tT_fr q_58).trans ((tT_fr q_51).trans f_17))) p0r_64 (j_20.trans (lp_step (decide_eq_true (by omega)) (by rw [eg_62, eg_55]) (by omega))) hw (lv_sub hl [0, 2, 3] rfl)
  exact hl_7_20 ((64 - 0 : Int).toNat + 1) 0 M_2 g_7 _ _ _ (Nat.lt_succ_self _) (by have lt0 : (0 : Int32).toInt = 0 := (by decide); first | omega | decide) (by have lt0 : (0 : Int32).toInt = 0 := (by decide); first | omega | decide) iM_2 (q_3) q_4 (q_5) q_6 ((tT_fr q_3).trans hT) ((tT_fr q_3).trans hL) p0r_1 rfl hw (lv_sub hl [0, 1, 2] rfl)
set_option maxHeartbeats 4000000 in
set_option maxRecDepth 100000 in
theorem x_X4_readSum_0 (l : Launch) (D : va_G) (A : Nat → Nat → Nat) (cy : Nat → ClassId) (hJ : ti_inj ti_LT A) (M : ti_M) (hI : cI Tc M) (t : Nat) (ht : t = 3 ∨ t = 4) (hT : tT M 1 1 = some t) (lw : Nat) (hlw : ti_ob ti_LT lw 1) (hL : tT M 1 2 = some lw) (B : Nat → Int) (n : Nat) (rg : Nat → Int) (hr : rC B n t rg M) : ti_KvE l yX4_readSum cX4_readSum 4 66 ti_LT D A cy M [.ref (A 1 0), .int 0] (fun M2 => cI Tc M2 ∧ M2.2.2.2 = M.2.2.2 ∧ f0 M2 M ∧ tI M2 2 1 = tI M 2 1 ∧ ot t M2 M ∧ rC B n t (pp_sm B n (pp_pt B n 8) rg) M2) := by
  refine ti_eVE yp_X4_readSum hJ ti_LT_nd (Nat.le_of_ble_eq_true rfl) ?_
  intro p e s m args below meth c Q H0 C hE hQ hw ls hl
  have hx := C.1
  have hb := C.2.1
  have hl : lv_has ls 4 [(0, .ref (A 1 0)), (1, .int 0)] := hl
  have l0 : rg 0 = (tI M 2 4).toInt := hr.2.1.1
  have l1 : rg 1 = (tI M 2 6).toInt := hr.2.1.2.1
  have l2 : rg 2 = (tI M 2 5).toInt := hr.2.1.2.2.1
  have l3 : rg 3 = (tI M 2 3).toInt := hr.2.1.2.2.2
  have l4 : rg 4 = (tI M 1 4).toInt := hr.2.2.1.1
  have l5 : rg 5 = (tI M 1 5).toInt := hr.2.2.1.2.1
  have l7 : rg 7 = (tI M t 4).toInt := hr.2.2.2.1.1
  have l8 : rg 8 = (tI M t 5).toInt := hr.2.2.2.1.2.1
  have l9 : rg 9 = (tI M t 3).toInt := hr.2.2.2.1.2.2
  refine lv_aload_n hx hb dX4_readSum_0 rfl (lv_at hl 0 rfl) ?_
  refine lv_iload_n hx hb dX4_readSum_1 rfl (lv_at hl 1 rfl) ?_
  refine ti_callVvE (ci := 4) (av := [.int 0]) C hE hw (x_X4_readProduct_0 l D A cy hJ M hI t ht (hT) lw hlw (hL) B n rg hr) ⟨ml_X4_184, ym_X4_readProduct, yv_X4_readProduct, yi_X4_readProduct, yc_X4_readProduct⟩ yd_X4_readProduct ob_1 (by decide) rfl rfl hl.1 (Nat.le_of_ble_eq_true rfl) ⟨by decide, by decide⟩ ⟨Nat.zero_le _, Nat.zero_le _⟩ dX4_readSum_2 (fun M_2 H locs hp_2 hw => ?_)
  obtain ⟨iM_2, q_3, q_4, q_5, q_6, p0r_1⟩ := hp_2
  obtain ⟨g_7, eg_7⟩ : ∃ z : Nat → Int, z = pp_pd B n (pp_pt B n 8) rg := ⟨_, rfl⟩
  rw [← eg_7] at p0r_1
  have lg_7_0 : g_7 0 = (tI M_2 2 4).toInt := p0r_1.2.1.1
  have lg_7_1 : g_7 1 = (tI M_2 2 6).toInt := p0r_1.2.1.2.1
  have lg_7_4 : g_7 4 = (tI M_2 1 4).toInt := p0r_1.2.2.1.1
  have lg_7_7 : g_7 7 = (tI M_2 t 4).toInt := p0r_1.2.2.2.1.1
  have lg_7_8 : g_7 8 = (tI M_2 t 5).toInt := p0r_1.2.2.2.1.2.1
  refine lv_iconst (v := 0) hx hb dX4_readSum_5 (by decide) ?_
  refine lv_istore_n (lv' := [(2, .int 0), (0, .ref (A 1 0)), (1, .int 0)]) hx hb dX4_readSum_6 rfl hl (by decide) rfl (fun ls hl => ?_)
  have hl_7_20 : ∀ (n_21 : Nat) (x_8 : Int32) (M_11 : ti_M) (g_18 : Nat → Int) (H : Heap) (locs : List Loc) (ls : Array Slot), (64 - x_8.toInt : Int).toNat < n_21 → (0 ≤ x_8.toInt) → (x_8.toInt ≤ 64) → (cI Tc M_11) → (M_11.2.2.2 = M.2.2.2) → (f0 M_11 M) → (tI M_11 2 1 = tI M 2 1) → (ot t M_11 M) → (tT M_11 1 1 = (some t)) → (tT M_11 1 2 = (some lw)) → (rC B n t g_18 M_11) → (pp_lp pp_qP (fun s => pp_pd B n (pp_pt B n 8) (pp_kn B n s)) 64 g_7 = pp_lp pp_qP (fun s => pp_pd B n (pp_pt B n 8) (pp_kn B n s)) (64 - (x_8.toInt).toNat) g_18) → ti_H ti_LT D A cy H0 M_11 H locs → lv_has ls 4 [(2, .int x_8), (0, .ref (A 1 0)), (1, .int 0)] → W p l e (ti_rm 66) s m args below meth c H locs 0 0 Q (F0 m 7 ls []) := by
    intro n_21
    induction n_21 with
    | zero => intro x_8 M_11 g_18 H locs ls hf_21; exact absurd hf_21 (Nat.not_lt_zero _)
    | succ n_21 ih_21 =>
      intro x_8 M_11 g_18 H locs ls hf_21 b_9 b_10 iM_11 f_12 f_13 f_14 f_15 f_16 f_17 hs_19 j_20 hw hl
      have lg_18_0 : g_18 0 = (tI M_11 2 4).toInt := hs_19.2.1.1
      have lg_18_1 : g_18 1 = (tI M_11 2 6).toInt := hs_19.2.1.2.1
      have lg_18_4 : g_18 4 = (tI M_11 1 4).toInt := hs_19.2.2.1.1
      have lg_18_7 : g_18 7 = (tI M_11 t 4).toInt := hs_19.2.2.2.1.1
      have lg_18_8 : g_18 8 = (tI M_11 t 5).toInt := hs_19.2.2.2.1.2.1
      refine lv_iload_n hx hb dX4_readSum_7 rfl (lv_at hl 0 rfl) ?_
      refine lv_bipush (v := 64) hx hb dX4_readSum_8 (by decide) ?_
      refine sb_icmp_ge (tgt := 69) hx hb rfl (by decide : (64 : Int32).toInt = 64) dX4_readSum_10 (by decide) (fun c_10_21 => ?_) (fun c_10_21 => ?_)
      · exact hQ _ _ _ _ _ hw (⟨iM_11, (f_12), f_13, (f_14), f_15, (by unfold pp_sm; rw [← eg_7, j_20, lp_end (P := pp_qP) (f := 64 - x_8.toInt.toNat) (s := g_18) (Or.inl (by omega))]; exact hs_19)⟩) dX4_readSum_69
      · refine lv_aload_n hx hb dX4_readSum_13 rfl (lv_at hl 1 rfl) ?_
        refine ti_get (ci := 4) (k := 0) (N := 6) (T := TX4) (v := .ref (A 2 0)) C hw iw_4 rfl ob_1 (by decide) (by decide) fl_X4_12 rfl rfl dX4_readSum_14 ?_
        refine ti_get (ci := 7) (k := 4) (N := 7) (T := TX7) C hw iw_7 rfl ob_2 (by decide) (by decide) fl_X4_41 rfl rfl dX4_readSum_17 ?_
        refine lv_topi (fun x_23 ex_23 => ?_)
        have bx_23 : 0 ≤ x_23.toInt ∧ x_23.toInt ≤ 41 := cI_rd iM_11 ob_2.1 ex_23
        have ux_23 : (tI M_11 2 4).toInt = x_23.toInt := by rw [ex_23]
        refine lv_bipush (v := 38) hx hb dX4_readSum_20 (by decide) ?_
        refine sb_icmp_eq (tgt := 37) hx hb rfl (by decide : (38 : Int32).toInt = 38) dX4_readSum_22 (by decide) (fun c_22_23 => ?_) (fun c_22_23 => ?_)
        · refine lv_aload_n hx hb dX4_readSum_37 rfl (lv_at hl 1 rfl) ?_
          refine ti_get (ci := 4) (k := 0) (N := 6) (T := TX4) (v := .ref (A 2 0)) C hw iw_4 rfl ob_1 (by decide) (by decide) fl_X4_12 rfl rfl dX4_readSum_38 ?_
          refine ti_get (ci := 7) (k := 4) (N := 7) (T := TX7) C hw iw_7 rfl ob_2 (by decide) (by decide) fl_X4_41 rfl rfl dX4_readSum_41 ?_
          refine ti_top (y := x_23) (ex_23.symm) ?_
          have u_27 : (tI M_11 2 4).toInt = (x_23 : Int32).toInt := by rw [(ex_23.symm)]
          refine lv_istore_n (lv' := [(3, .int x_23), (2, .int x_8), (0, .ref (A 1 0)), (1, .int 0)]) hx hb dX4_readSum_44 rfl hl (by decide) rfl (fun ls hl => ?_)
          refine lv_aload_n hx hb dX4_readSum_45 rfl (lv_at hl 2 rfl) ?_
          refine ti_callVvE (ci := 4) (av := []) C hE hw (x_X4_knot l D A cy hJ M_11 iM_11 t ht (f_16) B n g_18 hs_19) ⟨ml_X4_167, ym_X4_knot, yv_X4_knot, yi_X4_knot, yc_X4_knot⟩ yd_X4_knot ob_1 (by decide) rfl rfl hl.1 (Nat.le_of_ble_eq_true rfl) ⟨by decide, by decide⟩ ⟨Nat.zero_le _, Nat.zero_le _⟩ dX4_readSum_46 (fun M_29 H locs hp_29 hw => ?_)
          obtain ⟨iM_29, q_30, q_31, q_32, q_33, p0r_28⟩ := hp_29
          obtain ⟨g_34, eg_34⟩ : ∃ z : Nat → Int, z = pp_kn B n g_18 := ⟨_, rfl⟩
          rw [← eg_34] at p0r_28
          have lg_34_0 : g_34 0 = (tI M_29 2 4).toInt := p0r_28.2.1.1
          have lg_34_1 : g_34 1 = (tI M_29 2 6).toInt := p0r_28.2.1.2.1
          have lg_34_4 : g_34 4 = (tI M_29 1 4).toInt := p0r_28.2.2.1.1
          have lg_34_7 : g_34 7 = (tI M_29 t 4).toInt := p0r_28.2.2.2.1.1
          have lg_34_8 : g_34 8 = (tI M_29 t 5).toInt := p0r_28.2.2.2.1.2.1
          refine lv_aload_n hx hb dX4_readSum_49 rfl (lv_at hl 2 rfl) ?_
          refine lv_iload_n hx hb dX4_readSum_50 rfl (lv_at hl 3 rfl) ?_
          refine ti_callVvE (ci := 4) (av := [.int 0]) C hE hw (x_X4_readProduct_0 l D A cy hJ M_29 iM_29 t ht ((tT_fr q_30).trans f_16) lw hlw ((tT_fr q_30).trans f_17) B n g_34 p0r_28) ⟨ml_X4_184, ym_X4_readProduct, yv_X4_readProduct, yi_X4_readProduct, yc_X4_readProduct⟩ yd_X4_readProduct ob_1 (by decide) rfl rfl hl.1 (Nat.le_of_ble_eq_true rfl) ⟨by decide, by decide⟩ ⟨Nat.zero_le _, Nat.zero_le _⟩ dX4_readSum_51 (fun M_36 H locs hp_36 hw => ?_)
          obtain ⟨iM_36, q_37, q_38, q_39, q_40, p0r_35⟩ := hp_36
          obtain ⟨g_41, eg_41⟩ : ∃ z : Nat → Int, z = pp_pd B n (pp_pt B n 8) g_34 := ⟨_, rfl⟩
          rw [← eg_41] at p0r_35
          have lg_41_0 : g_41 0 = (tI M_36 2 4).toInt := p0r_35.2.1.1
          have lg_41_1 : g_41 1 = (tI M_36 2 6).toInt := p0r_35.2.1.2.1
          have lg_41_4 : g_41 4 = (tI M_36 1 4).toInt := p0r_35.2.2.1.1
          have lg_41_7 : g_41 7 = (tI M_36 t 4).toInt := p0r_35.2.2.2.1.1
          have lg_41_8 : g_41 8 = (tI M_36 t 5).toInt := p0r_35.2.2.2.1.2.1
          refine lv_aload_n hx hb dX4_readSum_54 rfl (lv_at hl 2 rfl) ?_
          refine ti_get (ci := 4) (k := 2) (N := 6) (T := TX4) (v := .ref (A lw 0)) C hw iw_4 rfl ob_1 (by decide) (by decide) fl_X4_154 rfl (ti_Tv ((tT_fr q_37).trans ((tT_fr q_30).trans f_17))) dX4_readSum_55 ?_
          refine lv_iload_n hx hb dX4_readSum_58 rfl (lv_at hl 0 rfl) ?_
          refine lv_ineg hx hb dX4_readSum_59 ?_
          refine lv_topi (fun x_42 ex_42 => ?_)
          have tx_42 : x_42.toInt = -x_23.toInt := i_neg ex_42 rfl (by omega)
          refine ti_callVv (ci := 1) (av := [.int x_42]) C hw (x_X1_add l D A cy hJ M_36 iM_36 lw hlw x_42 (by first | omega | exact Or.inl (by decide) | exact Or.inr (by decide)) t ht B n g_41 p0r_35) ⟨ml_X4_170, ym_X1_add, yv_X1_add, yi_X1_add, yc_X1_add⟩ yd_X1_add hlw (by decide) rfl rfl hl.1 (Nat.le_of_ble_eq_true rfl) ⟨by decide, by decide⟩ ⟨Nat.zero_le _, Nat.zero_le _⟩ dX4_readSum_60 (fun M_44 H locs hp_44 hw => ?_)
          obtain ⟨iM_44, q_45, q_46, p0r_43⟩ := hp_44
          have lM_44_0 : g_41 0 = (tI M_44 2 4).toInt := p0r_43.2.1.1
          have lM_44_1 : g_41 1 = (tI M_44 2 6).toInt := p0r_43.2.1.2.1
          have lM_44_4 : g_41 4 = (tI M_44 1 4).toInt := p0r_43.2.2.1.1
          have lM_44_7 : g_41 7 = (tI M_44 t 4).toInt := p0r_43.2.2.2.1.1
          have lM_44_8 : g_41 8 = (tI M_44 t 5).toInt := p0r_43.2.2.2.1.2.1
          obtain ⟨x_47, ex_47⟩ : ∃ z : Int32, z = x_8 + 1 := ⟨_, rfl⟩
          have tx_47 : x_47.toInt = x_8.toInt + 1 := i_add ex_47 rfl (by decide) (by omega) (by omega)
          refine lv_iinc (v := x_47) (lv' := [(2, .int x_47), (3, .int x_23), (0, .ref (A 1 0)), (1, .int 0)]) hx hb dX4_readSum_63 hl (k := 1) rfl (by rw [ex_47]; rfl) (by decide) rfl (fun ls hl => ?_)
          refine lv_goto (tgt := 7) hx hb dX4_readSum_66 (by decide) ?_
          exact ih_21 x_47 M_44 g_41 _ _ _ (by omega) (by first | omega | decide) (by first | omega | decide) iM_44 ((q_45).trans ((q_37).trans ((q_30).trans f_12))) (f0.trans (f0_x q_46) (f0.trans q_38 (f0.trans q_31 f_13))) (((q_46 1).2.1).trans ((q_39).trans ((q_32).trans f_14))) (ot.trans (ot_fx ht q_46) (ot.trans q_40 (ot.trans q_33 f_15))) ((tT_fr q_45).trans ((tT_fr q_37).trans ((tT_fr q_30).trans f_16))) ((tT_fr q_45).trans ((tT_fr q_37).trans ((tT_fr q_30).trans f_17))) p0r_43 (j_20.trans (lp_step (decide_eq_true (by omega)) (by rw [eg_41, eg_34]) (by omega))) hw (lv_sub hl [0, 2, 3] rfl)
        · refine lv_aload_n hx hb dX4_readSum_25 rfl (lv_at hl 1 rfl) ?_
          refine ti_get (ci := 4) (k := 0) (N := 6) (T := TX4) (v := .ref (A 2 0)) C hw iw_4 rfl ob_1 (by decide) (by decide) fl_X4_12 rfl rfl dX4_readSum_26 ?_
          refine ti_get (ci := 7) (k := 4) (N := 7) (T := TX7) C hw iw_7 rfl ob_2 (by decide) (by decide) fl_X4_41 rfl rfl dX4_readSum_29 ?_
          refine ti_top (y := x_23) (ex_23.symm) ?_
          have u_25 : (tI M_11 2 4).toInt = (x_23 : Int32).toInt := by rw [(ex_23.symm)]
          refine lv_bipush (v := 39) hx hb dX4_readSum_32 (by decide) ?_
          refine sb_icmp_ne (tgt := 69) hx hb rfl (by decide : (39 : Int32).toInt = 39) dX4_readSum_34 (by decide) (fun c_34_25 => ?_) (fun c_34_25 => ?_)
          · exact hQ _ _ _ _ _ hw (⟨iM_11, (f_12), f_13, (f_14), f_15, (by unfold pp_sm; rw [← eg_7, j_20, lp_end (P := pp_qP) (f := 64 - x_8.toInt.toNat) (s := g_18) (Or.inr (decide_eq_false (by omega)))]; exact hs_19)⟩) dX4_readSum_69
          · refine lv_aload_n hx hb dX4_readSum_37 rfl (lv_at hl 1 rfl) ?_
            refine ti_get (ci := 4) (k := 0) (N := 6) (T := TX4) (v := .ref (A 2 0)) C hw iw_4 rfl ob_1 (by decide) (by decide) fl_X4_12 rfl rfl dX4_readSum_38 ?_
            refine ti_get (ci := 7) (k := 4) (N := 7) (T := TX7) C hw iw_7 rfl ob_2 (by decide) (by decide) fl_X4_41 rfl rfl dX4_readSum_41 ?_
            refine ti_top (y := x_23) (ex_23.symm) ?_
            have u_48 : (tI M_11 2 4).toInt = (x_23 : Int32).toInt := by rw [(ex_23.symm)]
            refine lv_istore_n (lv' := [(3, .int x_23), (2, .int x_8), (0, .ref (A 1 0)), (1, .int 0)]) hx hb dX4_readSum_44 rfl hl (by decide) rfl (fun ls hl => ?_)
            refine lv_aload_n hx hb dX4_readSum_45 rfl (lv_at hl 2 rfl) ?_
            refine ti_callVvE (ci := 4) (av := []) C hE hw (x_X4_knot l D A cy hJ M_11 iM_11 t ht (f_16) B n g_18 hs_19) ⟨ml_X4_167, ym_X4_knot, yv_X4_knot, yi_X4_knot, yc_X4_knot⟩ yd_X4_knot ob_1 (by decide) rfl rfl hl.1 (Nat.le_of_ble_eq_true rfl) ⟨by decide, by decide⟩ ⟨Nat.zero_le _, Nat.zero_le _⟩ dX4_readSum_46 (fun M_50 H locs hp_50 hw => ?_)
            obtain ⟨iM_50, q_51, q_52, q_53, q_54, p0r_49⟩ := hp_50
            obtain ⟨g_55, eg_55⟩ : ∃ z : Nat → Int, z = pp_kn B n g_18 := ⟨_, rfl⟩
            rw [← eg_55] at p0r_49
            have lg_55_0 : g_55 0 = (tI M_50 2 4).toInt := p0r_49.2.1.1
            have lg_55_1 : g_55 1 = (tI M_50 2 6).toInt := p0r_49.2.1.2.1
            have lg_55_4 : g_55 4 = (tI M_50 1 4).toInt := p0r_49.2.2.1.1
            have lg_55_7 : g_55 7 = (tI M_50 t 4).toInt := p0r_49.2.2.2.1.1
            have lg_55_8 : g_55 8 = (tI M_50 t 5).toInt := p0r_49.2.2.2.1.2.1
            refine lv_aload_n hx hb dX4_readSum_49 rfl (lv_at hl 2 rfl) ?_
            refine lv_iload_n hx hb dX4_readSum_50 rfl (lv_at hl 3 rfl) ?_
            refine ti_callVvE (ci := 4) (av := [.int 0]) C hE hw (x_X4_readProduct_0 l D A cy hJ M_50 iM_50 t ht ((tT_fr q_51).trans f_16) lw hlw ((tT_fr q_51).trans f_17) B n g_55 p0r_49) ⟨ml_X4_184, ym_X4_readProduct, yv_X4_readProduct, yi_X4_readProduct, yc_X4_readProduct⟩ yd_X4_readProduct ob_1 (by decide) rfl rfl hl.1 (Nat.le_of_ble_eq_true rfl) ⟨by decide, by decide⟩ ⟨Nat.zero_le _, Nat.zero_le _⟩ dX4_readSum_51 (fun M_57 H locs hp_57 hw => ?_)
            obtain ⟨iM_57, q_58, q_59, q_60, q_61, p0r_56⟩ := hp_57
            obtain ⟨g_62, eg_62⟩ : ∃ z : Nat → Int, z = pp_pd B n (pp_pt B n 8) g_55 := ⟨_, rfl⟩
            rw [← eg_62] at p0r_56
            have lg_62_0 : g_62 0 = (tI M_57 2 4).toInt := p0r_56.2.1.1
            have lg_62_1 : g_62 1 = (tI M_57 2 6).toInt := p0r_56.2.1.2.1
            have lg_62_4 : g_62 4 = (tI M_57 1 4).toInt := p0r_56.2.2.1.1
            have lg_62_7 : g_62 7 = (tI M_57 t 4).toInt := p0r_56.2.2.2.1.1
            have lg_62_8 : g_62 8 = (tI M_57 t 5).toInt := p0r_56.2.2.2.1.2.1
            refine lv_aload_n hx hb dX4_readSum_54 rfl (lv_at hl 2 rfl) ?_
            refine ti_get (ci := 4) (k := 2) (N := 6) (T := TX4) (v := .ref (A lw 0)) C hw iw_4 rfl ob_1 (by decide) (by decide) fl_X4_154 rfl (ti_Tv ((tT_fr q_58).trans ((tT_fr q_51).trans f_17))) dX4_readSum_55 ?_
            refine lv_iload_n hx hb dX4_readSum_58 rfl (lv_at hl 0 rfl) ?_
            refine lv_ineg hx hb dX4_readSum_59 ?_
            refine lv_topi (fun x_63 ex_63 => ?_)
            have tx_63 : x_63.toInt = -x_23.toInt := i_neg ex_63 rfl (by omega)
            refine ti_callVv (ci := 1) (av := [.int x_63]) C hw (x_X1_add l D A cy hJ M_57 iM_57 lw hlw x_63 (by first | omega | exact Or.inl (by decide) | exact Or.inr (by decide)) t ht B n g_62 p0r_56) ⟨ml_X4_170, ym_X1_add, yv_X1_add, yi_X1_add, yc_X1_add⟩ yd_X1_add hlw (by decide) rfl rfl hl.1 (Nat.le_of_ble_eq_true rfl) ⟨by decide, by decide⟩ ⟨Nat.zero_le _, Nat.zero_le _⟩ dX4_readSum_60 (fun M_65 H locs hp_65 hw => ?_)
            obtain ⟨iM_65, q_66, q_67, p0r_64⟩ := hp_65
            have lM_65_0 : g_62 0 = (tI M_65 2 4).toInt := p0r_64.2.1.1
            have lM_65_1 : g_62 1 = (tI M_65 2 6).toInt := p0r_64.2.1.2.1
            have lM_65_4 : g_62 4 = (tI M_65 1 4).toInt := p0r_64.2.2.1.1
            have lM_65_7 : g_62 7 = (tI M_65 t 4).toInt := p0r_64.2.2.2.1.1
            have lM_65_8 : g_62 8 = (tI M_65 t 5).toInt := p0r_64.2.2.2.1.2.1
            obtain ⟨x_68, ex_68⟩ : ∃ z : Int32, z = x_8 + 1 := ⟨_, rfl⟩
            have tx_68 : x_68.toInt = x_8.toInt + 1 := i_add ex_68 rfl (by decide) (by omega) (by omega)
            refine lv_iinc (v := x_68) (lv' := [(2, .int x_68), (3, .int x_23), (0, .ref (A 1 0)), (1, .int 0)]) hx hb dX4_readSum_63 hl (k := 1) rfl (by rw [ex_68]; rfl) (by decide) rfl (fun ls hl => ?_)
            refine lv_goto (tgt := 7) hx hb dX4_readSum_66 (by decide) ?_
            exact ih_21 x_68 M_65 g_62 _ _ _ (by omega) (by first | omega | decide) (by first | omega | decide) iM_65 ((q_66).trans ((q_58).trans ((q_51).trans f_12))) (f0.trans (f0_x q_67) (f0.trans q_59 (f0.trans q_52 f_13))) (((q_67 1).2.1).trans ((q_60).trans ((q_53).trans f_14))) (ot.trans (ot_fx ht q_67) (ot.trans q_61 (ot.trans q_54 f_15))) ((tT_fr q_66).trans ((tT_fr q_58).trans ((tT_fr q_51).trans f_16))) ((tT_fr q_66).trans ((tT_fr q_58).trans ((tT_fr q_51).trans f_17))) p0r_64 (j_20.trans (lp_step (decide_eq_true (by omega)) (by rw [eg_62, eg_55]) (by omega))) hw (lv_sub hl [0, 2, 3] rfl)
  exact hl_7_20 ((64 - 0 : Int).toNat + 1) 0 M_2 g_7 _ _ _ (Nat.lt_succ_self _) (by have lt0 : (0 : Int32).toInt = 0 := (by decide); first | omega | decide) (by have lt0 : (0 : Int32).toInt = 0 := (by decide); first | omega | decide) iM_2 (q_3) q_4 (q_5) q_6 ((tT_fr q_3).trans hT) ((tT_fr q_3).trans hL) p0r_1 rfl hw (lv_sub hl [0, 1, 2] rfl)
set_option maxHeartbeats 4000000 in
set_option maxRecDepth 100000 in
theorem x_X4_readComparison_0 (l : Launch) (D : va_G) (A : Nat → Nat → Nat) (cy : Nat → ClassId) (hJ : ti_inj ti_LT A) (M : ti_M) (hI : cI Tc M) (t : Nat) (ht : t = 3 ∨ t = 4) (hT : tT M 1 1 = some t) (lw : Nat) (hlw : ti_ob ti_LT lw 1) (hL : tT M 1 2 = some lw) (B : Nat → Int) (n : Nat) (rg : Nat → Int) (hr : rC B n t rg M) : ti_KvE l yX4_readComparison cX4_readComparison 3 67 ti_LT D A cy M [.ref (A 1 0), .int 0] (fun M2 => cI Tc M2 ∧ M2.2.2.2 = M.2.2.2 ∧ f0 M2 M ∧ tI M2 2 1 = tI M 2 1 ∧ ot t M2 M ∧ rC B n t (pp_cm B n (pp_pt B n 8) rg) M2) := by
  refine ti_eVE yp_X4_readComparison hJ ti_LT_nd (Nat.le_of_ble_eq_true rfl) ?_
  intro p e s m args below meth c Q H0 C hE hQ hw ls hl
  have hx := C.1
  have hb := C.2.1
  have hl : lv_has ls 3 [(0, .ref (A 1 0)), (1, .int 0)] := hl
  have l0 : rg 0 = (tI M 2 4).toInt := hr.2.1.1
  have l1 : rg 1 = (tI M 2 6).toInt := hr.2.1.2.1
  have l2 : rg 2 = (tI M 2 5).toInt := hr.2.1.2.2.1
  have l3 : rg 3 = (tI M 2 3).toInt := hr.2.1.2.2.2
  have l4 : rg 4 = (tI M 1 4).toInt := hr.2.2.1.1
  have l5 : rg 5 = (tI M 1 5).toInt := hr.2.2.1.2.1
  have l7 : rg 7 = (tI M t 4).toInt := hr.2.2.2.1.1
  have l8 : rg 8 = (tI M t 5).toInt := hr.2.2.2.1.2.1
  have l9 : rg 9 = (tI M t 3).toInt := hr.2.2.2.1.2.2
  refine lv_aload_n hx hb dX4_readComparison_0 rfl (lv_at hl 0 rfl) ?_
  refine lv_iload_n hx hb dX4_readComparison_1 rfl (lv_at hl 1 rfl) ?_
  refine ti_callVvE (ci := 4) (av := [.int 0]) C hE hw (x_X4_readSum_0 l D A cy hJ M hI t ht (hT) lw hlw (hL) B n rg hr) ⟨ml_X4_181, ym_X4_readSum, yv_X4_readSum, yi_X4_readSum, yc_X4_readSum⟩ yd_X4_readSum ob_1 (by decide) rfl rfl hl.1 (Nat.le_of_ble_eq_true rfl) ⟨by decide, by decide⟩ ⟨Nat.zero_le _, Nat.zero_le _⟩ dX4_readComparison_2 (fun M_2 H locs hp_2 hw => ?_)
  obtain ⟨iM_2, q_3, q_4, q_5, q_6, p0r_1⟩ := hp_2
  obtain ⟨g_7, eg_7⟩ : ∃ z : Nat → Int, z = pp_sm B n (pp_pt B n 8) rg := ⟨_, rfl⟩
  rw [← eg_7] at p0r_1
  have lg_7_0 : g_7 0 = (tI M_2 2 4).toInt := p0r_1.2.1.1
  have lg_7_1 : g_7 1 = (tI M_2 2 6).toInt := p0r_1.2.1.2.1
  have lg_7_4 : g_7 4 = (tI M_2 1 4).toInt := p0r_1.2.2.1.1
  have lg_7_7 : g_7 7 = (tI M_2 t 4).toInt := p0r_1.2.2.2.1.1
  have lg_7_8 : g_7 8 = (tI M_2 t 5).toInt := p0r_1.2.2.2.1.2.1
  refine lv_aload_n hx hb dX4_readComparison_5 rfl (lv_at hl 0 rfl) ?_
  refine ti_get (ci := 4) (k := 0) (N := 6) (T := TX4) (v := .ref (A 2 0)) C hw iw_4 rfl ob_1 (by decide) (by decide) fl_X4_12 rfl rfl dX4_readComparison_6 ?_
  refine ti_get (ci := 7) (k := 4) (N := 7) (T := TX7) C hw iw_7 rfl ob_2 (by decide) (by decide) fl_X4_41 rfl rfl dX4_readComparison_9 ?_
  refine lv_topi (fun x_8 ex_8 => ?_)
  have bx_8 : 0 ≤ x_8.toInt ∧ x_8.toInt ≤ 41 := cI_rd iM_2 ob_2.1 ex_8
  have ux_8 : (tI M_2 2 4).toInt = x_8.toInt := by rw [ex_8]
  refine lv_istore_n (lv' := [(2, .int x_8), (0, .ref (A 1 0)), (1, .int 0)]) hx hb dX4_readComparison_12 rfl hl (by decide) rfl (fun ls hl => ?_)
  refine lv_iload_n hx hb dX4_readComparison_13 rfl (lv_at hl 0 rfl) ?_
  refine lv_bipush (v := 32) hx hb dX4_readComparison_14 (by decide) ?_
  refine sb_icmp_lt (tgt := 43) hx hb rfl (by decide : (32 : Int32).toInt = 32) dX4_readComparison_16 (by decide) (fun c_16_8 => ?_) (fun c_16_8 => ?_)
  · exact hQ _ _ _ _ _ hw (⟨iM_2, (q_3), q_4, (q_5), q_6, (by unfold pp_cm; rw [← eg_7]; unfold pp_c2; rw [if_neg (fun q => by omega)]; exact p0r_1)⟩) dX4_readComparison_43
  · refine lv_iload_n hx hb dX4_readComparison_19 rfl (lv_at hl 0 rfl) ?_
    refine lv_bipush (v := 37) hx hb dX4_readComparison_20 (by decide) ?_
    refine sb_icmp_gt (tgt := 43) hx hb rfl (by decide : (37 : Int32).toInt = 37) dX4_readComparison_22 (by decide) (fun c_22_9 => ?_) (fun c_22_9 => ?_)
    · exact hQ _ _ _ _ _ hw (⟨iM_2, (q_3), q_4, (q_5), q_6, (by unfold pp_cm; rw [← eg_7]; unfold pp_c2; rw [if_neg (fun q => by omega)]; exact p0r_1)⟩) dX4_readComparison_43
    · refine lv_aload_n hx hb dX4_readComparison_25 rfl (lv_at hl 1 rfl) ?_
      refine ti_callVvE (ci := 4) (av := []) C hE hw (x_X4_knot l D A cy hJ M_2 iM_2 t ht ((tT_fr q_3).trans hT) B n g_7 p0r_1) ⟨ml_X4_167, ym_X4_knot, yv_X4_knot, yi_X4_knot, yc_X4_knot⟩ yd_X4_knot ob_1 (by decide) rfl rfl hl.1 (Nat.le_of_ble_eq_true rfl) ⟨by decide, by decide⟩ ⟨Nat.zero_le _, Nat.zero_le _⟩ dX4_readComparison_26 (fun M_12 H locs hp_12 hw => ?_)
      obtain ⟨iM_12, q_13, q_14, q_15, q_16, p0r_11⟩ := hp_12
      obtain ⟨g_17, eg_17⟩ : ∃ z : Nat → Int, z = pp_kn B n g_7 := ⟨_, rfl⟩
      rw [← eg_17] at p0r_11
      have lg_17_0 : g_17 0 = (tI M_12 2 4).toInt := p0r_11.2.1.1
      have lg_17_1 : g_17 1 = (tI M_12 2 6).toInt := p0r_11.2.1.2.1
      have lg_17_4 : g_17 4 = (tI M_12 1 4).toInt := p0r_11.2.2.1.1
      have lg_17_7 : g_17 7 = (tI M_12 t 4).toInt := p0r_11.2.2.2.1.1
      have lg_17_8 : g_17 8 = (tI M_12 t 5).toInt := p0r_11.2.2.2.1.2.1
      refine lv_aload_n hx hb dX4_readComparison_29 rfl (lv_at hl 1 rfl) ?_
      refine lv_iload_n hx hb dX4_readComparison_30 rfl (lv_at hl 2 rfl) ?_
      refine ti_callVvE (ci := 4) (av := [.int 0]) C hE hw (x_X4_readSum_0 l D A cy hJ M_12 iM_12 t ht ((tT_fr q_13).trans ((tT_fr q_3).trans hT)) lw hlw ((tT_fr q_13).trans ((tT_fr q_3).trans hL)) B n g_17 p0r_11) ⟨ml_X4_181, ym_X4_readSum, yv_X4_readSum, yi_X4_readSum, yc_X4_readSum⟩ yd_X4_readSum ob_1 (by decide) rfl rfl hl.1 (Nat.le_of_ble_eq_true rfl) ⟨by decide, by decide⟩ ⟨Nat.zero_le _, Nat.zero_le _⟩ dX4_readComparison_31 (fun M_19 H locs hp_19 hw => ?_)
      obtain ⟨iM_19, q_20, q_21, q_22, q_23, p0r_18⟩ := hp_19
      obtain ⟨g_24, eg_24⟩ : ∃ z : Nat → Int, z = pp_sm B n (pp_pt B n 8) g_17 := ⟨_, rfl⟩
      rw [← eg_24] at p0r_18
      have lg_24_0 : g_24 0 = (tI M_19 2 4).toInt := p0r_18.2.1.1
      have lg_24_1 : g_24 1 = (tI M_19 2 6).toInt := p0r_18.2.1.2.1
      have lg_24_4 : g_24 4 = (tI M_19 1 4).toInt := p0r_18.2.2.1.1
      have lg_24_7 : g_24 7 = (tI M_19 t 4).toInt := p0r_18.2.2.2.1.1
      have lg_24_8 : g_24 8 = (tI M_19 t 5).toInt := p0r_18.2.2.2.1.2.1
      refine lv_aload_n hx hb dX4_readComparison_34 rfl (lv_at hl 1 rfl) ?_
      refine ti_get (ci := 4) (k := 2) (N := 6) (T := TX4) (v := .ref (A lw 0)) C hw iw_4 rfl ob_1 (by decide) (by decide) fl_X4_154 rfl (ti_Tv ((tT_fr q_20).trans ((tT_fr q_13).trans ((tT_fr q_3).trans hL)))) dX4_readComparison_35 ?_
      refine lv_iload_n hx hb dX4_readComparison_38 rfl (lv_at hl 0 rfl) ?_
      refine lv_ineg hx hb dX4_readComparison_39 ?_
      refine lv_topi (fun x_25 ex_25 => ?_)
      have tx_25 : x_25.toInt = -x_8.toInt := i_neg ex_25 rfl (by omega)
      refine ti_callVv (ci := 1) (av := [.int x_25]) C hw (x_X1_add l D A cy hJ M_19 iM_19 lw hlw x_25 (by first | omega | exact Or.inl (by decide) | exact Or.inr (by decide)) t ht B n g_24 p0r_18) ⟨ml_X4_170, ym_X1_add, yv_X1_add, yi_X1_add, yc_X1_add⟩ yd_X1_add hlw (by decide) rfl rfl hl.1 (Nat.le_of_ble_eq_true rfl) ⟨by decide, by decide⟩ ⟨Nat.zero_le _, Nat.zero_le _⟩ dX4_readComparison_40 (fun M_27 H locs hp_27 hw => ?_)
      obtain ⟨iM_27, q_28, q_29, p0r_26⟩ := hp_27
      have lM_27_0 : g_24 0 = (tI M_27 2 4).toInt := p0r_26.2.1.1
      have lM_27_1 : g_24 1 = (tI M_27 2 6).toInt := p0r_26.2.1.2.1
      have lM_27_4 : g_24 4 = (tI M_27 1 4).toInt := p0r_26.2.2.1.1
      have lM_27_7 : g_24 7 = (tI M_27 t 4).toInt := p0r_26.2.2.2.1.1
      have lM_27_8 : g_24 8 = (tI M_27 t 5).toInt := p0r_26.2.2.2.1.2.1
      exact hQ _ _ _ _ _ hw (⟨iM_27, ((q_28).trans ((q_20).trans ((q_13).trans q_3))), (f0.trans (f0_x q_29) (f0.trans q_21 (f0.trans q_14 q_4))), (((q_29 1).2.1).trans ((q_22).trans ((q_15).trans q_5))), (ot.trans (ot_fx ht q_29) (ot.trans q_23 (ot.trans q_16 q_6))), (by unfold pp_cm; rw [← eg_7]; unfold pp_c2; rw [if_pos ⟨by omega, by omega⟩, ← eg_17, ← eg_24]; exact p0r_26)⟩) dX4_readComparison_43
set_option maxHeartbeats 4000000 in
set_option maxRecDepth 100000 in
theorem x_X4_readNegated_0 (l : Launch) (D : va_G) (A : Nat → Nat → Nat) (cy : Nat → ClassId) (hJ : ti_inj ti_LT A) (M : ti_M) (hI : cI Tc M) (t : Nat) (ht : t = 3 ∨ t = 4) (hT : tT M 1 1 = some t) (lw : Nat) (hlw : ti_ob ti_LT lw 1) (hL : tT M 1 2 = some lw) (B : Nat → Int) (n : Nat) (rg : Nat → Int) (hr : rC B n t rg M) : ti_KvE l yX4_readNegated cX4_readNegated 4 68 ti_LT D A cy M [.ref (A 1 0), .int 0] (fun M2 => cI Tc M2 ∧ M2.2.2.2 = M.2.2.2 ∧ f0 M2 M ∧ tI M2 2 1 = tI M 2 1 ∧ ot t M2 M ∧ rC B n t (pp_ng B n (pp_pt B n 8) rg) M2) := by
  refine ti_eVE yp_X4_readNegated hJ ti_LT_nd (Nat.le_of_ble_eq_true rfl) ?_
  intro p e s m args below meth c Q H0 C hE hQ hw ls hl
  have hx := C.1
  have hb := C.2.1
  have hl : lv_has ls 4 [(0, .ref (A 1 0)), (1, .int 0)] := hl
  have l0 : rg 0 = (tI M 2 4).toInt := hr.2.1.1
  have l1 : rg 1 = (tI M 2 6).toInt := hr.2.1.2.1
  have l2 : rg 2 = (tI M 2 5).toInt := hr.2.1.2.2.1
  have l3 : rg 3 = (tI M 2 3).toInt := hr.2.1.2.2.2
  have l4 : rg 4 = (tI M 1 4).toInt := hr.2.2.1.1
  have l5 : rg 5 = (tI M 1 5).toInt := hr.2.2.1.2.1
  have l7 : rg 7 = (tI M t 4).toInt := hr.2.2.2.1.1
  have l8 : rg 8 = (tI M t 5).toInt := hr.2.2.2.1.2.1
  have l9 : rg 9 = (tI M t 3).toInt := hr.2.2.2.1.2.2
  refine lv_iconst (v := 0) hx hb dX4_readNegated_0 (by decide) ?_
  refine lv_istore_n (lv' := [(2, .int 0), (0, .ref (A 1 0)), (1, .int 0)]) hx hb dX4_readNegated_1 rfl hl (by decide) rfl (fun ls hl => ?_)
  have hl_2_13 : ∀ (n_14 : Nat) (x_1 : Int32) (M_4 : ti_M) (g_11 : Nat → Int) (H : Heap) (locs : List Loc) (ls : Array Slot), (65 - x_1.toInt : Int).toNat < n_14 → (0 ≤ x_1.toInt) → (x_1.toInt ≤ 65) → (cI Tc M_4) → (M_4.2.2.2 = M.2.2.2) → (f0 M_4 M) → (tI M_4 2 1 = tI M 2 1) → (ot t M_4 M) → (tT M_4 1 1 = (some t)) → (tT M_4 1 2 = (some lw)) → (rC B n t g_11 M_4) → (pp_lp pp_qN (pp_kn B n) 65 rg = pp_lp pp_qN (pp_kn B n) (65 - (x_1.toInt).toNat) g_11) → ti_H ti_LT D A cy H0 M_4 H locs → lv_has ls 4 [(2, .int x_1), (0, .ref (A 1 0)), (1, .int 0)] → W p l e (ti_rm 68) s m args below meth c H locs 0 0 Q (F0 m 2 ls []) := by
    intro n_14
    induction n_14 with
    | zero => intro x_1 M_4 g_11 H locs ls hf_14; exact absurd hf_14 (Nat.not_lt_zero _)
    | succ n_14 ih_14 =>
      intro x_1 M_4 g_11 H locs ls hf_14 b_2 b_3 iM_4 f_5 f_6 f_7 f_8 f_9 f_10 hs_12 j_13 hw hl
      have lg_11_0 : g_11 0 = (tI M_4 2 4).toInt := hs_12.2.1.1
      have lg_11_1 : g_11 1 = (tI M_4 2 6).toInt := hs_12.2.1.2.1
      have lg_11_4 : g_11 4 = (tI M_4 1 4).toInt := hs_12.2.2.1.1
      have lg_11_7 : g_11 7 = (tI M_4 t 4).toInt := hs_12.2.2.2.1.1
      have lg_11_8 : g_11 8 = (tI M_4 t 5).toInt := hs_12.2.2.2.1.2.1
      refine lv_iload_n hx hb dX4_readNegated_2 rfl (lv_at hl 0 rfl) ?_
      refine lv_bipush (v := 64) hx hb dX4_readNegated_3 (by decide) ?_
      have hj_30_26 : ∀  (H : Heap) (locs : List Loc) (ls : Array Slot), (pp_lp pp_qN (pp_kn B n) 65 rg = g_11) → ti_H ti_LT D A cy H0 M_4 H locs → lv_has ls 4 [(2, .int x_1), (0, .ref (A 1 0)), (1, .int 0)] → W p l e (ti_rm 68) s m args below meth c H locs 0 0 Q (F0 m 30 ls []) := by
        intro  H locs ls j_26 hw hl
        have lg_11_0 : g_11 0 = (tI M_4 2 4).toInt := hs_12.2.1.1
        have lg_11_1 : g_11 1 = (tI M_4 2 6).toInt := hs_12.2.1.2.1
        have lg_11_4 : g_11 4 = (tI M_4 1 4).toInt := hs_12.2.2.1.1
        have lg_11_7 : g_11 7 = (tI M_4 t 4).toInt := hs_12.2.2.2.1.1
        have lg_11_8 : g_11 8 = (tI M_4 t 5).toInt := hs_12.2.2.2.1.2.1
        refine lv_aload_n hx hb dX4_readNegated_30 rfl (lv_at hl 1 rfl) ?_
        refine lv_iload_n hx hb dX4_readNegated_31 rfl (lv_at hl 2 rfl) ?_
        refine ti_callVvE (ci := 4) (av := [.int 0]) C hE hw (x_X4_readComparison_0 l D A cy hJ M_4 iM_4 t ht (f_9) lw hlw (f_10) B n g_11 hs_12) ⟨ml_X4_178, ym_X4_readComparison, yv_X4_readComparison, yi_X4_readComparison, yc_X4_readComparison⟩ yd_X4_readComparison ob_1 (by decide) rfl rfl hl.1 (Nat.le_of_ble_eq_true rfl) ⟨by decide, by decide⟩ ⟨Nat.zero_le _, Nat.zero_le _⟩ dX4_readNegated_32 (fun M_28 H locs hp_28 hw => ?_)
        obtain ⟨iM_28, q_29, q_30, q_31, q_32, p0r_27⟩ := hp_28
        obtain ⟨g_33, eg_33⟩ : ∃ z : Nat → Int, z = pp_cm B n (pp_pt B n 8) g_11 := ⟨_, rfl⟩
        rw [← eg_33] at p0r_27
        have lg_33_0 : g_33 0 = (tI M_28 2 4).toInt := p0r_27.2.1.1
        have lg_33_1 : g_33 1 = (tI M_28 2 6).toInt := p0r_27.2.1.2.1
        have lg_33_4 : g_33 4 = (tI M_28 1 4).toInt := p0r_27.2.2.1.1
        have lg_33_7 : g_33 7 = (tI M_28 t 4).toInt := p0r_27.2.2.2.1.1
        have lg_33_8 : g_33 8 = (tI M_28 t 5).toInt := p0r_27.2.2.2.1.2.1
        have EM : pp_ng B n (pp_pt B n 8) rg = g_33 := by unfold pp_ng; rw [j_26, ← eg_33]
        refine lv_iconst (v := 0) hx hb dX4_readNegated_35 (by decide) ?_
        refine lv_istore_n (lv' := [(3, .int 0), (2, .int x_1), (0, .ref (A 1 0)), (1, .int 0)]) hx hb dX4_readNegated_36 rfl hl (by decide) rfl (fun ls hl => ?_)
        have hl_37_46 : ∀ (n_47 : Nat) (x_34 : Int32) (M_37 : ti_M) (g_44 : Nat → Int) (H : Heap) (locs : List Loc) (ls : Array Slot), (65 - x_34.toInt : Int).toNat < n_47 → (0 ≤ x_34.toInt) → (x_34.toInt ≤ 65) → (cI Tc M_37) → (M_37.2.2.2 = M.2.2.2) → (f0 M_37 M) → (tI M_37 2 1 = tI M 2 1) → (ot t M_37 M) → (tT M_37 1 1 = (some t)) → (tT M_37 1 2 = (some lw)) → (rC B n t g_44 M_37) → (g_33 = g_44) → ti_H ti_LT D A cy H0 M_37 H locs → lv_has ls 4 [(3, .int x_34), (2, .int x_1), (0, .ref (A 1 0)), (1, .int 0)] → W p l e (ti_rm 68) s m args below meth c H locs 0 0 Q (F0 m 37 ls []) := by
          intro n_47
          induction n_47 with
          | zero => intro x_34 M_37 g_44 H locs ls hf_47; exact absurd hf_47 (Nat.not_lt_zero _)
          | succ n_47 ih_47 =>
            intro x_34 M_37 g_44 H locs ls hf_47 b_35 b_36 iM_37 f_38 f_39 f_40 f_41 f_42 f_43 hs_45 j_46 hw hl
            have lg_44_0 : g_44 0 = (tI M_37 2 4).toInt := hs_45.2.1.1
            have lg_44_1 : g_44 1 = (tI M_37 2 6).toInt := hs_45.2.1.2.1
            have lg_44_4 : g_44 4 = (tI M_37 1 4).toInt := hs_45.2.2.1.1
            have lg_44_7 : g_44 7 = (tI M_37 t 4).toInt := hs_45.2.2.2.1.1
            have lg_44_8 : g_44 8 = (tI M_37 t 5).toInt := hs_45.2.2.2.1.2.1
            refine lv_iload_n hx hb dX4_readNegated_37 rfl (lv_at hl 0 rfl) ?_
            refine lv_iload_n hx hb dX4_readNegated_38 rfl (lv_at hl 1 rfl) ?_
            refine sb_icmp_ge (tgt := 57) hx hb rfl rfl dX4_readNegated_39 (by decide) (fun c_39_47 => ?_) (fun c_39_47 => ?_)
            · exact hQ _ _ _ _ _ hw (⟨iM_37, (f_38), f_39, (f_40), f_41, (by rw [EM, j_46]; exact hs_45)⟩) dX4_readNegated_57
            · refine lv_aload_n hx hb dX4_readNegated_42 rfl (lv_at hl 2 rfl) ?_
              refine ti_get (ci := 4) (k := 2) (N := 6) (T := TX4) (v := .ref (A lw 0)) C hw iw_4 rfl ob_1 (by decide) (by decide) fl_X4_154 rfl (ti_Tv (f_43)) dX4_readNegated_43 ?_
              refine lv_bipush (v := (-24)) hx hb dX4_readNegated_46 (by decide) ?_
              refine ti_callVv (ci := 1) (av := [.int (-24)]) C hw (x_X1_add l D A cy hJ M_37 iM_37 lw hlw (-24) (by first | omega | exact Or.inl (by decide) | exact Or.inr (by decide)) t ht B n g_44 hs_45) ⟨ml_X4_170, ym_X1_add, yv_X1_add, yi_X1_add, yc_X1_add⟩ yd_X1_add hlw (by decide) rfl rfl hl.1 (Nat.le_of_ble_eq_true rfl) ⟨by decide, by decide⟩ ⟨Nat.zero_le _, Nat.zero_le _⟩ dX4_readNegated_48 (fun M_50 H locs hp_50 hw => ?_)
              obtain ⟨iM_50, q_51, q_52, p0r_49⟩ := hp_50
              have lM_50_0 : g_44 0 = (tI M_50 2 4).toInt := p0r_49.2.1.1
              have lM_50_1 : g_44 1 = (tI M_50 2 6).toInt := p0r_49.2.1.2.1
              have lM_50_4 : g_44 4 = (tI M_50 1 4).toInt := p0r_49.2.2.1.1
              have lM_50_7 : g_44 7 = (tI M_50 t 4).toInt := p0r_49.2.2.2.1.1
              have lM_50_8 : g_44 8 = (tI M_50 t 5).toInt := p0r_49.2.2.2.1.2.1
              obtain ⟨x_53, ex_53⟩ : ∃ z : Int32, z = x_34 + 1 := ⟨_, rfl⟩
              have tx_53 : x_53.toInt = x_34.toInt + 1 := i_add ex_53 rfl (by decide) (by omega) (by omega)
              refine lv_iinc (v := x_53) (lv' := [(3, .int x_53), (2, .int x_1), (0, .ref (A 1 0)), (1, .int 0)]) hx hb dX4_readNegated_51 hl (k := 0) rfl (by rw [ex_53]; rfl) (by decide) rfl (fun ls hl => ?_)
              refine lv_goto (tgt := 37) hx hb dX4_readNegated_54 (by decide) ?_
              exact ih_47 x_53 M_50 g_44 _ _ _ (by omega) (by first | omega | decide) (by first | omega | decide) iM_50 ((q_51).trans f_38) (f0.trans (f0_x q_52) f_39) (((q_52 1).2.1).trans f_40) (ot.trans (ot_fx ht q_52) f_41) ((tT_fr q_51).trans f_42) ((tT_fr q_51).trans f_43) p0r_49 j_46 hw (lv_sub hl [0, 1, 2, 3] rfl)
        exact hl_37_46 ((65 - 0 : Int).toNat + 1) 0 M_28 g_33 _ _ _ (Nat.lt_succ_self _) (by have lt0 : (0 : Int32).toInt = 0 := (by decide); first | omega | decide) (by have lt0 : (0 : Int32).toInt = 0 := (by decide); first | omega | decide) iM_28 ((q_29).trans f_5) (f0.trans q_30 f_6) ((q_31).trans f_7) (ot.trans q_32 f_8) ((tT_fr q_29).trans f_9) ((tT_fr q_29).trans f_10) p0r_27 rfl hw (lv_sub hl [0, 1, 2, 3] rfl)
      refine sb_icmp_gt (tgt := 30) hx hb rfl (by decide : (64 : Int32).toInt = 64) dX4_readNegated_5 (by decide) (fun c_5_14 => ?_) (fun c_5_14 => ?_)
      · exact hj_30_26  _ _ _ (by rw [j_13, lp_end (P := pp_qN) (f := 65 - x_1.toInt.toNat) (s := g_11) (Or.inl (by omega))]) hw (lv_sub hl [0, 1, 2] rfl)
      · refine lv_aload_n hx hb dX4_readNegated_8 rfl (lv_at hl 1 rfl) ?_
        refine ti_get (ci := 4) (k := 0) (N := 6) (T := TX4) (v := .ref (A 2 0)) C hw iw_4 rfl ob_1 (by decide) (by decide) fl_X4_12 rfl rfl dX4_readNegated_9 ?_
        refine ti_get (ci := 7) (k := 4) (N := 7) (T := TX7) C hw iw_7 rfl ob_2 (by decide) (by decide) fl_X4_41 rfl rfl dX4_readNegated_12 ?_
        refine lv_topi (fun x_16 ex_16 => ?_)
        have bx_16 : 0 ≤ x_16.toInt ∧ x_16.toInt ≤ 41 := cI_rd iM_4 ob_2.1 ex_16
        have ux_16 : (tI M_4 2 4).toInt = x_16.toInt := by rw [ex_16]
        refine lv_bipush (v := 24) hx hb dX4_readNegated_15 (by decide) ?_
        refine sb_icmp_ne (tgt := 30) hx hb rfl (by decide : (24 : Int32).toInt = 24) dX4_readNegated_17 (by decide) (fun c_17_16 => ?_) (fun c_17_16 => ?_)
        · exact hj_30_26  _ _ _ (by rw [j_13, lp_end (P := pp_qN) (f := 65 - x_1.toInt.toNat) (s := g_11) (Or.inr (decide_eq_false (by omega)))]) hw (lv_sub hl [0, 1, 2] rfl)
        · refine lv_aload_n hx hb dX4_readNegated_20 rfl (lv_at hl 1 rfl) ?_
          refine ti_callVvE (ci := 4) (av := []) C hE hw (x_X4_knot l D A cy hJ M_4 iM_4 t ht (f_9) B n g_11 hs_12) ⟨ml_X4_167, ym_X4_knot, yv_X4_knot, yi_X4_knot, yc_X4_knot⟩ yd_X4_knot ob_1 (by decide) rfl rfl hl.1 (Nat.le_of_ble_eq_true rfl) ⟨by decide, by decide⟩ ⟨Nat.zero_le _, Nat.zero_le _⟩ dX4_readNegated_21 (fun M_19 H locs hp_19 hw => ?_)
          obtain ⟨iM_19, q_20, q_21, q_22, q_23, p0r_18⟩ := hp_19
          obtain ⟨g_24, eg_24⟩ : ∃ z : Nat → Int, z = pp_kn B n g_11 := ⟨_, rfl⟩
          rw [← eg_24] at p0r_18
          have lg_24_0 : g_24 0 = (tI M_19 2 4).toInt := p0r_18.2.1.1
          have lg_24_1 : g_24 1 = (tI M_19 2 6).toInt := p0r_18.2.1.2.1
          have lg_24_4 : g_24 4 = (tI M_19 1 4).toInt := p0r_18.2.2.1.1
          have lg_24_7 : g_24 7 = (tI M_19 t 4).toInt := p0r_18.2.2.2.1.1
          have lg_24_8 : g_24 8 = (tI M_19 t 5).toInt := p0r_18.2.2.2.1.2.1
          obtain ⟨x_25, ex_25⟩ : ∃ z : Int32, z = x_1 + 1 := ⟨_, rfl⟩
          have tx_25 : x_25.toInt = x_1.toInt + 1 := i_add ex_25 rfl (by decide) (by omega) (by omega)
          refine lv_iinc (v := x_25) (lv' := [(2, .int x_25), (0, .ref (A 1 0)), (1, .int 0)]) hx hb dX4_readNegated_24 hl (k := 0) rfl (by rw [ex_25]; rfl) (by decide) rfl (fun ls hl => ?_)
          refine lv_goto (tgt := 2) hx hb dX4_readNegated_27 (by decide) ?_
          exact ih_14 x_25 M_19 g_24 _ _ _ (by omega) (by first | omega | decide) (by first | omega | decide) iM_19 ((q_20).trans f_5) (f0.trans q_21 f_6) ((q_22).trans f_7) (ot.trans q_23 f_8) ((tT_fr q_20).trans f_9) ((tT_fr q_20).trans f_10) p0r_18 (j_13.trans (lp_step (decide_eq_true (by omega)) (by rw [eg_24]) (by omega))) hw (lv_sub hl [0, 1, 2] rfl)
  exact hl_2_13 ((65 - 0 : Int).toNat + 1) 0 M rg _ _ _ (Nat.lt_succ_self _) (by have lt0 : (0 : Int32).toInt = 0 := (by decide); first | omega | decide) (by have lt0 : (0 : Int32).toInt = 0 := (by decide); first | omega | decide) hI rfl f0.refl rfl ot.refl (hT) (hL) hr rfl hw (lv_sub hl [0, 1, 2] rfl)
set_option maxHeartbeats 4000000 in
set_option maxRecDepth 100000 in
theorem x_X4_readBoth_0 (l : Launch) (D : va_G) (A : Nat → Nat → Nat) (cy : Nat → ClassId) (hJ : ti_inj ti_LT A) (M : ti_M) (hI : cI Tc M) (t : Nat) (ht : t = 3 ∨ t = 4) (hT : tT M 1 1 = some t) (lw : Nat) (hlw : ti_ob ti_LT lw 1) (hL : tT M 1 2 = some lw) (B : Nat → Int) (n : Nat) (rg : Nat → Int) (hr : rC B n t rg M) : ti_KvE l yX4_readBoth cX4_readBoth 3 69 ti_LT D A cy M [.ref (A 1 0), .int 0] (fun M2 => cI Tc M2 ∧ M2.2.2.2 = M.2.2.2 ∧ f0 M2 M ∧ tI M2 2 1 = tI M 2 1 ∧ ot t M2 M ∧ rC B n t (pp_bo B n (pp_pt B n 8) rg) M2) := by
  refine ti_eVE yp_X4_readBoth hJ ti_LT_nd (Nat.le_of_ble_eq_true rfl) ?_
  intro p e s m args below meth c Q H0 C hE hQ hw ls hl
  have hx := C.1
  have hb := C.2.1
  have hl : lv_has ls 3 [(0, .ref (A 1 0)), (1, .int 0)] := hl
  have l0 : rg 0 = (tI M 2 4).toInt := hr.2.1.1
  have l1 : rg 1 = (tI M 2 6).toInt := hr.2.1.2.1
  have l2 : rg 2 = (tI M 2 5).toInt := hr.2.1.2.2.1
  have l3 : rg 3 = (tI M 2 3).toInt := hr.2.1.2.2.2
  have l4 : rg 4 = (tI M 1 4).toInt := hr.2.2.1.1
  have l5 : rg 5 = (tI M 1 5).toInt := hr.2.2.1.2.1
  have l7 : rg 7 = (tI M t 4).toInt := hr.2.2.2.1.1
  have l8 : rg 8 = (tI M t 5).toInt := hr.2.2.2.1.2.1
  have l9 : rg 9 = (tI M t 3).toInt := hr.2.2.2.1.2.2
  refine lv_aload_n hx hb dX4_readBoth_0 rfl (lv_at hl 0 rfl) ?_
  refine lv_iload_n hx hb dX4_readBoth_1 rfl (lv_at hl 1 rfl) ?_
  refine ti_callVvE (ci := 4) (av := [.int 0]) C hE hw (x_X4_readNegated_0 l D A cy hJ M hI t ht (hT) lw hlw (hL) B n rg hr) ⟨ml_X4_175, ym_X4_readNegated, yv_X4_readNegated, yi_X4_readNegated, yc_X4_readNegated⟩ yd_X4_readNegated ob_1 (by decide) rfl rfl hl.1 (Nat.le_of_ble_eq_true rfl) ⟨by decide, by decide⟩ ⟨Nat.zero_le _, Nat.zero_le _⟩ dX4_readBoth_2 (fun M_2 H locs hp_2 hw => ?_)
  obtain ⟨iM_2, q_3, q_4, q_5, q_6, p0r_1⟩ := hp_2
  obtain ⟨g_7, eg_7⟩ : ∃ z : Nat → Int, z = pp_ng B n (pp_pt B n 8) rg := ⟨_, rfl⟩
  rw [← eg_7] at p0r_1
  have lg_7_0 : g_7 0 = (tI M_2 2 4).toInt := p0r_1.2.1.1
  have lg_7_1 : g_7 1 = (tI M_2 2 6).toInt := p0r_1.2.1.2.1
  have lg_7_4 : g_7 4 = (tI M_2 1 4).toInt := p0r_1.2.2.1.1
  have lg_7_7 : g_7 7 = (tI M_2 t 4).toInt := p0r_1.2.2.2.1.1
  have lg_7_8 : g_7 8 = (tI M_2 t 5).toInt := p0r_1.2.2.2.1.2.1
  refine lv_iconst (v := 0) hx hb dX4_readBoth_5 (by decide) ?_
  refine lv_istore_n (lv' := [(2, .int 0), (0, .ref (A 1 0)), (1, .int 0)]) hx hb dX4_readBoth_6 rfl hl (by decide) rfl (fun ls hl => ?_)
  have hl_7_20 : ∀ (n_21 : Nat) (x_8 : Int32) (M_11 : ti_M) (g_18 : Nat → Int) (H : Heap) (locs : List Loc) (ls : Array Slot), (64 - x_8.toInt : Int).toNat < n_21 → (0 ≤ x_8.toInt) → (x_8.toInt ≤ 64) → (cI Tc M_11) → (M_11.2.2.2 = M.2.2.2) → (f0 M_11 M) → (tI M_11 2 1 = tI M 2 1) → (ot t M_11 M) → (tT M_11 1 1 = (some t)) → (tT M_11 1 2 = (some lw)) → (rC B n t g_18 M_11) → (pp_lp pp_qA (fun s => pp_ng B n (pp_pt B n 8) (pp_kn B n s)) 64 g_7 = pp_lp pp_qA (fun s => pp_ng B n (pp_pt B n 8) (pp_kn B n s)) (64 - (x_8.toInt).toNat) g_18) → ti_H ti_LT D A cy H0 M_11 H locs → lv_has ls 3 [(2, .int x_8), (0, .ref (A 1 0)), (1, .int 0)] → W p l e (ti_rm 69) s m args below meth c H locs 0 0 Q (F0 m 7 ls []) := by
    intro n_21
    induction n_21 with
    | zero => intro x_8 M_11 g_18 H locs ls hf_21; exact absurd hf_21 (Nat.not_lt_zero _)
    | succ n_21 ih_21 =>
      intro x_8 M_11 g_18 H locs ls hf_21 b_9 b_10 iM_11 f_12 f_13 f_14 f_15 f_16 f_17 hs_19 j_20 hw hl
      have lg_18_0 : g_18 0 = (tI M_11 2 4).toInt := hs_19.2.1.1
      have lg_18_1 : g_18 1 = (tI M_11 2 6).toInt := hs_19.2.1.2.1
      have lg_18_4 : g_18 4 = (tI M_11 1 4).toInt := hs_19.2.2.1.1
      have lg_18_7 : g_18 7 = (tI M_11 t 4).toInt := hs_19.2.2.2.1.1
      have lg_18_8 : g_18 8 = (tI M_11 t 5).toInt := hs_19.2.2.2.1.2.1
      refine lv_iload_n hx hb dX4_readBoth_7 rfl (lv_at hl 0 rfl) ?_
      refine lv_bipush (v := 64) hx hb dX4_readBoth_8 (by decide) ?_
      refine sb_icmp_ge (tgt := 49) hx hb rfl (by decide : (64 : Int32).toInt = 64) dX4_readBoth_10 (by decide) (fun c_10_21 => ?_) (fun c_10_21 => ?_)
      · exact hQ _ _ _ _ _ hw (⟨iM_11, (f_12), f_13, (f_14), f_15, (by unfold pp_bo; rw [← eg_7, j_20, lp_end (P := pp_qA) (f := 64 - x_8.toInt.toNat) (s := g_18) (Or.inl (by omega))]; exact hs_19)⟩) dX4_readBoth_49
      · refine lv_aload_n hx hb dX4_readBoth_13 rfl (lv_at hl 1 rfl) ?_
        refine ti_get (ci := 4) (k := 0) (N := 6) (T := TX4) (v := .ref (A 2 0)) C hw iw_4 rfl ob_1 (by decide) (by decide) fl_X4_12 rfl rfl dX4_readBoth_14 ?_
        refine ti_get (ci := 7) (k := 4) (N := 7) (T := TX7) C hw iw_7 rfl ob_2 (by decide) (by decide) fl_X4_41 rfl rfl dX4_readBoth_17 ?_
        refine lv_topi (fun x_23 ex_23 => ?_)
        have bx_23 : 0 ≤ x_23.toInt ∧ x_23.toInt ≤ 41 := cI_rd iM_11 ob_2.1 ex_23
        have ux_23 : (tI M_11 2 4).toInt = x_23.toInt := by rw [ex_23]
        refine lv_bipush (v := 22) hx hb dX4_readBoth_20 (by decide) ?_
        refine sb_icmp_ne (tgt := 49) hx hb rfl (by decide : (22 : Int32).toInt = 22) dX4_readBoth_22 (by decide) (fun c_22_23 => ?_) (fun c_22_23 => ?_)
        · exact hQ _ _ _ _ _ hw (⟨iM_11, (f_12), f_13, (f_14), f_15, (by unfold pp_bo; rw [← eg_7, j_20, lp_end (P := pp_qA) (f := 64 - x_8.toInt.toNat) (s := g_18) (Or.inr (decide_eq_false (by omega)))]; exact hs_19)⟩) dX4_readBoth_49
        · refine lv_aload_n hx hb dX4_readBoth_25 rfl (lv_at hl 1 rfl) ?_
          refine ti_callVvE (ci := 4) (av := []) C hE hw (x_X4_knot l D A cy hJ M_11 iM_11 t ht (f_16) B n g_18 hs_19) ⟨ml_X4_167, ym_X4_knot, yv_X4_knot, yi_X4_knot, yc_X4_knot⟩ yd_X4_knot ob_1 (by decide) rfl rfl hl.1 (Nat.le_of_ble_eq_true rfl) ⟨by decide, by decide⟩ ⟨Nat.zero_le _, Nat.zero_le _⟩ dX4_readBoth_26 (fun M_26 H locs hp_26 hw => ?_)
          obtain ⟨iM_26, q_27, q_28, q_29, q_30, p0r_25⟩ := hp_26
          obtain ⟨g_31, eg_31⟩ : ∃ z : Nat → Int, z = pp_kn B n g_18 := ⟨_, rfl⟩
          rw [← eg_31] at p0r_25
          have lg_31_0 : g_31 0 = (tI M_26 2 4).toInt := p0r_25.2.1.1
          have lg_31_1 : g_31 1 = (tI M_26 2 6).toInt := p0r_25.2.1.2.1
          have lg_31_4 : g_31 4 = (tI M_26 1 4).toInt := p0r_25.2.2.1.1
          have lg_31_7 : g_31 7 = (tI M_26 t 4).toInt := p0r_25.2.2.2.1.1
          have lg_31_8 : g_31 8 = (tI M_26 t 5).toInt := p0r_25.2.2.2.1.2.1
          refine lv_aload_n hx hb dX4_readBoth_29 rfl (lv_at hl 1 rfl) ?_
          refine lv_iload_n hx hb dX4_readBoth_30 rfl (lv_at hl 2 rfl) ?_
          refine ti_callVvE (ci := 4) (av := [.int 0]) C hE hw (x_X4_readNegated_0 l D A cy hJ M_26 iM_26 t ht ((tT_fr q_27).trans f_16) lw hlw ((tT_fr q_27).trans f_17) B n g_31 p0r_25) ⟨ml_X4_175, ym_X4_readNegated, yv_X4_readNegated, yi_X4_readNegated, yc_X4_readNegated⟩ yd_X4_readNegated ob_1 (by decide) rfl rfl hl.1 (Nat.le_of_ble_eq_true rfl) ⟨by decide, by decide⟩ ⟨Nat.zero_le _, Nat.zero_le _⟩ dX4_readBoth_31 (fun M_33 H locs hp_33 hw => ?_)
          obtain ⟨iM_33, q_34, q_35, q_36, q_37, p0r_32⟩ := hp_33
          obtain ⟨g_38, eg_38⟩ : ∃ z : Nat → Int, z = pp_ng B n (pp_pt B n 8) g_31 := ⟨_, rfl⟩
          rw [← eg_38] at p0r_32
          have lg_38_0 : g_38 0 = (tI M_33 2 4).toInt := p0r_32.2.1.1
          have lg_38_1 : g_38 1 = (tI M_33 2 6).toInt := p0r_32.2.1.2.1
          have lg_38_4 : g_38 4 = (tI M_33 1 4).toInt := p0r_32.2.2.1.1
          have lg_38_7 : g_38 7 = (tI M_33 t 4).toInt := p0r_32.2.2.2.1.1
          have lg_38_8 : g_38 8 = (tI M_33 t 5).toInt := p0r_32.2.2.2.1.2.1
          refine lv_aload_n hx hb dX4_readBoth_34 rfl (lv_at hl 1 rfl) ?_
          refine ti_get (ci := 4) (k := 2) (N := 6) (T := TX4) (v := .ref (A lw 0)) C hw iw_4 rfl ob_1 (by decide) (by decide) fl_X4_154 rfl (ti_Tv ((tT_fr q_34).trans ((tT_fr q_27).trans f_17))) dX4_readBoth_35 ?_
          refine lv_bipush (v := (-22)) hx hb dX4_readBoth_38 (by decide) ?_
          refine ti_callVv (ci := 1) (av := [.int (-22)]) C hw (x_X1_add l D A cy hJ M_33 iM_33 lw hlw (-22) (by first | omega | exact Or.inl (by decide) | exact Or.inr (by decide)) t ht B n g_38 p0r_32) ⟨ml_X4_170, ym_X1_add, yv_X1_add, yi_X1_add, yc_X1_add⟩ yd_X1_add hlw (by decide) rfl rfl hl.1 (Nat.le_of_ble_eq_true rfl) ⟨by decide, by decide⟩ ⟨Nat.zero_le _, Nat.zero_le _⟩ dX4_readBoth_40 (fun M_40 H locs hp_40 hw => ?_)
          obtain ⟨iM_40, q_41, q_42, p0r_39⟩ := hp_40
          have lM_40_0 : g_38 0 = (tI M_40 2 4).toInt := p0r_39.2.1.1
          have lM_40_1 : g_38 1 = (tI M_40 2 6).toInt := p0r_39.2.1.2.1
          have lM_40_4 : g_38 4 = (tI M_40 1 4).toInt := p0r_39.2.2.1.1
          have lM_40_7 : g_38 7 = (tI M_40 t 4).toInt := p0r_39.2.2.2.1.1
          have lM_40_8 : g_38 8 = (tI M_40 t 5).toInt := p0r_39.2.2.2.1.2.1
          obtain ⟨x_43, ex_43⟩ : ∃ z : Int32, z = x_8 + 1 := ⟨_, rfl⟩
          have tx_43 : x_43.toInt = x_8.toInt + 1 := i_add ex_43 rfl (by decide) (by omega) (by omega)
          refine lv_iinc (v := x_43) (lv' := [(2, .int x_43), (0, .ref (A 1 0)), (1, .int 0)]) hx hb dX4_readBoth_43 hl (k := 0) rfl (by rw [ex_43]; rfl) (by decide) rfl (fun ls hl => ?_)
          refine lv_goto (tgt := 7) hx hb dX4_readBoth_46 (by decide) ?_
          exact ih_21 x_43 M_40 g_38 _ _ _ (by omega) (by first | omega | decide) (by first | omega | decide) iM_40 ((q_41).trans ((q_34).trans ((q_27).trans f_12))) (f0.trans (f0_x q_42) (f0.trans q_35 (f0.trans q_28 f_13))) (((q_42 1).2.1).trans ((q_36).trans ((q_29).trans f_14))) (ot.trans (ot_fx ht q_42) (ot.trans q_37 (ot.trans q_30 f_15))) ((tT_fr q_41).trans ((tT_fr q_34).trans ((tT_fr q_27).trans f_16))) ((tT_fr q_41).trans ((tT_fr q_34).trans ((tT_fr q_27).trans f_17))) p0r_39 (j_20.trans (lp_step (decide_eq_true (by omega)) (by rw [eg_38, eg_31]) (by omega))) hw (lv_sub hl [0, 1, 2] rfl)
  exact hl_7_20 ((64 - 0 : Int).toNat + 1) 0 M_2 g_7 _ _ _ (Nat.lt_succ_self _) (by have lt0 : (0 : Int32).toInt = 0 := (by decide); first | omega | decide) (by have lt0 : (0 : Int32).toInt = 0 := (by decide); first | omega | decide) iM_2 (q_3) q_4 (q_5) q_6 ((tT_fr q_3).trans hT) ((tT_fr q_3).trans hL) p0r_1 rfl hw (lv_sub hl [0, 1, 2] rfl)
set_option maxHeartbeats 4000000 in
set_option maxRecDepth 100000 in
theorem x_X4_readEither_0 (l : Launch) (D : va_G) (A : Nat → Nat → Nat) (cy : Nat → ClassId) (hJ : ti_inj ti_LT A) (M : ti_M) (hI : cI Tc M) (t : Nat) (ht : t = 3 ∨ t = 4) (hT : tT M 1 1 = some t) (lw : Nat) (hlw : ti_ob ti_LT lw 1) (hL : tT M 1 2 = some lw) (B : Nat → Int) (n : Nat) (rg : Nat → Int) (hr : rC B n t rg M) : ti_KvE l yX4_readEither cX4_readEither 3 70 ti_LT D A cy M [.ref (A 1 0), .int 0] (fun M2 => cI Tc M2 ∧ M2.2.2.2 = M.2.2.2 ∧ f0 M2 M ∧ tI M2 2 1 = tI M 2 1 ∧ ot t M2 M ∧ rC B n t (pp_ei B n (pp_pt B n 8) rg) M2) := by
  refine ti_eVE yp_X4_readEither hJ ti_LT_nd (Nat.le_of_ble_eq_true rfl) ?_
  intro p e s m args below meth c Q H0 C hE hQ hw ls hl
  have hx := C.1
  have hb := C.2.1
  have hl : lv_has ls 3 [(0, .ref (A 1 0)), (1, .int 0)] := hl
  have l0 : rg 0 = (tI M 2 4).toInt := hr.2.1.1
  have l1 : rg 1 = (tI M 2 6).toInt := hr.2.1.2.1
  have l2 : rg 2 = (tI M 2 5).toInt := hr.2.1.2.2.1
  have l3 : rg 3 = (tI M 2 3).toInt := hr.2.1.2.2.2
  have l4 : rg 4 = (tI M 1 4).toInt := hr.2.2.1.1
  have l5 : rg 5 = (tI M 1 5).toInt := hr.2.2.1.2.1
  have l7 : rg 7 = (tI M t 4).toInt := hr.2.2.2.1.1
  have l8 : rg 8 = (tI M t 5).toInt := hr.2.2.2.1.2.1
  have l9 : rg 9 = (tI M t 3).toInt := hr.2.2.2.1.2.2
  refine lv_aload_n hx hb dX4_readEither_0 rfl (lv_at hl 0 rfl) ?_
  refine lv_iload_n hx hb dX4_readEither_1 rfl (lv_at hl 1 rfl) ?_
  refine ti_callVvE (ci := 4) (av := [.int 0]) C hE hw (x_X4_readBoth_0 l D A cy hJ M hI t ht (hT) lw hlw (hL) B n rg hr) ⟨ml_X4_164, ym_X4_readBoth, yv_X4_readBoth, yi_X4_readBoth, yc_X4_readBoth⟩ yd_X4_readBoth ob_1 (by decide) rfl rfl hl.1 (Nat.le_of_ble_eq_true rfl) ⟨by decide, by decide⟩ ⟨Nat.zero_le _, Nat.zero_le _⟩ dX4_readEither_2 (fun M_2 H locs hp_2 hw => ?_)
  obtain ⟨iM_2, q_3, q_4, q_5, q_6, p0r_1⟩ := hp_2
  obtain ⟨g_7, eg_7⟩ : ∃ z : Nat → Int, z = pp_bo B n (pp_pt B n 8) rg := ⟨_, rfl⟩
  rw [← eg_7] at p0r_1
  have lg_7_0 : g_7 0 = (tI M_2 2 4).toInt := p0r_1.2.1.1
  have lg_7_1 : g_7 1 = (tI M_2 2 6).toInt := p0r_1.2.1.2.1
  have lg_7_4 : g_7 4 = (tI M_2 1 4).toInt := p0r_1.2.2.1.1
  have lg_7_7 : g_7 7 = (tI M_2 t 4).toInt := p0r_1.2.2.2.1.1
  have lg_7_8 : g_7 8 = (tI M_2 t 5).toInt := p0r_1.2.2.2.1.2.1
  refine lv_iconst (v := 0) hx hb dX4_readEither_5 (by decide) ?_
  refine lv_istore_n (lv' := [(2, .int 0), (0, .ref (A 1 0)), (1, .int 0)]) hx hb dX4_readEither_6 rfl hl (by decide) rfl (fun ls hl => ?_)
  have hl_7_20 : ∀ (n_21 : Nat) (x_8 : Int32) (M_11 : ti_M) (g_18 : Nat → Int) (H : Heap) (locs : List Loc) (ls : Array Slot), (64 - x_8.toInt : Int).toNat < n_21 → (0 ≤ x_8.toInt) → (x_8.toInt ≤ 64) → (cI Tc M_11) → (M_11.2.2.2 = M.2.2.2) → (f0 M_11 M) → (tI M_11 2 1 = tI M 2 1) → (ot t M_11 M) → (tT M_11 1 1 = (some t)) → (tT M_11 1 2 = (some lw)) → (rC B n t g_18 M_11) → (pp_lp pp_qO (fun s => pp_bo B n (pp_pt B n 8) (pp_kn B n s)) 64 g_7 = pp_lp pp_qO (fun s => pp_bo B n (pp_pt B n 8) (pp_kn B n s)) (64 - (x_8.toInt).toNat) g_18) → ti_H ti_LT D A cy H0 M_11 H locs → lv_has ls 3 [(2, .int x_8), (0, .ref (A 1 0)), (1, .int 0)] → W p l e (ti_rm 70) s m args below meth c H locs 0 0 Q (F0 m 7 ls []) := by
    intro n_21
    induction n_21 with
    | zero => intro x_8 M_11 g_18 H locs ls hf_21; exact absurd hf_21 (Nat.not_lt_zero _)
    | succ n_21 ih_21 =>
      intro x_8 M_11 g_18 H locs ls hf_21 b_9 b_10 iM_11 f_12 f_13 f_14 f_15 f_16 f_17 hs_19 j_20 hw hl
      have lg_18_0 : g_18 0 = (tI M_11 2 4).toInt := hs_19.2.1.1
      have lg_18_1 : g_18 1 = (tI M_11 2 6).toInt := hs_19.2.1.2.1
      have lg_18_4 : g_18 4 = (tI M_11 1 4).toInt := hs_19.2.2.1.1
      have lg_18_7 : g_18 7 = (tI M_11 t 4).toInt := hs_19.2.2.2.1.1
      have lg_18_8 : g_18 8 = (tI M_11 t 5).toInt := hs_19.2.2.2.1.2.1
      refine lv_iload_n hx hb dX4_readEither_7 rfl (lv_at hl 0 rfl) ?_
      refine lv_bipush (v := 64) hx hb dX4_readEither_8 (by decide) ?_
      refine sb_icmp_ge (tgt := 49) hx hb rfl (by decide : (64 : Int32).toInt = 64) dX4_readEither_10 (by decide) (fun c_10_21 => ?_) (fun c_10_21 => ?_)
      · exact hQ _ _ _ _ _ hw (⟨iM_11, (f_12), f_13, (f_14), f_15, (by unfold pp_ei; rw [← eg_7, j_20, lp_end (P := pp_qO) (f := 64 - x_8.toInt.toNat) (s := g_18) (Or.inl (by omega))]; exact hs_19)⟩) dX4_readEither_49
      · refine lv_aload_n hx hb dX4_readEither_13 rfl (lv_at hl 1 rfl) ?_
        refine ti_get (ci := 4) (k := 0) (N := 6) (T := TX4) (v := .ref (A 2 0)) C hw iw_4 rfl ob_1 (by decide) (by decide) fl_X4_12 rfl rfl dX4_readEither_14 ?_
        refine ti_get (ci := 7) (k := 4) (N := 7) (T := TX7) C hw iw_7 rfl ob_2 (by decide) (by decide) fl_X4_41 rfl rfl dX4_readEither_17 ?_
        refine lv_topi (fun x_23 ex_23 => ?_)
        have bx_23 : 0 ≤ x_23.toInt ∧ x_23.toInt ≤ 41 := cI_rd iM_11 ob_2.1 ex_23
        have ux_23 : (tI M_11 2 4).toInt = x_23.toInt := by rw [ex_23]
        refine lv_bipush (v := 23) hx hb dX4_readEither_20 (by decide) ?_
        refine sb_icmp_ne (tgt := 49) hx hb rfl (by decide : (23 : Int32).toInt = 23) dX4_readEither_22 (by decide) (fun c_22_23 => ?_) (fun c_22_23 => ?_)
        · exact hQ _ _ _ _ _ hw (⟨iM_11, (f_12), f_13, (f_14), f_15, (by unfold pp_ei; rw [← eg_7, j_20, lp_end (P := pp_qO) (f := 64 - x_8.toInt.toNat) (s := g_18) (Or.inr (decide_eq_false (by omega)))]; exact hs_19)⟩) dX4_readEither_49
        · refine lv_aload_n hx hb dX4_readEither_25 rfl (lv_at hl 1 rfl) ?_
          refine ti_callVvE (ci := 4) (av := []) C hE hw (x_X4_knot l D A cy hJ M_11 iM_11 t ht (f_16) B n g_18 hs_19) ⟨ml_X4_167, ym_X4_knot, yv_X4_knot, yi_X4_knot, yc_X4_knot⟩ yd_X4_knot ob_1 (by decide) rfl rfl hl.1 (Nat.le_of_ble_eq_true rfl) ⟨by decide, by decide⟩ ⟨Nat.zero_le _, Nat.zero_le _⟩ dX4_readEither_26 (fun M_26 H locs hp_26 hw => ?_)
          obtain ⟨iM_26, q_27, q_28, q_29, q_30, p0r_25⟩ := hp_26
          obtain ⟨g_31, eg_31⟩ : ∃ z : Nat → Int, z = pp_kn B n g_18 := ⟨_, rfl⟩
          rw [← eg_31] at p0r_25
          have lg_31_0 : g_31 0 = (tI M_26 2 4).toInt := p0r_25.2.1.1
          have lg_31_1 : g_31 1 = (tI M_26 2 6).toInt := p0r_25.2.1.2.1
          have lg_31_4 : g_31 4 = (tI M_26 1 4).toInt := p0r_25.2.2.1.1
          have lg_31_7 : g_31 7 = (tI M_26 t 4).toInt := p0r_25.2.2.2.1.1
          have lg_31_8 : g_31 8 = (tI M_26 t 5).toInt := p0r_25.2.2.2.1.2.1
          refine lv_aload_n hx hb dX4_readEither_29 rfl (lv_at hl 1 rfl) ?_
          refine lv_iload_n hx hb dX4_readEither_30 rfl (lv_at hl 2 rfl) ?_
          refine ti_callVvE (ci := 4) (av := [.int 0]) C hE hw (x_X4_readBoth_0 l D A cy hJ M_26 iM_26 t ht ((tT_fr q_27).trans f_16) lw hlw ((tT_fr q_27).trans f_17) B n g_31 p0r_25) ⟨ml_X4_164, ym_X4_readBoth, yv_X4_readBoth, yi_X4_readBoth, yc_X4_readBoth⟩ yd_X4_readBoth ob_1 (by decide) rfl rfl hl.1 (Nat.le_of_ble_eq_true rfl) ⟨by decide, by decide⟩ ⟨Nat.zero_le _, Nat.zero_le _⟩ dX4_readEither_31 (fun M_33 H locs hp_33 hw => ?_)
          obtain ⟨iM_33, q_34, q_35, q_36, q_37, p0r_32⟩ := hp_33
          obtain ⟨g_38, eg_38⟩ : ∃ z : Nat → Int, z = pp_bo B n (pp_pt B n 8) g_31 := ⟨_, rfl⟩
          rw [← eg_38] at p0r_32
          have lg_38_0 : g_38 0 = (tI M_33 2 4).toInt := p0r_32.2.1.1
          have lg_38_1 : g_38 1 = (tI M_33 2 6).toInt := p0r_32.2.1.2.1
          have lg_38_4 : g_38 4 = (tI M_33 1 4).toInt := p0r_32.2.2.1.1
          have lg_38_7 : g_38 7 = (tI M_33 t 4).toInt := p0r_32.2.2.2.1.1
          have lg_38_8 : g_38 8 = (tI M_33 t 5).toInt := p0r_32.2.2.2.1.2.1
          refine lv_aload_n hx hb dX4_readEither_34 rfl (lv_at hl 1 rfl) ?_
          refine ti_get (ci := 4) (k := 2) (N := 6) (T := TX4) (v := .ref (A lw 0)) C hw iw_4 rfl ob_1 (by decide) (by decide) fl_X4_154 rfl (ti_Tv ((tT_fr q_34).trans ((tT_fr q_27).trans f_17))) dX4_readEither_35 ?_
          refine lv_bipush (v := (-23)) hx hb dX4_readEither_38 (by decide) ?_
          refine ti_callVv (ci := 1) (av := [.int (-23)]) C hw (x_X1_add l D A cy hJ M_33 iM_33 lw hlw (-23) (by first | omega | exact Or.inl (by decide) | exact Or.inr (by decide)) t ht B n g_38 p0r_32) ⟨ml_X4_170, ym_X1_add, yv_X1_add, yi_X1_add, yc_X1_add⟩ yd_X1_add hlw (by decide) rfl rfl hl.1 (Nat.le_of_ble_eq_true rfl) ⟨by decide, by decide⟩ ⟨Nat.zero_le _, Nat.zero_le _⟩ dX4_readEither_40 (fun M_40 H locs hp_40 hw => ?_)
          obtain ⟨iM_40, q_41, q_42, p0r_39⟩ := hp_40
          have lM_40_0 : g_38 0 = (tI M_40 2 4).toInt := p0r_39.2.1.1
          have lM_40_1 : g_38 1 = (tI M_40 2 6).toInt := p0r_39.2.1.2.1
          have lM_40_4 : g_38 4 = (tI M_40 1 4).toInt := p0r_39.2.2.1.1
          have lM_40_7 : g_38 7 = (tI M_40 t 4).toInt := p0r_39.2.2.2.1.1
          have lM_40_8 : g_38 8 = (tI M_40 t 5).toInt := p0r_39.2.2.2.1.2.1
          obtain ⟨x_43, ex_43⟩ : ∃ z : Int32, z = x_8 + 1 := ⟨_, rfl⟩
          have tx_43 : x_43.toInt = x_8.toInt + 1 := i_add ex_43 rfl (by decide) (by omega) (by omega)
          refine lv_iinc (v := x_43) (lv' := [(2, .int x_43), (0, .ref (A 1 0)), (1, .int 0)]) hx hb dX4_readEither_43 hl (k := 0) rfl (by rw [ex_43]; rfl) (by decide) rfl (fun ls hl => ?_)
          refine lv_goto (tgt := 7) hx hb dX4_readEither_46 (by decide) ?_
          exact ih_21 x_43 M_40 g_38 _ _ _ (by omega) (by first | omega | decide) (by first | omega | decide) iM_40 ((q_41).trans ((q_34).trans ((q_27).trans f_12))) (f0.trans (f0_x q_42) (f0.trans q_35 (f0.trans q_28 f_13))) (((q_42 1).2.1).trans ((q_36).trans ((q_29).trans f_14))) (ot.trans (ot_fx ht q_42) (ot.trans q_37 (ot.trans q_30 f_15))) ((tT_fr q_41).trans ((tT_fr q_34).trans ((tT_fr q_27).trans f_16))) ((tT_fr q_41).trans ((tT_fr q_34).trans ((tT_fr q_27).trans f_17))) p0r_39 (j_20.trans (lp_step (decide_eq_true (by omega)) (by rw [eg_38, eg_31]) (by omega))) hw (lv_sub hl [0, 1, 2] rfl)
  exact hl_7_20 ((64 - 0 : Int).toNat + 1) 0 M_2 g_7 _ _ _ (Nat.lt_succ_self _) (by have lt0 : (0 : Int32).toInt = 0 := (by decide); first | omega | decide) (by have lt0 : (0 : Int32).toInt = 0 := (by decide); first | omega | decide) iM_2 (q_3) q_4 (q_5) q_6 ((tT_fr q_3).trans hT) ((tT_fr q_3).trans hL) p0r_1 rfl hw (lv_sub hl [0, 1, 2] rfl)

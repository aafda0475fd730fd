variable {Tc : gC} {Tm : gM}
set_option maxHeartbeats 4000000 in
set_option maxRecDepth 100000 in
theorem x_X10_negation_s (l : Launch) (D : va_G) (A : Nat → Nat → Nat) (cy : Nat → ClassId) (hJ : ti_inj ti_LM A) (M : ti_M) (hI : mI Tm M) (j a d : Nat) (hj : j ≤ 8) (hu : us M a d) (hc : (tY M 60 3 18).toInt ≤ (tI M 60 30).toInt + 64 - 64 * ff M) (ho : (tI M 60 29).toInt + j ≤ 16 - 8 * ff M) (ho2 : 8 * ff M ≤ (tI M 60 29).toInt + j) (B : Nat → Int) (n : Nat) (rg : Nat → Int) (hr : rQ B n rg M) (ih : ∀ i : Nat, i < j → ∀ (l : Launch) (D : va_G) (A : Nat → Nat → Nat) (cy : Nat → ClassId) (hJ : ti_inj ti_LM A) (M : ti_M) (hI : mI Tm M) (a d : Nat) (hj : i ≤ 8) (hu : us M a d) (hc : (tY M 60 3 18).toInt ≤ (tI M 60 30).toInt + 64 - 64 * ff M) (ho : (tI M 60 29).toInt + i ≤ 16 - 8 * ff M) (ho2 : 8 * ff M ≤ (tI M 60 29).toInt + i) (B : Nat → Int) (n : Nat) (rg : Nat → Int) (hr : rQ B n rg M), ti_KvE l yX10_expression cX10_expression 1 (78 + 71 * i) ti_LM D A cy M [.ref (A 60 0)] (fun M2 => rQ B n (pp_ei B n (pp_pt B n i) rg) M2 ∧ mI Tm M2 ∧ pe M2 M ∧ (pg M ≤ pg M2) ∧ (0 ≤ ff M2) ∧ (ff M2 ≤ ff M) ∧ ((tI M 60 30).toInt ≤ (tI M2 60 30).toInt) ∧ ((tI M2 60 30).toInt ≤ 64) ∧ ((tI M2 60 29).toInt ≤ (tI M 60 29).toInt + 8 - 8 * ff M2) ∧ ((tI M 60 29).toInt ≤ (tI M2 60 29).toInt + 8 - 8 * ff M2) ∧ ((tI M2 60 30).toInt - (tY M2 60 3 18).toInt ≤ (tI M 60 30).toInt - (tY M 60 3 18).toInt + 200 - 200 * ff M2) ∧ ((tI M 60 30).toInt - (tY M 60 3 18).toInt ≤ (tI M2 60 30).toInt - (tY M2 60 3 18).toInt + 200 - 200 * ff M2) ∧ (0 ≤ (tY M2 60 3 18).toInt) ∧ ((tY M2 60 3 18).toInt ≤ 64) ∧ (0 ≤ (tI M2 60 29).toInt) ∧ ((tI M2 60 29).toInt ≤ 8) ∧ us M2 a (d + 1))) (nn : Nat) (hn : 64 - (tI M 60 30).toInt + ff M ≤ nn) (ihn : ∀ i : Nat, i < nn → ∀ (l : Launch) (D : va_G) (A : Nat → Nat → Nat) (cy : Nat → ClassId) (hJ : ti_inj ti_LM A) (M : ti_M) (hI : mI Tm M) (a d : Nat) (hj : j ≤ 8) (hu : us M a d) (hc : (tY M 60 3 18).toInt ≤ (tI M 60 30).toInt + 64 - 64 * ff M) (ho : (tI M 60 29).toInt + j ≤ 16 - 8 * ff M) (ho2 : 8 * ff M ≤ (tI M 60 29).toInt + j) (B : Nat → Int) (n : Nat) (rg : Nat → Int) (hr : rQ B n rg M) (hn : 64 - (tI M 60 30).toInt + ff M ≤ i), ti_KvE l yX10_negation cX10_negation 2 (11 + 71 * j + i) ti_LM D A cy M [.ref (A 60 0)] (fun M2 => rQ B n (pp_ng B n (pp_pt B n j) rg) M2 ∧ mI Tm M2 ∧ pe M2 M ∧ (pg M ≤ pg M2) ∧ (0 ≤ ff M2) ∧ (ff M2 ≤ ff M) ∧ ((tI M 60 30).toInt ≤ (tI M2 60 30).toInt) ∧ ((tI M2 60 30).toInt ≤ 64) ∧ ((tI M2 60 29).toInt ≤ (tI M 60 29).toInt + 8 - 8 * ff M2) ∧ ((tI M 60 29).toInt ≤ (tI M2 60 29).toInt + 8 - 8 * ff M2) ∧ ((tI M2 60 30).toInt - (tY M2 60 3 18).toInt ≤ (tI M 60 30).toInt - (tY M 60 3 18).toInt + 200 - 200 * ff M2) ∧ ((tI M 60 30).toInt - (tY M 60 3 18).toInt ≤ (tI M2 60 30).toInt - (tY M2 60 3 18).toInt + 200 - 200 * ff M2) ∧ (0 ≤ (tY M2 60 3 18).toInt) ∧ ((tY M2 60 3 18).toInt ≤ 64) ∧ (0 ≤ (tI M2 60 29).toInt) ∧ ((tI M2 60 29).toInt ≤ 8) ∧ us M2 a (d + 1))) : ti_KvE l yX10_negation cX10_negation 2 (11 + 71 * j + nn) ti_LM D A cy M [.ref (A 60 0)] (fun M2 => rQ B n (pp_ng B n (pp_pt B n j) rg) M2 ∧ mI Tm M2 ∧ pe M2 M ∧ (pg M ≤ pg M2) ∧ (0 ≤ ff M2) ∧ (ff M2 ≤ ff M) ∧ ((tI M 60 30).toInt ≤ (tI M2 60 30).toInt) ∧ ((tI M2 60 30).toInt ≤ 64) ∧ ((tI M2 60 29).toInt ≤ (tI M 60 29).toInt + 8 - 8 * ff M2) ∧ ((tI M 60 29).toInt ≤ (tI M2 60 29).toInt + 8 - 8 * ff M2) ∧ ((tI M2 60 30).toInt - (tY M2 60 3 18).toInt ≤ (tI M 60 30).toInt - (tY M 60 3 18).toInt + 200 - 200 * ff M2) ∧ ((tI M 60 30).toInt - (tY M 60 3 18).toInt ≤ (tI M2 60 30).toInt - (tY M2 60 3 18).toInt + 200 - 200 * ff M2) ∧ (0 ≤ (tY M2 60 3 18).toInt) ∧ ((tY M2 60 3 18).toInt ≤ 64) ∧ (0 ≤ (tI M2 60 29).toInt) ∧ ((tI M2 60 29).toInt ≤ 8) ∧ us M2 a (d + 1)) := by
  refine ti_eVE yp_X10_negation hJ ti_LM_nd (Nat.le_of_ble_eq_true rfl) ?_
  intro p e s m args below meth c Q H0 C hE hQ hw ls hl
  have hx := C.1
  have hb := C.2.1
  have hl : lv_has ls 2 [(0, .ref (A 60 0))] := hl
  have hI30 := b30 hI
  have hI29 := b29 hI
  have hI18 := b18 hI
  have hIff := ff_b M
  refine lv_aload_n hx hb dX10_negation_0 rfl (lv_at hl 0 rfl) ?_
  refine lv_bipush (v := 18) hx hb dX10_negation_1 (by decide) ?_
  refine ti_callVi (ci := 10) (av := [.int 18]) C hw (x_X10_isWord l D A cy hJ M hI 18) ⟨ml_X10_261, ym_X10_isWord, yv_X10_isWord, yi_X10_isWord, yc_X10_isWord⟩ yd_X10_isWord ob_60 (by decide) rfl rfl hl.1 (Nat.le_of_ble_eq_true rfl) ⟨by simp only [ti_rm]; omega, by simp only [ti_rm]; omega⟩ ⟨Nat.zero_le _, Nat.zero_le _⟩ dX10_negation_3 (fun r_1 M_2 H locs hp_2 hw => ?_)
  obtain ⟨hm, hz⟩ := hp_2
  have hw := hw.to hm
  rcases hz with ⟨rfl, d0_3, d1_3, d2_3⟩ | ⟨rfl, d3_3⟩
  · have dk_3 := rQ_w1 (k := 24) hr d0_3 d1_3 d2_3 (by decide)
    have z_4 : ff M = 1 := ff_1 d0_3
    have z_5 : pg M = 2 * (tI M 60 21).toInt := pg_3 (by rw [d1_3]; decide)
    clear d0_3 d1_3 d2_3
    have z_NOT : True := trivial
    refine sb_if_eq (tgt := 30) hx hb (by decide : (1 : Int32).toInt = 1) dX10_negation_6 (by decide) (fun h => absurd h (by decide)) (fun c_6_5 => ?_)
    refine lv_aload_n hx hb dX10_negation_9 rfl (lv_at hl 0 rfl) ?_
    refine ti_callVv (ci := 10) (av := []) C hw (x_X10_knot l D A cy hJ M hI  B n rg hr) ⟨ml_X10_279, ym_X10_knot, yv_X10_knot, yi_X10_knot, yc_X10_knot⟩ yd_X10_knot ob_60 (by decide) rfl rfl hl.1 (Nat.le_of_ble_eq_true rfl) ⟨by simp only [ti_rm]; omega, by simp only [ti_rm]; omega⟩ ⟨Nat.zero_le _, Nat.zero_le _⟩ dX10_negation_10 (fun M_9 H locs hp_9 hw => ?_)
    obtain ⟨hs_10, hp_11⟩ := hp_9
    obtain ⟨iM_9, q_12, z_13, z_14, z_15, z_16, z_17, z_18⟩ := l_kn hp_11
    clear hp_11
    obtain ⟨g_19, eg_19⟩ : ∃ z : Nat → Int, z = pp_k1 rg := ⟨_, rfl⟩
    rw [← eg_19] at hs_10
    refine lv_aload_n hx hb dX10_negation_13 rfl (lv_at hl 0 rfl) ?_
    refine ti_callVvE (ci := 10) (av := []) C hE hw (x_X10_goOn l D A cy hJ M_9 iM_9  B n g_19 hs_10) ⟨ml_X10_267, ym_X10_goOn, yv_X10_goOn, yi_X10_goOn, yc_X10_goOn⟩ yd_X10_goOn ob_60 (by decide) rfl rfl hl.1 (Nat.le_of_ble_eq_true rfl) ⟨by simp only [ti_rm]; omega, by simp only [ti_rm]; omega⟩ ⟨Nat.zero_le _, Nat.zero_le _⟩ dX10_negation_14 (fun M_21 H locs hp_21 hw => ?_)
    obtain ⟨hs_22, hp_23⟩ := hp_21
    obtain ⟨iM_21, q_24, z_25, z_26, z_27, z_28, z_29⟩ := l_go hp_23
    clear hp_23
    obtain ⟨g_30, eg_30⟩ : ∃ z : Nat → Int, z = pp_go B n g_19 := ⟨_, rfl⟩
    rw [← eg_30] at hs_22
    refine lv_aload_n hx hb dX10_negation_17 rfl (lv_at hl 0 rfl) ?_
    refine ti_callVvE (ci := 10) (av := []) C hE hw (ihn (nn - 1) (by omega) l D A cy hJ M_21 iM_21 a (d) (by omega) (us_q (x := 21) (y := 30) hu (pr.trans (pr_w q_24 (by decide) (by decide)) (pr_w q_12 (by decide) (by decide))) (by omega)) (by omega) (by omega) (by omega) B n g_30 hs_22 (by omega)) ⟨ml_X10_285, ym_X10_negation, yv_X10_negation, yi_X10_negation, yc_X10_negation⟩ yd_X10_negation ob_60 (by decide) rfl rfl hl.1 (Nat.le_of_ble_eq_true rfl) ⟨by simp only [ti_rm]; omega, by simp only [ti_rm]; omega⟩ ⟨Nat.zero_le _, Nat.zero_le _⟩ dX10_negation_18 (fun M_32 H locs hp_32 hw => ?_)
    obtain ⟨hs_33, hp_34⟩ := hp_32
    obtain ⟨iM_32, q_35, p_36, p_37, p_38, p_39, p_40, p_41, p_42, p_43, p_44, p_45, p_46, p_47, p_48, u_49⟩ := hp_34
    obtain ⟨g_50, eg_50⟩ : ∃ z : Nat → Int, z = pp_ng B n (pp_pt B n j) g_30 := ⟨_, rfl⟩
    rw [← eg_50] at hs_33
    refine lv_aload_n hx hb dX10_negation_21 rfl (lv_at hl 0 rfl) ?_
    refine lv_iconst (v := 2) hx hb dX10_negation_22 (by decide) ?_
    refine lv_sipush (v := 260) hx hb dX10_negation_23 (by decide) ?_
    refine ti_callVv (ci := 10) (av := [.int 2, .int 260]) C hw (s_X10_puts l D A cy hJ M_32 iM_32 a (d + 1) (d + 1) 2 260 u_49 (nL (by omega)) (by first | exact Or.inr (Or.inl ⟨by decide, by decide, by omega, rfl⟩) | exact nF (by omega))) ⟨ml_X10_282, ym_X10_puts, yv_X10_puts, yi_X10_puts, yc_X10_puts⟩ yd_X10_puts ob_60 (by decide) rfl rfl hl.1 (Nat.le_of_ble_eq_true rfl) ⟨by simp only [ti_rm]; omega, by simp only [ti_rm]; omega⟩ ⟨Nat.zero_le _, Nat.zero_le _⟩ dX10_negation_26 (fun M_52 H locs hp_52 hw => ?_)
    have hs_53 := rQ_pe hs_33 hp_52.2.1 hp_52.2.2.2.1
    obtain ⟨iM_52, q_54, u_55, z_56, z_57, z_58, z_59, z_60, z_61⟩ := l_pu iM_32 hp_52
    clear hp_52
    exact hQ _ _ _ _ _ hw (⟨(by rw [ng_not dk_3.1 (rQ_8 hr hI (rQ_g0 hr (by omega))).1 (rQ_8 hr hI (rQ_g0 hr (by omega))).2, ← kn_kg (rQ_g0 hr (by omega)), ← eg_19, ← eg_30, ← eg_50]; exact hs_53), iM_52, (pe.trans q_54 (pe.trans q_35 (pe.trans (pe_pr q_24 (by decide) (by decide)) (pe_pr q_12 (by decide) (by decide))))), (by omega), (by omega), (by omega), (by omega), (by omega), (by omega), (by omega), (by omega), (by omega), (by omega), (by omega), (by omega), (by omega), u_55⟩) dX10_negation_29
  · have dk_3 := rQ_w0 (k := 24) hr d3_3 (by decide) (by decide)
    clear d3_3
    refine sb_if_eq (tgt := 30) hx hb (by decide : (0 : Int32).toInt = 0) dX10_negation_6 (by decide) (fun c_6_6 => ?_) (fun h => absurd h (by decide))
    refine lv_aload_n hx hb dX10_negation_30 rfl (lv_at hl 0 rfl) ?_
    refine ti_callVvE (ci := 10) (av := []) C hE hw (x_X10_sum l D A cy hJ M hI j a (d) (by omega) hu (by omega) (by omega) (by omega) B n rg hr ih) ⟨ml_X10_288, ym_X10_sum, yv_X10_sum, yi_X10_sum, yc_X10_sum⟩ yd_X10_sum ob_60 (by decide) rfl rfl hl.1 (Nat.le_of_ble_eq_true rfl) ⟨by simp only [ti_rm]; omega, by simp only [ti_rm]; omega⟩ ⟨Nat.zero_le _, Nat.zero_le _⟩ dX10_negation_31 (fun M_63 H locs hp_63 hw => ?_)
    obtain ⟨hs_64, hp_65⟩ := hp_63
    obtain ⟨iM_63, q_66, p_67, p_68, p_69, p_70, p_71, p_72, p_73, p_74, p_75, p_76, p_77, p_78, p_79, u_80⟩ := hp_65
    obtain ⟨g_81, eg_81⟩ : ∃ z : Nat → Int, z = pp_sm B n (pp_pt B n j) rg := ⟨_, rfl⟩
    rw [← eg_81] at hs_64
    refine lv_aload_n hx hb dX10_negation_34 rfl (lv_at hl 0 rfl) ?_
    refine ti_get (ci := 10) (k := 25) (N := 67) (T := TX10) C hw iw_10 rfl ob_60 (by decide) (by decide) fl_X10_208 rfl rfl dX10_negation_35 ?_
    refine lv_topi (fun x_82 ex_82 => ?_)
    have u_83 : (tI M_63 60 25).toInt = x_82.toInt := by rw [ex_82]
    have ufx_82 : (tI M_63 60 25).toInt = x_82.toInt := by rw [ex_82]
    refine sb_if_ne (tgt := 86) hx hb rfl dX10_negation_38 (by decide) (fun c_38_83 => ?_) (fun c_38_83 => ?_)
    · have z_85 : ff M_63 = 0 := ff_0 (fun h => c_38_83 (ufx_82.symm.trans h))
      clear c_38_83
      exact hQ _ _ _ _ _ hw (⟨(by rw [ng_no dk_3]; unfold pp_cm; rw [← eg_81]; unfold pp_c2; rw [if_neg (rQ_nc hs_64 (by omega))]; exact hs_64), iM_63, q_66, (by omega), (by omega), (by omega), (by omega), (by omega), (by omega), (by omega), (by omega), (by omega), (by omega), (by omega), (by omega), (by omega), u_80⟩) dX10_negation_86
    · have z_85 : ff M_63 = 1 := ff_1 (ufx_82.trans c_38_83)
      clear c_38_83
      refine lv_aload_n hx hb dX10_negation_41 rfl (lv_at hl 0 rfl) ?_
      refine ti_get (ci := 10) (k := 23) (N := 67) (T := TX10) C hw iw_10 rfl ob_60 (by decide) (by decide) fl_X10_173 rfl rfl dX10_negation_42 ?_
      refine lv_topi (fun x_86 ex_86 => ?_)
      have uqu_87 : (tI M_63 60 23).toInt = x_86.toInt := by rw [(ex_86.symm)]
      refine lv_iconst (v := 3) hx hb dX10_negation_45 (by decide) ?_
      refine sb_icmp_ne (tgt := 86) hx hb rfl (by decide : (3 : Int32).toInt = 3) dX10_negation_46 (by decide) (fun c_46_87 => ?_) (fun c_46_87 => ?_)
      · exact hQ _ _ _ _ _ hw (⟨(by rw [ng_no dk_3]; unfold pp_cm; rw [← eg_81]; unfold pp_c2; rw [if_neg (rQ_nc hs_64 (by omega))]; exact hs_64), iM_63, q_66, (by omega), (by omega), (by omega), (by omega), (by omega), (by omega), (by omega), (by omega), (by omega), (by omega), (by omega), (by omega), (by omega), u_80⟩) dX10_negation_86
      · refine lv_aload_n hx hb dX10_negation_49 rfl (lv_at hl 0 rfl) ?_
        refine ti_get (ci := 10) (k := 24) (N := 67) (T := TX10) C hw iw_10 rfl ob_60 (by decide) (by decide) fl_X10_183 rfl rfl dX10_negation_50 ?_
        refine lv_topi (fun x_89 ex_89 => ?_)
        have uqu_90 : (tI M_63 60 24).toInt = x_89.toInt := by rw [(ex_89.symm)]
        refine lv_bipush (v := 60) hx hb dX10_negation_53 (by decide) ?_
        refine sb_icmp_eq (tgt := 87) hx hb rfl (by decide : (60 : Int32).toInt = 60) dX10_negation_55 (by decide) (fun c_55_90 => ?_) (fun c_55_90 => ?_)
        · refine lv_aload_n hx hb dX10_negation_87 rfl (lv_at hl 0 rfl) ?_
          refine ti_get (ci := 10) (k := 24) (N := 67) (T := TX10) C hw iw_10 rfl ob_60 (by decide) (by decide) fl_X10_183 rfl rfl dX10_negation_88 ?_
          refine ti_top (y := x_89) (ex_89.symm) ?_
          have uqu_98 : (tI M_63 60 24).toInt = x_89.toInt := by rw [(ex_89.symm)]
          refine lv_istore_n (lv' := [(1, .int x_89), (0, .ref (A 60 0))]) hx hb dX10_negation_91 rfl hl (by decide) rfl (fun ls hl => ?_)
          refine lv_aload_n hx hb dX10_negation_92 rfl (lv_at hl 1 rfl) ?_
          refine ti_callVv (ci := 10) (av := []) C hw (x_X10_knot l D A cy hJ M_63 iM_63  B n g_81 hs_64) ⟨ml_X10_279, ym_X10_knot, yv_X10_knot, yi_X10_knot, yc_X10_knot⟩ yd_X10_knot ob_60 (by decide) rfl rfl hl.1 (Nat.le_of_ble_eq_true rfl) ⟨by simp only [ti_rm]; omega, by simp only [ti_rm]; omega⟩ ⟨Nat.zero_le _, Nat.zero_le _⟩ dX10_negation_93 (fun M_100 H locs hp_100 hw => ?_)
          obtain ⟨hs_101, hp_102⟩ := hp_100
          obtain ⟨iM_100, q_103, z_104, z_105, z_106, z_107, z_108, z_109⟩ := l_kn hp_102
          clear hp_102
          obtain ⟨g_110, eg_110⟩ : ∃ z : Nat → Int, z = pp_k1 g_81 := ⟨_, rfl⟩
          rw [← eg_110] at hs_101
          refine lv_aload_n hx hb dX10_negation_96 rfl (lv_at hl 1 rfl) ?_
          refine ti_callVvE (ci := 10) (av := []) C hE hw (x_X10_goOn l D A cy hJ M_100 iM_100  B n g_110 hs_101) ⟨ml_X10_267, ym_X10_goOn, yv_X10_goOn, yi_X10_goOn, yc_X10_goOn⟩ yd_X10_goOn ob_60 (by decide) rfl rfl hl.1 (Nat.le_of_ble_eq_true rfl) ⟨by simp only [ti_rm]; omega, by simp only [ti_rm]; omega⟩ ⟨Nat.zero_le _, Nat.zero_le _⟩ dX10_negation_97 (fun M_112 H locs hp_112 hw => ?_)
          obtain ⟨hs_113, hp_114⟩ := hp_112
          obtain ⟨iM_112, q_115, z_116, z_117, z_118, z_119, z_120⟩ := l_go hp_114
          clear hp_114
          obtain ⟨g_121, eg_121⟩ : ∃ z : Nat → Int, z = pp_go B n g_110 := ⟨_, rfl⟩
          rw [← eg_121] at hs_113
          refine lv_aload_n hx hb dX10_negation_100 rfl (lv_at hl 1 rfl) ?_
          refine ti_callVvE (ci := 10) (av := []) C hE hw (x_X10_sum l D A cy hJ M_112 iM_112 j a (d + 1) (by omega) (us_q (x := 21) (y := 30) u_80 (pr.trans (pr_w q_115 (by decide) (by decide)) (pr_w q_103 (by decide) (by decide))) (by omega)) (by omega) (by omega) (by omega) B n g_121 hs_113 ih) ⟨ml_X10_288, ym_X10_sum, yv_X10_sum, yi_X10_sum, yc_X10_sum⟩ yd_X10_sum ob_60 (by decide) rfl rfl hl.1 (Nat.le_of_ble_eq_true rfl) ⟨by simp only [ti_rm]; omega, by simp only [ti_rm]; omega⟩ ⟨Nat.zero_le _, Nat.zero_le _⟩ dX10_negation_101 (fun M_123 H locs hp_123 hw => ?_)
          obtain ⟨hs_124, hp_125⟩ := hp_123
          obtain ⟨iM_123, q_126, p_127, p_128, p_129, p_130, p_131, p_132, p_133, p_134, p_135, p_136, p_137, p_138, p_139, u_140⟩ := hp_125
          obtain ⟨g_141, eg_141⟩ : ∃ z : Nat → Int, z = pp_sm B n (pp_pt B n j) g_121 := ⟨_, rfl⟩
          rw [← eg_141] at hs_124
          refine lv_aload_n hx hb dX10_negation_104 rfl (lv_at hl 1 rfl) ?_
          refine lv_iconst (v := 2) hx hb dX10_negation_105 (by decide) ?_
          refine lv_iload_n hx hb dX10_negation_106 rfl (lv_at hl 0 rfl) ?_
          refine ti_callVv (ci := 10) (av := [.int 2, .int x_89]) C hw (s_X10_puts l D A cy hJ M_123 iM_123 a (d + 1 + 1) (d + 1) 2 x_89 u_140 (nL (by omega)) (by first | exact Or.inr (Or.inr (Or.inl ⟨by decide, by omega, rfl⟩)) | exact nF (by omega))) ⟨ml_X10_282, ym_X10_puts, yv_X10_puts, yi_X10_puts, yc_X10_puts⟩ yd_X10_puts ob_60 (by decide) rfl rfl hl.1 (Nat.le_of_ble_eq_true rfl) ⟨by simp only [ti_rm]; omega, by simp only [ti_rm]; omega⟩ ⟨Nat.zero_le _, Nat.zero_le _⟩ dX10_negation_107 (fun M_143 H locs hp_143 hw => ?_)
          have hs_144 := rQ_pe hs_124 hp_143.2.1 hp_143.2.2.2.1
          obtain ⟨iM_143, q_145, u_146, z_147, z_148, z_149, z_150, z_151, z_152⟩ := l_pu iM_123 hp_143
          clear hp_143
          exact hQ _ _ _ _ _ hw (⟨(by rw [ng_no dk_3]; unfold pp_cm; rw [← eg_81]; unfold pp_c2; rw [if_pos (rQ_yc hs_64 (by omega) (by omega) (by omega)), ← kn_kg (rQ_g0 hs_64 (by omega)), ← eg_110, ← eg_121, ← eg_141]; exact hs_144), iM_143, (pe.trans q_145 (pe.trans q_126 (pe.trans (pe_pr q_115 (by decide) (by decide)) (pe.trans (pe_pr q_103 (by decide) (by decide)) q_66)))), (by omega), (by omega), (by omega), (by omega), (by omega), (by omega), (by omega), (by omega), (by omega), (by omega), (by omega), (by omega), (by omega), u_146⟩) dX10_negation_110
        · refine lv_aload_n hx hb dX10_negation_58 rfl (lv_at hl 0 rfl) ?_
          refine ti_get (ci := 10) (k := 24) (N := 67) (T := TX10) C hw iw_10 rfl ob_60 (by decide) (by decide) fl_X10_183 rfl rfl dX10_negation_59 ?_
          refine ti_top (y := x_89) (ex_89.symm) ?_
          have uqu_92 : (tI M_63 60 24).toInt = x_89.toInt := by rw [(ex_89.symm)]
          refine lv_bipush (v := 62) hx hb dX10_negation_62 (by decide) ?_
          refine sb_icmp_eq (tgt := 87) hx hb rfl (by decide : (62 : Int32).toInt = 62) dX10_negation_64 (by decide) (fun c_64_92 => ?_) (fun c_64_92 => ?_)
          · refine lv_aload_n hx hb dX10_negation_87 rfl (lv_at hl 0 rfl) ?_
            refine ti_get (ci := 10) (k := 24) (N := 67) (T := TX10) C hw iw_10 rfl ob_60 (by decide) (by decide) fl_X10_183 rfl rfl dX10_negation_88 ?_
            refine ti_top (y := x_89) (ex_89.symm) ?_
            have uqu_153 : (tI M_63 60 24).toInt = x_89.toInt := by rw [(ex_89.symm)]
            refine lv_istore_n (lv' := [(1, .int x_89), (0, .ref (A 60 0))]) hx hb dX10_negation_91 rfl hl (by decide) rfl (fun ls hl => ?_)
            refine lv_aload_n hx hb dX10_negation_92 rfl (lv_at hl 1 rfl) ?_
            refine ti_callVv (ci := 10) (av := []) C hw (x_X10_knot l D A cy hJ M_63 iM_63  B n g_81 hs_64) ⟨ml_X10_279, ym_X10_knot, yv_X10_knot, yi_X10_knot, yc_X10_knot⟩ yd_X10_knot ob_60 (by decide) rfl rfl hl.1 (Nat.le_of_ble_eq_true rfl) ⟨by simp only [ti_rm]; omega, by simp only [ti_rm]; omega⟩ ⟨Nat.zero_le _, Nat.zero_le _⟩ dX10_negation_93 (fun M_155 H locs hp_155 hw => ?_)
            obtain ⟨hs_156, hp_157⟩ := hp_155
            obtain ⟨iM_155, q_158, z_159, z_160, z_161, z_162, z_163, z_164⟩ := l_kn hp_157
            clear hp_157
            obtain ⟨g_165, eg_165⟩ : ∃ z : Nat → Int, z = pp_k1 g_81 := ⟨_, rfl⟩
            rw [← eg_165] at hs_156
            refine lv_aload_n hx hb dX10_negation_96 rfl (lv_at hl 1 rfl) ?_
            refine ti_callVvE (ci := 10) (av := []) C hE hw (x_X10_goOn l D A cy hJ M_155 iM_155  B n g_165 hs_156) ⟨ml_X10_267, ym_X10_goOn, yv_X10_goOn, yi_X10_goOn, yc_X10_goOn⟩ yd_X10_goOn ob_60 (by decide) rfl rfl hl.1 (Nat.le_of_ble_eq_true rfl) ⟨by simp only [ti_rm]; omega, by simp only [ti_rm]; omega⟩ ⟨Nat.zero_le _, Nat.zero_le _⟩ dX10_negation_97 (fun M_167 H locs hp_167 hw => ?_)
            obtain ⟨hs_168, hp_169⟩ := hp_167
            obtain ⟨iM_167, q_170, z_171, z_172, z_173, z_174, z_175⟩ := l_go hp_169
            clear hp_169
            obtain ⟨g_176, eg_176⟩ : ∃ z : Nat → Int, z = pp_go B n g_165 := ⟨_, rfl⟩
            rw [← eg_176] at hs_168
            refine lv_aload_n hx hb dX10_negation_100 rfl (lv_at hl 1 rfl) ?_
            refine ti_callVvE (ci := 10) (av := []) C hE hw (x_X10_sum l D A cy hJ M_167 iM_167 j a (d + 1) (by omega) (us_q (x := 21) (y := 30) u_80 (pr.trans (pr_w q_170 (by decide) (by decide)) (pr_w q_158 (by decide) (by decide))) (by omega)) (by omega) (by omega) (by omega) B n g_176 hs_168 ih) ⟨ml_X10_288, ym_X10_sum, yv_X10_sum, yi_X10_sum, yc_X10_sum⟩ yd_X10_sum ob_60 (by decide) rfl rfl hl.1 (Nat.le_of_ble_eq_true rfl) ⟨by simp only [ti_rm]; omega, by simp only [ti_rm]; omega⟩ ⟨Nat.zero_le _, Nat.zero_le _⟩ dX10_negation_101 (fun M_178 H locs hp_178 hw => ?_)
            obtain ⟨hs_179, hp_180⟩ := hp_178
            obtain ⟨iM_178, q_181, p_182, p_183, p_184, p_185, p_186, p_187, p_188, p_189, p_190, p_191, p_192, p_193, p_194, u_195⟩ := hp_180
            obtain ⟨g_196, eg_196⟩ : ∃ z : Nat → Int, z = pp_sm B n (pp_pt B n j) g_176 := ⟨_, rfl⟩
            rw [← eg_196] at hs_179
            refine lv_aload_n hx hb dX10_negation_104 rfl (lv_at hl 1 rfl) ?_
            refine lv_iconst (v := 2) hx hb dX10_negation_105 (by decide) ?_
            refine lv_iload_n hx hb dX10_negation_106 rfl (lv_at hl 0 rfl) ?_
            refine ti_callVv (ci := 10) (av := [.int 2, .int x_89]) C hw (s_X10_puts l D A cy hJ M_178 iM_178 a (d + 1 + 1) (d + 1) 2 x_89 u_195 (nL (by omega)) (by first | exact Or.inr (Or.inr (Or.inl ⟨by decide, by omega, rfl⟩)) | exact nF (by omega))) ⟨ml_X10_282, ym_X10_puts, yv_X10_puts, yi_X10_puts, yc_X10_puts⟩ yd_X10_puts ob_60 (by decide) rfl rfl hl.1 (Nat.le_of_ble_eq_true rfl) ⟨by simp only [ti_rm]; omega, by simp only [ti_rm]; omega⟩ ⟨Nat.zero_le _, Nat.zero_le _⟩ dX10_negation_107 (fun M_198 H locs hp_198 hw => ?_)
            have hs_199 := rQ_pe hs_179 hp_198.2.1 hp_198.2.2.2.1
            obtain ⟨iM_198, q_200, u_201, z_202, z_203, z_204, z_205, z_206, z_207⟩ := l_pu iM_178 hp_198
            clear hp_198
            exact hQ _ _ _ _ _ hw (⟨(by rw [ng_no dk_3]; unfold pp_cm; rw [← eg_81]; unfold pp_c2; rw [if_pos (rQ_yc hs_64 (by omega) (by omega) (by omega)), ← kn_kg (rQ_g0 hs_64 (by omega)), ← eg_165, ← eg_176, ← eg_196]; exact hs_199), iM_198, (pe.trans q_200 (pe.trans q_181 (pe.trans (pe_pr q_170 (by decide) (by decide)) (pe.trans (pe_pr q_158 (by decide) (by decide)) q_66)))), (by omega), (by omega), (by omega), (by omega), (by omega), (by omega), (by omega), (by omega), (by omega), (by omega), (by omega), (by omega), (by omega), u_201⟩) dX10_negation_110
          · refine lv_aload_n hx hb dX10_negation_67 rfl (lv_at hl 0 rfl) ?_
            refine ti_get (ci := 10) (k := 24) (N := 67) (T := TX10) C hw iw_10 rfl ob_60 (by decide) (by decide) fl_X10_183 rfl rfl dX10_negation_68 ?_
            refine ti_top (y := x_89) (ex_89.symm) ?_
            have uqu_94 : (tI M_63 60 24).toInt = x_89.toInt := by rw [(ex_89.symm)]
            refine lv_bipush (v := 61) hx hb dX10_negation_71 (by decide) ?_
            refine sb_icmp_eq (tgt := 87) hx hb rfl (by decide : (61 : Int32).toInt = 61) dX10_negation_73 (by decide) (fun c_73_94 => ?_) (fun c_73_94 => ?_)
            · refine lv_aload_n hx hb dX10_negation_87 rfl (lv_at hl 0 rfl) ?_
              refine ti_get (ci := 10) (k := 24) (N := 67) (T := TX10) C hw iw_10 rfl ob_60 (by decide) (by decide) fl_X10_183 rfl rfl dX10_negation_88 ?_
              refine ti_top (y := x_89) (ex_89.symm) ?_
              have uqu_208 : (tI M_63 60 24).toInt = x_89.toInt := by rw [(ex_89.symm)]
              refine lv_istore_n (lv' := [(1, .int x_89), (0, .ref (A 60 0))]) hx hb dX10_negation_91 rfl hl (by decide) rfl (fun ls hl => ?_)
              refine lv_aload_n hx hb dX10_negation_92 rfl (lv_at hl 1 rfl) ?_
              refine ti_callVv (ci := 10) (av := []) C hw (x_X10_knot l D A cy hJ M_63 iM_63  B n g_81 hs_64) ⟨ml_X10_279, ym_X10_knot, yv_X10_knot, yi_X10_knot, yc_X10_knot⟩ yd_X10_knot ob_60 (by decide) rfl rfl hl.1 (Nat.le_of_ble_eq_true rfl) ⟨by simp only [ti_rm]; omega, by simp only [ti_rm]; omega⟩ ⟨Nat.zero_le _, Nat.zero_le _⟩ dX10_negation_93 (fun M_210 H locs hp_210 hw => ?_)
              obtain ⟨hs_211, hp_212⟩ := hp_210
              obtain ⟨iM_210, q_213, z_214, z_215, z_216, z_217, z_218, z_219⟩ := l_kn hp_212
              clear hp_212
              obtain ⟨g_220, eg_220⟩ : ∃ z : Nat → Int, z = pp_k1 g_81 := ⟨_, rfl⟩
              rw [← eg_220] at hs_211
              refine lv_aload_n hx hb dX10_negation_96 rfl (lv_at hl 1 rfl) ?_
              refine ti_callVvE (ci := 10) (av := []) C hE hw (x_X10_goOn l D A cy hJ M_210 iM_210  B n g_220 hs_211) ⟨ml_X10_267, ym_X10_goOn, yv_X10_goOn, yi_X10_goOn, yc_X10_goOn⟩ yd_X10_goOn ob_60 (by decide) rfl rfl hl.1 (Nat.le_of_ble_eq_true rfl) ⟨by simp only [ti_rm]; omega, by simp only [ti_rm]; omega⟩ ⟨Nat.zero_le _, Nat.zero_le _⟩ dX10_negation_97 (fun M_222 H locs hp_222 hw => ?_)
              obtain ⟨hs_223, hp_224⟩ := hp_222
              obtain ⟨iM_222, q_225, z_226, z_227, z_228, z_229, z_230⟩ := l_go hp_224
              clear hp_224
              obtain ⟨g_231, eg_231⟩ : ∃ z : Nat → Int, z = pp_go B n g_220 := ⟨_, rfl⟩
              rw [← eg_231] at hs_223
              refine lv_aload_n hx hb dX10_negation_100 rfl (lv_at hl 1 rfl) ?_
              refine ti_callVvE (ci := 10) (av := []) C hE hw (x_X10_sum l D A cy hJ M_222 iM_222 j a (d + 1) (by omega) (us_q (x := 21) (y := 30) u_80 (pr.trans (pr_w q_225 (by decide) (by decide)) (pr_w q_213 (by decide) (by decide))) (by omega)) (by omega) (by omega) (by omega) B n g_231 hs_223 ih) ⟨ml_X10_288, ym_X10_sum, yv_X10_sum, yi_X10_sum, yc_X10_sum⟩ yd_X10_sum ob_60 (by decide) rfl rfl hl.1 (Nat.le_of_ble_eq_true rfl) ⟨by simp only [ti_rm]; omega, by simp only [ti_rm]; omega⟩ ⟨Nat.zero_le _, Nat.zero_le _⟩ dX10_negation_101 (fun M_233 H locs hp_233 hw => ?_)
              obtain ⟨hs_234, hp_235⟩ := hp_233
              obtain ⟨iM_233, q_236, p_237, p_238, p_239, p_240, p_241, p_242, p_243, p_244, p_245, p_246, p_247, p_248, p_249, u_250⟩ := hp_235
              obtain ⟨g_251, eg_251⟩ : ∃ z : Nat → Int, z = pp_sm B n (pp_pt B n j) g_231 := ⟨_, rfl⟩
              rw [← eg_251] at hs_234
              refine lv_aload_n hx hb dX10_negation_104 rfl (lv_at hl 1 rfl) ?_
              refine lv_iconst (v := 2) hx hb dX10_negation_105 (by decide) ?_
              refine lv_iload_n hx hb dX10_negation_106 rfl (lv_at hl 0 rfl) ?_
              refine ti_callVv (ci := 10) (av := [.int 2, .int x_89]) C hw (s_X10_puts l D A cy hJ M_233 iM_233 a (d + 1 + 1) (d + 1) 2 x_89 u_250 (nL (by omega)) (by first | exact Or.inr (Or.inr (Or.inl ⟨by decide, by omega, rfl⟩)) | exact nF (by omega))) ⟨ml_X10_282, ym_X10_puts, yv_X10_puts, yi_X10_puts, yc_X10_puts⟩ yd_X10_puts ob_60 (by decide) rfl rfl hl.1 (Nat.le_of_ble_eq_true rfl) ⟨by simp only [ti_rm]; omega, by simp only [ti_rm]; omega⟩ ⟨Nat.zero_le _, Nat.zero_le _⟩ dX10_negation_107 (fun M_253 H locs hp_253 hw => ?_)
              have hs_254 := rQ_pe hs_234 hp_253.2.1 hp_253.2.2.2.1
              obtain ⟨iM_253, q_255, u_256, z_257, z_258, z_259, z_260, z_261, z_262⟩ := l_pu iM_233 hp_253
              clear hp_253
              exact hQ _ _ _ _ _ hw (⟨(by rw [ng_no dk_3]; unfold pp_cm; rw [← eg_81]; unfold pp_c2; rw [if_pos (rQ_yc hs_64 (by omega) (by omega) (by omega)), ← kn_kg (rQ_g0 hs_64 (by omega)), ← eg_220, ← eg_231, ← eg_251]; exact hs_254), iM_253, (pe.trans q_255 (pe.trans q_236 (pe.trans (pe_pr q_225 (by decide) (by decide)) (pe.trans (pe_pr q_213 (by decide) (by decide)) q_66)))), (by omega), (by omega), (by omega), (by omega), (by omega), (by omega), (by omega), (by omega), (by omega), (by omega), (by omega), (by omega), (by omega), u_256⟩) dX10_negation_110
            · refine lv_aload_n hx hb dX10_negation_76 rfl (lv_at hl 0 rfl) ?_
              refine ti_get (ci := 10) (k := 24) (N := 67) (T := TX10) C hw iw_10 rfl ob_60 (by decide) (by decide) fl_X10_183 rfl rfl dX10_negation_77 ?_
              refine ti_top (y := x_89) (ex_89.symm) ?_
              have uqu_96 : (tI M_63 60 24).toInt = x_89.toInt := by rw [(ex_89.symm)]
              refine lv_sipush (v := 256) hx hb dX10_negation_80 (by decide) ?_
              refine sb_icmp_ge (tgt := 87) hx hb rfl (by decide : (256 : Int32).toInt = 256) dX10_negation_83 (by decide) (fun c_83_96 => ?_) (fun c_83_96 => ?_)
              · refine lv_aload_n hx hb dX10_negation_87 rfl (lv_at hl 0 rfl) ?_
                refine ti_get (ci := 10) (k := 24) (N := 67) (T := TX10) C hw iw_10 rfl ob_60 (by decide) (by decide) fl_X10_183 rfl rfl dX10_negation_88 ?_
                refine ti_top (y := x_89) (ex_89.symm) ?_
                have uqu_263 : (tI M_63 60 24).toInt = x_89.toInt := by rw [(ex_89.symm)]
                refine lv_istore_n (lv' := [(1, .int x_89), (0, .ref (A 60 0))]) hx hb dX10_negation_91 rfl hl (by decide) rfl (fun ls hl => ?_)
                refine lv_aload_n hx hb dX10_negation_92 rfl (lv_at hl 1 rfl) ?_
                refine ti_callVv (ci := 10) (av := []) C hw (x_X10_knot l D A cy hJ M_63 iM_63  B n g_81 hs_64) ⟨ml_X10_279, ym_X10_knot, yv_X10_knot, yi_X10_knot, yc_X10_knot⟩ yd_X10_knot ob_60 (by decide) rfl rfl hl.1 (Nat.le_of_ble_eq_true rfl) ⟨by simp only [ti_rm]; omega, by simp only [ti_rm]; omega⟩ ⟨Nat.zero_le _, Nat.zero_le _⟩ dX10_negation_93 (fun M_265 H locs hp_265 hw => ?_)
                obtain ⟨hs_266, hp_267⟩ := hp_265
                obtain ⟨iM_265, q_268, z_269, z_270, z_271, z_272, z_273, z_274⟩ := l_kn hp_267
                clear hp_267
                obtain ⟨g_275, eg_275⟩ : ∃ z : Nat → Int, z = pp_k1 g_81 := ⟨_, rfl⟩
                rw [← eg_275] at hs_266
                refine lv_aload_n hx hb dX10_negation_96 rfl (lv_at hl 1 rfl) ?_
                refine ti_callVvE (ci := 10) (av := []) C hE hw (x_X10_goOn l D A cy hJ M_265 iM_265  B n g_275 hs_266) ⟨ml_X10_267, ym_X10_goOn, yv_X10_goOn, yi_X10_goOn, yc_X10_goOn⟩ yd_X10_goOn ob_60 (by decide) rfl rfl hl.1 (Nat.le_of_ble_eq_true rfl) ⟨by simp only [ti_rm]; omega, by simp only [ti_rm]; omega⟩ ⟨Nat.zero_le _, Nat.zero_le _⟩ dX10_negation_97 (fun M_277 H locs hp_277 hw => ?_)
                obtain ⟨hs_278, hp_279⟩ := hp_277
                obtain ⟨iM_277, q_280, z_281, z_282, z_283, z_284, z_285⟩ := l_go hp_279
                clear hp_279
                obtain ⟨g_286, eg_286⟩ : ∃ z : Nat → Int, z = pp_go B n g_275 := ⟨_, rfl⟩
                rw [← eg_286] at hs_278
                refine lv_aload_n hx hb dX10_negation_100 rfl (lv_at hl 1 rfl) ?_
                refine ti_callVvE (ci := 10) (av := []) C hE hw (x_X10_sum l D A cy hJ M_277 iM_277 j a (d + 1) (by omega) (us_q (x := 21) (y := 30) u_80 (pr.trans (pr_w q_280 (by decide) (by decide)) (pr_w q_268 (by decide) (by decide))) (by omega)) (by omega) (by omega) (by omega) B n g_286 hs_278 ih) ⟨ml_X10_288, ym_X10_sum, yv_X10_sum, yi_X10_sum, yc_X10_sum⟩ yd_X10_sum ob_60 (by decide) rfl rfl hl.1 (Nat.le_of_ble_eq_true rfl) ⟨by simp only [ti_rm]; omega, by simp only [ti_rm]; omega⟩ ⟨Nat.zero_le _, Nat.zero_le _⟩ dX10_negation_101 (fun M_288 H locs hp_288 hw => ?_)
                obtain ⟨hs_289, hp_290⟩ := hp_288
                obtain ⟨iM_288, q_291, p_292, p_293, p_294, p_295, p_296, p_297, p_298, p_299, p_300, p_301, p_302, p_303, p_304, u_305⟩ := hp_290
                obtain ⟨g_306, eg_306⟩ : ∃ z : Nat → Int, z = pp_sm B n (pp_pt B n j) g_286 := ⟨_, rfl⟩
                rw [← eg_306] at hs_289
                refine lv_aload_n hx hb dX10_negation_104 rfl (lv_at hl 1 rfl) ?_
                refine lv_iconst (v := 2) hx hb dX10_negation_105 (by decide) ?_
                refine lv_iload_n hx hb dX10_negation_106 rfl (lv_at hl 0 rfl) ?_
                refine ti_callVv (ci := 10) (av := [.int 2, .int x_89]) C hw (s_X10_puts l D A cy hJ M_288 iM_288 a (d + 1 + 1) (d + 1) 2 x_89 u_305 (nL (by omega)) (by first | exact Or.inr (Or.inr (Or.inl ⟨by decide, by omega, rfl⟩)) | exact nF (by omega))) ⟨ml_X10_282, ym_X10_puts, yv_X10_puts, yi_X10_puts, yc_X10_puts⟩ yd_X10_puts ob_60 (by decide) rfl rfl hl.1 (Nat.le_of_ble_eq_true rfl) ⟨by simp only [ti_rm]; omega, by simp only [ti_rm]; omega⟩ ⟨Nat.zero_le _, Nat.zero_le _⟩ dX10_negation_107 (fun M_308 H locs hp_308 hw => ?_)
                have hs_309 := rQ_pe hs_289 hp_308.2.1 hp_308.2.2.2.1
                obtain ⟨iM_308, q_310, u_311, z_312, z_313, z_314, z_315, z_316, z_317⟩ := l_pu iM_288 hp_308
                clear hp_308
                exact hQ _ _ _ _ _ hw (⟨(by rw [ng_no dk_3]; unfold pp_cm; rw [← eg_81]; unfold pp_c2; rw [if_pos (rQ_yc hs_64 (by omega) (by omega) (by omega)), ← kn_kg (rQ_g0 hs_64 (by omega)), ← eg_275, ← eg_286, ← eg_306]; exact hs_309), iM_308, (pe.trans q_310 (pe.trans q_291 (pe.trans (pe_pr q_280 (by decide) (by decide)) (pe.trans (pe_pr q_268 (by decide) (by decide)) q_66)))), (by omega), (by omega), (by omega), (by omega), (by omega), (by omega), (by omega), (by omega), (by omega), (by omega), (by omega), (by omega), (by omega), u_311⟩) dX10_negation_110
              · exact hQ _ _ _ _ _ hw (⟨(by rw [ng_no dk_3]; unfold pp_cm; rw [← eg_81]; unfold pp_c2; rw [if_neg (rQ_nc hs_64 (by omega))]; exact hs_64), iM_63, q_66, (by omega), (by omega), (by omega), (by omega), (by omega), (by omega), (by omega), (by omega), (by omega), (by omega), (by omega), (by omega), (by omega), u_80⟩) dX10_negation_86
theorem x_X10_negation_n (j : Nat) (ih : ∀ i : Nat, i < j → ∀ (l : Launch) (D : va_G) (A : Nat → Nat → Nat) (cy : Nat → ClassId) (hJ : ti_inj ti_LM A) (M : ti_M) (hI : mI Tm M) (a d : Nat) (hj : i ≤ 8) (hu : us M a d) (hc : (tY M 60 3 18).toInt ≤ (tI M 60 30).toInt + 64 - 64 * ff M) (ho : (tI M 60 29).toInt + i ≤ 16 - 8 * ff M) (ho2 : 8 * ff M ≤ (tI M 60 29).toInt + i) (B : Nat → Int) (n : Nat) (rg : Nat → Int) (hr : rQ B n rg M), ti_KvE l yX10_expression cX10_expression 1 (78 + 71 * i) ti_LM D A cy M [.ref (A 60 0)] (fun M2 => rQ B n (pp_ei B n (pp_pt B n i) rg) M2 ∧ mI Tm M2 ∧ pe M2 M ∧ (pg M ≤ pg M2) ∧ (0 ≤ ff M2) ∧ (ff M2 ≤ ff M) ∧ ((tI M 60 30).toInt ≤ (tI M2 60 30).toInt) ∧ ((tI M2 60 30).toInt ≤ 64) ∧ ((tI M2 60 29).toInt ≤ (tI M 60 29).toInt + 8 - 8 * ff M2) ∧ ((tI M 60 29).toInt ≤ (tI M2 60 29).toInt + 8 - 8 * ff M2) ∧ ((tI M2 60 30).toInt - (tY M2 60 3 18).toInt ≤ (tI M 60 30).toInt - (tY M 60 3 18).toInt + 200 - 200 * ff M2) ∧ ((tI M 60 30).toInt - (tY M 60 3 18).toInt ≤ (tI M2 60 30).toInt - (tY M2 60 3 18).toInt + 200 - 200 * ff M2) ∧ (0 ≤ (tY M2 60 3 18).toInt) ∧ ((tY M2 60 3 18).toInt ≤ 64) ∧ (0 ≤ (tI M2 60 29).toInt) ∧ ((tI M2 60 29).toInt ≤ 8) ∧ us M2 a (d + 1))) : ∀ nn : Nat, ∀ (l : Launch) (D : va_G) (A : Nat → Nat → Nat) (cy : Nat → ClassId) (hJ : ti_inj ti_LM A) (M : ti_M) (hI : mI Tm M) (a d : Nat) (hj : j ≤ 8) (hu : us M a d) (hc : (tY M 60 3 18).toInt ≤ (tI M 60 30).toInt + 64 - 64 * ff M) (ho : (tI M 60 29).toInt + j ≤ 16 - 8 * ff M) (ho2 : 8 * ff M ≤ (tI M 60 29).toInt + j) (B : Nat → Int) (n : Nat) (rg : Nat → Int) (hr : rQ B n rg M) (hn : 64 - (tI M 60 30).toInt + ff M ≤ nn), ti_KvE l yX10_negation cX10_negation 2 (11 + 71 * j + nn) ti_LM D A cy M [.ref (A 60 0)] (fun M2 => rQ B n (pp_ng B n (pp_pt B n j) rg) M2 ∧ mI Tm M2 ∧ pe M2 M ∧ (pg M ≤ pg M2) ∧ (0 ≤ ff M2) ∧ (ff M2 ≤ ff M) ∧ ((tI M 60 30).toInt ≤ (tI M2 60 30).toInt) ∧ ((tI M2 60 30).toInt ≤ 64) ∧ ((tI M2 60 29).toInt ≤ (tI M 60 29).toInt + 8 - 8 * ff M2) ∧ ((tI M 60 29).toInt ≤ (tI M2 60 29).toInt + 8 - 8 * ff M2) ∧ ((tI M2 60 30).toInt - (tY M2 60 3 18).toInt ≤ (tI M 60 30).toInt - (tY M 60 3 18).toInt + 200 - 200 * ff M2) ∧ ((tI M 60 30).toInt - (tY M 60 3 18).toInt ≤ (tI M2 60 30).toInt - (tY M2 60 3 18).toInt + 200 - 200 * ff M2) ∧ (0 ≤ (tY M2 60 3 18).toInt) ∧ ((tY M2 60 3 18).toInt ≤ 64) ∧ (0 ≤ (tI M2 60 29).toInt) ∧ ((tI M2 60 29).toInt ≤ 8) ∧ us M2 a (d + 1)) := by
  intro nn
  induction nn using Nat.strongRecOn with
  | ind nn ihn =>
    intro l D A cy hJ M hI a d hj hu hc ho ho2 B n rg hr hn
    exact x_X10_negation_s l D A cy hJ M hI j a d hj hu hc ho ho2 B n rg hr ih nn hn ihn
set_option maxHeartbeats 4000000 in
set_option maxRecDepth 100000 in
theorem x_X10_conjunction (l : Launch) (D : va_G) (A : Nat → Nat → Nat) (cy : Nat → ClassId) (hJ : ti_inj ti_LM A) (M : ti_M) (hI : mI Tm M) (j a d : Nat) (hj : j ≤ 8) (hu : us M a d) (hc : (tY M 60 3 18).toInt ≤ (tI M 60 30).toInt + 64 - 64 * ff M) (ho : (tI M 60 29).toInt + j ≤ 16 - 8 * ff M) (ho2 : 8 * ff M ≤ (tI M 60 29).toInt + j) (B : Nat → Int) (n : Nat) (rg : Nat → Int) (hr : rQ B n rg M) (ih : ∀ i : Nat, i < j → ∀ (l : Launch) (D : va_G) (A : Nat → Nat → Nat) (cy : Nat → ClassId) (hJ : ti_inj ti_LM A) (M : ti_M) (hI : mI Tm M) (a d : Nat) (hj : i ≤ 8) (hu : us M a d) (hc : (tY M 60 3 18).toInt ≤ (tI M 60 30).toInt + 64 - 64 * ff M) (ho : (tI M 60 29).toInt + i ≤ 16 - 8 * ff M) (ho2 : 8 * ff M ≤ (tI M 60 29).toInt + i) (B : Nat → Int) (n : Nat) (rg : Nat → Int) (hr : rQ B n rg M), ti_KvE l yX10_expression cX10_expression 1 (78 + 71 * i) ti_LM D A cy M [.ref (A 60 0)] (fun M2 => rQ B n (pp_ei B n (pp_pt B n i) rg) M2 ∧ mI Tm M2 ∧ pe M2 M ∧ (pg M ≤ pg M2) ∧ (0 ≤ ff M2) ∧ (ff M2 ≤ ff M) ∧ ((tI M 60 30).toInt ≤ (tI M2 60 30).toInt) ∧ ((tI M2 60 30).toInt ≤ 64) ∧ ((tI M2 60 29).toInt ≤ (tI M 60 29).toInt + 8 - 8 * ff M2) ∧ ((tI M 60 29).toInt ≤ (tI M2 60 29).toInt + 8 - 8 * ff M2) ∧ ((tI M2 60 30).toInt - (tY M2 60 3 18).toInt ≤ (tI M 60 30).toInt - (tY M 60 3 18).toInt + 200 - 200 * ff M2) ∧ ((tI M 60 30).toInt - (tY M 60 3 18).toInt ≤ (tI M2 60 30).toInt - (tY M2 60 3 18).toInt + 200 - 200 * ff M2) ∧ (0 ≤ (tY M2 60 3 18).toInt) ∧ ((tY M2 60 3 18).toInt ≤ 64) ∧ (0 ≤ (tI M2 60 29).toInt) ∧ ((tI M2 60 29).toInt ≤ 8) ∧ us M2 a (d + 1))) : ti_KvE l yX10_conjunction cX10_conjunction 1 (77 + 71 * j) ti_LM D A cy M [.ref (A 60 0)] (fun M2 => rQ B n (pp_bo B n (pp_pt B n j) rg) M2 ∧ mI Tm M2 ∧ pe M2 M ∧ (pg M ≤ pg M2) ∧ (0 ≤ ff M2) ∧ (ff M2 ≤ ff M) ∧ ((tI M 60 30).toInt ≤ (tI M2 60 30).toInt) ∧ ((tI M2 60 30).toInt ≤ 64) ∧ ((tI M2 60 29).toInt ≤ (tI M 60 29).toInt + 8 - 8 * ff M2) ∧ ((tI M 60 29).toInt ≤ (tI M2 60 29).toInt + 8 - 8 * ff M2) ∧ ((tI M2 60 30).toInt - (tY M2 60 3 18).toInt ≤ (tI M 60 30).toInt - (tY M 60 3 18).toInt + 200 - 200 * ff M2) ∧ ((tI M 60 30).toInt - (tY M 60 3 18).toInt ≤ (tI M2 60 30).toInt - (tY M2 60 3 18).toInt + 200 - 200 * ff M2) ∧ (0 ≤ (tY M2 60 3 18).toInt) ∧ ((tY M2 60 3 18).toInt ≤ 64) ∧ (0 ≤ (tI M2 60 29).toInt) ∧ ((tI M2 60 29).toInt ≤ 8) ∧ us M2 a (d + 1)) := by
  refine ti_eVE yp_X10_conjunction hJ ti_LM_nd (Nat.le_of_ble_eq_true rfl) ?_
  intro p e s m args below meth c Q H0 C hE hQ hw ls hl
  have hx := C.1
  have hb := C.2.1
  have hl : lv_has ls 1 [(0, .ref (A 60 0))] := hl
  have hI30 := b30 hI
  have hI29 := b29 hI
  have hI18 := b18 hI
  have hIff := ff_b M
  refine lv_aload_n hx hb dX10_conjunction_0 rfl (lv_at hl 0 rfl) ?_
  refine ti_callVvE (ci := 10) (av := []) C hE hw (x_X10_negation_n j ih 65 l D A cy hJ M hI a (d) (by omega) hu (by omega) (by omega) (by omega) B n rg hr (by omega)) ⟨ml_X10_285, ym_X10_negation, yv_X10_negation, yi_X10_negation, yc_X10_negation⟩ yd_X10_negation ob_60 (by decide) rfl rfl hl.1 (Nat.le_of_ble_eq_true rfl) ⟨by simp only [ti_rm]; omega, by simp only [ti_rm]; omega⟩ ⟨Nat.zero_le _, Nat.zero_le _⟩ dX10_conjunction_1 (fun M_2 H locs hp_2 hw => ?_)
  obtain ⟨hs_3, hp_4⟩ := hp_2
  obtain ⟨iM_2, q_5, p_6, p_7, p_8, p_9, p_10, p_11, p_12, p_13, p_14, p_15, p_16, p_17, p_18, u_19⟩ := hp_4
  obtain ⟨g_20, eg_20⟩ : ∃ z : Nat → Int, z = pp_ng B n (pp_pt B n j) rg := ⟨_, rfl⟩
  rw [← eg_20] at hs_3
  have hl_4_40 : ∀ (n_41 : Nat) (M_21 : ti_M) (g_23 : Nat → Int) (H : Heap) (locs : List Loc) (ls : Array Slot), (64 - (tI M_21 60 30).toInt + ff M_21 : Int).toNat < n_41 → (mI Tm M_21) → (pe M_21 M) → (rQ B n g_23 M_21) → (us M_21 a (d + 1)) → (pp_bo B n (pp_pt B n j) rg = pp_lp pp_qA (fun s => pp_ng B n (pp_pt B n j) (pp_kn B n s)) 64 g_23) → (g_23 0 = 28 ∨ (1 ≤ g_23 8 ∧ g_23 8 ≤ 64)) → (pg M ≤ pg M_21) → (0 ≤ ff M_21) → (ff M_21 ≤ ff M) → ((tI M 60 30).toInt ≤ (tI M_21 60 30).toInt) → ((tI M_21 60 30).toInt ≤ 64) → ((tI M_21 60 29).toInt ≤ (tI M 60 29).toInt + 8 - 8 * ff M_21) → ((tI M 60 29).toInt ≤ (tI M_21 60 29).toInt + 8 - 8 * ff M_21) → ((tI M_21 60 30).toInt - (tY M_21 60 3 18).toInt ≤ (tI M 60 30).toInt - (tY M 60 3 18).toInt + 200 - 200 * ff M_21) → ((tI M 60 30).toInt - (tY M 60 3 18).toInt ≤ (tI M_21 60 30).toInt - (tY M_21 60 3 18).toInt + 200 - 200 * ff M_21) → (0 ≤ (tY M_21 60 3 18).toInt) → ((tY M_21 60 3 18).toInt ≤ 64) → (0 ≤ (tI M_21 60 29).toInt) → ((tI M_21 60 29).toInt ≤ 8) → ti_H ti_LM D A cy H0 M_21 H locs → lv_has ls 1 [(0, .ref (A 60 0))] → W p l e (ti_rm (77 + 71 * j)) s m args below meth c H locs 0 0 Q (F0 m 4 ls []) := by
    intro n_41
    induction n_41 with
    | zero => intro M_21 g_23 H locs ls hf_41; exact absurd hf_41 (Nat.not_lt_zero _)
    | succ n_41 ih_41 =>
      intro M_21 g_23 H locs ls hf_41 iM_21 f_22 hs_24 j_25 j_26 j_27 j_28 j_29 j_30 j_31 j_32 j_33 j_34 j_35 j_36 j_37 j_38 j_39 j_40 hw hl
      refine lv_aload_n hx hb dX10_conjunction_4 rfl (lv_at hl 0 rfl) ?_
      refine lv_bipush (v := 17) hx hb dX10_conjunction_5 (by decide) ?_
      refine ti_callVi (ci := 10) (av := [.int 17]) C hw (x_X10_isWord l D A cy hJ M_21 iM_21 17) ⟨ml_X10_261, ym_X10_isWord, yv_X10_isWord, yi_X10_isWord, yc_X10_isWord⟩ yd_X10_isWord ob_60 (by decide) rfl rfl hl.1 (Nat.le_of_ble_eq_true rfl) ⟨by simp only [ti_rm]; omega, by simp only [ti_rm]; omega⟩ ⟨Nat.zero_le _, Nat.zero_le _⟩ dX10_conjunction_7 (fun r_42 M_43 H locs hp_43 hw => ?_)
      obtain ⟨hm, hz⟩ := hp_43
      have hw := hw.to hm
      rcases hz with ⟨rfl, d0_44, d1_44, d2_44⟩ | ⟨rfl, d3_44⟩
      · have dk_44 := rQ_w1 (k := 22) hs_24 d0_44 d1_44 d2_44 (by decide)
        have z_45 : ff M_21 = 1 := ff_1 d0_44
        have z_46 : pg M_21 = 2 * (tI M_21 60 21).toInt := pg_3 (by rw [d1_44]; decide)
        clear d0_44 d1_44 d2_44
        refine sb_if_eq (tgt := 36) hx hb (by decide : (1 : Int32).toInt = 1) dX10_conjunction_10 (by decide) (fun h => absurd h (by decide)) (fun c_10_46 => ?_)
        refine lv_aload_n hx hb dX10_conjunction_13 rfl (lv_at hl 0 rfl) ?_
        refine ti_callVv (ci := 10) (av := []) C hw (x_X10_knot l D A cy hJ M_21 iM_21  B n g_23 hs_24) ⟨ml_X10_279, ym_X10_knot, yv_X10_knot, yi_X10_knot, yc_X10_knot⟩ yd_X10_knot ob_60 (by decide) rfl rfl hl.1 (Nat.le_of_ble_eq_true rfl) ⟨by simp only [ti_rm]; omega, by simp only [ti_rm]; omega⟩ ⟨Nat.zero_le _, Nat.zero_le _⟩ dX10_conjunction_14 (fun M_50 H locs hp_50 hw => ?_)
        obtain ⟨hs_51, hp_52⟩ := hp_50
        obtain ⟨iM_50, q_53, z_54, z_55, z_56, z_57, z_58, z_59⟩ := l_kn hp_52
        clear hp_52
        obtain ⟨g_60, eg_60⟩ : ∃ z : Nat → Int, z = pp_k1 g_23 := ⟨_, rfl⟩
        rw [← eg_60] at hs_51
        refine lv_aload_n hx hb dX10_conjunction_17 rfl (lv_at hl 0 rfl) ?_
        refine ti_callVvE (ci := 10) (av := []) C hE hw (x_X10_goOn l D A cy hJ M_50 iM_50  B n g_60 hs_51) ⟨ml_X10_267, ym_X10_goOn, yv_X10_goOn, yi_X10_goOn, yc_X10_goOn⟩ yd_X10_goOn ob_60 (by decide) rfl rfl hl.1 (Nat.le_of_ble_eq_true rfl) ⟨by simp only [ti_rm]; omega, by simp only [ti_rm]; omega⟩ ⟨Nat.zero_le _, Nat.zero_le _⟩ dX10_conjunction_18 (fun M_62 H locs hp_62 hw => ?_)
        obtain ⟨hs_63, hp_64⟩ := hp_62
        obtain ⟨iM_62, q_65, z_66, z_67, z_68, z_69, z_70⟩ := l_go hp_64
        clear hp_64
        obtain ⟨g_71, eg_71⟩ : ∃ z : Nat → Int, z = pp_go B n g_60 := ⟨_, rfl⟩
        rw [← eg_71] at hs_63
        refine lv_aload_n hx hb dX10_conjunction_21 rfl (lv_at hl 0 rfl) ?_
        refine ti_callVvE (ci := 10) (av := []) C hE hw (x_X10_negation_n j ih 65 l D A cy hJ M_62 iM_62 a (d + 1) (by omega) (us_q (x := 21) (y := 30) j_25 (pr.trans (pr_w q_65 (by decide) (by decide)) (pr_w q_53 (by decide) (by decide))) (by omega)) (by omega) (by omega) (by omega) B n g_71 hs_63 (by omega)) ⟨ml_X10_285, ym_X10_negation, yv_X10_negation, yi_X10_negation, yc_X10_negation⟩ yd_X10_negation ob_60 (by decide) rfl rfl hl.1 (Nat.le_of_ble_eq_true rfl) ⟨by simp only [ti_rm]; omega, by simp only [ti_rm]; omega⟩ ⟨Nat.zero_le _, Nat.zero_le _⟩ dX10_conjunction_22 (fun M_73 H locs hp_73 hw => ?_)
        obtain ⟨hs_74, hp_75⟩ := hp_73
        obtain ⟨iM_73, q_76, p_77, p_78, p_79, p_80, p_81, p_82, p_83, p_84, p_85, p_86, p_87, p_88, p_89, u_90⟩ := hp_75
        obtain ⟨g_91, eg_91⟩ : ∃ z : Nat → Int, z = pp_ng B n (pp_pt B n j) g_71 := ⟨_, rfl⟩
        rw [← eg_91] at hs_74
        refine lv_aload_n hx hb dX10_conjunction_25 rfl (lv_at hl 0 rfl) ?_
        refine lv_iconst (v := 2) hx hb dX10_conjunction_26 (by decide) ?_
        refine lv_sipush (v := 261) hx hb dX10_conjunction_27 (by decide) ?_
        refine ti_callVv (ci := 10) (av := [.int 2, .int 261]) C hw (s_X10_puts l D A cy hJ M_73 iM_73 a (d + 1 + 1) (d + 1) 2 261 u_90 (nL (by omega)) (by first | exact Or.inr (Or.inr (Or.inl ⟨by decide, by omega, rfl⟩)) | exact nF (by omega))) ⟨ml_X10_282, ym_X10_puts, yv_X10_puts, yi_X10_puts, yc_X10_puts⟩ yd_X10_puts ob_60 (by decide) rfl rfl hl.1 (Nat.le_of_ble_eq_true rfl) ⟨by simp only [ti_rm]; omega, by simp only [ti_rm]; omega⟩ ⟨Nat.zero_le _, Nat.zero_le _⟩ dX10_conjunction_30 (fun M_93 H locs hp_93 hw => ?_)
        have hs_94 := rQ_pe hs_74 hp_93.2.1 hp_93.2.2.2.1
        obtain ⟨iM_93, q_95, u_96, z_97, z_98, z_99, z_100, z_101, z_102⟩ := l_pu iM_73 hp_93
        clear hp_93
        refine lv_goto (tgt := 4) hx hb dX10_conjunction_33 (by decide) ?_
        exact ih_41 M_93 g_91 _ _ _ (by omega) iM_93 (pe.trans q_95 (pe.trans q_76 (pe.trans (pe_pr q_65 (by decide) (by decide)) (pe.trans (pe_pr q_53 (by decide) (by decide)) f_22)))) hs_94 u_96 (j_26.trans (lp_nx (P := pp_qA) (G := fun s => pp_ng B n (pp_pt B n j) (pp_kn B n s)) (s := g_23) (by decide) (gr_kn (gr_ng (gr_pt j))) 63 (show pp_qA (g_23 0) = true from decide_eq_true (by omega)) (by rw [eg_91, eg_71, eg_60, kn_kg (rQ_g0 hs_24 (by omega))]) (by omega) (by omega))) (by rw [eg_91]; exact rQ_gr (gr_ng (gr_pt j)) hs_63 iM_62) (by first | omega | decide) (by first | omega | decide) (by first | omega | decide) (by first | omega | decide) (by first | omega | decide) (by first | omega | decide) (by first | omega | decide) (by first | omega | decide) (by first | omega | decide) (by first | omega | decide) (by first | omega | decide) (by first | omega | decide) (by first | omega | decide) hw (lv_sub hl [0] rfl)
      · have dk_44 := rQ_w0 (k := 22) hs_24 d3_44 (by decide) (by decide)
        clear d3_44
        refine sb_if_eq (tgt := 36) hx hb (by decide : (0 : Int32).toInt = 0) dX10_conjunction_10 (by decide) (fun c_10_47 => ?_) (fun h => absurd h (by decide))
        exact hQ _ _ _ _ _ hw (⟨(by rw [j_26, lp_end (P := pp_qA) (f := 64) (s := g_23) (Or.inr (decide_eq_false (by omega)))]; exact hs_24), iM_21, f_22, (by omega), (by omega), (by omega), (by omega), (by omega), (by omega), (by omega), (by omega), (by omega), (by omega), (by omega), (by omega), (by omega), j_25⟩) dX10_conjunction_36
  exact hl_4_40 ((64 - (tI M_2 60 30).toInt + ff M_2 : Int).toNat + 1) M_2 g_20 _ _ _ (Nat.lt_succ_self _) iM_2 q_5 hs_3 u_19 (by unfold pp_bo; rw [← eg_20]) (by rw [eg_20]; exact rQ_gr (gr_ng (gr_pt j)) hr hI) (by first | omega | decide) (by first | omega | decide) (by first | omega | decide) (by first | omega | decide) (by first | omega | decide) (by first | omega | decide) (by first | omega | decide) (by first | omega | decide) (by first | omega | decide) (by first | omega | decide) (by first | omega | decide) (by first | omega | decide) (by first | omega | decide) hw (lv_sub hl [0] rfl)
set_option maxHeartbeats 4000000 in
set_option maxRecDepth 100000 in
theorem x_X10_expression_s (l : Launch) (D : va_G) (A : Nat → Nat → Nat) (cy : Nat → ClassId) (hJ : ti_inj ti_LM A) (M : ti_M) (hI : mI Tm M) (j a d : Nat) (hj : j ≤ 8) (hu : us M a d) (hc : (tY M 60 3 18).toInt ≤ (tI M 60 30).toInt + 64 - 64 * ff M) (ho : (tI M 60 29).toInt + j ≤ 16 - 8 * ff M) (ho2 : 8 * ff M ≤ (tI M 60 29).toInt + j) (B : Nat → Int) (n : Nat) (rg : Nat → Int) (hr : rQ B n rg M) (ih : ∀ i : Nat, i < j → ∀ (l : Launch) (D : va_G) (A : Nat → Nat → Nat) (cy : Nat → ClassId) (hJ : ti_inj ti_LM A) (M : ti_M) (hI : mI Tm M) (a d : Nat) (hj : i ≤ 8) (hu : us M a d) (hc : (tY M 60 3 18).toInt ≤ (tI M 60 30).toInt + 64 - 64 * ff M) (ho : (tI M 60 29).toInt + i ≤ 16 - 8 * ff M) (ho2 : 8 * ff M ≤ (tI M 60 29).toInt + i) (B : Nat → Int) (n : Nat) (rg : Nat → Int) (hr : rQ B n rg M), ti_KvE l yX10_expression cX10_expression 1 (78 + 71 * i) ti_LM D A cy M [.ref (A 60 0)] (fun M2 => rQ B n (pp_ei B n (pp_pt B n i) rg) M2 ∧ mI Tm M2 ∧ pe M2 M ∧ (pg M ≤ pg M2) ∧ (0 ≤ ff M2) ∧ (ff M2 ≤ ff M) ∧ ((tI M 60 30).toInt ≤ (tI M2 60 30).toInt) ∧ ((tI M2 60 30).toInt ≤ 64) ∧ ((tI M2 60 29).toInt ≤ (tI M 60 29).toInt + 8 - 8 * ff M2) ∧ ((tI M 60 29).toInt ≤ (tI M2 60 29).toInt + 8 - 8 * ff M2) ∧ ((tI M2 60 30).toInt - (tY M2 60 3 18).toInt ≤ (tI M 60 30).toInt - (tY M 60 3 18).toInt + 200 - 200 * ff M2) ∧ ((tI M 60 30).toInt - (tY M 60 3 18).toInt ≤ (tI M2 60 30).toInt - (tY M2 60 3 18).toInt + 200 - 200 * ff M2) ∧ (0 ≤ (tY M2 60 3 18).toInt) ∧ ((tY M2 60 3 18).toInt ≤ 64) ∧ (0 ≤ (tI M2 60 29).toInt) ∧ ((tI M2 60 29).toInt ≤ 8) ∧ us M2 a (d + 1))) : ti_KvE l yX10_expression cX10_expression 1 (78 + 71 * j) ti_LM D A cy M [.ref (A 60 0)] (fun M2 => rQ B n (pp_ei B n (pp_pt B n j) rg) M2 ∧ mI Tm M2 ∧ pe M2 M ∧ (pg M ≤ pg M2) ∧ (0 ≤ ff M2) ∧ (ff M2 ≤ ff M) ∧ ((tI M 60 30).toInt ≤ (tI M2 60 30).toInt) ∧ ((tI M2 60 30).toInt ≤ 64) ∧ ((tI M2 60 29).toInt ≤ (tI M 60 29).toInt + 8 - 8 * ff M2) ∧ ((tI M 60 29).toInt ≤ (tI M2 60 29).toInt + 8 - 8 * ff M2) ∧ ((tI M2 60 30).toInt - (tY M2 60 3 18).toInt ≤ (tI M 60 30).toInt - (tY M 60 3 18).toInt + 200 - 200 * ff M2) ∧ ((tI M 60 30).toInt - (tY M 60 3 18).toInt ≤ (tI M2 60 30).toInt - (tY M2 60 3 18).toInt + 200 - 200 * ff M2) ∧ (0 ≤ (tY M2 60 3 18).toInt) ∧ ((tY M2 60 3 18).toInt ≤ 64) ∧ (0 ≤ (tI M2 60 29).toInt) ∧ ((tI M2 60 29).toInt ≤ 8) ∧ us M2 a (d + 1)) := by
  refine ti_eVE yp_X10_expression hJ ti_LM_nd (Nat.le_of_ble_eq_true rfl) ?_
  intro p e s m args below meth c Q H0 C hE hQ hw ls hl
  have hx := C.1
  have hb := C.2.1
  have hl : lv_has ls 1 [(0, .ref (A 60 0))] := hl
  have hI30 := b30 hI
  have hI29 := b29 hI
  have hI18 := b18 hI
  have hIff := ff_b M
  refine lv_aload_n hx hb dX10_expression_0 rfl (lv_at hl 0 rfl) ?_
  refine ti_callVvE (ci := 10) (av := []) C hE hw (x_X10_conjunction l D A cy hJ M hI j a (d) (by omega) hu (by omega) (by omega) (by omega) B n rg hr ih) ⟨ml_X10_276, ym_X10_conjunction, yv_X10_conjunction, yi_X10_conjunction, yc_X10_conjunction⟩ yd_X10_conjunction ob_60 (by decide) rfl rfl hl.1 (Nat.le_of_ble_eq_true rfl) ⟨by simp only [ti_rm]; omega, by simp only [ti_rm]; omega⟩ ⟨Nat.zero_le _, Nat.zero_le _⟩ dX10_expression_1 (fun M_2 H locs hp_2 hw => ?_)
  obtain ⟨hs_3, hp_4⟩ := hp_2
  obtain ⟨iM_2, q_5, p_6, p_7, p_8, p_9, p_10, p_11, p_12, p_13, p_14, p_15, p_16, p_17, p_18, u_19⟩ := hp_4
  obtain ⟨g_20, eg_20⟩ : ∃ z : Nat → Int, z = pp_bo B n (pp_pt B n j) rg := ⟨_, rfl⟩
  rw [← eg_20] at hs_3
  have hl_4_40 : ∀ (n_41 : Nat) (M_21 : ti_M) (g_23 : Nat → Int) (H : Heap) (locs : List Loc) (ls : Array Slot), (64 - (tI M_21 60 30).toInt + ff M_21 : Int).toNat < n_41 → (mI Tm M_21) → (pe M_21 M) → (rQ B n g_23 M_21) → (us M_21 a (d + 1)) → (pp_ei B n (pp_pt B n j) rg = pp_lp pp_qO (fun s => pp_bo B n (pp_pt B n j) (pp_kn B n s)) 64 g_23) → (g_23 0 = 28 ∨ (1 ≤ g_23 8 ∧ g_23 8 ≤ 64)) → (pg M ≤ pg M_21) → (0 ≤ ff M_21) → (ff M_21 ≤ ff M) → ((tI M 60 30).toInt ≤ (tI M_21 60 30).toInt) → ((tI M_21 60 30).toInt ≤ 64) → ((tI M_21 60 29).toInt ≤ (tI M 60 29).toInt + 8 - 8 * ff M_21) → ((tI M 60 29).toInt ≤ (tI M_21 60 29).toInt + 8 - 8 * ff M_21) → ((tI M_21 60 30).toInt - (tY M_21 60 3 18).toInt ≤ (tI M 60 30).toInt - (tY M 60 3 18).toInt + 200 - 200 * ff M_21) → ((tI M 60 30).toInt - (tY M 60 3 18).toInt ≤ (tI M_21 60 30).toInt - (tY M_21 60 3 18).toInt + 200 - 200 * ff M_21) → (0 ≤ (tY M_21 60 3 18).toInt) → ((tY M_21 60 3 18).toInt ≤ 64) → (0 ≤ (tI M_21 60 29).toInt) → ((tI M_21 60 29).toInt ≤ 8) → ti_H ti_LM D A cy H0 M_21 H locs → lv_has ls 1 [(0, .ref (A 60 0))] → W p l e (ti_rm (78 + 71 * j)) s m args below meth c H locs 0 0 Q (F0 m 4 ls []) := by
    intro n_41
    induction n_41 with
    | zero => intro M_21 g_23 H locs ls hf_41; exact absurd hf_41 (Nat.not_lt_zero _)
    | succ n_41 ih_41 =>
      intro M_21 g_23 H locs ls hf_41 iM_21 f_22 hs_24 j_25 j_26 j_27 j_28 j_29 j_30 j_31 j_32 j_33 j_34 j_35 j_36 j_37 j_38 j_39 j_40 hw hl
      refine lv_aload_n hx hb dX10_expression_4 rfl (lv_at hl 0 rfl) ?_
      refine lv_bipush (v := 16) hx hb dX10_expression_5 (by decide) ?_
      refine ti_callVi (ci := 10) (av := [.int 16]) C hw (x_X10_isWord l D A cy hJ M_21 iM_21 16) ⟨ml_X10_261, ym_X10_isWord, yv_X10_isWord, yi_X10_isWord, yc_X10_isWord⟩ yd_X10_isWord ob_60 (by decide) rfl rfl hl.1 (Nat.le_of_ble_eq_true rfl) ⟨by simp only [ti_rm]; omega, by simp only [ti_rm]; omega⟩ ⟨Nat.zero_le _, Nat.zero_le _⟩ dX10_expression_7 (fun r_42 M_43 H locs hp_43 hw => ?_)
      obtain ⟨hm, hz⟩ := hp_43
      have hw := hw.to hm
      rcases hz with ⟨rfl, d0_44, d1_44, d2_44⟩ | ⟨rfl, d3_44⟩
      · have dk_44 := rQ_w1 (k := 23) hs_24 d0_44 d1_44 d2_44 (by decide)
        have z_45 : ff M_21 = 1 := ff_1 d0_44
        have z_46 : pg M_21 = 2 * (tI M_21 60 21).toInt := pg_3 (by rw [d1_44]; decide)
        clear d0_44 d1_44 d2_44
        refine sb_if_eq (tgt := 36) hx hb (by decide : (1 : Int32).toInt = 1) dX10_expression_10 (by decide) (fun h => absurd h (by decide)) (fun c_10_46 => ?_)
        refine lv_aload_n hx hb dX10_expression_13 rfl (lv_at hl 0 rfl) ?_
        refine ti_callVv (ci := 10) (av := []) C hw (x_X10_knot l D A cy hJ M_21 iM_21  B n g_23 hs_24) ⟨ml_X10_279, ym_X10_knot, yv_X10_knot, yi_X10_knot, yc_X10_knot⟩ yd_X10_knot ob_60 (by decide) rfl rfl hl.1 (Nat.le_of_ble_eq_true rfl) ⟨by simp only [ti_rm]; omega, by simp only [ti_rm]; omega⟩ ⟨Nat.zero_le _, Nat.zero_le _⟩ dX10_expression_14 (fun M_50 H locs hp_50 hw => ?_)
        obtain ⟨hs_51, hp_52⟩ := hp_50
        obtain ⟨iM_50, q_53, z_54, z_55, z_56, z_57, z_58, z_59⟩ := l_kn hp_52
        clear hp_52
        obtain ⟨g_60, eg_60⟩ : ∃ z : Nat → Int, z = pp_k1 g_23 := ⟨_, rfl⟩
        rw [← eg_60] at hs_51
        refine lv_aload_n hx hb dX10_expression_17 rfl (lv_at hl 0 rfl) ?_
        refine ti_callVvE (ci := 10) (av := []) C hE hw (x_X10_goOn l D A cy hJ M_50 iM_50  B n g_60 hs_51) ⟨ml_X10_267, ym_X10_goOn, yv_X10_goOn, yi_X10_goOn, yc_X10_goOn⟩ yd_X10_goOn ob_60 (by decide) rfl rfl hl.1 (Nat.le_of_ble_eq_true rfl) ⟨by simp only [ti_rm]; omega, by simp only [ti_rm]; omega⟩ ⟨Nat.zero_le _, Nat.zero_le _⟩ dX10_expression_18 (fun M_62 H locs hp_62 hw => ?_)
        obtain ⟨hs_63, hp_64⟩ := hp_62
        obtain ⟨iM_62, q_65, z_66, z_67, z_68, z_69, z_70⟩ := l_go hp_64
        clear hp_64
        obtain ⟨g_71, eg_71⟩ : ∃ z : Nat → Int, z = pp_go B n g_60 := ⟨_, rfl⟩
        rw [← eg_71] at hs_63
        refine lv_aload_n hx hb dX10_expression_21 rfl (lv_at hl 0 rfl) ?_
        refine ti_callVvE (ci := 10) (av := []) C hE hw (x_X10_conjunction l D A cy hJ M_62 iM_62 j a (d + 1) (by omega) (us_q (x := 21) (y := 30) j_25 (pr.trans (pr_w q_65 (by decide) (by decide)) (pr_w q_53 (by decide) (by decide))) (by omega)) (by omega) (by omega) (by omega) B n g_71 hs_63 ih) ⟨ml_X10_276, ym_X10_conjunction, yv_X10_conjunction, yi_X10_conjunction, yc_X10_conjunction⟩ yd_X10_conjunction ob_60 (by decide) rfl rfl hl.1 (Nat.le_of_ble_eq_true rfl) ⟨by simp only [ti_rm]; omega, by simp only [ti_rm]; omega⟩ ⟨Nat.zero_le _, Nat.zero_le _⟩ dX10_expression_22 (fun M_73 H locs hp_73 hw => ?_)
        obtain ⟨hs_74, hp_75⟩ := hp_73
        obtain ⟨iM_73, q_76, p_77, p_78, p_79, p_80, p_81, p_82, p_83, p_84, p_85, p_86, p_87, p_88, p_89, u_90⟩ := hp_75
        obtain ⟨g_91, eg_91⟩ : ∃ z : Nat → Int, z = pp_bo B n (pp_pt B n j) g_71 := ⟨_, rfl⟩
        rw [← eg_91] at hs_74
        refine lv_aload_n hx hb dX10_expression_25 rfl (lv_at hl 0 rfl) ?_
        refine lv_iconst (v := 2) hx hb dX10_expression_26 (by decide) ?_
        refine lv_sipush (v := 262) hx hb dX10_expression_27 (by decide) ?_
        refine ti_callVv (ci := 10) (av := [.int 2, .int 262]) C hw (s_X10_puts l D A cy hJ M_73 iM_73 a (d + 1 + 1) (d + 1) 2 262 u_90 (nL (by omega)) (by first | exact Or.inr (Or.inr (Or.inl ⟨by decide, by omega, rfl⟩)) | exact nF (by omega))) ⟨ml_X10_282, ym_X10_puts, yv_X10_puts, yi_X10_puts, yc_X10_puts⟩ yd_X10_puts ob_60 (by decide) rfl rfl hl.1 (Nat.le_of_ble_eq_true rfl) ⟨by simp only [ti_rm]; omega, by simp only [ti_rm]; omega⟩ ⟨Nat.zero_le _, Nat.zero_le _⟩ dX10_expression_30 (fun M_93 H locs hp_93 hw => ?_)
        have hs_94 := rQ_pe hs_74 hp_93.2.1 hp_93.2.2.2.1
        obtain ⟨iM_93, q_95, u_96, z_97, z_98, z_99, z_100, z_101, z_102⟩ := l_pu iM_73 hp_93
        clear hp_93
        refine lv_goto (tgt := 4) hx hb dX10_expression_33 (by decide) ?_
        exact ih_41 M_93 g_91 _ _ _ (by omega) iM_93 (pe.trans q_95 (pe.trans q_76 (pe.trans (pe_pr q_65 (by decide) (by decide)) (pe.trans (pe_pr q_53 (by decide) (by decide)) f_22)))) hs_94 u_96 (j_26.trans (lp_nx (P := pp_qO) (G := fun s => pp_bo B n (pp_pt B n j) (pp_kn B n s)) (s := g_23) (by decide) (gr_kn (gr_bo (gr_pt j))) 63 (show pp_qO (g_23 0) = true from decide_eq_true (by omega)) (by rw [eg_91, eg_71, eg_60, kn_kg (rQ_g0 hs_24 (by omega))]) (by omega) (by omega))) (by rw [eg_91]; exact rQ_gr (gr_bo (gr_pt j)) hs_63 iM_62) (by first | omega | decide) (by first | omega | decide) (by first | omega | decide) (by first | omega | decide) (by first | omega | decide) (by first | omega | decide) (by first | omega | decide) (by first | omega | decide) (by first | omega | decide) (by first | omega | decide) (by first | omega | decide) (by first | omega | decide) (by first | omega | decide) hw (lv_sub hl [0] rfl)
      · have dk_44 := rQ_w0 (k := 23) hs_24 d3_44 (by decide) (by decide)
        clear d3_44
        refine sb_if_eq (tgt := 36) hx hb (by decide : (0 : Int32).toInt = 0) dX10_expression_10 (by decide) (fun c_10_47 => ?_) (fun h => absurd h (by decide))
        exact hQ _ _ _ _ _ hw (⟨(by rw [j_26, lp_end (P := pp_qO) (f := 64) (s := g_23) (Or.inr (decide_eq_false (by omega)))]; exact hs_24), iM_21, f_22, (by omega), (by omega), (by omega), (by omega), (by omega), (by omega), (by omega), (by omega), (by omega), (by omega), (by omega), (by omega), (by omega), j_25⟩) dX10_expression_36
  exact hl_4_40 ((64 - (tI M_2 60 30).toInt + ff M_2 : Int).toNat + 1) M_2 g_20 _ _ _ (Nat.lt_succ_self _) iM_2 q_5 hs_3 u_19 (by unfold pp_ei; rw [← eg_20]) (by rw [eg_20]; exact rQ_gr (gr_bo (gr_pt j)) hr hI) (by first | omega | decide) (by first | omega | decide) (by first | omega | decide) (by first | omega | decide) (by first | omega | decide) (by first | omega | decide) (by first | omega | decide) (by first | omega | decide) (by first | omega | decide) (by first | omega | decide) (by first | omega | decide) (by first | omega | decide) (by first | omega | decide) hw (lv_sub hl [0] rfl)
theorem x_X10_expression : ∀ j : Nat, ∀ (l : Launch) (D : va_G) (A : Nat → Nat → Nat) (cy : Nat → ClassId) (hJ : ti_inj ti_LM A) (M : ti_M) (hI : mI Tm M) (a d : Nat) (hj : j ≤ 8) (hu : us M a d) (hc : (tY M 60 3 18).toInt ≤ (tI M 60 30).toInt + 64 - 64 * ff M) (ho : (tI M 60 29).toInt + j ≤ 16 - 8 * ff M) (ho2 : 8 * ff M ≤ (tI M 60 29).toInt + j) (B : Nat → Int) (n : Nat) (rg : Nat → Int) (hr : rQ B n rg M), ti_KvE l yX10_expression cX10_expression 1 (78 + 71 * j) ti_LM D A cy M [.ref (A 60 0)] (fun M2 => rQ B n (pp_ei B n (pp_pt B n j) rg) M2 ∧ mI Tm M2 ∧ pe M2 M ∧ (pg M ≤ pg M2) ∧ (0 ≤ ff M2) ∧ (ff M2 ≤ ff M) ∧ ((tI M 60 30).toInt ≤ (tI M2 60 30).toInt) ∧ ((tI M2 60 30).toInt ≤ 64) ∧ ((tI M2 60 29).toInt ≤ (tI M 60 29).toInt + 8 - 8 * ff M2) ∧ ((tI M 60 29).toInt ≤ (tI M2 60 29).toInt + 8 - 8 * ff M2) ∧ ((tI M2 60 30).toInt - (tY M2 60 3 18).toInt ≤ (tI M 60 30).toInt - (tY M 60 3 18).toInt + 200 - 200 * ff M2) ∧ ((tI M 60 30).toInt - (tY M 60 3 18).toInt ≤ (tI M2 60 30).toInt - (tY M2 60 3 18).toInt + 200 - 200 * ff M2) ∧ (0 ≤ (tY M2 60 3 18).toInt) ∧ ((tY M2 60 3 18).toInt ≤ 64) ∧ (0 ≤ (tI M2 60 29).toInt) ∧ ((tI M2 60 29).toInt ≤ 8) ∧ us M2 a (d + 1)) := by
  intro j
  induction j using Nat.strongRecOn with
  | ind j ih =>
    intro l D A cy hJ M hI a d hj hu hc ho ho2 B n rg hr
    exact x_X10_expression_s l D A cy hJ M hI j a d hj hu hc ho ho2 B n rg hr ih

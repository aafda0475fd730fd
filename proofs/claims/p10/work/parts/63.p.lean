variable {Tc : gC} {Tm : gM}
set_option maxHeartbeats 4000000 in
set_option maxRecDepth 100000 in
theorem x_X10_negation_s (l : Launch) (D : va_G) (A : Nat → Nat → Nat) (cy : Nat → ClassId) (hJ : ti_inj ti_LM A) (M : ti_M) (hI : mI Tm M) (j a d : Nat) (hj : j ≤ 8) (hu : us M a d) (hc : (tY M 60 3 18).toInt ≤ (tI M 60 30).toInt + 64 - 64 * ff M) (ho : (tI M 60 29).toInt + j ≤ 16 - 8 * ff M) (ho2 : 8 * ff M ≤ (tI M 60 29).toInt + j) (B : Nat → Int) (n : Nat) (rg : Nat → Int) (hr : rQ B n rg M) (lj : Nat) (hlj : lj < 3) (td : Nat → Int) (he : qE a d lj td M) (hvs : vs M) (ih : ∀ i : Nat, i < j → ∀ (l : Launch) (D : va_G) (A : Nat → Nat → Nat) (cy : Nat → ClassId) (hJ : ti_inj ti_LM A) (M : ti_M) (hI : mI Tm M) (a d : Nat) (hj : i ≤ 8) (hu : us M a d) (hc : (tY M 60 3 18).toInt ≤ (tI M 60 30).toInt + 64 - 64 * ff M) (ho : (tI M 60 29).toInt + i ≤ 16 - 8 * ff M) (ho2 : 8 * ff M ≤ (tI M 60 29).toInt + i) (B : Nat → Int) (n : Nat) (rg : Nat → Int) (hr : rQ B n rg M) (lj : Nat) (hlj : lj < 3) (td : Nat → Int) (he : qE a d lj td M) (hvs : vs M), ti_KvE l yX10_expression cX10_expression 1 (78 + 71 * i) ti_LM D A cy M [.ref (A 60 0)] (fun M2 => qE a (d + 1) lj (qq_ei B n lj (pp_pt B n i) (qq_pt B n lj i) rg td) M2 ∧ vs M2 ∧ rQ B n (pp_ei B n (pp_pt B n i) rg) M2 ∧ mI Tm M2 ∧ pe M2 M ∧ (pg M ≤ pg M2) ∧ (0 ≤ ff M2) ∧ (ff M2 ≤ ff M) ∧ ((tI M 60 30).toInt ≤ (tI M2 60 30).toInt) ∧ ((tI M2 60 30).toInt ≤ 64) ∧ ((tI M2 60 29).toInt ≤ (tI M 60 29).toInt + 8 - 8 * ff M2) ∧ ((tI M 60 29).toInt ≤ (tI M2 60 29).toInt + 8 - 8 * ff M2) ∧ ((tI M2 60 30).toInt - (tY M2 60 3 18).toInt ≤ (tI M 60 30).toInt - (tY M 60 3 18).toInt + 200 - 200 * ff M2) ∧ ((tI M 60 30).toInt - (tY M 60 3 18).toInt ≤ (tI M2 60 30).toInt - (tY M2 60 3 18).toInt + 200 - 200 * ff M2) ∧ (0 ≤ (tY M2 60 3 18).toInt) ∧ ((tY M2 60 3 18).toInt ≤ 64) ∧ (0 ≤ (tI M2 60 29).toInt) ∧ ((tI M2 60 29).toInt ≤ 8) ∧ us M2 a (d + 1))) (nn : Nat) (hn : 64 - (tI M 60 30).toInt + ff M ≤ nn) (ihn : ∀ i : Nat, i < nn → ∀ (l : Launch) (D : va_G) (A : Nat → Nat → Nat) (cy : Nat → ClassId) (hJ : ti_inj ti_LM A) (M : ti_M) (hI : mI Tm M) (a d : Nat) (hj : j ≤ 8) (hu : us M a d) (hc : (tY M 60 3 18).toInt ≤ (tI M 60 30).toInt + 64 - 64 * ff M) (ho : (tI M 60 29).toInt + j ≤ 16 - 8 * ff M) (ho2 : 8 * ff M ≤ (tI M 60 29).toInt + j) (B : Nat → Int) (n : Nat) (rg : Nat → Int) (hr : rQ B n rg M) (lj : Nat) (hlj : lj < 3) (td : Nat → Int) (he : qE a d lj td M) (hvs : vs M) (hn : 64 - (tI M 60 30).toInt + ff M ≤ i), ti_KvE l yX10_negation cX10_negation 2 (11 + 71 * j + i) ti_LM D A cy M [.ref (A 60 0)] (fun M2 => qE a (d + 1) lj (qq_ng B n lj (pp_pt B n j) (qq_pt B n lj j) rg td) M2 ∧ vs M2 ∧ rQ B n (pp_ng B n (pp_pt B n j) rg) M2 ∧ mI Tm M2 ∧ pe M2 M ∧ (pg M ≤ pg M2) ∧ (0 ≤ ff M2) ∧ (ff M2 ≤ ff M) ∧ ((tI M 60 30).toInt ≤ (tI M2 60 30).toInt) ∧ ((tI M2 60 30).toInt ≤ 64) ∧ ((tI M2 60 29).toInt ≤ (tI M 60 29).toInt + 8 - 8 * ff M2) ∧ ((tI M 60 29).toInt ≤ (tI M2 60 29).toInt + 8 - 8 * ff M2) ∧ ((tI M2 60 30).toInt - (tY M2 60 3 18).toInt ≤ (tI M 60 30).toInt - (tY M 60 3 18).toInt + 200 - 200 * ff M2) ∧ ((tI M 60 30).toInt - (tY M 60 3 18).toInt ≤ (tI M2 60 30).toInt - (tY M2 60 3 18).toInt + 200 - 200 * ff M2) ∧ (0 ≤ (tY M2 60 3 18).toInt) ∧ ((tY M2 60 3 18).toInt ≤ 64) ∧ (0 ≤ (tI M2 60 29).toInt) ∧ ((tI M2 60 29).toInt ≤ 8) ∧ us M2 a (d + 1))) : ti_KvE l yX10_negation cX10_negation 2 (11 + 71 * j + nn) ti_LM D A cy M [.ref (A 60 0)] (fun M2 => qE a (d + 1) lj (qq_ng B n lj (pp_pt B n j) (qq_pt B n lj j) rg td) M2 ∧ vs M2 ∧ rQ B n (pp_ng B n (pp_pt B n j) rg) M2 ∧ mI Tm M2 ∧ pe M2 M ∧ (pg M ≤ pg M2) ∧ (0 ≤ ff M2) ∧ (ff M2 ≤ ff M) ∧ ((tI M 60 30).toInt ≤ (tI M2 60 30).toInt) ∧ ((tI M2 60 30).toInt ≤ 64) ∧ ((tI M2 60 29).toInt ≤ (tI M 60 29).toInt + 8 - 8 * ff M2) ∧ ((tI M 60 29).toInt ≤ (tI M2 60 29).toInt + 8 - 8 * ff M2) ∧ ((tI M2 60 30).toInt - (tY M2 60 3 18).toInt ≤ (tI M 60 30).toInt - (tY M 60 3 18).toInt + 200 - 200 * ff M2) ∧ ((tI M 60 30).toInt - (tY M 60 3 18).toInt ≤ (tI M2 60 30).toInt - (tY M2 60 3 18).toInt + 200 - 200 * ff M2) ∧ (0 ≤ (tY M2 60 3 18).toInt) ∧ ((tY M2 60 3 18).toInt ≤ 64) ∧ (0 ≤ (tI M2 60 29).toInt) ∧ ((tI M2 60 29).toInt ≤ 8) ∧ us M2 a (d + 1)) := by
  refine ti_eVE yp_X10_negation hJ ti_LM_nd (Nat.le_of_ble_eq_true rfl) ?_
  intro p e s m args below meth c Q H0 C hE hQ hw ls hl
  have hx := C.1
  have hb := C.2.1
  have hl : lv_has ls 2 [(0, .ref (A 60 0))] := hl
  have hI30 := b30 hI
  have hI29 := b29 hI
  have hI18 := b18 hI
  have hIff := ff_b M
  refine lv_aload_n hx hb dX10_negation_0 rfl (lv_at hl 0 rfl) ?_
  refine lv_bipush (v := 18) hx hb dX10_negation_1 (by decide) ?_
  refine ti_callVi (ci := 10) (av := [.int 18]) C hw (x_X10_isWord l D A cy hJ M hI 18) ⟨ml_X10_261, ym_X10_isWord, yv_X10_isWord, yi_X10_isWord, yc_X10_isWord⟩ yd_X10_isWord ob_60 (by decide) rfl rfl hl.1 (Nat.le_of_ble_eq_true rfl) ⟨by simp only [ti_rm]; omega, by simp only [ti_rm]; omega⟩ ⟨Nat.zero_le _, Nat.zero_le _⟩ dX10_negation_3 (fun r_1 M_2 H locs hp_2 hw => ?_)
  obtain ⟨hm, hz⟩ := hp_2
  have hw := hw.to hm
  rcases hz with ⟨rfl, d0_3, d1_3, d2_3⟩ | ⟨rfl, d3_3⟩
  · have dk_3 := rQ_w1 (k := 24) hr d0_3 d1_3 d2_3 (by decide)
    have z_4 : ff M = 1 := ff_1 d0_3
    have z_5 : pg M = 2 * (tI M 60 21).toInt := pg_3 (by rw [d1_3]; decide)
    clear d0_3 d1_3 d2_3
    have z_NOT : True := trivial
    refine sb_if_eq (tgt := 30) hx hb (by decide : (1 : Int32).toInt = 1) dX10_negation_6 (by decide) (fun h => absurd h (by decide)) (fun c_6_5 => ?_)
    refine lv_aload_n hx hb dX10_negation_9 rfl (lv_at hl 0 rfl) ?_
    refine ti_callVv (ci := 10) (av := []) C hw (x_X10_knot l D A cy hJ M hI  B n rg hr) ⟨ml_X10_279, ym_X10_knot, yv_X10_knot, yi_X10_knot, yc_X10_knot⟩ yd_X10_knot ob_60 (by decide) rfl rfl hl.1 (Nat.le_of_ble_eq_true rfl) ⟨by simp only [ti_rm]; omega, by simp only [ti_rm]; omega⟩ ⟨Nat.zero_le _, Nat.zero_le _⟩ dX10_negation_10 (fun M_9 H locs hp_9 hw => ?_)
    obtain ⟨hs_10, hp_11⟩ := hp_9
    obtain ⟨iM_9, q_12, z_13, z_14, z_15, z_16, z_17, z_18⟩ := l_kn hp_11
    clear hp_11
    obtain ⟨g_19, eg_19⟩ : ∃ z : Nat → Int, z = pp_k1 rg := ⟨_, rfl⟩
    rw [← eg_19] at hs_10
    have te_20 : qE a (d) lj td M_9 := qE_fr he q_12.1 (by omega)
    have vs_21 : vs M_9 := vs_fr hvs (by omega) (q_12.2 23 (by decide)) (q_12.2 24 (by decide))
    refine lv_aload_n hx hb dX10_negation_13 rfl (lv_at hl 0 rfl) ?_
    refine ti_callVvE (ci := 10) (av := []) C hE hw (x_X10_goOn l D A cy hJ M_9 iM_9  B n g_19 hs_10) ⟨ml_X10_267, ym_X10_goOn, yv_X10_goOn, yi_X10_goOn, yc_X10_goOn⟩ yd_X10_goOn ob_60 (by decide) rfl rfl hl.1 (Nat.le_of_ble_eq_true rfl) ⟨by simp only [ti_rm]; omega, by simp only [ti_rm]; omega⟩ ⟨Nat.zero_le _, Nat.zero_le _⟩ dX10_negation_14 (fun M_23 H locs hp_23 hw => ?_)
    obtain ⟨hs_24, hp_25⟩ := hp_23
    obtain ⟨iM_23, q_26, z_27, z_28, z_29, z_30, z_31⟩ := l_go hp_25
    clear hp_25
    obtain ⟨g_32, eg_32⟩ : ∃ z : Nat → Int, z = pp_go B n g_19 := ⟨_, rfl⟩
    rw [← eg_32] at hs_24
    have te_33 : qE a (d) lj td M_23 := qE_fr te_20 q_26.1 (by omega)
    have vs_34 : vs M_23 := (fun q9 => vs_av hs_24 (by rw [eg_32]; unfold pp_go; rw [if_pos (rQ_g0 hs_10 (ff_1 (ff_q (by omega) q9)))]; exact av_v) q9)
    refine lv_aload_n hx hb dX10_negation_17 rfl (lv_at hl 0 rfl) ?_
    refine ti_callVvE (ci := 10) (av := []) C hE hw (ihn (nn - 1) (by omega) l D A cy hJ M_23 iM_23 a (d) (by omega) (us_q (x := 21) (y := 30) hu (pr.trans (pr_w q_26 (by decide) (by decide)) (pr_w q_12 (by decide) (by decide))) (by omega)) (by omega) (by omega) (by omega) B n g_32 hs_24 lj hlj td te_33 vs_34 (by omega)) ⟨ml_X10_285, ym_X10_negation, yv_X10_negation, yi_X10_negation, yc_X10_negation⟩ yd_X10_negation ob_60 (by decide) rfl rfl hl.1 (Nat.le_of_ble_eq_true rfl) ⟨by simp only [ti_rm]; omega, by simp only [ti_rm]; omega⟩ ⟨Nat.zero_le _, Nat.zero_le _⟩ dX10_negation_18 (fun M_36 H locs hp_36 hw => ?_)
    obtain ⟨te_39, vs_40, hs_37, hp_38⟩ := hp_36
    obtain ⟨iM_36, q_41, p_42, p_43, p_44, p_45, p_46, p_47, p_48, p_49, p_50, p_51, p_52, p_53, p_54, u_55⟩ := hp_38
    obtain ⟨g_56, eg_56⟩ : ∃ z : Nat → Int, z = pp_ng B n (pp_pt B n j) g_32 := ⟨_, rfl⟩
    rw [← eg_56] at hs_37
    obtain ⟨d_57, ed_57⟩ : ∃ z : Nat → Int, z = qq_ng B n lj (pp_pt B n j) (qq_pt B n lj j) g_32 td := ⟨_, rfl⟩
    rw [← ed_57] at te_39
    refine lv_aload_n hx hb dX10_negation_21 rfl (lv_at hl 0 rfl) ?_
    refine lv_iconst (v := 2) hx hb dX10_negation_22 (by decide) ?_
    refine lv_sipush (v := 260) hx hb dX10_negation_23 (by decide) ?_
    refine ti_callVv (ci := 10) (av := [.int 2, .int 260]) C hw (x_X10_puts l D A cy hJ M_36 iM_36 a (d + 1) (d + 1) 2 260 u_55 (nL (by omega)) (by first | exact Or.inr (Or.inl ⟨by decide, by decide, by omega, rfl⟩) | exact nF (by omega))) ⟨ml_X10_282, ym_X10_puts, yv_X10_puts, yi_X10_puts, yc_X10_puts⟩ yd_X10_puts ob_60 (by decide) rfl rfl hl.1 (Nat.le_of_ble_eq_true rfl) ⟨by simp only [ti_rm]; omega, by simp only [ti_rm]; omega⟩ ⟨Nat.zero_le _, Nat.zero_le _⟩ dX10_negation_26 (fun M_59 H locs hp_59 hw => ?_)
    have piM_59 := (hp_59).2.2.2.2.1
    obtain ⟨puM_59, hqM_59⟩ := hp_59
    have hs_60 := rQ_pe hs_37 hqM_59.2.1 hqM_59.2.2.2.1
    obtain ⟨iM_59, q_61, u_62, z_63, z_64, z_65, z_66, z_67, z_68⟩ := l_pu iM_36 hqM_59
    clear hqM_59
    have te_70 : qE a (d + 1) lj (qa lj (-24) d_57) M_59 := qE_pu hlj te_39 puM_59 (fun q9 => by have q8 := ff_1 q9; exact ⟨by decide, fun q => absurd q (by decide)⟩) (fun q9 => by have q8 := ff_1 q9; exact Or.inl ⟨by decide, by decide, by omega, rfl⟩)
    obtain ⟨d_69, ed_69⟩ : ∃ z : Nat → Int, z = qa lj (-24) d_57 := ⟨_, rfl⟩
    rw [← ed_69] at te_70
    have vs_71 : vs M_59 := fun q9 q8 => by rw [piM_59 23 (by decide)] at q8; rw [piM_59 24 (by decide)]; exact vs_40 (by rw [← puM_59.1]; exact q9) q8
    exact hQ _ _ _ _ _ hw (⟨(fun q9 => by have q8 := ff_1 q9; have r9 := rQ_g0 hr (ff_1 (ff_q (by omega) q9)); rw [qng_not dk_3.1 (rQ_8 hr hI r9).1 (rQ_8 hr hI r9).2, ← kn_kg r9, ← eg_19, ← eg_32, ← ed_57, ← ed_69]; exact te_70 q9), vs_71, (by rw [ng_not dk_3.1 (rQ_8 hr hI (rQ_g0 hr (by omega))).1 (rQ_8 hr hI (rQ_g0 hr (by omega))).2, ← kn_kg (rQ_g0 hr (by omega)), ← eg_19, ← eg_32, ← eg_56]; exact hs_60), iM_59, (pe.trans q_61 (pe.trans q_41 (pe.trans (pe_pr q_26 (by decide) (by decide)) (pe_pr q_12 (by decide) (by decide))))), (by omega), (by omega), (by omega), (by omega), (by omega), (by omega), (by omega), (by omega), (by omega), (by omega), (by omega), (by omega), (by omega), u_62⟩) dX10_negation_29
  · have dk_3 := rQ_w0 (k := 24) hr d3_3 (by decide) (by decide)
    clear d3_3
    refine sb_if_eq (tgt := 30) hx hb (by decide : (0 : Int32).toInt = 0) dX10_negation_6 (by decide) (fun c_6_6 => ?_) (fun h => absurd h (by decide))
    refine lv_aload_n hx hb dX10_negation_30 rfl (lv_at hl 0 rfl) ?_
    refine ti_callVvE (ci := 10) (av := []) C hE hw (x_X10_sum l D A cy hJ M hI j a (d) (by omega) hu (by omega) (by omega) (by omega) B n rg hr lj hlj td he hvs ih) ⟨ml_X10_288, ym_X10_sum, yv_X10_sum, yi_X10_sum, yc_X10_sum⟩ yd_X10_sum ob_60 (by decide) rfl rfl hl.1 (Nat.le_of_ble_eq_true rfl) ⟨by simp only [ti_rm]; omega, by simp only [ti_rm]; omega⟩ ⟨Nat.zero_le _, Nat.zero_le _⟩ dX10_negation_31 (fun M_73 H locs hp_73 hw => ?_)
    obtain ⟨te_76, vs_77, hs_74, hp_75⟩ := hp_73
    obtain ⟨iM_73, q_78, p_79, p_80, p_81, p_82, p_83, p_84, p_85, p_86, p_87, p_88, p_89, p_90, p_91, u_92⟩ := hp_75
    obtain ⟨g_93, eg_93⟩ : ∃ z : Nat → Int, z = pp_sm B n (pp_pt B n j) rg := ⟨_, rfl⟩
    rw [← eg_93] at hs_74
    obtain ⟨d_94, ed_94⟩ : ∃ z : Nat → Int, z = qq_sm B n lj (pp_pt B n j) (qq_pt B n lj j) rg td := ⟨_, rfl⟩
    rw [← ed_94] at te_76
    refine lv_aload_n hx hb dX10_negation_34 rfl (lv_at hl 0 rfl) ?_
    refine ti_get (ci := 10) (k := 25) (N := 67) (T := TX10) C hw iw_10 rfl ob_60 (by decide) (by decide) fl_X10_208 rfl rfl dX10_negation_35 ?_
    refine lv_topi (fun x_95 ex_95 => ?_)
    have u_96 : (tI M_73 60 25).toInt = x_95.toInt := by rw [ex_95]
    have ufx_95 : (tI M_73 60 25).toInt = x_95.toInt := by rw [ex_95]
    refine sb_if_ne (tgt := 86) hx hb rfl dX10_negation_38 (by decide) (fun c_38_96 => ?_) (fun c_38_96 => ?_)
    · have z_98 : ff M_73 = 0 := ff_0 (fun h => c_38_96 (ufx_95.symm.trans h))
      clear c_38_96
      exact hQ _ _ _ _ _ hw (⟨(by rw [qng_no dk_3]; unfold qq_cm; rw [← eg_93, ← ed_94]; unfold qq_c2; rw [if_neg (rQ_nc hs_74 (by omega))]; exact te_76), vs_77, (by rw [ng_no dk_3]; unfold pp_cm; rw [← eg_93]; unfold pp_c2; rw [if_neg (rQ_nc hs_74 (by omega))]; exact hs_74), iM_73, q_78, (by omega), (by omega), (by omega), (by omega), (by omega), (by omega), (by omega), (by omega), (by omega), (by omega), (by omega), (by omega), (by omega), u_92⟩) dX10_negation_86
    · have z_98 : ff M_73 = 1 := ff_1 (ufx_95.trans c_38_96)
      clear c_38_96
      refine lv_aload_n hx hb dX10_negation_41 rfl (lv_at hl 0 rfl) ?_
      refine ti_get (ci := 10) (k := 23) (N := 67) (T := TX10) C hw iw_10 rfl ob_60 (by decide) (by decide) fl_X10_173 rfl rfl dX10_negation_42 ?_
      refine lv_topi (fun x_99 ex_99 => ?_)
      have uqu_100 : (tI M_73 60 23).toInt = x_99.toInt := by rw [(ex_99.symm)]
      refine lv_iconst (v := 3) hx hb dX10_negation_45 (by decide) ?_
      refine sb_icmp_ne (tgt := 86) hx hb rfl (by decide : (3 : Int32).toInt = 3) dX10_negation_46 (by decide) (fun c_46_100 => ?_) (fun c_46_100 => ?_)
      · exact hQ _ _ _ _ _ hw (⟨(by rw [qng_no dk_3]; unfold qq_cm; rw [← eg_93, ← ed_94]; unfold qq_c2; rw [if_neg (rQ_nc hs_74 (by omega))]; exact te_76), vs_77, (by rw [ng_no dk_3]; unfold pp_cm; rw [← eg_93]; unfold pp_c2; rw [if_neg (rQ_nc hs_74 (by omega))]; exact hs_74), iM_73, q_78, (by omega), (by omega), (by omega), (by omega), (by omega), (by omega), (by omega), (by omega), (by omega), (by omega), (by omega), (by omega), (by omega), u_92⟩) dX10_negation_86
      · refine lv_aload_n hx hb dX10_negation_49 rfl (lv_at hl 0 rfl) ?_
        refine ti_get (ci := 10) (k := 24) (N := 67) (T := TX10) C hw iw_10 rfl ob_60 (by decide) (by decide) fl_X10_183 rfl rfl dX10_negation_50 ?_
        refine lv_topi (fun x_102 ex_102 => ?_)
        have uqu_103 : (tI M_73 60 24).toInt = x_102.toInt := by rw [(ex_102.symm)]
        refine lv_bipush (v := 60) hx hb dX10_negation_53 (by decide) ?_
        refine sb_icmp_eq (tgt := 87) hx hb rfl (by decide : (60 : Int32).toInt = 60) dX10_negation_55 (by decide) (fun c_55_103 => ?_) (fun c_55_103 => ?_)
        · refine lv_aload_n hx hb dX10_negation_87 rfl (lv_at hl 0 rfl) ?_
          refine ti_get (ci := 10) (k := 24) (N := 67) (T := TX10) C hw iw_10 rfl ob_60 (by decide) (by decide) fl_X10_183 rfl rfl dX10_negation_88 ?_
          refine ti_top (y := x_102) (ex_102.symm) ?_
          have uqu_111 : (tI M_73 60 24).toInt = x_102.toInt := by rw [(ex_102.symm)]
          refine lv_istore_n (lv' := [(1, .int x_102), (0, .ref (A 60 0))]) hx hb dX10_negation_91 rfl hl (by decide) rfl (fun ls hl => ?_)
          refine lv_aload_n hx hb dX10_negation_92 rfl (lv_at hl 1 rfl) ?_
          refine ti_callVv (ci := 10) (av := []) C hw (x_X10_knot l D A cy hJ M_73 iM_73  B n g_93 hs_74) ⟨ml_X10_279, ym_X10_knot, yv_X10_knot, yi_X10_knot, yc_X10_knot⟩ yd_X10_knot ob_60 (by decide) rfl rfl hl.1 (Nat.le_of_ble_eq_true rfl) ⟨by simp only [ti_rm]; omega, by simp only [ti_rm]; omega⟩ ⟨Nat.zero_le _, Nat.zero_le _⟩ dX10_negation_93 (fun M_113 H locs hp_113 hw => ?_)
          obtain ⟨hs_114, hp_115⟩ := hp_113
          obtain ⟨iM_113, q_116, z_117, z_118, z_119, z_120, z_121, z_122⟩ := l_kn hp_115
          clear hp_115
          obtain ⟨g_123, eg_123⟩ : ∃ z : Nat → Int, z = pp_k1 g_93 := ⟨_, rfl⟩
          rw [← eg_123] at hs_114
          have te_124 : qE a (d + 1) lj d_94 M_113 := qE_fr te_76 q_116.1 (by omega)
          have vs_125 : vs M_113 := vs_fr vs_77 (by omega) (q_116.2 23 (by decide)) (q_116.2 24 (by decide))
          refine lv_aload_n hx hb dX10_negation_96 rfl (lv_at hl 1 rfl) ?_
          refine ti_callVvE (ci := 10) (av := []) C hE hw (x_X10_goOn l D A cy hJ M_113 iM_113  B n g_123 hs_114) ⟨ml_X10_267, ym_X10_goOn, yv_X10_goOn, yi_X10_goOn, yc_X10_goOn⟩ yd_X10_goOn ob_60 (by decide) rfl rfl hl.1 (Nat.le_of_ble_eq_true rfl) ⟨by simp only [ti_rm]; omega, by simp only [ti_rm]; omega⟩ ⟨Nat.zero_le _, Nat.zero_le _⟩ dX10_negation_97 (fun M_127 H locs hp_127 hw => ?_)
          obtain ⟨hs_128, hp_129⟩ := hp_127
          obtain ⟨iM_127, q_130, z_131, z_132, z_133, z_134, z_135⟩ := l_go hp_129
          clear hp_129
          obtain ⟨g_136, eg_136⟩ : ∃ z : Nat → Int, z = pp_go B n g_123 := ⟨_, rfl⟩
          rw [← eg_136] at hs_128
          have te_137 : qE a (d + 1) lj d_94 M_127 := qE_fr te_124 q_130.1 (by omega)
          have vs_138 : vs M_127 := (fun q9 => vs_av hs_128 (by rw [eg_136]; unfold pp_go; rw [if_pos (rQ_g0 hs_114 (ff_1 (ff_q (by omega) q9)))]; exact av_v) q9)
          refine lv_aload_n hx hb dX10_negation_100 rfl (lv_at hl 1 rfl) ?_
          refine ti_callVvE (ci := 10) (av := []) C hE hw (x_X10_sum l D A cy hJ M_127 iM_127 j a (d + 1) (by omega) (us_q (x := 21) (y := 30) u_92 (pr.trans (pr_w q_130 (by decide) (by decide)) (pr_w q_116 (by decide) (by decide))) (by omega)) (by omega) (by omega) (by omega) B n g_136 hs_128 lj hlj d_94 te_137 vs_138 ih) ⟨ml_X10_288, ym_X10_sum, yv_X10_sum, yi_X10_sum, yc_X10_sum⟩ yd_X10_sum ob_60 (by decide) rfl rfl hl.1 (Nat.le_of_ble_eq_true rfl) ⟨by simp only [ti_rm]; omega, by simp only [ti_rm]; omega⟩ ⟨Nat.zero_le _, Nat.zero_le _⟩ dX10_negation_101 (fun M_140 H locs hp_140 hw => ?_)
          obtain ⟨te_143, vs_144, hs_141, hp_142⟩ := hp_140
          obtain ⟨iM_140, q_145, p_146, p_147, p_148, p_149, p_150, p_151, p_152, p_153, p_154, p_155, p_156, p_157, p_158, u_159⟩ := hp_142
          obtain ⟨g_160, eg_160⟩ : ∃ z : Nat → Int, z = pp_sm B n (pp_pt B n j) g_136 := ⟨_, rfl⟩
          rw [← eg_160] at hs_141
          obtain ⟨d_161, ed_161⟩ : ∃ z : Nat → Int, z = qq_sm B n lj (pp_pt B n j) (qq_pt B n lj j) g_136 d_94 := ⟨_, rfl⟩
          rw [← ed_161] at te_143
          refine lv_aload_n hx hb dX10_negation_104 rfl (lv_at hl 1 rfl) ?_
          refine lv_iconst (v := 2) hx hb dX10_negation_105 (by decide) ?_
          refine lv_iload_n hx hb dX10_negation_106 rfl (lv_at hl 0 rfl) ?_
          refine ti_callVv (ci := 10) (av := [.int 2, .int x_102]) C hw (x_X10_puts l D A cy hJ M_140 iM_140 a (d + 1 + 1) (d + 1) 2 x_102 u_159 (nL (by omega)) (by first | exact Or.inr (Or.inr (Or.inl ⟨by decide, by omega, rfl⟩)) | exact nF (by omega))) ⟨ml_X10_282, ym_X10_puts, yv_X10_puts, yi_X10_puts, yc_X10_puts⟩ yd_X10_puts ob_60 (by decide) rfl rfl hl.1 (Nat.le_of_ble_eq_true rfl) ⟨by simp only [ti_rm]; omega, by simp only [ti_rm]; omega⟩ ⟨Nat.zero_le _, Nat.zero_le _⟩ dX10_negation_107 (fun M_163 H locs hp_163 hw => ?_)
          have piM_163 := (hp_163).2.2.2.2.1
          obtain ⟨puM_163, hqM_163⟩ := hp_163
          have hs_164 := rQ_pe hs_141 hqM_163.2.1 hqM_163.2.2.2.1
          obtain ⟨iM_163, q_165, u_166, z_167, z_168, z_169, z_170, z_171, z_172⟩ := l_pu iM_140 hqM_163
          clear hqM_163
          have te_174 : qE a (d + 1) lj (qa lj (-(bq_sc x_102.toInt)) d_161) M_163 := qE_pu hlj te_143 puM_163 (fun q9 => by have q8 := ff_1 q9; exact ⟨by unfold bq_kc; rw [if_pos (by decide)], fun q => absurd q (by decide)⟩) (fun q9 => by have q8 := ff_1 q9; exact Or.inr (Or.inl ⟨by decide, (by have yc := rQ_yc hs_74 (by omega) (by omega) (by omega); have T9 := rQ_T hs_74 (by omega); have w9 := T9.2.2.2.2.2.2 (by omega); have s9 := sg_260 (k := g_93 0) (by omega) T9.1.2; omega), by omega, rfl⟩))
          obtain ⟨d_173, ed_173⟩ : ∃ z : Nat → Int, z = qa lj (-(bq_sc x_102.toInt)) d_161 := ⟨_, rfl⟩
          rw [← ed_173] at te_174
          have vs_175 : vs M_163 := fun q9 q8 => by rw [piM_163 23 (by decide)] at q8; rw [piM_163 24 (by decide)]; exact vs_144 (by rw [← puM_163.1]; exact q9) q8
          exact hQ _ _ _ _ _ hw (⟨(fun q9 => by have q8 := ff_1 q9; have yc := rQ_yc hs_74 (by omega) (by omega) (by omega); rw [qng_no dk_3]; unfold qq_cm; rw [← eg_93, ← ed_94]; unfold qq_c2; rw [if_pos yc, ← kn_kg (rQ_g0 hs_74 (by omega)), ← eg_123, ← eg_136, ← ed_161, show -(g_93 0) = -(bq_sc x_102.toInt) from (by have T9 := pt_Tsg (rQ_T hs_74 (by omega)) (by omega); have s9 := sc_sg (g_93 0 - 29).toNat (by omega) (by omega); rw [show (29 : Int) + (((g_93 0 - 29).toNat : Nat) : Int) = g_93 0 by omega] at s9; rw [show x_102.toInt = pt_sg (g_93 0) by omega, s9]), ← ed_173]; exact te_174 q9), vs_175, (by rw [ng_no dk_3]; unfold pp_cm; rw [← eg_93]; unfold pp_c2; rw [if_pos (rQ_yc hs_74 (by omega) (by omega) (by omega)), ← kn_kg (rQ_g0 hs_74 (by omega)), ← eg_123, ← eg_136, ← eg_160]; exact hs_164), iM_163, (pe.trans q_165 (pe.trans q_145 (pe.trans (pe_pr q_130 (by decide) (by decide)) (pe.trans (pe_pr q_116 (by decide) (by decide)) q_78)))), (by omega), (by omega), (by omega), (by omega), (by omega), (by omega), (by omega), (by omega), (by omega), (by omega), (by omega), (by omega), (by omega), u_166⟩) dX10_negation_110
        · refine lv_aload_n hx hb dX10_negation_58 rfl (lv_at hl 0 rfl) ?_
          refine ti_get (ci := 10) (k := 24) (N := 67) (T := TX10) C hw iw_10 rfl ob_60 (by decide) (by decide) fl_X10_183 rfl rfl dX10_negation_59 ?_
          refine ti_top (y := x_102) (ex_102.symm) ?_
          have uqu_105 : (tI M_73 60 24).toInt = x_102.toInt := by rw [(ex_102.symm)]
          refine lv_bipush (v := 62) hx hb dX10_negation_62 (by decide) ?_
          refine sb_icmp_eq (tgt := 87) hx hb rfl (by decide : (62 : Int32).toInt = 62) dX10_negation_64 (by decide) (fun c_64_105 => ?_) (fun c_64_105 => ?_)
          · refine lv_aload_n hx hb dX10_negation_87 rfl (lv_at hl 0 rfl) ?_
            refine ti_get (ci := 10) (k := 24) (N := 67) (T := TX10) C hw iw_10 rfl ob_60 (by decide) (by decide) fl_X10_183 rfl rfl dX10_negation_88 ?_
            refine ti_top (y := x_102) (ex_102.symm) ?_
            have uqu_176 : (tI M_73 60 24).toInt = x_102.toInt := by rw [(ex_102.symm)]
            refine lv_istore_n (lv' := [(1, .int x_102), (0, .ref (A 60 0))]) hx hb dX10_negation_91 rfl hl (by decide) rfl (fun ls hl => ?_)
            refine lv_aload_n hx hb dX10_negation_92 rfl (lv_at hl 1 rfl) ?_
            refine ti_callVv (ci := 10) (av := []) C hw (x_X10_knot l D A cy hJ M_73 iM_73  B n g_93 hs_74) ⟨ml_X10_279, ym_X10_knot, yv_X10_knot, yi_X10_knot, yc_X10_knot⟩ yd_X10_knot ob_60 (by decide) rfl rfl hl.1 (Nat.le_of_ble_eq_true rfl) ⟨by simp only [ti_rm]; omega, by simp only [ti_rm]; omega⟩ ⟨Nat.zero_le _, Nat.zero_le _⟩ dX10_negation_93 (fun M_178 H locs hp_178 hw => ?_)
            obtain ⟨hs_179, hp_180⟩ := hp_178
            obtain ⟨iM_178, q_181, z_182, z_183, z_184, z_185, z_186, z_187⟩ := l_kn hp_180
            clear hp_180
            obtain ⟨g_188, eg_188⟩ : ∃ z : Nat → Int, z = pp_k1 g_93 := ⟨_, rfl⟩
            rw [← eg_188] at hs_179
            have te_189 : qE a (d + 1) lj d_94 M_178 := qE_fr te_76 q_181.1 (by omega)
            have vs_190 : vs M_178 := vs_fr vs_77 (by omega) (q_181.2 23 (by decide)) (q_181.2 24 (by decide))
            refine lv_aload_n hx hb dX10_negation_96 rfl (lv_at hl 1 rfl) ?_
            refine ti_callVvE (ci := 10) (av := []) C hE hw (x_X10_goOn l D A cy hJ M_178 iM_178  B n g_188 hs_179) ⟨ml_X10_267, ym_X10_goOn, yv_X10_goOn, yi_X10_goOn, yc_X10_goOn⟩ yd_X10_goOn ob_60 (by decide) rfl rfl hl.1 (Nat.le_of_ble_eq_true rfl) ⟨by simp only [ti_rm]; omega, by simp only [ti_rm]; omega⟩ ⟨Nat.zero_le _, Nat.zero_le _⟩ dX10_negation_97 (fun M_192 H locs hp_192 hw => ?_)
            obtain ⟨hs_193, hp_194⟩ := hp_192
            obtain ⟨iM_192, q_195, z_196, z_197, z_198, z_199, z_200⟩ := l_go hp_194
            clear hp_194
            obtain ⟨g_201, eg_201⟩ : ∃ z : Nat → Int, z = pp_go B n g_188 := ⟨_, rfl⟩
            rw [← eg_201] at hs_193
            have te_202 : qE a (d + 1) lj d_94 M_192 := qE_fr te_189 q_195.1 (by omega)
            have vs_203 : vs M_192 := (fun q9 => vs_av hs_193 (by rw [eg_201]; unfold pp_go; rw [if_pos (rQ_g0 hs_179 (ff_1 (ff_q (by omega) q9)))]; exact av_v) q9)
            refine lv_aload_n hx hb dX10_negation_100 rfl (lv_at hl 1 rfl) ?_
            refine ti_callVvE (ci := 10) (av := []) C hE hw (x_X10_sum l D A cy hJ M_192 iM_192 j a (d + 1) (by omega) (us_q (x := 21) (y := 30) u_92 (pr.trans (pr_w q_195 (by decide) (by decide)) (pr_w q_181 (by decide) (by decide))) (by omega)) (by omega) (by omega) (by omega) B n g_201 hs_193 lj hlj d_94 te_202 vs_203 ih) ⟨ml_X10_288, ym_X10_sum, yv_X10_sum, yi_X10_sum, yc_X10_sum⟩ yd_X10_sum ob_60 (by decide) rfl rfl hl.1 (Nat.le_of_ble_eq_true rfl) ⟨by simp only [ti_rm]; omega, by simp only [ti_rm]; omega⟩ ⟨Nat.zero_le _, Nat.zero_le _⟩ dX10_negation_101 (fun M_205 H locs hp_205 hw => ?_)
            obtain ⟨te_208, vs_209, hs_206, hp_207⟩ := hp_205
            obtain ⟨iM_205, q_210, p_211, p_212, p_213, p_214, p_215, p_216, p_217, p_218, p_219, p_220, p_221, p_222, p_223, u_224⟩ := hp_207
            obtain ⟨g_225, eg_225⟩ : ∃ z : Nat → Int, z = pp_sm B n (pp_pt B n j) g_201 := ⟨_, rfl⟩
            rw [← eg_225] at hs_206
            obtain ⟨d_226, ed_226⟩ : ∃ z : Nat → Int, z = qq_sm B n lj (pp_pt B n j) (qq_pt B n lj j) g_201 d_94 := ⟨_, rfl⟩
            rw [← ed_226] at te_208
            refine lv_aload_n hx hb dX10_negation_104 rfl (lv_at hl 1 rfl) ?_
            refine lv_iconst (v := 2) hx hb dX10_negation_105 (by decide) ?_
            refine lv_iload_n hx hb dX10_negation_106 rfl (lv_at hl 0 rfl) ?_
            refine ti_callVv (ci := 10) (av := [.int 2, .int x_102]) C hw (x_X10_puts l D A cy hJ M_205 iM_205 a (d + 1 + 1) (d + 1) 2 x_102 u_224 (nL (by omega)) (by first | exact Or.inr (Or.inr (Or.inl ⟨by decide, by omega, rfl⟩)) | exact nF (by omega))) ⟨ml_X10_282, ym_X10_puts, yv_X10_puts, yi_X10_puts, yc_X10_puts⟩ yd_X10_puts ob_60 (by decide) rfl rfl hl.1 (Nat.le_of_ble_eq_true rfl) ⟨by simp only [ti_rm]; omega, by simp only [ti_rm]; omega⟩ ⟨Nat.zero_le _, Nat.zero_le _⟩ dX10_negation_107 (fun M_228 H locs hp_228 hw => ?_)
            have piM_228 := (hp_228).2.2.2.2.1
            obtain ⟨puM_228, hqM_228⟩ := hp_228
            have hs_229 := rQ_pe hs_206 hqM_228.2.1 hqM_228.2.2.2.1
            obtain ⟨iM_228, q_230, u_231, z_232, z_233, z_234, z_235, z_236, z_237⟩ := l_pu iM_205 hqM_228
            clear hqM_228
            have te_239 : qE a (d + 1) lj (qa lj (-(bq_sc x_102.toInt)) d_226) M_228 := qE_pu hlj te_208 puM_228 (fun q9 => by have q8 := ff_1 q9; exact ⟨by unfold bq_kc; rw [if_pos (by decide)], fun q => absurd q (by decide)⟩) (fun q9 => by have q8 := ff_1 q9; exact Or.inr (Or.inl ⟨by decide, (by have yc := rQ_yc hs_74 (by omega) (by omega) (by omega); have T9 := rQ_T hs_74 (by omega); have w9 := T9.2.2.2.2.2.2 (by omega); have s9 := sg_260 (k := g_93 0) (by omega) T9.1.2; omega), by omega, rfl⟩))
            obtain ⟨d_238, ed_238⟩ : ∃ z : Nat → Int, z = qa lj (-(bq_sc x_102.toInt)) d_226 := ⟨_, rfl⟩
            rw [← ed_238] at te_239
            have vs_240 : vs M_228 := fun q9 q8 => by rw [piM_228 23 (by decide)] at q8; rw [piM_228 24 (by decide)]; exact vs_209 (by rw [← puM_228.1]; exact q9) q8
            exact hQ _ _ _ _ _ hw (⟨(fun q9 => by have q8 := ff_1 q9; have yc := rQ_yc hs_74 (by omega) (by omega) (by omega); rw [qng_no dk_3]; unfold qq_cm; rw [← eg_93, ← ed_94]; unfold qq_c2; rw [if_pos yc, ← kn_kg (rQ_g0 hs_74 (by omega)), ← eg_188, ← eg_201, ← ed_226, show -(g_93 0) = -(bq_sc x_102.toInt) from (by have T9 := pt_Tsg (rQ_T hs_74 (by omega)) (by omega); have s9 := sc_sg (g_93 0 - 29).toNat (by omega) (by omega); rw [show (29 : Int) + (((g_93 0 - 29).toNat : Nat) : Int) = g_93 0 by omega] at s9; rw [show x_102.toInt = pt_sg (g_93 0) by omega, s9]), ← ed_238]; exact te_239 q9), vs_240, (by rw [ng_no dk_3]; unfold pp_cm; rw [← eg_93]; unfold pp_c2; rw [if_pos (rQ_yc hs_74 (by omega) (by omega) (by omega)), ← kn_kg (rQ_g0 hs_74 (by omega)), ← eg_188, ← eg_201, ← eg_225]; exact hs_229), iM_228, (pe.trans q_230 (pe.trans q_210 (pe.trans (pe_pr q_195 (by decide) (by decide)) (pe.trans (pe_pr q_181 (by decide) (by decide)) q_78)))), (by omega), (by omega), (by omega), (by omega), (by omega), (by omega), (by omega), (by omega), (by omega), (by omega), (by omega), (by omega), (by omega), u_231⟩) dX10_negation_110
          · refine lv_aload_n hx hb dX10_negation_67 rfl (lv_at hl 0 rfl) ?_
            refine ti_get (ci := 10) (k := 24) (N := 67) (T := TX10) C hw iw_10 rfl ob_60 (by decide) (by decide) fl_X10_183 rfl rfl dX10_negation_68 ?_
            refine ti_top (y := x_102) (ex_102.symm) ?_
            have uqu_107 : (tI M_73 60 24).toInt = x_102.toInt := by rw [(ex_102.symm)]
            refine lv_bipush (v := 61) hx hb dX10_negation_71 (by decide) ?_
            refine sb_icmp_eq (tgt := 87) hx hb rfl (by decide : (61 : Int32).toInt = 61) dX10_negation_73 (by decide) (fun c_73_107 => ?_) (fun c_73_107 => ?_)
            · refine lv_aload_n hx hb dX10_negation_87 rfl (lv_at hl 0 rfl) ?_
              refine ti_get (ci := 10) (k := 24) (N := 67) (T := TX10) C hw iw_10 rfl ob_60 (by decide) (by decide) fl_X10_183 rfl rfl dX10_negation_88 ?_
              refine ti_top (y := x_102) (ex_102.symm) ?_
              have uqu_241 : (tI M_73 60 24).toInt = x_102.toInt := by rw [(ex_102.symm)]
              refine lv_istore_n (lv' := [(1, .int x_102), (0, .ref (A 60 0))]) hx hb dX10_negation_91 rfl hl (by decide) rfl (fun ls hl => ?_)
              refine lv_aload_n hx hb dX10_negation_92 rfl (lv_at hl 1 rfl) ?_
              refine ti_callVv (ci := 10) (av := []) C hw (x_X10_knot l D A cy hJ M_73 iM_73  B n g_93 hs_74) ⟨ml_X10_279, ym_X10_knot, yv_X10_knot, yi_X10_knot, yc_X10_knot⟩ yd_X10_knot ob_60 (by decide) rfl rfl hl.1 (Nat.le_of_ble_eq_true rfl) ⟨by simp only [ti_rm]; omega, by simp only [ti_rm]; omega⟩ ⟨Nat.zero_le _, Nat.zero_le _⟩ dX10_negation_93 (fun M_243 H locs hp_243 hw => ?_)
              obtain ⟨hs_244, hp_245⟩ := hp_243
              obtain ⟨iM_243, q_246, z_247, z_248, z_249, z_250, z_251, z_252⟩ := l_kn hp_245
              clear hp_245
              obtain ⟨g_253, eg_253⟩ : ∃ z : Nat → Int, z = pp_k1 g_93 := ⟨_, rfl⟩
              rw [← eg_253] at hs_244
              have te_254 : qE a (d + 1) lj d_94 M_243 := qE_fr te_76 q_246.1 (by omega)
              have vs_255 : vs M_243 := vs_fr vs_77 (by omega) (q_246.2 23 (by decide)) (q_246.2 24 (by decide))
              refine lv_aload_n hx hb dX10_negation_96 rfl (lv_at hl 1 rfl) ?_
              refine ti_callVvE (ci := 10) (av := []) C hE hw (x_X10_goOn l D A cy hJ M_243 iM_243  B n g_253 hs_244) ⟨ml_X10_267, ym_X10_goOn, yv_X10_goOn, yi_X10_goOn, yc_X10_goOn⟩ yd_X10_goOn ob_60 (by decide) rfl rfl hl.1 (Nat.le_of_ble_eq_true rfl) ⟨by simp only [ti_rm]; omega, by simp only [ti_rm]; omega⟩ ⟨Nat.zero_le _, Nat.zero_le _⟩ dX10_negation_97 (fun M_257 H locs hp_257 hw => ?_)
              obtain ⟨hs_258, hp_259⟩ := hp_257
              obtain ⟨iM_257, q_260, z_261, z_262, z_263, z_264, z_265⟩ := l_go hp_259
              clear hp_259
              obtain ⟨g_266, eg_266⟩ : ∃ z : Nat → Int, z = pp_go B n g_253 := ⟨_, rfl⟩
              rw [← eg_266] at hs_258
              have te_267 : qE a (d + 1) lj d_94 M_257 := qE_fr te_254 q_260.1 (by omega)
              have vs_268 : vs M_257 := (fun q9 => vs_av hs_258 (by rw [eg_266]; unfold pp_go; rw [if_pos (rQ_g0 hs_244 (ff_1 (ff_q (by omega) q9)))]; exact av_v) q9)
              refine lv_aload_n hx hb dX10_negation_100 rfl (lv_at hl 1 rfl) ?_
              refine ti_callVvE (ci := 10) (av := []) C hE hw (x_X10_sum l D A cy hJ M_257 iM_257 j a (d + 1) (by omega) (us_q (x := 21) (y := 30) u_92 (pr.trans (pr_w q_260 (by decide) (by decide)) (pr_w q_246 (by decide) (by decide))) (by omega)) (by omega) (by omega) (by omega) B n g_266 hs_258 lj hlj d_94 te_267 vs_268 ih) ⟨ml_X10_288, ym_X10_sum, yv_X10_sum, yi_X10_sum, yc_X10_sum⟩ yd_X10_sum ob_60 (by decide) rfl rfl hl.1 (Nat.le_of_ble_eq_true rfl) ⟨by simp only [ti_rm]; omega, by simp only [ti_rm]; omega⟩ ⟨Nat.zero_le _, Nat.zero_le _⟩ dX10_negation_101 (fun M_270 H locs hp_270 hw => ?_)
              obtain ⟨te_273, vs_274, hs_271, hp_272⟩ := hp_270
              obtain ⟨iM_270, q_275, p_276, p_277, p_278, p_279, p_280, p_281, p_282, p_283, p_284, p_285, p_286, p_287, p_288, u_289⟩ := hp_272
              obtain ⟨g_290, eg_290⟩ : ∃ z : Nat → Int, z = pp_sm B n (pp_pt B n j) g_266 := ⟨_, rfl⟩
              rw [← eg_290] at hs_271
              obtain ⟨d_291, ed_291⟩ : ∃ z : Nat → Int, z = qq_sm B n lj (pp_pt B n j) (qq_pt B n lj j) g_266 d_94 := ⟨_, rfl⟩
              rw [← ed_291] at te_273
              refine lv_aload_n hx hb dX10_negation_104 rfl (lv_at hl 1 rfl) ?_
              refine lv_iconst (v := 2) hx hb dX10_negation_105 (by decide) ?_
              refine lv_iload_n hx hb dX10_negation_106 rfl (lv_at hl 0 rfl) ?_
              refine ti_callVv (ci := 10) (av := [.int 2, .int x_102]) C hw (x_X10_puts l D A cy hJ M_270 iM_270 a (d + 1 + 1) (d + 1) 2 x_102 u_289 (nL (by omega)) (by first | exact Or.inr (Or.inr (Or.inl ⟨by decide, by omega, rfl⟩)) | exact nF (by omega))) ⟨ml_X10_282, ym_X10_puts, yv_X10_puts, yi_X10_puts, yc_X10_puts⟩ yd_X10_puts ob_60 (by decide) rfl rfl hl.1 (Nat.le_of_ble_eq_true rfl) ⟨by simp only [ti_rm]; omega, by simp only [ti_rm]; omega⟩ ⟨Nat.zero_le _, Nat.zero_le _⟩ dX10_negation_107 (fun M_293 H locs hp_293 hw => ?_)
              have piM_293 := (hp_293).2.2.2.2.1
              obtain ⟨puM_293, hqM_293⟩ := hp_293
              have hs_294 := rQ_pe hs_271 hqM_293.2.1 hqM_293.2.2.2.1
              obtain ⟨iM_293, q_295, u_296, z_297, z_298, z_299, z_300, z_301, z_302⟩ := l_pu iM_270 hqM_293
              clear hqM_293
              have te_304 : qE a (d + 1) lj (qa lj (-(bq_sc x_102.toInt)) d_291) M_293 := qE_pu hlj te_273 puM_293 (fun q9 => by have q8 := ff_1 q9; exact ⟨by unfold bq_kc; rw [if_pos (by decide)], fun q => absurd q (by decide)⟩) (fun q9 => by have q8 := ff_1 q9; exact Or.inr (Or.inl ⟨by decide, (by have yc := rQ_yc hs_74 (by omega) (by omega) (by omega); have T9 := rQ_T hs_74 (by omega); have w9 := T9.2.2.2.2.2.2 (by omega); have s9 := sg_260 (k := g_93 0) (by omega) T9.1.2; omega), by omega, rfl⟩))
              obtain ⟨d_303, ed_303⟩ : ∃ z : Nat → Int, z = qa lj (-(bq_sc x_102.toInt)) d_291 := ⟨_, rfl⟩
              rw [← ed_303] at te_304
              have vs_305 : vs M_293 := fun q9 q8 => by rw [piM_293 23 (by decide)] at q8; rw [piM_293 24 (by decide)]; exact vs_274 (by rw [← puM_293.1]; exact q9) q8
              exact hQ _ _ _ _ _ hw (⟨(fun q9 => by have q8 := ff_1 q9; have yc := rQ_yc hs_74 (by omega) (by omega) (by omega); rw [qng_no dk_3]; unfold qq_cm; rw [← eg_93, ← ed_94]; unfold qq_c2; rw [if_pos yc, ← kn_kg (rQ_g0 hs_74 (by omega)), ← eg_253, ← eg_266, ← ed_291, show -(g_93 0) = -(bq_sc x_102.toInt) from (by have T9 := pt_Tsg (rQ_T hs_74 (by omega)) (by omega); have s9 := sc_sg (g_93 0 - 29).toNat (by omega) (by omega); rw [show (29 : Int) + (((g_93 0 - 29).toNat : Nat) : Int) = g_93 0 by omega] at s9; rw [show x_102.toInt = pt_sg (g_93 0) by omega, s9]), ← ed_303]; exact te_304 q9), vs_305, (by rw [ng_no dk_3]; unfold pp_cm; rw [← eg_93]; unfold pp_c2; rw [if_pos (rQ_yc hs_74 (by omega) (by omega) (by omega)), ← kn_kg (rQ_g0 hs_74 (by omega)), ← eg_253, ← eg_266, ← eg_290]; exact hs_294), iM_293, (pe.trans q_295 (pe.trans q_275 (pe.trans (pe_pr q_260 (by decide) (by decide)) (pe.trans (pe_pr q_246 (by decide) (by decide)) q_78)))), (by omega), (by omega), (by omega), (by omega), (by omega), (by omega), (by omega), (by omega), (by omega), (by omega), (by omega), (by omega), (by omega), u_296⟩) dX10_negation_110
            · refine lv_aload_n hx hb dX10_negation_76 rfl (lv_at hl 0 rfl) ?_
              refine ti_get (ci := 10) (k := 24) (N := 67) (T := TX10) C hw iw_10 rfl ob_60 (by decide) (by decide) fl_X10_183 rfl rfl dX10_negation_77 ?_
              refine ti_top (y := x_102) (ex_102.symm) ?_
              have uqu_109 : (tI M_73 60 24).toInt = x_102.toInt := by rw [(ex_102.symm)]
              refine lv_sipush (v := 256) hx hb dX10_negation_80 (by decide) ?_
              refine sb_icmp_ge (tgt := 87) hx hb rfl (by decide : (256 : Int32).toInt = 256) dX10_negation_83 (by decide) (fun c_83_109 => ?_) (fun c_83_109 => ?_)
              · refine lv_aload_n hx hb dX10_negation_87 rfl (lv_at hl 0 rfl) ?_
                refine ti_get (ci := 10) (k := 24) (N := 67) (T := TX10) C hw iw_10 rfl ob_60 (by decide) (by decide) fl_X10_183 rfl rfl dX10_negation_88 ?_
                refine ti_top (y := x_102) (ex_102.symm) ?_
                have uqu_306 : (tI M_73 60 24).toInt = x_102.toInt := by rw [(ex_102.symm)]
                refine lv_istore_n (lv' := [(1, .int x_102), (0, .ref (A 60 0))]) hx hb dX10_negation_91 rfl hl (by decide) rfl (fun ls hl => ?_)
                refine lv_aload_n hx hb dX10_negation_92 rfl (lv_at hl 1 rfl) ?_
                refine ti_callVv (ci := 10) (av := []) C hw (x_X10_knot l D A cy hJ M_73 iM_73  B n g_93 hs_74) ⟨ml_X10_279, ym_X10_knot, yv_X10_knot, yi_X10_knot, yc_X10_knot⟩ yd_X10_knot ob_60 (by decide) rfl rfl hl.1 (Nat.le_of_ble_eq_true rfl) ⟨by simp only [ti_rm]; omega, by simp only [ti_rm]; omega⟩ ⟨Nat.zero_le _, Nat.zero_le _⟩ dX10_negation_93 (fun M_308 H locs hp_308 hw => ?_)
                obtain ⟨hs_309, hp_310⟩ := hp_308
                obtain ⟨iM_308, q_311, z_312, z_313, z_314, z_315, z_316, z_317⟩ := l_kn hp_310
                clear hp_310
                obtain ⟨g_318, eg_318⟩ : ∃ z : Nat → Int, z = pp_k1 g_93 := ⟨_, rfl⟩
                rw [← eg_318] at hs_309
                have te_319 : qE a (d + 1) lj d_94 M_308 := qE_fr te_76 q_311.1 (by omega)
                have vs_320 : vs M_308 := vs_fr vs_77 (by omega) (q_311.2 23 (by decide)) (q_311.2 24 (by decide))
                refine lv_aload_n hx hb dX10_negation_96 rfl (lv_at hl 1 rfl) ?_
                refine ti_callVvE (ci := 10) (av := []) C hE hw (x_X10_goOn l D A cy hJ M_308 iM_308  B n g_318 hs_309) ⟨ml_X10_267, ym_X10_goOn, yv_X10_goOn, yi_X10_goOn, yc_X10_goOn⟩ yd_X10_goOn ob_60 (by decide) rfl rfl hl.1 (Nat.le_of_ble_eq_true rfl) ⟨by simp only [ti_rm]; omega, by simp only [ti_rm]; omega⟩ ⟨Nat.zero_le _, Nat.zero_le _⟩ dX10_negation_97 (fun M_322 H locs hp_322 hw => ?_)
                obtain ⟨hs_323, hp_324⟩ := hp_322
                obtain ⟨iM_322, q_325, z_326, z_327, z_328, z_329, z_330⟩ := l_go hp_324
                clear hp_324
                obtain ⟨g_331, eg_331⟩ : ∃ z : Nat → Int, z = pp_go B n g_318 := ⟨_, rfl⟩
                rw [← eg_331] at hs_323
                have te_332 : qE a (d + 1) lj d_94 M_322 := qE_fr te_319 q_325.1 (by omega)
                have vs_333 : vs M_322 := (fun q9 => vs_av hs_323 (by rw [eg_331]; unfold pp_go; rw [if_pos (rQ_g0 hs_309 (ff_1 (ff_q (by omega) q9)))]; exact av_v) q9)
                refine lv_aload_n hx hb dX10_negation_100 rfl (lv_at hl 1 rfl) ?_
                refine ti_callVvE (ci := 10) (av := []) C hE hw (x_X10_sum l D A cy hJ M_322 iM_322 j a (d + 1) (by omega) (us_q (x := 21) (y := 30) u_92 (pr.trans (pr_w q_325 (by decide) (by decide)) (pr_w q_311 (by decide) (by decide))) (by omega)) (by omega) (by omega) (by omega) B n g_331 hs_323 lj hlj d_94 te_332 vs_333 ih) ⟨ml_X10_288, ym_X10_sum, yv_X10_sum, yi_X10_sum, yc_X10_sum⟩ yd_X10_sum ob_60 (by decide) rfl rfl hl.1 (Nat.le_of_ble_eq_true rfl) ⟨by simp only [ti_rm]; omega, by simp only [ti_rm]; omega⟩ ⟨Nat.zero_le _, Nat.zero_le _⟩ dX10_negation_101 (fun M_335 H locs hp_335 hw => ?_)
                obtain ⟨te_338, vs_339, hs_336, hp_337⟩ := hp_335
                obtain ⟨iM_335, q_340, p_341, p_342, p_343, p_344, p_345, p_346, p_347, p_348, p_349, p_350, p_351, p_352, p_353, u_354⟩ := hp_337
                obtain ⟨g_355, eg_355⟩ : ∃ z : Nat → Int, z = pp_sm B n (pp_pt B n j) g_331 := ⟨_, rfl⟩
                rw [← eg_355] at hs_336
                obtain ⟨d_356, ed_356⟩ : ∃ z : Nat → Int, z = qq_sm B n lj (pp_pt B n j) (qq_pt B n lj j) g_331 d_94 := ⟨_, rfl⟩
                rw [← ed_356] at te_338
                refine lv_aload_n hx hb dX10_negation_104 rfl (lv_at hl 1 rfl) ?_
                refine lv_iconst (v := 2) hx hb dX10_negation_105 (by decide) ?_
                refine lv_iload_n hx hb dX10_negation_106 rfl (lv_at hl 0 rfl) ?_
                refine ti_callVv (ci := 10) (av := [.int 2, .int x_102]) C hw (x_X10_puts l D A cy hJ M_335 iM_335 a (d + 1 + 1) (d + 1) 2 x_102 u_354 (nL (by omega)) (by first | exact Or.inr (Or.inr (Or.inl ⟨by decide, by omega, rfl⟩)) | exact nF (by omega))) ⟨ml_X10_282, ym_X10_puts, yv_X10_puts, yi_X10_puts, yc_X10_puts⟩ yd_X10_puts ob_60 (by decide) rfl rfl hl.1 (Nat.le_of_ble_eq_true rfl) ⟨by simp only [ti_rm]; omega, by simp only [ti_rm]; omega⟩ ⟨Nat.zero_le _, Nat.zero_le _⟩ dX10_negation_107 (fun M_358 H locs hp_358 hw => ?_)
                have piM_358 := (hp_358).2.2.2.2.1
                obtain ⟨puM_358, hqM_358⟩ := hp_358
                have hs_359 := rQ_pe hs_336 hqM_358.2.1 hqM_358.2.2.2.1
                obtain ⟨iM_358, q_360, u_361, z_362, z_363, z_364, z_365, z_366, z_367⟩ := l_pu iM_335 hqM_358
                clear hqM_358
                have te_369 : qE a (d + 1) lj (qa lj (-(bq_sc x_102.toInt)) d_356) M_358 := qE_pu hlj te_338 puM_358 (fun q9 => by have q8 := ff_1 q9; exact ⟨by unfold bq_kc; rw [if_pos (by decide)], fun q => absurd q (by decide)⟩) (fun q9 => by have q8 := ff_1 q9; exact Or.inr (Or.inl ⟨by decide, (by have yc := rQ_yc hs_74 (by omega) (by omega) (by omega); have T9 := rQ_T hs_74 (by omega); have w9 := T9.2.2.2.2.2.2 (by omega); have s9 := sg_260 (k := g_93 0) (by omega) T9.1.2; omega), by omega, rfl⟩))
                obtain ⟨d_368, ed_368⟩ : ∃ z : Nat → Int, z = qa lj (-(bq_sc x_102.toInt)) d_356 := ⟨_, rfl⟩
                rw [← ed_368] at te_369
                have vs_370 : vs M_358 := fun q9 q8 => by rw [piM_358 23 (by decide)] at q8; rw [piM_358 24 (by decide)]; exact vs_339 (by rw [← puM_358.1]; exact q9) q8
                exact hQ _ _ _ _ _ hw (⟨(fun q9 => by have q8 := ff_1 q9; have yc := rQ_yc hs_74 (by omega) (by omega) (by omega); rw [qng_no dk_3]; unfold qq_cm; rw [← eg_93, ← ed_94]; unfold qq_c2; rw [if_pos yc, ← kn_kg (rQ_g0 hs_74 (by omega)), ← eg_318, ← eg_331, ← ed_356, show -(g_93 0) = -(bq_sc x_102.toInt) from (by have T9 := pt_Tsg (rQ_T hs_74 (by omega)) (by omega); have s9 := sc_sg (g_93 0 - 29).toNat (by omega) (by omega); rw [show (29 : Int) + (((g_93 0 - 29).toNat : Nat) : Int) = g_93 0 by omega] at s9; rw [show x_102.toInt = pt_sg (g_93 0) by omega, s9]), ← ed_368]; exact te_369 q9), vs_370, (by rw [ng_no dk_3]; unfold pp_cm; rw [← eg_93]; unfold pp_c2; rw [if_pos (rQ_yc hs_74 (by omega) (by omega) (by omega)), ← kn_kg (rQ_g0 hs_74 (by omega)), ← eg_318, ← eg_331, ← eg_355]; exact hs_359), iM_358, (pe.trans q_360 (pe.trans q_340 (pe.trans (pe_pr q_325 (by decide) (by decide)) (pe.trans (pe_pr q_311 (by decide) (by decide)) q_78)))), (by omega), (by omega), (by omega), (by omega), (by omega), (by omega), (by omega), (by omega), (by omega), (by omega), (by omega), (by omega), (by omega), u_361⟩) dX10_negation_110
              · exact hQ _ _ _ _ _ hw (⟨(by rw [qng_no dk_3]; unfold qq_cm; rw [← eg_93, ← ed_94]; unfold qq_c2; rw [if_neg (rQ_nc hs_74 (by omega))]; exact te_76), vs_77, (by rw [ng_no dk_3]; unfold pp_cm; rw [← eg_93]; unfold pp_c2; rw [if_neg (rQ_nc hs_74 (by omega))]; exact hs_74), iM_73, q_78, (by omega), (by omega), (by omega), (by omega), (by omega), (by omega), (by omega), (by omega), (by omega), (by omega), (by omega), (by omega), (by omega), u_92⟩) dX10_negation_86
theorem x_X10_negation_n (j : Nat) (ih : ∀ i : Nat, i < j → ∀ (l : Launch) (D : va_G) (A : Nat → Nat → Nat) (cy : Nat → ClassId) (hJ : ti_inj ti_LM A) (M : ti_M) (hI : mI Tm M) (a d : Nat) (hj : i ≤ 8) (hu : us M a d) (hc : (tY M 60 3 18).toInt ≤ (tI M 60 30).toInt + 64 - 64 * ff M) (ho : (tI M 60 29).toInt + i ≤ 16 - 8 * ff M) (ho2 : 8 * ff M ≤ (tI M 60 29).toInt + i) (B : Nat → Int) (n : Nat) (rg : Nat → Int) (hr : rQ B n rg M) (lj : Nat) (hlj : lj < 3) (td : Nat → Int) (he : qE a d lj td M) (hvs : vs M), ti_KvE l yX10_expression cX10_expression 1 (78 + 71 * i) ti_LM D A cy M [.ref (A 60 0)] (fun M2 => qE a (d + 1) lj (qq_ei B n lj (pp_pt B n i) (qq_pt B n lj i) rg td) M2 ∧ vs M2 ∧ rQ B n (pp_ei B n (pp_pt B n i) rg) M2 ∧ mI Tm M2 ∧ pe M2 M ∧ (pg M ≤ pg M2) ∧ (0 ≤ ff M2) ∧ (ff M2 ≤ ff M) ∧ ((tI M 60 30).toInt ≤ (tI M2 60 30).toInt) ∧ ((tI M2 60 30).toInt ≤ 64) ∧ ((tI M2 60 29).toInt ≤ (tI M 60 29).toInt + 8 - 8 * ff M2) ∧ ((tI M 60 29).toInt ≤ (tI M2 60 29).toInt + 8 - 8 * ff M2) ∧ ((tI M2 60 30).toInt - (tY M2 60 3 18).toInt ≤ (tI M 60 30).toInt - (tY M 60 3 18).toInt + 200 - 200 * ff M2) ∧ ((tI M 60 30).toInt - (tY M 60 3 18).toInt ≤ (tI M2 60 30).toInt - (tY M2 60 3 18).toInt + 200 - 200 * ff M2) ∧ (0 ≤ (tY M2 60 3 18).toInt) ∧ ((tY M2 60 3 18).toInt ≤ 64) ∧ (0 ≤ (tI M2 60 29).toInt) ∧ ((tI M2 60 29).toInt ≤ 8) ∧ us M2 a (d + 1))) : ∀ nn : Nat, ∀ (l : Launch) (D : va_G) (A : Nat → Nat → Nat) (cy : Nat → ClassId) (hJ : ti_inj ti_LM A) (M : ti_M) (hI : mI Tm M) (a d : Nat) (hj : j ≤ 8) (hu : us M a d) (hc : (tY M 60 3 18).toInt ≤ (tI M 60 30).toInt + 64 - 64 * ff M) (ho : (tI M 60 29).toInt + j ≤ 16 - 8 * ff M) (ho2 : 8 * ff M ≤ (tI M 60 29).toInt + j) (B : Nat → Int) (n : Nat) (rg : Nat → Int) (hr : rQ B n rg M) (lj : Nat) (hlj : lj < 3) (td : Nat → Int) (he : qE a d lj td M) (hvs : vs M) (hn : 64 - (tI M 60 30).toInt + ff M ≤ nn), ti_KvE l yX10_negation cX10_negation 2 (11 + 71 * j + nn) ti_LM D A cy M [.ref (A 60 0)] (fun M2 => qE a (d + 1) lj (qq_ng B n lj (pp_pt B n j) (qq_pt B n lj j) rg td) M2 ∧ vs M2 ∧ rQ B n (pp_ng B n (pp_pt B n j) rg) M2 ∧ mI Tm M2 ∧ pe M2 M ∧ (pg M ≤ pg M2) ∧ (0 ≤ ff M2) ∧ (ff M2 ≤ ff M) ∧ ((tI M 60 30).toInt ≤ (tI M2 60 30).toInt) ∧ ((tI M2 60 30).toInt ≤ 64) ∧ ((tI M2 60 29).toInt ≤ (tI M 60 29).toInt + 8 - 8 * ff M2) ∧ ((tI M 60 29).toInt ≤ (tI M2 60 29).toInt + 8 - 8 * ff M2) ∧ ((tI M2 60 30).toInt - (tY M2 60 3 18).toInt ≤ (tI M 60 30).toInt - (tY M 60 3 18).toInt + 200 - 200 * ff M2) ∧ ((tI M 60 30).toInt - (tY M 60 3 18).toInt ≤ (tI M2 60 30).toInt - (tY M2 60 3 18).toInt + 200 - 200 * ff M2) ∧ (0 ≤ (tY M2 60 3 18).toInt) ∧ ((tY M2 60 3 18).toInt ≤ 64) ∧ (0 ≤ (tI M2 60 29).toInt) ∧ ((tI M2 60 29).toInt ≤ 8) ∧ us M2 a (d + 1)) := by
  intro nn
  induction nn using Nat.strongRecOn with
  | ind nn ihn =>
    intro l D A cy hJ M hI a d hj hu hc ho ho2 B n rg hr lj hlj td he hvs hn
    exact x_X10_negation_s l D A cy hJ M hI j a d hj hu hc ho ho2 B n rg hr lj hlj td he hvs ih nn hn ihn
set_option maxHeartbeats 4000000 in
set_option maxRecDepth 100000 in
theorem x_X10_conjunction (l : Launch) (D : va_G) (A : Nat → Nat → Nat) (cy : Nat → ClassId) (hJ : ti_inj ti_LM A) (M : ti_M) (hI : mI Tm M) (j a d : Nat) (hj : j ≤ 8) (hu : us M a d) (hc : (tY M 60 3 18).toInt ≤ (tI M 60 30).toInt + 64 - 64 * ff M) (ho : (tI M 60 29).toInt + j ≤ 16 - 8 * ff M) (ho2 : 8 * ff M ≤ (tI M 60 29).toInt + j) (B : Nat → Int) (n : Nat) (rg : Nat → Int) (hr : rQ B n rg M) (lj : Nat) (hlj : lj < 3) (td : Nat → Int) (he : qE a d lj td M) (hvs : vs M) (ih : ∀ i : Nat, i < j → ∀ (l : Launch) (D : va_G) (A : Nat → Nat → Nat) (cy : Nat → ClassId) (hJ : ti_inj ti_LM A) (M : ti_M) (hI : mI Tm M) (a d : Nat) (hj : i ≤ 8) (hu : us M a d) (hc : (tY M 60 3 18).toInt ≤ (tI M 60 30).toInt + 64 - 64 * ff M) (ho : (tI M 60 29).toInt + i ≤ 16 - 8 * ff M) (ho2 : 8 * ff M ≤ (tI M 60 29).toInt + i) (B : Nat → Int) (n : Nat) (rg : Nat → Int) (hr : rQ B n rg M) (lj : Nat) (hlj : lj < 3) (td : Nat → Int) (he : qE a d lj td M) (hvs : vs M), ti_KvE l yX10_expression cX10_expression 1 (78 + 71 * i) ti_LM D A cy M [.ref (A 60 0)] (fun M2 => qE a (d + 1) lj (qq_ei B n lj (pp_pt B n i) (qq_pt B n lj i) rg td) M2 ∧ vs M2 ∧ rQ B n (pp_ei B n (pp_pt B n i) rg) M2 ∧ mI Tm M2 ∧ pe M2 M ∧ (pg M ≤ pg M2) ∧ (0 ≤ ff M2) ∧ (ff M2 ≤ ff M) ∧ ((tI M 60 30).toInt ≤ (tI M2 60 30).toInt) ∧ ((tI M2 60 30).toInt ≤ 64) ∧ ((tI M2 60 29).toInt ≤ (tI M 60 29).toInt + 8 - 8 * ff M2) ∧ ((tI M 60 29).toInt ≤ (tI M2 60 29).toInt + 8 - 8 * ff M2) ∧ ((tI M2 60 30).toInt - (tY M2 60 3 18).toInt ≤ (tI M 60 30).toInt - (tY M 60 3 18).toInt + 200 - 200 * ff M2) ∧ ((tI M 60 30).toInt - (tY M 60 3 18).toInt ≤ (tI M2 60 30).toInt - (tY M2 60 3 18).toInt + 200 - 200 * ff M2) ∧ (0 ≤ (tY M2 60 3 18).toInt) ∧ ((tY M2 60 3 18).toInt ≤ 64) ∧ (0 ≤ (tI M2 60 29).toInt) ∧ ((tI M2 60 29).toInt ≤ 8) ∧ us M2 a (d + 1))) : ti_KvE l yX10_conjunction cX10_conjunction 1 (77 + 71 * j) ti_LM D A cy M [.ref (A 60 0)] (fun M2 => qE a (d + 1) lj (qq_bo B n lj (pp_pt B n j) (qq_pt B n lj j) rg td) M2 ∧ vs M2 ∧ rQ B n (pp_bo B n (pp_pt B n j) rg) M2 ∧ mI Tm M2 ∧ pe M2 M ∧ (pg M ≤ pg M2) ∧ (0 ≤ ff M2) ∧ (ff M2 ≤ ff M) ∧ ((tI M 60 30).toInt ≤ (tI M2 60 30).toInt) ∧ ((tI M2 60 30).toInt ≤ 64) ∧ ((tI M2 60 29).toInt ≤ (tI M 60 29).toInt + 8 - 8 * ff M2) ∧ ((tI M 60 29).toInt ≤ (tI M2 60 29).toInt + 8 - 8 * ff M2) ∧ ((tI M2 60 30).toInt - (tY M2 60 3 18).toInt ≤ (tI M 60 30).toInt - (tY M 60 3 18).toInt + 200 - 200 * ff M2) ∧ ((tI M 60 30).toInt - (tY M 60 3 18).toInt ≤ (tI M2 60 30).toInt - (tY M2 60 3 18).toInt + 200 - 200 * ff M2) ∧ (0 ≤ (tY M2 60 3 18).toInt) ∧ ((tY M2 60 3 18).toInt ≤ 64) ∧ (0 ≤ (tI M2 60 29).toInt) ∧ ((tI M2 60 29).toInt ≤ 8) ∧ us M2 a (d + 1)) := by
  refine ti_eVE yp_X10_conjunction hJ ti_LM_nd (Nat.le_of_ble_eq_true rfl) ?_
  intro p e s m args below meth c Q H0 C hE hQ hw ls hl
  have hx := C.1
  have hb := C.2.1
  have hl : lv_has ls 1 [(0, .ref (A 60 0))] := hl
  have hI30 := b30 hI
  have hI29 := b29 hI
  have hI18 := b18 hI
  have hIff := ff_b M
  refine lv_aload_n hx hb dX10_conjunction_0 rfl (lv_at hl 0 rfl) ?_
  refine ti_callVvE (ci := 10) (av := []) C hE hw (x_X10_negation_n j ih 65 l D A cy hJ M hI a (d) (by omega) hu (by omega) (by omega) (by omega) B n rg hr lj hlj td he hvs (by omega)) ⟨ml_X10_285, ym_X10_negation, yv_X10_negation, yi_X10_negation, yc_X10_negation⟩ yd_X10_negation ob_60 (by decide) rfl rfl hl.1 (Nat.le_of_ble_eq_true rfl) ⟨by simp only [ti_rm]; omega, by simp only [ti_rm]; omega⟩ ⟨Nat.zero_le _, Nat.zero_le _⟩ dX10_conjunction_1 (fun M_2 H locs hp_2 hw => ?_)
  obtain ⟨te_5, vs_6, hs_3, hp_4⟩ := hp_2
  obtain ⟨iM_2, q_7, p_8, p_9, p_10, p_11, p_12, p_13, p_14, p_15, p_16, p_17, p_18, p_19, p_20, u_21⟩ := hp_4
  obtain ⟨g_22, eg_22⟩ : ∃ z : Nat → Int, z = pp_ng B n (pp_pt B n j) rg := ⟨_, rfl⟩
  rw [← eg_22] at hs_3
  obtain ⟨d_23, ed_23⟩ : ∃ z : Nat → Int, z = qq_ng B n lj (pp_pt B n j) (qq_pt B n lj j) rg td := ⟨_, rfl⟩
  rw [← ed_23] at te_5
  have hl_4_47 : ∀ (n_48 : Nat) (M_24 : ti_M) (g_26 : Nat → Int) (d_28 : Nat → Int) (H : Heap) (locs : List Loc) (ls : Array Slot), (64 - (tI M_24 60 30).toInt + ff M_24 : Int).toNat < n_48 → (mI Tm M_24) → (pe M_24 M) → (rQ B n g_26 M_24) → (qE a (d + 1) lj d_28 M_24) → (vs M_24) → (us M_24 a (d + 1)) → (pp_bo B n (pp_pt B n j) rg = pp_lp pp_qA (fun s => pp_ng B n (pp_pt B n j) (pp_kn B n s)) 64 g_26) → (qq_bo B n lj (pp_pt B n j) (qq_pt B n lj j) rg td = qq_lp pp_qA (fun s => pp_ng B n (pp_pt B n j) (pp_kn B n s)) (fun s td => qa lj (-22) (qq_ng B n lj (pp_pt B n j) (qq_pt B n lj j) (pp_kn B n s) td)) 64 g_26 d_28) → (g_26 0 = 28 ∨ (1 ≤ g_26 8 ∧ g_26 8 ≤ 64)) → (pg M ≤ pg M_24) → (0 ≤ ff M_24) → (ff M_24 ≤ ff M) → ((tI M 60 30).toInt ≤ (tI M_24 60 30).toInt) → ((tI M_24 60 30).toInt ≤ 64) → ((tI M_24 60 29).toInt ≤ (tI M 60 29).toInt + 8 - 8 * ff M_24) → ((tI M 60 29).toInt ≤ (tI M_24 60 29).toInt + 8 - 8 * ff M_24) → ((tI M_24 60 30).toInt - (tY M_24 60 3 18).toInt ≤ (tI M 60 30).toInt - (tY M 60 3 18).toInt + 200 - 200 * ff M_24) → ((tI M 60 30).toInt - (tY M 60 3 18).toInt ≤ (tI M_24 60 30).toInt - (tY M_24 60 3 18).toInt + 200 - 200 * ff M_24) → (0 ≤ (tY M_24 60 3 18).toInt) → ((tY M_24 60 3 18).toInt ≤ 64) → (0 ≤ (tI M_24 60 29).toInt) → ((tI M_24 60 29).toInt ≤ 8) → ti_H ti_LM D A cy H0 M_24 H locs → lv_has ls 1 [(0, .ref (A 60 0))] → W p l e (ti_rm (77 + 71 * j)) s m args below meth c H locs 0 0 Q (F0 m 4 ls []) := by
    intro n_48
    induction n_48 with
    | zero => intro M_24 g_26 d_28 H locs ls hf_48; exact absurd hf_48 (Nat.not_lt_zero _)
    | succ n_48 ih_48 =>
      intro M_24 g_26 d_28 H locs ls hf_48 iM_24 f_25 hs_27 te_29 vs_30 j_31 j_32 j_33 j_34 j_35 j_36 j_37 j_38 j_39 j_40 j_41 j_42 j_43 j_44 j_45 j_46 j_47 hw hl
      refine lv_aload_n hx hb dX10_conjunction_4 rfl (lv_at hl 0 rfl) ?_
      refine lv_bipush (v := 17) hx hb dX10_conjunction_5 (by decide) ?_
      refine ti_callVi (ci := 10) (av := [.int 17]) C hw (x_X10_isWord l D A cy hJ M_24 iM_24 17) ⟨ml_X10_261, ym_X10_isWord, yv_X10_isWord, yi_X10_isWord, yc_X10_isWord⟩ yd_X10_isWord ob_60 (by decide) rfl rfl hl.1 (Nat.le_of_ble_eq_true rfl) ⟨by simp only [ti_rm]; omega, by simp only [ti_rm]; omega⟩ ⟨Nat.zero_le _, Nat.zero_le _⟩ dX10_conjunction_7 (fun r_49 M_50 H locs hp_50 hw => ?_)
      obtain ⟨hm, hz⟩ := hp_50
      have hw := hw.to hm
      rcases hz with ⟨rfl, d0_51, d1_51, d2_51⟩ | ⟨rfl, d3_51⟩
      · have dk_51 := rQ_w1 (k := 22) hs_27 d0_51 d1_51 d2_51 (by decide)
        have z_52 : ff M_24 = 1 := ff_1 d0_51
        have z_53 : pg M_24 = 2 * (tI M_24 60 21).toInt := pg_3 (by rw [d1_51]; decide)
        clear d0_51 d1_51 d2_51
        refine sb_if_eq (tgt := 36) hx hb (by decide : (1 : Int32).toInt = 1) dX10_conjunction_10 (by decide) (fun h => absurd h (by decide)) (fun c_10_53 => ?_)
        refine lv_aload_n hx hb dX10_conjunction_13 rfl (lv_at hl 0 rfl) ?_
        refine ti_callVv (ci := 10) (av := []) C hw (x_X10_knot l D A cy hJ M_24 iM_24  B n g_26 hs_27) ⟨ml_X10_279, ym_X10_knot, yv_X10_knot, yi_X10_knot, yc_X10_knot⟩ yd_X10_knot ob_60 (by decide) rfl rfl hl.1 (Nat.le_of_ble_eq_true rfl) ⟨by simp only [ti_rm]; omega, by simp only [ti_rm]; omega⟩ ⟨Nat.zero_le _, Nat.zero_le _⟩ dX10_conjunction_14 (fun M_57 H locs hp_57 hw => ?_)
        obtain ⟨hs_58, hp_59⟩ := hp_57
        obtain ⟨iM_57, q_60, z_61, z_62, z_63, z_64, z_65, z_66⟩ := l_kn hp_59
        clear hp_59
        obtain ⟨g_67, eg_67⟩ : ∃ z : Nat → Int, z = pp_k1 g_26 := ⟨_, rfl⟩
        rw [← eg_67] at hs_58
        have te_68 : qE a (d + 1) lj d_28 M_57 := qE_fr te_29 q_60.1 (by omega)
        have vs_69 : vs M_57 := vs_fr vs_30 (by omega) (q_60.2 23 (by decide)) (q_60.2 24 (by decide))
        refine lv_aload_n hx hb dX10_conjunction_17 rfl (lv_at hl 0 rfl) ?_
        refine ti_callVvE (ci := 10) (av := []) C hE hw (x_X10_goOn l D A cy hJ M_57 iM_57  B n g_67 hs_58) ⟨ml_X10_267, ym_X10_goOn, yv_X10_goOn, yi_X10_goOn, yc_X10_goOn⟩ yd_X10_goOn ob_60 (by decide) rfl rfl hl.1 (Nat.le_of_ble_eq_true rfl) ⟨by simp only [ti_rm]; omega, by simp only [ti_rm]; omega⟩ ⟨Nat.zero_le _, Nat.zero_le _⟩ dX10_conjunction_18 (fun M_71 H locs hp_71 hw => ?_)
        obtain ⟨hs_72, hp_73⟩ := hp_71
        obtain ⟨iM_71, q_74, z_75, z_76, z_77, z_78, z_79⟩ := l_go hp_73
        clear hp_73
        obtain ⟨g_80, eg_80⟩ : ∃ z : Nat → Int, z = pp_go B n g_67 := ⟨_, rfl⟩
        rw [← eg_80] at hs_72
        have te_81 : qE a (d + 1) lj d_28 M_71 := qE_fr te_68 q_74.1 (by omega)
        have vs_82 : vs M_71 := (fun q9 => vs_av hs_72 (by rw [eg_80]; unfold pp_go; rw [if_pos (rQ_g0 hs_58 (ff_1 (ff_q (by omega) q9)))]; exact av_v) q9)
        refine lv_aload_n hx hb dX10_conjunction_21 rfl (lv_at hl 0 rfl) ?_
        refine ti_callVvE (ci := 10) (av := []) C hE hw (x_X10_negation_n j ih 65 l D A cy hJ M_71 iM_71 a (d + 1) (by omega) (us_q (x := 21) (y := 30) j_31 (pr.trans (pr_w q_74 (by decide) (by decide)) (pr_w q_60 (by decide) (by decide))) (by omega)) (by omega) (by omega) (by omega) B n g_80 hs_72 lj hlj d_28 te_81 vs_82 (by omega)) ⟨ml_X10_285, ym_X10_negation, yv_X10_negation, yi_X10_negation, yc_X10_negation⟩ yd_X10_negation ob_60 (by decide) rfl rfl hl.1 (Nat.le_of_ble_eq_true rfl) ⟨by simp only [ti_rm]; omega, by simp only [ti_rm]; omega⟩ ⟨Nat.zero_le _, Nat.zero_le _⟩ dX10_conjunction_22 (fun M_84 H locs hp_84 hw => ?_)
        obtain ⟨te_87, vs_88, hs_85, hp_86⟩ := hp_84
        obtain ⟨iM_84, q_89, p_90, p_91, p_92, p_93, p_94, p_95, p_96, p_97, p_98, p_99, p_100, p_101, p_102, u_103⟩ := hp_86
        obtain ⟨g_104, eg_104⟩ : ∃ z : Nat → Int, z = pp_ng B n (pp_pt B n j) g_80 := ⟨_, rfl⟩
        rw [← eg_104] at hs_85
        obtain ⟨d_105, ed_105⟩ : ∃ z : Nat → Int, z = qq_ng B n lj (pp_pt B n j) (qq_pt B n lj j) g_80 d_28 := ⟨_, rfl⟩
        rw [← ed_105] at te_87
        refine lv_aload_n hx hb dX10_conjunction_25 rfl (lv_at hl 0 rfl) ?_
        refine lv_iconst (v := 2) hx hb dX10_conjunction_26 (by decide) ?_
        refine lv_sipush (v := 261) hx hb dX10_conjunction_27 (by decide) ?_
        refine ti_callVv (ci := 10) (av := [.int 2, .int 261]) C hw (x_X10_puts l D A cy hJ M_84 iM_84 a (d + 1 + 1) (d + 1) 2 261 u_103 (nL (by omega)) (by first | exact Or.inr (Or.inr (Or.inl ⟨by decide, by omega, rfl⟩)) | exact nF (by omega))) ⟨ml_X10_282, ym_X10_puts, yv_X10_puts, yi_X10_puts, yc_X10_puts⟩ yd_X10_puts ob_60 (by decide) rfl rfl hl.1 (Nat.le_of_ble_eq_true rfl) ⟨by simp only [ti_rm]; omega, by simp only [ti_rm]; omega⟩ ⟨Nat.zero_le _, Nat.zero_le _⟩ dX10_conjunction_30 (fun M_107 H locs hp_107 hw => ?_)
        have piM_107 := (hp_107).2.2.2.2.1
        obtain ⟨puM_107, hqM_107⟩ := hp_107
        have hs_108 := rQ_pe hs_85 hqM_107.2.1 hqM_107.2.2.2.1
        obtain ⟨iM_107, q_109, u_110, z_111, z_112, z_113, z_114, z_115, z_116⟩ := l_pu iM_84 hqM_107
        clear hqM_107
        have te_118 : qE a (d + 1) lj (qa lj (-22) d_105) M_107 := qE_pu hlj te_87 puM_107 (fun q9 => by have q8 := ff_1 q9; exact ⟨by decide, fun q => absurd q (by decide)⟩) (fun q9 => by have q8 := ff_1 q9; exact Or.inr (Or.inl ⟨by decide, by decide, by omega, rfl⟩))
        obtain ⟨d_117, ed_117⟩ : ∃ z : Nat → Int, z = qa lj (-22) d_105 := ⟨_, rfl⟩
        rw [← ed_117] at te_118
        have vs_119 : vs M_107 := fun q9 q8 => by rw [piM_107 23 (by decide)] at q8; rw [piM_107 24 (by decide)]; exact vs_88 (by rw [← puM_107.1]; exact q9) q8
        refine lv_goto (tgt := 4) hx hb dX10_conjunction_33 (by decide) ?_
        exact ih_48 M_107 g_104 d_117 _ _ _ (by omega) iM_107 (pe.trans q_109 (pe.trans q_89 (pe.trans (pe_pr q_74 (by decide) (by decide)) (pe.trans (pe_pr q_60 (by decide) (by decide)) f_25)))) hs_108 te_118 vs_119 u_110 (j_32.trans (lp_nx (P := pp_qA) (G := fun s => pp_ng B n (pp_pt B n j) (pp_kn B n s)) (s := g_26) (by decide) (gr_kn (gr_ng (gr_pt j))) 63 (show pp_qA (g_26 0) = true from decide_eq_true (by omega)) (by rw [eg_104, eg_80, eg_67, kn_kg (rQ_g0 hs_27 (by omega))]) (by omega) (by omega))) (j_33.trans (qlp_nx (P := pp_qA) (F := fun s => pp_ng B n (pp_pt B n j) (pp_kn B n s)) (G := fun s td => qa lj (-22) (qq_ng B n lj (pp_pt B n j) (qq_pt B n lj j) (pp_kn B n s) td)) (s := g_26) (by decide) (gr_kn (gr_ng (gr_pt j))) 63 (show pp_qA (g_26 0) = true from decide_eq_true (by omega)) (by rw [eg_104, eg_80, eg_67, kn_kg (rQ_g0 hs_27 (by omega))]) (by rw [ed_117, ed_105, eg_80, eg_67, kn_kg (rQ_g0 hs_27 (by omega))]) (by omega) (by omega))) (by rw [eg_104]; exact rQ_gr (gr_ng (gr_pt j)) hs_72 iM_71) (by first | omega | decide) (by first | omega | decide) (by first | omega | decide) (by first | omega | decide) (by first | omega | decide) (by first | omega | decide) (by first | omega | decide) (by first | omega | decide) (by first | omega | decide) (by first | omega | decide) (by first | omega | decide) (by first | omega | decide) (by first | omega | decide) hw (lv_sub hl [0] rfl)
      · have dk_51 := rQ_w0 (k := 22) hs_27 d3_51 (by decide) (by decide)
        clear d3_51
        refine sb_if_eq (tgt := 36) hx hb (by decide : (0 : Int32).toInt = 0) dX10_conjunction_10 (by decide) (fun c_10_54 => ?_) (fun h => absurd h (by decide))
        exact hQ _ _ _ _ _ hw (⟨(by rw [j_33, qlp_end (P := pp_qA) (f := 64) (s := g_26) (Or.inr (decide_eq_false (by omega)))]; exact te_29), vs_30, (by rw [j_32, lp_end (P := pp_qA) (f := 64) (s := g_26) (Or.inr (decide_eq_false (by omega)))]; exact hs_27), iM_24, f_25, (by omega), (by omega), (by omega), (by omega), (by omega), (by omega), (by omega), (by omega), (by omega), (by omega), (by omega), (by omega), (by omega), j_31⟩) dX10_conjunction_36
  exact hl_4_47 ((64 - (tI M_2 60 30).toInt + ff M_2 : Int).toNat + 1) M_2 g_22 d_23 _ _ _ (Nat.lt_succ_self _) iM_2 q_7 hs_3 te_5 vs_6 u_21 (by unfold pp_bo; rw [← eg_22]) (by unfold qq_bo; rw [← eg_22, ← ed_23]) (by rw [eg_22]; exact rQ_gr (gr_ng (gr_pt j)) hr hI) (by first | omega | decide) (by first | omega | decide) (by first | omega | decide) (by first | omega | decide) (by first | omega | decide) (by first | omega | decide) (by first | omega | decide) (by first | omega | decide) (by first | omega | decide) (by first | omega | decide) (by first | omega | decide) (by first | omega | decide) (by first | omega | decide) hw (lv_sub hl [0] rfl)
set_option maxHeartbeats 4000000 in
set_option maxRecDepth 100000 in
theorem x_X10_expression_s (l : Launch) (D : va_G) (A : Nat → Nat → Nat) (cy : Nat → ClassId) (hJ : ti_inj ti_LM A) (M : ti_M) (hI : mI Tm M) (j a d : Nat) (hj : j ≤ 8) (hu : us M a d) (hc : (tY M 60 3 18).toInt ≤ (tI M 60 30).toInt + 64 - 64 * ff M) (ho : (tI M 60 29).toInt + j ≤ 16 - 8 * ff M) (ho2 : 8 * ff M ≤ (tI M 60 29).toInt + j) (B : Nat → Int) (n : Nat) (rg : Nat → Int) (hr : rQ B n rg M) (lj : Nat) (hlj : lj < 3) (td : Nat → Int) (he : qE a d lj td M) (hvs : vs M) (ih : ∀ i : Nat, i < j → ∀ (l : Launch) (D : va_G) (A : Nat → Nat → Nat) (cy : Nat → ClassId) (hJ : ti_inj ti_LM A) (M : ti_M) (hI : mI Tm M) (a d : Nat) (hj : i ≤ 8) (hu : us M a d) (hc : (tY M 60 3 18).toInt ≤ (tI M 60 30).toInt + 64 - 64 * ff M) (ho : (tI M 60 29).toInt + i ≤ 16 - 8 * ff M) (ho2 : 8 * ff M ≤ (tI M 60 29).toInt + i) (B : Nat → Int) (n : Nat) (rg : Nat → Int) (hr : rQ B n rg M) (lj : Nat) (hlj : lj < 3) (td : Nat → Int) (he : qE a d lj td M) (hvs : vs M), ti_KvE l yX10_expression cX10_expression 1 (78 + 71 * i) ti_LM D A cy M [.ref (A 60 0)] (fun M2 => qE a (d + 1) lj (qq_ei B n lj (pp_pt B n i) (qq_pt B n lj i) rg td) M2 ∧ vs M2 ∧ rQ B n (pp_ei B n (pp_pt B n i) rg) M2 ∧ mI Tm M2 ∧ pe M2 M ∧ (pg M ≤ pg M2) ∧ (0 ≤ ff M2) ∧ (ff M2 ≤ ff M) ∧ ((tI M 60 30).toInt ≤ (tI M2 60 30).toInt) ∧ ((tI M2 60 30).toInt ≤ 64) ∧ ((tI M2 60 29).toInt ≤ (tI M 60 29).toInt + 8 - 8 * ff M2) ∧ ((tI M 60 29).toInt ≤ (tI M2 60 29).toInt + 8 - 8 * ff M2) ∧ ((tI M2 60 30).toInt - (tY M2 60 3 18).toInt ≤ (tI M 60 30).toInt - (tY M 60 3 18).toInt + 200 - 200 * ff M2) ∧ ((tI M 60 30).toInt - (tY M 60 3 18).toInt ≤ (tI M2 60 30).toInt - (tY M2 60 3 18).toInt + 200 - 200 * ff M2) ∧ (0 ≤ (tY M2 60 3 18).toInt) ∧ ((tY M2 60 3 18).toInt ≤ 64) ∧ (0 ≤ (tI M2 60 29).toInt) ∧ ((tI M2 60 29).toInt ≤ 8) ∧ us M2 a (d + 1))) : ti_KvE l yX10_expression cX10_expression 1 (78 + 71 * j) ti_LM D A cy M [.ref (A 60 0)] (fun M2 => qE a (d + 1) lj (qq_ei B n lj (pp_pt B n j) (qq_pt B n lj j) rg td) M2 ∧ vs M2 ∧ rQ B n (pp_ei B n (pp_pt B n j) rg) M2 ∧ mI Tm M2 ∧ pe M2 M ∧ (pg M ≤ pg M2) ∧ (0 ≤ ff M2) ∧ (ff M2 ≤ ff M) ∧ ((tI M 60 30).toInt ≤ (tI M2 60 30).toInt) ∧ ((tI M2 60 30).toInt ≤ 64) ∧ ((tI M2 60 29).toInt ≤ (tI M 60 29).toInt + 8 - 8 * ff M2) ∧ ((tI M 60 29).toInt ≤ (tI M2 60 29).toInt + 8 - 8 * ff M2) ∧ ((tI M2 60 30).toInt - (tY M2 60 3 18).toInt ≤ (tI M 60 30).toInt - (tY M 60 3 18).toInt + 200 - 200 * ff M2) ∧ ((tI M 60 30).toInt - (tY M 60 3 18).toInt ≤ (tI M2 60 30).toInt - (tY M2 60 3 18).toInt + 200 - 200 * ff M2) ∧ (0 ≤ (tY M2 60 3 18).toInt) ∧ ((tY M2 60 3 18).toInt ≤ 64) ∧ (0 ≤ (tI M2 60 29).toInt) ∧ ((tI M2 60 29).toInt ≤ 8) ∧ us M2 a (d + 1)) := by
  refine ti_eVE yp_X10_expression hJ ti_LM_nd (Nat.le_of_ble_eq_true rfl) ?_
  intro p e s m args below meth c Q H0 C hE hQ hw ls hl
  have hx := C.1
  have hb := C.2.1
  have hl : lv_has ls 1 [(0, .ref (A 60 0))] := hl
  have hI30 := b30 hI
  have hI29 := b29 hI
  have hI18 := b18 hI
  have hIff := ff_b M
  refine lv_aload_n hx hb dX10_expression_0 rfl (lv_at hl 0 rfl) ?_
  refine ti_callVvE (ci := 10) (av := []) C hE hw (x_X10_conjunction l D A cy hJ M hI j a (d) (by omega) hu (by omega) (by omega) (by omega) B n rg hr lj hlj td he hvs ih) ⟨ml_X10_276, ym_X10_conjunction, yv_X10_conjunction, yi_X10_conjunction, yc_X10_conjunction⟩ yd_X10_conjunction ob_60 (by decide) rfl rfl hl.1 (Nat.le_of_ble_eq_true rfl) ⟨by simp only [ti_rm]; omega, by simp only [ti_rm]; omega⟩ ⟨Nat.zero_le _, Nat.zero_le _⟩ dX10_expression_1 (fun M_2 H locs hp_2 hw => ?_)
  obtain ⟨te_5, vs_6, hs_3, hp_4⟩ := hp_2
  obtain ⟨iM_2, q_7, p_8, p_9, p_10, p_11, p_12, p_13, p_14, p_15, p_16, p_17, p_18, p_19, p_20, u_21⟩ := hp_4
  obtain ⟨g_22, eg_22⟩ : ∃ z : Nat → Int, z = pp_bo B n (pp_pt B n j) rg := ⟨_, rfl⟩
  rw [← eg_22] at hs_3
  obtain ⟨d_23, ed_23⟩ : ∃ z : Nat → Int, z = qq_bo B n lj (pp_pt B n j) (qq_pt B n lj j) rg td := ⟨_, rfl⟩
  rw [← ed_23] at te_5
  have hl_4_47 : ∀ (n_48 : Nat) (M_24 : ti_M) (g_26 : Nat → Int) (d_28 : Nat → Int) (H : Heap) (locs : List Loc) (ls : Array Slot), (64 - (tI M_24 60 30).toInt + ff M_24 : Int).toNat < n_48 → (mI Tm M_24) → (pe M_24 M) → (rQ B n g_26 M_24) → (qE a (d + 1) lj d_28 M_24) → (vs M_24) → (us M_24 a (d + 1)) → (pp_ei B n (pp_pt B n j) rg = pp_lp pp_qO (fun s => pp_bo B n (pp_pt B n j) (pp_kn B n s)) 64 g_26) → (qq_ei B n lj (pp_pt B n j) (qq_pt B n lj j) rg td = qq_lp pp_qO (fun s => pp_bo B n (pp_pt B n j) (pp_kn B n s)) (fun s td => qa lj (-23) (qq_bo B n lj (pp_pt B n j) (qq_pt B n lj j) (pp_kn B n s) td)) 64 g_26 d_28) → (g_26 0 = 28 ∨ (1 ≤ g_26 8 ∧ g_26 8 ≤ 64)) → (pg M ≤ pg M_24) → (0 ≤ ff M_24) → (ff M_24 ≤ ff M) → ((tI M 60 30).toInt ≤ (tI M_24 60 30).toInt) → ((tI M_24 60 30).toInt ≤ 64) → ((tI M_24 60 29).toInt ≤ (tI M 60 29).toInt + 8 - 8 * ff M_24) → ((tI M 60 29).toInt ≤ (tI M_24 60 29).toInt + 8 - 8 * ff M_24) → ((tI M_24 60 30).toInt - (tY M_24 60 3 18).toInt ≤ (tI M 60 30).toInt - (tY M 60 3 18).toInt + 200 - 200 * ff M_24) → ((tI M 60 30).toInt - (tY M 60 3 18).toInt ≤ (tI M_24 60 30).toInt - (tY M_24 60 3 18).toInt + 200 - 200 * ff M_24) → (0 ≤ (tY M_24 60 3 18).toInt) → ((tY M_24 60 3 18).toInt ≤ 64) → (0 ≤ (tI M_24 60 29).toInt) → ((tI M_24 60 29).toInt ≤ 8) → ti_H ti_LM D A cy H0 M_24 H locs → lv_has ls 1 [(0, .ref (A 60 0))] → W p l e (ti_rm (78 + 71 * j)) s m args below meth c H locs 0 0 Q (F0 m 4 ls []) := by
    intro n_48
    induction n_48 with
    | zero => intro M_24 g_26 d_28 H locs ls hf_48; exact absurd hf_48 (Nat.not_lt_zero _)
    | succ n_48 ih_48 =>
      intro M_24 g_26 d_28 H locs ls hf_48 iM_24 f_25 hs_27 te_29 vs_30 j_31 j_32 j_33 j_34 j_35 j_36 j_37 j_38 j_39 j_40 j_41 j_42 j_43 j_44 j_45 j_46 j_47 hw hl
      refine lv_aload_n hx hb dX10_expression_4 rfl (lv_at hl 0 rfl) ?_
      refine lv_bipush (v := 16) hx hb dX10_expression_5 (by decide) ?_
      refine ti_callVi (ci := 10) (av := [.int 16]) C hw (x_X10_isWord l D A cy hJ M_24 iM_24 16) ⟨ml_X10_261, ym_X10_isWord, yv_X10_isWord, yi_X10_isWord, yc_X10_isWord⟩ yd_X10_isWord ob_60 (by decide) rfl rfl hl.1 (Nat.le_of_ble_eq_true rfl) ⟨by simp only [ti_rm]; omega, by simp only [ti_rm]; omega⟩ ⟨Nat.zero_le _, Nat.zero_le _⟩ dX10_expression_7 (fun r_49 M_50 H locs hp_50 hw => ?_)
      obtain ⟨hm, hz⟩ := hp_50
      have hw := hw.to hm
      rcases hz with ⟨rfl, d0_51, d1_51, d2_51⟩ | ⟨rfl, d3_51⟩
      · have dk_51 := rQ_w1 (k := 23) hs_27 d0_51 d1_51 d2_51 (by decide)
        have z_52 : ff M_24 = 1 := ff_1 d0_51
        have z_53 : pg M_24 = 2 * (tI M_24 60 21).toInt := pg_3 (by rw [d1_51]; decide)
        clear d0_51 d1_51 d2_51
        refine sb_if_eq (tgt := 36) hx hb (by decide : (1 : Int32).toInt = 1) dX10_expression_10 (by decide) (fun h => absurd h (by decide)) (fun c_10_53 => ?_)
        refine lv_aload_n hx hb dX10_expression_13 rfl (lv_at hl 0 rfl) ?_
        refine ti_callVv (ci := 10) (av := []) C hw (x_X10_knot l D A cy hJ M_24 iM_24  B n g_26 hs_27) ⟨ml_X10_279, ym_X10_knot, yv_X10_knot, yi_X10_knot, yc_X10_knot⟩ yd_X10_knot ob_60 (by decide) rfl rfl hl.1 (Nat.le_of_ble_eq_true rfl) ⟨by simp only [ti_rm]; omega, by simp only [ti_rm]; omega⟩ ⟨Nat.zero_le _, Nat.zero_le _⟩ dX10_expression_14 (fun M_57 H locs hp_57 hw => ?_)
        obtain ⟨hs_58, hp_59⟩ := hp_57
        obtain ⟨iM_57, q_60, z_61, z_62, z_63, z_64, z_65, z_66⟩ := l_kn hp_59
        clear hp_59
        obtain ⟨g_67, eg_67⟩ : ∃ z : Nat → Int, z = pp_k1 g_26 := ⟨_, rfl⟩
        rw [← eg_67] at hs_58
        have te_68 : qE a (d + 1) lj d_28 M_57 := qE_fr te_29 q_60.1 (by omega)
        have vs_69 : vs M_57 := vs_fr vs_30 (by omega) (q_60.2 23 (by decide)) (q_60.2 24 (by decide))
        refine lv_aload_n hx hb dX10_expression_17 rfl (lv_at hl 0 rfl) ?_
        refine ti_callVvE (ci := 10) (av := []) C hE hw (x_X10_goOn l D A cy hJ M_57 iM_57  B n g_67 hs_58) ⟨ml_X10_267, ym_X10_goOn, yv_X10_goOn, yi_X10_goOn, yc_X10_goOn⟩ yd_X10_goOn ob_60 (by decide) rfl rfl hl.1 (Nat.le_of_ble_eq_true rfl) ⟨by simp only [ti_rm]; omega, by simp only [ti_rm]; omega⟩ ⟨Nat.zero_le _, Nat.zero_le _⟩ dX10_expression_18 (fun M_71 H locs hp_71 hw => ?_)
        obtain ⟨hs_72, hp_73⟩ := hp_71
        obtain ⟨iM_71, q_74, z_75, z_76, z_77, z_78, z_79⟩ := l_go hp_73
        clear hp_73
        obtain ⟨g_80, eg_80⟩ : ∃ z : Nat → Int, z = pp_go B n g_67 := ⟨_, rfl⟩
        rw [← eg_80] at hs_72
        have te_81 : qE a (d + 1) lj d_28 M_71 := qE_fr te_68 q_74.1 (by omega)
        have vs_82 : vs M_71 := (fun q9 => vs_av hs_72 (by rw [eg_80]; unfold pp_go; rw [if_pos (rQ_g0 hs_58 (ff_1 (ff_q (by omega) q9)))]; exact av_v) q9)
        refine lv_aload_n hx hb dX10_expression_21 rfl (lv_at hl 0 rfl) ?_
        refine ti_callVvE (ci := 10) (av := []) C hE hw (x_X10_conjunction l D A cy hJ M_71 iM_71 j a (d + 1) (by omega) (us_q (x := 21) (y := 30) j_31 (pr.trans (pr_w q_74 (by decide) (by decide)) (pr_w q_60 (by decide) (by decide))) (by omega)) (by omega) (by omega) (by omega) B n g_80 hs_72 lj hlj d_28 te_81 vs_82 ih) ⟨ml_X10_276, ym_X10_conjunction, yv_X10_conjunction, yi_X10_conjunction, yc_X10_conjunction⟩ yd_X10_conjunction ob_60 (by decide) rfl rfl hl.1 (Nat.le_of_ble_eq_true rfl) ⟨by simp only [ti_rm]; omega, by simp only [ti_rm]; omega⟩ ⟨Nat.zero_le _, Nat.zero_le _⟩ dX10_expression_22 (fun M_84 H locs hp_84 hw => ?_)
        obtain ⟨te_87, vs_88, hs_85, hp_86⟩ := hp_84
        obtain ⟨iM_84, q_89, p_90, p_91, p_92, p_93, p_94, p_95, p_96, p_97, p_98, p_99, p_100, p_101, p_102, u_103⟩ := hp_86
        obtain ⟨g_104, eg_104⟩ : ∃ z : Nat → Int, z = pp_bo B n (pp_pt B n j) g_80 := ⟨_, rfl⟩
        rw [← eg_104] at hs_85
        obtain ⟨d_105, ed_105⟩ : ∃ z : Nat → Int, z = qq_bo B n lj (pp_pt B n j) (qq_pt B n lj j) g_80 d_28 := ⟨_, rfl⟩
        rw [← ed_105] at te_87
        refine lv_aload_n hx hb dX10_expression_25 rfl (lv_at hl 0 rfl) ?_
        refine lv_iconst (v := 2) hx hb dX10_expression_26 (by decide) ?_
        refine lv_sipush (v := 262) hx hb dX10_expression_27 (by decide) ?_
        refine ti_callVv (ci := 10) (av := [.int 2, .int 262]) C hw (x_X10_puts l D A cy hJ M_84 iM_84 a (d + 1 + 1) (d + 1) 2 262 u_103 (nL (by omega)) (by first | exact Or.inr (Or.inr (Or.inl ⟨by decide, by omega, rfl⟩)) | exact nF (by omega))) ⟨ml_X10_282, ym_X10_puts, yv_X10_puts, yi_X10_puts, yc_X10_puts⟩ yd_X10_puts ob_60 (by decide) rfl rfl hl.1 (Nat.le_of_ble_eq_true rfl) ⟨by simp only [ti_rm]; omega, by simp only [ti_rm]; omega⟩ ⟨Nat.zero_le _, Nat.zero_le _⟩ dX10_expression_30 (fun M_107 H locs hp_107 hw => ?_)
        have piM_107 := (hp_107).2.2.2.2.1
        obtain ⟨puM_107, hqM_107⟩ := hp_107
        have hs_108 := rQ_pe hs_85 hqM_107.2.1 hqM_107.2.2.2.1
        obtain ⟨iM_107, q_109, u_110, z_111, z_112, z_113, z_114, z_115, z_116⟩ := l_pu iM_84 hqM_107
        clear hqM_107
        have te_118 : qE a (d + 1) lj (qa lj (-23) d_105) M_107 := qE_pu hlj te_87 puM_107 (fun q9 => by have q8 := ff_1 q9; exact ⟨by decide, fun q => absurd q (by decide)⟩) (fun q9 => by have q8 := ff_1 q9; exact Or.inr (Or.inl ⟨by decide, by decide, by omega, rfl⟩))
        obtain ⟨d_117, ed_117⟩ : ∃ z : Nat → Int, z = qa lj (-23) d_105 := ⟨_, rfl⟩
        rw [← ed_117] at te_118
        have vs_119 : vs M_107 := fun q9 q8 => by rw [piM_107 23 (by decide)] at q8; rw [piM_107 24 (by decide)]; exact vs_88 (by rw [← puM_107.1]; exact q9) q8
        refine lv_goto (tgt := 4) hx hb dX10_expression_33 (by decide) ?_
        exact ih_48 M_107 g_104 d_117 _ _ _ (by omega) iM_107 (pe.trans q_109 (pe.trans q_89 (pe.trans (pe_pr q_74 (by decide) (by decide)) (pe.trans (pe_pr q_60 (by decide) (by decide)) f_25)))) hs_108 te_118 vs_119 u_110 (j_32.trans (lp_nx (P := pp_qO) (G := fun s => pp_bo B n (pp_pt B n j) (pp_kn B n s)) (s := g_26) (by decide) (gr_kn (gr_bo (gr_pt j))) 63 (show pp_qO (g_26 0) = true from decide_eq_true (by omega)) (by rw [eg_104, eg_80, eg_67, kn_kg (rQ_g0 hs_27 (by omega))]) (by omega) (by omega))) (j_33.trans (qlp_nx (P := pp_qO) (F := fun s => pp_bo B n (pp_pt B n j) (pp_kn B n s)) (G := fun s td => qa lj (-23) (qq_bo B n lj (pp_pt B n j) (qq_pt B n lj j) (pp_kn B n s) td)) (s := g_26) (by decide) (gr_kn (gr_bo (gr_pt j))) 63 (show pp_qO (g_26 0) = true from decide_eq_true (by omega)) (by rw [eg_104, eg_80, eg_67, kn_kg (rQ_g0 hs_27 (by omega))]) (by rw [ed_117, ed_105, eg_80, eg_67, kn_kg (rQ_g0 hs_27 (by omega))]) (by omega) (by omega))) (by rw [eg_104]; exact rQ_gr (gr_bo (gr_pt j)) hs_72 iM_71) (by first | omega | decide) (by first | omega | decide) (by first | omega | decide) (by first | omega | decide) (by first | omega | decide) (by first | omega | decide) (by first | omega | decide) (by first | omega | decide) (by first | omega | decide) (by first | omega | decide) (by first | omega | decide) (by first | omega | decide) (by first | omega | decide) hw (lv_sub hl [0] rfl)
      · have dk_51 := rQ_w0 (k := 23) hs_27 d3_51 (by decide) (by decide)
        clear d3_51
        refine sb_if_eq (tgt := 36) hx hb (by decide : (0 : Int32).toInt = 0) dX10_expression_10 (by decide) (fun c_10_54 => ?_) (fun h => absurd h (by decide))
        exact hQ _ _ _ _ _ hw (⟨(by rw [j_33, qlp_end (P := pp_qO) (f := 64) (s := g_26) (Or.inr (decide_eq_false (by omega)))]; exact te_29), vs_30, (by rw [j_32, lp_end (P := pp_qO) (f := 64) (s := g_26) (Or.inr (decide_eq_false (by omega)))]; exact hs_27), iM_24, f_25, (by omega), (by omega), (by omega), (by omega), (by omega), (by omega), (by omega), (by omega), (by omega), (by omega), (by omega), (by omega), (by omega), j_31⟩) dX10_expression_36
  exact hl_4_47 ((64 - (tI M_2 60 30).toInt + ff M_2 : Int).toNat + 1) M_2 g_22 d_23 _ _ _ (Nat.lt_succ_self _) iM_2 q_7 hs_3 te_5 vs_6 u_21 (by unfold pp_ei; rw [← eg_22]) (by unfold qq_ei; rw [← eg_22, ← ed_23]) (by rw [eg_22]; exact rQ_gr (gr_bo (gr_pt j)) hr hI) (by first | omega | decide) (by first | omega | decide) (by first | omega | decide) (by first | omega | decide) (by first | omega | decide) (by first | omega | decide) (by first | omega | decide) (by first | omega | decide) (by first | omega | decide) (by first | omega | decide) (by first | omega | decide) (by first | omega | decide) (by first | omega | decide) hw (lv_sub hl [0] rfl)
theorem x_X10_expression : ∀ j : Nat, ∀ (l : Launch) (D : va_G) (A : Nat → Nat → Nat) (cy : Nat → ClassId) (hJ : ti_inj ti_LM A) (M : ti_M) (hI : mI Tm M) (a d : Nat) (hj : j ≤ 8) (hu : us M a d) (hc : (tY M 60 3 18).toInt ≤ (tI M 60 30).toInt + 64 - 64 * ff M) (ho : (tI M 60 29).toInt + j ≤ 16 - 8 * ff M) (ho2 : 8 * ff M ≤ (tI M 60 29).toInt + j) (B : Nat → Int) (n : Nat) (rg : Nat → Int) (hr : rQ B n rg M) (lj : Nat) (hlj : lj < 3) (td : Nat → Int) (he : qE a d lj td M) (hvs : vs M), ti_KvE l yX10_expression cX10_expression 1 (78 + 71 * j) ti_LM D A cy M [.ref (A 60 0)] (fun M2 => qE a (d + 1) lj (qq_ei B n lj (pp_pt B n j) (qq_pt B n lj j) rg td) M2 ∧ vs M2 ∧ rQ B n (pp_ei B n (pp_pt B n j) rg) M2 ∧ mI Tm M2 ∧ pe M2 M ∧ (pg M ≤ pg M2) ∧ (0 ≤ ff M2) ∧ (ff M2 ≤ ff M) ∧ ((tI M 60 30).toInt ≤ (tI M2 60 30).toInt) ∧ ((tI M2 60 30).toInt ≤ 64) ∧ ((tI M2 60 29).toInt ≤ (tI M 60 29).toInt + 8 - 8 * ff M2) ∧ ((tI M 60 29).toInt ≤ (tI M2 60 29).toInt + 8 - 8 * ff M2) ∧ ((tI M2 60 30).toInt - (tY M2 60 3 18).toInt ≤ (tI M 60 30).toInt - (tY M 60 3 18).toInt + 200 - 200 * ff M2) ∧ ((tI M 60 30).toInt - (tY M 60 3 18).toInt ≤ (tI M2 60 30).toInt - (tY M2 60 3 18).toInt + 200 - 200 * ff M2) ∧ (0 ≤ (tY M2 60 3 18).toInt) ∧ ((tY M2 60 3 18).toInt ≤ 64) ∧ (0 ≤ (tI M2 60 29).toInt) ∧ ((tI M2 60 29).toInt ≤ 8) ∧ us M2 a (d + 1)) := by
  intro j
  induction j using Nat.strongRecOn with
  | ind j ih =>
    intro l D A cy hJ M hI a d hj hu hc ho ho2 B n rg hr lj hlj td he hvs
    exact x_X10_expression_s l D A cy hJ M hI j a d hj hu hc ho ho2 B n rg hr lj hlj td he hvs ih

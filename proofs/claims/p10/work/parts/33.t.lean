variable {Tc : gC} {Tm : gM}
set_option maxHeartbeats 4000000 in
set_option maxRecDepth 100000 in
theorem s_X10_negation_s (l : Launch) (D : va_G) (A : Nat → Nat → Nat) (cy : Nat → ClassId) (hJ : ti_inj ti_LM A) (M : ti_M) (hI : mI Tm M) (j a d : Nat) (hj : j ≤ 8) (hu : us M a d) (hc : (tY M 60 3 18).toInt ≤ (tI M 60 30).toInt + 64 - 64 * ff M) (ho : (tI M 60 29).toInt + j ≤ 16 - 8 * ff M) (ho2 : 8 * ff M ≤ (tI M 60 29).toInt + j) (ih : ∀ i : Nat, i < j → ∀ (l : Launch) (D : va_G) (A : Nat → Nat → Nat) (cy : Nat → ClassId) (hJ : ti_inj ti_LM A) (M : ti_M) (hI : mI Tm M) (a d : Nat) (hj : i ≤ 8) (hu : us M a d) (hc : (tY M 60 3 18).toInt ≤ (tI M 60 30).toInt + 64 - 64 * ff M) (ho : (tI M 60 29).toInt + i ≤ 16 - 8 * ff M) (ho2 : 8 * ff M ≤ (tI M 60 29).toInt + i), ti_KvE l yX10_expression cX10_expression 1 (78 + 71 * i) ti_LM D A cy M [.ref (A 60 0)] (fun M2 => mI Tm M2 ∧ pe M2 M ∧ (pg M ≤ pg M2) ∧ (0 ≤ ff M2) ∧ (ff M2 ≤ ff M) ∧ ((tI M 60 30).toInt ≤ (tI M2 60 30).toInt) ∧ ((tI M2 60 30).toInt ≤ 64) ∧ ((tI M2 60 29).toInt ≤ (tI M 60 29).toInt + 8 - 8 * ff M2) ∧ ((tI M 60 29).toInt ≤ (tI M2 60 29).toInt + 8 - 8 * ff M2) ∧ ((tI M2 60 30).toInt - (tY M2 60 3 18).toInt ≤ (tI M 60 30).toInt - (tY M 60 3 18).toInt + 200 - 200 * ff M2) ∧ ((tI M 60 30).toInt - (tY M 60 3 18).toInt ≤ (tI M2 60 30).toInt - (tY M2 60 3 18).toInt + 200 - 200 * ff M2) ∧ (0 ≤ (tY M2 60 3 18).toInt) ∧ ((tY M2 60 3 18).toInt ≤ 64) ∧ (0 ≤ (tI M2 60 29).toInt) ∧ ((tI M2 60 29).toInt ≤ 8) ∧ us M2 a (d + 1))) (n : Nat) (hn : 64 - (tI M 60 30).toInt + ff M ≤ n) (ihn : ∀ i : Nat, i < n → ∀ (l : Launch) (D : va_G) (A : Nat → Nat → Nat) (cy : Nat → ClassId) (hJ : ti_inj ti_LM A) (M : ti_M) (hI : mI Tm M) (a d : Nat) (hj : j ≤ 8) (hu : us M a d) (hc : (tY M 60 3 18).toInt ≤ (tI M 60 30).toInt + 64 - 64 * ff M) (ho : (tI M 60 29).toInt + j ≤ 16 - 8 * ff M) (ho2 : 8 * ff M ≤ (tI M 60 29).toInt + j) (hn : 64 - (tI M 60 30).toInt + ff M ≤ i), ti_KvE l yX10_negation cX10_negation 2 (11 + 71 * j + i) ti_LM D A cy M [.ref (A 60 0)] (fun M2 => mI Tm M2 ∧ pe M2 M ∧ (pg M ≤ pg M2) ∧ (0 ≤ ff M2) ∧ (ff M2 ≤ ff M) ∧ ((tI M 60 30).toInt ≤ (tI M2 60 30).toInt) ∧ ((tI M2 60 30).toInt ≤ 64) ∧ ((tI M2 60 29).toInt ≤ (tI M 60 29).toInt + 8 - 8 * ff M2) ∧ ((tI M 60 29).toInt ≤ (tI M2 60 29).toInt + 8 - 8 * ff M2) ∧ ((tI M2 60 30).toInt - (tY M2 60 3 18).toInt ≤ (tI M 60 30).toInt - (tY M 60 3 18).toInt + 200 - 200 * ff M2) ∧ ((tI M 60 30).toInt - (tY M 60 3 18).toInt ≤ (tI M2 60 30).toInt - (tY M2 60 3 18).toInt + 200 - 200 * ff M2) ∧ (0 ≤ (tY M2 60 3 18).toInt) ∧ ((tY M2 60 3 18).toInt ≤ 64) ∧ (0 ≤ (tI M2 60 29).toInt) ∧ ((tI M2 60 29).toInt ≤ 8) ∧ us M2 a (d + 1))) : ti_KvE l yX10_negation cX10_negation 2 (11 + 71 * j + n) ti_LM D A cy M [.ref (A 60 0)] (fun M2 => mI Tm M2 ∧ pe M2 M ∧ (pg M ≤ pg M2) ∧ (0 ≤ ff M2) ∧ (ff M2 ≤ ff M) ∧ ((tI M 60 30).toInt ≤ (tI M2 60 30).toInt) ∧ ((tI M2 60 30).toInt ≤ 64) ∧ ((tI M2 60 29).toInt ≤ (tI M 60 29).toInt + 8 - 8 * ff M2) ∧ ((tI M 60 29).toInt ≤ (tI M2 60 29).toInt + 8 - 8 * ff M2) ∧ ((tI M2 60 30).toInt - (tY M2 60 3 18).toInt ≤ (tI M 60 30).toInt - (tY M 60 3 18).toInt + 200 - 200 * ff M2) ∧ ((tI M 60 30).toInt - (tY M 60 3 18).toInt ≤ (tI M2 60 30).toInt - (tY M2 60 3 18).toInt + 200 - 200 * ff M2) ∧ (0 ≤ (tY M2 60 3 18).toInt) ∧ ((tY M2 60 3 18).toInt ≤ 64) ∧ (0 ≤ (tI M2 60 29).toInt) ∧ ((tI M2 60 29).toInt ≤ 8) ∧ us M2 a (d + 1)) := by
  refine ti_eVE yp_X10_negation hJ ti_LM_nd (Nat.le_of_ble_eq_true rfl) ?_
  intro p e s m args below meth c Q H0 C hE hQ hw ls hl
  have hx := C.1
  have hb := C.2.1
  have hl : lv_has ls 2 [(0, .ref (A 60 0))] := hl
  have hI30 := b30 hI
  have hI29 := b29 hI
  have hI18 := b18 hI
  have hIff := ff_b M
  refine lv_aload_n hx hb dX10_negation_0 rfl (lv_at hl 0 rfl) ?_
  refine lv_bipush (v := 18) hx hb dX10_negation_1 (by decide) ?_
  refine ti_callVi (ci := 10) (av := [.int 18]) C hw (s_X10_isWord l D A cy hJ M hI 18) ⟨ml_X10_261, ym_X10_isWord, yv_X10_isWord, yi_X10_isWord, yc_X10_isWord⟩ yd_X10_isWord ob_60 (by decide) rfl rfl hl.1 (Nat.le_of_ble_eq_true rfl) ⟨by simp only [ti_rm]; omega, by simp only [ti_rm]; omega⟩ ⟨Nat.zero_le _, Nat.zero_le _⟩ dX10_negation_3 (fun r_1 M_2 H locs hp_2 hw => ?_)
  obtain ⟨hm, hz⟩ := hp_2
  have hw := hw.to hm
  rcases hz with ⟨rfl, d0_3, d1_3, d2_3⟩ | rfl
  · have z_4 : ff M = 1 := ff_1 d0_3
    have z_5 : pg M = 2 * (tI M 60 21).toInt := pg_3 (by rw [d1_3]; decide)
    refine sb_if_eq (tgt := 30) hx hb (by decide : (1 : Int32).toInt = 1) dX10_negation_6 (by decide) (fun h => absurd h (by decide)) (fun c_6_5 => ?_)
    refine lv_aload_n hx hb dX10_negation_9 rfl (lv_at hl 0 rfl) ?_
    refine ti_callVv (ci := 10) (av := []) C hw (s_X10_knot l D A cy hJ M hI ) ⟨ml_X10_279, ym_X10_knot, yv_X10_knot, yi_X10_knot, yc_X10_knot⟩ yd_X10_knot ob_60 (by decide) rfl rfl hl.1 (Nat.le_of_ble_eq_true rfl) ⟨by simp only [ti_rm]; omega, by simp only [ti_rm]; omega⟩ ⟨Nat.zero_le _, Nat.zero_le _⟩ dX10_negation_10 (fun M_9 H locs hp_9 hw => ?_)
    obtain ⟨iM_9, q_10, z_11, z_12, z_13, z_14, z_15, z_16⟩ := l_kn hp_9
    clear hp_9
    refine lv_aload_n hx hb dX10_negation_13 rfl (lv_at hl 0 rfl) ?_
    refine ti_callVvE (ci := 10) (av := []) C hE hw (s_X10_goOn l D A cy hJ M_9 iM_9 ) ⟨ml_X10_267, ym_X10_goOn, yv_X10_goOn, yi_X10_goOn, yc_X10_goOn⟩ yd_X10_goOn ob_60 (by decide) rfl rfl hl.1 (Nat.le_of_ble_eq_true rfl) ⟨by simp only [ti_rm]; omega, by simp only [ti_rm]; omega⟩ ⟨Nat.zero_le _, Nat.zero_le _⟩ dX10_negation_14 (fun M_18 H locs hp_18 hw => ?_)
    obtain ⟨iM_18, q_19, z_20, z_21, z_22, z_23, z_24⟩ := l_go hp_18
    clear hp_18
    refine lv_aload_n hx hb dX10_negation_17 rfl (lv_at hl 0 rfl) ?_
    refine ti_callVvE (ci := 10) (av := []) C hE hw (ihn (n - 1) (by omega) l D A cy hJ M_18 iM_18 a (d) (by omega) (us_q (x := 21) (y := 30) hu (pr.trans (pr_w q_19 (by decide) (by decide)) (pr_w q_10 (by decide) (by decide))) (by omega)) (by omega) (by omega) (by omega) (by omega)) ⟨ml_X10_285, ym_X10_negation, yv_X10_negation, yi_X10_negation, yc_X10_negation⟩ yd_X10_negation ob_60 (by decide) rfl rfl hl.1 (Nat.le_of_ble_eq_true rfl) ⟨by simp only [ti_rm]; omega, by simp only [ti_rm]; omega⟩ ⟨Nat.zero_le _, Nat.zero_le _⟩ dX10_negation_18 (fun M_26 H locs hp_26 hw => ?_)
    obtain ⟨iM_26, q_27, p_28, p_29, p_30, p_31, p_32, p_33, p_34, p_35, p_36, p_37, p_38, p_39, p_40, u_41⟩ := hp_26
    refine lv_aload_n hx hb dX10_negation_21 rfl (lv_at hl 0 rfl) ?_
    refine lv_iconst (v := 2) hx hb dX10_negation_22 (by decide) ?_
    refine lv_sipush (v := 260) hx hb dX10_negation_23 (by decide) ?_
    refine ti_callVv (ci := 10) (av := [.int 2, .int 260]) C hw (s_X10_puts l D A cy hJ M_26 iM_26 a (d + 1) (d + 1) 2 260 u_41 (nL (by omega)) (by first | exact Or.inr (Or.inl ⟨by decide, by decide, by omega, rfl⟩) | exact nF (by omega))) ⟨ml_X10_282, ym_X10_puts, yv_X10_puts, yi_X10_puts, yc_X10_puts⟩ yd_X10_puts ob_60 (by decide) rfl rfl hl.1 (Nat.le_of_ble_eq_true rfl) ⟨by simp only [ti_rm]; omega, by simp only [ti_rm]; omega⟩ ⟨Nat.zero_le _, Nat.zero_le _⟩ dX10_negation_26 (fun M_43 H locs hp_43 hw => ?_)
    obtain ⟨iM_43, q_44, u_45, z_46, z_47, z_48, z_49, z_50, z_51⟩ := l_pu iM_26 hp_43
    clear hp_43
    exact hQ _ _ _ _ _ hw (⟨iM_43, (pe.trans q_44 (pe.trans q_27 (pe.trans (pe_pr q_19 (by decide) (by decide)) (pe_pr q_10 (by decide) (by decide))))), (by omega), (by omega), (by omega), (by omega), (by omega), (by omega), (by omega), (by omega), (by omega), (by omega), (by omega), (by omega), (by omega), u_45⟩) dX10_negation_29
  · refine sb_if_eq (tgt := 30) hx hb (by decide : (0 : Int32).toInt = 0) dX10_negation_6 (by decide) (fun c_6_6 => ?_) (fun h => absurd h (by decide))
    refine lv_aload_n hx hb dX10_negation_30 rfl (lv_at hl 0 rfl) ?_
    refine ti_callVvE (ci := 10) (av := []) C hE hw (s_X10_sum l D A cy hJ M hI j a (d) (by omega) hu (by omega) (by omega) (by omega) ih) ⟨ml_X10_288, ym_X10_sum, yv_X10_sum, yi_X10_sum, yc_X10_sum⟩ yd_X10_sum ob_60 (by decide) rfl rfl hl.1 (Nat.le_of_ble_eq_true rfl) ⟨by simp only [ti_rm]; omega, by simp only [ti_rm]; omega⟩ ⟨Nat.zero_le _, Nat.zero_le _⟩ dX10_negation_31 (fun M_53 H locs hp_53 hw => ?_)
    obtain ⟨iM_53, q_54, p_55, p_56, p_57, p_58, p_59, p_60, p_61, p_62, p_63, p_64, p_65, p_66, p_67, u_68⟩ := hp_53
    refine lv_aload_n hx hb dX10_negation_34 rfl (lv_at hl 0 rfl) ?_
    refine ti_get (ci := 10) (k := 25) (N := 67) (T := TX10) C hw iw_10 rfl ob_60 (by decide) (by decide) fl_X10_208 rfl rfl dX10_negation_35 ?_
    refine lv_topi (fun x_69 ex_69 => ?_)
    have u_70 : (tI M_53 60 25).toInt = x_69.toInt := by rw [ex_69]
    have ufx_69 : (tI M_53 60 25).toInt = x_69.toInt := by rw [ex_69]
    refine sb_if_ne (tgt := 86) hx hb rfl dX10_negation_38 (by decide) (fun c_38_70 => ?_) (fun c_38_70 => ?_)
    · have z_72 : ff M_53 = 0 := ff_0 (fun h => c_38_70 (ufx_69.symm.trans h))
      clear c_38_70
      exact hQ _ _ _ _ _ hw (⟨iM_53, q_54, (by omega), (by omega), (by omega), (by omega), (by omega), (by omega), (by omega), (by omega), (by omega), (by omega), (by omega), (by omega), (by omega), u_68⟩) dX10_negation_86
    · have z_72 : ff M_53 = 1 := ff_1 (ufx_69.trans c_38_70)
      clear c_38_70
      refine lv_aload_n hx hb dX10_negation_41 rfl (lv_at hl 0 rfl) ?_
      refine ti_get (ci := 10) (k := 23) (N := 67) (T := TX10) C hw iw_10 rfl ob_60 (by decide) (by decide) fl_X10_173 rfl rfl dX10_negation_42 ?_
      refine lv_topi (fun x_73 ex_73 => ?_)
      refine lv_iconst (v := 3) hx hb dX10_negation_45 (by decide) ?_
      refine sb_icmp_ne (tgt := 86) hx hb rfl (by decide : (3 : Int32).toInt = 3) dX10_negation_46 (by decide) (fun c_46_73 => ?_) (fun c_46_73 => ?_)
      · exact hQ _ _ _ _ _ hw (⟨iM_53, q_54, (by omega), (by omega), (by omega), (by omega), (by omega), (by omega), (by omega), (by omega), (by omega), (by omega), (by omega), (by omega), (by omega), u_68⟩) dX10_negation_86
      · refine lv_aload_n hx hb dX10_negation_49 rfl (lv_at hl 0 rfl) ?_
        refine ti_get (ci := 10) (k := 24) (N := 67) (T := TX10) C hw iw_10 rfl ob_60 (by decide) (by decide) fl_X10_183 rfl rfl dX10_negation_50 ?_
        refine lv_topi (fun x_75 ex_75 => ?_)
        refine lv_bipush (v := 60) hx hb dX10_negation_53 (by decide) ?_
        refine sb_icmp_eq (tgt := 87) hx hb rfl (by decide : (60 : Int32).toInt = 60) dX10_negation_55 (by decide) (fun c_55_75 => ?_) (fun c_55_75 => ?_)
        · refine lv_aload_n hx hb dX10_negation_87 rfl (lv_at hl 0 rfl) ?_
          refine ti_get (ci := 10) (k := 24) (N := 67) (T := TX10) C hw iw_10 rfl ob_60 (by decide) (by decide) fl_X10_183 rfl rfl dX10_negation_88 ?_
          refine ti_top (y := x_75) (ex_75.symm) ?_
          refine lv_istore_n (lv' := [(1, .int x_75), (0, .ref (A 60 0))]) hx hb dX10_negation_91 rfl hl (by decide) rfl (fun ls hl => ?_)
          refine lv_aload_n hx hb dX10_negation_92 rfl (lv_at hl 1 rfl) ?_
          refine ti_callVv (ci := 10) (av := []) C hw (s_X10_knot l D A cy hJ M_53 iM_53 ) ⟨ml_X10_279, ym_X10_knot, yv_X10_knot, yi_X10_knot, yc_X10_knot⟩ yd_X10_knot ob_60 (by decide) rfl rfl hl.1 (Nat.le_of_ble_eq_true rfl) ⟨by simp only [ti_rm]; omega, by simp only [ti_rm]; omega⟩ ⟨Nat.zero_le _, Nat.zero_le _⟩ dX10_negation_93 (fun M_81 H locs hp_81 hw => ?_)
          obtain ⟨iM_81, q_82, z_83, z_84, z_85, z_86, z_87, z_88⟩ := l_kn hp_81
          clear hp_81
          refine lv_aload_n hx hb dX10_negation_96 rfl (lv_at hl 1 rfl) ?_
          refine ti_callVvE (ci := 10) (av := []) C hE hw (s_X10_goOn l D A cy hJ M_81 iM_81 ) ⟨ml_X10_267, ym_X10_goOn, yv_X10_goOn, yi_X10_goOn, yc_X10_goOn⟩ yd_X10_goOn ob_60 (by decide) rfl rfl hl.1 (Nat.le_of_ble_eq_true rfl) ⟨by simp only [ti_rm]; omega, by simp only [ti_rm]; omega⟩ ⟨Nat.zero_le _, Nat.zero_le _⟩ dX10_negation_97 (fun M_90 H locs hp_90 hw => ?_)
          obtain ⟨iM_90, q_91, z_92, z_93, z_94, z_95, z_96⟩ := l_go hp_90
          clear hp_90
          refine lv_aload_n hx hb dX10_negation_100 rfl (lv_at hl 1 rfl) ?_
          refine ti_callVvE (ci := 10) (av := []) C hE hw (s_X10_sum l D A cy hJ M_90 iM_90 j a (d + 1) (by omega) (us_q (x := 21) (y := 30) u_68 (pr.trans (pr_w q_91 (by decide) (by decide)) (pr_w q_82 (by decide) (by decide))) (by omega)) (by omega) (by omega) (by omega) ih) ⟨ml_X10_288, ym_X10_sum, yv_X10_sum, yi_X10_sum, yc_X10_sum⟩ yd_X10_sum ob_60 (by decide) rfl rfl hl.1 (Nat.le_of_ble_eq_true rfl) ⟨by simp only [ti_rm]; omega, by simp only [ti_rm]; omega⟩ ⟨Nat.zero_le _, Nat.zero_le _⟩ dX10_negation_101 (fun M_98 H locs hp_98 hw => ?_)
          obtain ⟨iM_98, q_99, p_100, p_101, p_102, p_103, p_104, p_105, p_106, p_107, p_108, p_109, p_110, p_111, p_112, u_113⟩ := hp_98
          refine lv_aload_n hx hb dX10_negation_104 rfl (lv_at hl 1 rfl) ?_
          refine lv_iconst (v := 2) hx hb dX10_negation_105 (by decide) ?_
          refine lv_iload_n hx hb dX10_negation_106 rfl (lv_at hl 0 rfl) ?_
          refine ti_callVv (ci := 10) (av := [.int 2, .int x_75]) C hw (s_X10_puts l D A cy hJ M_98 iM_98 a (d + 1 + 1) (d + 1) 2 x_75 u_113 (nL (by omega)) (by first | exact Or.inr (Or.inr (Or.inl ⟨by decide, by omega, rfl⟩)) | exact nF (by omega))) ⟨ml_X10_282, ym_X10_puts, yv_X10_puts, yi_X10_puts, yc_X10_puts⟩ yd_X10_puts ob_60 (by decide) rfl rfl hl.1 (Nat.le_of_ble_eq_true rfl) ⟨by simp only [ti_rm]; omega, by simp only [ti_rm]; omega⟩ ⟨Nat.zero_le _, Nat.zero_le _⟩ dX10_negation_107 (fun M_115 H locs hp_115 hw => ?_)
          obtain ⟨iM_115, q_116, u_117, z_118, z_119, z_120, z_121, z_122, z_123⟩ := l_pu iM_98 hp_115
          clear hp_115
          exact hQ _ _ _ _ _ hw (⟨iM_115, (pe.trans q_116 (pe.trans q_99 (pe.trans (pe_pr q_91 (by decide) (by decide)) (pe.trans (pe_pr q_82 (by decide) (by decide)) q_54)))), (by omega), (by omega), (by omega), (by omega), (by omega), (by omega), (by omega), (by omega), (by omega), (by omega), (by omega), (by omega), (by omega), u_117⟩) dX10_negation_110
        · refine lv_aload_n hx hb dX10_negation_58 rfl (lv_at hl 0 rfl) ?_
          refine ti_get (ci := 10) (k := 24) (N := 67) (T := TX10) C hw iw_10 rfl ob_60 (by decide) (by decide) fl_X10_183 rfl rfl dX10_negation_59 ?_
          refine ti_top (y := x_75) (ex_75.symm) ?_
          refine lv_bipush (v := 62) hx hb dX10_negation_62 (by decide) ?_
          refine sb_icmp_eq (tgt := 87) hx hb rfl (by decide : (62 : Int32).toInt = 62) dX10_negation_64 (by decide) (fun c_64_76 => ?_) (fun c_64_76 => ?_)
          · refine lv_aload_n hx hb dX10_negation_87 rfl (lv_at hl 0 rfl) ?_
            refine ti_get (ci := 10) (k := 24) (N := 67) (T := TX10) C hw iw_10 rfl ob_60 (by decide) (by decide) fl_X10_183 rfl rfl dX10_negation_88 ?_
            refine ti_top (y := x_75) (ex_75.symm) ?_
            refine lv_istore_n (lv' := [(1, .int x_75), (0, .ref (A 60 0))]) hx hb dX10_negation_91 rfl hl (by decide) rfl (fun ls hl => ?_)
            refine lv_aload_n hx hb dX10_negation_92 rfl (lv_at hl 1 rfl) ?_
            refine ti_callVv (ci := 10) (av := []) C hw (s_X10_knot l D A cy hJ M_53 iM_53 ) ⟨ml_X10_279, ym_X10_knot, yv_X10_knot, yi_X10_knot, yc_X10_knot⟩ yd_X10_knot ob_60 (by decide) rfl rfl hl.1 (Nat.le_of_ble_eq_true rfl) ⟨by simp only [ti_rm]; omega, by simp only [ti_rm]; omega⟩ ⟨Nat.zero_le _, Nat.zero_le _⟩ dX10_negation_93 (fun M_125 H locs hp_125 hw => ?_)
            obtain ⟨iM_125, q_126, z_127, z_128, z_129, z_130, z_131, z_132⟩ := l_kn hp_125
            clear hp_125
            refine lv_aload_n hx hb dX10_negation_96 rfl (lv_at hl 1 rfl) ?_
            refine ti_callVvE (ci := 10) (av := []) C hE hw (s_X10_goOn l D A cy hJ M_125 iM_125 ) ⟨ml_X10_267, ym_X10_goOn, yv_X10_goOn, yi_X10_goOn, yc_X10_goOn⟩ yd_X10_goOn ob_60 (by decide) rfl rfl hl.1 (Nat.le_of_ble_eq_true rfl) ⟨by simp only [ti_rm]; omega, by simp only [ti_rm]; omega⟩ ⟨Nat.zero_le _, Nat.zero_le _⟩ dX10_negation_97 (fun M_134 H locs hp_134 hw => ?_)
            obtain ⟨iM_134, q_135, z_136, z_137, z_138, z_139, z_140⟩ := l_go hp_134
            clear hp_134
            refine lv_aload_n hx hb dX10_negation_100 rfl (lv_at hl 1 rfl) ?_
            refine ti_callVvE (ci := 10) (av := []) C hE hw (s_X10_sum l D A cy hJ M_134 iM_134 j a (d + 1) (by omega) (us_q (x := 21) (y := 30) u_68 (pr.trans (pr_w q_135 (by decide) (by decide)) (pr_w q_126 (by decide) (by decide))) (by omega)) (by omega) (by omega) (by omega) ih) ⟨ml_X10_288, ym_X10_sum, yv_X10_sum, yi_X10_sum, yc_X10_sum⟩ yd_X10_sum ob_60 (by decide) rfl rfl hl.1 (Nat.le_of_ble_eq_true rfl) ⟨by simp only [ti_rm]; omega, by simp only [ti_rm]; omega⟩ ⟨Nat.zero_le _, Nat.zero_le _⟩ dX10_negation_101 (fun M_142 H locs hp_142 hw => ?_)
            obtain ⟨iM_142, q_143, p_144, p_145, p_146, p_147, p_148, p_149, p_150, p_151, p_152, p_153, p_154, p_155, p_156, u_157⟩ := hp_142
            refine lv_aload_n hx hb dX10_negation_104 rfl (lv_at hl 1 rfl) ?_
            refine lv_iconst (v := 2) hx hb dX10_negation_105 (by decide) ?_
            refine lv_iload_n hx hb dX10_negation_106 rfl (lv_at hl 0 rfl) ?_
            refine ti_callVv (ci := 10) (av := [.int 2, .int x_75]) C hw (s_X10_puts l D A cy hJ M_142 iM_142 a (d + 1 + 1) (d + 1) 2 x_75 u_157 (nL (by omega)) (by first | exact Or.inr (Or.inr (Or.inl ⟨by decide, by omega, rfl⟩)) | exact nF (by omega))) ⟨ml_X10_282, ym_X10_puts, yv_X10_puts, yi_X10_puts, yc_X10_puts⟩ yd_X10_puts ob_60 (by decide) rfl rfl hl.1 (Nat.le_of_ble_eq_true rfl) ⟨by simp only [ti_rm]; omega, by simp only [ti_rm]; omega⟩ ⟨Nat.zero_le _, Nat.zero_le _⟩ dX10_negation_107 (fun M_159 H locs hp_159 hw => ?_)
            obtain ⟨iM_159, q_160, u_161, z_162, z_163, z_164, z_165, z_166, z_167⟩ := l_pu iM_142 hp_159
            clear hp_159
            exact hQ _ _ _ _ _ hw (⟨iM_159, (pe.trans q_160 (pe.trans q_143 (pe.trans (pe_pr q_135 (by decide) (by decide)) (pe.trans (pe_pr q_126 (by decide) (by decide)) q_54)))), (by omega), (by omega), (by omega), (by omega), (by omega), (by omega), (by omega), (by omega), (by omega), (by omega), (by omega), (by omega), (by omega), u_161⟩) dX10_negation_110
          · refine lv_aload_n hx hb dX10_negation_67 rfl (lv_at hl 0 rfl) ?_
            refine ti_get (ci := 10) (k := 24) (N := 67) (T := TX10) C hw iw_10 rfl ob_60 (by decide) (by decide) fl_X10_183 rfl rfl dX10_negation_68 ?_
            refine ti_top (y := x_75) (ex_75.symm) ?_
            refine lv_bipush (v := 61) hx hb dX10_negation_71 (by decide) ?_
            refine sb_icmp_eq (tgt := 87) hx hb rfl (by decide : (61 : Int32).toInt = 61) dX10_negation_73 (by decide) (fun c_73_77 => ?_) (fun c_73_77 => ?_)
            · refine lv_aload_n hx hb dX10_negation_87 rfl (lv_at hl 0 rfl) ?_
              refine ti_get (ci := 10) (k := 24) (N := 67) (T := TX10) C hw iw_10 rfl ob_60 (by decide) (by decide) fl_X10_183 rfl rfl dX10_negation_88 ?_
              refine ti_top (y := x_75) (ex_75.symm) ?_
              refine lv_istore_n (lv' := [(1, .int x_75), (0, .ref (A 60 0))]) hx hb dX10_negation_91 rfl hl (by decide) rfl (fun ls hl => ?_)
              refine lv_aload_n hx hb dX10_negation_92 rfl (lv_at hl 1 rfl) ?_
              refine ti_callVv (ci := 10) (av := []) C hw (s_X10_knot l D A cy hJ M_53 iM_53 ) ⟨ml_X10_279, ym_X10_knot, yv_X10_knot, yi_X10_knot, yc_X10_knot⟩ yd_X10_knot ob_60 (by decide) rfl rfl hl.1 (Nat.le_of_ble_eq_true rfl) ⟨by simp only [ti_rm]; omega, by simp only [ti_rm]; omega⟩ ⟨Nat.zero_le _, Nat.zero_le _⟩ dX10_negation_93 (fun M_169 H locs hp_169 hw => ?_)
              obtain ⟨iM_169, q_170, z_171, z_172, z_173, z_174, z_175, z_176⟩ := l_kn hp_169
              clear hp_169
              refine lv_aload_n hx hb dX10_negation_96 rfl (lv_at hl 1 rfl) ?_
              refine ti_callVvE (ci := 10) (av := []) C hE hw (s_X10_goOn l D A cy hJ M_169 iM_169 ) ⟨ml_X10_267, ym_X10_goOn, yv_X10_goOn, yi_X10_goOn, yc_X10_goOn⟩ yd_X10_goOn ob_60 (by decide) rfl rfl hl.1 (Nat.le_of_ble_eq_true rfl) ⟨by simp only [ti_rm]; omega, by simp only [ti_rm]; omega⟩ ⟨Nat.zero_le _, Nat.zero_le _⟩ dX10_negation_97 (fun M_178 H locs hp_178 hw => ?_)
              obtain ⟨iM_178, q_179, z_180, z_181, z_182, z_183, z_184⟩ := l_go hp_178
              clear hp_178
              refine lv_aload_n hx hb dX10_negation_100 rfl (lv_at hl 1 rfl) ?_
              refine ti_callVvE (ci := 10) (av := []) C hE hw (s_X10_sum l D A cy hJ M_178 iM_178 j a (d + 1) (by omega) (us_q (x := 21) (y := 30) u_68 (pr.trans (pr_w q_179 (by decide) (by decide)) (pr_w q_170 (by decide) (by decide))) (by omega)) (by omega) (by omega) (by omega) ih) ⟨ml_X10_288, ym_X10_sum, yv_X10_sum, yi_X10_sum, yc_X10_sum⟩ yd_X10_sum ob_60 (by decide) rfl rfl hl.1 (Nat.le_of_ble_eq_true rfl) ⟨by simp only [ti_rm]; omega, by simp only [ti_rm]; omega⟩ ⟨Nat.zero_le _, Nat.zero_le _⟩ dX10_negation_101 (fun M_186 H locs hp_186 hw => ?_)
              obtain ⟨iM_186, q_187, p_188, p_189, p_190, p_191, p_192, p_193, p_194, p_195, p_196, p_197, p_198, p_199, p_200, u_201⟩ := hp_186
              refine lv_aload_n hx hb dX10_negation_104 rfl (lv_at hl 1 rfl) ?_
              refine lv_iconst (v := 2) hx hb dX10_negation_105 (by decide) ?_
              refine lv_iload_n hx hb dX10_negation_106 rfl (lv_at hl 0 rfl) ?_
              refine ti_callVv (ci := 10) (av := [.int 2, .int x_75]) C hw (s_X10_puts l D A cy hJ M_186 iM_186 a (d + 1 + 1) (d + 1) 2 x_75 u_201 (nL (by omega)) (by first | exact Or.inr (Or.inr (Or.inl ⟨by decide, by omega, rfl⟩)) | exact nF (by omega))) ⟨ml_X10_282, ym_X10_puts, yv_X10_puts, yi_X10_puts, yc_X10_puts⟩ yd_X10_puts ob_60 (by decide) rfl rfl hl.1 (Nat.le_of_ble_eq_true rfl) ⟨by simp only [ti_rm]; omega, by simp only [ti_rm]; omega⟩ ⟨Nat.zero_le _, Nat.zero_le _⟩ dX10_negation_107 (fun M_203 H locs hp_203 hw => ?_)
              obtain ⟨iM_203, q_204, u_205, z_206, z_207, z_208, z_209, z_210, z_211⟩ := l_pu iM_186 hp_203
              clear hp_203
              exact hQ _ _ _ _ _ hw (⟨iM_203, (pe.trans q_204 (pe.trans q_187 (pe.trans (pe_pr q_179 (by decide) (by decide)) (pe.trans (pe_pr q_170 (by decide) (by decide)) q_54)))), (by omega), (by omega), (by omega), (by omega), (by omega), (by omega), (by omega), (by omega), (by omega), (by omega), (by omega), (by omega), (by omega), u_205⟩) dX10_negation_110
            · refine lv_aload_n hx hb dX10_negation_76 rfl (lv_at hl 0 rfl) ?_
              refine ti_get (ci := 10) (k := 24) (N := 67) (T := TX10) C hw iw_10 rfl ob_60 (by decide) (by decide) fl_X10_183 rfl rfl dX10_negation_77 ?_
              refine ti_top (y := x_75) (ex_75.symm) ?_
              refine lv_sipush (v := 256) hx hb dX10_negation_80 (by decide) ?_
              refine sb_icmp_ge (tgt := 87) hx hb rfl (by decide : (256 : Int32).toInt = 256) dX10_negation_83 (by decide) (fun c_83_78 => ?_) (fun c_83_78 => ?_)
              · refine lv_aload_n hx hb dX10_negation_87 rfl (lv_at hl 0 rfl) ?_
                refine ti_get (ci := 10) (k := 24) (N := 67) (T := TX10) C hw iw_10 rfl ob_60 (by decide) (by decide) fl_X10_183 rfl rfl dX10_negation_88 ?_
                refine ti_top (y := x_75) (ex_75.symm) ?_
                refine lv_istore_n (lv' := [(1, .int x_75), (0, .ref (A 60 0))]) hx hb dX10_negation_91 rfl hl (by decide) rfl (fun ls hl => ?_)
                refine lv_aload_n hx hb dX10_negation_92 rfl (lv_at hl 1 rfl) ?_
                refine ti_callVv (ci := 10) (av := []) C hw (s_X10_knot l D A cy hJ M_53 iM_53 ) ⟨ml_X10_279, ym_X10_knot, yv_X10_knot, yi_X10_knot, yc_X10_knot⟩ yd_X10_knot ob_60 (by decide) rfl rfl hl.1 (Nat.le_of_ble_eq_true rfl) ⟨by simp only [ti_rm]; omega, by simp only [ti_rm]; omega⟩ ⟨Nat.zero_le _, Nat.zero_le _⟩ dX10_negation_93 (fun M_213 H locs hp_213 hw => ?_)
                obtain ⟨iM_213, q_214, z_215, z_216, z_217, z_218, z_219, z_220⟩ := l_kn hp_213
                clear hp_213
                refine lv_aload_n hx hb dX10_negation_96 rfl (lv_at hl 1 rfl) ?_
                refine ti_callVvE (ci := 10) (av := []) C hE hw (s_X10_goOn l D A cy hJ M_213 iM_213 ) ⟨ml_X10_267, ym_X10_goOn, yv_X10_goOn, yi_X10_goOn, yc_X10_goOn⟩ yd_X10_goOn ob_60 (by decide) rfl rfl hl.1 (Nat.le_of_ble_eq_true rfl) ⟨by simp only [ti_rm]; omega, by simp only [ti_rm]; omega⟩ ⟨Nat.zero_le _, Nat.zero_le _⟩ dX10_negation_97 (fun M_222 H locs hp_222 hw => ?_)
                obtain ⟨iM_222, q_223, z_224, z_225, z_226, z_227, z_228⟩ := l_go hp_222
                clear hp_222
                refine lv_aload_n hx hb dX10_negation_100 rfl (lv_at hl 1 rfl) ?_
                refine ti_callVvE (ci := 10) (av := []) C hE hw (s_X10_sum l D A cy hJ M_222 iM_222 j a (d + 1) (by omega) (us_q (x := 21) (y := 30) u_68 (pr.trans (pr_w q_223 (by decide) (by decide)) (pr_w q_214 (by decide) (by decide))) (by omega)) (by omega) (by omega) (by omega) ih) ⟨ml_X10_288, ym_X10_sum, yv_X10_sum, yi_X10_sum, yc_X10_sum⟩ yd_X10_sum ob_60 (by decide) rfl rfl hl.1 (Nat.le_of_ble_eq_true rfl) ⟨by simp only [ti_rm]; omega, by simp only [ti_rm]; omega⟩ ⟨Nat.zero_le _, Nat.zero_le _⟩ dX10_negation_101 (fun M_230 H locs hp_230 hw => ?_)
                obtain ⟨iM_230, q_231, p_232, p_233, p_234, p_235, p_236, p_237, p_238, p_239, p_240, p_241, p_242, p_243, p_244, u_245⟩ := hp_230
                refine lv_aload_n hx hb dX10_negation_104 rfl (lv_at hl 1 rfl) ?_
                refine lv_iconst (v := 2) hx hb dX10_negation_105 (by decide) ?_
                refine lv_iload_n hx hb dX10_negation_106 rfl (lv_at hl 0 rfl) ?_
                refine ti_callVv (ci := 10) (av := [.int 2, .int x_75]) C hw (s_X10_puts l D A cy hJ M_230 iM_230 a (d + 1 + 1) (d + 1) 2 x_75 u_245 (nL (by omega)) (by first | exact Or.inr (Or.inr (Or.inl ⟨by decide, by omega, rfl⟩)) | exact nF (by omega))) ⟨ml_X10_282, ym_X10_puts, yv_X10_puts, yi_X10_puts, yc_X10_puts⟩ yd_X10_puts ob_60 (by decide) rfl rfl hl.1 (Nat.le_of_ble_eq_true rfl) ⟨by simp only [ti_rm]; omega, by simp only [ti_rm]; omega⟩ ⟨Nat.zero_le _, Nat.zero_le _⟩ dX10_negation_107 (fun M_247 H locs hp_247 hw => ?_)
                obtain ⟨iM_247, q_248, u_249, z_250, z_251, z_252, z_253, z_254, z_255⟩ := l_pu iM_230 hp_247
                clear hp_247
                exact hQ _ _ _ _ _ hw (⟨iM_247, (pe.trans q_248 (pe.trans q_231 (pe.trans (pe_pr q_223 (by decide) (by decide)) (pe.trans (pe_pr q_214 (by decide) (by decide)) q_54)))), (by omega), (by omega), (by omega), (by omega), (by omega), (by omega), (by omega), (by omega), (by omega), (by omega), (by omega), (by omega), (by omega), u_249⟩) dX10_negation_110
              · exact hQ _ _ _ _ _ hw (⟨iM_53, q_54, (by omega), (by omega), (by omega), (by omega), (by omega), (by omega), (by omega), (by omega), (by omega), (by omega), (by omega), (by omega), (by omega), u_68⟩) dX10_negation_86
theorem s_X10_negation_n (j : Nat) (ih : ∀ i : Nat, i < j → ∀ (l : Launch) (D : va_G) (A : Nat → Nat → Nat) (cy : Nat → ClassId) (hJ : ti_inj ti_LM A) (M : ti_M) (hI : mI Tm M) (a d : Nat) (hj : i ≤ 8) (hu : us M a d) (hc : (tY M 60 3 18).toInt ≤ (tI M 60 30).toInt + 64 - 64 * ff M) (ho : (tI M 60 29).toInt + i ≤ 16 - 8 * ff M) (ho2 : 8 * ff M ≤ (tI M 60 29).toInt + i), ti_KvE l yX10_expression cX10_expression 1 (78 + 71 * i) ti_LM D A cy M [.ref (A 60 0)] (fun M2 => mI Tm M2 ∧ pe M2 M ∧ (pg M ≤ pg M2) ∧ (0 ≤ ff M2) ∧ (ff M2 ≤ ff M) ∧ ((tI M 60 30).toInt ≤ (tI M2 60 30).toInt) ∧ ((tI M2 60 30).toInt ≤ 64) ∧ ((tI M2 60 29).toInt ≤ (tI M 60 29).toInt + 8 - 8 * ff M2) ∧ ((tI M 60 29).toInt ≤ (tI M2 60 29).toInt + 8 - 8 * ff M2) ∧ ((tI M2 60 30).toInt - (tY M2 60 3 18).toInt ≤ (tI M 60 30).toInt - (tY M 60 3 18).toInt + 200 - 200 * ff M2) ∧ ((tI M 60 30).toInt - (tY M 60 3 18).toInt ≤ (tI M2 60 30).toInt - (tY M2 60 3 18).toInt + 200 - 200 * ff M2) ∧ (0 ≤ (tY M2 60 3 18).toInt) ∧ ((tY M2 60 3 18).toInt ≤ 64) ∧ (0 ≤ (tI M2 60 29).toInt) ∧ ((tI M2 60 29).toInt ≤ 8) ∧ us M2 a (d + 1))) : ∀ n : Nat, ∀ (l : Launch) (D : va_G) (A : Nat → Nat → Nat) (cy : Nat → ClassId) (hJ : ti_inj ti_LM A) (M : ti_M) (hI : mI Tm M) (a d : Nat) (hj : j ≤ 8) (hu : us M a d) (hc : (tY M 60 3 18).toInt ≤ (tI M 60 30).toInt + 64 - 64 * ff M) (ho : (tI M 60 29).toInt + j ≤ 16 - 8 * ff M) (ho2 : 8 * ff M ≤ (tI M 60 29).toInt + j) (hn : 64 - (tI M 60 30).toInt + ff M ≤ n), ti_KvE l yX10_negation cX10_negation 2 (11 + 71 * j + n) ti_LM D A cy M [.ref (A 60 0)] (fun M2 => mI Tm M2 ∧ pe M2 M ∧ (pg M ≤ pg M2) ∧ (0 ≤ ff M2) ∧ (ff M2 ≤ ff M) ∧ ((tI M 60 30).toInt ≤ (tI M2 60 30).toInt) ∧ ((tI M2 60 30).toInt ≤ 64) ∧ ((tI M2 60 29).toInt ≤ (tI M 60 29).toInt + 8 - 8 * ff M2) ∧ ((tI M 60 29).toInt ≤ (tI M2 60 29).toInt + 8 - 8 * ff M2) ∧ ((tI M2 60 30).toInt - (tY M2 60 3 18).toInt ≤ (tI M 60 30).toInt - (tY M 60 3 18).toInt + 200 - 200 * ff M2) ∧ ((tI M 60 30).toInt - (tY M 60 3 18).toInt ≤ (tI M2 60 30).toInt - (tY M2 60 3 18).toInt + 200 - 200 * ff M2) ∧ (0 ≤ (tY M2 60 3 18).toInt) ∧ ((tY M2 60 3 18).toInt ≤ 64) ∧ (0 ≤ (tI M2 60 29).toInt) ∧ ((tI M2 60 29).toInt ≤ 8) ∧ us M2 a (d + 1)) := by
  intro n
  induction n using Nat.strongRecOn with
  | ind n ihn =>
    intro l D A cy hJ M hI a d hj hu hc ho ho2 hn
    exact s_X10_negation_s l D A cy hJ M hI j a d hj hu hc ho ho2 ih n hn ihn
set_option maxHeartbeats 4000000 in
set_option maxRecDepth 100000 in
theorem s_X10_conjunction (l : Launch) (D : va_G) (A : Nat → Nat → Nat) (cy : Nat → ClassId) (hJ : ti_inj ti_LM A) (M : ti_M) (hI : mI Tm M) (j a d : Nat) (hj : j ≤ 8) (hu : us M a d) (hc : (tY M 60 3 18).toInt ≤ (tI M 60 30).toInt + 64 - 64 * ff M) (ho : (tI M 60 29).toInt + j ≤ 16 - 8 * ff M) (ho2 : 8 * ff M ≤ (tI M 60 29).toInt + j) (ih : ∀ i : Nat, i < j → ∀ (l : Launch) (D : va_G) (A : Nat → Nat → Nat) (cy : Nat → ClassId) (hJ : ti_inj ti_LM A) (M : ti_M) (hI : mI Tm M) (a d : Nat) (hj : i ≤ 8) (hu : us M a d) (hc : (tY M 60 3 18).toInt ≤ (tI M 60 30).toInt + 64 - 64 * ff M) (ho : (tI M 60 29).toInt + i ≤ 16 - 8 * ff M) (ho2 : 8 * ff M ≤ (tI M 60 29).toInt + i), ti_KvE l yX10_expression cX10_expression 1 (78 + 71 * i) ti_LM D A cy M [.ref (A 60 0)] (fun M2 => mI Tm M2 ∧ pe M2 M ∧ (pg M ≤ pg M2) ∧ (0 ≤ ff M2) ∧ (ff M2 ≤ ff M) ∧ ((tI M 60 30).toInt ≤ (tI M2 60 30).toInt) ∧ ((tI M2 60 30).toInt ≤ 64) ∧ ((tI M2 60 29).toInt ≤ (tI M 60 29).toInt + 8 - 8 * ff M2) ∧ ((tI M 60 29).toInt ≤ (tI M2 60 29).toInt + 8 - 8 * ff M2) ∧ ((tI M2 60 30).toInt - (tY M2 60 3 18).toInt ≤ (tI M 60 30).toInt - (tY M 60 3 18).toInt + 200 - 200 * ff M2) ∧ ((tI M 60 30).toInt - (tY M 60 3 18).toInt ≤ (tI M2 60 30).toInt - (tY M2 60 3 18).toInt + 200 - 200 * ff M2) ∧ (0 ≤ (tY M2 60 3 18).toInt) ∧ ((tY M2 60 3 18).toInt ≤ 64) ∧ (0 ≤ (tI M2 60 29).toInt) ∧ ((tI M2 60 29).toInt ≤ 8) ∧ us M2 a (d + 1))) : ti_KvE l yX10_conjunction cX10_conjunction 1 (77 + 71 * j) ti_LM D A cy M [.ref (A 60 0)] (fun M2 => mI Tm M2 ∧ pe M2 M ∧ (pg M ≤ pg M2) ∧ (0 ≤ ff M2) ∧ (ff M2 ≤ ff M) ∧ ((tI M 60 30).toInt ≤ (tI M2 60 30).toInt) ∧ ((tI M2 60 30).toInt ≤ 64) ∧ ((tI M2 60 29).toInt ≤ (tI M 60 29).toInt + 8 - 8 * ff M2) ∧ ((tI M 60 29).toInt ≤ (tI M2 60 29).toInt + 8 - 8 * ff M2) ∧ ((tI M2 60 30).toInt - (tY M2 60 3 18).toInt ≤ (tI M 60 30).toInt - (tY M 60 3 18).toInt + 200 - 200 * ff M2) ∧ ((tI M 60 30).toInt - (tY M 60 3 18).toInt ≤ (tI M2 60 30).toInt - (tY M2 60 3 18).toInt + 200 - 200 * ff M2) ∧ (0 ≤ (tY M2 60 3 18).toInt) ∧ ((tY M2 60 3 18).toInt ≤ 64) ∧ (0 ≤ (tI M2 60 29).toInt) ∧ ((tI M2 60 29).toInt ≤ 8) ∧ us M2 a (d + 1)) := by
  refine ti_eVE yp_X10_conjunction hJ ti_LM_nd (Nat.le_of_ble_eq_true rfl) ?_
  intro p e s m args below meth c Q H0 C hE hQ hw ls hl
  have hx := C.1
  have hb := C.2.1
  have hl : lv_has ls 1 [(0, .ref (A 60 0))] := hl
  have hI30 := b30 hI
  have hI29 := b29 hI
  have hI18 := b18 hI
  have hIff := ff_b M
  refine lv_aload_n hx hb dX10_conjunction_0 rfl (lv_at hl 0 rfl) ?_
  refine ti_callVvE (ci := 10) (av := []) C hE hw (s_X10_negation_n j ih 65 l D A cy hJ M hI a (d) (by omega) hu (by omega) (by omega) (by omega) (by omega)) ⟨ml_X10_285, ym_X10_negation, yv_X10_negation, yi_X10_negation, yc_X10_negation⟩ yd_X10_negation ob_60 (by decide) rfl rfl hl.1 (Nat.le_of_ble_eq_true rfl) ⟨by simp only [ti_rm]; omega, by simp only [ti_rm]; omega⟩ ⟨Nat.zero_le _, Nat.zero_le _⟩ dX10_conjunction_1 (fun M_2 H locs hp_2 hw => ?_)
  obtain ⟨iM_2, q_3, p_4, p_5, p_6, p_7, p_8, p_9, p_10, p_11, p_12, p_13, p_14, p_15, p_16, u_17⟩ := hp_2
  have hl_4_33 : ∀ (n_34 : Nat) (M_18 : ti_M) (H : Heap) (locs : List Loc) (ls : Array Slot), (64 - (tI M_18 60 30).toInt + ff M_18 : Int).toNat < n_34 → (mI Tm M_18) → (pe M_18 M) → (us M_18 a (d + 1)) → (pg M ≤ pg M_18) → (0 ≤ ff M_18) → (ff M_18 ≤ ff M) → ((tI M 60 30).toInt ≤ (tI M_18 60 30).toInt) → ((tI M_18 60 30).toInt ≤ 64) → ((tI M_18 60 29).toInt ≤ (tI M 60 29).toInt + 8 - 8 * ff M_18) → ((tI M 60 29).toInt ≤ (tI M_18 60 29).toInt + 8 - 8 * ff M_18) → ((tI M_18 60 30).toInt - (tY M_18 60 3 18).toInt ≤ (tI M 60 30).toInt - (tY M 60 3 18).toInt + 200 - 200 * ff M_18) → ((tI M 60 30).toInt - (tY M 60 3 18).toInt ≤ (tI M_18 60 30).toInt - (tY M_18 60 3 18).toInt + 200 - 200 * ff M_18) → (0 ≤ (tY M_18 60 3 18).toInt) → ((tY M_18 60 3 18).toInt ≤ 64) → (0 ≤ (tI M_18 60 29).toInt) → ((tI M_18 60 29).toInt ≤ 8) → ti_H ti_LM D A cy H0 M_18 H locs → lv_has ls 1 [(0, .ref (A 60 0))] → W p l e (ti_rm (77 + 71 * j)) s m args below meth c H locs 0 0 Q (F0 m 4 ls []) := by
    intro n_34
    induction n_34 with
    | zero => intro M_18 H locs ls hf_34; exact absurd hf_34 (Nat.not_lt_zero _)
    | succ n_34 ih_34 =>
      intro M_18 H locs ls hf_34 iM_18 f_19 j_20 j_21 j_22 j_23 j_24 j_25 j_26 j_27 j_28 j_29 j_30 j_31 j_32 j_33 hw hl
      refine lv_aload_n hx hb dX10_conjunction_4 rfl (lv_at hl 0 rfl) ?_
      refine lv_bipush (v := 17) hx hb dX10_conjunction_5 (by decide) ?_
      refine ti_callVi (ci := 10) (av := [.int 17]) C hw (s_X10_isWord l D A cy hJ M_18 iM_18 17) ⟨ml_X10_261, ym_X10_isWord, yv_X10_isWord, yi_X10_isWord, yc_X10_isWord⟩ yd_X10_isWord ob_60 (by decide) rfl rfl hl.1 (Nat.le_of_ble_eq_true rfl) ⟨by simp only [ti_rm]; omega, by simp only [ti_rm]; omega⟩ ⟨Nat.zero_le _, Nat.zero_le _⟩ dX10_conjunction_7 (fun r_35 M_36 H locs hp_36 hw => ?_)
      obtain ⟨hm, hz⟩ := hp_36
      have hw := hw.to hm
      rcases hz with ⟨rfl, d0_37, d1_37, d2_37⟩ | rfl
      · have z_38 : ff M_18 = 1 := ff_1 d0_37
        have z_39 : pg M_18 = 2 * (tI M_18 60 21).toInt := pg_3 (by rw [d1_37]; decide)
        refine sb_if_eq (tgt := 36) hx hb (by decide : (1 : Int32).toInt = 1) dX10_conjunction_10 (by decide) (fun h => absurd h (by decide)) (fun c_10_39 => ?_)
        refine lv_aload_n hx hb dX10_conjunction_13 rfl (lv_at hl 0 rfl) ?_
        refine ti_callVv (ci := 10) (av := []) C hw (s_X10_knot l D A cy hJ M_18 iM_18 ) ⟨ml_X10_279, ym_X10_knot, yv_X10_knot, yi_X10_knot, yc_X10_knot⟩ yd_X10_knot ob_60 (by decide) rfl rfl hl.1 (Nat.le_of_ble_eq_true rfl) ⟨by simp only [ti_rm]; omega, by simp only [ti_rm]; omega⟩ ⟨Nat.zero_le _, Nat.zero_le _⟩ dX10_conjunction_14 (fun M_43 H locs hp_43 hw => ?_)
        obtain ⟨iM_43, q_44, z_45, z_46, z_47, z_48, z_49, z_50⟩ := l_kn hp_43
        clear hp_43
        refine lv_aload_n hx hb dX10_conjunction_17 rfl (lv_at hl 0 rfl) ?_
        refine ti_callVvE (ci := 10) (av := []) C hE hw (s_X10_goOn l D A cy hJ M_43 iM_43 ) ⟨ml_X10_267, ym_X10_goOn, yv_X10_goOn, yi_X10_goOn, yc_X10_goOn⟩ yd_X10_goOn ob_60 (by decide) rfl rfl hl.1 (Nat.le_of_ble_eq_true rfl) ⟨by simp only [ti_rm]; omega, by simp only [ti_rm]; omega⟩ ⟨Nat.zero_le _, Nat.zero_le _⟩ dX10_conjunction_18 (fun M_52 H locs hp_52 hw => ?_)
        obtain ⟨iM_52, q_53, z_54, z_55, z_56, z_57, z_58⟩ := l_go hp_52
        clear hp_52
        refine lv_aload_n hx hb dX10_conjunction_21 rfl (lv_at hl 0 rfl) ?_
        refine ti_callVvE (ci := 10) (av := []) C hE hw (s_X10_negation_n j ih 65 l D A cy hJ M_52 iM_52 a (d + 1) (by omega) (us_q (x := 21) (y := 30) j_20 (pr.trans (pr_w q_53 (by decide) (by decide)) (pr_w q_44 (by decide) (by decide))) (by omega)) (by omega) (by omega) (by omega) (by omega)) ⟨ml_X10_285, ym_X10_negation, yv_X10_negation, yi_X10_negation, yc_X10_negation⟩ yd_X10_negation ob_60 (by decide) rfl rfl hl.1 (Nat.le_of_ble_eq_true rfl) ⟨by simp only [ti_rm]; omega, by simp only [ti_rm]; omega⟩ ⟨Nat.zero_le _, Nat.zero_le _⟩ dX10_conjunction_22 (fun M_60 H locs hp_60 hw => ?_)
        obtain ⟨iM_60, q_61, p_62, p_63, p_64, p_65, p_66, p_67, p_68, p_69, p_70, p_71, p_72, p_73, p_74, u_75⟩ := hp_60
        refine lv_aload_n hx hb dX10_conjunction_25 rfl (lv_at hl 0 rfl) ?_
        refine lv_iconst (v := 2) hx hb dX10_conjunction_26 (by decide) ?_
        refine lv_sipush (v := 261) hx hb dX10_conjunction_27 (by decide) ?_
        refine ti_callVv (ci := 10) (av := [.int 2, .int 261]) C hw (s_X10_puts l D A cy hJ M_60 iM_60 a (d + 1 + 1) (d + 1) 2 261 u_75 (nL (by omega)) (by first | exact Or.inr (Or.inr (Or.inl ⟨by decide, by omega, rfl⟩)) | exact nF (by omega))) ⟨ml_X10_282, ym_X10_puts, yv_X10_puts, yi_X10_puts, yc_X10_puts⟩ yd_X10_puts ob_60 (by decide) rfl rfl hl.1 (Nat.le_of_ble_eq_true rfl) ⟨by simp only [ti_rm]; omega, by simp only [ti_rm]; omega⟩ ⟨Nat.zero_le _, Nat.zero_le _⟩ dX10_conjunction_30 (fun M_77 H locs hp_77 hw => ?_)
        obtain ⟨iM_77, q_78, u_79, z_80, z_81, z_82, z_83, z_84, z_85⟩ := l_pu iM_60 hp_77
        clear hp_77
        refine lv_goto (tgt := 4) hx hb dX10_conjunction_33 (by decide) ?_
        exact ih_34 M_77 _ _ _ (by omega) iM_77 (pe.trans q_78 (pe.trans q_61 (pe.trans (pe_pr q_53 (by decide) (by decide)) (pe.trans (pe_pr q_44 (by decide) (by decide)) f_19)))) u_79 (by first | omega | decide) (by first | omega | decide) (by first | omega | decide) (by first | omega | decide) (by first | omega | decide) (by first | omega | decide) (by first | omega | decide) (by first | omega | decide) (by first | omega | decide) (by first | omega | decide) (by first | omega | decide) (by first | omega | decide) (by first | omega | decide) hw (lv_sub hl [0] rfl)
      · refine sb_if_eq (tgt := 36) hx hb (by decide : (0 : Int32).toInt = 0) dX10_conjunction_10 (by decide) (fun c_10_40 => ?_) (fun h => absurd h (by decide))
        exact hQ _ _ _ _ _ hw (⟨iM_18, f_19, (by omega), (by omega), (by omega), (by omega), (by omega), (by omega), (by omega), (by omega), (by omega), (by omega), (by omega), (by omega), (by omega), j_20⟩) dX10_conjunction_36
  exact hl_4_33 ((64 - (tI M_2 60 30).toInt + ff M_2 : Int).toNat + 1) M_2 _ _ _ (Nat.lt_succ_self _) iM_2 q_3 u_17 (by first | omega | decide) (by first | omega | decide) (by first | omega | decide) (by first | omega | decide) (by first | omega | decide) (by first | omega | decide) (by first | omega | decide) (by first | omega | decide) (by first | omega | decide) (by first | omega | decide) (by first | omega | decide) (by first | omega | decide) (by first | omega | decide) hw (lv_sub hl [0] rfl)
set_option maxHeartbeats 4000000 in
set_option maxRecDepth 100000 in
theorem s_X10_expression_s (l : Launch) (D : va_G) (A : Nat → Nat → Nat) (cy : Nat → ClassId) (hJ : ti_inj ti_LM A) (M : ti_M) (hI : mI Tm M) (j a d : Nat) (hj : j ≤ 8) (hu : us M a d) (hc : (tY M 60 3 18).toInt ≤ (tI M 60 30).toInt + 64 - 64 * ff M) (ho : (tI M 60 29).toInt + j ≤ 16 - 8 * ff M) (ho2 : 8 * ff M ≤ (tI M 60 29).toInt + j) (ih : ∀ i : Nat, i < j → ∀ (l : Launch) (D : va_G) (A : Nat → Nat → Nat) (cy : Nat → ClassId) (hJ : ti_inj ti_LM A) (M : ti_M) (hI : mI Tm M) (a d : Nat) (hj : i ≤ 8) (hu : us M a d) (hc : (tY M 60 3 18).toInt ≤ (tI M 60 30).toInt + 64 - 64 * ff M) (ho : (tI M 60 29).toInt + i ≤ 16 - 8 * ff M) (ho2 : 8 * ff M ≤ (tI M 60 29).toInt + i), ti_KvE l yX10_expression cX10_expression 1 (78 + 71 * i) ti_LM D A cy M [.ref (A 60 0)] (fun M2 => mI Tm M2 ∧ pe M2 M ∧ (pg M ≤ pg M2) ∧ (0 ≤ ff M2) ∧ (ff M2 ≤ ff M) ∧ ((tI M 60 30).toInt ≤ (tI M2 60 30).toInt) ∧ ((tI M2 60 30).toInt ≤ 64) ∧ ((tI M2 60 29).toInt ≤ (tI M 60 29).toInt + 8 - 8 * ff M2) ∧ ((tI M 60 29).toInt ≤ (tI M2 60 29).toInt + 8 - 8 * ff M2) ∧ ((tI M2 60 30).toInt - (tY M2 60 3 18).toInt ≤ (tI M 60 30).toInt - (tY M 60 3 18).toInt + 200 - 200 * ff M2) ∧ ((tI M 60 30).toInt - (tY M 60 3 18).toInt ≤ (tI M2 60 30).toInt - (tY M2 60 3 18).toInt + 200 - 200 * ff M2) ∧ (0 ≤ (tY M2 60 3 18).toInt) ∧ ((tY M2 60 3 18).toInt ≤ 64) ∧ (0 ≤ (tI M2 60 29).toInt) ∧ ((tI M2 60 29).toInt ≤ 8) ∧ us M2 a (d + 1))) : ti_KvE l yX10_expression cX10_expression 1 (78 + 71 * j) ti_LM D A cy M [.ref (A 60 0)] (fun M2 => mI Tm M2 ∧ pe M2 M ∧ (pg M ≤ pg M2) ∧ (0 ≤ ff M2) ∧ (ff M2 ≤ ff M) ∧ ((tI M 60 30).toInt ≤ (tI M2 60 30).toInt) ∧ ((tI M2 60 30).toInt ≤ 64) ∧ ((tI M2 60 29).toInt ≤ (tI M 60 29).toInt + 8 - 8 * ff M2) ∧ ((tI M 60 29).toInt ≤ (tI M2 60 29).toInt + 8 - 8 * ff M2) ∧ ((tI M2 60 30).toInt - (tY M2 60 3 18).toInt ≤ (tI M 60 30).toInt - (tY M 60 3 18).toInt + 200 - 200 * ff M2) ∧ ((tI M 60 30).toInt - (tY M 60 3 18).toInt ≤ (tI M2 60 30).toInt - (tY M2 60 3 18).toInt + 200 - 200 * ff M2) ∧ (0 ≤ (tY M2 60 3 18).toInt) ∧ ((tY M2 60 3 18).toInt ≤ 64) ∧ (0 ≤ (tI M2 60 29).toInt) ∧ ((tI M2 60 29).toInt ≤ 8) ∧ us M2 a (d + 1)) := by
  refine ti_eVE yp_X10_expression hJ ti_LM_nd (Nat.le_of_ble_eq_true rfl) ?_
  intro p e s m args below meth c Q H0 C hE hQ hw ls hl
  have hx := C.1
  have hb := C.2.1
  have hl : lv_has ls 1 [(0, .ref (A 60 0))] := hl
  have hI30 := b30 hI
  have hI29 := b29 hI
  have hI18 := b18 hI
  have hIff := ff_b M
  refine lv_aload_n hx hb dX10_expression_0 rfl (lv_at hl 0 rfl) ?_
  refine ti_callVvE (ci := 10) (av := []) C hE hw (s_X10_conjunction l D A cy hJ M hI j a (d) (by omega) hu (by omega) (by omega) (by omega) ih) ⟨ml_X10_276, ym_X10_conjunction, yv_X10_conjunction, yi_X10_conjunction, yc_X10_conjunction⟩ yd_X10_conjunction ob_60 (by decide) rfl rfl hl.1 (Nat.le_of_ble_eq_true rfl) ⟨by simp only [ti_rm]; omega, by simp only [ti_rm]; omega⟩ ⟨Nat.zero_le _, Nat.zero_le _⟩ dX10_expression_1 (fun M_2 H locs hp_2 hw => ?_)
  obtain ⟨iM_2, q_3, p_4, p_5, p_6, p_7, p_8, p_9, p_10, p_11, p_12, p_13, p_14, p_15, p_16, u_17⟩ := hp_2
  have hl_4_33 : ∀ (n_34 : Nat) (M_18 : ti_M) (H : Heap) (locs : List Loc) (ls : Array Slot), (64 - (tI M_18 60 30).toInt + ff M_18 : Int).toNat < n_34 → (mI Tm M_18) → (pe M_18 M) → (us M_18 a (d + 1)) → (pg M ≤ pg M_18) → (0 ≤ ff M_18) → (ff M_18 ≤ ff M) → ((tI M 60 30).toInt ≤ (tI M_18 60 30).toInt) → ((tI M_18 60 30).toInt ≤ 64) → ((tI M_18 60 29).toInt ≤ (tI M 60 29).toInt + 8 - 8 * ff M_18) → ((tI M 60 29).toInt ≤ (tI M_18 60 29).toInt + 8 - 8 * ff M_18) → ((tI M_18 60 30).toInt - (tY M_18 60 3 18).toInt ≤ (tI M 60 30).toInt - (tY M 60 3 18).toInt + 200 - 200 * ff M_18) → ((tI M 60 30).toInt - (tY M 60 3 18).toInt ≤ (tI M_18 60 30).toInt - (tY M_18 60 3 18).toInt + 200 - 200 * ff M_18) → (0 ≤ (tY M_18 60 3 18).toInt) → ((tY M_18 60 3 18).toInt ≤ 64) → (0 ≤ (tI M_18 60 29).toInt) → ((tI M_18 60 29).toInt ≤ 8) → ti_H ti_LM D A cy H0 M_18 H locs → lv_has ls 1 [(0, .ref (A 60 0))] → W p l e (ti_rm (78 + 71 * j)) s m args below meth c H locs 0 0 Q (F0 m 4 ls []) := by
    intro n_34
    induction n_34 with
    | zero => intro M_18 H locs ls hf_34; exact absurd hf_34 (Nat.not_lt_zero _)
    | succ n_34 ih_34 =>
      intro M_18 H locs ls hf_34 iM_18 f_19 j_20 j_21 j_22 j_23 j_24 j_25 j_26 j_27 j_28 j_29 j_30 j_31 j_32 j_33 hw hl
      refine lv_aload_n hx hb dX10_expression_4 rfl (lv_at hl 0 rfl) ?_
      refine lv_bipush (v := 16) hx hb dX10_expression_5 (by decide) ?_
      refine ti_callVi (ci := 10) (av := [.int 16]) C hw (s_X10_isWord l D A cy hJ M_18 iM_18 16) ⟨ml_X10_261, ym_X10_isWord, yv_X10_isWord, yi_X10_isWord, yc_X10_isWord⟩ yd_X10_isWord ob_60 (by decide) rfl rfl hl.1 (Nat.le_of_ble_eq_true rfl) ⟨by simp only [ti_rm]; omega, by simp only [ti_rm]; omega⟩ ⟨Nat.zero_le _, Nat.zero_le _⟩ dX10_expression_7 (fun r_35 M_36 H locs hp_36 hw => ?_)
      obtain ⟨hm, hz⟩ := hp_36
      have hw := hw.to hm
      rcases hz with ⟨rfl, d0_37, d1_37, d2_37⟩ | rfl
      · have z_38 : ff M_18 = 1 := ff_1 d0_37
        have z_39 : pg M_18 = 2 * (tI M_18 60 21).toInt := pg_3 (by rw [d1_37]; decide)
        refine sb_if_eq (tgt := 36) hx hb (by decide : (1 : Int32).toInt = 1) dX10_expression_10 (by decide) (fun h => absurd h (by decide)) (fun c_10_39 => ?_)
        refine lv_aload_n hx hb dX10_expression_13 rfl (lv_at hl 0 rfl) ?_
        refine ti_callVv (ci := 10) (av := []) C hw (s_X10_knot l D A cy hJ M_18 iM_18 ) ⟨ml_X10_279, ym_X10_knot, yv_X10_knot, yi_X10_knot, yc_X10_knot⟩ yd_X10_knot ob_60 (by decide) rfl rfl hl.1 (Nat.le_of_ble_eq_true rfl) ⟨by simp only [ti_rm]; omega, by simp only [ti_rm]; omega⟩ ⟨Nat.zero_le _, Nat.zero_le _⟩ dX10_expression_14 (fun M_43 H locs hp_43 hw => ?_)
        obtain ⟨iM_43, q_44, z_45, z_46, z_47, z_48, z_49, z_50⟩ := l_kn hp_43
        clear hp_43
        refine lv_aload_n hx hb dX10_expression_17 rfl (lv_at hl 0 rfl) ?_
        refine ti_callVvE (ci := 10) (av := []) C hE hw (s_X10_goOn l D A cy hJ M_43 iM_43 ) ⟨ml_X10_267, ym_X10_goOn, yv_X10_goOn, yi_X10_goOn, yc_X10_goOn⟩ yd_X10_goOn ob_60 (by decide) rfl rfl hl.1 (Nat.le_of_ble_eq_true rfl) ⟨by simp only [ti_rm]; omega, by simp only [ti_rm]; omega⟩ ⟨Nat.zero_le _, Nat.zero_le _⟩ dX10_expression_18 (fun M_52 H locs hp_52 hw => ?_)
        obtain ⟨iM_52, q_53, z_54, z_55, z_56, z_57, z_58⟩ := l_go hp_52
        clear hp_52
        refine lv_aload_n hx hb dX10_expression_21 rfl (lv_at hl 0 rfl) ?_
        refine ti_callVvE (ci := 10) (av := []) C hE hw (s_X10_conjunction l D A cy hJ M_52 iM_52 j a (d + 1) (by omega) (us_q (x := 21) (y := 30) j_20 (pr.trans (pr_w q_53 (by decide) (by decide)) (pr_w q_44 (by decide) (by decide))) (by omega)) (by omega) (by omega) (by omega) ih) ⟨ml_X10_276, ym_X10_conjunction, yv_X10_conjunction, yi_X10_conjunction, yc_X10_conjunction⟩ yd_X10_conjunction ob_60 (by decide) rfl rfl hl.1 (Nat.le_of_ble_eq_true rfl) ⟨by simp only [ti_rm]; omega, by simp only [ti_rm]; omega⟩ ⟨Nat.zero_le _, Nat.zero_le _⟩ dX10_expression_22 (fun M_60 H locs hp_60 hw => ?_)
        obtain ⟨iM_60, q_61, p_62, p_63, p_64, p_65, p_66, p_67, p_68, p_69, p_70, p_71, p_72, p_73, p_74, u_75⟩ := hp_60
        refine lv_aload_n hx hb dX10_expression_25 rfl (lv_at hl 0 rfl) ?_
        refine lv_iconst (v := 2) hx hb dX10_expression_26 (by decide) ?_
        refine lv_sipush (v := 262) hx hb dX10_expression_27 (by decide) ?_
        refine ti_callVv (ci := 10) (av := [.int 2, .int 262]) C hw (s_X10_puts l D A cy hJ M_60 iM_60 a (d + 1 + 1) (d + 1) 2 262 u_75 (nL (by omega)) (by first | exact Or.inr (Or.inr (Or.inl ⟨by decide, by omega, rfl⟩)) | exact nF (by omega))) ⟨ml_X10_282, ym_X10_puts, yv_X10_puts, yi_X10_puts, yc_X10_puts⟩ yd_X10_puts ob_60 (by decide) rfl rfl hl.1 (Nat.le_of_ble_eq_true rfl) ⟨by simp only [ti_rm]; omega, by simp only [ti_rm]; omega⟩ ⟨Nat.zero_le _, Nat.zero_le _⟩ dX10_expression_30 (fun M_77 H locs hp_77 hw => ?_)
        obtain ⟨iM_77, q_78, u_79, z_80, z_81, z_82, z_83, z_84, z_85⟩ := l_pu iM_60 hp_77
        clear hp_77
        refine lv_goto (tgt := 4) hx hb dX10_expression_33 (by decide) ?_
        exact ih_34 M_77 _ _ _ (by omega) iM_77 (pe.trans q_78 (pe.trans q_61 (pe.trans (pe_pr q_53 (by decide) (by decide)) (pe.trans (pe_pr q_44 (by decide) (by decide)) f_19)))) u_79 (by first | omega | decide) (by first | omega | decide) (by first | omega | decide) (by first | omega | decide) (by first | omega | decide) (by first | omega | decide) (by first | omega | decide) (by first | omega | decide) (by first | omega | decide) (by first | omega | decide) (by first | omega | decide) (by first | omega | decide) (by first | omega | decide) hw (lv_sub hl [0] rfl)
      · refine sb_if_eq (tgt := 36) hx hb (by decide : (0 : Int32).toInt = 0) dX10_expression_10 (by decide) (fun c_10_40 => ?_) (fun h => absurd h (by decide))
        exact hQ _ _ _ _ _ hw (⟨iM_18, f_19, (by omega), (by omega), (by omega), (by omega), (by omega), (by omega), (by omega), (by omega), (by omega), (by omega), (by omega), (by omega), (by omega), j_20⟩) dX10_expression_36
  exact hl_4_33 ((64 - (tI M_2 60 30).toInt + ff M_2 : Int).toNat + 1) M_2 _ _ _ (Nat.lt_succ_self _) iM_2 q_3 u_17 (by first | omega | decide) (by first | omega | decide) (by first | omega | decide) (by first | omega | decide) (by first | omega | decide) (by first | omega | decide) (by first | omega | decide) (by first | omega | decide) (by first | omega | decide) (by first | omega | decide) (by first | omega | decide) (by first | omega | decide) (by first | omega | decide) hw (lv_sub hl [0] rfl)
theorem s_X10_expression : ∀ j : Nat, ∀ (l : Launch) (D : va_G) (A : Nat → Nat → Nat) (cy : Nat → ClassId) (hJ : ti_inj ti_LM A) (M : ti_M) (hI : mI Tm M) (a d : Nat) (hj : j ≤ 8) (hu : us M a d) (hc : (tY M 60 3 18).toInt ≤ (tI M 60 30).toInt + 64 - 64 * ff M) (ho : (tI M 60 29).toInt + j ≤ 16 - 8 * ff M) (ho2 : 8 * ff M ≤ (tI M 60 29).toInt + j), ti_KvE l yX10_expression cX10_expression 1 (78 + 71 * j) ti_LM D A cy M [.ref (A 60 0)] (fun M2 => mI Tm M2 ∧ pe M2 M ∧ (pg M ≤ pg M2) ∧ (0 ≤ ff M2) ∧ (ff M2 ≤ ff M) ∧ ((tI M 60 30).toInt ≤ (tI M2 60 30).toInt) ∧ ((tI M2 60 30).toInt ≤ 64) ∧ ((tI M2 60 29).toInt ≤ (tI M 60 29).toInt + 8 - 8 * ff M2) ∧ ((tI M 60 29).toInt ≤ (tI M2 60 29).toInt + 8 - 8 * ff M2) ∧ ((tI M2 60 30).toInt - (tY M2 60 3 18).toInt ≤ (tI M 60 30).toInt - (tY M 60 3 18).toInt + 200 - 200 * ff M2) ∧ ((tI M 60 30).toInt - (tY M 60 3 18).toInt ≤ (tI M2 60 30).toInt - (tY M2 60 3 18).toInt + 200 - 200 * ff M2) ∧ (0 ≤ (tY M2 60 3 18).toInt) ∧ ((tY M2 60 3 18).toInt ≤ 64) ∧ (0 ≤ (tI M2 60 29).toInt) ∧ ((tI M2 60 29).toInt ≤ 8) ∧ us M2 a (d + 1)) := by
  intro j
  induction j using Nat.strongRecOn with
  | ind j ih =>
    intro l D A cy hJ M hI a d hj hu hc ho ho2
    exact s_X10_expression_s l D A cy hJ M hI j a d hj hu hc ho ho2 ih

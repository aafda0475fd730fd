variable {Tc : gC} {Tm : gM}
set_option maxHeartbeats 4000000 in
set_option maxRecDepth 100000 in
theorem f_X10_look (l : Launch) (D : va_G) (A : Nat → Nat → Nat) (cy : Nat → ClassId) (hJ : ti_inj ti_LM A) (M : ti_M) (hI : mI Tm M) (hF : mF Tm M) (z1 : Int32) (z2 : Int32) : ti_Ki l yX10_look cX10_look 3 (some .int) 1 ti_LM D A cy M [.ref (A 60 0), .int z1, .int z2] (fun r M2 => fR 1 M2 M ∧ mF Tm M2 ∧ tI M2 60 2 = tI M 60 2 ∧ lw M2 M) := by
  refine ti_eI yp_X10_look hJ ti_LM_nd (Nat.le_of_ble_eq_true rfl) ?_
  intro p e s m args below meth c Q H0 C hQ hw ls hl
  have hx := C.1
  have hb := C.2.1
  have hl : lv_has ls 3 [(0, .ref (A 60 0)), (1, .int z1), (2, .int z2)] := hl
  have hL : mL M := hF.2.1
  have hC0 : mC M 0 := hF.2.2.1.1
  have hP0 : mP M 0 := hF.2.2.1.2
  refine lv_aload_n hx hb dX10_look_0 rfl (lv_at hl 0 rfl) ?_
  refine lv_aload_n hx hb dX10_look_1 rfl (lv_at hl 0 rfl) ?_
  refine lv_iload_n hx hb dX10_look_2 rfl (lv_at hl 1 rfl) ?_
  refine ti_callVi (ci := 10) (av := [.int z1]) C hw (s_X10_isMan l D A cy hJ M hI z1) ⟨ml_X10_356, ym_X10_isMan, yv_X10_isMan, yi_X10_isMan, yc_X10_isMan⟩ yd_X10_isMan ob_60 (by decide) rfl rfl hl.1 (Nat.le_of_ble_eq_true rfl) ⟨by decide, by decide⟩ ⟨Nat.zero_le _, Nat.zero_le _⟩ dX10_look_3 (fun r_1 M_2 H locs hp_2 hw => ?_)
  obtain ⟨hm, hz⟩ := hp_2
  have hw := hw.to hm
  have hj_38_16 : ∀ (M_14 : ti_M) (H : Heap) (locs : List Loc) (ls : Array Slot), (mI Tm M_14) → (qw M_14 M) → (fR 1 M_14 M) → ti_H ti_LM D A cy H0 M_14 H locs → lv_has ls 3 [(0, .ref (A 60 0)), (1, .int z1), (2, .int z2)] → W p l e (ti_rm 1) s m args below meth c H locs 0 0 Q (F0 m 38 ls []) := by
    intro M_14 H locs ls iM_14 f_15 f_16 hw hl
    refine lv_iconst (v := 0) hx hb dX10_look_38 (by decide) ?_
    exact hQ _ _ _ _ _ _ hw rfl (⟨f_16, mF_qw hF iM_14 f_15, f_15.2.1.1, f_15.1⟩) dX10_look_39
  rcases hz with ⟨rfl, d0_3, d1_3, d2_3⟩ | rfl
  · refine sb_if_ne (tgt := 13) hx hb (by decide : (1 : Int32).toInt = 1) dX10_look_6 (by decide) (fun c_6_3 => ?_) (fun h => absurd h (by decide))
    refine lv_iload_n hx hb dX10_look_13 rfl (lv_at hl 2 rfl) ?_
    have hj_23_7 : ∀  (H : Heap) (locs : List Loc) (ls : Array Slot), ti_H ti_LM D A cy H0 M H locs → lv_has ls 3 [(0, .ref (A 60 0)), (1, .int z1), (2, .int z2)] → W p l e (ti_rm 1) s m args below meth c H locs 0 0 Q (F0 m 23 ls [.ref (A 60 0)]) := by
      intro  H locs ls  hw hl
      refine lv_iconst (v := 2) hx hb dX10_look_23 (by decide) ?_
      refine lv_goto (tgt := 28) hx hb dX10_look_24 (by decide) ?_
      refine ti_putI (ci := 10) (k := 0) (N := 67) (T := TX10) C hw iw_10 tyX10 tyX10_ok nmX10 rfl ob_60 (by decide) (by decide) fl_X10_154 rfl rfl rfl rfl (fn_10 A _) fs_10_0 dX10_look_28 (fun H locs hw => ?_)
      obtain ⟨M_10, hM_10⟩ : ∃ z : ti_M, z = uI M 60 0 2 := ⟨_, rfl⟩
      have hw := hw.to hM_10.symm
      have iM_10 : mI Tm M_10 := mI_uI hI hM_10 (by decide) (by decide) trivial
      refine lv_aload_n hx hb dX10_look_31 rfl (lv_at hl 0 rfl) ?_
      refine ti_get (ci := 10) (k := 0) (N := 67) (T := TX10) C hw iw_10 rfl ob_60 (by decide) (by decide) fl_X10_154 rfl rfl dX10_look_32 ?_
      refine ti_top (y := 2) (tI_uE hM_10) ?_
      refine sb_if_eq (tgt := 40) hx hb (by decide : (2 : Int32).toInt = 2) dX10_look_35 (by decide) (fun h => absurd h (by decide)) (fun c_35_10 => ?_)
      exact hj_38_16 M_10 _ _ _ iM_10 (qw_I hM_10 (by decide)) (fR_I hM_10 (by decide)) hw (lv_sub hl [0, 1, 2] rfl)
    refine sb_if_lt (tgt := 23) hx hb rfl dX10_look_14 (by decide) (fun c_14_5 => ?_) (fun c_14_5 => ?_)
    · exact hj_23_7  _ _ _  hw (lv_sub hl [0, 1, 2] rfl)
    · refine lv_iload_n hx hb dX10_look_17 rfl (lv_at hl 2 rfl) ?_
      refine lv_bipush (v := 10) hx hb dX10_look_18 (by decide) ?_
      refine sb_icmp_le (tgt := 27) hx hb rfl (by decide : (10 : Int32).toInt = 10) dX10_look_20 (by decide) (fun c_20_6 => ?_) (fun c_20_6 => ?_)
      · refine lv_iconst (v := 0) hx hb dX10_look_27 (by decide) ?_
        refine ti_putI (ci := 10) (k := 0) (N := 67) (T := TX10) C hw iw_10 tyX10 tyX10_ok nmX10 rfl ob_60 (by decide) (by decide) fl_X10_154 rfl rfl rfl rfl (fn_10 A _) fs_10_0 dX10_look_28 (fun H locs hw => ?_)
        obtain ⟨M_12, hM_12⟩ : ∃ z : ti_M, z = uI M 60 0 0 := ⟨_, rfl⟩
        have hw := hw.to hM_12.symm
        have iM_12 : mI Tm M_12 := mI_uI hI hM_12 (by decide) (by decide) trivial
        refine lv_aload_n hx hb dX10_look_31 rfl (lv_at hl 0 rfl) ?_
        refine ti_get (ci := 10) (k := 0) (N := 67) (T := TX10) C hw iw_10 rfl ob_60 (by decide) (by decide) fl_X10_154 rfl rfl dX10_look_32 ?_
        refine ti_top (y := 0) (tI_uE hM_12) ?_
        refine sb_if_eq (tgt := 40) hx hb (by decide : (0 : Int32).toInt = 0) dX10_look_35 (by decide) (fun c_35_12 => ?_) (fun h => absurd h (by decide))
        refine lv_iload_n hx hb dX10_look_40 rfl (lv_at hl 2 rfl) ?_
        by_cases s_17_0 : z2 = 0
        · refine lv_tableIn (tgt := 96) (off := 55) hx hb dX10_look_41 (by rw [s_17_0]; decide) (by rw [s_17_0]; decide) (by rw [s_17_0]; decide) (by decide) ?_
          refine lv_aload_n hx hb dX10_look_96 rfl (lv_at hl 0 rfl) ?_
          refine ti_get (ci := 10) (k := 5) (N := 67) (T := TX10) (v := .ref (A 60 6)) C hw iw_10 rfl ob_60 (by decide) (by decide) fl_X10_19 rfl rfl dX10_look_97 ?_
          refine lv_iload_n hx hb dX10_look_100 rfl (lv_at hl 1 rfl) ?_
          refine ti_iald (ci := 10) (k := 5) (n := 16) C hw ob_60 (by decide) (fun _ _ => rfl) (vp_in_iff.mpr (by omega)) dX10_look_101 ?_
          refine lv_topi (fun x_18 ex_18 => ?_)
          have yx_18 : tY M_12 60 5 z1.toNatClampNeg = x_18 := (ex_18.symm)
          have wx_18 : tY M 60 5 z1.toNatClampNeg = x_18 := ((cg (tY_uIE hM_12) z1.toNatClampNeg)).symm.trans yx_18
          exact hQ _ _ _ _ _ _ hw rfl (⟨(fR_I hM_12 (by decide)), mF_qw hF iM_12 (qw_I hM_12 (by decide)), (qw_I hM_12 (by decide)).2.1.1, (qw_I hM_12 (by decide)).1⟩) dX10_look_102
        · by_cases s_17_1 : z2 = 1
          · refine lv_tableIn (tgt := 103) (off := 62) hx hb dX10_look_41 (by rw [s_17_1]; decide) (by rw [s_17_1]; decide) (by rw [s_17_1]; decide) (by decide) ?_
            refine lv_aload_n hx hb dX10_look_103 rfl (lv_at hl 0 rfl) ?_
            refine ti_get (ci := 10) (k := 6) (N := 67) (T := TX10) (v := .ref (A 60 7)) C hw iw_10 rfl ob_60 (by decide) (by decide) fl_X10_22 rfl rfl dX10_look_104 ?_
            refine lv_iload_n hx hb dX10_look_107 rfl (lv_at hl 1 rfl) ?_
            refine ti_iald (ci := 10) (k := 6) (n := 16) C hw ob_60 (by decide) (fun _ _ => rfl) (vp_in_iff.mpr (by omega)) dX10_look_108 ?_
            refine lv_topi (fun x_19 ex_19 => ?_)
            have yx_19 : tY M_12 60 6 z1.toNatClampNeg = x_19 := (ex_19.symm)
            have wx_19 : tY M 60 6 z1.toNatClampNeg = x_19 := ((cg (tY_uIE hM_12) z1.toNatClampNeg)).symm.trans yx_19
            exact hQ _ _ _ _ _ _ hw rfl (⟨(fR_I hM_12 (by decide)), mF_qw hF iM_12 (qw_I hM_12 (by decide)), (qw_I hM_12 (by decide)).2.1.1, (qw_I hM_12 (by decide)).1⟩) dX10_look_109
          · by_cases s_17_2 : z2 = 2
            · refine lv_tableIn (tgt := 110) (off := 69) hx hb dX10_look_41 (by rw [s_17_2]; decide) (by rw [s_17_2]; decide) (by rw [s_17_2]; decide) (by decide) ?_
              refine lv_aload_n hx hb dX10_look_110 rfl (lv_at hl 0 rfl) ?_
              refine ti_get (ci := 10) (k := 41) (N := 67) (T := TX10) (v := .ref (A 60 42)) C hw iw_10 rfl ob_60 (by decide) (by decide) fl_X10_90 rfl rfl dX10_look_111 ?_
              refine lv_iload_n hx hb dX10_look_114 rfl (lv_at hl 1 rfl) ?_
              refine ti_iald (ci := 10) (k := 41) (n := 184) C hw ob_60 (by decide) (fun _ _ => rfl) (vp_in_iff.mpr (by omega)) dX10_look_115 ?_
              refine lv_topi (fun x_20 ex_20 => ?_)
              have yx_20 : tY M_12 60 41 z1.toNatClampNeg = x_20 := (ex_20.symm)
              have wx_20 : tY M 60 41 z1.toNatClampNeg = x_20 := ((cg (tY_uIE hM_12) z1.toNatClampNeg)).symm.trans yx_20
              exact hQ _ _ _ _ _ _ hw rfl (⟨(fR_I hM_12 (by decide)), mF_qw hF iM_12 (qw_I hM_12 (by decide)), (qw_I hM_12 (by decide)).2.1.1, (qw_I hM_12 (by decide)).1⟩) dX10_look_116
            · by_cases s_17_3 : z2 = 3
              · refine lv_tableIn (tgt := 117) (off := 76) hx hb dX10_look_41 (by rw [s_17_3]; decide) (by rw [s_17_3]; decide) (by rw [s_17_3]; decide) (by decide) ?_
                refine lv_aload_n hx hb dX10_look_117 rfl (lv_at hl 0 rfl) ?_
                refine ti_get (ci := 10) (k := 42) (N := 67) (T := TX10) (v := .ref (A 60 43)) C hw iw_10 rfl ob_60 (by decide) (by decide) fl_X10_93 rfl rfl dX10_look_118 ?_
                refine lv_iload_n hx hb dX10_look_121 rfl (lv_at hl 1 rfl) ?_
                refine ti_iald (ci := 10) (k := 42) (n := 184) C hw ob_60 (by decide) (fun _ _ => rfl) (vp_in_iff.mpr (by omega)) dX10_look_122 ?_
                refine lv_topi (fun x_21 ex_21 => ?_)
                have yx_21 : tY M_12 60 42 z1.toNatClampNeg = x_21 := (ex_21.symm)
                have wx_21 : tY M 60 42 z1.toNatClampNeg = x_21 := ((cg (tY_uIE hM_12) z1.toNatClampNeg)).symm.trans yx_21
                exact hQ _ _ _ _ _ _ hw rfl (⟨(fR_I hM_12 (by decide)), mF_qw hF iM_12 (qw_I hM_12 (by decide)), (qw_I hM_12 (by decide)).2.1.1, (qw_I hM_12 (by decide)).1⟩) dX10_look_123
              · by_cases s_17_4 : z2 = 4
                · refine lv_tableIn (tgt := 124) (off := 83) hx hb dX10_look_41 (by rw [s_17_4]; decide) (by rw [s_17_4]; decide) (by rw [s_17_4]; decide) (by decide) ?_
                  refine lv_aload_n hx hb dX10_look_124 rfl (lv_at hl 0 rfl) ?_
                  refine ti_get (ci := 10) (k := 43) (N := 67) (T := TX10) (v := .ref (A 60 44)) C hw iw_10 rfl ob_60 (by decide) (by decide) fl_X10_96 rfl rfl dX10_look_125 ?_
                  refine lv_iload_n hx hb dX10_look_128 rfl (lv_at hl 1 rfl) ?_
                  refine ti_iald (ci := 10) (k := 43) (n := 184) C hw ob_60 (by decide) (fun _ _ => rfl) (vp_in_iff.mpr (by omega)) dX10_look_129 ?_
                  refine lv_topi (fun x_22 ex_22 => ?_)
                  have yx_22 : tY M_12 60 43 z1.toNatClampNeg = x_22 := (ex_22.symm)
                  have wx_22 : tY M 60 43 z1.toNatClampNeg = x_22 := ((cg (tY_uIE hM_12) z1.toNatClampNeg)).symm.trans yx_22
                  exact hQ _ _ _ _ _ _ hw rfl (⟨(fR_I hM_12 (by decide)), mF_qw hF iM_12 (qw_I hM_12 (by decide)), (qw_I hM_12 (by decide)).2.1.1, (qw_I hM_12 (by decide)).1⟩) dX10_look_130
                · by_cases s_17_5 : z2 = 5
                  · refine lv_tableIn (tgt := 131) (off := 90) hx hb dX10_look_41 (by rw [s_17_5]; decide) (by rw [s_17_5]; decide) (by rw [s_17_5]; decide) (by decide) ?_
                    refine lv_aload_n hx hb dX10_look_131 rfl (lv_at hl 0 rfl) ?_
                    refine lv_iconst (v := 0) hx hb dX10_look_132 (by decide) ?_
                    refine lv_iload_n hx hb dX10_look_133 rfl (lv_at hl 1 rfl) ?_
                    refine ti_callVi (ci := 10) (av := [.int 0, .int z1]) C hw (s_X10_placeOf_0 l D A cy hJ M_12 iM_12 z1) ⟨ml_X10_411, ym_X10_placeOf, yv_X10_placeOf, yi_X10_placeOf, yc_X10_placeOf⟩ yd_X10_placeOf ob_60 (by decide) rfl rfl hl.1 (Nat.le_of_ble_eq_true rfl) ⟨by decide, by decide⟩ ⟨Nat.zero_le _, Nat.zero_le _⟩ dX10_look_134 (fun r_23 M_24 H locs hp_24 hw => ?_)
                    obtain ⟨hm, hz⟩ := hp_24
                    have hw := hw.to hm
                    rcases hz with ⟨rfl, z1_25⟩ | ⟨z1_25, z2_25, z3_25, z4_25⟩
                    · exact hQ _ _ _ _ _ _ hw rfl (⟨(fR_I hM_12 (by decide)), mF_qw hF iM_12 (qw_I hM_12 (by decide)), (qw_I hM_12 (by decide)).2.1.1, (qw_I hM_12 (by decide)).1⟩) dX10_look_137
                    · exact hQ _ _ _ _ _ _ hw rfl (⟨(fR_I hM_12 (by decide)), mF_qw hF iM_12 (qw_I hM_12 (by decide)), (qw_I hM_12 (by decide)).2.1.1, (qw_I hM_12 (by decide)).1⟩) dX10_look_137
                  · by_cases s_17_6 : z2 = 6
                    · refine lv_tableIn (tgt := 138) (off := 97) hx hb dX10_look_41 (by rw [s_17_6]; decide) (by rw [s_17_6]; decide) (by rw [s_17_6]; decide) (by decide) ?_
                      refine lv_aload_n hx hb dX10_look_138 rfl (lv_at hl 0 rfl) ?_
                      refine ti_get (ci := 10) (k := 40) (N := 67) (T := TX10) (v := .ref (A 60 41)) C hw iw_10 rfl ob_60 (by decide) (by decide) fl_X10_87 rfl rfl dX10_look_139 ?_
                      refine lv_iload_n hx hb dX10_look_142 rfl (lv_at hl 1 rfl) ?_
                      refine ti_iald (ci := 10) (k := 40) (n := 184) C hw ob_60 (by decide) (fun _ _ => rfl) (vp_in_iff.mpr (by omega)) dX10_look_143 ?_
                      refine lv_topi (fun x_26 ex_26 => ?_)
                      have yx_26 : tY M_12 60 40 z1.toNatClampNeg = x_26 := (ex_26.symm)
                      have zx_26 : (tY M_12 60 40 z1.toNatClampNeg).toInt = x_26.toInt := by rw [yx_26]
                      have wx_26 : tY M 60 40 z1.toNatClampNeg = x_26 := ((cg (tY_uIE hM_12) z1.toNatClampNeg)).symm.trans yx_26
                      have zwx_26 : (tY M 60 40 z1.toNatClampNeg).toInt = x_26.toInt := by rw [wx_26]
                      exact hQ _ _ _ _ _ _ hw rfl (⟨(fR_I hM_12 (by decide)), mF_qw hF iM_12 (qw_I hM_12 (by decide)), (qw_I hM_12 (by decide)).2.1.1, (qw_I hM_12 (by decide)).1⟩) dX10_look_144
                    · by_cases s_17_7 : z2 = 7
                      · refine lv_tableIn (tgt := 145) (off := 104) hx hb dX10_look_41 (by rw [s_17_7]; decide) (by rw [s_17_7]; decide) (by rw [s_17_7]; decide) (by decide) ?_
                        refine lv_aload_n hx hb dX10_look_145 rfl (lv_at hl 0 rfl) ?_
                        refine ti_get (ci := 10) (k := 40) (N := 67) (T := TX10) (v := .ref (A 60 41)) C hw iw_10 rfl ob_60 (by decide) (by decide) fl_X10_87 rfl rfl dX10_look_146 ?_
                        refine lv_iload_n hx hb dX10_look_149 rfl (lv_at hl 1 rfl) ?_
                        refine ti_iald (ci := 10) (k := 40) (n := 184) C hw ob_60 (by decide) (fun _ _ => rfl) (vp_in_iff.mpr (by omega)) dX10_look_150 ?_
                        refine lv_topi (fun x_27 ex_27 => ?_)
                        have yx_27 : tY M_12 60 40 z1.toNatClampNeg = x_27 := (ex_27.symm)
                        have zx_27 : (tY M_12 60 40 z1.toNatClampNeg).toInt = x_27.toInt := by rw [yx_27]
                        have wx_27 : tY M 60 40 z1.toNatClampNeg = x_27 := ((cg (tY_uIE hM_12) z1.toNatClampNeg)).symm.trans yx_27
                        have zwx_27 : (tY M 60 40 z1.toNatClampNeg).toInt = x_27.toInt := by rw [wx_27]
                        refine sb_if_ne (tgt := 158) hx hb rfl dX10_look_151 (by decide) (fun c_151_27 => ?_) (fun c_151_27 => ?_)
                        · refine lv_aload_n hx hb dX10_look_158 rfl (lv_at hl 0 rfl) ?_
                          refine ti_get (ci := 10) (k := 40) (N := 67) (T := TX10) (v := .ref (A 60 41)) C hw iw_10 rfl ob_60 (by decide) (by decide) fl_X10_87 rfl rfl dX10_look_159 ?_
                          refine lv_iload_n hx hb dX10_look_162 rfl (lv_at hl 1 rfl) ?_
                          refine ti_iald (ci := 10) (k := 40) (n := 184) C hw ob_60 (by decide) (fun _ _ => rfl) (vp_in_iff.mpr (by omega)) dX10_look_163 ?_
                          refine ti_top (y := x_27) (((cg (tY_uIE hM_12) z1.toNatClampNeg).trans wx_27)) ?_
                          refine lv_iconst (v := 1) hx hb dX10_look_164 (by decide) ?_
                          have hj_183_32 : ∀ (x_32 : Int32) (H : Heap) (locs : List Loc) (ls : Array Slot), ti_H ti_LM D A cy H0 M_12 H locs → lv_has ls 3 [(0, .ref (A 60 0)), (1, .int z1), (2, .int z2)] → W p l e (ti_rm 1) s m args below meth c H locs 0 0 Q (F0 m 183 ls [.int x_32]) := by
                            intro x_32 H locs ls  hw hl
                            refine lv_aload_n hx hb dX10_look_183 rfl (lv_at hl 0 rfl) ?_
                            refine ti_get (ci := 10) (k := 45) (N := 67) (T := TX10) (v := .ref (A 60 46)) C hw iw_10 rfl ob_60 (by decide) (by decide) fl_X10_102 rfl rfl dX10_look_184 ?_
                            refine lv_iload_n hx hb dX10_look_187 rfl (lv_at hl 1 rfl) ?_
                            refine ti_iald (ci := 10) (k := 45) (n := 184) C hw ob_60 (by decide) (fun _ _ => rfl) (vp_in_iff.mpr (by omega)) dX10_look_188 ?_
                            refine lv_topi (fun x_33 ex_33 => ?_)
                            have yx_33 : tY M_12 60 45 z1.toNatClampNeg = x_33 := (ex_33.symm)
                            have wx_33 : tY M 60 45 z1.toNatClampNeg = x_33 := ((cg (tY_uIE hM_12) z1.toNatClampNeg)).symm.trans yx_33
                            refine lv_isub hx hb dX10_look_189 ?_
                            refine lv_topi (fun x_34 ex_34 => ?_)
                            exact hQ _ _ _ _ _ _ hw rfl (⟨(fR_I hM_12 (by decide)), mF_qw hF iM_12 (qw_I hM_12 (by decide)), (qw_I hM_12 (by decide)).2.1.1, (qw_I hM_12 (by decide)).1⟩) dX10_look_190
                          refine sb_icmp_ne (tgt := 177) hx hb rfl (by decide : (1 : Int32).toInt = 1) dX10_look_165 (by decide) (fun c_165_28 => ?_) (fun c_165_28 => ?_)
                          · refine lv_aload_n hx hb dX10_look_177 rfl (lv_at hl 0 rfl) ?_
                            refine ti_get (ci := 10) (k := 46) (N := 67) (T := TX10) (v := .ref (A 60 47)) C hw iw_10 rfl ob_60 (by decide) (by decide) fl_X10_105 rfl rfl dX10_look_178 ?_
                            refine lv_iload_n hx hb dX10_look_181 rfl (lv_at hl 1 rfl) ?_
                            refine ti_iald (ci := 10) (k := 46) (n := 184) C hw ob_60 (by decide) (fun _ _ => rfl) (vp_in_iff.mpr (by omega)) dX10_look_182 ?_
                            refine lv_topi (fun x_31 ex_31 => ?_)
                            have yx_31 : tY M_12 60 46 z1.toNatClampNeg = x_31 := (ex_31.symm)
                            have wx_31 : tY M 60 46 z1.toNatClampNeg = x_31 := ((cg (tY_uIE hM_12) z1.toNatClampNeg)).symm.trans yx_31
                            exact hj_183_32 x_31 _ _ _  hw (lv_sub hl [0, 1, 2] rfl)
                          · refine lv_aload_n hx hb dX10_look_168 rfl (lv_at hl 0 rfl) ?_
                            refine ti_get (ci := 10) (k := 34) (N := 67) (T := TX10) (v := .ref (A 60 35)) C hw iw_10 rfl ob_60 (by decide) (by decide) fl_X10_69 rfl rfl dX10_look_169 ?_
                            refine lv_iconst (v := 0) hx hb dX10_look_172 (by decide) ?_
                            refine ti_iald (ci := 10) (k := 34) (n := 23) C hw ob_60 (by decide) (fun _ _ => rfl) (by unfold vp_in; decide) dX10_look_173 ?_
                            refine lv_topi (fun x_30 ex_30 => ?_)
                            have yx_30 : tY M_12 60 34 0 = x_30 := ((congrArg _ (by decide)).symm.trans ex_30.symm)
                            have bx_30 : 0 ≤ x_30.toInt ∧ x_30.toInt ≤ 120 := mI_ry (k := 34) (i := 0) iM_12 yx_30.symm (by decide)
                            have zx_30 : (tY M_12 60 34 0).toInt = x_30.toInt := by rw [yx_30]
                            have wx_30 : tY M 60 34 0 = x_30 := ((cg (tY_uIE hM_12) 0)).symm.trans yx_30
                            have zwx_30 : (tY M 60 34 0).toInt = x_30.toInt := by rw [wx_30]
                            refine lv_goto (tgt := 183) hx hb dX10_look_174 (by decide) ?_
                            exact hj_183_32 x_30 _ _ _  hw (lv_sub hl [0, 1, 2] rfl)
                        · refine lv_iconst (v := 0) hx hb dX10_look_154 (by decide) ?_
                          refine lv_goto (tgt := 190) hx hb dX10_look_155 (by decide) ?_
                          exact hQ _ _ _ _ _ _ hw rfl (⟨(fR_I hM_12 (by decide)), mF_qw hF iM_12 (qw_I hM_12 (by decide)), (qw_I hM_12 (by decide)).2.1.1, (qw_I hM_12 (by decide)).1⟩) dX10_look_190
                      · by_cases s_17_8 : z2 = 8
                        · refine lv_tableIn (tgt := 191) (off := 150) hx hb dX10_look_41 (by rw [s_17_8]; decide) (by rw [s_17_8]; decide) (by rw [s_17_8]; decide) (by decide) ?_
                          refine lv_aload_n hx hb dX10_look_191 rfl (lv_at hl 0 rfl) ?_
                          refine ti_get (ci := 10) (k := 47) (N := 67) (T := TX10) (v := .ref (A 60 48)) C hw iw_10 rfl ob_60 (by decide) (by decide) fl_X10_108 rfl rfl dX10_look_192 ?_
                          refine lv_iload_n hx hb dX10_look_195 rfl (lv_at hl 1 rfl) ?_
                          refine ti_iald (ci := 10) (k := 47) (n := 184) C hw ob_60 (by decide) (fun _ _ => rfl) (vp_in_iff.mpr (by omega)) dX10_look_196 ?_
                          refine lv_topi (fun x_35 ex_35 => ?_)
                          have yx_35 : tY M_12 60 47 z1.toNatClampNeg = x_35 := (ex_35.symm)
                          have wx_35 : tY M 60 47 z1.toNatClampNeg = x_35 := ((cg (tY_uIE hM_12) z1.toNatClampNeg)).symm.trans yx_35
                          exact hQ _ _ _ _ _ _ hw rfl (⟨(fR_I hM_12 (by decide)), mF_qw hF iM_12 (qw_I hM_12 (by decide)), (qw_I hM_12 (by decide)).2.1.1, (qw_I hM_12 (by decide)).1⟩) dX10_look_197
                        · by_cases s_17_9 : z2 = 9
                          · refine lv_tableIn (tgt := 198) (off := 157) hx hb dX10_look_41 (by rw [s_17_9]; decide) (by rw [s_17_9]; decide) (by rw [s_17_9]; decide) (by decide) ?_
                            refine lv_aload_n hx hb dX10_look_198 rfl (lv_at hl 0 rfl) ?_
                            refine ti_get (ci := 10) (k := 37) (N := 67) (T := TX10) (v := .ref (A 60 38)) C hw iw_10 rfl ob_60 (by decide) (by decide) fl_X10_78 rfl rfl dX10_look_199 ?_
                            refine lv_iconst (v := 0) hx hb dX10_look_202 (by decide) ?_
                            refine ti_iald (ci := 10) (k := 37) (n := 23) C hw ob_60 (by decide) (fun _ _ => rfl) (by unfold vp_in; decide) dX10_look_203 ?_
                            refine lv_topi (fun x_36 ex_36 => ?_)
                            have yx_36 : tY M_12 60 37 0 = x_36 := ((congrArg _ (by decide)).symm.trans ex_36.symm)
                            have wx_36 : tY M 60 37 0 = x_36 := ((cg (tY_uIE hM_12) 0)).symm.trans yx_36
                            refine lv_iload_n hx hb dX10_look_204 rfl (lv_at hl 1 rfl) ?_
                            refine lv_ishr hx hb dX10_look_205 ?_
                            refine lv_topi (fun x_37 ex_37 => ?_)
                            refine lv_iconst (v := 1) hx hb dX10_look_206 (by decide) ?_
                            refine lv_iand hx hb dX10_look_207 ?_
                            refine lv_topi (fun x_38 ex_38 => ?_)
                            have bx_38 := i_and 1 ex_38 (by decide) (by decide)
                            exact hQ _ _ _ _ _ _ hw rfl (⟨(fR_I hM_12 (by decide)), mF_qw hF iM_12 (qw_I hM_12 (by decide)), (qw_I hM_12 (by decide)).2.1.1, (qw_I hM_12 (by decide)).1⟩) dX10_look_208
                          · refine lv_tableOut (tgt := 209) hx hb dX10_look_41 (ti_out (lo := 0) (hi := 9) z2 (fun v h1 h2 => by rcases (show v = 0 ∨ v = 1 ∨ v = 2 ∨ v = 3 ∨ v = 4 ∨ v = 5 ∨ v = 6 ∨ v = 7 ∨ v = 8 ∨ v = 9 by omega) with rfl | rfl | rfl | rfl | rfl | rfl | rfl | rfl | rfl | rfl <;> first | exact ti_nev 0 s_17_0 (by decide) | exact ti_nev 1 s_17_1 (by decide) | exact ti_nev 2 s_17_2 (by decide) | exact ti_nev 3 s_17_3 (by decide) | exact ti_nev 4 s_17_4 (by decide) | exact ti_nev 5 s_17_5 (by decide) | exact ti_nev 6 s_17_6 (by decide) | exact ti_nev 7 s_17_7 (by decide) | exact ti_nev 8 s_17_8 (by decide) | exact ti_nev 9 s_17_9 (by decide))) (by decide) ?_
                            refine lv_aload_n hx hb dX10_look_209 rfl (lv_at hl 0 rfl) ?_
                            refine ti_get (ci := 10) (k := 13) (N := 67) (T := TX10) (v := .ref (A 60 14)) C hw iw_10 rfl ob_60 (by decide) (by decide) fl_X10_43 rfl rfl dX10_look_210 ?_
                            refine lv_iload_n hx hb dX10_look_213 rfl (lv_at hl 1 rfl) ?_
                            refine ti_iald (ci := 10) (k := 13) (n := 16) C hw ob_60 (by decide) (fun _ _ => rfl) (vp_in_iff.mpr (by omega)) dX10_look_214 ?_
                            refine lv_topi (fun x_39 ex_39 => ?_)
                            have yx_39 : tY M_12 60 13 z1.toNatClampNeg = x_39 := (ex_39.symm)
                            have wx_39 : tY M 60 13 z1.toNatClampNeg = x_39 := ((cg (tY_uIE hM_12) z1.toNatClampNeg)).symm.trans yx_39
                            refine lv_iconst (v := 1) hx hb dX10_look_215 (by decide) ?_
                            refine lv_isub hx hb dX10_look_216 ?_
                            refine lv_topi (fun x_40 ex_40 => ?_)
                            exact hQ _ _ _ _ _ _ hw rfl (⟨(fR_I hM_12 (by decide)), mF_qw hF iM_12 (qw_I hM_12 (by decide)), (qw_I hM_12 (by decide)).2.1.1, (qw_I hM_12 (by decide)).1⟩) dX10_look_217
      · exact hj_23_7  _ _ _  hw (lv_sub hl [0, 1, 2] rfl)
  · refine sb_if_ne (tgt := 13) hx hb (by decide : (0 : Int32).toInt = 0) dX10_look_6 (by decide) (fun h => absurd h (by decide)) (fun c_6_4 => ?_)
    refine lv_iconst (v := 1) hx hb dX10_look_9 (by decide) ?_
    refine lv_goto (tgt := 28) hx hb dX10_look_10 (by decide) ?_
    refine ti_putI (ci := 10) (k := 0) (N := 67) (T := TX10) C hw iw_10 tyX10 tyX10_ok nmX10 rfl ob_60 (by decide) (by decide) fl_X10_154 rfl rfl rfl rfl (fn_10 A _) fs_10_0 dX10_look_28 (fun H locs hw => ?_)
    obtain ⟨M_8, hM_8⟩ : ∃ z : ti_M, z = uI M 60 0 1 := ⟨_, rfl⟩
    have hw := hw.to hM_8.symm
    have iM_8 : mI Tm M_8 := mI_uI hI hM_8 (by decide) (by decide) trivial
    refine lv_aload_n hx hb dX10_look_31 rfl (lv_at hl 0 rfl) ?_
    refine ti_get (ci := 10) (k := 0) (N := 67) (T := TX10) C hw iw_10 rfl ob_60 (by decide) (by decide) fl_X10_154 rfl rfl dX10_look_32 ?_
    refine ti_top (y := 1) (tI_uE hM_8) ?_
    refine sb_if_eq (tgt := 40) hx hb (by decide : (1 : Int32).toInt = 1) dX10_look_35 (by decide) (fun h => absurd h (by decide)) (fun c_35_8 => ?_)
    exact hj_38_16 M_8 _ _ _ iM_8 (qw_I hM_8 (by decide)) (fR_I hM_8 (by decide)) hw (lv_sub hl [0, 1, 2] rfl)

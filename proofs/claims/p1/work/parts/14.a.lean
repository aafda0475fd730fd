set_option maxHeartbeats 4000000 in
set_option maxRecDepth 100000 in
theorem k_X0_servedOtherwise (l : Launch) (D : va_G) (A : Nat → Nat → Nat) (cy : Nat → ClassId) (hJ : ti_inj ti_LT A) (M : ti_M) (hF : ti_F M) (wh mn n1 : Int32) (hne : ¬ wh = 2) : ti_Ki l yX0_servedOtherwise cX0_servedOtherwise 5 (some .int) 5 ti_LT D A cy M [.ref (A 53 0), .ref (A 27 0), .int wh, .int mn, .int n1] (fun r _ => r = 0) := by
  refine ti_eI yp_X0_servedOtherwise hJ ti_LT_nd (Nat.le_of_ble_eq_true rfl) ?_
  intro p e s m args below meth c Q H0 C hQ hw ls hl
  have hx := C.1
  have hb := C.2.1
  have hl : lv_has ls 5 [(0, .ref (A 53 0)), (1, .ref (A 27 0)), (2, .int wh), (3, .int mn), (4, .int n1)] := hl
  obtain ⟨f_told, f_spare, f_nt, f_many, f_fault, f_place, f_men, f_knots, f_mut, f_man, f_min, f_size, f_water, f_first, f_steps, f_img, f_sm, f_sk, f_ss, f_sw, f_p0, f_p1, f_p2⟩ := id hF
  refine lv_aload_n hx hb dX0_servedOtherwise_0 rfl (lv_at hl 0 rfl) ?_
  refine lv_aload_n hx hb dX0_servedOtherwise_1 rfl (lv_at hl 1 rfl) ?_
  refine ti_callVv (ci := 0) (av := [.ref (A 27 0)]) C hw (k_X0_prepare l D A cy hJ _ hF) ⟨ml_X0_42, ym_X0_prepare, yv_X0_prepare, yi_X0_prepare, yc_X0_prepare⟩ yd_X0_prepare ob_53 (by decide) rfl rfl hl.1 (Nat.le_of_ble_eq_true rfl) ⟨by decide, by decide⟩ ⟨Nat.zero_le _, Nat.zero_le _⟩ dX0_servedOtherwise_2 (fun M_2 H locs hp_2 hw => ?_)
  obtain ⟨k_3, k_4, k_5, k_6, k_7, k_8, k_9, hF⟩ := hp_2
  refine lv_iload_n hx hb dX0_servedOtherwise_5 rfl (lv_at hl 2 rfl) ?_
  by_cases s_6_0 : wh = 0
  · refine lv_tableIn (tgt := 40) (off := 34) hx hb dX0_servedOtherwise_6 (by rw [s_6_0]; decide) (by rw [s_6_0]; decide) (by rw [s_6_0]; decide) (by decide) ?_
    refine lv_aload_n hx hb dX0_servedOtherwise_40 rfl (lv_at hl 0 rfl) ?_
    refine ti_get (ci := 0) (k := 0) (N := 6) (T := TX0) (v := .ref (A 54 0)) C hw iw_0 rfl ob_53 (by decide) (by decide) fl_X0_12 rfl rfl dX0_servedOtherwise_41 ?_
    refine lv_dup hx hb dX0_servedOtherwise_44 rfl ?_
    refine ti_get (ci := 3) (k := 1) (N := 17) (T := TX3) C hw iw_3 rfl ob_54 (by decide) (by decide) fl_X0_39 rfl rfl dX0_servedOtherwise_45 ?_
    refine ti_top (y := 3) k_9 ?_
    refine lv_iconst (v := 4) hx hb dX0_servedOtherwise_48 (by decide) ?_
    refine lv_ior hx hb dX0_servedOtherwise_49 ?_
    refine ti_top (y := 7) (by decide) ?_
    refine ti_putI (ci := 3) (k := 1) (N := 17) (T := TX3) C hw iw_3 tyX3 tyX3_ok nmX3 rfl ob_54 (by decide) (by decide) fl_X0_39 rfl rfl rfl rfl (fn_3 A _) fs_3_1 dX0_servedOtherwise_50 (fun H locs hw => ?_)
    refine lv_goto (tgt := 150) hx hb dX0_servedOtherwise_53 (by decide) ?_
    refine lv_aload_n hx hb dX0_servedOtherwise_150 rfl (lv_at hl 0 rfl) ?_
    refine ti_get (ci := 0) (k := 0) (N := 6) (T := TX0) (v := .ref (A 54 0)) C hw iw_0 rfl ob_53 (by decide) (by decide) fl_X0_12 rfl rfl dX0_servedOtherwise_151 ?_
    refine lv_aload_n hx hb dX0_servedOtherwise_154 rfl (lv_at hl 1 rfl) ?_
    refine ti_get (ci := 3) (k := 2) (N := 17) (T := TX3) C hw iw_3 rfl ob_27 (by decide) (by decide) fl_X0_45 rfl rfl dX0_servedOtherwise_155 ?_
    refine ti_top (y := 0) k_8 ?_
    refine lv_iload hx hb dX0_servedOtherwise_158 (lv_at hl 4 rfl) ?_
    refine lv_iadd hx hb dX0_servedOtherwise_160 ?_
    refine lv_topi (fun x_11 ex_11 => ?_)
    refine ti_callVv (ci := 3) (av := [.int x_11]) C hw (k_X3_passTo l D A cy hJ _ x_11 54 3 ob_54 ob_3 k_3 k_4 k_6 k_7) ⟨ml_X0_60, ym_X3_passTo, yv_X3_passTo, yi_X3_passTo, yc_X3_passTo⟩ yd_X3_passTo ob_54 (by decide) rfl rfl hl.1 (Nat.le_of_ble_eq_true rfl) ⟨by decide, by decide⟩ ⟨Nat.zero_le _, Nat.zero_le _⟩ dX0_servedOtherwise_161 (fun M_13 H locs hp_13 hw => ?_)
    obtain ⟨hT1, hs1, hm1, hu1⟩ := hp_13
    refine lv_aload_n hx hb dX0_servedOtherwise_164 rfl (lv_at hl 0 rfl) ?_
    refine ti_get (ci := 0) (k := 0) (N := 6) (T := TX0) (v := .ref (A 54 0)) C hw iw_0 rfl ob_53 (by decide) (by decide) fl_X0_12 rfl rfl dX0_servedOtherwise_165 ?_
    refine lv_iconst (v := 2) hx hb dX0_servedOtherwise_168 (by decide) ?_
    refine ti_callVi (ci := 3) (av := [.int 2]) C hw (k_X3_howMany l D A cy hJ _ 54 3 ob_54 ob_3 hT1 hm1 2) ⟨ml_X0_157, ym_X3_howMany, yv_X3_howMany, yi_X3_howMany, yc_X3_howMany⟩ yd_X3_howMany ob_54 (by decide) rfl rfl hl.1 (Nat.le_of_ble_eq_true rfl) ⟨by decide, by decide⟩ ⟨Nat.zero_le _, Nat.zero_le _⟩ dX0_servedOtherwise_169 (fun r_14 M_15 H locs hp_15 hw => ?_)
    obtain ⟨hm, rfl⟩ := hp_15
    have hw := hw.to hm
    exact hQ _ _ _ _ _ _ hw rfl rfl dX0_servedOtherwise_172
  by_cases s_6_1 : wh = 1
  · refine lv_tableIn (tgt := 56) (off := 50) hx hb dX0_servedOtherwise_6 (by rw [s_6_1]; decide) (by rw [s_6_1]; decide) (by rw [s_6_1]; decide) (by decide) ?_
    refine lv_aload_n hx hb dX0_servedOtherwise_56 rfl (lv_at hl 0 rfl) ?_
    refine ti_get (ci := 0) (k := 0) (N := 6) (T := TX0) (v := .ref (A 54 0)) C hw iw_0 rfl ob_53 (by decide) (by decide) fl_X0_12 rfl rfl dX0_servedOtherwise_57 ?_
    refine lv_dup hx hb dX0_servedOtherwise_60 rfl ?_
    refine ti_get (ci := 3) (k := 1) (N := 17) (T := TX3) C hw iw_3 rfl ob_54 (by decide) (by decide) fl_X0_39 rfl rfl dX0_servedOtherwise_61 ?_
    refine ti_top (y := 3) k_9 ?_
    refine lv_bipush (v := 8) hx hb dX0_servedOtherwise_64 (by decide) ?_
    refine lv_ior hx hb dX0_servedOtherwise_66 ?_
    refine ti_top (y := 11) (by decide) ?_
    refine ti_putI (ci := 3) (k := 1) (N := 17) (T := TX3) C hw iw_3 tyX3 tyX3_ok nmX3 rfl ob_54 (by decide) (by decide) fl_X0_39 rfl rfl rfl rfl (fn_3 A _) fs_3_1 dX0_servedOtherwise_67 (fun H locs hw => ?_)
    refine lv_goto (tgt := 150) hx hb dX0_servedOtherwise_70 (by decide) ?_
    refine lv_aload_n hx hb dX0_servedOtherwise_150 rfl (lv_at hl 0 rfl) ?_
    refine ti_get (ci := 0) (k := 0) (N := 6) (T := TX0) (v := .ref (A 54 0)) C hw iw_0 rfl ob_53 (by decide) (by decide) fl_X0_12 rfl rfl dX0_servedOtherwise_151 ?_
    refine lv_aload_n hx hb dX0_servedOtherwise_154 rfl (lv_at hl 1 rfl) ?_
    refine ti_get (ci := 3) (k := 2) (N := 17) (T := TX3) C hw iw_3 rfl ob_27 (by decide) (by decide) fl_X0_45 rfl rfl dX0_servedOtherwise_155 ?_
    refine ti_top (y := 0) k_8 ?_
    refine lv_iload hx hb dX0_servedOtherwise_158 (lv_at hl 4 rfl) ?_
    refine lv_iadd hx hb dX0_servedOtherwise_160 ?_
    refine lv_topi (fun x_16 ex_16 => ?_)
    refine ti_callVv (ci := 3) (av := [.int x_16]) C hw (k_X3_passTo l D A cy hJ _ x_16 54 3 ob_54 ob_3 k_3 k_4 k_6 k_7) ⟨ml_X0_60, ym_X3_passTo, yv_X3_passTo, yi_X3_passTo, yc_X3_passTo⟩ yd_X3_passTo ob_54 (by decide) rfl rfl hl.1 (Nat.le_of_ble_eq_true rfl) ⟨by decide, by decide⟩ ⟨Nat.zero_le _, Nat.zero_le _⟩ dX0_servedOtherwise_161 (fun M_18 H locs hp_18 hw => ?_)
    obtain ⟨hT1, hs1, hm1, hu1⟩ := hp_18
    refine lv_aload_n hx hb dX0_servedOtherwise_164 rfl (lv_at hl 0 rfl) ?_
    refine ti_get (ci := 0) (k := 0) (N := 6) (T := TX0) (v := .ref (A 54 0)) C hw iw_0 rfl ob_53 (by decide) (by decide) fl_X0_12 rfl rfl dX0_servedOtherwise_165 ?_
    refine lv_iconst (v := 2) hx hb dX0_servedOtherwise_168 (by decide) ?_
    refine ti_callVi (ci := 3) (av := [.int 2]) C hw (k_X3_howMany l D A cy hJ _ 54 3 ob_54 ob_3 hT1 hm1 2) ⟨ml_X0_157, ym_X3_howMany, yv_X3_howMany, yi_X3_howMany, yc_X3_howMany⟩ yd_X3_howMany ob_54 (by decide) rfl rfl hl.1 (Nat.le_of_ble_eq_true rfl) ⟨by decide, by decide⟩ ⟨Nat.zero_le _, Nat.zero_le _⟩ dX0_servedOtherwise_169 (fun r_19 M_20 H locs hp_20 hw => ?_)
    obtain ⟨hm, rfl⟩ := hp_20
    have hw := hw.to hm
    exact hQ _ _ _ _ _ _ hw rfl rfl dX0_servedOtherwise_172
  by_cases s_6_2 : wh = 2
  · exact absurd s_6_2 hne
  by_cases s_6_3 : wh = 3
  · refine lv_tableIn (tgt := 102) (off := 96) hx hb dX0_servedOtherwise_6 (by rw [s_6_3]; decide) (by rw [s_6_3]; decide) (by rw [s_6_3]; decide) (by decide) ?_
    refine lv_aload_n hx hb dX0_servedOtherwise_102 rfl (lv_at hl 0 rfl) ?_
    refine ti_get (ci := 0) (k := 0) (N := 6) (T := TX0) (v := .ref (A 54 0)) C hw iw_0 rfl ob_53 (by decide) (by decide) fl_X0_12 rfl rfl dX0_servedOtherwise_103 ?_
    refine lv_dup hx hb dX0_servedOtherwise_106 rfl ?_
    refine ti_get (ci := 3) (k := 1) (N := 17) (T := TX3) C hw iw_3 rfl ob_54 (by decide) (by decide) fl_X0_39 rfl rfl dX0_servedOtherwise_107 ?_
    refine ti_top (y := 3) k_9 ?_
    refine lv_bipush (v := 32) hx hb dX0_servedOtherwise_110 (by decide) ?_
    refine lv_ior hx hb dX0_servedOtherwise_112 ?_
    refine ti_top (y := 35) (by decide) ?_
    refine ti_putI (ci := 3) (k := 1) (N := 17) (T := TX3) C hw iw_3 tyX3 tyX3_ok nmX3 rfl ob_54 (by decide) (by decide) fl_X0_39 rfl rfl rfl rfl (fn_3 A _) fs_3_1 dX0_servedOtherwise_113 (fun H locs hw => ?_)
    refine lv_goto (tgt := 150) hx hb dX0_servedOtherwise_116 (by decide) ?_
    refine lv_aload_n hx hb dX0_servedOtherwise_150 rfl (lv_at hl 0 rfl) ?_
    refine ti_get (ci := 0) (k := 0) (N := 6) (T := TX0) (v := .ref (A 54 0)) C hw iw_0 rfl ob_53 (by decide) (by decide) fl_X0_12 rfl rfl dX0_servedOtherwise_151 ?_
    refine lv_aload_n hx hb dX0_servedOtherwise_154 rfl (lv_at hl 1 rfl) ?_
    refine ti_get (ci := 3) (k := 2) (N := 17) (T := TX3) C hw iw_3 rfl ob_27 (by decide) (by decide) fl_X0_45 rfl rfl dX0_servedOtherwise_155 ?_
    refine ti_top (y := 0) k_8 ?_
    refine lv_iload hx hb dX0_servedOtherwise_158 (lv_at hl 4 rfl) ?_
    refine lv_iadd hx hb dX0_servedOtherwise_160 ?_
    refine lv_topi (fun x_21 ex_21 => ?_)
    refine ti_callVv (ci := 3) (av := [.int x_21]) C hw (k_X3_passTo l D A cy hJ _ x_21 54 3 ob_54 ob_3 k_3 k_4 k_6 k_7) ⟨ml_X0_60, ym_X3_passTo, yv_X3_passTo, yi_X3_passTo, yc_X3_passTo⟩ yd_X3_passTo ob_54 (by decide) rfl rfl hl.1 (Nat.le_of_ble_eq_true rfl) ⟨by decide, by decide⟩ ⟨Nat.zero_le _, Nat.zero_le _⟩ dX0_servedOtherwise_161 (fun M_23 H locs hp_23 hw => ?_)
    obtain ⟨hT1, hs1, hm1, hu1⟩ := hp_23
    refine lv_aload_n hx hb dX0_servedOtherwise_164 rfl (lv_at hl 0 rfl) ?_
    refine ti_get (ci := 0) (k := 0) (N := 6) (T := TX0) (v := .ref (A 54 0)) C hw iw_0 rfl ob_53 (by decide) (by decide) fl_X0_12 rfl rfl dX0_servedOtherwise_165 ?_
    refine lv_iconst (v := 2) hx hb dX0_servedOtherwise_168 (by decide) ?_
    refine ti_callVi (ci := 3) (av := [.int 2]) C hw (k_X3_howMany l D A cy hJ _ 54 3 ob_54 ob_3 hT1 hm1 2) ⟨ml_X0_157, ym_X3_howMany, yv_X3_howMany, yi_X3_howMany, yc_X3_howMany⟩ yd_X3_howMany ob_54 (by decide) rfl rfl hl.1 (Nat.le_of_ble_eq_true rfl) ⟨by decide, by decide⟩ ⟨Nat.zero_le _, Nat.zero_le _⟩ dX0_servedOtherwise_169 (fun r_24 M_25 H locs hp_25 hw => ?_)
    obtain ⟨hm, rfl⟩ := hp_25
    have hw := hw.to hm
    exact hQ _ _ _ _ _ _ hw rfl rfl dX0_servedOtherwise_172
  by_cases s_6_4 : wh = 4
  · refine lv_tableIn (tgt := 119) (off := 113) hx hb dX0_servedOtherwise_6 (by rw [s_6_4]; decide) (by rw [s_6_4]; decide) (by rw [s_6_4]; decide) (by decide) ?_
    refine lv_aload_n hx hb dX0_servedOtherwise_119 rfl (lv_at hl 0 rfl) ?_
    refine ti_get (ci := 0) (k := 0) (N := 6) (T := TX0) (v := .ref (A 54 0)) C hw iw_0 rfl ob_53 (by decide) (by decide) fl_X0_12 rfl rfl dX0_servedOtherwise_120 ?_
    refine lv_dup hx hb dX0_servedOtherwise_123 rfl ?_
    refine ti_get (ci := 3) (k := 1) (N := 17) (T := TX3) C hw iw_3 rfl ob_54 (by decide) (by decide) fl_X0_39 rfl rfl dX0_servedOtherwise_124 ?_
    refine ti_top (y := 3) k_9 ?_
    refine lv_bipush (v := 16) hx hb dX0_servedOtherwise_127 (by decide) ?_
    refine lv_ior hx hb dX0_servedOtherwise_129 ?_
    refine ti_top (y := 19) (by decide) ?_
    refine ti_putI (ci := 3) (k := 1) (N := 17) (T := TX3) C hw iw_3 tyX3 tyX3_ok nmX3 rfl ob_54 (by decide) (by decide) fl_X0_39 rfl rfl rfl rfl (fn_3 A _) fs_3_1 dX0_servedOtherwise_130 (fun H locs hw => ?_)
    refine lv_goto (tgt := 150) hx hb dX0_servedOtherwise_133 (by decide) ?_
    refine lv_aload_n hx hb dX0_servedOtherwise_150 rfl (lv_at hl 0 rfl) ?_
    refine ti_get (ci := 0) (k := 0) (N := 6) (T := TX0) (v := .ref (A 54 0)) C hw iw_0 rfl ob_53 (by decide) (by decide) fl_X0_12 rfl rfl dX0_servedOtherwise_151 ?_
    refine lv_aload_n hx hb dX0_servedOtherwise_154 rfl (lv_at hl 1 rfl) ?_
    refine ti_get (ci := 3) (k := 2) (N := 17) (T := TX3) C hw iw_3 rfl ob_27 (by decide) (by decide) fl_X0_45 rfl rfl dX0_servedOtherwise_155 ?_
    refine ti_top (y := 0) k_8 ?_
    refine lv_iload hx hb dX0_servedOtherwise_158 (lv_at hl 4 rfl) ?_
    refine lv_iadd hx hb dX0_servedOtherwise_160 ?_
    refine lv_topi (fun x_26 ex_26 => ?_)
    refine ti_callVv (ci := 3) (av := [.int x_26]) C hw (k_X3_passTo l D A cy hJ _ x_26 54 3 ob_54 ob_3 k_3 k_4 k_6 k_7) ⟨ml_X0_60, ym_X3_passTo, yv_X3_passTo, yi_X3_passTo, yc_X3_passTo⟩ yd_X3_passTo ob_54 (by decide) rfl rfl hl.1 (Nat.le_of_ble_eq_true rfl) ⟨by decide, by decide⟩ ⟨Nat.zero_le _, Nat.zero_le _⟩ dX0_servedOtherwise_161 (fun M_28 H locs hp_28 hw => ?_)
    obtain ⟨hT1, hs1, hm1, hu1⟩ := hp_28
    refine lv_aload_n hx hb dX0_servedOtherwise_164 rfl (lv_at hl 0 rfl) ?_
    refine ti_get (ci := 0) (k := 0) (N := 6) (T := TX0) (v := .ref (A 54 0)) C hw iw_0 rfl ob_53 (by decide) (by decide) fl_X0_12 rfl rfl dX0_servedOtherwise_165 ?_
    refine lv_iconst (v := 2) hx hb dX0_servedOtherwise_168 (by decide) ?_
    refine ti_callVi (ci := 3) (av := [.int 2]) C hw (k_X3_howMany l D A cy hJ _ 54 3 ob_54 ob_3 hT1 hm1 2) ⟨ml_X0_157, ym_X3_howMany, yv_X3_howMany, yi_X3_howMany, yc_X3_howMany⟩ yd_X3_howMany ob_54 (by decide) rfl rfl hl.1 (Nat.le_of_ble_eq_true rfl) ⟨by decide, by decide⟩ ⟨Nat.zero_le _, Nat.zero_le _⟩ dX0_servedOtherwise_169 (fun r_29 M_30 H locs hp_30 hw => ?_)
    obtain ⟨hm, rfl⟩ := hp_30
    have hw := hw.to hm
    exact hQ _ _ _ _ _ _ hw rfl rfl dX0_servedOtherwise_172
  refine lv_tableOut (tgt := 136) hx hb dX0_servedOtherwise_6 (ti_out (lo := 0) (hi := 4) wh (by
      intro v h1 h2
      have h3 : v = 0 ∨ v = 1 ∨ v = 2 ∨ v = 3 ∨ v = 4 := by omega
      rcases h3 with rfl | rfl | rfl | rfl | rfl <;> first | exact ti_nev 0 s_6_0 (by decide) | exact ti_nev 1 s_6_1 (by decide) | exact ti_nev 2 s_6_2 (by decide) | exact ti_nev 3 s_6_3 (by decide) | exact ti_nev 4 s_6_4 (by decide))) (by decide) ?_
  refine lv_aload_n hx hb dX0_servedOtherwise_136 rfl (lv_at hl 0 rfl) ?_
  refine ti_get (ci := 0) (k := 0) (N := 6) (T := TX0) (v := .ref (A 54 0)) C hw iw_0 rfl ob_53 (by decide) (by decide) fl_X0_12 rfl rfl dX0_servedOtherwise_137 ?_
  refine ti_get (ci := 3) (k := 9) (N := 17) (T := TX3) (v := .ref (A 54 10)) C hw iw_3 rfl ob_54 (by decide) (by decide) fl_X0_57 rfl rfl dX0_servedOtherwise_140 ?_
  refine lv_aload_n hx hb dX0_servedOtherwise_143 rfl (lv_at hl 1 rfl) ?_
  refine ti_get (ci := 3) (k := 2) (N := 17) (T := TX3) C hw iw_3 rfl ob_27 (by decide) (by decide) fl_X0_45 rfl rfl dX0_servedOtherwise_144 ?_
  refine ti_top (y := 0) k_8 ?_
  refine ti_callSv (av := [.ref (A 54 10), .int 0]) C hw (k_fill l D A cy ti_LT_nd hJ _ 54 9 3 8 0 ob_54 (by decide) (fun _ _ => rfl) (by decide)) ⟨ml_X0_148, ys_J7_fill_53178, yi_J7_fill_53178, yc_J7_fill_53178⟩ yd_J7_fill_53178 rfl hl.1 (by decide) ⟨by decide, by decide⟩ ⟨Nat.zero_le _, Nat.zero_le _⟩ dX0_servedOtherwise_147 (fun M_32 H locs hp_32 hw => ?_)
  obtain ⟨g_31, hm, hg_31⟩ := hp_32
  have hw := hw.to hm
  refine lv_aload_n hx hb dX0_servedOtherwise_150 rfl (lv_at hl 0 rfl) ?_
  refine ti_get (ci := 0) (k := 0) (N := 6) (T := TX0) (v := .ref (A 54 0)) C hw iw_0 rfl ob_53 (by decide) (by decide) fl_X0_12 rfl rfl dX0_servedOtherwise_151 ?_
  refine lv_aload_n hx hb dX0_servedOtherwise_154 rfl (lv_at hl 1 rfl) ?_
  refine ti_get (ci := 3) (k := 2) (N := 17) (T := TX3) C hw iw_3 rfl ob_27 (by decide) (by decide) fl_X0_45 rfl rfl dX0_servedOtherwise_155 ?_
  refine ti_top (y := 0) k_8 ?_
  refine lv_iload hx hb dX0_servedOtherwise_158 (lv_at hl 4 rfl) ?_
  refine lv_iadd hx hb dX0_servedOtherwise_160 ?_
  refine lv_topi (fun x_33 ex_33 => ?_)
  refine ti_callVv (ci := 3) (av := [.int x_33]) C hw (k_X3_passTo l D A cy hJ _ x_33 54 3 ob_54 ob_3 k_3 k_4 k_6 k_7) ⟨ml_X0_60, ym_X3_passTo, yv_X3_passTo, yi_X3_passTo, yc_X3_passTo⟩ yd_X3_passTo ob_54 (by decide) rfl rfl hl.1 (Nat.le_of_ble_eq_true rfl) ⟨by decide, by decide⟩ ⟨Nat.zero_le _, Nat.zero_le _⟩ dX0_servedOtherwise_161 (fun M_35 H locs hp_35 hw => ?_)
  obtain ⟨hT1, hs1, hm1, hu1⟩ := hp_35
  refine lv_aload_n hx hb dX0_servedOtherwise_164 rfl (lv_at hl 0 rfl) ?_
  refine ti_get (ci := 0) (k := 0) (N := 6) (T := TX0) (v := .ref (A 54 0)) C hw iw_0 rfl ob_53 (by decide) (by decide) fl_X0_12 rfl rfl dX0_servedOtherwise_165 ?_
  refine lv_iconst (v := 2) hx hb dX0_servedOtherwise_168 (by decide) ?_
  refine ti_callVi (ci := 3) (av := [.int 2]) C hw (k_X3_howMany l D A cy hJ _ 54 3 ob_54 ob_3 hT1 hm1 2) ⟨ml_X0_157, ym_X3_howMany, yv_X3_howMany, yi_X3_howMany, yc_X3_howMany⟩ yd_X3_howMany ob_54 (by decide) rfl rfl hl.1 (Nat.le_of_ble_eq_true rfl) ⟨by decide, by decide⟩ ⟨Nat.zero_le _, Nat.zero_le _⟩ dX0_servedOtherwise_169 (fun r_36 M_37 H locs hp_37 hw => ?_)
  obtain ⟨hm, rfl⟩ := hp_37
  have hw := hw.to hm
  exact hQ _ _ _ _ _ _ hw rfl rfl dX0_servedOtherwise_172
theorem ti_256 {i : Nat} (h : ¬ (256 : Int32) ≤ nI i) (hi : i ≤ 256) : i + 1 ≤ 256 := Nat.lt_of_not_le (fun q => h ((nI_leI (a := 256) (b := i) (by decide) (by omega)).mpr q))
theorem ti_min0 {k : Int32} (h : 1 ≤ k.toInt) : (if (0 : Int32) < k then 0 else k) = 0 := by
  rw [if_pos]; rw [Int32.lt_iff_toInt_lt, ti_l0]; omega
def pf_decree1 (m : Int32) : Int32 := if 0 < m then -2 else 0
theorem ti_wt {mm wt : Int32} (h : ¬ mm < 0) (c : mm ≤ 0) (e : wt = mm - 0) : ¬ (0 : Int32) < wt := by
  have h0 : mm = 0 := by
    rw [← Int32.toInt_inj, ti_l0]; rw [Int32.lt_iff_toInt_lt, ti_l0] at h; rw [Int32.le_iff_toInt_le, ti_l0] at c; omega
  subst h0; subst e; decide
set_option maxHeartbeats 4000000 in
set_option maxRecDepth 100000 in
theorem k_X0_bribes (l : Launch) (D : va_G) (A : Nat → Nat → Nat) (cy : Nat → ClassId) (hJ : ti_inj ti_LT A) (M : ti_M) (hF : ti_F M) (kk mm wh : Int32) (hk : 1 ≤ kk.toInt) (hmm : ¬ mm < 0) : ti_Ki l yX0_bribes cX0_bribes 12 (some .int) 3 ti_LT D A cy M [.ref (A 53 0), .ref (A 27 0), .int kk, .int mm, .int wh] (fun r _ => r = pf_decree1 mm) := by
  refine ti_eI yp_X0_bribes hJ ti_LT_nd (Nat.le_of_ble_eq_true rfl) ?_
  intro p e s m args below meth c Q H0 C hQ hw ls hl
  have hx := C.1
  have hb := C.2.1
  have hl : lv_has ls 12 [(0, .ref (A 53 0)), (1, .ref (A 27 0)), (2, .int kk), (3, .int mm), (4, .int wh)] := hl
  obtain ⟨f_told, f_spare, f_nt, f_many, f_fault, f_place, f_men, f_knots, f_mut, f_man, f_min, f_size, f_water, f_first, f_steps, f_img, f_sm, f_sk, f_ss, f_sw, f_p0, f_p1, f_p2⟩ := id hF
  refine lv_iload_n hx hb dX0_bribes_0 rfl (lv_at hl 2 rfl) ?_
  refine lv_aload_n hx hb dX0_bribes_1 rfl (lv_at hl 1 rfl) ?_
  refine ti_get (ci := 3) (k := 3) (N := 17) (T := TX3) C hw iw_3 rfl ob_27 (by decide) (by decide) fl_X0_68 rfl rfl dX0_bribes_2 ?_
  refine ti_top (y := 0) f_size ?_
  refine ti_min C ml_X0_71 hl.1 (by decide) (Nat.le_of_ble_eq_true rfl) ⟨Nat.zero_le _, Nat.zero_le _⟩ dX0_bribes_5 ?_
  refine ti_top (y := 0) (ti_min0 hk) ?_
  refine lv_istore (lv' := [(5, .int 0), (0, .ref (A 53 0)), (1, .ref (A 27 0)), (2, .int kk), (3, .int mm), (4, .int wh)]) hx hb dX0_bribes_8 hl (by decide) rfl (fun ls hl => ?_)
  refine lv_iload hx hb dX0_bribes_10 (lv_at hl 0 rfl) ?_
  refine lv_iload_n hx hb dX0_bribes_12 rfl (lv_at hl 4 rfl) ?_
  refine lv_icmp_ge (tgt := 19) hx hb dX0_bribes_13 (by decide) (fun c_13 => ?_) (fun c_13 => ?_)
  · refine lv_iconst (v := 0) hx hb dX0_bribes_19 (by decide) ?_
    refine lv_istore (lv' := [(6, .int 0), (5, .int 0), (0, .ref (A 53 0)), (1, .ref (A 27 0)), (2, .int kk), (3, .int mm), (4, .int wh)]) hx hb dX0_bribes_20 hl (by decide) rfl (fun ls hl => ?_)
    refine lv_iconst (v := 0) hx hb dX0_bribes_22 (by decide) ?_
    refine lv_istore (lv' := [(7, .int 0), (6, .int 0), (5, .int 0), (0, .ref (A 53 0)), (1, .ref (A 27 0)), (2, .int kk), (3, .int mm), (4, .int wh)]) hx hb dX0_bribes_23 hl (by decide) rfl (fun ls hl => ?_)
    refine lv_iload hx hb dX0_bribes_25 (lv_at hl 0 rfl) ?_
    refine lv_iload hx hb dX0_bribes_27 (lv_at hl 2 rfl) ?_
    refine lv_icmp_ge (tgt := 76) hx hb dX0_bribes_29 (by decide) (fun c_29 => ?_) (fun c => absurd (by decide) c)
    refine lv_iload_n hx hb dX0_bribes_76 rfl (lv_at hl 6 rfl) ?_
    refine lv_iload hx hb dX0_bribes_77 (lv_at hl 2 rfl) ?_
    refine lv_iload hx hb dX0_bribes_79 (lv_at hl 1 rfl) ?_
    refine ti_callSi (av := [.int 0]) C hw (k_J6_bitCount_0f7a4 l D A cy hJ _ ) ⟨ml_X0_96, ys_J6_bitCount_0f7a4, yi_J6_bitCount_0f7a4, yc_J6_bitCount_0f7a4⟩ yd_J6_bitCount_0f7a4 rfl hl.1 (Nat.le_of_ble_eq_true rfl) ⟨by decide, by decide⟩ ⟨Nat.zero_le _, Nat.zero_le _⟩ dX0_bribes_81 (fun r_1 M_2 H locs hp_2 hw => ?_)
    obtain ⟨hm, rfl⟩ := hp_2
    have hw := hw.to hm
    refine lv_isub hx hb dX0_bribes_84 ?_
    refine ti_top (y := 0) (by decide) ?_
    refine lv_isub hx hb dX0_bribes_85 ?_
    refine lv_topi (fun wt ewt => ?_)
    refine lv_istore (lv' := [(7, .int wt), (6, .int 0), (5, .int 0), (0, .ref (A 53 0)), (1, .ref (A 27 0)), (2, .int kk), (3, .int mm), (4, .int wh)]) hx hb dX0_bribes_86 hl (by decide) rfl (fun ls hl => ?_)
    refine lv_ldc (v := 2147483647) hx hb C.2.2.2.1 (C.2.2.1 _ cn_X0_101) dX0_bribes_88 ?_
    refine lv_istore (lv' := [(8, .int 2147483647), (7, .int wt), (6, .int 0), (5, .int 0), (0, .ref (A 53 0)), (1, .ref (A 27 0)), (2, .int kk), (3, .int mm), (4, .int wh)]) hx hb dX0_bribes_90 hl (by decide) rfl (fun ls hl => ?_)
    refine lv_iconst (v := 0) hx hb dX0_bribes_92 (by decide) ?_
    refine lv_istore (lv' := [(9, .int 0), (8, .int 2147483647), (7, .int wt), (6, .int 0), (5, .int 0), (0, .ref (A 53 0)), (1, .ref (A 27 0)), (2, .int kk), (3, .int mm), (4, .int wh)]) hx hb dX0_bribes_93 hl (by decide) rfl (fun ls hl => ?_)
    refine lv_iconst (v := 0) hx hb dX0_bribes_95 (by decide) ?_
    refine lv_istore (lv' := [(10, .int 0), (9, .int 0), (8, .int 2147483647), (7, .int wt), (6, .int 0), (5, .int 0), (0, .ref (A 53 0)), (1, .ref (A 27 0)), (2, .int kk), (3, .int mm), (4, .int wh)]) hx hb dX0_bribes_96 hl (by decide) rfl (fun ls hl => ?_)
    refine lv_iload hx hb dX0_bribes_98 (lv_at hl 0 rfl) ?_
    refine lv_sipush (v := 256) hx hb dX0_bribes_100 (by decide) ?_
    refine lv_icmp_ge (tgt := 158) hx hb dX0_bribes_103 (by decide) (fun c => absurd c (by decide)) (fun c_103 => ?_)
    refine lv_iload hx hb dX0_bribes_106 (lv_at hl 0 rfl) ?_
    refine lv_iload hx hb dX0_bribes_108 (lv_at hl 4 rfl) ?_
    refine lv_iconst (v := (-1)) hx hb dX0_bribes_110 (by decide) ?_
    refine lv_ixor hx hb dX0_bribes_111 ?_
    refine ti_top (y := (-1)) (by decide) ?_
    refine lv_iand hx hb dX0_bribes_112 ?_
    refine ti_top (y := 0) (by decide) ?_
    refine lv_if_ne (tgt := 152) hx hb dX0_bribes_113 (by decide) (fun c => absurd (by decide) c) (fun c_113 => ?_)
    refine lv_iload hx hb dX0_bribes_116 (lv_at hl 0 rfl) ?_
    refine ti_callSi (av := [.int 0]) C hw (k_J6_bitCount_0f7a4 l D A cy hJ _ ) ⟨ml_X0_96, ys_J6_bitCount_0f7a4, yi_J6_bitCount_0f7a4, yc_J6_bitCount_0f7a4⟩ yd_J6_bitCount_0f7a4 rfl hl.1 (Nat.le_of_ble_eq_true rfl) ⟨by decide, by decide⟩ ⟨Nat.zero_le _, Nat.zero_le _⟩ dX0_bribes_118 (fun r_3 M_4 H locs hp_4 hw => ?_)
    obtain ⟨hm, rfl⟩ := hp_4
    have hw := hw.to hm
    refine lv_iload hx hb dX0_bribes_121 (lv_at hl 3 rfl) ?_
    refine lv_icmp_lt (tgt := 152) hx hb dX0_bribes_123 (by decide) (fun c => absurd c ((ti_wt hmm c_13 ewt))) (fun c_123 => ?_)
    refine lv_aload_n hx hb dX0_bribes_126 rfl (lv_at hl 7 rfl) ?_
    refine ti_get (ci := 3) (k := 0) (N := 17) (T := TX3) (v := .ref (A 3 0)) C hw iw_3 rfl ob_27 (by decide) (by decide) fl_X0_80 rfl (ti_Tv f_nt) dX0_bribes_127 ?_
    refine lv_iload hx hb dX0_bribes_130 (lv_at hl 0 rfl) ?_
    refine ti_callSi (av := [.ref (A 3 0), .int 0]) C hw (k_X0_price l D A cy hJ _ 3 0 ob_3 f_men) ⟨ml_X0_102, ys_X0_price, yi_X0_price, yc_X0_price⟩ yd_X0_price rfl hl.1 (Nat.le_of_ble_eq_true rfl) ⟨by decide, by decide⟩ ⟨Nat.zero_le _, Nat.zero_le _⟩ dX0_bribes_132 (fun r_5 M_6 H locs hp_6 hw => ?_)
    obtain ⟨hm, rfl⟩ := hp_6
    have hw := hw.to hm
    refine lv_istore (lv' := [(11, .int 0), (10, .int 0), (9, .int 0), (8, .int 2147483647), (7, .int wt), (6, .int 0), (5, .int 0), (0, .ref (A 53 0)), (1, .ref (A 27 0)), (2, .int kk), (3, .int mm), (4, .int wh)]) hx hb dX0_bribes_135 hl (by decide) rfl (fun ls hl => ?_)
    refine lv_iload hx hb dX0_bribes_137 (lv_at hl 0 rfl) ?_
    refine lv_iload hx hb dX0_bribes_139 (lv_at hl 3 rfl) ?_
    refine lv_icmp_ge (tgt := 152) hx hb dX0_bribes_141 (by decide) (fun c => absurd c (by decide)) (fun c_141 => ?_)
    refine lv_iload hx hb dX0_bribes_144 (lv_at hl 0 rfl) ?_
    refine lv_istore (lv' := [(8, .int 0), (11, .int 0), (10, .int 0), (9, .int 0), (7, .int wt), (6, .int 0), (5, .int 0), (0, .ref (A 53 0)), (1, .ref (A 27 0)), (2, .int kk), (3, .int mm), (4, .int wh)]) hx hb dX0_bribes_146 hl (by decide) rfl (fun ls hl => ?_)
    refine lv_iload hx hb dX0_bribes_148 (lv_at hl 2 rfl) ?_
    refine lv_istore (lv' := [(9, .int 0), (8, .int 0), (11, .int 0), (10, .int 0), (7, .int wt), (6, .int 0), (5, .int 0), (0, .ref (A 53 0)), (1, .ref (A 27 0)), (2, .int kk), (3, .int mm), (4, .int wh)]) hx hb dX0_bribes_150 hl (by decide) rfl (fun ls hl => ?_)
    refine lv_iinc (v := 1) (lv' := [(10, .int 1), (9, .int 0), (8, .int 0), (11, .int 0), (7, .int wt), (6, .int 0), (5, .int 0), (0, .ref (A 53 0)), (1, .ref (A 27 0)), (2, .int kk), (3, .int mm), (4, .int wh)]) hx hb dX0_bribes_152 hl (k := 3) rfl (by decide) (by decide) rfl (fun ls hl => ?_)
    refine lv_goto (tgt := 98) hx hb dX0_bribes_155 (by decide) ?_
    suffices hloop : ∀ (n : Nat) (i : Nat) (Mx : ti_M) (H : Heap) (locs : List Loc) (ls : Array Slot), (256 < i + n) → (1 ≤ i) → (i ≤ 256) → ti_H ti_LT D A cy H0 Mx H locs → lv_has ls 12 [(10, .int (nI i)), (9, .int 0), (8, .int 0), (7, .int wt), (6, .int 0), (0, .ref (A 53 0)), (1, .ref (A 27 0)), (2, .int kk), (3, .int mm), (4, .int wh), (5, .int 0)] → W p l e (ti_rm 3) s m args below meth c H locs 0 0 Q (F0 m 98 ls []) from hloop 256 1 M _ _ _ (by omega) (by omega) (by omega) hw (lv_sub hl [0, 1, 2, 4, 5, 7, 8, 9, 10, 11, 6] rfl)
    clear hw hl ls
    intro n
    induction n with
    | zero => intro i Mx H locs ls hfuel hi1 hi2 hw hl; exact absurd hfuel (by omega)
    | succ n ih =>
      intro i Mx H locs ls hfuel hi1 hi2 hw hl
      refine lv_iload hx hb dX0_bribes_98 (lv_at hl 0 rfl) ?_
      refine lv_sipush (v := 256) hx hb dX0_bribes_100 (by decide) ?_
      refine lv_icmp_ge (tgt := 158) hx hb dX0_bribes_103 (by decide) (fun c_103 => ?_) (fun c_103 => ?_)
      · refine lv_iload hx hb dX0_bribes_158 (lv_at hl 9 rfl) ?_
        refine lv_if_ne (tgt := 168) hx hb dX0_bribes_160 (by decide) (fun c_160 => ?_) (fun c_160 => ?_)
        · refine lv_iload hx hb dX0_bribes_168 (lv_at hl 1 rfl) ?_
          exact hQ _ _ _ _ _ _ hw rfl (by unfold pf_decree1; rw [if_neg (by (try simp only [Int32.lt_iff_toInt_lt, Int32.le_iff_toInt_le, ← Int32.toInt_inj, ti_l0, ti_l1, ti_l2, ti_l3, ti_l5, ti_l7, ti_l8, ti_l24, ti_l59, ti_l60, ti_l119, ti_l120, ti_lm1, ti_lm2] at c_13); (try simp only [Int32.lt_iff_toInt_lt, Int32.le_iff_toInt_le, ← Int32.toInt_inj, ti_l0, ti_l1, ti_l2, ti_l3, ti_l5, ti_l7, ti_l8, ti_l24, ti_l59, ti_l60, ti_l119, ti_l120, ti_lm1, ti_lm2]); omega)]) dX0_bribes_170
        · refine lv_iload hx hb dX0_bribes_163 (lv_at hl 2 rfl) ?_
          refine lv_goto (tgt := 170) hx hb dX0_bribes_165 (by decide) ?_
          exact hQ _ _ _ _ _ _ hw rfl (by unfold pf_decree1; rw [if_neg (by (try simp only [Int32.lt_iff_toInt_lt, Int32.le_iff_toInt_le, ← Int32.toInt_inj, ti_l0, ti_l1, ti_l2, ti_l3, ti_l5, ti_l7, ti_l8, ti_l24, ti_l59, ti_l60, ti_l119, ti_l120, ti_lm1, ti_lm2] at c_13); (try simp only [Int32.lt_iff_toInt_lt, Int32.le_iff_toInt_le, ← Int32.toInt_inj, ti_l0, ti_l1, ti_l2, ti_l3, ti_l5, ti_l7, ti_l8, ti_l24, ti_l59, ti_l60, ti_l119, ti_l120, ti_lm1, ti_lm2]); omega)]) dX0_bribes_170
      · refine lv_iload hx hb dX0_bribes_106 (lv_at hl 0 rfl) ?_
        refine lv_iload hx hb dX0_bribes_108 (lv_at hl 4 rfl) ?_
        refine lv_iconst (v := (-1)) hx hb dX0_bribes_110 (by decide) ?_
        refine lv_ixor hx hb dX0_bribes_111 ?_
        refine ti_top (y := (-1)) (by decide) ?_
        refine lv_iand hx hb dX0_bribes_112 ?_
        refine ti_top (y := nI i) (Int32.and_neg_one) ?_
        refine lv_if_ne (tgt := 152) hx hb dX0_bribes_113 (by decide) (fun c_113 => ?_) (fun c => absurd c ((nI_ne0 (by omega) (by omega))))
        refine lv_iinc (v := nI (i + 1)) (lv' := [(10, .int (nI (i + 1))), (9, .int 0), (8, .int 0), (7, .int wt), (6, .int 0), (0, .ref (A 53 0)), (1, .ref (A 27 0)), (2, .int kk), (3, .int mm), (4, .int wh), (5, .int 0)]) hx hb dX0_bribes_152 hl (k := 0) rfl (nI_1 i) (by decide) rfl (fun ls hl => ?_)
        refine lv_goto (tgt := 98) hx hb dX0_bribes_155 (by decide) ?_
        exact ih (i + 1) Mx _ _ _ (by omega) (by omega) (ti_256 c_103 hi2) hw (lv_sub hl [0, 1, 2, 3, 4, 5, 6, 7, 8, 9, 10] rfl)
  · refine lv_bipush (v := (-2)) hx hb dX0_bribes_16 (by decide) ?_
    exact hQ _ _ _ _ _ _ hw rfl (by unfold pf_decree1; (try simp only [Int32.lt_iff_toInt_lt, Int32.le_iff_toInt_le, ← Int32.toInt_inj, ti_l0, ti_l1, ti_l2, ti_l3, ti_l5, ti_l7, ti_l8, ti_l24, ti_l59, ti_l60, ti_l119, ti_l120, ti_lm1, ti_lm2] at c_13); (try simp only [Int32.lt_iff_toInt_lt, Int32.le_iff_toInt_le, ← Int32.toInt_inj, ti_l0, ti_l1, ti_l2, ti_l3, ti_l5, ti_l7, ti_l8, ti_l24, ti_l59, ti_l60, ti_l119, ti_l120, ti_lm1, ti_lm2]); (repeat' split) <;> first | rfl | omega) dX0_bribes_18

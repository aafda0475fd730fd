set_option maxHeartbeats 4000000 in
set_option maxRecDepth 100000 in
theorem k_X5_clear (l : Launch) (D : va_G) (A : Nat → Nat → Nat) (cy : Nat → ClassId) (hJ : ti_inj ti_LT A) (M : ti_M)  : ti_Kv l yX5_clear cX5_clear 1 0 ti_LT D A cy M [.ref (A 28 0)] (fun M2 => M2 = uI M 28 2 0) := by
  refine ti_eV yp_X5_clear hJ ti_LT_nd (Nat.le_of_ble_eq_true rfl) ?_
  intro p e s m args below meth c Q H0 C hQ hw ls hl
  have hx := C.1
  have hb := C.2.1
  have hl : lv_has ls 1 [(0, .ref (A 28 0))] := hl
  refine lv_aload_n hx hb dX5_clear_0 rfl (lv_at hl 0 rfl) ?_
  refine lv_iconst (v := 0) hx hb dX5_clear_1 (by decide) ?_
  refine ti_putI (ci := 5) (k := 2) (N := 3) (T := TX5) C hw iw_5 tyX5 tyX5_ok nmX5 rfl ob_28 (by decide) (by decide) fl_X5_21 rfl rfl rfl rfl (fn_5 A _) fs_5_2 dX5_clear_2 (fun H locs hw => ?_)
  exact hQ _ _ _ _ _ hw rfl dX5_clear_5
set_option maxHeartbeats 4000000 in
set_option maxRecDepth 100000 in
theorem k_X6_clear (l : Launch) (D : va_G) (A : Nat → Nat → Nat) (cy : Nat → ClassId) (hJ : ti_inj ti_LT A) (M : ti_M)  : ti_Kv l yX6_clear cX6_clear 1 0 ti_LT D A cy M [.ref (A 50 0)] (fun M2 => M2 = uI (uI (uI M 50 5 0) 50 6 (-1)) 50 7 0) := by
  refine ti_eV yp_X6_clear hJ ti_LT_nd (Nat.le_of_ble_eq_true rfl) ?_
  intro p e s m args below meth c Q H0 C hQ hw ls hl
  have hx := C.1
  have hb := C.2.1
  have hl : lv_has ls 1 [(0, .ref (A 50 0))] := hl
  refine lv_aload_n hx hb dX6_clear_0 rfl (lv_at hl 0 rfl) ?_
  refine lv_iconst (v := 0) hx hb dX6_clear_1 (by decide) ?_
  refine ti_putI (ci := 6) (k := 5) (N := 13) (T := TX6) C hw iw_6 tyX6 tyX6_ok nmX6 rfl ob_50 (by decide) (by decide) fl_X6_28 rfl rfl rfl rfl (fn_6 A _) fs_6_5 dX6_clear_2 (fun H locs hw => ?_)
  refine lv_aload_n hx hb dX6_clear_5 rfl (lv_at hl 0 rfl) ?_
  refine lv_iconst (v := (-1)) hx hb dX6_clear_6 (by decide) ?_
  refine ti_putI (ci := 6) (k := 6) (N := 13) (T := TX6) C hw iw_6 tyX6 tyX6_ok nmX6 rfl ob_50 (by decide) (by decide) fl_X6_31 rfl rfl rfl rfl (fn_6 A _) fs_6_6 dX6_clear_7 (fun H locs hw => ?_)
  refine lv_aload_n hx hb dX6_clear_10 rfl (lv_at hl 0 rfl) ?_
  refine lv_iconst (v := 0) hx hb dX6_clear_11 (by decide) ?_
  refine ti_putI (ci := 6) (k := 7) (N := 13) (T := TX6) C hw iw_6 tyX6 tyX6_ok nmX6 rfl ob_50 (by decide) (by decide) fl_X6_34 rfl rfl rfl rfl (fn_6 A _) fs_6_7 dX6_clear_12 (fun H locs hw => ?_)
  exact hQ _ _ _ _ _ hw rfl dX6_clear_15
set_option maxHeartbeats 4000000 in
set_option maxRecDepth 100000 in
theorem k_X5_takeBack (l : Launch) (D : va_G) (A : Nat → Nat → Nat) (cy : Nat → ClassId) (hJ : ti_inj ti_LT A) (M : ti_M) (h2 : tI M 28 2 = 0) : ti_Ki l yX5_takeBack cX5_takeBack 2 (some .boolean) 0 ti_LT D A cy M [.ref (A 28 0), .ref (A 27 0)] (fun r M2 => M2 = M ∧ r = 0) := by
  refine ti_eI yp_X5_takeBack hJ ti_LT_nd (Nat.le_of_ble_eq_true rfl) ?_
  intro p e s m args below meth c Q H0 C hQ hw ls hl
  have hx := C.1
  have hb := C.2.1
  have hl : lv_has ls 2 [(0, .ref (A 28 0)), (1, .ref (A 27 0))] := hl
  refine lv_aload_n hx hb dX5_takeBack_0 rfl (lv_at hl 0 rfl) ?_
  refine ti_get (ci := 5) (k := 2) (N := 3) (T := TX5) C hw iw_5 rfl ob_28 (by decide) (by decide) fl_X5_21 rfl rfl dX5_takeBack_1 ?_
  refine ti_top (y := 0) h2 ?_
  refine lv_if_ne (tgt := 9) hx hb dX5_takeBack_4 (by decide) (fun c => absurd (by decide) c) (fun c_4 => ?_)
  refine lv_iconst (v := 0) hx hb dX5_takeBack_7 (by decide) ?_
  exact hQ _ _ _ _ _ _ hw rfl (⟨rfl, rfl⟩) dX5_takeBack_8
set_option maxHeartbeats 4000000 in
set_option maxRecDepth 100000 in
theorem k_X5_remember (l : Launch) (D : va_G) (A : Nat → Nat → Nat) (cy : Nat → ClassId) (hJ : ti_inj ti_LT A) (M : ti_M) (hF : ti_F M) : ti_Kv l yX5_remember cX5_remember 2 2 ti_LT D A cy M [.ref (A 28 0), .ref (A 27 0)] (fun _ => True) := by
  refine ti_eV yp_X5_remember hJ ti_LT_nd (Nat.le_of_ble_eq_true rfl) ?_
  intro p e s m args below meth c Q H0 C hQ hw ls hl
  have hx := C.1
  have hb := C.2.1
  have hl : lv_has ls 2 [(0, .ref (A 28 0)), (1, .ref (A 27 0))] := hl
  obtain ⟨f_told, f_spare, f_nt, f_many, f_fault, f_place, f_men, f_knots, f_mut, f_man, f_min, f_size, f_water, f_first, f_steps, f_img, f_sm, f_sk, f_ss, f_sw, f_p0, f_p1, f_p2⟩ := id hF
  refine lv_aload_n hx hb dX5_remember_0 rfl (lv_at hl 0 rfl) ?_
  refine ti_get (ci := 5) (k := 0) (N := 3) (T := TX5) (v := .ref (A 28 1)) C hw iw_5 rfl ob_28 (by decide) (by decide) fl_X5_11 rfl rfl dX5_remember_1 ?_
  refine lv_aload_n hx hb dX5_remember_4 rfl (lv_at hl 0 rfl) ?_
  refine ti_get (ci := 5) (k := 1) (N := 3) (T := TX5) C hw iw_5 rfl ob_28 (by decide) (by decide) fl_X5_17 rfl rfl dX5_remember_5 ?_
  refine ti_top (y := 0) f_first ?_
  refine lv_aload_n hx hb dX5_remember_8 rfl (lv_at hl 0 rfl) ?_
  refine ti_get (ci := 5) (k := 2) (N := 3) (T := TX5) C hw iw_5 rfl ob_28 (by decide) (by decide) fl_X5_21 rfl rfl dX5_remember_9 ?_
  refine ti_top (y := 0) f_steps ?_
  refine lv_iadd hx hb dX5_remember_12 ?_
  refine ti_top (y := 0) (by decide) ?_
  refine lv_bipush (v := 20) hx hb dX5_remember_13 (by decide) ?_
  refine lv_irem hx hb dX5_remember_15 (by decide) ?_
  refine ti_top (y := 0) (by decide) ?_
  refine ti_aald (ci := 5) (k := 0) (n := 20) (t0 := 6) (Cn := RX3) (gg := (fun i => 29 + i)) (j := 0) C hw ob_28 (by decide) (fun _ _ => rfl) rfl (by unfold vp_in; decide) (by decide) dX5_remember_16 ?_
  refine ti_topv (y := .ref (A 29 0)) rfl ?_
  refine lv_aload_n hx hb dX5_remember_17 rfl (lv_at hl 1 rfl) ?_
  refine ti_callVv (ci := 3) (av := [.ref (A 27 0)]) C hw (k_X3_copy l D A cy hJ _ 29 27 3 ob_29 ob_27 f_nt (by decide)) ⟨ml_X5_25, ym_X3_copy, yv_X3_copy, yi_X3_copy, yc_X3_copy⟩ yd_X3_copy ob_29 (by decide) rfl rfl hl.1 (Nat.le_of_ble_eq_true rfl) ⟨by decide, by decide⟩ ⟨Nat.zero_le _, Nat.zero_le _⟩ dX5_remember_18 (fun M_2 H locs hp_2 hw => ?_)
  obtain ⟨h1_2, h2_2, h3_2, h4_2, h5_2, h0_2, hI_2, hTT_2, hY_2⟩ := hp_2
  refine lv_aload_n hx hb dX5_remember_21 rfl (lv_at hl 0 rfl) ?_
  refine ti_get (ci := 5) (k := 2) (N := 3) (T := TX5) C hw iw_5 rfl ob_28 (by decide) (by decide) fl_X5_21 rfl rfl dX5_remember_22 ?_
  refine ti_top (y := 0) ((hI_2 _ _ (by decide)).trans f_steps) ?_
  refine lv_bipush (v := 20) hx hb dX5_remember_25 (by decide) ?_
  refine lv_icmp_ge (tgt := 43) hx hb dX5_remember_27 (by decide) (fun c => absurd c (by decide)) (fun c_27 => ?_)
  refine lv_aload_n hx hb dX5_remember_30 rfl (lv_at hl 0 rfl) ?_
  refine lv_dup hx hb dX5_remember_31 rfl ?_
  refine ti_get (ci := 5) (k := 2) (N := 3) (T := TX5) C hw iw_5 rfl ob_28 (by decide) (by decide) fl_X5_21 rfl rfl dX5_remember_32 ?_
  refine ti_top (y := 0) ((hI_2 _ _ (by decide)).trans f_steps) ?_
  refine lv_iconst (v := 1) hx hb dX5_remember_35 (by decide) ?_
  refine lv_iadd hx hb dX5_remember_36 ?_
  refine ti_top (y := 1) (by decide) ?_
  refine ti_putI (ci := 5) (k := 2) (N := 3) (T := TX5) C hw iw_5 tyX5 tyX5_ok nmX5 rfl ob_28 (by decide) (by decide) fl_X5_21 rfl rfl rfl rfl (fn_5 A _) fs_5_2 dX5_remember_37 (fun H locs hw => ?_)
  refine lv_goto (tgt := 56) hx hb dX5_remember_40 (by decide) ?_
  exact hQ _ _ _ _ _ hw trivial dX5_remember_56
set_option maxHeartbeats 4000000 in
set_option maxRecDepth 100000 in
theorem k_X6_lay (l : Launch) (D : va_G) (A : Nat → Nat → Nat) (cy : Nat → ClassId) (hJ : ti_inj ti_LT A) (M : ti_M) (mi pl mn : Int32) (h5 : tI M 50 5 = 0) : ti_Ki l yX6_lay cX6_lay 4 (some .int) 0 ti_LT D A cy M [.ref (A 50 0), .int mi, .int pl, .int mn] (fun r _ => r = 0) := by
  refine ti_eI yp_X6_lay hJ ti_LT_nd (Nat.le_of_ble_eq_true rfl) ?_
  intro p e s m args below meth c Q H0 C hQ hw ls hl
  have hx := C.1
  have hb := C.2.1
  have hl : lv_has ls 4 [(0, .ref (A 50 0)), (1, .int mi), (2, .int pl), (3, .int mn)] := hl
  refine lv_aload_n hx hb dX6_lay_0 rfl (lv_at hl 0 rfl) ?_
  refine ti_get (ci := 6) (k := 5) (N := 13) (T := TX6) C hw iw_6 rfl ob_50 (by decide) (by decide) fl_X6_28 rfl rfl dX6_lay_1 ?_
  refine ti_top (y := 0) h5 ?_
  refine lv_bipush (v := 24) hx hb dX6_lay_4 (by decide) ?_
  refine lv_icmp_lt (tgt := 11) hx hb dX6_lay_6 (by decide) (fun c_6 => ?_) (fun c => absurd (by decide) c)
  refine lv_aload_n hx hb dX6_lay_11 rfl (lv_at hl 0 rfl) ?_
  refine ti_get (ci := 6) (k := 0) (N := 13) (T := TX6) (v := .ref (A 50 1)) C hw iw_6 rfl ob_50 (by decide) (by decide) fl_X6_9 rfl rfl dX6_lay_12 ?_
  refine lv_aload_n hx hb dX6_lay_15 rfl (lv_at hl 0 rfl) ?_
  refine ti_get (ci := 6) (k := 5) (N := 13) (T := TX6) C hw iw_6 rfl ob_50 (by decide) (by decide) fl_X6_28 rfl rfl dX6_lay_16 ?_
  refine ti_top (y := 0) h5 ?_
  refine lv_iload_n hx hb dX6_lay_19 rfl (lv_at hl 1 rfl) ?_
  refine ti_iastG (ci := 6) (k := 0) (n := 24) C hw ob_50 (by decide) (fun _ _ => rfl) (by unfold vp_in; decide) dX6_lay_20 (fun H locs g_1 eg_1 hw => ?_)
  refine lv_aload_n hx hb dX6_lay_21 rfl (lv_at hl 0 rfl) ?_
  refine ti_get (ci := 6) (k := 1) (N := 13) (T := TX6) (v := .ref (A 50 2)) C hw iw_6 rfl ob_50 (by decide) (by decide) fl_X6_15 rfl rfl dX6_lay_22 ?_
  refine lv_aload_n hx hb dX6_lay_25 rfl (lv_at hl 0 rfl) ?_
  refine ti_get (ci := 6) (k := 5) (N := 13) (T := TX6) C hw iw_6 rfl ob_50 (by decide) (by decide) fl_X6_28 rfl rfl dX6_lay_26 ?_
  refine ti_top (y := 0) h5 ?_
  refine lv_iload_n hx hb dX6_lay_29 rfl (lv_at hl 2 rfl) ?_
  refine ti_iastG (ci := 6) (k := 1) (n := 24) C hw ob_50 (by decide) (fun _ _ => rfl) (by unfold vp_in; decide) dX6_lay_30 (fun H locs g_2 eg_2 hw => ?_)
  refine lv_aload_n hx hb dX6_lay_31 rfl (lv_at hl 0 rfl) ?_
  refine ti_get (ci := 6) (k := 2) (N := 13) (T := TX6) (v := .ref (A 50 3)) C hw iw_6 rfl ob_50 (by decide) (by decide) fl_X6_18 rfl rfl dX6_lay_32 ?_
  refine lv_aload_n hx hb dX6_lay_35 rfl (lv_at hl 0 rfl) ?_
  refine ti_get (ci := 6) (k := 5) (N := 13) (T := TX6) C hw iw_6 rfl ob_50 (by decide) (by decide) fl_X6_28 rfl rfl dX6_lay_36 ?_
  refine ti_top (y := 0) h5 ?_
  refine lv_iload_n hx hb dX6_lay_39 rfl (lv_at hl 3 rfl) ?_
  refine ti_iastG (ci := 6) (k := 2) (n := 24) C hw ob_50 (by decide) (fun _ _ => rfl) (by unfold vp_in; decide) dX6_lay_40 (fun H locs g_3 eg_3 hw => ?_)
  refine lv_aload_n hx hb dX6_lay_41 rfl (lv_at hl 0 rfl) ?_
  refine ti_get (ci := 6) (k := 3) (N := 13) (T := TX6) (v := .ref (A 50 4)) C hw iw_6 rfl ob_50 (by decide) (by decide) fl_X6_21 rfl rfl dX6_lay_42 ?_
  refine lv_aload_n hx hb dX6_lay_45 rfl (lv_at hl 0 rfl) ?_
  refine ti_get (ci := 6) (k := 5) (N := 13) (T := TX6) C hw iw_6 rfl ob_50 (by decide) (by decide) fl_X6_28 rfl rfl dX6_lay_46 ?_
  refine ti_top (y := 0) h5 ?_
  refine lv_iconst (v := (-1)) hx hb dX6_lay_49 (by decide) ?_
  refine ti_iastG (ci := 6) (k := 3) (n := 24) C hw ob_50 (by decide) (fun _ _ => rfl) (by unfold vp_in; decide) dX6_lay_50 (fun H locs g_4 eg_4 hw => ?_)
  refine lv_aload_n hx hb dX6_lay_51 rfl (lv_at hl 0 rfl) ?_
  refine lv_iconst (v := 0) hx hb dX6_lay_52 (by decide) ?_
  refine ti_putI (ci := 6) (k := 7) (N := 13) (T := TX6) C hw iw_6 tyX6 tyX6_ok nmX6 rfl ob_50 (by decide) (by decide) fl_X6_34 rfl rfl rfl rfl (fn_6 A _) fs_6_7 dX6_lay_53 (fun H locs hw => ?_)
  refine lv_aload_n hx hb dX6_lay_56 rfl (lv_at hl 0 rfl) ?_
  refine lv_dup hx hb dX6_lay_57 rfl ?_
  refine ti_get (ci := 6) (k := 5) (N := 13) (T := TX6) C hw iw_6 rfl ob_50 (by decide) (by decide) fl_X6_28 rfl rfl dX6_lay_58 ?_
  refine ti_top (y := 0) h5 ?_
  refine lv_iconst (v := 1) hx hb dX6_lay_61 (by decide) ?_
  refine lv_iadd hx hb dX6_lay_62 ?_
  refine ti_top (y := 1) (by decide) ?_
  refine ti_putI (ci := 6) (k := 5) (N := 13) (T := TX6) C hw iw_6 tyX6 tyX6_ok nmX6 rfl ob_50 (by decide) (by decide) fl_X6_28 rfl rfl rfl rfl (fn_6 A _) fs_6_5 dX6_lay_63 (fun H locs hw => ?_)
  refine lv_aload_n hx hb dX6_lay_66 rfl (lv_at hl 0 rfl) ?_
  refine ti_get (ci := 6) (k := 5) (N := 13) (T := TX6) C hw iw_6 rfl ob_50 (by decide) (by decide) fl_X6_28 rfl rfl dX6_lay_67 ?_
  refine ti_top (y := 1) (show tI (uI (uI (uY (uY (uY (uY M 50 0 g_1) 50 1 g_2) 50 2 g_3) 50 3 g_4) 50 7 0) 50 5 1) 50 5 = _ from tI_u _ _ _ _) ?_
  refine lv_iconst (v := 1) hx hb dX6_lay_70 (by decide) ?_
  refine lv_isub hx hb dX6_lay_71 ?_
  refine ti_top (y := 0) (by decide) ?_
  exact hQ _ _ _ _ _ _ hw rfl rfl dX6_lay_72
set_option maxHeartbeats 4000000 in
set_option maxRecDepth 100000 in
theorem k_X6_layStrike (l : Launch) (D : va_G) (A : Nat → Nat → Nat) (cy : Nat → ClassId) (hJ : ti_inj ti_LT A) (M : ti_M) (z : Int32) (h5 : tI M 50 5 = 0) : ti_Ki l yX6_layStrike cX6_layStrike 2 (some .int) 0 ti_LT D A cy M [.ref (A 50 0), .int z] (fun r _ => r = (-1)) := by
  refine ti_eI yp_X6_layStrike hJ ti_LT_nd (Nat.le_of_ble_eq_true rfl) ?_
  intro p e s m args below meth c Q H0 C hQ hw ls hl
  have hx := C.1
  have hb := C.2.1
  have hl : lv_has ls 2 [(0, .ref (A 50 0)), (1, .int z)] := hl
  refine lv_iload_n hx hb dX6_layStrike_0 rfl (lv_at hl 1 rfl) ?_
  refine lv_if_lt (tgt := 21) hx hb dX6_layStrike_1 (by decide) (fun c_1 => ?_) (fun c_1 => ?_)
  · refine lv_iconst (v := (-1)) hx hb dX6_layStrike_21 (by decide) ?_
    exact hQ _ _ _ _ _ _ hw rfl rfl dX6_layStrike_22
  · refine lv_iload_n hx hb dX6_layStrike_4 rfl (lv_at hl 1 rfl) ?_
    refine lv_aload_n hx hb dX6_layStrike_5 rfl (lv_at hl 0 rfl) ?_
    refine ti_get (ci := 6) (k := 5) (N := 13) (T := TX6) C hw iw_6 rfl ob_50 (by decide) (by decide) fl_X6_28 rfl rfl dX6_layStrike_6 ?_
    refine ti_top (y := 0) h5 ?_
    refine lv_icmp_ge (tgt := 21) hx hb dX6_layStrike_9 (by decide) (fun c_9 => ?_) (fun c => absurd ((by (try simp only [Int32.lt_iff_toInt_lt, Int32.le_iff_toInt_le, ← Int32.toInt_inj, ti_l0, ti_l1, ti_l2, ti_l3, ti_l5, ti_l7, ti_l8, ti_l24, ti_l59, ti_l60, ti_l119, ti_l120, ti_lm1, ti_lm2] at c_1); (try simp only [Int32.lt_iff_toInt_lt, Int32.le_iff_toInt_le, ← Int32.toInt_inj, ti_l0, ti_l1, ti_l2, ti_l3, ti_l5, ti_l7, ti_l8, ti_l24, ti_l59, ti_l60, ti_l119, ti_l120, ti_lm1, ti_lm2]); omega)) c)
    refine lv_iconst (v := (-1)) hx hb dX6_layStrike_21 (by decide) ?_
    exact hQ _ _ _ _ _ _ hw rfl rfl dX6_layStrike_22
def pf_known (z : Int32) : Int32 := if z < -1 then 0 else if 0 < z then 0 else 1
set_option maxHeartbeats 4000000 in
set_option maxRecDepth 100000 in
theorem k_X6_knowBy (l : Launch) (D : va_G) (A : Nat → Nat → Nat) (cy : Nat → ClassId) (hJ : ti_inj ti_LT A) (M : ti_M) (z : Int32) (h5 : tI M 50 5 = 0) : ti_Ki l yX6_knowBy cX6_knowBy 2 (some .boolean) 0 ti_LT D A cy M [.ref (A 50 0), .int z] (fun r _ => r = pf_known z) := by
  refine ti_eI yp_X6_knowBy hJ ti_LT_nd (Nat.le_of_ble_eq_true rfl) ?_
  intro p e s m args below meth c Q H0 C hQ hw ls hl
  have hx := C.1
  have hb := C.2.1
  have hl : lv_has ls 2 [(0, .ref (A 50 0)), (1, .int z)] := hl
  refine lv_iload_n hx hb dX6_knowBy_0 rfl (lv_at hl 1 rfl) ?_
  refine lv_iconst (v := (-1)) hx hb dX6_knowBy_1 (by decide) ?_
  refine lv_icmp_lt (tgt := 13) hx hb dX6_knowBy_2 (by decide) (fun c_2 => ?_) (fun c_2 => ?_)
  · refine lv_iconst (v := 0) hx hb dX6_knowBy_13 (by decide) ?_
    exact hQ _ _ _ _ _ _ hw rfl (by unfold pf_known; (try simp only [Int32.lt_iff_toInt_lt, Int32.le_iff_toInt_le, ← Int32.toInt_inj, ti_l0, ti_l1, ti_l2, ti_l3, ti_l5, ti_l7, ti_l8, ti_l24, ti_l59, ti_l60, ti_l119, ti_l120, ti_lm1, ti_lm2] at c_2); (try simp only [Int32.lt_iff_toInt_lt, Int32.le_iff_toInt_le, ← Int32.toInt_inj, ti_l0, ti_l1, ti_l2, ti_l3, ti_l5, ti_l7, ti_l8, ti_l24, ti_l59, ti_l60, ti_l119, ti_l120, ti_lm1, ti_lm2]); (repeat' split) <;> first | rfl | omega) dX6_knowBy_14
  · refine lv_iload_n hx hb dX6_knowBy_5 rfl (lv_at hl 1 rfl) ?_
    refine lv_aload_n hx hb dX6_knowBy_6 rfl (lv_at hl 0 rfl) ?_
    refine ti_get (ci := 6) (k := 5) (N := 13) (T := TX6) C hw iw_6 rfl ob_50 (by decide) (by decide) fl_X6_28 rfl rfl dX6_knowBy_7 ?_
    refine ti_top (y := 0) h5 ?_
    refine lv_icmp_le (tgt := 15) hx hb dX6_knowBy_10 (by decide) (fun c_10 => ?_) (fun c_10 => ?_)
    · refine lv_aload_n hx hb dX6_knowBy_15 rfl (lv_at hl 0 rfl) ?_
      refine lv_iload_n hx hb dX6_knowBy_16 rfl (lv_at hl 1 rfl) ?_
      refine ti_putI (ci := 6) (k := 6) (N := 13) (T := TX6) C hw iw_6 tyX6 tyX6_ok nmX6 rfl ob_50 (by decide) (by decide) fl_X6_31 rfl rfl rfl rfl (fn_6 A _) fs_6_6 dX6_knowBy_17 (fun H locs hw => ?_)
      refine lv_aload_n hx hb dX6_knowBy_20 rfl (lv_at hl 0 rfl) ?_
      refine lv_iconst (v := 0) hx hb dX6_knowBy_21 (by decide) ?_
      refine ti_putI (ci := 6) (k := 7) (N := 13) (T := TX6) C hw iw_6 tyX6 tyX6_ok nmX6 rfl ob_50 (by decide) (by decide) fl_X6_34 rfl rfl rfl rfl (fn_6 A _) fs_6_7 dX6_knowBy_22 (fun H locs hw => ?_)
      refine lv_iconst (v := 1) hx hb dX6_knowBy_25 (by decide) ?_
      exact hQ _ _ _ _ _ _ hw rfl (by unfold pf_known; (try simp only [Int32.lt_iff_toInt_lt, Int32.le_iff_toInt_le, ← Int32.toInt_inj, ti_l0, ti_l1, ti_l2, ti_l3, ti_l5, ti_l7, ti_l8, ti_l24, ti_l59, ti_l60, ti_l119, ti_l120, ti_lm1, ti_lm2] at c_2); (try simp only [Int32.lt_iff_toInt_lt, Int32.le_iff_toInt_le, ← Int32.toInt_inj, ti_l0, ti_l1, ti_l2, ti_l3, ti_l5, ti_l7, ti_l8, ti_l24, ti_l59, ti_l60, ti_l119, ti_l120, ti_lm1, ti_lm2] at c_10); (try simp only [Int32.lt_iff_toInt_lt, Int32.le_iff_toInt_le, ← Int32.toInt_inj, ti_l0, ti_l1, ti_l2, ti_l3, ti_l5, ti_l7, ti_l8, ti_l24, ti_l59, ti_l60, ti_l119, ti_l120, ti_lm1, ti_lm2]); (repeat' split) <;> first | rfl | omega) dX6_knowBy_26
    · refine lv_iconst (v := 0) hx hb dX6_knowBy_13 (by decide) ?_
      exact hQ _ _ _ _ _ _ hw rfl (by unfold pf_known; (try simp only [Int32.lt_iff_toInt_lt, Int32.le_iff_toInt_le, ← Int32.toInt_inj, ti_l0, ti_l1, ti_l2, ti_l3, ti_l5, ti_l7, ti_l8, ti_l24, ti_l59, ti_l60, ti_l119, ti_l120, ti_lm1, ti_lm2] at c_2); (try simp only [Int32.lt_iff_toInt_lt, Int32.le_iff_toInt_le, ← Int32.toInt_inj, ti_l0, ti_l1, ti_l2, ti_l3, ti_l5, ti_l7, ti_l8, ti_l24, ti_l59, ti_l60, ti_l119, ti_l120, ti_lm1, ti_lm2] at c_10); (try simp only [Int32.lt_iff_toInt_lt, Int32.le_iff_toInt_le, ← Int32.toInt_inj, ti_l0, ti_l1, ti_l2, ti_l3, ti_l5, ti_l7, ti_l8, ti_l24, ti_l59, ti_l60, ti_l119, ti_l120, ti_lm1, ti_lm2]); (repeat' split) <;> first | rfl | omega) dX6_knowBy_14
set_option maxHeartbeats 4000000 in
set_option maxRecDepth 100000 in
theorem k_X6_markStruck (l : Launch) (D : va_G) (A : Nat → Nat → Nat) (cy : Nat → ClassId) (hJ : ti_inj ti_LT A) (M : ti_M) (h6 : tI M 50 6 = (-1)) (h5 : tI M 50 5 = 0) : ti_Kv l yX6_markStruck cX6_markStruck 2 1 ti_LT D A cy M [.ref (A 50 0)] (fun M2 => M2 = uI M 50 4 0) := by
  refine ti_eV yp_X6_markStruck hJ ti_LT_nd (Nat.le_of_ble_eq_true rfl) ?_
  intro p e s m args below meth c Q H0 C hQ hw ls hl
  have hx := C.1
  have hb := C.2.1
  have hl : lv_has ls 2 [(0, .ref (A 50 0))] := hl
  refine lv_aload_n hx hb dX6_markStruck_0 rfl (lv_at hl 0 rfl) ?_
  refine lv_iconst (v := 0) hx hb dX6_markStruck_1 (by decide) ?_
  refine ti_putI (ci := 6) (k := 4) (N := 13) (T := TX6) C hw iw_6 tyX6 tyX6_ok nmX6 rfl ob_50 (by decide) (by decide) fl_X6_24 rfl rfl rfl rfl (fn_6 A _) fs_6_4 dX6_markStruck_2 (fun H locs hw => ?_)
  refine lv_aload_n hx hb dX6_markStruck_5 rfl (lv_at hl 0 rfl) ?_
  refine ti_callVi (ci := 6) (av := []) C hw (k_X6_knownBy l D A cy hJ _ h6 h5) ⟨ml_X6_98, ym_X6_knownBy, yv_X6_knownBy, yi_X6_knownBy, yc_X6_knownBy⟩ yd_X6_knownBy ob_50 (by decide) rfl rfl hl.1 (Nat.le_of_ble_eq_true rfl) ⟨by decide, by decide⟩ ⟨Nat.zero_le _, Nat.zero_le _⟩ dX6_markStruck_6 (fun r_1 M_2 H locs hp_2 hw => ?_)
  obtain ⟨hm, rfl⟩ := hp_2
  have hw := hw.to hm
  refine lv_iconst (v := 1) hx hb dX6_markStruck_9 (by decide) ?_
  refine lv_isub hx hb dX6_markStruck_10 ?_
  refine ti_top (y := (-1)) (by decide) ?_
  refine lv_istore_n (lv' := [(1, .int (-1)), (0, .ref (A 50 0))]) hx hb dX6_markStruck_11 rfl hl (by decide) rfl (fun ls hl => ?_)
  refine lv_iload_n hx hb dX6_markStruck_12 rfl (lv_at hl 0 rfl) ?_
  refine lv_if_lt (tgt := 60) hx hb dX6_markStruck_13 (by decide) (fun c_13 => ?_) (fun c => absurd (by decide) c)
  exact hQ _ _ _ _ _ hw rfl dX6_markStruck_60
set_option maxHeartbeats 4000000 in
set_option maxRecDepth 100000 in
theorem k_X6_lastMinute (l : Launch) (D : va_G) (A : Nat → Nat → Nat) (cy : Nat → ClassId) (hJ : ti_inj ti_LT A) (M : ti_M) (h6 : tI M 50 6 = (-1)) (h5 : tI M 50 5 = 0) : ti_Ki l yX6_lastMinute cX6_lastMinute 4 (some .int) 1 ti_LT D A cy M [.ref (A 50 0)] (fun r M2 => M2 = M ∧ r = (-1)) := by
  refine ti_eI yp_X6_lastMinute hJ ti_LT_nd (Nat.le_of_ble_eq_true rfl) ?_
  intro p e s m args below meth c Q H0 C hQ hw ls hl
  have hx := C.1
  have hb := C.2.1
  have hl : lv_has ls 4 [(0, .ref (A 50 0))] := hl
  refine lv_iconst (v := (-1)) hx hb dX6_lastMinute_0 (by decide) ?_
  refine lv_istore_n (lv' := [(1, .int (-1)), (0, .ref (A 50 0))]) hx hb dX6_lastMinute_1 rfl hl (by decide) rfl (fun ls hl => ?_)
  refine lv_aload_n hx hb dX6_lastMinute_2 rfl (lv_at hl 1 rfl) ?_
  refine ti_callVi (ci := 6) (av := []) C hw (k_X6_knownBy l D A cy hJ _ h6 h5) ⟨ml_X6_98, ym_X6_knownBy, yv_X6_knownBy, yi_X6_knownBy, yc_X6_knownBy⟩ yd_X6_knownBy ob_50 (by decide) rfl rfl hl.1 (Nat.le_of_ble_eq_true rfl) ⟨by decide, by decide⟩ ⟨Nat.zero_le _, Nat.zero_le _⟩ dX6_lastMinute_3 (fun r_1 M_2 H locs hp_2 hw => ?_)
  obtain ⟨hm, rfl⟩ := hp_2
  have hw := hw.to hm
  refine lv_istore_n (lv' := [(2, .int 0), (1, .int (-1)), (0, .ref (A 50 0))]) hx hb dX6_lastMinute_6 rfl hl (by decide) rfl (fun ls hl => ?_)
  refine lv_iconst (v := 0) hx hb dX6_lastMinute_7 (by decide) ?_
  refine lv_istore_n (lv' := [(3, .int 0), (2, .int 0), (1, .int (-1)), (0, .ref (A 50 0))]) hx hb dX6_lastMinute_8 rfl hl (by decide) rfl (fun ls hl => ?_)
  refine lv_iload_n hx hb dX6_lastMinute_9 rfl (lv_at hl 0 rfl) ?_
  refine lv_iload_n hx hb dX6_lastMinute_10 rfl (lv_at hl 1 rfl) ?_
  refine lv_icmp_ge (tgt := 39) hx hb dX6_lastMinute_11 (by decide) (fun c_11 => ?_) (fun c => absurd (by decide) c)
  refine lv_iload_n hx hb dX6_lastMinute_39 rfl (lv_at hl 2 rfl) ?_
  exact hQ _ _ _ _ _ _ hw rfl (⟨rfl, rfl⟩) dX6_lastMinute_40
set_option maxHeartbeats 4000000 in
set_option maxRecDepth 100000 in
theorem k_X6_search (l : Launch) (D : va_G) (A : Nat → Nat → Nat) (cy : Nat → ClassId) (hJ : ti_inj ti_LT A) (M : ti_M) (hF : ti_F M) : ti_Kv l yX6_search cX6_search 6 2 ti_LT D A cy M [.ref (A 50 0), .ref (A 3 0)] (fun M2 => tI M2 50 10 = 0) := by
  refine ti_eV yp_X6_search hJ ti_LT_nd (Nat.le_of_ble_eq_true rfl) ?_
  intro p e s m args below meth c Q H0 C hQ hw ls hl
  have hx := C.1
  have hb := C.2.1
  have hl : lv_has ls 6 [(0, .ref (A 50 0)), (1, .ref (A 3 0))] := hl
  obtain ⟨f_told, f_spare, f_nt, f_many, f_fault, f_place, f_men, f_knots, f_mut, f_man, f_min, f_size, f_water, f_first, f_steps, f_img, f_sm, f_sk, f_ss, f_sw, f_p0, f_p1, f_p2⟩ := id hF
  refine lv_aload_n hx hb dX6_search_0 rfl (lv_at hl 0 rfl) ?_
  refine ti_get (ci := 6) (k := 7) (N := 13) (T := TX6) C hw iw_6 rfl ob_50 (by decide) (by decide) fl_X6_34 rfl rfl dX6_search_1 ?_
  refine ti_top (y := 0) f_ss ?_
  refine lv_if_eq (tgt := 8) hx hb dX6_search_4 (by decide) (fun c_4 => ?_) (fun c => absurd (by decide) c)
  refine lv_aload_n hx hb dX6_search_8 rfl (lv_at hl 0 rfl) ?_
  refine lv_iconst (v := 1) hx hb dX6_search_9 (by decide) ?_
  refine ti_putI (ci := 6) (k := 7) (N := 13) (T := TX6) C hw iw_6 tyX6 tyX6_ok nmX6 rfl ob_50 (by decide) (by decide) fl_X6_34 rfl rfl rfl rfl (fn_6 A _) fs_6_7 dX6_search_10 (fun H locs hw => ?_)
  refine lv_aload_n hx hb dX6_search_13 rfl (lv_at hl 0 rfl) ?_
  refine lv_iconst (v := 0) hx hb dX6_search_14 (by decide) ?_
  refine ti_putI (ci := 6) (k := 10) (N := 13) (T := TX6) C hw iw_6 tyX6 tyX6_ok nmX6 rfl ob_50 (by decide) (by decide) fl_X6_44 rfl rfl rfl rfl (fn_6 A _) fs_6_10 dX6_search_15 (fun H locs hw => ?_)
  refine lv_aload_n hx hb dX6_search_18 rfl (lv_at hl 0 rfl) ?_
  refine ti_callVv (ci := 6) (av := []) C hw (k_X6_markStruck l D A cy hJ _ f_sk f_sm) ⟨ml_X6_57, ym_X6_markStruck, yv_X6_markStruck, yi_X6_markStruck, yc_X6_markStruck⟩ yd_X6_markStruck ob_50 (by decide) rfl rfl hl.1 (Nat.le_of_ble_eq_true rfl) ⟨by decide, by decide⟩ ⟨Nat.zero_le _, Nat.zero_le _⟩ dX6_search_19 (fun M_2 H locs hp_2 hw => ?_)
  have hw := hw.to hp_2
  refine lv_aload_n hx hb dX6_search_22 rfl (lv_at hl 0 rfl) ?_
  refine ti_callVi (ci := 6) (av := []) C hw (k_X6_lastMinute l D A cy hJ _ f_sk f_sm) ⟨ml_X6_60, ym_X6_lastMinute, yv_X6_lastMinute, yi_X6_lastMinute, yc_X6_lastMinute⟩ yd_X6_lastMinute ob_50 (by decide) rfl rfl hl.1 (Nat.le_of_ble_eq_true rfl) ⟨by decide, by decide⟩ ⟨Nat.zero_le _, Nat.zero_le _⟩ dX6_search_23 (fun r_3 M_4 H locs hp_4 hw => ?_)
  obtain ⟨hm, rfl⟩ := hp_4
  have hw := hw.to hm
  refine lv_istore_n (lv' := [(2, .int (-1)), (0, .ref (A 50 0)), (1, .ref (A 3 0))]) hx hb dX6_search_26 rfl hl (by decide) rfl (fun ls hl => ?_)
  refine lv_iconst (v := 0) hx hb dX6_search_27 (by decide) ?_
  refine lv_istore_n (lv' := [(3, .int 0), (2, .int (-1)), (0, .ref (A 50 0)), (1, .ref (A 3 0))]) hx hb dX6_search_28 rfl hl (by decide) rfl (fun ls hl => ?_)
  refine lv_iload_n hx hb dX6_search_29 rfl (lv_at hl 0 rfl) ?_
  refine lv_aload_n hx hb dX6_search_30 rfl (lv_at hl 3 rfl) ?_
  refine ti_get (ci := 8) (k := 4) (N := 12) (T := TX8) C hw iw_8 rfl ob_3 (by decide) (by decide) fl_X6_64 rfl rfl dX6_search_31 ?_
  refine ti_top (y := 0) f_men ?_
  refine lv_icmp_ge (tgt := 153) hx hb dX6_search_34 (by decide) (fun c_34 => ?_) (fun c => absurd (by decide) c)
  exact hQ _ _ _ _ _ hw (show tI (uI (uI M 50 7 1) 50 10 0) 50 10 = _ from tI_u _ _ _ _) dX6_search_153
def pf_move (z z2 : Int32) : Int32 := if z < 0 then 0 else if 3 ≤ z then 0 else if z2 < 0 then 0 else if 8 ≤ z2 then 0 else if z = z2 then 0 else 1
def pf_decree (z z2 z3 : Int32) : Int32 := if z < 1 then -1 else if 8 < z then -1 else if z2 < 0 then -1 else if z < z2 then -1 else if z3 < 0 then -1 else if 1 < z3 then -1 else pf_decree1 z2
def pf_fairest (z z2 z3 : Int32) : Int32 := if z < 0 then -1 else if 3 ≤ z then -1 else if z2 < 1 then -1 else if 60 < z2 then -1 else if z3 < 0 then -1 else if 1 < z3 then -1 else 0
def pf_stone (z z2 z3 : Int32) : Int32 := if z < 0 then -1 else if 59 < z then -1 else if z2 < 0 then -1 else if 8 ≤ z2 then -1 else if z3 = -1 then 0 else -1
def pf_one (z z2 : Int32) : Int32 := if z < 0 then -1 else if z2 < 0 then -1 else if 1 < z2 then -1 else -2
def pf_empty (z z2 : Int32) : Int32 := if z < 1 then -1 else if 60 < z then -1 else if z2 < 0 then -1 else if 1 < z2 then -1 else pf_empty1 z z2
def pf_tried (z z2 z3 : Int32) : Int32 := if z < 0 then -1 else if 5 < z then -1 else if z3 < 0 then -1 else if 60 < z3 then -1 else if z = 2 then -1 else if z2 = 0 then 0 else -1
set_option maxHeartbeats 4000000 in
set_option maxRecDepth 100000 in
theorem k_X9_count (l : Launch) (D : va_G) (A : Nat → Nat → Nat) (cy : Nat → ClassId) (hJ : ti_inj ti_LT A) (M : ti_M) (hF : ti_F M) (z : Int32) : ti_Ki l yX9_count cX9_count 2 (some .int) 1 ti_LT D A cy M [.ref (A 0 0), .int z] (fun r _ => r = pf_count z) := by
  refine ti_eI yp_X9_count hJ ti_LT_nd (Nat.le_of_ble_eq_true rfl) ?_
  intro p e s m args below meth c Q H0 C hQ hw ls hl
  have hx := C.1
  have hb := C.2.1
  have hl : lv_has ls 2 [(0, .ref (A 0 0)), (1, .int z)] := hl
  obtain ⟨f_told, f_spare, f_nt, f_many, f_fault, f_place, f_men, f_knots, f_mut, f_man, f_min, f_size, f_water, f_first, f_steps, f_img, f_sm, f_sk, f_ss, f_sw, f_p0, f_p1, f_p2⟩ := id hF
  refine lv_iload_n hx hb dX9_count_0 rfl (lv_at hl 1 rfl) ?_
  by_cases s_1_0 : z = 0
  · refine lv_tableIn (tgt := 76) (off := 75) hx hb dX9_count_1 (by rw [s_1_0]; decide) (by rw [s_1_0]; decide) (by rw [s_1_0]; decide) (by decide) ?_
    refine lv_aload_n hx hb dX9_count_76 rfl (lv_at hl 0 rfl) ?_
    refine ti_get (ci := 9) (k := 1) (N := 10) (T := TX9) (v := .ref (A 3 0)) C hw iw_9 rfl ob_0 (by decide) (by decide) fl_X9_19 rfl (ti_Tv f_told) dX9_count_77 ?_
    refine ti_get (ci := 8) (k := 4) (N := 12) (T := TX8) C hw iw_8 rfl ob_3 (by decide) (by decide) fl_X9_301 rfl rfl dX9_count_80 ?_
    refine ti_top (y := 0) f_men ?_
    exact hQ _ _ _ _ _ _ hw rfl (by rw [s_1_0]; decide) dX9_count_83
  by_cases s_1_1 : z = 1
  · refine lv_tableIn (tgt := 84) (off := 83) hx hb dX9_count_1 (by rw [s_1_1]; decide) (by rw [s_1_1]; decide) (by rw [s_1_1]; decide) (by decide) ?_
    refine lv_aload_n hx hb dX9_count_84 rfl (lv_at hl 0 rfl) ?_
    refine ti_get (ci := 9) (k := 1) (N := 10) (T := TX9) (v := .ref (A 3 0)) C hw iw_9 rfl ob_0 (by decide) (by decide) fl_X9_19 rfl (ti_Tv f_told) dX9_count_85 ?_
    refine ti_get (ci := 8) (k := 5) (N := 12) (T := TX8) C hw iw_8 rfl ob_3 (by decide) (by decide) fl_X9_304 rfl rfl dX9_count_88 ?_
    refine ti_top (y := 0) f_knots ?_
    exact hQ _ _ _ _ _ _ hw rfl (by rw [s_1_1]; decide) dX9_count_91
  by_cases s_1_2 : z = 2
  · refine lv_tableIn (tgt := 92) (off := 91) hx hb dX9_count_1 (by rw [s_1_2]; decide) (by rw [s_1_2]; decide) (by rw [s_1_2]; decide) (by decide) ?_
    refine lv_aload_n hx hb dX9_count_92 rfl (lv_at hl 0 rfl) ?_
    refine ti_get (ci := 9) (k := 3) (N := 10) (T := TX9) (v := .ref (A 27 0)) C hw iw_9 rfl ob_0 (by decide) (by decide) fl_X9_29 rfl rfl dX9_count_93 ?_
    refine ti_get (ci := 3) (k := 2) (N := 17) (T := TX3) C hw iw_3 rfl ob_27 (by decide) (by decide) fl_X9_186 rfl rfl dX9_count_96 ?_
    refine ti_top (y := 0) f_min ?_
    exact hQ _ _ _ _ _ _ hw rfl (by rw [s_1_2]; decide) dX9_count_99
  by_cases s_1_3 : z = 3
  · refine lv_tableIn (tgt := 100) (off := 99) hx hb dX9_count_1 (by rw [s_1_3]; decide) (by rw [s_1_3]; decide) (by rw [s_1_3]; decide) (by decide) ?_
    refine lv_aload_n hx hb dX9_count_100 rfl (lv_at hl 0 rfl) ?_
    refine ti_get (ci := 9) (k := 3) (N := 10) (T := TX9) (v := .ref (A 27 0)) C hw iw_9 rfl ob_0 (by decide) (by decide) fl_X9_29 rfl rfl dX9_count_101 ?_
    refine ti_get (ci := 3) (k := 3) (N := 17) (T := TX3) C hw iw_3 rfl ob_27 (by decide) (by decide) fl_X9_179 rfl rfl dX9_count_104 ?_
    refine ti_top (y := 0) f_size ?_
    exact hQ _ _ _ _ _ _ hw rfl (by rw [s_1_3]; decide) dX9_count_107
  by_cases s_1_4 : z = 4
  · refine lv_tableIn (tgt := 108) (off := 107) hx hb dX9_count_1 (by rw [s_1_4]; decide) (by rw [s_1_4]; decide) (by rw [s_1_4]; decide) (by decide) ?_
    refine lv_aload_n hx hb dX9_count_108 rfl (lv_at hl 0 rfl) ?_
    refine ti_get (ci := 9) (k := 3) (N := 10) (T := TX9) (v := .ref (A 27 0)) C hw iw_9 rfl ob_0 (by decide) (by decide) fl_X9_29 rfl rfl dX9_count_109 ?_
    refine lv_iconst (v := 2) hx hb dX9_count_112 (by decide) ?_
    refine ti_callVi (ci := 3) (av := [.int 2]) C hw (k_X3_howMany l D A cy hJ _ 27 3 ob_27 ob_3 f_nt f_men 2) ⟨ml_X9_307, ym_X3_howMany, yv_X3_howMany, yi_X3_howMany, yc_X3_howMany⟩ yd_X3_howMany ob_27 (by decide) rfl rfl hl.1 (Nat.le_of_ble_eq_true rfl) ⟨by decide, by decide⟩ ⟨Nat.zero_le _, Nat.zero_le _⟩ dX9_count_113 (fun r_1 M_2 H locs hp_2 hw => ?_)
    obtain ⟨hm, rfl⟩ := hp_2
    have hw := hw.to hm
    exact hQ _ _ _ _ _ _ hw rfl (by rw [s_1_4]; decide) dX9_count_116
  by_cases s_1_5 : z = 5
  · refine lv_tableIn (tgt := 117) (off := 116) hx hb dX9_count_1 (by rw [s_1_5]; decide) (by rw [s_1_5]; decide) (by rw [s_1_5]; decide) (by decide) ?_
    refine lv_aload_n hx hb dX9_count_117 rfl (lv_at hl 0 rfl) ?_
    refine ti_get (ci := 9) (k := 3) (N := 10) (T := TX9) (v := .ref (A 27 0)) C hw iw_9 rfl ob_0 (by decide) (by decide) fl_X9_29 rfl rfl dX9_count_118 ?_
    refine lv_iconst (v := 3) hx hb dX9_count_121 (by decide) ?_
    refine ti_callVi (ci := 3) (av := [.int 3]) C hw (k_X3_howMany l D A cy hJ _ 27 3 ob_27 ob_3 f_nt f_men 3) ⟨ml_X9_307, ym_X3_howMany, yv_X3_howMany, yi_X3_howMany, yc_X3_howMany⟩ yd_X3_howMany ob_27 (by decide) rfl rfl hl.1 (Nat.le_of_ble_eq_true rfl) ⟨by decide, by decide⟩ ⟨Nat.zero_le _, Nat.zero_le _⟩ dX9_count_122 (fun r_3 M_4 H locs hp_4 hw => ?_)
    obtain ⟨hm, rfl⟩ := hp_4
    have hw := hw.to hm
    exact hQ _ _ _ _ _ _ hw rfl (by rw [s_1_5]; decide) dX9_count_125
  by_cases s_1_6 : z = 6
  · refine lv_tableIn (tgt := 126) (off := 125) hx hb dX9_count_1 (by rw [s_1_6]; decide) (by rw [s_1_6]; decide) (by rw [s_1_6]; decide) (by decide) ?_
    refine lv_aload_n hx hb dX9_count_126 rfl (lv_at hl 0 rfl) ?_
    refine ti_get (ci := 9) (k := 3) (N := 10) (T := TX9) (v := .ref (A 27 0)) C hw iw_9 rfl ob_0 (by decide) (by decide) fl_X9_29 rfl rfl dX9_count_127 ?_
    refine ti_get (ci := 3) (k := 4) (N := 17) (T := TX3) C hw iw_3 rfl ob_27 (by decide) (by decide) fl_X9_310 rfl rfl dX9_count_130 ?_
    refine ti_top (y := 200) f_water ?_
    exact hQ _ _ _ _ _ _ hw rfl (by rw [s_1_6]; decide) dX9_count_133
  by_cases s_1_7 : z = 7
  · refine lv_tableIn (tgt := 134) (off := 133) hx hb dX9_count_1 (by rw [s_1_7]; decide) (by rw [s_1_7]; decide) (by rw [s_1_7]; decide) (by decide) ?_
    refine lv_aload_n hx hb dX9_count_134 rfl (lv_at hl 0 rfl) ?_
    refine ti_get (ci := 9) (k := 3) (N := 10) (T := TX9) (v := .ref (A 27 0)) C hw iw_9 rfl ob_0 (by decide) (by decide) fl_X9_29 rfl rfl dX9_count_135 ?_
    refine ti_callVi (ci := 3) (av := []) C hw (k_X3_allCoin l D A cy hJ _ 27 3 ob_27 ob_3 f_nt f_men) ⟨ml_X9_313, ym_X3_allCoin, yv_X3_allCoin, yi_X3_allCoin, yc_X3_allCoin⟩ yd_X3_allCoin ob_27 (by decide) rfl rfl hl.1 (Nat.le_of_ble_eq_true rfl) ⟨by decide, by decide⟩ ⟨Nat.zero_le _, Nat.zero_le _⟩ dX9_count_138 (fun r_5 M_6 H locs hp_6 hw => ?_)
    obtain ⟨hm, rfl⟩ := hp_6
    have hw := hw.to hm
    exact hQ _ _ _ _ _ _ hw rfl (by rw [s_1_7]; decide) dX9_count_141
  by_cases s_1_8 : z = 8
  · refine lv_tableIn (tgt := 142) (off := 141) hx hb dX9_count_1 (by rw [s_1_8]; decide) (by rw [s_1_8]; decide) (by rw [s_1_8]; decide) (by decide) ?_
    refine lv_aload_n hx hb dX9_count_142 rfl (lv_at hl 0 rfl) ?_
    refine ti_get (ci := 9) (k := 8) (N := 10) (T := TX9) (v := .ref (A 50 0)) C hw iw_9 rfl ob_0 (by decide) (by decide) fl_X9_54 rfl rfl dX9_count_143 ?_
    refine ti_get (ci := 6) (k := 5) (N := 13) (T := TX6) C hw iw_6 rfl ob_50 (by decide) (by decide) fl_X9_317 rfl rfl dX9_count_146 ?_
    refine ti_top (y := 0) f_sm ?_
    exact hQ _ _ _ _ _ _ hw rfl (by rw [s_1_8]; decide) dX9_count_149
  by_cases s_1_9 : z = 9
  · refine lv_tableIn (tgt := 150) (off := 149) hx hb dX9_count_1 (by rw [s_1_9]; decide) (by rw [s_1_9]; decide) (by rw [s_1_9]; decide) (by decide) ?_
    refine lv_aload_n hx hb dX9_count_150 rfl (lv_at hl 0 rfl) ?_
    refine ti_get (ci := 9) (k := 8) (N := 10) (T := TX9) (v := .ref (A 50 0)) C hw iw_9 rfl ob_0 (by decide) (by decide) fl_X9_54 rfl rfl dX9_count_151 ?_
    refine ti_callVi (ci := 6) (av := []) C hw (k_X6_knownBy l D A cy hJ _ f_sk f_sm) ⟨ml_X9_318, ym_X6_knownBy, yv_X6_knownBy, yi_X6_knownBy, yc_X6_knownBy⟩ yd_X6_knownBy ob_50 (by decide) rfl rfl hl.1 (Nat.le_of_ble_eq_true rfl) ⟨by decide, by decide⟩ ⟨Nat.zero_le _, Nat.zero_le _⟩ dX9_count_154 (fun r_7 M_8 H locs hp_8 hw => ?_)
    obtain ⟨hm, rfl⟩ := hp_8
    have hw := hw.to hm
    exact hQ _ _ _ _ _ _ hw rfl (by rw [s_1_9]; decide) dX9_count_157
  by_cases s_1_10 : z = 10
  · refine lv_tableIn (tgt := 158) (off := 157) hx hb dX9_count_1 (by rw [s_1_10]; decide) (by rw [s_1_10]; decide) (by rw [s_1_10]; decide) (by decide) ?_
    refine lv_aload_n hx hb dX9_count_158 rfl (lv_at hl 0 rfl) ?_
    refine ti_get (ci := 9) (k := 5) (N := 10) (T := TX9) (v := .ref (A 28 0)) C hw iw_9 rfl ob_0 (by decide) (by decide) fl_X9_40 rfl rfl dX9_count_159 ?_
    refine ti_get (ci := 5) (k := 2) (N := 3) (T := TX5) C hw iw_5 rfl ob_28 (by decide) (by decide) fl_X9_297 rfl rfl dX9_count_162 ?_
    refine ti_top (y := 0) f_steps ?_
    exact hQ _ _ _ _ _ _ hw rfl (by rw [s_1_10]; decide) dX9_count_165
  by_cases s_1_11 : z = 11
  · refine lv_tableIn (tgt := 166) (off := 165) hx hb dX9_count_1 (by rw [s_1_11]; decide) (by rw [s_1_11]; decide) (by rw [s_1_11]; decide) (by decide) ?_
    refine lv_aload_n hx hb dX9_count_166 rfl (lv_at hl 0 rfl) ?_
    refine ti_get (ci := 9) (k := 3) (N := 10) (T := TX9) (v := .ref (A 27 0)) C hw iw_9 rfl ob_0 (by decide) (by decide) fl_X9_29 rfl rfl dX9_count_167 ?_
    refine ti_get (ci := 3) (k := 7) (N := 17) (T := TX3) (v := .ref (A 27 8)) C hw iw_3 rfl ob_27 (by decide) (by decide) fl_X9_168 rfl rfl dX9_count_170 ?_
    refine lv_iconst (v := 0) hx hb dX9_count_173 (by decide) ?_
    refine ti_iald (ci := 3) (k := 7) (n := 3) C hw ob_27 (by decide) (fun _ _ => rfl) (by unfold vp_in; decide) dX9_count_174 ?_
    refine ti_top (y := 0) f_p0 ?_
    exact hQ _ _ _ _ _ _ hw rfl (by rw [s_1_11]; decide) dX9_count_175
  by_cases s_1_12 : z = 12
  · refine lv_tableIn (tgt := 176) (off := 175) hx hb dX9_count_1 (by rw [s_1_12]; decide) (by rw [s_1_12]; decide) (by rw [s_1_12]; decide) (by decide) ?_
    refine lv_aload_n hx hb dX9_count_176 rfl (lv_at hl 0 rfl) ?_
    refine ti_get (ci := 9) (k := 3) (N := 10) (T := TX9) (v := .ref (A 27 0)) C hw iw_9 rfl ob_0 (by decide) (by decide) fl_X9_29 rfl rfl dX9_count_177 ?_
    refine ti_get (ci := 3) (k := 7) (N := 17) (T := TX3) (v := .ref (A 27 8)) C hw iw_3 rfl ob_27 (by decide) (by decide) fl_X9_168 rfl rfl dX9_count_180 ?_
    refine lv_iconst (v := 1) hx hb dX9_count_183 (by decide) ?_
    refine ti_iald (ci := 3) (k := 7) (n := 3) C hw ob_27 (by decide) (fun _ _ => rfl) (by unfold vp_in; decide) dX9_count_184 ?_
    refine ti_top (y := 1) f_p1 ?_
    exact hQ _ _ _ _ _ _ hw rfl (by rw [s_1_12]; decide) dX9_count_185
  by_cases s_1_13 : z = 13
  · refine lv_tableIn (tgt := 186) (off := 185) hx hb dX9_count_1 (by rw [s_1_13]; decide) (by rw [s_1_13]; decide) (by rw [s_1_13]; decide) (by decide) ?_
    refine lv_aload_n hx hb dX9_count_186 rfl (lv_at hl 0 rfl) ?_
    refine ti_get (ci := 9) (k := 3) (N := 10) (T := TX9) (v := .ref (A 27 0)) C hw iw_9 rfl ob_0 (by decide) (by decide) fl_X9_29 rfl rfl dX9_count_187 ?_
    refine ti_get (ci := 3) (k := 7) (N := 17) (T := TX3) (v := .ref (A 27 8)) C hw iw_3 rfl ob_27 (by decide) (by decide) fl_X9_168 rfl rfl dX9_count_190 ?_
    refine lv_iconst (v := 2) hx hb dX9_count_193 (by decide) ?_
    refine ti_iald (ci := 3) (k := 7) (n := 3) C hw ob_27 (by decide) (fun _ _ => rfl) (by unfold vp_in; decide) dX9_count_194 ?_
    refine ti_top (y := 2) f_p2 ?_
    exact hQ _ _ _ _ _ _ hw rfl (by rw [s_1_13]; decide) dX9_count_195
  by_cases s_1_14 : z = 14
  · refine lv_tableIn (tgt := 196) (off := 195) hx hb dX9_count_1 (by rw [s_1_14]; decide) (by rw [s_1_14]; decide) (by rw [s_1_14]; decide) (by decide) ?_
    refine lv_aload_n hx hb dX9_count_196 rfl (lv_at hl 0 rfl) ?_
    refine ti_get (ci := 9) (k := 3) (N := 10) (T := TX9) (v := .ref (A 27 0)) C hw iw_9 rfl ob_0 (by decide) (by decide) fl_X9_29 rfl rfl dX9_count_197 ?_
    refine ti_callVi (ci := 3) (av := []) C hw (k_X3_allCoughs l D A cy hJ _ 27 3 ob_27 ob_3 f_nt f_men) ⟨ml_X9_321, ym_X3_allCoughs, yv_X3_allCoughs, yi_X3_allCoughs, yc_X3_allCoughs⟩ yd_X3_allCoughs ob_27 (by decide) rfl rfl hl.1 (Nat.le_of_ble_eq_true rfl) ⟨by decide, by decide⟩ ⟨Nat.zero_le _, Nat.zero_le _⟩ dX9_count_200 (fun r_9 M_10 H locs hp_10 hw => ?_)
    obtain ⟨hm, rfl⟩ := hp_10
    have hw := hw.to hm
    exact hQ _ _ _ _ _ _ hw rfl (by rw [s_1_14]; decide) dX9_count_203
  refine lv_tableOut (tgt := 204) hx hb dX9_count_1 (ti_out (lo := 0) (hi := 14) z (by
      intro v h1 h2
      have h3 : v = 0 ∨ v = 1 ∨ v = 2 ∨ v = 3 ∨ v = 4 ∨ v = 5 ∨ v = 6 ∨ v = 7 ∨ v = 8 ∨ v = 9 ∨ v = 10 ∨ v = 11 ∨ v = 12 ∨ v = 13 ∨ v = 14 := by omega
      rcases h3 with rfl | rfl | rfl | rfl | rfl | rfl | rfl | rfl | rfl | rfl | rfl | rfl | rfl | rfl | rfl <;> first | exact ti_nev 0 s_1_0 (by decide) | exact ti_nev 1 s_1_1 (by decide) | exact ti_nev 2 s_1_2 (by decide) | exact ti_nev 3 s_1_3 (by decide) | exact ti_nev 4 s_1_4 (by decide) | exact ti_nev 5 s_1_5 (by decide) | exact ti_nev 6 s_1_6 (by decide) | exact ti_nev 7 s_1_7 (by decide) | exact ti_nev 8 s_1_8 (by decide) | exact ti_nev 9 s_1_9 (by decide) | exact ti_nev 10 s_1_10 (by decide) | exact ti_nev 11 s_1_11 (by decide) | exact ti_nev 12 s_1_12 (by decide) | exact ti_nev 13 s_1_13 (by decide) | exact ti_nev 14 s_1_14 (by decide))) (by decide) ?_
  refine lv_iconst (v := (-1)) hx hb dX9_count_204 (by decide) ?_
  exact hQ _ _ _ _ _ _ hw rfl (by unfold pf_count; rw [if_neg s_1_0, if_neg s_1_1, if_neg s_1_2, if_neg s_1_3, if_neg s_1_4, if_neg s_1_5, if_neg s_1_6, if_neg s_1_7, if_neg s_1_8, if_neg s_1_9, if_neg s_1_10, if_neg s_1_11, if_neg s_1_12, if_neg s_1_13, if_neg s_1_14]) dX9_count_205
theorem ti_in3 {z : Int32} (h1 : ¬ z < 0) (h2 : z < 3) : vp_in z 3 := by
  rw [vp_in_iff]; rw [Int32.lt_iff_toInt_lt] at h1 h2; rw [ti_l0] at h1; rw [ti_l3] at h2; omega
theorem ti_lt3 {z : Int32} (h1 : ¬ z < 0) (h2 : z < 3) : z.toNatClampNeg < 3 := Nat.lt_of_not_le (fun h => ti_in3 h1 h2 (Or.inr h))
set_option maxHeartbeats 4000000 in
set_option maxRecDepth 100000 in
theorem k_X9_law (l : Launch) (D : va_G) (A : Nat → Nat → Nat) (cy : Nat → ClassId) (hJ : ti_inj ti_LT A) (M : ti_M) (hF : ti_F M) (z z2 : Int32) : ti_Kl l yX9_law cX9_law 4 (some .long) 2 ti_LT D A cy M [.ref (A 0 0), .int z, .int z2] (fun r _ => r = (-9223372036854775808)) := by
  refine ti_eL yp_X9_law hJ ti_LT_nd (Nat.le_of_ble_eq_true rfl) ?_
  intro p e s m args below meth c Q H0 C hQ hw ls hl
  have hx := C.1
  have hb := C.2.1
  have hl : lv_has ls 4 [(0, .ref (A 0 0)), (1, .int z), (2, .int z2)] := hl
  obtain ⟨f_told, f_spare, f_nt, f_many, f_fault, f_place, f_men, f_knots, f_mut, f_man, f_min, f_size, f_water, f_first, f_steps, f_img, f_sm, f_sk, f_ss, f_sw, f_p0, f_p1, f_p2⟩ := id hF
  refine lv_iload_n hx hb dX9_law_0 rfl (lv_at hl 1 rfl) ?_
  refine lv_if_lt (tgt := 9) hx hb dX9_law_1 (by decide) (fun c_1 => ?_) (fun c_1 => ?_)
  · refine lv_ldc2 (v := (-9223372036854775808)) hx hb C.2.2.2.1 (C.2.2.1 _ cn_X9_173) dX9_law_9 ?_
    exact hQ _ _ _ _ _ _ hw rfl dX9_law_12
  · refine lv_iload_n hx hb dX9_law_4 rfl (lv_at hl 1 rfl) ?_
    refine lv_iconst (v := 3) hx hb dX9_law_5 (by decide) ?_
    refine lv_icmp_lt (tgt := 13) hx hb dX9_law_6 (by decide) (fun c_6 => ?_) (fun c_6 => ?_)
    · refine lv_iload_n hx hb dX9_law_13 rfl (lv_at hl 1 rfl) ?_
      refine lv_iconst (v := 2) hx hb dX9_law_14 (by decide) ?_
      refine lv_icmp_ne (tgt := 43) hx hb dX9_law_15 (by decide) (fun c_15 => ?_) (fun c_15 => ?_)
      · refine lv_aload_n hx hb dX9_law_43 rfl (lv_at hl 0 rfl) ?_
        refine ti_get (ci := 9) (k := 3) (N := 10) (T := TX9) (v := .ref (A 27 0)) C hw iw_9 rfl ob_0 (by decide) (by decide) fl_X9_29 rfl rfl dX9_law_44 ?_
        refine lv_iload_n hx hb dX9_law_47 rfl (lv_at hl 2 rfl) ?_
        refine ti_callVi (ci := 3) (av := [.int z2]) C hw (k_X3_placeOf l D A cy hJ _ 27 z2 ob_27 f_size) ⟨ml_X9_136, ym_X3_placeOf, yv_X3_placeOf, yi_X3_placeOf, yc_X3_placeOf⟩ yd_X3_placeOf ob_27 (by decide) rfl rfl hl.1 (Nat.le_of_ble_eq_true rfl) ⟨by decide, by decide⟩ ⟨Nat.zero_le _, Nat.zero_le _⟩ dX9_law_48 (fun r_1 M_2 H locs hp_2 hw => ?_)
        obtain ⟨hm, rfl⟩ := hp_2
        have hw := hw.to hm
        refine lv_istore_n (lv' := [(3, .int (-1)), (0, .ref (A 0 0)), (1, .int z), (2, .int z2)]) hx hb dX9_law_51 rfl hl (by decide) rfl (fun ls hl => ?_)
        refine lv_aload_n hx hb dX9_law_52 rfl (lv_at hl 1 rfl) ?_
        refine ti_get (ci := 9) (k := 1) (N := 10) (T := TX9) (v := .ref (A 3 0)) C hw iw_9 rfl ob_0 (by decide) (by decide) fl_X9_19 rfl (ti_Tv f_told) dX9_law_53 ?_
        refine ti_get (ci := 8) (k := 2) (N := 12) (T := TX8) (v := .ref (A 3 3)) C hw iw_8 rfl ob_3 (by decide) (by decide) fl_X9_175 rfl rfl dX9_law_56 ?_
        refine lv_iload_n hx hb dX9_law_59 rfl (lv_at hl 2 rfl) ?_
        refine ti_aald (ci := 8) (k := 2) (n := 3) (t0 := 4) (Cn := RX1) (gg := (ti_laws 3)) (j := z.toNatClampNeg) C hw ob_3 (by decide) (fun _ _ => rfl) rfl (ti_in3 c_1 c_6) rfl dX9_law_60 ?_
        refine lv_aload_n hx hb dX9_law_61 rfl (lv_at hl 1 rfl) ?_
        refine ti_get (ci := 9) (k := 3) (N := 10) (T := TX9) (v := .ref (A 27 0)) C hw iw_9 rfl ob_0 (by decide) (by decide) fl_X9_29 rfl rfl dX9_law_62 ?_
        refine lv_iload_n hx hb dX9_law_65 rfl (lv_at hl 0 rfl) ?_
        refine lv_iload_n hx hb dX9_law_66 rfl (lv_at hl 0 rfl) ?_
        refine ti_callVl (ci := 1) (av := [.ref (A 27 0), .int (-1), .int (-1)]) C hw (k_X1_value l D A cy hJ _ ((ti_laws 3) z.toNatClampNeg) 27 (-1) (-1) (ob_laws3 (ti_lt3 c_1 c_6)) ob_27 f_size) ⟨ml_X9_182, ym_X1_value, yv_X1_value, yi_X1_value, yc_X1_value⟩ yd_X1_value (ob_laws3 (ti_lt3 c_1 c_6)) (by decide) rfl rfl hl.1 (Nat.le_of_ble_eq_true rfl) ⟨by decide, by decide⟩ ⟨Nat.zero_le _, Nat.zero_le _⟩ dX9_law_67 (fun r_3 M_4 H locs hp_4 hw => ?_)
        obtain ⟨hm, rfl⟩ := hp_4
        have hw := hw.to hm
        exact hQ _ _ _ _ _ _ hw rfl dX9_law_70
      · refine lv_aload_n hx hb dX9_law_18 rfl (lv_at hl 0 rfl) ?_
        refine ti_get (ci := 9) (k := 1) (N := 10) (T := TX9) (v := .ref (A 3 0)) C hw iw_9 rfl ob_0 (by decide) (by decide) fl_X9_19 rfl (ti_Tv f_told) dX9_law_19 ?_
        refine ti_get (ci := 8) (k := 2) (N := 12) (T := TX8) (v := .ref (A 3 3)) C hw iw_8 rfl ob_3 (by decide) (by decide) fl_X9_175 rfl rfl dX9_law_22 ?_
        refine lv_iload_n hx hb dX9_law_25 rfl (lv_at hl 1 rfl) ?_
        refine ti_aald (ci := 8) (k := 2) (n := 3) (t0 := 4) (Cn := RX1) (gg := (ti_laws 3)) (j := 2) C hw ob_3 (by decide) (fun _ _ => rfl) rfl (by rw [c_15]; unfold vp_in; decide) (by rw [c_15]; decide) dX9_law_26 ?_
        refine ti_topv (y := .ref (A 23 0)) rfl ?_
        refine lv_aload_n hx hb dX9_law_27 rfl (lv_at hl 0 rfl) ?_
        refine ti_get (ci := 9) (k := 3) (N := 10) (T := TX9) (v := .ref (A 27 0)) C hw iw_9 rfl ob_0 (by decide) (by decide) fl_X9_29 rfl rfl dX9_law_28 ?_
        refine lv_iconst (v := 0) hx hb dX9_law_31 (by decide) ?_
        refine lv_aload_n hx hb dX9_law_32 rfl (lv_at hl 0 rfl) ?_
        refine ti_get (ci := 9) (k := 3) (N := 10) (T := TX9) (v := .ref (A 27 0)) C hw iw_9 rfl ob_0 (by decide) (by decide) fl_X9_29 rfl rfl dX9_law_33 ?_
        refine ti_get (ci := 3) (k := 3) (N := 17) (T := TX3) C hw iw_3 rfl ob_27 (by decide) (by decide) fl_X9_179 rfl rfl dX9_law_36 ?_
        refine ti_top (y := 0) f_size ?_
        refine ti_callVl (ci := 1) (av := [.ref (A 27 0), .int 0, .int 0]) C hw (k_X1_value l D A cy hJ _ 23 27 0 0 ob_23 ob_27 f_size) ⟨ml_X9_182, ym_X1_value, yv_X1_value, yi_X1_value, yc_X1_value⟩ yd_X1_value ob_23 (by decide) rfl rfl hl.1 (Nat.le_of_ble_eq_true rfl) ⟨by decide, by decide⟩ ⟨Nat.zero_le _, Nat.zero_le _⟩ dX9_law_39 (fun r_5 M_6 H locs hp_6 hw => ?_)
        obtain ⟨hm, rfl⟩ := hp_6
        have hw := hw.to hm
        exact hQ _ _ _ _ _ _ hw rfl dX9_law_42
    · refine lv_ldc2 (v := (-9223372036854775808)) hx hb C.2.2.2.1 (C.2.2.1 _ cn_X9_173) dX9_law_9 ?_
      exact hQ _ _ _ _ _ _ hw rfl dX9_law_12
set_option maxHeartbeats 4000000 in
set_option maxRecDepth 100000 in
theorem k_X9_was (l : Launch) (D : va_G) (A : Nat → Nat → Nat) (cy : Nat → ClassId) (hJ : ti_inj ti_LT A) (M : ti_M) (hF : ti_F M) (z : Int32) (z2 : Int32) : ti_Ki l yX9_was cX9_was 3 (some .int) 1 ti_LT D A cy M [.ref (A 0 0), .int z, .int z2] (fun r _ => r = (-1)) := by
  refine ti_eI yp_X9_was hJ ti_LT_nd (Nat.le_of_ble_eq_true rfl) ?_
  intro p e s m args below meth c Q H0 C hQ hw ls hl
  have hx := C.1
  have hb := C.2.1
  have hl : lv_has ls 3 [(0, .ref (A 0 0)), (1, .int z), (2, .int z2)] := hl
  obtain ⟨f_told, f_spare, f_nt, f_many, f_fault, f_place, f_men, f_knots, f_mut, f_man, f_min, f_size, f_water, f_first, f_steps, f_img, f_sm, f_sk, f_ss, f_sw, f_p0, f_p1, f_p2⟩ := id hF
  refine lv_aload_n hx hb dX9_was_0 rfl (lv_at hl 0 rfl) ?_
  refine lv_iload_n hx hb dX9_was_1 rfl (lv_at hl 1 rfl) ?_
  refine ti_callVi (ci := 9) (av := [.int z]) C hw (k_X9_isPower l D A cy hJ _ z) ⟨ml_X9_165, ym_X9_isPower, yv_X9_isPower, yi_X9_isPower, yc_X9_isPower⟩ yd_X9_isPower ob_0 (by decide) rfl rfl hl.1 (Nat.le_of_ble_eq_true rfl) ⟨by decide, by decide⟩ ⟨Nat.zero_le _, Nat.zero_le _⟩ dX9_was_2 (fun r_1 M_2 H locs hp_2 hw => ?_)
  obtain ⟨hm, hz⟩ := hp_2
  have hw := hw.to hm
  rcases hz with ⟨rfl, g_3, g_4⟩ | ⟨rfl, g_5⟩
  · refine lv_if_eq (tgt := 23) hx hb dX9_was_5 (by decide) (fun c => absurd c (by decide)) (fun c_5 => ?_)
    refine lv_iload_n hx hb dX9_was_8 rfl (lv_at hl 2 rfl) ?_
    refine lv_if_lt (tgt := 23) hx hb dX9_was_9 (by decide) (fun c_9 => ?_) (fun c_9 => ?_)
    · refine lv_iconst (v := (-1)) hx hb dX9_was_23 (by decide) ?_
      exact hQ _ _ _ _ _ _ hw rfl rfl dX9_was_24
    · refine lv_iload_n hx hb dX9_was_12 rfl (lv_at hl 2 rfl) ?_
      refine lv_aload_n hx hb dX9_was_13 rfl (lv_at hl 0 rfl) ?_
      refine ti_get (ci := 9) (k := 3) (N := 10) (T := TX9) (v := .ref (A 27 0)) C hw iw_9 rfl ob_0 (by decide) (by decide) fl_X9_29 rfl rfl dX9_was_14 ?_
      refine ti_get (ci := 3) (k := 2) (N := 17) (T := TX3) C hw iw_3 rfl ob_27 (by decide) (by decide) fl_X9_186 rfl rfl dX9_was_17 ?_
      refine ti_top (y := 0) f_min ?_
      refine lv_icmp_lt (tgt := 25) hx hb dX9_was_20 (by decide) (fun c => absurd c ((by (try simp only [Int32.lt_iff_toInt_lt, Int32.le_iff_toInt_le, ← Int32.toInt_inj, ti_l0, ti_l1, ti_l2, ti_l3, ti_l5, ti_l7, ti_l8, ti_l24, ti_l59, ti_l60, ti_l119, ti_l120, ti_lm1, ti_lm2] at g_3); (try simp only [Int32.lt_iff_toInt_lt, Int32.le_iff_toInt_le, ← Int32.toInt_inj, ti_l0, ti_l1, ti_l2, ti_l3, ti_l5, ti_l7, ti_l8, ti_l24, ti_l59, ti_l60, ti_l119, ti_l120, ti_lm1, ti_lm2] at g_4); (try simp only [Int32.lt_iff_toInt_lt, Int32.le_iff_toInt_le, ← Int32.toInt_inj, ti_l0, ti_l1, ti_l2, ti_l3, ti_l5, ti_l7, ti_l8, ti_l24, ti_l59, ti_l60, ti_l119, ti_l120, ti_lm1, ti_lm2] at c_5); (try simp only [Int32.lt_iff_toInt_lt, Int32.le_iff_toInt_le, ← Int32.toInt_inj, ti_l0, ti_l1, ti_l2, ti_l3, ti_l5, ti_l7, ti_l8, ti_l24, ti_l59, ti_l60, ti_l119, ti_l120, ti_lm1, ti_lm2] at c_9); (try simp only [Int32.lt_iff_toInt_lt, Int32.le_iff_toInt_le, ← Int32.toInt_inj, ti_l0, ti_l1, ti_l2, ti_l3, ti_l5, ti_l7, ti_l8, ti_l24, ti_l59, ti_l60, ti_l119, ti_l120, ti_lm1, ti_lm2]); omega))) (fun c_20 => ?_)
      refine lv_iconst (v := (-1)) hx hb dX9_was_23 (by decide) ?_
      exact hQ _ _ _ _ _ _ hw rfl rfl dX9_was_24
  · refine lv_if_eq (tgt := 23) hx hb dX9_was_5 (by decide) (fun c_5 => ?_) (fun c => absurd (by decide) c)
    refine lv_iconst (v := (-1)) hx hb dX9_was_23 (by decide) ?_
    exact hQ _ _ _ _ _ _ hw rfl rfl dX9_was_24
set_option maxHeartbeats 4000000 in
set_option maxRecDepth 100000 in
theorem k_X9_decree (l : Launch) (D : va_G) (A : Nat → Nat → Nat) (cy : Nat → ClassId) (hJ : ti_inj ti_LT A) (M : ti_M) (hF : ti_F M) (z : Int32) (z2 : Int32) (z3 : Int32) : ti_Ki l yX9_decree cX9_decree 4 (some .int) 4 ti_LT D A cy M [.ref (A 0 0), .int z, .int z2, .int z3] (fun r _ => r = pf_decree z z2 z3) := by
  refine ti_eI yp_X9_decree hJ ti_LT_nd (Nat.le_of_ble_eq_true rfl) ?_
  intro p e s m args below meth c Q H0 C hQ hw ls hl
  have hx := C.1
  have hb := C.2.1
  have hl : lv_has ls 4 [(0, .ref (A 0 0)), (1, .int z), (2, .int z2), (3, .int z3)] := hl
  obtain ⟨f_told, f_spare, f_nt, f_many, f_fault, f_place, f_men, f_knots, f_mut, f_man, f_min, f_size, f_water, f_first, f_steps, f_img, f_sm, f_sk, f_ss, f_sw, f_p0, f_p1, f_p2⟩ := id hF
  refine lv_iload_n hx hb dX9_decree_0 rfl (lv_at hl 1 rfl) ?_
  refine lv_iconst (v := 1) hx hb dX9_decree_1 (by decide) ?_
  refine lv_icmp_lt (tgt := 28) hx hb dX9_decree_2 (by decide) (fun c_2 => ?_) (fun c_2 => ?_)
  · refine lv_iconst (v := (-1)) hx hb dX9_decree_28 (by decide) ?_
    exact hQ _ _ _ _ _ _ hw rfl (by unfold pf_decree; (try simp only [Int32.lt_iff_toInt_lt, Int32.le_iff_toInt_le, ← Int32.toInt_inj, ti_l0, ti_l1, ti_l2, ti_l3, ti_l5, ti_l7, ti_l8, ti_l24, ti_l59, ti_l60, ti_l119, ti_l120, ti_lm1, ti_lm2] at c_2); (try simp only [Int32.lt_iff_toInt_lt, Int32.le_iff_toInt_le, ← Int32.toInt_inj, ti_l0, ti_l1, ti_l2, ti_l3, ti_l5, ti_l7, ti_l8, ti_l24, ti_l59, ti_l60, ti_l119, ti_l120, ti_lm1, ti_lm2]); (repeat' split) <;> first | rfl | omega) dX9_decree_29
  · refine lv_iload_n hx hb dX9_decree_5 rfl (lv_at hl 1 rfl) ?_
    refine lv_bipush (v := 8) hx hb dX9_decree_6 (by decide) ?_
    refine lv_icmp_gt (tgt := 28) hx hb dX9_decree_8 (by decide) (fun c_8 => ?_) (fun c_8 => ?_)
    · refine lv_iconst (v := (-1)) hx hb dX9_decree_28 (by decide) ?_
      exact hQ _ _ _ _ _ _ hw rfl (by unfold pf_decree; (try simp only [Int32.lt_iff_toInt_lt, Int32.le_iff_toInt_le, ← Int32.toInt_inj, ti_l0, ti_l1, ti_l2, ti_l3, ti_l5, ti_l7, ti_l8, ti_l24, ti_l59, ti_l60, ti_l119, ti_l120, ti_lm1, ti_lm2] at c_2); (try simp only [Int32.lt_iff_toInt_lt, Int32.le_iff_toInt_le, ← Int32.toInt_inj, ti_l0, ti_l1, ti_l2, ti_l3, ti_l5, ti_l7, ti_l8, ti_l24, ti_l59, ti_l60, ti_l119, ti_l120, ti_lm1, ti_lm2] at c_8); (try simp only [Int32.lt_iff_toInt_lt, Int32.le_iff_toInt_le, ← Int32.toInt_inj, ti_l0, ti_l1, ti_l2, ti_l3, ti_l5, ti_l7, ti_l8, ti_l24, ti_l59, ti_l60, ti_l119, ti_l120, ti_lm1, ti_lm2]); (repeat' split) <;> first | rfl | omega) dX9_decree_29
    · refine lv_iload_n hx hb dX9_decree_11 rfl (lv_at hl 2 rfl) ?_
      refine lv_if_lt (tgt := 28) hx hb dX9_decree_12 (by decide) (fun c_12 => ?_) (fun c_12 => ?_)
      · refine lv_iconst (v := (-1)) hx hb dX9_decree_28 (by decide) ?_
        exact hQ _ _ _ _ _ _ hw rfl (by unfold pf_decree; (try simp only [Int32.lt_iff_toInt_lt, Int32.le_iff_toInt_le, ← Int32.toInt_inj, ti_l0, ti_l1, ti_l2, ti_l3, ti_l5, ti_l7, ti_l8, ti_l24, ti_l59, ti_l60, ti_l119, ti_l120, ti_lm1, ti_lm2] at c_2); (try simp only [Int32.lt_iff_toInt_lt, Int32.le_iff_toInt_le, ← Int32.toInt_inj, ti_l0, ti_l1, ti_l2, ti_l3, ti_l5, ti_l7, ti_l8, ti_l24, ti_l59, ti_l60, ti_l119, ti_l120, ti_lm1, ti_lm2] at c_8); (try simp only [Int32.lt_iff_toInt_lt, Int32.le_iff_toInt_le, ← Int32.toInt_inj, ti_l0, ti_l1, ti_l2, ti_l3, ti_l5, ti_l7, ti_l8, ti_l24, ti_l59, ti_l60, ti_l119, ti_l120, ti_lm1, ti_lm2] at c_12); (try simp only [Int32.lt_iff_toInt_lt, Int32.le_iff_toInt_le, ← Int32.toInt_inj, ti_l0, ti_l1, ti_l2, ti_l3, ti_l5, ti_l7, ti_l8, ti_l24, ti_l59, ti_l60, ti_l119, ti_l120, ti_lm1, ti_lm2]); (repeat' split) <;> first | rfl | omega) dX9_decree_29
      · refine lv_iload_n hx hb dX9_decree_15 rfl (lv_at hl 2 rfl) ?_
        refine lv_iload_n hx hb dX9_decree_16 rfl (lv_at hl 1 rfl) ?_
        refine lv_icmp_gt (tgt := 28) hx hb dX9_decree_17 (by decide) (fun c_17 => ?_) (fun c_17 => ?_)
        · refine lv_iconst (v := (-1)) hx hb dX9_decree_28 (by decide) ?_
          exact hQ _ _ _ _ _ _ hw rfl (by unfold pf_decree; (try simp only [Int32.lt_iff_toInt_lt, Int32.le_iff_toInt_le, ← Int32.toInt_inj, ti_l0, ti_l1, ti_l2, ti_l3, ti_l5, ti_l7, ti_l8, ti_l24, ti_l59, ti_l60, ti_l119, ti_l120, ti_lm1, ti_lm2] at c_2); (try simp only [Int32.lt_iff_toInt_lt, Int32.le_iff_toInt_le, ← Int32.toInt_inj, ti_l0, ti_l1, ti_l2, ti_l3, ti_l5, ti_l7, ti_l8, ti_l24, ti_l59, ti_l60, ti_l119, ti_l120, ti_lm1, ti_lm2] at c_8); (try simp only [Int32.lt_iff_toInt_lt, Int32.le_iff_toInt_le, ← Int32.toInt_inj, ti_l0, ti_l1, ti_l2, ti_l3, ti_l5, ti_l7, ti_l8, ti_l24, ti_l59, ti_l60, ti_l119, ti_l120, ti_lm1, ti_lm2] at c_12); (try simp only [Int32.lt_iff_toInt_lt, Int32.le_iff_toInt_le, ← Int32.toInt_inj, ti_l0, ti_l1, ti_l2, ti_l3, ti_l5, ti_l7, ti_l8, ti_l24, ti_l59, ti_l60, ti_l119, ti_l120, ti_lm1, ti_lm2] at c_17); (try simp only [Int32.lt_iff_toInt_lt, Int32.le_iff_toInt_le, ← Int32.toInt_inj, ti_l0, ti_l1, ti_l2, ti_l3, ti_l5, ti_l7, ti_l8, ti_l24, ti_l59, ti_l60, ti_l119, ti_l120, ti_lm1, ti_lm2]); (repeat' split) <;> first | rfl | omega) dX9_decree_29
        · refine lv_aload_n hx hb dX9_decree_20 rfl (lv_at hl 0 rfl) ?_
          refine lv_iload_n hx hb dX9_decree_21 rfl (lv_at hl 3 rfl) ?_
          refine ti_callVi (ci := 9) (av := [.int z3]) C hw (k_X9_isZeroOrOne l D A cy hJ _ z3) ⟨ml_X9_223, ym_X9_isZeroOrOne, yv_X9_isZeroOrOne, yi_X9_isZeroOrOne, yc_X9_isZeroOrOne⟩ yd_X9_isZeroOrOne ob_0 (by decide) rfl rfl hl.1 (Nat.le_of_ble_eq_true rfl) ⟨by decide, by decide⟩ ⟨Nat.zero_le _, Nat.zero_le _⟩ dX9_decree_22 (fun r_1 M_2 H locs hp_2 hw => ?_)
          obtain ⟨hm, hz⟩ := hp_2
          have hw := hw.to hm
          rcases hz with ⟨rfl, g_3⟩ | ⟨rfl, g_4, g_5⟩
          · refine lv_if_ne (tgt := 30) hx hb dX9_decree_25 (by decide) (fun c_25 => ?_) (fun c => absurd c (by decide))
            refine lv_aload_n hx hb dX9_decree_30 rfl (lv_at hl 0 rfl) ?_
            refine ti_get (ci := 9) (k := 9) (N := 10) (T := TX9) (v := .ref (A 53 0)) C hw iw_9 rfl ob_0 (by decide) (by decide) fl_X9_61 rfl rfl dX9_decree_31 ?_
            refine lv_aload_n hx hb dX9_decree_34 rfl (lv_at hl 0 rfl) ?_
            refine ti_get (ci := 9) (k := 3) (N := 10) (T := TX9) (v := .ref (A 27 0)) C hw iw_9 rfl ob_0 (by decide) (by decide) fl_X9_29 rfl rfl dX9_decree_35 ?_
            refine lv_iload_n hx hb dX9_decree_38 rfl (lv_at hl 1 rfl) ?_
            refine lv_iload_n hx hb dX9_decree_39 rfl (lv_at hl 2 rfl) ?_
            refine lv_iload_n hx hb dX9_decree_40 rfl (lv_at hl 3 rfl) ?_
            refine ti_callVi (ci := 0) (av := [.ref (A 27 0), .int z, .int z2, .int z3]) C hw (k_X0_bribes l D A cy hJ _ hF z z2 z3 (by (try simp only [Int32.lt_iff_toInt_lt, Int32.le_iff_toInt_le, ← Int32.toInt_inj, ti_l0, ti_l1, ti_l2, ti_l3, ti_l5, ti_l7, ti_l8, ti_l24, ti_l59, ti_l60, ti_l119, ti_l120, ti_lm1, ti_lm2] at c_2); (try simp only [Int32.lt_iff_toInt_lt, Int32.le_iff_toInt_le, ← Int32.toInt_inj, ti_l0, ti_l1, ti_l2, ti_l3, ti_l5, ti_l7, ti_l8, ti_l24, ti_l59, ti_l60, ti_l119, ti_l120, ti_lm1, ti_lm2] at c_8); (try simp only [Int32.lt_iff_toInt_lt, Int32.le_iff_toInt_le, ← Int32.toInt_inj, ti_l0, ti_l1, ti_l2, ti_l3, ti_l5, ti_l7, ti_l8, ti_l24, ti_l59, ti_l60, ti_l119, ti_l120, ti_lm1, ti_lm2] at c_12); (try simp only [Int32.lt_iff_toInt_lt, Int32.le_iff_toInt_le, ← Int32.toInt_inj, ti_l0, ti_l1, ti_l2, ti_l3, ti_l5, ti_l7, ti_l8, ti_l24, ti_l59, ti_l60, ti_l119, ti_l120, ti_lm1, ti_lm2] at c_17); (try simp only [Int32.lt_iff_toInt_lt, Int32.le_iff_toInt_le, ← Int32.toInt_inj, ti_l0, ti_l1, ti_l2, ti_l3, ti_l5, ti_l7, ti_l8, ti_l24, ti_l59, ti_l60, ti_l119, ti_l120, ti_lm1, ti_lm2] at g_3); (try simp only [Int32.lt_iff_toInt_lt, Int32.le_iff_toInt_le, ← Int32.toInt_inj, ti_l0, ti_l1, ti_l2, ti_l3, ti_l5, ti_l7, ti_l8, ti_l24, ti_l59, ti_l60, ti_l119, ti_l120, ti_lm1, ti_lm2] at c_25); omega) c_12) ⟨ml_X9_226, ym_X0_bribes, yv_X0_bribes, yi_X0_bribes, yc_X0_bribes⟩ yd_X0_bribes ob_53 (by decide) rfl rfl hl.1 (Nat.le_of_ble_eq_true rfl) ⟨by decide, by decide⟩ ⟨Nat.zero_le _, Nat.zero_le _⟩ dX9_decree_41 (fun r_6 M_7 H locs hp_7 hw => ?_)
            obtain rfl := hp_7
            exact hQ _ _ _ _ _ _ hw rfl (by unfold pf_decree; (try simp only [Int32.lt_iff_toInt_lt, Int32.le_iff_toInt_le, ← Int32.toInt_inj, ti_l0, ti_l1, ti_l2, ti_l3, ti_l5, ti_l7, ti_l8, ti_l24, ti_l59, ti_l60, ti_l119, ti_l120, ti_lm1, ti_lm2] at c_2); (try simp only [Int32.lt_iff_toInt_lt, Int32.le_iff_toInt_le, ← Int32.toInt_inj, ti_l0, ti_l1, ti_l2, ti_l3, ti_l5, ti_l7, ti_l8, ti_l24, ti_l59, ti_l60, ti_l119, ti_l120, ti_lm1, ti_lm2] at c_8); (try simp only [Int32.lt_iff_toInt_lt, Int32.le_iff_toInt_le, ← Int32.toInt_inj, ti_l0, ti_l1, ti_l2, ti_l3, ti_l5, ti_l7, ti_l8, ti_l24, ti_l59, ti_l60, ti_l119, ti_l120, ti_lm1, ti_lm2] at c_12); (try simp only [Int32.lt_iff_toInt_lt, Int32.le_iff_toInt_le, ← Int32.toInt_inj, ti_l0, ti_l1, ti_l2, ti_l3, ti_l5, ti_l7, ti_l8, ti_l24, ti_l59, ti_l60, ti_l119, ti_l120, ti_lm1, ti_lm2] at c_17); (try simp only [Int32.lt_iff_toInt_lt, Int32.le_iff_toInt_le, ← Int32.toInt_inj, ti_l0, ti_l1, ti_l2, ti_l3, ti_l5, ti_l7, ti_l8, ti_l24, ti_l59, ti_l60, ti_l119, ti_l120, ti_lm1, ti_lm2] at g_3); (try simp only [Int32.lt_iff_toInt_lt, Int32.le_iff_toInt_le, ← Int32.toInt_inj, ti_l0, ti_l1, ti_l2, ti_l3, ti_l5, ti_l7, ti_l8, ti_l24, ti_l59, ti_l60, ti_l119, ti_l120, ti_lm1, ti_lm2] at c_25); (try simp only [Int32.lt_iff_toInt_lt, Int32.le_iff_toInt_le, ← Int32.toInt_inj, ti_l0, ti_l1, ti_l2, ti_l3, ti_l5, ti_l7, ti_l8, ti_l24, ti_l59, ti_l60, ti_l119, ti_l120, ti_lm1, ti_lm2]); (repeat' split) <;> first | rfl | omega) dX9_decree_44
          · refine lv_if_ne (tgt := 30) hx hb dX9_decree_25 (by decide) (fun c => absurd (by decide) c) (fun c_25 => ?_)
            refine lv_iconst (v := (-1)) hx hb dX9_decree_28 (by decide) ?_
            exact hQ _ _ _ _ _ _ hw rfl (by unfold pf_decree; (try simp only [Int32.lt_iff_toInt_lt, Int32.le_iff_toInt_le, ← Int32.toInt_inj, ti_l0, ti_l1, ti_l2, ti_l3, ti_l5, ti_l7, ti_l8, ti_l24, ti_l59, ti_l60, ti_l119, ti_l120, ti_lm1, ti_lm2] at c_2); (try simp only [Int32.lt_iff_toInt_lt, Int32.le_iff_toInt_le, ← Int32.toInt_inj, ti_l0, ti_l1, ti_l2, ti_l3, ti_l5, ti_l7, ti_l8, ti_l24, ti_l59, ti_l60, ti_l119, ti_l120, ti_lm1, ti_lm2] at c_8); (try simp only [Int32.lt_iff_toInt_lt, Int32.le_iff_toInt_le, ← Int32.toInt_inj, ti_l0, ti_l1, ti_l2, ti_l3, ti_l5, ti_l7, ti_l8, ti_l24, ti_l59, ti_l60, ti_l119, ti_l120, ti_lm1, ti_lm2] at c_12); (try simp only [Int32.lt_iff_toInt_lt, Int32.le_iff_toInt_le, ← Int32.toInt_inj, ti_l0, ti_l1, ti_l2, ti_l3, ti_l5, ti_l7, ti_l8, ti_l24, ti_l59, ti_l60, ti_l119, ti_l120, ti_lm1, ti_lm2] at c_17); (try simp only [Int32.lt_iff_toInt_lt, Int32.le_iff_toInt_le, ← Int32.toInt_inj, ti_l0, ti_l1, ti_l2, ti_l3, ti_l5, ti_l7, ti_l8, ti_l24, ti_l59, ti_l60, ti_l119, ti_l120, ti_lm1, ti_lm2] at g_4); (try simp only [Int32.lt_iff_toInt_lt, Int32.le_iff_toInt_le, ← Int32.toInt_inj, ti_l0, ti_l1, ti_l2, ti_l3, ti_l5, ti_l7, ti_l8, ti_l24, ti_l59, ti_l60, ti_l119, ti_l120, ti_lm1, ti_lm2] at g_5); (try simp only [Int32.lt_iff_toInt_lt, Int32.le_iff_toInt_le, ← Int32.toInt_inj, ti_l0, ti_l1, ti_l2, ti_l3, ti_l5, ti_l7, ti_l8, ti_l24, ti_l59, ti_l60, ti_l119, ti_l120, ti_lm1, ti_lm2] at c_25); (try simp only [Int32.lt_iff_toInt_lt, Int32.le_iff_toInt_le, ← Int32.toInt_inj, ti_l0, ti_l1, ti_l2, ti_l3, ti_l5, ti_l7, ti_l8, ti_l24, ti_l59, ti_l60, ti_l119, ti_l120, ti_lm1, ti_lm2]); (repeat' split) <;> first | rfl | omega) dX9_decree_29
set_option maxHeartbeats 4000000 in
set_option maxRecDepth 100000 in
theorem k_X9_fairest (l : Launch) (D : va_G) (A : Nat → Nat → Nat) (cy : Nat → ClassId) (hJ : ti_inj ti_LT A) (M : ti_M) (hF : ti_F M) (z : Int32) (z2 : Int32) (z3 : Int32) : ti_Ki l yX9_fairest cX9_fairest 4 (some .int) 6 ti_LT D A cy M [.ref (A 0 0), .int z, .int z2, .int z3] (fun r _ => r = pf_fairest z z2 z3) := by
  refine ti_eI yp_X9_fairest hJ ti_LT_nd (Nat.le_of_ble_eq_true rfl) ?_
  intro p e s m args below meth c Q H0 C hQ hw ls hl
  have hx := C.1
  have hb := C.2.1
  have hl : lv_has ls 4 [(0, .ref (A 0 0)), (1, .int z), (2, .int z2), (3, .int z3)] := hl
  obtain ⟨f_told, f_spare, f_nt, f_many, f_fault, f_place, f_men, f_knots, f_mut, f_man, f_min, f_size, f_water, f_first, f_steps, f_img, f_sm, f_sk, f_ss, f_sw, f_p0, f_p1, f_p2⟩ := id hF
  refine lv_aload_n hx hb dX9_fairest_0 rfl (lv_at hl 0 rfl) ?_
  refine lv_iload_n hx hb dX9_fairest_1 rfl (lv_at hl 1 rfl) ?_
  refine ti_callVi (ci := 9) (av := [.int z]) C hw (k_X9_isPower l D A cy hJ _ z) ⟨ml_X9_165, ym_X9_isPower, yv_X9_isPower, yi_X9_isPower, yc_X9_isPower⟩ yd_X9_isPower ob_0 (by decide) rfl rfl hl.1 (Nat.le_of_ble_eq_true rfl) ⟨by decide, by decide⟩ ⟨Nat.zero_le _, Nat.zero_le _⟩ dX9_fairest_2 (fun r_1 M_2 H locs hp_2 hw => ?_)
  obtain ⟨hm, hz⟩ := hp_2
  have hw := hw.to hm
  rcases hz with ⟨rfl, g_3, g_4⟩ | ⟨rfl, g_5⟩
  · refine lv_if_eq (tgt := 25) hx hb dX9_fairest_5 (by decide) (fun c => absurd c (by decide)) (fun c_5 => ?_)
    refine lv_aload_n hx hb dX9_fairest_8 rfl (lv_at hl 0 rfl) ?_
    refine lv_iload_n hx hb dX9_fairest_9 rfl (lv_at hl 2 rfl) ?_
    refine lv_iconst (v := 1) hx hb dX9_fairest_10 (by decide) ?_
    refine ti_callVi (ci := 9) (av := [.int z2, .int 1]) C hw (k_X9_isAhead l D A cy hJ _ hF z2 1) ⟨ml_X9_247, ym_X9_isAhead, yv_X9_isAhead, yi_X9_isAhead, yc_X9_isAhead⟩ yd_X9_isAhead ob_0 (by decide) rfl rfl hl.1 (Nat.le_of_ble_eq_true rfl) ⟨by decide, by decide⟩ ⟨Nat.zero_le _, Nat.zero_le _⟩ dX9_fairest_11 (fun r_6 M_7 H locs hp_7 hw => ?_)
    obtain ⟨hm, hz⟩ := hp_7
    have hw := hw.to hm
    rcases hz with ⟨rfl, g_8, g_9⟩ | ⟨rfl, g_10⟩
    · refine lv_if_eq (tgt := 25) hx hb dX9_fairest_14 (by decide) (fun c => absurd c (by decide)) (fun c_14 => ?_)
      refine lv_aload_n hx hb dX9_fairest_17 rfl (lv_at hl 0 rfl) ?_
      refine lv_iload_n hx hb dX9_fairest_18 rfl (lv_at hl 3 rfl) ?_
      refine ti_callVi (ci := 9) (av := [.int z3]) C hw (k_X9_isZeroOrOne l D A cy hJ _ z3) ⟨ml_X9_223, ym_X9_isZeroOrOne, yv_X9_isZeroOrOne, yi_X9_isZeroOrOne, yc_X9_isZeroOrOne⟩ yd_X9_isZeroOrOne ob_0 (by decide) rfl rfl hl.1 (Nat.le_of_ble_eq_true rfl) ⟨by decide, by decide⟩ ⟨Nat.zero_le _, Nat.zero_le _⟩ dX9_fairest_19 (fun r_11 M_12 H locs hp_12 hw => ?_)
      obtain ⟨hm, hz⟩ := hp_12
      have hw := hw.to hm
      rcases hz with ⟨rfl, g_13⟩ | ⟨rfl, g_14, g_15⟩
      · refine lv_if_ne (tgt := 27) hx hb dX9_fairest_22 (by decide) (fun c_22 => ?_) (fun c => absurd c (by decide))
        refine lv_aload_n hx hb dX9_fairest_27 rfl (lv_at hl 0 rfl) ?_
        refine ti_get (ci := 9) (k := 9) (N := 10) (T := TX9) (v := .ref (A 53 0)) C hw iw_9 rfl ob_0 (by decide) (by decide) fl_X9_61 rfl rfl dX9_fairest_28 ?_
        refine lv_aload_n hx hb dX9_fairest_31 rfl (lv_at hl 0 rfl) ?_
        refine ti_get (ci := 9) (k := 3) (N := 10) (T := TX9) (v := .ref (A 27 0)) C hw iw_9 rfl ob_0 (by decide) (by decide) fl_X9_29 rfl rfl dX9_fairest_32 ?_
        refine lv_iload_n hx hb dX9_fairest_35 rfl (lv_at hl 1 rfl) ?_
        refine lv_iload_n hx hb dX9_fairest_36 rfl (lv_at hl 2 rfl) ?_
        refine lv_iload_n hx hb dX9_fairest_37 rfl (lv_at hl 3 rfl) ?_
        refine ti_callVi (ci := 0) (av := [.ref (A 27 0), .int z, .int z2, .int z3]) C hw (k_X0_fairestPlace l D A cy hJ _ hF z z2 z3 (by rw [vp_in_iff]; (try simp only [Int32.lt_iff_toInt_lt, Int32.le_iff_toInt_le, ← Int32.toInt_inj, ti_l0, ti_l1, ti_l2, ti_l3, ti_l5, ti_l7, ti_l8, ti_l24, ti_l59, ti_l60, ti_l119, ti_l120, ti_lm1, ti_lm2] at g_3); (try simp only [Int32.lt_iff_toInt_lt, Int32.le_iff_toInt_le, ← Int32.toInt_inj, ti_l0, ti_l1, ti_l2, ti_l3, ti_l5, ti_l7, ti_l8, ti_l24, ti_l59, ti_l60, ti_l119, ti_l120, ti_lm1, ti_lm2] at g_4); (try simp only [Int32.lt_iff_toInt_lt, Int32.le_iff_toInt_le, ← Int32.toInt_inj, ti_l0, ti_l1, ti_l2, ti_l3, ti_l5, ti_l7, ti_l8, ti_l24, ti_l59, ti_l60, ti_l119, ti_l120, ti_lm1, ti_lm2] at c_5); (try simp only [Int32.lt_iff_toInt_lt, Int32.le_iff_toInt_le, ← Int32.toInt_inj, ti_l0, ti_l1, ti_l2, ti_l3, ti_l5, ti_l7, ti_l8, ti_l24, ti_l59, ti_l60, ti_l119, ti_l120, ti_lm1, ti_lm2] at g_8); (try simp only [Int32.lt_iff_toInt_lt, Int32.le_iff_toInt_le, ← Int32.toInt_inj, ti_l0, ti_l1, ti_l2, ti_l3, ti_l5, ti_l7, ti_l8, ti_l24, ti_l59, ti_l60, ti_l119, ti_l120, ti_lm1, ti_lm2] at g_9); (try simp only [Int32.lt_iff_toInt_lt, Int32.le_iff_toInt_le, ← Int32.toInt_inj, ti_l0, ti_l1, ti_l2, ti_l3, ti_l5, ti_l7, ti_l8, ti_l24, ti_l59, ti_l60, ti_l119, ti_l120, ti_lm1, ti_lm2] at c_14); (try simp only [Int32.lt_iff_toInt_lt, Int32.le_iff_toInt_le, ← Int32.toInt_inj, ti_l0, ti_l1, ti_l2, ti_l3, ti_l5, ti_l7, ti_l8, ti_l24, ti_l59, ti_l60, ti_l119, ti_l120, ti_lm1, ti_lm2] at g_13); (try simp only [Int32.lt_iff_toInt_lt, Int32.le_iff_toInt_le, ← Int32.toInt_inj, ti_l0, ti_l1, ti_l2, ti_l3, ti_l5, ti_l7, ti_l8, ti_l24, ti_l59, ti_l60, ti_l119, ti_l120, ti_lm1, ti_lm2] at c_22); omega)) ⟨ml_X9_255, ym_X0_fairestPlace, yv_X0_fairestPlace, yi_X0_fairestPlace, yc_X0_fairestPlace⟩ yd_X0_fairestPlace ob_53 (by decide) rfl rfl hl.1 (Nat.le_of_ble_eq_true rfl) ⟨by decide, by decide⟩ ⟨Nat.zero_le _, Nat.zero_le _⟩ dX9_fairest_38 (fun r_16 M_17 H locs hp_17 hw => ?_)
        obtain rfl := hp_17
        exact hQ _ _ _ _ _ _ hw rfl (by unfold pf_fairest; (try simp only [Int32.lt_iff_toInt_lt, Int32.le_iff_toInt_le, ← Int32.toInt_inj, ti_l0, ti_l1, ti_l2, ti_l3, ti_l5, ti_l7, ti_l8, ti_l24, ti_l59, ti_l60, ti_l119, ti_l120, ti_lm1, ti_lm2] at g_3); (try simp only [Int32.lt_iff_toInt_lt, Int32.le_iff_toInt_le, ← Int32.toInt_inj, ti_l0, ti_l1, ti_l2, ti_l3, ti_l5, ti_l7, ti_l8, ti_l24, ti_l59, ti_l60, ti_l119, ti_l120, ti_lm1, ti_lm2] at g_4); (try simp only [Int32.lt_iff_toInt_lt, Int32.le_iff_toInt_le, ← Int32.toInt_inj, ti_l0, ti_l1, ti_l2, ti_l3, ti_l5, ti_l7, ti_l8, ti_l24, ti_l59, ti_l60, ti_l119, ti_l120, ti_lm1, ti_lm2] at c_5); (try simp only [Int32.lt_iff_toInt_lt, Int32.le_iff_toInt_le, ← Int32.toInt_inj, ti_l0, ti_l1, ti_l2, ti_l3, ti_l5, ti_l7, ti_l8, ti_l24, ti_l59, ti_l60, ti_l119, ti_l120, ti_lm1, ti_lm2] at g_8); (try simp only [Int32.lt_iff_toInt_lt, Int32.le_iff_toInt_le, ← Int32.toInt_inj, ti_l0, ti_l1, ti_l2, ti_l3, ti_l5, ti_l7, ti_l8, ti_l24, ti_l59, ti_l60, ti_l119, ti_l120, ti_lm1, ti_lm2] at g_9); (try simp only [Int32.lt_iff_toInt_lt, Int32.le_iff_toInt_le, ← Int32.toInt_inj, ti_l0, ti_l1, ti_l2, ti_l3, ti_l5, ti_l7, ti_l8, ti_l24, ti_l59, ti_l60, ti_l119, ti_l120, ti_lm1, ti_lm2] at c_14); (try simp only [Int32.lt_iff_toInt_lt, Int32.le_iff_toInt_le, ← Int32.toInt_inj, ti_l0, ti_l1, ti_l2, ti_l3, ti_l5, ti_l7, ti_l8, ti_l24, ti_l59, ti_l60, ti_l119, ti_l120, ti_lm1, ti_lm2] at g_13); (try simp only [Int32.lt_iff_toInt_lt, Int32.le_iff_toInt_le, ← Int32.toInt_inj, ti_l0, ti_l1, ti_l2, ti_l3, ti_l5, ti_l7, ti_l8, ti_l24, ti_l59, ti_l60, ti_l119, ti_l120, ti_lm1, ti_lm2] at c_22); (try simp only [Int32.lt_iff_toInt_lt, Int32.le_iff_toInt_le, ← Int32.toInt_inj, ti_l0, ti_l1, ti_l2, ti_l3, ti_l5, ti_l7, ti_l8, ti_l24, ti_l59, ti_l60, ti_l119, ti_l120, ti_lm1, ti_lm2]); (repeat' split) <;> first | rfl | omega) dX9_fairest_41
      · refine lv_if_ne (tgt := 27) hx hb dX9_fairest_22 (by decide) (fun c => absurd (by decide) c) (fun c_22 => ?_)
        refine lv_iconst (v := (-1)) hx hb dX9_fairest_25 (by decide) ?_
        exact hQ _ _ _ _ _ _ hw rfl (by unfold pf_fairest; (try simp only [Int32.lt_iff_toInt_lt, Int32.le_iff_toInt_le, ← Int32.toInt_inj, ti_l0, ti_l1, ti_l2, ti_l3, ti_l5, ti_l7, ti_l8, ti_l24, ti_l59, ti_l60, ti_l119, ti_l120, ti_lm1, ti_lm2] at g_3); (try simp only [Int32.lt_iff_toInt_lt, Int32.le_iff_toInt_le, ← Int32.toInt_inj, ti_l0, ti_l1, ti_l2, ti_l3, ti_l5, ti_l7, ti_l8, ti_l24, ti_l59, ti_l60, ti_l119, ti_l120, ti_lm1, ti_lm2] at g_4); (try simp only [Int32.lt_iff_toInt_lt, Int32.le_iff_toInt_le, ← Int32.toInt_inj, ti_l0, ti_l1, ti_l2, ti_l3, ti_l5, ti_l7, ti_l8, ti_l24, ti_l59, ti_l60, ti_l119, ti_l120, ti_lm1, ti_lm2] at c_5); (try simp only [Int32.lt_iff_toInt_lt, Int32.le_iff_toInt_le, ← Int32.toInt_inj, ti_l0, ti_l1, ti_l2, ti_l3, ti_l5, ti_l7, ti_l8, ti_l24, ti_l59, ti_l60, ti_l119, ti_l120, ti_lm1, ti_lm2] at g_8); (try simp only [Int32.lt_iff_toInt_lt, Int32.le_iff_toInt_le, ← Int32.toInt_inj, ti_l0, ti_l1, ti_l2, ti_l3, ti_l5, ti_l7, ti_l8, ti_l24, ti_l59, ti_l60, ti_l119, ti_l120, ti_lm1, ti_lm2] at g_9); (try simp only [Int32.lt_iff_toInt_lt, Int32.le_iff_toInt_le, ← Int32.toInt_inj, ti_l0, ti_l1, ti_l2, ti_l3, ti_l5, ti_l7, ti_l8, ti_l24, ti_l59, ti_l60, ti_l119, ti_l120, ti_lm1, ti_lm2] at c_14); (try simp only [Int32.lt_iff_toInt_lt, Int32.le_iff_toInt_le, ← Int32.toInt_inj, ti_l0, ti_l1, ti_l2, ti_l3, ti_l5, ti_l7, ti_l8, ti_l24, ti_l59, ti_l60, ti_l119, ti_l120, ti_lm1, ti_lm2] at g_14); (try simp only [Int32.lt_iff_toInt_lt, Int32.le_iff_toInt_le, ← Int32.toInt_inj, ti_l0, ti_l1, ti_l2, ti_l3, ti_l5, ti_l7, ti_l8, ti_l24, ti_l59, ti_l60, ti_l119, ti_l120, ti_lm1, ti_lm2] at g_15); (try simp only [Int32.lt_iff_toInt_lt, Int32.le_iff_toInt_le, ← Int32.toInt_inj, ti_l0, ti_l1, ti_l2, ti_l3, ti_l5, ti_l7, ti_l8, ti_l24, ti_l59, ti_l60, ti_l119, ti_l120, ti_lm1, ti_lm2] at c_22); (try simp only [Int32.lt_iff_toInt_lt, Int32.le_iff_toInt_le, ← Int32.toInt_inj, ti_l0, ti_l1, ti_l2, ti_l3, ti_l5, ti_l7, ti_l8, ti_l24, ti_l59, ti_l60, ti_l119, ti_l120, ti_lm1, ti_lm2]); (repeat' split) <;> first | rfl | omega) dX9_fairest_26
    · refine lv_if_eq (tgt := 25) hx hb dX9_fairest_14 (by decide) (fun c_14 => ?_) (fun c => absurd (by decide) c)
      refine lv_iconst (v := (-1)) hx hb dX9_fairest_25 (by decide) ?_
      exact hQ _ _ _ _ _ _ hw rfl (by unfold pf_fairest; (try simp only [Int32.lt_iff_toInt_lt, Int32.le_iff_toInt_le, ← Int32.toInt_inj, ti_l0, ti_l1, ti_l2, ti_l3, ti_l5, ti_l7, ti_l8, ti_l24, ti_l59, ti_l60, ti_l119, ti_l120, ti_lm1, ti_lm2] at g_3); (try simp only [Int32.lt_iff_toInt_lt, Int32.le_iff_toInt_le, ← Int32.toInt_inj, ti_l0, ti_l1, ti_l2, ti_l3, ti_l5, ti_l7, ti_l8, ti_l24, ti_l59, ti_l60, ti_l119, ti_l120, ti_lm1, ti_lm2] at g_4); (try simp only [Int32.lt_iff_toInt_lt, Int32.le_iff_toInt_le, ← Int32.toInt_inj, ti_l0, ti_l1, ti_l2, ti_l3, ti_l5, ti_l7, ti_l8, ti_l24, ti_l59, ti_l60, ti_l119, ti_l120, ti_lm1, ti_lm2] at c_5); (try simp only [Int32.lt_iff_toInt_lt, Int32.le_iff_toInt_le, ← Int32.toInt_inj, ti_l0, ti_l1, ti_l2, ti_l3, ti_l5, ti_l7, ti_l8, ti_l24, ti_l59, ti_l60, ti_l119, ti_l120, ti_lm1, ti_lm2] at g_10); (try simp only [Int32.lt_iff_toInt_lt, Int32.le_iff_toInt_le, ← Int32.toInt_inj, ti_l0, ti_l1, ti_l2, ti_l3, ti_l5, ti_l7, ti_l8, ti_l24, ti_l59, ti_l60, ti_l119, ti_l120, ti_lm1, ti_lm2] at c_14); (try simp only [Int32.lt_iff_toInt_lt, Int32.le_iff_toInt_le, ← Int32.toInt_inj, ti_l0, ti_l1, ti_l2, ti_l3, ti_l5, ti_l7, ti_l8, ti_l24, ti_l59, ti_l60, ti_l119, ti_l120, ti_lm1, ti_lm2]); (repeat' split) <;> first | rfl | omega) dX9_fairest_26
  · refine lv_if_eq (tgt := 25) hx hb dX9_fairest_5 (by decide) (fun c_5 => ?_) (fun c => absurd (by decide) c)
    refine lv_iconst (v := (-1)) hx hb dX9_fairest_25 (by decide) ?_
    exact hQ _ _ _ _ _ _ hw rfl (by unfold pf_fairest; (try simp only [Int32.lt_iff_toInt_lt, Int32.le_iff_toInt_le, ← Int32.toInt_inj, ti_l0, ti_l1, ti_l2, ti_l3, ti_l5, ti_l7, ti_l8, ti_l24, ti_l59, ti_l60, ti_l119, ti_l120, ti_lm1, ti_lm2] at g_5); (try simp only [Int32.lt_iff_toInt_lt, Int32.le_iff_toInt_le, ← Int32.toInt_inj, ti_l0, ti_l1, ti_l2, ti_l3, ti_l5, ti_l7, ti_l8, ti_l24, ti_l59, ti_l60, ti_l119, ti_l120, ti_lm1, ti_lm2] at c_5); (try simp only [Int32.lt_iff_toInt_lt, Int32.le_iff_toInt_le, ← Int32.toInt_inj, ti_l0, ti_l1, ti_l2, ti_l3, ti_l5, ti_l7, ti_l8, ti_l24, ti_l59, ti_l60, ti_l119, ti_l120, ti_lm1, ti_lm2]); (repeat' split) <;> first | rfl | omega) dX9_fairest_26
set_option maxHeartbeats 4000000 in
set_option maxRecDepth 100000 in
theorem k_X9_gain (l : Launch) (D : va_G) (A : Nat → Nat → Nat) (cy : Nat → ClassId) (hJ : ti_inj ti_LT A) (M : ti_M) (hF : ti_F M) (z : Int32) (z2 : Int32) : ti_Ki l yX9_gain cX9_gain 3 (some .int) 1 ti_LT D A cy M [.ref (A 0 0), .int z, .int z2] (fun r _ => r = (-1)) := by
  refine ti_eI yp_X9_gain hJ ti_LT_nd (Nat.le_of_ble_eq_true rfl) ?_
  intro p e s m args below meth c Q H0 C hQ hw ls hl
  have hx := C.1
  have hb := C.2.1
  have hl : lv_has ls 3 [(0, .ref (A 0 0)), (1, .int z), (2, .int z2)] := hl
  obtain ⟨f_told, f_spare, f_nt, f_many, f_fault, f_place, f_men, f_knots, f_mut, f_man, f_min, f_size, f_water, f_first, f_steps, f_img, f_sm, f_sk, f_ss, f_sw, f_p0, f_p1, f_p2⟩ := id hF
  refine lv_iload_n hx hb dX9_gain_0 rfl (lv_at hl 1 rfl) ?_
  refine lv_if_lt (tgt := 24) hx hb dX9_gain_1 (by decide) (fun c_1 => ?_) (fun c_1 => ?_)
  · refine lv_iconst (v := (-1)) hx hb dX9_gain_24 (by decide) ?_
    exact hQ _ _ _ _ _ _ hw rfl rfl dX9_gain_25
  · refine lv_iload_n hx hb dX9_gain_4 rfl (lv_at hl 1 rfl) ?_
    refine lv_aload_n hx hb dX9_gain_5 rfl (lv_at hl 0 rfl) ?_
    refine ti_get (ci := 9) (k := 3) (N := 10) (T := TX9) (v := .ref (A 27 0)) C hw iw_9 rfl ob_0 (by decide) (by decide) fl_X9_29 rfl rfl dX9_gain_6 ?_
    refine ti_get (ci := 3) (k := 3) (N := 17) (T := TX3) C hw iw_3 rfl ob_27 (by decide) (by decide) fl_X9_179 rfl rfl dX9_gain_9 ?_
    refine ti_top (y := 0) f_size ?_
    refine lv_icmp_ge (tgt := 24) hx hb dX9_gain_12 (by decide) (fun c_12 => ?_) (fun c => absurd ((by (try simp only [Int32.lt_iff_toInt_lt, Int32.le_iff_toInt_le, ← Int32.toInt_inj, ti_l0, ti_l1, ti_l2, ti_l3, ti_l5, ti_l7, ti_l8, ti_l24, ti_l59, ti_l60, ti_l119, ti_l120, ti_lm1, ti_lm2] at c_1); (try simp only [Int32.lt_iff_toInt_lt, Int32.le_iff_toInt_le, ← Int32.toInt_inj, ti_l0, ti_l1, ti_l2, ti_l3, ti_l5, ti_l7, ti_l8, ti_l24, ti_l59, ti_l60, ti_l119, ti_l120, ti_lm1, ti_lm2]); omega)) c)
    refine lv_iconst (v := (-1)) hx hb dX9_gain_24 (by decide) ?_
    exact hQ _ _ _ _ _ _ hw rfl rfl dX9_gain_25
set_option maxHeartbeats 4000000 in
set_option maxRecDepth 100000 in
theorem k_X9_stone (l : Launch) (D : va_G) (A : Nat → Nat → Nat) (cy : Nat → ClassId) (hJ : ti_inj ti_LT A) (M : ti_M) (hF : ti_F M) (z : Int32) (z2 : Int32) (z3 : Int32) : ti_Ki l yX9_stone cX9_stone 4 (some .int) 1 ti_LT D A cy M [.ref (A 0 0), .int z, .int z2, .int z3] (fun r _ => r = pf_stone z z2 z3) := by
  refine ti_eI yp_X9_stone hJ ti_LT_nd (Nat.le_of_ble_eq_true rfl) ?_
  intro p e s m args below meth c Q H0 C hQ hw ls hl
  have hx := C.1
  have hb := C.2.1
  have hl : lv_has ls 4 [(0, .ref (A 0 0)), (1, .int z), (2, .int z2), (3, .int z3)] := hl
  obtain ⟨f_told, f_spare, f_nt, f_many, f_fault, f_place, f_men, f_knots, f_mut, f_man, f_min, f_size, f_water, f_first, f_steps, f_img, f_sm, f_sk, f_ss, f_sw, f_p0, f_p1, f_p2⟩ := id hF
  refine lv_iload_n hx hb dX9_stone_0 rfl (lv_at hl 1 rfl) ?_
  refine lv_if_lt (tgt := 18) hx hb dX9_stone_1 (by decide) (fun c_1 => ?_) (fun c_1 => ?_)
  · refine lv_iconst (v := (-1)) hx hb dX9_stone_18 (by decide) ?_
    exact hQ _ _ _ _ _ _ hw rfl (by unfold pf_stone; (try simp only [Int32.lt_iff_toInt_lt, Int32.le_iff_toInt_le, ← Int32.toInt_inj, ti_l0, ti_l1, ti_l2, ti_l3, ti_l5, ti_l7, ti_l8, ti_l24, ti_l59, ti_l60, ti_l119, ti_l120, ti_lm1, ti_lm2] at c_1); (try simp only [Int32.lt_iff_toInt_lt, Int32.le_iff_toInt_le, ← Int32.toInt_inj, ti_l0, ti_l1, ti_l2, ti_l3, ti_l5, ti_l7, ti_l8, ti_l24, ti_l59, ti_l60, ti_l119, ti_l120, ti_lm1, ti_lm2]); (repeat' split) <;> first | rfl | omega) dX9_stone_19
  · refine lv_iload_n hx hb dX9_stone_4 rfl (lv_at hl 1 rfl) ?_
    refine lv_bipush (v := 59) hx hb dX9_stone_5 (by decide) ?_
    refine lv_icmp_gt (tgt := 18) hx hb dX9_stone_7 (by decide) (fun c_7 => ?_) (fun c_7 => ?_)
    · refine lv_iconst (v := (-1)) hx hb dX9_stone_18 (by decide) ?_
      exact hQ _ _ _ _ _ _ hw rfl (by unfold pf_stone; (try simp only [Int32.lt_iff_toInt_lt, Int32.le_iff_toInt_le, ← Int32.toInt_inj, ti_l0, ti_l1, ti_l2, ti_l3, ti_l5, ti_l7, ti_l8, ti_l24, ti_l59, ti_l60, ti_l119, ti_l120, ti_lm1, ti_lm2] at c_1); (try simp only [Int32.lt_iff_toInt_lt, Int32.le_iff_toInt_le, ← Int32.toInt_inj, ti_l0, ti_l1, ti_l2, ti_l3, ti_l5, ti_l7, ti_l8, ti_l24, ti_l59, ti_l60, ti_l119, ti_l120, ti_lm1, ti_lm2] at c_7); (try simp only [Int32.lt_iff_toInt_lt, Int32.le_iff_toInt_le, ← Int32.toInt_inj, ti_l0, ti_l1, ti_l2, ti_l3, ti_l5, ti_l7, ti_l8, ti_l24, ti_l59, ti_l60, ti_l119, ti_l120, ti_lm1, ti_lm2]); (repeat' split) <;> first | rfl | omega) dX9_stone_19
    · refine lv_aload_n hx hb dX9_stone_10 rfl (lv_at hl 0 rfl) ?_
      refine lv_iload_n hx hb dX9_stone_11 rfl (lv_at hl 2 rfl) ?_
      refine ti_callVi (ci := 9) (av := [.int z2]) C hw (k_X9_isPlace l D A cy hJ _ z2) ⟨ml_X9_159, ym_X9_isPlace, yv_X9_isPlace, yi_X9_isPlace, yc_X9_isPlace⟩ yd_X9_isPlace ob_0 (by decide) rfl rfl hl.1 (Nat.le_of_ble_eq_true rfl) ⟨by decide, by decide⟩ ⟨Nat.zero_le _, Nat.zero_le _⟩ dX9_stone_12 (fun r_1 M_2 H locs hp_2 hw => ?_)
      obtain ⟨hm, hz⟩ := hp_2
      have hw := hw.to hm
      rcases hz with ⟨rfl, g_3, g_4⟩ | ⟨rfl, g_5⟩
      · refine lv_if_ne (tgt := 20) hx hb dX9_stone_15 (by decide) (fun c_15 => ?_) (fun c => absurd c (by decide))
        refine lv_iload_n hx hb dX9_stone_20 rfl (lv_at hl 3 rfl) ?_
        refine lv_iconst (v := (-1)) hx hb dX9_stone_21 (by decide) ?_
        refine lv_icmp_eq (tgt := 35) hx hb dX9_stone_22 (by decide) (fun c_22 => ?_) (fun c_22 => ?_)
        · refine lv_aload_n hx hb dX9_stone_35 rfl (lv_at hl 0 rfl) ?_
          refine ti_get (ci := 9) (k := 8) (N := 10) (T := TX9) (v := .ref (A 50 0)) C hw iw_9 rfl ob_0 (by decide) (by decide) fl_X9_54 rfl rfl dX9_stone_36 ?_
          refine lv_iload_n hx hb dX9_stone_39 rfl (lv_at hl 1 rfl) ?_
          refine lv_iload_n hx hb dX9_stone_40 rfl (lv_at hl 2 rfl) ?_
          refine lv_iload_n hx hb dX9_stone_41 rfl (lv_at hl 3 rfl) ?_
          refine lv_iconst (v := (-1)) hx hb dX9_stone_42 (by decide) ?_
          refine lv_icmp_ne (tgt := 51) hx hb dX9_stone_43 (by decide) (fun c => absurd (c_22) c) (fun c_43 => ?_)
          refine lv_bipush (v := (-2)) hx hb dX9_stone_46 (by decide) ?_
          refine lv_goto (tgt := 52) hx hb dX9_stone_48 (by decide) ?_
          refine ti_callVi (ci := 6) (av := [.int z, .int z2, .int (-2)]) C hw (k_X6_lay l D A cy hJ _ z z2 (-2) f_sm) ⟨ml_X9_262, ym_X6_lay, yv_X6_lay, yi_X6_lay, yc_X6_lay⟩ yd_X6_lay ob_50 (by decide) rfl rfl hl.1 (Nat.le_of_ble_eq_true rfl) ⟨by decide, by decide⟩ ⟨Nat.zero_le _, Nat.zero_le _⟩ dX9_stone_52 (fun r_6 M_7 H locs hp_7 hw => ?_)
          obtain rfl := hp_7
          exact hQ _ _ _ _ _ _ hw rfl (by unfold pf_stone; (try simp only [Int32.lt_iff_toInt_lt, Int32.le_iff_toInt_le, ← Int32.toInt_inj, ti_l0, ti_l1, ti_l2, ti_l3, ti_l5, ti_l7, ti_l8, ti_l24, ti_l59, ti_l60, ti_l119, ti_l120, ti_lm1, ti_lm2] at c_1); (try simp only [Int32.lt_iff_toInt_lt, Int32.le_iff_toInt_le, ← Int32.toInt_inj, ti_l0, ti_l1, ti_l2, ti_l3, ti_l5, ti_l7, ti_l8, ti_l24, ti_l59, ti_l60, ti_l119, ti_l120, ti_lm1, ti_lm2] at c_7); (try simp only [Int32.lt_iff_toInt_lt, Int32.le_iff_toInt_le, ← Int32.toInt_inj, ti_l0, ti_l1, ti_l2, ti_l3, ti_l5, ti_l7, ti_l8, ti_l24, ti_l59, ti_l60, ti_l119, ti_l120, ti_lm1, ti_lm2] at g_3); (try simp only [Int32.lt_iff_toInt_lt, Int32.le_iff_toInt_le, ← Int32.toInt_inj, ti_l0, ti_l1, ti_l2, ti_l3, ti_l5, ti_l7, ti_l8, ti_l24, ti_l59, ti_l60, ti_l119, ti_l120, ti_lm1, ti_lm2] at g_4); (try simp only [Int32.lt_iff_toInt_lt, Int32.le_iff_toInt_le, ← Int32.toInt_inj, ti_l0, ti_l1, ti_l2, ti_l3, ti_l5, ti_l7, ti_l8, ti_l24, ti_l59, ti_l60, ti_l119, ti_l120, ti_lm1, ti_lm2] at c_15); (try simp only [Int32.lt_iff_toInt_lt, Int32.le_iff_toInt_le, ← Int32.toInt_inj, ti_l0, ti_l1, ti_l2, ti_l3, ti_l5, ti_l7, ti_l8, ti_l24, ti_l59, ti_l60, ti_l119, ti_l120, ti_lm1, ti_lm2] at c_22); (try simp only [Int32.lt_iff_toInt_lt, Int32.le_iff_toInt_le, ← Int32.toInt_inj, ti_l0, ti_l1, ti_l2, ti_l3, ti_l5, ti_l7, ti_l8, ti_l24, ti_l59, ti_l60, ti_l119, ti_l120, ti_lm1, ti_lm2] at c_43); (try simp only [Int32.lt_iff_toInt_lt, Int32.le_iff_toInt_le, ← Int32.toInt_inj, ti_l0, ti_l1, ti_l2, ti_l3, ti_l5, ti_l7, ti_l8, ti_l24, ti_l59, ti_l60, ti_l119, ti_l120, ti_lm1, ti_lm2]); (repeat' split) <;> first | rfl | omega) dX9_stone_55
        · refine lv_aload_n hx hb dX9_stone_25 rfl (lv_at hl 0 rfl) ?_
          refine lv_iload_n hx hb dX9_stone_26 rfl (lv_at hl 3 rfl) ?_
          refine ti_callVi (ci := 9) (av := [.int z3]) C hw (k_X9_isMan l D A cy hJ _ hF z3) ⟨ml_X9_104, ym_X9_isMan, yv_X9_isMan, yi_X9_isMan, yc_X9_isMan⟩ yd_X9_isMan ob_0 (by decide) rfl rfl hl.1 (Nat.le_of_ble_eq_true rfl) ⟨by decide, by decide⟩ ⟨Nat.zero_le _, Nat.zero_le _⟩ dX9_stone_27 (fun r_8 M_9 H locs hp_9 hw => ?_)
          obtain ⟨hm, rfl⟩ := hp_9
          have hw := hw.to hm
          refine lv_if_ne (tgt := 35) hx hb dX9_stone_30 (by decide) (fun c => absurd (by decide) c) (fun c_30 => ?_)
          refine lv_iconst (v := (-1)) hx hb dX9_stone_33 (by decide) ?_
          exact hQ _ _ _ _ _ _ hw rfl (by unfold pf_stone; (try simp only [Int32.lt_iff_toInt_lt, Int32.le_iff_toInt_le, ← Int32.toInt_inj, ti_l0, ti_l1, ti_l2, ti_l3, ti_l5, ti_l7, ti_l8, ti_l24, ti_l59, ti_l60, ti_l119, ti_l120, ti_lm1, ti_lm2] at c_1); (try simp only [Int32.lt_iff_toInt_lt, Int32.le_iff_toInt_le, ← Int32.toInt_inj, ti_l0, ti_l1, ti_l2, ti_l3, ti_l5, ti_l7, ti_l8, ti_l24, ti_l59, ti_l60, ti_l119, ti_l120, ti_lm1, ti_lm2] at c_7); (try simp only [Int32.lt_iff_toInt_lt, Int32.le_iff_toInt_le, ← Int32.toInt_inj, ti_l0, ti_l1, ti_l2, ti_l3, ti_l5, ti_l7, ti_l8, ti_l24, ti_l59, ti_l60, ti_l119, ti_l120, ti_lm1, ti_lm2] at g_3); (try simp only [Int32.lt_iff_toInt_lt, Int32.le_iff_toInt_le, ← Int32.toInt_inj, ti_l0, ti_l1, ti_l2, ti_l3, ti_l5, ti_l7, ti_l8, ti_l24, ti_l59, ti_l60, ti_l119, ti_l120, ti_lm1, ti_lm2] at g_4); (try simp only [Int32.lt_iff_toInt_lt, Int32.le_iff_toInt_le, ← Int32.toInt_inj, ti_l0, ti_l1, ti_l2, ti_l3, ti_l5, ti_l7, ti_l8, ti_l24, ti_l59, ti_l60, ti_l119, ti_l120, ti_lm1, ti_lm2] at c_15); (try simp only [Int32.lt_iff_toInt_lt, Int32.le_iff_toInt_le, ← Int32.toInt_inj, ti_l0, ti_l1, ti_l2, ti_l3, ti_l5, ti_l7, ti_l8, ti_l24, ti_l59, ti_l60, ti_l119, ti_l120, ti_lm1, ti_lm2] at c_22); (try simp only [Int32.lt_iff_toInt_lt, Int32.le_iff_toInt_le, ← Int32.toInt_inj, ti_l0, ti_l1, ti_l2, ti_l3, ti_l5, ti_l7, ti_l8, ti_l24, ti_l59, ti_l60, ti_l119, ti_l120, ti_lm1, ti_lm2] at c_30); (try simp only [Int32.lt_iff_toInt_lt, Int32.le_iff_toInt_le, ← Int32.toInt_inj, ti_l0, ti_l1, ti_l2, ti_l3, ti_l5, ti_l7, ti_l8, ti_l24, ti_l59, ti_l60, ti_l119, ti_l120, ti_lm1, ti_lm2]); (repeat' split) <;> first | rfl | omega) dX9_stone_34
      · refine lv_if_ne (tgt := 20) hx hb dX9_stone_15 (by decide) (fun c => absurd (by decide) c) (fun c_15 => ?_)
        refine lv_iconst (v := (-1)) hx hb dX9_stone_18 (by decide) ?_
        exact hQ _ _ _ _ _ _ hw rfl (by unfold pf_stone; (try simp only [Int32.lt_iff_toInt_lt, Int32.le_iff_toInt_le, ← Int32.toInt_inj, ti_l0, ti_l1, ti_l2, ti_l3, ti_l5, ti_l7, ti_l8, ti_l24, ti_l59, ti_l60, ti_l119, ti_l120, ti_lm1, ti_lm2] at c_1); (try simp only [Int32.lt_iff_toInt_lt, Int32.le_iff_toInt_le, ← Int32.toInt_inj, ti_l0, ti_l1, ti_l2, ti_l3, ti_l5, ti_l7, ti_l8, ti_l24, ti_l59, ti_l60, ti_l119, ti_l120, ti_lm1, ti_lm2] at c_7); (try simp only [Int32.lt_iff_toInt_lt, Int32.le_iff_toInt_le, ← Int32.toInt_inj, ti_l0, ti_l1, ti_l2, ti_l3, ti_l5, ti_l7, ti_l8, ti_l24, ti_l59, ti_l60, ti_l119, ti_l120, ti_lm1, ti_lm2] at g_5); (try simp only [Int32.lt_iff_toInt_lt, Int32.le_iff_toInt_le, ← Int32.toInt_inj, ti_l0, ti_l1, ti_l2, ti_l3, ti_l5, ti_l7, ti_l8, ti_l24, ti_l59, ti_l60, ti_l119, ti_l120, ti_lm1, ti_lm2] at c_15); (try simp only [Int32.lt_iff_toInt_lt, Int32.le_iff_toInt_le, ← Int32.toInt_inj, ti_l0, ti_l1, ti_l2, ti_l3, ti_l5, ti_l7, ti_l8, ti_l24, ti_l59, ti_l60, ti_l119, ti_l120, ti_lm1, ti_lm2]); (repeat' split) <;> first | rfl | omega) dX9_stone_19
set_option maxHeartbeats 4000000 in
set_option maxRecDepth 100000 in
theorem k_X9_strike (l : Launch) (D : va_G) (A : Nat → Nat → Nat) (cy : Nat → ClassId) (hJ : ti_inj ti_LT A) (M : ti_M) (hF : ti_F M) (z : Int32) : ti_Ki l yX9_strike cX9_strike 2 (some .int) 1 ti_LT D A cy M [.ref (A 0 0), .int z] (fun r _ => r = (-1)) := by
  refine ti_eI yp_X9_strike hJ ti_LT_nd (Nat.le_of_ble_eq_true rfl) ?_
  intro p e s m args below meth c Q H0 C hQ hw ls hl
  have hx := C.1
  have hb := C.2.1
  have hl : lv_has ls 2 [(0, .ref (A 0 0)), (1, .int z)] := hl
  obtain ⟨f_told, f_spare, f_nt, f_many, f_fault, f_place, f_men, f_knots, f_mut, f_man, f_min, f_size, f_water, f_first, f_steps, f_img, f_sm, f_sk, f_ss, f_sw, f_p0, f_p1, f_p2⟩ := id hF
  refine lv_aload_n hx hb dX9_strike_0 rfl (lv_at hl 0 rfl) ?_
  refine ti_get (ci := 9) (k := 8) (N := 10) (T := TX9) (v := .ref (A 50 0)) C hw iw_9 rfl ob_0 (by decide) (by decide) fl_X9_54 rfl rfl dX9_strike_1 ?_
  refine lv_iload_n hx hb dX9_strike_4 rfl (lv_at hl 1 rfl) ?_
  refine ti_callVi (ci := 6) (av := [.int z]) C hw (k_X6_layStrike l D A cy hJ _ z f_sm) ⟨ml_X9_266, ym_X6_layStrike, yv_X6_layStrike, yi_X6_layStrike, yc_X6_layStrike⟩ yd_X6_layStrike ob_50 (by decide) rfl rfl hl.1 (Nat.le_of_ble_eq_true rfl) ⟨by decide, by decide⟩ ⟨Nat.zero_le _, Nat.zero_le _⟩ dX9_strike_5 (fun r_1 M_2 H locs hp_2 hw => ?_)
  obtain rfl := hp_2
  exact hQ _ _ _ _ _ _ hw rfl rfl dX9_strike_8
theorem ti_narb {r z : Int32} (h : r = pf_known z) : narrow .boolean (.int r) = .int r := by
  subst h; unfold pf_known; split
  · rfl
  · split <;> rfl
set_option maxHeartbeats 4000000 in
set_option maxRecDepth 100000 in
theorem k_X9_known (l : Launch) (D : va_G) (A : Nat → Nat → Nat) (cy : Nat → ClassId) (hJ : ti_inj ti_LT A) (M : ti_M) (hF : ti_F M) (z : Int32) : ti_Ki l yX9_known cX9_known 2 (some .boolean) 1 ti_LT D A cy M [.ref (A 0 0), .int z] (fun r _ => r = pf_known z) := by
  refine ti_eI yp_X9_known hJ ti_LT_nd (Nat.le_of_ble_eq_true rfl) ?_
  intro p e s m args below meth c Q H0 C hQ hw ls hl
  have hx := C.1
  have hb := C.2.1
  have hl : lv_has ls 2 [(0, .ref (A 0 0)), (1, .int z)] := hl
  obtain ⟨f_told, f_spare, f_nt, f_many, f_fault, f_place, f_men, f_knots, f_mut, f_man, f_min, f_size, f_water, f_first, f_steps, f_img, f_sm, f_sk, f_ss, f_sw, f_p0, f_p1, f_p2⟩ := id hF
  refine lv_aload_n hx hb dX9_known_0 rfl (lv_at hl 0 rfl) ?_
  refine ti_get (ci := 9) (k := 8) (N := 10) (T := TX9) (v := .ref (A 50 0)) C hw iw_9 rfl ob_0 (by decide) (by decide) fl_X9_54 rfl rfl dX9_known_1 ?_
  refine lv_iload_n hx hb dX9_known_4 rfl (lv_at hl 1 rfl) ?_
  refine ti_callVi (ci := 6) (av := [.int z]) C hw (k_X6_knowBy l D A cy hJ _ z f_sm) ⟨ml_X9_269, ym_X6_knowBy, yv_X6_knowBy, yi_X6_knowBy, yc_X6_knowBy⟩ yd_X6_knowBy ob_50 (by decide) rfl rfl hl.1 (Nat.le_of_ble_eq_true rfl) ⟨by decide, by decide⟩ ⟨Nat.zero_le _, Nat.zero_le _⟩ dX9_known_5 (fun r_1 M_2 H locs hp_2 hw => ?_)
  have hr := hp_2
  exact hQ _ _ _ _ _ _ hw (ti_narb hr) hr dX9_known_8
set_option maxHeartbeats 4000000 in
set_option maxRecDepth 100000 in
theorem k_X9_came (l : Launch) (D : va_G) (A : Nat → Nat → Nat) (cy : Nat → ClassId) (hJ : ti_inj ti_LT A) (M : ti_M) (hF : ti_F M)  : ti_Ki l yX9_came cX9_came 1 (some .int) 3 ti_LT D A cy M [.ref (A 0 0)] (fun r _ => r = 0) := by
  refine ti_eI yp_X9_came hJ ti_LT_nd (Nat.le_of_ble_eq_true rfl) ?_
  intro p e s m args below meth c Q H0 C hQ hw ls hl
  have hx := C.1
  have hb := C.2.1
  have hl : lv_has ls 1 [(0, .ref (A 0 0))] := hl
  obtain ⟨f_told, f_spare, f_nt, f_many, f_fault, f_place, f_men, f_knots, f_mut, f_man, f_min, f_size, f_water, f_first, f_steps, f_img, f_sm, f_sk, f_ss, f_sw, f_p0, f_p1, f_p2⟩ := id hF
  refine lv_aload_n hx hb dX9_came_0 rfl (lv_at hl 0 rfl) ?_
  refine ti_get (ci := 9) (k := 8) (N := 10) (T := TX9) (v := .ref (A 50 0)) C hw iw_9 rfl ob_0 (by decide) (by decide) fl_X9_54 rfl rfl dX9_came_1 ?_
  refine lv_aload_n hx hb dX9_came_4 rfl (lv_at hl 0 rfl) ?_
  refine ti_get (ci := 9) (k := 1) (N := 10) (T := TX9) (v := .ref (A 3 0)) C hw iw_9 rfl ob_0 (by decide) (by decide) fl_X9_19 rfl (ti_Tv f_told) dX9_came_5 ?_
  refine ti_callVv (ci := 6) (av := [.ref (A 3 0)]) C hw (k_X6_search l D A cy hJ _ hF) ⟨ml_X9_272, ym_X6_search, yv_X6_search, yi_X6_search, yc_X6_search⟩ yd_X6_search ob_50 (by decide) rfl rfl hl.1 (Nat.le_of_ble_eq_true rfl) ⟨by decide, by decide⟩ ⟨Nat.zero_le _, Nat.zero_le _⟩ dX9_came_8 (fun M_2 H locs hp_2 hw => ?_)
  refine lv_aload_n hx hb dX9_came_11 rfl (lv_at hl 0 rfl) ?_
  refine ti_get (ci := 9) (k := 8) (N := 10) (T := TX9) (v := .ref (A 50 0)) C hw iw_9 rfl ob_0 (by decide) (by decide) fl_X9_54 rfl rfl dX9_came_12 ?_
  refine ti_get (ci := 6) (k := 10) (N := 13) (T := TX6) C hw iw_6 rfl ob_50 (by decide) (by decide) fl_X9_275 rfl rfl dX9_came_15 ?_
  refine ti_top (y := 0) hp_2 ?_
  exact hQ _ _ _ _ _ _ hw rfl rfl dX9_came_18
set_option maxHeartbeats 4000000 in
set_option maxRecDepth 100000 in
theorem k_X9_one (l : Launch) (D : va_G) (A : Nat → Nat → Nat) (cy : Nat → ClassId) (hJ : ti_inj ti_LT A) (M : ti_M) (hF : ti_F M) (z : Int32) (z2 : Int32) : ti_Ki l yX9_one cX9_one 3 (some .int) 3 ti_LT D A cy M [.ref (A 0 0), .int z, .int z2] (fun r _ => r = pf_one z z2) := by
  refine ti_eI yp_X9_one hJ ti_LT_nd (Nat.le_of_ble_eq_true rfl) ?_
  intro p e s m args below meth c Q H0 C hQ hw ls hl
  have hx := C.1
  have hb := C.2.1
  have hl : lv_has ls 3 [(0, .ref (A 0 0)), (1, .int z), (2, .int z2)] := hl
  obtain ⟨f_told, f_spare, f_nt, f_many, f_fault, f_place, f_men, f_knots, f_mut, f_man, f_min, f_size, f_water, f_first, f_steps, f_img, f_sm, f_sk, f_ss, f_sw, f_p0, f_p1, f_p2⟩ := id hF
  refine lv_iload_n hx hb dX9_one_0 rfl (lv_at hl 1 rfl) ?_
  refine lv_if_lt (tgt := 12) hx hb dX9_one_1 (by decide) (fun c_1 => ?_) (fun c_1 => ?_)
  · refine lv_iconst (v := (-1)) hx hb dX9_one_12 (by decide) ?_
    exact hQ _ _ _ _ _ _ hw rfl (by unfold pf_one; (try simp only [Int32.lt_iff_toInt_lt, Int32.le_iff_toInt_le, ← Int32.toInt_inj, ti_l0, ti_l1, ti_l2, ti_l3, ti_l5, ti_l7, ti_l8, ti_l24, ti_l59, ti_l60, ti_l119, ti_l120, ti_lm1, ti_lm2] at c_1); (try simp only [Int32.lt_iff_toInt_lt, Int32.le_iff_toInt_le, ← Int32.toInt_inj, ti_l0, ti_l1, ti_l2, ti_l3, ti_l5, ti_l7, ti_l8, ti_l24, ti_l59, ti_l60, ti_l119, ti_l120, ti_lm1, ti_lm2]); (repeat' split) <;> first | rfl | omega) dX9_one_13
  · refine lv_aload_n hx hb dX9_one_4 rfl (lv_at hl 0 rfl) ?_
    refine lv_iload_n hx hb dX9_one_5 rfl (lv_at hl 2 rfl) ?_
    refine ti_callVi (ci := 9) (av := [.int z2]) C hw (k_X9_isZeroOrOne l D A cy hJ _ z2) ⟨ml_X9_223, ym_X9_isZeroOrOne, yv_X9_isZeroOrOne, yi_X9_isZeroOrOne, yc_X9_isZeroOrOne⟩ yd_X9_isZeroOrOne ob_0 (by decide) rfl rfl hl.1 (Nat.le_of_ble_eq_true rfl) ⟨by decide, by decide⟩ ⟨Nat.zero_le _, Nat.zero_le _⟩ dX9_one_6 (fun r_1 M_2 H locs hp_2 hw => ?_)
    obtain ⟨hm, hz⟩ := hp_2
    have hw := hw.to hm
    rcases hz with ⟨rfl, g_3⟩ | ⟨rfl, g_4, g_5⟩
    · refine lv_if_ne (tgt := 14) hx hb dX9_one_9 (by decide) (fun c_9 => ?_) (fun c => absurd c (by decide))
      refine lv_aload_n hx hb dX9_one_14 rfl (lv_at hl 0 rfl) ?_
      refine ti_get (ci := 9) (k := 8) (N := 10) (T := TX9) (v := .ref (A 50 0)) C hw iw_9 rfl ob_0 (by decide) (by decide) fl_X9_54 rfl rfl dX9_one_15 ?_
      refine lv_aload_n hx hb dX9_one_18 rfl (lv_at hl 0 rfl) ?_
      refine ti_get (ci := 9) (k := 1) (N := 10) (T := TX9) (v := .ref (A 3 0)) C hw iw_9 rfl ob_0 (by decide) (by decide) fl_X9_19 rfl (ti_Tv f_told) dX9_one_19 ?_
      refine ti_callVv (ci := 6) (av := [.ref (A 3 0)]) C hw (k_X6_search l D A cy hJ _ hF) ⟨ml_X9_272, ym_X6_search, yv_X6_search, yi_X6_search, yc_X6_search⟩ yd_X6_search ob_50 (by decide) rfl rfl hl.1 (Nat.le_of_ble_eq_true rfl) ⟨by decide, by decide⟩ ⟨Nat.zero_le _, Nat.zero_le _⟩ dX9_one_22 (fun M_7 H locs hp_7 hw => ?_)
      refine lv_iload_n hx hb dX9_one_25 rfl (lv_at hl 1 rfl) ?_
      refine lv_aload_n hx hb dX9_one_26 rfl (lv_at hl 0 rfl) ?_
      refine ti_get (ci := 9) (k := 8) (N := 10) (T := TX9) (v := .ref (A 50 0)) C hw iw_9 rfl ob_0 (by decide) (by decide) fl_X9_54 rfl rfl dX9_one_27 ?_
      refine ti_get (ci := 6) (k := 10) (N := 13) (T := TX6) C hw iw_6 rfl ob_50 (by decide) (by decide) fl_X9_275 rfl rfl dX9_one_30 ?_
      refine ti_top (y := 0) hp_7 ?_
      refine lv_icmp_lt (tgt := 39) hx hb dX9_one_33 (by decide) (fun c => absurd c ((by (try simp only [Int32.lt_iff_toInt_lt, Int32.le_iff_toInt_le, ← Int32.toInt_inj, ti_l0, ti_l1, ti_l2, ti_l3, ti_l5, ti_l7, ti_l8, ti_l24, ti_l59, ti_l60, ti_l119, ti_l120, ti_lm1, ti_lm2] at c_1); (try simp only [Int32.lt_iff_toInt_lt, Int32.le_iff_toInt_le, ← Int32.toInt_inj, ti_l0, ti_l1, ti_l2, ti_l3, ti_l5, ti_l7, ti_l8, ti_l24, ti_l59, ti_l60, ti_l119, ti_l120, ti_lm1, ti_lm2] at g_3); (try simp only [Int32.lt_iff_toInt_lt, Int32.le_iff_toInt_le, ← Int32.toInt_inj, ti_l0, ti_l1, ti_l2, ti_l3, ti_l5, ti_l7, ti_l8, ti_l24, ti_l59, ti_l60, ti_l119, ti_l120, ti_lm1, ti_lm2] at c_9); (try simp only [Int32.lt_iff_toInt_lt, Int32.le_iff_toInt_le, ← Int32.toInt_inj, ti_l0, ti_l1, ti_l2, ti_l3, ti_l5, ti_l7, ti_l8, ti_l24, ti_l59, ti_l60, ti_l119, ti_l120, ti_lm1, ti_lm2]); omega))) (fun c_33 => ?_)
      refine lv_bipush (v := (-2)) hx hb dX9_one_36 (by decide) ?_
      exact hQ _ _ _ _ _ _ hw rfl (by unfold pf_one; (try simp only [Int32.lt_iff_toInt_lt, Int32.le_iff_toInt_le, ← Int32.toInt_inj, ti_l0, ti_l1, ti_l2, ti_l3, ti_l5, ti_l7, ti_l8, ti_l24, ti_l59, ti_l60, ti_l119, ti_l120, ti_lm1, ti_lm2] at c_1); (try simp only [Int32.lt_iff_toInt_lt, Int32.le_iff_toInt_le, ← Int32.toInt_inj, ti_l0, ti_l1, ti_l2, ti_l3, ti_l5, ti_l7, ti_l8, ti_l24, ti_l59, ti_l60, ti_l119, ti_l120, ti_lm1, ti_lm2] at g_3); (try simp only [Int32.lt_iff_toInt_lt, Int32.le_iff_toInt_le, ← Int32.toInt_inj, ti_l0, ti_l1, ti_l2, ti_l3, ti_l5, ti_l7, ti_l8, ti_l24, ti_l59, ti_l60, ti_l119, ti_l120, ti_lm1, ti_lm2] at c_9); (try simp only [Int32.lt_iff_toInt_lt, Int32.le_iff_toInt_le, ← Int32.toInt_inj, ti_l0, ti_l1, ti_l2, ti_l3, ti_l5, ti_l7, ti_l8, ti_l24, ti_l59, ti_l60, ti_l119, ti_l120, ti_lm1, ti_lm2] at c_33); (try simp only [Int32.lt_iff_toInt_lt, Int32.le_iff_toInt_le, ← Int32.toInt_inj, ti_l0, ti_l1, ti_l2, ti_l3, ti_l5, ti_l7, ti_l8, ti_l24, ti_l59, ti_l60, ti_l119, ti_l120, ti_lm1, ti_lm2]); (repeat' split) <;> first | rfl | omega) dX9_one_38
    · refine lv_if_ne (tgt := 14) hx hb dX9_one_9 (by decide) (fun c => absurd (by decide) c) (fun c_9 => ?_)
      refine lv_iconst (v := (-1)) hx hb dX9_one_12 (by decide) ?_
      exact hQ _ _ _ _ _ _ hw rfl (by unfold pf_one; (try simp only [Int32.lt_iff_toInt_lt, Int32.le_iff_toInt_le, ← Int32.toInt_inj, ti_l0, ti_l1, ti_l2, ti_l3, ti_l5, ti_l7, ti_l8, ti_l24, ti_l59, ti_l60, ti_l119, ti_l120, ti_lm1, ti_lm2] at c_1); (try simp only [Int32.lt_iff_toInt_lt, Int32.le_iff_toInt_le, ← Int32.toInt_inj, ti_l0, ti_l1, ti_l2, ti_l3, ti_l5, ti_l7, ti_l8, ti_l24, ti_l59, ti_l60, ti_l119, ti_l120, ti_lm1, ti_lm2] at g_4); (try simp only [Int32.lt_iff_toInt_lt, Int32.le_iff_toInt_le, ← Int32.toInt_inj, ti_l0, ti_l1, ti_l2, ti_l3, ti_l5, ti_l7, ti_l8, ti_l24, ti_l59, ti_l60, ti_l119, ti_l120, ti_lm1, ti_lm2] at g_5); (try simp only [Int32.lt_iff_toInt_lt, Int32.le_iff_toInt_le, ← Int32.toInt_inj, ti_l0, ti_l1, ti_l2, ti_l3, ti_l5, ti_l7, ti_l8, ti_l24, ti_l59, ti_l60, ti_l119, ti_l120, ti_lm1, ti_lm2] at c_9); (try simp only [Int32.lt_iff_toInt_lt, Int32.le_iff_toInt_le, ← Int32.toInt_inj, ti_l0, ti_l1, ti_l2, ti_l3, ti_l5, ti_l7, ti_l8, ti_l24, ti_l59, ti_l60, ti_l119, ti_l120, ti_lm1, ti_lm2]); (repeat' split) <;> first | rfl | omega) dX9_one_13
set_option maxHeartbeats 4000000 in
set_option maxRecDepth 100000 in
theorem k_X9_empty (l : Launch) (D : va_G) (A : Nat → Nat → Nat) (cy : Nat → ClassId) (hJ : ti_inj ti_LT A) (M : ti_M) (hF : ti_F M) (z : Int32) (z2 : Int32) : ti_Ki l yX9_empty cX9_empty 3 (some .int) 5 ti_LT D A cy M [.ref (A 0 0), .int z, .int z2] (fun r _ => r = pf_empty z z2) := by
  refine ti_eI yp_X9_empty hJ ti_LT_nd (Nat.le_of_ble_eq_true rfl) ?_
  intro p e s m args below meth c Q H0 C hQ hw ls hl
  have hx := C.1
  have hb := C.2.1
  have hl : lv_has ls 3 [(0, .ref (A 0 0)), (1, .int z), (2, .int z2)] := hl
  obtain ⟨f_told, f_spare, f_nt, f_many, f_fault, f_place, f_men, f_knots, f_mut, f_man, f_min, f_size, f_water, f_first, f_steps, f_img, f_sm, f_sk, f_ss, f_sw, f_p0, f_p1, f_p2⟩ := id hF
  refine lv_aload_n hx hb dX9_empty_0 rfl (lv_at hl 0 rfl) ?_
  refine lv_iload_n hx hb dX9_empty_1 rfl (lv_at hl 1 rfl) ?_
  refine lv_iconst (v := 1) hx hb dX9_empty_2 (by decide) ?_
  refine ti_callVi (ci := 9) (av := [.int z, .int 1]) C hw (k_X9_isAhead l D A cy hJ _ hF z 1) ⟨ml_X9_247, ym_X9_isAhead, yv_X9_isAhead, yi_X9_isAhead, yc_X9_isAhead⟩ yd_X9_isAhead ob_0 (by decide) rfl rfl hl.1 (Nat.le_of_ble_eq_true rfl) ⟨by decide, by decide⟩ ⟨Nat.zero_le _, Nat.zero_le _⟩ dX9_empty_3 (fun r_1 M_2 H locs hp_2 hw => ?_)
  obtain ⟨hm, hz⟩ := hp_2
  have hw := hw.to hm
  rcases hz with ⟨rfl, g_3, g_4⟩ | ⟨rfl, g_5⟩
  · refine lv_if_eq (tgt := 17) hx hb dX9_empty_6 (by decide) (fun c => absurd c (by decide)) (fun c_6 => ?_)
    refine lv_aload_n hx hb dX9_empty_9 rfl (lv_at hl 0 rfl) ?_
    refine lv_iload_n hx hb dX9_empty_10 rfl (lv_at hl 2 rfl) ?_
    refine ti_callVi (ci := 9) (av := [.int z2]) C hw (k_X9_isZeroOrOne l D A cy hJ _ z2) ⟨ml_X9_223, ym_X9_isZeroOrOne, yv_X9_isZeroOrOne, yi_X9_isZeroOrOne, yc_X9_isZeroOrOne⟩ yd_X9_isZeroOrOne ob_0 (by decide) rfl rfl hl.1 (Nat.le_of_ble_eq_true rfl) ⟨by decide, by decide⟩ ⟨Nat.zero_le _, Nat.zero_le _⟩ dX9_empty_11 (fun r_6 M_7 H locs hp_7 hw => ?_)
    obtain ⟨hm, hz⟩ := hp_7
    have hw := hw.to hm
    rcases hz with ⟨rfl, g_8⟩ | ⟨rfl, g_9, g_10⟩
    · refine lv_if_ne (tgt := 19) hx hb dX9_empty_14 (by decide) (fun c_14 => ?_) (fun c => absurd c (by decide))
      refine lv_aload_n hx hb dX9_empty_19 rfl (lv_at hl 0 rfl) ?_
      refine ti_get (ci := 9) (k := 9) (N := 10) (T := TX9) (v := .ref (A 53 0)) C hw iw_9 rfl ob_0 (by decide) (by decide) fl_X9_61 rfl rfl dX9_empty_20 ?_
      refine lv_aload_n hx hb dX9_empty_23 rfl (lv_at hl 0 rfl) ?_
      refine ti_get (ci := 9) (k := 3) (N := 10) (T := TX9) (v := .ref (A 27 0)) C hw iw_9 rfl ob_0 (by decide) (by decide) fl_X9_29 rfl rfl dX9_empty_24 ?_
      refine lv_iload_n hx hb dX9_empty_27 rfl (lv_at hl 1 rfl) ?_
      refine lv_iload_n hx hb dX9_empty_28 rfl (lv_at hl 2 rfl) ?_
      refine ti_callVi (ci := 0) (av := [.ref (A 27 0), .int z, .int z2]) C hw (k_X0_emptyMinutes l D A cy hJ _ hF z z2 (by (try simp only [Int32.lt_iff_toInt_lt, Int32.le_iff_toInt_le, ← Int32.toInt_inj, ti_l0, ti_l1, ti_l2, ti_l3, ti_l5, ti_l7, ti_l8, ti_l24, ti_l59, ti_l60, ti_l119, ti_l120, ti_lm1, ti_lm2] at g_3); (try simp only [Int32.lt_iff_toInt_lt, Int32.le_iff_toInt_le, ← Int32.toInt_inj, ti_l0, ti_l1, ti_l2, ti_l3, ti_l5, ti_l7, ti_l8, ti_l24, ti_l59, ti_l60, ti_l119, ti_l120, ti_lm1, ti_lm2] at g_4); (try simp only [Int32.lt_iff_toInt_lt, Int32.le_iff_toInt_le, ← Int32.toInt_inj, ti_l0, ti_l1, ti_l2, ti_l3, ti_l5, ti_l7, ti_l8, ti_l24, ti_l59, ti_l60, ti_l119, ti_l120, ti_lm1, ti_lm2] at c_6); (try simp only [Int32.lt_iff_toInt_lt, Int32.le_iff_toInt_le, ← Int32.toInt_inj, ti_l0, ti_l1, ti_l2, ti_l3, ti_l5, ti_l7, ti_l8, ti_l24, ti_l59, ti_l60, ti_l119, ti_l120, ti_lm1, ti_lm2] at g_8); (try simp only [Int32.lt_iff_toInt_lt, Int32.le_iff_toInt_le, ← Int32.toInt_inj, ti_l0, ti_l1, ti_l2, ti_l3, ti_l5, ti_l7, ti_l8, ti_l24, ti_l59, ti_l60, ti_l119, ti_l120, ti_lm1, ti_lm2] at c_14); omega)) ⟨ml_X9_284, ym_X0_emptyMinutes, yv_X0_emptyMinutes, yi_X0_emptyMinutes, yc_X0_emptyMinutes⟩ yd_X0_emptyMinutes ob_53 (by decide) rfl rfl hl.1 (Nat.le_of_ble_eq_true rfl) ⟨by decide, by decide⟩ ⟨Nat.zero_le _, Nat.zero_le _⟩ dX9_empty_29 (fun r_11 M_12 H locs hp_12 hw => ?_)
      obtain rfl := hp_12
      exact hQ _ _ _ _ _ _ hw rfl (by unfold pf_empty; (try simp only [Int32.lt_iff_toInt_lt, Int32.le_iff_toInt_le, ← Int32.toInt_inj, ti_l0, ti_l1, ti_l2, ti_l3, ti_l5, ti_l7, ti_l8, ti_l24, ti_l59, ti_l60, ti_l119, ti_l120, ti_lm1, ti_lm2] at g_3); (try simp only [Int32.lt_iff_toInt_lt, Int32.le_iff_toInt_le, ← Int32.toInt_inj, ti_l0, ti_l1, ti_l2, ti_l3, ti_l5, ti_l7, ti_l8, ti_l24, ti_l59, ti_l60, ti_l119, ti_l120, ti_lm1, ti_lm2] at g_4); (try simp only [Int32.lt_iff_toInt_lt, Int32.le_iff_toInt_le, ← Int32.toInt_inj, ti_l0, ti_l1, ti_l2, ti_l3, ti_l5, ti_l7, ti_l8, ti_l24, ti_l59, ti_l60, ti_l119, ti_l120, ti_lm1, ti_lm2] at c_6); (try simp only [Int32.lt_iff_toInt_lt, Int32.le_iff_toInt_le, ← Int32.toInt_inj, ti_l0, ti_l1, ti_l2, ti_l3, ti_l5, ti_l7, ti_l8, ti_l24, ti_l59, ti_l60, ti_l119, ti_l120, ti_lm1, ti_lm2] at g_8); (try simp only [Int32.lt_iff_toInt_lt, Int32.le_iff_toInt_le, ← Int32.toInt_inj, ti_l0, ti_l1, ti_l2, ti_l3, ti_l5, ti_l7, ti_l8, ti_l24, ti_l59, ti_l60, ti_l119, ti_l120, ti_lm1, ti_lm2] at c_14); (try simp only [Int32.lt_iff_toInt_lt, Int32.le_iff_toInt_le, ← Int32.toInt_inj, ti_l0, ti_l1, ti_l2, ti_l3, ti_l5, ti_l7, ti_l8, ti_l24, ti_l59, ti_l60, ti_l119, ti_l120, ti_lm1, ti_lm2]); (repeat' split) <;> first | rfl | omega) dX9_empty_32
    · refine lv_if_ne (tgt := 19) hx hb dX9_empty_14 (by decide) (fun c => absurd (by decide) c) (fun c_14 => ?_)
      refine lv_iconst (v := (-1)) hx hb dX9_empty_17 (by decide) ?_
      exact hQ _ _ _ _ _ _ hw rfl (by unfold pf_empty; (try simp only [Int32.lt_iff_toInt_lt, Int32.le_iff_toInt_le, ← Int32.toInt_inj, ti_l0, ti_l1, ti_l2, ti_l3, ti_l5, ti_l7, ti_l8, ti_l24, ti_l59, ti_l60, ti_l119, ti_l120, ti_lm1, ti_lm2] at g_3); (try simp only [Int32.lt_iff_toInt_lt, Int32.le_iff_toInt_le, ← Int32.toInt_inj, ti_l0, ti_l1, ti_l2, ti_l3, ti_l5, ti_l7, ti_l8, ti_l24, ti_l59, ti_l60, ti_l119, ti_l120, ti_lm1, ti_lm2] at g_4); (try simp only [Int32.lt_iff_toInt_lt, Int32.le_iff_toInt_le, ← Int32.toInt_inj, ti_l0, ti_l1, ti_l2, ti_l3, ti_l5, ti_l7, ti_l8, ti_l24, ti_l59, ti_l60, ti_l119, ti_l120, ti_lm1, ti_lm2] at c_6); (try simp only [Int32.lt_iff_toInt_lt, Int32.le_iff_toInt_le, ← Int32.toInt_inj, ti_l0, ti_l1, ti_l2, ti_l3, ti_l5, ti_l7, ti_l8, ti_l24, ti_l59, ti_l60, ti_l119, ti_l120, ti_lm1, ti_lm2] at g_9); (try simp only [Int32.lt_iff_toInt_lt, Int32.le_iff_toInt_le, ← Int32.toInt_inj, ti_l0, ti_l1, ti_l2, ti_l3, ti_l5, ti_l7, ti_l8, ti_l24, ti_l59, ti_l60, ti_l119, ti_l120, ti_lm1, ti_lm2] at g_10); (try simp only [Int32.lt_iff_toInt_lt, Int32.le_iff_toInt_le, ← Int32.toInt_inj, ti_l0, ti_l1, ti_l2, ti_l3, ti_l5, ti_l7, ti_l8, ti_l24, ti_l59, ti_l60, ti_l119, ti_l120, ti_lm1, ti_lm2] at c_14); (try simp only [Int32.lt_iff_toInt_lt, Int32.le_iff_toInt_le, ← Int32.toInt_inj, ti_l0, ti_l1, ti_l2, ti_l3, ti_l5, ti_l7, ti_l8, ti_l24, ti_l59, ti_l60, ti_l119, ti_l120, ti_lm1, ti_lm2]); (repeat' split) <;> first | rfl | omega) dX9_empty_18
  · refine lv_if_eq (tgt := 17) hx hb dX9_empty_6 (by decide) (fun c_6 => ?_) (fun c => absurd (by decide) c)
    refine lv_iconst (v := (-1)) hx hb dX9_empty_17 (by decide) ?_
    exact hQ _ _ _ _ _ _ hw rfl (by unfold pf_empty; (try simp only [Int32.lt_iff_toInt_lt, Int32.le_iff_toInt_le, ← Int32.toInt_inj, ti_l0, ti_l1, ti_l2, ti_l3, ti_l5, ti_l7, ti_l8, ti_l24, ti_l59, ti_l60, ti_l119, ti_l120, ti_lm1, ti_lm2] at g_5); (try simp only [Int32.lt_iff_toInt_lt, Int32.le_iff_toInt_le, ← Int32.toInt_inj, ti_l0, ti_l1, ti_l2, ti_l3, ti_l5, ti_l7, ti_l8, ti_l24, ti_l59, ti_l60, ti_l119, ti_l120, ti_lm1, ti_lm2] at c_6); (try simp only [Int32.lt_iff_toInt_lt, Int32.le_iff_toInt_le, ← Int32.toInt_inj, ti_l0, ti_l1, ti_l2, ti_l3, ti_l5, ti_l7, ti_l8, ti_l24, ti_l59, ti_l60, ti_l119, ti_l120, ti_lm1, ti_lm2]); (repeat' split) <;> first | rfl | omega) dX9_empty_18
set_option maxHeartbeats 4000000 in
set_option maxRecDepth 100000 in
theorem k_X9_chance (l : Launch) (D : va_G) (A : Nat → Nat → Nat) (cy : Nat → ClassId) (hJ : ti_inj ti_LT A) (M : ti_M) (hF : ti_F M) (z : Int32) (z2 : Int32) (z3 : Int32) : ti_Ki l yX9_chance cX9_chance 4 (some .int) 1 ti_LT D A cy M [.ref (A 0 0), .int z, .int z2, .int z3] (fun r _ => r = (-1)) := by
  refine ti_eI yp_X9_chance hJ ti_LT_nd (Nat.le_of_ble_eq_true rfl) ?_
  intro p e s m args below meth c Q H0 C hQ hw ls hl
  have hx := C.1
  have hb := C.2.1
  have hl : lv_has ls 4 [(0, .ref (A 0 0)), (1, .int z), (2, .int z2), (3, .int z3)] := hl
  obtain ⟨f_told, f_spare, f_nt, f_many, f_fault, f_place, f_men, f_knots, f_mut, f_man, f_min, f_size, f_water, f_first, f_steps, f_img, f_sm, f_sk, f_ss, f_sw, f_p0, f_p1, f_p2⟩ := id hF
  refine lv_iload_n hx hb dX9_chance_0 rfl (lv_at hl 1 rfl) ?_
  refine lv_if_lt (tgt := 21) hx hb dX9_chance_1 (by decide) (fun c_1 => ?_) (fun c_1 => ?_)
  · refine lv_iconst (v := (-1)) hx hb dX9_chance_21 (by decide) ?_
    exact hQ _ _ _ _ _ _ hw rfl rfl dX9_chance_22
  · refine lv_aload_n hx hb dX9_chance_4 rfl (lv_at hl 0 rfl) ?_
    refine lv_iload_n hx hb dX9_chance_5 rfl (lv_at hl 2 rfl) ?_
    refine ti_callVi (ci := 9) (av := [.int z2]) C hw (k_X9_isMan l D A cy hJ _ hF z2) ⟨ml_X9_104, ym_X9_isMan, yv_X9_isMan, yi_X9_isMan, yc_X9_isMan⟩ yd_X9_isMan ob_0 (by decide) rfl rfl hl.1 (Nat.le_of_ble_eq_true rfl) ⟨by decide, by decide⟩ ⟨Nat.zero_le _, Nat.zero_le _⟩ dX9_chance_6 (fun r_1 M_2 H locs hp_2 hw => ?_)
    obtain ⟨hm, rfl⟩ := hp_2
    have hw := hw.to hm
    refine lv_if_eq (tgt := 21) hx hb dX9_chance_9 (by decide) (fun c_9 => ?_) (fun c => absurd (by decide) c)
    refine lv_iconst (v := (-1)) hx hb dX9_chance_21 (by decide) ?_
    exact hQ _ _ _ _ _ _ hw rfl rfl dX9_chance_22
set_option maxHeartbeats 4000000 in
set_option maxRecDepth 100000 in
theorem k_X9_tried (l : Launch) (D : va_G) (A : Nat → Nat → Nat) (cy : Nat → ClassId) (hJ : ti_inj ti_LT A) (M : ti_M) (hF : ti_F M) (z : Int32) (z2 : Int32) (z3 : Int32) : ti_Ki l yX9_tried cX9_tried 4 (some .int) 6 ti_LT D A cy M [.ref (A 0 0), .int z, .int z2, .int z3] (fun r _ => r = pf_tried z z2 z3) := by
  refine ti_eI yp_X9_tried hJ ti_LT_nd (Nat.le_of_ble_eq_true rfl) ?_
  intro p e s m args below meth c Q H0 C hQ hw ls hl
  have hx := C.1
  have hb := C.2.1
  have hl : lv_has ls 4 [(0, .ref (A 0 0)), (1, .int z), (2, .int z2), (3, .int z3)] := hl
  obtain ⟨f_told, f_spare, f_nt, f_many, f_fault, f_place, f_men, f_knots, f_mut, f_man, f_min, f_size, f_water, f_first, f_steps, f_img, f_sm, f_sk, f_ss, f_sw, f_p0, f_p1, f_p2⟩ := id hF
  refine lv_iload_n hx hb dX9_tried_0 rfl (lv_at hl 1 rfl) ?_
  refine lv_if_lt (tgt := 18) hx hb dX9_tried_1 (by decide) (fun c_1 => ?_) (fun c_1 => ?_)
  · refine lv_iconst (v := (-1)) hx hb dX9_tried_18 (by decide) ?_
    exact hQ _ _ _ _ _ _ hw rfl (by unfold pf_tried; (try simp only [Int32.lt_iff_toInt_lt, Int32.le_iff_toInt_le, ← Int32.toInt_inj, ti_l0, ti_l1, ti_l2, ti_l3, ti_l5, ti_l7, ti_l8, ti_l24, ti_l59, ti_l60, ti_l119, ti_l120, ti_lm1, ti_lm2] at c_1); (try simp only [Int32.lt_iff_toInt_lt, Int32.le_iff_toInt_le, ← Int32.toInt_inj, ti_l0, ti_l1, ti_l2, ti_l3, ti_l5, ti_l7, ti_l8, ti_l24, ti_l59, ti_l60, ti_l119, ti_l120, ti_lm1, ti_lm2]); (repeat' split) <;> first | rfl | omega) dX9_tried_19
  · refine lv_iload_n hx hb dX9_tried_4 rfl (lv_at hl 1 rfl) ?_
    refine lv_iconst (v := 5) hx hb dX9_tried_5 (by decide) ?_
    refine lv_icmp_gt (tgt := 18) hx hb dX9_tried_6 (by decide) (fun c_6 => ?_) (fun c_6 => ?_)
    · refine lv_iconst (v := (-1)) hx hb dX9_tried_18 (by decide) ?_
      exact hQ _ _ _ _ _ _ hw rfl (by unfold pf_tried; (try simp only [Int32.lt_iff_toInt_lt, Int32.le_iff_toInt_le, ← Int32.toInt_inj, ti_l0, ti_l1, ti_l2, ti_l3, ti_l5, ti_l7, ti_l8, ti_l24, ti_l59, ti_l60, ti_l119, ti_l120, ti_lm1, ti_lm2] at c_1); (try simp only [Int32.lt_iff_toInt_lt, Int32.le_iff_toInt_le, ← Int32.toInt_inj, ti_l0, ti_l1, ti_l2, ti_l3, ti_l5, ti_l7, ti_l8, ti_l24, ti_l59, ti_l60, ti_l119, ti_l120, ti_lm1, ti_lm2] at c_6); (try simp only [Int32.lt_iff_toInt_lt, Int32.le_iff_toInt_le, ← Int32.toInt_inj, ti_l0, ti_l1, ti_l2, ti_l3, ti_l5, ti_l7, ti_l8, ti_l24, ti_l59, ti_l60, ti_l119, ti_l120, ti_lm1, ti_lm2]); (repeat' split) <;> first | rfl | omega) dX9_tried_19
    · refine lv_aload_n hx hb dX9_tried_9 rfl (lv_at hl 0 rfl) ?_
      refine lv_iload_n hx hb dX9_tried_10 rfl (lv_at hl 3 rfl) ?_
      refine lv_iconst (v := 0) hx hb dX9_tried_11 (by decide) ?_
      refine ti_callVi (ci := 9) (av := [.int z3, .int 0]) C hw (k_X9_isAhead l D A cy hJ _ hF z3 0) ⟨ml_X9_247, ym_X9_isAhead, yv_X9_isAhead, yi_X9_isAhead, yc_X9_isAhead⟩ yd_X9_isAhead ob_0 (by decide) rfl rfl hl.1 (Nat.le_of_ble_eq_true rfl) ⟨by decide, by decide⟩ ⟨Nat.zero_le _, Nat.zero_le _⟩ dX9_tried_12 (fun r_1 M_2 H locs hp_2 hw => ?_)
      obtain ⟨hm, hz⟩ := hp_2
      have hw := hw.to hm
      rcases hz with ⟨rfl, g_3, g_4⟩ | ⟨rfl, g_5⟩
      · refine lv_if_ne (tgt := 20) hx hb dX9_tried_15 (by decide) (fun c_15 => ?_) (fun c => absurd c (by decide))
        refine lv_iload_n hx hb dX9_tried_20 rfl (lv_at hl 1 rfl) ?_
        refine lv_iconst (v := 2) hx hb dX9_tried_21 (by decide) ?_
        refine lv_icmp_ne (tgt := 36) hx hb dX9_tried_22 (by decide) (fun c_22 => ?_) (fun c_22 => ?_)
        · refine lv_iload_n hx hb dX9_tried_36 rfl (lv_at hl 2 rfl) ?_
          refine lv_if_eq (tgt := 42) hx hb dX9_tried_37 (by decide) (fun c_37 => ?_) (fun c_37 => ?_)
          · refine lv_aload_n hx hb dX9_tried_42 rfl (lv_at hl 0 rfl) ?_
            refine ti_get (ci := 9) (k := 9) (N := 10) (T := TX9) (v := .ref (A 53 0)) C hw iw_9 rfl ob_0 (by decide) (by decide) fl_X9_61 rfl rfl dX9_tried_43 ?_
            refine lv_aload_n hx hb dX9_tried_46 rfl (lv_at hl 0 rfl) ?_
            refine ti_get (ci := 9) (k := 3) (N := 10) (T := TX9) (v := .ref (A 27 0)) C hw iw_9 rfl ob_0 (by decide) (by decide) fl_X9_29 rfl rfl dX9_tried_47 ?_
            refine lv_iload_n hx hb dX9_tried_50 rfl (lv_at hl 1 rfl) ?_
            refine lv_iload_n hx hb dX9_tried_51 rfl (lv_at hl 2 rfl) ?_
            refine lv_iload_n hx hb dX9_tried_52 rfl (lv_at hl 3 rfl) ?_
            refine ti_callVi (ci := 0) (av := [.ref (A 27 0), .int z, .int z2, .int z3]) C hw (k_X0_servedOtherwise l D A cy hJ _ hF z z2 z3 c_22) ⟨ml_X9_290, ym_X0_servedOtherwise, yv_X0_servedOtherwise, yi_X0_servedOtherwise, yc_X0_servedOtherwise⟩ yd_X0_servedOtherwise ob_53 (by decide) rfl rfl hl.1 (Nat.le_of_ble_eq_true rfl) ⟨by decide, by decide⟩ ⟨Nat.zero_le _, Nat.zero_le _⟩ dX9_tried_53 (fun r_6 M_7 H locs hp_7 hw => ?_)
            obtain rfl := hp_7
            exact hQ _ _ _ _ _ _ hw rfl (by unfold pf_tried; (try simp only [Int32.lt_iff_toInt_lt, Int32.le_iff_toInt_le, ← Int32.toInt_inj, ti_l0, ti_l1, ti_l2, ti_l3, ti_l5, ti_l7, ti_l8, ti_l24, ti_l59, ti_l60, ti_l119, ti_l120, ti_lm1, ti_lm2] at c_1); (try simp only [Int32.lt_iff_toInt_lt, Int32.le_iff_toInt_le, ← Int32.toInt_inj, ti_l0, ti_l1, ti_l2, ti_l3, ti_l5, ti_l7, ti_l8, ti_l24, ti_l59, ti_l60, ti_l119, ti_l120, ti_lm1, ti_lm2] at c_6); (try simp only [Int32.lt_iff_toInt_lt, Int32.le_iff_toInt_le, ← Int32.toInt_inj, ti_l0, ti_l1, ti_l2, ti_l3, ti_l5, ti_l7, ti_l8, ti_l24, ti_l59, ti_l60, ti_l119, ti_l120, ti_lm1, ti_lm2] at g_3); (try simp only [Int32.lt_iff_toInt_lt, Int32.le_iff_toInt_le, ← Int32.toInt_inj, ti_l0, ti_l1, ti_l2, ti_l3, ti_l5, ti_l7, ti_l8, ti_l24, ti_l59, ti_l60, ti_l119, ti_l120, ti_lm1, ti_lm2] at g_4); (try simp only [Int32.lt_iff_toInt_lt, Int32.le_iff_toInt_le, ← Int32.toInt_inj, ti_l0, ti_l1, ti_l2, ti_l3, ti_l5, ti_l7, ti_l8, ti_l24, ti_l59, ti_l60, ti_l119, ti_l120, ti_lm1, ti_lm2] at c_15); (try simp only [Int32.lt_iff_toInt_lt, Int32.le_iff_toInt_le, ← Int32.toInt_inj, ti_l0, ti_l1, ti_l2, ti_l3, ti_l5, ti_l7, ti_l8, ti_l24, ti_l59, ti_l60, ti_l119, ti_l120, ti_lm1, ti_lm2] at c_22); (try simp only [Int32.lt_iff_toInt_lt, Int32.le_iff_toInt_le, ← Int32.toInt_inj, ti_l0, ti_l1, ti_l2, ti_l3, ti_l5, ti_l7, ti_l8, ti_l24, ti_l59, ti_l60, ti_l119, ti_l120, ti_lm1, ti_lm2] at c_37); (try simp only [Int32.lt_iff_toInt_lt, Int32.le_iff_toInt_le, ← Int32.toInt_inj, ti_l0, ti_l1, ti_l2, ti_l3, ti_l5, ti_l7, ti_l8, ti_l24, ti_l59, ti_l60, ti_l119, ti_l120, ti_lm1, ti_lm2]); (repeat' split) <;> first | rfl | omega) dX9_tried_56
          · refine lv_iconst (v := (-1)) hx hb dX9_tried_40 (by decide) ?_
            exact hQ _ _ _ _ _ _ hw rfl (by unfold pf_tried; (try simp only [Int32.lt_iff_toInt_lt, Int32.le_iff_toInt_le, ← Int32.toInt_inj, ti_l0, ti_l1, ti_l2, ti_l3, ti_l5, ti_l7, ti_l8, ti_l24, ti_l59, ti_l60, ti_l119, ti_l120, ti_lm1, ti_lm2] at c_1); (try simp only [Int32.lt_iff_toInt_lt, Int32.le_iff_toInt_le, ← Int32.toInt_inj, ti_l0, ti_l1, ti_l2, ti_l3, ti_l5, ti_l7, ti_l8, ti_l24, ti_l59, ti_l60, ti_l119, ti_l120, ti_lm1, ti_lm2] at c_6); (try simp only [Int32.lt_iff_toInt_lt, Int32.le_iff_toInt_le, ← Int32.toInt_inj, ti_l0, ti_l1, ti_l2, ti_l3, ti_l5, ti_l7, ti_l8, ti_l24, ti_l59, ti_l60, ti_l119, ti_l120, ti_lm1, ti_lm2] at g_3); (try simp only [Int32.lt_iff_toInt_lt, Int32.le_iff_toInt_le, ← Int32.toInt_inj, ti_l0, ti_l1, ti_l2, ti_l3, ti_l5, ti_l7, ti_l8, ti_l24, ti_l59, ti_l60, ti_l119, ti_l120, ti_lm1, ti_lm2] at g_4); (try simp only [Int32.lt_iff_toInt_lt, Int32.le_iff_toInt_le, ← Int32.toInt_inj, ti_l0, ti_l1, ti_l2, ti_l3, ti_l5, ti_l7, ti_l8, ti_l24, ti_l59, ti_l60, ti_l119, ti_l120, ti_lm1, ti_lm2] at c_15); (try simp only [Int32.lt_iff_toInt_lt, Int32.le_iff_toInt_le, ← Int32.toInt_inj, ti_l0, ti_l1, ti_l2, ti_l3, ti_l5, ti_l7, ti_l8, ti_l24, ti_l59, ti_l60, ti_l119, ti_l120, ti_lm1, ti_lm2] at c_22); (try simp only [Int32.lt_iff_toInt_lt, Int32.le_iff_toInt_le, ← Int32.toInt_inj, ti_l0, ti_l1, ti_l2, ti_l3, ti_l5, ti_l7, ti_l8, ti_l24, ti_l59, ti_l60, ti_l119, ti_l120, ti_lm1, ti_lm2] at c_37); (try simp only [Int32.lt_iff_toInt_lt, Int32.le_iff_toInt_le, ← Int32.toInt_inj, ti_l0, ti_l1, ti_l2, ti_l3, ti_l5, ti_l7, ti_l8, ti_l24, ti_l59, ti_l60, ti_l119, ti_l120, ti_lm1, ti_lm2]); (repeat' split) <;> first | rfl | omega) dX9_tried_41
        · refine lv_aload_n hx hb dX9_tried_25 rfl (lv_at hl 0 rfl) ?_
          refine lv_iload_n hx hb dX9_tried_26 rfl (lv_at hl 2 rfl) ?_
          refine ti_callVi (ci := 9) (av := [.int z2]) C hw (k_X9_isMan l D A cy hJ _ hF z2) ⟨ml_X9_104, ym_X9_isMan, yv_X9_isMan, yi_X9_isMan, yc_X9_isMan⟩ yd_X9_isMan ob_0 (by decide) rfl rfl hl.1 (Nat.le_of_ble_eq_true rfl) ⟨by decide, by decide⟩ ⟨Nat.zero_le _, Nat.zero_le _⟩ dX9_tried_27 (fun r_8 M_9 H locs hp_9 hw => ?_)
          obtain ⟨hm, rfl⟩ := hp_9
          have hw := hw.to hm
          refine lv_if_ne (tgt := 42) hx hb dX9_tried_30 (by decide) (fun c => absurd (by decide) c) (fun c_30 => ?_)
          refine lv_goto (tgt := 40) hx hb dX9_tried_33 (by decide) ?_
          refine lv_iconst (v := (-1)) hx hb dX9_tried_40 (by decide) ?_
          exact hQ _ _ _ _ _ _ hw rfl (by unfold pf_tried; (try simp only [Int32.lt_iff_toInt_lt, Int32.le_iff_toInt_le, ← Int32.toInt_inj, ti_l0, ti_l1, ti_l2, ti_l3, ti_l5, ti_l7, ti_l8, ti_l24, ti_l59, ti_l60, ti_l119, ti_l120, ti_lm1, ti_lm2] at c_1); (try simp only [Int32.lt_iff_toInt_lt, Int32.le_iff_toInt_le, ← Int32.toInt_inj, ti_l0, ti_l1, ti_l2, ti_l3, ti_l5, ti_l7, ti_l8, ti_l24, ti_l59, ti_l60, ti_l119, ti_l120, ti_lm1, ti_lm2] at c_6); (try simp only [Int32.lt_iff_toInt_lt, Int32.le_iff_toInt_le, ← Int32.toInt_inj, ti_l0, ti_l1, ti_l2, ti_l3, ti_l5, ti_l7, ti_l8, ti_l24, ti_l59, ti_l60, ti_l119, ti_l120, ti_lm1, ti_lm2] at g_3); (try simp only [Int32.lt_iff_toInt_lt, Int32.le_iff_toInt_le, ← Int32.toInt_inj, ti_l0, ti_l1, ti_l2, ti_l3, ti_l5, ti_l7, ti_l8, ti_l24, ti_l59, ti_l60, ti_l119, ti_l120, ti_lm1, ti_lm2] at g_4); (try simp only [Int32.lt_iff_toInt_lt, Int32.le_iff_toInt_le, ← Int32.toInt_inj, ti_l0, ti_l1, ti_l2, ti_l3, ti_l5, ti_l7, ti_l8, ti_l24, ti_l59, ti_l60, ti_l119, ti_l120, ti_lm1, ti_lm2] at c_15); (try simp only [Int32.lt_iff_toInt_lt, Int32.le_iff_toInt_le, ← Int32.toInt_inj, ti_l0, ti_l1, ti_l2, ti_l3, ti_l5, ti_l7, ti_l8, ti_l24, ti_l59, ti_l60, ti_l119, ti_l120, ti_lm1, ti_lm2] at c_22); (try simp only [Int32.lt_iff_toInt_lt, Int32.le_iff_toInt_le, ← Int32.toInt_inj, ti_l0, ti_l1, ti_l2, ti_l3, ti_l5, ti_l7, ti_l8, ti_l24, ti_l59, ti_l60, ti_l119, ti_l120, ti_lm1, ti_lm2] at c_30); (try simp only [Int32.lt_iff_toInt_lt, Int32.le_iff_toInt_le, ← Int32.toInt_inj, ti_l0, ti_l1, ti_l2, ti_l3, ti_l5, ti_l7, ti_l8, ti_l24, ti_l59, ti_l60, ti_l119, ti_l120, ti_lm1, ti_lm2]); (repeat' split) <;> first | rfl | omega) dX9_tried_41
      · refine lv_if_ne (tgt := 20) hx hb dX9_tried_15 (by decide) (fun c => absurd (by decide) c) (fun c_15 => ?_)
        refine lv_iconst (v := (-1)) hx hb dX9_tried_18 (by decide) ?_
        exact hQ _ _ _ _ _ _ hw rfl (by unfold pf_tried; (try simp only [Int32.lt_iff_toInt_lt, Int32.le_iff_toInt_le, ← Int32.toInt_inj, ti_l0, ti_l1, ti_l2, ti_l3, ti_l5, ti_l7, ti_l8, ti_l24, ti_l59, ti_l60, ti_l119, ti_l120, ti_lm1, ti_lm2] at c_1); (try simp only [Int32.lt_iff_toInt_lt, Int32.le_iff_toInt_le, ← Int32.toInt_inj, ti_l0, ti_l1, ti_l2, ti_l3, ti_l5, ti_l7, ti_l8, ti_l24, ti_l59, ti_l60, ti_l119, ti_l120, ti_lm1, ti_lm2] at c_6); (try simp only [Int32.lt_iff_toInt_lt, Int32.le_iff_toInt_le, ← Int32.toInt_inj, ti_l0, ti_l1, ti_l2, ti_l3, ti_l5, ti_l7, ti_l8, ti_l24, ti_l59, ti_l60, ti_l119, ti_l120, ti_lm1, ti_lm2] at g_5); (try simp only [Int32.lt_iff_toInt_lt, Int32.le_iff_toInt_le, ← Int32.toInt_inj, ti_l0, ti_l1, ti_l2, ti_l3, ti_l5, ti_l7, ti_l8, ti_l24, ti_l59, ti_l60, ti_l119, ti_l120, ti_lm1, ti_lm2] at c_15); (try simp only [Int32.lt_iff_toInt_lt, Int32.le_iff_toInt_le, ← Int32.toInt_inj, ti_l0, ti_l1, ti_l2, ti_l3, ti_l5, ti_l7, ti_l8, ti_l24, ti_l59, ti_l60, ti_l119, ti_l120, ti_lm1, ti_lm2]); (repeat' split) <;> first | rfl | omega) dX9_tried_19
set_option maxHeartbeats 4000000 in
set_option maxRecDepth 100000 in
theorem k_X9_undo (l : Launch) (D : va_G) (A : Nat → Nat → Nat) (cy : Nat → ClassId) (hJ : ti_inj ti_LT A) (M : ti_M) (hF : ti_F M)  : ti_Ki l yX9_undo cX9_undo 1 (some .int) 1 ti_LT D A cy M [.ref (A 0 0)] (fun r _ => r = (-1)) := by
  refine ti_eI yp_X9_undo hJ ti_LT_nd (Nat.le_of_ble_eq_true rfl) ?_
  intro p e s m args below meth c Q H0 C hQ hw ls hl
  have hx := C.1
  have hb := C.2.1
  have hl : lv_has ls 1 [(0, .ref (A 0 0))] := hl
  obtain ⟨f_told, f_spare, f_nt, f_many, f_fault, f_place, f_men, f_knots, f_mut, f_man, f_min, f_size, f_water, f_first, f_steps, f_img, f_sm, f_sk, f_ss, f_sw, f_p0, f_p1, f_p2⟩ := id hF
  refine lv_aload_n hx hb dX9_undo_0 rfl (lv_at hl 0 rfl) ?_
  refine ti_get (ci := 9) (k := 5) (N := 10) (T := TX9) (v := .ref (A 28 0)) C hw iw_9 rfl ob_0 (by decide) (by decide) fl_X9_40 rfl rfl dX9_undo_1 ?_
  refine lv_aload_n hx hb dX9_undo_4 rfl (lv_at hl 0 rfl) ?_
  refine ti_get (ci := 9) (k := 3) (N := 10) (T := TX9) (v := .ref (A 27 0)) C hw iw_9 rfl ob_0 (by decide) (by decide) fl_X9_29 rfl rfl dX9_undo_5 ?_
  refine ti_callVi (ci := 5) (av := [.ref (A 27 0)]) C hw (k_X5_takeBack l D A cy hJ _ f_steps) ⟨ml_X9_293, ym_X5_takeBack, yv_X5_takeBack, yi_X5_takeBack, yc_X5_takeBack⟩ yd_X5_takeBack ob_28 (by decide) rfl rfl hl.1 (Nat.le_of_ble_eq_true rfl) ⟨by decide, by decide⟩ ⟨Nat.zero_le _, Nat.zero_le _⟩ dX9_undo_8 (fun r_1 M_2 H locs hp_2 hw => ?_)
  obtain ⟨hm, rfl⟩ := hp_2
  have hw := hw.to hm
  refine lv_if_eq (tgt := 24) hx hb dX9_undo_11 (by decide) (fun c_11 => ?_) (fun c => absurd (by decide) c)
  refine lv_iconst (v := (-1)) hx hb dX9_undo_24 (by decide) ?_
  exact hQ _ _ _ _ _ _ hw rfl rfl dX9_undo_25
set_option maxHeartbeats 4000000 in
set_option maxRecDepth 100000 in
theorem k_X9_keep (l : Launch) (D : va_G) (A : Nat → Nat → Nat) (cy : Nat → ClassId) (hJ : ti_inj ti_LT A) (M : ti_M) (hF : ti_F M)  : ti_Ki l yX9_keep cX9_keep 1 (some .int) 2 ti_LT D A cy M [.ref (A 0 0)] (fun r _ => r = 0) := by
  refine ti_eI yp_X9_keep hJ ti_LT_nd (Nat.le_of_ble_eq_true rfl) ?_
  intro p e s m args below meth c Q H0 C hQ hw ls hl
  have hx := C.1
  have hb := C.2.1
  have hl : lv_has ls 1 [(0, .ref (A 0 0))] := hl
  obtain ⟨f_told, f_spare, f_nt, f_many, f_fault, f_place, f_men, f_knots, f_mut, f_man, f_min, f_size, f_water, f_first, f_steps, f_img, f_sm, f_sk, f_ss, f_sw, f_p0, f_p1, f_p2⟩ := id hF
  refine lv_aload_n hx hb dX9_keep_0 rfl (lv_at hl 0 rfl) ?_
  refine ti_get (ci := 9) (k := 6) (N := 10) (T := TX9) (v := .ref (A 49 0)) C hw iw_9 rfl ob_0 (by decide) (by decide) fl_X9_44 rfl rfl dX9_keep_1 ?_
  refine lv_aload_n hx hb dX9_keep_4 rfl (lv_at hl 0 rfl) ?_
  refine ti_get (ci := 9) (k := 3) (N := 10) (T := TX9) (v := .ref (A 27 0)) C hw iw_9 rfl ob_0 (by decide) (by decide) fl_X9_29 rfl rfl dX9_keep_5 ?_
  refine ti_callVv (ci := 3) (av := [.ref (A 27 0)]) C hw (k_X3_copy l D A cy hJ _ 49 27 3 ob_49 ob_27 f_nt (by decide)) ⟨ml_X9_298, ym_X3_copy, yv_X3_copy, yi_X3_copy, yc_X3_copy⟩ yd_X3_copy ob_49 (by decide) rfl rfl hl.1 (Nat.le_of_ble_eq_true rfl) ⟨by decide, by decide⟩ ⟨Nat.zero_le _, Nat.zero_le _⟩ dX9_keep_8 (fun M_2 H locs hp_2 hw => ?_)
  obtain ⟨h1_2, h2_2, h3_2, h4_2, h5_2, h0_2, hI_2, hTT_2, hY_2⟩ := hp_2
  refine lv_aload_n hx hb dX9_keep_11 rfl (lv_at hl 0 rfl) ?_
  refine lv_iconst (v := 1) hx hb dX9_keep_12 (by decide) ?_
  refine ti_putI (ci := 9) (k := 7) (N := 10) (T := TX9) C hw iw_9 tyX9 tyX9_ok nmX9 rfl ob_0 (by decide) (by decide) fl_X9_47 rfl rfl rfl rfl (fn_9 A _) fs_9_7 dX9_keep_13 (fun H locs hw => ?_)
  refine lv_aload_n hx hb dX9_keep_16 rfl (lv_at hl 0 rfl) ?_
  refine ti_get (ci := 9) (k := 3) (N := 10) (T := TX9) (v := .ref (A 27 0)) C hw iw_9 rfl ob_0 (by decide) (by decide) fl_X9_29 rfl rfl dX9_keep_17 ?_
  refine ti_get (ci := 3) (k := 2) (N := 17) (T := TX3) C hw iw_3 rfl ob_27 (by decide) (by decide) fl_X9_186 rfl rfl dX9_keep_20 ?_
  refine ti_top (y := 0) ((hI_2 _ _ (by decide)).trans f_min) ?_
  exact hQ _ _ _ _ _ _ hw rfl rfl dX9_keep_23
theorem ti_pw {M : ti_M} (hF : ti_F M) (z : Int32) (h1 : ¬ z < 0) (h2 : ¬ 3 ≤ z) : vp_in z 3 ∧ tY M 27 7 z.toNatClampNeg = z := by
  obtain ⟨f_told, f_spare, f_nt, f_many, f_fault, f_place, f_men, f_knots, f_mut, f_man, f_min, f_size, f_water, f_first, f_steps, f_img, f_sm, f_sk, f_ss, f_sw, f_p0, f_p1, f_p2⟩ := hF
  have hv : vp_in z 3 := by rw [vp_in_iff]; rw [Int32.lt_iff_toInt_lt, ti_l0] at h1; rw [Int32.le_iff_toInt_le, ti_l3] at h2; omega
  obtain ⟨j, hj, rfl⟩ := vp_in_of hv (by decide)
  refine ⟨hv, ?_⟩
  rw [nI_clamp (by omega)]
  match j, hj with
  | 0, _ => exact f_p0
  | 1, _ => exact f_p1
  | 2, _ => exact f_p2
  | j + 3, h => omega
set_option maxHeartbeats 4000000 in
set_option maxRecDepth 100000 in
theorem k_X9_move (l : Launch) (D : va_G) (A : Nat → Nat → Nat) (cy : Nat → ClassId) (hJ : ti_inj ti_LT A) (M : ti_M) (hF : ti_F M) (z : Int32) (z2 : Int32) : ti_Ki l yX9_move cX9_move 3 (some .boolean) 3 ti_LT D A cy M [.ref (A 0 0), .int z, .int z2] (fun r _ => r = pf_move z z2) := by
  refine ti_eI yp_X9_move hJ ti_LT_nd (Nat.le_of_ble_eq_true rfl) ?_
  intro p e s m args below meth c Q H0 C hQ hw ls hl
  have hx := C.1
  have hb := C.2.1
  have hl : lv_has ls 3 [(0, .ref (A 0 0)), (1, .int z), (2, .int z2)] := hl
  obtain ⟨f_told, f_spare, f_nt, f_many, f_fault, f_place, f_men, f_knots, f_mut, f_man, f_min, f_size, f_water, f_first, f_steps, f_img, f_sm, f_sk, f_ss, f_sw, f_p0, f_p1, f_p2⟩ := id hF
  refine lv_aload_n hx hb dX9_move_0 rfl (lv_at hl 0 rfl) ?_
  refine lv_iload_n hx hb dX9_move_1 rfl (lv_at hl 1 rfl) ?_
  refine ti_callVi (ci := 9) (av := [.int z]) C hw (k_X9_isPower l D A cy hJ _ z) ⟨ml_X9_165, ym_X9_isPower, yv_X9_isPower, yi_X9_isPower, yc_X9_isPower⟩ yd_X9_isPower ob_0 (by decide) rfl rfl hl.1 (Nat.le_of_ble_eq_true rfl) ⟨by decide, by decide⟩ ⟨Nat.zero_le _, Nat.zero_le _⟩ dX9_move_2 (fun r_1 M_2 H locs hp_2 hw => ?_)
  obtain ⟨hm, hz⟩ := hp_2
  have hw := hw.to hm
  rcases hz with ⟨rfl, g_3, g_4⟩ | ⟨rfl, g_5⟩
  · refine lv_if_eq (tgt := 29) hx hb dX9_move_5 (by decide) (fun c => absurd c (by decide)) (fun c_5 => ?_)
    refine lv_aload_n hx hb dX9_move_8 rfl (lv_at hl 0 rfl) ?_
    refine lv_iload_n hx hb dX9_move_9 rfl (lv_at hl 2 rfl) ?_
    refine ti_callVi (ci := 9) (av := [.int z2]) C hw (k_X9_isPlace l D A cy hJ _ z2) ⟨ml_X9_159, ym_X9_isPlace, yv_X9_isPlace, yi_X9_isPlace, yc_X9_isPlace⟩ yd_X9_isPlace ob_0 (by decide) rfl rfl hl.1 (Nat.le_of_ble_eq_true rfl) ⟨by decide, by decide⟩ ⟨Nat.zero_le _, Nat.zero_le _⟩ dX9_move_10 (fun r_6 M_7 H locs hp_7 hw => ?_)
    obtain ⟨hm, hz⟩ := hp_7
    have hw := hw.to hm
    rcases hz with ⟨rfl, g_8, g_9⟩ | ⟨rfl, g_10⟩
    · refine lv_if_eq (tgt := 29) hx hb dX9_move_13 (by decide) (fun c => absurd c (by decide)) (fun c_13 => ?_)
      refine lv_aload_n hx hb dX9_move_16 rfl (lv_at hl 0 rfl) ?_
      refine ti_get (ci := 9) (k := 3) (N := 10) (T := TX9) (v := .ref (A 27 0)) C hw iw_9 rfl ob_0 (by decide) (by decide) fl_X9_29 rfl rfl dX9_move_17 ?_
      refine ti_get (ci := 3) (k := 7) (N := 17) (T := TX3) (v := .ref (A 27 8)) C hw iw_3 rfl ob_27 (by decide) (by decide) fl_X9_168 rfl rfl dX9_move_20 ?_
      refine lv_iload_n hx hb dX9_move_23 rfl (lv_at hl 1 rfl) ?_
      refine ti_iald (ci := 3) (k := 7) (n := 3) C hw ob_27 (by decide) (fun _ _ => rfl) (ti_pw hF z (by assumption) (by assumption)).1 dX9_move_24 ?_
      refine ti_top (y := z) (ti_pw hF z (by assumption) (by assumption)).2 ?_
      refine lv_iload_n hx hb dX9_move_25 rfl (lv_at hl 2 rfl) ?_
      refine lv_icmp_ne (tgt := 31) hx hb dX9_move_26 (by decide) (fun c_26 => ?_) (fun c_26 => ?_)
      · refine lv_aload_n hx hb dX9_move_31 rfl (lv_at hl 0 rfl) ?_
        refine ti_get (ci := 9) (k := 5) (N := 10) (T := TX9) (v := .ref (A 28 0)) C hw iw_9 rfl ob_0 (by decide) (by decide) fl_X9_40 rfl rfl dX9_move_32 ?_
        refine lv_aload_n hx hb dX9_move_35 rfl (lv_at hl 0 rfl) ?_
        refine ti_get (ci := 9) (k := 3) (N := 10) (T := TX9) (v := .ref (A 27 0)) C hw iw_9 rfl ob_0 (by decide) (by decide) fl_X9_29 rfl rfl dX9_move_36 ?_
        refine ti_callVv (ci := 5) (av := [.ref (A 27 0)]) C hw (k_X5_remember l D A cy hJ _ hF) ⟨ml_X9_198, ym_X5_remember, yv_X5_remember, yi_X5_remember, yc_X5_remember⟩ yd_X5_remember ob_28 (by decide) rfl rfl hl.1 (Nat.le_of_ble_eq_true rfl) ⟨by decide, by decide⟩ ⟨Nat.zero_le _, Nat.zero_le _⟩ dX9_move_39 (fun M_12 H locs hp_12 hw => ?_)
        refine lv_aload_n hx hb dX9_move_42 rfl (lv_at hl 0 rfl) ?_
        refine ti_get (ci := 9) (k := 3) (N := 10) (T := TX9) (v := .ref (A 27 0)) C hw iw_9 rfl ob_0 (by decide) (by decide) fl_X9_29 rfl rfl dX9_move_43 ?_
        refine ti_get (ci := 3) (k := 7) (N := 17) (T := TX3) (v := .ref (A 27 8)) C hw iw_3 rfl ob_27 (by decide) (by decide) fl_X9_168 rfl rfl dX9_move_46 ?_
        refine lv_iload_n hx hb dX9_move_49 rfl (lv_at hl 1 rfl) ?_
        refine lv_iload_n hx hb dX9_move_50 rfl (lv_at hl 2 rfl) ?_
        refine ti_iastG (ci := 3) (k := 7) (n := 3) C hw ob_27 (by decide) (fun _ _ => rfl) (ti_pw hF z (by assumption) (by assumption)).1 dX9_move_51 (fun H locs g_13 eg_13 hw => ?_)
        refine lv_iconst (v := 1) hx hb dX9_move_52 (by decide) ?_
        exact hQ _ _ _ _ _ _ hw rfl (by unfold pf_move; (try simp only [Int32.lt_iff_toInt_lt, Int32.le_iff_toInt_le, ← Int32.toInt_inj, ti_l0, ti_l1, ti_l2, ti_l3, ti_l5, ti_l7, ti_l8, ti_l24, ti_l59, ti_l60, ti_l119, ti_l120, ti_lm1, ti_lm2] at g_3); (try simp only [Int32.lt_iff_toInt_lt, Int32.le_iff_toInt_le, ← Int32.toInt_inj, ti_l0, ti_l1, ti_l2, ti_l3, ti_l5, ti_l7, ti_l8, ti_l24, ti_l59, ti_l60, ti_l119, ti_l120, ti_lm1, ti_lm2] at g_4); (try simp only [Int32.lt_iff_toInt_lt, Int32.le_iff_toInt_le, ← Int32.toInt_inj, ti_l0, ti_l1, ti_l2, ti_l3, ti_l5, ti_l7, ti_l8, ti_l24, ti_l59, ti_l60, ti_l119, ti_l120, ti_lm1, ti_lm2] at c_5); (try simp only [Int32.lt_iff_toInt_lt, Int32.le_iff_toInt_le, ← Int32.toInt_inj, ti_l0, ti_l1, ti_l2, ti_l3, ti_l5, ti_l7, ti_l8, ti_l24, ti_l59, ti_l60, ti_l119, ti_l120, ti_lm1, ti_lm2] at g_8); (try simp only [Int32.lt_iff_toInt_lt, Int32.le_iff_toInt_le, ← Int32.toInt_inj, ti_l0, ti_l1, ti_l2, ti_l3, ti_l5, ti_l7, ti_l8, ti_l24, ti_l59, ti_l60, ti_l119, ti_l120, ti_lm1, ti_lm2] at g_9); (try simp only [Int32.lt_iff_toInt_lt, Int32.le_iff_toInt_le, ← Int32.toInt_inj, ti_l0, ti_l1, ti_l2, ti_l3, ti_l5, ti_l7, ti_l8, ti_l24, ti_l59, ti_l60, ti_l119, ti_l120, ti_lm1, ti_lm2] at c_13); (try simp only [Int32.lt_iff_toInt_lt, Int32.le_iff_toInt_le, ← Int32.toInt_inj, ti_l0, ti_l1, ti_l2, ti_l3, ti_l5, ti_l7, ti_l8, ti_l24, ti_l59, ti_l60, ti_l119, ti_l120, ti_lm1, ti_lm2] at c_26); (try simp only [Int32.lt_iff_toInt_lt, Int32.le_iff_toInt_le, ← Int32.toInt_inj, ti_l0, ti_l1, ti_l2, ti_l3, ti_l5, ti_l7, ti_l8, ti_l24, ti_l59, ti_l60, ti_l119, ti_l120, ti_lm1, ti_lm2]); (repeat' split) <;> first | rfl | omega) dX9_move_53
      · refine lv_iconst (v := 0) hx hb dX9_move_29 (by decide) ?_
        exact hQ _ _ _ _ _ _ hw rfl (by unfold pf_move; (try simp only [Int32.lt_iff_toInt_lt, Int32.le_iff_toInt_le, ← Int32.toInt_inj, ti_l0, ti_l1, ti_l2, ti_l3, ti_l5, ti_l7, ti_l8, ti_l24, ti_l59, ti_l60, ti_l119, ti_l120, ti_lm1, ti_lm2] at g_3); (try simp only [Int32.lt_iff_toInt_lt, Int32.le_iff_toInt_le, ← Int32.toInt_inj, ti_l0, ti_l1, ti_l2, ti_l3, ti_l5, ti_l7, ti_l8, ti_l24, ti_l59, ti_l60, ti_l119, ti_l120, ti_lm1, ti_lm2] at g_4); (try simp only [Int32.lt_iff_toInt_lt, Int32.le_iff_toInt_le, ← Int32.toInt_inj, ti_l0, ti_l1, ti_l2, ti_l3, ti_l5, ti_l7, ti_l8, ti_l24, ti_l59, ti_l60, ti_l119, ti_l120, ti_lm1, ti_lm2] at c_5); (try simp only [Int32.lt_iff_toInt_lt, Int32.le_iff_toInt_le, ← Int32.toInt_inj, ti_l0, ti_l1, ti_l2, ti_l3, ti_l5, ti_l7, ti_l8, ti_l24, ti_l59, ti_l60, ti_l119, ti_l120, ti_lm1, ti_lm2] at g_8); (try simp only [Int32.lt_iff_toInt_lt, Int32.le_iff_toInt_le, ← Int32.toInt_inj, ti_l0, ti_l1, ti_l2, ti_l3, ti_l5, ti_l7, ti_l8, ti_l24, ti_l59, ti_l60, ti_l119, ti_l120, ti_lm1, ti_lm2] at g_9); (try simp only [Int32.lt_iff_toInt_lt, Int32.le_iff_toInt_le, ← Int32.toInt_inj, ti_l0, ti_l1, ti_l2, ti_l3, ti_l5, ti_l7, ti_l8, ti_l24, ti_l59, ti_l60, ti_l119, ti_l120, ti_lm1, ti_lm2] at c_13); (try simp only [Int32.lt_iff_toInt_lt, Int32.le_iff_toInt_le, ← Int32.toInt_inj, ti_l0, ti_l1, ti_l2, ti_l3, ti_l5, ti_l7, ti_l8, ti_l24, ti_l59, ti_l60, ti_l119, ti_l120, ti_lm1, ti_lm2] at c_26); (try simp only [Int32.lt_iff_toInt_lt, Int32.le_iff_toInt_le, ← Int32.toInt_inj, ti_l0, ti_l1, ti_l2, ti_l3, ti_l5, ti_l7, ti_l8, ti_l24, ti_l59, ti_l60, ti_l119, ti_l120, ti_lm1, ti_lm2]); (repeat' split) <;> first | rfl | omega) dX9_move_30
    · refine lv_if_eq (tgt := 29) hx hb dX9_move_13 (by decide) (fun c_13 => ?_) (fun c => absurd (by decide) c)
      refine lv_iconst (v := 0) hx hb dX9_move_29 (by decide) ?_
      exact hQ _ _ _ _ _ _ hw rfl (by unfold pf_move; (try simp only [Int32.lt_iff_toInt_lt, Int32.le_iff_toInt_le, ← Int32.toInt_inj, ti_l0, ti_l1, ti_l2, ti_l3, ti_l5, ti_l7, ti_l8, ti_l24, ti_l59, ti_l60, ti_l119, ti_l120, ti_lm1, ti_lm2] at g_3); (try simp only [Int32.lt_iff_toInt_lt, Int32.le_iff_toInt_le, ← Int32.toInt_inj, ti_l0, ti_l1, ti_l2, ti_l3, ti_l5, ti_l7, ti_l8, ti_l24, ti_l59, ti_l60, ti_l119, ti_l120, ti_lm1, ti_lm2] at g_4); (try simp only [Int32.lt_iff_toInt_lt, Int32.le_iff_toInt_le, ← Int32.toInt_inj, ti_l0, ti_l1, ti_l2, ti_l3, ti_l5, ti_l7, ti_l8, ti_l24, ti_l59, ti_l60, ti_l119, ti_l120, ti_lm1, ti_lm2] at c_5); (try simp only [Int32.lt_iff_toInt_lt, Int32.le_iff_toInt_le, ← Int32.toInt_inj, ti_l0, ti_l1, ti_l2, ti_l3, ti_l5, ti_l7, ti_l8, ti_l24, ti_l59, ti_l60, ti_l119, ti_l120, ti_lm1, ti_lm2] at g_10); (try simp only [Int32.lt_iff_toInt_lt, Int32.le_iff_toInt_le, ← Int32.toInt_inj, ti_l0, ti_l1, ti_l2, ti_l3, ti_l5, ti_l7, ti_l8, ti_l24, ti_l59, ti_l60, ti_l119, ti_l120, ti_lm1, ti_lm2] at c_13); (try simp only [Int32.lt_iff_toInt_lt, Int32.le_iff_toInt_le, ← Int32.toInt_inj, ti_l0, ti_l1, ti_l2, ti_l3, ti_l5, ti_l7, ti_l8, ti_l24, ti_l59, ti_l60, ti_l119, ti_l120, ti_lm1, ti_lm2]); (repeat' split) <;> first | rfl | omega) dX9_move_30
  · refine lv_if_eq (tgt := 29) hx hb dX9_move_5 (by decide) (fun c_5 => ?_) (fun c => absurd (by decide) c)
    refine lv_iconst (v := 0) hx hb dX9_move_29 (by decide) ?_
    exact hQ _ _ _ _ _ _ hw rfl (by unfold pf_move; (try simp only [Int32.lt_iff_toInt_lt, Int32.le_iff_toInt_le, ← Int32.toInt_inj, ti_l0, ti_l1, ti_l2, ti_l3, ti_l5, ti_l7, ti_l8, ti_l24, ti_l59, ti_l60, ti_l119, ti_l120, ti_lm1, ti_lm2] at g_5); (try simp only [Int32.lt_iff_toInt_lt, Int32.le_iff_toInt_le, ← Int32.toInt_inj, ti_l0, ti_l1, ti_l2, ti_l3, ti_l5, ti_l7, ti_l8, ti_l24, ti_l59, ti_l60, ti_l119, ti_l120, ti_lm1, ti_lm2] at c_5); (try simp only [Int32.lt_iff_toInt_lt, Int32.le_iff_toInt_le, ← Int32.toInt_inj, ti_l0, ti_l1, ti_l2, ti_l3, ti_l5, ti_l7, ti_l8, ti_l24, ti_l59, ti_l60, ti_l119, ti_l120, ti_lm1, ti_lm2]); (repeat' split) <;> first | rfl | omega) dX9_move_30
set_option maxHeartbeats 4000000 in
set_option maxRecDepth 100000 in
theorem k_X9_best (l : Launch) (D : va_G) (A : Nat → Nat → Nat) (cy : Nat → ClassId) (hJ : ti_inj ti_LT A) (M : ti_M) (hF : ti_F M) (z : Int32) (z2 : Int32) (z3 : Int32) (z4 : Int32) : ti_Ki l yX9_best cX9_best 5 (some .int) 2 ti_LT D A cy M [.ref (A 0 0), .int z, .int z2, .int z3, .int z4] (fun r _ => r = (-1)) := by
  refine ti_eI yp_X9_best hJ ti_LT_nd (Nat.le_of_ble_eq_true rfl) ?_
  intro p e s m args below meth c Q H0 C hQ hw ls hl
  have hx := C.1
  have hb := C.2.1
  have hl : lv_has ls 5 [(0, .ref (A 0 0)), (1, .int z), (2, .int z2), (3, .int z3), (4, .int z4)] := hl
  obtain ⟨f_told, f_spare, f_nt, f_many, f_fault, f_place, f_men, f_knots, f_mut, f_man, f_min, f_size, f_water, f_first, f_steps, f_img, f_sm, f_sk, f_ss, f_sw, f_p0, f_p1, f_p2⟩ := id hF
  refine lv_aload_n hx hb dX9_best_0 rfl (lv_at hl 0 rfl) ?_
  refine lv_iload_n hx hb dX9_best_1 rfl (lv_at hl 1 rfl) ?_
  refine ti_callVi (ci := 9) (av := [.int z]) C hw (k_X9_isPower l D A cy hJ _ z) ⟨ml_X9_165, ym_X9_isPower, yv_X9_isPower, yi_X9_isPower, yc_X9_isPower⟩ yd_X9_isPower ob_0 (by decide) rfl rfl hl.1 (Nat.le_of_ble_eq_true rfl) ⟨by decide, by decide⟩ ⟨Nat.zero_le _, Nat.zero_le _⟩ dX9_best_2 (fun r_1 M_2 H locs hp_2 hw => ?_)
  obtain ⟨hm, hz⟩ := hp_2
  have hw := hw.to hm
  rcases hz with ⟨rfl, g_3, g_4⟩ | ⟨rfl, g_5⟩
  · refine lv_if_eq (tgt := 34) hx hb dX9_best_5 (by decide) (fun c => absurd c (by decide)) (fun c_5 => ?_)
    refine lv_aload_n hx hb dX9_best_8 rfl (lv_at hl 0 rfl) ?_
    refine lv_iload_n hx hb dX9_best_9 rfl (lv_at hl 2 rfl) ?_
    refine ti_callVi (ci := 9) (av := [.int z2]) C hw (k_X9_isMan l D A cy hJ _ hF z2) ⟨ml_X9_104, ym_X9_isMan, yv_X9_isMan, yi_X9_isMan, yc_X9_isMan⟩ yd_X9_isMan ob_0 (by decide) rfl rfl hl.1 (Nat.le_of_ble_eq_true rfl) ⟨by decide, by decide⟩ ⟨Nat.zero_le _, Nat.zero_le _⟩ dX9_best_10 (fun r_6 M_7 H locs hp_7 hw => ?_)
    obtain ⟨hm, rfl⟩ := hp_7
    have hw := hw.to hm
    refine lv_if_eq (tgt := 34) hx hb dX9_best_13 (by decide) (fun c_13 => ?_) (fun c => absurd (by decide) c)
    refine lv_iconst (v := (-1)) hx hb dX9_best_34 (by decide) ?_
    exact hQ _ _ _ _ _ _ hw rfl rfl dX9_best_35
  · refine lv_if_eq (tgt := 34) hx hb dX9_best_5 (by decide) (fun c_5 => ?_) (fun c => absurd (by decide) c)
    refine lv_iconst (v := (-1)) hx hb dX9_best_34 (by decide) ?_
    exact hQ _ _ _ _ _ _ hw rfl rfl dX9_best_35

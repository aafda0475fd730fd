set_option maxHeartbeats 4000000 in
set_option maxRecDepth 100000 in
theorem k_put_0 (l : Launch) (D : va_G) (A : Nat → Nat → Nat) (cy : Nat → ClassId) (hJ : ti_inj ti_LT A) (M : ti_M) (z : Int32) (h1 : tI M 2 1 = 0) : ti_Kv l yX7_put cX7_put 3 0 ti_LT D A cy M [.ref (A 2 0), .int z] (fun M2 => tI M2 2 1 = 4) := by
  refine ti_eV yp_X7_put hJ ti_LT_nd (Nat.le_of_ble_eq_true rfl) ?_
  intro p e s m args below meth c Q H0 C hQ hw ls hl
  have hx := C.1
  have hb := C.2.1
  have hl : lv_has ls 3 [(0, .ref (A 2 0)), (1, .int z)] := hl
  refine lv_bipush (v := 24) hx hb dX7_put_0 (by decide) ?_
  refine lv_istore_n (lv' := [(2, .int 24), (0, .ref (A 2 0)), (1, .int z)]) hx hb dX7_put_2 rfl hl (by decide) rfl (fun ls hl => ?_)
  refine lv_iload_n hx hb dX7_put_3 rfl (lv_at hl 0 rfl) ?_
  refine lv_if_lt (tgt := 46) hx hb dX7_put_4 (by decide) (fun c => absurd c (by decide)) (fun c_4 => ?_)
  refine lv_aload_n hx hb dX7_put_7 rfl (lv_at hl 1 rfl) ?_
  refine ti_get (ci := 7) (k := 1) (N := 7) (T := TX7) C hw iw_7 rfl ob_2 (by decide) (by decide) fl_X7_15 rfl rfl dX7_put_8 ?_
  refine ti_top (y := 0) h1 ?_
  refine lv_sipush (v := 700) hx hb dX7_put_11 (by decide) ?_
  refine lv_icmp_ge (tgt := 40) hx hb dX7_put_14 (by decide) (fun c => absurd c (by decide)) (fun c_14 => ?_)
  refine lv_aload_n hx hb dX7_put_17 rfl (lv_at hl 1 rfl) ?_
  refine ti_get (ci := 7) (k := 0) (N := 7) (T := TX7) (v := .ref (A 2 1)) C hw iw_7 rfl ob_2 (by decide) (by decide) fl_X7_9 rfl rfl dX7_put_18 ?_
  refine lv_aload_n hx hb dX7_put_21 rfl (lv_at hl 1 rfl) ?_
  refine ti_get (ci := 7) (k := 1) (N := 7) (T := TX7) C hw iw_7 rfl ob_2 (by decide) (by decide) fl_X7_15 rfl rfl dX7_put_22 ?_
  refine ti_top (y := 0) h1 ?_
  refine lv_iload_n hx hb dX7_put_25 rfl (lv_at hl 2 rfl) ?_
  refine lv_iload_n hx hb dX7_put_26 rfl (lv_at hl 0 rfl) ?_
  refine lv_ishr hx hb dX7_put_27 ?_
  refine lv_topi (fun x_1 ex_1 => ?_)
  refine lv_i2b hx hb dX7_put_28 rfl ?_
  refine lv_topi (fun x_2 ex_2 => ?_)
  refine ti_bastG (ci := 7) (k := 0) (n := 700) C hw ob_2 (by decide) (fun _ _ => rfl) (by unfold vp_in; decide) dX7_put_29 (fun H locs g_3 eg_3 hw => ?_)
  refine lv_aload_n hx hb dX7_put_30 rfl (lv_at hl 1 rfl) ?_
  refine lv_dup hx hb dX7_put_31 rfl ?_
  refine ti_get (ci := 7) (k := 1) (N := 7) (T := TX7) C hw iw_7 rfl ob_2 (by decide) (by decide) fl_X7_15 rfl rfl dX7_put_32 ?_
  refine ti_top (y := 0) h1 ?_
  refine lv_iconst (v := 1) hx hb dX7_put_35 (by decide) ?_
  refine lv_iadd hx hb dX7_put_36 ?_
  refine ti_top (y := 1) (by decide) ?_
  refine ti_putI (ci := 7) (k := 1) (N := 7) (T := TX7) C hw iw_7 tyX7 tyX7_ok nmX7 rfl ob_2 (by decide) (by decide) fl_X7_15 rfl rfl rfl rfl (fn_7 A _) fs_7_1 dX7_put_37 (fun H locs hw => ?_)
  refine lv_iinc (v := 16) (lv' := [(2, .int 16), (0, .ref (A 2 0)), (1, .int z)]) hx hb dX7_put_40 hl (k := 0) rfl (by decide) (by decide) rfl (fun ls hl => ?_)
  refine lv_goto (tgt := 3) hx hb dX7_put_43 (by decide) ?_
  refine lv_iload_n hx hb dX7_put_3 rfl (lv_at hl 0 rfl) ?_
  refine lv_if_lt (tgt := 46) hx hb dX7_put_4 (by decide) (fun c => absurd c (by decide)) (fun c_4 => ?_)
  refine lv_aload_n hx hb dX7_put_7 rfl (lv_at hl 1 rfl) ?_
  refine ti_get (ci := 7) (k := 1) (N := 7) (T := TX7) C hw iw_7 rfl ob_2 (by decide) (by decide) fl_X7_15 rfl rfl dX7_put_8 ?_
  refine ti_top (y := 1) (show tI (uI (uY M 2 0 g_3) 2 1 1) 2 1 = _ from tI_u _ _ _ _) ?_
  refine lv_sipush (v := 700) hx hb dX7_put_11 (by decide) ?_
  refine lv_icmp_ge (tgt := 40) hx hb dX7_put_14 (by decide) (fun c => absurd c (by decide)) (fun c_14 => ?_)
  refine lv_aload_n hx hb dX7_put_17 rfl (lv_at hl 1 rfl) ?_
  refine ti_get (ci := 7) (k := 0) (N := 7) (T := TX7) (v := .ref (A 2 1)) C hw iw_7 rfl ob_2 (by decide) (by decide) fl_X7_9 rfl rfl dX7_put_18 ?_
  refine lv_aload_n hx hb dX7_put_21 rfl (lv_at hl 1 rfl) ?_
  refine ti_get (ci := 7) (k := 1) (N := 7) (T := TX7) C hw iw_7 rfl ob_2 (by decide) (by decide) fl_X7_15 rfl rfl dX7_put_22 ?_
  refine ti_top (y := 1) (show tI (uI (uY M 2 0 g_3) 2 1 1) 2 1 = _ from tI_u _ _ _ _) ?_
  refine lv_iload_n hx hb dX7_put_25 rfl (lv_at hl 2 rfl) ?_
  refine lv_iload_n hx hb dX7_put_26 rfl (lv_at hl 0 rfl) ?_
  refine lv_ishr hx hb dX7_put_27 ?_
  refine lv_topi (fun x_4 ex_4 => ?_)
  refine lv_i2b hx hb dX7_put_28 rfl ?_
  refine lv_topi (fun x_5 ex_5 => ?_)
  refine ti_bastG (ci := 7) (k := 0) (n := 700) C hw ob_2 (by decide) (fun _ _ => rfl) (by unfold vp_in; decide) dX7_put_29 (fun H locs g_6 eg_6 hw => ?_)
  refine lv_aload_n hx hb dX7_put_30 rfl (lv_at hl 1 rfl) ?_
  refine lv_dup hx hb dX7_put_31 rfl ?_
  refine ti_get (ci := 7) (k := 1) (N := 7) (T := TX7) C hw iw_7 rfl ob_2 (by decide) (by decide) fl_X7_15 rfl rfl dX7_put_32 ?_
  refine ti_top (y := 1) (show tI (uI (uY M 2 0 g_3) 2 1 1) 2 1 = _ from tI_u _ _ _ _) ?_
  refine lv_iconst (v := 1) hx hb dX7_put_35 (by decide) ?_
  refine lv_iadd hx hb dX7_put_36 ?_
  refine ti_top (y := 2) (by decide) ?_
  refine ti_putI (ci := 7) (k := 1) (N := 7) (T := TX7) C hw iw_7 tyX7 tyX7_ok nmX7 rfl ob_2 (by decide) (by decide) fl_X7_15 rfl rfl rfl rfl (fn_7 A _) fs_7_1 dX7_put_37 (fun H locs hw => ?_)
  refine lv_iinc (v := 8) (lv' := [(2, .int 8), (0, .ref (A 2 0)), (1, .int z)]) hx hb dX7_put_40 hl (k := 0) rfl (by decide) (by decide) rfl (fun ls hl => ?_)
  refine lv_goto (tgt := 3) hx hb dX7_put_43 (by decide) ?_
  refine lv_iload_n hx hb dX7_put_3 rfl (lv_at hl 0 rfl) ?_
  refine lv_if_lt (tgt := 46) hx hb dX7_put_4 (by decide) (fun c => absurd c (by decide)) (fun c_4 => ?_)
  refine lv_aload_n hx hb dX7_put_7 rfl (lv_at hl 1 rfl) ?_
  refine ti_get (ci := 7) (k := 1) (N := 7) (T := TX7) C hw iw_7 rfl ob_2 (by decide) (by decide) fl_X7_15 rfl rfl dX7_put_8 ?_
  refine ti_top (y := 2) (show tI (uI (uY (uI (uY M 2 0 g_3) 2 1 1) 2 0 g_6) 2 1 2) 2 1 = _ from tI_u _ _ _ _) ?_
  refine lv_sipush (v := 700) hx hb dX7_put_11 (by decide) ?_
  refine lv_icmp_ge (tgt := 40) hx hb dX7_put_14 (by decide) (fun c => absurd c (by decide)) (fun c_14 => ?_)
  refine lv_aload_n hx hb dX7_put_17 rfl (lv_at hl 1 rfl) ?_
  refine ti_get (ci := 7) (k := 0) (N := 7) (T := TX7) (v := .ref (A 2 1)) C hw iw_7 rfl ob_2 (by decide) (by decide) fl_X7_9 rfl rfl dX7_put_18 ?_
  refine lv_aload_n hx hb dX7_put_21 rfl (lv_at hl 1 rfl) ?_
  refine ti_get (ci := 7) (k := 1) (N := 7) (T := TX7) C hw iw_7 rfl ob_2 (by decide) (by decide) fl_X7_15 rfl rfl dX7_put_22 ?_
  refine ti_top (y := 2) (show tI (uI (uY (uI (uY M 2 0 g_3) 2 1 1) 2 0 g_6) 2 1 2) 2 1 = _ from tI_u _ _ _ _) ?_
  refine lv_iload_n hx hb dX7_put_25 rfl (lv_at hl 2 rfl) ?_
  refine lv_iload_n hx hb dX7_put_26 rfl (lv_at hl 0 rfl) ?_
  refine lv_ishr hx hb dX7_put_27 ?_
  refine lv_topi (fun x_7 ex_7 => ?_)
  refine lv_i2b hx hb dX7_put_28 rfl ?_
  refine lv_topi (fun x_8 ex_8 => ?_)
  refine ti_bastG (ci := 7) (k := 0) (n := 700) C hw ob_2 (by decide) (fun _ _ => rfl) (by unfold vp_in; decide) dX7_put_29 (fun H locs g_9 eg_9 hw => ?_)
  refine lv_aload_n hx hb dX7_put_30 rfl (lv_at hl 1 rfl) ?_
  refine lv_dup hx hb dX7_put_31 rfl ?_
  refine ti_get (ci := 7) (k := 1) (N := 7) (T := TX7) C hw iw_7 rfl ob_2 (by decide) (by decide) fl_X7_15 rfl rfl dX7_put_32 ?_
  refine ti_top (y := 2) (show tI (uI (uY (uI (uY M 2 0 g_3) 2 1 1) 2 0 g_6) 2 1 2) 2 1 = _ from tI_u _ _ _ _) ?_
  refine lv_iconst (v := 1) hx hb dX7_put_35 (by decide) ?_
  refine lv_iadd hx hb dX7_put_36 ?_
  refine ti_top (y := 3) (by decide) ?_
  refine ti_putI (ci := 7) (k := 1) (N := 7) (T := TX7) C hw iw_7 tyX7 tyX7_ok nmX7 rfl ob_2 (by decide) (by decide) fl_X7_15 rfl rfl rfl rfl (fn_7 A _) fs_7_1 dX7_put_37 (fun H locs hw => ?_)
  refine lv_iinc (v := 0) (lv' := [(2, .int 0), (0, .ref (A 2 0)), (1, .int z)]) hx hb dX7_put_40 hl (k := 0) rfl (by decide) (by decide) rfl (fun ls hl => ?_)
  refine lv_goto (tgt := 3) hx hb dX7_put_43 (by decide) ?_
  refine lv_iload_n hx hb dX7_put_3 rfl (lv_at hl 0 rfl) ?_
  refine lv_if_lt (tgt := 46) hx hb dX7_put_4 (by decide) (fun c => absurd c (by decide)) (fun c_4 => ?_)
  refine lv_aload_n hx hb dX7_put_7 rfl (lv_at hl 1 rfl) ?_
  refine ti_get (ci := 7) (k := 1) (N := 7) (T := TX7) C hw iw_7 rfl ob_2 (by decide) (by decide) fl_X7_15 rfl rfl dX7_put_8 ?_
  refine ti_top (y := 3) (show tI (uI (uY (uI (uY (uI (uY M 2 0 g_3) 2 1 1) 2 0 g_6) 2 1 2) 2 0 g_9) 2 1 3) 2 1 = _ from tI_u _ _ _ _) ?_
  refine lv_sipush (v := 700) hx hb dX7_put_11 (by decide) ?_
  refine lv_icmp_ge (tgt := 40) hx hb dX7_put_14 (by decide) (fun c => absurd c (by decide)) (fun c_14 => ?_)
  refine lv_aload_n hx hb dX7_put_17 rfl (lv_at hl 1 rfl) ?_
  refine ti_get (ci := 7) (k := 0) (N := 7) (T := TX7) (v := .ref (A 2 1)) C hw iw_7 rfl ob_2 (by decide) (by decide) fl_X7_9 rfl rfl dX7_put_18 ?_
  refine lv_aload_n hx hb dX7_put_21 rfl (lv_at hl 1 rfl) ?_
  refine ti_get (ci := 7) (k := 1) (N := 7) (T := TX7) C hw iw_7 rfl ob_2 (by decide) (by decide) fl_X7_15 rfl rfl dX7_put_22 ?_
  refine ti_top (y := 3) (show tI (uI (uY (uI (uY (uI (uY M 2 0 g_3) 2 1 1) 2 0 g_6) 2 1 2) 2 0 g_9) 2 1 3) 2 1 = _ from tI_u _ _ _ _) ?_
  refine lv_iload_n hx hb dX7_put_25 rfl (lv_at hl 2 rfl) ?_
  refine lv_iload_n hx hb dX7_put_26 rfl (lv_at hl 0 rfl) ?_
  refine lv_ishr hx hb dX7_put_27 ?_
  refine lv_topi (fun x_10 ex_10 => ?_)
  refine lv_i2b hx hb dX7_put_28 rfl ?_
  refine lv_topi (fun x_11 ex_11 => ?_)
  refine ti_bastG (ci := 7) (k := 0) (n := 700) C hw ob_2 (by decide) (fun _ _ => rfl) (by unfold vp_in; decide) dX7_put_29 (fun H locs g_12 eg_12 hw => ?_)
  refine lv_aload_n hx hb dX7_put_30 rfl (lv_at hl 1 rfl) ?_
  refine lv_dup hx hb dX7_put_31 rfl ?_
  refine ti_get (ci := 7) (k := 1) (N := 7) (T := TX7) C hw iw_7 rfl ob_2 (by decide) (by decide) fl_X7_15 rfl rfl dX7_put_32 ?_
  refine ti_top (y := 3) (show tI (uI (uY (uI (uY (uI (uY M 2 0 g_3) 2 1 1) 2 0 g_6) 2 1 2) 2 0 g_9) 2 1 3) 2 1 = _ from tI_u _ _ _ _) ?_
  refine lv_iconst (v := 1) hx hb dX7_put_35 (by decide) ?_
  refine lv_iadd hx hb dX7_put_36 ?_
  refine ti_top (y := 4) (by decide) ?_
  refine ti_putI (ci := 7) (k := 1) (N := 7) (T := TX7) C hw iw_7 tyX7 tyX7_ok nmX7 rfl ob_2 (by decide) (by decide) fl_X7_15 rfl rfl rfl rfl (fn_7 A _) fs_7_1 dX7_put_37 (fun H locs hw => ?_)
  refine lv_iinc (v := (-8)) (lv' := [(2, .int (-8)), (0, .ref (A 2 0)), (1, .int z)]) hx hb dX7_put_40 hl (k := 0) rfl (by decide) (by decide) rfl (fun ls hl => ?_)
  refine lv_goto (tgt := 3) hx hb dX7_put_43 (by decide) ?_
  refine lv_iload_n hx hb dX7_put_3 rfl (lv_at hl 0 rfl) ?_
  refine lv_if_lt (tgt := 46) hx hb dX7_put_4 (by decide) (fun c_4 => ?_) (fun c => absurd (by decide) c)
  exact hQ _ _ _ _ _ hw (show tI (uI (uY (uI (uY (uI (uY (uI (uY M 2 0 g_3) 2 1 1) 2 0 g_6) 2 1 2) 2 0 g_9) 2 1 3) 2 0 g_12) 2 1 4) 2 1 = _ from tI_u _ _ _ _) dX7_put_46
set_option maxHeartbeats 4000000 in
set_option maxRecDepth 100000 in
theorem k_put_4 (l : Launch) (D : va_G) (A : Nat → Nat → Nat) (cy : Nat → ClassId) (hJ : ti_inj ti_LT A) (M : ti_M) (z : Int32) (h1 : tI M 2 1 = 4) : ti_Kv l yX7_put cX7_put 3 0 ti_LT D A cy M [.ref (A 2 0), .int z] (fun M2 => tI M2 2 1 = 8) := by
  refine ti_eV yp_X7_put hJ ti_LT_nd (Nat.le_of_ble_eq_true rfl) ?_
  intro p e s m args below meth c Q H0 C hQ hw ls hl
  have hx := C.1
  have hb := C.2.1
  have hl : lv_has ls 3 [(0, .ref (A 2 0)), (1, .int z)] := hl
  refine lv_bipush (v := 24) hx hb dX7_put_0 (by decide) ?_
  refine lv_istore_n (lv' := [(2, .int 24), (0, .ref (A 2 0)), (1, .int z)]) hx hb dX7_put_2 rfl hl (by decide) rfl (fun ls hl => ?_)
  refine lv_iload_n hx hb dX7_put_3 rfl (lv_at hl 0 rfl) ?_
  refine lv_if_lt (tgt := 46) hx hb dX7_put_4 (by decide) (fun c => absurd c (by decide)) (fun c_4 => ?_)
  refine lv_aload_n hx hb dX7_put_7 rfl (lv_at hl 1 rfl) ?_
  refine ti_get (ci := 7) (k := 1) (N := 7) (T := TX7) C hw iw_7 rfl ob_2 (by decide) (by decide) fl_X7_15 rfl rfl dX7_put_8 ?_
  refine ti_top (y := 4) h1 ?_
  refine lv_sipush (v := 700) hx hb dX7_put_11 (by decide) ?_
  refine lv_icmp_ge (tgt := 40) hx hb dX7_put_14 (by decide) (fun c => absurd c (by decide)) (fun c_14 => ?_)
  refine lv_aload_n hx hb dX7_put_17 rfl (lv_at hl 1 rfl) ?_
  refine ti_get (ci := 7) (k := 0) (N := 7) (T := TX7) (v := .ref (A 2 1)) C hw iw_7 rfl ob_2 (by decide) (by decide) fl_X7_9 rfl rfl dX7_put_18 ?_
  refine lv_aload_n hx hb dX7_put_21 rfl (lv_at hl 1 rfl) ?_
  refine ti_get (ci := 7) (k := 1) (N := 7) (T := TX7) C hw iw_7 rfl ob_2 (by decide) (by decide) fl_X7_15 rfl rfl dX7_put_22 ?_
  refine ti_top (y := 4) h1 ?_
  refine lv_iload_n hx hb dX7_put_25 rfl (lv_at hl 2 rfl) ?_
  refine lv_iload_n hx hb dX7_put_26 rfl (lv_at hl 0 rfl) ?_
  refine lv_ishr hx hb dX7_put_27 ?_
  refine lv_topi (fun x_1 ex_1 => ?_)
  refine lv_i2b hx hb dX7_put_28 rfl ?_
  refine lv_topi (fun x_2 ex_2 => ?_)
  refine ti_bastG (ci := 7) (k := 0) (n := 700) C hw ob_2 (by decide) (fun _ _ => rfl) (by unfold vp_in; decide) dX7_put_29 (fun H locs g_3 eg_3 hw => ?_)
  refine lv_aload_n hx hb dX7_put_30 rfl (lv_at hl 1 rfl) ?_
  refine lv_dup hx hb dX7_put_31 rfl ?_
  refine ti_get (ci := 7) (k := 1) (N := 7) (T := TX7) C hw iw_7 rfl ob_2 (by decide) (by decide) fl_X7_15 rfl rfl dX7_put_32 ?_
  refine ti_top (y := 4) h1 ?_
  refine lv_iconst (v := 1) hx hb dX7_put_35 (by decide) ?_
  refine lv_iadd hx hb dX7_put_36 ?_
  refine ti_top (y := 5) (by decide) ?_
  refine ti_putI (ci := 7) (k := 1) (N := 7) (T := TX7) C hw iw_7 tyX7 tyX7_ok nmX7 rfl ob_2 (by decide) (by decide) fl_X7_15 rfl rfl rfl rfl (fn_7 A _) fs_7_1 dX7_put_37 (fun H locs hw => ?_)
  refine lv_iinc (v := 16) (lv' := [(2, .int 16), (0, .ref (A 2 0)), (1, .int z)]) hx hb dX7_put_40 hl (k := 0) rfl (by decide) (by decide) rfl (fun ls hl => ?_)
  refine lv_goto (tgt := 3) hx hb dX7_put_43 (by decide) ?_
  refine lv_iload_n hx hb dX7_put_3 rfl (lv_at hl 0 rfl) ?_
  refine lv_if_lt (tgt := 46) hx hb dX7_put_4 (by decide) (fun c => absurd c (by decide)) (fun c_4 => ?_)
  refine lv_aload_n hx hb dX7_put_7 rfl (lv_at hl 1 rfl) ?_
  refine ti_get (ci := 7) (k := 1) (N := 7) (T := TX7) C hw iw_7 rfl ob_2 (by decide) (by decide) fl_X7_15 rfl rfl dX7_put_8 ?_
  refine ti_top (y := 5) (show tI (uI (uY M 2 0 g_3) 2 1 5) 2 1 = _ from tI_u _ _ _ _) ?_
  refine lv_sipush (v := 700) hx hb dX7_put_11 (by decide) ?_
  refine lv_icmp_ge (tgt := 40) hx hb dX7_put_14 (by decide) (fun c => absurd c (by decide)) (fun c_14 => ?_)
  refine lv_aload_n hx hb dX7_put_17 rfl (lv_at hl 1 rfl) ?_
  refine ti_get (ci := 7) (k := 0) (N := 7) (T := TX7) (v := .ref (A 2 1)) C hw iw_7 rfl ob_2 (by decide) (by decide) fl_X7_9 rfl rfl dX7_put_18 ?_
  refine lv_aload_n hx hb dX7_put_21 rfl (lv_at hl 1 rfl) ?_
  refine ti_get (ci := 7) (k := 1) (N := 7) (T := TX7) C hw iw_7 rfl ob_2 (by decide) (by decide) fl_X7_15 rfl rfl dX7_put_22 ?_
  refine ti_top (y := 5) (show tI (uI (uY M 2 0 g_3) 2 1 5) 2 1 = _ from tI_u _ _ _ _) ?_
  refine lv_iload_n hx hb dX7_put_25 rfl (lv_at hl 2 rfl) ?_
  refine lv_iload_n hx hb dX7_put_26 rfl (lv_at hl 0 rfl) ?_
  refine lv_ishr hx hb dX7_put_27 ?_
  refine lv_topi (fun x_4 ex_4 => ?_)
  refine lv_i2b hx hb dX7_put_28 rfl ?_
  refine lv_topi (fun x_5 ex_5 => ?_)
  refine ti_bastG (ci := 7) (k := 0) (n := 700) C hw ob_2 (by decide) (fun _ _ => rfl) (by unfold vp_in; decide) dX7_put_29 (fun H locs g_6 eg_6 hw => ?_)
  refine lv_aload_n hx hb dX7_put_30 rfl (lv_at hl 1 rfl) ?_
  refine lv_dup hx hb dX7_put_31 rfl ?_
  refine ti_get (ci := 7) (k := 1) (N := 7) (T := TX7) C hw iw_7 rfl ob_2 (by decide) (by decide) fl_X7_15 rfl rfl dX7_put_32 ?_
  refine ti_top (y := 5) (show tI (uI (uY M 2 0 g_3) 2 1 5) 2 1 = _ from tI_u _ _ _ _) ?_
  refine lv_iconst (v := 1) hx hb dX7_put_35 (by decide) ?_
  refine lv_iadd hx hb dX7_put_36 ?_
  refine ti_top (y := 6) (by decide) ?_
  refine ti_putI (ci := 7) (k := 1) (N := 7) (T := TX7) C hw iw_7 tyX7 tyX7_ok nmX7 rfl ob_2 (by decide) (by decide) fl_X7_15 rfl rfl rfl rfl (fn_7 A _) fs_7_1 dX7_put_37 (fun H locs hw => ?_)
  refine lv_iinc (v := 8) (lv' := [(2, .int 8), (0, .ref (A 2 0)), (1, .int z)]) hx hb dX7_put_40 hl (k := 0) rfl (by decide) (by decide) rfl (fun ls hl => ?_)
  refine lv_goto (tgt := 3) hx hb dX7_put_43 (by decide) ?_
  refine lv_iload_n hx hb dX7_put_3 rfl (lv_at hl 0 rfl) ?_
  refine lv_if_lt (tgt := 46) hx hb dX7_put_4 (by decide) (fun c => absurd c (by decide)) (fun c_4 => ?_)
  refine lv_aload_n hx hb dX7_put_7 rfl (lv_at hl 1 rfl) ?_
  refine ti_get (ci := 7) (k := 1) (N := 7) (T := TX7) C hw iw_7 rfl ob_2 (by decide) (by decide) fl_X7_15 rfl rfl dX7_put_8 ?_
  refine ti_top (y := 6) (show tI (uI (uY (uI (uY M 2 0 g_3) 2 1 5) 2 0 g_6) 2 1 6) 2 1 = _ from tI_u _ _ _ _) ?_
  refine lv_sipush (v := 700) hx hb dX7_put_11 (by decide) ?_
  refine lv_icmp_ge (tgt := 40) hx hb dX7_put_14 (by decide) (fun c => absurd c (by decide)) (fun c_14 => ?_)
  refine lv_aload_n hx hb dX7_put_17 rfl (lv_at hl 1 rfl) ?_
  refine ti_get (ci := 7) (k := 0) (N := 7) (T := TX7) (v := .ref (A 2 1)) C hw iw_7 rfl ob_2 (by decide) (by decide) fl_X7_9 rfl rfl dX7_put_18 ?_
  refine lv_aload_n hx hb dX7_put_21 rfl (lv_at hl 1 rfl) ?_
  refine ti_get (ci := 7) (k := 1) (N := 7) (T := TX7) C hw iw_7 rfl ob_2 (by decide) (by decide) fl_X7_15 rfl rfl dX7_put_22 ?_
  refine ti_top (y := 6) (show tI (uI (uY (uI (uY M 2 0 g_3) 2 1 5) 2 0 g_6) 2 1 6) 2 1 = _ from tI_u _ _ _ _) ?_
  refine lv_iload_n hx hb dX7_put_25 rfl (lv_at hl 2 rfl) ?_
  refine lv_iload_n hx hb dX7_put_26 rfl (lv_at hl 0 rfl) ?_
  refine lv_ishr hx hb dX7_put_27 ?_
  refine lv_topi (fun x_7 ex_7 => ?_)
  refine lv_i2b hx hb dX7_put_28 rfl ?_
  refine lv_topi (fun x_8 ex_8 => ?_)
  refine ti_bastG (ci := 7) (k := 0) (n := 700) C hw ob_2 (by decide) (fun _ _ => rfl) (by unfold vp_in; decide) dX7_put_29 (fun H locs g_9 eg_9 hw => ?_)
  refine lv_aload_n hx hb dX7_put_30 rfl (lv_at hl 1 rfl) ?_
  refine lv_dup hx hb dX7_put_31 rfl ?_
  refine ti_get (ci := 7) (k := 1) (N := 7) (T := TX7) C hw iw_7 rfl ob_2 (by decide) (by decide) fl_X7_15 rfl rfl dX7_put_32 ?_
  refine ti_top (y := 6) (show tI (uI (uY (uI (uY M 2 0 g_3) 2 1 5) 2 0 g_6) 2 1 6) 2 1 = _ from tI_u _ _ _ _) ?_
  refine lv_iconst (v := 1) hx hb dX7_put_35 (by decide) ?_
  refine lv_iadd hx hb dX7_put_36 ?_
  refine ti_top (y := 7) (by decide) ?_
  refine ti_putI (ci := 7) (k := 1) (N := 7) (T := TX7) C hw iw_7 tyX7 tyX7_ok nmX7 rfl ob_2 (by decide) (by decide) fl_X7_15 rfl rfl rfl rfl (fn_7 A _) fs_7_1 dX7_put_37 (fun H locs hw => ?_)
  refine lv_iinc (v := 0) (lv' := [(2, .int 0), (0, .ref (A 2 0)), (1, .int z)]) hx hb dX7_put_40 hl (k := 0) rfl (by decide) (by decide) rfl (fun ls hl => ?_)
  refine lv_goto (tgt := 3) hx hb dX7_put_43 (by decide) ?_
  refine lv_iload_n hx hb dX7_put_3 rfl (lv_at hl 0 rfl) ?_
  refine lv_if_lt (tgt := 46) hx hb dX7_put_4 (by decide) (fun c => absurd c (by decide)) (fun c_4 => ?_)
  refine lv_aload_n hx hb dX7_put_7 rfl (lv_at hl 1 rfl) ?_
  refine ti_get (ci := 7) (k := 1) (N := 7) (T := TX7) C hw iw_7 rfl ob_2 (by decide) (by decide) fl_X7_15 rfl rfl dX7_put_8 ?_
  refine ti_top (y := 7) (show tI (uI (uY (uI (uY (uI (uY M 2 0 g_3) 2 1 5) 2 0 g_6) 2 1 6) 2 0 g_9) 2 1 7) 2 1 = _ from tI_u _ _ _ _) ?_
  refine lv_sipush (v := 700) hx hb dX7_put_11 (by decide) ?_
  refine lv_icmp_ge (tgt := 40) hx hb dX7_put_14 (by decide) (fun c => absurd c (by decide)) (fun c_14 => ?_)
  refine lv_aload_n hx hb dX7_put_17 rfl (lv_at hl 1 rfl) ?_
  refine ti_get (ci := 7) (k := 0) (N := 7) (T := TX7) (v := .ref (A 2 1)) C hw iw_7 rfl ob_2 (by decide) (by decide) fl_X7_9 rfl rfl dX7_put_18 ?_
  refine lv_aload_n hx hb dX7_put_21 rfl (lv_at hl 1 rfl) ?_
  refine ti_get (ci := 7) (k := 1) (N := 7) (T := TX7) C hw iw_7 rfl ob_2 (by decide) (by decide) fl_X7_15 rfl rfl dX7_put_22 ?_
  refine ti_top (y := 7) (show tI (uI (uY (uI (uY (uI (uY M 2 0 g_3) 2 1 5) 2 0 g_6) 2 1 6) 2 0 g_9) 2 1 7) 2 1 = _ from tI_u _ _ _ _) ?_
  refine lv_iload_n hx hb dX7_put_25 rfl (lv_at hl 2 rfl) ?_
  refine lv_iload_n hx hb dX7_put_26 rfl (lv_at hl 0 rfl) ?_
  refine lv_ishr hx hb dX7_put_27 ?_
  refine lv_topi (fun x_10 ex_10 => ?_)
  refine lv_i2b hx hb dX7_put_28 rfl ?_
  refine lv_topi (fun x_11 ex_11 => ?_)
  refine ti_bastG (ci := 7) (k := 0) (n := 700) C hw ob_2 (by decide) (fun _ _ => rfl) (by unfold vp_in; decide) dX7_put_29 (fun H locs g_12 eg_12 hw => ?_)
  refine lv_aload_n hx hb dX7_put_30 rfl (lv_at hl 1 rfl) ?_
  refine lv_dup hx hb dX7_put_31 rfl ?_
  refine ti_get (ci := 7) (k := 1) (N := 7) (T := TX7) C hw iw_7 rfl ob_2 (by decide) (by decide) fl_X7_15 rfl rfl dX7_put_32 ?_
  refine ti_top (y := 7) (show tI (uI (uY (uI (uY (uI (uY M 2 0 g_3) 2 1 5) 2 0 g_6) 2 1 6) 2 0 g_9) 2 1 7) 2 1 = _ from tI_u _ _ _ _) ?_
  refine lv_iconst (v := 1) hx hb dX7_put_35 (by decide) ?_
  refine lv_iadd hx hb dX7_put_36 ?_
  refine ti_top (y := 8) (by decide) ?_
  refine ti_putI (ci := 7) (k := 1) (N := 7) (T := TX7) C hw iw_7 tyX7 tyX7_ok nmX7 rfl ob_2 (by decide) (by decide) fl_X7_15 rfl rfl rfl rfl (fn_7 A _) fs_7_1 dX7_put_37 (fun H locs hw => ?_)
  refine lv_iinc (v := (-8)) (lv' := [(2, .int (-8)), (0, .ref (A 2 0)), (1, .int z)]) hx hb dX7_put_40 hl (k := 0) rfl (by decide) (by decide) rfl (fun ls hl => ?_)
  refine lv_goto (tgt := 3) hx hb dX7_put_43 (by decide) ?_
  refine lv_iload_n hx hb dX7_put_3 rfl (lv_at hl 0 rfl) ?_
  refine lv_if_lt (tgt := 46) hx hb dX7_put_4 (by decide) (fun c_4 => ?_) (fun c => absurd (by decide) c)
  exact hQ _ _ _ _ _ hw (show tI (uI (uY (uI (uY (uI (uY (uI (uY M 2 0 g_3) 2 1 5) 2 0 g_6) 2 1 6) 2 0 g_9) 2 1 7) 2 0 g_12) 2 1 8) 2 1 = _ from tI_u _ _ _ _) dX7_put_46
set_option maxHeartbeats 4000000 in
set_option maxRecDepth 100000 in
theorem k_put_8 (l : Launch) (D : va_G) (A : Nat → Nat → Nat) (cy : Nat → ClassId) (hJ : ti_inj ti_LT A) (M : ti_M) (z : Int32) (h1 : tI M 2 1 = 8) : ti_Kv l yX7_put cX7_put 3 0 ti_LT D A cy M [.ref (A 2 0), .int z] (fun M2 => tI M2 2 1 = 12) := by
  refine ti_eV yp_X7_put hJ ti_LT_nd (Nat.le_of_ble_eq_true rfl) ?_
  intro p e s m args below meth c Q H0 C hQ hw ls hl
  have hx := C.1
  have hb := C.2.1
  have hl : lv_has ls 3 [(0, .ref (A 2 0)), (1, .int z)] := hl
  refine lv_bipush (v := 24) hx hb dX7_put_0 (by decide) ?_
  refine lv_istore_n (lv' := [(2, .int 24), (0, .ref (A 2 0)), (1, .int z)]) hx hb dX7_put_2 rfl hl (by decide) rfl (fun ls hl => ?_)
  refine lv_iload_n hx hb dX7_put_3 rfl (lv_at hl 0 rfl) ?_
  refine lv_if_lt (tgt := 46) hx hb dX7_put_4 (by decide) (fun c => absurd c (by decide)) (fun c_4 => ?_)
  refine lv_aload_n hx hb dX7_put_7 rfl (lv_at hl 1 rfl) ?_
  refine ti_get (ci := 7) (k := 1) (N := 7) (T := TX7) C hw iw_7 rfl ob_2 (by decide) (by decide) fl_X7_15 rfl rfl dX7_put_8 ?_
  refine ti_top (y := 8) h1 ?_
  refine lv_sipush (v := 700) hx hb dX7_put_11 (by decide) ?_
  refine lv_icmp_ge (tgt := 40) hx hb dX7_put_14 (by decide) (fun c => absurd c (by decide)) (fun c_14 => ?_)
  refine lv_aload_n hx hb dX7_put_17 rfl (lv_at hl 1 rfl) ?_
  refine ti_get (ci := 7) (k := 0) (N := 7) (T := TX7) (v := .ref (A 2 1)) C hw iw_7 rfl ob_2 (by decide) (by decide) fl_X7_9 rfl rfl dX7_put_18 ?_
  refine lv_aload_n hx hb dX7_put_21 rfl (lv_at hl 1 rfl) ?_
  refine ti_get (ci := 7) (k := 1) (N := 7) (T := TX7) C hw iw_7 rfl ob_2 (by decide) (by decide) fl_X7_15 rfl rfl dX7_put_22 ?_
  refine ti_top (y := 8) h1 ?_
  refine lv_iload_n hx hb dX7_put_25 rfl (lv_at hl 2 rfl) ?_
  refine lv_iload_n hx hb dX7_put_26 rfl (lv_at hl 0 rfl) ?_
  refine lv_ishr hx hb dX7_put_27 ?_
  refine lv_topi (fun x_1 ex_1 => ?_)
  refine lv_i2b hx hb dX7_put_28 rfl ?_
  refine lv_topi (fun x_2 ex_2 => ?_)
  refine ti_bastG (ci := 7) (k := 0) (n := 700) C hw ob_2 (by decide) (fun _ _ => rfl) (by unfold vp_in; decide) dX7_put_29 (fun H locs g_3 eg_3 hw => ?_)
  refine lv_aload_n hx hb dX7_put_30 rfl (lv_at hl 1 rfl) ?_
  refine lv_dup hx hb dX7_put_31 rfl ?_
  refine ti_get (ci := 7) (k := 1) (N := 7) (T := TX7) C hw iw_7 rfl ob_2 (by decide) (by decide) fl_X7_15 rfl rfl dX7_put_32 ?_
  refine ti_top (y := 8) h1 ?_
  refine lv_iconst (v := 1) hx hb dX7_put_35 (by decide) ?_
  refine lv_iadd hx hb dX7_put_36 ?_
  refine ti_top (y := 9) (by decide) ?_
  refine ti_putI (ci := 7) (k := 1) (N := 7) (T := TX7) C hw iw_7 tyX7 tyX7_ok nmX7 rfl ob_2 (by decide) (by decide) fl_X7_15 rfl rfl rfl rfl (fn_7 A _) fs_7_1 dX7_put_37 (fun H locs hw => ?_)
  refine lv_iinc (v := 16) (lv' := [(2, .int 16), (0, .ref (A 2 0)), (1, .int z)]) hx hb dX7_put_40 hl (k := 0) rfl (by decide) (by decide) rfl (fun ls hl => ?_)
  refine lv_goto (tgt := 3) hx hb dX7_put_43 (by decide) ?_
  refine lv_iload_n hx hb dX7_put_3 rfl (lv_at hl 0 rfl) ?_
  refine lv_if_lt (tgt := 46) hx hb dX7_put_4 (by decide) (fun c => absurd c (by decide)) (fun c_4 => ?_)
  refine lv_aload_n hx hb dX7_put_7 rfl (lv_at hl 1 rfl) ?_
  refine ti_get (ci := 7) (k := 1) (N := 7) (T := TX7) C hw iw_7 rfl ob_2 (by decide) (by decide) fl_X7_15 rfl rfl dX7_put_8 ?_
  refine ti_top (y := 9) (show tI (uI (uY M 2 0 g_3) 2 1 9) 2 1 = _ from tI_u _ _ _ _) ?_
  refine lv_sipush (v := 700) hx hb dX7_put_11 (by decide) ?_
  refine lv_icmp_ge (tgt := 40) hx hb dX7_put_14 (by decide) (fun c => absurd c (by decide)) (fun c_14 => ?_)
  refine lv_aload_n hx hb dX7_put_17 rfl (lv_at hl 1 rfl) ?_
  refine ti_get (ci := 7) (k := 0) (N := 7) (T := TX7) (v := .ref (A 2 1)) C hw iw_7 rfl ob_2 (by decide) (by decide) fl_X7_9 rfl rfl dX7_put_18 ?_
  refine lv_aload_n hx hb dX7_put_21 rfl (lv_at hl 1 rfl) ?_
  refine ti_get (ci := 7) (k := 1) (N := 7) (T := TX7) C hw iw_7 rfl ob_2 (by decide) (by decide) fl_X7_15 rfl rfl dX7_put_22 ?_
  refine ti_top (y := 9) (show tI (uI (uY M 2 0 g_3) 2 1 9) 2 1 = _ from tI_u _ _ _ _) ?_
  refine lv_iload_n hx hb dX7_put_25 rfl (lv_at hl 2 rfl) ?_
  refine lv_iload_n hx hb dX7_put_26 rfl (lv_at hl 0 rfl) ?_
  refine lv_ishr hx hb dX7_put_27 ?_
  refine lv_topi (fun x_4 ex_4 => ?_)
  refine lv_i2b hx hb dX7_put_28 rfl ?_
  refine lv_topi (fun x_5 ex_5 => ?_)
  refine ti_bastG (ci := 7) (k := 0) (n := 700) C hw ob_2 (by decide) (fun _ _ => rfl) (by unfold vp_in; decide) dX7_put_29 (fun H locs g_6 eg_6 hw => ?_)
  refine lv_aload_n hx hb dX7_put_30 rfl (lv_at hl 1 rfl) ?_
  refine lv_dup hx hb dX7_put_31 rfl ?_
  refine ti_get (ci := 7) (k := 1) (N := 7) (T := TX7) C hw iw_7 rfl ob_2 (by decide) (by decide) fl_X7_15 rfl rfl dX7_put_32 ?_
  refine ti_top (y := 9) (show tI (uI (uY M 2 0 g_3) 2 1 9) 2 1 = _ from tI_u _ _ _ _) ?_
  refine lv_iconst (v := 1) hx hb dX7_put_35 (by decide) ?_
  refine lv_iadd hx hb dX7_put_36 ?_
  refine ti_top (y := 10) (by decide) ?_
  refine ti_putI (ci := 7) (k := 1) (N := 7) (T := TX7) C hw iw_7 tyX7 tyX7_ok nmX7 rfl ob_2 (by decide) (by decide) fl_X7_15 rfl rfl rfl rfl (fn_7 A _) fs_7_1 dX7_put_37 (fun H locs hw => ?_)
  refine lv_iinc (v := 8) (lv' := [(2, .int 8), (0, .ref (A 2 0)), (1, .int z)]) hx hb dX7_put_40 hl (k := 0) rfl (by decide) (by decide) rfl (fun ls hl => ?_)
  refine lv_goto (tgt := 3) hx hb dX7_put_43 (by decide) ?_
  refine lv_iload_n hx hb dX7_put_3 rfl (lv_at hl 0 rfl) ?_
  refine lv_if_lt (tgt := 46) hx hb dX7_put_4 (by decide) (fun c => absurd c (by decide)) (fun c_4 => ?_)
  refine lv_aload_n hx hb dX7_put_7 rfl (lv_at hl 1 rfl) ?_
  refine ti_get (ci := 7) (k := 1) (N := 7) (T := TX7) C hw iw_7 rfl ob_2 (by decide) (by decide) fl_X7_15 rfl rfl dX7_put_8 ?_
  refine ti_top (y := 10) (show tI (uI (uY (uI (uY M 2 0 g_3) 2 1 9) 2 0 g_6) 2 1 10) 2 1 = _ from tI_u _ _ _ _) ?_
  refine lv_sipush (v := 700) hx hb dX7_put_11 (by decide) ?_
  refine lv_icmp_ge (tgt := 40) hx hb dX7_put_14 (by decide) (fun c => absurd c (by decide)) (fun c_14 => ?_)
  refine lv_aload_n hx hb dX7_put_17 rfl (lv_at hl 1 rfl) ?_
  refine ti_get (ci := 7) (k := 0) (N := 7) (T := TX7) (v := .ref (A 2 1)) C hw iw_7 rfl ob_2 (by decide) (by decide) fl_X7_9 rfl rfl dX7_put_18 ?_
  refine lv_aload_n hx hb dX7_put_21 rfl (lv_at hl 1 rfl) ?_
  refine ti_get (ci := 7) (k := 1) (N := 7) (T := TX7) C hw iw_7 rfl ob_2 (by decide) (by decide) fl_X7_15 rfl rfl dX7_put_22 ?_
  refine ti_top (y := 10) (show tI (uI (uY (uI (uY M 2 0 g_3) 2 1 9) 2 0 g_6) 2 1 10) 2 1 = _ from tI_u _ _ _ _) ?_
  refine lv_iload_n hx hb dX7_put_25 rfl (lv_at hl 2 rfl) ?_
  refine lv_iload_n hx hb dX7_put_26 rfl (lv_at hl 0 rfl) ?_
  refine lv_ishr hx hb dX7_put_27 ?_
  refine lv_topi (fun x_7 ex_7 => ?_)
  refine lv_i2b hx hb dX7_put_28 rfl ?_
  refine lv_topi (fun x_8 ex_8 => ?_)
  refine ti_bastG (ci := 7) (k := 0) (n := 700) C hw ob_2 (by decide) (fun _ _ => rfl) (by unfold vp_in; decide) dX7_put_29 (fun H locs g_9 eg_9 hw => ?_)
  refine lv_aload_n hx hb dX7_put_30 rfl (lv_at hl 1 rfl) ?_
  refine lv_dup hx hb dX7_put_31 rfl ?_
  refine ti_get (ci := 7) (k := 1) (N := 7) (T := TX7) C hw iw_7 rfl ob_2 (by decide) (by decide) fl_X7_15 rfl rfl dX7_put_32 ?_
  refine ti_top (y := 10) (show tI (uI (uY (uI (uY M 2 0 g_3) 2 1 9) 2 0 g_6) 2 1 10) 2 1 = _ from tI_u _ _ _ _) ?_
  refine lv_iconst (v := 1) hx hb dX7_put_35 (by decide) ?_
  refine lv_iadd hx hb dX7_put_36 ?_
  refine ti_top (y := 11) (by decide) ?_
  refine ti_putI (ci := 7) (k := 1) (N := 7) (T := TX7) C hw iw_7 tyX7 tyX7_ok nmX7 rfl ob_2 (by decide) (by decide) fl_X7_15 rfl rfl rfl rfl (fn_7 A _) fs_7_1 dX7_put_37 (fun H locs hw => ?_)
  refine lv_iinc (v := 0) (lv' := [(2, .int 0), (0, .ref (A 2 0)), (1, .int z)]) hx hb dX7_put_40 hl (k := 0) rfl (by decide) (by decide) rfl (fun ls hl => ?_)
  refine lv_goto (tgt := 3) hx hb dX7_put_43 (by decide) ?_
  refine lv_iload_n hx hb dX7_put_3 rfl (lv_at hl 0 rfl) ?_
  refine lv_if_lt (tgt := 46) hx hb dX7_put_4 (by decide) (fun c => absurd c (by decide)) (fun c_4 => ?_)
  refine lv_aload_n hx hb dX7_put_7 rfl (lv_at hl 1 rfl) ?_
  refine ti_get (ci := 7) (k := 1) (N := 7) (T := TX7) C hw iw_7 rfl ob_2 (by decide) (by decide) fl_X7_15 rfl rfl dX7_put_8 ?_
  refine ti_top (y := 11) (show tI (uI (uY (uI (uY (uI (uY M 2 0 g_3) 2 1 9) 2 0 g_6) 2 1 10) 2 0 g_9) 2 1 11) 2 1 = _ from tI_u _ _ _ _) ?_
  refine lv_sipush (v := 700) hx hb dX7_put_11 (by decide) ?_
  refine lv_icmp_ge (tgt := 40) hx hb dX7_put_14 (by decide) (fun c => absurd c (by decide)) (fun c_14 => ?_)
  refine lv_aload_n hx hb dX7_put_17 rfl (lv_at hl 1 rfl) ?_
  refine ti_get (ci := 7) (k := 0) (N := 7) (T := TX7) (v := .ref (A 2 1)) C hw iw_7 rfl ob_2 (by decide) (by decide) fl_X7_9 rfl rfl dX7_put_18 ?_
  refine lv_aload_n hx hb dX7_put_21 rfl (lv_at hl 1 rfl) ?_
  refine ti_get (ci := 7) (k := 1) (N := 7) (T := TX7) C hw iw_7 rfl ob_2 (by decide) (by decide) fl_X7_15 rfl rfl dX7_put_22 ?_
  refine ti_top (y := 11) (show tI (uI (uY (uI (uY (uI (uY M 2 0 g_3) 2 1 9) 2 0 g_6) 2 1 10) 2 0 g_9) 2 1 11) 2 1 = _ from tI_u _ _ _ _) ?_
  refine lv_iload_n hx hb dX7_put_25 rfl (lv_at hl 2 rfl) ?_
  refine lv_iload_n hx hb dX7_put_26 rfl (lv_at hl 0 rfl) ?_
  refine lv_ishr hx hb dX7_put_27 ?_
  refine lv_topi (fun x_10 ex_10 => ?_)
  refine lv_i2b hx hb dX7_put_28 rfl ?_
  refine lv_topi (fun x_11 ex_11 => ?_)
  refine ti_bastG (ci := 7) (k := 0) (n := 700) C hw ob_2 (by decide) (fun _ _ => rfl) (by unfold vp_in; decide) dX7_put_29 (fun H locs g_12 eg_12 hw => ?_)
  refine lv_aload_n hx hb dX7_put_30 rfl (lv_at hl 1 rfl) ?_
  refine lv_dup hx hb dX7_put_31 rfl ?_
  refine ti_get (ci := 7) (k := 1) (N := 7) (T := TX7) C hw iw_7 rfl ob_2 (by decide) (by decide) fl_X7_15 rfl rfl dX7_put_32 ?_
  refine ti_top (y := 11) (show tI (uI (uY (uI (uY (uI (uY M 2 0 g_3) 2 1 9) 2 0 g_6) 2 1 10) 2 0 g_9) 2 1 11) 2 1 = _ from tI_u _ _ _ _) ?_
  refine lv_iconst (v := 1) hx hb dX7_put_35 (by decide) ?_
  refine lv_iadd hx hb dX7_put_36 ?_
  refine ti_top (y := 12) (by decide) ?_
  refine ti_putI (ci := 7) (k := 1) (N := 7) (T := TX7) C hw iw_7 tyX7 tyX7_ok nmX7 rfl ob_2 (by decide) (by decide) fl_X7_15 rfl rfl rfl rfl (fn_7 A _) fs_7_1 dX7_put_37 (fun H locs hw => ?_)
  refine lv_iinc (v := (-8)) (lv' := [(2, .int (-8)), (0, .ref (A 2 0)), (1, .int z)]) hx hb dX7_put_40 hl (k := 0) rfl (by decide) (by decide) rfl (fun ls hl => ?_)
  refine lv_goto (tgt := 3) hx hb dX7_put_43 (by decide) ?_
  refine lv_iload_n hx hb dX7_put_3 rfl (lv_at hl 0 rfl) ?_
  refine lv_if_lt (tgt := 46) hx hb dX7_put_4 (by decide) (fun c_4 => ?_) (fun c => absurd (by decide) c)
  exact hQ _ _ _ _ _ hw (show tI (uI (uY (uI (uY (uI (uY (uI (uY M 2 0 g_3) 2 1 9) 2 0 g_6) 2 1 10) 2 0 g_9) 2 1 11) 2 0 g_12) 2 1 12) 2 1 = _ from tI_u _ _ _ _) dX7_put_46
set_option maxHeartbeats 4000000 in
set_option maxRecDepth 100000 in
theorem k_put_12 (l : Launch) (D : va_G) (A : Nat → Nat → Nat) (cy : Nat → ClassId) (hJ : ti_inj ti_LT A) (M : ti_M) (z : Int32) (h1 : tI M 2 1 = 12) : ti_Kv l yX7_put cX7_put 3 0 ti_LT D A cy M [.ref (A 2 0), .int z] (fun M2 => tI M2 2 1 = 16) := by
  refine ti_eV yp_X7_put hJ ti_LT_nd (Nat.le_of_ble_eq_true rfl) ?_
  intro p e s m args below meth c Q H0 C hQ hw ls hl
  have hx := C.1
  have hb := C.2.1
  have hl : lv_has ls 3 [(0, .ref (A 2 0)), (1, .int z)] := hl
  refine lv_bipush (v := 24) hx hb dX7_put_0 (by decide) ?_
  refine lv_istore_n (lv' := [(2, .int 24), (0, .ref (A 2 0)), (1, .int z)]) hx hb dX7_put_2 rfl hl (by decide) rfl (fun ls hl => ?_)
  refine lv_iload_n hx hb dX7_put_3 rfl (lv_at hl 0 rfl) ?_
  refine lv_if_lt (tgt := 46) hx hb dX7_put_4 (by decide) (fun c => absurd c (by decide)) (fun c_4 => ?_)
  refine lv_aload_n hx hb dX7_put_7 rfl (lv_at hl 1 rfl) ?_
  refine ti_get (ci := 7) (k := 1) (N := 7) (T := TX7) C hw iw_7 rfl ob_2 (by decide) (by decide) fl_X7_15 rfl rfl dX7_put_8 ?_
  refine ti_top (y := 12) h1 ?_
  refine lv_sipush (v := 700) hx hb dX7_put_11 (by decide) ?_
  refine lv_icmp_ge (tgt := 40) hx hb dX7_put_14 (by decide) (fun c => absurd c (by decide)) (fun c_14 => ?_)
  refine lv_aload_n hx hb dX7_put_17 rfl (lv_at hl 1 rfl) ?_
  refine ti_get (ci := 7) (k := 0) (N := 7) (T := TX7) (v := .ref (A 2 1)) C hw iw_7 rfl ob_2 (by decide) (by decide) fl_X7_9 rfl rfl dX7_put_18 ?_
  refine lv_aload_n hx hb dX7_put_21 rfl (lv_at hl 1 rfl) ?_
  refine ti_get (ci := 7) (k := 1) (N := 7) (T := TX7) C hw iw_7 rfl ob_2 (by decide) (by decide) fl_X7_15 rfl rfl dX7_put_22 ?_
  refine ti_top (y := 12) h1 ?_
  refine lv_iload_n hx hb dX7_put_25 rfl (lv_at hl 2 rfl) ?_
  refine lv_iload_n hx hb dX7_put_26 rfl (lv_at hl 0 rfl) ?_
  refine lv_ishr hx hb dX7_put_27 ?_
  refine lv_topi (fun x_1 ex_1 => ?_)
  refine lv_i2b hx hb dX7_put_28 rfl ?_
  refine lv_topi (fun x_2 ex_2 => ?_)
  refine ti_bastG (ci := 7) (k := 0) (n := 700) C hw ob_2 (by decide) (fun _ _ => rfl) (by unfold vp_in; decide) dX7_put_29 (fun H locs g_3 eg_3 hw => ?_)
  refine lv_aload_n hx hb dX7_put_30 rfl (lv_at hl 1 rfl) ?_
  refine lv_dup hx hb dX7_put_31 rfl ?_
  refine ti_get (ci := 7) (k := 1) (N := 7) (T := TX7) C hw iw_7 rfl ob_2 (by decide) (by decide) fl_X7_15 rfl rfl dX7_put_32 ?_
  refine ti_top (y := 12) h1 ?_
  refine lv_iconst (v := 1) hx hb dX7_put_35 (by decide) ?_
  refine lv_iadd hx hb dX7_put_36 ?_
  refine ti_top (y := 13) (by decide) ?_
  refine ti_putI (ci := 7) (k := 1) (N := 7) (T := TX7) C hw iw_7 tyX7 tyX7_ok nmX7 rfl ob_2 (by decide) (by decide) fl_X7_15 rfl rfl rfl rfl (fn_7 A _) fs_7_1 dX7_put_37 (fun H locs hw => ?_)
  refine lv_iinc (v := 16) (lv' := [(2, .int 16), (0, .ref (A 2 0)), (1, .int z)]) hx hb dX7_put_40 hl (k := 0) rfl (by decide) (by decide) rfl (fun ls hl => ?_)
  refine lv_goto (tgt := 3) hx hb dX7_put_43 (by decide) ?_
  refine lv_iload_n hx hb dX7_put_3 rfl (lv_at hl 0 rfl) ?_
  refine lv_if_lt (tgt := 46) hx hb dX7_put_4 (by decide) (fun c => absurd c (by decide)) (fun c_4 => ?_)
  refine lv_aload_n hx hb dX7_put_7 rfl (lv_at hl 1 rfl) ?_
  refine ti_get (ci := 7) (k := 1) (N := 7) (T := TX7) C hw iw_7 rfl ob_2 (by decide) (by decide) fl_X7_15 rfl rfl dX7_put_8 ?_
  refine ti_top (y := 13) (show tI (uI (uY M 2 0 g_3) 2 1 13) 2 1 = _ from tI_u _ _ _ _) ?_
  refine lv_sipush (v := 700) hx hb dX7_put_11 (by decide) ?_
  refine lv_icmp_ge (tgt := 40) hx hb dX7_put_14 (by decide) (fun c => absurd c (by decide)) (fun c_14 => ?_)
  refine lv_aload_n hx hb dX7_put_17 rfl (lv_at hl 1 rfl) ?_
  refine ti_get (ci := 7) (k := 0) (N := 7) (T := TX7) (v := .ref (A 2 1)) C hw iw_7 rfl ob_2 (by decide) (by decide) fl_X7_9 rfl rfl dX7_put_18 ?_
  refine lv_aload_n hx hb dX7_put_21 rfl (lv_at hl 1 rfl) ?_
  refine ti_get (ci := 7) (k := 1) (N := 7) (T := TX7) C hw iw_7 rfl ob_2 (by decide) (by decide) fl_X7_15 rfl rfl dX7_put_22 ?_
  refine ti_top (y := 13) (show tI (uI (uY M 2 0 g_3) 2 1 13) 2 1 = _ from tI_u _ _ _ _) ?_
  refine lv_iload_n hx hb dX7_put_25 rfl (lv_at hl 2 rfl) ?_
  refine lv_iload_n hx hb dX7_put_26 rfl (lv_at hl 0 rfl) ?_
  refine lv_ishr hx hb dX7_put_27 ?_
  refine lv_topi (fun x_4 ex_4 => ?_)
  refine lv_i2b hx hb dX7_put_28 rfl ?_
  refine lv_topi (fun x_5 ex_5 => ?_)
  refine ti_bastG (ci := 7) (k := 0) (n := 700) C hw ob_2 (by decide) (fun _ _ => rfl) (by unfold vp_in; decide) dX7_put_29 (fun H locs g_6 eg_6 hw => ?_)
  refine lv_aload_n hx hb dX7_put_30 rfl (lv_at hl 1 rfl) ?_
  refine lv_dup hx hb dX7_put_31 rfl ?_
  refine ti_get (ci := 7) (k := 1) (N := 7) (T := TX7) C hw iw_7 rfl ob_2 (by decide) (by decide) fl_X7_15 rfl rfl dX7_put_32 ?_
  refine ti_top (y := 13) (show tI (uI (uY M 2 0 g_3) 2 1 13) 2 1 = _ from tI_u _ _ _ _) ?_
  refine lv_iconst (v := 1) hx hb dX7_put_35 (by decide) ?_
  refine lv_iadd hx hb dX7_put_36 ?_
  refine ti_top (y := 14) (by decide) ?_
  refine ti_putI (ci := 7) (k := 1) (N := 7) (T := TX7) C hw iw_7 tyX7 tyX7_ok nmX7 rfl ob_2 (by decide) (by decide) fl_X7_15 rfl rfl rfl rfl (fn_7 A _) fs_7_1 dX7_put_37 (fun H locs hw => ?_)
  refine lv_iinc (v := 8) (lv' := [(2, .int 8), (0, .ref (A 2 0)), (1, .int z)]) hx hb dX7_put_40 hl (k := 0) rfl (by decide) (by decide) rfl (fun ls hl => ?_)
  refine lv_goto (tgt := 3) hx hb dX7_put_43 (by decide) ?_
  refine lv_iload_n hx hb dX7_put_3 rfl (lv_at hl 0 rfl) ?_
  refine lv_if_lt (tgt := 46) hx hb dX7_put_4 (by decide) (fun c => absurd c (by decide)) (fun c_4 => ?_)
  refine lv_aload_n hx hb dX7_put_7 rfl (lv_at hl 1 rfl) ?_
  refine ti_get (ci := 7) (k := 1) (N := 7) (T := TX7) C hw iw_7 rfl ob_2 (by decide) (by decide) fl_X7_15 rfl rfl dX7_put_8 ?_
  refine ti_top (y := 14) (show tI (uI (uY (uI (uY M 2 0 g_3) 2 1 13) 2 0 g_6) 2 1 14) 2 1 = _ from tI_u _ _ _ _) ?_
  refine lv_sipush (v := 700) hx hb dX7_put_11 (by decide) ?_
  refine lv_icmp_ge (tgt := 40) hx hb dX7_put_14 (by decide) (fun c => absurd c (by decide)) (fun c_14 => ?_)
  refine lv_aload_n hx hb dX7_put_17 rfl (lv_at hl 1 rfl) ?_
  refine ti_get (ci := 7) (k := 0) (N := 7) (T := TX7) (v := .ref (A 2 1)) C hw iw_7 rfl ob_2 (by decide) (by decide) fl_X7_9 rfl rfl dX7_put_18 ?_
  refine lv_aload_n hx hb dX7_put_21 rfl (lv_at hl 1 rfl) ?_
  refine ti_get (ci := 7) (k := 1) (N := 7) (T := TX7) C hw iw_7 rfl ob_2 (by decide) (by decide) fl_X7_15 rfl rfl dX7_put_22 ?_
  refine ti_top (y := 14) (show tI (uI (uY (uI (uY M 2 0 g_3) 2 1 13) 2 0 g_6) 2 1 14) 2 1 = _ from tI_u _ _ _ _) ?_
  refine lv_iload_n hx hb dX7_put_25 rfl (lv_at hl 2 rfl) ?_
  refine lv_iload_n hx hb dX7_put_26 rfl (lv_at hl 0 rfl) ?_
  refine lv_ishr hx hb dX7_put_27 ?_
  refine lv_topi (fun x_7 ex_7 => ?_)
  refine lv_i2b hx hb dX7_put_28 rfl ?_
  refine lv_topi (fun x_8 ex_8 => ?_)
  refine ti_bastG (ci := 7) (k := 0) (n := 700) C hw ob_2 (by decide) (fun _ _ => rfl) (by unfold vp_in; decide) dX7_put_29 (fun H locs g_9 eg_9 hw => ?_)
  refine lv_aload_n hx hb dX7_put_30 rfl (lv_at hl 1 rfl) ?_
  refine lv_dup hx hb dX7_put_31 rfl ?_
  refine ti_get (ci := 7) (k := 1) (N := 7) (T := TX7) C hw iw_7 rfl ob_2 (by decide) (by decide) fl_X7_15 rfl rfl dX7_put_32 ?_
  refine ti_top (y := 14) (show tI (uI (uY (uI (uY M 2 0 g_3) 2 1 13) 2 0 g_6) 2 1 14) 2 1 = _ from tI_u _ _ _ _) ?_
  refine lv_iconst (v := 1) hx hb dX7_put_35 (by decide) ?_
  refine lv_iadd hx hb dX7_put_36 ?_
  refine ti_top (y := 15) (by decide) ?_
  refine ti_putI (ci := 7) (k := 1) (N := 7) (T := TX7) C hw iw_7 tyX7 tyX7_ok nmX7 rfl ob_2 (by decide) (by decide) fl_X7_15 rfl rfl rfl rfl (fn_7 A _) fs_7_1 dX7_put_37 (fun H locs hw => ?_)
  refine lv_iinc (v := 0) (lv' := [(2, .int 0), (0, .ref (A 2 0)), (1, .int z)]) hx hb dX7_put_40 hl (k := 0) rfl (by decide) (by decide) rfl (fun ls hl => ?_)
  refine lv_goto (tgt := 3) hx hb dX7_put_43 (by decide) ?_
  refine lv_iload_n hx hb dX7_put_3 rfl (lv_at hl 0 rfl) ?_
  refine lv_if_lt (tgt := 46) hx hb dX7_put_4 (by decide) (fun c => absurd c (by decide)) (fun c_4 => ?_)
  refine lv_aload_n hx hb dX7_put_7 rfl (lv_at hl 1 rfl) ?_
  refine ti_get (ci := 7) (k := 1) (N := 7) (T := TX7) C hw iw_7 rfl ob_2 (by decide) (by decide) fl_X7_15 rfl rfl dX7_put_8 ?_
  refine ti_top (y := 15) (show tI (uI (uY (uI (uY (uI (uY M 2 0 g_3) 2 1 13) 2 0 g_6) 2 1 14) 2 0 g_9) 2 1 15) 2 1 = _ from tI_u _ _ _ _) ?_
  refine lv_sipush (v := 700) hx hb dX7_put_11 (by decide) ?_
  refine lv_icmp_ge (tgt := 40) hx hb dX7_put_14 (by decide) (fun c => absurd c (by decide)) (fun c_14 => ?_)
  refine lv_aload_n hx hb dX7_put_17 rfl (lv_at hl 1 rfl) ?_
  refine ti_get (ci := 7) (k := 0) (N := 7) (T := TX7) (v := .ref (A 2 1)) C hw iw_7 rfl ob_2 (by decide) (by decide) fl_X7_9 rfl rfl dX7_put_18 ?_
  refine lv_aload_n hx hb dX7_put_21 rfl (lv_at hl 1 rfl) ?_
  refine ti_get (ci := 7) (k := 1) (N := 7) (T := TX7) C hw iw_7 rfl ob_2 (by decide) (by decide) fl_X7_15 rfl rfl dX7_put_22 ?_
  refine ti_top (y := 15) (show tI (uI (uY (uI (uY (uI (uY M 2 0 g_3) 2 1 13) 2 0 g_6) 2 1 14) 2 0 g_9) 2 1 15) 2 1 = _ from tI_u _ _ _ _) ?_
  refine lv_iload_n hx hb dX7_put_25 rfl (lv_at hl 2 rfl) ?_
  refine lv_iload_n hx hb dX7_put_26 rfl (lv_at hl 0 rfl) ?_
  refine lv_ishr hx hb dX7_put_27 ?_
  refine lv_topi (fun x_10 ex_10 => ?_)
  refine lv_i2b hx hb dX7_put_28 rfl ?_
  refine lv_topi (fun x_11 ex_11 => ?_)
  refine ti_bastG (ci := 7) (k := 0) (n := 700) C hw ob_2 (by decide) (fun _ _ => rfl) (by unfold vp_in; decide) dX7_put_29 (fun H locs g_12 eg_12 hw => ?_)
  refine lv_aload_n hx hb dX7_put_30 rfl (lv_at hl 1 rfl) ?_
  refine lv_dup hx hb dX7_put_31 rfl ?_
  refine ti_get (ci := 7) (k := 1) (N := 7) (T := TX7) C hw iw_7 rfl ob_2 (by decide) (by decide) fl_X7_15 rfl rfl dX7_put_32 ?_
  refine ti_top (y := 15) (show tI (uI (uY (uI (uY (uI (uY M 2 0 g_3) 2 1 13) 2 0 g_6) 2 1 14) 2 0 g_9) 2 1 15) 2 1 = _ from tI_u _ _ _ _) ?_
  refine lv_iconst (v := 1) hx hb dX7_put_35 (by decide) ?_
  refine lv_iadd hx hb dX7_put_36 ?_
  refine ti_top (y := 16) (by decide) ?_
  refine ti_putI (ci := 7) (k := 1) (N := 7) (T := TX7) C hw iw_7 tyX7 tyX7_ok nmX7 rfl ob_2 (by decide) (by decide) fl_X7_15 rfl rfl rfl rfl (fn_7 A _) fs_7_1 dX7_put_37 (fun H locs hw => ?_)
  refine lv_iinc (v := (-8)) (lv' := [(2, .int (-8)), (0, .ref (A 2 0)), (1, .int z)]) hx hb dX7_put_40 hl (k := 0) rfl (by decide) (by decide) rfl (fun ls hl => ?_)
  refine lv_goto (tgt := 3) hx hb dX7_put_43 (by decide) ?_
  refine lv_iload_n hx hb dX7_put_3 rfl (lv_at hl 0 rfl) ?_
  refine lv_if_lt (tgt := 46) hx hb dX7_put_4 (by decide) (fun c_4 => ?_) (fun c => absurd (by decide) c)
  exact hQ _ _ _ _ _ hw (show tI (uI (uY (uI (uY (uI (uY (uI (uY M 2 0 g_3) 2 1 13) 2 0 g_6) 2 1 14) 2 0 g_9) 2 1 15) 2 0 g_12) 2 1 16) 2 1 = _ from tI_u _ _ _ _) dX7_put_46
set_option maxHeartbeats 4000000 in
set_option maxRecDepth 100000 in
theorem k_put_16 (l : Launch) (D : va_G) (A : Nat → Nat → Nat) (cy : Nat → ClassId) (hJ : ti_inj ti_LT A) (M : ti_M) (z : Int32) (h1 : tI M 2 1 = 16) : ti_Kv l yX7_put cX7_put 3 0 ti_LT D A cy M [.ref (A 2 0), .int z] (fun M2 => tI M2 2 1 = 20) := by
  refine ti_eV yp_X7_put hJ ti_LT_nd (Nat.le_of_ble_eq_true rfl) ?_
  intro p e s m args below meth c Q H0 C hQ hw ls hl
  have hx := C.1
  have hb := C.2.1
  have hl : lv_has ls 3 [(0, .ref (A 2 0)), (1, .int z)] := hl
  refine lv_bipush (v := 24) hx hb dX7_put_0 (by decide) ?_
  refine lv_istore_n (lv' := [(2, .int 24), (0, .ref (A 2 0)), (1, .int z)]) hx hb dX7_put_2 rfl hl (by decide) rfl (fun ls hl => ?_)
  refine lv_iload_n hx hb dX7_put_3 rfl (lv_at hl 0 rfl) ?_
  refine lv_if_lt (tgt := 46) hx hb dX7_put_4 (by decide) (fun c => absurd c (by decide)) (fun c_4 => ?_)
  refine lv_aload_n hx hb dX7_put_7 rfl (lv_at hl 1 rfl) ?_
  refine ti_get (ci := 7) (k := 1) (N := 7) (T := TX7) C hw iw_7 rfl ob_2 (by decide) (by decide) fl_X7_15 rfl rfl dX7_put_8 ?_
  refine ti_top (y := 16) h1 ?_
  refine lv_sipush (v := 700) hx hb dX7_put_11 (by decide) ?_
  refine lv_icmp_ge (tgt := 40) hx hb dX7_put_14 (by decide) (fun c => absurd c (by decide)) (fun c_14 => ?_)
  refine lv_aload_n hx hb dX7_put_17 rfl (lv_at hl 1 rfl) ?_
  refine ti_get (ci := 7) (k := 0) (N := 7) (T := TX7) (v := .ref (A 2 1)) C hw iw_7 rfl ob_2 (by decide) (by decide) fl_X7_9 rfl rfl dX7_put_18 ?_
  refine lv_aload_n hx hb dX7_put_21 rfl (lv_at hl 1 rfl) ?_
  refine ti_get (ci := 7) (k := 1) (N := 7) (T := TX7) C hw iw_7 rfl ob_2 (by decide) (by decide) fl_X7_15 rfl rfl dX7_put_22 ?_
  refine ti_top (y := 16) h1 ?_
  refine lv_iload_n hx hb dX7_put_25 rfl (lv_at hl 2 rfl) ?_
  refine lv_iload_n hx hb dX7_put_26 rfl (lv_at hl 0 rfl) ?_
  refine lv_ishr hx hb dX7_put_27 ?_
  refine lv_topi (fun x_1 ex_1 => ?_)
  refine lv_i2b hx hb dX7_put_28 rfl ?_
  refine lv_topi (fun x_2 ex_2 => ?_)
  refine ti_bastG (ci := 7) (k := 0) (n := 700) C hw ob_2 (by decide) (fun _ _ => rfl) (by unfold vp_in; decide) dX7_put_29 (fun H locs g_3 eg_3 hw => ?_)
  refine lv_aload_n hx hb dX7_put_30 rfl (lv_at hl 1 rfl) ?_
  refine lv_dup hx hb dX7_put_31 rfl ?_
  refine ti_get (ci := 7) (k := 1) (N := 7) (T := TX7) C hw iw_7 rfl ob_2 (by decide) (by decide) fl_X7_15 rfl rfl dX7_put_32 ?_
  refine ti_top (y := 16) h1 ?_
  refine lv_iconst (v := 1) hx hb dX7_put_35 (by decide) ?_
  refine lv_iadd hx hb dX7_put_36 ?_
  refine ti_top (y := 17) (by decide) ?_
  refine ti_putI (ci := 7) (k := 1) (N := 7) (T := TX7) C hw iw_7 tyX7 tyX7_ok nmX7 rfl ob_2 (by decide) (by decide) fl_X7_15 rfl rfl rfl rfl (fn_7 A _) fs_7_1 dX7_put_37 (fun H locs hw => ?_)
  refine lv_iinc (v := 16) (lv' := [(2, .int 16), (0, .ref (A 2 0)), (1, .int z)]) hx hb dX7_put_40 hl (k := 0) rfl (by decide) (by decide) rfl (fun ls hl => ?_)
  refine lv_goto (tgt := 3) hx hb dX7_put_43 (by decide) ?_
  refine lv_iload_n hx hb dX7_put_3 rfl (lv_at hl 0 rfl) ?_
  refine lv_if_lt (tgt := 46) hx hb dX7_put_4 (by decide) (fun c => absurd c (by decide)) (fun c_4 => ?_)
  refine lv_aload_n hx hb dX7_put_7 rfl (lv_at hl 1 rfl) ?_
  refine ti_get (ci := 7) (k := 1) (N := 7) (T := TX7) C hw iw_7 rfl ob_2 (by decide) (by decide) fl_X7_15 rfl rfl dX7_put_8 ?_
  refine ti_top (y := 17) (show tI (uI (uY M 2 0 g_3) 2 1 17) 2 1 = _ from tI_u _ _ _ _) ?_
  refine lv_sipush (v := 700) hx hb dX7_put_11 (by decide) ?_
  refine lv_icmp_ge (tgt := 40) hx hb dX7_put_14 (by decide) (fun c => absurd c (by decide)) (fun c_14 => ?_)
  refine lv_aload_n hx hb dX7_put_17 rfl (lv_at hl 1 rfl) ?_
  refine ti_get (ci := 7) (k := 0) (N := 7) (T := TX7) (v := .ref (A 2 1)) C hw iw_7 rfl ob_2 (by decide) (by decide) fl_X7_9 rfl rfl dX7_put_18 ?_
  refine lv_aload_n hx hb dX7_put_21 rfl (lv_at hl 1 rfl) ?_
  refine ti_get (ci := 7) (k := 1) (N := 7) (T := TX7) C hw iw_7 rfl ob_2 (by decide) (by decide) fl_X7_15 rfl rfl dX7_put_22 ?_
  refine ti_top (y := 17) (show tI (uI (uY M 2 0 g_3) 2 1 17) 2 1 = _ from tI_u _ _ _ _) ?_
  refine lv_iload_n hx hb dX7_put_25 rfl (lv_at hl 2 rfl) ?_
  refine lv_iload_n hx hb dX7_put_26 rfl (lv_at hl 0 rfl) ?_
  refine lv_ishr hx hb dX7_put_27 ?_
  refine lv_topi (fun x_4 ex_4 => ?_)
  refine lv_i2b hx hb dX7_put_28 rfl ?_
  refine lv_topi (fun x_5 ex_5 => ?_)
  refine ti_bastG (ci := 7) (k := 0) (n := 700) C hw ob_2 (by decide) (fun _ _ => rfl) (by unfold vp_in; decide) dX7_put_29 (fun H locs g_6 eg_6 hw => ?_)
  refine lv_aload_n hx hb dX7_put_30 rfl (lv_at hl 1 rfl) ?_
  refine lv_dup hx hb dX7_put_31 rfl ?_
  refine ti_get (ci := 7) (k := 1) (N := 7) (T := TX7) C hw iw_7 rfl ob_2 (by decide) (by decide) fl_X7_15 rfl rfl dX7_put_32 ?_
  refine ti_top (y := 17) (show tI (uI (uY M 2 0 g_3) 2 1 17) 2 1 = _ from tI_u _ _ _ _) ?_
  refine lv_iconst (v := 1) hx hb dX7_put_35 (by decide) ?_
  refine lv_iadd hx hb dX7_put_36 ?_
  refine ti_top (y := 18) (by decide) ?_
  refine ti_putI (ci := 7) (k := 1) (N := 7) (T := TX7) C hw iw_7 tyX7 tyX7_ok nmX7 rfl ob_2 (by decide) (by decide) fl_X7_15 rfl rfl rfl rfl (fn_7 A _) fs_7_1 dX7_put_37 (fun H locs hw => ?_)
  refine lv_iinc (v := 8) (lv' := [(2, .int 8), (0, .ref (A 2 0)), (1, .int z)]) hx hb dX7_put_40 hl (k := 0) rfl (by decide) (by decide) rfl (fun ls hl => ?_)
  refine lv_goto (tgt := 3) hx hb dX7_put_43 (by decide) ?_
  refine lv_iload_n hx hb dX7_put_3 rfl (lv_at hl 0 rfl) ?_
  refine lv_if_lt (tgt := 46) hx hb dX7_put_4 (by decide) (fun c => absurd c (by decide)) (fun c_4 => ?_)
  refine lv_aload_n hx hb dX7_put_7 rfl (lv_at hl 1 rfl) ?_
  refine ti_get (ci := 7) (k := 1) (N := 7) (T := TX7) C hw iw_7 rfl ob_2 (by decide) (by decide) fl_X7_15 rfl rfl dX7_put_8 ?_
  refine ti_top (y := 18) (show tI (uI (uY (uI (uY M 2 0 g_3) 2 1 17) 2 0 g_6) 2 1 18) 2 1 = _ from tI_u _ _ _ _) ?_
  refine lv_sipush (v := 700) hx hb dX7_put_11 (by decide) ?_
  refine lv_icmp_ge (tgt := 40) hx hb dX7_put_14 (by decide) (fun c => absurd c (by decide)) (fun c_14 => ?_)
  refine lv_aload_n hx hb dX7_put_17 rfl (lv_at hl 1 rfl) ?_
  refine ti_get (ci := 7) (k := 0) (N := 7) (T := TX7) (v := .ref (A 2 1)) C hw iw_7 rfl ob_2 (by decide) (by decide) fl_X7_9 rfl rfl dX7_put_18 ?_
  refine lv_aload_n hx hb dX7_put_21 rfl (lv_at hl 1 rfl) ?_
  refine ti_get (ci := 7) (k := 1) (N := 7) (T := TX7) C hw iw_7 rfl ob_2 (by decide) (by decide) fl_X7_15 rfl rfl dX7_put_22 ?_
  refine ti_top (y := 18) (show tI (uI (uY (uI (uY M 2 0 g_3) 2 1 17) 2 0 g_6) 2 1 18) 2 1 = _ from tI_u _ _ _ _) ?_
  refine lv_iload_n hx hb dX7_put_25 rfl (lv_at hl 2 rfl) ?_
  refine lv_iload_n hx hb dX7_put_26 rfl (lv_at hl 0 rfl) ?_
  refine lv_ishr hx hb dX7_put_27 ?_
  refine lv_topi (fun x_7 ex_7 => ?_)
  refine lv_i2b hx hb dX7_put_28 rfl ?_
  refine lv_topi (fun x_8 ex_8 => ?_)
  refine ti_bastG (ci := 7) (k := 0) (n := 700) C hw ob_2 (by decide) (fun _ _ => rfl) (by unfold vp_in; decide) dX7_put_29 (fun H locs g_9 eg_9 hw => ?_)
  refine lv_aload_n hx hb dX7_put_30 rfl (lv_at hl 1 rfl) ?_
  refine lv_dup hx hb dX7_put_31 rfl ?_
  refine ti_get (ci := 7) (k := 1) (N := 7) (T := TX7) C hw iw_7 rfl ob_2 (by decide) (by decide) fl_X7_15 rfl rfl dX7_put_32 ?_
  refine ti_top (y := 18) (show tI (uI (uY (uI (uY M 2 0 g_3) 2 1 17) 2 0 g_6) 2 1 18) 2 1 = _ from tI_u _ _ _ _) ?_
  refine lv_iconst (v := 1) hx hb dX7_put_35 (by decide) ?_
  refine lv_iadd hx hb dX7_put_36 ?_
  refine ti_top (y := 19) (by decide) ?_
  refine ti_putI (ci := 7) (k := 1) (N := 7) (T := TX7) C hw iw_7 tyX7 tyX7_ok nmX7 rfl ob_2 (by decide) (by decide) fl_X7_15 rfl rfl rfl rfl (fn_7 A _) fs_7_1 dX7_put_37 (fun H locs hw => ?_)
  refine lv_iinc (v := 0) (lv' := [(2, .int 0), (0, .ref (A 2 0)), (1, .int z)]) hx hb dX7_put_40 hl (k := 0) rfl (by decide) (by decide) rfl (fun ls hl => ?_)
  refine lv_goto (tgt := 3) hx hb dX7_put_43 (by decide) ?_
  refine lv_iload_n hx hb dX7_put_3 rfl (lv_at hl 0 rfl) ?_
  refine lv_if_lt (tgt := 46) hx hb dX7_put_4 (by decide) (fun c => absurd c (by decide)) (fun c_4 => ?_)
  refine lv_aload_n hx hb dX7_put_7 rfl (lv_at hl 1 rfl) ?_
  refine ti_get (ci := 7) (k := 1) (N := 7) (T := TX7) C hw iw_7 rfl ob_2 (by decide) (by decide) fl_X7_15 rfl rfl dX7_put_8 ?_
  refine ti_top (y := 19) (show tI (uI (uY (uI (uY (uI (uY M 2 0 g_3) 2 1 17) 2 0 g_6) 2 1 18) 2 0 g_9) 2 1 19) 2 1 = _ from tI_u _ _ _ _) ?_
  refine lv_sipush (v := 700) hx hb dX7_put_11 (by decide) ?_
  refine lv_icmp_ge (tgt := 40) hx hb dX7_put_14 (by decide) (fun c => absurd c (by decide)) (fun c_14 => ?_)
  refine lv_aload_n hx hb dX7_put_17 rfl (lv_at hl 1 rfl) ?_
  refine ti_get (ci := 7) (k := 0) (N := 7) (T := TX7) (v := .ref (A 2 1)) C hw iw_7 rfl ob_2 (by decide) (by decide) fl_X7_9 rfl rfl dX7_put_18 ?_
  refine lv_aload_n hx hb dX7_put_21 rfl (lv_at hl 1 rfl) ?_
  refine ti_get (ci := 7) (k := 1) (N := 7) (T := TX7) C hw iw_7 rfl ob_2 (by decide) (by decide) fl_X7_15 rfl rfl dX7_put_22 ?_
  refine ti_top (y := 19) (show tI (uI (uY (uI (uY (uI (uY M 2 0 g_3) 2 1 17) 2 0 g_6) 2 1 18) 2 0 g_9) 2 1 19) 2 1 = _ from tI_u _ _ _ _) ?_
  refine lv_iload_n hx hb dX7_put_25 rfl (lv_at hl 2 rfl) ?_
  refine lv_iload_n hx hb dX7_put_26 rfl (lv_at hl 0 rfl) ?_
  refine lv_ishr hx hb dX7_put_27 ?_
  refine lv_topi (fun x_10 ex_10 => ?_)
  refine lv_i2b hx hb dX7_put_28 rfl ?_
  refine lv_topi (fun x_11 ex_11 => ?_)
  refine ti_bastG (ci := 7) (k := 0) (n := 700) C hw ob_2 (by decide) (fun _ _ => rfl) (by unfold vp_in; decide) dX7_put_29 (fun H locs g_12 eg_12 hw => ?_)
  refine lv_aload_n hx hb dX7_put_30 rfl (lv_at hl 1 rfl) ?_
  refine lv_dup hx hb dX7_put_31 rfl ?_
  refine ti_get (ci := 7) (k := 1) (N := 7) (T := TX7) C hw iw_7 rfl ob_2 (by decide) (by decide) fl_X7_15 rfl rfl dX7_put_32 ?_
  refine ti_top (y := 19) (show tI (uI (uY (uI (uY (uI (uY M 2 0 g_3) 2 1 17) 2 0 g_6) 2 1 18) 2 0 g_9) 2 1 19) 2 1 = _ from tI_u _ _ _ _) ?_
  refine lv_iconst (v := 1) hx hb dX7_put_35 (by decide) ?_
  refine lv_iadd hx hb dX7_put_36 ?_
  refine ti_top (y := 20) (by decide) ?_
  refine ti_putI (ci := 7) (k := 1) (N := 7) (T := TX7) C hw iw_7 tyX7 tyX7_ok nmX7 rfl ob_2 (by decide) (by decide) fl_X7_15 rfl rfl rfl rfl (fn_7 A _) fs_7_1 dX7_put_37 (fun H locs hw => ?_)
  refine lv_iinc (v := (-8)) (lv' := [(2, .int (-8)), (0, .ref (A 2 0)), (1, .int z)]) hx hb dX7_put_40 hl (k := 0) rfl (by decide) (by decide) rfl (fun ls hl => ?_)
  refine lv_goto (tgt := 3) hx hb dX7_put_43 (by decide) ?_
  refine lv_iload_n hx hb dX7_put_3 rfl (lv_at hl 0 rfl) ?_
  refine lv_if_lt (tgt := 46) hx hb dX7_put_4 (by decide) (fun c_4 => ?_) (fun c => absurd (by decide) c)
  exact hQ _ _ _ _ _ hw (show tI (uI (uY (uI (uY (uI (uY (uI (uY M 2 0 g_3) 2 1 17) 2 0 g_6) 2 1 18) 2 0 g_9) 2 1 19) 2 0 g_12) 2 1 20) 2 1 = _ from tI_u _ _ _ _) dX7_put_46
set_option maxHeartbeats 4000000 in
set_option maxRecDepth 100000 in
theorem k_X9_feed (l : Launch) (D : va_G) (A : Nat → Nat → Nat) (cy : Nat → ClassId) (hJ : ti_inj ti_LT A) (M : ti_M) (hF : ti_F M) (z : Int32) (z2 : Int32) (z3 : Int32) (z4 : Int32) (z5 : Int32) : ti_Ki l yX9_feed cX9_feed 7 (some .int) 1 ti_LT D A cy M [.ref (A 0 0), .int z, .int z2, .int z3, .int z4, .int z5] (fun r _ => r = 20) := by
  refine ti_eI yp_X9_feed hJ ti_LT_nd (Nat.le_of_ble_eq_true rfl) ?_
  intro p e s m args below meth c Q H0 C hQ hw ls hl
  have hx := C.1
  have hb := C.2.1
  have hl : lv_has ls 7 [(0, .ref (A 0 0)), (1, .int z), (2, .int z2), (3, .int z3), (4, .int z4), (5, .int z5)] := hl
  obtain ⟨f_told, f_spare, f_nt, f_many, f_fault, f_place, f_men, f_knots, f_mut, f_man, f_min, f_size, f_water, f_first, f_steps, f_img, f_sm, f_sk, f_ss, f_sw, f_p0, f_p1, f_p2⟩ := id hF
  refine lv_aload_n hx hb dX9_feed_0 rfl (lv_at hl 0 rfl) ?_
  refine ti_get (ci := 9) (k := 0) (N := 10) (T := TX9) (v := .ref (A 1 0)) C hw iw_9 rfl ob_0 (by decide) (by decide) fl_X9_12 rfl rfl dX9_feed_1 ?_
  refine ti_get (ci := 4) (k := 0) (N := 6) (T := TX4) (v := .ref (A 2 0)) C hw iw_4 rfl ob_1 (by decide) (by decide) fl_X9_69 rfl rfl dX9_feed_4 ?_
  refine lv_astore (lv' := [(6, .ref (A 2 0)), (0, .ref (A 0 0)), (1, .int z), (2, .int z2), (3, .int z3), (4, .int z4), (5, .int z5)]) hx hb dX9_feed_7 hl (by decide) rfl (fun ls hl => ?_)
  refine lv_aload hx hb dX9_feed_9 (lv_at hl 0 rfl) ?_
  refine ti_get (ci := 7) (k := 1) (N := 7) (T := TX7) C hw iw_7 rfl ob_2 (by decide) (by decide) fl_X9_73 rfl rfl dX9_feed_11 ?_
  refine ti_top (y := 0) f_many ?_
  refine lv_bipush (v := 20) hx hb dX9_feed_14 (by decide) ?_
  refine lv_iadd hx hb dX9_feed_16 ?_
  refine ti_top (y := 20) (by decide) ?_
  refine lv_sipush (v := 700) hx hb dX9_feed_17 (by decide) ?_
  refine lv_icmp_le (tgt := 25) hx hb dX9_feed_20 (by decide) (fun c_20 => ?_) (fun c => absurd (by decide) c)
  refine lv_aload hx hb dX9_feed_25 (lv_at hl 0 rfl) ?_
  refine lv_iload_n hx hb dX9_feed_27 rfl (lv_at hl 2 rfl) ?_
  refine ti_callVv (ci := 7) (av := [.int z]) C hw (k_put_0 l D A cy hJ _ z f_many) ⟨ml_X9_79, ym_X7_put, yv_X7_put, yi_X7_put, yc_X7_put⟩ yd_X7_put ob_2 (by decide) rfl rfl hl.1 (Nat.le_of_ble_eq_true rfl) ⟨by decide, by decide⟩ ⟨Nat.zero_le _, Nat.zero_le _⟩ dX9_feed_28 (fun M_2 H locs hp_2 hw => ?_)
  refine lv_aload hx hb dX9_feed_31 (lv_at hl 0 rfl) ?_
  refine lv_iload_n hx hb dX9_feed_33 rfl (lv_at hl 3 rfl) ?_
  refine ti_callVv (ci := 7) (av := [.int z2]) C hw (k_put_4 l D A cy hJ _ z2 hp_2) ⟨ml_X9_79, ym_X7_put, yv_X7_put, yi_X7_put, yc_X7_put⟩ yd_X7_put ob_2 (by decide) rfl rfl hl.1 (Nat.le_of_ble_eq_true rfl) ⟨by decide, by decide⟩ ⟨Nat.zero_le _, Nat.zero_le _⟩ dX9_feed_34 (fun M_4 H locs hp_4 hw => ?_)
  refine lv_aload hx hb dX9_feed_37 (lv_at hl 0 rfl) ?_
  refine lv_iload_n hx hb dX9_feed_39 rfl (lv_at hl 4 rfl) ?_
  refine ti_callVv (ci := 7) (av := [.int z3]) C hw (k_put_8 l D A cy hJ _ z3 hp_4) ⟨ml_X9_79, ym_X7_put, yv_X7_put, yi_X7_put, yc_X7_put⟩ yd_X7_put ob_2 (by decide) rfl rfl hl.1 (Nat.le_of_ble_eq_true rfl) ⟨by decide, by decide⟩ ⟨Nat.zero_le _, Nat.zero_le _⟩ dX9_feed_40 (fun M_6 H locs hp_6 hw => ?_)
  refine lv_aload hx hb dX9_feed_43 (lv_at hl 0 rfl) ?_
  refine lv_iload hx hb dX9_feed_45 (lv_at hl 5 rfl) ?_
  refine ti_callVv (ci := 7) (av := [.int z4]) C hw (k_put_12 l D A cy hJ _ z4 hp_6) ⟨ml_X9_79, ym_X7_put, yv_X7_put, yi_X7_put, yc_X7_put⟩ yd_X7_put ob_2 (by decide) rfl rfl hl.1 (Nat.le_of_ble_eq_true rfl) ⟨by decide, by decide⟩ ⟨Nat.zero_le _, Nat.zero_le _⟩ dX9_feed_47 (fun M_8 H locs hp_8 hw => ?_)
  refine lv_aload hx hb dX9_feed_50 (lv_at hl 0 rfl) ?_
  refine lv_iload hx hb dX9_feed_52 (lv_at hl 6 rfl) ?_
  refine ti_callVv (ci := 7) (av := [.int z5]) C hw (k_put_16 l D A cy hJ _ z5 hp_8) ⟨ml_X9_79, ym_X7_put, yv_X7_put, yi_X7_put, yc_X7_put⟩ yd_X7_put ob_2 (by decide) rfl rfl hl.1 (Nat.le_of_ble_eq_true rfl) ⟨by decide, by decide⟩ ⟨Nat.zero_le _, Nat.zero_le _⟩ dX9_feed_54 (fun M_10 H locs hp_10 hw => ?_)
  refine lv_aload hx hb dX9_feed_57 (lv_at hl 0 rfl) ?_
  refine ti_get (ci := 7) (k := 1) (N := 7) (T := TX7) C hw iw_7 rfl ob_2 (by decide) (by decide) fl_X9_73 rfl rfl dX9_feed_59 ?_
  refine ti_top (y := 20) hp_10 ?_
  exact hQ _ _ _ _ _ _ hw rfl rfl dX9_feed_62
set_option maxHeartbeats 4000000 in
set_option maxRecDepth 100000 in
theorem k_X7_peek (l : Launch) (D : va_G) (A : Nat → Nat → Nat) (cy : Nat → ClassId) (hJ : ti_inj ti_LT A) (M : ti_M) (h3 : tI M 2 3 = 0) (h2 : tI M 2 2 = 0) : ti_Ki l yX7_peek cX7_peek 1 (some .int) 0 ti_LT D A cy M [.ref (A 2 0)] (fun r M2 => M2 = M ∧ r = (-1)) := by
  refine ti_eI yp_X7_peek hJ ti_LT_nd (Nat.le_of_ble_eq_true rfl) ?_
  intro p e s m args below meth c Q H0 C hQ hw ls hl
  have hx := C.1
  have hb := C.2.1
  have hl : lv_has ls 1 [(0, .ref (A 2 0))] := hl
  refine lv_aload_n hx hb dX7_peek_0 rfl (lv_at hl 0 rfl) ?_
  refine ti_get (ci := 7) (k := 3) (N := 7) (T := TX7) C hw iw_7 rfl ob_2 (by decide) (by decide) fl_X7_22 rfl rfl dX7_peek_1 ?_
  refine ti_top (y := 0) h3 ?_
  refine lv_aload_n hx hb dX7_peek_4 rfl (lv_at hl 0 rfl) ?_
  refine ti_get (ci := 7) (k := 2) (N := 7) (T := TX7) C hw iw_7 rfl ob_2 (by decide) (by decide) fl_X7_19 rfl rfl dX7_peek_5 ?_
  refine ti_top (y := 0) h2 ?_
  refine lv_icmp_ge (tgt := 27) hx hb dX7_peek_8 (by decide) (fun c_8 => ?_) (fun c => absurd (by decide) c)
  refine lv_iconst (v := (-1)) hx hb dX7_peek_27 (by decide) ?_
  exact hQ _ _ _ _ _ _ hw rfl (⟨rfl, rfl⟩) dX7_peek_28
set_option maxHeartbeats 4000000 in
set_option maxRecDepth 100000 in
theorem k_X7_advance (l : Launch) (D : va_G) (A : Nat → Nat → Nat) (cy : Nat → ClassId) (hJ : ti_inj ti_LT A) (M : ti_M) (h3 : tI M 2 3 = 0) (h2 : tI M 2 2 = 0) : ti_Kv l yX7_advance cX7_advance 2 1 ti_LT D A cy M [.ref (A 2 0)] (fun M2 => M2 = (uI (uI (uI M 2 5 0) 2 6 0) 2 4 27)) := by
  refine ti_eV yp_X7_advance hJ ti_LT_nd (Nat.le_of_ble_eq_true rfl) ?_
  intro p e s m args below meth c Q H0 C hQ hw ls hl
  have hx := C.1
  have hb := C.2.1
  have hl : lv_has ls 2 [(0, .ref (A 2 0))] := hl
  refine lv_aload_n hx hb dX7_advance_0 rfl (lv_at hl 0 rfl) ?_
  refine ti_get (ci := 7) (k := 3) (N := 7) (T := TX7) C hw iw_7 rfl ob_2 (by decide) (by decide) fl_X7_22 rfl rfl dX7_advance_1 ?_
  refine ti_top (y := 0) h3 ?_
  refine lv_aload_n hx hb dX7_advance_4 rfl (lv_at hl 0 rfl) ?_
  refine ti_get (ci := 7) (k := 2) (N := 7) (T := TX7) C hw iw_7 rfl ob_2 (by decide) (by decide) fl_X7_19 rfl rfl dX7_advance_5 ?_
  refine ti_top (y := 0) h2 ?_
  refine lv_icmp_ge (tgt := 42) hx hb dX7_advance_8 (by decide) (fun c_8 => ?_) (fun c => absurd (by decide) c)
  refine lv_aload_n hx hb dX7_advance_42 rfl (lv_at hl 0 rfl) ?_
  refine lv_aload_n hx hb dX7_advance_43 rfl (lv_at hl 0 rfl) ?_
  refine ti_get (ci := 7) (k := 3) (N := 7) (T := TX7) C hw iw_7 rfl ob_2 (by decide) (by decide) fl_X7_22 rfl rfl dX7_advance_44 ?_
  refine ti_top (y := 0) h3 ?_
  refine ti_putI (ci := 7) (k := 5) (N := 7) (T := TX7) C hw iw_7 tyX7 tyX7_ok nmX7 rfl ob_2 (by decide) (by decide) fl_X7_38 rfl rfl rfl rfl (fn_7 A _) fs_7_5 dX7_advance_47 (fun H locs hw => ?_)
  refine lv_aload_n hx hb dX7_advance_50 rfl (lv_at hl 0 rfl) ?_
  refine lv_iconst (v := 0) hx hb dX7_advance_51 (by decide) ?_
  refine ti_putI (ci := 7) (k := 6) (N := 7) (T := TX7) C hw iw_7 tyX7 tyX7_ok nmX7 rfl ob_2 (by decide) (by decide) fl_X7_41 rfl rfl rfl rfl (fn_7 A _) fs_7_6 dX7_advance_52 (fun H locs hw => ?_)
  refine lv_aload_n hx hb dX7_advance_55 rfl (lv_at hl 0 rfl) ?_
  refine ti_callVi (ci := 7) (av := []) C hw (k_X7_peek l D A cy hJ _ h3 h2) ⟨ml_X7_34, ym_X7_peek, yv_X7_peek, yi_X7_peek, yc_X7_peek⟩ yd_X7_peek ob_2 (by decide) rfl rfl hl.1 (Nat.le_of_ble_eq_true rfl) ⟨by decide, by decide⟩ ⟨Nat.zero_le _, Nat.zero_le _⟩ dX7_advance_56 (fun r_1 M_2 H locs hp_2 hw => ?_)
  obtain ⟨hm, rfl⟩ := hp_2
  have hw := hw.to hm
  refine lv_istore_n (lv' := [(1, .int (-1)), (0, .ref (A 2 0))]) hx hb dX7_advance_59 rfl hl (by decide) rfl (fun ls hl => ?_)
  refine lv_iload_n hx hb dX7_advance_60 rfl (lv_at hl 0 rfl) ?_
  refine lv_iconst (v := (-1)) hx hb dX7_advance_61 (by decide) ?_
  refine lv_icmp_ne (tgt := 74) hx hb dX7_advance_62 (by decide) (fun c => absurd (by decide) c) (fun c_62 => ?_)
  refine lv_aload_n hx hb dX7_advance_65 rfl (lv_at hl 1 rfl) ?_
  refine lv_bipush (v := 27) hx hb dX7_advance_66 (by decide) ?_
  refine ti_putI (ci := 7) (k := 4) (N := 7) (T := TX7) C hw iw_7 tyX7 tyX7_ok nmX7 rfl ob_2 (by decide) (by decide) fl_X7_44 rfl rfl rfl rfl (fn_7 A _) fs_7_4 dX7_advance_68 (fun H locs hw => ?_)
  refine lv_goto (tgt := 121) hx hb dX7_advance_71 (by decide) ?_
  exact hQ _ _ _ _ _ hw rfl dX7_advance_121
set_option maxHeartbeats 4000000 in
set_option maxRecDepth 100000 in
theorem k_X7_begin (l : Launch) (D : va_G) (A : Nat → Nat → Nat) (cy : Nat → ClassId) (hJ : ti_inj ti_LT A) (M : ti_M)  : ti_Kv l yX7_begin cX7_begin 2 2 ti_LT D A cy M [.ref (A 2 0), .int 0] (fun M2 => M2 = (uI (uI (uI (uI (uI M 2 2 0) 2 3 0) 2 5 0) 2 6 0) 2 4 27)) := by
  refine ti_eV yp_X7_begin hJ ti_LT_nd (Nat.le_of_ble_eq_true rfl) ?_
  intro p e s m args below meth c Q H0 C hQ hw ls hl
  have hx := C.1
  have hb := C.2.1
  have hl : lv_has ls 2 [(0, .ref (A 2 0)), (1, .int 0)] := hl
  refine lv_aload_n hx hb dX7_begin_0 rfl (lv_at hl 0 rfl) ?_
  refine lv_iload_n hx hb dX7_begin_1 rfl (lv_at hl 1 rfl) ?_
  refine lv_sipush (v := 700) hx hb dX7_begin_2 (by decide) ?_
  refine ti_min C ml_X7_25 hl.1 (by decide) (Nat.le_of_ble_eq_true rfl) ⟨Nat.zero_le _, Nat.zero_le _⟩ dX7_begin_5 ?_
  refine ti_top (y := 0) (by decide) ?_
  refine ti_putI (ci := 7) (k := 2) (N := 7) (T := TX7) C hw iw_7 tyX7 tyX7_ok nmX7 rfl ob_2 (by decide) (by decide) fl_X7_19 rfl rfl rfl rfl (fn_7 A _) fs_7_2 dX7_begin_8 (fun H locs hw => ?_)
  refine lv_aload_n hx hb dX7_begin_11 rfl (lv_at hl 0 rfl) ?_
  refine lv_iconst (v := 0) hx hb dX7_begin_12 (by decide) ?_
  refine ti_putI (ci := 7) (k := 3) (N := 7) (T := TX7) C hw iw_7 tyX7 tyX7_ok nmX7 rfl ob_2 (by decide) (by decide) fl_X7_22 rfl rfl rfl rfl (fn_7 A _) fs_7_3 dX7_begin_13 (fun H locs hw => ?_)
  refine lv_aload_n hx hb dX7_begin_16 rfl (lv_at hl 0 rfl) ?_
  refine ti_callVv (ci := 7) (av := []) C hw (k_X7_advance l D A cy hJ _ (show tI (uI (uI M 2 2 0) 2 3 0) 2 3 = _ from tI_u _ _ _ _) (show tI (uI M 2 2 0) 2 2 = _ from tI_u _ _ _ _)) ⟨ml_X7_31, ym_X7_advance, yv_X7_advance, yi_X7_advance, yc_X7_advance⟩ yd_X7_advance ob_2 (by decide) rfl rfl hl.1 (Nat.le_of_ble_eq_true rfl) ⟨by decide, by decide⟩ ⟨Nat.zero_le _, Nat.zero_le _⟩ dX7_begin_17 (fun M_2 H locs hp_2 hw => ?_)
  have hw := hw.to hp_2
  exact hQ _ _ _ _ _ hw rfl dX7_begin_20
set_option maxHeartbeats 4000000 in
set_option maxRecDepth 100000 in
theorem k_clear_3 (l : Launch) (D : va_G) (A : Nat → Nat → Nat) (cy : Nat → ClassId) (hJ : ti_inj ti_LT A) (M : ti_M)  : ti_Kv l yX8_clear cX8_clear 2 0 ti_LT D A cy M [.ref (A 3 0)] (fun M2 => ∃ g_1 g_2 g_3 : Nat → Int32, M2 = (uI (uI (uI (uY (uY (uY (uI (uI (uI (uI (uI (uI (uI (uI (uI M 3 3 0) 3 4 0) 3 5 0) 3 6 200) 3 7 2) 3 8 10) 3 9 3) 3 10 0) 3 11 0) 3 1 g_1) 3 1 g_2) 3 1 g_3) 21 3 0) 22 3 0) 23 3 0) ∧ g_3 0 = 0 ∧ g_3 1 = 1 ∧ g_3 2 = 2) := by
  refine ti_eV yp_X8_clear hJ ti_LT_nd (Nat.le_of_ble_eq_true rfl) ?_
  intro p e s m args below meth c Q H0 C hQ hw ls hl
  have hx := C.1
  have hb := C.2.1
  have hl : lv_has ls 2 [(0, .ref (A 3 0))] := hl
  refine lv_aload_n hx hb dX8_clear_0 rfl (lv_at hl 0 rfl) ?_
  refine lv_iconst (v := 0) hx hb dX8_clear_1 (by decide) ?_
  refine ti_putI (ci := 8) (k := 3) (N := 12) (T := TX8) C hw iw_8 tyX8 tyX8_ok nmX8 rfl ob_3 (by decide) (by decide) fl_X8_32 rfl rfl rfl rfl (fn_8 A _) fs_8_3 dX8_clear_2 (fun H locs hw => ?_)
  refine lv_aload_n hx hb dX8_clear_5 rfl (lv_at hl 0 rfl) ?_
  refine lv_iconst (v := 0) hx hb dX8_clear_6 (by decide) ?_
  refine ti_putI (ci := 8) (k := 4) (N := 12) (T := TX8) C hw iw_8 tyX8 tyX8_ok nmX8 rfl ob_3 (by decide) (by decide) fl_X8_36 rfl rfl rfl rfl (fn_8 A _) fs_8_4 dX8_clear_7 (fun H locs hw => ?_)
  refine lv_aload_n hx hb dX8_clear_10 rfl (lv_at hl 0 rfl) ?_
  refine lv_iconst (v := 0) hx hb dX8_clear_11 (by decide) ?_
  refine ti_putI (ci := 8) (k := 5) (N := 12) (T := TX8) C hw iw_8 tyX8 tyX8_ok nmX8 rfl ob_3 (by decide) (by decide) fl_X8_39 rfl rfl rfl rfl (fn_8 A _) fs_8_5 dX8_clear_12 (fun H locs hw => ?_)
  refine lv_aload_n hx hb dX8_clear_15 rfl (lv_at hl 0 rfl) ?_
  refine lv_sipush (v := 200) hx hb dX8_clear_16 (by decide) ?_
  refine ti_putI (ci := 8) (k := 6) (N := 12) (T := TX8) C hw iw_8 tyX8 tyX8_ok nmX8 rfl ob_3 (by decide) (by decide) fl_X8_42 rfl rfl rfl rfl (fn_8 A _) fs_8_6 dX8_clear_19 (fun H locs hw => ?_)
  refine lv_aload_n hx hb dX8_clear_22 rfl (lv_at hl 0 rfl) ?_
  refine lv_iconst (v := 2) hx hb dX8_clear_23 (by decide) ?_
  refine ti_putI (ci := 8) (k := 7) (N := 12) (T := TX8) C hw iw_8 tyX8 tyX8_ok nmX8 rfl ob_3 (by decide) (by decide) fl_X8_45 rfl rfl rfl rfl (fn_8 A _) fs_8_7 dX8_clear_24 (fun H locs hw => ?_)
  refine lv_aload_n hx hb dX8_clear_27 rfl (lv_at hl 0 rfl) ?_
  refine lv_bipush (v := 10) hx hb dX8_clear_28 (by decide) ?_
  refine ti_putI (ci := 8) (k := 8) (N := 12) (T := TX8) C hw iw_8 tyX8 tyX8_ok nmX8 rfl ob_3 (by decide) (by decide) fl_X8_48 rfl rfl rfl rfl (fn_8 A _) fs_8_8 dX8_clear_30 (fun H locs hw => ?_)
  refine lv_aload_n hx hb dX8_clear_33 rfl (lv_at hl 0 rfl) ?_
  refine lv_iconst (v := 3) hx hb dX8_clear_34 (by decide) ?_
  refine ti_putI (ci := 8) (k := 9) (N := 12) (T := TX8) C hw iw_8 tyX8 tyX8_ok nmX8 rfl ob_3 (by decide) (by decide) fl_X8_51 rfl rfl rfl rfl (fn_8 A _) fs_8_9 dX8_clear_35 (fun H locs hw => ?_)
  refine lv_aload_n hx hb dX8_clear_38 rfl (lv_at hl 0 rfl) ?_
  refine lv_iconst (v := 0) hx hb dX8_clear_39 (by decide) ?_
  refine ti_putI (ci := 8) (k := 10) (N := 12) (T := TX8) C hw iw_8 tyX8 tyX8_ok nmX8 rfl ob_3 (by decide) (by decide) fl_X8_54 rfl rfl rfl rfl (fn_8 A _) fs_8_10 dX8_clear_40 (fun H locs hw => ?_)
  refine lv_aload_n hx hb dX8_clear_43 rfl (lv_at hl 0 rfl) ?_
  refine lv_iconst (v := 0) hx hb dX8_clear_44 (by decide) ?_
  refine ti_putI (ci := 8) (k := 11) (N := 12) (T := TX8) C hw iw_8 tyX8 tyX8_ok nmX8 rfl ob_3 (by decide) (by decide) fl_X8_57 rfl rfl rfl rfl (fn_8 A _) fs_8_11 dX8_clear_45 (fun H locs hw => ?_)
  refine lv_iconst (v := 0) hx hb dX8_clear_48 (by decide) ?_
  refine lv_istore_n (lv' := [(1, .int 0), (0, .ref (A 3 0))]) hx hb dX8_clear_49 rfl hl (by decide) rfl (fun ls hl => ?_)
  refine lv_iload_n hx hb dX8_clear_50 rfl (lv_at hl 0 rfl) ?_
  refine lv_iconst (v := 3) hx hb dX8_clear_51 (by decide) ?_
  refine lv_icmp_ge (tgt := 68) hx hb dX8_clear_52 (by decide) (fun c => absurd c (by decide)) (fun c_52 => ?_)
  refine lv_aload_n hx hb dX8_clear_55 rfl (lv_at hl 1 rfl) ?_
  refine ti_get (ci := 8) (k := 1) (N := 12) (T := TX8) (v := .ref (A 3 2)) C hw iw_8 rfl ob_3 (by decide) (by decide) fl_X8_17 rfl rfl dX8_clear_56 ?_
  refine lv_iload_n hx hb dX8_clear_59 rfl (lv_at hl 0 rfl) ?_
  refine lv_iload_n hx hb dX8_clear_60 rfl (lv_at hl 0 rfl) ?_
  refine ti_iastG (ci := 8) (k := 1) (n := 3) C hw ob_3 (by decide) (fun _ _ => rfl) (by unfold vp_in; decide) dX8_clear_61 (fun H locs g_1 eg_1 hw => ?_)
  refine lv_iinc (v := 1) (lv' := [(1, .int 1), (0, .ref (A 3 0))]) hx hb dX8_clear_62 hl (k := 0) rfl (by decide) (by decide) rfl (fun ls hl => ?_)
  refine lv_goto (tgt := 50) hx hb dX8_clear_65 (by decide) ?_
  refine lv_iload_n hx hb dX8_clear_50 rfl (lv_at hl 0 rfl) ?_
  refine lv_iconst (v := 3) hx hb dX8_clear_51 (by decide) ?_
  refine lv_icmp_ge (tgt := 68) hx hb dX8_clear_52 (by decide) (fun c => absurd c (by decide)) (fun c_52 => ?_)
  refine lv_aload_n hx hb dX8_clear_55 rfl (lv_at hl 1 rfl) ?_
  refine ti_get (ci := 8) (k := 1) (N := 12) (T := TX8) (v := .ref (A 3 2)) C hw iw_8 rfl ob_3 (by decide) (by decide) fl_X8_17 rfl rfl dX8_clear_56 ?_
  refine lv_iload_n hx hb dX8_clear_59 rfl (lv_at hl 0 rfl) ?_
  refine lv_iload_n hx hb dX8_clear_60 rfl (lv_at hl 0 rfl) ?_
  refine ti_iastG (ci := 8) (k := 1) (n := 3) C hw ob_3 (by decide) (fun _ _ => rfl) (by unfold vp_in; decide) dX8_clear_61 (fun H locs g_2 eg_2 hw => ?_)
  refine lv_iinc (v := 2) (lv' := [(1, .int 2), (0, .ref (A 3 0))]) hx hb dX8_clear_62 hl (k := 0) rfl (by decide) (by decide) rfl (fun ls hl => ?_)
  refine lv_goto (tgt := 50) hx hb dX8_clear_65 (by decide) ?_
  refine lv_iload_n hx hb dX8_clear_50 rfl (lv_at hl 0 rfl) ?_
  refine lv_iconst (v := 3) hx hb dX8_clear_51 (by decide) ?_
  refine lv_icmp_ge (tgt := 68) hx hb dX8_clear_52 (by decide) (fun c => absurd c (by decide)) (fun c_52 => ?_)
  refine lv_aload_n hx hb dX8_clear_55 rfl (lv_at hl 1 rfl) ?_
  refine ti_get (ci := 8) (k := 1) (N := 12) (T := TX8) (v := .ref (A 3 2)) C hw iw_8 rfl ob_3 (by decide) (by decide) fl_X8_17 rfl rfl dX8_clear_56 ?_
  refine lv_iload_n hx hb dX8_clear_59 rfl (lv_at hl 0 rfl) ?_
  refine lv_iload_n hx hb dX8_clear_60 rfl (lv_at hl 0 rfl) ?_
  refine ti_iastG (ci := 8) (k := 1) (n := 3) C hw ob_3 (by decide) (fun _ _ => rfl) (by unfold vp_in; decide) dX8_clear_61 (fun H locs g_3 eg_3 hw => ?_)
  refine lv_iinc (v := 3) (lv' := [(1, .int 3), (0, .ref (A 3 0))]) hx hb dX8_clear_62 hl (k := 0) rfl (by decide) (by decide) rfl (fun ls hl => ?_)
  refine lv_goto (tgt := 50) hx hb dX8_clear_65 (by decide) ?_
  refine lv_iload_n hx hb dX8_clear_50 rfl (lv_at hl 0 rfl) ?_
  refine lv_iconst (v := 3) hx hb dX8_clear_51 (by decide) ?_
  refine lv_icmp_ge (tgt := 68) hx hb dX8_clear_52 (by decide) (fun c_52 => ?_) (fun c => absurd (by decide) c)
  refine lv_iconst (v := 0) hx hb dX8_clear_68 (by decide) ?_
  refine lv_istore_n (lv' := [(1, .int 0), (0, .ref (A 3 0))]) hx hb dX8_clear_69 rfl hl (by decide) rfl (fun ls hl => ?_)
  refine lv_iload_n hx hb dX8_clear_70 rfl (lv_at hl 0 rfl) ?_
  refine lv_iconst (v := 3) hx hb dX8_clear_71 (by decide) ?_
  refine lv_icmp_ge (tgt := 91) hx hb dX8_clear_72 (by decide) (fun c => absurd c (by decide)) (fun c_72 => ?_)
  refine lv_aload_n hx hb dX8_clear_75 rfl (lv_at hl 1 rfl) ?_
  refine ti_get (ci := 8) (k := 2) (N := 12) (T := TX8) (v := .ref (A 3 3)) C hw iw_8 rfl ob_3 (by decide) (by decide) fl_X8_23 rfl rfl dX8_clear_76 ?_
  refine lv_iload_n hx hb dX8_clear_79 rfl (lv_at hl 0 rfl) ?_
  refine ti_aald (ci := 8) (k := 2) (n := 3) (t0 := 4) (Cn := RX1) (gg := (ti_laws 3)) (j := 0) C hw ob_3 (by decide) (fun _ _ => rfl) rfl (by unfold vp_in; decide) (by decide) dX8_clear_80 ?_
  refine ti_topv (y := .ref (A 21 0)) rfl ?_
  refine lv_iconst (v := 0) hx hb dX8_clear_81 (by decide) ?_
  refine ti_putI (ci := 1) (k := 3) (N := 4) (T := TX1) C hw iw_1 tyX1 tyX1_ok nmX1 rfl ob_21 (by decide) (by decide) fl_X8_60 rfl rfl rfl rfl (fn_1 A _) fs_1_3 dX8_clear_82 (fun H locs hw => ?_)
  refine lv_iinc (v := 1) (lv' := [(1, .int 1), (0, .ref (A 3 0))]) hx hb dX8_clear_85 hl (k := 0) rfl (by decide) (by decide) rfl (fun ls hl => ?_)
  refine lv_goto (tgt := 70) hx hb dX8_clear_88 (by decide) ?_
  refine lv_iload_n hx hb dX8_clear_70 rfl (lv_at hl 0 rfl) ?_
  refine lv_iconst (v := 3) hx hb dX8_clear_71 (by decide) ?_
  refine lv_icmp_ge (tgt := 91) hx hb dX8_clear_72 (by decide) (fun c => absurd c (by decide)) (fun c_72 => ?_)
  refine lv_aload_n hx hb dX8_clear_75 rfl (lv_at hl 1 rfl) ?_
  refine ti_get (ci := 8) (k := 2) (N := 12) (T := TX8) (v := .ref (A 3 3)) C hw iw_8 rfl ob_3 (by decide) (by decide) fl_X8_23 rfl rfl dX8_clear_76 ?_
  refine lv_iload_n hx hb dX8_clear_79 rfl (lv_at hl 0 rfl) ?_
  refine ti_aald (ci := 8) (k := 2) (n := 3) (t0 := 4) (Cn := RX1) (gg := (ti_laws 3)) (j := 1) C hw ob_3 (by decide) (fun _ _ => rfl) rfl (by unfold vp_in; decide) (by decide) dX8_clear_80 ?_
  refine ti_topv (y := .ref (A 22 0)) rfl ?_
  refine lv_iconst (v := 0) hx hb dX8_clear_81 (by decide) ?_
  refine ti_putI (ci := 1) (k := 3) (N := 4) (T := TX1) C hw iw_1 tyX1 tyX1_ok nmX1 rfl ob_22 (by decide) (by decide) fl_X8_60 rfl rfl rfl rfl (fn_1 A _) fs_1_3 dX8_clear_82 (fun H locs hw => ?_)
  refine lv_iinc (v := 2) (lv' := [(1, .int 2), (0, .ref (A 3 0))]) hx hb dX8_clear_85 hl (k := 0) rfl (by decide) (by decide) rfl (fun ls hl => ?_)
  refine lv_goto (tgt := 70) hx hb dX8_clear_88 (by decide) ?_
  refine lv_iload_n hx hb dX8_clear_70 rfl (lv_at hl 0 rfl) ?_
  refine lv_iconst (v := 3) hx hb dX8_clear_71 (by decide) ?_
  refine lv_icmp_ge (tgt := 91) hx hb dX8_clear_72 (by decide) (fun c => absurd c (by decide)) (fun c_72 => ?_)
  refine lv_aload_n hx hb dX8_clear_75 rfl (lv_at hl 1 rfl) ?_
  refine ti_get (ci := 8) (k := 2) (N := 12) (T := TX8) (v := .ref (A 3 3)) C hw iw_8 rfl ob_3 (by decide) (by decide) fl_X8_23 rfl rfl dX8_clear_76 ?_
  refine lv_iload_n hx hb dX8_clear_79 rfl (lv_at hl 0 rfl) ?_
  refine ti_aald (ci := 8) (k := 2) (n := 3) (t0 := 4) (Cn := RX1) (gg := (ti_laws 3)) (j := 2) C hw ob_3 (by decide) (fun _ _ => rfl) rfl (by unfold vp_in; decide) (by decide) dX8_clear_80 ?_
  refine ti_topv (y := .ref (A 23 0)) rfl ?_
  refine lv_iconst (v := 0) hx hb dX8_clear_81 (by decide) ?_
  refine ti_putI (ci := 1) (k := 3) (N := 4) (T := TX1) C hw iw_1 tyX1 tyX1_ok nmX1 rfl ob_23 (by decide) (by decide) fl_X8_60 rfl rfl rfl rfl (fn_1 A _) fs_1_3 dX8_clear_82 (fun H locs hw => ?_)
  refine lv_iinc (v := 3) (lv' := [(1, .int 3), (0, .ref (A 3 0))]) hx hb dX8_clear_85 hl (k := 0) rfl (by decide) (by decide) rfl (fun ls hl => ?_)
  refine lv_goto (tgt := 70) hx hb dX8_clear_88 (by decide) ?_
  refine lv_iload_n hx hb dX8_clear_70 rfl (lv_at hl 0 rfl) ?_
  refine lv_iconst (v := 3) hx hb dX8_clear_71 (by decide) ?_
  refine lv_icmp_ge (tgt := 91) hx hb dX8_clear_72 (by decide) (fun c_72 => ?_) (fun c => absurd (by decide) c)
  exact hQ _ _ _ _ _ hw (⟨g_1, g_2, g_3, rfl, by simp only [eg_3, eg_2, eg_1, tY_u]; rfl, by simp only [eg_3, eg_2, eg_1, tY_u]; rfl, by simp only [eg_3, eg_2, eg_1, tY_u]; rfl⟩) dX8_clear_91
set_option maxHeartbeats 4000000 in
set_option maxRecDepth 100000 in
theorem k_clear_4 (l : Launch) (D : va_G) (A : Nat → Nat → Nat) (cy : Nat → ClassId) (hJ : ti_inj ti_LT A) (M : ti_M)  : ti_Kv l yX8_clear cX8_clear 2 0 ti_LT D A cy M [.ref (A 4 0)] (fun M2 => ∃ g_1 g_2 g_3 : Nat → Int32, M2 = (uI (uI (uI (uY (uY (uY (uI (uI (uI (uI (uI (uI (uI (uI (uI M 4 3 0) 4 4 0) 4 5 0) 4 6 200) 4 7 2) 4 8 10) 4 9 3) 4 10 0) 4 11 0) 4 1 g_1) 4 1 g_2) 4 1 g_3) 24 3 0) 25 3 0) 26 3 0) ∧ g_3 0 = 0 ∧ g_3 1 = 1 ∧ g_3 2 = 2) := by
  refine ti_eV yp_X8_clear hJ ti_LT_nd (Nat.le_of_ble_eq_true rfl) ?_
  intro p e s m args below meth c Q H0 C hQ hw ls hl
  have hx := C.1
  have hb := C.2.1
  have hl : lv_has ls 2 [(0, .ref (A 4 0))] := hl
  refine lv_aload_n hx hb dX8_clear_0 rfl (lv_at hl 0 rfl) ?_
  refine lv_iconst (v := 0) hx hb dX8_clear_1 (by decide) ?_
  refine ti_putI (ci := 8) (k := 3) (N := 12) (T := TX8) C hw iw_8 tyX8 tyX8_ok nmX8 rfl ob_4 (by decide) (by decide) fl_X8_32 rfl rfl rfl rfl (fn_8 A _) fs_8_3 dX8_clear_2 (fun H locs hw => ?_)
  refine lv_aload_n hx hb dX8_clear_5 rfl (lv_at hl 0 rfl) ?_
  refine lv_iconst (v := 0) hx hb dX8_clear_6 (by decide) ?_
  refine ti_putI (ci := 8) (k := 4) (N := 12) (T := TX8) C hw iw_8 tyX8 tyX8_ok nmX8 rfl ob_4 (by decide) (by decide) fl_X8_36 rfl rfl rfl rfl (fn_8 A _) fs_8_4 dX8_clear_7 (fun H locs hw => ?_)
  refine lv_aload_n hx hb dX8_clear_10 rfl (lv_at hl 0 rfl) ?_
  refine lv_iconst (v := 0) hx hb dX8_clear_11 (by decide) ?_
  refine ti_putI (ci := 8) (k := 5) (N := 12) (T := TX8) C hw iw_8 tyX8 tyX8_ok nmX8 rfl ob_4 (by decide) (by decide) fl_X8_39 rfl rfl rfl rfl (fn_8 A _) fs_8_5 dX8_clear_12 (fun H locs hw => ?_)
  refine lv_aload_n hx hb dX8_clear_15 rfl (lv_at hl 0 rfl) ?_
  refine lv_sipush (v := 200) hx hb dX8_clear_16 (by decide) ?_
  refine ti_putI (ci := 8) (k := 6) (N := 12) (T := TX8) C hw iw_8 tyX8 tyX8_ok nmX8 rfl ob_4 (by decide) (by decide) fl_X8_42 rfl rfl rfl rfl (fn_8 A _) fs_8_6 dX8_clear_19 (fun H locs hw => ?_)
  refine lv_aload_n hx hb dX8_clear_22 rfl (lv_at hl 0 rfl) ?_
  refine lv_iconst (v := 2) hx hb dX8_clear_23 (by decide) ?_
  refine ti_putI (ci := 8) (k := 7) (N := 12) (T := TX8) C hw iw_8 tyX8 tyX8_ok nmX8 rfl ob_4 (by decide) (by decide) fl_X8_45 rfl rfl rfl rfl (fn_8 A _) fs_8_7 dX8_clear_24 (fun H locs hw => ?_)
  refine lv_aload_n hx hb dX8_clear_27 rfl (lv_at hl 0 rfl) ?_
  refine lv_bipush (v := 10) hx hb dX8_clear_28 (by decide) ?_
  refine ti_putI (ci := 8) (k := 8) (N := 12) (T := TX8) C hw iw_8 tyX8 tyX8_ok nmX8 rfl ob_4 (by decide) (by decide) fl_X8_48 rfl rfl rfl rfl (fn_8 A _) fs_8_8 dX8_clear_30 (fun H locs hw => ?_)
  refine lv_aload_n hx hb dX8_clear_33 rfl (lv_at hl 0 rfl) ?_
  refine lv_iconst (v := 3) hx hb dX8_clear_34 (by decide) ?_
  refine ti_putI (ci := 8) (k := 9) (N := 12) (T := TX8) C hw iw_8 tyX8 tyX8_ok nmX8 rfl ob_4 (by decide) (by decide) fl_X8_51 rfl rfl rfl rfl (fn_8 A _) fs_8_9 dX8_clear_35 (fun H locs hw => ?_)
  refine lv_aload_n hx hb dX8_clear_38 rfl (lv_at hl 0 rfl) ?_
  refine lv_iconst (v := 0) hx hb dX8_clear_39 (by decide) ?_
  refine ti_putI (ci := 8) (k := 10) (N := 12) (T := TX8) C hw iw_8 tyX8 tyX8_ok nmX8 rfl ob_4 (by decide) (by decide) fl_X8_54 rfl rfl rfl rfl (fn_8 A _) fs_8_10 dX8_clear_40 (fun H locs hw => ?_)
  refine lv_aload_n hx hb dX8_clear_43 rfl (lv_at hl 0 rfl) ?_
  refine lv_iconst (v := 0) hx hb dX8_clear_44 (by decide) ?_
  refine ti_putI (ci := 8) (k := 11) (N := 12) (T := TX8) C hw iw_8 tyX8 tyX8_ok nmX8 rfl ob_4 (by decide) (by decide) fl_X8_57 rfl rfl rfl rfl (fn_8 A _) fs_8_11 dX8_clear_45 (fun H locs hw => ?_)
  refine lv_iconst (v := 0) hx hb dX8_clear_48 (by decide) ?_
  refine lv_istore_n (lv' := [(1, .int 0), (0, .ref (A 4 0))]) hx hb dX8_clear_49 rfl hl (by decide) rfl (fun ls hl => ?_)
  refine lv_iload_n hx hb dX8_clear_50 rfl (lv_at hl 0 rfl) ?_
  refine lv_iconst (v := 3) hx hb dX8_clear_51 (by decide) ?_
  refine lv_icmp_ge (tgt := 68) hx hb dX8_clear_52 (by decide) (fun c => absurd c (by decide)) (fun c_52 => ?_)
  refine lv_aload_n hx hb dX8_clear_55 rfl (lv_at hl 1 rfl) ?_
  refine ti_get (ci := 8) (k := 1) (N := 12) (T := TX8) (v := .ref (A 4 2)) C hw iw_8 rfl ob_4 (by decide) (by decide) fl_X8_17 rfl rfl dX8_clear_56 ?_
  refine lv_iload_n hx hb dX8_clear_59 rfl (lv_at hl 0 rfl) ?_
  refine lv_iload_n hx hb dX8_clear_60 rfl (lv_at hl 0 rfl) ?_
  refine ti_iastG (ci := 8) (k := 1) (n := 3) C hw ob_4 (by decide) (fun _ _ => rfl) (by unfold vp_in; decide) dX8_clear_61 (fun H locs g_1 eg_1 hw => ?_)
  refine lv_iinc (v := 1) (lv' := [(1, .int 1), (0, .ref (A 4 0))]) hx hb dX8_clear_62 hl (k := 0) rfl (by decide) (by decide) rfl (fun ls hl => ?_)
  refine lv_goto (tgt := 50) hx hb dX8_clear_65 (by decide) ?_
  refine lv_iload_n hx hb dX8_clear_50 rfl (lv_at hl 0 rfl) ?_
  refine lv_iconst (v := 3) hx hb dX8_clear_51 (by decide) ?_
  refine lv_icmp_ge (tgt := 68) hx hb dX8_clear_52 (by decide) (fun c => absurd c (by decide)) (fun c_52 => ?_)
  refine lv_aload_n hx hb dX8_clear_55 rfl (lv_at hl 1 rfl) ?_
  refine ti_get (ci := 8) (k := 1) (N := 12) (T := TX8) (v := .ref (A 4 2)) C hw iw_8 rfl ob_4 (by decide) (by decide) fl_X8_17 rfl rfl dX8_clear_56 ?_
  refine lv_iload_n hx hb dX8_clear_59 rfl (lv_at hl 0 rfl) ?_
  refine lv_iload_n hx hb dX8_clear_60 rfl (lv_at hl 0 rfl) ?_
  refine ti_iastG (ci := 8) (k := 1) (n := 3) C hw ob_4 (by decide) (fun _ _ => rfl) (by unfold vp_in; decide) dX8_clear_61 (fun H locs g_2 eg_2 hw => ?_)
  refine lv_iinc (v := 2) (lv' := [(1, .int 2), (0, .ref (A 4 0))]) hx hb dX8_clear_62 hl (k := 0) rfl (by decide) (by decide) rfl (fun ls hl => ?_)
  refine lv_goto (tgt := 50) hx hb dX8_clear_65 (by decide) ?_
  refine lv_iload_n hx hb dX8_clear_50 rfl (lv_at hl 0 rfl) ?_
  refine lv_iconst (v := 3) hx hb dX8_clear_51 (by decide) ?_
  refine lv_icmp_ge (tgt := 68) hx hb dX8_clear_52 (by decide) (fun c => absurd c (by decide)) (fun c_52 => ?_)
  refine lv_aload_n hx hb dX8_clear_55 rfl (lv_at hl 1 rfl) ?_
  refine ti_get (ci := 8) (k := 1) (N := 12) (T := TX8) (v := .ref (A 4 2)) C hw iw_8 rfl ob_4 (by decide) (by decide) fl_X8_17 rfl rfl dX8_clear_56 ?_
  refine lv_iload_n hx hb dX8_clear_59 rfl (lv_at hl 0 rfl) ?_
  refine lv_iload_n hx hb dX8_clear_60 rfl (lv_at hl 0 rfl) ?_
  refine ti_iastG (ci := 8) (k := 1) (n := 3) C hw ob_4 (by decide) (fun _ _ => rfl) (by unfold vp_in; decide) dX8_clear_61 (fun H locs g_3 eg_3 hw => ?_)
  refine lv_iinc (v := 3) (lv' := [(1, .int 3), (0, .ref (A 4 0))]) hx hb dX8_clear_62 hl (k := 0) rfl (by decide) (by decide) rfl (fun ls hl => ?_)
  refine lv_goto (tgt := 50) hx hb dX8_clear_65 (by decide) ?_
  refine lv_iload_n hx hb dX8_clear_50 rfl (lv_at hl 0 rfl) ?_
  refine lv_iconst (v := 3) hx hb dX8_clear_51 (by decide) ?_
  refine lv_icmp_ge (tgt := 68) hx hb dX8_clear_52 (by decide) (fun c_52 => ?_) (fun c => absurd (by decide) c)
  refine lv_iconst (v := 0) hx hb dX8_clear_68 (by decide) ?_
  refine lv_istore_n (lv' := [(1, .int 0), (0, .ref (A 4 0))]) hx hb dX8_clear_69 rfl hl (by decide) rfl (fun ls hl => ?_)
  refine lv_iload_n hx hb dX8_clear_70 rfl (lv_at hl 0 rfl) ?_
  refine lv_iconst (v := 3) hx hb dX8_clear_71 (by decide) ?_
  refine lv_icmp_ge (tgt := 91) hx hb dX8_clear_72 (by decide) (fun c => absurd c (by decide)) (fun c_72 => ?_)
  refine lv_aload_n hx hb dX8_clear_75 rfl (lv_at hl 1 rfl) ?_
  refine ti_get (ci := 8) (k := 2) (N := 12) (T := TX8) (v := .ref (A 4 3)) C hw iw_8 rfl ob_4 (by decide) (by decide) fl_X8_23 rfl rfl dX8_clear_76 ?_
  refine lv_iload_n hx hb dX8_clear_79 rfl (lv_at hl 0 rfl) ?_
  refine ti_aald (ci := 8) (k := 2) (n := 3) (t0 := 4) (Cn := RX1) (gg := (ti_laws 4)) (j := 0) C hw ob_4 (by decide) (fun _ _ => rfl) rfl (by unfold vp_in; decide) (by decide) dX8_clear_80 ?_
  refine ti_topv (y := .ref (A 24 0)) rfl ?_
  refine lv_iconst (v := 0) hx hb dX8_clear_81 (by decide) ?_
  refine ti_putI (ci := 1) (k := 3) (N := 4) (T := TX1) C hw iw_1 tyX1 tyX1_ok nmX1 rfl ob_24 (by decide) (by decide) fl_X8_60 rfl rfl rfl rfl (fn_1 A _) fs_1_3 dX8_clear_82 (fun H locs hw => ?_)
  refine lv_iinc (v := 1) (lv' := [(1, .int 1), (0, .ref (A 4 0))]) hx hb dX8_clear_85 hl (k := 0) rfl (by decide) (by decide) rfl (fun ls hl => ?_)
  refine lv_goto (tgt := 70) hx hb dX8_clear_88 (by decide) ?_
  refine lv_iload_n hx hb dX8_clear_70 rfl (lv_at hl 0 rfl) ?_
  refine lv_iconst (v := 3) hx hb dX8_clear_71 (by decide) ?_
  refine lv_icmp_ge (tgt := 91) hx hb dX8_clear_72 (by decide) (fun c => absurd c (by decide)) (fun c_72 => ?_)
  refine lv_aload_n hx hb dX8_clear_75 rfl (lv_at hl 1 rfl) ?_
  refine ti_get (ci := 8) (k := 2) (N := 12) (T := TX8) (v := .ref (A 4 3)) C hw iw_8 rfl ob_4 (by decide) (by decide) fl_X8_23 rfl rfl dX8_clear_76 ?_
  refine lv_iload_n hx hb dX8_clear_79 rfl (lv_at hl 0 rfl) ?_
  refine ti_aald (ci := 8) (k := 2) (n := 3) (t0 := 4) (Cn := RX1) (gg := (ti_laws 4)) (j := 1) C hw ob_4 (by decide) (fun _ _ => rfl) rfl (by unfold vp_in; decide) (by decide) dX8_clear_80 ?_
  refine ti_topv (y := .ref (A 25 0)) rfl ?_
  refine lv_iconst (v := 0) hx hb dX8_clear_81 (by decide) ?_
  refine ti_putI (ci := 1) (k := 3) (N := 4) (T := TX1) C hw iw_1 tyX1 tyX1_ok nmX1 rfl ob_25 (by decide) (by decide) fl_X8_60 rfl rfl rfl rfl (fn_1 A _) fs_1_3 dX8_clear_82 (fun H locs hw => ?_)
  refine lv_iinc (v := 2) (lv' := [(1, .int 2), (0, .ref (A 4 0))]) hx hb dX8_clear_85 hl (k := 0) rfl (by decide) (by decide) rfl (fun ls hl => ?_)
  refine lv_goto (tgt := 70) hx hb dX8_clear_88 (by decide) ?_
  refine lv_iload_n hx hb dX8_clear_70 rfl (lv_at hl 0 rfl) ?_
  refine lv_iconst (v := 3) hx hb dX8_clear_71 (by decide) ?_
  refine lv_icmp_ge (tgt := 91) hx hb dX8_clear_72 (by decide) (fun c => absurd c (by decide)) (fun c_72 => ?_)
  refine lv_aload_n hx hb dX8_clear_75 rfl (lv_at hl 1 rfl) ?_
  refine ti_get (ci := 8) (k := 2) (N := 12) (T := TX8) (v := .ref (A 4 3)) C hw iw_8 rfl ob_4 (by decide) (by decide) fl_X8_23 rfl rfl dX8_clear_76 ?_
  refine lv_iload_n hx hb dX8_clear_79 rfl (lv_at hl 0 rfl) ?_
  refine ti_aald (ci := 8) (k := 2) (n := 3) (t0 := 4) (Cn := RX1) (gg := (ti_laws 4)) (j := 2) C hw ob_4 (by decide) (fun _ _ => rfl) rfl (by unfold vp_in; decide) (by decide) dX8_clear_80 ?_
  refine ti_topv (y := .ref (A 26 0)) rfl ?_
  refine lv_iconst (v := 0) hx hb dX8_clear_81 (by decide) ?_
  refine ti_putI (ci := 1) (k := 3) (N := 4) (T := TX1) C hw iw_1 tyX1 tyX1_ok nmX1 rfl ob_26 (by decide) (by decide) fl_X8_60 rfl rfl rfl rfl (fn_1 A _) fs_1_3 dX8_clear_82 (fun H locs hw => ?_)
  refine lv_iinc (v := 3) (lv' := [(1, .int 3), (0, .ref (A 4 0))]) hx hb dX8_clear_85 hl (k := 0) rfl (by decide) (by decide) rfl (fun ls hl => ?_)
  refine lv_goto (tgt := 70) hx hb dX8_clear_88 (by decide) ?_
  refine lv_iload_n hx hb dX8_clear_70 rfl (lv_at hl 0 rfl) ?_
  refine lv_iconst (v := 3) hx hb dX8_clear_71 (by decide) ?_
  refine lv_icmp_ge (tgt := 91) hx hb dX8_clear_72 (by decide) (fun c_72 => ?_) (fun c => absurd (by decide) c)
  exact hQ _ _ _ _ _ hw (⟨g_1, g_2, g_3, rfl, by simp only [eg_3, eg_2, eg_1, tY_u]; rfl, by simp only [eg_3, eg_2, eg_1, tY_u]; rfl, by simp only [eg_3, eg_2, eg_1, tY_u]; rfl⟩) dX8_clear_91
set_option maxHeartbeats 4000000 in
set_option maxRecDepth 100000 in
theorem k_X4_read (l : Launch) (D : va_G) (A : Nat → Nat → Nat) (cy : Nat → ClassId) (hJ : ti_inj ti_LT A) (M : ti_M) (hF : ti_F M) : ti_Ki l yX4_read cX4_read 4 (some .boolean) 3 ti_LT D A cy M [.ref (A 1 0), .int 0, .ref (A 4 0)] (fun r M2 => (∃ g_1_2 g_2_2 g_3_2 : Nat → Int32, M2 = (uI (uI (uI (uI (uI (uI (uI (uI (uI (uI (uI (uY (uY (uY (uI (uI (uI (uI (uI (uI (uI (uI (uI (uT M 1 1 (some 4)) 4 3 0) 4 4 0) 4 5 0) 4 6 200) 4 7 2) 4 8 10) 4 9 3) 4 10 0) 4 11 0) 4 1 g_1_2) 4 1 g_2_2) 4 1 g_3_2) 24 3 0) 25 3 0) 26 3 0) 1 3 0) 1 4 0) 1 5 (-1)) 2 2 0) 2 3 0) 2 5 0) 2 6 0) 2 4 27)) ∧ r = 1) := by
  refine ti_eI yp_X4_read hJ ti_LT_nd (Nat.le_of_ble_eq_true rfl) ?_
  intro p e s m args below meth c Q H0 C hQ hw ls hl
  have hx := C.1
  have hb := C.2.1
  have hl : lv_has ls 4 [(0, .ref (A 1 0)), (1, .int 0), (2, .ref (A 4 0))] := hl
  obtain ⟨f_told, f_spare, f_nt, f_many, f_fault, f_place, f_men, f_knots, f_mut, f_man, f_min, f_size, f_water, f_first, f_steps, f_img, f_sm, f_sk, f_ss, f_sw, f_p0, f_p1, f_p2⟩ := id hF
  refine lv_aload_n hx hb dX4_read_0 rfl (lv_at hl 0 rfl) ?_
  refine lv_aload_n hx hb dX4_read_1 rfl (lv_at hl 2 rfl) ?_
  refine ti_putT (ci := 4) (k := 1) (N := 6) (T := TX4) C hw iw_4 tyX4 tyX4_ok nmX4 rfl ob_1 (by decide) (by decide) fl_X4_28 rfl rfl rfl rfl (fn_4 A _) fs_4_1 dX4_read_2 (fun H locs hw => ?_)
  refine lv_aload_n hx hb dX4_read_5 rfl (lv_at hl 0 rfl) ?_
  refine ti_get (ci := 4) (k := 1) (N := 6) (T := TX4) (v := .ref (A 4 0)) C hw iw_4 rfl ob_1 (by decide) (by decide) fl_X4_28 rfl (ti_Tv (show tT (uT M 1 1 (some 4)) 1 1 = _ from tT_u _ _ _ _)) dX4_read_6 ?_
  refine ti_callVv (ci := 8) (av := []) C hw (k_clear_4 l D A cy hJ _ ) ⟨ml_X4_32, ym_X8_clear, yv_X8_clear, yi_X8_clear, yc_X8_clear⟩ yd_X8_clear ob_4 (by decide) rfl rfl hl.1 (Nat.le_of_ble_eq_true rfl) ⟨by decide, by decide⟩ ⟨Nat.zero_le _, Nat.zero_le _⟩ dX4_read_9 (fun M_2 H locs hp_2 hw => ?_)
  obtain ⟨g_1_2, g_2_2, g_3_2, hm, hcl0_2, hcl1_2, hcl2_2⟩ := hp_2
  have hw := hw.to hm
  refine lv_aload_n hx hb dX4_read_12 rfl (lv_at hl 0 rfl) ?_
  refine lv_iconst (v := 0) hx hb dX4_read_13 (by decide) ?_
  refine ti_putI (ci := 4) (k := 3) (N := 6) (T := TX4) C hw iw_4 tyX4 tyX4_ok nmX4 rfl ob_1 (by decide) (by decide) fl_X4_18 rfl rfl rfl rfl (fn_4 A _) fs_4_3 dX4_read_14 (fun H locs hw => ?_)
  refine lv_aload_n hx hb dX4_read_17 rfl (lv_at hl 0 rfl) ?_
  refine lv_iconst (v := 0) hx hb dX4_read_18 (by decide) ?_
  refine ti_putI (ci := 4) (k := 4) (N := 6) (T := TX4) C hw iw_4 tyX4 tyX4_ok nmX4 rfl ob_1 (by decide) (by decide) fl_X4_22 rfl rfl rfl rfl (fn_4 A _) fs_4_4 dX4_read_19 (fun H locs hw => ?_)
  refine lv_aload_n hx hb dX4_read_22 rfl (lv_at hl 0 rfl) ?_
  refine lv_iconst (v := (-1)) hx hb dX4_read_23 (by decide) ?_
  refine ti_putI (ci := 4) (k := 5) (N := 6) (T := TX4) C hw iw_4 tyX4 tyX4_ok nmX4 rfl ob_1 (by decide) (by decide) fl_X4_25 rfl rfl rfl rfl (fn_4 A _) fs_4_5 dX4_read_24 (fun H locs hw => ?_)
  refine lv_aload_n hx hb dX4_read_27 rfl (lv_at hl 0 rfl) ?_
  refine ti_get (ci := 4) (k := 0) (N := 6) (T := TX4) (v := .ref (A 2 0)) C hw iw_4 rfl ob_1 (by decide) (by decide) fl_X4_12 rfl rfl dX4_read_28 ?_
  refine lv_iload_n hx hb dX4_read_31 rfl (lv_at hl 1 rfl) ?_
  refine ti_callVv (ci := 7) (av := [.int 0]) C hw (k_X7_begin l D A cy hJ _ ) ⟨ml_X4_37, ym_X7_begin, yv_X7_begin, yi_X7_begin, yc_X7_begin⟩ yd_X7_begin ob_2 (by decide) rfl rfl hl.1 (Nat.le_of_ble_eq_true rfl) ⟨by decide, by decide⟩ ⟨Nat.zero_le _, Nat.zero_le _⟩ dX4_read_32 (fun M_4 H locs hp_4 hw => ?_)
  have hw := hw.to hp_4
  refine lv_iconst (v := 0) hx hb dX4_read_35 (by decide) ?_
  refine lv_istore_n (lv' := [(3, .int 0), (0, .ref (A 1 0)), (1, .int 0), (2, .ref (A 4 0))]) hx hb dX4_read_36 rfl hl (by decide) rfl (fun ls hl => ?_)
  refine lv_iload_n hx hb dX4_read_37 rfl (lv_at hl 0 rfl) ?_
  refine lv_iload_n hx hb dX4_read_38 rfl (lv_at hl 2 rfl) ?_
  refine lv_icmp_gt (tgt := 298) hx hb dX4_read_39 (by decide) (fun c => absurd c (by decide)) (fun c_39 => ?_)
  refine lv_aload_n hx hb dX4_read_42 rfl (lv_at hl 1 rfl) ?_
  refine ti_get (ci := 4) (k := 0) (N := 6) (T := TX4) (v := .ref (A 2 0)) C hw iw_4 rfl ob_1 (by decide) (by decide) fl_X4_12 rfl rfl dX4_read_43 ?_
  refine ti_get (ci := 7) (k := 4) (N := 7) (T := TX7) C hw iw_7 rfl ob_2 (by decide) (by decide) fl_X4_41 rfl rfl dX4_read_46 ?_
  refine ti_top (y := 27) (show tI (uI (uI (uI (uI (uI (uI (uI (uI (uI (uI (uI (uY (uY (uY (uI (uI (uI (uI (uI (uI (uI (uI (uI (uT M 1 1 (some 4)) 4 3 0) 4 4 0) 4 5 0) 4 6 200) 4 7 2) 4 8 10) 4 9 3) 4 10 0) 4 11 0) 4 1 g_1_2) 4 1 g_2_2) 4 1 g_3_2) 24 3 0) 25 3 0) 26 3 0) 1 3 0) 1 4 0) 1 5 (-1)) 2 2 0) 2 3 0) 2 5 0) 2 6 0) 2 4 27) 2 4 = _ from tI_u _ _ _ _) ?_
  refine lv_bipush (v := 27) hx hb dX4_read_49 (by decide) ?_
  refine lv_icmp_eq (tgt := 298) hx hb dX4_read_51 (by decide) (fun c_51 => ?_) (fun c => absurd (by decide) c)
  refine lv_aload_n hx hb dX4_read_298 rfl (lv_at hl 1 rfl) ?_
  refine ti_get (ci := 4) (k := 4) (N := 6) (T := TX4) C hw iw_4 rfl ob_1 (by decide) (by decide) fl_X4_22 rfl rfl dX4_read_299 ?_
  refine ti_top (y := 0) (show tI (uI (uI (uI (uI (uI (uY (uY (uY (uI (uI (uI (uI (uI (uI (uI (uI (uI (uT M 1 1 (some 4)) 4 3 0) 4 4 0) 4 5 0) 4 6 200) 4 7 2) 4 8 10) 4 9 3) 4 10 0) 4 11 0) 4 1 g_1_2) 4 1 g_2_2) 4 1 g_3_2) 24 3 0) 25 3 0) 26 3 0) 1 3 0) 1 4 0) 1 4 = _ from tI_u _ _ _ _) ?_
  refine lv_if_ne (tgt := 309) hx hb dX4_read_302 (by decide) (fun c => absurd (by decide) c) (fun c_302 => ?_)
  refine lv_iconst (v := 1) hx hb dX4_read_305 (by decide) ?_
  refine lv_goto (tgt := 310) hx hb dX4_read_306 (by decide) ?_
  exact hQ _ _ _ _ _ _ hw rfl (⟨⟨g_1_2, g_2_2, g_3_2, rfl⟩, rfl⟩) dX4_read_310
set_option maxHeartbeats 4000000 in
set_option maxRecDepth 100000 in
theorem k_X3_start (l : Launch) (D : va_G) (A : Nat → Nat → Nat) (cy : Nat → ClassId) (hJ : ti_inj ti_LT A) (M : ti_M) (q t : Nat) (hq : ti_ob ti_LT q 3) (ht : ti_ob ti_LT t 8) (hqt : q ≠ t) (hm0 : tI M t 4 = 0) : ti_Kv l yX3_start cX3_start 3 2 ti_LT D A cy M [.ref (A q 0), .ref (A t 0)] (fun M2 => (∀ o k, o ≠ q → tI M2 o k = tI M o k) ∧ (∀ o k, o ≠ q → tT M2 o k = tT M o k) ∧ tI M2 q 1 = 0 ∧ tI M2 q 2 = 0 ∧ tI M2 q 3 = 0 ∧ tI M2 q 4 = tI M t 6 ∧ tT M2 q 0 = some t ∧ (∀ o k, o ≠ q → tY M2 o k = tY M o k) ∧ (∀ i, i < 3 → tY M2 q 7 i = tY M t 1 i)) := by
  refine ti_eV yp_X3_start hJ ti_LT_nd (Nat.le_of_ble_eq_true rfl) ?_
  intro p e s m args below meth c Q H0 C hQ hw ls hl
  have hx := C.1
  have hb := C.2.1
  have hl : lv_has ls 3 [(0, .ref (A q 0)), (1, .ref (A t 0))] := hl
  refine lv_aload_n hx hb dX3_start_0 rfl (lv_at hl 0 rfl) ?_
  refine lv_aload_n hx hb dX3_start_1 rfl (lv_at hl 1 rfl) ?_
  refine ti_putT (ci := 3) (k := 0) (N := 17) (T := TX3) C hw iw_3 tyX3 tyX3_ok nmX3 rfl hq (by decide) (by decide) fl_X3_45 rfl rfl rfl rfl (fn_3 A _) fs_3_0 dX3_start_2 (fun H locs hw => ?_)
  refine lv_aload_n hx hb dX3_start_5 rfl (lv_at hl 0 rfl) ?_
  refine lv_iconst (v := 0) hx hb dX3_start_6 (by decide) ?_
  refine ti_putI (ci := 3) (k := 1) (N := 17) (T := TX3) C hw iw_3 tyX3 tyX3_ok nmX3 rfl hq (by decide) (by decide) fl_X3_49 rfl rfl rfl rfl (fn_3 A _) fs_3_1 dX3_start_7 (fun H locs hw => ?_)
  refine lv_aload_n hx hb dX3_start_10 rfl (lv_at hl 0 rfl) ?_
  refine lv_iconst (v := 0) hx hb dX3_start_11 (by decide) ?_
  refine ti_putI (ci := 3) (k := 2) (N := 17) (T := TX3) C hw iw_3 tyX3 tyX3_ok nmX3 rfl hq (by decide) (by decide) fl_X3_53 rfl rfl rfl rfl (fn_3 A _) fs_3_2 dX3_start_12 (fun H locs hw => ?_)
  refine lv_aload_n hx hb dX3_start_15 rfl (lv_at hl 0 rfl) ?_
  refine lv_iconst (v := 0) hx hb dX3_start_16 (by decide) ?_
  refine ti_putI (ci := 3) (k := 3) (N := 17) (T := TX3) C hw iw_3 tyX3 tyX3_ok nmX3 rfl hq (by decide) (by decide) fl_X3_56 rfl rfl rfl rfl (fn_3 A _) fs_3_3 dX3_start_17 (fun H locs hw => ?_)
  refine lv_aload_n hx hb dX3_start_20 rfl (lv_at hl 0 rfl) ?_
  refine lv_aload_n hx hb dX3_start_21 rfl (lv_at hl 1 rfl) ?_
  refine ti_get (ci := 8) (k := 6) (N := 12) (T := TX8) C hw iw_8 rfl ht (by decide) (by decide) fl_X3_59 rfl rfl dX3_start_22 ?_
  refine lv_topi (fun x_1 ex_1 => ?_)
  refine ti_putI (ci := 3) (k := 4) (N := 17) (T := TX3) C hw iw_3 tyX3 tyX3_ok nmX3 rfl hq (by decide) (by decide) fl_X3_64 rfl rfl rfl rfl (fn_3 A _) fs_3_4 dX3_start_25 (fun H locs hw => ?_)
  refine lv_aload_n hx hb dX3_start_28 rfl (lv_at hl 0 rfl) ?_
  refine lv_aload_n hx hb dX3_start_29 rfl (lv_at hl 1 rfl) ?_
  refine ti_get (ci := 8) (k := 11) (N := 12) (T := TX8) C hw iw_8 rfl ht (by decide) (by decide) fl_X3_65 rfl rfl dX3_start_30 ?_
  refine lv_topi (fun x_2 ex_2 => ?_)
  refine ti_putI (ci := 3) (k := 5) (N := 17) (T := TX3) C hw iw_3 tyX3 tyX3_ok nmX3 rfl hq (by decide) (by decide) fl_X3_68 rfl rfl rfl rfl (fn_3 A _) fs_3_5 dX3_start_33 (fun H locs hw => ?_)
  refine lv_aload_n hx hb dX3_start_36 rfl (lv_at hl 1 rfl) ?_
  refine ti_get (ci := 8) (k := 1) (N := 12) (T := TX8) (v := .ref (A t 2)) C hw iw_8 rfl ht (by decide) (by decide) fl_X3_71 rfl rfl dX3_start_37 ?_
  refine lv_iconst (v := 0) hx hb dX3_start_40 (by decide) ?_
  refine lv_aload_n hx hb dX3_start_41 rfl (lv_at hl 0 rfl) ?_
  refine ti_get (ci := 3) (k := 7) (N := 17) (T := TX3) (v := .ref (A q 8)) C hw iw_3 rfl hq (by decide) (by decide) fl_X3_15 rfl rfl dX3_start_42 ?_
  refine lv_iconst (v := 0) hx hb dX3_start_45 (by decide) ?_
  refine lv_iconst (v := 3) hx hb dX3_start_46 (by decide) ?_
  refine ti_copy (c1 := 8) (k1 := 1) (n1 := 3) (c2 := 3) (k2 := 7) (n2 := 3) C hw ml_X3_72 sy_nat sy_sta sy_ini ht (by decide) (fun _ _ => rfl) hq (by decide) (fun _ _ => rfl) hl.1 (by decide) (by decide) (by decide) (by decide) (by decide) (by decide) (Nat.le_of_ble_eq_true rfl) dX3_start_47 (fun H locs hw => ?_)
  refine lv_iconst (v := 0) hx hb dX3_start_50 (by decide) ?_
  refine lv_istore_n (lv' := [(2, .int 0), (0, .ref (A q 0)), (1, .ref (A t 0))]) hx hb dX3_start_51 rfl hl (by decide) rfl (fun ls hl => ?_)
  refine lv_iload_n hx hb dX3_start_52 rfl (lv_at hl 0 rfl) ?_
  refine lv_aload_n hx hb dX3_start_53 rfl (lv_at hl 2 rfl) ?_
  refine ti_get (ci := 8) (k := 4) (N := 12) (T := TX8) C hw iw_8 rfl ht (by decide) (by decide) fl_X3_78 rfl rfl dX3_start_54 ?_
  refine ti_top (y := 0) ((show tI (uI (uI (uI (uI (uT M q 0 (some t)) q 1 0) q 2 0) q 3 0) q 4 x_1) t 4 = tI (uI (uI (uI (uT M q 0 (some t)) q 1 0) q 2 0) q 3 0) t 4 from tI_o _ _ _ _ (Ne.symm hqt)).trans hm0) ?_
  refine lv_icmp_ge (tgt := 111) hx hb dX3_start_57 (by decide) (fun c_57 => ?_) (fun c => absurd (by decide) c)
  refine lv_aload_n hx hb dX3_start_111 rfl (lv_at hl 1 rfl) ?_
  refine ti_get (ci := 3) (k := 8) (N := 17) (T := TX3) (v := .ref (A q 9)) C hw iw_3 rfl hq (by decide) (by decide) fl_X3_18 rfl rfl dX3_start_112 ?_
  refine lv_iconst (v := 0) hx hb dX3_start_115 (by decide) ?_
  refine ti_callSv (av := [.ref (A q 9), .int 0]) C hw (k_fill l D A cy ti_LT_nd hJ _ q 8 3 8 0 hq (by decide) (fun _ _ => rfl) (by decide)) ⟨ml_X3_93, ys_J7_fill_53178, yi_J7_fill_53178, yc_J7_fill_53178⟩ yd_J7_fill_53178 rfl hl.1 (by decide) ⟨by decide, by decide⟩ ⟨Nat.zero_le _, Nat.zero_le _⟩ dX3_start_116 (fun M_4 H locs hp_4 hw => ?_)
  obtain ⟨g_3, hm, hg_3⟩ := hp_4
  have hw := hw.to hm
  refine lv_aload_n hx hb dX3_start_119 rfl (lv_at hl 1 rfl) ?_
  refine ti_get (ci := 3) (k := 11) (N := 17) (T := TX3) (v := .ref (A q 12)) C hw iw_3 rfl hq (by decide) (by decide) fl_X3_27 rfl rfl dX3_start_120 ?_
  refine lv_iconst (v := 0) hx hb dX3_start_123 (by decide) ?_
  refine ti_callSv (av := [.ref (A q 12), .int 0]) C hw (k_fill l D A cy ti_LT_nd hJ _ q 11 3 8 0 hq (by decide) (fun _ _ => rfl) (by decide)) ⟨ml_X3_93, ys_J7_fill_53178, yi_J7_fill_53178, yc_J7_fill_53178⟩ yd_J7_fill_53178 rfl hl.1 (by decide) ⟨by decide, by decide⟩ ⟨Nat.zero_le _, Nat.zero_le _⟩ dX3_start_124 (fun M_6 H locs hp_6 hw => ?_)
  obtain ⟨g_5, hm, hg_5⟩ := hp_6
  have hw := hw.to hm
  refine lv_aload_n hx hb dX3_start_127 rfl (lv_at hl 1 rfl) ?_
  refine ti_get (ci := 3) (k := 15) (N := 17) (T := TX3) (v := .ref (A q 16)) C hw iw_3 rfl hq (by decide) (by decide) fl_X3_39 rfl rfl dX3_start_128 ?_
  refine lv_iconst (v := 0) hx hb dX3_start_131 (by decide) ?_
  refine ti_callSv (av := [.ref (A q 16), .int 0]) C hw (k_fill l D A cy ti_LT_nd hJ _ q 15 3 8 0 hq (by decide) (fun _ _ => rfl) (by decide)) ⟨ml_X3_93, ys_J7_fill_53178, yi_J7_fill_53178, yc_J7_fill_53178⟩ yd_J7_fill_53178 rfl hl.1 (by decide) ⟨by decide, by decide⟩ ⟨Nat.zero_le _, Nat.zero_le _⟩ dX3_start_132 (fun M_8 H locs hp_8 hw => ?_)
  obtain ⟨g_7, hm, hg_7⟩ := hp_8
  have hw := hw.to hm
  refine lv_aload_n hx hb dX3_start_135 rfl (lv_at hl 1 rfl) ?_
  refine ti_get (ci := 3) (k := 16) (N := 17) (T := TX3) (v := .ref (A q 17)) C hw iw_3 rfl hq (by decide) (by decide) fl_X3_42 rfl rfl dX3_start_136 ?_
  refine lv_iconst (v := 0) hx hb dX3_start_139 (by decide) ?_
  refine ti_callSv (av := [.ref (A q 17), .int 0]) C hw (k_fill l D A cy ti_LT_nd hJ _ q 16 3 8 0 hq (by decide) (fun _ _ => rfl) (by decide)) ⟨ml_X3_93, ys_J7_fill_53178, yi_J7_fill_53178, yc_J7_fill_53178⟩ yd_J7_fill_53178 rfl hl.1 (by decide) ⟨by decide, by decide⟩ ⟨Nat.zero_le _, Nat.zero_le _⟩ dX3_start_140 (fun M_10 H locs hp_10 hw => ?_)
  obtain ⟨g_9, hm, hg_9⟩ := hp_10
  have hw := hw.to hm
  exact hQ _ _ _ _ _ hw (⟨fun o k h => by simp only [tI_uY, tI_uT, tI_o _ _ _ _ h], fun o k h => by simp only [tT_uY, tT_uI, tT_o _ _ _ _ h], (show tI (uI (uT M q 0 (some t)) q 1 0) q 1 = _ from tI_u _ _ _ _), (show tI (uI (uI (uT M q 0 (some t)) q 1 0) q 2 0) q 2 = _ from tI_u _ _ _ _), (show tI (uI (uI (uI (uT M q 0 (some t)) q 1 0) q 2 0) q 3 0) q 3 = _ from tI_u _ _ _ _), ((show tI (uI (uI (uI (uI (uT M q 0 (some t)) q 1 0) q 2 0) q 3 0) q 4 x_1) q 4 = _ from tI_u _ _ _ _).trans ex_1), (show tT (uT M q 0 (some t)) q 0 = _ from tT_u _ _ _ _), fun o k h => by simp only [tY_uI, tY_uT, tY_o _ _ _ _ h], fun i h => by rw [tY_k _ _ 16 _ (by decide : (7 : Nat) ≠ 16), tY_k _ _ 15 _ (by decide : (7 : Nat) ≠ 15), tY_k _ _ 11 _ (by decide : (7 : Nat) ≠ 11), tY_k _ _ 8 _ (by decide : (7 : Nat) ≠ 8), tY_u]; show va_cpy (tY M t 1) (tY M q 7) 0 0 3 i = _; rw [pk_cpy_in (Nat.zero_le _) (by omega), Nat.zero_add, Nat.sub_zero]⟩) dX3_start_143
def pf_text (z : Int32) : Int32 := if z = 0 then 0 else -2
set_option maxHeartbeats 4000000 in
set_option maxRecDepth 100000 in
theorem k_X9_text (l : Launch) (D : va_G) (A : Nat → Nat → Nat) (cy : Nat → ClassId) (hJ : ti_inj ti_LT A) (M : ti_M) (hF : ti_F M) (z : Int32) : ti_Ki l yX9_text cX9_text 3 (some .int) 4 ti_LT D A cy M [.ref (A 0 0), .int z] (fun r _ => r = pf_text z) := by
  refine ti_eI yp_X9_text hJ ti_LT_nd (Nat.le_of_ble_eq_true rfl) ?_
  intro p e s m args below meth c Q H0 C hQ hw ls hl
  have hx := C.1
  have hb := C.2.1
  have hl : lv_has ls 3 [(0, .ref (A 0 0)), (1, .int z)] := hl
  obtain ⟨f_told, f_spare, f_nt, f_many, f_fault, f_place, f_men, f_knots, f_mut, f_man, f_min, f_size, f_water, f_first, f_steps, f_img, f_sm, f_sk, f_ss, f_sw, f_p0, f_p1, f_p2⟩ := id hF
  refine lv_iload_n hx hb dX9_text_0 rfl (lv_at hl 1 rfl) ?_
  refine lv_if_lt (tgt := 18) hx hb dX9_text_1 (by decide) (fun c_1 => ?_) (fun c_1 => ?_)
  · refine lv_bipush (v := (-2)) hx hb dX9_text_18 (by decide) ?_
    exact hQ _ _ _ _ _ _ hw rfl (by unfold pf_text; (try simp only [Int32.lt_iff_toInt_lt, Int32.le_iff_toInt_le, ← Int32.toInt_inj, ti_l0, ti_l1, ti_l2, ti_l3, ti_l5, ti_l7, ti_l8, ti_l24, ti_l59, ti_l60, ti_l119, ti_l120, ti_lm1, ti_lm2] at c_1); (try simp only [Int32.lt_iff_toInt_lt, Int32.le_iff_toInt_le, ← Int32.toInt_inj, ti_l0, ti_l1, ti_l2, ti_l3, ti_l5, ti_l7, ti_l8, ti_l24, ti_l59, ti_l60, ti_l119, ti_l120, ti_lm1, ti_lm2]); (repeat' split) <;> first | rfl | omega) dX9_text_20
  · refine lv_iload_n hx hb dX9_text_4 rfl (lv_at hl 1 rfl) ?_
    refine lv_aload_n hx hb dX9_text_5 rfl (lv_at hl 0 rfl) ?_
    refine ti_get (ci := 9) (k := 0) (N := 10) (T := TX9) (v := .ref (A 1 0)) C hw iw_9 rfl ob_0 (by decide) (by decide) fl_X9_12 rfl rfl dX9_text_6 ?_
    refine ti_get (ci := 4) (k := 0) (N := 6) (T := TX4) (v := .ref (A 2 0)) C hw iw_4 rfl ob_1 (by decide) (by decide) fl_X9_69 rfl rfl dX9_text_9 ?_
    refine ti_get (ci := 7) (k := 1) (N := 7) (T := TX7) C hw iw_7 rfl ob_2 (by decide) (by decide) fl_X9_73 rfl rfl dX9_text_12 ?_
    refine ti_top (y := 0) f_many ?_
    refine lv_icmp_le (tgt := 21) hx hb dX9_text_15 (by decide) (fun c_15 => ?_) (fun c_15 => ?_)
    · obtain rfl : z = 0 := (by (try simp only [Int32.lt_iff_toInt_lt, Int32.le_iff_toInt_le, ← Int32.toInt_inj, ti_l0, ti_l1, ti_l2, ti_l3, ti_l5, ti_l7, ti_l8, ti_l24, ti_l59, ti_l60, ti_l119, ti_l120, ti_lm1, ti_lm2] at c_1); (try simp only [Int32.lt_iff_toInt_lt, Int32.le_iff_toInt_le, ← Int32.toInt_inj, ti_l0, ti_l1, ti_l2, ti_l3, ti_l5, ti_l7, ti_l8, ti_l24, ti_l59, ti_l60, ti_l119, ti_l120, ti_lm1, ti_lm2] at c_15); (try simp only [Int32.lt_iff_toInt_lt, Int32.le_iff_toInt_le, ← Int32.toInt_inj, ti_l0, ti_l1, ti_l2, ti_l3, ti_l5, ti_l7, ti_l8, ti_l24, ti_l59, ti_l60, ti_l119, ti_l120, ti_lm1, ti_lm2]); omega)
      refine lv_aload_n hx hb dX9_text_21 rfl (lv_at hl 0 rfl) ?_
      refine ti_get (ci := 9) (k := 0) (N := 10) (T := TX9) (v := .ref (A 1 0)) C hw iw_9 rfl ob_0 (by decide) (by decide) fl_X9_12 rfl rfl dX9_text_22 ?_
      refine ti_get (ci := 4) (k := 0) (N := 6) (T := TX4) (v := .ref (A 2 0)) C hw iw_4 rfl ob_1 (by decide) (by decide) fl_X9_69 rfl rfl dX9_text_25 ?_
      refine lv_iconst (v := 0) hx hb dX9_text_28 (by decide) ?_
      refine ti_putI (ci := 7) (k := 1) (N := 7) (T := TX7) C hw iw_7 tyX7 tyX7_ok nmX7 rfl ob_2 (by decide) (by decide) fl_X9_73 rfl rfl rfl rfl (fn_7 A _) fs_7_1 dX9_text_29 (fun H locs hw => ?_)
      refine lv_aload_n hx hb dX9_text_32 rfl (lv_at hl 0 rfl) ?_
      refine ti_get (ci := 9) (k := 0) (N := 10) (T := TX9) (v := .ref (A 1 0)) C hw iw_9 rfl ob_0 (by decide) (by decide) fl_X9_12 rfl rfl dX9_text_33 ?_
      refine lv_iload_n hx hb dX9_text_36 rfl (lv_at hl 1 rfl) ?_
      refine lv_aload_n hx hb dX9_text_37 rfl (lv_at hl 0 rfl) ?_
      refine ti_get (ci := 9) (k := 2) (N := 10) (T := TX9) (v := .ref (A 4 0)) C hw iw_9 rfl ob_0 (by decide) (by decide) fl_X9_23 rfl (ti_Tv f_spare) dX9_text_38 ?_
      refine ti_callVi (ci := 4) (av := [.int 0, .ref (A 4 0)]) C hw (k_X4_read l D A cy hJ _ ⟨f_told, f_spare, f_nt, (show tI (uI M 2 1 0) 2 1 = _ from tI_u _ _ _ _), f_fault, f_place, f_men, f_knots, f_mut, f_man, f_min, f_size, f_water, f_first, f_steps, f_img, f_sm, f_sk, f_ss, f_sw, f_p0, f_p1, f_p2⟩) ⟨ml_X9_83, ym_X4_read, yv_X4_read, yi_X4_read, yc_X4_read⟩ yd_X4_read ob_1 (by decide) rfl rfl hl.1 (Nat.le_of_ble_eq_true rfl) ⟨by decide, by decide⟩ ⟨Nat.zero_le _, Nat.zero_le _⟩ dX9_text_41 (fun r_1 M_2 H locs hp_2 hw => ?_)
      obtain ⟨⟨g_1_2_2, g_2_2_2, g_3_2_2, hm⟩, rfl⟩ := hp_2
      have hw := hw.to hm
      refine lv_if_ne (tgt := 49) hx hb dX9_text_44 (by decide) (fun c_44 => ?_) (fun c => absurd c (by decide))
      refine lv_aload_n hx hb dX9_text_49 rfl (lv_at hl 0 rfl) ?_
      refine ti_get (ci := 9) (k := 1) (N := 10) (T := TX9) (v := .ref (A 3 0)) C hw iw_9 rfl ob_0 (by decide) (by decide) fl_X9_19 rfl (ti_Tv f_told) dX9_text_50 ?_
      refine lv_astore_n (lv' := [(2, .ref (A 3 0)), (0, .ref (A 0 0)), (1, .int 0)]) hx hb dX9_text_53 rfl hl (by decide) rfl (fun ls hl => ?_)
      refine lv_aload_n hx hb dX9_text_54 rfl (lv_at hl 1 rfl) ?_
      refine lv_aload_n hx hb dX9_text_55 rfl (lv_at hl 1 rfl) ?_
      refine ti_get (ci := 9) (k := 2) (N := 10) (T := TX9) (v := .ref (A 4 0)) C hw iw_9 rfl ob_0 (by decide) (by decide) fl_X9_23 rfl (ti_Tv f_spare) dX9_text_56 ?_
      refine ti_putT (ci := 9) (k := 1) (N := 10) (T := TX9) C hw iw_9 tyX9 tyX9_ok nmX9 rfl ob_0 (by decide) (by decide) fl_X9_19 rfl rfl rfl rfl (fn_9 A _) fs_9_1 dX9_text_59 (fun H locs hw => ?_)
      refine lv_aload_n hx hb dX9_text_62 rfl (lv_at hl 1 rfl) ?_
      refine lv_aload_n hx hb dX9_text_63 rfl (lv_at hl 0 rfl) ?_
      refine ti_putT (ci := 9) (k := 2) (N := 10) (T := TX9) C hw iw_9 tyX9 tyX9_ok nmX9 rfl ob_0 (by decide) (by decide) fl_X9_23 rfl rfl rfl rfl (fn_9 A _) fs_9_2 dX9_text_64 (fun H locs hw => ?_)
      refine lv_aload_n hx hb dX9_text_67 rfl (lv_at hl 1 rfl) ?_
      refine ti_get (ci := 9) (k := 3) (N := 10) (T := TX9) (v := .ref (A 27 0)) C hw iw_9 rfl ob_0 (by decide) (by decide) fl_X9_29 rfl rfl dX9_text_68 ?_
      refine lv_aload_n hx hb dX9_text_71 rfl (lv_at hl 1 rfl) ?_
      refine ti_get (ci := 9) (k := 1) (N := 10) (T := TX9) (v := .ref (A 4 0)) C hw iw_9 rfl ob_0 (by decide) (by decide) fl_X9_19 rfl (ti_Tv (show tT (uT (uI (uI (uI (uI (uI (uI (uI (uI (uI (uI (uI (uY (uY (uY (uI (uI (uI (uI (uI (uI (uI (uI (uI (uT (uI M 2 1 0) 1 1 (some 4)) 4 3 0) 4 4 0) 4 5 0) 4 6 200) 4 7 2) 4 8 10) 4 9 3) 4 10 0) 4 11 0) 4 1 g_1_2_2) 4 1 g_2_2_2) 4 1 g_3_2_2) 24 3 0) 25 3 0) 26 3 0) 1 3 0) 1 4 0) 1 5 (-1)) 2 2 0) 2 3 0) 2 5 0) 2 6 0) 2 4 27) 0 1 (some 4)) 0 1 = _ from tT_u _ _ _ _)) dX9_text_72 ?_
      refine ti_callVv (ci := 3) (av := [.ref (A 4 0)]) C hw (k_X3_start l D A cy hJ _ 27 4 ob_27 ob_4 (by decide) (show tI (uI (uI (uT (uI M 2 1 0) 1 1 (some 4)) 4 3 0) 4 4 0) 4 4 = _ from tI_u _ _ _ _)) ⟨ml_X9_65, ym_X3_start, yv_X3_start, yi_X3_start, yc_X3_start⟩ yd_X3_start ob_27 (by decide) rfl rfl hl.1 (Nat.le_of_ble_eq_true rfl) ⟨by decide, by decide⟩ ⟨Nat.zero_le _, Nat.zero_le _⟩ dX9_text_75 (fun M_4 H locs hp_4 hw => ?_)
      obtain ⟨hI_4, hTT_4, hs1_4, hs2_4, hs3_4, hs4_4, hs0_4, hY_4, hp7_4⟩ := hp_4
      refine lv_aload_n hx hb dX9_text_78 rfl (lv_at hl 1 rfl) ?_
      refine ti_get (ci := 9) (k := 5) (N := 10) (T := TX9) (v := .ref (A 28 0)) C hw iw_9 rfl ob_0 (by decide) (by decide) fl_X9_40 rfl rfl dX9_text_79 ?_
      refine ti_callVv (ci := 5) (av := []) C hw (k_X5_clear l D A cy hJ _ ) ⟨ml_X9_87, ym_X5_clear, yv_X5_clear, yi_X5_clear, yc_X5_clear⟩ yd_X5_clear ob_28 (by decide) rfl rfl hl.1 (Nat.le_of_ble_eq_true rfl) ⟨by decide, by decide⟩ ⟨Nat.zero_le _, Nat.zero_le _⟩ dX9_text_82 (fun M_6 H locs hp_6 hw => ?_)
      have hw := hw.to hp_6
      refine lv_aload_n hx hb dX9_text_85 rfl (lv_at hl 1 rfl) ?_
      refine ti_get (ci := 9) (k := 8) (N := 10) (T := TX9) (v := .ref (A 50 0)) C hw iw_9 rfl ob_0 (by decide) (by decide) fl_X9_54 rfl rfl dX9_text_86 ?_
      refine ti_callVv (ci := 6) (av := []) C hw (k_X6_clear l D A cy hJ _ ) ⟨ml_X9_90, ym_X6_clear, yv_X6_clear, yi_X6_clear, yc_X6_clear⟩ yd_X6_clear ob_50 (by decide) rfl rfl hl.1 (Nat.le_of_ble_eq_true rfl) ⟨by decide, by decide⟩ ⟨Nat.zero_le _, Nat.zero_le _⟩ dX9_text_89 (fun M_8 H locs hp_8 hw => ?_)
      have hw := hw.to hp_8
      refine lv_aload_n hx hb dX9_text_92 rfl (lv_at hl 1 rfl) ?_
      refine lv_iconst (v := 0) hx hb dX9_text_93 (by decide) ?_
      refine ti_putI (ci := 9) (k := 7) (N := 10) (T := TX9) C hw iw_9 tyX9 tyX9_ok nmX9 rfl ob_0 (by decide) (by decide) fl_X9_47 rfl rfl rfl rfl (fn_9 A _) fs_9_7 dX9_text_94 (fun H locs hw => ?_)
      refine lv_aload_n hx hb dX9_text_97 rfl (lv_at hl 1 rfl) ?_
      refine ti_get (ci := 9) (k := 1) (N := 10) (T := TX9) (v := .ref (A 4 0)) C hw iw_9 rfl ob_0 (by decide) (by decide) fl_X9_19 rfl (ti_Tv ((hTT_4 _ _ (by decide)).trans (show tT (uT (uI (uI (uI (uI (uI (uI (uI (uI (uI (uI (uI (uY (uY (uY (uI (uI (uI (uI (uI (uI (uI (uI (uI (uT (uI M 2 1 0) 1 1 (some 4)) 4 3 0) 4 4 0) 4 5 0) 4 6 200) 4 7 2) 4 8 10) 4 9 3) 4 10 0) 4 11 0) 4 1 g_1_2_2) 4 1 g_2_2_2) 4 1 g_3_2_2) 24 3 0) 25 3 0) 26 3 0) 1 3 0) 1 4 0) 1 5 (-1)) 2 2 0) 2 3 0) 2 5 0) 2 6 0) 2 4 27) 0 1 (some 4)) 0 1 = _ from tT_u _ _ _ _))) dX9_text_98 ?_
      refine ti_get (ci := 8) (k := 3) (N := 12) (T := TX8) C hw iw_8 rfl ob_4 (by decide) (by decide) fl_X9_91 rfl rfl dX9_text_101 ?_
      refine ti_top (y := 0) ((hI_4 _ _ (by decide)).trans (show tI (uI (uT (uI M 2 1 0) 1 1 (some 4)) 4 3 0) 4 3 = _ from tI_u _ _ _ _)) ?_
      exact hQ _ _ _ _ _ _ hw rfl rfl dX9_text_104
    · refine lv_bipush (v := (-2)) hx hb dX9_text_18 (by decide) ?_
      exact hQ _ _ _ _ _ _ hw rfl (by unfold pf_text; (try simp only [Int32.lt_iff_toInt_lt, Int32.le_iff_toInt_le, ← Int32.toInt_inj, ti_l0, ti_l1, ti_l2, ti_l3, ti_l5, ti_l7, ti_l8, ti_l24, ti_l59, ti_l60, ti_l119, ti_l120, ti_lm1, ti_lm2] at c_1); (try simp only [Int32.lt_iff_toInt_lt, Int32.le_iff_toInt_le, ← Int32.toInt_inj, ti_l0, ti_l1, ti_l2, ti_l3, ti_l5, ti_l7, ti_l8, ti_l24, ti_l59, ti_l60, ti_l119, ti_l120, ti_lm1, ti_lm2] at c_15); (try simp only [Int32.lt_iff_toInt_lt, Int32.le_iff_toInt_le, ← Int32.toInt_inj, ti_l0, ti_l1, ti_l2, ti_l3, ti_l5, ti_l7, ti_l8, ti_l24, ti_l59, ti_l60, ti_l119, ti_l120, ti_lm1, ti_lm2]); (repeat' split) <;> first | rfl | omega) dX9_text_20
theorem ti_pin {x a mi : Int32} (e : x = a + mi) (h0 : 0 ≤ mi.toInt) (h1 : mi.toInt < 120) (ha : 0 ≤ a.toInt) (hb : a.toInt ≤ 240) : vp_in x 360 := by
  rw [vp_in_iff, e, Int32.toInt_add, Int.bmod_def]
  split <;> omega
set_option maxHeartbeats 4000000 in
set_option maxRecDepth 100000 in
theorem k_X9_recordHolders (l : Launch) (D : va_G) (A : Nat → Nat → Nat) (cy : Nat → ClassId) (hJ : ti_inj ti_LT A) (M : ti_M) (mi : Int32) (h0 : 0 ≤ mi.toInt) (h1 : mi.toInt < 120) (hs : tI M 27 3 = 0) : ti_Kv l yX9_recordHolders cX9_recordHolders 3 1 ti_LT D A cy M [.ref (A 0 0), .int mi] (fun M2 => ∃ g, M2 = uY M 0 4 g) := by
  refine ti_eV yp_X9_recordHolders hJ ti_LT_nd (Nat.le_of_ble_eq_true rfl) ?_
  intro p e s m args below meth c Q H0 C hQ hw ls hl
  have hx := C.1
  have hb := C.2.1
  have hl : lv_has ls 3 [(0, .ref (A 0 0)), (1, .int mi)] := hl
  refine lv_iconst (v := 0) hx hb dX9_recordHolders_0 (by decide) ?_
  refine lv_istore_n (lv' := [(2, .int 0), (0, .ref (A 0 0)), (1, .int mi)]) hx hb dX9_recordHolders_1 rfl hl (by decide) rfl (fun ls hl => ?_)
  refine lv_iload_n hx hb dX9_recordHolders_2 rfl (lv_at hl 0 rfl) ?_
  refine lv_iconst (v := 3) hx hb dX9_recordHolders_3 (by decide) ?_
  refine lv_icmp_ge (tgt := 40) hx hb dX9_recordHolders_4 (by decide) (fun c => absurd c (by decide)) (fun c_4 => ?_)
  refine lv_aload_n hx hb dX9_recordHolders_7 rfl (lv_at hl 1 rfl) ?_
  refine ti_get (ci := 9) (k := 4) (N := 10) (T := TX9) (v := .ref (A 0 5)) C hw iw_9 rfl ob_0 (by decide) (by decide) fl_X9_33 rfl rfl dX9_recordHolders_8 ?_
  refine lv_iload_n hx hb dX9_recordHolders_11 rfl (lv_at hl 0 rfl) ?_
  refine lv_bipush (v := 120) hx hb dX9_recordHolders_12 (by decide) ?_
  refine lv_imul hx hb dX9_recordHolders_14 ?_
  refine ti_top (y := 0) (by decide) ?_
  refine lv_iload_n hx hb dX9_recordHolders_15 rfl (lv_at hl 2 rfl) ?_
  refine lv_iadd hx hb dX9_recordHolders_16 ?_
  refine lv_topi (fun x_1 ex_1 => ?_)
  refine lv_aload_n hx hb dX9_recordHolders_17 rfl (lv_at hl 1 rfl) ?_
  refine ti_get (ci := 9) (k := 3) (N := 10) (T := TX9) (v := .ref (A 27 0)) C hw iw_9 rfl ob_0 (by decide) (by decide) fl_X9_29 rfl rfl dX9_recordHolders_18 ?_
  refine lv_aload_n hx hb dX9_recordHolders_21 rfl (lv_at hl 1 rfl) ?_
  refine ti_get (ci := 9) (k := 3) (N := 10) (T := TX9) (v := .ref (A 27 0)) C hw iw_9 rfl ob_0 (by decide) (by decide) fl_X9_29 rfl rfl dX9_recordHolders_22 ?_
  refine ti_get (ci := 3) (k := 7) (N := 17) (T := TX3) (v := .ref (A 27 8)) C hw iw_3 rfl ob_27 (by decide) (by decide) fl_X9_168 rfl rfl dX9_recordHolders_25 ?_
  refine lv_iload_n hx hb dX9_recordHolders_28 rfl (lv_at hl 0 rfl) ?_
  refine ti_iald (ci := 3) (k := 7) (n := 3) C hw ob_27 (by decide) (fun _ _ => rfl) (by unfold vp_in; decide) dX9_recordHolders_29 ?_
  refine lv_topi (fun x_2 ex_2 => ?_)
  refine ti_callVi (ci := 3) (av := [.int x_2]) C hw (k_X3_manAt l D A cy hJ _ 27 x_2 ob_27 hs) ⟨ml_X9_162, ym_X3_manAt, yv_X3_manAt, yi_X3_manAt, yc_X3_manAt⟩ yd_X3_manAt ob_27 (by decide) rfl rfl hl.1 (Nat.le_of_ble_eq_true rfl) ⟨by decide, by decide⟩ ⟨Nat.zero_le _, Nat.zero_le _⟩ dX9_recordHolders_30 (fun r_3 M_4 H locs hp_4 hw => ?_)
  obtain ⟨hm, rfl⟩ := hp_4
  have hw := hw.to hm
  refine ti_iastG (ci := 9) (k := 4) (n := 360) C hw ob_0 (by decide) (fun _ _ => rfl) (ti_pin (by assumption) h0 h1 (by decide) (by decide)) dX9_recordHolders_33 (fun H locs g_5 eg_5 hw => ?_)
  refine lv_iinc (v := 1) (lv' := [(2, .int 1), (0, .ref (A 0 0)), (1, .int mi)]) hx hb dX9_recordHolders_34 hl (k := 0) rfl (by decide) (by decide) rfl (fun ls hl => ?_)
  refine lv_goto (tgt := 2) hx hb dX9_recordHolders_37 (by decide) ?_
  refine lv_iload_n hx hb dX9_recordHolders_2 rfl (lv_at hl 0 rfl) ?_
  refine lv_iconst (v := 3) hx hb dX9_recordHolders_3 (by decide) ?_
  refine lv_icmp_ge (tgt := 40) hx hb dX9_recordHolders_4 (by decide) (fun c => absurd c (by decide)) (fun c_4 => ?_)
  refine lv_aload_n hx hb dX9_recordHolders_7 rfl (lv_at hl 1 rfl) ?_
  refine ti_get (ci := 9) (k := 4) (N := 10) (T := TX9) (v := .ref (A 0 5)) C hw iw_9 rfl ob_0 (by decide) (by decide) fl_X9_33 rfl rfl dX9_recordHolders_8 ?_
  refine lv_iload_n hx hb dX9_recordHolders_11 rfl (lv_at hl 0 rfl) ?_
  refine lv_bipush (v := 120) hx hb dX9_recordHolders_12 (by decide) ?_
  refine lv_imul hx hb dX9_recordHolders_14 ?_
  refine ti_top (y := 120) (by decide) ?_
  refine lv_iload_n hx hb dX9_recordHolders_15 rfl (lv_at hl 2 rfl) ?_
  refine lv_iadd hx hb dX9_recordHolders_16 ?_
  refine lv_topi (fun x_6 ex_6 => ?_)
  refine lv_aload_n hx hb dX9_recordHolders_17 rfl (lv_at hl 1 rfl) ?_
  refine ti_get (ci := 9) (k := 3) (N := 10) (T := TX9) (v := .ref (A 27 0)) C hw iw_9 rfl ob_0 (by decide) (by decide) fl_X9_29 rfl rfl dX9_recordHolders_18 ?_
  refine lv_aload_n hx hb dX9_recordHolders_21 rfl (lv_at hl 1 rfl) ?_
  refine ti_get (ci := 9) (k := 3) (N := 10) (T := TX9) (v := .ref (A 27 0)) C hw iw_9 rfl ob_0 (by decide) (by decide) fl_X9_29 rfl rfl dX9_recordHolders_22 ?_
  refine ti_get (ci := 3) (k := 7) (N := 17) (T := TX3) (v := .ref (A 27 8)) C hw iw_3 rfl ob_27 (by decide) (by decide) fl_X9_168 rfl rfl dX9_recordHolders_25 ?_
  refine lv_iload_n hx hb dX9_recordHolders_28 rfl (lv_at hl 0 rfl) ?_
  refine ti_iald (ci := 3) (k := 7) (n := 3) C hw ob_27 (by decide) (fun _ _ => rfl) (by unfold vp_in; decide) dX9_recordHolders_29 ?_
  refine lv_topi (fun x_7 ex_7 => ?_)
  refine ti_callVi (ci := 3) (av := [.int x_7]) C hw (k_X3_manAt l D A cy hJ _ 27 x_7 ob_27 hs) ⟨ml_X9_162, ym_X3_manAt, yv_X3_manAt, yi_X3_manAt, yc_X3_manAt⟩ yd_X3_manAt ob_27 (by decide) rfl rfl hl.1 (Nat.le_of_ble_eq_true rfl) ⟨by decide, by decide⟩ ⟨Nat.zero_le _, Nat.zero_le _⟩ dX9_recordHolders_30 (fun r_8 M_9 H locs hp_9 hw => ?_)
  obtain ⟨hm, rfl⟩ := hp_9
  have hw := hw.to hm
  refine ti_iastG (ci := 9) (k := 4) (n := 360) C hw ob_0 (by decide) (fun _ _ => rfl) (ti_pin (by assumption) h0 h1 (by decide) (by decide)) dX9_recordHolders_33 (fun H locs g_10 eg_10 hw => ?_)
  refine lv_iinc (v := 2) (lv' := [(2, .int 2), (0, .ref (A 0 0)), (1, .int mi)]) hx hb dX9_recordHolders_34 hl (k := 0) rfl (by decide) (by decide) rfl (fun ls hl => ?_)
  refine lv_goto (tgt := 2) hx hb dX9_recordHolders_37 (by decide) ?_
  refine lv_iload_n hx hb dX9_recordHolders_2 rfl (lv_at hl 0 rfl) ?_
  refine lv_iconst (v := 3) hx hb dX9_recordHolders_3 (by decide) ?_
  refine lv_icmp_ge (tgt := 40) hx hb dX9_recordHolders_4 (by decide) (fun c => absurd c (by decide)) (fun c_4 => ?_)
  refine lv_aload_n hx hb dX9_recordHolders_7 rfl (lv_at hl 1 rfl) ?_
  refine ti_get (ci := 9) (k := 4) (N := 10) (T := TX9) (v := .ref (A 0 5)) C hw iw_9 rfl ob_0 (by decide) (by decide) fl_X9_33 rfl rfl dX9_recordHolders_8 ?_
  refine lv_iload_n hx hb dX9_recordHolders_11 rfl (lv_at hl 0 rfl) ?_
  refine lv_bipush (v := 120) hx hb dX9_recordHolders_12 (by decide) ?_
  refine lv_imul hx hb dX9_recordHolders_14 ?_
  refine ti_top (y := 240) (by decide) ?_
  refine lv_iload_n hx hb dX9_recordHolders_15 rfl (lv_at hl 2 rfl) ?_
  refine lv_iadd hx hb dX9_recordHolders_16 ?_
  refine lv_topi (fun x_11 ex_11 => ?_)
  refine lv_aload_n hx hb dX9_recordHolders_17 rfl (lv_at hl 1 rfl) ?_
  refine ti_get (ci := 9) (k := 3) (N := 10) (T := TX9) (v := .ref (A 27 0)) C hw iw_9 rfl ob_0 (by decide) (by decide) fl_X9_29 rfl rfl dX9_recordHolders_18 ?_
  refine lv_aload_n hx hb dX9_recordHolders_21 rfl (lv_at hl 1 rfl) ?_
  refine ti_get (ci := 9) (k := 3) (N := 10) (T := TX9) (v := .ref (A 27 0)) C hw iw_9 rfl ob_0 (by decide) (by decide) fl_X9_29 rfl rfl dX9_recordHolders_22 ?_
  refine ti_get (ci := 3) (k := 7) (N := 17) (T := TX3) (v := .ref (A 27 8)) C hw iw_3 rfl ob_27 (by decide) (by decide) fl_X9_168 rfl rfl dX9_recordHolders_25 ?_
  refine lv_iload_n hx hb dX9_recordHolders_28 rfl (lv_at hl 0 rfl) ?_
  refine ti_iald (ci := 3) (k := 7) (n := 3) C hw ob_27 (by decide) (fun _ _ => rfl) (by unfold vp_in; decide) dX9_recordHolders_29 ?_
  refine lv_topi (fun x_12 ex_12 => ?_)
  refine ti_callVi (ci := 3) (av := [.int x_12]) C hw (k_X3_manAt l D A cy hJ _ 27 x_12 ob_27 hs) ⟨ml_X9_162, ym_X3_manAt, yv_X3_manAt, yi_X3_manAt, yc_X3_manAt⟩ yd_X3_manAt ob_27 (by decide) rfl rfl hl.1 (Nat.le_of_ble_eq_true rfl) ⟨by decide, by decide⟩ ⟨Nat.zero_le _, Nat.zero_le _⟩ dX9_recordHolders_30 (fun r_13 M_14 H locs hp_14 hw => ?_)
  obtain ⟨hm, rfl⟩ := hp_14
  have hw := hw.to hm
  refine ti_iastG (ci := 9) (k := 4) (n := 360) C hw ob_0 (by decide) (fun _ _ => rfl) (ti_pin (by assumption) h0 h1 (by decide) (by decide)) dX9_recordHolders_33 (fun H locs g_15 eg_15 hw => ?_)
  refine lv_iinc (v := 3) (lv' := [(2, .int 3), (0, .ref (A 0 0)), (1, .int mi)]) hx hb dX9_recordHolders_34 hl (k := 0) rfl (by decide) (by decide) rfl (fun ls hl => ?_)
  refine lv_goto (tgt := 2) hx hb dX9_recordHolders_37 (by decide) ?_
  refine lv_iload_n hx hb dX9_recordHolders_2 rfl (lv_at hl 0 rfl) ?_
  refine lv_iconst (v := 3) hx hb dX9_recordHolders_3 (by decide) ?_
  refine lv_icmp_ge (tgt := 40) hx hb dX9_recordHolders_4 (by decide) (fun c_4 => ?_) (fun c => absurd (by decide) c)
  exact hQ _ _ _ _ _ hw (⟨_, by rw [uY_uY, uY_uY]⟩) dX9_recordHolders_40
theorem ti_g0 {tt x y n1 : Int32} (hmi : y = tt) (h0 : 0 ≤ tt.toInt ∧ n1.toInt ≤ 120) (hin : (tt + 1).toInt = tt.toInt + 1 ∧ tt.toInt < n1.toInt) (e : x = y + 1 - 1) : 0 ≤ x.toInt ∧ x.toInt < 120 := by
  subst hmi
  have h1 : (y + 1 - 1).toInt = y.toInt := by
    rw [Int32.toInt_sub, hin.1, ti_l1, Int.bmod_def]; split <;> omega
  rw [e, h1]; omega
def pf_go (z : Int32) : Int32 := if z < 0 then -1 else if 120 < z then -1 else z
theorem ti_gor {tt z : Int32} (h0 : 0 ≤ tt.toInt ∧ z.toInt ≤ 120) (hle : tt.toInt ≤ z.toInt) (c : z ≤ tt) : tt = pf_go z := by
  have h1 : tt = z := by
    rw [← Int32.toInt_inj]; rw [Int32.le_iff_toInt_le] at c; omega
  subst h1
  unfold pf_go
  rw [if_neg (by rw [Int32.lt_iff_toInt_lt, ti_l0]; omega), if_neg (by rw [Int32.lt_iff_toInt_lt, ti_l120]; omega)]
set_option maxHeartbeats 4000000 in
set_option maxRecDepth 100000 in
theorem k_X9_go (l : Launch) (D : va_G) (A : Nat → Nat → Nat) (cy : Nat → ClassId) (hJ : ti_inj ti_LT A) (M : ti_M) (hF : ti_F M) (z : Int32) : ti_Ki l yX9_go cX9_go 3 (some .int) 4 ti_LT D A cy M [.ref (A 0 0), .int z] (fun r _ => r = pf_go z) := by
  refine ti_eI yp_X9_go hJ ti_LT_nd (Nat.le_of_ble_eq_true rfl) ?_
  intro p e s m args below meth c Q H0 C hQ hw ls hl
  have hx := C.1
  have hb := C.2.1
  have hl : lv_has ls 3 [(0, .ref (A 0 0)), (1, .int z)] := hl
  obtain ⟨f_told, f_spare, f_nt, f_many, f_fault, f_place, f_men, f_knots, f_mut, f_man, f_min, f_size, f_water, f_first, f_steps, f_img, f_sm, f_sk, f_ss, f_sw, f_p0, f_p1, f_p2⟩ := id hF
  refine lv_iload_n hx hb dX9_go_0 rfl (lv_at hl 1 rfl) ?_
  refine lv_if_lt (tgt := 18) hx hb dX9_go_1 (by decide) (fun c_1 => ?_) (fun c_1 => ?_)
  · refine lv_iconst (v := (-1)) hx hb dX9_go_18 (by decide) ?_
    exact hQ _ _ _ _ _ _ hw rfl (by unfold pf_go; (try simp only [Int32.lt_iff_toInt_lt, Int32.le_iff_toInt_le, ← Int32.toInt_inj, ti_l0, ti_l1, ti_l2, ti_l3, ti_l5, ti_l7, ti_l8, ti_l24, ti_l59, ti_l60, ti_l119, ti_l120, ti_lm1, ti_lm2] at c_1); (try simp only [Int32.lt_iff_toInt_lt, Int32.le_iff_toInt_le, ← Int32.toInt_inj, ti_l0, ti_l1, ti_l2, ti_l3, ti_l5, ti_l7, ti_l8, ti_l24, ti_l59, ti_l60, ti_l119, ti_l120, ti_lm1, ti_lm2]); (repeat' split) <;> first | rfl | omega) dX9_go_19
  · refine lv_iload_n hx hb dX9_go_4 rfl (lv_at hl 1 rfl) ?_
    refine lv_bipush (v := 120) hx hb dX9_go_5 (by decide) ?_
    refine lv_aload_n hx hb dX9_go_7 rfl (lv_at hl 0 rfl) ?_
    refine ti_get (ci := 9) (k := 3) (N := 10) (T := TX9) (v := .ref (A 27 0)) C hw iw_9 rfl ob_0 (by decide) (by decide) fl_X9_29 rfl rfl dX9_go_8 ?_
    refine ti_get (ci := 3) (k := 2) (N := 17) (T := TX3) C hw iw_3 rfl ob_27 (by decide) (by decide) fl_X9_186 rfl rfl dX9_go_11 ?_
    refine ti_top (y := 0) f_min ?_
    refine lv_isub hx hb dX9_go_14 ?_
    refine ti_top (y := 120) (by decide) ?_
    refine lv_icmp_le (tgt := 20) hx hb dX9_go_15 (by decide) (fun c_15 => ?_) (fun c_15 => ?_)
    · refine lv_iconst (v := 0) hx hb dX9_go_20 (by decide) ?_
      refine lv_istore_n (lv' := [(2, .int 0), (0, .ref (A 0 0)), (1, .int z)]) hx hb dX9_go_21 rfl hl (by decide) rfl (fun ls hl => ?_)
      suffices hloop : ∀ (n : Nat) (tt : Int32) (Mx : ti_M) (H : Heap) (locs : List Loc) (ls : Array Slot), ((z.toInt - tt.toInt).toNat < n) → (tT Mx 27 0 = some 3) → (tI Mx 27 3 = 0) → (tI Mx 3 4 = 0) → (tI Mx 3 10 = 0) → (tI Mx 27 2 = tt) → (0 ≤ tt.toInt ∧ z.toInt ≤ 120) → (tt.toInt ≤ z.toInt) → ti_H ti_LT D A cy H0 Mx H locs → lv_has ls 3 [(2, .int tt), (0, .ref (A 0 0)), (1, .int z)] → W p l e (ti_rm 4) s m args below meth c H locs 0 0 Q (F0 m 22 ls []) from hloop (z.toInt.toNat + 1) 0 M _ _ _ (by simp only [ti_l0]; omega) f_nt f_size f_men f_mut f_min (by (try simp only [Int32.lt_iff_toInt_lt, Int32.le_iff_toInt_le, ← Int32.toInt_inj, ti_l0, ti_l1, ti_l2, ti_l3, ti_l5, ti_l7, ti_l8, ti_l24, ti_l59, ti_l60, ti_l119, ti_l120, ti_lm1, ti_lm2] at c_1); (try simp only [Int32.lt_iff_toInt_lt, Int32.le_iff_toInt_le, ← Int32.toInt_inj, ti_l0, ti_l1, ti_l2, ti_l3, ti_l5, ti_l7, ti_l8, ti_l24, ti_l59, ti_l60, ti_l119, ti_l120, ti_lm1, ti_lm2] at c_15); (try simp only [Int32.lt_iff_toInt_lt, Int32.le_iff_toInt_le, ← Int32.toInt_inj, ti_l0, ti_l1, ti_l2, ti_l3, ti_l5, ti_l7, ti_l8, ti_l24, ti_l59, ti_l60, ti_l119, ti_l120, ti_lm1, ti_lm2]); omega) (by (try simp only [Int32.lt_iff_toInt_lt, Int32.le_iff_toInt_le, ← Int32.toInt_inj, ti_l0, ti_l1, ti_l2, ti_l3, ti_l5, ti_l7, ti_l8, ti_l24, ti_l59, ti_l60, ti_l119, ti_l120, ti_lm1, ti_lm2] at c_1); (try simp only [Int32.lt_iff_toInt_lt, Int32.le_iff_toInt_le, ← Int32.toInt_inj, ti_l0, ti_l1, ti_l2, ti_l3, ti_l5, ti_l7, ti_l8, ti_l24, ti_l59, ti_l60, ti_l119, ti_l120, ti_lm1, ti_lm2] at c_15); (try simp only [Int32.lt_iff_toInt_lt, Int32.le_iff_toInt_le, ← Int32.toInt_inj, ti_l0, ti_l1, ti_l2, ti_l3, ti_l5, ti_l7, ti_l8, ti_l24, ti_l59, ti_l60, ti_l119, ti_l120, ti_lm1, ti_lm2]); omega) hw (lv_sub hl [0, 1, 2] rfl)
      clear hw hl ls
      intro n
      induction n with
      | zero => intro tt Mx H locs ls hfuel hT hs hm0 hu hmi h0 hle hw hl; exact absurd hfuel (by omega)
      | succ n ih =>
        intro tt Mx H locs ls hfuel hT hs hm0 hu hmi h0 hle hw hl
        refine lv_iload_n hx hb dX9_go_22 rfl (lv_at hl 0 rfl) ?_
        refine lv_iload_n hx hb dX9_go_23 rfl (lv_at hl 2 rfl) ?_
        refine lv_icmp_ge (tgt := 53) hx hb dX9_go_24 (by decide) (fun c_24 => ?_) (fun c_24 => ?_)
        · refine lv_iload_n hx hb dX9_go_53 rfl (lv_at hl 2 rfl) ?_
          refine lv_if_le (tgt := 64) hx hb dX9_go_54 (by decide) (fun c_54 => ?_) (fun c_54 => ?_)
          · refine lv_aload_n hx hb dX9_go_64 rfl (lv_at hl 1 rfl) ?_
            refine ti_get (ci := 9) (k := 3) (N := 10) (T := TX9) (v := .ref (A 27 0)) C hw iw_9 rfl ob_0 (by decide) (by decide) fl_X9_29 rfl rfl dX9_go_65 ?_
            refine ti_get (ci := 3) (k := 2) (N := 17) (T := TX3) C hw iw_3 rfl ob_27 (by decide) (by decide) fl_X9_186 rfl rfl dX9_go_68 ?_
            refine ti_top (y := tt) hmi ?_
            exact hQ _ _ _ _ _ _ hw rfl (ti_gor h0 hle c_24) dX9_go_71
          · refine lv_aload_n hx hb dX9_go_57 rfl (lv_at hl 1 rfl) ?_
            refine ti_get (ci := 9) (k := 5) (N := 10) (T := TX9) (v := .ref (A 28 0)) C hw iw_9 rfl ob_0 (by decide) (by decide) fl_X9_40 rfl rfl dX9_go_58 ?_
            refine ti_callVv (ci := 5) (av := []) C hw (k_X5_clear l D A cy hJ _ ) ⟨ml_X9_87, ym_X5_clear, yv_X5_clear, yi_X5_clear, yc_X5_clear⟩ yd_X5_clear ob_28 (by decide) rfl rfl hl.1 (Nat.le_of_ble_eq_true rfl) ⟨by decide, by decide⟩ ⟨Nat.zero_le _, Nat.zero_le _⟩ dX9_go_61 (fun M_2 H locs hp_2 hw => ?_)
            have hw := hw.to hp_2
            refine lv_aload_n hx hb dX9_go_64 rfl (lv_at hl 1 rfl) ?_
            refine ti_get (ci := 9) (k := 3) (N := 10) (T := TX9) (v := .ref (A 27 0)) C hw iw_9 rfl ob_0 (by decide) (by decide) fl_X9_29 rfl rfl dX9_go_65 ?_
            refine ti_get (ci := 3) (k := 2) (N := 17) (T := TX3) C hw iw_3 rfl ob_27 (by decide) (by decide) fl_X9_186 rfl rfl dX9_go_68 ?_
            refine ti_top (y := tt) hmi ?_
            exact hQ _ _ _ _ _ _ hw rfl (ti_gor h0 hle c_24) dX9_go_71
        · have hin := ti_inc (un := z) c_24
          refine lv_aload_n hx hb dX9_go_27 rfl (lv_at hl 1 rfl) ?_
          refine ti_get (ci := 9) (k := 3) (N := 10) (T := TX9) (v := .ref (A 27 0)) C hw iw_9 rfl ob_0 (by decide) (by decide) fl_X9_29 rfl rfl dX9_go_28 ?_
          refine ti_callVv (ci := 3) (av := []) C hw (k_X3_pass l D A cy hJ _ 27 3 ob_27 ob_3 hT hs hm0 hu) ⟨ml_X9_189, ym_X3_pass, yv_X3_pass, yi_X3_pass, yc_X3_pass⟩ yd_X3_pass ob_27 (by decide) rfl rfl hl.1 (Nat.le_of_ble_eq_true rfl) ⟨by decide, by decide⟩ ⟨Nat.zero_le _, Nat.zero_le _⟩ dX9_go_31 (fun M_4 H locs hp_4 hw => ?_)
          obtain ⟨g_5, hm⟩ := hp_4
          have hw := hw.to hm
          refine lv_aload_n hx hb dX9_go_34 rfl (lv_at hl 1 rfl) ?_
          refine lv_aload_n hx hb dX9_go_35 rfl (lv_at hl 1 rfl) ?_
          refine ti_get (ci := 9) (k := 3) (N := 10) (T := TX9) (v := .ref (A 27 0)) C hw iw_9 rfl ob_0 (by decide) (by decide) fl_X9_29 rfl rfl dX9_go_36 ?_
          refine ti_get (ci := 3) (k := 2) (N := 17) (T := TX3) C hw iw_3 rfl ob_27 (by decide) (by decide) fl_X9_186 rfl rfl dX9_go_39 ?_
          refine ti_top (y := (tI Mx 27 2 + 1)) (show tI (uI (uY Mx 27 16 g_5) 27 2 (tI Mx 27 2 + 1)) 27 2 = _ from tI_u _ _ _ _) ?_
          refine lv_iconst (v := 1) hx hb dX9_go_42 (by decide) ?_
          refine lv_isub hx hb dX9_go_43 ?_
          refine lv_topi (fun x_6 ex_6 => ?_)
          refine ti_callVv (ci := 9) (av := [.int x_6]) C hw (k_X9_recordHolders l D A cy hJ _ x_6 (ti_g0 hmi h0 hin (by assumption)).1 (ti_g0 hmi h0 hin (by assumption)).2 hs) ⟨ml_X9_192, ym_X9_recordHolders, yv_X9_recordHolders, yi_X9_recordHolders, yc_X9_recordHolders⟩ yd_X9_recordHolders ob_0 (by decide) rfl rfl hl.1 (Nat.le_of_ble_eq_true rfl) ⟨by decide, by decide⟩ ⟨Nat.zero_le _, Nat.zero_le _⟩ dX9_go_44 (fun M_8 H locs hp_8 hw => ?_)
          obtain ⟨g_9, hm⟩ := hp_8
          have hw := hw.to hm
          obtain ⟨x_10, ex_10⟩ : ∃ z : Int32, z = tt + 1 := ⟨_, rfl⟩
          refine lv_iinc (v := x_10) (lv' := [(2, .int x_10), (0, .ref (A 0 0)), (1, .int z)]) hx hb dX9_go_47 hl (k := 0) rfl (by rw [ex_10]; rfl) (by decide) rfl (fun ls hl => ?_)
          refine lv_goto (tgt := 22) hx hb dX9_go_50 (by decide) ?_
          exact ih x_10 (uY (uI (uY Mx 27 16 g_5) 27 2 (tI Mx 27 2 + 1)) 0 4 g_9) _ _ _ (by rw [← ex_10] at hin; omega) hT hs hm0 hu ((show tI (uI (uY Mx 27 16 g_5) 27 2 (tI Mx 27 2 + 1)) 27 2 = _ from tI_u _ _ _ _).trans (by rw [hmi, ex_10])) (by rw [← ex_10] at hin; omega) (by rw [← ex_10] at hin; omega) hw (lv_sub hl [0, 1, 2] rfl)
    · refine lv_iconst (v := (-1)) hx hb dX9_go_18 (by decide) ?_
      exact hQ _ _ _ _ _ _ hw rfl (by unfold pf_go; (try simp only [Int32.lt_iff_toInt_lt, Int32.le_iff_toInt_le, ← Int32.toInt_inj, ti_l0, ti_l1, ti_l2, ti_l3, ti_l5, ti_l7, ti_l8, ti_l24, ti_l59, ti_l60, ti_l119, ti_l120, ti_lm1, ti_lm2] at c_1); (try simp only [Int32.lt_iff_toInt_lt, Int32.le_iff_toInt_le, ← Int32.toInt_inj, ti_l0, ti_l1, ti_l2, ti_l3, ti_l5, ti_l7, ti_l8, ti_l24, ti_l59, ti_l60, ti_l119, ti_l120, ti_lm1, ti_lm2] at c_15); (try simp only [Int32.lt_iff_toInt_lt, Int32.le_iff_toInt_le, ← Int32.toInt_inj, ti_l0, ti_l1, ti_l2, ti_l3, ti_l5, ti_l7, ti_l8, ti_l24, ti_l59, ti_l60, ti_l119, ti_l120, ti_lm1, ti_lm2]); (repeat' split) <;> first | rfl | omega) dX9_go_19

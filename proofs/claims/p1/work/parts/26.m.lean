set_option maxHeartbeats 4000000 in
set_option maxRecDepth 100000 in
theorem k_X10_feed (l : Launch) (D : va_G) (A : Nat → Nat → Nat) (cy : Nat → ClassId) (hJ : ti_inj ti_LM A) (M : ti_M) (hF : ti_FM M) (z : Int32) (z2 : Int32) (z3 : Int32) (z4 : Int32) (z5 : Int32) : ti_Ki l yX10_feed cX10_feed 8 (some .int) 0 ti_LM D A cy M [.ref (A 60 0), .int z, .int z2, .int z3, .int z4, .int z5] (fun r _ => r = 20) := by
  refine ti_eI yp_X10_feed hJ ti_LM_nd (Nat.le_of_ble_eq_true rfl) ?_
  intro p e s m args below meth c Q H0 C hQ hw ls hl
  have hx := C.1
  have hb := C.2.1
  have hl : lv_has ls 8 [(0, .ref (A 60 0)), (1, .int z), (2, .int z2), (3, .int z3), (4, .int z4), (5, .int z5)] := hl
  obtain ⟨m_taped, m_lf, m_lp, m_hi, m_un, m_st, m_kb, n0, n3, n5, n7, mi0, wa0, co0, ma0, pw0, pw1, pw2, sf, sto⟩ := id hF
  refine lv_aload_n hx hb dX10_feed_0 rfl (lv_at hl 0 rfl) ?_
  refine lv_iconst (v := 0) hx hb dX10_feed_1 (by decide) ?_
  refine ti_putI (ci := 10) (k := 0) (N := 67) (T := TX10) C hw iw_10 tyX10 tyX10_ok nmX10 rfl ob_60 (by decide) (by decide) fl_X10_154 rfl rfl rfl rfl (fn_10 A _) fs_10_0 dX10_feed_2 (fun H locs hw => ?_)
  refine lv_aload_n hx hb dX10_feed_5 rfl (lv_at hl 0 rfl) ?_
  refine ti_get (ci := 10) (k := 2) (N := 67) (T := TX10) C hw iw_10 rfl ob_60 (by decide) (by decide) fl_X10_157 rfl rfl dX10_feed_6 ?_
  refine ti_top (y := 0) ((tI_k _ _ _ _ (by decide)).trans m_taped) ?_
  refine lv_sipush (v := 680) hx hb dX10_feed_9 (by decide) ?_
  refine lv_icmp_le (tgt := 17) hx hb dX10_feed_12 (by decide) (fun c_12 => ?_) (fun c => absurd (by decide) c)
  refine lv_iconst (v := 0) hx hb dX10_feed_17 (by decide) ?_
  refine lv_istore (lv' := [(6, .int 0), (0, .ref (A 60 0)), (1, .int z), (2, .int z2), (3, .int z3), (4, .int z4), (5, .int z5)]) hx hb dX10_feed_18 hl (by decide) rfl (fun ls hl => ?_)
  refine lv_iload hx hb dX10_feed_20 (lv_at hl 0 rfl) ?_
  refine lv_bipush (v := 20) hx hb dX10_feed_22 (by decide) ?_
  refine lv_icmp_ge (tgt := 110) hx hb dX10_feed_24 (by decide) (fun c => absurd c (by decide)) (fun c_24 => ?_)
  refine lv_iload hx hb dX10_feed_27 (lv_at hl 0 rfl) ?_
  refine lv_iconst (v := 4) hx hb dX10_feed_29 (by decide) ?_
  refine lv_icmp_ge (tgt := 37) hx hb dX10_feed_30 (by decide) (fun c => absurd c (by decide)) (fun c_30 => ?_)
  refine lv_iload_n hx hb dX10_feed_33 rfl (lv_at hl 2 rfl) ?_
  refine lv_goto (tgt := 73) hx hb dX10_feed_34 (by decide) ?_
  refine lv_istore (lv' := [(7, .int z), (6, .int 0), (0, .ref (A 60 0)), (1, .int z), (2, .int z2), (3, .int z3), (4, .int z4), (5, .int z5)]) hx hb dX10_feed_73 hl (by decide) rfl (fun ls hl => ?_)
  refine lv_aload_n hx hb dX10_feed_75 rfl (lv_at hl 2 rfl) ?_
  refine ti_get (ci := 10) (k := 1) (N := 67) (T := TX10) (v := .ref (A 60 2)) C hw iw_10 rfl ob_60 (by decide) (by decide) fl_X10_7 rfl rfl dX10_feed_76 ?_
  refine lv_aload_n hx hb dX10_feed_79 rfl (lv_at hl 2 rfl) ?_
  refine ti_get (ci := 10) (k := 2) (N := 67) (T := TX10) C hw iw_10 rfl ob_60 (by decide) (by decide) fl_X10_157 rfl rfl dX10_feed_80 ?_
  refine ti_top (y := 0) ((tI_k _ _ _ _ (by decide)).trans m_taped) ?_
  refine lv_iload hx hb dX10_feed_83 (lv_at hl 1 rfl) ?_
  refine lv_iadd hx hb dX10_feed_85 ?_
  refine ti_top (y := 0) (by decide) ?_
  refine lv_iload hx hb dX10_feed_86 (lv_at hl 0 rfl) ?_
  refine lv_bipush (v := 24) hx hb dX10_feed_88 (by decide) ?_
  refine lv_bipush (v := 8) hx hb dX10_feed_90 (by decide) ?_
  refine lv_iload hx hb dX10_feed_92 (lv_at hl 1 rfl) ?_
  refine lv_iconst (v := 4) hx hb dX10_feed_94 (by decide) ?_
  refine lv_irem hx hb dX10_feed_95 (by decide) ?_
  refine ti_top (y := 0) (by decide) ?_
  refine lv_imul hx hb dX10_feed_96 ?_
  refine ti_top (y := 0) (by decide) ?_
  refine lv_isub hx hb dX10_feed_97 ?_
  refine ti_top (y := 24) (by decide) ?_
  refine lv_ishr hx hb dX10_feed_98 ?_
  refine lv_topi (fun x_1 ex_1 => ?_)
  refine lv_sipush (v := 255) hx hb dX10_feed_99 (by decide) ?_
  refine lv_iand hx hb dX10_feed_102 ?_
  refine lv_topi (fun x_2 ex_2 => ?_)
  refine ti_iastG (ci := 10) (k := 1) (n := 700) C hw ob_60 (by decide) (fun _ _ => rfl) (by unfold vp_in; decide) dX10_feed_103 (fun H locs g_3 eg_3 hw => ?_)
  refine lv_iinc (v := 1) (lv' := [(6, .int 1), (7, .int z), (0, .ref (A 60 0)), (1, .int z), (2, .int z2), (3, .int z3), (4, .int z4), (5, .int z5)]) hx hb dX10_feed_104 hl (k := 1) rfl (by decide) (by decide) rfl (fun ls hl => ?_)
  refine lv_goto (tgt := 20) hx hb dX10_feed_107 (by decide) ?_
  refine lv_iload hx hb dX10_feed_20 (lv_at hl 0 rfl) ?_
  refine lv_bipush (v := 20) hx hb dX10_feed_22 (by decide) ?_
  refine lv_icmp_ge (tgt := 110) hx hb dX10_feed_24 (by decide) (fun c => absurd c (by decide)) (fun c_24 => ?_)
  refine lv_iload hx hb dX10_feed_27 (lv_at hl 0 rfl) ?_
  refine lv_iconst (v := 4) hx hb dX10_feed_29 (by decide) ?_
  refine lv_icmp_ge (tgt := 37) hx hb dX10_feed_30 (by decide) (fun c => absurd c (by decide)) (fun c_30 => ?_)
  refine lv_iload_n hx hb dX10_feed_33 rfl (lv_at hl 3 rfl) ?_
  refine lv_goto (tgt := 73) hx hb dX10_feed_34 (by decide) ?_
  refine lv_istore (lv' := [(7, .int z), (6, .int 1), (0, .ref (A 60 0)), (1, .int z), (2, .int z2), (3, .int z3), (4, .int z4), (5, .int z5)]) hx hb dX10_feed_73 hl (by decide) rfl (fun ls hl => ?_)
  refine lv_aload_n hx hb dX10_feed_75 rfl (lv_at hl 2 rfl) ?_
  refine ti_get (ci := 10) (k := 1) (N := 67) (T := TX10) (v := .ref (A 60 2)) C hw iw_10 rfl ob_60 (by decide) (by decide) fl_X10_7 rfl rfl dX10_feed_76 ?_
  refine lv_aload_n hx hb dX10_feed_79 rfl (lv_at hl 2 rfl) ?_
  refine ti_get (ci := 10) (k := 2) (N := 67) (T := TX10) C hw iw_10 rfl ob_60 (by decide) (by decide) fl_X10_157 rfl rfl dX10_feed_80 ?_
  refine ti_top (y := 0) ((tI_uY _ _ _ _ _ _).trans ((tI_k _ _ _ _ (by decide)).trans m_taped)) ?_
  refine lv_iload hx hb dX10_feed_83 (lv_at hl 1 rfl) ?_
  refine lv_iadd hx hb dX10_feed_85 ?_
  refine ti_top (y := 1) (by decide) ?_
  refine lv_iload hx hb dX10_feed_86 (lv_at hl 0 rfl) ?_
  refine lv_bipush (v := 24) hx hb dX10_feed_88 (by decide) ?_
  refine lv_bipush (v := 8) hx hb dX10_feed_90 (by decide) ?_
  refine lv_iload hx hb dX10_feed_92 (lv_at hl 1 rfl) ?_
  refine lv_iconst (v := 4) hx hb dX10_feed_94 (by decide) ?_
  refine lv_irem hx hb dX10_feed_95 (by decide) ?_
  refine ti_top (y := 1) (by decide) ?_
  refine lv_imul hx hb dX10_feed_96 ?_
  refine ti_top (y := 8) (by decide) ?_
  refine lv_isub hx hb dX10_feed_97 ?_
  refine ti_top (y := 16) (by decide) ?_
  refine lv_ishr hx hb dX10_feed_98 ?_
  refine lv_topi (fun x_4 ex_4 => ?_)
  refine lv_sipush (v := 255) hx hb dX10_feed_99 (by decide) ?_
  refine lv_iand hx hb dX10_feed_102 ?_
  refine lv_topi (fun x_5 ex_5 => ?_)
  refine ti_iastG (ci := 10) (k := 1) (n := 700) C hw ob_60 (by decide) (fun _ _ => rfl) (by unfold vp_in; decide) dX10_feed_103 (fun H locs g_6 eg_6 hw => ?_)
  refine lv_iinc (v := 2) (lv' := [(6, .int 2), (7, .int z), (0, .ref (A 60 0)), (1, .int z), (2, .int z2), (3, .int z3), (4, .int z4), (5, .int z5)]) hx hb dX10_feed_104 hl (k := 1) rfl (by decide) (by decide) rfl (fun ls hl => ?_)
  refine lv_goto (tgt := 20) hx hb dX10_feed_107 (by decide) ?_
  refine lv_iload hx hb dX10_feed_20 (lv_at hl 0 rfl) ?_
  refine lv_bipush (v := 20) hx hb dX10_feed_22 (by decide) ?_
  refine lv_icmp_ge (tgt := 110) hx hb dX10_feed_24 (by decide) (fun c => absurd c (by decide)) (fun c_24 => ?_)
  refine lv_iload hx hb dX10_feed_27 (lv_at hl 0 rfl) ?_
  refine lv_iconst (v := 4) hx hb dX10_feed_29 (by decide) ?_
  refine lv_icmp_ge (tgt := 37) hx hb dX10_feed_30 (by decide) (fun c => absurd c (by decide)) (fun c_30 => ?_)
  refine lv_iload_n hx hb dX10_feed_33 rfl (lv_at hl 3 rfl) ?_
  refine lv_goto (tgt := 73) hx hb dX10_feed_34 (by decide) ?_
  refine lv_istore (lv' := [(7, .int z), (6, .int 2), (0, .ref (A 60 0)), (1, .int z), (2, .int z2), (3, .int z3), (4, .int z4), (5, .int z5)]) hx hb dX10_feed_73 hl (by decide) rfl (fun ls hl => ?_)
  refine lv_aload_n hx hb dX10_feed_75 rfl (lv_at hl 2 rfl) ?_
  refine ti_get (ci := 10) (k := 1) (N := 67) (T := TX10) (v := .ref (A 60 2)) C hw iw_10 rfl ob_60 (by decide) (by decide) fl_X10_7 rfl rfl dX10_feed_76 ?_
  refine lv_aload_n hx hb dX10_feed_79 rfl (lv_at hl 2 rfl) ?_
  refine ti_get (ci := 10) (k := 2) (N := 67) (T := TX10) C hw iw_10 rfl ob_60 (by decide) (by decide) fl_X10_157 rfl rfl dX10_feed_80 ?_
  refine ti_top (y := 0) ((tI_uY _ _ _ _ _ _).trans ((tI_uY _ _ _ _ _ _).trans ((tI_k _ _ _ _ (by decide)).trans m_taped))) ?_
  refine lv_iload hx hb dX10_feed_83 (lv_at hl 1 rfl) ?_
  refine lv_iadd hx hb dX10_feed_85 ?_
  refine ti_top (y := 2) (by decide) ?_
  refine lv_iload hx hb dX10_feed_86 (lv_at hl 0 rfl) ?_
  refine lv_bipush (v := 24) hx hb dX10_feed_88 (by decide) ?_
  refine lv_bipush (v := 8) hx hb dX10_feed_90 (by decide) ?_
  refine lv_iload hx hb dX10_feed_92 (lv_at hl 1 rfl) ?_
  refine lv_iconst (v := 4) hx hb dX10_feed_94 (by decide) ?_
  refine lv_irem hx hb dX10_feed_95 (by decide) ?_
  refine ti_top (y := 2) (by decide) ?_
  refine lv_imul hx hb dX10_feed_96 ?_
  refine ti_top (y := 16) (by decide) ?_
  refine lv_isub hx hb dX10_feed_97 ?_
  refine ti_top (y := 8) (by decide) ?_
  refine lv_ishr hx hb dX10_feed_98 ?_
  refine lv_topi (fun x_7 ex_7 => ?_)
  refine lv_sipush (v := 255) hx hb dX10_feed_99 (by decide) ?_
  refine lv_iand hx hb dX10_feed_102 ?_
  refine lv_topi (fun x_8 ex_8 => ?_)
  refine ti_iastG (ci := 10) (k := 1) (n := 700) C hw ob_60 (by decide) (fun _ _ => rfl) (by unfold vp_in; decide) dX10_feed_103 (fun H locs g_9 eg_9 hw => ?_)
  refine lv_iinc (v := 3) (lv' := [(6, .int 3), (7, .int z), (0, .ref (A 60 0)), (1, .int z), (2, .int z2), (3, .int z3), (4, .int z4), (5, .int z5)]) hx hb dX10_feed_104 hl (k := 1) rfl (by decide) (by decide) rfl (fun ls hl => ?_)
  refine lv_goto (tgt := 20) hx hb dX10_feed_107 (by decide) ?_
  refine lv_iload hx hb dX10_feed_20 (lv_at hl 0 rfl) ?_
  refine lv_bipush (v := 20) hx hb dX10_feed_22 (by decide) ?_
  refine lv_icmp_ge (tgt := 110) hx hb dX10_feed_24 (by decide) (fun c => absurd c (by decide)) (fun c_24 => ?_)
  refine lv_iload hx hb dX10_feed_27 (lv_at hl 0 rfl) ?_
  refine lv_iconst (v := 4) hx hb dX10_feed_29 (by decide) ?_
  refine lv_icmp_ge (tgt := 37) hx hb dX10_feed_30 (by decide) (fun c => absurd c (by decide)) (fun c_30 => ?_)
  refine lv_iload_n hx hb dX10_feed_33 rfl (lv_at hl 3 rfl) ?_
  refine lv_goto (tgt := 73) hx hb dX10_feed_34 (by decide) ?_
  refine lv_istore (lv' := [(7, .int z), (6, .int 3), (0, .ref (A 60 0)), (1, .int z), (2, .int z2), (3, .int z3), (4, .int z4), (5, .int z5)]) hx hb dX10_feed_73 hl (by decide) rfl (fun ls hl => ?_)
  refine lv_aload_n hx hb dX10_feed_75 rfl (lv_at hl 2 rfl) ?_
  refine ti_get (ci := 10) (k := 1) (N := 67) (T := TX10) (v := .ref (A 60 2)) C hw iw_10 rfl ob_60 (by decide) (by decide) fl_X10_7 rfl rfl dX10_feed_76 ?_
  refine lv_aload_n hx hb dX10_feed_79 rfl (lv_at hl 2 rfl) ?_
  refine ti_get (ci := 10) (k := 2) (N := 67) (T := TX10) C hw iw_10 rfl ob_60 (by decide) (by decide) fl_X10_157 rfl rfl dX10_feed_80 ?_
  refine ti_top (y := 0) ((tI_uY _ _ _ _ _ _).trans ((tI_uY _ _ _ _ _ _).trans ((tI_uY _ _ _ _ _ _).trans ((tI_k _ _ _ _ (by decide)).trans m_taped)))) ?_
  refine lv_iload hx hb dX10_feed_83 (lv_at hl 1 rfl) ?_
  refine lv_iadd hx hb dX10_feed_85 ?_
  refine ti_top (y := 3) (by decide) ?_
  refine lv_iload hx hb dX10_feed_86 (lv_at hl 0 rfl) ?_
  refine lv_bipush (v := 24) hx hb dX10_feed_88 (by decide) ?_
  refine lv_bipush (v := 8) hx hb dX10_feed_90 (by decide) ?_
  refine lv_iload hx hb dX10_feed_92 (lv_at hl 1 rfl) ?_
  refine lv_iconst (v := 4) hx hb dX10_feed_94 (by decide) ?_
  refine lv_irem hx hb dX10_feed_95 (by decide) ?_
  refine ti_top (y := 3) (by decide) ?_
  refine lv_imul hx hb dX10_feed_96 ?_
  refine ti_top (y := 24) (by decide) ?_
  refine lv_isub hx hb dX10_feed_97 ?_
  refine ti_top (y := 0) (by decide) ?_
  refine lv_ishr hx hb dX10_feed_98 ?_
  refine lv_topi (fun x_10 ex_10 => ?_)
  refine lv_sipush (v := 255) hx hb dX10_feed_99 (by decide) ?_
  refine lv_iand hx hb dX10_feed_102 ?_
  refine lv_topi (fun x_11 ex_11 => ?_)
  refine ti_iastG (ci := 10) (k := 1) (n := 700) C hw ob_60 (by decide) (fun _ _ => rfl) (by unfold vp_in; decide) dX10_feed_103 (fun H locs g_12 eg_12 hw => ?_)
  refine lv_iinc (v := 4) (lv' := [(6, .int 4), (7, .int z), (0, .ref (A 60 0)), (1, .int z), (2, .int z2), (3, .int z3), (4, .int z4), (5, .int z5)]) hx hb dX10_feed_104 hl (k := 1) rfl (by decide) (by decide) rfl (fun ls hl => ?_)
  refine lv_goto (tgt := 20) hx hb dX10_feed_107 (by decide) ?_
  refine lv_iload hx hb dX10_feed_20 (lv_at hl 0 rfl) ?_
  refine lv_bipush (v := 20) hx hb dX10_feed_22 (by decide) ?_
  refine lv_icmp_ge (tgt := 110) hx hb dX10_feed_24 (by decide) (fun c => absurd c (by decide)) (fun c_24 => ?_)
  refine lv_iload hx hb dX10_feed_27 (lv_at hl 0 rfl) ?_
  refine lv_iconst (v := 4) hx hb dX10_feed_29 (by decide) ?_
  refine lv_icmp_ge (tgt := 37) hx hb dX10_feed_30 (by decide) (fun c_30 => ?_) (fun c => absurd (by decide) c)
  refine lv_iload hx hb dX10_feed_37 (lv_at hl 0 rfl) ?_
  refine lv_bipush (v := 8) hx hb dX10_feed_39 (by decide) ?_
  refine lv_icmp_ge (tgt := 48) hx hb dX10_feed_41 (by decide) (fun c => absurd c (by decide)) (fun c_41 => ?_)
  refine lv_iload_n hx hb dX10_feed_44 rfl (lv_at hl 4 rfl) ?_
  refine lv_goto (tgt := 73) hx hb dX10_feed_45 (by decide) ?_
  refine lv_istore (lv' := [(7, .int z2), (6, .int 4), (0, .ref (A 60 0)), (1, .int z), (2, .int z2), (3, .int z3), (4, .int z4), (5, .int z5)]) hx hb dX10_feed_73 hl (by decide) rfl (fun ls hl => ?_)
  refine lv_aload_n hx hb dX10_feed_75 rfl (lv_at hl 2 rfl) ?_
  refine ti_get (ci := 10) (k := 1) (N := 67) (T := TX10) (v := .ref (A 60 2)) C hw iw_10 rfl ob_60 (by decide) (by decide) fl_X10_7 rfl rfl dX10_feed_76 ?_
  refine lv_aload_n hx hb dX10_feed_79 rfl (lv_at hl 2 rfl) ?_
  refine ti_get (ci := 10) (k := 2) (N := 67) (T := TX10) C hw iw_10 rfl ob_60 (by decide) (by decide) fl_X10_157 rfl rfl dX10_feed_80 ?_
  refine ti_top (y := 0) ((tI_uY _ _ _ _ _ _).trans ((tI_uY _ _ _ _ _ _).trans ((tI_uY _ _ _ _ _ _).trans ((tI_uY _ _ _ _ _ _).trans ((tI_k _ _ _ _ (by decide)).trans m_taped))))) ?_
  refine lv_iload hx hb dX10_feed_83 (lv_at hl 1 rfl) ?_
  refine lv_iadd hx hb dX10_feed_85 ?_
  refine ti_top (y := 4) (by decide) ?_
  refine lv_iload hx hb dX10_feed_86 (lv_at hl 0 rfl) ?_
  refine lv_bipush (v := 24) hx hb dX10_feed_88 (by decide) ?_
  refine lv_bipush (v := 8) hx hb dX10_feed_90 (by decide) ?_
  refine lv_iload hx hb dX10_feed_92 (lv_at hl 1 rfl) ?_
  refine lv_iconst (v := 4) hx hb dX10_feed_94 (by decide) ?_
  refine lv_irem hx hb dX10_feed_95 (by decide) ?_
  refine ti_top (y := 0) (by decide) ?_
  refine lv_imul hx hb dX10_feed_96 ?_
  refine ti_top (y := 0) (by decide) ?_
  refine lv_isub hx hb dX10_feed_97 ?_
  refine ti_top (y := 24) (by decide) ?_
  refine lv_ishr hx hb dX10_feed_98 ?_
  refine lv_topi (fun x_13 ex_13 => ?_)
  refine lv_sipush (v := 255) hx hb dX10_feed_99 (by decide) ?_
  refine lv_iand hx hb dX10_feed_102 ?_
  refine lv_topi (fun x_14 ex_14 => ?_)
  refine ti_iastG (ci := 10) (k := 1) (n := 700) C hw ob_60 (by decide) (fun _ _ => rfl) (by unfold vp_in; decide) dX10_feed_103 (fun H locs g_15 eg_15 hw => ?_)
  refine lv_iinc (v := 5) (lv' := [(6, .int 5), (7, .int z2), (0, .ref (A 60 0)), (1, .int z), (2, .int z2), (3, .int z3), (4, .int z4), (5, .int z5)]) hx hb dX10_feed_104 hl (k := 1) rfl (by decide) (by decide) rfl (fun ls hl => ?_)
  refine lv_goto (tgt := 20) hx hb dX10_feed_107 (by decide) ?_
  refine lv_iload hx hb dX10_feed_20 (lv_at hl 0 rfl) ?_
  refine lv_bipush (v := 20) hx hb dX10_feed_22 (by decide) ?_
  refine lv_icmp_ge (tgt := 110) hx hb dX10_feed_24 (by decide) (fun c => absurd c (by decide)) (fun c_24 => ?_)
  refine lv_iload hx hb dX10_feed_27 (lv_at hl 0 rfl) ?_
  refine lv_iconst (v := 4) hx hb dX10_feed_29 (by decide) ?_
  refine lv_icmp_ge (tgt := 37) hx hb dX10_feed_30 (by decide) (fun c_30 => ?_) (fun c => absurd (by decide) c)
  refine lv_iload hx hb dX10_feed_37 (lv_at hl 0 rfl) ?_
  refine lv_bipush (v := 8) hx hb dX10_feed_39 (by decide) ?_
  refine lv_icmp_ge (tgt := 48) hx hb dX10_feed_41 (by decide) (fun c => absurd c (by decide)) (fun c_41 => ?_)
  refine lv_iload_n hx hb dX10_feed_44 rfl (lv_at hl 4 rfl) ?_
  refine lv_goto (tgt := 73) hx hb dX10_feed_45 (by decide) ?_
  refine lv_istore (lv' := [(7, .int z2), (6, .int 5), (0, .ref (A 60 0)), (1, .int z), (2, .int z2), (3, .int z3), (4, .int z4), (5, .int z5)]) hx hb dX10_feed_73 hl (by decide) rfl (fun ls hl => ?_)
  refine lv_aload_n hx hb dX10_feed_75 rfl (lv_at hl 2 rfl) ?_
  refine ti_get (ci := 10) (k := 1) (N := 67) (T := TX10) (v := .ref (A 60 2)) C hw iw_10 rfl ob_60 (by decide) (by decide) fl_X10_7 rfl rfl dX10_feed_76 ?_
  refine lv_aload_n hx hb dX10_feed_79 rfl (lv_at hl 2 rfl) ?_
  refine ti_get (ci := 10) (k := 2) (N := 67) (T := TX10) C hw iw_10 rfl ob_60 (by decide) (by decide) fl_X10_157 rfl rfl dX10_feed_80 ?_
  refine ti_top (y := 0) ((tI_uY _ _ _ _ _ _).trans ((tI_uY _ _ _ _ _ _).trans ((tI_uY _ _ _ _ _ _).trans ((tI_uY _ _ _ _ _ _).trans ((tI_uY _ _ _ _ _ _).trans ((tI_k _ _ _ _ (by decide)).trans m_taped)))))) ?_
  refine lv_iload hx hb dX10_feed_83 (lv_at hl 1 rfl) ?_
  refine lv_iadd hx hb dX10_feed_85 ?_
  refine ti_top (y := 5) (by decide) ?_
  refine lv_iload hx hb dX10_feed_86 (lv_at hl 0 rfl) ?_
  refine lv_bipush (v := 24) hx hb dX10_feed_88 (by decide) ?_
  refine lv_bipush (v := 8) hx hb dX10_feed_90 (by decide) ?_
  refine lv_iload hx hb dX10_feed_92 (lv_at hl 1 rfl) ?_
  refine lv_iconst (v := 4) hx hb dX10_feed_94 (by decide) ?_
  refine lv_irem hx hb dX10_feed_95 (by decide) ?_
  refine ti_top (y := 1) (by decide) ?_
  refine lv_imul hx hb dX10_feed_96 ?_
  refine ti_top (y := 8) (by decide) ?_
  refine lv_isub hx hb dX10_feed_97 ?_
  refine ti_top (y := 16) (by decide) ?_
  refine lv_ishr hx hb dX10_feed_98 ?_
  refine lv_topi (fun x_16 ex_16 => ?_)
  refine lv_sipush (v := 255) hx hb dX10_feed_99 (by decide) ?_
  refine lv_iand hx hb dX10_feed_102 ?_
  refine lv_topi (fun x_17 ex_17 => ?_)
  refine ti_iastG (ci := 10) (k := 1) (n := 700) C hw ob_60 (by decide) (fun _ _ => rfl) (by unfold vp_in; decide) dX10_feed_103 (fun H locs g_18 eg_18 hw => ?_)
  refine lv_iinc (v := 6) (lv' := [(6, .int 6), (7, .int z2), (0, .ref (A 60 0)), (1, .int z), (2, .int z2), (3, .int z3), (4, .int z4), (5, .int z5)]) hx hb dX10_feed_104 hl (k := 1) rfl (by decide) (by decide) rfl (fun ls hl => ?_)
  refine lv_goto (tgt := 20) hx hb dX10_feed_107 (by decide) ?_
  refine lv_iload hx hb dX10_feed_20 (lv_at hl 0 rfl) ?_
  refine lv_bipush (v := 20) hx hb dX10_feed_22 (by decide) ?_
  refine lv_icmp_ge (tgt := 110) hx hb dX10_feed_24 (by decide) (fun c => absurd c (by decide)) (fun c_24 => ?_)
  refine lv_iload hx hb dX10_feed_27 (lv_at hl 0 rfl) ?_
  refine lv_iconst (v := 4) hx hb dX10_feed_29 (by decide) ?_
  refine lv_icmp_ge (tgt := 37) hx hb dX10_feed_30 (by decide) (fun c_30 => ?_) (fun c => absurd (by decide) c)
  refine lv_iload hx hb dX10_feed_37 (lv_at hl 0 rfl) ?_
  refine lv_bipush (v := 8) hx hb dX10_feed_39 (by decide) ?_
  refine lv_icmp_ge (tgt := 48) hx hb dX10_feed_41 (by decide) (fun c => absurd c (by decide)) (fun c_41 => ?_)
  refine lv_iload_n hx hb dX10_feed_44 rfl (lv_at hl 4 rfl) ?_
  refine lv_goto (tgt := 73) hx hb dX10_feed_45 (by decide) ?_
  refine lv_istore (lv' := [(7, .int z2), (6, .int 6), (0, .ref (A 60 0)), (1, .int z), (2, .int z2), (3, .int z3), (4, .int z4), (5, .int z5)]) hx hb dX10_feed_73 hl (by decide) rfl (fun ls hl => ?_)
  refine lv_aload_n hx hb dX10_feed_75 rfl (lv_at hl 2 rfl) ?_
  refine ti_get (ci := 10) (k := 1) (N := 67) (T := TX10) (v := .ref (A 60 2)) C hw iw_10 rfl ob_60 (by decide) (by decide) fl_X10_7 rfl rfl dX10_feed_76 ?_
  refine lv_aload_n hx hb dX10_feed_79 rfl (lv_at hl 2 rfl) ?_
  refine ti_get (ci := 10) (k := 2) (N := 67) (T := TX10) C hw iw_10 rfl ob_60 (by decide) (by decide) fl_X10_157 rfl rfl dX10_feed_80 ?_
  refine ti_top (y := 0) ((tI_uY _ _ _ _ _ _).trans ((tI_uY _ _ _ _ _ _).trans ((tI_uY _ _ _ _ _ _).trans ((tI_uY _ _ _ _ _ _).trans ((tI_uY _ _ _ _ _ _).trans ((tI_uY _ _ _ _ _ _).trans ((tI_k _ _ _ _ (by decide)).trans m_taped))))))) ?_
  refine lv_iload hx hb dX10_feed_83 (lv_at hl 1 rfl) ?_
  refine lv_iadd hx hb dX10_feed_85 ?_
  refine ti_top (y := 6) (by decide) ?_
  refine lv_iload hx hb dX10_feed_86 (lv_at hl 0 rfl) ?_
  refine lv_bipush (v := 24) hx hb dX10_feed_88 (by decide) ?_
  refine lv_bipush (v := 8) hx hb dX10_feed_90 (by decide) ?_
  refine lv_iload hx hb dX10_feed_92 (lv_at hl 1 rfl) ?_
  refine lv_iconst (v := 4) hx hb dX10_feed_94 (by decide) ?_
  refine lv_irem hx hb dX10_feed_95 (by decide) ?_
  refine ti_top (y := 2) (by decide) ?_
  refine lv_imul hx hb dX10_feed_96 ?_
  refine ti_top (y := 16) (by decide) ?_
  refine lv_isub hx hb dX10_feed_97 ?_
  refine ti_top (y := 8) (by decide) ?_
  refine lv_ishr hx hb dX10_feed_98 ?_
  refine lv_topi (fun x_19 ex_19 => ?_)
  refine lv_sipush (v := 255) hx hb dX10_feed_99 (by decide) ?_
  refine lv_iand hx hb dX10_feed_102 ?_
  refine lv_topi (fun x_20 ex_20 => ?_)
  refine ti_iastG (ci := 10) (k := 1) (n := 700) C hw ob_60 (by decide) (fun _ _ => rfl) (by unfold vp_in; decide) dX10_feed_103 (fun H locs g_21 eg_21 hw => ?_)
  refine lv_iinc (v := 7) (lv' := [(6, .int 7), (7, .int z2), (0, .ref (A 60 0)), (1, .int z), (2, .int z2), (3, .int z3), (4, .int z4), (5, .int z5)]) hx hb dX10_feed_104 hl (k := 1) rfl (by decide) (by decide) rfl (fun ls hl => ?_)
  refine lv_goto (tgt := 20) hx hb dX10_feed_107 (by decide) ?_
  refine lv_iload hx hb dX10_feed_20 (lv_at hl 0 rfl) ?_
  refine lv_bipush (v := 20) hx hb dX10_feed_22 (by decide) ?_
  refine lv_icmp_ge (tgt := 110) hx hb dX10_feed_24 (by decide) (fun c => absurd c (by decide)) (fun c_24 => ?_)
  refine lv_iload hx hb dX10_feed_27 (lv_at hl 0 rfl) ?_
  refine lv_iconst (v := 4) hx hb dX10_feed_29 (by decide) ?_
  refine lv_icmp_ge (tgt := 37) hx hb dX10_feed_30 (by decide) (fun c_30 => ?_) (fun c => absurd (by decide) c)
  refine lv_iload hx hb dX10_feed_37 (lv_at hl 0 rfl) ?_
  refine lv_bipush (v := 8) hx hb dX10_feed_39 (by decide) ?_
  refine lv_icmp_ge (tgt := 48) hx hb dX10_feed_41 (by decide) (fun c => absurd c (by decide)) (fun c_41 => ?_)
  refine lv_iload_n hx hb dX10_feed_44 rfl (lv_at hl 4 rfl) ?_
  refine lv_goto (tgt := 73) hx hb dX10_feed_45 (by decide) ?_
  refine lv_istore (lv' := [(7, .int z2), (6, .int 7), (0, .ref (A 60 0)), (1, .int z), (2, .int z2), (3, .int z3), (4, .int z4), (5, .int z5)]) hx hb dX10_feed_73 hl (by decide) rfl (fun ls hl => ?_)
  refine lv_aload_n hx hb dX10_feed_75 rfl (lv_at hl 2 rfl) ?_
  refine ti_get (ci := 10) (k := 1) (N := 67) (T := TX10) (v := .ref (A 60 2)) C hw iw_10 rfl ob_60 (by decide) (by decide) fl_X10_7 rfl rfl dX10_feed_76 ?_
  refine lv_aload_n hx hb dX10_feed_79 rfl (lv_at hl 2 rfl) ?_
  refine ti_get (ci := 10) (k := 2) (N := 67) (T := TX10) C hw iw_10 rfl ob_60 (by decide) (by decide) fl_X10_157 rfl rfl dX10_feed_80 ?_
  refine ti_top (y := 0) ((tI_uY _ _ _ _ _ _).trans ((tI_uY _ _ _ _ _ _).trans ((tI_uY _ _ _ _ _ _).trans ((tI_uY _ _ _ _ _ _).trans ((tI_uY _ _ _ _ _ _).trans ((tI_uY _ _ _ _ _ _).trans ((tI_uY _ _ _ _ _ _).trans ((tI_k _ _ _ _ (by decide)).trans m_taped)))))))) ?_
  refine lv_iload hx hb dX10_feed_83 (lv_at hl 1 rfl) ?_
  refine lv_iadd hx hb dX10_feed_85 ?_
  refine ti_top (y := 7) (by decide) ?_
  refine lv_iload hx hb dX10_feed_86 (lv_at hl 0 rfl) ?_
  refine lv_bipush (v := 24) hx hb dX10_feed_88 (by decide) ?_
  refine lv_bipush (v := 8) hx hb dX10_feed_90 (by decide) ?_
  refine lv_iload hx hb dX10_feed_92 (lv_at hl 1 rfl) ?_
  refine lv_iconst (v := 4) hx hb dX10_feed_94 (by decide) ?_
  refine lv_irem hx hb dX10_feed_95 (by decide) ?_
  refine ti_top (y := 3) (by decide) ?_
  refine lv_imul hx hb dX10_feed_96 ?_
  refine ti_top (y := 24) (by decide) ?_
  refine lv_isub hx hb dX10_feed_97 ?_
  refine ti_top (y := 0) (by decide) ?_
  refine lv_ishr hx hb dX10_feed_98 ?_
  refine lv_topi (fun x_22 ex_22 => ?_)
  refine lv_sipush (v := 255) hx hb dX10_feed_99 (by decide) ?_
  refine lv_iand hx hb dX10_feed_102 ?_
  refine lv_topi (fun x_23 ex_23 => ?_)
  refine ti_iastG (ci := 10) (k := 1) (n := 700) C hw ob_60 (by decide) (fun _ _ => rfl) (by unfold vp_in; decide) dX10_feed_103 (fun H locs g_24 eg_24 hw => ?_)
  refine lv_iinc (v := 8) (lv' := [(6, .int 8), (7, .int z2), (0, .ref (A 60 0)), (1, .int z), (2, .int z2), (3, .int z3), (4, .int z4), (5, .int z5)]) hx hb dX10_feed_104 hl (k := 1) rfl (by decide) (by decide) rfl (fun ls hl => ?_)
  refine lv_goto (tgt := 20) hx hb dX10_feed_107 (by decide) ?_
  refine lv_iload hx hb dX10_feed_20 (lv_at hl 0 rfl) ?_
  refine lv_bipush (v := 20) hx hb dX10_feed_22 (by decide) ?_
  refine lv_icmp_ge (tgt := 110) hx hb dX10_feed_24 (by decide) (fun c => absurd c (by decide)) (fun c_24 => ?_)
  refine lv_iload hx hb dX10_feed_27 (lv_at hl 0 rfl) ?_
  refine lv_iconst (v := 4) hx hb dX10_feed_29 (by decide) ?_
  refine lv_icmp_ge (tgt := 37) hx hb dX10_feed_30 (by decide) (fun c_30 => ?_) (fun c => absurd (by decide) c)
  refine lv_iload hx hb dX10_feed_37 (lv_at hl 0 rfl) ?_
  refine lv_bipush (v := 8) hx hb dX10_feed_39 (by decide) ?_
  refine lv_icmp_ge (tgt := 48) hx hb dX10_feed_41 (by decide) (fun c_41 => ?_) (fun c => absurd (by decide) c)
  refine lv_iload hx hb dX10_feed_48 (lv_at hl 0 rfl) ?_
  refine lv_bipush (v := 12) hx hb dX10_feed_50 (by decide) ?_
  refine lv_icmp_ge (tgt := 59) hx hb dX10_feed_52 (by decide) (fun c => absurd c (by decide)) (fun c_52 => ?_)
  refine lv_iload_n hx hb dX10_feed_55 rfl (lv_at hl 5 rfl) ?_
  refine lv_goto (tgt := 73) hx hb dX10_feed_56 (by decide) ?_
  refine lv_istore (lv' := [(7, .int z3), (6, .int 8), (0, .ref (A 60 0)), (1, .int z), (2, .int z2), (3, .int z3), (4, .int z4), (5, .int z5)]) hx hb dX10_feed_73 hl (by decide) rfl (fun ls hl => ?_)
  refine lv_aload_n hx hb dX10_feed_75 rfl (lv_at hl 2 rfl) ?_
  refine ti_get (ci := 10) (k := 1) (N := 67) (T := TX10) (v := .ref (A 60 2)) C hw iw_10 rfl ob_60 (by decide) (by decide) fl_X10_7 rfl rfl dX10_feed_76 ?_
  refine lv_aload_n hx hb dX10_feed_79 rfl (lv_at hl 2 rfl) ?_
  refine ti_get (ci := 10) (k := 2) (N := 67) (T := TX10) C hw iw_10 rfl ob_60 (by decide) (by decide) fl_X10_157 rfl rfl dX10_feed_80 ?_
  refine ti_top (y := 0) ((tI_uY _ _ _ _ _ _).trans ((tI_uY _ _ _ _ _ _).trans ((tI_uY _ _ _ _ _ _).trans ((tI_uY _ _ _ _ _ _).trans ((tI_uY _ _ _ _ _ _).trans ((tI_uY _ _ _ _ _ _).trans ((tI_uY _ _ _ _ _ _).trans ((tI_uY _ _ _ _ _ _).trans ((tI_k _ _ _ _ (by decide)).trans m_taped))))))))) ?_
  refine lv_iload hx hb dX10_feed_83 (lv_at hl 1 rfl) ?_
  refine lv_iadd hx hb dX10_feed_85 ?_
  refine ti_top (y := 8) (by decide) ?_
  refine lv_iload hx hb dX10_feed_86 (lv_at hl 0 rfl) ?_
  refine lv_bipush (v := 24) hx hb dX10_feed_88 (by decide) ?_
  refine lv_bipush (v := 8) hx hb dX10_feed_90 (by decide) ?_
  refine lv_iload hx hb dX10_feed_92 (lv_at hl 1 rfl) ?_
  refine lv_iconst (v := 4) hx hb dX10_feed_94 (by decide) ?_
  refine lv_irem hx hb dX10_feed_95 (by decide) ?_
  refine ti_top (y := 0) (by decide) ?_
  refine lv_imul hx hb dX10_feed_96 ?_
  refine ti_top (y := 0) (by decide) ?_
  refine lv_isub hx hb dX10_feed_97 ?_
  refine ti_top (y := 24) (by decide) ?_
  refine lv_ishr hx hb dX10_feed_98 ?_
  refine lv_topi (fun x_25 ex_25 => ?_)
  refine lv_sipush (v := 255) hx hb dX10_feed_99 (by decide) ?_
  refine lv_iand hx hb dX10_feed_102 ?_
  refine lv_topi (fun x_26 ex_26 => ?_)
  refine ti_iastG (ci := 10) (k := 1) (n := 700) C hw ob_60 (by decide) (fun _ _ => rfl) (by unfold vp_in; decide) dX10_feed_103 (fun H locs g_27 eg_27 hw => ?_)
  refine lv_iinc (v := 9) (lv' := [(6, .int 9), (7, .int z3), (0, .ref (A 60 0)), (1, .int z), (2, .int z2), (3, .int z3), (4, .int z4), (5, .int z5)]) hx hb dX10_feed_104 hl (k := 1) rfl (by decide) (by decide) rfl (fun ls hl => ?_)
  refine lv_goto (tgt := 20) hx hb dX10_feed_107 (by decide) ?_
  refine lv_iload hx hb dX10_feed_20 (lv_at hl 0 rfl) ?_
  refine lv_bipush (v := 20) hx hb dX10_feed_22 (by decide) ?_
  refine lv_icmp_ge (tgt := 110) hx hb dX10_feed_24 (by decide) (fun c => absurd c (by decide)) (fun c_24 => ?_)
  refine lv_iload hx hb dX10_feed_27 (lv_at hl 0 rfl) ?_
  refine lv_iconst (v := 4) hx hb dX10_feed_29 (by decide) ?_
  refine lv_icmp_ge (tgt := 37) hx hb dX10_feed_30 (by decide) (fun c_30 => ?_) (fun c => absurd (by decide) c)
  refine lv_iload hx hb dX10_feed_37 (lv_at hl 0 rfl) ?_
  refine lv_bipush (v := 8) hx hb dX10_feed_39 (by decide) ?_
  refine lv_icmp_ge (tgt := 48) hx hb dX10_feed_41 (by decide) (fun c_41 => ?_) (fun c => absurd (by decide) c)
  refine lv_iload hx hb dX10_feed_48 (lv_at hl 0 rfl) ?_
  refine lv_bipush (v := 12) hx hb dX10_feed_50 (by decide) ?_
  refine lv_icmp_ge (tgt := 59) hx hb dX10_feed_52 (by decide) (fun c => absurd c (by decide)) (fun c_52 => ?_)
  refine lv_iload_n hx hb dX10_feed_55 rfl (lv_at hl 5 rfl) ?_
  refine lv_goto (tgt := 73) hx hb dX10_feed_56 (by decide) ?_
  refine lv_istore (lv' := [(7, .int z3), (6, .int 9), (0, .ref (A 60 0)), (1, .int z), (2, .int z2), (3, .int z3), (4, .int z4), (5, .int z5)]) hx hb dX10_feed_73 hl (by decide) rfl (fun ls hl => ?_)
  refine lv_aload_n hx hb dX10_feed_75 rfl (lv_at hl 2 rfl) ?_
  refine ti_get (ci := 10) (k := 1) (N := 67) (T := TX10) (v := .ref (A 60 2)) C hw iw_10 rfl ob_60 (by decide) (by decide) fl_X10_7 rfl rfl dX10_feed_76 ?_
  refine lv_aload_n hx hb dX10_feed_79 rfl (lv_at hl 2 rfl) ?_
  refine ti_get (ci := 10) (k := 2) (N := 67) (T := TX10) C hw iw_10 rfl ob_60 (by decide) (by decide) fl_X10_157 rfl rfl dX10_feed_80 ?_
  refine ti_top (y := 0) ((tI_uY _ _ _ _ _ _).trans ((tI_uY _ _ _ _ _ _).trans ((tI_uY _ _ _ _ _ _).trans ((tI_uY _ _ _ _ _ _).trans ((tI_uY _ _ _ _ _ _).trans ((tI_uY _ _ _ _ _ _).trans ((tI_uY _ _ _ _ _ _).trans ((tI_uY _ _ _ _ _ _).trans ((tI_uY _ _ _ _ _ _).trans ((tI_k _ _ _ _ (by decide)).trans m_taped)))))))))) ?_
  refine lv_iload hx hb dX10_feed_83 (lv_at hl 1 rfl) ?_
  refine lv_iadd hx hb dX10_feed_85 ?_
  refine ti_top (y := 9) (by decide) ?_
  refine lv_iload hx hb dX10_feed_86 (lv_at hl 0 rfl) ?_
  refine lv_bipush (v := 24) hx hb dX10_feed_88 (by decide) ?_
  refine lv_bipush (v := 8) hx hb dX10_feed_90 (by decide) ?_
  refine lv_iload hx hb dX10_feed_92 (lv_at hl 1 rfl) ?_
  refine lv_iconst (v := 4) hx hb dX10_feed_94 (by decide) ?_
  refine lv_irem hx hb dX10_feed_95 (by decide) ?_
  refine ti_top (y := 1) (by decide) ?_
  refine lv_imul hx hb dX10_feed_96 ?_
  refine ti_top (y := 8) (by decide) ?_
  refine lv_isub hx hb dX10_feed_97 ?_
  refine ti_top (y := 16) (by decide) ?_
  refine lv_ishr hx hb dX10_feed_98 ?_
  refine lv_topi (fun x_28 ex_28 => ?_)
  refine lv_sipush (v := 255) hx hb dX10_feed_99 (by decide) ?_
  refine lv_iand hx hb dX10_feed_102 ?_
  refine lv_topi (fun x_29 ex_29 => ?_)
  refine ti_iastG (ci := 10) (k := 1) (n := 700) C hw ob_60 (by decide) (fun _ _ => rfl) (by unfold vp_in; decide) dX10_feed_103 (fun H locs g_30 eg_30 hw => ?_)
  refine lv_iinc (v := 10) (lv' := [(6, .int 10), (7, .int z3), (0, .ref (A 60 0)), (1, .int z), (2, .int z2), (3, .int z3), (4, .int z4), (5, .int z5)]) hx hb dX10_feed_104 hl (k := 1) rfl (by decide) (by decide) rfl (fun ls hl => ?_)
  refine lv_goto (tgt := 20) hx hb dX10_feed_107 (by decide) ?_
  refine lv_iload hx hb dX10_feed_20 (lv_at hl 0 rfl) ?_
  refine lv_bipush (v := 20) hx hb dX10_feed_22 (by decide) ?_
  refine lv_icmp_ge (tgt := 110) hx hb dX10_feed_24 (by decide) (fun c => absurd c (by decide)) (fun c_24 => ?_)
  refine lv_iload hx hb dX10_feed_27 (lv_at hl 0 rfl) ?_
  refine lv_iconst (v := 4) hx hb dX10_feed_29 (by decide) ?_
  refine lv_icmp_ge (tgt := 37) hx hb dX10_feed_30 (by decide) (fun c_30 => ?_) (fun c => absurd (by decide) c)
  refine lv_iload hx hb dX10_feed_37 (lv_at hl 0 rfl) ?_
  refine lv_bipush (v := 8) hx hb dX10_feed_39 (by decide) ?_
  refine lv_icmp_ge (tgt := 48) hx hb dX10_feed_41 (by decide) (fun c_41 => ?_) (fun c => absurd (by decide) c)
  refine lv_iload hx hb dX10_feed_48 (lv_at hl 0 rfl) ?_
  refine lv_bipush (v := 12) hx hb dX10_feed_50 (by decide) ?_
  refine lv_icmp_ge (tgt := 59) hx hb dX10_feed_52 (by decide) (fun c => absurd c (by decide)) (fun c_52 => ?_)
  refine lv_iload_n hx hb dX10_feed_55 rfl (lv_at hl 5 rfl) ?_
  refine lv_goto (tgt := 73) hx hb dX10_feed_56 (by decide) ?_
  refine lv_istore (lv' := [(7, .int z3), (6, .int 10), (0, .ref (A 60 0)), (1, .int z), (2, .int z2), (3, .int z3), (4, .int z4), (5, .int z5)]) hx hb dX10_feed_73 hl (by decide) rfl (fun ls hl => ?_)
  refine lv_aload_n hx hb dX10_feed_75 rfl (lv_at hl 2 rfl) ?_
  refine ti_get (ci := 10) (k := 1) (N := 67) (T := TX10) (v := .ref (A 60 2)) C hw iw_10 rfl ob_60 (by decide) (by decide) fl_X10_7 rfl rfl dX10_feed_76 ?_
  refine lv_aload_n hx hb dX10_feed_79 rfl (lv_at hl 2 rfl) ?_
  refine ti_get (ci := 10) (k := 2) (N := 67) (T := TX10) C hw iw_10 rfl ob_60 (by decide) (by decide) fl_X10_157 rfl rfl dX10_feed_80 ?_
  refine ti_top (y := 0) ((tI_uY _ _ _ _ _ _).trans ((tI_uY _ _ _ _ _ _).trans ((tI_uY _ _ _ _ _ _).trans ((tI_uY _ _ _ _ _ _).trans ((tI_uY _ _ _ _ _ _).trans ((tI_uY _ _ _ _ _ _).trans ((tI_uY _ _ _ _ _ _).trans ((tI_uY _ _ _ _ _ _).trans ((tI_uY _ _ _ _ _ _).trans ((tI_uY _ _ _ _ _ _).trans ((tI_k _ _ _ _ (by decide)).trans m_taped))))))))))) ?_
  refine lv_iload hx hb dX10_feed_83 (lv_at hl 1 rfl) ?_
  refine lv_iadd hx hb dX10_feed_85 ?_
  refine ti_top (y := 10) (by decide) ?_
  refine lv_iload hx hb dX10_feed_86 (lv_at hl 0 rfl) ?_
  refine lv_bipush (v := 24) hx hb dX10_feed_88 (by decide) ?_
  refine lv_bipush (v := 8) hx hb dX10_feed_90 (by decide) ?_
  refine lv_iload hx hb dX10_feed_92 (lv_at hl 1 rfl) ?_
  refine lv_iconst (v := 4) hx hb dX10_feed_94 (by decide) ?_
  refine lv_irem hx hb dX10_feed_95 (by decide) ?_
  refine ti_top (y := 2) (by decide) ?_
  refine lv_imul hx hb dX10_feed_96 ?_
  refine ti_top (y := 16) (by decide) ?_
  refine lv_isub hx hb dX10_feed_97 ?_
  refine ti_top (y := 8) (by decide) ?_
  refine lv_ishr hx hb dX10_feed_98 ?_
  refine lv_topi (fun x_31 ex_31 => ?_)
  refine lv_sipush (v := 255) hx hb dX10_feed_99 (by decide) ?_
  refine lv_iand hx hb dX10_feed_102 ?_
  refine lv_topi (fun x_32 ex_32 => ?_)
  refine ti_iastG (ci := 10) (k := 1) (n := 700) C hw ob_60 (by decide) (fun _ _ => rfl) (by unfold vp_in; decide) dX10_feed_103 (fun H locs g_33 eg_33 hw => ?_)
  refine lv_iinc (v := 11) (lv' := [(6, .int 11), (7, .int z3), (0, .ref (A 60 0)), (1, .int z), (2, .int z2), (3, .int z3), (4, .int z4), (5, .int z5)]) hx hb dX10_feed_104 hl (k := 1) rfl (by decide) (by decide) rfl (fun ls hl => ?_)
  refine lv_goto (tgt := 20) hx hb dX10_feed_107 (by decide) ?_
  refine lv_iload hx hb dX10_feed_20 (lv_at hl 0 rfl) ?_
  refine lv_bipush (v := 20) hx hb dX10_feed_22 (by decide) ?_
  refine lv_icmp_ge (tgt := 110) hx hb dX10_feed_24 (by decide) (fun c => absurd c (by decide)) (fun c_24 => ?_)
  refine lv_iload hx hb dX10_feed_27 (lv_at hl 0 rfl) ?_
  refine lv_iconst (v := 4) hx hb dX10_feed_29 (by decide) ?_
  refine lv_icmp_ge (tgt := 37) hx hb dX10_feed_30 (by decide) (fun c_30 => ?_) (fun c => absurd (by decide) c)
  refine lv_iload hx hb dX10_feed_37 (lv_at hl 0 rfl) ?_
  refine lv_bipush (v := 8) hx hb dX10_feed_39 (by decide) ?_
  refine lv_icmp_ge (tgt := 48) hx hb dX10_feed_41 (by decide) (fun c_41 => ?_) (fun c => absurd (by decide) c)
  refine lv_iload hx hb dX10_feed_48 (lv_at hl 0 rfl) ?_
  refine lv_bipush (v := 12) hx hb dX10_feed_50 (by decide) ?_
  refine lv_icmp_ge (tgt := 59) hx hb dX10_feed_52 (by decide) (fun c => absurd c (by decide)) (fun c_52 => ?_)
  refine lv_iload_n hx hb dX10_feed_55 rfl (lv_at hl 5 rfl) ?_
  refine lv_goto (tgt := 73) hx hb dX10_feed_56 (by decide) ?_
  refine lv_istore (lv' := [(7, .int z3), (6, .int 11), (0, .ref (A 60 0)), (1, .int z), (2, .int z2), (3, .int z3), (4, .int z4), (5, .int z5)]) hx hb dX10_feed_73 hl (by decide) rfl (fun ls hl => ?_)
  refine lv_aload_n hx hb dX10_feed_75 rfl (lv_at hl 2 rfl) ?_
  refine ti_get (ci := 10) (k := 1) (N := 67) (T := TX10) (v := .ref (A 60 2)) C hw iw_10 rfl ob_60 (by decide) (by decide) fl_X10_7 rfl rfl dX10_feed_76 ?_
  refine lv_aload_n hx hb dX10_feed_79 rfl (lv_at hl 2 rfl) ?_
  refine ti_get (ci := 10) (k := 2) (N := 67) (T := TX10) C hw iw_10 rfl ob_60 (by decide) (by decide) fl_X10_157 rfl rfl dX10_feed_80 ?_
  refine ti_top (y := 0) ((tI_uY _ _ _ _ _ _).trans ((tI_uY _ _ _ _ _ _).trans ((tI_uY _ _ _ _ _ _).trans ((tI_uY _ _ _ _ _ _).trans ((tI_uY _ _ _ _ _ _).trans ((tI_uY _ _ _ _ _ _).trans ((tI_uY _ _ _ _ _ _).trans ((tI_uY _ _ _ _ _ _).trans ((tI_uY _ _ _ _ _ _).trans ((tI_uY _ _ _ _ _ _).trans ((tI_uY _ _ _ _ _ _).trans ((tI_k _ _ _ _ (by decide)).trans m_taped)))))))))))) ?_
  refine lv_iload hx hb dX10_feed_83 (lv_at hl 1 rfl) ?_
  refine lv_iadd hx hb dX10_feed_85 ?_
  refine ti_top (y := 11) (by decide) ?_
  refine lv_iload hx hb dX10_feed_86 (lv_at hl 0 rfl) ?_
  refine lv_bipush (v := 24) hx hb dX10_feed_88 (by decide) ?_
  refine lv_bipush (v := 8) hx hb dX10_feed_90 (by decide) ?_
  refine lv_iload hx hb dX10_feed_92 (lv_at hl 1 rfl) ?_
  refine lv_iconst (v := 4) hx hb dX10_feed_94 (by decide) ?_
  refine lv_irem hx hb dX10_feed_95 (by decide) ?_
  refine ti_top (y := 3) (by decide) ?_
  refine lv_imul hx hb dX10_feed_96 ?_
  refine ti_top (y := 24) (by decide) ?_
  refine lv_isub hx hb dX10_feed_97 ?_
  refine ti_top (y := 0) (by decide) ?_
  refine lv_ishr hx hb dX10_feed_98 ?_
  refine lv_topi (fun x_34 ex_34 => ?_)
  refine lv_sipush (v := 255) hx hb dX10_feed_99 (by decide) ?_
  refine lv_iand hx hb dX10_feed_102 ?_
  refine lv_topi (fun x_35 ex_35 => ?_)
  refine ti_iastG (ci := 10) (k := 1) (n := 700) C hw ob_60 (by decide) (fun _ _ => rfl) (by unfold vp_in; decide) dX10_feed_103 (fun H locs g_36 eg_36 hw => ?_)
  refine lv_iinc (v := 12) (lv' := [(6, .int 12), (7, .int z3), (0, .ref (A 60 0)), (1, .int z), (2, .int z2), (3, .int z3), (4, .int z4), (5, .int z5)]) hx hb dX10_feed_104 hl (k := 1) rfl (by decide) (by decide) rfl (fun ls hl => ?_)
  refine lv_goto (tgt := 20) hx hb dX10_feed_107 (by decide) ?_
  refine lv_iload hx hb dX10_feed_20 (lv_at hl 0 rfl) ?_
  refine lv_bipush (v := 20) hx hb dX10_feed_22 (by decide) ?_
  refine lv_icmp_ge (tgt := 110) hx hb dX10_feed_24 (by decide) (fun c => absurd c (by decide)) (fun c_24 => ?_)
  refine lv_iload hx hb dX10_feed_27 (lv_at hl 0 rfl) ?_
  refine lv_iconst (v := 4) hx hb dX10_feed_29 (by decide) ?_
  refine lv_icmp_ge (tgt := 37) hx hb dX10_feed_30 (by decide) (fun c_30 => ?_) (fun c => absurd (by decide) c)
  refine lv_iload hx hb dX10_feed_37 (lv_at hl 0 rfl) ?_
  refine lv_bipush (v := 8) hx hb dX10_feed_39 (by decide) ?_
  refine lv_icmp_ge (tgt := 48) hx hb dX10_feed_41 (by decide) (fun c_41 => ?_) (fun c => absurd (by decide) c)
  refine lv_iload hx hb dX10_feed_48 (lv_at hl 0 rfl) ?_
  refine lv_bipush (v := 12) hx hb dX10_feed_50 (by decide) ?_
  refine lv_icmp_ge (tgt := 59) hx hb dX10_feed_52 (by decide) (fun c_52 => ?_) (fun c => absurd (by decide) c)
  refine lv_iload hx hb dX10_feed_59 (lv_at hl 0 rfl) ?_
  refine lv_bipush (v := 16) hx hb dX10_feed_61 (by decide) ?_
  refine lv_icmp_ge (tgt := 71) hx hb dX10_feed_63 (by decide) (fun c => absurd c (by decide)) (fun c_63 => ?_)
  refine lv_iload hx hb dX10_feed_66 (lv_at hl 6 rfl) ?_
  refine lv_goto (tgt := 73) hx hb dX10_feed_68 (by decide) ?_
  refine lv_istore (lv' := [(7, .int z4), (6, .int 12), (0, .ref (A 60 0)), (1, .int z), (2, .int z2), (3, .int z3), (4, .int z4), (5, .int z5)]) hx hb dX10_feed_73 hl (by decide) rfl (fun ls hl => ?_)
  refine lv_aload_n hx hb dX10_feed_75 rfl (lv_at hl 2 rfl) ?_
  refine ti_get (ci := 10) (k := 1) (N := 67) (T := TX10) (v := .ref (A 60 2)) C hw iw_10 rfl ob_60 (by decide) (by decide) fl_X10_7 rfl rfl dX10_feed_76 ?_
  refine lv_aload_n hx hb dX10_feed_79 rfl (lv_at hl 2 rfl) ?_
  refine ti_get (ci := 10) (k := 2) (N := 67) (T := TX10) C hw iw_10 rfl ob_60 (by decide) (by decide) fl_X10_157 rfl rfl dX10_feed_80 ?_
  refine ti_top (y := 0) ((tI_uY _ _ _ _ _ _).trans ((tI_uY _ _ _ _ _ _).trans ((tI_uY _ _ _ _ _ _).trans ((tI_uY _ _ _ _ _ _).trans ((tI_uY _ _ _ _ _ _).trans ((tI_uY _ _ _ _ _ _).trans ((tI_uY _ _ _ _ _ _).trans ((tI_uY _ _ _ _ _ _).trans ((tI_uY _ _ _ _ _ _).trans ((tI_uY _ _ _ _ _ _).trans ((tI_uY _ _ _ _ _ _).trans ((tI_uY _ _ _ _ _ _).trans ((tI_k _ _ _ _ (by decide)).trans m_taped))))))))))))) ?_
  refine lv_iload hx hb dX10_feed_83 (lv_at hl 1 rfl) ?_
  refine lv_iadd hx hb dX10_feed_85 ?_
  refine ti_top (y := 12) (by decide) ?_
  refine lv_iload hx hb dX10_feed_86 (lv_at hl 0 rfl) ?_
  refine lv_bipush (v := 24) hx hb dX10_feed_88 (by decide) ?_
  refine lv_bipush (v := 8) hx hb dX10_feed_90 (by decide) ?_
  refine lv_iload hx hb dX10_feed_92 (lv_at hl 1 rfl) ?_
  refine lv_iconst (v := 4) hx hb dX10_feed_94 (by decide) ?_
  refine lv_irem hx hb dX10_feed_95 (by decide) ?_
  refine ti_top (y := 0) (by decide) ?_
  refine lv_imul hx hb dX10_feed_96 ?_
  refine ti_top (y := 0) (by decide) ?_
  refine lv_isub hx hb dX10_feed_97 ?_
  refine ti_top (y := 24) (by decide) ?_
  refine lv_ishr hx hb dX10_feed_98 ?_
  refine lv_topi (fun x_37 ex_37 => ?_)
  refine lv_sipush (v := 255) hx hb dX10_feed_99 (by decide) ?_
  refine lv_iand hx hb dX10_feed_102 ?_
  refine lv_topi (fun x_38 ex_38 => ?_)
  refine ti_iastG (ci := 10) (k := 1) (n := 700) C hw ob_60 (by decide) (fun _ _ => rfl) (by unfold vp_in; decide) dX10_feed_103 (fun H locs g_39 eg_39 hw => ?_)
  refine lv_iinc (v := 13) (lv' := [(6, .int 13), (7, .int z4), (0, .ref (A 60 0)), (1, .int z), (2, .int z2), (3, .int z3), (4, .int z4), (5, .int z5)]) hx hb dX10_feed_104 hl (k := 1) rfl (by decide) (by decide) rfl (fun ls hl => ?_)
  refine lv_goto (tgt := 20) hx hb dX10_feed_107 (by decide) ?_
  refine lv_iload hx hb dX10_feed_20 (lv_at hl 0 rfl) ?_
  refine lv_bipush (v := 20) hx hb dX10_feed_22 (by decide) ?_
  refine lv_icmp_ge (tgt := 110) hx hb dX10_feed_24 (by decide) (fun c => absurd c (by decide)) (fun c_24 => ?_)
  refine lv_iload hx hb dX10_feed_27 (lv_at hl 0 rfl) ?_
  refine lv_iconst (v := 4) hx hb dX10_feed_29 (by decide) ?_
  refine lv_icmp_ge (tgt := 37) hx hb dX10_feed_30 (by decide) (fun c_30 => ?_) (fun c => absurd (by decide) c)
  refine lv_iload hx hb dX10_feed_37 (lv_at hl 0 rfl) ?_
  refine lv_bipush (v := 8) hx hb dX10_feed_39 (by decide) ?_
  refine lv_icmp_ge (tgt := 48) hx hb dX10_feed_41 (by decide) (fun c_41 => ?_) (fun c => absurd (by decide) c)
  refine lv_iload hx hb dX10_feed_48 (lv_at hl 0 rfl) ?_
  refine lv_bipush (v := 12) hx hb dX10_feed_50 (by decide) ?_
  refine lv_icmp_ge (tgt := 59) hx hb dX10_feed_52 (by decide) (fun c_52 => ?_) (fun c => absurd (by decide) c)
  refine lv_iload hx hb dX10_feed_59 (lv_at hl 0 rfl) ?_
  refine lv_bipush (v := 16) hx hb dX10_feed_61 (by decide) ?_
  refine lv_icmp_ge (tgt := 71) hx hb dX10_feed_63 (by decide) (fun c => absurd c (by decide)) (fun c_63 => ?_)
  refine lv_iload hx hb dX10_feed_66 (lv_at hl 6 rfl) ?_
  refine lv_goto (tgt := 73) hx hb dX10_feed_68 (by decide) ?_
  refine lv_istore (lv' := [(7, .int z4), (6, .int 13), (0, .ref (A 60 0)), (1, .int z), (2, .int z2), (3, .int z3), (4, .int z4), (5, .int z5)]) hx hb dX10_feed_73 hl (by decide) rfl (fun ls hl => ?_)
  refine lv_aload_n hx hb dX10_feed_75 rfl (lv_at hl 2 rfl) ?_
  refine ti_get (ci := 10) (k := 1) (N := 67) (T := TX10) (v := .ref (A 60 2)) C hw iw_10 rfl ob_60 (by decide) (by decide) fl_X10_7 rfl rfl dX10_feed_76 ?_
  refine lv_aload_n hx hb dX10_feed_79 rfl (lv_at hl 2 rfl) ?_
  refine ti_get (ci := 10) (k := 2) (N := 67) (T := TX10) C hw iw_10 rfl ob_60 (by decide) (by decide) fl_X10_157 rfl rfl dX10_feed_80 ?_
  refine ti_top (y := 0) ((tI_uY _ _ _ _ _ _).trans ((tI_uY _ _ _ _ _ _).trans ((tI_uY _ _ _ _ _ _).trans ((tI_uY _ _ _ _ _ _).trans ((tI_uY _ _ _ _ _ _).trans ((tI_uY _ _ _ _ _ _).trans ((tI_uY _ _ _ _ _ _).trans ((tI_uY _ _ _ _ _ _).trans ((tI_uY _ _ _ _ _ _).trans ((tI_uY _ _ _ _ _ _).trans ((tI_uY _ _ _ _ _ _).trans ((tI_uY _ _ _ _ _ _).trans ((tI_uY _ _ _ _ _ _).trans ((tI_k _ _ _ _ (by decide)).trans m_taped)))))))))))))) ?_
  refine lv_iload hx hb dX10_feed_83 (lv_at hl 1 rfl) ?_
  refine lv_iadd hx hb dX10_feed_85 ?_
  refine ti_top (y := 13) (by decide) ?_
  refine lv_iload hx hb dX10_feed_86 (lv_at hl 0 rfl) ?_
  refine lv_bipush (v := 24) hx hb dX10_feed_88 (by decide) ?_
  refine lv_bipush (v := 8) hx hb dX10_feed_90 (by decide) ?_
  refine lv_iload hx hb dX10_feed_92 (lv_at hl 1 rfl) ?_
  refine lv_iconst (v := 4) hx hb dX10_feed_94 (by decide) ?_
  refine lv_irem hx hb dX10_feed_95 (by decide) ?_
  refine ti_top (y := 1) (by decide) ?_
  refine lv_imul hx hb dX10_feed_96 ?_
  refine ti_top (y := 8) (by decide) ?_
  refine lv_isub hx hb dX10_feed_97 ?_
  refine ti_top (y := 16) (by decide) ?_
  refine lv_ishr hx hb dX10_feed_98 ?_
  refine lv_topi (fun x_40 ex_40 => ?_)
  refine lv_sipush (v := 255) hx hb dX10_feed_99 (by decide) ?_
  refine lv_iand hx hb dX10_feed_102 ?_
  refine lv_topi (fun x_41 ex_41 => ?_)
  refine ti_iastG (ci := 10) (k := 1) (n := 700) C hw ob_60 (by decide) (fun _ _ => rfl) (by unfold vp_in; decide) dX10_feed_103 (fun H locs g_42 eg_42 hw => ?_)
  refine lv_iinc (v := 14) (lv' := [(6, .int 14), (7, .int z4), (0, .ref (A 60 0)), (1, .int z), (2, .int z2), (3, .int z3), (4, .int z4), (5, .int z5)]) hx hb dX10_feed_104 hl (k := 1) rfl (by decide) (by decide) rfl (fun ls hl => ?_)
  refine lv_goto (tgt := 20) hx hb dX10_feed_107 (by decide) ?_
  refine lv_iload hx hb dX10_feed_20 (lv_at hl 0 rfl) ?_
  refine lv_bipush (v := 20) hx hb dX10_feed_22 (by decide) ?_
  refine lv_icmp_ge (tgt := 110) hx hb dX10_feed_24 (by decide) (fun c => absurd c (by decide)) (fun c_24 => ?_)
  refine lv_iload hx hb dX10_feed_27 (lv_at hl 0 rfl) ?_
  refine lv_iconst (v := 4) hx hb dX10_feed_29 (by decide) ?_
  refine lv_icmp_ge (tgt := 37) hx hb dX10_feed_30 (by decide) (fun c_30 => ?_) (fun c => absurd (by decide) c)
  refine lv_iload hx hb dX10_feed_37 (lv_at hl 0 rfl) ?_
  refine lv_bipush (v := 8) hx hb dX10_feed_39 (by decide) ?_
  refine lv_icmp_ge (tgt := 48) hx hb dX10_feed_41 (by decide) (fun c_41 => ?_) (fun c => absurd (by decide) c)
  refine lv_iload hx hb dX10_feed_48 (lv_at hl 0 rfl) ?_
  refine lv_bipush (v := 12) hx hb dX10_feed_50 (by decide) ?_
  refine lv_icmp_ge (tgt := 59) hx hb dX10_feed_52 (by decide) (fun c_52 => ?_) (fun c => absurd (by decide) c)
  refine lv_iload hx hb dX10_feed_59 (lv_at hl 0 rfl) ?_
  refine lv_bipush (v := 16) hx hb dX10_feed_61 (by decide) ?_
  refine lv_icmp_ge (tgt := 71) hx hb dX10_feed_63 (by decide) (fun c => absurd c (by decide)) (fun c_63 => ?_)
  refine lv_iload hx hb dX10_feed_66 (lv_at hl 6 rfl) ?_
  refine lv_goto (tgt := 73) hx hb dX10_feed_68 (by decide) ?_
  refine lv_istore (lv' := [(7, .int z4), (6, .int 14), (0, .ref (A 60 0)), (1, .int z), (2, .int z2), (3, .int z3), (4, .int z4), (5, .int z5)]) hx hb dX10_feed_73 hl (by decide) rfl (fun ls hl => ?_)
  refine lv_aload_n hx hb dX10_feed_75 rfl (lv_at hl 2 rfl) ?_
  refine ti_get (ci := 10) (k := 1) (N := 67) (T := TX10) (v := .ref (A 60 2)) C hw iw_10 rfl ob_60 (by decide) (by decide) fl_X10_7 rfl rfl dX10_feed_76 ?_
  refine lv_aload_n hx hb dX10_feed_79 rfl (lv_at hl 2 rfl) ?_
  refine ti_get (ci := 10) (k := 2) (N := 67) (T := TX10) C hw iw_10 rfl ob_60 (by decide) (by decide) fl_X10_157 rfl rfl dX10_feed_80 ?_
  refine ti_top (y := 0) ((tI_uY _ _ _ _ _ _).trans ((tI_uY _ _ _ _ _ _).trans ((tI_uY _ _ _ _ _ _).trans ((tI_uY _ _ _ _ _ _).trans ((tI_uY _ _ _ _ _ _).trans ((tI_uY _ _ _ _ _ _).trans ((tI_uY _ _ _ _ _ _).trans ((tI_uY _ _ _ _ _ _).trans ((tI_uY _ _ _ _ _ _).trans ((tI_uY _ _ _ _ _ _).trans ((tI_uY _ _ _ _ _ _).trans ((tI_uY _ _ _ _ _ _).trans ((tI_uY _ _ _ _ _ _).trans ((tI_uY _ _ _ _ _ _).trans ((tI_k _ _ _ _ (by decide)).trans m_taped))))))))))))))) ?_
  refine lv_iload hx hb dX10_feed_83 (lv_at hl 1 rfl) ?_
  refine lv_iadd hx hb dX10_feed_85 ?_
  refine ti_top (y := 14) (by decide) ?_
  refine lv_iload hx hb dX10_feed_86 (lv_at hl 0 rfl) ?_
  refine lv_bipush (v := 24) hx hb dX10_feed_88 (by decide) ?_
  refine lv_bipush (v := 8) hx hb dX10_feed_90 (by decide) ?_
  refine lv_iload hx hb dX10_feed_92 (lv_at hl 1 rfl) ?_
  refine lv_iconst (v := 4) hx hb dX10_feed_94 (by decide) ?_
  refine lv_irem hx hb dX10_feed_95 (by decide) ?_
  refine ti_top (y := 2) (by decide) ?_
  refine lv_imul hx hb dX10_feed_96 ?_
  refine ti_top (y := 16) (by decide) ?_
  refine lv_isub hx hb dX10_feed_97 ?_
  refine ti_top (y := 8) (by decide) ?_
  refine lv_ishr hx hb dX10_feed_98 ?_
  refine lv_topi (fun x_43 ex_43 => ?_)
  refine lv_sipush (v := 255) hx hb dX10_feed_99 (by decide) ?_
  refine lv_iand hx hb dX10_feed_102 ?_
  refine lv_topi (fun x_44 ex_44 => ?_)
  refine ti_iastG (ci := 10) (k := 1) (n := 700) C hw ob_60 (by decide) (fun _ _ => rfl) (by unfold vp_in; decide) dX10_feed_103 (fun H locs g_45 eg_45 hw => ?_)
  refine lv_iinc (v := 15) (lv' := [(6, .int 15), (7, .int z4), (0, .ref (A 60 0)), (1, .int z), (2, .int z2), (3, .int z3), (4, .int z4), (5, .int z5)]) hx hb dX10_feed_104 hl (k := 1) rfl (by decide) (by decide) rfl (fun ls hl => ?_)
  refine lv_goto (tgt := 20) hx hb dX10_feed_107 (by decide) ?_
  refine lv_iload hx hb dX10_feed_20 (lv_at hl 0 rfl) ?_
  refine lv_bipush (v := 20) hx hb dX10_feed_22 (by decide) ?_
  refine lv_icmp_ge (tgt := 110) hx hb dX10_feed_24 (by decide) (fun c => absurd c (by decide)) (fun c_24 => ?_)
  refine lv_iload hx hb dX10_feed_27 (lv_at hl 0 rfl) ?_
  refine lv_iconst (v := 4) hx hb dX10_feed_29 (by decide) ?_
  refine lv_icmp_ge (tgt := 37) hx hb dX10_feed_30 (by decide) (fun c_30 => ?_) (fun c => absurd (by decide) c)
  refine lv_iload hx hb dX10_feed_37 (lv_at hl 0 rfl) ?_
  refine lv_bipush (v := 8) hx hb dX10_feed_39 (by decide) ?_
  refine lv_icmp_ge (tgt := 48) hx hb dX10_feed_41 (by decide) (fun c_41 => ?_) (fun c => absurd (by decide) c)
  refine lv_iload hx hb dX10_feed_48 (lv_at hl 0 rfl) ?_
  refine lv_bipush (v := 12) hx hb dX10_feed_50 (by decide) ?_
  refine lv_icmp_ge (tgt := 59) hx hb dX10_feed_52 (by decide) (fun c_52 => ?_) (fun c => absurd (by decide) c)
  refine lv_iload hx hb dX10_feed_59 (lv_at hl 0 rfl) ?_
  refine lv_bipush (v := 16) hx hb dX10_feed_61 (by decide) ?_
  refine lv_icmp_ge (tgt := 71) hx hb dX10_feed_63 (by decide) (fun c => absurd c (by decide)) (fun c_63 => ?_)
  refine lv_iload hx hb dX10_feed_66 (lv_at hl 6 rfl) ?_
  refine lv_goto (tgt := 73) hx hb dX10_feed_68 (by decide) ?_
  refine lv_istore (lv' := [(7, .int z4), (6, .int 15), (0, .ref (A 60 0)), (1, .int z), (2, .int z2), (3, .int z3), (4, .int z4), (5, .int z5)]) hx hb dX10_feed_73 hl (by decide) rfl (fun ls hl => ?_)
  refine lv_aload_n hx hb dX10_feed_75 rfl (lv_at hl 2 rfl) ?_
  refine ti_get (ci := 10) (k := 1) (N := 67) (T := TX10) (v := .ref (A 60 2)) C hw iw_10 rfl ob_60 (by decide) (by decide) fl_X10_7 rfl rfl dX10_feed_76 ?_
  refine lv_aload_n hx hb dX10_feed_79 rfl (lv_at hl 2 rfl) ?_
  refine ti_get (ci := 10) (k := 2) (N := 67) (T := TX10) C hw iw_10 rfl ob_60 (by decide) (by decide) fl_X10_157 rfl rfl dX10_feed_80 ?_
  refine ti_top (y := 0) ((tI_uY _ _ _ _ _ _).trans ((tI_uY _ _ _ _ _ _).trans ((tI_uY _ _ _ _ _ _).trans ((tI_uY _ _ _ _ _ _).trans ((tI_uY _ _ _ _ _ _).trans ((tI_uY _ _ _ _ _ _).trans ((tI_uY _ _ _ _ _ _).trans ((tI_uY _ _ _ _ _ _).trans ((tI_uY _ _ _ _ _ _).trans ((tI_uY _ _ _ _ _ _).trans ((tI_uY _ _ _ _ _ _).trans ((tI_uY _ _ _ _ _ _).trans ((tI_uY _ _ _ _ _ _).trans ((tI_uY _ _ _ _ _ _).trans ((tI_uY _ _ _ _ _ _).trans ((tI_k _ _ _ _ (by decide)).trans m_taped)))))))))))))))) ?_
  refine lv_iload hx hb dX10_feed_83 (lv_at hl 1 rfl) ?_
  refine lv_iadd hx hb dX10_feed_85 ?_
  refine ti_top (y := 15) (by decide) ?_
  refine lv_iload hx hb dX10_feed_86 (lv_at hl 0 rfl) ?_
  refine lv_bipush (v := 24) hx hb dX10_feed_88 (by decide) ?_
  refine lv_bipush (v := 8) hx hb dX10_feed_90 (by decide) ?_
  refine lv_iload hx hb dX10_feed_92 (lv_at hl 1 rfl) ?_
  refine lv_iconst (v := 4) hx hb dX10_feed_94 (by decide) ?_
  refine lv_irem hx hb dX10_feed_95 (by decide) ?_
  refine ti_top (y := 3) (by decide) ?_
  refine lv_imul hx hb dX10_feed_96 ?_
  refine ti_top (y := 24) (by decide) ?_
  refine lv_isub hx hb dX10_feed_97 ?_
  refine ti_top (y := 0) (by decide) ?_
  refine lv_ishr hx hb dX10_feed_98 ?_
  refine lv_topi (fun x_46 ex_46 => ?_)
  refine lv_sipush (v := 255) hx hb dX10_feed_99 (by decide) ?_
  refine lv_iand hx hb dX10_feed_102 ?_
  refine lv_topi (fun x_47 ex_47 => ?_)
  refine ti_iastG (ci := 10) (k := 1) (n := 700) C hw ob_60 (by decide) (fun _ _ => rfl) (by unfold vp_in; decide) dX10_feed_103 (fun H locs g_48 eg_48 hw => ?_)
  refine lv_iinc (v := 16) (lv' := [(6, .int 16), (7, .int z4), (0, .ref (A 60 0)), (1, .int z), (2, .int z2), (3, .int z3), (4, .int z4), (5, .int z5)]) hx hb dX10_feed_104 hl (k := 1) rfl (by decide) (by decide) rfl (fun ls hl => ?_)
  refine lv_goto (tgt := 20) hx hb dX10_feed_107 (by decide) ?_
  refine lv_iload hx hb dX10_feed_20 (lv_at hl 0 rfl) ?_
  refine lv_bipush (v := 20) hx hb dX10_feed_22 (by decide) ?_
  refine lv_icmp_ge (tgt := 110) hx hb dX10_feed_24 (by decide) (fun c => absurd c (by decide)) (fun c_24 => ?_)
  refine lv_iload hx hb dX10_feed_27 (lv_at hl 0 rfl) ?_
  refine lv_iconst (v := 4) hx hb dX10_feed_29 (by decide) ?_
  refine lv_icmp_ge (tgt := 37) hx hb dX10_feed_30 (by decide) (fun c_30 => ?_) (fun c => absurd (by decide) c)
  refine lv_iload hx hb dX10_feed_37 (lv_at hl 0 rfl) ?_
  refine lv_bipush (v := 8) hx hb dX10_feed_39 (by decide) ?_
  refine lv_icmp_ge (tgt := 48) hx hb dX10_feed_41 (by decide) (fun c_41 => ?_) (fun c => absurd (by decide) c)
  refine lv_iload hx hb dX10_feed_48 (lv_at hl 0 rfl) ?_
  refine lv_bipush (v := 12) hx hb dX10_feed_50 (by decide) ?_
  refine lv_icmp_ge (tgt := 59) hx hb dX10_feed_52 (by decide) (fun c_52 => ?_) (fun c => absurd (by decide) c)
  refine lv_iload hx hb dX10_feed_59 (lv_at hl 0 rfl) ?_
  refine lv_bipush (v := 16) hx hb dX10_feed_61 (by decide) ?_
  refine lv_icmp_ge (tgt := 71) hx hb dX10_feed_63 (by decide) (fun c_63 => ?_) (fun c => absurd (by decide) c)
  refine lv_iload hx hb dX10_feed_71 (lv_at hl 7 rfl) ?_
  refine lv_istore (lv' := [(7, .int z5), (6, .int 16), (0, .ref (A 60 0)), (1, .int z), (2, .int z2), (3, .int z3), (4, .int z4), (5, .int z5)]) hx hb dX10_feed_73 hl (by decide) rfl (fun ls hl => ?_)
  refine lv_aload_n hx hb dX10_feed_75 rfl (lv_at hl 2 rfl) ?_
  refine ti_get (ci := 10) (k := 1) (N := 67) (T := TX10) (v := .ref (A 60 2)) C hw iw_10 rfl ob_60 (by decide) (by decide) fl_X10_7 rfl rfl dX10_feed_76 ?_
  refine lv_aload_n hx hb dX10_feed_79 rfl (lv_at hl 2 rfl) ?_
  refine ti_get (ci := 10) (k := 2) (N := 67) (T := TX10) C hw iw_10 rfl ob_60 (by decide) (by decide) fl_X10_157 rfl rfl dX10_feed_80 ?_
  refine ti_top (y := 0) ((tI_uY _ _ _ _ _ _).trans ((tI_uY _ _ _ _ _ _).trans ((tI_uY _ _ _ _ _ _).trans ((tI_uY _ _ _ _ _ _).trans ((tI_uY _ _ _ _ _ _).trans ((tI_uY _ _ _ _ _ _).trans ((tI_uY _ _ _ _ _ _).trans ((tI_uY _ _ _ _ _ _).trans ((tI_uY _ _ _ _ _ _).trans ((tI_uY _ _ _ _ _ _).trans ((tI_uY _ _ _ _ _ _).trans ((tI_uY _ _ _ _ _ _).trans ((tI_uY _ _ _ _ _ _).trans ((tI_uY _ _ _ _ _ _).trans ((tI_uY _ _ _ _ _ _).trans ((tI_uY _ _ _ _ _ _).trans ((tI_k _ _ _ _ (by decide)).trans m_taped))))))))))))))))) ?_
  refine lv_iload hx hb dX10_feed_83 (lv_at hl 1 rfl) ?_
  refine lv_iadd hx hb dX10_feed_85 ?_
  refine ti_top (y := 16) (by decide) ?_
  refine lv_iload hx hb dX10_feed_86 (lv_at hl 0 rfl) ?_
  refine lv_bipush (v := 24) hx hb dX10_feed_88 (by decide) ?_
  refine lv_bipush (v := 8) hx hb dX10_feed_90 (by decide) ?_
  refine lv_iload hx hb dX10_feed_92 (lv_at hl 1 rfl) ?_
  refine lv_iconst (v := 4) hx hb dX10_feed_94 (by decide) ?_
  refine lv_irem hx hb dX10_feed_95 (by decide) ?_
  refine ti_top (y := 0) (by decide) ?_
  refine lv_imul hx hb dX10_feed_96 ?_
  refine ti_top (y := 0) (by decide) ?_
  refine lv_isub hx hb dX10_feed_97 ?_
  refine ti_top (y := 24) (by decide) ?_
  refine lv_ishr hx hb dX10_feed_98 ?_
  refine lv_topi (fun x_49 ex_49 => ?_)
  refine lv_sipush (v := 255) hx hb dX10_feed_99 (by decide) ?_
  refine lv_iand hx hb dX10_feed_102 ?_
  refine lv_topi (fun x_50 ex_50 => ?_)
  refine ti_iastG (ci := 10) (k := 1) (n := 700) C hw ob_60 (by decide) (fun _ _ => rfl) (by unfold vp_in; decide) dX10_feed_103 (fun H locs g_51 eg_51 hw => ?_)
  refine lv_iinc (v := 17) (lv' := [(6, .int 17), (7, .int z5), (0, .ref (A 60 0)), (1, .int z), (2, .int z2), (3, .int z3), (4, .int z4), (5, .int z5)]) hx hb dX10_feed_104 hl (k := 1) rfl (by decide) (by decide) rfl (fun ls hl => ?_)
  refine lv_goto (tgt := 20) hx hb dX10_feed_107 (by decide) ?_
  refine lv_iload hx hb dX10_feed_20 (lv_at hl 0 rfl) ?_
  refine lv_bipush (v := 20) hx hb dX10_feed_22 (by decide) ?_
  refine lv_icmp_ge (tgt := 110) hx hb dX10_feed_24 (by decide) (fun c => absurd c (by decide)) (fun c_24 => ?_)
  refine lv_iload hx hb dX10_feed_27 (lv_at hl 0 rfl) ?_
  refine lv_iconst (v := 4) hx hb dX10_feed_29 (by decide) ?_
  refine lv_icmp_ge (tgt := 37) hx hb dX10_feed_30 (by decide) (fun c_30 => ?_) (fun c => absurd (by decide) c)
  refine lv_iload hx hb dX10_feed_37 (lv_at hl 0 rfl) ?_
  refine lv_bipush (v := 8) hx hb dX10_feed_39 (by decide) ?_
  refine lv_icmp_ge (tgt := 48) hx hb dX10_feed_41 (by decide) (fun c_41 => ?_) (fun c => absurd (by decide) c)
  refine lv_iload hx hb dX10_feed_48 (lv_at hl 0 rfl) ?_
  refine lv_bipush (v := 12) hx hb dX10_feed_50 (by decide) ?_
  refine lv_icmp_ge (tgt := 59) hx hb dX10_feed_52 (by decide) (fun c_52 => ?_) (fun c => absurd (by decide) c)
  refine lv_iload hx hb dX10_feed_59 (lv_at hl 0 rfl) ?_
  refine lv_bipush (v := 16) hx hb dX10_feed_61 (by decide) ?_
  refine lv_icmp_ge (tgt := 71) hx hb dX10_feed_63 (by decide) (fun c_63 => ?_) (fun c => absurd (by decide) c)
  refine lv_iload hx hb dX10_feed_71 (lv_at hl 7 rfl) ?_
  refine lv_istore (lv' := [(7, .int z5), (6, .int 17), (0, .ref (A 60 0)), (1, .int z), (2, .int z2), (3, .int z3), (4, .int z4), (5, .int z5)]) hx hb dX10_feed_73 hl (by decide) rfl (fun ls hl => ?_)
  refine lv_aload_n hx hb dX10_feed_75 rfl (lv_at hl 2 rfl) ?_
  refine ti_get (ci := 10) (k := 1) (N := 67) (T := TX10) (v := .ref (A 60 2)) C hw iw_10 rfl ob_60 (by decide) (by decide) fl_X10_7 rfl rfl dX10_feed_76 ?_
  refine lv_aload_n hx hb dX10_feed_79 rfl (lv_at hl 2 rfl) ?_
  refine ti_get (ci := 10) (k := 2) (N := 67) (T := TX10) C hw iw_10 rfl ob_60 (by decide) (by decide) fl_X10_157 rfl rfl dX10_feed_80 ?_
  refine ti_top (y := 0) ((tI_uY _ _ _ _ _ _).trans ((tI_uY _ _ _ _ _ _).trans ((tI_uY _ _ _ _ _ _).trans ((tI_uY _ _ _ _ _ _).trans ((tI_uY _ _ _ _ _ _).trans ((tI_uY _ _ _ _ _ _).trans ((tI_uY _ _ _ _ _ _).trans ((tI_uY _ _ _ _ _ _).trans ((tI_uY _ _ _ _ _ _).trans ((tI_uY _ _ _ _ _ _).trans ((tI_uY _ _ _ _ _ _).trans ((tI_uY _ _ _ _ _ _).trans ((tI_uY _ _ _ _ _ _).trans ((tI_uY _ _ _ _ _ _).trans ((tI_uY _ _ _ _ _ _).trans ((tI_uY _ _ _ _ _ _).trans ((tI_uY _ _ _ _ _ _).trans ((tI_k _ _ _ _ (by decide)).trans m_taped)))))))))))))))))) ?_
  refine lv_iload hx hb dX10_feed_83 (lv_at hl 1 rfl) ?_
  refine lv_iadd hx hb dX10_feed_85 ?_
  refine ti_top (y := 17) (by decide) ?_
  refine lv_iload hx hb dX10_feed_86 (lv_at hl 0 rfl) ?_
  refine lv_bipush (v := 24) hx hb dX10_feed_88 (by decide) ?_
  refine lv_bipush (v := 8) hx hb dX10_feed_90 (by decide) ?_
  refine lv_iload hx hb dX10_feed_92 (lv_at hl 1 rfl) ?_
  refine lv_iconst (v := 4) hx hb dX10_feed_94 (by decide) ?_
  refine lv_irem hx hb dX10_feed_95 (by decide) ?_
  refine ti_top (y := 1) (by decide) ?_
  refine lv_imul hx hb dX10_feed_96 ?_
  refine ti_top (y := 8) (by decide) ?_
  refine lv_isub hx hb dX10_feed_97 ?_
  refine ti_top (y := 16) (by decide) ?_
  refine lv_ishr hx hb dX10_feed_98 ?_
  refine lv_topi (fun x_52 ex_52 => ?_)
  refine lv_sipush (v := 255) hx hb dX10_feed_99 (by decide) ?_
  refine lv_iand hx hb dX10_feed_102 ?_
  refine lv_topi (fun x_53 ex_53 => ?_)
  refine ti_iastG (ci := 10) (k := 1) (n := 700) C hw ob_60 (by decide) (fun _ _ => rfl) (by unfold vp_in; decide) dX10_feed_103 (fun H locs g_54 eg_54 hw => ?_)
  refine lv_iinc (v := 18) (lv' := [(6, .int 18), (7, .int z5), (0, .ref (A 60 0)), (1, .int z), (2, .int z2), (3, .int z3), (4, .int z4), (5, .int z5)]) hx hb dX10_feed_104 hl (k := 1) rfl (by decide) (by decide) rfl (fun ls hl => ?_)
  refine lv_goto (tgt := 20) hx hb dX10_feed_107 (by decide) ?_
  refine lv_iload hx hb dX10_feed_20 (lv_at hl 0 rfl) ?_
  refine lv_bipush (v := 20) hx hb dX10_feed_22 (by decide) ?_
  refine lv_icmp_ge (tgt := 110) hx hb dX10_feed_24 (by decide) (fun c => absurd c (by decide)) (fun c_24 => ?_)
  refine lv_iload hx hb dX10_feed_27 (lv_at hl 0 rfl) ?_
  refine lv_iconst (v := 4) hx hb dX10_feed_29 (by decide) ?_
  refine lv_icmp_ge (tgt := 37) hx hb dX10_feed_30 (by decide) (fun c_30 => ?_) (fun c => absurd (by decide) c)
  refine lv_iload hx hb dX10_feed_37 (lv_at hl 0 rfl) ?_
  refine lv_bipush (v := 8) hx hb dX10_feed_39 (by decide) ?_
  refine lv_icmp_ge (tgt := 48) hx hb dX10_feed_41 (by decide) (fun c_41 => ?_) (fun c => absurd (by decide) c)
  refine lv_iload hx hb dX10_feed_48 (lv_at hl 0 rfl) ?_
  refine lv_bipush (v := 12) hx hb dX10_feed_50 (by decide) ?_
  refine lv_icmp_ge (tgt := 59) hx hb dX10_feed_52 (by decide) (fun c_52 => ?_) (fun c => absurd (by decide) c)
  refine lv_iload hx hb dX10_feed_59 (lv_at hl 0 rfl) ?_
  refine lv_bipush (v := 16) hx hb dX10_feed_61 (by decide) ?_
  refine lv_icmp_ge (tgt := 71) hx hb dX10_feed_63 (by decide) (fun c_63 => ?_) (fun c => absurd (by decide) c)
  refine lv_iload hx hb dX10_feed_71 (lv_at hl 7 rfl) ?_
  refine lv_istore (lv' := [(7, .int z5), (6, .int 18), (0, .ref (A 60 0)), (1, .int z), (2, .int z2), (3, .int z3), (4, .int z4), (5, .int z5)]) hx hb dX10_feed_73 hl (by decide) rfl (fun ls hl => ?_)
  refine lv_aload_n hx hb dX10_feed_75 rfl (lv_at hl 2 rfl) ?_
  refine ti_get (ci := 10) (k := 1) (N := 67) (T := TX10) (v := .ref (A 60 2)) C hw iw_10 rfl ob_60 (by decide) (by decide) fl_X10_7 rfl rfl dX10_feed_76 ?_
  refine lv_aload_n hx hb dX10_feed_79 rfl (lv_at hl 2 rfl) ?_
  refine ti_get (ci := 10) (k := 2) (N := 67) (T := TX10) C hw iw_10 rfl ob_60 (by decide) (by decide) fl_X10_157 rfl rfl dX10_feed_80 ?_
  refine ti_top (y := 0) ((tI_uY _ _ _ _ _ _).trans ((tI_uY _ _ _ _ _ _).trans ((tI_uY _ _ _ _ _ _).trans ((tI_uY _ _ _ _ _ _).trans ((tI_uY _ _ _ _ _ _).trans ((tI_uY _ _ _ _ _ _).trans ((tI_uY _ _ _ _ _ _).trans ((tI_uY _ _ _ _ _ _).trans ((tI_uY _ _ _ _ _ _).trans ((tI_uY _ _ _ _ _ _).trans ((tI_uY _ _ _ _ _ _).trans ((tI_uY _ _ _ _ _ _).trans ((tI_uY _ _ _ _ _ _).trans ((tI_uY _ _ _ _ _ _).trans ((tI_uY _ _ _ _ _ _).trans ((tI_uY _ _ _ _ _ _).trans ((tI_uY _ _ _ _ _ _).trans ((tI_uY _ _ _ _ _ _).trans ((tI_k _ _ _ _ (by decide)).trans m_taped))))))))))))))))))) ?_
  refine lv_iload hx hb dX10_feed_83 (lv_at hl 1 rfl) ?_
  refine lv_iadd hx hb dX10_feed_85 ?_
  refine ti_top (y := 18) (by decide) ?_
  refine lv_iload hx hb dX10_feed_86 (lv_at hl 0 rfl) ?_
  refine lv_bipush (v := 24) hx hb dX10_feed_88 (by decide) ?_
  refine lv_bipush (v := 8) hx hb dX10_feed_90 (by decide) ?_
  refine lv_iload hx hb dX10_feed_92 (lv_at hl 1 rfl) ?_
  refine lv_iconst (v := 4) hx hb dX10_feed_94 (by decide) ?_
  refine lv_irem hx hb dX10_feed_95 (by decide) ?_
  refine ti_top (y := 2) (by decide) ?_
  refine lv_imul hx hb dX10_feed_96 ?_
  refine ti_top (y := 16) (by decide) ?_
  refine lv_isub hx hb dX10_feed_97 ?_
  refine ti_top (y := 8) (by decide) ?_
  refine lv_ishr hx hb dX10_feed_98 ?_
  refine lv_topi (fun x_55 ex_55 => ?_)
  refine lv_sipush (v := 255) hx hb dX10_feed_99 (by decide) ?_
  refine lv_iand hx hb dX10_feed_102 ?_
  refine lv_topi (fun x_56 ex_56 => ?_)
  refine ti_iastG (ci := 10) (k := 1) (n := 700) C hw ob_60 (by decide) (fun _ _ => rfl) (by unfold vp_in; decide) dX10_feed_103 (fun H locs g_57 eg_57 hw => ?_)
  refine lv_iinc (v := 19) (lv' := [(6, .int 19), (7, .int z5), (0, .ref (A 60 0)), (1, .int z), (2, .int z2), (3, .int z3), (4, .int z4), (5, .int z5)]) hx hb dX10_feed_104 hl (k := 1) rfl (by decide) (by decide) rfl (fun ls hl => ?_)
  refine lv_goto (tgt := 20) hx hb dX10_feed_107 (by decide) ?_
  refine lv_iload hx hb dX10_feed_20 (lv_at hl 0 rfl) ?_
  refine lv_bipush (v := 20) hx hb dX10_feed_22 (by decide) ?_
  refine lv_icmp_ge (tgt := 110) hx hb dX10_feed_24 (by decide) (fun c => absurd c (by decide)) (fun c_24 => ?_)
  refine lv_iload hx hb dX10_feed_27 (lv_at hl 0 rfl) ?_
  refine lv_iconst (v := 4) hx hb dX10_feed_29 (by decide) ?_
  refine lv_icmp_ge (tgt := 37) hx hb dX10_feed_30 (by decide) (fun c_30 => ?_) (fun c => absurd (by decide) c)
  refine lv_iload hx hb dX10_feed_37 (lv_at hl 0 rfl) ?_
  refine lv_bipush (v := 8) hx hb dX10_feed_39 (by decide) ?_
  refine lv_icmp_ge (tgt := 48) hx hb dX10_feed_41 (by decide) (fun c_41 => ?_) (fun c => absurd (by decide) c)
  refine lv_iload hx hb dX10_feed_48 (lv_at hl 0 rfl) ?_
  refine lv_bipush (v := 12) hx hb dX10_feed_50 (by decide) ?_
  refine lv_icmp_ge (tgt := 59) hx hb dX10_feed_52 (by decide) (fun c_52 => ?_) (fun c => absurd (by decide) c)
  refine lv_iload hx hb dX10_feed_59 (lv_at hl 0 rfl) ?_
  refine lv_bipush (v := 16) hx hb dX10_feed_61 (by decide) ?_
  refine lv_icmp_ge (tgt := 71) hx hb dX10_feed_63 (by decide) (fun c_63 => ?_) (fun c => absurd (by decide) c)
  refine lv_iload hx hb dX10_feed_71 (lv_at hl 7 rfl) ?_
  refine lv_istore (lv' := [(7, .int z5), (6, .int 19), (0, .ref (A 60 0)), (1, .int z), (2, .int z2), (3, .int z3), (4, .int z4), (5, .int z5)]) hx hb dX10_feed_73 hl (by decide) rfl (fun ls hl => ?_)
  refine lv_aload_n hx hb dX10_feed_75 rfl (lv_at hl 2 rfl) ?_
  refine ti_get (ci := 10) (k := 1) (N := 67) (T := TX10) (v := .ref (A 60 2)) C hw iw_10 rfl ob_60 (by decide) (by decide) fl_X10_7 rfl rfl dX10_feed_76 ?_
  refine lv_aload_n hx hb dX10_feed_79 rfl (lv_at hl 2 rfl) ?_
  refine ti_get (ci := 10) (k := 2) (N := 67) (T := TX10) C hw iw_10 rfl ob_60 (by decide) (by decide) fl_X10_157 rfl rfl dX10_feed_80 ?_
  refine ti_top (y := 0) ((tI_uY _ _ _ _ _ _).trans ((tI_uY _ _ _ _ _ _).trans ((tI_uY _ _ _ _ _ _).trans ((tI_uY _ _ _ _ _ _).trans ((tI_uY _ _ _ _ _ _).trans ((tI_uY _ _ _ _ _ _).trans ((tI_uY _ _ _ _ _ _).trans ((tI_uY _ _ _ _ _ _).trans ((tI_uY _ _ _ _ _ _).trans ((tI_uY _ _ _ _ _ _).trans ((tI_uY _ _ _ _ _ _).trans ((tI_uY _ _ _ _ _ _).trans ((tI_uY _ _ _ _ _ _).trans ((tI_uY _ _ _ _ _ _).trans ((tI_uY _ _ _ _ _ _).trans ((tI_uY _ _ _ _ _ _).trans ((tI_uY _ _ _ _ _ _).trans ((tI_uY _ _ _ _ _ _).trans ((tI_uY _ _ _ _ _ _).trans ((tI_k _ _ _ _ (by decide)).trans m_taped)))))))))))))))))))) ?_
  refine lv_iload hx hb dX10_feed_83 (lv_at hl 1 rfl) ?_
  refine lv_iadd hx hb dX10_feed_85 ?_
  refine ti_top (y := 19) (by decide) ?_
  refine lv_iload hx hb dX10_feed_86 (lv_at hl 0 rfl) ?_
  refine lv_bipush (v := 24) hx hb dX10_feed_88 (by decide) ?_
  refine lv_bipush (v := 8) hx hb dX10_feed_90 (by decide) ?_
  refine lv_iload hx hb dX10_feed_92 (lv_at hl 1 rfl) ?_
  refine lv_iconst (v := 4) hx hb dX10_feed_94 (by decide) ?_
  refine lv_irem hx hb dX10_feed_95 (by decide) ?_
  refine ti_top (y := 3) (by decide) ?_
  refine lv_imul hx hb dX10_feed_96 ?_
  refine ti_top (y := 24) (by decide) ?_
  refine lv_isub hx hb dX10_feed_97 ?_
  refine ti_top (y := 0) (by decide) ?_
  refine lv_ishr hx hb dX10_feed_98 ?_
  refine lv_topi (fun x_58 ex_58 => ?_)
  refine lv_sipush (v := 255) hx hb dX10_feed_99 (by decide) ?_
  refine lv_iand hx hb dX10_feed_102 ?_
  refine lv_topi (fun x_59 ex_59 => ?_)
  refine ti_iastG (ci := 10) (k := 1) (n := 700) C hw ob_60 (by decide) (fun _ _ => rfl) (by unfold vp_in; decide) dX10_feed_103 (fun H locs g_60 eg_60 hw => ?_)
  refine lv_iinc (v := 20) (lv' := [(6, .int 20), (7, .int z5), (0, .ref (A 60 0)), (1, .int z), (2, .int z2), (3, .int z3), (4, .int z4), (5, .int z5)]) hx hb dX10_feed_104 hl (k := 1) rfl (by decide) (by decide) rfl (fun ls hl => ?_)
  refine lv_goto (tgt := 20) hx hb dX10_feed_107 (by decide) ?_
  refine lv_iload hx hb dX10_feed_20 (lv_at hl 0 rfl) ?_
  refine lv_bipush (v := 20) hx hb dX10_feed_22 (by decide) ?_
  refine lv_icmp_ge (tgt := 110) hx hb dX10_feed_24 (by decide) (fun c_24 => ?_) (fun c => absurd (by decide) c)
  refine lv_aload_n hx hb dX10_feed_110 rfl (lv_at hl 2 rfl) ?_
  refine lv_dup hx hb dX10_feed_111 rfl ?_
  refine ti_get (ci := 10) (k := 2) (N := 67) (T := TX10) C hw iw_10 rfl ob_60 (by decide) (by decide) fl_X10_157 rfl rfl dX10_feed_112 ?_
  refine ti_top (y := 0) ((tI_uY _ _ _ _ _ _).trans ((tI_uY _ _ _ _ _ _).trans ((tI_uY _ _ _ _ _ _).trans ((tI_uY _ _ _ _ _ _).trans ((tI_uY _ _ _ _ _ _).trans ((tI_uY _ _ _ _ _ _).trans ((tI_uY _ _ _ _ _ _).trans ((tI_uY _ _ _ _ _ _).trans ((tI_uY _ _ _ _ _ _).trans ((tI_uY _ _ _ _ _ _).trans ((tI_uY _ _ _ _ _ _).trans ((tI_uY _ _ _ _ _ _).trans ((tI_uY _ _ _ _ _ _).trans ((tI_uY _ _ _ _ _ _).trans ((tI_uY _ _ _ _ _ _).trans ((tI_uY _ _ _ _ _ _).trans ((tI_uY _ _ _ _ _ _).trans ((tI_uY _ _ _ _ _ _).trans ((tI_uY _ _ _ _ _ _).trans ((tI_uY _ _ _ _ _ _).trans ((tI_k _ _ _ _ (by decide)).trans m_taped))))))))))))))))))))) ?_
  refine lv_bipush (v := 20) hx hb dX10_feed_115 (by decide) ?_
  refine lv_iadd hx hb dX10_feed_117 ?_
  refine ti_top (y := 20) (by decide) ?_
  refine ti_putI (ci := 10) (k := 2) (N := 67) (T := TX10) C hw iw_10 tyX10 tyX10_ok nmX10 rfl ob_60 (by decide) (by decide) fl_X10_157 rfl rfl rfl rfl (fn_10 A _) fs_10_2 dX10_feed_118 (fun H locs hw => ?_)
  refine lv_aload_n hx hb dX10_feed_121 rfl (lv_at hl 2 rfl) ?_
  refine ti_get (ci := 10) (k := 2) (N := 67) (T := TX10) C hw iw_10 rfl ob_60 (by decide) (by decide) fl_X10_157 rfl rfl dX10_feed_122 ?_
  refine ti_top (y := 20) (tI_u _ _ _ _) ?_
  exact hQ _ _ _ _ _ _ hw rfl rfl dX10_feed_125
set_option maxHeartbeats 4000000 in
set_option maxRecDepth 100000 in
theorem k_X10_keepNow (l : Launch) (D : va_G) (A : Nat → Nat → Nat) (cy : Nat → ClassId) (hJ : ti_inj ti_LM A) (M : ti_M) (hF : ti_FM M)  : ti_Kv l yX10_keepNow cX10_keepNow 2 1 ti_LM D A cy M [.ref (A 60 0)] (fun _ => True) := by
  refine ti_eV yp_X10_keepNow hJ ti_LM_nd (Nat.le_of_ble_eq_true rfl) ?_
  intro p e s m args below meth c Q H0 C hQ hw ls hl
  have hx := C.1
  have hb := C.2.1
  have hl : lv_has ls 2 [(0, .ref (A 60 0))] := hl
  obtain ⟨m_taped, m_lf, m_lp, m_hi, m_un, m_st, m_kb, n0, n3, n5, n7, mi0, wa0, co0, ma0, pw0, pw1, pw2, sf, sto⟩ := id hF
  refine lv_aload_n hx hb dX10_keepNow_0 rfl (lv_at hl 0 rfl) ?_
  refine ti_get (ci := 10) (k := 52) (N := 67) (T := TX10) C hw iw_10 rfl ob_60 (by decide) (by decide) fl_X10_317 rfl rfl dX10_keepNow_1 ?_
  refine ti_top (y := 0) (m_un) ?_
  refine lv_bipush (v := 20) hx hb dX10_keepNow_4 (by decide) ?_
  refine lv_icmp_ne (tgt := 45) hx hb dX10_keepNow_6 (by decide) (fun c_6 => ?_) (fun c => absurd c (by decide))
  refine lv_aload_n hx hb dX10_keepNow_45 rfl (lv_at hl 0 rfl) ?_
  refine lv_iconst (v := 3) hx hb dX10_keepNow_46 (by decide) ?_
  refine lv_aload_n hx hb dX10_keepNow_47 rfl (lv_at hl 0 rfl) ?_
  refine ti_get (ci := 10) (k := 52) (N := 67) (T := TX10) C hw iw_10 rfl ob_60 (by decide) (by decide) fl_X10_317 rfl rfl dX10_keepNow_48 ?_
  refine ti_top (y := 0) (m_un) ?_
  refine lv_iadd hx hb dX10_keepNow_51 ?_
  refine ti_top (y := 3) (by decide) ?_
  refine lv_iconst (v := 0) hx hb dX10_keepNow_52 (by decide) ?_
  refine ti_callVv (ci := 10) (av := [.int 3, .int 0]) C hw (k_copies_3 l D A cy hJ M ⟨(m_taped), (m_lf), (m_lp), (m_hi), (m_un), (m_st), (m_kb), ((congrFun (rfl) 0).trans n0), ((congrFun (rfl) 3).trans n3), ((congrFun (rfl) 5).trans n5), ((congrFun (rfl) 7).trans n7), ((congrFun (rfl) 0).trans mi0), ((congrFun (rfl) 0).trans wa0), ((congrFun (rfl) 0).trans co0), ((congrFun (rfl) 0).trans ma0), ((congrFun (rfl) 0).trans pw0), ((congrFun (rfl) 1).trans pw1), ((congrFun (rfl) 2).trans pw2), sf, sto⟩) ⟨ml_X10_404, ym_X10_copies, yv_X10_copies, yi_X10_copies, yc_X10_copies⟩ yd_X10_copies ob_60 (by decide) rfl rfl hl.1 (Nat.le_of_ble_eq_true rfl) ⟨by decide, by decide⟩ ⟨Nat.zero_le _, Nat.zero_le _⟩ dX10_keepNow_53 (fun M_2 H locs hp_2 hw => ?_)
  obtain ⟨hF, k34_2, k38_2, k49_2⟩ := hp_2
  obtain ⟨m_taped, m_lf, m_lp, m_hi, m_un, m_st, m_kb, n0, n3, n5, n7, mi0, wa0, co0, ma0, pw0, pw1, pw2, sf, sto⟩ := id hF
  refine lv_aload_n hx hb dX10_keepNow_56 rfl (lv_at hl 0 rfl) ?_
  refine lv_dup hx hb dX10_keepNow_57 rfl ?_
  refine ti_get (ci := 10) (k := 52) (N := 67) (T := TX10) C hw iw_10 rfl ob_60 (by decide) (by decide) fl_X10_317 rfl rfl dX10_keepNow_58 ?_
  refine ti_top (y := 0) (m_un) ?_
  refine lv_iconst (v := 1) hx hb dX10_keepNow_61 (by decide) ?_
  refine lv_iadd hx hb dX10_keepNow_62 ?_
  refine ti_top (y := 1) (by decide) ?_
  refine ti_putI (ci := 10) (k := 52) (N := 67) (T := TX10) C hw iw_10 tyX10 tyX10_ok nmX10 rfl ob_60 (by decide) (by decide) fl_X10_317 rfl rfl rfl rfl (fn_10 A _) fs_10_52 dX10_keepNow_63 (fun H locs hw => ?_)
  exact hQ _ _ _ _ _ hw trivial dX10_keepNow_66
set_option maxHeartbeats 4000000 in
set_option maxRecDepth 100000 in
theorem k_X10_move (l : Launch) (D : va_G) (A : Nat → Nat → Nat) (cy : Nat → ClassId) (hJ : ti_inj ti_LM A) (M : ti_M) (hF : ti_FM M) (z : Int32) (z2 : Int32) : ti_Ki l yX10_move cX10_move 3 (some .boolean) 2 ti_LM D A cy M [.ref (A 60 0), .int z, .int z2] (fun r _ => r = pf_move z z2) := by
  refine ti_eI yp_X10_move hJ ti_LM_nd (Nat.le_of_ble_eq_true rfl) ?_
  intro p e s m args below meth c Q H0 C hQ hw ls hl
  have hx := C.1
  have hb := C.2.1
  have hl : lv_has ls 3 [(0, .ref (A 60 0)), (1, .int z), (2, .int z2)] := hl
  obtain ⟨m_taped, m_lf, m_lp, m_hi, m_un, m_st, m_kb, n0, n3, n5, n7, mi0, wa0, co0, ma0, pw0, pw1, pw2, sf, sto⟩ := id hF
  refine lv_aload_n hx hb dX10_move_0 rfl (lv_at hl 0 rfl) ?_
  refine lv_iconst (v := 0) hx hb dX10_move_1 (by decide) ?_
  refine ti_putI (ci := 10) (k := 0) (N := 67) (T := TX10) C hw iw_10 tyX10 tyX10_ok nmX10 rfl ob_60 (by decide) (by decide) fl_X10_154 rfl rfl rfl rfl (fn_10 A _) fs_10_0 dX10_move_2 (fun H locs hw => ?_)
  refine lv_iload_n hx hb dX10_move_5 rfl (lv_at hl 1 rfl) ?_
  refine ti_callSi (av := [.int z]) C hw (k_X10_isPower l D A cy hJ (uI M 60 0 0) z) ⟨ml_X10_420, ys_X10_isPower, yi_X10_isPower, yc_X10_isPower⟩ yd_X10_isPower rfl hl.1 (Nat.le_of_ble_eq_true rfl) ⟨by decide, by decide⟩ ⟨Nat.zero_le _, Nat.zero_le _⟩ dX10_move_6 (fun r_1 M_2 H locs hp_2 hw => ?_)
  obtain ⟨hm, hz⟩ := hp_2
  have hw := hw.to hm
  rcases hz with ⟨rfl, g_3, g_4⟩ | ⟨rfl, g_5⟩
  · refine lv_if_eq (tgt := 29) hx hb dX10_move_9 (by decide) (fun c => absurd c (by decide)) (fun c_9 => ?_)
    refine lv_iload_n hx hb dX10_move_12 rfl (lv_at hl 2 rfl) ?_
    refine ti_callSi (av := [.int z2]) C hw (k_X10_isPlace l D A cy hJ (uI M 60 0 0) z2) ⟨ml_X10_414, ys_X10_isPlace, yi_X10_isPlace, yc_X10_isPlace⟩ yd_X10_isPlace rfl hl.1 (Nat.le_of_ble_eq_true rfl) ⟨by decide, by decide⟩ ⟨Nat.zero_le _, Nat.zero_le _⟩ dX10_move_13 (fun r_6 M_7 H locs hp_7 hw => ?_)
    obtain ⟨hm, hz⟩ := hp_7
    have hw := hw.to hm
    rcases hz with ⟨rfl, g_8, g_9⟩ | ⟨rfl, g_10⟩
    · refine lv_if_eq (tgt := 29) hx hb dX10_move_16 (by decide) (fun c => absurd c (by decide)) (fun c_16 => ?_)
      refine lv_aload_n hx hb dX10_move_19 rfl (lv_at hl 0 rfl) ?_
      refine ti_get (ci := 10) (k := 49) (N := 67) (T := TX10) (v := .ref (A 60 50)) C hw iw_10 rfl ob_60 (by decide) (by decide) fl_X10_114 rfl rfl dX10_move_20 ?_
      refine lv_iload_n hx hb dX10_move_23 rfl (lv_at hl 1 rfl) ?_
      refine ti_iald (ci := 10) (k := 49) (n := 69) C hw ob_60 (by decide) (fun _ _ => rfl) (ti_pm hF z (by assumption) (by assumption)).1 dX10_move_24 ?_
      refine ti_top (y := z) (ti_pm hF z (by assumption) (by assumption)).2 ?_
      refine lv_iload_n hx hb dX10_move_25 rfl (lv_at hl 2 rfl) ?_
      refine lv_icmp_ne (tgt := 31) hx hb dX10_move_26 (by decide) (fun c_26 => ?_) (fun c_26 => ?_)
      · refine lv_aload_n hx hb dX10_move_31 rfl (lv_at hl 0 rfl) ?_
        refine ti_callVv (ci := 10) (av := []) C hw (k_X10_keepNow l D A cy hJ (uI M 60 0 0) ⟨((tI_k _ _ _ _ (by decide)).trans m_taped), ((tI_k _ _ _ _ (by decide)).trans m_lf), ((tI_k _ _ _ _ (by decide)).trans m_lp), ((tI_k _ _ _ _ (by decide)).trans m_hi), ((tI_k _ _ _ _ (by decide)).trans m_un), ((tI_k _ _ _ _ (by decide)).trans m_st), ((tI_k _ _ _ _ (by decide)).trans m_kb), ((congrFun ((tY_uI _ _ _ _ _ _).trans rfl) 0).trans n0), ((congrFun ((tY_uI _ _ _ _ _ _).trans rfl) 3).trans n3), ((congrFun ((tY_uI _ _ _ _ _ _).trans rfl) 5).trans n5), ((congrFun ((tY_uI _ _ _ _ _ _).trans rfl) 7).trans n7), ((congrFun ((tY_uI _ _ _ _ _ _).trans rfl) 0).trans mi0), ((congrFun ((tY_uI _ _ _ _ _ _).trans rfl) 0).trans wa0), ((congrFun ((tY_uI _ _ _ _ _ _).trans rfl) 0).trans co0), ((congrFun ((tY_uI _ _ _ _ _ _).trans rfl) 0).trans ma0), ((congrFun ((tY_uI _ _ _ _ _ _).trans rfl) 0).trans pw0), ((congrFun ((tY_uI _ _ _ _ _ _).trans rfl) 1).trans pw1), ((congrFun ((tY_uI _ _ _ _ _ _).trans rfl) 2).trans pw2), sf, sto⟩) ⟨ml_X10_436, ym_X10_keepNow, yv_X10_keepNow, yi_X10_keepNow, yc_X10_keepNow⟩ yd_X10_keepNow ob_60 (by decide) rfl rfl hl.1 (Nat.le_of_ble_eq_true rfl) ⟨by decide, by decide⟩ ⟨Nat.zero_le _, Nat.zero_le _⟩ dX10_move_32 (fun M_12 H locs hp_12 hw => ?_)
        refine lv_aload_n hx hb dX10_move_35 rfl (lv_at hl 0 rfl) ?_
        refine ti_get (ci := 10) (k := 49) (N := 67) (T := TX10) (v := .ref (A 60 50)) C hw iw_10 rfl ob_60 (by decide) (by decide) fl_X10_114 rfl rfl dX10_move_36 ?_
        refine lv_iload_n hx hb dX10_move_39 rfl (lv_at hl 1 rfl) ?_
        refine lv_iload_n hx hb dX10_move_40 rfl (lv_at hl 2 rfl) ?_
        refine ti_iastG (ci := 10) (k := 49) (n := 69) C hw ob_60 (by decide) (fun _ _ => rfl) (ti_pm hF z (by assumption) (by assumption)).1 dX10_move_41 (fun H locs g_13 eg_13 hw => ?_)
        refine lv_iconst (v := 1) hx hb dX10_move_42 (by decide) ?_
        exact hQ _ _ _ _ _ _ hw rfl (by unfold pf_move; (try simp only [Int32.lt_iff_toInt_lt, Int32.le_iff_toInt_le, ← Int32.toInt_inj, ti_l0, ti_l1, ti_l2, ti_l3, ti_l5, ti_l7, ti_l8, ti_l24, ti_l59, ti_l60, ti_l119, ti_l120, ti_lm1, ti_lm2] at g_3); (try simp only [Int32.lt_iff_toInt_lt, Int32.le_iff_toInt_le, ← Int32.toInt_inj, ti_l0, ti_l1, ti_l2, ti_l3, ti_l5, ti_l7, ti_l8, ti_l24, ti_l59, ti_l60, ti_l119, ti_l120, ti_lm1, ti_lm2] at g_4); (try simp only [Int32.lt_iff_toInt_lt, Int32.le_iff_toInt_le, ← Int32.toInt_inj, ti_l0, ti_l1, ti_l2, ti_l3, ti_l5, ti_l7, ti_l8, ti_l24, ti_l59, ti_l60, ti_l119, ti_l120, ti_lm1, ti_lm2] at c_9); (try simp only [Int32.lt_iff_toInt_lt, Int32.le_iff_toInt_le, ← Int32.toInt_inj, ti_l0, ti_l1, ti_l2, ti_l3, ti_l5, ti_l7, ti_l8, ti_l24, ti_l59, ti_l60, ti_l119, ti_l120, ti_lm1, ti_lm2] at g_8); (try simp only [Int32.lt_iff_toInt_lt, Int32.le_iff_toInt_le, ← Int32.toInt_inj, ti_l0, ti_l1, ti_l2, ti_l3, ti_l5, ti_l7, ti_l8, ti_l24, ti_l59, ti_l60, ti_l119, ti_l120, ti_lm1, ti_lm2] at g_9); (try simp only [Int32.lt_iff_toInt_lt, Int32.le_iff_toInt_le, ← Int32.toInt_inj, ti_l0, ti_l1, ti_l2, ti_l3, ti_l5, ti_l7, ti_l8, ti_l24, ti_l59, ti_l60, ti_l119, ti_l120, ti_lm1, ti_lm2] at c_16); (try simp only [Int32.lt_iff_toInt_lt, Int32.le_iff_toInt_le, ← Int32.toInt_inj, ti_l0, ti_l1, ti_l2, ti_l3, ti_l5, ti_l7, ti_l8, ti_l24, ti_l59, ti_l60, ti_l119, ti_l120, ti_lm1, ti_lm2] at c_26); (try simp only [Int32.lt_iff_toInt_lt, Int32.le_iff_toInt_le, ← Int32.toInt_inj, ti_l0, ti_l1, ti_l2, ti_l3, ti_l5, ti_l7, ti_l8, ti_l24, ti_l59, ti_l60, ti_l119, ti_l120, ti_lm1, ti_lm2]); (repeat' split) <;> first | rfl | omega) dX10_move_43
      · refine lv_iconst (v := 0) hx hb dX10_move_29 (by decide) ?_
        exact hQ _ _ _ _ _ _ hw rfl (by unfold pf_move; (try simp only [Int32.lt_iff_toInt_lt, Int32.le_iff_toInt_le, ← Int32.toInt_inj, ti_l0, ti_l1, ti_l2, ti_l3, ti_l5, ti_l7, ti_l8, ti_l24, ti_l59, ti_l60, ti_l119, ti_l120, ti_lm1, ti_lm2] at g_3); (try simp only [Int32.lt_iff_toInt_lt, Int32.le_iff_toInt_le, ← Int32.toInt_inj, ti_l0, ti_l1, ti_l2, ti_l3, ti_l5, ti_l7, ti_l8, ti_l24, ti_l59, ti_l60, ti_l119, ti_l120, ti_lm1, ti_lm2] at g_4); (try simp only [Int32.lt_iff_toInt_lt, Int32.le_iff_toInt_le, ← Int32.toInt_inj, ti_l0, ti_l1, ti_l2, ti_l3, ti_l5, ti_l7, ti_l8, ti_l24, ti_l59, ti_l60, ti_l119, ti_l120, ti_lm1, ti_lm2] at c_9); (try simp only [Int32.lt_iff_toInt_lt, Int32.le_iff_toInt_le, ← Int32.toInt_inj, ti_l0, ti_l1, ti_l2, ti_l3, ti_l5, ti_l7, ti_l8, ti_l24, ti_l59, ti_l60, ti_l119, ti_l120, ti_lm1, ti_lm2] at g_8); (try simp only [Int32.lt_iff_toInt_lt, Int32.le_iff_toInt_le, ← Int32.toInt_inj, ti_l0, ti_l1, ti_l2, ti_l3, ti_l5, ti_l7, ti_l8, ti_l24, ti_l59, ti_l60, ti_l119, ti_l120, ti_lm1, ti_lm2] at g_9); (try simp only [Int32.lt_iff_toInt_lt, Int32.le_iff_toInt_le, ← Int32.toInt_inj, ti_l0, ti_l1, ti_l2, ti_l3, ti_l5, ti_l7, ti_l8, ti_l24, ti_l59, ti_l60, ti_l119, ti_l120, ti_lm1, ti_lm2] at c_16); (try simp only [Int32.lt_iff_toInt_lt, Int32.le_iff_toInt_le, ← Int32.toInt_inj, ti_l0, ti_l1, ti_l2, ti_l3, ti_l5, ti_l7, ti_l8, ti_l24, ti_l59, ti_l60, ti_l119, ti_l120, ti_lm1, ti_lm2] at c_26); (try simp only [Int32.lt_iff_toInt_lt, Int32.le_iff_toInt_le, ← Int32.toInt_inj, ti_l0, ti_l1, ti_l2, ti_l3, ti_l5, ti_l7, ti_l8, ti_l24, ti_l59, ti_l60, ti_l119, ti_l120, ti_lm1, ti_lm2]); (repeat' split) <;> first | rfl | omega) dX10_move_30
    · refine lv_if_eq (tgt := 29) hx hb dX10_move_16 (by decide) (fun c_16 => ?_) (fun c => absurd (by decide) c)
      refine lv_iconst (v := 0) hx hb dX10_move_29 (by decide) ?_
      exact hQ _ _ _ _ _ _ hw rfl (by unfold pf_move; (try simp only [Int32.lt_iff_toInt_lt, Int32.le_iff_toInt_le, ← Int32.toInt_inj, ti_l0, ti_l1, ti_l2, ti_l3, ti_l5, ti_l7, ti_l8, ti_l24, ti_l59, ti_l60, ti_l119, ti_l120, ti_lm1, ti_lm2] at g_3); (try simp only [Int32.lt_iff_toInt_lt, Int32.le_iff_toInt_le, ← Int32.toInt_inj, ti_l0, ti_l1, ti_l2, ti_l3, ti_l5, ti_l7, ti_l8, ti_l24, ti_l59, ti_l60, ti_l119, ti_l120, ti_lm1, ti_lm2] at g_4); (try simp only [Int32.lt_iff_toInt_lt, Int32.le_iff_toInt_le, ← Int32.toInt_inj, ti_l0, ti_l1, ti_l2, ti_l3, ti_l5, ti_l7, ti_l8, ti_l24, ti_l59, ti_l60, ti_l119, ti_l120, ti_lm1, ti_lm2] at c_9); (try simp only [Int32.lt_iff_toInt_lt, Int32.le_iff_toInt_le, ← Int32.toInt_inj, ti_l0, ti_l1, ti_l2, ti_l3, ti_l5, ti_l7, ti_l8, ti_l24, ti_l59, ti_l60, ti_l119, ti_l120, ti_lm1, ti_lm2] at g_10); (try simp only [Int32.lt_iff_toInt_lt, Int32.le_iff_toInt_le, ← Int32.toInt_inj, ti_l0, ti_l1, ti_l2, ti_l3, ti_l5, ti_l7, ti_l8, ti_l24, ti_l59, ti_l60, ti_l119, ti_l120, ti_lm1, ti_lm2] at c_16); (try simp only [Int32.lt_iff_toInt_lt, Int32.le_iff_toInt_le, ← Int32.toInt_inj, ti_l0, ti_l1, ti_l2, ti_l3, ti_l5, ti_l7, ti_l8, ti_l24, ti_l59, ti_l60, ti_l119, ti_l120, ti_lm1, ti_lm2]); (repeat' split) <;> first | rfl | omega) dX10_move_30
  · refine lv_if_eq (tgt := 29) hx hb dX10_move_9 (by decide) (fun c_9 => ?_) (fun c => absurd (by decide) c)
    refine lv_iconst (v := 0) hx hb dX10_move_29 (by decide) ?_
    exact hQ _ _ _ _ _ _ hw rfl (by unfold pf_move; (try simp only [Int32.lt_iff_toInt_lt, Int32.le_iff_toInt_le, ← Int32.toInt_inj, ti_l0, ti_l1, ti_l2, ti_l3, ti_l5, ti_l7, ti_l8, ti_l24, ti_l59, ti_l60, ti_l119, ti_l120, ti_lm1, ti_lm2] at g_5); (try simp only [Int32.lt_iff_toInt_lt, Int32.le_iff_toInt_le, ← Int32.toInt_inj, ti_l0, ti_l1, ti_l2, ti_l3, ti_l5, ti_l7, ti_l8, ti_l24, ti_l59, ti_l60, ti_l119, ti_l120, ti_lm1, ti_lm2] at c_9); (try simp only [Int32.lt_iff_toInt_lt, Int32.le_iff_toInt_le, ← Int32.toInt_inj, ti_l0, ti_l1, ti_l2, ti_l3, ti_l5, ti_l7, ti_l8, ti_l24, ti_l59, ti_l60, ti_l119, ti_l120, ti_lm1, ti_lm2]); (repeat' split) <;> first | rfl | omega) dX10_move_30
set_option maxHeartbeats 4000000 in
set_option maxRecDepth 100000 in
theorem k_X10_keep (l : Launch) (D : va_G) (A : Nat → Nat → Nat) (cy : Nat → ClassId) (hJ : ti_inj ti_LM A) (M : ti_M) (hF : ti_FM M)  : ti_Ki l yX10_keep cX10_keep 1 (some .int) 1 ti_LM D A cy M [.ref (A 60 0)] (fun r _ => r = 0) := by
  refine ti_eI yp_X10_keep hJ ti_LM_nd (Nat.le_of_ble_eq_true rfl) ?_
  intro p e s m args below meth c Q H0 C hQ hw ls hl
  have hx := C.1
  have hb := C.2.1
  have hl : lv_has ls 1 [(0, .ref (A 60 0))] := hl
  obtain ⟨m_taped, m_lf, m_lp, m_hi, m_un, m_st, m_kb, n0, n3, n5, n7, mi0, wa0, co0, ma0, pw0, pw1, pw2, sf, sto⟩ := id hF
  refine lv_aload_n hx hb dX10_keep_0 rfl (lv_at hl 0 rfl) ?_
  refine lv_iconst (v := 0) hx hb dX10_keep_1 (by decide) ?_
  refine ti_putI (ci := 10) (k := 0) (N := 67) (T := TX10) C hw iw_10 tyX10 tyX10_ok nmX10 rfl ob_60 (by decide) (by decide) fl_X10_154 rfl rfl rfl rfl (fn_10 A _) fs_10_0 dX10_keep_2 (fun H locs hw => ?_)
  refine lv_aload_n hx hb dX10_keep_5 rfl (lv_at hl 0 rfl) ?_
  refine lv_iconst (v := 2) hx hb dX10_keep_6 (by decide) ?_
  refine lv_iconst (v := 0) hx hb dX10_keep_7 (by decide) ?_
  refine ti_callVv (ci := 10) (av := [.int 2, .int 0]) C hw (k_copies_2 l D A cy hJ (uI M 60 0 0) ⟨((tI_k _ _ _ _ (by decide)).trans m_taped), ((tI_k _ _ _ _ (by decide)).trans m_lf), ((tI_k _ _ _ _ (by decide)).trans m_lp), ((tI_k _ _ _ _ (by decide)).trans m_hi), ((tI_k _ _ _ _ (by decide)).trans m_un), ((tI_k _ _ _ _ (by decide)).trans m_st), ((tI_k _ _ _ _ (by decide)).trans m_kb), ((congrFun ((tY_uI _ _ _ _ _ _).trans rfl) 0).trans n0), ((congrFun ((tY_uI _ _ _ _ _ _).trans rfl) 3).trans n3), ((congrFun ((tY_uI _ _ _ _ _ _).trans rfl) 5).trans n5), ((congrFun ((tY_uI _ _ _ _ _ _).trans rfl) 7).trans n7), ((congrFun ((tY_uI _ _ _ _ _ _).trans rfl) 0).trans mi0), ((congrFun ((tY_uI _ _ _ _ _ _).trans rfl) 0).trans wa0), ((congrFun ((tY_uI _ _ _ _ _ _).trans rfl) 0).trans co0), ((congrFun ((tY_uI _ _ _ _ _ _).trans rfl) 0).trans ma0), ((congrFun ((tY_uI _ _ _ _ _ _).trans rfl) 0).trans pw0), ((congrFun ((tY_uI _ _ _ _ _ _).trans rfl) 1).trans pw1), ((congrFun ((tY_uI _ _ _ _ _ _).trans rfl) 2).trans pw2), sf, sto⟩) ⟨ml_X10_404, ym_X10_copies, yv_X10_copies, yi_X10_copies, yc_X10_copies⟩ yd_X10_copies ob_60 (by decide) rfl rfl hl.1 (Nat.le_of_ble_eq_true rfl) ⟨by decide, by decide⟩ ⟨Nat.zero_le _, Nat.zero_le _⟩ dX10_keep_8 (fun M_2 H locs hp_2 hw => ?_)
  obtain ⟨hF, k34_2, k38_2, k49_2⟩ := hp_2
  obtain ⟨m_taped, m_lf, m_lp, m_hi, m_un, m_st, m_kb, n0, n3, n5, n7, mi0, wa0, co0, ma0, pw0, pw1, pw2, sf, sto⟩ := id hF
  refine lv_aload_n hx hb dX10_keep_11 rfl (lv_at hl 0 rfl) ?_
  refine lv_iconst (v := 1) hx hb dX10_keep_12 (by decide) ?_
  refine lv_iconst (v := 0) hx hb dX10_keep_13 (by decide) ?_
  refine ti_callVv (ci := 10) (av := [.int 1, .int 0]) C hw (k_X10_copiesLog l D A cy hJ M_2 ⟨(m_taped), (m_lf), (m_lp), (m_hi), (m_un), (m_st), (m_kb), ((congrFun (rfl) 0).trans n0), ((congrFun (rfl) 3).trans n3), ((congrFun (rfl) 5).trans n5), ((congrFun (rfl) 7).trans n7), ((congrFun (rfl) 0).trans mi0), ((congrFun (rfl) 0).trans wa0), ((congrFun (rfl) 0).trans co0), ((congrFun (rfl) 0).trans ma0), ((congrFun (rfl) 0).trans pw0), ((congrFun (rfl) 1).trans pw1), ((congrFun (rfl) 2).trans pw2), sf, sto⟩) ⟨ml_X10_497, ym_X10_copiesLog, yv_X10_copiesLog, yi_X10_copiesLog, yc_X10_copiesLog⟩ yd_X10_copiesLog ob_60 (by decide) rfl rfl hl.1 (Nat.le_of_ble_eq_true rfl) ⟨by decide, by decide⟩ ⟨Nat.zero_le _, Nat.zero_le _⟩ dX10_keep_14 (fun M_4 H locs hp_4 hw => ?_)
  have hF := hp_4
  obtain ⟨m_taped, m_lf, m_lp, m_hi, m_un, m_st, m_kb, n0, n3, n5, n7, mi0, wa0, co0, ma0, pw0, pw1, pw2, sf, sto⟩ := id hF
  refine lv_aload_n hx hb dX10_keep_17 rfl (lv_at hl 0 rfl) ?_
  refine lv_iconst (v := 1) hx hb dX10_keep_18 (by decide) ?_
  refine ti_putI (ci := 10) (k := 51) (N := 67) (T := TX10) C hw iw_10 tyX10 tyX10_ok nmX10 rfl ob_60 (by decide) (by decide) fl_X10_313 rfl rfl rfl rfl (fn_10 A _) fs_10_51 dX10_keep_19 (fun H locs hw => ?_)
  refine lv_aload_n hx hb dX10_keep_22 rfl (lv_at hl 0 rfl) ?_
  refine ti_get (ci := 10) (k := 34) (N := 67) (T := TX10) (v := .ref (A 60 35)) C hw iw_10 rfl ob_60 (by decide) (by decide) fl_X10_69 rfl rfl dX10_keep_23 ?_
  refine lv_iconst (v := 0) hx hb dX10_keep_26 (by decide) ?_
  refine ti_iald (ci := 10) (k := 34) (n := 23) C hw ob_60 (by decide) (fun _ _ => rfl) (by unfold vp_in; decide) dX10_keep_27 ?_
  refine ti_top (y := 0) ((congrFun ((tY_uI _ _ _ _ _ _).trans rfl) 0).trans mi0) ?_
  exact hQ _ _ _ _ _ _ hw rfl rfl dX10_keep_28
set_option maxHeartbeats 4000000 in
set_option maxRecDepth 100000 in
theorem k_X10_decree (l : Launch) (D : va_G) (A : Nat → Nat → Nat) (cy : Nat → ClassId) (hJ : ti_inj ti_LM A) (M : ti_M) (hF : ti_FM M) (z : Int32) (z2 : Int32) (z3 : Int32) : ti_Ki l yX10_decree cX10_decree 11 (some .int) 1 ti_LM D A cy M [.ref (A 60 0), .int z, .int z2, .int z3] (fun r _ => r = pf_decree z z2 z3) := by
  refine ti_eI yp_X10_decree hJ ti_LM_nd (Nat.le_of_ble_eq_true rfl) ?_
  intro p e s m args below meth c Q H0 C hQ hw ls hl
  have hx := C.1
  have hb := C.2.1
  have hl : lv_has ls 11 [(0, .ref (A 60 0)), (1, .int z), (2, .int z2), (3, .int z3)] := hl
  obtain ⟨m_taped, m_lf, m_lp, m_hi, m_un, m_st, m_kb, n0, n3, n5, n7, mi0, wa0, co0, ma0, pw0, pw1, pw2, sf, sto⟩ := id hF
  refine lv_aload_n hx hb dX10_decree_0 rfl (lv_at hl 0 rfl) ?_
  refine lv_iconst (v := 0) hx hb dX10_decree_1 (by decide) ?_
  refine ti_putI (ci := 10) (k := 0) (N := 67) (T := TX10) C hw iw_10 tyX10 tyX10_ok nmX10 rfl ob_60 (by decide) (by decide) fl_X10_154 rfl rfl rfl rfl (fn_10 A _) fs_10_0 dX10_decree_2 (fun H locs hw => ?_)
  refine lv_iload_n hx hb dX10_decree_5 rfl (lv_at hl 1 rfl) ?_
  refine lv_iconst (v := 1) hx hb dX10_decree_6 (by decide) ?_
  refine lv_icmp_lt (tgt := 34) hx hb dX10_decree_7 (by decide) (fun c_7 => ?_) (fun c_7 => ?_)
  · refine lv_iconst (v := (-1)) hx hb dX10_decree_34 (by decide) ?_
    exact hQ _ _ _ _ _ _ hw rfl (by unfold pf_decree pf_decree1; (try simp only [Int32.lt_iff_toInt_lt, Int32.le_iff_toInt_le, ← Int32.toInt_inj, ti_l0, ti_l1, ti_l2, ti_l3, ti_l5, ti_l7, ti_l8, ti_l24, ti_l59, ti_l60, ti_l119, ti_l120, ti_lm1, ti_lm2] at c_7); (try simp only [Int32.lt_iff_toInt_lt, Int32.le_iff_toInt_le, ← Int32.toInt_inj, ti_l0, ti_l1, ti_l2, ti_l3, ti_l5, ti_l7, ti_l8, ti_l24, ti_l59, ti_l60, ti_l119, ti_l120, ti_lm1, ti_lm2] at c_13); (try simp only [Int32.lt_iff_toInt_lt, Int32.le_iff_toInt_le, ← Int32.toInt_inj, ti_l0, ti_l1, ti_l2, ti_l3, ti_l5, ti_l7, ti_l8, ti_l24, ti_l59, ti_l60, ti_l119, ti_l120, ti_lm1, ti_lm2] at c_17); (try simp only [Int32.lt_iff_toInt_lt, Int32.le_iff_toInt_le, ← Int32.toInt_inj, ti_l0, ti_l1, ti_l2, ti_l3, ti_l5, ti_l7, ti_l8, ti_l24, ti_l59, ti_l60, ti_l119, ti_l120, ti_lm1, ti_lm2] at c_22); (try simp only [Int32.lt_iff_toInt_lt, Int32.le_iff_toInt_le, ← Int32.toInt_inj, ti_l0, ti_l1, ti_l2, ti_l3, ti_l5, ti_l7, ti_l8, ti_l24, ti_l59, ti_l60, ti_l119, ti_l120, ti_lm1, ti_lm2] at c_26); (try simp only [Int32.lt_iff_toInt_lt, Int32.le_iff_toInt_le, ← Int32.toInt_inj, ti_l0, ti_l1, ti_l2, ti_l3, ti_l5, ti_l7, ti_l8, ti_l24, ti_l59, ti_l60, ti_l119, ti_l120, ti_lm1, ti_lm2] at c_31); (try simp only [Int32.lt_iff_toInt_lt, Int32.le_iff_toInt_le, ← Int32.toInt_inj, ti_l0, ti_l1, ti_l2, ti_l3, ti_l5, ti_l7, ti_l8, ti_l24, ti_l59, ti_l60, ti_l119, ti_l120, ti_lm1, ti_lm2] at c_140); (try simp only [Int32.lt_iff_toInt_lt, Int32.le_iff_toInt_le, ← Int32.toInt_inj, ti_l0, ti_l1, ti_l2, ti_l3, ti_l5, ti_l7, ti_l8, ti_l24, ti_l59, ti_l60, ti_l119, ti_l120, ti_lm1, ti_lm2]); (repeat' split) <;> first | rfl | omega) dX10_decree_35
  · refine lv_iload_n hx hb dX10_decree_10 rfl (lv_at hl 1 rfl) ?_
    refine lv_bipush (v := 8) hx hb dX10_decree_11 (by decide) ?_
    refine lv_icmp_gt (tgt := 34) hx hb dX10_decree_13 (by decide) (fun c_13 => ?_) (fun c_13 => ?_)
    · refine lv_iconst (v := (-1)) hx hb dX10_decree_34 (by decide) ?_
      exact hQ _ _ _ _ _ _ hw rfl (by unfold pf_decree pf_decree1; (try simp only [Int32.lt_iff_toInt_lt, Int32.le_iff_toInt_le, ← Int32.toInt_inj, ti_l0, ti_l1, ti_l2, ti_l3, ti_l5, ti_l7, ti_l8, ti_l24, ti_l59, ti_l60, ti_l119, ti_l120, ti_lm1, ti_lm2] at c_7); (try simp only [Int32.lt_iff_toInt_lt, Int32.le_iff_toInt_le, ← Int32.toInt_inj, ti_l0, ti_l1, ti_l2, ti_l3, ti_l5, ti_l7, ti_l8, ti_l24, ti_l59, ti_l60, ti_l119, ti_l120, ti_lm1, ti_lm2] at c_13); (try simp only [Int32.lt_iff_toInt_lt, Int32.le_iff_toInt_le, ← Int32.toInt_inj, ti_l0, ti_l1, ti_l2, ti_l3, ti_l5, ti_l7, ti_l8, ti_l24, ti_l59, ti_l60, ti_l119, ti_l120, ti_lm1, ti_lm2] at c_17); (try simp only [Int32.lt_iff_toInt_lt, Int32.le_iff_toInt_le, ← Int32.toInt_inj, ti_l0, ti_l1, ti_l2, ti_l3, ti_l5, ti_l7, ti_l8, ti_l24, ti_l59, ti_l60, ti_l119, ti_l120, ti_lm1, ti_lm2] at c_22); (try simp only [Int32.lt_iff_toInt_lt, Int32.le_iff_toInt_le, ← Int32.toInt_inj, ti_l0, ti_l1, ti_l2, ti_l3, ti_l5, ti_l7, ti_l8, ti_l24, ti_l59, ti_l60, ti_l119, ti_l120, ti_lm1, ti_lm2] at c_26); (try simp only [Int32.lt_iff_toInt_lt, Int32.le_iff_toInt_le, ← Int32.toInt_inj, ti_l0, ti_l1, ti_l2, ti_l3, ti_l5, ti_l7, ti_l8, ti_l24, ti_l59, ti_l60, ti_l119, ti_l120, ti_lm1, ti_lm2] at c_31); (try simp only [Int32.lt_iff_toInt_lt, Int32.le_iff_toInt_le, ← Int32.toInt_inj, ti_l0, ti_l1, ti_l2, ti_l3, ti_l5, ti_l7, ti_l8, ti_l24, ti_l59, ti_l60, ti_l119, ti_l120, ti_lm1, ti_lm2] at c_140); (try simp only [Int32.lt_iff_toInt_lt, Int32.le_iff_toInt_le, ← Int32.toInt_inj, ti_l0, ti_l1, ti_l2, ti_l3, ti_l5, ti_l7, ti_l8, ti_l24, ti_l59, ti_l60, ti_l119, ti_l120, ti_lm1, ti_lm2]); (repeat' split) <;> first | rfl | omega) dX10_decree_35
    · refine lv_iload_n hx hb dX10_decree_16 rfl (lv_at hl 2 rfl) ?_
      refine lv_if_lt (tgt := 34) hx hb dX10_decree_17 (by decide) (fun c_17 => ?_) (fun c_17 => ?_)
      · refine lv_iconst (v := (-1)) hx hb dX10_decree_34 (by decide) ?_
        exact hQ _ _ _ _ _ _ hw rfl (by unfold pf_decree pf_decree1; (try simp only [Int32.lt_iff_toInt_lt, Int32.le_iff_toInt_le, ← Int32.toInt_inj, ti_l0, ti_l1, ti_l2, ti_l3, ti_l5, ti_l7, ti_l8, ti_l24, ti_l59, ti_l60, ti_l119, ti_l120, ti_lm1, ti_lm2] at c_7); (try simp only [Int32.lt_iff_toInt_lt, Int32.le_iff_toInt_le, ← Int32.toInt_inj, ti_l0, ti_l1, ti_l2, ti_l3, ti_l5, ti_l7, ti_l8, ti_l24, ti_l59, ti_l60, ti_l119, ti_l120, ti_lm1, ti_lm2] at c_13); (try simp only [Int32.lt_iff_toInt_lt, Int32.le_iff_toInt_le, ← Int32.toInt_inj, ti_l0, ti_l1, ti_l2, ti_l3, ti_l5, ti_l7, ti_l8, ti_l24, ti_l59, ti_l60, ti_l119, ti_l120, ti_lm1, ti_lm2] at c_17); (try simp only [Int32.lt_iff_toInt_lt, Int32.le_iff_toInt_le, ← Int32.toInt_inj, ti_l0, ti_l1, ti_l2, ti_l3, ti_l5, ti_l7, ti_l8, ti_l24, ti_l59, ti_l60, ti_l119, ti_l120, ti_lm1, ti_lm2] at c_22); (try simp only [Int32.lt_iff_toInt_lt, Int32.le_iff_toInt_le, ← Int32.toInt_inj, ti_l0, ti_l1, ti_l2, ti_l3, ti_l5, ti_l7, ti_l8, ti_l24, ti_l59, ti_l60, ti_l119, ti_l120, ti_lm1, ti_lm2] at c_26); (try simp only [Int32.lt_iff_toInt_lt, Int32.le_iff_toInt_le, ← Int32.toInt_inj, ti_l0, ti_l1, ti_l2, ti_l3, ti_l5, ti_l7, ti_l8, ti_l24, ti_l59, ti_l60, ti_l119, ti_l120, ti_lm1, ti_lm2] at c_31); (try simp only [Int32.lt_iff_toInt_lt, Int32.le_iff_toInt_le, ← Int32.toInt_inj, ti_l0, ti_l1, ti_l2, ti_l3, ti_l5, ti_l7, ti_l8, ti_l24, ti_l59, ti_l60, ti_l119, ti_l120, ti_lm1, ti_lm2] at c_140); (try simp only [Int32.lt_iff_toInt_lt, Int32.le_iff_toInt_le, ← Int32.toInt_inj, ti_l0, ti_l1, ti_l2, ti_l3, ti_l5, ti_l7, ti_l8, ti_l24, ti_l59, ti_l60, ti_l119, ti_l120, ti_lm1, ti_lm2]); (repeat' split) <;> first | rfl | omega) dX10_decree_35
      · refine lv_iload_n hx hb dX10_decree_20 rfl (lv_at hl 2 rfl) ?_
        refine lv_iload_n hx hb dX10_decree_21 rfl (lv_at hl 1 rfl) ?_
        refine lv_icmp_gt (tgt := 34) hx hb dX10_decree_22 (by decide) (fun c_22 => ?_) (fun c_22 => ?_)
        · refine lv_iconst (v := (-1)) hx hb dX10_decree_34 (by decide) ?_
          exact hQ _ _ _ _ _ _ hw rfl (by unfold pf_decree pf_decree1; (try simp only [Int32.lt_iff_toInt_lt, Int32.le_iff_toInt_le, ← Int32.toInt_inj, ti_l0, ti_l1, ti_l2, ti_l3, ti_l5, ti_l7, ti_l8, ti_l24, ti_l59, ti_l60, ti_l119, ti_l120, ti_lm1, ti_lm2] at c_7); (try simp only [Int32.lt_iff_toInt_lt, Int32.le_iff_toInt_le, ← Int32.toInt_inj, ti_l0, ti_l1, ti_l2, ti_l3, ti_l5, ti_l7, ti_l8, ti_l24, ti_l59, ti_l60, ti_l119, ti_l120, ti_lm1, ti_lm2] at c_13); (try simp only [Int32.lt_iff_toInt_lt, Int32.le_iff_toInt_le, ← Int32.toInt_inj, ti_l0, ti_l1, ti_l2, ti_l3, ti_l5, ti_l7, ti_l8, ti_l24, ti_l59, ti_l60, ti_l119, ti_l120, ti_lm1, ti_lm2] at c_17); (try simp only [Int32.lt_iff_toInt_lt, Int32.le_iff_toInt_le, ← Int32.toInt_inj, ti_l0, ti_l1, ti_l2, ti_l3, ti_l5, ti_l7, ti_l8, ti_l24, ti_l59, ti_l60, ti_l119, ti_l120, ti_lm1, ti_lm2] at c_22); (try simp only [Int32.lt_iff_toInt_lt, Int32.le_iff_toInt_le, ← Int32.toInt_inj, ti_l0, ti_l1, ti_l2, ti_l3, ti_l5, ti_l7, ti_l8, ti_l24, ti_l59, ti_l60, ti_l119, ti_l120, ti_lm1, ti_lm2] at c_26); (try simp only [Int32.lt_iff_toInt_lt, Int32.le_iff_toInt_le, ← Int32.toInt_inj, ti_l0, ti_l1, ti_l2, ti_l3, ti_l5, ti_l7, ti_l8, ti_l24, ti_l59, ti_l60, ti_l119, ti_l120, ti_lm1, ti_lm2] at c_31); (try simp only [Int32.lt_iff_toInt_lt, Int32.le_iff_toInt_le, ← Int32.toInt_inj, ti_l0, ti_l1, ti_l2, ti_l3, ti_l5, ti_l7, ti_l8, ti_l24, ti_l59, ti_l60, ti_l119, ti_l120, ti_lm1, ti_lm2] at c_140); (try simp only [Int32.lt_iff_toInt_lt, Int32.le_iff_toInt_le, ← Int32.toInt_inj, ti_l0, ti_l1, ti_l2, ti_l3, ti_l5, ti_l7, ti_l8, ti_l24, ti_l59, ti_l60, ti_l119, ti_l120, ti_lm1, ti_lm2]); (repeat' split) <;> first | rfl | omega) dX10_decree_35
        · refine lv_iload_n hx hb dX10_decree_25 rfl (lv_at hl 3 rfl) ?_
          refine lv_if_lt (tgt := 34) hx hb dX10_decree_26 (by decide) (fun c_26 => ?_) (fun c_26 => ?_)
          · refine lv_iconst (v := (-1)) hx hb dX10_decree_34 (by decide) ?_
            exact hQ _ _ _ _ _ _ hw rfl (by unfold pf_decree pf_decree1; (try simp only [Int32.lt_iff_toInt_lt, Int32.le_iff_toInt_le, ← Int32.toInt_inj, ti_l0, ti_l1, ti_l2, ti_l3, ti_l5, ti_l7, ti_l8, ti_l24, ti_l59, ti_l60, ti_l119, ti_l120, ti_lm1, ti_lm2] at c_7); (try simp only [Int32.lt_iff_toInt_lt, Int32.le_iff_toInt_le, ← Int32.toInt_inj, ti_l0, ti_l1, ti_l2, ti_l3, ti_l5, ti_l7, ti_l8, ti_l24, ti_l59, ti_l60, ti_l119, ti_l120, ti_lm1, ti_lm2] at c_13); (try simp only [Int32.lt_iff_toInt_lt, Int32.le_iff_toInt_le, ← Int32.toInt_inj, ti_l0, ti_l1, ti_l2, ti_l3, ti_l5, ti_l7, ti_l8, ti_l24, ti_l59, ti_l60, ti_l119, ti_l120, ti_lm1, ti_lm2] at c_17); (try simp only [Int32.lt_iff_toInt_lt, Int32.le_iff_toInt_le, ← Int32.toInt_inj, ti_l0, ti_l1, ti_l2, ti_l3, ti_l5, ti_l7, ti_l8, ti_l24, ti_l59, ti_l60, ti_l119, ti_l120, ti_lm1, ti_lm2] at c_22); (try simp only [Int32.lt_iff_toInt_lt, Int32.le_iff_toInt_le, ← Int32.toInt_inj, ti_l0, ti_l1, ti_l2, ti_l3, ti_l5, ti_l7, ti_l8, ti_l24, ti_l59, ti_l60, ti_l119, ti_l120, ti_lm1, ti_lm2] at c_26); (try simp only [Int32.lt_iff_toInt_lt, Int32.le_iff_toInt_le, ← Int32.toInt_inj, ti_l0, ti_l1, ti_l2, ti_l3, ti_l5, ti_l7, ti_l8, ti_l24, ti_l59, ti_l60, ti_l119, ti_l120, ti_lm1, ti_lm2] at c_31); (try simp only [Int32.lt_iff_toInt_lt, Int32.le_iff_toInt_le, ← Int32.toInt_inj, ti_l0, ti_l1, ti_l2, ti_l3, ti_l5, ti_l7, ti_l8, ti_l24, ti_l59, ti_l60, ti_l119, ti_l120, ti_lm1, ti_lm2] at c_140); (try simp only [Int32.lt_iff_toInt_lt, Int32.le_iff_toInt_le, ← Int32.toInt_inj, ti_l0, ti_l1, ti_l2, ti_l3, ti_l5, ti_l7, ti_l8, ti_l24, ti_l59, ti_l60, ti_l119, ti_l120, ti_lm1, ti_lm2]); (repeat' split) <;> first | rfl | omega) dX10_decree_35
          · refine lv_iload_n hx hb dX10_decree_29 rfl (lv_at hl 3 rfl) ?_
            refine lv_iconst (v := 1) hx hb dX10_decree_30 (by decide) ?_
            refine lv_icmp_le (tgt := 36) hx hb dX10_decree_31 (by decide) (fun c_31 => ?_) (fun c_31 => ?_)
            · refine lv_iconst (v := 0) hx hb dX10_decree_36 (by decide) ?_
              refine lv_istore (lv' := [(4, .int 0), (0, .ref (A 60 0)), (1, .int z), (2, .int z2), (3, .int z3)]) hx hb dX10_decree_37 hl (by decide) rfl (fun ls hl => ?_)
              refine lv_iconst (v := 0) hx hb dX10_decree_39 (by decide) ?_
              refine lv_istore (lv' := [(5, .int 0), (4, .int 0), (0, .ref (A 60 0)), (1, .int z), (2, .int z2), (3, .int z3)]) hx hb dX10_decree_40 hl (by decide) rfl (fun ls hl => ?_)
              refine lv_iconst (v := 0) hx hb dX10_decree_42 (by decide) ?_
              refine lv_istore (lv' := [(6, .int 0), (5, .int 0), (4, .int 0), (0, .ref (A 60 0)), (1, .int z), (2, .int z2), (3, .int z3)]) hx hb dX10_decree_43 hl (by decide) rfl (fun ls hl => ?_)
              refine lv_iload hx hb dX10_decree_45 (lv_at hl 0 rfl) ?_
              refine lv_iload_n hx hb dX10_decree_47 rfl (lv_at hl 4 rfl) ?_
              refine lv_icmp_ge (tgt := 104) hx hb dX10_decree_48 (by decide) (fun c => absurd c ((by (try simp only [Int32.lt_iff_toInt_lt, Int32.le_iff_toInt_le, ← Int32.toInt_inj, ti_l0, ti_l1, ti_l2, ti_l3, ti_l5, ti_l7, ti_l8, ti_l24, ti_l59, ti_l60, ti_l119, ti_l120, ti_lm1, ti_lm2] at c_7); (try simp only [Int32.lt_iff_toInt_lt, Int32.le_iff_toInt_le, ← Int32.toInt_inj, ti_l0, ti_l1, ti_l2, ti_l3, ti_l5, ti_l7, ti_l8, ti_l24, ti_l59, ti_l60, ti_l119, ti_l120, ti_lm1, ti_lm2] at c_13); (try simp only [Int32.lt_iff_toInt_lt, Int32.le_iff_toInt_le, ← Int32.toInt_inj, ti_l0, ti_l1, ti_l2, ti_l3, ti_l5, ti_l7, ti_l8, ti_l24, ti_l59, ti_l60, ti_l119, ti_l120, ti_lm1, ti_lm2] at c_17); (try simp only [Int32.lt_iff_toInt_lt, Int32.le_iff_toInt_le, ← Int32.toInt_inj, ti_l0, ti_l1, ti_l2, ti_l3, ti_l5, ti_l7, ti_l8, ti_l24, ti_l59, ti_l60, ti_l119, ti_l120, ti_lm1, ti_lm2] at c_22); (try simp only [Int32.lt_iff_toInt_lt, Int32.le_iff_toInt_le, ← Int32.toInt_inj, ti_l0, ti_l1, ti_l2, ti_l3, ti_l5, ti_l7, ti_l8, ti_l24, ti_l59, ti_l60, ti_l119, ti_l120, ti_lm1, ti_lm2] at c_26); (try simp only [Int32.lt_iff_toInt_lt, Int32.le_iff_toInt_le, ← Int32.toInt_inj, ti_l0, ti_l1, ti_l2, ti_l3, ti_l5, ti_l7, ti_l8, ti_l24, ti_l59, ti_l60, ti_l119, ti_l120, ti_lm1, ti_lm2] at c_31); (try simp only [Int32.lt_iff_toInt_lt, Int32.le_iff_toInt_le, ← Int32.toInt_inj, ti_l0, ti_l1, ti_l2, ti_l3, ti_l5, ti_l7, ti_l8, ti_l24, ti_l59, ti_l60, ti_l119, ti_l120, ti_lm1, ti_lm2]); omega))) (fun c_48 => ?_)
              refine lv_iload hx hb dX10_decree_51 (lv_at hl 0 rfl) ?_
              refine lv_aload_n hx hb dX10_decree_53 rfl (lv_at hl 3 rfl) ?_
              refine ti_get (ci := 10) (k := 38) (N := 67) (T := TX10) (v := .ref (A 60 39)) C hw iw_10 rfl ob_60 (by decide) (by decide) fl_X10_81 rfl rfl dX10_decree_54 ?_
              refine lv_iconst (v := 0) hx hb dX10_decree_57 (by decide) ?_
              refine ti_iald (ci := 10) (k := 38) (n := 23) C hw ob_60 (by decide) (fun _ _ => rfl) (by unfold vp_in; decide) dX10_decree_58 ?_
              refine ti_top (y := 0) ((congrFun ((tY_uI _ _ _ _ _ _).trans rfl) 0).trans ma0) ?_
              refine lv_icmp_ge (tgt := 104) hx hb dX10_decree_59 (by decide) (fun c_59 => ?_) (fun c => absurd (by decide) c)
              refine lv_iconst (v := (-1)) hx hb dX10_decree_104 (by decide) ?_
              refine lv_istore (lv' := [(6, .int (-1)), (5, .int 0), (4, .int 0), (0, .ref (A 60 0)), (1, .int z), (2, .int z2), (3, .int z3)]) hx hb dX10_decree_105 hl (by decide) rfl (fun ls hl => ?_)
              refine lv_iconst (v := 0) hx hb dX10_decree_107 (by decide) ?_
              refine lv_istore (lv' := [(7, .int 0), (6, .int (-1)), (5, .int 0), (4, .int 0), (0, .ref (A 60 0)), (1, .int z), (2, .int z2), (3, .int z3)]) hx hb dX10_decree_108 hl (by decide) rfl (fun ls hl => ?_)
              refine lv_iconst (v := 0) hx hb dX10_decree_110 (by decide) ?_
              refine lv_istore (lv' := [(8, .int 0), (7, .int 0), (6, .int (-1)), (5, .int 0), (4, .int 0), (0, .ref (A 60 0)), (1, .int z), (2, .int z2), (3, .int z3)]) hx hb dX10_decree_111 hl (by decide) rfl (fun ls hl => ?_)
              refine lv_iload hx hb dX10_decree_113 (lv_at hl 0 rfl) ?_
              refine lv_sipush (v := 256) hx hb dX10_decree_115 (by decide) ?_
              refine lv_icmp_ge (tgt := 226) hx hb dX10_decree_118 (by decide) (fun c => absurd c (by decide)) (fun c_118 => ?_)
              refine lv_iload hx hb dX10_decree_121 (lv_at hl 0 rfl) ?_
              refine lv_iload hx hb dX10_decree_123 (lv_at hl 4 rfl) ?_
              refine lv_iconst (v := (-1)) hx hb dX10_decree_125 (by decide) ?_
              refine lv_ixor hx hb dX10_decree_126 ?_
              refine ti_top (y := (-1)) (by decide) ?_
              refine lv_iand hx hb dX10_decree_127 ?_
              refine ti_top (y := 0) (by decide) ?_
              refine lv_if_ne (tgt := 220) hx hb dX10_decree_128 (by decide) (fun c => absurd (by decide) c) (fun c_128 => ?_)
              refine lv_iload hx hb dX10_decree_131 (lv_at hl 3 rfl) ?_
              refine lv_iload hx hb dX10_decree_133 (lv_at hl 0 rfl) ?_
              refine ti_callSi (av := [.int 0]) C hw (k_X10_bitsOf l D A cy hJ (uI M 60 0 0) ) ⟨ml_X10_448, ys_X10_bitsOf, yi_X10_bitsOf, yc_X10_bitsOf⟩ yd_X10_bitsOf rfl hl.1 (Nat.le_of_ble_eq_true rfl) ⟨by decide, by decide⟩ ⟨Nat.zero_le _, Nat.zero_le _⟩ dX10_decree_135 (fun r_1 M_2 H locs hp_2 hw => ?_)
              obtain ⟨hm, rfl⟩ := hp_2
              have hw := hw.to hm
              refine lv_iadd hx hb dX10_decree_138 ?_
              refine ti_top (y := 0) (by decide) ?_
              refine lv_iload_n hx hb dX10_decree_139 rfl (lv_at hl 7 rfl) ?_
              refine lv_icmp_ge (tgt := 146) hx hb dX10_decree_140 (by decide) (fun c_140 => ?_) (fun c_140 => ?_)
              · refine lv_iconst (v := 0) hx hb dX10_decree_146 (by decide) ?_
                refine lv_istore (lv' := [(9, .int 0), (8, .int 0), (7, .int 0), (6, .int (-1)), (5, .int 0), (4, .int 0), (0, .ref (A 60 0)), (1, .int z), (2, .int z2), (3, .int z3)]) hx hb dX10_decree_147 hl (by decide) rfl (fun ls hl => ?_)
                refine lv_iconst (v := 0) hx hb dX10_decree_149 (by decide) ?_
                refine lv_istore (lv' := [(10, .int 0), (9, .int 0), (8, .int 0), (7, .int 0), (6, .int (-1)), (5, .int 0), (4, .int 0), (0, .ref (A 60 0)), (1, .int z), (2, .int z2), (3, .int z3)]) hx hb dX10_decree_150 hl (by decide) rfl (fun ls hl => ?_)
                refine lv_iload hx hb dX10_decree_152 (lv_at hl 0 rfl) ?_
                refine lv_aload_n hx hb dX10_decree_154 rfl (lv_at hl 7 rfl) ?_
                refine ti_get (ci := 10) (k := 3) (N := 67) (T := TX10) (v := .ref (A 60 4)) C hw iw_10 rfl ob_60 (by decide) (by decide) fl_X10_13 rfl rfl dX10_decree_155 ?_
                refine lv_iconst (v := 0) hx hb dX10_decree_158 (by decide) ?_
                refine ti_iald (ci := 10) (k := 3) (n := 22) C hw ob_60 (by decide) (fun _ _ => rfl) (by unfold vp_in; decide) dX10_decree_159 ?_
                refine ti_top (y := 0) ((congrFun ((tY_uI _ _ _ _ _ _).trans rfl) 0).trans n0) ?_
                refine lv_icmp_ge (tgt := 196) hx hb dX10_decree_160 (by decide) (fun c_160 => ?_) (fun c => absurd (by decide) c)
                refine lv_iload hx hb dX10_decree_196 (lv_at hl 4 rfl) ?_
                refine lv_iconst (v := (-1)) hx hb dX10_decree_198 (by decide) ?_
                refine lv_icmp_eq (tgt := 212) hx hb dX10_decree_199 (by decide) (fun c_199 => ?_) (fun c => absurd (by decide) c)
                refine lv_iload hx hb dX10_decree_212 (lv_at hl 2 rfl) ?_
                refine lv_istore (lv' := [(6, .int 0), (10, .int 0), (9, .int 0), (8, .int 0), (7, .int 0), (5, .int 0), (4, .int 0), (0, .ref (A 60 0)), (1, .int z), (2, .int z2), (3, .int z3)]) hx hb dX10_decree_214 hl (by decide) rfl (fun ls hl => ?_)
                refine lv_iload hx hb dX10_decree_216 (lv_at hl 2 rfl) ?_
                refine lv_istore (lv' := [(7, .int 0), (6, .int 0), (10, .int 0), (9, .int 0), (8, .int 0), (5, .int 0), (4, .int 0), (0, .ref (A 60 0)), (1, .int z), (2, .int z2), (3, .int z3)]) hx hb dX10_decree_218 hl (by decide) rfl (fun ls hl => ?_)
                refine lv_iinc (v := 1) (lv' := [(8, .int 1), (7, .int 0), (6, .int 0), (10, .int 0), (9, .int 0), (5, .int 0), (4, .int 0), (0, .ref (A 60 0)), (1, .int z), (2, .int z2), (3, .int z3)]) hx hb dX10_decree_220 hl (k := 4) rfl (by decide) (by decide) rfl (fun ls hl => ?_)
                refine lv_goto (tgt := 113) hx hb dX10_decree_223 (by decide) ?_
                suffices hloop : ∀ (n : Nat) (i : Nat) (Mx : ti_M) (H : Heap) (locs : List Loc) (ls : Array Slot), (256 < i + n) → (1 ≤ i) → (i ≤ 256) → ti_H ti_LM D A cy H0 Mx H locs → lv_has ls 11 [(8, .int (nI i)), (7, .int 0), (6, .int 0), (5, .int 0), (4, .int 0), (0, .ref (A 60 0)), (1, .int z), (2, .int z2), (3, .int z3)] → W p l e (ti_rm 1) s m args below meth c H locs 0 0 Q (F0 m 113 ls []) from hloop 256 1 (uI M 60 0 0) _ _ _ (by omega) (by omega) (by omega) hw (lv_sub hl [0, 1, 2, 5, 6, 7, 8, 9, 10] rfl)
                clear hw hl ls
                intro n
                induction n with
                | zero => intro i Mx H locs ls hfuel hi1 hi2 hw hl; exact absurd hfuel (by omega)
                | succ n ih =>
                  intro i Mx H locs ls hfuel hi1 hi2 hw hl
                  refine lv_iload hx hb dX10_decree_113 (lv_at hl 0 rfl) ?_
                  refine lv_sipush (v := 256) hx hb dX10_decree_115 (by decide) ?_
                  refine lv_icmp_ge (tgt := 226) hx hb dX10_decree_118 (by decide) (fun c_118 => ?_) (fun c_118 => ?_)
                  · refine lv_iload hx hb dX10_decree_226 (lv_at hl 2 rfl) ?_
                    refine lv_iconst (v := (-1)) hx hb dX10_decree_228 (by decide) ?_
                    refine lv_icmp_ne (tgt := 237) hx hb dX10_decree_229 (by decide) (fun c_229 => ?_) (fun c => absurd c (by decide))
                    refine lv_iload_n hx hb dX10_decree_237 rfl (lv_at hl 8 rfl) ?_
                    refine lv_if_ne (tgt := 246) hx hb dX10_decree_238 (by decide) (fun c_238 => ?_) (fun c_238 => ?_)
                    · refine lv_iload hx hb dX10_decree_246 (lv_at hl 2 rfl) ?_
                      exact hQ _ _ _ _ _ _ hw rfl (by unfold pf_decree pf_decree1; (try simp only [Int32.lt_iff_toInt_lt, Int32.le_iff_toInt_le, ← Int32.toInt_inj, ti_l0, ti_l1, ti_l2, ti_l3, ti_l5, ti_l7, ti_l8, ti_l24, ti_l59, ti_l60, ti_l119, ti_l120, ti_lm1, ti_lm2] at c_7); (try simp only [Int32.lt_iff_toInt_lt, Int32.le_iff_toInt_le, ← Int32.toInt_inj, ti_l0, ti_l1, ti_l2, ti_l3, ti_l5, ti_l7, ti_l8, ti_l24, ti_l59, ti_l60, ti_l119, ti_l120, ti_lm1, ti_lm2] at c_13); (try simp only [Int32.lt_iff_toInt_lt, Int32.le_iff_toInt_le, ← Int32.toInt_inj, ti_l0, ti_l1, ti_l2, ti_l3, ti_l5, ti_l7, ti_l8, ti_l24, ti_l59, ti_l60, ti_l119, ti_l120, ti_lm1, ti_lm2] at c_17); (try simp only [Int32.lt_iff_toInt_lt, Int32.le_iff_toInt_le, ← Int32.toInt_inj, ti_l0, ti_l1, ti_l2, ti_l3, ti_l5, ti_l7, ti_l8, ti_l24, ti_l59, ti_l60, ti_l119, ti_l120, ti_lm1, ti_lm2] at c_22); (try simp only [Int32.lt_iff_toInt_lt, Int32.le_iff_toInt_le, ← Int32.toInt_inj, ti_l0, ti_l1, ti_l2, ti_l3, ti_l5, ti_l7, ti_l8, ti_l24, ti_l59, ti_l60, ti_l119, ti_l120, ti_lm1, ti_lm2] at c_26); (try simp only [Int32.lt_iff_toInt_lt, Int32.le_iff_toInt_le, ← Int32.toInt_inj, ti_l0, ti_l1, ti_l2, ti_l3, ti_l5, ti_l7, ti_l8, ti_l24, ti_l59, ti_l60, ti_l119, ti_l120, ti_lm1, ti_lm2] at c_31); (try simp only [Int32.lt_iff_toInt_lt, Int32.le_iff_toInt_le, ← Int32.toInt_inj, ti_l0, ti_l1, ti_l2, ti_l3, ti_l5, ti_l7, ti_l8, ti_l24, ti_l59, ti_l60, ti_l119, ti_l120, ti_lm1, ti_lm2] at c_140); (try simp only [Int32.lt_iff_toInt_lt, Int32.le_iff_toInt_le, ← Int32.toInt_inj, ti_l0, ti_l1, ti_l2, ti_l3, ti_l5, ti_l7, ti_l8, ti_l24, ti_l59, ti_l60, ti_l119, ti_l120, ti_lm1, ti_lm2]); (repeat' split) <;> first | rfl | omega) dX10_decree_248
                    · refine lv_iload hx hb dX10_decree_241 (lv_at hl 1 rfl) ?_
                      refine lv_goto (tgt := 248) hx hb dX10_decree_243 (by decide) ?_
                      exact hQ _ _ _ _ _ _ hw rfl (by unfold pf_decree pf_decree1; (try simp only [Int32.lt_iff_toInt_lt, Int32.le_iff_toInt_le, ← Int32.toInt_inj, ti_l0, ti_l1, ti_l2, ti_l3, ti_l5, ti_l7, ti_l8, ti_l24, ti_l59, ti_l60, ti_l119, ti_l120, ti_lm1, ti_lm2] at c_7); (try simp only [Int32.lt_iff_toInt_lt, Int32.le_iff_toInt_le, ← Int32.toInt_inj, ti_l0, ti_l1, ti_l2, ti_l3, ti_l5, ti_l7, ti_l8, ti_l24, ti_l59, ti_l60, ti_l119, ti_l120, ti_lm1, ti_lm2] at c_13); (try simp only [Int32.lt_iff_toInt_lt, Int32.le_iff_toInt_le, ← Int32.toInt_inj, ti_l0, ti_l1, ti_l2, ti_l3, ti_l5, ti_l7, ti_l8, ti_l24, ti_l59, ti_l60, ti_l119, ti_l120, ti_lm1, ti_lm2] at c_17); (try simp only [Int32.lt_iff_toInt_lt, Int32.le_iff_toInt_le, ← Int32.toInt_inj, ti_l0, ti_l1, ti_l2, ti_l3, ti_l5, ti_l7, ti_l8, ti_l24, ti_l59, ti_l60, ti_l119, ti_l120, ti_lm1, ti_lm2] at c_22); (try simp only [Int32.lt_iff_toInt_lt, Int32.le_iff_toInt_le, ← Int32.toInt_inj, ti_l0, ti_l1, ti_l2, ti_l3, ti_l5, ti_l7, ti_l8, ti_l24, ti_l59, ti_l60, ti_l119, ti_l120, ti_lm1, ti_lm2] at c_26); (try simp only [Int32.lt_iff_toInt_lt, Int32.le_iff_toInt_le, ← Int32.toInt_inj, ti_l0, ti_l1, ti_l2, ti_l3, ti_l5, ti_l7, ti_l8, ti_l24, ti_l59, ti_l60, ti_l119, ti_l120, ti_lm1, ti_lm2] at c_31); (try simp only [Int32.lt_iff_toInt_lt, Int32.le_iff_toInt_le, ← Int32.toInt_inj, ti_l0, ti_l1, ti_l2, ti_l3, ti_l5, ti_l7, ti_l8, ti_l24, ti_l59, ti_l60, ti_l119, ti_l120, ti_lm1, ti_lm2] at c_140); (try simp only [Int32.lt_iff_toInt_lt, Int32.le_iff_toInt_le, ← Int32.toInt_inj, ti_l0, ti_l1, ti_l2, ti_l3, ti_l5, ti_l7, ti_l8, ti_l24, ti_l59, ti_l60, ti_l119, ti_l120, ti_lm1, ti_lm2]); (repeat' split) <;> first | rfl | omega) dX10_decree_248
                  · refine lv_iload hx hb dX10_decree_121 (lv_at hl 0 rfl) ?_
                    refine lv_iload hx hb dX10_decree_123 (lv_at hl 4 rfl) ?_
                    refine lv_iconst (v := (-1)) hx hb dX10_decree_125 (by decide) ?_
                    refine lv_ixor hx hb dX10_decree_126 ?_
                    refine ti_top (y := (-1)) (by decide) ?_
                    refine lv_iand hx hb dX10_decree_127 ?_
                    refine ti_top (y := nI i) (Int32.and_neg_one) ?_
                    refine lv_if_ne (tgt := 220) hx hb dX10_decree_128 (by decide) (fun c_128 => ?_) (fun c => absurd c ((nI_ne0 (by omega) (by omega))))
                    refine lv_iinc (v := nI (i + 1)) (lv' := [(8, .int (nI (i + 1))), (7, .int 0), (6, .int 0), (5, .int 0), (4, .int 0), (0, .ref (A 60 0)), (1, .int z), (2, .int z2), (3, .int z3)]) hx hb dX10_decree_220 hl (k := 0) rfl (nI_1 i) (by decide) rfl (fun ls hl => ?_)
                    refine lv_goto (tgt := 113) hx hb dX10_decree_223 (by decide) ?_
                    exact ih (i + 1) Mx _ _ _ (by omega) (by omega) (ti_256 c_118 hi2) hw (lv_sub hl [0, 1, 2, 3, 4, 5, 6, 7, 8] rfl)
              · refine lv_goto (tgt := 220) hx hb dX10_decree_143 (by decide) ?_
                refine lv_iinc (v := 1) (lv' := [(8, .int 1), (7, .int 0), (6, .int (-1)), (5, .int 0), (4, .int 0), (0, .ref (A 60 0)), (1, .int z), (2, .int z2), (3, .int z3)]) hx hb dX10_decree_220 hl (k := 0) rfl (by decide) (by decide) rfl (fun ls hl => ?_)
                refine lv_goto (tgt := 113) hx hb dX10_decree_223 (by decide) ?_
                suffices hloop : ∀ (n : Nat) (i : Nat) (Mx : ti_M) (H : Heap) (locs : List Loc) (ls : Array Slot), (256 < i + n) → (1 ≤ i) → (i ≤ 256) → ti_H ti_LM D A cy H0 Mx H locs → lv_has ls 11 [(8, .int (nI i)), (7, .int 0), (6, .int (-1)), (5, .int 0), (4, .int 0), (0, .ref (A 60 0)), (1, .int z), (2, .int z2), (3, .int z3)] → W p l e (ti_rm 1) s m args below meth c H locs 0 0 Q (F0 m 113 ls []) from hloop 256 1 (uI M 60 0 0) _ _ _ (by omega) (by omega) (by omega) hw (lv_sub hl [0, 1, 2, 3, 4, 5, 6, 7, 8] rfl)
                clear hw hl ls
                intro n
                induction n with
                | zero => intro i Mx H locs ls hfuel hi1 hi2 hw hl; exact absurd hfuel (by omega)
                | succ n ih =>
                  intro i Mx H locs ls hfuel hi1 hi2 hw hl
                  refine lv_iload hx hb dX10_decree_113 (lv_at hl 0 rfl) ?_
                  refine lv_sipush (v := 256) hx hb dX10_decree_115 (by decide) ?_
                  refine lv_icmp_ge (tgt := 226) hx hb dX10_decree_118 (by decide) (fun c_118 => ?_) (fun c_118 => ?_)
                  · refine lv_iload hx hb dX10_decree_226 (lv_at hl 2 rfl) ?_
                    refine lv_iconst (v := (-1)) hx hb dX10_decree_228 (by decide) ?_
                    refine lv_icmp_ne (tgt := 237) hx hb dX10_decree_229 (by decide) (fun c => absurd (by decide) c) (fun c_229 => ?_)
                    refine lv_bipush (v := (-2)) hx hb dX10_decree_232 (by decide) ?_
                    refine lv_goto (tgt := 248) hx hb dX10_decree_234 (by decide) ?_
                    exact hQ _ _ _ _ _ _ hw rfl (by unfold pf_decree pf_decree1; (try simp only [Int32.lt_iff_toInt_lt, Int32.le_iff_toInt_le, ← Int32.toInt_inj, ti_l0, ti_l1, ti_l2, ti_l3, ti_l5, ti_l7, ti_l8, ti_l24, ti_l59, ti_l60, ti_l119, ti_l120, ti_lm1, ti_lm2] at c_7); (try simp only [Int32.lt_iff_toInt_lt, Int32.le_iff_toInt_le, ← Int32.toInt_inj, ti_l0, ti_l1, ti_l2, ti_l3, ti_l5, ti_l7, ti_l8, ti_l24, ti_l59, ti_l60, ti_l119, ti_l120, ti_lm1, ti_lm2] at c_13); (try simp only [Int32.lt_iff_toInt_lt, Int32.le_iff_toInt_le, ← Int32.toInt_inj, ti_l0, ti_l1, ti_l2, ti_l3, ti_l5, ti_l7, ti_l8, ti_l24, ti_l59, ti_l60, ti_l119, ti_l120, ti_lm1, ti_lm2] at c_17); (try simp only [Int32.lt_iff_toInt_lt, Int32.le_iff_toInt_le, ← Int32.toInt_inj, ti_l0, ti_l1, ti_l2, ti_l3, ti_l5, ti_l7, ti_l8, ti_l24, ti_l59, ti_l60, ti_l119, ti_l120, ti_lm1, ti_lm2] at c_22); (try simp only [Int32.lt_iff_toInt_lt, Int32.le_iff_toInt_le, ← Int32.toInt_inj, ti_l0, ti_l1, ti_l2, ti_l3, ti_l5, ti_l7, ti_l8, ti_l24, ti_l59, ti_l60, ti_l119, ti_l120, ti_lm1, ti_lm2] at c_26); (try simp only [Int32.lt_iff_toInt_lt, Int32.le_iff_toInt_le, ← Int32.toInt_inj, ti_l0, ti_l1, ti_l2, ti_l3, ti_l5, ti_l7, ti_l8, ti_l24, ti_l59, ti_l60, ti_l119, ti_l120, ti_lm1, ti_lm2] at c_31); (try simp only [Int32.lt_iff_toInt_lt, Int32.le_iff_toInt_le, ← Int32.toInt_inj, ti_l0, ti_l1, ti_l2, ti_l3, ti_l5, ti_l7, ti_l8, ti_l24, ti_l59, ti_l60, ti_l119, ti_l120, ti_lm1, ti_lm2] at c_140); (try simp only [Int32.lt_iff_toInt_lt, Int32.le_iff_toInt_le, ← Int32.toInt_inj, ti_l0, ti_l1, ti_l2, ti_l3, ti_l5, ti_l7, ti_l8, ti_l24, ti_l59, ti_l60, ti_l119, ti_l120, ti_lm1, ti_lm2]); (repeat' split) <;> first | rfl | omega) dX10_decree_248
                  · refine lv_iload hx hb dX10_decree_121 (lv_at hl 0 rfl) ?_
                    refine lv_iload hx hb dX10_decree_123 (lv_at hl 4 rfl) ?_
                    refine lv_iconst (v := (-1)) hx hb dX10_decree_125 (by decide) ?_
                    refine lv_ixor hx hb dX10_decree_126 ?_
                    refine ti_top (y := (-1)) (by decide) ?_
                    refine lv_iand hx hb dX10_decree_127 ?_
                    refine ti_top (y := nI i) (Int32.and_neg_one) ?_
                    refine lv_if_ne (tgt := 220) hx hb dX10_decree_128 (by decide) (fun c_128 => ?_) (fun c => absurd c ((nI_ne0 (by omega) (by omega))))
                    refine lv_iinc (v := nI (i + 1)) (lv' := [(8, .int (nI (i + 1))), (7, .int 0), (6, .int (-1)), (5, .int 0), (4, .int 0), (0, .ref (A 60 0)), (1, .int z), (2, .int z2), (3, .int z3)]) hx hb dX10_decree_220 hl (k := 0) rfl (nI_1 i) (by decide) rfl (fun ls hl => ?_)
                    refine lv_goto (tgt := 113) hx hb dX10_decree_223 (by decide) ?_
                    exact ih (i + 1) Mx _ _ _ (by omega) (by omega) (ti_256 c_118 hi2) hw (lv_sub hl [0, 1, 2, 3, 4, 5, 6, 7, 8] rfl)
            · refine lv_iconst (v := (-1)) hx hb dX10_decree_34 (by decide) ?_
              exact hQ _ _ _ _ _ _ hw rfl (by unfold pf_decree pf_decree1; (try simp only [Int32.lt_iff_toInt_lt, Int32.le_iff_toInt_le, ← Int32.toInt_inj, ti_l0, ti_l1, ti_l2, ti_l3, ti_l5, ti_l7, ti_l8, ti_l24, ti_l59, ti_l60, ti_l119, ti_l120, ti_lm1, ti_lm2] at c_7); (try simp only [Int32.lt_iff_toInt_lt, Int32.le_iff_toInt_le, ← Int32.toInt_inj, ti_l0, ti_l1, ti_l2, ti_l3, ti_l5, ti_l7, ti_l8, ti_l24, ti_l59, ti_l60, ti_l119, ti_l120, ti_lm1, ti_lm2] at c_13); (try simp only [Int32.lt_iff_toInt_lt, Int32.le_iff_toInt_le, ← Int32.toInt_inj, ti_l0, ti_l1, ti_l2, ti_l3, ti_l5, ti_l7, ti_l8, ti_l24, ti_l59, ti_l60, ti_l119, ti_l120, ti_lm1, ti_lm2] at c_17); (try simp only [Int32.lt_iff_toInt_lt, Int32.le_iff_toInt_le, ← Int32.toInt_inj, ti_l0, ti_l1, ti_l2, ti_l3, ti_l5, ti_l7, ti_l8, ti_l24, ti_l59, ti_l60, ti_l119, ti_l120, ti_lm1, ti_lm2] at c_22); (try simp only [Int32.lt_iff_toInt_lt, Int32.le_iff_toInt_le, ← Int32.toInt_inj, ti_l0, ti_l1, ti_l2, ti_l3, ti_l5, ti_l7, ti_l8, ti_l24, ti_l59, ti_l60, ti_l119, ti_l120, ti_lm1, ti_lm2] at c_26); (try simp only [Int32.lt_iff_toInt_lt, Int32.le_iff_toInt_le, ← Int32.toInt_inj, ti_l0, ti_l1, ti_l2, ti_l3, ti_l5, ti_l7, ti_l8, ti_l24, ti_l59, ti_l60, ti_l119, ti_l120, ti_lm1, ti_lm2] at c_31); (try simp only [Int32.lt_iff_toInt_lt, Int32.le_iff_toInt_le, ← Int32.toInt_inj, ti_l0, ti_l1, ti_l2, ti_l3, ti_l5, ti_l7, ti_l8, ti_l24, ti_l59, ti_l60, ti_l119, ti_l120, ti_lm1, ti_lm2] at c_140); (try simp only [Int32.lt_iff_toInt_lt, Int32.le_iff_toInt_le, ← Int32.toInt_inj, ti_l0, ti_l1, ti_l2, ti_l3, ti_l5, ti_l7, ti_l8, ti_l24, ti_l59, ti_l60, ti_l119, ti_l120, ti_lm1, ti_lm2]); (repeat' split) <;> first | rfl | omega) dX10_decree_35
theorem ti_z0 {tt fs : Int32} (hfs : (tt = 0 → fs = (-2)) ∧ (¬ tt = 0 → fs = 0)) (c : fs = (-2)) : tt = 0 := by
  by_cases h : tt = 0
  · exact h
  · have := hfs.2 h; rw [this] at c; exact absurd c (by decide)
theorem ti_empM {z z2 tt fs : Int32} (h1 : 1 ≤ z.toInt) (h2 : z.toInt ≤ 60) (h3 : 0 ≤ z2.toInt) (h4 : z2.toInt ≤ 1) (h0 : 0 ≤ tt.toInt ∧ tt.toInt ≤ z.toInt) (c : z ≤ tt) (hfs : (tt = 0 → fs = (-2)) ∧ (¬ tt = 0 → fs = 0)) : (z2 = 0 → tt = pf_empty z z2) ∧ (¬ z2 = 0 → fs = pf_empty z z2) := by
  have h := ti_emp h0 h1 c hfs
  unfold pf_empty pf_empty1
  rw [if_neg (by rw [Int32.lt_iff_toInt_lt, ti_l1]; omega), if_neg (by rw [Int32.lt_iff_toInt_lt, ti_l60]; omega), if_neg (by rw [Int32.lt_iff_toInt_lt, ti_l0]; omega), if_neg (by rw [Int32.lt_iff_toInt_lt, ti_l1]; omega)]
  exact ⟨fun q => by rw [if_pos q]; exact h.1, fun q => by rw [if_neg q]; exact h.2⟩
set_option maxHeartbeats 4000000 in
set_option maxRecDepth 100000 in
theorem k_X10_empty (l : Launch) (D : va_G) (A : Nat → Nat → Nat) (cy : Nat → ClassId) (hJ : ti_inj ti_LM A) (M : ti_M) (hF : ti_FM M) (z : Int32) (z2 : Int32) : ti_Ki l yX10_empty cX10_empty 6 (some .int) 3 ti_LM D A cy M [.ref (A 60 0), .int z, .int z2] (fun r _ => r = pf_empty z z2) := by
  refine ti_eI yp_X10_empty hJ ti_LM_nd (Nat.le_of_ble_eq_true rfl) ?_
  intro p e s m args below meth c Q H0 C hQ hw ls hl
  have hx := C.1
  have hb := C.2.1
  have hl : lv_has ls 6 [(0, .ref (A 60 0)), (1, .int z), (2, .int z2)] := hl
  obtain ⟨m_taped, m_lf, m_lp, m_hi, m_un, m_st, m_kb, n0, n3, n5, n7, mi0, wa0, co0, ma0, pw0, pw1, pw2, sf, sto⟩ := id hF
  refine lv_aload_n hx hb dX10_empty_0 rfl (lv_at hl 0 rfl) ?_
  refine lv_iconst (v := 0) hx hb dX10_empty_1 (by decide) ?_
  refine ti_putI (ci := 10) (k := 0) (N := 67) (T := TX10) C hw iw_10 tyX10 tyX10_ok nmX10 rfl ob_60 (by decide) (by decide) fl_X10_154 rfl rfl rfl rfl (fn_10 A _) fs_10_0 dX10_empty_2 (fun H locs hw => ?_)
  refine lv_aload_n hx hb dX10_empty_5 rfl (lv_at hl 0 rfl) ?_
  refine lv_iload_n hx hb dX10_empty_6 rfl (lv_at hl 1 rfl) ?_
  refine ti_callVi (ci := 10) (av := [.int z]) C hw (k_X10_isLong l D A cy hJ (uI M 60 0 0) ⟨((tI_k _ _ _ _ (by decide)).trans m_taped), ((tI_k _ _ _ _ (by decide)).trans m_lf), ((tI_k _ _ _ _ (by decide)).trans m_lp), ((tI_k _ _ _ _ (by decide)).trans m_hi), ((tI_k _ _ _ _ (by decide)).trans m_un), ((tI_k _ _ _ _ (by decide)).trans m_st), ((tI_k _ _ _ _ (by decide)).trans m_kb), ((congrFun ((tY_uI _ _ _ _ _ _).trans rfl) 0).trans n0), ((congrFun ((tY_uI _ _ _ _ _ _).trans rfl) 3).trans n3), ((congrFun ((tY_uI _ _ _ _ _ _).trans rfl) 5).trans n5), ((congrFun ((tY_uI _ _ _ _ _ _).trans rfl) 7).trans n7), ((congrFun ((tY_uI _ _ _ _ _ _).trans rfl) 0).trans mi0), ((congrFun ((tY_uI _ _ _ _ _ _).trans rfl) 0).trans wa0), ((congrFun ((tY_uI _ _ _ _ _ _).trans rfl) 0).trans co0), ((congrFun ((tY_uI _ _ _ _ _ _).trans rfl) 0).trans ma0), ((congrFun ((tY_uI _ _ _ _ _ _).trans rfl) 0).trans pw0), ((congrFun ((tY_uI _ _ _ _ _ _).trans rfl) 1).trans pw1), ((congrFun ((tY_uI _ _ _ _ _ _).trans rfl) 2).trans pw2), sf, sto⟩ z) ⟨ml_X10_461, ym_X10_isLong, yv_X10_isLong, yi_X10_isLong, yc_X10_isLong⟩ yd_X10_isLong ob_60 (by decide) rfl rfl hl.1 (Nat.le_of_ble_eq_true rfl) ⟨by decide, by decide⟩ ⟨Nat.zero_le _, Nat.zero_le _⟩ dX10_empty_7 (fun r_1 M_2 H locs hp_2 hw => ?_)
  obtain ⟨hm, hz⟩ := hp_2
  have hw := hw.to hm
  rcases hz with ⟨rfl, g_3, g_4⟩ | ⟨rfl, g_5⟩
  · refine lv_if_eq (tgt := 22) hx hb dX10_empty_10 (by decide) (fun c => absurd c (by decide)) (fun c_10 => ?_)
    refine lv_iload_n hx hb dX10_empty_13 rfl (lv_at hl 2 rfl) ?_
    refine lv_if_lt (tgt := 22) hx hb dX10_empty_14 (by decide) (fun c_14 => ?_) (fun c_14 => ?_)
    · refine lv_iconst (v := (-1)) hx hb dX10_empty_22 (by decide) ?_
      exact hQ _ _ _ _ _ _ hw rfl (by unfold pf_empty; (try simp only [Int32.lt_iff_toInt_lt, Int32.le_iff_toInt_le, ← Int32.toInt_inj, ti_l0, ti_l1, ti_l2, ti_l3, ti_l5, ti_l7, ti_l8, ti_l24, ti_l59, ti_l60, ti_l119, ti_l120, ti_lm1, ti_lm2] at g_3); (try simp only [Int32.lt_iff_toInt_lt, Int32.le_iff_toInt_le, ← Int32.toInt_inj, ti_l0, ti_l1, ti_l2, ti_l3, ti_l5, ti_l7, ti_l8, ti_l24, ti_l59, ti_l60, ti_l119, ti_l120, ti_lm1, ti_lm2] at g_4); (try simp only [Int32.lt_iff_toInt_lt, Int32.le_iff_toInt_le, ← Int32.toInt_inj, ti_l0, ti_l1, ti_l2, ti_l3, ti_l5, ti_l7, ti_l8, ti_l24, ti_l59, ti_l60, ti_l119, ti_l120, ti_lm1, ti_lm2] at c_10); (try simp only [Int32.lt_iff_toInt_lt, Int32.le_iff_toInt_le, ← Int32.toInt_inj, ti_l0, ti_l1, ti_l2, ti_l3, ti_l5, ti_l7, ti_l8, ti_l24, ti_l59, ti_l60, ti_l119, ti_l120, ti_lm1, ti_lm2] at c_14); (try simp only [Int32.lt_iff_toInt_lt, Int32.le_iff_toInt_le, ← Int32.toInt_inj, ti_l0, ti_l1, ti_l2, ti_l3, ti_l5, ti_l7, ti_l8, ti_l24, ti_l59, ti_l60, ti_l119, ti_l120, ti_lm1, ti_lm2]); (repeat' split) <;> first | rfl | omega) dX10_empty_23
    · refine lv_iload_n hx hb dX10_empty_17 rfl (lv_at hl 2 rfl) ?_
      refine lv_iconst (v := 1) hx hb dX10_empty_18 (by decide) ?_
      refine lv_icmp_le (tgt := 24) hx hb dX10_empty_19 (by decide) (fun c_19 => ?_) (fun c_19 => ?_)
      · have hz1 : 1 ≤ z.toInt := (by (try simp only [Int32.lt_iff_toInt_lt, Int32.le_iff_toInt_le, ← Int32.toInt_inj, ti_l0, ti_l1, ti_l2, ti_l3, ti_l5, ti_l7, ti_l8, ti_l24, ti_l59, ti_l60, ti_l119, ti_l120, ti_lm1, ti_lm2] at g_3); (try simp only [Int32.lt_iff_toInt_lt, Int32.le_iff_toInt_le, ← Int32.toInt_inj, ti_l0, ti_l1, ti_l2, ti_l3, ti_l5, ti_l7, ti_l8, ti_l24, ti_l59, ti_l60, ti_l119, ti_l120, ti_lm1, ti_lm2] at g_4); (try simp only [Int32.lt_iff_toInt_lt, Int32.le_iff_toInt_le, ← Int32.toInt_inj, ti_l0, ti_l1, ti_l2, ti_l3, ti_l5, ti_l7, ti_l8, ti_l24, ti_l59, ti_l60, ti_l119, ti_l120, ti_lm1, ti_lm2] at c_10); (try simp only [Int32.lt_iff_toInt_lt, Int32.le_iff_toInt_le, ← Int32.toInt_inj, ti_l0, ti_l1, ti_l2, ti_l3, ti_l5, ti_l7, ti_l8, ti_l24, ti_l59, ti_l60, ti_l119, ti_l120, ti_lm1, ti_lm2] at c_14); (try simp only [Int32.lt_iff_toInt_lt, Int32.le_iff_toInt_le, ← Int32.toInt_inj, ti_l0, ti_l1, ti_l2, ti_l3, ti_l5, ti_l7, ti_l8, ti_l24, ti_l59, ti_l60, ti_l119, ti_l120, ti_lm1, ti_lm2] at c_19); (try simp only [Int32.lt_iff_toInt_lt, Int32.le_iff_toInt_le, ← Int32.toInt_inj, ti_l0, ti_l1, ti_l2, ti_l3, ti_l5, ti_l7, ti_l8, ti_l24, ti_l59, ti_l60, ti_l119, ti_l120, ti_lm1, ti_lm2]); omega)
        have hz2 : z.toInt ≤ 60 := (by (try simp only [Int32.lt_iff_toInt_lt, Int32.le_iff_toInt_le, ← Int32.toInt_inj, ti_l0, ti_l1, ti_l2, ti_l3, ti_l5, ti_l7, ti_l8, ti_l24, ti_l59, ti_l60, ti_l119, ti_l120, ti_lm1, ti_lm2] at g_3); (try simp only [Int32.lt_iff_toInt_lt, Int32.le_iff_toInt_le, ← Int32.toInt_inj, ti_l0, ti_l1, ti_l2, ti_l3, ti_l5, ti_l7, ti_l8, ti_l24, ti_l59, ti_l60, ti_l119, ti_l120, ti_lm1, ti_lm2] at g_4); (try simp only [Int32.lt_iff_toInt_lt, Int32.le_iff_toInt_le, ← Int32.toInt_inj, ti_l0, ti_l1, ti_l2, ti_l3, ti_l5, ti_l7, ti_l8, ti_l24, ti_l59, ti_l60, ti_l119, ti_l120, ti_lm1, ti_lm2] at c_10); (try simp only [Int32.lt_iff_toInt_lt, Int32.le_iff_toInt_le, ← Int32.toInt_inj, ti_l0, ti_l1, ti_l2, ti_l3, ti_l5, ti_l7, ti_l8, ti_l24, ti_l59, ti_l60, ti_l119, ti_l120, ti_lm1, ti_lm2] at c_14); (try simp only [Int32.lt_iff_toInt_lt, Int32.le_iff_toInt_le, ← Int32.toInt_inj, ti_l0, ti_l1, ti_l2, ti_l3, ti_l5, ti_l7, ti_l8, ti_l24, ti_l59, ti_l60, ti_l119, ti_l120, ti_lm1, ti_lm2] at c_19); (try simp only [Int32.lt_iff_toInt_lt, Int32.le_iff_toInt_le, ← Int32.toInt_inj, ti_l0, ti_l1, ti_l2, ti_l3, ti_l5, ti_l7, ti_l8, ti_l24, ti_l59, ti_l60, ti_l119, ti_l120, ti_lm1, ti_lm2]); omega)
        have hz3 : 0 ≤ z2.toInt := (by (try simp only [Int32.lt_iff_toInt_lt, Int32.le_iff_toInt_le, ← Int32.toInt_inj, ti_l0, ti_l1, ti_l2, ti_l3, ti_l5, ti_l7, ti_l8, ti_l24, ti_l59, ti_l60, ti_l119, ti_l120, ti_lm1, ti_lm2] at g_3); (try simp only [Int32.lt_iff_toInt_lt, Int32.le_iff_toInt_le, ← Int32.toInt_inj, ti_l0, ti_l1, ti_l2, ti_l3, ti_l5, ti_l7, ti_l8, ti_l24, ti_l59, ti_l60, ti_l119, ti_l120, ti_lm1, ti_lm2] at g_4); (try simp only [Int32.lt_iff_toInt_lt, Int32.le_iff_toInt_le, ← Int32.toInt_inj, ti_l0, ti_l1, ti_l2, ti_l3, ti_l5, ti_l7, ti_l8, ti_l24, ti_l59, ti_l60, ti_l119, ti_l120, ti_lm1, ti_lm2] at c_10); (try simp only [Int32.lt_iff_toInt_lt, Int32.le_iff_toInt_le, ← Int32.toInt_inj, ti_l0, ti_l1, ti_l2, ti_l3, ti_l5, ti_l7, ti_l8, ti_l24, ti_l59, ti_l60, ti_l119, ti_l120, ti_lm1, ti_lm2] at c_14); (try simp only [Int32.lt_iff_toInt_lt, Int32.le_iff_toInt_le, ← Int32.toInt_inj, ti_l0, ti_l1, ti_l2, ti_l3, ti_l5, ti_l7, ti_l8, ti_l24, ti_l59, ti_l60, ti_l119, ti_l120, ti_lm1, ti_lm2] at c_19); (try simp only [Int32.lt_iff_toInt_lt, Int32.le_iff_toInt_le, ← Int32.toInt_inj, ti_l0, ti_l1, ti_l2, ti_l3, ti_l5, ti_l7, ti_l8, ti_l24, ti_l59, ti_l60, ti_l119, ti_l120, ti_lm1, ti_lm2]); omega)
        have hz4 : z2.toInt ≤ 1 := (by (try simp only [Int32.lt_iff_toInt_lt, Int32.le_iff_toInt_le, ← Int32.toInt_inj, ti_l0, ti_l1, ti_l2, ti_l3, ti_l5, ti_l7, ti_l8, ti_l24, ti_l59, ti_l60, ti_l119, ti_l120, ti_lm1, ti_lm2] at g_3); (try simp only [Int32.lt_iff_toInt_lt, Int32.le_iff_toInt_le, ← Int32.toInt_inj, ti_l0, ti_l1, ti_l2, ti_l3, ti_l5, ti_l7, ti_l8, ti_l24, ti_l59, ti_l60, ti_l119, ti_l120, ti_lm1, ti_lm2] at g_4); (try simp only [Int32.lt_iff_toInt_lt, Int32.le_iff_toInt_le, ← Int32.toInt_inj, ti_l0, ti_l1, ti_l2, ti_l3, ti_l5, ti_l7, ti_l8, ti_l24, ti_l59, ti_l60, ti_l119, ti_l120, ti_lm1, ti_lm2] at c_10); (try simp only [Int32.lt_iff_toInt_lt, Int32.le_iff_toInt_le, ← Int32.toInt_inj, ti_l0, ti_l1, ti_l2, ti_l3, ti_l5, ti_l7, ti_l8, ti_l24, ti_l59, ti_l60, ti_l119, ti_l120, ti_lm1, ti_lm2] at c_14); (try simp only [Int32.lt_iff_toInt_lt, Int32.le_iff_toInt_le, ← Int32.toInt_inj, ti_l0, ti_l1, ti_l2, ti_l3, ti_l5, ti_l7, ti_l8, ti_l24, ti_l59, ti_l60, ti_l119, ti_l120, ti_lm1, ti_lm2] at c_19); (try simp only [Int32.lt_iff_toInt_lt, Int32.le_iff_toInt_le, ← Int32.toInt_inj, ti_l0, ti_l1, ti_l2, ti_l3, ti_l5, ti_l7, ti_l8, ti_l24, ti_l59, ti_l60, ti_l119, ti_l120, ti_lm1, ti_lm2]); omega)
        refine lv_aload_n hx hb dX10_empty_24 rfl (lv_at hl 0 rfl) ?_
        refine ti_callVv (ci := 10) (av := []) C hw (k_X10_lays l D A cy hJ (uI M 60 0 0) ⟨((tI_k _ _ _ _ (by decide)).trans m_taped), ((tI_k _ _ _ _ (by decide)).trans m_lf), ((tI_k _ _ _ _ (by decide)).trans m_lp), ((tI_k _ _ _ _ (by decide)).trans m_hi), ((tI_k _ _ _ _ (by decide)).trans m_un), ((tI_k _ _ _ _ (by decide)).trans m_st), ((tI_k _ _ _ _ (by decide)).trans m_kb), ((congrFun ((tY_uI _ _ _ _ _ _).trans rfl) 0).trans n0), ((congrFun ((tY_uI _ _ _ _ _ _).trans rfl) 3).trans n3), ((congrFun ((tY_uI _ _ _ _ _ _).trans rfl) 5).trans n5), ((congrFun ((tY_uI _ _ _ _ _ _).trans rfl) 7).trans n7), ((congrFun ((tY_uI _ _ _ _ _ _).trans rfl) 0).trans mi0), ((congrFun ((tY_uI _ _ _ _ _ _).trans rfl) 0).trans wa0), ((congrFun ((tY_uI _ _ _ _ _ _).trans rfl) 0).trans co0), ((congrFun ((tY_uI _ _ _ _ _ _).trans rfl) 0).trans ma0), ((congrFun ((tY_uI _ _ _ _ _ _).trans rfl) 0).trans pw0), ((congrFun ((tY_uI _ _ _ _ _ _).trans rfl) 1).trans pw1), ((congrFun ((tY_uI _ _ _ _ _ _).trans rfl) 2).trans pw2), sf, sto⟩) ⟨ml_X10_442, ym_X10_lays, yv_X10_lays, yi_X10_lays, yc_X10_lays⟩ yd_X10_lays ob_60 (by decide) rfl rfl hl.1 (Nat.le_of_ble_eq_true rfl) ⟨by decide, by decide⟩ ⟨Nat.zero_le _, Nat.zero_le _⟩ dX10_empty_25 (fun M_7 H locs hp_7 hw => ?_)
        obtain ⟨hF, k34_7, k38_7, k49_7⟩ := hp_7
        obtain ⟨m_taped, m_lf, m_lp, m_hi, m_un, m_st, m_kb, n0, n3, n5, n7, mi0, wa0, co0, ma0, pw0, pw1, pw2, sf, sto⟩ := id hF
        refine lv_iconst (v := 0) hx hb dX10_empty_28 (by decide) ?_
        refine lv_istore_n (lv' := [(3, .int 0), (0, .ref (A 60 0)), (1, .int z), (2, .int z2)]) hx hb dX10_empty_29 rfl hl (by decide) rfl (fun ls hl => ?_)
        refine lv_bipush (v := (-2)) hx hb dX10_empty_30 (by decide) ?_
        refine lv_istore (lv' := [(4, .int (-2)), (3, .int 0), (0, .ref (A 60 0)), (1, .int z), (2, .int z2)]) hx hb dX10_empty_32 hl (by decide) rfl (fun ls hl => ?_)
        refine lv_iconst (v := 0) hx hb dX10_empty_34 (by decide) ?_
        refine lv_istore (lv' := [(5, .int 0), (4, .int (-2)), (3, .int 0), (0, .ref (A 60 0)), (1, .int z), (2, .int z2)]) hx hb dX10_empty_35 hl (by decide) rfl (fun ls hl => ?_)
        suffices hloop : ∀ (n : Nat) (tt fs : Int32) (Mx : ti_M) (H : Heap) (locs : List Loc) (ls : Array Slot), ((z.toInt - tt.toInt).toNat < n) → (ti_FM Mx) → (tY Mx 60 38 1 = 0) → (¬ tY Mx 60 49 5 < 0) → (tY Mx 60 34 1 = tt) → (0 ≤ tt.toInt ∧ tt.toInt ≤ z.toInt) → ((tt = 0 → fs = (-2)) ∧ (¬ tt = 0 → fs = 0)) → ti_H ti_LM D A cy H0 Mx H locs → lv_has ls 6 [(3, .int tt), (4, .int fs), (5, .int tt), (0, .ref (A 60 0)), (1, .int z), (2, .int z2)] → W p l e (ti_rm 3) s m args below meth c H locs 0 0 Q (F0 m 37 ls []) from hloop (z.toInt.toNat + 1) 0 (-2) M_7 _ _ _ (by simp only [ti_l0]; omega) ⟨(m_taped), (m_lf), (m_lp), (m_hi), (m_un), (m_st), (m_kb), ((congrFun (rfl) 0).trans n0), ((congrFun (rfl) 3).trans n3), ((congrFun (rfl) 5).trans n5), ((congrFun (rfl) 7).trans n7), ((congrFun (rfl) 0).trans mi0), ((congrFun (rfl) 0).trans wa0), ((congrFun (rfl) 0).trans co0), ((congrFun (rfl) 0).trans ma0), ((congrFun (rfl) 0).trans pw0), ((congrFun (rfl) 1).trans pw1), ((congrFun (rfl) 2).trans pw2), sf, sto⟩ ((congrFun (rfl) 1).trans k38_7) (ti_ntr ((congrFun (rfl) 5).trans k49_7) (by decide)) ((congrFun (rfl) 1).trans k34_7) (by simp only [ti_l0]; (try simp only [Int32.lt_iff_toInt_lt, Int32.le_iff_toInt_le, ← Int32.toInt_inj, ti_l0, ti_l1, ti_l2, ti_l3, ti_l5, ti_l7, ti_l8, ti_l24, ti_l59, ti_l60, ti_l119, ti_l120, ti_lm1, ti_lm2] at g_3); (try simp only [Int32.lt_iff_toInt_lt, Int32.le_iff_toInt_le, ← Int32.toInt_inj, ti_l0, ti_l1, ti_l2, ti_l3, ti_l5, ti_l7, ti_l8, ti_l24, ti_l59, ti_l60, ti_l119, ti_l120, ti_lm1, ti_lm2] at g_4); (try simp only [Int32.lt_iff_toInt_lt, Int32.le_iff_toInt_le, ← Int32.toInt_inj, ti_l0, ti_l1, ti_l2, ti_l3, ti_l5, ti_l7, ti_l8, ti_l24, ti_l59, ti_l60, ti_l119, ti_l120, ti_lm1, ti_lm2] at c_10); (try simp only [Int32.lt_iff_toInt_lt, Int32.le_iff_toInt_le, ← Int32.toInt_inj, ti_l0, ti_l1, ti_l2, ti_l3, ti_l5, ti_l7, ti_l8, ti_l24, ti_l59, ti_l60, ti_l119, ti_l120, ti_lm1, ti_lm2] at c_14); (try simp only [Int32.lt_iff_toInt_lt, Int32.le_iff_toInt_le, ← Int32.toInt_inj, ti_l0, ti_l1, ti_l2, ti_l3, ti_l5, ti_l7, ti_l8, ti_l24, ti_l59, ti_l60, ti_l119, ti_l120, ti_lm1, ti_lm2] at c_19); omega) ⟨fun _ => rfl, fun h => absurd rfl h⟩ hw (lv_sub hl [2, 1, 0, 3, 4, 5] rfl)
        clear hw hl ls
        intro n
        induction n with
        | zero => intro tt fs Mx H locs ls hfuel hF h38 hpw hmi h0 hfs hw hl; exact absurd hfuel (by omega)
        | succ n ih =>
          intro tt fs Mx H locs ls hfuel hF h38 hpw hmi h0 hfs hw hl
          obtain ⟨m_taped, m_lf, m_lp, m_hi, m_un, m_st, m_kb, n0, n3, n5, n7, mi0, wa0, co0, ma0, pw0, pw1, pw2, sf, sto⟩ := id hF
          refine lv_iload hx hb dX10_empty_37 (lv_at hl 2 rfl) ?_
          refine lv_iload_n hx hb dX10_empty_39 rfl (lv_at hl 4 rfl) ?_
          refine lv_icmp_ge (tgt := 87) hx hb dX10_empty_40 (by decide) (fun c_40 => ?_) (fun c_40 => ?_)
          · refine lv_iload_n hx hb dX10_empty_87 rfl (lv_at hl 5 rfl) ?_
            refine lv_if_ne (tgt := 95) hx hb dX10_empty_88 (by decide) (fun c_88 => ?_) (fun c_88 => ?_)
            · refine lv_iload hx hb dX10_empty_95 (lv_at hl 1 rfl) ?_
              exact hQ _ _ _ _ _ _ hw rfl ((ti_empM hz1 hz2 hz3 hz4 h0 c_40 hfs).2 c_88) dX10_empty_97
            · refine lv_iload_n hx hb dX10_empty_91 rfl (lv_at hl 0 rfl) ?_
              refine lv_goto (tgt := 97) hx hb dX10_empty_92 (by decide) ?_
              exact hQ _ _ _ _ _ _ hw rfl ((ti_empM hz1 hz2 hz3 hz4 h0 c_40 hfs).1 c_88) dX10_empty_97
          · refine lv_aload_n hx hb dX10_empty_43 rfl (lv_at hl 3 rfl) ?_
            refine lv_iconst (v := 1) hx hb dX10_empty_44 (by decide) ?_
            refine lv_iconst (v := 0) hx hb dX10_empty_45 (by decide) ?_
            refine ti_callVv (ci := 10) (av := [.int 1, .int 0]) C hw (k_passes_1 l D A cy hJ Mx 0 ((congrFun (rfl) 0).trans n0) ((congrFun (rfl) 3).trans n3) ((congrFun (rfl) 5).trans n5) ((congrFun (rfl) 1).trans h38) hpw) ⟨ml_X10_407, ym_X10_passes, yv_X10_passes, yi_X10_passes, yc_X10_passes⟩ yd_X10_passes ob_60 (by decide) rfl rfl hl.1 (Nat.le_of_ble_eq_true rfl) ⟨by decide, by decide⟩ ⟨Nat.zero_le _, Nat.zero_le _⟩ dX10_empty_46 (fun M_9 H locs hp_9 hw => ?_)
            obtain ⟨ga_9, gb_9, hm, hna_9, hq_9, hnb_9⟩ := hp_9
            have hw := hw.to hm
            refine lv_aload_n hx hb dX10_empty_49 rfl (lv_at hl 3 rfl) ?_
            refine ti_get (ci := 10) (k := 38) (N := 67) (T := TX10) (v := .ref (A 60 39)) C hw iw_10 rfl ob_60 (by decide) (by decide) fl_X10_81 rfl rfl dX10_empty_50 ?_
            refine lv_iconst (v := 1) hx hb dX10_empty_53 (by decide) ?_
            refine ti_iald (ci := 10) (k := 38) (n := 23) C hw ob_60 (by decide) (fun _ _ => rfl) (by unfold vp_in; decide) dX10_empty_54 ?_
            refine ti_top (y := 0) ((congrFun ((tY_k _ _ _ _ (by decide)).trans ((tY_k _ _ _ _ (by decide)).trans rfl)) 1).trans h38) ?_
            refine lv_if_le (tgt := 61) hx hb dX10_empty_55 (by decide) (fun c_55 => ?_) (fun c => absurd (by decide) c)
            obtain ⟨x_10, ex_10⟩ : ∃ z : Int32, z = tt + 1 := ⟨_, rfl⟩
            refine lv_iinc (v := x_10) (lv' := [(3, .int x_10), (4, .int fs), (5, .int tt), (0, .ref (A 60 0)), (1, .int z), (2, .int z2)]) hx hb dX10_empty_61 hl (k := 0) rfl (by rw [ex_10]; rfl) (by decide) rfl (fun ls hl => ?_)
            refine lv_iload hx hb dX10_empty_64 (lv_at hl 1 rfl) ?_
            refine lv_bipush (v := (-2)) hx hb dX10_empty_66 (by decide) ?_
            refine lv_icmp_ne (tgt := 81) hx hb dX10_empty_68 (by decide) (fun c_68 => ?_) (fun c_68 => ?_)
            · obtain ⟨x_11, ex_11⟩ : ∃ z : Int32, z = tt + 1 := ⟨_, rfl⟩
              refine lv_iinc (v := x_11) (lv' := [(5, .int x_11), (3, .int x_10), (4, .int fs), (0, .ref (A 60 0)), (1, .int z), (2, .int z2)]) hx hb dX10_empty_81 hl (k := 2) rfl (by rw [ex_11]; rfl) (by decide) rfl (fun ls hl => ?_)
              refine lv_goto (tgt := 37) hx hb dX10_empty_84 (by decide) ?_
              obtain rfl : x_10 = x_11 := by rw [ex_10, ex_11]
              have hin := ti_inc (un := z) c_40
              exact ih x_10 fs (uY (uY Mx 60 37 ga_9) 60 34 gb_9) _ _ _ (by rw [← ex_10] at hin; omega) ⟨((tI_uY _ _ _ _ _ _).trans ((tI_uY _ _ _ _ _ _).trans m_taped)), ((tI_uY _ _ _ _ _ _).trans ((tI_uY _ _ _ _ _ _).trans m_lf)), ((tI_uY _ _ _ _ _ _).trans ((tI_uY _ _ _ _ _ _).trans m_lp)), ((tI_uY _ _ _ _ _ _).trans ((tI_uY _ _ _ _ _ _).trans m_hi)), ((tI_uY _ _ _ _ _ _).trans ((tI_uY _ _ _ _ _ _).trans m_un)), ((tI_uY _ _ _ _ _ _).trans ((tI_uY _ _ _ _ _ _).trans m_st)), ((tI_uY _ _ _ _ _ _).trans ((tI_uY _ _ _ _ _ _).trans m_kb)), ((congrFun ((tY_k _ _ _ _ (by decide)).trans ((tY_k _ _ _ _ (by decide)).trans rfl)) 0).trans n0), ((congrFun ((tY_k _ _ _ _ (by decide)).trans ((tY_k _ _ _ _ (by decide)).trans rfl)) 3).trans n3), ((congrFun ((tY_k _ _ _ _ (by decide)).trans ((tY_k _ _ _ _ (by decide)).trans rfl)) 5).trans n5), ((congrFun ((tY_k _ _ _ _ (by decide)).trans ((tY_k _ _ _ _ (by decide)).trans rfl)) 7).trans n7), ((congrFun (tY_u _ _ _ _) 0).trans ((hnb_9 0 (by decide)).trans ((congrFun (rfl) 0).trans mi0))), ((congrFun ((tY_k _ _ _ _ (by decide)).trans ((tY_k _ _ _ _ (by decide)).trans rfl)) 0).trans wa0), ((congrFun ((tY_k _ _ _ _ (by decide)).trans (tY_u _ _ _ _)) 0).trans ((hna_9 0 (by decide)).trans ((congrFun (rfl) 0).trans co0))), ((congrFun ((tY_k _ _ _ _ (by decide)).trans ((tY_k _ _ _ _ (by decide)).trans rfl)) 0).trans ma0), ((congrFun ((tY_k _ _ _ _ (by decide)).trans ((tY_k _ _ _ _ (by decide)).trans rfl)) 0).trans pw0), ((congrFun ((tY_k _ _ _ _ (by decide)).trans ((tY_k _ _ _ _ (by decide)).trans rfl)) 1).trans pw1), ((congrFun ((tY_k _ _ _ _ (by decide)).trans ((tY_k _ _ _ _ (by decide)).trans rfl)) 2).trans pw2), sf, sto⟩ ((congrFun ((tY_k _ _ _ _ (by decide)).trans ((tY_k _ _ _ _ (by decide)).trans rfl)) 1).trans h38) (ti_ntr (congrFun ((tY_k _ _ _ _ (by decide)).trans ((tY_k _ _ _ _ (by decide)).trans rfl)) 5) hpw) (((congrFun (tY_u _ _ _ _) 1).trans (hq_9.trans (congrArg (fun z => z + 1) ((congrFun (rfl) 1).trans hmi)))).trans (by rw [ex_10])) (by rw [← ex_10] at hin; omega) (ti_fst ⟨h0.1, trivial⟩ ex_10 hin.1 (Or.inr ⟨fun q => c_68 (hfs.1 q), hfs.2 (fun q => c_68 (hfs.1 q))⟩)) hw (lv_sub hl [1, 2, 0, 3, 4, 5] rfl)
            · refine lv_aload_n hx hb dX10_empty_71 rfl (lv_at hl 3 rfl) ?_
              refine ti_get (ci := 10) (k := 34) (N := 67) (T := TX10) (v := .ref (A 60 35)) C hw iw_10 rfl ob_60 (by decide) (by decide) fl_X10_69 rfl rfl dX10_empty_72 ?_
              refine lv_iconst (v := 1) hx hb dX10_empty_75 (by decide) ?_
              refine ti_iald (ci := 10) (k := 34) (n := 23) C hw ob_60 (by decide) (fun _ _ => rfl) (by unfold vp_in; decide) dX10_empty_76 ?_
              refine ti_top (y := (tt + 1)) ((congrFun (tY_u _ _ _ _) 1).trans (hq_9.trans (congrArg (fun z => z + 1) ((congrFun (rfl) 1).trans hmi)))) ?_
              refine lv_iconst (v := 1) hx hb dX10_empty_77 (by decide) ?_
              refine lv_isub hx hb dX10_empty_78 ?_
              refine lv_topi (fun x_12 ex_12 => ?_)
              refine lv_istore (lv' := [(4, .int x_12), (3, .int x_10), (5, .int tt), (0, .ref (A 60 0)), (1, .int z), (2, .int z2)]) hx hb dX10_empty_79 hl (by decide) rfl (fun ls hl => ?_)
              obtain ⟨x_13, ex_13⟩ : ∃ z : Int32, z = tt + 1 := ⟨_, rfl⟩
              refine lv_iinc (v := x_13) (lv' := [(5, .int x_13), (4, .int x_12), (3, .int x_10), (0, .ref (A 60 0)), (1, .int z), (2, .int z2)]) hx hb dX10_empty_81 hl (k := 2) rfl (by rw [ex_13]; rfl) (by decide) rfl (fun ls hl => ?_)
              refine lv_goto (tgt := 37) hx hb dX10_empty_84 (by decide) ?_
              obtain rfl : x_10 = x_13 := by rw [ex_10, ex_13]
              have hin := ti_inc (un := z) c_40
              exact ih x_10 x_12 (uY (uY Mx 60 37 ga_9) 60 34 gb_9) _ _ _ (by rw [← ex_10] at hin; omega) ⟨((tI_uY _ _ _ _ _ _).trans ((tI_uY _ _ _ _ _ _).trans m_taped)), ((tI_uY _ _ _ _ _ _).trans ((tI_uY _ _ _ _ _ _).trans m_lf)), ((tI_uY _ _ _ _ _ _).trans ((tI_uY _ _ _ _ _ _).trans m_lp)), ((tI_uY _ _ _ _ _ _).trans ((tI_uY _ _ _ _ _ _).trans m_hi)), ((tI_uY _ _ _ _ _ _).trans ((tI_uY _ _ _ _ _ _).trans m_un)), ((tI_uY _ _ _ _ _ _).trans ((tI_uY _ _ _ _ _ _).trans m_st)), ((tI_uY _ _ _ _ _ _).trans ((tI_uY _ _ _ _ _ _).trans m_kb)), ((congrFun ((tY_k _ _ _ _ (by decide)).trans ((tY_k _ _ _ _ (by decide)).trans rfl)) 0).trans n0), ((congrFun ((tY_k _ _ _ _ (by decide)).trans ((tY_k _ _ _ _ (by decide)).trans rfl)) 3).trans n3), ((congrFun ((tY_k _ _ _ _ (by decide)).trans ((tY_k _ _ _ _ (by decide)).trans rfl)) 5).trans n5), ((congrFun ((tY_k _ _ _ _ (by decide)).trans ((tY_k _ _ _ _ (by decide)).trans rfl)) 7).trans n7), ((congrFun (tY_u _ _ _ _) 0).trans ((hnb_9 0 (by decide)).trans ((congrFun (rfl) 0).trans mi0))), ((congrFun ((tY_k _ _ _ _ (by decide)).trans ((tY_k _ _ _ _ (by decide)).trans rfl)) 0).trans wa0), ((congrFun ((tY_k _ _ _ _ (by decide)).trans (tY_u _ _ _ _)) 0).trans ((hna_9 0 (by decide)).trans ((congrFun (rfl) 0).trans co0))), ((congrFun ((tY_k _ _ _ _ (by decide)).trans ((tY_k _ _ _ _ (by decide)).trans rfl)) 0).trans ma0), ((congrFun ((tY_k _ _ _ _ (by decide)).trans ((tY_k _ _ _ _ (by decide)).trans rfl)) 0).trans pw0), ((congrFun ((tY_k _ _ _ _ (by decide)).trans ((tY_k _ _ _ _ (by decide)).trans rfl)) 1).trans pw1), ((congrFun ((tY_k _ _ _ _ (by decide)).trans ((tY_k _ _ _ _ (by decide)).trans rfl)) 2).trans pw2), sf, sto⟩ ((congrFun ((tY_k _ _ _ _ (by decide)).trans ((tY_k _ _ _ _ (by decide)).trans rfl)) 1).trans h38) (ti_ntr (congrFun ((tY_k _ _ _ _ (by decide)).trans ((tY_k _ _ _ _ (by decide)).trans rfl)) 5) hpw) (((congrFun (tY_u _ _ _ _) 1).trans (hq_9.trans (congrArg (fun z => z + 1) ((congrFun (rfl) 1).trans hmi)))).trans (by rw [ex_10])) (by rw [← ex_10] at hin; omega) (ti_fst ⟨h0.1, trivial⟩ ex_10 hin.1 (Or.inl ⟨ti_z0 hfs c_68, by rw [ex_12]; exact ti_dec (ti_z0 hfs c_68)⟩)) hw (lv_sub hl [2, 1, 0, 3, 4, 5] rfl)
      · refine lv_iconst (v := (-1)) hx hb dX10_empty_22 (by decide) ?_
        exact hQ _ _ _ _ _ _ hw rfl (by unfold pf_empty; (try simp only [Int32.lt_iff_toInt_lt, Int32.le_iff_toInt_le, ← Int32.toInt_inj, ti_l0, ti_l1, ti_l2, ti_l3, ti_l5, ti_l7, ti_l8, ti_l24, ti_l59, ti_l60, ti_l119, ti_l120, ti_lm1, ti_lm2] at g_3); (try simp only [Int32.lt_iff_toInt_lt, Int32.le_iff_toInt_le, ← Int32.toInt_inj, ti_l0, ti_l1, ti_l2, ti_l3, ti_l5, ti_l7, ti_l8, ti_l24, ti_l59, ti_l60, ti_l119, ti_l120, ti_lm1, ti_lm2] at g_4); (try simp only [Int32.lt_iff_toInt_lt, Int32.le_iff_toInt_le, ← Int32.toInt_inj, ti_l0, ti_l1, ti_l2, ti_l3, ti_l5, ti_l7, ti_l8, ti_l24, ti_l59, ti_l60, ti_l119, ti_l120, ti_lm1, ti_lm2] at c_10); (try simp only [Int32.lt_iff_toInt_lt, Int32.le_iff_toInt_le, ← Int32.toInt_inj, ti_l0, ti_l1, ti_l2, ti_l3, ti_l5, ti_l7, ti_l8, ti_l24, ti_l59, ti_l60, ti_l119, ti_l120, ti_lm1, ti_lm2] at c_14); (try simp only [Int32.lt_iff_toInt_lt, Int32.le_iff_toInt_le, ← Int32.toInt_inj, ti_l0, ti_l1, ti_l2, ti_l3, ti_l5, ti_l7, ti_l8, ti_l24, ti_l59, ti_l60, ti_l119, ti_l120, ti_lm1, ti_lm2] at c_19); (try simp only [Int32.lt_iff_toInt_lt, Int32.le_iff_toInt_le, ← Int32.toInt_inj, ti_l0, ti_l1, ti_l2, ti_l3, ti_l5, ti_l7, ti_l8, ti_l24, ti_l59, ti_l60, ti_l119, ti_l120, ti_lm1, ti_lm2]); (repeat' split) <;> first | rfl | omega) dX10_empty_23
  · refine lv_if_eq (tgt := 22) hx hb dX10_empty_10 (by decide) (fun c_10 => ?_) (fun c => absurd (by decide) c)
    refine lv_iconst (v := (-1)) hx hb dX10_empty_22 (by decide) ?_
    exact hQ _ _ _ _ _ _ hw rfl (by unfold pf_empty; (try simp only [Int32.lt_iff_toInt_lt, Int32.le_iff_toInt_le, ← Int32.toInt_inj, ti_l0, ti_l1, ti_l2, ti_l3, ti_l5, ti_l7, ti_l8, ti_l24, ti_l59, ti_l60, ti_l119, ti_l120, ti_lm1, ti_lm2] at g_5); (try simp only [Int32.lt_iff_toInt_lt, Int32.le_iff_toInt_le, ← Int32.toInt_inj, ti_l0, ti_l1, ti_l2, ti_l3, ti_l5, ti_l7, ti_l8, ti_l24, ti_l59, ti_l60, ti_l119, ti_l120, ti_lm1, ti_lm2] at c_10); (try simp only [Int32.lt_iff_toInt_lt, Int32.le_iff_toInt_le, ← Int32.toInt_inj, ti_l0, ti_l1, ti_l2, ti_l3, ti_l5, ti_l7, ti_l8, ti_l24, ti_l59, ti_l60, ti_l119, ti_l120, ti_lm1, ti_lm2]); (repeat' split) <;> first | rfl | omega) dX10_empty_23
set_option maxHeartbeats 4000000 in
set_option maxRecDepth 100000 in
theorem k_X10_tried (l : Launch) (D : va_G) (A : Nat → Nat → Nat) (cy : Nat → ClassId) (hJ : ti_inj ti_LM A) (M : ti_M) (hF : ti_FM M) (z : Int32) (z2 : Int32) (z3 : Int32) : ti_Ki l yX10_tried cX10_tried 6 (some .int) 3 ti_LM D A cy M [.ref (A 60 0), .int z, .int z2, .int z3] (fun r _ => r = pf_tried z z2 z3) := by
  refine ti_eI yp_X10_tried hJ ti_LM_nd (Nat.le_of_ble_eq_true rfl) ?_
  intro p e s m args below meth c Q H0 C hQ hw ls hl
  have hx := C.1
  have hb := C.2.1
  have hl : lv_has ls 6 [(0, .ref (A 60 0)), (1, .int z), (2, .int z2), (3, .int z3)] := hl
  obtain ⟨m_taped, m_lf, m_lp, m_hi, m_un, m_st, m_kb, n0, n3, n5, n7, mi0, wa0, co0, ma0, pw0, pw1, pw2, sf, sto⟩ := id hF
  refine lv_aload_n hx hb dX10_tried_0 rfl (lv_at hl 0 rfl) ?_
  refine lv_iconst (v := 0) hx hb dX10_tried_1 (by decide) ?_
  refine ti_putI (ci := 10) (k := 0) (N := 67) (T := TX10) C hw iw_10 tyX10 tyX10_ok nmX10 rfl ob_60 (by decide) (by decide) fl_X10_154 rfl rfl rfl rfl (fn_10 A _) fs_10_0 dX10_tried_2 (fun H locs hw => ?_)
  refine lv_iload_n hx hb dX10_tried_5 rfl (lv_at hl 1 rfl) ?_
  refine lv_iconst (v := 2) hx hb dX10_tried_6 (by decide) ?_
  refine lv_icmp_ne (tgt := 18) hx hb dX10_tried_7 (by decide) (fun c_7 => ?_) (fun c_7 => ?_)
  · refine lv_iload_n hx hb dX10_tried_18 rfl (lv_at hl 1 rfl) ?_
    refine lv_if_lt (tgt := 35) hx hb dX10_tried_19 (by decide) (fun c_19 => ?_) (fun c_19 => ?_)
    · refine lv_iconst (v := 0) hx hb dX10_tried_35 (by decide) ?_
      refine lv_istore (lv' := [(4, .int 0), (0, .ref (A 60 0)), (1, .int z), (2, .int z2), (3, .int z3)]) hx hb dX10_tried_36 hl (by decide) rfl (fun ls hl => ?_)
      refine lv_iload hx hb dX10_tried_38 (lv_at hl 0 rfl) ?_
      refine lv_if_eq (tgt := 61) hx hb dX10_tried_40 (by decide) (fun c_40 => ?_) (fun c => absurd (by decide) c)
      refine lv_iconst (v := (-1)) hx hb dX10_tried_61 (by decide) ?_
      exact hQ _ _ _ _ _ _ hw rfl (by unfold pf_tried; (try simp only [Int32.lt_iff_toInt_lt, Int32.le_iff_toInt_le, ← Int32.toInt_inj, ti_l0, ti_l1, ti_l2, ti_l3, ti_l5, ti_l7, ti_l8, ti_l24, ti_l59, ti_l60, ti_l119, ti_l120, ti_lm1, ti_lm2] at c_7); (try simp only [Int32.lt_iff_toInt_lt, Int32.le_iff_toInt_le, ← Int32.toInt_inj, ti_l0, ti_l1, ti_l2, ti_l3, ti_l5, ti_l7, ti_l8, ti_l24, ti_l59, ti_l60, ti_l119, ti_l120, ti_lm1, ti_lm2] at c_19); (try simp only [Int32.lt_iff_toInt_lt, Int32.le_iff_toInt_le, ← Int32.toInt_inj, ti_l0, ti_l1, ti_l2, ti_l3, ti_l5, ti_l7, ti_l8, ti_l24, ti_l59, ti_l60, ti_l119, ti_l120, ti_lm1, ti_lm2] at c_40); (try simp only [Int32.lt_iff_toInt_lt, Int32.le_iff_toInt_le, ← Int32.toInt_inj, ti_l0, ti_l1, ti_l2, ti_l3, ti_l5, ti_l7, ti_l8, ti_l24, ti_l59, ti_l60, ti_l119, ti_l120, ti_lm1, ti_lm2]); (repeat' split) <;> first | rfl | omega) dX10_tried_62
    · refine lv_iload_n hx hb dX10_tried_22 rfl (lv_at hl 1 rfl) ?_
      refine lv_iconst (v := 5) hx hb dX10_tried_23 (by decide) ?_
      refine lv_icmp_gt (tgt := 35) hx hb dX10_tried_24 (by decide) (fun c_24 => ?_) (fun c_24 => ?_)
      · refine lv_iconst (v := 0) hx hb dX10_tried_35 (by decide) ?_
        refine lv_istore (lv' := [(4, .int 0), (0, .ref (A 60 0)), (1, .int z), (2, .int z2), (3, .int z3)]) hx hb dX10_tried_36 hl (by decide) rfl (fun ls hl => ?_)
        refine lv_iload hx hb dX10_tried_38 (lv_at hl 0 rfl) ?_
        refine lv_if_eq (tgt := 61) hx hb dX10_tried_40 (by decide) (fun c_40 => ?_) (fun c => absurd (by decide) c)
        refine lv_iconst (v := (-1)) hx hb dX10_tried_61 (by decide) ?_
        exact hQ _ _ _ _ _ _ hw rfl (by unfold pf_tried; (try simp only [Int32.lt_iff_toInt_lt, Int32.le_iff_toInt_le, ← Int32.toInt_inj, ti_l0, ti_l1, ti_l2, ti_l3, ti_l5, ti_l7, ti_l8, ti_l24, ti_l59, ti_l60, ti_l119, ti_l120, ti_lm1, ti_lm2] at c_7); (try simp only [Int32.lt_iff_toInt_lt, Int32.le_iff_toInt_le, ← Int32.toInt_inj, ti_l0, ti_l1, ti_l2, ti_l3, ti_l5, ti_l7, ti_l8, ti_l24, ti_l59, ti_l60, ti_l119, ti_l120, ti_lm1, ti_lm2] at c_19); (try simp only [Int32.lt_iff_toInt_lt, Int32.le_iff_toInt_le, ← Int32.toInt_inj, ti_l0, ti_l1, ti_l2, ti_l3, ti_l5, ti_l7, ti_l8, ti_l24, ti_l59, ti_l60, ti_l119, ti_l120, ti_lm1, ti_lm2] at c_24); (try simp only [Int32.lt_iff_toInt_lt, Int32.le_iff_toInt_le, ← Int32.toInt_inj, ti_l0, ti_l1, ti_l2, ti_l3, ti_l5, ti_l7, ti_l8, ti_l24, ti_l59, ti_l60, ti_l119, ti_l120, ti_lm1, ti_lm2] at c_40); (try simp only [Int32.lt_iff_toInt_lt, Int32.le_iff_toInt_le, ← Int32.toInt_inj, ti_l0, ti_l1, ti_l2, ti_l3, ti_l5, ti_l7, ti_l8, ti_l24, ti_l59, ti_l60, ti_l119, ti_l120, ti_lm1, ti_lm2]); (repeat' split) <;> first | rfl | omega) dX10_tried_62
      · refine lv_iload_n hx hb dX10_tried_27 rfl (lv_at hl 2 rfl) ?_
        refine lv_if_ne (tgt := 35) hx hb dX10_tried_28 (by decide) (fun c_28 => ?_) (fun c_28 => ?_)
        · refine lv_iconst (v := 0) hx hb dX10_tried_35 (by decide) ?_
          refine lv_istore (lv' := [(4, .int 0), (0, .ref (A 60 0)), (1, .int z), (2, .int z2), (3, .int z3)]) hx hb dX10_tried_36 hl (by decide) rfl (fun ls hl => ?_)
          refine lv_iload hx hb dX10_tried_38 (lv_at hl 0 rfl) ?_
          refine lv_if_eq (tgt := 61) hx hb dX10_tried_40 (by decide) (fun c_40 => ?_) (fun c => absurd (by decide) c)
          refine lv_iconst (v := (-1)) hx hb dX10_tried_61 (by decide) ?_
          exact hQ _ _ _ _ _ _ hw rfl (by unfold pf_tried; (try simp only [Int32.lt_iff_toInt_lt, Int32.le_iff_toInt_le, ← Int32.toInt_inj, ti_l0, ti_l1, ti_l2, ti_l3, ti_l5, ti_l7, ti_l8, ti_l24, ti_l59, ti_l60, ti_l119, ti_l120, ti_lm1, ti_lm2] at c_7); (try simp only [Int32.lt_iff_toInt_lt, Int32.le_iff_toInt_le, ← Int32.toInt_inj, ti_l0, ti_l1, ti_l2, ti_l3, ti_l5, ti_l7, ti_l8, ti_l24, ti_l59, ti_l60, ti_l119, ti_l120, ti_lm1, ti_lm2] at c_19); (try simp only [Int32.lt_iff_toInt_lt, Int32.le_iff_toInt_le, ← Int32.toInt_inj, ti_l0, ti_l1, ti_l2, ti_l3, ti_l5, ti_l7, ti_l8, ti_l24, ti_l59, ti_l60, ti_l119, ti_l120, ti_lm1, ti_lm2] at c_24); (try simp only [Int32.lt_iff_toInt_lt, Int32.le_iff_toInt_le, ← Int32.toInt_inj, ti_l0, ti_l1, ti_l2, ti_l3, ti_l5, ti_l7, ti_l8, ti_l24, ti_l59, ti_l60, ti_l119, ti_l120, ti_lm1, ti_lm2] at c_28); (try simp only [Int32.lt_iff_toInt_lt, Int32.le_iff_toInt_le, ← Int32.toInt_inj, ti_l0, ti_l1, ti_l2, ti_l3, ti_l5, ti_l7, ti_l8, ti_l24, ti_l59, ti_l60, ti_l119, ti_l120, ti_lm1, ti_lm2] at c_40); (try simp only [Int32.lt_iff_toInt_lt, Int32.le_iff_toInt_le, ← Int32.toInt_inj, ti_l0, ti_l1, ti_l2, ti_l3, ti_l5, ti_l7, ti_l8, ti_l24, ti_l59, ti_l60, ti_l119, ti_l120, ti_lm1, ti_lm2]); (repeat' split) <;> first | rfl | omega) dX10_tried_62
        · refine lv_iconst (v := 1) hx hb dX10_tried_31 (by decide) ?_
          refine lv_goto (tgt := 36) hx hb dX10_tried_32 (by decide) ?_
          refine lv_istore (lv' := [(4, .int 1), (0, .ref (A 60 0)), (1, .int z), (2, .int z2), (3, .int z3)]) hx hb dX10_tried_36 hl (by decide) rfl (fun ls hl => ?_)
          refine lv_iload hx hb dX10_tried_38 (lv_at hl 0 rfl) ?_
          refine lv_if_eq (tgt := 61) hx hb dX10_tried_40 (by decide) (fun c => absurd c (by decide)) (fun c_40 => ?_)
          refine lv_iload_n hx hb dX10_tried_43 rfl (lv_at hl 4 rfl) ?_
          refine lv_if_lt (tgt := 61) hx hb dX10_tried_44 (by decide) (fun c_44 => ?_) (fun c_44 => ?_)
          · refine lv_iconst (v := (-1)) hx hb dX10_tried_61 (by decide) ?_
            exact hQ _ _ _ _ _ _ hw rfl (by unfold pf_tried; (try simp only [Int32.lt_iff_toInt_lt, Int32.le_iff_toInt_le, ← Int32.toInt_inj, ti_l0, ti_l1, ti_l2, ti_l3, ti_l5, ti_l7, ti_l8, ti_l24, ti_l59, ti_l60, ti_l119, ti_l120, ti_lm1, ti_lm2] at c_7); (try simp only [Int32.lt_iff_toInt_lt, Int32.le_iff_toInt_le, ← Int32.toInt_inj, ti_l0, ti_l1, ti_l2, ti_l3, ti_l5, ti_l7, ti_l8, ti_l24, ti_l59, ti_l60, ti_l119, ti_l120, ti_lm1, ti_lm2] at c_19); (try simp only [Int32.lt_iff_toInt_lt, Int32.le_iff_toInt_le, ← Int32.toInt_inj, ti_l0, ti_l1, ti_l2, ti_l3, ti_l5, ti_l7, ti_l8, ti_l24, ti_l59, ti_l60, ti_l119, ti_l120, ti_lm1, ti_lm2] at c_24); (try simp only [Int32.lt_iff_toInt_lt, Int32.le_iff_toInt_le, ← Int32.toInt_inj, ti_l0, ti_l1, ti_l2, ti_l3, ti_l5, ti_l7, ti_l8, ti_l24, ti_l59, ti_l60, ti_l119, ti_l120, ti_lm1, ti_lm2] at c_28); (try simp only [Int32.lt_iff_toInt_lt, Int32.le_iff_toInt_le, ← Int32.toInt_inj, ti_l0, ti_l1, ti_l2, ti_l3, ti_l5, ti_l7, ti_l8, ti_l24, ti_l59, ti_l60, ti_l119, ti_l120, ti_lm1, ti_lm2] at c_40); (try simp only [Int32.lt_iff_toInt_lt, Int32.le_iff_toInt_le, ← Int32.toInt_inj, ti_l0, ti_l1, ti_l2, ti_l3, ti_l5, ti_l7, ti_l8, ti_l24, ti_l59, ti_l60, ti_l119, ti_l120, ti_lm1, ti_lm2] at c_44); (try simp only [Int32.lt_iff_toInt_lt, Int32.le_iff_toInt_le, ← Int32.toInt_inj, ti_l0, ti_l1, ti_l2, ti_l3, ti_l5, ti_l7, ti_l8, ti_l24, ti_l59, ti_l60, ti_l119, ti_l120, ti_lm1, ti_lm2]); (repeat' split) <;> first | rfl | omega) dX10_tried_62
          · refine lv_iload_n hx hb dX10_tried_47 rfl (lv_at hl 4 rfl) ?_
            refine lv_bipush (v := 60) hx hb dX10_tried_48 (by decide) ?_
            refine lv_icmp_gt (tgt := 61) hx hb dX10_tried_50 (by decide) (fun c_50 => ?_) (fun c_50 => ?_)
            · refine lv_iconst (v := (-1)) hx hb dX10_tried_61 (by decide) ?_
              exact hQ _ _ _ _ _ _ hw rfl (by unfold pf_tried; (try simp only [Int32.lt_iff_toInt_lt, Int32.le_iff_toInt_le, ← Int32.toInt_inj, ti_l0, ti_l1, ti_l2, ti_l3, ti_l5, ti_l7, ti_l8, ti_l24, ti_l59, ti_l60, ti_l119, ti_l120, ti_lm1, ti_lm2] at c_7); (try simp only [Int32.lt_iff_toInt_lt, Int32.le_iff_toInt_le, ← Int32.toInt_inj, ti_l0, ti_l1, ti_l2, ti_l3, ti_l5, ti_l7, ti_l8, ti_l24, ti_l59, ti_l60, ti_l119, ti_l120, ti_lm1, ti_lm2] at c_19); (try simp only [Int32.lt_iff_toInt_lt, Int32.le_iff_toInt_le, ← Int32.toInt_inj, ti_l0, ti_l1, ti_l2, ti_l3, ti_l5, ti_l7, ti_l8, ti_l24, ti_l59, ti_l60, ti_l119, ti_l120, ti_lm1, ti_lm2] at c_24); (try simp only [Int32.lt_iff_toInt_lt, Int32.le_iff_toInt_le, ← Int32.toInt_inj, ti_l0, ti_l1, ti_l2, ti_l3, ti_l5, ti_l7, ti_l8, ti_l24, ti_l59, ti_l60, ti_l119, ti_l120, ti_lm1, ti_lm2] at c_28); (try simp only [Int32.lt_iff_toInt_lt, Int32.le_iff_toInt_le, ← Int32.toInt_inj, ti_l0, ti_l1, ti_l2, ti_l3, ti_l5, ti_l7, ti_l8, ti_l24, ti_l59, ti_l60, ti_l119, ti_l120, ti_lm1, ti_lm2] at c_40); (try simp only [Int32.lt_iff_toInt_lt, Int32.le_iff_toInt_le, ← Int32.toInt_inj, ti_l0, ti_l1, ti_l2, ti_l3, ti_l5, ti_l7, ti_l8, ti_l24, ti_l59, ti_l60, ti_l119, ti_l120, ti_lm1, ti_lm2] at c_44); (try simp only [Int32.lt_iff_toInt_lt, Int32.le_iff_toInt_le, ← Int32.toInt_inj, ti_l0, ti_l1, ti_l2, ti_l3, ti_l5, ti_l7, ti_l8, ti_l24, ti_l59, ti_l60, ti_l119, ti_l120, ti_lm1, ti_lm2] at c_50); (try simp only [Int32.lt_iff_toInt_lt, Int32.le_iff_toInt_le, ← Int32.toInt_inj, ti_l0, ti_l1, ti_l2, ti_l3, ti_l5, ti_l7, ti_l8, ti_l24, ti_l59, ti_l60, ti_l119, ti_l120, ti_lm1, ti_lm2]); (repeat' split) <;> first | rfl | omega) dX10_tried_62
            · refine lv_iload_n hx hb dX10_tried_53 rfl (lv_at hl 4 rfl) ?_
              refine lv_aload_n hx hb dX10_tried_54 rfl (lv_at hl 1 rfl) ?_
              refine ti_callVi (ci := 10) (av := []) C hw (k_X10_minutesLeft l D A cy hJ (uI M 60 0 0) ⟨((tI_k _ _ _ _ (by decide)).trans m_taped), ((tI_k _ _ _ _ (by decide)).trans m_lf), ((tI_k _ _ _ _ (by decide)).trans m_lp), ((tI_k _ _ _ _ (by decide)).trans m_hi), ((tI_k _ _ _ _ (by decide)).trans m_un), ((tI_k _ _ _ _ (by decide)).trans m_st), ((tI_k _ _ _ _ (by decide)).trans m_kb), ((congrFun ((tY_uI _ _ _ _ _ _).trans rfl) 0).trans n0), ((congrFun ((tY_uI _ _ _ _ _ _).trans rfl) 3).trans n3), ((congrFun ((tY_uI _ _ _ _ _ _).trans rfl) 5).trans n5), ((congrFun ((tY_uI _ _ _ _ _ _).trans rfl) 7).trans n7), ((congrFun ((tY_uI _ _ _ _ _ _).trans rfl) 0).trans mi0), ((congrFun ((tY_uI _ _ _ _ _ _).trans rfl) 0).trans wa0), ((congrFun ((tY_uI _ _ _ _ _ _).trans rfl) 0).trans co0), ((congrFun ((tY_uI _ _ _ _ _ _).trans rfl) 0).trans ma0), ((congrFun ((tY_uI _ _ _ _ _ _).trans rfl) 0).trans pw0), ((congrFun ((tY_uI _ _ _ _ _ _).trans rfl) 1).trans pw1), ((congrFun ((tY_uI _ _ _ _ _ _).trans rfl) 2).trans pw2), sf, sto⟩) ⟨ml_X10_430, ym_X10_minutesLeft, yv_X10_minutesLeft, yi_X10_minutesLeft, yc_X10_minutesLeft⟩ yd_X10_minutesLeft ob_60 (by decide) rfl rfl hl.1 (Nat.le_of_ble_eq_true rfl) ⟨by decide, by decide⟩ ⟨Nat.zero_le _, Nat.zero_le _⟩ dX10_tried_55 (fun r_1 M_2 H locs hp_2 hw => ?_)
              obtain ⟨hm, rfl⟩ := hp_2
              have hw := hw.to hm
              refine lv_icmp_le (tgt := 63) hx hb dX10_tried_58 (by decide) (fun c_58 => ?_) (fun c => absurd ((by (try simp only [Int32.lt_iff_toInt_lt, Int32.le_iff_toInt_le, ← Int32.toInt_inj, ti_l0, ti_l1, ti_l2, ti_l3, ti_l5, ti_l7, ti_l8, ti_l24, ti_l59, ti_l60, ti_l119, ti_l120, ti_lm1, ti_lm2] at c_7); (try simp only [Int32.lt_iff_toInt_lt, Int32.le_iff_toInt_le, ← Int32.toInt_inj, ti_l0, ti_l1, ti_l2, ti_l3, ti_l5, ti_l7, ti_l8, ti_l24, ti_l59, ti_l60, ti_l119, ti_l120, ti_lm1, ti_lm2] at c_19); (try simp only [Int32.lt_iff_toInt_lt, Int32.le_iff_toInt_le, ← Int32.toInt_inj, ti_l0, ti_l1, ti_l2, ti_l3, ti_l5, ti_l7, ti_l8, ti_l24, ti_l59, ti_l60, ti_l119, ti_l120, ti_lm1, ti_lm2] at c_24); (try simp only [Int32.lt_iff_toInt_lt, Int32.le_iff_toInt_le, ← Int32.toInt_inj, ti_l0, ti_l1, ti_l2, ti_l3, ti_l5, ti_l7, ti_l8, ti_l24, ti_l59, ti_l60, ti_l119, ti_l120, ti_lm1, ti_lm2] at c_28); (try simp only [Int32.lt_iff_toInt_lt, Int32.le_iff_toInt_le, ← Int32.toInt_inj, ti_l0, ti_l1, ti_l2, ti_l3, ti_l5, ti_l7, ti_l8, ti_l24, ti_l59, ti_l60, ti_l119, ti_l120, ti_lm1, ti_lm2] at c_40); (try simp only [Int32.lt_iff_toInt_lt, Int32.le_iff_toInt_le, ← Int32.toInt_inj, ti_l0, ti_l1, ti_l2, ti_l3, ti_l5, ti_l7, ti_l8, ti_l24, ti_l59, ti_l60, ti_l119, ti_l120, ti_lm1, ti_lm2] at c_44); (try simp only [Int32.lt_iff_toInt_lt, Int32.le_iff_toInt_le, ← Int32.toInt_inj, ti_l0, ti_l1, ti_l2, ti_l3, ti_l5, ti_l7, ti_l8, ti_l24, ti_l59, ti_l60, ti_l119, ti_l120, ti_lm1, ti_lm2] at c_50); (try simp only [Int32.lt_iff_toInt_lt, Int32.le_iff_toInt_le, ← Int32.toInt_inj, ti_l0, ti_l1, ti_l2, ti_l3, ti_l5, ti_l7, ti_l8, ti_l24, ti_l59, ti_l60, ti_l119, ti_l120, ti_lm1, ti_lm2]); omega)) c)
              refine lv_aload_n hx hb dX10_tried_63 rfl (lv_at hl 1 rfl) ?_
              refine ti_callVv (ci := 10) (av := []) C hw (k_X10_lays l D A cy hJ (uI M 60 0 0) ⟨((tI_k _ _ _ _ (by decide)).trans m_taped), ((tI_k _ _ _ _ (by decide)).trans m_lf), ((tI_k _ _ _ _ (by decide)).trans m_lp), ((tI_k _ _ _ _ (by decide)).trans m_hi), ((tI_k _ _ _ _ (by decide)).trans m_un), ((tI_k _ _ _ _ (by decide)).trans m_st), ((tI_k _ _ _ _ (by decide)).trans m_kb), ((congrFun ((tY_uI _ _ _ _ _ _).trans rfl) 0).trans n0), ((congrFun ((tY_uI _ _ _ _ _ _).trans rfl) 3).trans n3), ((congrFun ((tY_uI _ _ _ _ _ _).trans rfl) 5).trans n5), ((congrFun ((tY_uI _ _ _ _ _ _).trans rfl) 7).trans n7), ((congrFun ((tY_uI _ _ _ _ _ _).trans rfl) 0).trans mi0), ((congrFun ((tY_uI _ _ _ _ _ _).trans rfl) 0).trans wa0), ((congrFun ((tY_uI _ _ _ _ _ _).trans rfl) 0).trans co0), ((congrFun ((tY_uI _ _ _ _ _ _).trans rfl) 0).trans ma0), ((congrFun ((tY_uI _ _ _ _ _ _).trans rfl) 0).trans pw0), ((congrFun ((tY_uI _ _ _ _ _ _).trans rfl) 1).trans pw1), ((congrFun ((tY_uI _ _ _ _ _ _).trans rfl) 2).trans pw2), sf, sto⟩) ⟨ml_X10_442, ym_X10_lays, yv_X10_lays, yi_X10_lays, yc_X10_lays⟩ yd_X10_lays ob_60 (by decide) rfl rfl hl.1 (Nat.le_of_ble_eq_true rfl) ⟨by decide, by decide⟩ ⟨Nat.zero_le _, Nat.zero_le _⟩ dX10_tried_64 (fun M_4 H locs hp_4 hw => ?_)
              obtain ⟨hF, k34_4, k38_4, k49_4⟩ := hp_4
              obtain ⟨m_taped, m_lf, m_lp, m_hi, m_un, m_st, m_kb, n0, n3, n5, n7, mi0, wa0, co0, ma0, pw0, pw1, pw2, sf, sto⟩ := id hF
              refine lv_iload_n hx hb dX10_tried_67 rfl (lv_at hl 2 rfl) ?_
              refine lv_iconst (v := 2) hx hb dX10_tried_68 (by decide) ?_
              refine lv_icmp_ne (tgt := 119) hx hb dX10_tried_69 (by decide) (fun c_69 => ?_) (fun c => absurd c (c_7))
              refine lv_iconst (v := 0) hx hb dX10_tried_119 (by decide) ?_
              refine lv_istore (lv' := [(5, .int 0), (4, .int 1), (0, .ref (A 60 0)), (1, .int z), (2, .int z2), (3, .int z3)]) hx hb dX10_tried_120 hl (by decide) rfl (fun ls hl => ?_)
              refine lv_iload hx hb dX10_tried_122 (lv_at hl 0 rfl) ?_
              refine lv_aload_n hx hb dX10_tried_124 rfl (lv_at hl 2 rfl) ?_
              refine ti_get (ci := 10) (k := 3) (N := 67) (T := TX10) (v := .ref (A 60 4)) C hw iw_10 rfl ob_60 (by decide) (by decide) fl_X10_13 rfl rfl dX10_tried_125 ?_
              refine lv_iconst (v := 0) hx hb dX10_tried_128 (by decide) ?_
              refine ti_iald (ci := 10) (k := 3) (n := 22) C hw ob_60 (by decide) (fun _ _ => rfl) (by unfold vp_in; decide) dX10_tried_129 ?_
              refine ti_top (y := 0) ((congrFun (rfl) 0).trans n0) ?_
              refine lv_icmp_ge (tgt := 170) hx hb dX10_tried_130 (by decide) (fun c_130 => ?_) (fun c => absurd (by decide) c)
              refine lv_aload_n hx hb dX10_tried_170 rfl (lv_at hl 2 rfl) ?_
              refine lv_iload_n hx hb dX10_tried_171 rfl (lv_at hl 3 rfl) ?_
              refine ti_putI (ci := 10) (k := 53) (N := 67) (T := TX10) C hw iw_10 tyX10 tyX10_ok nmX10 rfl ob_60 (by decide) (by decide) fl_X10_120 rfl rfl rfl rfl (fn_10 A _) fs_10_53 dX10_tried_172 (fun H locs hw => ?_)
              refine lv_aload_n hx hb dX10_tried_175 rfl (lv_at hl 2 rfl) ?_
              refine lv_iload_n hx hb dX10_tried_176 rfl (lv_at hl 5 rfl) ?_
              refine ti_callVv (ci := 10) (av := [.int z3]) C hw (k_X10_runs l D A cy hJ (uI M_4 60 53 z) z3 ⟨((tI_k _ _ _ _ (by decide)).trans m_taped), ((tI_k _ _ _ _ (by decide)).trans m_lf), ((tI_k _ _ _ _ (by decide)).trans m_lp), ((tI_k _ _ _ _ (by decide)).trans m_hi), ((tI_k _ _ _ _ (by decide)).trans m_un), ((tI_k _ _ _ _ (by decide)).trans m_st), ((tI_k _ _ _ _ (by decide)).trans m_kb), ((congrFun ((tY_uI _ _ _ _ _ _).trans rfl) 0).trans n0), ((congrFun ((tY_uI _ _ _ _ _ _).trans rfl) 3).trans n3), ((congrFun ((tY_uI _ _ _ _ _ _).trans rfl) 5).trans n5), ((congrFun ((tY_uI _ _ _ _ _ _).trans rfl) 7).trans n7), ((congrFun ((tY_uI _ _ _ _ _ _).trans rfl) 0).trans mi0), ((congrFun ((tY_uI _ _ _ _ _ _).trans rfl) 0).trans wa0), ((congrFun ((tY_uI _ _ _ _ _ _).trans rfl) 0).trans co0), ((congrFun ((tY_uI _ _ _ _ _ _).trans rfl) 0).trans ma0), ((congrFun ((tY_uI _ _ _ _ _ _).trans rfl) 0).trans pw0), ((congrFun ((tY_uI _ _ _ _ _ _).trans rfl) 1).trans pw1), ((congrFun ((tY_uI _ _ _ _ _ _).trans rfl) 2).trans pw2), sf, sto⟩ ((congrFun ((tY_uI _ _ _ _ _ _).trans rfl) 1).trans k38_4) (ti_ntr ((congrFun ((tY_uI _ _ _ _ _ _).trans rfl) 5).trans k49_4) (by decide))) ⟨ml_X10_445, ym_X10_runs, yv_X10_runs, yi_X10_runs, yc_X10_runs⟩ yd_X10_runs ob_60 (by decide) rfl rfl hl.1 (Nat.le_of_ble_eq_true rfl) ⟨by decide, by decide⟩ ⟨Nat.zero_le _, Nat.zero_le _⟩ dX10_tried_177 (fun M_6 H locs hp_6 hw => ?_)
              obtain ⟨hF, h38, hpw⟩ := hp_6
              obtain ⟨m_taped, m_lf, m_lp, m_hi, m_un, m_st, m_kb, n0, n3, n5, n7, mi0, wa0, co0, ma0, pw0, pw1, pw2, sf, sto⟩ := id hF
              refine lv_aload_n hx hb dX10_tried_180 rfl (lv_at hl 2 rfl) ?_
              refine lv_iconst (v := (-1)) hx hb dX10_tried_181 (by decide) ?_
              refine ti_putI (ci := 10) (k := 53) (N := 67) (T := TX10) C hw iw_10 tyX10 tyX10_ok nmX10 rfl ob_60 (by decide) (by decide) fl_X10_120 rfl rfl rfl rfl (fn_10 A _) fs_10_53 dX10_tried_182 (fun H locs hw => ?_)
              refine lv_aload_n hx hb dX10_tried_185 rfl (lv_at hl 2 rfl) ?_
              refine lv_iconst (v := 1) hx hb dX10_tried_186 (by decide) ?_
              refine ti_callVi (ci := 10) (av := [.int 1]) C hw (k_servedMany_1 l D A cy hJ (uI M_6 60 53 (-1)) ((congrFun ((tY_uI _ _ _ _ _ _).trans rfl) 0).trans n0)) ⟨ml_X10_491, ym_X10_servedMany, yv_X10_servedMany, yi_X10_servedMany, yc_X10_servedMany⟩ yd_X10_servedMany ob_60 (by decide) rfl rfl hl.1 (Nat.le_of_ble_eq_true rfl) ⟨by decide, by decide⟩ ⟨Nat.zero_le _, Nat.zero_le _⟩ dX10_tried_187 (fun r_7 M_8 H locs hp_8 hw => ?_)
              obtain ⟨hm, rfl⟩ := hp_8
              have hw := hw.to hm
              exact hQ _ _ _ _ _ _ hw rfl (by unfold pf_tried; (try simp only [Int32.lt_iff_toInt_lt, Int32.le_iff_toInt_le, ← Int32.toInt_inj, ti_l0, ti_l1, ti_l2, ti_l3, ti_l5, ti_l7, ti_l8, ti_l24, ti_l59, ti_l60, ti_l119, ti_l120, ti_lm1, ti_lm2] at c_7); (try simp only [Int32.lt_iff_toInt_lt, Int32.le_iff_toInt_le, ← Int32.toInt_inj, ti_l0, ti_l1, ti_l2, ti_l3, ti_l5, ti_l7, ti_l8, ti_l24, ti_l59, ti_l60, ti_l119, ti_l120, ti_lm1, ti_lm2] at c_19); (try simp only [Int32.lt_iff_toInt_lt, Int32.le_iff_toInt_le, ← Int32.toInt_inj, ti_l0, ti_l1, ti_l2, ti_l3, ti_l5, ti_l7, ti_l8, ti_l24, ti_l59, ti_l60, ti_l119, ti_l120, ti_lm1, ti_lm2] at c_24); (try simp only [Int32.lt_iff_toInt_lt, Int32.le_iff_toInt_le, ← Int32.toInt_inj, ti_l0, ti_l1, ti_l2, ti_l3, ti_l5, ti_l7, ti_l8, ti_l24, ti_l59, ti_l60, ti_l119, ti_l120, ti_lm1, ti_lm2] at c_28); (try simp only [Int32.lt_iff_toInt_lt, Int32.le_iff_toInt_le, ← Int32.toInt_inj, ti_l0, ti_l1, ti_l2, ti_l3, ti_l5, ti_l7, ti_l8, ti_l24, ti_l59, ti_l60, ti_l119, ti_l120, ti_lm1, ti_lm2] at c_40); (try simp only [Int32.lt_iff_toInt_lt, Int32.le_iff_toInt_le, ← Int32.toInt_inj, ti_l0, ti_l1, ti_l2, ti_l3, ti_l5, ti_l7, ti_l8, ti_l24, ti_l59, ti_l60, ti_l119, ti_l120, ti_lm1, ti_lm2] at c_44); (try simp only [Int32.lt_iff_toInt_lt, Int32.le_iff_toInt_le, ← Int32.toInt_inj, ti_l0, ti_l1, ti_l2, ti_l3, ti_l5, ti_l7, ti_l8, ti_l24, ti_l59, ti_l60, ti_l119, ti_l120, ti_lm1, ti_lm2] at c_50); (try simp only [Int32.lt_iff_toInt_lt, Int32.le_iff_toInt_le, ← Int32.toInt_inj, ti_l0, ti_l1, ti_l2, ti_l3, ti_l5, ti_l7, ti_l8, ti_l24, ti_l59, ti_l60, ti_l119, ti_l120, ti_lm1, ti_lm2] at c_58); (try simp only [Int32.lt_iff_toInt_lt, Int32.le_iff_toInt_le, ← Int32.toInt_inj, ti_l0, ti_l1, ti_l2, ti_l3, ti_l5, ti_l7, ti_l8, ti_l24, ti_l59, ti_l60, ti_l119, ti_l120, ti_lm1, ti_lm2] at c_69); (try simp only [Int32.lt_iff_toInt_lt, Int32.le_iff_toInt_le, ← Int32.toInt_inj, ti_l0, ti_l1, ti_l2, ti_l3, ti_l5, ti_l7, ti_l8, ti_l24, ti_l59, ti_l60, ti_l119, ti_l120, ti_lm1, ti_lm2] at c_130); (try simp only [Int32.lt_iff_toInt_lt, Int32.le_iff_toInt_le, ← Int32.toInt_inj, ti_l0, ti_l1, ti_l2, ti_l3, ti_l5, ti_l7, ti_l8, ti_l24, ti_l59, ti_l60, ti_l119, ti_l120, ti_lm1, ti_lm2]); (repeat' split) <;> first | rfl | omega) dX10_tried_190
  · refine lv_aload_n hx hb dX10_tried_10 rfl (lv_at hl 0 rfl) ?_
    refine lv_iload_n hx hb dX10_tried_11 rfl (lv_at hl 2 rfl) ?_
    refine ti_callVi (ci := 10) (av := [.int z2]) C hw (k_X10_isMan l D A cy hJ (uI M 60 0 0) ⟨((tI_k _ _ _ _ (by decide)).trans m_taped), ((tI_k _ _ _ _ (by decide)).trans m_lf), ((tI_k _ _ _ _ (by decide)).trans m_lp), ((tI_k _ _ _ _ (by decide)).trans m_hi), ((tI_k _ _ _ _ (by decide)).trans m_un), ((tI_k _ _ _ _ (by decide)).trans m_st), ((tI_k _ _ _ _ (by decide)).trans m_kb), ((congrFun ((tY_uI _ _ _ _ _ _).trans rfl) 0).trans n0), ((congrFun ((tY_uI _ _ _ _ _ _).trans rfl) 3).trans n3), ((congrFun ((tY_uI _ _ _ _ _ _).trans rfl) 5).trans n5), ((congrFun ((tY_uI _ _ _ _ _ _).trans rfl) 7).trans n7), ((congrFun ((tY_uI _ _ _ _ _ _).trans rfl) 0).trans mi0), ((congrFun ((tY_uI _ _ _ _ _ _).trans rfl) 0).trans wa0), ((congrFun ((tY_uI _ _ _ _ _ _).trans rfl) 0).trans co0), ((congrFun ((tY_uI _ _ _ _ _ _).trans rfl) 0).trans ma0), ((congrFun ((tY_uI _ _ _ _ _ _).trans rfl) 0).trans pw0), ((congrFun ((tY_uI _ _ _ _ _ _).trans rfl) 1).trans pw1), ((congrFun ((tY_uI _ _ _ _ _ _).trans rfl) 2).trans pw2), sf, sto⟩ z2) ⟨ml_X10_356, ym_X10_isMan, yv_X10_isMan, yi_X10_isMan, yc_X10_isMan⟩ yd_X10_isMan ob_60 (by decide) rfl rfl hl.1 (Nat.le_of_ble_eq_true rfl) ⟨by decide, by decide⟩ ⟨Nat.zero_le _, Nat.zero_le _⟩ dX10_tried_12 (fun r_9 M_10 H locs hp_10 hw => ?_)
    obtain ⟨hm, rfl⟩ := hp_10
    have hw := hw.to hm
    refine lv_goto (tgt := 36) hx hb dX10_tried_15 (by decide) ?_
    refine lv_istore (lv' := [(4, .int 0), (0, .ref (A 60 0)), (1, .int z), (2, .int z2), (3, .int z3)]) hx hb dX10_tried_36 hl (by decide) rfl (fun ls hl => ?_)
    refine lv_iload hx hb dX10_tried_38 (lv_at hl 0 rfl) ?_
    refine lv_if_eq (tgt := 61) hx hb dX10_tried_40 (by decide) (fun c_40 => ?_) (fun c => absurd (by decide) c)
    refine lv_iconst (v := (-1)) hx hb dX10_tried_61 (by decide) ?_
    exact hQ _ _ _ _ _ _ hw rfl (by unfold pf_tried; (try simp only [Int32.lt_iff_toInt_lt, Int32.le_iff_toInt_le, ← Int32.toInt_inj, ti_l0, ti_l1, ti_l2, ti_l3, ti_l5, ti_l7, ti_l8, ti_l24, ti_l59, ti_l60, ti_l119, ti_l120, ti_lm1, ti_lm2] at c_7); (try simp only [Int32.lt_iff_toInt_lt, Int32.le_iff_toInt_le, ← Int32.toInt_inj, ti_l0, ti_l1, ti_l2, ti_l3, ti_l5, ti_l7, ti_l8, ti_l24, ti_l59, ti_l60, ti_l119, ti_l120, ti_lm1, ti_lm2] at c_40); (try simp only [Int32.lt_iff_toInt_lt, Int32.le_iff_toInt_le, ← Int32.toInt_inj, ti_l0, ti_l1, ti_l2, ti_l3, ti_l5, ti_l7, ti_l8, ti_l24, ti_l59, ti_l60, ti_l119, ti_l120, ti_lm1, ti_lm2]); (repeat' split) <;> first | rfl | omega) dX10_tried_62
theorem ti_hix {x y tt p : Int32} (e1 : x = 3 * tt) (e2 : y = x + p) (h0 : 0 ≤ tt.toInt) (h1 : tt.toInt < 120) (hp : 0 ≤ p.toInt) (hq : p.toInt ≤ 2) : vp_in y 720 := by
  have h3 : x.toInt = 3 * tt.toInt := by
    rw [e1, Int32.toInt_mul, ti_l3, Int.bmod_def]; split <;> omega
  have h4 : y.toInt = 3 * tt.toInt + p.toInt := by
    rw [e2, Int32.toInt_add, h3, Int.bmod_def]; split <;> omega
  rw [vp_in_iff, h4]; omega
set_option maxHeartbeats 4000000 in
set_option maxRecDepth 100000 in
theorem k_X10_go (l : Launch) (D : va_G) (A : Nat → Nat → Nat) (cy : Nat → ClassId) (hJ : ti_inj ti_LM A) (M : ti_M) (hF : ti_FM M) (z : Int32) : ti_Ki l yX10_go cX10_go 5 (some .int) 2 ti_LM D A cy M [.ref (A 60 0), .int z] (fun r _ => r = pf_go z) := by
  refine ti_eI yp_X10_go hJ ti_LM_nd (Nat.le_of_ble_eq_true rfl) ?_
  intro p e s m args below meth c Q H0 C hQ hw ls hl
  have hx := C.1
  have hb := C.2.1
  have hl : lv_has ls 5 [(0, .ref (A 60 0)), (1, .int z)] := hl
  obtain ⟨m_taped, m_lf, m_lp, m_hi, m_un, m_st, m_kb, n0, n3, n5, n7, mi0, wa0, co0, ma0, pw0, pw1, pw2, sf, sto⟩ := id hF
  refine lv_aload_n hx hb dX10_go_0 rfl (lv_at hl 0 rfl) ?_
  refine lv_iconst (v := 0) hx hb dX10_go_1 (by decide) ?_
  refine ti_putI (ci := 10) (k := 0) (N := 67) (T := TX10) C hw iw_10 tyX10 tyX10_ok nmX10 rfl ob_60 (by decide) (by decide) fl_X10_154 rfl rfl rfl rfl (fn_10 A _) fs_10_0 dX10_go_2 (fun H locs hw => ?_)
  refine lv_iload_n hx hb dX10_go_5 rfl (lv_at hl 1 rfl) ?_
  refine lv_if_lt (tgt := 23) hx hb dX10_go_6 (by decide) (fun c_6 => ?_) (fun c_6 => ?_)
  · refine lv_iconst (v := (-1)) hx hb dX10_go_23 (by decide) ?_
    exact hQ _ _ _ _ _ _ hw rfl (by unfold pf_go; (try simp only [Int32.lt_iff_toInt_lt, Int32.le_iff_toInt_le, ← Int32.toInt_inj, ti_l0, ti_l1, ti_l2, ti_l3, ti_l5, ti_l7, ti_l8, ti_l24, ti_l59, ti_l60, ti_l119, ti_l120, ti_lm1, ti_lm2] at c_6); (try simp only [Int32.lt_iff_toInt_lt, Int32.le_iff_toInt_le, ← Int32.toInt_inj, ti_l0, ti_l1, ti_l2, ti_l3, ti_l5, ti_l7, ti_l8, ti_l24, ti_l59, ti_l60, ti_l119, ti_l120, ti_lm1, ti_lm2]); (repeat' split) <;> first | rfl | omega) dX10_go_24
  · refine lv_iload_n hx hb dX10_go_9 rfl (lv_at hl 1 rfl) ?_
    refine lv_bipush (v := 120) hx hb dX10_go_10 (by decide) ?_
    refine lv_icmp_gt (tgt := 23) hx hb dX10_go_12 (by decide) (fun c_12 => ?_) (fun c_12 => ?_)
    · refine lv_iconst (v := (-1)) hx hb dX10_go_23 (by decide) ?_
      exact hQ _ _ _ _ _ _ hw rfl (by unfold pf_go; (try simp only [Int32.lt_iff_toInt_lt, Int32.le_iff_toInt_le, ← Int32.toInt_inj, ti_l0, ti_l1, ti_l2, ti_l3, ti_l5, ti_l7, ti_l8, ti_l24, ti_l59, ti_l60, ti_l119, ti_l120, ti_lm1, ti_lm2] at c_6); (try simp only [Int32.lt_iff_toInt_lt, Int32.le_iff_toInt_le, ← Int32.toInt_inj, ti_l0, ti_l1, ti_l2, ti_l3, ti_l5, ti_l7, ti_l8, ti_l24, ti_l59, ti_l60, ti_l119, ti_l120, ti_lm1, ti_lm2] at c_12); (try simp only [Int32.lt_iff_toInt_lt, Int32.le_iff_toInt_le, ← Int32.toInt_inj, ti_l0, ti_l1, ti_l2, ti_l3, ti_l5, ti_l7, ti_l8, ti_l24, ti_l59, ti_l60, ti_l119, ti_l120, ti_lm1, ti_lm2]); (repeat' split) <;> first | rfl | omega) dX10_go_24
    · refine lv_iload_n hx hb dX10_go_15 rfl (lv_at hl 1 rfl) ?_
      refine lv_aload_n hx hb dX10_go_16 rfl (lv_at hl 0 rfl) ?_
      refine ti_callVi (ci := 10) (av := []) C hw (k_X10_minutesLeft l D A cy hJ (uI M 60 0 0) ⟨((tI_k _ _ _ _ (by decide)).trans m_taped), ((tI_k _ _ _ _ (by decide)).trans m_lf), ((tI_k _ _ _ _ (by decide)).trans m_lp), ((tI_k _ _ _ _ (by decide)).trans m_hi), ((tI_k _ _ _ _ (by decide)).trans m_un), ((tI_k _ _ _ _ (by decide)).trans m_st), ((tI_k _ _ _ _ (by decide)).trans m_kb), ((congrFun ((tY_uI _ _ _ _ _ _).trans rfl) 0).trans n0), ((congrFun ((tY_uI _ _ _ _ _ _).trans rfl) 3).trans n3), ((congrFun ((tY_uI _ _ _ _ _ _).trans rfl) 5).trans n5), ((congrFun ((tY_uI _ _ _ _ _ _).trans rfl) 7).trans n7), ((congrFun ((tY_uI _ _ _ _ _ _).trans rfl) 0).trans mi0), ((congrFun ((tY_uI _ _ _ _ _ _).trans rfl) 0).trans wa0), ((congrFun ((tY_uI _ _ _ _ _ _).trans rfl) 0).trans co0), ((congrFun ((tY_uI _ _ _ _ _ _).trans rfl) 0).trans ma0), ((congrFun ((tY_uI _ _ _ _ _ _).trans rfl) 0).trans pw0), ((congrFun ((tY_uI _ _ _ _ _ _).trans rfl) 1).trans pw1), ((congrFun ((tY_uI _ _ _ _ _ _).trans rfl) 2).trans pw2), sf, sto⟩) ⟨ml_X10_430, ym_X10_minutesLeft, yv_X10_minutesLeft, yi_X10_minutesLeft, yc_X10_minutesLeft⟩ yd_X10_minutesLeft ob_60 (by decide) rfl rfl hl.1 (Nat.le_of_ble_eq_true rfl) ⟨by decide, by decide⟩ ⟨Nat.zero_le _, Nat.zero_le _⟩ dX10_go_17 (fun r_1 M_2 H locs hp_2 hw => ?_)
      obtain ⟨hm, rfl⟩ := hp_2
      have hw := hw.to hm
      refine lv_icmp_le (tgt := 25) hx hb dX10_go_20 (by decide) (fun c_20 => ?_) (fun c => absurd ((by (try simp only [Int32.lt_iff_toInt_lt, Int32.le_iff_toInt_le, ← Int32.toInt_inj, ti_l0, ti_l1, ti_l2, ti_l3, ti_l5, ti_l7, ti_l8, ti_l24, ti_l59, ti_l60, ti_l119, ti_l120, ti_lm1, ti_lm2] at c_6); (try simp only [Int32.lt_iff_toInt_lt, Int32.le_iff_toInt_le, ← Int32.toInt_inj, ti_l0, ti_l1, ti_l2, ti_l3, ti_l5, ti_l7, ti_l8, ti_l24, ti_l59, ti_l60, ti_l119, ti_l120, ti_lm1, ti_lm2] at c_12); (try simp only [Int32.lt_iff_toInt_lt, Int32.le_iff_toInt_le, ← Int32.toInt_inj, ti_l0, ti_l1, ti_l2, ti_l3, ti_l5, ti_l7, ti_l8, ti_l24, ti_l59, ti_l60, ti_l119, ti_l120, ti_lm1, ti_lm2]); omega)) c)
      refine lv_iload_n hx hb dX10_go_25 rfl (lv_at hl 1 rfl) ?_
      refine lv_if_le (tgt := 34) hx hb dX10_go_26 (by decide) (fun c_26 => ?_) (fun c_26 => ?_)
      · refine lv_iconst (v := 0) hx hb dX10_go_34 (by decide) ?_
        refine lv_istore_n (lv' := [(2, .int 0), (0, .ref (A 60 0)), (1, .int z)]) hx hb dX10_go_35 rfl hl (by decide) rfl (fun ls hl => ?_)
        suffices hloop : ∀ (n : Nat) (tt : Int32) (Mx : ti_M) (H : Heap) (locs : List Loc) (ls : Array Slot), ((z.toInt - tt.toInt).toNat < n) → (tY Mx 60 3 0 = 0) → (tY Mx 60 3 3 = 10) → (tY Mx 60 3 5 = 0) → (tY Mx 60 38 0 = 0) → (tY Mx 60 49 0 = 0) → (tY Mx 60 49 1 = 1) → (tY Mx 60 49 2 = 2) → (tY Mx 60 34 0 = tt) → (0 ≤ tt.toInt ∧ z.toInt ≤ 120) → (tt.toInt ≤ z.toInt) → ti_H ti_LM D A cy H0 Mx H locs → lv_has ls 5 [(2, .int tt), (0, .ref (A 60 0)), (1, .int z)] → W p l e (ti_rm 2) s m args below meth c H locs 0 0 Q (F0 m 36 ls []) from hloop (z.toInt.toNat + 1) 0 (uI M 60 0 0) _ _ _ (by simp only [ti_l0]; omega) ((congrFun ((tY_uI _ _ _ _ _ _).trans rfl) 0).trans n0) ((congrFun ((tY_uI _ _ _ _ _ _).trans rfl) 3).trans n3) ((congrFun ((tY_uI _ _ _ _ _ _).trans rfl) 5).trans n5) ((congrFun ((tY_uI _ _ _ _ _ _).trans rfl) 0).trans ma0) ((congrFun ((tY_uI _ _ _ _ _ _).trans rfl) 0).trans pw0) ((congrFun ((tY_uI _ _ _ _ _ _).trans rfl) 1).trans pw1) ((congrFun ((tY_uI _ _ _ _ _ _).trans rfl) 2).trans pw2) ((congrFun ((tY_uI _ _ _ _ _ _).trans rfl) 0).trans mi0) (by (try simp only [Int32.lt_iff_toInt_lt, Int32.le_iff_toInt_le, ← Int32.toInt_inj, ti_l0, ti_l1, ti_l2, ti_l3, ti_l5, ti_l7, ti_l8, ti_l24, ti_l59, ti_l60, ti_l119, ti_l120, ti_lm1, ti_lm2] at c_6); (try simp only [Int32.lt_iff_toInt_lt, Int32.le_iff_toInt_le, ← Int32.toInt_inj, ti_l0, ti_l1, ti_l2, ti_l3, ti_l5, ti_l7, ti_l8, ti_l24, ti_l59, ti_l60, ti_l119, ti_l120, ti_lm1, ti_lm2] at c_12); (try simp only [Int32.lt_iff_toInt_lt, Int32.le_iff_toInt_le, ← Int32.toInt_inj, ti_l0, ti_l1, ti_l2, ti_l3, ti_l5, ti_l7, ti_l8, ti_l24, ti_l59, ti_l60, ti_l119, ti_l120, ti_lm1, ti_lm2] at c_20); (try simp only [Int32.lt_iff_toInt_lt, Int32.le_iff_toInt_le, ← Int32.toInt_inj, ti_l0, ti_l1, ti_l2, ti_l3, ti_l5, ti_l7, ti_l8, ti_l24, ti_l59, ti_l60, ti_l119, ti_l120, ti_lm1, ti_lm2] at c_26); (try simp only [Int32.lt_iff_toInt_lt, Int32.le_iff_toInt_le, ← Int32.toInt_inj, ti_l0, ti_l1, ti_l2, ti_l3, ti_l5, ti_l7, ti_l8, ti_l24, ti_l59, ti_l60, ti_l119, ti_l120, ti_lm1, ti_lm2]); omega) (by (try simp only [Int32.lt_iff_toInt_lt, Int32.le_iff_toInt_le, ← Int32.toInt_inj, ti_l0, ti_l1, ti_l2, ti_l3, ti_l5, ti_l7, ti_l8, ti_l24, ti_l59, ti_l60, ti_l119, ti_l120, ti_lm1, ti_lm2] at c_6); (try simp only [Int32.lt_iff_toInt_lt, Int32.le_iff_toInt_le, ← Int32.toInt_inj, ti_l0, ti_l1, ti_l2, ti_l3, ti_l5, ti_l7, ti_l8, ti_l24, ti_l59, ti_l60, ti_l119, ti_l120, ti_lm1, ti_lm2] at c_12); (try simp only [Int32.lt_iff_toInt_lt, Int32.le_iff_toInt_le, ← Int32.toInt_inj, ti_l0, ti_l1, ti_l2, ti_l3, ti_l5, ti_l7, ti_l8, ti_l24, ti_l59, ti_l60, ti_l119, ti_l120, ti_lm1, ti_lm2] at c_20); (try simp only [Int32.lt_iff_toInt_lt, Int32.le_iff_toInt_le, ← Int32.toInt_inj, ti_l0, ti_l1, ti_l2, ti_l3, ti_l5, ti_l7, ti_l8, ti_l24, ti_l59, ti_l60, ti_l119, ti_l120, ti_lm1, ti_lm2] at c_26); (try simp only [Int32.lt_iff_toInt_lt, Int32.le_iff_toInt_le, ← Int32.toInt_inj, ti_l0, ti_l1, ti_l2, ti_l3, ti_l5, ti_l7, ti_l8, ti_l24, ti_l59, ti_l60, ti_l119, ti_l120, ti_lm1, ti_lm2]); omega) hw (lv_sub hl [0, 1, 2] rfl)
        clear hw hl ls
        intro n
        induction n with
        | zero => intro tt Mx H locs ls hfuel n0 n3 n5 ma0 pw0 pw1 pw2 hmi h0 hle hw hl; exact absurd hfuel (by omega)
        | succ n ih =>
          intro tt Mx H locs ls hfuel n0 n3 n5 ma0 pw0 pw1 pw2 hmi h0 hle hw hl
          refine lv_iload_n hx hb dX10_go_36 rfl (lv_at hl 0 rfl) ?_
          refine lv_iload_n hx hb dX10_go_37 rfl (lv_at hl 2 rfl) ?_
          refine lv_icmp_ge (tgt := 98) hx hb dX10_go_38 (by decide) (fun c_38 => ?_) (fun c_38 => ?_)
          · refine lv_aload_n hx hb dX10_go_98 rfl (lv_at hl 1 rfl) ?_
            refine ti_get (ci := 10) (k := 34) (N := 67) (T := TX10) (v := .ref (A 60 35)) C hw iw_10 rfl ob_60 (by decide) (by decide) fl_X10_69 rfl rfl dX10_go_99 ?_
            refine lv_iconst (v := 0) hx hb dX10_go_102 (by decide) ?_
            refine ti_iald (ci := 10) (k := 34) (n := 23) C hw ob_60 (by decide) (fun _ _ => rfl) (by unfold vp_in; decide) dX10_go_103 ?_
            refine ti_top (y := tt) ((congrFun (rfl) 0).trans hmi) ?_
            exact hQ _ _ _ _ _ _ hw rfl (ti_gor h0 hle c_38) dX10_go_104
          · have hin := ti_inc (un := z) c_38
            refine lv_aload_n hx hb dX10_go_41 rfl (lv_at hl 1 rfl) ?_
            refine ti_get (ci := 10) (k := 34) (N := 67) (T := TX10) (v := .ref (A 60 35)) C hw iw_10 rfl ob_60 (by decide) (by decide) fl_X10_69 rfl rfl dX10_go_42 ?_
            refine lv_iconst (v := 0) hx hb dX10_go_45 (by decide) ?_
            refine ti_iald (ci := 10) (k := 34) (n := 23) C hw ob_60 (by decide) (fun _ _ => rfl) (by unfold vp_in; decide) dX10_go_46 ?_
            refine ti_top (y := tt) ((congrFun (rfl) 0).trans hmi) ?_
            refine lv_istore_n (lv' := [(3, .int tt), (2, .int tt), (0, .ref (A 60 0)), (1, .int z)]) hx hb dX10_go_47 rfl hl (by decide) rfl (fun ls hl => ?_)
            refine lv_aload_n hx hb dX10_go_48 rfl (lv_at hl 2 rfl) ?_
            refine lv_iconst (v := 0) hx hb dX10_go_49 (by decide) ?_
            refine lv_iconst (v := 1) hx hb dX10_go_50 (by decide) ?_
            refine ti_callVv (ci := 10) (av := [.int 0, .int 1]) C hw (k_passes_0 l D A cy hJ Mx 1 ((congrFun (rfl) 0).trans n0) ((congrFun (rfl) 3).trans n3) ((congrFun (rfl) 5).trans n5) ((congrFun (rfl) 0).trans ma0) (ti_ntr ((congrFun (rfl) 2).trans pw2) (by decide))) ⟨ml_X10_407, ym_X10_passes, yv_X10_passes, yi_X10_passes, yc_X10_passes⟩ yd_X10_passes ob_60 (by decide) rfl rfl hl.1 (Nat.le_of_ble_eq_true rfl) ⟨by decide, by decide⟩ ⟨Nat.zero_le _, Nat.zero_le _⟩ dX10_go_51 (fun M_4 H locs hp_4 hw => ?_)
            obtain ⟨ga_4, gb_4, hm, hna_4, hq_4, hnb_4⟩ := hp_4
            have hw := hw.to hm
            refine lv_iconst (v := 0) hx hb dX10_go_54 (by decide) ?_
            refine lv_istore (lv' := [(4, .int 0), (3, .int tt), (2, .int tt), (0, .ref (A 60 0)), (1, .int z)]) hx hb dX10_go_55 hl (by decide) rfl (fun ls hl => ?_)
            refine lv_iload hx hb dX10_go_57 (lv_at hl 0 rfl) ?_
            refine lv_iconst (v := 3) hx hb dX10_go_59 (by decide) ?_
            refine lv_icmp_ge (tgt := 92) hx hb dX10_go_60 (by decide) (fun c => absurd c (by decide)) (fun c_60 => ?_)
            refine lv_aload_n hx hb dX10_go_63 rfl (lv_at hl 3 rfl) ?_
            refine ti_get (ci := 10) (k := 50) (N := 67) (T := TX10) (v := .ref (A 60 51)) C hw iw_10 rfl ob_60 (by decide) (by decide) fl_X10_117 rfl rfl dX10_go_64 ?_
            refine lv_iconst (v := 3) hx hb dX10_go_67 (by decide) ?_
            refine lv_iload_n hx hb dX10_go_68 rfl (lv_at hl 1 rfl) ?_
            refine lv_imul hx hb dX10_go_69 ?_
            refine lv_topi (fun x_5 ex_5 => ?_)
            refine lv_iload hx hb dX10_go_70 (lv_at hl 0 rfl) ?_
            refine lv_iadd hx hb dX10_go_72 ?_
            refine lv_topi (fun x_6 ex_6 => ?_)
            refine lv_aload_n hx hb dX10_go_73 rfl (lv_at hl 3 rfl) ?_
            refine lv_iconst (v := 0) hx hb dX10_go_74 (by decide) ?_
            refine lv_aload_n hx hb dX10_go_75 rfl (lv_at hl 3 rfl) ?_
            refine ti_get (ci := 10) (k := 49) (N := 67) (T := TX10) (v := .ref (A 60 50)) C hw iw_10 rfl ob_60 (by decide) (by decide) fl_X10_114 rfl rfl dX10_go_76 ?_
            refine lv_iload hx hb dX10_go_79 (lv_at hl 0 rfl) ?_
            refine ti_iald (ci := 10) (k := 49) (n := 69) C hw ob_60 (by decide) (fun _ _ => rfl) (by unfold vp_in; decide) dX10_go_81 ?_
            refine ti_top (y := 0) ((congrFun ((tY_k _ _ _ _ (by decide)).trans ((tY_k _ _ _ _ (by decide)).trans rfl)) 0).trans pw0) ?_
            refine ti_callVi (ci := 10) (av := [.int 0, .int 0]) C hw (k_standsAt_0 l D A cy hJ (uY (uY Mx 60 37 ga_4) 60 34 gb_4) 0 ((congrFun ((tY_k _ _ _ _ (by decide)).trans ((tY_k _ _ _ _ (by decide)).trans rfl)) 0).trans ma0) (by decide)) ⟨ml_X10_417, ym_X10_standsAt, yv_X10_standsAt, yi_X10_standsAt, yc_X10_standsAt⟩ yd_X10_standsAt ob_60 (by decide) rfl rfl hl.1 (Nat.le_of_ble_eq_true rfl) ⟨by decide, by decide⟩ ⟨Nat.zero_le _, Nat.zero_le _⟩ dX10_go_82 (fun r_7 M_8 H locs hp_8 hw => ?_)
            obtain ⟨hm, rfl⟩ := hp_8
            have hw := hw.to hm
            refine ti_iastG (ci := 10) (k := 50) (n := 720) C hw ob_60 (by decide) (fun _ _ => rfl) (ti_hix ex_5 ex_6 h0.1 (by omega) (by decide) (by decide)) dX10_go_85 (fun H locs g_9 eg_9 hw => ?_)
            refine lv_iinc (v := 1) (lv' := [(4, .int 1), (3, .int tt), (2, .int tt), (0, .ref (A 60 0)), (1, .int z)]) hx hb dX10_go_86 hl (k := 0) rfl (by decide) (by decide) rfl (fun ls hl => ?_)
            refine lv_goto (tgt := 57) hx hb dX10_go_89 (by decide) ?_
            refine lv_iload hx hb dX10_go_57 (lv_at hl 0 rfl) ?_
            refine lv_iconst (v := 3) hx hb dX10_go_59 (by decide) ?_
            refine lv_icmp_ge (tgt := 92) hx hb dX10_go_60 (by decide) (fun c => absurd c (by decide)) (fun c_60 => ?_)
            refine lv_aload_n hx hb dX10_go_63 rfl (lv_at hl 3 rfl) ?_
            refine ti_get (ci := 10) (k := 50) (N := 67) (T := TX10) (v := .ref (A 60 51)) C hw iw_10 rfl ob_60 (by decide) (by decide) fl_X10_117 rfl rfl dX10_go_64 ?_
            refine lv_iconst (v := 3) hx hb dX10_go_67 (by decide) ?_
            refine lv_iload_n hx hb dX10_go_68 rfl (lv_at hl 1 rfl) ?_
            refine lv_imul hx hb dX10_go_69 ?_
            refine lv_topi (fun x_10 ex_10 => ?_)
            refine lv_iload hx hb dX10_go_70 (lv_at hl 0 rfl) ?_
            refine lv_iadd hx hb dX10_go_72 ?_
            refine lv_topi (fun x_11 ex_11 => ?_)
            refine lv_aload_n hx hb dX10_go_73 rfl (lv_at hl 3 rfl) ?_
            refine lv_iconst (v := 0) hx hb dX10_go_74 (by decide) ?_
            refine lv_aload_n hx hb dX10_go_75 rfl (lv_at hl 3 rfl) ?_
            refine ti_get (ci := 10) (k := 49) (N := 67) (T := TX10) (v := .ref (A 60 50)) C hw iw_10 rfl ob_60 (by decide) (by decide) fl_X10_114 rfl rfl dX10_go_76 ?_
            refine lv_iload hx hb dX10_go_79 (lv_at hl 0 rfl) ?_
            refine ti_iald (ci := 10) (k := 49) (n := 69) C hw ob_60 (by decide) (fun _ _ => rfl) (by unfold vp_in; decide) dX10_go_81 ?_
            refine ti_top (y := 1) ((congrFun ((tY_k _ _ _ _ (by decide)).trans ((tY_k _ _ _ _ (by decide)).trans ((tY_k _ _ _ _ (by decide)).trans rfl))) 1).trans pw1) ?_
            refine ti_callVi (ci := 10) (av := [.int 0, .int 1]) C hw (k_standsAt_0 l D A cy hJ (uY (uY (uY Mx 60 37 ga_4) 60 34 gb_4) 60 50 g_9) 1 ((congrFun ((tY_k _ _ _ _ (by decide)).trans ((tY_k _ _ _ _ (by decide)).trans ((tY_k _ _ _ _ (by decide)).trans rfl))) 0).trans ma0) (by decide)) ⟨ml_X10_417, ym_X10_standsAt, yv_X10_standsAt, yi_X10_standsAt, yc_X10_standsAt⟩ yd_X10_standsAt ob_60 (by decide) rfl rfl hl.1 (Nat.le_of_ble_eq_true rfl) ⟨by decide, by decide⟩ ⟨Nat.zero_le _, Nat.zero_le _⟩ dX10_go_82 (fun r_12 M_13 H locs hp_13 hw => ?_)
            obtain ⟨hm, rfl⟩ := hp_13
            have hw := hw.to hm
            refine ti_iastG (ci := 10) (k := 50) (n := 720) C hw ob_60 (by decide) (fun _ _ => rfl) (ti_hix ex_10 ex_11 h0.1 (by omega) (by decide) (by decide)) dX10_go_85 (fun H locs g_14 eg_14 hw => ?_)
            refine lv_iinc (v := 2) (lv' := [(4, .int 2), (3, .int tt), (2, .int tt), (0, .ref (A 60 0)), (1, .int z)]) hx hb dX10_go_86 hl (k := 0) rfl (by decide) (by decide) rfl (fun ls hl => ?_)
            refine lv_goto (tgt := 57) hx hb dX10_go_89 (by decide) ?_
            refine lv_iload hx hb dX10_go_57 (lv_at hl 0 rfl) ?_
            refine lv_iconst (v := 3) hx hb dX10_go_59 (by decide) ?_
            refine lv_icmp_ge (tgt := 92) hx hb dX10_go_60 (by decide) (fun c => absurd c (by decide)) (fun c_60 => ?_)
            refine lv_aload_n hx hb dX10_go_63 rfl (lv_at hl 3 rfl) ?_
            refine ti_get (ci := 10) (k := 50) (N := 67) (T := TX10) (v := .ref (A 60 51)) C hw iw_10 rfl ob_60 (by decide) (by decide) fl_X10_117 rfl rfl dX10_go_64 ?_
            refine lv_iconst (v := 3) hx hb dX10_go_67 (by decide) ?_
            refine lv_iload_n hx hb dX10_go_68 rfl (lv_at hl 1 rfl) ?_
            refine lv_imul hx hb dX10_go_69 ?_
            refine lv_topi (fun x_15 ex_15 => ?_)
            refine lv_iload hx hb dX10_go_70 (lv_at hl 0 rfl) ?_
            refine lv_iadd hx hb dX10_go_72 ?_
            refine lv_topi (fun x_16 ex_16 => ?_)
            refine lv_aload_n hx hb dX10_go_73 rfl (lv_at hl 3 rfl) ?_
            refine lv_iconst (v := 0) hx hb dX10_go_74 (by decide) ?_
            refine lv_aload_n hx hb dX10_go_75 rfl (lv_at hl 3 rfl) ?_
            refine ti_get (ci := 10) (k := 49) (N := 67) (T := TX10) (v := .ref (A 60 50)) C hw iw_10 rfl ob_60 (by decide) (by decide) fl_X10_114 rfl rfl dX10_go_76 ?_
            refine lv_iload hx hb dX10_go_79 (lv_at hl 0 rfl) ?_
            refine ti_iald (ci := 10) (k := 49) (n := 69) C hw ob_60 (by decide) (fun _ _ => rfl) (by unfold vp_in; decide) dX10_go_81 ?_
            refine ti_top (y := 2) ((congrFun ((tY_k _ _ _ _ (by decide)).trans ((tY_k _ _ _ _ (by decide)).trans ((tY_k _ _ _ _ (by decide)).trans ((tY_k _ _ _ _ (by decide)).trans rfl)))) 2).trans pw2) ?_
            refine ti_callVi (ci := 10) (av := [.int 0, .int 2]) C hw (k_standsAt_0 l D A cy hJ (uY (uY (uY (uY Mx 60 37 ga_4) 60 34 gb_4) 60 50 g_9) 60 50 g_14) 2 ((congrFun ((tY_k _ _ _ _ (by decide)).trans ((tY_k _ _ _ _ (by decide)).trans ((tY_k _ _ _ _ (by decide)).trans ((tY_k _ _ _ _ (by decide)).trans rfl)))) 0).trans ma0) (by decide)) ⟨ml_X10_417, ym_X10_standsAt, yv_X10_standsAt, yi_X10_standsAt, yc_X10_standsAt⟩ yd_X10_standsAt ob_60 (by decide) rfl rfl hl.1 (Nat.le_of_ble_eq_true rfl) ⟨by decide, by decide⟩ ⟨Nat.zero_le _, Nat.zero_le _⟩ dX10_go_82 (fun r_17 M_18 H locs hp_18 hw => ?_)
            obtain ⟨hm, rfl⟩ := hp_18
            have hw := hw.to hm
            refine ti_iastG (ci := 10) (k := 50) (n := 720) C hw ob_60 (by decide) (fun _ _ => rfl) (ti_hix ex_15 ex_16 h0.1 (by omega) (by decide) (by decide)) dX10_go_85 (fun H locs g_19 eg_19 hw => ?_)
            refine lv_iinc (v := 3) (lv' := [(4, .int 3), (3, .int tt), (2, .int tt), (0, .ref (A 60 0)), (1, .int z)]) hx hb dX10_go_86 hl (k := 0) rfl (by decide) (by decide) rfl (fun ls hl => ?_)
            refine lv_goto (tgt := 57) hx hb dX10_go_89 (by decide) ?_
            refine lv_iload hx hb dX10_go_57 (lv_at hl 0 rfl) ?_
            refine lv_iconst (v := 3) hx hb dX10_go_59 (by decide) ?_
            refine lv_icmp_ge (tgt := 92) hx hb dX10_go_60 (by decide) (fun c_60 => ?_) (fun c => absurd (by decide) c)
            obtain ⟨x_20, ex_20⟩ : ∃ z : Int32, z = tt + 1 := ⟨_, rfl⟩
            refine lv_iinc (v := x_20) (lv' := [(2, .int x_20), (4, .int 3), (3, .int tt), (0, .ref (A 60 0)), (1, .int z)]) hx hb dX10_go_92 hl (k := 2) rfl (by rw [ex_20]; rfl) (by decide) rfl (fun ls hl => ?_)
            refine lv_goto (tgt := 36) hx hb dX10_go_95 (by decide) ?_
            exact ih x_20 (uY (uY (uY (uY (uY Mx 60 37 ga_4) 60 34 gb_4) 60 50 g_9) 60 50 g_14) 60 50 g_19) _ _ _ (by rw [← ex_20] at hin; omega) ((congrFun ((tY_k _ _ _ _ (by decide)).trans ((tY_k _ _ _ _ (by decide)).trans ((tY_k _ _ _ _ (by decide)).trans ((tY_k _ _ _ _ (by decide)).trans ((tY_k _ _ _ _ (by decide)).trans rfl))))) 0).trans n0) ((congrFun ((tY_k _ _ _ _ (by decide)).trans ((tY_k _ _ _ _ (by decide)).trans ((tY_k _ _ _ _ (by decide)).trans ((tY_k _ _ _ _ (by decide)).trans ((tY_k _ _ _ _ (by decide)).trans rfl))))) 3).trans n3) ((congrFun ((tY_k _ _ _ _ (by decide)).trans ((tY_k _ _ _ _ (by decide)).trans ((tY_k _ _ _ _ (by decide)).trans ((tY_k _ _ _ _ (by decide)).trans ((tY_k _ _ _ _ (by decide)).trans rfl))))) 5).trans n5) ((congrFun ((tY_k _ _ _ _ (by decide)).trans ((tY_k _ _ _ _ (by decide)).trans ((tY_k _ _ _ _ (by decide)).trans ((tY_k _ _ _ _ (by decide)).trans ((tY_k _ _ _ _ (by decide)).trans rfl))))) 0).trans ma0) ((congrFun ((tY_k _ _ _ _ (by decide)).trans ((tY_k _ _ _ _ (by decide)).trans ((tY_k _ _ _ _ (by decide)).trans ((tY_k _ _ _ _ (by decide)).trans ((tY_k _ _ _ _ (by decide)).trans rfl))))) 0).trans pw0) ((congrFun ((tY_k _ _ _ _ (by decide)).trans ((tY_k _ _ _ _ (by decide)).trans ((tY_k _ _ _ _ (by decide)).trans ((tY_k _ _ _ _ (by decide)).trans ((tY_k _ _ _ _ (by decide)).trans rfl))))) 1).trans pw1) ((congrFun ((tY_k _ _ _ _ (by decide)).trans ((tY_k _ _ _ _ (by decide)).trans ((tY_k _ _ _ _ (by decide)).trans ((tY_k _ _ _ _ (by decide)).trans ((tY_k _ _ _ _ (by decide)).trans rfl))))) 2).trans pw2) (((congrFun ((tY_k _ _ _ _ (by decide)).trans ((tY_k _ _ _ _ (by decide)).trans ((tY_k _ _ _ _ (by decide)).trans (tY_u _ _ _ _)))) 0).trans (hq_4.trans (congrArg (fun z => z + 1) ((congrFun (rfl) 0).trans hmi)))).trans (by rw [ex_20])) (by rw [← ex_20] at hin; omega) (by rw [← ex_20] at hin; omega) hw (lv_sub hl [0, 3, 4] rfl)
      · refine lv_aload_n hx hb dX10_go_29 rfl (lv_at hl 0 rfl) ?_
        refine lv_iconst (v := 0) hx hb dX10_go_30 (by decide) ?_
        refine ti_putI (ci := 10) (k := 52) (N := 67) (T := TX10) C hw iw_10 tyX10 tyX10_ok nmX10 rfl ob_60 (by decide) (by decide) fl_X10_317 rfl rfl rfl rfl (fn_10 A _) fs_10_52 dX10_go_31 (fun H locs hw => ?_)
        refine lv_iconst (v := 0) hx hb dX10_go_34 (by decide) ?_
        refine lv_istore_n (lv' := [(2, .int 0), (0, .ref (A 60 0)), (1, .int z)]) hx hb dX10_go_35 rfl hl (by decide) rfl (fun ls hl => ?_)
        suffices hloop : ∀ (n : Nat) (tt : Int32) (Mx : ti_M) (H : Heap) (locs : List Loc) (ls : Array Slot), ((z.toInt - tt.toInt).toNat < n) → (tY Mx 60 3 0 = 0) → (tY Mx 60 3 3 = 10) → (tY Mx 60 3 5 = 0) → (tY Mx 60 38 0 = 0) → (tY Mx 60 49 0 = 0) → (tY Mx 60 49 1 = 1) → (tY Mx 60 49 2 = 2) → (tY Mx 60 34 0 = tt) → (0 ≤ tt.toInt ∧ z.toInt ≤ 120) → (tt.toInt ≤ z.toInt) → ti_H ti_LM D A cy H0 Mx H locs → lv_has ls 5 [(2, .int tt), (0, .ref (A 60 0)), (1, .int z)] → W p l e (ti_rm 2) s m args below meth c H locs 0 0 Q (F0 m 36 ls []) from hloop (z.toInt.toNat + 1) 0 (uI (uI M 60 0 0) 60 52 0) _ _ _ (by simp only [ti_l0]; omega) ((congrFun ((tY_uI _ _ _ _ _ _).trans ((tY_uI _ _ _ _ _ _).trans rfl)) 0).trans n0) ((congrFun ((tY_uI _ _ _ _ _ _).trans ((tY_uI _ _ _ _ _ _).trans rfl)) 3).trans n3) ((congrFun ((tY_uI _ _ _ _ _ _).trans ((tY_uI _ _ _ _ _ _).trans rfl)) 5).trans n5) ((congrFun ((tY_uI _ _ _ _ _ _).trans ((tY_uI _ _ _ _ _ _).trans rfl)) 0).trans ma0) ((congrFun ((tY_uI _ _ _ _ _ _).trans ((tY_uI _ _ _ _ _ _).trans rfl)) 0).trans pw0) ((congrFun ((tY_uI _ _ _ _ _ _).trans ((tY_uI _ _ _ _ _ _).trans rfl)) 1).trans pw1) ((congrFun ((tY_uI _ _ _ _ _ _).trans ((tY_uI _ _ _ _ _ _).trans rfl)) 2).trans pw2) ((congrFun ((tY_uI _ _ _ _ _ _).trans ((tY_uI _ _ _ _ _ _).trans rfl)) 0).trans mi0) (by (try simp only [Int32.lt_iff_toInt_lt, Int32.le_iff_toInt_le, ← Int32.toInt_inj, ti_l0, ti_l1, ti_l2, ti_l3, ti_l5, ti_l7, ti_l8, ti_l24, ti_l59, ti_l60, ti_l119, ti_l120, ti_lm1, ti_lm2] at c_6); (try simp only [Int32.lt_iff_toInt_lt, Int32.le_iff_toInt_le, ← Int32.toInt_inj, ti_l0, ti_l1, ti_l2, ti_l3, ti_l5, ti_l7, ti_l8, ti_l24, ti_l59, ti_l60, ti_l119, ti_l120, ti_lm1, ti_lm2] at c_12); (try simp only [Int32.lt_iff_toInt_lt, Int32.le_iff_toInt_le, ← Int32.toInt_inj, ti_l0, ti_l1, ti_l2, ti_l3, ti_l5, ti_l7, ti_l8, ti_l24, ti_l59, ti_l60, ti_l119, ti_l120, ti_lm1, ti_lm2] at c_20); (try simp only [Int32.lt_iff_toInt_lt, Int32.le_iff_toInt_le, ← Int32.toInt_inj, ti_l0, ti_l1, ti_l2, ti_l3, ti_l5, ti_l7, ti_l8, ti_l24, ti_l59, ti_l60, ti_l119, ti_l120, ti_lm1, ti_lm2] at c_26); (try simp only [Int32.lt_iff_toInt_lt, Int32.le_iff_toInt_le, ← Int32.toInt_inj, ti_l0, ti_l1, ti_l2, ti_l3, ti_l5, ti_l7, ti_l8, ti_l24, ti_l59, ti_l60, ti_l119, ti_l120, ti_lm1, ti_lm2]); omega) (by (try simp only [Int32.lt_iff_toInt_lt, Int32.le_iff_toInt_le, ← Int32.toInt_inj, ti_l0, ti_l1, ti_l2, ti_l3, ti_l5, ti_l7, ti_l8, ti_l24, ti_l59, ti_l60, ti_l119, ti_l120, ti_lm1, ti_lm2] at c_6); (try simp only [Int32.lt_iff_toInt_lt, Int32.le_iff_toInt_le, ← Int32.toInt_inj, ti_l0, ti_l1, ti_l2, ti_l3, ti_l5, ti_l7, ti_l8, ti_l24, ti_l59, ti_l60, ti_l119, ti_l120, ti_lm1, ti_lm2] at c_12); (try simp only [Int32.lt_iff_toInt_lt, Int32.le_iff_toInt_le, ← Int32.toInt_inj, ti_l0, ti_l1, ti_l2, ti_l3, ti_l5, ti_l7, ti_l8, ti_l24, ti_l59, ti_l60, ti_l119, ti_l120, ti_lm1, ti_lm2] at c_20); (try simp only [Int32.lt_iff_toInt_lt, Int32.le_iff_toInt_le, ← Int32.toInt_inj, ti_l0, ti_l1, ti_l2, ti_l3, ti_l5, ti_l7, ti_l8, ti_l24, ti_l59, ti_l60, ti_l119, ti_l120, ti_lm1, ti_lm2] at c_26); (try simp only [Int32.lt_iff_toInt_lt, Int32.le_iff_toInt_le, ← Int32.toInt_inj, ti_l0, ti_l1, ti_l2, ti_l3, ti_l5, ti_l7, ti_l8, ti_l24, ti_l59, ti_l60, ti_l119, ti_l120, ti_lm1, ti_lm2]); omega) hw (lv_sub hl [0, 1, 2] rfl)
        clear hw hl ls
        intro n
        induction n with
        | zero => intro tt Mx H locs ls hfuel n0 n3 n5 ma0 pw0 pw1 pw2 hmi h0 hle hw hl; exact absurd hfuel (by omega)
        | succ n ih =>
          intro tt Mx H locs ls hfuel n0 n3 n5 ma0 pw0 pw1 pw2 hmi h0 hle hw hl
          refine lv_iload_n hx hb dX10_go_36 rfl (lv_at hl 0 rfl) ?_
          refine lv_iload_n hx hb dX10_go_37 rfl (lv_at hl 2 rfl) ?_
          refine lv_icmp_ge (tgt := 98) hx hb dX10_go_38 (by decide) (fun c_38 => ?_) (fun c_38 => ?_)
          · refine lv_aload_n hx hb dX10_go_98 rfl (lv_at hl 1 rfl) ?_
            refine ti_get (ci := 10) (k := 34) (N := 67) (T := TX10) (v := .ref (A 60 35)) C hw iw_10 rfl ob_60 (by decide) (by decide) fl_X10_69 rfl rfl dX10_go_99 ?_
            refine lv_iconst (v := 0) hx hb dX10_go_102 (by decide) ?_
            refine ti_iald (ci := 10) (k := 34) (n := 23) C hw ob_60 (by decide) (fun _ _ => rfl) (by unfold vp_in; decide) dX10_go_103 ?_
            refine ti_top (y := tt) ((congrFun (rfl) 0).trans hmi) ?_
            exact hQ _ _ _ _ _ _ hw rfl (ti_gor h0 hle c_38) dX10_go_104
          · have hin := ti_inc (un := z) c_38
            refine lv_aload_n hx hb dX10_go_41 rfl (lv_at hl 1 rfl) ?_
            refine ti_get (ci := 10) (k := 34) (N := 67) (T := TX10) (v := .ref (A 60 35)) C hw iw_10 rfl ob_60 (by decide) (by decide) fl_X10_69 rfl rfl dX10_go_42 ?_
            refine lv_iconst (v := 0) hx hb dX10_go_45 (by decide) ?_
            refine ti_iald (ci := 10) (k := 34) (n := 23) C hw ob_60 (by decide) (fun _ _ => rfl) (by unfold vp_in; decide) dX10_go_46 ?_
            refine ti_top (y := tt) ((congrFun (rfl) 0).trans hmi) ?_
            refine lv_istore_n (lv' := [(3, .int tt), (2, .int tt), (0, .ref (A 60 0)), (1, .int z)]) hx hb dX10_go_47 rfl hl (by decide) rfl (fun ls hl => ?_)
            refine lv_aload_n hx hb dX10_go_48 rfl (lv_at hl 2 rfl) ?_
            refine lv_iconst (v := 0) hx hb dX10_go_49 (by decide) ?_
            refine lv_iconst (v := 1) hx hb dX10_go_50 (by decide) ?_
            refine ti_callVv (ci := 10) (av := [.int 0, .int 1]) C hw (k_passes_0 l D A cy hJ Mx 1 ((congrFun (rfl) 0).trans n0) ((congrFun (rfl) 3).trans n3) ((congrFun (rfl) 5).trans n5) ((congrFun (rfl) 0).trans ma0) (ti_ntr ((congrFun (rfl) 2).trans pw2) (by decide))) ⟨ml_X10_407, ym_X10_passes, yv_X10_passes, yi_X10_passes, yc_X10_passes⟩ yd_X10_passes ob_60 (by decide) rfl rfl hl.1 (Nat.le_of_ble_eq_true rfl) ⟨by decide, by decide⟩ ⟨Nat.zero_le _, Nat.zero_le _⟩ dX10_go_51 (fun M_22 H locs hp_22 hw => ?_)
            obtain ⟨ga_22, gb_22, hm, hna_22, hq_22, hnb_22⟩ := hp_22
            have hw := hw.to hm
            refine lv_iconst (v := 0) hx hb dX10_go_54 (by decide) ?_
            refine lv_istore (lv' := [(4, .int 0), (3, .int tt), (2, .int tt), (0, .ref (A 60 0)), (1, .int z)]) hx hb dX10_go_55 hl (by decide) rfl (fun ls hl => ?_)
            refine lv_iload hx hb dX10_go_57 (lv_at hl 0 rfl) ?_
            refine lv_iconst (v := 3) hx hb dX10_go_59 (by decide) ?_
            refine lv_icmp_ge (tgt := 92) hx hb dX10_go_60 (by decide) (fun c => absurd c (by decide)) (fun c_60 => ?_)
            refine lv_aload_n hx hb dX10_go_63 rfl (lv_at hl 3 rfl) ?_
            refine ti_get (ci := 10) (k := 50) (N := 67) (T := TX10) (v := .ref (A 60 51)) C hw iw_10 rfl ob_60 (by decide) (by decide) fl_X10_117 rfl rfl dX10_go_64 ?_
            refine lv_iconst (v := 3) hx hb dX10_go_67 (by decide) ?_
            refine lv_iload_n hx hb dX10_go_68 rfl (lv_at hl 1 rfl) ?_
            refine lv_imul hx hb dX10_go_69 ?_
            refine lv_topi (fun x_23 ex_23 => ?_)
            refine lv_iload hx hb dX10_go_70 (lv_at hl 0 rfl) ?_
            refine lv_iadd hx hb dX10_go_72 ?_
            refine lv_topi (fun x_24 ex_24 => ?_)
            refine lv_aload_n hx hb dX10_go_73 rfl (lv_at hl 3 rfl) ?_
            refine lv_iconst (v := 0) hx hb dX10_go_74 (by decide) ?_
            refine lv_aload_n hx hb dX10_go_75 rfl (lv_at hl 3 rfl) ?_
            refine ti_get (ci := 10) (k := 49) (N := 67) (T := TX10) (v := .ref (A 60 50)) C hw iw_10 rfl ob_60 (by decide) (by decide) fl_X10_114 rfl rfl dX10_go_76 ?_
            refine lv_iload hx hb dX10_go_79 (lv_at hl 0 rfl) ?_
            refine ti_iald (ci := 10) (k := 49) (n := 69) C hw ob_60 (by decide) (fun _ _ => rfl) (by unfold vp_in; decide) dX10_go_81 ?_
            refine ti_top (y := 0) ((congrFun ((tY_k _ _ _ _ (by decide)).trans ((tY_k _ _ _ _ (by decide)).trans rfl)) 0).trans pw0) ?_
            refine ti_callVi (ci := 10) (av := [.int 0, .int 0]) C hw (k_standsAt_0 l D A cy hJ (uY (uY Mx 60 37 ga_22) 60 34 gb_22) 0 ((congrFun ((tY_k _ _ _ _ (by decide)).trans ((tY_k _ _ _ _ (by decide)).trans rfl)) 0).trans ma0) (by decide)) ⟨ml_X10_417, ym_X10_standsAt, yv_X10_standsAt, yi_X10_standsAt, yc_X10_standsAt⟩ yd_X10_standsAt ob_60 (by decide) rfl rfl hl.1 (Nat.le_of_ble_eq_true rfl) ⟨by decide, by decide⟩ ⟨Nat.zero_le _, Nat.zero_le _⟩ dX10_go_82 (fun r_25 M_26 H locs hp_26 hw => ?_)
            obtain ⟨hm, rfl⟩ := hp_26
            have hw := hw.to hm
            refine ti_iastG (ci := 10) (k := 50) (n := 720) C hw ob_60 (by decide) (fun _ _ => rfl) (ti_hix ex_23 ex_24 h0.1 (by omega) (by decide) (by decide)) dX10_go_85 (fun H locs g_27 eg_27 hw => ?_)
            refine lv_iinc (v := 1) (lv' := [(4, .int 1), (3, .int tt), (2, .int tt), (0, .ref (A 60 0)), (1, .int z)]) hx hb dX10_go_86 hl (k := 0) rfl (by decide) (by decide) rfl (fun ls hl => ?_)
            refine lv_goto (tgt := 57) hx hb dX10_go_89 (by decide) ?_
            refine lv_iload hx hb dX10_go_57 (lv_at hl 0 rfl) ?_
            refine lv_iconst (v := 3) hx hb dX10_go_59 (by decide) ?_
            refine lv_icmp_ge (tgt := 92) hx hb dX10_go_60 (by decide) (fun c => absurd c (by decide)) (fun c_60 => ?_)
            refine lv_aload_n hx hb dX10_go_63 rfl (lv_at hl 3 rfl) ?_
            refine ti_get (ci := 10) (k := 50) (N := 67) (T := TX10) (v := .ref (A 60 51)) C hw iw_10 rfl ob_60 (by decide) (by decide) fl_X10_117 rfl rfl dX10_go_64 ?_
            refine lv_iconst (v := 3) hx hb dX10_go_67 (by decide) ?_
            refine lv_iload_n hx hb dX10_go_68 rfl (lv_at hl 1 rfl) ?_
            refine lv_imul hx hb dX10_go_69 ?_
            refine lv_topi (fun x_28 ex_28 => ?_)
            refine lv_iload hx hb dX10_go_70 (lv_at hl 0 rfl) ?_
            refine lv_iadd hx hb dX10_go_72 ?_
            refine lv_topi (fun x_29 ex_29 => ?_)
            refine lv_aload_n hx hb dX10_go_73 rfl (lv_at hl 3 rfl) ?_
            refine lv_iconst (v := 0) hx hb dX10_go_74 (by decide) ?_
            refine lv_aload_n hx hb dX10_go_75 rfl (lv_at hl 3 rfl) ?_
            refine ti_get (ci := 10) (k := 49) (N := 67) (T := TX10) (v := .ref (A 60 50)) C hw iw_10 rfl ob_60 (by decide) (by decide) fl_X10_114 rfl rfl dX10_go_76 ?_
            refine lv_iload hx hb dX10_go_79 (lv_at hl 0 rfl) ?_
            refine ti_iald (ci := 10) (k := 49) (n := 69) C hw ob_60 (by decide) (fun _ _ => rfl) (by unfold vp_in; decide) dX10_go_81 ?_
            refine ti_top (y := 1) ((congrFun ((tY_k _ _ _ _ (by decide)).trans ((tY_k _ _ _ _ (by decide)).trans ((tY_k _ _ _ _ (by decide)).trans rfl))) 1).trans pw1) ?_
            refine ti_callVi (ci := 10) (av := [.int 0, .int 1]) C hw (k_standsAt_0 l D A cy hJ (uY (uY (uY Mx 60 37 ga_22) 60 34 gb_22) 60 50 g_27) 1 ((congrFun ((tY_k _ _ _ _ (by decide)).trans ((tY_k _ _ _ _ (by decide)).trans ((tY_k _ _ _ _ (by decide)).trans rfl))) 0).trans ma0) (by decide)) ⟨ml_X10_417, ym_X10_standsAt, yv_X10_standsAt, yi_X10_standsAt, yc_X10_standsAt⟩ yd_X10_standsAt ob_60 (by decide) rfl rfl hl.1 (Nat.le_of_ble_eq_true rfl) ⟨by decide, by decide⟩ ⟨Nat.zero_le _, Nat.zero_le _⟩ dX10_go_82 (fun r_30 M_31 H locs hp_31 hw => ?_)
            obtain ⟨hm, rfl⟩ := hp_31
            have hw := hw.to hm
            refine ti_iastG (ci := 10) (k := 50) (n := 720) C hw ob_60 (by decide) (fun _ _ => rfl) (ti_hix ex_28 ex_29 h0.1 (by omega) (by decide) (by decide)) dX10_go_85 (fun H locs g_32 eg_32 hw => ?_)
            refine lv_iinc (v := 2) (lv' := [(4, .int 2), (3, .int tt), (2, .int tt), (0, .ref (A 60 0)), (1, .int z)]) hx hb dX10_go_86 hl (k := 0) rfl (by decide) (by decide) rfl (fun ls hl => ?_)
            refine lv_goto (tgt := 57) hx hb dX10_go_89 (by decide) ?_
            refine lv_iload hx hb dX10_go_57 (lv_at hl 0 rfl) ?_
            refine lv_iconst (v := 3) hx hb dX10_go_59 (by decide) ?_
            refine lv_icmp_ge (tgt := 92) hx hb dX10_go_60 (by decide) (fun c => absurd c (by decide)) (fun c_60 => ?_)
            refine lv_aload_n hx hb dX10_go_63 rfl (lv_at hl 3 rfl) ?_
            refine ti_get (ci := 10) (k := 50) (N := 67) (T := TX10) (v := .ref (A 60 51)) C hw iw_10 rfl ob_60 (by decide) (by decide) fl_X10_117 rfl rfl dX10_go_64 ?_
            refine lv_iconst (v := 3) hx hb dX10_go_67 (by decide) ?_
            refine lv_iload_n hx hb dX10_go_68 rfl (lv_at hl 1 rfl) ?_
            refine lv_imul hx hb dX10_go_69 ?_
            refine lv_topi (fun x_33 ex_33 => ?_)
            refine lv_iload hx hb dX10_go_70 (lv_at hl 0 rfl) ?_
            refine lv_iadd hx hb dX10_go_72 ?_
            refine lv_topi (fun x_34 ex_34 => ?_)
            refine lv_aload_n hx hb dX10_go_73 rfl (lv_at hl 3 rfl) ?_
            refine lv_iconst (v := 0) hx hb dX10_go_74 (by decide) ?_
            refine lv_aload_n hx hb dX10_go_75 rfl (lv_at hl 3 rfl) ?_
            refine ti_get (ci := 10) (k := 49) (N := 67) (T := TX10) (v := .ref (A 60 50)) C hw iw_10 rfl ob_60 (by decide) (by decide) fl_X10_114 rfl rfl dX10_go_76 ?_
            refine lv_iload hx hb dX10_go_79 (lv_at hl 0 rfl) ?_
            refine ti_iald (ci := 10) (k := 49) (n := 69) C hw ob_60 (by decide) (fun _ _ => rfl) (by unfold vp_in; decide) dX10_go_81 ?_
            refine ti_top (y := 2) ((congrFun ((tY_k _ _ _ _ (by decide)).trans ((tY_k _ _ _ _ (by decide)).trans ((tY_k _ _ _ _ (by decide)).trans ((tY_k _ _ _ _ (by decide)).trans rfl)))) 2).trans pw2) ?_
            refine ti_callVi (ci := 10) (av := [.int 0, .int 2]) C hw (k_standsAt_0 l D A cy hJ (uY (uY (uY (uY Mx 60 37 ga_22) 60 34 gb_22) 60 50 g_27) 60 50 g_32) 2 ((congrFun ((tY_k _ _ _ _ (by decide)).trans ((tY_k _ _ _ _ (by decide)).trans ((tY_k _ _ _ _ (by decide)).trans ((tY_k _ _ _ _ (by decide)).trans rfl)))) 0).trans ma0) (by decide)) ⟨ml_X10_417, ym_X10_standsAt, yv_X10_standsAt, yi_X10_standsAt, yc_X10_standsAt⟩ yd_X10_standsAt ob_60 (by decide) rfl rfl hl.1 (Nat.le_of_ble_eq_true rfl) ⟨by decide, by decide⟩ ⟨Nat.zero_le _, Nat.zero_le _⟩ dX10_go_82 (fun r_35 M_36 H locs hp_36 hw => ?_)
            obtain ⟨hm, rfl⟩ := hp_36
            have hw := hw.to hm
            refine ti_iastG (ci := 10) (k := 50) (n := 720) C hw ob_60 (by decide) (fun _ _ => rfl) (ti_hix ex_33 ex_34 h0.1 (by omega) (by decide) (by decide)) dX10_go_85 (fun H locs g_37 eg_37 hw => ?_)
            refine lv_iinc (v := 3) (lv' := [(4, .int 3), (3, .int tt), (2, .int tt), (0, .ref (A 60 0)), (1, .int z)]) hx hb dX10_go_86 hl (k := 0) rfl (by decide) (by decide) rfl (fun ls hl => ?_)
            refine lv_goto (tgt := 57) hx hb dX10_go_89 (by decide) ?_
            refine lv_iload hx hb dX10_go_57 (lv_at hl 0 rfl) ?_
            refine lv_iconst (v := 3) hx hb dX10_go_59 (by decide) ?_
            refine lv_icmp_ge (tgt := 92) hx hb dX10_go_60 (by decide) (fun c_60 => ?_) (fun c => absurd (by decide) c)
            obtain ⟨x_38, ex_38⟩ : ∃ z : Int32, z = tt + 1 := ⟨_, rfl⟩
            refine lv_iinc (v := x_38) (lv' := [(2, .int x_38), (4, .int 3), (3, .int tt), (0, .ref (A 60 0)), (1, .int z)]) hx hb dX10_go_92 hl (k := 2) rfl (by rw [ex_38]; rfl) (by decide) rfl (fun ls hl => ?_)
            refine lv_goto (tgt := 36) hx hb dX10_go_95 (by decide) ?_
            exact ih x_38 (uY (uY (uY (uY (uY Mx 60 37 ga_22) 60 34 gb_22) 60 50 g_27) 60 50 g_32) 60 50 g_37) _ _ _ (by rw [← ex_38] at hin; omega) ((congrFun ((tY_k _ _ _ _ (by decide)).trans ((tY_k _ _ _ _ (by decide)).trans ((tY_k _ _ _ _ (by decide)).trans ((tY_k _ _ _ _ (by decide)).trans ((tY_k _ _ _ _ (by decide)).trans rfl))))) 0).trans n0) ((congrFun ((tY_k _ _ _ _ (by decide)).trans ((tY_k _ _ _ _ (by decide)).trans ((tY_k _ _ _ _ (by decide)).trans ((tY_k _ _ _ _ (by decide)).trans ((tY_k _ _ _ _ (by decide)).trans rfl))))) 3).trans n3) ((congrFun ((tY_k _ _ _ _ (by decide)).trans ((tY_k _ _ _ _ (by decide)).trans ((tY_k _ _ _ _ (by decide)).trans ((tY_k _ _ _ _ (by decide)).trans ((tY_k _ _ _ _ (by decide)).trans rfl))))) 5).trans n5) ((congrFun ((tY_k _ _ _ _ (by decide)).trans ((tY_k _ _ _ _ (by decide)).trans ((tY_k _ _ _ _ (by decide)).trans ((tY_k _ _ _ _ (by decide)).trans ((tY_k _ _ _ _ (by decide)).trans rfl))))) 0).trans ma0) ((congrFun ((tY_k _ _ _ _ (by decide)).trans ((tY_k _ _ _ _ (by decide)).trans ((tY_k _ _ _ _ (by decide)).trans ((tY_k _ _ _ _ (by decide)).trans ((tY_k _ _ _ _ (by decide)).trans rfl))))) 0).trans pw0) ((congrFun ((tY_k _ _ _ _ (by decide)).trans ((tY_k _ _ _ _ (by decide)).trans ((tY_k _ _ _ _ (by decide)).trans ((tY_k _ _ _ _ (by decide)).trans ((tY_k _ _ _ _ (by decide)).trans rfl))))) 1).trans pw1) ((congrFun ((tY_k _ _ _ _ (by decide)).trans ((tY_k _ _ _ _ (by decide)).trans ((tY_k _ _ _ _ (by decide)).trans ((tY_k _ _ _ _ (by decide)).trans ((tY_k _ _ _ _ (by decide)).trans rfl))))) 2).trans pw2) (((congrFun ((tY_k _ _ _ _ (by decide)).trans ((tY_k _ _ _ _ (by decide)).trans ((tY_k _ _ _ _ (by decide)).trans (tY_u _ _ _ _)))) 0).trans (hq_22.trans (congrArg (fun z => z + 1) ((congrFun (rfl) 0).trans hmi)))).trans (by rw [ex_38])) (by rw [← ex_38] at hin; omega) (by rw [← ex_38] at hin; omega) hw (lv_sub hl [0, 3, 4] rfl)
theorem ti_pw3 {f g : Nat → Int32} {x kd p : Int32} (eg : g = upd f x.toNatClampNeg p) (e : x = 3 + kd) (h1 : ¬ kd < 0) (h2 : ¬ 3 ≤ kd) (hp : ¬ p < 0) (h5 : ¬ f 5 < 0) : vp_in x 69 ∧ g 0 = f 0 ∧ g 1 = f 1 ∧ g 2 = f 2 ∧ ¬ g 5 < 0 := by
  have hk : vp_in kd 3 := by rw [vp_in_iff]; rw [Int32.lt_iff_toInt_lt, ti_l0] at h1; rw [Int32.le_iff_toInt_le, ti_l3] at h2; omega
  obtain ⟨j, hj, rfl⟩ := vp_in_of hk (by decide)
  have e2 : x = nI (3 + j) := by rw [e]; exact nI_add 3 j
  have hc : x.toNatClampNeg = 3 + j := by rw [e2]; exact nI_clamp (by omega)
  rw [hc] at eg
  refine ⟨by rw [e2]; exact vp_in_nI (by omega) (by decide), by rw [eg]; exact pk_un (by omega), by rw [eg]; exact pk_un (by omega), by rw [eg]; exact pk_un (by omega), ?_⟩
  rw [eg]
  by_cases q : 5 = 3 + j
  · rw [← q]; rw [pk_us]; exact hp
  · rw [pk_un (fun z => q z)]; exact h5
theorem ti_vin3 {x kd : Int32} (e : x = 3 + kd) (h1 : ¬ kd < 0) (h2 : ¬ 3 ≤ kd) : vp_in x 69 := (ti_pw3 (f := fun _ => 0) (p := 0) rfl e h1 h2 (by decide) (by decide)).1
theorem ti_fz {z z2 z3 : Int32} (h1 : ¬ z < 0) (h2 : ¬ 3 ≤ z) (h3 : ¬ z2 < 1) (h4 : ¬ 60 < z2) (h5 : ¬ z3 < 0) (h6 : z3 ≤ 1) : (0 : Int32) = pf_fairest z z2 z3 := by
  unfold pf_fairest
  rw [if_neg h1, if_neg h2, if_neg h3, if_neg h4, if_neg h5, if_neg (by rw [Int32.lt_iff_toInt_lt]; rw [Int32.le_iff_toInt_le] at h6; omega)]
set_option maxHeartbeats 4000000 in
set_option maxRecDepth 100000 in
theorem k_X10_fairest (l : Launch) (D : va_G) (A : Nat → Nat → Nat) (cy : Nat → ClassId) (hJ : ti_inj ti_LM A) (M : ti_M) (hF : ti_FM M) (z : Int32) (z2 : Int32) (z3 : Int32) : ti_Ki l yX10_fairest cX10_fairest 9 (some .int) 3 ti_LM D A cy M [.ref (A 60 0), .int z, .int z2, .int z3] (fun r _ => r = pf_fairest z z2 z3) := by
  refine ti_eI yp_X10_fairest hJ ti_LM_nd (Nat.le_of_ble_eq_true rfl) ?_
  intro p e s m args below meth c Q H0 C hQ hw ls hl
  have hx := C.1
  have hb := C.2.1
  have hl : lv_has ls 9 [(0, .ref (A 60 0)), (1, .int z), (2, .int z2), (3, .int z3)] := hl
  obtain ⟨m_taped, m_lf, m_lp, m_hi, m_un, m_st, m_kb, n0, n3, n5, n7, mi0, wa0, co0, ma0, pw0, pw1, pw2, sf, sto⟩ := id hF
  refine lv_aload_n hx hb dX10_fairest_0 rfl (lv_at hl 0 rfl) ?_
  refine lv_iconst (v := 0) hx hb dX10_fairest_1 (by decide) ?_
  refine ti_putI (ci := 10) (k := 0) (N := 67) (T := TX10) C hw iw_10 tyX10 tyX10_ok nmX10 rfl ob_60 (by decide) (by decide) fl_X10_154 rfl rfl rfl rfl (fn_10 A _) fs_10_0 dX10_fairest_2 (fun H locs hw => ?_)
  refine lv_iload_n hx hb dX10_fairest_5 rfl (lv_at hl 1 rfl) ?_
  refine ti_callSi (av := [.int z]) C hw (k_X10_isPower l D A cy hJ (uI M 60 0 0) z) ⟨ml_X10_420, ys_X10_isPower, yi_X10_isPower, yc_X10_isPower⟩ yd_X10_isPower rfl hl.1 (Nat.le_of_ble_eq_true rfl) ⟨by decide, by decide⟩ ⟨Nat.zero_le _, Nat.zero_le _⟩ dX10_fairest_6 (fun r_1 M_2 H locs hp_2 hw => ?_)
  obtain ⟨hm, hz⟩ := hp_2
  have hw := hw.to hm
  rcases hz with ⟨rfl, g_3, g_4⟩ | ⟨rfl, g_5⟩
  · refine lv_if_eq (tgt := 29) hx hb dX10_fairest_9 (by decide) (fun c => absurd c (by decide)) (fun c_9 => ?_)
    refine lv_aload_n hx hb dX10_fairest_12 rfl (lv_at hl 0 rfl) ?_
    refine lv_iload_n hx hb dX10_fairest_13 rfl (lv_at hl 2 rfl) ?_
    refine ti_callVi (ci := 10) (av := [.int z2]) C hw (k_X10_isLong l D A cy hJ (uI M 60 0 0) ⟨((tI_k _ _ _ _ (by decide)).trans m_taped), ((tI_k _ _ _ _ (by decide)).trans m_lf), ((tI_k _ _ _ _ (by decide)).trans m_lp), ((tI_k _ _ _ _ (by decide)).trans m_hi), ((tI_k _ _ _ _ (by decide)).trans m_un), ((tI_k _ _ _ _ (by decide)).trans m_st), ((tI_k _ _ _ _ (by decide)).trans m_kb), ((congrFun ((tY_uI _ _ _ _ _ _).trans rfl) 0).trans n0), ((congrFun ((tY_uI _ _ _ _ _ _).trans rfl) 3).trans n3), ((congrFun ((tY_uI _ _ _ _ _ _).trans rfl) 5).trans n5), ((congrFun ((tY_uI _ _ _ _ _ _).trans rfl) 7).trans n7), ((congrFun ((tY_uI _ _ _ _ _ _).trans rfl) 0).trans mi0), ((congrFun ((tY_uI _ _ _ _ _ _).trans rfl) 0).trans wa0), ((congrFun ((tY_uI _ _ _ _ _ _).trans rfl) 0).trans co0), ((congrFun ((tY_uI _ _ _ _ _ _).trans rfl) 0).trans ma0), ((congrFun ((tY_uI _ _ _ _ _ _).trans rfl) 0).trans pw0), ((congrFun ((tY_uI _ _ _ _ _ _).trans rfl) 1).trans pw1), ((congrFun ((tY_uI _ _ _ _ _ _).trans rfl) 2).trans pw2), sf, sto⟩ z2) ⟨ml_X10_461, ym_X10_isLong, yv_X10_isLong, yi_X10_isLong, yc_X10_isLong⟩ yd_X10_isLong ob_60 (by decide) rfl rfl hl.1 (Nat.le_of_ble_eq_true rfl) ⟨by decide, by decide⟩ ⟨Nat.zero_le _, Nat.zero_le _⟩ dX10_fairest_14 (fun r_6 M_7 H locs hp_7 hw => ?_)
    obtain ⟨hm, hz⟩ := hp_7
    have hw := hw.to hm
    rcases hz with ⟨rfl, g_8, g_9⟩ | ⟨rfl, g_10⟩
    · refine lv_if_eq (tgt := 29) hx hb dX10_fairest_17 (by decide) (fun c => absurd c (by decide)) (fun c_17 => ?_)
      refine lv_iload_n hx hb dX10_fairest_20 rfl (lv_at hl 3 rfl) ?_
      refine lv_if_lt (tgt := 29) hx hb dX10_fairest_21 (by decide) (fun c_21 => ?_) (fun c_21 => ?_)
      · refine lv_iconst (v := (-1)) hx hb dX10_fairest_29 (by decide) ?_
        exact hQ _ _ _ _ _ _ hw rfl (by unfold pf_fairest; (try simp only [Int32.lt_iff_toInt_lt, Int32.le_iff_toInt_le, ← Int32.toInt_inj, ti_l0, ti_l1, ti_l2, ti_l3, ti_l5, ti_l7, ti_l8, ti_l24, ti_l59, ti_l60, ti_l119, ti_l120, ti_lm1, ti_lm2] at g_3); (try simp only [Int32.lt_iff_toInt_lt, Int32.le_iff_toInt_le, ← Int32.toInt_inj, ti_l0, ti_l1, ti_l2, ti_l3, ti_l5, ti_l7, ti_l8, ti_l24, ti_l59, ti_l60, ti_l119, ti_l120, ti_lm1, ti_lm2] at g_4); (try simp only [Int32.lt_iff_toInt_lt, Int32.le_iff_toInt_le, ← Int32.toInt_inj, ti_l0, ti_l1, ti_l2, ti_l3, ti_l5, ti_l7, ti_l8, ti_l24, ti_l59, ti_l60, ti_l119, ti_l120, ti_lm1, ti_lm2] at c_9); (try simp only [Int32.lt_iff_toInt_lt, Int32.le_iff_toInt_le, ← Int32.toInt_inj, ti_l0, ti_l1, ti_l2, ti_l3, ti_l5, ti_l7, ti_l8, ti_l24, ti_l59, ti_l60, ti_l119, ti_l120, ti_lm1, ti_lm2] at g_8); (try simp only [Int32.lt_iff_toInt_lt, Int32.le_iff_toInt_le, ← Int32.toInt_inj, ti_l0, ti_l1, ti_l2, ti_l3, ti_l5, ti_l7, ti_l8, ti_l24, ti_l59, ti_l60, ti_l119, ti_l120, ti_lm1, ti_lm2] at g_9); (try simp only [Int32.lt_iff_toInt_lt, Int32.le_iff_toInt_le, ← Int32.toInt_inj, ti_l0, ti_l1, ti_l2, ti_l3, ti_l5, ti_l7, ti_l8, ti_l24, ti_l59, ti_l60, ti_l119, ti_l120, ti_lm1, ti_lm2] at c_17); (try simp only [Int32.lt_iff_toInt_lt, Int32.le_iff_toInt_le, ← Int32.toInt_inj, ti_l0, ti_l1, ti_l2, ti_l3, ti_l5, ti_l7, ti_l8, ti_l24, ti_l59, ti_l60, ti_l119, ti_l120, ti_lm1, ti_lm2] at c_21); (try simp only [Int32.lt_iff_toInt_lt, Int32.le_iff_toInt_le, ← Int32.toInt_inj, ti_l0, ti_l1, ti_l2, ti_l3, ti_l5, ti_l7, ti_l8, ti_l24, ti_l59, ti_l60, ti_l119, ti_l120, ti_lm1, ti_lm2]); (repeat' split) <;> first | rfl | omega) dX10_fairest_30
      · refine lv_iload_n hx hb dX10_fairest_24 rfl (lv_at hl 3 rfl) ?_
        refine lv_iconst (v := 1) hx hb dX10_fairest_25 (by decide) ?_
        refine lv_icmp_le (tgt := 31) hx hb dX10_fairest_26 (by decide) (fun c_26 => ?_) (fun c_26 => ?_)
        · refine lv_iconst (v := (-1)) hx hb dX10_fairest_31 (by decide) ?_
          refine lv_istore (lv' := [(4, .int (-1)), (0, .ref (A 60 0)), (1, .int z), (2, .int z2), (3, .int z3)]) hx hb dX10_fairest_32 hl (by decide) rfl (fun ls hl => ?_)
          refine lv_iconst (v := 0) hx hb dX10_fairest_34 (by decide) ?_
          refine lv_istore (lv' := [(5, .int 0), (4, .int (-1)), (0, .ref (A 60 0)), (1, .int z), (2, .int z2), (3, .int z3)]) hx hb dX10_fairest_35 hl (by decide) rfl (fun ls hl => ?_)
          refine lv_iconst (v := 0) hx hb dX10_fairest_37 (by decide) ?_
          refine lv_istore (lv' := [(6, .int 0), (5, .int 0), (4, .int (-1)), (0, .ref (A 60 0)), (1, .int z), (2, .int z2), (3, .int z3)]) hx hb dX10_fairest_38 hl (by decide) rfl (fun ls hl => ?_)
          refine lv_iload hx hb dX10_fairest_40 (lv_at hl 0 rfl) ?_
          refine lv_bipush (v := 8) hx hb dX10_fairest_42 (by decide) ?_
          refine lv_icmp_ge (tgt := 145) hx hb dX10_fairest_44 (by decide) (fun c => absurd c (by decide)) (fun c_44 => ?_)
          refine lv_aload_n hx hb dX10_fairest_47 rfl (lv_at hl 3 rfl) ?_
          refine ti_callVv (ci := 10) (av := []) C hw (k_X10_lays l D A cy hJ (uI M 60 0 0) ⟨((tI_k _ _ _ _ (by decide)).trans m_taped), ((tI_k _ _ _ _ (by decide)).trans m_lf), ((tI_k _ _ _ _ (by decide)).trans m_lp), ((tI_k _ _ _ _ (by decide)).trans m_hi), ((tI_k _ _ _ _ (by decide)).trans m_un), ((tI_k _ _ _ _ (by decide)).trans m_st), ((tI_k _ _ _ _ (by decide)).trans m_kb), ((congrFun ((tY_uI _ _ _ _ _ _).trans rfl) 0).trans n0), ((congrFun ((tY_uI _ _ _ _ _ _).trans rfl) 3).trans n3), ((congrFun ((tY_uI _ _ _ _ _ _).trans rfl) 5).trans n5), ((congrFun ((tY_uI _ _ _ _ _ _).trans rfl) 7).trans n7), ((congrFun ((tY_uI _ _ _ _ _ _).trans rfl) 0).trans mi0), ((congrFun ((tY_uI _ _ _ _ _ _).trans rfl) 0).trans wa0), ((congrFun ((tY_uI _ _ _ _ _ _).trans rfl) 0).trans co0), ((congrFun ((tY_uI _ _ _ _ _ _).trans rfl) 0).trans ma0), ((congrFun ((tY_uI _ _ _ _ _ _).trans rfl) 0).trans pw0), ((congrFun ((tY_uI _ _ _ _ _ _).trans rfl) 1).trans pw1), ((congrFun ((tY_uI _ _ _ _ _ _).trans rfl) 2).trans pw2), sf, sto⟩) ⟨ml_X10_442, ym_X10_lays, yv_X10_lays, yi_X10_lays, yc_X10_lays⟩ yd_X10_lays ob_60 (by decide) rfl rfl hl.1 (Nat.le_of_ble_eq_true rfl) ⟨by decide, by decide⟩ ⟨Nat.zero_le _, Nat.zero_le _⟩ dX10_fairest_48 (fun M_12 H locs hp_12 hw => ?_)
          obtain ⟨hF, k34_12, k38_12, k49_12⟩ := hp_12
          obtain ⟨m_taped, m_lf, m_lp, m_hi, m_un, m_st, m_kb, n0, n3, n5, n7, mi0, wa0, co0, ma0, pw0, pw1, pw2, sf, sto⟩ := id hF
          refine lv_aload_n hx hb dX10_fairest_51 rfl (lv_at hl 3 rfl) ?_
          refine ti_get (ci := 10) (k := 49) (N := 67) (T := TX10) (v := .ref (A 60 50)) C hw iw_10 rfl ob_60 (by decide) (by decide) fl_X10_114 rfl rfl dX10_fairest_52 ?_
          refine lv_iconst (v := 3) hx hb dX10_fairest_55 (by decide) ?_
          refine lv_iload_n hx hb dX10_fairest_56 rfl (lv_at hl 4 rfl) ?_
          refine lv_iadd hx hb dX10_fairest_57 ?_
          refine lv_topi (fun x_13 ex_13 => ?_)
          refine lv_iload hx hb dX10_fairest_58 (lv_at hl 0 rfl) ?_
          refine ti_iastG (ci := 10) (k := 49) (n := 69) C hw ob_60 (by decide) (fun _ _ => rfl) (ti_vin3 ex_13 (by assumption) (by assumption)) dX10_fairest_60 (fun H locs g_14 eg_14 hw => ?_)
          obtain ⟨-, hg0_14, hg1_14, hg2_14, hg5_14⟩ := ti_pw3 eg_14 ex_13 (by assumption) (by assumption) (p := 0) (by decide) (by rw [((congrFun (rfl) 5).trans k49_12)]; decide)
          refine lv_iconst (v := 0) hx hb dX10_fairest_61 (by decide) ?_
          refine lv_istore (lv' := [(7, .int 0), (6, .int 0), (5, .int 0), (4, .int (-1)), (0, .ref (A 60 0)), (1, .int z), (2, .int z2), (3, .int z3)]) hx hb dX10_fairest_62 hl (by decide) rfl (fun ls hl => ?_)
          refine lv_iconst (v := 0) hx hb dX10_fairest_64 (by decide) ?_
          refine lv_istore (lv' := [(8, .int 0), (7, .int 0), (6, .int 0), (5, .int 0), (4, .int (-1)), (0, .ref (A 60 0)), (1, .int z), (2, .int z2), (3, .int z3)]) hx hb dX10_fairest_65 hl (by decide) rfl (fun ls hl => ?_)
          suffices hloop : ∀ (n : Nat) (tt : Int32) (Mx : ti_M) (H : Heap) (locs : List Loc) (ls : Array Slot), ((z2.toInt - tt.toInt).toNat < n) → (ti_FM Mx) → (tY Mx 60 38 1 = 0) → (¬ tY Mx 60 49 5 < 0) → ti_H ti_LM D A cy H0 Mx H locs → lv_has ls 9 [(8, .int tt), (7, .int 0), (6, .int 0), (5, .int 0), (4, .int (-1)), (0, .ref (A 60 0)), (1, .int z), (2, .int z2), (3, .int z3)] → W p l e (ti_rm 3) s m args below meth c H locs 0 0 Q (F0 m 67 ls []) from hloop (z2.toInt.toNat + 1) 0 (uY M_12 60 49 g_14) _ _ _ (by simp only [ti_l0]; omega) ⟨((tI_uY _ _ _ _ _ _).trans m_taped), ((tI_uY _ _ _ _ _ _).trans m_lf), ((tI_uY _ _ _ _ _ _).trans m_lp), ((tI_uY _ _ _ _ _ _).trans m_hi), ((tI_uY _ _ _ _ _ _).trans m_un), ((tI_uY _ _ _ _ _ _).trans m_st), ((tI_uY _ _ _ _ _ _).trans m_kb), ((congrFun ((tY_k _ _ _ _ (by decide)).trans rfl) 0).trans n0), ((congrFun ((tY_k _ _ _ _ (by decide)).trans rfl) 3).trans n3), ((congrFun ((tY_k _ _ _ _ (by decide)).trans rfl) 5).trans n5), ((congrFun ((tY_k _ _ _ _ (by decide)).trans rfl) 7).trans n7), ((congrFun ((tY_k _ _ _ _ (by decide)).trans rfl) 0).trans mi0), ((congrFun ((tY_k _ _ _ _ (by decide)).trans rfl) 0).trans wa0), ((congrFun ((tY_k _ _ _ _ (by decide)).trans rfl) 0).trans co0), ((congrFun ((tY_k _ _ _ _ (by decide)).trans rfl) 0).trans ma0), ((congrFun (tY_u _ _ _ _) 0).trans (hg0_14.trans ((congrFun (rfl) 0).trans pw0))), ((congrFun (tY_u _ _ _ _) 1).trans (hg1_14.trans ((congrFun (rfl) 1).trans pw1))), ((congrFun (tY_u _ _ _ _) 2).trans (hg2_14.trans ((congrFun (rfl) 2).trans pw2))), sf, sto⟩ ((congrFun ((tY_k _ _ _ _ (by decide)).trans rfl) 1).trans k38_12) (ti_ntr (congrFun (tY_u _ _ _ _) 5) hg5_14) hw (lv_sub hl [0, 1, 2, 3, 4, 5, 6, 7, 8] rfl)
          clear hw hl ls
          intro n
          induction n with
          | zero => intro tt Mx H locs ls hfuel hF h38 hpw hw hl; exact absurd hfuel (by omega)
          | succ n ih =>
            intro tt Mx H locs ls hfuel hF h38 hpw hw hl
            obtain ⟨m_taped, m_lf, m_lp, m_hi, m_un, m_st, m_kb, n0, n3, n5, n7, mi0, wa0, co0, ma0, pw0, pw1, pw2, sf, sto⟩ := id hF
            refine lv_iload hx hb dX10_fairest_67 (lv_at hl 0 rfl) ?_
            refine lv_iload_n hx hb dX10_fairest_69 rfl (lv_at hl 7 rfl) ?_
            refine lv_icmp_ge (tgt := 109) hx hb dX10_fairest_70 (by decide) (fun c_70 => ?_) (fun c_70 => ?_)
            · refine lv_iload hx hb dX10_fairest_109 (lv_at hl 4 rfl) ?_
              refine lv_iconst (v := (-1)) hx hb dX10_fairest_111 (by decide) ?_
              refine lv_icmp_eq (tgt := 128) hx hb dX10_fairest_112 (by decide) (fun c_112 => ?_) (fun c => absurd (by decide) c)
              refine lv_iload hx hb dX10_fairest_128 (lv_at hl 2 rfl) ?_
              refine lv_istore (lv' := [(4, .int 0), (8, .int tt), (7, .int 0), (6, .int 0), (5, .int 0), (0, .ref (A 60 0)), (1, .int z), (2, .int z2), (3, .int z3)]) hx hb dX10_fairest_130 hl (by decide) rfl (fun ls hl => ?_)
              refine lv_iload hx hb dX10_fairest_132 (lv_at hl 2 rfl) ?_
              refine ti_callSi (av := [.int 0]) C hw (k_X10_bitsOf l D A cy hJ Mx ) ⟨ml_X10_448, ys_X10_bitsOf, yi_X10_bitsOf, yc_X10_bitsOf⟩ yd_X10_bitsOf rfl hl.1 (Nat.le_of_ble_eq_true rfl) ⟨by decide, by decide⟩ ⟨Nat.zero_le _, Nat.zero_le _⟩ dX10_fairest_134 (fun r_15 M_16 H locs hp_16 hw => ?_)
              obtain ⟨hm, rfl⟩ := hp_16
              have hw := hw.to hm
              refine lv_istore (lv' := [(5, .int 0), (4, .int 0), (8, .int tt), (7, .int 0), (6, .int 0), (0, .ref (A 60 0)), (1, .int z), (2, .int z2), (3, .int z3)]) hx hb dX10_fairest_137 hl (by decide) rfl (fun ls hl => ?_)
              refine lv_iinc (v := 1) (lv' := [(6, .int 1), (5, .int 0), (4, .int 0), (8, .int tt), (7, .int 0), (0, .ref (A 60 0)), (1, .int z), (2, .int z2), (3, .int z3)]) hx hb dX10_fairest_139 hl (k := 4) rfl (by decide) (by decide) rfl (fun ls hl => ?_)
              refine lv_goto (tgt := 40) hx hb dX10_fairest_142 (by decide) ?_
              refine lv_iload hx hb dX10_fairest_40 (lv_at hl 0 rfl) ?_
              refine lv_bipush (v := 8) hx hb dX10_fairest_42 (by decide) ?_
              refine lv_icmp_ge (tgt := 145) hx hb dX10_fairest_44 (by decide) (fun c => absurd c (by decide)) (fun c_44 => ?_)
              refine lv_aload_n hx hb dX10_fairest_47 rfl (lv_at hl 5 rfl) ?_
              refine ti_callVv (ci := 10) (av := []) C hw (k_X10_lays l D A cy hJ Mx ⟨(m_taped), (m_lf), (m_lp), (m_hi), (m_un), (m_st), (m_kb), ((congrFun (rfl) 0).trans n0), ((congrFun (rfl) 3).trans n3), ((congrFun (rfl) 5).trans n5), ((congrFun (rfl) 7).trans n7), ((congrFun (rfl) 0).trans mi0), ((congrFun (rfl) 0).trans wa0), ((congrFun (rfl) 0).trans co0), ((congrFun (rfl) 0).trans ma0), ((congrFun (rfl) 0).trans pw0), ((congrFun (rfl) 1).trans pw1), ((congrFun (rfl) 2).trans pw2), sf, sto⟩) ⟨ml_X10_442, ym_X10_lays, yv_X10_lays, yi_X10_lays, yc_X10_lays⟩ yd_X10_lays ob_60 (by decide) rfl rfl hl.1 (Nat.le_of_ble_eq_true rfl) ⟨by decide, by decide⟩ ⟨Nat.zero_le _, Nat.zero_le _⟩ dX10_fairest_48 (fun M_18 H locs hp_18 hw => ?_)
              obtain ⟨hF, k34_18, k38_18, k49_18⟩ := hp_18
              obtain ⟨m_taped, m_lf, m_lp, m_hi, m_un, m_st, m_kb, n0, n3, n5, n7, mi0, wa0, co0, ma0, pw0, pw1, pw2, sf, sto⟩ := id hF
              refine lv_aload_n hx hb dX10_fairest_51 rfl (lv_at hl 5 rfl) ?_
              refine ti_get (ci := 10) (k := 49) (N := 67) (T := TX10) (v := .ref (A 60 50)) C hw iw_10 rfl ob_60 (by decide) (by decide) fl_X10_114 rfl rfl dX10_fairest_52 ?_
              refine lv_iconst (v := 3) hx hb dX10_fairest_55 (by decide) ?_
              refine lv_iload_n hx hb dX10_fairest_56 rfl (lv_at hl 6 rfl) ?_
              refine lv_iadd hx hb dX10_fairest_57 ?_
              refine lv_topi (fun x_19 ex_19 => ?_)
              refine lv_iload hx hb dX10_fairest_58 (lv_at hl 0 rfl) ?_
              refine ti_iastG (ci := 10) (k := 49) (n := 69) C hw ob_60 (by decide) (fun _ _ => rfl) (ti_vin3 ex_19 (by assumption) (by assumption)) dX10_fairest_60 (fun H locs g_20 eg_20 hw => ?_)
              obtain ⟨-, hg0_20, hg1_20, hg2_20, hg5_20⟩ := ti_pw3 eg_20 ex_19 (by assumption) (by assumption) (p := 1) (by decide) (by rw [((congrFun (rfl) 5).trans k49_18)]; decide)
              refine lv_iconst (v := 0) hx hb dX10_fairest_61 (by decide) ?_
              refine lv_istore (lv' := [(7, .int 0), (6, .int 1), (5, .int 0), (4, .int 0), (8, .int tt), (0, .ref (A 60 0)), (1, .int z), (2, .int z2), (3, .int z3)]) hx hb dX10_fairest_62 hl (by decide) rfl (fun ls hl => ?_)
              refine lv_iconst (v := 0) hx hb dX10_fairest_64 (by decide) ?_
              refine lv_istore (lv' := [(8, .int 0), (7, .int 0), (6, .int 1), (5, .int 0), (4, .int 0), (0, .ref (A 60 0)), (1, .int z), (2, .int z2), (3, .int z3)]) hx hb dX10_fairest_65 hl (by decide) rfl (fun ls hl => ?_)
              suffices hloop : ∀ (n : Nat) (tt : Int32) (Mx : ti_M) (H : Heap) (locs : List Loc) (ls : Array Slot), ((z2.toInt - tt.toInt).toNat < n) → (ti_FM Mx) → (tY Mx 60 38 1 = 0) → (¬ tY Mx 60 49 5 < 0) → ti_H ti_LM D A cy H0 Mx H locs → lv_has ls 9 [(8, .int tt), (7, .int 0), (6, .int 1), (5, .int 0), (4, .int 0), (0, .ref (A 60 0)), (1, .int z), (2, .int z2), (3, .int z3)] → W p l e (ti_rm 3) s m args below meth c H locs 0 0 Q (F0 m 67 ls []) from hloop (z2.toInt.toNat + 1) 0 (uY M_18 60 49 g_20) _ _ _ (by simp only [ti_l0]; omega) ⟨((tI_uY _ _ _ _ _ _).trans m_taped), ((tI_uY _ _ _ _ _ _).trans m_lf), ((tI_uY _ _ _ _ _ _).trans m_lp), ((tI_uY _ _ _ _ _ _).trans m_hi), ((tI_uY _ _ _ _ _ _).trans m_un), ((tI_uY _ _ _ _ _ _).trans m_st), ((tI_uY _ _ _ _ _ _).trans m_kb), ((congrFun ((tY_k _ _ _ _ (by decide)).trans rfl) 0).trans n0), ((congrFun ((tY_k _ _ _ _ (by decide)).trans rfl) 3).trans n3), ((congrFun ((tY_k _ _ _ _ (by decide)).trans rfl) 5).trans n5), ((congrFun ((tY_k _ _ _ _ (by decide)).trans rfl) 7).trans n7), ((congrFun ((tY_k _ _ _ _ (by decide)).trans rfl) 0).trans mi0), ((congrFun ((tY_k _ _ _ _ (by decide)).trans rfl) 0).trans wa0), ((congrFun ((tY_k _ _ _ _ (by decide)).trans rfl) 0).trans co0), ((congrFun ((tY_k _ _ _ _ (by decide)).trans rfl) 0).trans ma0), ((congrFun (tY_u _ _ _ _) 0).trans (hg0_20.trans ((congrFun (rfl) 0).trans pw0))), ((congrFun (tY_u _ _ _ _) 1).trans (hg1_20.trans ((congrFun (rfl) 1).trans pw1))), ((congrFun (tY_u _ _ _ _) 2).trans (hg2_20.trans ((congrFun (rfl) 2).trans pw2))), sf, sto⟩ ((congrFun ((tY_k _ _ _ _ (by decide)).trans rfl) 1).trans k38_18) (ti_ntr (congrFun (tY_u _ _ _ _) 5) hg5_20) hw (lv_sub hl [0, 1, 2, 3, 4, 5, 6, 7, 8] rfl)
              clear hw hl ls
              intro n
              induction n with
              | zero => intro tt Mx H locs ls hfuel hF h38 hpw hw hl; exact absurd hfuel (by omega)
              | succ n ih =>
                intro tt Mx H locs ls hfuel hF h38 hpw hw hl
                obtain ⟨m_taped, m_lf, m_lp, m_hi, m_un, m_st, m_kb, n0, n3, n5, n7, mi0, wa0, co0, ma0, pw0, pw1, pw2, sf, sto⟩ := id hF
                refine lv_iload hx hb dX10_fairest_67 (lv_at hl 0 rfl) ?_
                refine lv_iload_n hx hb dX10_fairest_69 rfl (lv_at hl 7 rfl) ?_
                refine lv_icmp_ge (tgt := 109) hx hb dX10_fairest_70 (by decide) (fun c_70 => ?_) (fun c_70 => ?_)
                · refine lv_iload hx hb dX10_fairest_109 (lv_at hl 4 rfl) ?_
                  refine lv_iconst (v := (-1)) hx hb dX10_fairest_111 (by decide) ?_
                  refine lv_icmp_eq (tgt := 128) hx hb dX10_fairest_112 (by decide) (fun c => absurd c (by decide)) (fun c_112 => ?_)
                  refine lv_iload hx hb dX10_fairest_115 (lv_at hl 1 rfl) ?_
                  refine ti_callSi (av := [.int 0]) C hw (k_X10_bitsOf l D A cy hJ Mx ) ⟨ml_X10_448, ys_X10_bitsOf, yi_X10_bitsOf, yc_X10_bitsOf⟩ yd_X10_bitsOf rfl hl.1 (Nat.le_of_ble_eq_true rfl) ⟨by decide, by decide⟩ ⟨Nat.zero_le _, Nat.zero_le _⟩ dX10_fairest_117 (fun r_21 M_22 H locs hp_22 hw => ?_)
                  obtain ⟨hm, rfl⟩ := hp_22
                  have hw := hw.to hm
                  refine lv_iload hx hb dX10_fairest_120 (lv_at hl 3 rfl) ?_
                  refine lv_icmp_gt (tgt := 128) hx hb dX10_fairest_122 (by decide) (fun c => absurd c (by decide)) (fun c_122 => ?_)
                  refine lv_goto (tgt := 139) hx hb dX10_fairest_125 (by decide) ?_
                  refine lv_iinc (v := 2) (lv' := [(6, .int 2), (8, .int tt), (7, .int 0), (5, .int 0), (4, .int 0), (0, .ref (A 60 0)), (1, .int z), (2, .int z2), (3, .int z3)]) hx hb dX10_fairest_139 hl (k := 2) rfl (by decide) (by decide) rfl (fun ls hl => ?_)
                  refine lv_goto (tgt := 40) hx hb dX10_fairest_142 (by decide) ?_
                  refine lv_iload hx hb dX10_fairest_40 (lv_at hl 0 rfl) ?_
                  refine lv_bipush (v := 8) hx hb dX10_fairest_42 (by decide) ?_
                  refine lv_icmp_ge (tgt := 145) hx hb dX10_fairest_44 (by decide) (fun c => absurd c (by decide)) (fun c_44 => ?_)
                  refine lv_aload_n hx hb dX10_fairest_47 rfl (lv_at hl 5 rfl) ?_
                  refine ti_callVv (ci := 10) (av := []) C hw (k_X10_lays l D A cy hJ Mx ⟨(m_taped), (m_lf), (m_lp), (m_hi), (m_un), (m_st), (m_kb), ((congrFun (rfl) 0).trans n0), ((congrFun (rfl) 3).trans n3), ((congrFun (rfl) 5).trans n5), ((congrFun (rfl) 7).trans n7), ((congrFun (rfl) 0).trans mi0), ((congrFun (rfl) 0).trans wa0), ((congrFun (rfl) 0).trans co0), ((congrFun (rfl) 0).trans ma0), ((congrFun (rfl) 0).trans pw0), ((congrFun (rfl) 1).trans pw1), ((congrFun (rfl) 2).trans pw2), sf, sto⟩) ⟨ml_X10_442, ym_X10_lays, yv_X10_lays, yi_X10_lays, yc_X10_lays⟩ yd_X10_lays ob_60 (by decide) rfl rfl hl.1 (Nat.le_of_ble_eq_true rfl) ⟨by decide, by decide⟩ ⟨Nat.zero_le _, Nat.zero_le _⟩ dX10_fairest_48 (fun M_24 H locs hp_24 hw => ?_)
                  obtain ⟨hF, k34_24, k38_24, k49_24⟩ := hp_24
                  obtain ⟨m_taped, m_lf, m_lp, m_hi, m_un, m_st, m_kb, n0, n3, n5, n7, mi0, wa0, co0, ma0, pw0, pw1, pw2, sf, sto⟩ := id hF
                  refine lv_aload_n hx hb dX10_fairest_51 rfl (lv_at hl 5 rfl) ?_
                  refine ti_get (ci := 10) (k := 49) (N := 67) (T := TX10) (v := .ref (A 60 50)) C hw iw_10 rfl ob_60 (by decide) (by decide) fl_X10_114 rfl rfl dX10_fairest_52 ?_
                  refine lv_iconst (v := 3) hx hb dX10_fairest_55 (by decide) ?_
                  refine lv_iload_n hx hb dX10_fairest_56 rfl (lv_at hl 6 rfl) ?_
                  refine lv_iadd hx hb dX10_fairest_57 ?_
                  refine lv_topi (fun x_25 ex_25 => ?_)
                  refine lv_iload hx hb dX10_fairest_58 (lv_at hl 0 rfl) ?_
                  refine ti_iastG (ci := 10) (k := 49) (n := 69) C hw ob_60 (by decide) (fun _ _ => rfl) (ti_vin3 ex_25 (by assumption) (by assumption)) dX10_fairest_60 (fun H locs g_26 eg_26 hw => ?_)
                  obtain ⟨-, hg0_26, hg1_26, hg2_26, hg5_26⟩ := ti_pw3 eg_26 ex_25 (by assumption) (by assumption) (p := 2) (by decide) (by rw [((congrFun (rfl) 5).trans k49_24)]; decide)
                  refine lv_iconst (v := 0) hx hb dX10_fairest_61 (by decide) ?_
                  refine lv_istore (lv' := [(7, .int 0), (6, .int 2), (8, .int tt), (5, .int 0), (4, .int 0), (0, .ref (A 60 0)), (1, .int z), (2, .int z2), (3, .int z3)]) hx hb dX10_fairest_62 hl (by decide) rfl (fun ls hl => ?_)
                  refine lv_iconst (v := 0) hx hb dX10_fairest_64 (by decide) ?_
                  refine lv_istore (lv' := [(8, .int 0), (7, .int 0), (6, .int 2), (5, .int 0), (4, .int 0), (0, .ref (A 60 0)), (1, .int z), (2, .int z2), (3, .int z3)]) hx hb dX10_fairest_65 hl (by decide) rfl (fun ls hl => ?_)
                  suffices hloop : ∀ (n : Nat) (tt : Int32) (Mx : ti_M) (H : Heap) (locs : List Loc) (ls : Array Slot), ((z2.toInt - tt.toInt).toNat < n) → (ti_FM Mx) → (tY Mx 60 38 1 = 0) → (¬ tY Mx 60 49 5 < 0) → ti_H ti_LM D A cy H0 Mx H locs → lv_has ls 9 [(8, .int tt), (7, .int 0), (6, .int 2), (5, .int 0), (4, .int 0), (0, .ref (A 60 0)), (1, .int z), (2, .int z2), (3, .int z3)] → W p l e (ti_rm 3) s m args below meth c H locs 0 0 Q (F0 m 67 ls []) from hloop (z2.toInt.toNat + 1) 0 (uY M_24 60 49 g_26) _ _ _ (by simp only [ti_l0]; omega) ⟨((tI_uY _ _ _ _ _ _).trans m_taped), ((tI_uY _ _ _ _ _ _).trans m_lf), ((tI_uY _ _ _ _ _ _).trans m_lp), ((tI_uY _ _ _ _ _ _).trans m_hi), ((tI_uY _ _ _ _ _ _).trans m_un), ((tI_uY _ _ _ _ _ _).trans m_st), ((tI_uY _ _ _ _ _ _).trans m_kb), ((congrFun ((tY_k _ _ _ _ (by decide)).trans rfl) 0).trans n0), ((congrFun ((tY_k _ _ _ _ (by decide)).trans rfl) 3).trans n3), ((congrFun ((tY_k _ _ _ _ (by decide)).trans rfl) 5).trans n5), ((congrFun ((tY_k _ _ _ _ (by decide)).trans rfl) 7).trans n7), ((congrFun ((tY_k _ _ _ _ (by decide)).trans rfl) 0).trans mi0), ((congrFun ((tY_k _ _ _ _ (by decide)).trans rfl) 0).trans wa0), ((congrFun ((tY_k _ _ _ _ (by decide)).trans rfl) 0).trans co0), ((congrFun ((tY_k _ _ _ _ (by decide)).trans rfl) 0).trans ma0), ((congrFun (tY_u _ _ _ _) 0).trans (hg0_26.trans ((congrFun (rfl) 0).trans pw0))), ((congrFun (tY_u _ _ _ _) 1).trans (hg1_26.trans ((congrFun (rfl) 1).trans pw1))), ((congrFun (tY_u _ _ _ _) 2).trans (hg2_26.trans ((congrFun (rfl) 2).trans pw2))), sf, sto⟩ ((congrFun ((tY_k _ _ _ _ (by decide)).trans rfl) 1).trans k38_24) (ti_ntr (congrFun (tY_u _ _ _ _) 5) hg5_26) hw (lv_sub hl [0, 1, 2, 3, 4, 5, 6, 7, 8] rfl)
                  clear hw hl ls
                  intro n
                  induction n with
                  | zero => intro tt Mx H locs ls hfuel hF h38 hpw hw hl; exact absurd hfuel (by omega)
                  | succ n ih =>
                    intro tt Mx H locs ls hfuel hF h38 hpw hw hl
                    obtain ⟨m_taped, m_lf, m_lp, m_hi, m_un, m_st, m_kb, n0, n3, n5, n7, mi0, wa0, co0, ma0, pw0, pw1, pw2, sf, sto⟩ := id hF
                    refine lv_iload hx hb dX10_fairest_67 (lv_at hl 0 rfl) ?_
                    refine lv_iload_n hx hb dX10_fairest_69 rfl (lv_at hl 7 rfl) ?_
                    refine lv_icmp_ge (tgt := 109) hx hb dX10_fairest_70 (by decide) (fun c_70 => ?_) (fun c_70 => ?_)
                    · refine lv_iload hx hb dX10_fairest_109 (lv_at hl 4 rfl) ?_
                      refine lv_iconst (v := (-1)) hx hb dX10_fairest_111 (by decide) ?_
                      refine lv_icmp_eq (tgt := 128) hx hb dX10_fairest_112 (by decide) (fun c => absurd c (by decide)) (fun c_112 => ?_)
                      refine lv_iload hx hb dX10_fairest_115 (lv_at hl 1 rfl) ?_
                      refine ti_callSi (av := [.int 0]) C hw (k_X10_bitsOf l D A cy hJ Mx ) ⟨ml_X10_448, ys_X10_bitsOf, yi_X10_bitsOf, yc_X10_bitsOf⟩ yd_X10_bitsOf rfl hl.1 (Nat.le_of_ble_eq_true rfl) ⟨by decide, by decide⟩ ⟨Nat.zero_le _, Nat.zero_le _⟩ dX10_fairest_117 (fun r_27 M_28 H locs hp_28 hw => ?_)
                      obtain ⟨hm, rfl⟩ := hp_28
                      have hw := hw.to hm
                      refine lv_iload hx hb dX10_fairest_120 (lv_at hl 3 rfl) ?_
                      refine lv_icmp_gt (tgt := 128) hx hb dX10_fairest_122 (by decide) (fun c => absurd c (by decide)) (fun c_122 => ?_)
                      refine lv_goto (tgt := 139) hx hb dX10_fairest_125 (by decide) ?_
                      refine lv_iinc (v := 3) (lv' := [(6, .int 3), (8, .int tt), (7, .int 0), (5, .int 0), (4, .int 0), (0, .ref (A 60 0)), (1, .int z), (2, .int z2), (3, .int z3)]) hx hb dX10_fairest_139 hl (k := 2) rfl (by decide) (by decide) rfl (fun ls hl => ?_)
                      refine lv_goto (tgt := 40) hx hb dX10_fairest_142 (by decide) ?_
                      refine lv_iload hx hb dX10_fairest_40 (lv_at hl 0 rfl) ?_
                      refine lv_bipush (v := 8) hx hb dX10_fairest_42 (by decide) ?_
                      refine lv_icmp_ge (tgt := 145) hx hb dX10_fairest_44 (by decide) (fun c => absurd c (by decide)) (fun c_44 => ?_)
                      refine lv_aload_n hx hb dX10_fairest_47 rfl (lv_at hl 5 rfl) ?_
                      refine ti_callVv (ci := 10) (av := []) C hw (k_X10_lays l D A cy hJ Mx ⟨(m_taped), (m_lf), (m_lp), (m_hi), (m_un), (m_st), (m_kb), ((congrFun (rfl) 0).trans n0), ((congrFun (rfl) 3).trans n3), ((congrFun (rfl) 5).trans n5), ((congrFun (rfl) 7).trans n7), ((congrFun (rfl) 0).trans mi0), ((congrFun (rfl) 0).trans wa0), ((congrFun (rfl) 0).trans co0), ((congrFun (rfl) 0).trans ma0), ((congrFun (rfl) 0).trans pw0), ((congrFun (rfl) 1).trans pw1), ((congrFun (rfl) 2).trans pw2), sf, sto⟩) ⟨ml_X10_442, ym_X10_lays, yv_X10_lays, yi_X10_lays, yc_X10_lays⟩ yd_X10_lays ob_60 (by decide) rfl rfl hl.1 (Nat.le_of_ble_eq_true rfl) ⟨by decide, by decide⟩ ⟨Nat.zero_le _, Nat.zero_le _⟩ dX10_fairest_48 (fun M_30 H locs hp_30 hw => ?_)
                      obtain ⟨hF, k34_30, k38_30, k49_30⟩ := hp_30
                      obtain ⟨m_taped, m_lf, m_lp, m_hi, m_un, m_st, m_kb, n0, n3, n5, n7, mi0, wa0, co0, ma0, pw0, pw1, pw2, sf, sto⟩ := id hF
                      refine lv_aload_n hx hb dX10_fairest_51 rfl (lv_at hl 5 rfl) ?_
                      refine ti_get (ci := 10) (k := 49) (N := 67) (T := TX10) (v := .ref (A 60 50)) C hw iw_10 rfl ob_60 (by decide) (by decide) fl_X10_114 rfl rfl dX10_fairest_52 ?_
                      refine lv_iconst (v := 3) hx hb dX10_fairest_55 (by decide) ?_
                      refine lv_iload_n hx hb dX10_fairest_56 rfl (lv_at hl 6 rfl) ?_
                      refine lv_iadd hx hb dX10_fairest_57 ?_
                      refine lv_topi (fun x_31 ex_31 => ?_)
                      refine lv_iload hx hb dX10_fairest_58 (lv_at hl 0 rfl) ?_
                      refine ti_iastG (ci := 10) (k := 49) (n := 69) C hw ob_60 (by decide) (fun _ _ => rfl) (ti_vin3 ex_31 (by assumption) (by assumption)) dX10_fairest_60 (fun H locs g_32 eg_32 hw => ?_)
                      obtain ⟨-, hg0_32, hg1_32, hg2_32, hg5_32⟩ := ti_pw3 eg_32 ex_31 (by assumption) (by assumption) (p := 3) (by decide) (by rw [((congrFun (rfl) 5).trans k49_30)]; decide)
                      refine lv_iconst (v := 0) hx hb dX10_fairest_61 (by decide) ?_
                      refine lv_istore (lv' := [(7, .int 0), (6, .int 3), (8, .int tt), (5, .int 0), (4, .int 0), (0, .ref (A 60 0)), (1, .int z), (2, .int z2), (3, .int z3)]) hx hb dX10_fairest_62 hl (by decide) rfl (fun ls hl => ?_)
                      refine lv_iconst (v := 0) hx hb dX10_fairest_64 (by decide) ?_
                      refine lv_istore (lv' := [(8, .int 0), (7, .int 0), (6, .int 3), (5, .int 0), (4, .int 0), (0, .ref (A 60 0)), (1, .int z), (2, .int z2), (3, .int z3)]) hx hb dX10_fairest_65 hl (by decide) rfl (fun ls hl => ?_)
                      suffices hloop : ∀ (n : Nat) (tt : Int32) (Mx : ti_M) (H : Heap) (locs : List Loc) (ls : Array Slot), ((z2.toInt - tt.toInt).toNat < n) → (ti_FM Mx) → (tY Mx 60 38 1 = 0) → (¬ tY Mx 60 49 5 < 0) → ti_H ti_LM D A cy H0 Mx H locs → lv_has ls 9 [(8, .int tt), (7, .int 0), (6, .int 3), (5, .int 0), (4, .int 0), (0, .ref (A 60 0)), (1, .int z), (2, .int z2), (3, .int z3)] → W p l e (ti_rm 3) s m args below meth c H locs 0 0 Q (F0 m 67 ls []) from hloop (z2.toInt.toNat + 1) 0 (uY M_30 60 49 g_32) _ _ _ (by simp only [ti_l0]; omega) ⟨((tI_uY _ _ _ _ _ _).trans m_taped), ((tI_uY _ _ _ _ _ _).trans m_lf), ((tI_uY _ _ _ _ _ _).trans m_lp), ((tI_uY _ _ _ _ _ _).trans m_hi), ((tI_uY _ _ _ _ _ _).trans m_un), ((tI_uY _ _ _ _ _ _).trans m_st), ((tI_uY _ _ _ _ _ _).trans m_kb), ((congrFun ((tY_k _ _ _ _ (by decide)).trans rfl) 0).trans n0), ((congrFun ((tY_k _ _ _ _ (by decide)).trans rfl) 3).trans n3), ((congrFun ((tY_k _ _ _ _ (by decide)).trans rfl) 5).trans n5), ((congrFun ((tY_k _ _ _ _ (by decide)).trans rfl) 7).trans n7), ((congrFun ((tY_k _ _ _ _ (by decide)).trans rfl) 0).trans mi0), ((congrFun ((tY_k _ _ _ _ (by decide)).trans rfl) 0).trans wa0), ((congrFun ((tY_k _ _ _ _ (by decide)).trans rfl) 0).trans co0), ((congrFun ((tY_k _ _ _ _ (by decide)).trans rfl) 0).trans ma0), ((congrFun (tY_u _ _ _ _) 0).trans (hg0_32.trans ((congrFun (rfl) 0).trans pw0))), ((congrFun (tY_u _ _ _ _) 1).trans (hg1_32.trans ((congrFun (rfl) 1).trans pw1))), ((congrFun (tY_u _ _ _ _) 2).trans (hg2_32.trans ((congrFun (rfl) 2).trans pw2))), sf, sto⟩ ((congrFun ((tY_k _ _ _ _ (by decide)).trans rfl) 1).trans k38_30) (ti_ntr (congrFun (tY_u _ _ _ _) 5) hg5_32) hw (lv_sub hl [0, 1, 2, 3, 4, 5, 6, 7, 8] rfl)
                      clear hw hl ls
                      intro n
                      induction n with
                      | zero => intro tt Mx H locs ls hfuel hF h38 hpw hw hl; exact absurd hfuel (by omega)
                      | succ n ih =>
                        intro tt Mx H locs ls hfuel hF h38 hpw hw hl
                        obtain ⟨m_taped, m_lf, m_lp, m_hi, m_un, m_st, m_kb, n0, n3, n5, n7, mi0, wa0, co0, ma0, pw0, pw1, pw2, sf, sto⟩ := id hF
                        refine lv_iload hx hb dX10_fairest_67 (lv_at hl 0 rfl) ?_
                        refine lv_iload_n hx hb dX10_fairest_69 rfl (lv_at hl 7 rfl) ?_
                        refine lv_icmp_ge (tgt := 109) hx hb dX10_fairest_70 (by decide) (fun c_70 => ?_) (fun c_70 => ?_)
                        · refine lv_iload hx hb dX10_fairest_109 (lv_at hl 4 rfl) ?_
                          refine lv_iconst (v := (-1)) hx hb dX10_fairest_111 (by decide) ?_
                          refine lv_icmp_eq (tgt := 128) hx hb dX10_fairest_112 (by decide) (fun c => absurd c (by decide)) (fun c_112 => ?_)
                          refine lv_iload hx hb dX10_fairest_115 (lv_at hl 1 rfl) ?_
                          refine ti_callSi (av := [.int 0]) C hw (k_X10_bitsOf l D A cy hJ Mx ) ⟨ml_X10_448, ys_X10_bitsOf, yi_X10_bitsOf, yc_X10_bitsOf⟩ yd_X10_bitsOf rfl hl.1 (Nat.le_of_ble_eq_true rfl) ⟨by decide, by decide⟩ ⟨Nat.zero_le _, Nat.zero_le _⟩ dX10_fairest_117 (fun r_33 M_34 H locs hp_34 hw => ?_)
                          obtain ⟨hm, rfl⟩ := hp_34
                          have hw := hw.to hm
                          refine lv_iload hx hb dX10_fairest_120 (lv_at hl 3 rfl) ?_
                          refine lv_icmp_gt (tgt := 128) hx hb dX10_fairest_122 (by decide) (fun c => absurd c (by decide)) (fun c_122 => ?_)
                          refine lv_goto (tgt := 139) hx hb dX10_fairest_125 (by decide) ?_
                          refine lv_iinc (v := 4) (lv' := [(6, .int 4), (8, .int tt), (7, .int 0), (5, .int 0), (4, .int 0), (0, .ref (A 60 0)), (1, .int z), (2, .int z2), (3, .int z3)]) hx hb dX10_fairest_139 hl (k := 2) rfl (by decide) (by decide) rfl (fun ls hl => ?_)
                          refine lv_goto (tgt := 40) hx hb dX10_fairest_142 (by decide) ?_
                          refine lv_iload hx hb dX10_fairest_40 (lv_at hl 0 rfl) ?_
                          refine lv_bipush (v := 8) hx hb dX10_fairest_42 (by decide) ?_
                          refine lv_icmp_ge (tgt := 145) hx hb dX10_fairest_44 (by decide) (fun c => absurd c (by decide)) (fun c_44 => ?_)
                          refine lv_aload_n hx hb dX10_fairest_47 rfl (lv_at hl 5 rfl) ?_
                          refine ti_callVv (ci := 10) (av := []) C hw (k_X10_lays l D A cy hJ Mx ⟨(m_taped), (m_lf), (m_lp), (m_hi), (m_un), (m_st), (m_kb), ((congrFun (rfl) 0).trans n0), ((congrFun (rfl) 3).trans n3), ((congrFun (rfl) 5).trans n5), ((congrFun (rfl) 7).trans n7), ((congrFun (rfl) 0).trans mi0), ((congrFun (rfl) 0).trans wa0), ((congrFun (rfl) 0).trans co0), ((congrFun (rfl) 0).trans ma0), ((congrFun (rfl) 0).trans pw0), ((congrFun (rfl) 1).trans pw1), ((congrFun (rfl) 2).trans pw2), sf, sto⟩) ⟨ml_X10_442, ym_X10_lays, yv_X10_lays, yi_X10_lays, yc_X10_lays⟩ yd_X10_lays ob_60 (by decide) rfl rfl hl.1 (Nat.le_of_ble_eq_true rfl) ⟨by decide, by decide⟩ ⟨Nat.zero_le _, Nat.zero_le _⟩ dX10_fairest_48 (fun M_36 H locs hp_36 hw => ?_)
                          obtain ⟨hF, k34_36, k38_36, k49_36⟩ := hp_36
                          obtain ⟨m_taped, m_lf, m_lp, m_hi, m_un, m_st, m_kb, n0, n3, n5, n7, mi0, wa0, co0, ma0, pw0, pw1, pw2, sf, sto⟩ := id hF
                          refine lv_aload_n hx hb dX10_fairest_51 rfl (lv_at hl 5 rfl) ?_
                          refine ti_get (ci := 10) (k := 49) (N := 67) (T := TX10) (v := .ref (A 60 50)) C hw iw_10 rfl ob_60 (by decide) (by decide) fl_X10_114 rfl rfl dX10_fairest_52 ?_
                          refine lv_iconst (v := 3) hx hb dX10_fairest_55 (by decide) ?_
                          refine lv_iload_n hx hb dX10_fairest_56 rfl (lv_at hl 6 rfl) ?_
                          refine lv_iadd hx hb dX10_fairest_57 ?_
                          refine lv_topi (fun x_37 ex_37 => ?_)
                          refine lv_iload hx hb dX10_fairest_58 (lv_at hl 0 rfl) ?_
                          refine ti_iastG (ci := 10) (k := 49) (n := 69) C hw ob_60 (by decide) (fun _ _ => rfl) (ti_vin3 ex_37 (by assumption) (by assumption)) dX10_fairest_60 (fun H locs g_38 eg_38 hw => ?_)
                          obtain ⟨-, hg0_38, hg1_38, hg2_38, hg5_38⟩ := ti_pw3 eg_38 ex_37 (by assumption) (by assumption) (p := 4) (by decide) (by rw [((congrFun (rfl) 5).trans k49_36)]; decide)
                          refine lv_iconst (v := 0) hx hb dX10_fairest_61 (by decide) ?_
                          refine lv_istore (lv' := [(7, .int 0), (6, .int 4), (8, .int tt), (5, .int 0), (4, .int 0), (0, .ref (A 60 0)), (1, .int z), (2, .int z2), (3, .int z3)]) hx hb dX10_fairest_62 hl (by decide) rfl (fun ls hl => ?_)
                          refine lv_iconst (v := 0) hx hb dX10_fairest_64 (by decide) ?_
                          refine lv_istore (lv' := [(8, .int 0), (7, .int 0), (6, .int 4), (5, .int 0), (4, .int 0), (0, .ref (A 60 0)), (1, .int z), (2, .int z2), (3, .int z3)]) hx hb dX10_fairest_65 hl (by decide) rfl (fun ls hl => ?_)
                          suffices hloop : ∀ (n : Nat) (tt : Int32) (Mx : ti_M) (H : Heap) (locs : List Loc) (ls : Array Slot), ((z2.toInt - tt.toInt).toNat < n) → (ti_FM Mx) → (tY Mx 60 38 1 = 0) → (¬ tY Mx 60 49 5 < 0) → ti_H ti_LM D A cy H0 Mx H locs → lv_has ls 9 [(8, .int tt), (7, .int 0), (6, .int 4), (5, .int 0), (4, .int 0), (0, .ref (A 60 0)), (1, .int z), (2, .int z2), (3, .int z3)] → W p l e (ti_rm 3) s m args below meth c H locs 0 0 Q (F0 m 67 ls []) from hloop (z2.toInt.toNat + 1) 0 (uY M_36 60 49 g_38) _ _ _ (by simp only [ti_l0]; omega) ⟨((tI_uY _ _ _ _ _ _).trans m_taped), ((tI_uY _ _ _ _ _ _).trans m_lf), ((tI_uY _ _ _ _ _ _).trans m_lp), ((tI_uY _ _ _ _ _ _).trans m_hi), ((tI_uY _ _ _ _ _ _).trans m_un), ((tI_uY _ _ _ _ _ _).trans m_st), ((tI_uY _ _ _ _ _ _).trans m_kb), ((congrFun ((tY_k _ _ _ _ (by decide)).trans rfl) 0).trans n0), ((congrFun ((tY_k _ _ _ _ (by decide)).trans rfl) 3).trans n3), ((congrFun ((tY_k _ _ _ _ (by decide)).trans rfl) 5).trans n5), ((congrFun ((tY_k _ _ _ _ (by decide)).trans rfl) 7).trans n7), ((congrFun ((tY_k _ _ _ _ (by decide)).trans rfl) 0).trans mi0), ((congrFun ((tY_k _ _ _ _ (by decide)).trans rfl) 0).trans wa0), ((congrFun ((tY_k _ _ _ _ (by decide)).trans rfl) 0).trans co0), ((congrFun ((tY_k _ _ _ _ (by decide)).trans rfl) 0).trans ma0), ((congrFun (tY_u _ _ _ _) 0).trans (hg0_38.trans ((congrFun (rfl) 0).trans pw0))), ((congrFun (tY_u _ _ _ _) 1).trans (hg1_38.trans ((congrFun (rfl) 1).trans pw1))), ((congrFun (tY_u _ _ _ _) 2).trans (hg2_38.trans ((congrFun (rfl) 2).trans pw2))), sf, sto⟩ ((congrFun ((tY_k _ _ _ _ (by decide)).trans rfl) 1).trans k38_36) (ti_ntr (congrFun (tY_u _ _ _ _) 5) hg5_38) hw (lv_sub hl [0, 1, 2, 3, 4, 5, 6, 7, 8] rfl)
                          clear hw hl ls
                          intro n
                          induction n with
                          | zero => intro tt Mx H locs ls hfuel hF h38 hpw hw hl; exact absurd hfuel (by omega)
                          | succ n ih =>
                            intro tt Mx H locs ls hfuel hF h38 hpw hw hl
                            obtain ⟨m_taped, m_lf, m_lp, m_hi, m_un, m_st, m_kb, n0, n3, n5, n7, mi0, wa0, co0, ma0, pw0, pw1, pw2, sf, sto⟩ := id hF
                            refine lv_iload hx hb dX10_fairest_67 (lv_at hl 0 rfl) ?_
                            refine lv_iload_n hx hb dX10_fairest_69 rfl (lv_at hl 7 rfl) ?_
                            refine lv_icmp_ge (tgt := 109) hx hb dX10_fairest_70 (by decide) (fun c_70 => ?_) (fun c_70 => ?_)
                            · refine lv_iload hx hb dX10_fairest_109 (lv_at hl 4 rfl) ?_
                              refine lv_iconst (v := (-1)) hx hb dX10_fairest_111 (by decide) ?_
                              refine lv_icmp_eq (tgt := 128) hx hb dX10_fairest_112 (by decide) (fun c => absurd c (by decide)) (fun c_112 => ?_)
                              refine lv_iload hx hb dX10_fairest_115 (lv_at hl 1 rfl) ?_
                              refine ti_callSi (av := [.int 0]) C hw (k_X10_bitsOf l D A cy hJ Mx ) ⟨ml_X10_448, ys_X10_bitsOf, yi_X10_bitsOf, yc_X10_bitsOf⟩ yd_X10_bitsOf rfl hl.1 (Nat.le_of_ble_eq_true rfl) ⟨by decide, by decide⟩ ⟨Nat.zero_le _, Nat.zero_le _⟩ dX10_fairest_117 (fun r_39 M_40 H locs hp_40 hw => ?_)
                              obtain ⟨hm, rfl⟩ := hp_40
                              have hw := hw.to hm
                              refine lv_iload hx hb dX10_fairest_120 (lv_at hl 3 rfl) ?_
                              refine lv_icmp_gt (tgt := 128) hx hb dX10_fairest_122 (by decide) (fun c => absurd c (by decide)) (fun c_122 => ?_)
                              refine lv_goto (tgt := 139) hx hb dX10_fairest_125 (by decide) ?_
                              refine lv_iinc (v := 5) (lv' := [(6, .int 5), (8, .int tt), (7, .int 0), (5, .int 0), (4, .int 0), (0, .ref (A 60 0)), (1, .int z), (2, .int z2), (3, .int z3)]) hx hb dX10_fairest_139 hl (k := 2) rfl (by decide) (by decide) rfl (fun ls hl => ?_)
                              refine lv_goto (tgt := 40) hx hb dX10_fairest_142 (by decide) ?_
                              refine lv_iload hx hb dX10_fairest_40 (lv_at hl 0 rfl) ?_
                              refine lv_bipush (v := 8) hx hb dX10_fairest_42 (by decide) ?_
                              refine lv_icmp_ge (tgt := 145) hx hb dX10_fairest_44 (by decide) (fun c => absurd c (by decide)) (fun c_44 => ?_)
                              refine lv_aload_n hx hb dX10_fairest_47 rfl (lv_at hl 5 rfl) ?_
                              refine ti_callVv (ci := 10) (av := []) C hw (k_X10_lays l D A cy hJ Mx ⟨(m_taped), (m_lf), (m_lp), (m_hi), (m_un), (m_st), (m_kb), ((congrFun (rfl) 0).trans n0), ((congrFun (rfl) 3).trans n3), ((congrFun (rfl) 5).trans n5), ((congrFun (rfl) 7).trans n7), ((congrFun (rfl) 0).trans mi0), ((congrFun (rfl) 0).trans wa0), ((congrFun (rfl) 0).trans co0), ((congrFun (rfl) 0).trans ma0), ((congrFun (rfl) 0).trans pw0), ((congrFun (rfl) 1).trans pw1), ((congrFun (rfl) 2).trans pw2), sf, sto⟩) ⟨ml_X10_442, ym_X10_lays, yv_X10_lays, yi_X10_lays, yc_X10_lays⟩ yd_X10_lays ob_60 (by decide) rfl rfl hl.1 (Nat.le_of_ble_eq_true rfl) ⟨by decide, by decide⟩ ⟨Nat.zero_le _, Nat.zero_le _⟩ dX10_fairest_48 (fun M_42 H locs hp_42 hw => ?_)
                              obtain ⟨hF, k34_42, k38_42, k49_42⟩ := hp_42
                              obtain ⟨m_taped, m_lf, m_lp, m_hi, m_un, m_st, m_kb, n0, n3, n5, n7, mi0, wa0, co0, ma0, pw0, pw1, pw2, sf, sto⟩ := id hF
                              refine lv_aload_n hx hb dX10_fairest_51 rfl (lv_at hl 5 rfl) ?_
                              refine ti_get (ci := 10) (k := 49) (N := 67) (T := TX10) (v := .ref (A 60 50)) C hw iw_10 rfl ob_60 (by decide) (by decide) fl_X10_114 rfl rfl dX10_fairest_52 ?_
                              refine lv_iconst (v := 3) hx hb dX10_fairest_55 (by decide) ?_
                              refine lv_iload_n hx hb dX10_fairest_56 rfl (lv_at hl 6 rfl) ?_
                              refine lv_iadd hx hb dX10_fairest_57 ?_
                              refine lv_topi (fun x_43 ex_43 => ?_)
                              refine lv_iload hx hb dX10_fairest_58 (lv_at hl 0 rfl) ?_
                              refine ti_iastG (ci := 10) (k := 49) (n := 69) C hw ob_60 (by decide) (fun _ _ => rfl) (ti_vin3 ex_43 (by assumption) (by assumption)) dX10_fairest_60 (fun H locs g_44 eg_44 hw => ?_)
                              obtain ⟨-, hg0_44, hg1_44, hg2_44, hg5_44⟩ := ti_pw3 eg_44 ex_43 (by assumption) (by assumption) (p := 5) (by decide) (by rw [((congrFun (rfl) 5).trans k49_42)]; decide)
                              refine lv_iconst (v := 0) hx hb dX10_fairest_61 (by decide) ?_
                              refine lv_istore (lv' := [(7, .int 0), (6, .int 5), (8, .int tt), (5, .int 0), (4, .int 0), (0, .ref (A 60 0)), (1, .int z), (2, .int z2), (3, .int z3)]) hx hb dX10_fairest_62 hl (by decide) rfl (fun ls hl => ?_)
                              refine lv_iconst (v := 0) hx hb dX10_fairest_64 (by decide) ?_
                              refine lv_istore (lv' := [(8, .int 0), (7, .int 0), (6, .int 5), (5, .int 0), (4, .int 0), (0, .ref (A 60 0)), (1, .int z), (2, .int z2), (3, .int z3)]) hx hb dX10_fairest_65 hl (by decide) rfl (fun ls hl => ?_)
                              suffices hloop : ∀ (n : Nat) (tt : Int32) (Mx : ti_M) (H : Heap) (locs : List Loc) (ls : Array Slot), ((z2.toInt - tt.toInt).toNat < n) → (ti_FM Mx) → (tY Mx 60 38 1 = 0) → (¬ tY Mx 60 49 5 < 0) → ti_H ti_LM D A cy H0 Mx H locs → lv_has ls 9 [(8, .int tt), (7, .int 0), (6, .int 5), (5, .int 0), (4, .int 0), (0, .ref (A 60 0)), (1, .int z), (2, .int z2), (3, .int z3)] → W p l e (ti_rm 3) s m args below meth c H locs 0 0 Q (F0 m 67 ls []) from hloop (z2.toInt.toNat + 1) 0 (uY M_42 60 49 g_44) _ _ _ (by simp only [ti_l0]; omega) ⟨((tI_uY _ _ _ _ _ _).trans m_taped), ((tI_uY _ _ _ _ _ _).trans m_lf), ((tI_uY _ _ _ _ _ _).trans m_lp), ((tI_uY _ _ _ _ _ _).trans m_hi), ((tI_uY _ _ _ _ _ _).trans m_un), ((tI_uY _ _ _ _ _ _).trans m_st), ((tI_uY _ _ _ _ _ _).trans m_kb), ((congrFun ((tY_k _ _ _ _ (by decide)).trans rfl) 0).trans n0), ((congrFun ((tY_k _ _ _ _ (by decide)).trans rfl) 3).trans n3), ((congrFun ((tY_k _ _ _ _ (by decide)).trans rfl) 5).trans n5), ((congrFun ((tY_k _ _ _ _ (by decide)).trans rfl) 7).trans n7), ((congrFun ((tY_k _ _ _ _ (by decide)).trans rfl) 0).trans mi0), ((congrFun ((tY_k _ _ _ _ (by decide)).trans rfl) 0).trans wa0), ((congrFun ((tY_k _ _ _ _ (by decide)).trans rfl) 0).trans co0), ((congrFun ((tY_k _ _ _ _ (by decide)).trans rfl) 0).trans ma0), ((congrFun (tY_u _ _ _ _) 0).trans (hg0_44.trans ((congrFun (rfl) 0).trans pw0))), ((congrFun (tY_u _ _ _ _) 1).trans (hg1_44.trans ((congrFun (rfl) 1).trans pw1))), ((congrFun (tY_u _ _ _ _) 2).trans (hg2_44.trans ((congrFun (rfl) 2).trans pw2))), sf, sto⟩ ((congrFun ((tY_k _ _ _ _ (by decide)).trans rfl) 1).trans k38_42) (ti_ntr (congrFun (tY_u _ _ _ _) 5) hg5_44) hw (lv_sub hl [0, 1, 2, 3, 4, 5, 6, 7, 8] rfl)
                              clear hw hl ls
                              intro n
                              induction n with
                              | zero => intro tt Mx H locs ls hfuel hF h38 hpw hw hl; exact absurd hfuel (by omega)
                              | succ n ih =>
                                intro tt Mx H locs ls hfuel hF h38 hpw hw hl
                                obtain ⟨m_taped, m_lf, m_lp, m_hi, m_un, m_st, m_kb, n0, n3, n5, n7, mi0, wa0, co0, ma0, pw0, pw1, pw2, sf, sto⟩ := id hF
                                refine lv_iload hx hb dX10_fairest_67 (lv_at hl 0 rfl) ?_
                                refine lv_iload_n hx hb dX10_fairest_69 rfl (lv_at hl 7 rfl) ?_
                                refine lv_icmp_ge (tgt := 109) hx hb dX10_fairest_70 (by decide) (fun c_70 => ?_) (fun c_70 => ?_)
                                · refine lv_iload hx hb dX10_fairest_109 (lv_at hl 4 rfl) ?_
                                  refine lv_iconst (v := (-1)) hx hb dX10_fairest_111 (by decide) ?_
                                  refine lv_icmp_eq (tgt := 128) hx hb dX10_fairest_112 (by decide) (fun c => absurd c (by decide)) (fun c_112 => ?_)
                                  refine lv_iload hx hb dX10_fairest_115 (lv_at hl 1 rfl) ?_
                                  refine ti_callSi (av := [.int 0]) C hw (k_X10_bitsOf l D A cy hJ Mx ) ⟨ml_X10_448, ys_X10_bitsOf, yi_X10_bitsOf, yc_X10_bitsOf⟩ yd_X10_bitsOf rfl hl.1 (Nat.le_of_ble_eq_true rfl) ⟨by decide, by decide⟩ ⟨Nat.zero_le _, Nat.zero_le _⟩ dX10_fairest_117 (fun r_45 M_46 H locs hp_46 hw => ?_)
                                  obtain ⟨hm, rfl⟩ := hp_46
                                  have hw := hw.to hm
                                  refine lv_iload hx hb dX10_fairest_120 (lv_at hl 3 rfl) ?_
                                  refine lv_icmp_gt (tgt := 128) hx hb dX10_fairest_122 (by decide) (fun c => absurd c (by decide)) (fun c_122 => ?_)
                                  refine lv_goto (tgt := 139) hx hb dX10_fairest_125 (by decide) ?_
                                  refine lv_iinc (v := 6) (lv' := [(6, .int 6), (8, .int tt), (7, .int 0), (5, .int 0), (4, .int 0), (0, .ref (A 60 0)), (1, .int z), (2, .int z2), (3, .int z3)]) hx hb dX10_fairest_139 hl (k := 2) rfl (by decide) (by decide) rfl (fun ls hl => ?_)
                                  refine lv_goto (tgt := 40) hx hb dX10_fairest_142 (by decide) ?_
                                  refine lv_iload hx hb dX10_fairest_40 (lv_at hl 0 rfl) ?_
                                  refine lv_bipush (v := 8) hx hb dX10_fairest_42 (by decide) ?_
                                  refine lv_icmp_ge (tgt := 145) hx hb dX10_fairest_44 (by decide) (fun c => absurd c (by decide)) (fun c_44 => ?_)
                                  refine lv_aload_n hx hb dX10_fairest_47 rfl (lv_at hl 5 rfl) ?_
                                  refine ti_callVv (ci := 10) (av := []) C hw (k_X10_lays l D A cy hJ Mx ⟨(m_taped), (m_lf), (m_lp), (m_hi), (m_un), (m_st), (m_kb), ((congrFun (rfl) 0).trans n0), ((congrFun (rfl) 3).trans n3), ((congrFun (rfl) 5).trans n5), ((congrFun (rfl) 7).trans n7), ((congrFun (rfl) 0).trans mi0), ((congrFun (rfl) 0).trans wa0), ((congrFun (rfl) 0).trans co0), ((congrFun (rfl) 0).trans ma0), ((congrFun (rfl) 0).trans pw0), ((congrFun (rfl) 1).trans pw1), ((congrFun (rfl) 2).trans pw2), sf, sto⟩) ⟨ml_X10_442, ym_X10_lays, yv_X10_lays, yi_X10_lays, yc_X10_lays⟩ yd_X10_lays ob_60 (by decide) rfl rfl hl.1 (Nat.le_of_ble_eq_true rfl) ⟨by decide, by decide⟩ ⟨Nat.zero_le _, Nat.zero_le _⟩ dX10_fairest_48 (fun M_48 H locs hp_48 hw => ?_)
                                  obtain ⟨hF, k34_48, k38_48, k49_48⟩ := hp_48
                                  obtain ⟨m_taped, m_lf, m_lp, m_hi, m_un, m_st, m_kb, n0, n3, n5, n7, mi0, wa0, co0, ma0, pw0, pw1, pw2, sf, sto⟩ := id hF
                                  refine lv_aload_n hx hb dX10_fairest_51 rfl (lv_at hl 5 rfl) ?_
                                  refine ti_get (ci := 10) (k := 49) (N := 67) (T := TX10) (v := .ref (A 60 50)) C hw iw_10 rfl ob_60 (by decide) (by decide) fl_X10_114 rfl rfl dX10_fairest_52 ?_
                                  refine lv_iconst (v := 3) hx hb dX10_fairest_55 (by decide) ?_
                                  refine lv_iload_n hx hb dX10_fairest_56 rfl (lv_at hl 6 rfl) ?_
                                  refine lv_iadd hx hb dX10_fairest_57 ?_
                                  refine lv_topi (fun x_49 ex_49 => ?_)
                                  refine lv_iload hx hb dX10_fairest_58 (lv_at hl 0 rfl) ?_
                                  refine ti_iastG (ci := 10) (k := 49) (n := 69) C hw ob_60 (by decide) (fun _ _ => rfl) (ti_vin3 ex_49 (by assumption) (by assumption)) dX10_fairest_60 (fun H locs g_50 eg_50 hw => ?_)
                                  obtain ⟨-, hg0_50, hg1_50, hg2_50, hg5_50⟩ := ti_pw3 eg_50 ex_49 (by assumption) (by assumption) (p := 6) (by decide) (by rw [((congrFun (rfl) 5).trans k49_48)]; decide)
                                  refine lv_iconst (v := 0) hx hb dX10_fairest_61 (by decide) ?_
                                  refine lv_istore (lv' := [(7, .int 0), (6, .int 6), (8, .int tt), (5, .int 0), (4, .int 0), (0, .ref (A 60 0)), (1, .int z), (2, .int z2), (3, .int z3)]) hx hb dX10_fairest_62 hl (by decide) rfl (fun ls hl => ?_)
                                  refine lv_iconst (v := 0) hx hb dX10_fairest_64 (by decide) ?_
                                  refine lv_istore (lv' := [(8, .int 0), (7, .int 0), (6, .int 6), (5, .int 0), (4, .int 0), (0, .ref (A 60 0)), (1, .int z), (2, .int z2), (3, .int z3)]) hx hb dX10_fairest_65 hl (by decide) rfl (fun ls hl => ?_)
                                  suffices hloop : ∀ (n : Nat) (tt : Int32) (Mx : ti_M) (H : Heap) (locs : List Loc) (ls : Array Slot), ((z2.toInt - tt.toInt).toNat < n) → (ti_FM Mx) → (tY Mx 60 38 1 = 0) → (¬ tY Mx 60 49 5 < 0) → ti_H ti_LM D A cy H0 Mx H locs → lv_has ls 9 [(8, .int tt), (7, .int 0), (6, .int 6), (5, .int 0), (4, .int 0), (0, .ref (A 60 0)), (1, .int z), (2, .int z2), (3, .int z3)] → W p l e (ti_rm 3) s m args below meth c H locs 0 0 Q (F0 m 67 ls []) from hloop (z2.toInt.toNat + 1) 0 (uY M_48 60 49 g_50) _ _ _ (by simp only [ti_l0]; omega) ⟨((tI_uY _ _ _ _ _ _).trans m_taped), ((tI_uY _ _ _ _ _ _).trans m_lf), ((tI_uY _ _ _ _ _ _).trans m_lp), ((tI_uY _ _ _ _ _ _).trans m_hi), ((tI_uY _ _ _ _ _ _).trans m_un), ((tI_uY _ _ _ _ _ _).trans m_st), ((tI_uY _ _ _ _ _ _).trans m_kb), ((congrFun ((tY_k _ _ _ _ (by decide)).trans rfl) 0).trans n0), ((congrFun ((tY_k _ _ _ _ (by decide)).trans rfl) 3).trans n3), ((congrFun ((tY_k _ _ _ _ (by decide)).trans rfl) 5).trans n5), ((congrFun ((tY_k _ _ _ _ (by decide)).trans rfl) 7).trans n7), ((congrFun ((tY_k _ _ _ _ (by decide)).trans rfl) 0).trans mi0), ((congrFun ((tY_k _ _ _ _ (by decide)).trans rfl) 0).trans wa0), ((congrFun ((tY_k _ _ _ _ (by decide)).trans rfl) 0).trans co0), ((congrFun ((tY_k _ _ _ _ (by decide)).trans rfl) 0).trans ma0), ((congrFun (tY_u _ _ _ _) 0).trans (hg0_50.trans ((congrFun (rfl) 0).trans pw0))), ((congrFun (tY_u _ _ _ _) 1).trans (hg1_50.trans ((congrFun (rfl) 1).trans pw1))), ((congrFun (tY_u _ _ _ _) 2).trans (hg2_50.trans ((congrFun (rfl) 2).trans pw2))), sf, sto⟩ ((congrFun ((tY_k _ _ _ _ (by decide)).trans rfl) 1).trans k38_48) (ti_ntr (congrFun (tY_u _ _ _ _) 5) hg5_50) hw (lv_sub hl [0, 1, 2, 3, 4, 5, 6, 7, 8] rfl)
                                  clear hw hl ls
                                  intro n
                                  induction n with
                                  | zero => intro tt Mx H locs ls hfuel hF h38 hpw hw hl; exact absurd hfuel (by omega)
                                  | succ n ih =>
                                    intro tt Mx H locs ls hfuel hF h38 hpw hw hl
                                    obtain ⟨m_taped, m_lf, m_lp, m_hi, m_un, m_st, m_kb, n0, n3, n5, n7, mi0, wa0, co0, ma0, pw0, pw1, pw2, sf, sto⟩ := id hF
                                    refine lv_iload hx hb dX10_fairest_67 (lv_at hl 0 rfl) ?_
                                    refine lv_iload_n hx hb dX10_fairest_69 rfl (lv_at hl 7 rfl) ?_
                                    refine lv_icmp_ge (tgt := 109) hx hb dX10_fairest_70 (by decide) (fun c_70 => ?_) (fun c_70 => ?_)
                                    · refine lv_iload hx hb dX10_fairest_109 (lv_at hl 4 rfl) ?_
                                      refine lv_iconst (v := (-1)) hx hb dX10_fairest_111 (by decide) ?_
                                      refine lv_icmp_eq (tgt := 128) hx hb dX10_fairest_112 (by decide) (fun c => absurd c (by decide)) (fun c_112 => ?_)
                                      refine lv_iload hx hb dX10_fairest_115 (lv_at hl 1 rfl) ?_
                                      refine ti_callSi (av := [.int 0]) C hw (k_X10_bitsOf l D A cy hJ Mx ) ⟨ml_X10_448, ys_X10_bitsOf, yi_X10_bitsOf, yc_X10_bitsOf⟩ yd_X10_bitsOf rfl hl.1 (Nat.le_of_ble_eq_true rfl) ⟨by decide, by decide⟩ ⟨Nat.zero_le _, Nat.zero_le _⟩ dX10_fairest_117 (fun r_51 M_52 H locs hp_52 hw => ?_)
                                      obtain ⟨hm, rfl⟩ := hp_52
                                      have hw := hw.to hm
                                      refine lv_iload hx hb dX10_fairest_120 (lv_at hl 3 rfl) ?_
                                      refine lv_icmp_gt (tgt := 128) hx hb dX10_fairest_122 (by decide) (fun c => absurd c (by decide)) (fun c_122 => ?_)
                                      refine lv_goto (tgt := 139) hx hb dX10_fairest_125 (by decide) ?_
                                      refine lv_iinc (v := 7) (lv' := [(6, .int 7), (8, .int tt), (7, .int 0), (5, .int 0), (4, .int 0), (0, .ref (A 60 0)), (1, .int z), (2, .int z2), (3, .int z3)]) hx hb dX10_fairest_139 hl (k := 2) rfl (by decide) (by decide) rfl (fun ls hl => ?_)
                                      refine lv_goto (tgt := 40) hx hb dX10_fairest_142 (by decide) ?_
                                      refine lv_iload hx hb dX10_fairest_40 (lv_at hl 0 rfl) ?_
                                      refine lv_bipush (v := 8) hx hb dX10_fairest_42 (by decide) ?_
                                      refine lv_icmp_ge (tgt := 145) hx hb dX10_fairest_44 (by decide) (fun c => absurd c (by decide)) (fun c_44 => ?_)
                                      refine lv_aload_n hx hb dX10_fairest_47 rfl (lv_at hl 5 rfl) ?_
                                      refine ti_callVv (ci := 10) (av := []) C hw (k_X10_lays l D A cy hJ Mx ⟨(m_taped), (m_lf), (m_lp), (m_hi), (m_un), (m_st), (m_kb), ((congrFun (rfl) 0).trans n0), ((congrFun (rfl) 3).trans n3), ((congrFun (rfl) 5).trans n5), ((congrFun (rfl) 7).trans n7), ((congrFun (rfl) 0).trans mi0), ((congrFun (rfl) 0).trans wa0), ((congrFun (rfl) 0).trans co0), ((congrFun (rfl) 0).trans ma0), ((congrFun (rfl) 0).trans pw0), ((congrFun (rfl) 1).trans pw1), ((congrFun (rfl) 2).trans pw2), sf, sto⟩) ⟨ml_X10_442, ym_X10_lays, yv_X10_lays, yi_X10_lays, yc_X10_lays⟩ yd_X10_lays ob_60 (by decide) rfl rfl hl.1 (Nat.le_of_ble_eq_true rfl) ⟨by decide, by decide⟩ ⟨Nat.zero_le _, Nat.zero_le _⟩ dX10_fairest_48 (fun M_54 H locs hp_54 hw => ?_)
                                      obtain ⟨hF, k34_54, k38_54, k49_54⟩ := hp_54
                                      obtain ⟨m_taped, m_lf, m_lp, m_hi, m_un, m_st, m_kb, n0, n3, n5, n7, mi0, wa0, co0, ma0, pw0, pw1, pw2, sf, sto⟩ := id hF
                                      refine lv_aload_n hx hb dX10_fairest_51 rfl (lv_at hl 5 rfl) ?_
                                      refine ti_get (ci := 10) (k := 49) (N := 67) (T := TX10) (v := .ref (A 60 50)) C hw iw_10 rfl ob_60 (by decide) (by decide) fl_X10_114 rfl rfl dX10_fairest_52 ?_
                                      refine lv_iconst (v := 3) hx hb dX10_fairest_55 (by decide) ?_
                                      refine lv_iload_n hx hb dX10_fairest_56 rfl (lv_at hl 6 rfl) ?_
                                      refine lv_iadd hx hb dX10_fairest_57 ?_
                                      refine lv_topi (fun x_55 ex_55 => ?_)
                                      refine lv_iload hx hb dX10_fairest_58 (lv_at hl 0 rfl) ?_
                                      refine ti_iastG (ci := 10) (k := 49) (n := 69) C hw ob_60 (by decide) (fun _ _ => rfl) (ti_vin3 ex_55 (by assumption) (by assumption)) dX10_fairest_60 (fun H locs g_56 eg_56 hw => ?_)
                                      obtain ⟨-, hg0_56, hg1_56, hg2_56, hg5_56⟩ := ti_pw3 eg_56 ex_55 (by assumption) (by assumption) (p := 7) (by decide) (by rw [((congrFun (rfl) 5).trans k49_54)]; decide)
                                      refine lv_iconst (v := 0) hx hb dX10_fairest_61 (by decide) ?_
                                      refine lv_istore (lv' := [(7, .int 0), (6, .int 7), (8, .int tt), (5, .int 0), (4, .int 0), (0, .ref (A 60 0)), (1, .int z), (2, .int z2), (3, .int z3)]) hx hb dX10_fairest_62 hl (by decide) rfl (fun ls hl => ?_)
                                      refine lv_iconst (v := 0) hx hb dX10_fairest_64 (by decide) ?_
                                      refine lv_istore (lv' := [(8, .int 0), (7, .int 0), (6, .int 7), (5, .int 0), (4, .int 0), (0, .ref (A 60 0)), (1, .int z), (2, .int z2), (3, .int z3)]) hx hb dX10_fairest_65 hl (by decide) rfl (fun ls hl => ?_)
                                      suffices hloop : ∀ (n : Nat) (tt : Int32) (Mx : ti_M) (H : Heap) (locs : List Loc) (ls : Array Slot), ((z2.toInt - tt.toInt).toNat < n) → (ti_FM Mx) → (tY Mx 60 38 1 = 0) → (¬ tY Mx 60 49 5 < 0) → ti_H ti_LM D A cy H0 Mx H locs → lv_has ls 9 [(8, .int tt), (7, .int 0), (6, .int 7), (5, .int 0), (4, .int 0), (0, .ref (A 60 0)), (1, .int z), (2, .int z2), (3, .int z3)] → W p l e (ti_rm 3) s m args below meth c H locs 0 0 Q (F0 m 67 ls []) from hloop (z2.toInt.toNat + 1) 0 (uY M_54 60 49 g_56) _ _ _ (by simp only [ti_l0]; omega) ⟨((tI_uY _ _ _ _ _ _).trans m_taped), ((tI_uY _ _ _ _ _ _).trans m_lf), ((tI_uY _ _ _ _ _ _).trans m_lp), ((tI_uY _ _ _ _ _ _).trans m_hi), ((tI_uY _ _ _ _ _ _).trans m_un), ((tI_uY _ _ _ _ _ _).trans m_st), ((tI_uY _ _ _ _ _ _).trans m_kb), ((congrFun ((tY_k _ _ _ _ (by decide)).trans rfl) 0).trans n0), ((congrFun ((tY_k _ _ _ _ (by decide)).trans rfl) 3).trans n3), ((congrFun ((tY_k _ _ _ _ (by decide)).trans rfl) 5).trans n5), ((congrFun ((tY_k _ _ _ _ (by decide)).trans rfl) 7).trans n7), ((congrFun ((tY_k _ _ _ _ (by decide)).trans rfl) 0).trans mi0), ((congrFun ((tY_k _ _ _ _ (by decide)).trans rfl) 0).trans wa0), ((congrFun ((tY_k _ _ _ _ (by decide)).trans rfl) 0).trans co0), ((congrFun ((tY_k _ _ _ _ (by decide)).trans rfl) 0).trans ma0), ((congrFun (tY_u _ _ _ _) 0).trans (hg0_56.trans ((congrFun (rfl) 0).trans pw0))), ((congrFun (tY_u _ _ _ _) 1).trans (hg1_56.trans ((congrFun (rfl) 1).trans pw1))), ((congrFun (tY_u _ _ _ _) 2).trans (hg2_56.trans ((congrFun (rfl) 2).trans pw2))), sf, sto⟩ ((congrFun ((tY_k _ _ _ _ (by decide)).trans rfl) 1).trans k38_54) (ti_ntr (congrFun (tY_u _ _ _ _) 5) hg5_56) hw (lv_sub hl [0, 1, 2, 3, 4, 5, 6, 7, 8] rfl)
                                      clear hw hl ls
                                      intro n
                                      induction n with
                                      | zero => intro tt Mx H locs ls hfuel hF h38 hpw hw hl; exact absurd hfuel (by omega)
                                      | succ n ih =>
                                        intro tt Mx H locs ls hfuel hF h38 hpw hw hl
                                        obtain ⟨m_taped, m_lf, m_lp, m_hi, m_un, m_st, m_kb, n0, n3, n5, n7, mi0, wa0, co0, ma0, pw0, pw1, pw2, sf, sto⟩ := id hF
                                        refine lv_iload hx hb dX10_fairest_67 (lv_at hl 0 rfl) ?_
                                        refine lv_iload_n hx hb dX10_fairest_69 rfl (lv_at hl 7 rfl) ?_
                                        refine lv_icmp_ge (tgt := 109) hx hb dX10_fairest_70 (by decide) (fun c_70 => ?_) (fun c_70 => ?_)
                                        · refine lv_iload hx hb dX10_fairest_109 (lv_at hl 4 rfl) ?_
                                          refine lv_iconst (v := (-1)) hx hb dX10_fairest_111 (by decide) ?_
                                          refine lv_icmp_eq (tgt := 128) hx hb dX10_fairest_112 (by decide) (fun c => absurd c (by decide)) (fun c_112 => ?_)
                                          refine lv_iload hx hb dX10_fairest_115 (lv_at hl 1 rfl) ?_
                                          refine ti_callSi (av := [.int 0]) C hw (k_X10_bitsOf l D A cy hJ Mx ) ⟨ml_X10_448, ys_X10_bitsOf, yi_X10_bitsOf, yc_X10_bitsOf⟩ yd_X10_bitsOf rfl hl.1 (Nat.le_of_ble_eq_true rfl) ⟨by decide, by decide⟩ ⟨Nat.zero_le _, Nat.zero_le _⟩ dX10_fairest_117 (fun r_57 M_58 H locs hp_58 hw => ?_)
                                          obtain ⟨hm, rfl⟩ := hp_58
                                          have hw := hw.to hm
                                          refine lv_iload hx hb dX10_fairest_120 (lv_at hl 3 rfl) ?_
                                          refine lv_icmp_gt (tgt := 128) hx hb dX10_fairest_122 (by decide) (fun c => absurd c (by decide)) (fun c_122 => ?_)
                                          refine lv_goto (tgt := 139) hx hb dX10_fairest_125 (by decide) ?_
                                          refine lv_iinc (v := 8) (lv' := [(6, .int 8), (8, .int tt), (7, .int 0), (5, .int 0), (4, .int 0), (0, .ref (A 60 0)), (1, .int z), (2, .int z2), (3, .int z3)]) hx hb dX10_fairest_139 hl (k := 2) rfl (by decide) (by decide) rfl (fun ls hl => ?_)
                                          refine lv_goto (tgt := 40) hx hb dX10_fairest_142 (by decide) ?_
                                          refine lv_iload hx hb dX10_fairest_40 (lv_at hl 0 rfl) ?_
                                          refine lv_bipush (v := 8) hx hb dX10_fairest_42 (by decide) ?_
                                          refine lv_icmp_ge (tgt := 145) hx hb dX10_fairest_44 (by decide) (fun c_44 => ?_) (fun c => absurd (by decide) c)
                                          refine lv_iload_n hx hb dX10_fairest_145 rfl (lv_at hl 8 rfl) ?_
                                          refine lv_if_ne (tgt := 154) hx hb dX10_fairest_146 (by decide) (fun c_146 => ?_) (fun c_146 => ?_)
                                          · refine lv_iload hx hb dX10_fairest_154 (lv_at hl 3 rfl) ?_
                                            exact hQ _ _ _ _ _ _ hw rfl (ti_fz (by assumption) (by assumption) (by assumption) (by assumption) (by assumption) (by assumption)) dX10_fairest_156
                                          · refine lv_iload hx hb dX10_fairest_149 (lv_at hl 4 rfl) ?_
                                            refine lv_goto (tgt := 156) hx hb dX10_fairest_151 (by decide) ?_
                                            exact hQ _ _ _ _ _ _ hw rfl (ti_fz (by assumption) (by assumption) (by assumption) (by assumption) (by assumption) (by assumption)) dX10_fairest_156
                                        · refine lv_aload_n hx hb dX10_fairest_73 rfl (lv_at hl 5 rfl) ?_
                                          refine lv_iconst (v := 1) hx hb dX10_fairest_74 (by decide) ?_
                                          refine lv_iconst (v := 0) hx hb dX10_fairest_75 (by decide) ?_
                                          refine ti_callVv (ci := 10) (av := [.int 1, .int 0]) C hw (k_passes_1 l D A cy hJ Mx 0 ((congrFun (rfl) 0).trans n0) ((congrFun (rfl) 3).trans n3) ((congrFun (rfl) 5).trans n5) ((congrFun (rfl) 1).trans h38) hpw) ⟨ml_X10_407, ym_X10_passes, yv_X10_passes, yi_X10_passes, yc_X10_passes⟩ yd_X10_passes ob_60 (by decide) rfl rfl hl.1 (Nat.le_of_ble_eq_true rfl) ⟨by decide, by decide⟩ ⟨Nat.zero_le _, Nat.zero_le _⟩ dX10_fairest_76 (fun M_60 H locs hp_60 hw => ?_)
                                          obtain ⟨ga_60, gb_60, hm, hna_60, hq_60, hnb_60⟩ := hp_60
                                          have hw := hw.to hm
                                          refine lv_aload_n hx hb dX10_fairest_79 rfl (lv_at hl 5 rfl) ?_
                                          refine lv_iconst (v := 1) hx hb dX10_fairest_80 (by decide) ?_
                                          refine lv_iload hx hb dX10_fairest_81 (lv_at hl 2 rfl) ?_
                                          refine ti_callVi (ci := 10) (av := [.int 1, .int 7]) C hw (k_standsAt_1 l D A cy hJ (uY (uY Mx 60 37 ga_60) 60 34 gb_60) 7 ((congrFun ((tY_k _ _ _ _ (by decide)).trans ((tY_k _ _ _ _ (by decide)).trans rfl)) 1).trans h38) (by decide)) ⟨ml_X10_417, ym_X10_standsAt, yv_X10_standsAt, yi_X10_standsAt, yc_X10_standsAt⟩ yd_X10_standsAt ob_60 (by decide) rfl rfl hl.1 (Nat.le_of_ble_eq_true rfl) ⟨by decide, by decide⟩ ⟨Nat.zero_le _, Nat.zero_le _⟩ dX10_fairest_83 (fun r_61 M_62 H locs hp_62 hw => ?_)
                                          obtain ⟨hm, rfl⟩ := hp_62
                                          have hw := hw.to hm
                                          refine lv_if_lt (tgt := 103) hx hb dX10_fairest_86 (by decide) (fun c_86 => ?_) (fun c => absurd (by decide) c)
                                          obtain ⟨x_63, ex_63⟩ : ∃ z : Int32, z = tt + 1 := ⟨_, rfl⟩
                                          refine lv_iinc (v := x_63) (lv' := [(8, .int x_63), (7, .int 0), (6, .int 7), (5, .int 0), (4, .int 0), (0, .ref (A 60 0)), (1, .int z), (2, .int z2), (3, .int z3)]) hx hb dX10_fairest_103 hl (k := 0) rfl (by rw [ex_63]; rfl) (by decide) rfl (fun ls hl => ?_)
                                          refine lv_goto (tgt := 67) hx hb dX10_fairest_106 (by decide) ?_
                                          exact ih x_63 (uY (uY Mx 60 37 ga_60) 60 34 gb_60) _ _ _ (by have h1 := ti_inc (un := z2) c_70; rw [← ex_63] at h1; omega) ⟨((tI_uY _ _ _ _ _ _).trans ((tI_uY _ _ _ _ _ _).trans m_taped)), ((tI_uY _ _ _ _ _ _).trans ((tI_uY _ _ _ _ _ _).trans m_lf)), ((tI_uY _ _ _ _ _ _).trans ((tI_uY _ _ _ _ _ _).trans m_lp)), ((tI_uY _ _ _ _ _ _).trans ((tI_uY _ _ _ _ _ _).trans m_hi)), ((tI_uY _ _ _ _ _ _).trans ((tI_uY _ _ _ _ _ _).trans m_un)), ((tI_uY _ _ _ _ _ _).trans ((tI_uY _ _ _ _ _ _).trans m_st)), ((tI_uY _ _ _ _ _ _).trans ((tI_uY _ _ _ _ _ _).trans m_kb)), ((congrFun ((tY_k _ _ _ _ (by decide)).trans ((tY_k _ _ _ _ (by decide)).trans rfl)) 0).trans n0), ((congrFun ((tY_k _ _ _ _ (by decide)).trans ((tY_k _ _ _ _ (by decide)).trans rfl)) 3).trans n3), ((congrFun ((tY_k _ _ _ _ (by decide)).trans ((tY_k _ _ _ _ (by decide)).trans rfl)) 5).trans n5), ((congrFun ((tY_k _ _ _ _ (by decide)).trans ((tY_k _ _ _ _ (by decide)).trans rfl)) 7).trans n7), ((congrFun (tY_u _ _ _ _) 0).trans ((hnb_60 0 (by decide)).trans ((congrFun (rfl) 0).trans mi0))), ((congrFun ((tY_k _ _ _ _ (by decide)).trans ((tY_k _ _ _ _ (by decide)).trans rfl)) 0).trans wa0), ((congrFun ((tY_k _ _ _ _ (by decide)).trans (tY_u _ _ _ _)) 0).trans ((hna_60 0 (by decide)).trans ((congrFun (rfl) 0).trans co0))), ((congrFun ((tY_k _ _ _ _ (by decide)).trans ((tY_k _ _ _ _ (by decide)).trans rfl)) 0).trans ma0), ((congrFun ((tY_k _ _ _ _ (by decide)).trans ((tY_k _ _ _ _ (by decide)).trans rfl)) 0).trans pw0), ((congrFun ((tY_k _ _ _ _ (by decide)).trans ((tY_k _ _ _ _ (by decide)).trans rfl)) 1).trans pw1), ((congrFun ((tY_k _ _ _ _ (by decide)).trans ((tY_k _ _ _ _ (by decide)).trans rfl)) 2).trans pw2), sf, sto⟩ ((congrFun ((tY_k _ _ _ _ (by decide)).trans ((tY_k _ _ _ _ (by decide)).trans rfl)) 1).trans h38) (ti_ntr (congrFun ((tY_k _ _ _ _ (by decide)).trans ((tY_k _ _ _ _ (by decide)).trans rfl)) 5) hpw) hw (lv_sub hl [0, 1, 2, 3, 4, 5, 6, 7, 8] rfl)
                                    · refine lv_aload_n hx hb dX10_fairest_73 rfl (lv_at hl 5 rfl) ?_
                                      refine lv_iconst (v := 1) hx hb dX10_fairest_74 (by decide) ?_
                                      refine lv_iconst (v := 0) hx hb dX10_fairest_75 (by decide) ?_
                                      refine ti_callVv (ci := 10) (av := [.int 1, .int 0]) C hw (k_passes_1 l D A cy hJ Mx 0 ((congrFun (rfl) 0).trans n0) ((congrFun (rfl) 3).trans n3) ((congrFun (rfl) 5).trans n5) ((congrFun (rfl) 1).trans h38) hpw) ⟨ml_X10_407, ym_X10_passes, yv_X10_passes, yi_X10_passes, yc_X10_passes⟩ yd_X10_passes ob_60 (by decide) rfl rfl hl.1 (Nat.le_of_ble_eq_true rfl) ⟨by decide, by decide⟩ ⟨Nat.zero_le _, Nat.zero_le _⟩ dX10_fairest_76 (fun M_65 H locs hp_65 hw => ?_)
                                      obtain ⟨ga_65, gb_65, hm, hna_65, hq_65, hnb_65⟩ := hp_65
                                      have hw := hw.to hm
                                      refine lv_aload_n hx hb dX10_fairest_79 rfl (lv_at hl 5 rfl) ?_
                                      refine lv_iconst (v := 1) hx hb dX10_fairest_80 (by decide) ?_
                                      refine lv_iload hx hb dX10_fairest_81 (lv_at hl 2 rfl) ?_
                                      refine ti_callVi (ci := 10) (av := [.int 1, .int 6]) C hw (k_standsAt_1 l D A cy hJ (uY (uY Mx 60 37 ga_65) 60 34 gb_65) 6 ((congrFun ((tY_k _ _ _ _ (by decide)).trans ((tY_k _ _ _ _ (by decide)).trans rfl)) 1).trans h38) (by decide)) ⟨ml_X10_417, ym_X10_standsAt, yv_X10_standsAt, yi_X10_standsAt, yc_X10_standsAt⟩ yd_X10_standsAt ob_60 (by decide) rfl rfl hl.1 (Nat.le_of_ble_eq_true rfl) ⟨by decide, by decide⟩ ⟨Nat.zero_le _, Nat.zero_le _⟩ dX10_fairest_83 (fun r_66 M_67 H locs hp_67 hw => ?_)
                                      obtain ⟨hm, rfl⟩ := hp_67
                                      have hw := hw.to hm
                                      refine lv_if_lt (tgt := 103) hx hb dX10_fairest_86 (by decide) (fun c_86 => ?_) (fun c => absurd (by decide) c)
                                      obtain ⟨x_68, ex_68⟩ : ∃ z : Int32, z = tt + 1 := ⟨_, rfl⟩
                                      refine lv_iinc (v := x_68) (lv' := [(8, .int x_68), (7, .int 0), (6, .int 6), (5, .int 0), (4, .int 0), (0, .ref (A 60 0)), (1, .int z), (2, .int z2), (3, .int z3)]) hx hb dX10_fairest_103 hl (k := 0) rfl (by rw [ex_68]; rfl) (by decide) rfl (fun ls hl => ?_)
                                      refine lv_goto (tgt := 67) hx hb dX10_fairest_106 (by decide) ?_
                                      exact ih x_68 (uY (uY Mx 60 37 ga_65) 60 34 gb_65) _ _ _ (by have h1 := ti_inc (un := z2) c_70; rw [← ex_68] at h1; omega) ⟨((tI_uY _ _ _ _ _ _).trans ((tI_uY _ _ _ _ _ _).trans m_taped)), ((tI_uY _ _ _ _ _ _).trans ((tI_uY _ _ _ _ _ _).trans m_lf)), ((tI_uY _ _ _ _ _ _).trans ((tI_uY _ _ _ _ _ _).trans m_lp)), ((tI_uY _ _ _ _ _ _).trans ((tI_uY _ _ _ _ _ _).trans m_hi)), ((tI_uY _ _ _ _ _ _).trans ((tI_uY _ _ _ _ _ _).trans m_un)), ((tI_uY _ _ _ _ _ _).trans ((tI_uY _ _ _ _ _ _).trans m_st)), ((tI_uY _ _ _ _ _ _).trans ((tI_uY _ _ _ _ _ _).trans m_kb)), ((congrFun ((tY_k _ _ _ _ (by decide)).trans ((tY_k _ _ _ _ (by decide)).trans rfl)) 0).trans n0), ((congrFun ((tY_k _ _ _ _ (by decide)).trans ((tY_k _ _ _ _ (by decide)).trans rfl)) 3).trans n3), ((congrFun ((tY_k _ _ _ _ (by decide)).trans ((tY_k _ _ _ _ (by decide)).trans rfl)) 5).trans n5), ((congrFun ((tY_k _ _ _ _ (by decide)).trans ((tY_k _ _ _ _ (by decide)).trans rfl)) 7).trans n7), ((congrFun (tY_u _ _ _ _) 0).trans ((hnb_65 0 (by decide)).trans ((congrFun (rfl) 0).trans mi0))), ((congrFun ((tY_k _ _ _ _ (by decide)).trans ((tY_k _ _ _ _ (by decide)).trans rfl)) 0).trans wa0), ((congrFun ((tY_k _ _ _ _ (by decide)).trans (tY_u _ _ _ _)) 0).trans ((hna_65 0 (by decide)).trans ((congrFun (rfl) 0).trans co0))), ((congrFun ((tY_k _ _ _ _ (by decide)).trans ((tY_k _ _ _ _ (by decide)).trans rfl)) 0).trans ma0), ((congrFun ((tY_k _ _ _ _ (by decide)).trans ((tY_k _ _ _ _ (by decide)).trans rfl)) 0).trans pw0), ((congrFun ((tY_k _ _ _ _ (by decide)).trans ((tY_k _ _ _ _ (by decide)).trans rfl)) 1).trans pw1), ((congrFun ((tY_k _ _ _ _ (by decide)).trans ((tY_k _ _ _ _ (by decide)).trans rfl)) 2).trans pw2), sf, sto⟩ ((congrFun ((tY_k _ _ _ _ (by decide)).trans ((tY_k _ _ _ _ (by decide)).trans rfl)) 1).trans h38) (ti_ntr (congrFun ((tY_k _ _ _ _ (by decide)).trans ((tY_k _ _ _ _ (by decide)).trans rfl)) 5) hpw) hw (lv_sub hl [0, 1, 2, 3, 4, 5, 6, 7, 8] rfl)
                                · refine lv_aload_n hx hb dX10_fairest_73 rfl (lv_at hl 5 rfl) ?_
                                  refine lv_iconst (v := 1) hx hb dX10_fairest_74 (by decide) ?_
                                  refine lv_iconst (v := 0) hx hb dX10_fairest_75 (by decide) ?_
                                  refine ti_callVv (ci := 10) (av := [.int 1, .int 0]) C hw (k_passes_1 l D A cy hJ Mx 0 ((congrFun (rfl) 0).trans n0) ((congrFun (rfl) 3).trans n3) ((congrFun (rfl) 5).trans n5) ((congrFun (rfl) 1).trans h38) hpw) ⟨ml_X10_407, ym_X10_passes, yv_X10_passes, yi_X10_passes, yc_X10_passes⟩ yd_X10_passes ob_60 (by decide) rfl rfl hl.1 (Nat.le_of_ble_eq_true rfl) ⟨by decide, by decide⟩ ⟨Nat.zero_le _, Nat.zero_le _⟩ dX10_fairest_76 (fun M_70 H locs hp_70 hw => ?_)
                                  obtain ⟨ga_70, gb_70, hm, hna_70, hq_70, hnb_70⟩ := hp_70
                                  have hw := hw.to hm
                                  refine lv_aload_n hx hb dX10_fairest_79 rfl (lv_at hl 5 rfl) ?_
                                  refine lv_iconst (v := 1) hx hb dX10_fairest_80 (by decide) ?_
                                  refine lv_iload hx hb dX10_fairest_81 (lv_at hl 2 rfl) ?_
                                  refine ti_callVi (ci := 10) (av := [.int 1, .int 5]) C hw (k_standsAt_1 l D A cy hJ (uY (uY Mx 60 37 ga_70) 60 34 gb_70) 5 ((congrFun ((tY_k _ _ _ _ (by decide)).trans ((tY_k _ _ _ _ (by decide)).trans rfl)) 1).trans h38) (by decide)) ⟨ml_X10_417, ym_X10_standsAt, yv_X10_standsAt, yi_X10_standsAt, yc_X10_standsAt⟩ yd_X10_standsAt ob_60 (by decide) rfl rfl hl.1 (Nat.le_of_ble_eq_true rfl) ⟨by decide, by decide⟩ ⟨Nat.zero_le _, Nat.zero_le _⟩ dX10_fairest_83 (fun r_71 M_72 H locs hp_72 hw => ?_)
                                  obtain ⟨hm, rfl⟩ := hp_72
                                  have hw := hw.to hm
                                  refine lv_if_lt (tgt := 103) hx hb dX10_fairest_86 (by decide) (fun c_86 => ?_) (fun c => absurd (by decide) c)
                                  obtain ⟨x_73, ex_73⟩ : ∃ z : Int32, z = tt + 1 := ⟨_, rfl⟩
                                  refine lv_iinc (v := x_73) (lv' := [(8, .int x_73), (7, .int 0), (6, .int 5), (5, .int 0), (4, .int 0), (0, .ref (A 60 0)), (1, .int z), (2, .int z2), (3, .int z3)]) hx hb dX10_fairest_103 hl (k := 0) rfl (by rw [ex_73]; rfl) (by decide) rfl (fun ls hl => ?_)
                                  refine lv_goto (tgt := 67) hx hb dX10_fairest_106 (by decide) ?_
                                  exact ih x_73 (uY (uY Mx 60 37 ga_70) 60 34 gb_70) _ _ _ (by have h1 := ti_inc (un := z2) c_70; rw [← ex_73] at h1; omega) ⟨((tI_uY _ _ _ _ _ _).trans ((tI_uY _ _ _ _ _ _).trans m_taped)), ((tI_uY _ _ _ _ _ _).trans ((tI_uY _ _ _ _ _ _).trans m_lf)), ((tI_uY _ _ _ _ _ _).trans ((tI_uY _ _ _ _ _ _).trans m_lp)), ((tI_uY _ _ _ _ _ _).trans ((tI_uY _ _ _ _ _ _).trans m_hi)), ((tI_uY _ _ _ _ _ _).trans ((tI_uY _ _ _ _ _ _).trans m_un)), ((tI_uY _ _ _ _ _ _).trans ((tI_uY _ _ _ _ _ _).trans m_st)), ((tI_uY _ _ _ _ _ _).trans ((tI_uY _ _ _ _ _ _).trans m_kb)), ((congrFun ((tY_k _ _ _ _ (by decide)).trans ((tY_k _ _ _ _ (by decide)).trans rfl)) 0).trans n0), ((congrFun ((tY_k _ _ _ _ (by decide)).trans ((tY_k _ _ _ _ (by decide)).trans rfl)) 3).trans n3), ((congrFun ((tY_k _ _ _ _ (by decide)).trans ((tY_k _ _ _ _ (by decide)).trans rfl)) 5).trans n5), ((congrFun ((tY_k _ _ _ _ (by decide)).trans ((tY_k _ _ _ _ (by decide)).trans rfl)) 7).trans n7), ((congrFun (tY_u _ _ _ _) 0).trans ((hnb_70 0 (by decide)).trans ((congrFun (rfl) 0).trans mi0))), ((congrFun ((tY_k _ _ _ _ (by decide)).trans ((tY_k _ _ _ _ (by decide)).trans rfl)) 0).trans wa0), ((congrFun ((tY_k _ _ _ _ (by decide)).trans (tY_u _ _ _ _)) 0).trans ((hna_70 0 (by decide)).trans ((congrFun (rfl) 0).trans co0))), ((congrFun ((tY_k _ _ _ _ (by decide)).trans ((tY_k _ _ _ _ (by decide)).trans rfl)) 0).trans ma0), ((congrFun ((tY_k _ _ _ _ (by decide)).trans ((tY_k _ _ _ _ (by decide)).trans rfl)) 0).trans pw0), ((congrFun ((tY_k _ _ _ _ (by decide)).trans ((tY_k _ _ _ _ (by decide)).trans rfl)) 1).trans pw1), ((congrFun ((tY_k _ _ _ _ (by decide)).trans ((tY_k _ _ _ _ (by decide)).trans rfl)) 2).trans pw2), sf, sto⟩ ((congrFun ((tY_k _ _ _ _ (by decide)).trans ((tY_k _ _ _ _ (by decide)).trans rfl)) 1).trans h38) (ti_ntr (congrFun ((tY_k _ _ _ _ (by decide)).trans ((tY_k _ _ _ _ (by decide)).trans rfl)) 5) hpw) hw (lv_sub hl [0, 1, 2, 3, 4, 5, 6, 7, 8] rfl)
                            · refine lv_aload_n hx hb dX10_fairest_73 rfl (lv_at hl 5 rfl) ?_
                              refine lv_iconst (v := 1) hx hb dX10_fairest_74 (by decide) ?_
                              refine lv_iconst (v := 0) hx hb dX10_fairest_75 (by decide) ?_
                              refine ti_callVv (ci := 10) (av := [.int 1, .int 0]) C hw (k_passes_1 l D A cy hJ Mx 0 ((congrFun (rfl) 0).trans n0) ((congrFun (rfl) 3).trans n3) ((congrFun (rfl) 5).trans n5) ((congrFun (rfl) 1).trans h38) hpw) ⟨ml_X10_407, ym_X10_passes, yv_X10_passes, yi_X10_passes, yc_X10_passes⟩ yd_X10_passes ob_60 (by decide) rfl rfl hl.1 (Nat.le_of_ble_eq_true rfl) ⟨by decide, by decide⟩ ⟨Nat.zero_le _, Nat.zero_le _⟩ dX10_fairest_76 (fun M_75 H locs hp_75 hw => ?_)
                              obtain ⟨ga_75, gb_75, hm, hna_75, hq_75, hnb_75⟩ := hp_75
                              have hw := hw.to hm
                              refine lv_aload_n hx hb dX10_fairest_79 rfl (lv_at hl 5 rfl) ?_
                              refine lv_iconst (v := 1) hx hb dX10_fairest_80 (by decide) ?_
                              refine lv_iload hx hb dX10_fairest_81 (lv_at hl 2 rfl) ?_
                              refine ti_callVi (ci := 10) (av := [.int 1, .int 4]) C hw (k_standsAt_1 l D A cy hJ (uY (uY Mx 60 37 ga_75) 60 34 gb_75) 4 ((congrFun ((tY_k _ _ _ _ (by decide)).trans ((tY_k _ _ _ _ (by decide)).trans rfl)) 1).trans h38) (by decide)) ⟨ml_X10_417, ym_X10_standsAt, yv_X10_standsAt, yi_X10_standsAt, yc_X10_standsAt⟩ yd_X10_standsAt ob_60 (by decide) rfl rfl hl.1 (Nat.le_of_ble_eq_true rfl) ⟨by decide, by decide⟩ ⟨Nat.zero_le _, Nat.zero_le _⟩ dX10_fairest_83 (fun r_76 M_77 H locs hp_77 hw => ?_)
                              obtain ⟨hm, rfl⟩ := hp_77
                              have hw := hw.to hm
                              refine lv_if_lt (tgt := 103) hx hb dX10_fairest_86 (by decide) (fun c_86 => ?_) (fun c => absurd (by decide) c)
                              obtain ⟨x_78, ex_78⟩ : ∃ z : Int32, z = tt + 1 := ⟨_, rfl⟩
                              refine lv_iinc (v := x_78) (lv' := [(8, .int x_78), (7, .int 0), (6, .int 4), (5, .int 0), (4, .int 0), (0, .ref (A 60 0)), (1, .int z), (2, .int z2), (3, .int z3)]) hx hb dX10_fairest_103 hl (k := 0) rfl (by rw [ex_78]; rfl) (by decide) rfl (fun ls hl => ?_)
                              refine lv_goto (tgt := 67) hx hb dX10_fairest_106 (by decide) ?_
                              exact ih x_78 (uY (uY Mx 60 37 ga_75) 60 34 gb_75) _ _ _ (by have h1 := ti_inc (un := z2) c_70; rw [← ex_78] at h1; omega) ⟨((tI_uY _ _ _ _ _ _).trans ((tI_uY _ _ _ _ _ _).trans m_taped)), ((tI_uY _ _ _ _ _ _).trans ((tI_uY _ _ _ _ _ _).trans m_lf)), ((tI_uY _ _ _ _ _ _).trans ((tI_uY _ _ _ _ _ _).trans m_lp)), ((tI_uY _ _ _ _ _ _).trans ((tI_uY _ _ _ _ _ _).trans m_hi)), ((tI_uY _ _ _ _ _ _).trans ((tI_uY _ _ _ _ _ _).trans m_un)), ((tI_uY _ _ _ _ _ _).trans ((tI_uY _ _ _ _ _ _).trans m_st)), ((tI_uY _ _ _ _ _ _).trans ((tI_uY _ _ _ _ _ _).trans m_kb)), ((congrFun ((tY_k _ _ _ _ (by decide)).trans ((tY_k _ _ _ _ (by decide)).trans rfl)) 0).trans n0), ((congrFun ((tY_k _ _ _ _ (by decide)).trans ((tY_k _ _ _ _ (by decide)).trans rfl)) 3).trans n3), ((congrFun ((tY_k _ _ _ _ (by decide)).trans ((tY_k _ _ _ _ (by decide)).trans rfl)) 5).trans n5), ((congrFun ((tY_k _ _ _ _ (by decide)).trans ((tY_k _ _ _ _ (by decide)).trans rfl)) 7).trans n7), ((congrFun (tY_u _ _ _ _) 0).trans ((hnb_75 0 (by decide)).trans ((congrFun (rfl) 0).trans mi0))), ((congrFun ((tY_k _ _ _ _ (by decide)).trans ((tY_k _ _ _ _ (by decide)).trans rfl)) 0).trans wa0), ((congrFun ((tY_k _ _ _ _ (by decide)).trans (tY_u _ _ _ _)) 0).trans ((hna_75 0 (by decide)).trans ((congrFun (rfl) 0).trans co0))), ((congrFun ((tY_k _ _ _ _ (by decide)).trans ((tY_k _ _ _ _ (by decide)).trans rfl)) 0).trans ma0), ((congrFun ((tY_k _ _ _ _ (by decide)).trans ((tY_k _ _ _ _ (by decide)).trans rfl)) 0).trans pw0), ((congrFun ((tY_k _ _ _ _ (by decide)).trans ((tY_k _ _ _ _ (by decide)).trans rfl)) 1).trans pw1), ((congrFun ((tY_k _ _ _ _ (by decide)).trans ((tY_k _ _ _ _ (by decide)).trans rfl)) 2).trans pw2), sf, sto⟩ ((congrFun ((tY_k _ _ _ _ (by decide)).trans ((tY_k _ _ _ _ (by decide)).trans rfl)) 1).trans h38) (ti_ntr (congrFun ((tY_k _ _ _ _ (by decide)).trans ((tY_k _ _ _ _ (by decide)).trans rfl)) 5) hpw) hw (lv_sub hl [0, 1, 2, 3, 4, 5, 6, 7, 8] rfl)
                        · refine lv_aload_n hx hb dX10_fairest_73 rfl (lv_at hl 5 rfl) ?_
                          refine lv_iconst (v := 1) hx hb dX10_fairest_74 (by decide) ?_
                          refine lv_iconst (v := 0) hx hb dX10_fairest_75 (by decide) ?_
                          refine ti_callVv (ci := 10) (av := [.int 1, .int 0]) C hw (k_passes_1 l D A cy hJ Mx 0 ((congrFun (rfl) 0).trans n0) ((congrFun (rfl) 3).trans n3) ((congrFun (rfl) 5).trans n5) ((congrFun (rfl) 1).trans h38) hpw) ⟨ml_X10_407, ym_X10_passes, yv_X10_passes, yi_X10_passes, yc_X10_passes⟩ yd_X10_passes ob_60 (by decide) rfl rfl hl.1 (Nat.le_of_ble_eq_true rfl) ⟨by decide, by decide⟩ ⟨Nat.zero_le _, Nat.zero_le _⟩ dX10_fairest_76 (fun M_80 H locs hp_80 hw => ?_)
                          obtain ⟨ga_80, gb_80, hm, hna_80, hq_80, hnb_80⟩ := hp_80
                          have hw := hw.to hm
                          refine lv_aload_n hx hb dX10_fairest_79 rfl (lv_at hl 5 rfl) ?_
                          refine lv_iconst (v := 1) hx hb dX10_fairest_80 (by decide) ?_
                          refine lv_iload hx hb dX10_fairest_81 (lv_at hl 2 rfl) ?_
                          refine ti_callVi (ci := 10) (av := [.int 1, .int 3]) C hw (k_standsAt_1 l D A cy hJ (uY (uY Mx 60 37 ga_80) 60 34 gb_80) 3 ((congrFun ((tY_k _ _ _ _ (by decide)).trans ((tY_k _ _ _ _ (by decide)).trans rfl)) 1).trans h38) (by decide)) ⟨ml_X10_417, ym_X10_standsAt, yv_X10_standsAt, yi_X10_standsAt, yc_X10_standsAt⟩ yd_X10_standsAt ob_60 (by decide) rfl rfl hl.1 (Nat.le_of_ble_eq_true rfl) ⟨by decide, by decide⟩ ⟨Nat.zero_le _, Nat.zero_le _⟩ dX10_fairest_83 (fun r_81 M_82 H locs hp_82 hw => ?_)
                          obtain ⟨hm, rfl⟩ := hp_82
                          have hw := hw.to hm
                          refine lv_if_lt (tgt := 103) hx hb dX10_fairest_86 (by decide) (fun c_86 => ?_) (fun c => absurd (by decide) c)
                          obtain ⟨x_83, ex_83⟩ : ∃ z : Int32, z = tt + 1 := ⟨_, rfl⟩
                          refine lv_iinc (v := x_83) (lv' := [(8, .int x_83), (7, .int 0), (6, .int 3), (5, .int 0), (4, .int 0), (0, .ref (A 60 0)), (1, .int z), (2, .int z2), (3, .int z3)]) hx hb dX10_fairest_103 hl (k := 0) rfl (by rw [ex_83]; rfl) (by decide) rfl (fun ls hl => ?_)
                          refine lv_goto (tgt := 67) hx hb dX10_fairest_106 (by decide) ?_
                          exact ih x_83 (uY (uY Mx 60 37 ga_80) 60 34 gb_80) _ _ _ (by have h1 := ti_inc (un := z2) c_70; rw [← ex_83] at h1; omega) ⟨((tI_uY _ _ _ _ _ _).trans ((tI_uY _ _ _ _ _ _).trans m_taped)), ((tI_uY _ _ _ _ _ _).trans ((tI_uY _ _ _ _ _ _).trans m_lf)), ((tI_uY _ _ _ _ _ _).trans ((tI_uY _ _ _ _ _ _).trans m_lp)), ((tI_uY _ _ _ _ _ _).trans ((tI_uY _ _ _ _ _ _).trans m_hi)), ((tI_uY _ _ _ _ _ _).trans ((tI_uY _ _ _ _ _ _).trans m_un)), ((tI_uY _ _ _ _ _ _).trans ((tI_uY _ _ _ _ _ _).trans m_st)), ((tI_uY _ _ _ _ _ _).trans ((tI_uY _ _ _ _ _ _).trans m_kb)), ((congrFun ((tY_k _ _ _ _ (by decide)).trans ((tY_k _ _ _ _ (by decide)).trans rfl)) 0).trans n0), ((congrFun ((tY_k _ _ _ _ (by decide)).trans ((tY_k _ _ _ _ (by decide)).trans rfl)) 3).trans n3), ((congrFun ((tY_k _ _ _ _ (by decide)).trans ((tY_k _ _ _ _ (by decide)).trans rfl)) 5).trans n5), ((congrFun ((tY_k _ _ _ _ (by decide)).trans ((tY_k _ _ _ _ (by decide)).trans rfl)) 7).trans n7), ((congrFun (tY_u _ _ _ _) 0).trans ((hnb_80 0 (by decide)).trans ((congrFun (rfl) 0).trans mi0))), ((congrFun ((tY_k _ _ _ _ (by decide)).trans ((tY_k _ _ _ _ (by decide)).trans rfl)) 0).trans wa0), ((congrFun ((tY_k _ _ _ _ (by decide)).trans (tY_u _ _ _ _)) 0).trans ((hna_80 0 (by decide)).trans ((congrFun (rfl) 0).trans co0))), ((congrFun ((tY_k _ _ _ _ (by decide)).trans ((tY_k _ _ _ _ (by decide)).trans rfl)) 0).trans ma0), ((congrFun ((tY_k _ _ _ _ (by decide)).trans ((tY_k _ _ _ _ (by decide)).trans rfl)) 0).trans pw0), ((congrFun ((tY_k _ _ _ _ (by decide)).trans ((tY_k _ _ _ _ (by decide)).trans rfl)) 1).trans pw1), ((congrFun ((tY_k _ _ _ _ (by decide)).trans ((tY_k _ _ _ _ (by decide)).trans rfl)) 2).trans pw2), sf, sto⟩ ((congrFun ((tY_k _ _ _ _ (by decide)).trans ((tY_k _ _ _ _ (by decide)).trans rfl)) 1).trans h38) (ti_ntr (congrFun ((tY_k _ _ _ _ (by decide)).trans ((tY_k _ _ _ _ (by decide)).trans rfl)) 5) hpw) hw (lv_sub hl [0, 1, 2, 3, 4, 5, 6, 7, 8] rfl)
                    · refine lv_aload_n hx hb dX10_fairest_73 rfl (lv_at hl 5 rfl) ?_
                      refine lv_iconst (v := 1) hx hb dX10_fairest_74 (by decide) ?_
                      refine lv_iconst (v := 0) hx hb dX10_fairest_75 (by decide) ?_
                      refine ti_callVv (ci := 10) (av := [.int 1, .int 0]) C hw (k_passes_1 l D A cy hJ Mx 0 ((congrFun (rfl) 0).trans n0) ((congrFun (rfl) 3).trans n3) ((congrFun (rfl) 5).trans n5) ((congrFun (rfl) 1).trans h38) hpw) ⟨ml_X10_407, ym_X10_passes, yv_X10_passes, yi_X10_passes, yc_X10_passes⟩ yd_X10_passes ob_60 (by decide) rfl rfl hl.1 (Nat.le_of_ble_eq_true rfl) ⟨by decide, by decide⟩ ⟨Nat.zero_le _, Nat.zero_le _⟩ dX10_fairest_76 (fun M_85 H locs hp_85 hw => ?_)
                      obtain ⟨ga_85, gb_85, hm, hna_85, hq_85, hnb_85⟩ := hp_85
                      have hw := hw.to hm
                      refine lv_aload_n hx hb dX10_fairest_79 rfl (lv_at hl 5 rfl) ?_
                      refine lv_iconst (v := 1) hx hb dX10_fairest_80 (by decide) ?_
                      refine lv_iload hx hb dX10_fairest_81 (lv_at hl 2 rfl) ?_
                      refine ti_callVi (ci := 10) (av := [.int 1, .int 2]) C hw (k_standsAt_1 l D A cy hJ (uY (uY Mx 60 37 ga_85) 60 34 gb_85) 2 ((congrFun ((tY_k _ _ _ _ (by decide)).trans ((tY_k _ _ _ _ (by decide)).trans rfl)) 1).trans h38) (by decide)) ⟨ml_X10_417, ym_X10_standsAt, yv_X10_standsAt, yi_X10_standsAt, yc_X10_standsAt⟩ yd_X10_standsAt ob_60 (by decide) rfl rfl hl.1 (Nat.le_of_ble_eq_true rfl) ⟨by decide, by decide⟩ ⟨Nat.zero_le _, Nat.zero_le _⟩ dX10_fairest_83 (fun r_86 M_87 H locs hp_87 hw => ?_)
                      obtain ⟨hm, rfl⟩ := hp_87
                      have hw := hw.to hm
                      refine lv_if_lt (tgt := 103) hx hb dX10_fairest_86 (by decide) (fun c_86 => ?_) (fun c => absurd (by decide) c)
                      obtain ⟨x_88, ex_88⟩ : ∃ z : Int32, z = tt + 1 := ⟨_, rfl⟩
                      refine lv_iinc (v := x_88) (lv' := [(8, .int x_88), (7, .int 0), (6, .int 2), (5, .int 0), (4, .int 0), (0, .ref (A 60 0)), (1, .int z), (2, .int z2), (3, .int z3)]) hx hb dX10_fairest_103 hl (k := 0) rfl (by rw [ex_88]; rfl) (by decide) rfl (fun ls hl => ?_)
                      refine lv_goto (tgt := 67) hx hb dX10_fairest_106 (by decide) ?_
                      exact ih x_88 (uY (uY Mx 60 37 ga_85) 60 34 gb_85) _ _ _ (by have h1 := ti_inc (un := z2) c_70; rw [← ex_88] at h1; omega) ⟨((tI_uY _ _ _ _ _ _).trans ((tI_uY _ _ _ _ _ _).trans m_taped)), ((tI_uY _ _ _ _ _ _).trans ((tI_uY _ _ _ _ _ _).trans m_lf)), ((tI_uY _ _ _ _ _ _).trans ((tI_uY _ _ _ _ _ _).trans m_lp)), ((tI_uY _ _ _ _ _ _).trans ((tI_uY _ _ _ _ _ _).trans m_hi)), ((tI_uY _ _ _ _ _ _).trans ((tI_uY _ _ _ _ _ _).trans m_un)), ((tI_uY _ _ _ _ _ _).trans ((tI_uY _ _ _ _ _ _).trans m_st)), ((tI_uY _ _ _ _ _ _).trans ((tI_uY _ _ _ _ _ _).trans m_kb)), ((congrFun ((tY_k _ _ _ _ (by decide)).trans ((tY_k _ _ _ _ (by decide)).trans rfl)) 0).trans n0), ((congrFun ((tY_k _ _ _ _ (by decide)).trans ((tY_k _ _ _ _ (by decide)).trans rfl)) 3).trans n3), ((congrFun ((tY_k _ _ _ _ (by decide)).trans ((tY_k _ _ _ _ (by decide)).trans rfl)) 5).trans n5), ((congrFun ((tY_k _ _ _ _ (by decide)).trans ((tY_k _ _ _ _ (by decide)).trans rfl)) 7).trans n7), ((congrFun (tY_u _ _ _ _) 0).trans ((hnb_85 0 (by decide)).trans ((congrFun (rfl) 0).trans mi0))), ((congrFun ((tY_k _ _ _ _ (by decide)).trans ((tY_k _ _ _ _ (by decide)).trans rfl)) 0).trans wa0), ((congrFun ((tY_k _ _ _ _ (by decide)).trans (tY_u _ _ _ _)) 0).trans ((hna_85 0 (by decide)).trans ((congrFun (rfl) 0).trans co0))), ((congrFun ((tY_k _ _ _ _ (by decide)).trans ((tY_k _ _ _ _ (by decide)).trans rfl)) 0).trans ma0), ((congrFun ((tY_k _ _ _ _ (by decide)).trans ((tY_k _ _ _ _ (by decide)).trans rfl)) 0).trans pw0), ((congrFun ((tY_k _ _ _ _ (by decide)).trans ((tY_k _ _ _ _ (by decide)).trans rfl)) 1).trans pw1), ((congrFun ((tY_k _ _ _ _ (by decide)).trans ((tY_k _ _ _ _ (by decide)).trans rfl)) 2).trans pw2), sf, sto⟩ ((congrFun ((tY_k _ _ _ _ (by decide)).trans ((tY_k _ _ _ _ (by decide)).trans rfl)) 1).trans h38) (ti_ntr (congrFun ((tY_k _ _ _ _ (by decide)).trans ((tY_k _ _ _ _ (by decide)).trans rfl)) 5) hpw) hw (lv_sub hl [0, 1, 2, 3, 4, 5, 6, 7, 8] rfl)
                · refine lv_aload_n hx hb dX10_fairest_73 rfl (lv_at hl 5 rfl) ?_
                  refine lv_iconst (v := 1) hx hb dX10_fairest_74 (by decide) ?_
                  refine lv_iconst (v := 0) hx hb dX10_fairest_75 (by decide) ?_
                  refine ti_callVv (ci := 10) (av := [.int 1, .int 0]) C hw (k_passes_1 l D A cy hJ Mx 0 ((congrFun (rfl) 0).trans n0) ((congrFun (rfl) 3).trans n3) ((congrFun (rfl) 5).trans n5) ((congrFun (rfl) 1).trans h38) hpw) ⟨ml_X10_407, ym_X10_passes, yv_X10_passes, yi_X10_passes, yc_X10_passes⟩ yd_X10_passes ob_60 (by decide) rfl rfl hl.1 (Nat.le_of_ble_eq_true rfl) ⟨by decide, by decide⟩ ⟨Nat.zero_le _, Nat.zero_le _⟩ dX10_fairest_76 (fun M_90 H locs hp_90 hw => ?_)
                  obtain ⟨ga_90, gb_90, hm, hna_90, hq_90, hnb_90⟩ := hp_90
                  have hw := hw.to hm
                  refine lv_aload_n hx hb dX10_fairest_79 rfl (lv_at hl 5 rfl) ?_
                  refine lv_iconst (v := 1) hx hb dX10_fairest_80 (by decide) ?_
                  refine lv_iload hx hb dX10_fairest_81 (lv_at hl 2 rfl) ?_
                  refine ti_callVi (ci := 10) (av := [.int 1, .int 1]) C hw (k_standsAt_1 l D A cy hJ (uY (uY Mx 60 37 ga_90) 60 34 gb_90) 1 ((congrFun ((tY_k _ _ _ _ (by decide)).trans ((tY_k _ _ _ _ (by decide)).trans rfl)) 1).trans h38) (by decide)) ⟨ml_X10_417, ym_X10_standsAt, yv_X10_standsAt, yi_X10_standsAt, yc_X10_standsAt⟩ yd_X10_standsAt ob_60 (by decide) rfl rfl hl.1 (Nat.le_of_ble_eq_true rfl) ⟨by decide, by decide⟩ ⟨Nat.zero_le _, Nat.zero_le _⟩ dX10_fairest_83 (fun r_91 M_92 H locs hp_92 hw => ?_)
                  obtain ⟨hm, rfl⟩ := hp_92
                  have hw := hw.to hm
                  refine lv_if_lt (tgt := 103) hx hb dX10_fairest_86 (by decide) (fun c_86 => ?_) (fun c => absurd (by decide) c)
                  obtain ⟨x_93, ex_93⟩ : ∃ z : Int32, z = tt + 1 := ⟨_, rfl⟩
                  refine lv_iinc (v := x_93) (lv' := [(8, .int x_93), (7, .int 0), (6, .int 1), (5, .int 0), (4, .int 0), (0, .ref (A 60 0)), (1, .int z), (2, .int z2), (3, .int z3)]) hx hb dX10_fairest_103 hl (k := 0) rfl (by rw [ex_93]; rfl) (by decide) rfl (fun ls hl => ?_)
                  refine lv_goto (tgt := 67) hx hb dX10_fairest_106 (by decide) ?_
                  exact ih x_93 (uY (uY Mx 60 37 ga_90) 60 34 gb_90) _ _ _ (by have h1 := ti_inc (un := z2) c_70; rw [← ex_93] at h1; omega) ⟨((tI_uY _ _ _ _ _ _).trans ((tI_uY _ _ _ _ _ _).trans m_taped)), ((tI_uY _ _ _ _ _ _).trans ((tI_uY _ _ _ _ _ _).trans m_lf)), ((tI_uY _ _ _ _ _ _).trans ((tI_uY _ _ _ _ _ _).trans m_lp)), ((tI_uY _ _ _ _ _ _).trans ((tI_uY _ _ _ _ _ _).trans m_hi)), ((tI_uY _ _ _ _ _ _).trans ((tI_uY _ _ _ _ _ _).trans m_un)), ((tI_uY _ _ _ _ _ _).trans ((tI_uY _ _ _ _ _ _).trans m_st)), ((tI_uY _ _ _ _ _ _).trans ((tI_uY _ _ _ _ _ _).trans m_kb)), ((congrFun ((tY_k _ _ _ _ (by decide)).trans ((tY_k _ _ _ _ (by decide)).trans rfl)) 0).trans n0), ((congrFun ((tY_k _ _ _ _ (by decide)).trans ((tY_k _ _ _ _ (by decide)).trans rfl)) 3).trans n3), ((congrFun ((tY_k _ _ _ _ (by decide)).trans ((tY_k _ _ _ _ (by decide)).trans rfl)) 5).trans n5), ((congrFun ((tY_k _ _ _ _ (by decide)).trans ((tY_k _ _ _ _ (by decide)).trans rfl)) 7).trans n7), ((congrFun (tY_u _ _ _ _) 0).trans ((hnb_90 0 (by decide)).trans ((congrFun (rfl) 0).trans mi0))), ((congrFun ((tY_k _ _ _ _ (by decide)).trans ((tY_k _ _ _ _ (by decide)).trans rfl)) 0).trans wa0), ((congrFun ((tY_k _ _ _ _ (by decide)).trans (tY_u _ _ _ _)) 0).trans ((hna_90 0 (by decide)).trans ((congrFun (rfl) 0).trans co0))), ((congrFun ((tY_k _ _ _ _ (by decide)).trans ((tY_k _ _ _ _ (by decide)).trans rfl)) 0).trans ma0), ((congrFun ((tY_k _ _ _ _ (by decide)).trans ((tY_k _ _ _ _ (by decide)).trans rfl)) 0).trans pw0), ((congrFun ((tY_k _ _ _ _ (by decide)).trans ((tY_k _ _ _ _ (by decide)).trans rfl)) 1).trans pw1), ((congrFun ((tY_k _ _ _ _ (by decide)).trans ((tY_k _ _ _ _ (by decide)).trans rfl)) 2).trans pw2), sf, sto⟩ ((congrFun ((tY_k _ _ _ _ (by decide)).trans ((tY_k _ _ _ _ (by decide)).trans rfl)) 1).trans h38) (ti_ntr (congrFun ((tY_k _ _ _ _ (by decide)).trans ((tY_k _ _ _ _ (by decide)).trans rfl)) 5) hpw) hw (lv_sub hl [0, 1, 2, 3, 4, 5, 6, 7, 8] rfl)
            · refine lv_aload_n hx hb dX10_fairest_73 rfl (lv_at hl 5 rfl) ?_
              refine lv_iconst (v := 1) hx hb dX10_fairest_74 (by decide) ?_
              refine lv_iconst (v := 0) hx hb dX10_fairest_75 (by decide) ?_
              refine ti_callVv (ci := 10) (av := [.int 1, .int 0]) C hw (k_passes_1 l D A cy hJ Mx 0 ((congrFun (rfl) 0).trans n0) ((congrFun (rfl) 3).trans n3) ((congrFun (rfl) 5).trans n5) ((congrFun (rfl) 1).trans h38) hpw) ⟨ml_X10_407, ym_X10_passes, yv_X10_passes, yi_X10_passes, yc_X10_passes⟩ yd_X10_passes ob_60 (by decide) rfl rfl hl.1 (Nat.le_of_ble_eq_true rfl) ⟨by decide, by decide⟩ ⟨Nat.zero_le _, Nat.zero_le _⟩ dX10_fairest_76 (fun M_95 H locs hp_95 hw => ?_)
              obtain ⟨ga_95, gb_95, hm, hna_95, hq_95, hnb_95⟩ := hp_95
              have hw := hw.to hm
              refine lv_aload_n hx hb dX10_fairest_79 rfl (lv_at hl 5 rfl) ?_
              refine lv_iconst (v := 1) hx hb dX10_fairest_80 (by decide) ?_
              refine lv_iload hx hb dX10_fairest_81 (lv_at hl 2 rfl) ?_
              refine ti_callVi (ci := 10) (av := [.int 1, .int 0]) C hw (k_standsAt_1 l D A cy hJ (uY (uY Mx 60 37 ga_95) 60 34 gb_95) 0 ((congrFun ((tY_k _ _ _ _ (by decide)).trans ((tY_k _ _ _ _ (by decide)).trans rfl)) 1).trans h38) (by decide)) ⟨ml_X10_417, ym_X10_standsAt, yv_X10_standsAt, yi_X10_standsAt, yc_X10_standsAt⟩ yd_X10_standsAt ob_60 (by decide) rfl rfl hl.1 (Nat.le_of_ble_eq_true rfl) ⟨by decide, by decide⟩ ⟨Nat.zero_le _, Nat.zero_le _⟩ dX10_fairest_83 (fun r_96 M_97 H locs hp_97 hw => ?_)
              obtain ⟨hm, rfl⟩ := hp_97
              have hw := hw.to hm
              refine lv_if_lt (tgt := 103) hx hb dX10_fairest_86 (by decide) (fun c_86 => ?_) (fun c => absurd (by decide) c)
              obtain ⟨x_98, ex_98⟩ : ∃ z : Int32, z = tt + 1 := ⟨_, rfl⟩
              refine lv_iinc (v := x_98) (lv' := [(8, .int x_98), (7, .int 0), (6, .int 0), (5, .int 0), (4, .int (-1)), (0, .ref (A 60 0)), (1, .int z), (2, .int z2), (3, .int z3)]) hx hb dX10_fairest_103 hl (k := 0) rfl (by rw [ex_98]; rfl) (by decide) rfl (fun ls hl => ?_)
              refine lv_goto (tgt := 67) hx hb dX10_fairest_106 (by decide) ?_
              exact ih x_98 (uY (uY Mx 60 37 ga_95) 60 34 gb_95) _ _ _ (by have h1 := ti_inc (un := z2) c_70; rw [← ex_98] at h1; omega) ⟨((tI_uY _ _ _ _ _ _).trans ((tI_uY _ _ _ _ _ _).trans m_taped)), ((tI_uY _ _ _ _ _ _).trans ((tI_uY _ _ _ _ _ _).trans m_lf)), ((tI_uY _ _ _ _ _ _).trans ((tI_uY _ _ _ _ _ _).trans m_lp)), ((tI_uY _ _ _ _ _ _).trans ((tI_uY _ _ _ _ _ _).trans m_hi)), ((tI_uY _ _ _ _ _ _).trans ((tI_uY _ _ _ _ _ _).trans m_un)), ((tI_uY _ _ _ _ _ _).trans ((tI_uY _ _ _ _ _ _).trans m_st)), ((tI_uY _ _ _ _ _ _).trans ((tI_uY _ _ _ _ _ _).trans m_kb)), ((congrFun ((tY_k _ _ _ _ (by decide)).trans ((tY_k _ _ _ _ (by decide)).trans rfl)) 0).trans n0), ((congrFun ((tY_k _ _ _ _ (by decide)).trans ((tY_k _ _ _ _ (by decide)).trans rfl)) 3).trans n3), ((congrFun ((tY_k _ _ _ _ (by decide)).trans ((tY_k _ _ _ _ (by decide)).trans rfl)) 5).trans n5), ((congrFun ((tY_k _ _ _ _ (by decide)).trans ((tY_k _ _ _ _ (by decide)).trans rfl)) 7).trans n7), ((congrFun (tY_u _ _ _ _) 0).trans ((hnb_95 0 (by decide)).trans ((congrFun (rfl) 0).trans mi0))), ((congrFun ((tY_k _ _ _ _ (by decide)).trans ((tY_k _ _ _ _ (by decide)).trans rfl)) 0).trans wa0), ((congrFun ((tY_k _ _ _ _ (by decide)).trans (tY_u _ _ _ _)) 0).trans ((hna_95 0 (by decide)).trans ((congrFun (rfl) 0).trans co0))), ((congrFun ((tY_k _ _ _ _ (by decide)).trans ((tY_k _ _ _ _ (by decide)).trans rfl)) 0).trans ma0), ((congrFun ((tY_k _ _ _ _ (by decide)).trans ((tY_k _ _ _ _ (by decide)).trans rfl)) 0).trans pw0), ((congrFun ((tY_k _ _ _ _ (by decide)).trans ((tY_k _ _ _ _ (by decide)).trans rfl)) 1).trans pw1), ((congrFun ((tY_k _ _ _ _ (by decide)).trans ((tY_k _ _ _ _ (by decide)).trans rfl)) 2).trans pw2), sf, sto⟩ ((congrFun ((tY_k _ _ _ _ (by decide)).trans ((tY_k _ _ _ _ (by decide)).trans rfl)) 1).trans h38) (ti_ntr (congrFun ((tY_k _ _ _ _ (by decide)).trans ((tY_k _ _ _ _ (by decide)).trans rfl)) 5) hpw) hw (lv_sub hl [0, 1, 2, 3, 4, 5, 6, 7, 8] rfl)
        · refine lv_iconst (v := (-1)) hx hb dX10_fairest_29 (by decide) ?_
          exact hQ _ _ _ _ _ _ hw rfl (by unfold pf_fairest; (try simp only [Int32.lt_iff_toInt_lt, Int32.le_iff_toInt_le, ← Int32.toInt_inj, ti_l0, ti_l1, ti_l2, ti_l3, ti_l5, ti_l7, ti_l8, ti_l24, ti_l59, ti_l60, ti_l119, ti_l120, ti_lm1, ti_lm2] at g_3); (try simp only [Int32.lt_iff_toInt_lt, Int32.le_iff_toInt_le, ← Int32.toInt_inj, ti_l0, ti_l1, ti_l2, ti_l3, ti_l5, ti_l7, ti_l8, ti_l24, ti_l59, ti_l60, ti_l119, ti_l120, ti_lm1, ti_lm2] at g_4); (try simp only [Int32.lt_iff_toInt_lt, Int32.le_iff_toInt_le, ← Int32.toInt_inj, ti_l0, ti_l1, ti_l2, ti_l3, ti_l5, ti_l7, ti_l8, ti_l24, ti_l59, ti_l60, ti_l119, ti_l120, ti_lm1, ti_lm2] at c_9); (try simp only [Int32.lt_iff_toInt_lt, Int32.le_iff_toInt_le, ← Int32.toInt_inj, ti_l0, ti_l1, ti_l2, ti_l3, ti_l5, ti_l7, ti_l8, ti_l24, ti_l59, ti_l60, ti_l119, ti_l120, ti_lm1, ti_lm2] at g_8); (try simp only [Int32.lt_iff_toInt_lt, Int32.le_iff_toInt_le, ← Int32.toInt_inj, ti_l0, ti_l1, ti_l2, ti_l3, ti_l5, ti_l7, ti_l8, ti_l24, ti_l59, ti_l60, ti_l119, ti_l120, ti_lm1, ti_lm2] at g_9); (try simp only [Int32.lt_iff_toInt_lt, Int32.le_iff_toInt_le, ← Int32.toInt_inj, ti_l0, ti_l1, ti_l2, ti_l3, ti_l5, ti_l7, ti_l8, ti_l24, ti_l59, ti_l60, ti_l119, ti_l120, ti_lm1, ti_lm2] at c_17); (try simp only [Int32.lt_iff_toInt_lt, Int32.le_iff_toInt_le, ← Int32.toInt_inj, ti_l0, ti_l1, ti_l2, ti_l3, ti_l5, ti_l7, ti_l8, ti_l24, ti_l59, ti_l60, ti_l119, ti_l120, ti_lm1, ti_lm2] at c_21); (try simp only [Int32.lt_iff_toInt_lt, Int32.le_iff_toInt_le, ← Int32.toInt_inj, ti_l0, ti_l1, ti_l2, ti_l3, ti_l5, ti_l7, ti_l8, ti_l24, ti_l59, ti_l60, ti_l119, ti_l120, ti_lm1, ti_lm2] at c_26); (try simp only [Int32.lt_iff_toInt_lt, Int32.le_iff_toInt_le, ← Int32.toInt_inj, ti_l0, ti_l1, ti_l2, ti_l3, ti_l5, ti_l7, ti_l8, ti_l24, ti_l59, ti_l60, ti_l119, ti_l120, ti_lm1, ti_lm2]); (repeat' split) <;> first | rfl | omega) dX10_fairest_30
    · refine lv_if_eq (tgt := 29) hx hb dX10_fairest_17 (by decide) (fun c_17 => ?_) (fun c => absurd (by decide) c)
      refine lv_iconst (v := (-1)) hx hb dX10_fairest_29 (by decide) ?_
      exact hQ _ _ _ _ _ _ hw rfl (by unfold pf_fairest; (try simp only [Int32.lt_iff_toInt_lt, Int32.le_iff_toInt_le, ← Int32.toInt_inj, ti_l0, ti_l1, ti_l2, ti_l3, ti_l5, ti_l7, ti_l8, ti_l24, ti_l59, ti_l60, ti_l119, ti_l120, ti_lm1, ti_lm2] at g_3); (try simp only [Int32.lt_iff_toInt_lt, Int32.le_iff_toInt_le, ← Int32.toInt_inj, ti_l0, ti_l1, ti_l2, ti_l3, ti_l5, ti_l7, ti_l8, ti_l24, ti_l59, ti_l60, ti_l119, ti_l120, ti_lm1, ti_lm2] at g_4); (try simp only [Int32.lt_iff_toInt_lt, Int32.le_iff_toInt_le, ← Int32.toInt_inj, ti_l0, ti_l1, ti_l2, ti_l3, ti_l5, ti_l7, ti_l8, ti_l24, ti_l59, ti_l60, ti_l119, ti_l120, ti_lm1, ti_lm2] at c_9); (try simp only [Int32.lt_iff_toInt_lt, Int32.le_iff_toInt_le, ← Int32.toInt_inj, ti_l0, ti_l1, ti_l2, ti_l3, ti_l5, ti_l7, ti_l8, ti_l24, ti_l59, ti_l60, ti_l119, ti_l120, ti_lm1, ti_lm2] at g_10); (try simp only [Int32.lt_iff_toInt_lt, Int32.le_iff_toInt_le, ← Int32.toInt_inj, ti_l0, ti_l1, ti_l2, ti_l3, ti_l5, ti_l7, ti_l8, ti_l24, ti_l59, ti_l60, ti_l119, ti_l120, ti_lm1, ti_lm2] at c_17); (try simp only [Int32.lt_iff_toInt_lt, Int32.le_iff_toInt_le, ← Int32.toInt_inj, ti_l0, ti_l1, ti_l2, ti_l3, ti_l5, ti_l7, ti_l8, ti_l24, ti_l59, ti_l60, ti_l119, ti_l120, ti_lm1, ti_lm2]); (repeat' split) <;> first | rfl | omega) dX10_fairest_30
  · refine lv_if_eq (tgt := 29) hx hb dX10_fairest_9 (by decide) (fun c_9 => ?_) (fun c => absurd (by decide) c)
    refine lv_iconst (v := (-1)) hx hb dX10_fairest_29 (by decide) ?_
    exact hQ _ _ _ _ _ _ hw rfl (by unfold pf_fairest; (try simp only [Int32.lt_iff_toInt_lt, Int32.le_iff_toInt_le, ← Int32.toInt_inj, ti_l0, ti_l1, ti_l2, ti_l3, ti_l5, ti_l7, ti_l8, ti_l24, ti_l59, ti_l60, ti_l119, ti_l120, ti_lm1, ti_lm2] at g_5); (try simp only [Int32.lt_iff_toInt_lt, Int32.le_iff_toInt_le, ← Int32.toInt_inj, ti_l0, ti_l1, ti_l2, ti_l3, ti_l5, ti_l7, ti_l8, ti_l24, ti_l59, ti_l60, ti_l119, ti_l120, ti_lm1, ti_lm2] at c_9); (try simp only [Int32.lt_iff_toInt_lt, Int32.le_iff_toInt_le, ← Int32.toInt_inj, ti_l0, ti_l1, ti_l2, ti_l3, ti_l5, ti_l7, ti_l8, ti_l24, ti_l59, ti_l60, ti_l119, ti_l120, ti_lm1, ti_lm2]); (repeat' split) <;> first | rfl | omega) dX10_fairest_30

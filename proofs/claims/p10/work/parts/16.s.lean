variable {Tc : gC} {Tm : gM}
set_option maxHeartbeats 4000000 in
set_option maxRecDepth 100000 in
theorem s_X4_refuse (l : Launch) (D : va_G) (A : Nat → Nat → Nat) (cy : Nat → ClassId) (hJ : ti_inj ti_LT A) (M : ti_M) (hI : cI Tc M) (kd : Int32) : ti_Kv l yX4_refuse cX4_refuse 2 0 ti_LT D A cy M [.ref (A 1 0), .int kd] (fun M2 => cI Tc M2 ∧ M2.2.2.2 = M.2.2.2 ∧ o12 M2 M ∧ tI M2 2 1 = tI M 2 1) := by
  refine ti_eV yp_X4_refuse hJ ti_LT_nd (Nat.le_of_ble_eq_true rfl) ?_
  intro p e s m args below meth c Q H0 C hQ hw ls hl
  have hx := C.1
  have hb := C.2.1
  have hl : lv_has ls 2 [(0, .ref (A 1 0)), (1, .int kd)] := hl
  refine lv_aload_n hx hb dX4_refuse_0 rfl (lv_at hl 0 rfl) ?_
  refine ti_get (ci := 4) (k := 4) (N := 6) (T := TX4) C hw iw_4 rfl ob_1 (by decide) (by decide) fl_X4_22 rfl rfl dX4_refuse_1 ?_
  refine lv_topi (fun x_1 ex_1 => ?_)
  have hj_23_9 : ∀ (M_6 : ti_M) (H : Heap) (locs : List Loc) (ls : Array Slot), (cI Tc M_6) → (M_6.2.2.2 = M.2.2.2) → (o12 M_6 M) → (tI M_6 2 1 = tI M 2 1) → ti_H ti_LT D A cy H0 M_6 H locs → lv_has ls 2 [(0, .ref (A 1 0)), (1, .int kd)] → W p l e (ti_rm 0) s m args below meth c H locs 0 0 Q (F0 m 23 ls []) := by
    intro M_6 H locs ls iM_6 f_7 f_8 f_9 hw hl
    refine lv_aload_n hx hb dX4_refuse_23 rfl (lv_at hl 0 rfl) ?_
    refine ti_get (ci := 4) (k := 0) (N := 6) (T := TX4) (v := .ref (A 2 0)) C hw iw_4 rfl ob_1 (by decide) (by decide) fl_X4_12 rfl rfl dX4_refuse_24 ?_
    refine lv_bipush (v := 28) hx hb dX4_refuse_27 (by decide) ?_
    refine ti_putI (ci := 7) (k := 4) (N := 7) (T := TX7) C hw iw_7 tyX7 tyX7_ok nmX7 rfl ob_2 (by decide) (by decide) fl_X4_41 rfl rfl rfl rfl (fn_7 A _) fs_7_4 dX4_refuse_29 (fun H locs hw => ?_)
    obtain ⟨M_10, hM_10⟩ : ∃ z : ti_M, z = uI M_6 2 4 28 := ⟨_, rfl⟩
    have hw := hw.to hM_10.symm
    have iM_10 : cI Tc M_10 := cI_uI iM_6 hM_10 ob_2.1 (ib_mk (lo := 0) (hi := 41) (by decide) (by decide))
    have vM_10 : (tI M_10 2 4).toInt = 28 := by rw [tI_uE hM_10]; decide
    exact hQ _ _ _ _ _ hw (⟨iM_10, ((rf_I hM_10).trans f_7), (o12.trans (o12_I hM_10 (by decide)) f_8), ((tI_nE hM_10 (nk (by decide))).trans f_9)⟩) dX4_refuse_32
  refine sb_if_ne (tgt := 23) hx hb rfl dX4_refuse_4 (by decide) (fun c_4_1 => ?_) (fun c_4_1 => ?_)
  · exact hj_23_9 M _ _ _ hI rfl o12.refl rfl hw (lv_sub hl [0, 1] rfl)
  · refine lv_aload_n hx hb dX4_refuse_7 rfl (lv_at hl 0 rfl) ?_
    refine lv_iload_n hx hb dX4_refuse_8 rfl (lv_at hl 1 rfl) ?_
    refine ti_putI (ci := 4) (k := 4) (N := 6) (T := TX4) C hw iw_4 tyX4 tyX4_ok nmX4 rfl ob_1 (by decide) (by decide) fl_X4_22 rfl rfl rfl rfl (fn_4 A _) fs_4_4 dX4_refuse_9 (fun H locs hw => ?_)
    obtain ⟨M_3, hM_3⟩ : ∃ z : ti_M, z = uI M 1 4 kd := ⟨_, rfl⟩
    have hw := hw.to hM_3.symm
    have iM_3 : cI Tc M_3 := cI_uI hI hM_3 ob_1.1 trivial
    refine lv_aload_n hx hb dX4_refuse_12 rfl (lv_at hl 0 rfl) ?_
    refine lv_aload_n hx hb dX4_refuse_13 rfl (lv_at hl 0 rfl) ?_
    refine ti_get (ci := 4) (k := 0) (N := 6) (T := TX4) (v := .ref (A 2 0)) C hw iw_4 rfl ob_1 (by decide) (by decide) fl_X4_12 rfl rfl dX4_refuse_14 ?_
    refine ti_get (ci := 7) (k := 5) (N := 7) (T := TX7) C hw iw_7 rfl ob_2 (by decide) (by decide) fl_X4_91 rfl rfl dX4_refuse_17 ?_
    refine lv_topi (fun x_4 ex_4 => ?_)
    refine ti_putI (ci := 4) (k := 5) (N := 6) (T := TX4) C hw iw_4 tyX4 tyX4_ok nmX4 rfl ob_1 (by decide) (by decide) fl_X4_25 rfl rfl rfl rfl (fn_4 A _) fs_4_5 dX4_refuse_20 (fun H locs hw => ?_)
    obtain ⟨M_5, hM_5⟩ : ∃ z : ti_M, z = uI M_3 1 5 x_4 := ⟨_, rfl⟩
    have hw := hw.to hM_5.symm
    have iM_5 : cI Tc M_5 := cI_uI iM_3 hM_5 ob_1.1 trivial
    exact hj_23_9 M_5 _ _ _ iM_5 ((rf_I hM_5).trans (rf_I hM_3)) (o12.trans (o12_I hM_5 (by decide)) (o12_I hM_3 (by decide))) ((tI_nE hM_5 (nk (by decide))).trans (tI_nE hM_3 (nk (by decide)))) hw (lv_sub hl [0, 1] rfl)
set_option maxHeartbeats 4000000 in
set_option maxRecDepth 100000 in
theorem s_X4_take (l : Launch) (D : va_G) (A : Nat → Nat → Nat) (cy : Nat → ClassId) (hJ : ti_inj ti_LT A) (M : ti_M) (hI : cI Tc M) (kd : Int32) : ti_KvE l yX4_take cX4_take 2 7 ti_LT D A cy M [.ref (A 1 0), .int kd] (fun M2 => cI Tc M2 ∧ M2.2.2.2 = M.2.2.2 ∧ o12 M2 M ∧ tI M2 2 1 = tI M 2 1) := by
  refine ti_eVE yp_X4_take hJ ti_LT_nd (Nat.le_of_ble_eq_true rfl) ?_
  intro p e s m args below meth c Q H0 C hE hQ hw ls hl
  have hx := C.1
  have hb := C.2.1
  have hl : lv_has ls 2 [(0, .ref (A 1 0)), (1, .int kd)] := hl
  refine lv_aload_n hx hb dX4_take_0 rfl (lv_at hl 0 rfl) ?_
  refine ti_get (ci := 4) (k := 0) (N := 6) (T := TX4) (v := .ref (A 2 0)) C hw iw_4 rfl ob_1 (by decide) (by decide) fl_X4_12 rfl rfl dX4_take_1 ?_
  refine ti_get (ci := 7) (k := 4) (N := 7) (T := TX7) C hw iw_7 rfl ob_2 (by decide) (by decide) fl_X4_41 rfl rfl dX4_take_4 ?_
  refine lv_topi (fun x_1 ex_1 => ?_)
  have bx_1 : 0 ≤ x_1.toInt ∧ x_1.toInt ≤ 41 := cI_rd hI ob_2.1 ex_1
  have ux_1 : (tI M 2 4).toInt = x_1.toInt := by rw [ex_1]
  refine lv_iload_n hx hb dX4_take_7 rfl (lv_at hl 1 rfl) ?_
  refine sb_icmp_ne (tgt := 21) hx hb rfl rfl dX4_take_8 (by decide) (fun c_8_1 => ?_) (fun c_8_1 => ?_)
  · refine lv_aload_n hx hb dX4_take_21 rfl (lv_at hl 0 rfl) ?_
    refine lv_iconst (v := 1) hx hb dX4_take_22 (by decide) ?_
    refine ti_callVv (ci := 4) (av := [.int 1]) C hw (s_X4_refuse l D A cy hJ M hI 1) ⟨ml_X4_82, ym_X4_refuse, yv_X4_refuse, yi_X4_refuse, yc_X4_refuse⟩ yd_X4_refuse ob_1 (by decide) rfl rfl hl.1 (Nat.le_of_ble_eq_true rfl) ⟨by decide, by decide⟩ ⟨Nat.zero_le _, Nat.zero_le _⟩ dX4_take_23 (fun M_9 H locs hp_9 hw => ?_)
    obtain ⟨iM_9, q_10, q_11, q_12⟩ := hp_9
    exact hQ _ _ _ _ _ hw (⟨iM_9, (q_10), q_11, (q_12)⟩) dX4_take_26
  · refine lv_aload_n hx hb dX4_take_11 rfl (lv_at hl 0 rfl) ?_
    refine ti_get (ci := 4) (k := 0) (N := 6) (T := TX4) (v := .ref (A 2 0)) C hw iw_4 rfl ob_1 (by decide) (by decide) fl_X4_12 rfl rfl dX4_take_12 ?_
    refine ti_callVvE (ci := 7) (av := []) C hE hw (s_X7_advance l D A cy hJ M hI ) ⟨ml_X4_92, ym_X7_advance, yv_X7_advance, yi_X7_advance, yc_X7_advance⟩ yd_X7_advance ob_2 (by decide) rfl rfl hl.1 (Nat.le_of_ble_eq_true rfl) ⟨by decide, by decide⟩ ⟨Nat.zero_le _, Nat.zero_le _⟩ dX4_take_15 (fun M_4 H locs hp_4 hw => ?_)
    obtain ⟨iM_4, q_5, q_6, q_7⟩ := hp_4
    refine lv_goto (tgt := 26) hx hb dX4_take_18 (by decide) ?_
    exact hQ _ _ _ _ _ hw (⟨iM_4, (q_5), q_6, (q_7)⟩) dX4_take_26
set_option maxHeartbeats 4000000 in
set_option maxRecDepth 100000 in
theorem s_X4_number (l : Launch) (D : va_G) (A : Nat → Nat → Nat) (cy : Nat → ClassId) (hJ : ti_inj ti_LT A) (M : ti_M) (hI : cI Tc M) (lo mo : Int32) : ti_KiE l yX4_number cX4_number 4 (some .int) 7 ti_LT D A cy M [.ref (A 1 0), .int lo, .int mo] (fun r M2 => cI Tc M2 ∧ M2.2.2.2 = M.2.2.2 ∧ o12 M2 M ∧ tI M2 2 1 = tI M 2 1) := by
  refine ti_eIE yp_X4_number hJ ti_LT_nd (Nat.le_of_ble_eq_true rfl) ?_
  intro p e s m args below meth c Q H0 C hE hQ hw ls hl
  have hx := C.1
  have hb := C.2.1
  have hl : lv_has ls 4 [(0, .ref (A 1 0)), (1, .int lo), (2, .int mo)] := hl
  refine lv_aload_n hx hb dX4_number_0 rfl (lv_at hl 0 rfl) ?_
  refine ti_get (ci := 4) (k := 0) (N := 6) (T := TX4) (v := .ref (A 2 0)) C hw iw_4 rfl ob_1 (by decide) (by decide) fl_X4_12 rfl rfl dX4_number_1 ?_
  refine ti_get (ci := 7) (k := 6) (N := 7) (T := TX7) C hw iw_7 rfl ob_2 (by decide) (by decide) fl_X4_95 rfl rfl dX4_number_4 ?_
  refine lv_topi (fun x_1 ex_1 => ?_)
  have bx_1 : 0 ≤ x_1.toInt ∧ x_1.toInt ≤ 2147483647 := cI_rd hI ob_2.1 ex_1
  have ux_1 : (tI M 2 6).toInt = x_1.toInt := by rw [ex_1]
  refine lv_istore_n (lv' := [(3, .int x_1), (0, .ref (A 1 0)), (1, .int lo), (2, .int mo)]) hx hb dX4_number_7 rfl hl (by decide) rfl (fun ls hl => ?_)
  refine lv_aload_n hx hb dX4_number_8 rfl (lv_at hl 1 rfl) ?_
  refine ti_get (ci := 4) (k := 0) (N := 6) (T := TX4) (v := .ref (A 2 0)) C hw iw_4 rfl ob_1 (by decide) (by decide) fl_X4_12 rfl rfl dX4_number_9 ?_
  refine ti_get (ci := 7) (k := 4) (N := 7) (T := TX7) C hw iw_7 rfl ob_2 (by decide) (by decide) fl_X4_41 rfl rfl dX4_number_12 ?_
  refine lv_topi (fun x_2 ex_2 => ?_)
  have bx_2 : 0 ≤ x_2.toInt ∧ x_2.toInt ≤ 41 := cI_rd hI ob_2.1 ex_2
  have ux_2 : (tI M 2 4).toInt = x_2.toInt := by rw [ex_2]
  refine lv_bipush (v := 26) hx hb dX4_number_15 (by decide) ?_
  have hj_53_24 : ∀ (M_21 : ti_M) (H : Heap) (locs : List Loc) (ls : Array Slot), (cI Tc M_21) → (M_21.2.2.2 = M.2.2.2) → (o12 M_21 M) → (tI M_21 2 1 = tI M 2 1) → ti_H ti_LT D A cy H0 M_21 H locs → lv_has ls 4 [(3, .int x_1), (0, .ref (A 1 0)), (1, .int lo), (2, .int mo)] → W p l e (ti_rm 7) s m args below meth c H locs 0 0 Q (F0 m 53 ls []) := by
    intro M_21 H locs ls iM_21 f_22 f_23 f_24 hw hl
    refine lv_iload_n hx hb dX4_number_53 rfl (lv_at hl 0 rfl) ?_
    exact hQ _ _ _ _ _ _ hw rfl (⟨iM_21, (f_22), f_23, (f_24)⟩) dX4_number_54
  refine sb_icmp_eq (tgt := 28) hx hb rfl (by decide : (26 : Int32).toInt = 26) dX4_number_17 (by decide) (fun c_17_2 => ?_) (fun c_17_2 => ?_)
  · refine lv_iload_n hx hb dX4_number_28 rfl (lv_at hl 0 rfl) ?_
    refine lv_iload_n hx hb dX4_number_29 rfl (lv_at hl 2 rfl) ?_
    have hj_38_10 : ∀  (H : Heap) (locs : List Loc) (ls : Array Slot), ti_H ti_LT D A cy H0 M H locs → lv_has ls 4 [(3, .int x_1), (0, .ref (A 1 0)), (1, .int lo), (2, .int mo)] → W p l e (ti_rm 7) s m args below meth c H locs 0 0 Q (F0 m 38 ls []) := by
      intro  H locs ls  hw hl
      refine lv_aload_n hx hb dX4_number_38 rfl (lv_at hl 1 rfl) ?_
      refine lv_iconst (v := 2) hx hb dX4_number_39 (by decide) ?_
      refine ti_callVv (ci := 4) (av := [.int 2]) C hw (s_X4_refuse l D A cy hJ M hI 2) ⟨ml_X4_82, ym_X4_refuse, yv_X4_refuse, yi_X4_refuse, yc_X4_refuse⟩ yd_X4_refuse ob_1 (by decide) rfl rfl hl.1 (Nat.le_of_ble_eq_true rfl) ⟨by decide, by decide⟩ ⟨Nat.zero_le _, Nat.zero_le _⟩ dX4_number_40 (fun M_12 H locs hp_12 hw => ?_)
      obtain ⟨iM_12, q_13, q_14, q_15⟩ := hp_12
      refine lv_goto (tgt := 53) hx hb dX4_number_43 (by decide) ?_
      exact hj_53_24 M_12 _ _ _ iM_12 (q_13) q_14 (q_15) hw (lv_sub hl [0, 1, 2, 3] rfl)
    refine sb_icmp_lt (tgt := 38) hx hb rfl rfl dX4_number_30 (by decide) (fun c_30_8 => ?_) (fun c_30_8 => ?_)
    · exact hj_38_10  _ _ _  hw (lv_sub hl [0, 1, 2, 3] rfl)
    · refine lv_iload_n hx hb dX4_number_33 rfl (lv_at hl 0 rfl) ?_
      refine lv_iload_n hx hb dX4_number_34 rfl (lv_at hl 3 rfl) ?_
      refine sb_icmp_le (tgt := 46) hx hb rfl rfl dX4_number_35 (by decide) (fun c_35_9 => ?_) (fun c_35_9 => ?_)
      · refine lv_aload_n hx hb dX4_number_46 rfl (lv_at hl 1 rfl) ?_
        refine ti_get (ci := 4) (k := 0) (N := 6) (T := TX4) (v := .ref (A 2 0)) C hw iw_4 rfl ob_1 (by decide) (by decide) fl_X4_12 rfl rfl dX4_number_47 ?_
        refine ti_callVvE (ci := 7) (av := []) C hE hw (s_X7_advance l D A cy hJ M hI ) ⟨ml_X4_92, ym_X7_advance, yv_X7_advance, yi_X7_advance, yc_X7_advance⟩ yd_X7_advance ob_2 (by decide) rfl rfl hl.1 (Nat.le_of_ble_eq_true rfl) ⟨by decide, by decide⟩ ⟨Nat.zero_le _, Nat.zero_le _⟩ dX4_number_50 (fun M_17 H locs hp_17 hw => ?_)
        obtain ⟨iM_17, q_18, q_19, q_20⟩ := hp_17
        exact hj_53_24 M_17 _ _ _ iM_17 (q_18) q_19 (q_20) hw (lv_sub hl [0, 1, 2, 3] rfl)
      · exact hj_38_10  _ _ _  hw (lv_sub hl [0, 1, 2, 3] rfl)
  · refine lv_aload_n hx hb dX4_number_20 rfl (lv_at hl 1 rfl) ?_
    refine lv_iconst (v := 1) hx hb dX4_number_21 (by decide) ?_
    refine ti_callVv (ci := 4) (av := [.int 1]) C hw (s_X4_refuse l D A cy hJ M hI 1) ⟨ml_X4_82, ym_X4_refuse, yv_X4_refuse, yi_X4_refuse, yc_X4_refuse⟩ yd_X4_refuse ob_1 (by decide) rfl rfl hl.1 (Nat.le_of_ble_eq_true rfl) ⟨by decide, by decide⟩ ⟨Nat.zero_le _, Nat.zero_le _⟩ dX4_number_22 (fun M_5 H locs hp_5 hw => ?_)
    obtain ⟨iM_5, q_6, q_7, q_8⟩ := hp_5
    refine lv_goto (tgt := 53) hx hb dX4_number_25 (by decide) ?_
    exact hj_53_24 M_5 _ _ _ iM_5 (q_6) q_7 (q_8) hw (lv_sub hl [0, 1, 2, 3] rfl)
set_option maxHeartbeats 4000000 in
set_option maxRecDepth 100000 in
theorem s_X4_once (l : Launch) (D : va_G) (A : Nat → Nat → Nat) (cy : Nat → ClassId) (hJ : ti_inj ti_LT A) (M : ti_M) (hI : cI Tc M)  : ti_KvE l yX4_once cX4_once 2 7 ti_LT D A cy M [.ref (A 1 0)] (fun M2 => cI Tc M2 ∧ M2.2.2.2 = M.2.2.2 ∧ o12 M2 M ∧ tI M2 2 1 = tI M 2 1) := by
  refine ti_eVE yp_X4_once hJ ti_LT_nd (Nat.le_of_ble_eq_true rfl) ?_
  intro p e s m args below meth c Q H0 C hE hQ hw ls hl
  have hx := C.1
  have hb := C.2.1
  have hl : lv_has ls 2 [(0, .ref (A 1 0))] := hl
  refine lv_iconst (v := 1) hx hb dX4_once_0 (by decide) ?_
  refine lv_aload_n hx hb dX4_once_1 rfl (lv_at hl 0 rfl) ?_
  refine ti_get (ci := 4) (k := 0) (N := 6) (T := TX4) (v := .ref (A 2 0)) C hw iw_4 rfl ob_1 (by decide) (by decide) fl_X4_12 rfl rfl dX4_once_2 ?_
  refine ti_get (ci := 7) (k := 4) (N := 7) (T := TX7) C hw iw_7 rfl ob_2 (by decide) (by decide) fl_X4_41 rfl rfl dX4_once_5 ?_
  refine lv_topi (fun x_1 ex_1 => ?_)
  have bx_1 : 0 ≤ x_1.toInt ∧ x_1.toInt ≤ 41 := cI_rd hI ob_2.1 ex_1
  have ux_1 : (tI M 2 4).toInt = x_1.toInt := by rw [ex_1]
  refine lv_ishl hx hb dX4_once_8 ?_
  refine lv_topi (fun x_2 ex_2 => ?_)
  refine lv_istore_n (lv' := [(1, .int x_2), (0, .ref (A 1 0))]) hx hb dX4_once_9 rfl hl (by decide) rfl (fun ls hl => ?_)
  refine lv_aload_n hx hb dX4_once_10 rfl (lv_at hl 1 rfl) ?_
  refine ti_get (ci := 4) (k := 3) (N := 6) (T := TX4) C hw iw_4 rfl ob_1 (by decide) (by decide) fl_X4_18 rfl rfl dX4_once_11 ?_
  refine lv_topi (fun x_3 ex_3 => ?_)
  refine lv_iload_n hx hb dX4_once_14 rfl (lv_at hl 0 rfl) ?_
  refine lv_iand hx hb dX4_once_15 ?_
  refine lv_topi (fun x_4 ex_4 => ?_)
  refine sb_if_eq (tgt := 27) hx hb rfl dX4_once_16 (by decide) (fun c_16_4 => ?_) (fun c_16_4 => ?_)
  · refine lv_aload_n hx hb dX4_once_27 rfl (lv_at hl 1 rfl) ?_
    refine lv_dup hx hb dX4_once_28 rfl ?_
    refine ti_get (ci := 4) (k := 3) (N := 6) (T := TX4) C hw iw_4 rfl ob_1 (by decide) (by decide) fl_X4_18 rfl rfl dX4_once_29 ?_
    refine ti_top (y := x_3) (ex_3.symm) ?_
    refine lv_iload_n hx hb dX4_once_32 rfl (lv_at hl 0 rfl) ?_
    refine lv_ior hx hb dX4_once_33 ?_
    refine lv_topi (fun x_11 ex_11 => ?_)
    refine ti_putI (ci := 4) (k := 3) (N := 6) (T := TX4) C hw iw_4 tyX4 tyX4_ok nmX4 rfl ob_1 (by decide) (by decide) fl_X4_18 rfl rfl rfl rfl (fn_4 A _) fs_4_3 dX4_once_34 (fun H locs hw => ?_)
    obtain ⟨M_12, hM_12⟩ : ∃ z : ti_M, z = uI M 1 3 x_11 := ⟨_, rfl⟩
    have hw := hw.to hM_12.symm
    have iM_12 : cI Tc M_12 := cI_uI hI hM_12 ob_1.1 trivial
    refine lv_aload_n hx hb dX4_once_37 rfl (lv_at hl 1 rfl) ?_
    refine ti_get (ci := 4) (k := 0) (N := 6) (T := TX4) (v := .ref (A 2 0)) C hw iw_4 rfl ob_1 (by decide) (by decide) fl_X4_12 rfl rfl dX4_once_38 ?_
    refine ti_callVvE (ci := 7) (av := []) C hE hw (s_X7_advance l D A cy hJ M_12 iM_12 ) ⟨ml_X4_92, ym_X7_advance, yv_X7_advance, yi_X7_advance, yc_X7_advance⟩ yd_X7_advance ob_2 (by decide) rfl rfl hl.1 (Nat.le_of_ble_eq_true rfl) ⟨by decide, by decide⟩ ⟨Nat.zero_le _, Nat.zero_le _⟩ dX4_once_41 (fun M_14 H locs hp_14 hw => ?_)
    obtain ⟨iM_14, q_15, q_16, q_17⟩ := hp_14
    exact hQ _ _ _ _ _ hw (⟨iM_14, ((q_15).trans (rf_I hM_12)), (o12.trans q_16 (o12_I hM_12 (by decide))), ((q_17).trans (tI_nE hM_12 (nk (by decide))))⟩) dX4_once_44
  · refine lv_aload_n hx hb dX4_once_19 rfl (lv_at hl 1 rfl) ?_
    refine lv_iconst (v := 3) hx hb dX4_once_20 (by decide) ?_
    refine ti_callVv (ci := 4) (av := [.int 3]) C hw (s_X4_refuse l D A cy hJ M hI 3) ⟨ml_X4_82, ym_X4_refuse, yv_X4_refuse, yi_X4_refuse, yc_X4_refuse⟩ yd_X4_refuse ob_1 (by decide) rfl rfl hl.1 (Nat.le_of_ble_eq_true rfl) ⟨by decide, by decide⟩ ⟨Nat.zero_le _, Nat.zero_le _⟩ dX4_once_21 (fun M_7 H locs hp_7 hw => ?_)
    obtain ⟨iM_7, q_8, q_9, q_10⟩ := hp_7
    refine lv_goto (tgt := 44) hx hb dX4_once_24 (by decide) ?_
    exact hQ _ _ _ _ _ hw (⟨iM_7, (q_8), q_9, (q_10)⟩) dX4_once_44
set_option maxHeartbeats 4000000 in
set_option maxRecDepth 100000 in
theorem s_X4_knot (l : Launch) (D : va_G) (A : Nat → Nat → Nat) (cy : Nat → ClassId) (hJ : ti_inj ti_LT A) (M : ti_M) (hI : cI Tc M) (t : Nat) (ht : t = 3 ∨ t = 4) (hT : tT M 1 1 = some t) : ti_KvE l yX4_knot cX4_knot 1 7 ti_LT D A cy M [.ref (A 1 0)] (fun M2 => cI Tc M2 ∧ M2.2.2.2 = M.2.2.2 ∧ f0 M2 M ∧ tI M2 2 1 = tI M 2 1) := by
  refine ti_eVE yp_X4_knot hJ ti_LT_nd (Nat.le_of_ble_eq_true rfl) ?_
  intro p e s m args below meth c Q H0 C hE hQ hw ls hl
  have hx := C.1
  have hb := C.2.1
  have hl : lv_has ls 1 [(0, .ref (A 1 0))] := hl
  refine lv_aload_n hx hb dX4_knot_0 rfl (lv_at hl 0 rfl) ?_
  refine ti_get (ci := 4) (k := 1) (N := 6) (T := TX4) (v := .ref (A t 0)) C hw iw_4 rfl ob_1 (by decide) (by decide) fl_X4_28 rfl (ti_Tv (hT)) dX4_knot_1 ?_
  refine ti_get (ci := 8) (k := 5) (N := 12) (T := TX8) C hw iw_8 rfl (ob_t ht) (by decide) (by decide) fl_X4_161 rfl rfl dX4_knot_4 ?_
  refine lv_topi (fun x_1 ex_1 => ?_)
  refine lv_bipush (v := 64) hx hb dX4_knot_7 (by decide) ?_
  refine sb_icmp_lt (tgt := 20) hx hb rfl (by decide : (64 : Int32).toInt = 64) dX4_knot_9 (by decide) (fun c_9_1 => ?_) (fun c_9_1 => ?_)
  · refine lv_aload_n hx hb dX4_knot_20 rfl (lv_at hl 0 rfl) ?_
    refine ti_get (ci := 4) (k := 1) (N := 6) (T := TX4) (v := .ref (A t 0)) C hw iw_4 rfl ob_1 (by decide) (by decide) fl_X4_28 rfl (ti_Tv (hT)) dX4_knot_21 ?_
    refine lv_dup hx hb dX4_knot_24 rfl ?_
    refine ti_get (ci := 8) (k := 5) (N := 12) (T := TX8) C hw iw_8 rfl (ob_t ht) (by decide) (by decide) fl_X4_161 rfl rfl dX4_knot_25 ?_
    refine ti_top (y := x_1) (ex_1.symm) ?_
    refine lv_iconst (v := 1) hx hb dX4_knot_28 (by decide) ?_
    refine lv_iadd hx hb dX4_knot_29 ?_
    refine lv_topi (fun x_8 ex_8 => ?_)
    refine ti_putI (ci := 8) (k := 5) (N := 12) (T := TX8) C hw iw_8 tyX8 tyX8_ok nmX8 rfl (ob_t ht) (by decide) (by decide) fl_X4_161 rfl rfl rfl rfl (fn_8 A _) fs_8_5 dX4_knot_30 (fun H locs hw => ?_)
    obtain ⟨M_9, hM_9⟩ : ∃ z : ti_M, z = uI M t 5 x_8 := ⟨_, rfl⟩
    have hw := hw.to hM_9.symm
    have iM_9 : cI Tc M_9 := cI_uI hI hM_9 (ob_t ht).1 trivial
    refine lv_aload_n hx hb dX4_knot_33 rfl (lv_at hl 0 rfl) ?_
    refine ti_get (ci := 4) (k := 0) (N := 6) (T := TX4) (v := .ref (A 2 0)) C hw iw_4 rfl ob_1 (by decide) (by decide) fl_X4_12 rfl rfl dX4_knot_34 ?_
    refine ti_callVvE (ci := 7) (av := []) C hE hw (s_X7_advance l D A cy hJ M_9 iM_9 ) ⟨ml_X4_92, ym_X7_advance, yv_X7_advance, yi_X7_advance, yc_X7_advance⟩ yd_X7_advance ob_2 (by decide) rfl rfl hl.1 (Nat.le_of_ble_eq_true rfl) ⟨by decide, by decide⟩ ⟨Nat.zero_le _, Nat.zero_le _⟩ dX4_knot_37 (fun M_11 H locs hp_11 hw => ?_)
    obtain ⟨iM_11, q_12, q_13, q_14⟩ := hp_11
    exact hQ _ _ _ _ _ hw (⟨iM_11, ((q_12).trans (rf_I hM_9)), (f0.trans (f0_12 q_13) (f0_I hM_9 (f0n (ob_t ht).1 (by decide)))), ((q_14).trans (tI_nE hM_9 (nk (by decide))))⟩) dX4_knot_40
  · refine lv_aload_n hx hb dX4_knot_12 rfl (lv_at hl 0 rfl) ?_
    refine lv_iconst (v := 2) hx hb dX4_knot_13 (by decide) ?_
    refine ti_callVv (ci := 4) (av := [.int 2]) C hw (s_X4_refuse l D A cy hJ M hI 2) ⟨ml_X4_82, ym_X4_refuse, yv_X4_refuse, yi_X4_refuse, yc_X4_refuse⟩ yd_X4_refuse ob_1 (by decide) rfl rfl hl.1 (Nat.le_of_ble_eq_true rfl) ⟨by decide, by decide⟩ ⟨Nat.zero_le _, Nat.zero_le _⟩ dX4_knot_14 (fun M_4 H locs hp_4 hw => ?_)
    obtain ⟨iM_4, q_5, q_6, q_7⟩ := hp_4
    refine lv_goto (tgt := 40) hx hb dX4_knot_17 (by decide) ?_
    exact hQ _ _ _ _ _ hw (⟨iM_4, (q_5), (f0_12 q_6), (q_7)⟩) dX4_knot_40
set_option maxHeartbeats 4000000 in
set_option maxRecDepth 100000 in
theorem s_X4_toldMan (l : Launch) (D : va_G) (A : Nat → Nat → Nat) (cy : Nat → ClassId) (hJ : ti_inj ti_LT A) (M : ti_M) (hI : cI Tc M) (t : Nat) (ht : t = 3 ∨ t = 4) (hT : tT M 1 1 = some t) : ti_Ki l yX4_toldMan cX4_toldMan 2 (some .int) 1 ti_LT D A cy M [.ref (A 1 0)] (fun r M2 => cI Tc M2 ∧ M2.2.2.2 = M.2.2.2 ∧ o12 M2 M ∧ tI M2 2 1 = tI M 2 1 ∧ (-1) ≤ r.toInt ∧ r.toInt ≤ 7) := by
  refine ti_eI yp_X4_toldMan hJ ti_LT_nd (Nat.le_of_ble_eq_true rfl) ?_
  intro p e s m args below meth c Q H0 C hQ hw ls hl
  have hx := C.1
  have hb := C.2.1
  have hl : lv_has ls 2 [(0, .ref (A 1 0))] := hl
  refine lv_aload_n hx hb dX4_toldMan_0 rfl (lv_at hl 0 rfl) ?_
  refine ti_get (ci := 4) (k := 0) (N := 6) (T := TX4) (v := .ref (A 2 0)) C hw iw_4 rfl ob_1 (by decide) (by decide) fl_X4_12 rfl rfl dX4_toldMan_1 ?_
  refine ti_get (ci := 7) (k := 4) (N := 7) (T := TX7) C hw iw_7 rfl ob_2 (by decide) (by decide) fl_X4_41 rfl rfl dX4_toldMan_4 ?_
  refine lv_topi (fun x_1 ex_1 => ?_)
  have bx_1 : 0 ≤ x_1.toInt ∧ x_1.toInt ≤ 41 := cI_rd hI ob_2.1 ex_1
  have ux_1 : (tI M 2 4).toInt = x_1.toInt := by rw [ex_1]
  refine lv_bipush (v := 25) hx hb dX4_toldMan_7 (by decide) ?_
  refine sb_icmp_eq (tgt := 19) hx hb rfl (by decide : (25 : Int32).toInt = 25) dX4_toldMan_9 (by decide) (fun c_9_1 => ?_) (fun c_9_1 => ?_)
  · refine lv_aload_n hx hb dX4_toldMan_19 rfl (lv_at hl 0 rfl) ?_
    refine ti_get (ci := 4) (k := 1) (N := 6) (T := TX4) (v := .ref (A t 0)) C hw iw_4 rfl ob_1 (by decide) (by decide) fl_X4_28 rfl (ti_Tv (hT)) dX4_toldMan_20 ?_
    refine lv_aload_n hx hb dX4_toldMan_23 rfl (lv_at hl 0 rfl) ?_
    refine ti_get (ci := 4) (k := 0) (N := 6) (T := TX4) (v := .ref (A 2 0)) C hw iw_4 rfl ob_1 (by decide) (by decide) fl_X4_12 rfl rfl dX4_toldMan_24 ?_
    refine ti_get (ci := 7) (k := 6) (N := 7) (T := TX7) C hw iw_7 rfl ob_2 (by decide) (by decide) fl_X4_95 rfl rfl dX4_toldMan_27 ?_
    refine lv_topi (fun x_8 ex_8 => ?_)
    have bx_8 : 0 ≤ x_8.toInt ∧ x_8.toInt ≤ 2147483647 := cI_rd hI ob_2.1 ex_8
    have ux_8 : (tI M 2 6).toInt = x_8.toInt := by rw [ex_8]
    refine ti_callVi (ci := 8) (av := [.int x_8]) C hw (s_X8_find l D A cy hJ M hI t ht x_8) ⟨ml_X4_110, ym_X8_find, yv_X8_find, yi_X8_find, yc_X8_find⟩ yd_X8_find (ob_t ht) (by decide) rfl rfl hl.1 (Nat.le_of_ble_eq_true rfl) ⟨by decide, by decide⟩ ⟨Nat.zero_le _, Nat.zero_le _⟩ dX4_toldMan_30 (fun r_9 M_10 H locs hp_10 hw => ?_)
    obtain ⟨hm, b0r_9, b1r_9⟩ := hp_10
    have hw := hw.to hm
    refine lv_istore_n (lv' := [(1, .int r_9), (0, .ref (A 1 0))]) hx hb dX4_toldMan_33 rfl hl (by decide) rfl (fun ls hl => ?_)
    refine lv_iload_n hx hb dX4_toldMan_34 rfl (lv_at hl 0 rfl) ?_
    refine lv_iconst (v := (-1)) hx hb dX4_toldMan_35 (by decide) ?_
    have hj_44_20 : ∀ (M_17 : ti_M) (H : Heap) (locs : List Loc) (ls : Array Slot), (cI Tc M_17) → (M_17.2.2.2 = M.2.2.2) → (o12 M_17 M) → (tI M_17 2 1 = tI M 2 1) → ti_H ti_LT D A cy H0 M_17 H locs → lv_has ls 2 [(1, .int r_9), (0, .ref (A 1 0))] → W p l e (ti_rm 1) s m args below meth c H locs 0 0 Q (F0 m 44 ls []) := by
      intro M_17 H locs ls iM_17 f_18 f_19 f_20 hw hl
      refine lv_iload_n hx hb dX4_toldMan_44 rfl (lv_at hl 0 rfl) ?_
      exact hQ _ _ _ _ _ _ hw rfl (⟨iM_17, (f_18), f_19, (f_20), (by first | omega | decide), (by first | omega | decide)⟩) dX4_toldMan_45
    refine sb_icmp_ne (tgt := 44) hx hb rfl (by decide : ((-1) : Int32).toInt = (-1)) dX4_toldMan_36 (by decide) (fun c_36_10 => ?_) (fun c_36_10 => ?_)
    · exact hj_44_20 M _ _ _ hI rfl o12.refl rfl hw (lv_sub hl [0, 1] rfl)
    · refine lv_aload_n hx hb dX4_toldMan_39 rfl (lv_at hl 1 rfl) ?_
      refine lv_iconst (v := 4) hx hb dX4_toldMan_40 (by decide) ?_
      refine ti_callVv (ci := 4) (av := [.int 4]) C hw (s_X4_refuse l D A cy hJ M hI 4) ⟨ml_X4_82, ym_X4_refuse, yv_X4_refuse, yi_X4_refuse, yc_X4_refuse⟩ yd_X4_refuse ob_1 (by decide) rfl rfl hl.1 (Nat.le_of_ble_eq_true rfl) ⟨by decide, by decide⟩ ⟨Nat.zero_le _, Nat.zero_le _⟩ dX4_toldMan_41 (fun M_13 H locs hp_13 hw => ?_)
      obtain ⟨iM_13, q_14, q_15, q_16⟩ := hp_13
      exact hj_44_20 M_13 _ _ _ iM_13 (q_14) q_15 (q_16) hw (lv_sub hl [0, 1] rfl)
  · refine lv_aload_n hx hb dX4_toldMan_12 rfl (lv_at hl 0 rfl) ?_
    refine lv_iconst (v := 1) hx hb dX4_toldMan_13 (by decide) ?_
    refine ti_callVv (ci := 4) (av := [.int 1]) C hw (s_X4_refuse l D A cy hJ M hI 1) ⟨ml_X4_82, ym_X4_refuse, yv_X4_refuse, yi_X4_refuse, yc_X4_refuse⟩ yd_X4_refuse ob_1 (by decide) rfl rfl hl.1 (Nat.le_of_ble_eq_true rfl) ⟨by decide, by decide⟩ ⟨Nat.zero_le _, Nat.zero_le _⟩ dX4_toldMan_14 (fun M_4 H locs hp_4 hw => ?_)
    obtain ⟨iM_4, q_5, q_6, q_7⟩ := hp_4
    refine lv_iconst (v := (-1)) hx hb dX4_toldMan_17 (by decide) ?_
    exact hQ _ _ _ _ _ _ hw rfl (⟨iM_4, (q_5), q_6, (q_7), (by first | omega | decide), (by first | omega | decide)⟩) dX4_toldMan_18
set_option maxHeartbeats 4000000 in
set_option maxRecDepth 100000 in
theorem s_X4_readMan (l : Launch) (D : va_G) (A : Nat → Nat → Nat) (cy : Nat → ClassId) (hJ : ti_inj ti_LT A) (M : ti_M) (hI : cI Tc M) (t : Nat) (ht : t = 3 ∨ t = 4) (hT : tT M 1 1 = some t) : ti_KvE l yX4_readMan cX4_readMan 2 8 ti_LT D A cy M [.ref (A 1 0)] (fun M2 => cI Tc M2 ∧ M2.2.2.2 = M.2.2.2 ∧ f0 M2 M ∧ tI M2 2 1 = tI M 2 1) := by
  refine ti_eVE yp_X4_readMan hJ ti_LT_nd (Nat.le_of_ble_eq_true rfl) ?_
  intro p e s m args below meth c Q H0 C hE hQ hw ls hl
  have hx := C.1
  have hb := C.2.1
  have hl : lv_has ls 2 [(0, .ref (A 1 0))] := hl
  refine lv_aload_n hx hb dX4_readMan_0 rfl (lv_at hl 0 rfl) ?_
  refine ti_get (ci := 4) (k := 1) (N := 6) (T := TX4) (v := .ref (A t 0)) C hw iw_4 rfl ob_1 (by decide) (by decide) fl_X4_28 rfl (ti_Tv (hT)) dX4_readMan_1 ?_
  refine ti_get (ci := 8) (k := 4) (N := 12) (T := TX8) C hw iw_8 rfl (ob_t ht) (by decide) (by decide) fl_X4_98 rfl rfl dX4_readMan_4 ?_
  refine lv_topi (fun x_1 ex_1 => ?_)
  have bx_1 : 0 ≤ x_1.toInt ∧ x_1.toInt ≤ 8 := cI_rd hI (ob_t ht).1 ex_1
  have ux_1 : (tI M t 4).toInt = x_1.toInt := by rw [ex_1]
  refine lv_bipush (v := 8) hx hb dX4_readMan_7 (by decide) ?_
  refine sb_icmp_lt (tgt := 18) hx hb rfl (by decide : (8 : Int32).toInt = 8) dX4_readMan_9 (by decide) (fun c_9_1 => ?_) (fun c_9_1 => ?_)
  · refine lv_aload_n hx hb dX4_readMan_18 rfl (lv_at hl 0 rfl) ?_
    refine ti_get (ci := 4) (k := 1) (N := 6) (T := TX4) (v := .ref (A t 0)) C hw iw_4 rfl ob_1 (by decide) (by decide) fl_X4_28 rfl (ti_Tv (hT)) dX4_readMan_19 ?_
    refine ti_get (ci := 8) (k := 0) (N := 12) (T := TX8) (v := .ref (A t 1)) C hw iw_8 rfl (ob_t ht) (by decide) (by decide) fl_X4_101 rfl rfl dX4_readMan_22 ?_
    refine lv_aload_n hx hb dX4_readMan_25 rfl (lv_at hl 0 rfl) ?_
    refine ti_get (ci := 4) (k := 1) (N := 6) (T := TX4) (v := .ref (A t 0)) C hw iw_4 rfl ob_1 (by decide) (by decide) fl_X4_28 rfl (ti_Tv (hT)) dX4_readMan_26 ?_
    refine ti_get (ci := 8) (k := 4) (N := 12) (T := TX8) C hw iw_8 rfl (ob_t ht) (by decide) (by decide) fl_X4_98 rfl rfl dX4_readMan_29 ?_
    refine ti_top (y := x_1) (ex_1.symm) ?_
    have u_8 : (tI M t 4).toInt = (x_1 : Int32).toInt := by rw [(ex_1.symm)]
    refine ti_aald (ci := 8) (k := 0) (n := 8) (t0 := 5) (Cn := RX2) (gg := (ti_men t)) (j := x_1.toNatClampNeg) C hw (ob_t ht) (by decide) (fun _ _ => rfl) rfl (vp_in_iff.mpr (by omega)) rfl dX4_readMan_32 ?_
    have ob_9 : ti_ob ti_LT (ti_men t x_1.toNatClampNeg) 2 := ob_m ht (i_nt rfl (by omega) (by omega))
    refine lv_astore_n (lv' := [(1, .ref (A (ti_men t x_1.toNatClampNeg) 0)), (0, .ref (A 1 0))]) hx hb dX4_readMan_33 rfl hl (by decide) rfl (fun ls hl => ?_)
    refine lv_aload_n hx hb dX4_readMan_34 rfl (lv_at hl 1 rfl) ?_
    refine ti_get (ci := 4) (k := 0) (N := 6) (T := TX4) (v := .ref (A 2 0)) C hw iw_4 rfl ob_1 (by decide) (by decide) fl_X4_12 rfl rfl dX4_readMan_35 ?_
    refine ti_callVvE (ci := 7) (av := []) C hE hw (s_X7_advance l D A cy hJ M hI ) ⟨ml_X4_92, ym_X7_advance, yv_X7_advance, yi_X7_advance, yc_X7_advance⟩ yd_X7_advance ob_2 (by decide) rfl rfl hl.1 (Nat.le_of_ble_eq_true rfl) ⟨by decide, by decide⟩ ⟨Nat.zero_le _, Nat.zero_le _⟩ dX4_readMan_38 (fun M_11 H locs hp_11 hw => ?_)
    obtain ⟨iM_11, q_12, q_13, q_14⟩ := hp_11
    refine lv_aload_n hx hb dX4_readMan_41 rfl (lv_at hl 0 rfl) ?_
    refine lv_aload_n hx hb dX4_readMan_42 rfl (lv_at hl 1 rfl) ?_
    refine ti_get (ci := 4) (k := 0) (N := 6) (T := TX4) (v := .ref (A 2 0)) C hw iw_4 rfl ob_1 (by decide) (by decide) fl_X4_12 rfl rfl dX4_readMan_43 ?_
    refine ti_get (ci := 7) (k := 6) (N := 7) (T := TX7) C hw iw_7 rfl ob_2 (by decide) (by decide) fl_X4_95 rfl rfl dX4_readMan_46 ?_
    refine lv_topi (fun x_15 ex_15 => ?_)
    have bx_15 : 0 ≤ x_15.toInt ∧ x_15.toInt ≤ 2147483647 := cI_rd iM_11 ob_2.1 ex_15
    have ux_15 : (tI M_11 2 6).toInt = x_15.toInt := by rw [ex_15]
    refine ti_putI (ci := 2) (k := 0) (N := 10) (T := TX2) C hw iw_2 tyX2 tyX2_ok nmX2 rfl ob_9 (by decide) (by decide) fl_X4_105 rfl rfl rfl rfl (fn_2 A _) fs_2_0 dX4_readMan_49 (fun H locs hw => ?_)
    obtain ⟨M_16, hM_16⟩ : ∃ z : ti_M, z = uI M_11 (ti_men t x_1.toNatClampNeg) 0 x_15 := ⟨_, rfl⟩
    have hw := hw.to hM_16.symm
    have iM_16 : cI Tc M_16 := cI_uI iM_11 hM_16 ob_9.1 trivial
    refine lv_aload_n hx hb dX4_readMan_52 rfl (lv_at hl 1 rfl) ?_
    refine ti_get (ci := 4) (k := 0) (N := 6) (T := TX4) (v := .ref (A 2 0)) C hw iw_4 rfl ob_1 (by decide) (by decide) fl_X4_12 rfl rfl dX4_readMan_53 ?_
    refine ti_get (ci := 7) (k := 4) (N := 7) (T := TX7) C hw iw_7 rfl ob_2 (by decide) (by decide) fl_X4_41 rfl rfl dX4_readMan_56 ?_
    refine lv_topi (fun x_17 ex_17 => ?_)
    have bx_17 : 0 ≤ x_17.toInt ∧ x_17.toInt ≤ 41 := cI_rd iM_16 ob_2.1 ex_17
    have ux_17 : (tI M_16 2 4).toInt = x_17.toInt := by rw [ex_17]
    refine lv_bipush (v := 25) hx hb dX4_readMan_59 (by decide) ?_
    have hj_84_31 : ∀ (M_27 : ti_M) (H : Heap) (locs : List Loc) (ls : Array Slot), (cI Tc M_27) → (M_27.2.2.2 = M.2.2.2) → (f0 M_27 M) → (tI M_27 2 1 = tI M 2 1) → (tI M_27 t 4 = x_1) → ti_H ti_LT D A cy H0 M_27 H locs → lv_has ls 2 [(1, .ref (A (ti_men t x_1.toNatClampNeg) 0)), (0, .ref (A 1 0))] → W p l e (ti_rm 8) s m args below meth c H locs 0 0 Q (F0 m 84 ls []) := by
      intro M_27 H locs ls iM_27 f_28 f_29 f_30 f_31 hw hl
      refine lv_aload_n hx hb dX4_readMan_84 rfl (lv_at hl 1 rfl) ?_
      refine lv_bipush (v := 25) hx hb dX4_readMan_85 (by decide) ?_
      refine ti_callVvE (ci := 4) (av := [.int 25]) C hE hw (s_X4_take l D A cy hJ M_27 iM_27 25) ⟨ml_X4_85, ym_X4_take, yv_X4_take, yi_X4_take, yc_X4_take⟩ yd_X4_take ob_1 (by decide) rfl rfl hl.1 (Nat.le_of_ble_eq_true rfl) ⟨by decide, by decide⟩ ⟨Nat.zero_le _, Nat.zero_le _⟩ dX4_readMan_87 (fun M_33 H locs hp_33 hw => ?_)
      obtain ⟨iM_33, q_34, q_35, q_36⟩ := hp_33
      refine lv_aload_n hx hb dX4_readMan_90 rfl (lv_at hl 0 rfl) ?_
      refine lv_aload_n hx hb dX4_readMan_91 rfl (lv_at hl 1 rfl) ?_
      refine lv_iconst (v := 1) hx hb dX4_readMan_92 (by decide) ?_
      refine lv_bipush (v := 99) hx hb dX4_readMan_93 (by decide) ?_
      refine ti_callViE (ci := 4) (av := [.int 1, .int 99]) C hE hw (s_X4_number l D A cy hJ M_33 iM_33 1 99) ⟨ml_X4_56, ym_X4_number, yv_X4_number, yi_X4_number, yc_X4_number⟩ yd_X4_number ob_1 (by decide) rfl rfl hl.1 (Nat.le_of_ble_eq_true rfl) ⟨by decide, by decide⟩ ⟨Nat.zero_le _, Nat.zero_le _⟩ dX4_readMan_95 (fun r_37 M_38 H locs hp_38 hw => ?_)
      obtain ⟨iM_38, q_39, q_40, q_41⟩ := hp_38
      refine ti_putI (ci := 2) (k := 1) (N := 10) (T := TX2) C hw iw_2 tyX2 tyX2_ok nmX2 rfl ob_9 (by decide) (by decide) fl_X4_114 rfl rfl rfl rfl (fn_2 A _) fs_2_1 dX4_readMan_98 (fun H locs hw => ?_)
      obtain ⟨M_42, hM_42⟩ : ∃ z : ti_M, z = uI M_38 (ti_men t x_1.toNatClampNeg) 1 r_37 := ⟨_, rfl⟩
      have hw := hw.to hM_42.symm
      have iM_42 : cI Tc M_42 := cI_uI iM_38 hM_42 ob_9.1 trivial
      refine lv_aload_n hx hb dX4_readMan_101 rfl (lv_at hl 0 rfl) ?_
      refine lv_aload_n hx hb dX4_readMan_102 rfl (lv_at hl 1 rfl) ?_
      refine lv_iconst (v := 0) hx hb dX4_readMan_103 (by decide) ?_
      refine lv_bipush (v := 9) hx hb dX4_readMan_104 (by decide) ?_
      refine ti_callViE (ci := 4) (av := [.int 0, .int 9]) C hE hw (s_X4_number l D A cy hJ M_42 iM_42 0 9) ⟨ml_X4_56, ym_X4_number, yv_X4_number, yi_X4_number, yc_X4_number⟩ yd_X4_number ob_1 (by decide) rfl rfl hl.1 (Nat.le_of_ble_eq_true rfl) ⟨by decide, by decide⟩ ⟨Nat.zero_le _, Nat.zero_le _⟩ dX4_readMan_106 (fun r_43 M_44 H locs hp_44 hw => ?_)
      obtain ⟨iM_44, q_45, q_46, q_47⟩ := hp_44
      refine ti_putI (ci := 2) (k := 2) (N := 10) (T := TX2) C hw iw_2 tyX2 tyX2_ok nmX2 rfl ob_9 (by decide) (by decide) fl_X4_117 rfl rfl rfl rfl (fn_2 A _) fs_2_2 dX4_readMan_109 (fun H locs hw => ?_)
      obtain ⟨M_48, hM_48⟩ : ∃ z : ti_M, z = uI M_44 (ti_men t x_1.toNatClampNeg) 2 r_43 := ⟨_, rfl⟩
      have hw := hw.to hM_48.symm
      have iM_48 : cI Tc M_48 := cI_uI iM_44 hM_48 ob_9.1 trivial
      refine lv_aload_n hx hb dX4_readMan_112 rfl (lv_at hl 0 rfl) ?_
      refine lv_aload_n hx hb dX4_readMan_113 rfl (lv_at hl 1 rfl) ?_
      refine lv_iconst (v := 1) hx hb dX4_readMan_114 (by decide) ?_
      refine lv_bipush (v := 99) hx hb dX4_readMan_115 (by decide) ?_
      refine ti_callViE (ci := 4) (av := [.int 1, .int 99]) C hE hw (s_X4_number l D A cy hJ M_48 iM_48 1 99) ⟨ml_X4_56, ym_X4_number, yv_X4_number, yi_X4_number, yc_X4_number⟩ yd_X4_number ob_1 (by decide) rfl rfl hl.1 (Nat.le_of_ble_eq_true rfl) ⟨by decide, by decide⟩ ⟨Nat.zero_le _, Nat.zero_le _⟩ dX4_readMan_117 (fun r_49 M_50 H locs hp_50 hw => ?_)
      obtain ⟨iM_50, q_51, q_52, q_53⟩ := hp_50
      refine ti_putI (ci := 2) (k := 3) (N := 10) (T := TX2) C hw iw_2 tyX2 tyX2_ok nmX2 rfl ob_9 (by decide) (by decide) fl_X4_120 rfl rfl rfl rfl (fn_2 A _) fs_2_3 dX4_readMan_120 (fun H locs hw => ?_)
      obtain ⟨M_54, hM_54⟩ : ∃ z : ti_M, z = uI M_50 (ti_men t x_1.toNatClampNeg) 3 r_49 := ⟨_, rfl⟩
      have hw := hw.to hM_54.symm
      have iM_54 : cI Tc M_54 := cI_uI iM_50 hM_54 ob_9.1 trivial
      refine lv_aload_n hx hb dX4_readMan_123 rfl (lv_at hl 0 rfl) ?_
      refine lv_aload_n hx hb dX4_readMan_124 rfl (lv_at hl 1 rfl) ?_
      refine lv_iconst (v := 1) hx hb dX4_readMan_125 (by decide) ?_
      refine lv_bipush (v := 30) hx hb dX4_readMan_126 (by decide) ?_
      refine ti_callViE (ci := 4) (av := [.int 1, .int 30]) C hE hw (s_X4_number l D A cy hJ M_54 iM_54 1 30) ⟨ml_X4_56, ym_X4_number, yv_X4_number, yi_X4_number, yc_X4_number⟩ yd_X4_number ob_1 (by decide) rfl rfl hl.1 (Nat.le_of_ble_eq_true rfl) ⟨by decide, by decide⟩ ⟨Nat.zero_le _, Nat.zero_le _⟩ dX4_readMan_128 (fun r_55 M_56 H locs hp_56 hw => ?_)
      obtain ⟨iM_56, q_57, q_58, q_59⟩ := hp_56
      refine ti_putI (ci := 2) (k := 4) (N := 10) (T := TX2) C hw iw_2 tyX2 tyX2_ok nmX2 rfl ob_9 (by decide) (by decide) fl_X4_123 rfl rfl rfl rfl (fn_2 A _) fs_2_4 dX4_readMan_131 (fun H locs hw => ?_)
      obtain ⟨M_60, hM_60⟩ : ∃ z : ti_M, z = uI M_56 (ti_men t x_1.toNatClampNeg) 4 r_55 := ⟨_, rfl⟩
      have hw := hw.to hM_60.symm
      have iM_60 : cI Tc M_60 := cI_uI iM_56 hM_60 ob_9.1 trivial
      refine lv_aload_n hx hb dX4_readMan_134 rfl (lv_at hl 0 rfl) ?_
      refine lv_aload_n hx hb dX4_readMan_135 rfl (lv_at hl 1 rfl) ?_
      refine lv_iconst (v := 0) hx hb dX4_readMan_136 (by decide) ?_
      refine lv_bipush (v := 99) hx hb dX4_readMan_137 (by decide) ?_
      refine ti_callViE (ci := 4) (av := [.int 0, .int 99]) C hE hw (s_X4_number l D A cy hJ M_60 iM_60 0 99) ⟨ml_X4_56, ym_X4_number, yv_X4_number, yi_X4_number, yc_X4_number⟩ yd_X4_number ob_1 (by decide) rfl rfl hl.1 (Nat.le_of_ble_eq_true rfl) ⟨by decide, by decide⟩ ⟨Nat.zero_le _, Nat.zero_le _⟩ dX4_readMan_139 (fun r_61 M_62 H locs hp_62 hw => ?_)
      obtain ⟨iM_62, q_63, q_64, q_65⟩ := hp_62
      refine ti_putI (ci := 2) (k := 5) (N := 10) (T := TX2) C hw iw_2 tyX2 tyX2_ok nmX2 rfl ob_9 (by decide) (by decide) fl_X4_126 rfl rfl rfl rfl (fn_2 A _) fs_2_5 dX4_readMan_142 (fun H locs hw => ?_)
      obtain ⟨M_66, hM_66⟩ : ∃ z : ti_M, z = uI M_62 (ti_men t x_1.toNatClampNeg) 5 r_61 := ⟨_, rfl⟩
      have hw := hw.to hM_66.symm
      have iM_66 : cI Tc M_66 := cI_uI iM_62 hM_66 ob_9.1 trivial
      refine lv_aload_n hx hb dX4_readMan_145 rfl (lv_at hl 0 rfl) ?_
      refine lv_aload_n hx hb dX4_readMan_146 rfl (lv_at hl 1 rfl) ?_
      refine lv_iconst (v := 0) hx hb dX4_readMan_147 (by decide) ?_
      refine lv_bipush (v := 99) hx hb dX4_readMan_148 (by decide) ?_
      refine ti_callViE (ci := 4) (av := [.int 0, .int 99]) C hE hw (s_X4_number l D A cy hJ M_66 iM_66 0 99) ⟨ml_X4_56, ym_X4_number, yv_X4_number, yi_X4_number, yc_X4_number⟩ yd_X4_number ob_1 (by decide) rfl rfl hl.1 (Nat.le_of_ble_eq_true rfl) ⟨by decide, by decide⟩ ⟨Nat.zero_le _, Nat.zero_le _⟩ dX4_readMan_150 (fun r_67 M_68 H locs hp_68 hw => ?_)
      obtain ⟨iM_68, q_69, q_70, q_71⟩ := hp_68
      refine ti_putI (ci := 2) (k := 6) (N := 10) (T := TX2) C hw iw_2 tyX2 tyX2_ok nmX2 rfl ob_9 (by decide) (by decide) fl_X4_129 rfl rfl rfl rfl (fn_2 A _) fs_2_6 dX4_readMan_153 (fun H locs hw => ?_)
      obtain ⟨M_72, hM_72⟩ : ∃ z : ti_M, z = uI M_68 (ti_men t x_1.toNatClampNeg) 6 r_67 := ⟨_, rfl⟩
      have hw := hw.to hM_72.symm
      have iM_72 : cI Tc M_72 := cI_uI iM_68 hM_72 ob_9.1 trivial
      refine lv_aload_n hx hb dX4_readMan_156 rfl (lv_at hl 0 rfl) ?_
      refine lv_aload_n hx hb dX4_readMan_157 rfl (lv_at hl 1 rfl) ?_
      refine lv_iconst (v := 0) hx hb dX4_readMan_158 (by decide) ?_
      refine lv_bipush (v := 59) hx hb dX4_readMan_159 (by decide) ?_
      refine ti_callViE (ci := 4) (av := [.int 0, .int 59]) C hE hw (s_X4_number l D A cy hJ M_72 iM_72 0 59) ⟨ml_X4_56, ym_X4_number, yv_X4_number, yi_X4_number, yc_X4_number⟩ yd_X4_number ob_1 (by decide) rfl rfl hl.1 (Nat.le_of_ble_eq_true rfl) ⟨by decide, by decide⟩ ⟨Nat.zero_le _, Nat.zero_le _⟩ dX4_readMan_161 (fun r_73 M_74 H locs hp_74 hw => ?_)
      obtain ⟨iM_74, q_75, q_76, q_77⟩ := hp_74
      refine ti_putI (ci := 2) (k := 7) (N := 10) (T := TX2) C hw iw_2 tyX2 tyX2_ok nmX2 rfl ob_9 (by decide) (by decide) fl_X4_132 rfl rfl rfl rfl (fn_2 A _) fs_2_7 dX4_readMan_164 (fun H locs hw => ?_)
      obtain ⟨M_78, hM_78⟩ : ∃ z : ti_M, z = uI M_74 (ti_men t x_1.toNatClampNeg) 7 r_73 := ⟨_, rfl⟩
      have hw := hw.to hM_78.symm
      have iM_78 : cI Tc M_78 := cI_uI iM_74 hM_78 ob_9.1 trivial
      refine lv_aload_n hx hb dX4_readMan_167 rfl (lv_at hl 0 rfl) ?_
      refine lv_aload_n hx hb dX4_readMan_168 rfl (lv_at hl 1 rfl) ?_
      refine ti_get (ci := 4) (k := 0) (N := 6) (T := TX4) (v := .ref (A 2 0)) C hw iw_4 rfl ob_1 (by decide) (by decide) fl_X4_12 rfl rfl dX4_readMan_169 ?_
      refine ti_get (ci := 7) (k := 4) (N := 7) (T := TX7) C hw iw_7 rfl ob_2 (by decide) (by decide) fl_X4_41 rfl rfl dX4_readMan_172 ?_
      refine lv_topi (fun x_79 ex_79 => ?_)
      have bx_79 : 0 ≤ x_79.toInt ∧ x_79.toInt ≤ 41 := cI_rd iM_78 ob_2.1 ex_79
      have ux_79 : (tI M_78 2 4).toInt = x_79.toInt := by rw [ex_79]
      refine lv_bipush (v := 15) hx hb dX4_readMan_175 (by decide) ?_
      have hj_185_83 : ∀ (x_81 : Int32) (H : Heap) (locs : List Loc) (ls : Array Slot), (0 ≤ x_81.toInt) → (x_81.toInt ≤ 1) → ti_H ti_LT D A cy H0 M_78 H locs → lv_has ls 2 [(1, .ref (A (ti_men t x_1.toNatClampNeg) 0)), (0, .ref (A 1 0))] → W p l e (ti_rm 8) s m args below meth c H locs 0 0 Q (F0 m 185 ls [.int x_81, .ref (A (ti_men t x_1.toNatClampNeg) 0)]) := by
        intro x_81 H locs ls b_82 b_83 hw hl
        refine ti_putI (ci := 2) (k := 8) (N := 10) (T := TX2) C hw iw_2 tyX2 tyX2_ok nmX2 rfl ob_9 (by decide) (by decide) fl_X4_135 rfl rfl (nar_b (by omega) (by omega)) (fit_b (by omega) (by omega)) (fn_2 A _) fs_2_8 dX4_readMan_185 (fun H locs hw => ?_)
        obtain ⟨M_84, hM_84⟩ : ∃ z : ti_M, z = uI M_78 (ti_men t x_1.toNatClampNeg) 8 x_81 := ⟨_, rfl⟩
        have hw := hw.to hM_84.symm
        have iM_84 : cI Tc M_84 := cI_uI iM_78 hM_84 ob_9.1 trivial
        refine lv_aload_n hx hb dX4_readMan_188 rfl (lv_at hl 0 rfl) ?_
        refine ti_get (ci := 2) (k := 8) (N := 10) (T := TX2) C hw iw_2 rfl ob_9 (by decide) (by decide) fl_X4_135 rfl rfl dX4_readMan_189 ?_
        refine ti_top (y := x_81) (tI_uE hM_84) ?_
        have hj_202_95 : ∀ (M_91 : ti_M) (H : Heap) (locs : List Loc) (ls : Array Slot), (cI Tc M_91) → (M_91.2.2.2 = M.2.2.2) → (f0 M_91 M) → (tI M_91 2 1 = tI M 2 1) → (tI M_91 t 4 = x_1) → ti_H ti_LT D A cy H0 M_91 H locs → lv_has ls 2 [(1, .ref (A (ti_men t x_1.toNatClampNeg) 0)), (0, .ref (A 1 0))] → W p l e (ti_rm 8) s m args below meth c H locs 0 0 Q (F0 m 202 ls []) := by
          intro M_91 H locs ls iM_91 f_92 f_93 f_94 f_95 hw hl
          refine lv_aload_n hx hb dX4_readMan_202 rfl (lv_at hl 0 rfl) ?_
          refine lv_iconst (v := (-1)) hx hb dX4_readMan_203 (by decide) ?_
          refine ti_putI (ci := 2) (k := 9) (N := 10) (T := TX2) C hw iw_2 tyX2 tyX2_ok nmX2 rfl ob_9 (by decide) (by decide) fl_X4_139 rfl rfl rfl rfl (fn_2 A _) fs_2_9 dX4_readMan_204 (fun H locs hw => ?_)
          obtain ⟨M_96, hM_96⟩ : ∃ z : ti_M, z = uI M_91 (ti_men t x_1.toNatClampNeg) 9 (-1) := ⟨_, rfl⟩
          have hw := hw.to hM_96.symm
          have iM_96 : cI Tc M_96 := cI_uI iM_91 hM_96 ob_9.1 trivial
          refine lv_aload_n hx hb dX4_readMan_207 rfl (lv_at hl 1 rfl) ?_
          refine ti_get (ci := 4) (k := 1) (N := 6) (T := TX4) (v := .ref (A t 0)) C hw iw_4 rfl ob_1 (by decide) (by decide) fl_X4_28 rfl (ti_Tv ((tT_uIE hM_96).trans ((tT_fr f_92).trans hT))) dX4_readMan_208 ?_
          refine lv_dup hx hb dX4_readMan_211 rfl ?_
          refine ti_get (ci := 8) (k := 4) (N := 12) (T := TX8) C hw iw_8 rfl (ob_t ht) (by decide) (by decide) fl_X4_98 rfl rfl dX4_readMan_212 ?_
          refine ti_top (y := x_1) ((tI_nE hM_96 (nk (by decide))).trans f_95) ?_
          have u_97 : (tI M_96 t 4).toInt = (x_1 : Int32).toInt := by rw [((tI_nE hM_96 (nk (by decide))).trans f_95)]
          refine lv_iconst (v := 1) hx hb dX4_readMan_215 (by decide) ?_
          refine lv_iadd hx hb dX4_readMan_216 ?_
          refine lv_topi (fun x_98 ex_98 => ?_)
          have tx_98 : x_98.toInt = x_1.toInt + 1 := i_add ex_98 rfl (by decide : (1 : Int32).toInt = 1) (by omega) (by omega)
          refine ti_putI (ci := 8) (k := 4) (N := 12) (T := TX8) C hw iw_8 tyX8 tyX8_ok nmX8 rfl (ob_t ht) (by decide) (by decide) fl_X4_98 rfl rfl rfl rfl (fn_8 A _) fs_8_4 dX4_readMan_217 (fun H locs hw => ?_)
          obtain ⟨M_99, hM_99⟩ : ∃ z : ti_M, z = uI M_96 t 4 x_98 := ⟨_, rfl⟩
          have hw := hw.to hM_99.symm
          have iM_99 : cI Tc M_99 := cI_uI iM_96 hM_99 (ob_t ht).1 (ib_mk (lo := 0) (hi := 8) (by omega) (by omega))
          have vM_99 : (tI M_99 t 4).toInt = (x_98 : Int32).toInt := by rw [tI_uE hM_99]
          exact hQ _ _ _ _ _ hw (⟨iM_99, ((rf_I hM_99).trans ((rf_I hM_96).trans f_92)), (f0.trans (f0_I hM_99 (f0n (ob_t ht).1 (by decide))) (f0.trans (f0_I hM_96 (f0n ob_9.1 (by decide))) f_93)), ((tI_nE hM_99 (nk (by decide))).trans ((tI_nE hM_96 (nk (by decide))).trans f_94))⟩) dX4_readMan_220
        refine sb_if_eq (tgt := 202) hx hb rfl dX4_readMan_192 (by decide) (fun c_192_84 => ?_) (fun c_192_84 => ?_)
        · exact hj_202_95 M_84 _ _ _ iM_84 ((rf_I hM_84).trans ((rf_I hM_78).trans ((q_75).trans ((rf_I hM_72).trans ((q_69).trans ((rf_I hM_66).trans ((q_63).trans ((rf_I hM_60).trans ((q_57).trans ((rf_I hM_54).trans ((q_51).trans ((rf_I hM_48).trans ((q_45).trans ((rf_I hM_42).trans ((q_39).trans ((q_34).trans f_28)))))))))))))))) (f0.trans (f0_I hM_84 (f0n ob_9.1 (by decide))) (f0.trans (f0_I hM_78 (f0n ob_9.1 (by decide))) (f0.trans (f0_12 q_76) (f0.trans (f0_I hM_72 (f0n ob_9.1 (by decide))) (f0.trans (f0_12 q_70) (f0.trans (f0_I hM_66 (f0n ob_9.1 (by decide))) (f0.trans (f0_12 q_64) (f0.trans (f0_I hM_60 (f0n ob_9.1 (by decide))) (f0.trans (f0_12 q_58) (f0.trans (f0_I hM_54 (f0n ob_9.1 (by decide))) (f0.trans (f0_12 q_52) (f0.trans (f0_I hM_48 (f0n ob_9.1 (by decide))) (f0.trans (f0_12 q_46) (f0.trans (f0_I hM_42 (f0n ob_9.1 (by decide))) (f0.trans (f0_12 q_40) (f0.trans (f0_12 q_35) f_29)))))))))))))))) ((tI_nE hM_84 (nk (by decide))).trans ((tI_nE hM_78 (nk (by decide))).trans ((q_77).trans ((tI_nE hM_72 (nk (by decide))).trans ((q_71).trans ((tI_nE hM_66 (nk (by decide))).trans ((q_65).trans ((tI_nE hM_60 (nk (by decide))).trans ((q_59).trans ((tI_nE hM_54 (nk (by decide))).trans ((q_53).trans ((tI_nE hM_48 (nk (by decide))).trans ((q_47).trans ((tI_nE hM_42 (no (cls_ne ob_2.1 ob_9.1 (by decide)))).trans ((q_41).trans ((q_36).trans f_30)))))))))))))))) ((tI_nE hM_84 (nk (by decide))).trans ((tI_nE hM_78 (nk (by decide))).trans ((q_76 t 4 (cls_ne (ob_t ht).1 ob_1.1 (by decide)) (cls_ne (ob_t ht).1 ob_2.1 (by decide))).trans ((tI_nE hM_72 (nk (by decide))).trans ((q_70 t 4 (cls_ne (ob_t ht).1 ob_1.1 (by decide)) (cls_ne (ob_t ht).1 ob_2.1 (by decide))).trans ((tI_nE hM_66 (nk (by decide))).trans ((q_64 t 4 (cls_ne (ob_t ht).1 ob_1.1 (by decide)) (cls_ne (ob_t ht).1 ob_2.1 (by decide))).trans ((tI_nE hM_60 (no (cls_ne (ob_t ht).1 ob_9.1 (by decide)))).trans ((q_58 t 4 (cls_ne (ob_t ht).1 ob_1.1 (by decide)) (cls_ne (ob_t ht).1 ob_2.1 (by decide))).trans ((tI_nE hM_54 (nk (by decide))).trans ((q_52 t 4 (cls_ne (ob_t ht).1 ob_1.1 (by decide)) (cls_ne (ob_t ht).1 ob_2.1 (by decide))).trans ((tI_nE hM_48 (nk (by decide))).trans ((q_46 t 4 (cls_ne (ob_t ht).1 ob_1.1 (by decide)) (cls_ne (ob_t ht).1 ob_2.1 (by decide))).trans ((tI_nE hM_42 (nk (by decide))).trans ((q_40 t 4 (cls_ne (ob_t ht).1 ob_1.1 (by decide)) (cls_ne (ob_t ht).1 ob_2.1 (by decide))).trans ((q_35 t 4 (cls_ne (ob_t ht).1 ob_1.1 (by decide)) (cls_ne (ob_t ht).1 ob_2.1 (by decide))).trans f_31)))))))))))))))) hw (lv_sub hl [0, 1] rfl)
        · refine lv_aload_n hx hb dX4_readMan_195 rfl (lv_at hl 1 rfl) ?_
          refine ti_get (ci := 4) (k := 0) (N := 6) (T := TX4) (v := .ref (A 2 0)) C hw iw_4 rfl ob_1 (by decide) (by decide) fl_X4_12 rfl rfl dX4_readMan_196 ?_
          refine ti_callVvE (ci := 7) (av := []) C hE hw (s_X7_advance l D A cy hJ M_84 iM_84 ) ⟨ml_X4_92, ym_X7_advance, yv_X7_advance, yi_X7_advance, yc_X7_advance⟩ yd_X7_advance ob_2 (by decide) rfl rfl hl.1 (Nat.le_of_ble_eq_true rfl) ⟨by decide, by decide⟩ ⟨Nat.zero_le _, Nat.zero_le _⟩ dX4_readMan_199 (fun M_87 H locs hp_87 hw => ?_)
          obtain ⟨iM_87, q_88, q_89, q_90⟩ := hp_87
          exact hj_202_95 M_87 _ _ _ iM_87 ((q_88).trans ((rf_I hM_84).trans ((rf_I hM_78).trans ((q_75).trans ((rf_I hM_72).trans ((q_69).trans ((rf_I hM_66).trans ((q_63).trans ((rf_I hM_60).trans ((q_57).trans ((rf_I hM_54).trans ((q_51).trans ((rf_I hM_48).trans ((q_45).trans ((rf_I hM_42).trans ((q_39).trans ((q_34).trans f_28))))))))))))))))) (f0.trans (f0_12 q_89) (f0.trans (f0_I hM_84 (f0n ob_9.1 (by decide))) (f0.trans (f0_I hM_78 (f0n ob_9.1 (by decide))) (f0.trans (f0_12 q_76) (f0.trans (f0_I hM_72 (f0n ob_9.1 (by decide))) (f0.trans (f0_12 q_70) (f0.trans (f0_I hM_66 (f0n ob_9.1 (by decide))) (f0.trans (f0_12 q_64) (f0.trans (f0_I hM_60 (f0n ob_9.1 (by decide))) (f0.trans (f0_12 q_58) (f0.trans (f0_I hM_54 (f0n ob_9.1 (by decide))) (f0.trans (f0_12 q_52) (f0.trans (f0_I hM_48 (f0n ob_9.1 (by decide))) (f0.trans (f0_12 q_46) (f0.trans (f0_I hM_42 (f0n ob_9.1 (by decide))) (f0.trans (f0_12 q_40) (f0.trans (f0_12 q_35) f_29))))))))))))))))) ((q_90).trans ((tI_nE hM_84 (nk (by decide))).trans ((tI_nE hM_78 (nk (by decide))).trans ((q_77).trans ((tI_nE hM_72 (nk (by decide))).trans ((q_71).trans ((tI_nE hM_66 (nk (by decide))).trans ((q_65).trans ((tI_nE hM_60 (nk (by decide))).trans ((q_59).trans ((tI_nE hM_54 (nk (by decide))).trans ((q_53).trans ((tI_nE hM_48 (nk (by decide))).trans ((q_47).trans ((tI_nE hM_42 (no (cls_ne ob_2.1 ob_9.1 (by decide)))).trans ((q_41).trans ((q_36).trans f_30))))))))))))))))) ((q_89 t 4 (cls_ne (ob_t ht).1 ob_1.1 (by decide)) (cls_ne (ob_t ht).1 ob_2.1 (by decide))).trans ((tI_nE hM_84 (nk (by decide))).trans ((tI_nE hM_78 (nk (by decide))).trans ((q_76 t 4 (cls_ne (ob_t ht).1 ob_1.1 (by decide)) (cls_ne (ob_t ht).1 ob_2.1 (by decide))).trans ((tI_nE hM_72 (nk (by decide))).trans ((q_70 t 4 (cls_ne (ob_t ht).1 ob_1.1 (by decide)) (cls_ne (ob_t ht).1 ob_2.1 (by decide))).trans ((tI_nE hM_66 (nk (by decide))).trans ((q_64 t 4 (cls_ne (ob_t ht).1 ob_1.1 (by decide)) (cls_ne (ob_t ht).1 ob_2.1 (by decide))).trans ((tI_nE hM_60 (no (cls_ne (ob_t ht).1 ob_9.1 (by decide)))).trans ((q_58 t 4 (cls_ne (ob_t ht).1 ob_1.1 (by decide)) (cls_ne (ob_t ht).1 ob_2.1 (by decide))).trans ((tI_nE hM_54 (nk (by decide))).trans ((q_52 t 4 (cls_ne (ob_t ht).1 ob_1.1 (by decide)) (cls_ne (ob_t ht).1 ob_2.1 (by decide))).trans ((tI_nE hM_48 (nk (by decide))).trans ((q_46 t 4 (cls_ne (ob_t ht).1 ob_1.1 (by decide)) (cls_ne (ob_t ht).1 ob_2.1 (by decide))).trans ((tI_nE hM_42 (nk (by decide))).trans ((q_40 t 4 (cls_ne (ob_t ht).1 ob_1.1 (by decide)) (cls_ne (ob_t ht).1 ob_2.1 (by decide))).trans ((q_35 t 4 (cls_ne (ob_t ht).1 ob_1.1 (by decide)) (cls_ne (ob_t ht).1 ob_2.1 (by decide))).trans f_31))))))))))))))))) hw (lv_sub hl [0, 1] rfl)
      refine sb_icmp_ne (tgt := 184) hx hb rfl (by decide : (15 : Int32).toInt = 15) dX4_readMan_177 (by decide) (fun c_177_79 => ?_) (fun c_177_79 => ?_)
      · refine lv_iconst (v := 0) hx hb dX4_readMan_184 (by decide) ?_
        exact hj_185_83 0 _ _ _ (by have lt0 : (0 : Int32).toInt = 0 := (by decide); first | omega | decide) (by have lt0 : (0 : Int32).toInt = 0 := (by decide); first | omega | decide) hw (lv_sub hl [0, 1] rfl)
      · refine lv_iconst (v := 1) hx hb dX4_readMan_180 (by decide) ?_
        refine lv_goto (tgt := 185) hx hb dX4_readMan_181 (by decide) ?_
        exact hj_185_83 1 _ _ _ (by have lt0 : (1 : Int32).toInt = 1 := (by decide); first | omega | decide) (by have lt0 : (1 : Int32).toInt = 1 := (by decide); first | omega | decide) hw (lv_sub hl [0, 1] rfl)
    refine sb_icmp_ne (tgt := 84) hx hb rfl (by decide : (25 : Int32).toInt = 25) dX4_readMan_61 (by decide) (fun c_61_17 => ?_) (fun c_61_17 => ?_)
    · exact hj_84_31 M_16 _ _ _ iM_16 ((rf_I hM_16).trans q_12) (f0.trans (f0_I hM_16 (f0n ob_9.1 (by decide))) (f0_12 q_13)) ((tI_nE hM_16 (nk (by decide))).trans q_14) ((tI_nE hM_16 (nk (by decide))).trans ((q_13 t 4 (cls_ne (ob_t ht).1 ob_1.1 (by decide)) (cls_ne (ob_t ht).1 ob_2.1 (by decide))).trans ex_1.symm)) hw (lv_sub hl [0, 1] rfl)
    · refine lv_aload_n hx hb dX4_readMan_64 rfl (lv_at hl 1 rfl) ?_
      refine ti_get (ci := 4) (k := 1) (N := 6) (T := TX4) (v := .ref (A t 0)) C hw iw_4 rfl ob_1 (by decide) (by decide) fl_X4_28 rfl (ti_Tv ((tT_uIE hM_16).trans ((tT_fr q_12).trans hT))) dX4_readMan_65 ?_
      refine lv_aload_n hx hb dX4_readMan_68 rfl (lv_at hl 0 rfl) ?_
      refine ti_get (ci := 2) (k := 0) (N := 10) (T := TX2) C hw iw_2 rfl ob_9 (by decide) (by decide) fl_X4_105 rfl rfl dX4_readMan_69 ?_
      refine ti_top (y := x_15) (tI_uE hM_16) ?_
      refine ti_callVi (ci := 8) (av := [.int x_15]) C hw (s_X8_find l D A cy hJ M_16 iM_16 t ht x_15) ⟨ml_X4_110, ym_X8_find, yv_X8_find, yi_X8_find, yc_X8_find⟩ yd_X8_find (ob_t ht) (by decide) rfl rfl hl.1 (Nat.le_of_ble_eq_true rfl) ⟨by decide, by decide⟩ ⟨Nat.zero_le _, Nat.zero_le _⟩ dX4_readMan_72 (fun r_19 M_20 H locs hp_20 hw => ?_)
      obtain ⟨hm, b0r_19, b1r_19⟩ := hp_20
      have hw := hw.to hm
      refine lv_iconst (v := (-1)) hx hb dX4_readMan_75 (by decide) ?_
      refine sb_icmp_eq (tgt := 84) hx hb rfl (by decide : ((-1) : Int32).toInt = (-1)) dX4_readMan_76 (by decide) (fun c_76_20 => ?_) (fun c_76_20 => ?_)
      · exact hj_84_31 M_16 _ _ _ iM_16 ((rf_I hM_16).trans q_12) (f0.trans (f0_I hM_16 (f0n ob_9.1 (by decide))) (f0_12 q_13)) ((tI_nE hM_16 (nk (by decide))).trans q_14) ((tI_nE hM_16 (nk (by decide))).trans ((q_13 t 4 (cls_ne (ob_t ht).1 ob_1.1 (by decide)) (cls_ne (ob_t ht).1 ob_2.1 (by decide))).trans ex_1.symm)) hw (lv_sub hl [0, 1] rfl)
      · refine lv_aload_n hx hb dX4_readMan_79 rfl (lv_at hl 1 rfl) ?_
        refine lv_iconst (v := 3) hx hb dX4_readMan_80 (by decide) ?_
        refine ti_callVv (ci := 4) (av := [.int 3]) C hw (s_X4_refuse l D A cy hJ M_16 iM_16 3) ⟨ml_X4_82, ym_X4_refuse, yv_X4_refuse, yi_X4_refuse, yc_X4_refuse⟩ yd_X4_refuse ob_1 (by decide) rfl rfl hl.1 (Nat.le_of_ble_eq_true rfl) ⟨by decide, by decide⟩ ⟨Nat.zero_le _, Nat.zero_le _⟩ dX4_readMan_81 (fun M_23 H locs hp_23 hw => ?_)
        obtain ⟨iM_23, q_24, q_25, q_26⟩ := hp_23
        exact hj_84_31 M_23 _ _ _ iM_23 ((q_24).trans ((rf_I hM_16).trans q_12)) (f0.trans (f0_12 q_25) (f0.trans (f0_I hM_16 (f0n ob_9.1 (by decide))) (f0_12 q_13))) ((q_26).trans ((tI_nE hM_16 (nk (by decide))).trans q_14)) ((q_25 t 4 (cls_ne (ob_t ht).1 ob_1.1 (by decide)) (cls_ne (ob_t ht).1 ob_2.1 (by decide))).trans ((tI_nE hM_16 (nk (by decide))).trans ((q_13 t 4 (cls_ne (ob_t ht).1 ob_1.1 (by decide)) (cls_ne (ob_t ht).1 ob_2.1 (by decide))).trans ex_1.symm))) hw (lv_sub hl [0, 1] rfl)
  · refine lv_aload_n hx hb dX4_readMan_12 rfl (lv_at hl 0 rfl) ?_
    refine lv_iconst (v := 2) hx hb dX4_readMan_13 (by decide) ?_
    refine ti_callVv (ci := 4) (av := [.int 2]) C hw (s_X4_refuse l D A cy hJ M hI 2) ⟨ml_X4_82, ym_X4_refuse, yv_X4_refuse, yi_X4_refuse, yc_X4_refuse⟩ yd_X4_refuse ob_1 (by decide) rfl rfl hl.1 (Nat.le_of_ble_eq_true rfl) ⟨by decide, by decide⟩ ⟨Nat.zero_le _, Nat.zero_le _⟩ dX4_readMan_14 (fun M_4 H locs hp_4 hw => ?_)
    obtain ⟨iM_4, q_5, q_6, q_7⟩ := hp_4
    exact hQ _ _ _ _ _ hw (⟨iM_4, (q_5), (f0_12 q_6), (q_7)⟩) dX4_readMan_17
set_option maxHeartbeats 4000000 in
set_option maxRecDepth 100000 in
theorem s_X4_readGuard (l : Launch) (D : va_G) (A : Nat → Nat → Nat) (cy : Nat → ClassId) (hJ : ti_inj ti_LT A) (M : ti_M) (hI : cI Tc M) (t : Nat) (ht : t = 3 ∨ t = 4) (hT : tT M 1 1 = some t) : ti_KvE l yX4_readGuard cX4_readGuard 3 8 ti_LT D A cy M [.ref (A 1 0)] (fun M2 => cI Tc M2 ∧ M2.2.2.2 = M.2.2.2 ∧ f0 M2 M ∧ tI M2 2 1 = tI M 2 1) := by
  refine ti_eVE yp_X4_readGuard hJ ti_LT_nd (Nat.le_of_ble_eq_true rfl) ?_
  intro p e s m args below meth c Q H0 C hE hQ hw ls hl
  have hx := C.1
  have hb := C.2.1
  have hl : lv_has ls 3 [(0, .ref (A 1 0))] := hl
  refine lv_aload_n hx hb dX4_readGuard_0 rfl (lv_at hl 0 rfl) ?_
  refine ti_get (ci := 4) (k := 0) (N := 6) (T := TX4) (v := .ref (A 2 0)) C hw iw_4 rfl ob_1 (by decide) (by decide) fl_X4_12 rfl rfl dX4_readGuard_1 ?_
  refine ti_callVvE (ci := 7) (av := []) C hE hw (s_X7_advance l D A cy hJ M hI ) ⟨ml_X4_92, ym_X7_advance, yv_X7_advance, yi_X7_advance, yc_X7_advance⟩ yd_X7_advance ob_2 (by decide) rfl rfl hl.1 (Nat.le_of_ble_eq_true rfl) ⟨by decide, by decide⟩ ⟨Nat.zero_le _, Nat.zero_le _⟩ dX4_readGuard_4 (fun M_2 H locs hp_2 hw => ?_)
  obtain ⟨iM_2, q_3, q_4, q_5⟩ := hp_2
  refine lv_aload_n hx hb dX4_readGuard_7 rfl (lv_at hl 0 rfl) ?_
  refine ti_callVi (ci := 4) (av := []) C hw (s_X4_toldMan l D A cy hJ M_2 iM_2 t ht ((tT_fr q_3).trans hT)) ⟨ml_X4_142, ym_X4_toldMan, yv_X4_toldMan, yi_X4_toldMan, yc_X4_toldMan⟩ yd_X4_toldMan ob_1 (by decide) rfl rfl hl.1 (Nat.le_of_ble_eq_true rfl) ⟨by decide, by decide⟩ ⟨Nat.zero_le _, Nat.zero_le _⟩ dX4_readGuard_8 (fun r_6 M_7 H locs hp_7 hw => ?_)
  obtain ⟨iM_7, q_8, q_9, q_10, b0r_6, b1r_6⟩ := hp_7
  refine lv_istore_n (lv' := [(1, .int r_6), (0, .ref (A 1 0))]) hx hb dX4_readGuard_11 rfl hl (by decide) rfl (fun ls hl => ?_)
  refine lv_iload_n hx hb dX4_readGuard_12 rfl (lv_at hl 0 rfl) ?_
  refine lv_iconst (v := (-1)) hx hb dX4_readGuard_13 (by decide) ?_
  refine sb_icmp_ne (tgt := 18) hx hb rfl (by decide : ((-1) : Int32).toInt = (-1)) dX4_readGuard_14 (by decide) (fun c_14_10 => ?_) (fun c_14_10 => ?_)
  · refine lv_aload_n hx hb dX4_readGuard_18 rfl (lv_at hl 1 rfl) ?_
    refine ti_get (ci := 4) (k := 1) (N := 6) (T := TX4) (v := .ref (A t 0)) C hw iw_4 rfl ob_1 (by decide) (by decide) fl_X4_28 rfl (ti_Tv ((tT_fr q_8).trans ((tT_fr q_3).trans hT))) dX4_readGuard_19 ?_
    refine ti_get (ci := 8) (k := 0) (N := 12) (T := TX8) (v := .ref (A t 1)) C hw iw_8 rfl (ob_t ht) (by decide) (by decide) fl_X4_101 rfl rfl dX4_readGuard_22 ?_
    refine lv_iload_n hx hb dX4_readGuard_25 rfl (lv_at hl 0 rfl) ?_
    refine ti_aald (ci := 8) (k := 0) (n := 8) (t0 := 5) (Cn := RX2) (gg := (ti_men t)) (j := r_6.toNatClampNeg) C hw (ob_t ht) (by decide) (fun _ _ => rfl) rfl (vp_in_iff.mpr (by omega)) rfl dX4_readGuard_26 ?_
    have ob_12 : ti_ob ti_LT (ti_men t r_6.toNatClampNeg) 2 := ob_m ht (i_nt rfl (by omega) (by omega))
    refine ti_get (ci := 2) (k := 9) (N := 10) (T := TX2) C hw iw_2 rfl ob_12 (by decide) (by decide) fl_X4_139 rfl rfl dX4_readGuard_27 ?_
    refine lv_topi (fun x_13 ex_13 => ?_)
    refine lv_iconst (v := (-1)) hx hb dX4_readGuard_30 (by decide) ?_
    have hj_39_23 : ∀ (M_20 : ti_M) (H : Heap) (locs : List Loc) (ls : Array Slot), (cI Tc M_20) → (M_20.2.2.2 = M.2.2.2) → (f0 M_20 M) → (tI M_20 2 1 = tI M 2 1) → ti_H ti_LT D A cy H0 M_20 H locs → lv_has ls 3 [(1, .int r_6), (0, .ref (A 1 0))] → W p l e (ti_rm 8) s m args below meth c H locs 0 0 Q (F0 m 39 ls []) := by
      intro M_20 H locs ls iM_20 f_21 f_22 f_23 hw hl
      refine lv_aload_n hx hb dX4_readGuard_39 rfl (lv_at hl 1 rfl) ?_
      refine lv_bipush (v := 25) hx hb dX4_readGuard_40 (by decide) ?_
      refine ti_callVvE (ci := 4) (av := [.int 25]) C hE hw (s_X4_take l D A cy hJ M_20 iM_20 25) ⟨ml_X4_85, ym_X4_take, yv_X4_take, yi_X4_take, yc_X4_take⟩ yd_X4_take ob_1 (by decide) rfl rfl hl.1 (Nat.le_of_ble_eq_true rfl) ⟨by decide, by decide⟩ ⟨Nat.zero_le _, Nat.zero_le _⟩ dX4_readGuard_42 (fun M_25 H locs hp_25 hw => ?_)
      obtain ⟨iM_25, q_26, q_27, q_28⟩ := hp_25
      refine lv_aload_n hx hb dX4_readGuard_45 rfl (lv_at hl 1 rfl) ?_
      refine ti_callVi (ci := 4) (av := []) C hw (s_X4_toldMan l D A cy hJ M_25 iM_25 t ht ((tT_fr q_26).trans ((tT_fr f_21).trans hT))) ⟨ml_X4_142, ym_X4_toldMan, yv_X4_toldMan, yi_X4_toldMan, yc_X4_toldMan⟩ yd_X4_toldMan ob_1 (by decide) rfl rfl hl.1 (Nat.le_of_ble_eq_true rfl) ⟨by decide, by decide⟩ ⟨Nat.zero_le _, Nat.zero_le _⟩ dX4_readGuard_46 (fun r_29 M_30 H locs hp_30 hw => ?_)
      obtain ⟨iM_30, q_31, q_32, q_33, b0r_29, b1r_29⟩ := hp_30
      refine lv_istore_n (lv' := [(2, .int r_29), (1, .int r_6), (0, .ref (A 1 0))]) hx hb dX4_readGuard_49 rfl hl (by decide) rfl (fun ls hl => ?_)
      refine lv_iload_n hx hb dX4_readGuard_50 rfl (lv_at hl 0 rfl) ?_
      refine lv_iload_n hx hb dX4_readGuard_51 rfl (lv_at hl 1 rfl) ?_
      have hj_60_43 : ∀ (M_40 : ti_M) (H : Heap) (locs : List Loc) (ls : Array Slot), (cI Tc M_40) → (M_40.2.2.2 = M.2.2.2) → (f0 M_40 M) → (tI M_40 2 1 = tI M 2 1) → ti_H ti_LT D A cy H0 M_40 H locs → lv_has ls 3 [(2, .int r_29), (1, .int r_6), (0, .ref (A 1 0))] → W p l e (ti_rm 8) s m args below meth c H locs 0 0 Q (F0 m 60 ls []) := by
        intro M_40 H locs ls iM_40 f_41 f_42 f_43 hw hl
        refine lv_aload_n hx hb dX4_readGuard_60 rfl (lv_at hl 2 rfl) ?_
        refine lv_bipush (v := 25) hx hb dX4_readGuard_61 (by decide) ?_
        refine ti_callVvE (ci := 4) (av := [.int 25]) C hE hw (s_X4_take l D A cy hJ M_40 iM_40 25) ⟨ml_X4_85, ym_X4_take, yv_X4_take, yi_X4_take, yc_X4_take⟩ yd_X4_take ob_1 (by decide) rfl rfl hl.1 (Nat.le_of_ble_eq_true rfl) ⟨by decide, by decide⟩ ⟨Nat.zero_le _, Nat.zero_le _⟩ dX4_readGuard_63 (fun M_45 H locs hp_45 hw => ?_)
        obtain ⟨iM_45, q_46, q_47, q_48⟩ := hp_45
        refine lv_aload_n hx hb dX4_readGuard_66 rfl (lv_at hl 2 rfl) ?_
        refine ti_get (ci := 4) (k := 1) (N := 6) (T := TX4) (v := .ref (A t 0)) C hw iw_4 rfl ob_1 (by decide) (by decide) fl_X4_28 rfl (ti_Tv ((tT_fr q_46).trans ((tT_fr f_41).trans hT))) dX4_readGuard_67 ?_
        refine ti_get (ci := 8) (k := 0) (N := 12) (T := TX8) (v := .ref (A t 1)) C hw iw_8 rfl (ob_t ht) (by decide) (by decide) fl_X4_101 rfl rfl dX4_readGuard_70 ?_
        refine lv_iload_n hx hb dX4_readGuard_73 rfl (lv_at hl 1 rfl) ?_
        refine ti_aald (ci := 8) (k := 0) (n := 8) (t0 := 5) (Cn := RX2) (gg := (ti_men t)) (j := r_6.toNatClampNeg) C hw (ob_t ht) (by decide) (fun _ _ => rfl) rfl (vp_in_iff.mpr (by omega)) rfl dX4_readGuard_74 ?_
        refine lv_iload_n hx hb dX4_readGuard_75 rfl (lv_at hl 0 rfl) ?_
        refine ti_putI (ci := 2) (k := 9) (N := 10) (T := TX2) C hw iw_2 tyX2 tyX2_ok nmX2 rfl ob_12 (by decide) (by decide) fl_X4_139 rfl rfl rfl rfl (fn_2 A _) fs_2_9 dX4_readGuard_76 (fun H locs hw => ?_)
        obtain ⟨M_49, hM_49⟩ : ∃ z : ti_M, z = uI M_45 (ti_men t r_6.toNatClampNeg) 9 r_29 := ⟨_, rfl⟩
        have hw := hw.to hM_49.symm
        have iM_49 : cI Tc M_49 := cI_uI iM_45 hM_49 ob_12.1 trivial
        exact hQ _ _ _ _ _ hw (⟨iM_49, ((rf_I hM_49).trans ((q_46).trans f_41)), (f0.trans (f0_I hM_49 (f0n ob_12.1 (by decide))) (f0.trans (f0_12 q_47) f_42)), ((tI_nE hM_49 (nk (by decide))).trans ((q_48).trans f_43))⟩) dX4_readGuard_79
      refine sb_icmp_ne (tgt := 60) hx hb rfl rfl dX4_readGuard_52 (by decide) (fun c_52_33 => ?_) (fun c_52_33 => ?_)
      · exact hj_60_43 M_30 _ _ _ iM_30 ((q_31).trans ((q_26).trans f_21)) (f0.trans (f0_12 q_32) (f0.trans (f0_12 q_27) f_22)) ((q_33).trans ((q_28).trans f_23)) hw (lv_sub hl [0, 1, 2] rfl)
      · refine lv_aload_n hx hb dX4_readGuard_55 rfl (lv_at hl 2 rfl) ?_
        refine lv_iconst (v := 5) hx hb dX4_readGuard_56 (by decide) ?_
        refine ti_callVv (ci := 4) (av := [.int 5]) C hw (s_X4_refuse l D A cy hJ M_30 iM_30 5) ⟨ml_X4_82, ym_X4_refuse, yv_X4_refuse, yi_X4_refuse, yc_X4_refuse⟩ yd_X4_refuse ob_1 (by decide) rfl rfl hl.1 (Nat.le_of_ble_eq_true rfl) ⟨by decide, by decide⟩ ⟨Nat.zero_le _, Nat.zero_le _⟩ dX4_readGuard_57 (fun M_36 H locs hp_36 hw => ?_)
        obtain ⟨iM_36, q_37, q_38, q_39⟩ := hp_36
        exact hj_60_43 M_36 _ _ _ iM_36 ((q_37).trans ((q_31).trans ((q_26).trans f_21))) (f0.trans (f0_12 q_38) (f0.trans (f0_12 q_32) (f0.trans (f0_12 q_27) f_22))) ((q_39).trans ((q_33).trans ((q_28).trans f_23))) hw (lv_sub hl [0, 1, 2] rfl)
    refine sb_icmp_eq (tgt := 39) hx hb rfl (by decide : ((-1) : Int32).toInt = (-1)) dX4_readGuard_31 (by decide) (fun c_31_13 => ?_) (fun c_31_13 => ?_)
    · exact hj_39_23 M_7 _ _ _ iM_7 ((q_8).trans q_3) (f0.trans (f0_12 q_9) (f0_12 q_4)) ((q_10).trans q_5) hw (lv_sub hl [0, 1] rfl)
    · refine lv_aload_n hx hb dX4_readGuard_34 rfl (lv_at hl 1 rfl) ?_
      refine lv_iconst (v := 3) hx hb dX4_readGuard_35 (by decide) ?_
      refine ti_callVv (ci := 4) (av := [.int 3]) C hw (s_X4_refuse l D A cy hJ M_7 iM_7 3) ⟨ml_X4_82, ym_X4_refuse, yv_X4_refuse, yi_X4_refuse, yc_X4_refuse⟩ yd_X4_refuse ob_1 (by decide) rfl rfl hl.1 (Nat.le_of_ble_eq_true rfl) ⟨by decide, by decide⟩ ⟨Nat.zero_le _, Nat.zero_le _⟩ dX4_readGuard_36 (fun M_16 H locs hp_16 hw => ?_)
      obtain ⟨iM_16, q_17, q_18, q_19⟩ := hp_16
      exact hj_39_23 M_16 _ _ _ iM_16 ((q_17).trans ((q_8).trans q_3)) (f0.trans (f0_12 q_18) (f0.trans (f0_12 q_9) (f0_12 q_4))) ((q_19).trans ((q_10).trans q_5)) hw (lv_sub hl [0, 1] rfl)
  · exact hQ _ _ _ _ _ hw (⟨iM_7, ((q_8).trans q_3), (f0.trans (f0_12 q_9) (f0_12 q_4)), ((q_10).trans q_5)⟩) dX4_readGuard_17
set_option maxHeartbeats 4000000 in
set_option maxRecDepth 100000 in
theorem s_X4_readPower (l : Launch) (D : va_G) (A : Nat → Nat → Nat) (cy : Nat → ClassId) (hJ : ti_inj ti_LT A) (M : ti_M) (hI : cI Tc M) (t : Nat) (ht : t = 3 ∨ t = 4) (hT : tT M 1 1 = some t) : ti_KvE l yX4_readPower cX4_readPower 2 8 ti_LT D A cy M [.ref (A 1 0)] (fun M2 => cI Tc M2 ∧ M2.2.2.2 = M.2.2.2 ∧ f0 M2 M ∧ tI M2 2 1 = tI M 2 1) := by
  refine ti_eVE yp_X4_readPower hJ ti_LT_nd (Nat.le_of_ble_eq_true rfl) ?_
  intro p e s m args below meth c Q H0 C hE hQ hw ls hl
  have hx := C.1
  have hb := C.2.1
  have hl : lv_has ls 2 [(0, .ref (A 1 0))] := hl
  refine lv_aload_n hx hb dX4_readPower_0 rfl (lv_at hl 0 rfl) ?_
  refine ti_get (ci := 4) (k := 0) (N := 6) (T := TX4) (v := .ref (A 2 0)) C hw iw_4 rfl ob_1 (by decide) (by decide) fl_X4_12 rfl rfl dX4_readPower_1 ?_
  refine ti_callVvE (ci := 7) (av := []) C hE hw (s_X7_advance l D A cy hJ M hI ) ⟨ml_X4_92, ym_X7_advance, yv_X7_advance, yi_X7_advance, yc_X7_advance⟩ yd_X7_advance ob_2 (by decide) rfl rfl hl.1 (Nat.le_of_ble_eq_true rfl) ⟨by decide, by decide⟩ ⟨Nat.zero_le _, Nat.zero_le _⟩ dX4_readPower_4 (fun M_2 H locs hp_2 hw => ?_)
  obtain ⟨iM_2, q_3, q_4, q_5⟩ := hp_2
  refine lv_aload_n hx hb dX4_readPower_7 rfl (lv_at hl 0 rfl) ?_
  refine ti_get (ci := 4) (k := 0) (N := 6) (T := TX4) (v := .ref (A 2 0)) C hw iw_4 rfl ob_1 (by decide) (by decide) fl_X4_12 rfl rfl dX4_readPower_8 ?_
  refine ti_get (ci := 7) (k := 4) (N := 7) (T := TX7) C hw iw_7 rfl ob_2 (by decide) (by decide) fl_X4_41 rfl rfl dX4_readPower_11 ?_
  refine lv_topi (fun x_6 ex_6 => ?_)
  have bx_6 : 0 ≤ x_6.toInt ∧ x_6.toInt ≤ 41 := cI_rd iM_2 ob_2.1 ex_6
  have ux_6 : (tI M_2 2 4).toInt = x_6.toInt := by rw [ex_6]
  refine lv_istore_n (lv' := [(1, .int x_6), (0, .ref (A 1 0))]) hx hb dX4_readPower_14 rfl hl (by decide) rfl (fun ls hl => ?_)
  refine lv_iload_n hx hb dX4_readPower_15 rfl (lv_at hl 0 rfl) ?_
  refine lv_bipush (v := 9) hx hb dX4_readPower_16 (by decide) ?_
  have hj_27_8 : ∀  (H : Heap) (locs : List Loc) (ls : Array Slot), ti_H ti_LT D A cy H0 M_2 H locs → lv_has ls 2 [(1, .int x_6), (0, .ref (A 1 0))] → W p l e (ti_rm 8) s m args below meth c H locs 0 0 Q (F0 m 27 ls []) := by
    intro  H locs ls  hw hl
    refine lv_aload_n hx hb dX4_readPower_27 rfl (lv_at hl 1 rfl) ?_
    refine lv_iconst (v := 1) hx hb dX4_readPower_28 (by decide) ?_
    refine ti_callVv (ci := 4) (av := [.int 1]) C hw (s_X4_refuse l D A cy hJ M_2 iM_2 1) ⟨ml_X4_82, ym_X4_refuse, yv_X4_refuse, yi_X4_refuse, yc_X4_refuse⟩ yd_X4_refuse ob_1 (by decide) rfl rfl hl.1 (Nat.le_of_ble_eq_true rfl) ⟨by decide, by decide⟩ ⟨Nat.zero_le _, Nat.zero_le _⟩ dX4_readPower_29 (fun M_10 H locs hp_10 hw => ?_)
    obtain ⟨iM_10, q_11, q_12, q_13⟩ := hp_10
    exact hQ _ _ _ _ _ hw (⟨iM_10, ((q_11).trans q_3), (f0.trans (f0_12 q_12) (f0_12 q_4)), ((q_13).trans q_5)⟩) dX4_readPower_32
  refine sb_icmp_lt (tgt := 27) hx hb rfl (by decide : (9 : Int32).toInt = 9) dX4_readPower_18 (by decide) (fun c_18_6 => ?_) (fun c_18_6 => ?_)
  · exact hj_27_8  _ _ _  hw (lv_sub hl [0, 1] rfl)
  · refine lv_iload_n hx hb dX4_readPower_21 rfl (lv_at hl 0 rfl) ?_
    refine lv_bipush (v := 11) hx hb dX4_readPower_22 (by decide) ?_
    refine sb_icmp_le (tgt := 33) hx hb rfl (by decide : (11 : Int32).toInt = 11) dX4_readPower_24 (by decide) (fun c_24_7 => ?_) (fun c_24_7 => ?_)
    · refine lv_aload_n hx hb dX4_readPower_33 rfl (lv_at hl 1 rfl) ?_
      refine ti_callVvE (ci := 4) (av := []) C hE hw (s_X4_once l D A cy hJ M_2 iM_2 ) ⟨ml_X4_53, ym_X4_once, yv_X4_once, yi_X4_once, yc_X4_once⟩ yd_X4_once ob_1 (by decide) rfl rfl hl.1 (Nat.le_of_ble_eq_true rfl) ⟨by decide, by decide⟩ ⟨Nat.zero_le _, Nat.zero_le _⟩ dX4_readPower_34 (fun M_15 H locs hp_15 hw => ?_)
      obtain ⟨iM_15, q_16, q_17, q_18⟩ := hp_15
      refine lv_aload_n hx hb dX4_readPower_37 rfl (lv_at hl 1 rfl) ?_
      refine ti_get (ci := 4) (k := 1) (N := 6) (T := TX4) (v := .ref (A t 0)) C hw iw_4 rfl ob_1 (by decide) (by decide) fl_X4_28 rfl (ti_Tv ((tT_fr q_16).trans ((tT_fr q_3).trans hT))) dX4_readPower_38 ?_
      refine ti_get (ci := 8) (k := 1) (N := 12) (T := TX8) (v := .ref (A t 2)) C hw iw_8 rfl (ob_t ht) (by decide) (by decide) fl_X4_146 rfl rfl dX4_readPower_41 ?_
      refine lv_iload_n hx hb dX4_readPower_44 rfl (lv_at hl 0 rfl) ?_
      refine lv_bipush (v := 9) hx hb dX4_readPower_45 (by decide) ?_
      refine lv_isub hx hb dX4_readPower_47 ?_
      refine lv_topi (fun x_19 ex_19 => ?_)
      have tx_19 : x_19.toInt = x_6.toInt - 9 := i_sub ex_19 rfl (by decide : (9 : Int32).toInt = 9) (by omega) (by omega)
      refine lv_aload_n hx hb dX4_readPower_48 rfl (lv_at hl 1 rfl) ?_
      refine lv_iconst (v := 0) hx hb dX4_readPower_49 (by decide) ?_
      refine lv_bipush (v := 7) hx hb dX4_readPower_50 (by decide) ?_
      refine ti_callViE (ci := 4) (av := [.int 0, .int 7]) C hE hw (s_X4_number l D A cy hJ M_15 iM_15 0 7) ⟨ml_X4_56, ym_X4_number, yv_X4_number, yi_X4_number, yc_X4_number⟩ yd_X4_number ob_1 (by decide) rfl rfl hl.1 (Nat.le_of_ble_eq_true rfl) ⟨by decide, by decide⟩ ⟨Nat.zero_le _, Nat.zero_le _⟩ dX4_readPower_52 (fun r_20 M_21 H locs hp_21 hw => ?_)
      obtain ⟨iM_21, q_22, q_23, q_24⟩ := hp_21
      refine ti_iast (ci := 8) (k := 1) (n := 3) C hw (ob_t ht) (by decide) (fun _ _ => rfl) (vp_in_iff.mpr (by omega)) dX4_readPower_55 (fun H locs hw => ?_)
      obtain ⟨M_25, hM_25⟩ : ∃ z : ti_M, z = uY M_21 t 1 (upd (tY M_21 t 1) (x_19 : Int32).toNatClampNeg r_20) := ⟨_, rfl⟩
      have hw := hw.to hM_25.symm
      have iM_25 : cI Tc M_25 := cI_up iM_21 hM_25 (ob_t ht).1 trivial
      exact hQ _ _ _ _ _ hw (⟨iM_25, ((rf_Y hM_25).trans ((q_22).trans ((q_16).trans q_3))), (f0.trans (f0_of (ra_Y hM_25)) (f0.trans (f0_12 q_23) (f0.trans (f0_12 q_17) (f0_12 q_4)))), ((tI_uYE hM_25).trans ((q_24).trans ((q_18).trans q_5)))⟩) dX4_readPower_56
    · exact hj_27_8  _ _ _  hw (lv_sub hl [0, 1] rfl)
set_option maxHeartbeats 4000000 in
set_option maxRecDepth 100000 in
theorem s_X4_readPart_8 (l : Launch) (D : va_G) (A : Nat → Nat → Nat) (cy : Nat → ClassId) (hJ : ti_inj ti_LT A) (M : ti_M) (hI : cI Tc M) (t : Nat) (ht : t = 3 ∨ t = 4) (hT : tT M 1 1 = some t) (lw : Nat) (hlw : ti_ob ti_LT lw 1) (hL : tT M 1 2 = some lw) : ti_KvE l yX4_readPart cX4_readPart 3 8 ti_LT D A cy M [.ref (A 1 0), .int 8] (fun M2 => cI Tc M2 ∧ M2.2.2.2 = M.2.2.2 ∧ f0 M2 M ∧ tI M2 2 1 = tI M 2 1) := by
  refine ti_eVE yp_X4_readPart hJ ti_LT_nd (Nat.le_of_ble_eq_true rfl) ?_
  intro p e s m args below meth c Q H0 C hE hQ hw ls hl
  have hx := C.1
  have hb := C.2.1
  have hl : lv_has ls 3 [(0, .ref (A 1 0)), (1, .int 8)] := hl
  refine lv_aload_n hx hb dX4_readPart_0 rfl (lv_at hl 0 rfl) ?_
  refine ti_get (ci := 4) (k := 0) (N := 6) (T := TX4) (v := .ref (A 2 0)) C hw iw_4 rfl ob_1 (by decide) (by decide) fl_X4_12 rfl rfl dX4_readPart_1 ?_
  refine ti_get (ci := 7) (k := 4) (N := 7) (T := TX7) C hw iw_7 rfl ob_2 (by decide) (by decide) fl_X4_41 rfl rfl dX4_readPart_4 ?_
  refine lv_topi (fun x_1 ex_1 => ?_)
  have bx_1 : 0 ≤ x_1.toInt ∧ x_1.toInt ≤ 41 := cI_rd hI ob_2.1 ex_1
  have ux_1 : (tI M 2 4).toInt = x_1.toInt := by rw [ex_1]
  refine lv_istore_n (lv' := [(2, .int x_1), (0, .ref (A 1 0)), (1, .int 8)]) hx hb dX4_readPart_7 rfl hl (by decide) rfl (fun ls hl => ?_)
  refine lv_iload_n hx hb dX4_readPart_8 rfl (lv_at hl 0 rfl) ?_
  refine lv_bipush (v := 30) hx hb dX4_readPart_9 (by decide) ?_
  refine sb_icmp_ne (tgt := 28) hx hb rfl (by decide : (30 : Int32).toInt = 30) dX4_readPart_11 (by decide) (fun c_11_1 => ?_) (fun c_11_1 => ?_)
  · refine lv_iload_n hx hb dX4_readPart_28 rfl (lv_at hl 0 rfl) ?_
    refine lv_bipush (v := 30) hx hb dX4_readPart_29 (by decide) ?_
    refine sb_icmp_ne (tgt := 57) hx hb rfl (by decide : (30 : Int32).toInt = 30) dX4_readPart_31 (by decide) (fun c_31_8 => ?_) (fun h => by omega)
    refine lv_iload_n hx hb dX4_readPart_57 rfl (lv_at hl 0 rfl) ?_
    refine lv_bipush (v := 26) hx hb dX4_readPart_58 (by decide) ?_
    have hj_84_17 : ∀  (H : Heap) (locs : List Loc) (ls : Array Slot), ti_H ti_LT D A cy H0 M H locs → lv_has ls 3 [(2, .int x_1), (0, .ref (A 1 0)), (1, .int 8)] → W p l e (ti_rm 8) s m args below meth c H locs 0 0 Q (F0 m 84 ls []) := by
      intro  H locs ls  hw hl
      refine lv_iload_n hx hb dX4_readPart_84 rfl (lv_at hl 0 rfl) ?_
      refine lv_bipush (v := 26) hx hb dX4_readPart_85 (by decide) ?_
      refine sb_icmp_ne (tgt := 111) hx hb rfl (by decide : (26 : Int32).toInt = 26) dX4_readPart_87 (by decide) (fun c_87_17 => ?_) (fun c_87_17 => ?_)
      · refine lv_iload_n hx hb dX4_readPart_111 rfl (lv_at hl 0 rfl) ?_
        refine lv_bipush (v := 16) hx hb dX4_readPart_112 (by decide) ?_
        have hj_139_40 : ∀  (H : Heap) (locs : List Loc) (ls : Array Slot), ti_H ti_LT D A cy H0 M H locs → lv_has ls 3 [(2, .int x_1), (0, .ref (A 1 0)), (1, .int 8)] → W p l e (ti_rm 8) s m args below meth c H locs 0 0 Q (F0 m 139 ls []) := by
          intro  H locs ls  hw hl
          refine lv_aload_n hx hb dX4_readPart_139 rfl (lv_at hl 1 rfl) ?_
          refine lv_iconst (v := 1) hx hb dX4_readPart_140 (by decide) ?_
          refine ti_callVv (ci := 4) (av := [.int 1]) C hw (s_X4_refuse l D A cy hJ M hI 1) ⟨ml_X4_82, ym_X4_refuse, yv_X4_refuse, yi_X4_refuse, yc_X4_refuse⟩ yd_X4_refuse ob_1 (by decide) rfl rfl hl.1 (Nat.le_of_ble_eq_true rfl) ⟨by decide, by decide⟩ ⟨Nat.zero_le _, Nat.zero_le _⟩ dX4_readPart_141 (fun M_42 H locs hp_42 hw => ?_)
          obtain ⟨iM_42, q_43, q_44, q_45⟩ := hp_42
          exact hQ _ _ _ _ _ hw (⟨iM_42, (q_43), (f0_12 q_44), (q_45)⟩) dX4_readPart_144
        refine sb_icmp_lt (tgt := 139) hx hb rfl (by decide : (16 : Int32).toInt = 16) dX4_readPart_114 (by decide) (fun c_114_28 => ?_) (fun c_114_28 => ?_)
        · exact hj_139_40  _ _ _  hw (lv_sub hl [0, 1, 2] rfl)
        · refine lv_iload_n hx hb dX4_readPart_117 rfl (lv_at hl 0 rfl) ?_
          refine lv_bipush (v := 21) hx hb dX4_readPart_118 (by decide) ?_
          refine sb_icmp_gt (tgt := 139) hx hb rfl (by decide : (21 : Int32).toInt = 21) dX4_readPart_120 (by decide) (fun c_120_29 => ?_) (fun c_120_29 => ?_)
          · exact hj_139_40  _ _ _  hw (lv_sub hl [0, 1, 2] rfl)
          · refine lv_aload_n hx hb dX4_readPart_123 rfl (lv_at hl 1 rfl) ?_
            refine ti_get (ci := 4) (k := 2) (N := 6) (T := TX4) (v := .ref (A lw 0)) C hw iw_4 rfl ob_1 (by decide) (by decide) fl_X4_154 rfl (ti_Tv (hL)) dX4_readPart_124 ?_
            refine lv_iload_n hx hb dX4_readPart_127 rfl (lv_at hl 0 rfl) ?_
            refine lv_ineg hx hb dX4_readPart_128 ?_
            refine lv_topi (fun x_31 ex_31 => ?_)
            have tx_31 : x_31.toInt = -x_1.toInt := i_neg ex_31 rfl (by omega)
            refine ti_callVv (ci := 1) (av := [.int x_31]) C hw (s_X1_add l D A cy hJ M hI lw hlw x_31 (by first | omega | exact Or.inl (by decide) | exact Or.inr (by decide))) ⟨ml_X4_170, ym_X1_add, yv_X1_add, yi_X1_add, yc_X1_add⟩ yd_X1_add hlw (by decide) rfl rfl hl.1 (Nat.le_of_ble_eq_true rfl) ⟨by decide, by decide⟩ ⟨Nat.zero_le _, Nat.zero_le _⟩ dX4_readPart_129 (fun M_33 H locs hp_33 hw => ?_)
            obtain ⟨iM_33, q_34, q_35⟩ := hp_33
            refine lv_aload_n hx hb dX4_readPart_132 rfl (lv_at hl 1 rfl) ?_
            refine ti_callVvE (ci := 4) (av := []) C hE hw (s_X4_knot l D A cy hJ M_33 iM_33 t ht ((tT_fr q_34).trans hT)) ⟨ml_X4_167, ym_X4_knot, yv_X4_knot, yi_X4_knot, yc_X4_knot⟩ yd_X4_knot ob_1 (by decide) rfl rfl hl.1 (Nat.le_of_ble_eq_true rfl) ⟨by decide, by decide⟩ ⟨Nat.zero_le _, Nat.zero_le _⟩ dX4_readPart_133 (fun M_37 H locs hp_37 hw => ?_)
            obtain ⟨iM_37, q_38, q_39, q_40⟩ := hp_37
            refine lv_goto (tgt := 144) hx hb dX4_readPart_136 (by decide) ?_
            exact hQ _ _ _ _ _ hw (⟨iM_37, ((q_38).trans q_34), (f0.trans q_39 (f0_x q_35)), ((q_40).trans ((q_35 1).2.1))⟩) dX4_readPart_144
      · refine lv_aload_n hx hb dX4_readPart_90 rfl (lv_at hl 1 rfl) ?_
        refine ti_get (ci := 4) (k := 2) (N := 6) (T := TX4) (v := .ref (A lw 0)) C hw iw_4 rfl ob_1 (by decide) (by decide) fl_X4_154 rfl (ti_Tv (hL)) dX4_readPart_91 ?_
        refine lv_aload_n hx hb dX4_readPart_94 rfl (lv_at hl 1 rfl) ?_
        refine ti_get (ci := 4) (k := 0) (N := 6) (T := TX4) (v := .ref (A 2 0)) C hw iw_4 rfl ob_1 (by decide) (by decide) fl_X4_12 rfl rfl dX4_readPart_95 ?_
        refine ti_get (ci := 7) (k := 6) (N := 7) (T := TX7) C hw iw_7 rfl ob_2 (by decide) (by decide) fl_X4_95 rfl rfl dX4_readPart_98 ?_
        refine lv_topi (fun x_19 ex_19 => ?_)
        have bx_19 : 0 ≤ x_19.toInt ∧ x_19.toInt ≤ 2147483647 := cI_rd hI ob_2.1 ex_19
        have ux_19 : (tI M 2 6).toInt = x_19.toInt := by rw [ex_19]
        refine ti_callVv (ci := 1) (av := [.int x_19]) C hw (s_X1_add l D A cy hJ M hI lw hlw x_19 (by first | omega | exact Or.inl (by decide) | exact Or.inr (by decide))) ⟨ml_X4_170, ym_X1_add, yv_X1_add, yi_X1_add, yc_X1_add⟩ yd_X1_add hlw (by decide) rfl rfl hl.1 (Nat.le_of_ble_eq_true rfl) ⟨by decide, by decide⟩ ⟨Nat.zero_le _, Nat.zero_le _⟩ dX4_readPart_101 (fun M_21 H locs hp_21 hw => ?_)
        obtain ⟨iM_21, q_22, q_23⟩ := hp_21
        refine lv_aload_n hx hb dX4_readPart_104 rfl (lv_at hl 1 rfl) ?_
        refine ti_callVvE (ci := 4) (av := []) C hE hw (s_X4_knot l D A cy hJ M_21 iM_21 t ht ((tT_fr q_22).trans hT)) ⟨ml_X4_167, ym_X4_knot, yv_X4_knot, yi_X4_knot, yc_X4_knot⟩ yd_X4_knot ob_1 (by decide) rfl rfl hl.1 (Nat.le_of_ble_eq_true rfl) ⟨by decide, by decide⟩ ⟨Nat.zero_le _, Nat.zero_le _⟩ dX4_readPart_105 (fun M_25 H locs hp_25 hw => ?_)
        obtain ⟨iM_25, q_26, q_27, q_28⟩ := hp_25
        refine lv_goto (tgt := 144) hx hb dX4_readPart_108 (by decide) ?_
        exact hQ _ _ _ _ _ hw (⟨iM_25, ((q_26).trans q_22), (f0.trans q_27 (f0_x q_23)), ((q_28).trans ((q_23 1).2.1))⟩) dX4_readPart_144
    refine sb_icmp_ne (tgt := 84) hx hb rfl (by decide : (26 : Int32).toInt = 26) dX4_readPart_60 (by decide) (fun c_60_9 => ?_) (fun c_60_9 => ?_)
    · exact hj_84_17  _ _ _  hw (lv_sub hl [0, 1, 2] rfl)
    · refine lv_aload_n hx hb dX4_readPart_63 rfl (lv_at hl 1 rfl) ?_
      refine ti_get (ci := 4) (k := 0) (N := 6) (T := TX4) (v := .ref (A 2 0)) C hw iw_4 rfl ob_1 (by decide) (by decide) fl_X4_12 rfl rfl dX4_readPart_64 ?_
      refine ti_get (ci := 7) (k := 6) (N := 7) (T := TX7) C hw iw_7 rfl ob_2 (by decide) (by decide) fl_X4_95 rfl rfl dX4_readPart_67 ?_
      refine lv_topi (fun x_11 ex_11 => ?_)
      have bx_11 : 0 ≤ x_11.toInt ∧ x_11.toInt ≤ 2147483647 := cI_rd hI ob_2.1 ex_11
      have ux_11 : (tI M 2 6).toInt = x_11.toInt := by rw [ex_11]
      refine lv_sipush (v := 9999) hx hb dX4_readPart_70 (by decide) ?_
      refine sb_icmp_le (tgt := 84) hx hb rfl (by decide : (9999 : Int32).toInt = 9999) dX4_readPart_73 (by decide) (fun c_73_11 => ?_) (fun c_73_11 => ?_)
      · exact hj_84_17  _ _ _  hw (lv_sub hl [0, 1, 2] rfl)
      · refine lv_aload_n hx hb dX4_readPart_76 rfl (lv_at hl 1 rfl) ?_
        refine lv_iconst (v := 2) hx hb dX4_readPart_77 (by decide) ?_
        refine ti_callVv (ci := 4) (av := [.int 2]) C hw (s_X4_refuse l D A cy hJ M hI 2) ⟨ml_X4_82, ym_X4_refuse, yv_X4_refuse, yi_X4_refuse, yc_X4_refuse⟩ yd_X4_refuse ob_1 (by decide) rfl rfl hl.1 (Nat.le_of_ble_eq_true rfl) ⟨by decide, by decide⟩ ⟨Nat.zero_le _, Nat.zero_le _⟩ dX4_readPart_78 (fun M_14 H locs hp_14 hw => ?_)
        obtain ⟨iM_14, q_15, q_16, q_17⟩ := hp_14
        refine lv_goto (tgt := 144) hx hb dX4_readPart_81 (by decide) ?_
        exact hQ _ _ _ _ _ hw (⟨iM_14, (q_15), (f0_12 q_16), (q_17)⟩) dX4_readPart_144
  · refine lv_iload_n hx hb dX4_readPart_14 rfl (lv_at hl 2 rfl) ?_
    refine lv_bipush (v := 8) hx hb dX4_readPart_15 (by decide) ?_
    refine sb_icmp_lt (tgt := 28) hx hb (by decide : (8 : Int32).toInt = 8) (by decide : (8 : Int32).toInt = 8) dX4_readPart_17 (by decide) (fun h => absurd h (by decide)) (fun c_17_2 => ?_)
    refine lv_aload_n hx hb dX4_readPart_20 rfl (lv_at hl 1 rfl) ?_
    refine lv_iconst (v := 2) hx hb dX4_readPart_21 (by decide) ?_
    refine ti_callVv (ci := 4) (av := [.int 2]) C hw (s_X4_refuse l D A cy hJ M hI 2) ⟨ml_X4_82, ym_X4_refuse, yv_X4_refuse, yi_X4_refuse, yc_X4_refuse⟩ yd_X4_refuse ob_1 (by decide) rfl rfl hl.1 (Nat.le_of_ble_eq_true rfl) ⟨by decide, by decide⟩ ⟨Nat.zero_le _, Nat.zero_le _⟩ dX4_readPart_22 (fun M_5 H locs hp_5 hw => ?_)
    obtain ⟨iM_5, q_6, q_7, q_8⟩ := hp_5
    refine lv_goto (tgt := 144) hx hb dX4_readPart_25 (by decide) ?_
    exact hQ _ _ _ _ _ hw (⟨iM_5, (q_6), (f0_12 q_7), (q_8)⟩) dX4_readPart_144
set_option maxHeartbeats 4000000 in
set_option maxRecDepth 100000 in
theorem s_X4_readProduct_8 (l : Launch) (D : va_G) (A : Nat → Nat → Nat) (cy : Nat → ClassId) (hJ : ti_inj ti_LT A) (M : ti_M) (hI : cI Tc M) (t : Nat) (ht : t = 3 ∨ t = 4) (hT : tT M 1 1 = some t) (lw : Nat) (hlw : ti_ob ti_LT lw 1) (hL : tT M 1 2 = some lw) : ti_KvE l yX4_readProduct cX4_readProduct 4 9 ti_LT D A cy M [.ref (A 1 0), .int 8] (fun M2 => cI Tc M2 ∧ M2.2.2.2 = M.2.2.2 ∧ f0 M2 M ∧ tI M2 2 1 = tI M 2 1) := by
  refine ti_eVE yp_X4_readProduct hJ ti_LT_nd (Nat.le_of_ble_eq_true rfl) ?_
  intro p e s m args below meth c Q H0 C hE hQ hw ls hl
  have hx := C.1
  have hb := C.2.1
  have hl : lv_has ls 4 [(0, .ref (A 1 0)), (1, .int 8)] := hl
  refine lv_aload_n hx hb dX4_readProduct_0 rfl (lv_at hl 0 rfl) ?_
  refine lv_iload_n hx hb dX4_readProduct_1 rfl (lv_at hl 1 rfl) ?_
  refine ti_callVvE (ci := 4) (av := [.int 8]) C hE hw (s_X4_readPart_8 l D A cy hJ M hI t ht (hT) lw hlw (hL)) ⟨ml_X4_187, ym_X4_readPart, yv_X4_readPart, yi_X4_readPart, yc_X4_readPart⟩ yd_X4_readPart ob_1 (by decide) rfl rfl hl.1 (Nat.le_of_ble_eq_true rfl) ⟨by decide, by decide⟩ ⟨Nat.zero_le _, Nat.zero_le _⟩ dX4_readProduct_2 (fun M_2 H locs hp_2 hw => ?_)
  obtain ⟨iM_2, q_3, q_4, q_5⟩ := hp_2
  refine lv_iconst (v := 0) hx hb dX4_readProduct_5 (by decide) ?_
  refine lv_istore_n (lv' := [(2, .int 0), (0, .ref (A 1 0)), (1, .int 8)]) hx hb dX4_readProduct_6 rfl hl (by decide) rfl (fun ls hl => ?_)
  have hl_7_12 : ∀ (n_13 : Nat) (x_6 : Int32) (M_9 : ti_M) (H : Heap) (locs : List Loc) (ls : Array Slot), (64 - x_6.toInt : Int).toNat < n_13 → (0 ≤ x_6.toInt) → (x_6.toInt ≤ 64) → (cI Tc M_9) → (M_9.2.2.2 = M.2.2.2) → (f0 M_9 M) → (tI M_9 2 1 = tI M 2 1) → ti_H ti_LT D A cy H0 M_9 H locs → lv_has ls 4 [(2, .int x_6), (0, .ref (A 1 0)), (1, .int 8)] → W p l e (ti_rm 9) s m args below meth c H locs 0 0 Q (F0 m 7 ls []) := by
    intro n_13
    induction n_13 with
    | zero => intro x_6 M_9 H locs ls hf_13; exact absurd hf_13 (Nat.not_lt_zero _)
    | succ n_13 ih_13 =>
      intro x_6 M_9 H locs ls hf_13 b_7 b_8 iM_9 f_10 f_11 f_12 hw hl
      refine lv_iload_n hx hb dX4_readProduct_7 rfl (lv_at hl 0 rfl) ?_
      refine lv_bipush (v := 64) hx hb dX4_readProduct_8 (by decide) ?_
      refine sb_icmp_ge (tgt := 69) hx hb rfl (by decide : (64 : Int32).toInt = 64) dX4_readProduct_10 (by decide) (fun c_10_13 => ?_) (fun c_10_13 => ?_)
      · exact hQ _ _ _ _ _ hw (⟨iM_9, (f_10), f_11, (f_12)⟩) dX4_readProduct_69
      · refine lv_aload_n hx hb dX4_readProduct_13 rfl (lv_at hl 1 rfl) ?_
        refine ti_get (ci := 4) (k := 0) (N := 6) (T := TX4) (v := .ref (A 2 0)) C hw iw_4 rfl ob_1 (by decide) (by decide) fl_X4_12 rfl rfl dX4_readProduct_14 ?_
        refine ti_get (ci := 7) (k := 4) (N := 7) (T := TX7) C hw iw_7 rfl ob_2 (by decide) (by decide) fl_X4_41 rfl rfl dX4_readProduct_17 ?_
        refine lv_topi (fun x_15 ex_15 => ?_)
        have bx_15 : 0 ≤ x_15.toInt ∧ x_15.toInt ≤ 41 := cI_rd iM_9 ob_2.1 ex_15
        have ux_15 : (tI M_9 2 4).toInt = x_15.toInt := by rw [ex_15]
        refine lv_bipush (v := 40) hx hb dX4_readProduct_20 (by decide) ?_
        have hj_37_19 : ∀  (H : Heap) (locs : List Loc) (ls : Array Slot), (16 ≤ (tI M_9 2 4).toInt) → ti_H ti_LT D A cy H0 M_9 H locs → lv_has ls 4 [(2, .int x_6), (0, .ref (A 1 0)), (1, .int 8)] → W p l e (ti_rm 9) s m args below meth c H locs 0 0 Q (F0 m 37 ls []) := by
          intro  H locs ls j_19 hw hl
          refine lv_aload_n hx hb dX4_readProduct_37 rfl (lv_at hl 1 rfl) ?_
          refine ti_get (ci := 4) (k := 0) (N := 6) (T := TX4) (v := .ref (A 2 0)) C hw iw_4 rfl ob_1 (by decide) (by decide) fl_X4_12 rfl rfl dX4_readProduct_38 ?_
          refine ti_get (ci := 7) (k := 4) (N := 7) (T := TX7) C hw iw_7 rfl ob_2 (by decide) (by decide) fl_X4_41 rfl rfl dX4_readProduct_41 ?_
          refine ti_top (y := x_15) (ex_15.symm) ?_
          have u_22 : (tI M_9 2 4).toInt = (x_15 : Int32).toInt := by rw [(ex_15.symm)]
          refine lv_istore_n (lv' := [(3, .int x_15), (2, .int x_6), (0, .ref (A 1 0)), (1, .int 8)]) hx hb dX4_readProduct_44 rfl hl (by decide) rfl (fun ls hl => ?_)
          refine lv_aload_n hx hb dX4_readProduct_45 rfl (lv_at hl 2 rfl) ?_
          refine ti_callVvE (ci := 4) (av := []) C hE hw (s_X4_knot l D A cy hJ M_9 iM_9 t ht ((tT_fr f_10).trans hT)) ⟨ml_X4_167, ym_X4_knot, yv_X4_knot, yi_X4_knot, yc_X4_knot⟩ yd_X4_knot ob_1 (by decide) rfl rfl hl.1 (Nat.le_of_ble_eq_true rfl) ⟨by decide, by decide⟩ ⟨Nat.zero_le _, Nat.zero_le _⟩ dX4_readProduct_46 (fun M_24 H locs hp_24 hw => ?_)
          obtain ⟨iM_24, q_25, q_26, q_27⟩ := hp_24
          refine lv_aload_n hx hb dX4_readProduct_49 rfl (lv_at hl 2 rfl) ?_
          refine lv_iload_n hx hb dX4_readProduct_50 rfl (lv_at hl 3 rfl) ?_
          refine ti_callVvE (ci := 4) (av := [.int 8]) C hE hw (s_X4_readPart_8 l D A cy hJ M_24 iM_24 t ht ((tT_fr q_25).trans ((tT_fr f_10).trans hT)) lw hlw ((tT_fr q_25).trans ((tT_fr f_10).trans hL))) ⟨ml_X4_187, ym_X4_readPart, yv_X4_readPart, yi_X4_readPart, yc_X4_readPart⟩ yd_X4_readPart ob_1 (by decide) rfl rfl hl.1 (Nat.le_of_ble_eq_true rfl) ⟨by decide, by decide⟩ ⟨Nat.zero_le _, Nat.zero_le _⟩ dX4_readProduct_51 (fun M_29 H locs hp_29 hw => ?_)
          obtain ⟨iM_29, q_30, q_31, q_32⟩ := hp_29
          refine lv_aload_n hx hb dX4_readProduct_54 rfl (lv_at hl 2 rfl) ?_
          refine ti_get (ci := 4) (k := 2) (N := 6) (T := TX4) (v := .ref (A lw 0)) C hw iw_4 rfl ob_1 (by decide) (by decide) fl_X4_154 rfl (ti_Tv ((tT_fr q_30).trans ((tT_fr q_25).trans ((tT_fr f_10).trans hL)))) dX4_readProduct_55 ?_
          refine lv_iload_n hx hb dX4_readProduct_58 rfl (lv_at hl 0 rfl) ?_
          refine lv_ineg hx hb dX4_readProduct_59 ?_
          refine lv_topi (fun x_33 ex_33 => ?_)
          have tx_33 : x_33.toInt = -x_15.toInt := i_neg ex_33 rfl (by omega)
          refine ti_callVv (ci := 1) (av := [.int x_33]) C hw (s_X1_add l D A cy hJ M_29 iM_29 lw hlw x_33 (by first | omega | exact Or.inl (by decide) | exact Or.inr (by decide))) ⟨ml_X4_170, ym_X1_add, yv_X1_add, yi_X1_add, yc_X1_add⟩ yd_X1_add hlw (by decide) rfl rfl hl.1 (Nat.le_of_ble_eq_true rfl) ⟨by decide, by decide⟩ ⟨Nat.zero_le _, Nat.zero_le _⟩ dX4_readProduct_60 (fun M_35 H locs hp_35 hw => ?_)
          obtain ⟨iM_35, q_36, q_37⟩ := hp_35
          obtain ⟨x_38, ex_38⟩ : ∃ z : Int32, z = x_6 + 1 := ⟨_, rfl⟩
          have tx_38 : x_38.toInt = x_6.toInt + 1 := i_add ex_38 rfl (by decide) (by omega) (by omega)
          refine lv_iinc (v := x_38) (lv' := [(2, .int x_38), (3, .int x_15), (0, .ref (A 1 0)), (1, .int 8)]) hx hb dX4_readProduct_63 hl (k := 1) rfl (by rw [ex_38]; rfl) (by decide) rfl (fun ls hl => ?_)
          refine lv_goto (tgt := 7) hx hb dX4_readProduct_66 (by decide) ?_
          exact ih_13 x_38 M_35 _ _ _ (by omega) (by first | omega | decide) (by first | omega | decide) iM_35 ((q_36).trans ((q_30).trans ((q_25).trans f_10))) (f0.trans (f0_x q_37) (f0.trans q_31 (f0.trans q_26 f_11))) (((q_37 1).2.1).trans ((q_32).trans ((q_27).trans f_12))) hw (lv_sub hl [0, 2, 3] rfl)
        refine sb_icmp_eq (tgt := 37) hx hb rfl (by decide : (40 : Int32).toInt = 40) dX4_readProduct_22 (by decide) (fun c_22_15 => ?_) (fun c_22_15 => ?_)
        · have u_20 : (tI M_9 2 4).toInt = (x_15 : Int32).toInt := by rw [(ex_15.symm)]
          exact hj_37_19  _ _ _ (by first | omega | decide) hw (lv_sub hl [0, 1, 2] rfl)
        · refine lv_aload_n hx hb dX4_readProduct_25 rfl (lv_at hl 1 rfl) ?_
          refine ti_get (ci := 4) (k := 0) (N := 6) (T := TX4) (v := .ref (A 2 0)) C hw iw_4 rfl ob_1 (by decide) (by decide) fl_X4_12 rfl rfl dX4_readProduct_26 ?_
          refine ti_get (ci := 7) (k := 4) (N := 7) (T := TX7) C hw iw_7 rfl ob_2 (by decide) (by decide) fl_X4_41 rfl rfl dX4_readProduct_29 ?_
          refine ti_top (y := x_15) (ex_15.symm) ?_
          have u_17 : (tI M_9 2 4).toInt = (x_15 : Int32).toInt := by rw [(ex_15.symm)]
          refine lv_bipush (v := 41) hx hb dX4_readProduct_32 (by decide) ?_
          refine sb_icmp_ne (tgt := 69) hx hb rfl (by decide : (41 : Int32).toInt = 41) dX4_readProduct_34 (by decide) (fun c_34_17 => ?_) (fun c_34_17 => ?_)
          · exact hQ _ _ _ _ _ hw (⟨iM_9, (f_10), f_11, (f_12)⟩) dX4_readProduct_69
          · have u_21 : (tI M_9 2 4).toInt = (x_15 : Int32).toInt := by rw [(ex_15.symm)]
            exact hj_37_19  _ _ _ (by first | omega | decide) hw (lv_sub hl [0, 1, 2] rfl)
  exact hl_7_12 ((64 - 0 : Int).toNat + 1) 0 M_2 _ _ _ (Nat.lt_succ_self _) (by have lt0 : (0 : Int32).toInt = 0 := (by decide); first | omega | decide) (by have lt0 : (0 : Int32).toInt = 0 := (by decide); first | omega | decide) iM_2 (q_3) q_4 (q_5) hw (lv_sub hl [0, 1, 2] rfl)
set_option maxHeartbeats 4000000 in
set_option maxRecDepth 100000 in
theorem s_X4_readSum_8 (l : Launch) (D : va_G) (A : Nat → Nat → Nat) (cy : Nat → ClassId) (hJ : ti_inj ti_LT A) (M : ti_M) (hI : cI Tc M) (t : Nat) (ht : t = 3 ∨ t = 4) (hT : tT M 1 1 = some t) (lw : Nat) (hlw : ti_ob ti_LT lw 1) (hL : tT M 1 2 = some lw) : ti_KvE l yX4_readSum cX4_readSum 4 10 ti_LT D A cy M [.ref (A 1 0), .int 8] (fun M2 => cI Tc M2 ∧ M2.2.2.2 = M.2.2.2 ∧ f0 M2 M ∧ tI M2 2 1 = tI M 2 1) := by
  refine ti_eVE yp_X4_readSum hJ ti_LT_nd (Nat.le_of_ble_eq_true rfl) ?_
  intro p e s m args below meth c Q H0 C hE hQ hw ls hl
  have hx := C.1
  have hb := C.2.1
  have hl : lv_has ls 4 [(0, .ref (A 1 0)), (1, .int 8)] := hl
  refine lv_aload_n hx hb dX4_readSum_0 rfl (lv_at hl 0 rfl) ?_
  refine lv_iload_n hx hb dX4_readSum_1 rfl (lv_at hl 1 rfl) ?_
  refine ti_callVvE (ci := 4) (av := [.int 8]) C hE hw (s_X4_readProduct_8 l D A cy hJ M hI t ht (hT) lw hlw (hL)) ⟨ml_X4_184, ym_X4_readProduct, yv_X4_readProduct, yi_X4_readProduct, yc_X4_readProduct⟩ yd_X4_readProduct ob_1 (by decide) rfl rfl hl.1 (Nat.le_of_ble_eq_true rfl) ⟨by decide, by decide⟩ ⟨Nat.zero_le _, Nat.zero_le _⟩ dX4_readSum_2 (fun M_2 H locs hp_2 hw => ?_)
  obtain ⟨iM_2, q_3, q_4, q_5⟩ := hp_2
  refine lv_iconst (v := 0) hx hb dX4_readSum_5 (by decide) ?_
  refine lv_istore_n (lv' := [(2, .int 0), (0, .ref (A 1 0)), (1, .int 8)]) hx hb dX4_readSum_6 rfl hl (by decide) rfl (fun ls hl => ?_)
  have hl_7_12 : ∀ (n_13 : Nat) (x_6 : Int32) (M_9 : ti_M) (H : Heap) (locs : List Loc) (ls : Array Slot), (64 - x_6.toInt : Int).toNat < n_13 → (0 ≤ x_6.toInt) → (x_6.toInt ≤ 64) → (cI Tc M_9) → (M_9.2.2.2 = M.2.2.2) → (f0 M_9 M) → (tI M_9 2 1 = tI M 2 1) → ti_H ti_LT D A cy H0 M_9 H locs → lv_has ls 4 [(2, .int x_6), (0, .ref (A 1 0)), (1, .int 8)] → W p l e (ti_rm 10) s m args below meth c H locs 0 0 Q (F0 m 7 ls []) := by
    intro n_13
    induction n_13 with
    | zero => intro x_6 M_9 H locs ls hf_13; exact absurd hf_13 (Nat.not_lt_zero _)
    | succ n_13 ih_13 =>
      intro x_6 M_9 H locs ls hf_13 b_7 b_8 iM_9 f_10 f_11 f_12 hw hl
      refine lv_iload_n hx hb dX4_readSum_7 rfl (lv_at hl 0 rfl) ?_
      refine lv_bipush (v := 64) hx hb dX4_readSum_8 (by decide) ?_
      refine sb_icmp_ge (tgt := 69) hx hb rfl (by decide : (64 : Int32).toInt = 64) dX4_readSum_10 (by decide) (fun c_10_13 => ?_) (fun c_10_13 => ?_)
      · exact hQ _ _ _ _ _ hw (⟨iM_9, (f_10), f_11, (f_12)⟩) dX4_readSum_69
      · refine lv_aload_n hx hb dX4_readSum_13 rfl (lv_at hl 1 rfl) ?_
        refine ti_get (ci := 4) (k := 0) (N := 6) (T := TX4) (v := .ref (A 2 0)) C hw iw_4 rfl ob_1 (by decide) (by decide) fl_X4_12 rfl rfl dX4_readSum_14 ?_
        refine ti_get (ci := 7) (k := 4) (N := 7) (T := TX7) C hw iw_7 rfl ob_2 (by decide) (by decide) fl_X4_41 rfl rfl dX4_readSum_17 ?_
        refine lv_topi (fun x_15 ex_15 => ?_)
        have bx_15 : 0 ≤ x_15.toInt ∧ x_15.toInt ≤ 41 := cI_rd iM_9 ob_2.1 ex_15
        have ux_15 : (tI M_9 2 4).toInt = x_15.toInt := by rw [ex_15]
        refine lv_bipush (v := 38) hx hb dX4_readSum_20 (by decide) ?_
        have hj_37_19 : ∀  (H : Heap) (locs : List Loc) (ls : Array Slot), (16 ≤ (tI M_9 2 4).toInt) → ti_H ti_LT D A cy H0 M_9 H locs → lv_has ls 4 [(2, .int x_6), (0, .ref (A 1 0)), (1, .int 8)] → W p l e (ti_rm 10) s m args below meth c H locs 0 0 Q (F0 m 37 ls []) := by
          intro  H locs ls j_19 hw hl
          refine lv_aload_n hx hb dX4_readSum_37 rfl (lv_at hl 1 rfl) ?_
          refine ti_get (ci := 4) (k := 0) (N := 6) (T := TX4) (v := .ref (A 2 0)) C hw iw_4 rfl ob_1 (by decide) (by decide) fl_X4_12 rfl rfl dX4_readSum_38 ?_
          refine ti_get (ci := 7) (k := 4) (N := 7) (T := TX7) C hw iw_7 rfl ob_2 (by decide) (by decide) fl_X4_41 rfl rfl dX4_readSum_41 ?_
          refine ti_top (y := x_15) (ex_15.symm) ?_
          have u_22 : (tI M_9 2 4).toInt = (x_15 : Int32).toInt := by rw [(ex_15.symm)]
          refine lv_istore_n (lv' := [(3, .int x_15), (2, .int x_6), (0, .ref (A 1 0)), (1, .int 8)]) hx hb dX4_readSum_44 rfl hl (by decide) rfl (fun ls hl => ?_)
          refine lv_aload_n hx hb dX4_readSum_45 rfl (lv_at hl 2 rfl) ?_
          refine ti_callVvE (ci := 4) (av := []) C hE hw (s_X4_knot l D A cy hJ M_9 iM_9 t ht ((tT_fr f_10).trans hT)) ⟨ml_X4_167, ym_X4_knot, yv_X4_knot, yi_X4_knot, yc_X4_knot⟩ yd_X4_knot ob_1 (by decide) rfl rfl hl.1 (Nat.le_of_ble_eq_true rfl) ⟨by decide, by decide⟩ ⟨Nat.zero_le _, Nat.zero_le _⟩ dX4_readSum_46 (fun M_24 H locs hp_24 hw => ?_)
          obtain ⟨iM_24, q_25, q_26, q_27⟩ := hp_24
          refine lv_aload_n hx hb dX4_readSum_49 rfl (lv_at hl 2 rfl) ?_
          refine lv_iload_n hx hb dX4_readSum_50 rfl (lv_at hl 3 rfl) ?_
          refine ti_callVvE (ci := 4) (av := [.int 8]) C hE hw (s_X4_readProduct_8 l D A cy hJ M_24 iM_24 t ht ((tT_fr q_25).trans ((tT_fr f_10).trans hT)) lw hlw ((tT_fr q_25).trans ((tT_fr f_10).trans hL))) ⟨ml_X4_184, ym_X4_readProduct, yv_X4_readProduct, yi_X4_readProduct, yc_X4_readProduct⟩ yd_X4_readProduct ob_1 (by decide) rfl rfl hl.1 (Nat.le_of_ble_eq_true rfl) ⟨by decide, by decide⟩ ⟨Nat.zero_le _, Nat.zero_le _⟩ dX4_readSum_51 (fun M_29 H locs hp_29 hw => ?_)
          obtain ⟨iM_29, q_30, q_31, q_32⟩ := hp_29
          refine lv_aload_n hx hb dX4_readSum_54 rfl (lv_at hl 2 rfl) ?_
          refine ti_get (ci := 4) (k := 2) (N := 6) (T := TX4) (v := .ref (A lw 0)) C hw iw_4 rfl ob_1 (by decide) (by decide) fl_X4_154 rfl (ti_Tv ((tT_fr q_30).trans ((tT_fr q_25).trans ((tT_fr f_10).trans hL)))) dX4_readSum_55 ?_
          refine lv_iload_n hx hb dX4_readSum_58 rfl (lv_at hl 0 rfl) ?_
          refine lv_ineg hx hb dX4_readSum_59 ?_
          refine lv_topi (fun x_33 ex_33 => ?_)
          have tx_33 : x_33.toInt = -x_15.toInt := i_neg ex_33 rfl (by omega)
          refine ti_callVv (ci := 1) (av := [.int x_33]) C hw (s_X1_add l D A cy hJ M_29 iM_29 lw hlw x_33 (by first | omega | exact Or.inl (by decide) | exact Or.inr (by decide))) ⟨ml_X4_170, ym_X1_add, yv_X1_add, yi_X1_add, yc_X1_add⟩ yd_X1_add hlw (by decide) rfl rfl hl.1 (Nat.le_of_ble_eq_true rfl) ⟨by decide, by decide⟩ ⟨Nat.zero_le _, Nat.zero_le _⟩ dX4_readSum_60 (fun M_35 H locs hp_35 hw => ?_)
          obtain ⟨iM_35, q_36, q_37⟩ := hp_35
          obtain ⟨x_38, ex_38⟩ : ∃ z : Int32, z = x_6 + 1 := ⟨_, rfl⟩
          have tx_38 : x_38.toInt = x_6.toInt + 1 := i_add ex_38 rfl (by decide) (by omega) (by omega)
          refine lv_iinc (v := x_38) (lv' := [(2, .int x_38), (3, .int x_15), (0, .ref (A 1 0)), (1, .int 8)]) hx hb dX4_readSum_63 hl (k := 1) rfl (by rw [ex_38]; rfl) (by decide) rfl (fun ls hl => ?_)
          refine lv_goto (tgt := 7) hx hb dX4_readSum_66 (by decide) ?_
          exact ih_13 x_38 M_35 _ _ _ (by omega) (by first | omega | decide) (by first | omega | decide) iM_35 ((q_36).trans ((q_30).trans ((q_25).trans f_10))) (f0.trans (f0_x q_37) (f0.trans q_31 (f0.trans q_26 f_11))) (((q_37 1).2.1).trans ((q_32).trans ((q_27).trans f_12))) hw (lv_sub hl [0, 2, 3] rfl)
        refine sb_icmp_eq (tgt := 37) hx hb rfl (by decide : (38 : Int32).toInt = 38) dX4_readSum_22 (by decide) (fun c_22_15 => ?_) (fun c_22_15 => ?_)
        · have u_20 : (tI M_9 2 4).toInt = (x_15 : Int32).toInt := by rw [(ex_15.symm)]
          exact hj_37_19  _ _ _ (by first | omega | decide) hw (lv_sub hl [0, 1, 2] rfl)
        · refine lv_aload_n hx hb dX4_readSum_25 rfl (lv_at hl 1 rfl) ?_
          refine ti_get (ci := 4) (k := 0) (N := 6) (T := TX4) (v := .ref (A 2 0)) C hw iw_4 rfl ob_1 (by decide) (by decide) fl_X4_12 rfl rfl dX4_readSum_26 ?_
          refine ti_get (ci := 7) (k := 4) (N := 7) (T := TX7) C hw iw_7 rfl ob_2 (by decide) (by decide) fl_X4_41 rfl rfl dX4_readSum_29 ?_
          refine ti_top (y := x_15) (ex_15.symm) ?_
          have u_17 : (tI M_9 2 4).toInt = (x_15 : Int32).toInt := by rw [(ex_15.symm)]
          refine lv_bipush (v := 39) hx hb dX4_readSum_32 (by decide) ?_
          refine sb_icmp_ne (tgt := 69) hx hb rfl (by decide : (39 : Int32).toInt = 39) dX4_readSum_34 (by decide) (fun c_34_17 => ?_) (fun c_34_17 => ?_)
          · exact hQ _ _ _ _ _ hw (⟨iM_9, (f_10), f_11, (f_12)⟩) dX4_readSum_69
          · have u_21 : (tI M_9 2 4).toInt = (x_15 : Int32).toInt := by rw [(ex_15.symm)]
            exact hj_37_19  _ _ _ (by first | omega | decide) hw (lv_sub hl [0, 1, 2] rfl)
  exact hl_7_12 ((64 - 0 : Int).toNat + 1) 0 M_2 _ _ _ (Nat.lt_succ_self _) (by have lt0 : (0 : Int32).toInt = 0 := (by decide); first | omega | decide) (by have lt0 : (0 : Int32).toInt = 0 := (by decide); first | omega | decide) iM_2 (q_3) q_4 (q_5) hw (lv_sub hl [0, 1, 2] rfl)
set_option maxHeartbeats 4000000 in
set_option maxRecDepth 100000 in
theorem s_X4_readComparison_8 (l : Launch) (D : va_G) (A : Nat → Nat → Nat) (cy : Nat → ClassId) (hJ : ti_inj ti_LT A) (M : ti_M) (hI : cI Tc M) (t : Nat) (ht : t = 3 ∨ t = 4) (hT : tT M 1 1 = some t) (lw : Nat) (hlw : ti_ob ti_LT lw 1) (hL : tT M 1 2 = some lw) : ti_KvE l yX4_readComparison cX4_readComparison 3 11 ti_LT D A cy M [.ref (A 1 0), .int 8] (fun M2 => cI Tc M2 ∧ M2.2.2.2 = M.2.2.2 ∧ f0 M2 M ∧ tI M2 2 1 = tI M 2 1) := by
  refine ti_eVE yp_X4_readComparison hJ ti_LT_nd (Nat.le_of_ble_eq_true rfl) ?_
  intro p e s m args below meth c Q H0 C hE hQ hw ls hl
  have hx := C.1
  have hb := C.2.1
  have hl : lv_has ls 3 [(0, .ref (A 1 0)), (1, .int 8)] := hl
  refine lv_aload_n hx hb dX4_readComparison_0 rfl (lv_at hl 0 rfl) ?_
  refine lv_iload_n hx hb dX4_readComparison_1 rfl (lv_at hl 1 rfl) ?_
  refine ti_callVvE (ci := 4) (av := [.int 8]) C hE hw (s_X4_readSum_8 l D A cy hJ M hI t ht (hT) lw hlw (hL)) ⟨ml_X4_181, ym_X4_readSum, yv_X4_readSum, yi_X4_readSum, yc_X4_readSum⟩ yd_X4_readSum ob_1 (by decide) rfl rfl hl.1 (Nat.le_of_ble_eq_true rfl) ⟨by decide, by decide⟩ ⟨Nat.zero_le _, Nat.zero_le _⟩ dX4_readComparison_2 (fun M_2 H locs hp_2 hw => ?_)
  obtain ⟨iM_2, q_3, q_4, q_5⟩ := hp_2
  refine lv_aload_n hx hb dX4_readComparison_5 rfl (lv_at hl 0 rfl) ?_
  refine ti_get (ci := 4) (k := 0) (N := 6) (T := TX4) (v := .ref (A 2 0)) C hw iw_4 rfl ob_1 (by decide) (by decide) fl_X4_12 rfl rfl dX4_readComparison_6 ?_
  refine ti_get (ci := 7) (k := 4) (N := 7) (T := TX7) C hw iw_7 rfl ob_2 (by decide) (by decide) fl_X4_41 rfl rfl dX4_readComparison_9 ?_
  refine lv_topi (fun x_6 ex_6 => ?_)
  have bx_6 : 0 ≤ x_6.toInt ∧ x_6.toInt ≤ 41 := cI_rd iM_2 ob_2.1 ex_6
  have ux_6 : (tI M_2 2 4).toInt = x_6.toInt := by rw [ex_6]
  refine lv_istore_n (lv' := [(2, .int x_6), (0, .ref (A 1 0)), (1, .int 8)]) hx hb dX4_readComparison_12 rfl hl (by decide) rfl (fun ls hl => ?_)
  refine lv_iload_n hx hb dX4_readComparison_13 rfl (lv_at hl 0 rfl) ?_
  refine lv_bipush (v := 32) hx hb dX4_readComparison_14 (by decide) ?_
  refine sb_icmp_lt (tgt := 43) hx hb rfl (by decide : (32 : Int32).toInt = 32) dX4_readComparison_16 (by decide) (fun c_16_6 => ?_) (fun c_16_6 => ?_)
  · exact hQ _ _ _ _ _ hw (⟨iM_2, (q_3), q_4, (q_5)⟩) dX4_readComparison_43
  · refine lv_iload_n hx hb dX4_readComparison_19 rfl (lv_at hl 0 rfl) ?_
    refine lv_bipush (v := 37) hx hb dX4_readComparison_20 (by decide) ?_
    refine sb_icmp_gt (tgt := 43) hx hb rfl (by decide : (37 : Int32).toInt = 37) dX4_readComparison_22 (by decide) (fun c_22_7 => ?_) (fun c_22_7 => ?_)
    · exact hQ _ _ _ _ _ hw (⟨iM_2, (q_3), q_4, (q_5)⟩) dX4_readComparison_43
    · refine lv_aload_n hx hb dX4_readComparison_25 rfl (lv_at hl 1 rfl) ?_
      refine ti_callVvE (ci := 4) (av := []) C hE hw (s_X4_knot l D A cy hJ M_2 iM_2 t ht ((tT_fr q_3).trans hT)) ⟨ml_X4_167, ym_X4_knot, yv_X4_knot, yi_X4_knot, yc_X4_knot⟩ yd_X4_knot ob_1 (by decide) rfl rfl hl.1 (Nat.le_of_ble_eq_true rfl) ⟨by decide, by decide⟩ ⟨Nat.zero_le _, Nat.zero_le _⟩ dX4_readComparison_26 (fun M_10 H locs hp_10 hw => ?_)
      obtain ⟨iM_10, q_11, q_12, q_13⟩ := hp_10
      refine lv_aload_n hx hb dX4_readComparison_29 rfl (lv_at hl 1 rfl) ?_
      refine lv_iload_n hx hb dX4_readComparison_30 rfl (lv_at hl 2 rfl) ?_
      refine ti_callVvE (ci := 4) (av := [.int 8]) C hE hw (s_X4_readSum_8 l D A cy hJ M_10 iM_10 t ht ((tT_fr q_11).trans ((tT_fr q_3).trans hT)) lw hlw ((tT_fr q_11).trans ((tT_fr q_3).trans hL))) ⟨ml_X4_181, ym_X4_readSum, yv_X4_readSum, yi_X4_readSum, yc_X4_readSum⟩ yd_X4_readSum ob_1 (by decide) rfl rfl hl.1 (Nat.le_of_ble_eq_true rfl) ⟨by decide, by decide⟩ ⟨Nat.zero_le _, Nat.zero_le _⟩ dX4_readComparison_31 (fun M_15 H locs hp_15 hw => ?_)
      obtain ⟨iM_15, q_16, q_17, q_18⟩ := hp_15
      refine lv_aload_n hx hb dX4_readComparison_34 rfl (lv_at hl 1 rfl) ?_
      refine ti_get (ci := 4) (k := 2) (N := 6) (T := TX4) (v := .ref (A lw 0)) C hw iw_4 rfl ob_1 (by decide) (by decide) fl_X4_154 rfl (ti_Tv ((tT_fr q_16).trans ((tT_fr q_11).trans ((tT_fr q_3).trans hL)))) dX4_readComparison_35 ?_
      refine lv_iload_n hx hb dX4_readComparison_38 rfl (lv_at hl 0 rfl) ?_
      refine lv_ineg hx hb dX4_readComparison_39 ?_
      refine lv_topi (fun x_19 ex_19 => ?_)
      have tx_19 : x_19.toInt = -x_6.toInt := i_neg ex_19 rfl (by omega)
      refine ti_callVv (ci := 1) (av := [.int x_19]) C hw (s_X1_add l D A cy hJ M_15 iM_15 lw hlw x_19 (by first | omega | exact Or.inl (by decide) | exact Or.inr (by decide))) ⟨ml_X4_170, ym_X1_add, yv_X1_add, yi_X1_add, yc_X1_add⟩ yd_X1_add hlw (by decide) rfl rfl hl.1 (Nat.le_of_ble_eq_true rfl) ⟨by decide, by decide⟩ ⟨Nat.zero_le _, Nat.zero_le _⟩ dX4_readComparison_40 (fun M_21 H locs hp_21 hw => ?_)
      obtain ⟨iM_21, q_22, q_23⟩ := hp_21
      exact hQ _ _ _ _ _ hw (⟨iM_21, ((q_22).trans ((q_16).trans ((q_11).trans q_3))), (f0.trans (f0_x q_23) (f0.trans q_17 (f0.trans q_12 q_4))), (((q_23 1).2.1).trans ((q_18).trans ((q_13).trans q_5)))⟩) dX4_readComparison_43
set_option maxHeartbeats 4000000 in
set_option maxRecDepth 100000 in
theorem s_X4_readNegated_8 (l : Launch) (D : va_G) (A : Nat → Nat → Nat) (cy : Nat → ClassId) (hJ : ti_inj ti_LT A) (M : ti_M) (hI : cI Tc M) (t : Nat) (ht : t = 3 ∨ t = 4) (hT : tT M 1 1 = some t) (lw : Nat) (hlw : ti_ob ti_LT lw 1) (hL : tT M 1 2 = some lw) : ti_KvE l yX4_readNegated cX4_readNegated 4 12 ti_LT D A cy M [.ref (A 1 0), .int 8] (fun M2 => cI Tc M2 ∧ M2.2.2.2 = M.2.2.2 ∧ f0 M2 M ∧ tI M2 2 1 = tI M 2 1) := by
  refine ti_eVE yp_X4_readNegated hJ ti_LT_nd (Nat.le_of_ble_eq_true rfl) ?_
  intro p e s m args below meth c Q H0 C hE hQ hw ls hl
  have hx := C.1
  have hb := C.2.1
  have hl : lv_has ls 4 [(0, .ref (A 1 0)), (1, .int 8)] := hl
  refine lv_iconst (v := 0) hx hb dX4_readNegated_0 (by decide) ?_
  refine lv_istore_n (lv' := [(2, .int 0), (0, .ref (A 1 0)), (1, .int 8)]) hx hb dX4_readNegated_1 rfl hl (by decide) rfl (fun ls hl => ?_)
  have hl_2_7 : ∀ (n_8 : Nat) (x_1 : Int32) (M_4 : ti_M) (H : Heap) (locs : List Loc) (ls : Array Slot), (65 - x_1.toInt : Int).toNat < n_8 → (0 ≤ x_1.toInt) → (x_1.toInt ≤ 65) → (cI Tc M_4) → (M_4.2.2.2 = M.2.2.2) → (f0 M_4 M) → (tI M_4 2 1 = tI M 2 1) → ti_H ti_LT D A cy H0 M_4 H locs → lv_has ls 4 [(2, .int x_1), (0, .ref (A 1 0)), (1, .int 8)] → W p l e (ti_rm 12) s m args below meth c H locs 0 0 Q (F0 m 2 ls []) := by
    intro n_8
    induction n_8 with
    | zero => intro x_1 M_4 H locs ls hf_8; exact absurd hf_8 (Nat.not_lt_zero _)
    | succ n_8 ih_8 =>
      intro x_1 M_4 H locs ls hf_8 b_2 b_3 iM_4 f_5 f_6 f_7 hw hl
      refine lv_iload_n hx hb dX4_readNegated_2 rfl (lv_at hl 0 rfl) ?_
      refine lv_bipush (v := 64) hx hb dX4_readNegated_3 (by decide) ?_
      have hj_30_17 : ∀  (H : Heap) (locs : List Loc) (ls : Array Slot), ti_H ti_LT D A cy H0 M_4 H locs → lv_has ls 4 [(2, .int x_1), (0, .ref (A 1 0)), (1, .int 8)] → W p l e (ti_rm 12) s m args below meth c H locs 0 0 Q (F0 m 30 ls []) := by
        intro  H locs ls  hw hl
        refine lv_aload_n hx hb dX4_readNegated_30 rfl (lv_at hl 1 rfl) ?_
        refine lv_iload_n hx hb dX4_readNegated_31 rfl (lv_at hl 2 rfl) ?_
        refine ti_callVvE (ci := 4) (av := [.int 8]) C hE hw (s_X4_readComparison_8 l D A cy hJ M_4 iM_4 t ht ((tT_fr f_5).trans hT) lw hlw ((tT_fr f_5).trans hL)) ⟨ml_X4_178, ym_X4_readComparison, yv_X4_readComparison, yi_X4_readComparison, yc_X4_readComparison⟩ yd_X4_readComparison ob_1 (by decide) rfl rfl hl.1 (Nat.le_of_ble_eq_true rfl) ⟨by decide, by decide⟩ ⟨Nat.zero_le _, Nat.zero_le _⟩ dX4_readNegated_32 (fun M_19 H locs hp_19 hw => ?_)
        obtain ⟨iM_19, q_20, q_21, q_22⟩ := hp_19
        refine lv_iconst (v := 0) hx hb dX4_readNegated_35 (by decide) ?_
        refine lv_istore_n (lv' := [(3, .int 0), (2, .int x_1), (0, .ref (A 1 0)), (1, .int 8)]) hx hb dX4_readNegated_36 rfl hl (by decide) rfl (fun ls hl => ?_)
        have hl_37_29 : ∀ (n_30 : Nat) (x_23 : Int32) (M_26 : ti_M) (H : Heap) (locs : List Loc) (ls : Array Slot), (65 - x_23.toInt : Int).toNat < n_30 → (0 ≤ x_23.toInt) → (x_23.toInt ≤ 65) → (cI Tc M_26) → (M_26.2.2.2 = M.2.2.2) → (f0 M_26 M) → (tI M_26 2 1 = tI M 2 1) → ti_H ti_LT D A cy H0 M_26 H locs → lv_has ls 4 [(3, .int x_23), (2, .int x_1), (0, .ref (A 1 0)), (1, .int 8)] → W p l e (ti_rm 12) s m args below meth c H locs 0 0 Q (F0 m 37 ls []) := by
          intro n_30
          induction n_30 with
          | zero => intro x_23 M_26 H locs ls hf_30; exact absurd hf_30 (Nat.not_lt_zero _)
          | succ n_30 ih_30 =>
            intro x_23 M_26 H locs ls hf_30 b_24 b_25 iM_26 f_27 f_28 f_29 hw hl
            refine lv_iload_n hx hb dX4_readNegated_37 rfl (lv_at hl 0 rfl) ?_
            refine lv_iload_n hx hb dX4_readNegated_38 rfl (lv_at hl 1 rfl) ?_
            refine sb_icmp_ge (tgt := 57) hx hb rfl rfl dX4_readNegated_39 (by decide) (fun c_39_30 => ?_) (fun c_39_30 => ?_)
            · exact hQ _ _ _ _ _ hw (⟨iM_26, (f_27), f_28, (f_29)⟩) dX4_readNegated_57
            · refine lv_aload_n hx hb dX4_readNegated_42 rfl (lv_at hl 2 rfl) ?_
              refine ti_get (ci := 4) (k := 2) (N := 6) (T := TX4) (v := .ref (A lw 0)) C hw iw_4 rfl ob_1 (by decide) (by decide) fl_X4_154 rfl (ti_Tv ((tT_fr f_27).trans hL)) dX4_readNegated_43 ?_
              refine lv_bipush (v := (-24)) hx hb dX4_readNegated_46 (by decide) ?_
              refine ti_callVv (ci := 1) (av := [.int (-24)]) C hw (s_X1_add l D A cy hJ M_26 iM_26 lw hlw (-24) (by first | omega | exact Or.inl (by decide) | exact Or.inr (by decide))) ⟨ml_X4_170, ym_X1_add, yv_X1_add, yi_X1_add, yc_X1_add⟩ yd_X1_add hlw (by decide) rfl rfl hl.1 (Nat.le_of_ble_eq_true rfl) ⟨by decide, by decide⟩ ⟨Nat.zero_le _, Nat.zero_le _⟩ dX4_readNegated_48 (fun M_33 H locs hp_33 hw => ?_)
              obtain ⟨iM_33, q_34, q_35⟩ := hp_33
              obtain ⟨x_36, ex_36⟩ : ∃ z : Int32, z = x_23 + 1 := ⟨_, rfl⟩
              have tx_36 : x_36.toInt = x_23.toInt + 1 := i_add ex_36 rfl (by decide) (by omega) (by omega)
              refine lv_iinc (v := x_36) (lv' := [(3, .int x_36), (2, .int x_1), (0, .ref (A 1 0)), (1, .int 8)]) hx hb dX4_readNegated_51 hl (k := 0) rfl (by rw [ex_36]; rfl) (by decide) rfl (fun ls hl => ?_)
              refine lv_goto (tgt := 37) hx hb dX4_readNegated_54 (by decide) ?_
              exact ih_30 x_36 M_33 _ _ _ (by omega) (by first | omega | decide) (by first | omega | decide) iM_33 ((q_34).trans f_27) (f0.trans (f0_x q_35) f_28) (((q_35 1).2.1).trans f_29) hw (lv_sub hl [0, 1, 2, 3] rfl)
        exact hl_37_29 ((65 - 0 : Int).toNat + 1) 0 M_19 _ _ _ (Nat.lt_succ_self _) (by have lt0 : (0 : Int32).toInt = 0 := (by decide); first | omega | decide) (by have lt0 : (0 : Int32).toInt = 0 := (by decide); first | omega | decide) iM_19 ((q_20).trans f_5) (f0.trans q_21 f_6) ((q_22).trans f_7) hw (lv_sub hl [0, 1, 2, 3] rfl)
      refine sb_icmp_gt (tgt := 30) hx hb rfl (by decide : (64 : Int32).toInt = 64) dX4_readNegated_5 (by decide) (fun c_5_8 => ?_) (fun c_5_8 => ?_)
      · exact hj_30_17  _ _ _  hw (lv_sub hl [0, 1, 2] rfl)
      · refine lv_aload_n hx hb dX4_readNegated_8 rfl (lv_at hl 1 rfl) ?_
        refine ti_get (ci := 4) (k := 0) (N := 6) (T := TX4) (v := .ref (A 2 0)) C hw iw_4 rfl ob_1 (by decide) (by decide) fl_X4_12 rfl rfl dX4_readNegated_9 ?_
        refine ti_get (ci := 7) (k := 4) (N := 7) (T := TX7) C hw iw_7 rfl ob_2 (by decide) (by decide) fl_X4_41 rfl rfl dX4_readNegated_12 ?_
        refine lv_topi (fun x_10 ex_10 => ?_)
        have bx_10 : 0 ≤ x_10.toInt ∧ x_10.toInt ≤ 41 := cI_rd iM_4 ob_2.1 ex_10
        have ux_10 : (tI M_4 2 4).toInt = x_10.toInt := by rw [ex_10]
        refine lv_bipush (v := 24) hx hb dX4_readNegated_15 (by decide) ?_
        refine sb_icmp_ne (tgt := 30) hx hb rfl (by decide : (24 : Int32).toInt = 24) dX4_readNegated_17 (by decide) (fun c_17_10 => ?_) (fun c_17_10 => ?_)
        · exact hj_30_17  _ _ _  hw (lv_sub hl [0, 1, 2] rfl)
        · refine lv_aload_n hx hb dX4_readNegated_20 rfl (lv_at hl 1 rfl) ?_
          refine ti_callVvE (ci := 4) (av := []) C hE hw (s_X4_knot l D A cy hJ M_4 iM_4 t ht ((tT_fr f_5).trans hT)) ⟨ml_X4_167, ym_X4_knot, yv_X4_knot, yi_X4_knot, yc_X4_knot⟩ yd_X4_knot ob_1 (by decide) rfl rfl hl.1 (Nat.le_of_ble_eq_true rfl) ⟨by decide, by decide⟩ ⟨Nat.zero_le _, Nat.zero_le _⟩ dX4_readNegated_21 (fun M_13 H locs hp_13 hw => ?_)
          obtain ⟨iM_13, q_14, q_15, q_16⟩ := hp_13
          obtain ⟨x_17, ex_17⟩ : ∃ z : Int32, z = x_1 + 1 := ⟨_, rfl⟩
          have tx_17 : x_17.toInt = x_1.toInt + 1 := i_add ex_17 rfl (by decide) (by omega) (by omega)
          refine lv_iinc (v := x_17) (lv' := [(2, .int x_17), (0, .ref (A 1 0)), (1, .int 8)]) hx hb dX4_readNegated_24 hl (k := 0) rfl (by rw [ex_17]; rfl) (by decide) rfl (fun ls hl => ?_)
          refine lv_goto (tgt := 2) hx hb dX4_readNegated_27 (by decide) ?_
          exact ih_8 x_17 M_13 _ _ _ (by omega) (by first | omega | decide) (by first | omega | decide) iM_13 ((q_14).trans f_5) (f0.trans q_15 f_6) ((q_16).trans f_7) hw (lv_sub hl [0, 1, 2] rfl)
  exact hl_2_7 ((65 - 0 : Int).toNat + 1) 0 M _ _ _ (Nat.lt_succ_self _) (by have lt0 : (0 : Int32).toInt = 0 := (by decide); first | omega | decide) (by have lt0 : (0 : Int32).toInt = 0 := (by decide); first | omega | decide) hI rfl f0.refl rfl hw (lv_sub hl [0, 1, 2] rfl)
set_option maxHeartbeats 4000000 in
set_option maxRecDepth 100000 in
theorem s_X4_readBoth_8 (l : Launch) (D : va_G) (A : Nat → Nat → Nat) (cy : Nat → ClassId) (hJ : ti_inj ti_LT A) (M : ti_M) (hI : cI Tc M) (t : Nat) (ht : t = 3 ∨ t = 4) (hT : tT M 1 1 = some t) (lw : Nat) (hlw : ti_ob ti_LT lw 1) (hL : tT M 1 2 = some lw) : ti_KvE l yX4_readBoth cX4_readBoth 3 13 ti_LT D A cy M [.ref (A 1 0), .int 8] (fun M2 => cI Tc M2 ∧ M2.2.2.2 = M.2.2.2 ∧ f0 M2 M ∧ tI M2 2 1 = tI M 2 1) := by
  refine ti_eVE yp_X4_readBoth hJ ti_LT_nd (Nat.le_of_ble_eq_true rfl) ?_
  intro p e s m args below meth c Q H0 C hE hQ hw ls hl
  have hx := C.1
  have hb := C.2.1
  have hl : lv_has ls 3 [(0, .ref (A 1 0)), (1, .int 8)] := hl
  refine lv_aload_n hx hb dX4_readBoth_0 rfl (lv_at hl 0 rfl) ?_
  refine lv_iload_n hx hb dX4_readBoth_1 rfl (lv_at hl 1 rfl) ?_
  refine ti_callVvE (ci := 4) (av := [.int 8]) C hE hw (s_X4_readNegated_8 l D A cy hJ M hI t ht (hT) lw hlw (hL)) ⟨ml_X4_175, ym_X4_readNegated, yv_X4_readNegated, yi_X4_readNegated, yc_X4_readNegated⟩ yd_X4_readNegated ob_1 (by decide) rfl rfl hl.1 (Nat.le_of_ble_eq_true rfl) ⟨by decide, by decide⟩ ⟨Nat.zero_le _, Nat.zero_le _⟩ dX4_readBoth_2 (fun M_2 H locs hp_2 hw => ?_)
  obtain ⟨iM_2, q_3, q_4, q_5⟩ := hp_2
  refine lv_iconst (v := 0) hx hb dX4_readBoth_5 (by decide) ?_
  refine lv_istore_n (lv' := [(2, .int 0), (0, .ref (A 1 0)), (1, .int 8)]) hx hb dX4_readBoth_6 rfl hl (by decide) rfl (fun ls hl => ?_)
  have hl_7_12 : ∀ (n_13 : Nat) (x_6 : Int32) (M_9 : ti_M) (H : Heap) (locs : List Loc) (ls : Array Slot), (64 - x_6.toInt : Int).toNat < n_13 → (0 ≤ x_6.toInt) → (x_6.toInt ≤ 64) → (cI Tc M_9) → (M_9.2.2.2 = M.2.2.2) → (f0 M_9 M) → (tI M_9 2 1 = tI M 2 1) → ti_H ti_LT D A cy H0 M_9 H locs → lv_has ls 3 [(2, .int x_6), (0, .ref (A 1 0)), (1, .int 8)] → W p l e (ti_rm 13) s m args below meth c H locs 0 0 Q (F0 m 7 ls []) := by
    intro n_13
    induction n_13 with
    | zero => intro x_6 M_9 H locs ls hf_13; exact absurd hf_13 (Nat.not_lt_zero _)
    | succ n_13 ih_13 =>
      intro x_6 M_9 H locs ls hf_13 b_7 b_8 iM_9 f_10 f_11 f_12 hw hl
      refine lv_iload_n hx hb dX4_readBoth_7 rfl (lv_at hl 0 rfl) ?_
      refine lv_bipush (v := 64) hx hb dX4_readBoth_8 (by decide) ?_
      refine sb_icmp_ge (tgt := 49) hx hb rfl (by decide : (64 : Int32).toInt = 64) dX4_readBoth_10 (by decide) (fun c_10_13 => ?_) (fun c_10_13 => ?_)
      · exact hQ _ _ _ _ _ hw (⟨iM_9, (f_10), f_11, (f_12)⟩) dX4_readBoth_49
      · refine lv_aload_n hx hb dX4_readBoth_13 rfl (lv_at hl 1 rfl) ?_
        refine ti_get (ci := 4) (k := 0) (N := 6) (T := TX4) (v := .ref (A 2 0)) C hw iw_4 rfl ob_1 (by decide) (by decide) fl_X4_12 rfl rfl dX4_readBoth_14 ?_
        refine ti_get (ci := 7) (k := 4) (N := 7) (T := TX7) C hw iw_7 rfl ob_2 (by decide) (by decide) fl_X4_41 rfl rfl dX4_readBoth_17 ?_
        refine lv_topi (fun x_15 ex_15 => ?_)
        have bx_15 : 0 ≤ x_15.toInt ∧ x_15.toInt ≤ 41 := cI_rd iM_9 ob_2.1 ex_15
        have ux_15 : (tI M_9 2 4).toInt = x_15.toInt := by rw [ex_15]
        refine lv_bipush (v := 22) hx hb dX4_readBoth_20 (by decide) ?_
        refine sb_icmp_ne (tgt := 49) hx hb rfl (by decide : (22 : Int32).toInt = 22) dX4_readBoth_22 (by decide) (fun c_22_15 => ?_) (fun c_22_15 => ?_)
        · exact hQ _ _ _ _ _ hw (⟨iM_9, (f_10), f_11, (f_12)⟩) dX4_readBoth_49
        · refine lv_aload_n hx hb dX4_readBoth_25 rfl (lv_at hl 1 rfl) ?_
          refine ti_callVvE (ci := 4) (av := []) C hE hw (s_X4_knot l D A cy hJ M_9 iM_9 t ht ((tT_fr f_10).trans hT)) ⟨ml_X4_167, ym_X4_knot, yv_X4_knot, yi_X4_knot, yc_X4_knot⟩ yd_X4_knot ob_1 (by decide) rfl rfl hl.1 (Nat.le_of_ble_eq_true rfl) ⟨by decide, by decide⟩ ⟨Nat.zero_le _, Nat.zero_le _⟩ dX4_readBoth_26 (fun M_18 H locs hp_18 hw => ?_)
          obtain ⟨iM_18, q_19, q_20, q_21⟩ := hp_18
          refine lv_aload_n hx hb dX4_readBoth_29 rfl (lv_at hl 1 rfl) ?_
          refine lv_iload_n hx hb dX4_readBoth_30 rfl (lv_at hl 2 rfl) ?_
          refine ti_callVvE (ci := 4) (av := [.int 8]) C hE hw (s_X4_readNegated_8 l D A cy hJ M_18 iM_18 t ht ((tT_fr q_19).trans ((tT_fr f_10).trans hT)) lw hlw ((tT_fr q_19).trans ((tT_fr f_10).trans hL))) ⟨ml_X4_175, ym_X4_readNegated, yv_X4_readNegated, yi_X4_readNegated, yc_X4_readNegated⟩ yd_X4_readNegated ob_1 (by decide) rfl rfl hl.1 (Nat.le_of_ble_eq_true rfl) ⟨by decide, by decide⟩ ⟨Nat.zero_le _, Nat.zero_le _⟩ dX4_readBoth_31 (fun M_23 H locs hp_23 hw => ?_)
          obtain ⟨iM_23, q_24, q_25, q_26⟩ := hp_23
          refine lv_aload_n hx hb dX4_readBoth_34 rfl (lv_at hl 1 rfl) ?_
          refine ti_get (ci := 4) (k := 2) (N := 6) (T := TX4) (v := .ref (A lw 0)) C hw iw_4 rfl ob_1 (by decide) (by decide) fl_X4_154 rfl (ti_Tv ((tT_fr q_24).trans ((tT_fr q_19).trans ((tT_fr f_10).trans hL)))) dX4_readBoth_35 ?_
          refine lv_bipush (v := (-22)) hx hb dX4_readBoth_38 (by decide) ?_
          refine ti_callVv (ci := 1) (av := [.int (-22)]) C hw (s_X1_add l D A cy hJ M_23 iM_23 lw hlw (-22) (by first | omega | exact Or.inl (by decide) | exact Or.inr (by decide))) ⟨ml_X4_170, ym_X1_add, yv_X1_add, yi_X1_add, yc_X1_add⟩ yd_X1_add hlw (by decide) rfl rfl hl.1 (Nat.le_of_ble_eq_true rfl) ⟨by decide, by decide⟩ ⟨Nat.zero_le _, Nat.zero_le _⟩ dX4_readBoth_40 (fun M_28 H locs hp_28 hw => ?_)
          obtain ⟨iM_28, q_29, q_30⟩ := hp_28
          obtain ⟨x_31, ex_31⟩ : ∃ z : Int32, z = x_6 + 1 := ⟨_, rfl⟩
          have tx_31 : x_31.toInt = x_6.toInt + 1 := i_add ex_31 rfl (by decide) (by omega) (by omega)
          refine lv_iinc (v := x_31) (lv' := [(2, .int x_31), (0, .ref (A 1 0)), (1, .int 8)]) hx hb dX4_readBoth_43 hl (k := 0) rfl (by rw [ex_31]; rfl) (by decide) rfl (fun ls hl => ?_)
          refine lv_goto (tgt := 7) hx hb dX4_readBoth_46 (by decide) ?_
          exact ih_13 x_31 M_28 _ _ _ (by omega) (by first | omega | decide) (by first | omega | decide) iM_28 ((q_29).trans ((q_24).trans ((q_19).trans f_10))) (f0.trans (f0_x q_30) (f0.trans q_25 (f0.trans q_20 f_11))) (((q_30 1).2.1).trans ((q_26).trans ((q_21).trans f_12))) hw (lv_sub hl [0, 1, 2] rfl)
  exact hl_7_12 ((64 - 0 : Int).toNat + 1) 0 M_2 _ _ _ (Nat.lt_succ_self _) (by have lt0 : (0 : Int32).toInt = 0 := (by decide); first | omega | decide) (by have lt0 : (0 : Int32).toInt = 0 := (by decide); first | omega | decide) iM_2 (q_3) q_4 (q_5) hw (lv_sub hl [0, 1, 2] rfl)
set_option maxHeartbeats 4000000 in
set_option maxRecDepth 100000 in
theorem s_X4_readEither_8 (l : Launch) (D : va_G) (A : Nat → Nat → Nat) (cy : Nat → ClassId) (hJ : ti_inj ti_LT A) (M : ti_M) (hI : cI Tc M) (t : Nat) (ht : t = 3 ∨ t = 4) (hT : tT M 1 1 = some t) (lw : Nat) (hlw : ti_ob ti_LT lw 1) (hL : tT M 1 2 = some lw) : ti_KvE l yX4_readEither cX4_readEither 3 14 ti_LT D A cy M [.ref (A 1 0), .int 8] (fun M2 => cI Tc M2 ∧ M2.2.2.2 = M.2.2.2 ∧ f0 M2 M ∧ tI M2 2 1 = tI M 2 1) := by
  refine ti_eVE yp_X4_readEither hJ ti_LT_nd (Nat.le_of_ble_eq_true rfl) ?_
  intro p e s m args below meth c Q H0 C hE hQ hw ls hl
  have hx := C.1
  have hb := C.2.1
  have hl : lv_has ls 3 [(0, .ref (A 1 0)), (1, .int 8)] := hl
  refine lv_aload_n hx hb dX4_readEither_0 rfl (lv_at hl 0 rfl) ?_
  refine lv_iload_n hx hb dX4_readEither_1 rfl (lv_at hl 1 rfl) ?_
  refine ti_callVvE (ci := 4) (av := [.int 8]) C hE hw (s_X4_readBoth_8 l D A cy hJ M hI t ht (hT) lw hlw (hL)) ⟨ml_X4_164, ym_X4_readBoth, yv_X4_readBoth, yi_X4_readBoth, yc_X4_readBoth⟩ yd_X4_readBoth ob_1 (by decide) rfl rfl hl.1 (Nat.le_of_ble_eq_true rfl) ⟨by decide, by decide⟩ ⟨Nat.zero_le _, Nat.zero_le _⟩ dX4_readEither_2 (fun M_2 H locs hp_2 hw => ?_)
  obtain ⟨iM_2, q_3, q_4, q_5⟩ := hp_2
  refine lv_iconst (v := 0) hx hb dX4_readEither_5 (by decide) ?_
  refine lv_istore_n (lv' := [(2, .int 0), (0, .ref (A 1 0)), (1, .int 8)]) hx hb dX4_readEither_6 rfl hl (by decide) rfl (fun ls hl => ?_)
  have hl_7_12 : ∀ (n_13 : Nat) (x_6 : Int32) (M_9 : ti_M) (H : Heap) (locs : List Loc) (ls : Array Slot), (64 - x_6.toInt : Int).toNat < n_13 → (0 ≤ x_6.toInt) → (x_6.toInt ≤ 64) → (cI Tc M_9) → (M_9.2.2.2 = M.2.2.2) → (f0 M_9 M) → (tI M_9 2 1 = tI M 2 1) → ti_H ti_LT D A cy H0 M_9 H locs → lv_has ls 3 [(2, .int x_6), (0, .ref (A 1 0)), (1, .int 8)] → W p l e (ti_rm 14) s m args below meth c H locs 0 0 Q (F0 m 7 ls []) := by
    intro n_13
    induction n_13 with
    | zero => intro x_6 M_9 H locs ls hf_13; exact absurd hf_13 (Nat.not_lt_zero _)
    | succ n_13 ih_13 =>
      intro x_6 M_9 H locs ls hf_13 b_7 b_8 iM_9 f_10 f_11 f_12 hw hl
      refine lv_iload_n hx hb dX4_readEither_7 rfl (lv_at hl 0 rfl) ?_
      refine lv_bipush (v := 64) hx hb dX4_readEither_8 (by decide) ?_
      refine sb_icmp_ge (tgt := 49) hx hb rfl (by decide : (64 : Int32).toInt = 64) dX4_readEither_10 (by decide) (fun c_10_13 => ?_) (fun c_10_13 => ?_)
      · exact hQ _ _ _ _ _ hw (⟨iM_9, (f_10), f_11, (f_12)⟩) dX4_readEither_49
      · refine lv_aload_n hx hb dX4_readEither_13 rfl (lv_at hl 1 rfl) ?_
        refine ti_get (ci := 4) (k := 0) (N := 6) (T := TX4) (v := .ref (A 2 0)) C hw iw_4 rfl ob_1 (by decide) (by decide) fl_X4_12 rfl rfl dX4_readEither_14 ?_
        refine ti_get (ci := 7) (k := 4) (N := 7) (T := TX7) C hw iw_7 rfl ob_2 (by decide) (by decide) fl_X4_41 rfl rfl dX4_readEither_17 ?_
        refine lv_topi (fun x_15 ex_15 => ?_)
        have bx_15 : 0 ≤ x_15.toInt ∧ x_15.toInt ≤ 41 := cI_rd iM_9 ob_2.1 ex_15
        have ux_15 : (tI M_9 2 4).toInt = x_15.toInt := by rw [ex_15]
        refine lv_bipush (v := 23) hx hb dX4_readEither_20 (by decide) ?_
        refine sb_icmp_ne (tgt := 49) hx hb rfl (by decide : (23 : Int32).toInt = 23) dX4_readEither_22 (by decide) (fun c_22_15 => ?_) (fun c_22_15 => ?_)
        · exact hQ _ _ _ _ _ hw (⟨iM_9, (f_10), f_11, (f_12)⟩) dX4_readEither_49
        · refine lv_aload_n hx hb dX4_readEither_25 rfl (lv_at hl 1 rfl) ?_
          refine ti_callVvE (ci := 4) (av := []) C hE hw (s_X4_knot l D A cy hJ M_9 iM_9 t ht ((tT_fr f_10).trans hT)) ⟨ml_X4_167, ym_X4_knot, yv_X4_knot, yi_X4_knot, yc_X4_knot⟩ yd_X4_knot ob_1 (by decide) rfl rfl hl.1 (Nat.le_of_ble_eq_true rfl) ⟨by decide, by decide⟩ ⟨Nat.zero_le _, Nat.zero_le _⟩ dX4_readEither_26 (fun M_18 H locs hp_18 hw => ?_)
          obtain ⟨iM_18, q_19, q_20, q_21⟩ := hp_18
          refine lv_aload_n hx hb dX4_readEither_29 rfl (lv_at hl 1 rfl) ?_
          refine lv_iload_n hx hb dX4_readEither_30 rfl (lv_at hl 2 rfl) ?_
          refine ti_callVvE (ci := 4) (av := [.int 8]) C hE hw (s_X4_readBoth_8 l D A cy hJ M_18 iM_18 t ht ((tT_fr q_19).trans ((tT_fr f_10).trans hT)) lw hlw ((tT_fr q_19).trans ((tT_fr f_10).trans hL))) ⟨ml_X4_164, ym_X4_readBoth, yv_X4_readBoth, yi_X4_readBoth, yc_X4_readBoth⟩ yd_X4_readBoth ob_1 (by decide) rfl rfl hl.1 (Nat.le_of_ble_eq_true rfl) ⟨by decide, by decide⟩ ⟨Nat.zero_le _, Nat.zero_le _⟩ dX4_readEither_31 (fun M_23 H locs hp_23 hw => ?_)
          obtain ⟨iM_23, q_24, q_25, q_26⟩ := hp_23
          refine lv_aload_n hx hb dX4_readEither_34 rfl (lv_at hl 1 rfl) ?_
          refine ti_get (ci := 4) (k := 2) (N := 6) (T := TX4) (v := .ref (A lw 0)) C hw iw_4 rfl ob_1 (by decide) (by decide) fl_X4_154 rfl (ti_Tv ((tT_fr q_24).trans ((tT_fr q_19).trans ((tT_fr f_10).trans hL)))) dX4_readEither_35 ?_
          refine lv_bipush (v := (-23)) hx hb dX4_readEither_38 (by decide) ?_
          refine ti_callVv (ci := 1) (av := [.int (-23)]) C hw (s_X1_add l D A cy hJ M_23 iM_23 lw hlw (-23) (by first | omega | exact Or.inl (by decide) | exact Or.inr (by decide))) ⟨ml_X4_170, ym_X1_add, yv_X1_add, yi_X1_add, yc_X1_add⟩ yd_X1_add hlw (by decide) rfl rfl hl.1 (Nat.le_of_ble_eq_true rfl) ⟨by decide, by decide⟩ ⟨Nat.zero_le _, Nat.zero_le _⟩ dX4_readEither_40 (fun M_28 H locs hp_28 hw => ?_)
          obtain ⟨iM_28, q_29, q_30⟩ := hp_28
          obtain ⟨x_31, ex_31⟩ : ∃ z : Int32, z = x_6 + 1 := ⟨_, rfl⟩
          have tx_31 : x_31.toInt = x_6.toInt + 1 := i_add ex_31 rfl (by decide) (by omega) (by omega)
          refine lv_iinc (v := x_31) (lv' := [(2, .int x_31), (0, .ref (A 1 0)), (1, .int 8)]) hx hb dX4_readEither_43 hl (k := 0) rfl (by rw [ex_31]; rfl) (by decide) rfl (fun ls hl => ?_)
          refine lv_goto (tgt := 7) hx hb dX4_readEither_46 (by decide) ?_
          exact ih_13 x_31 M_28 _ _ _ (by omega) (by first | omega | decide) (by first | omega | decide) iM_28 ((q_29).trans ((q_24).trans ((q_19).trans f_10))) (f0.trans (f0_x q_30) (f0.trans q_25 (f0.trans q_20 f_11))) (((q_30 1).2.1).trans ((q_26).trans ((q_21).trans f_12))) hw (lv_sub hl [0, 1, 2] rfl)
  exact hl_7_12 ((64 - 0 : Int).toNat + 1) 0 M_2 _ _ _ (Nat.lt_succ_self _) (by have lt0 : (0 : Int32).toInt = 0 := (by decide); first | omega | decide) (by have lt0 : (0 : Int32).toInt = 0 := (by decide); first | omega | decide) iM_2 (q_3) q_4 (q_5) hw (lv_sub hl [0, 1, 2] rfl)
set_option maxHeartbeats 4000000 in
set_option maxRecDepth 100000 in
theorem s_X4_readPart_7 (l : Launch) (D : va_G) (A : Nat → Nat → Nat) (cy : Nat → ClassId) (hJ : ti_inj ti_LT A) (M : ti_M) (hI : cI Tc M) (t : Nat) (ht : t = 3 ∨ t = 4) (hT : tT M 1 1 = some t) (lw : Nat) (hlw : ti_ob ti_LT lw 1) (hL : tT M 1 2 = some lw) : ti_KvE l yX4_readPart cX4_readPart 3 15 ti_LT D A cy M [.ref (A 1 0), .int 7] (fun M2 => cI Tc M2 ∧ M2.2.2.2 = M.2.2.2 ∧ f0 M2 M ∧ tI M2 2 1 = tI M 2 1) := by
  refine ti_eVE yp_X4_readPart hJ ti_LT_nd (Nat.le_of_ble_eq_true rfl) ?_
  intro p e s m args below meth c Q H0 C hE hQ hw ls hl
  have hx := C.1
  have hb := C.2.1
  have hl : lv_has ls 3 [(0, .ref (A 1 0)), (1, .int 7)] := hl
  refine lv_aload_n hx hb dX4_readPart_0 rfl (lv_at hl 0 rfl) ?_
  refine ti_get (ci := 4) (k := 0) (N := 6) (T := TX4) (v := .ref (A 2 0)) C hw iw_4 rfl ob_1 (by decide) (by decide) fl_X4_12 rfl rfl dX4_readPart_1 ?_
  refine ti_get (ci := 7) (k := 4) (N := 7) (T := TX7) C hw iw_7 rfl ob_2 (by decide) (by decide) fl_X4_41 rfl rfl dX4_readPart_4 ?_
  refine lv_topi (fun x_1 ex_1 => ?_)
  have bx_1 : 0 ≤ x_1.toInt ∧ x_1.toInt ≤ 41 := cI_rd hI ob_2.1 ex_1
  have ux_1 : (tI M 2 4).toInt = x_1.toInt := by rw [ex_1]
  refine lv_istore_n (lv' := [(2, .int x_1), (0, .ref (A 1 0)), (1, .int 7)]) hx hb dX4_readPart_7 rfl hl (by decide) rfl (fun ls hl => ?_)
  refine lv_iload_n hx hb dX4_readPart_8 rfl (lv_at hl 0 rfl) ?_
  refine lv_bipush (v := 30) hx hb dX4_readPart_9 (by decide) ?_
  have hj_28_3 : ∀  (H : Heap) (locs : List Loc) (ls : Array Slot), ti_H ti_LT D A cy H0 M H locs → lv_has ls 3 [(2, .int x_1), (0, .ref (A 1 0)), (1, .int 7)] → W p l e (ti_rm 15) s m args below meth c H locs 0 0 Q (F0 m 28 ls []) := by
    intro  H locs ls  hw hl
    refine lv_iload_n hx hb dX4_readPart_28 rfl (lv_at hl 0 rfl) ?_
    refine lv_bipush (v := 30) hx hb dX4_readPart_29 (by decide) ?_
    refine sb_icmp_ne (tgt := 57) hx hb rfl (by decide : (30 : Int32).toInt = 30) dX4_readPart_31 (by decide) (fun c_31_3 => ?_) (fun c_31_3 => ?_)
    · refine lv_iload_n hx hb dX4_readPart_57 rfl (lv_at hl 0 rfl) ?_
      refine lv_bipush (v := 26) hx hb dX4_readPart_58 (by decide) ?_
      have hj_84_27 : ∀  (H : Heap) (locs : List Loc) (ls : Array Slot), ti_H ti_LT D A cy H0 M H locs → lv_has ls 3 [(2, .int x_1), (0, .ref (A 1 0)), (1, .int 7)] → W p l e (ti_rm 15) s m args below meth c H locs 0 0 Q (F0 m 84 ls []) := by
        intro  H locs ls  hw hl
        refine lv_iload_n hx hb dX4_readPart_84 rfl (lv_at hl 0 rfl) ?_
        refine lv_bipush (v := 26) hx hb dX4_readPart_85 (by decide) ?_
        refine sb_icmp_ne (tgt := 111) hx hb rfl (by decide : (26 : Int32).toInt = 26) dX4_readPart_87 (by decide) (fun c_87_27 => ?_) (fun c_87_27 => ?_)
        · refine lv_iload_n hx hb dX4_readPart_111 rfl (lv_at hl 0 rfl) ?_
          refine lv_bipush (v := 16) hx hb dX4_readPart_112 (by decide) ?_
          have hj_139_50 : ∀  (H : Heap) (locs : List Loc) (ls : Array Slot), ti_H ti_LT D A cy H0 M H locs → lv_has ls 3 [(2, .int x_1), (0, .ref (A 1 0)), (1, .int 7)] → W p l e (ti_rm 15) s m args below meth c H locs 0 0 Q (F0 m 139 ls []) := by
            intro  H locs ls  hw hl
            refine lv_aload_n hx hb dX4_readPart_139 rfl (lv_at hl 1 rfl) ?_
            refine lv_iconst (v := 1) hx hb dX4_readPart_140 (by decide) ?_
            refine ti_callVv (ci := 4) (av := [.int 1]) C hw (s_X4_refuse l D A cy hJ M hI 1) ⟨ml_X4_82, ym_X4_refuse, yv_X4_refuse, yi_X4_refuse, yc_X4_refuse⟩ yd_X4_refuse ob_1 (by decide) rfl rfl hl.1 (Nat.le_of_ble_eq_true rfl) ⟨by decide, by decide⟩ ⟨Nat.zero_le _, Nat.zero_le _⟩ dX4_readPart_141 (fun M_52 H locs hp_52 hw => ?_)
            obtain ⟨iM_52, q_53, q_54, q_55⟩ := hp_52
            exact hQ _ _ _ _ _ hw (⟨iM_52, (q_53), (f0_12 q_54), (q_55)⟩) dX4_readPart_144
          refine sb_icmp_lt (tgt := 139) hx hb rfl (by decide : (16 : Int32).toInt = 16) dX4_readPart_114 (by decide) (fun c_114_38 => ?_) (fun c_114_38 => ?_)
          · exact hj_139_50  _ _ _  hw (lv_sub hl [0, 1, 2] rfl)
          · refine lv_iload_n hx hb dX4_readPart_117 rfl (lv_at hl 0 rfl) ?_
            refine lv_bipush (v := 21) hx hb dX4_readPart_118 (by decide) ?_
            refine sb_icmp_gt (tgt := 139) hx hb rfl (by decide : (21 : Int32).toInt = 21) dX4_readPart_120 (by decide) (fun c_120_39 => ?_) (fun c_120_39 => ?_)
            · exact hj_139_50  _ _ _  hw (lv_sub hl [0, 1, 2] rfl)
            · refine lv_aload_n hx hb dX4_readPart_123 rfl (lv_at hl 1 rfl) ?_
              refine ti_get (ci := 4) (k := 2) (N := 6) (T := TX4) (v := .ref (A lw 0)) C hw iw_4 rfl ob_1 (by decide) (by decide) fl_X4_154 rfl (ti_Tv (hL)) dX4_readPart_124 ?_
              refine lv_iload_n hx hb dX4_readPart_127 rfl (lv_at hl 0 rfl) ?_
              refine lv_ineg hx hb dX4_readPart_128 ?_
              refine lv_topi (fun x_41 ex_41 => ?_)
              have tx_41 : x_41.toInt = -x_1.toInt := i_neg ex_41 rfl (by omega)
              refine ti_callVv (ci := 1) (av := [.int x_41]) C hw (s_X1_add l D A cy hJ M hI lw hlw x_41 (by first | omega | exact Or.inl (by decide) | exact Or.inr (by decide))) ⟨ml_X4_170, ym_X1_add, yv_X1_add, yi_X1_add, yc_X1_add⟩ yd_X1_add hlw (by decide) rfl rfl hl.1 (Nat.le_of_ble_eq_true rfl) ⟨by decide, by decide⟩ ⟨Nat.zero_le _, Nat.zero_le _⟩ dX4_readPart_129 (fun M_43 H locs hp_43 hw => ?_)
              obtain ⟨iM_43, q_44, q_45⟩ := hp_43
              refine lv_aload_n hx hb dX4_readPart_132 rfl (lv_at hl 1 rfl) ?_
              refine ti_callVvE (ci := 4) (av := []) C hE hw (s_X4_knot l D A cy hJ M_43 iM_43 t ht ((tT_fr q_44).trans hT)) ⟨ml_X4_167, ym_X4_knot, yv_X4_knot, yi_X4_knot, yc_X4_knot⟩ yd_X4_knot ob_1 (by decide) rfl rfl hl.1 (Nat.le_of_ble_eq_true rfl) ⟨by decide, by decide⟩ ⟨Nat.zero_le _, Nat.zero_le _⟩ dX4_readPart_133 (fun M_47 H locs hp_47 hw => ?_)
              obtain ⟨iM_47, q_48, q_49, q_50⟩ := hp_47
              refine lv_goto (tgt := 144) hx hb dX4_readPart_136 (by decide) ?_
              exact hQ _ _ _ _ _ hw (⟨iM_47, ((q_48).trans q_44), (f0.trans q_49 (f0_x q_45)), ((q_50).trans ((q_45 1).2.1))⟩) dX4_readPart_144
        · refine lv_aload_n hx hb dX4_readPart_90 rfl (lv_at hl 1 rfl) ?_
          refine ti_get (ci := 4) (k := 2) (N := 6) (T := TX4) (v := .ref (A lw 0)) C hw iw_4 rfl ob_1 (by decide) (by decide) fl_X4_154 rfl (ti_Tv (hL)) dX4_readPart_91 ?_
          refine lv_aload_n hx hb dX4_readPart_94 rfl (lv_at hl 1 rfl) ?_
          refine ti_get (ci := 4) (k := 0) (N := 6) (T := TX4) (v := .ref (A 2 0)) C hw iw_4 rfl ob_1 (by decide) (by decide) fl_X4_12 rfl rfl dX4_readPart_95 ?_
          refine ti_get (ci := 7) (k := 6) (N := 7) (T := TX7) C hw iw_7 rfl ob_2 (by decide) (by decide) fl_X4_95 rfl rfl dX4_readPart_98 ?_
          refine lv_topi (fun x_29 ex_29 => ?_)
          have bx_29 : 0 ≤ x_29.toInt ∧ x_29.toInt ≤ 2147483647 := cI_rd hI ob_2.1 ex_29
          have ux_29 : (tI M 2 6).toInt = x_29.toInt := by rw [ex_29]
          refine ti_callVv (ci := 1) (av := [.int x_29]) C hw (s_X1_add l D A cy hJ M hI lw hlw x_29 (by first | omega | exact Or.inl (by decide) | exact Or.inr (by decide))) ⟨ml_X4_170, ym_X1_add, yv_X1_add, yi_X1_add, yc_X1_add⟩ yd_X1_add hlw (by decide) rfl rfl hl.1 (Nat.le_of_ble_eq_true rfl) ⟨by decide, by decide⟩ ⟨Nat.zero_le _, Nat.zero_le _⟩ dX4_readPart_101 (fun M_31 H locs hp_31 hw => ?_)
          obtain ⟨iM_31, q_32, q_33⟩ := hp_31
          refine lv_aload_n hx hb dX4_readPart_104 rfl (lv_at hl 1 rfl) ?_
          refine ti_callVvE (ci := 4) (av := []) C hE hw (s_X4_knot l D A cy hJ M_31 iM_31 t ht ((tT_fr q_32).trans hT)) ⟨ml_X4_167, ym_X4_knot, yv_X4_knot, yi_X4_knot, yc_X4_knot⟩ yd_X4_knot ob_1 (by decide) rfl rfl hl.1 (Nat.le_of_ble_eq_true rfl) ⟨by decide, by decide⟩ ⟨Nat.zero_le _, Nat.zero_le _⟩ dX4_readPart_105 (fun M_35 H locs hp_35 hw => ?_)
          obtain ⟨iM_35, q_36, q_37, q_38⟩ := hp_35
          refine lv_goto (tgt := 144) hx hb dX4_readPart_108 (by decide) ?_
          exact hQ _ _ _ _ _ hw (⟨iM_35, ((q_36).trans q_32), (f0.trans q_37 (f0_x q_33)), ((q_38).trans ((q_33 1).2.1))⟩) dX4_readPart_144
      refine sb_icmp_ne (tgt := 84) hx hb rfl (by decide : (26 : Int32).toInt = 26) dX4_readPart_60 (by decide) (fun c_60_19 => ?_) (fun c_60_19 => ?_)
      · exact hj_84_27  _ _ _  hw (lv_sub hl [0, 1, 2] rfl)
      · refine lv_aload_n hx hb dX4_readPart_63 rfl (lv_at hl 1 rfl) ?_
        refine ti_get (ci := 4) (k := 0) (N := 6) (T := TX4) (v := .ref (A 2 0)) C hw iw_4 rfl ob_1 (by decide) (by decide) fl_X4_12 rfl rfl dX4_readPart_64 ?_
        refine ti_get (ci := 7) (k := 6) (N := 7) (T := TX7) C hw iw_7 rfl ob_2 (by decide) (by decide) fl_X4_95 rfl rfl dX4_readPart_67 ?_
        refine lv_topi (fun x_21 ex_21 => ?_)
        have bx_21 : 0 ≤ x_21.toInt ∧ x_21.toInt ≤ 2147483647 := cI_rd hI ob_2.1 ex_21
        have ux_21 : (tI M 2 6).toInt = x_21.toInt := by rw [ex_21]
        refine lv_sipush (v := 9999) hx hb dX4_readPart_70 (by decide) ?_
        refine sb_icmp_le (tgt := 84) hx hb rfl (by decide : (9999 : Int32).toInt = 9999) dX4_readPart_73 (by decide) (fun c_73_21 => ?_) (fun c_73_21 => ?_)
        · exact hj_84_27  _ _ _  hw (lv_sub hl [0, 1, 2] rfl)
        · refine lv_aload_n hx hb dX4_readPart_76 rfl (lv_at hl 1 rfl) ?_
          refine lv_iconst (v := 2) hx hb dX4_readPart_77 (by decide) ?_
          refine ti_callVv (ci := 4) (av := [.int 2]) C hw (s_X4_refuse l D A cy hJ M hI 2) ⟨ml_X4_82, ym_X4_refuse, yv_X4_refuse, yi_X4_refuse, yc_X4_refuse⟩ yd_X4_refuse ob_1 (by decide) rfl rfl hl.1 (Nat.le_of_ble_eq_true rfl) ⟨by decide, by decide⟩ ⟨Nat.zero_le _, Nat.zero_le _⟩ dX4_readPart_78 (fun M_24 H locs hp_24 hw => ?_)
          obtain ⟨iM_24, q_25, q_26, q_27⟩ := hp_24
          refine lv_goto (tgt := 144) hx hb dX4_readPart_81 (by decide) ?_
          exact hQ _ _ _ _ _ hw (⟨iM_24, (q_25), (f0_12 q_26), (q_27)⟩) dX4_readPart_144
    · refine lv_aload_n hx hb dX4_readPart_34 rfl (lv_at hl 1 rfl) ?_
      refine ti_get (ci := 4) (k := 0) (N := 6) (T := TX4) (v := .ref (A 2 0)) C hw iw_4 rfl ob_1 (by decide) (by decide) fl_X4_12 rfl rfl dX4_readPart_35 ?_
      refine ti_callVvE (ci := 7) (av := []) C hE hw (s_X7_advance l D A cy hJ M hI ) ⟨ml_X4_92, ym_X7_advance, yv_X7_advance, yi_X7_advance, yc_X7_advance⟩ yd_X7_advance ob_2 (by decide) rfl rfl hl.1 (Nat.le_of_ble_eq_true rfl) ⟨by decide, by decide⟩ ⟨Nat.zero_le _, Nat.zero_le _⟩ dX4_readPart_38 (fun M_6 H locs hp_6 hw => ?_)
      obtain ⟨iM_6, q_7, q_8, q_9⟩ := hp_6
      refine lv_aload_n hx hb dX4_readPart_41 rfl (lv_at hl 1 rfl) ?_
      refine lv_iload_n hx hb dX4_readPart_42 rfl (lv_at hl 2 rfl) ?_
      refine lv_iconst (v := 1) hx hb dX4_readPart_43 (by decide) ?_
      refine lv_iadd hx hb dX4_readPart_44 ?_
      refine ti_top (y := 8) (by decide) ?_
      refine ti_callVvE (ci := 4) (av := [.int 8]) C hE hw (s_X4_readEither_8 l D A cy hJ M_6 iM_6 t ht ((tT_fr q_7).trans hT) lw hlw ((tT_fr q_7).trans hL)) ⟨ml_X4_158, ym_X4_readEither, yv_X4_readEither, yi_X4_readEither, yc_X4_readEither⟩ yd_X4_readEither ob_1 (by decide) rfl rfl hl.1 (Nat.le_of_ble_eq_true rfl) ⟨by decide, by decide⟩ ⟨Nat.zero_le _, Nat.zero_le _⟩ dX4_readPart_45 (fun M_11 H locs hp_11 hw => ?_)
      obtain ⟨iM_11, q_12, q_13, q_14⟩ := hp_11
      refine lv_aload_n hx hb dX4_readPart_48 rfl (lv_at hl 1 rfl) ?_
      refine lv_bipush (v := 31) hx hb dX4_readPart_49 (by decide) ?_
      refine ti_callVvE (ci := 4) (av := [.int 31]) C hE hw (s_X4_take l D A cy hJ M_11 iM_11 31) ⟨ml_X4_85, ym_X4_take, yv_X4_take, yi_X4_take, yc_X4_take⟩ yd_X4_take ob_1 (by decide) rfl rfl hl.1 (Nat.le_of_ble_eq_true rfl) ⟨by decide, by decide⟩ ⟨Nat.zero_le _, Nat.zero_le _⟩ dX4_readPart_51 (fun M_16 H locs hp_16 hw => ?_)
      obtain ⟨iM_16, q_17, q_18, q_19⟩ := hp_16
      refine lv_goto (tgt := 144) hx hb dX4_readPart_54 (by decide) ?_
      exact hQ _ _ _ _ _ hw (⟨iM_16, ((q_17).trans ((q_12).trans q_7)), (f0.trans (f0_12 q_18) (f0.trans q_13 (f0_12 q_8))), ((q_19).trans ((q_14).trans q_9))⟩) dX4_readPart_144
  refine sb_icmp_ne (tgt := 28) hx hb rfl (by decide : (30 : Int32).toInt = 30) dX4_readPart_11 (by decide) (fun c_11_1 => ?_) (fun c_11_1 => ?_)
  · exact hj_28_3  _ _ _  hw (lv_sub hl [0, 1, 2] rfl)
  · refine lv_iload_n hx hb dX4_readPart_14 rfl (lv_at hl 2 rfl) ?_
    refine lv_bipush (v := 8) hx hb dX4_readPart_15 (by decide) ?_
    refine sb_icmp_lt (tgt := 28) hx hb (by decide : (7 : Int32).toInt = 7) (by decide : (8 : Int32).toInt = 8) dX4_readPart_17 (by decide) (fun c_17_2 => ?_) (fun h => absurd h (by decide))
    exact hj_28_3  _ _ _  hw (lv_sub hl [0, 1, 2] rfl)
set_option maxHeartbeats 4000000 in
set_option maxRecDepth 100000 in
theorem s_X4_readProduct_7 (l : Launch) (D : va_G) (A : Nat → Nat → Nat) (cy : Nat → ClassId) (hJ : ti_inj ti_LT A) (M : ti_M) (hI : cI Tc M) (t : Nat) (ht : t = 3 ∨ t = 4) (hT : tT M 1 1 = some t) (lw : Nat) (hlw : ti_ob ti_LT lw 1) (hL : tT M 1 2 = some lw) : ti_KvE l yX4_readProduct cX4_readProduct 4 16 ti_LT D A cy M [.ref (A 1 0), .int 7] (fun M2 => cI Tc M2 ∧ M2.2.2.2 = M.2.2.2 ∧ f0 M2 M ∧ tI M2 2 1 = tI M 2 1) := by
  refine ti_eVE yp_X4_readProduct hJ ti_LT_nd (Nat.le_of_ble_eq_true rfl) ?_
  intro p e s m args below meth c Q H0 C hE hQ hw ls hl
  have hx := C.1
  have hb := C.2.1
  have hl : lv_has ls 4 [(0, .ref (A 1 0)), (1, .int 7)] := hl
  refine lv_aload_n hx hb dX4_readProduct_0 rfl (lv_at hl 0 rfl) ?_
  refine lv_iload_n hx hb dX4_readProduct_1 rfl (lv_at hl 1 rfl) ?_
  refine ti_callVvE (ci := 4) (av := [.int 7]) C hE hw (s_X4_readPart_7 l D A cy hJ M hI t ht (hT) lw hlw (hL)) ⟨ml_X4_187, ym_X4_readPart, yv_X4_readPart, yi_X4_readPart, yc_X4_readPart⟩ yd_X4_readPart ob_1 (by decide) rfl rfl hl.1 (Nat.le_of_ble_eq_true rfl) ⟨by decide, by decide⟩ ⟨Nat.zero_le _, Nat.zero_le _⟩ dX4_readProduct_2 (fun M_2 H locs hp_2 hw => ?_)
  obtain ⟨iM_2, q_3, q_4, q_5⟩ := hp_2
  refine lv_iconst (v := 0) hx hb dX4_readProduct_5 (by decide) ?_
  refine lv_istore_n (lv' := [(2, .int 0), (0, .ref (A 1 0)), (1, .int 7)]) hx hb dX4_readProduct_6 rfl hl (by decide) rfl (fun ls hl => ?_)
  have hl_7_12 : ∀ (n_13 : Nat) (x_6 : Int32) (M_9 : ti_M) (H : Heap) (locs : List Loc) (ls : Array Slot), (64 - x_6.toInt : Int).toNat < n_13 → (0 ≤ x_6.toInt) → (x_6.toInt ≤ 64) → (cI Tc M_9) → (M_9.2.2.2 = M.2.2.2) → (f0 M_9 M) → (tI M_9 2 1 = tI M 2 1) → ti_H ti_LT D A cy H0 M_9 H locs → lv_has ls 4 [(2, .int x_6), (0, .ref (A 1 0)), (1, .int 7)] → W p l e (ti_rm 16) s m args below meth c H locs 0 0 Q (F0 m 7 ls []) := by
    intro n_13
    induction n_13 with
    | zero => intro x_6 M_9 H locs ls hf_13; exact absurd hf_13 (Nat.not_lt_zero _)
    | succ n_13 ih_13 =>
      intro x_6 M_9 H locs ls hf_13 b_7 b_8 iM_9 f_10 f_11 f_12 hw hl
      refine lv_iload_n hx hb dX4_readProduct_7 rfl (lv_at hl 0 rfl) ?_
      refine lv_bipush (v := 64) hx hb dX4_readProduct_8 (by decide) ?_
      refine sb_icmp_ge (tgt := 69) hx hb rfl (by decide : (64 : Int32).toInt = 64) dX4_readProduct_10 (by decide) (fun c_10_13 => ?_) (fun c_10_13 => ?_)
      · exact hQ _ _ _ _ _ hw (⟨iM_9, (f_10), f_11, (f_12)⟩) dX4_readProduct_69
      · refine lv_aload_n hx hb dX4_readProduct_13 rfl (lv_at hl 1 rfl) ?_
        refine ti_get (ci := 4) (k := 0) (N := 6) (T := TX4) (v := .ref (A 2 0)) C hw iw_4 rfl ob_1 (by decide) (by decide) fl_X4_12 rfl rfl dX4_readProduct_14 ?_
        refine ti_get (ci := 7) (k := 4) (N := 7) (T := TX7) C hw iw_7 rfl ob_2 (by decide) (by decide) fl_X4_41 rfl rfl dX4_readProduct_17 ?_
        refine lv_topi (fun x_15 ex_15 => ?_)
        have bx_15 : 0 ≤ x_15.toInt ∧ x_15.toInt ≤ 41 := cI_rd iM_9 ob_2.1 ex_15
        have ux_15 : (tI M_9 2 4).toInt = x_15.toInt := by rw [ex_15]
        refine lv_bipush (v := 40) hx hb dX4_readProduct_20 (by decide) ?_
        have hj_37_19 : ∀  (H : Heap) (locs : List Loc) (ls : Array Slot), (16 ≤ (tI M_9 2 4).toInt) → ti_H ti_LT D A cy H0 M_9 H locs → lv_has ls 4 [(2, .int x_6), (0, .ref (A 1 0)), (1, .int 7)] → W p l e (ti_rm 16) s m args below meth c H locs 0 0 Q (F0 m 37 ls []) := by
          intro  H locs ls j_19 hw hl
          refine lv_aload_n hx hb dX4_readProduct_37 rfl (lv_at hl 1 rfl) ?_
          refine ti_get (ci := 4) (k := 0) (N := 6) (T := TX4) (v := .ref (A 2 0)) C hw iw_4 rfl ob_1 (by decide) (by decide) fl_X4_12 rfl rfl dX4_readProduct_38 ?_
          refine ti_get (ci := 7) (k := 4) (N := 7) (T := TX7) C hw iw_7 rfl ob_2 (by decide) (by decide) fl_X4_41 rfl rfl dX4_readProduct_41 ?_
          refine ti_top (y := x_15) (ex_15.symm) ?_
          have u_22 : (tI M_9 2 4).toInt = (x_15 : Int32).toInt := by rw [(ex_15.symm)]
          refine lv_istore_n (lv' := [(3, .int x_15), (2, .int x_6), (0, .ref (A 1 0)), (1, .int 7)]) hx hb dX4_readProduct_44 rfl hl (by decide) rfl (fun ls hl => ?_)
          refine lv_aload_n hx hb dX4_readProduct_45 rfl (lv_at hl 2 rfl) ?_
          refine ti_callVvE (ci := 4) (av := []) C hE hw (s_X4_knot l D A cy hJ M_9 iM_9 t ht ((tT_fr f_10).trans hT)) ⟨ml_X4_167, ym_X4_knot, yv_X4_knot, yi_X4_knot, yc_X4_knot⟩ yd_X4_knot ob_1 (by decide) rfl rfl hl.1 (Nat.le_of_ble_eq_true rfl) ⟨by decide, by decide⟩ ⟨Nat.zero_le _, Nat.zero_le _⟩ dX4_readProduct_46 (fun M_24 H locs hp_24 hw => ?_)
          obtain ⟨iM_24, q_25, q_26, q_27⟩ := hp_24
          refine lv_aload_n hx hb dX4_readProduct_49 rfl (lv_at hl 2 rfl) ?_
          refine lv_iload_n hx hb dX4_readProduct_50 rfl (lv_at hl 3 rfl) ?_
          refine ti_callVvE (ci := 4) (av := [.int 7]) C hE hw (s_X4_readPart_7 l D A cy hJ M_24 iM_24 t ht ((tT_fr q_25).trans ((tT_fr f_10).trans hT)) lw hlw ((tT_fr q_25).trans ((tT_fr f_10).trans hL))) ⟨ml_X4_187, ym_X4_readPart, yv_X4_readPart, yi_X4_readPart, yc_X4_readPart⟩ yd_X4_readPart ob_1 (by decide) rfl rfl hl.1 (Nat.le_of_ble_eq_true rfl) ⟨by decide, by decide⟩ ⟨Nat.zero_le _, Nat.zero_le _⟩ dX4_readProduct_51 (fun M_29 H locs hp_29 hw => ?_)
          obtain ⟨iM_29, q_30, q_31, q_32⟩ := hp_29
          refine lv_aload_n hx hb dX4_readProduct_54 rfl (lv_at hl 2 rfl) ?_
          refine ti_get (ci := 4) (k := 2) (N := 6) (T := TX4) (v := .ref (A lw 0)) C hw iw_4 rfl ob_1 (by decide) (by decide) fl_X4_154 rfl (ti_Tv ((tT_fr q_30).trans ((tT_fr q_25).trans ((tT_fr f_10).trans hL)))) dX4_readProduct_55 ?_
          refine lv_iload_n hx hb dX4_readProduct_58 rfl (lv_at hl 0 rfl) ?_
          refine lv_ineg hx hb dX4_readProduct_59 ?_
          refine lv_topi (fun x_33 ex_33 => ?_)
          have tx_33 : x_33.toInt = -x_15.toInt := i_neg ex_33 rfl (by omega)
          refine ti_callVv (ci := 1) (av := [.int x_33]) C hw (s_X1_add l D A cy hJ M_29 iM_29 lw hlw x_33 (by first | omega | exact Or.inl (by decide) | exact Or.inr (by decide))) ⟨ml_X4_170, ym_X1_add, yv_X1_add, yi_X1_add, yc_X1_add⟩ yd_X1_add hlw (by decide) rfl rfl hl.1 (Nat.le_of_ble_eq_true rfl) ⟨by decide, by decide⟩ ⟨Nat.zero_le _, Nat.zero_le _⟩ dX4_readProduct_60 (fun M_35 H locs hp_35 hw => ?_)
          obtain ⟨iM_35, q_36, q_37⟩ := hp_35
          obtain ⟨x_38, ex_38⟩ : ∃ z : Int32, z = x_6 + 1 := ⟨_, rfl⟩
          have tx_38 : x_38.toInt = x_6.toInt + 1 := i_add ex_38 rfl (by decide) (by omega) (by omega)
          refine lv_iinc (v := x_38) (lv' := [(2, .int x_38), (3, .int x_15), (0, .ref (A 1 0)), (1, .int 7)]) hx hb dX4_readProduct_63 hl (k := 1) rfl (by rw [ex_38]; rfl) (by decide) rfl (fun ls hl => ?_)
          refine lv_goto (tgt := 7) hx hb dX4_readProduct_66 (by decide) ?_
          exact ih_13 x_38 M_35 _ _ _ (by omega) (by first | omega | decide) (by first | omega | decide) iM_35 ((q_36).trans ((q_30).trans ((q_25).trans f_10))) (f0.trans (f0_x q_37) (f0.trans q_31 (f0.trans q_26 f_11))) (((q_37 1).2.1).trans ((q_32).trans ((q_27).trans f_12))) hw (lv_sub hl [0, 2, 3] rfl)
        refine sb_icmp_eq (tgt := 37) hx hb rfl (by decide : (40 : Int32).toInt = 40) dX4_readProduct_22 (by decide) (fun c_22_15 => ?_) (fun c_22_15 => ?_)
        · have u_20 : (tI M_9 2 4).toInt = (x_15 : Int32).toInt := by rw [(ex_15.symm)]
          exact hj_37_19  _ _ _ (by first | omega | decide) hw (lv_sub hl [0, 1, 2] rfl)
        · refine lv_aload_n hx hb dX4_readProduct_25 rfl (lv_at hl 1 rfl) ?_
          refine ti_get (ci := 4) (k := 0) (N := 6) (T := TX4) (v := .ref (A 2 0)) C hw iw_4 rfl ob_1 (by decide) (by decide) fl_X4_12 rfl rfl dX4_readProduct_26 ?_
          refine ti_get (ci := 7) (k := 4) (N := 7) (T := TX7) C hw iw_7 rfl ob_2 (by decide) (by decide) fl_X4_41 rfl rfl dX4_readProduct_29 ?_
          refine ti_top (y := x_15) (ex_15.symm) ?_
          have u_17 : (tI M_9 2 4).toInt = (x_15 : Int32).toInt := by rw [(ex_15.symm)]
          refine lv_bipush (v := 41) hx hb dX4_readProduct_32 (by decide) ?_
          refine sb_icmp_ne (tgt := 69) hx hb rfl (by decide : (41 : Int32).toInt = 41) dX4_readProduct_34 (by decide) (fun c_34_17 => ?_) (fun c_34_17 => ?_)
          · exact hQ _ _ _ _ _ hw (⟨iM_9, (f_10), f_11, (f_12)⟩) dX4_readProduct_69
          · have u_21 : (tI M_9 2 4).toInt = (x_15 : Int32).toInt := by rw [(ex_15.symm)]
            exact hj_37_19  _ _ _ (by first | omega | decide) hw (lv_sub hl [0, 1, 2] rfl)
  exact hl_7_12 ((64 - 0 : Int).toNat + 1) 0 M_2 _ _ _ (Nat.lt_succ_self _) (by have lt0 : (0 : Int32).toInt = 0 := (by decide); first | omega | decide) (by have lt0 : (0 : Int32).toInt = 0 := (by decide); first | omega | decide) iM_2 (q_3) q_4 (q_5) hw (lv_sub hl [0, 1, 2] rfl)
set_option maxHeartbeats 4000000 in
set_option maxRecDepth 100000 in
theorem s_X4_readSum_7 (l : Launch) (D : va_G) (A : Nat → Nat → Nat) (cy : Nat → ClassId) (hJ : ti_inj ti_LT A) (M : ti_M) (hI : cI Tc M) (t : Nat) (ht : t = 3 ∨ t = 4) (hT : tT M 1 1 = some t) (lw : Nat) (hlw : ti_ob ti_LT lw 1) (hL : tT M 1 2 = some lw) : ti_KvE l yX4_readSum cX4_readSum 4 17 ti_LT D A cy M [.ref (A 1 0), .int 7] (fun M2 => cI Tc M2 ∧ M2.2.2.2 = M.2.2.2 ∧ f0 M2 M ∧ tI M2 2 1 = tI M 2 1) := by
  refine ti_eVE yp_X4_readSum hJ ti_LT_nd (Nat.le_of_ble_eq_true rfl) ?_
  intro p e s m args below meth c Q H0 C hE hQ hw ls hl
  have hx := C.1
  have hb := C.2.1
  have hl : lv_has ls 4 [(0, .ref (A 1 0)), (1, .int 7)] := hl
  refine lv_aload_n hx hb dX4_readSum_0 rfl (lv_at hl 0 rfl) ?_
  refine lv_iload_n hx hb dX4_readSum_1 rfl (lv_at hl 1 rfl) ?_
  refine ti_callVvE (ci := 4) (av := [.int 7]) C hE hw (s_X4_readProduct_7 l D A cy hJ M hI t ht (hT) lw hlw (hL)) ⟨ml_X4_184, ym_X4_readProduct, yv_X4_readProduct, yi_X4_readProduct, yc_X4_readProduct⟩ yd_X4_readProduct ob_1 (by decide) rfl rfl hl.1 (Nat.le_of_ble_eq_true rfl) ⟨by decide, by decide⟩ ⟨Nat.zero_le _, Nat.zero_le _⟩ dX4_readSum_2 (fun M_2 H locs hp_2 hw => ?_)
  obtain ⟨iM_2, q_3, q_4, q_5⟩ := hp_2
  refine lv_iconst (v := 0) hx hb dX4_readSum_5 (by decide) ?_
  refine lv_istore_n (lv' := [(2, .int 0), (0, .ref (A 1 0)), (1, .int 7)]) hx hb dX4_readSum_6 rfl hl (by decide) rfl (fun ls hl => ?_)
  have hl_7_12 : ∀ (n_13 : Nat) (x_6 : Int32) (M_9 : ti_M) (H : Heap) (locs : List Loc) (ls : Array Slot), (64 - x_6.toInt : Int).toNat < n_13 → (0 ≤ x_6.toInt) → (x_6.toInt ≤ 64) → (cI Tc M_9) → (M_9.2.2.2 = M.2.2.2) → (f0 M_9 M) → (tI M_9 2 1 = tI M 2 1) → ti_H ti_LT D A cy H0 M_9 H locs → lv_has ls 4 [(2, .int x_6), (0, .ref (A 1 0)), (1, .int 7)] → W p l e (ti_rm 17) s m args below meth c H locs 0 0 Q (F0 m 7 ls []) := by
    intro n_13
    induction n_13 with
    | zero => intro x_6 M_9 H locs ls hf_13; exact absurd hf_13 (Nat.not_lt_zero _)
    | succ n_13 ih_13 =>
      intro x_6 M_9 H locs ls hf_13 b_7 b_8 iM_9 f_10 f_11 f_12 hw hl
      refine lv_iload_n hx hb dX4_readSum_7 rfl (lv_at hl 0 rfl) ?_
      refine lv_bipush (v := 64) hx hb dX4_readSum_8 (by decide) ?_
      refine sb_icmp_ge (tgt := 69) hx hb rfl (by decide : (64 : Int32).toInt = 64) dX4_readSum_10 (by decide) (fun c_10_13 => ?_) (fun c_10_13 => ?_)
      · exact hQ _ _ _ _ _ hw (⟨iM_9, (f_10), f_11, (f_12)⟩) dX4_readSum_69
      · refine lv_aload_n hx hb dX4_readSum_13 rfl (lv_at hl 1 rfl) ?_
        refine ti_get (ci := 4) (k := 0) (N := 6) (T := TX4) (v := .ref (A 2 0)) C hw iw_4 rfl ob_1 (by decide) (by decide) fl_X4_12 rfl rfl dX4_readSum_14 ?_
        refine ti_get (ci := 7) (k := 4) (N := 7) (T := TX7) C hw iw_7 rfl ob_2 (by decide) (by decide) fl_X4_41 rfl rfl dX4_readSum_17 ?_
        refine lv_topi (fun x_15 ex_15 => ?_)
        have bx_15 : 0 ≤ x_15.toInt ∧ x_15.toInt ≤ 41 := cI_rd iM_9 ob_2.1 ex_15
        have ux_15 : (tI M_9 2 4).toInt = x_15.toInt := by rw [ex_15]
        refine lv_bipush (v := 38) hx hb dX4_readSum_20 (by decide) ?_
        have hj_37_19 : ∀  (H : Heap) (locs : List Loc) (ls : Array Slot), (16 ≤ (tI M_9 2 4).toInt) → ti_H ti_LT D A cy H0 M_9 H locs → lv_has ls 4 [(2, .int x_6), (0, .ref (A 1 0)), (1, .int 7)] → W p l e (ti_rm 17) s m args below meth c H locs 0 0 Q (F0 m 37 ls []) := by
          intro  H locs ls j_19 hw hl
          refine lv_aload_n hx hb dX4_readSum_37 rfl (lv_at hl 1 rfl) ?_
          refine ti_get (ci := 4) (k := 0) (N := 6) (T := TX4) (v := .ref (A 2 0)) C hw iw_4 rfl ob_1 (by decide) (by decide) fl_X4_12 rfl rfl dX4_readSum_38 ?_
          refine ti_get (ci := 7) (k := 4) (N := 7) (T := TX7) C hw iw_7 rfl ob_2 (by decide) (by decide) fl_X4_41 rfl rfl dX4_readSum_41 ?_
          refine ti_top (y := x_15) (ex_15.symm) ?_
          have u_22 : (tI M_9 2 4).toInt = (x_15 : Int32).toInt := by rw [(ex_15.symm)]
          refine lv_istore_n (lv' := [(3, .int x_15), (2, .int x_6), (0, .ref (A 1 0)), (1, .int 7)]) hx hb dX4_readSum_44 rfl hl (by decide) rfl (fun ls hl => ?_)
          refine lv_aload_n hx hb dX4_readSum_45 rfl (lv_at hl 2 rfl) ?_
          refine ti_callVvE (ci := 4) (av := []) C hE hw (s_X4_knot l D A cy hJ M_9 iM_9 t ht ((tT_fr f_10).trans hT)) ⟨ml_X4_167, ym_X4_knot, yv_X4_knot, yi_X4_knot, yc_X4_knot⟩ yd_X4_knot ob_1 (by decide) rfl rfl hl.1 (Nat.le_of_ble_eq_true rfl) ⟨by decide, by decide⟩ ⟨Nat.zero_le _, Nat.zero_le _⟩ dX4_readSum_46 (fun M_24 H locs hp_24 hw => ?_)
          obtain ⟨iM_24, q_25, q_26, q_27⟩ := hp_24
          refine lv_aload_n hx hb dX4_readSum_49 rfl (lv_at hl 2 rfl) ?_
          refine lv_iload_n hx hb dX4_readSum_50 rfl (lv_at hl 3 rfl) ?_
          refine ti_callVvE (ci := 4) (av := [.int 7]) C hE hw (s_X4_readProduct_7 l D A cy hJ M_24 iM_24 t ht ((tT_fr q_25).trans ((tT_fr f_10).trans hT)) lw hlw ((tT_fr q_25).trans ((tT_fr f_10).trans hL))) ⟨ml_X4_184, ym_X4_readProduct, yv_X4_readProduct, yi_X4_readProduct, yc_X4_readProduct⟩ yd_X4_readProduct ob_1 (by decide) rfl rfl hl.1 (Nat.le_of_ble_eq_true rfl) ⟨by decide, by decide⟩ ⟨Nat.zero_le _, Nat.zero_le _⟩ dX4_readSum_51 (fun M_29 H locs hp_29 hw => ?_)
          obtain ⟨iM_29, q_30, q_31, q_32⟩ := hp_29
          refine lv_aload_n hx hb dX4_readSum_54 rfl (lv_at hl 2 rfl) ?_
          refine ti_get (ci := 4) (k := 2) (N := 6) (T := TX4) (v := .ref (A lw 0)) C hw iw_4 rfl ob_1 (by decide) (by decide) fl_X4_154 rfl (ti_Tv ((tT_fr q_30).trans ((tT_fr q_25).trans ((tT_fr f_10).trans hL)))) dX4_readSum_55 ?_
          refine lv_iload_n hx hb dX4_readSum_58 rfl (lv_at hl 0 rfl) ?_
          refine lv_ineg hx hb dX4_readSum_59 ?_
          refine lv_topi (fun x_33 ex_33 => ?_)
          have tx_33 : x_33.toInt = -x_15.toInt := i_neg ex_33 rfl (by omega)
          refine ti_callVv (ci := 1) (av := [.int x_33]) C hw (s_X1_add l D A cy hJ M_29 iM_29 lw hlw x_33 (by first | omega | exact Or.inl (by decide) | exact Or.inr (by decide))) ⟨ml_X4_170, ym_X1_add, yv_X1_add, yi_X1_add, yc_X1_add⟩ yd_X1_add hlw (by decide) rfl rfl hl.1 (Nat.le_of_ble_eq_true rfl) ⟨by decide, by decide⟩ ⟨Nat.zero_le _, Nat.zero_le _⟩ dX4_readSum_60 (fun M_35 H locs hp_35 hw => ?_)
          obtain ⟨iM_35, q_36, q_37⟩ := hp_35
          obtain ⟨x_38, ex_38⟩ : ∃ z : Int32, z = x_6 + 1 := ⟨_, rfl⟩
          have tx_38 : x_38.toInt = x_6.toInt + 1 := i_add ex_38 rfl (by decide) (by omega) (by omega)
          refine lv_iinc (v := x_38) (lv' := [(2, .int x_38), (3, .int x_15), (0, .ref (A 1 0)), (1, .int 7)]) hx hb dX4_readSum_63 hl (k := 1) rfl (by rw [ex_38]; rfl) (by decide) rfl (fun ls hl => ?_)
          refine lv_goto (tgt := 7) hx hb dX4_readSum_66 (by decide) ?_
          exact ih_13 x_38 M_35 _ _ _ (by omega) (by first | omega | decide) (by first | omega | decide) iM_35 ((q_36).trans ((q_30).trans ((q_25).trans f_10))) (f0.trans (f0_x q_37) (f0.trans q_31 (f0.trans q_26 f_11))) (((q_37 1).2.1).trans ((q_32).trans ((q_27).trans f_12))) hw (lv_sub hl [0, 2, 3] rfl)
        refine sb_icmp_eq (tgt := 37) hx hb rfl (by decide : (38 : Int32).toInt = 38) dX4_readSum_22 (by decide) (fun c_22_15 => ?_) (fun c_22_15 => ?_)
        · have u_20 : (tI M_9 2 4).toInt = (x_15 : Int32).toInt := by rw [(ex_15.symm)]
          exact hj_37_19  _ _ _ (by first | omega | decide) hw (lv_sub hl [0, 1, 2] rfl)
        · refine lv_aload_n hx hb dX4_readSum_25 rfl (lv_at hl 1 rfl) ?_
          refine ti_get (ci := 4) (k := 0) (N := 6) (T := TX4) (v := .ref (A 2 0)) C hw iw_4 rfl ob_1 (by decide) (by decide) fl_X4_12 rfl rfl dX4_readSum_26 ?_
          refine ti_get (ci := 7) (k := 4) (N := 7) (T := TX7) C hw iw_7 rfl ob_2 (by decide) (by decide) fl_X4_41 rfl rfl dX4_readSum_29 ?_
          refine ti_top (y := x_15) (ex_15.symm) ?_
          have u_17 : (tI M_9 2 4).toInt = (x_15 : Int32).toInt := by rw [(ex_15.symm)]
          refine lv_bipush (v := 39) hx hb dX4_readSum_32 (by decide) ?_
          refine sb_icmp_ne (tgt := 69) hx hb rfl (by decide : (39 : Int32).toInt = 39) dX4_readSum_34 (by decide) (fun c_34_17 => ?_) (fun c_34_17 => ?_)
          · exact hQ _ _ _ _ _ hw (⟨iM_9, (f_10), f_11, (f_12)⟩) dX4_readSum_69
          · have u_21 : (tI M_9 2 4).toInt = (x_15 : Int32).toInt := by rw [(ex_15.symm)]
            exact hj_37_19  _ _ _ (by first | omega | decide) hw (lv_sub hl [0, 1, 2] rfl)
  exact hl_7_12 ((64 - 0 : Int).toNat + 1) 0 M_2 _ _ _ (Nat.lt_succ_self _) (by have lt0 : (0 : Int32).toInt = 0 := (by decide); first | omega | decide) (by have lt0 : (0 : Int32).toInt = 0 := (by decide); first | omega | decide) iM_2 (q_3) q_4 (q_5) hw (lv_sub hl [0, 1, 2] rfl)
set_option maxHeartbeats 4000000 in
set_option maxRecDepth 100000 in
theorem s_X4_readComparison_7 (l : Launch) (D : va_G) (A : Nat → Nat → Nat) (cy : Nat → ClassId) (hJ : ti_inj ti_LT A) (M : ti_M) (hI : cI Tc M) (t : Nat) (ht : t = 3 ∨ t = 4) (hT : tT M 1 1 = some t) (lw : Nat) (hlw : ti_ob ti_LT lw 1) (hL : tT M 1 2 = some lw) : ti_KvE l yX4_readComparison cX4_readComparison 3 18 ti_LT D A cy M [.ref (A 1 0), .int 7] (fun M2 => cI Tc M2 ∧ M2.2.2.2 = M.2.2.2 ∧ f0 M2 M ∧ tI M2 2 1 = tI M 2 1) := by
  refine ti_eVE yp_X4_readComparison hJ ti_LT_nd (Nat.le_of_ble_eq_true rfl) ?_
  intro p e s m args below meth c Q H0 C hE hQ hw ls hl
  have hx := C.1
  have hb := C.2.1
  have hl : lv_has ls 3 [(0, .ref (A 1 0)), (1, .int 7)] := hl
  refine lv_aload_n hx hb dX4_readComparison_0 rfl (lv_at hl 0 rfl) ?_
  refine lv_iload_n hx hb dX4_readComparison_1 rfl (lv_at hl 1 rfl) ?_
  refine ti_callVvE (ci := 4) (av := [.int 7]) C hE hw (s_X4_readSum_7 l D A cy hJ M hI t ht (hT) lw hlw (hL)) ⟨ml_X4_181, ym_X4_readSum, yv_X4_readSum, yi_X4_readSum, yc_X4_readSum⟩ yd_X4_readSum ob_1 (by decide) rfl rfl hl.1 (Nat.le_of_ble_eq_true rfl) ⟨by decide, by decide⟩ ⟨Nat.zero_le _, Nat.zero_le _⟩ dX4_readComparison_2 (fun M_2 H locs hp_2 hw => ?_)
  obtain ⟨iM_2, q_3, q_4, q_5⟩ := hp_2
  refine lv_aload_n hx hb dX4_readComparison_5 rfl (lv_at hl 0 rfl) ?_
  refine ti_get (ci := 4) (k := 0) (N := 6) (T := TX4) (v := .ref (A 2 0)) C hw iw_4 rfl ob_1 (by decide) (by decide) fl_X4_12 rfl rfl dX4_readComparison_6 ?_
  refine ti_get (ci := 7) (k := 4) (N := 7) (T := TX7) C hw iw_7 rfl ob_2 (by decide) (by decide) fl_X4_41 rfl rfl dX4_readComparison_9 ?_
  refine lv_topi (fun x_6 ex_6 => ?_)
  have bx_6 : 0 ≤ x_6.toInt ∧ x_6.toInt ≤ 41 := cI_rd iM_2 ob_2.1 ex_6
  have ux_6 : (tI M_2 2 4).toInt = x_6.toInt := by rw [ex_6]
  refine lv_istore_n (lv' := [(2, .int x_6), (0, .ref (A 1 0)), (1, .int 7)]) hx hb dX4_readComparison_12 rfl hl (by decide) rfl (fun ls hl => ?_)
  refine lv_iload_n hx hb dX4_readComparison_13 rfl (lv_at hl 0 rfl) ?_
  refine lv_bipush (v := 32) hx hb dX4_readComparison_14 (by decide) ?_
  refine sb_icmp_lt (tgt := 43) hx hb rfl (by decide : (32 : Int32).toInt = 32) dX4_readComparison_16 (by decide) (fun c_16_6 => ?_) (fun c_16_6 => ?_)
  · exact hQ _ _ _ _ _ hw (⟨iM_2, (q_3), q_4, (q_5)⟩) dX4_readComparison_43
  · refine lv_iload_n hx hb dX4_readComparison_19 rfl (lv_at hl 0 rfl) ?_
    refine lv_bipush (v := 37) hx hb dX4_readComparison_20 (by decide) ?_
    refine sb_icmp_gt (tgt := 43) hx hb rfl (by decide : (37 : Int32).toInt = 37) dX4_readComparison_22 (by decide) (fun c_22_7 => ?_) (fun c_22_7 => ?_)
    · exact hQ _ _ _ _ _ hw (⟨iM_2, (q_3), q_4, (q_5)⟩) dX4_readComparison_43
    · refine lv_aload_n hx hb dX4_readComparison_25 rfl (lv_at hl 1 rfl) ?_
      refine ti_callVvE (ci := 4) (av := []) C hE hw (s_X4_knot l D A cy hJ M_2 iM_2 t ht ((tT_fr q_3).trans hT)) ⟨ml_X4_167, ym_X4_knot, yv_X4_knot, yi_X4_knot, yc_X4_knot⟩ yd_X4_knot ob_1 (by decide) rfl rfl hl.1 (Nat.le_of_ble_eq_true rfl) ⟨by decide, by decide⟩ ⟨Nat.zero_le _, Nat.zero_le _⟩ dX4_readComparison_26 (fun M_10 H locs hp_10 hw => ?_)
      obtain ⟨iM_10, q_11, q_12, q_13⟩ := hp_10
      refine lv_aload_n hx hb dX4_readComparison_29 rfl (lv_at hl 1 rfl) ?_
      refine lv_iload_n hx hb dX4_readComparison_30 rfl (lv_at hl 2 rfl) ?_
      refine ti_callVvE (ci := 4) (av := [.int 7]) C hE hw (s_X4_readSum_7 l D A cy hJ M_10 iM_10 t ht ((tT_fr q_11).trans ((tT_fr q_3).trans hT)) lw hlw ((tT_fr q_11).trans ((tT_fr q_3).trans hL))) ⟨ml_X4_181, ym_X4_readSum, yv_X4_readSum, yi_X4_readSum, yc_X4_readSum⟩ yd_X4_readSum ob_1 (by decide) rfl rfl hl.1 (Nat.le_of_ble_eq_true rfl) ⟨by decide, by decide⟩ ⟨Nat.zero_le _, Nat.zero_le _⟩ dX4_readComparison_31 (fun M_15 H locs hp_15 hw => ?_)
      obtain ⟨iM_15, q_16, q_17, q_18⟩ := hp_15
      refine lv_aload_n hx hb dX4_readComparison_34 rfl (lv_at hl 1 rfl) ?_
      refine ti_get (ci := 4) (k := 2) (N := 6) (T := TX4) (v := .ref (A lw 0)) C hw iw_4 rfl ob_1 (by decide) (by decide) fl_X4_154 rfl (ti_Tv ((tT_fr q_16).trans ((tT_fr q_11).trans ((tT_fr q_3).trans hL)))) dX4_readComparison_35 ?_
      refine lv_iload_n hx hb dX4_readComparison_38 rfl (lv_at hl 0 rfl) ?_
      refine lv_ineg hx hb dX4_readComparison_39 ?_
      refine lv_topi (fun x_19 ex_19 => ?_)
      have tx_19 : x_19.toInt = -x_6.toInt := i_neg ex_19 rfl (by omega)
      refine ti_callVv (ci := 1) (av := [.int x_19]) C hw (s_X1_add l D A cy hJ M_15 iM_15 lw hlw x_19 (by first | omega | exact Or.inl (by decide) | exact Or.inr (by decide))) ⟨ml_X4_170, ym_X1_add, yv_X1_add, yi_X1_add, yc_X1_add⟩ yd_X1_add hlw (by decide) rfl rfl hl.1 (Nat.le_of_ble_eq_true rfl) ⟨by decide, by decide⟩ ⟨Nat.zero_le _, Nat.zero_le _⟩ dX4_readComparison_40 (fun M_21 H locs hp_21 hw => ?_)
      obtain ⟨iM_21, q_22, q_23⟩ := hp_21
      exact hQ _ _ _ _ _ hw (⟨iM_21, ((q_22).trans ((q_16).trans ((q_11).trans q_3))), (f0.trans (f0_x q_23) (f0.trans q_17 (f0.trans q_12 q_4))), (((q_23 1).2.1).trans ((q_18).trans ((q_13).trans q_5)))⟩) dX4_readComparison_43
set_option maxHeartbeats 4000000 in
set_option maxRecDepth 100000 in
theorem s_X4_readNegated_7 (l : Launch) (D : va_G) (A : Nat → Nat → Nat) (cy : Nat → ClassId) (hJ : ti_inj ti_LT A) (M : ti_M) (hI : cI Tc M) (t : Nat) (ht : t = 3 ∨ t = 4) (hT : tT M 1 1 = some t) (lw : Nat) (hlw : ti_ob ti_LT lw 1) (hL : tT M 1 2 = some lw) : ti_KvE l yX4_readNegated cX4_readNegated 4 19 ti_LT D A cy M [.ref (A 1 0), .int 7] (fun M2 => cI Tc M2 ∧ M2.2.2.2 = M.2.2.2 ∧ f0 M2 M ∧ tI M2 2 1 = tI M 2 1) := by
  refine ti_eVE yp_X4_readNegated hJ ti_LT_nd (Nat.le_of_ble_eq_true rfl) ?_
  intro p e s m args below meth c Q H0 C hE hQ hw ls hl
  have hx := C.1
  have hb := C.2.1
  have hl : lv_has ls 4 [(0, .ref (A 1 0)), (1, .int 7)] := hl
  refine lv_iconst (v := 0) hx hb dX4_readNegated_0 (by decide) ?_
  refine lv_istore_n (lv' := [(2, .int 0), (0, .ref (A 1 0)), (1, .int 7)]) hx hb dX4_readNegated_1 rfl hl (by decide) rfl (fun ls hl => ?_)
  have hl_2_7 : ∀ (n_8 : Nat) (x_1 : Int32) (M_4 : ti_M) (H : Heap) (locs : List Loc) (ls : Array Slot), (65 - x_1.toInt : Int).toNat < n_8 → (0 ≤ x_1.toInt) → (x_1.toInt ≤ 65) → (cI Tc M_4) → (M_4.2.2.2 = M.2.2.2) → (f0 M_4 M) → (tI M_4 2 1 = tI M 2 1) → ti_H ti_LT D A cy H0 M_4 H locs → lv_has ls 4 [(2, .int x_1), (0, .ref (A 1 0)), (1, .int 7)] → W p l e (ti_rm 19) s m args below meth c H locs 0 0 Q (F0 m 2 ls []) := by
    intro n_8
    induction n_8 with
    | zero => intro x_1 M_4 H locs ls hf_8; exact absurd hf_8 (Nat.not_lt_zero _)
    | succ n_8 ih_8 =>
      intro x_1 M_4 H locs ls hf_8 b_2 b_3 iM_4 f_5 f_6 f_7 hw hl
      refine lv_iload_n hx hb dX4_readNegated_2 rfl (lv_at hl 0 rfl) ?_
      refine lv_bipush (v := 64) hx hb dX4_readNegated_3 (by decide) ?_
      have hj_30_17 : ∀  (H : Heap) (locs : List Loc) (ls : Array Slot), ti_H ti_LT D A cy H0 M_4 H locs → lv_has ls 4 [(2, .int x_1), (0, .ref (A 1 0)), (1, .int 7)] → W p l e (ti_rm 19) s m args below meth c H locs 0 0 Q (F0 m 30 ls []) := by
        intro  H locs ls  hw hl
        refine lv_aload_n hx hb dX4_readNegated_30 rfl (lv_at hl 1 rfl) ?_
        refine lv_iload_n hx hb dX4_readNegated_31 rfl (lv_at hl 2 rfl) ?_
        refine ti_callVvE (ci := 4) (av := [.int 7]) C hE hw (s_X4_readComparison_7 l D A cy hJ M_4 iM_4 t ht ((tT_fr f_5).trans hT) lw hlw ((tT_fr f_5).trans hL)) ⟨ml_X4_178, ym_X4_readComparison, yv_X4_readComparison, yi_X4_readComparison, yc_X4_readComparison⟩ yd_X4_readComparison ob_1 (by decide) rfl rfl hl.1 (Nat.le_of_ble_eq_true rfl) ⟨by decide, by decide⟩ ⟨Nat.zero_le _, Nat.zero_le _⟩ dX4_readNegated_32 (fun M_19 H locs hp_19 hw => ?_)
        obtain ⟨iM_19, q_20, q_21, q_22⟩ := hp_19
        refine lv_iconst (v := 0) hx hb dX4_readNegated_35 (by decide) ?_
        refine lv_istore_n (lv' := [(3, .int 0), (2, .int x_1), (0, .ref (A 1 0)), (1, .int 7)]) hx hb dX4_readNegated_36 rfl hl (by decide) rfl (fun ls hl => ?_)
        have hl_37_29 : ∀ (n_30 : Nat) (x_23 : Int32) (M_26 : ti_M) (H : Heap) (locs : List Loc) (ls : Array Slot), (65 - x_23.toInt : Int).toNat < n_30 → (0 ≤ x_23.toInt) → (x_23.toInt ≤ 65) → (cI Tc M_26) → (M_26.2.2.2 = M.2.2.2) → (f0 M_26 M) → (tI M_26 2 1 = tI M 2 1) → ti_H ti_LT D A cy H0 M_26 H locs → lv_has ls 4 [(3, .int x_23), (2, .int x_1), (0, .ref (A 1 0)), (1, .int 7)] → W p l e (ti_rm 19) s m args below meth c H locs 0 0 Q (F0 m 37 ls []) := by
          intro n_30
          induction n_30 with
          | zero => intro x_23 M_26 H locs ls hf_30; exact absurd hf_30 (Nat.not_lt_zero _)
          | succ n_30 ih_30 =>
            intro x_23 M_26 H locs ls hf_30 b_24 b_25 iM_26 f_27 f_28 f_29 hw hl
            refine lv_iload_n hx hb dX4_readNegated_37 rfl (lv_at hl 0 rfl) ?_
            refine lv_iload_n hx hb dX4_readNegated_38 rfl (lv_at hl 1 rfl) ?_
            refine sb_icmp_ge (tgt := 57) hx hb rfl rfl dX4_readNegated_39 (by decide) (fun c_39_30 => ?_) (fun c_39_30 => ?_)
            · exact hQ _ _ _ _ _ hw (⟨iM_26, (f_27), f_28, (f_29)⟩) dX4_readNegated_57
            · refine lv_aload_n hx hb dX4_readNegated_42 rfl (lv_at hl 2 rfl) ?_
              refine ti_get (ci := 4) (k := 2) (N := 6) (T := TX4) (v := .ref (A lw 0)) C hw iw_4 rfl ob_1 (by decide) (by decide) fl_X4_154 rfl (ti_Tv ((tT_fr f_27).trans hL)) dX4_readNegated_43 ?_
              refine lv_bipush (v := (-24)) hx hb dX4_readNegated_46 (by decide) ?_
              refine ti_callVv (ci := 1) (av := [.int (-24)]) C hw (s_X1_add l D A cy hJ M_26 iM_26 lw hlw (-24) (by first | omega | exact Or.inl (by decide) | exact Or.inr (by decide))) ⟨ml_X4_170, ym_X1_add, yv_X1_add, yi_X1_add, yc_X1_add⟩ yd_X1_add hlw (by decide) rfl rfl hl.1 (Nat.le_of_ble_eq_true rfl) ⟨by decide, by decide⟩ ⟨Nat.zero_le _, Nat.zero_le _⟩ dX4_readNegated_48 (fun M_33 H locs hp_33 hw => ?_)
              obtain ⟨iM_33, q_34, q_35⟩ := hp_33
              obtain ⟨x_36, ex_36⟩ : ∃ z : Int32, z = x_23 + 1 := ⟨_, rfl⟩
              have tx_36 : x_36.toInt = x_23.toInt + 1 := i_add ex_36 rfl (by decide) (by omega) (by omega)
              refine lv_iinc (v := x_36) (lv' := [(3, .int x_36), (2, .int x_1), (0, .ref (A 1 0)), (1, .int 7)]) hx hb dX4_readNegated_51 hl (k := 0) rfl (by rw [ex_36]; rfl) (by decide) rfl (fun ls hl => ?_)
              refine lv_goto (tgt := 37) hx hb dX4_readNegated_54 (by decide) ?_
              exact ih_30 x_36 M_33 _ _ _ (by omega) (by first | omega | decide) (by first | omega | decide) iM_33 ((q_34).trans f_27) (f0.trans (f0_x q_35) f_28) (((q_35 1).2.1).trans f_29) hw (lv_sub hl [0, 1, 2, 3] rfl)
        exact hl_37_29 ((65 - 0 : Int).toNat + 1) 0 M_19 _ _ _ (Nat.lt_succ_self _) (by have lt0 : (0 : Int32).toInt = 0 := (by decide); first | omega | decide) (by have lt0 : (0 : Int32).toInt = 0 := (by decide); first | omega | decide) iM_19 ((q_20).trans f_5) (f0.trans q_21 f_6) ((q_22).trans f_7) hw (lv_sub hl [0, 1, 2, 3] rfl)
      refine sb_icmp_gt (tgt := 30) hx hb rfl (by decide : (64 : Int32).toInt = 64) dX4_readNegated_5 (by decide) (fun c_5_8 => ?_) (fun c_5_8 => ?_)
      · exact hj_30_17  _ _ _  hw (lv_sub hl [0, 1, 2] rfl)
      · refine lv_aload_n hx hb dX4_readNegated_8 rfl (lv_at hl 1 rfl) ?_
        refine ti_get (ci := 4) (k := 0) (N := 6) (T := TX4) (v := .ref (A 2 0)) C hw iw_4 rfl ob_1 (by decide) (by decide) fl_X4_12 rfl rfl dX4_readNegated_9 ?_
        refine ti_get (ci := 7) (k := 4) (N := 7) (T := TX7) C hw iw_7 rfl ob_2 (by decide) (by decide) fl_X4_41 rfl rfl dX4_readNegated_12 ?_
        refine lv_topi (fun x_10 ex_10 => ?_)
        have bx_10 : 0 ≤ x_10.toInt ∧ x_10.toInt ≤ 41 := cI_rd iM_4 ob_2.1 ex_10
        have ux_10 : (tI M_4 2 4).toInt = x_10.toInt := by rw [ex_10]
        refine lv_bipush (v := 24) hx hb dX4_readNegated_15 (by decide) ?_
        refine sb_icmp_ne (tgt := 30) hx hb rfl (by decide : (24 : Int32).toInt = 24) dX4_readNegated_17 (by decide) (fun c_17_10 => ?_) (fun c_17_10 => ?_)
        · exact hj_30_17  _ _ _  hw (lv_sub hl [0, 1, 2] rfl)
        · refine lv_aload_n hx hb dX4_readNegated_20 rfl (lv_at hl 1 rfl) ?_
          refine ti_callVvE (ci := 4) (av := []) C hE hw (s_X4_knot l D A cy hJ M_4 iM_4 t ht ((tT_fr f_5).trans hT)) ⟨ml_X4_167, ym_X4_knot, yv_X4_knot, yi_X4_knot, yc_X4_knot⟩ yd_X4_knot ob_1 (by decide) rfl rfl hl.1 (Nat.le_of_ble_eq_true rfl) ⟨by decide, by decide⟩ ⟨Nat.zero_le _, Nat.zero_le _⟩ dX4_readNegated_21 (fun M_13 H locs hp_13 hw => ?_)
          obtain ⟨iM_13, q_14, q_15, q_16⟩ := hp_13
          obtain ⟨x_17, ex_17⟩ : ∃ z : Int32, z = x_1 + 1 := ⟨_, rfl⟩
          have tx_17 : x_17.toInt = x_1.toInt + 1 := i_add ex_17 rfl (by decide) (by omega) (by omega)
          refine lv_iinc (v := x_17) (lv' := [(2, .int x_17), (0, .ref (A 1 0)), (1, .int 7)]) hx hb dX4_readNegated_24 hl (k := 0) rfl (by rw [ex_17]; rfl) (by decide) rfl (fun ls hl => ?_)
          refine lv_goto (tgt := 2) hx hb dX4_readNegated_27 (by decide) ?_
          exact ih_8 x_17 M_13 _ _ _ (by omega) (by first | omega | decide) (by first | omega | decide) iM_13 ((q_14).trans f_5) (f0.trans q_15 f_6) ((q_16).trans f_7) hw (lv_sub hl [0, 1, 2] rfl)
  exact hl_2_7 ((65 - 0 : Int).toNat + 1) 0 M _ _ _ (Nat.lt_succ_self _) (by have lt0 : (0 : Int32).toInt = 0 := (by decide); first | omega | decide) (by have lt0 : (0 : Int32).toInt = 0 := (by decide); first | omega | decide) hI rfl f0.refl rfl hw (lv_sub hl [0, 1, 2] rfl)
set_option maxHeartbeats 4000000 in
set_option maxRecDepth 100000 in
theorem s_X4_readBoth_7 (l : Launch) (D : va_G) (A : Nat → Nat → Nat) (cy : Nat → ClassId) (hJ : ti_inj ti_LT A) (M : ti_M) (hI : cI Tc M) (t : Nat) (ht : t = 3 ∨ t = 4) (hT : tT M 1 1 = some t) (lw : Nat) (hlw : ti_ob ti_LT lw 1) (hL : tT M 1 2 = some lw) : ti_KvE l yX4_readBoth cX4_readBoth 3 20 ti_LT D A cy M [.ref (A 1 0), .int 7] (fun M2 => cI Tc M2 ∧ M2.2.2.2 = M.2.2.2 ∧ f0 M2 M ∧ tI M2 2 1 = tI M 2 1) := by
  refine ti_eVE yp_X4_readBoth hJ ti_LT_nd (Nat.le_of_ble_eq_true rfl) ?_
  intro p e s m args below meth c Q H0 C hE hQ hw ls hl
  have hx := C.1
  have hb := C.2.1
  have hl : lv_has ls 3 [(0, .ref (A 1 0)), (1, .int 7)] := hl
  refine lv_aload_n hx hb dX4_readBoth_0 rfl (lv_at hl 0 rfl) ?_
  refine lv_iload_n hx hb dX4_readBoth_1 rfl (lv_at hl 1 rfl) ?_
  refine ti_callVvE (ci := 4) (av := [.int 7]) C hE hw (s_X4_readNegated_7 l D A cy hJ M hI t ht (hT) lw hlw (hL)) ⟨ml_X4_175, ym_X4_readNegated, yv_X4_readNegated, yi_X4_readNegated, yc_X4_readNegated⟩ yd_X4_readNegated ob_1 (by decide) rfl rfl hl.1 (Nat.le_of_ble_eq_true rfl) ⟨by decide, by decide⟩ ⟨Nat.zero_le _, Nat.zero_le _⟩ dX4_readBoth_2 (fun M_2 H locs hp_2 hw => ?_)
  obtain ⟨iM_2, q_3, q_4, q_5⟩ := hp_2
  refine lv_iconst (v := 0) hx hb dX4_readBoth_5 (by decide) ?_
  refine lv_istore_n (lv' := [(2, .int 0), (0, .ref (A 1 0)), (1, .int 7)]) hx hb dX4_readBoth_6 rfl hl (by decide) rfl (fun ls hl => ?_)
  have hl_7_12 : ∀ (n_13 : Nat) (x_6 : Int32) (M_9 : ti_M) (H : Heap) (locs : List Loc) (ls : Array Slot), (64 - x_6.toInt : Int).toNat < n_13 → (0 ≤ x_6.toInt) → (x_6.toInt ≤ 64) → (cI Tc M_9) → (M_9.2.2.2 = M.2.2.2) → (f0 M_9 M) → (tI M_9 2 1 = tI M 2 1) → ti_H ti_LT D A cy H0 M_9 H locs → lv_has ls 3 [(2, .int x_6), (0, .ref (A 1 0)), (1, .int 7)] → W p l e (ti_rm 20) s m args below meth c H locs 0 0 Q (F0 m 7 ls []) := by
    intro n_13
    induction n_13 with
    | zero => intro x_6 M_9 H locs ls hf_13; exact absurd hf_13 (Nat.not_lt_zero _)
    | succ n_13 ih_13 =>
      intro x_6 M_9 H locs ls hf_13 b_7 b_8 iM_9 f_10 f_11 f_12 hw hl
      refine lv_iload_n hx hb dX4_readBoth_7 rfl (lv_at hl 0 rfl) ?_
      refine lv_bipush (v := 64) hx hb dX4_readBoth_8 (by decide) ?_
      refine sb_icmp_ge (tgt := 49) hx hb rfl (by decide : (64 : Int32).toInt = 64) dX4_readBoth_10 (by decide) (fun c_10_13 => ?_) (fun c_10_13 => ?_)
      · exact hQ _ _ _ _ _ hw (⟨iM_9, (f_10), f_11, (f_12)⟩) dX4_readBoth_49
      · refine lv_aload_n hx hb dX4_readBoth_13 rfl (lv_at hl 1 rfl) ?_
        refine ti_get (ci := 4) (k := 0) (N := 6) (T := TX4) (v := .ref (A 2 0)) C hw iw_4 rfl ob_1 (by decide) (by decide) fl_X4_12 rfl rfl dX4_readBoth_14 ?_
        refine ti_get (ci := 7) (k := 4) (N := 7) (T := TX7) C hw iw_7 rfl ob_2 (by decide) (by decide) fl_X4_41 rfl rfl dX4_readBoth_17 ?_
        refine lv_topi (fun x_15 ex_15 => ?_)
        have bx_15 : 0 ≤ x_15.toInt ∧ x_15.toInt ≤ 41 := cI_rd iM_9 ob_2.1 ex_15
        have ux_15 : (tI M_9 2 4).toInt = x_15.toInt := by rw [ex_15]
        refine lv_bipush (v := 22) hx hb dX4_readBoth_20 (by decide) ?_
        refine sb_icmp_ne (tgt := 49) hx hb rfl (by decide : (22 : Int32).toInt = 22) dX4_readBoth_22 (by decide) (fun c_22_15 => ?_) (fun c_22_15 => ?_)
        · exact hQ _ _ _ _ _ hw (⟨iM_9, (f_10), f_11, (f_12)⟩) dX4_readBoth_49
        · refine lv_aload_n hx hb dX4_readBoth_25 rfl (lv_at hl 1 rfl) ?_
          refine ti_callVvE (ci := 4) (av := []) C hE hw (s_X4_knot l D A cy hJ M_9 iM_9 t ht ((tT_fr f_10).trans hT)) ⟨ml_X4_167, ym_X4_knot, yv_X4_knot, yi_X4_knot, yc_X4_knot⟩ yd_X4_knot ob_1 (by decide) rfl rfl hl.1 (Nat.le_of_ble_eq_true rfl) ⟨by decide, by decide⟩ ⟨Nat.zero_le _, Nat.zero_le _⟩ dX4_readBoth_26 (fun M_18 H locs hp_18 hw => ?_)
          obtain ⟨iM_18, q_19, q_20, q_21⟩ := hp_18
          refine lv_aload_n hx hb dX4_readBoth_29 rfl (lv_at hl 1 rfl) ?_
          refine lv_iload_n hx hb dX4_readBoth_30 rfl (lv_at hl 2 rfl) ?_
          refine ti_callVvE (ci := 4) (av := [.int 7]) C hE hw (s_X4_readNegated_7 l D A cy hJ M_18 iM_18 t ht ((tT_fr q_19).trans ((tT_fr f_10).trans hT)) lw hlw ((tT_fr q_19).trans ((tT_fr f_10).trans hL))) ⟨ml_X4_175, ym_X4_readNegated, yv_X4_readNegated, yi_X4_readNegated, yc_X4_readNegated⟩ yd_X4_readNegated ob_1 (by decide) rfl rfl hl.1 (Nat.le_of_ble_eq_true rfl) ⟨by decide, by decide⟩ ⟨Nat.zero_le _, Nat.zero_le _⟩ dX4_readBoth_31 (fun M_23 H locs hp_23 hw => ?_)
          obtain ⟨iM_23, q_24, q_25, q_26⟩ := hp_23
          refine lv_aload_n hx hb dX4_readBoth_34 rfl (lv_at hl 1 rfl) ?_
          refine ti_get (ci := 4) (k := 2) (N := 6) (T := TX4) (v := .ref (A lw 0)) C hw iw_4 rfl ob_1 (by decide) (by decide) fl_X4_154 rfl (ti_Tv ((tT_fr q_24).trans ((tT_fr q_19).trans ((tT_fr f_10).trans hL)))) dX4_readBoth_35 ?_
          refine lv_bipush (v := (-22)) hx hb dX4_readBoth_38 (by decide) ?_
          refine ti_callVv (ci := 1) (av := [.int (-22)]) C hw (s_X1_add l D A cy hJ M_23 iM_23 lw hlw (-22) (by first | omega | exact Or.inl (by decide) | exact Or.inr (by decide))) ⟨ml_X4_170, ym_X1_add, yv_X1_add, yi_X1_add, yc_X1_add⟩ yd_X1_add hlw (by decide) rfl rfl hl.1 (Nat.le_of_ble_eq_true rfl) ⟨by decide, by decide⟩ ⟨Nat.zero_le _, Nat.zero_le _⟩ dX4_readBoth_40 (fun M_28 H locs hp_28 hw => ?_)
          obtain ⟨iM_28, q_29, q_30⟩ := hp_28
          obtain ⟨x_31, ex_31⟩ : ∃ z : Int32, z = x_6 + 1 := ⟨_, rfl⟩
          have tx_31 : x_31.toInt = x_6.toInt + 1 := i_add ex_31 rfl (by decide) (by omega) (by omega)
          refine lv_iinc (v := x_31) (lv' := [(2, .int x_31), (0, .ref (A 1 0)), (1, .int 7)]) hx hb dX4_readBoth_43 hl (k := 0) rfl (by rw [ex_31]; rfl) (by decide) rfl (fun ls hl => ?_)
          refine lv_goto (tgt := 7) hx hb dX4_readBoth_46 (by decide) ?_
          exact ih_13 x_31 M_28 _ _ _ (by omega) (by first | omega | decide) (by first | omega | decide) iM_28 ((q_29).trans ((q_24).trans ((q_19).trans f_10))) (f0.trans (f0_x q_30) (f0.trans q_25 (f0.trans q_20 f_11))) (((q_30 1).2.1).trans ((q_26).trans ((q_21).trans f_12))) hw (lv_sub hl [0, 1, 2] rfl)
  exact hl_7_12 ((64 - 0 : Int).toNat + 1) 0 M_2 _ _ _ (Nat.lt_succ_self _) (by have lt0 : (0 : Int32).toInt = 0 := (by decide); first | omega | decide) (by have lt0 : (0 : Int32).toInt = 0 := (by decide); first | omega | decide) iM_2 (q_3) q_4 (q_5) hw (lv_sub hl [0, 1, 2] rfl)
set_option maxHeartbeats 4000000 in
set_option maxRecDepth 100000 in
theorem s_X4_readEither_7 (l : Launch) (D : va_G) (A : Nat → Nat → Nat) (cy : Nat → ClassId) (hJ : ti_inj ti_LT A) (M : ti_M) (hI : cI Tc M) (t : Nat) (ht : t = 3 ∨ t = 4) (hT : tT M 1 1 = some t) (lw : Nat) (hlw : ti_ob ti_LT lw 1) (hL : tT M 1 2 = some lw) : ti_KvE l yX4_readEither cX4_readEither 3 21 ti_LT D A cy M [.ref (A 1 0), .int 7] (fun M2 => cI Tc M2 ∧ M2.2.2.2 = M.2.2.2 ∧ f0 M2 M ∧ tI M2 2 1 = tI M 2 1) := by
  refine ti_eVE yp_X4_readEither hJ ti_LT_nd (Nat.le_of_ble_eq_true rfl) ?_
  intro p e s m args below meth c Q H0 C hE hQ hw ls hl
  have hx := C.1
  have hb := C.2.1
  have hl : lv_has ls 3 [(0, .ref (A 1 0)), (1, .int 7)] := hl
  refine lv_aload_n hx hb dX4_readEither_0 rfl (lv_at hl 0 rfl) ?_
  refine lv_iload_n hx hb dX4_readEither_1 rfl (lv_at hl 1 rfl) ?_
  refine ti_callVvE (ci := 4) (av := [.int 7]) C hE hw (s_X4_readBoth_7 l D A cy hJ M hI t ht (hT) lw hlw (hL)) ⟨ml_X4_164, ym_X4_readBoth, yv_X4_readBoth, yi_X4_readBoth, yc_X4_readBoth⟩ yd_X4_readBoth ob_1 (by decide) rfl rfl hl.1 (Nat.le_of_ble_eq_true rfl) ⟨by decide, by decide⟩ ⟨Nat.zero_le _, Nat.zero_le _⟩ dX4_readEither_2 (fun M_2 H locs hp_2 hw => ?_)
  obtain ⟨iM_2, q_3, q_4, q_5⟩ := hp_2
  refine lv_iconst (v := 0) hx hb dX4_readEither_5 (by decide) ?_
  refine lv_istore_n (lv' := [(2, .int 0), (0, .ref (A 1 0)), (1, .int 7)]) hx hb dX4_readEither_6 rfl hl (by decide) rfl (fun ls hl => ?_)
  have hl_7_12 : ∀ (n_13 : Nat) (x_6 : Int32) (M_9 : ti_M) (H : Heap) (locs : List Loc) (ls : Array Slot), (64 - x_6.toInt : Int).toNat < n_13 → (0 ≤ x_6.toInt) → (x_6.toInt ≤ 64) → (cI Tc M_9) → (M_9.2.2.2 = M.2.2.2) → (f0 M_9 M) → (tI M_9 2 1 = tI M 2 1) → ti_H ti_LT D A cy H0 M_9 H locs → lv_has ls 3 [(2, .int x_6), (0, .ref (A 1 0)), (1, .int 7)] → W p l e (ti_rm 21) s m args below meth c H locs 0 0 Q (F0 m 7 ls []) := by
    intro n_13
    induction n_13 with
    | zero => intro x_6 M_9 H locs ls hf_13; exact absurd hf_13 (Nat.not_lt_zero _)
    | succ n_13 ih_13 =>
      intro x_6 M_9 H locs ls hf_13 b_7 b_8 iM_9 f_10 f_11 f_12 hw hl
      refine lv_iload_n hx hb dX4_readEither_7 rfl (lv_at hl 0 rfl) ?_
      refine lv_bipush (v := 64) hx hb dX4_readEither_8 (by decide) ?_
      refine sb_icmp_ge (tgt := 49) hx hb rfl (by decide : (64 : Int32).toInt = 64) dX4_readEither_10 (by decide) (fun c_10_13 => ?_) (fun c_10_13 => ?_)
      · exact hQ _ _ _ _ _ hw (⟨iM_9, (f_10), f_11, (f_12)⟩) dX4_readEither_49
      · refine lv_aload_n hx hb dX4_readEither_13 rfl (lv_at hl 1 rfl) ?_
        refine ti_get (ci := 4) (k := 0) (N := 6) (T := TX4) (v := .ref (A 2 0)) C hw iw_4 rfl ob_1 (by decide) (by decide) fl_X4_12 rfl rfl dX4_readEither_14 ?_
        refine ti_get (ci := 7) (k := 4) (N := 7) (T := TX7) C hw iw_7 rfl ob_2 (by decide) (by decide) fl_X4_41 rfl rfl dX4_readEither_17 ?_
        refine lv_topi (fun x_15 ex_15 => ?_)
        have bx_15 : 0 ≤ x_15.toInt ∧ x_15.toInt ≤ 41 := cI_rd iM_9 ob_2.1 ex_15
        have ux_15 : (tI M_9 2 4).toInt = x_15.toInt := by rw [ex_15]
        refine lv_bipush (v := 23) hx hb dX4_readEither_20 (by decide) ?_
        refine sb_icmp_ne (tgt := 49) hx hb rfl (by decide : (23 : Int32).toInt = 23) dX4_readEither_22 (by decide) (fun c_22_15 => ?_) (fun c_22_15 => ?_)
        · exact hQ _ _ _ _ _ hw (⟨iM_9, (f_10), f_11, (f_12)⟩) dX4_readEither_49
        · refine lv_aload_n hx hb dX4_readEither_25 rfl (lv_at hl 1 rfl) ?_
          refine ti_callVvE (ci := 4) (av := []) C hE hw (s_X4_knot l D A cy hJ M_9 iM_9 t ht ((tT_fr f_10).trans hT)) ⟨ml_X4_167, ym_X4_knot, yv_X4_knot, yi_X4_knot, yc_X4_knot⟩ yd_X4_knot ob_1 (by decide) rfl rfl hl.1 (Nat.le_of_ble_eq_true rfl) ⟨by decide, by decide⟩ ⟨Nat.zero_le _, Nat.zero_le _⟩ dX4_readEither_26 (fun M_18 H locs hp_18 hw => ?_)
          obtain ⟨iM_18, q_19, q_20, q_21⟩ := hp_18
          refine lv_aload_n hx hb dX4_readEither_29 rfl (lv_at hl 1 rfl) ?_
          refine lv_iload_n hx hb dX4_readEither_30 rfl (lv_at hl 2 rfl) ?_
          refine ti_callVvE (ci := 4) (av := [.int 7]) C hE hw (s_X4_readBoth_7 l D A cy hJ M_18 iM_18 t ht ((tT_fr q_19).trans ((tT_fr f_10).trans hT)) lw hlw ((tT_fr q_19).trans ((tT_fr f_10).trans hL))) ⟨ml_X4_164, ym_X4_readBoth, yv_X4_readBoth, yi_X4_readBoth, yc_X4_readBoth⟩ yd_X4_readBoth ob_1 (by decide) rfl rfl hl.1 (Nat.le_of_ble_eq_true rfl) ⟨by decide, by decide⟩ ⟨Nat.zero_le _, Nat.zero_le _⟩ dX4_readEither_31 (fun M_23 H locs hp_23 hw => ?_)
          obtain ⟨iM_23, q_24, q_25, q_26⟩ := hp_23
          refine lv_aload_n hx hb dX4_readEither_34 rfl (lv_at hl 1 rfl) ?_
          refine ti_get (ci := 4) (k := 2) (N := 6) (T := TX4) (v := .ref (A lw 0)) C hw iw_4 rfl ob_1 (by decide) (by decide) fl_X4_154 rfl (ti_Tv ((tT_fr q_24).trans ((tT_fr q_19).trans ((tT_fr f_10).trans hL)))) dX4_readEither_35 ?_
          refine lv_bipush (v := (-23)) hx hb dX4_readEither_38 (by decide) ?_
          refine ti_callVv (ci := 1) (av := [.int (-23)]) C hw (s_X1_add l D A cy hJ M_23 iM_23 lw hlw (-23) (by first | omega | exact Or.inl (by decide) | exact Or.inr (by decide))) ⟨ml_X4_170, ym_X1_add, yv_X1_add, yi_X1_add, yc_X1_add⟩ yd_X1_add hlw (by decide) rfl rfl hl.1 (Nat.le_of_ble_eq_true rfl) ⟨by decide, by decide⟩ ⟨Nat.zero_le _, Nat.zero_le _⟩ dX4_readEither_40 (fun M_28 H locs hp_28 hw => ?_)
          obtain ⟨iM_28, q_29, q_30⟩ := hp_28
          obtain ⟨x_31, ex_31⟩ : ∃ z : Int32, z = x_6 + 1 := ⟨_, rfl⟩
          have tx_31 : x_31.toInt = x_6.toInt + 1 := i_add ex_31 rfl (by decide) (by omega) (by omega)
          refine lv_iinc (v := x_31) (lv' := [(2, .int x_31), (0, .ref (A 1 0)), (1, .int 7)]) hx hb dX4_readEither_43 hl (k := 0) rfl (by rw [ex_31]; rfl) (by decide) rfl (fun ls hl => ?_)
          refine lv_goto (tgt := 7) hx hb dX4_readEither_46 (by decide) ?_
          exact ih_13 x_31 M_28 _ _ _ (by omega) (by first | omega | decide) (by first | omega | decide) iM_28 ((q_29).trans ((q_24).trans ((q_19).trans f_10))) (f0.trans (f0_x q_30) (f0.trans q_25 (f0.trans q_20 f_11))) (((q_30 1).2.1).trans ((q_26).trans ((q_21).trans f_12))) hw (lv_sub hl [0, 1, 2] rfl)
  exact hl_7_12 ((64 - 0 : Int).toNat + 1) 0 M_2 _ _ _ (Nat.lt_succ_self _) (by have lt0 : (0 : Int32).toInt = 0 := (by decide); first | omega | decide) (by have lt0 : (0 : Int32).toInt = 0 := (by decide); first | omega | decide) iM_2 (q_3) q_4 (q_5) hw (lv_sub hl [0, 1, 2] rfl)
set_option maxHeartbeats 4000000 in
set_option maxRecDepth 100000 in
theorem s_X4_readPart_6 (l : Launch) (D : va_G) (A : Nat → Nat → Nat) (cy : Nat → ClassId) (hJ : ti_inj ti_LT A) (M : ti_M) (hI : cI Tc M) (t : Nat) (ht : t = 3 ∨ t = 4) (hT : tT M 1 1 = some t) (lw : Nat) (hlw : ti_ob ti_LT lw 1) (hL : tT M 1 2 = some lw) : ti_KvE l yX4_readPart cX4_readPart 3 22 ti_LT D A cy M [.ref (A 1 0), .int 6] (fun M2 => cI Tc M2 ∧ M2.2.2.2 = M.2.2.2 ∧ f0 M2 M ∧ tI M2 2 1 = tI M 2 1) := by
  refine ti_eVE yp_X4_readPart hJ ti_LT_nd (Nat.le_of_ble_eq_true rfl) ?_
  intro p e s m args below meth c Q H0 C hE hQ hw ls hl
  have hx := C.1
  have hb := C.2.1
  have hl : lv_has ls 3 [(0, .ref (A 1 0)), (1, .int 6)] := hl
  refine lv_aload_n hx hb dX4_readPart_0 rfl (lv_at hl 0 rfl) ?_
  refine ti_get (ci := 4) (k := 0) (N := 6) (T := TX4) (v := .ref (A 2 0)) C hw iw_4 rfl ob_1 (by decide) (by decide) fl_X4_12 rfl rfl dX4_readPart_1 ?_
  refine ti_get (ci := 7) (k := 4) (N := 7) (T := TX7) C hw iw_7 rfl ob_2 (by decide) (by decide) fl_X4_41 rfl rfl dX4_readPart_4 ?_
  refine lv_topi (fun x_1 ex_1 => ?_)
  have bx_1 : 0 ≤ x_1.toInt ∧ x_1.toInt ≤ 41 := cI_rd hI ob_2.1 ex_1
  have ux_1 : (tI M 2 4).toInt = x_1.toInt := by rw [ex_1]
  refine lv_istore_n (lv' := [(2, .int x_1), (0, .ref (A 1 0)), (1, .int 6)]) hx hb dX4_readPart_7 rfl hl (by decide) rfl (fun ls hl => ?_)
  refine lv_iload_n hx hb dX4_readPart_8 rfl (lv_at hl 0 rfl) ?_
  refine lv_bipush (v := 30) hx hb dX4_readPart_9 (by decide) ?_
  have hj_28_3 : ∀  (H : Heap) (locs : List Loc) (ls : Array Slot), ti_H ti_LT D A cy H0 M H locs → lv_has ls 3 [(2, .int x_1), (0, .ref (A 1 0)), (1, .int 6)] → W p l e (ti_rm 22) s m args below meth c H locs 0 0 Q (F0 m 28 ls []) := by
    intro  H locs ls  hw hl
    refine lv_iload_n hx hb dX4_readPart_28 rfl (lv_at hl 0 rfl) ?_
    refine lv_bipush (v := 30) hx hb dX4_readPart_29 (by decide) ?_
    refine sb_icmp_ne (tgt := 57) hx hb rfl (by decide : (30 : Int32).toInt = 30) dX4_readPart_31 (by decide) (fun c_31_3 => ?_) (fun c_31_3 => ?_)
    · refine lv_iload_n hx hb dX4_readPart_57 rfl (lv_at hl 0 rfl) ?_
      refine lv_bipush (v := 26) hx hb dX4_readPart_58 (by decide) ?_
      have hj_84_27 : ∀  (H : Heap) (locs : List Loc) (ls : Array Slot), ti_H ti_LT D A cy H0 M H locs → lv_has ls 3 [(2, .int x_1), (0, .ref (A 1 0)), (1, .int 6)] → W p l e (ti_rm 22) s m args below meth c H locs 0 0 Q (F0 m 84 ls []) := by
        intro  H locs ls  hw hl
        refine lv_iload_n hx hb dX4_readPart_84 rfl (lv_at hl 0 rfl) ?_
        refine lv_bipush (v := 26) hx hb dX4_readPart_85 (by decide) ?_
        refine sb_icmp_ne (tgt := 111) hx hb rfl (by decide : (26 : Int32).toInt = 26) dX4_readPart_87 (by decide) (fun c_87_27 => ?_) (fun c_87_27 => ?_)
        · refine lv_iload_n hx hb dX4_readPart_111 rfl (lv_at hl 0 rfl) ?_
          refine lv_bipush (v := 16) hx hb dX4_readPart_112 (by decide) ?_
          have hj_139_50 : ∀  (H : Heap) (locs : List Loc) (ls : Array Slot), ti_H ti_LT D A cy H0 M H locs → lv_has ls 3 [(2, .int x_1), (0, .ref (A 1 0)), (1, .int 6)] → W p l e (ti_rm 22) s m args below meth c H locs 0 0 Q (F0 m 139 ls []) := by
            intro  H locs ls  hw hl
            refine lv_aload_n hx hb dX4_readPart_139 rfl (lv_at hl 1 rfl) ?_
            refine lv_iconst (v := 1) hx hb dX4_readPart_140 (by decide) ?_
            refine ti_callVv (ci := 4) (av := [.int 1]) C hw (s_X4_refuse l D A cy hJ M hI 1) ⟨ml_X4_82, ym_X4_refuse, yv_X4_refuse, yi_X4_refuse, yc_X4_refuse⟩ yd_X4_refuse ob_1 (by decide) rfl rfl hl.1 (Nat.le_of_ble_eq_true rfl) ⟨by decide, by decide⟩ ⟨Nat.zero_le _, Nat.zero_le _⟩ dX4_readPart_141 (fun M_52 H locs hp_52 hw => ?_)
            obtain ⟨iM_52, q_53, q_54, q_55⟩ := hp_52
            exact hQ _ _ _ _ _ hw (⟨iM_52, (q_53), (f0_12 q_54), (q_55)⟩) dX4_readPart_144
          refine sb_icmp_lt (tgt := 139) hx hb rfl (by decide : (16 : Int32).toInt = 16) dX4_readPart_114 (by decide) (fun c_114_38 => ?_) (fun c_114_38 => ?_)
          · exact hj_139_50  _ _ _  hw (lv_sub hl [0, 1, 2] rfl)
          · refine lv_iload_n hx hb dX4_readPart_117 rfl (lv_at hl 0 rfl) ?_
            refine lv_bipush (v := 21) hx hb dX4_readPart_118 (by decide) ?_
            refine sb_icmp_gt (tgt := 139) hx hb rfl (by decide : (21 : Int32).toInt = 21) dX4_readPart_120 (by decide) (fun c_120_39 => ?_) (fun c_120_39 => ?_)
            · exact hj_139_50  _ _ _  hw (lv_sub hl [0, 1, 2] rfl)
            · refine lv_aload_n hx hb dX4_readPart_123 rfl (lv_at hl 1 rfl) ?_
              refine ti_get (ci := 4) (k := 2) (N := 6) (T := TX4) (v := .ref (A lw 0)) C hw iw_4 rfl ob_1 (by decide) (by decide) fl_X4_154 rfl (ti_Tv (hL)) dX4_readPart_124 ?_
              refine lv_iload_n hx hb dX4_readPart_127 rfl (lv_at hl 0 rfl) ?_
              refine lv_ineg hx hb dX4_readPart_128 ?_
              refine lv_topi (fun x_41 ex_41 => ?_)
              have tx_41 : x_41.toInt = -x_1.toInt := i_neg ex_41 rfl (by omega)
              refine ti_callVv (ci := 1) (av := [.int x_41]) C hw (s_X1_add l D A cy hJ M hI lw hlw x_41 (by first | omega | exact Or.inl (by decide) | exact Or.inr (by decide))) ⟨ml_X4_170, ym_X1_add, yv_X1_add, yi_X1_add, yc_X1_add⟩ yd_X1_add hlw (by decide) rfl rfl hl.1 (Nat.le_of_ble_eq_true rfl) ⟨by decide, by decide⟩ ⟨Nat.zero_le _, Nat.zero_le _⟩ dX4_readPart_129 (fun M_43 H locs hp_43 hw => ?_)
              obtain ⟨iM_43, q_44, q_45⟩ := hp_43
              refine lv_aload_n hx hb dX4_readPart_132 rfl (lv_at hl 1 rfl) ?_
              refine ti_callVvE (ci := 4) (av := []) C hE hw (s_X4_knot l D A cy hJ M_43 iM_43 t ht ((tT_fr q_44).trans hT)) ⟨ml_X4_167, ym_X4_knot, yv_X4_knot, yi_X4_knot, yc_X4_knot⟩ yd_X4_knot ob_1 (by decide) rfl rfl hl.1 (Nat.le_of_ble_eq_true rfl) ⟨by decide, by decide⟩ ⟨Nat.zero_le _, Nat.zero_le _⟩ dX4_readPart_133 (fun M_47 H locs hp_47 hw => ?_)
              obtain ⟨iM_47, q_48, q_49, q_50⟩ := hp_47
              refine lv_goto (tgt := 144) hx hb dX4_readPart_136 (by decide) ?_
              exact hQ _ _ _ _ _ hw (⟨iM_47, ((q_48).trans q_44), (f0.trans q_49 (f0_x q_45)), ((q_50).trans ((q_45 1).2.1))⟩) dX4_readPart_144
        · refine lv_aload_n hx hb dX4_readPart_90 rfl (lv_at hl 1 rfl) ?_
          refine ti_get (ci := 4) (k := 2) (N := 6) (T := TX4) (v := .ref (A lw 0)) C hw iw_4 rfl ob_1 (by decide) (by decide) fl_X4_154 rfl (ti_Tv (hL)) dX4_readPart_91 ?_
          refine lv_aload_n hx hb dX4_readPart_94 rfl (lv_at hl 1 rfl) ?_
          refine ti_get (ci := 4) (k := 0) (N := 6) (T := TX4) (v := .ref (A 2 0)) C hw iw_4 rfl ob_1 (by decide) (by decide) fl_X4_12 rfl rfl dX4_readPart_95 ?_
          refine ti_get (ci := 7) (k := 6) (N := 7) (T := TX7) C hw iw_7 rfl ob_2 (by decide) (by decide) fl_X4_95 rfl rfl dX4_readPart_98 ?_
          refine lv_topi (fun x_29 ex_29 => ?_)
          have bx_29 : 0 ≤ x_29.toInt ∧ x_29.toInt ≤ 2147483647 := cI_rd hI ob_2.1 ex_29
          have ux_29 : (tI M 2 6).toInt = x_29.toInt := by rw [ex_29]
          refine ti_callVv (ci := 1) (av := [.int x_29]) C hw (s_X1_add l D A cy hJ M hI lw hlw x_29 (by first | omega | exact Or.inl (by decide) | exact Or.inr (by decide))) ⟨ml_X4_170, ym_X1_add, yv_X1_add, yi_X1_add, yc_X1_add⟩ yd_X1_add hlw (by decide) rfl rfl hl.1 (Nat.le_of_ble_eq_true rfl) ⟨by decide, by decide⟩ ⟨Nat.zero_le _, Nat.zero_le _⟩ dX4_readPart_101 (fun M_31 H locs hp_31 hw => ?_)
          obtain ⟨iM_31, q_32, q_33⟩ := hp_31
          refine lv_aload_n hx hb dX4_readPart_104 rfl (lv_at hl 1 rfl) ?_
          refine ti_callVvE (ci := 4) (av := []) C hE hw (s_X4_knot l D A cy hJ M_31 iM_31 t ht ((tT_fr q_32).trans hT)) ⟨ml_X4_167, ym_X4_knot, yv_X4_knot, yi_X4_knot, yc_X4_knot⟩ yd_X4_knot ob_1 (by decide) rfl rfl hl.1 (Nat.le_of_ble_eq_true rfl) ⟨by decide, by decide⟩ ⟨Nat.zero_le _, Nat.zero_le _⟩ dX4_readPart_105 (fun M_35 H locs hp_35 hw => ?_)
          obtain ⟨iM_35, q_36, q_37, q_38⟩ := hp_35
          refine lv_goto (tgt := 144) hx hb dX4_readPart_108 (by decide) ?_
          exact hQ _ _ _ _ _ hw (⟨iM_35, ((q_36).trans q_32), (f0.trans q_37 (f0_x q_33)), ((q_38).trans ((q_33 1).2.1))⟩) dX4_readPart_144
      refine sb_icmp_ne (tgt := 84) hx hb rfl (by decide : (26 : Int32).toInt = 26) dX4_readPart_60 (by decide) (fun c_60_19 => ?_) (fun c_60_19 => ?_)
      · exact hj_84_27  _ _ _  hw (lv_sub hl [0, 1, 2] rfl)
      · refine lv_aload_n hx hb dX4_readPart_63 rfl (lv_at hl 1 rfl) ?_
        refine ti_get (ci := 4) (k := 0) (N := 6) (T := TX4) (v := .ref (A 2 0)) C hw iw_4 rfl ob_1 (by decide) (by decide) fl_X4_12 rfl rfl dX4_readPart_64 ?_
        refine ti_get (ci := 7) (k := 6) (N := 7) (T := TX7) C hw iw_7 rfl ob_2 (by decide) (by decide) fl_X4_95 rfl rfl dX4_readPart_67 ?_
        refine lv_topi (fun x_21 ex_21 => ?_)
        have bx_21 : 0 ≤ x_21.toInt ∧ x_21.toInt ≤ 2147483647 := cI_rd hI ob_2.1 ex_21
        have ux_21 : (tI M 2 6).toInt = x_21.toInt := by rw [ex_21]
        refine lv_sipush (v := 9999) hx hb dX4_readPart_70 (by decide) ?_
        refine sb_icmp_le (tgt := 84) hx hb rfl (by decide : (9999 : Int32).toInt = 9999) dX4_readPart_73 (by decide) (fun c_73_21 => ?_) (fun c_73_21 => ?_)
        · exact hj_84_27  _ _ _  hw (lv_sub hl [0, 1, 2] rfl)
        · refine lv_aload_n hx hb dX4_readPart_76 rfl (lv_at hl 1 rfl) ?_
          refine lv_iconst (v := 2) hx hb dX4_readPart_77 (by decide) ?_
          refine ti_callVv (ci := 4) (av := [.int 2]) C hw (s_X4_refuse l D A cy hJ M hI 2) ⟨ml_X4_82, ym_X4_refuse, yv_X4_refuse, yi_X4_refuse, yc_X4_refuse⟩ yd_X4_refuse ob_1 (by decide) rfl rfl hl.1 (Nat.le_of_ble_eq_true rfl) ⟨by decide, by decide⟩ ⟨Nat.zero_le _, Nat.zero_le _⟩ dX4_readPart_78 (fun M_24 H locs hp_24 hw => ?_)
          obtain ⟨iM_24, q_25, q_26, q_27⟩ := hp_24
          refine lv_goto (tgt := 144) hx hb dX4_readPart_81 (by decide) ?_
          exact hQ _ _ _ _ _ hw (⟨iM_24, (q_25), (f0_12 q_26), (q_27)⟩) dX4_readPart_144
    · refine lv_aload_n hx hb dX4_readPart_34 rfl (lv_at hl 1 rfl) ?_
      refine ti_get (ci := 4) (k := 0) (N := 6) (T := TX4) (v := .ref (A 2 0)) C hw iw_4 rfl ob_1 (by decide) (by decide) fl_X4_12 rfl rfl dX4_readPart_35 ?_
      refine ti_callVvE (ci := 7) (av := []) C hE hw (s_X7_advance l D A cy hJ M hI ) ⟨ml_X4_92, ym_X7_advance, yv_X7_advance, yi_X7_advance, yc_X7_advance⟩ yd_X7_advance ob_2 (by decide) rfl rfl hl.1 (Nat.le_of_ble_eq_true rfl) ⟨by decide, by decide⟩ ⟨Nat.zero_le _, Nat.zero_le _⟩ dX4_readPart_38 (fun M_6 H locs hp_6 hw => ?_)
      obtain ⟨iM_6, q_7, q_8, q_9⟩ := hp_6
      refine lv_aload_n hx hb dX4_readPart_41 rfl (lv_at hl 1 rfl) ?_
      refine lv_iload_n hx hb dX4_readPart_42 rfl (lv_at hl 2 rfl) ?_
      refine lv_iconst (v := 1) hx hb dX4_readPart_43 (by decide) ?_
      refine lv_iadd hx hb dX4_readPart_44 ?_
      refine ti_top (y := 7) (by decide) ?_
      refine ti_callVvE (ci := 4) (av := [.int 7]) C hE hw (s_X4_readEither_7 l D A cy hJ M_6 iM_6 t ht ((tT_fr q_7).trans hT) lw hlw ((tT_fr q_7).trans hL)) ⟨ml_X4_158, ym_X4_readEither, yv_X4_readEither, yi_X4_readEither, yc_X4_readEither⟩ yd_X4_readEither ob_1 (by decide) rfl rfl hl.1 (Nat.le_of_ble_eq_true rfl) ⟨by decide, by decide⟩ ⟨Nat.zero_le _, Nat.zero_le _⟩ dX4_readPart_45 (fun M_11 H locs hp_11 hw => ?_)
      obtain ⟨iM_11, q_12, q_13, q_14⟩ := hp_11
      refine lv_aload_n hx hb dX4_readPart_48 rfl (lv_at hl 1 rfl) ?_
      refine lv_bipush (v := 31) hx hb dX4_readPart_49 (by decide) ?_
      refine ti_callVvE (ci := 4) (av := [.int 31]) C hE hw (s_X4_take l D A cy hJ M_11 iM_11 31) ⟨ml_X4_85, ym_X4_take, yv_X4_take, yi_X4_take, yc_X4_take⟩ yd_X4_take ob_1 (by decide) rfl rfl hl.1 (Nat.le_of_ble_eq_true rfl) ⟨by decide, by decide⟩ ⟨Nat.zero_le _, Nat.zero_le _⟩ dX4_readPart_51 (fun M_16 H locs hp_16 hw => ?_)
      obtain ⟨iM_16, q_17, q_18, q_19⟩ := hp_16
      refine lv_goto (tgt := 144) hx hb dX4_readPart_54 (by decide) ?_
      exact hQ _ _ _ _ _ hw (⟨iM_16, ((q_17).trans ((q_12).trans q_7)), (f0.trans (f0_12 q_18) (f0.trans q_13 (f0_12 q_8))), ((q_19).trans ((q_14).trans q_9))⟩) dX4_readPart_144
  refine sb_icmp_ne (tgt := 28) hx hb rfl (by decide : (30 : Int32).toInt = 30) dX4_readPart_11 (by decide) (fun c_11_1 => ?_) (fun c_11_1 => ?_)
  · exact hj_28_3  _ _ _  hw (lv_sub hl [0, 1, 2] rfl)
  · refine lv_iload_n hx hb dX4_readPart_14 rfl (lv_at hl 2 rfl) ?_
    refine lv_bipush (v := 8) hx hb dX4_readPart_15 (by decide) ?_
    refine sb_icmp_lt (tgt := 28) hx hb (by decide : (6 : Int32).toInt = 6) (by decide : (8 : Int32).toInt = 8) dX4_readPart_17 (by decide) (fun c_17_2 => ?_) (fun h => absurd h (by decide))
    exact hj_28_3  _ _ _  hw (lv_sub hl [0, 1, 2] rfl)
set_option maxHeartbeats 4000000 in
set_option maxRecDepth 100000 in
theorem s_X4_readProduct_6 (l : Launch) (D : va_G) (A : Nat → Nat → Nat) (cy : Nat → ClassId) (hJ : ti_inj ti_LT A) (M : ti_M) (hI : cI Tc M) (t : Nat) (ht : t = 3 ∨ t = 4) (hT : tT M 1 1 = some t) (lw : Nat) (hlw : ti_ob ti_LT lw 1) (hL : tT M 1 2 = some lw) : ti_KvE l yX4_readProduct cX4_readProduct 4 23 ti_LT D A cy M [.ref (A 1 0), .int 6] (fun M2 => cI Tc M2 ∧ M2.2.2.2 = M.2.2.2 ∧ f0 M2 M ∧ tI M2 2 1 = tI M 2 1) := by
  refine ti_eVE yp_X4_readProduct hJ ti_LT_nd (Nat.le_of_ble_eq_true rfl) ?_
  intro p e s m args below meth c Q H0 C hE hQ hw ls hl
  have hx := C.1
  have hb := C.2.1
  have hl : lv_has ls 4 [(0, .ref (A 1 0)), (1, .int 6)] := hl
  refine lv_aload_n hx hb dX4_readProduct_0 rfl (lv_at hl 0 rfl) ?_
  refine lv_iload_n hx hb dX4_readProduct_1 rfl (lv_at hl 1 rfl) ?_
  refine ti_callVvE (ci := 4) (av := [.int 6]) C hE hw (s_X4_readPart_6 l D A cy hJ M hI t ht (hT) lw hlw (hL)) ⟨ml_X4_187, ym_X4_readPart, yv_X4_readPart, yi_X4_readPart, yc_X4_readPart⟩ yd_X4_readPart ob_1 (by decide) rfl rfl hl.1 (Nat.le_of_ble_eq_true rfl) ⟨by decide, by decide⟩ ⟨Nat.zero_le _, Nat.zero_le _⟩ dX4_readProduct_2 (fun M_2 H locs hp_2 hw => ?_)
  obtain ⟨iM_2, q_3, q_4, q_5⟩ := hp_2
  refine lv_iconst (v := 0) hx hb dX4_readProduct_5 (by decide) ?_
  refine lv_istore_n (lv' := [(2, .int 0), (0, .ref (A 1 0)), (1, .int 6)]) hx hb dX4_readProduct_6 rfl hl (by decide) rfl (fun ls hl => ?_)
  have hl_7_12 : ∀ (n_13 : Nat) (x_6 : Int32) (M_9 : ti_M) (H : Heap) (locs : List Loc) (ls : Array Slot), (64 - x_6.toInt : Int).toNat < n_13 → (0 ≤ x_6.toInt) → (x_6.toInt ≤ 64) → (cI Tc M_9) → (M_9.2.2.2 = M.2.2.2) → (f0 M_9 M) → (tI M_9 2 1 = tI M 2 1) → ti_H ti_LT D A cy H0 M_9 H locs → lv_has ls 4 [(2, .int x_6), (0, .ref (A 1 0)), (1, .int 6)] → W p l e (ti_rm 23) s m args below meth c H locs 0 0 Q (F0 m 7 ls []) := by
    intro n_13
    induction n_13 with
    | zero => intro x_6 M_9 H locs ls hf_13; exact absurd hf_13 (Nat.not_lt_zero _)
    | succ n_13 ih_13 =>
      intro x_6 M_9 H locs ls hf_13 b_7 b_8 iM_9 f_10 f_11 f_12 hw hl
      refine lv_iload_n hx hb dX4_readProduct_7 rfl (lv_at hl 0 rfl) ?_
      refine lv_bipush (v := 64) hx hb dX4_readProduct_8 (by decide) ?_
      refine sb_icmp_ge (tgt := 69) hx hb rfl (by decide : (64 : Int32).toInt = 64) dX4_readProduct_10 (by decide) (fun c_10_13 => ?_) (fun c_10_13 => ?_)
      · exact hQ _ _ _ _ _ hw (⟨iM_9, (f_10), f_11, (f_12)⟩) dX4_readProduct_69
      · refine lv_aload_n hx hb dX4_readProduct_13 rfl (lv_at hl 1 rfl) ?_
        refine ti_get (ci := 4) (k := 0) (N := 6) (T := TX4) (v := .ref (A 2 0)) C hw iw_4 rfl ob_1 (by decide) (by decide) fl_X4_12 rfl rfl dX4_readProduct_14 ?_
        refine ti_get (ci := 7) (k := 4) (N := 7) (T := TX7) C hw iw_7 rfl ob_2 (by decide) (by decide) fl_X4_41 rfl rfl dX4_readProduct_17 ?_
        refine lv_topi (fun x_15 ex_15 => ?_)
        have bx_15 : 0 ≤ x_15.toInt ∧ x_15.toInt ≤ 41 := cI_rd iM_9 ob_2.1 ex_15
        have ux_15 : (tI M_9 2 4).toInt = x_15.toInt := by rw [ex_15]
        refine lv_bipush (v := 40) hx hb dX4_readProduct_20 (by decide) ?_
        have hj_37_19 : ∀  (H : Heap) (locs : List Loc) (ls : Array Slot), (16 ≤ (tI M_9 2 4).toInt) → ti_H ti_LT D A cy H0 M_9 H locs → lv_has ls 4 [(2, .int x_6), (0, .ref (A 1 0)), (1, .int 6)] → W p l e (ti_rm 23) s m args below meth c H locs 0 0 Q (F0 m 37 ls []) := by
          intro  H locs ls j_19 hw hl
          refine lv_aload_n hx hb dX4_readProduct_37 rfl (lv_at hl 1 rfl) ?_
          refine ti_get (ci := 4) (k := 0) (N := 6) (T := TX4) (v := .ref (A 2 0)) C hw iw_4 rfl ob_1 (by decide) (by decide) fl_X4_12 rfl rfl dX4_readProduct_38 ?_
          refine ti_get (ci := 7) (k := 4) (N := 7) (T := TX7) C hw iw_7 rfl ob_2 (by decide) (by decide) fl_X4_41 rfl rfl dX4_readProduct_41 ?_
          refine ti_top (y := x_15) (ex_15.symm) ?_
          have u_22 : (tI M_9 2 4).toInt = (x_15 : Int32).toInt := by rw [(ex_15.symm)]
          refine lv_istore_n (lv' := [(3, .int x_15), (2, .int x_6), (0, .ref (A 1 0)), (1, .int 6)]) hx hb dX4_readProduct_44 rfl hl (by decide) rfl (fun ls hl => ?_)
          refine lv_aload_n hx hb dX4_readProduct_45 rfl (lv_at hl 2 rfl) ?_
          refine ti_callVvE (ci := 4) (av := []) C hE hw (s_X4_knot l D A cy hJ M_9 iM_9 t ht ((tT_fr f_10).trans hT)) ⟨ml_X4_167, ym_X4_knot, yv_X4_knot, yi_X4_knot, yc_X4_knot⟩ yd_X4_knot ob_1 (by decide) rfl rfl hl.1 (Nat.le_of_ble_eq_true rfl) ⟨by decide, by decide⟩ ⟨Nat.zero_le _, Nat.zero_le _⟩ dX4_readProduct_46 (fun M_24 H locs hp_24 hw => ?_)
          obtain ⟨iM_24, q_25, q_26, q_27⟩ := hp_24
          refine lv_aload_n hx hb dX4_readProduct_49 rfl (lv_at hl 2 rfl) ?_
          refine lv_iload_n hx hb dX4_readProduct_50 rfl (lv_at hl 3 rfl) ?_
          refine ti_callVvE (ci := 4) (av := [.int 6]) C hE hw (s_X4_readPart_6 l D A cy hJ M_24 iM_24 t ht ((tT_fr q_25).trans ((tT_fr f_10).trans hT)) lw hlw ((tT_fr q_25).trans ((tT_fr f_10).trans hL))) ⟨ml_X4_187, ym_X4_readPart, yv_X4_readPart, yi_X4_readPart, yc_X4_readPart⟩ yd_X4_readPart ob_1 (by decide) rfl rfl hl.1 (Nat.le_of_ble_eq_true rfl) ⟨by decide, by decide⟩ ⟨Nat.zero_le _, Nat.zero_le _⟩ dX4_readProduct_51 (fun M_29 H locs hp_29 hw => ?_)
          obtain ⟨iM_29, q_30, q_31, q_32⟩ := hp_29
          refine lv_aload_n hx hb dX4_readProduct_54 rfl (lv_at hl 2 rfl) ?_
          refine ti_get (ci := 4) (k := 2) (N := 6) (T := TX4) (v := .ref (A lw 0)) C hw iw_4 rfl ob_1 (by decide) (by decide) fl_X4_154 rfl (ti_Tv ((tT_fr q_30).trans ((tT_fr q_25).trans ((tT_fr f_10).trans hL)))) dX4_readProduct_55 ?_
          refine lv_iload_n hx hb dX4_readProduct_58 rfl (lv_at hl 0 rfl) ?_
          refine lv_ineg hx hb dX4_readProduct_59 ?_
          refine lv_topi (fun x_33 ex_33 => ?_)
          have tx_33 : x_33.toInt = -x_15.toInt := i_neg ex_33 rfl (by omega)
          refine ti_callVv (ci := 1) (av := [.int x_33]) C hw (s_X1_add l D A cy hJ M_29 iM_29 lw hlw x_33 (by first | omega | exact Or.inl (by decide) | exact Or.inr (by decide))) ⟨ml_X4_170, ym_X1_add, yv_X1_add, yi_X1_add, yc_X1_add⟩ yd_X1_add hlw (by decide) rfl rfl hl.1 (Nat.le_of_ble_eq_true rfl) ⟨by decide, by decide⟩ ⟨Nat.zero_le _, Nat.zero_le _⟩ dX4_readProduct_60 (fun M_35 H locs hp_35 hw => ?_)
          obtain ⟨iM_35, q_36, q_37⟩ := hp_35
          obtain ⟨x_38, ex_38⟩ : ∃ z : Int32, z = x_6 + 1 := ⟨_, rfl⟩
          have tx_38 : x_38.toInt = x_6.toInt + 1 := i_add ex_38 rfl (by decide) (by omega) (by omega)
          refine lv_iinc (v := x_38) (lv' := [(2, .int x_38), (3, .int x_15), (0, .ref (A 1 0)), (1, .int 6)]) hx hb dX4_readProduct_63 hl (k := 1) rfl (by rw [ex_38]; rfl) (by decide) rfl (fun ls hl => ?_)
          refine lv_goto (tgt := 7) hx hb dX4_readProduct_66 (by decide) ?_
          exact ih_13 x_38 M_35 _ _ _ (by omega) (by first | omega | decide) (by first | omega | decide) iM_35 ((q_36).trans ((q_30).trans ((q_25).trans f_10))) (f0.trans (f0_x q_37) (f0.trans q_31 (f0.trans q_26 f_11))) (((q_37 1).2.1).trans ((q_32).trans ((q_27).trans f_12))) hw (lv_sub hl [0, 2, 3] rfl)
        refine sb_icmp_eq (tgt := 37) hx hb rfl (by decide : (40 : Int32).toInt = 40) dX4_readProduct_22 (by decide) (fun c_22_15 => ?_) (fun c_22_15 => ?_)
        · have u_20 : (tI M_9 2 4).toInt = (x_15 : Int32).toInt := by rw [(ex_15.symm)]
          exact hj_37_19  _ _ _ (by first | omega | decide) hw (lv_sub hl [0, 1, 2] rfl)
        · refine lv_aload_n hx hb dX4_readProduct_25 rfl (lv_at hl 1 rfl) ?_
          refine ti_get (ci := 4) (k := 0) (N := 6) (T := TX4) (v := .ref (A 2 0)) C hw iw_4 rfl ob_1 (by decide) (by decide) fl_X4_12 rfl rfl dX4_readProduct_26 ?_
          refine ti_get (ci := 7) (k := 4) (N := 7) (T := TX7) C hw iw_7 rfl ob_2 (by decide) (by decide) fl_X4_41 rfl rfl dX4_readProduct_29 ?_
          refine ti_top (y := x_15) (ex_15.symm) ?_
          have u_17 : (tI M_9 2 4).toInt = (x_15 : Int32).toInt := by rw [(ex_15.symm)]
          refine lv_bipush (v := 41) hx hb dX4_readProduct_32 (by decide) ?_
          refine sb_icmp_ne (tgt := 69) hx hb rfl (by decide : (41 : Int32).toInt = 41) dX4_readProduct_34 (by decide) (fun c_34_17 => ?_) (fun c_34_17 => ?_)
          · exact hQ _ _ _ _ _ hw (⟨iM_9, (f_10), f_11, (f_12)⟩) dX4_readProduct_69
          · have u_21 : (tI M_9 2 4).toInt = (x_15 : Int32).toInt := by rw [(ex_15.symm)]
            exact hj_37_19  _ _ _ (by first | omega | decide) hw (lv_sub hl [0, 1, 2] rfl)
  exact hl_7_12 ((64 - 0 : Int).toNat + 1) 0 M_2 _ _ _ (Nat.lt_succ_self _) (by have lt0 : (0 : Int32).toInt = 0 := (by decide); first | omega | decide) (by have lt0 : (0 : Int32).toInt = 0 := (by decide); first | omega | decide) iM_2 (q_3) q_4 (q_5) hw (lv_sub hl [0, 1, 2] rfl)
set_option maxHeartbeats 4000000 in
set_option maxRecDepth 100000 in
theorem s_X4_readSum_6 (l : Launch) (D : va_G) (A : Nat → Nat → Nat) (cy : Nat → ClassId) (hJ : ti_inj ti_LT A) (M : ti_M) (hI : cI Tc M) (t : Nat) (ht : t = 3 ∨ t = 4) (hT : tT M 1 1 = some t) (lw : Nat) (hlw : ti_ob ti_LT lw 1) (hL : tT M 1 2 = some lw) : ti_KvE l yX4_readSum cX4_readSum 4 24 ti_LT D A cy M [.ref (A 1 0), .int 6] (fun M2 => cI Tc M2 ∧ M2.2.2.2 = M.2.2.2 ∧ f0 M2 M ∧ tI M2 2 1 = tI M 2 1) := by
  refine ti_eVE yp_X4_readSum hJ ti_LT_nd (Nat.le_of_ble_eq_true rfl) ?_
  intro p e s m args below meth c Q H0 C hE hQ hw ls hl
  have hx := C.1
  have hb := C.2.1
  have hl : lv_has ls 4 [(0, .ref (A 1 0)), (1, .int 6)] := hl
  refine lv_aload_n hx hb dX4_readSum_0 rfl (lv_at hl 0 rfl) ?_
  refine lv_iload_n hx hb dX4_readSum_1 rfl (lv_at hl 1 rfl) ?_
  refine ti_callVvE (ci := 4) (av := [.int 6]) C hE hw (s_X4_readProduct_6 l D A cy hJ M hI t ht (hT) lw hlw (hL)) ⟨ml_X4_184, ym_X4_readProduct, yv_X4_readProduct, yi_X4_readProduct, yc_X4_readProduct⟩ yd_X4_readProduct ob_1 (by decide) rfl rfl hl.1 (Nat.le_of_ble_eq_true rfl) ⟨by decide, by decide⟩ ⟨Nat.zero_le _, Nat.zero_le _⟩ dX4_readSum_2 (fun M_2 H locs hp_2 hw => ?_)
  obtain ⟨iM_2, q_3, q_4, q_5⟩ := hp_2
  refine lv_iconst (v := 0) hx hb dX4_readSum_5 (by decide) ?_
  refine lv_istore_n (lv' := [(2, .int 0), (0, .ref (A 1 0)), (1, .int 6)]) hx hb dX4_readSum_6 rfl hl (by decide) rfl (fun ls hl => ?_)
  have hl_7_12 : ∀ (n_13 : Nat) (x_6 : Int32) (M_9 : ti_M) (H : Heap) (locs : List Loc) (ls : Array Slot), (64 - x_6.toInt : Int).toNat < n_13 → (0 ≤ x_6.toInt) → (x_6.toInt ≤ 64) → (cI Tc M_9) → (M_9.2.2.2 = M.2.2.2) → (f0 M_9 M) → (tI M_9 2 1 = tI M 2 1) → ti_H ti_LT D A cy H0 M_9 H locs → lv_has ls 4 [(2, .int x_6), (0, .ref (A 1 0)), (1, .int 6)] → W p l e (ti_rm 24) s m args below meth c H locs 0 0 Q (F0 m 7 ls []) := by
    intro n_13
    induction n_13 with
    | zero => intro x_6 M_9 H locs ls hf_13; exact absurd hf_13 (Nat.not_lt_zero _)
    | succ n_13 ih_13 =>
      intro x_6 M_9 H locs ls hf_13 b_7 b_8 iM_9 f_10 f_11 f_12 hw hl
      refine lv_iload_n hx hb dX4_readSum_7 rfl (lv_at hl 0 rfl) ?_
      refine lv_bipush (v := 64) hx hb dX4_readSum_8 (by decide) ?_
      refine sb_icmp_ge (tgt := 69) hx hb rfl (by decide : (64 : Int32).toInt = 64) dX4_readSum_10 (by decide) (fun c_10_13 => ?_) (fun c_10_13 => ?_)
      · exact hQ _ _ _ _ _ hw (⟨iM_9, (f_10), f_11, (f_12)⟩) dX4_readSum_69
      · refine lv_aload_n hx hb dX4_readSum_13 rfl (lv_at hl 1 rfl) ?_
        refine ti_get (ci := 4) (k := 0) (N := 6) (T := TX4) (v := .ref (A 2 0)) C hw iw_4 rfl ob_1 (by decide) (by decide) fl_X4_12 rfl rfl dX4_readSum_14 ?_
        refine ti_get (ci := 7) (k := 4) (N := 7) (T := TX7) C hw iw_7 rfl ob_2 (by decide) (by decide) fl_X4_41 rfl rfl dX4_readSum_17 ?_
        refine lv_topi (fun x_15 ex_15 => ?_)
        have bx_15 : 0 ≤ x_15.toInt ∧ x_15.toInt ≤ 41 := cI_rd iM_9 ob_2.1 ex_15
        have ux_15 : (tI M_9 2 4).toInt = x_15.toInt := by rw [ex_15]
        refine lv_bipush (v := 38) hx hb dX4_readSum_20 (by decide) ?_
        have hj_37_19 : ∀  (H : Heap) (locs : List Loc) (ls : Array Slot), (16 ≤ (tI M_9 2 4).toInt) → ti_H ti_LT D A cy H0 M_9 H locs → lv_has ls 4 [(2, .int x_6), (0, .ref (A 1 0)), (1, .int 6)] → W p l e (ti_rm 24) s m args below meth c H locs 0 0 Q (F0 m 37 ls []) := by
          intro  H locs ls j_19 hw hl
          refine lv_aload_n hx hb dX4_readSum_37 rfl (lv_at hl 1 rfl) ?_
          refine ti_get (ci := 4) (k := 0) (N := 6) (T := TX4) (v := .ref (A 2 0)) C hw iw_4 rfl ob_1 (by decide) (by decide) fl_X4_12 rfl rfl dX4_readSum_38 ?_
          refine ti_get (ci := 7) (k := 4) (N := 7) (T := TX7) C hw iw_7 rfl ob_2 (by decide) (by decide) fl_X4_41 rfl rfl dX4_readSum_41 ?_
          refine ti_top (y := x_15) (ex_15.symm) ?_
          have u_22 : (tI M_9 2 4).toInt = (x_15 : Int32).toInt := by rw [(ex_15.symm)]
          refine lv_istore_n (lv' := [(3, .int x_15), (2, .int x_6), (0, .ref (A 1 0)), (1, .int 6)]) hx hb dX4_readSum_44 rfl hl (by decide) rfl (fun ls hl => ?_)
          refine lv_aload_n hx hb dX4_readSum_45 rfl (lv_at hl 2 rfl) ?_
          refine ti_callVvE (ci := 4) (av := []) C hE hw (s_X4_knot l D A cy hJ M_9 iM_9 t ht ((tT_fr f_10).trans hT)) ⟨ml_X4_167, ym_X4_knot, yv_X4_knot, yi_X4_knot, yc_X4_knot⟩ yd_X4_knot ob_1 (by decide) rfl rfl hl.1 (Nat.le_of_ble_eq_true rfl) ⟨by decide, by decide⟩ ⟨Nat.zero_le _, Nat.zero_le _⟩ dX4_readSum_46 (fun M_24 H locs hp_24 hw => ?_)
          obtain ⟨iM_24, q_25, q_26, q_27⟩ := hp_24
          refine lv_aload_n hx hb dX4_readSum_49 rfl (lv_at hl 2 rfl) ?_
          refine lv_iload_n hx hb dX4_readSum_50 rfl (lv_at hl 3 rfl) ?_
          refine ti_callVvE (ci := 4) (av := [.int 6]) C hE hw (s_X4_readProduct_6 l D A cy hJ M_24 iM_24 t ht ((tT_fr q_25).trans ((tT_fr f_10).trans hT)) lw hlw ((tT_fr q_25).trans ((tT_fr f_10).trans hL))) ⟨ml_X4_184, ym_X4_readProduct, yv_X4_readProduct, yi_X4_readProduct, yc_X4_readProduct⟩ yd_X4_readProduct ob_1 (by decide) rfl rfl hl.1 (Nat.le_of_ble_eq_true rfl) ⟨by decide, by decide⟩ ⟨Nat.zero_le _, Nat.zero_le _⟩ dX4_readSum_51 (fun M_29 H locs hp_29 hw => ?_)
          obtain ⟨iM_29, q_30, q_31, q_32⟩ := hp_29
          refine lv_aload_n hx hb dX4_readSum_54 rfl (lv_at hl 2 rfl) ?_
          refine ti_get (ci := 4) (k := 2) (N := 6) (T := TX4) (v := .ref (A lw 0)) C hw iw_4 rfl ob_1 (by decide) (by decide) fl_X4_154 rfl (ti_Tv ((tT_fr q_30).trans ((tT_fr q_25).trans ((tT_fr f_10).trans hL)))) dX4_readSum_55 ?_
          refine lv_iload_n hx hb dX4_readSum_58 rfl (lv_at hl 0 rfl) ?_
          refine lv_ineg hx hb dX4_readSum_59 ?_
          refine lv_topi (fun x_33 ex_33 => ?_)
          have tx_33 : x_33.toInt = -x_15.toInt := i_neg ex_33 rfl (by omega)
          refine ti_callVv (ci := 1) (av := [.int x_33]) C hw (s_X1_add l D A cy hJ M_29 iM_29 lw hlw x_33 (by first | omega | exact Or.inl (by decide) | exact Or.inr (by decide))) ⟨ml_X4_170, ym_X1_add, yv_X1_add, yi_X1_add, yc_X1_add⟩ yd_X1_add hlw (by decide) rfl rfl hl.1 (Nat.le_of_ble_eq_true rfl) ⟨by decide, by decide⟩ ⟨Nat.zero_le _, Nat.zero_le _⟩ dX4_readSum_60 (fun M_35 H locs hp_35 hw => ?_)
          obtain ⟨iM_35, q_36, q_37⟩ := hp_35
          obtain ⟨x_38, ex_38⟩ : ∃ z : Int32, z = x_6 + 1 := ⟨_, rfl⟩
          have tx_38 : x_38.toInt = x_6.toInt + 1 := i_add ex_38 rfl (by decide) (by omega) (by omega)
          refine lv_iinc (v := x_38) (lv' := [(2, .int x_38), (3, .int x_15), (0, .ref (A 1 0)), (1, .int 6)]) hx hb dX4_readSum_63 hl (k := 1) rfl (by rw [ex_38]; rfl) (by decide) rfl (fun ls hl => ?_)
          refine lv_goto (tgt := 7) hx hb dX4_readSum_66 (by decide) ?_
          exact ih_13 x_38 M_35 _ _ _ (by omega) (by first | omega | decide) (by first | omega | decide) iM_35 ((q_36).trans ((q_30).trans ((q_25).trans f_10))) (f0.trans (f0_x q_37) (f0.trans q_31 (f0.trans q_26 f_11))) (((q_37 1).2.1).trans ((q_32).trans ((q_27).trans f_12))) hw (lv_sub hl [0, 2, 3] rfl)
        refine sb_icmp_eq (tgt := 37) hx hb rfl (by decide : (38 : Int32).toInt = 38) dX4_readSum_22 (by decide) (fun c_22_15 => ?_) (fun c_22_15 => ?_)
        · have u_20 : (tI M_9 2 4).toInt = (x_15 : Int32).toInt := by rw [(ex_15.symm)]
          exact hj_37_19  _ _ _ (by first | omega | decide) hw (lv_sub hl [0, 1, 2] rfl)
        · refine lv_aload_n hx hb dX4_readSum_25 rfl (lv_at hl 1 rfl) ?_
          refine ti_get (ci := 4) (k := 0) (N := 6) (T := TX4) (v := .ref (A 2 0)) C hw iw_4 rfl ob_1 (by decide) (by decide) fl_X4_12 rfl rfl dX4_readSum_26 ?_
          refine ti_get (ci := 7) (k := 4) (N := 7) (T := TX7) C hw iw_7 rfl ob_2 (by decide) (by decide) fl_X4_41 rfl rfl dX4_readSum_29 ?_
          refine ti_top (y := x_15) (ex_15.symm) ?_
          have u_17 : (tI M_9 2 4).toInt = (x_15 : Int32).toInt := by rw [(ex_15.symm)]
          refine lv_bipush (v := 39) hx hb dX4_readSum_32 (by decide) ?_
          refine sb_icmp_ne (tgt := 69) hx hb rfl (by decide : (39 : Int32).toInt = 39) dX4_readSum_34 (by decide) (fun c_34_17 => ?_) (fun c_34_17 => ?_)
          · exact hQ _ _ _ _ _ hw (⟨iM_9, (f_10), f_11, (f_12)⟩) dX4_readSum_69
          · have u_21 : (tI M_9 2 4).toInt = (x_15 : Int32).toInt := by rw [(ex_15.symm)]
            exact hj_37_19  _ _ _ (by first | omega | decide) hw (lv_sub hl [0, 1, 2] rfl)
  exact hl_7_12 ((64 - 0 : Int).toNat + 1) 0 M_2 _ _ _ (Nat.lt_succ_self _) (by have lt0 : (0 : Int32).toInt = 0 := (by decide); first | omega | decide) (by have lt0 : (0 : Int32).toInt = 0 := (by decide); first | omega | decide) iM_2 (q_3) q_4 (q_5) hw (lv_sub hl [0, 1, 2] rfl)
set_option maxHeartbeats 4000000 in
set_option maxRecDepth 100000 in
theorem s_X4_readComparison_6 (l : Launch) (D : va_G) (A : Nat → Nat → Nat) (cy : Nat → ClassId) (hJ : ti_inj ti_LT A) (M : ti_M) (hI : cI Tc M) (t : Nat) (ht : t = 3 ∨ t = 4) (hT : tT M 1 1 = some t) (lw : Nat) (hlw : ti_ob ti_LT lw 1) (hL : tT M 1 2 = some lw) : ti_KvE l yX4_readComparison cX4_readComparison 3 25 ti_LT D A cy M [.ref (A 1 0), .int 6] (fun M2 => cI Tc M2 ∧ M2.2.2.2 = M.2.2.2 ∧ f0 M2 M ∧ tI M2 2 1 = tI M 2 1) := by
  refine ti_eVE yp_X4_readComparison hJ ti_LT_nd (Nat.le_of_ble_eq_true rfl) ?_
  intro p e s m args below meth c Q H0 C hE hQ hw ls hl
  have hx := C.1
  have hb := C.2.1
  have hl : lv_has ls 3 [(0, .ref (A 1 0)), (1, .int 6)] := hl
  refine lv_aload_n hx hb dX4_readComparison_0 rfl (lv_at hl 0 rfl) ?_
  refine lv_iload_n hx hb dX4_readComparison_1 rfl (lv_at hl 1 rfl) ?_
  refine ti_callVvE (ci := 4) (av := [.int 6]) C hE hw (s_X4_readSum_6 l D A cy hJ M hI t ht (hT) lw hlw (hL)) ⟨ml_X4_181, ym_X4_readSum, yv_X4_readSum, yi_X4_readSum, yc_X4_readSum⟩ yd_X4_readSum ob_1 (by decide) rfl rfl hl.1 (Nat.le_of_ble_eq_true rfl) ⟨by decide, by decide⟩ ⟨Nat.zero_le _, Nat.zero_le _⟩ dX4_readComparison_2 (fun M_2 H locs hp_2 hw => ?_)
  obtain ⟨iM_2, q_3, q_4, q_5⟩ := hp_2
  refine lv_aload_n hx hb dX4_readComparison_5 rfl (lv_at hl 0 rfl) ?_
  refine ti_get (ci := 4) (k := 0) (N := 6) (T := TX4) (v := .ref (A 2 0)) C hw iw_4 rfl ob_1 (by decide) (by decide) fl_X4_12 rfl rfl dX4_readComparison_6 ?_
  refine ti_get (ci := 7) (k := 4) (N := 7) (T := TX7) C hw iw_7 rfl ob_2 (by decide) (by decide) fl_X4_41 rfl rfl dX4_readComparison_9 ?_
  refine lv_topi (fun x_6 ex_6 => ?_)
  have bx_6 : 0 ≤ x_6.toInt ∧ x_6.toInt ≤ 41 := cI_rd iM_2 ob_2.1 ex_6
  have ux_6 : (tI M_2 2 4).toInt = x_6.toInt := by rw [ex_6]
  refine lv_istore_n (lv' := [(2, .int x_6), (0, .ref (A 1 0)), (1, .int 6)]) hx hb dX4_readComparison_12 rfl hl (by decide) rfl (fun ls hl => ?_)
  refine lv_iload_n hx hb dX4_readComparison_13 rfl (lv_at hl 0 rfl) ?_
  refine lv_bipush (v := 32) hx hb dX4_readComparison_14 (by decide) ?_
  refine sb_icmp_lt (tgt := 43) hx hb rfl (by decide : (32 : Int32).toInt = 32) dX4_readComparison_16 (by decide) (fun c_16_6 => ?_) (fun c_16_6 => ?_)
  · exact hQ _ _ _ _ _ hw (⟨iM_2, (q_3), q_4, (q_5)⟩) dX4_readComparison_43
  · refine lv_iload_n hx hb dX4_readComparison_19 rfl (lv_at hl 0 rfl) ?_
    refine lv_bipush (v := 37) hx hb dX4_readComparison_20 (by decide) ?_
    refine sb_icmp_gt (tgt := 43) hx hb rfl (by decide : (37 : Int32).toInt = 37) dX4_readComparison_22 (by decide) (fun c_22_7 => ?_) (fun c_22_7 => ?_)
    · exact hQ _ _ _ _ _ hw (⟨iM_2, (q_3), q_4, (q_5)⟩) dX4_readComparison_43
    · refine lv_aload_n hx hb dX4_readComparison_25 rfl (lv_at hl 1 rfl) ?_
      refine ti_callVvE (ci := 4) (av := []) C hE hw (s_X4_knot l D A cy hJ M_2 iM_2 t ht ((tT_fr q_3).trans hT)) ⟨ml_X4_167, ym_X4_knot, yv_X4_knot, yi_X4_knot, yc_X4_knot⟩ yd_X4_knot ob_1 (by decide) rfl rfl hl.1 (Nat.le_of_ble_eq_true rfl) ⟨by decide, by decide⟩ ⟨Nat.zero_le _, Nat.zero_le _⟩ dX4_readComparison_26 (fun M_10 H locs hp_10 hw => ?_)
      obtain ⟨iM_10, q_11, q_12, q_13⟩ := hp_10
      refine lv_aload_n hx hb dX4_readComparison_29 rfl (lv_at hl 1 rfl) ?_
      refine lv_iload_n hx hb dX4_readComparison_30 rfl (lv_at hl 2 rfl) ?_
      refine ti_callVvE (ci := 4) (av := [.int 6]) C hE hw (s_X4_readSum_6 l D A cy hJ M_10 iM_10 t ht ((tT_fr q_11).trans ((tT_fr q_3).trans hT)) lw hlw ((tT_fr q_11).trans ((tT_fr q_3).trans hL))) ⟨ml_X4_181, ym_X4_readSum, yv_X4_readSum, yi_X4_readSum, yc_X4_readSum⟩ yd_X4_readSum ob_1 (by decide) rfl rfl hl.1 (Nat.le_of_ble_eq_true rfl) ⟨by decide, by decide⟩ ⟨Nat.zero_le _, Nat.zero_le _⟩ dX4_readComparison_31 (fun M_15 H locs hp_15 hw => ?_)
      obtain ⟨iM_15, q_16, q_17, q_18⟩ := hp_15
      refine lv_aload_n hx hb dX4_readComparison_34 rfl (lv_at hl 1 rfl) ?_
      refine ti_get (ci := 4) (k := 2) (N := 6) (T := TX4) (v := .ref (A lw 0)) C hw iw_4 rfl ob_1 (by decide) (by decide) fl_X4_154 rfl (ti_Tv ((tT_fr q_16).trans ((tT_fr q_11).trans ((tT_fr q_3).trans hL)))) dX4_readComparison_35 ?_
      refine lv_iload_n hx hb dX4_readComparison_38 rfl (lv_at hl 0 rfl) ?_
      refine lv_ineg hx hb dX4_readComparison_39 ?_
      refine lv_topi (fun x_19 ex_19 => ?_)
      have tx_19 : x_19.toInt = -x_6.toInt := i_neg ex_19 rfl (by omega)
      refine ti_callVv (ci := 1) (av := [.int x_19]) C hw (s_X1_add l D A cy hJ M_15 iM_15 lw hlw x_19 (by first | omega | exact Or.inl (by decide) | exact Or.inr (by decide))) ⟨ml_X4_170, ym_X1_add, yv_X1_add, yi_X1_add, yc_X1_add⟩ yd_X1_add hlw (by decide) rfl rfl hl.1 (Nat.le_of_ble_eq_true rfl) ⟨by decide, by decide⟩ ⟨Nat.zero_le _, Nat.zero_le _⟩ dX4_readComparison_40 (fun M_21 H locs hp_21 hw => ?_)
      obtain ⟨iM_21, q_22, q_23⟩ := hp_21
      exact hQ _ _ _ _ _ hw (⟨iM_21, ((q_22).trans ((q_16).trans ((q_11).trans q_3))), (f0.trans (f0_x q_23) (f0.trans q_17 (f0.trans q_12 q_4))), (((q_23 1).2.1).trans ((q_18).trans ((q_13).trans q_5)))⟩) dX4_readComparison_43
set_option maxHeartbeats 4000000 in
set_option maxRecDepth 100000 in
theorem s_X4_readNegated_6 (l : Launch) (D : va_G) (A : Nat → Nat → Nat) (cy : Nat → ClassId) (hJ : ti_inj ti_LT A) (M : ti_M) (hI : cI Tc M) (t : Nat) (ht : t = 3 ∨ t = 4) (hT : tT M 1 1 = some t) (lw : Nat) (hlw : ti_ob ti_LT lw 1) (hL : tT M 1 2 = some lw) : ti_KvE l yX4_readNegated cX4_readNegated 4 26 ti_LT D A cy M [.ref (A 1 0), .int 6] (fun M2 => cI Tc M2 ∧ M2.2.2.2 = M.2.2.2 ∧ f0 M2 M ∧ tI M2 2 1 = tI M 2 1) := by
  refine ti_eVE yp_X4_readNegated hJ ti_LT_nd (Nat.le_of_ble_eq_true rfl) ?_
  intro p e s m args below meth c Q H0 C hE hQ hw ls hl
  have hx := C.1
  have hb := C.2.1
  have hl : lv_has ls 4 [(0, .ref (A 1 0)), (1, .int 6)] := hl
  refine lv_iconst (v := 0) hx hb dX4_readNegated_0 (by decide) ?_
  refine lv_istore_n (lv' := [(2, .int 0), (0, .ref (A 1 0)), (1, .int 6)]) hx hb dX4_readNegated_1 rfl hl (by decide) rfl (fun ls hl => ?_)
  have hl_2_7 : ∀ (n_8 : Nat) (x_1 : Int32) (M_4 : ti_M) (H : Heap) (locs : List Loc) (ls : Array Slot), (65 - x_1.toInt : Int).toNat < n_8 → (0 ≤ x_1.toInt) → (x_1.toInt ≤ 65) → (cI Tc M_4) → (M_4.2.2.2 = M.2.2.2) → (f0 M_4 M) → (tI M_4 2 1 = tI M 2 1) → ti_H ti_LT D A cy H0 M_4 H locs → lv_has ls 4 [(2, .int x_1), (0, .ref (A 1 0)), (1, .int 6)] → W p l e (ti_rm 26) s m args below meth c H locs 0 0 Q (F0 m 2 ls []) := by
    intro n_8
    induction n_8 with
    | zero => intro x_1 M_4 H locs ls hf_8; exact absurd hf_8 (Nat.not_lt_zero _)
    | succ n_8 ih_8 =>
      intro x_1 M_4 H locs ls hf_8 b_2 b_3 iM_4 f_5 f_6 f_7 hw hl
      refine lv_iload_n hx hb dX4_readNegated_2 rfl (lv_at hl 0 rfl) ?_
      refine lv_bipush (v := 64) hx hb dX4_readNegated_3 (by decide) ?_
      have hj_30_17 : ∀  (H : Heap) (locs : List Loc) (ls : Array Slot), ti_H ti_LT D A cy H0 M_4 H locs → lv_has ls 4 [(2, .int x_1), (0, .ref (A 1 0)), (1, .int 6)] → W p l e (ti_rm 26) s m args below meth c H locs 0 0 Q (F0 m 30 ls []) := by
        intro  H locs ls  hw hl
        refine lv_aload_n hx hb dX4_readNegated_30 rfl (lv_at hl 1 rfl) ?_
        refine lv_iload_n hx hb dX4_readNegated_31 rfl (lv_at hl 2 rfl) ?_
        refine ti_callVvE (ci := 4) (av := [.int 6]) C hE hw (s_X4_readComparison_6 l D A cy hJ M_4 iM_4 t ht ((tT_fr f_5).trans hT) lw hlw ((tT_fr f_5).trans hL)) ⟨ml_X4_178, ym_X4_readComparison, yv_X4_readComparison, yi_X4_readComparison, yc_X4_readComparison⟩ yd_X4_readComparison ob_1 (by decide) rfl rfl hl.1 (Nat.le_of_ble_eq_true rfl) ⟨by decide, by decide⟩ ⟨Nat.zero_le _, Nat.zero_le _⟩ dX4_readNegated_32 (fun M_19 H locs hp_19 hw => ?_)
        obtain ⟨iM_19, q_20, q_21, q_22⟩ := hp_19
        refine lv_iconst (v := 0) hx hb dX4_readNegated_35 (by decide) ?_
        refine lv_istore_n (lv' := [(3, .int 0), (2, .int x_1), (0, .ref (A 1 0)), (1, .int 6)]) hx hb dX4_readNegated_36 rfl hl (by decide) rfl (fun ls hl => ?_)
        have hl_37_29 : ∀ (n_30 : Nat) (x_23 : Int32) (M_26 : ti_M) (H : Heap) (locs : List Loc) (ls : Array Slot), (65 - x_23.toInt : Int).toNat < n_30 → (0 ≤ x_23.toInt) → (x_23.toInt ≤ 65) → (cI Tc M_26) → (M_26.2.2.2 = M.2.2.2) → (f0 M_26 M) → (tI M_26 2 1 = tI M 2 1) → ti_H ti_LT D A cy H0 M_26 H locs → lv_has ls 4 [(3, .int x_23), (2, .int x_1), (0, .ref (A 1 0)), (1, .int 6)] → W p l e (ti_rm 26) s m args below meth c H locs 0 0 Q (F0 m 37 ls []) := by
          intro n_30
          induction n_30 with
          | zero => intro x_23 M_26 H locs ls hf_30; exact absurd hf_30 (Nat.not_lt_zero _)
          | succ n_30 ih_30 =>
            intro x_23 M_26 H locs ls hf_30 b_24 b_25 iM_26 f_27 f_28 f_29 hw hl
            refine lv_iload_n hx hb dX4_readNegated_37 rfl (lv_at hl 0 rfl) ?_
            refine lv_iload_n hx hb dX4_readNegated_38 rfl (lv_at hl 1 rfl) ?_
            refine sb_icmp_ge (tgt := 57) hx hb rfl rfl dX4_readNegated_39 (by decide) (fun c_39_30 => ?_) (fun c_39_30 => ?_)
            · exact hQ _ _ _ _ _ hw (⟨iM_26, (f_27), f_28, (f_29)⟩) dX4_readNegated_57
            · refine lv_aload_n hx hb dX4_readNegated_42 rfl (lv_at hl 2 rfl) ?_
              refine ti_get (ci := 4) (k := 2) (N := 6) (T := TX4) (v := .ref (A lw 0)) C hw iw_4 rfl ob_1 (by decide) (by decide) fl_X4_154 rfl (ti_Tv ((tT_fr f_27).trans hL)) dX4_readNegated_43 ?_
              refine lv_bipush (v := (-24)) hx hb dX4_readNegated_46 (by decide) ?_
              refine ti_callVv (ci := 1) (av := [.int (-24)]) C hw (s_X1_add l D A cy hJ M_26 iM_26 lw hlw (-24) (by first | omega | exact Or.inl (by decide) | exact Or.inr (by decide))) ⟨ml_X4_170, ym_X1_add, yv_X1_add, yi_X1_add, yc_X1_add⟩ yd_X1_add hlw (by decide) rfl rfl hl.1 (Nat.le_of_ble_eq_true rfl) ⟨by decide, by decide⟩ ⟨Nat.zero_le _, Nat.zero_le _⟩ dX4_readNegated_48 (fun M_33 H locs hp_33 hw => ?_)
              obtain ⟨iM_33, q_34, q_35⟩ := hp_33
              obtain ⟨x_36, ex_36⟩ : ∃ z : Int32, z = x_23 + 1 := ⟨_, rfl⟩
              have tx_36 : x_36.toInt = x_23.toInt + 1 := i_add ex_36 rfl (by decide) (by omega) (by omega)
              refine lv_iinc (v := x_36) (lv' := [(3, .int x_36), (2, .int x_1), (0, .ref (A 1 0)), (1, .int 6)]) hx hb dX4_readNegated_51 hl (k := 0) rfl (by rw [ex_36]; rfl) (by decide) rfl (fun ls hl => ?_)
              refine lv_goto (tgt := 37) hx hb dX4_readNegated_54 (by decide) ?_
              exact ih_30 x_36 M_33 _ _ _ (by omega) (by first | omega | decide) (by first | omega | decide) iM_33 ((q_34).trans f_27) (f0.trans (f0_x q_35) f_28) (((q_35 1).2.1).trans f_29) hw (lv_sub hl [0, 1, 2, 3] rfl)
        exact hl_37_29 ((65 - 0 : Int).toNat + 1) 0 M_19 _ _ _ (Nat.lt_succ_self _) (by have lt0 : (0 : Int32).toInt = 0 := (by decide); first | omega | decide) (by have lt0 : (0 : Int32).toInt = 0 := (by decide); first | omega | decide) iM_19 ((q_20).trans f_5) (f0.trans q_21 f_6) ((q_22).trans f_7) hw (lv_sub hl [0, 1, 2, 3] rfl)
      refine sb_icmp_gt (tgt := 30) hx hb rfl (by decide : (64 : Int32).toInt = 64) dX4_readNegated_5 (by decide) (fun c_5_8 => ?_) (fun c_5_8 => ?_)
      · exact hj_30_17  _ _ _  hw (lv_sub hl [0, 1, 2] rfl)
      · refine lv_aload_n hx hb dX4_readNegated_8 rfl (lv_at hl 1 rfl) ?_
        refine ti_get (ci := 4) (k := 0) (N := 6) (T := TX4) (v := .ref (A 2 0)) C hw iw_4 rfl ob_1 (by decide) (by decide) fl_X4_12 rfl rfl dX4_readNegated_9 ?_
        refine ti_get (ci := 7) (k := 4) (N := 7) (T := TX7) C hw iw_7 rfl ob_2 (by decide) (by decide) fl_X4_41 rfl rfl dX4_readNegated_12 ?_
        refine lv_topi (fun x_10 ex_10 => ?_)
        have bx_10 : 0 ≤ x_10.toInt ∧ x_10.toInt ≤ 41 := cI_rd iM_4 ob_2.1 ex_10
        have ux_10 : (tI M_4 2 4).toInt = x_10.toInt := by rw [ex_10]
        refine lv_bipush (v := 24) hx hb dX4_readNegated_15 (by decide) ?_
        refine sb_icmp_ne (tgt := 30) hx hb rfl (by decide : (24 : Int32).toInt = 24) dX4_readNegated_17 (by decide) (fun c_17_10 => ?_) (fun c_17_10 => ?_)
        · exact hj_30_17  _ _ _  hw (lv_sub hl [0, 1, 2] rfl)
        · refine lv_aload_n hx hb dX4_readNegated_20 rfl (lv_at hl 1 rfl) ?_
          refine ti_callVvE (ci := 4) (av := []) C hE hw (s_X4_knot l D A cy hJ M_4 iM_4 t ht ((tT_fr f_5).trans hT)) ⟨ml_X4_167, ym_X4_knot, yv_X4_knot, yi_X4_knot, yc_X4_knot⟩ yd_X4_knot ob_1 (by decide) rfl rfl hl.1 (Nat.le_of_ble_eq_true rfl) ⟨by decide, by decide⟩ ⟨Nat.zero_le _, Nat.zero_le _⟩ dX4_readNegated_21 (fun M_13 H locs hp_13 hw => ?_)
          obtain ⟨iM_13, q_14, q_15, q_16⟩ := hp_13
          obtain ⟨x_17, ex_17⟩ : ∃ z : Int32, z = x_1 + 1 := ⟨_, rfl⟩
          have tx_17 : x_17.toInt = x_1.toInt + 1 := i_add ex_17 rfl (by decide) (by omega) (by omega)
          refine lv_iinc (v := x_17) (lv' := [(2, .int x_17), (0, .ref (A 1 0)), (1, .int 6)]) hx hb dX4_readNegated_24 hl (k := 0) rfl (by rw [ex_17]; rfl) (by decide) rfl (fun ls hl => ?_)
          refine lv_goto (tgt := 2) hx hb dX4_readNegated_27 (by decide) ?_
          exact ih_8 x_17 M_13 _ _ _ (by omega) (by first | omega | decide) (by first | omega | decide) iM_13 ((q_14).trans f_5) (f0.trans q_15 f_6) ((q_16).trans f_7) hw (lv_sub hl [0, 1, 2] rfl)
  exact hl_2_7 ((65 - 0 : Int).toNat + 1) 0 M _ _ _ (Nat.lt_succ_self _) (by have lt0 : (0 : Int32).toInt = 0 := (by decide); first | omega | decide) (by have lt0 : (0 : Int32).toInt = 0 := (by decide); first | omega | decide) hI rfl f0.refl rfl hw (lv_sub hl [0, 1, 2] rfl)
set_option maxHeartbeats 4000000 in
set_option maxRecDepth 100000 in
theorem s_X4_readBoth_6 (l : Launch) (D : va_G) (A : Nat → Nat → Nat) (cy : Nat → ClassId) (hJ : ti_inj ti_LT A) (M : ti_M) (hI : cI Tc M) (t : Nat) (ht : t = 3 ∨ t = 4) (hT : tT M 1 1 = some t) (lw : Nat) (hlw : ti_ob ti_LT lw 1) (hL : tT M 1 2 = some lw) : ti_KvE l yX4_readBoth cX4_readBoth 3 27 ti_LT D A cy M [.ref (A 1 0), .int 6] (fun M2 => cI Tc M2 ∧ M2.2.2.2 = M.2.2.2 ∧ f0 M2 M ∧ tI M2 2 1 = tI M 2 1) := by
  refine ti_eVE yp_X4_readBoth hJ ti_LT_nd (Nat.le_of_ble_eq_true rfl) ?_
  intro p e s m args below meth c Q H0 C hE hQ hw ls hl
  have hx := C.1
  have hb := C.2.1
  have hl : lv_has ls 3 [(0, .ref (A 1 0)), (1, .int 6)] := hl
  refine lv_aload_n hx hb dX4_readBoth_0 rfl (lv_at hl 0 rfl) ?_
  refine lv_iload_n hx hb dX4_readBoth_1 rfl (lv_at hl 1 rfl) ?_
  refine ti_callVvE (ci := 4) (av := [.int 6]) C hE hw (s_X4_readNegated_6 l D A cy hJ M hI t ht (hT) lw hlw (hL)) ⟨ml_X4_175, ym_X4_readNegated, yv_X4_readNegated, yi_X4_readNegated, yc_X4_readNegated⟩ yd_X4_readNegated ob_1 (by decide) rfl rfl hl.1 (Nat.le_of_ble_eq_true rfl) ⟨by decide, by decide⟩ ⟨Nat.zero_le _, Nat.zero_le _⟩ dX4_readBoth_2 (fun M_2 H locs hp_2 hw => ?_)
  obtain ⟨iM_2, q_3, q_4, q_5⟩ := hp_2
  refine lv_iconst (v := 0) hx hb dX4_readBoth_5 (by decide) ?_
  refine lv_istore_n (lv' := [(2, .int 0), (0, .ref (A 1 0)), (1, .int 6)]) hx hb dX4_readBoth_6 rfl hl (by decide) rfl (fun ls hl => ?_)
  have hl_7_12 : ∀ (n_13 : Nat) (x_6 : Int32) (M_9 : ti_M) (H : Heap) (locs : List Loc) (ls : Array Slot), (64 - x_6.toInt : Int).toNat < n_13 → (0 ≤ x_6.toInt) → (x_6.toInt ≤ 64) → (cI Tc M_9) → (M_9.2.2.2 = M.2.2.2) → (f0 M_9 M) → (tI M_9 2 1 = tI M 2 1) → ti_H ti_LT D A cy H0 M_9 H locs → lv_has ls 3 [(2, .int x_6), (0, .ref (A 1 0)), (1, .int 6)] → W p l e (ti_rm 27) s m args below meth c H locs 0 0 Q (F0 m 7 ls []) := by
    intro n_13
    induction n_13 with
    | zero => intro x_6 M_9 H locs ls hf_13; exact absurd hf_13 (Nat.not_lt_zero _)
    | succ n_13 ih_13 =>
      intro x_6 M_9 H locs ls hf_13 b_7 b_8 iM_9 f_10 f_11 f_12 hw hl
      refine lv_iload_n hx hb dX4_readBoth_7 rfl (lv_at hl 0 rfl) ?_
      refine lv_bipush (v := 64) hx hb dX4_readBoth_8 (by decide) ?_
      refine sb_icmp_ge (tgt := 49) hx hb rfl (by decide : (64 : Int32).toInt = 64) dX4_readBoth_10 (by decide) (fun c_10_13 => ?_) (fun c_10_13 => ?_)
      · exact hQ _ _ _ _ _ hw (⟨iM_9, (f_10), f_11, (f_12)⟩) dX4_readBoth_49
      · refine lv_aload_n hx hb dX4_readBoth_13 rfl (lv_at hl 1 rfl) ?_
        refine ti_get (ci := 4) (k := 0) (N := 6) (T := TX4) (v := .ref (A 2 0)) C hw iw_4 rfl ob_1 (by decide) (by decide) fl_X4_12 rfl rfl dX4_readBoth_14 ?_
        refine ti_get (ci := 7) (k := 4) (N := 7) (T := TX7) C hw iw_7 rfl ob_2 (by decide) (by decide) fl_X4_41 rfl rfl dX4_readBoth_17 ?_
        refine lv_topi (fun x_15 ex_15 => ?_)
        have bx_15 : 0 ≤ x_15.toInt ∧ x_15.toInt ≤ 41 := cI_rd iM_9 ob_2.1 ex_15
        have ux_15 : (tI M_9 2 4).toInt = x_15.toInt := by rw [ex_15]
        refine lv_bipush (v := 22) hx hb dX4_readBoth_20 (by decide) ?_
        refine sb_icmp_ne (tgt := 49) hx hb rfl (by decide : (22 : Int32).toInt = 22) dX4_readBoth_22 (by decide) (fun c_22_15 => ?_) (fun c_22_15 => ?_)
        · exact hQ _ _ _ _ _ hw (⟨iM_9, (f_10), f_11, (f_12)⟩) dX4_readBoth_49
        · refine lv_aload_n hx hb dX4_readBoth_25 rfl (lv_at hl 1 rfl) ?_
          refine ti_callVvE (ci := 4) (av := []) C hE hw (s_X4_knot l D A cy hJ M_9 iM_9 t ht ((tT_fr f_10).trans hT)) ⟨ml_X4_167, ym_X4_knot, yv_X4_knot, yi_X4_knot, yc_X4_knot⟩ yd_X4_knot ob_1 (by decide) rfl rfl hl.1 (Nat.le_of_ble_eq_true rfl) ⟨by decide, by decide⟩ ⟨Nat.zero_le _, Nat.zero_le _⟩ dX4_readBoth_26 (fun M_18 H locs hp_18 hw => ?_)
          obtain ⟨iM_18, q_19, q_20, q_21⟩ := hp_18
          refine lv_aload_n hx hb dX4_readBoth_29 rfl (lv_at hl 1 rfl) ?_
          refine lv_iload_n hx hb dX4_readBoth_30 rfl (lv_at hl 2 rfl) ?_
          refine ti_callVvE (ci := 4) (av := [.int 6]) C hE hw (s_X4_readNegated_6 l D A cy hJ M_18 iM_18 t ht ((tT_fr q_19).trans ((tT_fr f_10).trans hT)) lw hlw ((tT_fr q_19).trans ((tT_fr f_10).trans hL))) ⟨ml_X4_175, ym_X4_readNegated, yv_X4_readNegated, yi_X4_readNegated, yc_X4_readNegated⟩ yd_X4_readNegated ob_1 (by decide) rfl rfl hl.1 (Nat.le_of_ble_eq_true rfl) ⟨by decide, by decide⟩ ⟨Nat.zero_le _, Nat.zero_le _⟩ dX4_readBoth_31 (fun M_23 H locs hp_23 hw => ?_)
          obtain ⟨iM_23, q_24, q_25, q_26⟩ := hp_23
          refine lv_aload_n hx hb dX4_readBoth_34 rfl (lv_at hl 1 rfl) ?_
          refine ti_get (ci := 4) (k := 2) (N := 6) (T := TX4) (v := .ref (A lw 0)) C hw iw_4 rfl ob_1 (by decide) (by decide) fl_X4_154 rfl (ti_Tv ((tT_fr q_24).trans ((tT_fr q_19).trans ((tT_fr f_10).trans hL)))) dX4_readBoth_35 ?_
          refine lv_bipush (v := (-22)) hx hb dX4_readBoth_38 (by decide) ?_
          refine ti_callVv (ci := 1) (av := [.int (-22)]) C hw (s_X1_add l D A cy hJ M_23 iM_23 lw hlw (-22) (by first | omega | exact Or.inl (by decide) | exact Or.inr (by decide))) ⟨ml_X4_170, ym_X1_add, yv_X1_add, yi_X1_add, yc_X1_add⟩ yd_X1_add hlw (by decide) rfl rfl hl.1 (Nat.le_of_ble_eq_true rfl) ⟨by decide, by decide⟩ ⟨Nat.zero_le _, Nat.zero_le _⟩ dX4_readBoth_40 (fun M_28 H locs hp_28 hw => ?_)
          obtain ⟨iM_28, q_29, q_30⟩ := hp_28
          obtain ⟨x_31, ex_31⟩ : ∃ z : Int32, z = x_6 + 1 := ⟨_, rfl⟩
          have tx_31 : x_31.toInt = x_6.toInt + 1 := i_add ex_31 rfl (by decide) (by omega) (by omega)
          refine lv_iinc (v := x_31) (lv' := [(2, .int x_31), (0, .ref (A 1 0)), (1, .int 6)]) hx hb dX4_readBoth_43 hl (k := 0) rfl (by rw [ex_31]; rfl) (by decide) rfl (fun ls hl => ?_)
          refine lv_goto (tgt := 7) hx hb dX4_readBoth_46 (by decide) ?_
          exact ih_13 x_31 M_28 _ _ _ (by omega) (by first | omega | decide) (by first | omega | decide) iM_28 ((q_29).trans ((q_24).trans ((q_19).trans f_10))) (f0.trans (f0_x q_30) (f0.trans q_25 (f0.trans q_20 f_11))) (((q_30 1).2.1).trans ((q_26).trans ((q_21).trans f_12))) hw (lv_sub hl [0, 1, 2] rfl)
  exact hl_7_12 ((64 - 0 : Int).toNat + 1) 0 M_2 _ _ _ (Nat.lt_succ_self _) (by have lt0 : (0 : Int32).toInt = 0 := (by decide); first | omega | decide) (by have lt0 : (0 : Int32).toInt = 0 := (by decide); first | omega | decide) iM_2 (q_3) q_4 (q_5) hw (lv_sub hl [0, 1, 2] rfl)
set_option maxHeartbeats 4000000 in
set_option maxRecDepth 100000 in
theorem s_X4_readEither_6 (l : Launch) (D : va_G) (A : Nat → Nat → Nat) (cy : Nat → ClassId) (hJ : ti_inj ti_LT A) (M : ti_M) (hI : cI Tc M) (t : Nat) (ht : t = 3 ∨ t = 4) (hT : tT M 1 1 = some t) (lw : Nat) (hlw : ti_ob ti_LT lw 1) (hL : tT M 1 2 = some lw) : ti_KvE l yX4_readEither cX4_readEither 3 28 ti_LT D A cy M [.ref (A 1 0), .int 6] (fun M2 => cI Tc M2 ∧ M2.2.2.2 = M.2.2.2 ∧ f0 M2 M ∧ tI M2 2 1 = tI M 2 1) := by
  refine ti_eVE yp_X4_readEither hJ ti_LT_nd (Nat.le_of_ble_eq_true rfl) ?_
  intro p e s m args below meth c Q H0 C hE hQ hw ls hl
  have hx := C.1
  have hb := C.2.1
  have hl : lv_has ls 3 [(0, .ref (A 1 0)), (1, .int 6)] := hl
  refine lv_aload_n hx hb dX4_readEither_0 rfl (lv_at hl 0 rfl) ?_
  refine lv_iload_n hx hb dX4_readEither_1 rfl (lv_at hl 1 rfl) ?_
  refine ti_callVvE (ci := 4) (av := [.int 6]) C hE hw (s_X4_readBoth_6 l D A cy hJ M hI t ht (hT) lw hlw (hL)) ⟨ml_X4_164, ym_X4_readBoth, yv_X4_readBoth, yi_X4_readBoth, yc_X4_readBoth⟩ yd_X4_readBoth ob_1 (by decide) rfl rfl hl.1 (Nat.le_of_ble_eq_true rfl) ⟨by decide, by decide⟩ ⟨Nat.zero_le _, Nat.zero_le _⟩ dX4_readEither_2 (fun M_2 H locs hp_2 hw => ?_)
  obtain ⟨iM_2, q_3, q_4, q_5⟩ := hp_2
  refine lv_iconst (v := 0) hx hb dX4_readEither_5 (by decide) ?_
  refine lv_istore_n (lv' := [(2, .int 0), (0, .ref (A 1 0)), (1, .int 6)]) hx hb dX4_readEither_6 rfl hl (by decide) rfl (fun ls hl => ?_)
  have hl_7_12 : ∀ (n_13 : Nat) (x_6 : Int32) (M_9 : ti_M) (H : Heap) (locs : List Loc) (ls : Array Slot), (64 - x_6.toInt : Int).toNat < n_13 → (0 ≤ x_6.toInt) → (x_6.toInt ≤ 64) → (cI Tc M_9) → (M_9.2.2.2 = M.2.2.2) → (f0 M_9 M) → (tI M_9 2 1 = tI M 2 1) → ti_H ti_LT D A cy H0 M_9 H locs → lv_has ls 3 [(2, .int x_6), (0, .ref (A 1 0)), (1, .int 6)] → W p l e (ti_rm 28) s m args below meth c H locs 0 0 Q (F0 m 7 ls []) := by
    intro n_13
    induction n_13 with
    | zero => intro x_6 M_9 H locs ls hf_13; exact absurd hf_13 (Nat.not_lt_zero _)
    | succ n_13 ih_13 =>
      intro x_6 M_9 H locs ls hf_13 b_7 b_8 iM_9 f_10 f_11 f_12 hw hl
      refine lv_iload_n hx hb dX4_readEither_7 rfl (lv_at hl 0 rfl) ?_
      refine lv_bipush (v := 64) hx hb dX4_readEither_8 (by decide) ?_
      refine sb_icmp_ge (tgt := 49) hx hb rfl (by decide : (64 : Int32).toInt = 64) dX4_readEither_10 (by decide) (fun c_10_13 => ?_) (fun c_10_13 => ?_)
      · exact hQ _ _ _ _ _ hw (⟨iM_9, (f_10), f_11, (f_12)⟩) dX4_readEither_49
      · refine lv_aload_n hx hb dX4_readEither_13 rfl (lv_at hl 1 rfl) ?_
        refine ti_get (ci := 4) (k := 0) (N := 6) (T := TX4) (v := .ref (A 2 0)) C hw iw_4 rfl ob_1 (by decide) (by decide) fl_X4_12 rfl rfl dX4_readEither_14 ?_
        refine ti_get (ci := 7) (k := 4) (N := 7) (T := TX7) C hw iw_7 rfl ob_2 (by decide) (by decide) fl_X4_41 rfl rfl dX4_readEither_17 ?_
        refine lv_topi (fun x_15 ex_15 => ?_)
        have bx_15 : 0 ≤ x_15.toInt ∧ x_15.toInt ≤ 41 := cI_rd iM_9 ob_2.1 ex_15
        have ux_15 : (tI M_9 2 4).toInt = x_15.toInt := by rw [ex_15]
        refine lv_bipush (v := 23) hx hb dX4_readEither_20 (by decide) ?_
        refine sb_icmp_ne (tgt := 49) hx hb rfl (by decide : (23 : Int32).toInt = 23) dX4_readEither_22 (by decide) (fun c_22_15 => ?_) (fun c_22_15 => ?_)
        · exact hQ _ _ _ _ _ hw (⟨iM_9, (f_10), f_11, (f_12)⟩) dX4_readEither_49
        · refine lv_aload_n hx hb dX4_readEither_25 rfl (lv_at hl 1 rfl) ?_
          refine ti_callVvE (ci := 4) (av := []) C hE hw (s_X4_knot l D A cy hJ M_9 iM_9 t ht ((tT_fr f_10).trans hT)) ⟨ml_X4_167, ym_X4_knot, yv_X4_knot, yi_X4_knot, yc_X4_knot⟩ yd_X4_knot ob_1 (by decide) rfl rfl hl.1 (Nat.le_of_ble_eq_true rfl) ⟨by decide, by decide⟩ ⟨Nat.zero_le _, Nat.zero_le _⟩ dX4_readEither_26 (fun M_18 H locs hp_18 hw => ?_)
          obtain ⟨iM_18, q_19, q_20, q_21⟩ := hp_18
          refine lv_aload_n hx hb dX4_readEither_29 rfl (lv_at hl 1 rfl) ?_
          refine lv_iload_n hx hb dX4_readEither_30 rfl (lv_at hl 2 rfl) ?_
          refine ti_callVvE (ci := 4) (av := [.int 6]) C hE hw (s_X4_readBoth_6 l D A cy hJ M_18 iM_18 t ht ((tT_fr q_19).trans ((tT_fr f_10).trans hT)) lw hlw ((tT_fr q_19).trans ((tT_fr f_10).trans hL))) ⟨ml_X4_164, ym_X4_readBoth, yv_X4_readBoth, yi_X4_readBoth, yc_X4_readBoth⟩ yd_X4_readBoth ob_1 (by decide) rfl rfl hl.1 (Nat.le_of_ble_eq_true rfl) ⟨by decide, by decide⟩ ⟨Nat.zero_le _, Nat.zero_le _⟩ dX4_readEither_31 (fun M_23 H locs hp_23 hw => ?_)
          obtain ⟨iM_23, q_24, q_25, q_26⟩ := hp_23
          refine lv_aload_n hx hb dX4_readEither_34 rfl (lv_at hl 1 rfl) ?_
          refine ti_get (ci := 4) (k := 2) (N := 6) (T := TX4) (v := .ref (A lw 0)) C hw iw_4 rfl ob_1 (by decide) (by decide) fl_X4_154 rfl (ti_Tv ((tT_fr q_24).trans ((tT_fr q_19).trans ((tT_fr f_10).trans hL)))) dX4_readEither_35 ?_
          refine lv_bipush (v := (-23)) hx hb dX4_readEither_38 (by decide) ?_
          refine ti_callVv (ci := 1) (av := [.int (-23)]) C hw (s_X1_add l D A cy hJ M_23 iM_23 lw hlw (-23) (by first | omega | exact Or.inl (by decide) | exact Or.inr (by decide))) ⟨ml_X4_170, ym_X1_add, yv_X1_add, yi_X1_add, yc_X1_add⟩ yd_X1_add hlw (by decide) rfl rfl hl.1 (Nat.le_of_ble_eq_true rfl) ⟨by decide, by decide⟩ ⟨Nat.zero_le _, Nat.zero_le _⟩ dX4_readEither_40 (fun M_28 H locs hp_28 hw => ?_)
          obtain ⟨iM_28, q_29, q_30⟩ := hp_28
          obtain ⟨x_31, ex_31⟩ : ∃ z : Int32, z = x_6 + 1 := ⟨_, rfl⟩
          have tx_31 : x_31.toInt = x_6.toInt + 1 := i_add ex_31 rfl (by decide) (by omega) (by omega)
          refine lv_iinc (v := x_31) (lv' := [(2, .int x_31), (0, .ref (A 1 0)), (1, .int 6)]) hx hb dX4_readEither_43 hl (k := 0) rfl (by rw [ex_31]; rfl) (by decide) rfl (fun ls hl => ?_)
          refine lv_goto (tgt := 7) hx hb dX4_readEither_46 (by decide) ?_
          exact ih_13 x_31 M_28 _ _ _ (by omega) (by first | omega | decide) (by first | omega | decide) iM_28 ((q_29).trans ((q_24).trans ((q_19).trans f_10))) (f0.trans (f0_x q_30) (f0.trans q_25 (f0.trans q_20 f_11))) (((q_30 1).2.1).trans ((q_26).trans ((q_21).trans f_12))) hw (lv_sub hl [0, 1, 2] rfl)
  exact hl_7_12 ((64 - 0 : Int).toNat + 1) 0 M_2 _ _ _ (Nat.lt_succ_self _) (by have lt0 : (0 : Int32).toInt = 0 := (by decide); first | omega | decide) (by have lt0 : (0 : Int32).toInt = 0 := (by decide); first | omega | decide) iM_2 (q_3) q_4 (q_5) hw (lv_sub hl [0, 1, 2] rfl)
set_option maxHeartbeats 4000000 in
set_option maxRecDepth 100000 in
theorem s_X4_readPart_5 (l : Launch) (D : va_G) (A : Nat → Nat → Nat) (cy : Nat → ClassId) (hJ : ti_inj ti_LT A) (M : ti_M) (hI : cI Tc M) (t : Nat) (ht : t = 3 ∨ t = 4) (hT : tT M 1 1 = some t) (lw : Nat) (hlw : ti_ob ti_LT lw 1) (hL : tT M 1 2 = some lw) : ti_KvE l yX4_readPart cX4_readPart 3 29 ti_LT D A cy M [.ref (A 1 0), .int 5] (fun M2 => cI Tc M2 ∧ M2.2.2.2 = M.2.2.2 ∧ f0 M2 M ∧ tI M2 2 1 = tI M 2 1) := by
  refine ti_eVE yp_X4_readPart hJ ti_LT_nd (Nat.le_of_ble_eq_true rfl) ?_
  intro p e s m args below meth c Q H0 C hE hQ hw ls hl
  have hx := C.1
  have hb := C.2.1
  have hl : lv_has ls 3 [(0, .ref (A 1 0)), (1, .int 5)] := hl
  refine lv_aload_n hx hb dX4_readPart_0 rfl (lv_at hl 0 rfl) ?_
  refine ti_get (ci := 4) (k := 0) (N := 6) (T := TX4) (v := .ref (A 2 0)) C hw iw_4 rfl ob_1 (by decide) (by decide) fl_X4_12 rfl rfl dX4_readPart_1 ?_
  refine ti_get (ci := 7) (k := 4) (N := 7) (T := TX7) C hw iw_7 rfl ob_2 (by decide) (by decide) fl_X4_41 rfl rfl dX4_readPart_4 ?_
  refine lv_topi (fun x_1 ex_1 => ?_)
  have bx_1 : 0 ≤ x_1.toInt ∧ x_1.toInt ≤ 41 := cI_rd hI ob_2.1 ex_1
  have ux_1 : (tI M 2 4).toInt = x_1.toInt := by rw [ex_1]
  refine lv_istore_n (lv' := [(2, .int x_1), (0, .ref (A 1 0)), (1, .int 5)]) hx hb dX4_readPart_7 rfl hl (by decide) rfl (fun ls hl => ?_)
  refine lv_iload_n hx hb dX4_readPart_8 rfl (lv_at hl 0 rfl) ?_
  refine lv_bipush (v := 30) hx hb dX4_readPart_9 (by decide) ?_
  have hj_28_3 : ∀  (H : Heap) (locs : List Loc) (ls : Array Slot), ti_H ti_LT D A cy H0 M H locs → lv_has ls 3 [(2, .int x_1), (0, .ref (A 1 0)), (1, .int 5)] → W p l e (ti_rm 29) s m args below meth c H locs 0 0 Q (F0 m 28 ls []) := by
    intro  H locs ls  hw hl
    refine lv_iload_n hx hb dX4_readPart_28 rfl (lv_at hl 0 rfl) ?_
    refine lv_bipush (v := 30) hx hb dX4_readPart_29 (by decide) ?_
    refine sb_icmp_ne (tgt := 57) hx hb rfl (by decide : (30 : Int32).toInt = 30) dX4_readPart_31 (by decide) (fun c_31_3 => ?_) (fun c_31_3 => ?_)
    · refine lv_iload_n hx hb dX4_readPart_57 rfl (lv_at hl 0 rfl) ?_
      refine lv_bipush (v := 26) hx hb dX4_readPart_58 (by decide) ?_
      have hj_84_27 : ∀  (H : Heap) (locs : List Loc) (ls : Array Slot), ti_H ti_LT D A cy H0 M H locs → lv_has ls 3 [(2, .int x_1), (0, .ref (A 1 0)), (1, .int 5)] → W p l e (ti_rm 29) s m args below meth c H locs 0 0 Q (F0 m 84 ls []) := by
        intro  H locs ls  hw hl
        refine lv_iload_n hx hb dX4_readPart_84 rfl (lv_at hl 0 rfl) ?_
        refine lv_bipush (v := 26) hx hb dX4_readPart_85 (by decide) ?_
        refine sb_icmp_ne (tgt := 111) hx hb rfl (by decide : (26 : Int32).toInt = 26) dX4_readPart_87 (by decide) (fun c_87_27 => ?_) (fun c_87_27 => ?_)
        · refine lv_iload_n hx hb dX4_readPart_111 rfl (lv_at hl 0 rfl) ?_
          refine lv_bipush (v := 16) hx hb dX4_readPart_112 (by decide) ?_
          have hj_139_50 : ∀  (H : Heap) (locs : List Loc) (ls : Array Slot), ti_H ti_LT D A cy H0 M H locs → lv_has ls 3 [(2, .int x_1), (0, .ref (A 1 0)), (1, .int 5)] → W p l e (ti_rm 29) s m args below meth c H locs 0 0 Q (F0 m 139 ls []) := by
            intro  H locs ls  hw hl
            refine lv_aload_n hx hb dX4_readPart_139 rfl (lv_at hl 1 rfl) ?_
            refine lv_iconst (v := 1) hx hb dX4_readPart_140 (by decide) ?_
            refine ti_callVv (ci := 4) (av := [.int 1]) C hw (s_X4_refuse l D A cy hJ M hI 1) ⟨ml_X4_82, ym_X4_refuse, yv_X4_refuse, yi_X4_refuse, yc_X4_refuse⟩ yd_X4_refuse ob_1 (by decide) rfl rfl hl.1 (Nat.le_of_ble_eq_true rfl) ⟨by decide, by decide⟩ ⟨Nat.zero_le _, Nat.zero_le _⟩ dX4_readPart_141 (fun M_52 H locs hp_52 hw => ?_)
            obtain ⟨iM_52, q_53, q_54, q_55⟩ := hp_52
            exact hQ _ _ _ _ _ hw (⟨iM_52, (q_53), (f0_12 q_54), (q_55)⟩) dX4_readPart_144
          refine sb_icmp_lt (tgt := 139) hx hb rfl (by decide : (16 : Int32).toInt = 16) dX4_readPart_114 (by decide) (fun c_114_38 => ?_) (fun c_114_38 => ?_)
          · exact hj_139_50  _ _ _  hw (lv_sub hl [0, 1, 2] rfl)
          · refine lv_iload_n hx hb dX4_readPart_117 rfl (lv_at hl 0 rfl) ?_
            refine lv_bipush (v := 21) hx hb dX4_readPart_118 (by decide) ?_
            refine sb_icmp_gt (tgt := 139) hx hb rfl (by decide : (21 : Int32).toInt = 21) dX4_readPart_120 (by decide) (fun c_120_39 => ?_) (fun c_120_39 => ?_)
            · exact hj_139_50  _ _ _  hw (lv_sub hl [0, 1, 2] rfl)
            · refine lv_aload_n hx hb dX4_readPart_123 rfl (lv_at hl 1 rfl) ?_
              refine ti_get (ci := 4) (k := 2) (N := 6) (T := TX4) (v := .ref (A lw 0)) C hw iw_4 rfl ob_1 (by decide) (by decide) fl_X4_154 rfl (ti_Tv (hL)) dX4_readPart_124 ?_
              refine lv_iload_n hx hb dX4_readPart_127 rfl (lv_at hl 0 rfl) ?_
              refine lv_ineg hx hb dX4_readPart_128 ?_
              refine lv_topi (fun x_41 ex_41 => ?_)
              have tx_41 : x_41.toInt = -x_1.toInt := i_neg ex_41 rfl (by omega)
              refine ti_callVv (ci := 1) (av := [.int x_41]) C hw (s_X1_add l D A cy hJ M hI lw hlw x_41 (by first | omega | exact Or.inl (by decide) | exact Or.inr (by decide))) ⟨ml_X4_170, ym_X1_add, yv_X1_add, yi_X1_add, yc_X1_add⟩ yd_X1_add hlw (by decide) rfl rfl hl.1 (Nat.le_of_ble_eq_true rfl) ⟨by decide, by decide⟩ ⟨Nat.zero_le _, Nat.zero_le _⟩ dX4_readPart_129 (fun M_43 H locs hp_43 hw => ?_)
              obtain ⟨iM_43, q_44, q_45⟩ := hp_43
              refine lv_aload_n hx hb dX4_readPart_132 rfl (lv_at hl 1 rfl) ?_
              refine ti_callVvE (ci := 4) (av := []) C hE hw (s_X4_knot l D A cy hJ M_43 iM_43 t ht ((tT_fr q_44).trans hT)) ⟨ml_X4_167, ym_X4_knot, yv_X4_knot, yi_X4_knot, yc_X4_knot⟩ yd_X4_knot ob_1 (by decide) rfl rfl hl.1 (Nat.le_of_ble_eq_true rfl) ⟨by decide, by decide⟩ ⟨Nat.zero_le _, Nat.zero_le _⟩ dX4_readPart_133 (fun M_47 H locs hp_47 hw => ?_)
              obtain ⟨iM_47, q_48, q_49, q_50⟩ := hp_47
              refine lv_goto (tgt := 144) hx hb dX4_readPart_136 (by decide) ?_
              exact hQ _ _ _ _ _ hw (⟨iM_47, ((q_48).trans q_44), (f0.trans q_49 (f0_x q_45)), ((q_50).trans ((q_45 1).2.1))⟩) dX4_readPart_144
        · refine lv_aload_n hx hb dX4_readPart_90 rfl (lv_at hl 1 rfl) ?_
          refine ti_get (ci := 4) (k := 2) (N := 6) (T := TX4) (v := .ref (A lw 0)) C hw iw_4 rfl ob_1 (by decide) (by decide) fl_X4_154 rfl (ti_Tv (hL)) dX4_readPart_91 ?_
          refine lv_aload_n hx hb dX4_readPart_94 rfl (lv_at hl 1 rfl) ?_
          refine ti_get (ci := 4) (k := 0) (N := 6) (T := TX4) (v := .ref (A 2 0)) C hw iw_4 rfl ob_1 (by decide) (by decide) fl_X4_12 rfl rfl dX4_readPart_95 ?_
          refine ti_get (ci := 7) (k := 6) (N := 7) (T := TX7) C hw iw_7 rfl ob_2 (by decide) (by decide) fl_X4_95 rfl rfl dX4_readPart_98 ?_
          refine lv_topi (fun x_29 ex_29 => ?_)
          have bx_29 : 0 ≤ x_29.toInt ∧ x_29.toInt ≤ 2147483647 := cI_rd hI ob_2.1 ex_29
          have ux_29 : (tI M 2 6).toInt = x_29.toInt := by rw [ex_29]
          refine ti_callVv (ci := 1) (av := [.int x_29]) C hw (s_X1_add l D A cy hJ M hI lw hlw x_29 (by first | omega | exact Or.inl (by decide) | exact Or.inr (by decide))) ⟨ml_X4_170, ym_X1_add, yv_X1_add, yi_X1_add, yc_X1_add⟩ yd_X1_add hlw (by decide) rfl rfl hl.1 (Nat.le_of_ble_eq_true rfl) ⟨by decide, by decide⟩ ⟨Nat.zero_le _, Nat.zero_le _⟩ dX4_readPart_101 (fun M_31 H locs hp_31 hw => ?_)
          obtain ⟨iM_31, q_32, q_33⟩ := hp_31
          refine lv_aload_n hx hb dX4_readPart_104 rfl (lv_at hl 1 rfl) ?_
          refine ti_callVvE (ci := 4) (av := []) C hE hw (s_X4_knot l D A cy hJ M_31 iM_31 t ht ((tT_fr q_32).trans hT)) ⟨ml_X4_167, ym_X4_knot, yv_X4_knot, yi_X4_knot, yc_X4_knot⟩ yd_X4_knot ob_1 (by decide) rfl rfl hl.1 (Nat.le_of_ble_eq_true rfl) ⟨by decide, by decide⟩ ⟨Nat.zero_le _, Nat.zero_le _⟩ dX4_readPart_105 (fun M_35 H locs hp_35 hw => ?_)
          obtain ⟨iM_35, q_36, q_37, q_38⟩ := hp_35
          refine lv_goto (tgt := 144) hx hb dX4_readPart_108 (by decide) ?_
          exact hQ _ _ _ _ _ hw (⟨iM_35, ((q_36).trans q_32), (f0.trans q_37 (f0_x q_33)), ((q_38).trans ((q_33 1).2.1))⟩) dX4_readPart_144
      refine sb_icmp_ne (tgt := 84) hx hb rfl (by decide : (26 : Int32).toInt = 26) dX4_readPart_60 (by decide) (fun c_60_19 => ?_) (fun c_60_19 => ?_)
      · exact hj_84_27  _ _ _  hw (lv_sub hl [0, 1, 2] rfl)
      · refine lv_aload_n hx hb dX4_readPart_63 rfl (lv_at hl 1 rfl) ?_
        refine ti_get (ci := 4) (k := 0) (N := 6) (T := TX4) (v := .ref (A 2 0)) C hw iw_4 rfl ob_1 (by decide) (by decide) fl_X4_12 rfl rfl dX4_readPart_64 ?_
        refine ti_get (ci := 7) (k := 6) (N := 7) (T := TX7) C hw iw_7 rfl ob_2 (by decide) (by decide) fl_X4_95 rfl rfl dX4_readPart_67 ?_
        refine lv_topi (fun x_21 ex_21 => ?_)
        have bx_21 : 0 ≤ x_21.toInt ∧ x_21.toInt ≤ 2147483647 := cI_rd hI ob_2.1 ex_21
        have ux_21 : (tI M 2 6).toInt = x_21.toInt := by rw [ex_21]
        refine lv_sipush (v := 9999) hx hb dX4_readPart_70 (by decide) ?_
        refine sb_icmp_le (tgt := 84) hx hb rfl (by decide : (9999 : Int32).toInt = 9999) dX4_readPart_73 (by decide) (fun c_73_21 => ?_) (fun c_73_21 => ?_)
        · exact hj_84_27  _ _ _  hw (lv_sub hl [0, 1, 2] rfl)
        · refine lv_aload_n hx hb dX4_readPart_76 rfl (lv_at hl 1 rfl) ?_
          refine lv_iconst (v := 2) hx hb dX4_readPart_77 (by decide) ?_
          refine ti_callVv (ci := 4) (av := [.int 2]) C hw (s_X4_refuse l D A cy hJ M hI 2) ⟨ml_X4_82, ym_X4_refuse, yv_X4_refuse, yi_X4_refuse, yc_X4_refuse⟩ yd_X4_refuse ob_1 (by decide) rfl rfl hl.1 (Nat.le_of_ble_eq_true rfl) ⟨by decide, by decide⟩ ⟨Nat.zero_le _, Nat.zero_le _⟩ dX4_readPart_78 (fun M_24 H locs hp_24 hw => ?_)
          obtain ⟨iM_24, q_25, q_26, q_27⟩ := hp_24
          refine lv_goto (tgt := 144) hx hb dX4_readPart_81 (by decide) ?_
          exact hQ _ _ _ _ _ hw (⟨iM_24, (q_25), (f0_12 q_26), (q_27)⟩) dX4_readPart_144
    · refine lv_aload_n hx hb dX4_readPart_34 rfl (lv_at hl 1 rfl) ?_
      refine ti_get (ci := 4) (k := 0) (N := 6) (T := TX4) (v := .ref (A 2 0)) C hw iw_4 rfl ob_1 (by decide) (by decide) fl_X4_12 rfl rfl dX4_readPart_35 ?_
      refine ti_callVvE (ci := 7) (av := []) C hE hw (s_X7_advance l D A cy hJ M hI ) ⟨ml_X4_92, ym_X7_advance, yv_X7_advance, yi_X7_advance, yc_X7_advance⟩ yd_X7_advance ob_2 (by decide) rfl rfl hl.1 (Nat.le_of_ble_eq_true rfl) ⟨by decide, by decide⟩ ⟨Nat.zero_le _, Nat.zero_le _⟩ dX4_readPart_38 (fun M_6 H locs hp_6 hw => ?_)
      obtain ⟨iM_6, q_7, q_8, q_9⟩ := hp_6
      refine lv_aload_n hx hb dX4_readPart_41 rfl (lv_at hl 1 rfl) ?_
      refine lv_iload_n hx hb dX4_readPart_42 rfl (lv_at hl 2 rfl) ?_
      refine lv_iconst (v := 1) hx hb dX4_readPart_43 (by decide) ?_
      refine lv_iadd hx hb dX4_readPart_44 ?_
      refine ti_top (y := 6) (by decide) ?_
      refine ti_callVvE (ci := 4) (av := [.int 6]) C hE hw (s_X4_readEither_6 l D A cy hJ M_6 iM_6 t ht ((tT_fr q_7).trans hT) lw hlw ((tT_fr q_7).trans hL)) ⟨ml_X4_158, ym_X4_readEither, yv_X4_readEither, yi_X4_readEither, yc_X4_readEither⟩ yd_X4_readEither ob_1 (by decide) rfl rfl hl.1 (Nat.le_of_ble_eq_true rfl) ⟨by decide, by decide⟩ ⟨Nat.zero_le _, Nat.zero_le _⟩ dX4_readPart_45 (fun M_11 H locs hp_11 hw => ?_)
      obtain ⟨iM_11, q_12, q_13, q_14⟩ := hp_11
      refine lv_aload_n hx hb dX4_readPart_48 rfl (lv_at hl 1 rfl) ?_
      refine lv_bipush (v := 31) hx hb dX4_readPart_49 (by decide) ?_
      refine ti_callVvE (ci := 4) (av := [.int 31]) C hE hw (s_X4_take l D A cy hJ M_11 iM_11 31) ⟨ml_X4_85, ym_X4_take, yv_X4_take, yi_X4_take, yc_X4_take⟩ yd_X4_take ob_1 (by decide) rfl rfl hl.1 (Nat.le_of_ble_eq_true rfl) ⟨by decide, by decide⟩ ⟨Nat.zero_le _, Nat.zero_le _⟩ dX4_readPart_51 (fun M_16 H locs hp_16 hw => ?_)
      obtain ⟨iM_16, q_17, q_18, q_19⟩ := hp_16
      refine lv_goto (tgt := 144) hx hb dX4_readPart_54 (by decide) ?_
      exact hQ _ _ _ _ _ hw (⟨iM_16, ((q_17).trans ((q_12).trans q_7)), (f0.trans (f0_12 q_18) (f0.trans q_13 (f0_12 q_8))), ((q_19).trans ((q_14).trans q_9))⟩) dX4_readPart_144
  refine sb_icmp_ne (tgt := 28) hx hb rfl (by decide : (30 : Int32).toInt = 30) dX4_readPart_11 (by decide) (fun c_11_1 => ?_) (fun c_11_1 => ?_)
  · exact hj_28_3  _ _ _  hw (lv_sub hl [0, 1, 2] rfl)
  · refine lv_iload_n hx hb dX4_readPart_14 rfl (lv_at hl 2 rfl) ?_
    refine lv_bipush (v := 8) hx hb dX4_readPart_15 (by decide) ?_
    refine sb_icmp_lt (tgt := 28) hx hb (by decide : (5 : Int32).toInt = 5) (by decide : (8 : Int32).toInt = 8) dX4_readPart_17 (by decide) (fun c_17_2 => ?_) (fun h => absurd h (by decide))
    exact hj_28_3  _ _ _  hw (lv_sub hl [0, 1, 2] rfl)
set_option maxHeartbeats 4000000 in
set_option maxRecDepth 100000 in
theorem s_X4_readProduct_5 (l : Launch) (D : va_G) (A : Nat → Nat → Nat) (cy : Nat → ClassId) (hJ : ti_inj ti_LT A) (M : ti_M) (hI : cI Tc M) (t : Nat) (ht : t = 3 ∨ t = 4) (hT : tT M 1 1 = some t) (lw : Nat) (hlw : ti_ob ti_LT lw 1) (hL : tT M 1 2 = some lw) : ti_KvE l yX4_readProduct cX4_readProduct 4 30 ti_LT D A cy M [.ref (A 1 0), .int 5] (fun M2 => cI Tc M2 ∧ M2.2.2.2 = M.2.2.2 ∧ f0 M2 M ∧ tI M2 2 1 = tI M 2 1) := by
  refine ti_eVE yp_X4_readProduct hJ ti_LT_nd (Nat.le_of_ble_eq_true rfl) ?_
  intro p e s m args below meth c Q H0 C hE hQ hw ls hl
  have hx := C.1
  have hb := C.2.1
  have hl : lv_has ls 4 [(0, .ref (A 1 0)), (1, .int 5)] := hl
  refine lv_aload_n hx hb dX4_readProduct_0 rfl (lv_at hl 0 rfl) ?_
  refine lv_iload_n hx hb dX4_readProduct_1 rfl (lv_at hl 1 rfl) ?_
  refine ti_callVvE (ci := 4) (av := [.int 5]) C hE hw (s_X4_readPart_5 l D A cy hJ M hI t ht (hT) lw hlw (hL)) ⟨ml_X4_187, ym_X4_readPart, yv_X4_readPart, yi_X4_readPart, yc_X4_readPart⟩ yd_X4_readPart ob_1 (by decide) rfl rfl hl.1 (Nat.le_of_ble_eq_true rfl) ⟨by decide, by decide⟩ ⟨Nat.zero_le _, Nat.zero_le _⟩ dX4_readProduct_2 (fun M_2 H locs hp_2 hw => ?_)
  obtain ⟨iM_2, q_3, q_4, q_5⟩ := hp_2
  refine lv_iconst (v := 0) hx hb dX4_readProduct_5 (by decide) ?_
  refine lv_istore_n (lv' := [(2, .int 0), (0, .ref (A 1 0)), (1, .int 5)]) hx hb dX4_readProduct_6 rfl hl (by decide) rfl (fun ls hl => ?_)
  have hl_7_12 : ∀ (n_13 : Nat) (x_6 : Int32) (M_9 : ti_M) (H : Heap) (locs : List Loc) (ls : Array Slot), (64 - x_6.toInt : Int).toNat < n_13 → (0 ≤ x_6.toInt) → (x_6.toInt ≤ 64) → (cI Tc M_9) → (M_9.2.2.2 = M.2.2.2) → (f0 M_9 M) → (tI M_9 2 1 = tI M 2 1) → ti_H ti_LT D A cy H0 M_9 H locs → lv_has ls 4 [(2, .int x_6), (0, .ref (A 1 0)), (1, .int 5)] → W p l e (ti_rm 30) s m args below meth c H locs 0 0 Q (F0 m 7 ls []) := by
    intro n_13
    induction n_13 with
    | zero => intro x_6 M_9 H locs ls hf_13; exact absurd hf_13 (Nat.not_lt_zero _)
    | succ n_13 ih_13 =>
      intro x_6 M_9 H locs ls hf_13 b_7 b_8 iM_9 f_10 f_11 f_12 hw hl
      refine lv_iload_n hx hb dX4_readProduct_7 rfl (lv_at hl 0 rfl) ?_
      refine lv_bipush (v := 64) hx hb dX4_readProduct_8 (by decide) ?_
      refine sb_icmp_ge (tgt := 69) hx hb rfl (by decide : (64 : Int32).toInt = 64) dX4_readProduct_10 (by decide) (fun c_10_13 => ?_) (fun c_10_13 => ?_)
      · exact hQ _ _ _ _ _ hw (⟨iM_9, (f_10), f_11, (f_12)⟩) dX4_readProduct_69
      · refine lv_aload_n hx hb dX4_readProduct_13 rfl (lv_at hl 1 rfl) ?_
        refine ti_get (ci := 4) (k := 0) (N := 6) (T := TX4) (v := .ref (A 2 0)) C hw iw_4 rfl ob_1 (by decide) (by decide) fl_X4_12 rfl rfl dX4_readProduct_14 ?_
        refine ti_get (ci := 7) (k := 4) (N := 7) (T := TX7) C hw iw_7 rfl ob_2 (by decide) (by decide) fl_X4_41 rfl rfl dX4_readProduct_17 ?_
        refine lv_topi (fun x_15 ex_15 => ?_)
        have bx_15 : 0 ≤ x_15.toInt ∧ x_15.toInt ≤ 41 := cI_rd iM_9 ob_2.1 ex_15
        have ux_15 : (tI M_9 2 4).toInt = x_15.toInt := by rw [ex_15]
        refine lv_bipush (v := 40) hx hb dX4_readProduct_20 (by decide) ?_
        have hj_37_19 : ∀  (H : Heap) (locs : List Loc) (ls : Array Slot), (16 ≤ (tI M_9 2 4).toInt) → ti_H ti_LT D A cy H0 M_9 H locs → lv_has ls 4 [(2, .int x_6), (0, .ref (A 1 0)), (1, .int 5)] → W p l e (ti_rm 30) s m args below meth c H locs 0 0 Q (F0 m 37 ls []) := by
          intro  H locs ls j_19 hw hl
          refine lv_aload_n hx hb dX4_readProduct_37 rfl (lv_at hl 1 rfl) ?_
          refine ti_get (ci := 4) (k := 0) (N := 6) (T := TX4) (v := .ref (A 2 0)) C hw iw_4 rfl ob_1 (by decide) (by decide) fl_X4_12 rfl rfl dX4_readProduct_38 ?_
          refine ti_get (ci := 7) (k := 4) (N := 7) (T := TX7) C hw iw_7 rfl ob_2 (by decide) (by decide) fl_X4_41 rfl rfl dX4_readProduct_41 ?_
          refine ti_top (y := x_15) (ex_15.symm) ?_
          have u_22 : (tI M_9 2 4).toInt = (x_15 : Int32).toInt := by rw [(ex_15.symm)]
          refine lv_istore_n (lv' := [(3, .int x_15), (2, .int x_6), (0, .ref (A 1 0)), (1, .int 5)]) hx hb dX4_readProduct_44 rfl hl (by decide) rfl (fun ls hl => ?_)
          refine lv_aload_n hx hb dX4_readProduct_45 rfl (lv_at hl 2 rfl) ?_
          refine ti_callVvE (ci := 4) (av := []) C hE hw (s_X4_knot l D A cy hJ M_9 iM_9 t ht ((tT_fr f_10).trans hT)) ⟨ml_X4_167, ym_X4_knot, yv_X4_knot, yi_X4_knot, yc_X4_knot⟩ yd_X4_knot ob_1 (by decide) rfl rfl hl.1 (Nat.le_of_ble_eq_true rfl) ⟨by decide, by decide⟩ ⟨Nat.zero_le _, Nat.zero_le _⟩ dX4_readProduct_46 (fun M_24 H locs hp_24 hw => ?_)
          obtain ⟨iM_24, q_25, q_26, q_27⟩ := hp_24
          refine lv_aload_n hx hb dX4_readProduct_49 rfl (lv_at hl 2 rfl) ?_
          refine lv_iload_n hx hb dX4_readProduct_50 rfl (lv_at hl 3 rfl) ?_
          refine ti_callVvE (ci := 4) (av := [.int 5]) C hE hw (s_X4_readPart_5 l D A cy hJ M_24 iM_24 t ht ((tT_fr q_25).trans ((tT_fr f_10).trans hT)) lw hlw ((tT_fr q_25).trans ((tT_fr f_10).trans hL))) ⟨ml_X4_187, ym_X4_readPart, yv_X4_readPart, yi_X4_readPart, yc_X4_readPart⟩ yd_X4_readPart ob_1 (by decide) rfl rfl hl.1 (Nat.le_of_ble_eq_true rfl) ⟨by decide, by decide⟩ ⟨Nat.zero_le _, Nat.zero_le _⟩ dX4_readProduct_51 (fun M_29 H locs hp_29 hw => ?_)
          obtain ⟨iM_29, q_30, q_31, q_32⟩ := hp_29
          refine lv_aload_n hx hb dX4_readProduct_54 rfl (lv_at hl 2 rfl) ?_
          refine ti_get (ci := 4) (k := 2) (N := 6) (T := TX4) (v := .ref (A lw 0)) C hw iw_4 rfl ob_1 (by decide) (by decide) fl_X4_154 rfl (ti_Tv ((tT_fr q_30).trans ((tT_fr q_25).trans ((tT_fr f_10).trans hL)))) dX4_readProduct_55 ?_
          refine lv_iload_n hx hb dX4_readProduct_58 rfl (lv_at hl 0 rfl) ?_
          refine lv_ineg hx hb dX4_readProduct_59 ?_
          refine lv_topi (fun x_33 ex_33 => ?_)
          have tx_33 : x_33.toInt = -x_15.toInt := i_neg ex_33 rfl (by omega)
          refine ti_callVv (ci := 1) (av := [.int x_33]) C hw (s_X1_add l D A cy hJ M_29 iM_29 lw hlw x_33 (by first | omega | exact Or.inl (by decide) | exact Or.inr (by decide))) ⟨ml_X4_170, ym_X1_add, yv_X1_add, yi_X1_add, yc_X1_add⟩ yd_X1_add hlw (by decide) rfl rfl hl.1 (Nat.le_of_ble_eq_true rfl) ⟨by decide, by decide⟩ ⟨Nat.zero_le _, Nat.zero_le _⟩ dX4_readProduct_60 (fun M_35 H locs hp_35 hw => ?_)
          obtain ⟨iM_35, q_36, q_37⟩ := hp_35
          obtain ⟨x_38, ex_38⟩ : ∃ z : Int32, z = x_6 + 1 := ⟨_, rfl⟩
          have tx_38 : x_38.toInt = x_6.toInt + 1 := i_add ex_38 rfl (by decide) (by omega) (by omega)
          refine lv_iinc (v := x_38) (lv' := [(2, .int x_38), (3, .int x_15), (0, .ref (A 1 0)), (1, .int 5)]) hx hb dX4_readProduct_63 hl (k := 1) rfl (by rw [ex_38]; rfl) (by decide) rfl (fun ls hl => ?_)
          refine lv_goto (tgt := 7) hx hb dX4_readProduct_66 (by decide) ?_
          exact ih_13 x_38 M_35 _ _ _ (by omega) (by first | omega | decide) (by first | omega | decide) iM_35 ((q_36).trans ((q_30).trans ((q_25).trans f_10))) (f0.trans (f0_x q_37) (f0.trans q_31 (f0.trans q_26 f_11))) (((q_37 1).2.1).trans ((q_32).trans ((q_27).trans f_12))) hw (lv_sub hl [0, 2, 3] rfl)
        refine sb_icmp_eq (tgt := 37) hx hb rfl (by decide : (40 : Int32).toInt = 40) dX4_readProduct_22 (by decide) (fun c_22_15 => ?_) (fun c_22_15 => ?_)
        · have u_20 : (tI M_9 2 4).toInt = (x_15 : Int32).toInt := by rw [(ex_15.symm)]
          exact hj_37_19  _ _ _ (by first | omega | decide) hw (lv_sub hl [0, 1, 2] rfl)
        · refine lv_aload_n hx hb dX4_readProduct_25 rfl (lv_at hl 1 rfl) ?_
          refine ti_get (ci := 4) (k := 0) (N := 6) (T := TX4) (v := .ref (A 2 0)) C hw iw_4 rfl ob_1 (by decide) (by decide) fl_X4_12 rfl rfl dX4_readProduct_26 ?_
          refine ti_get (ci := 7) (k := 4) (N := 7) (T := TX7) C hw iw_7 rfl ob_2 (by decide) (by decide) fl_X4_41 rfl rfl dX4_readProduct_29 ?_
          refine ti_top (y := x_15) (ex_15.symm) ?_
          have u_17 : (tI M_9 2 4).toInt = (x_15 : Int32).toInt := by rw [(ex_15.symm)]
          refine lv_bipush (v := 41) hx hb dX4_readProduct_32 (by decide) ?_
          refine sb_icmp_ne (tgt := 69) hx hb rfl (by decide : (41 : Int32).toInt = 41) dX4_readProduct_34 (by decide) (fun c_34_17 => ?_) (fun c_34_17 => ?_)
          · exact hQ _ _ _ _ _ hw (⟨iM_9, (f_10), f_11, (f_12)⟩) dX4_readProduct_69
          · have u_21 : (tI M_9 2 4).toInt = (x_15 : Int32).toInt := by rw [(ex_15.symm)]
            exact hj_37_19  _ _ _ (by first | omega | decide) hw (lv_sub hl [0, 1, 2] rfl)
  exact hl_7_12 ((64 - 0 : Int).toNat + 1) 0 M_2 _ _ _ (Nat.lt_succ_self _) (by have lt0 : (0 : Int32).toInt = 0 := (by decide); first | omega | decide) (by have lt0 : (0 : Int32).toInt = 0 := (by decide); first | omega | decide) iM_2 (q_3) q_4 (q_5) hw (lv_sub hl [0, 1, 2] rfl)
set_option maxHeartbeats 4000000 in
set_option maxRecDepth 100000 in
theorem s_X4_readSum_5 (l : Launch) (D : va_G) (A : Nat → Nat → Nat) (cy : Nat → ClassId) (hJ : ti_inj ti_LT A) (M : ti_M) (hI : cI Tc M) (t : Nat) (ht : t = 3 ∨ t = 4) (hT : tT M 1 1 = some t) (lw : Nat) (hlw : ti_ob ti_LT lw 1) (hL : tT M 1 2 = some lw) : ti_KvE l yX4_readSum cX4_readSum 4 31 ti_LT D A cy M [.ref (A 1 0), .int 5] (fun M2 => cI Tc M2 ∧ M2.2.2.2 = M.2.2.2 ∧ f0 M2 M ∧ tI M2 2 1 = tI M 2 1) := by
  refine ti_eVE yp_X4_readSum hJ ti_LT_nd (Nat.le_of_ble_eq_true rfl) ?_
  intro p e s m args below meth c Q H0 C hE hQ hw ls hl
  have hx := C.1
  have hb := C.2.1
  have hl : lv_has ls 4 [(0, .ref (A 1 0)), (1, .int 5)] := hl
  refine lv_aload_n hx hb dX4_readSum_0 rfl (lv_at hl 0 rfl) ?_
  refine lv_iload_n hx hb dX4_readSum_1 rfl (lv_at hl 1 rfl) ?_
  refine ti_callVvE (ci := 4) (av := [.int 5]) C hE hw (s_X4_readProduct_5 l D A cy hJ M hI t ht (hT) lw hlw (hL)) ⟨ml_X4_184, ym_X4_readProduct, yv_X4_readProduct, yi_X4_readProduct, yc_X4_readProduct⟩ yd_X4_readProduct ob_1 (by decide) rfl rfl hl.1 (Nat.le_of_ble_eq_true rfl) ⟨by decide, by decide⟩ ⟨Nat.zero_le _, Nat.zero_le _⟩ dX4_readSum_2 (fun M_2 H locs hp_2 hw => ?_)
  obtain ⟨iM_2, q_3, q_4, q_5⟩ := hp_2
  refine lv_iconst (v := 0) hx hb dX4_readSum_5 (by decide) ?_
  refine lv_istore_n (lv' := [(2, .int 0), (0, .ref (A 1 0)), (1, .int 5)]) hx hb dX4_readSum_6 rfl hl (by decide) rfl (fun ls hl => ?_)
  have hl_7_12 : ∀ (n_13 : Nat) (x_6 : Int32) (M_9 : ti_M) (H : Heap) (locs : List Loc) (ls : Array Slot), (64 - x_6.toInt : Int).toNat < n_13 → (0 ≤ x_6.toInt) → (x_6.toInt ≤ 64) → (cI Tc M_9) → (M_9.2.2.2 = M.2.2.2) → (f0 M_9 M) → (tI M_9 2 1 = tI M 2 1) → ti_H ti_LT D A cy H0 M_9 H locs → lv_has ls 4 [(2, .int x_6), (0, .ref (A 1 0)), (1, .int 5)] → W p l e (ti_rm 31) s m args below meth c H locs 0 0 Q (F0 m 7 ls []) := by
    intro n_13
    induction n_13 with
    | zero => intro x_6 M_9 H locs ls hf_13; exact absurd hf_13 (Nat.not_lt_zero _)
    | succ n_13 ih_13 =>
      intro x_6 M_9 H locs ls hf_13 b_7 b_8 iM_9 f_10 f_11 f_12 hw hl
      refine lv_iload_n hx hb dX4_readSum_7 rfl (lv_at hl 0 rfl) ?_
      refine lv_bipush (v := 64) hx hb dX4_readSum_8 (by decide) ?_
      refine sb_icmp_ge (tgt := 69) hx hb rfl (by decide : (64 : Int32).toInt = 64) dX4_readSum_10 (by decide) (fun c_10_13 => ?_) (fun c_10_13 => ?_)
      · exact hQ _ _ _ _ _ hw (⟨iM_9, (f_10), f_11, (f_12)⟩) dX4_readSum_69
      · refine lv_aload_n hx hb dX4_readSum_13 rfl (lv_at hl 1 rfl) ?_
        refine ti_get (ci := 4) (k := 0) (N := 6) (T := TX4) (v := .ref (A 2 0)) C hw iw_4 rfl ob_1 (by decide) (by decide) fl_X4_12 rfl rfl dX4_readSum_14 ?_
        refine ti_get (ci := 7) (k := 4) (N := 7) (T := TX7) C hw iw_7 rfl ob_2 (by decide) (by decide) fl_X4_41 rfl rfl dX4_readSum_17 ?_
        refine lv_topi (fun x_15 ex_15 => ?_)
        have bx_15 : 0 ≤ x_15.toInt ∧ x_15.toInt ≤ 41 := cI_rd iM_9 ob_2.1 ex_15
        have ux_15 : (tI M_9 2 4).toInt = x_15.toInt := by rw [ex_15]
        refine lv_bipush (v := 38) hx hb dX4_readSum_20 (by decide) ?_
        have hj_37_19 : ∀  (H : Heap) (locs : List Loc) (ls : Array Slot), (16 ≤ (tI M_9 2 4).toInt) → ti_H ti_LT D A cy H0 M_9 H locs → lv_has ls 4 [(2, .int x_6), (0, .ref (A 1 0)), (1, .int 5)] → W p l e (ti_rm 31) s m args below meth c H locs 0 0 Q (F0 m 37 ls []) := by
          intro  H locs ls j_19 hw hl
          refine lv_aload_n hx hb dX4_readSum_37 rfl (lv_at hl 1 rfl) ?_
          refine ti_get (ci := 4) (k := 0) (N := 6) (T := TX4) (v := .ref (A 2 0)) C hw iw_4 rfl ob_1 (by decide) (by decide) fl_X4_12 rfl rfl dX4_readSum_38 ?_
          refine ti_get (ci := 7) (k := 4) (N := 7) (T := TX7) C hw iw_7 rfl ob_2 (by decide) (by decide) fl_X4_41 rfl rfl dX4_readSum_41 ?_
          refine ti_top (y := x_15) (ex_15.symm) ?_
          have u_22 : (tI M_9 2 4).toInt = (x_15 : Int32).toInt := by rw [(ex_15.symm)]
          refine lv_istore_n (lv' := [(3, .int x_15), (2, .int x_6), (0, .ref (A 1 0)), (1, .int 5)]) hx hb dX4_readSum_44 rfl hl (by decide) rfl (fun ls hl => ?_)
          refine lv_aload_n hx hb dX4_readSum_45 rfl (lv_at hl 2 rfl) ?_
          refine ti_callVvE (ci := 4) (av := []) C hE hw (s_X4_knot l D A cy hJ M_9 iM_9 t ht ((tT_fr f_10).trans hT)) ⟨ml_X4_167, ym_X4_knot, yv_X4_knot, yi_X4_knot, yc_X4_knot⟩ yd_X4_knot ob_1 (by decide) rfl rfl hl.1 (Nat.le_of_ble_eq_true rfl) ⟨by decide, by decide⟩ ⟨Nat.zero_le _, Nat.zero_le _⟩ dX4_readSum_46 (fun M_24 H locs hp_24 hw => ?_)
          obtain ⟨iM_24, q_25, q_26, q_27⟩ := hp_24
          refine lv_aload_n hx hb dX4_readSum_49 rfl (lv_at hl 2 rfl) ?_
          refine lv_iload_n hx hb dX4_readSum_50 rfl (lv_at hl 3 rfl) ?_
          refine ti_callVvE (ci := 4) (av := [.int 5]) C hE hw (s_X4_readProduct_5 l D A cy hJ M_24 iM_24 t ht ((tT_fr q_25).trans ((tT_fr f_10).trans hT)) lw hlw ((tT_fr q_25).trans ((tT_fr f_10).trans hL))) ⟨ml_X4_184, ym_X4_readProduct, yv_X4_readProduct, yi_X4_readProduct, yc_X4_readProduct⟩ yd_X4_readProduct ob_1 (by decide) rfl rfl hl.1 (Nat.le_of_ble_eq_true rfl) ⟨by decide, by decide⟩ ⟨Nat.zero_le _, Nat.zero_le _⟩ dX4_readSum_51 (fun M_29 H locs hp_29 hw => ?_)
          obtain ⟨iM_29, q_30, q_31, q_32⟩ := hp_29
          refine lv_aload_n hx hb dX4_readSum_54 rfl (lv_at hl 2 rfl) ?_
          refine ti_get (ci := 4) (k := 2) (N := 6) (T := TX4) (v := .ref (A lw 0)) C hw iw_4 rfl ob_1 (by decide) (by decide) fl_X4_154 rfl (ti_Tv ((tT_fr q_30).trans ((tT_fr q_25).trans ((tT_fr f_10).trans hL)))) dX4_readSum_55 ?_
          refine lv_iload_n hx hb dX4_readSum_58 rfl (lv_at hl 0 rfl) ?_
          refine lv_ineg hx hb dX4_readSum_59 ?_
          refine lv_topi (fun x_33 ex_33 => ?_)
          have tx_33 : x_33.toInt = -x_15.toInt := i_neg ex_33 rfl (by omega)
          refine ti_callVv (ci := 1) (av := [.int x_33]) C hw (s_X1_add l D A cy hJ M_29 iM_29 lw hlw x_33 (by first | omega | exact Or.inl (by decide) | exact Or.inr (by decide))) ⟨ml_X4_170, ym_X1_add, yv_X1_add, yi_X1_add, yc_X1_add⟩ yd_X1_add hlw (by decide) rfl rfl hl.1 (Nat.le_of_ble_eq_true rfl) ⟨by decide, by decide⟩ ⟨Nat.zero_le _, Nat.zero_le _⟩ dX4_readSum_60 (fun M_35 H locs hp_35 hw => ?_)
          obtain ⟨iM_35, q_36, q_37⟩ := hp_35
          obtain ⟨x_38, ex_38⟩ : ∃ z : Int32, z = x_6 + 1 := ⟨_, rfl⟩
          have tx_38 : x_38.toInt = x_6.toInt + 1 := i_add ex_38 rfl (by decide) (by omega) (by omega)
          refine lv_iinc (v := x_38) (lv' := [(2, .int x_38), (3, .int x_15), (0, .ref (A 1 0)), (1, .int 5)]) hx hb dX4_readSum_63 hl (k := 1) rfl (by rw [ex_38]; rfl) (by decide) rfl (fun ls hl => ?_)
          refine lv_goto (tgt := 7) hx hb dX4_readSum_66 (by decide) ?_
          exact ih_13 x_38 M_35 _ _ _ (by omega) (by first | omega | decide) (by first | omega | decide) iM_35 ((q_36).trans ((q_30).trans ((q_25).trans f_10))) (f0.trans (f0_x q_37) (f0.trans q_31 (f0.trans q_26 f_11))) (((q_37 1).2.1).trans ((q_32).trans ((q_27).trans f_12))) hw (lv_sub hl [0, 2, 3] rfl)
        refine sb_icmp_eq (tgt := 37) hx hb rfl (by decide : (38 : Int32).toInt = 38) dX4_readSum_22 (by decide) (fun c_22_15 => ?_) (fun c_22_15 => ?_)
        · have u_20 : (tI M_9 2 4).toInt = (x_15 : Int32).toInt := by rw [(ex_15.symm)]
          exact hj_37_19  _ _ _ (by first | omega | decide) hw (lv_sub hl [0, 1, 2] rfl)
        · refine lv_aload_n hx hb dX4_readSum_25 rfl (lv_at hl 1 rfl) ?_
          refine ti_get (ci := 4) (k := 0) (N := 6) (T := TX4) (v := .ref (A 2 0)) C hw iw_4 rfl ob_1 (by decide) (by decide) fl_X4_12 rfl rfl dX4_readSum_26 ?_
          refine ti_get (ci := 7) (k := 4) (N := 7) (T := TX7) C hw iw_7 rfl ob_2 (by decide) (by decide) fl_X4_41 rfl rfl dX4_readSum_29 ?_
          refine ti_top (y := x_15) (ex_15.symm) ?_
          have u_17 : (tI M_9 2 4).toInt = (x_15 : Int32).toInt := by rw [(ex_15.symm)]
          refine lv_bipush (v := 39) hx hb dX4_readSum_32 (by decide) ?_
          refine sb_icmp_ne (tgt := 69) hx hb rfl (by decide : (39 : Int32).toInt = 39) dX4_readSum_34 (by decide) (fun c_34_17 => ?_) (fun c_34_17 => ?_)
          · exact hQ _ _ _ _ _ hw (⟨iM_9, (f_10), f_11, (f_12)⟩) dX4_readSum_69
          · have u_21 : (tI M_9 2 4).toInt = (x_15 : Int32).toInt := by rw [(ex_15.symm)]
            exact hj_37_19  _ _ _ (by first | omega | decide) hw (lv_sub hl [0, 1, 2] rfl)
  exact hl_7_12 ((64 - 0 : Int).toNat + 1) 0 M_2 _ _ _ (Nat.lt_succ_self _) (by have lt0 : (0 : Int32).toInt = 0 := (by decide); first | omega | decide) (by have lt0 : (0 : Int32).toInt = 0 := (by decide); first | omega | decide) iM_2 (q_3) q_4 (q_5) hw (lv_sub hl [0, 1, 2] rfl)
set_option maxHeartbeats 4000000 in
set_option maxRecDepth 100000 in
theorem s_X4_readComparison_5 (l : Launch) (D : va_G) (A : Nat → Nat → Nat) (cy : Nat → ClassId) (hJ : ti_inj ti_LT A) (M : ti_M) (hI : cI Tc M) (t : Nat) (ht : t = 3 ∨ t = 4) (hT : tT M 1 1 = some t) (lw : Nat) (hlw : ti_ob ti_LT lw 1) (hL : tT M 1 2 = some lw) : ti_KvE l yX4_readComparison cX4_readComparison 3 32 ti_LT D A cy M [.ref (A 1 0), .int 5] (fun M2 => cI Tc M2 ∧ M2.2.2.2 = M.2.2.2 ∧ f0 M2 M ∧ tI M2 2 1 = tI M 2 1) := by
  refine ti_eVE yp_X4_readComparison hJ ti_LT_nd (Nat.le_of_ble_eq_true rfl) ?_
  intro p e s m args below meth c Q H0 C hE hQ hw ls hl
  have hx := C.1
  have hb := C.2.1
  have hl : lv_has ls 3 [(0, .ref (A 1 0)), (1, .int 5)] := hl
  refine lv_aload_n hx hb dX4_readComparison_0 rfl (lv_at hl 0 rfl) ?_
  refine lv_iload_n hx hb dX4_readComparison_1 rfl (lv_at hl 1 rfl) ?_
  refine ti_callVvE (ci := 4) (av := [.int 5]) C hE hw (s_X4_readSum_5 l D A cy hJ M hI t ht (hT) lw hlw (hL)) ⟨ml_X4_181, ym_X4_readSum, yv_X4_readSum, yi_X4_readSum, yc_X4_readSum⟩ yd_X4_readSum ob_1 (by decide) rfl rfl hl.1 (Nat.le_of_ble_eq_true rfl) ⟨by decide, by decide⟩ ⟨Nat.zero_le _, Nat.zero_le _⟩ dX4_readComparison_2 (fun M_2 H locs hp_2 hw => ?_)
  obtain ⟨iM_2, q_3, q_4, q_5⟩ := hp_2
  refine lv_aload_n hx hb dX4_readComparison_5 rfl (lv_at hl 0 rfl) ?_
  refine ti_get (ci := 4) (k := 0) (N := 6) (T := TX4) (v := .ref (A 2 0)) C hw iw_4 rfl ob_1 (by decide) (by decide) fl_X4_12 rfl rfl dX4_readComparison_6 ?_
  refine ti_get (ci := 7) (k := 4) (N := 7) (T := TX7) C hw iw_7 rfl ob_2 (by decide) (by decide) fl_X4_41 rfl rfl dX4_readComparison_9 ?_
  refine lv_topi (fun x_6 ex_6 => ?_)
  have bx_6 : 0 ≤ x_6.toInt ∧ x_6.toInt ≤ 41 := cI_rd iM_2 ob_2.1 ex_6
  have ux_6 : (tI M_2 2 4).toInt = x_6.toInt := by rw [ex_6]
  refine lv_istore_n (lv' := [(2, .int x_6), (0, .ref (A 1 0)), (1, .int 5)]) hx hb dX4_readComparison_12 rfl hl (by decide) rfl (fun ls hl => ?_)
  refine lv_iload_n hx hb dX4_readComparison_13 rfl (lv_at hl 0 rfl) ?_
  refine lv_bipush (v := 32) hx hb dX4_readComparison_14 (by decide) ?_
  refine sb_icmp_lt (tgt := 43) hx hb rfl (by decide : (32 : Int32).toInt = 32) dX4_readComparison_16 (by decide) (fun c_16_6 => ?_) (fun c_16_6 => ?_)
  · exact hQ _ _ _ _ _ hw (⟨iM_2, (q_3), q_4, (q_5)⟩) dX4_readComparison_43
  · refine lv_iload_n hx hb dX4_readComparison_19 rfl (lv_at hl 0 rfl) ?_
    refine lv_bipush (v := 37) hx hb dX4_readComparison_20 (by decide) ?_
    refine sb_icmp_gt (tgt := 43) hx hb rfl (by decide : (37 : Int32).toInt = 37) dX4_readComparison_22 (by decide) (fun c_22_7 => ?_) (fun c_22_7 => ?_)
    · exact hQ _ _ _ _ _ hw (⟨iM_2, (q_3), q_4, (q_5)⟩) dX4_readComparison_43
    · refine lv_aload_n hx hb dX4_readComparison_25 rfl (lv_at hl 1 rfl) ?_
      refine ti_callVvE (ci := 4) (av := []) C hE hw (s_X4_knot l D A cy hJ M_2 iM_2 t ht ((tT_fr q_3).trans hT)) ⟨ml_X4_167, ym_X4_knot, yv_X4_knot, yi_X4_knot, yc_X4_knot⟩ yd_X4_knot ob_1 (by decide) rfl rfl hl.1 (Nat.le_of_ble_eq_true rfl) ⟨by decide, by decide⟩ ⟨Nat.zero_le _, Nat.zero_le _⟩ dX4_readComparison_26 (fun M_10 H locs hp_10 hw => ?_)
      obtain ⟨iM_10, q_11, q_12, q_13⟩ := hp_10
      refine lv_aload_n hx hb dX4_readComparison_29 rfl (lv_at hl 1 rfl) ?_
      refine lv_iload_n hx hb dX4_readComparison_30 rfl (lv_at hl 2 rfl) ?_
      refine ti_callVvE (ci := 4) (av := [.int 5]) C hE hw (s_X4_readSum_5 l D A cy hJ M_10 iM_10 t ht ((tT_fr q_11).trans ((tT_fr q_3).trans hT)) lw hlw ((tT_fr q_11).trans ((tT_fr q_3).trans hL))) ⟨ml_X4_181, ym_X4_readSum, yv_X4_readSum, yi_X4_readSum, yc_X4_readSum⟩ yd_X4_readSum ob_1 (by decide) rfl rfl hl.1 (Nat.le_of_ble_eq_true rfl) ⟨by decide, by decide⟩ ⟨Nat.zero_le _, Nat.zero_le _⟩ dX4_readComparison_31 (fun M_15 H locs hp_15 hw => ?_)
      obtain ⟨iM_15, q_16, q_17, q_18⟩ := hp_15
      refine lv_aload_n hx hb dX4_readComparison_34 rfl (lv_at hl 1 rfl) ?_
      refine ti_get (ci := 4) (k := 2) (N := 6) (T := TX4) (v := .ref (A lw 0)) C hw iw_4 rfl ob_1 (by decide) (by decide) fl_X4_154 rfl (ti_Tv ((tT_fr q_16).trans ((tT_fr q_11).trans ((tT_fr q_3).trans hL)))) dX4_readComparison_35 ?_
      refine lv_iload_n hx hb dX4_readComparison_38 rfl (lv_at hl 0 rfl) ?_
      refine lv_ineg hx hb dX4_readComparison_39 ?_
      refine lv_topi (fun x_19 ex_19 => ?_)
      have tx_19 : x_19.toInt = -x_6.toInt := i_neg ex_19 rfl (by omega)
      refine ti_callVv (ci := 1) (av := [.int x_19]) C hw (s_X1_add l D A cy hJ M_15 iM_15 lw hlw x_19 (by first | omega | exact Or.inl (by decide) | exact Or.inr (by decide))) ⟨ml_X4_170, ym_X1_add, yv_X1_add, yi_X1_add, yc_X1_add⟩ yd_X1_add hlw (by decide) rfl rfl hl.1 (Nat.le_of_ble_eq_true rfl) ⟨by decide, by decide⟩ ⟨Nat.zero_le _, Nat.zero_le _⟩ dX4_readComparison_40 (fun M_21 H locs hp_21 hw => ?_)
      obtain ⟨iM_21, q_22, q_23⟩ := hp_21
      exact hQ _ _ _ _ _ hw (⟨iM_21, ((q_22).trans ((q_16).trans ((q_11).trans q_3))), (f0.trans (f0_x q_23) (f0.trans q_17 (f0.trans q_12 q_4))), (((q_23 1).2.1).trans ((q_18).trans ((q_13).trans q_5)))⟩) dX4_readComparison_43
set_option maxHeartbeats 4000000 in
set_option maxRecDepth 100000 in
theorem s_X4_readNegated_5 (l : Launch) (D : va_G) (A : Nat → Nat → Nat) (cy : Nat → ClassId) (hJ : ti_inj ti_LT A) (M : ti_M) (hI : cI Tc M) (t : Nat) (ht : t = 3 ∨ t = 4) (hT : tT M 1 1 = some t) (lw : Nat) (hlw : ti_ob ti_LT lw 1) (hL : tT M 1 2 = some lw) : ti_KvE l yX4_readNegated cX4_readNegated 4 33 ti_LT D A cy M [.ref (A 1 0), .int 5] (fun M2 => cI Tc M2 ∧ M2.2.2.2 = M.2.2.2 ∧ f0 M2 M ∧ tI M2 2 1 = tI M 2 1) := by
  refine ti_eVE yp_X4_readNegated hJ ti_LT_nd (Nat.le_of_ble_eq_true rfl) ?_
  intro p e s m args below meth c Q H0 C hE hQ hw ls hl
  have hx := C.1
  have hb := C.2.1
  have hl : lv_has ls 4 [(0, .ref (A 1 0)), (1, .int 5)] := hl
  refine lv_iconst (v := 0) hx hb dX4_readNegated_0 (by decide) ?_
  refine lv_istore_n (lv' := [(2, .int 0), (0, .ref (A 1 0)), (1, .int 5)]) hx hb dX4_readNegated_1 rfl hl (by decide) rfl (fun ls hl => ?_)
  have hl_2_7 : ∀ (n_8 : Nat) (x_1 : Int32) (M_4 : ti_M) (H : Heap) (locs : List Loc) (ls : Array Slot), (65 - x_1.toInt : Int).toNat < n_8 → (0 ≤ x_1.toInt) → (x_1.toInt ≤ 65) → (cI Tc M_4) → (M_4.2.2.2 = M.2.2.2) → (f0 M_4 M) → (tI M_4 2 1 = tI M 2 1) → ti_H ti_LT D A cy H0 M_4 H locs → lv_has ls 4 [(2, .int x_1), (0, .ref (A 1 0)), (1, .int 5)] → W p l e (ti_rm 33) s m args below meth c H locs 0 0 Q (F0 m 2 ls []) := by
    intro n_8
    induction n_8 with
    | zero => intro x_1 M_4 H locs ls hf_8; exact absurd hf_8 (Nat.not_lt_zero _)
    | succ n_8 ih_8 =>
      intro x_1 M_4 H locs ls hf_8 b_2 b_3 iM_4 f_5 f_6 f_7 hw hl
      refine lv_iload_n hx hb dX4_readNegated_2 rfl (lv_at hl 0 rfl) ?_
      refine lv_bipush (v := 64) hx hb dX4_readNegated_3 (by decide) ?_
      have hj_30_17 : ∀  (H : Heap) (locs : List Loc) (ls : Array Slot), ti_H ti_LT D A cy H0 M_4 H locs → lv_has ls 4 [(2, .int x_1), (0, .ref (A 1 0)), (1, .int 5)] → W p l e (ti_rm 33) s m args below meth c H locs 0 0 Q (F0 m 30 ls []) := by
        intro  H locs ls  hw hl
        refine lv_aload_n hx hb dX4_readNegated_30 rfl (lv_at hl 1 rfl) ?_
        refine lv_iload_n hx hb dX4_readNegated_31 rfl (lv_at hl 2 rfl) ?_
        refine ti_callVvE (ci := 4) (av := [.int 5]) C hE hw (s_X4_readComparison_5 l D A cy hJ M_4 iM_4 t ht ((tT_fr f_5).trans hT) lw hlw ((tT_fr f_5).trans hL)) ⟨ml_X4_178, ym_X4_readComparison, yv_X4_readComparison, yi_X4_readComparison, yc_X4_readComparison⟩ yd_X4_readComparison ob_1 (by decide) rfl rfl hl.1 (Nat.le_of_ble_eq_true rfl) ⟨by decide, by decide⟩ ⟨Nat.zero_le _, Nat.zero_le _⟩ dX4_readNegated_32 (fun M_19 H locs hp_19 hw => ?_)
        obtain ⟨iM_19, q_20, q_21, q_22⟩ := hp_19
        refine lv_iconst (v := 0) hx hb dX4_readNegated_35 (by decide) ?_
        refine lv_istore_n (lv' := [(3, .int 0), (2, .int x_1), (0, .ref (A 1 0)), (1, .int 5)]) hx hb dX4_readNegated_36 rfl hl (by decide) rfl (fun ls hl => ?_)
        have hl_37_29 : ∀ (n_30 : Nat) (x_23 : Int32) (M_26 : ti_M) (H : Heap) (locs : List Loc) (ls : Array Slot), (65 - x_23.toInt : Int).toNat < n_30 → (0 ≤ x_23.toInt) → (x_23.toInt ≤ 65) → (cI Tc M_26) → (M_26.2.2.2 = M.2.2.2) → (f0 M_26 M) → (tI M_26 2 1 = tI M 2 1) → ti_H ti_LT D A cy H0 M_26 H locs → lv_has ls 4 [(3, .int x_23), (2, .int x_1), (0, .ref (A 1 0)), (1, .int 5)] → W p l e (ti_rm 33) s m args below meth c H locs 0 0 Q (F0 m 37 ls []) := by
          intro n_30
          induction n_30 with
          | zero => intro x_23 M_26 H locs ls hf_30; exact absurd hf_30 (Nat.not_lt_zero _)
          | succ n_30 ih_30 =>
            intro x_23 M_26 H locs ls hf_30 b_24 b_25 iM_26 f_27 f_28 f_29 hw hl
            refine lv_iload_n hx hb dX4_readNegated_37 rfl (lv_at hl 0 rfl) ?_
            refine lv_iload_n hx hb dX4_readNegated_38 rfl (lv_at hl 1 rfl) ?_
            refine sb_icmp_ge (tgt := 57) hx hb rfl rfl dX4_readNegated_39 (by decide) (fun c_39_30 => ?_) (fun c_39_30 => ?_)
            · exact hQ _ _ _ _ _ hw (⟨iM_26, (f_27), f_28, (f_29)⟩) dX4_readNegated_57
            · refine lv_aload_n hx hb dX4_readNegated_42 rfl (lv_at hl 2 rfl) ?_
              refine ti_get (ci := 4) (k := 2) (N := 6) (T := TX4) (v := .ref (A lw 0)) C hw iw_4 rfl ob_1 (by decide) (by decide) fl_X4_154 rfl (ti_Tv ((tT_fr f_27).trans hL)) dX4_readNegated_43 ?_
              refine lv_bipush (v := (-24)) hx hb dX4_readNegated_46 (by decide) ?_
              refine ti_callVv (ci := 1) (av := [.int (-24)]) C hw (s_X1_add l D A cy hJ M_26 iM_26 lw hlw (-24) (by first | omega | exact Or.inl (by decide) | exact Or.inr (by decide))) ⟨ml_X4_170, ym_X1_add, yv_X1_add, yi_X1_add, yc_X1_add⟩ yd_X1_add hlw (by decide) rfl rfl hl.1 (Nat.le_of_ble_eq_true rfl) ⟨by decide, by decide⟩ ⟨Nat.zero_le _, Nat.zero_le _⟩ dX4_readNegated_48 (fun M_33 H locs hp_33 hw => ?_)
              obtain ⟨iM_33, q_34, q_35⟩ := hp_33
              obtain ⟨x_36, ex_36⟩ : ∃ z : Int32, z = x_23 + 1 := ⟨_, rfl⟩
              have tx_36 : x_36.toInt = x_23.toInt + 1 := i_add ex_36 rfl (by decide) (by omega) (by omega)
              refine lv_iinc (v := x_36) (lv' := [(3, .int x_36), (2, .int x_1), (0, .ref (A 1 0)), (1, .int 5)]) hx hb dX4_readNegated_51 hl (k := 0) rfl (by rw [ex_36]; rfl) (by decide) rfl (fun ls hl => ?_)
              refine lv_goto (tgt := 37) hx hb dX4_readNegated_54 (by decide) ?_
              exact ih_30 x_36 M_33 _ _ _ (by omega) (by first | omega | decide) (by first | omega | decide) iM_33 ((q_34).trans f_27) (f0.trans (f0_x q_35) f_28) (((q_35 1).2.1).trans f_29) hw (lv_sub hl [0, 1, 2, 3] rfl)
        exact hl_37_29 ((65 - 0 : Int).toNat + 1) 0 M_19 _ _ _ (Nat.lt_succ_self _) (by have lt0 : (0 : Int32).toInt = 0 := (by decide); first | omega | decide) (by have lt0 : (0 : Int32).toInt = 0 := (by decide); first | omega | decide) iM_19 ((q_20).trans f_5) (f0.trans q_21 f_6) ((q_22).trans f_7) hw (lv_sub hl [0, 1, 2, 3] rfl)
      refine sb_icmp_gt (tgt := 30) hx hb rfl (by decide : (64 : Int32).toInt = 64) dX4_readNegated_5 (by decide) (fun c_5_8 => ?_) (fun c_5_8 => ?_)
      · exact hj_30_17  _ _ _  hw (lv_sub hl [0, 1, 2] rfl)
      · refine lv_aload_n hx hb dX4_readNegated_8 rfl (lv_at hl 1 rfl) ?_
        refine ti_get (ci := 4) (k := 0) (N := 6) (T := TX4) (v := .ref (A 2 0)) C hw iw_4 rfl ob_1 (by decide) (by decide) fl_X4_12 rfl rfl dX4_readNegated_9 ?_
        refine ti_get (ci := 7) (k := 4) (N := 7) (T := TX7) C hw iw_7 rfl ob_2 (by decide) (by decide) fl_X4_41 rfl rfl dX4_readNegated_12 ?_
        refine lv_topi (fun x_10 ex_10 => ?_)
        have bx_10 : 0 ≤ x_10.toInt ∧ x_10.toInt ≤ 41 := cI_rd iM_4 ob_2.1 ex_10
        have ux_10 : (tI M_4 2 4).toInt = x_10.toInt := by rw [ex_10]
        refine lv_bipush (v := 24) hx hb dX4_readNegated_15 (by decide) ?_
        refine sb_icmp_ne (tgt := 30) hx hb rfl (by decide : (24 : Int32).toInt = 24) dX4_readNegated_17 (by decide) (fun c_17_10 => ?_) (fun c_17_10 => ?_)
        · exact hj_30_17  _ _ _  hw (lv_sub hl [0, 1, 2] rfl)
        · refine lv_aload_n hx hb dX4_readNegated_20 rfl (lv_at hl 1 rfl) ?_
          refine ti_callVvE (ci := 4) (av := []) C hE hw (s_X4_knot l D A cy hJ M_4 iM_4 t ht ((tT_fr f_5).trans hT)) ⟨ml_X4_167, ym_X4_knot, yv_X4_knot, yi_X4_knot, yc_X4_knot⟩ yd_X4_knot ob_1 (by decide) rfl rfl hl.1 (Nat.le_of_ble_eq_true rfl) ⟨by decide, by decide⟩ ⟨Nat.zero_le _, Nat.zero_le _⟩ dX4_readNegated_21 (fun M_13 H locs hp_13 hw => ?_)
          obtain ⟨iM_13, q_14, q_15, q_16⟩ := hp_13
          obtain ⟨x_17, ex_17⟩ : ∃ z : Int32, z = x_1 + 1 := ⟨_, rfl⟩
          have tx_17 : x_17.toInt = x_1.toInt + 1 := i_add ex_17 rfl (by decide) (by omega) (by omega)
          refine lv_iinc (v := x_17) (lv' := [(2, .int x_17), (0, .ref (A 1 0)), (1, .int 5)]) hx hb dX4_readNegated_24 hl (k := 0) rfl (by rw [ex_17]; rfl) (by decide) rfl (fun ls hl => ?_)
          refine lv_goto (tgt := 2) hx hb dX4_readNegated_27 (by decide) ?_
          exact ih_8 x_17 M_13 _ _ _ (by omega) (by first | omega | decide) (by first | omega | decide) iM_13 ((q_14).trans f_5) (f0.trans q_15 f_6) ((q_16).trans f_7) hw (lv_sub hl [0, 1, 2] rfl)
  exact hl_2_7 ((65 - 0 : Int).toNat + 1) 0 M _ _ _ (Nat.lt_succ_self _) (by have lt0 : (0 : Int32).toInt = 0 := (by decide); first | omega | decide) (by have lt0 : (0 : Int32).toInt = 0 := (by decide); first | omega | decide) hI rfl f0.refl rfl hw (lv_sub hl [0, 1, 2] rfl)
set_option maxHeartbeats 4000000 in
set_option maxRecDepth 100000 in
theorem s_X4_readBoth_5 (l : Launch) (D : va_G) (A : Nat → Nat → Nat) (cy : Nat → ClassId) (hJ : ti_inj ti_LT A) (M : ti_M) (hI : cI Tc M) (t : Nat) (ht : t = 3 ∨ t = 4) (hT : tT M 1 1 = some t) (lw : Nat) (hlw : ti_ob ti_LT lw 1) (hL : tT M 1 2 = some lw) : ti_KvE l yX4_readBoth cX4_readBoth 3 34 ti_LT D A cy M [.ref (A 1 0), .int 5] (fun M2 => cI Tc M2 ∧ M2.2.2.2 = M.2.2.2 ∧ f0 M2 M ∧ tI M2 2 1 = tI M 2 1) := by
  refine ti_eVE yp_X4_readBoth hJ ti_LT_nd (Nat.le_of_ble_eq_true rfl) ?_
  intro p e s m args below meth c Q H0 C hE hQ hw ls hl
  have hx := C.1
  have hb := C.2.1
  have hl : lv_has ls 3 [(0, .ref (A 1 0)), (1, .int 5)] := hl
  refine lv_aload_n hx hb dX4_readBoth_0 rfl (lv_at hl 0 rfl) ?_
  refine lv_iload_n hx hb dX4_readBoth_1 rfl (lv_at hl 1 rfl) ?_
  refine ti_callVvE (ci := 4) (av := [.int 5]) C hE hw (s_X4_readNegated_5 l D A cy hJ M hI t ht (hT) lw hlw (hL)) ⟨ml_X4_175, ym_X4_readNegated, yv_X4_readNegated, yi_X4_readNegated, yc_X4_readNegated⟩ yd_X4_readNegated ob_1 (by decide) rfl rfl hl.1 (Nat.le_of_ble_eq_true rfl) ⟨by decide, by decide⟩ ⟨Nat.zero_le _, Nat.zero_le _⟩ dX4_readBoth_2 (fun M_2 H locs hp_2 hw => ?_)
  obtain ⟨iM_2, q_3, q_4, q_5⟩ := hp_2
  refine lv_iconst (v := 0) hx hb dX4_readBoth_5 (by decide) ?_
  refine lv_istore_n (lv' := [(2, .int 0), (0, .ref (A 1 0)), (1, .int 5)]) hx hb dX4_readBoth_6 rfl hl (by decide) rfl (fun ls hl => ?_)
  have hl_7_12 : ∀ (n_13 : Nat) (x_6 : Int32) (M_9 : ti_M) (H : Heap) (locs : List Loc) (ls : Array Slot), (64 - x_6.toInt : Int).toNat < n_13 → (0 ≤ x_6.toInt) → (x_6.toInt ≤ 64) → (cI Tc M_9) → (M_9.2.2.2 = M.2.2.2) → (f0 M_9 M) → (tI M_9 2 1 = tI M 2 1) → ti_H ti_LT D A cy H0 M_9 H locs → lv_has ls 3 [(2, .int x_6), (0, .ref (A 1 0)), (1, .int 5)] → W p l e (ti_rm 34) s m args below meth c H locs 0 0 Q (F0 m 7 ls []) := by
    intro n_13
    induction n_13 with
    | zero => intro x_6 M_9 H locs ls hf_13; exact absurd hf_13 (Nat.not_lt_zero _)
    | succ n_13 ih_13 =>
      intro x_6 M_9 H locs ls hf_13 b_7 b_8 iM_9 f_10 f_11 f_12 hw hl
      refine lv_iload_n hx hb dX4_readBoth_7 rfl (lv_at hl 0 rfl) ?_
      refine lv_bipush (v := 64) hx hb dX4_readBoth_8 (by decide) ?_
      refine sb_icmp_ge (tgt := 49) hx hb rfl (by decide : (64 : Int32).toInt = 64) dX4_readBoth_10 (by decide) (fun c_10_13 => ?_) (fun c_10_13 => ?_)
      · exact hQ _ _ _ _ _ hw (⟨iM_9, (f_10), f_11, (f_12)⟩) dX4_readBoth_49
      · refine lv_aload_n hx hb dX4_readBoth_13 rfl (lv_at hl 1 rfl) ?_
        refine ti_get (ci := 4) (k := 0) (N := 6) (T := TX4) (v := .ref (A 2 0)) C hw iw_4 rfl ob_1 (by decide) (by decide) fl_X4_12 rfl rfl dX4_readBoth_14 ?_
        refine ti_get (ci := 7) (k := 4) (N := 7) (T := TX7) C hw iw_7 rfl ob_2 (by decide) (by decide) fl_X4_41 rfl rfl dX4_readBoth_17 ?_
        refine lv_topi (fun x_15 ex_15 => ?_)
        have bx_15 : 0 ≤ x_15.toInt ∧ x_15.toInt ≤ 41 := cI_rd iM_9 ob_2.1 ex_15
        have ux_15 : (tI M_9 2 4).toInt = x_15.toInt := by rw [ex_15]
        refine lv_bipush (v := 22) hx hb dX4_readBoth_20 (by decide) ?_
        refine sb_icmp_ne (tgt := 49) hx hb rfl (by decide : (22 : Int32).toInt = 22) dX4_readBoth_22 (by decide) (fun c_22_15 => ?_) (fun c_22_15 => ?_)
        · exact hQ _ _ _ _ _ hw (⟨iM_9, (f_10), f_11, (f_12)⟩) dX4_readBoth_49
        · refine lv_aload_n hx hb dX4_readBoth_25 rfl (lv_at hl 1 rfl) ?_
          refine ti_callVvE (ci := 4) (av := []) C hE hw (s_X4_knot l D A cy hJ M_9 iM_9 t ht ((tT_fr f_10).trans hT)) ⟨ml_X4_167, ym_X4_knot, yv_X4_knot, yi_X4_knot, yc_X4_knot⟩ yd_X4_knot ob_1 (by decide) rfl rfl hl.1 (Nat.le_of_ble_eq_true rfl) ⟨by decide, by decide⟩ ⟨Nat.zero_le _, Nat.zero_le _⟩ dX4_readBoth_26 (fun M_18 H locs hp_18 hw => ?_)
          obtain ⟨iM_18, q_19, q_20, q_21⟩ := hp_18
          refine lv_aload_n hx hb dX4_readBoth_29 rfl (lv_at hl 1 rfl) ?_
          refine lv_iload_n hx hb dX4_readBoth_30 rfl (lv_at hl 2 rfl) ?_
          refine ti_callVvE (ci := 4) (av := [.int 5]) C hE hw (s_X4_readNegated_5 l D A cy hJ M_18 iM_18 t ht ((tT_fr q_19).trans ((tT_fr f_10).trans hT)) lw hlw ((tT_fr q_19).trans ((tT_fr f_10).trans hL))) ⟨ml_X4_175, ym_X4_readNegated, yv_X4_readNegated, yi_X4_readNegated, yc_X4_readNegated⟩ yd_X4_readNegated ob_1 (by decide) rfl rfl hl.1 (Nat.le_of_ble_eq_true rfl) ⟨by decide, by decide⟩ ⟨Nat.zero_le _, Nat.zero_le _⟩ dX4_readBoth_31 (fun M_23 H locs hp_23 hw => ?_)
          obtain ⟨iM_23, q_24, q_25, q_26⟩ := hp_23
          refine lv_aload_n hx hb dX4_readBoth_34 rfl (lv_at hl 1 rfl) ?_
          refine ti_get (ci := 4) (k := 2) (N := 6) (T := TX4) (v := .ref (A lw 0)) C hw iw_4 rfl ob_1 (by decide) (by decide) fl_X4_154 rfl (ti_Tv ((tT_fr q_24).trans ((tT_fr q_19).trans ((tT_fr f_10).trans hL)))) dX4_readBoth_35 ?_
          refine lv_bipush (v := (-22)) hx hb dX4_readBoth_38 (by decide) ?_
          refine ti_callVv (ci := 1) (av := [.int (-22)]) C hw (s_X1_add l D A cy hJ M_23 iM_23 lw hlw (-22) (by first | omega | exact Or.inl (by decide) | exact Or.inr (by decide))) ⟨ml_X4_170, ym_X1_add, yv_X1_add, yi_X1_add, yc_X1_add⟩ yd_X1_add hlw (by decide) rfl rfl hl.1 (Nat.le_of_ble_eq_true rfl) ⟨by decide, by decide⟩ ⟨Nat.zero_le _, Nat.zero_le _⟩ dX4_readBoth_40 (fun M_28 H locs hp_28 hw => ?_)
          obtain ⟨iM_28, q_29, q_30⟩ := hp_28
          obtain ⟨x_31, ex_31⟩ : ∃ z : Int32, z = x_6 + 1 := ⟨_, rfl⟩
          have tx_31 : x_31.toInt = x_6.toInt + 1 := i_add ex_31 rfl (by decide) (by omega) (by omega)
          refine lv_iinc (v := x_31) (lv' := [(2, .int x_31), (0, .ref (A 1 0)), (1, .int 5)]) hx hb dX4_readBoth_43 hl (k := 0) rfl (by rw [ex_31]; rfl) (by decide) rfl (fun ls hl => ?_)
          refine lv_goto (tgt := 7) hx hb dX4_readBoth_46 (by decide) ?_
          exact ih_13 x_31 M_28 _ _ _ (by omega) (by first | omega | decide) (by first | omega | decide) iM_28 ((q_29).trans ((q_24).trans ((q_19).trans f_10))) (f0.trans (f0_x q_30) (f0.trans q_25 (f0.trans q_20 f_11))) (((q_30 1).2.1).trans ((q_26).trans ((q_21).trans f_12))) hw (lv_sub hl [0, 1, 2] rfl)
  exact hl_7_12 ((64 - 0 : Int).toNat + 1) 0 M_2 _ _ _ (Nat.lt_succ_self _) (by have lt0 : (0 : Int32).toInt = 0 := (by decide); first | omega | decide) (by have lt0 : (0 : Int32).toInt = 0 := (by decide); first | omega | decide) iM_2 (q_3) q_4 (q_5) hw (lv_sub hl [0, 1, 2] rfl)
set_option maxHeartbeats 4000000 in
set_option maxRecDepth 100000 in
theorem s_X4_readEither_5 (l : Launch) (D : va_G) (A : Nat → Nat → Nat) (cy : Nat → ClassId) (hJ : ti_inj ti_LT A) (M : ti_M) (hI : cI Tc M) (t : Nat) (ht : t = 3 ∨ t = 4) (hT : tT M 1 1 = some t) (lw : Nat) (hlw : ti_ob ti_LT lw 1) (hL : tT M 1 2 = some lw) : ti_KvE l yX4_readEither cX4_readEither 3 35 ti_LT D A cy M [.ref (A 1 0), .int 5] (fun M2 => cI Tc M2 ∧ M2.2.2.2 = M.2.2.2 ∧ f0 M2 M ∧ tI M2 2 1 = tI M 2 1) := by
  refine ti_eVE yp_X4_readEither hJ ti_LT_nd (Nat.le_of_ble_eq_true rfl) ?_
  intro p e s m args below meth c Q H0 C hE hQ hw ls hl
  have hx := C.1
  have hb := C.2.1
  have hl : lv_has ls 3 [(0, .ref (A 1 0)), (1, .int 5)] := hl
  refine lv_aload_n hx hb dX4_readEither_0 rfl (lv_at hl 0 rfl) ?_
  refine lv_iload_n hx hb dX4_readEither_1 rfl (lv_at hl 1 rfl) ?_
  refine ti_callVvE (ci := 4) (av := [.int 5]) C hE hw (s_X4_readBoth_5 l D A cy hJ M hI t ht (hT) lw hlw (hL)) ⟨ml_X4_164, ym_X4_readBoth, yv_X4_readBoth, yi_X4_readBoth, yc_X4_readBoth⟩ yd_X4_readBoth ob_1 (by decide) rfl rfl hl.1 (Nat.le_of_ble_eq_true rfl) ⟨by decide, by decide⟩ ⟨Nat.zero_le _, Nat.zero_le _⟩ dX4_readEither_2 (fun M_2 H locs hp_2 hw => ?_)
  obtain ⟨iM_2, q_3, q_4, q_5⟩ := hp_2
  refine lv_iconst (v := 0) hx hb dX4_readEither_5 (by decide) ?_
  refine lv_istore_n (lv' := [(2, .int 0), (0, .ref (A 1 0)), (1, .int 5)]) hx hb dX4_readEither_6 rfl hl (by decide) rfl (fun ls hl => ?_)
  have hl_7_12 : ∀ (n_13 : Nat) (x_6 : Int32) (M_9 : ti_M) (H : Heap) (locs : List Loc) (ls : Array Slot), (64 - x_6.toInt : Int).toNat < n_13 → (0 ≤ x_6.toInt) → (x_6.toInt ≤ 64) → (cI Tc M_9) → (M_9.2.2.2 = M.2.2.2) → (f0 M_9 M) → (tI M_9 2 1 = tI M 2 1) → ti_H ti_LT D A cy H0 M_9 H locs → lv_has ls 3 [(2, .int x_6), (0, .ref (A 1 0)), (1, .int 5)] → W p l e (ti_rm 35) s m args below meth c H locs 0 0 Q (F0 m 7 ls []) := by
    intro n_13
    induction n_13 with
    | zero => intro x_6 M_9 H locs ls hf_13; exact absurd hf_13 (Nat.not_lt_zero _)
    | succ n_13 ih_13 =>
      intro x_6 M_9 H locs ls hf_13 b_7 b_8 iM_9 f_10 f_11 f_12 hw hl
      refine lv_iload_n hx hb dX4_readEither_7 rfl (lv_at hl 0 rfl) ?_
      refine lv_bipush (v := 64) hx hb dX4_readEither_8 (by decide) ?_
      refine sb_icmp_ge (tgt := 49) hx hb rfl (by decide : (64 : Int32).toInt = 64) dX4_readEither_10 (by decide) (fun c_10_13 => ?_) (fun c_10_13 => ?_)
      · exact hQ _ _ _ _ _ hw (⟨iM_9, (f_10), f_11, (f_12)⟩) dX4_readEither_49
      · refine lv_aload_n hx hb dX4_readEither_13 rfl (lv_at hl 1 rfl) ?_
        refine ti_get (ci := 4) (k := 0) (N := 6) (T := TX4) (v := .ref (A 2 0)) C hw iw_4 rfl ob_1 (by decide) (by decide) fl_X4_12 rfl rfl dX4_readEither_14 ?_
        refine ti_get (ci := 7) (k := 4) (N := 7) (T := TX7) C hw iw_7 rfl ob_2 (by decide) (by decide) fl_X4_41 rfl rfl dX4_readEither_17 ?_
        refine lv_topi (fun x_15 ex_15 => ?_)
        have bx_15 : 0 ≤ x_15.toInt ∧ x_15.toInt ≤ 41 := cI_rd iM_9 ob_2.1 ex_15
        have ux_15 : (tI M_9 2 4).toInt = x_15.toInt := by rw [ex_15]
        refine lv_bipush (v := 23) hx hb dX4_readEither_20 (by decide) ?_
        refine sb_icmp_ne (tgt := 49) hx hb rfl (by decide : (23 : Int32).toInt = 23) dX4_readEither_22 (by decide) (fun c_22_15 => ?_) (fun c_22_15 => ?_)
        · exact hQ _ _ _ _ _ hw (⟨iM_9, (f_10), f_11, (f_12)⟩) dX4_readEither_49
        · refine lv_aload_n hx hb dX4_readEither_25 rfl (lv_at hl 1 rfl) ?_
          refine ti_callVvE (ci := 4) (av := []) C hE hw (s_X4_knot l D A cy hJ M_9 iM_9 t ht ((tT_fr f_10).trans hT)) ⟨ml_X4_167, ym_X4_knot, yv_X4_knot, yi_X4_knot, yc_X4_knot⟩ yd_X4_knot ob_1 (by decide) rfl rfl hl.1 (Nat.le_of_ble_eq_true rfl) ⟨by decide, by decide⟩ ⟨Nat.zero_le _, Nat.zero_le _⟩ dX4_readEither_26 (fun M_18 H locs hp_18 hw => ?_)
          obtain ⟨iM_18, q_19, q_20, q_21⟩ := hp_18
          refine lv_aload_n hx hb dX4_readEither_29 rfl (lv_at hl 1 rfl) ?_
          refine lv_iload_n hx hb dX4_readEither_30 rfl (lv_at hl 2 rfl) ?_
          refine ti_callVvE (ci := 4) (av := [.int 5]) C hE hw (s_X4_readBoth_5 l D A cy hJ M_18 iM_18 t ht ((tT_fr q_19).trans ((tT_fr f_10).trans hT)) lw hlw ((tT_fr q_19).trans ((tT_fr f_10).trans hL))) ⟨ml_X4_164, ym_X4_readBoth, yv_X4_readBoth, yi_X4_readBoth, yc_X4_readBoth⟩ yd_X4_readBoth ob_1 (by decide) rfl rfl hl.1 (Nat.le_of_ble_eq_true rfl) ⟨by decide, by decide⟩ ⟨Nat.zero_le _, Nat.zero_le _⟩ dX4_readEither_31 (fun M_23 H locs hp_23 hw => ?_)
          obtain ⟨iM_23, q_24, q_25, q_26⟩ := hp_23
          refine lv_aload_n hx hb dX4_readEither_34 rfl (lv_at hl 1 rfl) ?_
          refine ti_get (ci := 4) (k := 2) (N := 6) (T := TX4) (v := .ref (A lw 0)) C hw iw_4 rfl ob_1 (by decide) (by decide) fl_X4_154 rfl (ti_Tv ((tT_fr q_24).trans ((tT_fr q_19).trans ((tT_fr f_10).trans hL)))) dX4_readEither_35 ?_
          refine lv_bipush (v := (-23)) hx hb dX4_readEither_38 (by decide) ?_
          refine ti_callVv (ci := 1) (av := [.int (-23)]) C hw (s_X1_add l D A cy hJ M_23 iM_23 lw hlw (-23) (by first | omega | exact Or.inl (by decide) | exact Or.inr (by decide))) ⟨ml_X4_170, ym_X1_add, yv_X1_add, yi_X1_add, yc_X1_add⟩ yd_X1_add hlw (by decide) rfl rfl hl.1 (Nat.le_of_ble_eq_true rfl) ⟨by decide, by decide⟩ ⟨Nat.zero_le _, Nat.zero_le _⟩ dX4_readEither_40 (fun M_28 H locs hp_28 hw => ?_)
          obtain ⟨iM_28, q_29, q_30⟩ := hp_28
          obtain ⟨x_31, ex_31⟩ : ∃ z : Int32, z = x_6 + 1 := ⟨_, rfl⟩
          have tx_31 : x_31.toInt = x_6.toInt + 1 := i_add ex_31 rfl (by decide) (by omega) (by omega)
          refine lv_iinc (v := x_31) (lv' := [(2, .int x_31), (0, .ref (A 1 0)), (1, .int 5)]) hx hb dX4_readEither_43 hl (k := 0) rfl (by rw [ex_31]; rfl) (by decide) rfl (fun ls hl => ?_)
          refine lv_goto (tgt := 7) hx hb dX4_readEither_46 (by decide) ?_
          exact ih_13 x_31 M_28 _ _ _ (by omega) (by first | omega | decide) (by first | omega | decide) iM_28 ((q_29).trans ((q_24).trans ((q_19).trans f_10))) (f0.trans (f0_x q_30) (f0.trans q_25 (f0.trans q_20 f_11))) (((q_30 1).2.1).trans ((q_26).trans ((q_21).trans f_12))) hw (lv_sub hl [0, 1, 2] rfl)
  exact hl_7_12 ((64 - 0 : Int).toNat + 1) 0 M_2 _ _ _ (Nat.lt_succ_self _) (by have lt0 : (0 : Int32).toInt = 0 := (by decide); first | omega | decide) (by have lt0 : (0 : Int32).toInt = 0 := (by decide); first | omega | decide) iM_2 (q_3) q_4 (q_5) hw (lv_sub hl [0, 1, 2] rfl)
set_option maxHeartbeats 4000000 in
set_option maxRecDepth 100000 in
theorem s_X4_readPart_4 (l : Launch) (D : va_G) (A : Nat → Nat → Nat) (cy : Nat → ClassId) (hJ : ti_inj ti_LT A) (M : ti_M) (hI : cI Tc M) (t : Nat) (ht : t = 3 ∨ t = 4) (hT : tT M 1 1 = some t) (lw : Nat) (hlw : ti_ob ti_LT lw 1) (hL : tT M 1 2 = some lw) : ti_KvE l yX4_readPart cX4_readPart 3 36 ti_LT D A cy M [.ref (A 1 0), .int 4] (fun M2 => cI Tc M2 ∧ M2.2.2.2 = M.2.2.2 ∧ f0 M2 M ∧ tI M2 2 1 = tI M 2 1) := by
  refine ti_eVE yp_X4_readPart hJ ti_LT_nd (Nat.le_of_ble_eq_true rfl) ?_
  intro p e s m args below meth c Q H0 C hE hQ hw ls hl
  have hx := C.1
  have hb := C.2.1
  have hl : lv_has ls 3 [(0, .ref (A 1 0)), (1, .int 4)] := hl
  refine lv_aload_n hx hb dX4_readPart_0 rfl (lv_at hl 0 rfl) ?_
  refine ti_get (ci := 4) (k := 0) (N := 6) (T := TX4) (v := .ref (A 2 0)) C hw iw_4 rfl ob_1 (by decide) (by decide) fl_X4_12 rfl rfl dX4_readPart_1 ?_
  refine ti_get (ci := 7) (k := 4) (N := 7) (T := TX7) C hw iw_7 rfl ob_2 (by decide) (by decide) fl_X4_41 rfl rfl dX4_readPart_4 ?_
  refine lv_topi (fun x_1 ex_1 => ?_)
  have bx_1 : 0 ≤ x_1.toInt ∧ x_1.toInt ≤ 41 := cI_rd hI ob_2.1 ex_1
  have ux_1 : (tI M 2 4).toInt = x_1.toInt := by rw [ex_1]
  refine lv_istore_n (lv' := [(2, .int x_1), (0, .ref (A 1 0)), (1, .int 4)]) hx hb dX4_readPart_7 rfl hl (by decide) rfl (fun ls hl => ?_)
  refine lv_iload_n hx hb dX4_readPart_8 rfl (lv_at hl 0 rfl) ?_
  refine lv_bipush (v := 30) hx hb dX4_readPart_9 (by decide) ?_
  have hj_28_3 : ∀  (H : Heap) (locs : List Loc) (ls : Array Slot), ti_H ti_LT D A cy H0 M H locs → lv_has ls 3 [(2, .int x_1), (0, .ref (A 1 0)), (1, .int 4)] → W p l e (ti_rm 36) s m args below meth c H locs 0 0 Q (F0 m 28 ls []) := by
    intro  H locs ls  hw hl
    refine lv_iload_n hx hb dX4_readPart_28 rfl (lv_at hl 0 rfl) ?_
    refine lv_bipush (v := 30) hx hb dX4_readPart_29 (by decide) ?_
    refine sb_icmp_ne (tgt := 57) hx hb rfl (by decide : (30 : Int32).toInt = 30) dX4_readPart_31 (by decide) (fun c_31_3 => ?_) (fun c_31_3 => ?_)
    · refine lv_iload_n hx hb dX4_readPart_57 rfl (lv_at hl 0 rfl) ?_
      refine lv_bipush (v := 26) hx hb dX4_readPart_58 (by decide) ?_
      have hj_84_27 : ∀  (H : Heap) (locs : List Loc) (ls : Array Slot), ti_H ti_LT D A cy H0 M H locs → lv_has ls 3 [(2, .int x_1), (0, .ref (A 1 0)), (1, .int 4)] → W p l e (ti_rm 36) s m args below meth c H locs 0 0 Q (F0 m 84 ls []) := by
        intro  H locs ls  hw hl
        refine lv_iload_n hx hb dX4_readPart_84 rfl (lv_at hl 0 rfl) ?_
        refine lv_bipush (v := 26) hx hb dX4_readPart_85 (by decide) ?_
        refine sb_icmp_ne (tgt := 111) hx hb rfl (by decide : (26 : Int32).toInt = 26) dX4_readPart_87 (by decide) (fun c_87_27 => ?_) (fun c_87_27 => ?_)
        · refine lv_iload_n hx hb dX4_readPart_111 rfl (lv_at hl 0 rfl) ?_
          refine lv_bipush (v := 16) hx hb dX4_readPart_112 (by decide) ?_
          have hj_139_50 : ∀  (H : Heap) (locs : List Loc) (ls : Array Slot), ti_H ti_LT D A cy H0 M H locs → lv_has ls 3 [(2, .int x_1), (0, .ref (A 1 0)), (1, .int 4)] → W p l e (ti_rm 36) s m args below meth c H locs 0 0 Q (F0 m 139 ls []) := by
            intro  H locs ls  hw hl
            refine lv_aload_n hx hb dX4_readPart_139 rfl (lv_at hl 1 rfl) ?_
            refine lv_iconst (v := 1) hx hb dX4_readPart_140 (by decide) ?_
            refine ti_callVv (ci := 4) (av := [.int 1]) C hw (s_X4_refuse l D A cy hJ M hI 1) ⟨ml_X4_82, ym_X4_refuse, yv_X4_refuse, yi_X4_refuse, yc_X4_refuse⟩ yd_X4_refuse ob_1 (by decide) rfl rfl hl.1 (Nat.le_of_ble_eq_true rfl) ⟨by decide, by decide⟩ ⟨Nat.zero_le _, Nat.zero_le _⟩ dX4_readPart_141 (fun M_52 H locs hp_52 hw => ?_)
            obtain ⟨iM_52, q_53, q_54, q_55⟩ := hp_52
            exact hQ _ _ _ _ _ hw (⟨iM_52, (q_53), (f0_12 q_54), (q_55)⟩) dX4_readPart_144
          refine sb_icmp_lt (tgt := 139) hx hb rfl (by decide : (16 : Int32).toInt = 16) dX4_readPart_114 (by decide) (fun c_114_38 => ?_) (fun c_114_38 => ?_)
          · exact hj_139_50  _ _ _  hw (lv_sub hl [0, 1, 2] rfl)
          · refine lv_iload_n hx hb dX4_readPart_117 rfl (lv_at hl 0 rfl) ?_
            refine lv_bipush (v := 21) hx hb dX4_readPart_118 (by decide) ?_
            refine sb_icmp_gt (tgt := 139) hx hb rfl (by decide : (21 : Int32).toInt = 21) dX4_readPart_120 (by decide) (fun c_120_39 => ?_) (fun c_120_39 => ?_)
            · exact hj_139_50  _ _ _  hw (lv_sub hl [0, 1, 2] rfl)
            · refine lv_aload_n hx hb dX4_readPart_123 rfl (lv_at hl 1 rfl) ?_
              refine ti_get (ci := 4) (k := 2) (N := 6) (T := TX4) (v := .ref (A lw 0)) C hw iw_4 rfl ob_1 (by decide) (by decide) fl_X4_154 rfl (ti_Tv (hL)) dX4_readPart_124 ?_
              refine lv_iload_n hx hb dX4_readPart_127 rfl (lv_at hl 0 rfl) ?_
              refine lv_ineg hx hb dX4_readPart_128 ?_
              refine lv_topi (fun x_41 ex_41 => ?_)
              have tx_41 : x_41.toInt = -x_1.toInt := i_neg ex_41 rfl (by omega)
              refine ti_callVv (ci := 1) (av := [.int x_41]) C hw (s_X1_add l D A cy hJ M hI lw hlw x_41 (by first | omega | exact Or.inl (by decide) | exact Or.inr (by decide))) ⟨ml_X4_170, ym_X1_add, yv_X1_add, yi_X1_add, yc_X1_add⟩ yd_X1_add hlw (by decide) rfl rfl hl.1 (Nat.le_of_ble_eq_true rfl) ⟨by decide, by decide⟩ ⟨Nat.zero_le _, Nat.zero_le _⟩ dX4_readPart_129 (fun M_43 H locs hp_43 hw => ?_)
              obtain ⟨iM_43, q_44, q_45⟩ := hp_43
              refine lv_aload_n hx hb dX4_readPart_132 rfl (lv_at hl 1 rfl) ?_
              refine ti_callVvE (ci := 4) (av := []) C hE hw (s_X4_knot l D A cy hJ M_43 iM_43 t ht ((tT_fr q_44).trans hT)) ⟨ml_X4_167, ym_X4_knot, yv_X4_knot, yi_X4_knot, yc_X4_knot⟩ yd_X4_knot ob_1 (by decide) rfl rfl hl.1 (Nat.le_of_ble_eq_true rfl) ⟨by decide, by decide⟩ ⟨Nat.zero_le _, Nat.zero_le _⟩ dX4_readPart_133 (fun M_47 H locs hp_47 hw => ?_)
              obtain ⟨iM_47, q_48, q_49, q_50⟩ := hp_47
              refine lv_goto (tgt := 144) hx hb dX4_readPart_136 (by decide) ?_
              exact hQ _ _ _ _ _ hw (⟨iM_47, ((q_48).trans q_44), (f0.trans q_49 (f0_x q_45)), ((q_50).trans ((q_45 1).2.1))⟩) dX4_readPart_144
        · refine lv_aload_n hx hb dX4_readPart_90 rfl (lv_at hl 1 rfl) ?_
          refine ti_get (ci := 4) (k := 2) (N := 6) (T := TX4) (v := .ref (A lw 0)) C hw iw_4 rfl ob_1 (by decide) (by decide) fl_X4_154 rfl (ti_Tv (hL)) dX4_readPart_91 ?_
          refine lv_aload_n hx hb dX4_readPart_94 rfl (lv_at hl 1 rfl) ?_
          refine ti_get (ci := 4) (k := 0) (N := 6) (T := TX4) (v := .ref (A 2 0)) C hw iw_4 rfl ob_1 (by decide) (by decide) fl_X4_12 rfl rfl dX4_readPart_95 ?_
          refine ti_get (ci := 7) (k := 6) (N := 7) (T := TX7) C hw iw_7 rfl ob_2 (by decide) (by decide) fl_X4_95 rfl rfl dX4_readPart_98 ?_
          refine lv_topi (fun x_29 ex_29 => ?_)
          have bx_29 : 0 ≤ x_29.toInt ∧ x_29.toInt ≤ 2147483647 := cI_rd hI ob_2.1 ex_29
          have ux_29 : (tI M 2 6).toInt = x_29.toInt := by rw [ex_29]
          refine ti_callVv (ci := 1) (av := [.int x_29]) C hw (s_X1_add l D A cy hJ M hI lw hlw x_29 (by first | omega | exact Or.inl (by decide) | exact Or.inr (by decide))) ⟨ml_X4_170, ym_X1_add, yv_X1_add, yi_X1_add, yc_X1_add⟩ yd_X1_add hlw (by decide) rfl rfl hl.1 (Nat.le_of_ble_eq_true rfl) ⟨by decide, by decide⟩ ⟨Nat.zero_le _, Nat.zero_le _⟩ dX4_readPart_101 (fun M_31 H locs hp_31 hw => ?_)
          obtain ⟨iM_31, q_32, q_33⟩ := hp_31
          refine lv_aload_n hx hb dX4_readPart_104 rfl (lv_at hl 1 rfl) ?_
          refine ti_callVvE (ci := 4) (av := []) C hE hw (s_X4_knot l D A cy hJ M_31 iM_31 t ht ((tT_fr q_32).trans hT)) ⟨ml_X4_167, ym_X4_knot, yv_X4_knot, yi_X4_knot, yc_X4_knot⟩ yd_X4_knot ob_1 (by decide) rfl rfl hl.1 (Nat.le_of_ble_eq_true rfl) ⟨by decide, by decide⟩ ⟨Nat.zero_le _, Nat.zero_le _⟩ dX4_readPart_105 (fun M_35 H locs hp_35 hw => ?_)
          obtain ⟨iM_35, q_36, q_37, q_38⟩ := hp_35
          refine lv_goto (tgt := 144) hx hb dX4_readPart_108 (by decide) ?_
          exact hQ _ _ _ _ _ hw (⟨iM_35, ((q_36).trans q_32), (f0.trans q_37 (f0_x q_33)), ((q_38).trans ((q_33 1).2.1))⟩) dX4_readPart_144
      refine sb_icmp_ne (tgt := 84) hx hb rfl (by decide : (26 : Int32).toInt = 26) dX4_readPart_60 (by decide) (fun c_60_19 => ?_) (fun c_60_19 => ?_)
      · exact hj_84_27  _ _ _  hw (lv_sub hl [0, 1, 2] rfl)
      · refine lv_aload_n hx hb dX4_readPart_63 rfl (lv_at hl 1 rfl) ?_
        refine ti_get (ci := 4) (k := 0) (N := 6) (T := TX4) (v := .ref (A 2 0)) C hw iw_4 rfl ob_1 (by decide) (by decide) fl_X4_12 rfl rfl dX4_readPart_64 ?_
        refine ti_get (ci := 7) (k := 6) (N := 7) (T := TX7) C hw iw_7 rfl ob_2 (by decide) (by decide) fl_X4_95 rfl rfl dX4_readPart_67 ?_
        refine lv_topi (fun x_21 ex_21 => ?_)
        have bx_21 : 0 ≤ x_21.toInt ∧ x_21.toInt ≤ 2147483647 := cI_rd hI ob_2.1 ex_21
        have ux_21 : (tI M 2 6).toInt = x_21.toInt := by rw [ex_21]
        refine lv_sipush (v := 9999) hx hb dX4_readPart_70 (by decide) ?_
        refine sb_icmp_le (tgt := 84) hx hb rfl (by decide : (9999 : Int32).toInt = 9999) dX4_readPart_73 (by decide) (fun c_73_21 => ?_) (fun c_73_21 => ?_)
        · exact hj_84_27  _ _ _  hw (lv_sub hl [0, 1, 2] rfl)
        · refine lv_aload_n hx hb dX4_readPart_76 rfl (lv_at hl 1 rfl) ?_
          refine lv_iconst (v := 2) hx hb dX4_readPart_77 (by decide) ?_
          refine ti_callVv (ci := 4) (av := [.int 2]) C hw (s_X4_refuse l D A cy hJ M hI 2) ⟨ml_X4_82, ym_X4_refuse, yv_X4_refuse, yi_X4_refuse, yc_X4_refuse⟩ yd_X4_refuse ob_1 (by decide) rfl rfl hl.1 (Nat.le_of_ble_eq_true rfl) ⟨by decide, by decide⟩ ⟨Nat.zero_le _, Nat.zero_le _⟩ dX4_readPart_78 (fun M_24 H locs hp_24 hw => ?_)
          obtain ⟨iM_24, q_25, q_26, q_27⟩ := hp_24
          refine lv_goto (tgt := 144) hx hb dX4_readPart_81 (by decide) ?_
          exact hQ _ _ _ _ _ hw (⟨iM_24, (q_25), (f0_12 q_26), (q_27)⟩) dX4_readPart_144
    · refine lv_aload_n hx hb dX4_readPart_34 rfl (lv_at hl 1 rfl) ?_
      refine ti_get (ci := 4) (k := 0) (N := 6) (T := TX4) (v := .ref (A 2 0)) C hw iw_4 rfl ob_1 (by decide) (by decide) fl_X4_12 rfl rfl dX4_readPart_35 ?_
      refine ti_callVvE (ci := 7) (av := []) C hE hw (s_X7_advance l D A cy hJ M hI ) ⟨ml_X4_92, ym_X7_advance, yv_X7_advance, yi_X7_advance, yc_X7_advance⟩ yd_X7_advance ob_2 (by decide) rfl rfl hl.1 (Nat.le_of_ble_eq_true rfl) ⟨by decide, by decide⟩ ⟨Nat.zero_le _, Nat.zero_le _⟩ dX4_readPart_38 (fun M_6 H locs hp_6 hw => ?_)
      obtain ⟨iM_6, q_7, q_8, q_9⟩ := hp_6
      refine lv_aload_n hx hb dX4_readPart_41 rfl (lv_at hl 1 rfl) ?_
      refine lv_iload_n hx hb dX4_readPart_42 rfl (lv_at hl 2 rfl) ?_
      refine lv_iconst (v := 1) hx hb dX4_readPart_43 (by decide) ?_
      refine lv_iadd hx hb dX4_readPart_44 ?_
      refine ti_top (y := 5) (by decide) ?_
      refine ti_callVvE (ci := 4) (av := [.int 5]) C hE hw (s_X4_readEither_5 l D A cy hJ M_6 iM_6 t ht ((tT_fr q_7).trans hT) lw hlw ((tT_fr q_7).trans hL)) ⟨ml_X4_158, ym_X4_readEither, yv_X4_readEither, yi_X4_readEither, yc_X4_readEither⟩ yd_X4_readEither ob_1 (by decide) rfl rfl hl.1 (Nat.le_of_ble_eq_true rfl) ⟨by decide, by decide⟩ ⟨Nat.zero_le _, Nat.zero_le _⟩ dX4_readPart_45 (fun M_11 H locs hp_11 hw => ?_)
      obtain ⟨iM_11, q_12, q_13, q_14⟩ := hp_11
      refine lv_aload_n hx hb dX4_readPart_48 rfl (lv_at hl 1 rfl) ?_
      refine lv_bipush (v := 31) hx hb dX4_readPart_49 (by decide) ?_
      refine ti_callVvE (ci := 4) (av := [.int 31]) C hE hw (s_X4_take l D A cy hJ M_11 iM_11 31) ⟨ml_X4_85, ym_X4_take, yv_X4_take, yi_X4_take, yc_X4_take⟩ yd_X4_take ob_1 (by decide) rfl rfl hl.1 (Nat.le_of_ble_eq_true rfl) ⟨by decide, by decide⟩ ⟨Nat.zero_le _, Nat.zero_le _⟩ dX4_readPart_51 (fun M_16 H locs hp_16 hw => ?_)
      obtain ⟨iM_16, q_17, q_18, q_19⟩ := hp_16
      refine lv_goto (tgt := 144) hx hb dX4_readPart_54 (by decide) ?_
      exact hQ _ _ _ _ _ hw (⟨iM_16, ((q_17).trans ((q_12).trans q_7)), (f0.trans (f0_12 q_18) (f0.trans q_13 (f0_12 q_8))), ((q_19).trans ((q_14).trans q_9))⟩) dX4_readPart_144
  refine sb_icmp_ne (tgt := 28) hx hb rfl (by decide : (30 : Int32).toInt = 30) dX4_readPart_11 (by decide) (fun c_11_1 => ?_) (fun c_11_1 => ?_)
  · exact hj_28_3  _ _ _  hw (lv_sub hl [0, 1, 2] rfl)
  · refine lv_iload_n hx hb dX4_readPart_14 rfl (lv_at hl 2 rfl) ?_
    refine lv_bipush (v := 8) hx hb dX4_readPart_15 (by decide) ?_
    refine sb_icmp_lt (tgt := 28) hx hb (by decide : (4 : Int32).toInt = 4) (by decide : (8 : Int32).toInt = 8) dX4_readPart_17 (by decide) (fun c_17_2 => ?_) (fun h => absurd h (by decide))
    exact hj_28_3  _ _ _  hw (lv_sub hl [0, 1, 2] rfl)
set_option maxHeartbeats 4000000 in
set_option maxRecDepth 100000 in
theorem s_X4_readProduct_4 (l : Launch) (D : va_G) (A : Nat → Nat → Nat) (cy : Nat → ClassId) (hJ : ti_inj ti_LT A) (M : ti_M) (hI : cI Tc M) (t : Nat) (ht : t = 3 ∨ t = 4) (hT : tT M 1 1 = some t) (lw : Nat) (hlw : ti_ob ti_LT lw 1) (hL : tT M 1 2 = some lw) : ti_KvE l yX4_readProduct cX4_readProduct 4 37 ti_LT D A cy M [.ref (A 1 0), .int 4] (fun M2 => cI Tc M2 ∧ M2.2.2.2 = M.2.2.2 ∧ f0 M2 M ∧ tI M2 2 1 = tI M 2 1) := by
  refine ti_eVE yp_X4_readProduct hJ ti_LT_nd (Nat.le_of_ble_eq_true rfl) ?_
  intro p e s m args below meth c Q H0 C hE hQ hw ls hl
  have hx := C.1
  have hb := C.2.1
  have hl : lv_has ls 4 [(0, .ref (A 1 0)), (1, .int 4)] := hl
  refine lv_aload_n hx hb dX4_readProduct_0 rfl (lv_at hl 0 rfl) ?_
  refine lv_iload_n hx hb dX4_readProduct_1 rfl (lv_at hl 1 rfl) ?_
  refine ti_callVvE (ci := 4) (av := [.int 4]) C hE hw (s_X4_readPart_4 l D A cy hJ M hI t ht (hT) lw hlw (hL)) ⟨ml_X4_187, ym_X4_readPart, yv_X4_readPart, yi_X4_readPart, yc_X4_readPart⟩ yd_X4_readPart ob_1 (by decide) rfl rfl hl.1 (Nat.le_of_ble_eq_true rfl) ⟨by decide, by decide⟩ ⟨Nat.zero_le _, Nat.zero_le _⟩ dX4_readProduct_2 (fun M_2 H locs hp_2 hw => ?_)
  obtain ⟨iM_2, q_3, q_4, q_5⟩ := hp_2
  refine lv_iconst (v := 0) hx hb dX4_readProduct_5 (by decide) ?_
  refine lv_istore_n (lv' := [(2, .int 0), (0, .ref (A 1 0)), (1, .int 4)]) hx hb dX4_readProduct_6 rfl hl (by decide) rfl (fun ls hl => ?_)
  have hl_7_12 : ∀ (n_13 : Nat) (x_6 : Int32) (M_9 : ti_M) (H : Heap) (locs : List Loc) (ls : Array Slot), (64 - x_6.toInt : Int).toNat < n_13 → (0 ≤ x_6.toInt) → (x_6.toInt ≤ 64) → (cI Tc M_9) → (M_9.2.2.2 = M.2.2.2) → (f0 M_9 M) → (tI M_9 2 1 = tI M 2 1) → ti_H ti_LT D A cy H0 M_9 H locs → lv_has ls 4 [(2, .int x_6), (0, .ref (A 1 0)), (1, .int 4)] → W p l e (ti_rm 37) s m args below meth c H locs 0 0 Q (F0 m 7 ls []) := by
    intro n_13
    induction n_13 with
    | zero => intro x_6 M_9 H locs ls hf_13; exact absurd hf_13 (Nat.not_lt_zero _)
    | succ n_13 ih_13 =>
      intro x_6 M_9 H locs ls hf_13 b_7 b_8 iM_9 f_10 f_11 f_12 hw hl
      refine lv_iload_n hx hb dX4_readProduct_7 rfl (lv_at hl 0 rfl) ?_
      refine lv_bipush (v := 64) hx hb dX4_readProduct_8 (by decide) ?_
      refine sb_icmp_ge (tgt := 69) hx hb rfl (by decide : (64 : Int32).toInt = 64) dX4_readProduct_10 (by decide) (fun c_10_13 => ?_) (fun c_10_13 => ?_)
      · exact hQ _ _ _ _ _ hw (⟨iM_9, (f_10), f_11, (f_12)⟩) dX4_readProduct_69
      · refine lv_aload_n hx hb dX4_readProduct_13 rfl (lv_at hl 1 rfl) ?_
        refine ti_get (ci := 4) (k := 0) (N := 6) (T := TX4) (v := .ref (A 2 0)) C hw iw_4 rfl ob_1 (by decide) (by decide) fl_X4_12 rfl rfl dX4_readProduct_14 ?_
        refine ti_get (ci := 7) (k := 4) (N := 7) (T := TX7) C hw iw_7 rfl ob_2 (by decide) (by decide) fl_X4_41 rfl rfl dX4_readProduct_17 ?_
        refine lv_topi (fun x_15 ex_15 => ?_)
        have bx_15 : 0 ≤ x_15.toInt ∧ x_15.toInt ≤ 41 := cI_rd iM_9 ob_2.1 ex_15
        have ux_15 : (tI M_9 2 4).toInt = x_15.toInt := by rw [ex_15]
        refine lv_bipush (v := 40) hx hb dX4_readProduct_20 (by decide) ?_
        have hj_37_19 : ∀  (H : Heap) (locs : List Loc) (ls : Array Slot), (16 ≤ (tI M_9 2 4).toInt) → ti_H ti_LT D A cy H0 M_9 H locs → lv_has ls 4 [(2, .int x_6), (0, .ref (A 1 0)), (1, .int 4)] → W p l e (ti_rm 37) s m args below meth c H locs 0 0 Q (F0 m 37 ls []) := by
          intro  H locs ls j_19 hw hl
          refine lv_aload_n hx hb dX4_readProduct_37 rfl (lv_at hl 1 rfl) ?_
          refine ti_get (ci := 4) (k := 0) (N := 6) (T := TX4) (v := .ref (A 2 0)) C hw iw_4 rfl ob_1 (by decide) (by decide) fl_X4_12 rfl rfl dX4_readProduct_38 ?_
          refine ti_get (ci := 7) (k := 4) (N := 7) (T := TX7) C hw iw_7 rfl ob_2 (by decide) (by decide) fl_X4_41 rfl rfl dX4_readProduct_41 ?_
          refine ti_top (y := x_15) (ex_15.symm) ?_
          have u_22 : (tI M_9 2 4).toInt = (x_15 : Int32).toInt := by rw [(ex_15.symm)]
          refine lv_istore_n (lv' := [(3, .int x_15), (2, .int x_6), (0, .ref (A 1 0)), (1, .int 4)]) hx hb dX4_readProduct_44 rfl hl (by decide) rfl (fun ls hl => ?_)
          refine lv_aload_n hx hb dX4_readProduct_45 rfl (lv_at hl 2 rfl) ?_
          refine ti_callVvE (ci := 4) (av := []) C hE hw (s_X4_knot l D A cy hJ M_9 iM_9 t ht ((tT_fr f_10).trans hT)) ⟨ml_X4_167, ym_X4_knot, yv_X4_knot, yi_X4_knot, yc_X4_knot⟩ yd_X4_knot ob_1 (by decide) rfl rfl hl.1 (Nat.le_of_ble_eq_true rfl) ⟨by decide, by decide⟩ ⟨Nat.zero_le _, Nat.zero_le _⟩ dX4_readProduct_46 (fun M_24 H locs hp_24 hw => ?_)
          obtain ⟨iM_24, q_25, q_26, q_27⟩ := hp_24
          refine lv_aload_n hx hb dX4_readProduct_49 rfl (lv_at hl 2 rfl) ?_
          refine lv_iload_n hx hb dX4_readProduct_50 rfl (lv_at hl 3 rfl) ?_
          refine ti_callVvE (ci := 4) (av := [.int 4]) C hE hw (s_X4_readPart_4 l D A cy hJ M_24 iM_24 t ht ((tT_fr q_25).trans ((tT_fr f_10).trans hT)) lw hlw ((tT_fr q_25).trans ((tT_fr f_10).trans hL))) ⟨ml_X4_187, ym_X4_readPart, yv_X4_readPart, yi_X4_readPart, yc_X4_readPart⟩ yd_X4_readPart ob_1 (by decide) rfl rfl hl.1 (Nat.le_of_ble_eq_true rfl) ⟨by decide, by decide⟩ ⟨Nat.zero_le _, Nat.zero_le _⟩ dX4_readProduct_51 (fun M_29 H locs hp_29 hw => ?_)
          obtain ⟨iM_29, q_30, q_31, q_32⟩ := hp_29
          refine lv_aload_n hx hb dX4_readProduct_54 rfl (lv_at hl 2 rfl) ?_
          refine ti_get (ci := 4) (k := 2) (N := 6) (T := TX4) (v := .ref (A lw 0)) C hw iw_4 rfl ob_1 (by decide) (by decide) fl_X4_154 rfl (ti_Tv ((tT_fr q_30).trans ((tT_fr q_25).trans ((tT_fr f_10).trans hL)))) dX4_readProduct_55 ?_
          refine lv_iload_n hx hb dX4_readProduct_58 rfl (lv_at hl 0 rfl) ?_
          refine lv_ineg hx hb dX4_readProduct_59 ?_
          refine lv_topi (fun x_33 ex_33 => ?_)
          have tx_33 : x_33.toInt = -x_15.toInt := i_neg ex_33 rfl (by omega)
          refine ti_callVv (ci := 1) (av := [.int x_33]) C hw (s_X1_add l D A cy hJ M_29 iM_29 lw hlw x_33 (by first | omega | exact Or.inl (by decide) | exact Or.inr (by decide))) ⟨ml_X4_170, ym_X1_add, yv_X1_add, yi_X1_add, yc_X1_add⟩ yd_X1_add hlw (by decide) rfl rfl hl.1 (Nat.le_of_ble_eq_true rfl) ⟨by decide, by decide⟩ ⟨Nat.zero_le _, Nat.zero_le _⟩ dX4_readProduct_60 (fun M_35 H locs hp_35 hw => ?_)
          obtain ⟨iM_35, q_36, q_37⟩ := hp_35
          obtain ⟨x_38, ex_38⟩ : ∃ z : Int32, z = x_6 + 1 := ⟨_, rfl⟩
          have tx_38 : x_38.toInt = x_6.toInt + 1 := i_add ex_38 rfl (by decide) (by omega) (by omega)
          refine lv_iinc (v := x_38) (lv' := [(2, .int x_38), (3, .int x_15), (0, .ref (A 1 0)), (1, .int 4)]) hx hb dX4_readProduct_63 hl (k := 1) rfl (by rw [ex_38]; rfl) (by decide) rfl (fun ls hl => ?_)
          refine lv_goto (tgt := 7) hx hb dX4_readProduct_66 (by decide) ?_
          exact ih_13 x_38 M_35 _ _ _ (by omega) (by first | omega | decide) (by first | omega | decide) iM_35 ((q_36).trans ((q_30).trans ((q_25).trans f_10))) (f0.trans (f0_x q_37) (f0.trans q_31 (f0.trans q_26 f_11))) (((q_37 1).2.1).trans ((q_32).trans ((q_27).trans f_12))) hw (lv_sub hl [0, 2, 3] rfl)
        refine sb_icmp_eq (tgt := 37) hx hb rfl (by decide : (40 : Int32).toInt = 40) dX4_readProduct_22 (by decide) (fun c_22_15 => ?_) (fun c_22_15 => ?_)
        · have u_20 : (tI M_9 2 4).toInt = (x_15 : Int32).toInt := by rw [(ex_15.symm)]
          exact hj_37_19  _ _ _ (by first | omega | decide) hw (lv_sub hl [0, 1, 2] rfl)
        · refine lv_aload_n hx hb dX4_readProduct_25 rfl (lv_at hl 1 rfl) ?_
          refine ti_get (ci := 4) (k := 0) (N := 6) (T := TX4) (v := .ref (A 2 0)) C hw iw_4 rfl ob_1 (by decide) (by decide) fl_X4_12 rfl rfl dX4_readProduct_26 ?_
          refine ti_get (ci := 7) (k := 4) (N := 7) (T := TX7) C hw iw_7 rfl ob_2 (by decide) (by decide) fl_X4_41 rfl rfl dX4_readProduct_29 ?_
          refine ti_top (y := x_15) (ex_15.symm) ?_
          have u_17 : (tI M_9 2 4).toInt = (x_15 : Int32).toInt := by rw [(ex_15.symm)]
          refine lv_bipush (v := 41) hx hb dX4_readProduct_32 (by decide) ?_
          refine sb_icmp_ne (tgt := 69) hx hb rfl (by decide : (41 : Int32).toInt = 41) dX4_readProduct_34 (by decide) (fun c_34_17 => ?_) (fun c_34_17 => ?_)
          · exact hQ _ _ _ _ _ hw (⟨iM_9, (f_10), f_11, (f_12)⟩) dX4_readProduct_69
          · have u_21 : (tI M_9 2 4).toInt = (x_15 : Int32).toInt := by rw [(ex_15.symm)]
            exact hj_37_19  _ _ _ (by first | omega | decide) hw (lv_sub hl [0, 1, 2] rfl)
  exact hl_7_12 ((64 - 0 : Int).toNat + 1) 0 M_2 _ _ _ (Nat.lt_succ_self _) (by have lt0 : (0 : Int32).toInt = 0 := (by decide); first | omega | decide) (by have lt0 : (0 : Int32).toInt = 0 := (by decide); first | omega | decide) iM_2 (q_3) q_4 (q_5) hw (lv_sub hl [0, 1, 2] rfl)
set_option maxHeartbeats 4000000 in
set_option maxRecDepth 100000 in
theorem s_X4_readSum_4 (l : Launch) (D : va_G) (A : Nat → Nat → Nat) (cy : Nat → ClassId) (hJ : ti_inj ti_LT A) (M : ti_M) (hI : cI Tc M) (t : Nat) (ht : t = 3 ∨ t = 4) (hT : tT M 1 1 = some t) (lw : Nat) (hlw : ti_ob ti_LT lw 1) (hL : tT M 1 2 = some lw) : ti_KvE l yX4_readSum cX4_readSum 4 38 ti_LT D A cy M [.ref (A 1 0), .int 4] (fun M2 => cI Tc M2 ∧ M2.2.2.2 = M.2.2.2 ∧ f0 M2 M ∧ tI M2 2 1 = tI M 2 1) := by
  refine ti_eVE yp_X4_readSum hJ ti_LT_nd (Nat.le_of_ble_eq_true rfl) ?_
  intro p e s m args below meth c Q H0 C hE hQ hw ls hl
  have hx := C.1
  have hb := C.2.1
  have hl : lv_has ls 4 [(0, .ref (A 1 0)), (1, .int 4)] := hl
  refine lv_aload_n hx hb dX4_readSum_0 rfl (lv_at hl 0 rfl) ?_
  refine lv_iload_n hx hb dX4_readSum_1 rfl (lv_at hl 1 rfl) ?_
  refine ti_callVvE (ci := 4) (av := [.int 4]) C hE hw (s_X4_readProduct_4 l D A cy hJ M hI t ht (hT) lw hlw (hL)) ⟨ml_X4_184, ym_X4_readProduct, yv_X4_readProduct, yi_X4_readProduct, yc_X4_readProduct⟩ yd_X4_readProduct ob_1 (by decide) rfl rfl hl.1 (Nat.le_of_ble_eq_true rfl) ⟨by decide, by decide⟩ ⟨Nat.zero_le _, Nat.zero_le _⟩ dX4_readSum_2 (fun M_2 H locs hp_2 hw => ?_)
  obtain ⟨iM_2, q_3, q_4, q_5⟩ := hp_2
  refine lv_iconst (v := 0) hx hb dX4_readSum_5 (by decide) ?_
  refine lv_istore_n (lv' := [(2, .int 0), (0, .ref (A 1 0)), (1, .int 4)]) hx hb dX4_readSum_6 rfl hl (by decide) rfl (fun ls hl => ?_)
  have hl_7_12 : ∀ (n_13 : Nat) (x_6 : Int32) (M_9 : ti_M) (H : Heap) (locs : List Loc) (ls : Array Slot), (64 - x_6.toInt : Int).toNat < n_13 → (0 ≤ x_6.toInt) → (x_6.toInt ≤ 64) → (cI Tc M_9) → (M_9.2.2.2 = M.2.2.2) → (f0 M_9 M) → (tI M_9 2 1 = tI M 2 1) → ti_H ti_LT D A cy H0 M_9 H locs → lv_has ls 4 [(2, .int x_6), (0, .ref (A 1 0)), (1, .int 4)] → W p l e (ti_rm 38) s m args below meth c H locs 0 0 Q (F0 m 7 ls []) := by
    intro n_13
    induction n_13 with
    | zero => intro x_6 M_9 H locs ls hf_13; exact absurd hf_13 (Nat.not_lt_zero _)
    | succ n_13 ih_13 =>
      intro x_6 M_9 H locs ls hf_13 b_7 b_8 iM_9 f_10 f_11 f_12 hw hl
      refine lv_iload_n hx hb dX4_readSum_7 rfl (lv_at hl 0 rfl) ?_
      refine lv_bipush (v := 64) hx hb dX4_readSum_8 (by decide) ?_
      refine sb_icmp_ge (tgt := 69) hx hb rfl (by decide : (64 : Int32).toInt = 64) dX4_readSum_10 (by decide) (fun c_10_13 => ?_) (fun c_10_13 => ?_)
      · exact hQ _ _ _ _ _ hw (⟨iM_9, (f_10), f_11, (f_12)⟩) dX4_readSum_69
      · refine lv_aload_n hx hb dX4_readSum_13 rfl (lv_at hl 1 rfl) ?_
        refine ti_get (ci := 4) (k := 0) (N := 6) (T := TX4) (v := .ref (A 2 0)) C hw iw_4 rfl ob_1 (by decide) (by decide) fl_X4_12 rfl rfl dX4_readSum_14 ?_
        refine ti_get (ci := 7) (k := 4) (N := 7) (T := TX7) C hw iw_7 rfl ob_2 (by decide) (by decide) fl_X4_41 rfl rfl dX4_readSum_17 ?_
        refine lv_topi (fun x_15 ex_15 => ?_)
        have bx_15 : 0 ≤ x_15.toInt ∧ x_15.toInt ≤ 41 := cI_rd iM_9 ob_2.1 ex_15
        have ux_15 : (tI M_9 2 4).toInt = x_15.toInt := by rw [ex_15]
        refine lv_bipush (v := 38) hx hb dX4_readSum_20 (by decide) ?_
        have hj_37_19 : ∀  (H : Heap) (locs : List Loc) (ls : Array Slot), (16 ≤ (tI M_9 2 4).toInt) → ti_H ti_LT D A cy H0 M_9 H locs → lv_has ls 4 [(2, .int x_6), (0, .ref (A 1 0)), (1, .int 4)] → W p l e (ti_rm 38) s m args below meth c H locs 0 0 Q (F0 m 37 ls []) := by
          intro  H locs ls j_19 hw hl
          refine lv_aload_n hx hb dX4_readSum_37 rfl (lv_at hl 1 rfl) ?_
          refine ti_get (ci := 4) (k := 0) (N := 6) (T := TX4) (v := .ref (A 2 0)) C hw iw_4 rfl ob_1 (by decide) (by decide) fl_X4_12 rfl rfl dX4_readSum_38 ?_
          refine ti_get (ci := 7) (k := 4) (N := 7) (T := TX7) C hw iw_7 rfl ob_2 (by decide) (by decide) fl_X4_41 rfl rfl dX4_readSum_41 ?_
          refine ti_top (y := x_15) (ex_15.symm) ?_
          have u_22 : (tI M_9 2 4).toInt = (x_15 : Int32).toInt := by rw [(ex_15.symm)]
          refine lv_istore_n (lv' := [(3, .int x_15), (2, .int x_6), (0, .ref (A 1 0)), (1, .int 4)]) hx hb dX4_readSum_44 rfl hl (by decide) rfl (fun ls hl => ?_)
          refine lv_aload_n hx hb dX4_readSum_45 rfl (lv_at hl 2 rfl) ?_
          refine ti_callVvE (ci := 4) (av := []) C hE hw (s_X4_knot l D A cy hJ M_9 iM_9 t ht ((tT_fr f_10).trans hT)) ⟨ml_X4_167, ym_X4_knot, yv_X4_knot, yi_X4_knot, yc_X4_knot⟩ yd_X4_knot ob_1 (by decide) rfl rfl hl.1 (Nat.le_of_ble_eq_true rfl) ⟨by decide, by decide⟩ ⟨Nat.zero_le _, Nat.zero_le _⟩ dX4_readSum_46 (fun M_24 H locs hp_24 hw => ?_)
          obtain ⟨iM_24, q_25, q_26, q_27⟩ := hp_24
          refine lv_aload_n hx hb dX4_readSum_49 rfl (lv_at hl 2 rfl) ?_
          refine lv_iload_n hx hb dX4_readSum_50 rfl (lv_at hl 3 rfl) ?_
          refine ti_callVvE (ci := 4) (av := [.int 4]) C hE hw (s_X4_readProduct_4 l D A cy hJ M_24 iM_24 t ht ((tT_fr q_25).trans ((tT_fr f_10).trans hT)) lw hlw ((tT_fr q_25).trans ((tT_fr f_10).trans hL))) ⟨ml_X4_184, ym_X4_readProduct, yv_X4_readProduct, yi_X4_readProduct, yc_X4_readProduct⟩ yd_X4_readProduct ob_1 (by decide) rfl rfl hl.1 (Nat.le_of_ble_eq_true rfl) ⟨by decide, by decide⟩ ⟨Nat.zero_le _, Nat.zero_le _⟩ dX4_readSum_51 (fun M_29 H locs hp_29 hw => ?_)
          obtain ⟨iM_29, q_30, q_31, q_32⟩ := hp_29
          refine lv_aload_n hx hb dX4_readSum_54 rfl (lv_at hl 2 rfl) ?_
          refine ti_get (ci := 4) (k := 2) (N := 6) (T := TX4) (v := .ref (A lw 0)) C hw iw_4 rfl ob_1 (by decide) (by decide) fl_X4_154 rfl (ti_Tv ((tT_fr q_30).trans ((tT_fr q_25).trans ((tT_fr f_10).trans hL)))) dX4_readSum_55 ?_
          refine lv_iload_n hx hb dX4_readSum_58 rfl (lv_at hl 0 rfl) ?_
          refine lv_ineg hx hb dX4_readSum_59 ?_
          refine lv_topi (fun x_33 ex_33 => ?_)
          have tx_33 : x_33.toInt = -x_15.toInt := i_neg ex_33 rfl (by omega)
          refine ti_callVv (ci := 1) (av := [.int x_33]) C hw (s_X1_add l D A cy hJ M_29 iM_29 lw hlw x_33 (by first | omega | exact Or.inl (by decide) | exact Or.inr (by decide))) ⟨ml_X4_170, ym_X1_add, yv_X1_add, yi_X1_add, yc_X1_add⟩ yd_X1_add hlw (by decide) rfl rfl hl.1 (Nat.le_of_ble_eq_true rfl) ⟨by decide, by decide⟩ ⟨Nat.zero_le _, Nat.zero_le _⟩ dX4_readSum_60 (fun M_35 H locs hp_35 hw => ?_)
          obtain ⟨iM_35, q_36, q_37⟩ := hp_35
          obtain ⟨x_38, ex_38⟩ : ∃ z : Int32, z = x_6 + 1 := ⟨_, rfl⟩
          have tx_38 : x_38.toInt = x_6.toInt + 1 := i_add ex_38 rfl (by decide) (by omega) (by omega)
          refine lv_iinc (v := x_38) (lv' := [(2, .int x_38), (3, .int x_15), (0, .ref (A 1 0)), (1, .int 4)]) hx hb dX4_readSum_63 hl (k := 1) rfl (by rw [ex_38]; rfl) (by decide) rfl (fun ls hl => ?_)
          refine lv_goto (tgt := 7) hx hb dX4_readSum_66 (by decide) ?_
          exact ih_13 x_38 M_35 _ _ _ (by omega) (by first | omega | decide) (by first | omega | decide) iM_35 ((q_36).trans ((q_30).trans ((q_25).trans f_10))) (f0.trans (f0_x q_37) (f0.trans q_31 (f0.trans q_26 f_11))) (((q_37 1).2.1).trans ((q_32).trans ((q_27).trans f_12))) hw (lv_sub hl [0, 2, 3] rfl)
        refine sb_icmp_eq (tgt := 37) hx hb rfl (by decide : (38 : Int32).toInt = 38) dX4_readSum_22 (by decide) (fun c_22_15 => ?_) (fun c_22_15 => ?_)
        · have u_20 : (tI M_9 2 4).toInt = (x_15 : Int32).toInt := by rw [(ex_15.symm)]
          exact hj_37_19  _ _ _ (by first | omega | decide) hw (lv_sub hl [0, 1, 2] rfl)
        · refine lv_aload_n hx hb dX4_readSum_25 rfl (lv_at hl 1 rfl) ?_
          refine ti_get (ci := 4) (k := 0) (N := 6) (T := TX4) (v := .ref (A 2 0)) C hw iw_4 rfl ob_1 (by decide) (by decide) fl_X4_12 rfl rfl dX4_readSum_26 ?_
          refine ti_get (ci := 7) (k := 4) (N := 7) (T := TX7) C hw iw_7 rfl ob_2 (by decide) (by decide) fl_X4_41 rfl rfl dX4_readSum_29 ?_
          refine ti_top (y := x_15) (ex_15.symm) ?_
          have u_17 : (tI M_9 2 4).toInt = (x_15 : Int32).toInt := by rw [(ex_15.symm)]
          refine lv_bipush (v := 39) hx hb dX4_readSum_32 (by decide) ?_
          refine sb_icmp_ne (tgt := 69) hx hb rfl (by decide : (39 : Int32).toInt = 39) dX4_readSum_34 (by decide) (fun c_34_17 => ?_) (fun c_34_17 => ?_)
          · exact hQ _ _ _ _ _ hw (⟨iM_9, (f_10), f_11, (f_12)⟩) dX4_readSum_69
          · have u_21 : (tI M_9 2 4).toInt = (x_15 : Int32).toInt := by rw [(ex_15.symm)]
            exact hj_37_19  _ _ _ (by first | omega | decide) hw (lv_sub hl [0, 1, 2] rfl)
  exact hl_7_12 ((64 - 0 : Int).toNat + 1) 0 M_2 _ _ _ (Nat.lt_succ_self _) (by have lt0 : (0 : Int32).toInt = 0 := (by decide); first | omega | decide) (by have lt0 : (0 : Int32).toInt = 0 := (by decide); first | omega | decide) iM_2 (q_3) q_4 (q_5) hw (lv_sub hl [0, 1, 2] rfl)
set_option maxHeartbeats 4000000 in
set_option maxRecDepth 100000 in
theorem s_X4_readComparison_4 (l : Launch) (D : va_G) (A : Nat → Nat → Nat) (cy : Nat → ClassId) (hJ : ti_inj ti_LT A) (M : ti_M) (hI : cI Tc M) (t : Nat) (ht : t = 3 ∨ t = 4) (hT : tT M 1 1 = some t) (lw : Nat) (hlw : ti_ob ti_LT lw 1) (hL : tT M 1 2 = some lw) : ti_KvE l yX4_readComparison cX4_readComparison 3 39 ti_LT D A cy M [.ref (A 1 0), .int 4] (fun M2 => cI Tc M2 ∧ M2.2.2.2 = M.2.2.2 ∧ f0 M2 M ∧ tI M2 2 1 = tI M 2 1) := by
  refine ti_eVE yp_X4_readComparison hJ ti_LT_nd (Nat.le_of_ble_eq_true rfl) ?_
  intro p e s m args below meth c Q H0 C hE hQ hw ls hl
  have hx := C.1
  have hb := C.2.1
  have hl : lv_has ls 3 [(0, .ref (A 1 0)), (1, .int 4)] := hl
  refine lv_aload_n hx hb dX4_readComparison_0 rfl (lv_at hl 0 rfl) ?_
  refine lv_iload_n hx hb dX4_readComparison_1 rfl (lv_at hl 1 rfl) ?_
  refine ti_callVvE (ci := 4) (av := [.int 4]) C hE hw (s_X4_readSum_4 l D A cy hJ M hI t ht (hT) lw hlw (hL)) ⟨ml_X4_181, ym_X4_readSum, yv_X4_readSum, yi_X4_readSum, yc_X4_readSum⟩ yd_X4_readSum ob_1 (by decide) rfl rfl hl.1 (Nat.le_of_ble_eq_true rfl) ⟨by decide, by decide⟩ ⟨Nat.zero_le _, Nat.zero_le _⟩ dX4_readComparison_2 (fun M_2 H locs hp_2 hw => ?_)
  obtain ⟨iM_2, q_3, q_4, q_5⟩ := hp_2
  refine lv_aload_n hx hb dX4_readComparison_5 rfl (lv_at hl 0 rfl) ?_
  refine ti_get (ci := 4) (k := 0) (N := 6) (T := TX4) (v := .ref (A 2 0)) C hw iw_4 rfl ob_1 (by decide) (by decide) fl_X4_12 rfl rfl dX4_readComparison_6 ?_
  refine ti_get (ci := 7) (k := 4) (N := 7) (T := TX7) C hw iw_7 rfl ob_2 (by decide) (by decide) fl_X4_41 rfl rfl dX4_readComparison_9 ?_
  refine lv_topi (fun x_6 ex_6 => ?_)
  have bx_6 : 0 ≤ x_6.toInt ∧ x_6.toInt ≤ 41 := cI_rd iM_2 ob_2.1 ex_6
  have ux_6 : (tI M_2 2 4).toInt = x_6.toInt := by rw [ex_6]
  refine lv_istore_n (lv' := [(2, .int x_6), (0, .ref (A 1 0)), (1, .int 4)]) hx hb dX4_readComparison_12 rfl hl (by decide) rfl (fun ls hl => ?_)
  refine lv_iload_n hx hb dX4_readComparison_13 rfl (lv_at hl 0 rfl) ?_
  refine lv_bipush (v := 32) hx hb dX4_readComparison_14 (by decide) ?_
  refine sb_icmp_lt (tgt := 43) hx hb rfl (by decide : (32 : Int32).toInt = 32) dX4_readComparison_16 (by decide) (fun c_16_6 => ?_) (fun c_16_6 => ?_)
  · exact hQ _ _ _ _ _ hw (⟨iM_2, (q_3), q_4, (q_5)⟩) dX4_readComparison_43
  · refine lv_iload_n hx hb dX4_readComparison_19 rfl (lv_at hl 0 rfl) ?_
    refine lv_bipush (v := 37) hx hb dX4_readComparison_20 (by decide) ?_
    refine sb_icmp_gt (tgt := 43) hx hb rfl (by decide : (37 : Int32).toInt = 37) dX4_readComparison_22 (by decide) (fun c_22_7 => ?_) (fun c_22_7 => ?_)
    · exact hQ _ _ _ _ _ hw (⟨iM_2, (q_3), q_4, (q_5)⟩) dX4_readComparison_43
    · refine lv_aload_n hx hb dX4_readComparison_25 rfl (lv_at hl 1 rfl) ?_
      refine ti_callVvE (ci := 4) (av := []) C hE hw (s_X4_knot l D A cy hJ M_2 iM_2 t ht ((tT_fr q_3).trans hT)) ⟨ml_X4_167, ym_X4_knot, yv_X4_knot, yi_X4_knot, yc_X4_knot⟩ yd_X4_knot ob_1 (by decide) rfl rfl hl.1 (Nat.le_of_ble_eq_true rfl) ⟨by decide, by decide⟩ ⟨Nat.zero_le _, Nat.zero_le _⟩ dX4_readComparison_26 (fun M_10 H locs hp_10 hw => ?_)
      obtain ⟨iM_10, q_11, q_12, q_13⟩ := hp_10
      refine lv_aload_n hx hb dX4_readComparison_29 rfl (lv_at hl 1 rfl) ?_
      refine lv_iload_n hx hb dX4_readComparison_30 rfl (lv_at hl 2 rfl) ?_
      refine ti_callVvE (ci := 4) (av := [.int 4]) C hE hw (s_X4_readSum_4 l D A cy hJ M_10 iM_10 t ht ((tT_fr q_11).trans ((tT_fr q_3).trans hT)) lw hlw ((tT_fr q_11).trans ((tT_fr q_3).trans hL))) ⟨ml_X4_181, ym_X4_readSum, yv_X4_readSum, yi_X4_readSum, yc_X4_readSum⟩ yd_X4_readSum ob_1 (by decide) rfl rfl hl.1 (Nat.le_of_ble_eq_true rfl) ⟨by decide, by decide⟩ ⟨Nat.zero_le _, Nat.zero_le _⟩ dX4_readComparison_31 (fun M_15 H locs hp_15 hw => ?_)
      obtain ⟨iM_15, q_16, q_17, q_18⟩ := hp_15
      refine lv_aload_n hx hb dX4_readComparison_34 rfl (lv_at hl 1 rfl) ?_
      refine ti_get (ci := 4) (k := 2) (N := 6) (T := TX4) (v := .ref (A lw 0)) C hw iw_4 rfl ob_1 (by decide) (by decide) fl_X4_154 rfl (ti_Tv ((tT_fr q_16).trans ((tT_fr q_11).trans ((tT_fr q_3).trans hL)))) dX4_readComparison_35 ?_
      refine lv_iload_n hx hb dX4_readComparison_38 rfl (lv_at hl 0 rfl) ?_
      refine lv_ineg hx hb dX4_readComparison_39 ?_
      refine lv_topi (fun x_19 ex_19 => ?_)
      have tx_19 : x_19.toInt = -x_6.toInt := i_neg ex_19 rfl (by omega)
      refine ti_callVv (ci := 1) (av := [.int x_19]) C hw (s_X1_add l D A cy hJ M_15 iM_15 lw hlw x_19 (by first | omega | exact Or.inl (by decide) | exact Or.inr (by decide))) ⟨ml_X4_170, ym_X1_add, yv_X1_add, yi_X1_add, yc_X1_add⟩ yd_X1_add hlw (by decide) rfl rfl hl.1 (Nat.le_of_ble_eq_true rfl) ⟨by decide, by decide⟩ ⟨Nat.zero_le _, Nat.zero_le _⟩ dX4_readComparison_40 (fun M_21 H locs hp_21 hw => ?_)
      obtain ⟨iM_21, q_22, q_23⟩ := hp_21
      exact hQ _ _ _ _ _ hw (⟨iM_21, ((q_22).trans ((q_16).trans ((q_11).trans q_3))), (f0.trans (f0_x q_23) (f0.trans q_17 (f0.trans q_12 q_4))), (((q_23 1).2.1).trans ((q_18).trans ((q_13).trans q_5)))⟩) dX4_readComparison_43
set_option maxHeartbeats 4000000 in
set_option maxRecDepth 100000 in
theorem s_X4_readNegated_4 (l : Launch) (D : va_G) (A : Nat → Nat → Nat) (cy : Nat → ClassId) (hJ : ti_inj ti_LT A) (M : ti_M) (hI : cI Tc M) (t : Nat) (ht : t = 3 ∨ t = 4) (hT : tT M 1 1 = some t) (lw : Nat) (hlw : ti_ob ti_LT lw 1) (hL : tT M 1 2 = some lw) : ti_KvE l yX4_readNegated cX4_readNegated 4 40 ti_LT D A cy M [.ref (A 1 0), .int 4] (fun M2 => cI Tc M2 ∧ M2.2.2.2 = M.2.2.2 ∧ f0 M2 M ∧ tI M2 2 1 = tI M 2 1) := by
  refine ti_eVE yp_X4_readNegated hJ ti_LT_nd (Nat.le_of_ble_eq_true rfl) ?_
  intro p e s m args below meth c Q H0 C hE hQ hw ls hl
  have hx := C.1
  have hb := C.2.1
  have hl : lv_has ls 4 [(0, .ref (A 1 0)), (1, .int 4)] := hl
  refine lv_iconst (v := 0) hx hb dX4_readNegated_0 (by decide) ?_
  refine lv_istore_n (lv' := [(2, .int 0), (0, .ref (A 1 0)), (1, .int 4)]) hx hb dX4_readNegated_1 rfl hl (by decide) rfl (fun ls hl => ?_)
  have hl_2_7 : ∀ (n_8 : Nat) (x_1 : Int32) (M_4 : ti_M) (H : Heap) (locs : List Loc) (ls : Array Slot), (65 - x_1.toInt : Int).toNat < n_8 → (0 ≤ x_1.toInt) → (x_1.toInt ≤ 65) → (cI Tc M_4) → (M_4.2.2.2 = M.2.2.2) → (f0 M_4 M) → (tI M_4 2 1 = tI M 2 1) → ti_H ti_LT D A cy H0 M_4 H locs → lv_has ls 4 [(2, .int x_1), (0, .ref (A 1 0)), (1, .int 4)] → W p l e (ti_rm 40) s m args below meth c H locs 0 0 Q (F0 m 2 ls []) := by
    intro n_8
    induction n_8 with
    | zero => intro x_1 M_4 H locs ls hf_8; exact absurd hf_8 (Nat.not_lt_zero _)
    | succ n_8 ih_8 =>
      intro x_1 M_4 H locs ls hf_8 b_2 b_3 iM_4 f_5 f_6 f_7 hw hl
      refine lv_iload_n hx hb dX4_readNegated_2 rfl (lv_at hl 0 rfl) ?_
      refine lv_bipush (v := 64) hx hb dX4_readNegated_3 (by decide) ?_
      have hj_30_17 : ∀  (H : Heap) (locs : List Loc) (ls : Array Slot), ti_H ti_LT D A cy H0 M_4 H locs → lv_has ls 4 [(2, .int x_1), (0, .ref (A 1 0)), (1, .int 4)] → W p l e (ti_rm 40) s m args below meth c H locs 0 0 Q (F0 m 30 ls []) := by
        intro  H locs ls  hw hl
        refine lv_aload_n hx hb dX4_readNegated_30 rfl (lv_at hl 1 rfl) ?_
        refine lv_iload_n hx hb dX4_readNegated_31 rfl (lv_at hl 2 rfl) ?_
        refine ti_callVvE (ci := 4) (av := [.int 4]) C hE hw (s_X4_readComparison_4 l D A cy hJ M_4 iM_4 t ht ((tT_fr f_5).trans hT) lw hlw ((tT_fr f_5).trans hL)) ⟨ml_X4_178, ym_X4_readComparison, yv_X4_readComparison, yi_X4_readComparison, yc_X4_readComparison⟩ yd_X4_readComparison ob_1 (by decide) rfl rfl hl.1 (Nat.le_of_ble_eq_true rfl) ⟨by decide, by decide⟩ ⟨Nat.zero_le _, Nat.zero_le _⟩ dX4_readNegated_32 (fun M_19 H locs hp_19 hw => ?_)
        obtain ⟨iM_19, q_20, q_21, q_22⟩ := hp_19
        refine lv_iconst (v := 0) hx hb dX4_readNegated_35 (by decide) ?_
        refine lv_istore_n (lv' := [(3, .int 0), (2, .int x_1), (0, .ref (A 1 0)), (1, .int 4)]) hx hb dX4_readNegated_36 rfl hl (by decide) rfl (fun ls hl => ?_)
        have hl_37_29 : ∀ (n_30 : Nat) (x_23 : Int32) (M_26 : ti_M) (H : Heap) (locs : List Loc) (ls : Array Slot), (65 - x_23.toInt : Int).toNat < n_30 → (0 ≤ x_23.toInt) → (x_23.toInt ≤ 65) → (cI Tc M_26) → (M_26.2.2.2 = M.2.2.2) → (f0 M_26 M) → (tI M_26 2 1 = tI M 2 1) → ti_H ti_LT D A cy H0 M_26 H locs → lv_has ls 4 [(3, .int x_23), (2, .int x_1), (0, .ref (A 1 0)), (1, .int 4)] → W p l e (ti_rm 40) s m args below meth c H locs 0 0 Q (F0 m 37 ls []) := by
          intro n_30
          induction n_30 with
          | zero => intro x_23 M_26 H locs ls hf_30; exact absurd hf_30 (Nat.not_lt_zero _)
          | succ n_30 ih_30 =>
            intro x_23 M_26 H locs ls hf_30 b_24 b_25 iM_26 f_27 f_28 f_29 hw hl
            refine lv_iload_n hx hb dX4_readNegated_37 rfl (lv_at hl 0 rfl) ?_
            refine lv_iload_n hx hb dX4_readNegated_38 rfl (lv_at hl 1 rfl) ?_
            refine sb_icmp_ge (tgt := 57) hx hb rfl rfl dX4_readNegated_39 (by decide) (fun c_39_30 => ?_) (fun c_39_30 => ?_)
            · exact hQ _ _ _ _ _ hw (⟨iM_26, (f_27), f_28, (f_29)⟩) dX4_readNegated_57
            · refine lv_aload_n hx hb dX4_readNegated_42 rfl (lv_at hl 2 rfl) ?_
              refine ti_get (ci := 4) (k := 2) (N := 6) (T := TX4) (v := .ref (A lw 0)) C hw iw_4 rfl ob_1 (by decide) (by decide) fl_X4_154 rfl (ti_Tv ((tT_fr f_27).trans hL)) dX4_readNegated_43 ?_
              refine lv_bipush (v := (-24)) hx hb dX4_readNegated_46 (by decide) ?_
              refine ti_callVv (ci := 1) (av := [.int (-24)]) C hw (s_X1_add l D A cy hJ M_26 iM_26 lw hlw (-24) (by first | omega | exact Or.inl (by decide) | exact Or.inr (by decide))) ⟨ml_X4_170, ym_X1_add, yv_X1_add, yi_X1_add, yc_X1_add⟩ yd_X1_add hlw (by decide) rfl rfl hl.1 (Nat.le_of_ble_eq_true rfl) ⟨by decide, by decide⟩ ⟨Nat.zero_le _, Nat.zero_le _⟩ dX4_readNegated_48 (fun M_33 H locs hp_33 hw => ?_)
              obtain ⟨iM_33, q_34, q_35⟩ := hp_33
              obtain ⟨x_36, ex_36⟩ : ∃ z : Int32, z = x_23 + 1 := ⟨_, rfl⟩
              have tx_36 : x_36.toInt = x_23.toInt + 1 := i_add ex_36 rfl (by decide) (by omega) (by omega)
              refine lv_iinc (v := x_36) (lv' := [(3, .int x_36), (2, .int x_1), (0, .ref (A 1 0)), (1, .int 4)]) hx hb dX4_readNegated_51 hl (k := 0) rfl (by rw [ex_36]; rfl) (by decide) rfl (fun ls hl => ?_)
              refine lv_goto (tgt := 37) hx hb dX4_readNegated_54 (by decide) ?_
              exact ih_30 x_36 M_33 _ _ _ (by omega) (by first | omega | decide) (by first | omega | decide) iM_33 ((q_34).trans f_27) (f0.trans (f0_x q_35) f_28) (((q_35 1).2.1).trans f_29) hw (lv_sub hl [0, 1, 2, 3] rfl)
        exact hl_37_29 ((65 - 0 : Int).toNat + 1) 0 M_19 _ _ _ (Nat.lt_succ_self _) (by have lt0 : (0 : Int32).toInt = 0 := (by decide); first | omega | decide) (by have lt0 : (0 : Int32).toInt = 0 := (by decide); first | omega | decide) iM_19 ((q_20).trans f_5) (f0.trans q_21 f_6) ((q_22).trans f_7) hw (lv_sub hl [0, 1, 2, 3] rfl)
      refine sb_icmp_gt (tgt := 30) hx hb rfl (by decide : (64 : Int32).toInt = 64) dX4_readNegated_5 (by decide) (fun c_5_8 => ?_) (fun c_5_8 => ?_)
      · exact hj_30_17  _ _ _  hw (lv_sub hl [0, 1, 2] rfl)
      · refine lv_aload_n hx hb dX4_readNegated_8 rfl (lv_at hl 1 rfl) ?_
        refine ti_get (ci := 4) (k := 0) (N := 6) (T := TX4) (v := .ref (A 2 0)) C hw iw_4 rfl ob_1 (by decide) (by decide) fl_X4_12 rfl rfl dX4_readNegated_9 ?_
        refine ti_get (ci := 7) (k := 4) (N := 7) (T := TX7) C hw iw_7 rfl ob_2 (by decide) (by decide) fl_X4_41 rfl rfl dX4_readNegated_12 ?_
        refine lv_topi (fun x_10 ex_10 => ?_)
        have bx_10 : 0 ≤ x_10.toInt ∧ x_10.toInt ≤ 41 := cI_rd iM_4 ob_2.1 ex_10
        have ux_10 : (tI M_4 2 4).toInt = x_10.toInt := by rw [ex_10]
        refine lv_bipush (v := 24) hx hb dX4_readNegated_15 (by decide) ?_
        refine sb_icmp_ne (tgt := 30) hx hb rfl (by decide : (24 : Int32).toInt = 24) dX4_readNegated_17 (by decide) (fun c_17_10 => ?_) (fun c_17_10 => ?_)
        · exact hj_30_17  _ _ _  hw (lv_sub hl [0, 1, 2] rfl)
        · refine lv_aload_n hx hb dX4_readNegated_20 rfl (lv_at hl 1 rfl) ?_
          refine ti_callVvE (ci := 4) (av := []) C hE hw (s_X4_knot l D A cy hJ M_4 iM_4 t ht ((tT_fr f_5).trans hT)) ⟨ml_X4_167, ym_X4_knot, yv_X4_knot, yi_X4_knot, yc_X4_knot⟩ yd_X4_knot ob_1 (by decide) rfl rfl hl.1 (Nat.le_of_ble_eq_true rfl) ⟨by decide, by decide⟩ ⟨Nat.zero_le _, Nat.zero_le _⟩ dX4_readNegated_21 (fun M_13 H locs hp_13 hw => ?_)
          obtain ⟨iM_13, q_14, q_15, q_16⟩ := hp_13
          obtain ⟨x_17, ex_17⟩ : ∃ z : Int32, z = x_1 + 1 := ⟨_, rfl⟩
          have tx_17 : x_17.toInt = x_1.toInt + 1 := i_add ex_17 rfl (by decide) (by omega) (by omega)
          refine lv_iinc (v := x_17) (lv' := [(2, .int x_17), (0, .ref (A 1 0)), (1, .int 4)]) hx hb dX4_readNegated_24 hl (k := 0) rfl (by rw [ex_17]; rfl) (by decide) rfl (fun ls hl => ?_)
          refine lv_goto (tgt := 2) hx hb dX4_readNegated_27 (by decide) ?_
          exact ih_8 x_17 M_13 _ _ _ (by omega) (by first | omega | decide) (by first | omega | decide) iM_13 ((q_14).trans f_5) (f0.trans q_15 f_6) ((q_16).trans f_7) hw (lv_sub hl [0, 1, 2] rfl)
  exact hl_2_7 ((65 - 0 : Int).toNat + 1) 0 M _ _ _ (Nat.lt_succ_self _) (by have lt0 : (0 : Int32).toInt = 0 := (by decide); first | omega | decide) (by have lt0 : (0 : Int32).toInt = 0 := (by decide); first | omega | decide) hI rfl f0.refl rfl hw (lv_sub hl [0, 1, 2] rfl)
set_option maxHeartbeats 4000000 in
set_option maxRecDepth 100000 in
theorem s_X4_readBoth_4 (l : Launch) (D : va_G) (A : Nat → Nat → Nat) (cy : Nat → ClassId) (hJ : ti_inj ti_LT A) (M : ti_M) (hI : cI Tc M) (t : Nat) (ht : t = 3 ∨ t = 4) (hT : tT M 1 1 = some t) (lw : Nat) (hlw : ti_ob ti_LT lw 1) (hL : tT M 1 2 = some lw) : ti_KvE l yX4_readBoth cX4_readBoth 3 41 ti_LT D A cy M [.ref (A 1 0), .int 4] (fun M2 => cI Tc M2 ∧ M2.2.2.2 = M.2.2.2 ∧ f0 M2 M ∧ tI M2 2 1 = tI M 2 1) := by
  refine ti_eVE yp_X4_readBoth hJ ti_LT_nd (Nat.le_of_ble_eq_true rfl) ?_
  intro p e s m args below meth c Q H0 C hE hQ hw ls hl
  have hx := C.1
  have hb := C.2.1
  have hl : lv_has ls 3 [(0, .ref (A 1 0)), (1, .int 4)] := hl
  refine lv_aload_n hx hb dX4_readBoth_0 rfl (lv_at hl 0 rfl) ?_
  refine lv_iload_n hx hb dX4_readBoth_1 rfl (lv_at hl 1 rfl) ?_
  refine ti_callVvE (ci := 4) (av := [.int 4]) C hE hw (s_X4_readNegated_4 l D A cy hJ M hI t ht (hT) lw hlw (hL)) ⟨ml_X4_175, ym_X4_readNegated, yv_X4_readNegated, yi_X4_readNegated, yc_X4_readNegated⟩ yd_X4_readNegated ob_1 (by decide) rfl rfl hl.1 (Nat.le_of_ble_eq_true rfl) ⟨by decide, by decide⟩ ⟨Nat.zero_le _, Nat.zero_le _⟩ dX4_readBoth_2 (fun M_2 H locs hp_2 hw => ?_)
  obtain ⟨iM_2, q_3, q_4, q_5⟩ := hp_2
  refine lv_iconst (v := 0) hx hb dX4_readBoth_5 (by decide) ?_
  refine lv_istore_n (lv' := [(2, .int 0), (0, .ref (A 1 0)), (1, .int 4)]) hx hb dX4_readBoth_6 rfl hl (by decide) rfl (fun ls hl => ?_)
  have hl_7_12 : ∀ (n_13 : Nat) (x_6 : Int32) (M_9 : ti_M) (H : Heap) (locs : List Loc) (ls : Array Slot), (64 - x_6.toInt : Int).toNat < n_13 → (0 ≤ x_6.toInt) → (x_6.toInt ≤ 64) → (cI Tc M_9) → (M_9.2.2.2 = M.2.2.2) → (f0 M_9 M) → (tI M_9 2 1 = tI M 2 1) → ti_H ti_LT D A cy H0 M_9 H locs → lv_has ls 3 [(2, .int x_6), (0, .ref (A 1 0)), (1, .int 4)] → W p l e (ti_rm 41) s m args below meth c H locs 0 0 Q (F0 m 7 ls []) := by
    intro n_13
    induction n_13 with
    | zero => intro x_6 M_9 H locs ls hf_13; exact absurd hf_13 (Nat.not_lt_zero _)
    | succ n_13 ih_13 =>
      intro x_6 M_9 H locs ls hf_13 b_7 b_8 iM_9 f_10 f_11 f_12 hw hl
      refine lv_iload_n hx hb dX4_readBoth_7 rfl (lv_at hl 0 rfl) ?_
      refine lv_bipush (v := 64) hx hb dX4_readBoth_8 (by decide) ?_
      refine sb_icmp_ge (tgt := 49) hx hb rfl (by decide : (64 : Int32).toInt = 64) dX4_readBoth_10 (by decide) (fun c_10_13 => ?_) (fun c_10_13 => ?_)
      · exact hQ _ _ _ _ _ hw (⟨iM_9, (f_10), f_11, (f_12)⟩) dX4_readBoth_49
      · refine lv_aload_n hx hb dX4_readBoth_13 rfl (lv_at hl 1 rfl) ?_
        refine ti_get (ci := 4) (k := 0) (N := 6) (T := TX4) (v := .ref (A 2 0)) C hw iw_4 rfl ob_1 (by decide) (by decide) fl_X4_12 rfl rfl dX4_readBoth_14 ?_
        refine ti_get (ci := 7) (k := 4) (N := 7) (T := TX7) C hw iw_7 rfl ob_2 (by decide) (by decide) fl_X4_41 rfl rfl dX4_readBoth_17 ?_
        refine lv_topi (fun x_15 ex_15 => ?_)
        have bx_15 : 0 ≤ x_15.toInt ∧ x_15.toInt ≤ 41 := cI_rd iM_9 ob_2.1 ex_15
        have ux_15 : (tI M_9 2 4).toInt = x_15.toInt := by rw [ex_15]
        refine lv_bipush (v := 22) hx hb dX4_readBoth_20 (by decide) ?_
        refine sb_icmp_ne (tgt := 49) hx hb rfl (by decide : (22 : Int32).toInt = 22) dX4_readBoth_22 (by decide) (fun c_22_15 => ?_) (fun c_22_15 => ?_)
        · exact hQ _ _ _ _ _ hw (⟨iM_9, (f_10), f_11, (f_12)⟩) dX4_readBoth_49
        · refine lv_aload_n hx hb dX4_readBoth_25 rfl (lv_at hl 1 rfl) ?_
          refine ti_callVvE (ci := 4) (av := []) C hE hw (s_X4_knot l D A cy hJ M_9 iM_9 t ht ((tT_fr f_10).trans hT)) ⟨ml_X4_167, ym_X4_knot, yv_X4_knot, yi_X4_knot, yc_X4_knot⟩ yd_X4_knot ob_1 (by decide) rfl rfl hl.1 (Nat.le_of_ble_eq_true rfl) ⟨by decide, by decide⟩ ⟨Nat.zero_le _, Nat.zero_le _⟩ dX4_readBoth_26 (fun M_18 H locs hp_18 hw => ?_)
          obtain ⟨iM_18, q_19, q_20, q_21⟩ := hp_18
          refine lv_aload_n hx hb dX4_readBoth_29 rfl (lv_at hl 1 rfl) ?_
          refine lv_iload_n hx hb dX4_readBoth_30 rfl (lv_at hl 2 rfl) ?_
          refine ti_callVvE (ci := 4) (av := [.int 4]) C hE hw (s_X4_readNegated_4 l D A cy hJ M_18 iM_18 t ht ((tT_fr q_19).trans ((tT_fr f_10).trans hT)) lw hlw ((tT_fr q_19).trans ((tT_fr f_10).trans hL))) ⟨ml_X4_175, ym_X4_readNegated, yv_X4_readNegated, yi_X4_readNegated, yc_X4_readNegated⟩ yd_X4_readNegated ob_1 (by decide) rfl rfl hl.1 (Nat.le_of_ble_eq_true rfl) ⟨by decide, by decide⟩ ⟨Nat.zero_le _, Nat.zero_le _⟩ dX4_readBoth_31 (fun M_23 H locs hp_23 hw => ?_)
          obtain ⟨iM_23, q_24, q_25, q_26⟩ := hp_23
          refine lv_aload_n hx hb dX4_readBoth_34 rfl (lv_at hl 1 rfl) ?_
          refine ti_get (ci := 4) (k := 2) (N := 6) (T := TX4) (v := .ref (A lw 0)) C hw iw_4 rfl ob_1 (by decide) (by decide) fl_X4_154 rfl (ti_Tv ((tT_fr q_24).trans ((tT_fr q_19).trans ((tT_fr f_10).trans hL)))) dX4_readBoth_35 ?_
          refine lv_bipush (v := (-22)) hx hb dX4_readBoth_38 (by decide) ?_
          refine ti_callVv (ci := 1) (av := [.int (-22)]) C hw (s_X1_add l D A cy hJ M_23 iM_23 lw hlw (-22) (by first | omega | exact Or.inl (by decide) | exact Or.inr (by decide))) ⟨ml_X4_170, ym_X1_add, yv_X1_add, yi_X1_add, yc_X1_add⟩ yd_X1_add hlw (by decide) rfl rfl hl.1 (Nat.le_of_ble_eq_true rfl) ⟨by decide, by decide⟩ ⟨Nat.zero_le _, Nat.zero_le _⟩ dX4_readBoth_40 (fun M_28 H locs hp_28 hw => ?_)
          obtain ⟨iM_28, q_29, q_30⟩ := hp_28
          obtain ⟨x_31, ex_31⟩ : ∃ z : Int32, z = x_6 + 1 := ⟨_, rfl⟩
          have tx_31 : x_31.toInt = x_6.toInt + 1 := i_add ex_31 rfl (by decide) (by omega) (by omega)
          refine lv_iinc (v := x_31) (lv' := [(2, .int x_31), (0, .ref (A 1 0)), (1, .int 4)]) hx hb dX4_readBoth_43 hl (k := 0) rfl (by rw [ex_31]; rfl) (by decide) rfl (fun ls hl => ?_)
          refine lv_goto (tgt := 7) hx hb dX4_readBoth_46 (by decide) ?_
          exact ih_13 x_31 M_28 _ _ _ (by omega) (by first | omega | decide) (by first | omega | decide) iM_28 ((q_29).trans ((q_24).trans ((q_19).trans f_10))) (f0.trans (f0_x q_30) (f0.trans q_25 (f0.trans q_20 f_11))) (((q_30 1).2.1).trans ((q_26).trans ((q_21).trans f_12))) hw (lv_sub hl [0, 1, 2] rfl)
  exact hl_7_12 ((64 - 0 : Int).toNat + 1) 0 M_2 _ _ _ (Nat.lt_succ_self _) (by have lt0 : (0 : Int32).toInt = 0 := (by decide); first | omega | decide) (by have lt0 : (0 : Int32).toInt = 0 := (by decide); first | omega | decide) iM_2 (q_3) q_4 (q_5) hw (lv_sub hl [0, 1, 2] rfl)
set_option maxHeartbeats 4000000 in
set_option maxRecDepth 100000 in
theorem s_X4_readEither_4 (l : Launch) (D : va_G) (A : Nat → Nat → Nat) (cy : Nat → ClassId) (hJ : ti_inj ti_LT A) (M : ti_M) (hI : cI Tc M) (t : Nat) (ht : t = 3 ∨ t = 4) (hT : tT M 1 1 = some t) (lw : Nat) (hlw : ti_ob ti_LT lw 1) (hL : tT M 1 2 = some lw) : ti_KvE l yX4_readEither cX4_readEither 3 42 ti_LT D A cy M [.ref (A 1 0), .int 4] (fun M2 => cI Tc M2 ∧ M2.2.2.2 = M.2.2.2 ∧ f0 M2 M ∧ tI M2 2 1 = tI M 2 1) := by
  refine ti_eVE yp_X4_readEither hJ ti_LT_nd (Nat.le_of_ble_eq_true rfl) ?_
  intro p e s m args below meth c Q H0 C hE hQ hw ls hl
  have hx := C.1
  have hb := C.2.1
  have hl : lv_has ls 3 [(0, .ref (A 1 0)), (1, .int 4)] := hl
  refine lv_aload_n hx hb dX4_readEither_0 rfl (lv_at hl 0 rfl) ?_
  refine lv_iload_n hx hb dX4_readEither_1 rfl (lv_at hl 1 rfl) ?_
  refine ti_callVvE (ci := 4) (av := [.int 4]) C hE hw (s_X4_readBoth_4 l D A cy hJ M hI t ht (hT) lw hlw (hL)) ⟨ml_X4_164, ym_X4_readBoth, yv_X4_readBoth, yi_X4_readBoth, yc_X4_readBoth⟩ yd_X4_readBoth ob_1 (by decide) rfl rfl hl.1 (Nat.le_of_ble_eq_true rfl) ⟨by decide, by decide⟩ ⟨Nat.zero_le _, Nat.zero_le _⟩ dX4_readEither_2 (fun M_2 H locs hp_2 hw => ?_)
  obtain ⟨iM_2, q_3, q_4, q_5⟩ := hp_2
  refine lv_iconst (v := 0) hx hb dX4_readEither_5 (by decide) ?_
  refine lv_istore_n (lv' := [(2, .int 0), (0, .ref (A 1 0)), (1, .int 4)]) hx hb dX4_readEither_6 rfl hl (by decide) rfl (fun ls hl => ?_)
  have hl_7_12 : ∀ (n_13 : Nat) (x_6 : Int32) (M_9 : ti_M) (H : Heap) (locs : List Loc) (ls : Array Slot), (64 - x_6.toInt : Int).toNat < n_13 → (0 ≤ x_6.toInt) → (x_6.toInt ≤ 64) → (cI Tc M_9) → (M_9.2.2.2 = M.2.2.2) → (f0 M_9 M) → (tI M_9 2 1 = tI M 2 1) → ti_H ti_LT D A cy H0 M_9 H locs → lv_has ls 3 [(2, .int x_6), (0, .ref (A 1 0)), (1, .int 4)] → W p l e (ti_rm 42) s m args below meth c H locs 0 0 Q (F0 m 7 ls []) := by
    intro n_13
    induction n_13 with
    | zero => intro x_6 M_9 H locs ls hf_13; exact absurd hf_13 (Nat.not_lt_zero _)
    | succ n_13 ih_13 =>
      intro x_6 M_9 H locs ls hf_13 b_7 b_8 iM_9 f_10 f_11 f_12 hw hl
      refine lv_iload_n hx hb dX4_readEither_7 rfl (lv_at hl 0 rfl) ?_
      refine lv_bipush (v := 64) hx hb dX4_readEither_8 (by decide) ?_
      refine sb_icmp_ge (tgt := 49) hx hb rfl (by decide : (64 : Int32).toInt = 64) dX4_readEither_10 (by decide) (fun c_10_13 => ?_) (fun c_10_13 => ?_)
      · exact hQ _ _ _ _ _ hw (⟨iM_9, (f_10), f_11, (f_12)⟩) dX4_readEither_49
      · refine lv_aload_n hx hb dX4_readEither_13 rfl (lv_at hl 1 rfl) ?_
        refine ti_get (ci := 4) (k := 0) (N := 6) (T := TX4) (v := .ref (A 2 0)) C hw iw_4 rfl ob_1 (by decide) (by decide) fl_X4_12 rfl rfl dX4_readEither_14 ?_
        refine ti_get (ci := 7) (k := 4) (N := 7) (T := TX7) C hw iw_7 rfl ob_2 (by decide) (by decide) fl_X4_41 rfl rfl dX4_readEither_17 ?_
        refine lv_topi (fun x_15 ex_15 => ?_)
        have bx_15 : 0 ≤ x_15.toInt ∧ x_15.toInt ≤ 41 := cI_rd iM_9 ob_2.1 ex_15
        have ux_15 : (tI M_9 2 4).toInt = x_15.toInt := by rw [ex_15]
        refine lv_bipush (v := 23) hx hb dX4_readEither_20 (by decide) ?_
        refine sb_icmp_ne (tgt := 49) hx hb rfl (by decide : (23 : Int32).toInt = 23) dX4_readEither_22 (by decide) (fun c_22_15 => ?_) (fun c_22_15 => ?_)
        · exact hQ _ _ _ _ _ hw (⟨iM_9, (f_10), f_11, (f_12)⟩) dX4_readEither_49
        · refine lv_aload_n hx hb dX4_readEither_25 rfl (lv_at hl 1 rfl) ?_
          refine ti_callVvE (ci := 4) (av := []) C hE hw (s_X4_knot l D A cy hJ M_9 iM_9 t ht ((tT_fr f_10).trans hT)) ⟨ml_X4_167, ym_X4_knot, yv_X4_knot, yi_X4_knot, yc_X4_knot⟩ yd_X4_knot ob_1 (by decide) rfl rfl hl.1 (Nat.le_of_ble_eq_true rfl) ⟨by decide, by decide⟩ ⟨Nat.zero_le _, Nat.zero_le _⟩ dX4_readEither_26 (fun M_18 H locs hp_18 hw => ?_)
          obtain ⟨iM_18, q_19, q_20, q_21⟩ := hp_18
          refine lv_aload_n hx hb dX4_readEither_29 rfl (lv_at hl 1 rfl) ?_
          refine lv_iload_n hx hb dX4_readEither_30 rfl (lv_at hl 2 rfl) ?_
          refine ti_callVvE (ci := 4) (av := [.int 4]) C hE hw (s_X4_readBoth_4 l D A cy hJ M_18 iM_18 t ht ((tT_fr q_19).trans ((tT_fr f_10).trans hT)) lw hlw ((tT_fr q_19).trans ((tT_fr f_10).trans hL))) ⟨ml_X4_164, ym_X4_readBoth, yv_X4_readBoth, yi_X4_readBoth, yc_X4_readBoth⟩ yd_X4_readBoth ob_1 (by decide) rfl rfl hl.1 (Nat.le_of_ble_eq_true rfl) ⟨by decide, by decide⟩ ⟨Nat.zero_le _, Nat.zero_le _⟩ dX4_readEither_31 (fun M_23 H locs hp_23 hw => ?_)
          obtain ⟨iM_23, q_24, q_25, q_26⟩ := hp_23
          refine lv_aload_n hx hb dX4_readEither_34 rfl (lv_at hl 1 rfl) ?_
          refine ti_get (ci := 4) (k := 2) (N := 6) (T := TX4) (v := .ref (A lw 0)) C hw iw_4 rfl ob_1 (by decide) (by decide) fl_X4_154 rfl (ti_Tv ((tT_fr q_24).trans ((tT_fr q_19).trans ((tT_fr f_10).trans hL)))) dX4_readEither_35 ?_
          refine lv_bipush (v := (-23)) hx hb dX4_readEither_38 (by decide) ?_
          refine ti_callVv (ci := 1) (av := [.int (-23)]) C hw (s_X1_add l D A cy hJ M_23 iM_23 lw hlw (-23) (by first | omega | exact Or.inl (by decide) | exact Or.inr (by decide))) ⟨ml_X4_170, ym_X1_add, yv_X1_add, yi_X1_add, yc_X1_add⟩ yd_X1_add hlw (by decide) rfl rfl hl.1 (Nat.le_of_ble_eq_true rfl) ⟨by decide, by decide⟩ ⟨Nat.zero_le _, Nat.zero_le _⟩ dX4_readEither_40 (fun M_28 H locs hp_28 hw => ?_)
          obtain ⟨iM_28, q_29, q_30⟩ := hp_28
          obtain ⟨x_31, ex_31⟩ : ∃ z : Int32, z = x_6 + 1 := ⟨_, rfl⟩
          have tx_31 : x_31.toInt = x_6.toInt + 1 := i_add ex_31 rfl (by decide) (by omega) (by omega)
          refine lv_iinc (v := x_31) (lv' := [(2, .int x_31), (0, .ref (A 1 0)), (1, .int 4)]) hx hb dX4_readEither_43 hl (k := 0) rfl (by rw [ex_31]; rfl) (by decide) rfl (fun ls hl => ?_)
          refine lv_goto (tgt := 7) hx hb dX4_readEither_46 (by decide) ?_
          exact ih_13 x_31 M_28 _ _ _ (by omega) (by first | omega | decide) (by first | omega | decide) iM_28 ((q_29).trans ((q_24).trans ((q_19).trans f_10))) (f0.trans (f0_x q_30) (f0.trans q_25 (f0.trans q_20 f_11))) (((q_30 1).2.1).trans ((q_26).trans ((q_21).trans f_12))) hw (lv_sub hl [0, 1, 2] rfl)
  exact hl_7_12 ((64 - 0 : Int).toNat + 1) 0 M_2 _ _ _ (Nat.lt_succ_self _) (by have lt0 : (0 : Int32).toInt = 0 := (by decide); first | omega | decide) (by have lt0 : (0 : Int32).toInt = 0 := (by decide); first | omega | decide) iM_2 (q_3) q_4 (q_5) hw (lv_sub hl [0, 1, 2] rfl)
set_option maxHeartbeats 4000000 in
set_option maxRecDepth 100000 in
theorem s_X4_readPart_3 (l : Launch) (D : va_G) (A : Nat → Nat → Nat) (cy : Nat → ClassId) (hJ : ti_inj ti_LT A) (M : ti_M) (hI : cI Tc M) (t : Nat) (ht : t = 3 ∨ t = 4) (hT : tT M 1 1 = some t) (lw : Nat) (hlw : ti_ob ti_LT lw 1) (hL : tT M 1 2 = some lw) : ti_KvE l yX4_readPart cX4_readPart 3 43 ti_LT D A cy M [.ref (A 1 0), .int 3] (fun M2 => cI Tc M2 ∧ M2.2.2.2 = M.2.2.2 ∧ f0 M2 M ∧ tI M2 2 1 = tI M 2 1) := by
  refine ti_eVE yp_X4_readPart hJ ti_LT_nd (Nat.le_of_ble_eq_true rfl) ?_
  intro p e s m args below meth c Q H0 C hE hQ hw ls hl
  have hx := C.1
  have hb := C.2.1
  have hl : lv_has ls 3 [(0, .ref (A 1 0)), (1, .int 3)] := hl
  refine lv_aload_n hx hb dX4_readPart_0 rfl (lv_at hl 0 rfl) ?_
  refine ti_get (ci := 4) (k := 0) (N := 6) (T := TX4) (v := .ref (A 2 0)) C hw iw_4 rfl ob_1 (by decide) (by decide) fl_X4_12 rfl rfl dX4_readPart_1 ?_
  refine ti_get (ci := 7) (k := 4) (N := 7) (T := TX7) C hw iw_7 rfl ob_2 (by decide) (by decide) fl_X4_41 rfl rfl dX4_readPart_4 ?_
  refine lv_topi (fun x_1 ex_1 => ?_)
  have bx_1 : 0 ≤ x_1.toInt ∧ x_1.toInt ≤ 41 := cI_rd hI ob_2.1 ex_1
  have ux_1 : (tI M 2 4).toInt = x_1.toInt := by rw [ex_1]
  refine lv_istore_n (lv' := [(2, .int x_1), (0, .ref (A 1 0)), (1, .int 3)]) hx hb dX4_readPart_7 rfl hl (by decide) rfl (fun ls hl => ?_)
  refine lv_iload_n hx hb dX4_readPart_8 rfl (lv_at hl 0 rfl) ?_
  refine lv_bipush (v := 30) hx hb dX4_readPart_9 (by decide) ?_
  have hj_28_3 : ∀  (H : Heap) (locs : List Loc) (ls : Array Slot), ti_H ti_LT D A cy H0 M H locs → lv_has ls 3 [(2, .int x_1), (0, .ref (A 1 0)), (1, .int 3)] → W p l e (ti_rm 43) s m args below meth c H locs 0 0 Q (F0 m 28 ls []) := by
    intro  H locs ls  hw hl
    refine lv_iload_n hx hb dX4_readPart_28 rfl (lv_at hl 0 rfl) ?_
    refine lv_bipush (v := 30) hx hb dX4_readPart_29 (by decide) ?_
    refine sb_icmp_ne (tgt := 57) hx hb rfl (by decide : (30 : Int32).toInt = 30) dX4_readPart_31 (by decide) (fun c_31_3 => ?_) (fun c_31_3 => ?_)
    · refine lv_iload_n hx hb dX4_readPart_57 rfl (lv_at hl 0 rfl) ?_
      refine lv_bipush (v := 26) hx hb dX4_readPart_58 (by decide) ?_
      have hj_84_27 : ∀  (H : Heap) (locs : List Loc) (ls : Array Slot), ti_H ti_LT D A cy H0 M H locs → lv_has ls 3 [(2, .int x_1), (0, .ref (A 1 0)), (1, .int 3)] → W p l e (ti_rm 43) s m args below meth c H locs 0 0 Q (F0 m 84 ls []) := by
        intro  H locs ls  hw hl
        refine lv_iload_n hx hb dX4_readPart_84 rfl (lv_at hl 0 rfl) ?_
        refine lv_bipush (v := 26) hx hb dX4_readPart_85 (by decide) ?_
        refine sb_icmp_ne (tgt := 111) hx hb rfl (by decide : (26 : Int32).toInt = 26) dX4_readPart_87 (by decide) (fun c_87_27 => ?_) (fun c_87_27 => ?_)
        · refine lv_iload_n hx hb dX4_readPart_111 rfl (lv_at hl 0 rfl) ?_
          refine lv_bipush (v := 16) hx hb dX4_readPart_112 (by decide) ?_
          have hj_139_50 : ∀  (H : Heap) (locs : List Loc) (ls : Array Slot), ti_H ti_LT D A cy H0 M H locs → lv_has ls 3 [(2, .int x_1), (0, .ref (A 1 0)), (1, .int 3)] → W p l e (ti_rm 43) s m args below meth c H locs 0 0 Q (F0 m 139 ls []) := by
            intro  H locs ls  hw hl
            refine lv_aload_n hx hb dX4_readPart_139 rfl (lv_at hl 1 rfl) ?_
            refine lv_iconst (v := 1) hx hb dX4_readPart_140 (by decide) ?_
            refine ti_callVv (ci := 4) (av := [.int 1]) C hw (s_X4_refuse l D A cy hJ M hI 1) ⟨ml_X4_82, ym_X4_refuse, yv_X4_refuse, yi_X4_refuse, yc_X4_refuse⟩ yd_X4_refuse ob_1 (by decide) rfl rfl hl.1 (Nat.le_of_ble_eq_true rfl) ⟨by decide, by decide⟩ ⟨Nat.zero_le _, Nat.zero_le _⟩ dX4_readPart_141 (fun M_52 H locs hp_52 hw => ?_)
            obtain ⟨iM_52, q_53, q_54, q_55⟩ := hp_52
            exact hQ _ _ _ _ _ hw (⟨iM_52, (q_53), (f0_12 q_54), (q_55)⟩) dX4_readPart_144
          refine sb_icmp_lt (tgt := 139) hx hb rfl (by decide : (16 : Int32).toInt = 16) dX4_readPart_114 (by decide) (fun c_114_38 => ?_) (fun c_114_38 => ?_)
          · exact hj_139_50  _ _ _  hw (lv_sub hl [0, 1, 2] rfl)
          · refine lv_iload_n hx hb dX4_readPart_117 rfl (lv_at hl 0 rfl) ?_
            refine lv_bipush (v := 21) hx hb dX4_readPart_118 (by decide) ?_
            refine sb_icmp_gt (tgt := 139) hx hb rfl (by decide : (21 : Int32).toInt = 21) dX4_readPart_120 (by decide) (fun c_120_39 => ?_) (fun c_120_39 => ?_)
            · exact hj_139_50  _ _ _  hw (lv_sub hl [0, 1, 2] rfl)
            · refine lv_aload_n hx hb dX4_readPart_123 rfl (lv_at hl 1 rfl) ?_
              refine ti_get (ci := 4) (k := 2) (N := 6) (T := TX4) (v := .ref (A lw 0)) C hw iw_4 rfl ob_1 (by decide) (by decide) fl_X4_154 rfl (ti_Tv (hL)) dX4_readPart_124 ?_
              refine lv_iload_n hx hb dX4_readPart_127 rfl (lv_at hl 0 rfl) ?_
              refine lv_ineg hx hb dX4_readPart_128 ?_
              refine lv_topi (fun x_41 ex_41 => ?_)
              have tx_41 : x_41.toInt = -x_1.toInt := i_neg ex_41 rfl (by omega)
              refine ti_callVv (ci := 1) (av := [.int x_41]) C hw (s_X1_add l D A cy hJ M hI lw hlw x_41 (by first | omega | exact Or.inl (by decide) | exact Or.inr (by decide))) ⟨ml_X4_170, ym_X1_add, yv_X1_add, yi_X1_add, yc_X1_add⟩ yd_X1_add hlw (by decide) rfl rfl hl.1 (Nat.le_of_ble_eq_true rfl) ⟨by decide, by decide⟩ ⟨Nat.zero_le _, Nat.zero_le _⟩ dX4_readPart_129 (fun M_43 H locs hp_43 hw => ?_)
              obtain ⟨iM_43, q_44, q_45⟩ := hp_43
              refine lv_aload_n hx hb dX4_readPart_132 rfl (lv_at hl 1 rfl) ?_
              refine ti_callVvE (ci := 4) (av := []) C hE hw (s_X4_knot l D A cy hJ M_43 iM_43 t ht ((tT_fr q_44).trans hT)) ⟨ml_X4_167, ym_X4_knot, yv_X4_knot, yi_X4_knot, yc_X4_knot⟩ yd_X4_knot ob_1 (by decide) rfl rfl hl.1 (Nat.le_of_ble_eq_true rfl) ⟨by decide, by decide⟩ ⟨Nat.zero_le _, Nat.zero_le _⟩ dX4_readPart_133 (fun M_47 H locs hp_47 hw => ?_)
              obtain ⟨iM_47, q_48, q_49, q_50⟩ := hp_47
              refine lv_goto (tgt := 144) hx hb dX4_readPart_136 (by decide) ?_
              exact hQ _ _ _ _ _ hw (⟨iM_47, ((q_48).trans q_44), (f0.trans q_49 (f0_x q_45)), ((q_50).trans ((q_45 1).2.1))⟩) dX4_readPart_144
        · refine lv_aload_n hx hb dX4_readPart_90 rfl (lv_at hl 1 rfl) ?_
          refine ti_get (ci := 4) (k := 2) (N := 6) (T := TX4) (v := .ref (A lw 0)) C hw iw_4 rfl ob_1 (by decide) (by decide) fl_X4_154 rfl (ti_Tv (hL)) dX4_readPart_91 ?_
          refine lv_aload_n hx hb dX4_readPart_94 rfl (lv_at hl 1 rfl) ?_
          refine ti_get (ci := 4) (k := 0) (N := 6) (T := TX4) (v := .ref (A 2 0)) C hw iw_4 rfl ob_1 (by decide) (by decide) fl_X4_12 rfl rfl dX4_readPart_95 ?_
          refine ti_get (ci := 7) (k := 6) (N := 7) (T := TX7) C hw iw_7 rfl ob_2 (by decide) (by decide) fl_X4_95 rfl rfl dX4_readPart_98 ?_
          refine lv_topi (fun x_29 ex_29 => ?_)
          have bx_29 : 0 ≤ x_29.toInt ∧ x_29.toInt ≤ 2147483647 := cI_rd hI ob_2.1 ex_29
          have ux_29 : (tI M 2 6).toInt = x_29.toInt := by rw [ex_29]
          refine ti_callVv (ci := 1) (av := [.int x_29]) C hw (s_X1_add l D A cy hJ M hI lw hlw x_29 (by first | omega | exact Or.inl (by decide) | exact Or.inr (by decide))) ⟨ml_X4_170, ym_X1_add, yv_X1_add, yi_X1_add, yc_X1_add⟩ yd_X1_add hlw (by decide) rfl rfl hl.1 (Nat.le_of_ble_eq_true rfl) ⟨by decide, by decide⟩ ⟨Nat.zero_le _, Nat.zero_le _⟩ dX4_readPart_101 (fun M_31 H locs hp_31 hw => ?_)
          obtain ⟨iM_31, q_32, q_33⟩ := hp_31
          refine lv_aload_n hx hb dX4_readPart_104 rfl (lv_at hl 1 rfl) ?_
          refine ti_callVvE (ci := 4) (av := []) C hE hw (s_X4_knot l D A cy hJ M_31 iM_31 t ht ((tT_fr q_32).trans hT)) ⟨ml_X4_167, ym_X4_knot, yv_X4_knot, yi_X4_knot, yc_X4_knot⟩ yd_X4_knot ob_1 (by decide) rfl rfl hl.1 (Nat.le_of_ble_eq_true rfl) ⟨by decide, by decide⟩ ⟨Nat.zero_le _, Nat.zero_le _⟩ dX4_readPart_105 (fun M_35 H locs hp_35 hw => ?_)
          obtain ⟨iM_35, q_36, q_37, q_38⟩ := hp_35
          refine lv_goto (tgt := 144) hx hb dX4_readPart_108 (by decide) ?_
          exact hQ _ _ _ _ _ hw (⟨iM_35, ((q_36).trans q_32), (f0.trans q_37 (f0_x q_33)), ((q_38).trans ((q_33 1).2.1))⟩) dX4_readPart_144
      refine sb_icmp_ne (tgt := 84) hx hb rfl (by decide : (26 : Int32).toInt = 26) dX4_readPart_60 (by decide) (fun c_60_19 => ?_) (fun c_60_19 => ?_)
      · exact hj_84_27  _ _ _  hw (lv_sub hl [0, 1, 2] rfl)
      · refine lv_aload_n hx hb dX4_readPart_63 rfl (lv_at hl 1 rfl) ?_
        refine ti_get (ci := 4) (k := 0) (N := 6) (T := TX4) (v := .ref (A 2 0)) C hw iw_4 rfl ob_1 (by decide) (by decide) fl_X4_12 rfl rfl dX4_readPart_64 ?_
        refine ti_get (ci := 7) (k := 6) (N := 7) (T := TX7) C hw iw_7 rfl ob_2 (by decide) (by decide) fl_X4_95 rfl rfl dX4_readPart_67 ?_
        refine lv_topi (fun x_21 ex_21 => ?_)
        have bx_21 : 0 ≤ x_21.toInt ∧ x_21.toInt ≤ 2147483647 := cI_rd hI ob_2.1 ex_21
        have ux_21 : (tI M 2 6).toInt = x_21.toInt := by rw [ex_21]
        refine lv_sipush (v := 9999) hx hb dX4_readPart_70 (by decide) ?_
        refine sb_icmp_le (tgt := 84) hx hb rfl (by decide : (9999 : Int32).toInt = 9999) dX4_readPart_73 (by decide) (fun c_73_21 => ?_) (fun c_73_21 => ?_)
        · exact hj_84_27  _ _ _  hw (lv_sub hl [0, 1, 2] rfl)
        · refine lv_aload_n hx hb dX4_readPart_76 rfl (lv_at hl 1 rfl) ?_
          refine lv_iconst (v := 2) hx hb dX4_readPart_77 (by decide) ?_
          refine ti_callVv (ci := 4) (av := [.int 2]) C hw (s_X4_refuse l D A cy hJ M hI 2) ⟨ml_X4_82, ym_X4_refuse, yv_X4_refuse, yi_X4_refuse, yc_X4_refuse⟩ yd_X4_refuse ob_1 (by decide) rfl rfl hl.1 (Nat.le_of_ble_eq_true rfl) ⟨by decide, by decide⟩ ⟨Nat.zero_le _, Nat.zero_le _⟩ dX4_readPart_78 (fun M_24 H locs hp_24 hw => ?_)
          obtain ⟨iM_24, q_25, q_26, q_27⟩ := hp_24
          refine lv_goto (tgt := 144) hx hb dX4_readPart_81 (by decide) ?_
          exact hQ _ _ _ _ _ hw (⟨iM_24, (q_25), (f0_12 q_26), (q_27)⟩) dX4_readPart_144
    · refine lv_aload_n hx hb dX4_readPart_34 rfl (lv_at hl 1 rfl) ?_
      refine ti_get (ci := 4) (k := 0) (N := 6) (T := TX4) (v := .ref (A 2 0)) C hw iw_4 rfl ob_1 (by decide) (by decide) fl_X4_12 rfl rfl dX4_readPart_35 ?_
      refine ti_callVvE (ci := 7) (av := []) C hE hw (s_X7_advance l D A cy hJ M hI ) ⟨ml_X4_92, ym_X7_advance, yv_X7_advance, yi_X7_advance, yc_X7_advance⟩ yd_X7_advance ob_2 (by decide) rfl rfl hl.1 (Nat.le_of_ble_eq_true rfl) ⟨by decide, by decide⟩ ⟨Nat.zero_le _, Nat.zero_le _⟩ dX4_readPart_38 (fun M_6 H locs hp_6 hw => ?_)
      obtain ⟨iM_6, q_7, q_8, q_9⟩ := hp_6
      refine lv_aload_n hx hb dX4_readPart_41 rfl (lv_at hl 1 rfl) ?_
      refine lv_iload_n hx hb dX4_readPart_42 rfl (lv_at hl 2 rfl) ?_
      refine lv_iconst (v := 1) hx hb dX4_readPart_43 (by decide) ?_
      refine lv_iadd hx hb dX4_readPart_44 ?_
      refine ti_top (y := 4) (by decide) ?_
      refine ti_callVvE (ci := 4) (av := [.int 4]) C hE hw (s_X4_readEither_4 l D A cy hJ M_6 iM_6 t ht ((tT_fr q_7).trans hT) lw hlw ((tT_fr q_7).trans hL)) ⟨ml_X4_158, ym_X4_readEither, yv_X4_readEither, yi_X4_readEither, yc_X4_readEither⟩ yd_X4_readEither ob_1 (by decide) rfl rfl hl.1 (Nat.le_of_ble_eq_true rfl) ⟨by decide, by decide⟩ ⟨Nat.zero_le _, Nat.zero_le _⟩ dX4_readPart_45 (fun M_11 H locs hp_11 hw => ?_)
      obtain ⟨iM_11, q_12, q_13, q_14⟩ := hp_11
      refine lv_aload_n hx hb dX4_readPart_48 rfl (lv_at hl 1 rfl) ?_
      refine lv_bipush (v := 31) hx hb dX4_readPart_49 (by decide) ?_
      refine ti_callVvE (ci := 4) (av := [.int 31]) C hE hw (s_X4_take l D A cy hJ M_11 iM_11 31) ⟨ml_X4_85, ym_X4_take, yv_X4_take, yi_X4_take, yc_X4_take⟩ yd_X4_take ob_1 (by decide) rfl rfl hl.1 (Nat.le_of_ble_eq_true rfl) ⟨by decide, by decide⟩ ⟨Nat.zero_le _, Nat.zero_le _⟩ dX4_readPart_51 (fun M_16 H locs hp_16 hw => ?_)
      obtain ⟨iM_16, q_17, q_18, q_19⟩ := hp_16
      refine lv_goto (tgt := 144) hx hb dX4_readPart_54 (by decide) ?_
      exact hQ _ _ _ _ _ hw (⟨iM_16, ((q_17).trans ((q_12).trans q_7)), (f0.trans (f0_12 q_18) (f0.trans q_13 (f0_12 q_8))), ((q_19).trans ((q_14).trans q_9))⟩) dX4_readPart_144
  refine sb_icmp_ne (tgt := 28) hx hb rfl (by decide : (30 : Int32).toInt = 30) dX4_readPart_11 (by decide) (fun c_11_1 => ?_) (fun c_11_1 => ?_)
  · exact hj_28_3  _ _ _  hw (lv_sub hl [0, 1, 2] rfl)
  · refine lv_iload_n hx hb dX4_readPart_14 rfl (lv_at hl 2 rfl) ?_
    refine lv_bipush (v := 8) hx hb dX4_readPart_15 (by decide) ?_
    refine sb_icmp_lt (tgt := 28) hx hb (by decide : (3 : Int32).toInt = 3) (by decide : (8 : Int32).toInt = 8) dX4_readPart_17 (by decide) (fun c_17_2 => ?_) (fun h => absurd h (by decide))
    exact hj_28_3  _ _ _  hw (lv_sub hl [0, 1, 2] rfl)
set_option maxHeartbeats 4000000 in
set_option maxRecDepth 100000 in
theorem s_X4_readProduct_3 (l : Launch) (D : va_G) (A : Nat → Nat → Nat) (cy : Nat → ClassId) (hJ : ti_inj ti_LT A) (M : ti_M) (hI : cI Tc M) (t : Nat) (ht : t = 3 ∨ t = 4) (hT : tT M 1 1 = some t) (lw : Nat) (hlw : ti_ob ti_LT lw 1) (hL : tT M 1 2 = some lw) : ti_KvE l yX4_readProduct cX4_readProduct 4 44 ti_LT D A cy M [.ref (A 1 0), .int 3] (fun M2 => cI Tc M2 ∧ M2.2.2.2 = M.2.2.2 ∧ f0 M2 M ∧ tI M2 2 1 = tI M 2 1) := by
  refine ti_eVE yp_X4_readProduct hJ ti_LT_nd (Nat.le_of_ble_eq_true rfl) ?_
  intro p e s m args below meth c Q H0 C hE hQ hw ls hl
  have hx := C.1
  have hb := C.2.1
  have hl : lv_has ls 4 [(0, .ref (A 1 0)), (1, .int 3)] := hl
  refine lv_aload_n hx hb dX4_readProduct_0 rfl (lv_at hl 0 rfl) ?_
  refine lv_iload_n hx hb dX4_readProduct_1 rfl (lv_at hl 1 rfl) ?_
  refine ti_callVvE (ci := 4) (av := [.int 3]) C hE hw (s_X4_readPart_3 l D A cy hJ M hI t ht (hT) lw hlw (hL)) ⟨ml_X4_187, ym_X4_readPart, yv_X4_readPart, yi_X4_readPart, yc_X4_readPart⟩ yd_X4_readPart ob_1 (by decide) rfl rfl hl.1 (Nat.le_of_ble_eq_true rfl) ⟨by decide, by decide⟩ ⟨Nat.zero_le _, Nat.zero_le _⟩ dX4_readProduct_2 (fun M_2 H locs hp_2 hw => ?_)
  obtain ⟨iM_2, q_3, q_4, q_5⟩ := hp_2
  refine lv_iconst (v := 0) hx hb dX4_readProduct_5 (by decide) ?_
  refine lv_istore_n (lv' := [(2, .int 0), (0, .ref (A 1 0)), (1, .int 3)]) hx hb dX4_readProduct_6 rfl hl (by decide) rfl (fun ls hl => ?_)
  have hl_7_12 : ∀ (n_13 : Nat) (x_6 : Int32) (M_9 : ti_M) (H : Heap) (locs : List Loc) (ls : Array Slot), (64 - x_6.toInt : Int).toNat < n_13 → (0 ≤ x_6.toInt) → (x_6.toInt ≤ 64) → (cI Tc M_9) → (M_9.2.2.2 = M.2.2.2) → (f0 M_9 M) → (tI M_9 2 1 = tI M 2 1) → ti_H ti_LT D A cy H0 M_9 H locs → lv_has ls 4 [(2, .int x_6), (0, .ref (A 1 0)), (1, .int 3)] → W p l e (ti_rm 44) s m args below meth c H locs 0 0 Q (F0 m 7 ls []) := by
    intro n_13
    induction n_13 with
    | zero => intro x_6 M_9 H locs ls hf_13; exact absurd hf_13 (Nat.not_lt_zero _)
    | succ n_13 ih_13 =>
      intro x_6 M_9 H locs ls hf_13 b_7 b_8 iM_9 f_10 f_11 f_12 hw hl
      refine lv_iload_n hx hb dX4_readProduct_7 rfl (lv_at hl 0 rfl) ?_
      refine lv_bipush (v := 64) hx hb dX4_readProduct_8 (by decide) ?_
      refine sb_icmp_ge (tgt := 69) hx hb rfl (by decide : (64 : Int32).toInt = 64) dX4_readProduct_10 (by decide) (fun c_10_13 => ?_) (fun c_10_13 => ?_)
      · exact hQ _ _ _ _ _ hw (⟨iM_9, (f_10), f_11, (f_12)⟩) dX4_readProduct_69
      · refine lv_aload_n hx hb dX4_readProduct_13 rfl (lv_at hl 1 rfl) ?_
        refine ti_get (ci := 4) (k := 0) (N := 6) (T := TX4) (v := .ref (A 2 0)) C hw iw_4 rfl ob_1 (by decide) (by decide) fl_X4_12 rfl rfl dX4_readProduct_14 ?_
        refine ti_get (ci := 7) (k := 4) (N := 7) (T := TX7) C hw iw_7 rfl ob_2 (by decide) (by decide) fl_X4_41 rfl rfl dX4_readProduct_17 ?_
        refine lv_topi (fun x_15 ex_15 => ?_)
        have bx_15 : 0 ≤ x_15.toInt ∧ x_15.toInt ≤ 41 := cI_rd iM_9 ob_2.1 ex_15
        have ux_15 : (tI M_9 2 4).toInt = x_15.toInt := by rw [ex_15]
        refine lv_bipush (v := 40) hx hb dX4_readProduct_20 (by decide) ?_
        have hj_37_19 : ∀  (H : Heap) (locs : List Loc) (ls : Array Slot), (16 ≤ (tI M_9 2 4).toInt) → ti_H ti_LT D A cy H0 M_9 H locs → lv_has ls 4 [(2, .int x_6), (0, .ref (A 1 0)), (1, .int 3)] → W p l e (ti_rm 44) s m args below meth c H locs 0 0 Q (F0 m 37 ls []) := by
          intro  H locs ls j_19 hw hl
          refine lv_aload_n hx hb dX4_readProduct_37 rfl (lv_at hl 1 rfl) ?_
          refine ti_get (ci := 4) (k := 0) (N := 6) (T := TX4) (v := .ref (A 2 0)) C hw iw_4 rfl ob_1 (by decide) (by decide) fl_X4_12 rfl rfl dX4_readProduct_38 ?_
          refine ti_get (ci := 7) (k := 4) (N := 7) (T := TX7) C hw iw_7 rfl ob_2 (by decide) (by decide) fl_X4_41 rfl rfl dX4_readProduct_41 ?_
          refine ti_top (y := x_15) (ex_15.symm) ?_
          have u_22 : (tI M_9 2 4).toInt = (x_15 : Int32).toInt := by rw [(ex_15.symm)]
          refine lv_istore_n (lv' := [(3, .int x_15), (2, .int x_6), (0, .ref (A 1 0)), (1, .int 3)]) hx hb dX4_readProduct_44 rfl hl (by decide) rfl (fun ls hl => ?_)
          refine lv_aload_n hx hb dX4_readProduct_45 rfl (lv_at hl 2 rfl) ?_
          refine ti_callVvE (ci := 4) (av := []) C hE hw (s_X4_knot l D A cy hJ M_9 iM_9 t ht ((tT_fr f_10).trans hT)) ⟨ml_X4_167, ym_X4_knot, yv_X4_knot, yi_X4_knot, yc_X4_knot⟩ yd_X4_knot ob_1 (by decide) rfl rfl hl.1 (Nat.le_of_ble_eq_true rfl) ⟨by decide, by decide⟩ ⟨Nat.zero_le _, Nat.zero_le _⟩ dX4_readProduct_46 (fun M_24 H locs hp_24 hw => ?_)
          obtain ⟨iM_24, q_25, q_26, q_27⟩ := hp_24
          refine lv_aload_n hx hb dX4_readProduct_49 rfl (lv_at hl 2 rfl) ?_
          refine lv_iload_n hx hb dX4_readProduct_50 rfl (lv_at hl 3 rfl) ?_
          refine ti_callVvE (ci := 4) (av := [.int 3]) C hE hw (s_X4_readPart_3 l D A cy hJ M_24 iM_24 t ht ((tT_fr q_25).trans ((tT_fr f_10).trans hT)) lw hlw ((tT_fr q_25).trans ((tT_fr f_10).trans hL))) ⟨ml_X4_187, ym_X4_readPart, yv_X4_readPart, yi_X4_readPart, yc_X4_readPart⟩ yd_X4_readPart ob_1 (by decide) rfl rfl hl.1 (Nat.le_of_ble_eq_true rfl) ⟨by decide, by decide⟩ ⟨Nat.zero_le _, Nat.zero_le _⟩ dX4_readProduct_51 (fun M_29 H locs hp_29 hw => ?_)
          obtain ⟨iM_29, q_30, q_31, q_32⟩ := hp_29
          refine lv_aload_n hx hb dX4_readProduct_54 rfl (lv_at hl 2 rfl) ?_
          refine ti_get (ci := 4) (k := 2) (N := 6) (T := TX4) (v := .ref (A lw 0)) C hw iw_4 rfl ob_1 (by decide) (by decide) fl_X4_154 rfl (ti_Tv ((tT_fr q_30).trans ((tT_fr q_25).trans ((tT_fr f_10).trans hL)))) dX4_readProduct_55 ?_
          refine lv_iload_n hx hb dX4_readProduct_58 rfl (lv_at hl 0 rfl) ?_
          refine lv_ineg hx hb dX4_readProduct_59 ?_
          refine lv_topi (fun x_33 ex_33 => ?_)
          have tx_33 : x_33.toInt = -x_15.toInt := i_neg ex_33 rfl (by omega)
          refine ti_callVv (ci := 1) (av := [.int x_33]) C hw (s_X1_add l D A cy hJ M_29 iM_29 lw hlw x_33 (by first | omega | exact Or.inl (by decide) | exact Or.inr (by decide))) ⟨ml_X4_170, ym_X1_add, yv_X1_add, yi_X1_add, yc_X1_add⟩ yd_X1_add hlw (by decide) rfl rfl hl.1 (Nat.le_of_ble_eq_true rfl) ⟨by decide, by decide⟩ ⟨Nat.zero_le _, Nat.zero_le _⟩ dX4_readProduct_60 (fun M_35 H locs hp_35 hw => ?_)
          obtain ⟨iM_35, q_36, q_37⟩ := hp_35
          obtain ⟨x_38, ex_38⟩ : ∃ z : Int32, z = x_6 + 1 := ⟨_, rfl⟩
          have tx_38 : x_38.toInt = x_6.toInt + 1 := i_add ex_38 rfl (by decide) (by omega) (by omega)
          refine lv_iinc (v := x_38) (lv' := [(2, .int x_38), (3, .int x_15), (0, .ref (A 1 0)), (1, .int 3)]) hx hb dX4_readProduct_63 hl (k := 1) rfl (by rw [ex_38]; rfl) (by decide) rfl (fun ls hl => ?_)
          refine lv_goto (tgt := 7) hx hb dX4_readProduct_66 (by decide) ?_
          exact ih_13 x_38 M_35 _ _ _ (by omega) (by first | omega | decide) (by first | omega | decide) iM_35 ((q_36).trans ((q_30).trans ((q_25).trans f_10))) (f0.trans (f0_x q_37) (f0.trans q_31 (f0.trans q_26 f_11))) (((q_37 1).2.1).trans ((q_32).trans ((q_27).trans f_12))) hw (lv_sub hl [0, 2, 3] rfl)
        refine sb_icmp_eq (tgt := 37) hx hb rfl (by decide : (40 : Int32).toInt = 40) dX4_readProduct_22 (by decide) (fun c_22_15 => ?_) (fun c_22_15 => ?_)
        · have u_20 : (tI M_9 2 4).toInt = (x_15 : Int32).toInt := by rw [(ex_15.symm)]
          exact hj_37_19  _ _ _ (by first | omega | decide) hw (lv_sub hl [0, 1, 2] rfl)
        · refine lv_aload_n hx hb dX4_readProduct_25 rfl (lv_at hl 1 rfl) ?_
          refine ti_get (ci := 4) (k := 0) (N := 6) (T := TX4) (v := .ref (A 2 0)) C hw iw_4 rfl ob_1 (by decide) (by decide) fl_X4_12 rfl rfl dX4_readProduct_26 ?_
          refine ti_get (ci := 7) (k := 4) (N := 7) (T := TX7) C hw iw_7 rfl ob_2 (by decide) (by decide) fl_X4_41 rfl rfl dX4_readProduct_29 ?_
          refine ti_top (y := x_15) (ex_15.symm) ?_
          have u_17 : (tI M_9 2 4).toInt = (x_15 : Int32).toInt := by rw [(ex_15.symm)]
          refine lv_bipush (v := 41) hx hb dX4_readProduct_32 (by decide) ?_
          refine sb_icmp_ne (tgt := 69) hx hb rfl (by decide : (41 : Int32).toInt = 41) dX4_readProduct_34 (by decide) (fun c_34_17 => ?_) (fun c_34_17 => ?_)
          · exact hQ _ _ _ _ _ hw (⟨iM_9, (f_10), f_11, (f_12)⟩) dX4_readProduct_69
          · have u_21 : (tI M_9 2 4).toInt = (x_15 : Int32).toInt := by rw [(ex_15.symm)]
            exact hj_37_19  _ _ _ (by first | omega | decide) hw (lv_sub hl [0, 1, 2] rfl)
  exact hl_7_12 ((64 - 0 : Int).toNat + 1) 0 M_2 _ _ _ (Nat.lt_succ_self _) (by have lt0 : (0 : Int32).toInt = 0 := (by decide); first | omega | decide) (by have lt0 : (0 : Int32).toInt = 0 := (by decide); first | omega | decide) iM_2 (q_3) q_4 (q_5) hw (lv_sub hl [0, 1, 2] rfl)
set_option maxHeartbeats 4000000 in
set_option maxRecDepth 100000 in
theorem s_X4_readSum_3 (l : Launch) (D : va_G) (A : Nat → Nat → Nat) (cy : Nat → ClassId) (hJ : ti_inj ti_LT A) (M : ti_M) (hI : cI Tc M) (t : Nat) (ht : t = 3 ∨ t = 4) (hT : tT M 1 1 = some t) (lw : Nat) (hlw : ti_ob ti_LT lw 1) (hL : tT M 1 2 = some lw) : ti_KvE l yX4_readSum cX4_readSum 4 45 ti_LT D A cy M [.ref (A 1 0), .int 3] (fun M2 => cI Tc M2 ∧ M2.2.2.2 = M.2.2.2 ∧ f0 M2 M ∧ tI M2 2 1 = tI M 2 1) := by
  refine ti_eVE yp_X4_readSum hJ ti_LT_nd (Nat.le_of_ble_eq_true rfl) ?_
  intro p e s m args below meth c Q H0 C hE hQ hw ls hl
  have hx := C.1
  have hb := C.2.1
  have hl : lv_has ls 4 [(0, .ref (A 1 0)), (1, .int 3)] := hl
  refine lv_aload_n hx hb dX4_readSum_0 rfl (lv_at hl 0 rfl) ?_
  refine lv_iload_n hx hb dX4_readSum_1 rfl (lv_at hl 1 rfl) ?_
  refine ti_callVvE (ci := 4) (av := [.int 3]) C hE hw (s_X4_readProduct_3 l D A cy hJ M hI t ht (hT) lw hlw (hL)) ⟨ml_X4_184, ym_X4_readProduct, yv_X4_readProduct, yi_X4_readProduct, yc_X4_readProduct⟩ yd_X4_readProduct ob_1 (by decide) rfl rfl hl.1 (Nat.le_of_ble_eq_true rfl) ⟨by decide, by decide⟩ ⟨Nat.zero_le _, Nat.zero_le _⟩ dX4_readSum_2 (fun M_2 H locs hp_2 hw => ?_)
  obtain ⟨iM_2, q_3, q_4, q_5⟩ := hp_2
  refine lv_iconst (v := 0) hx hb dX4_readSum_5 (by decide) ?_
  refine lv_istore_n (lv' := [(2, .int 0), (0, .ref (A 1 0)), (1, .int 3)]) hx hb dX4_readSum_6 rfl hl (by decide) rfl (fun ls hl => ?_)
  have hl_7_12 : ∀ (n_13 : Nat) (x_6 : Int32) (M_9 : ti_M) (H : Heap) (locs : List Loc) (ls : Array Slot), (64 - x_6.toInt : Int).toNat < n_13 → (0 ≤ x_6.toInt) → (x_6.toInt ≤ 64) → (cI Tc M_9) → (M_9.2.2.2 = M.2.2.2) → (f0 M_9 M) → (tI M_9 2 1 = tI M 2 1) → ti_H ti_LT D A cy H0 M_9 H locs → lv_has ls 4 [(2, .int x_6), (0, .ref (A 1 0)), (1, .int 3)] → W p l e (ti_rm 45) s m args below meth c H locs 0 0 Q (F0 m 7 ls []) := by
    intro n_13
    induction n_13 with
    | zero => intro x_6 M_9 H locs ls hf_13; exact absurd hf_13 (Nat.not_lt_zero _)
    | succ n_13 ih_13 =>
      intro x_6 M_9 H locs ls hf_13 b_7 b_8 iM_9 f_10 f_11 f_12 hw hl
      refine lv_iload_n hx hb dX4_readSum_7 rfl (lv_at hl 0 rfl) ?_
      refine lv_bipush (v := 64) hx hb dX4_readSum_8 (by decide) ?_
      refine sb_icmp_ge (tgt := 69) hx hb rfl (by decide : (64 : Int32).toInt = 64) dX4_readSum_10 (by decide) (fun c_10_13 => ?_) (fun c_10_13 => ?_)
      · exact hQ _ _ _ _ _ hw (⟨iM_9, (f_10), f_11, (f_12)⟩) dX4_readSum_69
      · refine lv_aload_n hx hb dX4_readSum_13 rfl (lv_at hl 1 rfl) ?_
        refine ti_get (ci := 4) (k := 0) (N := 6) (T := TX4) (v := .ref (A 2 0)) C hw iw_4 rfl ob_1 (by decide) (by decide) fl_X4_12 rfl rfl dX4_readSum_14 ?_
        refine ti_get (ci := 7) (k := 4) (N := 7) (T := TX7) C hw iw_7 rfl ob_2 (by decide) (by decide) fl_X4_41 rfl rfl dX4_readSum_17 ?_
        refine lv_topi (fun x_15 ex_15 => ?_)
        have bx_15 : 0 ≤ x_15.toInt ∧ x_15.toInt ≤ 41 := cI_rd iM_9 ob_2.1 ex_15
        have ux_15 : (tI M_9 2 4).toInt = x_15.toInt := by rw [ex_15]
        refine lv_bipush (v := 38) hx hb dX4_readSum_20 (by decide) ?_
        have hj_37_19 : ∀  (H : Heap) (locs : List Loc) (ls : Array Slot), (16 ≤ (tI M_9 2 4).toInt) → ti_H ti_LT D A cy H0 M_9 H locs → lv_has ls 4 [(2, .int x_6), (0, .ref (A 1 0)), (1, .int 3)] → W p l e (ti_rm 45) s m args below meth c H locs 0 0 Q (F0 m 37 ls []) := by
          intro  H locs ls j_19 hw hl
          refine lv_aload_n hx hb dX4_readSum_37 rfl (lv_at hl 1 rfl) ?_
          refine ti_get (ci := 4) (k := 0) (N := 6) (T := TX4) (v := .ref (A 2 0)) C hw iw_4 rfl ob_1 (by decide) (by decide) fl_X4_12 rfl rfl dX4_readSum_38 ?_
          refine ti_get (ci := 7) (k := 4) (N := 7) (T := TX7) C hw iw_7 rfl ob_2 (by decide) (by decide) fl_X4_41 rfl rfl dX4_readSum_41 ?_
          refine ti_top (y := x_15) (ex_15.symm) ?_
          have u_22 : (tI M_9 2 4).toInt = (x_15 : Int32).toInt := by rw [(ex_15.symm)]
          refine lv_istore_n (lv' := [(3, .int x_15), (2, .int x_6), (0, .ref (A 1 0)), (1, .int 3)]) hx hb dX4_readSum_44 rfl hl (by decide) rfl (fun ls hl => ?_)
          refine lv_aload_n hx hb dX4_readSum_45 rfl (lv_at hl 2 rfl) ?_
          refine ti_callVvE (ci := 4) (av := []) C hE hw (s_X4_knot l D A cy hJ M_9 iM_9 t ht ((tT_fr f_10).trans hT)) ⟨ml_X4_167, ym_X4_knot, yv_X4_knot, yi_X4_knot, yc_X4_knot⟩ yd_X4_knot ob_1 (by decide) rfl rfl hl.1 (Nat.le_of_ble_eq_true rfl) ⟨by decide, by decide⟩ ⟨Nat.zero_le _, Nat.zero_le _⟩ dX4_readSum_46 (fun M_24 H locs hp_24 hw => ?_)
          obtain ⟨iM_24, q_25, q_26, q_27⟩ := hp_24
          refine lv_aload_n hx hb dX4_readSum_49 rfl (lv_at hl 2 rfl) ?_
          refine lv_iload_n hx hb dX4_readSum_50 rfl (lv_at hl 3 rfl) ?_
          refine ti_callVvE (ci := 4) (av := [.int 3]) C hE hw (s_X4_readProduct_3 l D A cy hJ M_24 iM_24 t ht ((tT_fr q_25).trans ((tT_fr f_10).trans hT)) lw hlw ((tT_fr q_25).trans ((tT_fr f_10).trans hL))) ⟨ml_X4_184, ym_X4_readProduct, yv_X4_readProduct, yi_X4_readProduct, yc_X4_readProduct⟩ yd_X4_readProduct ob_1 (by decide) rfl rfl hl.1 (Nat.le_of_ble_eq_true rfl) ⟨by decide, by decide⟩ ⟨Nat.zero_le _, Nat.zero_le _⟩ dX4_readSum_51 (fun M_29 H locs hp_29 hw => ?_)
          obtain ⟨iM_29, q_30, q_31, q_32⟩ := hp_29
          refine lv_aload_n hx hb dX4_readSum_54 rfl (lv_at hl 2 rfl) ?_
          refine ti_get (ci := 4) (k := 2) (N := 6) (T := TX4) (v := .ref (A lw 0)) C hw iw_4 rfl ob_1 (by decide) (by decide) fl_X4_154 rfl (ti_Tv ((tT_fr q_30).trans ((tT_fr q_25).trans ((tT_fr f_10).trans hL)))) dX4_readSum_55 ?_
          refine lv_iload_n hx hb dX4_readSum_58 rfl (lv_at hl 0 rfl) ?_
          refine lv_ineg hx hb dX4_readSum_59 ?_
          refine lv_topi (fun x_33 ex_33 => ?_)
          have tx_33 : x_33.toInt = -x_15.toInt := i_neg ex_33 rfl (by omega)
          refine ti_callVv (ci := 1) (av := [.int x_33]) C hw (s_X1_add l D A cy hJ M_29 iM_29 lw hlw x_33 (by first | omega | exact Or.inl (by decide) | exact Or.inr (by decide))) ⟨ml_X4_170, ym_X1_add, yv_X1_add, yi_X1_add, yc_X1_add⟩ yd_X1_add hlw (by decide) rfl rfl hl.1 (Nat.le_of_ble_eq_true rfl) ⟨by decide, by decide⟩ ⟨Nat.zero_le _, Nat.zero_le _⟩ dX4_readSum_60 (fun M_35 H locs hp_35 hw => ?_)
          obtain ⟨iM_35, q_36, q_37⟩ := hp_35
          obtain ⟨x_38, ex_38⟩ : ∃ z : Int32, z = x_6 + 1 := ⟨_, rfl⟩
          have tx_38 : x_38.toInt = x_6.toInt + 1 := i_add ex_38 rfl (by decide) (by omega) (by omega)
          refine lv_iinc (v := x_38) (lv' := [(2, .int x_38), (3, .int x_15), (0, .ref (A 1 0)), (1, .int 3)]) hx hb dX4_readSum_63 hl (k := 1) rfl (by rw [ex_38]; rfl) (by decide) rfl (fun ls hl => ?_)
          refine lv_goto (tgt := 7) hx hb dX4_readSum_66 (by decide) ?_
          exact ih_13 x_38 M_35 _ _ _ (by omega) (by first | omega | decide) (by first | omega | decide) iM_35 ((q_36).trans ((q_30).trans ((q_25).trans f_10))) (f0.trans (f0_x q_37) (f0.trans q_31 (f0.trans q_26 f_11))) (((q_37 1).2.1).trans ((q_32).trans ((q_27).trans f_12))) hw (lv_sub hl [0, 2, 3] rfl)
        refine sb_icmp_eq (tgt := 37) hx hb rfl (by decide : (38 : Int32).toInt = 38) dX4_readSum_22 (by decide) (fun c_22_15 => ?_) (fun c_22_15 => ?_)
        · have u_20 : (tI M_9 2 4).toInt = (x_15 : Int32).toInt := by rw [(ex_15.symm)]
          exact hj_37_19  _ _ _ (by first | omega | decide) hw (lv_sub hl [0, 1, 2] rfl)
        · refine lv_aload_n hx hb dX4_readSum_25 rfl (lv_at hl 1 rfl) ?_
          refine ti_get (ci := 4) (k := 0) (N := 6) (T := TX4) (v := .ref (A 2 0)) C hw iw_4 rfl ob_1 (by decide) (by decide) fl_X4_12 rfl rfl dX4_readSum_26 ?_
          refine ti_get (ci := 7) (k := 4) (N := 7) (T := TX7) C hw iw_7 rfl ob_2 (by decide) (by decide) fl_X4_41 rfl rfl dX4_readSum_29 ?_
          refine ti_top (y := x_15) (ex_15.symm) ?_
          have u_17 : (tI M_9 2 4).toInt = (x_15 : Int32).toInt := by rw [(ex_15.symm)]
          refine lv_bipush (v := 39) hx hb dX4_readSum_32 (by decide) ?_
          refine sb_icmp_ne (tgt := 69) hx hb rfl (by decide : (39 : Int32).toInt = 39) dX4_readSum_34 (by decide) (fun c_34_17 => ?_) (fun c_34_17 => ?_)
          · exact hQ _ _ _ _ _ hw (⟨iM_9, (f_10), f_11, (f_12)⟩) dX4_readSum_69
          · have u_21 : (tI M_9 2 4).toInt = (x_15 : Int32).toInt := by rw [(ex_15.symm)]
            exact hj_37_19  _ _ _ (by first | omega | decide) hw (lv_sub hl [0, 1, 2] rfl)
  exact hl_7_12 ((64 - 0 : Int).toNat + 1) 0 M_2 _ _ _ (Nat.lt_succ_self _) (by have lt0 : (0 : Int32).toInt = 0 := (by decide); first | omega | decide) (by have lt0 : (0 : Int32).toInt = 0 := (by decide); first | omega | decide) iM_2 (q_3) q_4 (q_5) hw (lv_sub hl [0, 1, 2] rfl)
set_option maxHeartbeats 4000000 in
set_option maxRecDepth 100000 in
theorem s_X4_readComparison_3 (l : Launch) (D : va_G) (A : Nat → Nat → Nat) (cy : Nat → ClassId) (hJ : ti_inj ti_LT A) (M : ti_M) (hI : cI Tc M) (t : Nat) (ht : t = 3 ∨ t = 4) (hT : tT M 1 1 = some t) (lw : Nat) (hlw : ti_ob ti_LT lw 1) (hL : tT M 1 2 = some lw) : ti_KvE l yX4_readComparison cX4_readComparison 3 46 ti_LT D A cy M [.ref (A 1 0), .int 3] (fun M2 => cI Tc M2 ∧ M2.2.2.2 = M.2.2.2 ∧ f0 M2 M ∧ tI M2 2 1 = tI M 2 1) := by
  refine ti_eVE yp_X4_readComparison hJ ti_LT_nd (Nat.le_of_ble_eq_true rfl) ?_
  intro p e s m args below meth c Q H0 C hE hQ hw ls hl
  have hx := C.1
  have hb := C.2.1
  have hl : lv_has ls 3 [(0, .ref (A 1 0)), (1, .int 3)] := hl
  refine lv_aload_n hx hb dX4_readComparison_0 rfl (lv_at hl 0 rfl) ?_
  refine lv_iload_n hx hb dX4_readComparison_1 rfl (lv_at hl 1 rfl) ?_
  refine ti_callVvE (ci := 4) (av := [.int 3]) C hE hw (s_X4_readSum_3 l D A cy hJ M hI t ht (hT) lw hlw (hL)) ⟨ml_X4_181, ym_X4_readSum, yv_X4_readSum, yi_X4_readSum, yc_X4_readSum⟩ yd_X4_readSum ob_1 (by decide) rfl rfl hl.1 (Nat.le_of_ble_eq_true rfl) ⟨by decide, by decide⟩ ⟨Nat.zero_le _, Nat.zero_le _⟩ dX4_readComparison_2 (fun M_2 H locs hp_2 hw => ?_)
  obtain ⟨iM_2, q_3, q_4, q_5⟩ := hp_2
  refine lv_aload_n hx hb dX4_readComparison_5 rfl (lv_at hl 0 rfl) ?_
  refine ti_get (ci := 4) (k := 0) (N := 6) (T := TX4) (v := .ref (A 2 0)) C hw iw_4 rfl ob_1 (by decide) (by decide) fl_X4_12 rfl rfl dX4_readComparison_6 ?_
  refine ti_get (ci := 7) (k := 4) (N := 7) (T := TX7) C hw iw_7 rfl ob_2 (by decide) (by decide) fl_X4_41 rfl rfl dX4_readComparison_9 ?_
  refine lv_topi (fun x_6 ex_6 => ?_)
  have bx_6 : 0 ≤ x_6.toInt ∧ x_6.toInt ≤ 41 := cI_rd iM_2 ob_2.1 ex_6
  have ux_6 : (tI M_2 2 4).toInt = x_6.toInt := by rw [ex_6]
  refine lv_istore_n (lv' := [(2, .int x_6), (0, .ref (A 1 0)), (1, .int 3)]) hx hb dX4_readComparison_12 rfl hl (by decide) rfl (fun ls hl => ?_)
  refine lv_iload_n hx hb dX4_readComparison_13 rfl (lv_at hl 0 rfl) ?_
  refine lv_bipush (v := 32) hx hb dX4_readComparison_14 (by decide) ?_
  refine sb_icmp_lt (tgt := 43) hx hb rfl (by decide : (32 : Int32).toInt = 32) dX4_readComparison_16 (by decide) (fun c_16_6 => ?_) (fun c_16_6 => ?_)
  · exact hQ _ _ _ _ _ hw (⟨iM_2, (q_3), q_4, (q_5)⟩) dX4_readComparison_43
  · refine lv_iload_n hx hb dX4_readComparison_19 rfl (lv_at hl 0 rfl) ?_
    refine lv_bipush (v := 37) hx hb dX4_readComparison_20 (by decide) ?_
    refine sb_icmp_gt (tgt := 43) hx hb rfl (by decide : (37 : Int32).toInt = 37) dX4_readComparison_22 (by decide) (fun c_22_7 => ?_) (fun c_22_7 => ?_)
    · exact hQ _ _ _ _ _ hw (⟨iM_2, (q_3), q_4, (q_5)⟩) dX4_readComparison_43
    · refine lv_aload_n hx hb dX4_readComparison_25 rfl (lv_at hl 1 rfl) ?_
      refine ti_callVvE (ci := 4) (av := []) C hE hw (s_X4_knot l D A cy hJ M_2 iM_2 t ht ((tT_fr q_3).trans hT)) ⟨ml_X4_167, ym_X4_knot, yv_X4_knot, yi_X4_knot, yc_X4_knot⟩ yd_X4_knot ob_1 (by decide) rfl rfl hl.1 (Nat.le_of_ble_eq_true rfl) ⟨by decide, by decide⟩ ⟨Nat.zero_le _, Nat.zero_le _⟩ dX4_readComparison_26 (fun M_10 H locs hp_10 hw => ?_)
      obtain ⟨iM_10, q_11, q_12, q_13⟩ := hp_10
      refine lv_aload_n hx hb dX4_readComparison_29 rfl (lv_at hl 1 rfl) ?_
      refine lv_iload_n hx hb dX4_readComparison_30 rfl (lv_at hl 2 rfl) ?_
      refine ti_callVvE (ci := 4) (av := [.int 3]) C hE hw (s_X4_readSum_3 l D A cy hJ M_10 iM_10 t ht ((tT_fr q_11).trans ((tT_fr q_3).trans hT)) lw hlw ((tT_fr q_11).trans ((tT_fr q_3).trans hL))) ⟨ml_X4_181, ym_X4_readSum, yv_X4_readSum, yi_X4_readSum, yc_X4_readSum⟩ yd_X4_readSum ob_1 (by decide) rfl rfl hl.1 (Nat.le_of_ble_eq_true rfl) ⟨by decide, by decide⟩ ⟨Nat.zero_le _, Nat.zero_le _⟩ dX4_readComparison_31 (fun M_15 H locs hp_15 hw => ?_)
      obtain ⟨iM_15, q_16, q_17, q_18⟩ := hp_15
      refine lv_aload_n hx hb dX4_readComparison_34 rfl (lv_at hl 1 rfl) ?_
      refine ti_get (ci := 4) (k := 2) (N := 6) (T := TX4) (v := .ref (A lw 0)) C hw iw_4 rfl ob_1 (by decide) (by decide) fl_X4_154 rfl (ti_Tv ((tT_fr q_16).trans ((tT_fr q_11).trans ((tT_fr q_3).trans hL)))) dX4_readComparison_35 ?_
      refine lv_iload_n hx hb dX4_readComparison_38 rfl (lv_at hl 0 rfl) ?_
      refine lv_ineg hx hb dX4_readComparison_39 ?_
      refine lv_topi (fun x_19 ex_19 => ?_)
      have tx_19 : x_19.toInt = -x_6.toInt := i_neg ex_19 rfl (by omega)
      refine ti_callVv (ci := 1) (av := [.int x_19]) C hw (s_X1_add l D A cy hJ M_15 iM_15 lw hlw x_19 (by first | omega | exact Or.inl (by decide) | exact Or.inr (by decide))) ⟨ml_X4_170, ym_X1_add, yv_X1_add, yi_X1_add, yc_X1_add⟩ yd_X1_add hlw (by decide) rfl rfl hl.1 (Nat.le_of_ble_eq_true rfl) ⟨by decide, by decide⟩ ⟨Nat.zero_le _, Nat.zero_le _⟩ dX4_readComparison_40 (fun M_21 H locs hp_21 hw => ?_)
      obtain ⟨iM_21, q_22, q_23⟩ := hp_21
      exact hQ _ _ _ _ _ hw (⟨iM_21, ((q_22).trans ((q_16).trans ((q_11).trans q_3))), (f0.trans (f0_x q_23) (f0.trans q_17 (f0.trans q_12 q_4))), (((q_23 1).2.1).trans ((q_18).trans ((q_13).trans q_5)))⟩) dX4_readComparison_43
set_option maxHeartbeats 4000000 in
set_option maxRecDepth 100000 in
theorem s_X4_readNegated_3 (l : Launch) (D : va_G) (A : Nat → Nat → Nat) (cy : Nat → ClassId) (hJ : ti_inj ti_LT A) (M : ti_M) (hI : cI Tc M) (t : Nat) (ht : t = 3 ∨ t = 4) (hT : tT M 1 1 = some t) (lw : Nat) (hlw : ti_ob ti_LT lw 1) (hL : tT M 1 2 = some lw) : ti_KvE l yX4_readNegated cX4_readNegated 4 47 ti_LT D A cy M [.ref (A 1 0), .int 3] (fun M2 => cI Tc M2 ∧ M2.2.2.2 = M.2.2.2 ∧ f0 M2 M ∧ tI M2 2 1 = tI M 2 1) := by
  refine ti_eVE yp_X4_readNegated hJ ti_LT_nd (Nat.le_of_ble_eq_true rfl) ?_
  intro p e s m args below meth c Q H0 C hE hQ hw ls hl
  have hx := C.1
  have hb := C.2.1
  have hl : lv_has ls 4 [(0, .ref (A 1 0)), (1, .int 3)] := hl
  refine lv_iconst (v := 0) hx hb dX4_readNegated_0 (by decide) ?_
  refine lv_istore_n (lv' := [(2, .int 0), (0, .ref (A 1 0)), (1, .int 3)]) hx hb dX4_readNegated_1 rfl hl (by decide) rfl (fun ls hl => ?_)
  have hl_2_7 : ∀ (n_8 : Nat) (x_1 : Int32) (M_4 : ti_M) (H : Heap) (locs : List Loc) (ls : Array Slot), (65 - x_1.toInt : Int).toNat < n_8 → (0 ≤ x_1.toInt) → (x_1.toInt ≤ 65) → (cI Tc M_4) → (M_4.2.2.2 = M.2.2.2) → (f0 M_4 M) → (tI M_4 2 1 = tI M 2 1) → ti_H ti_LT D A cy H0 M_4 H locs → lv_has ls 4 [(2, .int x_1), (0, .ref (A 1 0)), (1, .int 3)] → W p l e (ti_rm 47) s m args below meth c H locs 0 0 Q (F0 m 2 ls []) := by
    intro n_8
    induction n_8 with
    | zero => intro x_1 M_4 H locs ls hf_8; exact absurd hf_8 (Nat.not_lt_zero _)
    | succ n_8 ih_8 =>
      intro x_1 M_4 H locs ls hf_8 b_2 b_3 iM_4 f_5 f_6 f_7 hw hl
      refine lv_iload_n hx hb dX4_readNegated_2 rfl (lv_at hl 0 rfl) ?_
      refine lv_bipush (v := 64) hx hb dX4_readNegated_3 (by decide) ?_
      have hj_30_17 : ∀  (H : Heap) (locs : List Loc) (ls : Array Slot), ti_H ti_LT D A cy H0 M_4 H locs → lv_has ls 4 [(2, .int x_1), (0, .ref (A 1 0)), (1, .int 3)] → W p l e (ti_rm 47) s m args below meth c H locs 0 0 Q (F0 m 30 ls []) := by
        intro  H locs ls  hw hl
        refine lv_aload_n hx hb dX4_readNegated_30 rfl (lv_at hl 1 rfl) ?_
        refine lv_iload_n hx hb dX4_readNegated_31 rfl (lv_at hl 2 rfl) ?_
        refine ti_callVvE (ci := 4) (av := [.int 3]) C hE hw (s_X4_readComparison_3 l D A cy hJ M_4 iM_4 t ht ((tT_fr f_5).trans hT) lw hlw ((tT_fr f_5).trans hL)) ⟨ml_X4_178, ym_X4_readComparison, yv_X4_readComparison, yi_X4_readComparison, yc_X4_readComparison⟩ yd_X4_readComparison ob_1 (by decide) rfl rfl hl.1 (Nat.le_of_ble_eq_true rfl) ⟨by decide, by decide⟩ ⟨Nat.zero_le _, Nat.zero_le _⟩ dX4_readNegated_32 (fun M_19 H locs hp_19 hw => ?_)
        obtain ⟨iM_19, q_20, q_21, q_22⟩ := hp_19
        refine lv_iconst (v := 0) hx hb dX4_readNegated_35 (by decide) ?_
        refine lv_istore_n (lv' := [(3, .int 0), (2, .int x_1), (0, .ref (A 1 0)), (1, .int 3)]) hx hb dX4_readNegated_36 rfl hl (by decide) rfl (fun ls hl => ?_)
        have hl_37_29 : ∀ (n_30 : Nat) (x_23 : Int32) (M_26 : ti_M) (H : Heap) (locs : List Loc) (ls : Array Slot), (65 - x_23.toInt : Int).toNat < n_30 → (0 ≤ x_23.toInt) → (x_23.toInt ≤ 65) → (cI Tc M_26) → (M_26.2.2.2 = M.2.2.2) → (f0 M_26 M) → (tI M_26 2 1 = tI M 2 1) → ti_H ti_LT D A cy H0 M_26 H locs → lv_has ls 4 [(3, .int x_23), (2, .int x_1), (0, .ref (A 1 0)), (1, .int 3)] → W p l e (ti_rm 47) s m args below meth c H locs 0 0 Q (F0 m 37 ls []) := by
          intro n_30
          induction n_30 with
          | zero => intro x_23 M_26 H locs ls hf_30; exact absurd hf_30 (Nat.not_lt_zero _)
          | succ n_30 ih_30 =>
            intro x_23 M_26 H locs ls hf_30 b_24 b_25 iM_26 f_27 f_28 f_29 hw hl
            refine lv_iload_n hx hb dX4_readNegated_37 rfl (lv_at hl 0 rfl) ?_
            refine lv_iload_n hx hb dX4_readNegated_38 rfl (lv_at hl 1 rfl) ?_
            refine sb_icmp_ge (tgt := 57) hx hb rfl rfl dX4_readNegated_39 (by decide) (fun c_39_30 => ?_) (fun c_39_30 => ?_)
            · exact hQ _ _ _ _ _ hw (⟨iM_26, (f_27), f_28, (f_29)⟩) dX4_readNegated_57
            · refine lv_aload_n hx hb dX4_readNegated_42 rfl (lv_at hl 2 rfl) ?_
              refine ti_get (ci := 4) (k := 2) (N := 6) (T := TX4) (v := .ref (A lw 0)) C hw iw_4 rfl ob_1 (by decide) (by decide) fl_X4_154 rfl (ti_Tv ((tT_fr f_27).trans hL)) dX4_readNegated_43 ?_
              refine lv_bipush (v := (-24)) hx hb dX4_readNegated_46 (by decide) ?_
              refine ti_callVv (ci := 1) (av := [.int (-24)]) C hw (s_X1_add l D A cy hJ M_26 iM_26 lw hlw (-24) (by first | omega | exact Or.inl (by decide) | exact Or.inr (by decide))) ⟨ml_X4_170, ym_X1_add, yv_X1_add, yi_X1_add, yc_X1_add⟩ yd_X1_add hlw (by decide) rfl rfl hl.1 (Nat.le_of_ble_eq_true rfl) ⟨by decide, by decide⟩ ⟨Nat.zero_le _, Nat.zero_le _⟩ dX4_readNegated_48 (fun M_33 H locs hp_33 hw => ?_)
              obtain ⟨iM_33, q_34, q_35⟩ := hp_33
              obtain ⟨x_36, ex_36⟩ : ∃ z : Int32, z = x_23 + 1 := ⟨_, rfl⟩
              have tx_36 : x_36.toInt = x_23.toInt + 1 := i_add ex_36 rfl (by decide) (by omega) (by omega)
              refine lv_iinc (v := x_36) (lv' := [(3, .int x_36), (2, .int x_1), (0, .ref (A 1 0)), (1, .int 3)]) hx hb dX4_readNegated_51 hl (k := 0) rfl (by rw [ex_36]; rfl) (by decide) rfl (fun ls hl => ?_)
              refine lv_goto (tgt := 37) hx hb dX4_readNegated_54 (by decide) ?_
              exact ih_30 x_36 M_33 _ _ _ (by omega) (by first | omega | decide) (by first | omega | decide) iM_33 ((q_34).trans f_27) (f0.trans (f0_x q_35) f_28) (((q_35 1).2.1).trans f_29) hw (lv_sub hl [0, 1, 2, 3] rfl)
        exact hl_37_29 ((65 - 0 : Int).toNat + 1) 0 M_19 _ _ _ (Nat.lt_succ_self _) (by have lt0 : (0 : Int32).toInt = 0 := (by decide); first | omega | decide) (by have lt0 : (0 : Int32).toInt = 0 := (by decide); first | omega | decide) iM_19 ((q_20).trans f_5) (f0.trans q_21 f_6) ((q_22).trans f_7) hw (lv_sub hl [0, 1, 2, 3] rfl)
      refine sb_icmp_gt (tgt := 30) hx hb rfl (by decide : (64 : Int32).toInt = 64) dX4_readNegated_5 (by decide) (fun c_5_8 => ?_) (fun c_5_8 => ?_)
      · exact hj_30_17  _ _ _  hw (lv_sub hl [0, 1, 2] rfl)
      · refine lv_aload_n hx hb dX4_readNegated_8 rfl (lv_at hl 1 rfl) ?_
        refine ti_get (ci := 4) (k := 0) (N := 6) (T := TX4) (v := .ref (A 2 0)) C hw iw_4 rfl ob_1 (by decide) (by decide) fl_X4_12 rfl rfl dX4_readNegated_9 ?_
        refine ti_get (ci := 7) (k := 4) (N := 7) (T := TX7) C hw iw_7 rfl ob_2 (by decide) (by decide) fl_X4_41 rfl rfl dX4_readNegated_12 ?_
        refine lv_topi (fun x_10 ex_10 => ?_)
        have bx_10 : 0 ≤ x_10.toInt ∧ x_10.toInt ≤ 41 := cI_rd iM_4 ob_2.1 ex_10
        have ux_10 : (tI M_4 2 4).toInt = x_10.toInt := by rw [ex_10]
        refine lv_bipush (v := 24) hx hb dX4_readNegated_15 (by decide) ?_
        refine sb_icmp_ne (tgt := 30) hx hb rfl (by decide : (24 : Int32).toInt = 24) dX4_readNegated_17 (by decide) (fun c_17_10 => ?_) (fun c_17_10 => ?_)
        · exact hj_30_17  _ _ _  hw (lv_sub hl [0, 1, 2] rfl)
        · refine lv_aload_n hx hb dX4_readNegated_20 rfl (lv_at hl 1 rfl) ?_
          refine ti_callVvE (ci := 4) (av := []) C hE hw (s_X4_knot l D A cy hJ M_4 iM_4 t ht ((tT_fr f_5).trans hT)) ⟨ml_X4_167, ym_X4_knot, yv_X4_knot, yi_X4_knot, yc_X4_knot⟩ yd_X4_knot ob_1 (by decide) rfl rfl hl.1 (Nat.le_of_ble_eq_true rfl) ⟨by decide, by decide⟩ ⟨Nat.zero_le _, Nat.zero_le _⟩ dX4_readNegated_21 (fun M_13 H locs hp_13 hw => ?_)
          obtain ⟨iM_13, q_14, q_15, q_16⟩ := hp_13
          obtain ⟨x_17, ex_17⟩ : ∃ z : Int32, z = x_1 + 1 := ⟨_, rfl⟩
          have tx_17 : x_17.toInt = x_1.toInt + 1 := i_add ex_17 rfl (by decide) (by omega) (by omega)
          refine lv_iinc (v := x_17) (lv' := [(2, .int x_17), (0, .ref (A 1 0)), (1, .int 3)]) hx hb dX4_readNegated_24 hl (k := 0) rfl (by rw [ex_17]; rfl) (by decide) rfl (fun ls hl => ?_)
          refine lv_goto (tgt := 2) hx hb dX4_readNegated_27 (by decide) ?_
          exact ih_8 x_17 M_13 _ _ _ (by omega) (by first | omega | decide) (by first | omega | decide) iM_13 ((q_14).trans f_5) (f0.trans q_15 f_6) ((q_16).trans f_7) hw (lv_sub hl [0, 1, 2] rfl)
  exact hl_2_7 ((65 - 0 : Int).toNat + 1) 0 M _ _ _ (Nat.lt_succ_self _) (by have lt0 : (0 : Int32).toInt = 0 := (by decide); first | omega | decide) (by have lt0 : (0 : Int32).toInt = 0 := (by decide); first | omega | decide) hI rfl f0.refl rfl hw (lv_sub hl [0, 1, 2] rfl)
set_option maxHeartbeats 4000000 in
set_option maxRecDepth 100000 in
theorem s_X4_readBoth_3 (l : Launch) (D : va_G) (A : Nat → Nat → Nat) (cy : Nat → ClassId) (hJ : ti_inj ti_LT A) (M : ti_M) (hI : cI Tc M) (t : Nat) (ht : t = 3 ∨ t = 4) (hT : tT M 1 1 = some t) (lw : Nat) (hlw : ti_ob ti_LT lw 1) (hL : tT M 1 2 = some lw) : ti_KvE l yX4_readBoth cX4_readBoth 3 48 ti_LT D A cy M [.ref (A 1 0), .int 3] (fun M2 => cI Tc M2 ∧ M2.2.2.2 = M.2.2.2 ∧ f0 M2 M ∧ tI M2 2 1 = tI M 2 1) := by
  refine ti_eVE yp_X4_readBoth hJ ti_LT_nd (Nat.le_of_ble_eq_true rfl) ?_
  intro p e s m args below meth c Q H0 C hE hQ hw ls hl
  have hx := C.1
  have hb := C.2.1
  have hl : lv_has ls 3 [(0, .ref (A 1 0)), (1, .int 3)] := hl
  refine lv_aload_n hx hb dX4_readBoth_0 rfl (lv_at hl 0 rfl) ?_
  refine lv_iload_n hx hb dX4_readBoth_1 rfl (lv_at hl 1 rfl) ?_
  refine ti_callVvE (ci := 4) (av := [.int 3]) C hE hw (s_X4_readNegated_3 l D A cy hJ M hI t ht (hT) lw hlw (hL)) ⟨ml_X4_175, ym_X4_readNegated, yv_X4_readNegated, yi_X4_readNegated, yc_X4_readNegated⟩ yd_X4_readNegated ob_1 (by decide) rfl rfl hl.1 (Nat.le_of_ble_eq_true rfl) ⟨by decide, by decide⟩ ⟨Nat.zero_le _, Nat.zero_le _⟩ dX4_readBoth_2 (fun M_2 H locs hp_2 hw => ?_)
  obtain ⟨iM_2, q_3, q_4, q_5⟩ := hp_2
  refine lv_iconst (v := 0) hx hb dX4_readBoth_5 (by decide) ?_
  refine lv_istore_n (lv' := [(2, .int 0), (0, .ref (A 1 0)), (1, .int 3)]) hx hb dX4_readBoth_6 rfl hl (by decide) rfl (fun ls hl => ?_)
  have hl_7_12 : ∀ (n_13 : Nat) (x_6 : Int32) (M_9 : ti_M) (H : Heap) (locs : List Loc) (ls : Array Slot), (64 - x_6.toInt : Int).toNat < n_13 → (0 ≤ x_6.toInt) → (x_6.toInt ≤ 64) → (cI Tc M_9) → (M_9.2.2.2 = M.2.2.2) → (f0 M_9 M) → (tI M_9 2 1 = tI M 2 1) → ti_H ti_LT D A cy H0 M_9 H locs → lv_has ls 3 [(2, .int x_6), (0, .ref (A 1 0)), (1, .int 3)] → W p l e (ti_rm 48) s m args below meth c H locs 0 0 Q (F0 m 7 ls []) := by
    intro n_13
    induction n_13 with
    | zero => intro x_6 M_9 H locs ls hf_13; exact absurd hf_13 (Nat.not_lt_zero _)
    | succ n_13 ih_13 =>
      intro x_6 M_9 H locs ls hf_13 b_7 b_8 iM_9 f_10 f_11 f_12 hw hl
      refine lv_iload_n hx hb dX4_readBoth_7 rfl (lv_at hl 0 rfl) ?_
      refine lv_bipush (v := 64) hx hb dX4_readBoth_8 (by decide) ?_
      refine sb_icmp_ge (tgt := 49) hx hb rfl (by decide : (64 : Int32).toInt = 64) dX4_readBoth_10 (by decide) (fun c_10_13 => ?_) (fun c_10_13 => ?_)
      · exact hQ _ _ _ _ _ hw (⟨iM_9, (f_10), f_11, (f_12)⟩) dX4_readBoth_49
      · refine lv_aload_n hx hb dX4_readBoth_13 rfl (lv_at hl 1 rfl) ?_
        refine ti_get (ci := 4) (k := 0) (N := 6) (T := TX4) (v := .ref (A 2 0)) C hw iw_4 rfl ob_1 (by decide) (by decide) fl_X4_12 rfl rfl dX4_readBoth_14 ?_
        refine ti_get (ci := 7) (k := 4) (N := 7) (T := TX7) C hw iw_7 rfl ob_2 (by decide) (by decide) fl_X4_41 rfl rfl dX4_readBoth_17 ?_
        refine lv_topi (fun x_15 ex_15 => ?_)
        have bx_15 : 0 ≤ x_15.toInt ∧ x_15.toInt ≤ 41 := cI_rd iM_9 ob_2.1 ex_15
        have ux_15 : (tI M_9 2 4).toInt = x_15.toInt := by rw [ex_15]
        refine lv_bipush (v := 22) hx hb dX4_readBoth_20 (by decide) ?_
        refine sb_icmp_ne (tgt := 49) hx hb rfl (by decide : (22 : Int32).toInt = 22) dX4_readBoth_22 (by decide) (fun c_22_15 => ?_) (fun c_22_15 => ?_)
        · exact hQ _ _ _ _ _ hw (⟨iM_9, (f_10), f_11, (f_12)⟩) dX4_readBoth_49
        · refine lv_aload_n hx hb dX4_readBoth_25 rfl (lv_at hl 1 rfl) ?_
          refine ti_callVvE (ci := 4) (av := []) C hE hw (s_X4_knot l D A cy hJ M_9 iM_9 t ht ((tT_fr f_10).trans hT)) ⟨ml_X4_167, ym_X4_knot, yv_X4_knot, yi_X4_knot, yc_X4_knot⟩ yd_X4_knot ob_1 (by decide) rfl rfl hl.1 (Nat.le_of_ble_eq_true rfl) ⟨by decide, by decide⟩ ⟨Nat.zero_le _, Nat.zero_le _⟩ dX4_readBoth_26 (fun M_18 H locs hp_18 hw => ?_)
          obtain ⟨iM_18, q_19, q_20, q_21⟩ := hp_18
          refine lv_aload_n hx hb dX4_readBoth_29 rfl (lv_at hl 1 rfl) ?_
          refine lv_iload_n hx hb dX4_readBoth_30 rfl (lv_at hl 2 rfl) ?_
          refine ti_callVvE (ci := 4) (av := [.int 3]) C hE hw (s_X4_readNegated_3 l D A cy hJ M_18 iM_18 t ht ((tT_fr q_19).trans ((tT_fr f_10).trans hT)) lw hlw ((tT_fr q_19).trans ((tT_fr f_10).trans hL))) ⟨ml_X4_175, ym_X4_readNegated, yv_X4_readNegated, yi_X4_readNegated, yc_X4_readNegated⟩ yd_X4_readNegated ob_1 (by decide) rfl rfl hl.1 (Nat.le_of_ble_eq_true rfl) ⟨by decide, by decide⟩ ⟨Nat.zero_le _, Nat.zero_le _⟩ dX4_readBoth_31 (fun M_23 H locs hp_23 hw => ?_)
          obtain ⟨iM_23, q_24, q_25, q_26⟩ := hp_23
          refine lv_aload_n hx hb dX4_readBoth_34 rfl (lv_at hl 1 rfl) ?_
          refine ti_get (ci := 4) (k := 2) (N := 6) (T := TX4) (v := .ref (A lw 0)) C hw iw_4 rfl ob_1 (by decide) (by decide) fl_X4_154 rfl (ti_Tv ((tT_fr q_24).trans ((tT_fr q_19).trans ((tT_fr f_10).trans hL)))) dX4_readBoth_35 ?_
          refine lv_bipush (v := (-22)) hx hb dX4_readBoth_38 (by decide) ?_
          refine ti_callVv (ci := 1) (av := [.int (-22)]) C hw (s_X1_add l D A cy hJ M_23 iM_23 lw hlw (-22) (by first | omega | exact Or.inl (by decide) | exact Or.inr (by decide))) ⟨ml_X4_170, ym_X1_add, yv_X1_add, yi_X1_add, yc_X1_add⟩ yd_X1_add hlw (by decide) rfl rfl hl.1 (Nat.le_of_ble_eq_true rfl) ⟨by decide, by decide⟩ ⟨Nat.zero_le _, Nat.zero_le _⟩ dX4_readBoth_40 (fun M_28 H locs hp_28 hw => ?_)
          obtain ⟨iM_28, q_29, q_30⟩ := hp_28
          obtain ⟨x_31, ex_31⟩ : ∃ z : Int32, z = x_6 + 1 := ⟨_, rfl⟩
          have tx_31 : x_31.toInt = x_6.toInt + 1 := i_add ex_31 rfl (by decide) (by omega) (by omega)
          refine lv_iinc (v := x_31) (lv' := [(2, .int x_31), (0, .ref (A 1 0)), (1, .int 3)]) hx hb dX4_readBoth_43 hl (k := 0) rfl (by rw [ex_31]; rfl) (by decide) rfl (fun ls hl => ?_)
          refine lv_goto (tgt := 7) hx hb dX4_readBoth_46 (by decide) ?_
          exact ih_13 x_31 M_28 _ _ _ (by omega) (by first | omega | decide) (by first | omega | decide) iM_28 ((q_29).trans ((q_24).trans ((q_19).trans f_10))) (f0.trans (f0_x q_30) (f0.trans q_25 (f0.trans q_20 f_11))) (((q_30 1).2.1).trans ((q_26).trans ((q_21).trans f_12))) hw (lv_sub hl [0, 1, 2] rfl)
  exact hl_7_12 ((64 - 0 : Int).toNat + 1) 0 M_2 _ _ _ (Nat.lt_succ_self _) (by have lt0 : (0 : Int32).toInt = 0 := (by decide); first | omega | decide) (by have lt0 : (0 : Int32).toInt = 0 := (by decide); first | omega | decide) iM_2 (q_3) q_4 (q_5) hw (lv_sub hl [0, 1, 2] rfl)
set_option maxHeartbeats 4000000 in
set_option maxRecDepth 100000 in
theorem s_X4_readEither_3 (l : Launch) (D : va_G) (A : Nat → Nat → Nat) (cy : Nat → ClassId) (hJ : ti_inj ti_LT A) (M : ti_M) (hI : cI Tc M) (t : Nat) (ht : t = 3 ∨ t = 4) (hT : tT M 1 1 = some t) (lw : Nat) (hlw : ti_ob ti_LT lw 1) (hL : tT M 1 2 = some lw) : ti_KvE l yX4_readEither cX4_readEither 3 49 ti_LT D A cy M [.ref (A 1 0), .int 3] (fun M2 => cI Tc M2 ∧ M2.2.2.2 = M.2.2.2 ∧ f0 M2 M ∧ tI M2 2 1 = tI M 2 1) := by
  refine ti_eVE yp_X4_readEither hJ ti_LT_nd (Nat.le_of_ble_eq_true rfl) ?_
  intro p e s m args below meth c Q H0 C hE hQ hw ls hl
  have hx := C.1
  have hb := C.2.1
  have hl : lv_has ls 3 [(0, .ref (A 1 0)), (1, .int 3)] := hl
  refine lv_aload_n hx hb dX4_readEither_0 rfl (lv_at hl 0 rfl) ?_
  refine lv_iload_n hx hb dX4_readEither_1 rfl (lv_at hl 1 rfl) ?_
  refine ti_callVvE (ci := 4) (av := [.int 3]) C hE hw (s_X4_readBoth_3 l D A cy hJ M hI t ht (hT) lw hlw (hL)) ⟨ml_X4_164, ym_X4_readBoth, yv_X4_readBoth, yi_X4_readBoth, yc_X4_readBoth⟩ yd_X4_readBoth ob_1 (by decide) rfl rfl hl.1 (Nat.le_of_ble_eq_true rfl) ⟨by decide, by decide⟩ ⟨Nat.zero_le _, Nat.zero_le _⟩ dX4_readEither_2 (fun M_2 H locs hp_2 hw => ?_)
  obtain ⟨iM_2, q_3, q_4, q_5⟩ := hp_2
  refine lv_iconst (v := 0) hx hb dX4_readEither_5 (by decide) ?_
  refine lv_istore_n (lv' := [(2, .int 0), (0, .ref (A 1 0)), (1, .int 3)]) hx hb dX4_readEither_6 rfl hl (by decide) rfl (fun ls hl => ?_)
  have hl_7_12 : ∀ (n_13 : Nat) (x_6 : Int32) (M_9 : ti_M) (H : Heap) (locs : List Loc) (ls : Array Slot), (64 - x_6.toInt : Int).toNat < n_13 → (0 ≤ x_6.toInt) → (x_6.toInt ≤ 64) → (cI Tc M_9) → (M_9.2.2.2 = M.2.2.2) → (f0 M_9 M) → (tI M_9 2 1 = tI M 2 1) → ti_H ti_LT D A cy H0 M_9 H locs → lv_has ls 3 [(2, .int x_6), (0, .ref (A 1 0)), (1, .int 3)] → W p l e (ti_rm 49) s m args below meth c H locs 0 0 Q (F0 m 7 ls []) := by
    intro n_13
    induction n_13 with
    | zero => intro x_6 M_9 H locs ls hf_13; exact absurd hf_13 (Nat.not_lt_zero _)
    | succ n_13 ih_13 =>
      intro x_6 M_9 H locs ls hf_13 b_7 b_8 iM_9 f_10 f_11 f_12 hw hl
      refine lv_iload_n hx hb dX4_readEither_7 rfl (lv_at hl 0 rfl) ?_
      refine lv_bipush (v := 64) hx hb dX4_readEither_8 (by decide) ?_
      refine sb_icmp_ge (tgt := 49) hx hb rfl (by decide : (64 : Int32).toInt = 64) dX4_readEither_10 (by decide) (fun c_10_13 => ?_) (fun c_10_13 => ?_)
      · exact hQ _ _ _ _ _ hw (⟨iM_9, (f_10), f_11, (f_12)⟩) dX4_readEither_49
      · refine lv_aload_n hx hb dX4_readEither_13 rfl (lv_at hl 1 rfl) ?_
        refine ti_get (ci := 4) (k := 0) (N := 6) (T := TX4) (v := .ref (A 2 0)) C hw iw_4 rfl ob_1 (by decide) (by decide) fl_X4_12 rfl rfl dX4_readEither_14 ?_
        refine ti_get (ci := 7) (k := 4) (N := 7) (T := TX7) C hw iw_7 rfl ob_2 (by decide) (by decide) fl_X4_41 rfl rfl dX4_readEither_17 ?_
        refine lv_topi (fun x_15 ex_15 => ?_)
        have bx_15 : 0 ≤ x_15.toInt ∧ x_15.toInt ≤ 41 := cI_rd iM_9 ob_2.1 ex_15
        have ux_15 : (tI M_9 2 4).toInt = x_15.toInt := by rw [ex_15]
        refine lv_bipush (v := 23) hx hb dX4_readEither_20 (by decide) ?_
        refine sb_icmp_ne (tgt := 49) hx hb rfl (by decide : (23 : Int32).toInt = 23) dX4_readEither_22 (by decide) (fun c_22_15 => ?_) (fun c_22_15 => ?_)
        · exact hQ _ _ _ _ _ hw (⟨iM_9, (f_10), f_11, (f_12)⟩) dX4_readEither_49
        · refine lv_aload_n hx hb dX4_readEither_25 rfl (lv_at hl 1 rfl) ?_
          refine ti_callVvE (ci := 4) (av := []) C hE hw (s_X4_knot l D A cy hJ M_9 iM_9 t ht ((tT_fr f_10).trans hT)) ⟨ml_X4_167, ym_X4_knot, yv_X4_knot, yi_X4_knot, yc_X4_knot⟩ yd_X4_knot ob_1 (by decide) rfl rfl hl.1 (Nat.le_of_ble_eq_true rfl) ⟨by decide, by decide⟩ ⟨Nat.zero_le _, Nat.zero_le _⟩ dX4_readEither_26 (fun M_18 H locs hp_18 hw => ?_)
          obtain ⟨iM_18, q_19, q_20, q_21⟩ := hp_18
          refine lv_aload_n hx hb dX4_readEither_29 rfl (lv_at hl 1 rfl) ?_
          refine lv_iload_n hx hb dX4_readEither_30 rfl (lv_at hl 2 rfl) ?_
          refine ti_callVvE (ci := 4) (av := [.int 3]) C hE hw (s_X4_readBoth_3 l D A cy hJ M_18 iM_18 t ht ((tT_fr q_19).trans ((tT_fr f_10).trans hT)) lw hlw ((tT_fr q_19).trans ((tT_fr f_10).trans hL))) ⟨ml_X4_164, ym_X4_readBoth, yv_X4_readBoth, yi_X4_readBoth, yc_X4_readBoth⟩ yd_X4_readBoth ob_1 (by decide) rfl rfl hl.1 (Nat.le_of_ble_eq_true rfl) ⟨by decide, by decide⟩ ⟨Nat.zero_le _, Nat.zero_le _⟩ dX4_readEither_31 (fun M_23 H locs hp_23 hw => ?_)
          obtain ⟨iM_23, q_24, q_25, q_26⟩ := hp_23
          refine lv_aload_n hx hb dX4_readEither_34 rfl (lv_at hl 1 rfl) ?_
          refine ti_get (ci := 4) (k := 2) (N := 6) (T := TX4) (v := .ref (A lw 0)) C hw iw_4 rfl ob_1 (by decide) (by decide) fl_X4_154 rfl (ti_Tv ((tT_fr q_24).trans ((tT_fr q_19).trans ((tT_fr f_10).trans hL)))) dX4_readEither_35 ?_
          refine lv_bipush (v := (-23)) hx hb dX4_readEither_38 (by decide) ?_
          refine ti_callVv (ci := 1) (av := [.int (-23)]) C hw (s_X1_add l D A cy hJ M_23 iM_23 lw hlw (-23) (by first | omega | exact Or.inl (by decide) | exact Or.inr (by decide))) ⟨ml_X4_170, ym_X1_add, yv_X1_add, yi_X1_add, yc_X1_add⟩ yd_X1_add hlw (by decide) rfl rfl hl.1 (Nat.le_of_ble_eq_true rfl) ⟨by decide, by decide⟩ ⟨Nat.zero_le _, Nat.zero_le _⟩ dX4_readEither_40 (fun M_28 H locs hp_28 hw => ?_)
          obtain ⟨iM_28, q_29, q_30⟩ := hp_28
          obtain ⟨x_31, ex_31⟩ : ∃ z : Int32, z = x_6 + 1 := ⟨_, rfl⟩
          have tx_31 : x_31.toInt = x_6.toInt + 1 := i_add ex_31 rfl (by decide) (by omega) (by omega)
          refine lv_iinc (v := x_31) (lv' := [(2, .int x_31), (0, .ref (A 1 0)), (1, .int 3)]) hx hb dX4_readEither_43 hl (k := 0) rfl (by rw [ex_31]; rfl) (by decide) rfl (fun ls hl => ?_)
          refine lv_goto (tgt := 7) hx hb dX4_readEither_46 (by decide) ?_
          exact ih_13 x_31 M_28 _ _ _ (by omega) (by first | omega | decide) (by first | omega | decide) iM_28 ((q_29).trans ((q_24).trans ((q_19).trans f_10))) (f0.trans (f0_x q_30) (f0.trans q_25 (f0.trans q_20 f_11))) (((q_30 1).2.1).trans ((q_26).trans ((q_21).trans f_12))) hw (lv_sub hl [0, 1, 2] rfl)
  exact hl_7_12 ((64 - 0 : Int).toNat + 1) 0 M_2 _ _ _ (Nat.lt_succ_self _) (by have lt0 : (0 : Int32).toInt = 0 := (by decide); first | omega | decide) (by have lt0 : (0 : Int32).toInt = 0 := (by decide); first | omega | decide) iM_2 (q_3) q_4 (q_5) hw (lv_sub hl [0, 1, 2] rfl)
set_option maxHeartbeats 4000000 in
set_option maxRecDepth 100000 in
theorem s_X4_readPart_2 (l : Launch) (D : va_G) (A : Nat → Nat → Nat) (cy : Nat → ClassId) (hJ : ti_inj ti_LT A) (M : ti_M) (hI : cI Tc M) (t : Nat) (ht : t = 3 ∨ t = 4) (hT : tT M 1 1 = some t) (lw : Nat) (hlw : ti_ob ti_LT lw 1) (hL : tT M 1 2 = some lw) : ti_KvE l yX4_readPart cX4_readPart 3 50 ti_LT D A cy M [.ref (A 1 0), .int 2] (fun M2 => cI Tc M2 ∧ M2.2.2.2 = M.2.2.2 ∧ f0 M2 M ∧ tI M2 2 1 = tI M 2 1) := by
  refine ti_eVE yp_X4_readPart hJ ti_LT_nd (Nat.le_of_ble_eq_true rfl) ?_
  intro p e s m args below meth c Q H0 C hE hQ hw ls hl
  have hx := C.1
  have hb := C.2.1
  have hl : lv_has ls 3 [(0, .ref (A 1 0)), (1, .int 2)] := hl
  refine lv_aload_n hx hb dX4_readPart_0 rfl (lv_at hl 0 rfl) ?_
  refine ti_get (ci := 4) (k := 0) (N := 6) (T := TX4) (v := .ref (A 2 0)) C hw iw_4 rfl ob_1 (by decide) (by decide) fl_X4_12 rfl rfl dX4_readPart_1 ?_
  refine ti_get (ci := 7) (k := 4) (N := 7) (T := TX7) C hw iw_7 rfl ob_2 (by decide) (by decide) fl_X4_41 rfl rfl dX4_readPart_4 ?_
  refine lv_topi (fun x_1 ex_1 => ?_)
  have bx_1 : 0 ≤ x_1.toInt ∧ x_1.toInt ≤ 41 := cI_rd hI ob_2.1 ex_1
  have ux_1 : (tI M 2 4).toInt = x_1.toInt := by rw [ex_1]
  refine lv_istore_n (lv' := [(2, .int x_1), (0, .ref (A 1 0)), (1, .int 2)]) hx hb dX4_readPart_7 rfl hl (by decide) rfl (fun ls hl => ?_)
  refine lv_iload_n hx hb dX4_readPart_8 rfl (lv_at hl 0 rfl) ?_
  refine lv_bipush (v := 30) hx hb dX4_readPart_9 (by decide) ?_
  have hj_28_3 : ∀  (H : Heap) (locs : List Loc) (ls : Array Slot), ti_H ti_LT D A cy H0 M H locs → lv_has ls 3 [(2, .int x_1), (0, .ref (A 1 0)), (1, .int 2)] → W p l e (ti_rm 50) s m args below meth c H locs 0 0 Q (F0 m 28 ls []) := by
    intro  H locs ls  hw hl
    refine lv_iload_n hx hb dX4_readPart_28 rfl (lv_at hl 0 rfl) ?_
    refine lv_bipush (v := 30) hx hb dX4_readPart_29 (by decide) ?_
    refine sb_icmp_ne (tgt := 57) hx hb rfl (by decide : (30 : Int32).toInt = 30) dX4_readPart_31 (by decide) (fun c_31_3 => ?_) (fun c_31_3 => ?_)
    · refine lv_iload_n hx hb dX4_readPart_57 rfl (lv_at hl 0 rfl) ?_
      refine lv_bipush (v := 26) hx hb dX4_readPart_58 (by decide) ?_
      have hj_84_27 : ∀  (H : Heap) (locs : List Loc) (ls : Array Slot), ti_H ti_LT D A cy H0 M H locs → lv_has ls 3 [(2, .int x_1), (0, .ref (A 1 0)), (1, .int 2)] → W p l e (ti_rm 50) s m args below meth c H locs 0 0 Q (F0 m 84 ls []) := by
        intro  H locs ls  hw hl
        refine lv_iload_n hx hb dX4_readPart_84 rfl (lv_at hl 0 rfl) ?_
        refine lv_bipush (v := 26) hx hb dX4_readPart_85 (by decide) ?_
        refine sb_icmp_ne (tgt := 111) hx hb rfl (by decide : (26 : Int32).toInt = 26) dX4_readPart_87 (by decide) (fun c_87_27 => ?_) (fun c_87_27 => ?_)
        · refine lv_iload_n hx hb dX4_readPart_111 rfl (lv_at hl 0 rfl) ?_
          refine lv_bipush (v := 16) hx hb dX4_readPart_112 (by decide) ?_
          have hj_139_50 : ∀  (H : Heap) (locs : List Loc) (ls : Array Slot), ti_H ti_LT D A cy H0 M H locs → lv_has ls 3 [(2, .int x_1), (0, .ref (A 1 0)), (1, .int 2)] → W p l e (ti_rm 50) s m args below meth c H locs 0 0 Q (F0 m 139 ls []) := by
            intro  H locs ls  hw hl
            refine lv_aload_n hx hb dX4_readPart_139 rfl (lv_at hl 1 rfl) ?_
            refine lv_iconst (v := 1) hx hb dX4_readPart_140 (by decide) ?_
            refine ti_callVv (ci := 4) (av := [.int 1]) C hw (s_X4_refuse l D A cy hJ M hI 1) ⟨ml_X4_82, ym_X4_refuse, yv_X4_refuse, yi_X4_refuse, yc_X4_refuse⟩ yd_X4_refuse ob_1 (by decide) rfl rfl hl.1 (Nat.le_of_ble_eq_true rfl) ⟨by decide, by decide⟩ ⟨Nat.zero_le _, Nat.zero_le _⟩ dX4_readPart_141 (fun M_52 H locs hp_52 hw => ?_)
            obtain ⟨iM_52, q_53, q_54, q_55⟩ := hp_52
            exact hQ _ _ _ _ _ hw (⟨iM_52, (q_53), (f0_12 q_54), (q_55)⟩) dX4_readPart_144
          refine sb_icmp_lt (tgt := 139) hx hb rfl (by decide : (16 : Int32).toInt = 16) dX4_readPart_114 (by decide) (fun c_114_38 => ?_) (fun c_114_38 => ?_)
          · exact hj_139_50  _ _ _  hw (lv_sub hl [0, 1, 2] rfl)
          · refine lv_iload_n hx hb dX4_readPart_117 rfl (lv_at hl 0 rfl) ?_
            refine lv_bipush (v := 21) hx hb dX4_readPart_118 (by decide) ?_
            refine sb_icmp_gt (tgt := 139) hx hb rfl (by decide : (21 : Int32).toInt = 21) dX4_readPart_120 (by decide) (fun c_120_39 => ?_) (fun c_120_39 => ?_)
            · exact hj_139_50  _ _ _  hw (lv_sub hl [0, 1, 2] rfl)
            · refine lv_aload_n hx hb dX4_readPart_123 rfl (lv_at hl 1 rfl) ?_
              refine ti_get (ci := 4) (k := 2) (N := 6) (T := TX4) (v := .ref (A lw 0)) C hw iw_4 rfl ob_1 (by decide) (by decide) fl_X4_154 rfl (ti_Tv (hL)) dX4_readPart_124 ?_
              refine lv_iload_n hx hb dX4_readPart_127 rfl (lv_at hl 0 rfl) ?_
              refine lv_ineg hx hb dX4_readPart_128 ?_
              refine lv_topi (fun x_41 ex_41 => ?_)
              have tx_41 : x_41.toInt = -x_1.toInt := i_neg ex_41 rfl (by omega)
              refine ti_callVv (ci := 1) (av := [.int x_41]) C hw (s_X1_add l D A cy hJ M hI lw hlw x_41 (by first | omega | exact Or.inl (by decide) | exact Or.inr (by decide))) ⟨ml_X4_170, ym_X1_add, yv_X1_add, yi_X1_add, yc_X1_add⟩ yd_X1_add hlw (by decide) rfl rfl hl.1 (Nat.le_of_ble_eq_true rfl) ⟨by decide, by decide⟩ ⟨Nat.zero_le _, Nat.zero_le _⟩ dX4_readPart_129 (fun M_43 H locs hp_43 hw => ?_)
              obtain ⟨iM_43, q_44, q_45⟩ := hp_43
              refine lv_aload_n hx hb dX4_readPart_132 rfl (lv_at hl 1 rfl) ?_
              refine ti_callVvE (ci := 4) (av := []) C hE hw (s_X4_knot l D A cy hJ M_43 iM_43 t ht ((tT_fr q_44).trans hT)) ⟨ml_X4_167, ym_X4_knot, yv_X4_knot, yi_X4_knot, yc_X4_knot⟩ yd_X4_knot ob_1 (by decide) rfl rfl hl.1 (Nat.le_of_ble_eq_true rfl) ⟨by decide, by decide⟩ ⟨Nat.zero_le _, Nat.zero_le _⟩ dX4_readPart_133 (fun M_47 H locs hp_47 hw => ?_)
              obtain ⟨iM_47, q_48, q_49, q_50⟩ := hp_47
              refine lv_goto (tgt := 144) hx hb dX4_readPart_136 (by decide) ?_
              exact hQ _ _ _ _ _ hw (⟨iM_47, ((q_48).trans q_44), (f0.trans q_49 (f0_x q_45)), ((q_50).trans ((q_45 1).2.1))⟩) dX4_readPart_144
        · refine lv_aload_n hx hb dX4_readPart_90 rfl (lv_at hl 1 rfl) ?_
          refine ti_get (ci := 4) (k := 2) (N := 6) (T := TX4) (v := .ref (A lw 0)) C hw iw_4 rfl ob_1 (by decide) (by decide) fl_X4_154 rfl (ti_Tv (hL)) dX4_readPart_91 ?_
          refine lv_aload_n hx hb dX4_readPart_94 rfl (lv_at hl 1 rfl) ?_
          refine ti_get (ci := 4) (k := 0) (N := 6) (T := TX4) (v := .ref (A 2 0)) C hw iw_4 rfl ob_1 (by decide) (by decide) fl_X4_12 rfl rfl dX4_readPart_95 ?_
          refine ti_get (ci := 7) (k := 6) (N := 7) (T := TX7) C hw iw_7 rfl ob_2 (by decide) (by decide) fl_X4_95 rfl rfl dX4_readPart_98 ?_
          refine lv_topi (fun x_29 ex_29 => ?_)
          have bx_29 : 0 ≤ x_29.toInt ∧ x_29.toInt ≤ 2147483647 := cI_rd hI ob_2.1 ex_29
          have ux_29 : (tI M 2 6).toInt = x_29.toInt := by rw [ex_29]
          refine ti_callVv (ci := 1) (av := [.int x_29]) C hw (s_X1_add l D A cy hJ M hI lw hlw x_29 (by first | omega | exact Or.inl (by decide) | exact Or.inr (by decide))) ⟨ml_X4_170, ym_X1_add, yv_X1_add, yi_X1_add, yc_X1_add⟩ yd_X1_add hlw (by decide) rfl rfl hl.1 (Nat.le_of_ble_eq_true rfl) ⟨by decide, by decide⟩ ⟨Nat.zero_le _, Nat.zero_le _⟩ dX4_readPart_101 (fun M_31 H locs hp_31 hw => ?_)
          obtain ⟨iM_31, q_32, q_33⟩ := hp_31
          refine lv_aload_n hx hb dX4_readPart_104 rfl (lv_at hl 1 rfl) ?_
          refine ti_callVvE (ci := 4) (av := []) C hE hw (s_X4_knot l D A cy hJ M_31 iM_31 t ht ((tT_fr q_32).trans hT)) ⟨ml_X4_167, ym_X4_knot, yv_X4_knot, yi_X4_knot, yc_X4_knot⟩ yd_X4_knot ob_1 (by decide) rfl rfl hl.1 (Nat.le_of_ble_eq_true rfl) ⟨by decide, by decide⟩ ⟨Nat.zero_le _, Nat.zero_le _⟩ dX4_readPart_105 (fun M_35 H locs hp_35 hw => ?_)
          obtain ⟨iM_35, q_36, q_37, q_38⟩ := hp_35
          refine lv_goto (tgt := 144) hx hb dX4_readPart_108 (by decide) ?_
          exact hQ _ _ _ _ _ hw (⟨iM_35, ((q_36).trans q_32), (f0.trans q_37 (f0_x q_33)), ((q_38).trans ((q_33 1).2.1))⟩) dX4_readPart_144
      refine sb_icmp_ne (tgt := 84) hx hb rfl (by decide : (26 : Int32).toInt = 26) dX4_readPart_60 (by decide) (fun c_60_19 => ?_) (fun c_60_19 => ?_)
      · exact hj_84_27  _ _ _  hw (lv_sub hl [0, 1, 2] rfl)
      · refine lv_aload_n hx hb dX4_readPart_63 rfl (lv_at hl 1 rfl) ?_
        refine ti_get (ci := 4) (k := 0) (N := 6) (T := TX4) (v := .ref (A 2 0)) C hw iw_4 rfl ob_1 (by decide) (by decide) fl_X4_12 rfl rfl dX4_readPart_64 ?_
        refine ti_get (ci := 7) (k := 6) (N := 7) (T := TX7) C hw iw_7 rfl ob_2 (by decide) (by decide) fl_X4_95 rfl rfl dX4_readPart_67 ?_
        refine lv_topi (fun x_21 ex_21 => ?_)
        have bx_21 : 0 ≤ x_21.toInt ∧ x_21.toInt ≤ 2147483647 := cI_rd hI ob_2.1 ex_21
        have ux_21 : (tI M 2 6).toInt = x_21.toInt := by rw [ex_21]
        refine lv_sipush (v := 9999) hx hb dX4_readPart_70 (by decide) ?_
        refine sb_icmp_le (tgt := 84) hx hb rfl (by decide : (9999 : Int32).toInt = 9999) dX4_readPart_73 (by decide) (fun c_73_21 => ?_) (fun c_73_21 => ?_)
        · exact hj_84_27  _ _ _  hw (lv_sub hl [0, 1, 2] rfl)
        · refine lv_aload_n hx hb dX4_readPart_76 rfl (lv_at hl 1 rfl) ?_
          refine lv_iconst (v := 2) hx hb dX4_readPart_77 (by decide) ?_
          refine ti_callVv (ci := 4) (av := [.int 2]) C hw (s_X4_refuse l D A cy hJ M hI 2) ⟨ml_X4_82, ym_X4_refuse, yv_X4_refuse, yi_X4_refuse, yc_X4_refuse⟩ yd_X4_refuse ob_1 (by decide) rfl rfl hl.1 (Nat.le_of_ble_eq_true rfl) ⟨by decide, by decide⟩ ⟨Nat.zero_le _, Nat.zero_le _⟩ dX4_readPart_78 (fun M_24 H locs hp_24 hw => ?_)
          obtain ⟨iM_24, q_25, q_26, q_27⟩ := hp_24
          refine lv_goto (tgt := 144) hx hb dX4_readPart_81 (by decide) ?_
          exact hQ _ _ _ _ _ hw (⟨iM_24, (q_25), (f0_12 q_26), (q_27)⟩) dX4_readPart_144
    · refine lv_aload_n hx hb dX4_readPart_34 rfl (lv_at hl 1 rfl) ?_
      refine ti_get (ci := 4) (k := 0) (N := 6) (T := TX4) (v := .ref (A 2 0)) C hw iw_4 rfl ob_1 (by decide) (by decide) fl_X4_12 rfl rfl dX4_readPart_35 ?_
      refine ti_callVvE (ci := 7) (av := []) C hE hw (s_X7_advance l D A cy hJ M hI ) ⟨ml_X4_92, ym_X7_advance, yv_X7_advance, yi_X7_advance, yc_X7_advance⟩ yd_X7_advance ob_2 (by decide) rfl rfl hl.1 (Nat.le_of_ble_eq_true rfl) ⟨by decide, by decide⟩ ⟨Nat.zero_le _, Nat.zero_le _⟩ dX4_readPart_38 (fun M_6 H locs hp_6 hw => ?_)
      obtain ⟨iM_6, q_7, q_8, q_9⟩ := hp_6
      refine lv_aload_n hx hb dX4_readPart_41 rfl (lv_at hl 1 rfl) ?_
      refine lv_iload_n hx hb dX4_readPart_42 rfl (lv_at hl 2 rfl) ?_
      refine lv_iconst (v := 1) hx hb dX4_readPart_43 (by decide) ?_
      refine lv_iadd hx hb dX4_readPart_44 ?_
      refine ti_top (y := 3) (by decide) ?_
      refine ti_callVvE (ci := 4) (av := [.int 3]) C hE hw (s_X4_readEither_3 l D A cy hJ M_6 iM_6 t ht ((tT_fr q_7).trans hT) lw hlw ((tT_fr q_7).trans hL)) ⟨ml_X4_158, ym_X4_readEither, yv_X4_readEither, yi_X4_readEither, yc_X4_readEither⟩ yd_X4_readEither ob_1 (by decide) rfl rfl hl.1 (Nat.le_of_ble_eq_true rfl) ⟨by decide, by decide⟩ ⟨Nat.zero_le _, Nat.zero_le _⟩ dX4_readPart_45 (fun M_11 H locs hp_11 hw => ?_)
      obtain ⟨iM_11, q_12, q_13, q_14⟩ := hp_11
      refine lv_aload_n hx hb dX4_readPart_48 rfl (lv_at hl 1 rfl) ?_
      refine lv_bipush (v := 31) hx hb dX4_readPart_49 (by decide) ?_
      refine ti_callVvE (ci := 4) (av := [.int 31]) C hE hw (s_X4_take l D A cy hJ M_11 iM_11 31) ⟨ml_X4_85, ym_X4_take, yv_X4_take, yi_X4_take, yc_X4_take⟩ yd_X4_take ob_1 (by decide) rfl rfl hl.1 (Nat.le_of_ble_eq_true rfl) ⟨by decide, by decide⟩ ⟨Nat.zero_le _, Nat.zero_le _⟩ dX4_readPart_51 (fun M_16 H locs hp_16 hw => ?_)
      obtain ⟨iM_16, q_17, q_18, q_19⟩ := hp_16
      refine lv_goto (tgt := 144) hx hb dX4_readPart_54 (by decide) ?_
      exact hQ _ _ _ _ _ hw (⟨iM_16, ((q_17).trans ((q_12).trans q_7)), (f0.trans (f0_12 q_18) (f0.trans q_13 (f0_12 q_8))), ((q_19).trans ((q_14).trans q_9))⟩) dX4_readPart_144
  refine sb_icmp_ne (tgt := 28) hx hb rfl (by decide : (30 : Int32).toInt = 30) dX4_readPart_11 (by decide) (fun c_11_1 => ?_) (fun c_11_1 => ?_)
  · exact hj_28_3  _ _ _  hw (lv_sub hl [0, 1, 2] rfl)
  · refine lv_iload_n hx hb dX4_readPart_14 rfl (lv_at hl 2 rfl) ?_
    refine lv_bipush (v := 8) hx hb dX4_readPart_15 (by decide) ?_
    refine sb_icmp_lt (tgt := 28) hx hb (by decide : (2 : Int32).toInt = 2) (by decide : (8 : Int32).toInt = 8) dX4_readPart_17 (by decide) (fun c_17_2 => ?_) (fun h => absurd h (by decide))
    exact hj_28_3  _ _ _  hw (lv_sub hl [0, 1, 2] rfl)
set_option maxHeartbeats 4000000 in
set_option maxRecDepth 100000 in
theorem s_X4_readProduct_2 (l : Launch) (D : va_G) (A : Nat → Nat → Nat) (cy : Nat → ClassId) (hJ : ti_inj ti_LT A) (M : ti_M) (hI : cI Tc M) (t : Nat) (ht : t = 3 ∨ t = 4) (hT : tT M 1 1 = some t) (lw : Nat) (hlw : ti_ob ti_LT lw 1) (hL : tT M 1 2 = some lw) : ti_KvE l yX4_readProduct cX4_readProduct 4 51 ti_LT D A cy M [.ref (A 1 0), .int 2] (fun M2 => cI Tc M2 ∧ M2.2.2.2 = M.2.2.2 ∧ f0 M2 M ∧ tI M2 2 1 = tI M 2 1) := by
  refine ti_eVE yp_X4_readProduct hJ ti_LT_nd (Nat.le_of_ble_eq_true rfl) ?_
  intro p e s m args below meth c Q H0 C hE hQ hw ls hl
  have hx := C.1
  have hb := C.2.1
  have hl : lv_has ls 4 [(0, .ref (A 1 0)), (1, .int 2)] := hl
  refine lv_aload_n hx hb dX4_readProduct_0 rfl (lv_at hl 0 rfl) ?_
  refine lv_iload_n hx hb dX4_readProduct_1 rfl (lv_at hl 1 rfl) ?_
  refine ti_callVvE (ci := 4) (av := [.int 2]) C hE hw (s_X4_readPart_2 l D A cy hJ M hI t ht (hT) lw hlw (hL)) ⟨ml_X4_187, ym_X4_readPart, yv_X4_readPart, yi_X4_readPart, yc_X4_readPart⟩ yd_X4_readPart ob_1 (by decide) rfl rfl hl.1 (Nat.le_of_ble_eq_true rfl) ⟨by decide, by decide⟩ ⟨Nat.zero_le _, Nat.zero_le _⟩ dX4_readProduct_2 (fun M_2 H locs hp_2 hw => ?_)
  obtain ⟨iM_2, q_3, q_4, q_5⟩ := hp_2
  refine lv_iconst (v := 0) hx hb dX4_readProduct_5 (by decide) ?_
  refine lv_istore_n (lv' := [(2, .int 0), (0, .ref (A 1 0)), (1, .int 2)]) hx hb dX4_readProduct_6 rfl hl (by decide) rfl (fun ls hl => ?_)
  have hl_7_12 : ∀ (n_13 : Nat) (x_6 : Int32) (M_9 : ti_M) (H : Heap) (locs : List Loc) (ls : Array Slot), (64 - x_6.toInt : Int).toNat < n_13 → (0 ≤ x_6.toInt) → (x_6.toInt ≤ 64) → (cI Tc M_9) → (M_9.2.2.2 = M.2.2.2) → (f0 M_9 M) → (tI M_9 2 1 = tI M 2 1) → ti_H ti_LT D A cy H0 M_9 H locs → lv_has ls 4 [(2, .int x_6), (0, .ref (A 1 0)), (1, .int 2)] → W p l e (ti_rm 51) s m args below meth c H locs 0 0 Q (F0 m 7 ls []) := by
    intro n_13
    induction n_13 with
    | zero => intro x_6 M_9 H locs ls hf_13; exact absurd hf_13 (Nat.not_lt_zero _)
    | succ n_13 ih_13 =>
      intro x_6 M_9 H locs ls hf_13 b_7 b_8 iM_9 f_10 f_11 f_12 hw hl
      refine lv_iload_n hx hb dX4_readProduct_7 rfl (lv_at hl 0 rfl) ?_
      refine lv_bipush (v := 64) hx hb dX4_readProduct_8 (by decide) ?_
      refine sb_icmp_ge (tgt := 69) hx hb rfl (by decide : (64 : Int32).toInt = 64) dX4_readProduct_10 (by decide) (fun c_10_13 => ?_) (fun c_10_13 => ?_)
      · exact hQ _ _ _ _ _ hw (⟨iM_9, (f_10), f_11, (f_12)⟩) dX4_readProduct_69
      · refine lv_aload_n hx hb dX4_readProduct_13 rfl (lv_at hl 1 rfl) ?_
        refine ti_get (ci := 4) (k := 0) (N := 6) (T := TX4) (v := .ref (A 2 0)) C hw iw_4 rfl ob_1 (by decide) (by decide) fl_X4_12 rfl rfl dX4_readProduct_14 ?_
        refine ti_get (ci := 7) (k := 4) (N := 7) (T := TX7) C hw iw_7 rfl ob_2 (by decide) (by decide) fl_X4_41 rfl rfl dX4_readProduct_17 ?_
        refine lv_topi (fun x_15 ex_15 => ?_)
        have bx_15 : 0 ≤ x_15.toInt ∧ x_15.toInt ≤ 41 := cI_rd iM_9 ob_2.1 ex_15
        have ux_15 : (tI M_9 2 4).toInt = x_15.toInt := by rw [ex_15]
        refine lv_bipush (v := 40) hx hb dX4_readProduct_20 (by decide) ?_
        have hj_37_19 : ∀  (H : Heap) (locs : List Loc) (ls : Array Slot), (16 ≤ (tI M_9 2 4).toInt) → ti_H ti_LT D A cy H0 M_9 H locs → lv_has ls 4 [(2, .int x_6), (0, .ref (A 1 0)), (1, .int 2)] → W p l e (ti_rm 51) s m args below meth c H locs 0 0 Q (F0 m 37 ls []) := by
          intro  H locs ls j_19 hw hl
          refine lv_aload_n hx hb dX4_readProduct_37 rfl (lv_at hl 1 rfl) ?_
          refine ti_get (ci := 4) (k := 0) (N := 6) (T := TX4) (v := .ref (A 2 0)) C hw iw_4 rfl ob_1 (by decide) (by decide) fl_X4_12 rfl rfl dX4_readProduct_38 ?_
          refine ti_get (ci := 7) (k := 4) (N := 7) (T := TX7) C hw iw_7 rfl ob_2 (by decide) (by decide) fl_X4_41 rfl rfl dX4_readProduct_41 ?_
          refine ti_top (y := x_15) (ex_15.symm) ?_
          have u_22 : (tI M_9 2 4).toInt = (x_15 : Int32).toInt := by rw [(ex_15.symm)]
          refine lv_istore_n (lv' := [(3, .int x_15), (2, .int x_6), (0, .ref (A 1 0)), (1, .int 2)]) hx hb dX4_readProduct_44 rfl hl (by decide) rfl (fun ls hl => ?_)
          refine lv_aload_n hx hb dX4_readProduct_45 rfl (lv_at hl 2 rfl) ?_
          refine ti_callVvE (ci := 4) (av := []) C hE hw (s_X4_knot l D A cy hJ M_9 iM_9 t ht ((tT_fr f_10).trans hT)) ⟨ml_X4_167, ym_X4_knot, yv_X4_knot, yi_X4_knot, yc_X4_knot⟩ yd_X4_knot ob_1 (by decide) rfl rfl hl.1 (Nat.le_of_ble_eq_true rfl) ⟨by decide, by decide⟩ ⟨Nat.zero_le _, Nat.zero_le _⟩ dX4_readProduct_46 (fun M_24 H locs hp_24 hw => ?_)
          obtain ⟨iM_24, q_25, q_26, q_27⟩ := hp_24
          refine lv_aload_n hx hb dX4_readProduct_49 rfl (lv_at hl 2 rfl) ?_
          refine lv_iload_n hx hb dX4_readProduct_50 rfl (lv_at hl 3 rfl) ?_
          refine ti_callVvE (ci := 4) (av := [.int 2]) C hE hw (s_X4_readPart_2 l D A cy hJ M_24 iM_24 t ht ((tT_fr q_25).trans ((tT_fr f_10).trans hT)) lw hlw ((tT_fr q_25).trans ((tT_fr f_10).trans hL))) ⟨ml_X4_187, ym_X4_readPart, yv_X4_readPart, yi_X4_readPart, yc_X4_readPart⟩ yd_X4_readPart ob_1 (by decide) rfl rfl hl.1 (Nat.le_of_ble_eq_true rfl) ⟨by decide, by decide⟩ ⟨Nat.zero_le _, Nat.zero_le _⟩ dX4_readProduct_51 (fun M_29 H locs hp_29 hw => ?_)
          obtain ⟨iM_29, q_30, q_31, q_32⟩ := hp_29
          refine lv_aload_n hx hb dX4_readProduct_54 rfl (lv_at hl 2 rfl) ?_
          refine ti_get (ci := 4) (k := 2) (N := 6) (T := TX4) (v := .ref (A lw 0)) C hw iw_4 rfl ob_1 (by decide) (by decide) fl_X4_154 rfl (ti_Tv ((tT_fr q_30).trans ((tT_fr q_25).trans ((tT_fr f_10).trans hL)))) dX4_readProduct_55 ?_
          refine lv_iload_n hx hb dX4_readProduct_58 rfl (lv_at hl 0 rfl) ?_
          refine lv_ineg hx hb dX4_readProduct_59 ?_
          refine lv_topi (fun x_33 ex_33 => ?_)
          have tx_33 : x_33.toInt = -x_15.toInt := i_neg ex_33 rfl (by omega)
          refine ti_callVv (ci := 1) (av := [.int x_33]) C hw (s_X1_add l D A cy hJ M_29 iM_29 lw hlw x_33 (by first | omega | exact Or.inl (by decide) | exact Or.inr (by decide))) ⟨ml_X4_170, ym_X1_add, yv_X1_add, yi_X1_add, yc_X1_add⟩ yd_X1_add hlw (by decide) rfl rfl hl.1 (Nat.le_of_ble_eq_true rfl) ⟨by decide, by decide⟩ ⟨Nat.zero_le _, Nat.zero_le _⟩ dX4_readProduct_60 (fun M_35 H locs hp_35 hw => ?_)
          obtain ⟨iM_35, q_36, q_37⟩ := hp_35
          obtain ⟨x_38, ex_38⟩ : ∃ z : Int32, z = x_6 + 1 := ⟨_, rfl⟩
          have tx_38 : x_38.toInt = x_6.toInt + 1 := i_add ex_38 rfl (by decide) (by omega) (by omega)
          refine lv_iinc (v := x_38) (lv' := [(2, .int x_38), (3, .int x_15), (0, .ref (A 1 0)), (1, .int 2)]) hx hb dX4_readProduct_63 hl (k := 1) rfl (by rw [ex_38]; rfl) (by decide) rfl (fun ls hl => ?_)
          refine lv_goto (tgt := 7) hx hb dX4_readProduct_66 (by decide) ?_
          exact ih_13 x_38 M_35 _ _ _ (by omega) (by first | omega | decide) (by first | omega | decide) iM_35 ((q_36).trans ((q_30).trans ((q_25).trans f_10))) (f0.trans (f0_x q_37) (f0.trans q_31 (f0.trans q_26 f_11))) (((q_37 1).2.1).trans ((q_32).trans ((q_27).trans f_12))) hw (lv_sub hl [0, 2, 3] rfl)
        refine sb_icmp_eq (tgt := 37) hx hb rfl (by decide : (40 : Int32).toInt = 40) dX4_readProduct_22 (by decide) (fun c_22_15 => ?_) (fun c_22_15 => ?_)
        · have u_20 : (tI M_9 2 4).toInt = (x_15 : Int32).toInt := by rw [(ex_15.symm)]
          exact hj_37_19  _ _ _ (by first | omega | decide) hw (lv_sub hl [0, 1, 2] rfl)
        · refine lv_aload_n hx hb dX4_readProduct_25 rfl (lv_at hl 1 rfl) ?_
          refine ti_get (ci := 4) (k := 0) (N := 6) (T := TX4) (v := .ref (A 2 0)) C hw iw_4 rfl ob_1 (by decide) (by decide) fl_X4_12 rfl rfl dX4_readProduct_26 ?_
          refine ti_get (ci := 7) (k := 4) (N := 7) (T := TX7) C hw iw_7 rfl ob_2 (by decide) (by decide) fl_X4_41 rfl rfl dX4_readProduct_29 ?_
          refine ti_top (y := x_15) (ex_15.symm) ?_
          have u_17 : (tI M_9 2 4).toInt = (x_15 : Int32).toInt := by rw [(ex_15.symm)]
          refine lv_bipush (v := 41) hx hb dX4_readProduct_32 (by decide) ?_
          refine sb_icmp_ne (tgt := 69) hx hb rfl (by decide : (41 : Int32).toInt = 41) dX4_readProduct_34 (by decide) (fun c_34_17 => ?_) (fun c_34_17 => ?_)
          · exact hQ _ _ _ _ _ hw (⟨iM_9, (f_10), f_11, (f_12)⟩) dX4_readProduct_69
          · have u_21 : (tI M_9 2 4).toInt = (x_15 : Int32).toInt := by rw [(ex_15.symm)]
            exact hj_37_19  _ _ _ (by first | omega | decide) hw (lv_sub hl [0, 1, 2] rfl)
  exact hl_7_12 ((64 - 0 : Int).toNat + 1) 0 M_2 _ _ _ (Nat.lt_succ_self _) (by have lt0 : (0 : Int32).toInt = 0 := (by decide); first | omega | decide) (by have lt0 : (0 : Int32).toInt = 0 := (by decide); first | omega | decide) iM_2 (q_3) q_4 (q_5) hw (lv_sub hl [0, 1, 2] rfl)
set_option maxHeartbeats 4000000 in
set_option maxRecDepth 100000 in
theorem s_X4_readSum_2 (l : Launch) (D : va_G) (A : Nat → Nat → Nat) (cy : Nat → ClassId) (hJ : ti_inj ti_LT A) (M : ti_M) (hI : cI Tc M) (t : Nat) (ht : t = 3 ∨ t = 4) (hT : tT M 1 1 = some t) (lw : Nat) (hlw : ti_ob ti_LT lw 1) (hL : tT M 1 2 = some lw) : ti_KvE l yX4_readSum cX4_readSum 4 52 ti_LT D A cy M [.ref (A 1 0), .int 2] (fun M2 => cI Tc M2 ∧ M2.2.2.2 = M.2.2.2 ∧ f0 M2 M ∧ tI M2 2 1 = tI M 2 1) := by
  refine ti_eVE yp_X4_readSum hJ ti_LT_nd (Nat.le_of_ble_eq_true rfl) ?_
  intro p e s m args below meth c Q H0 C hE hQ hw ls hl
  have hx := C.1
  have hb := C.2.1
  have hl : lv_has ls 4 [(0, .ref (A 1 0)), (1, .int 2)] := hl
  refine lv_aload_n hx hb dX4_readSum_0 rfl (lv_at hl 0 rfl) ?_
  refine lv_iload_n hx hb dX4_readSum_1 rfl (lv_at hl 1 rfl) ?_
  refine ti_callVvE (ci := 4) (av := [.int 2]) C hE hw (s_X4_readProduct_2 l D A cy hJ M hI t ht (hT) lw hlw (hL)) ⟨ml_X4_184, ym_X4_readProduct, yv_X4_readProduct, yi_X4_readProduct, yc_X4_readProduct⟩ yd_X4_readProduct ob_1 (by decide) rfl rfl hl.1 (Nat.le_of_ble_eq_true rfl) ⟨by decide, by decide⟩ ⟨Nat.zero_le _, Nat.zero_le _⟩ dX4_readSum_2 (fun M_2 H locs hp_2 hw => ?_)
  obtain ⟨iM_2, q_3, q_4, q_5⟩ := hp_2
  refine lv_iconst (v := 0) hx hb dX4_readSum_5 (by decide) ?_
  refine lv_istore_n (lv' := [(2, .int 0), (0, .ref (A 1 0)), (1, .int 2)]) hx hb dX4_readSum_6 rfl hl (by decide) rfl (fun ls hl => ?_)
  have hl_7_12 : ∀ (n_13 : Nat) (x_6 : Int32) (M_9 : ti_M) (H : Heap) (locs : List Loc) (ls : Array Slot), (64 - x_6.toInt : Int).toNat < n_13 → (0 ≤ x_6.toInt) → (x_6.toInt ≤ 64) → (cI Tc M_9) → (M_9.2.2.2 = M.2.2.2) → (f0 M_9 M) → (tI M_9 2 1 = tI M 2 1) → ti_H ti_LT D A cy H0 M_9 H locs → lv_has ls 4 [(2, .int x_6), (0, .ref (A 1 0)), (1, .int 2)] → W p l e (ti_rm 52) s m args below meth c H locs 0 0 Q (F0 m 7 ls []) := by
    intro n_13
    induction n_13 with
    | zero => intro x_6 M_9 H locs ls hf_13; exact absurd hf_13 (Nat.not_lt_zero _)
    | succ n_13 ih_13 =>
      intro x_6 M_9 H locs ls hf_13 b_7 b_8 iM_9 f_10 f_11 f_12 hw hl
      refine lv_iload_n hx hb dX4_readSum_7 rfl (lv_at hl 0 rfl) ?_
      refine lv_bipush (v := 64) hx hb dX4_readSum_8 (by decide) ?_
      refine sb_icmp_ge (tgt := 69) hx hb rfl (by decide : (64 : Int32).toInt = 64) dX4_readSum_10 (by decide) (fun c_10_13 => ?_) (fun c_10_13 => ?_)
      · exact hQ _ _ _ _ _ hw (⟨iM_9, (f_10), f_11, (f_12)⟩) dX4_readSum_69
      · refine lv_aload_n hx hb dX4_readSum_13 rfl (lv_at hl 1 rfl) ?_
        refine ti_get (ci := 4) (k := 0) (N := 6) (T := TX4) (v := .ref (A 2 0)) C hw iw_4 rfl ob_1 (by decide) (by decide) fl_X4_12 rfl rfl dX4_readSum_14 ?_
        refine ti_get (ci := 7) (k := 4) (N := 7) (T := TX7) C hw iw_7 rfl ob_2 (by decide) (by decide) fl_X4_41 rfl rfl dX4_readSum_17 ?_
        refine lv_topi (fun x_15 ex_15 => ?_)
        have bx_15 : 0 ≤ x_15.toInt ∧ x_15.toInt ≤ 41 := cI_rd iM_9 ob_2.1 ex_15
        have ux_15 : (tI M_9 2 4).toInt = x_15.toInt := by rw [ex_15]
        refine lv_bipush (v := 38) hx hb dX4_readSum_20 (by decide) ?_
        have hj_37_19 : ∀  (H : Heap) (locs : List Loc) (ls : Array Slot), (16 ≤ (tI M_9 2 4).toInt) → ti_H ti_LT D A cy H0 M_9 H locs → lv_has ls 4 [(2, .int x_6), (0, .ref (A 1 0)), (1, .int 2)] → W p l e (ti_rm 52) s m args below meth c H locs 0 0 Q (F0 m 37 ls []) := by
          intro  H locs ls j_19 hw hl
          refine lv_aload_n hx hb dX4_readSum_37 rfl (lv_at hl 1 rfl) ?_
          refine ti_get (ci := 4) (k := 0) (N := 6) (T := TX4) (v := .ref (A 2 0)) C hw iw_4 rfl ob_1 (by decide) (by decide) fl_X4_12 rfl rfl dX4_readSum_38 ?_
          refine ti_get (ci := 7) (k := 4) (N := 7) (T := TX7) C hw iw_7 rfl ob_2 (by decide) (by decide) fl_X4_41 rfl rfl dX4_readSum_41 ?_
          refine ti_top (y := x_15) (ex_15.symm) ?_
          have u_22 : (tI M_9 2 4).toInt = (x_15 : Int32).toInt := by rw [(ex_15.symm)]
          refine lv_istore_n (lv' := [(3, .int x_15), (2, .int x_6), (0, .ref (A 1 0)), (1, .int 2)]) hx hb dX4_readSum_44 rfl hl (by decide) rfl (fun ls hl => ?_)
          refine lv_aload_n hx hb dX4_readSum_45 rfl (lv_at hl 2 rfl) ?_
          refine ti_callVvE (ci := 4) (av := []) C hE hw (s_X4_knot l D A cy hJ M_9 iM_9 t ht ((tT_fr f_10).trans hT)) ⟨ml_X4_167, ym_X4_knot, yv_X4_knot, yi_X4_knot, yc_X4_knot⟩ yd_X4_knot ob_1 (by decide) rfl rfl hl.1 (Nat.le_of_ble_eq_true rfl) ⟨by decide, by decide⟩ ⟨Nat.zero_le _, Nat.zero_le _⟩ dX4_readSum_46 (fun M_24 H locs hp_24 hw => ?_)
          obtain ⟨iM_24, q_25, q_26, q_27⟩ := hp_24
          refine lv_aload_n hx hb dX4_readSum_49 rfl (lv_at hl 2 rfl) ?_
          refine lv_iload_n hx hb dX4_readSum_50 rfl (lv_at hl 3 rfl) ?_
          refine ti_callVvE (ci := 4) (av := [.int 2]) C hE hw (s_X4_readProduct_2 l D A cy hJ M_24 iM_24 t ht ((tT_fr q_25).trans ((tT_fr f_10).trans hT)) lw hlw ((tT_fr q_25).trans ((tT_fr f_10).trans hL))) ⟨ml_X4_184, ym_X4_readProduct, yv_X4_readProduct, yi_X4_readProduct, yc_X4_readProduct⟩ yd_X4_readProduct ob_1 (by decide) rfl rfl hl.1 (Nat.le_of_ble_eq_true rfl) ⟨by decide, by decide⟩ ⟨Nat.zero_le _, Nat.zero_le _⟩ dX4_readSum_51 (fun M_29 H locs hp_29 hw => ?_)
          obtain ⟨iM_29, q_30, q_31, q_32⟩ := hp_29
          refine lv_aload_n hx hb dX4_readSum_54 rfl (lv_at hl 2 rfl) ?_
          refine ti_get (ci := 4) (k := 2) (N := 6) (T := TX4) (v := .ref (A lw 0)) C hw iw_4 rfl ob_1 (by decide) (by decide) fl_X4_154 rfl (ti_Tv ((tT_fr q_30).trans ((tT_fr q_25).trans ((tT_fr f_10).trans hL)))) dX4_readSum_55 ?_
          refine lv_iload_n hx hb dX4_readSum_58 rfl (lv_at hl 0 rfl) ?_
          refine lv_ineg hx hb dX4_readSum_59 ?_
          refine lv_topi (fun x_33 ex_33 => ?_)
          have tx_33 : x_33.toInt = -x_15.toInt := i_neg ex_33 rfl (by omega)
          refine ti_callVv (ci := 1) (av := [.int x_33]) C hw (s_X1_add l D A cy hJ M_29 iM_29 lw hlw x_33 (by first | omega | exact Or.inl (by decide) | exact Or.inr (by decide))) ⟨ml_X4_170, ym_X1_add, yv_X1_add, yi_X1_add, yc_X1_add⟩ yd_X1_add hlw (by decide) rfl rfl hl.1 (Nat.le_of_ble_eq_true rfl) ⟨by decide, by decide⟩ ⟨Nat.zero_le _, Nat.zero_le _⟩ dX4_readSum_60 (fun M_35 H locs hp_35 hw => ?_)
          obtain ⟨iM_35, q_36, q_37⟩ := hp_35
          obtain ⟨x_38, ex_38⟩ : ∃ z : Int32, z = x_6 + 1 := ⟨_, rfl⟩
          have tx_38 : x_38.toInt = x_6.toInt + 1 := i_add ex_38 rfl (by decide) (by omega) (by omega)
          refine lv_iinc (v := x_38) (lv' := [(2, .int x_38), (3, .int x_15), (0, .ref (A 1 0)), (1, .int 2)]) hx hb dX4_readSum_63 hl (k := 1) rfl (by rw [ex_38]; rfl) (by decide) rfl (fun ls hl => ?_)
          refine lv_goto (tgt := 7) hx hb dX4_readSum_66 (by decide) ?_
          exact ih_13 x_38 M_35 _ _ _ (by omega) (by first | omega | decide) (by first | omega | decide) iM_35 ((q_36).trans ((q_30).trans ((q_25).trans f_10))) (f0.trans (f0_x q_37) (f0.trans q_31 (f0.trans q_26 f_11))) (((q_37 1).2.1).trans ((q_32).trans ((q_27).trans f_12))) hw (lv_sub hl [0, 2, 3] rfl)
        refine sb_icmp_eq (tgt := 37) hx hb rfl (by decide : (38 : Int32).toInt = 38) dX4_readSum_22 (by decide) (fun c_22_15 => ?_) (fun c_22_15 => ?_)
        · have u_20 : (tI M_9 2 4).toInt = (x_15 : Int32).toInt := by rw [(ex_15.symm)]
          exact hj_37_19  _ _ _ (by first | omega | decide) hw (lv_sub hl [0, 1, 2] rfl)
        · refine lv_aload_n hx hb dX4_readSum_25 rfl (lv_at hl 1 rfl) ?_
          refine ti_get (ci := 4) (k := 0) (N := 6) (T := TX4) (v := .ref (A 2 0)) C hw iw_4 rfl ob_1 (by decide) (by decide) fl_X4_12 rfl rfl dX4_readSum_26 ?_
          refine ti_get (ci := 7) (k := 4) (N := 7) (T := TX7) C hw iw_7 rfl ob_2 (by decide) (by decide) fl_X4_41 rfl rfl dX4_readSum_29 ?_
          refine ti_top (y := x_15) (ex_15.symm) ?_
          have u_17 : (tI M_9 2 4).toInt = (x_15 : Int32).toInt := by rw [(ex_15.symm)]
          refine lv_bipush (v := 39) hx hb dX4_readSum_32 (by decide) ?_
          refine sb_icmp_ne (tgt := 69) hx hb rfl (by decide : (39 : Int32).toInt = 39) dX4_readSum_34 (by decide) (fun c_34_17 => ?_) (fun c_34_17 => ?_)
          · exact hQ _ _ _ _ _ hw (⟨iM_9, (f_10), f_11, (f_12)⟩) dX4_readSum_69
          · have u_21 : (tI M_9 2 4).toInt = (x_15 : Int32).toInt := by rw [(ex_15.symm)]
            exact hj_37_19  _ _ _ (by first | omega | decide) hw (lv_sub hl [0, 1, 2] rfl)
  exact hl_7_12 ((64 - 0 : Int).toNat + 1) 0 M_2 _ _ _ (Nat.lt_succ_self _) (by have lt0 : (0 : Int32).toInt = 0 := (by decide); first | omega | decide) (by have lt0 : (0 : Int32).toInt = 0 := (by decide); first | omega | decide) iM_2 (q_3) q_4 (q_5) hw (lv_sub hl [0, 1, 2] rfl)
set_option maxHeartbeats 4000000 in
set_option maxRecDepth 100000 in
theorem s_X4_readComparison_2 (l : Launch) (D : va_G) (A : Nat → Nat → Nat) (cy : Nat → ClassId) (hJ : ti_inj ti_LT A) (M : ti_M) (hI : cI Tc M) (t : Nat) (ht : t = 3 ∨ t = 4) (hT : tT M 1 1 = some t) (lw : Nat) (hlw : ti_ob ti_LT lw 1) (hL : tT M 1 2 = some lw) : ti_KvE l yX4_readComparison cX4_readComparison 3 53 ti_LT D A cy M [.ref (A 1 0), .int 2] (fun M2 => cI Tc M2 ∧ M2.2.2.2 = M.2.2.2 ∧ f0 M2 M ∧ tI M2 2 1 = tI M 2 1) := by
  refine ti_eVE yp_X4_readComparison hJ ti_LT_nd (Nat.le_of_ble_eq_true rfl) ?_
  intro p e s m args below meth c Q H0 C hE hQ hw ls hl
  have hx := C.1
  have hb := C.2.1
  have hl : lv_has ls 3 [(0, .ref (A 1 0)), (1, .int 2)] := hl
  refine lv_aload_n hx hb dX4_readComparison_0 rfl (lv_at hl 0 rfl) ?_
  refine lv_iload_n hx hb dX4_readComparison_1 rfl (lv_at hl 1 rfl) ?_
  refine ti_callVvE (ci := 4) (av := [.int 2]) C hE hw (s_X4_readSum_2 l D A cy hJ M hI t ht (hT) lw hlw (hL)) ⟨ml_X4_181, ym_X4_readSum, yv_X4_readSum, yi_X4_readSum, yc_X4_readSum⟩ yd_X4_readSum ob_1 (by decide) rfl rfl hl.1 (Nat.le_of_ble_eq_true rfl) ⟨by decide, by decide⟩ ⟨Nat.zero_le _, Nat.zero_le _⟩ dX4_readComparison_2 (fun M_2 H locs hp_2 hw => ?_)
  obtain ⟨iM_2, q_3, q_4, q_5⟩ := hp_2
  refine lv_aload_n hx hb dX4_readComparison_5 rfl (lv_at hl 0 rfl) ?_
  refine ti_get (ci := 4) (k := 0) (N := 6) (T := TX4) (v := .ref (A 2 0)) C hw iw_4 rfl ob_1 (by decide) (by decide) fl_X4_12 rfl rfl dX4_readComparison_6 ?_
  refine ti_get (ci := 7) (k := 4) (N := 7) (T := TX7) C hw iw_7 rfl ob_2 (by decide) (by decide) fl_X4_41 rfl rfl dX4_readComparison_9 ?_
  refine lv_topi (fun x_6 ex_6 => ?_)
  have bx_6 : 0 ≤ x_6.toInt ∧ x_6.toInt ≤ 41 := cI_rd iM_2 ob_2.1 ex_6
  have ux_6 : (tI M_2 2 4).toInt = x_6.toInt := by rw [ex_6]
  refine lv_istore_n (lv' := [(2, .int x_6), (0, .ref (A 1 0)), (1, .int 2)]) hx hb dX4_readComparison_12 rfl hl (by decide) rfl (fun ls hl => ?_)
  refine lv_iload_n hx hb dX4_readComparison_13 rfl (lv_at hl 0 rfl) ?_
  refine lv_bipush (v := 32) hx hb dX4_readComparison_14 (by decide) ?_
  refine sb_icmp_lt (tgt := 43) hx hb rfl (by decide : (32 : Int32).toInt = 32) dX4_readComparison_16 (by decide) (fun c_16_6 => ?_) (fun c_16_6 => ?_)
  · exact hQ _ _ _ _ _ hw (⟨iM_2, (q_3), q_4, (q_5)⟩) dX4_readComparison_43
  · refine lv_iload_n hx hb dX4_readComparison_19 rfl (lv_at hl 0 rfl) ?_
    refine lv_bipush (v := 37) hx hb dX4_readComparison_20 (by decide) ?_
    refine sb_icmp_gt (tgt := 43) hx hb rfl (by decide : (37 : Int32).toInt = 37) dX4_readComparison_22 (by decide) (fun c_22_7 => ?_) (fun c_22_7 => ?_)
    · exact hQ _ _ _ _ _ hw (⟨iM_2, (q_3), q_4, (q_5)⟩) dX4_readComparison_43
    · refine lv_aload_n hx hb dX4_readComparison_25 rfl (lv_at hl 1 rfl) ?_
      refine ti_callVvE (ci := 4) (av := []) C hE hw (s_X4_knot l D A cy hJ M_2 iM_2 t ht ((tT_fr q_3).trans hT)) ⟨ml_X4_167, ym_X4_knot, yv_X4_knot, yi_X4_knot, yc_X4_knot⟩ yd_X4_knot ob_1 (by decide) rfl rfl hl.1 (Nat.le_of_ble_eq_true rfl) ⟨by decide, by decide⟩ ⟨Nat.zero_le _, Nat.zero_le _⟩ dX4_readComparison_26 (fun M_10 H locs hp_10 hw => ?_)
      obtain ⟨iM_10, q_11, q_12, q_13⟩ := hp_10
      refine lv_aload_n hx hb dX4_readComparison_29 rfl (lv_at hl 1 rfl) ?_
      refine lv_iload_n hx hb dX4_readComparison_30 rfl (lv_at hl 2 rfl) ?_
      refine ti_callVvE (ci := 4) (av := [.int 2]) C hE hw (s_X4_readSum_2 l D A cy hJ M_10 iM_10 t ht ((tT_fr q_11).trans ((tT_fr q_3).trans hT)) lw hlw ((tT_fr q_11).trans ((tT_fr q_3).trans hL))) ⟨ml_X4_181, ym_X4_readSum, yv_X4_readSum, yi_X4_readSum, yc_X4_readSum⟩ yd_X4_readSum ob_1 (by decide) rfl rfl hl.1 (Nat.le_of_ble_eq_true rfl) ⟨by decide, by decide⟩ ⟨Nat.zero_le _, Nat.zero_le _⟩ dX4_readComparison_31 (fun M_15 H locs hp_15 hw => ?_)
      obtain ⟨iM_15, q_16, q_17, q_18⟩ := hp_15
      refine lv_aload_n hx hb dX4_readComparison_34 rfl (lv_at hl 1 rfl) ?_
      refine ti_get (ci := 4) (k := 2) (N := 6) (T := TX4) (v := .ref (A lw 0)) C hw iw_4 rfl ob_1 (by decide) (by decide) fl_X4_154 rfl (ti_Tv ((tT_fr q_16).trans ((tT_fr q_11).trans ((tT_fr q_3).trans hL)))) dX4_readComparison_35 ?_
      refine lv_iload_n hx hb dX4_readComparison_38 rfl (lv_at hl 0 rfl) ?_
      refine lv_ineg hx hb dX4_readComparison_39 ?_
      refine lv_topi (fun x_19 ex_19 => ?_)
      have tx_19 : x_19.toInt = -x_6.toInt := i_neg ex_19 rfl (by omega)
      refine ti_callVv (ci := 1) (av := [.int x_19]) C hw (s_X1_add l D A cy hJ M_15 iM_15 lw hlw x_19 (by first | omega | exact Or.inl (by decide) | exact Or.inr (by decide))) ⟨ml_X4_170, ym_X1_add, yv_X1_add, yi_X1_add, yc_X1_add⟩ yd_X1_add hlw (by decide) rfl rfl hl.1 (Nat.le_of_ble_eq_true rfl) ⟨by decide, by decide⟩ ⟨Nat.zero_le _, Nat.zero_le _⟩ dX4_readComparison_40 (fun M_21 H locs hp_21 hw => ?_)
      obtain ⟨iM_21, q_22, q_23⟩ := hp_21
      exact hQ _ _ _ _ _ hw (⟨iM_21, ((q_22).trans ((q_16).trans ((q_11).trans q_3))), (f0.trans (f0_x q_23) (f0.trans q_17 (f0.trans q_12 q_4))), (((q_23 1).2.1).trans ((q_18).trans ((q_13).trans q_5)))⟩) dX4_readComparison_43
set_option maxHeartbeats 4000000 in
set_option maxRecDepth 100000 in
theorem s_X4_readNegated_2 (l : Launch) (D : va_G) (A : Nat → Nat → Nat) (cy : Nat → ClassId) (hJ : ti_inj ti_LT A) (M : ti_M) (hI : cI Tc M) (t : Nat) (ht : t = 3 ∨ t = 4) (hT : tT M 1 1 = some t) (lw : Nat) (hlw : ti_ob ti_LT lw 1) (hL : tT M 1 2 = some lw) : ti_KvE l yX4_readNegated cX4_readNegated 4 54 ti_LT D A cy M [.ref (A 1 0), .int 2] (fun M2 => cI Tc M2 ∧ M2.2.2.2 = M.2.2.2 ∧ f0 M2 M ∧ tI M2 2 1 = tI M 2 1) := by
  refine ti_eVE yp_X4_readNegated hJ ti_LT_nd (Nat.le_of_ble_eq_true rfl) ?_
  intro p e s m args below meth c Q H0 C hE hQ hw ls hl
  have hx := C.1
  have hb := C.2.1
  have hl : lv_has ls 4 [(0, .ref (A 1 0)), (1, .int 2)] := hl
  refine lv_iconst (v := 0) hx hb dX4_readNegated_0 (by decide) ?_
  refine lv_istore_n (lv' := [(2, .int 0), (0, .ref (A 1 0)), (1, .int 2)]) hx hb dX4_readNegated_1 rfl hl (by decide) rfl (fun ls hl => ?_)
  have hl_2_7 : ∀ (n_8 : Nat) (x_1 : Int32) (M_4 : ti_M) (H : Heap) (locs : List Loc) (ls : Array Slot), (65 - x_1.toInt : Int).toNat < n_8 → (0 ≤ x_1.toInt) → (x_1.toInt ≤ 65) → (cI Tc M_4) → (M_4.2.2.2 = M.2.2.2) → (f0 M_4 M) → (tI M_4 2 1 = tI M 2 1) → ti_H ti_LT D A cy H0 M_4 H locs → lv_has ls 4 [(2, .int x_1), (0, .ref (A 1 0)), (1, .int 2)] → W p l e (ti_rm 54) s m args below meth c H locs 0 0 Q (F0 m 2 ls []) := by
    intro n_8
    induction n_8 with
    | zero => intro x_1 M_4 H locs ls hf_8; exact absurd hf_8 (Nat.not_lt_zero _)
    | succ n_8 ih_8 =>
      intro x_1 M_4 H locs ls hf_8 b_2 b_3 iM_4 f_5 f_6 f_7 hw hl
      refine lv_iload_n hx hb dX4_readNegated_2 rfl (lv_at hl 0 rfl) ?_
      refine lv_bipush (v := 64) hx hb dX4_readNegated_3 (by decide) ?_
      have hj_30_17 : ∀  (H : Heap) (locs : List Loc) (ls : Array Slot), ti_H ti_LT D A cy H0 M_4 H locs → lv_has ls 4 [(2, .int x_1), (0, .ref (A 1 0)), (1, .int 2)] → W p l e (ti_rm 54) s m args below meth c H locs 0 0 Q (F0 m 30 ls []) := by
        intro  H locs ls  hw hl
        refine lv_aload_n hx hb dX4_readNegated_30 rfl (lv_at hl 1 rfl) ?_
        refine lv_iload_n hx hb dX4_readNegated_31 rfl (lv_at hl 2 rfl) ?_
        refine ti_callVvE (ci := 4) (av := [.int 2]) C hE hw (s_X4_readComparison_2 l D A cy hJ M_4 iM_4 t ht ((tT_fr f_5).trans hT) lw hlw ((tT_fr f_5).trans hL)) ⟨ml_X4_178, ym_X4_readComparison, yv_X4_readComparison, yi_X4_readComparison, yc_X4_readComparison⟩ yd_X4_readComparison ob_1 (by decide) rfl rfl hl.1 (Nat.le_of_ble_eq_true rfl) ⟨by decide, by decide⟩ ⟨Nat.zero_le _, Nat.zero_le _⟩ dX4_readNegated_32 (fun M_19 H locs hp_19 hw => ?_)
        obtain ⟨iM_19, q_20, q_21, q_22⟩ := hp_19
        refine lv_iconst (v := 0) hx hb dX4_readNegated_35 (by decide) ?_
        refine lv_istore_n (lv' := [(3, .int 0), (2, .int x_1), (0, .ref (A 1 0)), (1, .int 2)]) hx hb dX4_readNegated_36 rfl hl (by decide) rfl (fun ls hl => ?_)
        have hl_37_29 : ∀ (n_30 : Nat) (x_23 : Int32) (M_26 : ti_M) (H : Heap) (locs : List Loc) (ls : Array Slot), (65 - x_23.toInt : Int).toNat < n_30 → (0 ≤ x_23.toInt) → (x_23.toInt ≤ 65) → (cI Tc M_26) → (M_26.2.2.2 = M.2.2.2) → (f0 M_26 M) → (tI M_26 2 1 = tI M 2 1) → ti_H ti_LT D A cy H0 M_26 H locs → lv_has ls 4 [(3, .int x_23), (2, .int x_1), (0, .ref (A 1 0)), (1, .int 2)] → W p l e (ti_rm 54) s m args below meth c H locs 0 0 Q (F0 m 37 ls []) := by
          intro n_30
          induction n_30 with
          | zero => intro x_23 M_26 H locs ls hf_30; exact absurd hf_30 (Nat.not_lt_zero _)
          | succ n_30 ih_30 =>
            intro x_23 M_26 H locs ls hf_30 b_24 b_25 iM_26 f_27 f_28 f_29 hw hl
            refine lv_iload_n hx hb dX4_readNegated_37 rfl (lv_at hl 0 rfl) ?_
            refine lv_iload_n hx hb dX4_readNegated_38 rfl (lv_at hl 1 rfl) ?_
            refine sb_icmp_ge (tgt := 57) hx hb rfl rfl dX4_readNegated_39 (by decide) (fun c_39_30 => ?_) (fun c_39_30 => ?_)
            · exact hQ _ _ _ _ _ hw (⟨iM_26, (f_27), f_28, (f_29)⟩) dX4_readNegated_57
            · refine lv_aload_n hx hb dX4_readNegated_42 rfl (lv_at hl 2 rfl) ?_
              refine ti_get (ci := 4) (k := 2) (N := 6) (T := TX4) (v := .ref (A lw 0)) C hw iw_4 rfl ob_1 (by decide) (by decide) fl_X4_154 rfl (ti_Tv ((tT_fr f_27).trans hL)) dX4_readNegated_43 ?_
              refine lv_bipush (v := (-24)) hx hb dX4_readNegated_46 (by decide) ?_
              refine ti_callVv (ci := 1) (av := [.int (-24)]) C hw (s_X1_add l D A cy hJ M_26 iM_26 lw hlw (-24) (by first | omega | exact Or.inl (by decide) | exact Or.inr (by decide))) ⟨ml_X4_170, ym_X1_add, yv_X1_add, yi_X1_add, yc_X1_add⟩ yd_X1_add hlw (by decide) rfl rfl hl.1 (Nat.le_of_ble_eq_true rfl) ⟨by decide, by decide⟩ ⟨Nat.zero_le _, Nat.zero_le _⟩ dX4_readNegated_48 (fun M_33 H locs hp_33 hw => ?_)
              obtain ⟨iM_33, q_34, q_35⟩ := hp_33
              obtain ⟨x_36, ex_36⟩ : ∃ z : Int32, z = x_23 + 1 := ⟨_, rfl⟩
              have tx_36 : x_36.toInt = x_23.toInt + 1 := i_add ex_36 rfl (by decide) (by omega) (by omega)
              refine lv_iinc (v := x_36) (lv' := [(3, .int x_36), (2, .int x_1), (0, .ref (A 1 0)), (1, .int 2)]) hx hb dX4_readNegated_51 hl (k := 0) rfl (by rw [ex_36]; rfl) (by decide) rfl (fun ls hl => ?_)
              refine lv_goto (tgt := 37) hx hb dX4_readNegated_54 (by decide) ?_
              exact ih_30 x_36 M_33 _ _ _ (by omega) (by first | omega | decide) (by first | omega | decide) iM_33 ((q_34).trans f_27) (f0.trans (f0_x q_35) f_28) (((q_35 1).2.1).trans f_29) hw (lv_sub hl [0, 1, 2, 3] rfl)
        exact hl_37_29 ((65 - 0 : Int).toNat + 1) 0 M_19 _ _ _ (Nat.lt_succ_self _) (by have lt0 : (0 : Int32).toInt = 0 := (by decide); first | omega | decide) (by have lt0 : (0 : Int32).toInt = 0 := (by decide); first | omega | decide) iM_19 ((q_20).trans f_5) (f0.trans q_21 f_6) ((q_22).trans f_7) hw (lv_sub hl [0, 1, 2, 3] rfl)
      refine sb_icmp_gt (tgt := 30) hx hb rfl (by decide : (64 : Int32).toInt = 64) dX4_readNegated_5 (by decide) (fun c_5_8 => ?_) (fun c_5_8 => ?_)
      · exact hj_30_17  _ _ _  hw (lv_sub hl [0, 1, 2] rfl)
      · refine lv_aload_n hx hb dX4_readNegated_8 rfl (lv_at hl 1 rfl) ?_
        refine ti_get (ci := 4) (k := 0) (N := 6) (T := TX4) (v := .ref (A 2 0)) C hw iw_4 rfl ob_1 (by decide) (by decide) fl_X4_12 rfl rfl dX4_readNegated_9 ?_
        refine ti_get (ci := 7) (k := 4) (N := 7) (T := TX7) C hw iw_7 rfl ob_2 (by decide) (by decide) fl_X4_41 rfl rfl dX4_readNegated_12 ?_
        refine lv_topi (fun x_10 ex_10 => ?_)
        have bx_10 : 0 ≤ x_10.toInt ∧ x_10.toInt ≤ 41 := cI_rd iM_4 ob_2.1 ex_10
        have ux_10 : (tI M_4 2 4).toInt = x_10.toInt := by rw [ex_10]
        refine lv_bipush (v := 24) hx hb dX4_readNegated_15 (by decide) ?_
        refine sb_icmp_ne (tgt := 30) hx hb rfl (by decide : (24 : Int32).toInt = 24) dX4_readNegated_17 (by decide) (fun c_17_10 => ?_) (fun c_17_10 => ?_)
        · exact hj_30_17  _ _ _  hw (lv_sub hl [0, 1, 2] rfl)
        · refine lv_aload_n hx hb dX4_readNegated_20 rfl (lv_at hl 1 rfl) ?_
          refine ti_callVvE (ci := 4) (av := []) C hE hw (s_X4_knot l D A cy hJ M_4 iM_4 t ht ((tT_fr f_5).trans hT)) ⟨ml_X4_167, ym_X4_knot, yv_X4_knot, yi_X4_knot, yc_X4_knot⟩ yd_X4_knot ob_1 (by decide) rfl rfl hl.1 (Nat.le_of_ble_eq_true rfl) ⟨by decide, by decide⟩ ⟨Nat.zero_le _, Nat.zero_le _⟩ dX4_readNegated_21 (fun M_13 H locs hp_13 hw => ?_)
          obtain ⟨iM_13, q_14, q_15, q_16⟩ := hp_13
          obtain ⟨x_17, ex_17⟩ : ∃ z : Int32, z = x_1 + 1 := ⟨_, rfl⟩
          have tx_17 : x_17.toInt = x_1.toInt + 1 := i_add ex_17 rfl (by decide) (by omega) (by omega)
          refine lv_iinc (v := x_17) (lv' := [(2, .int x_17), (0, .ref (A 1 0)), (1, .int 2)]) hx hb dX4_readNegated_24 hl (k := 0) rfl (by rw [ex_17]; rfl) (by decide) rfl (fun ls hl => ?_)
          refine lv_goto (tgt := 2) hx hb dX4_readNegated_27 (by decide) ?_
          exact ih_8 x_17 M_13 _ _ _ (by omega) (by first | omega | decide) (by first | omega | decide) iM_13 ((q_14).trans f_5) (f0.trans q_15 f_6) ((q_16).trans f_7) hw (lv_sub hl [0, 1, 2] rfl)
  exact hl_2_7 ((65 - 0 : Int).toNat + 1) 0 M _ _ _ (Nat.lt_succ_self _) (by have lt0 : (0 : Int32).toInt = 0 := (by decide); first | omega | decide) (by have lt0 : (0 : Int32).toInt = 0 := (by decide); first | omega | decide) hI rfl f0.refl rfl hw (lv_sub hl [0, 1, 2] rfl)
set_option maxHeartbeats 4000000 in
set_option maxRecDepth 100000 in
theorem s_X4_readBoth_2 (l : Launch) (D : va_G) (A : Nat → Nat → Nat) (cy : Nat → ClassId) (hJ : ti_inj ti_LT A) (M : ti_M) (hI : cI Tc M) (t : Nat) (ht : t = 3 ∨ t = 4) (hT : tT M 1 1 = some t) (lw : Nat) (hlw : ti_ob ti_LT lw 1) (hL : tT M 1 2 = some lw) : ti_KvE l yX4_readBoth cX4_readBoth 3 55 ti_LT D A cy M [.ref (A 1 0), .int 2] (fun M2 => cI Tc M2 ∧ M2.2.2.2 = M.2.2.2 ∧ f0 M2 M ∧ tI M2 2 1 = tI M 2 1) := by
  refine ti_eVE yp_X4_readBoth hJ ti_LT_nd (Nat.le_of_ble_eq_true rfl) ?_
  intro p e s m args below meth c Q H0 C hE hQ hw ls hl
  have hx := C.1
  have hb := C.2.1
  have hl : lv_has ls 3 [(0, .ref (A 1 0)), (1, .int 2)] := hl
  refine lv_aload_n hx hb dX4_readBoth_0 rfl (lv_at hl 0 rfl) ?_
  refine lv_iload_n hx hb dX4_readBoth_1 rfl (lv_at hl 1 rfl) ?_
  refine ti_callVvE (ci := 4) (av := [.int 2]) C hE hw (s_X4_readNegated_2 l D A cy hJ M hI t ht (hT) lw hlw (hL)) ⟨ml_X4_175, ym_X4_readNegated, yv_X4_readNegated, yi_X4_readNegated, yc_X4_readNegated⟩ yd_X4_readNegated ob_1 (by decide) rfl rfl hl.1 (Nat.le_of_ble_eq_true rfl) ⟨by decide, by decide⟩ ⟨Nat.zero_le _, Nat.zero_le _⟩ dX4_readBoth_2 (fun M_2 H locs hp_2 hw => ?_)
  obtain ⟨iM_2, q_3, q_4, q_5⟩ := hp_2
  refine lv_iconst (v := 0) hx hb dX4_readBoth_5 (by decide) ?_
  refine lv_istore_n (lv' := [(2, .int 0), (0, .ref (A 1 0)), (1, .int 2)]) hx hb dX4_readBoth_6 rfl hl (by decide) rfl (fun ls hl => ?_)
  have hl_7_12 : ∀ (n_13 : Nat) (x_6 : Int32) (M_9 : ti_M) (H : Heap) (locs : List Loc) (ls : Array Slot), (64 - x_6.toInt : Int).toNat < n_13 → (0 ≤ x_6.toInt) → (x_6.toInt ≤ 64) → (cI Tc M_9) → (M_9.2.2.2 = M.2.2.2) → (f0 M_9 M) → (tI M_9 2 1 = tI M 2 1) → ti_H ti_LT D A cy H0 M_9 H locs → lv_has ls 3 [(2, .int x_6), (0, .ref (A 1 0)), (1, .int 2)] → W p l e (ti_rm 55) s m args below meth c H locs 0 0 Q (F0 m 7 ls []) := by
    intro n_13
    induction n_13 with
    | zero => intro x_6 M_9 H locs ls hf_13; exact absurd hf_13 (Nat.not_lt_zero _)
    | succ n_13 ih_13 =>
      intro x_6 M_9 H locs ls hf_13 b_7 b_8 iM_9 f_10 f_11 f_12 hw hl
      refine lv_iload_n hx hb dX4_readBoth_7 rfl (lv_at hl 0 rfl) ?_
      refine lv_bipush (v := 64) hx hb dX4_readBoth_8 (by decide) ?_
      refine sb_icmp_ge (tgt := 49) hx hb rfl (by decide : (64 : Int32).toInt = 64) dX4_readBoth_10 (by decide) (fun c_10_13 => ?_) (fun c_10_13 => ?_)
      · exact hQ _ _ _ _ _ hw (⟨iM_9, (f_10), f_11, (f_12)⟩) dX4_readBoth_49
      · refine lv_aload_n hx hb dX4_readBoth_13 rfl (lv_at hl 1 rfl) ?_
        refine ti_get (ci := 4) (k := 0) (N := 6) (T := TX4) (v := .ref (A 2 0)) C hw iw_4 rfl ob_1 (by decide) (by decide) fl_X4_12 rfl rfl dX4_readBoth_14 ?_
        refine ti_get (ci := 7) (k := 4) (N := 7) (T := TX7) C hw iw_7 rfl ob_2 (by decide) (by decide) fl_X4_41 rfl rfl dX4_readBoth_17 ?_
        refine lv_topi (fun x_15 ex_15 => ?_)
        have bx_15 : 0 ≤ x_15.toInt ∧ x_15.toInt ≤ 41 := cI_rd iM_9 ob_2.1 ex_15
        have ux_15 : (tI M_9 2 4).toInt = x_15.toInt := by rw [ex_15]
        refine lv_bipush (v := 22) hx hb dX4_readBoth_20 (by decide) ?_
        refine sb_icmp_ne (tgt := 49) hx hb rfl (by decide : (22 : Int32).toInt = 22) dX4_readBoth_22 (by decide) (fun c_22_15 => ?_) (fun c_22_15 => ?_)
        · exact hQ _ _ _ _ _ hw (⟨iM_9, (f_10), f_11, (f_12)⟩) dX4_readBoth_49
        · refine lv_aload_n hx hb dX4_readBoth_25 rfl (lv_at hl 1 rfl) ?_
          refine ti_callVvE (ci := 4) (av := []) C hE hw (s_X4_knot l D A cy hJ M_9 iM_9 t ht ((tT_fr f_10).trans hT)) ⟨ml_X4_167, ym_X4_knot, yv_X4_knot, yi_X4_knot, yc_X4_knot⟩ yd_X4_knot ob_1 (by decide) rfl rfl hl.1 (Nat.le_of_ble_eq_true rfl) ⟨by decide, by decide⟩ ⟨Nat.zero_le _, Nat.zero_le _⟩ dX4_readBoth_26 (fun M_18 H locs hp_18 hw => ?_)
          obtain ⟨iM_18, q_19, q_20, q_21⟩ := hp_18
          refine lv_aload_n hx hb dX4_readBoth_29 rfl (lv_at hl 1 rfl) ?_
          refine lv_iload_n hx hb dX4_readBoth_30 rfl (lv_at hl 2 rfl) ?_
          refine ti_callVvE (ci := 4) (av := [.int 2]) C hE hw (s_X4_readNegated_2 l D A cy hJ M_18 iM_18 t ht ((tT_fr q_19).trans ((tT_fr f_10).trans hT)) lw hlw ((tT_fr q_19).trans ((tT_fr f_10).trans hL))) ⟨ml_X4_175, ym_X4_readNegated, yv_X4_readNegated, yi_X4_readNegated, yc_X4_readNegated⟩ yd_X4_readNegated ob_1 (by decide) rfl rfl hl.1 (Nat.le_of_ble_eq_true rfl) ⟨by decide, by decide⟩ ⟨Nat.zero_le _, Nat.zero_le _⟩ dX4_readBoth_31 (fun M_23 H locs hp_23 hw => ?_)
          obtain ⟨iM_23, q_24, q_25, q_26⟩ := hp_23
          refine lv_aload_n hx hb dX4_readBoth_34 rfl (lv_at hl 1 rfl) ?_
          refine ti_get (ci := 4) (k := 2) (N := 6) (T := TX4) (v := .ref (A lw 0)) C hw iw_4 rfl ob_1 (by decide) (by decide) fl_X4_154 rfl (ti_Tv ((tT_fr q_24).trans ((tT_fr q_19).trans ((tT_fr f_10).trans hL)))) dX4_readBoth_35 ?_
          refine lv_bipush (v := (-22)) hx hb dX4_readBoth_38 (by decide) ?_
          refine ti_callVv (ci := 1) (av := [.int (-22)]) C hw (s_X1_add l D A cy hJ M_23 iM_23 lw hlw (-22) (by first | omega | exact Or.inl (by decide) | exact Or.inr (by decide))) ⟨ml_X4_170, ym_X1_add, yv_X1_add, yi_X1_add, yc_X1_add⟩ yd_X1_add hlw (by decide) rfl rfl hl.1 (Nat.le_of_ble_eq_true rfl) ⟨by decide, by decide⟩ ⟨Nat.zero_le _, Nat.zero_le _⟩ dX4_readBoth_40 (fun M_28 H locs hp_28 hw => ?_)
          obtain ⟨iM_28, q_29, q_30⟩ := hp_28
          obtain ⟨x_31, ex_31⟩ : ∃ z : Int32, z = x_6 + 1 := ⟨_, rfl⟩
          have tx_31 : x_31.toInt = x_6.toInt + 1 := i_add ex_31 rfl (by decide) (by omega) (by omega)
          refine lv_iinc (v := x_31) (lv' := [(2, .int x_31), (0, .ref (A 1 0)), (1, .int 2)]) hx hb dX4_readBoth_43 hl (k := 0) rfl (by rw [ex_31]; rfl) (by decide) rfl (fun ls hl => ?_)
          refine lv_goto (tgt := 7) hx hb dX4_readBoth_46 (by decide) ?_
          exact ih_13 x_31 M_28 _ _ _ (by omega) (by first | omega | decide) (by first | omega | decide) iM_28 ((q_29).trans ((q_24).trans ((q_19).trans f_10))) (f0.trans (f0_x q_30) (f0.trans q_25 (f0.trans q_20 f_11))) (((q_30 1).2.1).trans ((q_26).trans ((q_21).trans f_12))) hw (lv_sub hl [0, 1, 2] rfl)
  exact hl_7_12 ((64 - 0 : Int).toNat + 1) 0 M_2 _ _ _ (Nat.lt_succ_self _) (by have lt0 : (0 : Int32).toInt = 0 := (by decide); first | omega | decide) (by have lt0 : (0 : Int32).toInt = 0 := (by decide); first | omega | decide) iM_2 (q_3) q_4 (q_5) hw (lv_sub hl [0, 1, 2] rfl)
set_option maxHeartbeats 4000000 in
set_option maxRecDepth 100000 in
theorem s_X4_readEither_2 (l : Launch) (D : va_G) (A : Nat → Nat → Nat) (cy : Nat → ClassId) (hJ : ti_inj ti_LT A) (M : ti_M) (hI : cI Tc M) (t : Nat) (ht : t = 3 ∨ t = 4) (hT : tT M 1 1 = some t) (lw : Nat) (hlw : ti_ob ti_LT lw 1) (hL : tT M 1 2 = some lw) : ti_KvE l yX4_readEither cX4_readEither 3 56 ti_LT D A cy M [.ref (A 1 0), .int 2] (fun M2 => cI Tc M2 ∧ M2.2.2.2 = M.2.2.2 ∧ f0 M2 M ∧ tI M2 2 1 = tI M 2 1) := by
  refine ti_eVE yp_X4_readEither hJ ti_LT_nd (Nat.le_of_ble_eq_true rfl) ?_
  intro p e s m args below meth c Q H0 C hE hQ hw ls hl
  have hx := C.1
  have hb := C.2.1
  have hl : lv_has ls 3 [(0, .ref (A 1 0)), (1, .int 2)] := hl
  refine lv_aload_n hx hb dX4_readEither_0 rfl (lv_at hl 0 rfl) ?_
  refine lv_iload_n hx hb dX4_readEither_1 rfl (lv_at hl 1 rfl) ?_
  refine ti_callVvE (ci := 4) (av := [.int 2]) C hE hw (s_X4_readBoth_2 l D A cy hJ M hI t ht (hT) lw hlw (hL)) ⟨ml_X4_164, ym_X4_readBoth, yv_X4_readBoth, yi_X4_readBoth, yc_X4_readBoth⟩ yd_X4_readBoth ob_1 (by decide) rfl rfl hl.1 (Nat.le_of_ble_eq_true rfl) ⟨by decide, by decide⟩ ⟨Nat.zero_le _, Nat.zero_le _⟩ dX4_readEither_2 (fun M_2 H locs hp_2 hw => ?_)
  obtain ⟨iM_2, q_3, q_4, q_5⟩ := hp_2
  refine lv_iconst (v := 0) hx hb dX4_readEither_5 (by decide) ?_
  refine lv_istore_n (lv' := [(2, .int 0), (0, .ref (A 1 0)), (1, .int 2)]) hx hb dX4_readEither_6 rfl hl (by decide) rfl (fun ls hl => ?_)
  have hl_7_12 : ∀ (n_13 : Nat) (x_6 : Int32) (M_9 : ti_M) (H : Heap) (locs : List Loc) (ls : Array Slot), (64 - x_6.toInt : Int).toNat < n_13 → (0 ≤ x_6.toInt) → (x_6.toInt ≤ 64) → (cI Tc M_9) → (M_9.2.2.2 = M.2.2.2) → (f0 M_9 M) → (tI M_9 2 1 = tI M 2 1) → ti_H ti_LT D A cy H0 M_9 H locs → lv_has ls 3 [(2, .int x_6), (0, .ref (A 1 0)), (1, .int 2)] → W p l e (ti_rm 56) s m args below meth c H locs 0 0 Q (F0 m 7 ls []) := by
    intro n_13
    induction n_13 with
    | zero => intro x_6 M_9 H locs ls hf_13; exact absurd hf_13 (Nat.not_lt_zero _)
    | succ n_13 ih_13 =>
      intro x_6 M_9 H locs ls hf_13 b_7 b_8 iM_9 f_10 f_11 f_12 hw hl
      refine lv_iload_n hx hb dX4_readEither_7 rfl (lv_at hl 0 rfl) ?_
      refine lv_bipush (v := 64) hx hb dX4_readEither_8 (by decide) ?_
      refine sb_icmp_ge (tgt := 49) hx hb rfl (by decide : (64 : Int32).toInt = 64) dX4_readEither_10 (by decide) (fun c_10_13 => ?_) (fun c_10_13 => ?_)
      · exact hQ _ _ _ _ _ hw (⟨iM_9, (f_10), f_11, (f_12)⟩) dX4_readEither_49
      · refine lv_aload_n hx hb dX4_readEither_13 rfl (lv_at hl 1 rfl) ?_
        refine ti_get (ci := 4) (k := 0) (N := 6) (T := TX4) (v := .ref (A 2 0)) C hw iw_4 rfl ob_1 (by decide) (by decide) fl_X4_12 rfl rfl dX4_readEither_14 ?_
        refine ti_get (ci := 7) (k := 4) (N := 7) (T := TX7) C hw iw_7 rfl ob_2 (by decide) (by decide) fl_X4_41 rfl rfl dX4_readEither_17 ?_
        refine lv_topi (fun x_15 ex_15 => ?_)
        have bx_15 : 0 ≤ x_15.toInt ∧ x_15.toInt ≤ 41 := cI_rd iM_9 ob_2.1 ex_15
        have ux_15 : (tI M_9 2 4).toInt = x_15.toInt := by rw [ex_15]
        refine lv_bipush (v := 23) hx hb dX4_readEither_20 (by decide) ?_
        refine sb_icmp_ne (tgt := 49) hx hb rfl (by decide : (23 : Int32).toInt = 23) dX4_readEither_22 (by decide) (fun c_22_15 => ?_) (fun c_22_15 => ?_)
        · exact hQ _ _ _ _ _ hw (⟨iM_9, (f_10), f_11, (f_12)⟩) dX4_readEither_49
        · refine lv_aload_n hx hb dX4_readEither_25 rfl (lv_at hl 1 rfl) ?_
          refine ti_callVvE (ci := 4) (av := []) C hE hw (s_X4_knot l D A cy hJ M_9 iM_9 t ht ((tT_fr f_10).trans hT)) ⟨ml_X4_167, ym_X4_knot, yv_X4_knot, yi_X4_knot, yc_X4_knot⟩ yd_X4_knot ob_1 (by decide) rfl rfl hl.1 (Nat.le_of_ble_eq_true rfl) ⟨by decide, by decide⟩ ⟨Nat.zero_le _, Nat.zero_le _⟩ dX4_readEither_26 (fun M_18 H locs hp_18 hw => ?_)
          obtain ⟨iM_18, q_19, q_20, q_21⟩ := hp_18
          refine lv_aload_n hx hb dX4_readEither_29 rfl (lv_at hl 1 rfl) ?_
          refine lv_iload_n hx hb dX4_readEither_30 rfl (lv_at hl 2 rfl) ?_
          refine ti_callVvE (ci := 4) (av := [.int 2]) C hE hw (s_X4_readBoth_2 l D A cy hJ M_18 iM_18 t ht ((tT_fr q_19).trans ((tT_fr f_10).trans hT)) lw hlw ((tT_fr q_19).trans ((tT_fr f_10).trans hL))) ⟨ml_X4_164, ym_X4_readBoth, yv_X4_readBoth, yi_X4_readBoth, yc_X4_readBoth⟩ yd_X4_readBoth ob_1 (by decide) rfl rfl hl.1 (Nat.le_of_ble_eq_true rfl) ⟨by decide, by decide⟩ ⟨Nat.zero_le _, Nat.zero_le _⟩ dX4_readEither_31 (fun M_23 H locs hp_23 hw => ?_)
          obtain ⟨iM_23, q_24, q_25, q_26⟩ := hp_23
          refine lv_aload_n hx hb dX4_readEither_34 rfl (lv_at hl 1 rfl) ?_
          refine ti_get (ci := 4) (k := 2) (N := 6) (T := TX4) (v := .ref (A lw 0)) C hw iw_4 rfl ob_1 (by decide) (by decide) fl_X4_154 rfl (ti_Tv ((tT_fr q_24).trans ((tT_fr q_19).trans ((tT_fr f_10).trans hL)))) dX4_readEither_35 ?_
          refine lv_bipush (v := (-23)) hx hb dX4_readEither_38 (by decide) ?_
          refine ti_callVv (ci := 1) (av := [.int (-23)]) C hw (s_X1_add l D A cy hJ M_23 iM_23 lw hlw (-23) (by first | omega | exact Or.inl (by decide) | exact Or.inr (by decide))) ⟨ml_X4_170, ym_X1_add, yv_X1_add, yi_X1_add, yc_X1_add⟩ yd_X1_add hlw (by decide) rfl rfl hl.1 (Nat.le_of_ble_eq_true rfl) ⟨by decide, by decide⟩ ⟨Nat.zero_le _, Nat.zero_le _⟩ dX4_readEither_40 (fun M_28 H locs hp_28 hw => ?_)
          obtain ⟨iM_28, q_29, q_30⟩ := hp_28
          obtain ⟨x_31, ex_31⟩ : ∃ z : Int32, z = x_6 + 1 := ⟨_, rfl⟩
          have tx_31 : x_31.toInt = x_6.toInt + 1 := i_add ex_31 rfl (by decide) (by omega) (by omega)
          refine lv_iinc (v := x_31) (lv' := [(2, .int x_31), (0, .ref (A 1 0)), (1, .int 2)]) hx hb dX4_readEither_43 hl (k := 0) rfl (by rw [ex_31]; rfl) (by decide) rfl (fun ls hl => ?_)
          refine lv_goto (tgt := 7) hx hb dX4_readEither_46 (by decide) ?_
          exact ih_13 x_31 M_28 _ _ _ (by omega) (by first | omega | decide) (by first | omega | decide) iM_28 ((q_29).trans ((q_24).trans ((q_19).trans f_10))) (f0.trans (f0_x q_30) (f0.trans q_25 (f0.trans q_20 f_11))) (((q_30 1).2.1).trans ((q_26).trans ((q_21).trans f_12))) hw (lv_sub hl [0, 1, 2] rfl)
  exact hl_7_12 ((64 - 0 : Int).toNat + 1) 0 M_2 _ _ _ (Nat.lt_succ_self _) (by have lt0 : (0 : Int32).toInt = 0 := (by decide); first | omega | decide) (by have lt0 : (0 : Int32).toInt = 0 := (by decide); first | omega | decide) iM_2 (q_3) q_4 (q_5) hw (lv_sub hl [0, 1, 2] rfl)
set_option maxHeartbeats 4000000 in
set_option maxRecDepth 100000 in
theorem s_X4_readPart_1 (l : Launch) (D : va_G) (A : Nat → Nat → Nat) (cy : Nat → ClassId) (hJ : ti_inj ti_LT A) (M : ti_M) (hI : cI Tc M) (t : Nat) (ht : t = 3 ∨ t = 4) (hT : tT M 1 1 = some t) (lw : Nat) (hlw : ti_ob ti_LT lw 1) (hL : tT M 1 2 = some lw) : ti_KvE l yX4_readPart cX4_readPart 3 57 ti_LT D A cy M [.ref (A 1 0), .int 1] (fun M2 => cI Tc M2 ∧ M2.2.2.2 = M.2.2.2 ∧ f0 M2 M ∧ tI M2 2 1 = tI M 2 1) := by
  refine ti_eVE yp_X4_readPart hJ ti_LT_nd (Nat.le_of_ble_eq_true rfl) ?_
  intro p e s m args below meth c Q H0 C hE hQ hw ls hl
  have hx := C.1
  have hb := C.2.1
  have hl : lv_has ls 3 [(0, .ref (A 1 0)), (1, .int 1)] := hl
  refine lv_aload_n hx hb dX4_readPart_0 rfl (lv_at hl 0 rfl) ?_
  refine ti_get (ci := 4) (k := 0) (N := 6) (T := TX4) (v := .ref (A 2 0)) C hw iw_4 rfl ob_1 (by decide) (by decide) fl_X4_12 rfl rfl dX4_readPart_1 ?_
  refine ti_get (ci := 7) (k := 4) (N := 7) (T := TX7) C hw iw_7 rfl ob_2 (by decide) (by decide) fl_X4_41 rfl rfl dX4_readPart_4 ?_
  refine lv_topi (fun x_1 ex_1 => ?_)
  have bx_1 : 0 ≤ x_1.toInt ∧ x_1.toInt ≤ 41 := cI_rd hI ob_2.1 ex_1
  have ux_1 : (tI M 2 4).toInt = x_1.toInt := by rw [ex_1]
  refine lv_istore_n (lv' := [(2, .int x_1), (0, .ref (A 1 0)), (1, .int 1)]) hx hb dX4_readPart_7 rfl hl (by decide) rfl (fun ls hl => ?_)
  refine lv_iload_n hx hb dX4_readPart_8 rfl (lv_at hl 0 rfl) ?_
  refine lv_bipush (v := 30) hx hb dX4_readPart_9 (by decide) ?_
  have hj_28_3 : ∀  (H : Heap) (locs : List Loc) (ls : Array Slot), ti_H ti_LT D A cy H0 M H locs → lv_has ls 3 [(2, .int x_1), (0, .ref (A 1 0)), (1, .int 1)] → W p l e (ti_rm 57) s m args below meth c H locs 0 0 Q (F0 m 28 ls []) := by
    intro  H locs ls  hw hl
    refine lv_iload_n hx hb dX4_readPart_28 rfl (lv_at hl 0 rfl) ?_
    refine lv_bipush (v := 30) hx hb dX4_readPart_29 (by decide) ?_
    refine sb_icmp_ne (tgt := 57) hx hb rfl (by decide : (30 : Int32).toInt = 30) dX4_readPart_31 (by decide) (fun c_31_3 => ?_) (fun c_31_3 => ?_)
    · refine lv_iload_n hx hb dX4_readPart_57 rfl (lv_at hl 0 rfl) ?_
      refine lv_bipush (v := 26) hx hb dX4_readPart_58 (by decide) ?_
      have hj_84_27 : ∀  (H : Heap) (locs : List Loc) (ls : Array Slot), ti_H ti_LT D A cy H0 M H locs → lv_has ls 3 [(2, .int x_1), (0, .ref (A 1 0)), (1, .int 1)] → W p l e (ti_rm 57) s m args below meth c H locs 0 0 Q (F0 m 84 ls []) := by
        intro  H locs ls  hw hl
        refine lv_iload_n hx hb dX4_readPart_84 rfl (lv_at hl 0 rfl) ?_
        refine lv_bipush (v := 26) hx hb dX4_readPart_85 (by decide) ?_
        refine sb_icmp_ne (tgt := 111) hx hb rfl (by decide : (26 : Int32).toInt = 26) dX4_readPart_87 (by decide) (fun c_87_27 => ?_) (fun c_87_27 => ?_)
        · refine lv_iload_n hx hb dX4_readPart_111 rfl (lv_at hl 0 rfl) ?_
          refine lv_bipush (v := 16) hx hb dX4_readPart_112 (by decide) ?_
          have hj_139_50 : ∀  (H : Heap) (locs : List Loc) (ls : Array Slot), ti_H ti_LT D A cy H0 M H locs → lv_has ls 3 [(2, .int x_1), (0, .ref (A 1 0)), (1, .int 1)] → W p l e (ti_rm 57) s m args below meth c H locs 0 0 Q (F0 m 139 ls []) := by
            intro  H locs ls  hw hl
            refine lv_aload_n hx hb dX4_readPart_139 rfl (lv_at hl 1 rfl) ?_
            refine lv_iconst (v := 1) hx hb dX4_readPart_140 (by decide) ?_
            refine ti_callVv (ci := 4) (av := [.int 1]) C hw (s_X4_refuse l D A cy hJ M hI 1) ⟨ml_X4_82, ym_X4_refuse, yv_X4_refuse, yi_X4_refuse, yc_X4_refuse⟩ yd_X4_refuse ob_1 (by decide) rfl rfl hl.1 (Nat.le_of_ble_eq_true rfl) ⟨by decide, by decide⟩ ⟨Nat.zero_le _, Nat.zero_le _⟩ dX4_readPart_141 (fun M_52 H locs hp_52 hw => ?_)
            obtain ⟨iM_52, q_53, q_54, q_55⟩ := hp_52
            exact hQ _ _ _ _ _ hw (⟨iM_52, (q_53), (f0_12 q_54), (q_55)⟩) dX4_readPart_144
          refine sb_icmp_lt (tgt := 139) hx hb rfl (by decide : (16 : Int32).toInt = 16) dX4_readPart_114 (by decide) (fun c_114_38 => ?_) (fun c_114_38 => ?_)
          · exact hj_139_50  _ _ _  hw (lv_sub hl [0, 1, 2] rfl)
          · refine lv_iload_n hx hb dX4_readPart_117 rfl (lv_at hl 0 rfl) ?_
            refine lv_bipush (v := 21) hx hb dX4_readPart_118 (by decide) ?_
            refine sb_icmp_gt (tgt := 139) hx hb rfl (by decide : (21 : Int32).toInt = 21) dX4_readPart_120 (by decide) (fun c_120_39 => ?_) (fun c_120_39 => ?_)
            · exact hj_139_50  _ _ _  hw (lv_sub hl [0, 1, 2] rfl)
            · refine lv_aload_n hx hb dX4_readPart_123 rfl (lv_at hl 1 rfl) ?_
              refine ti_get (ci := 4) (k := 2) (N := 6) (T := TX4) (v := .ref (A lw 0)) C hw iw_4 rfl ob_1 (by decide) (by decide) fl_X4_154 rfl (ti_Tv (hL)) dX4_readPart_124 ?_
              refine lv_iload_n hx hb dX4_readPart_127 rfl (lv_at hl 0 rfl) ?_
              refine lv_ineg hx hb dX4_readPart_128 ?_
              refine lv_topi (fun x_41 ex_41 => ?_)
              have tx_41 : x_41.toInt = -x_1.toInt := i_neg ex_41 rfl (by omega)
              refine ti_callVv (ci := 1) (av := [.int x_41]) C hw (s_X1_add l D A cy hJ M hI lw hlw x_41 (by first | omega | exact Or.inl (by decide) | exact Or.inr (by decide))) ⟨ml_X4_170, ym_X1_add, yv_X1_add, yi_X1_add, yc_X1_add⟩ yd_X1_add hlw (by decide) rfl rfl hl.1 (Nat.le_of_ble_eq_true rfl) ⟨by decide, by decide⟩ ⟨Nat.zero_le _, Nat.zero_le _⟩ dX4_readPart_129 (fun M_43 H locs hp_43 hw => ?_)
              obtain ⟨iM_43, q_44, q_45⟩ := hp_43
              refine lv_aload_n hx hb dX4_readPart_132 rfl (lv_at hl 1 rfl) ?_
              refine ti_callVvE (ci := 4) (av := []) C hE hw (s_X4_knot l D A cy hJ M_43 iM_43 t ht ((tT_fr q_44).trans hT)) ⟨ml_X4_167, ym_X4_knot, yv_X4_knot, yi_X4_knot, yc_X4_knot⟩ yd_X4_knot ob_1 (by decide) rfl rfl hl.1 (Nat.le_of_ble_eq_true rfl) ⟨by decide, by decide⟩ ⟨Nat.zero_le _, Nat.zero_le _⟩ dX4_readPart_133 (fun M_47 H locs hp_47 hw => ?_)
              obtain ⟨iM_47, q_48, q_49, q_50⟩ := hp_47
              refine lv_goto (tgt := 144) hx hb dX4_readPart_136 (by decide) ?_
              exact hQ _ _ _ _ _ hw (⟨iM_47, ((q_48).trans q_44), (f0.trans q_49 (f0_x q_45)), ((q_50).trans ((q_45 1).2.1))⟩) dX4_readPart_144
        · refine lv_aload_n hx hb dX4_readPart_90 rfl (lv_at hl 1 rfl) ?_
          refine ti_get (ci := 4) (k := 2) (N := 6) (T := TX4) (v := .ref (A lw 0)) C hw iw_4 rfl ob_1 (by decide) (by decide) fl_X4_154 rfl (ti_Tv (hL)) dX4_readPart_91 ?_
          refine lv_aload_n hx hb dX4_readPart_94 rfl (lv_at hl 1 rfl) ?_
          refine ti_get (ci := 4) (k := 0) (N := 6) (T := TX4) (v := .ref (A 2 0)) C hw iw_4 rfl ob_1 (by decide) (by decide) fl_X4_12 rfl rfl dX4_readPart_95 ?_
          refine ti_get (ci := 7) (k := 6) (N := 7) (T := TX7) C hw iw_7 rfl ob_2 (by decide) (by decide) fl_X4_95 rfl rfl dX4_readPart_98 ?_
          refine lv_topi (fun x_29 ex_29 => ?_)
          have bx_29 : 0 ≤ x_29.toInt ∧ x_29.toInt ≤ 2147483647 := cI_rd hI ob_2.1 ex_29
          have ux_29 : (tI M 2 6).toInt = x_29.toInt := by rw [ex_29]
          refine ti_callVv (ci := 1) (av := [.int x_29]) C hw (s_X1_add l D A cy hJ M hI lw hlw x_29 (by first | omega | exact Or.inl (by decide) | exact Or.inr (by decide))) ⟨ml_X4_170, ym_X1_add, yv_X1_add, yi_X1_add, yc_X1_add⟩ yd_X1_add hlw (by decide) rfl rfl hl.1 (Nat.le_of_ble_eq_true rfl) ⟨by decide, by decide⟩ ⟨Nat.zero_le _, Nat.zero_le _⟩ dX4_readPart_101 (fun M_31 H locs hp_31 hw => ?_)
          obtain ⟨iM_31, q_32, q_33⟩ := hp_31
          refine lv_aload_n hx hb dX4_readPart_104 rfl (lv_at hl 1 rfl) ?_
          refine ti_callVvE (ci := 4) (av := []) C hE hw (s_X4_knot l D A cy hJ M_31 iM_31 t ht ((tT_fr q_32).trans hT)) ⟨ml_X4_167, ym_X4_knot, yv_X4_knot, yi_X4_knot, yc_X4_knot⟩ yd_X4_knot ob_1 (by decide) rfl rfl hl.1 (Nat.le_of_ble_eq_true rfl) ⟨by decide, by decide⟩ ⟨Nat.zero_le _, Nat.zero_le _⟩ dX4_readPart_105 (fun M_35 H locs hp_35 hw => ?_)
          obtain ⟨iM_35, q_36, q_37, q_38⟩ := hp_35
          refine lv_goto (tgt := 144) hx hb dX4_readPart_108 (by decide) ?_
          exact hQ _ _ _ _ _ hw (⟨iM_35, ((q_36).trans q_32), (f0.trans q_37 (f0_x q_33)), ((q_38).trans ((q_33 1).2.1))⟩) dX4_readPart_144
      refine sb_icmp_ne (tgt := 84) hx hb rfl (by decide : (26 : Int32).toInt = 26) dX4_readPart_60 (by decide) (fun c_60_19 => ?_) (fun c_60_19 => ?_)
      · exact hj_84_27  _ _ _  hw (lv_sub hl [0, 1, 2] rfl)
      · refine lv_aload_n hx hb dX4_readPart_63 rfl (lv_at hl 1 rfl) ?_
        refine ti_get (ci := 4) (k := 0) (N := 6) (T := TX4) (v := .ref (A 2 0)) C hw iw_4 rfl ob_1 (by decide) (by decide) fl_X4_12 rfl rfl dX4_readPart_64 ?_
        refine ti_get (ci := 7) (k := 6) (N := 7) (T := TX7) C hw iw_7 rfl ob_2 (by decide) (by decide) fl_X4_95 rfl rfl dX4_readPart_67 ?_
        refine lv_topi (fun x_21 ex_21 => ?_)
        have bx_21 : 0 ≤ x_21.toInt ∧ x_21.toInt ≤ 2147483647 := cI_rd hI ob_2.1 ex_21
        have ux_21 : (tI M 2 6).toInt = x_21.toInt := by rw [ex_21]
        refine lv_sipush (v := 9999) hx hb dX4_readPart_70 (by decide) ?_
        refine sb_icmp_le (tgt := 84) hx hb rfl (by decide : (9999 : Int32).toInt = 9999) dX4_readPart_73 (by decide) (fun c_73_21 => ?_) (fun c_73_21 => ?_)
        · exact hj_84_27  _ _ _  hw (lv_sub hl [0, 1, 2] rfl)
        · refine lv_aload_n hx hb dX4_readPart_76 rfl (lv_at hl 1 rfl) ?_
          refine lv_iconst (v := 2) hx hb dX4_readPart_77 (by decide) ?_
          refine ti_callVv (ci := 4) (av := [.int 2]) C hw (s_X4_refuse l D A cy hJ M hI 2) ⟨ml_X4_82, ym_X4_refuse, yv_X4_refuse, yi_X4_refuse, yc_X4_refuse⟩ yd_X4_refuse ob_1 (by decide) rfl rfl hl.1 (Nat.le_of_ble_eq_true rfl) ⟨by decide, by decide⟩ ⟨Nat.zero_le _, Nat.zero_le _⟩ dX4_readPart_78 (fun M_24 H locs hp_24 hw => ?_)
          obtain ⟨iM_24, q_25, q_26, q_27⟩ := hp_24
          refine lv_goto (tgt := 144) hx hb dX4_readPart_81 (by decide) ?_
          exact hQ _ _ _ _ _ hw (⟨iM_24, (q_25), (f0_12 q_26), (q_27)⟩) dX4_readPart_144
    · refine lv_aload_n hx hb dX4_readPart_34 rfl (lv_at hl 1 rfl) ?_
      refine ti_get (ci := 4) (k := 0) (N := 6) (T := TX4) (v := .ref (A 2 0)) C hw iw_4 rfl ob_1 (by decide) (by decide) fl_X4_12 rfl rfl dX4_readPart_35 ?_
      refine ti_callVvE (ci := 7) (av := []) C hE hw (s_X7_advance l D A cy hJ M hI ) ⟨ml_X4_92, ym_X7_advance, yv_X7_advance, yi_X7_advance, yc_X7_advance⟩ yd_X7_advance ob_2 (by decide) rfl rfl hl.1 (Nat.le_of_ble_eq_true rfl) ⟨by decide, by decide⟩ ⟨Nat.zero_le _, Nat.zero_le _⟩ dX4_readPart_38 (fun M_6 H locs hp_6 hw => ?_)
      obtain ⟨iM_6, q_7, q_8, q_9⟩ := hp_6
      refine lv_aload_n hx hb dX4_readPart_41 rfl (lv_at hl 1 rfl) ?_
      refine lv_iload_n hx hb dX4_readPart_42 rfl (lv_at hl 2 rfl) ?_
      refine lv_iconst (v := 1) hx hb dX4_readPart_43 (by decide) ?_
      refine lv_iadd hx hb dX4_readPart_44 ?_
      refine ti_top (y := 2) (by decide) ?_
      refine ti_callVvE (ci := 4) (av := [.int 2]) C hE hw (s_X4_readEither_2 l D A cy hJ M_6 iM_6 t ht ((tT_fr q_7).trans hT) lw hlw ((tT_fr q_7).trans hL)) ⟨ml_X4_158, ym_X4_readEither, yv_X4_readEither, yi_X4_readEither, yc_X4_readEither⟩ yd_X4_readEither ob_1 (by decide) rfl rfl hl.1 (Nat.le_of_ble_eq_true rfl) ⟨by decide, by decide⟩ ⟨Nat.zero_le _, Nat.zero_le _⟩ dX4_readPart_45 (fun M_11 H locs hp_11 hw => ?_)
      obtain ⟨iM_11, q_12, q_13, q_14⟩ := hp_11
      refine lv_aload_n hx hb dX4_readPart_48 rfl (lv_at hl 1 rfl) ?_
      refine lv_bipush (v := 31) hx hb dX4_readPart_49 (by decide) ?_
      refine ti_callVvE (ci := 4) (av := [.int 31]) C hE hw (s_X4_take l D A cy hJ M_11 iM_11 31) ⟨ml_X4_85, ym_X4_take, yv_X4_take, yi_X4_take, yc_X4_take⟩ yd_X4_take ob_1 (by decide) rfl rfl hl.1 (Nat.le_of_ble_eq_true rfl) ⟨by decide, by decide⟩ ⟨Nat.zero_le _, Nat.zero_le _⟩ dX4_readPart_51 (fun M_16 H locs hp_16 hw => ?_)
      obtain ⟨iM_16, q_17, q_18, q_19⟩ := hp_16
      refine lv_goto (tgt := 144) hx hb dX4_readPart_54 (by decide) ?_
      exact hQ _ _ _ _ _ hw (⟨iM_16, ((q_17).trans ((q_12).trans q_7)), (f0.trans (f0_12 q_18) (f0.trans q_13 (f0_12 q_8))), ((q_19).trans ((q_14).trans q_9))⟩) dX4_readPart_144
  refine sb_icmp_ne (tgt := 28) hx hb rfl (by decide : (30 : Int32).toInt = 30) dX4_readPart_11 (by decide) (fun c_11_1 => ?_) (fun c_11_1 => ?_)
  · exact hj_28_3  _ _ _  hw (lv_sub hl [0, 1, 2] rfl)
  · refine lv_iload_n hx hb dX4_readPart_14 rfl (lv_at hl 2 rfl) ?_
    refine lv_bipush (v := 8) hx hb dX4_readPart_15 (by decide) ?_
    refine sb_icmp_lt (tgt := 28) hx hb (by decide : (1 : Int32).toInt = 1) (by decide : (8 : Int32).toInt = 8) dX4_readPart_17 (by decide) (fun c_17_2 => ?_) (fun h => absurd h (by decide))
    exact hj_28_3  _ _ _  hw (lv_sub hl [0, 1, 2] rfl)
set_option maxHeartbeats 4000000 in
set_option maxRecDepth 100000 in
theorem s_X4_readProduct_1 (l : Launch) (D : va_G) (A : Nat → Nat → Nat) (cy : Nat → ClassId) (hJ : ti_inj ti_LT A) (M : ti_M) (hI : cI Tc M) (t : Nat) (ht : t = 3 ∨ t = 4) (hT : tT M 1 1 = some t) (lw : Nat) (hlw : ti_ob ti_LT lw 1) (hL : tT M 1 2 = some lw) : ti_KvE l yX4_readProduct cX4_readProduct 4 58 ti_LT D A cy M [.ref (A 1 0), .int 1] (fun M2 => cI Tc M2 ∧ M2.2.2.2 = M.2.2.2 ∧ f0 M2 M ∧ tI M2 2 1 = tI M 2 1) := by
  refine ti_eVE yp_X4_readProduct hJ ti_LT_nd (Nat.le_of_ble_eq_true rfl) ?_
  intro p e s m args below meth c Q H0 C hE hQ hw ls hl
  have hx := C.1
  have hb := C.2.1
  have hl : lv_has ls 4 [(0, .ref (A 1 0)), (1, .int 1)] := hl
  refine lv_aload_n hx hb dX4_readProduct_0 rfl (lv_at hl 0 rfl) ?_
  refine lv_iload_n hx hb dX4_readProduct_1 rfl (lv_at hl 1 rfl) ?_
  refine ti_callVvE (ci := 4) (av := [.int 1]) C hE hw (s_X4_readPart_1 l D A cy hJ M hI t ht (hT) lw hlw (hL)) ⟨ml_X4_187, ym_X4_readPart, yv_X4_readPart, yi_X4_readPart, yc_X4_readPart⟩ yd_X4_readPart ob_1 (by decide) rfl rfl hl.1 (Nat.le_of_ble_eq_true rfl) ⟨by decide, by decide⟩ ⟨Nat.zero_le _, Nat.zero_le _⟩ dX4_readProduct_2 (fun M_2 H locs hp_2 hw => ?_)
  obtain ⟨iM_2, q_3, q_4, q_5⟩ := hp_2
  refine lv_iconst (v := 0) hx hb dX4_readProduct_5 (by decide) ?_
  refine lv_istore_n (lv' := [(2, .int 0), (0, .ref (A 1 0)), (1, .int 1)]) hx hb dX4_readProduct_6 rfl hl (by decide) rfl (fun ls hl => ?_)
  have hl_7_12 : ∀ (n_13 : Nat) (x_6 : Int32) (M_9 : ti_M) (H : Heap) (locs : List Loc) (ls : Array Slot), (64 - x_6.toInt : Int).toNat < n_13 → (0 ≤ x_6.toInt) → (x_6.toInt ≤ 64) → (cI Tc M_9) → (M_9.2.2.2 = M.2.2.2) → (f0 M_9 M) → (tI M_9 2 1 = tI M 2 1) → ti_H ti_LT D A cy H0 M_9 H locs → lv_has ls 4 [(2, .int x_6), (0, .ref (A 1 0)), (1, .int 1)] → W p l e (ti_rm 58) s m args below meth c H locs 0 0 Q (F0 m 7 ls []) := by
    intro n_13
    induction n_13 with
    | zero => intro x_6 M_9 H locs ls hf_13; exact absurd hf_13 (Nat.not_lt_zero _)
    | succ n_13 ih_13 =>
      intro x_6 M_9 H locs ls hf_13 b_7 b_8 iM_9 f_10 f_11 f_12 hw hl
      refine lv_iload_n hx hb dX4_readProduct_7 rfl (lv_at hl 0 rfl) ?_
      refine lv_bipush (v := 64) hx hb dX4_readProduct_8 (by decide) ?_
      refine sb_icmp_ge (tgt := 69) hx hb rfl (by decide : (64 : Int32).toInt = 64) dX4_readProduct_10 (by decide) (fun c_10_13 => ?_) (fun c_10_13 => ?_)
      · exact hQ _ _ _ _ _ hw (⟨iM_9, (f_10), f_11, (f_12)⟩) dX4_readProduct_69
      · refine lv_aload_n hx hb dX4_readProduct_13 rfl (lv_at hl 1 rfl) ?_
        refine ti_get (ci := 4) (k := 0) (N := 6) (T := TX4) (v := .ref (A 2 0)) C hw iw_4 rfl ob_1 (by decide) (by decide) fl_X4_12 rfl rfl dX4_readProduct_14 ?_
        refine ti_get (ci := 7) (k := 4) (N := 7) (T := TX7) C hw iw_7 rfl ob_2 (by decide) (by decide) fl_X4_41 rfl rfl dX4_readProduct_17 ?_
        refine lv_topi (fun x_15 ex_15 => ?_)
        have bx_15 : 0 ≤ x_15.toInt ∧ x_15.toInt ≤ 41 := cI_rd iM_9 ob_2.1 ex_15
        have ux_15 : (tI M_9 2 4).toInt = x_15.toInt := by rw [ex_15]
        refine lv_bipush (v := 40) hx hb dX4_readProduct_20 (by decide) ?_
        have hj_37_19 : ∀  (H : Heap) (locs : List Loc) (ls : Array Slot), (16 ≤ (tI M_9 2 4).toInt) → ti_H ti_LT D A cy H0 M_9 H locs → lv_has ls 4 [(2, .int x_6), (0, .ref (A 1 0)), (1, .int 1)] → W p l e (ti_rm 58) s m args below meth c H locs 0 0 Q (F0 m 37 ls []) := by
          intro  H locs ls j_19 hw hl
          refine lv_aload_n hx hb dX4_readProduct_37 rfl (lv_at hl 1 rfl) ?_
          refine ti_get (ci := 4) (k := 0) (N := 6) (T := TX4) (v := .ref (A 2 0)) C hw iw_4 rfl ob_1 (by decide) (by decide) fl_X4_12 rfl rfl dX4_readProduct_38 ?_
          refine ti_get (ci := 7) (k := 4) (N := 7) (T := TX7) C hw iw_7 rfl ob_2 (by decide) (by decide) fl_X4_41 rfl rfl dX4_readProduct_41 ?_
          refine ti_top (y := x_15) (ex_15.symm) ?_
          have u_22 : (tI M_9 2 4).toInt = (x_15 : Int32).toInt := by rw [(ex_15.symm)]
          refine lv_istore_n (lv' := [(3, .int x_15), (2, .int x_6), (0, .ref (A 1 0)), (1, .int 1)]) hx hb dX4_readProduct_44 rfl hl (by decide) rfl (fun ls hl => ?_)
          refine lv_aload_n hx hb dX4_readProduct_45 rfl (lv_at hl 2 rfl) ?_
          refine ti_callVvE (ci := 4) (av := []) C hE hw (s_X4_knot l D A cy hJ M_9 iM_9 t ht ((tT_fr f_10).trans hT)) ⟨ml_X4_167, ym_X4_knot, yv_X4_knot, yi_X4_knot, yc_X4_knot⟩ yd_X4_knot ob_1 (by decide) rfl rfl hl.1 (Nat.le_of_ble_eq_true rfl) ⟨by decide, by decide⟩ ⟨Nat.zero_le _, Nat.zero_le _⟩ dX4_readProduct_46 (fun M_24 H locs hp_24 hw => ?_)
          obtain ⟨iM_24, q_25, q_26, q_27⟩ := hp_24
          refine lv_aload_n hx hb dX4_readProduct_49 rfl (lv_at hl 2 rfl) ?_
          refine lv_iload_n hx hb dX4_readProduct_50 rfl (lv_at hl 3 rfl) ?_
          refine ti_callVvE (ci := 4) (av := [.int 1]) C hE hw (s_X4_readPart_1 l D A cy hJ M_24 iM_24 t ht ((tT_fr q_25).trans ((tT_fr f_10).trans hT)) lw hlw ((tT_fr q_25).trans ((tT_fr f_10).trans hL))) ⟨ml_X4_187, ym_X4_readPart, yv_X4_readPart, yi_X4_readPart, yc_X4_readPart⟩ yd_X4_readPart ob_1 (by decide) rfl rfl hl.1 (Nat.le_of_ble_eq_true rfl) ⟨by decide, by decide⟩ ⟨Nat.zero_le _, Nat.zero_le _⟩ dX4_readProduct_51 (fun M_29 H locs hp_29 hw => ?_)
          obtain ⟨iM_29, q_30, q_31, q_32⟩ := hp_29
          refine lv_aload_n hx hb dX4_readProduct_54 rfl (lv_at hl 2 rfl) ?_
          refine ti_get (ci := 4) (k := 2) (N := 6) (T := TX4) (v := .ref (A lw 0)) C hw iw_4 rfl ob_1 (by decide) (by decide) fl_X4_154 rfl (ti_Tv ((tT_fr q_30).trans ((tT_fr q_25).trans ((tT_fr f_10).trans hL)))) dX4_readProduct_55 ?_
          refine lv_iload_n hx hb dX4_readProduct_58 rfl (lv_at hl 0 rfl) ?_
          refine lv_ineg hx hb dX4_readProduct_59 ?_
          refine lv_topi (fun x_33 ex_33 => ?_)
          have tx_33 : x_33.toInt = -x_15.toInt := i_neg ex_33 rfl (by omega)
          refine ti_callVv (ci := 1) (av := [.int x_33]) C hw (s_X1_add l D A cy hJ M_29 iM_29 lw hlw x_33 (by first | omega | exact Or.inl (by decide) | exact Or.inr (by decide))) ⟨ml_X4_170, ym_X1_add, yv_X1_add, yi_X1_add, yc_X1_add⟩ yd_X1_add hlw (by decide) rfl rfl hl.1 (Nat.le_of_ble_eq_true rfl) ⟨by decide, by decide⟩ ⟨Nat.zero_le _, Nat.zero_le _⟩ dX4_readProduct_60 (fun M_35 H locs hp_35 hw => ?_)
          obtain ⟨iM_35, q_36, q_37⟩ := hp_35
          obtain ⟨x_38, ex_38⟩ : ∃ z : Int32, z = x_6 + 1 := ⟨_, rfl⟩
          have tx_38 : x_38.toInt = x_6.toInt + 1 := i_add ex_38 rfl (by decide) (by omega) (by omega)
          refine lv_iinc (v := x_38) (lv' := [(2, .int x_38), (3, .int x_15), (0, .ref (A 1 0)), (1, .int 1)]) hx hb dX4_readProduct_63 hl (k := 1) rfl (by rw [ex_38]; rfl) (by decide) rfl (fun ls hl => ?_)
          refine lv_goto (tgt := 7) hx hb dX4_readProduct_66 (by decide) ?_
          exact ih_13 x_38 M_35 _ _ _ (by omega) (by first | omega | decide) (by first | omega | decide) iM_35 ((q_36).trans ((q_30).trans ((q_25).trans f_10))) (f0.trans (f0_x q_37) (f0.trans q_31 (f0.trans q_26 f_11))) (((q_37 1).2.1).trans ((q_32).trans ((q_27).trans f_12))) hw (lv_sub hl [0, 2, 3] rfl)
        refine sb_icmp_eq (tgt := 37) hx hb rfl (by decide : (40 : Int32).toInt = 40) dX4_readProduct_22 (by decide) (fun c_22_15 => ?_) (fun c_22_15 => ?_)
        · have u_20 : (tI M_9 2 4).toInt = (x_15 : Int32).toInt := by rw [(ex_15.symm)]
          exact hj_37_19  _ _ _ (by first | omega | decide) hw (lv_sub hl [0, 1, 2] rfl)
        · refine lv_aload_n hx hb dX4_readProduct_25 rfl (lv_at hl 1 rfl) ?_
          refine ti_get (ci := 4) (k := 0) (N := 6) (T := TX4) (v := .ref (A 2 0)) C hw iw_4 rfl ob_1 (by decide) (by decide) fl_X4_12 rfl rfl dX4_readProduct_26 ?_
          refine ti_get (ci := 7) (k := 4) (N := 7) (T := TX7) C hw iw_7 rfl ob_2 (by decide) (by decide) fl_X4_41 rfl rfl dX4_readProduct_29 ?_
          refine ti_top (y := x_15) (ex_15.symm) ?_
          have u_17 : (tI M_9 2 4).toInt = (x_15 : Int32).toInt := by rw [(ex_15.symm)]
          refine lv_bipush (v := 41) hx hb dX4_readProduct_32 (by decide) ?_
          refine sb_icmp_ne (tgt := 69) hx hb rfl (by decide : (41 : Int32).toInt = 41) dX4_readProduct_34 (by decide) (fun c_34_17 => ?_) (fun c_34_17 => ?_)
          · exact hQ _ _ _ _ _ hw (⟨iM_9, (f_10), f_11, (f_12)⟩) dX4_readProduct_69
          · have u_21 : (tI M_9 2 4).toInt = (x_15 : Int32).toInt := by rw [(ex_15.symm)]
            exact hj_37_19  _ _ _ (by first | omega | decide) hw (lv_sub hl [0, 1, 2] rfl)
  exact hl_7_12 ((64 - 0 : Int).toNat + 1) 0 M_2 _ _ _ (Nat.lt_succ_self _) (by have lt0 : (0 : Int32).toInt = 0 := (by decide); first | omega | decide) (by have lt0 : (0 : Int32).toInt = 0 := (by decide); first | omega | decide) iM_2 (q_3) q_4 (q_5) hw (lv_sub hl [0, 1, 2] rfl)
set_option maxHeartbeats 4000000 in
set_option maxRecDepth 100000 in
theorem s_X4_readSum_1 (l : Launch) (D : va_G) (A : Nat → Nat → Nat) (cy : Nat → ClassId) (hJ : ti_inj ti_LT A) (M : ti_M) (hI : cI Tc M) (t : Nat) (ht : t = 3 ∨ t = 4) (hT : tT M 1 1 = some t) (lw : Nat) (hlw : ti_ob ti_LT lw 1) (hL : tT M 1 2 = some lw) : ti_KvE l yX4_readSum cX4_readSum 4 59 ti_LT D A cy M [.ref (A 1 0), .int 1] (fun M2 => cI Tc M2 ∧ M2.2.2.2 = M.2.2.2 ∧ f0 M2 M ∧ tI M2 2 1 = tI M 2 1) := by
  refine ti_eVE yp_X4_readSum hJ ti_LT_nd (Nat.le_of_ble_eq_true rfl) ?_
  intro p e s m args below meth c Q H0 C hE hQ hw ls hl
  have hx := C.1
  have hb := C.2.1
  have hl : lv_has ls 4 [(0, .ref (A 1 0)), (1, .int 1)] := hl
  refine lv_aload_n hx hb dX4_readSum_0 rfl (lv_at hl 0 rfl) ?_
  refine lv_iload_n hx hb dX4_readSum_1 rfl (lv_at hl 1 rfl) ?_
  refine ti_callVvE (ci := 4) (av := [.int 1]) C hE hw (s_X4_readProduct_1 l D A cy hJ M hI t ht (hT) lw hlw (hL)) ⟨ml_X4_184, ym_X4_readProduct, yv_X4_readProduct, yi_X4_readProduct, yc_X4_readProduct⟩ yd_X4_readProduct ob_1 (by decide) rfl rfl hl.1 (Nat.le_of_ble_eq_true rfl) ⟨by decide, by decide⟩ ⟨Nat.zero_le _, Nat.zero_le _⟩ dX4_readSum_2 (fun M_2 H locs hp_2 hw => ?_)
  obtain ⟨iM_2, q_3, q_4, q_5⟩ := hp_2
  refine lv_iconst (v := 0) hx hb dX4_readSum_5 (by decide) ?_
  refine lv_istore_n (lv' := [(2, .int 0), (0, .ref (A 1 0)), (1, .int 1)]) hx hb dX4_readSum_6 rfl hl (by decide) rfl (fun ls hl => ?_)
  have hl_7_12 : ∀ (n_13 : Nat) (x_6 : Int32) (M_9 : ti_M) (H : Heap) (locs : List Loc) (ls : Array Slot), (64 - x_6.toInt : Int).toNat < n_13 → (0 ≤ x_6.toInt) → (x_6.toInt ≤ 64) → (cI Tc M_9) → (M_9.2.2.2 = M.2.2.2) → (f0 M_9 M) → (tI M_9 2 1 = tI M 2 1) → ti_H ti_LT D A cy H0 M_9 H locs → lv_has ls 4 [(2, .int x_6), (0, .ref (A 1 0)), (1, .int 1)] → W p l e (ti_rm 59) s m args below meth c H locs 0 0 Q (F0 m 7 ls []) := by
    intro n_13
    induction n_13 with
    | zero => intro x_6 M_9 H locs ls hf_13; exact absurd hf_13 (Nat.not_lt_zero _)
    | succ n_13 ih_13 =>
      intro x_6 M_9 H locs ls hf_13 b_7 b_8 iM_9 f_10 f_11 f_12 hw hl
      refine lv_iload_n hx hb dX4_readSum_7 rfl (lv_at hl 0 rfl) ?_
      refine lv_bipush (v := 64) hx hb dX4_readSum_8 (by decide) ?_
      refine sb_icmp_ge (tgt := 69) hx hb rfl (by decide : (64 : Int32).toInt = 64) dX4_readSum_10 (by decide) (fun c_10_13 => ?_) (fun c_10_13 => ?_)
      · exact hQ _ _ _ _ _ hw (⟨iM_9, (f_10), f_11, (f_12)⟩) dX4_readSum_69
      · refine lv_aload_n hx hb dX4_readSum_13 rfl (lv_at hl 1 rfl) ?_
        refine ti_get (ci := 4) (k := 0) (N := 6) (T := TX4) (v := .ref (A 2 0)) C hw iw_4 rfl ob_1 (by decide) (by decide) fl_X4_12 rfl rfl dX4_readSum_14 ?_
        refine ti_get (ci := 7) (k := 4) (N := 7) (T := TX7) C hw iw_7 rfl ob_2 (by decide) (by decide) fl_X4_41 rfl rfl dX4_readSum_17 ?_
        refine lv_topi (fun x_15 ex_15 => ?_)
        have bx_15 : 0 ≤ x_15.toInt ∧ x_15.toInt ≤ 41 := cI_rd iM_9 ob_2.1 ex_15
        have ux_15 : (tI M_9 2 4).toInt = x_15.toInt := by rw [ex_15]
        refine lv_bipush (v := 38) hx hb dX4_readSum_20 (by decide) ?_
        have hj_37_19 : ∀  (H : Heap) (locs : List Loc) (ls : Array Slot), (16 ≤ (tI M_9 2 4).toInt) → ti_H ti_LT D A cy H0 M_9 H locs → lv_has ls 4 [(2, .int x_6), (0, .ref (A 1 0)), (1, .int 1)] → W p l e (ti_rm 59) s m args below meth c H locs 0 0 Q (F0 m 37 ls []) := by
          intro  H locs ls j_19 hw hl
          refine lv_aload_n hx hb dX4_readSum_37 rfl (lv_at hl 1 rfl) ?_
          refine ti_get (ci := 4) (k := 0) (N := 6) (T := TX4) (v := .ref (A 2 0)) C hw iw_4 rfl ob_1 (by decide) (by decide) fl_X4_12 rfl rfl dX4_readSum_38 ?_
          refine ti_get (ci := 7) (k := 4) (N := 7) (T := TX7) C hw iw_7 rfl ob_2 (by decide) (by decide) fl_X4_41 rfl rfl dX4_readSum_41 ?_
          refine ti_top (y := x_15) (ex_15.symm) ?_
          have u_22 : (tI M_9 2 4).toInt = (x_15 : Int32).toInt := by rw [(ex_15.symm)]
          refine lv_istore_n (lv' := [(3, .int x_15), (2, .int x_6), (0, .ref (A 1 0)), (1, .int 1)]) hx hb dX4_readSum_44 rfl hl (by decide) rfl (fun ls hl => ?_)
          refine lv_aload_n hx hb dX4_readSum_45 rfl (lv_at hl 2 rfl) ?_
          refine ti_callVvE (ci := 4) (av := []) C hE hw (s_X4_knot l D A cy hJ M_9 iM_9 t ht ((tT_fr f_10).trans hT)) ⟨ml_X4_167, ym_X4_knot, yv_X4_knot, yi_X4_knot, yc_X4_knot⟩ yd_X4_knot ob_1 (by decide) rfl rfl hl.1 (Nat.le_of_ble_eq_true rfl) ⟨by decide, by decide⟩ ⟨Nat.zero_le _, Nat.zero_le _⟩ dX4_readSum_46 (fun M_24 H locs hp_24 hw => ?_)
          obtain ⟨iM_24, q_25, q_26, q_27⟩ := hp_24
          refine lv_aload_n hx hb dX4_readSum_49 rfl (lv_at hl 2 rfl) ?_
          refine lv_iload_n hx hb dX4_readSum_50 rfl (lv_at hl 3 rfl) ?_
          refine ti_callVvE (ci := 4) (av := [.int 1]) C hE hw (s_X4_readProduct_1 l D A cy hJ M_24 iM_24 t ht ((tT_fr q_25).trans ((tT_fr f_10).trans hT)) lw hlw ((tT_fr q_25).trans ((tT_fr f_10).trans hL))) ⟨ml_X4_184, ym_X4_readProduct, yv_X4_readProduct, yi_X4_readProduct, yc_X4_readProduct⟩ yd_X4_readProduct ob_1 (by decide) rfl rfl hl.1 (Nat.le_of_ble_eq_true rfl) ⟨by decide, by decide⟩ ⟨Nat.zero_le _, Nat.zero_le _⟩ dX4_readSum_51 (fun M_29 H locs hp_29 hw => ?_)
          obtain ⟨iM_29, q_30, q_31, q_32⟩ := hp_29
          refine lv_aload_n hx hb dX4_readSum_54 rfl (lv_at hl 2 rfl) ?_
          refine ti_get (ci := 4) (k := 2) (N := 6) (T := TX4) (v := .ref (A lw 0)) C hw iw_4 rfl ob_1 (by decide) (by decide) fl_X4_154 rfl (ti_Tv ((tT_fr q_30).trans ((tT_fr q_25).trans ((tT_fr f_10).trans hL)))) dX4_readSum_55 ?_
          refine lv_iload_n hx hb dX4_readSum_58 rfl (lv_at hl 0 rfl) ?_
          refine lv_ineg hx hb dX4_readSum_59 ?_
          refine lv_topi (fun x_33 ex_33 => ?_)
          have tx_33 : x_33.toInt = -x_15.toInt := i_neg ex_33 rfl (by omega)
          refine ti_callVv (ci := 1) (av := [.int x_33]) C hw (s_X1_add l D A cy hJ M_29 iM_29 lw hlw x_33 (by first | omega | exact Or.inl (by decide) | exact Or.inr (by decide))) ⟨ml_X4_170, ym_X1_add, yv_X1_add, yi_X1_add, yc_X1_add⟩ yd_X1_add hlw (by decide) rfl rfl hl.1 (Nat.le_of_ble_eq_true rfl) ⟨by decide, by decide⟩ ⟨Nat.zero_le _, Nat.zero_le _⟩ dX4_readSum_60 (fun M_35 H locs hp_35 hw => ?_)
          obtain ⟨iM_35, q_36, q_37⟩ := hp_35
          obtain ⟨x_38, ex_38⟩ : ∃ z : Int32, z = x_6 + 1 := ⟨_, rfl⟩
          have tx_38 : x_38.toInt = x_6.toInt + 1 := i_add ex_38 rfl (by decide) (by omega) (by omega)
          refine lv_iinc (v := x_38) (lv' := [(2, .int x_38), (3, .int x_15), (0, .ref (A 1 0)), (1, .int 1)]) hx hb dX4_readSum_63 hl (k := 1) rfl (by rw [ex_38]; rfl) (by decide) rfl (fun ls hl => ?_)
          refine lv_goto (tgt := 7) hx hb dX4_readSum_66 (by decide) ?_
          exact ih_13 x_38 M_35 _ _ _ (by omega) (by first | omega | decide) (by first | omega | decide) iM_35 ((q_36).trans ((q_30).trans ((q_25).trans f_10))) (f0.trans (f0_x q_37) (f0.trans q_31 (f0.trans q_26 f_11))) (((q_37 1).2.1).trans ((q_32).trans ((q_27).trans f_12))) hw (lv_sub hl [0, 2, 3] rfl)
        refine sb_icmp_eq (tgt := 37) hx hb rfl (by decide : (38 : Int32).toInt = 38) dX4_readSum_22 (by decide) (fun c_22_15 => ?_) (fun c_22_15 => ?_)
        · have u_20 : (tI M_9 2 4).toInt = (x_15 : Int32).toInt := by rw [(ex_15.symm)]
          exact hj_37_19  _ _ _ (by first | omega | decide) hw (lv_sub hl [0, 1, 2] rfl)
        · refine lv_aload_n hx hb dX4_readSum_25 rfl (lv_at hl 1 rfl) ?_
          refine ti_get (ci := 4) (k := 0) (N := 6) (T := TX4) (v := .ref (A 2 0)) C hw iw_4 rfl ob_1 (by decide) (by decide) fl_X4_12 rfl rfl dX4_readSum_26 ?_
          refine ti_get (ci := 7) (k := 4) (N := 7) (T := TX7) C hw iw_7 rfl ob_2 (by decide) (by decide) fl_X4_41 rfl rfl dX4_readSum_29 ?_
          refine ti_top (y := x_15) (ex_15.symm) ?_
          have u_17 : (tI M_9 2 4).toInt = (x_15 : Int32).toInt := by rw [(ex_15.symm)]
          refine lv_bipush (v := 39) hx hb dX4_readSum_32 (by decide) ?_
          refine sb_icmp_ne (tgt := 69) hx hb rfl (by decide : (39 : Int32).toInt = 39) dX4_readSum_34 (by decide) (fun c_34_17 => ?_) (fun c_34_17 => ?_)
          · exact hQ _ _ _ _ _ hw (⟨iM_9, (f_10), f_11, (f_12)⟩) dX4_readSum_69
          · have u_21 : (tI M_9 2 4).toInt = (x_15 : Int32).toInt := by rw [(ex_15.symm)]
            exact hj_37_19  _ _ _ (by first | omega | decide) hw (lv_sub hl [0, 1, 2] rfl)
  exact hl_7_12 ((64 - 0 : Int).toNat + 1) 0 M_2 _ _ _ (Nat.lt_succ_self _) (by have lt0 : (0 : Int32).toInt = 0 := (by decide); first | omega | decide) (by have lt0 : (0 : Int32).toInt = 0 := (by decide); first | omega | decide) iM_2 (q_3) q_4 (q_5) hw (lv_sub hl [0, 1, 2] rfl)
set_option maxHeartbeats 4000000 in
set_option maxRecDepth 100000 in
theorem s_X4_readComparison_1 (l : Launch) (D : va_G) (A : Nat → Nat → Nat) (cy : Nat → ClassId) (hJ : ti_inj ti_LT A) (M : ti_M) (hI : cI Tc M) (t : Nat) (ht : t = 3 ∨ t = 4) (hT : tT M 1 1 = some t) (lw : Nat) (hlw : ti_ob ti_LT lw 1) (hL : tT M 1 2 = some lw) : ti_KvE l yX4_readComparison cX4_readComparison 3 60 ti_LT D A cy M [.ref (A 1 0), .int 1] (fun M2 => cI Tc M2 ∧ M2.2.2.2 = M.2.2.2 ∧ f0 M2 M ∧ tI M2 2 1 = tI M 2 1) := by
  refine ti_eVE yp_X4_readComparison hJ ti_LT_nd (Nat.le_of_ble_eq_true rfl) ?_
  intro p e s m args below meth c Q H0 C hE hQ hw ls hl
  have hx := C.1
  have hb := C.2.1
  have hl : lv_has ls 3 [(0, .ref (A 1 0)), (1, .int 1)] := hl
  refine lv_aload_n hx hb dX4_readComparison_0 rfl (lv_at hl 0 rfl) ?_
  refine lv_iload_n hx hb dX4_readComparison_1 rfl (lv_at hl 1 rfl) ?_
  refine ti_callVvE (ci := 4) (av := [.int 1]) C hE hw (s_X4_readSum_1 l D A cy hJ M hI t ht (hT) lw hlw (hL)) ⟨ml_X4_181, ym_X4_readSum, yv_X4_readSum, yi_X4_readSum, yc_X4_readSum⟩ yd_X4_readSum ob_1 (by decide) rfl rfl hl.1 (Nat.le_of_ble_eq_true rfl) ⟨by decide, by decide⟩ ⟨Nat.zero_le _, Nat.zero_le _⟩ dX4_readComparison_2 (fun M_2 H locs hp_2 hw => ?_)
  obtain ⟨iM_2, q_3, q_4, q_5⟩ := hp_2
  refine lv_aload_n hx hb dX4_readComparison_5 rfl (lv_at hl 0 rfl) ?_
  refine ti_get (ci := 4) (k := 0) (N := 6) (T := TX4) (v := .ref (A 2 0)) C hw iw_4 rfl ob_1 (by decide) (by decide) fl_X4_12 rfl rfl dX4_readComparison_6 ?_
  refine ti_get (ci := 7) (k := 4) (N := 7) (T := TX7) C hw iw_7 rfl ob_2 (by decide) (by decide) fl_X4_41 rfl rfl dX4_readComparison_9 ?_
  refine lv_topi (fun x_6 ex_6 => ?_)
  have bx_6 : 0 ≤ x_6.toInt ∧ x_6.toInt ≤ 41 := cI_rd iM_2 ob_2.1 ex_6
  have ux_6 : (tI M_2 2 4).toInt = x_6.toInt := by rw [ex_6]
  refine lv_istore_n (lv' := [(2, .int x_6), (0, .ref (A 1 0)), (1, .int 1)]) hx hb dX4_readComparison_12 rfl hl (by decide) rfl (fun ls hl => ?_)
  refine lv_iload_n hx hb dX4_readComparison_13 rfl (lv_at hl 0 rfl) ?_
  refine lv_bipush (v := 32) hx hb dX4_readComparison_14 (by decide) ?_
  refine sb_icmp_lt (tgt := 43) hx hb rfl (by decide : (32 : Int32).toInt = 32) dX4_readComparison_16 (by decide) (fun c_16_6 => ?_) (fun c_16_6 => ?_)
  · exact hQ _ _ _ _ _ hw (⟨iM_2, (q_3), q_4, (q_5)⟩) dX4_readComparison_43
  · refine lv_iload_n hx hb dX4_readComparison_19 rfl (lv_at hl 0 rfl) ?_
    refine lv_bipush (v := 37) hx hb dX4_readComparison_20 (by decide) ?_
    refine sb_icmp_gt (tgt := 43) hx hb rfl (by decide : (37 : Int32).toInt = 37) dX4_readComparison_22 (by decide) (fun c_22_7 => ?_) (fun c_22_7 => ?_)
    · exact hQ _ _ _ _ _ hw (⟨iM_2, (q_3), q_4, (q_5)⟩) dX4_readComparison_43
    · refine lv_aload_n hx hb dX4_readComparison_25 rfl (lv_at hl 1 rfl) ?_
      refine ti_callVvE (ci := 4) (av := []) C hE hw (s_X4_knot l D A cy hJ M_2 iM_2 t ht ((tT_fr q_3).trans hT)) ⟨ml_X4_167, ym_X4_knot, yv_X4_knot, yi_X4_knot, yc_X4_knot⟩ yd_X4_knot ob_1 (by decide) rfl rfl hl.1 (Nat.le_of_ble_eq_true rfl) ⟨by decide, by decide⟩ ⟨Nat.zero_le _, Nat.zero_le _⟩ dX4_readComparison_26 (fun M_10 H locs hp_10 hw => ?_)
      obtain ⟨iM_10, q_11, q_12, q_13⟩ := hp_10
      refine lv_aload_n hx hb dX4_readComparison_29 rfl (lv_at hl 1 rfl) ?_
      refine lv_iload_n hx hb dX4_readComparison_30 rfl (lv_at hl 2 rfl) ?_
      refine ti_callVvE (ci := 4) (av := [.int 1]) C hE hw (s_X4_readSum_1 l D A cy hJ M_10 iM_10 t ht ((tT_fr q_11).trans ((tT_fr q_3).trans hT)) lw hlw ((tT_fr q_11).trans ((tT_fr q_3).trans hL))) ⟨ml_X4_181, ym_X4_readSum, yv_X4_readSum, yi_X4_readSum, yc_X4_readSum⟩ yd_X4_readSum ob_1 (by decide) rfl rfl hl.1 (Nat.le_of_ble_eq_true rfl) ⟨by decide, by decide⟩ ⟨Nat.zero_le _, Nat.zero_le _⟩ dX4_readComparison_31 (fun M_15 H locs hp_15 hw => ?_)
      obtain ⟨iM_15, q_16, q_17, q_18⟩ := hp_15
      refine lv_aload_n hx hb dX4_readComparison_34 rfl (lv_at hl 1 rfl) ?_
      refine ti_get (ci := 4) (k := 2) (N := 6) (T := TX4) (v := .ref (A lw 0)) C hw iw_4 rfl ob_1 (by decide) (by decide) fl_X4_154 rfl (ti_Tv ((tT_fr q_16).trans ((tT_fr q_11).trans ((tT_fr q_3).trans hL)))) dX4_readComparison_35 ?_
      refine lv_iload_n hx hb dX4_readComparison_38 rfl (lv_at hl 0 rfl) ?_
      refine lv_ineg hx hb dX4_readComparison_39 ?_
      refine lv_topi (fun x_19 ex_19 => ?_)
      have tx_19 : x_19.toInt = -x_6.toInt := i_neg ex_19 rfl (by omega)
      refine ti_callVv (ci := 1) (av := [.int x_19]) C hw (s_X1_add l D A cy hJ M_15 iM_15 lw hlw x_19 (by first | omega | exact Or.inl (by decide) | exact Or.inr (by decide))) ⟨ml_X4_170, ym_X1_add, yv_X1_add, yi_X1_add, yc_X1_add⟩ yd_X1_add hlw (by decide) rfl rfl hl.1 (Nat.le_of_ble_eq_true rfl) ⟨by decide, by decide⟩ ⟨Nat.zero_le _, Nat.zero_le _⟩ dX4_readComparison_40 (fun M_21 H locs hp_21 hw => ?_)
      obtain ⟨iM_21, q_22, q_23⟩ := hp_21
      exact hQ _ _ _ _ _ hw (⟨iM_21, ((q_22).trans ((q_16).trans ((q_11).trans q_3))), (f0.trans (f0_x q_23) (f0.trans q_17 (f0.trans q_12 q_4))), (((q_23 1).2.1).trans ((q_18).trans ((q_13).trans q_5)))⟩) dX4_readComparison_43
set_option maxHeartbeats 4000000 in
set_option maxRecDepth 100000 in
theorem s_X4_readNegated_1 (l : Launch) (D : va_G) (A : Nat → Nat → Nat) (cy : Nat → ClassId) (hJ : ti_inj ti_LT A) (M : ti_M) (hI : cI Tc M) (t : Nat) (ht : t = 3 ∨ t = 4) (hT : tT M 1 1 = some t) (lw : Nat) (hlw : ti_ob ti_LT lw 1) (hL : tT M 1 2 = some lw) : ti_KvE l yX4_readNegated cX4_readNegated 4 61 ti_LT D A cy M [.ref (A 1 0), .int 1] (fun M2 => cI Tc M2 ∧ M2.2.2.2 = M.2.2.2 ∧ f0 M2 M ∧ tI M2 2 1 = tI M 2 1) := by
  refine ti_eVE yp_X4_readNegated hJ ti_LT_nd (Nat.le_of_ble_eq_true rfl) ?_
  intro p e s m args below meth c Q H0 C hE hQ hw ls hl
  have hx := C.1
  have hb := C.2.1
  have hl : lv_has ls 4 [(0, .ref (A 1 0)), (1, .int 1)] := hl
  refine lv_iconst (v := 0) hx hb dX4_readNegated_0 (by decide) ?_
  refine lv_istore_n (lv' := [(2, .int 0), (0, .ref (A 1 0)), (1, .int 1)]) hx hb dX4_readNegated_1 rfl hl (by decide) rfl (fun ls hl => ?_)
  have hl_2_7 : ∀ (n_8 : Nat) (x_1 : Int32) (M_4 : ti_M) (H : Heap) (locs : List Loc) (ls : Array Slot), (65 - x_1.toInt : Int).toNat < n_8 → (0 ≤ x_1.toInt) → (x_1.toInt ≤ 65) → (cI Tc M_4) → (M_4.2.2.2 = M.2.2.2) → (f0 M_4 M) → (tI M_4 2 1 = tI M 2 1) → ti_H ti_LT D A cy H0 M_4 H locs → lv_has ls 4 [(2, .int x_1), (0, .ref (A 1 0)), (1, .int 1)] → W p l e (ti_rm 61) s m args below meth c H locs 0 0 Q (F0 m 2 ls []) := by
    intro n_8
    induction n_8 with
    | zero => intro x_1 M_4 H locs ls hf_8; exact absurd hf_8 (Nat.not_lt_zero _)
    | succ n_8 ih_8 =>
      intro x_1 M_4 H locs ls hf_8 b_2 b_3 iM_4 f_5 f_6 f_7 hw hl
      refine lv_iload_n hx hb dX4_readNegated_2 rfl (lv_at hl 0 rfl) ?_
      refine lv_bipush (v := 64) hx hb dX4_readNegated_3 (by decide) ?_
      have hj_30_17 : ∀  (H : Heap) (locs : List Loc) (ls : Array Slot), ti_H ti_LT D A cy H0 M_4 H locs → lv_has ls 4 [(2, .int x_1), (0, .ref (A 1 0)), (1, .int 1)] → W p l e (ti_rm 61) s m args below meth c H locs 0 0 Q (F0 m 30 ls []) := by
        intro  H locs ls  hw hl
        refine lv_aload_n hx hb dX4_readNegated_30 rfl (lv_at hl 1 rfl) ?_
        refine lv_iload_n hx hb dX4_readNegated_31 rfl (lv_at hl 2 rfl) ?_
        refine ti_callVvE (ci := 4) (av := [.int 1]) C hE hw (s_X4_readComparison_1 l D A cy hJ M_4 iM_4 t ht ((tT_fr f_5).trans hT) lw hlw ((tT_fr f_5).trans hL)) ⟨ml_X4_178, ym_X4_readComparison, yv_X4_readComparison, yi_X4_readComparison, yc_X4_readComparison⟩ yd_X4_readComparison ob_1 (by decide) rfl rfl hl.1 (Nat.le_of_ble_eq_true rfl) ⟨by decide, by decide⟩ ⟨Nat.zero_le _, Nat.zero_le _⟩ dX4_readNegated_32 (fun M_19 H locs hp_19 hw => ?_)
        obtain ⟨iM_19, q_20, q_21, q_22⟩ := hp_19
        refine lv_iconst (v := 0) hx hb dX4_readNegated_35 (by decide) ?_
        refine lv_istore_n (lv' := [(3, .int 0), (2, .int x_1), (0, .ref (A 1 0)), (1, .int 1)]) hx hb dX4_readNegated_36 rfl hl (by decide) rfl (fun ls hl => ?_)
        have hl_37_29 : ∀ (n_30 : Nat) (x_23 : Int32) (M_26 : ti_M) (H : Heap) (locs : List Loc) (ls : Array Slot), (65 - x_23.toInt : Int).toNat < n_30 → (0 ≤ x_23.toInt) → (x_23.toInt ≤ 65) → (cI Tc M_26) → (M_26.2.2.2 = M.2.2.2) → (f0 M_26 M) → (tI M_26 2 1 = tI M 2 1) → ti_H ti_LT D A cy H0 M_26 H locs → lv_has ls 4 [(3, .int x_23), (2, .int x_1), (0, .ref (A 1 0)), (1, .int 1)] → W p l e (ti_rm 61) s m args below meth c H locs 0 0 Q (F0 m 37 ls []) := by
          intro n_30
          induction n_30 with
          | zero => intro x_23 M_26 H locs ls hf_30; exact absurd hf_30 (Nat.not_lt_zero _)
          | succ n_30 ih_30 =>
            intro x_23 M_26 H locs ls hf_30 b_24 b_25 iM_26 f_27 f_28 f_29 hw hl
            refine lv_iload_n hx hb dX4_readNegated_37 rfl (lv_at hl 0 rfl) ?_
            refine lv_iload_n hx hb dX4_readNegated_38 rfl (lv_at hl 1 rfl) ?_
            refine sb_icmp_ge (tgt := 57) hx hb rfl rfl dX4_readNegated_39 (by decide) (fun c_39_30 => ?_) (fun c_39_30 => ?_)
            · exact hQ _ _ _ _ _ hw (⟨iM_26, (f_27), f_28, (f_29)⟩) dX4_readNegated_57
            · refine lv_aload_n hx hb dX4_readNegated_42 rfl (lv_at hl 2 rfl) ?_
              refine ti_get (ci := 4) (k := 2) (N := 6) (T := TX4) (v := .ref (A lw 0)) C hw iw_4 rfl ob_1 (by decide) (by decide) fl_X4_154 rfl (ti_Tv ((tT_fr f_27).trans hL)) dX4_readNegated_43 ?_
              refine lv_bipush (v := (-24)) hx hb dX4_readNegated_46 (by decide) ?_
              refine ti_callVv (ci := 1) (av := [.int (-24)]) C hw (s_X1_add l D A cy hJ M_26 iM_26 lw hlw (-24) (by first | omega | exact Or.inl (by decide) | exact Or.inr (by decide))) ⟨ml_X4_170, ym_X1_add, yv_X1_add, yi_X1_add, yc_X1_add⟩ yd_X1_add hlw (by decide) rfl rfl hl.1 (Nat.le_of_ble_eq_true rfl) ⟨by decide, by decide⟩ ⟨Nat.zero_le _, Nat.zero_le _⟩ dX4_readNegated_48 (fun M_33 H locs hp_33 hw => ?_)
              obtain ⟨iM_33, q_34, q_35⟩ := hp_33
              obtain ⟨x_36, ex_36⟩ : ∃ z : Int32, z = x_23 + 1 := ⟨_, rfl⟩
              have tx_36 : x_36.toInt = x_23.toInt + 1 := i_add ex_36 rfl (by decide) (by omega) (by omega)
              refine lv_iinc (v := x_36) (lv' := [(3, .int x_36), (2, .int x_1), (0, .ref (A 1 0)), (1, .int 1)]) hx hb dX4_readNegated_51 hl (k := 0) rfl (by rw [ex_36]; rfl) (by decide) rfl (fun ls hl => ?_)
              refine lv_goto (tgt := 37) hx hb dX4_readNegated_54 (by decide) ?_
              exact ih_30 x_36 M_33 _ _ _ (by omega) (by first | omega | decide) (by first | omega | decide) iM_33 ((q_34).trans f_27) (f0.trans (f0_x q_35) f_28) (((q_35 1).2.1).trans f_29) hw (lv_sub hl [0, 1, 2, 3] rfl)
        exact hl_37_29 ((65 - 0 : Int).toNat + 1) 0 M_19 _ _ _ (Nat.lt_succ_self _) (by have lt0 : (0 : Int32).toInt = 0 := (by decide); first | omega | decide) (by have lt0 : (0 : Int32).toInt = 0 := (by decide); first | omega | decide) iM_19 ((q_20).trans f_5) (f0.trans q_21 f_6) ((q_22).trans f_7) hw (lv_sub hl [0, 1, 2, 3] rfl)
      refine sb_icmp_gt (tgt := 30) hx hb rfl (by decide : (64 : Int32).toInt = 64) dX4_readNegated_5 (by decide) (fun c_5_8 => ?_) (fun c_5_8 => ?_)
      · exact hj_30_17  _ _ _  hw (lv_sub hl [0, 1, 2] rfl)
      · refine lv_aload_n hx hb dX4_readNegated_8 rfl (lv_at hl 1 rfl) ?_
        refine ti_get (ci := 4) (k := 0) (N := 6) (T := TX4) (v := .ref (A 2 0)) C hw iw_4 rfl ob_1 (by decide) (by decide) fl_X4_12 rfl rfl dX4_readNegated_9 ?_
        refine ti_get (ci := 7) (k := 4) (N := 7) (T := TX7) C hw iw_7 rfl ob_2 (by decide) (by decide) fl_X4_41 rfl rfl dX4_readNegated_12 ?_
        refine lv_topi (fun x_10 ex_10 => ?_)
        have bx_10 : 0 ≤ x_10.toInt ∧ x_10.toInt ≤ 41 := cI_rd iM_4 ob_2.1 ex_10
        have ux_10 : (tI M_4 2 4).toInt = x_10.toInt := by rw [ex_10]
        refine lv_bipush (v := 24) hx hb dX4_readNegated_15 (by decide) ?_
        refine sb_icmp_ne (tgt := 30) hx hb rfl (by decide : (24 : Int32).toInt = 24) dX4_readNegated_17 (by decide) (fun c_17_10 => ?_) (fun c_17_10 => ?_)
        · exact hj_30_17  _ _ _  hw (lv_sub hl [0, 1, 2] rfl)
        · refine lv_aload_n hx hb dX4_readNegated_20 rfl (lv_at hl 1 rfl) ?_
          refine ti_callVvE (ci := 4) (av := []) C hE hw (s_X4_knot l D A cy hJ M_4 iM_4 t ht ((tT_fr f_5).trans hT)) ⟨ml_X4_167, ym_X4_knot, yv_X4_knot, yi_X4_knot, yc_X4_knot⟩ yd_X4_knot ob_1 (by decide) rfl rfl hl.1 (Nat.le_of_ble_eq_true rfl) ⟨by decide, by decide⟩ ⟨Nat.zero_le _, Nat.zero_le _⟩ dX4_readNegated_21 (fun M_13 H locs hp_13 hw => ?_)
          obtain ⟨iM_13, q_14, q_15, q_16⟩ := hp_13
          obtain ⟨x_17, ex_17⟩ : ∃ z : Int32, z = x_1 + 1 := ⟨_, rfl⟩
          have tx_17 : x_17.toInt = x_1.toInt + 1 := i_add ex_17 rfl (by decide) (by omega) (by omega)
          refine lv_iinc (v := x_17) (lv' := [(2, .int x_17), (0, .ref (A 1 0)), (1, .int 1)]) hx hb dX4_readNegated_24 hl (k := 0) rfl (by rw [ex_17]; rfl) (by decide) rfl (fun ls hl => ?_)
          refine lv_goto (tgt := 2) hx hb dX4_readNegated_27 (by decide) ?_
          exact ih_8 x_17 M_13 _ _ _ (by omega) (by first | omega | decide) (by first | omega | decide) iM_13 ((q_14).trans f_5) (f0.trans q_15 f_6) ((q_16).trans f_7) hw (lv_sub hl [0, 1, 2] rfl)
  exact hl_2_7 ((65 - 0 : Int).toNat + 1) 0 M _ _ _ (Nat.lt_succ_self _) (by have lt0 : (0 : Int32).toInt = 0 := (by decide); first | omega | decide) (by have lt0 : (0 : Int32).toInt = 0 := (by decide); first | omega | decide) hI rfl f0.refl rfl hw (lv_sub hl [0, 1, 2] rfl)
set_option maxHeartbeats 4000000 in
set_option maxRecDepth 100000 in
theorem s_X4_readBoth_1 (l : Launch) (D : va_G) (A : Nat → Nat → Nat) (cy : Nat → ClassId) (hJ : ti_inj ti_LT A) (M : ti_M) (hI : cI Tc M) (t : Nat) (ht : t = 3 ∨ t = 4) (hT : tT M 1 1 = some t) (lw : Nat) (hlw : ti_ob ti_LT lw 1) (hL : tT M 1 2 = some lw) : ti_KvE l yX4_readBoth cX4_readBoth 3 62 ti_LT D A cy M [.ref (A 1 0), .int 1] (fun M2 => cI Tc M2 ∧ M2.2.2.2 = M.2.2.2 ∧ f0 M2 M ∧ tI M2 2 1 = tI M 2 1) := by
  refine ti_eVE yp_X4_readBoth hJ ti_LT_nd (Nat.le_of_ble_eq_true rfl) ?_
  intro p e s m args below meth c Q H0 C hE hQ hw ls hl
  have hx := C.1
  have hb := C.2.1
  have hl : lv_has ls 3 [(0, .ref (A 1 0)), (1, .int 1)] := hl
  refine lv_aload_n hx hb dX4_readBoth_0 rfl (lv_at hl 0 rfl) ?_
  refine lv_iload_n hx hb dX4_readBoth_1 rfl (lv_at hl 1 rfl) ?_
  refine ti_callVvE (ci := 4) (av := [.int 1]) C hE hw (s_X4_readNegated_1 l D A cy hJ M hI t ht (hT) lw hlw (hL)) ⟨ml_X4_175, ym_X4_readNegated, yv_X4_readNegated, yi_X4_readNegated, yc_X4_readNegated⟩ yd_X4_readNegated ob_1 (by decide) rfl rfl hl.1 (Nat.le_of_ble_eq_true rfl) ⟨by decide, by decide⟩ ⟨Nat.zero_le _, Nat.zero_le _⟩ dX4_readBoth_2 (fun M_2 H locs hp_2 hw => ?_)
  obtain ⟨iM_2, q_3, q_4, q_5⟩ := hp_2
  refine lv_iconst (v := 0) hx hb dX4_readBoth_5 (by decide) ?_
  refine lv_istore_n (lv' := [(2, .int 0), (0, .ref (A 1 0)), (1, .int 1)]) hx hb dX4_readBoth_6 rfl hl (by decide) rfl (fun ls hl => ?_)
  have hl_7_12 : ∀ (n_13 : Nat) (x_6 : Int32) (M_9 : ti_M) (H : Heap) (locs : List Loc) (ls : Array Slot), (64 - x_6.toInt : Int).toNat < n_13 → (0 ≤ x_6.toInt) → (x_6.toInt ≤ 64) → (cI Tc M_9) → (M_9.2.2.2 = M.2.2.2) → (f0 M_9 M) → (tI M_9 2 1 = tI M 2 1) → ti_H ti_LT D A cy H0 M_9 H locs → lv_has ls 3 [(2, .int x_6), (0, .ref (A 1 0)), (1, .int 1)] → W p l e (ti_rm 62) s m args below meth c H locs 0 0 Q (F0 m 7 ls []) := by
    intro n_13
    induction n_13 with
    | zero => intro x_6 M_9 H locs ls hf_13; exact absurd hf_13 (Nat.not_lt_zero _)
    | succ n_13 ih_13 =>
      intro x_6 M_9 H locs ls hf_13 b_7 b_8 iM_9 f_10 f_11 f_12 hw hl
      refine lv_iload_n hx hb dX4_readBoth_7 rfl (lv_at hl 0 rfl) ?_
      refine lv_bipush (v := 64) hx hb dX4_readBoth_8 (by decide) ?_
      refine sb_icmp_ge (tgt := 49) hx hb rfl (by decide : (64 : Int32).toInt = 64) dX4_readBoth_10 (by decide) (fun c_10_13 => ?_) (fun c_10_13 => ?_)
      · exact hQ _ _ _ _ _ hw (⟨iM_9, (f_10), f_11, (f_12)⟩) dX4_readBoth_49
      · refine lv_aload_n hx hb dX4_readBoth_13 rfl (lv_at hl 1 rfl) ?_
        refine ti_get (ci := 4) (k := 0) (N := 6) (T := TX4) (v := .ref (A 2 0)) C hw iw_4 rfl ob_1 (by decide) (by decide) fl_X4_12 rfl rfl dX4_readBoth_14 ?_
        refine ti_get (ci := 7) (k := 4) (N := 7) (T := TX7) C hw iw_7 rfl ob_2 (by decide) (by decide) fl_X4_41 rfl rfl dX4_readBoth_17 ?_
        refine lv_topi (fun x_15 ex_15 => ?_)
        have bx_15 : 0 ≤ x_15.toInt ∧ x_15.toInt ≤ 41 := cI_rd iM_9 ob_2.1 ex_15
        have ux_15 : (tI M_9 2 4).toInt = x_15.toInt := by rw [ex_15]
        refine lv_bipush (v := 22) hx hb dX4_readBoth_20 (by decide) ?_
        refine sb_icmp_ne (tgt := 49) hx hb rfl (by decide : (22 : Int32).toInt = 22) dX4_readBoth_22 (by decide) (fun c_22_15 => ?_) (fun c_22_15 => ?_)
        · exact hQ _ _ _ _ _ hw (⟨iM_9, (f_10), f_11, (f_12)⟩) dX4_readBoth_49
        · refine lv_aload_n hx hb dX4_readBoth_25 rfl (lv_at hl 1 rfl) ?_
          refine ti_callVvE (ci := 4) (av := []) C hE hw (s_X4_knot l D A cy hJ M_9 iM_9 t ht ((tT_fr f_10).trans hT)) ⟨ml_X4_167, ym_X4_knot, yv_X4_knot, yi_X4_knot, yc_X4_knot⟩ yd_X4_knot ob_1 (by decide) rfl rfl hl.1 (Nat.le_of_ble_eq_true rfl) ⟨by decide, by decide⟩ ⟨Nat.zero_le _, Nat.zero_le _⟩ dX4_readBoth_26 (fun M_18 H locs hp_18 hw => ?_)
          obtain ⟨iM_18, q_19, q_20, q_21⟩ := hp_18
          refine lv_aload_n hx hb dX4_readBoth_29 rfl (lv_at hl 1 rfl) ?_
          refine lv_iload_n hx hb dX4_readBoth_30 rfl (lv_at hl 2 rfl) ?_
          refine ti_callVvE (ci := 4) (av := [.int 1]) C hE hw (s_X4_readNegated_1 l D A cy hJ M_18 iM_18 t ht ((tT_fr q_19).trans ((tT_fr f_10).trans hT)) lw hlw ((tT_fr q_19).trans ((tT_fr f_10).trans hL))) ⟨ml_X4_175, ym_X4_readNegated, yv_X4_readNegated, yi_X4_readNegated, yc_X4_readNegated⟩ yd_X4_readNegated ob_1 (by decide) rfl rfl hl.1 (Nat.le_of_ble_eq_true rfl) ⟨by decide, by decide⟩ ⟨Nat.zero_le _, Nat.zero_le _⟩ dX4_readBoth_31 (fun M_23 H locs hp_23 hw => ?_)
          obtain ⟨iM_23, q_24, q_25, q_26⟩ := hp_23
          refine lv_aload_n hx hb dX4_readBoth_34 rfl (lv_at hl 1 rfl) ?_
          refine ti_get (ci := 4) (k := 2) (N := 6) (T := TX4) (v := .ref (A lw 0)) C hw iw_4 rfl ob_1 (by decide) (by decide) fl_X4_154 rfl (ti_Tv ((tT_fr q_24).trans ((tT_fr q_19).trans ((tT_fr f_10).trans hL)))) dX4_readBoth_35 ?_
          refine lv_bipush (v := (-22)) hx hb dX4_readBoth_38 (by decide) ?_
          refine ti_callVv (ci := 1) (av := [.int (-22)]) C hw (s_X1_add l D A cy hJ M_23 iM_23 lw hlw (-22) (by first | omega | exact Or.inl (by decide) | exact Or.inr (by decide))) ⟨ml_X4_170, ym_X1_add, yv_X1_add, yi_X1_add, yc_X1_add⟩ yd_X1_add hlw (by decide) rfl rfl hl.1 (Nat.le_of_ble_eq_true rfl) ⟨by decide, by decide⟩ ⟨Nat.zero_le _, Nat.zero_le _⟩ dX4_readBoth_40 (fun M_28 H locs hp_28 hw => ?_)
          obtain ⟨iM_28, q_29, q_30⟩ := hp_28
          obtain ⟨x_31, ex_31⟩ : ∃ z : Int32, z = x_6 + 1 := ⟨_, rfl⟩
          have tx_31 : x_31.toInt = x_6.toInt + 1 := i_add ex_31 rfl (by decide) (by omega) (by omega)
          refine lv_iinc (v := x_31) (lv' := [(2, .int x_31), (0, .ref (A 1 0)), (1, .int 1)]) hx hb dX4_readBoth_43 hl (k := 0) rfl (by rw [ex_31]; rfl) (by decide) rfl (fun ls hl => ?_)
          refine lv_goto (tgt := 7) hx hb dX4_readBoth_46 (by decide) ?_
          exact ih_13 x_31 M_28 _ _ _ (by omega) (by first | omega | decide) (by first | omega | decide) iM_28 ((q_29).trans ((q_24).trans ((q_19).trans f_10))) (f0.trans (f0_x q_30) (f0.trans q_25 (f0.trans q_20 f_11))) (((q_30 1).2.1).trans ((q_26).trans ((q_21).trans f_12))) hw (lv_sub hl [0, 1, 2] rfl)
  exact hl_7_12 ((64 - 0 : Int).toNat + 1) 0 M_2 _ _ _ (Nat.lt_succ_self _) (by have lt0 : (0 : Int32).toInt = 0 := (by decide); first | omega | decide) (by have lt0 : (0 : Int32).toInt = 0 := (by decide); first | omega | decide) iM_2 (q_3) q_4 (q_5) hw (lv_sub hl [0, 1, 2] rfl)
set_option maxHeartbeats 4000000 in
set_option maxRecDepth 100000 in
theorem s_X4_readEither_1 (l : Launch) (D : va_G) (A : Nat → Nat → Nat) (cy : Nat → ClassId) (hJ : ti_inj ti_LT A) (M : ti_M) (hI : cI Tc M) (t : Nat) (ht : t = 3 ∨ t = 4) (hT : tT M 1 1 = some t) (lw : Nat) (hlw : ti_ob ti_LT lw 1) (hL : tT M 1 2 = some lw) : ti_KvE l yX4_readEither cX4_readEither 3 63 ti_LT D A cy M [.ref (A 1 0), .int 1] (fun M2 => cI Tc M2 ∧ M2.2.2.2 = M.2.2.2 ∧ f0 M2 M ∧ tI M2 2 1 = tI M 2 1) := by
  refine ti_eVE yp_X4_readEither hJ ti_LT_nd (Nat.le_of_ble_eq_true rfl) ?_
  intro p e s m args below meth c Q H0 C hE hQ hw ls hl
  have hx := C.1
  have hb := C.2.1
  have hl : lv_has ls 3 [(0, .ref (A 1 0)), (1, .int 1)] := hl
  refine lv_aload_n hx hb dX4_readEither_0 rfl (lv_at hl 0 rfl) ?_
  refine lv_iload_n hx hb dX4_readEither_1 rfl (lv_at hl 1 rfl) ?_
  refine ti_callVvE (ci := 4) (av := [.int 1]) C hE hw (s_X4_readBoth_1 l D A cy hJ M hI t ht (hT) lw hlw (hL)) ⟨ml_X4_164, ym_X4_readBoth, yv_X4_readBoth, yi_X4_readBoth, yc_X4_readBoth⟩ yd_X4_readBoth ob_1 (by decide) rfl rfl hl.1 (Nat.le_of_ble_eq_true rfl) ⟨by decide, by decide⟩ ⟨Nat.zero_le _, Nat.zero_le _⟩ dX4_readEither_2 (fun M_2 H locs hp_2 hw => ?_)
  obtain ⟨iM_2, q_3, q_4, q_5⟩ := hp_2
  refine lv_iconst (v := 0) hx hb dX4_readEither_5 (by decide) ?_
  refine lv_istore_n (lv' := [(2, .int 0), (0, .ref (A 1 0)), (1, .int 1)]) hx hb dX4_readEither_6 rfl hl (by decide) rfl (fun ls hl => ?_)
  have hl_7_12 : ∀ (n_13 : Nat) (x_6 : Int32) (M_9 : ti_M) (H : Heap) (locs : List Loc) (ls : Array Slot), (64 - x_6.toInt : Int).toNat < n_13 → (0 ≤ x_6.toInt) → (x_6.toInt ≤ 64) → (cI Tc M_9) → (M_9.2.2.2 = M.2.2.2) → (f0 M_9 M) → (tI M_9 2 1 = tI M 2 1) → ti_H ti_LT D A cy H0 M_9 H locs → lv_has ls 3 [(2, .int x_6), (0, .ref (A 1 0)), (1, .int 1)] → W p l e (ti_rm 63) s m args below meth c H locs 0 0 Q (F0 m 7 ls []) := by
    intro n_13
    induction n_13 with
    | zero => intro x_6 M_9 H locs ls hf_13; exact absurd hf_13 (Nat.not_lt_zero _)
    | succ n_13 ih_13 =>
      intro x_6 M_9 H locs ls hf_13 b_7 b_8 iM_9 f_10 f_11 f_12 hw hl
      refine lv_iload_n hx hb dX4_readEither_7 rfl (lv_at hl 0 rfl) ?_
      refine lv_bipush (v := 64) hx hb dX4_readEither_8 (by decide) ?_
      refine sb_icmp_ge (tgt := 49) hx hb rfl (by decide : (64 : Int32).toInt = 64) dX4_readEither_10 (by decide) (fun c_10_13 => ?_) (fun c_10_13 => ?_)
      · exact hQ _ _ _ _ _ hw (⟨iM_9, (f_10), f_11, (f_12)⟩) dX4_readEither_49
      · refine lv_aload_n hx hb dX4_readEither_13 rfl (lv_at hl 1 rfl) ?_
        refine ti_get (ci := 4) (k := 0) (N := 6) (T := TX4) (v := .ref (A 2 0)) C hw iw_4 rfl ob_1 (by decide) (by decide) fl_X4_12 rfl rfl dX4_readEither_14 ?_
        refine ti_get (ci := 7) (k := 4) (N := 7) (T := TX7) C hw iw_7 rfl ob_2 (by decide) (by decide) fl_X4_41 rfl rfl dX4_readEither_17 ?_
        refine lv_topi (fun x_15 ex_15 => ?_)
        have bx_15 : 0 ≤ x_15.toInt ∧ x_15.toInt ≤ 41 := cI_rd iM_9 ob_2.1 ex_15
        have ux_15 : (tI M_9 2 4).toInt = x_15.toInt := by rw [ex_15]
        refine lv_bipush (v := 23) hx hb dX4_readEither_20 (by decide) ?_
        refine sb_icmp_ne (tgt := 49) hx hb rfl (by decide : (23 : Int32).toInt = 23) dX4_readEither_22 (by decide) (fun c_22_15 => ?_) (fun c_22_15 => ?_)
        · exact hQ _ _ _ _ _ hw (⟨iM_9, (f_10), f_11, (f_12)⟩) dX4_readEither_49
        · refine lv_aload_n hx hb dX4_readEither_25 rfl (lv_at hl 1 rfl) ?_
          refine ti_callVvE (ci := 4) (av := []) C hE hw (s_X4_knot l D A cy hJ M_9 iM_9 t ht ((tT_fr f_10).trans hT)) ⟨ml_X4_167, ym_X4_knot, yv_X4_knot, yi_X4_knot, yc_X4_knot⟩ yd_X4_knot ob_1 (by decide) rfl rfl hl.1 (Nat.le_of_ble_eq_true rfl) ⟨by decide, by decide⟩ ⟨Nat.zero_le _, Nat.zero_le _⟩ dX4_readEither_26 (fun M_18 H locs hp_18 hw => ?_)
          obtain ⟨iM_18, q_19, q_20, q_21⟩ := hp_18
          refine lv_aload_n hx hb dX4_readEither_29 rfl (lv_at hl 1 rfl) ?_
          refine lv_iload_n hx hb dX4_readEither_30 rfl (lv_at hl 2 rfl) ?_
          refine ti_callVvE (ci := 4) (av := [.int 1]) C hE hw (s_X4_readBoth_1 l D A cy hJ M_18 iM_18 t ht ((tT_fr q_19).trans ((tT_fr f_10).trans hT)) lw hlw ((tT_fr q_19).trans ((tT_fr f_10).trans hL))) ⟨ml_X4_164, ym_X4_readBoth, yv_X4_readBoth, yi_X4_readBoth, yc_X4_readBoth⟩ yd_X4_readBoth ob_1 (by decide) rfl rfl hl.1 (Nat.le_of_ble_eq_true rfl) ⟨by decide, by decide⟩ ⟨Nat.zero_le _, Nat.zero_le _⟩ dX4_readEither_31 (fun M_23 H locs hp_23 hw => ?_)
          obtain ⟨iM_23, q_24, q_25, q_26⟩ := hp_23
          refine lv_aload_n hx hb dX4_readEither_34 rfl (lv_at hl 1 rfl) ?_
          refine ti_get (ci := 4) (k := 2) (N := 6) (T := TX4) (v := .ref (A lw 0)) C hw iw_4 rfl ob_1 (by decide) (by decide) fl_X4_154 rfl (ti_Tv ((tT_fr q_24).trans ((tT_fr q_19).trans ((tT_fr f_10).trans hL)))) dX4_readEither_35 ?_
          refine lv_bipush (v := (-23)) hx hb dX4_readEither_38 (by decide) ?_
          refine ti_callVv (ci := 1) (av := [.int (-23)]) C hw (s_X1_add l D A cy hJ M_23 iM_23 lw hlw (-23) (by first | omega | exact Or.inl (by decide) | exact Or.inr (by decide))) ⟨ml_X4_170, ym_X1_add, yv_X1_add, yi_X1_add, yc_X1_add⟩ yd_X1_add hlw (by decide) rfl rfl hl.1 (Nat.le_of_ble_eq_true rfl) ⟨by decide, by decide⟩ ⟨Nat.zero_le _, Nat.zero_le _⟩ dX4_readEither_40 (fun M_28 H locs hp_28 hw => ?_)
          obtain ⟨iM_28, q_29, q_30⟩ := hp_28
          obtain ⟨x_31, ex_31⟩ : ∃ z : Int32, z = x_6 + 1 := ⟨_, rfl⟩
          have tx_31 : x_31.toInt = x_6.toInt + 1 := i_add ex_31 rfl (by decide) (by omega) (by omega)
          refine lv_iinc (v := x_31) (lv' := [(2, .int x_31), (0, .ref (A 1 0)), (1, .int 1)]) hx hb dX4_readEither_43 hl (k := 0) rfl (by rw [ex_31]; rfl) (by decide) rfl (fun ls hl => ?_)
          refine lv_goto (tgt := 7) hx hb dX4_readEither_46 (by decide) ?_
          exact ih_13 x_31 M_28 _ _ _ (by omega) (by first | omega | decide) (by first | omega | decide) iM_28 ((q_29).trans ((q_24).trans ((q_19).trans f_10))) (f0.trans (f0_x q_30) (f0.trans q_25 (f0.trans q_20 f_11))) (((q_30 1).2.1).trans ((q_26).trans ((q_21).trans f_12))) hw (lv_sub hl [0, 1, 2] rfl)
  exact hl_7_12 ((64 - 0 : Int).toNat + 1) 0 M_2 _ _ _ (Nat.lt_succ_self _) (by have lt0 : (0 : Int32).toInt = 0 := (by decide); first | omega | decide) (by have lt0 : (0 : Int32).toInt = 0 := (by decide); first | omega | decide) iM_2 (q_3) q_4 (q_5) hw (lv_sub hl [0, 1, 2] rfl)
set_option maxHeartbeats 4000000 in
set_option maxRecDepth 100000 in
theorem s_X4_readPart_0 (l : Launch) (D : va_G) (A : Nat → Nat → Nat) (cy : Nat → ClassId) (hJ : ti_inj ti_LT A) (M : ti_M) (hI : cI Tc M) (t : Nat) (ht : t = 3 ∨ t = 4) (hT : tT M 1 1 = some t) (lw : Nat) (hlw : ti_ob ti_LT lw 1) (hL : tT M 1 2 = some lw) : ti_KvE l yX4_readPart cX4_readPart 3 64 ti_LT D A cy M [.ref (A 1 0), .int 0] (fun M2 => cI Tc M2 ∧ M2.2.2.2 = M.2.2.2 ∧ f0 M2 M ∧ tI M2 2 1 = tI M 2 1) := by
  refine ti_eVE yp_X4_readPart hJ ti_LT_nd (Nat.le_of_ble_eq_true rfl) ?_
  intro p e s m args below meth c Q H0 C hE hQ hw ls hl
  have hx := C.1
  have hb := C.2.1
  have hl : lv_has ls 3 [(0, .ref (A 1 0)), (1, .int 0)] := hl
  refine lv_aload_n hx hb dX4_readPart_0 rfl (lv_at hl 0 rfl) ?_
  refine ti_get (ci := 4) (k := 0) (N := 6) (T := TX4) (v := .ref (A 2 0)) C hw iw_4 rfl ob_1 (by decide) (by decide) fl_X4_12 rfl rfl dX4_readPart_1 ?_
  refine ti_get (ci := 7) (k := 4) (N := 7) (T := TX7) C hw iw_7 rfl ob_2 (by decide) (by decide) fl_X4_41 rfl rfl dX4_readPart_4 ?_
  refine lv_topi (fun x_1 ex_1 => ?_)
  have bx_1 : 0 ≤ x_1.toInt ∧ x_1.toInt ≤ 41 := cI_rd hI ob_2.1 ex_1
  have ux_1 : (tI M 2 4).toInt = x_1.toInt := by rw [ex_1]
  refine lv_istore_n (lv' := [(2, .int x_1), (0, .ref (A 1 0)), (1, .int 0)]) hx hb dX4_readPart_7 rfl hl (by decide) rfl (fun ls hl => ?_)
  refine lv_iload_n hx hb dX4_readPart_8 rfl (lv_at hl 0 rfl) ?_
  refine lv_bipush (v := 30) hx hb dX4_readPart_9 (by decide) ?_
  have hj_28_3 : ∀  (H : Heap) (locs : List Loc) (ls : Array Slot), ti_H ti_LT D A cy H0 M H locs → lv_has ls 3 [(2, .int x_1), (0, .ref (A 1 0)), (1, .int 0)] → W p l e (ti_rm 64) s m args below meth c H locs 0 0 Q (F0 m 28 ls []) := by
    intro  H locs ls  hw hl
    refine lv_iload_n hx hb dX4_readPart_28 rfl (lv_at hl 0 rfl) ?_
    refine lv_bipush (v := 30) hx hb dX4_readPart_29 (by decide) ?_
    refine sb_icmp_ne (tgt := 57) hx hb rfl (by decide : (30 : Int32).toInt = 30) dX4_readPart_31 (by decide) (fun c_31_3 => ?_) (fun c_31_3 => ?_)
    · refine lv_iload_n hx hb dX4_readPart_57 rfl (lv_at hl 0 rfl) ?_
      refine lv_bipush (v := 26) hx hb dX4_readPart_58 (by decide) ?_
      have hj_84_27 : ∀  (H : Heap) (locs : List Loc) (ls : Array Slot), ti_H ti_LT D A cy H0 M H locs → lv_has ls 3 [(2, .int x_1), (0, .ref (A 1 0)), (1, .int 0)] → W p l e (ti_rm 64) s m args below meth c H locs 0 0 Q (F0 m 84 ls []) := by
        intro  H locs ls  hw hl
        refine lv_iload_n hx hb dX4_readPart_84 rfl (lv_at hl 0 rfl) ?_
        refine lv_bipush (v := 26) hx hb dX4_readPart_85 (by decide) ?_
        refine sb_icmp_ne (tgt := 111) hx hb rfl (by decide : (26 : Int32).toInt = 26) dX4_readPart_87 (by decide) (fun c_87_27 => ?_) (fun c_87_27 => ?_)
        · refine lv_iload_n hx hb dX4_readPart_111 rfl (lv_at hl 0 rfl) ?_
          refine lv_bipush (v := 16) hx hb dX4_readPart_112 (by decide) ?_
          have hj_139_50 : ∀  (H : Heap) (locs : List Loc) (ls : Array Slot), ti_H ti_LT D A cy H0 M H locs → lv_has ls 3 [(2, .int x_1), (0, .ref (A 1 0)), (1, .int 0)] → W p l e (ti_rm 64) s m args below meth c H locs 0 0 Q (F0 m 139 ls []) := by
            intro  H locs ls  hw hl
            refine lv_aload_n hx hb dX4_readPart_139 rfl (lv_at hl 1 rfl) ?_
            refine lv_iconst (v := 1) hx hb dX4_readPart_140 (by decide) ?_
            refine ti_callVv (ci := 4) (av := [.int 1]) C hw (s_X4_refuse l D A cy hJ M hI 1) ⟨ml_X4_82, ym_X4_refuse, yv_X4_refuse, yi_X4_refuse, yc_X4_refuse⟩ yd_X4_refuse ob_1 (by decide) rfl rfl hl.1 (Nat.le_of_ble_eq_true rfl) ⟨by decide, by decide⟩ ⟨Nat.zero_le _, Nat.zero_le _⟩ dX4_readPart_141 (fun M_52 H locs hp_52 hw => ?_)
            obtain ⟨iM_52, q_53, q_54, q_55⟩ := hp_52
            exact hQ _ _ _ _ _ hw (⟨iM_52, (q_53), (f0_12 q_54), (q_55)⟩) dX4_readPart_144
          refine sb_icmp_lt (tgt := 139) hx hb rfl (by decide : (16 : Int32).toInt = 16) dX4_readPart_114 (by decide) (fun c_114_38 => ?_) (fun c_114_38 => ?_)
          · exact hj_139_50  _ _ _  hw (lv_sub hl [0, 1, 2] rfl)
          · refine lv_iload_n hx hb dX4_readPart_117 rfl (lv_at hl 0 rfl) ?_
            refine lv_bipush (v := 21) hx hb dX4_readPart_118 (by decide) ?_
            refine sb_icmp_gt (tgt := 139) hx hb rfl (by decide : (21 : Int32).toInt = 21) dX4_readPart_120 (by decide) (fun c_120_39 => ?_) (fun c_120_39 => ?_)
            · exact hj_139_50  _ _ _  hw (lv_sub hl [0, 1, 2] rfl)
            · refine lv_aload_n hx hb dX4_readPart_123 rfl (lv_at hl 1 rfl) ?_
              refine ti_get (ci := 4) (k := 2) (N := 6) (T := TX4) (v := .ref (A lw 0)) C hw iw_4 rfl ob_1 (by decide) (by decide) fl_X4_154 rfl (ti_Tv (hL)) dX4_readPart_124 ?_
              refine lv_iload_n hx hb dX4_readPart_127 rfl (lv_at hl 0 rfl) ?_
              refine lv_ineg hx hb dX4_readPart_128 ?_
              refine lv_topi (fun x_41 ex_41 => ?_)
              have tx_41 : x_41.toInt = -x_1.toInt := i_neg ex_41 rfl (by omega)
              refine ti_callVv (ci := 1) (av := [.int x_41]) C hw (s_X1_add l D A cy hJ M hI lw hlw x_41 (by first | omega | exact Or.inl (by decide) | exact Or.inr (by decide))) ⟨ml_X4_170, ym_X1_add, yv_X1_add, yi_X1_add, yc_X1_add⟩ yd_X1_add hlw (by decide) rfl rfl hl.1 (Nat.le_of_ble_eq_true rfl) ⟨by decide, by decide⟩ ⟨Nat.zero_le _, Nat.zero_le _⟩ dX4_readPart_129 (fun M_43 H locs hp_43 hw => ?_)
              obtain ⟨iM_43, q_44, q_45⟩ := hp_43
              refine lv_aload_n hx hb dX4_readPart_132 rfl (lv_at hl 1 rfl) ?_
              refine ti_callVvE (ci := 4) (av := []) C hE hw (s_X4_knot l D A cy hJ M_43 iM_43 t ht ((tT_fr q_44).trans hT)) ⟨ml_X4_167, ym_X4_knot, yv_X4_knot, yi_X4_knot, yc_X4_knot⟩ yd_X4_knot ob_1 (by decide) rfl rfl hl.1 (Nat.le_of_ble_eq_true rfl) ⟨by decide, by decide⟩ ⟨Nat.zero_le _, Nat.zero_le _⟩ dX4_readPart_133 (fun M_47 H locs hp_47 hw => ?_)
              obtain ⟨iM_47, q_48, q_49, q_50⟩ := hp_47
              refine lv_goto (tgt := 144) hx hb dX4_readPart_136 (by decide) ?_
              exact hQ _ _ _ _ _ hw (⟨iM_47, ((q_48).trans q_44), (f0.trans q_49 (f0_x q_45)), ((q_50).trans ((q_45 1).2.1))⟩) dX4_readPart_144
        · refine lv_aload_n hx hb dX4_readPart_90 rfl (lv_at hl 1 rfl) ?_
          refine ti_get (ci := 4) (k := 2) (N := 6) (T := TX4) (v := .ref (A lw 0)) C hw iw_4 rfl ob_1 (by decide) (by decide) fl_X4_154 rfl (ti_Tv (hL)) dX4_readPart_91 ?_
          refine lv_aload_n hx hb dX4_readPart_94 rfl (lv_at hl 1 rfl) ?_
          refine ti_get (ci := 4) (k := 0) (N := 6) (T := TX4) (v := .ref (A 2 0)) C hw iw_4 rfl ob_1 (by decide) (by decide) fl_X4_12 rfl rfl dX4_readPart_95 ?_
          refine ti_get (ci := 7) (k := 6) (N := 7) (T := TX7) C hw iw_7 rfl ob_2 (by decide) (by decide) fl_X4_95 rfl rfl dX4_readPart_98 ?_
          refine lv_topi (fun x_29 ex_29 => ?_)
          have bx_29 : 0 ≤ x_29.toInt ∧ x_29.toInt ≤ 2147483647 := cI_rd hI ob_2.1 ex_29
          have ux_29 : (tI M 2 6).toInt = x_29.toInt := by rw [ex_29]
          refine ti_callVv (ci := 1) (av := [.int x_29]) C hw (s_X1_add l D A cy hJ M hI lw hlw x_29 (by first | omega | exact Or.inl (by decide) | exact Or.inr (by decide))) ⟨ml_X4_170, ym_X1_add, yv_X1_add, yi_X1_add, yc_X1_add⟩ yd_X1_add hlw (by decide) rfl rfl hl.1 (Nat.le_of_ble_eq_true rfl) ⟨by decide, by decide⟩ ⟨Nat.zero_le _, Nat.zero_le _⟩ dX4_readPart_101 (fun M_31 H locs hp_31 hw => ?_)
          obtain ⟨iM_31, q_32, q_33⟩ := hp_31
          refine lv_aload_n hx hb dX4_readPart_104 rfl (lv_at hl 1 rfl) ?_
          refine ti_callVvE (ci := 4) (av := []) C hE hw (s_X4_knot l D A cy hJ M_31 iM_31 t ht ((tT_fr q_32).trans hT)) ⟨ml_X4_167, ym_X4_knot, yv_X4_knot, yi_X4_knot, yc_X4_knot⟩ yd_X4_knot ob_1 (by decide) rfl rfl hl.1 (Nat.le_of_ble_eq_true rfl) ⟨by decide, by decide⟩ ⟨Nat.zero_le _, Nat.zero_le _⟩ dX4_readPart_105 (fun M_35 H locs hp_35 hw => ?_)
          obtain ⟨iM_35, q_36, q_37, q_38⟩ := hp_35
          refine lv_goto (tgt := 144) hx hb dX4_readPart_108 (by decide) ?_
          exact hQ _ _ _ _ _ hw (⟨iM_35, ((q_36).trans q_32), (f0.trans q_37 (f0_x q_33)), ((q_38).trans ((q_33 1).2.1))⟩) dX4_readPart_144
      refine sb_icmp_ne (tgt := 84) hx hb rfl (by decide : (26 : Int32).toInt = 26) dX4_readPart_60 (by decide) (fun c_60_19 => ?_) (fun c_60_19 => ?_)
      · exact hj_84_27  _ _ _  hw (lv_sub hl [0, 1, 2] rfl)
      · refine lv_aload_n hx hb dX4_readPart_63 rfl (lv_at hl 1 rfl) ?_
        refine ti_get (ci := 4) (k := 0) (N := 6) (T := TX4) (v := .ref (A 2 0)) C hw iw_4 rfl ob_1 (by decide) (by decide) fl_X4_12 rfl rfl dX4_readPart_64 ?_
        refine ti_get (ci := 7) (k := 6) (N := 7) (T := TX7) C hw iw_7 rfl ob_2 (by decide) (by decide) fl_X4_95 rfl rfl dX4_readPart_67 ?_
        refine lv_topi (fun x_21 ex_21 => ?_)
        have bx_21 : 0 ≤ x_21.toInt ∧ x_21.toInt ≤ 2147483647 := cI_rd hI ob_2.1 ex_21
        have ux_21 : (tI M 2 6).toInt = x_21.toInt := by rw [ex_21]
        refine lv_sipush (v := 9999) hx hb dX4_readPart_70 (by decide) ?_
        refine sb_icmp_le (tgt := 84) hx hb rfl (by decide : (9999 : Int32).toInt = 9999) dX4_readPart_73 (by decide) (fun c_73_21 => ?_) (fun c_73_21 => ?_)
        · exact hj_84_27  _ _ _  hw (lv_sub hl [0, 1, 2] rfl)
        · refine lv_aload_n hx hb dX4_readPart_76 rfl (lv_at hl 1 rfl) ?_
          refine lv_iconst (v := 2) hx hb dX4_readPart_77 (by decide) ?_
          refine ti_callVv (ci := 4) (av := [.int 2]) C hw (s_X4_refuse l D A cy hJ M hI 2) ⟨ml_X4_82, ym_X4_refuse, yv_X4_refuse, yi_X4_refuse, yc_X4_refuse⟩ yd_X4_refuse ob_1 (by decide) rfl rfl hl.1 (Nat.le_of_ble_eq_true rfl) ⟨by decide, by decide⟩ ⟨Nat.zero_le _, Nat.zero_le _⟩ dX4_readPart_78 (fun M_24 H locs hp_24 hw => ?_)
          obtain ⟨iM_24, q_25, q_26, q_27⟩ := hp_24
          refine lv_goto (tgt := 144) hx hb dX4_readPart_81 (by decide) ?_
          exact hQ _ _ _ _ _ hw (⟨iM_24, (q_25), (f0_12 q_26), (q_27)⟩) dX4_readPart_144
    · refine lv_aload_n hx hb dX4_readPart_34 rfl (lv_at hl 1 rfl) ?_
      refine ti_get (ci := 4) (k := 0) (N := 6) (T := TX4) (v := .ref (A 2 0)) C hw iw_4 rfl ob_1 (by decide) (by decide) fl_X4_12 rfl rfl dX4_readPart_35 ?_
      refine ti_callVvE (ci := 7) (av := []) C hE hw (s_X7_advance l D A cy hJ M hI ) ⟨ml_X4_92, ym_X7_advance, yv_X7_advance, yi_X7_advance, yc_X7_advance⟩ yd_X7_advance ob_2 (by decide) rfl rfl hl.1 (Nat.le_of_ble_eq_true rfl) ⟨by decide, by decide⟩ ⟨Nat.zero_le _, Nat.zero_le _⟩ dX4_readPart_38 (fun M_6 H locs hp_6 hw => ?_)
      obtain ⟨iM_6, q_7, q_8, q_9⟩ := hp_6
      refine lv_aload_n hx hb dX4_readPart_41 rfl (lv_at hl 1 rfl) ?_
      refine lv_iload_n hx hb dX4_readPart_42 rfl (lv_at hl 2 rfl) ?_
      refine lv_iconst (v := 1) hx hb dX4_readPart_43 (by decide) ?_
      refine lv_iadd hx hb dX4_readPart_44 ?_
      refine ti_top (y := 1) (by decide) ?_
      refine ti_callVvE (ci := 4) (av := [.int 1]) C hE hw (s_X4_readEither_1 l D A cy hJ M_6 iM_6 t ht ((tT_fr q_7).trans hT) lw hlw ((tT_fr q_7).trans hL)) ⟨ml_X4_158, ym_X4_readEither, yv_X4_readEither, yi_X4_readEither, yc_X4_readEither⟩ yd_X4_readEither ob_1 (by decide) rfl rfl hl.1 (Nat.le_of_ble_eq_true rfl) ⟨by decide, by decide⟩ ⟨Nat.zero_le _, Nat.zero_le _⟩ dX4_readPart_45 (fun M_11 H locs hp_11 hw => ?_)
      obtain ⟨iM_11, q_12, q_13, q_14⟩ := hp_11
      refine lv_aload_n hx hb dX4_readPart_48 rfl (lv_at hl 1 rfl) ?_
      refine lv_bipush (v := 31) hx hb dX4_readPart_49 (by decide) ?_
      refine ti_callVvE (ci := 4) (av := [.int 31]) C hE hw (s_X4_take l D A cy hJ M_11 iM_11 31) ⟨ml_X4_85, ym_X4_take, yv_X4_take, yi_X4_take, yc_X4_take⟩ yd_X4_take ob_1 (by decide) rfl rfl hl.1 (Nat.le_of_ble_eq_true rfl) ⟨by decide, by decide⟩ ⟨Nat.zero_le _, Nat.zero_le _⟩ dX4_readPart_51 (fun M_16 H locs hp_16 hw => ?_)
      obtain ⟨iM_16, q_17, q_18, q_19⟩ := hp_16
      refine lv_goto (tgt := 144) hx hb dX4_readPart_54 (by decide) ?_
      exact hQ _ _ _ _ _ hw (⟨iM_16, ((q_17).trans ((q_12).trans q_7)), (f0.trans (f0_12 q_18) (f0.trans q_13 (f0_12 q_8))), ((q_19).trans ((q_14).trans q_9))⟩) dX4_readPart_144
  refine sb_icmp_ne (tgt := 28) hx hb rfl (by decide : (30 : Int32).toInt = 30) dX4_readPart_11 (by decide) (fun c_11_1 => ?_) (fun c_11_1 => ?_)
  · exact hj_28_3  _ _ _  hw (lv_sub hl [0, 1, 2] rfl)
  · refine lv_iload_n hx hb dX4_readPart_14 rfl (lv_at hl 2 rfl) ?_
    refine lv_bipush (v := 8) hx hb dX4_readPart_15 (by decide) ?_
    refine sb_icmp_lt (tgt := 28) hx hb (by decide : (0 : Int32).toInt = 0) (by decide : (8 : Int32).toInt = 8) dX4_readPart_17 (by decide) (fun c_17_2 => ?_) (fun h => absurd h (by decide))
    exact hj_28_3  _ _ _  hw (lv_sub hl [0, 1, 2] rfl)
set_option maxHeartbeats 4000000 in
set_option maxRecDepth 100000 in
theorem s_X4_readProduct_0 (l : Launch) (D : va_G) (A : Nat → Nat → Nat) (cy : Nat → ClassId) (hJ : ti_inj ti_LT A) (M : ti_M) (hI : cI Tc M) (t : Nat) (ht : t = 3 ∨ t = 4) (hT : tT M 1 1 = some t) (lw : Nat) (hlw : ti_ob ti_LT lw 1) (hL : tT M 1 2 = some lw) : ti_KvE l yX4_readProduct cX4_readProduct 4 65 ti_LT D A cy M [.ref (A 1 0), .int 0] (fun M2 => cI Tc M2 ∧ M2.2.2.2 = M.2.2.2 ∧ f0 M2 M ∧ tI M2 2 1 = tI M 2 1) := by
  refine ti_eVE yp_X4_readProduct hJ ti_LT_nd (Nat.le_of_ble_eq_true rfl) ?_
  intro p e s m args below meth c Q H0 C hE hQ hw ls hl
  have hx := C.1
  have hb := C.2.1
  have hl : lv_has ls 4 [(0, .ref (A 1 0)), (1, .int 0)] := hl
  refine lv_aload_n hx hb dX4_readProduct_0 rfl (lv_at hl 0 rfl) ?_
  refine lv_iload_n hx hb dX4_readProduct_1 rfl (lv_at hl 1 rfl) ?_
  refine ti_callVvE (ci := 4) (av := [.int 0]) C hE hw (s_X4_readPart_0 l D A cy hJ M hI t ht (hT) lw hlw (hL)) ⟨ml_X4_187, ym_X4_readPart, yv_X4_readPart, yi_X4_readPart, yc_X4_readPart⟩ yd_X4_readPart ob_1 (by decide) rfl rfl hl.1 (Nat.le_of_ble_eq_true rfl) ⟨by decide, by decide⟩ ⟨Nat.zero_le _, Nat.zero_le _⟩ dX4_readProduct_2 (fun M_2 H locs hp_2 hw => ?_)
  obtain ⟨iM_2, q_3, q_4, q_5⟩ := hp_2
  refine lv_iconst (v := 0) hx hb dX4_readProduct_5 (by decide) ?_
  refine lv_istore_n (lv' := [(2, .int 0), (0, .ref (A 1 0)), (1, .int 0)]) hx hb dX4_readProduct_6 rfl hl (by decide) rfl (fun ls hl => ?_)
  have hl_7_12 : ∀ (n_13 : Nat) (x_6 : Int32) (M_9 : ti_M) (H : Heap) (locs : List Loc) (ls : Array Slot), (64 - x_6.toInt : Int).toNat < n_13 → (0 ≤ x_6.toInt) → (x_6.toInt ≤ 64) → (cI Tc M_9) → (M_9.2.2.2 = M.2.2.2) → (f0 M_9 M) → (tI M_9 2 1 = tI M 2 1) → ti_H ti_LT D A cy H0 M_9 H locs → lv_has ls 4 [(2, .int x_6), (0, .ref (A 1 0)), (1, .int 0)] → W p l e (ti_rm 65) s m args below meth c H locs 0 0 Q (F0 m 7 ls []) := by
    intro n_13
    induction n_13 with
    | zero => intro x_6 M_9 H locs ls hf_13; exact absurd hf_13 (Nat.not_lt_zero _)
    | succ n_13 ih_13 =>
      intro x_6 M_9 H locs ls hf_13 b_7 b_8 iM_9 f_10 f_11 f_12 hw hl
      refine lv_iload_n hx hb dX4_readProduct_7 rfl (lv_at hl 0 rfl) ?_
      refine lv_bipush (v := 64) hx hb dX4_readProduct_8 (by decide) ?_
      refine sb_icmp_ge (tgt := 69) hx hb rfl (by decide : (64 : Int32).toInt = 64) dX4_readProduct_10 (by decide) (fun c_10_13 => ?_) (fun c_10_13 => ?_)
      · exact hQ _ _ _ _ _ hw (⟨iM_9, (f_10), f_11, (f_12)⟩) dX4_readProduct_69
      · refine lv_aload_n hx hb dX4_readProduct_13 rfl (lv_at hl 1 rfl) ?_
        refine ti_get (ci := 4) (k := 0) (N := 6) (T := TX4) (v := .ref (A 2 0)) C hw iw_4 rfl ob_1 (by decide) (by decide) fl_X4_12 rfl rfl dX4_readProduct_14 ?_
        refine ti_get (ci := 7) (k := 4) (N := 7) (T := TX7) C hw iw_7 rfl ob_2 (by decide) (by decide) fl_X4_41 rfl rfl dX4_readProduct_17 ?_
        refine lv_topi (fun x_15 ex_15 => ?_)
        have bx_15 : 0 ≤ x_15.toInt ∧ x_15.toInt ≤ 41 := cI_rd iM_9 ob_2.1 ex_15
        have ux_15 : (tI M_9 2 4).toInt = x_15.toInt := by rw [ex_15]
        refine lv_bipush (v := 40) hx hb dX4_readProduct_20 (by decide) ?_
        have hj_37_19 : ∀  (H : Heap) (locs : List Loc) (ls : Array Slot), (16 ≤ (tI M_9 2 4).toInt) → ti_H ti_LT D A cy H0 M_9 H locs → lv_has ls 4 [(2, .int x_6), (0, .ref (A 1 0)), (1, .int 0)] → W p l e (ti_rm 65) s m args below meth c H locs 0 0 Q (F0 m 37 ls []) := by
          intro  H locs ls j_19 hw hl
          refine lv_aload_n hx hb dX4_readProduct_37 rfl (lv_at hl 1 rfl) ?_
          refine ti_get (ci := 4) (k := 0) (N := 6) (T := TX4) (v := .ref (A 2 0)) C hw iw_4 rfl ob_1 (by decide) (by decide) fl_X4_12 rfl rfl dX4_readProduct_38 ?_
          refine ti_get (ci := 7) (k := 4) (N := 7) (T := TX7) C hw iw_7 rfl ob_2 (by decide) (by decide) fl_X4_41 rfl rfl dX4_readProduct_41 ?_
          refine ti_top (y := x_15) (ex_15.symm) ?_
          have u_22 : (tI M_9 2 4).toInt = (x_15 : Int32).toInt := by rw [(ex_15.symm)]
          refine lv_istore_n (lv' := [(3, .int x_15), (2, .int x_6), (0, .ref (A 1 0)), (1, .int 0)]) hx hb dX4_readProduct_44 rfl hl (by decide) rfl (fun ls hl => ?_)
          refine lv_aload_n hx hb dX4_readProduct_45 rfl (lv_at hl 2 rfl) ?_
          refine ti_callVvE (ci := 4) (av := []) C hE hw (s_X4_knot l D A cy hJ M_9 iM_9 t ht ((tT_fr f_10).trans hT)) ⟨ml_X4_167, ym_X4_knot, yv_X4_knot, yi_X4_knot, yc_X4_knot⟩ yd_X4_knot ob_1 (by decide) rfl rfl hl.1 (Nat.le_of_ble_eq_true rfl) ⟨by decide, by decide⟩ ⟨Nat.zero_le _, Nat.zero_le _⟩ dX4_readProduct_46 (fun M_24 H locs hp_24 hw => ?_)
          obtain ⟨iM_24, q_25, q_26, q_27⟩ := hp_24
          refine lv_aload_n hx hb dX4_readProduct_49 rfl (lv_at hl 2 rfl) ?_
          refine lv_iload_n hx hb dX4_readProduct_50 rfl (lv_at hl 3 rfl) ?_
          refine ti_callVvE (ci := 4) (av := [.int 0]) C hE hw (s_X4_readPart_0 l D A cy hJ M_24 iM_24 t ht ((tT_fr q_25).trans ((tT_fr f_10).trans hT)) lw hlw ((tT_fr q_25).trans ((tT_fr f_10).trans hL))) ⟨ml_X4_187, ym_X4_readPart, yv_X4_readPart, yi_X4_readPart, yc_X4_readPart⟩ yd_X4_readPart ob_1 (by decide) rfl rfl hl.1 (Nat.le_of_ble_eq_true rfl) ⟨by decide, by decide⟩ ⟨Nat.zero_le _, Nat.zero_le _⟩ dX4_readProduct_51 (fun M_29 H locs hp_29 hw => ?_)
          obtain ⟨iM_29, q_30, q_31, q_32⟩ := hp_29
          refine lv_aload_n hx hb dX4_readProduct_54 rfl (lv_at hl 2 rfl) ?_
          refine ti_get (ci := 4) (k := 2) (N := 6) (T := TX4) (v := .ref (A lw 0)) C hw iw_4 rfl ob_1 (by decide) (by decide) fl_X4_154 rfl (ti_Tv ((tT_fr q_30).trans ((tT_fr q_25).trans ((tT_fr f_10).trans hL)))) dX4_readProduct_55 ?_
          refine lv_iload_n hx hb dX4_readProduct_58 rfl (lv_at hl 0 rfl) ?_
          refine lv_ineg hx hb dX4_readProduct_59 ?_
          refine lv_topi (fun x_33 ex_33 => ?_)
          have tx_33 : x_33.toInt = -x_15.toInt := i_neg ex_33 rfl (by omega)
          refine ti_callVv (ci := 1) (av := [.int x_33]) C hw (s_X1_add l D A cy hJ M_29 iM_29 lw hlw x_33 (by first | omega | exact Or.inl (by decide) | exact Or.inr (by decide))) ⟨ml_X4_170, ym_X1_add, yv_X1_add, yi_X1_add, yc_X1_add⟩ yd_X1_add hlw (by decide) rfl rfl hl.1 (Nat.le_of_ble_eq_true rfl) ⟨by decide, by decide⟩ ⟨Nat.zero_le _, Nat.zero_le _⟩ dX4_readProduct_60 (fun M_35 H locs hp_35 hw => ?_)
          obtain ⟨iM_35, q_36, q_37⟩ := hp_35
          obtain ⟨x_38, ex_38⟩ : ∃ z : Int32, z = x_6 + 1 := ⟨_, rfl⟩
          have tx_38 : x_38.toInt = x_6.toInt + 1 := i_add ex_38 rfl (by decide) (by omega) (by omega)
          refine lv_iinc (v := x_38) (lv' := [(2, .int x_38), (3, .int x_15), (0, .ref (A 1 0)), (1, .int 0)]) hx hb dX4_readProduct_63 hl (k := 1) rfl (by rw [ex_38]; rfl) (by decide) rfl (fun ls hl => ?_)
          refine lv_goto (tgt := 7) hx hb dX4_readProduct_66 (by decide) ?_
          exact ih_13 x_38 M_35 _ _ _ (by omega) (by first | omega | decide) (by first | omega | decide) iM_35 ((q_36).trans ((q_30).trans ((q_25).trans f_10))) (f0.trans (f0_x q_37) (f0.trans q_31 (f0.trans q_26 f_11))) (((q_37 1).2.1).trans ((q_32).trans ((q_27).trans f_12))) hw (lv_sub hl [0, 2, 3] rfl)
        refine sb_icmp_eq (tgt := 37) hx hb rfl (by decide : (40 : Int32).toInt = 40) dX4_readProduct_22 (by decide) (fun c_22_15 => ?_) (fun c_22_15 => ?_)
        · have u_20 : (tI M_9 2 4).toInt = (x_15 : Int32).toInt := by rw [(ex_15.symm)]
          exact hj_37_19  _ _ _ (by first | omega | decide) hw (lv_sub hl [0, 1, 2] rfl)
        · refine lv_aload_n hx hb dX4_readProduct_25 rfl (lv_at hl 1 rfl) ?_
          refine ti_get (ci := 4) (k := 0) (N := 6) (T := TX4) (v := .ref (A 2 0)) C hw iw_4 rfl ob_1 (by decide) (by decide) fl_X4_12 rfl rfl dX4_readProduct_26 ?_
          refine ti_get (ci := 7) (k := 4) (N := 7) (T := TX7) C hw iw_7 rfl ob_2 (by decide) (by decide) fl_X4_41 rfl rfl dX4_readProduct_29 ?_
          refine ti_top (y := x_15) (ex_15.symm) ?_
          have u_17 : (tI M_9 2 4).toInt = (x_15 : Int32).toInt := by rw [(ex_15.symm)]
          refine lv_bipush (v := 41) hx hb dX4_readProduct_32 (by decide) ?_
          refine sb_icmp_ne (tgt := 69) hx hb rfl (by decide : (41 : Int32).toInt = 41) dX4_readProduct_34 (by decide) (fun c_34_17 => ?_) (fun c_34_17 => ?_)
          · exact hQ _ _ _ _ _ hw (⟨iM_9, (f_10), f_11, (f_12)⟩) dX4_readProduct_69
          · have u_21 : (tI M_9 2 4).toInt = (x_15 : Int32).toInt := by rw [(ex_15.symm)]
            exact hj_37_19  _ _ _ (by first | omega | decide) hw (lv_sub hl [0, 1, 2] rfl)
  exact hl_7_12 ((64 - 0 : Int).toNat + 1) 0 M_2 _ _ _ (Nat.lt_succ_self _) (by have lt0 : (0 : Int32).toInt = 0 := (by decide); first | omega | decide) (by have lt0 : (0 : Int32).toInt = 0 := (by decide); first | omega | decide) iM_2 (q_3) q_4 (q_5) hw (lv_sub hl [0, 1, 2] rfl)
set_option maxHeartbeats 4000000 in
set_option maxRecDepth 100000 in
theorem s_X4_readSum_0 (l : Launch) (D : va_G) (A : Nat → Nat → Nat) (cy : Nat → ClassId) (hJ : ti_inj ti_LT A) (M : ti_M) (hI : cI Tc M) (t : Nat) (ht : t = 3 ∨ t = 4) (hT : tT M 1 1 = some t) (lw : Nat) (hlw : ti_ob ti_LT lw 1) (hL : tT M 1 2 = some lw) : ti_KvE l yX4_readSum cX4_readSum 4 66 ti_LT D A cy M [.ref (A 1 0), .int 0] (fun M2 => cI Tc M2 ∧ M2.2.2.2 = M.2.2.2 ∧ f0 M2 M ∧ tI M2 2 1 = tI M 2 1) := by
  refine ti_eVE yp_X4_readSum hJ ti_LT_nd (Nat.le_of_ble_eq_true rfl) ?_
  intro p e s m args below meth c Q H0 C hE hQ hw ls hl
  have hx := C.1
  have hb := C.2.1
  have hl : lv_has ls 4 [(0, .ref (A 1 0)), (1, .int 0)] := hl
  refine lv_aload_n hx hb dX4_readSum_0 rfl (lv_at hl 0 rfl) ?_
  refine lv_iload_n hx hb dX4_readSum_1 rfl (lv_at hl 1 rfl) ?_
  refine ti_callVvE (ci := 4) (av := [.int 0]) C hE hw (s_X4_readProduct_0 l D A cy hJ M hI t ht (hT) lw hlw (hL)) ⟨ml_X4_184, ym_X4_readProduct, yv_X4_readProduct, yi_X4_readProduct, yc_X4_readProduct⟩ yd_X4_readProduct ob_1 (by decide) rfl rfl hl.1 (Nat.le_of_ble_eq_true rfl) ⟨by decide, by decide⟩ ⟨Nat.zero_le _, Nat.zero_le _⟩ dX4_readSum_2 (fun M_2 H locs hp_2 hw => ?_)
  obtain ⟨iM_2, q_3, q_4, q_5⟩ := hp_2
  refine lv_iconst (v := 0) hx hb dX4_readSum_5 (by decide) ?_
  refine lv_istore_n (lv' := [(2, .int 0), (0, .ref (A 1 0)), (1, .int 0)]) hx hb dX4_readSum_6 rfl hl (by decide) rfl (fun ls hl => ?_)
  have hl_7_12 : ∀ (n_13 : Nat) (x_6 : Int32) (M_9 : ti_M) (H : Heap) (locs : List Loc) (ls : Array Slot), (64 - x_6.toInt : Int).toNat < n_13 → (0 ≤ x_6.toInt) → (x_6.toInt ≤ 64) → (cI Tc M_9) → (M_9.2.2.2 = M.2.2.2) → (f0 M_9 M) → (tI M_9 2 1 = tI M 2 1) → ti_H ti_LT D A cy H0 M_9 H locs → lv_has ls 4 [(2, .int x_6), (0, .ref (A 1 0)), (1, .int 0)] → W p l e (ti_rm 66) s m args below meth c H locs 0 0 Q (F0 m 7 ls []) := by
    intro n_13
    induction n_13 with
    | zero => intro x_6 M_9 H locs ls hf_13; exact absurd hf_13 (Nat.not_lt_zero _)
    | succ n_13 ih_13 =>
      intro x_6 M_9 H locs ls hf_13 b_7 b_8 iM_9 f_10 f_11 f_12 hw hl
      refine lv_iload_n hx hb dX4_readSum_7 rfl (lv_at hl 0 rfl) ?_
      refine lv_bipush (v := 64) hx hb dX4_readSum_8 (by decide) ?_
      refine sb_icmp_ge (tgt := 69) hx hb rfl (by decide : (64 : Int32).toInt = 64) dX4_readSum_10 (by decide) (fun c_10_13 => ?_) (fun c_10_13 => ?_)
      · exact hQ _ _ _ _ _ hw (⟨iM_9, (f_10), f_11, (f_12)⟩) dX4_readSum_69
      · refine lv_aload_n hx hb dX4_readSum_13 rfl (lv_at hl 1 rfl) ?_
        refine ti_get (ci := 4) (k := 0) (N := 6) (T := TX4) (v := .ref (A 2 0)) C hw iw_4 rfl ob_1 (by decide) (by decide) fl_X4_12 rfl rfl dX4_readSum_14 ?_
        refine ti_get (ci := 7) (k := 4) (N := 7) (T := TX7) C hw iw_7 rfl ob_2 (by decide) (by decide) fl_X4_41 rfl rfl dX4_readSum_17 ?_
        refine lv_topi (fun x_15 ex_15 => ?_)
        have bx_15 : 0 ≤ x_15.toInt ∧ x_15.toInt ≤ 41 := cI_rd iM_9 ob_2.1 ex_15
        have ux_15 : (tI M_9 2 4).toInt = x_15.toInt := by rw [ex_15]
        refine lv_bipush (v := 38) hx hb dX4_readSum_20 (by decide) ?_
        have hj_37_19 : ∀  (H : Heap) (locs : List Loc) (ls : Array Slot), (16 ≤ (tI M_9 2 4).toInt) → ti_H ti_LT D A cy H0 M_9 H locs → lv_has ls 4 [(2, .int x_6), (0, .ref (A 1 0)), (1, .int 0)] → W p l e (ti_rm 66) s m args below meth c H locs 0 0 Q (F0 m 37 ls []) := by
          intro  H locs ls j_19 hw hl
          refine lv_aload_n hx hb dX4_readSum_37 rfl (lv_at hl 1 rfl) ?_
          refine ti_get (ci := 4) (k := 0) (N := 6) (T := TX4) (v := .ref (A 2 0)) C hw iw_4 rfl ob_1 (by decide) (by decide) fl_X4_12 rfl rfl dX4_readSum_38 ?_
          refine ti_get (ci := 7) (k := 4) (N := 7) (T := TX7) C hw iw_7 rfl ob_2 (by decide) (by decide) fl_X4_41 rfl rfl dX4_readSum_41 ?_
          refine ti_top (y := x_15) (ex_15.symm) ?_
          have u_22 : (tI M_9 2 4).toInt = (x_15 : Int32).toInt := by rw [(ex_15.symm)]
          refine lv_istore_n (lv' := [(3, .int x_15), (2, .int x_6), (0, .ref (A 1 0)), (1, .int 0)]) hx hb dX4_readSum_44 rfl hl (by decide) rfl (fun ls hl => ?_)
          refine lv_aload_n hx hb dX4_readSum_45 rfl (lv_at hl 2 rfl) ?_
          refine ti_callVvE (ci := 4) (av := []) C hE hw (s_X4_knot l D A cy hJ M_9 iM_9 t ht ((tT_fr f_10).trans hT)) ⟨ml_X4_167, ym_X4_knot, yv_X4_knot, yi_X4_knot, yc_X4_knot⟩ yd_X4_knot ob_1 (by decide) rfl rfl hl.1 (Nat.le_of_ble_eq_true rfl) ⟨by decide, by decide⟩ ⟨Nat.zero_le _, Nat.zero_le _⟩ dX4_readSum_46 (fun M_24 H locs hp_24 hw => ?_)
          obtain ⟨iM_24, q_25, q_26, q_27⟩ := hp_24
          refine lv_aload_n hx hb dX4_readSum_49 rfl (lv_at hl 2 rfl) ?_
          refine lv_iload_n hx hb dX4_readSum_50 rfl (lv_at hl 3 rfl) ?_
          refine ti_callVvE (ci := 4) (av := [.int 0]) C hE hw (s_X4_readProduct_0 l D A cy hJ M_24 iM_24 t ht ((tT_fr q_25).trans ((tT_fr f_10).trans hT)) lw hlw ((tT_fr q_25).trans ((tT_fr f_10).trans hL))) ⟨ml_X4_184, ym_X4_readProduct, yv_X4_readProduct, yi_X4_readProduct, yc_X4_readProduct⟩ yd_X4_readProduct ob_1 (by decide) rfl rfl hl.1 (Nat.le_of_ble_eq_true rfl) ⟨by decide, by decide⟩ ⟨Nat.zero_le _, Nat.zero_le _⟩ dX4_readSum_51 (fun M_29 H locs hp_29 hw => ?_)
          obtain ⟨iM_29, q_30, q_31, q_32⟩ := hp_29
          refine lv_aload_n hx hb dX4_readSum_54 rfl (lv_at hl 2 rfl) ?_
          refine ti_get (ci := 4) (k := 2) (N := 6) (T := TX4) (v := .ref (A lw 0)) C hw iw_4 rfl ob_1 (by decide) (by decide) fl_X4_154 rfl (ti_Tv ((tT_fr q_30).trans ((tT_fr q_25).trans ((tT_fr f_10).trans hL)))) dX4_readSum_55 ?_
          refine lv_iload_n hx hb dX4_readSum_58 rfl (lv_at hl 0 rfl) ?_
          refine lv_ineg hx hb dX4_readSum_59 ?_
          refine lv_topi (fun x_33 ex_33 => ?_)
          have tx_33 : x_33.toInt = -x_15.toInt := i_neg ex_33 rfl (by omega)
          refine ti_callVv (ci := 1) (av := [.int x_33]) C hw (s_X1_add l D A cy hJ M_29 iM_29 lw hlw x_33 (by first | omega | exact Or.inl (by decide) | exact Or.inr (by decide))) ⟨ml_X4_170, ym_X1_add, yv_X1_add, yi_X1_add, yc_X1_add⟩ yd_X1_add hlw (by decide) rfl rfl hl.1 (Nat.le_of_ble_eq_true rfl) ⟨by decide, by decide⟩ ⟨Nat.zero_le _, Nat.zero_le _⟩ dX4_readSum_60 (fun M_35 H locs hp_35 hw => ?_)
          obtain ⟨iM_35, q_36, q_37⟩ := hp_35
          obtain ⟨x_38, ex_38⟩ : ∃ z : Int32, z = x_6 + 1 := ⟨_, rfl⟩
          have tx_38 : x_38.toInt = x_6.toInt + 1 := i_add ex_38 rfl (by decide) (by omega) (by omega)
          refine lv_iinc (v := x_38) (lv' := [(2, .int x_38), (3, .int x_15), (0, .ref (A 1 0)), (1, .int 0)]) hx hb dX4_readSum_63 hl (k := 1) rfl (by rw [ex_38]; rfl) (by decide) rfl (fun ls hl => ?_)
          refine lv_goto (tgt := 7) hx hb dX4_readSum_66 (by decide) ?_
          exact ih_13 x_38 M_35 _ _ _ (by omega) (by first | omega | decide) (by first | omega | decide) iM_35 ((q_36).trans ((q_30).trans ((q_25).trans f_10))) (f0.trans (f0_x q_37) (f0.trans q_31 (f0.trans q_26 f_11))) (((q_37 1).2.1).trans ((q_32).trans ((q_27).trans f_12))) hw (lv_sub hl [0, 2, 3] rfl)
        refine sb_icmp_eq (tgt := 37) hx hb rfl (by decide : (38 : Int32).toInt = 38) dX4_readSum_22 (by decide) (fun c_22_15 => ?_) (fun c_22_15 => ?_)
        · have u_20 : (tI M_9 2 4).toInt = (x_15 : Int32).toInt := by rw [(ex_15.symm)]
          exact hj_37_19  _ _ _ (by first | omega | decide) hw (lv_sub hl [0, 1, 2] rfl)
        · refine lv_aload_n hx hb dX4_readSum_25 rfl (lv_at hl 1 rfl) ?_
          refine ti_get (ci := 4) (k := 0) (N := 6) (T := TX4) (v := .ref (A 2 0)) C hw iw_4 rfl ob_1 (by decide) (by decide) fl_X4_12 rfl rfl dX4_readSum_26 ?_
          refine ti_get (ci := 7) (k := 4) (N := 7) (T := TX7) C hw iw_7 rfl ob_2 (by decide) (by decide) fl_X4_41 rfl rfl dX4_readSum_29 ?_
          refine ti_top (y := x_15) (ex_15.symm) ?_
          have u_17 : (tI M_9 2 4).toInt = (x_15 : Int32).toInt := by rw [(ex_15.symm)]
          refine lv_bipush (v := 39) hx hb dX4_readSum_32 (by decide) ?_
          refine sb_icmp_ne (tgt := 69) hx hb rfl (by decide : (39 : Int32).toInt = 39) dX4_readSum_34 (by decide) (fun c_34_17 => ?_) (fun c_34_17 => ?_)
          · exact hQ _ _ _ _ _ hw (⟨iM_9, (f_10), f_11, (f_12)⟩) dX4_readSum_69
          · have u_21 : (tI M_9 2 4).toInt = (x_15 : Int32).toInt := by rw [(ex_15.symm)]
            exact hj_37_19  _ _ _ (by first | omega | decide) hw (lv_sub hl [0, 1, 2] rfl)
  exact hl_7_12 ((64 - 0 : Int).toNat + 1) 0 M_2 _ _ _ (Nat.lt_succ_self _) (by have lt0 : (0 : Int32).toInt = 0 := (by decide); first | omega | decide) (by have lt0 : (0 : Int32).toInt = 0 := (by decide); first | omega | decide) iM_2 (q_3) q_4 (q_5) hw (lv_sub hl [0, 1, 2] rfl)
set_option maxHeartbeats 4000000 in
set_option maxRecDepth 100000 in
theorem s_X4_readComparison_0 (l : Launch) (D : va_G) (A : Nat → Nat → Nat) (cy : Nat → ClassId) (hJ : ti_inj ti_LT A) (M : ti_M) (hI : cI Tc M) (t : Nat) (ht : t = 3 ∨ t = 4) (hT : tT M 1 1 = some t) (lw : Nat) (hlw : ti_ob ti_LT lw 1) (hL : tT M 1 2 = some lw) : ti_KvE l yX4_readComparison cX4_readComparison 3 67 ti_LT D A cy M [.ref (A 1 0), .int 0] (fun M2 => cI Tc M2 ∧ M2.2.2.2 = M.2.2.2 ∧ f0 M2 M ∧ tI M2 2 1 = tI M 2 1) := by
  refine ti_eVE yp_X4_readComparison hJ ti_LT_nd (Nat.le_of_ble_eq_true rfl) ?_
  intro p e s m args below meth c Q H0 C hE hQ hw ls hl
  have hx := C.1
  have hb := C.2.1
  have hl : lv_has ls 3 [(0, .ref (A 1 0)), (1, .int 0)] := hl
  refine lv_aload_n hx hb dX4_readComparison_0 rfl (lv_at hl 0 rfl) ?_
  refine lv_iload_n hx hb dX4_readComparison_1 rfl (lv_at hl 1 rfl) ?_
  refine ti_callVvE (ci := 4) (av := [.int 0]) C hE hw (s_X4_readSum_0 l D A cy hJ M hI t ht (hT) lw hlw (hL)) ⟨ml_X4_181, ym_X4_readSum, yv_X4_readSum, yi_X4_readSum, yc_X4_readSum⟩ yd_X4_readSum ob_1 (by decide) rfl rfl hl.1 (Nat.le_of_ble_eq_true rfl) ⟨by decide, by decide⟩ ⟨Nat.zero_le _, Nat.zero_le _⟩ dX4_readComparison_2 (fun M_2 H locs hp_2 hw => ?_)
  obtain ⟨iM_2, q_3, q_4, q_5⟩ := hp_2
  refine lv_aload_n hx hb dX4_readComparison_5 rfl (lv_at hl 0 rfl) ?_
  refine ti_get (ci := 4) (k := 0) (N := 6) (T := TX4) (v := .ref (A 2 0)) C hw iw_4 rfl ob_1 (by decide) (by decide) fl_X4_12 rfl rfl dX4_readComparison_6 ?_
  refine ti_get (ci := 7) (k := 4) (N := 7) (T := TX7) C hw iw_7 rfl ob_2 (by decide) (by decide) fl_X4_41 rfl rfl dX4_readComparison_9 ?_
  refine lv_topi (fun x_6 ex_6 => ?_)
  have bx_6 : 0 ≤ x_6.toInt ∧ x_6.toInt ≤ 41 := cI_rd iM_2 ob_2.1 ex_6
  have ux_6 : (tI M_2 2 4).toInt = x_6.toInt := by rw [ex_6]
  refine lv_istore_n (lv' := [(2, .int x_6), (0, .ref (A 1 0)), (1, .int 0)]) hx hb dX4_readComparison_12 rfl hl (by decide) rfl (fun ls hl => ?_)
  refine lv_iload_n hx hb dX4_readComparison_13 rfl (lv_at hl 0 rfl) ?_
  refine lv_bipush (v := 32) hx hb dX4_readComparison_14 (by decide) ?_
  refine sb_icmp_lt (tgt := 43) hx hb rfl (by decide : (32 : Int32).toInt = 32) dX4_readComparison_16 (by decide) (fun c_16_6 => ?_) (fun c_16_6 => ?_)
  · exact hQ _ _ _ _ _ hw (⟨iM_2, (q_3), q_4, (q_5)⟩) dX4_readComparison_43
  · refine lv_iload_n hx hb dX4_readComparison_19 rfl (lv_at hl 0 rfl) ?_
    refine lv_bipush (v := 37) hx hb dX4_readComparison_20 (by decide) ?_
    refine sb_icmp_gt (tgt := 43) hx hb rfl (by decide : (37 : Int32).toInt = 37) dX4_readComparison_22 (by decide) (fun c_22_7 => ?_) (fun c_22_7 => ?_)
    · exact hQ _ _ _ _ _ hw (⟨iM_2, (q_3), q_4, (q_5)⟩) dX4_readComparison_43
    · refine lv_aload_n hx hb dX4_readComparison_25 rfl (lv_at hl 1 rfl) ?_
      refine ti_callVvE (ci := 4) (av := []) C hE hw (s_X4_knot l D A cy hJ M_2 iM_2 t ht ((tT_fr q_3).trans hT)) ⟨ml_X4_167, ym_X4_knot, yv_X4_knot, yi_X4_knot, yc_X4_knot⟩ yd_X4_knot ob_1 (by decide) rfl rfl hl.1 (Nat.le_of_ble_eq_true rfl) ⟨by decide, by decide⟩ ⟨Nat.zero_le _, Nat.zero_le _⟩ dX4_readComparison_26 (fun M_10 H locs hp_10 hw => ?_)
      obtain ⟨iM_10, q_11, q_12, q_13⟩ := hp_10
      refine lv_aload_n hx hb dX4_readComparison_29 rfl (lv_at hl 1 rfl) ?_
      refine lv_iload_n hx hb dX4_readComparison_30 rfl (lv_at hl 2 rfl) ?_
      refine ti_callVvE (ci := 4) (av := [.int 0]) C hE hw (s_X4_readSum_0 l D A cy hJ M_10 iM_10 t ht ((tT_fr q_11).trans ((tT_fr q_3).trans hT)) lw hlw ((tT_fr q_11).trans ((tT_fr q_3).trans hL))) ⟨ml_X4_181, ym_X4_readSum, yv_X4_readSum, yi_X4_readSum, yc_X4_readSum⟩ yd_X4_readSum ob_1 (by decide) rfl rfl hl.1 (Nat.le_of_ble_eq_true rfl) ⟨by decide, by decide⟩ ⟨Nat.zero_le _, Nat.zero_le _⟩ dX4_readComparison_31 (fun M_15 H locs hp_15 hw => ?_)
      obtain ⟨iM_15, q_16, q_17, q_18⟩ := hp_15
      refine lv_aload_n hx hb dX4_readComparison_34 rfl (lv_at hl 1 rfl) ?_
      refine ti_get (ci := 4) (k := 2) (N := 6) (T := TX4) (v := .ref (A lw 0)) C hw iw_4 rfl ob_1 (by decide) (by decide) fl_X4_154 rfl (ti_Tv ((tT_fr q_16).trans ((tT_fr q_11).trans ((tT_fr q_3).trans hL)))) dX4_readComparison_35 ?_
      refine lv_iload_n hx hb dX4_readComparison_38 rfl (lv_at hl 0 rfl) ?_
      refine lv_ineg hx hb dX4_readComparison_39 ?_
      refine lv_topi (fun x_19 ex_19 => ?_)
      have tx_19 : x_19.toInt = -x_6.toInt := i_neg ex_19 rfl (by omega)
      refine ti_callVv (ci := 1) (av := [.int x_19]) C hw (s_X1_add l D A cy hJ M_15 iM_15 lw hlw x_19 (by first | omega | exact Or.inl (by decide) | exact Or.inr (by decide))) ⟨ml_X4_170, ym_X1_add, yv_X1_add, yi_X1_add, yc_X1_add⟩ yd_X1_add hlw (by decide) rfl rfl hl.1 (Nat.le_of_ble_eq_true rfl) ⟨by decide, by decide⟩ ⟨Nat.zero_le _, Nat.zero_le _⟩ dX4_readComparison_40 (fun M_21 H locs hp_21 hw => ?_)
      obtain ⟨iM_21, q_22, q_23⟩ := hp_21
      exact hQ _ _ _ _ _ hw (⟨iM_21, ((q_22).trans ((q_16).trans ((q_11).trans q_3))), (f0.trans (f0_x q_23) (f0.trans q_17 (f0.trans q_12 q_4))), (((q_23 1).2.1).trans ((q_18).trans ((q_13).trans q_5)))⟩) dX4_readComparison_43
set_option maxHeartbeats 4000000 in
set_option maxRecDepth 100000 in
theorem s_X4_readNegated_0 (l : Launch) (D : va_G) (A : Nat → Nat → Nat) (cy : Nat → ClassId) (hJ : ti_inj ti_LT A) (M : ti_M) (hI : cI Tc M) (t : Nat) (ht : t = 3 ∨ t = 4) (hT : tT M 1 1 = some t) (lw : Nat) (hlw : ti_ob ti_LT lw 1) (hL : tT M 1 2 = some lw) : ti_KvE l yX4_readNegated cX4_readNegated 4 68 ti_LT D A cy M [.ref (A 1 0), .int 0] (fun M2 => cI Tc M2 ∧ M2.2.2.2 = M.2.2.2 ∧ f0 M2 M ∧ tI M2 2 1 = tI M 2 1) := by
  refine ti_eVE yp_X4_readNegated hJ ti_LT_nd (Nat.le_of_ble_eq_true rfl) ?_
  intro p e s m args below meth c Q H0 C hE hQ hw ls hl
  have hx := C.1
  have hb := C.2.1
  have hl : lv_has ls 4 [(0, .ref (A 1 0)), (1, .int 0)] := hl
  refine lv_iconst (v := 0) hx hb dX4_readNegated_0 (by decide) ?_
  refine lv_istore_n (lv' := [(2, .int 0), (0, .ref (A 1 0)), (1, .int 0)]) hx hb dX4_readNegated_1 rfl hl (by decide) rfl (fun ls hl => ?_)
  have hl_2_7 : ∀ (n_8 : Nat) (x_1 : Int32) (M_4 : ti_M) (H : Heap) (locs : List Loc) (ls : Array Slot), (65 - x_1.toInt : Int).toNat < n_8 → (0 ≤ x_1.toInt) → (x_1.toInt ≤ 65) → (cI Tc M_4) → (M_4.2.2.2 = M.2.2.2) → (f0 M_4 M) → (tI M_4 2 1 = tI M 2 1) → ti_H ti_LT D A cy H0 M_4 H locs → lv_has ls 4 [(2, .int x_1), (0, .ref (A 1 0)), (1, .int 0)] → W p l e (ti_rm 68) s m args below meth c H locs 0 0 Q (F0 m 2 ls []) := by
    intro n_8
    induction n_8 with
    | zero => intro x_1 M_4 H locs ls hf_8; exact absurd hf_8 (Nat.not_lt_zero _)
    | succ n_8 ih_8 =>
      intro x_1 M_4 H locs ls hf_8 b_2 b_3 iM_4 f_5 f_6 f_7 hw hl
      refine lv_iload_n hx hb dX4_readNegated_2 rfl (lv_at hl 0 rfl) ?_
      refine lv_bipush (v := 64) hx hb dX4_readNegated_3 (by decide) ?_
      have hj_30_17 : ∀  (H : Heap) (locs : List Loc) (ls : Array Slot), ti_H ti_LT D A cy H0 M_4 H locs → lv_has ls 4 [(2, .int x_1), (0, .ref (A 1 0)), (1, .int 0)] → W p l e (ti_rm 68) s m args below meth c H locs 0 0 Q (F0 m 30 ls []) := by
        intro  H locs ls  hw hl
        refine lv_aload_n hx hb dX4_readNegated_30 rfl (lv_at hl 1 rfl) ?_
        refine lv_iload_n hx hb dX4_readNegated_31 rfl (lv_at hl 2 rfl) ?_
        refine ti_callVvE (ci := 4) (av := [.int 0]) C hE hw (s_X4_readComparison_0 l D A cy hJ M_4 iM_4 t ht ((tT_fr f_5).trans hT) lw hlw ((tT_fr f_5).trans hL)) ⟨ml_X4_178, ym_X4_readComparison, yv_X4_readComparison, yi_X4_readComparison, yc_X4_readComparison⟩ yd_X4_readComparison ob_1 (by decide) rfl rfl hl.1 (Nat.le_of_ble_eq_true rfl) ⟨by decide, by decide⟩ ⟨Nat.zero_le _, Nat.zero_le _⟩ dX4_readNegated_32 (fun M_19 H locs hp_19 hw => ?_)
        obtain ⟨iM_19, q_20, q_21, q_22⟩ := hp_19
        refine lv_iconst (v := 0) hx hb dX4_readNegated_35 (by decide) ?_
        refine lv_istore_n (lv' := [(3, .int 0), (2, .int x_1), (0, .ref (A 1 0)), (1, .int 0)]) hx hb dX4_readNegated_36 rfl hl (by decide) rfl (fun ls hl => ?_)
        have hl_37_29 : ∀ (n_30 : Nat) (x_23 : Int32) (M_26 : ti_M) (H : Heap) (locs : List Loc) (ls : Array Slot), (65 - x_23.toInt : Int).toNat < n_30 → (0 ≤ x_23.toInt) → (x_23.toInt ≤ 65) → (cI Tc M_26) → (M_26.2.2.2 = M.2.2.2) → (f0 M_26 M) → (tI M_26 2 1 = tI M 2 1) → ti_H ti_LT D A cy H0 M_26 H locs → lv_has ls 4 [(3, .int x_23), (2, .int x_1), (0, .ref (A 1 0)), (1, .int 0)] → W p l e (ti_rm 68) s m args below meth c H locs 0 0 Q (F0 m 37 ls []) := by
          intro n_30
          induction n_30 with
          | zero => intro x_23 M_26 H locs ls hf_30; exact absurd hf_30 (Nat.not_lt_zero _)
          | succ n_30 ih_30 =>
            intro x_23 M_26 H locs ls hf_30 b_24 b_25 iM_26 f_27 f_28 f_29 hw hl
            refine lv_iload_n hx hb dX4_readNegated_37 rfl (lv_at hl 0 rfl) ?_
            refine lv_iload_n hx hb dX4_readNegated_38 rfl (lv_at hl 1 rfl) ?_
            refine sb_icmp_ge (tgt := 57) hx hb rfl rfl dX4_readNegated_39 (by decide) (fun c_39_30 => ?_) (fun c_39_30 => ?_)
            · exact hQ _ _ _ _ _ hw (⟨iM_26, (f_27), f_28, (f_29)⟩) dX4_readNegated_57
            · refine lv_aload_n hx hb dX4_readNegated_42 rfl (lv_at hl 2 rfl) ?_
              refine ti_get (ci := 4) (k := 2) (N := 6) (T := TX4) (v := .ref (A lw 0)) C hw iw_4 rfl ob_1 (by decide) (by decide) fl_X4_154 rfl (ti_Tv ((tT_fr f_27).trans hL)) dX4_readNegated_43 ?_
              refine lv_bipush (v := (-24)) hx hb dX4_readNegated_46 (by decide) ?_
              refine ti_callVv (ci := 1) (av := [.int (-24)]) C hw (s_X1_add l D A cy hJ M_26 iM_26 lw hlw (-24) (by first | omega | exact Or.inl (by decide) | exact Or.inr (by decide))) ⟨ml_X4_170, ym_X1_add, yv_X1_add, yi_X1_add, yc_X1_add⟩ yd_X1_add hlw (by decide) rfl rfl hl.1 (Nat.le_of_ble_eq_true rfl) ⟨by decide, by decide⟩ ⟨Nat.zero_le _, Nat.zero_le _⟩ dX4_readNegated_48 (fun M_33 H locs hp_33 hw => ?_)
              obtain ⟨iM_33, q_34, q_35⟩ := hp_33
              obtain ⟨x_36, ex_36⟩ : ∃ z : Int32, z = x_23 + 1 := ⟨_, rfl⟩
              have tx_36 : x_36.toInt = x_23.toInt + 1 := i_add ex_36 rfl (by decide) (by omega) (by omega)
              refine lv_iinc (v := x_36) (lv' := [(3, .int x_36), (2, .int x_1), (0, .ref (A 1 0)), (1, .int 0)]) hx hb dX4_readNegated_51 hl (k := 0) rfl (by rw [ex_36]; rfl) (by decide) rfl (fun ls hl => ?_)
              refine lv_goto (tgt := 37) hx hb dX4_readNegated_54 (by decide) ?_
              exact ih_30 x_36 M_33 _ _ _ (by omega) (by first | omega | decide) (by first | omega | decide) iM_33 ((q_34).trans f_27) (f0.trans (f0_x q_35) f_28) (((q_35 1).2.1).trans f_29) hw (lv_sub hl [0, 1, 2, 3] rfl)
        exact hl_37_29 ((65 - 0 : Int).toNat + 1) 0 M_19 _ _ _ (Nat.lt_succ_self _) (by have lt0 : (0 : Int32).toInt = 0 := (by decide); first | omega | decide) (by have lt0 : (0 : Int32).toInt = 0 := (by decide); first | omega | decide) iM_19 ((q_20).trans f_5) (f0.trans q_21 f_6) ((q_22).trans f_7) hw (lv_sub hl [0, 1, 2, 3] rfl)
      refine sb_icmp_gt (tgt := 30) hx hb rfl (by decide : (64 : Int32).toInt = 64) dX4_readNegated_5 (by decide) (fun c_5_8 => ?_) (fun c_5_8 => ?_)
      · exact hj_30_17  _ _ _  hw (lv_sub hl [0, 1, 2] rfl)
      · refine lv_aload_n hx hb dX4_readNegated_8 rfl (lv_at hl 1 rfl) ?_
        refine ti_get (ci := 4) (k := 0) (N := 6) (T := TX4) (v := .ref (A 2 0)) C hw iw_4 rfl ob_1 (by decide) (by decide) fl_X4_12 rfl rfl dX4_readNegated_9 ?_
        refine ti_get (ci := 7) (k := 4) (N := 7) (T := TX7) C hw iw_7 rfl ob_2 (by decide) (by decide) fl_X4_41 rfl rfl dX4_readNegated_12 ?_
        refine lv_topi (fun x_10 ex_10 => ?_)
        have bx_10 : 0 ≤ x_10.toInt ∧ x_10.toInt ≤ 41 := cI_rd iM_4 ob_2.1 ex_10
        have ux_10 : (tI M_4 2 4).toInt = x_10.toInt := by rw [ex_10]
        refine lv_bipush (v := 24) hx hb dX4_readNegated_15 (by decide) ?_
        refine sb_icmp_ne (tgt := 30) hx hb rfl (by decide : (24 : Int32).toInt = 24) dX4_readNegated_17 (by decide) (fun c_17_10 => ?_) (fun c_17_10 => ?_)
        · exact hj_30_17  _ _ _  hw (lv_sub hl [0, 1, 2] rfl)
        · refine lv_aload_n hx hb dX4_readNegated_20 rfl (lv_at hl 1 rfl) ?_
          refine ti_callVvE (ci := 4) (av := []) C hE hw (s_X4_knot l D A cy hJ M_4 iM_4 t ht ((tT_fr f_5).trans hT)) ⟨ml_X4_167, ym_X4_knot, yv_X4_knot, yi_X4_knot, yc_X4_knot⟩ yd_X4_knot ob_1 (by decide) rfl rfl hl.1 (Nat.le_of_ble_eq_true rfl) ⟨by decide, by decide⟩ ⟨Nat.zero_le _, Nat.zero_le _⟩ dX4_readNegated_21 (fun M_13 H locs hp_13 hw => ?_)
          obtain ⟨iM_13, q_14, q_15, q_16⟩ := hp_13
          obtain ⟨x_17, ex_17⟩ : ∃ z : Int32, z = x_1 + 1 := ⟨_, rfl⟩
          have tx_17 : x_17.toInt = x_1.toInt + 1 := i_add ex_17 rfl (by decide) (by omega) (by omega)
          refine lv_iinc (v := x_17) (lv' := [(2, .int x_17), (0, .ref (A 1 0)), (1, .int 0)]) hx hb dX4_readNegated_24 hl (k := 0) rfl (by rw [ex_17]; rfl) (by decide) rfl (fun ls hl => ?_)
          refine lv_goto (tgt := 2) hx hb dX4_readNegated_27 (by decide) ?_
          exact ih_8 x_17 M_13 _ _ _ (by omega) (by first | omega | decide) (by first | omega | decide) iM_13 ((q_14).trans f_5) (f0.trans q_15 f_6) ((q_16).trans f_7) hw (lv_sub hl [0, 1, 2] rfl)
  exact hl_2_7 ((65 - 0 : Int).toNat + 1) 0 M _ _ _ (Nat.lt_succ_self _) (by have lt0 : (0 : Int32).toInt = 0 := (by decide); first | omega | decide) (by have lt0 : (0 : Int32).toInt = 0 := (by decide); first | omega | decide) hI rfl f0.refl rfl hw (lv_sub hl [0, 1, 2] rfl)
set_option maxHeartbeats 4000000 in
set_option maxRecDepth 100000 in
theorem s_X4_readBoth_0 (l : Launch) (D : va_G) (A : Nat → Nat → Nat) (cy : Nat → ClassId) (hJ : ti_inj ti_LT A) (M : ti_M) (hI : cI Tc M) (t : Nat) (ht : t = 3 ∨ t = 4) (hT : tT M 1 1 = some t) (lw : Nat) (hlw : ti_ob ti_LT lw 1) (hL : tT M 1 2 = some lw) : ti_KvE l yX4_readBoth cX4_readBoth 3 69 ti_LT D A cy M [.ref (A 1 0), .int 0] (fun M2 => cI Tc M2 ∧ M2.2.2.2 = M.2.2.2 ∧ f0 M2 M ∧ tI M2 2 1 = tI M 2 1) := by
  refine ti_eVE yp_X4_readBoth hJ ti_LT_nd (Nat.le_of_ble_eq_true rfl) ?_
  intro p e s m args below meth c Q H0 C hE hQ hw ls hl
  have hx := C.1
  have hb := C.2.1
  have hl : lv_has ls 3 [(0, .ref (A 1 0)), (1, .int 0)] := hl
  refine lv_aload_n hx hb dX4_readBoth_0 rfl (lv_at hl 0 rfl) ?_
  refine lv_iload_n hx hb dX4_readBoth_1 rfl (lv_at hl 1 rfl) ?_
  refine ti_callVvE (ci := 4) (av := [.int 0]) C hE hw (s_X4_readNegated_0 l D A cy hJ M hI t ht (hT) lw hlw (hL)) ⟨ml_X4_175, ym_X4_readNegated, yv_X4_readNegated, yi_X4_readNegated, yc_X4_readNegated⟩ yd_X4_readNegated ob_1 (by decide) rfl rfl hl.1 (Nat.le_of_ble_eq_true rfl) ⟨by decide, by decide⟩ ⟨Nat.zero_le _, Nat.zero_le _⟩ dX4_readBoth_2 (fun M_2 H locs hp_2 hw => ?_)
  obtain ⟨iM_2, q_3, q_4, q_5⟩ := hp_2
  refine lv_iconst (v := 0) hx hb dX4_readBoth_5 (by decide) ?_
  refine lv_istore_n (lv' := [(2, .int 0), (0, .ref (A 1 0)), (1, .int 0)]) hx hb dX4_readBoth_6 rfl hl (by decide) rfl (fun ls hl => ?_)
  have hl_7_12 : ∀ (n_13 : Nat) (x_6 : Int32) (M_9 : ti_M) (H : Heap) (locs : List Loc) (ls : Array Slot), (64 - x_6.toInt : Int).toNat < n_13 → (0 ≤ x_6.toInt) → (x_6.toInt ≤ 64) → (cI Tc M_9) → (M_9.2.2.2 = M.2.2.2) → (f0 M_9 M) → (tI M_9 2 1 = tI M 2 1) → ti_H ti_LT D A cy H0 M_9 H locs → lv_has ls 3 [(2, .int x_6), (0, .ref (A 1 0)), (1, .int 0)] → W p l e (ti_rm 69) s m args below meth c H locs 0 0 Q (F0 m 7 ls []) := by
    intro n_13
    induction n_13 with
    | zero => intro x_6 M_9 H locs ls hf_13; exact absurd hf_13 (Nat.not_lt_zero _)
    | succ n_13 ih_13 =>
      intro x_6 M_9 H locs ls hf_13 b_7 b_8 iM_9 f_10 f_11 f_12 hw hl
      refine lv_iload_n hx hb dX4_readBoth_7 rfl (lv_at hl 0 rfl) ?_
      refine lv_bipush (v := 64) hx hb dX4_readBoth_8 (by decide) ?_
      refine sb_icmp_ge (tgt := 49) hx hb rfl (by decide : (64 : Int32).toInt = 64) dX4_readBoth_10 (by decide) (fun c_10_13 => ?_) (fun c_10_13 => ?_)
      · exact hQ _ _ _ _ _ hw (⟨iM_9, (f_10), f_11, (f_12)⟩) dX4_readBoth_49
      · refine lv_aload_n hx hb dX4_readBoth_13 rfl (lv_at hl 1 rfl) ?_
        refine ti_get (ci := 4) (k := 0) (N := 6) (T := TX4) (v := .ref (A 2 0)) C hw iw_4 rfl ob_1 (by decide) (by decide) fl_X4_12 rfl rfl dX4_readBoth_14 ?_
        refine ti_get (ci := 7) (k := 4) (N := 7) (T := TX7) C hw iw_7 rfl ob_2 (by decide) (by decide) fl_X4_41 rfl rfl dX4_readBoth_17 ?_
        refine lv_topi (fun x_15 ex_15 => ?_)
        have bx_15 : 0 ≤ x_15.toInt ∧ x_15.toInt ≤ 41 := cI_rd iM_9 ob_2.1 ex_15
        have ux_15 : (tI M_9 2 4).toInt = x_15.toInt := by rw [ex_15]
        refine lv_bipush (v := 22) hx hb dX4_readBoth_20 (by decide) ?_
        refine sb_icmp_ne (tgt := 49) hx hb rfl (by decide : (22 : Int32).toInt = 22) dX4_readBoth_22 (by decide) (fun c_22_15 => ?_) (fun c_22_15 => ?_)
        · exact hQ _ _ _ _ _ hw (⟨iM_9, (f_10), f_11, (f_12)⟩) dX4_readBoth_49
        · refine lv_aload_n hx hb dX4_readBoth_25 rfl (lv_at hl 1 rfl) ?_
          refine ti_callVvE (ci := 4) (av := []) C hE hw (s_X4_knot l D A cy hJ M_9 iM_9 t ht ((tT_fr f_10).trans hT)) ⟨ml_X4_167, ym_X4_knot, yv_X4_knot, yi_X4_knot, yc_X4_knot⟩ yd_X4_knot ob_1 (by decide) rfl rfl hl.1 (Nat.le_of_ble_eq_true rfl) ⟨by decide, by decide⟩ ⟨Nat.zero_le _, Nat.zero_le _⟩ dX4_readBoth_26 (fun M_18 H locs hp_18 hw => ?_)
          obtain ⟨iM_18, q_19, q_20, q_21⟩ := hp_18
          refine lv_aload_n hx hb dX4_readBoth_29 rfl (lv_at hl 1 rfl) ?_
          refine lv_iload_n hx hb dX4_readBoth_30 rfl (lv_at hl 2 rfl) ?_
          refine ti_callVvE (ci := 4) (av := [.int 0]) C hE hw (s_X4_readNegated_0 l D A cy hJ M_18 iM_18 t ht ((tT_fr q_19).trans ((tT_fr f_10).trans hT)) lw hlw ((tT_fr q_19).trans ((tT_fr f_10).trans hL))) ⟨ml_X4_175, ym_X4_readNegated, yv_X4_readNegated, yi_X4_readNegated, yc_X4_readNegated⟩ yd_X4_readNegated ob_1 (by decide) rfl rfl hl.1 (Nat.le_of_ble_eq_true rfl) ⟨by decide, by decide⟩ ⟨Nat.zero_le _, Nat.zero_le _⟩ dX4_readBoth_31 (fun M_23 H locs hp_23 hw => ?_)
          obtain ⟨iM_23, q_24, q_25, q_26⟩ := hp_23
          refine lv_aload_n hx hb dX4_readBoth_34 rfl (lv_at hl 1 rfl) ?_
          refine ti_get (ci := 4) (k := 2) (N := 6) (T := TX4) (v := .ref (A lw 0)) C hw iw_4 rfl ob_1 (by decide) (by decide) fl_X4_154 rfl (ti_Tv ((tT_fr q_24).trans ((tT_fr q_19).trans ((tT_fr f_10).trans hL)))) dX4_readBoth_35 ?_
          refine lv_bipush (v := (-22)) hx hb dX4_readBoth_38 (by decide) ?_
          refine ti_callVv (ci := 1) (av := [.int (-22)]) C hw (s_X1_add l D A cy hJ M_23 iM_23 lw hlw (-22) (by first | omega | exact Or.inl (by decide) | exact Or.inr (by decide))) ⟨ml_X4_170, ym_X1_add, yv_X1_add, yi_X1_add, yc_X1_add⟩ yd_X1_add hlw (by decide) rfl rfl hl.1 (Nat.le_of_ble_eq_true rfl) ⟨by decide, by decide⟩ ⟨Nat.zero_le _, Nat.zero_le _⟩ dX4_readBoth_40 (fun M_28 H locs hp_28 hw => ?_)
          obtain ⟨iM_28, q_29, q_30⟩ := hp_28
          obtain ⟨x_31, ex_31⟩ : ∃ z : Int32, z = x_6 + 1 := ⟨_, rfl⟩
          have tx_31 : x_31.toInt = x_6.toInt + 1 := i_add ex_31 rfl (by decide) (by omega) (by omega)
          refine lv_iinc (v := x_31) (lv' := [(2, .int x_31), (0, .ref (A 1 0)), (1, .int 0)]) hx hb dX4_readBoth_43 hl (k := 0) rfl (by rw [ex_31]; rfl) (by decide) rfl (fun ls hl => ?_)
          refine lv_goto (tgt := 7) hx hb dX4_readBoth_46 (by decide) ?_
          exact ih_13 x_31 M_28 _ _ _ (by omega) (by first | omega | decide) (by first | omega | decide) iM_28 ((q_29).trans ((q_24).trans ((q_19).trans f_10))) (f0.trans (f0_x q_30) (f0.trans q_25 (f0.trans q_20 f_11))) (((q_30 1).2.1).trans ((q_26).trans ((q_21).trans f_12))) hw (lv_sub hl [0, 1, 2] rfl)
  exact hl_7_12 ((64 - 0 : Int).toNat + 1) 0 M_2 _ _ _ (Nat.lt_succ_self _) (by have lt0 : (0 : Int32).toInt = 0 := (by decide); first | omega | decide) (by have lt0 : (0 : Int32).toInt = 0 := (by decide); first | omega | decide) iM_2 (q_3) q_4 (q_5) hw (lv_sub hl [0, 1, 2] rfl)
set_option maxHeartbeats 4000000 in
set_option maxRecDepth 100000 in
theorem s_X4_readEither_0 (l : Launch) (D : va_G) (A : Nat → Nat → Nat) (cy : Nat → ClassId) (hJ : ti_inj ti_LT A) (M : ti_M) (hI : cI Tc M) (t : Nat) (ht : t = 3 ∨ t = 4) (hT : tT M 1 1 = some t) (lw : Nat) (hlw : ti_ob ti_LT lw 1) (hL : tT M 1 2 = some lw) : ti_KvE l yX4_readEither cX4_readEither 3 70 ti_LT D A cy M [.ref (A 1 0), .int 0] (fun M2 => cI Tc M2 ∧ M2.2.2.2 = M.2.2.2 ∧ f0 M2 M ∧ tI M2 2 1 = tI M 2 1) := by
  refine ti_eVE yp_X4_readEither hJ ti_LT_nd (Nat.le_of_ble_eq_true rfl) ?_
  intro p e s m args below meth c Q H0 C hE hQ hw ls hl
  have hx := C.1
  have hb := C.2.1
  have hl : lv_has ls 3 [(0, .ref (A 1 0)), (1, .int 0)] := hl
  refine lv_aload_n hx hb dX4_readEither_0 rfl (lv_at hl 0 rfl) ?_
  refine lv_iload_n hx hb dX4_readEither_1 rfl (lv_at hl 1 rfl) ?_
  refine ti_callVvE (ci := 4) (av := [.int 0]) C hE hw (s_X4_readBoth_0 l D A cy hJ M hI t ht (hT) lw hlw (hL)) ⟨ml_X4_164, ym_X4_readBoth, yv_X4_readBoth, yi_X4_readBoth, yc_X4_readBoth⟩ yd_X4_readBoth ob_1 (by decide) rfl rfl hl.1 (Nat.le_of_ble_eq_true rfl) ⟨by decide, by decide⟩ ⟨Nat.zero_le _, Nat.zero_le _⟩ dX4_readEither_2 (fun M_2 H locs hp_2 hw => ?_)
  obtain ⟨iM_2, q_3, q_4, q_5⟩ := hp_2
  refine lv_iconst (v := 0) hx hb dX4_readEither_5 (by decide) ?_
  refine lv_istore_n (lv' := [(2, .int 0), (0, .ref (A 1 0)), (1, .int 0)]) hx hb dX4_readEither_6 rfl hl (by decide) rfl (fun ls hl => ?_)
  have hl_7_12 : ∀ (n_13 : Nat) (x_6 : Int32) (M_9 : ti_M) (H : Heap) (locs : List Loc) (ls : Array Slot), (64 - x_6.toInt : Int).toNat < n_13 → (0 ≤ x_6.toInt) → (x_6.toInt ≤ 64) → (cI Tc M_9) → (M_9.2.2.2 = M.2.2.2) → (f0 M_9 M) → (tI M_9 2 1 = tI M 2 1) → ti_H ti_LT D A cy H0 M_9 H locs → lv_has ls 3 [(2, .int x_6), (0, .ref (A 1 0)), (1, .int 0)] → W p l e (ti_rm 70) s m args below meth c H locs 0 0 Q (F0 m 7 ls []) := by
    intro n_13
    induction n_13 with
    | zero => intro x_6 M_9 H locs ls hf_13; exact absurd hf_13 (Nat.not_lt_zero _)
    | succ n_13 ih_13 =>
      intro x_6 M_9 H locs ls hf_13 b_7 b_8 iM_9 f_10 f_11 f_12 hw hl
      refine lv_iload_n hx hb dX4_readEither_7 rfl (lv_at hl 0 rfl) ?_
      refine lv_bipush (v := 64) hx hb dX4_readEither_8 (by decide) ?_
      refine sb_icmp_ge (tgt := 49) hx hb rfl (by decide : (64 : Int32).toInt = 64) dX4_readEither_10 (by decide) (fun c_10_13 => ?_) (fun c_10_13 => ?_)
      · exact hQ _ _ _ _ _ hw (⟨iM_9, (f_10), f_11, (f_12)⟩) dX4_readEither_49
      · refine lv_aload_n hx hb dX4_readEither_13 rfl (lv_at hl 1 rfl) ?_
        refine ti_get (ci := 4) (k := 0) (N := 6) (T := TX4) (v := .ref (A 2 0)) C hw iw_4 rfl ob_1 (by decide) (by decide) fl_X4_12 rfl rfl dX4_readEither_14 ?_
        refine ti_get (ci := 7) (k := 4) (N := 7) (T := TX7) C hw iw_7 rfl ob_2 (by decide) (by decide) fl_X4_41 rfl rfl dX4_readEither_17 ?_
        refine lv_topi (fun x_15 ex_15 => ?_)
        have bx_15 : 0 ≤ x_15.toInt ∧ x_15.toInt ≤ 41 := cI_rd iM_9 ob_2.1 ex_15
        have ux_15 : (tI M_9 2 4).toInt = x_15.toInt := by rw [ex_15]
        refine lv_bipush (v := 23) hx hb dX4_readEither_20 (by decide) ?_
        refine sb_icmp_ne (tgt := 49) hx hb rfl (by decide : (23 : Int32).toInt = 23) dX4_readEither_22 (by decide) (fun c_22_15 => ?_) (fun c_22_15 => ?_)
        · exact hQ _ _ _ _ _ hw (⟨iM_9, (f_10), f_11, (f_12)⟩) dX4_readEither_49
        · refine lv_aload_n hx hb dX4_readEither_25 rfl (lv_at hl 1 rfl) ?_
          refine ti_callVvE (ci := 4) (av := []) C hE hw (s_X4_knot l D A cy hJ M_9 iM_9 t ht ((tT_fr f_10).trans hT)) ⟨ml_X4_167, ym_X4_knot, yv_X4_knot, yi_X4_knot, yc_X4_knot⟩ yd_X4_knot ob_1 (by decide) rfl rfl hl.1 (Nat.le_of_ble_eq_true rfl) ⟨by decide, by decide⟩ ⟨Nat.zero_le _, Nat.zero_le _⟩ dX4_readEither_26 (fun M_18 H locs hp_18 hw => ?_)
          obtain ⟨iM_18, q_19, q_20, q_21⟩ := hp_18
          refine lv_aload_n hx hb dX4_readEither_29 rfl (lv_at hl 1 rfl) ?_
          refine lv_iload_n hx hb dX4_readEither_30 rfl (lv_at hl 2 rfl) ?_
          refine ti_callVvE (ci := 4) (av := [.int 0]) C hE hw (s_X4_readBoth_0 l D A cy hJ M_18 iM_18 t ht ((tT_fr q_19).trans ((tT_fr f_10).trans hT)) lw hlw ((tT_fr q_19).trans ((tT_fr f_10).trans hL))) ⟨ml_X4_164, ym_X4_readBoth, yv_X4_readBoth, yi_X4_readBoth, yc_X4_readBoth⟩ yd_X4_readBoth ob_1 (by decide) rfl rfl hl.1 (Nat.le_of_ble_eq_true rfl) ⟨by decide, by decide⟩ ⟨Nat.zero_le _, Nat.zero_le _⟩ dX4_readEither_31 (fun M_23 H locs hp_23 hw => ?_)
          obtain ⟨iM_23, q_24, q_25, q_26⟩ := hp_23
          refine lv_aload_n hx hb dX4_readEither_34 rfl (lv_at hl 1 rfl) ?_
          refine ti_get (ci := 4) (k := 2) (N := 6) (T := TX4) (v := .ref (A lw 0)) C hw iw_4 rfl ob_1 (by decide) (by decide) fl_X4_154 rfl (ti_Tv ((tT_fr q_24).trans ((tT_fr q_19).trans ((tT_fr f_10).trans hL)))) dX4_readEither_35 ?_
          refine lv_bipush (v := (-23)) hx hb dX4_readEither_38 (by decide) ?_
          refine ti_callVv (ci := 1) (av := [.int (-23)]) C hw (s_X1_add l D A cy hJ M_23 iM_23 lw hlw (-23) (by first | omega | exact Or.inl (by decide) | exact Or.inr (by decide))) ⟨ml_X4_170, ym_X1_add, yv_X1_add, yi_X1_add, yc_X1_add⟩ yd_X1_add hlw (by decide) rfl rfl hl.1 (Nat.le_of_ble_eq_true rfl) ⟨by decide, by decide⟩ ⟨Nat.zero_le _, Nat.zero_le _⟩ dX4_readEither_40 (fun M_28 H locs hp_28 hw => ?_)
          obtain ⟨iM_28, q_29, q_30⟩ := hp_28
          obtain ⟨x_31, ex_31⟩ : ∃ z : Int32, z = x_6 + 1 := ⟨_, rfl⟩
          have tx_31 : x_31.toInt = x_6.toInt + 1 := i_add ex_31 rfl (by decide) (by omega) (by omega)
          refine lv_iinc (v := x_31) (lv' := [(2, .int x_31), (0, .ref (A 1 0)), (1, .int 0)]) hx hb dX4_readEither_43 hl (k := 0) rfl (by rw [ex_31]; rfl) (by decide) rfl (fun ls hl => ?_)
          refine lv_goto (tgt := 7) hx hb dX4_readEither_46 (by decide) ?_
          exact ih_13 x_31 M_28 _ _ _ (by omega) (by first | omega | decide) (by first | omega | decide) iM_28 ((q_29).trans ((q_24).trans ((q_19).trans f_10))) (f0.trans (f0_x q_30) (f0.trans q_25 (f0.trans q_20 f_11))) (((q_30 1).2.1).trans ((q_26).trans ((q_21).trans f_12))) hw (lv_sub hl [0, 1, 2] rfl)
  exact hl_7_12 ((64 - 0 : Int).toNat + 1) 0 M_2 _ _ _ (Nat.lt_succ_self _) (by have lt0 : (0 : Int32).toInt = 0 := (by decide); first | omega | decide) (by have lt0 : (0 : Int32).toInt = 0 := (by decide); first | omega | decide) iM_2 (q_3) q_4 (q_5) hw (lv_sub hl [0, 1, 2] rfl)
set_option maxHeartbeats 4000000 in
set_option maxRecDepth 100000 in
theorem s_X4_readLaw (l : Launch) (D : va_G) (A : Nat → Nat → Nat) (cy : Nat → ClassId) (hJ : ti_inj ti_LT A) (M : ti_M) (hI : cI Tc M) (t : Nat) (ht : t = 3 ∨ t = 4) (hT : tT M 1 1 = some t) : ti_KvE l yX4_readLaw cX4_readLaw 2 71 ti_LT D A cy M [.ref (A 1 0)] (fun M2 => cI Tc M2 ∧ rR M2 M ∧ f0 M2 M ∧ tI M2 2 1 = tI M 2 1 ∧ tT M2 1 1 = tT M 1 1) := by
  refine ti_eVE yp_X4_readLaw hJ ti_LT_nd (Nat.le_of_ble_eq_true rfl) ?_
  intro p e s m args below meth c Q H0 C hE hQ hw ls hl
  have hx := C.1
  have hb := C.2.1
  have hl : lv_has ls 2 [(0, .ref (A 1 0))] := hl
  refine lv_aload_n hx hb dX4_readLaw_0 rfl (lv_at hl 0 rfl) ?_
  refine ti_get (ci := 4) (k := 0) (N := 6) (T := TX4) (v := .ref (A 2 0)) C hw iw_4 rfl ob_1 (by decide) (by decide) fl_X4_12 rfl rfl dX4_readLaw_1 ?_
  refine ti_callVvE (ci := 7) (av := []) C hE hw (s_X7_advance l D A cy hJ M hI ) ⟨ml_X4_92, ym_X7_advance, yv_X7_advance, yi_X7_advance, yc_X7_advance⟩ yd_X7_advance ob_2 (by decide) rfl rfl hl.1 (Nat.le_of_ble_eq_true rfl) ⟨by decide, by decide⟩ ⟨Nat.zero_le _, Nat.zero_le _⟩ dX4_readLaw_4 (fun M_2 H locs hp_2 hw => ?_)
  obtain ⟨iM_2, q_3, q_4, q_5⟩ := hp_2
  refine lv_aload_n hx hb dX4_readLaw_7 rfl (lv_at hl 0 rfl) ?_
  refine ti_get (ci := 4) (k := 0) (N := 6) (T := TX4) (v := .ref (A 2 0)) C hw iw_4 rfl ob_1 (by decide) (by decide) fl_X4_12 rfl rfl dX4_readLaw_8 ?_
  refine ti_get (ci := 7) (k := 4) (N := 7) (T := TX7) C hw iw_7 rfl ob_2 (by decide) (by decide) fl_X4_41 rfl rfl dX4_readLaw_11 ?_
  refine lv_topi (fun x_6 ex_6 => ?_)
  have bx_6 : 0 ≤ x_6.toInt ∧ x_6.toInt ≤ 41 := cI_rd iM_2 ob_2.1 ex_6
  have ux_6 : (tI M_2 2 4).toInt = x_6.toInt := by rw [ex_6]
  refine lv_istore_n (lv' := [(1, .int x_6), (0, .ref (A 1 0))]) hx hb dX4_readLaw_14 rfl hl (by decide) rfl (fun ls hl => ?_)
  refine lv_iload_n hx hb dX4_readLaw_15 rfl (lv_at hl 0 rfl) ?_
  refine lv_bipush (v := 12) hx hb dX4_readLaw_16 (by decide) ?_
  have hj_27_8 : ∀  (H : Heap) (locs : List Loc) (ls : Array Slot), ti_H ti_LT D A cy H0 M_2 H locs → lv_has ls 2 [(1, .int x_6), (0, .ref (A 1 0))] → W p l e (ti_rm 71) s m args below meth c H locs 0 0 Q (F0 m 27 ls []) := by
    intro  H locs ls  hw hl
    refine lv_aload_n hx hb dX4_readLaw_27 rfl (lv_at hl 1 rfl) ?_
    refine lv_iconst (v := 1) hx hb dX4_readLaw_28 (by decide) ?_
    refine ti_callVv (ci := 4) (av := [.int 1]) C hw (s_X4_refuse l D A cy hJ M_2 iM_2 1) ⟨ml_X4_82, ym_X4_refuse, yv_X4_refuse, yi_X4_refuse, yc_X4_refuse⟩ yd_X4_refuse ob_1 (by decide) rfl rfl hl.1 (Nat.le_of_ble_eq_true rfl) ⟨by decide, by decide⟩ ⟨Nat.zero_le _, Nat.zero_le _⟩ dX4_readLaw_29 (fun M_10 H locs hp_10 hw => ?_)
    obtain ⟨iM_10, q_11, q_12, q_13⟩ := hp_10
    exact hQ _ _ _ _ _ hw (⟨iM_10, (rR.trans (rr_of q_11) (rr_of q_3)), (f0.trans (f0_12 q_12) (f0_12 q_4)), ((q_13).trans q_5), ((tT_fr q_11).trans (tT_fr q_3))⟩) dX4_readLaw_32
  refine sb_icmp_lt (tgt := 27) hx hb rfl (by decide : (12 : Int32).toInt = 12) dX4_readLaw_18 (by decide) (fun c_18_6 => ?_) (fun c_18_6 => ?_)
  · exact hj_27_8  _ _ _  hw (lv_sub hl [0, 1] rfl)
  · refine lv_iload_n hx hb dX4_readLaw_21 rfl (lv_at hl 0 rfl) ?_
    refine lv_bipush (v := 14) hx hb dX4_readLaw_22 (by decide) ?_
    refine sb_icmp_le (tgt := 33) hx hb rfl (by decide : (14 : Int32).toInt = 14) dX4_readLaw_24 (by decide) (fun c_24_7 => ?_) (fun c_24_7 => ?_)
    · refine lv_aload_n hx hb dX4_readLaw_33 rfl (lv_at hl 1 rfl) ?_
      refine ti_callVvE (ci := 4) (av := []) C hE hw (s_X4_once l D A cy hJ M_2 iM_2 ) ⟨ml_X4_53, ym_X4_once, yv_X4_once, yi_X4_once, yc_X4_once⟩ yd_X4_once ob_1 (by decide) rfl rfl hl.1 (Nat.le_of_ble_eq_true rfl) ⟨by decide, by decide⟩ ⟨Nat.zero_le _, Nat.zero_le _⟩ dX4_readLaw_34 (fun M_15 H locs hp_15 hw => ?_)
      obtain ⟨iM_15, q_16, q_17, q_18⟩ := hp_15
      refine lv_aload_n hx hb dX4_readLaw_37 rfl (lv_at hl 1 rfl) ?_
      refine lv_aload_n hx hb dX4_readLaw_38 rfl (lv_at hl 1 rfl) ?_
      refine ti_get (ci := 4) (k := 1) (N := 6) (T := TX4) (v := .ref (A t 0)) C hw iw_4 rfl ob_1 (by decide) (by decide) fl_X4_28 rfl (ti_Tv ((tT_fr q_16).trans ((tT_fr q_3).trans hT))) dX4_readLaw_39 ?_
      refine ti_get (ci := 8) (k := 2) (N := 12) (T := TX8) (v := .ref (A t 3)) C hw iw_8 rfl (ob_t ht) (by decide) (by decide) fl_X4_150 rfl rfl dX4_readLaw_42 ?_
      refine lv_iload_n hx hb dX4_readLaw_45 rfl (lv_at hl 0 rfl) ?_
      refine lv_bipush (v := 12) hx hb dX4_readLaw_46 (by decide) ?_
      refine lv_isub hx hb dX4_readLaw_48 ?_
      refine lv_topi (fun x_19 ex_19 => ?_)
      have tx_19 : x_19.toInt = x_6.toInt - 12 := i_sub ex_19 rfl (by decide : (12 : Int32).toInt = 12) (by omega) (by omega)
      refine ti_aald (ci := 8) (k := 2) (n := 3) (t0 := 4) (Cn := RX1) (gg := (ti_laws t)) (j := x_19.toNatClampNeg) C hw (ob_t ht) (by decide) (fun _ _ => rfl) rfl (vp_in_iff.mpr (by omega)) rfl dX4_readLaw_49 ?_
      have ob_20 : ti_ob ti_LT (ti_laws t x_19.toNatClampNeg) 1 := ob_l ht (i_nt rfl (by omega) (by omega))
      refine ti_putT (ci := 4) (k := 2) (N := 6) (T := TX4) C hw iw_4 tyX4 tyX4_ok nmX4 rfl ob_1 (by decide) (by decide) fl_X4_154 rfl rfl rfl rfl (fn_4 A _) fs_4_2 dX4_readLaw_50 (fun H locs hw => ?_)
      obtain ⟨M_21, hM_21⟩ : ∃ z : ti_M, z = uT M_15 1 2 (some (ti_laws t x_19.toNatClampNeg)) := ⟨_, rfl⟩
      have hw := hw.to hM_21.symm
      have iM_21 : cI Tc M_21 := cI_uT iM_15 hM_21
      refine lv_aload_n hx hb dX4_readLaw_53 rfl (lv_at hl 1 rfl) ?_
      refine lv_iconst (v := 0) hx hb dX4_readLaw_54 (by decide) ?_
      refine ti_callVvE (ci := 4) (av := [.int 0]) C hE hw (s_X4_readEither_0 l D A cy hJ M_21 iM_21 t ht ((tT_nE hM_21 (nk (by decide))).trans ((tT_fr q_16).trans ((tT_fr q_3).trans hT))) (ti_laws t x_19.toNatClampNeg) ob_20 (tT_uE hM_21)) ⟨ml_X4_158, ym_X4_readEither, yv_X4_readEither, yi_X4_readEither, yc_X4_readEither⟩ yd_X4_readEither ob_1 (by decide) rfl rfl hl.1 (Nat.le_of_ble_eq_true rfl) ⟨by decide, by decide⟩ ⟨Nat.zero_le _, Nat.zero_le _⟩ dX4_readLaw_55 (fun M_23 H locs hp_23 hw => ?_)
      obtain ⟨iM_23, q_24, q_25, q_26⟩ := hp_23
      exact hQ _ _ _ _ _ hw (⟨iM_23, (rR.trans (rr_of q_24) (rR.trans (rr_T hM_21) (rR.trans (rr_of q_16) (rr_of q_3)))), (f0.trans q_25 (f0.trans (f0_of (ra_T hM_21)) (f0.trans (f0_12 q_17) (f0_12 q_4)))), ((q_26).trans ((tI_uTE hM_21).trans ((q_18).trans q_5))), ((tT_fr q_24).trans ((tT_nE hM_21 (nk (by decide))).trans ((tT_fr q_16).trans (tT_fr q_3))))⟩) dX4_readLaw_58
    · exact hj_27_8  _ _ _  hw (lv_sub hl [0, 1] rfl)

variable {Tc : gC} {Tm : gM}
set_option maxHeartbeats 4000000 in
set_option maxRecDepth 100000 in
theorem s_X10_wrong (l : Launch) (D : va_G) (A : Nat → Nat → Nat) (cy : Nat → ClassId) (hJ : ti_inj ti_LM A) (M : ti_M) (hI : mI Tm M) (kd : Int32) (hk : kd.toInt ≠ 0) : ti_Kv l yX10_wrong cX10_wrong 2 0 ti_LM D A cy M [.ref (A 60 0), .int kd] (fun M2 => mI Tm M2 ∧ pr 25 26 M2 M ∧ ((tI M 60 21).toInt ≤ (tI M2 60 21).toInt) ∧ ((tI M 60 21).toInt < (tI M2 60 21).toInt ∨ (tI M2 60 23).toInt = (tI M 60 23).toInt ∨ (tI M2 60 23).toInt = 4) ∧ ((tI M 60 25).toInt = 0 ∨ (tI M2 60 25).toInt ≠ 0) ∧ ((tI M2 60 25).toInt ≠ 0)) := by
  refine ti_eV yp_X10_wrong hJ ti_LM_nd (Nat.le_of_ble_eq_true rfl) ?_
  intro p e s m args below meth c Q H0 C hQ hw ls hl
  have hx := C.1
  have hb := C.2.1
  have hl : lv_has ls 2 [(0, .ref (A 60 0)), (1, .int kd)] := hl
  refine lv_aload_n hx hb dX10_wrong_0 rfl (lv_at hl 0 rfl) ?_
  refine ti_get (ci := 10) (k := 25) (N := 67) (T := TX10) C hw iw_10 rfl ob_60 (by decide) (by decide) fl_X10_208 rfl rfl dX10_wrong_1 ?_
  refine lv_topi (fun x_1 ex_1 => ?_)
  have u_2 : (tI M 60 25).toInt = x_1.toInt := by rw [ex_1]
  refine sb_if_eq (tgt := 8) hx hb rfl dX10_wrong_4 (by decide) (fun c_4_2 => ?_) (fun c_4_2 => ?_)
  · refine lv_aload_n hx hb dX10_wrong_8 rfl (lv_at hl 0 rfl) ?_
    refine lv_iload_n hx hb dX10_wrong_9 rfl (lv_at hl 1 rfl) ?_
    refine ti_putI (ci := 10) (k := 25) (N := 67) (T := TX10) C hw iw_10 tyX10 tyX10_ok nmX10 rfl ob_60 (by decide) (by decide) fl_X10_208 rfl rfl rfl rfl (fn_10 A _) fs_10_25 dX10_wrong_10 (fun H locs hw => ?_)
    obtain ⟨M_4, hM_4⟩ : ∃ z : ti_M, z = uI M 60 25 kd := ⟨_, rfl⟩
    have hw := hw.to hM_4.symm
    have iM_4 : mI Tm M_4 := mI_uI hI hM_4 (by decide) (by decide) trivial
    have v_5 : (tI M_4 60 20).toInt = (tI M 60 20).toInt := by rw [tI_nE hM_4 (nk (by decide))]
    have v_6 : (tI M_4 60 21).toInt = (tI M 60 21).toInt := by rw [tI_nE hM_4 (nk (by decide))]
    have v_7 : (tI M_4 60 23).toInt = (tI M 60 23).toInt := by rw [tI_nE hM_4 (nk (by decide))]
    have v_8 : (tI M_4 60 24).toInt = (tI M 60 24).toInt := by rw [tI_nE hM_4 (nk (by decide))]
    have v_9 : (tI M_4 60 25).toInt = (kd : Int32).toInt := by rw [tI_uE hM_4]
    have v_10 : (tI M_4 60 29).toInt = (tI M 60 29).toInt := by rw [tI_nE hM_4 (nk (by decide))]
    have v_11 : (tI M_4 60 30).toInt = (tI M 60 30).toInt := by rw [tI_nE hM_4 (nk (by decide))]
    refine lv_aload_n hx hb dX10_wrong_13 rfl (lv_at hl 0 rfl) ?_
    refine lv_aload_n hx hb dX10_wrong_14 rfl (lv_at hl 0 rfl) ?_
    refine ti_get (ci := 10) (k := 22) (N := 67) (T := TX10) C hw iw_10 rfl ob_60 (by decide) (by decide) fl_X10_170 rfl rfl dX10_wrong_15 ?_
    refine lv_topi (fun x_12 ex_12 => ?_)
    have bx_12 : 0 ≤ x_12.toInt ∧ x_12.toInt ≤ 700 := mI_rd iM_4 ex_12
    have ux_12 : (tI M_4 60 22).toInt = x_12.toInt := by rw [ex_12]
    refine ti_putI (ci := 10) (k := 26) (N := 67) (T := TX10) C hw iw_10 tyX10 tyX10_ok nmX10 rfl ob_60 (by decide) (by decide) fl_X10_211 rfl rfl rfl rfl (fn_10 A _) fs_10_26 dX10_wrong_18 (fun H locs hw => ?_)
    obtain ⟨M_13, hM_13⟩ : ∃ z : ti_M, z = uI M_4 60 26 x_12 := ⟨_, rfl⟩
    have hw := hw.to hM_13.symm
    have iM_13 : mI Tm M_13 := mI_uI iM_4 hM_13 (by decide) (by decide) trivial
    have v_14 : (tI M_13 60 20).toInt = (tI M_4 60 20).toInt := by rw [tI_nE hM_13 (nk (by decide))]
    have v_15 : (tI M_13 60 21).toInt = (tI M_4 60 21).toInt := by rw [tI_nE hM_13 (nk (by decide))]
    have v_16 : (tI M_13 60 23).toInt = (tI M_4 60 23).toInt := by rw [tI_nE hM_13 (nk (by decide))]
    have v_17 : (tI M_13 60 24).toInt = (tI M_4 60 24).toInt := by rw [tI_nE hM_13 (nk (by decide))]
    have v_18 : (tI M_13 60 25).toInt = (tI M_4 60 25).toInt := by rw [tI_nE hM_13 (nk (by decide))]
    have v_19 : (tI M_13 60 29).toInt = (tI M_4 60 29).toInt := by rw [tI_nE hM_13 (nk (by decide))]
    have v_20 : (tI M_13 60 30).toInt = (tI M_4 60 30).toInt := by rw [tI_nE hM_13 (nk (by decide))]
    exact hQ _ _ _ _ _ hw (⟨iM_13, (pr.trans (pr_I hM_13 (by decide)) (pr_I hM_4 (by decide))), (by first | omega | decide), (by first | omega | decide), (by first | omega | decide), (by first | omega | decide)⟩) dX10_wrong_21
  · exact hQ _ _ _ _ _ hw (⟨hI, pr.refl, (by first | omega | decide), (by first | omega | decide), (by first | omega | decide), (by first | omega | decide)⟩) dX10_wrong_7
set_option maxHeartbeats 4000000 in
set_option maxRecDepth 100000 in
theorem s_X10_isWord (l : Launch) (D : va_G) (A : Nat → Nat → Nat) (cy : Nat → ClassId) (hJ : ti_inj ti_LM A) (M : ti_M) (hI : mI Tm M)  (a : Int32) : ti_Ki l yX10_isWord cX10_isWord 2 (some .boolean) 0 ti_LM D A cy M [.ref (A 60 0), .int a] (fun r M2 => M2 = M ∧ ((r = 1 ∧ (tI M 60 25).toInt = 0 ∧ (tI M 60 23).toInt = 0 ∧ (tI M 60 24).toInt = a.toInt) ∨ r = 0)) := by
  refine ti_eI yp_X10_isWord hJ ti_LM_nd (Nat.le_of_ble_eq_true rfl) ?_
  intro p e s m args below meth c Q H0 C hQ hw ls hl
  have hx := C.1
  have hb := C.2.1
  have hl : lv_has ls 2 [(0, .ref (A 60 0)), (1, .int a)] := hl
  refine lv_aload_n hx hb dX10_isWord_0 rfl (lv_at hl 0 rfl) ?_
  refine ti_get (ci := 10) (k := 25) (N := 67) (T := TX10) C hw iw_10 rfl ob_60 (by decide) (by decide) fl_X10_208 rfl rfl dX10_isWord_1 ?_
  refine lv_topi (fun x_1 ex_1 => ?_)
  have u_2 : (tI M 60 25).toInt = x_1.toInt := by rw [ex_1]
  refine sb_if_ne (tgt := 26) hx hb rfl dX10_isWord_4 (by decide) (fun c_4_2 => ?_) (fun c_4_2 => ?_)
  · refine lv_iconst (v := 0) hx hb dX10_isWord_26 (by decide) ?_
    exact hQ _ _ _ _ _ _ hw rfl (⟨rfl, Or.inr rfl⟩) dX10_isWord_27
  · refine lv_aload_n hx hb dX10_isWord_7 rfl (lv_at hl 0 rfl) ?_
    refine ti_get (ci := 10) (k := 23) (N := 67) (T := TX10) C hw iw_10 rfl ob_60 (by decide) (by decide) fl_X10_173 rfl rfl dX10_isWord_8 ?_
    refine lv_topi (fun x_4 ex_4 => ?_)
    have u_5 : (tI M 60 23).toInt = x_4.toInt := by rw [ex_4]
    refine sb_if_ne (tgt := 26) hx hb rfl dX10_isWord_11 (by decide) (fun c_11_5 => ?_) (fun c_11_5 => ?_)
    · refine lv_iconst (v := 0) hx hb dX10_isWord_26 (by decide) ?_
      exact hQ _ _ _ _ _ _ hw rfl (⟨rfl, Or.inr rfl⟩) dX10_isWord_27
    · refine lv_aload_n hx hb dX10_isWord_14 rfl (lv_at hl 0 rfl) ?_
      refine ti_get (ci := 10) (k := 24) (N := 67) (T := TX10) C hw iw_10 rfl ob_60 (by decide) (by decide) fl_X10_183 rfl rfl dX10_isWord_15 ?_
      refine lv_topi (fun x_7 ex_7 => ?_)
      have u_8 : (tI M 60 24).toInt = x_7.toInt := by rw [ex_7]
      refine lv_iload_n hx hb dX10_isWord_18 rfl (lv_at hl 1 rfl) ?_
      refine sb_icmp_ne (tgt := 26) hx hb rfl rfl dX10_isWord_19 (by decide) (fun c_19_8 => ?_) (fun c_19_8 => ?_)
      · refine lv_iconst (v := 0) hx hb dX10_isWord_26 (by decide) ?_
        exact hQ _ _ _ _ _ _ hw rfl (⟨rfl, Or.inr rfl⟩) dX10_isWord_27
      · refine lv_iconst (v := 1) hx hb dX10_isWord_22 (by decide) ?_
        refine lv_goto (tgt := 27) hx hb dX10_isWord_23 (by decide) ?_
        exact hQ _ _ _ _ _ _ hw rfl (⟨rfl, Or.inl ⟨rfl, by omega, by omega, by omega⟩⟩) dX10_isWord_27
set_option maxHeartbeats 4000000 in
set_option maxRecDepth 100000 in
theorem s_X10_isSign (l : Launch) (D : va_G) (A : Nat → Nat → Nat) (cy : Nat → ClassId) (hJ : ti_inj ti_LM A) (M : ti_M) (hI : mI Tm M)  (a : Int32) : ti_Ki l yX10_isSign cX10_isSign 2 (some .boolean) 0 ti_LM D A cy M [.ref (A 60 0), .int a] (fun r M2 => M2 = M ∧ ((r = 1 ∧ (tI M 60 25).toInt = 0 ∧ (tI M 60 23).toInt = 3 ∧ (tI M 60 24).toInt = a.toInt) ∨ r = 0)) := by
  refine ti_eI yp_X10_isSign hJ ti_LM_nd (Nat.le_of_ble_eq_true rfl) ?_
  intro p e s m args below meth c Q H0 C hQ hw ls hl
  have hx := C.1
  have hb := C.2.1
  have hl : lv_has ls 2 [(0, .ref (A 60 0)), (1, .int a)] := hl
  refine lv_aload_n hx hb dX10_isSign_0 rfl (lv_at hl 0 rfl) ?_
  refine ti_get (ci := 10) (k := 25) (N := 67) (T := TX10) C hw iw_10 rfl ob_60 (by decide) (by decide) fl_X10_208 rfl rfl dX10_isSign_1 ?_
  refine lv_topi (fun x_1 ex_1 => ?_)
  have u_2 : (tI M 60 25).toInt = x_1.toInt := by rw [ex_1]
  refine sb_if_ne (tgt := 27) hx hb rfl dX10_isSign_4 (by decide) (fun c_4_2 => ?_) (fun c_4_2 => ?_)
  · refine lv_iconst (v := 0) hx hb dX10_isSign_27 (by decide) ?_
    exact hQ _ _ _ _ _ _ hw rfl (⟨rfl, Or.inr rfl⟩) dX10_isSign_28
  · refine lv_aload_n hx hb dX10_isSign_7 rfl (lv_at hl 0 rfl) ?_
    refine ti_get (ci := 10) (k := 23) (N := 67) (T := TX10) C hw iw_10 rfl ob_60 (by decide) (by decide) fl_X10_173 rfl rfl dX10_isSign_8 ?_
    refine lv_topi (fun x_4 ex_4 => ?_)
    have u_5 : (tI M 60 23).toInt = x_4.toInt := by rw [ex_4]
    refine lv_iconst (v := 3) hx hb dX10_isSign_11 (by decide) ?_
    refine sb_icmp_ne (tgt := 27) hx hb rfl (by decide : (3 : Int32).toInt = 3) dX10_isSign_12 (by decide) (fun c_12_5 => ?_) (fun c_12_5 => ?_)
    · refine lv_iconst (v := 0) hx hb dX10_isSign_27 (by decide) ?_
      exact hQ _ _ _ _ _ _ hw rfl (⟨rfl, Or.inr rfl⟩) dX10_isSign_28
    · refine lv_aload_n hx hb dX10_isSign_15 rfl (lv_at hl 0 rfl) ?_
      refine ti_get (ci := 10) (k := 24) (N := 67) (T := TX10) C hw iw_10 rfl ob_60 (by decide) (by decide) fl_X10_183 rfl rfl dX10_isSign_16 ?_
      refine lv_topi (fun x_7 ex_7 => ?_)
      have u_8 : (tI M 60 24).toInt = x_7.toInt := by rw [ex_7]
      refine lv_iload_n hx hb dX10_isSign_19 rfl (lv_at hl 1 rfl) ?_
      refine sb_icmp_ne (tgt := 27) hx hb rfl rfl dX10_isSign_20 (by decide) (fun c_20_8 => ?_) (fun c_20_8 => ?_)
      · refine lv_iconst (v := 0) hx hb dX10_isSign_27 (by decide) ?_
        exact hQ _ _ _ _ _ _ hw rfl (⟨rfl, Or.inr rfl⟩) dX10_isSign_28
      · refine lv_iconst (v := 1) hx hb dX10_isSign_23 (by decide) ?_
        refine lv_goto (tgt := 28) hx hb dX10_isSign_24 (by decide) ?_
        exact hQ _ _ _ _ _ _ hw rfl (⟨rfl, Or.inl ⟨rfl, by omega, by omega, by omega⟩⟩) dX10_isSign_28
set_option maxHeartbeats 4000000 in
set_option maxRecDepth 100000 in
theorem s_X10_goOn (l : Launch) (D : va_G) (A : Nat → Nat → Nat) (cy : Nat → ClassId) (hJ : ti_inj ti_LM A) (M : ti_M) (hI : mI Tm M)  : ti_KvE l yX10_goOn cX10_goOn 1 6 ti_LM D A cy M [.ref (A 60 0)] (fun M2 => mI Tm M2 ∧ pr 21 24 M2 M ∧ ((tI M 60 21).toInt ≤ (tI M2 60 21).toInt) ∧ ((tI M 60 21).toInt < (tI M2 60 21).toInt ∨ (tI M2 60 23).toInt = (tI M 60 23).toInt ∨ (tI M2 60 23).toInt = 4) ∧ ((tI M 60 25).toInt = 0 ∨ (tI M2 60 25).toInt ≠ 0) ∧ ((tI M2 60 25).toInt = (tI M 60 25).toInt) ∧ ((tI M 60 25).toInt ≠ 0 ∨ (tI M 60 21).toInt < (tI M2 60 21).toInt ∨ (tI M2 60 23).toInt = 4)) := by
  refine ti_eVE yp_X10_goOn hJ ti_LM_nd (Nat.le_of_ble_eq_true rfl) ?_
  intro p e s m args below meth c Q H0 C hE hQ hw ls hl
  have hx := C.1
  have hb := C.2.1
  have hl : lv_has ls 1 [(0, .ref (A 60 0))] := hl
  refine lv_aload_n hx hb dX10_goOn_0 rfl (lv_at hl 0 rfl) ?_
  refine ti_get (ci := 10) (k := 25) (N := 67) (T := TX10) C hw iw_10 rfl ob_60 (by decide) (by decide) fl_X10_208 rfl rfl dX10_goOn_1 ?_
  refine lv_topi (fun x_1 ex_1 => ?_)
  have u_2 : (tI M 60 25).toInt = x_1.toInt := by rw [ex_1]
  refine sb_if_ne (tgt := 11) hx hb rfl dX10_goOn_4 (by decide) (fun c_4_2 => ?_) (fun c_4_2 => ?_)
  · exact hQ _ _ _ _ _ hw (⟨hI, pr.refl, (by first | omega | decide), (by first | omega | decide), (by first | omega | decide), (by first | omega | decide), (by first | omega | decide)⟩) dX10_goOn_11
  · refine lv_aload_n hx hb dX10_goOn_7 rfl (lv_at hl 0 rfl) ?_
    refine ti_callVvE (ci := 10) (av := []) C hE hw (s_X10_token l D A cy hJ M hI ) ⟨ml_X10_214, ym_X10_token, yv_X10_token, yi_X10_token, yc_X10_token⟩ yd_X10_token ob_60 (by decide) rfl rfl hl.1 (Nat.le_of_ble_eq_true rfl) ⟨by decide, by decide⟩ ⟨Nat.zero_le _, Nat.zero_le _⟩ dX10_goOn_8 (fun M_5 H locs hp_5 hw => ?_)
    obtain ⟨iM_5, q_6, p0r_4, p1r_4⟩ := hp_5
    have v_7 : (tI M_5 60 20).toInt = (tI M 60 20).toInt := by rw [q_6.2 20 (by decide)]
    have v_8 : 0 ≤ (tI M_5 60 21).toInt ∧ (tI M_5 60 21).toInt ≤ 700 := mI_rd (x := tI M_5 60 21) (k := 21) iM_5 rfl
    have v_9 : (tI M_5 60 25).toInt = (tI M 60 25).toInt := by rw [q_6.2 25 (by decide)]
    have v_10 : (tI M_5 60 29).toInt = (tI M 60 29).toInt := by rw [q_6.2 29 (by decide)]
    have v_11 : (tI M_5 60 30).toInt = (tI M 60 30).toInt := by rw [q_6.2 30 (by decide)]
    exact hQ _ _ _ _ _ hw (⟨iM_5, q_6, (by first | omega | decide), (by first | omega | decide), (by first | omega | decide), (by first | omega | decide), (by first | omega | decide)⟩) dX10_goOn_11
set_option maxHeartbeats 4000000 in
set_option maxRecDepth 100000 in
theorem s_X10_numeral (l : Launch) (D : va_G) (A : Nat → Nat → Nat) (cy : Nat → ClassId) (hJ : ti_inj ti_LM A) (M : ti_M) (hI : mI Tm M) (lo mo : Int32) (hm : lo.toInt ≤ mo.toInt) : ti_KiE l yX10_numeral cX10_numeral 4 (some .int) 6 ti_LM D A cy M [.ref (A 60 0), .int lo, .int mo] (fun r M2 => mI Tm M2 ∧ pr 21 26 M2 M ∧ ((tI M 60 21).toInt ≤ (tI M2 60 21).toInt) ∧ ((tI M 60 21).toInt < (tI M2 60 21).toInt ∨ (tI M2 60 23).toInt = (tI M 60 23).toInt ∨ (tI M2 60 23).toInt = 4) ∧ ((tI M 60 25).toInt = 0 ∨ (tI M2 60 25).toInt ≠ 0) ∧ (lo.toInt ≤ r.toInt) ∧ (r.toInt ≤ mo.toInt)) := by
  refine ti_eIE yp_X10_numeral hJ ti_LM_nd (Nat.le_of_ble_eq_true rfl) ?_
  intro p e s m args below meth c Q H0 C hE hQ hw ls hl
  have hx := C.1
  have hb := C.2.1
  have hl : lv_has ls 4 [(0, .ref (A 60 0)), (1, .int lo), (2, .int mo)] := hl
  refine lv_aload_n hx hb dX10_numeral_0 rfl (lv_at hl 0 rfl) ?_
  refine ti_get (ci := 10) (k := 25) (N := 67) (T := TX10) C hw iw_10 rfl ob_60 (by decide) (by decide) fl_X10_208 rfl rfl dX10_numeral_1 ?_
  refine lv_topi (fun x_1 ex_1 => ?_)
  have u_2 : (tI M 60 25).toInt = x_1.toInt := by rw [ex_1]
  refine sb_if_eq (tgt := 9) hx hb rfl dX10_numeral_4 (by decide) (fun c_4_2 => ?_) (fun c_4_2 => ?_)
  · refine lv_aload_n hx hb dX10_numeral_9 rfl (lv_at hl 0 rfl) ?_
    refine ti_get (ci := 10) (k := 23) (N := 67) (T := TX10) C hw iw_10 rfl ob_60 (by decide) (by decide) fl_X10_173 rfl rfl dX10_numeral_10 ?_
    refine lv_topi (fun x_4 ex_4 => ?_)
    have u_5 : (tI M 60 23).toInt = x_4.toInt := by rw [ex_4]
    refine lv_iconst (v := 2) hx hb dX10_numeral_13 (by decide) ?_
    have hj_46_34 : ∀ (M_29 : ti_M) (H : Heap) (locs : List Loc) (ls : Array Slot), (mI Tm M_29) → (pr 21 26 M_29 M) → ((tI M_29 60 25).toInt ≠ 0 ∨ (lo.toInt ≤ (tI M_29 60 24).toInt ∧ (tI M_29 60 24).toInt ≤ mo.toInt)) → ((tI M 60 21).toInt ≤ (tI M_29 60 21).toInt) → ((tI M 60 21).toInt < (tI M_29 60 21).toInt ∨ (tI M_29 60 23).toInt = (tI M 60 23).toInt ∨ (tI M_29 60 23).toInt = 4) → ((tI M 60 25).toInt = 0 ∨ (tI M_29 60 25).toInt ≠ 0) → ti_H ti_LM D A cy H0 M_29 H locs → lv_has ls 4 [(0, .ref (A 60 0)), (1, .int lo), (2, .int mo)] → W p l e (ti_rm 6) s m args below meth c H locs 0 0 Q (F0 m 46 ls []) := by
      intro M_29 H locs ls iM_29 f_30 j_31 j_32 j_33 j_34 hw hl
      have v_38 : (tI M_29 60 20).toInt = (tI M 60 20).toInt := by rw [f_30.2 20 (by decide)]
      have v_39 : 0 ≤ (tI M_29 60 21).toInt ∧ (tI M_29 60 21).toInt ≤ 700 := mI_rd (x := tI M_29 60 21) (k := 21) iM_29 rfl
      have v_40 : (tI M_29 60 29).toInt = (tI M 60 29).toInt := by rw [f_30.2 29 (by decide)]
      have v_41 : (tI M_29 60 30).toInt = (tI M 60 30).toInt := by rw [f_30.2 30 (by decide)]
      refine lv_aload_n hx hb dX10_numeral_46 rfl (lv_at hl 0 rfl) ?_
      refine ti_get (ci := 10) (k := 25) (N := 67) (T := TX10) C hw iw_10 rfl ob_60 (by decide) (by decide) fl_X10_208 rfl rfl dX10_numeral_47 ?_
      refine lv_topi (fun x_42 ex_42 => ?_)
      have u_43 : (tI M_29 60 25).toInt = x_42.toInt := by rw [ex_42]
      refine sb_if_eq (tgt := 55) hx hb rfl dX10_numeral_50 (by decide) (fun c_50_43 => ?_) (fun c_50_43 => ?_)
      · refine lv_aload_n hx hb dX10_numeral_55 rfl (lv_at hl 0 rfl) ?_
        refine ti_get (ci := 10) (k := 24) (N := 67) (T := TX10) C hw iw_10 rfl ob_60 (by decide) (by decide) fl_X10_183 rfl rfl dX10_numeral_56 ?_
        refine lv_topi (fun x_45 ex_45 => ?_)
        have u_46 : (tI M_29 60 24).toInt = x_45.toInt := by rw [ex_45]
        refine lv_istore_n (lv' := [(3, .int x_45), (0, .ref (A 60 0)), (1, .int lo), (2, .int mo)]) hx hb dX10_numeral_59 rfl hl (by decide) rfl (fun ls hl => ?_)
        refine lv_aload_n hx hb dX10_numeral_60 rfl (lv_at hl 1 rfl) ?_
        refine ti_callVvE (ci := 10) (av := []) C hE hw (s_X10_token l D A cy hJ M_29 iM_29 ) ⟨ml_X10_214, ym_X10_token, yv_X10_token, yi_X10_token, yc_X10_token⟩ yd_X10_token ob_60 (by decide) rfl rfl hl.1 (Nat.le_of_ble_eq_true rfl) ⟨by decide, by decide⟩ ⟨Nat.zero_le _, Nat.zero_le _⟩ dX10_numeral_61 (fun M_48 H locs hp_48 hw => ?_)
        obtain ⟨iM_48, q_49, p0r_47, p1r_47⟩ := hp_48
        have v_50 : (tI M_48 60 20).toInt = (tI M_29 60 20).toInt := by rw [q_49.2 20 (by decide)]
        have v_51 : 0 ≤ (tI M_48 60 21).toInt ∧ (tI M_48 60 21).toInt ≤ 700 := mI_rd (x := tI M_48 60 21) (k := 21) iM_48 rfl
        have v_52 : (tI M_48 60 25).toInt = (tI M_29 60 25).toInt := by rw [q_49.2 25 (by decide)]
        have v_53 : (tI M_48 60 29).toInt = (tI M_29 60 29).toInt := by rw [q_49.2 29 (by decide)]
        have v_54 : (tI M_48 60 30).toInt = (tI M_29 60 30).toInt := by rw [q_49.2 30 (by decide)]
        refine lv_iload_n hx hb dX10_numeral_64 rfl (lv_at hl 0 rfl) ?_
        exact hQ _ _ _ _ _ _ hw rfl (⟨iM_48, (pr.trans (pr_w q_49 (by decide) (by decide)) f_30), (by first | omega | decide), (by first | omega | decide), (by first | omega | decide), (by first | omega | decide), (by first | omega | decide)⟩) dX10_numeral_65
      · refine lv_iload_n hx hb dX10_numeral_53 rfl (lv_at hl 1 rfl) ?_
        exact hQ _ _ _ _ _ _ hw rfl (⟨iM_29, f_30, (by first | omega | decide), (by first | omega | decide), (by first | omega | decide), (by first | omega | decide), (by first | omega | decide)⟩) dX10_numeral_54
    refine sb_icmp_eq (tgt := 25) hx hb rfl (by decide : (2 : Int32).toInt = 2) dX10_numeral_14 (by decide) (fun c_14_5 => ?_) (fun c_14_5 => ?_)
    · refine lv_aload_n hx hb dX10_numeral_25 rfl (lv_at hl 0 rfl) ?_
      refine ti_get (ci := 10) (k := 24) (N := 67) (T := TX10) C hw iw_10 rfl ob_60 (by decide) (by decide) fl_X10_183 rfl rfl dX10_numeral_26 ?_
      refine lv_topi (fun x_16 ex_16 => ?_)
      have u_17 : (tI M 60 24).toInt = x_16.toInt := by rw [ex_16]
      refine lv_iload_n hx hb dX10_numeral_29 rfl (lv_at hl 1 rfl) ?_
      have hj_41_19 : ∀  (H : Heap) (locs : List Loc) (ls : Array Slot), ti_H ti_LM D A cy H0 M H locs → lv_has ls 4 [(0, .ref (A 60 0)), (1, .int lo), (2, .int mo)] → W p l e (ti_rm 6) s m args below meth c H locs 0 0 Q (F0 m 41 ls []) := by
        intro  H locs ls  hw hl
        refine lv_aload_n hx hb dX10_numeral_41 rfl (lv_at hl 0 rfl) ?_
        refine lv_iconst (v := 2) hx hb dX10_numeral_42 (by decide) ?_
        refine ti_callVv (ci := 10) (av := [.int 2]) C hw (s_X10_wrong l D A cy hJ M hI 2 (by decide)) ⟨ml_X10_217, ym_X10_wrong, yv_X10_wrong, yi_X10_wrong, yc_X10_wrong⟩ yd_X10_wrong ob_60 (by decide) rfl rfl hl.1 (Nat.le_of_ble_eq_true rfl) ⟨by decide, by decide⟩ ⟨Nat.zero_le _, Nat.zero_le _⟩ dX10_numeral_43 (fun M_21 H locs hp_21 hw => ?_)
        obtain ⟨iM_21, q_22, p0r_20, p1r_20, p2r_20, p3r_20⟩ := hp_21
        have v_23 : (tI M_21 60 20).toInt = (tI M 60 20).toInt := by rw [q_22.2 20 (by decide)]
        have v_24 : (tI M_21 60 21).toInt = (tI M 60 21).toInt := by rw [q_22.2 21 (by decide)]
        have v_25 : (tI M_21 60 23).toInt = (tI M 60 23).toInt := by rw [q_22.2 23 (by decide)]
        have v_26 : (tI M_21 60 24).toInt = (tI M 60 24).toInt := by rw [q_22.2 24 (by decide)]
        have v_27 : (tI M_21 60 29).toInt = (tI M 60 29).toInt := by rw [q_22.2 29 (by decide)]
        have v_28 : (tI M_21 60 30).toInt = (tI M 60 30).toInt := by rw [q_22.2 30 (by decide)]
        have u_37 : (tI M_21 60 24).toInt = (x_16 : Int32).toInt := by rw [((q_22.2 24 (by decide)).trans ex_16.symm)]
        exact hj_46_34 M_21 _ _ _ iM_21 (pr_w q_22 (by decide) (by decide)) (by first | omega | decide) (by first | omega | decide) (by first | omega | decide) (by first | omega | decide) hw (lv_sub hl [0, 1, 2] rfl)
      refine sb_icmp_lt (tgt := 41) hx hb rfl rfl dX10_numeral_30 (by decide) (fun c_30_17 => ?_) (fun c_30_17 => ?_)
      · exact hj_41_19  _ _ _  hw (lv_sub hl [0, 1, 2] rfl)
      · refine lv_aload_n hx hb dX10_numeral_33 rfl (lv_at hl 0 rfl) ?_
        refine ti_get (ci := 10) (k := 24) (N := 67) (T := TX10) C hw iw_10 rfl ob_60 (by decide) (by decide) fl_X10_183 rfl rfl dX10_numeral_34 ?_
        refine ti_top (y := x_16) (ex_16.symm) ?_
        refine lv_iload_n hx hb dX10_numeral_37 rfl (lv_at hl 2 rfl) ?_
        refine sb_icmp_le (tgt := 46) hx hb rfl rfl dX10_numeral_38 (by decide) (fun c_38_18 => ?_) (fun c_38_18 => ?_)
        · have u_35 : (tI M 60 24).toInt = (x_16 : Int32).toInt := by rw [(ex_16.symm)]
          have u_36 : (tI M 60 25).toInt = (x_1 : Int32).toInt := by rw [(ex_1.symm)]
          exact hj_46_34 M _ _ _ hI pr.refl (by first | omega | decide) (by first | omega | decide) (by first | omega | decide) (by first | omega | decide) hw (lv_sub hl [0, 1, 2] rfl)
        · exact hj_41_19  _ _ _  hw (lv_sub hl [0, 1, 2] rfl)
    · refine lv_aload_n hx hb dX10_numeral_17 rfl (lv_at hl 0 rfl) ?_
      refine lv_iconst (v := 1) hx hb dX10_numeral_18 (by decide) ?_
      refine ti_callVv (ci := 10) (av := [.int 1]) C hw (s_X10_wrong l D A cy hJ M hI 1 (by decide)) ⟨ml_X10_217, ym_X10_wrong, yv_X10_wrong, yi_X10_wrong, yc_X10_wrong⟩ yd_X10_wrong ob_60 (by decide) rfl rfl hl.1 (Nat.le_of_ble_eq_true rfl) ⟨by decide, by decide⟩ ⟨Nat.zero_le _, Nat.zero_le _⟩ dX10_numeral_19 (fun M_8 H locs hp_8 hw => ?_)
      obtain ⟨iM_8, q_9, p0r_7, p1r_7, p2r_7, p3r_7⟩ := hp_8
      have v_10 : (tI M_8 60 20).toInt = (tI M 60 20).toInt := by rw [q_9.2 20 (by decide)]
      have v_11 : (tI M_8 60 21).toInt = (tI M 60 21).toInt := by rw [q_9.2 21 (by decide)]
      have v_12 : (tI M_8 60 23).toInt = (tI M 60 23).toInt := by rw [q_9.2 23 (by decide)]
      have v_13 : (tI M_8 60 24).toInt = (tI M 60 24).toInt := by rw [q_9.2 24 (by decide)]
      have v_14 : (tI M_8 60 29).toInt = (tI M 60 29).toInt := by rw [q_9.2 29 (by decide)]
      have v_15 : (tI M_8 60 30).toInt = (tI M 60 30).toInt := by rw [q_9.2 30 (by decide)]
      refine lv_goto (tgt := 46) hx hb dX10_numeral_22 (by decide) ?_
      exact hj_46_34 M_8 _ _ _ iM_8 (pr_w q_9 (by decide) (by decide)) (by first | omega | decide) (by first | omega | decide) (by first | omega | decide) (by first | omega | decide) hw (lv_sub hl [0, 1, 2] rfl)
  · refine lv_iload_n hx hb dX10_numeral_7 rfl (lv_at hl 1 rfl) ?_
    exact hQ _ _ _ _ _ _ hw rfl (⟨hI, pr.refl, (by first | omega | decide), (by first | omega | decide), (by first | omega | decide), (by first | omega | decide), (by first | omega | decide)⟩) dX10_numeral_8
set_option maxHeartbeats 4000000 in
set_option maxRecDepth 100000 in
theorem s_X10_fresh (l : Launch) (D : va_G) (A : Nat → Nat → Nat) (cy : Nat → ClassId) (hJ : ti_inj ti_LM A) (M : ti_M) (hI : mI Tm M) (n : Int32) (h1 : 0 ≤ n.toInt) (h2 : n.toInt ≤ 8) : ti_KiE l yX10_fresh cX10_fresh 5 (some .int) 6 ti_LM D A cy M [.ref (A 60 0), .ref (A 60 5), .int 8, .int n] (fun r M2 => mI Tm M2 ∧ pr 21 26 M2 M ∧ ((tI M 60 21).toInt ≤ (tI M2 60 21).toInt) ∧ ((tI M 60 21).toInt < (tI M2 60 21).toInt ∨ (tI M2 60 23).toInt = (tI M 60 23).toInt ∨ (tI M2 60 23).toInt = 4) ∧ ((tI M 60 25).toInt = 0 ∨ (tI M2 60 25).toInt ≠ 0)) := by
  refine ti_eIE yp_X10_fresh hJ ti_LM_nd (Nat.le_of_ble_eq_true rfl) ?_
  intro p e s m args below meth c Q H0 C hE hQ hw ls hl
  have hx := C.1
  have hb := C.2.1
  have hl : lv_has ls 5 [(0, .ref (A 60 0)), (1, .ref (A 60 5)), (2, .int 8), (3, .int n)] := hl
  refine lv_aload_n hx hb dX10_fresh_0 rfl (lv_at hl 0 rfl) ?_
  refine ti_get (ci := 10) (k := 25) (N := 67) (T := TX10) C hw iw_10 rfl ob_60 (by decide) (by decide) fl_X10_208 rfl rfl dX10_fresh_1 ?_
  refine lv_topi (fun x_1 ex_1 => ?_)
  have u_2 : (tI M 60 25).toInt = x_1.toInt := by rw [ex_1]
  refine sb_if_eq (tgt := 9) hx hb rfl dX10_fresh_4 (by decide) (fun c_4_2 => ?_) (fun c_4_2 => ?_)
  · refine lv_aload_n hx hb dX10_fresh_9 rfl (lv_at hl 0 rfl) ?_
    refine ti_get (ci := 10) (k := 23) (N := 67) (T := TX10) C hw iw_10 rfl ob_60 (by decide) (by decide) fl_X10_173 rfl rfl dX10_fresh_10 ?_
    refine lv_topi (fun x_4 ex_4 => ?_)
    have u_5 : (tI M 60 23).toInt = x_4.toInt := by rw [ex_4]
    refine lv_iconst (v := 1) hx hb dX10_fresh_13 (by decide) ?_
    have hj_44_34 : ∀ (M_30 : ti_M) (H : Heap) (locs : List Loc) (ls : Array Slot), (mI Tm M_30) → (pr 21 26 M_30 M) → ((tI M 60 21).toInt ≤ (tI M_30 60 21).toInt) → ((tI M 60 21).toInt < (tI M_30 60 21).toInt ∨ (tI M_30 60 23).toInt = (tI M 60 23).toInt ∨ (tI M_30 60 23).toInt = 4) → ((tI M 60 25).toInt = 0 ∨ (tI M_30 60 25).toInt ≠ 0) → ti_H ti_LM D A cy H0 M_30 H locs → lv_has ls 5 [(0, .ref (A 60 0)), (1, .ref (A 60 5)), (2, .int 8), (3, .int n)] → W p l e (ti_rm 6) s m args below meth c H locs 0 0 Q (F0 m 44 ls []) := by
      intro M_30 H locs ls iM_30 f_31 j_32 j_33 j_34 hw hl
      have v_35 : (tI M_30 60 20).toInt = (tI M 60 20).toInt := by rw [f_31.2 20 (by decide)]
      have v_36 : 0 ≤ (tI M_30 60 21).toInt ∧ (tI M_30 60 21).toInt ≤ 700 := mI_rd (x := tI M_30 60 21) (k := 21) iM_30 rfl
      have v_37 : (tI M_30 60 29).toInt = (tI M 60 29).toInt := by rw [f_31.2 29 (by decide)]
      have v_38 : (tI M_30 60 30).toInt = (tI M 60 30).toInt := by rw [f_31.2 30 (by decide)]
      refine lv_aload_n hx hb dX10_fresh_44 rfl (lv_at hl 0 rfl) ?_
      refine ti_get (ci := 10) (k := 25) (N := 67) (T := TX10) C hw iw_10 rfl ob_60 (by decide) (by decide) fl_X10_208 rfl rfl dX10_fresh_45 ?_
      refine lv_topi (fun x_39 ex_39 => ?_)
      have u_40 : (tI M_30 60 25).toInt = x_39.toInt := by rw [ex_39]
      refine sb_if_eq (tgt := 53) hx hb rfl dX10_fresh_48 (by decide) (fun c_48_40 => ?_) (fun c_48_40 => ?_)
      · refine lv_aload_n hx hb dX10_fresh_53 rfl (lv_at hl 0 rfl) ?_
        refine ti_get (ci := 10) (k := 24) (N := 67) (T := TX10) C hw iw_10 rfl ob_60 (by decide) (by decide) fl_X10_183 rfl rfl dX10_fresh_54 ?_
        refine lv_topi (fun x_42 ex_42 => ?_)
        have u_43 : (tI M_30 60 24).toInt = x_42.toInt := by rw [ex_42]
        refine lv_istore (lv' := [(4, .int x_42), (0, .ref (A 60 0)), (1, .ref (A 60 5)), (2, .int 8), (3, .int n)]) hx hb dX10_fresh_57 hl (by decide) rfl (fun ls hl => ?_)
        refine lv_aload_n hx hb dX10_fresh_59 rfl (lv_at hl 1 rfl) ?_
        refine ti_callVvE (ci := 10) (av := []) C hE hw (s_X10_token l D A cy hJ M_30 iM_30 ) ⟨ml_X10_214, ym_X10_token, yv_X10_token, yi_X10_token, yc_X10_token⟩ yd_X10_token ob_60 (by decide) rfl rfl hl.1 (Nat.le_of_ble_eq_true rfl) ⟨by decide, by decide⟩ ⟨Nat.zero_le _, Nat.zero_le _⟩ dX10_fresh_60 (fun M_45 H locs hp_45 hw => ?_)
        obtain ⟨iM_45, q_46, p0r_44, p1r_44⟩ := hp_45
        have v_47 : (tI M_45 60 20).toInt = (tI M_30 60 20).toInt := by rw [q_46.2 20 (by decide)]
        have v_48 : 0 ≤ (tI M_45 60 21).toInt ∧ (tI M_45 60 21).toInt ≤ 700 := mI_rd (x := tI M_45 60 21) (k := 21) iM_45 rfl
        have v_49 : (tI M_45 60 25).toInt = (tI M_30 60 25).toInt := by rw [q_46.2 25 (by decide)]
        have v_50 : (tI M_45 60 29).toInt = (tI M_30 60 29).toInt := by rw [q_46.2 29 (by decide)]
        have v_51 : (tI M_45 60 30).toInt = (tI M_30 60 30).toInt := by rw [q_46.2 30 (by decide)]
        refine lv_iload hx hb dX10_fresh_63 (lv_at hl 0 rfl) ?_
        exact hQ _ _ _ _ _ _ hw rfl (⟨iM_45, (pr.trans (pr_w q_46 (by decide) (by decide)) f_31), (by first | omega | decide), (by first | omega | decide), (by first | omega | decide)⟩) dX10_fresh_65
      · refine lv_iconst (v := 0) hx hb dX10_fresh_51 (by decide) ?_
        exact hQ _ _ _ _ _ _ hw rfl (⟨iM_30, f_31, (by first | omega | decide), (by first | omega | decide), (by first | omega | decide)⟩) dX10_fresh_52
    refine sb_icmp_eq (tgt := 25) hx hb rfl (by decide : (1 : Int32).toInt = 1) dX10_fresh_14 (by decide) (fun c_14_5 => ?_) (fun c_14_5 => ?_)
    · refine lv_aload_n hx hb dX10_fresh_25 rfl (lv_at hl 1 rfl) ?_
      refine lv_iload_n hx hb dX10_fresh_26 rfl (lv_at hl 2 rfl) ?_
      refine lv_iload_n hx hb dX10_fresh_27 rfl (lv_at hl 3 rfl) ?_
      refine lv_aload_n hx hb dX10_fresh_28 rfl (lv_at hl 0 rfl) ?_
      refine ti_get (ci := 10) (k := 24) (N := 67) (T := TX10) C hw iw_10 rfl ob_60 (by decide) (by decide) fl_X10_183 rfl rfl dX10_fresh_29 ?_
      refine lv_topi (fun x_16 ex_16 => ?_)
      have u_17 : (tI M 60 24).toInt = x_16.toInt := by rw [ex_16]
      refine ti_callSi (av := [.ref (A 60 5), .int 8, .int n, .int x_16]) C hw (s_X10_found_8 l D A cy hJ M hI n x_16 (by first | omega | decide) (by first | omega | decide)) ⟨ml_X10_220, ys_X10_found, yi_X10_found, yc_X10_found⟩ yd_X10_found rfl hl.1 (Nat.le_of_ble_eq_true rfl) ⟨by decide, by decide⟩ ⟨Nat.zero_le _, Nat.zero_le _⟩ dX10_fresh_32 (fun r_18 M_19 H locs hp_19 hw => ?_)
      obtain ⟨hm, b0r_18, b1r_18⟩ := hp_19
      have hw := hw.to hm
      refine lv_iconst (v := (-1)) hx hb dX10_fresh_35 (by decide) ?_
      refine sb_icmp_eq (tgt := 44) hx hb rfl (by decide : ((-1) : Int32).toInt = (-1)) dX10_fresh_36 (by decide) (fun c_36_19 => ?_) (fun c_36_19 => ?_)
      · exact hj_44_34 M _ _ _ hI pr.refl (by first | omega | decide) (by first | omega | decide) (by first | omega | decide) hw (lv_sub hl [0, 1, 2, 3] rfl)
      · refine lv_aload_n hx hb dX10_fresh_39 rfl (lv_at hl 0 rfl) ?_
        refine lv_iconst (v := 3) hx hb dX10_fresh_40 (by decide) ?_
        refine ti_callVv (ci := 10) (av := [.int 3]) C hw (s_X10_wrong l D A cy hJ M hI 3 (by decide)) ⟨ml_X10_217, ym_X10_wrong, yv_X10_wrong, yi_X10_wrong, yc_X10_wrong⟩ yd_X10_wrong ob_60 (by decide) rfl rfl hl.1 (Nat.le_of_ble_eq_true rfl) ⟨by decide, by decide⟩ ⟨Nat.zero_le _, Nat.zero_le _⟩ dX10_fresh_41 (fun M_22 H locs hp_22 hw => ?_)
        obtain ⟨iM_22, q_23, p0r_21, p1r_21, p2r_21, p3r_21⟩ := hp_22
        have v_24 : (tI M_22 60 20).toInt = (tI M 60 20).toInt := by rw [q_23.2 20 (by decide)]
        have v_25 : (tI M_22 60 21).toInt = (tI M 60 21).toInt := by rw [q_23.2 21 (by decide)]
        have v_26 : (tI M_22 60 23).toInt = (tI M 60 23).toInt := by rw [q_23.2 23 (by decide)]
        have v_27 : (tI M_22 60 24).toInt = (tI M 60 24).toInt := by rw [q_23.2 24 (by decide)]
        have v_28 : (tI M_22 60 29).toInt = (tI M 60 29).toInt := by rw [q_23.2 29 (by decide)]
        have v_29 : (tI M_22 60 30).toInt = (tI M 60 30).toInt := by rw [q_23.2 30 (by decide)]
        exact hj_44_34 M_22 _ _ _ iM_22 (pr_w q_23 (by decide) (by decide)) (by first | omega | decide) (by first | omega | decide) (by first | omega | decide) hw (lv_sub hl [0, 1, 2, 3] rfl)
    · refine lv_aload_n hx hb dX10_fresh_17 rfl (lv_at hl 0 rfl) ?_
      refine lv_iconst (v := 1) hx hb dX10_fresh_18 (by decide) ?_
      refine ti_callVv (ci := 10) (av := [.int 1]) C hw (s_X10_wrong l D A cy hJ M hI 1 (by decide)) ⟨ml_X10_217, ym_X10_wrong, yv_X10_wrong, yi_X10_wrong, yc_X10_wrong⟩ yd_X10_wrong ob_60 (by decide) rfl rfl hl.1 (Nat.le_of_ble_eq_true rfl) ⟨by decide, by decide⟩ ⟨Nat.zero_le _, Nat.zero_le _⟩ dX10_fresh_19 (fun M_8 H locs hp_8 hw => ?_)
      obtain ⟨iM_8, q_9, p0r_7, p1r_7, p2r_7, p3r_7⟩ := hp_8
      have v_10 : (tI M_8 60 20).toInt = (tI M 60 20).toInt := by rw [q_9.2 20 (by decide)]
      have v_11 : (tI M_8 60 21).toInt = (tI M 60 21).toInt := by rw [q_9.2 21 (by decide)]
      have v_12 : (tI M_8 60 23).toInt = (tI M 60 23).toInt := by rw [q_9.2 23 (by decide)]
      have v_13 : (tI M_8 60 24).toInt = (tI M 60 24).toInt := by rw [q_9.2 24 (by decide)]
      have v_14 : (tI M_8 60 29).toInt = (tI M 60 29).toInt := by rw [q_9.2 29 (by decide)]
      have v_15 : (tI M_8 60 30).toInt = (tI M 60 30).toInt := by rw [q_9.2 30 (by decide)]
      refine lv_goto (tgt := 44) hx hb dX10_fresh_22 (by decide) ?_
      exact hj_44_34 M_8 _ _ _ iM_8 (pr_w q_9 (by decide) (by decide)) (by first | omega | decide) (by first | omega | decide) (by first | omega | decide) hw (lv_sub hl [0, 1, 2, 3] rfl)
  · refine lv_iconst (v := 0) hx hb dX10_fresh_7 (by decide) ?_
    exact hQ _ _ _ _ _ _ hw rfl (⟨hI, pr.refl, (by first | omega | decide), (by first | omega | decide), (by first | omega | decide)⟩) dX10_fresh_8
set_option maxHeartbeats 4000000 in
set_option maxRecDepth 100000 in
theorem s_X10_fresher_0 (l : Launch) (D : va_G) (A : Nat → Nat → Nat) (cy : Nat → ClassId) (hJ : ti_inj ti_LM A) (M : ti_M) (hI : mI Tm M)  : ti_Ki l yX10_fresher cX10_fresher 2 (some .int) 0 ti_LM D A cy M [.ref (A 60 0), .int 0] (fun r M2 => M2 = M ∧ 0 ≤ r.toInt ∧ r.toInt ≤ 8 ∧ tY M 60 3 11 = r) := by
  refine ti_eI yp_X10_fresher hJ ti_LM_nd (Nat.le_of_ble_eq_true rfl) ?_
  intro p e s m args below meth c Q H0 C hQ hw ls hl
  have hx := C.1
  have hb := C.2.1
  have hl : lv_has ls 2 [(0, .ref (A 60 0)), (1, .int 0)] := hl
  refine lv_aload_n hx hb dX10_fresher_0 rfl (lv_at hl 0 rfl) ?_
  refine ti_get (ci := 10) (k := 3) (N := 67) (T := TX10) (v := .ref (A 60 4)) C hw iw_10 rfl ob_60 (by decide) (by decide) fl_X10_13 rfl rfl dX10_fresher_1 ?_
  refine lv_bipush (v := 11) hx hb dX10_fresher_4 (by decide) ?_
  refine lv_iload_n hx hb dX10_fresher_6 rfl (lv_at hl 1 rfl) ?_
  refine lv_iadd hx hb dX10_fresher_7 ?_
  refine ti_top (y := 11) (by decide) ?_
  refine ti_iald (ci := 10) (k := 3) (n := 22) C hw ob_60 (by decide) (fun _ _ => rfl) (by unfold vp_in; decide) dX10_fresher_8 ?_
  refine lv_topi (fun x_1 ex_1 => ?_)
  have yx_1 : tY M 60 3 11 = x_1 := ((congrArg _ (by decide)).symm.trans ex_1.symm)
  have bx_1 : 0 ≤ x_1.toInt ∧ x_1.toInt ≤ 8 := mI_rn (i := 11) hI yx_1.symm (fun _ h => h)
  have zx_1 : (tY M 60 3 11).toInt = x_1.toInt := by rw [yx_1]
  exact hQ _ _ _ _ _ _ hw rfl (⟨rfl, by omega, by omega, (yx_1)⟩) dX10_fresher_9
set_option maxHeartbeats 4000000 in
set_option maxRecDepth 100000 in
theorem s_X10_fresher_7 (l : Launch) (D : va_G) (A : Nat → Nat → Nat) (cy : Nat → ClassId) (hJ : ti_inj ti_LM A) (M : ti_M) (hI : mI Tm M)  : ti_Ki l yX10_fresher cX10_fresher 2 (some .int) 0 ti_LM D A cy M [.ref (A 60 0), .int 7] (fun r M2 => M2 = M ∧ 0 ≤ r.toInt ∧ r.toInt ≤ 64 ∧ tY M 60 3 18 = r) := by
  refine ti_eI yp_X10_fresher hJ ti_LM_nd (Nat.le_of_ble_eq_true rfl) ?_
  intro p e s m args below meth c Q H0 C hQ hw ls hl
  have hx := C.1
  have hb := C.2.1
  have hl : lv_has ls 2 [(0, .ref (A 60 0)), (1, .int 7)] := hl
  refine lv_aload_n hx hb dX10_fresher_0 rfl (lv_at hl 0 rfl) ?_
  refine ti_get (ci := 10) (k := 3) (N := 67) (T := TX10) (v := .ref (A 60 4)) C hw iw_10 rfl ob_60 (by decide) (by decide) fl_X10_13 rfl rfl dX10_fresher_1 ?_
  refine lv_bipush (v := 11) hx hb dX10_fresher_4 (by decide) ?_
  refine lv_iload_n hx hb dX10_fresher_6 rfl (lv_at hl 1 rfl) ?_
  refine lv_iadd hx hb dX10_fresher_7 ?_
  refine ti_top (y := 18) (by decide) ?_
  refine ti_iald (ci := 10) (k := 3) (n := 22) C hw ob_60 (by decide) (fun _ _ => rfl) (by unfold vp_in; decide) dX10_fresher_8 ?_
  refine lv_topi (fun x_1 ex_1 => ?_)
  have yx_1 : tY M 60 3 18 = x_1 := ((congrArg _ (by decide)).symm.trans ex_1.symm)
  have bx_1 : 0 ≤ x_1.toInt ∧ x_1.toInt ≤ 64 := mI_rn (i := 18) hI yx_1.symm (fun _ h => h)
  have zx_1 : (tY M 60 3 18).toInt = x_1.toInt := by rw [yx_1]
  exact hQ _ _ _ _ _ _ hw rfl (⟨rfl, by omega, by omega, (yx_1)⟩) dX10_fresher_9
set_option maxHeartbeats 4000000 in
set_option maxRecDepth 100000 in
theorem s_X10_manAtHand (l : Launch) (D : va_G) (A : Nat → Nat → Nat) (cy : Nat → ClassId) (hJ : ti_inj ti_LM A) (M : ti_M) (hI : mI Tm M)  : ti_Ki l yX10_manAtHand cX10_manAtHand 1 (some .int) 1 ti_LM D A cy M [.ref (A 60 0)] (fun r M2 => mI Tm M2 ∧ pr 25 26 M2 M ∧ ((tI M 60 21).toInt ≤ (tI M2 60 21).toInt) ∧ ((tI M 60 21).toInt < (tI M2 60 21).toInt ∨ (tI M2 60 23).toInt = (tI M 60 23).toInt ∨ (tI M2 60 23).toInt = 4) ∧ ((tI M 60 25).toInt = 0 ∨ (tI M2 60 25).toInt ≠ 0) ∧ (-1 ≤ r.toInt) ∧ (r.toInt ≤ 7)) := by
  refine ti_eI yp_X10_manAtHand hJ ti_LM_nd (Nat.le_of_ble_eq_true rfl) ?_
  intro p e s m args below meth c Q H0 C hQ hw ls hl
  have hx := C.1
  have hb := C.2.1
  have hl : lv_has ls 1 [(0, .ref (A 60 0))] := hl
  refine lv_aload_n hx hb dX10_manAtHand_0 rfl (lv_at hl 0 rfl) ?_
  refine ti_get (ci := 10) (k := 25) (N := 67) (T := TX10) C hw iw_10 rfl ob_60 (by decide) (by decide) fl_X10_208 rfl rfl dX10_manAtHand_1 ?_
  refine lv_topi (fun x_1 ex_1 => ?_)
  have u_2 : (tI M 60 25).toInt = x_1.toInt := by rw [ex_1]
  refine sb_if_eq (tgt := 9) hx hb rfl dX10_manAtHand_4 (by decide) (fun c_4_2 => ?_) (fun c_4_2 => ?_)
  · refine lv_aload_n hx hb dX10_manAtHand_9 rfl (lv_at hl 0 rfl) ?_
    refine ti_get (ci := 10) (k := 23) (N := 67) (T := TX10) C hw iw_10 rfl ob_60 (by decide) (by decide) fl_X10_173 rfl rfl dX10_manAtHand_10 ?_
    refine lv_topi (fun x_4 ex_4 => ?_)
    have u_5 : (tI M 60 23).toInt = x_4.toInt := by rw [ex_4]
    refine lv_iconst (v := 1) hx hb dX10_manAtHand_13 (by decide) ?_
    have hj_52_36 : ∀ (M_32 : ti_M) (H : Heap) (locs : List Loc) (ls : Array Slot), (mI Tm M_32) → (pr 25 26 M_32 M) → ((tI M 60 21).toInt ≤ (tI M_32 60 21).toInt) → ((tI M 60 21).toInt < (tI M_32 60 21).toInt ∨ (tI M_32 60 23).toInt = (tI M 60 23).toInt ∨ (tI M_32 60 23).toInt = 4) → ((tI M 60 25).toInt = 0 ∨ (tI M_32 60 25).toInt ≠ 0) → ti_H ti_LM D A cy H0 M_32 H locs → lv_has ls 1 [(0, .ref (A 60 0))] → W p l e (ti_rm 1) s m args below meth c H locs 0 0 Q (F0 m 52 ls []) := by
      intro M_32 H locs ls iM_32 f_33 j_34 j_35 j_36 hw hl
      have v_37 : (tI M_32 60 20).toInt = (tI M 60 20).toInt := by rw [f_33.2 20 (by decide)]
      have v_38 : (tI M_32 60 21).toInt = (tI M 60 21).toInt := by rw [f_33.2 21 (by decide)]
      have v_39 : (tI M_32 60 23).toInt = (tI M 60 23).toInt := by rw [f_33.2 23 (by decide)]
      have v_40 : (tI M_32 60 24).toInt = (tI M 60 24).toInt := by rw [f_33.2 24 (by decide)]
      have v_41 : (tI M_32 60 29).toInt = (tI M 60 29).toInt := by rw [f_33.2 29 (by decide)]
      have v_42 : (tI M_32 60 30).toInt = (tI M 60 30).toInt := by rw [f_33.2 30 (by decide)]
      refine lv_aload_n hx hb dX10_manAtHand_52 rfl (lv_at hl 0 rfl) ?_
      refine ti_get (ci := 10) (k := 25) (N := 67) (T := TX10) C hw iw_10 rfl ob_60 (by decide) (by decide) fl_X10_208 rfl rfl dX10_manAtHand_53 ?_
      refine lv_topi (fun x_43 ex_43 => ?_)
      have u_44 : (tI M_32 60 25).toInt = x_43.toInt := by rw [ex_43]
      refine sb_if_eq (tgt := 63) hx hb rfl dX10_manAtHand_56 (by decide) (fun c_56_44 => ?_) (fun c_56_44 => ?_)
      · refine lv_aload_n hx hb dX10_manAtHand_63 rfl (lv_at hl 0 rfl) ?_
        refine ti_get (ci := 10) (k := 4) (N := 67) (T := TX10) (v := .ref (A 60 5)) C hw iw_10 rfl ob_60 (by decide) (by decide) fl_X10_16 rfl rfl dX10_manAtHand_64 ?_
        refine lv_bipush (v := 8) hx hb dX10_manAtHand_67 (by decide) ?_
        refine lv_aload_n hx hb dX10_manAtHand_69 rfl (lv_at hl 0 rfl) ?_
        refine lv_iconst (v := 0) hx hb dX10_manAtHand_70 (by decide) ?_
        refine ti_callVi (ci := 10) (av := [.int 0]) C hw (s_X10_fresher_0 l D A cy hJ M_32 iM_32 ) ⟨ml_X10_224, ym_X10_fresher, yv_X10_fresher, yi_X10_fresher, yc_X10_fresher⟩ yd_X10_fresher ob_60 (by decide) rfl rfl hl.1 (Nat.le_of_ble_eq_true rfl) ⟨by decide, by decide⟩ ⟨Nat.zero_le _, Nat.zero_le _⟩ dX10_manAtHand_71 (fun r_46 M_47 H locs hp_47 hw => ?_)
        obtain ⟨hm, b0r_46, b1r_46, yr_46⟩ := hp_47
        have hw := hw.to hm
        have zr_46 : (tY M_32 60 3 11).toInt = r_46.toInt := by rw [yr_46]
        refine lv_aload_n hx hb dX10_manAtHand_74 rfl (lv_at hl 0 rfl) ?_
        refine ti_get (ci := 10) (k := 24) (N := 67) (T := TX10) C hw iw_10 rfl ob_60 (by decide) (by decide) fl_X10_183 rfl rfl dX10_manAtHand_75 ?_
        refine lv_topi (fun x_48 ex_48 => ?_)
        have u_49 : (tI M_32 60 24).toInt = x_48.toInt := by rw [ex_48]
        refine ti_callSi (av := [.ref (A 60 5), .int 8, .int r_46, .int x_48]) C hw (s_X10_found_8 l D A cy hJ M_32 iM_32 r_46 x_48 (by first | omega | decide) (by first | omega | decide)) ⟨ml_X10_220, ys_X10_found, yi_X10_found, yc_X10_found⟩ yd_X10_found rfl hl.1 (Nat.le_of_ble_eq_true rfl) ⟨by decide, by decide⟩ ⟨Nat.zero_le _, Nat.zero_le _⟩ dX10_manAtHand_78 (fun r_50 M_51 H locs hp_51 hw => ?_)
        obtain ⟨hm, b0r_50, b1r_50⟩ := hp_51
        have hw := hw.to hm
        exact hQ _ _ _ _ _ _ hw rfl (⟨iM_32, f_33, (by first | omega | decide), (by first | omega | decide), (by first | omega | decide), (by first | omega | decide), (by first | omega | decide)⟩) dX10_manAtHand_81
      · refine lv_iconst (v := 0) hx hb dX10_manAtHand_59 (by decide) ?_
        refine lv_goto (tgt := 81) hx hb dX10_manAtHand_60 (by decide) ?_
        exact hQ _ _ _ _ _ _ hw rfl (⟨iM_32, f_33, (by first | omega | decide), (by first | omega | decide), (by first | omega | decide), (by first | omega | decide), (by first | omega | decide)⟩) dX10_manAtHand_81
    refine sb_icmp_eq (tgt := 25) hx hb rfl (by decide : (1 : Int32).toInt = 1) dX10_manAtHand_14 (by decide) (fun c_14_5 => ?_) (fun c_14_5 => ?_)
    · refine lv_aload_n hx hb dX10_manAtHand_25 rfl (lv_at hl 0 rfl) ?_
      refine ti_get (ci := 10) (k := 4) (N := 67) (T := TX10) (v := .ref (A 60 5)) C hw iw_10 rfl ob_60 (by decide) (by decide) fl_X10_16 rfl rfl dX10_manAtHand_26 ?_
      refine lv_bipush (v := 8) hx hb dX10_manAtHand_29 (by decide) ?_
      refine lv_aload_n hx hb dX10_manAtHand_31 rfl (lv_at hl 0 rfl) ?_
      refine lv_iconst (v := 0) hx hb dX10_manAtHand_32 (by decide) ?_
      refine ti_callVi (ci := 10) (av := [.int 0]) C hw (s_X10_fresher_0 l D A cy hJ M hI ) ⟨ml_X10_224, ym_X10_fresher, yv_X10_fresher, yi_X10_fresher, yc_X10_fresher⟩ yd_X10_fresher ob_60 (by decide) rfl rfl hl.1 (Nat.le_of_ble_eq_true rfl) ⟨by decide, by decide⟩ ⟨Nat.zero_le _, Nat.zero_le _⟩ dX10_manAtHand_33 (fun r_16 M_17 H locs hp_17 hw => ?_)
      obtain ⟨hm, b0r_16, b1r_16, yr_16⟩ := hp_17
      have hw := hw.to hm
      have zr_16 : (tY M 60 3 11).toInt = r_16.toInt := by rw [yr_16]
      refine lv_aload_n hx hb dX10_manAtHand_36 rfl (lv_at hl 0 rfl) ?_
      refine ti_get (ci := 10) (k := 24) (N := 67) (T := TX10) C hw iw_10 rfl ob_60 (by decide) (by decide) fl_X10_183 rfl rfl dX10_manAtHand_37 ?_
      refine lv_topi (fun x_18 ex_18 => ?_)
      have u_19 : (tI M 60 24).toInt = x_18.toInt := by rw [ex_18]
      refine ti_callSi (av := [.ref (A 60 5), .int 8, .int r_16, .int x_18]) C hw (s_X10_found_8 l D A cy hJ M hI r_16 x_18 (by first | omega | decide) (by first | omega | decide)) ⟨ml_X10_220, ys_X10_found, yi_X10_found, yc_X10_found⟩ yd_X10_found rfl hl.1 (Nat.le_of_ble_eq_true rfl) ⟨by decide, by decide⟩ ⟨Nat.zero_le _, Nat.zero_le _⟩ dX10_manAtHand_40 (fun r_20 M_21 H locs hp_21 hw => ?_)
      obtain ⟨hm, b0r_20, b1r_20⟩ := hp_21
      have hw := hw.to hm
      refine lv_iconst (v := (-1)) hx hb dX10_manAtHand_43 (by decide) ?_
      refine sb_icmp_ne (tgt := 52) hx hb rfl (by decide : ((-1) : Int32).toInt = (-1)) dX10_manAtHand_44 (by decide) (fun c_44_21 => ?_) (fun c_44_21 => ?_)
      · exact hj_52_36 M _ _ _ hI pr.refl (by first | omega | decide) (by first | omega | decide) (by first | omega | decide) hw (lv_sub hl [0] rfl)
      · refine lv_aload_n hx hb dX10_manAtHand_47 rfl (lv_at hl 0 rfl) ?_
        refine lv_iconst (v := 4) hx hb dX10_manAtHand_48 (by decide) ?_
        refine ti_callVv (ci := 10) (av := [.int 4]) C hw (s_X10_wrong l D A cy hJ M hI 4 (by decide)) ⟨ml_X10_217, ym_X10_wrong, yv_X10_wrong, yi_X10_wrong, yc_X10_wrong⟩ yd_X10_wrong ob_60 (by decide) rfl rfl hl.1 (Nat.le_of_ble_eq_true rfl) ⟨by decide, by decide⟩ ⟨Nat.zero_le _, Nat.zero_le _⟩ dX10_manAtHand_49 (fun M_24 H locs hp_24 hw => ?_)
        obtain ⟨iM_24, q_25, p0r_23, p1r_23, p2r_23, p3r_23⟩ := hp_24
        have v_26 : (tI M_24 60 20).toInt = (tI M 60 20).toInt := by rw [q_25.2 20 (by decide)]
        have v_27 : (tI M_24 60 21).toInt = (tI M 60 21).toInt := by rw [q_25.2 21 (by decide)]
        have v_28 : (tI M_24 60 23).toInt = (tI M 60 23).toInt := by rw [q_25.2 23 (by decide)]
        have v_29 : (tI M_24 60 24).toInt = (tI M 60 24).toInt := by rw [q_25.2 24 (by decide)]
        have v_30 : (tI M_24 60 29).toInt = (tI M 60 29).toInt := by rw [q_25.2 29 (by decide)]
        have v_31 : (tI M_24 60 30).toInt = (tI M 60 30).toInt := by rw [q_25.2 30 (by decide)]
        exact hj_52_36 M_24 _ _ _ iM_24 q_25 (by first | omega | decide) (by first | omega | decide) (by first | omega | decide) hw (lv_sub hl [0] rfl)
    · refine lv_aload_n hx hb dX10_manAtHand_17 rfl (lv_at hl 0 rfl) ?_
      refine lv_iconst (v := 1) hx hb dX10_manAtHand_18 (by decide) ?_
      refine ti_callVv (ci := 10) (av := [.int 1]) C hw (s_X10_wrong l D A cy hJ M hI 1 (by decide)) ⟨ml_X10_217, ym_X10_wrong, yv_X10_wrong, yi_X10_wrong, yc_X10_wrong⟩ yd_X10_wrong ob_60 (by decide) rfl rfl hl.1 (Nat.le_of_ble_eq_true rfl) ⟨by decide, by decide⟩ ⟨Nat.zero_le _, Nat.zero_le _⟩ dX10_manAtHand_19 (fun M_8 H locs hp_8 hw => ?_)
      obtain ⟨iM_8, q_9, p0r_7, p1r_7, p2r_7, p3r_7⟩ := hp_8
      have v_10 : (tI M_8 60 20).toInt = (tI M 60 20).toInt := by rw [q_9.2 20 (by decide)]
      have v_11 : (tI M_8 60 21).toInt = (tI M 60 21).toInt := by rw [q_9.2 21 (by decide)]
      have v_12 : (tI M_8 60 23).toInt = (tI M 60 23).toInt := by rw [q_9.2 23 (by decide)]
      have v_13 : (tI M_8 60 24).toInt = (tI M 60 24).toInt := by rw [q_9.2 24 (by decide)]
      have v_14 : (tI M_8 60 29).toInt = (tI M 60 29).toInt := by rw [q_9.2 29 (by decide)]
      have v_15 : (tI M_8 60 30).toInt = (tI M 60 30).toInt := by rw [q_9.2 30 (by decide)]
      refine lv_goto (tgt := 52) hx hb dX10_manAtHand_22 (by decide) ?_
      exact hj_52_36 M_8 _ _ _ iM_8 q_9 (by first | omega | decide) (by first | omega | decide) (by first | omega | decide) hw (lv_sub hl [0] rfl)
  · refine lv_iconst (v := 0) hx hb dX10_manAtHand_7 (by decide) ?_
    exact hQ _ _ _ _ _ _ hw rfl (⟨hI, pr.refl, (by first | omega | decide), (by first | omega | decide), (by first | omega | decide), (by first | omega | decide), (by first | omega | decide)⟩) dX10_manAtHand_8
set_option maxHeartbeats 4000000 in
set_option maxRecDepth 100000 in
theorem s_X10_knot (l : Launch) (D : va_G) (A : Nat → Nat → Nat) (cy : Nat → ClassId) (hJ : ti_inj ti_LM A) (M : ti_M) (hI : mI Tm M)  : ti_Kv l yX10_knot cX10_knot 1 1 ti_LM D A cy M [.ref (A 60 0)] (fun M2 => mI Tm M2 ∧ pr 25 30 M2 M ∧ ((tI M 60 21).toInt ≤ (tI M2 60 21).toInt) ∧ ((tI M 60 21).toInt < (tI M2 60 21).toInt ∨ (tI M2 60 23).toInt = (tI M 60 23).toInt ∨ (tI M2 60 23).toInt = 4) ∧ ((tI M 60 25).toInt = 0 ∨ (tI M2 60 25).toInt ≠ 0) ∧ ((tI M2 60 29).toInt = (tI M 60 29).toInt) ∧ (((tI M 60 25).toInt ≠ 0 ∧ (tI M2 60 30).toInt = (tI M 60 30).toInt) ∨ ((tI M 60 25).toInt = 0 ∧ (((tI M2 60 25).toInt ≠ 0 ∧ (tI M2 60 30).toInt = (tI M 60 30).toInt) ∨ ((tI M2 60 25).toInt = 0 ∧ (tI M2 60 30).toInt = (tI M 60 30).toInt + 1))))) := by
  refine ti_eV yp_X10_knot hJ ti_LM_nd (Nat.le_of_ble_eq_true rfl) ?_
  intro p e s m args below meth c Q H0 C hQ hw ls hl
  have hx := C.1
  have hb := C.2.1
  have hl : lv_has ls 1 [(0, .ref (A 60 0))] := hl
  refine lv_aload_n hx hb dX10_knot_0 rfl (lv_at hl 0 rfl) ?_
  refine ti_get (ci := 10) (k := 25) (N := 67) (T := TX10) C hw iw_10 rfl ob_60 (by decide) (by decide) fl_X10_208 rfl rfl dX10_knot_1 ?_
  refine lv_topi (fun x_1 ex_1 => ?_)
  have u_2 : (tI M 60 25).toInt = x_1.toInt := by rw [ex_1]
  refine sb_if_eq (tgt := 8) hx hb rfl dX10_knot_4 (by decide) (fun c_4_2 => ?_) (fun c_4_2 => ?_)
  · refine lv_aload_n hx hb dX10_knot_8 rfl (lv_at hl 0 rfl) ?_
    refine ti_get (ci := 10) (k := 30) (N := 67) (T := TX10) C hw iw_10 rfl ob_60 (by decide) (by decide) fl_X10_273 rfl rfl dX10_knot_9 ?_
    refine lv_topi (fun x_4 ex_4 => ?_)
    have bx_4 : 0 ≤ x_4.toInt ∧ x_4.toInt ≤ 64 := mI_rd hI ex_4
    have ux_4 : (tI M 60 30).toInt = x_4.toInt := by rw [ex_4]
    refine lv_bipush (v := 64) hx hb dX10_knot_12 (by decide) ?_
    refine sb_icmp_ne (tgt := 25) hx hb rfl (by decide : (64 : Int32).toInt = 64) dX10_knot_14 (by decide) (fun c_14_4 => ?_) (fun c_14_4 => ?_)
    · refine lv_aload_n hx hb dX10_knot_25 rfl (lv_at hl 0 rfl) ?_
      refine lv_dup hx hb dX10_knot_26 rfl ?_
      refine ti_get (ci := 10) (k := 30) (N := 67) (T := TX10) C hw iw_10 rfl ob_60 (by decide) (by decide) fl_X10_273 rfl rfl dX10_knot_27 ?_
      refine ti_top (y := x_4) (ex_4.symm) ?_
      have u_15 : (tI M 60 30).toInt = (x_4 : Int32).toInt := by rw [(ex_4.symm)]
      refine lv_iconst (v := 1) hx hb dX10_knot_30 (by decide) ?_
      refine lv_iadd hx hb dX10_knot_31 ?_
      refine lv_topi (fun x_16 ex_16 => ?_)
      have tx_16 : x_16.toInt = x_4.toInt + 1 := i_add ex_16 rfl (by decide : (1 : Int32).toInt = 1) (by omega) (by omega)
      refine ti_putI (ci := 10) (k := 30) (N := 67) (T := TX10) C hw iw_10 tyX10 tyX10_ok nmX10 rfl ob_60 (by decide) (by decide) fl_X10_273 rfl rfl rfl rfl (fn_10 A _) fs_10_30 dX10_knot_32 (fun H locs hw => ?_)
      obtain ⟨M_17, hM_17⟩ : ∃ z : ti_M, z = uI M 60 30 x_16 := ⟨_, rfl⟩
      have hw := hw.to hM_17.symm
      have iM_17 : mI Tm M_17 := mI_uI hI hM_17 (by decide) (by decide) (ib_mk (lo := 0) (hi := 64) (by omega) (by omega))
      have vM_17 : (tI M_17 60 30).toInt = (x_16 : Int32).toInt := by rw [tI_uE hM_17]
      have v_18 : (tI M_17 60 20).toInt = (tI M 60 20).toInt := by rw [tI_nE hM_17 (nk (by decide))]
      have v_19 : (tI M_17 60 21).toInt = (tI M 60 21).toInt := by rw [tI_nE hM_17 (nk (by decide))]
      have v_20 : (tI M_17 60 23).toInt = (tI M 60 23).toInt := by rw [tI_nE hM_17 (nk (by decide))]
      have v_21 : (tI M_17 60 24).toInt = (tI M 60 24).toInt := by rw [tI_nE hM_17 (nk (by decide))]
      have v_22 : (tI M_17 60 25).toInt = (tI M 60 25).toInt := by rw [tI_nE hM_17 (nk (by decide))]
      have v_23 : (tI M_17 60 29).toInt = (tI M 60 29).toInt := by rw [tI_nE hM_17 (nk (by decide))]
      have v_24 : (tI M_17 60 30).toInt = (x_16 : Int32).toInt := by rw [tI_uE hM_17]
      exact hQ _ _ _ _ _ hw (⟨iM_17, (pr_I hM_17 (by decide)), (by first | omega | decide), (by first | omega | decide), (by first | omega | decide), (by first | omega | decide), (by first | omega | decide)⟩) dX10_knot_35
    · refine lv_aload_n hx hb dX10_knot_17 rfl (lv_at hl 0 rfl) ?_
      refine lv_iconst (v := 2) hx hb dX10_knot_18 (by decide) ?_
      refine ti_callVv (ci := 10) (av := [.int 2]) C hw (s_X10_wrong l D A cy hJ M hI 2 (by decide)) ⟨ml_X10_217, ym_X10_wrong, yv_X10_wrong, yi_X10_wrong, yc_X10_wrong⟩ yd_X10_wrong ob_60 (by decide) rfl rfl hl.1 (Nat.le_of_ble_eq_true rfl) ⟨by decide, by decide⟩ ⟨Nat.zero_le _, Nat.zero_le _⟩ dX10_knot_19 (fun M_7 H locs hp_7 hw => ?_)
      obtain ⟨iM_7, q_8, p0r_6, p1r_6, p2r_6, p3r_6⟩ := hp_7
      have v_9 : (tI M_7 60 20).toInt = (tI M 60 20).toInt := by rw [q_8.2 20 (by decide)]
      have v_10 : (tI M_7 60 21).toInt = (tI M 60 21).toInt := by rw [q_8.2 21 (by decide)]
      have v_11 : (tI M_7 60 23).toInt = (tI M 60 23).toInt := by rw [q_8.2 23 (by decide)]
      have v_12 : (tI M_7 60 24).toInt = (tI M 60 24).toInt := by rw [q_8.2 24 (by decide)]
      have v_13 : (tI M_7 60 29).toInt = (tI M 60 29).toInt := by rw [q_8.2 29 (by decide)]
      have v_14 : (tI M_7 60 30).toInt = (tI M 60 30).toInt := by rw [q_8.2 30 (by decide)]
      refine lv_goto (tgt := 35) hx hb dX10_knot_22 (by decide) ?_
      exact hQ _ _ _ _ _ hw (⟨iM_7, (pr_w q_8 (by decide) (by decide)), (by first | omega | decide), (by first | omega | decide), (by first | omega | decide), (by first | omega | decide), (by first | omega | decide)⟩) dX10_knot_35
  · exact hQ _ _ _ _ _ hw (⟨hI, pr.refl, (by first | omega | decide), (by first | omega | decide), (by first | omega | decide), (by first | omega | decide), (by first | omega | decide)⟩) dX10_knot_7

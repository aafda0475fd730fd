variable {Tc : gC} {Tm : gM}
set_option maxHeartbeats 4000000 in
set_option maxRecDepth 100000 in
theorem x_X10_wrong (l : Launch) (D : va_G) (A : Nat → Nat → Nat) (cy : Nat → ClassId) (hJ : ti_inj ti_LM A) (M : ti_M) (hI : mI Tm M) (kd : Int32) (hk : kd.toInt ≠ 0) (B : Nat → Int) (n : Nat) (rg : Nat → Int) (hr : rQ B n rg M) : ti_Kv l yX10_wrong cX10_wrong 2 0 ti_LM D A cy M [.ref (A 60 0), .int kd] (fun M2 => rQ B n (pp_rf kd.toInt rg) M2 ∧ mI Tm M2 ∧ pr 25 26 M2 M ∧ ((tI M 60 21).toInt ≤ (tI M2 60 21).toInt) ∧ ((tI M 60 21).toInt < (tI M2 60 21).toInt ∨ (tI M2 60 23).toInt = (tI M 60 23).toInt ∨ (tI M2 60 23).toInt = 4) ∧ ((tI M 60 25).toInt = 0 ∨ (tI M2 60 25).toInt ≠ 0) ∧ ((tI M2 60 25).toInt ≠ 0)) := by
  refine ti_eV yp_X10_wrong hJ ti_LM_nd (Nat.le_of_ble_eq_true rfl) ?_
  intro p e s m args below meth c Q H0 C hQ hw ls hl
  have hx := C.1
  have hb := C.2.1
  have hl : lv_has ls 2 [(0, .ref (A 60 0)), (1, .int kd)] := hl
  have l4 : rg 4 = (tI M 60 25).toInt := hr.2.1
  refine lv_aload_n hx hb dX10_wrong_0 rfl (lv_at hl 0 rfl) ?_
  refine ti_get (ci := 10) (k := 25) (N := 67) (T := TX10) C hw iw_10 rfl ob_60 (by decide) (by decide) fl_X10_208 rfl rfl dX10_wrong_1 ?_
  refine lv_topi (fun x_1 ex_1 => ?_)
  have u_2 : (tI M 60 25).toInt = x_1.toInt := by rw [ex_1]
  refine sb_if_eq (tgt := 8) hx hb rfl dX10_wrong_4 (by decide) (fun c_4_2 => ?_) (fun c_4_2 => ?_)
  · refine lv_aload_n hx hb dX10_wrong_8 rfl (lv_at hl 0 rfl) ?_
    refine lv_iload_n hx hb dX10_wrong_9 rfl (lv_at hl 1 rfl) ?_
    refine ti_putI (ci := 10) (k := 25) (N := 67) (T := TX10) C hw iw_10 tyX10 tyX10_ok nmX10 rfl ob_60 (by decide) (by decide) fl_X10_208 rfl rfl rfl rfl (fn_10 A _) fs_10_25 dX10_wrong_10 (fun H locs hw => ?_)
    obtain ⟨M_4, hM_4⟩ : ∃ z : ti_M, z = uI M 60 25 kd := ⟨_, rfl⟩
    have hw := hw.to hM_4.symm
    have iM_4 : mI Tm M_4 := mI_uI hI hM_4 (by decide) (by decide) trivial
    have v_5 : (tI M_4 60 20).toInt = (tI M 60 20).toInt := by rw [tI_nE hM_4 (nk (by decide))]
    have v_6 : (tI M_4 60 21).toInt = (tI M 60 21).toInt := by rw [tI_nE hM_4 (nk (by decide))]
    have v_7 : (tI M_4 60 23).toInt = (tI M 60 23).toInt := by rw [tI_nE hM_4 (nk (by decide))]
    have v_8 : (tI M_4 60 24).toInt = (tI M 60 24).toInt := by rw [tI_nE hM_4 (nk (by decide))]
    have v_9 : (tI M_4 60 25).toInt = (kd : Int32).toInt := by rw [tI_uE hM_4]
    have v_10 : (tI M_4 60 29).toInt = (tI M 60 29).toInt := by rw [tI_nE hM_4 (nk (by decide))]
    have v_11 : (tI M_4 60 30).toInt = (tI M 60 30).toInt := by rw [tI_nE hM_4 (nk (by decide))]
    refine lv_aload_n hx hb dX10_wrong_13 rfl (lv_at hl 0 rfl) ?_
    refine lv_aload_n hx hb dX10_wrong_14 rfl (lv_at hl 0 rfl) ?_
    refine ti_get (ci := 10) (k := 22) (N := 67) (T := TX10) C hw iw_10 rfl ob_60 (by decide) (by decide) fl_X10_170 rfl rfl dX10_wrong_15 ?_
    refine lv_topi (fun x_13 ex_13 => ?_)
    have bx_13 : 0 ≤ x_13.toInt ∧ x_13.toInt ≤ 700 := mI_rd iM_4 ex_13
    have ux_13 : (tI M_4 60 22).toInt = x_13.toInt := by rw [ex_13]
    refine ti_putI (ci := 10) (k := 26) (N := 67) (T := TX10) C hw iw_10 tyX10 tyX10_ok nmX10 rfl ob_60 (by decide) (by decide) fl_X10_211 rfl rfl rfl rfl (fn_10 A _) fs_10_26 dX10_wrong_18 (fun H locs hw => ?_)
    obtain ⟨M_14, hM_14⟩ : ∃ z : ti_M, z = uI M_4 60 26 x_13 := ⟨_, rfl⟩
    have hw := hw.to hM_14.symm
    have iM_14 : mI Tm M_14 := mI_uI iM_4 hM_14 (by decide) (by decide) trivial
    have v_15 : (tI M_14 60 20).toInt = (tI M_4 60 20).toInt := by rw [tI_nE hM_14 (nk (by decide))]
    have v_16 : (tI M_14 60 21).toInt = (tI M_4 60 21).toInt := by rw [tI_nE hM_14 (nk (by decide))]
    have v_17 : (tI M_14 60 23).toInt = (tI M_4 60 23).toInt := by rw [tI_nE hM_14 (nk (by decide))]
    have v_18 : (tI M_14 60 24).toInt = (tI M_4 60 24).toInt := by rw [tI_nE hM_14 (nk (by decide))]
    have v_19 : (tI M_14 60 25).toInt = (tI M_4 60 25).toInt := by rw [tI_nE hM_14 (nk (by decide))]
    have v_20 : (tI M_14 60 29).toInt = (tI M_4 60 29).toInt := by rw [tI_nE hM_14 (nk (by decide))]
    have v_21 : (tI M_14 60 30).toInt = (tI M_4 60 30).toInt := by rw [tI_nE hM_14 (nk (by decide))]
    exact hQ _ _ _ _ _ hw (⟨(rQ_wr hr (by omega) hM_4 hM_14 (congrArg Int32.toInt (((ex_13.symm)).symm.trans (tI_nE hM_4 (nk (by decide))))) hk), iM_14, (pr.trans (pr_I hM_14 (by decide)) (pr_I hM_4 (by decide))), (by first | omega | decide), (by first | omega | decide), (by first | omega | decide), (by first | omega | decide)⟩) dX10_wrong_21
  · exact hQ _ _ _ _ _ hw (⟨(rQ_f hr (by omega) (rf_f (rQ_z hr (by omega)))), hI, pr.refl, (by first | omega | decide), (by first | omega | decide), (by first | omega | decide), (by first | omega | decide)⟩) dX10_wrong_7
set_option maxHeartbeats 4000000 in
set_option maxRecDepth 100000 in
theorem x_X10_isWord (l : Launch) (D : va_G) (A : Nat → Nat → Nat) (cy : Nat → ClassId) (hJ : ti_inj ti_LM A) (M : ti_M) (hI : mI Tm M)  (a : Int32) : ti_Ki l yX10_isWord cX10_isWord 2 (some .boolean) 0 ti_LM D A cy M [.ref (A 60 0), .int a] (fun r M2 => M2 = M ∧ ((r = 1 ∧ ((tI M 60 25).toInt = 0 ∧ (tI M 60 23).toInt = 0 ∧ (tI M 60 24).toInt = a.toInt)) ∨ (r = 0 ∧ ¬ ((tI M 60 25).toInt = 0 ∧ (tI M 60 23).toInt = 0 ∧ (tI M 60 24).toInt = a.toInt)))) := by
  refine ti_eI yp_X10_isWord hJ ti_LM_nd (Nat.le_of_ble_eq_true rfl) ?_
  intro p e s m args below meth c Q H0 C hQ hw ls hl
  have hx := C.1
  have hb := C.2.1
  have hl : lv_has ls 2 [(0, .ref (A 60 0)), (1, .int a)] := hl
  refine lv_aload_n hx hb dX10_isWord_0 rfl (lv_at hl 0 rfl) ?_
  refine ti_get (ci := 10) (k := 25) (N := 67) (T := TX10) C hw iw_10 rfl ob_60 (by decide) (by decide) fl_X10_208 rfl rfl dX10_isWord_1 ?_
  refine lv_topi (fun x_1 ex_1 => ?_)
  have u_2 : (tI M 60 25).toInt = x_1.toInt := by rw [ex_1]
  refine sb_if_ne (tgt := 26) hx hb rfl dX10_isWord_4 (by decide) (fun c_4_2 => ?_) (fun c_4_2 => ?_)
  · refine lv_iconst (v := 0) hx hb dX10_isWord_26 (by decide) ?_
    exact hQ _ _ _ _ _ _ hw rfl (⟨rfl, Or.inr ⟨rfl, by omega⟩⟩) dX10_isWord_27
  · refine lv_aload_n hx hb dX10_isWord_7 rfl (lv_at hl 0 rfl) ?_
    refine ti_get (ci := 10) (k := 23) (N := 67) (T := TX10) C hw iw_10 rfl ob_60 (by decide) (by decide) fl_X10_173 rfl rfl dX10_isWord_8 ?_
    refine lv_topi (fun x_4 ex_4 => ?_)
    have u_5 : (tI M 60 23).toInt = x_4.toInt := by rw [ex_4]
    refine sb_if_ne (tgt := 26) hx hb rfl dX10_isWord_11 (by decide) (fun c_11_5 => ?_) (fun c_11_5 => ?_)
    · refine lv_iconst (v := 0) hx hb dX10_isWord_26 (by decide) ?_
      exact hQ _ _ _ _ _ _ hw rfl (⟨rfl, Or.inr ⟨rfl, by omega⟩⟩) dX10_isWord_27
    · refine lv_aload_n hx hb dX10_isWord_14 rfl (lv_at hl 0 rfl) ?_
      refine ti_get (ci := 10) (k := 24) (N := 67) (T := TX10) C hw iw_10 rfl ob_60 (by decide) (by decide) fl_X10_183 rfl rfl dX10_isWord_15 ?_
      refine lv_topi (fun x_7 ex_7 => ?_)
      have u_8 : (tI M 60 24).toInt = x_7.toInt := by rw [ex_7]
      refine lv_iload_n hx hb dX10_isWord_18 rfl (lv_at hl 1 rfl) ?_
      refine sb_icmp_ne (tgt := 26) hx hb rfl rfl dX10_isWord_19 (by decide) (fun c_19_8 => ?_) (fun c_19_8 => ?_)
      · refine lv_iconst (v := 0) hx hb dX10_isWord_26 (by decide) ?_
        exact hQ _ _ _ _ _ _ hw rfl (⟨rfl, Or.inr ⟨rfl, by omega⟩⟩) dX10_isWord_27
      · refine lv_iconst (v := 1) hx hb dX10_isWord_22 (by decide) ?_
        refine lv_goto (tgt := 27) hx hb dX10_isWord_23 (by decide) ?_
        exact hQ _ _ _ _ _ _ hw rfl (⟨rfl, Or.inl ⟨rfl, by omega, by omega, by omega⟩⟩) dX10_isWord_27
set_option maxHeartbeats 4000000 in
set_option maxRecDepth 100000 in
theorem x_X10_isSign (l : Launch) (D : va_G) (A : Nat → Nat → Nat) (cy : Nat → ClassId) (hJ : ti_inj ti_LM A) (M : ti_M) (hI : mI Tm M)  (a : Int32) : ti_Ki l yX10_isSign cX10_isSign 2 (some .boolean) 0 ti_LM D A cy M [.ref (A 60 0), .int a] (fun r M2 => M2 = M ∧ ((r = 1 ∧ ((tI M 60 25).toInt = 0 ∧ (tI M 60 23).toInt = 3 ∧ (tI M 60 24).toInt = a.toInt)) ∨ (r = 0 ∧ ¬ ((tI M 60 25).toInt = 0 ∧ (tI M 60 23).toInt = 3 ∧ (tI M 60 24).toInt = a.toInt)))) := by
  refine ti_eI yp_X10_isSign hJ ti_LM_nd (Nat.le_of_ble_eq_true rfl) ?_
  intro p e s m args below meth c Q H0 C hQ hw ls hl
  have hx := C.1
  have hb := C.2.1
  have hl : lv_has ls 2 [(0, .ref (A 60 0)), (1, .int a)] := hl
  refine lv_aload_n hx hb dX10_isSign_0 rfl (lv_at hl 0 rfl) ?_
  refine ti_get (ci := 10) (k := 25) (N := 67) (T := TX10) C hw iw_10 rfl ob_60 (by decide) (by decide) fl_X10_208 rfl rfl dX10_isSign_1 ?_
  refine lv_topi (fun x_1 ex_1 => ?_)
  have u_2 : (tI M 60 25).toInt = x_1.toInt := by rw [ex_1]
  refine sb_if_ne (tgt := 27) hx hb rfl dX10_isSign_4 (by decide) (fun c_4_2 => ?_) (fun c_4_2 => ?_)
  · refine lv_iconst (v := 0) hx hb dX10_isSign_27 (by decide) ?_
    exact hQ _ _ _ _ _ _ hw rfl (⟨rfl, Or.inr ⟨rfl, by omega⟩⟩) dX10_isSign_28
  · refine lv_aload_n hx hb dX10_isSign_7 rfl (lv_at hl 0 rfl) ?_
    refine ti_get (ci := 10) (k := 23) (N := 67) (T := TX10) C hw iw_10 rfl ob_60 (by decide) (by decide) fl_X10_173 rfl rfl dX10_isSign_8 ?_
    refine lv_topi (fun x_4 ex_4 => ?_)
    have u_5 : (tI M 60 23).toInt = x_4.toInt := by rw [ex_4]
    refine lv_iconst (v := 3) hx hb dX10_isSign_11 (by decide) ?_
    refine sb_icmp_ne (tgt := 27) hx hb rfl (by decide : (3 : Int32).toInt = 3) dX10_isSign_12 (by decide) (fun c_12_5 => ?_) (fun c_12_5 => ?_)
    · refine lv_iconst (v := 0) hx hb dX10_isSign_27 (by decide) ?_
      exact hQ _ _ _ _ _ _ hw rfl (⟨rfl, Or.inr ⟨rfl, by omega⟩⟩) dX10_isSign_28
    · refine lv_aload_n hx hb dX10_isSign_15 rfl (lv_at hl 0 rfl) ?_
      refine ti_get (ci := 10) (k := 24) (N := 67) (T := TX10) C hw iw_10 rfl ob_60 (by decide) (by decide) fl_X10_183 rfl rfl dX10_isSign_16 ?_
      refine lv_topi (fun x_7 ex_7 => ?_)
      have u_8 : (tI M 60 24).toInt = x_7.toInt := by rw [ex_7]
      refine lv_iload_n hx hb dX10_isSign_19 rfl (lv_at hl 1 rfl) ?_
      refine sb_icmp_ne (tgt := 27) hx hb rfl rfl dX10_isSign_20 (by decide) (fun c_20_8 => ?_) (fun c_20_8 => ?_)
      · refine lv_iconst (v := 0) hx hb dX10_isSign_27 (by decide) ?_
        exact hQ _ _ _ _ _ _ hw rfl (⟨rfl, Or.inr ⟨rfl, by omega⟩⟩) dX10_isSign_28
      · refine lv_iconst (v := 1) hx hb dX10_isSign_23 (by decide) ?_
        refine lv_goto (tgt := 28) hx hb dX10_isSign_24 (by decide) ?_
        exact hQ _ _ _ _ _ _ hw rfl (⟨rfl, Or.inl ⟨rfl, by omega, by omega, by omega⟩⟩) dX10_isSign_28
set_option maxHeartbeats 4000000 in
set_option maxRecDepth 100000 in
theorem x_X10_goOn (l : Launch) (D : va_G) (A : Nat → Nat → Nat) (cy : Nat → ClassId) (hJ : ti_inj ti_LM A) (M : ti_M) (hI : mI Tm M)  (B : Nat → Int) (n : Nat) (rg : Nat → Int) (hr : rQ B n rg M) : ti_KvE l yX10_goOn cX10_goOn 1 6 ti_LM D A cy M [.ref (A 60 0)] (fun M2 => rQ B n (pp_go B n rg) M2 ∧ mI Tm M2 ∧ pr 21 24 M2 M ∧ ((tI M 60 21).toInt ≤ (tI M2 60 21).toInt) ∧ ((tI M 60 21).toInt < (tI M2 60 21).toInt ∨ (tI M2 60 23).toInt = (tI M 60 23).toInt ∨ (tI M2 60 23).toInt = 4) ∧ ((tI M 60 25).toInt = 0 ∨ (tI M2 60 25).toInt ≠ 0) ∧ ((tI M2 60 25).toInt = (tI M 60 25).toInt) ∧ ((tI M 60 25).toInt ≠ 0 ∨ (tI M 60 21).toInt < (tI M2 60 21).toInt ∨ (tI M2 60 23).toInt = 4)) := by
  refine ti_eVE yp_X10_goOn hJ ti_LM_nd (Nat.le_of_ble_eq_true rfl) ?_
  intro p e s m args below meth c Q H0 C hE hQ hw ls hl
  have hx := C.1
  have hb := C.2.1
  have hl : lv_has ls 1 [(0, .ref (A 60 0))] := hl
  have l4 : rg 4 = (tI M 60 25).toInt := hr.2.1
  refine lv_aload_n hx hb dX10_goOn_0 rfl (lv_at hl 0 rfl) ?_
  refine ti_get (ci := 10) (k := 25) (N := 67) (T := TX10) C hw iw_10 rfl ob_60 (by decide) (by decide) fl_X10_208 rfl rfl dX10_goOn_1 ?_
  refine lv_topi (fun x_1 ex_1 => ?_)
  have u_2 : (tI M 60 25).toInt = x_1.toInt := by rw [ex_1]
  refine sb_if_ne (tgt := 11) hx hb rfl dX10_goOn_4 (by decide) (fun c_4_2 => ?_) (fun c_4_2 => ?_)
  · exact hQ _ _ _ _ _ hw (⟨(by rw [go_f (by omega)]; exact hr), hI, pr.refl, (by first | omega | decide), (by first | omega | decide), (by first | omega | decide), (by first | omega | decide), (by first | omega | decide)⟩) dX10_goOn_11
  · refine lv_aload_n hx hb dX10_goOn_7 rfl (lv_at hl 0 rfl) ?_
    refine ti_callVvE (ci := 10) (av := []) C hE hw (x_X10_token l D A cy hJ M hI ) ⟨ml_X10_214, ym_X10_token, yv_X10_token, yi_X10_token, yc_X10_token⟩ yd_X10_token ob_60 (by decide) rfl rfl hl.1 (Nat.le_of_ble_eq_true rfl) ⟨by decide, by decide⟩ ⟨Nat.zero_le _, Nat.zero_le _⟩ dX10_goOn_8 (fun M_5 H locs hp_5 hw => ?_)
    obtain ⟨iM_5, q_8, z_6, z_7, k2M_5, k3M_5, k4M_5⟩ := hp_5
    have hs_9 := rQ_av hr (by omega) (hI.1 21).1 q_8 k2M_5 k3M_5 k4M_5
    obtain ⟨g_10, eg_10⟩ : ∃ z : Nat → Int, z = pp_av B n rg := ⟨_, rfl⟩
    rw [← eg_10] at hs_9
    have l4g_10 : g_10 4 = (tI M_5 60 25).toInt := hs_9.2.1
    have v_11 : (tI M_5 60 20).toInt = (tI M 60 20).toInt := by rw [q_8.2 20 (by decide)]
    have v_12 : 0 ≤ (tI M_5 60 21).toInt ∧ (tI M_5 60 21).toInt ≤ 700 := mI_rd (x := tI M_5 60 21) (k := 21) iM_5 rfl
    have v_13 : (tI M_5 60 25).toInt = (tI M 60 25).toInt := by rw [q_8.2 25 (by decide)]
    have v_14 : (tI M_5 60 29).toInt = (tI M 60 29).toInt := by rw [q_8.2 29 (by decide)]
    have v_15 : (tI M_5 60 30).toInt = (tI M 60 30).toInt := by rw [q_8.2 30 (by decide)]
    exact hQ _ _ _ _ _ hw (⟨(by unfold pp_go; rw [if_pos (by omega), ← eg_10]; exact hs_9), iM_5, q_8, (by first | omega | decide), (by first | omega | decide), (by first | omega | decide), (by first | omega | decide), (by first | omega | decide)⟩) dX10_goOn_11
set_option maxHeartbeats 4000000 in
set_option maxRecDepth 100000 in
theorem x_X10_numeral (l : Launch) (D : va_G) (A : Nat → Nat → Nat) (cy : Nat → ClassId) (hJ : ti_inj ti_LM A) (M : ti_M) (hI : mI Tm M) (lo mo : Int32) (hm : lo.toInt ≤ mo.toInt) (hmo : mo.toInt ≤ 99999) (B : Nat → Int) (n : Nat) (rg : Nat → Int) (hr : rQ B n rg M) : ti_KiE l yX10_numeral cX10_numeral 4 (some .int) 6 ti_LM D A cy M [.ref (A 60 0), .int lo, .int mo] (fun r M2 => rQ B n (pp_nb B n lo.toInt mo.toInt rg) M2 ∧ ((tI M2 60 25).toInt = 0 → r.toInt = rg 1) ∧ mI Tm M2 ∧ pr 21 26 M2 M ∧ ((tI M 60 21).toInt ≤ (tI M2 60 21).toInt) ∧ ((tI M 60 21).toInt < (tI M2 60 21).toInt ∨ (tI M2 60 23).toInt = (tI M 60 23).toInt ∨ (tI M2 60 23).toInt = 4) ∧ ((tI M 60 25).toInt = 0 ∨ (tI M2 60 25).toInt ≠ 0) ∧ (lo.toInt ≤ r.toInt) ∧ (r.toInt ≤ mo.toInt)) := by
  refine ti_eIE yp_X10_numeral hJ ti_LM_nd (Nat.le_of_ble_eq_true rfl) ?_
  intro p e s m args below meth c Q H0 C hE hQ hw ls hl
  have hx := C.1
  have hb := C.2.1
  have hl : lv_has ls 4 [(0, .ref (A 60 0)), (1, .int lo), (2, .int mo)] := hl
  have l4 : rg 4 = (tI M 60 25).toInt := hr.2.1
  refine lv_aload_n hx hb dX10_numeral_0 rfl (lv_at hl 0 rfl) ?_
  refine ti_get (ci := 10) (k := 25) (N := 67) (T := TX10) C hw iw_10 rfl ob_60 (by decide) (by decide) fl_X10_208 rfl rfl dX10_numeral_1 ?_
  refine lv_topi (fun x_1 ex_1 => ?_)
  have u_2 : (tI M 60 25).toInt = x_1.toInt := by rw [ex_1]
  refine sb_if_eq (tgt := 9) hx hb rfl dX10_numeral_4 (by decide) (fun c_4_2 => ?_) (fun c_4_2 => ?_)
  · refine lv_aload_n hx hb dX10_numeral_9 rfl (lv_at hl 0 rfl) ?_
    refine ti_get (ci := 10) (k := 23) (N := 67) (T := TX10) C hw iw_10 rfl ob_60 (by decide) (by decide) fl_X10_173 rfl rfl dX10_numeral_10 ?_
    refine lv_topi (fun x_4 ex_4 => ?_)
    have u_5 : (tI M 60 23).toInt = x_4.toInt := by rw [ex_4]
    refine lv_iconst (v := 2) hx hb dX10_numeral_13 (by decide) ?_
    refine sb_icmp_eq (tgt := 25) hx hb rfl (by decide : (2 : Int32).toInt = 2) dX10_numeral_14 (by decide) (fun c_14_5 => ?_) (fun c_14_5 => ?_)
    · refine lv_aload_n hx hb dX10_numeral_25 rfl (lv_at hl 0 rfl) ?_
      refine ti_get (ci := 10) (k := 24) (N := 67) (T := TX10) C hw iw_10 rfl ob_60 (by decide) (by decide) fl_X10_183 rfl rfl dX10_numeral_26 ?_
      refine lv_topi (fun x_19 ex_19 => ?_)
      have u_20 : (tI M 60 24).toInt = x_19.toInt := by rw [ex_19]
      refine lv_iload_n hx hb dX10_numeral_29 rfl (lv_at hl 1 rfl) ?_
      refine sb_icmp_lt (tgt := 41) hx hb rfl rfl dX10_numeral_30 (by decide) (fun c_30_20 => ?_) (fun c_30_20 => ?_)
      · refine lv_aload_n hx hb dX10_numeral_41 rfl (lv_at hl 0 rfl) ?_
        refine lv_iconst (v := 2) hx hb dX10_numeral_42 (by decide) ?_
        refine ti_callVv (ci := 10) (av := [.int 2]) C hw (x_X10_wrong l D A cy hJ M hI 2 (by decide) B n rg hr) ⟨ml_X10_217, ym_X10_wrong, yv_X10_wrong, yi_X10_wrong, yc_X10_wrong⟩ yd_X10_wrong ob_60 (by decide) rfl rfl hl.1 (Nat.le_of_ble_eq_true rfl) ⟨by decide, by decide⟩ ⟨Nat.zero_le _, Nat.zero_le _⟩ dX10_numeral_43 (fun M_24 H locs hp_24 hw => ?_)
        obtain ⟨hs_25, hp_26⟩ := hp_24
        obtain ⟨iM_24, q_27, p0r_23, p1r_23, p2r_23, p3r_23⟩ := hp_26
        obtain ⟨g_28, eg_28⟩ : ∃ z : Nat → Int, z = pp_rf ((2 : Int32).toInt) rg := ⟨_, rfl⟩
        rw [← eg_28] at hs_25
        have l4g_28 : g_28 4 = (tI M_24 60 25).toInt := hs_25.2.1
        simp only [show (2 : Int32).toInt = 2 by decide] at eg_28
        have v_29 : (tI M_24 60 20).toInt = (tI M 60 20).toInt := by rw [q_27.2 20 (by decide)]
        have v_30 : (tI M_24 60 21).toInt = (tI M 60 21).toInt := by rw [q_27.2 21 (by decide)]
        have v_31 : (tI M_24 60 23).toInt = (tI M 60 23).toInt := by rw [q_27.2 23 (by decide)]
        have v_32 : (tI M_24 60 24).toInt = (tI M 60 24).toInt := by rw [q_27.2 24 (by decide)]
        have v_33 : (tI M_24 60 29).toInt = (tI M 60 29).toInt := by rw [q_27.2 29 (by decide)]
        have v_34 : (tI M_24 60 30).toInt = (tI M 60 30).toInt := by rw [q_27.2 30 (by decide)]
        refine lv_aload_n hx hb dX10_numeral_46 rfl (lv_at hl 0 rfl) ?_
        refine ti_get (ci := 10) (k := 25) (N := 67) (T := TX10) C hw iw_10 rfl ob_60 (by decide) (by decide) fl_X10_208 rfl rfl dX10_numeral_47 ?_
        refine lv_topi (fun x_51 ex_51 => ?_)
        have u_52 : (tI M_24 60 25).toInt = x_51.toInt := by rw [ex_51]
        refine sb_if_eq (tgt := 55) hx hb rfl dX10_numeral_50 (by decide) (fun h => by omega) (fun c_50_52 => ?_)
        refine lv_iload_n hx hb dX10_numeral_53 rfl (lv_at hl 1 rfl) ?_
        exact hQ _ _ _ _ _ _ hw rfl (⟨(by have T := pt_Tnm (hr.2.2.2 (by omega)).1; have T2 := T.2.2.1 (by omega); unfold pp_nb; rw [if_pos T2.1, if_pos (by omega), ← eg_28]; exact hs_25), (fun q => absurd q (by omega)), iM_24, (pr_w q_27 (by decide) (by decide)), (by first | omega | decide), (by first | omega | decide), (by first | omega | decide), (by first | omega | decide), (by first | omega | decide)⟩) dX10_numeral_54
      · refine lv_aload_n hx hb dX10_numeral_33 rfl (lv_at hl 0 rfl) ?_
        refine ti_get (ci := 10) (k := 24) (N := 67) (T := TX10) C hw iw_10 rfl ob_60 (by decide) (by decide) fl_X10_183 rfl rfl dX10_numeral_34 ?_
        refine ti_top (y := x_19) (ex_19.symm) ?_
        refine lv_iload_n hx hb dX10_numeral_37 rfl (lv_at hl 2 rfl) ?_
        refine sb_icmp_le (tgt := 46) hx hb rfl rfl dX10_numeral_38 (by decide) (fun c_38_21 => ?_) (fun c_38_21 => ?_)
        · refine lv_aload_n hx hb dX10_numeral_46 rfl (lv_at hl 0 rfl) ?_
          refine ti_get (ci := 10) (k := 25) (N := 67) (T := TX10) C hw iw_10 rfl ob_60 (by decide) (by decide) fl_X10_208 rfl rfl dX10_numeral_47 ?_
          refine ti_top (y := x_1) (ex_1.symm) ?_
          refine sb_if_eq (tgt := 55) hx hb rfl dX10_numeral_50 (by decide) (fun c_50_49 => ?_) (fun h => by omega)
          refine lv_aload_n hx hb dX10_numeral_55 rfl (lv_at hl 0 rfl) ?_
          refine ti_get (ci := 10) (k := 24) (N := 67) (T := TX10) C hw iw_10 rfl ob_60 (by decide) (by decide) fl_X10_183 rfl rfl dX10_numeral_56 ?_
          refine ti_top (y := x_19) (ex_19.symm) ?_
          refine lv_istore_n (lv' := [(3, .int x_19), (0, .ref (A 60 0)), (1, .int lo), (2, .int mo)]) hx hb dX10_numeral_59 rfl hl (by decide) rfl (fun ls hl => ?_)
          refine lv_aload_n hx hb dX10_numeral_60 rfl (lv_at hl 1 rfl) ?_
          refine ti_callVvE (ci := 10) (av := []) C hE hw (x_X10_token l D A cy hJ M hI ) ⟨ml_X10_214, ym_X10_token, yv_X10_token, yi_X10_token, yc_X10_token⟩ yd_X10_token ob_60 (by decide) rfl rfl hl.1 (Nat.le_of_ble_eq_true rfl) ⟨by decide, by decide⟩ ⟨Nat.zero_le _, Nat.zero_le _⟩ dX10_numeral_61 (fun M_58 H locs hp_58 hw => ?_)
          obtain ⟨iM_58, q_61, z_59, z_60, k2M_58, k3M_58, k4M_58⟩ := hp_58
          have hs_62 := rQ_av hr (by omega) (hI.1 21).1 q_61 k2M_58 k3M_58 k4M_58
          obtain ⟨g_63, eg_63⟩ : ∃ z : Nat → Int, z = pp_av B n rg := ⟨_, rfl⟩
          rw [← eg_63] at hs_62
          have l4g_63 : g_63 4 = (tI M_58 60 25).toInt := hs_62.2.1
          have v_64 : (tI M_58 60 20).toInt = (tI M 60 20).toInt := by rw [q_61.2 20 (by decide)]
          have v_65 : 0 ≤ (tI M_58 60 21).toInt ∧ (tI M_58 60 21).toInt ≤ 700 := mI_rd (x := tI M_58 60 21) (k := 21) iM_58 rfl
          have v_66 : (tI M_58 60 25).toInt = (tI M 60 25).toInt := by rw [q_61.2 25 (by decide)]
          have v_67 : (tI M_58 60 29).toInt = (tI M 60 29).toInt := by rw [q_61.2 29 (by decide)]
          have v_68 : (tI M_58 60 30).toInt = (tI M 60 30).toInt := by rw [q_61.2 30 (by decide)]
          refine lv_iload_n hx hb dX10_numeral_64 rfl (lv_at hl 0 rfl) ?_
          exact hQ _ _ _ _ _ _ hw rfl (⟨(by have T := pt_Tnm (hr.2.2.2 (by omega)).1; have T2 := T.2.2.1 (by omega); unfold pp_nb; rw [if_pos T2.1, if_neg (by omega), ← eg_63]; exact hs_62), (fun _ => by have T2 := (pt_Tnm (hr.2.2.2 (by omega)).1).2.2.1 (by omega); omega), iM_58, (pr_w q_61 (by decide) (by decide)), (by first | omega | decide), (by first | omega | decide), (by first | omega | decide), (by first | omega | decide), (by first | omega | decide)⟩) dX10_numeral_65
        · refine lv_aload_n hx hb dX10_numeral_41 rfl (lv_at hl 0 rfl) ?_
          refine lv_iconst (v := 2) hx hb dX10_numeral_42 (by decide) ?_
          refine ti_callVv (ci := 10) (av := [.int 2]) C hw (x_X10_wrong l D A cy hJ M hI 2 (by decide) B n rg hr) ⟨ml_X10_217, ym_X10_wrong, yv_X10_wrong, yi_X10_wrong, yc_X10_wrong⟩ yd_X10_wrong ob_60 (by decide) rfl rfl hl.1 (Nat.le_of_ble_eq_true rfl) ⟨by decide, by decide⟩ ⟨Nat.zero_le _, Nat.zero_le _⟩ dX10_numeral_43 (fun M_36 H locs hp_36 hw => ?_)
          obtain ⟨hs_37, hp_38⟩ := hp_36
          obtain ⟨iM_36, q_39, p0r_35, p1r_35, p2r_35, p3r_35⟩ := hp_38
          obtain ⟨g_40, eg_40⟩ : ∃ z : Nat → Int, z = pp_rf ((2 : Int32).toInt) rg := ⟨_, rfl⟩
          rw [← eg_40] at hs_37
          have l4g_40 : g_40 4 = (tI M_36 60 25).toInt := hs_37.2.1
          simp only [show (2 : Int32).toInt = 2 by decide] at eg_40
          have v_41 : (tI M_36 60 20).toInt = (tI M 60 20).toInt := by rw [q_39.2 20 (by decide)]
          have v_42 : (tI M_36 60 21).toInt = (tI M 60 21).toInt := by rw [q_39.2 21 (by decide)]
          have v_43 : (tI M_36 60 23).toInt = (tI M 60 23).toInt := by rw [q_39.2 23 (by decide)]
          have v_44 : (tI M_36 60 24).toInt = (tI M 60 24).toInt := by rw [q_39.2 24 (by decide)]
          have v_45 : (tI M_36 60 29).toInt = (tI M 60 29).toInt := by rw [q_39.2 29 (by decide)]
          have v_46 : (tI M_36 60 30).toInt = (tI M 60 30).toInt := by rw [q_39.2 30 (by decide)]
          refine lv_aload_n hx hb dX10_numeral_46 rfl (lv_at hl 0 rfl) ?_
          refine ti_get (ci := 10) (k := 25) (N := 67) (T := TX10) C hw iw_10 rfl ob_60 (by decide) (by decide) fl_X10_208 rfl rfl dX10_numeral_47 ?_
          refine lv_topi (fun x_54 ex_54 => ?_)
          have u_55 : (tI M_36 60 25).toInt = x_54.toInt := by rw [ex_54]
          refine sb_if_eq (tgt := 55) hx hb rfl dX10_numeral_50 (by decide) (fun h => by omega) (fun c_50_55 => ?_)
          refine lv_iload_n hx hb dX10_numeral_53 rfl (lv_at hl 1 rfl) ?_
          exact hQ _ _ _ _ _ _ hw rfl (⟨(by have T := pt_Tnm (hr.2.2.2 (by omega)).1; have T2 := T.2.2.1 (by omega); unfold pp_nb; rw [if_pos T2.1, if_pos (by omega), ← eg_40]; exact hs_37), (fun q => absurd q (by omega)), iM_36, (pr_w q_39 (by decide) (by decide)), (by first | omega | decide), (by first | omega | decide), (by first | omega | decide), (by first | omega | decide), (by first | omega | decide)⟩) dX10_numeral_54
    · refine lv_aload_n hx hb dX10_numeral_17 rfl (lv_at hl 0 rfl) ?_
      refine lv_iconst (v := 1) hx hb dX10_numeral_18 (by decide) ?_
      refine ti_callVv (ci := 10) (av := [.int 1]) C hw (x_X10_wrong l D A cy hJ M hI 1 (by decide) B n rg hr) ⟨ml_X10_217, ym_X10_wrong, yv_X10_wrong, yi_X10_wrong, yc_X10_wrong⟩ yd_X10_wrong ob_60 (by decide) rfl rfl hl.1 (Nat.le_of_ble_eq_true rfl) ⟨by decide, by decide⟩ ⟨Nat.zero_le _, Nat.zero_le _⟩ dX10_numeral_19 (fun M_8 H locs hp_8 hw => ?_)
      obtain ⟨hs_9, hp_10⟩ := hp_8
      obtain ⟨iM_8, q_11, p0r_7, p1r_7, p2r_7, p3r_7⟩ := hp_10
      obtain ⟨g_12, eg_12⟩ : ∃ z : Nat → Int, z = pp_rf ((1 : Int32).toInt) rg := ⟨_, rfl⟩
      rw [← eg_12] at hs_9
      have l4g_12 : g_12 4 = (tI M_8 60 25).toInt := hs_9.2.1
      simp only [show (1 : Int32).toInt = 1 by decide] at eg_12
      have v_13 : (tI M_8 60 20).toInt = (tI M 60 20).toInt := by rw [q_11.2 20 (by decide)]
      have v_14 : (tI M_8 60 21).toInt = (tI M 60 21).toInt := by rw [q_11.2 21 (by decide)]
      have v_15 : (tI M_8 60 23).toInt = (tI M 60 23).toInt := by rw [q_11.2 23 (by decide)]
      have v_16 : (tI M_8 60 24).toInt = (tI M 60 24).toInt := by rw [q_11.2 24 (by decide)]
      have v_17 : (tI M_8 60 29).toInt = (tI M 60 29).toInt := by rw [q_11.2 29 (by decide)]
      have v_18 : (tI M_8 60 30).toInt = (tI M 60 30).toInt := by rw [q_11.2 30 (by decide)]
      refine lv_goto (tgt := 46) hx hb dX10_numeral_22 (by decide) ?_
      refine lv_aload_n hx hb dX10_numeral_46 rfl (lv_at hl 0 rfl) ?_
      refine ti_get (ci := 10) (k := 25) (N := 67) (T := TX10) C hw iw_10 rfl ob_60 (by decide) (by decide) fl_X10_208 rfl rfl dX10_numeral_47 ?_
      refine lv_topi (fun x_47 ex_47 => ?_)
      have u_48 : (tI M_8 60 25).toInt = x_47.toInt := by rw [ex_47]
      refine sb_if_eq (tgt := 55) hx hb rfl dX10_numeral_50 (by decide) (fun h => by omega) (fun c_50_48 => ?_)
      refine lv_iload_n hx hb dX10_numeral_53 rfl (lv_at hl 1 rfl) ?_
      exact hQ _ _ _ _ _ _ hw rfl (⟨(by have T := pt_Tnm (hr.2.2.2 (by omega)).1; unfold pp_nb; rw [if_neg (fun q => by have := T.2.2.2.1 q; omega), ← eg_12]; exact hs_9), (fun q => absurd q (by omega)), iM_8, (pr_w q_11 (by decide) (by decide)), (by first | omega | decide), (by first | omega | decide), (by first | omega | decide), (by first | omega | decide), (by first | omega | decide)⟩) dX10_numeral_54
  · refine lv_iload_n hx hb dX10_numeral_7 rfl (lv_at hl 1 rfl) ?_
    exact hQ _ _ _ _ _ _ hw rfl (⟨(rQ_f hr (by omega) (nb_f (rQ_z hr (by omega)))), (fun q => absurd q (by omega)), hI, pr.refl, (by first | omega | decide), (by first | omega | decide), (by first | omega | decide), (by first | omega | decide), (by first | omega | decide)⟩) dX10_numeral_8
theorem rb_4 {M : ti_M} {x z : Int32} {s : Nat} (e : tY M 60 4 x.toNatClampNeg = z) (hx : x.toInt = (s : Int)) : (tY M 60 4 s).toInt = z.toInt := by
  rw [i_cl hx] at e
  rw [e]
theorem rQ_nm {B : Nat → Int} {n : Nat} {s : Nat → Int} {M : ti_M} {x : Int32} (h : rQ B n s M) (hz : s 4 = 0) (e : s 7 = x.toInt) : ∀ i : Nat, i < 8 → (i : Int) < x.toInt → s (100 + i) = (tY M 60 4 (8 + i)).toInt := fun i h1 h2 => ((h.2.2.2 hz).2.2.2.1 i h1 (by omega)).1
set_option maxHeartbeats 4000000 in
set_option maxRecDepth 100000 in
theorem x_X10_found_8 (l : Launch) (D : va_G) (A : Nat → Nat → Nat) (cy : Nat → ClassId) (hJ : ti_inj ti_LM A) (M : ti_M) (hI : mI Tm M) (nm v : Int32) (h1 : 0 ≤ nm.toInt) (h2 : nm.toInt ≤ 8) (rg : Nat → Int) (h7 : rg 7 = nm.toInt) (hnm : ∀ i : Nat, i < 8 → (i : Int) < nm.toInt → rg (100 + i) = (tY M 60 4 (8 + i)).toInt) : ti_Ki l yX10_found cX10_found 5 (some .int) 0 ti_LM D A cy M [.ref (A 60 5), .int 8, .int nm, .int v] (fun r M2 => M2 = M ∧ -1 ≤ r.toInt ∧ r.toInt ≤ 7 ∧ r.toInt = pp_fd rg v.toInt 0) := by
  refine ti_eI yp_X10_found hJ ti_LM_nd (Nat.le_of_ble_eq_true rfl) ?_
  intro p e s m args below meth c Q H0 C hQ hw ls hl
  have hx := C.1
  have hb := C.2.1
  have hl : lv_has ls 5 [(0, .ref (A 60 5)), (1, .int 8), (2, .int nm), (3, .int v)] := hl
  refine lv_iconst (v := 0) hx hb dX10_found_0 (by decide) ?_
  refine lv_istore (lv' := [(4, .int 0), (0, .ref (A 60 5)), (1, .int 8), (2, .int nm), (3, .int v)]) hx hb dX10_found_1 hl (by decide) rfl (fun ls hl => ?_)
  have hl_3_4 : ∀ (n_5 : Nat) (x_1 : Int32) (H : Heap) (locs : List Loc) (ls : Array Slot), (8 - x_1.toInt : Int).toNat < n_5 → (0 ≤ x_1.toInt) → (x_1.toInt ≤ 8) → (pp_fd rg v.toInt 0 = pp_fd rg v.toInt (x_1.toInt).toNat) → ti_H ti_LM D A cy H0 M H locs → lv_has ls 5 [(4, .int x_1), (0, .ref (A 60 5)), (1, .int 8), (2, .int nm), (3, .int v)] → W p l e (ti_rm 0) s m args below meth c H locs 0 0 Q (F0 m 3 ls []) := by
    intro n_5
    induction n_5 with
    | zero => intro x_1 H locs ls hf_5; exact absurd hf_5 (Nat.not_lt_zero _)
    | succ n_5 ih_5 =>
      intro x_1 H locs ls hf_5 b_2 b_3 j_4 hw hl
      refine lv_iload hx hb dX10_found_3 (lv_at hl 0 rfl) ?_
      refine lv_iload_n hx hb dX10_found_5 rfl (lv_at hl 3 rfl) ?_
      refine sb_icmp_ge (tgt := 28) hx hb rfl rfl dX10_found_6 (by decide) (fun c_6_5 => ?_) (fun c_6_5 => ?_)
      · refine lv_iconst (v := (-1)) hx hb dX10_found_28 (by decide) ?_
        exact hQ _ _ _ _ _ _ hw rfl (⟨rfl, by decide, by decide, (by rw [j_4, fd_end (s := rg) (v := v.toInt) (i := x_1.toInt.toNat) (by omega)]; decide)⟩) dX10_found_29
      · refine lv_aload_n hx hb dX10_found_9 rfl (lv_at hl 1 rfl) ?_
        refine lv_iload_n hx hb dX10_found_10 rfl (lv_at hl 2 rfl) ?_
        refine lv_iload hx hb dX10_found_11 (lv_at hl 0 rfl) ?_
        refine lv_iadd hx hb dX10_found_13 ?_
        refine lv_topi (fun x_7 ex_7 => ?_)
        have tx_7 : x_7.toInt = 8 + x_1.toInt := i_add ex_7 (by decide : (8 : Int32).toInt = 8) rfl (by omega) (by omega)
        refine ti_iald (ci := 10) (k := 4) (n := 16) C hw ob_60 (by decide) (fun _ _ => rfl) (vp_in_iff.mpr (by omega)) dX10_found_14 ?_
        refine lv_topi (fun x_8 ex_8 => ?_)
        have yx_8 : tY M 60 4 x_7.toNatClampNeg = x_8 := (ex_8.symm)
        have mnx_1 : rg (100 + x_1.toInt.toNat) = x_8.toInt := (hnm x_1.toInt.toNat (by omega) (by omega)).trans (rb_4 (s := 8 + x_1.toInt.toNat) yx_8 (by omega))
        refine lv_iload_n hx hb dX10_found_15 rfl (lv_at hl 4 rfl) ?_
        refine sb_icmp_ne (tgt := 22) hx hb rfl rfl dX10_found_16 (by decide) (fun c_16_8 => ?_) (fun c_16_8 => ?_)
        · obtain ⟨x_10, ex_10⟩ : ∃ z : Int32, z = x_1 + 1 := ⟨_, rfl⟩
          have tx_10 : x_10.toInt = x_1.toInt + 1 := i_add ex_10 rfl (by decide) (by omega) (by omega)
          refine lv_iinc (v := x_10) (lv' := [(4, .int x_10), (0, .ref (A 60 5)), (1, .int 8), (2, .int nm), (3, .int v)]) hx hb dX10_found_22 hl (k := 0) rfl (by rw [ex_10]; rfl) (by decide) rfl (fun ls hl => ?_)
          refine lv_goto (tgt := 3) hx hb dX10_found_25 (by decide) ?_
          exact ih_5 x_10 _ _ _ (by omega) (by first | omega | decide) (by first | omega | decide) (by rw [show x_10.toInt.toNat = x_1.toInt.toNat + 1 by omega, ← fd_go (s := rg) (v := v.toInt) (i := x_1.toInt.toNat) (by omega) (by rw [mnx_1]; omega)]; exact j_4) hw (lv_sub hl [0, 1, 2, 3, 4] rfl)
        · refine lv_iload hx hb dX10_found_19 (lv_at hl 0 rfl) ?_
          exact hQ _ _ _ _ _ _ hw rfl (⟨rfl, by omega, by omega, (by rw [j_4, fd_at (s := rg) (v := v.toInt) (i := x_1.toInt.toNat) (by omega) (by rw [mnx_1]; omega)]; omega)⟩) dX10_found_21
  exact hl_3_4 ((8 - 0 : Int).toNat + 1) 0 _ _ _ (Nat.lt_succ_self _) (by have lt0 : (0 : Int32).toInt = 0 := (by decide); first | omega | decide) (by have lt0 : (0 : Int32).toInt = 0 := (by decide); first | omega | decide) rfl hw (lv_sub hl [0, 1, 2, 3, 4] rfl)
set_option maxHeartbeats 4000000 in
set_option maxRecDepth 100000 in
theorem x_X10_fresh (l : Launch) (D : va_G) (A : Nat → Nat → Nat) (cy : Nat → ClassId) (hJ : ti_inj ti_LM A) (M : ti_M) (hI : mI Tm M) (nn : Int32) (h1 : 0 ≤ nn.toInt) (h2 : nn.toInt ≤ 8) (B : Nat → Int) (n : Nat) (rg : Nat → Int) (hr : rQ B n rg M) (hn7 : rg 4 = 0 → rg 7 = nn.toInt) : ti_KiE l yX10_fresh cX10_fresh 5 (some .int) 6 ti_LM D A cy M [.ref (A 60 0), .ref (A 60 5), .int 8, .int nn] (fun r M2 => rQ B n (pp_tk B n 25 (pp_m2 rg)) M2 ∧ ((tI M2 60 25).toInt = 0 → r.toInt = rg 1) ∧ mI Tm M2 ∧ pr 21 26 M2 M ∧ ((tI M 60 21).toInt ≤ (tI M2 60 21).toInt) ∧ ((tI M 60 21).toInt < (tI M2 60 21).toInt ∨ (tI M2 60 23).toInt = (tI M 60 23).toInt ∨ (tI M2 60 23).toInt = 4) ∧ ((tI M 60 25).toInt = 0 ∨ (tI M2 60 25).toInt ≠ 0)) := by
  refine ti_eIE yp_X10_fresh hJ ti_LM_nd (Nat.le_of_ble_eq_true rfl) ?_
  intro p e s m args below meth c Q H0 C hE hQ hw ls hl
  have hx := C.1
  have hb := C.2.1
  have hl : lv_has ls 5 [(0, .ref (A 60 0)), (1, .ref (A 60 5)), (2, .int 8), (3, .int nn)] := hl
  have l4 : rg 4 = (tI M 60 25).toInt := hr.2.1
  refine lv_aload_n hx hb dX10_fresh_0 rfl (lv_at hl 0 rfl) ?_
  refine ti_get (ci := 10) (k := 25) (N := 67) (T := TX10) C hw iw_10 rfl ob_60 (by decide) (by decide) fl_X10_208 rfl rfl dX10_fresh_1 ?_
  refine lv_topi (fun x_1 ex_1 => ?_)
  have u_2 : (tI M 60 25).toInt = x_1.toInt := by rw [ex_1]
  refine sb_if_eq (tgt := 9) hx hb rfl dX10_fresh_4 (by decide) (fun c_4_2 => ?_) (fun c_4_2 => ?_)
  · refine lv_aload_n hx hb dX10_fresh_9 rfl (lv_at hl 0 rfl) ?_
    refine ti_get (ci := 10) (k := 23) (N := 67) (T := TX10) C hw iw_10 rfl ob_60 (by decide) (by decide) fl_X10_173 rfl rfl dX10_fresh_10 ?_
    refine lv_topi (fun x_4 ex_4 => ?_)
    have u_5 : (tI M 60 23).toInt = x_4.toInt := by rw [ex_4]
    refine lv_iconst (v := 1) hx hb dX10_fresh_13 (by decide) ?_
    refine sb_icmp_eq (tgt := 25) hx hb rfl (by decide : (1 : Int32).toInt = 1) dX10_fresh_14 (by decide) (fun c_14_5 => ?_) (fun c_14_5 => ?_)
    · refine lv_aload_n hx hb dX10_fresh_25 rfl (lv_at hl 1 rfl) ?_
      refine lv_iload_n hx hb dX10_fresh_26 rfl (lv_at hl 2 rfl) ?_
      refine lv_iload_n hx hb dX10_fresh_27 rfl (lv_at hl 3 rfl) ?_
      refine lv_aload_n hx hb dX10_fresh_28 rfl (lv_at hl 0 rfl) ?_
      refine ti_get (ci := 10) (k := 24) (N := 67) (T := TX10) C hw iw_10 rfl ob_60 (by decide) (by decide) fl_X10_183 rfl rfl dX10_fresh_29 ?_
      refine lv_topi (fun x_19 ex_19 => ?_)
      have u_20 : (tI M 60 24).toInt = x_19.toInt := by rw [ex_19]
      refine ti_callSi (av := [.ref (A 60 5), .int 8, .int nn, .int x_19]) C hw (x_X10_found_8 l D A cy hJ M hI nn x_19 (by omega) (by omega) rg (hn7 (by omega)) (rQ_nm hr (by omega) (hn7 (by omega)))) ⟨ml_X10_220, ys_X10_found, yi_X10_found, yc_X10_found⟩ yd_X10_found rfl hl.1 (Nat.le_of_ble_eq_true rfl) ⟨by decide, by decide⟩ ⟨Nat.zero_le _, Nat.zero_le _⟩ dX10_fresh_32 (fun r_21 M_22 H locs hp_22 hw => ?_)
      obtain ⟨hm, b0r_21, b1r_21, p0r_21⟩ := hp_22
      have hw := hw.to hm
      refine lv_iconst (v := (-1)) hx hb dX10_fresh_35 (by decide) ?_
      refine sb_icmp_eq (tgt := 44) hx hb rfl (by decide : ((-1) : Int32).toInt = (-1)) dX10_fresh_36 (by decide) (fun c_36_22 => ?_) (fun c_36_22 => ?_)
      · refine lv_aload_n hx hb dX10_fresh_44 rfl (lv_at hl 0 rfl) ?_
        refine ti_get (ci := 10) (k := 25) (N := 67) (T := TX10) C hw iw_10 rfl ob_60 (by decide) (by decide) fl_X10_208 rfl rfl dX10_fresh_45 ?_
        refine ti_top (y := x_1) (ex_1.symm) ?_
        refine sb_if_eq (tgt := 53) hx hb rfl dX10_fresh_48 (by decide) (fun c_48_38 => ?_) (fun h => by omega)
        refine lv_aload_n hx hb dX10_fresh_53 rfl (lv_at hl 0 rfl) ?_
        refine ti_get (ci := 10) (k := 24) (N := 67) (T := TX10) C hw iw_10 rfl ob_60 (by decide) (by decide) fl_X10_183 rfl rfl dX10_fresh_54 ?_
        refine ti_top (y := x_19) (ex_19.symm) ?_
        refine lv_istore (lv' := [(4, .int x_19), (0, .ref (A 60 0)), (1, .ref (A 60 5)), (2, .int 8), (3, .int nn)]) hx hb dX10_fresh_57 hl (by decide) rfl (fun ls hl => ?_)
        refine lv_aload_n hx hb dX10_fresh_59 rfl (lv_at hl 1 rfl) ?_
        refine ti_callVvE (ci := 10) (av := []) C hE hw (x_X10_token l D A cy hJ M hI ) ⟨ml_X10_214, ym_X10_token, yv_X10_token, yi_X10_token, yc_X10_token⟩ yd_X10_token ob_60 (by decide) rfl rfl hl.1 (Nat.le_of_ble_eq_true rfl) ⟨by decide, by decide⟩ ⟨Nat.zero_le _, Nat.zero_le _⟩ dX10_fresh_60 (fun M_44 H locs hp_44 hw => ?_)
        obtain ⟨iM_44, q_47, z_45, z_46, k2M_44, k3M_44, k4M_44⟩ := hp_44
        have hs_48 := rQ_av hr (by omega) (hI.1 21).1 q_47 k2M_44 k3M_44 k4M_44
        obtain ⟨g_49, eg_49⟩ : ∃ z : Nat → Int, z = pp_av B n rg := ⟨_, rfl⟩
        rw [← eg_49] at hs_48
        have l4g_49 : g_49 4 = (tI M_44 60 25).toInt := hs_48.2.1
        have v_50 : (tI M_44 60 20).toInt = (tI M 60 20).toInt := by rw [q_47.2 20 (by decide)]
        have v_51 : 0 ≤ (tI M_44 60 21).toInt ∧ (tI M_44 60 21).toInt ≤ 700 := mI_rd (x := tI M_44 60 21) (k := 21) iM_44 rfl
        have v_52 : (tI M_44 60 25).toInt = (tI M 60 25).toInt := by rw [q_47.2 25 (by decide)]
        have v_53 : (tI M_44 60 29).toInt = (tI M 60 29).toInt := by rw [q_47.2 29 (by decide)]
        have v_54 : (tI M_44 60 30).toInt = (tI M 60 30).toInt := by rw [q_47.2 30 (by decide)]
        refine lv_iload hx hb dX10_fresh_63 (lv_at hl 0 rfl) ?_
        exact hQ _ _ _ _ _ _ hw rfl (⟨(by have T := pt_Tnm (hr.2.2.2 (by omega)).1; have T2 := T.1 (by omega); unfold pp_m2; rw [if_neg (fun q => q.2 (by rw [show pp_fd rg (rg 1) 0 = r_21.toInt by (rw [show rg 1 = x_19.toInt by (have T2 := (pt_Tnm (hr.2.2.2 (by omega)).1).1 (by omega); omega)]; exact p0r_21.symm)]; omega))]; unfold pp_tk; rw [if_pos T2.1, ← eg_49]; exact hs_48), (fun _ => by have T2 := (pt_Tnm (hr.2.2.2 (by omega)).1).1 (by omega); omega), iM_44, (pr_w q_47 (by decide) (by decide)), (by first | omega | decide), (by first | omega | decide), (by first | omega | decide)⟩) dX10_fresh_65
      · refine lv_aload_n hx hb dX10_fresh_39 rfl (lv_at hl 0 rfl) ?_
        refine lv_iconst (v := 3) hx hb dX10_fresh_40 (by decide) ?_
        refine ti_callVv (ci := 10) (av := [.int 3]) C hw (x_X10_wrong l D A cy hJ M hI 3 (by decide) B n rg hr) ⟨ml_X10_217, ym_X10_wrong, yv_X10_wrong, yi_X10_wrong, yc_X10_wrong⟩ yd_X10_wrong ob_60 (by decide) rfl rfl hl.1 (Nat.le_of_ble_eq_true rfl) ⟨by decide, by decide⟩ ⟨Nat.zero_le _, Nat.zero_le _⟩ dX10_fresh_41 (fun M_25 H locs hp_25 hw => ?_)
        obtain ⟨hs_26, hp_27⟩ := hp_25
        obtain ⟨iM_25, q_28, p0r_24, p1r_24, p2r_24, p3r_24⟩ := hp_27
        obtain ⟨g_29, eg_29⟩ : ∃ z : Nat → Int, z = pp_rf ((3 : Int32).toInt) rg := ⟨_, rfl⟩
        rw [← eg_29] at hs_26
        have l4g_29 : g_29 4 = (tI M_25 60 25).toInt := hs_26.2.1
        simp only [show (3 : Int32).toInt = 3 by decide] at eg_29
        have v_30 : (tI M_25 60 20).toInt = (tI M 60 20).toInt := by rw [q_28.2 20 (by decide)]
        have v_31 : (tI M_25 60 21).toInt = (tI M 60 21).toInt := by rw [q_28.2 21 (by decide)]
        have v_32 : (tI M_25 60 23).toInt = (tI M 60 23).toInt := by rw [q_28.2 23 (by decide)]
        have v_33 : (tI M_25 60 24).toInt = (tI M 60 24).toInt := by rw [q_28.2 24 (by decide)]
        have v_34 : (tI M_25 60 29).toInt = (tI M 60 29).toInt := by rw [q_28.2 29 (by decide)]
        have v_35 : (tI M_25 60 30).toInt = (tI M 60 30).toInt := by rw [q_28.2 30 (by decide)]
        refine lv_aload_n hx hb dX10_fresh_44 rfl (lv_at hl 0 rfl) ?_
        refine ti_get (ci := 10) (k := 25) (N := 67) (T := TX10) C hw iw_10 rfl ob_60 (by decide) (by decide) fl_X10_208 rfl rfl dX10_fresh_45 ?_
        refine lv_topi (fun x_40 ex_40 => ?_)
        have u_41 : (tI M_25 60 25).toInt = x_40.toInt := by rw [ex_40]
        refine sb_if_eq (tgt := 53) hx hb rfl dX10_fresh_48 (by decide) (fun h => by omega) (fun c_48_41 => ?_)
        refine lv_iconst (v := 0) hx hb dX10_fresh_51 (by decide) ?_
        exact hQ _ _ _ _ _ _ hw rfl (⟨(by have T := pt_Tnm (hr.2.2.2 (by omega)).1; have T2 := T.1 (by omega); unfold pp_m2; rw [if_pos ⟨T2.1, by rw [show pp_fd rg (rg 1) 0 = r_21.toInt by (rw [show rg 1 = x_19.toInt by (have T2 := (pt_Tnm (hr.2.2.2 (by omega)).1).1 (by omega); omega)]; exact p0r_21.symm)]; omega⟩, ← eg_29]; exact rQ_f hs_26 (by rw [eg_29]; exact rf_4 (by decide)) (tk_f (rQ_z hs_26 (by rw [eg_29]; exact rf_4 (by decide))) (by decide))), (fun q => absurd q (by omega)), iM_25, (pr_w q_28 (by decide) (by decide)), (by first | omega | decide), (by first | omega | decide), (by first | omega | decide)⟩) dX10_fresh_52
    · refine lv_aload_n hx hb dX10_fresh_17 rfl (lv_at hl 0 rfl) ?_
      refine lv_iconst (v := 1) hx hb dX10_fresh_18 (by decide) ?_
      refine ti_callVv (ci := 10) (av := [.int 1]) C hw (x_X10_wrong l D A cy hJ M hI 1 (by decide) B n rg hr) ⟨ml_X10_217, ym_X10_wrong, yv_X10_wrong, yi_X10_wrong, yc_X10_wrong⟩ yd_X10_wrong ob_60 (by decide) rfl rfl hl.1 (Nat.le_of_ble_eq_true rfl) ⟨by decide, by decide⟩ ⟨Nat.zero_le _, Nat.zero_le _⟩ dX10_fresh_19 (fun M_8 H locs hp_8 hw => ?_)
      obtain ⟨hs_9, hp_10⟩ := hp_8
      obtain ⟨iM_8, q_11, p0r_7, p1r_7, p2r_7, p3r_7⟩ := hp_10
      obtain ⟨g_12, eg_12⟩ : ∃ z : Nat → Int, z = pp_rf ((1 : Int32).toInt) rg := ⟨_, rfl⟩
      rw [← eg_12] at hs_9
      have l4g_12 : g_12 4 = (tI M_8 60 25).toInt := hs_9.2.1
      simp only [show (1 : Int32).toInt = 1 by decide] at eg_12
      have v_13 : (tI M_8 60 20).toInt = (tI M 60 20).toInt := by rw [q_11.2 20 (by decide)]
      have v_14 : (tI M_8 60 21).toInt = (tI M 60 21).toInt := by rw [q_11.2 21 (by decide)]
      have v_15 : (tI M_8 60 23).toInt = (tI M 60 23).toInt := by rw [q_11.2 23 (by decide)]
      have v_16 : (tI M_8 60 24).toInt = (tI M 60 24).toInt := by rw [q_11.2 24 (by decide)]
      have v_17 : (tI M_8 60 29).toInt = (tI M 60 29).toInt := by rw [q_11.2 29 (by decide)]
      have v_18 : (tI M_8 60 30).toInt = (tI M 60 30).toInt := by rw [q_11.2 30 (by decide)]
      refine lv_goto (tgt := 44) hx hb dX10_fresh_22 (by decide) ?_
      refine lv_aload_n hx hb dX10_fresh_44 rfl (lv_at hl 0 rfl) ?_
      refine ti_get (ci := 10) (k := 25) (N := 67) (T := TX10) C hw iw_10 rfl ob_60 (by decide) (by decide) fl_X10_208 rfl rfl dX10_fresh_45 ?_
      refine lv_topi (fun x_36 ex_36 => ?_)
      have u_37 : (tI M_8 60 25).toInt = x_36.toInt := by rw [ex_36]
      refine sb_if_eq (tgt := 53) hx hb rfl dX10_fresh_48 (by decide) (fun h => by omega) (fun c_48_37 => ?_)
      refine lv_iconst (v := 0) hx hb dX10_fresh_51 (by decide) ?_
      exact hQ _ _ _ _ _ _ hw rfl (⟨(by have T := pt_Tnm (hr.2.2.2 (by omega)).1; have nq : rg 0 ≠ 25 := (fun q => by have := T.2.1 q; omega); unfold pp_m2; rw [if_neg (fun q => nq q.1)]; unfold pp_tk; rw [if_neg nq, ← eg_12]; exact hs_9), (fun q => absurd q (by omega)), iM_8, (pr_w q_11 (by decide) (by decide)), (by first | omega | decide), (by first | omega | decide), (by first | omega | decide)⟩) dX10_fresh_52
  · refine lv_iconst (v := 0) hx hb dX10_fresh_7 (by decide) ?_
    exact hQ _ _ _ _ _ _ hw rfl (⟨(rQ_f hr (by omega) ((tk_f ((m2_f (rQ_z hr (by omega))).zz (rQ_z hr (by omega))) (by decide)).trans (m2_f (rQ_z hr (by omega))))), (fun q => absurd q (by omega)), hI, pr.refl, (by first | omega | decide), (by first | omega | decide), (by first | omega | decide)⟩) dX10_fresh_8
theorem mh_7 {B : Nat → Int} {n : Nat} {s : Nat → Int} {M : ti_M} {x : Int32} (h : rQ B n s M) (hz : s 4 = 0) (e : tY M 60 3 11 = x) : s 7 = x.toInt := (h.2.2.2 hz).2.2.1.1.trans (congrArg Int32.toInt e)
set_option maxHeartbeats 4000000 in
set_option maxRecDepth 100000 in
theorem x_X10_manAtHand (l : Launch) (D : va_G) (A : Nat → Nat → Nat) (cy : Nat → ClassId) (hJ : ti_inj ti_LM A) (M : ti_M) (hI : mI Tm M)  (B : Nat → Int) (n : Nat) (rg : Nat → Int) (hr : rQ B n rg M) : ti_Ki l yX10_manAtHand cX10_manAtHand 1 (some .int) 1 ti_LM D A cy M [.ref (A 60 0)] (fun r M2 => rQ B n (pp_tm rg) M2 ∧ ((tI M2 60 25).toInt = 0 → r.toInt = pp_tv rg) ∧ mI Tm M2 ∧ pr 25 26 M2 M ∧ ((tI M 60 21).toInt ≤ (tI M2 60 21).toInt) ∧ ((tI M 60 21).toInt < (tI M2 60 21).toInt ∨ (tI M2 60 23).toInt = (tI M 60 23).toInt ∨ (tI M2 60 23).toInt = 4) ∧ ((tI M 60 25).toInt = 0 ∨ (tI M2 60 25).toInt ≠ 0) ∧ (-1 ≤ r.toInt) ∧ (r.toInt ≤ 7)) := by
  refine ti_eI yp_X10_manAtHand hJ ti_LM_nd (Nat.le_of_ble_eq_true rfl) ?_
  intro p e s m args below meth c Q H0 C hQ hw ls hl
  have hx := C.1
  have hb := C.2.1
  have hl : lv_has ls 1 [(0, .ref (A 60 0))] := hl
  have l4 : rg 4 = (tI M 60 25).toInt := hr.2.1
  refine lv_aload_n hx hb dX10_manAtHand_0 rfl (lv_at hl 0 rfl) ?_
  refine ti_get (ci := 10) (k := 25) (N := 67) (T := TX10) C hw iw_10 rfl ob_60 (by decide) (by decide) fl_X10_208 rfl rfl dX10_manAtHand_1 ?_
  refine lv_topi (fun x_1 ex_1 => ?_)
  have u_2 : (tI M 60 25).toInt = x_1.toInt := by rw [ex_1]
  refine sb_if_eq (tgt := 9) hx hb rfl dX10_manAtHand_4 (by decide) (fun c_4_2 => ?_) (fun c_4_2 => ?_)
  · refine lv_aload_n hx hb dX10_manAtHand_9 rfl (lv_at hl 0 rfl) ?_
    refine ti_get (ci := 10) (k := 23) (N := 67) (T := TX10) C hw iw_10 rfl ob_60 (by decide) (by decide) fl_X10_173 rfl rfl dX10_manAtHand_10 ?_
    refine lv_topi (fun x_4 ex_4 => ?_)
    have u_5 : (tI M 60 23).toInt = x_4.toInt := by rw [ex_4]
    refine lv_iconst (v := 1) hx hb dX10_manAtHand_13 (by decide) ?_
    refine sb_icmp_eq (tgt := 25) hx hb rfl (by decide : (1 : Int32).toInt = 1) dX10_manAtHand_14 (by decide) (fun c_14_5 => ?_) (fun c_14_5 => ?_)
    · refine lv_aload_n hx hb dX10_manAtHand_25 rfl (lv_at hl 0 rfl) ?_
      refine ti_get (ci := 10) (k := 4) (N := 67) (T := TX10) (v := .ref (A 60 5)) C hw iw_10 rfl ob_60 (by decide) (by decide) fl_X10_16 rfl rfl dX10_manAtHand_26 ?_
      refine lv_bipush (v := 8) hx hb dX10_manAtHand_29 (by decide) ?_
      refine lv_aload_n hx hb dX10_manAtHand_31 rfl (lv_at hl 0 rfl) ?_
      refine lv_iconst (v := 0) hx hb dX10_manAtHand_32 (by decide) ?_
      refine ti_callVi (ci := 10) (av := [.int 0]) C hw (s_X10_fresher_0 l D A cy hJ M hI ) ⟨ml_X10_224, ym_X10_fresher, yv_X10_fresher, yi_X10_fresher, yc_X10_fresher⟩ yd_X10_fresher ob_60 (by decide) rfl rfl hl.1 (Nat.le_of_ble_eq_true rfl) ⟨by decide, by decide⟩ ⟨Nat.zero_le _, Nat.zero_le _⟩ dX10_manAtHand_33 (fun r_19 M_20 H locs hp_20 hw => ?_)
      obtain ⟨hm, b0r_19, b1r_19, yr_19⟩ := hp_20
      have hw := hw.to hm
      have zr_19 : (tY M 60 3 11).toInt = r_19.toInt := by rw [yr_19]
      refine lv_aload_n hx hb dX10_manAtHand_36 rfl (lv_at hl 0 rfl) ?_
      refine ti_get (ci := 10) (k := 24) (N := 67) (T := TX10) C hw iw_10 rfl ob_60 (by decide) (by decide) fl_X10_183 rfl rfl dX10_manAtHand_37 ?_
      refine lv_topi (fun x_21 ex_21 => ?_)
      have u_22 : (tI M 60 24).toInt = x_21.toInt := by rw [ex_21]
      refine ti_callSi (av := [.ref (A 60 5), .int 8, .int r_19, .int x_21]) C hw (x_X10_found_8 l D A cy hJ M hI r_19 x_21 (by omega) (by omega) rg (mh_7 hr (by omega) yr_19) (rQ_nm hr (by omega) (mh_7 hr (by omega) yr_19))) ⟨ml_X10_220, ys_X10_found, yi_X10_found, yc_X10_found⟩ yd_X10_found rfl hl.1 (Nat.le_of_ble_eq_true rfl) ⟨by decide, by decide⟩ ⟨Nat.zero_le _, Nat.zero_le _⟩ dX10_manAtHand_40 (fun r_23 M_24 H locs hp_24 hw => ?_)
      obtain ⟨hm, b0r_23, b1r_23, p0r_23⟩ := hp_24
      have hw := hw.to hm
      refine lv_iconst (v := (-1)) hx hb dX10_manAtHand_43 (by decide) ?_
      refine sb_icmp_ne (tgt := 52) hx hb rfl (by decide : ((-1) : Int32).toInt = (-1)) dX10_manAtHand_44 (by decide) (fun c_44_24 => ?_) (fun c_44_24 => ?_)
      · refine lv_aload_n hx hb dX10_manAtHand_52 rfl (lv_at hl 0 rfl) ?_
        refine ti_get (ci := 10) (k := 25) (N := 67) (T := TX10) C hw iw_10 rfl ob_60 (by decide) (by decide) fl_X10_208 rfl rfl dX10_manAtHand_53 ?_
        refine ti_top (y := x_1) (ex_1.symm) ?_
        refine sb_if_eq (tgt := 63) hx hb rfl dX10_manAtHand_56 (by decide) (fun c_56_40 => ?_) (fun h => by omega)
        refine lv_aload_n hx hb dX10_manAtHand_63 rfl (lv_at hl 0 rfl) ?_
        refine ti_get (ci := 10) (k := 4) (N := 67) (T := TX10) (v := .ref (A 60 5)) C hw iw_10 rfl ob_60 (by decide) (by decide) fl_X10_16 rfl rfl dX10_manAtHand_64 ?_
        refine lv_bipush (v := 8) hx hb dX10_manAtHand_67 (by decide) ?_
        refine lv_aload_n hx hb dX10_manAtHand_69 rfl (lv_at hl 0 rfl) ?_
        refine lv_iconst (v := 0) hx hb dX10_manAtHand_70 (by decide) ?_
        refine ti_callVi (ci := 10) (av := [.int 0]) C hw (s_X10_fresher_0 l D A cy hJ M hI ) ⟨ml_X10_224, ym_X10_fresher, yv_X10_fresher, yi_X10_fresher, yc_X10_fresher⟩ yd_X10_fresher ob_60 (by decide) rfl rfl hl.1 (Nat.le_of_ble_eq_true rfl) ⟨by decide, by decide⟩ ⟨Nat.zero_le _, Nat.zero_le _⟩ dX10_manAtHand_71 (fun r_45 M_46 H locs hp_46 hw => ?_)
        obtain ⟨hm, b0r_45, b1r_45, yr_45⟩ := hp_46
        have hw := hw.to hm
        have sr_45 : r_45.toInt = (r_19 : Int32).toInt := by rw [← yr_45, (yr_19)]
        have zr_45 : (tY M 60 3 11).toInt = r_45.toInt := by rw [yr_45]
        refine lv_aload_n hx hb dX10_manAtHand_74 rfl (lv_at hl 0 rfl) ?_
        refine ti_get (ci := 10) (k := 24) (N := 67) (T := TX10) C hw iw_10 rfl ob_60 (by decide) (by decide) fl_X10_183 rfl rfl dX10_manAtHand_75 ?_
        refine ti_top (y := x_21) (ex_21.symm) ?_
        refine ti_callSi (av := [.ref (A 60 5), .int 8, .int r_45, .int x_21]) C hw (x_X10_found_8 l D A cy hJ M hI r_45 x_21 (by omega) (by omega) rg (mh_7 hr (by omega) yr_45) (rQ_nm hr (by omega) (mh_7 hr (by omega) yr_45))) ⟨ml_X10_220, ys_X10_found, yi_X10_found, yc_X10_found⟩ yd_X10_found rfl hl.1 (Nat.le_of_ble_eq_true rfl) ⟨by decide, by decide⟩ ⟨Nat.zero_le _, Nat.zero_le _⟩ dX10_manAtHand_78 (fun r_47 M_48 H locs hp_48 hw => ?_)
        obtain ⟨hm, b0r_47, b1r_47, p0r_47⟩ := hp_48
        have hw := hw.to hm
        exact hQ _ _ _ _ _ _ hw rfl (⟨(by have T := pt_Tnm (hr.2.2.2 (by omega)).1; have T2 := T.1 (by omega); unfold pp_tm; rw [if_pos T2.1, if_neg (by rw [show pp_fd rg (rg 1) 0 = r_23.toInt by (rw [show rg 1 = x_21.toInt by (have T2 := (pt_Tnm (hr.2.2.2 (by omega)).1).1 (by omega); omega)]; exact p0r_23.symm)]; omega)]; exact hr), (fun _ => by have T := pt_Tnm (hr.2.2.2 (by omega)).1; have T2 := T.1 (by omega); unfold pp_tv; rw [if_pos T2.1, show pp_fd rg (rg 1) 0 = r_47.toInt by (rw [show rg 1 = x_21.toInt by (have T2 := (pt_Tnm (hr.2.2.2 (by omega)).1).1 (by omega); omega)]; exact p0r_47.symm)] <;> omega), hI, pr.refl, (by first | omega | decide), (by first | omega | decide), (by first | omega | decide), (by first | omega | decide), (by first | omega | decide)⟩) dX10_manAtHand_81
      · refine lv_aload_n hx hb dX10_manAtHand_47 rfl (lv_at hl 0 rfl) ?_
        refine lv_iconst (v := 4) hx hb dX10_manAtHand_48 (by decide) ?_
        refine ti_callVv (ci := 10) (av := [.int 4]) C hw (x_X10_wrong l D A cy hJ M hI 4 (by decide) B n rg hr) ⟨ml_X10_217, ym_X10_wrong, yv_X10_wrong, yi_X10_wrong, yc_X10_wrong⟩ yd_X10_wrong ob_60 (by decide) rfl rfl hl.1 (Nat.le_of_ble_eq_true rfl) ⟨by decide, by decide⟩ ⟨Nat.zero_le _, Nat.zero_le _⟩ dX10_manAtHand_49 (fun M_27 H locs hp_27 hw => ?_)
        obtain ⟨hs_28, hp_29⟩ := hp_27
        obtain ⟨iM_27, q_30, p0r_26, p1r_26, p2r_26, p3r_26⟩ := hp_29
        obtain ⟨g_31, eg_31⟩ : ∃ z : Nat → Int, z = pp_rf ((4 : Int32).toInt) rg := ⟨_, rfl⟩
        rw [← eg_31] at hs_28
        have l4g_31 : g_31 4 = (tI M_27 60 25).toInt := hs_28.2.1
        simp only [show (4 : Int32).toInt = 4 by decide] at eg_31
        have v_32 : (tI M_27 60 20).toInt = (tI M 60 20).toInt := by rw [q_30.2 20 (by decide)]
        have v_33 : (tI M_27 60 21).toInt = (tI M 60 21).toInt := by rw [q_30.2 21 (by decide)]
        have v_34 : (tI M_27 60 23).toInt = (tI M 60 23).toInt := by rw [q_30.2 23 (by decide)]
        have v_35 : (tI M_27 60 24).toInt = (tI M 60 24).toInt := by rw [q_30.2 24 (by decide)]
        have v_36 : (tI M_27 60 29).toInt = (tI M 60 29).toInt := by rw [q_30.2 29 (by decide)]
        have v_37 : (tI M_27 60 30).toInt = (tI M 60 30).toInt := by rw [q_30.2 30 (by decide)]
        refine lv_aload_n hx hb dX10_manAtHand_52 rfl (lv_at hl 0 rfl) ?_
        refine ti_get (ci := 10) (k := 25) (N := 67) (T := TX10) C hw iw_10 rfl ob_60 (by decide) (by decide) fl_X10_208 rfl rfl dX10_manAtHand_53 ?_
        refine lv_topi (fun x_42 ex_42 => ?_)
        have u_43 : (tI M_27 60 25).toInt = x_42.toInt := by rw [ex_42]
        refine sb_if_eq (tgt := 63) hx hb rfl dX10_manAtHand_56 (by decide) (fun h => by omega) (fun c_56_43 => ?_)
        refine lv_iconst (v := 0) hx hb dX10_manAtHand_59 (by decide) ?_
        refine lv_goto (tgt := 81) hx hb dX10_manAtHand_60 (by decide) ?_
        exact hQ _ _ _ _ _ _ hw rfl (⟨(by have T := pt_Tnm (hr.2.2.2 (by omega)).1; have T2 := T.1 (by omega); unfold pp_tm; rw [if_pos T2.1, if_pos (by rw [show pp_fd rg (rg 1) 0 = r_23.toInt by (rw [show rg 1 = x_21.toInt by (have T2 := (pt_Tnm (hr.2.2.2 (by omega)).1).1 (by omega); omega)]; exact p0r_23.symm)]; omega), ← eg_31]; exact hs_28), (fun q => absurd q (by omega)), iM_27, q_30, (by first | omega | decide), (by first | omega | decide), (by first | omega | decide), (by first | omega | decide), (by first | omega | decide)⟩) dX10_manAtHand_81
    · refine lv_aload_n hx hb dX10_manAtHand_17 rfl (lv_at hl 0 rfl) ?_
      refine lv_iconst (v := 1) hx hb dX10_manAtHand_18 (by decide) ?_
      refine ti_callVv (ci := 10) (av := [.int 1]) C hw (x_X10_wrong l D A cy hJ M hI 1 (by decide) B n rg hr) ⟨ml_X10_217, ym_X10_wrong, yv_X10_wrong, yi_X10_wrong, yc_X10_wrong⟩ yd_X10_wrong ob_60 (by decide) rfl rfl hl.1 (Nat.le_of_ble_eq_true rfl) ⟨by decide, by decide⟩ ⟨Nat.zero_le _, Nat.zero_le _⟩ dX10_manAtHand_19 (fun M_8 H locs hp_8 hw => ?_)
      obtain ⟨hs_9, hp_10⟩ := hp_8
      obtain ⟨iM_8, q_11, p0r_7, p1r_7, p2r_7, p3r_7⟩ := hp_10
      obtain ⟨g_12, eg_12⟩ : ∃ z : Nat → Int, z = pp_rf ((1 : Int32).toInt) rg := ⟨_, rfl⟩
      rw [← eg_12] at hs_9
      have l4g_12 : g_12 4 = (tI M_8 60 25).toInt := hs_9.2.1
      simp only [show (1 : Int32).toInt = 1 by decide] at eg_12
      have v_13 : (tI M_8 60 20).toInt = (tI M 60 20).toInt := by rw [q_11.2 20 (by decide)]
      have v_14 : (tI M_8 60 21).toInt = (tI M 60 21).toInt := by rw [q_11.2 21 (by decide)]
      have v_15 : (tI M_8 60 23).toInt = (tI M 60 23).toInt := by rw [q_11.2 23 (by decide)]
      have v_16 : (tI M_8 60 24).toInt = (tI M 60 24).toInt := by rw [q_11.2 24 (by decide)]
      have v_17 : (tI M_8 60 29).toInt = (tI M 60 29).toInt := by rw [q_11.2 29 (by decide)]
      have v_18 : (tI M_8 60 30).toInt = (tI M 60 30).toInt := by rw [q_11.2 30 (by decide)]
      refine lv_goto (tgt := 52) hx hb dX10_manAtHand_22 (by decide) ?_
      refine lv_aload_n hx hb dX10_manAtHand_52 rfl (lv_at hl 0 rfl) ?_
      refine ti_get (ci := 10) (k := 25) (N := 67) (T := TX10) C hw iw_10 rfl ob_60 (by decide) (by decide) fl_X10_208 rfl rfl dX10_manAtHand_53 ?_
      refine lv_topi (fun x_38 ex_38 => ?_)
      have u_39 : (tI M_8 60 25).toInt = x_38.toInt := by rw [ex_38]
      refine sb_if_eq (tgt := 63) hx hb rfl dX10_manAtHand_56 (by decide) (fun h => by omega) (fun c_56_39 => ?_)
      refine lv_iconst (v := 0) hx hb dX10_manAtHand_59 (by decide) ?_
      refine lv_goto (tgt := 81) hx hb dX10_manAtHand_60 (by decide) ?_
      exact hQ _ _ _ _ _ _ hw rfl (⟨(by have T := pt_Tnm (hr.2.2.2 (by omega)).1; unfold pp_tm; rw [if_neg (fun q => by have := T.2.1 q; omega), ← eg_12]; exact hs_9), (fun q => absurd q (by omega)), iM_8, q_11, (by first | omega | decide), (by first | omega | decide), (by first | omega | decide), (by first | omega | decide), (by first | omega | decide)⟩) dX10_manAtHand_81
  · refine lv_iconst (v := 0) hx hb dX10_manAtHand_7 (by decide) ?_
    exact hQ _ _ _ _ _ _ hw rfl (⟨(rQ_f hr (by omega) (by unfold pp_tm; rw [if_neg (by rw [(rQ_z hr (by omega)).2]; decide)]; exact rf_f (rQ_z hr (by omega)))), (fun q => absurd q (by omega)), hI, pr.refl, (by first | omega | decide), (by first | omega | decide), (by first | omega | decide), (by first | omega | decide), (by first | omega | decide)⟩) dX10_manAtHand_8
set_option maxHeartbeats 4000000 in
set_option maxRecDepth 100000 in
theorem x_X10_knot (l : Launch) (D : va_G) (A : Nat → Nat → Nat) (cy : Nat → ClassId) (hJ : ti_inj ti_LM A) (M : ti_M) (hI : mI Tm M)  (B : Nat → Int) (n : Nat) (rg : Nat → Int) (hr : rQ B n rg M) : ti_Kv l yX10_knot cX10_knot 1 1 ti_LM D A cy M [.ref (A 60 0)] (fun M2 => rQ B n (pp_k1 rg) M2 ∧ mI Tm M2 ∧ pr 25 30 M2 M ∧ ((tI M 60 21).toInt ≤ (tI M2 60 21).toInt) ∧ ((tI M 60 21).toInt < (tI M2 60 21).toInt ∨ (tI M2 60 23).toInt = (tI M 60 23).toInt ∨ (tI M2 60 23).toInt = 4) ∧ ((tI M 60 25).toInt = 0 ∨ (tI M2 60 25).toInt ≠ 0) ∧ ((tI M2 60 29).toInt = (tI M 60 29).toInt) ∧ (((tI M 60 25).toInt ≠ 0 ∧ (tI M2 60 30).toInt = (tI M 60 30).toInt) ∨ ((tI M 60 25).toInt = 0 ∧ (((tI M2 60 25).toInt ≠ 0 ∧ (tI M2 60 30).toInt = (tI M 60 30).toInt) ∨ ((tI M2 60 25).toInt = 0 ∧ (tI M2 60 30).toInt = (tI M 60 30).toInt + 1))))) := by
  refine ti_eV yp_X10_knot hJ ti_LM_nd (Nat.le_of_ble_eq_true rfl) ?_
  intro p e s m args below meth c Q H0 C hQ hw ls hl
  have hx := C.1
  have hb := C.2.1
  have hl : lv_has ls 1 [(0, .ref (A 60 0))] := hl
  have l4 : rg 4 = (tI M 60 25).toInt := hr.2.1
  refine lv_aload_n hx hb dX10_knot_0 rfl (lv_at hl 0 rfl) ?_
  refine ti_get (ci := 10) (k := 25) (N := 67) (T := TX10) C hw iw_10 rfl ob_60 (by decide) (by decide) fl_X10_208 rfl rfl dX10_knot_1 ?_
  refine lv_topi (fun x_1 ex_1 => ?_)
  have u_2 : (tI M 60 25).toInt = x_1.toInt := by rw [ex_1]
  refine sb_if_eq (tgt := 8) hx hb rfl dX10_knot_4 (by decide) (fun c_4_2 => ?_) (fun c_4_2 => ?_)
  · refine lv_aload_n hx hb dX10_knot_8 rfl (lv_at hl 0 rfl) ?_
    refine ti_get (ci := 10) (k := 30) (N := 67) (T := TX10) C hw iw_10 rfl ob_60 (by decide) (by decide) fl_X10_273 rfl rfl dX10_knot_9 ?_
    refine lv_topi (fun x_4 ex_4 => ?_)
    have bx_4 : 0 ≤ x_4.toInt ∧ x_4.toInt ≤ 64 := mI_rd hI ex_4
    have ux_4 : (tI M 60 30).toInt = x_4.toInt := by rw [ex_4]
    refine lv_bipush (v := 64) hx hb dX10_knot_12 (by decide) ?_
    refine sb_icmp_ne (tgt := 25) hx hb rfl (by decide : (64 : Int32).toInt = 64) dX10_knot_14 (by decide) (fun c_14_4 => ?_) (fun c_14_4 => ?_)
    · refine lv_aload_n hx hb dX10_knot_25 rfl (lv_at hl 0 rfl) ?_
      refine lv_dup hx hb dX10_knot_26 rfl ?_
      refine ti_get (ci := 10) (k := 30) (N := 67) (T := TX10) C hw iw_10 rfl ob_60 (by decide) (by decide) fl_X10_273 rfl rfl dX10_knot_27 ?_
      refine ti_top (y := x_4) (ex_4.symm) ?_
      have u_18 : (tI M 60 30).toInt = (x_4 : Int32).toInt := by rw [(ex_4.symm)]
      refine lv_iconst (v := 1) hx hb dX10_knot_30 (by decide) ?_
      refine lv_iadd hx hb dX10_knot_31 ?_
      refine lv_topi (fun x_19 ex_19 => ?_)
      have tx_19 : x_19.toInt = x_4.toInt + 1 := i_add ex_19 rfl (by decide : (1 : Int32).toInt = 1) (by omega) (by omega)
      refine ti_putI (ci := 10) (k := 30) (N := 67) (T := TX10) C hw iw_10 tyX10 tyX10_ok nmX10 rfl ob_60 (by decide) (by decide) fl_X10_273 rfl rfl rfl rfl (fn_10 A _) fs_10_30 dX10_knot_32 (fun H locs hw => ?_)
      obtain ⟨M_20, hM_20⟩ : ∃ z : ti_M, z = uI M 60 30 x_19 := ⟨_, rfl⟩
      have hw := hw.to hM_20.symm
      have iM_20 : mI Tm M_20 := mI_uI hI hM_20 (by decide) (by decide) (ib_mk (lo := 0) (hi := 64) (by omega) (by omega))
      have vM_20 : (tI M_20 60 30).toInt = (x_19 : Int32).toInt := by rw [tI_uE hM_20]
      have v_21 : (tI M_20 60 20).toInt = (tI M 60 20).toInt := by rw [tI_nE hM_20 (nk (by decide))]
      have v_22 : (tI M_20 60 21).toInt = (tI M 60 21).toInt := by rw [tI_nE hM_20 (nk (by decide))]
      have v_23 : (tI M_20 60 23).toInt = (tI M 60 23).toInt := by rw [tI_nE hM_20 (nk (by decide))]
      have v_24 : (tI M_20 60 24).toInt = (tI M 60 24).toInt := by rw [tI_nE hM_20 (nk (by decide))]
      have v_25 : (tI M_20 60 25).toInt = (tI M 60 25).toInt := by rw [tI_nE hM_20 (nk (by decide))]
      have v_26 : (tI M_20 60 29).toInt = (tI M 60 29).toInt := by rw [tI_nE hM_20 (nk (by decide))]
      have v_27 : (tI M_20 60 30).toInt = (x_19 : Int32).toInt := by rw [tI_uE hM_20]
      have hs_28 := rQ_30 hr hM_20
      obtain ⟨g_29, eg_29⟩ : ∃ z : Nat → Int, z = pp_su rg 8 x_19.toInt := ⟨_, rfl⟩
      rw [← eg_29] at hs_28
      have l4g_29 : g_29 4 = (tI M_20 60 25).toInt := hs_28.2.1
      exact hQ _ _ _ _ _ hw (⟨(by have h8 : rg 8 = (tI M 60 30).toInt := (hr.2.2.2 (by omega)).2.2.1.2.1; unfold pp_k1; rw [if_pos (by omega), if_pos (by omega), show rg 8 + 1 = x_19.toInt by omega, ← eg_29]; exact hs_28), iM_20, (pr_I hM_20 (by decide)), (by first | omega | decide), (by first | omega | decide), (by first | omega | decide), (by first | omega | decide), (by first | omega | decide)⟩) dX10_knot_35
    · refine lv_aload_n hx hb dX10_knot_17 rfl (lv_at hl 0 rfl) ?_
      refine lv_iconst (v := 2) hx hb dX10_knot_18 (by decide) ?_
      refine ti_callVv (ci := 10) (av := [.int 2]) C hw (x_X10_wrong l D A cy hJ M hI 2 (by decide) B n rg hr) ⟨ml_X10_217, ym_X10_wrong, yv_X10_wrong, yi_X10_wrong, yc_X10_wrong⟩ yd_X10_wrong ob_60 (by decide) rfl rfl hl.1 (Nat.le_of_ble_eq_true rfl) ⟨by decide, by decide⟩ ⟨Nat.zero_le _, Nat.zero_le _⟩ dX10_knot_19 (fun M_7 H locs hp_7 hw => ?_)
      obtain ⟨hs_8, hp_9⟩ := hp_7
      obtain ⟨iM_7, q_10, p0r_6, p1r_6, p2r_6, p3r_6⟩ := hp_9
      obtain ⟨g_11, eg_11⟩ : ∃ z : Nat → Int, z = pp_rf ((2 : Int32).toInt) rg := ⟨_, rfl⟩
      rw [← eg_11] at hs_8
      have l4g_11 : g_11 4 = (tI M_7 60 25).toInt := hs_8.2.1
      simp only [show (2 : Int32).toInt = 2 by decide] at eg_11
      have v_12 : (tI M_7 60 20).toInt = (tI M 60 20).toInt := by rw [q_10.2 20 (by decide)]
      have v_13 : (tI M_7 60 21).toInt = (tI M 60 21).toInt := by rw [q_10.2 21 (by decide)]
      have v_14 : (tI M_7 60 23).toInt = (tI M 60 23).toInt := by rw [q_10.2 23 (by decide)]
      have v_15 : (tI M_7 60 24).toInt = (tI M 60 24).toInt := by rw [q_10.2 24 (by decide)]
      have v_16 : (tI M_7 60 29).toInt = (tI M 60 29).toInt := by rw [q_10.2 29 (by decide)]
      have v_17 : (tI M_7 60 30).toInt = (tI M 60 30).toInt := by rw [q_10.2 30 (by decide)]
      refine lv_goto (tgt := 35) hx hb dX10_knot_22 (by decide) ?_
      exact hQ _ _ _ _ _ hw (⟨(by have h8 : rg 8 = (tI M 60 30).toInt := (hr.2.2.2 (by omega)).2.2.1.2.1; unfold pp_k1; rw [if_pos (by omega), if_neg (by omega), ← eg_11]; exact hs_8), iM_7, (pr_w q_10 (by decide) (by decide)), (by first | omega | decide), (by first | omega | decide), (by first | omega | decide), (by first | omega | decide), (by first | omega | decide)⟩) dX10_knot_35
  · exact hQ _ _ _ _ _ hw (⟨(by rw [k1_f (by omega)]; exact hr), hI, pr.refl, (by first | omega | decide), (by first | omega | decide), (by first | omega | decide), (by first | omega | decide), (by first | omega | decide)⟩) dX10_knot_7

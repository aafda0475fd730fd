/-- the reference behind its constructor, as far as one call asks -/
def ti_FM (M : ti_M) : Prop := (tI M 60 2 = 0) ∧ (tI M 60 27 = 0) ∧ (tI M 60 28 = (-1)) ∧ (tI M 60 51 = 0) ∧ (tI M 60 52 = 0) ∧ (tI M 60 58 = 0) ∧ (tI M 60 59 = (-1)) ∧ (tY M 60 3 0 = 0) ∧ (tY M 60 3 3 = 10) ∧ (tY M 60 3 5 = 0) ∧ (tY M 60 3 7 = 0) ∧ (tY M 60 34 0 = 0) ∧ (tY M 60 35 0 = 200) ∧ (tY M 60 37 0 = 0) ∧ (tY M 60 38 0 = 0) ∧ (tY M 60 49 0 = 0) ∧ (tY M 60 49 1 = 1) ∧ (tY M 60 49 2 = 2) ∧ (∀ i, i < 3 → tY M 60 14 i = 0) ∧ (∀ i, i < 3 → tY M 60 15 i = 0)
set_option maxHeartbeats 4000000 in
set_option maxRecDepth 100000 in
theorem k_X10_isMan (l : Launch) (D : va_G) (A : Nat → Nat → Nat) (cy : Nat → ClassId) (hJ : ti_inj ti_LM A) (M : ti_M) (hF : ti_FM M) (man : Int32) : ti_Ki l yX10_isMan cX10_isMan 2 (some .boolean) 0 ti_LM D A cy M [.ref (A 60 0), .int man] (fun r M2 => M2 = M ∧ r = 0) := by
  refine ti_eI yp_X10_isMan hJ ti_LM_nd (Nat.le_of_ble_eq_true rfl) ?_
  intro p e s m args below meth c Q H0 C hQ hw ls hl
  have hx := C.1
  have hb := C.2.1
  have hl : lv_has ls 2 [(0, .ref (A 60 0)), (1, .int man)] := hl
  obtain ⟨m_taped, m_lf, m_lp, m_hi, m_un, m_st, m_kb, n0, n3, n5, n7, mi0, wa0, co0, ma0, pw0, pw1, pw2, sf, sto⟩ := id hF
  refine lv_iload_n hx hb dX10_isMan_0 rfl (lv_at hl 1 rfl) ?_
  refine lv_if_lt (tgt := 18) hx hb dX10_isMan_1 (by decide) (fun c_1 => ?_) (fun c_1 => ?_)
  · refine lv_iconst (v := 0) hx hb dX10_isMan_18 (by decide) ?_
    exact hQ _ _ _ _ _ _ hw rfl (⟨rfl, rfl⟩) dX10_isMan_19
  · refine lv_iload_n hx hb dX10_isMan_4 rfl (lv_at hl 1 rfl) ?_
    refine lv_aload_n hx hb dX10_isMan_5 rfl (lv_at hl 0 rfl) ?_
    refine ti_get (ci := 10) (k := 3) (N := 67) (T := TX10) (v := .ref (A 60 4)) C hw iw_10 rfl ob_60 (by decide) (by decide) fl_X10_13 rfl rfl dX10_isMan_6 ?_
    refine lv_iconst (v := 0) hx hb dX10_isMan_9 (by decide) ?_
    refine ti_iald (ci := 10) (k := 3) (n := 22) C hw ob_60 (by decide) (fun _ _ => rfl) (by unfold vp_in; decide) dX10_isMan_10 ?_
    refine ti_top (y := 0) ((congrFun (rfl) 0).trans n0) ?_
    refine lv_icmp_ge (tgt := 18) hx hb dX10_isMan_11 (by decide) (fun c_11 => ?_) (fun c => absurd ((by (try simp only [Int32.lt_iff_toInt_lt, Int32.le_iff_toInt_le, ← Int32.toInt_inj, ti_l0, ti_l1, ti_l2, ti_l3, ti_l5, ti_l7, ti_l8, ti_l24, ti_l59, ti_l60, ti_l119, ti_l120, ti_lm1, ti_lm2] at c_1); (try simp only [Int32.lt_iff_toInt_lt, Int32.le_iff_toInt_le, ← Int32.toInt_inj, ti_l0, ti_l1, ti_l2, ti_l3, ti_l5, ti_l7, ti_l8, ti_l24, ti_l59, ti_l60, ti_l119, ti_l120, ti_lm1, ti_lm2]); omega)) c)
    refine lv_iconst (v := 0) hx hb dX10_isMan_18 (by decide) ?_
    exact hQ _ _ _ _ _ _ hw rfl (⟨rfl, rfl⟩) dX10_isMan_19
set_option maxHeartbeats 4000000 in
set_option maxRecDepth 100000 in
theorem k_X10_isToCome (l : Launch) (D : va_G) (A : Nat → Nat → Nat) (cy : Nat → ClassId) (hJ : ti_inj ti_LM A) (M : ti_M) (hF : ti_FM M) (man : Int32) : ti_Ki l yX10_isToCome cX10_isToCome 2 (some .boolean) 1 ti_LM D A cy M [.ref (A 60 0), .int man] (fun r M2 => M2 = M ∧ r = 0) := by
  refine ti_eI yp_X10_isToCome hJ ti_LM_nd (Nat.le_of_ble_eq_true rfl) ?_
  intro p e s m args below meth c Q H0 C hQ hw ls hl
  have hx := C.1
  have hb := C.2.1
  have hl : lv_has ls 2 [(0, .ref (A 60 0)), (1, .int man)] := hl
  obtain ⟨m_taped, m_lf, m_lp, m_hi, m_un, m_st, m_kb, n0, n3, n5, n7, mi0, wa0, co0, ma0, pw0, pw1, pw2, sf, sto⟩ := id hF
  refine lv_aload_n hx hb dX10_isToCome_0 rfl (lv_at hl 0 rfl) ?_
  refine lv_iload_n hx hb dX10_isToCome_1 rfl (lv_at hl 1 rfl) ?_
  refine ti_callVi (ci := 10) (av := [.int man]) C hw (k_X10_isMan l D A cy hJ M ⟨(m_taped), (m_lf), (m_lp), (m_hi), (m_un), (m_st), (m_kb), ((congrFun (rfl) 0).trans n0), ((congrFun (rfl) 3).trans n3), ((congrFun (rfl) 5).trans n5), ((congrFun (rfl) 7).trans n7), ((congrFun (rfl) 0).trans mi0), ((congrFun (rfl) 0).trans wa0), ((congrFun (rfl) 0).trans co0), ((congrFun (rfl) 0).trans ma0), ((congrFun (rfl) 0).trans pw0), ((congrFun (rfl) 1).trans pw1), ((congrFun (rfl) 2).trans pw2), sf, sto⟩ man) ⟨ml_X10_356, ym_X10_isMan, yv_X10_isMan, yi_X10_isMan, yc_X10_isMan⟩ yd_X10_isMan ob_60 (by decide) rfl rfl hl.1 (Nat.le_of_ble_eq_true rfl) ⟨by decide, by decide⟩ ⟨Nat.zero_le _, Nat.zero_le _⟩ dX10_isToCome_2 (fun r_1 M_2 H locs hp_2 hw => ?_)
  obtain ⟨hm, rfl⟩ := hp_2
  have hw := hw.to hm
  refine lv_if_eq (tgt := 21) hx hb dX10_isToCome_5 (by decide) (fun c_5 => ?_) (fun c => absurd (by decide) c)
  refine lv_iconst (v := 0) hx hb dX10_isToCome_21 (by decide) ?_
  exact hQ _ _ _ _ _ _ hw rfl (⟨rfl, rfl⟩) dX10_isToCome_22
set_option maxHeartbeats 4000000 in
set_option maxRecDepth 100000 in
theorem k_X10_isIn (l : Launch) (D : va_G) (A : Nat → Nat → Nat) (cy : Nat → ClassId) (hJ : ti_inj ti_LM A) (M : ti_M) (hF : ti_FM M) (man : Int32) : ti_Ki l yX10_isIn cX10_isIn 2 (some .boolean) 1 ti_LM D A cy M [.ref (A 60 0), .int man] (fun r M2 => M2 = M ∧ r = 0) := by
  refine ti_eI yp_X10_isIn hJ ti_LM_nd (Nat.le_of_ble_eq_true rfl) ?_
  intro p e s m args below meth c Q H0 C hQ hw ls hl
  have hx := C.1
  have hb := C.2.1
  have hl : lv_has ls 2 [(0, .ref (A 60 0)), (1, .int man)] := hl
  obtain ⟨m_taped, m_lf, m_lp, m_hi, m_un, m_st, m_kb, n0, n3, n5, n7, mi0, wa0, co0, ma0, pw0, pw1, pw2, sf, sto⟩ := id hF
  refine lv_aload_n hx hb dX10_isIn_0 rfl (lv_at hl 0 rfl) ?_
  refine lv_iload_n hx hb dX10_isIn_1 rfl (lv_at hl 1 rfl) ?_
  refine ti_callVi (ci := 10) (av := [.int man]) C hw (k_X10_isMan l D A cy hJ M ⟨(m_taped), (m_lf), (m_lp), (m_hi), (m_un), (m_st), (m_kb), ((congrFun (rfl) 0).trans n0), ((congrFun (rfl) 3).trans n3), ((congrFun (rfl) 5).trans n5), ((congrFun (rfl) 7).trans n7), ((congrFun (rfl) 0).trans mi0), ((congrFun (rfl) 0).trans wa0), ((congrFun (rfl) 0).trans co0), ((congrFun (rfl) 0).trans ma0), ((congrFun (rfl) 0).trans pw0), ((congrFun (rfl) 1).trans pw1), ((congrFun (rfl) 2).trans pw2), sf, sto⟩ man) ⟨ml_X10_356, ym_X10_isMan, yv_X10_isMan, yi_X10_isMan, yc_X10_isMan⟩ yd_X10_isMan ob_60 (by decide) rfl rfl hl.1 (Nat.le_of_ble_eq_true rfl) ⟨by decide, by decide⟩ ⟨Nat.zero_le _, Nat.zero_le _⟩ dX10_isIn_2 (fun r_1 M_2 H locs hp_2 hw => ?_)
  obtain ⟨hm, rfl⟩ := hp_2
  have hw := hw.to hm
  refine lv_if_eq (tgt := 22) hx hb dX10_isIn_5 (by decide) (fun c_5 => ?_) (fun c => absurd (by decide) c)
  refine lv_iconst (v := 0) hx hb dX10_isIn_22 (by decide) ?_
  exact hQ _ _ _ _ _ _ hw rfl (⟨rfl, rfl⟩) dX10_isIn_23
set_option maxHeartbeats 4000000 in
set_option maxRecDepth 100000 in
theorem k_X10_isPower (l : Launch) (D : va_G) (A : Nat → Nat → Nat) (cy : Nat → ClassId) (hJ : ti_inj ti_LM A) (M : ti_M) (z : Int32) : ti_Ki l yX10_isPower cX10_isPower 1 (some .boolean) 0 ti_LM D A cy M [.int z] (fun r M2 => M2 = M ∧ ((r = 1 ∧ ¬ z < 0 ∧ ¬ 3 ≤ z) ∨ (r = 0 ∧ (z < 0 ∨ 3 ≤ z)))) := by
  refine ti_eI yp_X10_isPower hJ ti_LM_nd (Nat.le_of_ble_eq_true rfl) ?_
  intro p e s m args below meth c Q H0 C hQ hw ls hl
  have hx := C.1
  have hb := C.2.1
  have hl : lv_has ls 1 [(0, .int z)] := hl
  refine lv_iload_n hx hb dX10_isPower_0 rfl (lv_at hl 0 rfl) ?_
  refine lv_if_lt (tgt := 13) hx hb dX10_isPower_1 (by decide) (fun c_1 => ?_) (fun c_1 => ?_)
  · refine lv_iconst (v := 0) hx hb dX10_isPower_13 (by decide) ?_
    exact hQ _ _ _ _ _ _ hw rfl (⟨rfl, Or.inr ⟨rfl, Or.inl c_1⟩⟩) dX10_isPower_14
  · refine lv_iload_n hx hb dX10_isPower_4 rfl (lv_at hl 0 rfl) ?_
    refine lv_iconst (v := 3) hx hb dX10_isPower_5 (by decide) ?_
    refine lv_icmp_ge (tgt := 13) hx hb dX10_isPower_6 (by decide) (fun c_6 => ?_) (fun c_6 => ?_)
    · refine lv_iconst (v := 0) hx hb dX10_isPower_13 (by decide) ?_
      exact hQ _ _ _ _ _ _ hw rfl (⟨rfl, Or.inr ⟨rfl, Or.inr c_6⟩⟩) dX10_isPower_14
    · refine lv_iconst (v := 1) hx hb dX10_isPower_9 (by decide) ?_
      refine lv_goto (tgt := 14) hx hb dX10_isPower_10 (by decide) ?_
      exact hQ _ _ _ _ _ _ hw rfl (⟨rfl, Or.inl ⟨rfl, c_1, c_6⟩⟩) dX10_isPower_14
set_option maxHeartbeats 4000000 in
set_option maxRecDepth 100000 in
theorem k_X10_isPlace (l : Launch) (D : va_G) (A : Nat → Nat → Nat) (cy : Nat → ClassId) (hJ : ti_inj ti_LM A) (M : ti_M) (z : Int32) : ti_Ki l yX10_isPlace cX10_isPlace 1 (some .boolean) 0 ti_LM D A cy M [.int z] (fun r M2 => M2 = M ∧ ((r = 1 ∧ ¬ z < 0 ∧ ¬ 8 ≤ z) ∨ (r = 0 ∧ (z < 0 ∨ 8 ≤ z)))) := by
  refine ti_eI yp_X10_isPlace hJ ti_LM_nd (Nat.le_of_ble_eq_true rfl) ?_
  intro p e s m args below meth c Q H0 C hQ hw ls hl
  have hx := C.1
  have hb := C.2.1
  have hl : lv_has ls 1 [(0, .int z)] := hl
  refine lv_iload_n hx hb dX10_isPlace_0 rfl (lv_at hl 0 rfl) ?_
  refine lv_if_lt (tgt := 14) hx hb dX10_isPlace_1 (by decide) (fun c_1 => ?_) (fun c_1 => ?_)
  · refine lv_iconst (v := 0) hx hb dX10_isPlace_14 (by decide) ?_
    exact hQ _ _ _ _ _ _ hw rfl (⟨rfl, Or.inr ⟨rfl, Or.inl c_1⟩⟩) dX10_isPlace_15
  · refine lv_iload_n hx hb dX10_isPlace_4 rfl (lv_at hl 0 rfl) ?_
    refine lv_bipush (v := 8) hx hb dX10_isPlace_5 (by decide) ?_
    refine lv_icmp_ge (tgt := 14) hx hb dX10_isPlace_7 (by decide) (fun c_7 => ?_) (fun c_7 => ?_)
    · refine lv_iconst (v := 0) hx hb dX10_isPlace_14 (by decide) ?_
      exact hQ _ _ _ _ _ _ hw rfl (⟨rfl, Or.inr ⟨rfl, Or.inr c_7⟩⟩) dX10_isPlace_15
    · refine lv_iconst (v := 1) hx hb dX10_isPlace_10 (by decide) ?_
      refine lv_goto (tgt := 15) hx hb dX10_isPlace_11 (by decide) ?_
      exact hQ _ _ _ _ _ _ hw rfl (⟨rfl, Or.inl ⟨rfl, c_1, c_7⟩⟩) dX10_isPlace_15
set_option maxHeartbeats 4000000 in
set_option maxRecDepth 100000 in
theorem k_X10_isGone (l : Launch) (D : va_G) (A : Nat → Nat → Nat) (cy : Nat → ClassId) (hJ : ti_inj ti_LM A) (M : ti_M) (hF : ti_FM M) (mn : Int32) : ti_Ki l yX10_isGone cX10_isGone 2 (some .boolean) 0 ti_LM D A cy M [.ref (A 60 0), .int mn] (fun r M2 => M2 = M ∧ r = 0) := by
  refine ti_eI yp_X10_isGone hJ ti_LM_nd (Nat.le_of_ble_eq_true rfl) ?_
  intro p e s m args below meth c Q H0 C hQ hw ls hl
  have hx := C.1
  have hb := C.2.1
  have hl : lv_has ls 2 [(0, .ref (A 60 0)), (1, .int mn)] := hl
  obtain ⟨m_taped, m_lf, m_lp, m_hi, m_un, m_st, m_kb, n0, n3, n5, n7, mi0, wa0, co0, ma0, pw0, pw1, pw2, sf, sto⟩ := id hF
  refine lv_iload_n hx hb dX10_isGone_0 rfl (lv_at hl 1 rfl) ?_
  refine lv_if_lt (tgt := 18) hx hb dX10_isGone_1 (by decide) (fun c_1 => ?_) (fun c_1 => ?_)
  · refine lv_iconst (v := 0) hx hb dX10_isGone_18 (by decide) ?_
    exact hQ _ _ _ _ _ _ hw rfl (⟨rfl, rfl⟩) dX10_isGone_19
  · refine lv_iload_n hx hb dX10_isGone_4 rfl (lv_at hl 1 rfl) ?_
    refine lv_aload_n hx hb dX10_isGone_5 rfl (lv_at hl 0 rfl) ?_
    refine ti_get (ci := 10) (k := 34) (N := 67) (T := TX10) (v := .ref (A 60 35)) C hw iw_10 rfl ob_60 (by decide) (by decide) fl_X10_69 rfl rfl dX10_isGone_6 ?_
    refine lv_iconst (v := 0) hx hb dX10_isGone_9 (by decide) ?_
    refine ti_iald (ci := 10) (k := 34) (n := 23) C hw ob_60 (by decide) (fun _ _ => rfl) (by unfold vp_in; decide) dX10_isGone_10 ?_
    refine ti_top (y := 0) ((congrFun (rfl) 0).trans mi0) ?_
    refine lv_icmp_ge (tgt := 18) hx hb dX10_isGone_11 (by decide) (fun c_11 => ?_) (fun c => absurd ((by (try simp only [Int32.lt_iff_toInt_lt, Int32.le_iff_toInt_le, ← Int32.toInt_inj, ti_l0, ti_l1, ti_l2, ti_l3, ti_l5, ti_l7, ti_l8, ti_l24, ti_l59, ti_l60, ti_l119, ti_l120, ti_lm1, ti_lm2] at c_1); (try simp only [Int32.lt_iff_toInt_lt, Int32.le_iff_toInt_le, ← Int32.toInt_inj, ti_l0, ti_l1, ti_l2, ti_l3, ti_l5, ti_l7, ti_l8, ti_l24, ti_l59, ti_l60, ti_l119, ti_l120, ti_lm1, ti_lm2]); omega)) c)
    refine lv_iconst (v := 0) hx hb dX10_isGone_18 (by decide) ?_
    exact hQ _ _ _ _ _ _ hw rfl (⟨rfl, rfl⟩) dX10_isGone_19
set_option maxHeartbeats 4000000 in
set_option maxRecDepth 100000 in
theorem k_X10_minutesLeft (l : Launch) (D : va_G) (A : Nat → Nat → Nat) (cy : Nat → ClassId) (hJ : ti_inj ti_LM A) (M : ti_M) (hF : ti_FM M)  : ti_Ki l yX10_minutesLeft cX10_minutesLeft 1 (some .int) 0 ti_LM D A cy M [.ref (A 60 0)] (fun r M2 => M2 = M ∧ r = 120) := by
  refine ti_eI yp_X10_minutesLeft hJ ti_LM_nd (Nat.le_of_ble_eq_true rfl) ?_
  intro p e s m args below meth c Q H0 C hQ hw ls hl
  have hx := C.1
  have hb := C.2.1
  have hl : lv_has ls 1 [(0, .ref (A 60 0))] := hl
  obtain ⟨m_taped, m_lf, m_lp, m_hi, m_un, m_st, m_kb, n0, n3, n5, n7, mi0, wa0, co0, ma0, pw0, pw1, pw2, sf, sto⟩ := id hF
  refine lv_bipush (v := 120) hx hb dX10_minutesLeft_0 (by decide) ?_
  refine lv_aload_n hx hb dX10_minutesLeft_2 rfl (lv_at hl 0 rfl) ?_
  refine ti_get (ci := 10) (k := 34) (N := 67) (T := TX10) (v := .ref (A 60 35)) C hw iw_10 rfl ob_60 (by decide) (by decide) fl_X10_69 rfl rfl dX10_minutesLeft_3 ?_
  refine lv_iconst (v := 0) hx hb dX10_minutesLeft_6 (by decide) ?_
  refine ti_iald (ci := 10) (k := 34) (n := 23) C hw ob_60 (by decide) (fun _ _ => rfl) (by unfold vp_in; decide) dX10_minutesLeft_7 ?_
  refine ti_top (y := 0) ((congrFun (rfl) 0).trans mi0) ?_
  refine lv_isub hx hb dX10_minutesLeft_8 ?_
  refine ti_top (y := 120) (by decide) ?_
  exact hQ _ _ _ _ _ _ hw rfl (⟨rfl, rfl⟩) dX10_minutesLeft_9
set_option maxHeartbeats 4000000 in
set_option maxRecDepth 100000 in
theorem k_X10_isLong (l : Launch) (D : va_G) (A : Nat → Nat → Nat) (cy : Nat → ClassId) (hJ : ti_inj ti_LM A) (M : ti_M) (hF : ti_FM M) (n1 : Int32) : ti_Ki l yX10_isLong cX10_isLong 2 (some .boolean) 1 ti_LM D A cy M [.ref (A 60 0), .int n1] (fun r M2 => M2 = M ∧ ((r = 1 ∧ ¬ n1 < 1 ∧ ¬ 60 < n1) ∨ (r = 0 ∧ (n1 < 1 ∨ 60 < n1)))) := by
  refine ti_eI yp_X10_isLong hJ ti_LM_nd (Nat.le_of_ble_eq_true rfl) ?_
  intro p e s m args below meth c Q H0 C hQ hw ls hl
  have hx := C.1
  have hb := C.2.1
  have hl : lv_has ls 2 [(0, .ref (A 60 0)), (1, .int n1)] := hl
  obtain ⟨m_taped, m_lf, m_lp, m_hi, m_un, m_st, m_kb, n0, n3, n5, n7, mi0, wa0, co0, ma0, pw0, pw1, pw2, sf, sto⟩ := id hF
  refine lv_iload_n hx hb dX10_isLong_0 rfl (lv_at hl 1 rfl) ?_
  refine lv_iconst (v := 1) hx hb dX10_isLong_1 (by decide) ?_
  refine lv_icmp_lt (tgt := 23) hx hb dX10_isLong_2 (by decide) (fun c_2 => ?_) (fun c_2 => ?_)
  · refine lv_iconst (v := 0) hx hb dX10_isLong_23 (by decide) ?_
    exact hQ _ _ _ _ _ _ hw rfl (⟨rfl, Or.inr ⟨rfl, Or.inl c_2⟩⟩) dX10_isLong_24
  · refine lv_iload_n hx hb dX10_isLong_5 rfl (lv_at hl 1 rfl) ?_
    refine lv_bipush (v := 60) hx hb dX10_isLong_6 (by decide) ?_
    refine lv_icmp_gt (tgt := 23) hx hb dX10_isLong_8 (by decide) (fun c_8 => ?_) (fun c_8 => ?_)
    · refine lv_iconst (v := 0) hx hb dX10_isLong_23 (by decide) ?_
      exact hQ _ _ _ _ _ _ hw rfl (⟨rfl, Or.inr ⟨rfl, Or.inr c_8⟩⟩) dX10_isLong_24
    · refine lv_iload_n hx hb dX10_isLong_11 rfl (lv_at hl 1 rfl) ?_
      refine lv_aload_n hx hb dX10_isLong_12 rfl (lv_at hl 0 rfl) ?_
      refine ti_callVi (ci := 10) (av := []) C hw (k_X10_minutesLeft l D A cy hJ M ⟨(m_taped), (m_lf), (m_lp), (m_hi), (m_un), (m_st), (m_kb), ((congrFun (rfl) 0).trans n0), ((congrFun (rfl) 3).trans n3), ((congrFun (rfl) 5).trans n5), ((congrFun (rfl) 7).trans n7), ((congrFun (rfl) 0).trans mi0), ((congrFun (rfl) 0).trans wa0), ((congrFun (rfl) 0).trans co0), ((congrFun (rfl) 0).trans ma0), ((congrFun (rfl) 0).trans pw0), ((congrFun (rfl) 1).trans pw1), ((congrFun (rfl) 2).trans pw2), sf, sto⟩) ⟨ml_X10_430, ym_X10_minutesLeft, yv_X10_minutesLeft, yi_X10_minutesLeft, yc_X10_minutesLeft⟩ yd_X10_minutesLeft ob_60 (by decide) rfl rfl hl.1 (Nat.le_of_ble_eq_true rfl) ⟨by decide, by decide⟩ ⟨Nat.zero_le _, Nat.zero_le _⟩ dX10_isLong_13 (fun r_1 M_2 H locs hp_2 hw => ?_)
      obtain ⟨hm, rfl⟩ := hp_2
      have hw := hw.to hm
      refine lv_icmp_gt (tgt := 23) hx hb dX10_isLong_16 (by decide) (fun c => absurd c ((by (try simp only [Int32.lt_iff_toInt_lt, Int32.le_iff_toInt_le, ← Int32.toInt_inj, ti_l0, ti_l1, ti_l2, ti_l3, ti_l5, ti_l7, ti_l8, ti_l24, ti_l59, ti_l60, ti_l119, ti_l120, ti_lm1, ti_lm2] at c_2); (try simp only [Int32.lt_iff_toInt_lt, Int32.le_iff_toInt_le, ← Int32.toInt_inj, ti_l0, ti_l1, ti_l2, ti_l3, ti_l5, ti_l7, ti_l8, ti_l24, ti_l59, ti_l60, ti_l119, ti_l120, ti_lm1, ti_lm2] at c_8); (try simp only [Int32.lt_iff_toInt_lt, Int32.le_iff_toInt_le, ← Int32.toInt_inj, ti_l0, ti_l1, ti_l2, ti_l3, ti_l5, ti_l7, ti_l8, ti_l24, ti_l59, ti_l60, ti_l119, ti_l120, ti_lm1, ti_lm2]); omega))) (fun c_16 => ?_)
      refine lv_iconst (v := 1) hx hb dX10_isLong_19 (by decide) ?_
      refine lv_goto (tgt := 24) hx hb dX10_isLong_20 (by decide) ?_
      exact hQ _ _ _ _ _ _ hw rfl (⟨rfl, Or.inl ⟨rfl, c_2, c_8⟩⟩) dX10_isLong_24
set_option maxHeartbeats 4000000 in
set_option maxRecDepth 100000 in
theorem k_X10_isGame (l : Launch) (D : va_G) (A : Nat → Nat → Nat) (cy : Nat → ClassId) (hJ : ti_inj ti_LM A) (M : ti_M) (hF : ti_FM M) (one : Int32) (other : Int32) (n1 : Int32) : ti_Ki l yX10_isGame cX10_isGame 4 (some .boolean) 2 ti_LM D A cy M [.ref (A 60 0), .int one, .int other, .int n1] (fun r M2 => M2 = M ∧ r = 0) := by
  refine ti_eI yp_X10_isGame hJ ti_LM_nd (Nat.le_of_ble_eq_true rfl) ?_
  intro p e s m args below meth c Q H0 C hQ hw ls hl
  have hx := C.1
  have hb := C.2.1
  have hl : lv_has ls 4 [(0, .ref (A 60 0)), (1, .int one), (2, .int other), (3, .int n1)] := hl
  obtain ⟨m_taped, m_lf, m_lp, m_hi, m_un, m_st, m_kb, n0, n3, n5, n7, mi0, wa0, co0, ma0, pw0, pw1, pw2, sf, sto⟩ := id hF
  refine lv_aload_n hx hb dX10_isGame_0 rfl (lv_at hl 0 rfl) ?_
  refine lv_iload_n hx hb dX10_isGame_1 rfl (lv_at hl 1 rfl) ?_
  refine ti_callVi (ci := 10) (av := [.int one]) C hw (k_X10_isToCome l D A cy hJ M ⟨(m_taped), (m_lf), (m_lp), (m_hi), (m_un), (m_st), (m_kb), ((congrFun (rfl) 0).trans n0), ((congrFun (rfl) 3).trans n3), ((congrFun (rfl) 5).trans n5), ((congrFun (rfl) 7).trans n7), ((congrFun (rfl) 0).trans mi0), ((congrFun (rfl) 0).trans wa0), ((congrFun (rfl) 0).trans co0), ((congrFun (rfl) 0).trans ma0), ((congrFun (rfl) 0).trans pw0), ((congrFun (rfl) 1).trans pw1), ((congrFun (rfl) 2).trans pw2), sf, sto⟩ one) ⟨ml_X10_433, ym_X10_isToCome, yv_X10_isToCome, yi_X10_isToCome, yc_X10_isToCome⟩ yd_X10_isToCome ob_60 (by decide) rfl rfl hl.1 (Nat.le_of_ble_eq_true rfl) ⟨by decide, by decide⟩ ⟨Nat.zero_le _, Nat.zero_le _⟩ dX10_isGame_2 (fun r_1 M_2 H locs hp_2 hw => ?_)
  obtain ⟨hm, rfl⟩ := hp_2
  have hw := hw.to hm
  refine lv_if_eq (tgt := 44) hx hb dX10_isGame_5 (by decide) (fun c_5 => ?_) (fun c => absurd (by decide) c)
  refine lv_iconst (v := 0) hx hb dX10_isGame_44 (by decide) ?_
  exact hQ _ _ _ _ _ _ hw rfl (⟨rfl, rfl⟩) dX10_isGame_45
set_option maxHeartbeats 4000000 in
set_option maxRecDepth 100000 in
theorem k_standsAt_0 (l : Launch) (D : va_G) (A : Nat → Nat → Nat) (cy : Nat → ClassId) (hJ : ti_inj ti_LM A) (M : ti_M) (pl : Int32) (hmq : tY M 60 38 0 = 0) (hpl : ¬ pl < 0) : ti_Ki l yX10_standsAt cX10_standsAt 3 (some .int) 0 ti_LM D A cy M [.ref (A 60 0), .int 0, .int pl] (fun r M2 => M2 = M ∧ r = (-2)) := by
  refine ti_eI yp_X10_standsAt hJ ti_LM_nd (Nat.le_of_ble_eq_true rfl) ?_
  intro p e s m args below meth c Q H0 C hQ hw ls hl
  have hx := C.1
  have hb := C.2.1
  have hl : lv_has ls 3 [(0, .ref (A 60 0)), (1, .int 0), (2, .int pl)] := hl
  refine lv_iload_n hx hb dX10_standsAt_0 rfl (lv_at hl 2 rfl) ?_
  refine lv_aload_n hx hb dX10_standsAt_1 rfl (lv_at hl 0 rfl) ?_
  refine ti_get (ci := 10) (k := 38) (N := 67) (T := TX10) (v := .ref (A 60 39)) C hw iw_10 rfl ob_60 (by decide) (by decide) fl_X10_81 rfl rfl dX10_standsAt_2 ?_
  refine lv_iload_n hx hb dX10_standsAt_5 rfl (lv_at hl 1 rfl) ?_
  refine ti_iald (ci := 10) (k := 38) (n := 23) C hw ob_60 (by decide) (fun _ _ => rfl) (by unfold vp_in; decide) dX10_standsAt_6 ?_
  refine ti_top (y := 0) ((congrFun (rfl) 0).trans hmq) ?_
  refine lv_icmp_ge (tgt := 24) hx hb dX10_standsAt_7 (by decide) (fun c_7 => ?_) (fun c => absurd ((by simp only [Int32.lt_iff_toInt_lt, Int32.le_iff_toInt_le, ← Int32.toInt_inj, ti_l0, ti_l1, ti_l2, ti_l3, ti_l5, ti_l7, ti_l8, ti_l24, ti_l59, ti_l60, ti_l119, ti_l120, ti_lm1, ti_lm2] at hpl ⊢; omega)) c)
  refine lv_bipush (v := (-2)) hx hb dX10_standsAt_24 (by decide) ?_
  exact hQ _ _ _ _ _ _ hw rfl (⟨rfl, rfl⟩) dX10_standsAt_26
set_option maxHeartbeats 4000000 in
set_option maxRecDepth 100000 in
theorem k_standsAt_1 (l : Launch) (D : va_G) (A : Nat → Nat → Nat) (cy : Nat → ClassId) (hJ : ti_inj ti_LM A) (M : ti_M) (pl : Int32) (hmq : tY M 60 38 1 = 0) (hpl : ¬ pl < 0) : ti_Ki l yX10_standsAt cX10_standsAt 3 (some .int) 0 ti_LM D A cy M [.ref (A 60 0), .int 1, .int pl] (fun r M2 => M2 = M ∧ r = (-2)) := by
  refine ti_eI yp_X10_standsAt hJ ti_LM_nd (Nat.le_of_ble_eq_true rfl) ?_
  intro p e s m args below meth c Q H0 C hQ hw ls hl
  have hx := C.1
  have hb := C.2.1
  have hl : lv_has ls 3 [(0, .ref (A 60 0)), (1, .int 1), (2, .int pl)] := hl
  refine lv_iload_n hx hb dX10_standsAt_0 rfl (lv_at hl 2 rfl) ?_
  refine lv_aload_n hx hb dX10_standsAt_1 rfl (lv_at hl 0 rfl) ?_
  refine ti_get (ci := 10) (k := 38) (N := 67) (T := TX10) (v := .ref (A 60 39)) C hw iw_10 rfl ob_60 (by decide) (by decide) fl_X10_81 rfl rfl dX10_standsAt_2 ?_
  refine lv_iload_n hx hb dX10_standsAt_5 rfl (lv_at hl 1 rfl) ?_
  refine ti_iald (ci := 10) (k := 38) (n := 23) C hw ob_60 (by decide) (fun _ _ => rfl) (by unfold vp_in; decide) dX10_standsAt_6 ?_
  refine ti_top (y := 0) ((congrFun (rfl) 1).trans hmq) ?_
  refine lv_icmp_ge (tgt := 24) hx hb dX10_standsAt_7 (by decide) (fun c_7 => ?_) (fun c => absurd ((by simp only [Int32.lt_iff_toInt_lt, Int32.le_iff_toInt_le, ← Int32.toInt_inj, ti_l0, ti_l1, ti_l2, ti_l3, ti_l5, ti_l7, ti_l8, ti_l24, ti_l59, ti_l60, ti_l119, ti_l120, ti_lm1, ti_lm2] at hpl ⊢; omega)) c)
  refine lv_bipush (v := (-2)) hx hb dX10_standsAt_24 (by decide) ?_
  exact hQ _ _ _ _ _ _ hw rfl (⟨rfl, rfl⟩) dX10_standsAt_26
set_option maxHeartbeats 4000000 in
set_option maxRecDepth 100000 in
theorem k_X10_found (l : Launch) (D : va_G) (A : Nat → Nat → Nat) (cy : Nat → ClassId) (hJ : ti_inj ti_LM A) (M : ti_M) (fr nm : Int32) : ti_Ki l yX10_found cX10_found 5 (some .int) 0 ti_LM D A cy M [.ref (A 60 5), .int fr, .int 0, .int nm] (fun r M2 => M2 = M ∧ r = (-1)) := by
  refine ti_eI yp_X10_found hJ ti_LM_nd (Nat.le_of_ble_eq_true rfl) ?_
  intro p e s m args below meth c Q H0 C hQ hw ls hl
  have hx := C.1
  have hb := C.2.1
  have hl : lv_has ls 5 [(0, .ref (A 60 5)), (1, .int fr), (2, .int 0), (3, .int nm)] := hl
  refine lv_iconst (v := 0) hx hb dX10_found_0 (by decide) ?_
  refine lv_istore (lv' := [(4, .int 0), (0, .ref (A 60 5)), (1, .int fr), (2, .int 0), (3, .int nm)]) hx hb dX10_found_1 hl (by decide) rfl (fun ls hl => ?_)
  refine lv_iload hx hb dX10_found_3 (lv_at hl 0 rfl) ?_
  refine lv_iload_n hx hb dX10_found_5 rfl (lv_at hl 3 rfl) ?_
  refine lv_icmp_ge (tgt := 28) hx hb dX10_found_6 (by decide) (fun c_6 => ?_) (fun c => absurd (by decide) c)
  refine lv_iconst (v := (-1)) hx hb dX10_found_28 (by decide) ?_
  exact hQ _ _ _ _ _ _ hw rfl (⟨rfl, rfl⟩) dX10_found_29
set_option maxHeartbeats 4000000 in
set_option maxRecDepth 100000 in
theorem k_X10_bitsOf (l : Launch) (D : va_G) (A : Nat → Nat → Nat) (cy : Nat → ClassId) (hJ : ti_inj ti_LM A) (M : ti_M)  : ti_Ki l yX10_bitsOf cX10_bitsOf 3 (some .int) 0 ti_LM D A cy M [.int 0] (fun r M2 => M2 = M ∧ r = 0) := by
  refine ti_eI yp_X10_bitsOf hJ ti_LM_nd (Nat.le_of_ble_eq_true rfl) ?_
  intro p e s m args below meth c Q H0 C hQ hw ls hl
  have hx := C.1
  have hb := C.2.1
  have hl : lv_has ls 3 [(0, .int 0)] := hl
  refine lv_iconst (v := 0) hx hb dX10_bitsOf_0 (by decide) ?_
  refine lv_istore_n (lv' := [(1, .int 0), (0, .int 0)]) hx hb dX10_bitsOf_1 rfl hl (by decide) rfl (fun ls hl => ?_)
  refine lv_iconst (v := 0) hx hb dX10_bitsOf_2 (by decide) ?_
  refine lv_istore_n (lv' := [(2, .int 0), (1, .int 0), (0, .int 0)]) hx hb dX10_bitsOf_3 rfl hl (by decide) rfl (fun ls hl => ?_)
  refine lv_iload_n hx hb dX10_bitsOf_4 rfl (lv_at hl 0 rfl) ?_
  refine lv_bipush (v := 8) hx hb dX10_bitsOf_5 (by decide) ?_
  refine lv_icmp_ge (tgt := 24) hx hb dX10_bitsOf_7 (by decide) (fun c => absurd c (by decide)) (fun c_7 => ?_)
  refine lv_iload_n hx hb dX10_bitsOf_10 rfl (lv_at hl 1 rfl) ?_
  refine lv_iload_n hx hb dX10_bitsOf_11 rfl (lv_at hl 2 rfl) ?_
  refine lv_iload_n hx hb dX10_bitsOf_12 rfl (lv_at hl 0 rfl) ?_
  refine lv_ishr hx hb dX10_bitsOf_13 ?_
  refine ti_top (y := 0) (by decide) ?_
  refine lv_iconst (v := 1) hx hb dX10_bitsOf_14 (by decide) ?_
  refine lv_iand hx hb dX10_bitsOf_15 ?_
  refine ti_top (y := 0) (by decide) ?_
  refine lv_iadd hx hb dX10_bitsOf_16 ?_
  refine ti_top (y := 0) (by decide) ?_
  refine lv_istore_n (lv' := [(1, .int 0), (2, .int 0), (0, .int 0)]) hx hb dX10_bitsOf_17 rfl hl (by decide) rfl (fun ls hl => ?_)
  refine lv_iinc (v := 1) (lv' := [(2, .int 1), (1, .int 0), (0, .int 0)]) hx hb dX10_bitsOf_18 hl (k := 1) rfl (by decide) (by decide) rfl (fun ls hl => ?_)
  refine lv_goto (tgt := 4) hx hb dX10_bitsOf_21 (by decide) ?_
  refine lv_iload_n hx hb dX10_bitsOf_4 rfl (lv_at hl 0 rfl) ?_
  refine lv_bipush (v := 8) hx hb dX10_bitsOf_5 (by decide) ?_
  refine lv_icmp_ge (tgt := 24) hx hb dX10_bitsOf_7 (by decide) (fun c => absurd c (by decide)) (fun c_7 => ?_)
  refine lv_iload_n hx hb dX10_bitsOf_10 rfl (lv_at hl 1 rfl) ?_
  refine lv_iload_n hx hb dX10_bitsOf_11 rfl (lv_at hl 2 rfl) ?_
  refine lv_iload_n hx hb dX10_bitsOf_12 rfl (lv_at hl 0 rfl) ?_
  refine lv_ishr hx hb dX10_bitsOf_13 ?_
  refine ti_top (y := 0) (by decide) ?_
  refine lv_iconst (v := 1) hx hb dX10_bitsOf_14 (by decide) ?_
  refine lv_iand hx hb dX10_bitsOf_15 ?_
  refine ti_top (y := 0) (by decide) ?_
  refine lv_iadd hx hb dX10_bitsOf_16 ?_
  refine ti_top (y := 0) (by decide) ?_
  refine lv_istore_n (lv' := [(1, .int 0), (2, .int 1), (0, .int 0)]) hx hb dX10_bitsOf_17 rfl hl (by decide) rfl (fun ls hl => ?_)
  refine lv_iinc (v := 2) (lv' := [(2, .int 2), (1, .int 0), (0, .int 0)]) hx hb dX10_bitsOf_18 hl (k := 1) rfl (by decide) (by decide) rfl (fun ls hl => ?_)
  refine lv_goto (tgt := 4) hx hb dX10_bitsOf_21 (by decide) ?_
  refine lv_iload_n hx hb dX10_bitsOf_4 rfl (lv_at hl 0 rfl) ?_
  refine lv_bipush (v := 8) hx hb dX10_bitsOf_5 (by decide) ?_
  refine lv_icmp_ge (tgt := 24) hx hb dX10_bitsOf_7 (by decide) (fun c => absurd c (by decide)) (fun c_7 => ?_)
  refine lv_iload_n hx hb dX10_bitsOf_10 rfl (lv_at hl 1 rfl) ?_
  refine lv_iload_n hx hb dX10_bitsOf_11 rfl (lv_at hl 2 rfl) ?_
  refine lv_iload_n hx hb dX10_bitsOf_12 rfl (lv_at hl 0 rfl) ?_
  refine lv_ishr hx hb dX10_bitsOf_13 ?_
  refine ti_top (y := 0) (by decide) ?_
  refine lv_iconst (v := 1) hx hb dX10_bitsOf_14 (by decide) ?_
  refine lv_iand hx hb dX10_bitsOf_15 ?_
  refine ti_top (y := 0) (by decide) ?_
  refine lv_iadd hx hb dX10_bitsOf_16 ?_
  refine ti_top (y := 0) (by decide) ?_
  refine lv_istore_n (lv' := [(1, .int 0), (2, .int 2), (0, .int 0)]) hx hb dX10_bitsOf_17 rfl hl (by decide) rfl (fun ls hl => ?_)
  refine lv_iinc (v := 3) (lv' := [(2, .int 3), (1, .int 0), (0, .int 0)]) hx hb dX10_bitsOf_18 hl (k := 1) rfl (by decide) (by decide) rfl (fun ls hl => ?_)
  refine lv_goto (tgt := 4) hx hb dX10_bitsOf_21 (by decide) ?_
  refine lv_iload_n hx hb dX10_bitsOf_4 rfl (lv_at hl 0 rfl) ?_
  refine lv_bipush (v := 8) hx hb dX10_bitsOf_5 (by decide) ?_
  refine lv_icmp_ge (tgt := 24) hx hb dX10_bitsOf_7 (by decide) (fun c => absurd c (by decide)) (fun c_7 => ?_)
  refine lv_iload_n hx hb dX10_bitsOf_10 rfl (lv_at hl 1 rfl) ?_
  refine lv_iload_n hx hb dX10_bitsOf_11 rfl (lv_at hl 2 rfl) ?_
  refine lv_iload_n hx hb dX10_bitsOf_12 rfl (lv_at hl 0 rfl) ?_
  refine lv_ishr hx hb dX10_bitsOf_13 ?_
  refine ti_top (y := 0) (by decide) ?_
  refine lv_iconst (v := 1) hx hb dX10_bitsOf_14 (by decide) ?_
  refine lv_iand hx hb dX10_bitsOf_15 ?_
  refine ti_top (y := 0) (by decide) ?_
  refine lv_iadd hx hb dX10_bitsOf_16 ?_
  refine ti_top (y := 0) (by decide) ?_
  refine lv_istore_n (lv' := [(1, .int 0), (2, .int 3), (0, .int 0)]) hx hb dX10_bitsOf_17 rfl hl (by decide) rfl (fun ls hl => ?_)
  refine lv_iinc (v := 4) (lv' := [(2, .int 4), (1, .int 0), (0, .int 0)]) hx hb dX10_bitsOf_18 hl (k := 1) rfl (by decide) (by decide) rfl (fun ls hl => ?_)
  refine lv_goto (tgt := 4) hx hb dX10_bitsOf_21 (by decide) ?_
  refine lv_iload_n hx hb dX10_bitsOf_4 rfl (lv_at hl 0 rfl) ?_
  refine lv_bipush (v := 8) hx hb dX10_bitsOf_5 (by decide) ?_
  refine lv_icmp_ge (tgt := 24) hx hb dX10_bitsOf_7 (by decide) (fun c => absurd c (by decide)) (fun c_7 => ?_)
  refine lv_iload_n hx hb dX10_bitsOf_10 rfl (lv_at hl 1 rfl) ?_
  refine lv_iload_n hx hb dX10_bitsOf_11 rfl (lv_at hl 2 rfl) ?_
  refine lv_iload_n hx hb dX10_bitsOf_12 rfl (lv_at hl 0 rfl) ?_
  refine lv_ishr hx hb dX10_bitsOf_13 ?_
  refine ti_top (y := 0) (by decide) ?_
  refine lv_iconst (v := 1) hx hb dX10_bitsOf_14 (by decide) ?_
  refine lv_iand hx hb dX10_bitsOf_15 ?_
  refine ti_top (y := 0) (by decide) ?_
  refine lv_iadd hx hb dX10_bitsOf_16 ?_
  refine ti_top (y := 0) (by decide) ?_
  refine lv_istore_n (lv' := [(1, .int 0), (2, .int 4), (0, .int 0)]) hx hb dX10_bitsOf_17 rfl hl (by decide) rfl (fun ls hl => ?_)
  refine lv_iinc (v := 5) (lv' := [(2, .int 5), (1, .int 0), (0, .int 0)]) hx hb dX10_bitsOf_18 hl (k := 1) rfl (by decide) (by decide) rfl (fun ls hl => ?_)
  refine lv_goto (tgt := 4) hx hb dX10_bitsOf_21 (by decide) ?_
  refine lv_iload_n hx hb dX10_bitsOf_4 rfl (lv_at hl 0 rfl) ?_
  refine lv_bipush (v := 8) hx hb dX10_bitsOf_5 (by decide) ?_
  refine lv_icmp_ge (tgt := 24) hx hb dX10_bitsOf_7 (by decide) (fun c => absurd c (by decide)) (fun c_7 => ?_)
  refine lv_iload_n hx hb dX10_bitsOf_10 rfl (lv_at hl 1 rfl) ?_
  refine lv_iload_n hx hb dX10_bitsOf_11 rfl (lv_at hl 2 rfl) ?_
  refine lv_iload_n hx hb dX10_bitsOf_12 rfl (lv_at hl 0 rfl) ?_
  refine lv_ishr hx hb dX10_bitsOf_13 ?_
  refine ti_top (y := 0) (by decide) ?_
  refine lv_iconst (v := 1) hx hb dX10_bitsOf_14 (by decide) ?_
  refine lv_iand hx hb dX10_bitsOf_15 ?_
  refine ti_top (y := 0) (by decide) ?_
  refine lv_iadd hx hb dX10_bitsOf_16 ?_
  refine ti_top (y := 0) (by decide) ?_
  refine lv_istore_n (lv' := [(1, .int 0), (2, .int 5), (0, .int 0)]) hx hb dX10_bitsOf_17 rfl hl (by decide) rfl (fun ls hl => ?_)
  refine lv_iinc (v := 6) (lv' := [(2, .int 6), (1, .int 0), (0, .int 0)]) hx hb dX10_bitsOf_18 hl (k := 1) rfl (by decide) (by decide) rfl (fun ls hl => ?_)
  refine lv_goto (tgt := 4) hx hb dX10_bitsOf_21 (by decide) ?_
  refine lv_iload_n hx hb dX10_bitsOf_4 rfl (lv_at hl 0 rfl) ?_
  refine lv_bipush (v := 8) hx hb dX10_bitsOf_5 (by decide) ?_
  refine lv_icmp_ge (tgt := 24) hx hb dX10_bitsOf_7 (by decide) (fun c => absurd c (by decide)) (fun c_7 => ?_)
  refine lv_iload_n hx hb dX10_bitsOf_10 rfl (lv_at hl 1 rfl) ?_
  refine lv_iload_n hx hb dX10_bitsOf_11 rfl (lv_at hl 2 rfl) ?_
  refine lv_iload_n hx hb dX10_bitsOf_12 rfl (lv_at hl 0 rfl) ?_
  refine lv_ishr hx hb dX10_bitsOf_13 ?_
  refine ti_top (y := 0) (by decide) ?_
  refine lv_iconst (v := 1) hx hb dX10_bitsOf_14 (by decide) ?_
  refine lv_iand hx hb dX10_bitsOf_15 ?_
  refine ti_top (y := 0) (by decide) ?_
  refine lv_iadd hx hb dX10_bitsOf_16 ?_
  refine ti_top (y := 0) (by decide) ?_
  refine lv_istore_n (lv' := [(1, .int 0), (2, .int 6), (0, .int 0)]) hx hb dX10_bitsOf_17 rfl hl (by decide) rfl (fun ls hl => ?_)
  refine lv_iinc (v := 7) (lv' := [(2, .int 7), (1, .int 0), (0, .int 0)]) hx hb dX10_bitsOf_18 hl (k := 1) rfl (by decide) (by decide) rfl (fun ls hl => ?_)
  refine lv_goto (tgt := 4) hx hb dX10_bitsOf_21 (by decide) ?_
  refine lv_iload_n hx hb dX10_bitsOf_4 rfl (lv_at hl 0 rfl) ?_
  refine lv_bipush (v := 8) hx hb dX10_bitsOf_5 (by decide) ?_
  refine lv_icmp_ge (tgt := 24) hx hb dX10_bitsOf_7 (by decide) (fun c => absurd c (by decide)) (fun c_7 => ?_)
  refine lv_iload_n hx hb dX10_bitsOf_10 rfl (lv_at hl 1 rfl) ?_
  refine lv_iload_n hx hb dX10_bitsOf_11 rfl (lv_at hl 2 rfl) ?_
  refine lv_iload_n hx hb dX10_bitsOf_12 rfl (lv_at hl 0 rfl) ?_
  refine lv_ishr hx hb dX10_bitsOf_13 ?_
  refine ti_top (y := 0) (by decide) ?_
  refine lv_iconst (v := 1) hx hb dX10_bitsOf_14 (by decide) ?_
  refine lv_iand hx hb dX10_bitsOf_15 ?_
  refine ti_top (y := 0) (by decide) ?_
  refine lv_iadd hx hb dX10_bitsOf_16 ?_
  refine ti_top (y := 0) (by decide) ?_
  refine lv_istore_n (lv' := [(1, .int 0), (2, .int 7), (0, .int 0)]) hx hb dX10_bitsOf_17 rfl hl (by decide) rfl (fun ls hl => ?_)
  refine lv_iinc (v := 8) (lv' := [(2, .int 8), (1, .int 0), (0, .int 0)]) hx hb dX10_bitsOf_18 hl (k := 1) rfl (by decide) (by decide) rfl (fun ls hl => ?_)
  refine lv_goto (tgt := 4) hx hb dX10_bitsOf_21 (by decide) ?_
  refine lv_iload_n hx hb dX10_bitsOf_4 rfl (lv_at hl 0 rfl) ?_
  refine lv_bipush (v := 8) hx hb dX10_bitsOf_5 (by decide) ?_
  refine lv_icmp_ge (tgt := 24) hx hb dX10_bitsOf_7 (by decide) (fun c_7 => ?_) (fun c => absurd (by decide) c)
  refine lv_iload_n hx hb dX10_bitsOf_24 rfl (lv_at hl 1 rfl) ?_
  exact hQ _ _ _ _ _ _ hw rfl (⟨rfl, rfl⟩) dX10_bitsOf_25
set_option maxHeartbeats 4000000 in
set_option maxRecDepth 100000 in
theorem k_howMany_0 (l : Launch) (D : va_G) (A : Nat → Nat → Nat) (cy : Nat → ClassId) (hJ : ti_inj ti_LM A) (M : ti_M) (hw0 : Int32) (h0 : tY M 60 3 0 = 0) : ti_Ki l yX10_howMany cX10_howMany 5 (some .int) 0 ti_LM D A cy M [.ref (A 60 0), .int 0, .int hw0] (fun r M2 => M2 = M ∧ r = 0) := by
  refine ti_eI yp_X10_howMany hJ ti_LM_nd (Nat.le_of_ble_eq_true rfl) ?_
  intro p e s m args below meth c Q H0 C hQ hw ls hl
  have hx := C.1
  have hb := C.2.1
  have hl : lv_has ls 5 [(0, .ref (A 60 0)), (1, .int 0), (2, .int hw0)] := hl
  refine lv_iconst (v := 0) hx hb dX10_howMany_0 (by decide) ?_
  refine lv_istore_n (lv' := [(3, .int 0), (0, .ref (A 60 0)), (1, .int 0), (2, .int hw0)]) hx hb dX10_howMany_1 rfl hl (by decide) rfl (fun ls hl => ?_)
  refine lv_iconst (v := 0) hx hb dX10_howMany_2 (by decide) ?_
  refine lv_istore (lv' := [(4, .int 0), (3, .int 0), (0, .ref (A 60 0)), (1, .int 0), (2, .int hw0)]) hx hb dX10_howMany_3 hl (by decide) rfl (fun ls hl => ?_)
  refine lv_iload hx hb dX10_howMany_5 (lv_at hl 0 rfl) ?_
  refine lv_aload_n hx hb dX10_howMany_7 rfl (lv_at hl 2 rfl) ?_
  refine ti_get (ci := 10) (k := 3) (N := 67) (T := TX10) (v := .ref (A 60 4)) C hw iw_10 rfl ob_60 (by decide) (by decide) fl_X10_13 rfl rfl dX10_howMany_8 ?_
  refine lv_iconst (v := 0) hx hb dX10_howMany_11 (by decide) ?_
  refine ti_iald (ci := 10) (k := 3) (n := 22) C hw ob_60 (by decide) (fun _ _ => rfl) (by unfold vp_in; decide) dX10_howMany_12 ?_
  refine ti_top (y := 0) ((congrFun (rfl) 0).trans h0) ?_
  refine lv_icmp_ge (tgt := 46) hx hb dX10_howMany_13 (by decide) (fun c_13 => ?_) (fun c => absurd (by decide) c)
  refine lv_iload_n hx hb dX10_howMany_46 rfl (lv_at hl 1 rfl) ?_
  exact hQ _ _ _ _ _ _ hw rfl (⟨rfl, rfl⟩) dX10_howMany_47
set_option maxHeartbeats 4000000 in
set_option maxRecDepth 100000 in
theorem k_servedMany_0 (l : Launch) (D : va_G) (A : Nat → Nat → Nat) (cy : Nat → ClassId) (hJ : ti_inj ti_LM A) (M : ti_M) (h0 : tY M 60 3 0 = 0) : ti_Ki l yX10_servedMany cX10_servedMany 2 (some .int) 1 ti_LM D A cy M [.ref (A 60 0), .int 0] (fun r M2 => M2 = M ∧ r = 0) := by
  refine ti_eI yp_X10_servedMany hJ ti_LM_nd (Nat.le_of_ble_eq_true rfl) ?_
  intro p e s m args below meth c Q H0 C hQ hw ls hl
  have hx := C.1
  have hb := C.2.1
  have hl : lv_has ls 2 [(0, .ref (A 60 0)), (1, .int 0)] := hl
  refine lv_aload_n hx hb dX10_servedMany_0 rfl (lv_at hl 0 rfl) ?_
  refine lv_iload_n hx hb dX10_servedMany_1 rfl (lv_at hl 1 rfl) ?_
  refine lv_iconst (v := 2) hx hb dX10_servedMany_2 (by decide) ?_
  refine ti_callVi (ci := 10) (av := [.int 0, .int 2]) C hw (k_howMany_0 l D A cy hJ M 2 ((congrFun (rfl) 0).trans h0)) ⟨ml_X10_494, ym_X10_howMany, yv_X10_howMany, yi_X10_howMany, yc_X10_howMany⟩ yd_X10_howMany ob_60 (by decide) rfl rfl hl.1 (Nat.le_of_ble_eq_true rfl) ⟨by decide, by decide⟩ ⟨Nat.zero_le _, Nat.zero_le _⟩ dX10_servedMany_3 (fun r_1 M_2 H locs hp_2 hw => ?_)
  obtain ⟨hm, rfl⟩ := hp_2
  have hw := hw.to hm
  exact hQ _ _ _ _ _ _ hw rfl (⟨rfl, rfl⟩) dX10_servedMany_6
set_option maxHeartbeats 4000000 in
set_option maxRecDepth 100000 in
theorem k_howMany_1 (l : Launch) (D : va_G) (A : Nat → Nat → Nat) (cy : Nat → ClassId) (hJ : ti_inj ti_LM A) (M : ti_M) (hw0 : Int32) (h0 : tY M 60 3 0 = 0) : ti_Ki l yX10_howMany cX10_howMany 5 (some .int) 0 ti_LM D A cy M [.ref (A 60 0), .int 1, .int hw0] (fun r M2 => M2 = M ∧ r = 0) := by
  refine ti_eI yp_X10_howMany hJ ti_LM_nd (Nat.le_of_ble_eq_true rfl) ?_
  intro p e s m args below meth c Q H0 C hQ hw ls hl
  have hx := C.1
  have hb := C.2.1
  have hl : lv_has ls 5 [(0, .ref (A 60 0)), (1, .int 1), (2, .int hw0)] := hl
  refine lv_iconst (v := 0) hx hb dX10_howMany_0 (by decide) ?_
  refine lv_istore_n (lv' := [(3, .int 0), (0, .ref (A 60 0)), (1, .int 1), (2, .int hw0)]) hx hb dX10_howMany_1 rfl hl (by decide) rfl (fun ls hl => ?_)
  refine lv_iconst (v := 0) hx hb dX10_howMany_2 (by decide) ?_
  refine lv_istore (lv' := [(4, .int 0), (3, .int 0), (0, .ref (A 60 0)), (1, .int 1), (2, .int hw0)]) hx hb dX10_howMany_3 hl (by decide) rfl (fun ls hl => ?_)
  refine lv_iload hx hb dX10_howMany_5 (lv_at hl 0 rfl) ?_
  refine lv_aload_n hx hb dX10_howMany_7 rfl (lv_at hl 2 rfl) ?_
  refine ti_get (ci := 10) (k := 3) (N := 67) (T := TX10) (v := .ref (A 60 4)) C hw iw_10 rfl ob_60 (by decide) (by decide) fl_X10_13 rfl rfl dX10_howMany_8 ?_
  refine lv_iconst (v := 0) hx hb dX10_howMany_11 (by decide) ?_
  refine ti_iald (ci := 10) (k := 3) (n := 22) C hw ob_60 (by decide) (fun _ _ => rfl) (by unfold vp_in; decide) dX10_howMany_12 ?_
  refine ti_top (y := 0) ((congrFun (rfl) 0).trans h0) ?_
  refine lv_icmp_ge (tgt := 46) hx hb dX10_howMany_13 (by decide) (fun c_13 => ?_) (fun c => absurd (by decide) c)
  refine lv_iload_n hx hb dX10_howMany_46 rfl (lv_at hl 1 rfl) ?_
  exact hQ _ _ _ _ _ _ hw rfl (⟨rfl, rfl⟩) dX10_howMany_47
set_option maxHeartbeats 4000000 in
set_option maxRecDepth 100000 in
theorem k_servedMany_1 (l : Launch) (D : va_G) (A : Nat → Nat → Nat) (cy : Nat → ClassId) (hJ : ti_inj ti_LM A) (M : ti_M) (h0 : tY M 60 3 0 = 0) : ti_Ki l yX10_servedMany cX10_servedMany 2 (some .int) 1 ti_LM D A cy M [.ref (A 60 0), .int 1] (fun r M2 => M2 = M ∧ r = 0) := by
  refine ti_eI yp_X10_servedMany hJ ti_LM_nd (Nat.le_of_ble_eq_true rfl) ?_
  intro p e s m args below meth c Q H0 C hQ hw ls hl
  have hx := C.1
  have hb := C.2.1
  have hl : lv_has ls 2 [(0, .ref (A 60 0)), (1, .int 1)] := hl
  refine lv_aload_n hx hb dX10_servedMany_0 rfl (lv_at hl 0 rfl) ?_
  refine lv_iload_n hx hb dX10_servedMany_1 rfl (lv_at hl 1 rfl) ?_
  refine lv_iconst (v := 2) hx hb dX10_servedMany_2 (by decide) ?_
  refine ti_callVi (ci := 10) (av := [.int 1, .int 2]) C hw (k_howMany_1 l D A cy hJ M 2 ((congrFun (rfl) 0).trans h0)) ⟨ml_X10_494, ym_X10_howMany, yv_X10_howMany, yi_X10_howMany, yc_X10_howMany⟩ yd_X10_howMany ob_60 (by decide) rfl rfl hl.1 (Nat.le_of_ble_eq_true rfl) ⟨by decide, by decide⟩ ⟨Nat.zero_le _, Nat.zero_le _⟩ dX10_servedMany_3 (fun r_1 M_2 H locs hp_2 hw => ?_)
  obtain ⟨hm, rfl⟩ := hp_2
  have hw := hw.to hm
  exact hQ _ _ _ _ _ _ hw rfl (⟨rfl, rfl⟩) dX10_servedMany_6
set_option maxHeartbeats 4000000 in
set_option maxRecDepth 100000 in
theorem k_X10_knownMany (l : Launch) (D : va_G) (A : Nat → Nat → Nat) (cy : Nat → ClassId) (hJ : ti_inj ti_LM A) (M : ti_M) (hF : ti_FM M)  : ti_Ki l yX10_knownMany cX10_knownMany 1 (some .int) 0 ti_LM D A cy M [.ref (A 60 0)] (fun r M2 => M2 = M ∧ r = 0) := by
  refine ti_eI yp_X10_knownMany hJ ti_LM_nd (Nat.le_of_ble_eq_true rfl) ?_
  intro p e s m args below meth c Q H0 C hQ hw ls hl
  have hx := C.1
  have hb := C.2.1
  have hl : lv_has ls 1 [(0, .ref (A 60 0))] := hl
  obtain ⟨m_taped, m_lf, m_lp, m_hi, m_un, m_st, m_kb, n0, n3, n5, n7, mi0, wa0, co0, ma0, pw0, pw1, pw2, sf, sto⟩ := id hF
  refine lv_aload_n hx hb dX10_knownMany_0 rfl (lv_at hl 0 rfl) ?_
  refine ti_get (ci := 10) (k := 59) (N := 67) (T := TX10) C hw iw_10 rfl ob_60 (by decide) (by decide) fl_X10_132 rfl rfl dX10_knownMany_1 ?_
  refine ti_top (y := (-1)) (m_kb) ?_
  refine lv_iconst (v := (-1)) hx hb dX10_knownMany_4 (by decide) ?_
  refine lv_icmp_ne (tgt := 15) hx hb dX10_knownMany_5 (by decide) (fun c => absurd (by decide) c) (fun c_5 => ?_)
  refine lv_aload_n hx hb dX10_knownMany_8 rfl (lv_at hl 0 rfl) ?_
  refine ti_get (ci := 10) (k := 58) (N := 67) (T := TX10) C hw iw_10 rfl ob_60 (by decide) (by decide) fl_X10_310 rfl rfl dX10_knownMany_9 ?_
  refine ti_top (y := 0) (m_st) ?_
  refine lv_goto (tgt := 19) hx hb dX10_knownMany_12 (by decide) ?_
  exact hQ _ _ _ _ _ _ hw rfl (⟨rfl, rfl⟩) dX10_knownMany_19
set_option maxHeartbeats 4000000 in
set_option maxRecDepth 100000 in
theorem k_X10_layCame (l : Launch) (D : va_G) (A : Nat → Nat → Nat) (cy : Nat → ClassId) (hJ : ti_inj ti_LM A) (M : ti_M) (hF : ti_FM M) (kk : Int32) : ti_Ki l yX10_layCame cX10_layCame 5 (some .int) 1 ti_LM D A cy M [.ref (A 60 0), .int kk] (fun r M2 => M2 = M ∧ r = 0) := by
  refine ti_eI yp_X10_layCame hJ ti_LM_nd (Nat.le_of_ble_eq_true rfl) ?_
  intro p e s m args below meth c Q H0 C hQ hw ls hl
  have hx := C.1
  have hb := C.2.1
  have hl : lv_has ls 5 [(0, .ref (A 60 0)), (1, .int kk)] := hl
  obtain ⟨m_taped, m_lf, m_lp, m_hi, m_un, m_st, m_kb, n0, n3, n5, n7, mi0, wa0, co0, ma0, pw0, pw1, pw2, sf, sto⟩ := id hF
  refine lv_iconst (v := 0) hx hb dX10_layCame_0 (by decide) ?_
  refine lv_istore_n (lv' := [(2, .int 0), (0, .ref (A 60 0)), (1, .int kk)]) hx hb dX10_layCame_1 rfl hl (by decide) rfl (fun ls hl => ?_)
  refine lv_iload_n hx hb dX10_layCame_2 rfl (lv_at hl 0 rfl) ?_
  refine lv_aload_n hx hb dX10_layCame_3 rfl (lv_at hl 1 rfl) ?_
  refine ti_callVi (ci := 10) (av := []) C hw (k_X10_knownMany l D A cy hJ M ⟨(m_taped), (m_lf), (m_lp), (m_hi), (m_un), (m_st), (m_kb), ((congrFun (rfl) 0).trans n0), ((congrFun (rfl) 3).trans n3), ((congrFun (rfl) 5).trans n5), ((congrFun (rfl) 7).trans n7), ((congrFun (rfl) 0).trans mi0), ((congrFun (rfl) 0).trans wa0), ((congrFun (rfl) 0).trans co0), ((congrFun (rfl) 0).trans ma0), ((congrFun (rfl) 0).trans pw0), ((congrFun (rfl) 1).trans pw1), ((congrFun (rfl) 2).trans pw2), sf, sto⟩) ⟨ml_X10_474, ym_X10_knownMany, yv_X10_knownMany, yi_X10_knownMany, yc_X10_knownMany⟩ yd_X10_knownMany ob_60 (by decide) rfl rfl hl.1 (Nat.le_of_ble_eq_true rfl) ⟨by decide, by decide⟩ ⟨Nat.zero_le _, Nat.zero_le _⟩ dX10_layCame_4 (fun r_1 M_2 H locs hp_2 hw => ?_)
  obtain ⟨hm, rfl⟩ := hp_2
  have hw := hw.to hm
  refine lv_icmp_ge (tgt := 23) hx hb dX10_layCame_7 (by decide) (fun c_7 => ?_) (fun c => absurd (by decide) c)
  refine lv_aload_n hx hb dX10_layCame_23 rfl (lv_at hl 1 rfl) ?_
  refine ti_callVi (ci := 10) (av := []) C hw (k_X10_knownMany l D A cy hJ M ⟨(m_taped), (m_lf), (m_lp), (m_hi), (m_un), (m_st), (m_kb), ((congrFun (rfl) 0).trans n0), ((congrFun (rfl) 3).trans n3), ((congrFun (rfl) 5).trans n5), ((congrFun (rfl) 7).trans n7), ((congrFun (rfl) 0).trans mi0), ((congrFun (rfl) 0).trans wa0), ((congrFun (rfl) 0).trans co0), ((congrFun (rfl) 0).trans ma0), ((congrFun (rfl) 0).trans pw0), ((congrFun (rfl) 1).trans pw1), ((congrFun (rfl) 2).trans pw2), sf, sto⟩) ⟨ml_X10_474, ym_X10_knownMany, yv_X10_knownMany, yi_X10_knownMany, yc_X10_knownMany⟩ yd_X10_knownMany ob_60 (by decide) rfl rfl hl.1 (Nat.le_of_ble_eq_true rfl) ⟨by decide, by decide⟩ ⟨Nat.zero_le _, Nat.zero_le _⟩ dX10_layCame_24 (fun r_3 M_4 H locs hp_4 hw => ?_)
  obtain ⟨hm, rfl⟩ := hp_4
  have hw := hw.to hm
  refine lv_iconst (v := 1) hx hb dX10_layCame_27 (by decide) ?_
  refine lv_isub hx hb dX10_layCame_28 ?_
  refine ti_top (y := (-1)) (by decide) ?_
  refine lv_istore_n (lv' := [(2, .int (-1)), (0, .ref (A 60 0)), (1, .int kk)]) hx hb dX10_layCame_29 rfl hl (by decide) rfl (fun ls hl => ?_)
  refine lv_iload_n hx hb dX10_layCame_30 rfl (lv_at hl 0 rfl) ?_
  refine lv_if_lt (tgt := 71) hx hb dX10_layCame_31 (by decide) (fun c_31 => ?_) (fun c => absurd (by decide) c)
  refine lv_iconst (v := 0) hx hb dX10_layCame_71 (by decide) ?_
  refine lv_istore_n (lv' := [(2, .int 0), (0, .ref (A 60 0)), (1, .int kk)]) hx hb dX10_layCame_72 rfl hl (by decide) rfl (fun ls hl => ?_)
  refine lv_iconst (v := 0) hx hb dX10_layCame_73 (by decide) ?_
  refine lv_istore_n (lv' := [(3, .int 0), (2, .int 0), (0, .ref (A 60 0)), (1, .int kk)]) hx hb dX10_layCame_74 rfl hl (by decide) rfl (fun ls hl => ?_)
  refine lv_iload_n hx hb dX10_layCame_75 rfl (lv_at hl 0 rfl) ?_
  refine lv_aload_n hx hb dX10_layCame_76 rfl (lv_at hl 2 rfl) ?_
  refine ti_get (ci := 10) (k := 3) (N := 67) (T := TX10) (v := .ref (A 60 4)) C hw iw_10 rfl ob_60 (by decide) (by decide) fl_X10_13 rfl rfl dX10_layCame_77 ?_
  refine lv_iconst (v := 0) hx hb dX10_layCame_80 (by decide) ?_
  refine ti_iald (ci := 10) (k := 3) (n := 22) C hw ob_60 (by decide) (fun _ _ => rfl) (by unfold vp_in; decide) dX10_layCame_81 ?_
  refine ti_top (y := 0) ((congrFun (rfl) 0).trans n0) ?_
  refine lv_icmp_ge (tgt := 139) hx hb dX10_layCame_82 (by decide) (fun c_82 => ?_) (fun c => absurd (by decide) c)
  refine lv_iload_n hx hb dX10_layCame_139 rfl (lv_at hl 1 rfl) ?_
  exact hQ _ _ _ _ _ _ hw rfl (⟨rfl, rfl⟩) dX10_layCame_140
theorem ti_inlt {x : Int32} {n : Nat} (h : vp_in x n) : x.toNatClampNeg < n := Nat.lt_of_not_le (fun q => h (Or.inr q))
theorem ti_in36 {x : Int32} (h : vp_in x 3) : vp_in x 6 := fun q => q.elim (fun a => h (Or.inl a)) (fun a => h (Or.inr (by omega)))
set_option maxHeartbeats 4000000 in
set_option maxRecDepth 100000 in
theorem k_X10_hasLaw (l : Launch) (D : va_G) (A : Nat → Nat → Nat) (cy : Nat → ClassId) (hJ : ti_inj ti_LM A) (M : ti_M) (hF : ti_FM M) (kk : Int32) (hk : vp_in kk 3) : ti_Ki l yX10_hasLaw cX10_hasLaw 2 (some .boolean) 0 ti_LM D A cy M [.ref (A 60 0), .int kk] (fun r M2 => M2 = M ∧ r = 0) := by
  refine ti_eI yp_X10_hasLaw hJ ti_LM_nd (Nat.le_of_ble_eq_true rfl) ?_
  intro p e s m args below meth c Q H0 C hQ hw ls hl
  have hx := C.1
  have hb := C.2.1
  have hl : lv_has ls 2 [(0, .ref (A 60 0)), (1, .int kk)] := hl
  obtain ⟨m_taped, m_lf, m_lp, m_hi, m_un, m_st, m_kb, n0, n3, n5, n7, mi0, wa0, co0, ma0, pw0, pw1, pw2, sf, sto⟩ := id hF
  refine lv_aload_n hx hb dX10_hasLaw_0 rfl (lv_at hl 0 rfl) ?_
  refine ti_get (ci := 10) (k := 15) (N := 67) (T := TX10) (v := .ref (A 60 16)) C hw iw_10 rfl ob_60 (by decide) (by decide) fl_X10_49 rfl rfl dX10_hasLaw_1 ?_
  refine lv_iload_n hx hb dX10_hasLaw_4 rfl (lv_at hl 1 rfl) ?_
  refine ti_iald (ci := 10) (k := 15) (n := 6) C hw ob_60 (by decide) (fun _ _ => rfl) (ti_in36 hk) dX10_hasLaw_5 ?_
  refine ti_top (y := 0) (sto _ (ti_inlt hk)) ?_
  refine lv_aload_n hx hb dX10_hasLaw_6 rfl (lv_at hl 0 rfl) ?_
  refine ti_get (ci := 10) (k := 14) (N := 67) (T := TX10) (v := .ref (A 60 15)) C hw iw_10 rfl ob_60 (by decide) (by decide) fl_X10_46 rfl rfl dX10_hasLaw_7 ?_
  refine lv_iload_n hx hb dX10_hasLaw_10 rfl (lv_at hl 1 rfl) ?_
  refine ti_iald (ci := 10) (k := 14) (n := 6) C hw ob_60 (by decide) (fun _ _ => rfl) (ti_in36 hk) dX10_hasLaw_11 ?_
  refine ti_top (y := 0) (sf _ (ti_inlt hk)) ?_
  refine lv_icmp_le (tgt := 19) hx hb dX10_hasLaw_12 (by decide) (fun c_12 => ?_) (fun c => absurd (by decide) c)
  refine lv_iconst (v := 0) hx hb dX10_hasLaw_19 (by decide) ?_
  exact hQ _ _ _ _ _ _ hw rfl (⟨rfl, rfl⟩) dX10_hasLaw_20
set_option maxHeartbeats 4000000 in
set_option maxRecDepth 100000 in
theorem k_X10_fault (l : Launch) (D : va_G) (A : Nat → Nat → Nat) (cy : Nat → ClassId) (hJ : ti_inj ti_LM A) (M : ti_M) (hF : ti_FM M) (z : Int32) : ti_Ki l yX10_fault cX10_fault 2 (some .int) 0 ti_LM D A cy M [.ref (A 60 0), .int z] (fun r _ => r = pf_fault z) := by
  refine ti_eI yp_X10_fault hJ ti_LM_nd (Nat.le_of_ble_eq_true rfl) ?_
  intro p e s m args below meth c Q H0 C hQ hw ls hl
  have hx := C.1
  have hb := C.2.1
  have hl : lv_has ls 2 [(0, .ref (A 60 0)), (1, .int z)] := hl
  obtain ⟨m_taped, m_lf, m_lp, m_hi, m_un, m_st, m_kb, n0, n3, n5, n7, mi0, wa0, co0, ma0, pw0, pw1, pw2, sf, sto⟩ := id hF
  refine lv_aload_n hx hb dX10_fault_0 rfl (lv_at hl 0 rfl) ?_
  refine lv_iconst (v := 0) hx hb dX10_fault_1 (by decide) ?_
  refine ti_putI (ci := 10) (k := 0) (N := 67) (T := TX10) C hw iw_10 tyX10 tyX10_ok nmX10 rfl ob_60 (by decide) (by decide) fl_X10_154 rfl rfl rfl rfl (fn_10 A _) fs_10_0 dX10_fault_2 (fun H locs hw => ?_)
  refine lv_iload_n hx hb dX10_fault_5 rfl (lv_at hl 1 rfl) ?_
  refine lv_if_ne (tgt := 16) hx hb dX10_fault_6 (by decide) (fun c_6 => ?_) (fun c_6 => ?_)
  · refine lv_iload_n hx hb dX10_fault_16 rfl (lv_at hl 1 rfl) ?_
    refine lv_iconst (v := 1) hx hb dX10_fault_17 (by decide) ?_
    refine lv_icmp_ne (tgt := 28) hx hb dX10_fault_18 (by decide) (fun c_18 => ?_) (fun c_18 => ?_)
    · refine lv_iconst (v := (-1)) hx hb dX10_fault_28 (by decide) ?_
      exact hQ _ _ _ _ _ _ hw rfl (by unfold pf_fault; (try simp only [Int32.lt_iff_toInt_lt, Int32.le_iff_toInt_le, ← Int32.toInt_inj, ti_l0, ti_l1, ti_l2, ti_l3, ti_l5, ti_l7, ti_l8, ti_l24, ti_l59, ti_l60, ti_l119, ti_l120, ti_lm1, ti_lm2] at c_6); (try simp only [Int32.lt_iff_toInt_lt, Int32.le_iff_toInt_le, ← Int32.toInt_inj, ti_l0, ti_l1, ti_l2, ti_l3, ti_l5, ti_l7, ti_l8, ti_l24, ti_l59, ti_l60, ti_l119, ti_l120, ti_lm1, ti_lm2] at c_18); (try simp only [Int32.lt_iff_toInt_lt, Int32.le_iff_toInt_le, ← Int32.toInt_inj, ti_l0, ti_l1, ti_l2, ti_l3, ti_l5, ti_l7, ti_l8, ti_l24, ti_l59, ti_l60, ti_l119, ti_l120, ti_lm1, ti_lm2]); (repeat' split) <;> first | rfl | omega) dX10_fault_29
    · refine lv_aload_n hx hb dX10_fault_21 rfl (lv_at hl 0 rfl) ?_
      refine ti_get (ci := 10) (k := 28) (N := 67) (T := TX10) C hw iw_10 rfl ob_60 (by decide) (by decide) fl_X10_58 rfl rfl dX10_fault_22 ?_
      refine ti_top (y := (-1)) ((tI_k _ _ _ _ (by decide)).trans m_lp) ?_
      refine lv_goto (tgt := 29) hx hb dX10_fault_25 (by decide) ?_
      exact hQ _ _ _ _ _ _ hw rfl (by unfold pf_fault; (try simp only [Int32.lt_iff_toInt_lt, Int32.le_iff_toInt_le, ← Int32.toInt_inj, ti_l0, ti_l1, ti_l2, ti_l3, ti_l5, ti_l7, ti_l8, ti_l24, ti_l59, ti_l60, ti_l119, ti_l120, ti_lm1, ti_lm2] at c_6); (try simp only [Int32.lt_iff_toInt_lt, Int32.le_iff_toInt_le, ← Int32.toInt_inj, ti_l0, ti_l1, ti_l2, ti_l3, ti_l5, ti_l7, ti_l8, ti_l24, ti_l59, ti_l60, ti_l119, ti_l120, ti_lm1, ti_lm2] at c_18); (try simp only [Int32.lt_iff_toInt_lt, Int32.le_iff_toInt_le, ← Int32.toInt_inj, ti_l0, ti_l1, ti_l2, ti_l3, ti_l5, ti_l7, ti_l8, ti_l24, ti_l59, ti_l60, ti_l119, ti_l120, ti_lm1, ti_lm2]); (repeat' split) <;> first | rfl | omega) dX10_fault_29
  · refine lv_aload_n hx hb dX10_fault_9 rfl (lv_at hl 0 rfl) ?_
    refine ti_get (ci := 10) (k := 27) (N := 67) (T := TX10) C hw iw_10 rfl ob_60 (by decide) (by decide) fl_X10_303 rfl rfl dX10_fault_10 ?_
    refine ti_top (y := 0) ((tI_k _ _ _ _ (by decide)).trans m_lf) ?_
    refine lv_goto (tgt := 29) hx hb dX10_fault_13 (by decide) ?_
    exact hQ _ _ _ _ _ _ hw rfl (by unfold pf_fault; (try simp only [Int32.lt_iff_toInt_lt, Int32.le_iff_toInt_le, ← Int32.toInt_inj, ti_l0, ti_l1, ti_l2, ti_l3, ti_l5, ti_l7, ti_l8, ti_l24, ti_l59, ti_l60, ti_l119, ti_l120, ti_lm1, ti_lm2] at c_6); (try simp only [Int32.lt_iff_toInt_lt, Int32.le_iff_toInt_le, ← Int32.toInt_inj, ti_l0, ti_l1, ti_l2, ti_l3, ti_l5, ti_l7, ti_l8, ti_l24, ti_l59, ti_l60, ti_l119, ti_l120, ti_lm1, ti_lm2]); (repeat' split) <;> first | rfl | omega) dX10_fault_29
set_option maxHeartbeats 4000000 in
set_option maxRecDepth 100000 in
theorem k_X10_named (l : Launch) (D : va_G) (A : Nat → Nat → Nat) (cy : Nat → ClassId) (hJ : ti_inj ti_LM A) (M : ti_M) (hF : ti_FM M) (z : Int32) : ti_Ki l yX10_named cX10_named 2 (some .int) 1 ti_LM D A cy M [.ref (A 60 0), .int z] (fun r _ => r = (-1)) := by
  refine ti_eI yp_X10_named hJ ti_LM_nd (Nat.le_of_ble_eq_true rfl) ?_
  intro p e s m args below meth c Q H0 C hQ hw ls hl
  have hx := C.1
  have hb := C.2.1
  have hl : lv_has ls 2 [(0, .ref (A 60 0)), (1, .int z)] := hl
  obtain ⟨m_taped, m_lf, m_lp, m_hi, m_un, m_st, m_kb, n0, n3, n5, n7, mi0, wa0, co0, ma0, pw0, pw1, pw2, sf, sto⟩ := id hF
  refine lv_aload_n hx hb dX10_named_0 rfl (lv_at hl 0 rfl) ?_
  refine lv_iconst (v := 0) hx hb dX10_named_1 (by decide) ?_
  refine ti_putI (ci := 10) (k := 0) (N := 67) (T := TX10) C hw iw_10 tyX10 tyX10_ok nmX10 rfl ob_60 (by decide) (by decide) fl_X10_154 rfl rfl rfl rfl (fn_10 A _) fs_10_0 dX10_named_2 (fun H locs hw => ?_)
  refine lv_aload_n hx hb dX10_named_5 rfl (lv_at hl 0 rfl) ?_
  refine ti_get (ci := 10) (k := 4) (N := 67) (T := TX10) (v := .ref (A 60 5)) C hw iw_10 rfl ob_60 (by decide) (by decide) fl_X10_16 rfl rfl dX10_named_6 ?_
  refine lv_iconst (v := 0) hx hb dX10_named_9 (by decide) ?_
  refine lv_aload_n hx hb dX10_named_10 rfl (lv_at hl 0 rfl) ?_
  refine ti_get (ci := 10) (k := 3) (N := 67) (T := TX10) (v := .ref (A 60 4)) C hw iw_10 rfl ob_60 (by decide) (by decide) fl_X10_13 rfl rfl dX10_named_11 ?_
  refine lv_iconst (v := 0) hx hb dX10_named_14 (by decide) ?_
  refine ti_iald (ci := 10) (k := 3) (n := 22) C hw ob_60 (by decide) (fun _ _ => rfl) (by unfold vp_in; decide) dX10_named_15 ?_
  refine ti_top (y := 0) ((congrFun ((tY_uI _ _ _ _ _ _).trans rfl) 0).trans n0) ?_
  refine lv_iload_n hx hb dX10_named_16 rfl (lv_at hl 1 rfl) ?_
  refine ti_callSi (av := [.ref (A 60 5), .int 0, .int 0, .int z]) C hw (k_X10_found l D A cy hJ (uI M 60 0 0) 0 z) ⟨ml_X10_220, ys_X10_found, yi_X10_found, yc_X10_found⟩ yd_X10_found rfl hl.1 (Nat.le_of_ble_eq_true rfl) ⟨by decide, by decide⟩ ⟨Nat.zero_le _, Nat.zero_le _⟩ dX10_named_17 (fun r_1 M_2 H locs hp_2 hw => ?_)
  obtain ⟨hm, rfl⟩ := hp_2
  have hw := hw.to hm
  exact hQ _ _ _ _ _ _ hw rfl rfl dX10_named_20
set_option maxHeartbeats 4000000 in
set_option maxRecDepth 100000 in
theorem k_X10_stands (l : Launch) (D : va_G) (A : Nat → Nat → Nat) (cy : Nat → ClassId) (hJ : ti_inj ti_LM A) (M : ti_M) (hF : ti_FM M) (z : Int32) : ti_Ki l yX10_stands cX10_stands 2 (some .int) 1 ti_LM D A cy M [.ref (A 60 0), .int z] (fun r _ => r = pf_stands z) := by
  refine ti_eI yp_X10_stands hJ ti_LM_nd (Nat.le_of_ble_eq_true rfl) ?_
  intro p e s m args below meth c Q H0 C hQ hw ls hl
  have hx := C.1
  have hb := C.2.1
  have hl : lv_has ls 2 [(0, .ref (A 60 0)), (1, .int z)] := hl
  obtain ⟨m_taped, m_lf, m_lp, m_hi, m_un, m_st, m_kb, n0, n3, n5, n7, mi0, wa0, co0, ma0, pw0, pw1, pw2, sf, sto⟩ := id hF
  refine lv_aload_n hx hb dX10_stands_0 rfl (lv_at hl 0 rfl) ?_
  refine lv_iconst (v := 0) hx hb dX10_stands_1 (by decide) ?_
  refine ti_putI (ci := 10) (k := 0) (N := 67) (T := TX10) C hw iw_10 tyX10 tyX10_ok nmX10 rfl ob_60 (by decide) (by decide) fl_X10_154 rfl rfl rfl rfl (fn_10 A _) fs_10_0 dX10_stands_2 (fun H locs hw => ?_)
  refine lv_iload_n hx hb dX10_stands_5 rfl (lv_at hl 1 rfl) ?_
  refine ti_callSi (av := [.int z]) C hw (k_X10_isPlace l D A cy hJ (uI M 60 0 0) z) ⟨ml_X10_414, ys_X10_isPlace, yi_X10_isPlace, yc_X10_isPlace⟩ yd_X10_isPlace rfl hl.1 (Nat.le_of_ble_eq_true rfl) ⟨by decide, by decide⟩ ⟨Nat.zero_le _, Nat.zero_le _⟩ dX10_stands_6 (fun r_1 M_2 H locs hp_2 hw => ?_)
  obtain ⟨hm, hz⟩ := hp_2
  have hw := hw.to hm
  rcases hz with ⟨rfl, g_3, g_4⟩ | ⟨rfl, g_5⟩
  · refine lv_if_eq (tgt := 21) hx hb dX10_stands_9 (by decide) (fun c => absurd c (by decide)) (fun c_9 => ?_)
    refine lv_aload_n hx hb dX10_stands_12 rfl (lv_at hl 0 rfl) ?_
    refine lv_iconst (v := 0) hx hb dX10_stands_13 (by decide) ?_
    refine lv_iload_n hx hb dX10_stands_14 rfl (lv_at hl 1 rfl) ?_
    refine ti_callVi (ci := 10) (av := [.int 0, .int z]) C hw (k_standsAt_0 l D A cy hJ (uI M 60 0 0) z ((congrFun ((tY_uI _ _ _ _ _ _).trans rfl) 0).trans ma0) (by assumption)) ⟨ml_X10_417, ym_X10_standsAt, yv_X10_standsAt, yi_X10_standsAt, yc_X10_standsAt⟩ yd_X10_standsAt ob_60 (by decide) rfl rfl hl.1 (Nat.le_of_ble_eq_true rfl) ⟨by decide, by decide⟩ ⟨Nat.zero_le _, Nat.zero_le _⟩ dX10_stands_15 (fun r_6 M_7 H locs hp_7 hw => ?_)
    obtain ⟨hm, rfl⟩ := hp_7
    have hw := hw.to hm
    refine lv_goto (tgt := 22) hx hb dX10_stands_18 (by decide) ?_
    exact hQ _ _ _ _ _ _ hw rfl (by unfold pf_stands; (try simp only [Int32.lt_iff_toInt_lt, Int32.le_iff_toInt_le, ← Int32.toInt_inj, ti_l0, ti_l1, ti_l2, ti_l3, ti_l5, ti_l7, ti_l8, ti_l24, ti_l59, ti_l60, ti_l119, ti_l120, ti_lm1, ti_lm2] at g_3); (try simp only [Int32.lt_iff_toInt_lt, Int32.le_iff_toInt_le, ← Int32.toInt_inj, ti_l0, ti_l1, ti_l2, ti_l3, ti_l5, ti_l7, ti_l8, ti_l24, ti_l59, ti_l60, ti_l119, ti_l120, ti_lm1, ti_lm2] at g_4); (try simp only [Int32.lt_iff_toInt_lt, Int32.le_iff_toInt_le, ← Int32.toInt_inj, ti_l0, ti_l1, ti_l2, ti_l3, ti_l5, ti_l7, ti_l8, ti_l24, ti_l59, ti_l60, ti_l119, ti_l120, ti_lm1, ti_lm2] at c_9); (try simp only [Int32.lt_iff_toInt_lt, Int32.le_iff_toInt_le, ← Int32.toInt_inj, ti_l0, ti_l1, ti_l2, ti_l3, ti_l5, ti_l7, ti_l8, ti_l24, ti_l59, ti_l60, ti_l119, ti_l120, ti_lm1, ti_lm2]); (repeat' split) <;> first | rfl | omega) dX10_stands_22
  · refine lv_if_eq (tgt := 21) hx hb dX10_stands_9 (by decide) (fun c_9 => ?_) (fun c => absurd (by decide) c)
    refine lv_iconst (v := (-1)) hx hb dX10_stands_21 (by decide) ?_
    exact hQ _ _ _ _ _ _ hw rfl (by unfold pf_stands; (try simp only [Int32.lt_iff_toInt_lt, Int32.le_iff_toInt_le, ← Int32.toInt_inj, ti_l0, ti_l1, ti_l2, ti_l3, ti_l5, ti_l7, ti_l8, ti_l24, ti_l59, ti_l60, ti_l119, ti_l120, ti_lm1, ti_lm2] at g_5); (try simp only [Int32.lt_iff_toInt_lt, Int32.le_iff_toInt_le, ← Int32.toInt_inj, ti_l0, ti_l1, ti_l2, ti_l3, ti_l5, ti_l7, ti_l8, ti_l24, ti_l59, ti_l60, ti_l119, ti_l120, ti_lm1, ti_lm2] at c_9); (try simp only [Int32.lt_iff_toInt_lt, Int32.le_iff_toInt_le, ← Int32.toInt_inj, ti_l0, ti_l1, ti_l2, ti_l3, ti_l5, ti_l7, ti_l8, ti_l24, ti_l59, ti_l60, ti_l119, ti_l120, ti_lm1, ti_lm2]); (repeat' split) <;> first | rfl | omega) dX10_stands_22
set_option maxHeartbeats 4000000 in
set_option maxRecDepth 100000 in
theorem k_X10_coup (l : Launch) (D : va_G) (A : Nat → Nat → Nat) (cy : Nat → ClassId) (hJ : ti_inj ti_LM A) (M : ti_M) (hF : ti_FM M)  : ti_Ki l yX10_coup cX10_coup 4 (some .int) 0 ti_LM D A cy M [.ref (A 60 0)] (fun r _ => r = (-1)) := by
  refine ti_eI yp_X10_coup hJ ti_LM_nd (Nat.le_of_ble_eq_true rfl) ?_
  intro p e s m args below meth c Q H0 C hQ hw ls hl
  have hx := C.1
  have hb := C.2.1
  have hl : lv_has ls 4 [(0, .ref (A 60 0))] := hl
  obtain ⟨m_taped, m_lf, m_lp, m_hi, m_un, m_st, m_kb, n0, n3, n5, n7, mi0, wa0, co0, ma0, pw0, pw1, pw2, sf, sto⟩ := id hF
  refine lv_aload_n hx hb dX10_coup_0 rfl (lv_at hl 0 rfl) ?_
  refine lv_iconst (v := 0) hx hb dX10_coup_1 (by decide) ?_
  refine ti_putI (ci := 10) (k := 0) (N := 67) (T := TX10) C hw iw_10 tyX10 tyX10_ok nmX10 rfl ob_60 (by decide) (by decide) fl_X10_154 rfl rfl rfl rfl (fn_10 A _) fs_10_0 dX10_coup_2 (fun H locs hw => ?_)
  refine lv_aload_n hx hb dX10_coup_5 rfl (lv_at hl 0 rfl) ?_
  refine ti_get (ci := 10) (k := 38) (N := 67) (T := TX10) (v := .ref (A 60 39)) C hw iw_10 rfl ob_60 (by decide) (by decide) fl_X10_81 rfl rfl dX10_coup_6 ?_
  refine lv_iconst (v := 0) hx hb dX10_coup_9 (by decide) ?_
  refine ti_iald (ci := 10) (k := 38) (n := 23) C hw ob_60 (by decide) (fun _ _ => rfl) (by unfold vp_in; decide) dX10_coup_10 ?_
  refine ti_top (y := 0) ((congrFun ((tY_uI _ _ _ _ _ _).trans rfl) 0).trans ma0) ?_
  refine lv_if_ne (tgt := 16) hx hb dX10_coup_11 (by decide) (fun c => absurd (by decide) c) (fun c_11 => ?_)
  refine lv_iconst (v := (-1)) hx hb dX10_coup_14 (by decide) ?_
  exact hQ _ _ _ _ _ _ hw rfl rfl dX10_coup_15
set_option maxHeartbeats 4000000 in
set_option maxRecDepth 100000 in
theorem k_X10_back (l : Launch) (D : va_G) (A : Nat → Nat → Nat) (cy : Nat → ClassId) (hJ : ti_inj ti_LM A) (M : ti_M) (hF : ti_FM M)  : ti_Ki l yX10_back cX10_back 1 (some .int) 0 ti_LM D A cy M [.ref (A 60 0)] (fun r _ => r = (-1)) := by
  refine ti_eI yp_X10_back hJ ti_LM_nd (Nat.le_of_ble_eq_true rfl) ?_
  intro p e s m args below meth c Q H0 C hQ hw ls hl
  have hx := C.1
  have hb := C.2.1
  have hl : lv_has ls 1 [(0, .ref (A 60 0))] := hl
  obtain ⟨m_taped, m_lf, m_lp, m_hi, m_un, m_st, m_kb, n0, n3, n5, n7, mi0, wa0, co0, ma0, pw0, pw1, pw2, sf, sto⟩ := id hF
  refine lv_aload_n hx hb dX10_back_0 rfl (lv_at hl 0 rfl) ?_
  refine lv_iconst (v := 0) hx hb dX10_back_1 (by decide) ?_
  refine ti_putI (ci := 10) (k := 0) (N := 67) (T := TX10) C hw iw_10 tyX10 tyX10_ok nmX10 rfl ob_60 (by decide) (by decide) fl_X10_154 rfl rfl rfl rfl (fn_10 A _) fs_10_0 dX10_back_2 (fun H locs hw => ?_)
  refine lv_aload_n hx hb dX10_back_5 rfl (lv_at hl 0 rfl) ?_
  refine ti_get (ci := 10) (k := 51) (N := 67) (T := TX10) C hw iw_10 rfl ob_60 (by decide) (by decide) fl_X10_313 rfl rfl dX10_back_6 ?_
  refine ti_top (y := 0) ((tI_k _ _ _ _ (by decide)).trans m_hi) ?_
  refine lv_if_ne (tgt := 14) hx hb dX10_back_9 (by decide) (fun c => absurd (by decide) c) (fun c_9 => ?_)
  refine lv_iconst (v := (-1)) hx hb dX10_back_12 (by decide) ?_
  exact hQ _ _ _ _ _ _ hw rfl rfl dX10_back_13
set_option maxHeartbeats 4000000 in
set_option maxRecDepth 100000 in
theorem k_X10_undo (l : Launch) (D : va_G) (A : Nat → Nat → Nat) (cy : Nat → ClassId) (hJ : ti_inj ti_LM A) (M : ti_M) (hF : ti_FM M)  : ti_Ki l yX10_undo cX10_undo 1 (some .int) 0 ti_LM D A cy M [.ref (A 60 0)] (fun r _ => r = (-1)) := by
  refine ti_eI yp_X10_undo hJ ti_LM_nd (Nat.le_of_ble_eq_true rfl) ?_
  intro p e s m args below meth c Q H0 C hQ hw ls hl
  have hx := C.1
  have hb := C.2.1
  have hl : lv_has ls 1 [(0, .ref (A 60 0))] := hl
  obtain ⟨m_taped, m_lf, m_lp, m_hi, m_un, m_st, m_kb, n0, n3, n5, n7, mi0, wa0, co0, ma0, pw0, pw1, pw2, sf, sto⟩ := id hF
  refine lv_aload_n hx hb dX10_undo_0 rfl (lv_at hl 0 rfl) ?_
  refine lv_iconst (v := 0) hx hb dX10_undo_1 (by decide) ?_
  refine ti_putI (ci := 10) (k := 0) (N := 67) (T := TX10) C hw iw_10 tyX10 tyX10_ok nmX10 rfl ob_60 (by decide) (by decide) fl_X10_154 rfl rfl rfl rfl (fn_10 A _) fs_10_0 dX10_undo_2 (fun H locs hw => ?_)
  refine lv_aload_n hx hb dX10_undo_5 rfl (lv_at hl 0 rfl) ?_
  refine ti_get (ci := 10) (k := 52) (N := 67) (T := TX10) C hw iw_10 rfl ob_60 (by decide) (by decide) fl_X10_317 rfl rfl dX10_undo_6 ?_
  refine ti_top (y := 0) ((tI_k _ _ _ _ (by decide)).trans m_un) ?_
  refine lv_if_ne (tgt := 14) hx hb dX10_undo_9 (by decide) (fun c => absurd (by decide) c) (fun c_9 => ?_)
  refine lv_iconst (v := (-1)) hx hb dX10_undo_12 (by decide) ?_
  exact hQ _ _ _ _ _ _ hw rfl rfl dX10_undo_13
set_option maxHeartbeats 4000000 in
set_option maxRecDepth 100000 in
theorem k_X10_join (l : Launch) (D : va_G) (A : Nat → Nat → Nat) (cy : Nat → ClassId) (hJ : ti_inj ti_LM A) (M : ti_M) (hF : ti_FM M) (z : Int32) : ti_Ki l yX10_join cX10_join 2 (some .int) 3 ti_LM D A cy M [.ref (A 60 0), .int z] (fun r _ => r = (-1)) := by
  refine ti_eI yp_X10_join hJ ti_LM_nd (Nat.le_of_ble_eq_true rfl) ?_
  intro p e s m args below meth c Q H0 C hQ hw ls hl
  have hx := C.1
  have hb := C.2.1
  have hl : lv_has ls 2 [(0, .ref (A 60 0)), (1, .int z)] := hl
  obtain ⟨m_taped, m_lf, m_lp, m_hi, m_un, m_st, m_kb, n0, n3, n5, n7, mi0, wa0, co0, ma0, pw0, pw1, pw2, sf, sto⟩ := id hF
  refine lv_aload_n hx hb dX10_join_0 rfl (lv_at hl 0 rfl) ?_
  refine lv_iconst (v := 0) hx hb dX10_join_1 (by decide) ?_
  refine ti_putI (ci := 10) (k := 0) (N := 67) (T := TX10) C hw iw_10 tyX10 tyX10_ok nmX10 rfl ob_60 (by decide) (by decide) fl_X10_154 rfl rfl rfl rfl (fn_10 A _) fs_10_0 dX10_join_2 (fun H locs hw => ?_)
  refine lv_aload_n hx hb dX10_join_5 rfl (lv_at hl 0 rfl) ?_
  refine lv_iload_n hx hb dX10_join_6 rfl (lv_at hl 1 rfl) ?_
  refine ti_callVi (ci := 10) (av := [.int z]) C hw (k_X10_isToCome l D A cy hJ (uI M 60 0 0) ⟨((tI_k _ _ _ _ (by decide)).trans m_taped), ((tI_k _ _ _ _ (by decide)).trans m_lf), ((tI_k _ _ _ _ (by decide)).trans m_lp), ((tI_k _ _ _ _ (by decide)).trans m_hi), ((tI_k _ _ _ _ (by decide)).trans m_un), ((tI_k _ _ _ _ (by decide)).trans m_st), ((tI_k _ _ _ _ (by decide)).trans m_kb), ((congrFun ((tY_uI _ _ _ _ _ _).trans rfl) 0).trans n0), ((congrFun ((tY_uI _ _ _ _ _ _).trans rfl) 3).trans n3), ((congrFun ((tY_uI _ _ _ _ _ _).trans rfl) 5).trans n5), ((congrFun ((tY_uI _ _ _ _ _ _).trans rfl) 7).trans n7), ((congrFun ((tY_uI _ _ _ _ _ _).trans rfl) 0).trans mi0), ((congrFun ((tY_uI _ _ _ _ _ _).trans rfl) 0).trans wa0), ((congrFun ((tY_uI _ _ _ _ _ _).trans rfl) 0).trans co0), ((congrFun ((tY_uI _ _ _ _ _ _).trans rfl) 0).trans ma0), ((congrFun ((tY_uI _ _ _ _ _ _).trans rfl) 0).trans pw0), ((congrFun ((tY_uI _ _ _ _ _ _).trans rfl) 1).trans pw1), ((congrFun ((tY_uI _ _ _ _ _ _).trans rfl) 2).trans pw2), sf, sto⟩ z) ⟨ml_X10_433, ym_X10_isToCome, yv_X10_isToCome, yi_X10_isToCome, yc_X10_isToCome⟩ yd_X10_isToCome ob_60 (by decide) rfl rfl hl.1 (Nat.le_of_ble_eq_true rfl) ⟨by decide, by decide⟩ ⟨Nat.zero_le _, Nat.zero_le _⟩ dX10_join_7 (fun r_1 M_2 H locs hp_2 hw => ?_)
  obtain ⟨hm, rfl⟩ := hp_2
  have hw := hw.to hm
  refine lv_if_ne (tgt := 15) hx hb dX10_join_10 (by decide) (fun c => absurd (by decide) c) (fun c_10 => ?_)
  refine lv_iconst (v := (-1)) hx hb dX10_join_13 (by decide) ?_
  exact hQ _ _ _ _ _ _ hw rfl rfl dX10_join_14
set_option maxHeartbeats 4000000 in
set_option maxRecDepth 100000 in
theorem k_X10_out (l : Launch) (D : va_G) (A : Nat → Nat → Nat) (cy : Nat → ClassId) (hJ : ti_inj ti_LM A) (M : ti_M) (hF : ti_FM M) (z : Int32) : ti_Ki l yX10_out cX10_out 2 (some .boolean) 3 ti_LM D A cy M [.ref (A 60 0), .int z] (fun r _ => r = 0) := by
  refine ti_eI yp_X10_out hJ ti_LM_nd (Nat.le_of_ble_eq_true rfl) ?_
  intro p e s m args below meth c Q H0 C hQ hw ls hl
  have hx := C.1
  have hb := C.2.1
  have hl : lv_has ls 2 [(0, .ref (A 60 0)), (1, .int z)] := hl
  obtain ⟨m_taped, m_lf, m_lp, m_hi, m_un, m_st, m_kb, n0, n3, n5, n7, mi0, wa0, co0, ma0, pw0, pw1, pw2, sf, sto⟩ := id hF
  refine lv_aload_n hx hb dX10_out_0 rfl (lv_at hl 0 rfl) ?_
  refine lv_iconst (v := 0) hx hb dX10_out_1 (by decide) ?_
  refine ti_putI (ci := 10) (k := 0) (N := 67) (T := TX10) C hw iw_10 tyX10 tyX10_ok nmX10 rfl ob_60 (by decide) (by decide) fl_X10_154 rfl rfl rfl rfl (fn_10 A _) fs_10_0 dX10_out_2 (fun H locs hw => ?_)
  refine lv_aload_n hx hb dX10_out_5 rfl (lv_at hl 0 rfl) ?_
  refine lv_iload_n hx hb dX10_out_6 rfl (lv_at hl 1 rfl) ?_
  refine ti_callVi (ci := 10) (av := [.int z]) C hw (k_X10_isIn l D A cy hJ (uI M 60 0 0) ⟨((tI_k _ _ _ _ (by decide)).trans m_taped), ((tI_k _ _ _ _ (by decide)).trans m_lf), ((tI_k _ _ _ _ (by decide)).trans m_lp), ((tI_k _ _ _ _ (by decide)).trans m_hi), ((tI_k _ _ _ _ (by decide)).trans m_un), ((tI_k _ _ _ _ (by decide)).trans m_st), ((tI_k _ _ _ _ (by decide)).trans m_kb), ((congrFun ((tY_uI _ _ _ _ _ _).trans rfl) 0).trans n0), ((congrFun ((tY_uI _ _ _ _ _ _).trans rfl) 3).trans n3), ((congrFun ((tY_uI _ _ _ _ _ _).trans rfl) 5).trans n5), ((congrFun ((tY_uI _ _ _ _ _ _).trans rfl) 7).trans n7), ((congrFun ((tY_uI _ _ _ _ _ _).trans rfl) 0).trans mi0), ((congrFun ((tY_uI _ _ _ _ _ _).trans rfl) 0).trans wa0), ((congrFun ((tY_uI _ _ _ _ _ _).trans rfl) 0).trans co0), ((congrFun ((tY_uI _ _ _ _ _ _).trans rfl) 0).trans ma0), ((congrFun ((tY_uI _ _ _ _ _ _).trans rfl) 0).trans pw0), ((congrFun ((tY_uI _ _ _ _ _ _).trans rfl) 1).trans pw1), ((congrFun ((tY_uI _ _ _ _ _ _).trans rfl) 2).trans pw2), sf, sto⟩ z) ⟨ml_X10_423, ym_X10_isIn, yv_X10_isIn, yi_X10_isIn, yc_X10_isIn⟩ yd_X10_isIn ob_60 (by decide) rfl rfl hl.1 (Nat.le_of_ble_eq_true rfl) ⟨by decide, by decide⟩ ⟨Nat.zero_le _, Nat.zero_le _⟩ dX10_out_7 (fun r_1 M_2 H locs hp_2 hw => ?_)
  obtain ⟨hm, rfl⟩ := hp_2
  have hw := hw.to hm
  refine lv_if_ne (tgt := 15) hx hb dX10_out_10 (by decide) (fun c => absurd (by decide) c) (fun c_10 => ?_)
  refine lv_iconst (v := 0) hx hb dX10_out_13 (by decide) ?_
  exact hQ _ _ _ _ _ _ hw rfl rfl dX10_out_14
set_option maxHeartbeats 4000000 in
set_option maxRecDepth 100000 in
theorem k_X10_swap (l : Launch) (D : va_G) (A : Nat → Nat → Nat) (cy : Nat → ClassId) (hJ : ti_inj ti_LM A) (M : ti_M) (hF : ti_FM M) (z : Int32) (z2 : Int32) (z3 : Int32) : ti_Ki l yX10_swap cX10_swap 6 (some .boolean) 3 ti_LM D A cy M [.ref (A 60 0), .int z, .int z2, .int z3] (fun r _ => r = 0) := by
  refine ti_eI yp_X10_swap hJ ti_LM_nd (Nat.le_of_ble_eq_true rfl) ?_
  intro p e s m args below meth c Q H0 C hQ hw ls hl
  have hx := C.1
  have hb := C.2.1
  have hl : lv_has ls 6 [(0, .ref (A 60 0)), (1, .int z), (2, .int z2), (3, .int z3)] := hl
  obtain ⟨m_taped, m_lf, m_lp, m_hi, m_un, m_st, m_kb, n0, n3, n5, n7, mi0, wa0, co0, ma0, pw0, pw1, pw2, sf, sto⟩ := id hF
  refine lv_aload_n hx hb dX10_swap_0 rfl (lv_at hl 0 rfl) ?_
  refine lv_iconst (v := 0) hx hb dX10_swap_1 (by decide) ?_
  refine ti_putI (ci := 10) (k := 0) (N := 67) (T := TX10) C hw iw_10 tyX10 tyX10_ok nmX10 rfl ob_60 (by decide) (by decide) fl_X10_154 rfl rfl rfl rfl (fn_10 A _) fs_10_0 dX10_swap_2 (fun H locs hw => ?_)
  refine lv_aload_n hx hb dX10_swap_5 rfl (lv_at hl 0 rfl) ?_
  refine lv_iload_n hx hb dX10_swap_6 rfl (lv_at hl 1 rfl) ?_
  refine ti_callVi (ci := 10) (av := [.int z]) C hw (k_X10_isIn l D A cy hJ (uI M 60 0 0) ⟨((tI_k _ _ _ _ (by decide)).trans m_taped), ((tI_k _ _ _ _ (by decide)).trans m_lf), ((tI_k _ _ _ _ (by decide)).trans m_lp), ((tI_k _ _ _ _ (by decide)).trans m_hi), ((tI_k _ _ _ _ (by decide)).trans m_un), ((tI_k _ _ _ _ (by decide)).trans m_st), ((tI_k _ _ _ _ (by decide)).trans m_kb), ((congrFun ((tY_uI _ _ _ _ _ _).trans rfl) 0).trans n0), ((congrFun ((tY_uI _ _ _ _ _ _).trans rfl) 3).trans n3), ((congrFun ((tY_uI _ _ _ _ _ _).trans rfl) 5).trans n5), ((congrFun ((tY_uI _ _ _ _ _ _).trans rfl) 7).trans n7), ((congrFun ((tY_uI _ _ _ _ _ _).trans rfl) 0).trans mi0), ((congrFun ((tY_uI _ _ _ _ _ _).trans rfl) 0).trans wa0), ((congrFun ((tY_uI _ _ _ _ _ _).trans rfl) 0).trans co0), ((congrFun ((tY_uI _ _ _ _ _ _).trans rfl) 0).trans ma0), ((congrFun ((tY_uI _ _ _ _ _ _).trans rfl) 0).trans pw0), ((congrFun ((tY_uI _ _ _ _ _ _).trans rfl) 1).trans pw1), ((congrFun ((tY_uI _ _ _ _ _ _).trans rfl) 2).trans pw2), sf, sto⟩ z) ⟨ml_X10_423, ym_X10_isIn, yv_X10_isIn, yi_X10_isIn, yc_X10_isIn⟩ yd_X10_isIn ob_60 (by decide) rfl rfl hl.1 (Nat.le_of_ble_eq_true rfl) ⟨by decide, by decide⟩ ⟨Nat.zero_le _, Nat.zero_le _⟩ dX10_swap_7 (fun r_1 M_2 H locs hp_2 hw => ?_)
  obtain ⟨hm, rfl⟩ := hp_2
  have hw := hw.to hm
  refine lv_if_eq (tgt := 46) hx hb dX10_swap_10 (by decide) (fun c_10 => ?_) (fun c => absurd (by decide) c)
  refine lv_iconst (v := 0) hx hb dX10_swap_46 (by decide) ?_
  exact hQ _ _ _ _ _ _ hw rfl rfl dX10_swap_47
set_option maxHeartbeats 4000000 in
set_option maxRecDepth 100000 in
theorem k_X10_kneel (l : Launch) (D : va_G) (A : Nat → Nat → Nat) (cy : Nat → ClassId) (hJ : ti_inj ti_LM A) (M : ti_M) (hF : ti_FM M) (z : Int32) (z2 : Int32) : ti_Ki l yX10_kneel cX10_kneel 3 (some .boolean) 3 ti_LM D A cy M [.ref (A 60 0), .int z, .int z2] (fun r _ => r = 0) := by
  refine ti_eI yp_X10_kneel hJ ti_LM_nd (Nat.le_of_ble_eq_true rfl) ?_
  intro p e s m args below meth c Q H0 C hQ hw ls hl
  have hx := C.1
  have hb := C.2.1
  have hl : lv_has ls 3 [(0, .ref (A 60 0)), (1, .int z), (2, .int z2)] := hl
  obtain ⟨m_taped, m_lf, m_lp, m_hi, m_un, m_st, m_kb, n0, n3, n5, n7, mi0, wa0, co0, ma0, pw0, pw1, pw2, sf, sto⟩ := id hF
  refine lv_aload_n hx hb dX10_kneel_0 rfl (lv_at hl 0 rfl) ?_
  refine lv_iconst (v := 0) hx hb dX10_kneel_1 (by decide) ?_
  refine ti_putI (ci := 10) (k := 0) (N := 67) (T := TX10) C hw iw_10 tyX10 tyX10_ok nmX10 rfl ob_60 (by decide) (by decide) fl_X10_154 rfl rfl rfl rfl (fn_10 A _) fs_10_0 dX10_kneel_2 (fun H locs hw => ?_)
  refine lv_aload_n hx hb dX10_kneel_5 rfl (lv_at hl 0 rfl) ?_
  refine lv_iload_n hx hb dX10_kneel_6 rfl (lv_at hl 1 rfl) ?_
  refine ti_callVi (ci := 10) (av := [.int z]) C hw (k_X10_isIn l D A cy hJ (uI M 60 0 0) ⟨((tI_k _ _ _ _ (by decide)).trans m_taped), ((tI_k _ _ _ _ (by decide)).trans m_lf), ((tI_k _ _ _ _ (by decide)).trans m_lp), ((tI_k _ _ _ _ (by decide)).trans m_hi), ((tI_k _ _ _ _ (by decide)).trans m_un), ((tI_k _ _ _ _ (by decide)).trans m_st), ((tI_k _ _ _ _ (by decide)).trans m_kb), ((congrFun ((tY_uI _ _ _ _ _ _).trans rfl) 0).trans n0), ((congrFun ((tY_uI _ _ _ _ _ _).trans rfl) 3).trans n3), ((congrFun ((tY_uI _ _ _ _ _ _).trans rfl) 5).trans n5), ((congrFun ((tY_uI _ _ _ _ _ _).trans rfl) 7).trans n7), ((congrFun ((tY_uI _ _ _ _ _ _).trans rfl) 0).trans mi0), ((congrFun ((tY_uI _ _ _ _ _ _).trans rfl) 0).trans wa0), ((congrFun ((tY_uI _ _ _ _ _ _).trans rfl) 0).trans co0), ((congrFun ((tY_uI _ _ _ _ _ _).trans rfl) 0).trans ma0), ((congrFun ((tY_uI _ _ _ _ _ _).trans rfl) 0).trans pw0), ((congrFun ((tY_uI _ _ _ _ _ _).trans rfl) 1).trans pw1), ((congrFun ((tY_uI _ _ _ _ _ _).trans rfl) 2).trans pw2), sf, sto⟩ z) ⟨ml_X10_423, ym_X10_isIn, yv_X10_isIn, yi_X10_isIn, yc_X10_isIn⟩ yd_X10_isIn ob_60 (by decide) rfl rfl hl.1 (Nat.le_of_ble_eq_true rfl) ⟨by decide, by decide⟩ ⟨Nat.zero_le _, Nat.zero_le _⟩ dX10_kneel_7 (fun r_1 M_2 H locs hp_2 hw => ?_)
  obtain ⟨hm, rfl⟩ := hp_2
  have hw := hw.to hm
  refine lv_if_eq (tgt := 34) hx hb dX10_kneel_10 (by decide) (fun c_10 => ?_) (fun c => absurd (by decide) c)
  refine lv_iconst (v := 0) hx hb dX10_kneel_34 (by decide) ?_
  exact hQ _ _ _ _ _ _ hw rfl rfl dX10_kneel_35
set_option maxHeartbeats 4000000 in
set_option maxRecDepth 100000 in
theorem k_X10_cough (l : Launch) (D : va_G) (A : Nat → Nat → Nat) (cy : Nat → ClassId) (hJ : ti_inj ti_LM A) (M : ti_M) (hF : ti_FM M) (z : Int32) : ti_Ki l yX10_cough cX10_cough 2 (some .boolean) 3 ti_LM D A cy M [.ref (A 60 0), .int z] (fun r _ => r = 0) := by
  refine ti_eI yp_X10_cough hJ ti_LM_nd (Nat.le_of_ble_eq_true rfl) ?_
  intro p e s m args below meth c Q H0 C hQ hw ls hl
  have hx := C.1
  have hb := C.2.1
  have hl : lv_has ls 2 [(0, .ref (A 60 0)), (1, .int z)] := hl
  obtain ⟨m_taped, m_lf, m_lp, m_hi, m_un, m_st, m_kb, n0, n3, n5, n7, mi0, wa0, co0, ma0, pw0, pw1, pw2, sf, sto⟩ := id hF
  refine lv_aload_n hx hb dX10_cough_0 rfl (lv_at hl 0 rfl) ?_
  refine lv_iconst (v := 0) hx hb dX10_cough_1 (by decide) ?_
  refine ti_putI (ci := 10) (k := 0) (N := 67) (T := TX10) C hw iw_10 tyX10 tyX10_ok nmX10 rfl ob_60 (by decide) (by decide) fl_X10_154 rfl rfl rfl rfl (fn_10 A _) fs_10_0 dX10_cough_2 (fun H locs hw => ?_)
  refine lv_aload_n hx hb dX10_cough_5 rfl (lv_at hl 0 rfl) ?_
  refine lv_iload_n hx hb dX10_cough_6 rfl (lv_at hl 1 rfl) ?_
  refine ti_callVi (ci := 10) (av := [.int z]) C hw (k_X10_isIn l D A cy hJ (uI M 60 0 0) ⟨((tI_k _ _ _ _ (by decide)).trans m_taped), ((tI_k _ _ _ _ (by decide)).trans m_lf), ((tI_k _ _ _ _ (by decide)).trans m_lp), ((tI_k _ _ _ _ (by decide)).trans m_hi), ((tI_k _ _ _ _ (by decide)).trans m_un), ((tI_k _ _ _ _ (by decide)).trans m_st), ((tI_k _ _ _ _ (by decide)).trans m_kb), ((congrFun ((tY_uI _ _ _ _ _ _).trans rfl) 0).trans n0), ((congrFun ((tY_uI _ _ _ _ _ _).trans rfl) 3).trans n3), ((congrFun ((tY_uI _ _ _ _ _ _).trans rfl) 5).trans n5), ((congrFun ((tY_uI _ _ _ _ _ _).trans rfl) 7).trans n7), ((congrFun ((tY_uI _ _ _ _ _ _).trans rfl) 0).trans mi0), ((congrFun ((tY_uI _ _ _ _ _ _).trans rfl) 0).trans wa0), ((congrFun ((tY_uI _ _ _ _ _ _).trans rfl) 0).trans co0), ((congrFun ((tY_uI _ _ _ _ _ _).trans rfl) 0).trans ma0), ((congrFun ((tY_uI _ _ _ _ _ _).trans rfl) 0).trans pw0), ((congrFun ((tY_uI _ _ _ _ _ _).trans rfl) 1).trans pw1), ((congrFun ((tY_uI _ _ _ _ _ _).trans rfl) 2).trans pw2), sf, sto⟩ z) ⟨ml_X10_423, ym_X10_isIn, yv_X10_isIn, yi_X10_isIn, yc_X10_isIn⟩ yd_X10_isIn ob_60 (by decide) rfl rfl hl.1 (Nat.le_of_ble_eq_true rfl) ⟨by decide, by decide⟩ ⟨Nat.zero_le _, Nat.zero_le _⟩ dX10_cough_7 (fun r_1 M_2 H locs hp_2 hw => ?_)
  obtain ⟨hm, rfl⟩ := hp_2
  have hw := hw.to hm
  refine lv_if_eq (tgt := 27) hx hb dX10_cough_10 (by decide) (fun c_10 => ?_) (fun c => absurd (by decide) c)
  refine lv_iconst (v := 0) hx hb dX10_cough_27 (by decide) ?_
  exact hQ _ _ _ _ _ _ hw rfl rfl dX10_cough_28
set_option maxHeartbeats 4000000 in
set_option maxRecDepth 100000 in
theorem k_X10_ruled (l : Launch) (D : va_G) (A : Nat → Nat → Nat) (cy : Nat → ClassId) (hJ : ti_inj ti_LM A) (M : ti_M) (hF : ti_FM M) (z : Int32) (z2 : Int32) : ti_Ki l yX10_ruled cX10_ruled 5 (some .int) 3 ti_LM D A cy M [.ref (A 60 0), .int z, .int z2] (fun r _ => r = (-1)) := by
  refine ti_eI yp_X10_ruled hJ ti_LM_nd (Nat.le_of_ble_eq_true rfl) ?_
  intro p e s m args below meth c Q H0 C hQ hw ls hl
  have hx := C.1
  have hb := C.2.1
  have hl : lv_has ls 5 [(0, .ref (A 60 0)), (1, .int z), (2, .int z2)] := hl
  obtain ⟨m_taped, m_lf, m_lp, m_hi, m_un, m_st, m_kb, n0, n3, n5, n7, mi0, wa0, co0, ma0, pw0, pw1, pw2, sf, sto⟩ := id hF
  refine lv_aload_n hx hb dX10_ruled_0 rfl (lv_at hl 0 rfl) ?_
  refine lv_iconst (v := 0) hx hb dX10_ruled_1 (by decide) ?_
  refine ti_putI (ci := 10) (k := 0) (N := 67) (T := TX10) C hw iw_10 tyX10 tyX10_ok nmX10 rfl ob_60 (by decide) (by decide) fl_X10_154 rfl rfl rfl rfl (fn_10 A _) fs_10_0 dX10_ruled_2 (fun H locs hw => ?_)
  refine lv_aload_n hx hb dX10_ruled_5 rfl (lv_at hl 0 rfl) ?_
  refine lv_iload_n hx hb dX10_ruled_6 rfl (lv_at hl 1 rfl) ?_
  refine ti_callVi (ci := 10) (av := [.int z]) C hw (k_X10_isMan l D A cy hJ (uI M 60 0 0) ⟨((tI_k _ _ _ _ (by decide)).trans m_taped), ((tI_k _ _ _ _ (by decide)).trans m_lf), ((tI_k _ _ _ _ (by decide)).trans m_lp), ((tI_k _ _ _ _ (by decide)).trans m_hi), ((tI_k _ _ _ _ (by decide)).trans m_un), ((tI_k _ _ _ _ (by decide)).trans m_st), ((tI_k _ _ _ _ (by decide)).trans m_kb), ((congrFun ((tY_uI _ _ _ _ _ _).trans rfl) 0).trans n0), ((congrFun ((tY_uI _ _ _ _ _ _).trans rfl) 3).trans n3), ((congrFun ((tY_uI _ _ _ _ _ _).trans rfl) 5).trans n5), ((congrFun ((tY_uI _ _ _ _ _ _).trans rfl) 7).trans n7), ((congrFun ((tY_uI _ _ _ _ _ _).trans rfl) 0).trans mi0), ((congrFun ((tY_uI _ _ _ _ _ _).trans rfl) 0).trans wa0), ((congrFun ((tY_uI _ _ _ _ _ _).trans rfl) 0).trans co0), ((congrFun ((tY_uI _ _ _ _ _ _).trans rfl) 0).trans ma0), ((congrFun ((tY_uI _ _ _ _ _ _).trans rfl) 0).trans pw0), ((congrFun ((tY_uI _ _ _ _ _ _).trans rfl) 1).trans pw1), ((congrFun ((tY_uI _ _ _ _ _ _).trans rfl) 2).trans pw2), sf, sto⟩ z) ⟨ml_X10_356, ym_X10_isMan, yv_X10_isMan, yi_X10_isMan, yc_X10_isMan⟩ yd_X10_isMan ob_60 (by decide) rfl rfl hl.1 (Nat.le_of_ble_eq_true rfl) ⟨by decide, by decide⟩ ⟨Nat.zero_le _, Nat.zero_le _⟩ dX10_ruled_7 (fun r_1 M_2 H locs hp_2 hw => ?_)
  obtain ⟨hm, rfl⟩ := hp_2
  have hw := hw.to hm
  refine lv_if_eq (tgt := 20) hx hb dX10_ruled_10 (by decide) (fun c_10 => ?_) (fun c => absurd (by decide) c)
  refine lv_iconst (v := (-1)) hx hb dX10_ruled_20 (by decide) ?_
  exact hQ _ _ _ _ _ _ hw rfl rfl dX10_ruled_21
set_option maxHeartbeats 4000000 in
set_option maxRecDepth 100000 in
theorem k_X10_served (l : Launch) (D : va_G) (A : Nat → Nat → Nat) (cy : Nat → ClassId) (hJ : ti_inj ti_LM A) (M : ti_M) (hF : ti_FM M) (z : Int32) : ti_Ki l yX10_served cX10_served 2 (some .int) 3 ti_LM D A cy M [.ref (A 60 0), .int z] (fun r _ => r = (-1)) := by
  refine ti_eI yp_X10_served hJ ti_LM_nd (Nat.le_of_ble_eq_true rfl) ?_
  intro p e s m args below meth c Q H0 C hQ hw ls hl
  have hx := C.1
  have hb := C.2.1
  have hl : lv_has ls 2 [(0, .ref (A 60 0)), (1, .int z)] := hl
  obtain ⟨m_taped, m_lf, m_lp, m_hi, m_un, m_st, m_kb, n0, n3, n5, n7, mi0, wa0, co0, ma0, pw0, pw1, pw2, sf, sto⟩ := id hF
  refine lv_aload_n hx hb dX10_served_0 rfl (lv_at hl 0 rfl) ?_
  refine lv_iconst (v := 0) hx hb dX10_served_1 (by decide) ?_
  refine ti_putI (ci := 10) (k := 0) (N := 67) (T := TX10) C hw iw_10 tyX10 tyX10_ok nmX10 rfl ob_60 (by decide) (by decide) fl_X10_154 rfl rfl rfl rfl (fn_10 A _) fs_10_0 dX10_served_2 (fun H locs hw => ?_)
  refine lv_aload_n hx hb dX10_served_5 rfl (lv_at hl 0 rfl) ?_
  refine lv_iload_n hx hb dX10_served_6 rfl (lv_at hl 1 rfl) ?_
  refine ti_callVi (ci := 10) (av := [.int z]) C hw (k_X10_isMan l D A cy hJ (uI M 60 0 0) ⟨((tI_k _ _ _ _ (by decide)).trans m_taped), ((tI_k _ _ _ _ (by decide)).trans m_lf), ((tI_k _ _ _ _ (by decide)).trans m_lp), ((tI_k _ _ _ _ (by decide)).trans m_hi), ((tI_k _ _ _ _ (by decide)).trans m_un), ((tI_k _ _ _ _ (by decide)).trans m_st), ((tI_k _ _ _ _ (by decide)).trans m_kb), ((congrFun ((tY_uI _ _ _ _ _ _).trans rfl) 0).trans n0), ((congrFun ((tY_uI _ _ _ _ _ _).trans rfl) 3).trans n3), ((congrFun ((tY_uI _ _ _ _ _ _).trans rfl) 5).trans n5), ((congrFun ((tY_uI _ _ _ _ _ _).trans rfl) 7).trans n7), ((congrFun ((tY_uI _ _ _ _ _ _).trans rfl) 0).trans mi0), ((congrFun ((tY_uI _ _ _ _ _ _).trans rfl) 0).trans wa0), ((congrFun ((tY_uI _ _ _ _ _ _).trans rfl) 0).trans co0), ((congrFun ((tY_uI _ _ _ _ _ _).trans rfl) 0).trans ma0), ((congrFun ((tY_uI _ _ _ _ _ _).trans rfl) 0).trans pw0), ((congrFun ((tY_uI _ _ _ _ _ _).trans rfl) 1).trans pw1), ((congrFun ((tY_uI _ _ _ _ _ _).trans rfl) 2).trans pw2), sf, sto⟩ z) ⟨ml_X10_356, ym_X10_isMan, yv_X10_isMan, yi_X10_isMan, yc_X10_isMan⟩ yd_X10_isMan ob_60 (by decide) rfl rfl hl.1 (Nat.le_of_ble_eq_true rfl) ⟨by decide, by decide⟩ ⟨Nat.zero_le _, Nat.zero_le _⟩ dX10_served_7 (fun r_1 M_2 H locs hp_2 hw => ?_)
  obtain ⟨hm, rfl⟩ := hp_2
  have hw := hw.to hm
  refine lv_if_ne (tgt := 15) hx hb dX10_served_10 (by decide) (fun c => absurd (by decide) c) (fun c_10 => ?_)
  refine lv_iconst (v := (-1)) hx hb dX10_served_13 (by decide) ?_
  exact hQ _ _ _ _ _ _ hw rfl rfl dX10_served_14
set_option maxHeartbeats 4000000 in
set_option maxRecDepth 100000 in
theorem k_X10_coming (l : Launch) (D : va_G) (A : Nat → Nat → Nat) (cy : Nat → ClassId) (hJ : ti_inj ti_LM A) (M : ti_M) (hF : ti_FM M) (z : Int32) (z2 : Int32) (z3 : Int32) : ti_Ki l yX10_coming cX10_coming 5 (some .int) 3 ti_LM D A cy M [.ref (A 60 0), .int z, .int z2, .int z3] (fun r _ => r = (-1)) := by
  refine ti_eI yp_X10_coming hJ ti_LM_nd (Nat.le_of_ble_eq_true rfl) ?_
  intro p e s m args below meth c Q H0 C hQ hw ls hl
  have hx := C.1
  have hb := C.2.1
  have hl : lv_has ls 5 [(0, .ref (A 60 0)), (1, .int z), (2, .int z2), (3, .int z3)] := hl
  obtain ⟨m_taped, m_lf, m_lp, m_hi, m_un, m_st, m_kb, n0, n3, n5, n7, mi0, wa0, co0, ma0, pw0, pw1, pw2, sf, sto⟩ := id hF
  refine lv_aload_n hx hb dX10_coming_0 rfl (lv_at hl 0 rfl) ?_
  refine lv_iconst (v := 0) hx hb dX10_coming_1 (by decide) ?_
  refine ti_putI (ci := 10) (k := 0) (N := 67) (T := TX10) C hw iw_10 tyX10 tyX10_ok nmX10 rfl ob_60 (by decide) (by decide) fl_X10_154 rfl rfl rfl rfl (fn_10 A _) fs_10_0 dX10_coming_2 (fun H locs hw => ?_)
  refine lv_aload_n hx hb dX10_coming_5 rfl (lv_at hl 0 rfl) ?_
  refine lv_iload_n hx hb dX10_coming_6 rfl (lv_at hl 1 rfl) ?_
  refine ti_callVi (ci := 10) (av := [.int z]) C hw (k_X10_isToCome l D A cy hJ (uI M 60 0 0) ⟨((tI_k _ _ _ _ (by decide)).trans m_taped), ((tI_k _ _ _ _ (by decide)).trans m_lf), ((tI_k _ _ _ _ (by decide)).trans m_lp), ((tI_k _ _ _ _ (by decide)).trans m_hi), ((tI_k _ _ _ _ (by decide)).trans m_un), ((tI_k _ _ _ _ (by decide)).trans m_st), ((tI_k _ _ _ _ (by decide)).trans m_kb), ((congrFun ((tY_uI _ _ _ _ _ _).trans rfl) 0).trans n0), ((congrFun ((tY_uI _ _ _ _ _ _).trans rfl) 3).trans n3), ((congrFun ((tY_uI _ _ _ _ _ _).trans rfl) 5).trans n5), ((congrFun ((tY_uI _ _ _ _ _ _).trans rfl) 7).trans n7), ((congrFun ((tY_uI _ _ _ _ _ _).trans rfl) 0).trans mi0), ((congrFun ((tY_uI _ _ _ _ _ _).trans rfl) 0).trans wa0), ((congrFun ((tY_uI _ _ _ _ _ _).trans rfl) 0).trans co0), ((congrFun ((tY_uI _ _ _ _ _ _).trans rfl) 0).trans ma0), ((congrFun ((tY_uI _ _ _ _ _ _).trans rfl) 0).trans pw0), ((congrFun ((tY_uI _ _ _ _ _ _).trans rfl) 1).trans pw1), ((congrFun ((tY_uI _ _ _ _ _ _).trans rfl) 2).trans pw2), sf, sto⟩ z) ⟨ml_X10_433, ym_X10_isToCome, yv_X10_isToCome, yi_X10_isToCome, yc_X10_isToCome⟩ yd_X10_isToCome ob_60 (by decide) rfl rfl hl.1 (Nat.le_of_ble_eq_true rfl) ⟨by decide, by decide⟩ ⟨Nat.zero_le _, Nat.zero_le _⟩ dX10_coming_7 (fun r_1 M_2 H locs hp_2 hw => ?_)
  obtain ⟨hm, rfl⟩ := hp_2
  have hw := hw.to hm
  refine lv_if_eq (tgt := 36) hx hb dX10_coming_10 (by decide) (fun c_10 => ?_) (fun c => absurd (by decide) c)
  refine lv_iconst (v := (-1)) hx hb dX10_coming_36 (by decide) ?_
  exact hQ _ _ _ _ _ _ hw rfl rfl dX10_coming_37
set_option maxHeartbeats 4000000 in
set_option maxRecDepth 100000 in
theorem k_X10_rests (l : Launch) (D : va_G) (A : Nat → Nat → Nat) (cy : Nat → ClassId) (hJ : ti_inj ti_LM A) (M : ti_M) (hF : ti_FM M) (z : Int32) (z2 : Int32) (z3 : Int32) : ti_Ki l yX10_rests cX10_rests 4 (some .int) 3 ti_LM D A cy M [.ref (A 60 0), .int z, .int z2, .int z3] (fun r _ => r = (-1)) := by
  refine ti_eI yp_X10_rests hJ ti_LM_nd (Nat.le_of_ble_eq_true rfl) ?_
  intro p e s m args below meth c Q H0 C hQ hw ls hl
  have hx := C.1
  have hb := C.2.1
  have hl : lv_has ls 4 [(0, .ref (A 60 0)), (1, .int z), (2, .int z2), (3, .int z3)] := hl
  obtain ⟨m_taped, m_lf, m_lp, m_hi, m_un, m_st, m_kb, n0, n3, n5, n7, mi0, wa0, co0, ma0, pw0, pw1, pw2, sf, sto⟩ := id hF
  refine lv_aload_n hx hb dX10_rests_0 rfl (lv_at hl 0 rfl) ?_
  refine lv_iconst (v := 0) hx hb dX10_rests_1 (by decide) ?_
  refine ti_putI (ci := 10) (k := 0) (N := 67) (T := TX10) C hw iw_10 tyX10 tyX10_ok nmX10 rfl ob_60 (by decide) (by decide) fl_X10_154 rfl rfl rfl rfl (fn_10 A _) fs_10_0 dX10_rests_2 (fun H locs hw => ?_)
  refine lv_aload_n hx hb dX10_rests_5 rfl (lv_at hl 0 rfl) ?_
  refine lv_iload_n hx hb dX10_rests_6 rfl (lv_at hl 1 rfl) ?_
  refine lv_iload_n hx hb dX10_rests_7 rfl (lv_at hl 2 rfl) ?_
  refine lv_iload_n hx hb dX10_rests_8 rfl (lv_at hl 3 rfl) ?_
  refine ti_callVi (ci := 10) (av := [.int z, .int z2, .int z3]) C hw (k_X10_isGame l D A cy hJ (uI M 60 0 0) ⟨((tI_k _ _ _ _ (by decide)).trans m_taped), ((tI_k _ _ _ _ (by decide)).trans m_lf), ((tI_k _ _ _ _ (by decide)).trans m_lp), ((tI_k _ _ _ _ (by decide)).trans m_hi), ((tI_k _ _ _ _ (by decide)).trans m_un), ((tI_k _ _ _ _ (by decide)).trans m_st), ((tI_k _ _ _ _ (by decide)).trans m_kb), ((congrFun ((tY_uI _ _ _ _ _ _).trans rfl) 0).trans n0), ((congrFun ((tY_uI _ _ _ _ _ _).trans rfl) 3).trans n3), ((congrFun ((tY_uI _ _ _ _ _ _).trans rfl) 5).trans n5), ((congrFun ((tY_uI _ _ _ _ _ _).trans rfl) 7).trans n7), ((congrFun ((tY_uI _ _ _ _ _ _).trans rfl) 0).trans mi0), ((congrFun ((tY_uI _ _ _ _ _ _).trans rfl) 0).trans wa0), ((congrFun ((tY_uI _ _ _ _ _ _).trans rfl) 0).trans co0), ((congrFun ((tY_uI _ _ _ _ _ _).trans rfl) 0).trans ma0), ((congrFun ((tY_uI _ _ _ _ _ _).trans rfl) 0).trans pw0), ((congrFun ((tY_uI _ _ _ _ _ _).trans rfl) 1).trans pw1), ((congrFun ((tY_uI _ _ _ _ _ _).trans rfl) 2).trans pw2), sf, sto⟩ z z2 z3) ⟨ml_X10_464, ym_X10_isGame, yv_X10_isGame, yi_X10_isGame, yc_X10_isGame⟩ yd_X10_isGame ob_60 (by decide) rfl rfl hl.1 (Nat.le_of_ble_eq_true rfl) ⟨by decide, by decide⟩ ⟨Nat.zero_le _, Nat.zero_le _⟩ dX10_rests_9 (fun r_1 M_2 H locs hp_2 hw => ?_)
  obtain ⟨hm, rfl⟩ := hp_2
  have hw := hw.to hm
  refine lv_if_ne (tgt := 17) hx hb dX10_rests_12 (by decide) (fun c => absurd (by decide) c) (fun c_12 => ?_)
  refine lv_iconst (v := (-1)) hx hb dX10_rests_15 (by decide) ?_
  exact hQ _ _ _ _ _ _ hw rfl rfl dX10_rests_16
set_option maxHeartbeats 4000000 in
set_option maxRecDepth 100000 in
theorem k_X10_rest (l : Launch) (D : va_G) (A : Nat → Nat → Nat) (cy : Nat → ClassId) (hJ : ti_inj ti_LM A) (M : ti_M) (hF : ti_FM M) (z : Int32) (z2 : Int32) (z3 : Int32) (z4 : Int32) : ti_Ki l yX10_rest cX10_rest 5 (some .int) 3 ti_LM D A cy M [.ref (A 60 0), .int z, .int z2, .int z3, .int z4] (fun r _ => r = (-1)) := by
  refine ti_eI yp_X10_rest hJ ti_LM_nd (Nat.le_of_ble_eq_true rfl) ?_
  intro p e s m args below meth c Q H0 C hQ hw ls hl
  have hx := C.1
  have hb := C.2.1
  have hl : lv_has ls 5 [(0, .ref (A 60 0)), (1, .int z), (2, .int z2), (3, .int z3), (4, .int z4)] := hl
  obtain ⟨m_taped, m_lf, m_lp, m_hi, m_un, m_st, m_kb, n0, n3, n5, n7, mi0, wa0, co0, ma0, pw0, pw1, pw2, sf, sto⟩ := id hF
  refine lv_aload_n hx hb dX10_rest_0 rfl (lv_at hl 0 rfl) ?_
  refine lv_iconst (v := 0) hx hb dX10_rest_1 (by decide) ?_
  refine ti_putI (ci := 10) (k := 0) (N := 67) (T := TX10) C hw iw_10 tyX10 tyX10_ok nmX10 rfl ob_60 (by decide) (by decide) fl_X10_154 rfl rfl rfl rfl (fn_10 A _) fs_10_0 dX10_rest_2 (fun H locs hw => ?_)
  refine lv_aload_n hx hb dX10_rest_5 rfl (lv_at hl 0 rfl) ?_
  refine lv_iload_n hx hb dX10_rest_6 rfl (lv_at hl 1 rfl) ?_
  refine lv_iload_n hx hb dX10_rest_7 rfl (lv_at hl 2 rfl) ?_
  refine lv_iload_n hx hb dX10_rest_8 rfl (lv_at hl 3 rfl) ?_
  refine ti_callVi (ci := 10) (av := [.int z, .int z2, .int z3]) C hw (k_X10_isGame l D A cy hJ (uI M 60 0 0) ⟨((tI_k _ _ _ _ (by decide)).trans m_taped), ((tI_k _ _ _ _ (by decide)).trans m_lf), ((tI_k _ _ _ _ (by decide)).trans m_lp), ((tI_k _ _ _ _ (by decide)).trans m_hi), ((tI_k _ _ _ _ (by decide)).trans m_un), ((tI_k _ _ _ _ (by decide)).trans m_st), ((tI_k _ _ _ _ (by decide)).trans m_kb), ((congrFun ((tY_uI _ _ _ _ _ _).trans rfl) 0).trans n0), ((congrFun ((tY_uI _ _ _ _ _ _).trans rfl) 3).trans n3), ((congrFun ((tY_uI _ _ _ _ _ _).trans rfl) 5).trans n5), ((congrFun ((tY_uI _ _ _ _ _ _).trans rfl) 7).trans n7), ((congrFun ((tY_uI _ _ _ _ _ _).trans rfl) 0).trans mi0), ((congrFun ((tY_uI _ _ _ _ _ _).trans rfl) 0).trans wa0), ((congrFun ((tY_uI _ _ _ _ _ _).trans rfl) 0).trans co0), ((congrFun ((tY_uI _ _ _ _ _ _).trans rfl) 0).trans ma0), ((congrFun ((tY_uI _ _ _ _ _ _).trans rfl) 0).trans pw0), ((congrFun ((tY_uI _ _ _ _ _ _).trans rfl) 1).trans pw1), ((congrFun ((tY_uI _ _ _ _ _ _).trans rfl) 2).trans pw2), sf, sto⟩ z z2 z3) ⟨ml_X10_464, ym_X10_isGame, yv_X10_isGame, yi_X10_isGame, yc_X10_isGame⟩ yd_X10_isGame ob_60 (by decide) rfl rfl hl.1 (Nat.le_of_ble_eq_true rfl) ⟨by decide, by decide⟩ ⟨Nat.zero_le _, Nat.zero_le _⟩ dX10_rest_9 (fun r_1 M_2 H locs hp_2 hw => ?_)
  obtain ⟨hm, rfl⟩ := hp_2
  have hw := hw.to hm
  refine lv_if_eq (tgt := 20) hx hb dX10_rest_12 (by decide) (fun c_12 => ?_) (fun c => absurd (by decide) c)
  refine lv_iconst (v := (-1)) hx hb dX10_rest_20 (by decide) ?_
  exact hQ _ _ _ _ _ _ hw rfl rfl dX10_rest_21
set_option maxHeartbeats 4000000 in
set_option maxRecDepth 100000 in
theorem k_X10_best (l : Launch) (D : va_G) (A : Nat → Nat → Nat) (cy : Nat → ClassId) (hJ : ti_inj ti_LM A) (M : ti_M) (hF : ti_FM M) (z : Int32) (z2 : Int32) (z3 : Int32) (z4 : Int32) : ti_Ki l yX10_best cX10_best 10 (some .int) 3 ti_LM D A cy M [.ref (A 60 0), .int z, .int z2, .int z3, .int z4] (fun r _ => r = (-1)) := by
  refine ti_eI yp_X10_best hJ ti_LM_nd (Nat.le_of_ble_eq_true rfl) ?_
  intro p e s m args below meth c Q H0 C hQ hw ls hl
  have hx := C.1
  have hb := C.2.1
  have hl : lv_has ls 10 [(0, .ref (A 60 0)), (1, .int z), (2, .int z2), (3, .int z3), (4, .int z4)] := hl
  obtain ⟨m_taped, m_lf, m_lp, m_hi, m_un, m_st, m_kb, n0, n3, n5, n7, mi0, wa0, co0, ma0, pw0, pw1, pw2, sf, sto⟩ := id hF
  refine lv_aload_n hx hb dX10_best_0 rfl (lv_at hl 0 rfl) ?_
  refine lv_iconst (v := 0) hx hb dX10_best_1 (by decide) ?_
  refine ti_putI (ci := 10) (k := 0) (N := 67) (T := TX10) C hw iw_10 tyX10 tyX10_ok nmX10 rfl ob_60 (by decide) (by decide) fl_X10_154 rfl rfl rfl rfl (fn_10 A _) fs_10_0 dX10_best_2 (fun H locs hw => ?_)
  refine lv_iload_n hx hb dX10_best_5 rfl (lv_at hl 1 rfl) ?_
  refine ti_callSi (av := [.int z]) C hw (k_X10_isPower l D A cy hJ (uI M 60 0 0) z) ⟨ml_X10_420, ys_X10_isPower, yi_X10_isPower, yc_X10_isPower⟩ yd_X10_isPower rfl hl.1 (Nat.le_of_ble_eq_true rfl) ⟨by decide, by decide⟩ ⟨Nat.zero_le _, Nat.zero_le _⟩ dX10_best_6 (fun r_1 M_2 H locs hp_2 hw => ?_)
  obtain ⟨hm, hz⟩ := hp_2
  have hw := hw.to hm
  rcases hz with ⟨rfl, g_3, g_4⟩ | ⟨rfl, g_5⟩
  · refine lv_if_eq (tgt := 39) hx hb dX10_best_9 (by decide) (fun c => absurd c (by decide)) (fun c_9 => ?_)
    refine lv_aload_n hx hb dX10_best_12 rfl (lv_at hl 0 rfl) ?_
    refine lv_iload_n hx hb dX10_best_13 rfl (lv_at hl 2 rfl) ?_
    refine ti_callVi (ci := 10) (av := [.int z2]) C hw (k_X10_isMan l D A cy hJ (uI M 60 0 0) ⟨((tI_k _ _ _ _ (by decide)).trans m_taped), ((tI_k _ _ _ _ (by decide)).trans m_lf), ((tI_k _ _ _ _ (by decide)).trans m_lp), ((tI_k _ _ _ _ (by decide)).trans m_hi), ((tI_k _ _ _ _ (by decide)).trans m_un), ((tI_k _ _ _ _ (by decide)).trans m_st), ((tI_k _ _ _ _ (by decide)).trans m_kb), ((congrFun ((tY_uI _ _ _ _ _ _).trans rfl) 0).trans n0), ((congrFun ((tY_uI _ _ _ _ _ _).trans rfl) 3).trans n3), ((congrFun ((tY_uI _ _ _ _ _ _).trans rfl) 5).trans n5), ((congrFun ((tY_uI _ _ _ _ _ _).trans rfl) 7).trans n7), ((congrFun ((tY_uI _ _ _ _ _ _).trans rfl) 0).trans mi0), ((congrFun ((tY_uI _ _ _ _ _ _).trans rfl) 0).trans wa0), ((congrFun ((tY_uI _ _ _ _ _ _).trans rfl) 0).trans co0), ((congrFun ((tY_uI _ _ _ _ _ _).trans rfl) 0).trans ma0), ((congrFun ((tY_uI _ _ _ _ _ _).trans rfl) 0).trans pw0), ((congrFun ((tY_uI _ _ _ _ _ _).trans rfl) 1).trans pw1), ((congrFun ((tY_uI _ _ _ _ _ _).trans rfl) 2).trans pw2), sf, sto⟩ z2) ⟨ml_X10_356, ym_X10_isMan, yv_X10_isMan, yi_X10_isMan, yc_X10_isMan⟩ yd_X10_isMan ob_60 (by decide) rfl rfl hl.1 (Nat.le_of_ble_eq_true rfl) ⟨by decide, by decide⟩ ⟨Nat.zero_le _, Nat.zero_le _⟩ dX10_best_14 (fun r_6 M_7 H locs hp_7 hw => ?_)
    obtain ⟨hm, rfl⟩ := hp_7
    have hw := hw.to hm
    refine lv_if_eq (tgt := 39) hx hb dX10_best_17 (by decide) (fun c_17 => ?_) (fun c => absurd (by decide) c)
    refine lv_iconst (v := (-1)) hx hb dX10_best_39 (by decide) ?_
    exact hQ _ _ _ _ _ _ hw rfl rfl dX10_best_40
  · refine lv_if_eq (tgt := 39) hx hb dX10_best_9 (by decide) (fun c_9 => ?_) (fun c => absurd (by decide) c)
    refine lv_iconst (v := (-1)) hx hb dX10_best_39 (by decide) ?_
    exact hQ _ _ _ _ _ _ hw rfl rfl dX10_best_40
set_option maxHeartbeats 4000000 in
set_option maxRecDepth 100000 in
theorem k_X10_was (l : Launch) (D : va_G) (A : Nat → Nat → Nat) (cy : Nat → ClassId) (hJ : ti_inj ti_LM A) (M : ti_M) (hF : ti_FM M) (z : Int32) (z2 : Int32) : ti_Ki l yX10_was cX10_was 3 (some .int) 3 ti_LM D A cy M [.ref (A 60 0), .int z, .int z2] (fun r _ => r = (-1)) := by
  refine ti_eI yp_X10_was hJ ti_LM_nd (Nat.le_of_ble_eq_true rfl) ?_
  intro p e s m args below meth c Q H0 C hQ hw ls hl
  have hx := C.1
  have hb := C.2.1
  have hl : lv_has ls 3 [(0, .ref (A 60 0)), (1, .int z), (2, .int z2)] := hl
  obtain ⟨m_taped, m_lf, m_lp, m_hi, m_un, m_st, m_kb, n0, n3, n5, n7, mi0, wa0, co0, ma0, pw0, pw1, pw2, sf, sto⟩ := id hF
  refine lv_aload_n hx hb dX10_was_0 rfl (lv_at hl 0 rfl) ?_
  refine lv_iconst (v := 0) hx hb dX10_was_1 (by decide) ?_
  refine ti_putI (ci := 10) (k := 0) (N := 67) (T := TX10) C hw iw_10 tyX10 tyX10_ok nmX10 rfl ob_60 (by decide) (by decide) fl_X10_154 rfl rfl rfl rfl (fn_10 A _) fs_10_0 dX10_was_2 (fun H locs hw => ?_)
  refine lv_iload_n hx hb dX10_was_5 rfl (lv_at hl 1 rfl) ?_
  refine ti_callSi (av := [.int z]) C hw (k_X10_isPower l D A cy hJ (uI M 60 0 0) z) ⟨ml_X10_420, ys_X10_isPower, yi_X10_isPower, yc_X10_isPower⟩ yd_X10_isPower rfl hl.1 (Nat.le_of_ble_eq_true rfl) ⟨by decide, by decide⟩ ⟨Nat.zero_le _, Nat.zero_le _⟩ dX10_was_6 (fun r_1 M_2 H locs hp_2 hw => ?_)
  obtain ⟨hm, hz⟩ := hp_2
  have hw := hw.to hm
  rcases hz with ⟨rfl, g_3, g_4⟩ | ⟨rfl, g_5⟩
  · refine lv_if_eq (tgt := 33) hx hb dX10_was_9 (by decide) (fun c => absurd c (by decide)) (fun c_9 => ?_)
    refine lv_aload_n hx hb dX10_was_12 rfl (lv_at hl 0 rfl) ?_
    refine lv_iload_n hx hb dX10_was_13 rfl (lv_at hl 2 rfl) ?_
    refine ti_callVi (ci := 10) (av := [.int z2]) C hw (k_X10_isGone l D A cy hJ (uI M 60 0 0) ⟨((tI_k _ _ _ _ (by decide)).trans m_taped), ((tI_k _ _ _ _ (by decide)).trans m_lf), ((tI_k _ _ _ _ (by decide)).trans m_lp), ((tI_k _ _ _ _ (by decide)).trans m_hi), ((tI_k _ _ _ _ (by decide)).trans m_un), ((tI_k _ _ _ _ (by decide)).trans m_st), ((tI_k _ _ _ _ (by decide)).trans m_kb), ((congrFun ((tY_uI _ _ _ _ _ _).trans rfl) 0).trans n0), ((congrFun ((tY_uI _ _ _ _ _ _).trans rfl) 3).trans n3), ((congrFun ((tY_uI _ _ _ _ _ _).trans rfl) 5).trans n5), ((congrFun ((tY_uI _ _ _ _ _ _).trans rfl) 7).trans n7), ((congrFun ((tY_uI _ _ _ _ _ _).trans rfl) 0).trans mi0), ((congrFun ((tY_uI _ _ _ _ _ _).trans rfl) 0).trans wa0), ((congrFun ((tY_uI _ _ _ _ _ _).trans rfl) 0).trans co0), ((congrFun ((tY_uI _ _ _ _ _ _).trans rfl) 0).trans ma0), ((congrFun ((tY_uI _ _ _ _ _ _).trans rfl) 0).trans pw0), ((congrFun ((tY_uI _ _ _ _ _ _).trans rfl) 1).trans pw1), ((congrFun ((tY_uI _ _ _ _ _ _).trans rfl) 2).trans pw2), sf, sto⟩ z2) ⟨ml_X10_439, ym_X10_isGone, yv_X10_isGone, yi_X10_isGone, yc_X10_isGone⟩ yd_X10_isGone ob_60 (by decide) rfl rfl hl.1 (Nat.le_of_ble_eq_true rfl) ⟨by decide, by decide⟩ ⟨Nat.zero_le _, Nat.zero_le _⟩ dX10_was_14 (fun r_6 M_7 H locs hp_7 hw => ?_)
    obtain ⟨hm, rfl⟩ := hp_7
    have hw := hw.to hm
    refine lv_if_eq (tgt := 33) hx hb dX10_was_17 (by decide) (fun c_17 => ?_) (fun c => absurd (by decide) c)
    refine lv_iconst (v := (-1)) hx hb dX10_was_33 (by decide) ?_
    exact hQ _ _ _ _ _ _ hw rfl rfl dX10_was_34
  · refine lv_if_eq (tgt := 33) hx hb dX10_was_9 (by decide) (fun c_9 => ?_) (fun c => absurd (by decide) c)
    refine lv_iconst (v := (-1)) hx hb dX10_was_33 (by decide) ?_
    exact hQ _ _ _ _ _ _ hw rfl rfl dX10_was_34
set_option maxHeartbeats 4000000 in
set_option maxRecDepth 100000 in
theorem k_X10_chance (l : Launch) (D : va_G) (A : Nat → Nat → Nat) (cy : Nat → ClassId) (hJ : ti_inj ti_LM A) (M : ti_M) (hF : ti_FM M) (z : Int32) (z2 : Int32) (z3 : Int32) : ti_Ki l yX10_chance cX10_chance 8 (some .int) 3 ti_LM D A cy M [.ref (A 60 0), .int z, .int z2, .int z3] (fun r _ => r = (-1)) := by
  refine ti_eI yp_X10_chance hJ ti_LM_nd (Nat.le_of_ble_eq_true rfl) ?_
  intro p e s m args below meth c Q H0 C hQ hw ls hl
  have hx := C.1
  have hb := C.2.1
  have hl : lv_has ls 8 [(0, .ref (A 60 0)), (1, .int z), (2, .int z2), (3, .int z3)] := hl
  obtain ⟨m_taped, m_lf, m_lp, m_hi, m_un, m_st, m_kb, n0, n3, n5, n7, mi0, wa0, co0, ma0, pw0, pw1, pw2, sf, sto⟩ := id hF
  refine lv_aload_n hx hb dX10_chance_0 rfl (lv_at hl 0 rfl) ?_
  refine lv_iconst (v := 0) hx hb dX10_chance_1 (by decide) ?_
  refine ti_putI (ci := 10) (k := 0) (N := 67) (T := TX10) C hw iw_10 tyX10 tyX10_ok nmX10 rfl ob_60 (by decide) (by decide) fl_X10_154 rfl rfl rfl rfl (fn_10 A _) fs_10_0 dX10_chance_2 (fun H locs hw => ?_)
  refine lv_iload_n hx hb dX10_chance_5 rfl (lv_at hl 1 rfl) ?_
  refine lv_if_lt (tgt := 25) hx hb dX10_chance_6 (by decide) (fun c_6 => ?_) (fun c_6 => ?_)
  · refine lv_iconst (v := (-1)) hx hb dX10_chance_25 (by decide) ?_
    exact hQ _ _ _ _ _ _ hw rfl rfl dX10_chance_26
  · refine lv_aload_n hx hb dX10_chance_9 rfl (lv_at hl 0 rfl) ?_
    refine lv_iload_n hx hb dX10_chance_10 rfl (lv_at hl 2 rfl) ?_
    refine ti_callVi (ci := 10) (av := [.int z2]) C hw (k_X10_isMan l D A cy hJ (uI M 60 0 0) ⟨((tI_k _ _ _ _ (by decide)).trans m_taped), ((tI_k _ _ _ _ (by decide)).trans m_lf), ((tI_k _ _ _ _ (by decide)).trans m_lp), ((tI_k _ _ _ _ (by decide)).trans m_hi), ((tI_k _ _ _ _ (by decide)).trans m_un), ((tI_k _ _ _ _ (by decide)).trans m_st), ((tI_k _ _ _ _ (by decide)).trans m_kb), ((congrFun ((tY_uI _ _ _ _ _ _).trans rfl) 0).trans n0), ((congrFun ((tY_uI _ _ _ _ _ _).trans rfl) 3).trans n3), ((congrFun ((tY_uI _ _ _ _ _ _).trans rfl) 5).trans n5), ((congrFun ((tY_uI _ _ _ _ _ _).trans rfl) 7).trans n7), ((congrFun ((tY_uI _ _ _ _ _ _).trans rfl) 0).trans mi0), ((congrFun ((tY_uI _ _ _ _ _ _).trans rfl) 0).trans wa0), ((congrFun ((tY_uI _ _ _ _ _ _).trans rfl) 0).trans co0), ((congrFun ((tY_uI _ _ _ _ _ _).trans rfl) 0).trans ma0), ((congrFun ((tY_uI _ _ _ _ _ _).trans rfl) 0).trans pw0), ((congrFun ((tY_uI _ _ _ _ _ _).trans rfl) 1).trans pw1), ((congrFun ((tY_uI _ _ _ _ _ _).trans rfl) 2).trans pw2), sf, sto⟩ z2) ⟨ml_X10_356, ym_X10_isMan, yv_X10_isMan, yi_X10_isMan, yc_X10_isMan⟩ yd_X10_isMan ob_60 (by decide) rfl rfl hl.1 (Nat.le_of_ble_eq_true rfl) ⟨by decide, by decide⟩ ⟨Nat.zero_le _, Nat.zero_le _⟩ dX10_chance_11 (fun r_1 M_2 H locs hp_2 hw => ?_)
    obtain ⟨hm, rfl⟩ := hp_2
    have hw := hw.to hm
    refine lv_if_eq (tgt := 25) hx hb dX10_chance_14 (by decide) (fun c_14 => ?_) (fun c => absurd (by decide) c)
    refine lv_iconst (v := (-1)) hx hb dX10_chance_25 (by decide) ?_
    exact hQ _ _ _ _ _ _ hw rfl rfl dX10_chance_26
set_option maxHeartbeats 4000000 in
set_option maxRecDepth 100000 in
theorem k_X10_came (l : Launch) (D : va_G) (A : Nat → Nat → Nat) (cy : Nat → ClassId) (hJ : ti_inj ti_LM A) (M : ti_M) (hF : ti_FM M)  : ti_Ki l yX10_came cX10_came 1 (some .int) 3 ti_LM D A cy M [.ref (A 60 0)] (fun r _ => r = 0) := by
  refine ti_eI yp_X10_came hJ ti_LM_nd (Nat.le_of_ble_eq_true rfl) ?_
  intro p e s m args below meth c Q H0 C hQ hw ls hl
  have hx := C.1
  have hb := C.2.1
  have hl : lv_has ls 1 [(0, .ref (A 60 0))] := hl
  obtain ⟨m_taped, m_lf, m_lp, m_hi, m_un, m_st, m_kb, n0, n3, n5, n7, mi0, wa0, co0, ma0, pw0, pw1, pw2, sf, sto⟩ := id hF
  refine lv_aload_n hx hb dX10_came_0 rfl (lv_at hl 0 rfl) ?_
  refine lv_iconst (v := 0) hx hb dX10_came_1 (by decide) ?_
  refine ti_putI (ci := 10) (k := 0) (N := 67) (T := TX10) C hw iw_10 tyX10 tyX10_ok nmX10 rfl ob_60 (by decide) (by decide) fl_X10_154 rfl rfl rfl rfl (fn_10 A _) fs_10_0 dX10_came_2 (fun H locs hw => ?_)
  refine lv_aload_n hx hb dX10_came_5 rfl (lv_at hl 0 rfl) ?_
  refine lv_iconst (v := (-1)) hx hb dX10_came_6 (by decide) ?_
  refine ti_callVi (ci := 10) (av := [.int (-1)]) C hw (k_X10_layCame l D A cy hJ (uI M 60 0 0) ⟨((tI_k _ _ _ _ (by decide)).trans m_taped), ((tI_k _ _ _ _ (by decide)).trans m_lf), ((tI_k _ _ _ _ (by decide)).trans m_lp), ((tI_k _ _ _ _ (by decide)).trans m_hi), ((tI_k _ _ _ _ (by decide)).trans m_un), ((tI_k _ _ _ _ (by decide)).trans m_st), ((tI_k _ _ _ _ (by decide)).trans m_kb), ((congrFun ((tY_uI _ _ _ _ _ _).trans rfl) 0).trans n0), ((congrFun ((tY_uI _ _ _ _ _ _).trans rfl) 3).trans n3), ((congrFun ((tY_uI _ _ _ _ _ _).trans rfl) 5).trans n5), ((congrFun ((tY_uI _ _ _ _ _ _).trans rfl) 7).trans n7), ((congrFun ((tY_uI _ _ _ _ _ _).trans rfl) 0).trans mi0), ((congrFun ((tY_uI _ _ _ _ _ _).trans rfl) 0).trans wa0), ((congrFun ((tY_uI _ _ _ _ _ _).trans rfl) 0).trans co0), ((congrFun ((tY_uI _ _ _ _ _ _).trans rfl) 0).trans ma0), ((congrFun ((tY_uI _ _ _ _ _ _).trans rfl) 0).trans pw0), ((congrFun ((tY_uI _ _ _ _ _ _).trans rfl) 1).trans pw1), ((congrFun ((tY_uI _ _ _ _ _ _).trans rfl) 2).trans pw2), sf, sto⟩ (-1)) ⟨ml_X10_488, ym_X10_layCame, yv_X10_layCame, yi_X10_layCame, yc_X10_layCame⟩ yd_X10_layCame ob_60 (by decide) rfl rfl hl.1 (Nat.le_of_ble_eq_true rfl) ⟨by decide, by decide⟩ ⟨Nat.zero_le _, Nat.zero_le _⟩ dX10_came_7 (fun r_1 M_2 H locs hp_2 hw => ?_)
  obtain ⟨hm, rfl⟩ := hp_2
  have hw := hw.to hm
  exact hQ _ _ _ _ _ _ hw rfl rfl dX10_came_10
set_option maxHeartbeats 4000000 in
set_option maxRecDepth 100000 in
theorem k_X10_gain (l : Launch) (D : va_G) (A : Nat → Nat → Nat) (cy : Nat → ClassId) (hJ : ti_inj ti_LM A) (M : ti_M) (hF : ti_FM M) (z : Int32) (z2 : Int32) : ti_Ki l yX10_gain cX10_gain 6 (some .int) 2 ti_LM D A cy M [.ref (A 60 0), .int z, .int z2] (fun r _ => r = (-1)) := by
  refine ti_eI yp_X10_gain hJ ti_LM_nd (Nat.le_of_ble_eq_true rfl) ?_
  intro p e s m args below meth c Q H0 C hQ hw ls hl
  have hx := C.1
  have hb := C.2.1
  have hl : lv_has ls 6 [(0, .ref (A 60 0)), (1, .int z), (2, .int z2)] := hl
  obtain ⟨m_taped, m_lf, m_lp, m_hi, m_un, m_st, m_kb, n0, n3, n5, n7, mi0, wa0, co0, ma0, pw0, pw1, pw2, sf, sto⟩ := id hF
  refine lv_aload_n hx hb dX10_gain_0 rfl (lv_at hl 0 rfl) ?_
  refine lv_iconst (v := 0) hx hb dX10_gain_1 (by decide) ?_
  refine ti_putI (ci := 10) (k := 0) (N := 67) (T := TX10) C hw iw_10 tyX10 tyX10_ok nmX10 rfl ob_60 (by decide) (by decide) fl_X10_154 rfl rfl rfl rfl (fn_10 A _) fs_10_0 dX10_gain_2 (fun H locs hw => ?_)
  refine lv_iload_n hx hb dX10_gain_5 rfl (lv_at hl 1 rfl) ?_
  refine ti_callSi (av := [.int z]) C hw (k_X10_isPlace l D A cy hJ (uI M 60 0 0) z) ⟨ml_X10_414, ys_X10_isPlace, yi_X10_isPlace, yc_X10_isPlace⟩ yd_X10_isPlace rfl hl.1 (Nat.le_of_ble_eq_true rfl) ⟨by decide, by decide⟩ ⟨Nat.zero_le _, Nat.zero_le _⟩ dX10_gain_6 (fun r_1 M_2 H locs hp_2 hw => ?_)
  obtain ⟨hm, hz⟩ := hp_2
  have hw := hw.to hm
  rcases hz with ⟨rfl, g_3, g_4⟩ | ⟨rfl, g_5⟩
  · refine lv_if_eq (tgt := 30) hx hb dX10_gain_9 (by decide) (fun c => absurd c (by decide)) (fun c_9 => ?_)
    refine lv_iload_n hx hb dX10_gain_12 rfl (lv_at hl 1 rfl) ?_
    refine lv_aload_n hx hb dX10_gain_13 rfl (lv_at hl 0 rfl) ?_
    refine ti_get (ci := 10) (k := 38) (N := 67) (T := TX10) (v := .ref (A 60 39)) C hw iw_10 rfl ob_60 (by decide) (by decide) fl_X10_81 rfl rfl dX10_gain_14 ?_
    refine lv_iconst (v := 0) hx hb dX10_gain_17 (by decide) ?_
    refine ti_iald (ci := 10) (k := 38) (n := 23) C hw ob_60 (by decide) (fun _ _ => rfl) (by unfold vp_in; decide) dX10_gain_18 ?_
    refine ti_top (y := 0) ((congrFun ((tY_uI _ _ _ _ _ _).trans rfl) 0).trans ma0) ?_
    refine lv_icmp_ge (tgt := 30) hx hb dX10_gain_19 (by decide) (fun c_19 => ?_) (fun c => absurd ((by (try simp only [Int32.lt_iff_toInt_lt, Int32.le_iff_toInt_le, ← Int32.toInt_inj, ti_l0, ti_l1, ti_l2, ti_l3, ti_l5, ti_l7, ti_l8, ti_l24, ti_l59, ti_l60, ti_l119, ti_l120, ti_lm1, ti_lm2] at g_3); (try simp only [Int32.lt_iff_toInt_lt, Int32.le_iff_toInt_le, ← Int32.toInt_inj, ti_l0, ti_l1, ti_l2, ti_l3, ti_l5, ti_l7, ti_l8, ti_l24, ti_l59, ti_l60, ti_l119, ti_l120, ti_lm1, ti_lm2] at g_4); (try simp only [Int32.lt_iff_toInt_lt, Int32.le_iff_toInt_le, ← Int32.toInt_inj, ti_l0, ti_l1, ti_l2, ti_l3, ti_l5, ti_l7, ti_l8, ti_l24, ti_l59, ti_l60, ti_l119, ti_l120, ti_lm1, ti_lm2] at c_9); (try simp only [Int32.lt_iff_toInt_lt, Int32.le_iff_toInt_le, ← Int32.toInt_inj, ti_l0, ti_l1, ti_l2, ti_l3, ti_l5, ti_l7, ti_l8, ti_l24, ti_l59, ti_l60, ti_l119, ti_l120, ti_lm1, ti_lm2]); omega)) c)
    refine lv_iconst (v := (-1)) hx hb dX10_gain_30 (by decide) ?_
    exact hQ _ _ _ _ _ _ hw rfl rfl dX10_gain_31
  · refine lv_if_eq (tgt := 30) hx hb dX10_gain_9 (by decide) (fun c_9 => ?_) (fun c => absurd (by decide) c)
    refine lv_iconst (v := (-1)) hx hb dX10_gain_30 (by decide) ?_
    exact hQ _ _ _ _ _ _ hw rfl rfl dX10_gain_31
set_option maxHeartbeats 4000000 in
set_option maxRecDepth 100000 in
theorem k_X10_strike (l : Launch) (D : va_G) (A : Nat → Nat → Nat) (cy : Nat → ClassId) (hJ : ti_inj ti_LM A) (M : ti_M) (hF : ti_FM M) (z : Int32) : ti_Ki l yX10_strike cX10_strike 2 (some .int) 0 ti_LM D A cy M [.ref (A 60 0), .int z] (fun r _ => r = (-1)) := by
  refine ti_eI yp_X10_strike hJ ti_LM_nd (Nat.le_of_ble_eq_true rfl) ?_
  intro p e s m args below meth c Q H0 C hQ hw ls hl
  have hx := C.1
  have hb := C.2.1
  have hl : lv_has ls 2 [(0, .ref (A 60 0)), (1, .int z)] := hl
  obtain ⟨m_taped, m_lf, m_lp, m_hi, m_un, m_st, m_kb, n0, n3, n5, n7, mi0, wa0, co0, ma0, pw0, pw1, pw2, sf, sto⟩ := id hF
  refine lv_aload_n hx hb dX10_strike_0 rfl (lv_at hl 0 rfl) ?_
  refine lv_iconst (v := 0) hx hb dX10_strike_1 (by decide) ?_
  refine ti_putI (ci := 10) (k := 0) (N := 67) (T := TX10) C hw iw_10 tyX10 tyX10_ok nmX10 rfl ob_60 (by decide) (by decide) fl_X10_154 rfl rfl rfl rfl (fn_10 A _) fs_10_0 dX10_strike_2 (fun H locs hw => ?_)
  refine lv_iload_n hx hb dX10_strike_5 rfl (lv_at hl 1 rfl) ?_
  refine lv_if_lt (tgt := 26) hx hb dX10_strike_6 (by decide) (fun c_6 => ?_) (fun c_6 => ?_)
  · refine lv_iconst (v := (-1)) hx hb dX10_strike_26 (by decide) ?_
    exact hQ _ _ _ _ _ _ hw rfl rfl dX10_strike_27
  · refine lv_iload_n hx hb dX10_strike_9 rfl (lv_at hl 1 rfl) ?_
    refine lv_aload_n hx hb dX10_strike_10 rfl (lv_at hl 0 rfl) ?_
    refine ti_get (ci := 10) (k := 58) (N := 67) (T := TX10) C hw iw_10 rfl ob_60 (by decide) (by decide) fl_X10_310 rfl rfl dX10_strike_11 ?_
    refine ti_top (y := 0) ((tI_k _ _ _ _ (by decide)).trans m_st) ?_
    refine lv_icmp_ge (tgt := 26) hx hb dX10_strike_14 (by decide) (fun c_14 => ?_) (fun c => absurd ((by (try simp only [Int32.lt_iff_toInt_lt, Int32.le_iff_toInt_le, ← Int32.toInt_inj, ti_l0, ti_l1, ti_l2, ti_l3, ti_l5, ti_l7, ti_l8, ti_l24, ti_l59, ti_l60, ti_l119, ti_l120, ti_lm1, ti_lm2] at c_6); (try simp only [Int32.lt_iff_toInt_lt, Int32.le_iff_toInt_le, ← Int32.toInt_inj, ti_l0, ti_l1, ti_l2, ti_l3, ti_l5, ti_l7, ti_l8, ti_l24, ti_l59, ti_l60, ti_l119, ti_l120, ti_lm1, ti_lm2]); omega)) c)
    refine lv_iconst (v := (-1)) hx hb dX10_strike_26 (by decide) ?_
    exact hQ _ _ _ _ _ _ hw rfl rfl dX10_strike_27
set_option maxHeartbeats 4000000 in
set_option maxRecDepth 100000 in
theorem k_X10_stone (l : Launch) (D : va_G) (A : Nat → Nat → Nat) (cy : Nat → ClassId) (hJ : ti_inj ti_LM A) (M : ti_M) (hF : ti_FM M) (z : Int32) (z2 : Int32) (z3 : Int32) : ti_Ki l yX10_stone cX10_stone 4 (some .int) 1 ti_LM D A cy M [.ref (A 60 0), .int z, .int z2, .int z3] (fun r _ => r = pf_stone z z2 z3) := by
  refine ti_eI yp_X10_stone hJ ti_LM_nd (Nat.le_of_ble_eq_true rfl) ?_
  intro p e s m args below meth c Q H0 C hQ hw ls hl
  have hx := C.1
  have hb := C.2.1
  have hl : lv_has ls 4 [(0, .ref (A 60 0)), (1, .int z), (2, .int z2), (3, .int z3)] := hl
  obtain ⟨m_taped, m_lf, m_lp, m_hi, m_un, m_st, m_kb, n0, n3, n5, n7, mi0, wa0, co0, ma0, pw0, pw1, pw2, sf, sto⟩ := id hF
  refine lv_aload_n hx hb dX10_stone_0 rfl (lv_at hl 0 rfl) ?_
  refine lv_iconst (v := 0) hx hb dX10_stone_1 (by decide) ?_
  refine ti_putI (ci := 10) (k := 0) (N := 67) (T := TX10) C hw iw_10 tyX10 tyX10_ok nmX10 rfl ob_60 (by decide) (by decide) fl_X10_154 rfl rfl rfl rfl (fn_10 A _) fs_10_0 dX10_stone_2 (fun H locs hw => ?_)
  refine lv_iload_n hx hb dX10_stone_5 rfl (lv_at hl 1 rfl) ?_
  refine lv_if_lt (tgt := 44) hx hb dX10_stone_6 (by decide) (fun c_6 => ?_) (fun c_6 => ?_)
  · refine lv_iconst (v := (-1)) hx hb dX10_stone_44 (by decide) ?_
    exact hQ _ _ _ _ _ _ hw rfl (by unfold pf_stone; (try simp only [Int32.lt_iff_toInt_lt, Int32.le_iff_toInt_le, ← Int32.toInt_inj, ti_l0, ti_l1, ti_l2, ti_l3, ti_l5, ti_l7, ti_l8, ti_l24, ti_l59, ti_l60, ti_l119, ti_l120, ti_lm1, ti_lm2] at c_6); (try simp only [Int32.lt_iff_toInt_lt, Int32.le_iff_toInt_le, ← Int32.toInt_inj, ti_l0, ti_l1, ti_l2, ti_l3, ti_l5, ti_l7, ti_l8, ti_l24, ti_l59, ti_l60, ti_l119, ti_l120, ti_lm1, ti_lm2]); (repeat' split) <;> first | rfl | omega) dX10_stone_45
  · refine lv_iload_n hx hb dX10_stone_9 rfl (lv_at hl 1 rfl) ?_
    refine lv_bipush (v := 59) hx hb dX10_stone_10 (by decide) ?_
    refine lv_icmp_gt (tgt := 44) hx hb dX10_stone_12 (by decide) (fun c_12 => ?_) (fun c_12 => ?_)
    · refine lv_iconst (v := (-1)) hx hb dX10_stone_44 (by decide) ?_
      exact hQ _ _ _ _ _ _ hw rfl (by unfold pf_stone; (try simp only [Int32.lt_iff_toInt_lt, Int32.le_iff_toInt_le, ← Int32.toInt_inj, ti_l0, ti_l1, ti_l2, ti_l3, ti_l5, ti_l7, ti_l8, ti_l24, ti_l59, ti_l60, ti_l119, ti_l120, ti_lm1, ti_lm2] at c_6); (try simp only [Int32.lt_iff_toInt_lt, Int32.le_iff_toInt_le, ← Int32.toInt_inj, ti_l0, ti_l1, ti_l2, ti_l3, ti_l5, ti_l7, ti_l8, ti_l24, ti_l59, ti_l60, ti_l119, ti_l120, ti_lm1, ti_lm2] at c_12); (try simp only [Int32.lt_iff_toInt_lt, Int32.le_iff_toInt_le, ← Int32.toInt_inj, ti_l0, ti_l1, ti_l2, ti_l3, ti_l5, ti_l7, ti_l8, ti_l24, ti_l59, ti_l60, ti_l119, ti_l120, ti_lm1, ti_lm2]); (repeat' split) <;> first | rfl | omega) dX10_stone_45
    · refine lv_iload_n hx hb dX10_stone_15 rfl (lv_at hl 2 rfl) ?_
      refine ti_callSi (av := [.int z2]) C hw (k_X10_isPlace l D A cy hJ (uI M 60 0 0) z2) ⟨ml_X10_414, ys_X10_isPlace, yi_X10_isPlace, yc_X10_isPlace⟩ yd_X10_isPlace rfl hl.1 (Nat.le_of_ble_eq_true rfl) ⟨by decide, by decide⟩ ⟨Nat.zero_le _, Nat.zero_le _⟩ dX10_stone_16 (fun r_1 M_2 H locs hp_2 hw => ?_)
      obtain ⟨hm, hz⟩ := hp_2
      have hw := hw.to hm
      rcases hz with ⟨rfl, g_3, g_4⟩ | ⟨rfl, g_5⟩
      · refine lv_if_eq (tgt := 44) hx hb dX10_stone_19 (by decide) (fun c => absurd c (by decide)) (fun c_19 => ?_)
        refine lv_iload_n hx hb dX10_stone_22 rfl (lv_at hl 3 rfl) ?_
        refine lv_iconst (v := (-1)) hx hb dX10_stone_23 (by decide) ?_
        refine lv_icmp_eq (tgt := 35) hx hb dX10_stone_24 (by decide) (fun c_24 => ?_) (fun c_24 => ?_)
        · refine lv_aload_n hx hb dX10_stone_35 rfl (lv_at hl 0 rfl) ?_
          refine ti_get (ci := 10) (k := 58) (N := 67) (T := TX10) C hw iw_10 rfl ob_60 (by decide) (by decide) fl_X10_310 rfl rfl dX10_stone_36 ?_
          refine ti_top (y := 0) ((tI_k _ _ _ _ (by decide)).trans m_st) ?_
          refine lv_bipush (v := 24) hx hb dX10_stone_39 (by decide) ?_
          refine lv_icmp_ne (tgt := 46) hx hb dX10_stone_41 (by decide) (fun c_41 => ?_) (fun c => absurd c (by decide))
          refine lv_aload_n hx hb dX10_stone_46 rfl (lv_at hl 0 rfl) ?_
          refine ti_get (ci := 10) (k := 60) (N := 67) (T := TX10) (v := .ref (A 60 61)) C hw iw_10 rfl ob_60 (by decide) (by decide) fl_X10_135 rfl rfl dX10_stone_47 ?_
          refine lv_aload_n hx hb dX10_stone_50 rfl (lv_at hl 0 rfl) ?_
          refine ti_get (ci := 10) (k := 58) (N := 67) (T := TX10) C hw iw_10 rfl ob_60 (by decide) (by decide) fl_X10_310 rfl rfl dX10_stone_51 ?_
          refine ti_top (y := 0) ((tI_k _ _ _ _ (by decide)).trans m_st) ?_
          refine lv_iload_n hx hb dX10_stone_54 rfl (lv_at hl 1 rfl) ?_
          refine ti_iastG (ci := 10) (k := 60) (n := 24) C hw ob_60 (by decide) (fun _ _ => rfl) (by unfold vp_in; decide) dX10_stone_55 (fun H locs g_6 eg_6 hw => ?_)
          refine lv_aload_n hx hb dX10_stone_56 rfl (lv_at hl 0 rfl) ?_
          refine ti_get (ci := 10) (k := 61) (N := 67) (T := TX10) (v := .ref (A 60 62)) C hw iw_10 rfl ob_60 (by decide) (by decide) fl_X10_138 rfl rfl dX10_stone_57 ?_
          refine lv_aload_n hx hb dX10_stone_60 rfl (lv_at hl 0 rfl) ?_
          refine ti_get (ci := 10) (k := 58) (N := 67) (T := TX10) C hw iw_10 rfl ob_60 (by decide) (by decide) fl_X10_310 rfl rfl dX10_stone_61 ?_
          refine ti_top (y := 0) ((tI_uY _ _ _ _ _ _).trans ((tI_k _ _ _ _ (by decide)).trans m_st)) ?_
          refine lv_iload_n hx hb dX10_stone_64 rfl (lv_at hl 2 rfl) ?_
          refine ti_iastG (ci := 10) (k := 61) (n := 24) C hw ob_60 (by decide) (fun _ _ => rfl) (by unfold vp_in; decide) dX10_stone_65 (fun H locs g_7 eg_7 hw => ?_)
          refine lv_aload_n hx hb dX10_stone_66 rfl (lv_at hl 0 rfl) ?_
          refine ti_get (ci := 10) (k := 62) (N := 67) (T := TX10) (v := .ref (A 60 63)) C hw iw_10 rfl ob_60 (by decide) (by decide) fl_X10_141 rfl rfl dX10_stone_67 ?_
          refine lv_aload_n hx hb dX10_stone_70 rfl (lv_at hl 0 rfl) ?_
          refine ti_get (ci := 10) (k := 58) (N := 67) (T := TX10) C hw iw_10 rfl ob_60 (by decide) (by decide) fl_X10_310 rfl rfl dX10_stone_71 ?_
          refine ti_top (y := 0) ((tI_uY _ _ _ _ _ _).trans ((tI_uY _ _ _ _ _ _).trans ((tI_k _ _ _ _ (by decide)).trans m_st))) ?_
          refine lv_iload_n hx hb dX10_stone_74 rfl (lv_at hl 3 rfl) ?_
          refine ti_iastG (ci := 10) (k := 62) (n := 24) C hw ob_60 (by decide) (fun _ _ => rfl) (by unfold vp_in; decide) dX10_stone_75 (fun H locs g_8 eg_8 hw => ?_)
          refine lv_aload_n hx hb dX10_stone_76 rfl (lv_at hl 0 rfl) ?_
          refine ti_get (ci := 10) (k := 63) (N := 67) (T := TX10) (v := .ref (A 60 64)) C hw iw_10 rfl ob_60 (by decide) (by decide) fl_X10_144 rfl rfl dX10_stone_77 ?_
          refine lv_aload_n hx hb dX10_stone_80 rfl (lv_at hl 0 rfl) ?_
          refine ti_get (ci := 10) (k := 58) (N := 67) (T := TX10) C hw iw_10 rfl ob_60 (by decide) (by decide) fl_X10_310 rfl rfl dX10_stone_81 ?_
          refine ti_top (y := 0) ((tI_uY _ _ _ _ _ _).trans ((tI_uY _ _ _ _ _ _).trans ((tI_uY _ _ _ _ _ _).trans ((tI_k _ _ _ _ (by decide)).trans m_st)))) ?_
          refine lv_iconst (v := (-1)) hx hb dX10_stone_84 (by decide) ?_
          refine ti_iastG (ci := 10) (k := 63) (n := 24) C hw ob_60 (by decide) (fun _ _ => rfl) (by unfold vp_in; decide) dX10_stone_85 (fun H locs g_9 eg_9 hw => ?_)
          refine lv_aload_n hx hb dX10_stone_86 rfl (lv_at hl 0 rfl) ?_
          refine lv_dup hx hb dX10_stone_87 rfl ?_
          refine ti_get (ci := 10) (k := 58) (N := 67) (T := TX10) C hw iw_10 rfl ob_60 (by decide) (by decide) fl_X10_310 rfl rfl dX10_stone_88 ?_
          refine ti_top (y := 0) ((tI_uY _ _ _ _ _ _).trans ((tI_uY _ _ _ _ _ _).trans ((tI_uY _ _ _ _ _ _).trans ((tI_uY _ _ _ _ _ _).trans ((tI_k _ _ _ _ (by decide)).trans m_st))))) ?_
          refine lv_iconst (v := 1) hx hb dX10_stone_91 (by decide) ?_
          refine lv_iadd hx hb dX10_stone_92 ?_
          refine ti_top (y := 1) (by decide) ?_
          refine ti_putI (ci := 10) (k := 58) (N := 67) (T := TX10) C hw iw_10 tyX10 tyX10_ok nmX10 rfl ob_60 (by decide) (by decide) fl_X10_310 rfl rfl rfl rfl (fn_10 A _) fs_10_58 dX10_stone_93 (fun H locs hw => ?_)
          refine lv_aload_n hx hb dX10_stone_96 rfl (lv_at hl 0 rfl) ?_
          refine ti_get (ci := 10) (k := 58) (N := 67) (T := TX10) C hw iw_10 rfl ob_60 (by decide) (by decide) fl_X10_310 rfl rfl dX10_stone_97 ?_
          refine ti_top (y := 1) (tI_u _ _ _ _) ?_
          refine lv_iconst (v := 1) hx hb dX10_stone_100 (by decide) ?_
          refine lv_isub hx hb dX10_stone_101 ?_
          refine ti_top (y := 0) (by decide) ?_
          exact hQ _ _ _ _ _ _ hw rfl (by unfold pf_stone; (try simp only [Int32.lt_iff_toInt_lt, Int32.le_iff_toInt_le, ← Int32.toInt_inj, ti_l0, ti_l1, ti_l2, ti_l3, ti_l5, ti_l7, ti_l8, ti_l24, ti_l59, ti_l60, ti_l119, ti_l120, ti_lm1, ti_lm2] at c_6); (try simp only [Int32.lt_iff_toInt_lt, Int32.le_iff_toInt_le, ← Int32.toInt_inj, ti_l0, ti_l1, ti_l2, ti_l3, ti_l5, ti_l7, ti_l8, ti_l24, ti_l59, ti_l60, ti_l119, ti_l120, ti_lm1, ti_lm2] at c_12); (try simp only [Int32.lt_iff_toInt_lt, Int32.le_iff_toInt_le, ← Int32.toInt_inj, ti_l0, ti_l1, ti_l2, ti_l3, ti_l5, ti_l7, ti_l8, ti_l24, ti_l59, ti_l60, ti_l119, ti_l120, ti_lm1, ti_lm2] at g_3); (try simp only [Int32.lt_iff_toInt_lt, Int32.le_iff_toInt_le, ← Int32.toInt_inj, ti_l0, ti_l1, ti_l2, ti_l3, ti_l5, ti_l7, ti_l8, ti_l24, ti_l59, ti_l60, ti_l119, ti_l120, ti_lm1, ti_lm2] at g_4); (try simp only [Int32.lt_iff_toInt_lt, Int32.le_iff_toInt_le, ← Int32.toInt_inj, ti_l0, ti_l1, ti_l2, ti_l3, ti_l5, ti_l7, ti_l8, ti_l24, ti_l59, ti_l60, ti_l119, ti_l120, ti_lm1, ti_lm2] at c_19); (try simp only [Int32.lt_iff_toInt_lt, Int32.le_iff_toInt_le, ← Int32.toInt_inj, ti_l0, ti_l1, ti_l2, ti_l3, ti_l5, ti_l7, ti_l8, ti_l24, ti_l59, ti_l60, ti_l119, ti_l120, ti_lm1, ti_lm2] at c_24); (try simp only [Int32.lt_iff_toInt_lt, Int32.le_iff_toInt_le, ← Int32.toInt_inj, ti_l0, ti_l1, ti_l2, ti_l3, ti_l5, ti_l7, ti_l8, ti_l24, ti_l59, ti_l60, ti_l119, ti_l120, ti_lm1, ti_lm2] at c_41); (try simp only [Int32.lt_iff_toInt_lt, Int32.le_iff_toInt_le, ← Int32.toInt_inj, ti_l0, ti_l1, ti_l2, ti_l3, ti_l5, ti_l7, ti_l8, ti_l24, ti_l59, ti_l60, ti_l119, ti_l120, ti_lm1, ti_lm2]); (repeat' split) <;> first | rfl | omega) dX10_stone_102
        · refine lv_aload_n hx hb dX10_stone_27 rfl (lv_at hl 0 rfl) ?_
          refine lv_iload_n hx hb dX10_stone_28 rfl (lv_at hl 3 rfl) ?_
          refine ti_callVi (ci := 10) (av := [.int z3]) C hw (k_X10_isMan l D A cy hJ (uI M 60 0 0) ⟨((tI_k _ _ _ _ (by decide)).trans m_taped), ((tI_k _ _ _ _ (by decide)).trans m_lf), ((tI_k _ _ _ _ (by decide)).trans m_lp), ((tI_k _ _ _ _ (by decide)).trans m_hi), ((tI_k _ _ _ _ (by decide)).trans m_un), ((tI_k _ _ _ _ (by decide)).trans m_st), ((tI_k _ _ _ _ (by decide)).trans m_kb), ((congrFun ((tY_uI _ _ _ _ _ _).trans rfl) 0).trans n0), ((congrFun ((tY_uI _ _ _ _ _ _).trans rfl) 3).trans n3), ((congrFun ((tY_uI _ _ _ _ _ _).trans rfl) 5).trans n5), ((congrFun ((tY_uI _ _ _ _ _ _).trans rfl) 7).trans n7), ((congrFun ((tY_uI _ _ _ _ _ _).trans rfl) 0).trans mi0), ((congrFun ((tY_uI _ _ _ _ _ _).trans rfl) 0).trans wa0), ((congrFun ((tY_uI _ _ _ _ _ _).trans rfl) 0).trans co0), ((congrFun ((tY_uI _ _ _ _ _ _).trans rfl) 0).trans ma0), ((congrFun ((tY_uI _ _ _ _ _ _).trans rfl) 0).trans pw0), ((congrFun ((tY_uI _ _ _ _ _ _).trans rfl) 1).trans pw1), ((congrFun ((tY_uI _ _ _ _ _ _).trans rfl) 2).trans pw2), sf, sto⟩ z3) ⟨ml_X10_356, ym_X10_isMan, yv_X10_isMan, yi_X10_isMan, yc_X10_isMan⟩ yd_X10_isMan ob_60 (by decide) rfl rfl hl.1 (Nat.le_of_ble_eq_true rfl) ⟨by decide, by decide⟩ ⟨Nat.zero_le _, Nat.zero_le _⟩ dX10_stone_29 (fun r_10 M_11 H locs hp_11 hw => ?_)
          obtain ⟨hm, rfl⟩ := hp_11
          have hw := hw.to hm
          refine lv_if_eq (tgt := 44) hx hb dX10_stone_32 (by decide) (fun c_32 => ?_) (fun c => absurd (by decide) c)
          refine lv_iconst (v := (-1)) hx hb dX10_stone_44 (by decide) ?_
          exact hQ _ _ _ _ _ _ hw rfl (by unfold pf_stone; (try simp only [Int32.lt_iff_toInt_lt, Int32.le_iff_toInt_le, ← Int32.toInt_inj, ti_l0, ti_l1, ti_l2, ti_l3, ti_l5, ti_l7, ti_l8, ti_l24, ti_l59, ti_l60, ti_l119, ti_l120, ti_lm1, ti_lm2] at c_6); (try simp only [Int32.lt_iff_toInt_lt, Int32.le_iff_toInt_le, ← Int32.toInt_inj, ti_l0, ti_l1, ti_l2, ti_l3, ti_l5, ti_l7, ti_l8, ti_l24, ti_l59, ti_l60, ti_l119, ti_l120, ti_lm1, ti_lm2] at c_12); (try simp only [Int32.lt_iff_toInt_lt, Int32.le_iff_toInt_le, ← Int32.toInt_inj, ti_l0, ti_l1, ti_l2, ti_l3, ti_l5, ti_l7, ti_l8, ti_l24, ti_l59, ti_l60, ti_l119, ti_l120, ti_lm1, ti_lm2] at g_3); (try simp only [Int32.lt_iff_toInt_lt, Int32.le_iff_toInt_le, ← Int32.toInt_inj, ti_l0, ti_l1, ti_l2, ti_l3, ti_l5, ti_l7, ti_l8, ti_l24, ti_l59, ti_l60, ti_l119, ti_l120, ti_lm1, ti_lm2] at g_4); (try simp only [Int32.lt_iff_toInt_lt, Int32.le_iff_toInt_le, ← Int32.toInt_inj, ti_l0, ti_l1, ti_l2, ti_l3, ti_l5, ti_l7, ti_l8, ti_l24, ti_l59, ti_l60, ti_l119, ti_l120, ti_lm1, ti_lm2] at c_19); (try simp only [Int32.lt_iff_toInt_lt, Int32.le_iff_toInt_le, ← Int32.toInt_inj, ti_l0, ti_l1, ti_l2, ti_l3, ti_l5, ti_l7, ti_l8, ti_l24, ti_l59, ti_l60, ti_l119, ti_l120, ti_lm1, ti_lm2] at c_24); (try simp only [Int32.lt_iff_toInt_lt, Int32.le_iff_toInt_le, ← Int32.toInt_inj, ti_l0, ti_l1, ti_l2, ti_l3, ti_l5, ti_l7, ti_l8, ti_l24, ti_l59, ti_l60, ti_l119, ti_l120, ti_lm1, ti_lm2] at c_32); (try simp only [Int32.lt_iff_toInt_lt, Int32.le_iff_toInt_le, ← Int32.toInt_inj, ti_l0, ti_l1, ti_l2, ti_l3, ti_l5, ti_l7, ti_l8, ti_l24, ti_l59, ti_l60, ti_l119, ti_l120, ti_lm1, ti_lm2]); (repeat' split) <;> first | rfl | omega) dX10_stone_45
      · refine lv_if_eq (tgt := 44) hx hb dX10_stone_19 (by decide) (fun c_19 => ?_) (fun c => absurd (by decide) c)
        refine lv_iconst (v := (-1)) hx hb dX10_stone_44 (by decide) ?_
        exact hQ _ _ _ _ _ _ hw rfl (by unfold pf_stone; (try simp only [Int32.lt_iff_toInt_lt, Int32.le_iff_toInt_le, ← Int32.toInt_inj, ti_l0, ti_l1, ti_l2, ti_l3, ti_l5, ti_l7, ti_l8, ti_l24, ti_l59, ti_l60, ti_l119, ti_l120, ti_lm1, ti_lm2] at c_6); (try simp only [Int32.lt_iff_toInt_lt, Int32.le_iff_toInt_le, ← Int32.toInt_inj, ti_l0, ti_l1, ti_l2, ti_l3, ti_l5, ti_l7, ti_l8, ti_l24, ti_l59, ti_l60, ti_l119, ti_l120, ti_lm1, ti_lm2] at c_12); (try simp only [Int32.lt_iff_toInt_lt, Int32.le_iff_toInt_le, ← Int32.toInt_inj, ti_l0, ti_l1, ti_l2, ti_l3, ti_l5, ti_l7, ti_l8, ti_l24, ti_l59, ti_l60, ti_l119, ti_l120, ti_lm1, ti_lm2] at g_5); (try simp only [Int32.lt_iff_toInt_lt, Int32.le_iff_toInt_le, ← Int32.toInt_inj, ti_l0, ti_l1, ti_l2, ti_l3, ti_l5, ti_l7, ti_l8, ti_l24, ti_l59, ti_l60, ti_l119, ti_l120, ti_lm1, ti_lm2] at c_19); (try simp only [Int32.lt_iff_toInt_lt, Int32.le_iff_toInt_le, ← Int32.toInt_inj, ti_l0, ti_l1, ti_l2, ti_l3, ti_l5, ti_l7, ti_l8, ti_l24, ti_l59, ti_l60, ti_l119, ti_l120, ti_lm1, ti_lm2]); (repeat' split) <;> first | rfl | omega) dX10_stone_45
set_option maxHeartbeats 4000000 in
set_option maxRecDepth 100000 in
theorem k_X10_known (l : Launch) (D : va_G) (A : Nat → Nat → Nat) (cy : Nat → ClassId) (hJ : ti_inj ti_LM A) (M : ti_M) (hF : ti_FM M) (z : Int32) : ti_Ki l yX10_known cX10_known 2 (some .boolean) 0 ti_LM D A cy M [.ref (A 60 0), .int z] (fun r _ => r = pf_known z) := by
  refine ti_eI yp_X10_known hJ ti_LM_nd (Nat.le_of_ble_eq_true rfl) ?_
  intro p e s m args below meth c Q H0 C hQ hw ls hl
  have hx := C.1
  have hb := C.2.1
  have hl : lv_has ls 2 [(0, .ref (A 60 0)), (1, .int z)] := hl
  obtain ⟨m_taped, m_lf, m_lp, m_hi, m_un, m_st, m_kb, n0, n3, n5, n7, mi0, wa0, co0, ma0, pw0, pw1, pw2, sf, sto⟩ := id hF
  refine lv_aload_n hx hb dX10_known_0 rfl (lv_at hl 0 rfl) ?_
  refine lv_iconst (v := 0) hx hb dX10_known_1 (by decide) ?_
  refine ti_putI (ci := 10) (k := 0) (N := 67) (T := TX10) C hw iw_10 tyX10 tyX10_ok nmX10 rfl ob_60 (by decide) (by decide) fl_X10_154 rfl rfl rfl rfl (fn_10 A _) fs_10_0 dX10_known_2 (fun H locs hw => ?_)
  refine lv_iload_n hx hb dX10_known_5 rfl (lv_at hl 1 rfl) ?_
  refine lv_iconst (v := (-1)) hx hb dX10_known_6 (by decide) ?_
  refine lv_icmp_lt (tgt := 18) hx hb dX10_known_7 (by decide) (fun c_7 => ?_) (fun c_7 => ?_)
  · refine lv_iconst (v := 0) hx hb dX10_known_18 (by decide) ?_
    exact hQ _ _ _ _ _ _ hw rfl (by unfold pf_known; (try simp only [Int32.lt_iff_toInt_lt, Int32.le_iff_toInt_le, ← Int32.toInt_inj, ti_l0, ti_l1, ti_l2, ti_l3, ti_l5, ti_l7, ti_l8, ti_l24, ti_l59, ti_l60, ti_l119, ti_l120, ti_lm1, ti_lm2] at c_7); (try simp only [Int32.lt_iff_toInt_lt, Int32.le_iff_toInt_le, ← Int32.toInt_inj, ti_l0, ti_l1, ti_l2, ti_l3, ti_l5, ti_l7, ti_l8, ti_l24, ti_l59, ti_l60, ti_l119, ti_l120, ti_lm1, ti_lm2]); (repeat' split) <;> first | rfl | omega) dX10_known_19
  · refine lv_iload_n hx hb dX10_known_10 rfl (lv_at hl 1 rfl) ?_
    refine lv_aload_n hx hb dX10_known_11 rfl (lv_at hl 0 rfl) ?_
    refine ti_get (ci := 10) (k := 58) (N := 67) (T := TX10) C hw iw_10 rfl ob_60 (by decide) (by decide) fl_X10_310 rfl rfl dX10_known_12 ?_
    refine ti_top (y := 0) ((tI_k _ _ _ _ (by decide)).trans m_st) ?_
    refine lv_icmp_le (tgt := 20) hx hb dX10_known_15 (by decide) (fun c_15 => ?_) (fun c_15 => ?_)
    · refine lv_aload_n hx hb dX10_known_20 rfl (lv_at hl 0 rfl) ?_
      refine lv_iload_n hx hb dX10_known_21 rfl (lv_at hl 1 rfl) ?_
      refine ti_putI (ci := 10) (k := 59) (N := 67) (T := TX10) C hw iw_10 tyX10 tyX10_ok nmX10 rfl ob_60 (by decide) (by decide) fl_X10_132 rfl rfl rfl rfl (fn_10 A _) fs_10_59 dX10_known_22 (fun H locs hw => ?_)
      refine lv_iconst (v := 1) hx hb dX10_known_25 (by decide) ?_
      exact hQ _ _ _ _ _ _ hw rfl (by unfold pf_known; (try simp only [Int32.lt_iff_toInt_lt, Int32.le_iff_toInt_le, ← Int32.toInt_inj, ti_l0, ti_l1, ti_l2, ti_l3, ti_l5, ti_l7, ti_l8, ti_l24, ti_l59, ti_l60, ti_l119, ti_l120, ti_lm1, ti_lm2] at c_7); (try simp only [Int32.lt_iff_toInt_lt, Int32.le_iff_toInt_le, ← Int32.toInt_inj, ti_l0, ti_l1, ti_l2, ti_l3, ti_l5, ti_l7, ti_l8, ti_l24, ti_l59, ti_l60, ti_l119, ti_l120, ti_lm1, ti_lm2] at c_15); (try simp only [Int32.lt_iff_toInt_lt, Int32.le_iff_toInt_le, ← Int32.toInt_inj, ti_l0, ti_l1, ti_l2, ti_l3, ti_l5, ti_l7, ti_l8, ti_l24, ti_l59, ti_l60, ti_l119, ti_l120, ti_lm1, ti_lm2]); (repeat' split) <;> first | rfl | omega) dX10_known_26
    · refine lv_iconst (v := 0) hx hb dX10_known_18 (by decide) ?_
      exact hQ _ _ _ _ _ _ hw rfl (by unfold pf_known; (try simp only [Int32.lt_iff_toInt_lt, Int32.le_iff_toInt_le, ← Int32.toInt_inj, ti_l0, ti_l1, ti_l2, ti_l3, ti_l5, ti_l7, ti_l8, ti_l24, ti_l59, ti_l60, ti_l119, ti_l120, ti_lm1, ti_lm2] at c_7); (try simp only [Int32.lt_iff_toInt_lt, Int32.le_iff_toInt_le, ← Int32.toInt_inj, ti_l0, ti_l1, ti_l2, ti_l3, ti_l5, ti_l7, ti_l8, ti_l24, ti_l59, ti_l60, ti_l119, ti_l120, ti_lm1, ti_lm2] at c_15); (try simp only [Int32.lt_iff_toInt_lt, Int32.le_iff_toInt_le, ← Int32.toInt_inj, ti_l0, ti_l1, ti_l2, ti_l3, ti_l5, ti_l7, ti_l8, ti_l24, ti_l59, ti_l60, ti_l119, ti_l120, ti_lm1, ti_lm2]); (repeat' split) <;> first | rfl | omega) dX10_known_19
set_option maxHeartbeats 4000000 in
set_option maxRecDepth 100000 in
theorem k_X10_one (l : Launch) (D : va_G) (A : Nat → Nat → Nat) (cy : Nat → ClassId) (hJ : ti_inj ti_LM A) (M : ti_M) (hF : ti_FM M) (z : Int32) (z2 : Int32) : ti_Ki l yX10_one cX10_one 3 (some .int) 2 ti_LM D A cy M [.ref (A 60 0), .int z, .int z2] (fun r _ => r = pf_one z z2) := by
  refine ti_eI yp_X10_one hJ ti_LM_nd (Nat.le_of_ble_eq_true rfl) ?_
  intro p e s m args below meth c Q H0 C hQ hw ls hl
  have hx := C.1
  have hb := C.2.1
  have hl : lv_has ls 3 [(0, .ref (A 60 0)), (1, .int z), (2, .int z2)] := hl
  obtain ⟨m_taped, m_lf, m_lp, m_hi, m_un, m_st, m_kb, n0, n3, n5, n7, mi0, wa0, co0, ma0, pw0, pw1, pw2, sf, sto⟩ := id hF
  refine lv_aload_n hx hb dX10_one_0 rfl (lv_at hl 0 rfl) ?_
  refine lv_iconst (v := 0) hx hb dX10_one_1 (by decide) ?_
  refine ti_putI (ci := 10) (k := 0) (N := 67) (T := TX10) C hw iw_10 tyX10 tyX10_ok nmX10 rfl ob_60 (by decide) (by decide) fl_X10_154 rfl rfl rfl rfl (fn_10 A _) fs_10_0 dX10_one_2 (fun H locs hw => ?_)
  refine lv_iload_n hx hb dX10_one_5 rfl (lv_at hl 1 rfl) ?_
  refine lv_if_lt (tgt := 18) hx hb dX10_one_6 (by decide) (fun c_6 => ?_) (fun c_6 => ?_)
  · refine lv_iconst (v := (-1)) hx hb dX10_one_18 (by decide) ?_
    exact hQ _ _ _ _ _ _ hw rfl (by unfold pf_one; (try simp only [Int32.lt_iff_toInt_lt, Int32.le_iff_toInt_le, ← Int32.toInt_inj, ti_l0, ti_l1, ti_l2, ti_l3, ti_l5, ti_l7, ti_l8, ti_l24, ti_l59, ti_l60, ti_l119, ti_l120, ti_lm1, ti_lm2] at c_6); (try simp only [Int32.lt_iff_toInt_lt, Int32.le_iff_toInt_le, ← Int32.toInt_inj, ti_l0, ti_l1, ti_l2, ti_l3, ti_l5, ti_l7, ti_l8, ti_l24, ti_l59, ti_l60, ti_l119, ti_l120, ti_lm1, ti_lm2]); (repeat' split) <;> first | rfl | omega) dX10_one_19
  · refine lv_iload_n hx hb dX10_one_9 rfl (lv_at hl 2 rfl) ?_
    refine lv_if_lt (tgt := 18) hx hb dX10_one_10 (by decide) (fun c_10 => ?_) (fun c_10 => ?_)
    · refine lv_iconst (v := (-1)) hx hb dX10_one_18 (by decide) ?_
      exact hQ _ _ _ _ _ _ hw rfl (by unfold pf_one; (try simp only [Int32.lt_iff_toInt_lt, Int32.le_iff_toInt_le, ← Int32.toInt_inj, ti_l0, ti_l1, ti_l2, ti_l3, ti_l5, ti_l7, ti_l8, ti_l24, ti_l59, ti_l60, ti_l119, ti_l120, ti_lm1, ti_lm2] at c_6); (try simp only [Int32.lt_iff_toInt_lt, Int32.le_iff_toInt_le, ← Int32.toInt_inj, ti_l0, ti_l1, ti_l2, ti_l3, ti_l5, ti_l7, ti_l8, ti_l24, ti_l59, ti_l60, ti_l119, ti_l120, ti_lm1, ti_lm2] at c_10); (try simp only [Int32.lt_iff_toInt_lt, Int32.le_iff_toInt_le, ← Int32.toInt_inj, ti_l0, ti_l1, ti_l2, ti_l3, ti_l5, ti_l7, ti_l8, ti_l24, ti_l59, ti_l60, ti_l119, ti_l120, ti_lm1, ti_lm2]); (repeat' split) <;> first | rfl | omega) dX10_one_19
    · refine lv_iload_n hx hb dX10_one_13 rfl (lv_at hl 2 rfl) ?_
      refine lv_iconst (v := 1) hx hb dX10_one_14 (by decide) ?_
      refine lv_icmp_le (tgt := 20) hx hb dX10_one_15 (by decide) (fun c_15 => ?_) (fun c_15 => ?_)
      · refine lv_iload_n hx hb dX10_one_20 rfl (lv_at hl 1 rfl) ?_
        refine lv_aload_n hx hb dX10_one_21 rfl (lv_at hl 0 rfl) ?_
        refine lv_iload_n hx hb dX10_one_22 rfl (lv_at hl 1 rfl) ?_
        refine ti_callVi (ci := 10) (av := [.int z]) C hw (k_X10_layCame l D A cy hJ (uI M 60 0 0) ⟨((tI_k _ _ _ _ (by decide)).trans m_taped), ((tI_k _ _ _ _ (by decide)).trans m_lf), ((tI_k _ _ _ _ (by decide)).trans m_lp), ((tI_k _ _ _ _ (by decide)).trans m_hi), ((tI_k _ _ _ _ (by decide)).trans m_un), ((tI_k _ _ _ _ (by decide)).trans m_st), ((tI_k _ _ _ _ (by decide)).trans m_kb), ((congrFun ((tY_uI _ _ _ _ _ _).trans rfl) 0).trans n0), ((congrFun ((tY_uI _ _ _ _ _ _).trans rfl) 3).trans n3), ((congrFun ((tY_uI _ _ _ _ _ _).trans rfl) 5).trans n5), ((congrFun ((tY_uI _ _ _ _ _ _).trans rfl) 7).trans n7), ((congrFun ((tY_uI _ _ _ _ _ _).trans rfl) 0).trans mi0), ((congrFun ((tY_uI _ _ _ _ _ _).trans rfl) 0).trans wa0), ((congrFun ((tY_uI _ _ _ _ _ _).trans rfl) 0).trans co0), ((congrFun ((tY_uI _ _ _ _ _ _).trans rfl) 0).trans ma0), ((congrFun ((tY_uI _ _ _ _ _ _).trans rfl) 0).trans pw0), ((congrFun ((tY_uI _ _ _ _ _ _).trans rfl) 1).trans pw1), ((congrFun ((tY_uI _ _ _ _ _ _).trans rfl) 2).trans pw2), sf, sto⟩ z) ⟨ml_X10_488, ym_X10_layCame, yv_X10_layCame, yi_X10_layCame, yc_X10_layCame⟩ yd_X10_layCame ob_60 (by decide) rfl rfl hl.1 (Nat.le_of_ble_eq_true rfl) ⟨by decide, by decide⟩ ⟨Nat.zero_le _, Nat.zero_le _⟩ dX10_one_23 (fun r_1 M_2 H locs hp_2 hw => ?_)
        obtain ⟨hm, rfl⟩ := hp_2
        have hw := hw.to hm
        refine lv_icmp_lt (tgt := 32) hx hb dX10_one_26 (by decide) (fun c => absurd c ((by (try simp only [Int32.lt_iff_toInt_lt, Int32.le_iff_toInt_le, ← Int32.toInt_inj, ti_l0, ti_l1, ti_l2, ti_l3, ti_l5, ti_l7, ti_l8, ti_l24, ti_l59, ti_l60, ti_l119, ti_l120, ti_lm1, ti_lm2] at c_6); (try simp only [Int32.lt_iff_toInt_lt, Int32.le_iff_toInt_le, ← Int32.toInt_inj, ti_l0, ti_l1, ti_l2, ti_l3, ti_l5, ti_l7, ti_l8, ti_l24, ti_l59, ti_l60, ti_l119, ti_l120, ti_lm1, ti_lm2] at c_10); (try simp only [Int32.lt_iff_toInt_lt, Int32.le_iff_toInt_le, ← Int32.toInt_inj, ti_l0, ti_l1, ti_l2, ti_l3, ti_l5, ti_l7, ti_l8, ti_l24, ti_l59, ti_l60, ti_l119, ti_l120, ti_lm1, ti_lm2] at c_15); (try simp only [Int32.lt_iff_toInt_lt, Int32.le_iff_toInt_le, ← Int32.toInt_inj, ti_l0, ti_l1, ti_l2, ti_l3, ti_l5, ti_l7, ti_l8, ti_l24, ti_l59, ti_l60, ti_l119, ti_l120, ti_lm1, ti_lm2]); omega))) (fun c_26 => ?_)
        refine lv_bipush (v := (-2)) hx hb dX10_one_29 (by decide) ?_
        exact hQ _ _ _ _ _ _ hw rfl (by unfold pf_one; (try simp only [Int32.lt_iff_toInt_lt, Int32.le_iff_toInt_le, ← Int32.toInt_inj, ti_l0, ti_l1, ti_l2, ti_l3, ti_l5, ti_l7, ti_l8, ti_l24, ti_l59, ti_l60, ti_l119, ti_l120, ti_lm1, ti_lm2] at c_6); (try simp only [Int32.lt_iff_toInt_lt, Int32.le_iff_toInt_le, ← Int32.toInt_inj, ti_l0, ti_l1, ti_l2, ti_l3, ti_l5, ti_l7, ti_l8, ti_l24, ti_l59, ti_l60, ti_l119, ti_l120, ti_lm1, ti_lm2] at c_10); (try simp only [Int32.lt_iff_toInt_lt, Int32.le_iff_toInt_le, ← Int32.toInt_inj, ti_l0, ti_l1, ti_l2, ti_l3, ti_l5, ti_l7, ti_l8, ti_l24, ti_l59, ti_l60, ti_l119, ti_l120, ti_lm1, ti_lm2] at c_15); (try simp only [Int32.lt_iff_toInt_lt, Int32.le_iff_toInt_le, ← Int32.toInt_inj, ti_l0, ti_l1, ti_l2, ti_l3, ti_l5, ti_l7, ti_l8, ti_l24, ti_l59, ti_l60, ti_l119, ti_l120, ti_lm1, ti_lm2] at c_26); (try simp only [Int32.lt_iff_toInt_lt, Int32.le_iff_toInt_le, ← Int32.toInt_inj, ti_l0, ti_l1, ti_l2, ti_l3, ti_l5, ti_l7, ti_l8, ti_l24, ti_l59, ti_l60, ti_l119, ti_l120, ti_lm1, ti_lm2]); (repeat' split) <;> first | rfl | omega) dX10_one_31
      · refine lv_iconst (v := (-1)) hx hb dX10_one_18 (by decide) ?_
        exact hQ _ _ _ _ _ _ hw rfl (by unfold pf_one; (try simp only [Int32.lt_iff_toInt_lt, Int32.le_iff_toInt_le, ← Int32.toInt_inj, ti_l0, ti_l1, ti_l2, ti_l3, ti_l5, ti_l7, ti_l8, ti_l24, ti_l59, ti_l60, ti_l119, ti_l120, ti_lm1, ti_lm2] at c_6); (try simp only [Int32.lt_iff_toInt_lt, Int32.le_iff_toInt_le, ← Int32.toInt_inj, ti_l0, ti_l1, ti_l2, ti_l3, ti_l5, ti_l7, ti_l8, ti_l24, ti_l59, ti_l60, ti_l119, ti_l120, ti_lm1, ti_lm2] at c_10); (try simp only [Int32.lt_iff_toInt_lt, Int32.le_iff_toInt_le, ← Int32.toInt_inj, ti_l0, ti_l1, ti_l2, ti_l3, ti_l5, ti_l7, ti_l8, ti_l24, ti_l59, ti_l60, ti_l119, ti_l120, ti_lm1, ti_lm2] at c_15); (try simp only [Int32.lt_iff_toInt_lt, Int32.le_iff_toInt_le, ← Int32.toInt_inj, ti_l0, ti_l1, ti_l2, ti_l3, ti_l5, ti_l7, ti_l8, ti_l24, ti_l59, ti_l60, ti_l119, ti_l120, ti_lm1, ti_lm2]); (repeat' split) <;> first | rfl | omega) dX10_one_19
set_option maxHeartbeats 4000000 in
set_option maxRecDepth 100000 in
theorem k_X10_count (l : Launch) (D : va_G) (A : Nat → Nat → Nat) (cy : Nat → ClassId) (hJ : ti_inj ti_LM A) (M : ti_M) (hF : ti_FM M) (z : Int32) : ti_Ki l yX10_count cX10_count 4 (some .int) 2 ti_LM D A cy M [.ref (A 60 0), .int z] (fun r _ => r = pf_count z) := by
  refine ti_eI yp_X10_count hJ ti_LM_nd (Nat.le_of_ble_eq_true rfl) ?_
  intro p e s m args below meth c Q H0 C hQ hw ls hl
  have hx := C.1
  have hb := C.2.1
  have hl : lv_has ls 4 [(0, .ref (A 60 0)), (1, .int z)] := hl
  obtain ⟨m_taped, m_lf, m_lp, m_hi, m_un, m_st, m_kb, n0, n3, n5, n7, mi0, wa0, co0, ma0, pw0, pw1, pw2, sf, sto⟩ := id hF
  refine lv_aload_n hx hb dX10_count_0 rfl (lv_at hl 0 rfl) ?_
  refine lv_iconst (v := 0) hx hb dX10_count_1 (by decide) ?_
  refine ti_putI (ci := 10) (k := 0) (N := 67) (T := TX10) C hw iw_10 tyX10 tyX10_ok nmX10 rfl ob_60 (by decide) (by decide) fl_X10_154 rfl rfl rfl rfl (fn_10 A _) fs_10_0 dX10_count_2 (fun H locs hw => ?_)
  refine lv_iconst (v := 0) hx hb dX10_count_5 (by decide) ?_
  refine lv_istore_n (lv' := [(2, .int 0), (0, .ref (A 60 0)), (1, .int z)]) hx hb dX10_count_6 rfl hl (by decide) rfl (fun ls hl => ?_)
  refine lv_iload_n hx hb dX10_count_7 rfl (lv_at hl 2 rfl) ?_
  by_cases s_8_0 : z = 0
  · refine lv_tableIn (tgt := 84) (off := 76) hx hb dX10_count_8 (by rw [s_8_0]; decide) (by rw [s_8_0]; decide) (by rw [s_8_0]; decide) (by decide) ?_
    refine lv_aload_n hx hb dX10_count_84 rfl (lv_at hl 1 rfl) ?_
    refine ti_get (ci := 10) (k := 3) (N := 67) (T := TX10) (v := .ref (A 60 4)) C hw iw_10 rfl ob_60 (by decide) (by decide) fl_X10_13 rfl rfl dX10_count_85 ?_
    refine lv_iconst (v := 0) hx hb dX10_count_88 (by decide) ?_
    refine ti_iald (ci := 10) (k := 3) (n := 22) C hw ob_60 (by decide) (fun _ _ => rfl) (by unfold vp_in; decide) dX10_count_89 ?_
    refine ti_top (y := 0) ((congrFun ((tY_uI _ _ _ _ _ _).trans rfl) 0).trans n0) ?_
    exact hQ _ _ _ _ _ _ hw rfl (by rw [s_8_0]; decide) dX10_count_90
  by_cases s_8_1 : z = 1
  · refine lv_tableIn (tgt := 91) (off := 83) hx hb dX10_count_8 (by rw [s_8_1]; decide) (by rw [s_8_1]; decide) (by rw [s_8_1]; decide) (by decide) ?_
    refine lv_aload_n hx hb dX10_count_91 rfl (lv_at hl 1 rfl) ?_
    refine ti_get (ci := 10) (k := 3) (N := 67) (T := TX10) (v := .ref (A 60 4)) C hw iw_10 rfl ob_60 (by decide) (by decide) fl_X10_13 rfl rfl dX10_count_92 ?_
    refine lv_bipush (v := 7) hx hb dX10_count_95 (by decide) ?_
    refine ti_iald (ci := 10) (k := 3) (n := 22) C hw ob_60 (by decide) (fun _ _ => rfl) (by unfold vp_in; decide) dX10_count_97 ?_
    refine ti_top (y := 0) ((congrFun ((tY_uI _ _ _ _ _ _).trans rfl) 7).trans n7) ?_
    exact hQ _ _ _ _ _ _ hw rfl (by rw [s_8_1]; decide) dX10_count_98
  by_cases s_8_2 : z = 2
  · refine lv_tableIn (tgt := 99) (off := 91) hx hb dX10_count_8 (by rw [s_8_2]; decide) (by rw [s_8_2]; decide) (by rw [s_8_2]; decide) (by decide) ?_
    refine lv_aload_n hx hb dX10_count_99 rfl (lv_at hl 1 rfl) ?_
    refine ti_get (ci := 10) (k := 34) (N := 67) (T := TX10) (v := .ref (A 60 35)) C hw iw_10 rfl ob_60 (by decide) (by decide) fl_X10_69 rfl rfl dX10_count_100 ?_
    refine lv_iconst (v := 0) hx hb dX10_count_103 (by decide) ?_
    refine ti_iald (ci := 10) (k := 34) (n := 23) C hw ob_60 (by decide) (fun _ _ => rfl) (by unfold vp_in; decide) dX10_count_104 ?_
    refine ti_top (y := 0) ((congrFun ((tY_uI _ _ _ _ _ _).trans rfl) 0).trans mi0) ?_
    exact hQ _ _ _ _ _ _ hw rfl (by rw [s_8_2]; decide) dX10_count_105
  by_cases s_8_3 : z = 3
  · refine lv_tableIn (tgt := 106) (off := 98) hx hb dX10_count_8 (by rw [s_8_3]; decide) (by rw [s_8_3]; decide) (by rw [s_8_3]; decide) (by decide) ?_
    refine lv_aload_n hx hb dX10_count_106 rfl (lv_at hl 1 rfl) ?_
    refine ti_get (ci := 10) (k := 38) (N := 67) (T := TX10) (v := .ref (A 60 39)) C hw iw_10 rfl ob_60 (by decide) (by decide) fl_X10_81 rfl rfl dX10_count_107 ?_
    refine lv_iconst (v := 0) hx hb dX10_count_110 (by decide) ?_
    refine ti_iald (ci := 10) (k := 38) (n := 23) C hw ob_60 (by decide) (fun _ _ => rfl) (by unfold vp_in; decide) dX10_count_111 ?_
    refine ti_top (y := 0) ((congrFun ((tY_uI _ _ _ _ _ _).trans rfl) 0).trans ma0) ?_
    exact hQ _ _ _ _ _ _ hw rfl (by rw [s_8_3]; decide) dX10_count_112
  by_cases s_8_4 : z = 4
  · refine lv_tableIn (tgt := 113) (off := 105) hx hb dX10_count_8 (by rw [s_8_4]; decide) (by rw [s_8_4]; decide) (by rw [s_8_4]; decide) (by decide) ?_
    refine lv_aload_n hx hb dX10_count_113 rfl (lv_at hl 1 rfl) ?_
    refine lv_iconst (v := 0) hx hb dX10_count_114 (by decide) ?_
    refine ti_callVi (ci := 10) (av := [.int 0]) C hw (k_servedMany_0 l D A cy hJ (uI M 60 0 0) ((congrFun ((tY_uI _ _ _ _ _ _).trans rfl) 0).trans n0)) ⟨ml_X10_491, ym_X10_servedMany, yv_X10_servedMany, yi_X10_servedMany, yc_X10_servedMany⟩ yd_X10_servedMany ob_60 (by decide) rfl rfl hl.1 (Nat.le_of_ble_eq_true rfl) ⟨by decide, by decide⟩ ⟨Nat.zero_le _, Nat.zero_le _⟩ dX10_count_115 (fun r_1 M_2 H locs hp_2 hw => ?_)
    obtain ⟨hm, rfl⟩ := hp_2
    have hw := hw.to hm
    exact hQ _ _ _ _ _ _ hw rfl (by rw [s_8_4]; decide) dX10_count_118
  by_cases s_8_5 : z = 5
  · refine lv_tableIn (tgt := 119) (off := 111) hx hb dX10_count_8 (by rw [s_8_5]; decide) (by rw [s_8_5]; decide) (by rw [s_8_5]; decide) (by decide) ?_
    refine lv_aload_n hx hb dX10_count_119 rfl (lv_at hl 1 rfl) ?_
    refine lv_iconst (v := 0) hx hb dX10_count_120 (by decide) ?_
    refine lv_iconst (v := 3) hx hb dX10_count_121 (by decide) ?_
    refine ti_callVi (ci := 10) (av := [.int 0, .int 3]) C hw (k_howMany_0 l D A cy hJ (uI M 60 0 0) 3 ((congrFun ((tY_uI _ _ _ _ _ _).trans rfl) 0).trans n0)) ⟨ml_X10_494, ym_X10_howMany, yv_X10_howMany, yi_X10_howMany, yc_X10_howMany⟩ yd_X10_howMany ob_60 (by decide) rfl rfl hl.1 (Nat.le_of_ble_eq_true rfl) ⟨by decide, by decide⟩ ⟨Nat.zero_le _, Nat.zero_le _⟩ dX10_count_122 (fun r_3 M_4 H locs hp_4 hw => ?_)
    obtain ⟨hm, rfl⟩ := hp_4
    have hw := hw.to hm
    exact hQ _ _ _ _ _ _ hw rfl (by rw [s_8_5]; decide) dX10_count_125
  by_cases s_8_6 : z = 6
  · refine lv_tableIn (tgt := 126) (off := 118) hx hb dX10_count_8 (by rw [s_8_6]; decide) (by rw [s_8_6]; decide) (by rw [s_8_6]; decide) (by decide) ?_
    refine lv_aload_n hx hb dX10_count_126 rfl (lv_at hl 1 rfl) ?_
    refine ti_get (ci := 10) (k := 35) (N := 67) (T := TX10) (v := .ref (A 60 36)) C hw iw_10 rfl ob_60 (by decide) (by decide) fl_X10_72 rfl rfl dX10_count_127 ?_
    refine lv_iconst (v := 0) hx hb dX10_count_130 (by decide) ?_
    refine ti_iald (ci := 10) (k := 35) (n := 23) C hw ob_60 (by decide) (fun _ _ => rfl) (by unfold vp_in; decide) dX10_count_131 ?_
    refine ti_top (y := 200) ((congrFun ((tY_uI _ _ _ _ _ _).trans rfl) 0).trans wa0) ?_
    exact hQ _ _ _ _ _ _ hw rfl (by rw [s_8_6]; decide) dX10_count_132
  by_cases s_8_7 : z = 7
  · refine lv_tableIn (tgt := 133) (off := 125) hx hb dX10_count_8 (by rw [s_8_7]; decide) (by rw [s_8_7]; decide) (by rw [s_8_7]; decide) (by decide) ?_
    refine lv_iconst (v := 0) hx hb dX10_count_133 (by decide) ?_
    refine lv_istore_n (lv' := [(3, .int 0), (2, .int 0), (0, .ref (A 60 0)), (1, .int z)]) hx hb dX10_count_134 rfl hl (by decide) rfl (fun ls hl => ?_)
    refine lv_iload_n hx hb dX10_count_135 rfl (lv_at hl 0 rfl) ?_
    refine lv_aload_n hx hb dX10_count_136 rfl (lv_at hl 2 rfl) ?_
    refine ti_get (ci := 10) (k := 3) (N := 67) (T := TX10) (v := .ref (A 60 4)) C hw iw_10 rfl ob_60 (by decide) (by decide) fl_X10_13 rfl rfl dX10_count_137 ?_
    refine lv_iconst (v := 0) hx hb dX10_count_140 (by decide) ?_
    refine ti_iald (ci := 10) (k := 3) (n := 22) C hw ob_60 (by decide) (fun _ _ => rfl) (by unfold vp_in; decide) dX10_count_141 ?_
    refine ti_top (y := 0) ((congrFun ((tY_uI _ _ _ _ _ _).trans rfl) 0).trans n0) ?_
    refine lv_icmp_ge (tgt := 160) hx hb dX10_count_142 (by decide) (fun c_142 => ?_) (fun c => absurd (by decide) c)
    refine lv_iload_n hx hb dX10_count_160 rfl (lv_at hl 1 rfl) ?_
    exact hQ _ _ _ _ _ _ hw rfl (by rw [s_8_7]; decide) dX10_count_161
  by_cases s_8_8 : z = 8
  · refine lv_tableIn (tgt := 162) (off := 154) hx hb dX10_count_8 (by rw [s_8_8]; decide) (by rw [s_8_8]; decide) (by rw [s_8_8]; decide) (by decide) ?_
    refine lv_aload_n hx hb dX10_count_162 rfl (lv_at hl 1 rfl) ?_
    refine ti_get (ci := 10) (k := 58) (N := 67) (T := TX10) C hw iw_10 rfl ob_60 (by decide) (by decide) fl_X10_310 rfl rfl dX10_count_163 ?_
    refine ti_top (y := 0) ((tI_k _ _ _ _ (by decide)).trans m_st) ?_
    exact hQ _ _ _ _ _ _ hw rfl (by rw [s_8_8]; decide) dX10_count_166
  by_cases s_8_9 : z = 9
  · refine lv_tableIn (tgt := 167) (off := 159) hx hb dX10_count_8 (by rw [s_8_9]; decide) (by rw [s_8_9]; decide) (by rw [s_8_9]; decide) (by decide) ?_
    refine lv_aload_n hx hb dX10_count_167 rfl (lv_at hl 1 rfl) ?_
    refine ti_callVi (ci := 10) (av := []) C hw (k_X10_knownMany l D A cy hJ (uI M 60 0 0) ⟨((tI_k _ _ _ _ (by decide)).trans m_taped), ((tI_k _ _ _ _ (by decide)).trans m_lf), ((tI_k _ _ _ _ (by decide)).trans m_lp), ((tI_k _ _ _ _ (by decide)).trans m_hi), ((tI_k _ _ _ _ (by decide)).trans m_un), ((tI_k _ _ _ _ (by decide)).trans m_st), ((tI_k _ _ _ _ (by decide)).trans m_kb), ((congrFun ((tY_uI _ _ _ _ _ _).trans rfl) 0).trans n0), ((congrFun ((tY_uI _ _ _ _ _ _).trans rfl) 3).trans n3), ((congrFun ((tY_uI _ _ _ _ _ _).trans rfl) 5).trans n5), ((congrFun ((tY_uI _ _ _ _ _ _).trans rfl) 7).trans n7), ((congrFun ((tY_uI _ _ _ _ _ _).trans rfl) 0).trans mi0), ((congrFun ((tY_uI _ _ _ _ _ _).trans rfl) 0).trans wa0), ((congrFun ((tY_uI _ _ _ _ _ _).trans rfl) 0).trans co0), ((congrFun ((tY_uI _ _ _ _ _ _).trans rfl) 0).trans ma0), ((congrFun ((tY_uI _ _ _ _ _ _).trans rfl) 0).trans pw0), ((congrFun ((tY_uI _ _ _ _ _ _).trans rfl) 1).trans pw1), ((congrFun ((tY_uI _ _ _ _ _ _).trans rfl) 2).trans pw2), sf, sto⟩) ⟨ml_X10_474, ym_X10_knownMany, yv_X10_knownMany, yi_X10_knownMany, yc_X10_knownMany⟩ yd_X10_knownMany ob_60 (by decide) rfl rfl hl.1 (Nat.le_of_ble_eq_true rfl) ⟨by decide, by decide⟩ ⟨Nat.zero_le _, Nat.zero_le _⟩ dX10_count_168 (fun r_5 M_6 H locs hp_6 hw => ?_)
    obtain ⟨hm, rfl⟩ := hp_6
    have hw := hw.to hm
    exact hQ _ _ _ _ _ _ hw rfl (by rw [s_8_9]; decide) dX10_count_171
  by_cases s_8_10 : z = 10
  · refine lv_tableIn (tgt := 172) (off := 164) hx hb dX10_count_8 (by rw [s_8_10]; decide) (by rw [s_8_10]; decide) (by rw [s_8_10]; decide) (by decide) ?_
    refine lv_aload_n hx hb dX10_count_172 rfl (lv_at hl 1 rfl) ?_
    refine ti_get (ci := 10) (k := 52) (N := 67) (T := TX10) C hw iw_10 rfl ob_60 (by decide) (by decide) fl_X10_317 rfl rfl dX10_count_173 ?_
    refine ti_top (y := 0) ((tI_k _ _ _ _ (by decide)).trans m_un) ?_
    exact hQ _ _ _ _ _ _ hw rfl (by rw [s_8_10]; decide) dX10_count_176
  by_cases s_8_11 : z = 11
  · refine lv_tableIn (tgt := 177) (off := 169) hx hb dX10_count_8 (by rw [s_8_11]; decide) (by rw [s_8_11]; decide) (by rw [s_8_11]; decide) (by decide) ?_
    refine lv_aload_n hx hb dX10_count_177 rfl (lv_at hl 1 rfl) ?_
    refine ti_get (ci := 10) (k := 49) (N := 67) (T := TX10) (v := .ref (A 60 50)) C hw iw_10 rfl ob_60 (by decide) (by decide) fl_X10_114 rfl rfl dX10_count_178 ?_
    refine lv_iconst (v := 0) hx hb dX10_count_181 (by decide) ?_
    refine ti_iald (ci := 10) (k := 49) (n := 69) C hw ob_60 (by decide) (fun _ _ => rfl) (by unfold vp_in; decide) dX10_count_182 ?_
    refine ti_top (y := 0) ((congrFun ((tY_uI _ _ _ _ _ _).trans rfl) 0).trans pw0) ?_
    exact hQ _ _ _ _ _ _ hw rfl (by rw [s_8_11]; decide) dX10_count_183
  by_cases s_8_12 : z = 12
  · refine lv_tableIn (tgt := 184) (off := 176) hx hb dX10_count_8 (by rw [s_8_12]; decide) (by rw [s_8_12]; decide) (by rw [s_8_12]; decide) (by decide) ?_
    refine lv_aload_n hx hb dX10_count_184 rfl (lv_at hl 1 rfl) ?_
    refine ti_get (ci := 10) (k := 49) (N := 67) (T := TX10) (v := .ref (A 60 50)) C hw iw_10 rfl ob_60 (by decide) (by decide) fl_X10_114 rfl rfl dX10_count_185 ?_
    refine lv_iconst (v := 1) hx hb dX10_count_188 (by decide) ?_
    refine ti_iald (ci := 10) (k := 49) (n := 69) C hw ob_60 (by decide) (fun _ _ => rfl) (by unfold vp_in; decide) dX10_count_189 ?_
    refine ti_top (y := 1) ((congrFun ((tY_uI _ _ _ _ _ _).trans rfl) 1).trans pw1) ?_
    exact hQ _ _ _ _ _ _ hw rfl (by rw [s_8_12]; decide) dX10_count_190
  by_cases s_8_13 : z = 13
  · refine lv_tableIn (tgt := 191) (off := 183) hx hb dX10_count_8 (by rw [s_8_13]; decide) (by rw [s_8_13]; decide) (by rw [s_8_13]; decide) (by decide) ?_
    refine lv_aload_n hx hb dX10_count_191 rfl (lv_at hl 1 rfl) ?_
    refine ti_get (ci := 10) (k := 49) (N := 67) (T := TX10) (v := .ref (A 60 50)) C hw iw_10 rfl ob_60 (by decide) (by decide) fl_X10_114 rfl rfl dX10_count_192 ?_
    refine lv_iconst (v := 2) hx hb dX10_count_195 (by decide) ?_
    refine ti_iald (ci := 10) (k := 49) (n := 69) C hw ob_60 (by decide) (fun _ _ => rfl) (by unfold vp_in; decide) dX10_count_196 ?_
    refine ti_top (y := 2) ((congrFun ((tY_uI _ _ _ _ _ _).trans rfl) 2).trans pw2) ?_
    exact hQ _ _ _ _ _ _ hw rfl (by rw [s_8_13]; decide) dX10_count_197
  by_cases s_8_14 : z = 14
  · refine lv_tableIn (tgt := 198) (off := 190) hx hb dX10_count_8 (by rw [s_8_14]; decide) (by rw [s_8_14]; decide) (by rw [s_8_14]; decide) (by decide) ?_
    refine lv_aload_n hx hb dX10_count_198 rfl (lv_at hl 1 rfl) ?_
    refine ti_get (ci := 10) (k := 37) (N := 67) (T := TX10) (v := .ref (A 60 38)) C hw iw_10 rfl ob_60 (by decide) (by decide) fl_X10_78 rfl rfl dX10_count_199 ?_
    refine lv_iconst (v := 0) hx hb dX10_count_202 (by decide) ?_
    refine ti_iald (ci := 10) (k := 37) (n := 23) C hw ob_60 (by decide) (fun _ _ => rfl) (by unfold vp_in; decide) dX10_count_203 ?_
    refine ti_top (y := 0) ((congrFun ((tY_uI _ _ _ _ _ _).trans rfl) 0).trans co0) ?_
    refine ti_callSi (av := [.int 0]) C hw (k_X10_bitsOf l D A cy hJ (uI M 60 0 0) ) ⟨ml_X10_448, ys_X10_bitsOf, yi_X10_bitsOf, yc_X10_bitsOf⟩ yd_X10_bitsOf rfl hl.1 (Nat.le_of_ble_eq_true rfl) ⟨by decide, by decide⟩ ⟨Nat.zero_le _, Nat.zero_le _⟩ dX10_count_204 (fun r_7 M_8 H locs hp_8 hw => ?_)
    obtain ⟨hm, rfl⟩ := hp_8
    have hw := hw.to hm
    exact hQ _ _ _ _ _ _ hw rfl (by rw [s_8_14]; decide) dX10_count_207
  refine lv_tableOut (tgt := 208) hx hb dX10_count_8 (ti_out (lo := 0) (hi := 14) z (by
      intro v h1 h2
      have h3 : v = 0 ∨ v = 1 ∨ v = 2 ∨ v = 3 ∨ v = 4 ∨ v = 5 ∨ v = 6 ∨ v = 7 ∨ v = 8 ∨ v = 9 ∨ v = 10 ∨ v = 11 ∨ v = 12 ∨ v = 13 ∨ v = 14 := by omega
      rcases h3 with rfl | rfl | rfl | rfl | rfl | rfl | rfl | rfl | rfl | rfl | rfl | rfl | rfl | rfl | rfl <;> first | exact ti_nev 0 s_8_0 (by decide) | exact ti_nev 1 s_8_1 (by decide) | exact ti_nev 2 s_8_2 (by decide) | exact ti_nev 3 s_8_3 (by decide) | exact ti_nev 4 s_8_4 (by decide) | exact ti_nev 5 s_8_5 (by decide) | exact ti_nev 6 s_8_6 (by decide) | exact ti_nev 7 s_8_7 (by decide) | exact ti_nev 8 s_8_8 (by decide) | exact ti_nev 9 s_8_9 (by decide) | exact ti_nev 10 s_8_10 (by decide) | exact ti_nev 11 s_8_11 (by decide) | exact ti_nev 12 s_8_12 (by decide) | exact ti_nev 13 s_8_13 (by decide) | exact ti_nev 14 s_8_14 (by decide))) (by decide) ?_
  refine lv_iconst (v := (-1)) hx hb dX10_count_208 (by decide) ?_
  exact hQ _ _ _ _ _ _ hw rfl (by unfold pf_count; rw [if_neg s_8_0, if_neg s_8_1, if_neg s_8_2, if_neg s_8_3, if_neg s_8_4, if_neg s_8_5, if_neg s_8_6, if_neg s_8_7, if_neg s_8_8, if_neg s_8_9, if_neg s_8_10, if_neg s_8_11, if_neg s_8_12, if_neg s_8_13, if_neg s_8_14]) dX10_count_209
set_option maxHeartbeats 4000000 in
set_option maxRecDepth 100000 in
theorem k_X10_law (l : Launch) (D : va_G) (A : Nat → Nat → Nat) (cy : Nat → ClassId) (hJ : ti_inj ti_LM A) (M : ti_M) (hF : ti_FM M) (z z2 : Int32) : ti_Kl l yX10_law cX10_law 3 (some .long) 2 ti_LM D A cy M [.ref (A 60 0), .int z, .int z2] (fun r _ => r = (-9223372036854775808)) := by
  refine ti_eL yp_X10_law hJ ti_LM_nd (Nat.le_of_ble_eq_true rfl) ?_
  intro p e s m args below meth c Q H0 C hQ hw ls hl
  have hx := C.1
  have hb := C.2.1
  have hl : lv_has ls 3 [(0, .ref (A 60 0)), (1, .int z), (2, .int z2)] := hl
  obtain ⟨m_taped, m_lf, m_lp, m_hi, m_un, m_st, m_kb, n0, n3, n5, n7, mi0, wa0, co0, ma0, pw0, pw1, pw2, sf, sto⟩ := id hF
  refine lv_aload_n hx hb dX10_law_0 rfl (lv_at hl 0 rfl) ?_
  refine lv_iconst (v := 0) hx hb dX10_law_1 (by decide) ?_
  refine ti_putI (ci := 10) (k := 0) (N := 67) (T := TX10) C hw iw_10 tyX10 tyX10_ok nmX10 rfl ob_60 (by decide) (by decide) fl_X10_154 rfl rfl rfl rfl (fn_10 A _) fs_10_0 dX10_law_2 (fun H locs hw => ?_)
  refine lv_iload_n hx hb dX10_law_5 rfl (lv_at hl 1 rfl) ?_
  refine lv_if_lt (tgt := 47) hx hb dX10_law_6 (by decide) (fun c_6 => ?_) (fun c_6 => ?_)
  · refine lv_ldc2 (v := (-9223372036854775808)) hx hb C.2.2.2.1 (C.2.2.1 _ cn_X10_428) dX10_law_47 ?_
    exact hQ _ _ _ _ _ _ hw rfl dX10_law_50
  · refine lv_iload_n hx hb dX10_law_9 rfl (lv_at hl 1 rfl) ?_
    refine lv_iconst (v := 2) hx hb dX10_law_10 (by decide) ?_
    refine lv_icmp_gt (tgt := 47) hx hb dX10_law_11 (by decide) (fun c_11 => ?_) (fun c_11 => ?_)
    · refine lv_ldc2 (v := (-9223372036854775808)) hx hb C.2.2.2.1 (C.2.2.1 _ cn_X10_428) dX10_law_47 ?_
      exact hQ _ _ _ _ _ _ hw rfl dX10_law_50
    · refine lv_aload_n hx hb dX10_law_14 rfl (lv_at hl 0 rfl) ?_
      refine lv_iload_n hx hb dX10_law_15 rfl (lv_at hl 1 rfl) ?_
      refine ti_callVi (ci := 10) (av := [.int z]) C hw (k_X10_hasLaw l D A cy hJ (uI M 60 0 0) ⟨((tI_k _ _ _ _ (by decide)).trans m_taped), ((tI_k _ _ _ _ (by decide)).trans m_lf), ((tI_k _ _ _ _ (by decide)).trans m_lp), ((tI_k _ _ _ _ (by decide)).trans m_hi), ((tI_k _ _ _ _ (by decide)).trans m_un), ((tI_k _ _ _ _ (by decide)).trans m_st), ((tI_k _ _ _ _ (by decide)).trans m_kb), ((congrFun ((tY_uI _ _ _ _ _ _).trans rfl) 0).trans n0), ((congrFun ((tY_uI _ _ _ _ _ _).trans rfl) 3).trans n3), ((congrFun ((tY_uI _ _ _ _ _ _).trans rfl) 5).trans n5), ((congrFun ((tY_uI _ _ _ _ _ _).trans rfl) 7).trans n7), ((congrFun ((tY_uI _ _ _ _ _ _).trans rfl) 0).trans mi0), ((congrFun ((tY_uI _ _ _ _ _ _).trans rfl) 0).trans wa0), ((congrFun ((tY_uI _ _ _ _ _ _).trans rfl) 0).trans co0), ((congrFun ((tY_uI _ _ _ _ _ _).trans rfl) 0).trans ma0), ((congrFun ((tY_uI _ _ _ _ _ _).trans rfl) 0).trans pw0), ((congrFun ((tY_uI _ _ _ _ _ _).trans rfl) 1).trans pw1), ((congrFun ((tY_uI _ _ _ _ _ _).trans rfl) 2).trans pw2), sf, sto⟩ z (by rw [vp_in_iff]; (try simp only [Int32.lt_iff_toInt_lt, Int32.le_iff_toInt_le, ← Int32.toInt_inj, ti_l0, ti_l1, ti_l2, ti_l3, ti_l5, ti_l7, ti_l8, ti_l24, ti_l59, ti_l60, ti_l119, ti_l120, ti_lm1, ti_lm2] at c_6); (try simp only [Int32.lt_iff_toInt_lt, Int32.le_iff_toInt_le, ← Int32.toInt_inj, ti_l0, ti_l1, ti_l2, ti_l3, ti_l5, ti_l7, ti_l8, ti_l24, ti_l59, ti_l60, ti_l119, ti_l120, ti_lm1, ti_lm2] at c_11); omega)) ⟨ml_X10_340, ym_X10_hasLaw, yv_X10_hasLaw, yi_X10_hasLaw, yc_X10_hasLaw⟩ yd_X10_hasLaw ob_60 (by decide) rfl rfl hl.1 (Nat.le_of_ble_eq_true rfl) ⟨by decide, by decide⟩ ⟨Nat.zero_le _, Nat.zero_le _⟩ dX10_law_16 (fun r_1 M_2 H locs hp_2 hw => ?_)
      obtain ⟨hm, rfl⟩ := hp_2
      have hw := hw.to hm
      refine lv_if_eq (tgt := 47) hx hb dX10_law_19 (by decide) (fun c_19 => ?_) (fun c => absurd (by decide) c)
      refine lv_ldc2 (v := (-9223372036854775808)) hx hb C.2.2.2.1 (C.2.2.1 _ cn_X10_428) dX10_law_47 ?_
      exact hQ _ _ _ _ _ _ hw rfl dX10_law_50
set_option maxHeartbeats 4000000 in
set_option maxRecDepth 100000 in
theorem k_X10_look (l : Launch) (D : va_G) (A : Nat → Nat → Nat) (cy : Nat → ClassId) (hJ : ti_inj ti_LM A) (M : ti_M) (hF : ti_FM M) (z z2 : Int32) : ti_Ki l yX10_look cX10_look 3 (some .int) 1 ti_LM D A cy M [.ref (A 60 0), .int z, .int z2] (fun _ M2 => tI M2 60 0 = 1) := by
  refine ti_eI yp_X10_look hJ ti_LM_nd (Nat.le_of_ble_eq_true rfl) ?_
  intro p e s m args below meth c Q H0 C hQ hw ls hl
  have hx := C.1
  have hb := C.2.1
  have hl : lv_has ls 3 [(0, .ref (A 60 0)), (1, .int z), (2, .int z2)] := hl
  obtain ⟨m_taped, m_lf, m_lp, m_hi, m_un, m_st, m_kb, n0, n3, n5, n7, mi0, wa0, co0, ma0, pw0, pw1, pw2, sf, sto⟩ := id hF
  refine lv_aload_n hx hb dX10_look_0 rfl (lv_at hl 0 rfl) ?_
  refine lv_aload_n hx hb dX10_look_1 rfl (lv_at hl 0 rfl) ?_
  refine lv_iload_n hx hb dX10_look_2 rfl (lv_at hl 1 rfl) ?_
  refine ti_callVi (ci := 10) (av := [.int z]) C hw (k_X10_isMan l D A cy hJ M ⟨(m_taped), (m_lf), (m_lp), (m_hi), (m_un), (m_st), (m_kb), ((congrFun (rfl) 0).trans n0), ((congrFun (rfl) 3).trans n3), ((congrFun (rfl) 5).trans n5), ((congrFun (rfl) 7).trans n7), ((congrFun (rfl) 0).trans mi0), ((congrFun (rfl) 0).trans wa0), ((congrFun (rfl) 0).trans co0), ((congrFun (rfl) 0).trans ma0), ((congrFun (rfl) 0).trans pw0), ((congrFun (rfl) 1).trans pw1), ((congrFun (rfl) 2).trans pw2), sf, sto⟩ z) ⟨ml_X10_356, ym_X10_isMan, yv_X10_isMan, yi_X10_isMan, yc_X10_isMan⟩ yd_X10_isMan ob_60 (by decide) rfl rfl hl.1 (Nat.le_of_ble_eq_true rfl) ⟨by decide, by decide⟩ ⟨Nat.zero_le _, Nat.zero_le _⟩ dX10_look_3 (fun r_1 M_2 H locs hp_2 hw => ?_)
  obtain ⟨hm, rfl⟩ := hp_2
  have hw := hw.to hm
  refine lv_if_ne (tgt := 13) hx hb dX10_look_6 (by decide) (fun c => absurd (by decide) c) (fun c_6 => ?_)
  refine lv_iconst (v := 1) hx hb dX10_look_9 (by decide) ?_
  refine lv_goto (tgt := 28) hx hb dX10_look_10 (by decide) ?_
  refine ti_putI (ci := 10) (k := 0) (N := 67) (T := TX10) C hw iw_10 tyX10 tyX10_ok nmX10 rfl ob_60 (by decide) (by decide) fl_X10_154 rfl rfl rfl rfl (fn_10 A _) fs_10_0 dX10_look_28 (fun H locs hw => ?_)
  refine lv_aload_n hx hb dX10_look_31 rfl (lv_at hl 0 rfl) ?_
  refine ti_get (ci := 10) (k := 0) (N := 67) (T := TX10) C hw iw_10 rfl ob_60 (by decide) (by decide) fl_X10_154 rfl rfl dX10_look_32 ?_
  refine ti_top (y := 1) (tI_u _ _ _ _) ?_
  refine lv_if_eq (tgt := 40) hx hb dX10_look_35 (by decide) (fun c => absurd c (by decide)) (fun c_35 => ?_)
  refine lv_iconst (v := 0) hx hb dX10_look_38 (by decide) ?_
  exact hQ _ _ _ _ _ _ hw rfl (tI_u _ _ _ _) dX10_look_39
set_option maxHeartbeats 4000000 in
set_option maxRecDepth 100000 in
theorem k_X10_thrown (l : Launch) (D : va_G) (A : Nat → Nat → Nat) (cy : Nat → ClassId) (hJ : ti_inj ti_LM A) (M : ti_M) (h0 : tI M 60 0 = 1) : ti_Ki l yX10_thrown cX10_thrown 1 (some .int) 0 ti_LM D A cy M [.ref (A 60 0)] (fun r M2 => M2 = M ∧ r = 1) := by
  refine ti_eI yp_X10_thrown hJ ti_LM_nd (Nat.le_of_ble_eq_true rfl) ?_
  intro p e s m args below meth c Q H0 C hQ hw ls hl
  have hx := C.1
  have hb := C.2.1
  have hl : lv_has ls 1 [(0, .ref (A 60 0))] := hl
  refine lv_aload_n hx hb dX10_thrown_0 rfl (lv_at hl 0 rfl) ?_
  refine ti_get (ci := 10) (k := 0) (N := 67) (T := TX10) C hw iw_10 rfl ob_60 (by decide) (by decide) fl_X10_154 rfl rfl dX10_thrown_1 ?_
  refine ti_top (y := 1) (h0) ?_
  exact hQ _ _ _ _ _ _ hw rfl (⟨rfl, rfl⟩) dX10_thrown_4
theorem ti_pm {M : ti_M} (hF : ti_FM M) (z : Int32) (h1 : ¬ z < 0) (h2 : ¬ 3 ≤ z) : vp_in z 69 ∧ tY M 60 49 z.toNatClampNeg = z := by
  obtain ⟨m_taped, m_lf, m_lp, m_hi, m_un, m_st, m_kb, n0, n3, n5, n7, mi0, wa0, co0, ma0, pw0, pw1, pw2, sf, sto⟩ := hF
  have hv : vp_in z 3 := by rw [vp_in_iff]; rw [Int32.lt_iff_toInt_lt, ti_l0] at h1; rw [Int32.le_iff_toInt_le, ti_l3] at h2; omega
  obtain ⟨j, hj, rfl⟩ := vp_in_of hv (by decide)
  refine ⟨vp_in_nI (by omega) (by decide), ?_⟩
  rw [nI_clamp (by omega)]
  match j, hj with
  | 0, _ => exact pw0
  | 1, _ => exact pw1
  | 2, _ => exact pw2
  | j + 3, h => omega
set_option maxHeartbeats 4000000 in
set_option maxRecDepth 100000 in
theorem k_X10_holder (l : Launch) (D : va_G) (A : Nat → Nat → Nat) (cy : Nat → ClassId) (hJ : ti_inj ti_LM A) (M : ti_M) (hF : ti_FM M) (z : Int32) : ti_Ki l yX10_holder cX10_holder 2 (some .int) 1 ti_LM D A cy M [.ref (A 60 0), .int z] (fun r _ => r = pf_holder z) := by
  refine ti_eI yp_X10_holder hJ ti_LM_nd (Nat.le_of_ble_eq_true rfl) ?_
  intro p e s m args below meth c Q H0 C hQ hw ls hl
  have hx := C.1
  have hb := C.2.1
  have hl : lv_has ls 2 [(0, .ref (A 60 0)), (1, .int z)] := hl
  obtain ⟨m_taped, m_lf, m_lp, m_hi, m_un, m_st, m_kb, n0, n3, n5, n7, mi0, wa0, co0, ma0, pw0, pw1, pw2, sf, sto⟩ := id hF
  refine lv_aload_n hx hb dX10_holder_0 rfl (lv_at hl 0 rfl) ?_
  refine lv_iconst (v := 0) hx hb dX10_holder_1 (by decide) ?_
  refine ti_putI (ci := 10) (k := 0) (N := 67) (T := TX10) C hw iw_10 tyX10 tyX10_ok nmX10 rfl ob_60 (by decide) (by decide) fl_X10_154 rfl rfl rfl rfl (fn_10 A _) fs_10_0 dX10_holder_2 (fun H locs hw => ?_)
  refine lv_iload_n hx hb dX10_holder_5 rfl (lv_at hl 1 rfl) ?_
  refine ti_callSi (av := [.int z]) C hw (k_X10_isPower l D A cy hJ (uI M 60 0 0) z) ⟨ml_X10_420, ys_X10_isPower, yi_X10_isPower, yc_X10_isPower⟩ yd_X10_isPower rfl hl.1 (Nat.le_of_ble_eq_true rfl) ⟨by decide, by decide⟩ ⟨Nat.zero_le _, Nat.zero_le _⟩ dX10_holder_6 (fun r_1 M_2 H locs hp_2 hw => ?_)
  obtain ⟨hm, hz⟩ := hp_2
  have hw := hw.to hm
  rcases hz with ⟨rfl, g_3, g_4⟩ | ⟨rfl, g_5⟩
  · refine lv_if_eq (tgt := 26) hx hb dX10_holder_9 (by decide) (fun c => absurd c (by decide)) (fun c_9 => ?_)
    refine lv_aload_n hx hb dX10_holder_12 rfl (lv_at hl 0 rfl) ?_
    refine lv_iconst (v := 0) hx hb dX10_holder_13 (by decide) ?_
    refine lv_aload_n hx hb dX10_holder_14 rfl (lv_at hl 0 rfl) ?_
    refine ti_get (ci := 10) (k := 49) (N := 67) (T := TX10) (v := .ref (A 60 50)) C hw iw_10 rfl ob_60 (by decide) (by decide) fl_X10_114 rfl rfl dX10_holder_15 ?_
    refine lv_iload_n hx hb dX10_holder_18 rfl (lv_at hl 1 rfl) ?_
    refine ti_iald (ci := 10) (k := 49) (n := 69) C hw ob_60 (by decide) (fun _ _ => rfl) (ti_pm hF z (by assumption) (by assumption)).1 dX10_holder_19 ?_
    refine ti_top (y := z) (ti_pm hF z (by assumption) (by assumption)).2 ?_
    refine ti_callVi (ci := 10) (av := [.int 0, .int z]) C hw (k_standsAt_0 l D A cy hJ (uI M 60 0 0) z ((congrFun ((tY_uI _ _ _ _ _ _).trans rfl) 0).trans ma0) (by assumption)) ⟨ml_X10_417, ym_X10_standsAt, yv_X10_standsAt, yi_X10_standsAt, yc_X10_standsAt⟩ yd_X10_standsAt ob_60 (by decide) rfl rfl hl.1 (Nat.le_of_ble_eq_true rfl) ⟨by decide, by decide⟩ ⟨Nat.zero_le _, Nat.zero_le _⟩ dX10_holder_20 (fun r_6 M_7 H locs hp_7 hw => ?_)
    obtain ⟨hm, rfl⟩ := hp_7
    have hw := hw.to hm
    refine lv_goto (tgt := 27) hx hb dX10_holder_23 (by decide) ?_
    exact hQ _ _ _ _ _ _ hw rfl (by unfold pf_holder; (try simp only [Int32.lt_iff_toInt_lt, Int32.le_iff_toInt_le, ← Int32.toInt_inj, ti_l0, ti_l1, ti_l2, ti_l3, ti_l5, ti_l7, ti_l8, ti_l24, ti_l59, ti_l60, ti_l119, ti_l120, ti_lm1, ti_lm2] at g_3); (try simp only [Int32.lt_iff_toInt_lt, Int32.le_iff_toInt_le, ← Int32.toInt_inj, ti_l0, ti_l1, ti_l2, ti_l3, ti_l5, ti_l7, ti_l8, ti_l24, ti_l59, ti_l60, ti_l119, ti_l120, ti_lm1, ti_lm2] at g_4); (try simp only [Int32.lt_iff_toInt_lt, Int32.le_iff_toInt_le, ← Int32.toInt_inj, ti_l0, ti_l1, ti_l2, ti_l3, ti_l5, ti_l7, ti_l8, ti_l24, ti_l59, ti_l60, ti_l119, ti_l120, ti_lm1, ti_lm2] at c_9); (try simp only [Int32.lt_iff_toInt_lt, Int32.le_iff_toInt_le, ← Int32.toInt_inj, ti_l0, ti_l1, ti_l2, ti_l3, ti_l5, ti_l7, ti_l8, ti_l24, ti_l59, ti_l60, ti_l119, ti_l120, ti_lm1, ti_lm2]); (repeat' split) <;> first | rfl | omega) dX10_holder_27
  · refine lv_if_eq (tgt := 26) hx hb dX10_holder_9 (by decide) (fun c_9 => ?_) (fun c => absurd (by decide) c)
    refine lv_iconst (v := (-1)) hx hb dX10_holder_26 (by decide) ?_
    exact hQ _ _ _ _ _ _ hw rfl (by unfold pf_holder; (try simp only [Int32.lt_iff_toInt_lt, Int32.le_iff_toInt_le, ← Int32.toInt_inj, ti_l0, ti_l1, ti_l2, ti_l3, ti_l5, ti_l7, ti_l8, ti_l24, ti_l59, ti_l60, ti_l119, ti_l120, ti_lm1, ti_lm2] at g_5); (try simp only [Int32.lt_iff_toInt_lt, Int32.le_iff_toInt_le, ← Int32.toInt_inj, ti_l0, ti_l1, ti_l2, ti_l3, ti_l5, ti_l7, ti_l8, ti_l24, ti_l59, ti_l60, ti_l119, ti_l120, ti_lm1, ti_lm2] at c_9); (try simp only [Int32.lt_iff_toInt_lt, Int32.le_iff_toInt_le, ← Int32.toInt_inj, ti_l0, ti_l1, ti_l2, ti_l3, ti_l5, ti_l7, ti_l8, ti_l24, ti_l59, ti_l60, ti_l119, ti_l120, ti_lm1, ti_lm2]); (repeat' split) <;> first | rfl | omega) dX10_holder_27

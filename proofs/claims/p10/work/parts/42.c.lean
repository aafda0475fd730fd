variable {Tc : gC} {Tm : gM}
theorem cBI_0 (ci o k : Nat) : cBI ci o k 0 := by
  unfold cBI
  split <;> first | trivial | exact ⟨by decide, by decide⟩ | exact fun _ => ⟨by decide, by decide⟩
theorem cBY_0 (ci k : Nat) : cBY ci k 0 := by
  unfold cBY
  split <;> first | trivial | exact ⟨by decide, by decide⟩ | exact Or.inl (by decide)
def cJ (M : ti_M) : Prop := (∀ o k, cBI (ti_cls o) o k (tI M o k)) ∧ ∀ o k i, cBY (ti_cls o) k (tY M o k i)
theorem cJ_M00 : cJ ti_M00 := ⟨fun o k => cBI_0 _ o k, fun o k _ => cBY_0 _ k⟩
theorem cJ_T {M N : ti_M} {o k : Nat} {v : Option Nat} (h : cJ M) (e : N = uT M o k v) : cJ N := by subst e; exact h
theorem cJ_p {M : ti_M} (o k : Nat) {v : Int32} (ci : Nat) (hc : ti_cls o = ci) (hb : cBI ci o k v) (h : cJ M) : cJ (uI M o k v) := by
  refine ⟨fun o2 k2 => ?_, fun o2 k2 i => h.2 o2 k2 i⟩
  by_cases q : k2 = k ∧ o2 = o
  · obtain ⟨rfl, rfl⟩ := q; rw [tI_u, hc]; exact hb
  · rw [tI_n _ _ _ _ q]; exact h.1 o2 k2
theorem cJ_q {M : ti_M} (o k : Nat) {g : Nat → Int32} (ci : Nat) (hc : ti_cls o = ci) (hb : ∀ i, cBY ci k (g i)) (h : cJ M) : cJ (uY M o k g) := by
  refine ⟨fun o2 k2 => h.1 o2 k2, fun o2 k2 i => ?_⟩
  by_cases q : k2 = k ∧ o2 = o
  · obtain ⟨rfl, rfl⟩ := q; rw [tY_u, hc]; exact hb i
  · rw [tY_n _ _ _ _ q]; exact h.2 o2 k2 i
theorem cJ_M0 (a b c d e f : Nat → Int32) : cJ (ti_M0 a b c d e f) := by
  unfold ti_M0 ti_clr4 ti_clr
  repeat' first
    | exact cJ_M00
    | refine cJ_T (M := _) ?_ rfl
    | refine cJ_p _ _ _ rfl (by first | trivial | exact ⟨by decide, by decide⟩) ?_
    | refine cJ_q _ _ _ rfl (fun _ => trivial) ?_
theorem cI_M0 (a b c d e f : Nat → Int32) : cI (cG (ti_M0 a b c d e f)) (ti_M0 a b c d e f) := ⟨(cJ_M0 a b c d e f).1, (cJ_M0 a b c d e f).2, rfl⟩
set_option maxHeartbeats 8000000 in
set_option maxRecDepth 100000 in
theorem k_X9_init (l : Launch) (D : va_G) (cy : Nat → ClassId) (h0 sz : Nat) : ti_Kc l yX9_init cX9_init 1 3 377 5859 D cy h0 sz (.inr (9, [.null, .null, .null, .null, .null, .null, .null, .int 0, .null, .null])) (fun u : (Nat → Nat → Nat) × ti_M => u.1 0 0 = h0 ∧ cF (cG u.2) u.2 ∧ tI u.2 2 1 = 0 ∧ tI u.2 1 4 = 0 ∧ tI u.2 1 5 = -1 ∧ tT u.2 0 1 = some 3 ∧ tT u.2 0 2 = some 4 ∧ tI u.2 3 4 = 0 ∧ tI u.2 50 5 = 0 ∧ tI u.2 50 6 = -1) (fun u => ti_W ti_LT u.1 cy u.2) := by
  refine ti_eC yp_X9_init (by decide) rfl ?_
  intro p e s m args below meth c Q H0 As C hQ hP hD hS hA ls hl
  have hx := C.1
  have hb := C.2.1
  have hts := C.2.2.1
  have hown := C.2.2.2.1
  have hK := C.2.2.2.2.1
  have hml := C.2.2.2.2.2.1
  have hin := C.2.2.2.2.2.2.1
  have hN := C.2.2.2.2.2.2.2
  refine lv_aload_n hx hb dX9_init_0 rfl (lv_at hl 0 rfl) ?_
  refine W.objInit hx hb hown (hts _ oi_X9_3) (hts _ oi_m) (hts _ oi_c) rfl (by rw [hml]; exact hl.1) rfl dX9_init_1 (Nat.le_of_ble_eq_true rfl) (Nat.le_of_ble_eq_true rfl) ?_
  refine W.eq (g2 := F0 m 4 ls []) rfl ?_
  refine lv_aload_n hx hb dX9_init_4 rfl (lv_at hl 0 rfl) ?_
  refine ti_nO (ci := 4) (fs := [.null, .null, .null, .int 0, .int 0, .int 0]) (T := TX4) (N := 6) tyX4 tyX4_ok C iw_4 ck_X9_9 is_X4 in_X4 rfl hP hD hS hA nf_4 1 6 (Nat.le_of_ble_eq_true rfl) (Nat.le_of_ble_eq_true rfl) ⟨Nat.le_of_ble_eq_true rfl, Nat.le_of_ble_eq_true rfl⟩ dX9_init_5 (fun q_1 H hP hD hS => ?_)
  refine lv_dup hx hb dX9_init_8 rfl ?_
  refine ti_callCN C (k_X4_init l D cy q_1 H.size) (nl_X9_11 hN) rfl ym_X4_init yi_X4_init yc_X4_init yd_X4_init hP hD hS hA hl.1 (Nat.le_of_ble_eq_true rfl) ⟨by decide, by decide⟩ 3 713 (Nat.le_of_ble_eq_true rfl) (Nat.le_of_ble_eq_true rfl) ⟨Nat.le_of_ble_eq_true rfl, Nat.le_of_ble_eq_true rfl⟩ dX9_init_9 (fun u_2 H locs hp_2 hPn hDn hSn => ?_)
  obtain rfl := hp_2
  obtain ⟨X_3, hX_3⟩ : ∃ Z : va_W, Z = [] ++ ti_rb cy u_2 := ⟨_, rfl⟩
  have hP : va_P D vwCl ((h0, .inr (9, [.null, .null, .null, .null, .null, .null, .null, .int 0, .null, .null])) :: X_3) H := by rw [hX_3]; exact hPn
  have hD : va_D As ((h0, .inr (9, [.null, .null, .null, .null, .null, .null, .null, .int 0, .null, .null])) :: X_3) := by rw [hX_3]; exact hDn
  have hS := hSn
  refine va_putF (D := D) (ci := 9) (v := .ref u_2.1) (ty := (.object "ThirdInLine$Reader")) (C := RX9) (T := TX9) (N := 10) hx hb hts iw_9 tyX9 tyX9_ok nmX9 hown hK hP hD hS 0 rfl rfl 0 (by decide) (hts _ fl_X9_12) (fun _ h9 => h9) rfl hin rfl (by decide +kernel) rfl rfl (Nat.le_of_ble_eq_true rfl) dX9_init_12 (fun H locs hP hD hS => ?_)
  have hP : va_P D vwCl ((h0, .inr (9, [.ref u_2.1, .null, .null, .null, .null, .null, .null, .int 0, .null, .null])) :: X_3) H := hP
  have hD : va_D As ((h0, .inr (9, [.ref u_2.1, .null, .null, .null, .null, .null, .null, .int 0, .null, .null])) :: X_3) := hD
  refine lv_aload_n hx hb dX9_init_15 rfl (lv_at hl 0 rfl) ?_
  refine ti_nO (ci := 8) (fs := [.null, .null, .null, .int 0, .int 0, .int 0, .int 0, .int 0, .int 0, .int 0, .int 0, .int 0]) (T := TX8) (N := 12) tyX8 tyX8_ok C iw_8 ck_X9_16 is_X8 in_X8 rfl hP hD hS hA nf_8 4 725 (Nat.le_of_ble_eq_true rfl) (Nat.le_of_ble_eq_true rfl) ⟨Nat.le_of_ble_eq_true rfl, Nat.le_of_ble_eq_true rfl⟩ dX9_init_16 (fun q_4 H hP hD hS => ?_)
  refine lv_dup hx hb dX9_init_19 rfl ?_
  refine ti_callCI C (k_X8_init l D cy q_4 H.size) (ml_X9_18) rfl ym_X8_init yi_X8_init yc_X8_init yd_X8_init hP hD hS hA hl.1 (Nat.le_of_ble_eq_true rfl) ⟨by decide, by decide⟩ 27 1233 (Nat.le_of_ble_eq_true rfl) (Nat.le_of_ble_eq_true rfl) ⟨Nat.le_of_ble_eq_true rfl, Nat.le_of_ble_eq_true rfl⟩ dX9_init_20 (fun u_5 H locs hp_5 hPn hDn hSn => ?_)
  obtain ⟨Au_5, au_5, bu_5, cu_5⟩ := u_5
  obtain ⟨rfl, hg0u_5, hg1u_5, hg2u_5⟩ := hp_5
  obtain ⟨X_6, hX_6⟩ : ∃ Z : va_W, Z = X_3 ++ ti_W ti_L3 Au_5 cy (ti_clr ti_M00 au_5 bu_5 cu_5) := ⟨_, rfl⟩
  have hP : va_P D vwCl ((h0, .inr (9, [.ref u_2.1, .null, .null, .null, .null, .null, .null, .int 0, .null, .null])) :: X_6) H := by rw [hX_6]; exact hPn
  have hD : va_D As ((h0, .inr (9, [.ref u_2.1, .null, .null, .null, .null, .null, .null, .int 0, .null, .null])) :: X_6) := by rw [hX_6]; exact hDn
  have hS := hSn
  refine va_put (D := D) (ci := 9) (v := .ref (Au_5 3 0)) (ty := (.object "ThirdInLine$Told")) (C := RX9) (T := TX9) (N := 10) hx hb hts iw_9 tyX9 tyX9_ok nmX9 hown hK hP hD hS 0 rfl rfl 1 (by decide) (hts _ fl_X9_19) (fun _ h9 => h9) rfl (by decide +kernel) rfl rfl (Nat.le_of_ble_eq_true rfl) dX9_init_23 (fun H locs hP hD hS => ?_)
  have hP : va_P D vwCl ((h0, .inr (9, [.ref u_2.1, .ref (Au_5 3 0), .null, .null, .null, .null, .null, .int 0, .null, .null])) :: X_6) H := hP
  have hD : va_D As ((h0, .inr (9, [.ref u_2.1, .ref (Au_5 3 0), .null, .null, .null, .null, .null, .int 0, .null, .null])) :: X_6) := hD
  refine lv_aload_n hx hb dX9_init_26 rfl (lv_at hl 0 rfl) ?_
  refine ti_nO (ci := 8) (fs := [.null, .null, .null, .int 0, .int 0, .int 0, .int 0, .int 0, .int 0, .int 0, .int 0, .int 0]) (T := TX8) (N := 12) tyX8 tyX8_ok C iw_8 ck_X9_16 is_X8 in_X8 rfl hP hD hS hA nf_8 28 1245 (Nat.le_of_ble_eq_true rfl) (Nat.le_of_ble_eq_true rfl) ⟨Nat.le_of_ble_eq_true rfl, Nat.le_of_ble_eq_true rfl⟩ dX9_init_27 (fun q_7 H hP hD hS => ?_)
  refine lv_dup hx hb dX9_init_30 rfl ?_
  refine ti_callCI C (k_X8_init l D cy q_7 H.size) (ml_X9_18) rfl ym_X8_init yi_X8_init yc_X8_init yd_X8_init hP hD hS hA hl.1 (Nat.le_of_ble_eq_true rfl) ⟨by decide, by decide⟩ 51 1753 (Nat.le_of_ble_eq_true rfl) (Nat.le_of_ble_eq_true rfl) ⟨Nat.le_of_ble_eq_true rfl, Nat.le_of_ble_eq_true rfl⟩ dX9_init_31 (fun u_8 H locs hp_8 hPn hDn hSn => ?_)
  obtain ⟨Au_8, au_8, bu_8, cu_8⟩ := u_8
  obtain ⟨rfl, hg0u_8, hg1u_8, hg2u_8⟩ := hp_8
  obtain ⟨X_9, hX_9⟩ : ∃ Z : va_W, Z = X_6 ++ ti_W ti_L3 Au_8 cy (ti_clr ti_M00 au_8 bu_8 cu_8) := ⟨_, rfl⟩
  have hP : va_P D vwCl ((h0, .inr (9, [.ref u_2.1, .ref (Au_5 3 0), .null, .null, .null, .null, .null, .int 0, .null, .null])) :: X_9) H := by rw [hX_9]; exact hPn
  have hD : va_D As ((h0, .inr (9, [.ref u_2.1, .ref (Au_5 3 0), .null, .null, .null, .null, .null, .int 0, .null, .null])) :: X_9) := by rw [hX_9]; exact hDn
  have hS := hSn
  refine va_put (D := D) (ci := 9) (v := .ref (Au_8 3 0)) (ty := (.object "ThirdInLine$Told")) (C := RX9) (T := TX9) (N := 10) hx hb hts iw_9 tyX9 tyX9_ok nmX9 hown hK hP hD hS 0 rfl rfl 2 (by decide) (hts _ fl_X9_23) (fun _ h9 => h9) rfl (by decide +kernel) rfl rfl (Nat.le_of_ble_eq_true rfl) dX9_init_34 (fun H locs hP hD hS => ?_)
  have hP : va_P D vwCl ((h0, .inr (9, [.ref u_2.1, .ref (Au_5 3 0), .ref (Au_8 3 0), .null, .null, .null, .null, .int 0, .null, .null])) :: X_9) H := hP
  have hD : va_D As ((h0, .inr (9, [.ref u_2.1, .ref (Au_5 3 0), .ref (Au_8 3 0), .null, .null, .null, .null, .int 0, .null, .null])) :: X_9) := hD
  refine lv_aload_n hx hb dX9_init_37 rfl (lv_at hl 0 rfl) ?_
  refine ti_nO (ci := 3) (fs := [.null, .int 0, .int 0, .int 0, .int 0, .int 0, .null, .null, .null, .null, .null, .null, .null, .null, .null, .null, .null]) (T := TX3) (N := 17) tyX3 tyX3_ok C iw_3 ck_X9_26 is_X3 in_X3 rfl hP hD hS hA nf_3 52 1770 (Nat.le_of_ble_eq_true rfl) (Nat.le_of_ble_eq_true rfl) ⟨Nat.le_of_ble_eq_true rfl, Nat.le_of_ble_eq_true rfl⟩ dX9_init_38 (fun q_10 H hP hD hS => ?_)
  refine lv_dup hx hb dX9_init_41 rfl ?_
  refine ti_callCN C (k_X3_init l D cy q_10 H.size) (nl_X9_28 hN) rfl ym_X3_init yi_X3_init yc_X3_init yd_X3_init hP hD hS hA hl.1 (Nat.le_of_ble_eq_true rfl) ⟨by decide, by decide⟩ 63 1853 (Nat.le_of_ble_eq_true rfl) (Nat.le_of_ble_eq_true rfl) ⟨Nat.le_of_ble_eq_true rfl, Nat.le_of_ble_eq_true rfl⟩ dX9_init_42 (fun u_11 H locs hp_11 hPn hDn hSn => ?_)
  obtain rfl := hp_11
  obtain ⟨X_12, hX_12⟩ : ∃ Z : va_W, Z = X_9 ++ ti_qb cy u_11 := ⟨_, rfl⟩
  have hP : va_P D vwCl ((h0, .inr (9, [.ref u_2.1, .ref (Au_5 3 0), .ref (Au_8 3 0), .null, .null, .null, .null, .int 0, .null, .null])) :: X_12) H := by rw [hX_12]; exact hPn
  have hD : va_D As ((h0, .inr (9, [.ref u_2.1, .ref (Au_5 3 0), .ref (Au_8 3 0), .null, .null, .null, .null, .int 0, .null, .null])) :: X_12) := by rw [hX_12]; exact hDn
  have hS := hSn
  refine va_putF (D := D) (ci := 9) (v := .ref (u_11 0)) (ty := (.object "ThirdInLine$Queue")) (C := RX9) (T := TX9) (N := 10) hx hb hts iw_9 tyX9 tyX9_ok nmX9 hown hK hP hD hS 0 rfl rfl 3 (by decide) (hts _ fl_X9_29) (fun _ h9 => h9) rfl hin rfl (by decide +kernel) rfl rfl (Nat.le_of_ble_eq_true rfl) dX9_init_45 (fun H locs hP hD hS => ?_)
  have hP : va_P D vwCl ((h0, .inr (9, [.ref u_2.1, .ref (Au_5 3 0), .ref (Au_8 3 0), .ref (u_11 0), .null, .null, .null, .int 0, .null, .null])) :: X_12) H := hP
  have hD : va_D As ((h0, .inr (9, [.ref u_2.1, .ref (Au_5 3 0), .ref (Au_8 3 0), .ref (u_11 0), .null, .null, .null, .int 0, .null, .null])) :: X_12) := hD
  refine lv_aload_n hx hb dX9_init_48 rfl (lv_at hl 0 rfl) ?_
  refine lv_sipush (v := 360) hx hb dX9_init_49 (by decide) ?_
  refine ti_nA (atype := .int) (a0 := (360, .inl (fun _ => 0))) 1 C ac_int rfl (fun C h => by cases h) rfl hP hD hS hA (fun _ => rfl) (by decide) (by decide) (Nat.le_of_ble_eq_true rfl) 64 2213 (Nat.le_of_ble_eq_true rfl) (Nat.le_of_ble_eq_true rfl) ⟨Nat.le_of_ble_eq_true rfl, Nat.le_of_ble_eq_true rfl⟩ dX9_init_52 (fun q_13 H hP hD hS => ?_)
  obtain ⟨X_14, hX_14⟩ : ∃ Z : va_W, Z = X_12 ++ [(q_13, .inl (cy 1, 360, .inl (fun _ => 0)))] := ⟨_, rfl⟩
  have hP : va_P D vwCl ((h0, .inr (9, [.ref u_2.1, .ref (Au_5 3 0), .ref (Au_8 3 0), .ref (u_11 0), .null, .null, .null, .int 0, .null, .null])) :: X_14) H := by rw [hX_14]; exact hP
  have hD : va_D As ((h0, .inr (9, [.ref u_2.1, .ref (Au_5 3 0), .ref (Au_8 3 0), .ref (u_11 0), .null, .null, .null, .int 0, .null, .null])) :: X_14) := by rw [hX_14]; exact hD
  refine va_putF (D := D) (ci := 9) (v := .ref q_13) (ty := (.array .int)) (C := RX9) (T := TX9) (N := 10) hx hb hts iw_9 tyX9 tyX9_ok nmX9 hown hK hP hD hS 0 rfl rfl 4 (by decide) (hts _ fl_X9_33) (fun _ h9 => h9) rfl hin rfl (by decide +kernel) rfl rfl (Nat.le_of_ble_eq_true rfl) dX9_init_54 (fun H locs hP hD hS => ?_)
  have hP : va_P D vwCl ((h0, .inr (9, [.ref u_2.1, .ref (Au_5 3 0), .ref (Au_8 3 0), .ref (u_11 0), .ref q_13, .null, .null, .int 0, .null, .null])) :: X_14) H := hP
  have hD : va_D As ((h0, .inr (9, [.ref u_2.1, .ref (Au_5 3 0), .ref (Au_8 3 0), .ref (u_11 0), .ref q_13, .null, .null, .int 0, .null, .null])) :: X_14) := hD
  refine lv_aload_n hx hb dX9_init_57 rfl (lv_at hl 0 rfl) ?_
  refine ti_nO (ci := 5) (fs := [.null, .int 0, .int 0]) (T := TX5) (N := 3) tyX5 tyX5_ok C iw_5 ck_X9_37 is_X5 in_X5 rfl hP hD hS hA nf_5 65 2216 (Nat.le_of_ble_eq_true rfl) (Nat.le_of_ble_eq_true rfl) ⟨Nat.le_of_ble_eq_true rfl, Nat.le_of_ble_eq_true rfl⟩ dX9_init_58 (fun q_15 H hP hD hS => ?_)
  refine lv_dup hx hb dX9_init_61 rfl ?_
  refine ti_callCI C (k_X5_init l D cy q_15 H.size) (ml_X9_39) rfl ym_X5_init yi_X5_init yc_X5_init yd_X5_init hP hD hS hA hl.1 (Nat.le_of_ble_eq_true rfl) ⟨by decide, by decide⟩ 306 4236 (Nat.le_of_ble_eq_true rfl) (Nat.le_of_ble_eq_true rfl) ⟨Nat.le_of_ble_eq_true rfl, Nat.le_of_ble_eq_true rfl⟩ dX9_init_62 (fun u_16 H locs hp_16 hPn hDn hSn => ?_)
  obtain rfl := hp_16
  obtain ⟨X_17, hX_17⟩ : ∃ Z : va_W, Z = X_14 ++ ti_pb cy u_16 := ⟨_, rfl⟩
  have hP : va_P D vwCl ((h0, .inr (9, [.ref u_2.1, .ref (Au_5 3 0), .ref (Au_8 3 0), .ref (u_11 0), .ref q_13, .null, .null, .int 0, .null, .null])) :: X_17) H := by rw [hX_17]; exact hPn
  have hD : va_D As ((h0, .inr (9, [.ref u_2.1, .ref (Au_5 3 0), .ref (Au_8 3 0), .ref (u_11 0), .ref q_13, .null, .null, .int 0, .null, .null])) :: X_17) := by rw [hX_17]; exact hDn
  have hS := hSn
  refine va_putF (D := D) (ci := 9) (v := .ref u_16.1) (ty := (.object "ThirdInLine$Steps")) (C := RX9) (T := TX9) (N := 10) hx hb hts iw_9 tyX9 tyX9_ok nmX9 hown hK hP hD hS 0 rfl rfl 5 (by decide) (hts _ fl_X9_40) (fun _ h9 => h9) rfl hin rfl (by decide +kernel) rfl rfl (Nat.le_of_ble_eq_true rfl) dX9_init_65 (fun H locs hP hD hS => ?_)
  have hP : va_P D vwCl ((h0, .inr (9, [.ref u_2.1, .ref (Au_5 3 0), .ref (Au_8 3 0), .ref (u_11 0), .ref q_13, .ref u_16.1, .null, .int 0, .null, .null])) :: X_17) H := hP
  have hD : va_D As ((h0, .inr (9, [.ref u_2.1, .ref (Au_5 3 0), .ref (Au_8 3 0), .ref (u_11 0), .ref q_13, .ref u_16.1, .null, .int 0, .null, .null])) :: X_17) := hD
  refine lv_aload_n hx hb dX9_init_68 rfl (lv_at hl 0 rfl) ?_
  refine ti_nO (ci := 3) (fs := [.null, .int 0, .int 0, .int 0, .int 0, .int 0, .null, .null, .null, .null, .null, .null, .null, .null, .null, .null, .null]) (T := TX3) (N := 17) tyX3 tyX3_ok C iw_3 ck_X9_26 is_X3 in_X3 rfl hP hD hS hA nf_3 307 4253 (Nat.le_of_ble_eq_true rfl) (Nat.le_of_ble_eq_true rfl) ⟨Nat.le_of_ble_eq_true rfl, Nat.le_of_ble_eq_true rfl⟩ dX9_init_69 (fun q_18 H hP hD hS => ?_)
  refine lv_dup hx hb dX9_init_72 rfl ?_
  refine ti_callCN C (k_X3_init l D cy q_18 H.size) (nl_X9_28 hN) rfl ym_X3_init yi_X3_init yc_X3_init yd_X3_init hP hD hS hA hl.1 (Nat.le_of_ble_eq_true rfl) ⟨by decide, by decide⟩ 318 4336 (Nat.le_of_ble_eq_true rfl) (Nat.le_of_ble_eq_true rfl) ⟨Nat.le_of_ble_eq_true rfl, Nat.le_of_ble_eq_true rfl⟩ dX9_init_73 (fun u_19 H locs hp_19 hPn hDn hSn => ?_)
  obtain rfl := hp_19
  obtain ⟨X_20, hX_20⟩ : ∃ Z : va_W, Z = X_17 ++ ti_qb cy u_19 := ⟨_, rfl⟩
  have hP : va_P D vwCl ((h0, .inr (9, [.ref u_2.1, .ref (Au_5 3 0), .ref (Au_8 3 0), .ref (u_11 0), .ref q_13, .ref u_16.1, .null, .int 0, .null, .null])) :: X_20) H := by rw [hX_20]; exact hPn
  have hD : va_D As ((h0, .inr (9, [.ref u_2.1, .ref (Au_5 3 0), .ref (Au_8 3 0), .ref (u_11 0), .ref q_13, .ref u_16.1, .null, .int 0, .null, .null])) :: X_20) := by rw [hX_20]; exact hDn
  have hS := hSn
  refine va_putF (D := D) (ci := 9) (v := .ref (u_19 0)) (ty := (.object "ThirdInLine$Queue")) (C := RX9) (T := TX9) (N := 10) hx hb hts iw_9 tyX9 tyX9_ok nmX9 hown hK hP hD hS 0 rfl rfl 6 (by decide) (hts _ fl_X9_44) (fun _ h9 => h9) rfl hin rfl (by decide +kernel) rfl rfl (Nat.le_of_ble_eq_true rfl) dX9_init_76 (fun H locs hP hD hS => ?_)
  have hP : va_P D vwCl ((h0, .inr (9, [.ref u_2.1, .ref (Au_5 3 0), .ref (Au_8 3 0), .ref (u_11 0), .ref q_13, .ref u_16.1, .ref (u_19 0), .int 0, .null, .null])) :: X_20) H := hP
  have hD : va_D As ((h0, .inr (9, [.ref u_2.1, .ref (Au_5 3 0), .ref (Au_8 3 0), .ref (u_11 0), .ref q_13, .ref u_16.1, .ref (u_19 0), .int 0, .null, .null])) :: X_20) := hD
  refine lv_aload_n hx hb dX9_init_79 rfl (lv_at hl 0 rfl) ?_
  refine lv_iconst (v := 0) hx hb dX9_init_80 (by decide) ?_
  refine va_put (D := D) (ci := 9) (v := .int 0) (ty := .boolean) (C := RX9) (T := TX9) (N := 10) hx hb hts iw_9 tyX9 tyX9_ok nmX9 hown hK hP hD hS 0 rfl rfl 7 (by decide) (hts _ fl_X9_47) (fun _ h9 => h9) rfl (by decide +kernel) rfl rfl (Nat.le_of_ble_eq_true rfl) dX9_init_81 (fun H locs hP hD hS => ?_)
  have hP : va_P D vwCl ((h0, .inr (9, [.ref u_2.1, .ref (Au_5 3 0), .ref (Au_8 3 0), .ref (u_11 0), .ref q_13, .ref u_16.1, .ref (u_19 0), .int 0, .null, .null])) :: X_20) H := hP
  have hD : va_D As ((h0, .inr (9, [.ref u_2.1, .ref (Au_5 3 0), .ref (Au_8 3 0), .ref (u_11 0), .ref q_13, .ref u_16.1, .ref (u_19 0), .int 0, .null, .null])) :: X_20) := hD
  refine lv_aload_n hx hb dX9_init_84 rfl (lv_at hl 0 rfl) ?_
  refine ti_nO (ci := 6) (fs := [.null, .null, .null, .null, .int 0, .int 0, .int 0, .int 0, .null, .null, .int 0, .null, .null]) (T := TX6) (N := 13) tyX6 tyX6_ok C iw_6 ck_X9_51 is_X6 in_X6 rfl hP hD hS hA nf_6 319 4349 (Nat.le_of_ble_eq_true rfl) (Nat.le_of_ble_eq_true rfl) ⟨Nat.le_of_ble_eq_true rfl, Nat.le_of_ble_eq_true rfl⟩ dX9_init_85 (fun q_21 H hP hD hS => ?_)
  refine lv_dup hx hb dX9_init_88 rfl ?_
  refine ti_callCN C (k_X6_init l D cy q_21 H.size) (nl_X9_53 hN) rfl ym_X6_init yi_X6_init yc_X6_init yd_X6_init hP hD hS hA hl.1 (Nat.le_of_ble_eq_true rfl) ⟨by decide, by decide⟩ 349 5605 (Nat.le_of_ble_eq_true rfl) (Nat.le_of_ble_eq_true rfl) ⟨Nat.le_of_ble_eq_true rfl, Nat.le_of_ble_eq_true rfl⟩ dX9_init_89 (fun u_22 H locs hp_22 hPn hDn hSn => ?_)
  obtain rfl := hp_22
  obtain ⟨X_23, hX_23⟩ : ∃ Z : va_W, Z = X_20 ++ ti_sb cy u_22 := ⟨_, rfl⟩
  have hP : va_P D vwCl ((h0, .inr (9, [.ref u_2.1, .ref (Au_5 3 0), .ref (Au_8 3 0), .ref (u_11 0), .ref q_13, .ref u_16.1, .ref (u_19 0), .int 0, .null, .null])) :: X_23) H := by rw [hX_23]; exact hPn
  have hD : va_D As ((h0, .inr (9, [.ref u_2.1, .ref (Au_5 3 0), .ref (Au_8 3 0), .ref (u_11 0), .ref q_13, .ref u_16.1, .ref (u_19 0), .int 0, .null, .null])) :: X_23) := by rw [hX_23]; exact hDn
  have hS := hSn
  refine va_putF (D := D) (ci := 9) (v := .ref (u_22.1 0)) (ty := (.object "ThirdInLine$Stones")) (C := RX9) (T := TX9) (N := 10) hx hb hts iw_9 tyX9 tyX9_ok nmX9 hown hK hP hD hS 0 rfl rfl 8 (by decide) (hts _ fl_X9_54) (fun _ h9 => h9) rfl hin rfl (by decide +kernel) rfl rfl (Nat.le_of_ble_eq_true rfl) dX9_init_92 (fun H locs hP hD hS => ?_)
  have hP : va_P D vwCl ((h0, .inr (9, [.ref u_2.1, .ref (Au_5 3 0), .ref (Au_8 3 0), .ref (u_11 0), .ref q_13, .ref u_16.1, .ref (u_19 0), .int 0, .ref (u_22.1 0), .null])) :: X_23) H := hP
  have hD : va_D As ((h0, .inr (9, [.ref u_2.1, .ref (Au_5 3 0), .ref (Au_8 3 0), .ref (u_11 0), .ref q_13, .ref u_16.1, .ref (u_19 0), .int 0, .ref (u_22.1 0), .null])) :: X_23) := hD
  refine lv_aload_n hx hb dX9_init_95 rfl (lv_at hl 0 rfl) ?_
  refine ti_nO (ci := 0) (fs := [.null, .null, .null, .null, .null, .int 0]) (T := TX0) (N := 6) tyX0 tyX0_ok C iw_0 ck_X9_58 is_X0 in_X0 rfl hP hD hS hA nf_0 350 5611 (Nat.le_of_ble_eq_true rfl) (Nat.le_of_ble_eq_true rfl) ⟨Nat.le_of_ble_eq_true rfl, Nat.le_of_ble_eq_true rfl⟩ dX9_init_96 (fun q_24 H hP hD hS => ?_)
  refine lv_dup hx hb dX9_init_99 rfl ?_
  refine ti_callCN C (k_X0_init l D cy q_24 H.size) (nl_X9_60 hN) rfl ym_X0_init yi_X0_init yc_X0_init yd_X0_init hP hD hS hA hl.1 (Nat.le_of_ble_eq_true rfl) ⟨by decide, by decide⟩ 377 5859 (Nat.le_of_ble_eq_true rfl) (Nat.le_of_ble_eq_true rfl) ⟨Nat.le_of_ble_eq_true rfl, Nat.le_of_ble_eq_true rfl⟩ dX9_init_100 (fun u_25 H locs hp_25 hPn hDn hSn => ?_)
  obtain rfl := hp_25
  obtain ⟨X_26, hX_26⟩ : ∃ Z : va_W, Z = X_23 ++ ti_cb cy u_25 := ⟨_, rfl⟩
  have hP : va_P D vwCl ((h0, .inr (9, [.ref u_2.1, .ref (Au_5 3 0), .ref (Au_8 3 0), .ref (u_11 0), .ref q_13, .ref u_16.1, .ref (u_19 0), .int 0, .ref (u_22.1 0), .null])) :: X_26) H := by rw [hX_26]; exact hPn
  have hD : va_D As ((h0, .inr (9, [.ref u_2.1, .ref (Au_5 3 0), .ref (Au_8 3 0), .ref (u_11 0), .ref q_13, .ref u_16.1, .ref (u_19 0), .int 0, .ref (u_22.1 0), .null])) :: X_26) := by rw [hX_26]; exact hDn
  have hS := hSn
  refine va_putF (D := D) (ci := 9) (v := .ref (u_25.1 0)) (ty := (.object "ThirdInLine$Counsel")) (C := RX9) (T := TX9) (N := 10) hx hb hts iw_9 tyX9 tyX9_ok nmX9 hown hK hP hD hS 0 rfl rfl 9 (by decide) (hts _ fl_X9_61) (fun _ h9 => h9) rfl hin rfl (by decide +kernel) rfl rfl (Nat.le_of_ble_eq_true rfl) dX9_init_103 (fun H locs hP hD hS => ?_)
  have hP : va_P D vwCl ((h0, .inr (9, [.ref u_2.1, .ref (Au_5 3 0), .ref (Au_8 3 0), .ref (u_11 0), .ref q_13, .ref u_16.1, .ref (u_19 0), .int 0, .ref (u_22.1 0), .ref (u_25.1 0)])) :: X_26) H := hP
  have hD : va_D As ((h0, .inr (9, [.ref u_2.1, .ref (Au_5 3 0), .ref (Au_8 3 0), .ref (u_11 0), .ref q_13, .ref u_16.1, .ref (u_19 0), .int 0, .ref (u_22.1 0), .ref (u_25.1 0)])) :: X_26) := hD
  refine lv_aload_n hx hb dX9_init_106 rfl (lv_at hl 0 rfl) ?_
  refine va_get (D := D) (ci := 9) (v := .ref (u_11 0)) (C := RX9) (T := TX9) (N := 10) hx hb hts iw_9 hown hK hP 0 rfl rfl 3 (by decide) (hts _ fl_X9_29) (fun _ h9 => h9) rfl dX9_init_107 ?_
  refine lv_aload_n hx hb dX9_init_110 rfl (lv_at hl 0 rfl) ?_
  refine va_get (D := D) (ci := 9) (v := .ref (Au_5 3 0)) (C := RX9) (T := TX9) (N := 10) hx hb hts iw_9 hown hK hP 0 rfl rfl 1 (by decide) (hts _ fl_X9_19) (fun _ h9 => h9) rfl dX9_init_111 ?_
  simp only [hX_26, hX_23, hX_20, hX_17, hX_14, hX_12, hX_9, hX_6, hX_3, List.nil_append, List.append_assoc, List.cons_append] at hP hD
  rw [← ti_W_all cy h0 q_13 u_2 Au_5 Au_8 u_11 u_16 u_19 u_22 u_25 au_5 bu_5 cu_5 au_8 bu_8 cu_8] at hP hD
  generalize hAA : ti_A h0 q_13 u_2 Au_5 Au_8 u_11 u_16 u_19 u_22 u_25 = AA at hP hD
  refine W.eq (g2 := F0 m 114 ls [.ref (AA 3 0), .ref (AA 27 0)]) (by rw [← hAA]; rfl) ?_
  have h00 : AA 0 0 = h0 := by rw [← hAA]; rfl
  refine ti_callCV (av := [.ref (AA 3 0)]) (ci := 3) (o := 27) C ti_LT_nd (fun hJ => s_X3_start l D AA cy hJ _ (cI_M0 _ _ _ _ _ _) 27 3 ob_27 (Or.inl rfl)) ⟨ml_X9_65, ym_X3_start, yv_X3_start, yi_X3_start, yc_X3_start⟩ yd_X3_start ob_27 (by decide) rfl rfl hP hD hS hl.1 (Nat.le_of_ble_eq_true rfl) ⟨by decide, by decide⟩ ⟨Nat.le_of_ble_eq_true rfl, Nat.le_of_ble_eq_true rfl⟩ dX9_init_114 (fun M2 H locs hp hP hD hS => ?_)
  obtain ⟨hI, hT, hX⟩ := hp
  refine W.widen (k := 377) (n := 5859) (Nat.le_of_ble_eq_true rfl) (Nat.le_of_ble_eq_true rfl) ?_
  have hF := cF_mk hI ⟨3, Or.inl rfl, (tT_fr hT).trans ((tT_n _ _ _ _ (by decide)).trans rfl)⟩ ⟨4, Or.inr rfl, (tT_fr hT).trans ((tT_n _ _ _ _ (by decide)).trans rfl)⟩ ⟨3, Or.inl rfl, (tT_fr hT).trans (tT_u _ _ _ _)⟩ (by rw [((hX 2).2.2.1).trans (rfl : _ = (0 : Int32))]; decide) (by rw [((hX 7).1).trans (rfl : _ = (0 : Int32))]; decide)
  exact hQ (AA, M2) _ _ _ _ ⟨h00, cF_self hF, ((hX 1).2.1).trans rfl, ((hX 4).2.2.2 1 (by decide)).trans rfl, ((hX 5).2.2.2 1 (by decide)).trans rfl, (tT_fr hT).trans ((tT_n _ _ _ _ (by decide)).trans rfl), (tT_fr hT).trans ((tT_n _ _ _ _ (by decide)).trans rfl), ((hX 4).2.2.2 3 (by decide)).trans rfl, (congrArg (fun t => t.2.1) hI.2.2).trans rfl, (congrArg (fun t => t.2.2.1) hI.2.2).trans rfl⟩ hP hD hS dX9_init_117

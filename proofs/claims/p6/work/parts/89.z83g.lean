variable {Tc : gC} {Tm : gM}
set_option maxHeartbeats 4000000 in
set_option maxRecDepth 100000 in
theorem f_X9_fault (l : Launch) (D : va_G) (A : Nat → Nat → Nat) (cy : Nat → ClassId) (hJ : ti_inj ti_LT A) (M : ti_M) (hI : cI Tc M) (hF : cF Tc M) (za : Int32) : ti_Ki l yX9_fault cX9_fault 2 (some .int) 0 ti_LT D A cy M [.ref (A 0 0), .int za] (fun r M2 => fS M2 M ∧ rT M2 M ∧ cF Tc M2 ∧ tI M2 2 1 = tI M 2 1 ∧ tl M2 M) := by
  refine ti_eI yp_X9_fault hJ ti_LT_nd (Nat.le_of_ble_eq_true rfl) ?_
  intro p e s m args below meth c Q H0 C hQ hw ls hl
  have hx := C.1
  have hb := C.2.1
  have hl : lv_has ls 2 [(0, .ref (A 0 0)), (1, .int za)] := hl
  obtain ⟨-, ⟨t1, ht1, hT1⟩, ⟨t2, ht2, hT2⟩, ⟨t, ht, hT⟩, hS, hM⟩ := id hF
  refine lv_iload_n hx hb dX9_fault_0 rfl (lv_at hl 1 rfl) ?_
  by_cases s_1_0 : za = 0
  · refine lv_lookup (tgt := 28) hx hb dX9_fault_1 (by decide) (off := 27) (by rw [s_1_0]; decide) (by decide) ?_
    refine lv_aload_n hx hb dX9_fault_28 rfl (lv_at hl 0 rfl) ?_
    refine ti_get (ci := 9) (k := 0) (N := 10) (T := TX9) (v := .ref (A 1 0)) C hw iw_9 rfl ob_0 (by decide) (by decide) fl_X9_12 rfl rfl dX9_fault_29 ?_
    refine ti_get (ci := 4) (k := 4) (N := 6) (T := TX4) C hw iw_4 rfl ob_1 (by decide) (by decide) fl_X9_94 rfl rfl dX9_fault_32 ?_
    refine lv_topi (fun x_2 ex_2 => ?_)
    exact hQ _ _ _ _ _ _ hw rfl (⟨fS.refl, rT.refl, hF, rfl, tl.refl⟩) dX9_fault_35
  · by_cases s_1_1 : za = 1
    · refine lv_lookup (tgt := 36) hx hb dX9_fault_1 (by decide) (off := 35) (by rw [s_1_1]; decide) (by decide) ?_
      refine lv_aload_n hx hb dX9_fault_36 rfl (lv_at hl 0 rfl) ?_
      refine ti_get (ci := 9) (k := 0) (N := 10) (T := TX9) (v := .ref (A 1 0)) C hw iw_9 rfl ob_0 (by decide) (by decide) fl_X9_12 rfl rfl dX9_fault_37 ?_
      refine ti_get (ci := 4) (k := 5) (N := 6) (T := TX4) C hw iw_4 rfl ob_1 (by decide) (by decide) fl_X9_97 rfl rfl dX9_fault_40 ?_
      refine lv_topi (fun x_3 ex_3 => ?_)
      exact hQ _ _ _ _ _ _ hw rfl (⟨fS.refl, rT.refl, hF, rfl, tl.refl⟩) dX9_fault_43
    · refine lv_lookup (tgt := 44) hx hb dX9_fault_1 (by decide) (off := 43) (ti_lk _ za.toInt _ (by intro q hq; simp only [List.mem_cons, List.not_mem_nil, or_false] at hq; rcases hq with rfl | rfl <;> first | exact ti_nev 0 s_1_0 (by decide) | exact ti_nev 1 s_1_1 (by decide))) (by decide) ?_
      refine lv_iconst (v := (-1)) hx hb dX9_fault_44 (by decide) ?_
      exact hQ _ _ _ _ _ _ hw rfl (⟨fS.refl, rT.refl, hF, rfl, tl.refl⟩) dX9_fault_45
set_option maxHeartbeats 4000000 in
set_option maxRecDepth 100000 in
theorem f_X9_named (l : Launch) (D : va_G) (A : Nat → Nat → Nat) (cy : Nat → ClassId) (hJ : ti_inj ti_LT A) (M : ti_M) (hI : cI Tc M) (hF : cF Tc M) (za : Int32) : ti_Ki l yX9_named cX9_named 2 (some .int) 1 ti_LT D A cy M [.ref (A 0 0), .int za] (fun r M2 => fS M2 M ∧ rT M2 M ∧ cF Tc M2 ∧ tI M2 2 1 = tI M 2 1 ∧ tl M2 M) := by
  refine ti_eI yp_X9_named hJ ti_LT_nd (Nat.le_of_ble_eq_true rfl) ?_
  intro p e s m args below meth c Q H0 C hQ hw ls hl
  have hx := C.1
  have hb := C.2.1
  have hl : lv_has ls 2 [(0, .ref (A 0 0)), (1, .int za)] := hl
  obtain ⟨-, ⟨t1, ht1, hT1⟩, ⟨t2, ht2, hT2⟩, ⟨t, ht, hT⟩, hS, hM⟩ := id hF
  refine lv_aload_n hx hb dX9_named_0 rfl (lv_at hl 0 rfl) ?_
  refine ti_get (ci := 9) (k := 1) (N := 10) (T := TX9) (v := .ref (A t1 0)) C hw iw_9 rfl ob_0 (by decide) (by decide) fl_X9_19 rfl (ti_Tv (hT1)) dX9_named_1 ?_
  refine lv_iload_n hx hb dX9_named_4 rfl (lv_at hl 1 rfl) ?_
  refine ti_callVi (ci := 8) (av := [.int za]) C hw (s_X8_find l D A cy hJ M hI t1 ht1 za) ⟨ml_X9_100, ym_X8_find, yv_X8_find, yi_X8_find, yc_X8_find⟩ yd_X8_find (ob_t ht1) (by decide) rfl rfl hl.1 (Nat.le_of_ble_eq_true rfl) ⟨by decide, by decide⟩ ⟨Nat.zero_le _, Nat.zero_le _⟩ dX9_named_5 (fun r_1 M_2 H locs hp_2 hw => ?_)
  obtain ⟨hm, b0r_1, b1r_1⟩ := hp_2
  have hw := hw.to hm
  exact hQ _ _ _ _ _ _ hw rfl (⟨fS.refl, rT.refl, hF, rfl, tl.refl⟩) dX9_named_8
set_option maxHeartbeats 4000000 in
set_option maxRecDepth 100000 in
theorem f_X9_law (l : Launch) (D : va_G) (A : Nat → Nat → Nat) (cy : Nat → ClassId) (hJ : ti_inj ti_LT A) (M : ti_M) (hI : cI Tc M) (hF : cF Tc M) (z1 : Int32) (z2 : Int32) : ti_Kl l yX9_law cX9_law 4 (some .long) 2 ti_LT D A cy M [.ref (A 0 0), .int z1, .int z2] (fun r M2 => fS M2 M ∧ rT M2 M ∧ cF Tc M2 ∧ tI M2 2 1 = tI M 2 1 ∧ tl M2 M) := by
  refine ti_eL yp_X9_law hJ ti_LT_nd (Nat.le_of_ble_eq_true rfl) ?_
  intro p e s m args below meth c Q H0 C hQ hw ls hl
  have hx := C.1
  have hb := C.2.1
  have hl : lv_has ls 4 [(0, .ref (A 0 0)), (1, .int z1), (2, .int z2)] := hl
  obtain ⟨-, ⟨t1, ht1, hT1⟩, ⟨t2, ht2, hT2⟩, ⟨t, ht, hT⟩, hS, hM⟩ := id hF
  refine lv_iload_n hx hb dX9_law_0 rfl (lv_at hl 1 rfl) ?_
  have hj_9_2 : ∀  (H : Heap) (locs : List Loc) (ls : Array Slot), ti_H ti_LT D A cy H0 M H locs → lv_has ls 4 [(0, .ref (A 0 0)), (1, .int z1), (2, .int z2)] → W p l e (ti_rm 2) s m args below meth c H locs 0 0 Q (F0 m 9 ls []) := by
    intro  H locs ls  hw hl
    refine lv_ldc2 (v := (-9223372036854775808)) hx hb C.2.2.2.1 (C.2.2.1 _ cn_X9_173) dX9_law_9 ?_
    exact hQ _ _ _ _ _ _ hw (⟨fS.refl, rT.refl, hF, rfl, tl.refl⟩) dX9_law_12
  refine sb_if_lt (tgt := 9) hx hb rfl dX9_law_1 (by decide) (fun c_1_0 => ?_) (fun c_1_0 => ?_)
  · exact hj_9_2  _ _ _  hw (lv_sub hl [0, 1, 2] rfl)
  · refine lv_iload_n hx hb dX9_law_4 rfl (lv_at hl 1 rfl) ?_
    refine lv_iconst (v := 3) hx hb dX9_law_5 (by decide) ?_
    refine sb_icmp_lt (tgt := 13) hx hb rfl (by decide : (3 : Int32).toInt = 3) dX9_law_6 (by decide) (fun c_6_1 => ?_) (fun c_6_1 => ?_)
    · refine lv_iload_n hx hb dX9_law_13 rfl (lv_at hl 1 rfl) ?_
      refine lv_iconst (v := 2) hx hb dX9_law_14 (by decide) ?_
      refine sb_icmp_ne (tgt := 43) hx hb rfl (by decide : (2 : Int32).toInt = 2) dX9_law_15 (by decide) (fun c_15_2 => ?_) (fun c_15_2 => ?_)
      · refine lv_aload_n hx hb dX9_law_43 rfl (lv_at hl 0 rfl) ?_
        refine ti_get (ci := 9) (k := 3) (N := 10) (T := TX9) (v := .ref (A 27 0)) C hw iw_9 rfl ob_0 (by decide) (by decide) fl_X9_29 rfl rfl dX9_law_44 ?_
        refine lv_iload_n hx hb dX9_law_47 rfl (lv_at hl 2 rfl) ?_
        refine ti_callVi (ci := 3) (av := [.int z2]) C hw (s_X3_placeOf l D A cy hJ M hI 27 ob_27 z2) ⟨ml_X9_136, ym_X3_placeOf, yv_X3_placeOf, yi_X3_placeOf, yc_X3_placeOf⟩ yd_X3_placeOf ob_27 (by decide) rfl rfl hl.1 (Nat.le_of_ble_eq_true rfl) ⟨by decide, by decide⟩ ⟨Nat.zero_le _, Nat.zero_le _⟩ dX9_law_48 (fun r_10 M_11 H locs hp_11 hw => ?_)
        obtain ⟨hm, b0r_10, b1r_10⟩ := hp_11
        have hw := hw.to hm
        refine lv_istore_n (lv' := [(3, .int r_10), (0, .ref (A 0 0)), (1, .int z1), (2, .int z2)]) hx hb dX9_law_51 rfl hl (by decide) rfl (fun ls hl => ?_)
        refine lv_aload_n hx hb dX9_law_52 rfl (lv_at hl 1 rfl) ?_
        refine ti_get (ci := 9) (k := 1) (N := 10) (T := TX9) (v := .ref (A t1 0)) C hw iw_9 rfl ob_0 (by decide) (by decide) fl_X9_19 rfl (ti_Tv (hT1)) dX9_law_53 ?_
        refine ti_get (ci := 8) (k := 2) (N := 12) (T := TX8) (v := .ref (A t1 3)) C hw iw_8 rfl (ob_t ht1) (by decide) (by decide) fl_X9_175 rfl rfl dX9_law_56 ?_
        refine lv_iload_n hx hb dX9_law_59 rfl (lv_at hl 2 rfl) ?_
        refine ti_aald (ci := 8) (k := 2) (n := 3) (t0 := 4) (Cn := RX1) (gg := (ti_laws t1)) (j := z1.toNatClampNeg) C hw (ob_t ht1) (by decide) (fun _ _ => rfl) rfl (vp_in_iff.mpr (by omega)) rfl dX9_law_60 ?_
        have ob_12 : ti_ob ti_LT (ti_laws t1 z1.toNatClampNeg) 1 := ob_l ht1 (i_nt rfl (by omega) (by omega))
        refine lv_aload_n hx hb dX9_law_61 rfl (lv_at hl 1 rfl) ?_
        refine ti_get (ci := 9) (k := 3) (N := 10) (T := TX9) (v := .ref (A 27 0)) C hw iw_9 rfl ob_0 (by decide) (by decide) fl_X9_29 rfl rfl dX9_law_62 ?_
        refine lv_iload_n hx hb dX9_law_65 rfl (lv_at hl 0 rfl) ?_
        refine lv_iload_n hx hb dX9_law_66 rfl (lv_at hl 0 rfl) ?_
        refine ti_callVl (ci := 1) (av := [.ref (A 27 0), .int r_10, .int r_10]) C hw (f_X1_value l D A cy hJ M hI (ti_laws t1 z1.toNatClampNeg) 27 t ob_12 ob_27 ht (hT) r_10 r_10) ⟨ml_X9_182, ym_X1_value, yv_X1_value, yi_X1_value, yc_X1_value⟩ yd_X1_value ob_12 (by decide) rfl rfl hl.1 (Nat.le_of_ble_eq_true rfl) ⟨by decide, by decide⟩ ⟨Nat.zero_le _, Nat.zero_le _⟩ dX9_law_67 (fun r_13 M_14 H locs hp_14 hw => ?_)
        obtain ⟨frM_14a, frM_14b, hqM_14⟩ := hp_14
        have frM_14 := And.intro frM_14a frM_14b
        obtain ⟨iM_14, q_15, q_16⟩ := hqM_14
        exact hQ _ _ _ _ _ _ hw (⟨(fS_of frM_14.1 frM_14.2), (rs_of q_15), (cF_fr hF iM_14 (rs_of q_15) (fx_of q_16)), (tI_fr q_16), (tl_x (fx_of q_16) (tT_fr q_15) (tT_fr q_15))⟩) dX9_law_70
      · refine lv_aload_n hx hb dX9_law_18 rfl (lv_at hl 0 rfl) ?_
        refine ti_get (ci := 9) (k := 1) (N := 10) (T := TX9) (v := .ref (A t1 0)) C hw iw_9 rfl ob_0 (by decide) (by decide) fl_X9_19 rfl (ti_Tv (hT1)) dX9_law_19 ?_
        refine ti_get (ci := 8) (k := 2) (N := 12) (T := TX8) (v := .ref (A t1 3)) C hw iw_8 rfl (ob_t ht1) (by decide) (by decide) fl_X9_175 rfl rfl dX9_law_22 ?_
        refine lv_iload_n hx hb dX9_law_25 rfl (lv_at hl 1 rfl) ?_
        refine ti_aald (ci := 8) (k := 2) (n := 3) (t0 := 4) (Cn := RX1) (gg := (ti_laws t1)) (j := z1.toNatClampNeg) C hw (ob_t ht1) (by decide) (fun _ _ => rfl) rfl (vp_in_iff.mpr (by omega)) rfl dX9_law_26 ?_
        have ob_4 : ti_ob ti_LT (ti_laws t1 z1.toNatClampNeg) 1 := ob_l ht1 (i_nt rfl (by omega) (by omega))
        refine lv_aload_n hx hb dX9_law_27 rfl (lv_at hl 0 rfl) ?_
        refine ti_get (ci := 9) (k := 3) (N := 10) (T := TX9) (v := .ref (A 27 0)) C hw iw_9 rfl ob_0 (by decide) (by decide) fl_X9_29 rfl rfl dX9_law_28 ?_
        refine lv_iconst (v := 0) hx hb dX9_law_31 (by decide) ?_
        refine lv_aload_n hx hb dX9_law_32 rfl (lv_at hl 0 rfl) ?_
        refine ti_get (ci := 9) (k := 3) (N := 10) (T := TX9) (v := .ref (A 27 0)) C hw iw_9 rfl ob_0 (by decide) (by decide) fl_X9_29 rfl rfl dX9_law_33 ?_
        refine ti_get (ci := 3) (k := 3) (N := 17) (T := TX3) C hw iw_3 rfl ob_27 (by decide) (by decide) fl_X9_179 rfl rfl dX9_law_36 ?_
        refine lv_topi (fun x_5 ex_5 => ?_)
        have bx_5 : 0 ≤ x_5.toInt ∧ x_5.toInt ≤ 8 := cI_rd hI ob_27.1 ex_5
        have ux_5 : (tI M 27 3).toInt = x_5.toInt := by rw [ex_5]
        refine ti_callVl (ci := 1) (av := [.ref (A 27 0), .int 0, .int x_5]) C hw (f_X1_value l D A cy hJ M hI (ti_laws t1 z1.toNatClampNeg) 27 t ob_4 ob_27 ht (hT) 0 x_5) ⟨ml_X9_182, ym_X1_value, yv_X1_value, yi_X1_value, yc_X1_value⟩ yd_X1_value ob_4 (by decide) rfl rfl hl.1 (Nat.le_of_ble_eq_true rfl) ⟨by decide, by decide⟩ ⟨Nat.zero_le _, Nat.zero_le _⟩ dX9_law_39 (fun r_6 M_7 H locs hp_7 hw => ?_)
        obtain ⟨frM_7a, frM_7b, hqM_7⟩ := hp_7
        have frM_7 := And.intro frM_7a frM_7b
        obtain ⟨iM_7, q_8, q_9⟩ := hqM_7
        exact hQ _ _ _ _ _ _ hw (⟨(fS_of frM_7.1 frM_7.2), (rs_of q_8), (cF_fr hF iM_7 (rs_of q_8) (fx_of q_9)), (tI_fr q_9), (tl_x (fx_of q_9) (tT_fr q_8) (tT_fr q_8))⟩) dX9_law_42
    · exact hj_9_2  _ _ _  hw (lv_sub hl [0, 1, 2] rfl)
set_option maxHeartbeats 4000000 in
set_option maxRecDepth 100000 in
theorem f_X9_ruled (l : Launch) (D : va_G) (A : Nat → Nat → Nat) (cy : Nat → ClassId) (hJ : ti_inj ti_LT A) (M : ti_M) (hI : cI Tc M) (hF : cF Tc M) (z1 : Int32) (z2 : Int32) : ti_Ki l yX9_ruled cX9_ruled 5 (some .int) 1 ti_LT D A cy M [.ref (A 0 0), .int z1, .int z2] (fun r M2 => fS M2 M ∧ rT M2 M ∧ cF Tc M2 ∧ tI M2 2 1 = tI M 2 1 ∧ tl M2 M) := by
  refine ti_eI yp_X9_ruled hJ ti_LT_nd (Nat.le_of_ble_eq_true rfl) ?_
  intro p e s m args below meth c Q H0 C hQ hw ls hl
  have hx := C.1
  have hb := C.2.1
  have hl : lv_has ls 5 [(0, .ref (A 0 0)), (1, .int z1), (2, .int z2)] := hl
  obtain ⟨-, ⟨t1, ht1, hT1⟩, ⟨t2, ht2, hT2⟩, ⟨t, ht, hT⟩, hS, hM⟩ := id hF
  refine lv_aload_n hx hb dX9_ruled_0 rfl (lv_at hl 0 rfl) ?_
  refine lv_iload_n hx hb dX9_ruled_1 rfl (lv_at hl 1 rfl) ?_
  refine ti_callVi (ci := 9) (av := [.int z1]) C hw (s_X9_isMan l D A cy hJ M hI t1 ht1 (hT1) z1) ⟨ml_X9_104, ym_X9_isMan, yv_X9_isMan, yi_X9_isMan, yc_X9_isMan⟩ yd_X9_isMan ob_0 (by decide) rfl rfl hl.1 (Nat.le_of_ble_eq_true rfl) ⟨by decide, by decide⟩ ⟨Nat.zero_le _, Nat.zero_le _⟩ dX9_ruled_2 (fun r_1 M_2 H locs hp_2 hw => ?_)
  obtain ⟨hm, hz⟩ := hp_2
  have hw := hw.to hm
  have hj_16_10 : ∀  (H : Heap) (locs : List Loc) (ls : Array Slot), ti_H ti_LT D A cy H0 M H locs → lv_has ls 5 [(0, .ref (A 0 0)), (1, .int z1), (2, .int z2)] → W p l e (ti_rm 1) s m args below meth c H locs 0 0 Q (F0 m 16 ls []) := by
    intro  H locs ls  hw hl
    refine lv_iconst (v := (-1)) hx hb dX9_ruled_16 (by decide) ?_
    exact hQ _ _ _ _ _ _ hw rfl (⟨fS.refl, rT.refl, hF, rfl, tl.refl⟩) dX9_ruled_17
  rcases hz with ⟨rfl, d1_3, d2_3⟩ | rfl
  · refine sb_if_eq (tgt := 16) hx hb (by decide : (1 : Int32).toInt = 1) dX9_ruled_5 (by decide) (fun h => absurd h (by decide)) (fun c_5_3 => ?_)
    refine lv_aload_n hx hb dX9_ruled_8 rfl (lv_at hl 0 rfl) ?_
    refine lv_iload_n hx hb dX9_ruled_9 rfl (lv_at hl 2 rfl) ?_
    refine ti_callVi (ci := 9) (av := [.int z2]) C hw (s_X9_isPower l D A cy hJ M hI z2) ⟨ml_X9_165, ym_X9_isPower, yv_X9_isPower, yi_X9_isPower, yc_X9_isPower⟩ yd_X9_isPower ob_0 (by decide) rfl rfl hl.1 (Nat.le_of_ble_eq_true rfl) ⟨by decide, by decide⟩ ⟨Nat.zero_le _, Nat.zero_le _⟩ dX9_ruled_10 (fun r_6 M_7 H locs hp_7 hw => ?_)
    obtain ⟨hm, hz⟩ := hp_7
    have hw := hw.to hm
    rcases hz with ⟨rfl, d1_8, d2_8⟩ | rfl
    · refine sb_if_ne (tgt := 18) hx hb (by decide : (1 : Int32).toInt = 1) dX9_ruled_13 (by decide) (fun c_13_8 => ?_) (fun h => absurd h (by decide))
      refine lv_iconst (v := 0) hx hb dX9_ruled_18 (by decide) ?_
      refine lv_istore_n (lv' := [(3, .int 0), (0, .ref (A 0 0)), (1, .int z1), (2, .int z2)]) hx hb dX9_ruled_19 rfl hl (by decide) rfl (fun ls hl => ?_)
      refine lv_iconst (v := 0) hx hb dX9_ruled_20 (by decide) ?_
      refine lv_istore (lv' := [(4, .int 0), (3, .int 0), (0, .ref (A 0 0)), (1, .int z1), (2, .int z2)]) hx hb dX9_ruled_21 hl (by decide) rfl (fun ls hl => ?_)
      have hl_23_14 : ∀ (n_15 : Nat) (x_11 : Int32) (x_14 : Int32) (H : Heap) (locs : List Loc) (ls : Array Slot), (120 - x_11.toInt : Int).toNat < n_15 → (0 ≤ x_11.toInt) → (x_11.toInt ≤ 120) → ti_H ti_LT D A cy H0 M H locs → lv_has ls 5 [(4, .int x_11), (3, .int x_14), (0, .ref (A 0 0)), (1, .int z1), (2, .int z2)] → W p l e (ti_rm 1) s m args below meth c H locs 0 0 Q (F0 m 23 ls []) := by
        intro n_15
        induction n_15 with
        | zero => intro x_11 x_14 H locs ls hf_15; exact absurd hf_15 (Nat.not_lt_zero _)
        | succ n_15 ih_15 =>
          intro x_11 x_14 H locs ls hf_15 b_12 b_13 hw hl
          refine lv_iload hx hb dX9_ruled_23 (lv_at hl 0 rfl) ?_
          refine lv_aload_n hx hb dX9_ruled_25 rfl (lv_at hl 2 rfl) ?_
          refine ti_get (ci := 9) (k := 3) (N := 10) (T := TX9) (v := .ref (A 27 0)) C hw iw_9 rfl ob_0 (by decide) (by decide) fl_X9_29 rfl rfl dX9_ruled_26 ?_
          refine ti_get (ci := 3) (k := 2) (N := 17) (T := TX3) C hw iw_3 rfl ob_27 (by decide) (by decide) fl_X9_186 rfl rfl dX9_ruled_29 ?_
          refine lv_topi (fun x_16 ex_16 => ?_)
          have bx_16 : 0 ≤ x_16.toInt ∧ x_16.toInt ≤ 120 := cI_rd hI ob_27.1 ex_16 (Or.inl rfl)
          have ux_16 : (tI M 27 2).toInt = x_16.toInt := by rw [ex_16]
          refine sb_icmp_ge (tgt := 60) hx hb rfl rfl dX9_ruled_32 (by decide) (fun c_32_16 => ?_) (fun c_32_16 => ?_)
          · refine lv_iload_n hx hb dX9_ruled_60 rfl (lv_at hl 1 rfl) ?_
            exact hQ _ _ _ _ _ _ hw rfl (⟨fS.refl, rT.refl, hF, rfl, tl.refl⟩) dX9_ruled_61
          · refine lv_aload_n hx hb dX9_ruled_35 rfl (lv_at hl 2 rfl) ?_
            refine ti_get (ci := 9) (k := 4) (N := 10) (T := TX9) (v := .ref (A 0 5)) C hw iw_9 rfl ob_0 (by decide) (by decide) fl_X9_33 rfl rfl dX9_ruled_36 ?_
            refine lv_iload_n hx hb dX9_ruled_39 rfl (lv_at hl 4 rfl) ?_
            refine lv_bipush (v := 120) hx hb dX9_ruled_40 (by decide) ?_
            refine lv_imul hx hb dX9_ruled_42 ?_
            refine lv_topi (fun x_18 ex_18 => ?_)
            have lox_18z2 := z2.le_toInt
            have hix_18z2 := z2.toInt_lt
            have tx_18 : x_18.toInt = z2.toInt * 120 := i_mul ex_18 rfl (by decide : (120 : Int32).toInt = 120) (by omega) (by omega)
            refine lv_iload hx hb dX9_ruled_43 (lv_at hl 0 rfl) ?_
            refine lv_iadd hx hb dX9_ruled_45 ?_
            refine lv_topi (fun x_19 ex_19 => ?_)
            have lox_19x_18 := x_18.le_toInt
            have hix_19x_18 := x_18.toInt_lt
            have lox_19x_11 := x_11.le_toInt
            have hix_19x_11 := x_11.toInt_lt
            have tx_19 : x_19.toInt = x_18.toInt + x_11.toInt := i_add ex_19 rfl rfl (by omega) (by omega)
            refine ti_iald (ci := 9) (k := 4) (n := 360) C hw ob_0 (by decide) (fun _ _ => rfl) (vp_in_iff.mpr (by omega)) dX9_ruled_46 ?_
            refine lv_topi (fun x_20 ex_20 => ?_)
            refine lv_iload_n hx hb dX9_ruled_47 rfl (lv_at hl 3 rfl) ?_
            have hj_54_23 : ∀ (x_23 : Int32) (H : Heap) (locs : List Loc) (ls : Array Slot), ti_H ti_LT D A cy H0 M H locs → lv_has ls 5 [(4, .int x_11), (3, .int x_23), (0, .ref (A 0 0)), (1, .int z1), (2, .int z2)] → W p l e (ti_rm 1) s m args below meth c H locs 0 0 Q (F0 m 54 ls []) := by
              intro x_23 H locs ls  hw hl
              obtain ⟨x_24, ex_24⟩ : ∃ z : Int32, z = x_11 + 1 := ⟨_, rfl⟩
              have tx_24 : x_24.toInt = x_11.toInt + 1 := i_add ex_24 rfl (by decide) (by omega) (by omega)
              refine lv_iinc (v := x_24) (lv' := [(4, .int x_24), (3, .int x_23), (0, .ref (A 0 0)), (1, .int z1), (2, .int z2)]) hx hb dX9_ruled_54 hl (k := 0) rfl (by rw [ex_24]; rfl) (by decide) rfl (fun ls hl => ?_)
              refine lv_goto (tgt := 23) hx hb dX9_ruled_57 (by decide) ?_
              exact ih_15 x_24 x_23 _ _ _ (by omega) (by first | omega | decide) (by first | omega | decide) hw (lv_sub hl [0, 1, 2, 3, 4] rfl)
            refine sb_icmp_ne (tgt := 54) hx hb rfl rfl dX9_ruled_48 (by decide) (fun c_48_20 => ?_) (fun c_48_20 => ?_)
            · exact hj_54_23 x_14 _ _ _  hw (lv_sub hl [0, 1, 2, 3, 4] rfl)
            · obtain ⟨x_22, ex_22⟩ : ∃ z : Int32, z = x_14 + 1 := ⟨_, rfl⟩
              refine lv_iinc (v := x_22) (lv' := [(3, .int x_22), (4, .int x_11), (0, .ref (A 0 0)), (1, .int z1), (2, .int z2)]) hx hb dX9_ruled_51 hl (k := 1) rfl (by rw [ex_22]; rfl) (by decide) rfl (fun ls hl => ?_)
              exact hj_54_23 x_22 _ _ _  hw (lv_sub hl [1, 0, 2, 3, 4] rfl)
      exact hl_23_14 ((120 - 0 : Int).toNat + 1) 0 0 _ _ _ (Nat.lt_succ_self _) (by have lt0 : (0 : Int32).toInt = 0 := (by decide); first | omega | decide) (by have lt0 : (0 : Int32).toInt = 0 := (by decide); first | omega | decide) hw (lv_sub hl [0, 1, 2, 3, 4] rfl)
    · refine sb_if_ne (tgt := 18) hx hb (by decide : (0 : Int32).toInt = 0) dX9_ruled_13 (by decide) (fun h => absurd h (by decide)) (fun c_13_9 => ?_)
      exact hj_16_10  _ _ _  hw (lv_sub hl [0, 1, 2] rfl)
  · refine sb_if_eq (tgt := 16) hx hb (by decide : (0 : Int32).toInt = 0) dX9_ruled_5 (by decide) (fun c_5_4 => ?_) (fun h => absurd h (by decide))
    exact hj_16_10  _ _ _  hw (lv_sub hl [0, 1, 2] rfl)
set_option maxHeartbeats 4000000 in
set_option maxRecDepth 100000 in
theorem f_X9_served (l : Launch) (D : va_G) (A : Nat → Nat → Nat) (cy : Nat → ClassId) (hJ : ti_inj ti_LT A) (M : ti_M) (hI : cI Tc M) (hF : cF Tc M) (za : Int32) : ti_Ki l yX9_served cX9_served 2 (some .int) 6 ti_LT D A cy M [.ref (A 0 0), .int za] (fun r M2 => fS M2 M ∧ rT M2 M ∧ cF Tc M2 ∧ tI M2 2 1 = tI M 2 1 ∧ tl M2 M) := by
  refine ti_eI yp_X9_served hJ ti_LT_nd (Nat.le_of_ble_eq_true rfl) ?_
  intro p e s m args below meth c Q H0 C hQ hw ls hl
  have hx := C.1
  have hb := C.2.1
  have hl : lv_has ls 2 [(0, .ref (A 0 0)), (1, .int za)] := hl
  obtain ⟨-, ⟨t1, ht1, hT1⟩, ⟨t2, ht2, hT2⟩, ⟨t, ht, hT⟩, hS, hM⟩ := id hF
  refine lv_aload_n hx hb dX9_served_0 rfl (lv_at hl 0 rfl) ?_
  refine lv_iload_n hx hb dX9_served_1 rfl (lv_at hl 1 rfl) ?_
  refine ti_callVi (ci := 9) (av := [.int za]) C hw (s_X9_isMan l D A cy hJ M hI t1 ht1 (hT1) za) ⟨ml_X9_104, ym_X9_isMan, yv_X9_isMan, yi_X9_isMan, yc_X9_isMan⟩ yd_X9_isMan ob_0 (by decide) rfl rfl hl.1 (Nat.le_of_ble_eq_true rfl) ⟨by decide, by decide⟩ ⟨Nat.zero_le _, Nat.zero_le _⟩ dX9_served_2 (fun r_1 M_2 H locs hp_2 hw => ?_)
  obtain ⟨hm, hz⟩ := hp_2
  have hw := hw.to hm
  rcases hz with ⟨rfl, d1_3, d2_3⟩ | rfl
  · refine sb_if_eq (tgt := 23) hx hb (by decide : (1 : Int32).toInt = 1) dX9_served_5 (by decide) (fun h => absurd h (by decide)) (fun c_5_3 => ?_)
    refine lv_aload_n hx hb dX9_served_8 rfl (lv_at hl 0 rfl) ?_
    refine ti_get (ci := 9) (k := 9) (N := 10) (T := TX9) (v := .ref (A 53 0)) C hw iw_9 rfl ob_0 (by decide) (by decide) fl_X9_61 rfl rfl dX9_served_9 ?_
    refine lv_aload_n hx hb dX9_served_12 rfl (lv_at hl 0 rfl) ?_
    refine ti_get (ci := 9) (k := 3) (N := 10) (T := TX9) (v := .ref (A 27 0)) C hw iw_9 rfl ob_0 (by decide) (by decide) fl_X9_29 rfl rfl dX9_served_13 ?_
    refine lv_iload_n hx hb dX9_served_16 rfl (lv_at hl 1 rfl) ?_
    refine ti_callVi (ci := 0) (av := [.ref (A 27 0), .int za]) C hw (f_X0_servedIn l D A cy hJ M hI t ht (hT) za (by first | omega | decide) (by first | omega | decide)) ⟨ml_X9_215, ym_X0_servedIn, yv_X0_servedIn, yi_X0_servedIn, yc_X0_servedIn⟩ yd_X0_servedIn ob_53 (by decide) rfl rfl hl.1 (Nat.le_of_ble_eq_true rfl) ⟨by decide, by decide⟩ ⟨Nat.zero_le _, Nat.zero_le _⟩ dX9_served_17 (fun r_6 M_7 H locs hp_7 hw => ?_)
    obtain ⟨frM_7, hqM_7⟩ := hp_7
    obtain ⟨iM_7, q_8, q_9⟩ := hqM_7
    refine lv_goto (tgt := 24) hx hb dX9_served_20 (by decide) ?_
    exact hQ _ _ _ _ _ _ hw rfl (⟨frM_7, q_8, (cF_fr hF iM_7 q_8 q_9), ((q_9 1).2.1), (tl_x q_9 (q_8 0 1 (by decide)) (q_8 0 2 (by decide)))⟩) dX9_served_24
  · refine sb_if_eq (tgt := 23) hx hb (by decide : (0 : Int32).toInt = 0) dX9_served_5 (by decide) (fun c_5_4 => ?_) (fun h => absurd h (by decide))
    refine lv_iconst (v := (-1)) hx hb dX9_served_23 (by decide) ?_
    exact hQ _ _ _ _ _ _ hw rfl (⟨fS.refl, rT.refl, hF, rfl, tl.refl⟩) dX9_served_24
set_option maxHeartbeats 4000000 in
set_option maxRecDepth 100000 in
theorem f_X9_coming (l : Launch) (D : va_G) (A : Nat → Nat → Nat) (cy : Nat → ClassId) (hJ : ti_inj ti_LT A) (M : ti_M) (hI : cI Tc M) (hF : cF Tc M) (z1 : Int32) (z2 : Int32) (z3 : Int32) : ti_Ki l yX9_coming cX9_coming 4 (some .int) 7 ti_LT D A cy M [.ref (A 0 0), .int z1, .int z2, .int z3] (fun r M2 => fS M2 M ∧ rT M2 M ∧ cF Tc M2 ∧ tI M2 2 1 = tI M 2 1 ∧ tl M2 M) := by
  refine ti_eI yp_X9_coming hJ ti_LT_nd (Nat.le_of_ble_eq_true rfl) ?_
  intro p e s m args below meth c Q H0 C hQ hw ls hl
  have hx := C.1
  have hb := C.2.1
  have hl : lv_has ls 4 [(0, .ref (A 0 0)), (1, .int z1), (2, .int z2), (3, .int z3)] := hl
  obtain ⟨-, ⟨t1, ht1, hT1⟩, ⟨t2, ht2, hT2⟩, ⟨t, ht, hT⟩, hS, hM⟩ := id hF
  refine lv_aload_n hx hb dX9_coming_0 rfl (lv_at hl 0 rfl) ?_
  refine lv_iload_n hx hb dX9_coming_1 rfl (lv_at hl 1 rfl) ?_
  refine ti_callVi (ci := 9) (av := [.int z1]) C hw (s_X9_isToCome l D A cy hJ M hI t1 ht1 (hT1) z1) ⟨ml_X9_195, ym_X9_isToCome, yv_X9_isToCome, yi_X9_isToCome, yc_X9_isToCome⟩ yd_X9_isToCome ob_0 (by decide) rfl rfl hl.1 (Nat.le_of_ble_eq_true rfl) ⟨by decide, by decide⟩ ⟨Nat.zero_le _, Nat.zero_le _⟩ dX9_coming_2 (fun r_1 M_2 H locs hp_2 hw => ?_)
  obtain ⟨hm, hz⟩ := hp_2
  have hw := hw.to hm
  have hj_33_13 : ∀  (H : Heap) (locs : List Loc) (ls : Array Slot), ti_H ti_LT D A cy H0 M H locs → lv_has ls 4 [(0, .ref (A 0 0)), (1, .int z1), (2, .int z2), (3, .int z3)] → W p l e (ti_rm 7) s m args below meth c H locs 0 0 Q (F0 m 33 ls []) := by
    intro  H locs ls  hw hl
    refine lv_iconst (v := (-1)) hx hb dX9_coming_33 (by decide) ?_
    exact hQ _ _ _ _ _ _ hw rfl (⟨fS.refl, rT.refl, hF, rfl, tl.refl⟩) dX9_coming_34
  rcases hz with ⟨rfl, d1_3, d2_3⟩ | rfl
  · refine sb_if_eq (tgt := 33) hx hb (by decide : (1 : Int32).toInt = 1) dX9_coming_5 (by decide) (fun h => absurd h (by decide)) (fun c_5_3 => ?_)
    refine lv_aload_n hx hb dX9_coming_8 rfl (lv_at hl 0 rfl) ?_
    refine lv_iload_n hx hb dX9_coming_9 rfl (lv_at hl 2 rfl) ?_
    refine ti_callVi (ci := 9) (av := [.int z2]) C hw (s_X9_isPlace l D A cy hJ M hI z2) ⟨ml_X9_159, ym_X9_isPlace, yv_X9_isPlace, yi_X9_isPlace, yc_X9_isPlace⟩ yd_X9_isPlace ob_0 (by decide) rfl rfl hl.1 (Nat.le_of_ble_eq_true rfl) ⟨by decide, by decide⟩ ⟨Nat.zero_le _, Nat.zero_le _⟩ dX9_coming_10 (fun r_6 M_7 H locs hp_7 hw => ?_)
    obtain ⟨hm, hz⟩ := hp_7
    have hw := hw.to hm
    rcases hz with ⟨rfl, d1_8, d2_8⟩ | rfl
    · refine sb_if_eq (tgt := 33) hx hb (by decide : (1 : Int32).toInt = 1) dX9_coming_13 (by decide) (fun h => absurd h (by decide)) (fun c_13_8 => ?_)
      refine lv_iload_n hx hb dX9_coming_16 rfl (lv_at hl 3 rfl) ?_
      refine lv_aload_n hx hb dX9_coming_17 rfl (lv_at hl 0 rfl) ?_
      refine ti_get (ci := 9) (k := 3) (N := 10) (T := TX9) (v := .ref (A 27 0)) C hw iw_9 rfl ob_0 (by decide) (by decide) fl_X9_29 rfl rfl dX9_coming_18 ?_
      refine ti_get (ci := 3) (k := 2) (N := 17) (T := TX3) C hw iw_3 rfl ob_27 (by decide) (by decide) fl_X9_186 rfl rfl dX9_coming_21 ?_
      refine lv_topi (fun x_11 ex_11 => ?_)
      have bx_11 : 0 ≤ x_11.toInt ∧ x_11.toInt ≤ 120 := cI_rd hI ob_27.1 ex_11 (Or.inl rfl)
      have ux_11 : (tI M 27 2).toInt = x_11.toInt := by rw [ex_11]
      refine sb_icmp_lt (tgt := 33) hx hb rfl rfl dX9_coming_24 (by decide) (fun c_24_11 => ?_) (fun c_24_11 => ?_)
      · exact hj_33_13  _ _ _  hw (lv_sub hl [0, 1, 2, 3] rfl)
      · refine lv_iload_n hx hb dX9_coming_27 rfl (lv_at hl 3 rfl) ?_
        refine lv_bipush (v := 120) hx hb dX9_coming_28 (by decide) ?_
        refine sb_icmp_lt (tgt := 35) hx hb rfl (by decide : (120 : Int32).toInt = 120) dX9_coming_30 (by decide) (fun c_30_12 => ?_) (fun c_30_12 => ?_)
        · refine lv_aload_n hx hb dX9_coming_35 rfl (lv_at hl 0 rfl) ?_
          refine ti_get (ci := 9) (k := 9) (N := 10) (T := TX9) (v := .ref (A 53 0)) C hw iw_9 rfl ob_0 (by decide) (by decide) fl_X9_61 rfl rfl dX9_coming_36 ?_
          refine lv_aload_n hx hb dX9_coming_39 rfl (lv_at hl 0 rfl) ?_
          refine ti_get (ci := 9) (k := 3) (N := 10) (T := TX9) (v := .ref (A 27 0)) C hw iw_9 rfl ob_0 (by decide) (by decide) fl_X9_29 rfl rfl dX9_coming_40 ?_
          refine lv_iload_n hx hb dX9_coming_43 rfl (lv_at hl 1 rfl) ?_
          refine lv_iload_n hx hb dX9_coming_44 rfl (lv_at hl 2 rfl) ?_
          refine lv_iload_n hx hb dX9_coming_45 rfl (lv_at hl 3 rfl) ?_
          refine ti_callVi (ci := 0) (av := [.ref (A 27 0), .int z1, .int z2, .int z3]) C hw (f_X0_firstToCome l D A cy hJ M hI t ht (hT) z1 (by first | omega | decide) (by first | omega | decide) z2 z3 (by first | omega | decide) (by first | omega | decide)) ⟨ml_X9_219, ym_X0_firstToCome, yv_X0_firstToCome, yi_X0_firstToCome, yc_X0_firstToCome⟩ yd_X0_firstToCome ob_53 (by decide) rfl rfl hl.1 (Nat.le_of_ble_eq_true rfl) ⟨by decide, by decide⟩ ⟨Nat.zero_le _, Nat.zero_le _⟩ dX9_coming_46 (fun r_14 M_15 H locs hp_15 hw => ?_)
          obtain ⟨frM_15, hqM_15⟩ := hp_15
          obtain ⟨iM_15, q_16, q_17⟩ := hqM_15
          exact hQ _ _ _ _ _ _ hw rfl (⟨frM_15, q_16, (cF_fr hF iM_15 q_16 q_17), ((q_17 1).2.1), (tl_x q_17 (q_16 0 1 (by decide)) (q_16 0 2 (by decide)))⟩) dX9_coming_49
        · exact hj_33_13  _ _ _  hw (lv_sub hl [0, 1, 2, 3] rfl)
    · refine sb_if_eq (tgt := 33) hx hb (by decide : (0 : Int32).toInt = 0) dX9_coming_13 (by decide) (fun c_13_9 => ?_) (fun h => absurd h (by decide))
      exact hj_33_13  _ _ _  hw (lv_sub hl [0, 1, 2, 3] rfl)
  · refine sb_if_eq (tgt := 33) hx hb (by decide : (0 : Int32).toInt = 0) dX9_coming_5 (by decide) (fun c_5_4 => ?_) (fun h => absurd h (by decide))
    exact hj_33_13  _ _ _  hw (lv_sub hl [0, 1, 2, 3] rfl)
set_option maxHeartbeats 4000000 in
set_option maxRecDepth 100000 in
theorem f_X9_decree (l : Launch) (D : va_G) (A : Nat → Nat → Nat) (cy : Nat → ClassId) (hJ : ti_inj ti_LT A) (M : ti_M) (hI : cI Tc M) (hF : cF Tc M) (z1 : Int32) (z2 : Int32) (z3 : Int32) : ti_Ki l yX9_decree cX9_decree 4 (some .int) 3 ti_LT D A cy M [.ref (A 0 0), .int z1, .int z2, .int z3] (fun r M2 => fS M2 M ∧ rT M2 M ∧ cF Tc M2 ∧ tI M2 2 1 = tI M 2 1 ∧ tl M2 M) := by
  refine ti_eI yp_X9_decree hJ ti_LT_nd (Nat.le_of_ble_eq_true rfl) ?_
  intro p e s m args below meth c Q H0 C hQ hw ls hl
  have hx := C.1
  have hb := C.2.1
  have hl : lv_has ls 4 [(0, .ref (A 0 0)), (1, .int z1), (2, .int z2), (3, .int z3)] := hl
  obtain ⟨-, ⟨t1, ht1, hT1⟩, ⟨t2, ht2, hT2⟩, ⟨t, ht, hT⟩, hS, hM⟩ := id hF
  refine lv_iload_n hx hb dX9_decree_0 rfl (lv_at hl 1 rfl) ?_
  refine lv_iconst (v := 1) hx hb dX9_decree_1 (by decide) ?_
  have hj_28_7 : ∀  (H : Heap) (locs : List Loc) (ls : Array Slot), ti_H ti_LT D A cy H0 M H locs → lv_has ls 4 [(0, .ref (A 0 0)), (1, .int z1), (2, .int z2), (3, .int z3)] → W p l e (ti_rm 3) s m args below meth c H locs 0 0 Q (F0 m 28 ls []) := by
    intro  H locs ls  hw hl
    refine lv_iconst (v := (-1)) hx hb dX9_decree_28 (by decide) ?_
    exact hQ _ _ _ _ _ _ hw rfl (⟨fS.refl, rT.refl, hF, rfl, tl.refl⟩) dX9_decree_29
  refine sb_icmp_lt (tgt := 28) hx hb rfl (by decide : (1 : Int32).toInt = 1) dX9_decree_2 (by decide) (fun c_2_0 => ?_) (fun c_2_0 => ?_)
  · exact hj_28_7  _ _ _  hw (lv_sub hl [0, 1, 2, 3] rfl)
  · refine lv_iload_n hx hb dX9_decree_5 rfl (lv_at hl 1 rfl) ?_
    refine lv_bipush (v := 8) hx hb dX9_decree_6 (by decide) ?_
    refine sb_icmp_gt (tgt := 28) hx hb rfl (by decide : (8 : Int32).toInt = 8) dX9_decree_8 (by decide) (fun c_8_1 => ?_) (fun c_8_1 => ?_)
    · exact hj_28_7  _ _ _  hw (lv_sub hl [0, 1, 2, 3] rfl)
    · refine lv_iload_n hx hb dX9_decree_11 rfl (lv_at hl 2 rfl) ?_
      refine sb_if_lt (tgt := 28) hx hb rfl dX9_decree_12 (by decide) (fun c_12_2 => ?_) (fun c_12_2 => ?_)
      · exact hj_28_7  _ _ _  hw (lv_sub hl [0, 1, 2, 3] rfl)
      · refine lv_iload_n hx hb dX9_decree_15 rfl (lv_at hl 2 rfl) ?_
        refine lv_iload_n hx hb dX9_decree_16 rfl (lv_at hl 1 rfl) ?_
        refine sb_icmp_gt (tgt := 28) hx hb rfl rfl dX9_decree_17 (by decide) (fun c_17_3 => ?_) (fun c_17_3 => ?_)
        · exact hj_28_7  _ _ _  hw (lv_sub hl [0, 1, 2, 3] rfl)
        · refine lv_aload_n hx hb dX9_decree_20 rfl (lv_at hl 0 rfl) ?_
          refine lv_iload_n hx hb dX9_decree_21 rfl (lv_at hl 3 rfl) ?_
          refine ti_callVi (ci := 9) (av := [.int z3]) C hw (s_X9_isZeroOrOne l D A cy hJ M hI z3) ⟨ml_X9_223, ym_X9_isZeroOrOne, yv_X9_isZeroOrOne, yi_X9_isZeroOrOne, yc_X9_isZeroOrOne⟩ yd_X9_isZeroOrOne ob_0 (by decide) rfl rfl hl.1 (Nat.le_of_ble_eq_true rfl) ⟨by decide, by decide⟩ ⟨Nat.zero_le _, Nat.zero_le _⟩ dX9_decree_22 (fun r_5 M_6 H locs hp_6 hw => ?_)
          have hm := hp_6
          have hw := hw.to hm
          refine sb_if_ne (tgt := 30) hx hb rfl dX9_decree_25 (by decide) (fun c_25_6 => ?_) (fun c_25_6 => ?_)
          · refine lv_aload_n hx hb dX9_decree_30 rfl (lv_at hl 0 rfl) ?_
            refine ti_get (ci := 9) (k := 9) (N := 10) (T := TX9) (v := .ref (A 53 0)) C hw iw_9 rfl ob_0 (by decide) (by decide) fl_X9_61 rfl rfl dX9_decree_31 ?_
            refine lv_aload_n hx hb dX9_decree_34 rfl (lv_at hl 0 rfl) ?_
            refine ti_get (ci := 9) (k := 3) (N := 10) (T := TX9) (v := .ref (A 27 0)) C hw iw_9 rfl ob_0 (by decide) (by decide) fl_X9_29 rfl rfl dX9_decree_35 ?_
            refine lv_iload_n hx hb dX9_decree_38 rfl (lv_at hl 1 rfl) ?_
            refine lv_iload_n hx hb dX9_decree_39 rfl (lv_at hl 2 rfl) ?_
            refine lv_iload_n hx hb dX9_decree_40 rfl (lv_at hl 3 rfl) ?_
            refine ti_callVi (ci := 0) (av := [.ref (A 27 0), .int z1, .int z2, .int z3]) C hw (s_X0_bribes l D A cy hJ M hI t ht (hT) z1 z2 z3) ⟨ml_X9_226, ym_X0_bribes, yv_X0_bribes, yi_X0_bribes, yc_X0_bribes⟩ yd_X0_bribes ob_53 (by decide) rfl rfl hl.1 (Nat.le_of_ble_eq_true rfl) ⟨by decide, by decide⟩ ⟨Nat.zero_le _, Nat.zero_le _⟩ dX9_decree_41 (fun r_8 M_9 H locs hp_9 hw => ?_)
            have hm := hp_9
            have hw := hw.to hm
            exact hQ _ _ _ _ _ _ hw rfl (⟨fS.refl, rT.refl, hF, rfl, tl.refl⟩) dX9_decree_44
          · exact hj_28_7  _ _ _  hw (lv_sub hl [0, 1, 2, 3] rfl)
set_option maxHeartbeats 4000000 in
set_option maxRecDepth 100000 in
theorem f_X9_coup (l : Launch) (D : va_G) (A : Nat → Nat → Nat) (cy : Nat → ClassId) (hJ : ti_inj ti_LT A) (M : ti_M) (hI : cI Tc M) (hF : cF Tc M) : ti_Ki l yX9_coup cX9_coup 1 (some .int) 4 ti_LT D A cy M [.ref (A 0 0)] (fun r M2 => fS M2 M ∧ rT M2 M ∧ cF Tc M2 ∧ tI M2 2 1 = tI M 2 1 ∧ tl M2 M) := by
  refine ti_eI yp_X9_coup hJ ti_LT_nd (Nat.le_of_ble_eq_true rfl) ?_
  intro p e s m args below meth c Q H0 C hQ hw ls hl
  have hx := C.1
  have hb := C.2.1
  have hl : lv_has ls 1 [(0, .ref (A 0 0))] := hl
  obtain ⟨-, ⟨t1, ht1, hT1⟩, ⟨t2, ht2, hT2⟩, ⟨t, ht, hT⟩, hS, hM⟩ := id hF
  refine lv_aload_n hx hb dX9_coup_0 rfl (lv_at hl 0 rfl) ?_
  refine ti_get (ci := 9) (k := 3) (N := 10) (T := TX9) (v := .ref (A 27 0)) C hw iw_9 rfl ob_0 (by decide) (by decide) fl_X9_29 rfl rfl dX9_coup_1 ?_
  refine ti_get (ci := 3) (k := 3) (N := 17) (T := TX3) C hw iw_3 rfl ob_27 (by decide) (by decide) fl_X9_179 rfl rfl dX9_coup_4 ?_
  refine lv_topi (fun x_1 ex_1 => ?_)
  have bx_1 : 0 ≤ x_1.toInt ∧ x_1.toInt ≤ 8 := cI_rd hI ob_27.1 ex_1
  have ux_1 : (tI M 27 3).toInt = x_1.toInt := by rw [ex_1]
  refine sb_if_ne (tgt := 14) hx hb rfl dX9_coup_7 (by decide) (fun c_7_1 => ?_) (fun c_7_1 => ?_)
  · refine lv_aload_n hx hb dX9_coup_14 rfl (lv_at hl 0 rfl) ?_
    refine ti_get (ci := 9) (k := 9) (N := 10) (T := TX9) (v := .ref (A 53 0)) C hw iw_9 rfl ob_0 (by decide) (by decide) fl_X9_61 rfl rfl dX9_coup_15 ?_
    refine lv_aload_n hx hb dX9_coup_18 rfl (lv_at hl 0 rfl) ?_
    refine ti_get (ci := 9) (k := 3) (N := 10) (T := TX9) (v := .ref (A 27 0)) C hw iw_9 rfl ob_0 (by decide) (by decide) fl_X9_29 rfl rfl dX9_coup_19 ?_
    refine ti_callVi (ci := 0) (av := [.ref (A 27 0)]) C hw (f_X0_plotters l D A cy hJ M hI t ht (hT)) ⟨ml_X9_229, ym_X0_plotters, yv_X0_plotters, yi_X0_plotters, yc_X0_plotters⟩ yd_X0_plotters ob_53 (by decide) rfl rfl hl.1 (Nat.le_of_ble_eq_true rfl) ⟨by decide, by decide⟩ ⟨Nat.zero_le _, Nat.zero_le _⟩ dX9_coup_22 (fun r_3 M_4 H locs hp_4 hw => ?_)
    obtain ⟨frM_4, hqM_4⟩ := hp_4
    obtain ⟨iM_4, q_5, q_6⟩ := hqM_4
    exact hQ _ _ _ _ _ _ hw rfl (⟨frM_4, q_5, (cF_fr hF iM_4 q_5 q_6), ((q_6 1).2.1), (tl_x q_6 (q_5 0 1 (by decide)) (q_5 0 2 (by decide)))⟩) dX9_coup_25
  · refine lv_iconst (v := (-1)) hx hb dX9_coup_10 (by decide) ?_
    refine lv_goto (tgt := 25) hx hb dX9_coup_11 (by decide) ?_
    exact hQ _ _ _ _ _ _ hw rfl (⟨fS.refl, rT.refl, hF, rfl, tl.refl⟩) dX9_coup_25
set_option maxHeartbeats 4000000 in
set_option maxRecDepth 100000 in
theorem f_X9_rests (l : Launch) (D : va_G) (A : Nat → Nat → Nat) (cy : Nat → ClassId) (hJ : ti_inj ti_LT A) (M : ti_M) (hI : cI Tc M) (hF : cF Tc M) (z1 : Int32) (z2 : Int32) (z3 : Int32) : ti_Ki l yX9_rests cX9_rests 4 (some .int) 7 ti_LT D A cy M [.ref (A 0 0), .int z1, .int z2, .int z3] (fun r M2 => fS M2 M ∧ rT M2 M ∧ cF Tc M2 ∧ tI M2 2 1 = tI M 2 1 ∧ tl M2 M) := by
  refine ti_eI yp_X9_rests hJ ti_LT_nd (Nat.le_of_ble_eq_true rfl) ?_
  intro p e s m args below meth c Q H0 C hQ hw ls hl
  have hx := C.1
  have hb := C.2.1
  have hl : lv_has ls 4 [(0, .ref (A 0 0)), (1, .int z1), (2, .int z2), (3, .int z3)] := hl
  obtain ⟨-, ⟨t1, ht1, hT1⟩, ⟨t2, ht2, hT2⟩, ⟨t, ht, hT⟩, hS, hM⟩ := id hF
  refine lv_aload_n hx hb dX9_rests_0 rfl (lv_at hl 0 rfl) ?_
  refine lv_iload_n hx hb dX9_rests_1 rfl (lv_at hl 1 rfl) ?_
  refine lv_iload_n hx hb dX9_rests_2 rfl (lv_at hl 2 rfl) ?_
  refine lv_iload_n hx hb dX9_rests_3 rfl (lv_at hl 3 rfl) ?_
  refine ti_callVi (ci := 9) (av := [.int z1, .int z2, .int z3]) C hw (s_X9_isGame l D A cy hJ M hI t1 ht1 (hT1) z1 z2 z3) ⟨ml_X9_233, ym_X9_isGame, yv_X9_isGame, yi_X9_isGame, yc_X9_isGame⟩ yd_X9_isGame ob_0 (by decide) rfl rfl hl.1 (Nat.le_of_ble_eq_true rfl) ⟨by decide, by decide⟩ ⟨Nat.zero_le _, Nat.zero_le _⟩ dX9_rests_4 (fun r_1 M_2 H locs hp_2 hw => ?_)
  obtain ⟨hm, hz⟩ := hp_2
  have hw := hw.to hm
  rcases hz with ⟨rfl, d1_3, d2_3, d3_3, d4_3⟩ | rfl
  · refine sb_if_ne (tgt := 12) hx hb (by decide : (1 : Int32).toInt = 1) dX9_rests_7 (by decide) (fun c_7_3 => ?_) (fun h => absurd h (by decide))
    refine lv_aload_n hx hb dX9_rests_12 rfl (lv_at hl 0 rfl) ?_
    refine ti_get (ci := 9) (k := 9) (N := 10) (T := TX9) (v := .ref (A 53 0)) C hw iw_9 rfl ob_0 (by decide) (by decide) fl_X9_61 rfl rfl dX9_rests_13 ?_
    refine lv_aload_n hx hb dX9_rests_16 rfl (lv_at hl 0 rfl) ?_
    refine ti_get (ci := 9) (k := 3) (N := 10) (T := TX9) (v := .ref (A 27 0)) C hw iw_9 rfl ob_0 (by decide) (by decide) fl_X9_29 rfl rfl dX9_rests_17 ?_
    refine lv_iload_n hx hb dX9_rests_20 rfl (lv_at hl 1 rfl) ?_
    refine lv_iload_n hx hb dX9_rests_21 rfl (lv_at hl 2 rfl) ?_
    refine lv_iload_n hx hb dX9_rests_22 rfl (lv_at hl 3 rfl) ?_
    refine ti_callVv (ci := 0) (av := [.ref (A 27 0), .int z1, .int z2, .int z3]) C hw (f_X0_play l D A cy hJ M hI t ht (hT) z1 z2 z3 (by first | omega | decide) (by first | omega | decide) (by first | omega | decide) (by first | omega | decide)) ⟨ml_X9_237, ym_X0_play, yv_X0_play, yi_X0_play, yc_X0_play⟩ yd_X0_play ob_53 (by decide) rfl rfl hl.1 (Nat.le_of_ble_eq_true rfl) ⟨by decide, by decide⟩ ⟨Nat.zero_le _, Nat.zero_le _⟩ dX9_rests_23 (fun M_7 H locs hp_7 hw => ?_)
    obtain ⟨frM_7, hqM_7⟩ := hp_7
    obtain ⟨iM_7, q_8, q_9⟩ := hqM_7
    refine lv_aload_n hx hb dX9_rests_26 rfl (lv_at hl 0 rfl) ?_
    refine ti_get (ci := 9) (k := 9) (N := 10) (T := TX9) (v := .ref (A 53 0)) C hw iw_9 rfl ob_0 (by decide) (by decide) fl_X9_61 rfl rfl dX9_rests_27 ?_
    refine ti_get (ci := 0) (k := 5) (N := 6) (T := TX0) C hw iw_0 rfl ob_53 (by decide) (by decide) fl_X9_241 rfl rfl dX9_rests_30 ?_
    refine lv_topi (fun x_10 ex_10 => ?_)
    have bx_10 : 0 ≤ x_10.toInt ∧ x_10.toInt ≤ 16 := cI_rd iM_7 ob_53.1 ex_10
    have ux_10 : (tI M_7 53 5).toInt = x_10.toInt := by rw [ex_10]
    exact hQ _ _ _ _ _ _ hw rfl (⟨frM_7, q_8, (cF_fr hF iM_7 q_8 q_9), ((q_9 1).2.1), (tl_x q_9 (q_8 0 1 (by decide)) (q_8 0 2 (by decide)))⟩) dX9_rests_33
  · refine sb_if_ne (tgt := 12) hx hb (by decide : (0 : Int32).toInt = 0) dX9_rests_7 (by decide) (fun h => absurd h (by decide)) (fun c_7_4 => ?_)
    refine lv_iconst (v := (-1)) hx hb dX9_rests_10 (by decide) ?_
    exact hQ _ _ _ _ _ _ hw rfl (⟨fS.refl, rT.refl, hF, rfl, tl.refl⟩) dX9_rests_11
set_option maxHeartbeats 4000000 in
set_option maxRecDepth 100000 in
theorem f_X9_rest (l : Launch) (D : va_G) (A : Nat → Nat → Nat) (cy : Nat → ClassId) (hJ : ti_inj ti_LT A) (M : ti_M) (hI : cI Tc M) (hF : cF Tc M) (z1 : Int32) (z2 : Int32) (z3 : Int32) (z4 : Int32) : ti_Ki l yX9_rest cX9_rest 5 (some .int) 7 ti_LT D A cy M [.ref (A 0 0), .int z1, .int z2, .int z3, .int z4] (fun r M2 => fS M2 M ∧ rT M2 M ∧ cF Tc M2 ∧ tI M2 2 1 = tI M 2 1 ∧ tl M2 M) := by
  refine ti_eI yp_X9_rest hJ ti_LT_nd (Nat.le_of_ble_eq_true rfl) ?_
  intro p e s m args below meth c Q H0 C hQ hw ls hl
  have hx := C.1
  have hb := C.2.1
  have hl : lv_has ls 5 [(0, .ref (A 0 0)), (1, .int z1), (2, .int z2), (3, .int z3), (4, .int z4)] := hl
  obtain ⟨-, ⟨t1, ht1, hT1⟩, ⟨t2, ht2, hT2⟩, ⟨t, ht, hT⟩, hS, hM⟩ := id hF
  refine lv_aload_n hx hb dX9_rest_0 rfl (lv_at hl 0 rfl) ?_
  refine lv_iload_n hx hb dX9_rest_1 rfl (lv_at hl 1 rfl) ?_
  refine lv_iload_n hx hb dX9_rest_2 rfl (lv_at hl 2 rfl) ?_
  refine lv_iload_n hx hb dX9_rest_3 rfl (lv_at hl 3 rfl) ?_
  refine ti_callVi (ci := 9) (av := [.int z1, .int z2, .int z3]) C hw (s_X9_isGame l D A cy hJ M hI t1 ht1 (hT1) z1 z2 z3) ⟨ml_X9_233, ym_X9_isGame, yv_X9_isGame, yi_X9_isGame, yc_X9_isGame⟩ yd_X9_isGame ob_0 (by decide) rfl rfl hl.1 (Nat.le_of_ble_eq_true rfl) ⟨by decide, by decide⟩ ⟨Nat.zero_le _, Nat.zero_le _⟩ dX9_rest_4 (fun r_1 M_2 H locs hp_2 hw => ?_)
  obtain ⟨hm, hz⟩ := hp_2
  have hw := hw.to hm
  have hj_15_6 : ∀  (H : Heap) (locs : List Loc) (ls : Array Slot), ti_H ti_LT D A cy H0 M H locs → lv_has ls 5 [(0, .ref (A 0 0)), (1, .int z1), (2, .int z2), (3, .int z3), (4, .int z4)] → W p l e (ti_rm 7) s m args below meth c H locs 0 0 Q (F0 m 15 ls []) := by
    intro  H locs ls  hw hl
    refine lv_iconst (v := (-1)) hx hb dX9_rest_15 (by decide) ?_
    exact hQ _ _ _ _ _ _ hw rfl (⟨fS.refl, rT.refl, hF, rfl, tl.refl⟩) dX9_rest_16
  rcases hz with ⟨rfl, d1_3, d2_3, d3_3, d4_3⟩ | rfl
  · refine sb_if_eq (tgt := 15) hx hb (by decide : (1 : Int32).toInt = 1) dX9_rest_7 (by decide) (fun h => absurd h (by decide)) (fun c_7_3 => ?_)
    refine lv_iload hx hb dX9_rest_10 (lv_at hl 4 rfl) ?_
    refine sb_if_ge (tgt := 17) hx hb rfl dX9_rest_12 (by decide) (fun c_12_5 => ?_) (fun c_12_5 => ?_)
    · refine lv_aload_n hx hb dX9_rest_17 rfl (lv_at hl 0 rfl) ?_
      refine ti_get (ci := 9) (k := 9) (N := 10) (T := TX9) (v := .ref (A 53 0)) C hw iw_9 rfl ob_0 (by decide) (by decide) fl_X9_61 rfl rfl dX9_rest_18 ?_
      refine lv_aload_n hx hb dX9_rest_21 rfl (lv_at hl 0 rfl) ?_
      refine ti_get (ci := 9) (k := 3) (N := 10) (T := TX9) (v := .ref (A 27 0)) C hw iw_9 rfl ob_0 (by decide) (by decide) fl_X9_29 rfl rfl dX9_rest_22 ?_
      refine lv_iload_n hx hb dX9_rest_25 rfl (lv_at hl 1 rfl) ?_
      refine lv_iload_n hx hb dX9_rest_26 rfl (lv_at hl 2 rfl) ?_
      refine lv_iload_n hx hb dX9_rest_27 rfl (lv_at hl 3 rfl) ?_
      refine ti_callVv (ci := 0) (av := [.ref (A 27 0), .int z1, .int z2, .int z3]) C hw (f_X0_play l D A cy hJ M hI t ht (hT) z1 z2 z3 (by first | omega | decide) (by first | omega | decide) (by first | omega | decide) (by first | omega | decide)) ⟨ml_X9_237, ym_X0_play, yv_X0_play, yi_X0_play, yc_X0_play⟩ yd_X0_play ob_53 (by decide) rfl rfl hl.1 (Nat.le_of_ble_eq_true rfl) ⟨by decide, by decide⟩ ⟨Nat.zero_le _, Nat.zero_le _⟩ dX9_rest_28 (fun M_8 H locs hp_8 hw => ?_)
      obtain ⟨frM_8, hqM_8⟩ := hp_8
      obtain ⟨iM_8, q_9, q_10⟩ := hqM_8
      refine lv_iload hx hb dX9_rest_31 (lv_at hl 4 rfl) ?_
      refine lv_aload_n hx hb dX9_rest_33 rfl (lv_at hl 0 rfl) ?_
      refine ti_get (ci := 9) (k := 9) (N := 10) (T := TX9) (v := .ref (A 53 0)) C hw iw_9 rfl ob_0 (by decide) (by decide) fl_X9_61 rfl rfl dX9_rest_34 ?_
      refine ti_get (ci := 0) (k := 5) (N := 6) (T := TX0) C hw iw_0 rfl ob_53 (by decide) (by decide) fl_X9_241 rfl rfl dX9_rest_37 ?_
      refine lv_topi (fun x_11 ex_11 => ?_)
      have bx_11 : 0 ≤ x_11.toInt ∧ x_11.toInt ≤ 16 := cI_rd iM_8 ob_53.1 ex_11
      have ux_11 : (tI M_8 53 5).toInt = x_11.toInt := by rw [ex_11]
      refine sb_icmp_ge (tgt := 56) hx hb rfl rfl dX9_rest_40 (by decide) (fun c_40_11 => ?_) (fun c_40_11 => ?_)
      · refine lv_bipush (v := (-2)) hx hb dX9_rest_56 (by decide) ?_
        exact hQ _ _ _ _ _ _ hw rfl (⟨frM_8, q_9, (cF_fr hF iM_8 q_9 q_10), ((q_10 1).2.1), (tl_x q_10 (q_9 0 1 (by decide)) (q_9 0 2 (by decide)))⟩) dX9_rest_58
      · refine lv_aload_n hx hb dX9_rest_43 rfl (lv_at hl 0 rfl) ?_
        refine ti_get (ci := 9) (k := 9) (N := 10) (T := TX9) (v := .ref (A 53 0)) C hw iw_9 rfl ob_0 (by decide) (by decide) fl_X9_61 rfl rfl dX9_rest_44 ?_
        refine ti_get (ci := 0) (k := 4) (N := 6) (T := TX0) (v := .ref (A 53 5)) C hw iw_0 rfl ob_53 (by decide) (by decide) fl_X9_244 rfl rfl dX9_rest_47 ?_
        refine lv_iload hx hb dX9_rest_50 (lv_at hl 4 rfl) ?_
        refine ti_iald (ci := 0) (k := 4) (n := 16) C hw ob_53 (by decide) (fun _ _ => rfl) (vp_in_iff.mpr (by omega)) dX9_rest_52 ?_
        refine lv_topi (fun x_13 ex_13 => ?_)
        refine lv_goto (tgt := 58) hx hb dX9_rest_53 (by decide) ?_
        exact hQ _ _ _ _ _ _ hw rfl (⟨frM_8, q_9, (cF_fr hF iM_8 q_9 q_10), ((q_10 1).2.1), (tl_x q_10 (q_9 0 1 (by decide)) (q_9 0 2 (by decide)))⟩) dX9_rest_58
    · exact hj_15_6  _ _ _  hw (lv_sub hl [0, 1, 2, 3, 4] rfl)
  · refine sb_if_eq (tgt := 15) hx hb (by decide : (0 : Int32).toInt = 0) dX9_rest_7 (by decide) (fun c_7_4 => ?_) (fun h => absurd h (by decide))
    exact hj_15_6  _ _ _  hw (lv_sub hl [0, 1, 2, 3, 4] rfl)
set_option maxHeartbeats 4000000 in
set_option maxRecDepth 100000 in
theorem f_X9_best (l : Launch) (D : va_G) (A : Nat → Nat → Nat) (cy : Nat → ClassId) (hJ : ti_inj ti_LT A) (M : ti_M) (hI : cI Tc M) (hF : cF Tc M) (z1 : Int32) (z2 : Int32) (z3 : Int32) (z4 : Int32) : ti_Ki l yX9_best cX9_best 5 (some .int) 7 ti_LT D A cy M [.ref (A 0 0), .int z1, .int z2, .int z3, .int z4] (fun r M2 => fS M2 M ∧ rT M2 M ∧ cF Tc M2 ∧ tI M2 2 1 = tI M 2 1 ∧ tl M2 M) := by
  refine ti_eI yp_X9_best hJ ti_LT_nd (Nat.le_of_ble_eq_true rfl) ?_
  intro p e s m args below meth c Q H0 C hQ hw ls hl
  have hx := C.1
  have hb := C.2.1
  have hl : lv_has ls 5 [(0, .ref (A 0 0)), (1, .int z1), (2, .int z2), (3, .int z3), (4, .int z4)] := hl
  obtain ⟨-, ⟨t1, ht1, hT1⟩, ⟨t2, ht2, hT2⟩, ⟨t, ht, hT⟩, hS, hM⟩ := id hF
  refine lv_aload_n hx hb dX9_best_0 rfl (lv_at hl 0 rfl) ?_
  refine lv_iload_n hx hb dX9_best_1 rfl (lv_at hl 1 rfl) ?_
  refine ti_callVi (ci := 9) (av := [.int z1]) C hw (s_X9_isPower l D A cy hJ M hI z1) ⟨ml_X9_165, ym_X9_isPower, yv_X9_isPower, yi_X9_isPower, yc_X9_isPower⟩ yd_X9_isPower ob_0 (by decide) rfl rfl hl.1 (Nat.le_of_ble_eq_true rfl) ⟨by decide, by decide⟩ ⟨Nat.zero_le _, Nat.zero_le _⟩ dX9_best_2 (fun r_1 M_2 H locs hp_2 hw => ?_)
  obtain ⟨hm, hz⟩ := hp_2
  have hw := hw.to hm
  have hj_34_16 : ∀  (H : Heap) (locs : List Loc) (ls : Array Slot), ti_H ti_LT D A cy H0 M H locs → lv_has ls 5 [(0, .ref (A 0 0)), (1, .int z1), (2, .int z2), (3, .int z3), (4, .int z4)] → W p l e (ti_rm 7) s m args below meth c H locs 0 0 Q (F0 m 34 ls []) := by
    intro  H locs ls  hw hl
    refine lv_iconst (v := (-1)) hx hb dX9_best_34 (by decide) ?_
    exact hQ _ _ _ _ _ _ hw rfl (⟨fS.refl, rT.refl, hF, rfl, tl.refl⟩) dX9_best_35
  rcases hz with ⟨rfl, d1_3, d2_3⟩ | rfl
  · refine sb_if_eq (tgt := 34) hx hb (by decide : (1 : Int32).toInt = 1) dX9_best_5 (by decide) (fun h => absurd h (by decide)) (fun c_5_3 => ?_)
    refine lv_aload_n hx hb dX9_best_8 rfl (lv_at hl 0 rfl) ?_
    refine lv_iload_n hx hb dX9_best_9 rfl (lv_at hl 2 rfl) ?_
    refine ti_callVi (ci := 9) (av := [.int z2]) C hw (s_X9_isMan l D A cy hJ M hI t1 ht1 (hT1) z2) ⟨ml_X9_104, ym_X9_isMan, yv_X9_isMan, yi_X9_isMan, yc_X9_isMan⟩ yd_X9_isMan ob_0 (by decide) rfl rfl hl.1 (Nat.le_of_ble_eq_true rfl) ⟨by decide, by decide⟩ ⟨Nat.zero_le _, Nat.zero_le _⟩ dX9_best_10 (fun r_6 M_7 H locs hp_7 hw => ?_)
    obtain ⟨hm, hz⟩ := hp_7
    have hw := hw.to hm
    rcases hz with ⟨rfl, d1_8, d2_8⟩ | rfl
    · refine sb_if_eq (tgt := 34) hx hb (by decide : (1 : Int32).toInt = 1) dX9_best_13 (by decide) (fun h => absurd h (by decide)) (fun c_13_8 => ?_)
      refine lv_aload_n hx hb dX9_best_16 rfl (lv_at hl 0 rfl) ?_
      refine lv_iload_n hx hb dX9_best_17 rfl (lv_at hl 3 rfl) ?_
      refine lv_iconst (v := 1) hx hb dX9_best_18 (by decide) ?_
      refine ti_callVi (ci := 9) (av := [.int z3, .int 1]) C hw (s_X9_isAhead l D A cy hJ M hI z3 1) ⟨ml_X9_247, ym_X9_isAhead, yv_X9_isAhead, yi_X9_isAhead, yc_X9_isAhead⟩ yd_X9_isAhead ob_0 (by decide) rfl rfl hl.1 (Nat.le_of_ble_eq_true rfl) ⟨by decide, by decide⟩ ⟨Nat.zero_le _, Nat.zero_le _⟩ dX9_best_19 (fun r_11 M_12 H locs hp_12 hw => ?_)
      have hm := hp_12
      have hw := hw.to hm
      refine sb_if_eq (tgt := 34) hx hb rfl dX9_best_22 (by decide) (fun c_22_12 => ?_) (fun c_22_12 => ?_)
      · exact hj_34_16  _ _ _  hw (lv_sub hl [0, 1, 2, 3, 4] rfl)
      · refine lv_aload_n hx hb dX9_best_25 rfl (lv_at hl 0 rfl) ?_
        refine lv_iload hx hb dX9_best_26 (lv_at hl 4 rfl) ?_
        refine ti_callVi (ci := 9) (av := [.int z4]) C hw (s_X9_isZeroOrOne l D A cy hJ M hI z4) ⟨ml_X9_223, ym_X9_isZeroOrOne, yv_X9_isZeroOrOne, yi_X9_isZeroOrOne, yc_X9_isZeroOrOne⟩ yd_X9_isZeroOrOne ob_0 (by decide) rfl rfl hl.1 (Nat.le_of_ble_eq_true rfl) ⟨by decide, by decide⟩ ⟨Nat.zero_le _, Nat.zero_le _⟩ dX9_best_28 (fun r_14 M_15 H locs hp_15 hw => ?_)
        have hm := hp_15
        have hw := hw.to hm
        refine sb_if_ne (tgt := 36) hx hb rfl dX9_best_31 (by decide) (fun c_31_15 => ?_) (fun c_31_15 => ?_)
        · refine lv_aload_n hx hb dX9_best_36 rfl (lv_at hl 0 rfl) ?_
          refine ti_get (ci := 9) (k := 9) (N := 10) (T := TX9) (v := .ref (A 53 0)) C hw iw_9 rfl ob_0 (by decide) (by decide) fl_X9_61 rfl rfl dX9_best_37 ?_
          refine lv_aload_n hx hb dX9_best_40 rfl (lv_at hl 0 rfl) ?_
          refine ti_get (ci := 9) (k := 3) (N := 10) (T := TX9) (v := .ref (A 27 0)) C hw iw_9 rfl ob_0 (by decide) (by decide) fl_X9_29 rfl rfl dX9_best_41 ?_
          refine lv_iload_n hx hb dX9_best_44 rfl (lv_at hl 1 rfl) ?_
          refine lv_iload_n hx hb dX9_best_45 rfl (lv_at hl 2 rfl) ?_
          refine lv_iload_n hx hb dX9_best_46 rfl (lv_at hl 3 rfl) ?_
          refine lv_iload hx hb dX9_best_47 (lv_at hl 4 rfl) ?_
          refine ti_callVi (ci := 0) (av := [.ref (A 27 0), .int z1, .int z2, .int z3, .int z4]) C hw (f_X0_bestPlace l D A cy hJ M hI t ht (hT) z1 z2 z3 z4 (by first | omega | decide) (by first | omega | decide)) ⟨ml_X9_251, ym_X0_bestPlace, yv_X0_bestPlace, yi_X0_bestPlace, yc_X0_bestPlace⟩ yd_X0_bestPlace ob_53 (by decide) rfl rfl hl.1 (Nat.le_of_ble_eq_true rfl) ⟨by decide, by decide⟩ ⟨Nat.zero_le _, Nat.zero_le _⟩ dX9_best_49 (fun r_17 M_18 H locs hp_18 hw => ?_)
          obtain ⟨frM_18, hqM_18⟩ := hp_18
          obtain ⟨iM_18, q_19, q_20⟩ := hqM_18
          exact hQ _ _ _ _ _ _ hw rfl (⟨frM_18, q_19, (cF_fr hF iM_18 q_19 q_20), ((q_20 1).2.1), (tl_x q_20 (q_19 0 1 (by decide)) (q_19 0 2 (by decide)))⟩) dX9_best_52
        · exact hj_34_16  _ _ _  hw (lv_sub hl [0, 1, 2, 3, 4] rfl)
    · refine sb_if_eq (tgt := 34) hx hb (by decide : (0 : Int32).toInt = 0) dX9_best_13 (by decide) (fun c_13_9 => ?_) (fun h => absurd h (by decide))
      exact hj_34_16  _ _ _  hw (lv_sub hl [0, 1, 2, 3, 4] rfl)
  · refine sb_if_eq (tgt := 34) hx hb (by decide : (0 : Int32).toInt = 0) dX9_best_5 (by decide) (fun c_5_4 => ?_) (fun h => absurd h (by decide))
    exact hj_34_16  _ _ _  hw (lv_sub hl [0, 1, 2, 3, 4] rfl)
set_option maxHeartbeats 4000000 in
set_option maxRecDepth 100000 in
theorem f_X9_fairest (l : Launch) (D : va_G) (A : Nat → Nat → Nat) (cy : Nat → ClassId) (hJ : ti_inj ti_LT A) (M : ti_M) (hI : cI Tc M) (hF : cF Tc M) (z1 : Int32) (z2 : Int32) (z3 : Int32) : ti_Ki l yX9_fairest cX9_fairest 4 (some .int) 7 ti_LT D A cy M [.ref (A 0 0), .int z1, .int z2, .int z3] (fun r M2 => fS M2 M ∧ rT M2 M ∧ cF Tc M2 ∧ tI M2 2 1 = tI M 2 1 ∧ tl M2 M) := by
  refine ti_eI yp_X9_fairest hJ ti_LT_nd (Nat.le_of_ble_eq_true rfl) ?_
  intro p e s m args below meth c Q H0 C hQ hw ls hl
  have hx := C.1
  have hb := C.2.1
  have hl : lv_has ls 4 [(0, .ref (A 0 0)), (1, .int z1), (2, .int z2), (3, .int z3)] := hl
  obtain ⟨-, ⟨t1, ht1, hT1⟩, ⟨t2, ht2, hT2⟩, ⟨t, ht, hT⟩, hS, hM⟩ := id hF
  refine lv_aload_n hx hb dX9_fairest_0 rfl (lv_at hl 0 rfl) ?_
  refine lv_iload_n hx hb dX9_fairest_1 rfl (lv_at hl 1 rfl) ?_
  refine ti_callVi (ci := 9) (av := [.int z1]) C hw (s_X9_isPower l D A cy hJ M hI z1) ⟨ml_X9_165, ym_X9_isPower, yv_X9_isPower, yi_X9_isPower, yc_X9_isPower⟩ yd_X9_isPower ob_0 (by decide) rfl rfl hl.1 (Nat.le_of_ble_eq_true rfl) ⟨by decide, by decide⟩ ⟨Nat.zero_le _, Nat.zero_le _⟩ dX9_fairest_2 (fun r_1 M_2 H locs hp_2 hw => ?_)
  obtain ⟨hm, hz⟩ := hp_2
  have hw := hw.to hm
  have hj_25_11 : ∀  (H : Heap) (locs : List Loc) (ls : Array Slot), ti_H ti_LT D A cy H0 M H locs → lv_has ls 4 [(0, .ref (A 0 0)), (1, .int z1), (2, .int z2), (3, .int z3)] → W p l e (ti_rm 7) s m args below meth c H locs 0 0 Q (F0 m 25 ls []) := by
    intro  H locs ls  hw hl
    refine lv_iconst (v := (-1)) hx hb dX9_fairest_25 (by decide) ?_
    exact hQ _ _ _ _ _ _ hw rfl (⟨fS.refl, rT.refl, hF, rfl, tl.refl⟩) dX9_fairest_26
  rcases hz with ⟨rfl, d1_3, d2_3⟩ | rfl
  · refine sb_if_eq (tgt := 25) hx hb (by decide : (1 : Int32).toInt = 1) dX9_fairest_5 (by decide) (fun h => absurd h (by decide)) (fun c_5_3 => ?_)
    refine lv_aload_n hx hb dX9_fairest_8 rfl (lv_at hl 0 rfl) ?_
    refine lv_iload_n hx hb dX9_fairest_9 rfl (lv_at hl 2 rfl) ?_
    refine lv_iconst (v := 1) hx hb dX9_fairest_10 (by decide) ?_
    refine ti_callVi (ci := 9) (av := [.int z2, .int 1]) C hw (s_X9_isAhead l D A cy hJ M hI z2 1) ⟨ml_X9_247, ym_X9_isAhead, yv_X9_isAhead, yi_X9_isAhead, yc_X9_isAhead⟩ yd_X9_isAhead ob_0 (by decide) rfl rfl hl.1 (Nat.le_of_ble_eq_true rfl) ⟨by decide, by decide⟩ ⟨Nat.zero_le _, Nat.zero_le _⟩ dX9_fairest_11 (fun r_6 M_7 H locs hp_7 hw => ?_)
    have hm := hp_7
    have hw := hw.to hm
    refine sb_if_eq (tgt := 25) hx hb rfl dX9_fairest_14 (by decide) (fun c_14_7 => ?_) (fun c_14_7 => ?_)
    · exact hj_25_11  _ _ _  hw (lv_sub hl [0, 1, 2, 3] rfl)
    · refine lv_aload_n hx hb dX9_fairest_17 rfl (lv_at hl 0 rfl) ?_
      refine lv_iload_n hx hb dX9_fairest_18 rfl (lv_at hl 3 rfl) ?_
      refine ti_callVi (ci := 9) (av := [.int z3]) C hw (s_X9_isZeroOrOne l D A cy hJ M hI z3) ⟨ml_X9_223, ym_X9_isZeroOrOne, yv_X9_isZeroOrOne, yi_X9_isZeroOrOne, yc_X9_isZeroOrOne⟩ yd_X9_isZeroOrOne ob_0 (by decide) rfl rfl hl.1 (Nat.le_of_ble_eq_true rfl) ⟨by decide, by decide⟩ ⟨Nat.zero_le _, Nat.zero_le _⟩ dX9_fairest_19 (fun r_9 M_10 H locs hp_10 hw => ?_)
      have hm := hp_10
      have hw := hw.to hm
      refine sb_if_ne (tgt := 27) hx hb rfl dX9_fairest_22 (by decide) (fun c_22_10 => ?_) (fun c_22_10 => ?_)
      · refine lv_aload_n hx hb dX9_fairest_27 rfl (lv_at hl 0 rfl) ?_
        refine ti_get (ci := 9) (k := 9) (N := 10) (T := TX9) (v := .ref (A 53 0)) C hw iw_9 rfl ob_0 (by decide) (by decide) fl_X9_61 rfl rfl dX9_fairest_28 ?_
        refine lv_aload_n hx hb dX9_fairest_31 rfl (lv_at hl 0 rfl) ?_
        refine ti_get (ci := 9) (k := 3) (N := 10) (T := TX9) (v := .ref (A 27 0)) C hw iw_9 rfl ob_0 (by decide) (by decide) fl_X9_29 rfl rfl dX9_fairest_32 ?_
        refine lv_iload_n hx hb dX9_fairest_35 rfl (lv_at hl 1 rfl) ?_
        refine lv_iload_n hx hb dX9_fairest_36 rfl (lv_at hl 2 rfl) ?_
        refine lv_iload_n hx hb dX9_fairest_37 rfl (lv_at hl 3 rfl) ?_
        refine ti_callVi (ci := 0) (av := [.ref (A 27 0), .int z1, .int z2, .int z3]) C hw (f_X0_fairestPlace l D A cy hJ M hI t ht (hT) z1 z2 z3 (by first | omega | decide) (by first | omega | decide)) ⟨ml_X9_255, ym_X0_fairestPlace, yv_X0_fairestPlace, yi_X0_fairestPlace, yc_X0_fairestPlace⟩ yd_X0_fairestPlace ob_53 (by decide) rfl rfl hl.1 (Nat.le_of_ble_eq_true rfl) ⟨by decide, by decide⟩ ⟨Nat.zero_le _, Nat.zero_le _⟩ dX9_fairest_38 (fun r_12 M_13 H locs hp_13 hw => ?_)
        obtain ⟨frM_13, hqM_13⟩ := hp_13
        obtain ⟨iM_13, q_14, q_15⟩ := hqM_13
        exact hQ _ _ _ _ _ _ hw rfl (⟨frM_13, q_14, (cF_fr hF iM_13 q_14 q_15), ((q_15 1).2.1), (tl_x q_15 (q_14 0 1 (by decide)) (q_14 0 2 (by decide)))⟩) dX9_fairest_41
      · exact hj_25_11  _ _ _  hw (lv_sub hl [0, 1, 2, 3] rfl)
  · refine sb_if_eq (tgt := 25) hx hb (by decide : (0 : Int32).toInt = 0) dX9_fairest_5 (by decide) (fun c_5_4 => ?_) (fun h => absurd h (by decide))
    exact hj_25_11  _ _ _  hw (lv_sub hl [0, 1, 2, 3] rfl)
set_option maxHeartbeats 4000000 in
set_option maxRecDepth 100000 in
theorem f_X9_gain (l : Launch) (D : va_G) (A : Nat → Nat → Nat) (cy : Nat → ClassId) (hJ : ti_inj ti_LT A) (M : ti_M) (hI : cI Tc M) (hF : cF Tc M) (z1 : Int32) (z2 : Int32) : ti_Ki l yX9_gain cX9_gain 3 (some .int) 7 ti_LT D A cy M [.ref (A 0 0), .int z1, .int z2] (fun r M2 => fS M2 M ∧ rT M2 M ∧ cF Tc M2 ∧ tI M2 2 1 = tI M 2 1 ∧ tl M2 M) := by
  refine ti_eI yp_X9_gain hJ ti_LT_nd (Nat.le_of_ble_eq_true rfl) ?_
  intro p e s m args below meth c Q H0 C hQ hw ls hl
  have hx := C.1
  have hb := C.2.1
  have hl : lv_has ls 3 [(0, .ref (A 0 0)), (1, .int z1), (2, .int z2)] := hl
  obtain ⟨-, ⟨t1, ht1, hT1⟩, ⟨t2, ht2, hT2⟩, ⟨t, ht, hT⟩, hS, hM⟩ := id hF
  refine lv_iload_n hx hb dX9_gain_0 rfl (lv_at hl 1 rfl) ?_
  have hj_24_6 : ∀  (H : Heap) (locs : List Loc) (ls : Array Slot), ti_H ti_LT D A cy H0 M H locs → lv_has ls 3 [(0, .ref (A 0 0)), (1, .int z1), (2, .int z2)] → W p l e (ti_rm 7) s m args below meth c H locs 0 0 Q (F0 m 24 ls []) := by
    intro  H locs ls  hw hl
    refine lv_iconst (v := (-1)) hx hb dX9_gain_24 (by decide) ?_
    exact hQ _ _ _ _ _ _ hw rfl (⟨fS.refl, rT.refl, hF, rfl, tl.refl⟩) dX9_gain_25
  refine sb_if_lt (tgt := 24) hx hb rfl dX9_gain_1 (by decide) (fun c_1_0 => ?_) (fun c_1_0 => ?_)
  · exact hj_24_6  _ _ _  hw (lv_sub hl [0, 1, 2] rfl)
  · refine lv_iload_n hx hb dX9_gain_4 rfl (lv_at hl 1 rfl) ?_
    refine lv_aload_n hx hb dX9_gain_5 rfl (lv_at hl 0 rfl) ?_
    refine ti_get (ci := 9) (k := 3) (N := 10) (T := TX9) (v := .ref (A 27 0)) C hw iw_9 rfl ob_0 (by decide) (by decide) fl_X9_29 rfl rfl dX9_gain_6 ?_
    refine ti_get (ci := 3) (k := 3) (N := 17) (T := TX3) C hw iw_3 rfl ob_27 (by decide) (by decide) fl_X9_179 rfl rfl dX9_gain_9 ?_
    refine lv_topi (fun x_2 ex_2 => ?_)
    have bx_2 : 0 ≤ x_2.toInt ∧ x_2.toInt ≤ 8 := cI_rd hI ob_27.1 ex_2
    have ux_2 : (tI M 27 3).toInt = x_2.toInt := by rw [ex_2]
    refine sb_icmp_ge (tgt := 24) hx hb rfl rfl dX9_gain_12 (by decide) (fun c_12_2 => ?_) (fun c_12_2 => ?_)
    · exact hj_24_6  _ _ _  hw (lv_sub hl [0, 1, 2] rfl)
    · refine lv_aload_n hx hb dX9_gain_15 rfl (lv_at hl 0 rfl) ?_
      refine lv_iload_n hx hb dX9_gain_16 rfl (lv_at hl 2 rfl) ?_
      refine lv_iconst (v := 1) hx hb dX9_gain_17 (by decide) ?_
      refine ti_callVi (ci := 9) (av := [.int z2, .int 1]) C hw (s_X9_isAhead l D A cy hJ M hI z2 1) ⟨ml_X9_247, ym_X9_isAhead, yv_X9_isAhead, yi_X9_isAhead, yc_X9_isAhead⟩ yd_X9_isAhead ob_0 (by decide) rfl rfl hl.1 (Nat.le_of_ble_eq_true rfl) ⟨by decide, by decide⟩ ⟨Nat.zero_le _, Nat.zero_le _⟩ dX9_gain_18 (fun r_4 M_5 H locs hp_5 hw => ?_)
      have hm := hp_5
      have hw := hw.to hm
      refine sb_if_ne (tgt := 26) hx hb rfl dX9_gain_21 (by decide) (fun c_21_5 => ?_) (fun c_21_5 => ?_)
      · refine lv_aload_n hx hb dX9_gain_26 rfl (lv_at hl 0 rfl) ?_
        refine ti_get (ci := 9) (k := 9) (N := 10) (T := TX9) (v := .ref (A 53 0)) C hw iw_9 rfl ob_0 (by decide) (by decide) fl_X9_61 rfl rfl dX9_gain_27 ?_
        refine lv_aload_n hx hb dX9_gain_30 rfl (lv_at hl 0 rfl) ?_
        refine ti_get (ci := 9) (k := 3) (N := 10) (T := TX9) (v := .ref (A 27 0)) C hw iw_9 rfl ob_0 (by decide) (by decide) fl_X9_29 rfl rfl dX9_gain_31 ?_
        refine lv_iload_n hx hb dX9_gain_34 rfl (lv_at hl 1 rfl) ?_
        refine lv_iload_n hx hb dX9_gain_35 rfl (lv_at hl 2 rfl) ?_
        refine ti_callVi (ci := 0) (av := [.ref (A 27 0), .int z1, .int z2]) C hw (f_X0_gainers l D A cy hJ M hI t ht (hT) z1 z2 (by first | omega | decide) (by first | omega | decide)) ⟨ml_X9_258, ym_X0_gainers, yv_X0_gainers, yi_X0_gainers, yc_X0_gainers⟩ yd_X0_gainers ob_53 (by decide) rfl rfl hl.1 (Nat.le_of_ble_eq_true rfl) ⟨by decide, by decide⟩ ⟨Nat.zero_le _, Nat.zero_le _⟩ dX9_gain_36 (fun r_7 M_8 H locs hp_8 hw => ?_)
        obtain ⟨frM_8, hqM_8⟩ := hp_8
        obtain ⟨iM_8, q_9, q_10⟩ := hqM_8
        exact hQ _ _ _ _ _ _ hw rfl (⟨frM_8, q_9, (cF_fr hF iM_8 q_9 q_10), ((q_10 1).2.1), (tl_x q_10 (q_9 0 1 (by decide)) (q_9 0 2 (by decide)))⟩) dX9_gain_39
      · exact hj_24_6  _ _ _  hw (lv_sub hl [0, 1, 2] rfl)
set_option maxHeartbeats 4000000 in
set_option maxRecDepth 100000 in
theorem f_X9_came (l : Launch) (D : va_G) (A : Nat → Nat → Nat) (cy : Nat → ClassId) (hJ : ti_inj ti_LT A) (M : ti_M) (hI : cI Tc M) (hF : cF Tc M) : ti_Ki l yX9_came cX9_came 1 (some .int) 7 ti_LT D A cy M [.ref (A 0 0)] (fun r M2 => fS M2 M ∧ rT M2 M ∧ cF Tc M2 ∧ tI M2 2 1 = tI M 2 1 ∧ tl M2 M) := by
  refine ti_eI yp_X9_came hJ ti_LT_nd (Nat.le_of_ble_eq_true rfl) ?_
  intro p e s m args below meth c Q H0 C hQ hw ls hl
  have hx := C.1
  have hb := C.2.1
  have hl : lv_has ls 1 [(0, .ref (A 0 0))] := hl
  obtain ⟨-, ⟨t1, ht1, hT1⟩, ⟨t2, ht2, hT2⟩, ⟨t, ht, hT⟩, hS, hM⟩ := id hF
  refine lv_aload_n hx hb dX9_came_0 rfl (lv_at hl 0 rfl) ?_
  refine ti_get (ci := 9) (k := 8) (N := 10) (T := TX9) (v := .ref (A 50 0)) C hw iw_9 rfl ob_0 (by decide) (by decide) fl_X9_54 rfl rfl dX9_came_1 ?_
  refine lv_aload_n hx hb dX9_came_4 rfl (lv_at hl 0 rfl) ?_
  refine ti_get (ci := 9) (k := 1) (N := 10) (T := TX9) (v := .ref (A t1 0)) C hw iw_9 rfl ob_0 (by decide) (by decide) fl_X9_19 rfl (ti_Tv (hT1)) dX9_came_5 ?_
  refine ti_callVv (ci := 6) (av := [.ref (A t1 0)]) C hw (f_X6_search l D A cy hJ M hI t1 ht1) ⟨ml_X9_272, ym_X6_search, yv_X6_search, yi_X6_search, yc_X6_search⟩ yd_X6_search ob_50 (by decide) rfl rfl hl.1 (Nat.le_of_ble_eq_true rfl) ⟨by decide, by decide⟩ ⟨Nat.zero_le _, Nat.zero_le _⟩ dX9_came_8 (fun M_2 H locs hp_2 hw => ?_)
  obtain ⟨frM_2, hqM_2⟩ := hp_2
  obtain ⟨iM_2, q_3, q_4⟩ := hqM_2
  refine lv_aload_n hx hb dX9_came_11 rfl (lv_at hl 0 rfl) ?_
  refine ti_get (ci := 9) (k := 8) (N := 10) (T := TX9) (v := .ref (A 50 0)) C hw iw_9 rfl ob_0 (by decide) (by decide) fl_X9_54 rfl rfl dX9_came_12 ?_
  refine ti_get (ci := 6) (k := 10) (N := 13) (T := TX6) C hw iw_6 rfl ob_50 (by decide) (by decide) fl_X9_275 rfl rfl dX9_came_15 ?_
  refine lv_topi (fun x_5 ex_5 => ?_)
  have bx_5 : 0 ≤ x_5.toInt ∧ x_5.toInt ≤ 480 := cI_rd iM_2 ob_50.1 ex_5
  have ux_5 : (tI M_2 50 10).toInt = x_5.toInt := by rw [ex_5]
  exact hQ _ _ _ _ _ _ hw rfl (⟨frM_2, q_3, (cF_fr hF iM_2 q_3 q_4), ((q_4 1).2.1), (tl_x q_4 (q_3 0 1 (by decide)) (q_3 0 2 (by decide)))⟩) dX9_came_18
set_option maxHeartbeats 4000000 in
set_option maxRecDepth 100000 in
theorem f_X9_one (l : Launch) (D : va_G) (A : Nat → Nat → Nat) (cy : Nat → ClassId) (hJ : ti_inj ti_LT A) (M : ti_M) (hI : cI Tc M) (hF : cF Tc M) (z1 : Int32) (z2 : Int32) : ti_Ki l yX9_one cX9_one 3 (some .int) 7 ti_LT D A cy M [.ref (A 0 0), .int z1, .int z2] (fun r M2 => fS M2 M ∧ rT M2 M ∧ cF Tc M2 ∧ tI M2 2 1 = tI M 2 1 ∧ tl M2 M) := by
  refine ti_eI yp_X9_one hJ ti_LT_nd (Nat.le_of_ble_eq_true rfl) ?_
  intro p e s m args below meth c Q H0 C hQ hw ls hl
  have hx := C.1
  have hb := C.2.1
  have hl : lv_has ls 3 [(0, .ref (A 0 0)), (1, .int z1), (2, .int z2)] := hl
  obtain ⟨-, ⟨t1, ht1, hT1⟩, ⟨t2, ht2, hT2⟩, ⟨t, ht, hT⟩, hS, hM⟩ := id hF
  refine lv_iload_n hx hb dX9_one_0 rfl (lv_at hl 1 rfl) ?_
  have hj_12_4 : ∀  (H : Heap) (locs : List Loc) (ls : Array Slot), ti_H ti_LT D A cy H0 M H locs → lv_has ls 3 [(0, .ref (A 0 0)), (1, .int z1), (2, .int z2)] → W p l e (ti_rm 7) s m args below meth c H locs 0 0 Q (F0 m 12 ls []) := by
    intro  H locs ls  hw hl
    refine lv_iconst (v := (-1)) hx hb dX9_one_12 (by decide) ?_
    exact hQ _ _ _ _ _ _ hw rfl (⟨fS.refl, rT.refl, hF, rfl, tl.refl⟩) dX9_one_13
  refine sb_if_lt (tgt := 12) hx hb rfl dX9_one_1 (by decide) (fun c_1_0 => ?_) (fun c_1_0 => ?_)
  · exact hj_12_4  _ _ _  hw (lv_sub hl [0, 1, 2] rfl)
  · refine lv_aload_n hx hb dX9_one_4 rfl (lv_at hl 0 rfl) ?_
    refine lv_iload_n hx hb dX9_one_5 rfl (lv_at hl 2 rfl) ?_
    refine ti_callVi (ci := 9) (av := [.int z2]) C hw (s_X9_isZeroOrOne l D A cy hJ M hI z2) ⟨ml_X9_223, ym_X9_isZeroOrOne, yv_X9_isZeroOrOne, yi_X9_isZeroOrOne, yc_X9_isZeroOrOne⟩ yd_X9_isZeroOrOne ob_0 (by decide) rfl rfl hl.1 (Nat.le_of_ble_eq_true rfl) ⟨by decide, by decide⟩ ⟨Nat.zero_le _, Nat.zero_le _⟩ dX9_one_6 (fun r_2 M_3 H locs hp_3 hw => ?_)
    have hm := hp_3
    have hw := hw.to hm
    refine sb_if_ne (tgt := 14) hx hb rfl dX9_one_9 (by decide) (fun c_9_3 => ?_) (fun c_9_3 => ?_)
    · refine lv_aload_n hx hb dX9_one_14 rfl (lv_at hl 0 rfl) ?_
      refine ti_get (ci := 9) (k := 8) (N := 10) (T := TX9) (v := .ref (A 50 0)) C hw iw_9 rfl ob_0 (by decide) (by decide) fl_X9_54 rfl rfl dX9_one_15 ?_
      refine lv_aload_n hx hb dX9_one_18 rfl (lv_at hl 0 rfl) ?_
      refine ti_get (ci := 9) (k := 1) (N := 10) (T := TX9) (v := .ref (A t1 0)) C hw iw_9 rfl ob_0 (by decide) (by decide) fl_X9_19 rfl (ti_Tv (hT1)) dX9_one_19 ?_
      refine ti_callVv (ci := 6) (av := [.ref (A t1 0)]) C hw (f_X6_search l D A cy hJ M hI t1 ht1) ⟨ml_X9_272, ym_X6_search, yv_X6_search, yi_X6_search, yc_X6_search⟩ yd_X6_search ob_50 (by decide) rfl rfl hl.1 (Nat.le_of_ble_eq_true rfl) ⟨by decide, by decide⟩ ⟨Nat.zero_le _, Nat.zero_le _⟩ dX9_one_22 (fun M_6 H locs hp_6 hw => ?_)
      obtain ⟨frM_6, hqM_6⟩ := hp_6
      obtain ⟨iM_6, q_7, q_8⟩ := hqM_6
      refine lv_iload_n hx hb dX9_one_25 rfl (lv_at hl 1 rfl) ?_
      refine lv_aload_n hx hb dX9_one_26 rfl (lv_at hl 0 rfl) ?_
      refine ti_get (ci := 9) (k := 8) (N := 10) (T := TX9) (v := .ref (A 50 0)) C hw iw_9 rfl ob_0 (by decide) (by decide) fl_X9_54 rfl rfl dX9_one_27 ?_
      refine ti_get (ci := 6) (k := 10) (N := 13) (T := TX6) C hw iw_6 rfl ob_50 (by decide) (by decide) fl_X9_275 rfl rfl dX9_one_30 ?_
      refine lv_topi (fun x_9 ex_9 => ?_)
      have bx_9 : 0 ≤ x_9.toInt ∧ x_9.toInt ≤ 480 := cI_rd iM_6 ob_50.1 ex_9
      have ux_9 : (tI M_6 50 10).toInt = x_9.toInt := by rw [ex_9]
      refine sb_icmp_lt (tgt := 39) hx hb rfl rfl dX9_one_33 (by decide) (fun c_33_9 => ?_) (fun c_33_9 => ?_)
      · refine lv_iload_n hx hb dX9_one_39 rfl (lv_at hl 2 rfl) ?_
        refine sb_if_ne (tgt := 55) hx hb rfl dX9_one_40 (by decide) (fun c_40_10 => ?_) (fun c_40_10 => ?_)
        · refine lv_aload_n hx hb dX9_one_55 rfl (lv_at hl 0 rfl) ?_
          refine ti_get (ci := 9) (k := 8) (N := 10) (T := TX9) (v := .ref (A 50 0)) C hw iw_9 rfl ob_0 (by decide) (by decide) fl_X9_54 rfl rfl dX9_one_56 ?_
          refine ti_get (ci := 6) (k := 9) (N := 13) (T := TX6) (v := .ref (A 50 10)) C hw iw_6 rfl ob_50 (by decide) (by decide) fl_X9_281 rfl rfl dX9_one_59 ?_
          refine lv_iload_n hx hb dX9_one_62 rfl (lv_at hl 1 rfl) ?_
          refine ti_iald (ci := 6) (k := 9) (n := 480) C hw ob_50 (by decide) (fun _ _ => rfl) (vp_in_iff.mpr (by omega)) dX9_one_63 ?_
          refine lv_topi (fun x_13 ex_13 => ?_)
          exact hQ _ _ _ _ _ _ hw rfl (⟨frM_6, q_7, (cF_fr hF iM_6 q_7 q_8), ((q_8 1).2.1), (tl_x q_8 (q_7 0 1 (by decide)) (q_7 0 2 (by decide)))⟩) dX9_one_64
        · refine lv_aload_n hx hb dX9_one_43 rfl (lv_at hl 0 rfl) ?_
          refine ti_get (ci := 9) (k := 8) (N := 10) (T := TX9) (v := .ref (A 50 0)) C hw iw_9 rfl ob_0 (by decide) (by decide) fl_X9_54 rfl rfl dX9_one_44 ?_
          refine ti_get (ci := 6) (k := 8) (N := 13) (T := TX6) (v := .ref (A 50 9)) C hw iw_6 rfl ob_50 (by decide) (by decide) fl_X9_278 rfl rfl dX9_one_47 ?_
          refine lv_iload_n hx hb dX9_one_50 rfl (lv_at hl 1 rfl) ?_
          refine ti_iald (ci := 6) (k := 8) (n := 480) C hw ob_50 (by decide) (fun _ _ => rfl) (vp_in_iff.mpr (by omega)) dX9_one_51 ?_
          refine lv_topi (fun x_12 ex_12 => ?_)
          refine lv_goto (tgt := 64) hx hb dX9_one_52 (by decide) ?_
          exact hQ _ _ _ _ _ _ hw rfl (⟨frM_6, q_7, (cF_fr hF iM_6 q_7 q_8), ((q_8 1).2.1), (tl_x q_8 (q_7 0 1 (by decide)) (q_7 0 2 (by decide)))⟩) dX9_one_64
      · refine lv_bipush (v := (-2)) hx hb dX9_one_36 (by decide) ?_
        exact hQ _ _ _ _ _ _ hw rfl (⟨frM_6, q_7, (cF_fr hF iM_6 q_7 q_8), ((q_8 1).2.1), (tl_x q_8 (q_7 0 1 (by decide)) (q_7 0 2 (by decide)))⟩) dX9_one_38
    · exact hj_12_4  _ _ _  hw (lv_sub hl [0, 1, 2] rfl)
set_option maxHeartbeats 4000000 in
set_option maxRecDepth 100000 in
theorem f_X9_empty (l : Launch) (D : va_G) (A : Nat → Nat → Nat) (cy : Nat → ClassId) (hJ : ti_inj ti_LT A) (M : ti_M) (hI : cI Tc M) (hF : cF Tc M) (z1 : Int32) (z2 : Int32) : ti_Ki l yX9_empty cX9_empty 3 (some .int) 6 ti_LT D A cy M [.ref (A 0 0), .int z1, .int z2] (fun r M2 => fS M2 M ∧ rT M2 M ∧ cF Tc M2 ∧ tI M2 2 1 = tI M 2 1 ∧ tl M2 M) := by
  refine ti_eI yp_X9_empty hJ ti_LT_nd (Nat.le_of_ble_eq_true rfl) ?_
  intro p e s m args below meth c Q H0 C hQ hw ls hl
  have hx := C.1
  have hb := C.2.1
  have hl : lv_has ls 3 [(0, .ref (A 0 0)), (1, .int z1), (2, .int z2)] := hl
  obtain ⟨-, ⟨t1, ht1, hT1⟩, ⟨t2, ht2, hT2⟩, ⟨t, ht, hT⟩, hS, hM⟩ := id hF
  refine lv_aload_n hx hb dX9_empty_0 rfl (lv_at hl 0 rfl) ?_
  refine lv_iload_n hx hb dX9_empty_1 rfl (lv_at hl 1 rfl) ?_
  refine lv_iconst (v := 1) hx hb dX9_empty_2 (by decide) ?_
  refine ti_callVi (ci := 9) (av := [.int z1, .int 1]) C hw (s_X9_isAhead l D A cy hJ M hI z1 1) ⟨ml_X9_247, ym_X9_isAhead, yv_X9_isAhead, yi_X9_isAhead, yc_X9_isAhead⟩ yd_X9_isAhead ob_0 (by decide) rfl rfl hl.1 (Nat.le_of_ble_eq_true rfl) ⟨by decide, by decide⟩ ⟨Nat.zero_le _, Nat.zero_le _⟩ dX9_empty_3 (fun r_1 M_2 H locs hp_2 hw => ?_)
  have hm := hp_2
  have hw := hw.to hm
  have hj_17_6 : ∀  (H : Heap) (locs : List Loc) (ls : Array Slot), ti_H ti_LT D A cy H0 M H locs → lv_has ls 3 [(0, .ref (A 0 0)), (1, .int z1), (2, .int z2)] → W p l e (ti_rm 6) s m args below meth c H locs 0 0 Q (F0 m 17 ls []) := by
    intro  H locs ls  hw hl
    refine lv_iconst (v := (-1)) hx hb dX9_empty_17 (by decide) ?_
    exact hQ _ _ _ _ _ _ hw rfl (⟨fS.refl, rT.refl, hF, rfl, tl.refl⟩) dX9_empty_18
  refine sb_if_eq (tgt := 17) hx hb rfl dX9_empty_6 (by decide) (fun c_6_2 => ?_) (fun c_6_2 => ?_)
  · exact hj_17_6  _ _ _  hw (lv_sub hl [0, 1, 2] rfl)
  · refine lv_aload_n hx hb dX9_empty_9 rfl (lv_at hl 0 rfl) ?_
    refine lv_iload_n hx hb dX9_empty_10 rfl (lv_at hl 2 rfl) ?_
    refine ti_callVi (ci := 9) (av := [.int z2]) C hw (s_X9_isZeroOrOne l D A cy hJ M hI z2) ⟨ml_X9_223, ym_X9_isZeroOrOne, yv_X9_isZeroOrOne, yi_X9_isZeroOrOne, yc_X9_isZeroOrOne⟩ yd_X9_isZeroOrOne ob_0 (by decide) rfl rfl hl.1 (Nat.le_of_ble_eq_true rfl) ⟨by decide, by decide⟩ ⟨Nat.zero_le _, Nat.zero_le _⟩ dX9_empty_11 (fun r_4 M_5 H locs hp_5 hw => ?_)
    have hm := hp_5
    have hw := hw.to hm
    refine sb_if_ne (tgt := 19) hx hb rfl dX9_empty_14 (by decide) (fun c_14_5 => ?_) (fun c_14_5 => ?_)
    · refine lv_aload_n hx hb dX9_empty_19 rfl (lv_at hl 0 rfl) ?_
      refine ti_get (ci := 9) (k := 9) (N := 10) (T := TX9) (v := .ref (A 53 0)) C hw iw_9 rfl ob_0 (by decide) (by decide) fl_X9_61 rfl rfl dX9_empty_20 ?_
      refine lv_aload_n hx hb dX9_empty_23 rfl (lv_at hl 0 rfl) ?_
      refine ti_get (ci := 9) (k := 3) (N := 10) (T := TX9) (v := .ref (A 27 0)) C hw iw_9 rfl ob_0 (by decide) (by decide) fl_X9_29 rfl rfl dX9_empty_24 ?_
      refine lv_iload_n hx hb dX9_empty_27 rfl (lv_at hl 1 rfl) ?_
      refine lv_iload_n hx hb dX9_empty_28 rfl (lv_at hl 2 rfl) ?_
      refine ti_callVi (ci := 0) (av := [.ref (A 27 0), .int z1, .int z2]) C hw (f_X0_emptyMinutes l D A cy hJ M hI t ht (hT) z1 z2) ⟨ml_X9_284, ym_X0_emptyMinutes, yv_X0_emptyMinutes, yi_X0_emptyMinutes, yc_X0_emptyMinutes⟩ yd_X0_emptyMinutes ob_53 (by decide) rfl rfl hl.1 (Nat.le_of_ble_eq_true rfl) ⟨by decide, by decide⟩ ⟨Nat.zero_le _, Nat.zero_le _⟩ dX9_empty_29 (fun r_7 M_8 H locs hp_8 hw => ?_)
      obtain ⟨frM_8, hqM_8⟩ := hp_8
      obtain ⟨iM_8, q_9, q_10⟩ := hqM_8
      exact hQ _ _ _ _ _ _ hw rfl (⟨frM_8, q_9, (cF_fr hF iM_8 q_9 q_10), ((q_10 1).2.1), (tl_x q_10 (q_9 0 1 (by decide)) (q_9 0 2 (by decide)))⟩) dX9_empty_32
    · exact hj_17_6  _ _ _  hw (lv_sub hl [0, 1, 2] rfl)
set_option maxHeartbeats 4000000 in
set_option maxRecDepth 100000 in
theorem f_X9_chance (l : Launch) (D : va_G) (A : Nat → Nat → Nat) (cy : Nat → ClassId) (hJ : ti_inj ti_LT A) (M : ti_M) (hI : cI Tc M) (hF : cF Tc M) (z1 : Int32) (z2 : Int32) (z3 : Int32) : ti_Ki l yX9_chance cX9_chance 4 (some .int) 7 ti_LT D A cy M [.ref (A 0 0), .int z1, .int z2, .int z3] (fun r M2 => fS M2 M ∧ rT M2 M ∧ cF Tc M2 ∧ tI M2 2 1 = tI M 2 1 ∧ tl M2 M) := by
  refine ti_eI yp_X9_chance hJ ti_LT_nd (Nat.le_of_ble_eq_true rfl) ?_
  intro p e s m args below meth c Q H0 C hQ hw ls hl
  have hx := C.1
  have hb := C.2.1
  have hl : lv_has ls 4 [(0, .ref (A 0 0)), (1, .int z1), (2, .int z2), (3, .int z3)] := hl
  obtain ⟨-, ⟨t1, ht1, hT1⟩, ⟨t2, ht2, hT2⟩, ⟨t, ht, hT⟩, hS, hM⟩ := id hF
  refine lv_iload_n hx hb dX9_chance_0 rfl (lv_at hl 1 rfl) ?_
  have hj_21_9 : ∀  (H : Heap) (locs : List Loc) (ls : Array Slot), ti_H ti_LT D A cy H0 M H locs → lv_has ls 4 [(0, .ref (A 0 0)), (1, .int z1), (2, .int z2), (3, .int z3)] → W p l e (ti_rm 7) s m args below meth c H locs 0 0 Q (F0 m 21 ls []) := by
    intro  H locs ls  hw hl
    refine lv_iconst (v := (-1)) hx hb dX9_chance_21 (by decide) ?_
    exact hQ _ _ _ _ _ _ hw rfl (⟨fS.refl, rT.refl, hF, rfl, tl.refl⟩) dX9_chance_22
  refine sb_if_lt (tgt := 21) hx hb rfl dX9_chance_1 (by decide) (fun c_1_0 => ?_) (fun c_1_0 => ?_)
  · exact hj_21_9  _ _ _  hw (lv_sub hl [0, 1, 2, 3] rfl)
  · refine lv_aload_n hx hb dX9_chance_4 rfl (lv_at hl 0 rfl) ?_
    refine lv_iload_n hx hb dX9_chance_5 rfl (lv_at hl 2 rfl) ?_
    refine ti_callVi (ci := 9) (av := [.int z2]) C hw (s_X9_isMan l D A cy hJ M hI t1 ht1 (hT1) z2) ⟨ml_X9_104, ym_X9_isMan, yv_X9_isMan, yi_X9_isMan, yc_X9_isMan⟩ yd_X9_isMan ob_0 (by decide) rfl rfl hl.1 (Nat.le_of_ble_eq_true rfl) ⟨by decide, by decide⟩ ⟨Nat.zero_le _, Nat.zero_le _⟩ dX9_chance_6 (fun r_2 M_3 H locs hp_3 hw => ?_)
    obtain ⟨hm, hz⟩ := hp_3
    have hw := hw.to hm
    rcases hz with ⟨rfl, d1_4, d2_4⟩ | rfl
    · refine sb_if_eq (tgt := 21) hx hb (by decide : (1 : Int32).toInt = 1) dX9_chance_9 (by decide) (fun h => absurd h (by decide)) (fun c_9_4 => ?_)
      refine lv_aload_n hx hb dX9_chance_12 rfl (lv_at hl 0 rfl) ?_
      refine lv_iload_n hx hb dX9_chance_13 rfl (lv_at hl 3 rfl) ?_
      refine lv_iconst (v := 1) hx hb dX9_chance_14 (by decide) ?_
      refine ti_callVi (ci := 9) (av := [.int z3, .int 1]) C hw (s_X9_isAhead l D A cy hJ M hI z3 1) ⟨ml_X9_247, ym_X9_isAhead, yv_X9_isAhead, yi_X9_isAhead, yc_X9_isAhead⟩ yd_X9_isAhead ob_0 (by decide) rfl rfl hl.1 (Nat.le_of_ble_eq_true rfl) ⟨by decide, by decide⟩ ⟨Nat.zero_le _, Nat.zero_le _⟩ dX9_chance_15 (fun r_7 M_8 H locs hp_8 hw => ?_)
      have hm := hp_8
      have hw := hw.to hm
      refine sb_if_ne (tgt := 23) hx hb rfl dX9_chance_18 (by decide) (fun c_18_8 => ?_) (fun c_18_8 => ?_)
      · refine lv_aload_n hx hb dX9_chance_23 rfl (lv_at hl 0 rfl) ?_
        refine ti_get (ci := 9) (k := 9) (N := 10) (T := TX9) (v := .ref (A 53 0)) C hw iw_9 rfl ob_0 (by decide) (by decide) fl_X9_61 rfl rfl dX9_chance_24 ?_
        refine lv_aload_n hx hb dX9_chance_27 rfl (lv_at hl 0 rfl) ?_
        refine ti_get (ci := 9) (k := 3) (N := 10) (T := TX9) (v := .ref (A 27 0)) C hw iw_9 rfl ob_0 (by decide) (by decide) fl_X9_29 rfl rfl dX9_chance_28 ?_
        refine lv_iload_n hx hb dX9_chance_31 rfl (lv_at hl 1 rfl) ?_
        refine lv_iload_n hx hb dX9_chance_32 rfl (lv_at hl 2 rfl) ?_
        refine lv_iload_n hx hb dX9_chance_33 rfl (lv_at hl 3 rfl) ?_
        refine ti_callVi (ci := 0) (av := [.ref (A 27 0), .int z1, .int z2, .int z3]) C hw (f_X0_timesServed l D A cy hJ M hI t ht (hT) z1 z2 z3 (by first | omega | decide) (by first | omega | decide)) ⟨ml_X9_287, ym_X0_timesServed, yv_X0_timesServed, yi_X0_timesServed, yc_X0_timesServed⟩ yd_X0_timesServed ob_53 (by decide) rfl rfl hl.1 (Nat.le_of_ble_eq_true rfl) ⟨by decide, by decide⟩ ⟨Nat.zero_le _, Nat.zero_le _⟩ dX9_chance_34 (fun r_10 M_11 H locs hp_11 hw => ?_)
        obtain ⟨frM_11, hqM_11⟩ := hp_11
        obtain ⟨iM_11, q_12, q_13⟩ := hqM_11
        exact hQ _ _ _ _ _ _ hw rfl (⟨frM_11, q_12, (cF_fr hF iM_11 q_12 q_13), ((q_13 1).2.1), (tl_x q_13 (q_12 0 1 (by decide)) (q_12 0 2 (by decide)))⟩) dX9_chance_37
      · exact hj_21_9  _ _ _  hw (lv_sub hl [0, 1, 2, 3] rfl)
    · refine sb_if_eq (tgt := 21) hx hb (by decide : (0 : Int32).toInt = 0) dX9_chance_9 (by decide) (fun c_9_5 => ?_) (fun h => absurd h (by decide))
      exact hj_21_9  _ _ _  hw (lv_sub hl [0, 1, 2, 3] rfl)
set_option maxHeartbeats 4000000 in
set_option maxRecDepth 100000 in
theorem f_X9_tried (l : Launch) (D : va_G) (A : Nat → Nat → Nat) (cy : Nat → ClassId) (hJ : ti_inj ti_LT A) (M : ti_M) (hI : cI Tc M) (hF : cF Tc M) (z1 : Int32) (z2 : Int32) (z3 : Int32) : ti_Ki l yX9_tried cX9_tried 4 (some .int) 7 ti_LT D A cy M [.ref (A 0 0), .int z1, .int z2, .int z3] (fun r M2 => fS M2 M ∧ rT M2 M ∧ cF Tc M2 ∧ tI M2 2 1 = tI M 2 1 ∧ tl M2 M) := by
  refine ti_eI yp_X9_tried hJ ti_LT_nd (Nat.le_of_ble_eq_true rfl) ?_
  intro p e s m args below meth c Q H0 C hQ hw ls hl
  have hx := C.1
  have hb := C.2.1
  have hl : lv_has ls 4 [(0, .ref (A 0 0)), (1, .int z1), (2, .int z2), (3, .int z3)] := hl
  obtain ⟨-, ⟨t1, ht1, hT1⟩, ⟨t2, ht2, hT2⟩, ⟨t, ht, hT⟩, hS, hM⟩ := id hF
  refine lv_iload_n hx hb dX9_tried_0 rfl (lv_at hl 1 rfl) ?_
  have hj_18_5 : ∀  (H : Heap) (locs : List Loc) (ls : Array Slot), ti_H ti_LT D A cy H0 M H locs → lv_has ls 4 [(0, .ref (A 0 0)), (1, .int z1), (2, .int z2), (3, .int z3)] → W p l e (ti_rm 7) s m args below meth c H locs 0 0 Q (F0 m 18 ls []) := by
    intro  H locs ls  hw hl
    refine lv_iconst (v := (-1)) hx hb dX9_tried_18 (by decide) ?_
    exact hQ _ _ _ _ _ _ hw rfl (⟨fS.refl, rT.refl, hF, rfl, tl.refl⟩) dX9_tried_19
  refine sb_if_lt (tgt := 18) hx hb rfl dX9_tried_1 (by decide) (fun c_1_0 => ?_) (fun c_1_0 => ?_)
  · exact hj_18_5  _ _ _  hw (lv_sub hl [0, 1, 2, 3] rfl)
  · refine lv_iload_n hx hb dX9_tried_4 rfl (lv_at hl 1 rfl) ?_
    refine lv_iconst (v := 5) hx hb dX9_tried_5 (by decide) ?_
    refine sb_icmp_gt (tgt := 18) hx hb rfl (by decide : (5 : Int32).toInt = 5) dX9_tried_6 (by decide) (fun c_6_1 => ?_) (fun c_6_1 => ?_)
    · exact hj_18_5  _ _ _  hw (lv_sub hl [0, 1, 2, 3] rfl)
    · refine lv_aload_n hx hb dX9_tried_9 rfl (lv_at hl 0 rfl) ?_
      refine lv_iload_n hx hb dX9_tried_10 rfl (lv_at hl 3 rfl) ?_
      refine lv_iconst (v := 0) hx hb dX9_tried_11 (by decide) ?_
      refine ti_callVi (ci := 9) (av := [.int z3, .int 0]) C hw (s_X9_isAhead l D A cy hJ M hI z3 0) ⟨ml_X9_247, ym_X9_isAhead, yv_X9_isAhead, yi_X9_isAhead, yc_X9_isAhead⟩ yd_X9_isAhead ob_0 (by decide) rfl rfl hl.1 (Nat.le_of_ble_eq_true rfl) ⟨by decide, by decide⟩ ⟨Nat.zero_le _, Nat.zero_le _⟩ dX9_tried_12 (fun r_3 M_4 H locs hp_4 hw => ?_)
      have hm := hp_4
      have hw := hw.to hm
      refine sb_if_ne (tgt := 20) hx hb rfl dX9_tried_15 (by decide) (fun c_15_4 => ?_) (fun c_15_4 => ?_)
      · refine lv_iload_n hx hb dX9_tried_20 rfl (lv_at hl 1 rfl) ?_
        refine lv_iconst (v := 2) hx hb dX9_tried_21 (by decide) ?_
        have hj_42_14 : ∀  (H : Heap) (locs : List Loc) (ls : Array Slot), (0 ≤ z2.toInt) → (z2.toInt ≤ 7) → ti_H ti_LT D A cy H0 M H locs → lv_has ls 4 [(0, .ref (A 0 0)), (1, .int z1), (2, .int z2), (3, .int z3)] → W p l e (ti_rm 7) s m args below meth c H locs 0 0 Q (F0 m 42 ls []) := by
          intro  H locs ls j_13 j_14 hw hl
          refine lv_aload_n hx hb dX9_tried_42 rfl (lv_at hl 0 rfl) ?_
          refine ti_get (ci := 9) (k := 9) (N := 10) (T := TX9) (v := .ref (A 53 0)) C hw iw_9 rfl ob_0 (by decide) (by decide) fl_X9_61 rfl rfl dX9_tried_43 ?_
          refine lv_aload_n hx hb dX9_tried_46 rfl (lv_at hl 0 rfl) ?_
          refine ti_get (ci := 9) (k := 3) (N := 10) (T := TX9) (v := .ref (A 27 0)) C hw iw_9 rfl ob_0 (by decide) (by decide) fl_X9_29 rfl rfl dX9_tried_47 ?_
          refine lv_iload_n hx hb dX9_tried_50 rfl (lv_at hl 1 rfl) ?_
          refine lv_iload_n hx hb dX9_tried_51 rfl (lv_at hl 2 rfl) ?_
          refine lv_iload_n hx hb dX9_tried_52 rfl (lv_at hl 3 rfl) ?_
          refine ti_callVi (ci := 0) (av := [.ref (A 27 0), .int z1, .int z2, .int z3]) C hw (f_X0_servedOtherwise l D A cy hJ M hI t ht (hT) z1 z2 z3 (by first | omega | decide) (by first | omega | decide)) ⟨ml_X9_290, ym_X0_servedOtherwise, yv_X0_servedOtherwise, yi_X0_servedOtherwise, yc_X0_servedOtherwise⟩ yd_X0_servedOtherwise ob_53 (by decide) rfl rfl hl.1 (Nat.le_of_ble_eq_true rfl) ⟨by decide, by decide⟩ ⟨Nat.zero_le _, Nat.zero_le _⟩ dX9_tried_53 (fun r_15 M_16 H locs hp_16 hw => ?_)
          obtain ⟨frM_16, hqM_16⟩ := hp_16
          obtain ⟨iM_16, q_17, q_18⟩ := hqM_16
          exact hQ _ _ _ _ _ _ hw rfl (⟨frM_16, q_17, (cF_fr hF iM_16 q_17 q_18), ((q_18 1).2.1), (tl_x q_18 (q_17 0 1 (by decide)) (q_17 0 2 (by decide)))⟩) dX9_tried_56
        have hj_40_12 : ∀  (H : Heap) (locs : List Loc) (ls : Array Slot), ti_H ti_LT D A cy H0 M H locs → lv_has ls 4 [(0, .ref (A 0 0)), (1, .int z1), (2, .int z2), (3, .int z3)] → W p l e (ti_rm 7) s m args below meth c H locs 0 0 Q (F0 m 40 ls []) := by
          intro  H locs ls  hw hl
          refine lv_iconst (v := (-1)) hx hb dX9_tried_40 (by decide) ?_
          exact hQ _ _ _ _ _ _ hw rfl (⟨fS.refl, rT.refl, hF, rfl, tl.refl⟩) dX9_tried_41
        refine sb_icmp_ne (tgt := 36) hx hb rfl (by decide : (2 : Int32).toInt = 2) dX9_tried_22 (by decide) (fun c_22_5 => ?_) (fun c_22_5 => ?_)
        · refine lv_iload_n hx hb dX9_tried_36 rfl (lv_at hl 2 rfl) ?_
          refine sb_if_eq (tgt := 42) hx hb rfl dX9_tried_37 (by decide) (fun c_37_11 => ?_) (fun c_37_11 => ?_)
          · exact hj_42_14  _ _ _ (by first | omega | decide) (by first | omega | decide) hw (lv_sub hl [0, 1, 2, 3] rfl)
          · exact hj_40_12  _ _ _  hw (lv_sub hl [0, 1, 2, 3] rfl)
        · refine lv_aload_n hx hb dX9_tried_25 rfl (lv_at hl 0 rfl) ?_
          refine lv_iload_n hx hb dX9_tried_26 rfl (lv_at hl 2 rfl) ?_
          refine ti_callVi (ci := 9) (av := [.int z2]) C hw (s_X9_isMan l D A cy hJ M hI t1 ht1 (hT1) z2) ⟨ml_X9_104, ym_X9_isMan, yv_X9_isMan, yi_X9_isMan, yc_X9_isMan⟩ yd_X9_isMan ob_0 (by decide) rfl rfl hl.1 (Nat.le_of_ble_eq_true rfl) ⟨by decide, by decide⟩ ⟨Nat.zero_le _, Nat.zero_le _⟩ dX9_tried_27 (fun r_7 M_8 H locs hp_8 hw => ?_)
          obtain ⟨hm, hz⟩ := hp_8
          have hw := hw.to hm
          rcases hz with ⟨rfl, d1_9, d2_9⟩ | rfl
          · refine sb_if_ne (tgt := 42) hx hb (by decide : (1 : Int32).toInt = 1) dX9_tried_30 (by decide) (fun c_30_9 => ?_) (fun h => absurd h (by decide))
            exact hj_42_14  _ _ _ (by first | omega | decide) (by first | omega | decide) hw (lv_sub hl [0, 1, 2, 3] rfl)
          · refine sb_if_ne (tgt := 42) hx hb (by decide : (0 : Int32).toInt = 0) dX9_tried_30 (by decide) (fun h => absurd h (by decide)) (fun c_30_10 => ?_)
            refine lv_goto (tgt := 40) hx hb dX9_tried_33 (by decide) ?_
            exact hj_40_12  _ _ _  hw (lv_sub hl [0, 1, 2, 3] rfl)
      · exact hj_18_5  _ _ _  hw (lv_sub hl [0, 1, 2, 3] rfl)
set_option maxHeartbeats 4000000 in
set_option maxRecDepth 100000 in
theorem f_X9_count (l : Launch) (D : va_G) (A : Nat → Nat → Nat) (cy : Nat → ClassId) (hJ : ti_inj ti_LT A) (M : ti_M) (hI : cI Tc M) (hF : cF Tc M) (za : Int32) : ti_Ki l yX9_count cX9_count 2 (some .int) 2 ti_LT D A cy M [.ref (A 0 0), .int za] (fun r M2 => fS M2 M ∧ rT M2 M ∧ cF Tc M2 ∧ tI M2 2 1 = tI M 2 1 ∧ tl M2 M) := by
  refine ti_eI yp_X9_count hJ ti_LT_nd (Nat.le_of_ble_eq_true rfl) ?_
  intro p e s m args below meth c Q H0 C hQ hw ls hl
  have hx := C.1
  have hb := C.2.1
  have hl : lv_has ls 2 [(0, .ref (A 0 0)), (1, .int za)] := hl
  obtain ⟨-, ⟨t1, ht1, hT1⟩, ⟨t2, ht2, hT2⟩, ⟨t, ht, hT⟩, hS, hM⟩ := id hF
  refine lv_iload_n hx hb dX9_count_0 rfl (lv_at hl 1 rfl) ?_
  by_cases s_1_0 : za = 0
  · refine lv_tableIn (tgt := 76) (off := 75) hx hb dX9_count_1 (by rw [s_1_0]; decide) (by rw [s_1_0]; decide) (by rw [s_1_0]; decide) (by decide) ?_
    refine lv_aload_n hx hb dX9_count_76 rfl (lv_at hl 0 rfl) ?_
    refine ti_get (ci := 9) (k := 1) (N := 10) (T := TX9) (v := .ref (A t1 0)) C hw iw_9 rfl ob_0 (by decide) (by decide) fl_X9_19 rfl (ti_Tv (hT1)) dX9_count_77 ?_
    refine ti_get (ci := 8) (k := 4) (N := 12) (T := TX8) C hw iw_8 rfl (ob_t ht1) (by decide) (by decide) fl_X9_301 rfl rfl dX9_count_80 ?_
    refine lv_topi (fun x_2 ex_2 => ?_)
    have bx_2 : 0 ≤ x_2.toInt ∧ x_2.toInt ≤ 8 := cI_rd hI (ob_t ht1).1 ex_2
    have ux_2 : (tI M t1 4).toInt = x_2.toInt := by rw [ex_2]
    exact hQ _ _ _ _ _ _ hw rfl (⟨fS.refl, rT.refl, hF, rfl, tl.refl⟩) dX9_count_83
  · by_cases s_1_1 : za = 1
    · refine lv_tableIn (tgt := 84) (off := 83) hx hb dX9_count_1 (by rw [s_1_1]; decide) (by rw [s_1_1]; decide) (by rw [s_1_1]; decide) (by decide) ?_
      refine lv_aload_n hx hb dX9_count_84 rfl (lv_at hl 0 rfl) ?_
      refine ti_get (ci := 9) (k := 1) (N := 10) (T := TX9) (v := .ref (A t1 0)) C hw iw_9 rfl ob_0 (by decide) (by decide) fl_X9_19 rfl (ti_Tv (hT1)) dX9_count_85 ?_
      refine ti_get (ci := 8) (k := 5) (N := 12) (T := TX8) C hw iw_8 rfl (ob_t ht1) (by decide) (by decide) fl_X9_304 rfl rfl dX9_count_88 ?_
      refine lv_topi (fun x_3 ex_3 => ?_)
      exact hQ _ _ _ _ _ _ hw rfl (⟨fS.refl, rT.refl, hF, rfl, tl.refl⟩) dX9_count_91
    · by_cases s_1_2 : za = 2
      · refine lv_tableIn (tgt := 92) (off := 91) hx hb dX9_count_1 (by rw [s_1_2]; decide) (by rw [s_1_2]; decide) (by rw [s_1_2]; decide) (by decide) ?_
        refine lv_aload_n hx hb dX9_count_92 rfl (lv_at hl 0 rfl) ?_
        refine ti_get (ci := 9) (k := 3) (N := 10) (T := TX9) (v := .ref (A 27 0)) C hw iw_9 rfl ob_0 (by decide) (by decide) fl_X9_29 rfl rfl dX9_count_93 ?_
        refine ti_get (ci := 3) (k := 2) (N := 17) (T := TX3) C hw iw_3 rfl ob_27 (by decide) (by decide) fl_X9_186 rfl rfl dX9_count_96 ?_
        refine lv_topi (fun x_4 ex_4 => ?_)
        have bx_4 : 0 ≤ x_4.toInt ∧ x_4.toInt ≤ 120 := cI_rd hI ob_27.1 ex_4 (Or.inl rfl)
        have ux_4 : (tI M 27 2).toInt = x_4.toInt := by rw [ex_4]
        exact hQ _ _ _ _ _ _ hw rfl (⟨fS.refl, rT.refl, hF, rfl, tl.refl⟩) dX9_count_99
      · by_cases s_1_3 : za = 3
        · refine lv_tableIn (tgt := 100) (off := 99) hx hb dX9_count_1 (by rw [s_1_3]; decide) (by rw [s_1_3]; decide) (by rw [s_1_3]; decide) (by decide) ?_
          refine lv_aload_n hx hb dX9_count_100 rfl (lv_at hl 0 rfl) ?_
          refine ti_get (ci := 9) (k := 3) (N := 10) (T := TX9) (v := .ref (A 27 0)) C hw iw_9 rfl ob_0 (by decide) (by decide) fl_X9_29 rfl rfl dX9_count_101 ?_
          refine ti_get (ci := 3) (k := 3) (N := 17) (T := TX3) C hw iw_3 rfl ob_27 (by decide) (by decide) fl_X9_179 rfl rfl dX9_count_104 ?_
          refine lv_topi (fun x_5 ex_5 => ?_)
          have bx_5 : 0 ≤ x_5.toInt ∧ x_5.toInt ≤ 8 := cI_rd hI ob_27.1 ex_5
          have ux_5 : (tI M 27 3).toInt = x_5.toInt := by rw [ex_5]
          exact hQ _ _ _ _ _ _ hw rfl (⟨fS.refl, rT.refl, hF, rfl, tl.refl⟩) dX9_count_107
        · by_cases s_1_4 : za = 4
          · refine lv_tableIn (tgt := 108) (off := 107) hx hb dX9_count_1 (by rw [s_1_4]; decide) (by rw [s_1_4]; decide) (by rw [s_1_4]; decide) (by decide) ?_
            refine lv_aload_n hx hb dX9_count_108 rfl (lv_at hl 0 rfl) ?_
            refine ti_get (ci := 9) (k := 3) (N := 10) (T := TX9) (v := .ref (A 27 0)) C hw iw_9 rfl ob_0 (by decide) (by decide) fl_X9_29 rfl rfl dX9_count_109 ?_
            refine lv_iconst (v := 2) hx hb dX9_count_112 (by decide) ?_
            refine ti_callVi (ci := 3) (av := [.int 2]) C hw (s_X3_howMany l D A cy hJ M hI 27 t ob_27 ht (hT) 2) ⟨ml_X9_307, ym_X3_howMany, yv_X3_howMany, yi_X3_howMany, yc_X3_howMany⟩ yd_X3_howMany ob_27 (by decide) rfl rfl hl.1 (Nat.le_of_ble_eq_true rfl) ⟨by decide, by decide⟩ ⟨Nat.zero_le _, Nat.zero_le _⟩ dX9_count_113 (fun r_6 M_7 H locs hp_7 hw => ?_)
            have hm := hp_7
            have hw := hw.to hm
            exact hQ _ _ _ _ _ _ hw rfl (⟨fS.refl, rT.refl, hF, rfl, tl.refl⟩) dX9_count_116
          · by_cases s_1_5 : za = 5
            · refine lv_tableIn (tgt := 117) (off := 116) hx hb dX9_count_1 (by rw [s_1_5]; decide) (by rw [s_1_5]; decide) (by rw [s_1_5]; decide) (by decide) ?_
              refine lv_aload_n hx hb dX9_count_117 rfl (lv_at hl 0 rfl) ?_
              refine ti_get (ci := 9) (k := 3) (N := 10) (T := TX9) (v := .ref (A 27 0)) C hw iw_9 rfl ob_0 (by decide) (by decide) fl_X9_29 rfl rfl dX9_count_118 ?_
              refine lv_iconst (v := 3) hx hb dX9_count_121 (by decide) ?_
              refine ti_callVi (ci := 3) (av := [.int 3]) C hw (s_X3_howMany l D A cy hJ M hI 27 t ob_27 ht (hT) 3) ⟨ml_X9_307, ym_X3_howMany, yv_X3_howMany, yi_X3_howMany, yc_X3_howMany⟩ yd_X3_howMany ob_27 (by decide) rfl rfl hl.1 (Nat.le_of_ble_eq_true rfl) ⟨by decide, by decide⟩ ⟨Nat.zero_le _, Nat.zero_le _⟩ dX9_count_122 (fun r_8 M_9 H locs hp_9 hw => ?_)
              have hm := hp_9
              have hw := hw.to hm
              exact hQ _ _ _ _ _ _ hw rfl (⟨fS.refl, rT.refl, hF, rfl, tl.refl⟩) dX9_count_125
            · by_cases s_1_6 : za = 6
              · refine lv_tableIn (tgt := 126) (off := 125) hx hb dX9_count_1 (by rw [s_1_6]; decide) (by rw [s_1_6]; decide) (by rw [s_1_6]; decide) (by decide) ?_
                refine lv_aload_n hx hb dX9_count_126 rfl (lv_at hl 0 rfl) ?_
                refine ti_get (ci := 9) (k := 3) (N := 10) (T := TX9) (v := .ref (A 27 0)) C hw iw_9 rfl ob_0 (by decide) (by decide) fl_X9_29 rfl rfl dX9_count_127 ?_
                refine ti_get (ci := 3) (k := 4) (N := 17) (T := TX3) C hw iw_3 rfl ob_27 (by decide) (by decide) fl_X9_310 rfl rfl dX9_count_130 ?_
                refine lv_topi (fun x_10 ex_10 => ?_)
                exact hQ _ _ _ _ _ _ hw rfl (⟨fS.refl, rT.refl, hF, rfl, tl.refl⟩) dX9_count_133
              · by_cases s_1_7 : za = 7
                · refine lv_tableIn (tgt := 134) (off := 133) hx hb dX9_count_1 (by rw [s_1_7]; decide) (by rw [s_1_7]; decide) (by rw [s_1_7]; decide) (by decide) ?_
                  refine lv_aload_n hx hb dX9_count_134 rfl (lv_at hl 0 rfl) ?_
                  refine ti_get (ci := 9) (k := 3) (N := 10) (T := TX9) (v := .ref (A 27 0)) C hw iw_9 rfl ob_0 (by decide) (by decide) fl_X9_29 rfl rfl dX9_count_135 ?_
                  refine ti_callVi (ci := 3) (av := []) C hw (s_X3_allCoin l D A cy hJ M hI 27 t ob_27 ht (hT)) ⟨ml_X9_313, ym_X3_allCoin, yv_X3_allCoin, yi_X3_allCoin, yc_X3_allCoin⟩ yd_X3_allCoin ob_27 (by decide) rfl rfl hl.1 (Nat.le_of_ble_eq_true rfl) ⟨by decide, by decide⟩ ⟨Nat.zero_le _, Nat.zero_le _⟩ dX9_count_138 (fun r_11 M_12 H locs hp_12 hw => ?_)
                  have hm := hp_12
                  have hw := hw.to hm
                  exact hQ _ _ _ _ _ _ hw rfl (⟨fS.refl, rT.refl, hF, rfl, tl.refl⟩) dX9_count_141
                · by_cases s_1_8 : za = 8
                  · refine lv_tableIn (tgt := 142) (off := 141) hx hb dX9_count_1 (by rw [s_1_8]; decide) (by rw [s_1_8]; decide) (by rw [s_1_8]; decide) (by decide) ?_
                    refine lv_aload_n hx hb dX9_count_142 rfl (lv_at hl 0 rfl) ?_
                    refine ti_get (ci := 9) (k := 8) (N := 10) (T := TX9) (v := .ref (A 50 0)) C hw iw_9 rfl ob_0 (by decide) (by decide) fl_X9_54 rfl rfl dX9_count_143 ?_
                    refine ti_get (ci := 6) (k := 5) (N := 13) (T := TX6) C hw iw_6 rfl ob_50 (by decide) (by decide) fl_X9_317 rfl rfl dX9_count_146 ?_
                    refine lv_topi (fun x_13 ex_13 => ?_)
                    have bx_13 : 0 ≤ x_13.toInt ∧ x_13.toInt ≤ 24 := cI_rd hI ob_50.1 ex_13
                    have ux_13 : (tI M 50 5).toInt = x_13.toInt := by rw [ex_13]
                    exact hQ _ _ _ _ _ _ hw rfl (⟨fS.refl, rT.refl, hF, rfl, tl.refl⟩) dX9_count_149
                  · by_cases s_1_9 : za = 9
                    · refine lv_tableIn (tgt := 150) (off := 149) hx hb dX9_count_1 (by rw [s_1_9]; decide) (by rw [s_1_9]; decide) (by rw [s_1_9]; decide) (by decide) ?_
                      refine lv_aload_n hx hb dX9_count_150 rfl (lv_at hl 0 rfl) ?_
                      refine ti_get (ci := 9) (k := 8) (N := 10) (T := TX9) (v := .ref (A 50 0)) C hw iw_9 rfl ob_0 (by decide) (by decide) fl_X9_54 rfl rfl dX9_count_151 ?_
                      refine ti_callVi (ci := 6) (av := []) C hw (s_X6_knownBy l D A cy hJ M hI ) ⟨ml_X9_318, ym_X6_knownBy, yv_X6_knownBy, yi_X6_knownBy, yc_X6_knownBy⟩ yd_X6_knownBy ob_50 (by decide) rfl rfl hl.1 (Nat.le_of_ble_eq_true rfl) ⟨by decide, by decide⟩ ⟨Nat.zero_le _, Nat.zero_le _⟩ dX9_count_154 (fun r_14 M_15 H locs hp_15 hw => ?_)
                      obtain ⟨hm, b0r_14, b1r_14⟩ := hp_15
                      have hw := hw.to hm
                      exact hQ _ _ _ _ _ _ hw rfl (⟨fS.refl, rT.refl, hF, rfl, tl.refl⟩) dX9_count_157
                    · by_cases s_1_10 : za = 10
                      · refine lv_tableIn (tgt := 158) (off := 157) hx hb dX9_count_1 (by rw [s_1_10]; decide) (by rw [s_1_10]; decide) (by rw [s_1_10]; decide) (by decide) ?_
                        refine lv_aload_n hx hb dX9_count_158 rfl (lv_at hl 0 rfl) ?_
                        refine ti_get (ci := 9) (k := 5) (N := 10) (T := TX9) (v := .ref (A 28 0)) C hw iw_9 rfl ob_0 (by decide) (by decide) fl_X9_40 rfl rfl dX9_count_159 ?_
                        refine ti_get (ci := 5) (k := 2) (N := 3) (T := TX5) C hw iw_5 rfl ob_28 (by decide) (by decide) fl_X9_297 rfl rfl dX9_count_162 ?_
                        refine lv_topi (fun x_16 ex_16 => ?_)
                        have bx_16 : 0 ≤ x_16.toInt ∧ x_16.toInt ≤ 20 := cI_rd hI ob_28.1 ex_16
                        have ux_16 : (tI M 28 2).toInt = x_16.toInt := by rw [ex_16]
                        exact hQ _ _ _ _ _ _ hw rfl (⟨fS.refl, rT.refl, hF, rfl, tl.refl⟩) dX9_count_165
                      · by_cases s_1_11 : za = 11
                        · refine lv_tableIn (tgt := 166) (off := 165) hx hb dX9_count_1 (by rw [s_1_11]; decide) (by rw [s_1_11]; decide) (by rw [s_1_11]; decide) (by decide) ?_
                          refine lv_aload_n hx hb dX9_count_166 rfl (lv_at hl 0 rfl) ?_
                          refine ti_get (ci := 9) (k := 3) (N := 10) (T := TX9) (v := .ref (A 27 0)) C hw iw_9 rfl ob_0 (by decide) (by decide) fl_X9_29 rfl rfl dX9_count_167 ?_
                          refine ti_get (ci := 3) (k := 7) (N := 17) (T := TX3) (v := .ref (A 27 8)) C hw iw_3 rfl ob_27 (by decide) (by decide) fl_X9_168 rfl rfl dX9_count_170 ?_
                          refine lv_iconst (v := 0) hx hb dX9_count_173 (by decide) ?_
                          refine ti_iald (ci := 3) (k := 7) (n := 3) C hw ob_27 (by decide) (fun _ _ => rfl) (by unfold vp_in; decide) dX9_count_174 ?_
                          refine lv_topi (fun x_17 ex_17 => ?_)
                          exact hQ _ _ _ _ _ _ hw rfl (⟨fS.refl, rT.refl, hF, rfl, tl.refl⟩) dX9_count_175
                        · by_cases s_1_12 : za = 12
                          · refine lv_tableIn (tgt := 176) (off := 175) hx hb dX9_count_1 (by rw [s_1_12]; decide) (by rw [s_1_12]; decide) (by rw [s_1_12]; decide) (by decide) ?_
                            refine lv_aload_n hx hb dX9_count_176 rfl (lv_at hl 0 rfl) ?_
                            refine ti_get (ci := 9) (k := 3) (N := 10) (T := TX9) (v := .ref (A 27 0)) C hw iw_9 rfl ob_0 (by decide) (by decide) fl_X9_29 rfl rfl dX9_count_177 ?_
                            refine ti_get (ci := 3) (k := 7) (N := 17) (T := TX3) (v := .ref (A 27 8)) C hw iw_3 rfl ob_27 (by decide) (by decide) fl_X9_168 rfl rfl dX9_count_180 ?_
                            refine lv_iconst (v := 1) hx hb dX9_count_183 (by decide) ?_
                            refine ti_iald (ci := 3) (k := 7) (n := 3) C hw ob_27 (by decide) (fun _ _ => rfl) (by unfold vp_in; decide) dX9_count_184 ?_
                            refine lv_topi (fun x_18 ex_18 => ?_)
                            exact hQ _ _ _ _ _ _ hw rfl (⟨fS.refl, rT.refl, hF, rfl, tl.refl⟩) dX9_count_185
                          · by_cases s_1_13 : za = 13
                            · refine lv_tableIn (tgt := 186) (off := 185) hx hb dX9_count_1 (by rw [s_1_13]; decide) (by rw [s_1_13]; decide) (by rw [s_1_13]; decide) (by decide) ?_
                              refine lv_aload_n hx hb dX9_count_186 rfl (lv_at hl 0 rfl) ?_
                              refine ti_get (ci := 9) (k := 3) (N := 10) (T := TX9) (v := .ref (A 27 0)) C hw iw_9 rfl ob_0 (by decide) (by decide) fl_X9_29 rfl rfl dX9_count_187 ?_
                              refine ti_get (ci := 3) (k := 7) (N := 17) (T := TX3) (v := .ref (A 27 8)) C hw iw_3 rfl ob_27 (by decide) (by decide) fl_X9_168 rfl rfl dX9_count_190 ?_
                              refine lv_iconst (v := 2) hx hb dX9_count_193 (by decide) ?_
                              refine ti_iald (ci := 3) (k := 7) (n := 3) C hw ob_27 (by decide) (fun _ _ => rfl) (by unfold vp_in; decide) dX9_count_194 ?_
                              refine lv_topi (fun x_19 ex_19 => ?_)
                              exact hQ _ _ _ _ _ _ hw rfl (⟨fS.refl, rT.refl, hF, rfl, tl.refl⟩) dX9_count_195
                            · by_cases s_1_14 : za = 14
                              · refine lv_tableIn (tgt := 196) (off := 195) hx hb dX9_count_1 (by rw [s_1_14]; decide) (by rw [s_1_14]; decide) (by rw [s_1_14]; decide) (by decide) ?_
                                refine lv_aload_n hx hb dX9_count_196 rfl (lv_at hl 0 rfl) ?_
                                refine ti_get (ci := 9) (k := 3) (N := 10) (T := TX9) (v := .ref (A 27 0)) C hw iw_9 rfl ob_0 (by decide) (by decide) fl_X9_29 rfl rfl dX9_count_197 ?_
                                refine ti_callVi (ci := 3) (av := []) C hw (s_X3_allCoughs l D A cy hJ M hI 27 t ob_27 ht (hT)) ⟨ml_X9_321, ym_X3_allCoughs, yv_X3_allCoughs, yi_X3_allCoughs, yc_X3_allCoughs⟩ yd_X3_allCoughs ob_27 (by decide) rfl rfl hl.1 (Nat.le_of_ble_eq_true rfl) ⟨by decide, by decide⟩ ⟨Nat.zero_le _, Nat.zero_le _⟩ dX9_count_200 (fun r_20 M_21 H locs hp_21 hw => ?_)
                                have hm := hp_21
                                have hw := hw.to hm
                                exact hQ _ _ _ _ _ _ hw rfl (⟨fS.refl, rT.refl, hF, rfl, tl.refl⟩) dX9_count_203
                              · refine lv_tableOut (tgt := 204) hx hb dX9_count_1 (ti_out (lo := 0) (hi := 14) za (fun v h1 h2 => by rcases (show v = 0 ∨ v = 1 ∨ v = 2 ∨ v = 3 ∨ v = 4 ∨ v = 5 ∨ v = 6 ∨ v = 7 ∨ v = 8 ∨ v = 9 ∨ v = 10 ∨ v = 11 ∨ v = 12 ∨ v = 13 ∨ v = 14 by omega) with rfl | rfl | rfl | rfl | rfl | rfl | rfl | rfl | rfl | rfl | rfl | rfl | rfl | rfl | rfl <;> first | exact ti_nev 0 s_1_0 (by decide) | exact ti_nev 1 s_1_1 (by decide) | exact ti_nev 2 s_1_2 (by decide) | exact ti_nev 3 s_1_3 (by decide) | exact ti_nev 4 s_1_4 (by decide) | exact ti_nev 5 s_1_5 (by decide) | exact ti_nev 6 s_1_6 (by decide) | exact ti_nev 7 s_1_7 (by decide) | exact ti_nev 8 s_1_8 (by decide) | exact ti_nev 9 s_1_9 (by decide) | exact ti_nev 10 s_1_10 (by decide) | exact ti_nev 11 s_1_11 (by decide) | exact ti_nev 12 s_1_12 (by decide) | exact ti_nev 13 s_1_13 (by decide) | exact ti_nev 14 s_1_14 (by decide))) (by decide) ?_
                                refine lv_iconst (v := (-1)) hx hb dX9_count_204 (by decide) ?_
                                exact hQ _ _ _ _ _ _ hw rfl (⟨fS.refl, rT.refl, hF, rfl, tl.refl⟩) dX9_count_205

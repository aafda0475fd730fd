set_option maxHeartbeats 4000000 in
set_option maxRecDepth 100000 in
theorem k_X3_is (l : Launch) (D : va_G) (A : Nat → Nat → Nat) (cy : Nat → ClassId) (hJ : ti_inj ti_LT A) (M : ti_M) (q : Nat) (bt : Int32) (hq : ti_ob ti_LT q 3) : ti_Ki l yX3_is cX3_is 2 (some .boolean) 0 ti_LT D A cy M [.ref (A q 0), .int bt] (fun r M2 => M2 = M ∧ (r = 1 ∨ r = 0)) := by
  refine ti_eI yp_X3_is hJ ti_LT_nd (Nat.le_of_ble_eq_true rfl) ?_
  intro p e s m args below meth c Q H0 C hQ hw ls hl
  have hx := C.1
  have hb := C.2.1
  have hl : lv_has ls 2 [(0, .ref (A q 0)), (1, .int bt)] := hl
  refine lv_aload_n hx hb dX3_is_0 rfl (lv_at hl 0 rfl) ?_
  refine ti_get (ci := 3) (k := 1) (N := 17) (T := TX3) C hw iw_3 rfl hq (by decide) (by decide) fl_X3_49 rfl rfl dX3_is_1 ?_
  refine lv_topi (fun x_1 ex_1 => ?_)
  refine lv_iload_n hx hb dX3_is_4 rfl (lv_at hl 1 rfl) ?_
  refine lv_iand hx hb dX3_is_5 ?_
  refine lv_topi (fun x_2 ex_2 => ?_)
  refine lv_if_eq (tgt := 13) hx hb dX3_is_6 (by decide) (fun c_6 => ?_) (fun c_6 => ?_)
  · refine lv_iconst (v := 0) hx hb dX3_is_13 (by decide) ?_
    exact hQ _ _ _ _ _ _ hw rfl (⟨rfl, Or.inr rfl⟩) dX3_is_14
  · refine lv_iconst (v := 1) hx hb dX3_is_9 (by decide) ?_
    refine lv_goto (tgt := 14) hx hb dX3_is_10 (by decide) ?_
    exact hQ _ _ _ _ _ _ hw rfl (⟨rfl, Or.inl rfl⟩) dX3_is_14
set_option maxHeartbeats 4000000 in
set_option maxRecDepth 100000 in
theorem k_X3_welcome (l : Launch) (D : va_G) (A : Nat → Nat → Nat) (cy : Nat → ClassId) (hJ : ti_inj ti_LT A) (M : ti_M) (q t : Nat) (hq : ti_ob ti_LT q 3) (ht : ti_ob ti_LT t 8) (hT : tT M q 0 = some t) (hs : tI M q 3 = 0) (hm0 : tI M t 4 = 0) (hu : tI M t 10 = 0) : ti_Kv l yX3_welcome cX3_welcome 3 1 ti_LT D A cy M [.ref (A q 0)] (fun M2 => M2 = M) := by
  refine ti_eV yp_X3_welcome hJ ti_LT_nd (Nat.le_of_ble_eq_true rfl) ?_
  intro p e s m args below meth c Q H0 C hQ hw ls hl
  have hx := C.1
  have hb := C.2.1
  have hl : lv_has ls 3 [(0, .ref (A q 0))] := hl
  refine lv_iconst (v := 0) hx hb dX3_welcome_0 (by decide) ?_
  refine lv_istore_n (lv' := [(1, .int 0), (0, .ref (A q 0))]) hx hb dX3_welcome_1 rfl hl (by decide) rfl (fun ls hl => ?_)
  refine lv_iload_n hx hb dX3_welcome_2 rfl (lv_at hl 0 rfl) ?_
  refine lv_aload_n hx hb dX3_welcome_3 rfl (lv_at hl 1 rfl) ?_
  refine ti_get (ci := 3) (k := 0) (N := 17) (T := TX3) (v := .ref (A t 0)) C hw iw_3 rfl hq (by decide) (by decide) fl_X3_45 rfl (ti_Tv hT) dX3_welcome_4 ?_
  refine ti_get (ci := 8) (k := 4) (N := 12) (T := TX8) C hw iw_8 rfl ht (by decide) (by decide) fl_X3_78 rfl rfl dX3_welcome_7 ?_
  refine ti_top (y := 0) hm0 ?_
  refine lv_icmp_ge (tgt := 35) hx hb dX3_welcome_10 (by decide) (fun c_10 => ?_) (fun c => absurd (by decide) c)
  exact hQ _ _ _ _ _ hw rfl dX3_welcome_35
set_option maxHeartbeats 4000000 in
set_option maxRecDepth 100000 in
theorem k_X3_pour (l : Launch) (D : va_G) (A : Nat → Nat → Nat) (cy : Nat → ClassId) (hJ : ti_inj ti_LT A) (M : ti_M) (q t : Nat) (hq : ti_ob ti_LT q 3) (ht : ti_ob ti_LT t 8) (hT : tT M q 0 = some t) (hs : tI M q 3 = 0) (hm0 : tI M t 4 = 0) (hu : tI M t 10 = 0) : ti_Kv l yX3_pour cX3_pour 4 1 ti_LT D A cy M [.ref (A q 0)] (fun M2 => M2 = M) := by
  refine ti_eV yp_X3_pour hJ ti_LT_nd (Nat.le_of_ble_eq_true rfl) ?_
  intro p e s m args below meth c Q H0 C hQ hw ls hl
  have hx := C.1
  have hb := C.2.1
  have hl : lv_has ls 4 [(0, .ref (A q 0))] := hl
  refine lv_aload_n hx hb dX3_pour_0 rfl (lv_at hl 0 rfl) ?_
  refine ti_get (ci := 3) (k := 3) (N := 17) (T := TX3) C hw iw_3 rfl hq (by decide) (by decide) fl_X3_56 rfl rfl dX3_pour_1 ?_
  refine ti_top (y := 0) hs ?_
  refine lv_if_ne (tgt := 8) hx hb dX3_pour_4 (by decide) (fun c => absurd (by decide) c) (fun c_4 => ?_)
  exact hQ _ _ _ _ _ hw rfl dX3_pour_7
set_option maxHeartbeats 4000000 in
set_option maxRecDepth 100000 in
theorem k_X3_levy (l : Launch) (D : va_G) (A : Nat → Nat → Nat) (cy : Nat → ClassId) (hJ : ti_inj ti_LT A) (M : ti_M) (q t : Nat) (hq : ti_ob ti_LT q 3) (ht : ti_ob ti_LT t 8) (hT : tT M q 0 = some t) (hs : tI M q 3 = 0) (hm0 : tI M t 4 = 0) (hu : tI M t 10 = 0) : ti_Kv l yX3_levy cX3_levy 6 1 ti_LT D A cy M [.ref (A q 0)] (fun M2 => M2 = M) := by
  refine ti_eV yp_X3_levy hJ ti_LT_nd (Nat.le_of_ble_eq_true rfl) ?_
  intro p e s m args below meth c Q H0 C hQ hw ls hl
  have hx := C.1
  have hb := C.2.1
  have hl : lv_has ls 6 [(0, .ref (A q 0))] := hl
  refine lv_aload_n hx hb dX3_levy_0 rfl (lv_at hl 0 rfl) ?_
  refine lv_aload_n hx hb dX3_levy_1 rfl (lv_at hl 0 rfl) ?_
  refine ti_get (ci := 3) (k := 7) (N := 17) (T := TX3) (v := .ref (A q 8)) C hw iw_3 rfl hq (by decide) (by decide) fl_X3_15 rfl rfl dX3_levy_2 ?_
  refine lv_iconst (v := 2) hx hb dX3_levy_5 (by decide) ?_
  refine ti_iald (ci := 3) (k := 7) (n := 3) C hw hq (by decide) (fun _ _ => rfl) (by unfold vp_in; decide) dX3_levy_6 ?_
  refine lv_topi (fun x_1 ex_1 => ?_)
  refine ti_callVi (ci := 3) (av := [.int x_1]) C hw (k_X3_manAt l D A cy hJ _ q x_1 hq hs) ⟨ml_X3_99, ym_X3_manAt, yv_X3_manAt, yi_X3_manAt, yc_X3_manAt⟩ yd_X3_manAt hq (by decide) rfl rfl hl.1 (Nat.le_of_ble_eq_true rfl) ⟨by decide, by decide⟩ ⟨Nat.zero_le _, Nat.zero_le _⟩ dX3_levy_7 (fun r_2 M_3 H locs hp_3 hw => ?_)
  obtain ⟨hm, rfl⟩ := hp_3
  have hw := hw.to hm
  refine lv_istore_n (lv' := [(1, .int (-2)), (0, .ref (A q 0))]) hx hb dX3_levy_10 rfl hl (by decide) rfl (fun ls hl => ?_)
  refine lv_aload_n hx hb dX3_levy_11 rfl (lv_at hl 1 rfl) ?_
  refine lv_iconst (v := 4) hx hb dX3_levy_12 (by decide) ?_
  refine ti_callVi (ci := 3) (av := [.int 4]) C hw (k_X3_is l D A cy hJ _ q 4 hq) ⟨ml_X3_182, ym_X3_is, yv_X3_is, yi_X3_is, yc_X3_is⟩ yd_X3_is hq (by decide) rfl rfl hl.1 (Nat.le_of_ble_eq_true rfl) ⟨by decide, by decide⟩ ⟨Nat.zero_le _, Nat.zero_le _⟩ dX3_levy_13 (fun r_4 M_5 H locs hp_5 hw => ?_)
  obtain ⟨hm, hz⟩ := hp_5
  have hw := hw.to hm
  rcases hz with rfl | rfl
  · refine lv_if_ne (tgt := 49) hx hb dX3_levy_16 (by decide) (fun c_16 => ?_) (fun c => absurd c (by decide))
    exact hQ _ _ _ _ _ hw rfl dX3_levy_49
  · refine lv_if_ne (tgt := 49) hx hb dX3_levy_16 (by decide) (fun c => absurd (by decide) c) (fun c_16 => ?_)
    refine lv_iload_n hx hb dX3_levy_19 rfl (lv_at hl 0 rfl) ?_
    refine lv_if_lt (tgt := 49) hx hb dX3_levy_20 (by decide) (fun c_20 => ?_) (fun c => absurd (by decide) c)
    exact hQ _ _ _ _ _ hw rfl dX3_levy_49
set_option maxHeartbeats 4000000 in
set_option maxRecDepth 100000 in
theorem k_X3_wear (l : Launch) (D : va_G) (A : Nat → Nat → Nat) (cy : Nat → ClassId) (hJ : ti_inj ti_LT A) (M : ti_M) (q t : Nat) (hq : ti_ob ti_LT q 3) (ht : ti_ob ti_LT t 8) (hT : tT M q 0 = some t) (hs : tI M q 3 = 0) (hm0 : tI M t 4 = 0) (hu : tI M t 10 = 0) : ti_Kv l yX3_wear cX3_wear 3 1 ti_LT D A cy M [.ref (A q 0)] (fun M2 => M2 = M) := by
  refine ti_eV yp_X3_wear hJ ti_LT_nd (Nat.le_of_ble_eq_true rfl) ?_
  intro p e s m args below meth c Q H0 C hQ hw ls hl
  have hx := C.1
  have hb := C.2.1
  have hl : lv_has ls 3 [(0, .ref (A q 0))] := hl
  refine lv_iconst (v := 0) hx hb dX3_wear_0 (by decide) ?_
  refine lv_istore_n (lv' := [(1, .int 0), (0, .ref (A q 0))]) hx hb dX3_wear_1 rfl hl (by decide) rfl (fun ls hl => ?_)
  refine lv_iload_n hx hb dX3_wear_2 rfl (lv_at hl 0 rfl) ?_
  refine lv_aload_n hx hb dX3_wear_3 rfl (lv_at hl 1 rfl) ?_
  refine ti_get (ci := 3) (k := 3) (N := 17) (T := TX3) C hw iw_3 rfl hq (by decide) (by decide) fl_X3_56 rfl rfl dX3_wear_4 ?_
  refine ti_top (y := 0) hs ?_
  refine lv_icmp_ge (tgt := 80) hx hb dX3_wear_7 (by decide) (fun c_7 => ?_) (fun c => absurd (by decide) c)
  exact hQ _ _ _ _ _ hw rfl dX3_wear_80
set_option maxHeartbeats 4000000 in
set_option maxRecDepth 100000 in
theorem k_X3_release (l : Launch) (D : va_G) (A : Nat → Nat → Nat) (cy : Nat → ClassId) (hJ : ti_inj ti_LT A) (M : ti_M) (q t : Nat) (hq : ti_ob ti_LT q 3) (ht : ti_ob ti_LT t 8) (hT : tT M q 0 = some t) (hs : tI M q 3 = 0) (hm0 : tI M t 4 = 0) (hu : tI M t 10 = 0) : ti_Kv l yX3_release cX3_release 2 1 ti_LT D A cy M [.ref (A q 0)] (fun M2 => M2 = M) := by
  refine ti_eV yp_X3_release hJ ti_LT_nd (Nat.le_of_ble_eq_true rfl) ?_
  intro p e s m args below meth c Q H0 C hQ hw ls hl
  have hx := C.1
  have hb := C.2.1
  have hl : lv_has ls 2 [(0, .ref (A q 0))] := hl
  refine lv_aload_n hx hb dX3_release_0 rfl (lv_at hl 0 rfl) ?_
  refine ti_get (ci := 3) (k := 3) (N := 17) (T := TX3) C hw iw_3 rfl hq (by decide) (by decide) fl_X3_56 rfl rfl dX3_release_1 ?_
  refine ti_top (y := 0) hs ?_
  refine lv_if_le (tgt := 44) hx hb dX3_release_4 (by decide) (fun c_4 => ?_) (fun c => absurd (by decide) c)
  refine lv_aload_n hx hb dX3_release_44 rfl (lv_at hl 0 rfl) ?_
  refine lv_bipush (v := 8) hx hb dX3_release_45 (by decide) ?_
  refine ti_callVi (ci := 3) (av := [.int 8]) C hw (k_X3_is l D A cy hJ _ q 8 hq) ⟨ml_X3_182, ym_X3_is, yv_X3_is, yi_X3_is, yc_X3_is⟩ yd_X3_is hq (by decide) rfl rfl hl.1 (Nat.le_of_ble_eq_true rfl) ⟨by decide, by decide⟩ ⟨Nat.zero_le _, Nat.zero_le _⟩ dX3_release_47 (fun r_1 M_2 H locs hp_2 hw => ?_)
  obtain ⟨hm, hz⟩ := hp_2
  have hw := hw.to hm
  rcases hz with rfl | rfl
  · refine lv_if_eq (tgt := 54) hx hb dX3_release_50 (by decide) (fun c => absurd c (by decide)) (fun c_50 => ?_)
    exact hQ _ _ _ _ _ hw rfl dX3_release_53
  · refine lv_if_eq (tgt := 54) hx hb dX3_release_50 (by decide) (fun c_50 => ?_) (fun c => absurd (by decide) c)
    refine lv_aload_n hx hb dX3_release_54 rfl (lv_at hl 0 rfl) ?_
    refine ti_get (ci := 3) (k := 3) (N := 17) (T := TX3) C hw iw_3 rfl hq (by decide) (by decide) fl_X3_56 rfl rfl dX3_release_55 ?_
    refine ti_top (y := 0) hs ?_
    refine lv_iconst (v := 1) hx hb dX3_release_58 (by decide) ?_
    refine lv_isub hx hb dX3_release_59 ?_
    refine ti_top (y := (-1)) (by decide) ?_
    refine lv_istore_n (lv' := [(1, .int (-1)), (0, .ref (A q 0))]) hx hb dX3_release_60 rfl hl (by decide) rfl (fun ls hl => ?_)
    refine lv_iload_n hx hb dX3_release_61 rfl (lv_at hl 0 rfl) ?_
    refine lv_if_le (tgt := 91) hx hb dX3_release_62 (by decide) (fun c_62 => ?_) (fun c => absurd (by decide) c)
    exact hQ _ _ _ _ _ hw rfl dX3_release_91
set_option maxHeartbeats 4000000 in
set_option maxRecDepth 100000 in
theorem k_X3_mutter (l : Launch) (D : va_G) (A : Nat → Nat → Nat) (cy : Nat → ClassId) (hJ : ti_inj ti_LT A) (M : ti_M) (q t : Nat) (hq : ti_ob ti_LT q 3) (ht : ti_ob ti_LT t 8) (hT : tT M q 0 = some t) (hs : tI M q 3 = 0) (hm0 : tI M t 4 = 0) (hu : tI M t 10 = 0) : ti_Kv l yX3_mutter cX3_mutter 1 1 ti_LT D A cy M [.ref (A q 0)] (fun M2 => M2 = M) := by
  refine ti_eV yp_X3_mutter hJ ti_LT_nd (Nat.le_of_ble_eq_true rfl) ?_
  intro p e s m args below meth c Q H0 C hQ hw ls hl
  have hx := C.1
  have hb := C.2.1
  have hl : lv_has ls 1 [(0, .ref (A q 0))] := hl
  refine lv_aload_n hx hb dX3_mutter_0 rfl (lv_at hl 0 rfl) ?_
  refine lv_iconst (v := 2) hx hb dX3_mutter_1 (by decide) ?_
  refine ti_callVi (ci := 3) (av := [.int 2]) C hw (k_X3_is l D A cy hJ _ q 2 hq) ⟨ml_X3_182, ym_X3_is, yv_X3_is, yi_X3_is, yc_X3_is⟩ yd_X3_is hq (by decide) rfl rfl hl.1 (Nat.le_of_ble_eq_true rfl) ⟨by decide, by decide⟩ ⟨Nat.zero_le _, Nat.zero_le _⟩ dX3_mutter_2 (fun r_1 M_2 H locs hp_2 hw => ?_)
  obtain ⟨hm, hz⟩ := hp_2
  have hw := hw.to hm
  rcases hz with rfl | rfl
  · refine lv_if_ne (tgt := 18) hx hb dX3_mutter_5 (by decide) (fun c_5 => ?_) (fun c => absurd c (by decide))
    exact hQ _ _ _ _ _ hw rfl dX3_mutter_18
  · refine lv_if_ne (tgt := 18) hx hb dX3_mutter_5 (by decide) (fun c => absurd (by decide) c) (fun c_5 => ?_)
    refine lv_aload_n hx hb dX3_mutter_8 rfl (lv_at hl 0 rfl) ?_
    refine ti_get (ci := 3) (k := 0) (N := 17) (T := TX3) (v := .ref (A t 0)) C hw iw_3 rfl hq (by decide) (by decide) fl_X3_45 rfl (ti_Tv hT) dX3_mutter_9 ?_
    refine ti_get (ci := 8) (k := 10) (N := 12) (T := TX8) C hw iw_8 rfl ht (by decide) (by decide) fl_X3_209 rfl rfl dX3_mutter_12 ?_
    refine ti_top (y := 0) hu ?_
    refine lv_if_ne (tgt := 19) hx hb dX3_mutter_15 (by decide) (fun c => absurd (by decide) c) (fun c_15 => ?_)
    exact hQ _ _ _ _ _ hw rfl dX3_mutter_18
set_option maxHeartbeats 4000000 in
set_option maxRecDepth 100000 in
theorem k_X3_lastHeard (l : Launch) (D : va_G) (A : Nat → Nat → Nat) (cy : Nat → ClassId) (hJ : ti_inj ti_LT A) (M : ti_M) (q t : Nat) (hq : ti_ob ti_LT q 3) (ht : ti_ob ti_LT t 8) (hT : tT M q 0 = some t) (hs : tI M q 3 = 0) (hm0 : tI M t 4 = 0) (hu : tI M t 10 = 0) : ti_Ki l yX3_lastHeard cX3_lastHeard 1 (some .int) 1 ti_LT D A cy M [.ref (A q 0)] (fun r M2 => M2 = M ∧ r ≤ (-1)) := by
  refine ti_eI yp_X3_lastHeard hJ ti_LT_nd (Nat.le_of_ble_eq_true rfl) ?_
  intro p e s m args below meth c Q H0 C hQ hw ls hl
  have hx := C.1
  have hb := C.2.1
  have hl : lv_has ls 1 [(0, .ref (A q 0))] := hl
  refine lv_aload_n hx hb dX3_lastHeard_0 rfl (lv_at hl 0 rfl) ?_
  refine ti_get (ci := 3) (k := 0) (N := 17) (T := TX3) (v := .ref (A t 0)) C hw iw_3 rfl hq (by decide) (by decide) fl_X3_45 rfl (ti_Tv hT) dX3_lastHeard_1 ?_
  refine ti_get (ci := 8) (k := 9) (N := 12) (T := TX8) C hw iw_8 rfl ht (by decide) (by decide) fl_X3_134 rfl rfl dX3_lastHeard_4 ?_
  refine lv_topi (fun x_1 ex_1 => ?_)
  refine lv_aload_n hx hb dX3_lastHeard_7 rfl (lv_at hl 0 rfl) ?_
  refine ti_get (ci := 3) (k := 3) (N := 17) (T := TX3) C hw iw_3 rfl hq (by decide) (by decide) fl_X3_56 rfl rfl dX3_lastHeard_8 ?_
  refine ti_top (y := 0) hs ?_
  refine lv_iconst (v := 1) hx hb dX3_lastHeard_11 (by decide) ?_
  refine lv_isub hx hb dX3_lastHeard_12 ?_
  refine ti_top (y := (-1)) (by decide) ?_
  refine ti_min C ml_X3_137 hl.1 (by decide) (Nat.le_of_ble_eq_true rfl) ⟨Nat.zero_le _, Nat.zero_le _⟩ dX3_lastHeard_13 ?_
  refine lv_topi (fun x_2 ex_2 => ?_)
  exact hQ _ _ _ _ _ _ hw rfl (⟨rfl, by rw [ex_2]; exact ti_ltm _ _⟩) dX3_lastHeard_16
set_option maxHeartbeats 4000000 in
set_option maxRecDepth 100000 in
theorem k_X3_hearCoughs (l : Launch) (D : va_G) (A : Nat → Nat → Nat) (cy : Nat → ClassId) (hJ : ti_inj ti_LT A) (M : ti_M) (q t : Nat) (hq : ti_ob ti_LT q 3) (ht : ti_ob ti_LT t 8) (hT : tT M q 0 = some t) (hs : tI M q 3 = 0) (hm0 : tI M t 4 = 0) (hu : tI M t 10 = 0) : ti_Kv l yX3_hearCoughs cX3_hearCoughs 4 2 ti_LT D A cy M [.ref (A q 0)] (fun M2 => ∃ g, M2 = uY M q 16 g) := by
  refine ti_eV yp_X3_hearCoughs hJ ti_LT_nd (Nat.le_of_ble_eq_true rfl) ?_
  intro p e s m args below meth c Q H0 C hQ hw ls hl
  have hx := C.1
  have hb := C.2.1
  have hl : lv_has ls 4 [(0, .ref (A q 0))] := hl
  refine lv_aload_n hx hb dX3_hearCoughs_0 rfl (lv_at hl 0 rfl) ?_
  refine lv_iconst (v := 1) hx hb dX3_hearCoughs_1 (by decide) ?_
  refine ti_callVi (ci := 3) (av := [.int 1]) C hw (k_X3_is l D A cy hJ _ q 1 hq) ⟨ml_X3_182, ym_X3_is, yv_X3_is, yi_X3_is, yc_X3_is⟩ yd_X3_is hq (by decide) rfl rfl hl.1 (Nat.le_of_ble_eq_true rfl) ⟨by decide, by decide⟩ ⟨Nat.zero_le _, Nat.zero_le _⟩ dX3_hearCoughs_2 (fun r_1 M_2 H locs hp_2 hw => ?_)
  obtain ⟨hm, hz⟩ := hp_2
  have hw := hw.to hm
  rcases hz with rfl | rfl
  · refine lv_if_eq (tgt := 9) hx hb dX3_hearCoughs_5 (by decide) (fun c => absurd c (by decide)) (fun c_5 => ?_)
    exact hQ _ _ _ _ _ hw (⟨_, (uY_eta _ _ _).symm⟩) dX3_hearCoughs_8
  · refine lv_if_eq (tgt := 9) hx hb dX3_hearCoughs_5 (by decide) (fun c_5 => ?_) (fun c => absurd (by decide) c)
    refine lv_iconst (v := 0) hx hb dX3_hearCoughs_9 (by decide) ?_
    refine lv_istore_n (lv' := [(1, .int 0), (0, .ref (A q 0))]) hx hb dX3_hearCoughs_10 rfl hl (by decide) rfl (fun ls hl => ?_)
    refine lv_aload_n hx hb dX3_hearCoughs_11 rfl (lv_at hl 1 rfl) ?_
    refine ti_callVi (ci := 3) (av := []) C hw (k_X3_lastHeard l D A cy hJ _ q t hq ht hT hs hm0 hu) ⟨ml_X3_186, ym_X3_lastHeard, yv_X3_lastHeard, yi_X3_lastHeard, yc_X3_lastHeard⟩ yd_X3_lastHeard hq (by decide) rfl rfl hl.1 (Nat.le_of_ble_eq_true rfl) ⟨by decide, by decide⟩ ⟨Nat.zero_le _, Nat.zero_le _⟩ dX3_hearCoughs_12 (fun r_3 M_4 H locs hp_4 hw => ?_)
    obtain ⟨hm, hr_3⟩ := hp_4
    have hw := hw.to hm
    refine lv_istore_n (lv' := [(2, .int r_3), (1, .int 0), (0, .ref (A q 0))]) hx hb dX3_hearCoughs_15 rfl hl (by decide) rfl (fun ls hl => ?_)
    refine lv_iconst (v := 1) hx hb dX3_hearCoughs_16 (by decide) ?_
    refine lv_istore_n (lv' := [(3, .int 1), (2, .int r_3), (1, .int 0), (0, .ref (A q 0))]) hx hb dX3_hearCoughs_17 rfl hl (by decide) rfl (fun ls hl => ?_)
    refine lv_iload_n hx hb dX3_hearCoughs_18 rfl (lv_at hl 0 rfl) ?_
    refine lv_iload_n hx hb dX3_hearCoughs_19 rfl (lv_at hl 1 rfl) ?_
    refine lv_icmp_gt (tgt := 43) hx hb dX3_hearCoughs_20 (by decide) (fun c_20 => ?_) (fun c => absurd ((by (try simp only [Int32.lt_iff_toInt_lt, Int32.le_iff_toInt_le, ← Int32.toInt_inj, ti_l0, ti_l1, ti_l2, ti_l3, ti_l5, ti_l7, ti_l8, ti_l24, ti_l59, ti_l60, ti_l119, ti_l120, ti_lm1, ti_lm2] at c_5); (try simp only [Int32.lt_iff_toInt_lt, Int32.le_iff_toInt_le, ← Int32.toInt_inj, ti_l0, ti_l1, ti_l2, ti_l3, ti_l5, ti_l7, ti_l8, ti_l24, ti_l59, ti_l60, ti_l119, ti_l120, ti_lm1, ti_lm2] at hr_3); (try simp only [Int32.lt_iff_toInt_lt, Int32.le_iff_toInt_le, ← Int32.toInt_inj, ti_l0, ti_l1, ti_l2, ti_l3, ti_l5, ti_l7, ti_l8, ti_l24, ti_l59, ti_l60, ti_l119, ti_l120, ti_lm1, ti_lm2]); omega)) c)
    refine lv_iload_n hx hb dX3_hearCoughs_43 rfl (lv_at hl 2 rfl) ?_
    refine lv_if_le (tgt := 68) hx hb dX3_hearCoughs_44 (by decide) (fun c_44 => ?_) (fun c => absurd (by decide) c)
    refine lv_aload_n hx hb dX3_hearCoughs_68 rfl (lv_at hl 3 rfl) ?_
    refine ti_get (ci := 3) (k := 16) (N := 17) (T := TX3) (v := .ref (A q 17)) C hw iw_3 rfl hq (by decide) (by decide) fl_X3_42 rfl rfl dX3_hearCoughs_69 ?_
    refine lv_iconst (v := 0) hx hb dX3_hearCoughs_72 (by decide) ?_
    refine ti_callSv (av := [.ref (A q 17), .int 0]) C hw (k_fill l D A cy ti_LT_nd hJ _ q 16 3 8 0 hq (by decide) (fun _ _ => rfl) (by decide)) ⟨ml_X3_93, ys_J7_fill_53178, yi_J7_fill_53178, yc_J7_fill_53178⟩ yd_J7_fill_53178 rfl hl.1 (by decide) ⟨by decide, by decide⟩ ⟨Nat.zero_le _, Nat.zero_le _⟩ dX3_hearCoughs_73 (fun M_6 H locs hp_6 hw => ?_)
    obtain ⟨g_5, hm, hg_5⟩ := hp_6
    have hw := hw.to hm
    exact hQ _ _ _ _ _ hw (⟨g_5, rfl⟩) dX3_hearCoughs_76
set_option maxHeartbeats 4000000 in
set_option maxRecDepth 100000 in
theorem k_X3_pass (l : Launch) (D : va_G) (A : Nat → Nat → Nat) (cy : Nat → ClassId) (hJ : ti_inj ti_LT A) (M : ti_M) (q t : Nat) (hq : ti_ob ti_LT q 3) (ht : ti_ob ti_LT t 8) (hT : tT M q 0 = some t) (hs : tI M q 3 = 0) (hm0 : tI M t 4 = 0) (hu : tI M t 10 = 0) : ti_Kv l yX3_pass cX3_pass 1 3 ti_LT D A cy M [.ref (A q 0)] (fun M2 => ∃ g, M2 = uI (uY M q 16 g) q 2 (tI M q 2 + 1)) := by
  refine ti_eV yp_X3_pass hJ ti_LT_nd (Nat.le_of_ble_eq_true rfl) ?_
  intro p e s m args below meth c Q H0 C hQ hw ls hl
  have hx := C.1
  have hb := C.2.1
  have hl : lv_has ls 1 [(0, .ref (A q 0))] := hl
  refine lv_aload_n hx hb dX3_pass_0 rfl (lv_at hl 0 rfl) ?_
  refine ti_callVv (ci := 3) (av := []) C hw (k_X3_welcome l D A cy hJ _ q t hq ht hT hs hm0 hu) ⟨ml_X3_143, ym_X3_welcome, yv_X3_welcome, yi_X3_welcome, yc_X3_welcome⟩ yd_X3_welcome hq (by decide) rfl rfl hl.1 (Nat.le_of_ble_eq_true rfl) ⟨by decide, by decide⟩ ⟨Nat.zero_le _, Nat.zero_le _⟩ dX3_pass_1 (fun M_2 H locs hp_2 hw => ?_)
  have hw := hw.to hp_2
  refine lv_aload_n hx hb dX3_pass_4 rfl (lv_at hl 0 rfl) ?_
  refine ti_callVv (ci := 3) (av := []) C hw (k_X3_hearCoughs l D A cy hJ _ q t hq ht hT hs hm0 hu) ⟨ml_X3_146, ym_X3_hearCoughs, yv_X3_hearCoughs, yi_X3_hearCoughs, yc_X3_hearCoughs⟩ yd_X3_hearCoughs hq (by decide) rfl rfl hl.1 (Nat.le_of_ble_eq_true rfl) ⟨by decide, by decide⟩ ⟨Nat.zero_le _, Nat.zero_le _⟩ dX3_pass_5 (fun M_4 H locs hp_4 hw => ?_)
  obtain ⟨g_5, hm⟩ := hp_4
  have hw := hw.to hm
  refine lv_aload_n hx hb dX3_pass_8 rfl (lv_at hl 0 rfl) ?_
  refine ti_callVv (ci := 3) (av := []) C hw (k_X3_pour l D A cy hJ _ q t hq ht hT hs hm0 hu) ⟨ml_X3_149, ym_X3_pour, yv_X3_pour, yi_X3_pour, yc_X3_pour⟩ yd_X3_pour hq (by decide) rfl rfl hl.1 (Nat.le_of_ble_eq_true rfl) ⟨by decide, by decide⟩ ⟨Nat.zero_le _, Nat.zero_le _⟩ dX3_pass_9 (fun M_7 H locs hp_7 hw => ?_)
  have hw := hw.to hp_7
  refine lv_aload_n hx hb dX3_pass_12 rfl (lv_at hl 0 rfl) ?_
  refine ti_callVv (ci := 3) (av := []) C hw (k_X3_levy l D A cy hJ _ q t hq ht hT hs hm0 hu) ⟨ml_X3_152, ym_X3_levy, yv_X3_levy, yi_X3_levy, yc_X3_levy⟩ yd_X3_levy hq (by decide) rfl rfl hl.1 (Nat.le_of_ble_eq_true rfl) ⟨by decide, by decide⟩ ⟨Nat.zero_le _, Nat.zero_le _⟩ dX3_pass_13 (fun M_9 H locs hp_9 hw => ?_)
  have hw := hw.to hp_9
  refine lv_aload_n hx hb dX3_pass_16 rfl (lv_at hl 0 rfl) ?_
  refine ti_callVv (ci := 3) (av := []) C hw (k_X3_wear l D A cy hJ _ q t hq ht hT hs hm0 hu) ⟨ml_X3_155, ym_X3_wear, yv_X3_wear, yi_X3_wear, yc_X3_wear⟩ yd_X3_wear hq (by decide) rfl rfl hl.1 (Nat.le_of_ble_eq_true rfl) ⟨by decide, by decide⟩ ⟨Nat.zero_le _, Nat.zero_le _⟩ dX3_pass_17 (fun M_11 H locs hp_11 hw => ?_)
  have hw := hw.to hp_11
  refine lv_aload_n hx hb dX3_pass_20 rfl (lv_at hl 0 rfl) ?_
  refine ti_callVv (ci := 3) (av := []) C hw (k_X3_release l D A cy hJ _ q t hq ht hT hs hm0 hu) ⟨ml_X3_158, ym_X3_release, yv_X3_release, yi_X3_release, yc_X3_release⟩ yd_X3_release hq (by decide) rfl rfl hl.1 (Nat.le_of_ble_eq_true rfl) ⟨by decide, by decide⟩ ⟨Nat.zero_le _, Nat.zero_le _⟩ dX3_pass_21 (fun M_13 H locs hp_13 hw => ?_)
  have hw := hw.to hp_13
  refine lv_aload_n hx hb dX3_pass_24 rfl (lv_at hl 0 rfl) ?_
  refine ti_callVv (ci := 3) (av := []) C hw (k_X3_mutter l D A cy hJ _ q t hq ht hT hs hm0 hu) ⟨ml_X3_161, ym_X3_mutter, yv_X3_mutter, yi_X3_mutter, yc_X3_mutter⟩ yd_X3_mutter hq (by decide) rfl rfl hl.1 (Nat.le_of_ble_eq_true rfl) ⟨by decide, by decide⟩ ⟨Nat.zero_le _, Nat.zero_le _⟩ dX3_pass_25 (fun M_15 H locs hp_15 hw => ?_)
  have hw := hw.to hp_15
  refine lv_aload_n hx hb dX3_pass_28 rfl (lv_at hl 0 rfl) ?_
  refine lv_dup hx hb dX3_pass_29 rfl ?_
  refine ti_get (ci := 3) (k := 2) (N := 17) (T := TX3) C hw iw_3 rfl hq (by decide) (by decide) fl_X3_53 rfl rfl dX3_pass_30 ?_
  refine lv_topi (fun x_16 ex_16 => ?_)
  refine lv_iconst (v := 1) hx hb dX3_pass_33 (by decide) ?_
  refine lv_iadd hx hb dX3_pass_34 ?_
  refine lv_topi (fun x_17 ex_17 => ?_)
  refine ti_putI (ci := 3) (k := 2) (N := 17) (T := TX3) C hw iw_3 tyX3 tyX3_ok nmX3 rfl hq (by decide) (by decide) fl_X3_53 rfl rfl rfl rfl (fn_3 A _) fs_3_2 dX3_pass_35 (fun H locs hw => ?_)
  exact hQ _ _ _ _ _ hw (⟨g_5, by rw [ex_17, ex_16]; rfl⟩) dX3_pass_38
theorem ti_inc {x un : Int32} (h : ¬ un ≤ x) : (x + 1).toInt = x.toInt + 1 ∧ x.toInt < un.toInt := by
  rw [Int32.le_iff_toInt_le] at h
  have h2 := Int32.toInt_lt un
  have h3 := Int32.le_toInt x
  rw [Int32.toInt_add, ti_l1, Int.bmod_def]
  constructor
  · split <;> omega
  · omega
set_option maxHeartbeats 4000000 in
set_option maxRecDepth 100000 in
theorem k_X3_passTo (l : Launch) (D : va_G) (A : Nat → Nat → Nat) (cy : Nat → ClassId) (hJ : ti_inj ti_LT A) (M : ti_M) (un : Int32) (q t : Nat) (hq : ti_ob ti_LT q 3) (ht : ti_ob ti_LT t 8) (hT : tT M q 0 = some t) (hs : tI M q 3 = 0) (hm0 : tI M t 4 = 0) (hu : tI M t 10 = 0) : ti_Kv l yX3_passTo cX3_passTo 3 4 ti_LT D A cy M [.ref (A q 0), .int un] (fun M2 => tT M2 q 0 = some t ∧ tI M2 q 3 = 0 ∧ tI M2 t 4 = 0 ∧ tI M2 t 10 = 0) := by
  refine ti_eV yp_X3_passTo hJ ti_LT_nd (Nat.le_of_ble_eq_true rfl) ?_
  intro p e s m args below meth c Q H0 C hQ hw ls hl
  have hx := C.1
  have hb := C.2.1
  have hl : lv_has ls 3 [(0, .ref (A q 0)), (1, .int un)] := hl
  refine lv_aload_n hx hb dX3_passTo_0 rfl (lv_at hl 0 rfl) ?_
  refine ti_get (ci := 3) (k := 2) (N := 17) (T := TX3) C hw iw_3 rfl hq (by decide) (by decide) fl_X3_53 rfl rfl dX3_passTo_1 ?_
  refine lv_topi (fun x_1 ex_1 => ?_)
  refine lv_istore_n (lv' := [(2, .int x_1), (0, .ref (A q 0)), (1, .int un)]) hx hb dX3_passTo_4 rfl hl (by decide) rfl (fun ls hl => ?_)
  suffices hloop : ∀ (n : Nat) (tt : Int32) (Mx : ti_M) (H : Heap) (locs : List Loc) (ls : Array Slot), ((un.toInt - tt.toInt).toNat < n) → (tT Mx q 0 = some t) → (tI Mx q 3 = 0) → (tI Mx t 4 = 0) → (tI Mx t 10 = 0) → ti_H ti_LT D A cy H0 Mx H locs → lv_has ls 3 [(2, .int tt), (0, .ref (A q 0)), (1, .int un)] → W p l e (ti_rm 4) s m args below meth c H locs 0 0 Q (F0 m 5 ls []) from hloop ((un.toInt - x_1.toInt).toNat + 1) x_1 M _ _ _ (by omega) hT hs hm0 hu hw (lv_sub hl [0, 1, 2] rfl)
  clear hw hl ls
  intro n
  induction n with
  | zero => intro tt Mx H locs ls hfuel hT hs hm0 hu hw hl; exact absurd hfuel (by omega)
  | succ n ih =>
    intro tt Mx H locs ls hfuel hT hs hm0 hu hw hl
    refine lv_iload_n hx hb dX3_passTo_5 rfl (lv_at hl 0 rfl) ?_
    refine lv_iload_n hx hb dX3_passTo_6 rfl (lv_at hl 2 rfl) ?_
    refine lv_icmp_ge (tgt := 20) hx hb dX3_passTo_7 (by decide) (fun c_7 => ?_) (fun c_7 => ?_)
    · exact hQ _ _ _ _ _ hw (⟨hT, hs, hm0, hu⟩) dX3_passTo_20
    · refine lv_aload_n hx hb dX3_passTo_10 rfl (lv_at hl 1 rfl) ?_
      refine ti_callVv (ci := 3) (av := []) C hw (k_X3_pass l D A cy hJ _ q t hq ht hT hs hm0 hu) ⟨ml_X3_140, ym_X3_pass, yv_X3_pass, yi_X3_pass, yc_X3_pass⟩ yd_X3_pass hq (by decide) rfl rfl hl.1 (Nat.le_of_ble_eq_true rfl) ⟨by decide, by decide⟩ ⟨Nat.zero_le _, Nat.zero_le _⟩ dX3_passTo_11 (fun M_3 H locs hp_3 hw => ?_)
      obtain ⟨g_4, hm⟩ := hp_3
      have hw := hw.to hm
      obtain ⟨x_5, ex_5⟩ : ∃ z : Int32, z = tt + 1 := ⟨_, rfl⟩
      refine lv_iinc (v := x_5) (lv' := [(2, .int x_5), (0, .ref (A q 0)), (1, .int un)]) hx hb dX3_passTo_14 hl (k := 0) rfl (by rw [ex_5]; rfl) (by decide) rfl (fun ls hl => ?_)
      refine lv_goto (tgt := 5) hx hb dX3_passTo_17 (by decide) ?_
      exact ih x_5 (uI (uY Mx q 16 g_4) q 2 (tI Mx q 2 + 1)) _ _ _ (by have h1 := ti_inc (un := un) c_7; rw [← ex_5] at h1; omega) hT hs hm0 hu hw (lv_sub hl [0, 1, 2] rfl)

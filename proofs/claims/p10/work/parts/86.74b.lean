variable {Tc : gC} {Tm : gM}
set_option maxHeartbeats 4000000 in
set_option maxRecDepth 100000 in
theorem z_X3_welcome (l : Launch) (D : va_G) (A : Nat → Nat → Nat) (cy : Nat → ClassId) (hJ : ti_inj ti_LT A) (M : ti_M) (hI : cI Tc M) (q t : Nat) (hq : ti_ob ti_LT q 3) (ht : t = 3 ∨ t = 4) (hT : tT M q 0 = some t) (tx rg : Nat → Int) (htx : tC t tx M) (hs : qC q rg M) : ti_Kv l yX3_welcome cX3_welcome 3 2 ti_LT D A cy M [.ref (A q 0)] (fun M2 => cI Tc M2 ∧ M2.2.2.2 = M.2.2.2 ∧ eo q M2 M ∧ qC q (bq_wl tx (tx 4).toNat rg) M2) := by
  refine ti_eV yp_X3_welcome hJ ti_LT_nd (Nat.le_of_ble_eq_true rfl) ?_
  intro p e s m args below meth c Q H0 C hQ hw ls hl
  have hx := C.1
  have hb := C.2.1
  have hl : lv_has ls 3 [(0, .ref (A q 0))] := hl
  refine lv_iconst (v := 0) hx hb dX3_welcome_0 (by decide) ?_
  refine lv_istore_n (lv' := [(1, .int 0), (0, .ref (A q 0))]) hx hb dX3_welcome_1 rfl hl (by decide) rfl (fun ls hl => ?_)
  have hl_2_9 : ∀ (n_10 : Nat) (x_1 : Int32) (M_4 : ti_M) (g_7 : Nat → Int) (H : Heap) (locs : List Loc) (ls : Array Slot), (8 - x_1.toInt : Int).toNat < n_10 → (0 ≤ x_1.toInt) → (x_1.toInt ≤ 8) → (cI Tc M_4) → (M_4.2.2.2 = M.2.2.2) → (eo q M_4 M) → (qC q g_7 M_4) → (bq_wl tx ((tx 4).toNat - (x_1.toInt).toNat) g_7 = bq_wl tx (tx 4).toNat rg) → ti_H ti_LT D A cy H0 M_4 H locs → lv_has ls 3 [(1, .int x_1), (0, .ref (A q 0))] → W p l e (ti_rm 2) s m args below meth c H locs 0 0 Q (F0 m 2 ls []) := by
    intro n_10
    induction n_10 with
    | zero => intro x_1 M_4 g_7 H locs ls hf_10; exact absurd hf_10 (Nat.not_lt_zero _)
    | succ n_10 ih_10 =>
      intro x_1 M_4 g_7 H locs ls hf_10 b_2 b_3 iM_4 f_5 f_6 hs_8 j_9 hw hl
      refine lv_iload_n hx hb dX3_welcome_2 rfl (lv_at hl 0 rfl) ?_
      refine lv_aload_n hx hb dX3_welcome_3 rfl (lv_at hl 1 rfl) ?_
      refine ti_get (ci := 3) (k := 0) (N := 17) (T := TX3) (v := .ref (A t 0)) C hw iw_3 rfl hq (by decide) (by decide) fl_X3_45 rfl (ti_Tv ((tT_fr f_5).trans hT)) dX3_welcome_4 ?_
      refine ti_get (ci := 8) (k := 4) (N := 12) (T := TX8) C hw iw_8 rfl (ob_t ht) (by decide) (by decide) fl_X3_78 rfl rfl dX3_welcome_7 ?_
      refine lv_topi (fun x_11 ex_11 => ?_)
      have bx_11 : 0 ≤ x_11.toInt ∧ x_11.toInt ≤ 8 := cI_rd iM_4 (ob_t ht).1 ex_11
      have ux_11 : (tI M_4 t 4).toInt = x_11.toInt := by rw [ex_11]
      have L_12 : tx 4 = x_11.toInt := (((tC_eo ht hq.1 htx f_6).1 4 (by decide) (by decide)).trans (congrArg Int32.toInt (ex_11.symm))).trans rfl
      refine sb_icmp_ge (tgt := 35) hx hb rfl rfl dX3_welcome_10 (by decide) (fun c_10_12 => ?_) (fun c_10_12 => ?_)
      · exact hQ _ _ _ _ _ hw (⟨iM_4, (f_5), f_6, (by rw [← j_9, wl_end (tx := tx) (s := g_7) (f := (tx 4).toNat - x_1.toInt.toNat) (by omega)]; exact hs_8)⟩) dX3_welcome_35
      · refine lv_aload_n hx hb dX3_welcome_13 rfl (lv_at hl 1 rfl) ?_
        refine ti_callVi (ci := 3) (av := []) C hw (z_X3_nextToJoin l D A cy hJ M_4 iM_4 q t hq ht ((tT_fr f_5).trans hT) tx g_7 (tC_eo ht hq.1 htx f_6) hs_8) ⟨ml_X3_164, ym_X3_nextToJoin, yv_X3_nextToJoin, yi_X3_nextToJoin, yc_X3_nextToJoin⟩ yd_X3_nextToJoin hq (by decide) rfl rfl hl.1 (Nat.le_of_ble_eq_true rfl) ⟨by decide, by decide⟩ ⟨Nat.zero_le _, Nat.zero_le _⟩ dX3_welcome_14 (fun r_14 M_15 H locs hp_15 hw => ?_)
        obtain ⟨hm, b0r_14, b1r_14, pr_14⟩ := hp_15
        have hw := hw.to hm
        refine lv_istore_n (lv' := [(2, .int r_14), (1, .int x_1), (0, .ref (A q 0))]) hx hb dX3_welcome_17 rfl hl (by decide) rfl (fun ls hl => ?_)
        refine lv_iload_n hx hb dX3_welcome_18 rfl (lv_at hl 0 rfl) ?_
        refine lv_iconst (v := (-1)) hx hb dX3_welcome_19 (by decide) ?_
        refine sb_icmp_ne (tgt := 24) hx hb rfl (by decide : ((-1) : Int32).toInt = (-1)) dX3_welcome_20 (by decide) (fun c_20_15 => ?_) (fun c_20_15 => ?_)
        · refine lv_aload_n hx hb dX3_welcome_24 rfl (lv_at hl 2 rfl) ?_
          refine lv_iload_n hx hb dX3_welcome_25 rfl (lv_at hl 0 rfl) ?_
          refine ti_callVv (ci := 3) (av := [.int r_14]) C hw (z_X3_append l D A cy hJ M_4 iM_4 q hq r_14 (by omega) (by omega) g_7 hs_8) ⟨ml_X3_168, ym_X3_append, yv_X3_append, yi_X3_append, yc_X3_append⟩ yd_X3_append hq (by decide) rfl rfl hl.1 (Nat.le_of_ble_eq_true rfl) ⟨by decide, by decide⟩ ⟨Nat.zero_le _, Nat.zero_le _⟩ dX3_welcome_26 (fun M_18 H locs hp_18 hw => ?_)
          obtain ⟨iM_18, q_19, q_20, hs_21⟩ := hp_18
          obtain ⟨g_22, eg_22⟩ : ∃ z : Nat → Int, z = bq_ap g_7 r_14.toInt := ⟨_, rfl⟩
          rw [← eg_22] at hs_21
          obtain ⟨x_23, ex_23⟩ : ∃ z : Int32, z = x_1 + 1 := ⟨_, rfl⟩
          have tx_23 : x_23.toInt = x_1.toInt + 1 := i_add ex_23 rfl (by decide) (by omega) (by omega)
          refine lv_iinc (v := x_23) (lv' := [(1, .int x_23), (2, .int r_14), (0, .ref (A q 0))]) hx hb dX3_welcome_29 hl (k := 1) rfl (by rw [ex_23]; rfl) (by decide) rfl (fun ls hl => ?_)
          refine lv_goto (tgt := 2) hx hb dX3_welcome_32 (by decide) ?_
          exact ih_10 x_23 M_18 g_22 _ _ _ (by omega) (by first | omega | decide) (by first | omega | decide) iM_18 ((q_19).trans f_5) (eo.trans q_20 f_6) hs_21 (by rw [← j_9, wl_go (tx := tx) (s := g_7) (f := (tx 4).toNat - x_1.toInt.toNat) (f' := (tx 4).toNat - x_23.toInt.toNat) (by omega) (by omega), ← pr_14, ← eg_22]) hw (lv_sub hl [0, 2] rfl)
        · exact hQ _ _ _ _ _ hw (⟨iM_4, (f_5), f_6, (by rw [← j_9, wl_end (tx := tx) (s := g_7) (f := (tx 4).toNat - x_1.toInt.toNat) (by omega)]; exact hs_8)⟩) dX3_welcome_23
  exact hl_2_9 ((8 - 0 : Int).toNat + 1) 0 M rg _ _ _ (Nat.lt_succ_self _) (by have lt0 : (0 : Int32).toInt = 0 := (by decide); first | omega | decide) (by have lt0 : (0 : Int32).toInt = 0 := (by decide); first | omega | decide) hI rfl eo.refl hs (by show bq_wl tx ((tx 4).toNat - 0) _ = _; rfl) hw (lv_sub hl [0, 1] rfl)
set_option maxHeartbeats 4000000 in
set_option maxRecDepth 100000 in
theorem z_X3_hearCoughs (l : Launch) (D : va_G) (A : Nat → Nat → Nat) (cy : Nat → ClassId) (hJ : ti_inj ti_LT A) (M : ti_M) (hI : cI Tc M) (q t : Nat) (hq : ti_ob ti_LT q 3) (ht : t = 3 ∨ t = 4) (hT : tT M q 0 = some t) (tx rg : Nat → Int) (htx : tC t tx M) (hs : qC q rg M) (hm : rg 1 = 0 ∨ rg 1 = 1 ∨ rg 1 = 3) : ti_Kv l yX3_hearCoughs cX3_hearCoughs 4 3 ti_LT D A cy M [.ref (A q 0)] (fun M2 => cI Tc M2 ∧ M2.2.2.2 = M.2.2.2 ∧ eo q M2 M ∧ qC q (bq_hc tx rg) M2) := by
  refine ti_eV yp_X3_hearCoughs hJ ti_LT_nd (Nat.le_of_ble_eq_true rfl) ?_
  intro p e s m args below meth c Q H0 C hQ hw ls hl
  have hx := C.1
  have hb := C.2.1
  have hl : lv_has ls 4 [(0, .ref (A q 0))] := hl
  refine lv_aload_n hx hb dX3_hearCoughs_0 rfl (lv_at hl 0 rfl) ?_
  refine lv_iconst (v := 1) hx hb dX3_hearCoughs_1 (by decide) ?_
  refine ti_callVi (ci := 3) (av := [.int 1]) C hw (z_X3_is l D A cy hJ M hI q hq 1 rg hs (by omega) (by decide)) ⟨ml_X3_182, ym_X3_is, yv_X3_is, yi_X3_is, yc_X3_is⟩ yd_X3_is hq (by decide) rfl rfl hl.1 (Nat.le_of_ble_eq_true rfl) ⟨by decide, by decide⟩ ⟨Nat.zero_le _, Nat.zero_le _⟩ dX3_hearCoughs_2 (fun r_1 M_2 H locs hp_2 hw => ?_)
  obtain ⟨hm, hz⟩ := hp_2
  have hw := hw.to hm
  try simp only [show (1 : Int32).toInt = 1 by decide] at hz
  rcases hz with ⟨rfl, dg_3⟩ | ⟨rfl, dg_3⟩
  · refine sb_if_eq (tgt := 9) hx hb (by decide : (1 : Int32).toInt = 1) dX3_hearCoughs_5 (by decide) (fun h => absurd h (by decide)) (fun c_5_3 => ?_)
    exact hQ _ _ _ _ _ hw (⟨hI, rfl, eo.refl, (by unfold bq_hc; rw [if_neg (by omega)]; exact hs)⟩) dX3_hearCoughs_8
  · refine sb_if_eq (tgt := 9) hx hb (by decide : (0 : Int32).toInt = 0) dX3_hearCoughs_5 (by decide) (fun c_5_4 => ?_) (fun h => absurd h (by decide))
    refine lv_iconst (v := 0) hx hb dX3_hearCoughs_9 (by decide) ?_
    refine lv_istore_n (lv' := [(1, .int 0), (0, .ref (A q 0))]) hx hb dX3_hearCoughs_10 rfl hl (by decide) rfl (fun ls hl => ?_)
    refine lv_aload_n hx hb dX3_hearCoughs_11 rfl (lv_at hl 1 rfl) ?_
    refine ti_callVi (ci := 3) (av := []) C hw (z_X3_lastHeard l D A cy hJ M hI q t hq ht (hT) tx rg htx hs) ⟨ml_X3_186, ym_X3_lastHeard, yv_X3_lastHeard, yi_X3_lastHeard, yc_X3_lastHeard⟩ yd_X3_lastHeard hq (by decide) rfl rfl hl.1 (Nat.le_of_ble_eq_true rfl) ⟨by decide, by decide⟩ ⟨Nat.zero_le _, Nat.zero_le _⟩ dX3_hearCoughs_12 (fun r_7 M_8 H locs hp_8 hw => ?_)
    obtain ⟨hm, b1r_7, pr_7⟩ := hp_8
    have hw := hw.to hm
    refine lv_istore_n (lv' := [(2, .int r_7), (1, .int 0), (0, .ref (A q 0))]) hx hb dX3_hearCoughs_15 rfl hl (by decide) rfl (fun ls hl => ?_)
    refine lv_iconst (v := 1) hx hb dX3_hearCoughs_16 (by decide) ?_
    refine lv_istore_n (lv' := [(3, .int 1), (2, .int r_7), (1, .int 0), (0, .ref (A q 0))]) hx hb dX3_hearCoughs_17 rfl hl (by decide) rfl (fun ls hl => ?_)
    have hl_18_13 : ∀ (n_14 : Nat) (x_9 : Int32) (x_12 : Int32) (H : Heap) (locs : List Loc) (ls : Array Slot), (8 - x_9.toInt : Int).toNat < n_14 → (1 ≤ x_9.toInt) → (x_9.toInt ≤ 8) → (bq_hs rg ((r_7.toInt) + 1 - (x_9.toInt)).toNat (x_9.toInt).toNat (x_12.toInt) = bq_hs rg (bq_lh tx rg).toNat 1 0) → ti_H ti_LT D A cy H0 M H locs → lv_has ls 4 [(3, .int x_9), (2, .int r_7), (1, .int x_12), (0, .ref (A q 0))] → W p l e (ti_rm 3) s m args below meth c H locs 0 0 Q (F0 m 18 ls []) := by
      intro n_14
      induction n_14 with
      | zero => intro x_9 x_12 H locs ls hf_14; exact absurd hf_14 (Nat.not_lt_zero _)
      | succ n_14 ih_14 =>
        intro x_9 x_12 H locs ls hf_14 b_10 b_11 j_13 hw hl
        refine lv_iload_n hx hb dX3_hearCoughs_18 rfl (lv_at hl 0 rfl) ?_
        refine lv_iload_n hx hb dX3_hearCoughs_19 rfl (lv_at hl 1 rfl) ?_
        refine sb_icmp_gt (tgt := 43) hx hb rfl rfl dX3_hearCoughs_20 (by decide) (fun c_20_14 => ?_) (fun c_20_14 => ?_)
        · have EH : bq_hs rg (bq_lh tx rg).toNat 1 0 = x_12.toInt := by rw [← j_13, hs_end (by omega)]
          refine lv_iload_n hx hb dX3_hearCoughs_43 rfl (lv_at hl 2 rfl) ?_
          refine sb_if_le (tgt := 68) hx hb rfl dX3_hearCoughs_44 (by decide) (fun c_44_21 => ?_) (fun c_44_21 => ?_)
          · refine lv_aload_n hx hb dX3_hearCoughs_68 rfl (lv_at hl 3 rfl) ?_
            refine ti_get (ci := 3) (k := 16) (N := 17) (T := TX3) (v := .ref (A q 17)) C hw iw_3 rfl hq (by decide) (by decide) fl_X3_42 rfl rfl dX3_hearCoughs_69 ?_
            refine lv_iconst (v := 0) hx hb dX3_hearCoughs_72 (by decide) ?_
            refine ti_callSv (av := [.ref (A q 17), .int 0]) C hw (k_fill l D A cy ti_LT_nd hJ M q 16 3 8 0 hq (by decide) (fun _ _ => rfl) (by decide)) ⟨ml_X3_93, ys_J7_fill_53178, yi_J7_fill_53178, yc_J7_fill_53178⟩ yd_J7_fill_53178 rfl hl.1 (Nat.le_of_ble_eq_true rfl) ⟨by decide, by decide⟩ ⟨Nat.zero_le _, Nat.zero_le _⟩ dX3_hearCoughs_73 (fun M_41 H locs hp hw => ?_)
            obtain ⟨g_42, hM_41, hgM_41⟩ := hp
            have iM_41 : cI Tc M_41 := cI_uY hI hM_41 hq.1 (fun _ => trivial)
            have hs_43 : qC q (bq_fc rg) M_41 := qC_fl hs hM_41 hgM_41
            obtain ⟨g_44, eg_44⟩ : ∃ z : Nat → Int, z = bq_fc rg := ⟨_, rfl⟩
            rw [← eg_44] at hs_43
            have E_45 : bq_hc tx rg = g_44 := by unfold bq_hc; rw [if_pos (by omega), EH, if_neg (by omega), ← eg_44]
            exact hQ _ _ _ _ _ hw (⟨iM_41, (rf_Y hM_41), (eo_Y hM_41), (by rw [E_45]; exact hs_43)⟩) dX3_hearCoughs_76
          · refine lv_iload_n hx hb dX3_hearCoughs_47 rfl (lv_at hl 2 rfl) ?_
            refine lv_aload_n hx hb dX3_hearCoughs_48 rfl (lv_at hl 3 rfl) ?_
            refine ti_callVi (ci := 3) (av := []) C hw (z_X3_need l D A cy hJ M hI q t hq ht (hT) tx rg htx hs) ⟨ml_X3_189, ym_X3_need, yv_X3_need, yi_X3_need, yc_X3_need⟩ yd_X3_need hq (by decide) rfl rfl hl.1 (Nat.le_of_ble_eq_true rfl) ⟨by decide, by decide⟩ ⟨Nat.zero_le _, Nat.zero_le _⟩ dX3_hearCoughs_49 (fun r_23 M_24 H locs hp_24 hw => ?_)
            obtain ⟨iM_24, q_25, q_26, q_27, pr_23⟩ := hp_24
            have hs_28 : qC q rg M_24 := qC_of hs q_26 q_27
            refine sb_icmp_lt (tgt := 68) hx hb rfl rfl dX3_hearCoughs_52 (by decide) (fun c_52_28 => ?_) (fun c_52_28 => ?_)
            · refine lv_aload_n hx hb dX3_hearCoughs_68 rfl (lv_at hl 3 rfl) ?_
              refine ti_get (ci := 3) (k := 16) (N := 17) (T := TX3) (v := .ref (A q 17)) C hw iw_3 rfl hq (by decide) (by decide) fl_X3_42 rfl rfl dX3_hearCoughs_69 ?_
              refine lv_iconst (v := 0) hx hb dX3_hearCoughs_72 (by decide) ?_
              refine ti_callSv (av := [.ref (A q 17), .int 0]) C hw (k_fill l D A cy ti_LT_nd hJ M_24 q 16 3 8 0 hq (by decide) (fun _ _ => rfl) (by decide)) ⟨ml_X3_93, ys_J7_fill_53178, yi_J7_fill_53178, yc_J7_fill_53178⟩ yd_J7_fill_53178 rfl hl.1 (Nat.le_of_ble_eq_true rfl) ⟨by decide, by decide⟩ ⟨Nat.zero_le _, Nat.zero_le _⟩ dX3_hearCoughs_73 (fun M_46 H locs hp hw => ?_)
              obtain ⟨g_47, hM_46, hgM_46⟩ := hp
              have iM_46 : cI Tc M_46 := cI_uY iM_24 hM_46 hq.1 (fun _ => trivial)
              have hs_48 : qC q (bq_fc rg) M_46 := qC_fl hs_28 hM_46 hgM_46
              obtain ⟨g_49, eg_49⟩ : ∃ z : Nat → Int, z = bq_fc rg := ⟨_, rfl⟩
              rw [← eg_49] at hs_48
              have E_50 : bq_hc tx rg = g_49 := by unfold bq_hc; rw [if_pos (by omega), EH, if_neg (by omega), ← eg_49]
              exact hQ _ _ _ _ _ hw (⟨iM_46, ((rf_Y hM_46).trans q_25), (eo.trans (eo_Y hM_46) (eo_of q_26 q_27)), (by rw [E_50]; exact hs_48)⟩) dX3_hearCoughs_76
            · refine lv_aload_n hx hb dX3_hearCoughs_55 rfl (lv_at hl 3 rfl) ?_
              refine ti_callVi (ci := 3) (av := []) C hw (z_X3_isGuarded l D A cy hJ M_24 iM_24 q t hq ht ((tT_fr q_25).trans hT) tx rg (tC_eo ht hq.1 htx (eo_of q_26 q_27)) hs_28) ⟨ml_X3_192, ym_X3_isGuarded, yv_X3_isGuarded, yi_X3_isGuarded, yc_X3_isGuarded⟩ yd_X3_isGuarded hq (by decide) rfl rfl hl.1 (Nat.le_of_ble_eq_true rfl) ⟨by decide, by decide⟩ ⟨Nat.zero_le _, Nat.zero_le _⟩ dX3_hearCoughs_56 (fun r_30 M_31 H locs hp_31 hw => ?_)
              obtain ⟨hm, hz⟩ := hp_31
              have hw := hw.to hm
              rcases hz with ⟨rfl, dg_32⟩ | ⟨rfl, dg_32⟩
              · refine sb_if_ne (tgt := 68) hx hb (by decide : (1 : Int32).toInt = 1) dX3_hearCoughs_59 (by decide) (fun c_59_32 => ?_) (fun h => absurd h (by decide))
                refine lv_aload_n hx hb dX3_hearCoughs_68 rfl (lv_at hl 3 rfl) ?_
                refine ti_get (ci := 3) (k := 16) (N := 17) (T := TX3) (v := .ref (A q 17)) C hw iw_3 rfl hq (by decide) (by decide) fl_X3_42 rfl rfl dX3_hearCoughs_69 ?_
                refine lv_iconst (v := 0) hx hb dX3_hearCoughs_72 (by decide) ?_
                refine ti_callSv (av := [.ref (A q 17), .int 0]) C hw (k_fill l D A cy ti_LT_nd hJ M_24 q 16 3 8 0 hq (by decide) (fun _ _ => rfl) (by decide)) ⟨ml_X3_93, ys_J7_fill_53178, yi_J7_fill_53178, yc_J7_fill_53178⟩ yd_J7_fill_53178 rfl hl.1 (Nat.le_of_ble_eq_true rfl) ⟨by decide, by decide⟩ ⟨Nat.zero_le _, Nat.zero_le _⟩ dX3_hearCoughs_73 (fun M_51 H locs hp hw => ?_)
                obtain ⟨g_52, hM_51, hgM_51⟩ := hp
                have iM_51 : cI Tc M_51 := cI_uY iM_24 hM_51 hq.1 (fun _ => trivial)
                have hs_53 : qC q (bq_fc rg) M_51 := qC_fl hs_28 hM_51 hgM_51
                obtain ⟨g_54, eg_54⟩ : ∃ z : Nat → Int, z = bq_fc rg := ⟨_, rfl⟩
                rw [← eg_54] at hs_53
                have E_55 : bq_hc tx rg = g_54 := by unfold bq_hc; rw [if_pos (by omega), EH, if_neg (by omega), ← eg_54]
                exact hQ _ _ _ _ _ hw (⟨iM_51, ((rf_Y hM_51).trans q_25), (eo.trans (eo_Y hM_51) (eo_of q_26 q_27)), (by rw [E_55]; exact hs_53)⟩) dX3_hearCoughs_76
              · refine sb_if_ne (tgt := 68) hx hb (by decide : (0 : Int32).toInt = 0) dX3_hearCoughs_59 (by decide) (fun h => absurd h (by decide)) (fun c_59_33 => ?_)
                refine lv_aload_n hx hb dX3_hearCoughs_62 rfl (lv_at hl 3 rfl) ?_
                refine lv_iconst (v := 0) hx hb dX3_hearCoughs_63 (by decide) ?_
                refine lv_iconst (v := 3) hx hb dX3_hearCoughs_64 (by decide) ?_
                refine ti_callVv (ci := 3) (av := [.int 0, .int 3]) C hw (z_X3_remove l D A cy hJ M_24 iM_24 q hq 0 3 rg hs_28) ⟨ml_X3_196, ym_X3_remove, yv_X3_remove, yi_X3_remove, yc_X3_remove⟩ yd_X3_remove hq (by decide) rfl rfl hl.1 (Nat.le_of_ble_eq_true rfl) ⟨by decide, by decide⟩ ⟨Nat.zero_le _, Nat.zero_le _⟩ dX3_hearCoughs_65 (fun M_36 H locs hp_36 hw => ?_)
                obtain ⟨iM_36, q_37, q_38, hs_39⟩ := hp_36
                try simp only [show (0 : Int32).toInt = 0 by decide] at hs_39
                try simp only [show (3 : Int32).toInt = 3 by decide] at hs_39
                obtain ⟨g_40, eg_40⟩ : ∃ z : Nat → Int, z = bq_rm rg 0 3 := ⟨_, rfl⟩
                rw [← eg_40] at hs_39
                refine lv_aload_n hx hb dX3_hearCoughs_68 rfl (lv_at hl 3 rfl) ?_
                refine ti_get (ci := 3) (k := 16) (N := 17) (T := TX3) (v := .ref (A q 17)) C hw iw_3 rfl hq (by decide) (by decide) fl_X3_42 rfl rfl dX3_hearCoughs_69 ?_
                refine lv_iconst (v := 0) hx hb dX3_hearCoughs_72 (by decide) ?_
                refine ti_callSv (av := [.ref (A q 17), .int 0]) C hw (k_fill l D A cy ti_LT_nd hJ M_36 q 16 3 8 0 hq (by decide) (fun _ _ => rfl) (by decide)) ⟨ml_X3_93, ys_J7_fill_53178, yi_J7_fill_53178, yc_J7_fill_53178⟩ yd_J7_fill_53178 rfl hl.1 (Nat.le_of_ble_eq_true rfl) ⟨by decide, by decide⟩ ⟨Nat.zero_le _, Nat.zero_le _⟩ dX3_hearCoughs_73 (fun M_56 H locs hp hw => ?_)
                obtain ⟨g_57, hM_56, hgM_56⟩ := hp
                have iM_56 : cI Tc M_56 := cI_uY iM_36 hM_56 hq.1 (fun _ => trivial)
                have hs_58 : qC q (bq_fc g_40) M_56 := qC_fl hs_39 hM_56 hgM_56
                obtain ⟨g_59, eg_59⟩ : ∃ z : Nat → Int, z = bq_fc g_40 := ⟨_, rfl⟩
                rw [← eg_59] at hs_58
                have E_60 : bq_hc tx rg = g_59 := by unfold bq_hc; rw [if_pos (by omega), EH, if_pos (by omega), ← eg_40, ← eg_59]
                exact hQ _ _ _ _ _ hw (⟨iM_56, ((rf_Y hM_56).trans ((q_37).trans q_25)), (eo.trans (eo_Y hM_56) (eo.trans q_38 (eo_of q_26 q_27))), (by rw [E_60]; exact hs_58)⟩) dX3_hearCoughs_76
        · refine lv_iload_n hx hb dX3_hearCoughs_23 rfl (lv_at hl 2 rfl) ?_
          refine lv_aload_n hx hb dX3_hearCoughs_24 rfl (lv_at hl 3 rfl) ?_
          refine ti_get (ci := 3) (k := 16) (N := 17) (T := TX3) (v := .ref (A q 17)) C hw iw_3 rfl hq (by decide) (by decide) fl_X3_42 rfl rfl dX3_hearCoughs_25 ?_
          refine lv_aload_n hx hb dX3_hearCoughs_28 rfl (lv_at hl 3 rfl) ?_
          refine ti_get (ci := 3) (k := 6) (N := 17) (T := TX3) (v := .ref (A q 7)) C hw iw_3 rfl hq (by decide) (by decide) fl_X3_9 rfl rfl dX3_hearCoughs_29 ?_
          refine lv_iload_n hx hb dX3_hearCoughs_32 rfl (lv_at hl 0 rfl) ?_
          refine ti_iald (ci := 3) (k := 6) (n := 8) C hw hq (by decide) (fun _ _ => rfl) (vp_in_iff.mpr (by omega)) dX3_hearCoughs_33 ?_
          refine lv_topi (fun x_16 ex_16 => ?_)
          have bx_16 : 0 ≤ x_16.toInt ∧ x_16.toInt ≤ 7 := cI_ry hI hq.1 ex_16
          have L_17 : rg (96 + x_9.toInt.toNat) = x_16.toInt := qC_y (k := 6) hs rfl (by omega) (by omega) (by decide) (by decide) ex_16
          refine ti_iald (ci := 3) (k := 16) (n := 8) C hw hq (by decide) (fun _ _ => rfl) (vp_in_iff.mpr (by omega)) dX3_hearCoughs_34 ?_
          refine lv_topi (fun x_18 ex_18 => ?_)
          have L_19 : rg (256 + x_16.toInt.toNat) = x_18.toInt := qC_y (k := 16) hs rfl (by omega) (by omega) (by decide) (by decide) ex_18
          refine lv_iadd hx hb dX3_hearCoughs_35 ?_
          refine lv_topi (fun x_20 ex_20 => ?_)
          have tx_20 : x_20.toInt = bw (x_12.toInt + x_18.toInt) := bw_add ex_20 rfl rfl
          refine lv_istore_n (lv' := [(1, .int x_20), (3, .int x_9), (2, .int r_7), (0, .ref (A q 0))]) hx hb dX3_hearCoughs_36 rfl hl (by decide) rfl (fun ls hl => ?_)
          obtain ⟨x_21, ex_21⟩ : ∃ z : Int32, z = x_9 + 1 := ⟨_, rfl⟩
          have tx_21 : x_21.toInt = x_9.toInt + 1 := i_add ex_21 rfl (by decide) (by omega) (by omega)
          refine lv_iinc (v := x_21) (lv' := [(3, .int x_21), (1, .int x_20), (2, .int r_7), (0, .ref (A q 0))]) hx hb dX3_hearCoughs_37 hl (k := 1) rfl (by rw [ex_21]; rfl) (by decide) rfl (fun ls hl => ?_)
          refine lv_goto (tgt := 18) hx hb dX3_hearCoughs_40 (by decide) ?_
          exact ih_14 x_21 x_20 _ _ _ (by omega) (by first | omega | decide) (by first | omega | decide) (by rw [← j_13, hs_go (s := rg) (f := (r_7.toInt + 1 - x_9.toInt).toNat) (f' := (r_7.toInt + 1 - x_21.toInt).toNat) (p := x_9.toInt.toNat) (h := x_12.toInt) (by omega), L_17, L_19, ← tx_20, show x_21.toInt.toNat = x_9.toInt.toNat + 1 by omega]) hw (lv_sub hl [0, 2, 1, 3] rfl)
    exact hl_18_13 ((8 - 1 : Int).toNat + 1) 1 0 _ _ _ (Nat.lt_succ_self _) (by have lt0 : (0 : Int32).toInt = 0 := (by decide); have lt1 : (1 : Int32).toInt = 1 := (by decide); first | omega | decide) (by have lt0 : (0 : Int32).toInt = 0 := (by decide); have lt1 : (1 : Int32).toInt = 1 := (by decide); first | omega | decide) (by rw [show (1 : Int32).toInt = 1 by decide, show (0 : Int32).toInt = 0 by decide, show r_7.toInt + 1 - 1 = bq_lh tx rg by omega]; rfl) hw (lv_sub hl [0, 1, 2, 3] rfl)
set_option maxHeartbeats 4000000 in
set_option maxRecDepth 100000 in
theorem z_X3_pour (l : Launch) (D : va_G) (A : Nat → Nat → Nat) (cy : Nat → ClassId) (hJ : ti_inj ti_LT A) (M : ti_M) (hI : cI Tc M) (q t : Nat) (hq : ti_ob ti_LT q 3) (ht : t = 3 ∨ t = 4) (hT : tT M q 0 = some t) (tx rg : Nat → Int) (htx : tC t tx M) (hs : qC q rg M) (hm : rg 1 = 0 ∨ rg 1 = 1 ∨ rg 1 = 3) : ti_Kv l yX3_pour cX3_pour 4 1 ti_LT D A cy M [.ref (A q 0)] (fun M2 => cI Tc M2 ∧ M2.2.2.2 = M.2.2.2 ∧ eo q M2 M ∧ qC q (bq_pr tx rg) M2) := by
  refine ti_eV yp_X3_pour hJ ti_LT_nd (Nat.le_of_ble_eq_true rfl) ?_
  intro p e s m args below meth c Q H0 C hQ hw ls hl
  have hx := C.1
  have hb := C.2.1
  have hl : lv_has ls 4 [(0, .ref (A q 0))] := hl
  refine lv_aload_n hx hb dX3_pour_0 rfl (lv_at hl 0 rfl) ?_
  refine ti_get (ci := 3) (k := 3) (N := 17) (T := TX3) C hw iw_3 rfl hq (by decide) (by decide) fl_X3_56 rfl rfl dX3_pour_1 ?_
  refine lv_topi (fun x_1 ex_1 => ?_)
  have bx_1 : 0 ≤ x_1.toInt ∧ x_1.toInt ≤ 8 := cI_rd hI hq.1 ex_1
  have ux_1 : (tI M q 3).toInt = x_1.toInt := by rw [ex_1]
  have L_2 : rg 3 = x_1.toInt := ((hs.1 3 (by decide) (by decide)).trans (congrArg Int32.toInt (ex_1.symm))).trans rfl
  refine sb_if_ne (tgt := 8) hx hb rfl dX3_pour_4 (by decide) (fun c_4_2 => ?_) (fun c_4_2 => ?_)
  · refine lv_aload_n hx hb dX3_pour_8 rfl (lv_at hl 0 rfl) ?_
    refine ti_get (ci := 3) (k := 6) (N := 17) (T := TX3) (v := .ref (A q 7)) C hw iw_3 rfl hq (by decide) (by decide) fl_X3_9 rfl rfl dX3_pour_9 ?_
    refine lv_iconst (v := 0) hx hb dX3_pour_12 (by decide) ?_
    refine ti_iald (ci := 3) (k := 6) (n := 8) C hw hq (by decide) (fun _ _ => rfl) (by unfold vp_in; decide) dX3_pour_13 ?_
    refine lv_topi (fun x_5 ex_5 => ?_)
    have bx_5 : 0 ≤ x_5.toInt ∧ x_5.toInt ≤ 7 := cI_ry hI hq.1 ex_5
    have L_6 : rg 96 = x_5.toInt := (hs.2 6 0 (by decide) (by decide) (by decide) (by decide)).trans (congrArg Int32.toInt ex_5.symm)
    refine lv_istore_n (lv' := [(1, .int x_5), (0, .ref (A q 0))]) hx hb dX3_pour_14 rfl hl (by decide) rfl (fun ls hl => ?_)
    refine lv_aload_n hx hb dX3_pour_15 rfl (lv_at hl 1 rfl) ?_
    refine lv_bipush (v := 32) hx hb dX3_pour_16 (by decide) ?_
    refine ti_callVi (ci := 3) (av := [.int 32]) C hw (z_X3_is l D A cy hJ M hI q hq 32 rg hs (by omega) (by decide)) ⟨ml_X3_182, ym_X3_is, yv_X3_is, yi_X3_is, yc_X3_is⟩ yd_X3_is hq (by decide) rfl rfl hl.1 (Nat.le_of_ble_eq_true rfl) ⟨by decide, by decide⟩ ⟨Nat.zero_le _, Nat.zero_le _⟩ dX3_pour_18 (fun r_7 M_8 H locs hp_8 hw => ?_)
    obtain ⟨hm, hz⟩ := hp_8
    have hw := hw.to hm
    try simp only [show (32 : Int32).toInt = 32 by decide] at hz
    rcases hz with ⟨rfl, dg_9⟩ | ⟨rfl, dg_9⟩
    · exfalso; omega
    · refine sb_if_eq (tgt := 36) hx hb (by decide : (0 : Int32).toInt = 0) dX3_pour_21 (by decide) (fun c_21_9 => ?_) (fun h => absurd h (by decide))
      refine lv_aload_n hx hb dX3_pour_36 rfl (lv_at hl 1 rfl) ?_
      refine ti_get (ci := 3) (k := 0) (N := 17) (T := TX3) (v := .ref (A t 0)) C hw iw_3 rfl hq (by decide) (by decide) fl_X3_45 rfl (ti_Tv (hT)) dX3_pour_37 ?_
      refine ti_get (ci := 8) (k := 7) (N := 12) (T := TX8) C hw iw_8 rfl (ob_t ht) (by decide) (by decide) fl_X3_200 rfl rfl dX3_pour_40 ?_
      refine lv_topi (fun x_11 ex_11 => ?_)
      have L_12 : tx 7 = x_11.toInt := ((htx.1 7 (by decide) (by decide)).trans (congrArg Int32.toInt (ex_11.symm))).trans rfl
      refine lv_istore_n (lv' := [(2, .int x_11), (1, .int x_5), (0, .ref (A q 0))]) hx hb dX3_pour_43 rfl hl (by decide) rfl (fun ls hl => ?_)
      refine lv_iload_n hx hb dX3_pour_44 rfl (lv_at hl 0 rfl) ?_
      refine lv_aload_n hx hb dX3_pour_45 rfl (lv_at hl 2 rfl) ?_
      refine ti_get (ci := 3) (k := 0) (N := 17) (T := TX3) (v := .ref (A t 0)) C hw iw_3 rfl hq (by decide) (by decide) fl_X3_45 rfl (ti_Tv (hT)) dX3_pour_46 ?_
      refine ti_get (ci := 8) (k := 0) (N := 12) (T := TX8) (v := .ref (A t 1)) C hw iw_8 rfl (ob_t ht) (by decide) (by decide) fl_X3_81 rfl rfl dX3_pour_49 ?_
      refine lv_iload_n hx hb dX3_pour_52 rfl (lv_at hl 1 rfl) ?_
      refine ti_aald (ci := 8) (k := 0) (n := 8) (t0 := 5) (Cn := RX2) (gg := (ti_men t)) (j := x_5.toNatClampNeg) C hw (ob_t ht) (by decide) (fun _ _ => rfl) rfl (vp_in_iff.mpr (by omega)) rfl dX3_pour_53 ?_
      have ob_13 : ti_ob ti_LT (ti_men t x_5.toNatClampNeg) 2 := ob_m ht (i_nt rfl (by omega) (by omega))
      refine ti_get (ci := 2) (k := 4) (N := 10) (T := TX2) C hw iw_2 rfl ob_13 (by decide) (by decide) fl_X3_203 rfl rfl dX3_pour_54 ?_
      refine lv_topi (fun x_14 ex_14 => ?_)
      have L_15 : tx (100 + 16 * x_5.toInt.toNat + 4) = x_14.toInt := (((show tx (100 + 16 * x_5.toInt.toNat + 4) = _ from by rw [← (show x_5.toNatClampNeg = x_5.toInt.toNat from congrArg Int.toNat rfl)]; exact htx.2.2.1 x_5.toNatClampNeg 4 (i_nt (n := 8) rfl (by omega) (by omega)) (by decide) (by decide))).trans (congrArg Int32.toInt (ex_14.symm))).trans rfl
      refine lv_aload_n hx hb dX3_pour_57 rfl (lv_at hl 2 rfl) ?_
      refine ti_get (ci := 3) (k := 11) (N := 17) (T := TX3) (v := .ref (A q 12)) C hw iw_3 rfl hq (by decide) (by decide) fl_X3_27 rfl rfl dX3_pour_58 ?_
      refine lv_iload_n hx hb dX3_pour_61 rfl (lv_at hl 1 rfl) ?_
      refine ti_iald (ci := 3) (k := 11) (n := 8) C hw hq (by decide) (fun _ _ => rfl) (vp_in_iff.mpr (by omega)) dX3_pour_62 ?_
      refine lv_topi (fun x_16 ex_16 => ?_)
      have L_17 : rg (176 + x_5.toInt.toNat) = x_16.toInt := qC_y (k := 11) hs rfl (by omega) (by omega) (by decide) (by decide) ex_16
      refine lv_isub hx hb dX3_pour_63 ?_
      refine lv_topi (fun x_18 ex_18 => ?_)
      have tx_18 : x_18.toInt = bw (x_14.toInt - x_16.toInt) := bw_sub ex_18 rfl rfl
      refine ti_min C ml_X3_137 hl.1 (by decide) (Nat.le_of_ble_eq_true rfl) ⟨Nat.zero_le _, Nat.zero_le _⟩ dX3_pour_64 ?_
      refine lv_topi (fun x_19 ex_19 => ?_)
      have bx_19 := i_min ex_19 rfl rfl
      refine lv_istore_n (lv' := [(3, .int x_19), (2, .int x_11), (1, .int x_5), (0, .ref (A q 0))]) hx hb dX3_pour_67 rfl hl (by decide) rfl (fun ls hl => ?_)
      refine lv_aload_n hx hb dX3_pour_68 rfl (lv_at hl 3 rfl) ?_
      refine lv_bipush (v := 16) hx hb dX3_pour_69 (by decide) ?_
      refine ti_callVi (ci := 3) (av := [.int 16]) C hw (z_X3_is l D A cy hJ M hI q hq 16 rg hs (by omega) (by decide)) ⟨ml_X3_182, ym_X3_is, yv_X3_is, yi_X3_is, yc_X3_is⟩ yd_X3_is hq (by decide) rfl rfl hl.1 (Nat.le_of_ble_eq_true rfl) ⟨by decide, by decide⟩ ⟨Nat.zero_le _, Nat.zero_le _⟩ dX3_pour_71 (fun r_20 M_21 H locs hp_21 hw => ?_)
      obtain ⟨hm, hz⟩ := hp_21
      have hw := hw.to hm
      try simp only [show (16 : Int32).toInt = 16 by decide] at hz
      rcases hz with ⟨rfl, dg_22⟩ | ⟨rfl, dg_22⟩
      · exfalso; omega
      · refine sb_if_ne (tgt := 96) hx hb (by decide : (0 : Int32).toInt = 0) dX3_pour_74 (by decide) (fun h => absurd h (by decide)) (fun c_74_22 => ?_)
        refine lv_iload_n hx hb dX3_pour_77 rfl (lv_at hl 0 rfl) ?_
        refine lv_aload_n hx hb dX3_pour_78 rfl (lv_at hl 3 rfl) ?_
        refine ti_get (ci := 3) (k := 4) (N := 17) (T := TX3) C hw iw_3 rfl hq (by decide) (by decide) fl_X3_64 rfl rfl dX3_pour_79 ?_
        refine lv_topi (fun x_24 ex_24 => ?_)
        have L_25 : rg 4 = x_24.toInt := ((hs.1 4 (by decide) (by decide)).trans (congrArg Int32.toInt (ex_24.symm))).trans rfl
        refine ti_min C ml_X3_137 hl.1 (by decide) (Nat.le_of_ble_eq_true rfl) ⟨Nat.zero_le _, Nat.zero_le _⟩ dX3_pour_82 ?_
        refine lv_topi (fun x_26 ex_26 => ?_)
        have bx_26 := i_min ex_26 rfl rfl
        refine lv_istore_n (lv' := [(3, .int x_26), (2, .int x_11), (1, .int x_5), (0, .ref (A q 0))]) hx hb dX3_pour_85 rfl hl (by decide) rfl (fun ls hl => ?_)
        have EN : bq_pn tx rg = x_26.toInt := by unfold bq_pn; rw [L_6, L_15, L_17, ← tx_18]; unfold bq_mn; (repeat' split) <;> omega
        refine lv_aload_n hx hb dX3_pour_86 rfl (lv_at hl 3 rfl) ?_
        refine lv_dup hx hb dX3_pour_87 rfl ?_
        refine ti_get (ci := 3) (k := 4) (N := 17) (T := TX3) C hw iw_3 rfl hq (by decide) (by decide) fl_X3_64 rfl rfl dX3_pour_88 ?_
        refine ti_top (y := x_24) (ex_24.symm) ?_
        have L_27 : rg 4 = x_24.toInt := ((hs.1 4 (by decide) (by decide)).trans (congrArg Int32.toInt (ex_24.symm))).trans rfl
        refine lv_iload_n hx hb dX3_pour_91 rfl (lv_at hl 0 rfl) ?_
        refine lv_isub hx hb dX3_pour_92 ?_
        refine lv_topi (fun x_28 ex_28 => ?_)
        have tx_28 : x_28.toInt = bw (x_24.toInt - x_26.toInt) := bw_sub ex_28 rfl rfl
        refine ti_putI (ci := 3) (k := 4) (N := 17) (T := TX3) C hw iw_3 tyX3 tyX3_ok nmX3 rfl hq (by decide) (by decide) fl_X3_64 rfl rfl rfl rfl (fn_3 A _) fs_3_4 dX3_pour_93 (fun H locs hw => ?_)
        obtain ⟨M_29, hM_29⟩ : ∃ z : ti_M, z = uI M q 4 x_28 := ⟨_, rfl⟩
        have hw := hw.to hM_29.symm
        have iM_29 : cI Tc M_29 := cI_uI hI hM_29 hq.1 trivial
        have hs_30 : qC q (pp_su rg 4 x_28.toInt) M_29 := qC_I hs rfl hM_29 (by decide)
        obtain ⟨g_31, eg_31⟩ : ∃ z : Nat → Int, z = pp_su rg 4 x_28.toInt := ⟨_, rfl⟩
        rw [← eg_31] at hs_30
        have sg_31 : g_31 4 = x_28.toInt := by rw [eg_31, su_s]
        refine lv_aload_n hx hb dX3_pour_96 rfl (lv_at hl 3 rfl) ?_
        refine ti_get (ci := 3) (k := 11) (N := 17) (T := TX3) (v := .ref (A q 12)) C hw iw_3 rfl hq (by decide) (by decide) fl_X3_27 rfl rfl dX3_pour_97 ?_
        refine lv_iload_n hx hb dX3_pour_100 rfl (lv_at hl 2 rfl) ?_
        refine lv_dup2_11 hx hb dX3_pour_101 rfl rfl ?_
        refine ti_iald (ci := 3) (k := 11) (n := 8) C hw hq (by decide) (fun _ _ => rfl) (vp_in_iff.mpr (by omega)) dX3_pour_102 ?_
        refine lv_topi (fun x_32 ex_32 => ?_)
        have L_33 : g_31 (176 + x_5.toInt.toNat) = x_32.toInt := qC_y (k := 11) hs_30 rfl (by omega) (by omega) (by decide) (by decide) ex_32
        have L_34 : rg (176 + x_5.toInt.toNat) = x_32.toInt := (show g_31 (176 + x_5.toInt.toNat) = rg (176 + x_5.toInt.toNat) by rw [eg_31, su_n (by omega)]).symm.trans L_33
        refine lv_iload_n hx hb dX3_pour_103 rfl (lv_at hl 0 rfl) ?_
        refine lv_iadd hx hb dX3_pour_104 ?_
        refine lv_topi (fun x_35 ex_35 => ?_)
        have tx_35 : x_35.toInt = bw (x_32.toInt + x_26.toInt) := bw_add ex_35 rfl rfl
        refine ti_iast (ci := 3) (k := 11) (n := 8) C hw hq (by decide) (fun _ _ => rfl) (vp_in_iff.mpr (by omega)) dX3_pour_105 (fun H locs hw => ?_)
        obtain ⟨M_36, hM_36⟩ : ∃ z : ti_M, z = uY M_29 q 11 (upd (tY M_29 q 11) (x_5 : Int32).toNatClampNeg x_35) := ⟨_, rfl⟩
        have hw := hw.to hM_36.symm
        have iM_36 : cI Tc M_36 := cI_up iM_29 hM_36 hq.1 trivial
        have hs_37 : qC q (pp_su g_31 (176 + x_5.toInt.toNat) x_35.toInt) M_36 := qC_Y (k := 11) (j := x_5.toInt.toNat) (i := x_5) hs_30 (by omega) rfl hM_36 (by decide) (by omega)
        obtain ⟨g_38, eg_38⟩ : ∃ z : Nat → Int, z = pp_su g_31 (176 + x_5.toInt.toNat) x_35.toInt := ⟨_, rfl⟩
        rw [← eg_38] at hs_37
        have E_39 : bq_pr tx rg = g_38 := by unfold bq_pr; rw [if_neg (by omega), EN, L_6, show rg 4 = x_24.toInt by omega, show rg (176 + x_5.toInt.toNat) = x_32.toInt by omega, ← tx_28, ← tx_35, ← eg_31, ← eg_38]
        exact hQ _ _ _ _ _ hw (⟨iM_36, ((rf_Y hM_36).trans (rf_I hM_29)), (eo.trans (eo_Y hM_36) (eo_I hM_29)), (by rw [E_39]; exact hs_37)⟩) dX3_pour_106
  · exact hQ _ _ _ _ _ hw (⟨hI, rfl, eo.refl, (by unfold bq_pr; rw [if_pos (by omega)]; exact hs)⟩) dX3_pour_7
set_option maxHeartbeats 4000000 in
set_option maxRecDepth 100000 in
theorem z_X3_levy (l : Launch) (D : va_G) (A : Nat → Nat → Nat) (cy : Nat → ClassId) (hJ : ti_inj ti_LT A) (M : ti_M) (hI : cI Tc M) (q t : Nat) (hq : ti_ob ti_LT q 3) (ht : t = 3 ∨ t = 4) (hT : tT M q 0 = some t) (tx rg : Nat → Int) (htx : tC t tx M) (hs : qC q rg M) (hm : rg 1 = 0 ∨ rg 1 = 1 ∨ rg 1 = 3) (h2 : 0 ≤ rg 2) : ti_Kv l yX3_levy cX3_levy 6 2 ti_LT D A cy M [.ref (A q 0)] (fun M2 => cI Tc M2 ∧ M2.2.2.2 = M.2.2.2 ∧ eo q M2 M ∧ qC q (bq_ly tx rg) M2) := by
  refine ti_eV yp_X3_levy hJ ti_LT_nd (Nat.le_of_ble_eq_true rfl) ?_
  intro p e s m args below meth c Q H0 C hQ hw ls hl
  have hx := C.1
  have hb := C.2.1
  have hl : lv_has ls 6 [(0, .ref (A q 0))] := hl
  refine lv_aload_n hx hb dX3_levy_0 rfl (lv_at hl 0 rfl) ?_
  refine lv_aload_n hx hb dX3_levy_1 rfl (lv_at hl 0 rfl) ?_
  refine ti_get (ci := 3) (k := 7) (N := 17) (T := TX3) (v := .ref (A q 8)) C hw iw_3 rfl hq (by decide) (by decide) fl_X3_15 rfl rfl dX3_levy_2 ?_
  refine lv_iconst (v := 2) hx hb dX3_levy_5 (by decide) ?_
  refine ti_iald (ci := 3) (k := 7) (n := 3) C hw hq (by decide) (fun _ _ => rfl) (by unfold vp_in; decide) dX3_levy_6 ?_
  refine lv_topi (fun x_1 ex_1 => ?_)
  have L_2 : rg 114 = x_1.toInt := (hs.2 7 2 (by decide) (by decide) (by decide) (by decide)).trans (congrArg Int32.toInt ex_1.symm)
  refine ti_callVi (ci := 3) (av := [.int x_1]) C hw (z_X3_manAt l D A cy hJ M hI q hq x_1 rg hs) ⟨ml_X3_99, ym_X3_manAt, yv_X3_manAt, yi_X3_manAt, yc_X3_manAt⟩ yd_X3_manAt hq (by decide) rfl rfl hl.1 (Nat.le_of_ble_eq_true rfl) ⟨by decide, by decide⟩ ⟨Nat.zero_le _, Nat.zero_le _⟩ dX3_levy_7 (fun r_3 M_4 H locs hp_4 hw => ?_)
  obtain ⟨hm, b0r_3, b1r_3, pr_3, p0r_3⟩ := hp_4
  have hw := hw.to hm
  refine lv_istore_n (lv' := [(1, .int r_3), (0, .ref (A q 0))]) hx hb dX3_levy_10 rfl hl (by decide) rfl (fun ls hl => ?_)
  refine lv_aload_n hx hb dX3_levy_11 rfl (lv_at hl 1 rfl) ?_
  refine lv_iconst (v := 4) hx hb dX3_levy_12 (by decide) ?_
  refine ti_callVi (ci := 3) (av := [.int 4]) C hw (z_X3_is l D A cy hJ M hI q hq 4 rg hs (by omega) (by decide)) ⟨ml_X3_182, ym_X3_is, yv_X3_is, yi_X3_is, yc_X3_is⟩ yd_X3_is hq (by decide) rfl rfl hl.1 (Nat.le_of_ble_eq_true rfl) ⟨by decide, by decide⟩ ⟨Nat.zero_le _, Nat.zero_le _⟩ dX3_levy_13 (fun r_5 M_6 H locs hp_6 hw => ?_)
  obtain ⟨hm, hz⟩ := hp_6
  have hw := hw.to hm
  try simp only [show (4 : Int32).toInt = 4 by decide] at hz
  rcases hz with ⟨rfl, dg_7⟩ | ⟨rfl, dg_7⟩
  · exfalso; omega
  · refine sb_if_ne (tgt := 49) hx hb (by decide : (0 : Int32).toInt = 0) dX3_levy_16 (by decide) (fun h => absurd h (by decide)) (fun c_16_7 => ?_)
    refine lv_iload_n hx hb dX3_levy_19 rfl (lv_at hl 0 rfl) ?_
    refine sb_if_lt (tgt := 49) hx hb rfl dX3_levy_20 (by decide) (fun c_20_8 => ?_) (fun c_20_8 => ?_)
    · exact hQ _ _ _ _ _ hw (⟨hI, rfl, eo.refl, (by unfold bq_ly; rw [if_pos (by first | omega | (rw [L_2]; omega))]; exact hs)⟩) dX3_levy_49
    · refine lv_aload_n hx hb dX3_levy_23 rfl (lv_at hl 1 rfl) ?_
      refine ti_get (ci := 3) (k := 0) (N := 17) (T := TX3) (v := .ref (A t 0)) C hw iw_3 rfl hq (by decide) (by decide) fl_X3_45 rfl (ti_Tv (hT)) dX3_levy_24 ?_
      refine ti_get (ci := 8) (k := 8) (N := 12) (T := TX8) C hw iw_8 rfl (ob_t ht) (by decide) (by decide) fl_X3_206 rfl rfl dX3_levy_27 ?_
      refine lv_topi (fun x_10 ex_10 => ?_)
      have L_11 : tx 8 = x_10.toInt := ((htx.1 8 (by decide) (by decide)).trans (congrArg Int32.toInt (ex_10.symm))).trans rfl
      refine lv_iconst (v := 1) hx hb dX3_levy_30 (by decide) ?_
      refine sb_icmp_lt (tgt := 49) hx hb rfl (by decide : (1 : Int32).toInt = 1) dX3_levy_31 (by decide) (fun c_31_11 => ?_) (fun c_31_11 => ?_)
      · exact hQ _ _ _ _ _ hw (⟨hI, rfl, eo.refl, (by unfold bq_ly; rw [if_pos (by first | omega | (rw [L_2]; omega))]; exact hs)⟩) dX3_levy_49
      · refine lv_aload_n hx hb dX3_levy_34 rfl (lv_at hl 1 rfl) ?_
        refine ti_get (ci := 3) (k := 2) (N := 17) (T := TX3) C hw iw_3 rfl hq (by decide) (by decide) fl_X3_53 rfl rfl dX3_levy_35 ?_
        refine lv_topi (fun x_13 ex_13 => ?_)
        have L_14 : rg 2 = x_13.toInt := ((hs.1 2 (by decide) (by decide)).trans (congrArg Int32.toInt (ex_13.symm))).trans rfl
        refine lv_aload_n hx hb dX3_levy_38 rfl (lv_at hl 1 rfl) ?_
        refine ti_get (ci := 3) (k := 0) (N := 17) (T := TX3) (v := .ref (A t 0)) C hw iw_3 rfl hq (by decide) (by decide) fl_X3_45 rfl (ti_Tv (hT)) dX3_levy_39 ?_
        refine ti_get (ci := 8) (k := 8) (N := 12) (T := TX8) C hw iw_8 rfl (ob_t ht) (by decide) (by decide) fl_X3_206 rfl rfl dX3_levy_42 ?_
        refine ti_top (y := x_10) (ex_10.symm) ?_
        have L_15 : tx 8 = x_10.toInt := ((htx.1 8 (by decide) (by decide)).trans (congrArg Int32.toInt (ex_10.symm))).trans rfl
        refine lv_irem hx hb dX3_levy_45 (nz (by omega)) ?_
        refine lv_topi (fun x_16 ex_16 => ?_)
        have rx_16 := i_rem ex_16 rfl rfl (by omega) (by omega)
        have rm : rg 2 % tx 8 = x_16.toInt := by rw [L_14, L_15]; exact rx_16.2.2.symm
        refine sb_if_eq (tgt := 50) hx hb rfl dX3_levy_46 (by decide) (fun c_46_16 => ?_) (fun c_46_16 => ?_)
        · refine lv_iconst (v := 0) hx hb dX3_levy_50 (by decide) ?_
          refine lv_istore_n (lv' := [(2, .int 0), (1, .int r_3), (0, .ref (A q 0))]) hx hb dX3_levy_51 rfl hl (by decide) rfl (fun ls hl => ?_)
          have hl_52_27 : ∀ (n_28 : Nat) (x_18 : Int32) (M_21 : ti_M) (g_24 : Nat → Int) (H : Heap) (locs : List Loc) (ls : Array Slot), (8 - x_18.toInt : Int).toNat < n_28 → (0 ≤ x_18.toInt) → (x_18.toInt ≤ 8) → (cI Tc M_21) → (M_21.2.2.2 = M.2.2.2) → (eo q M_21 M) → (qC q g_24 M_21) → (bq_lf tx (r_3.toInt) ((g_24 3).toNat - (x_18.toInt).toNat) (x_18.toInt).toNat g_24 = bq_lf tx (r_3.toInt) (rg 3).toNat 0 rg) → (g_24 3 = rg 3) → ti_H ti_LT D A cy H0 M_21 H locs → lv_has ls 6 [(2, .int x_18), (1, .int r_3), (0, .ref (A q 0))] → W p l e (ti_rm 2) s m args below meth c H locs 0 0 Q (F0 m 52 ls []) := by
            intro n_28
            induction n_28 with
            | zero => intro x_18 M_21 g_24 H locs ls hf_28; exact absurd hf_28 (Nat.not_lt_zero _)
            | succ n_28 ih_28 =>
              intro x_18 M_21 g_24 H locs ls hf_28 b_19 b_20 iM_21 f_22 f_23 hs_25 j_26 j_27 hw hl
              refine lv_iload_n hx hb dX3_levy_52 rfl (lv_at hl 0 rfl) ?_
              refine lv_aload_n hx hb dX3_levy_53 rfl (lv_at hl 2 rfl) ?_
              refine ti_get (ci := 3) (k := 3) (N := 17) (T := TX3) C hw iw_3 rfl hq (by decide) (by decide) fl_X3_56 rfl rfl dX3_levy_54 ?_
              refine lv_topi (fun x_29 ex_29 => ?_)
              have bx_29 : 0 ≤ x_29.toInt ∧ x_29.toInt ≤ 8 := cI_rd iM_21 hq.1 ex_29
              have ux_29 : (tI M_21 q 3).toInt = x_29.toInt := by rw [ex_29]
              have L_30 : g_24 3 = x_29.toInt := ((hs_25.1 3 (by decide) (by decide)).trans (congrArg Int32.toInt (ex_29.symm))).trans rfl
              refine sb_icmp_ge (tgt := 137) hx hb rfl rfl dX3_levy_57 (by decide) (fun c_57_30 => ?_) (fun c_57_30 => ?_)
              · exact hQ _ _ _ _ _ hw (⟨iM_21, (f_22), f_23, (by unfold bq_ly; rw [L_2, if_neg (by omega), ← pr_3, ← j_26, lf_end (by omega)]; exact hs_25)⟩) dX3_levy_137
              · refine lv_aload_n hx hb dX3_levy_60 rfl (lv_at hl 2 rfl) ?_
                refine ti_get (ci := 3) (k := 6) (N := 17) (T := TX3) (v := .ref (A q 7)) C hw iw_3 rfl hq (by decide) (by decide) fl_X3_9 rfl rfl dX3_levy_61 ?_
                refine lv_iload_n hx hb dX3_levy_64 rfl (lv_at hl 0 rfl) ?_
                refine ti_iald (ci := 3) (k := 6) (n := 8) C hw hq (by decide) (fun _ _ => rfl) (vp_in_iff.mpr (by omega)) dX3_levy_65 ?_
                refine lv_topi (fun x_32 ex_32 => ?_)
                have bx_32 : 0 ≤ x_32.toInt ∧ x_32.toInt ≤ 7 := cI_ry iM_21 hq.1 ex_32
                have L_33 : g_24 (96 + x_18.toInt.toNat) = x_32.toInt := qC_y (k := 6) hs_25 rfl (by omega) (by omega) (by decide) (by decide) ex_32
                refine lv_istore_n (lv' := [(3, .int x_32), (2, .int x_18), (1, .int r_3), (0, .ref (A q 0))]) hx hb dX3_levy_66 rfl hl (by decide) rfl (fun ls hl => ?_)
                refine lv_iload_n hx hb dX3_levy_67 rfl (lv_at hl 0 rfl) ?_
                refine lv_iload_n hx hb dX3_levy_68 rfl (lv_at hl 2 rfl) ?_
                refine sb_icmp_eq (tgt := 131) hx hb rfl rfl dX3_levy_69 (by decide) (fun c_69_33 => ?_) (fun c_69_33 => ?_)
                · obtain ⟨x_59, ex_59⟩ : ∃ z : Int32, z = x_18 + 1 := ⟨_, rfl⟩
                  have tx_59 : x_59.toInt = x_18.toInt + 1 := i_add ex_59 rfl (by decide) (by omega) (by omega)
                  refine lv_iinc (v := x_59) (lv' := [(2, .int x_59), (3, .int x_32), (1, .int r_3), (0, .ref (A q 0))]) hx hb dX3_levy_131 hl (k := 1) rfl (by rw [ex_59]; rfl) (by decide) rfl (fun ls hl => ?_)
                  refine lv_goto (tgt := 52) hx hb dX3_levy_134 (by decide) ?_
                  exact ih_28 x_59 M_21 g_24 _ _ _ (by omega) (by first | omega | decide) (by first | omega | decide) iM_21 (f_22) f_23 hs_25 (by rw [← j_26, lf_go (tx := tx) (t := r_3.toInt) (s := g_24) (p := x_18.toInt.toNat) (f := (g_24 3).toNat - x_18.toInt.toNat) (f' := (g_24 3).toNat - x_59.toInt.toNat) (by omega), show bq_l1 tx g_24 r_3.toInt x_18.toInt.toNat = g_24 by (unfold bq_l1; rw [if_pos (by omega)]), show x_59.toInt.toNat = x_18.toInt.toNat + 1 by omega]) (by first | omega | decide) hw (lv_sub hl [0, 2, 3] rfl)
                · refine lv_aload_n hx hb dX3_levy_72 rfl (lv_at hl 3 rfl) ?_
                  refine ti_get (ci := 3) (k := 0) (N := 17) (T := TX3) (v := .ref (A t 0)) C hw iw_3 rfl hq (by decide) (by decide) fl_X3_45 rfl (ti_Tv ((tT_fr f_22).trans hT)) dX3_levy_73 ?_
                  refine ti_get (ci := 8) (k := 2) (N := 12) (T := TX8) (v := .ref (A t 3)) C hw iw_8 rfl (ob_t ht) (by decide) (by decide) fl_X3_119 rfl rfl dX3_levy_76 ?_
                  refine lv_iconst (v := 0) hx hb dX3_levy_79 (by decide) ?_
                  refine ti_aald (ci := 8) (k := 2) (n := 3) (t0 := 4) (Cn := RX1) (gg := (ti_laws t)) (j := 0) C hw (ob_t ht) (by decide) (fun _ _ => rfl) rfl (by unfold vp_in; decide) (by decide) dX3_levy_80 ?_
                  have ob_35 : ti_ob ti_LT (ti_laws t 0) 1 := ob_l ht (by decide)
                  refine lv_aload_n hx hb dX3_levy_81 rfl (lv_at hl 3 rfl) ?_
                  refine lv_iload_n hx hb dX3_levy_82 rfl (lv_at hl 1 rfl) ?_
                  refine lv_iload_n hx hb dX3_levy_83 rfl (lv_at hl 1 rfl) ?_
                  refine ti_callVl (ci := 1) (av := [.ref (A q 0), .int x_18, .int x_18]) C hw (z_X1_value l D A cy hJ M_21 iM_21 (ti_laws t 0) q t ob_35 hq ht ((tT_fr f_22).trans hT) x_18 x_18 (fun n => tx (400 + 64 * 0 + n)) (tx (300 + 0)) (fun n hn => ((tC_eo ht hq.1 htx f_23).2.2.2 0 (by decide)).2 n hn) (((tC_eo ht hq.1 htx f_23).2.2.2 0 (by decide)).1) tx g_24 (tC_eo ht hq.1 htx f_23) hs_25) ⟨ml_X3_123, ym_X1_value, yv_X1_value, yi_X1_value, yc_X1_value⟩ yd_X1_value ob_35 (by decide) rfl rfl hl.1 (Nat.le_of_ble_eq_true rfl) ⟨by decide, by decide⟩ ⟨Nat.zero_le _, Nat.zero_le _⟩ dX3_levy_84 (fun r_36 M_37 H locs hp_37 hw => ?_)
                  obtain ⟨iM_37, q_38, q_39, q_40, ppr_36⟩ := hp_37
                  have pr_36 : r_36.toInt = bq_lv tx g_24 0 x_18.toInt x_18.toInt := ppr_36
                  have hs_41 : qC q g_24 M_37 := qC_of hs_25 q_39 q_40
                  refine lv_iconst (v := 0) hx hb dX3_levy_87 (by decide) ?_
                  refine lv_bipush (v := 99) hx hb dX3_levy_88 (by decide) ?_
                  refine lv_iconst (v := 1) hx hb dX3_levy_90 (by decide) ?_
                  refine ti_callSi (av := [.long r_36, .int 0, .int 99, .int 1]) C hw (z_X3_put l D A cy hJ M_37 iM_37 r_36 0 99 1 (by first | decide | omega)) ⟨ml_X3_127, ys_X3_put, yi_X3_put, yc_X3_put⟩ yd_X3_put rfl hl.1 (Nat.le_of_ble_eq_true rfl) ⟨by decide, by decide⟩ ⟨Nat.zero_le _, Nat.zero_le _⟩ dX3_levy_91 (fun r_42 M_43 H locs hp_43 hw => ?_)
                  obtain ⟨hm, pr_42⟩ := hp_43
                  have hw := hw.to hm
                  try simp only [show (0 : Int32).toInt = 0 by decide] at pr_42
                  try simp only [show (99 : Int32).toInt = 99 by decide] at pr_42
                  try simp only [show (1 : Int32).toInt = 1 by decide] at pr_42
                  have bpr_42 : 0 ≤ r_42.toInt ∧ r_42.toInt ≤ 99 := by rw [pr_42]; unfold bq_pt; (repeat' split) <;> omega
                  refine lv_istore (lv' := [(4, .int r_42), (3, .int x_32), (2, .int x_18), (1, .int r_3), (0, .ref (A q 0))]) hx hb dX3_levy_94 hl (by decide) rfl (fun ls hl => ?_)
                  refine lv_iload hx hb dX3_levy_96 (lv_at hl 0 rfl) ?_
                  refine lv_aload_n hx hb dX3_levy_98 rfl (lv_at hl 4 rfl) ?_
                  refine ti_get (ci := 3) (k := 12) (N := 17) (T := TX3) (v := .ref (A q 13)) C hw iw_3 rfl hq (by decide) (by decide) fl_X3_30 rfl rfl dX3_levy_99 ?_
                  refine lv_iload_n hx hb dX3_levy_102 rfl (lv_at hl 1 rfl) ?_
                  refine ti_iald (ci := 3) (k := 12) (n := 8) C hw hq (by decide) (fun _ _ => rfl) (vp_in_iff.mpr (by omega)) dX3_levy_103 ?_
                  refine lv_topi (fun x_44 ex_44 => ?_)
                  have L_45 : g_24 (192 + x_32.toInt.toNat) = x_44.toInt := qC_y (k := 12) hs_41 rfl (by omega) (by omega) (by decide) (by decide) ex_44
                  refine ti_min C ml_X3_137 hl.1 (by decide) (Nat.le_of_ble_eq_true rfl) ⟨Nat.zero_le _, Nat.zero_le _⟩ dX3_levy_104 ?_
                  refine lv_topi (fun x_46 ex_46 => ?_)
                  have bx_46 := i_min ex_46 rfl rfl
                  refine lv_istore (lv' := [(5, .int x_46), (4, .int r_42), (3, .int x_32), (2, .int x_18), (1, .int r_3), (0, .ref (A q 0))]) hx hb dX3_levy_107 hl (by decide) rfl (fun ls hl => ?_)
                  refine lv_aload_n hx hb dX3_levy_109 rfl (lv_at hl 5 rfl) ?_
                  refine ti_get (ci := 3) (k := 12) (N := 17) (T := TX3) (v := .ref (A q 13)) C hw iw_3 rfl hq (by decide) (by decide) fl_X3_30 rfl rfl dX3_levy_110 ?_
                  refine lv_iload_n hx hb dX3_levy_113 rfl (lv_at hl 2 rfl) ?_
                  refine lv_dup2_11 hx hb dX3_levy_114 rfl rfl ?_
                  refine ti_iald (ci := 3) (k := 12) (n := 8) C hw hq (by decide) (fun _ _ => rfl) (vp_in_iff.mpr (by omega)) dX3_levy_115 ?_
                  refine lv_topi (fun x_47 ex_47 => ?_)
                  have L_48 : g_24 (192 + x_32.toInt.toNat) = x_47.toInt := qC_y (k := 12) hs_41 rfl (by omega) (by omega) (by decide) (by decide) ex_47
                  refine lv_iload hx hb dX3_levy_116 (lv_at hl 0 rfl) ?_
                  refine lv_isub hx hb dX3_levy_118 ?_
                  refine lv_topi (fun x_49 ex_49 => ?_)
                  have tx_49 : x_49.toInt = bw (x_47.toInt - x_46.toInt) := bw_sub ex_49 rfl rfl
                  refine ti_iast (ci := 3) (k := 12) (n := 8) C hw hq (by decide) (fun _ _ => rfl) (vp_in_iff.mpr (by omega)) dX3_levy_119 (fun H locs hw => ?_)
                  obtain ⟨M_50, hM_50⟩ : ∃ z : ti_M, z = uY M_37 q 12 (upd (tY M_37 q 12) (x_32 : Int32).toNatClampNeg x_49) := ⟨_, rfl⟩
                  have hw := hw.to hM_50.symm
                  have iM_50 : cI Tc M_50 := cI_up iM_37 hM_50 hq.1 trivial
                  have hs_51 : qC q (pp_su g_24 (192 + x_32.toInt.toNat) x_49.toInt) M_50 := qC_Y (k := 12) (j := x_32.toInt.toNat) (i := x_32) hs_41 (by omega) rfl hM_50 (by decide) (by omega)
                  obtain ⟨g_52, eg_52⟩ : ∃ z : Nat → Int, z = pp_su g_24 (192 + x_32.toInt.toNat) x_49.toInt := ⟨_, rfl⟩
                  rw [← eg_52] at hs_51
                  have w3g_52 : g_52 3 = g_24 3 := by rw [eg_52, su_n (by omega)]
                  refine lv_aload_n hx hb dX3_levy_120 rfl (lv_at hl 5 rfl) ?_
                  refine ti_get (ci := 3) (k := 12) (N := 17) (T := TX3) (v := .ref (A q 13)) C hw iw_3 rfl hq (by decide) (by decide) fl_X3_30 rfl rfl dX3_levy_121 ?_
                  refine lv_iload_n hx hb dX3_levy_124 rfl (lv_at hl 4 rfl) ?_
                  refine lv_dup2_11 hx hb dX3_levy_125 rfl rfl ?_
                  refine ti_iald (ci := 3) (k := 12) (n := 8) C hw hq (by decide) (fun _ _ => rfl) (vp_in_iff.mpr (by omega)) dX3_levy_126 ?_
                  refine lv_topi (fun x_53 ex_53 => ?_)
                  have L_54 : g_52 (192 + r_3.toInt.toNat) = x_53.toInt := qC_y (k := 12) hs_51 rfl (by omega) (by omega) (by decide) (by decide) ex_53
                  refine lv_iload hx hb dX3_levy_127 (lv_at hl 0 rfl) ?_
                  refine lv_iadd hx hb dX3_levy_129 ?_
                  refine lv_topi (fun x_55 ex_55 => ?_)
                  have tx_55 : x_55.toInt = bw (x_53.toInt + x_46.toInt) := bw_add ex_55 rfl rfl
                  refine ti_iast (ci := 3) (k := 12) (n := 8) C hw hq (by decide) (fun _ _ => rfl) (vp_in_iff.mpr (by omega)) dX3_levy_130 (fun H locs hw => ?_)
                  obtain ⟨M_56, hM_56⟩ : ∃ z : ti_M, z = uY M_50 q 12 (upd (tY M_50 q 12) (r_3 : Int32).toNatClampNeg x_55) := ⟨_, rfl⟩
                  have hw := hw.to hM_56.symm
                  have iM_56 : cI Tc M_56 := cI_up iM_50 hM_56 hq.1 trivial
                  have hs_57 : qC q (pp_su g_52 (192 + r_3.toInt.toNat) x_55.toInt) M_56 := qC_Y (k := 12) (j := r_3.toInt.toNat) (i := r_3) hs_51 (by omega) rfl hM_56 (by decide) (by omega)
                  obtain ⟨g_58, eg_58⟩ : ∃ z : Nat → Int, z = pp_su g_52 (192 + r_3.toInt.toNat) x_55.toInt := ⟨_, rfl⟩
                  rw [← eg_58] at hs_57
                  have w3g_58 : g_58 3 = g_52 3 := by rw [eg_58, su_n (by omega)]
                  obtain ⟨x_60, ex_60⟩ : ∃ z : Int32, z = x_18 + 1 := ⟨_, rfl⟩
                  have tx_60 : x_60.toInt = x_18.toInt + 1 := i_add ex_60 rfl (by decide) (by omega) (by omega)
                  refine lv_iinc (v := x_60) (lv' := [(2, .int x_60), (5, .int x_46), (4, .int r_42), (3, .int x_32), (1, .int r_3), (0, .ref (A q 0))]) hx hb dX3_levy_131 hl (k := 3) rfl (by rw [ex_60]; rfl) (by decide) rfl (fun ls hl => ?_)
                  refine lv_goto (tgt := 52) hx hb dX3_levy_134 (by decide) ?_
                  exact ih_28 x_60 M_56 g_58 _ _ _ (by omega) (by first | omega | decide) (by first | omega | decide) iM_56 ((rf_Y hM_56).trans ((rf_Y hM_50).trans ((q_38).trans f_22))) (eo.trans (eo_Y hM_56) (eo.trans (eo_Y hM_50) (eo.trans (eo_of q_39 q_40) f_23))) hs_57 (by rw [← j_26, lf_go (tx := tx) (t := r_3.toInt) (s := g_24) (p := x_18.toInt.toNat) (f := (g_24 3).toNat - x_18.toInt.toNat) (f' := (g_24 3).toNat - x_60.toInt.toNat) (by omega), show bq_l1 tx g_24 r_3.toInt x_18.toInt.toNat = g_58 by (unfold bq_l1 bq_py; rw [if_neg (by omega), L_33, show ((x_18.toInt.toNat : Nat) : Int) = x_18.toInt by omega, ← pr_36, ← pr_42, show g_24 (192 + x_32.toInt.toNat) = x_44.toInt by omega, show bq_mn r_42.toInt x_44.toInt = x_46.toInt by (unfold bq_mn; split <;> omega), show x_44.toInt = x_47.toInt by omega, ← tx_49, ← eg_52, show g_52 (192 + r_3.toInt.toNat) = x_53.toInt by omega, ← tx_55, ← eg_58]), show x_60.toInt.toNat = x_18.toInt.toNat + 1 by omega, show (g_58 3).toNat = (g_24 3).toNat by omega]) (by first | omega | decide) hw (lv_sub hl [0, 4, 5] rfl)
          exact hl_52_27 ((8 - 0 : Int).toNat + 1) 0 M rg _ _ _ (Nat.lt_succ_self _) (by have lt0 : (0 : Int32).toInt = 0 := (by decide); first | omega | decide) (by have lt0 : (0 : Int32).toInt = 0 := (by decide); first | omega | decide) hI rfl eo.refl hs (by show bq_lf tx _ ((rg 3).toNat - 0) 0 rg = _; rfl) (by have lt0 : (0 : Int32).toInt = 0 := (by decide); first | omega | decide) hw (lv_sub hl [0, 1, 2] rfl)
        · exact hQ _ _ _ _ _ hw (⟨hI, rfl, eo.refl, (by unfold bq_ly; rw [if_pos (by first | omega | (rw [L_2]; omega))]; exact hs)⟩) dX3_levy_49
set_option maxHeartbeats 4000000 in
set_option maxRecDepth 100000 in
theorem z_X3_wear (l : Launch) (D : va_G) (A : Nat → Nat → Nat) (cy : Nat → ClassId) (hJ : ti_inj ti_LT A) (M : ti_M) (hI : cI Tc M) (q t : Nat) (hq : ti_ob ti_LT q 3) (ht : t = 3 ∨ t = 4) (hT : tT M q 0 = some t) (tx rg : Nat → Int) (htx : tC t tx M) (hs : qC q rg M) : ti_Kv l yX3_wear cX3_wear 3 2 ti_LT D A cy M [.ref (A q 0)] (fun M2 => cI Tc M2 ∧ M2.2.2.2 = M.2.2.2 ∧ eo q M2 M ∧ qC q (bq_wr tx rg) M2) := by
  refine ti_eV yp_X3_wear hJ ti_LT_nd (Nat.le_of_ble_eq_true rfl) ?_
  intro p e s m args below meth c Q H0 C hQ hw ls hl
  have hx := C.1
  have hb := C.2.1
  have hl : lv_has ls 3 [(0, .ref (A q 0))] := hl
  refine lv_iconst (v := 0) hx hb dX3_wear_0 (by decide) ?_
  refine lv_istore_n (lv' := [(1, .int 0), (0, .ref (A q 0))]) hx hb dX3_wear_1 rfl hl (by decide) rfl (fun ls hl => ?_)
  have hl_2_10 : ∀ (n_11 : Nat) (x_1 : Int32) (M_4 : ti_M) (g_7 : Nat → Int) (H : Heap) (locs : List Loc) (ls : Array Slot), (8 - x_1.toInt : Int).toNat < n_11 → (0 ≤ x_1.toInt) → (x_1.toInt ≤ 8) → (cI Tc M_4) → (M_4.2.2.2 = M.2.2.2) → (eo q M_4 M) → (qC q g_7 M_4) → (bq_wf tx ((g_7 3).toNat - (x_1.toInt).toNat) (x_1.toInt).toNat g_7 = bq_wf tx (rg 3).toNat 0 rg) → (g_7 3 = rg 3) → ti_H ti_LT D A cy H0 M_4 H locs → lv_has ls 3 [(1, .int x_1), (0, .ref (A q 0))] → W p l e (ti_rm 2) s m args below meth c H locs 0 0 Q (F0 m 2 ls []) := by
    intro n_11
    induction n_11 with
    | zero => intro x_1 M_4 g_7 H locs ls hf_11; exact absurd hf_11 (Nat.not_lt_zero _)
    | succ n_11 ih_11 =>
      intro x_1 M_4 g_7 H locs ls hf_11 b_2 b_3 iM_4 f_5 f_6 hs_8 j_9 j_10 hw hl
      refine lv_iload_n hx hb dX3_wear_2 rfl (lv_at hl 0 rfl) ?_
      refine lv_aload_n hx hb dX3_wear_3 rfl (lv_at hl 1 rfl) ?_
      refine ti_get (ci := 3) (k := 3) (N := 17) (T := TX3) C hw iw_3 rfl hq (by decide) (by decide) fl_X3_56 rfl rfl dX3_wear_4 ?_
      refine lv_topi (fun x_12 ex_12 => ?_)
      have bx_12 : 0 ≤ x_12.toInt ∧ x_12.toInt ≤ 8 := cI_rd iM_4 hq.1 ex_12
      have ux_12 : (tI M_4 q 3).toInt = x_12.toInt := by rw [ex_12]
      have L_13 : g_7 3 = x_12.toInt := ((hs_8.1 3 (by decide) (by decide)).trans (congrArg Int32.toInt (ex_12.symm))).trans rfl
      refine sb_icmp_ge (tgt := 80) hx hb rfl rfl dX3_wear_7 (by decide) (fun c_7_13 => ?_) (fun c_7_13 => ?_)
      · exact hQ _ _ _ _ _ hw (⟨iM_4, (f_5), f_6, (by unfold bq_wr; rw [← j_9, wf_end (by omega)]; exact hs_8)⟩) dX3_wear_80
      · refine lv_aload_n hx hb dX3_wear_10 rfl (lv_at hl 1 rfl) ?_
        refine ti_get (ci := 3) (k := 6) (N := 17) (T := TX3) (v := .ref (A q 7)) C hw iw_3 rfl hq (by decide) (by decide) fl_X3_9 rfl rfl dX3_wear_11 ?_
        refine lv_iload_n hx hb dX3_wear_14 rfl (lv_at hl 0 rfl) ?_
        refine ti_iald (ci := 3) (k := 6) (n := 8) C hw hq (by decide) (fun _ _ => rfl) (vp_in_iff.mpr (by omega)) dX3_wear_15 ?_
        refine lv_topi (fun x_15 ex_15 => ?_)
        have bx_15 : 0 ≤ x_15.toInt ∧ x_15.toInt ≤ 7 := cI_ry iM_4 hq.1 ex_15
        have L_16 : g_7 (96 + x_1.toInt.toNat) = x_15.toInt := qC_y (k := 6) hs_8 rfl (by omega) (by omega) (by decide) (by decide) ex_15
        refine lv_istore_n (lv' := [(2, .int x_15), (1, .int x_1), (0, .ref (A q 0))]) hx hb dX3_wear_16 rfl hl (by decide) rfl (fun ls hl => ?_)
        refine lv_aload_n hx hb dX3_wear_17 rfl (lv_at hl 2 rfl) ?_
        refine ti_get (ci := 3) (k := 15) (N := 17) (T := TX3) (v := .ref (A q 16)) C hw iw_3 rfl hq (by decide) (by decide) fl_X3_39 rfl rfl dX3_wear_18 ?_
        refine lv_iload_n hx hb dX3_wear_21 rfl (lv_at hl 0 rfl) ?_
        refine ti_iald (ci := 3) (k := 15) (n := 8) C hw hq (by decide) (fun _ _ => rfl) (vp_in_iff.mpr (by omega)) dX3_wear_22 ?_
        refine lv_topi (fun x_17 ex_17 => ?_)
        have L_18 : g_7 (240 + x_15.toInt.toNat) = x_17.toInt := qC_y (k := 15) hs_8 rfl (by omega) (by omega) (by decide) (by decide) ex_17
        refine sb_if_le (tgt := 39) hx hb rfl dX3_wear_23 (by decide) (fun c_23_18 => ?_) (fun c_23_18 => ?_)
        · refine lv_iload_n hx hb dX3_wear_39 rfl (lv_at hl 1 rfl) ?_
          refine sb_if_le (tgt := 74) hx hb rfl dX3_wear_40 (by decide) (fun c_40_25 => ?_) (fun c_40_25 => ?_)
          · obtain ⟨x_43, ex_43⟩ : ∃ z : Int32, z = x_1 + 1 := ⟨_, rfl⟩
            have tx_43 : x_43.toInt = x_1.toInt + 1 := i_add ex_43 rfl (by decide) (by omega) (by omega)
            refine lv_iinc (v := x_43) (lv' := [(1, .int x_43), (2, .int x_15), (0, .ref (A q 0))]) hx hb dX3_wear_74 hl (k := 1) rfl (by rw [ex_43]; rfl) (by decide) rfl (fun ls hl => ?_)
            refine lv_goto (tgt := 2) hx hb dX3_wear_77 (by decide) ?_
            exact ih_11 x_43 M_4 g_7 _ _ _ (by omega) (by first | omega | decide) (by first | omega | decide) iM_4 (f_5) f_6 hs_8 (by rw [← j_9, wf_go (tx := tx) (s := g_7) (p := x_1.toInt.toNat) (f := (g_7 3).toNat - x_1.toInt.toNat) (f' := (g_7 3).toNat - x_43.toInt.toNat) (by omega), show bq_w1 tx g_7 x_1.toInt.toNat = g_7 by (unfold bq_w1; rw [L_16, L_18, if_neg (by omega), if_neg (by omega)]), show x_43.toInt.toNat = x_1.toInt.toNat + 1 by omega]) (by first | omega | decide) hw (lv_sub hl [0, 2] rfl)
          · refine lv_aload_n hx hb dX3_wear_43 rfl (lv_at hl 2 rfl) ?_
            refine ti_get (ci := 3) (k := 10) (N := 17) (T := TX3) (v := .ref (A q 11)) C hw iw_3 rfl hq (by decide) (by decide) fl_X3_24 rfl rfl dX3_wear_44 ?_
            refine lv_iload_n hx hb dX3_wear_47 rfl (lv_at hl 0 rfl) ?_
            refine lv_dup2_11 hx hb dX3_wear_48 rfl rfl ?_
            refine ti_iald (ci := 3) (k := 10) (n := 8) C hw hq (by decide) (fun _ _ => rfl) (vp_in_iff.mpr (by omega)) dX3_wear_49 ?_
            refine lv_topi (fun x_27 ex_27 => ?_)
            have L_28 : g_7 (160 + x_15.toInt.toNat) = x_27.toInt := qC_y (k := 10) hs_8 rfl (by omega) (by omega) (by decide) (by decide) ex_27
            refine lv_aload_n hx hb dX3_wear_50 rfl (lv_at hl 2 rfl) ?_
            refine ti_get (ci := 3) (k := 0) (N := 17) (T := TX3) (v := .ref (A t 0)) C hw iw_3 rfl hq (by decide) (by decide) fl_X3_45 rfl (ti_Tv ((tT_fr f_5).trans hT)) dX3_wear_51 ?_
            refine ti_get (ci := 8) (k := 2) (N := 12) (T := TX8) (v := .ref (A t 3)) C hw iw_8 rfl (ob_t ht) (by decide) (by decide) fl_X3_119 rfl rfl dX3_wear_54 ?_
            refine lv_iconst (v := 1) hx hb dX3_wear_57 (by decide) ?_
            refine ti_aald (ci := 8) (k := 2) (n := 3) (t0 := 4) (Cn := RX1) (gg := (ti_laws t)) (j := 1) C hw (ob_t ht) (by decide) (fun _ _ => rfl) rfl (by unfold vp_in; decide) (by decide) dX3_wear_58 ?_
            have ob_29 : ti_ob ti_LT (ti_laws t 1) 1 := ob_l ht (by decide)
            refine lv_aload_n hx hb dX3_wear_59 rfl (lv_at hl 2 rfl) ?_
            refine lv_iload_n hx hb dX3_wear_60 rfl (lv_at hl 1 rfl) ?_
            refine lv_iload_n hx hb dX3_wear_61 rfl (lv_at hl 1 rfl) ?_
            refine ti_callVl (ci := 1) (av := [.ref (A q 0), .int x_1, .int x_1]) C hw (z_X1_value l D A cy hJ M_4 iM_4 (ti_laws t 1) q t ob_29 hq ht ((tT_fr f_5).trans hT) x_1 x_1 (fun n => tx (400 + 64 * 1 + n)) (tx (300 + 1)) (fun n hn => ((tC_eo ht hq.1 htx f_6).2.2.2 1 (by decide)).2 n hn) (((tC_eo ht hq.1 htx f_6).2.2.2 1 (by decide)).1) tx g_7 (tC_eo ht hq.1 htx f_6) hs_8) ⟨ml_X3_123, ym_X1_value, yv_X1_value, yi_X1_value, yc_X1_value⟩ yd_X1_value ob_29 (by decide) rfl rfl hl.1 (Nat.le_of_ble_eq_true rfl) ⟨by decide, by decide⟩ ⟨Nat.zero_le _, Nat.zero_le _⟩ dX3_wear_62 (fun r_30 M_31 H locs hp_31 hw => ?_)
            obtain ⟨iM_31, q_32, q_33, q_34, ppr_30⟩ := hp_31
            have pr_30 : r_30.toInt = bq_lv tx g_7 1 x_1.toInt x_1.toInt := ppr_30
            have hs_35 : qC q g_7 M_31 := qC_of hs_8 q_33 q_34
            refine lv_iconst (v := 0) hx hb dX3_wear_65 (by decide) ?_
            refine lv_bipush (v := 9) hx hb dX3_wear_66 (by decide) ?_
            refine lv_iconst (v := 1) hx hb dX3_wear_68 (by decide) ?_
            refine ti_callSi (av := [.long r_30, .int 0, .int 9, .int 1]) C hw (z_X3_put l D A cy hJ M_31 iM_31 r_30 0 9 1 (by first | decide | omega)) ⟨ml_X3_127, ys_X3_put, yi_X3_put, yc_X3_put⟩ yd_X3_put rfl hl.1 (Nat.le_of_ble_eq_true rfl) ⟨by decide, by decide⟩ ⟨Nat.zero_le _, Nat.zero_le _⟩ dX3_wear_69 (fun r_36 M_37 H locs hp_37 hw => ?_)
            obtain ⟨hm, pr_36⟩ := hp_37
            have hw := hw.to hm
            try simp only [show (0 : Int32).toInt = 0 by decide] at pr_36
            try simp only [show (9 : Int32).toInt = 9 by decide] at pr_36
            try simp only [show (1 : Int32).toInt = 1 by decide] at pr_36
            have bpr_36 : 0 ≤ r_36.toInt ∧ r_36.toInt ≤ 9 := by rw [pr_36]; unfold bq_pt; (repeat' split) <;> omega
            refine lv_isub hx hb dX3_wear_72 ?_
            refine lv_topi (fun x_38 ex_38 => ?_)
            have tx_38 : x_38.toInt = bw (x_27.toInt - r_36.toInt) := bw_sub ex_38 rfl rfl
            refine ti_iast (ci := 3) (k := 10) (n := 8) C hw hq (by decide) (fun _ _ => rfl) (vp_in_iff.mpr (by omega)) dX3_wear_73 (fun H locs hw => ?_)
            obtain ⟨M_39, hM_39⟩ : ∃ z : ti_M, z = uY M_31 q 10 (upd (tY M_31 q 10) (x_15 : Int32).toNatClampNeg x_38) := ⟨_, rfl⟩
            have hw := hw.to hM_39.symm
            have iM_39 : cI Tc M_39 := cI_up iM_31 hM_39 hq.1 trivial
            have hs_40 : qC q (pp_su g_7 (160 + x_15.toInt.toNat) x_38.toInt) M_39 := qC_Y (k := 10) (j := x_15.toInt.toNat) (i := x_15) hs_35 (by omega) rfl hM_39 (by decide) (by omega)
            obtain ⟨g_41, eg_41⟩ : ∃ z : Nat → Int, z = pp_su g_7 (160 + x_15.toInt.toNat) x_38.toInt := ⟨_, rfl⟩
            rw [← eg_41] at hs_40
            have w3g_41 : g_41 3 = g_7 3 := by rw [eg_41, su_n (by omega)]
            obtain ⟨x_44, ex_44⟩ : ∃ z : Int32, z = x_1 + 1 := ⟨_, rfl⟩
            have tx_44 : x_44.toInt = x_1.toInt + 1 := i_add ex_44 rfl (by decide) (by omega) (by omega)
            refine lv_iinc (v := x_44) (lv' := [(1, .int x_44), (2, .int x_15), (0, .ref (A q 0))]) hx hb dX3_wear_74 hl (k := 1) rfl (by rw [ex_44]; rfl) (by decide) rfl (fun ls hl => ?_)
            refine lv_goto (tgt := 2) hx hb dX3_wear_77 (by decide) ?_
            exact ih_11 x_44 M_39 g_41 _ _ _ (by omega) (by first | omega | decide) (by first | omega | decide) iM_39 ((rf_Y hM_39).trans ((q_32).trans f_5)) (eo.trans (eo_Y hM_39) (eo.trans (eo_of q_33 q_34) f_6)) hs_40 (by rw [← j_9, wf_go (tx := tx) (s := g_7) (p := x_1.toInt.toNat) (f := (g_7 3).toNat - x_1.toInt.toNat) (f' := (g_7 3).toNat - x_44.toInt.toNat) (by omega), show bq_w1 tx g_7 x_1.toInt.toNat = g_41 by (unfold bq_w1; rw [L_16, L_18, if_neg (by omega), if_pos (by omega), L_28, show ((x_1.toInt.toNat : Nat) : Int) = x_1.toInt by omega, ← pr_30, ← pr_36, ← tx_38, ← eg_41]), show x_44.toInt.toNat = x_1.toInt.toNat + 1 by omega, show (g_41 3).toNat = (g_7 3).toNat by omega]) (by first | omega | decide) hw (lv_sub hl [0, 2] rfl)
        · refine lv_aload_n hx hb dX3_wear_26 rfl (lv_at hl 2 rfl) ?_
          refine ti_get (ci := 3) (k := 15) (N := 17) (T := TX3) (v := .ref (A q 16)) C hw iw_3 rfl hq (by decide) (by decide) fl_X3_39 rfl rfl dX3_wear_27 ?_
          refine lv_iload_n hx hb dX3_wear_30 rfl (lv_at hl 0 rfl) ?_
          refine lv_dup2_11 hx hb dX3_wear_31 rfl rfl ?_
          refine ti_iald (ci := 3) (k := 15) (n := 8) C hw hq (by decide) (fun _ _ => rfl) (vp_in_iff.mpr (by omega)) dX3_wear_32 ?_
          refine lv_topi (fun x_20 ex_20 => ?_)
          have L_21 : g_7 (240 + x_15.toInt.toNat) = x_20.toInt := qC_y (k := 15) hs_8 rfl (by omega) (by omega) (by decide) (by decide) ex_20
          refine lv_iconst (v := 1) hx hb dX3_wear_33 (by decide) ?_
          refine lv_isub hx hb dX3_wear_34 ?_
          refine lv_topi (fun x_22 ex_22 => ?_)
          have lox_22x_20 := x_20.le_toInt
          have hix_22x_20 := x_20.toInt_lt
          have tx_22 : x_22.toInt = x_20.toInt - 1 := i_sub ex_22 rfl (by decide : (1 : Int32).toInt = 1) (by omega) (by omega)
          have tx_22 : x_22.toInt = bw (x_20.toInt - 1) := bw_sub ex_22 rfl (by decide : (1 : Int32).toInt = 1)
          refine ti_iast (ci := 3) (k := 15) (n := 8) C hw hq (by decide) (fun _ _ => rfl) (vp_in_iff.mpr (by omega)) dX3_wear_35 (fun H locs hw => ?_)
          obtain ⟨M_23, hM_23⟩ : ∃ z : ti_M, z = uY M_4 q 15 (upd (tY M_4 q 15) (x_15 : Int32).toNatClampNeg x_22) := ⟨_, rfl⟩
          have hw := hw.to hM_23.symm
          have iM_23 : cI Tc M_23 := cI_up iM_4 hM_23 hq.1 trivial
          have hs_24 : qC q (pp_su g_7 (240 + x_15.toInt.toNat) x_22.toInt) M_23 := qC_Y (k := 15) (j := x_15.toInt.toNat) (i := x_15) hs_8 (by omega) rfl hM_23 (by decide) (by omega)
          obtain ⟨g_25, eg_25⟩ : ∃ z : Nat → Int, z = pp_su g_7 (240 + x_15.toInt.toNat) x_22.toInt := ⟨_, rfl⟩
          rw [← eg_25] at hs_24
          have w3g_25 : g_25 3 = g_7 3 := by rw [eg_25, su_n (by omega)]
          refine lv_goto (tgt := 74) hx hb dX3_wear_36 (by decide) ?_
          obtain ⟨x_42, ex_42⟩ : ∃ z : Int32, z = x_1 + 1 := ⟨_, rfl⟩
          have tx_42 : x_42.toInt = x_1.toInt + 1 := i_add ex_42 rfl (by decide) (by omega) (by omega)
          refine lv_iinc (v := x_42) (lv' := [(1, .int x_42), (2, .int x_15), (0, .ref (A q 0))]) hx hb dX3_wear_74 hl (k := 1) rfl (by rw [ex_42]; rfl) (by decide) rfl (fun ls hl => ?_)
          refine lv_goto (tgt := 2) hx hb dX3_wear_77 (by decide) ?_
          exact ih_11 x_42 M_23 g_25 _ _ _ (by omega) (by first | omega | decide) (by first | omega | decide) iM_23 ((rf_Y hM_23).trans f_5) (eo.trans (eo_Y hM_23) f_6) hs_24 (by rw [← j_9, wf_go (tx := tx) (s := g_7) (p := x_1.toInt.toNat) (f := (g_7 3).toNat - x_1.toInt.toNat) (f' := (g_7 3).toNat - x_42.toInt.toNat) (by omega), show bq_w1 tx g_7 x_1.toInt.toNat = g_25 by (unfold bq_w1; rw [L_16, L_21, if_pos (by omega), show x_20.toInt - 1 = x_22.toInt by omega, ← eg_25]), show x_42.toInt.toNat = x_1.toInt.toNat + 1 by omega, show (g_25 3).toNat = (g_7 3).toNat by omega]) (by first | omega | decide) hw (lv_sub hl [0, 2] rfl)
  exact hl_2_10 ((8 - 0 : Int).toNat + 1) 0 M rg _ _ _ (Nat.lt_succ_self _) (by have lt0 : (0 : Int32).toInt = 0 := (by decide); first | omega | decide) (by have lt0 : (0 : Int32).toInt = 0 := (by decide); first | omega | decide) hI rfl eo.refl hs (by show bq_wf tx ((rg 3).toNat - 0) 0 rg = _; rfl) (by have lt0 : (0 : Int32).toInt = 0 := (by decide); first | omega | decide) hw (lv_sub hl [0, 1] rfl)
set_option maxHeartbeats 4000000 in
set_option maxRecDepth 100000 in
theorem z_X3_release (l : Launch) (D : va_G) (A : Nat → Nat → Nat) (cy : Nat → ClassId) (hJ : ti_inj ti_LT A) (M : ti_M) (hI : cI Tc M) (q t : Nat) (hq : ti_ob ti_LT q 3) (ht : t = 3 ∨ t = 4) (hT : tT M q 0 = some t) (tx rg : Nat → Int) (htx : tC t tx M) (hs : qC q rg M) (hm : rg 1 = 0 ∨ rg 1 = 1 ∨ rg 1 = 3) : ti_Kv l yX3_release cX3_release 2 2 ti_LT D A cy M [.ref (A q 0)] (fun M2 => cI Tc M2 ∧ M2.2.2.2 = M.2.2.2 ∧ eo q M2 M ∧ qC q (bq_rl tx rg) M2) := by
  refine ti_eV yp_X3_release hJ ti_LT_nd (Nat.le_of_ble_eq_true rfl) ?_
  intro p e s m args below meth c Q H0 C hQ hw ls hl
  have hx := C.1
  have hb := C.2.1
  have hl : lv_has ls 2 [(0, .ref (A q 0))] := hl
  refine lv_aload_n hx hb dX3_release_0 rfl (lv_at hl 0 rfl) ?_
  refine ti_get (ci := 3) (k := 3) (N := 17) (T := TX3) C hw iw_3 rfl hq (by decide) (by decide) fl_X3_56 rfl rfl dX3_release_1 ?_
  refine lv_topi (fun x_1 ex_1 => ?_)
  have bx_1 : 0 ≤ x_1.toInt ∧ x_1.toInt ≤ 8 := cI_rd hI hq.1 ex_1
  have ux_1 : (tI M q 3).toInt = x_1.toInt := by rw [ex_1]
  have L_2 : rg 3 = x_1.toInt := ((hs.1 3 (by decide) (by decide)).trans (congrArg Int32.toInt (ex_1.symm))).trans rfl
  have hl_61_49 : ∀ (n_50 : Nat) (x_41 : Int32) (M_44 : ti_M) (g_47 : Nat → Int) (H : Heap) (locs : List Loc) (ls : Array Slot), (x_41.toInt : Int).toNat < n_50 → ((-1) ≤ x_41.toInt) → (x_41.toInt ≤ 7) → (cI Tc M_44) → (M_44.2.2.2 = M.2.2.2) → (eo q M_44 M) → (qC q g_47 M_44) → (bq_of (x_41.toInt).toNat g_47 = bq_rl tx rg) → ti_H ti_LT D A cy H0 M_44 H locs → lv_has ls 2 [(1, .int x_41), (0, .ref (A q 0))] → W p l e (ti_rm 2) s m args below meth c H locs 0 0 Q (F0 m 61 ls []) := by
    intro n_50
    induction n_50 with
    | zero => intro x_41 M_44 g_47 H locs ls hf_50; exact absurd hf_50 (Nat.not_lt_zero _)
    | succ n_50 ih_50 =>
      intro x_41 M_44 g_47 H locs ls hf_50 b_42 b_43 iM_44 f_45 f_46 hs_48 j_49 hw hl
      refine lv_iload_n hx hb dX3_release_61 rfl (lv_at hl 0 rfl) ?_
      refine sb_if_le (tgt := 91) hx hb rfl dX3_release_62 (by decide) (fun c_62_50 => ?_) (fun c_62_50 => ?_)
      · exact hQ _ _ _ _ _ hw (⟨iM_44, (f_45), f_46, (by rw [← j_49, show x_41.toInt.toNat = 0 by omega]; exact hs_48)⟩) dX3_release_91
      · refine lv_aload_n hx hb dX3_release_65 rfl (lv_at hl 1 rfl) ?_
        refine ti_get (ci := 3) (k := 10) (N := 17) (T := TX3) (v := .ref (A q 11)) C hw iw_3 rfl hq (by decide) (by decide) fl_X3_24 rfl rfl dX3_release_66 ?_
        refine lv_aload_n hx hb dX3_release_69 rfl (lv_at hl 1 rfl) ?_
        refine ti_get (ci := 3) (k := 6) (N := 17) (T := TX3) (v := .ref (A q 7)) C hw iw_3 rfl hq (by decide) (by decide) fl_X3_9 rfl rfl dX3_release_70 ?_
        refine lv_iload_n hx hb dX3_release_73 rfl (lv_at hl 0 rfl) ?_
        refine ti_iald (ci := 3) (k := 6) (n := 8) C hw hq (by decide) (fun _ _ => rfl) (vp_in_iff.mpr (by omega)) dX3_release_74 ?_
        refine lv_topi (fun x_52 ex_52 => ?_)
        have bx_52 : 0 ≤ x_52.toInt ∧ x_52.toInt ≤ 7 := cI_ry iM_44 hq.1 ex_52
        have L_53 : g_47 (96 + x_41.toInt.toNat) = x_52.toInt := qC_y (k := 6) hs_48 rfl (by omega) (by omega) (by decide) (by decide) ex_52
        refine ti_iald (ci := 3) (k := 10) (n := 8) C hw hq (by decide) (fun _ _ => rfl) (vp_in_iff.mpr (by omega)) dX3_release_75 ?_
        refine lv_topi (fun x_54 ex_54 => ?_)
        have L_55 : g_47 (160 + x_52.toInt.toNat) = x_54.toInt := qC_y (k := 10) hs_48 rfl (by omega) (by omega) (by decide) (by decide) ex_54
        refine sb_if_gt (tgt := 85) hx hb rfl dX3_release_76 (by decide) (fun c_76_55 => ?_) (fun c_76_55 => ?_)
        · obtain ⟨x_63, ex_63⟩ : ∃ z : Int32, z = x_41 + (-1) := ⟨_, rfl⟩
          have tx_63 : x_63.toInt = x_41.toInt + (-1) := i_add ex_63 rfl (by decide) (by omega) (by omega)
          refine lv_iinc (v := x_63) (lv' := [(1, .int x_63), (0, .ref (A q 0))]) hx hb dX3_release_85 hl (k := 0) rfl (by rw [ex_63]; rfl) (by decide) rfl (fun ls hl => ?_)
          refine lv_goto (tgt := 61) hx hb dX3_release_88 (by decide) ?_
          exact ih_50 x_63 M_44 g_47 _ _ _ (by omega) (by first | omega | decide) (by first | omega | decide) iM_44 (f_45) f_46 hs_48 (by rw [← j_49, of_go (p := x_41.toInt.toNat) (p' := x_63.toInt.toNat) (s := g_47) (by omega), show bq_o1 g_47 x_41.toInt.toNat = g_47 by (unfold bq_o1; rw [L_53, L_55, if_neg (by omega)])]) hw (lv_sub hl [0, 1] rfl)
        · refine lv_aload_n hx hb dX3_release_79 rfl (lv_at hl 1 rfl) ?_
          refine lv_iload_n hx hb dX3_release_80 rfl (lv_at hl 0 rfl) ?_
          refine lv_iconst (v := 3) hx hb dX3_release_81 (by decide) ?_
          refine ti_callVv (ci := 3) (av := [.int x_41, .int 3]) C hw (z_X3_remove l D A cy hJ M_44 iM_44 q hq x_41 3 g_47 hs_48) ⟨ml_X3_196, ym_X3_remove, yv_X3_remove, yi_X3_remove, yc_X3_remove⟩ yd_X3_remove hq (by decide) rfl rfl hl.1 (Nat.le_of_ble_eq_true rfl) ⟨by decide, by decide⟩ ⟨Nat.zero_le _, Nat.zero_le _⟩ dX3_release_82 (fun M_58 H locs hp_58 hw => ?_)
          obtain ⟨iM_58, q_59, q_60, hs_61⟩ := hp_58
          try simp only [show (3 : Int32).toInt = 3 by decide] at hs_61
          obtain ⟨g_62, eg_62⟩ : ∃ z : Nat → Int, z = bq_rm g_47 x_41.toInt 3 := ⟨_, rfl⟩
          rw [← eg_62] at hs_61
          have w1g_62 : g_62 1 = g_47 1 := by rw [eg_62]; exact rm_k (by decide)
          obtain ⟨x_64, ex_64⟩ : ∃ z : Int32, z = x_41 + (-1) := ⟨_, rfl⟩
          have tx_64 : x_64.toInt = x_41.toInt + (-1) := i_add ex_64 rfl (by decide) (by omega) (by omega)
          refine lv_iinc (v := x_64) (lv' := [(1, .int x_64), (0, .ref (A q 0))]) hx hb dX3_release_85 hl (k := 0) rfl (by rw [ex_64]; rfl) (by decide) rfl (fun ls hl => ?_)
          refine lv_goto (tgt := 61) hx hb dX3_release_88 (by decide) ?_
          exact ih_50 x_64 M_58 g_62 _ _ _ (by omega) (by first | omega | decide) (by first | omega | decide) iM_58 ((q_59).trans f_45) (eo.trans q_60 f_46) hs_61 (by rw [← j_49, of_go (p := x_41.toInt.toNat) (p' := x_64.toInt.toNat) (s := g_47) (by omega), show bq_o1 g_47 x_41.toInt.toNat = g_62 by (unfold bq_o1; rw [L_53, L_55, if_pos (by omega), show ((x_41.toInt.toNat : Nat) : Int) = x_41.toInt by omega, ← eg_62])]) hw (lv_sub hl [0, 1] rfl)
  refine sb_if_le (tgt := 44) hx hb rfl dX3_release_4 (by decide) (fun c_4_2 => ?_) (fun c_4_2 => ?_)
  · refine lv_aload_n hx hb dX3_release_44 rfl (lv_at hl 0 rfl) ?_
    refine lv_bipush (v := 8) hx hb dX3_release_45 (by decide) ?_
    refine ti_callVi (ci := 3) (av := [.int 8]) C hw (z_X3_is l D A cy hJ M hI q hq 8 rg hs (by omega) (by decide)) ⟨ml_X3_182, ym_X3_is, yv_X3_is, yi_X3_is, yc_X3_is⟩ yd_X3_is hq (by decide) rfl rfl hl.1 (Nat.le_of_ble_eq_true rfl) ⟨by decide, by decide⟩ ⟨Nat.zero_le _, Nat.zero_le _⟩ dX3_release_47 (fun r_20 M_21 H locs hp_21 hw => ?_)
    obtain ⟨hm, hz⟩ := hp_21
    have hw := hw.to hm
    try simp only [show (8 : Int32).toInt = 8 by decide] at hz
    rcases hz with ⟨rfl, dg_22⟩ | ⟨rfl, dg_22⟩
    · exfalso; omega
    · refine sb_if_eq (tgt := 54) hx hb (by decide : (0 : Int32).toInt = 0) dX3_release_50 (by decide) (fun c_50_22 => ?_) (fun h => absurd h (by decide))
      refine lv_aload_n hx hb dX3_release_54 rfl (lv_at hl 0 rfl) ?_
      refine ti_get (ci := 3) (k := 3) (N := 17) (T := TX3) C hw iw_3 rfl hq (by decide) (by decide) fl_X3_56 rfl rfl dX3_release_55 ?_
      refine ti_top (y := x_1) (ex_1.symm) ?_
      have u_32 : (tI M q 3).toInt = (x_1 : Int32).toInt := by rw [(ex_1.symm)]
      have L_33 : rg 3 = x_1.toInt := ((hs.1 3 (by decide) (by decide)).trans (congrArg Int32.toInt (ex_1.symm))).trans rfl
      refine lv_iconst (v := 1) hx hb dX3_release_58 (by decide) ?_
      refine lv_isub hx hb dX3_release_59 ?_
      refine lv_topi (fun x_34 ex_34 => ?_)
      have tx_34 : x_34.toInt = x_1.toInt - 1 := i_sub ex_34 rfl (by decide : (1 : Int32).toInt = 1) (by omega) (by omega)
      refine lv_istore_n (lv' := [(1, .int x_34), (0, .ref (A q 0))]) hx hb dX3_release_60 rfl hl (by decide) rfl (fun ls hl => ?_)
      exact hl_61_49 ((x_34.toInt : Int).toNat + 1) x_34 M rg _ _ _ (Nat.lt_succ_self _) (by first | omega | decide) (by first | omega | decide) hI rfl eo.refl hs (by have ES : bq_sv tx rg = rg := (by unfold bq_sv; rw [if_neg (by omega)]); unfold bq_rl; rw [ES]; exact congrArg (fun k => bq_of k rg) (by omega)) hw (lv_sub hl [0, 1] rfl)
  · refine lv_aload_n hx hb dX3_release_7 rfl (lv_at hl 0 rfl) ?_
    refine ti_get (ci := 3) (k := 11) (N := 17) (T := TX3) (v := .ref (A q 12)) C hw iw_3 rfl hq (by decide) (by decide) fl_X3_27 rfl rfl dX3_release_8 ?_
    refine lv_aload_n hx hb dX3_release_11 rfl (lv_at hl 0 rfl) ?_
    refine ti_get (ci := 3) (k := 6) (N := 17) (T := TX3) (v := .ref (A q 7)) C hw iw_3 rfl hq (by decide) (by decide) fl_X3_9 rfl rfl dX3_release_12 ?_
    refine lv_iconst (v := 0) hx hb dX3_release_15 (by decide) ?_
    refine ti_iald (ci := 3) (k := 6) (n := 8) C hw hq (by decide) (fun _ _ => rfl) (by unfold vp_in; decide) dX3_release_16 ?_
    refine lv_topi (fun x_4 ex_4 => ?_)
    have bx_4 : 0 ≤ x_4.toInt ∧ x_4.toInt ≤ 7 := cI_ry hI hq.1 ex_4
    have L_5 : rg 96 = x_4.toInt := (hs.2 6 0 (by decide) (by decide) (by decide) (by decide)).trans (congrArg Int32.toInt ex_4.symm)
    refine ti_iald (ci := 3) (k := 11) (n := 8) C hw hq (by decide) (fun _ _ => rfl) (vp_in_iff.mpr (by omega)) dX3_release_17 ?_
    refine lv_topi (fun x_6 ex_6 => ?_)
    have L_7 : rg (176 + x_4.toInt.toNat) = x_6.toInt := qC_y (k := 11) hs rfl (by omega) (by omega) (by decide) (by decide) ex_6
    refine lv_aload_n hx hb dX3_release_18 rfl (lv_at hl 0 rfl) ?_
    refine ti_get (ci := 3) (k := 0) (N := 17) (T := TX3) (v := .ref (A t 0)) C hw iw_3 rfl hq (by decide) (by decide) fl_X3_45 rfl (ti_Tv (hT)) dX3_release_19 ?_
    refine ti_get (ci := 8) (k := 0) (N := 12) (T := TX8) (v := .ref (A t 1)) C hw iw_8 rfl (ob_t ht) (by decide) (by decide) fl_X3_81 rfl rfl dX3_release_22 ?_
    refine lv_aload_n hx hb dX3_release_25 rfl (lv_at hl 0 rfl) ?_
    refine ti_get (ci := 3) (k := 6) (N := 17) (T := TX3) (v := .ref (A q 7)) C hw iw_3 rfl hq (by decide) (by decide) fl_X3_9 rfl rfl dX3_release_26 ?_
    refine lv_iconst (v := 0) hx hb dX3_release_29 (by decide) ?_
    refine ti_iald (ci := 3) (k := 6) (n := 8) C hw hq (by decide) (fun _ _ => rfl) (by unfold vp_in; decide) dX3_release_30 ?_
    refine lv_topi (fun x_8 ex_8 => ?_)
    have bx_8 : 0 ≤ x_8.toInt ∧ x_8.toInt ≤ 7 := cI_ry hI hq.1 ex_8
    have L_9 : rg 96 = x_8.toInt := (hs.2 6 0 (by decide) (by decide) (by decide) (by decide)).trans (congrArg Int32.toInt ex_8.symm)
    refine ti_aald (ci := 8) (k := 0) (n := 8) (t0 := 5) (Cn := RX2) (gg := (ti_men t)) (j := x_8.toNatClampNeg) C hw (ob_t ht) (by decide) (fun _ _ => rfl) rfl (vp_in_iff.mpr (by omega)) rfl dX3_release_31 ?_
    have ob_10 : ti_ob ti_LT (ti_men t x_8.toNatClampNeg) 2 := ob_m ht (i_nt rfl (by omega) (by omega))
    refine ti_get (ci := 2) (k := 4) (N := 10) (T := TX2) C hw iw_2 rfl ob_10 (by decide) (by decide) fl_X3_203 rfl rfl dX3_release_32 ?_
    refine lv_topi (fun x_11 ex_11 => ?_)
    have L_12 : tx (100 + 16 * x_8.toInt.toNat + 4) = x_11.toInt := (((show tx (100 + 16 * x_8.toInt.toNat + 4) = _ from by rw [← (show x_8.toNatClampNeg = x_8.toInt.toNat from congrArg Int.toNat rfl)]; exact htx.2.2.1 x_8.toNatClampNeg 4 (i_nt (n := 8) rfl (by omega) (by omega)) (by decide) (by decide))).trans (congrArg Int32.toInt (ex_11.symm))).trans rfl
    refine sb_icmp_lt (tgt := 44) hx hb rfl rfl dX3_release_35 (by decide) (fun c_35_12 => ?_) (fun c_35_12 => ?_)
    · refine lv_aload_n hx hb dX3_release_44 rfl (lv_at hl 0 rfl) ?_
      refine lv_bipush (v := 8) hx hb dX3_release_45 (by decide) ?_
      refine ti_callVi (ci := 3) (av := [.int 8]) C hw (z_X3_is l D A cy hJ M hI q hq 8 rg hs (by omega) (by decide)) ⟨ml_X3_182, ym_X3_is, yv_X3_is, yi_X3_is, yc_X3_is⟩ yd_X3_is hq (by decide) rfl rfl hl.1 (Nat.le_of_ble_eq_true rfl) ⟨by decide, by decide⟩ ⟨Nat.zero_le _, Nat.zero_le _⟩ dX3_release_47 (fun r_24 M_25 H locs hp_25 hw => ?_)
      obtain ⟨hm, hz⟩ := hp_25
      have hw := hw.to hm
      try simp only [show (8 : Int32).toInt = 8 by decide] at hz
      rcases hz with ⟨rfl, dg_26⟩ | ⟨rfl, dg_26⟩
      · exfalso; omega
      · refine sb_if_eq (tgt := 54) hx hb (by decide : (0 : Int32).toInt = 0) dX3_release_50 (by decide) (fun c_50_26 => ?_) (fun h => absurd h (by decide))
        refine lv_aload_n hx hb dX3_release_54 rfl (lv_at hl 0 rfl) ?_
        refine ti_get (ci := 3) (k := 3) (N := 17) (T := TX3) C hw iw_3 rfl hq (by decide) (by decide) fl_X3_56 rfl rfl dX3_release_55 ?_
        refine ti_top (y := x_1) (ex_1.symm) ?_
        have u_35 : (tI M q 3).toInt = (x_1 : Int32).toInt := by rw [(ex_1.symm)]
        have L_36 : rg 3 = x_1.toInt := ((hs.1 3 (by decide) (by decide)).trans (congrArg Int32.toInt (ex_1.symm))).trans rfl
        refine lv_iconst (v := 1) hx hb dX3_release_58 (by decide) ?_
        refine lv_isub hx hb dX3_release_59 ?_
        refine lv_topi (fun x_37 ex_37 => ?_)
        have tx_37 : x_37.toInt = x_1.toInt - 1 := i_sub ex_37 rfl (by decide : (1 : Int32).toInt = 1) (by omega) (by omega)
        refine lv_istore_n (lv' := [(1, .int x_37), (0, .ref (A q 0))]) hx hb dX3_release_60 rfl hl (by decide) rfl (fun ls hl => ?_)
        exact hl_61_49 ((x_37.toInt : Int).toNat + 1) x_37 M rg _ _ _ (Nat.lt_succ_self _) (by first | omega | decide) (by first | omega | decide) hI rfl eo.refl hs (by have ES : bq_sv tx rg = rg := (by unfold bq_sv; rw [show rg 96 = x_4.toInt by omega, show tx (100 + 16 * x_4.toInt.toNat + 4) = x_11.toInt by (rw [show x_4.toInt.toNat = x_8.toInt.toNat by omega]; exact L_12)]; rw [if_neg (by omega)]); unfold bq_rl; rw [ES]; exact congrArg (fun k => bq_of k rg) (by omega)) hw (lv_sub hl [0, 1] rfl)
    · refine lv_aload_n hx hb dX3_release_38 rfl (lv_at hl 0 rfl) ?_
      refine lv_iconst (v := 0) hx hb dX3_release_39 (by decide) ?_
      refine lv_iconst (v := 2) hx hb dX3_release_40 (by decide) ?_
      refine ti_callVv (ci := 3) (av := [.int 0, .int 2]) C hw (z_X3_remove l D A cy hJ M hI q hq 0 2 rg hs) ⟨ml_X3_196, ym_X3_remove, yv_X3_remove, yi_X3_remove, yc_X3_remove⟩ yd_X3_remove hq (by decide) rfl rfl hl.1 (Nat.le_of_ble_eq_true rfl) ⟨by decide, by decide⟩ ⟨Nat.zero_le _, Nat.zero_le _⟩ dX3_release_41 (fun M_15 H locs hp_15 hw => ?_)
      obtain ⟨iM_15, q_16, q_17, hs_18⟩ := hp_15
      try simp only [show (0 : Int32).toInt = 0 by decide] at hs_18
      try simp only [show (2 : Int32).toInt = 2 by decide] at hs_18
      obtain ⟨g_19, eg_19⟩ : ∃ z : Nat → Int, z = bq_rm rg 0 2 := ⟨_, rfl⟩
      rw [← eg_19] at hs_18
      have w1g_19 : g_19 1 = rg 1 := by rw [eg_19]; exact rm_k (by decide)
      refine lv_aload_n hx hb dX3_release_44 rfl (lv_at hl 0 rfl) ?_
      refine lv_bipush (v := 8) hx hb dX3_release_45 (by decide) ?_
      refine ti_callVi (ci := 3) (av := [.int 8]) C hw (z_X3_is l D A cy hJ M_15 iM_15 q hq 8 g_19 hs_18 (by omega) (by decide)) ⟨ml_X3_182, ym_X3_is, yv_X3_is, yi_X3_is, yc_X3_is⟩ yd_X3_is hq (by decide) rfl rfl hl.1 (Nat.le_of_ble_eq_true rfl) ⟨by decide, by decide⟩ ⟨Nat.zero_le _, Nat.zero_le _⟩ dX3_release_47 (fun r_28 M_29 H locs hp_29 hw => ?_)
      obtain ⟨hm, hz⟩ := hp_29
      have hw := hw.to hm
      try simp only [show (8 : Int32).toInt = 8 by decide] at hz
      rcases hz with ⟨rfl, dg_30⟩ | ⟨rfl, dg_30⟩
      · exfalso; omega
      · refine sb_if_eq (tgt := 54) hx hb (by decide : (0 : Int32).toInt = 0) dX3_release_50 (by decide) (fun c_50_30 => ?_) (fun h => absurd h (by decide))
        refine lv_aload_n hx hb dX3_release_54 rfl (lv_at hl 0 rfl) ?_
        refine ti_get (ci := 3) (k := 3) (N := 17) (T := TX3) C hw iw_3 rfl hq (by decide) (by decide) fl_X3_56 rfl rfl dX3_release_55 ?_
        refine lv_topi (fun x_38 ex_38 => ?_)
        have bx_38 : 0 ≤ x_38.toInt ∧ x_38.toInt ≤ 8 := cI_rd iM_15 hq.1 ex_38
        have ux_38 : (tI M_15 q 3).toInt = x_38.toInt := by rw [ex_38]
        have L_39 : g_19 3 = x_38.toInt := ((hs_18.1 3 (by decide) (by decide)).trans (congrArg Int32.toInt (ex_38.symm))).trans rfl
        refine lv_iconst (v := 1) hx hb dX3_release_58 (by decide) ?_
        refine lv_isub hx hb dX3_release_59 ?_
        refine lv_topi (fun x_40 ex_40 => ?_)
        have tx_40 : x_40.toInt = x_38.toInt - 1 := i_sub ex_40 rfl (by decide : (1 : Int32).toInt = 1) (by omega) (by omega)
        refine lv_istore_n (lv' := [(1, .int x_40), (0, .ref (A q 0))]) hx hb dX3_release_60 rfl hl (by decide) rfl (fun ls hl => ?_)
        exact hl_61_49 ((x_40.toInt : Int).toNat + 1) x_40 M_15 g_19 _ _ _ (Nat.lt_succ_self _) (by first | omega | decide) (by first | omega | decide) iM_15 (q_16) q_17 hs_18 (by have ES : bq_sv tx rg = g_19 := (by unfold bq_sv; rw [show rg 96 = x_4.toInt by omega, show tx (100 + 16 * x_4.toInt.toNat + 4) = x_11.toInt by (rw [show x_4.toInt.toNat = x_8.toInt.toNat by omega]; exact L_12)]; rw [if_pos (by omega), ← eg_19]); unfold bq_rl; rw [ES]; exact congrArg (fun k => bq_of k g_19) (by omega)) hw (lv_sub hl [0, 1] rfl)
set_option maxHeartbeats 4000000 in
set_option maxRecDepth 100000 in
theorem z_X3_mutter (l : Launch) (D : va_G) (A : Nat → Nat → Nat) (cy : Nat → ClassId) (hJ : ti_inj ti_LT A) (M : ti_M) (hI : cI Tc M) (q t : Nat) (hq : ti_ob ti_LT q 3) (ht : t = 3 ∨ t = 4) (hT : tT M q 0 = some t) (tx rg : Nat → Int) (htx : tC t tx M) (hs : qC q rg M) (hm : rg 1 = 0 ∨ rg 1 = 1 ∨ rg 1 = 3) (h5 : 0 ≤ rg 5) : ti_Kv l yX3_mutter cX3_mutter 1 2 ti_LT D A cy M [.ref (A q 0)] (fun M2 => cI Tc M2 ∧ M2.2.2.2 = M.2.2.2 ∧ eo q M2 M ∧ qC q (bq_mt tx rg) M2) := by
  refine ti_eV yp_X3_mutter hJ ti_LT_nd (Nat.le_of_ble_eq_true rfl) ?_
  intro p e s m args below meth c Q H0 C hQ hw ls hl
  have hx := C.1
  have hb := C.2.1
  have hl : lv_has ls 1 [(0, .ref (A q 0))] := hl
  refine lv_aload_n hx hb dX3_mutter_0 rfl (lv_at hl 0 rfl) ?_
  refine lv_iconst (v := 2) hx hb dX3_mutter_1 (by decide) ?_
  refine ti_callVi (ci := 3) (av := [.int 2]) C hw (z_X3_is l D A cy hJ M hI q hq 2 rg hs (by omega) (by decide)) ⟨ml_X3_182, ym_X3_is, yv_X3_is, yi_X3_is, yc_X3_is⟩ yd_X3_is hq (by decide) rfl rfl hl.1 (Nat.le_of_ble_eq_true rfl) ⟨by decide, by decide⟩ ⟨Nat.zero_le _, Nat.zero_le _⟩ dX3_mutter_2 (fun r_1 M_2 H locs hp_2 hw => ?_)
  obtain ⟨hm, hz⟩ := hp_2
  have hw := hw.to hm
  try simp only [show (2 : Int32).toInt = 2 by decide] at hz
  rcases hz with ⟨rfl, dg_3⟩ | ⟨rfl, dg_3⟩
  · refine sb_if_ne (tgt := 18) hx hb (by decide : (1 : Int32).toInt = 1) dX3_mutter_5 (by decide) (fun c_5_3 => ?_) (fun h => absurd h (by decide))
    exact hQ _ _ _ _ _ hw (⟨hI, rfl, eo.refl, (by unfold bq_mt; rw [if_pos (by omega)]; exact hs)⟩) dX3_mutter_18
  · refine sb_if_ne (tgt := 18) hx hb (by decide : (0 : Int32).toInt = 0) dX3_mutter_5 (by decide) (fun h => absurd h (by decide)) (fun c_5_4 => ?_)
    refine lv_aload_n hx hb dX3_mutter_8 rfl (lv_at hl 0 rfl) ?_
    refine ti_get (ci := 3) (k := 0) (N := 17) (T := TX3) (v := .ref (A t 0)) C hw iw_3 rfl hq (by decide) (by decide) fl_X3_45 rfl (ti_Tv (hT)) dX3_mutter_9 ?_
    refine ti_get (ci := 8) (k := 10) (N := 12) (T := TX8) C hw iw_8 rfl (ob_t ht) (by decide) (by decide) fl_X3_209 rfl rfl dX3_mutter_12 ?_
    refine lv_topi (fun x_6 ex_6 => ?_)
    have L_7 : tx 10 = x_6.toInt := ((htx.1 10 (by decide) (by decide)).trans (congrArg Int32.toInt (ex_6.symm))).trans rfl
    refine sb_if_ne (tgt := 19) hx hb rfl dX3_mutter_15 (by decide) (fun c_15_7 => ?_) (fun c_15_7 => ?_)
    · refine lv_aload_n hx hb dX3_mutter_19 rfl (lv_at hl 0 rfl) ?_
      refine lv_aload_n hx hb dX3_mutter_20 rfl (lv_at hl 0 rfl) ?_
      refine ti_get (ci := 3) (k := 5) (N := 17) (T := TX3) C hw iw_3 rfl hq (by decide) (by decide) fl_X3_68 rfl rfl dX3_mutter_21 ?_
      refine lv_topi (fun x_11 ex_11 => ?_)
      have L_12 : rg 5 = x_11.toInt := ((hs.1 5 (by decide) (by decide)).trans (congrArg Int32.toInt (ex_11.symm))).trans rfl
      obtain ⟨x_13, ex_13⟩ : ∃ z : Int64, z = x_11.toInt64 := ⟨_, rfl⟩
      refine lv_i2l (v := x_13) hx hb dX3_mutter_24 ex_13.symm ?_
      have tx_13 : x_13.toInt = x_11.toInt := by rw [ex_13, Int32.toInt_toInt64]
      have lox_13 := (x_11 : Int32).le_toInt
      have hix_13 := (x_11 : Int32).toInt_lt
      refine lv_ldc2 (v := 1103515245) hx hb C.2.2.2.1 (C.2.2.1 _ cn_X3_211) dX3_mutter_25 ?_
      have z_14 : (1103515245 : Int64).toInt = 1103515245 := by decide
      refine lv_lmul hx hb dX3_mutter_28 ?_
      refine lv_topl (fun x_15 ex_15 => ?_)
      have tx_15 : x_15.toInt = x_11.toInt * 1103515245 := l_mul ex_15 tx_13 (by decide) (by omega) (by omega)
      refine lv_ldc2 (v := 12345) hx hb C.2.2.2.1 (C.2.2.1 _ cn_X3_213) dX3_mutter_29 ?_
      have z_16 : (12345 : Int64).toInt = 12345 := by decide
      refine lv_ladd hx hb dX3_mutter_32 ?_
      refine lv_topl (fun x_17 ex_17 => ?_)
      have tx_17 : x_17.toInt = x_15.toInt + (12345 : Int64).toInt := l_add ex_17 rfl rfl (by omega) (by omega)
      refine lv_ldc2 (v := 2147483647) hx hb C.2.2.2.1 (C.2.2.1 _ cn_X3_215) dX3_mutter_33 ?_
      have z_18 : (2147483647 : Int64).toInt = 2147483647 := by decide
      refine lv_land hx hb dX3_mutter_36 ?_
      refine lv_topl (fun x_19 ex_19 => ?_)
      have tx_19 := l_and ex_19 rfl rfl (by omega)
      obtain ⟨x_20, ex_20⟩ : ∃ z : Int32, z = (x_19 : Int64).toInt32 := ⟨_, rfl⟩
      refine lv_l2i (v := x_20) hx hb dX3_mutter_37 ex_20.symm ?_
      have tx_20 : x_20.toInt = x_19.toInt := l_2i ex_20 (by omega) (by omega)
      have EZ : bq_dr (rg 5) = x_20.toInt := by unfold bq_dr; rw [L_12]; omega
      refine ti_putI (ci := 3) (k := 5) (N := 17) (T := TX3) C hw iw_3 tyX3 tyX3_ok nmX3 rfl hq (by decide) (by decide) fl_X3_68 rfl rfl rfl rfl (fn_3 A _) fs_3_5 dX3_mutter_38 (fun H locs hw => ?_)
      obtain ⟨M_21, hM_21⟩ : ∃ z : ti_M, z = uI M q 5 x_20 := ⟨_, rfl⟩
      have hw := hw.to hM_21.symm
      have iM_21 : cI Tc M_21 := cI_uI hI hM_21 hq.1 trivial
      have hs_22 : qC q (pp_su rg 5 x_20.toInt) M_21 := qC_I hs rfl hM_21 (by decide)
      obtain ⟨g_23, eg_23⟩ : ∃ z : Nat → Int, z = pp_su rg 5 x_20.toInt := ⟨_, rfl⟩
      rw [← eg_23] at hs_22
      have sg_23 : g_23 5 = x_20.toInt := by rw [eg_23, su_s]
      refine lv_aload_n hx hb dX3_mutter_41 rfl (lv_at hl 0 rfl) ?_
      refine ti_get (ci := 3) (k := 5) (N := 17) (T := TX3) C hw iw_3 rfl hq (by decide) (by decide) fl_X3_68 rfl rfl dX3_mutter_42 ?_
      refine ti_top (y := x_20) (tI_uE hM_21) ?_
      have L_24 : g_23 5 = x_20.toInt := ((hs_22.1 5 (by decide) (by decide)).trans (congrArg Int32.toInt (tI_uE hM_21))).trans rfl
      refine lv_ldc (v := 65536) hx hb C.2.2.2.1 (C.2.2.1 _ cn_X3_217) dX3_mutter_45 ?_
      refine lv_idiv hx hb dX3_mutter_47 (by decide) ?_
      refine lv_topi (fun x_25 ex_25 => ?_)
      have dx_25 : x_25.toInt = x_20.toInt / 65536 := i_divc ex_25 rfl (by decide : (65536 : Int32).toInt = 65536) (by omega) (by decide)
      have gx_25 : 0 ≤ x_25.toInt := by omega
      refine lv_bipush (v := 100) hx hb dX3_mutter_48 (by decide) ?_
      refine lv_irem hx hb dX3_mutter_50 (by decide) ?_
      refine lv_topi (fun x_26 ex_26 => ?_)
      have bx_26 := i_rem ex_26 rfl (by decide : (100 : Int32).toInt = 100) (by omega) (by decide)
      refine lv_aload_n hx hb dX3_mutter_51 rfl (lv_at hl 0 rfl) ?_
      refine ti_get (ci := 3) (k := 0) (N := 17) (T := TX3) (v := .ref (A t 0)) C hw iw_3 rfl hq (by decide) (by decide) fl_X3_45 rfl (ti_Tv ((tT_uIE hM_21).trans hT)) dX3_mutter_52 ?_
      refine ti_get (ci := 8) (k := 10) (N := 12) (T := TX8) C hw iw_8 rfl (ob_t ht) (by decide) (by decide) fl_X3_209 rfl rfl dX3_mutter_55 ?_
      refine ti_top (y := x_6) ((tI_nE hM_21 (nk (by decide))).trans ex_6.symm) ?_
      have L_27 : tx 10 = x_6.toInt := (((tC_eo ht hq.1 htx (eo_I hM_21)).1 10 (by decide) (by decide)).trans (congrArg Int32.toInt ((tI_nE hM_21 (nk (by decide))).trans ex_6.symm))).trans rfl
      refine sb_icmp_ge (tgt := 80) hx hb rfl rfl dX3_mutter_58 (by decide) (fun c_58_27 => ?_) (fun c_58_27 => ?_)
      · have E_43 : bq_mt tx rg = g_23 := by unfold bq_mt; rw [if_neg (by omega), EZ, if_neg (by omega), ← eg_23]
        exact hQ _ _ _ _ _ hw (⟨iM_21, (rf_I hM_21), (eo_I hM_21), (by rw [E_43]; exact hs_22)⟩) dX3_mutter_80
      · refine lv_aload_n hx hb dX3_mutter_61 rfl (lv_at hl 0 rfl) ?_
        refine ti_get (ci := 3) (k := 3) (N := 17) (T := TX3) C hw iw_3 rfl hq (by decide) (by decide) fl_X3_56 rfl rfl dX3_mutter_62 ?_
        refine lv_topi (fun x_29 ex_29 => ?_)
        have bx_29 : 0 ≤ x_29.toInt ∧ x_29.toInt ≤ 8 := cI_rd iM_21 hq.1 ex_29
        have ux_29 : (tI M_21 q 3).toInt = x_29.toInt := by rw [ex_29]
        have L_30 : g_23 3 = x_29.toInt := ((hs_22.1 3 (by decide) (by decide)).trans (congrArg Int32.toInt (ex_29.symm))).trans rfl
        have L_31 : rg 3 = x_29.toInt := (show g_23 3 = rg 3 by rw [eg_23, su_n (by omega)]).symm.trans L_30
        refine lv_iconst (v := 1) hx hb dX3_mutter_65 (by decide) ?_
        refine sb_icmp_le (tgt := 80) hx hb rfl (by decide : (1 : Int32).toInt = 1) dX3_mutter_66 (by decide) (fun c_66_31 => ?_) (fun c_66_31 => ?_)
        · have E_44 : bq_mt tx rg = g_23 := by unfold bq_mt; rw [if_neg (by omega), EZ, if_neg (by omega), ← eg_23]
          exact hQ _ _ _ _ _ hw (⟨iM_21, (rf_I hM_21), (eo_I hM_21), (by rw [E_44]; exact hs_22)⟩) dX3_mutter_80
        · refine lv_aload_n hx hb dX3_mutter_69 rfl (lv_at hl 0 rfl) ?_
          refine lv_aload_n hx hb dX3_mutter_70 rfl (lv_at hl 0 rfl) ?_
          refine ti_get (ci := 3) (k := 3) (N := 17) (T := TX3) C hw iw_3 rfl hq (by decide) (by decide) fl_X3_56 rfl rfl dX3_mutter_71 ?_
          refine ti_top (y := x_29) (ex_29.symm) ?_
          have u_33 : (tI M_21 q 3).toInt = (x_29 : Int32).toInt := by rw [(ex_29.symm)]
          have L_34 : g_23 3 = x_29.toInt := ((hs_22.1 3 (by decide) (by decide)).trans (congrArg Int32.toInt (ex_29.symm))).trans rfl
          have L_35 : rg 3 = x_29.toInt := (show g_23 3 = rg 3 by rw [eg_23, su_n (by omega)]).symm.trans L_34
          refine lv_iconst (v := 1) hx hb dX3_mutter_74 (by decide) ?_
          refine lv_isub hx hb dX3_mutter_75 ?_
          refine lv_topi (fun x_36 ex_36 => ?_)
          have tx_36 : x_36.toInt = x_29.toInt - 1 := i_sub ex_36 rfl (by decide : (1 : Int32).toInt = 1) (by omega) (by omega)
          refine lv_iconst (v := 3) hx hb dX3_mutter_76 (by decide) ?_
          refine ti_callVv (ci := 3) (av := [.int x_36, .int 3]) C hw (z_X3_remove l D A cy hJ M_21 iM_21 q hq x_36 3 g_23 hs_22) ⟨ml_X3_196, ym_X3_remove, yv_X3_remove, yi_X3_remove, yc_X3_remove⟩ yd_X3_remove hq (by decide) rfl rfl hl.1 (Nat.le_of_ble_eq_true rfl) ⟨by decide, by decide⟩ ⟨Nat.zero_le _, Nat.zero_le _⟩ dX3_mutter_77 (fun M_38 H locs hp_38 hw => ?_)
          obtain ⟨iM_38, q_39, q_40, hs_41⟩ := hp_38
          try simp only [show (3 : Int32).toInt = 3 by decide] at hs_41
          obtain ⟨g_42, eg_42⟩ : ∃ z : Nat → Int, z = bq_rm g_23 x_36.toInt 3 := ⟨_, rfl⟩
          rw [← eg_42] at hs_41
          have E_45 : bq_mt tx rg = g_42 := by unfold bq_mt; rw [if_neg (by omega), EZ, if_pos (by omega), show rg 3 - 1 = x_36.toInt by omega, ← eg_23, ← eg_42]
          exact hQ _ _ _ _ _ hw (⟨iM_38, ((q_39).trans (rf_I hM_21)), (eo.trans q_40 (eo_I hM_21)), (by rw [E_45]; exact hs_41)⟩) dX3_mutter_80
    · exact hQ _ _ _ _ _ hw (⟨hI, rfl, eo.refl, (by unfold bq_mt; rw [if_pos (by omega)]; exact hs)⟩) dX3_mutter_18
set_option maxHeartbeats 4000000 in
set_option maxRecDepth 100000 in
theorem z_X3_pass (l : Launch) (D : va_G) (A : Nat → Nat → Nat) (cy : Nat → ClassId) (hJ : ti_inj ti_LT A) (M : ti_M) (hI : cI Tc M) (q t : Nat) (hq : ti_ob ti_LT q 3) (ht : t = 3 ∨ t = 4) (hT : tT M q 0 = some t) (tx rg : Nat → Int) (htx : tC t tx M) (hs : qC q rg M) (hm : rg 1 = 0 ∨ rg 1 = 1 ∨ rg 1 = 3) (h2 : 0 ≤ rg 2) (h5 : 0 ≤ rg 5) (hmin : cPer q → rg 2 < 120) : ti_Kv l yX3_pass cX3_pass 1 4 ti_LT D A cy M [.ref (A q 0)] (fun M2 => cI Tc M2 ∧ M2.2.2.2 = M.2.2.2 ∧ eo q M2 M ∧ qC q (bq_ps tx rg) M2) := by
  refine ti_eV yp_X3_pass hJ ti_LT_nd (Nat.le_of_ble_eq_true rfl) ?_
  intro p e s m args below meth c Q H0 C hQ hw ls hl
  have hx := C.1
  have hb := C.2.1
  have hl : lv_has ls 1 [(0, .ref (A q 0))] := hl
  refine lv_aload_n hx hb dX3_pass_0 rfl (lv_at hl 0 rfl) ?_
  refine ti_callVv (ci := 3) (av := []) C hw (z_X3_welcome l D A cy hJ M hI q t hq ht (hT) tx rg htx hs) ⟨ml_X3_143, ym_X3_welcome, yv_X3_welcome, yi_X3_welcome, yc_X3_welcome⟩ yd_X3_welcome hq (by decide) rfl rfl hl.1 (Nat.le_of_ble_eq_true rfl) ⟨by decide, by decide⟩ ⟨Nat.zero_le _, Nat.zero_le _⟩ dX3_pass_1 (fun M_2 H locs hp_2 hw => ?_)
  obtain ⟨iM_2, q_3, q_4, hs_5⟩ := hp_2
  obtain ⟨g_6, eg_6⟩ : ∃ z : Nat → Int, z = bq_wl tx (tx 4).toNat rg := ⟨_, rfl⟩
  rw [← eg_6] at hs_5
  have w1g_6 : g_6 1 = rg 1 := by rw [eg_6]; exact wl_k (k := 1) (by decide) _ _
  have w2g_6 : g_6 2 = rg 2 := by rw [eg_6]; exact wl_k (k := 2) (by decide) _ _
  have w5g_6 : g_6 5 = rg 5 := by rw [eg_6]; exact wl_k (k := 5) (by decide) _ _
  refine lv_aload_n hx hb dX3_pass_4 rfl (lv_at hl 0 rfl) ?_
  refine ti_callVv (ci := 3) (av := []) C hw (z_X3_hearCoughs l D A cy hJ M_2 iM_2 q t hq ht ((tT_fr q_3).trans hT) tx g_6 (tC_eo ht hq.1 htx q_4) hs_5 (by omega)) ⟨ml_X3_146, ym_X3_hearCoughs, yv_X3_hearCoughs, yi_X3_hearCoughs, yc_X3_hearCoughs⟩ yd_X3_hearCoughs hq (by decide) rfl rfl hl.1 (Nat.le_of_ble_eq_true rfl) ⟨by decide, by decide⟩ ⟨Nat.zero_le _, Nat.zero_le _⟩ dX3_pass_5 (fun M_8 H locs hp_8 hw => ?_)
  obtain ⟨iM_8, q_9, q_10, hs_11⟩ := hp_8
  obtain ⟨g_12, eg_12⟩ : ∃ z : Nat → Int, z = bq_hc tx g_6 := ⟨_, rfl⟩
  rw [← eg_12] at hs_11
  have w1g_12 : g_12 1 = g_6 1 := by rw [eg_12]; exact hc_k (by decide)
  have w2g_12 : g_12 2 = g_6 2 := by rw [eg_12]; exact hc_k (by decide)
  have w5g_12 : g_12 5 = g_6 5 := by rw [eg_12]; exact hc_k (by decide)
  refine lv_aload_n hx hb dX3_pass_8 rfl (lv_at hl 0 rfl) ?_
  refine ti_callVv (ci := 3) (av := []) C hw (z_X3_pour l D A cy hJ M_8 iM_8 q t hq ht ((tT_fr q_9).trans ((tT_fr q_3).trans hT)) tx g_12 (tC_eo ht hq.1 htx (eo.trans q_10 q_4)) hs_11 (by omega)) ⟨ml_X3_149, ym_X3_pour, yv_X3_pour, yi_X3_pour, yc_X3_pour⟩ yd_X3_pour hq (by decide) rfl rfl hl.1 (Nat.le_of_ble_eq_true rfl) ⟨by decide, by decide⟩ ⟨Nat.zero_le _, Nat.zero_le _⟩ dX3_pass_9 (fun M_14 H locs hp_14 hw => ?_)
  obtain ⟨iM_14, q_15, q_16, hs_17⟩ := hp_14
  obtain ⟨g_18, eg_18⟩ : ∃ z : Nat → Int, z = bq_pr tx g_12 := ⟨_, rfl⟩
  rw [← eg_18] at hs_17
  have w1g_18 : g_18 1 = g_12 1 := by rw [eg_18]; exact pr_k (by decide)
  have w2g_18 : g_18 2 = g_12 2 := by rw [eg_18]; exact pr_k (by decide)
  have w5g_18 : g_18 5 = g_12 5 := by rw [eg_18]; exact pr_k (by decide)
  refine lv_aload_n hx hb dX3_pass_12 rfl (lv_at hl 0 rfl) ?_
  refine ti_callVv (ci := 3) (av := []) C hw (z_X3_levy l D A cy hJ M_14 iM_14 q t hq ht ((tT_fr q_15).trans ((tT_fr q_9).trans ((tT_fr q_3).trans hT))) tx g_18 (tC_eo ht hq.1 htx (eo.trans q_16 (eo.trans q_10 q_4))) hs_17 (by omega) (by omega)) ⟨ml_X3_152, ym_X3_levy, yv_X3_levy, yi_X3_levy, yc_X3_levy⟩ yd_X3_levy hq (by decide) rfl rfl hl.1 (Nat.le_of_ble_eq_true rfl) ⟨by decide, by decide⟩ ⟨Nat.zero_le _, Nat.zero_le _⟩ dX3_pass_13 (fun M_20 H locs hp_20 hw => ?_)
  obtain ⟨iM_20, q_21, q_22, hs_23⟩ := hp_20
  obtain ⟨g_24, eg_24⟩ : ∃ z : Nat → Int, z = bq_ly tx g_18 := ⟨_, rfl⟩
  rw [← eg_24] at hs_23
  have w1g_24 : g_24 1 = g_18 1 := by rw [eg_24]; exact ly_k (by decide)
  have w2g_24 : g_24 2 = g_18 2 := by rw [eg_24]; exact ly_k (by decide)
  have w5g_24 : g_24 5 = g_18 5 := by rw [eg_24]; exact ly_k (by decide)
  refine lv_aload_n hx hb dX3_pass_16 rfl (lv_at hl 0 rfl) ?_
  refine ti_callVv (ci := 3) (av := []) C hw (z_X3_wear l D A cy hJ M_20 iM_20 q t hq ht ((tT_fr q_21).trans ((tT_fr q_15).trans ((tT_fr q_9).trans ((tT_fr q_3).trans hT)))) tx g_24 (tC_eo ht hq.1 htx (eo.trans q_22 (eo.trans q_16 (eo.trans q_10 q_4)))) hs_23) ⟨ml_X3_155, ym_X3_wear, yv_X3_wear, yi_X3_wear, yc_X3_wear⟩ yd_X3_wear hq (by decide) rfl rfl hl.1 (Nat.le_of_ble_eq_true rfl) ⟨by decide, by decide⟩ ⟨Nat.zero_le _, Nat.zero_le _⟩ dX3_pass_17 (fun M_26 H locs hp_26 hw => ?_)
  obtain ⟨iM_26, q_27, q_28, hs_29⟩ := hp_26
  obtain ⟨g_30, eg_30⟩ : ∃ z : Nat → Int, z = bq_wr tx g_24 := ⟨_, rfl⟩
  rw [← eg_30] at hs_29
  have w1g_30 : g_30 1 = g_24 1 := by rw [eg_30]; exact wr_k (by decide)
  have w2g_30 : g_30 2 = g_24 2 := by rw [eg_30]; exact wr_k (by decide)
  have w5g_30 : g_30 5 = g_24 5 := by rw [eg_30]; exact wr_k (by decide)
  refine lv_aload_n hx hb dX3_pass_20 rfl (lv_at hl 0 rfl) ?_
  refine ti_callVv (ci := 3) (av := []) C hw (z_X3_release l D A cy hJ M_26 iM_26 q t hq ht ((tT_fr q_27).trans ((tT_fr q_21).trans ((tT_fr q_15).trans ((tT_fr q_9).trans ((tT_fr q_3).trans hT))))) tx g_30 (tC_eo ht hq.1 htx (eo.trans q_28 (eo.trans q_22 (eo.trans q_16 (eo.trans q_10 q_4))))) hs_29 (by omega)) ⟨ml_X3_158, ym_X3_release, yv_X3_release, yi_X3_release, yc_X3_release⟩ yd_X3_release hq (by decide) rfl rfl hl.1 (Nat.le_of_ble_eq_true rfl) ⟨by decide, by decide⟩ ⟨Nat.zero_le _, Nat.zero_le _⟩ dX3_pass_21 (fun M_32 H locs hp_32 hw => ?_)
  obtain ⟨iM_32, q_33, q_34, hs_35⟩ := hp_32
  obtain ⟨g_36, eg_36⟩ : ∃ z : Nat → Int, z = bq_rl tx g_30 := ⟨_, rfl⟩
  rw [← eg_36] at hs_35
  have w1g_36 : g_36 1 = g_30 1 := by rw [eg_36]; exact rl_k (by decide)
  have w2g_36 : g_36 2 = g_30 2 := by rw [eg_36]; exact rl_k (by decide)
  have w5g_36 : g_36 5 = g_30 5 := by rw [eg_36]; exact rl_k (by decide)
  refine lv_aload_n hx hb dX3_pass_24 rfl (lv_at hl 0 rfl) ?_
  refine ti_callVv (ci := 3) (av := []) C hw (z_X3_mutter l D A cy hJ M_32 iM_32 q t hq ht ((tT_fr q_33).trans ((tT_fr q_27).trans ((tT_fr q_21).trans ((tT_fr q_15).trans ((tT_fr q_9).trans ((tT_fr q_3).trans hT)))))) tx g_36 (tC_eo ht hq.1 htx (eo.trans q_34 (eo.trans q_28 (eo.trans q_22 (eo.trans q_16 (eo.trans q_10 q_4)))))) hs_35 (by omega) (by omega)) ⟨ml_X3_161, ym_X3_mutter, yv_X3_mutter, yi_X3_mutter, yc_X3_mutter⟩ yd_X3_mutter hq (by decide) rfl rfl hl.1 (Nat.le_of_ble_eq_true rfl) ⟨by decide, by decide⟩ ⟨Nat.zero_le _, Nat.zero_le _⟩ dX3_pass_25 (fun M_38 H locs hp_38 hw => ?_)
  obtain ⟨iM_38, q_39, q_40, hs_41⟩ := hp_38
  obtain ⟨g_42, eg_42⟩ : ∃ z : Nat → Int, z = bq_mt tx g_36 := ⟨_, rfl⟩
  rw [← eg_42] at hs_41
  have w1g_42 : g_42 1 = g_36 1 := by rw [eg_42]; exact mt_k (by decide)
  have w2g_42 : g_42 2 = g_36 2 := by rw [eg_42]; exact mt_k (by decide)
  refine lv_aload_n hx hb dX3_pass_28 rfl (lv_at hl 0 rfl) ?_
  refine lv_dup hx hb dX3_pass_29 rfl ?_
  refine ti_get (ci := 3) (k := 2) (N := 17) (T := TX3) C hw iw_3 rfl hq (by decide) (by decide) fl_X3_53 rfl rfl dX3_pass_30 ?_
  refine lv_topi (fun x_43 ex_43 => ?_)
  have L_44 : g_42 2 = x_43.toInt := ((hs_41.1 2 (by decide) (by decide)).trans (congrArg Int32.toInt (ex_43.symm))).trans rfl
  refine lv_iconst (v := 1) hx hb dX3_pass_33 (by decide) ?_
  refine lv_iadd hx hb dX3_pass_34 ?_
  refine lv_topi (fun x_45 ex_45 => ?_)
  have tx_45 : x_45.toInt = bw (x_43.toInt + 1) := bw_add ex_45 rfl (by decide : (1 : Int32).toInt = 1)
  refine ti_putI (ci := 3) (k := 2) (N := 17) (T := TX3) C hw iw_3 tyX3 tyX3_ok nmX3 rfl hq (by decide) (by decide) fl_X3_53 rfl rfl rfl rfl (fn_3 A _) fs_3_2 dX3_pass_35 (fun H locs hw => ?_)
  obtain ⟨M_46, hM_46⟩ : ∃ z : ti_M, z = uI M_38 q 2 x_45 := ⟨_, rfl⟩
  have hw := hw.to hM_46.symm
  have iM_46 : cI Tc M_46 := cI_uI iM_38 hM_46 hq.1 (fun hp => by have q := hmin hp; have t := i_add ex_45 rfl (by decide : (1 : Int32).toInt = 1) (by omega) (by omega); exact ⟨by omega, by omega⟩)
  have hs_47 : qC q (pp_su g_42 2 x_45.toInt) M_46 := qC_I hs_41 rfl hM_46 (by decide)
  obtain ⟨g_48, eg_48⟩ : ∃ z : Nat → Int, z = pp_su g_42 2 x_45.toInt := ⟨_, rfl⟩
  rw [← eg_48] at hs_47
  have sg_48 : g_48 2 = x_45.toInt := by rw [eg_48, su_s]
  have w1g_48 : g_48 1 = g_42 1 := by rw [eg_48, su_n (by omega)]
  have w5g_48 : g_48 5 = g_42 5 := by rw [eg_48, su_n (by omega)]
  have E_49 : bq_ps tx rg = g_48 := by unfold bq_ps; rw [← eg_6, ← eg_12, ← eg_18, ← eg_24, ← eg_30, ← eg_36, ← eg_42]; unfold bq_m1; rw [show g_42 2 = x_43.toInt by omega, ← tx_45, ← eg_48]
  exact hQ _ _ _ _ _ hw (⟨iM_46, ((rf_I hM_46).trans ((q_39).trans ((q_33).trans ((q_27).trans ((q_21).trans ((q_15).trans ((q_9).trans q_3))))))), (eo.trans (eo_I hM_46) (eo.trans q_40 (eo.trans q_34 (eo.trans q_28 (eo.trans q_22 (eo.trans q_16 (eo.trans q_10 q_4))))))), (by rw [E_49]; exact hs_47)⟩) dX3_pass_38

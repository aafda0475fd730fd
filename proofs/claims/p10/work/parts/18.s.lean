variable {Tc : gC} {Tm : gM}
set_option maxHeartbeats 4000000 in
set_option maxRecDepth 100000 in
theorem s_X4_read (l : Launch) (D : va_G) (A : Nat → Nat → Nat) (cy : Nat → ClassId) (hJ : ti_inj ti_LT A) (M : ti_M) (hI : cI Tc M) (t : Nat) (ht : t = 3 ∨ t = 4) (nn : Int32) (h1 : 0 ≤ nn.toInt) (h2 : nn.toInt ≤ 700) : ti_KiE l yX4_read cX4_read 4 (some .boolean) 72 ti_LT D A cy M [.ref (A 1 0), .int nn, .ref (A t 0)] (fun r M2 => cI Tc M2 ∧ rR M2 M ∧ f0 M2 M ∧ tI M2 2 1 = tI M 2 1 ∧ 0 ≤ r.toInt ∧ r.toInt ≤ 1) := by
  refine ti_eIE yp_X4_read hJ ti_LT_nd (Nat.le_of_ble_eq_true rfl) ?_
  intro p e s m args below meth c Q H0 C hE hQ hw ls hl
  have hx := C.1
  have hb := C.2.1
  have hl : lv_has ls 4 [(0, .ref (A 1 0)), (1, .int nn), (2, .ref (A t 0))] := hl
  refine lv_aload_n hx hb dX4_read_0 rfl (lv_at hl 0 rfl) ?_
  refine lv_aload_n hx hb dX4_read_1 rfl (lv_at hl 2 rfl) ?_
  refine ti_putT (ci := 4) (k := 1) (N := 6) (T := TX4) C hw iw_4 tyX4 tyX4_ok nmX4 rfl ob_1 (by decide) (by decide) fl_X4_28 rfl rfl rfl rfl (fn_4 A _) fs_4_1 dX4_read_2 (fun H locs hw => ?_)
  obtain ⟨M_1, hM_1⟩ : ∃ z : ti_M, z = uT M 1 1 (some t) := ⟨_, rfl⟩
  have hw := hw.to hM_1.symm
  have iM_1 : cI Tc M_1 := cI_uT hI hM_1
  refine lv_aload_n hx hb dX4_read_5 rfl (lv_at hl 0 rfl) ?_
  refine ti_get (ci := 4) (k := 1) (N := 6) (T := TX4) (v := .ref (A t 0)) C hw iw_4 rfl ob_1 (by decide) (by decide) fl_X4_28 rfl (ti_Tv (tT_uE hM_1)) dX4_read_6 ?_
  refine ti_callVv (ci := 8) (av := []) C hw (s_X8_clear l D A cy hJ M_1 iM_1 t ht) ⟨ml_X4_32, ym_X8_clear, yv_X8_clear, yi_X8_clear, yc_X8_clear⟩ yd_X8_clear (ob_t ht) (by decide) rfl rfl hl.1 (Nat.le_of_ble_eq_true rfl) ⟨by decide, by decide⟩ ⟨Nat.zero_le _, Nat.zero_le _⟩ dX4_read_9 (fun M_3 H locs hp_3 hw => ?_)
  obtain ⟨iM_3, q_4, q_5, q_6⟩ := hp_3
  refine lv_aload_n hx hb dX4_read_12 rfl (lv_at hl 0 rfl) ?_
  refine lv_iconst (v := 0) hx hb dX4_read_13 (by decide) ?_
  refine ti_putI (ci := 4) (k := 3) (N := 6) (T := TX4) C hw iw_4 tyX4 tyX4_ok nmX4 rfl ob_1 (by decide) (by decide) fl_X4_18 rfl rfl rfl rfl (fn_4 A _) fs_4_3 dX4_read_14 (fun H locs hw => ?_)
  obtain ⟨M_7, hM_7⟩ : ∃ z : ti_M, z = uI M_3 1 3 0 := ⟨_, rfl⟩
  have hw := hw.to hM_7.symm
  have iM_7 : cI Tc M_7 := cI_uI iM_3 hM_7 ob_1.1 trivial
  refine lv_aload_n hx hb dX4_read_17 rfl (lv_at hl 0 rfl) ?_
  refine lv_iconst (v := 0) hx hb dX4_read_18 (by decide) ?_
  refine ti_putI (ci := 4) (k := 4) (N := 6) (T := TX4) C hw iw_4 tyX4 tyX4_ok nmX4 rfl ob_1 (by decide) (by decide) fl_X4_22 rfl rfl rfl rfl (fn_4 A _) fs_4_4 dX4_read_19 (fun H locs hw => ?_)
  obtain ⟨M_8, hM_8⟩ : ∃ z : ti_M, z = uI M_7 1 4 0 := ⟨_, rfl⟩
  have hw := hw.to hM_8.symm
  have iM_8 : cI Tc M_8 := cI_uI iM_7 hM_8 ob_1.1 trivial
  refine lv_aload_n hx hb dX4_read_22 rfl (lv_at hl 0 rfl) ?_
  refine lv_iconst (v := (-1)) hx hb dX4_read_23 (by decide) ?_
  refine ti_putI (ci := 4) (k := 5) (N := 6) (T := TX4) C hw iw_4 tyX4 tyX4_ok nmX4 rfl ob_1 (by decide) (by decide) fl_X4_25 rfl rfl rfl rfl (fn_4 A _) fs_4_5 dX4_read_24 (fun H locs hw => ?_)
  obtain ⟨M_9, hM_9⟩ : ∃ z : ti_M, z = uI M_8 1 5 (-1) := ⟨_, rfl⟩
  have hw := hw.to hM_9.symm
  have iM_9 : cI Tc M_9 := cI_uI iM_8 hM_9 ob_1.1 trivial
  refine lv_aload_n hx hb dX4_read_27 rfl (lv_at hl 0 rfl) ?_
  refine ti_get (ci := 4) (k := 0) (N := 6) (T := TX4) (v := .ref (A 2 0)) C hw iw_4 rfl ob_1 (by decide) (by decide) fl_X4_12 rfl rfl dX4_read_28 ?_
  refine lv_iload_n hx hb dX4_read_31 rfl (lv_at hl 1 rfl) ?_
  refine ti_callVvE (ci := 7) (av := [.int nn]) C hE hw (s_X7_begin l D A cy hJ M_9 iM_9 nn (by first | omega | decide)) ⟨ml_X4_37, ym_X7_begin, yv_X7_begin, yi_X7_begin, yc_X7_begin⟩ yd_X7_begin ob_2 (by decide) rfl rfl hl.1 (Nat.le_of_ble_eq_true rfl) ⟨by decide, by decide⟩ ⟨Nat.zero_le _, Nat.zero_le _⟩ dX4_read_32 (fun M_11 H locs hp_11 hw => ?_)
  obtain ⟨iM_11, q_12, q_13, q_14⟩ := hp_11
  refine lv_iconst (v := 0) hx hb dX4_read_35 (by decide) ?_
  refine lv_istore_n (lv' := [(3, .int 0), (0, .ref (A 1 0)), (1, .int nn), (2, .ref (A t 0))]) hx hb dX4_read_36 rfl hl (by decide) rfl (fun ls hl => ?_)
  have hl_37_22 : ∀ (n_23 : Nat) (x_15 : Int32) (M_18 : ti_M) (H : Heap) (locs : List Loc) (ls : Array Slot), (701 - x_15.toInt : Int).toNat < n_23 → (0 ≤ x_15.toInt) → (x_15.toInt ≤ 701) → (cI Tc M_18) → (rR M_18 M) → (f0 M_18 M) → (tI M_18 2 1 = tI M 2 1) → (tT M_18 1 1 = (some t)) → ti_H ti_LT D A cy H0 M_18 H locs → lv_has ls 4 [(3, .int x_15), (0, .ref (A 1 0)), (1, .int nn), (2, .ref (A t 0))] → W p l e (ti_rm 72) s m args below meth c H locs 0 0 Q (F0 m 37 ls []) := by
    intro n_23
    induction n_23 with
    | zero => intro x_15 M_18 H locs ls hf_23; exact absurd hf_23 (Nat.not_lt_zero _)
    | succ n_23 ih_23 =>
      intro x_15 M_18 H locs ls hf_23 b_16 b_17 iM_18 f_19 f_20 f_21 f_22 hw hl
      refine lv_iload_n hx hb dX4_read_37 rfl (lv_at hl 0 rfl) ?_
      refine lv_iload_n hx hb dX4_read_38 rfl (lv_at hl 2 rfl) ?_
      have hj_298_131 : ∀  (H : Heap) (locs : List Loc) (ls : Array Slot), ti_H ti_LT D A cy H0 M_18 H locs → lv_has ls 4 [(3, .int x_15), (0, .ref (A 1 0)), (1, .int nn), (2, .ref (A t 0))] → W p l e (ti_rm 72) s m args below meth c H locs 0 0 Q (F0 m 298 ls []) := by
        intro  H locs ls  hw hl
        refine lv_aload_n hx hb dX4_read_298 rfl (lv_at hl 1 rfl) ?_
        refine ti_get (ci := 4) (k := 4) (N := 6) (T := TX4) C hw iw_4 rfl ob_1 (by decide) (by decide) fl_X4_22 rfl rfl dX4_read_299 ?_
        refine lv_topi (fun x_132 ex_132 => ?_)
        refine sb_if_ne (tgt := 309) hx hb rfl dX4_read_302 (by decide) (fun c_302_132 => ?_) (fun c_302_132 => ?_)
        · refine lv_iconst (v := 0) hx hb dX4_read_309 (by decide) ?_
          exact hQ _ _ _ _ _ _ hw rfl (⟨iM_18, f_19, f_20, (f_21), (by first | omega | decide), (by first | omega | decide)⟩) dX4_read_310
        · refine lv_iconst (v := 1) hx hb dX4_read_305 (by decide) ?_
          refine lv_goto (tgt := 310) hx hb dX4_read_306 (by decide) ?_
          exact hQ _ _ _ _ _ _ hw rfl (⟨iM_18, f_19, f_20, (f_21), (by first | omega | decide), (by first | omega | decide)⟩) dX4_read_310
      refine sb_icmp_gt (tgt := 298) hx hb rfl rfl dX4_read_39 (by decide) (fun c_39_23 => ?_) (fun c_39_23 => ?_)
      · exact hj_298_131  _ _ _  hw (lv_sub hl [0, 1, 2, 3] rfl)
      · refine lv_aload_n hx hb dX4_read_42 rfl (lv_at hl 1 rfl) ?_
        refine ti_get (ci := 4) (k := 0) (N := 6) (T := TX4) (v := .ref (A 2 0)) C hw iw_4 rfl ob_1 (by decide) (by decide) fl_X4_12 rfl rfl dX4_read_43 ?_
        refine ti_get (ci := 7) (k := 4) (N := 7) (T := TX7) C hw iw_7 rfl ob_2 (by decide) (by decide) fl_X4_41 rfl rfl dX4_read_46 ?_
        refine lv_topi (fun x_25 ex_25 => ?_)
        have bx_25 : 0 ≤ x_25.toInt ∧ x_25.toInt ≤ 41 := cI_rd iM_18 ob_2.1 ex_25
        have ux_25 : (tI M_18 2 4).toInt = x_25.toInt := by rw [ex_25]
        refine lv_bipush (v := 27) hx hb dX4_read_49 (by decide) ?_
        refine sb_icmp_eq (tgt := 298) hx hb rfl (by decide : (27 : Int32).toInt = 27) dX4_read_51 (by decide) (fun c_51_25 => ?_) (fun c_51_25 => ?_)
        · exact hj_298_131  _ _ _  hw (lv_sub hl [0, 1, 2, 3] rfl)
        · refine lv_aload_n hx hb dX4_read_54 rfl (lv_at hl 1 rfl) ?_
          refine ti_get (ci := 4) (k := 4) (N := 6) (T := TX4) C hw iw_4 rfl ob_1 (by decide) (by decide) fl_X4_22 rfl rfl dX4_read_55 ?_
          refine lv_topi (fun x_27 ex_27 => ?_)
          refine sb_if_ne (tgt := 298) hx hb rfl dX4_read_58 (by decide) (fun c_58_27 => ?_) (fun c_58_27 => ?_)
          · exact hj_298_131  _ _ _  hw (lv_sub hl [0, 1, 2, 3] rfl)
          · refine lv_aload_n hx hb dX4_read_61 rfl (lv_at hl 1 rfl) ?_
            refine ti_get (ci := 4) (k := 0) (N := 6) (T := TX4) (v := .ref (A 2 0)) C hw iw_4 rfl ob_1 (by decide) (by decide) fl_X4_12 rfl rfl dX4_read_62 ?_
            refine ti_get (ci := 7) (k := 4) (N := 7) (T := TX7) C hw iw_7 rfl ob_2 (by decide) (by decide) fl_X4_41 rfl rfl dX4_read_65 ?_
            refine ti_top (y := x_25) (ex_25.symm) ?_
            have u_29 : (tI M_18 2 4).toInt = (x_25 : Int32).toInt := by rw [(ex_25.symm)]
            have hj_273_122 : ∀ (M_118 : ti_M) (H : Heap) (locs : List Loc) (ls : Array Slot), (cI Tc M_118) → (rR M_118 M) → (f0 M_118 M) → (tI M_118 2 1 = tI M 2 1) → (tT M_118 1 1 = (some t)) → ti_H ti_LT D A cy H0 M_118 H locs → lv_has ls 4 [(3, .int x_15), (0, .ref (A 1 0)), (1, .int nn), (2, .ref (A t 0))] → W p l e (ti_rm 72) s m args below meth c H locs 0 0 Q (F0 m 273 ls []) := by
              intro M_118 H locs ls iM_118 f_119 f_120 f_121 f_122 hw hl
              refine lv_aload_n hx hb dX4_read_273 rfl (lv_at hl 1 rfl) ?_
              refine lv_bipush (v := 29) hx hb dX4_read_274 (by decide) ?_
              refine ti_callVvE (ci := 4) (av := [.int 29]) C hE hw (s_X4_take l D A cy hJ M_118 iM_118 29) ⟨ml_X4_85, ym_X4_take, yv_X4_take, yi_X4_take, yc_X4_take⟩ yd_X4_take ob_1 (by decide) rfl rfl hl.1 (Nat.le_of_ble_eq_true rfl) ⟨by decide, by decide⟩ ⟨Nat.zero_le _, Nat.zero_le _⟩ dX4_read_276 (fun M_124 H locs hp_124 hw => ?_)
              obtain ⟨iM_124, q_125, q_126, q_127⟩ := hp_124
              refine lv_aload_n hx hb dX4_read_279 rfl (lv_at hl 1 rfl) ?_
              refine ti_get (ci := 4) (k := 1) (N := 6) (T := TX4) (v := .ref (A t 0)) C hw iw_4 rfl ob_1 (by decide) (by decide) fl_X4_28 rfl (ti_Tv ((tT_fr q_125).trans f_122)) dX4_read_280 ?_
              refine lv_dup hx hb dX4_read_283 rfl ?_
              refine ti_get (ci := 8) (k := 3) (N := 12) (T := TX8) C hw iw_8 rfl (ob_t ht) (by decide) (by decide) fl_X4_88 rfl rfl dX4_read_284 ?_
              refine lv_topi (fun x_128 ex_128 => ?_)
              refine lv_iconst (v := 1) hx hb dX4_read_287 (by decide) ?_
              refine lv_iadd hx hb dX4_read_288 ?_
              refine lv_topi (fun x_129 ex_129 => ?_)
              refine ti_putI (ci := 8) (k := 3) (N := 12) (T := TX8) C hw iw_8 tyX8 tyX8_ok nmX8 rfl (ob_t ht) (by decide) (by decide) fl_X4_88 rfl rfl rfl rfl (fn_8 A _) fs_8_3 dX4_read_289 (fun H locs hw => ?_)
              obtain ⟨M_130, hM_130⟩ : ∃ z : ti_M, z = uI M_124 t 3 x_129 := ⟨_, rfl⟩
              have hw := hw.to hM_130.symm
              have iM_130 : cI Tc M_130 := cI_uI iM_124 hM_130 (ob_t ht).1 trivial
              obtain ⟨x_131, ex_131⟩ : ∃ z : Int32, z = x_15 + 1 := ⟨_, rfl⟩
              have tx_131 : x_131.toInt = x_15.toInt + 1 := i_add ex_131 rfl (by decide) (by omega) (by omega)
              refine lv_iinc (v := x_131) (lv' := [(3, .int x_131), (0, .ref (A 1 0)), (1, .int nn), (2, .ref (A t 0))]) hx hb dX4_read_292 hl (k := 0) rfl (by rw [ex_131]; rfl) (by decide) rfl (fun ls hl => ?_)
              refine lv_goto (tgt := 37) hx hb dX4_read_295 (by decide) ?_
              exact ih_23 x_131 M_130 _ _ _ (by omega) (by first | omega | decide) (by first | omega | decide) iM_130 (rR.trans (rr_of (rf_I hM_130)) (rR.trans (rr_of q_125) f_119)) (f0.trans (f0_I hM_130 (f0n (ob_t ht).1 (by decide))) (f0.trans (f0_12 q_126) f_120)) ((tI_nE hM_130 (nk (by decide))).trans ((q_127).trans f_121)) ((tT_uIE hM_130).trans ((tT_fr q_125).trans f_122)) hw (lv_sub hl [0, 1, 2, 3] rfl)
            by_cases s_30_0 : x_25 = 0
            · refine lv_tableIn (tgt := 120) (off := 52) hx hb dX4_read_68 (by rw [s_30_0]; decide) (by rw [s_30_0]; decide) (by rw [s_30_0]; decide) (by decide) ?_
              refine lv_aload_n hx hb dX4_read_120 rfl (lv_at hl 1 rfl) ?_
              refine ti_callVvE (ci := 4) (av := []) C hE hw (s_X4_readMan l D A cy hJ M_18 iM_18 t ht (f_22)) ⟨ml_X4_44, ym_X4_readMan, yv_X4_readMan, yi_X4_readMan, yc_X4_readMan⟩ yd_X4_readMan ob_1 (by decide) rfl rfl hl.1 (Nat.le_of_ble_eq_true rfl) ⟨by decide, by decide⟩ ⟨Nat.zero_le _, Nat.zero_le _⟩ dX4_read_121 (fun M_32 H locs hp_32 hw => ?_)
              obtain ⟨iM_32, q_33, q_34, q_35⟩ := hp_32
              refine lv_goto (tgt := 273) hx hb dX4_read_124 (by decide) ?_
              exact hj_273_122 M_32 _ _ _ iM_32 (rR.trans (rr_of q_33) f_19) (f0.trans q_34 f_20) ((q_35).trans f_21) ((tT_fr q_33).trans f_22) hw (lv_sub hl [0, 1, 2, 3] rfl)
            · by_cases s_30_1 : x_25 = 1
              · refine lv_tableIn (tgt := 127) (off := 59) hx hb dX4_read_68 (by rw [s_30_1]; decide) (by rw [s_30_1]; decide) (by rw [s_30_1]; decide) (by decide) ?_
                refine lv_aload_n hx hb dX4_read_127 rfl (lv_at hl 1 rfl) ?_
                refine ti_callVvE (ci := 4) (av := []) C hE hw (s_X4_readGuard l D A cy hJ M_18 iM_18 t ht (f_22)) ⟨ml_X4_47, ym_X4_readGuard, yv_X4_readGuard, yi_X4_readGuard, yc_X4_readGuard⟩ yd_X4_readGuard ob_1 (by decide) rfl rfl hl.1 (Nat.le_of_ble_eq_true rfl) ⟨by decide, by decide⟩ ⟨Nat.zero_le _, Nat.zero_le _⟩ dX4_read_128 (fun M_37 H locs hp_37 hw => ?_)
                obtain ⟨iM_37, q_38, q_39, q_40⟩ := hp_37
                refine lv_goto (tgt := 273) hx hb dX4_read_131 (by decide) ?_
                exact hj_273_122 M_37 _ _ _ iM_37 (rR.trans (rr_of q_38) f_19) (f0.trans q_39 f_20) ((q_40).trans f_21) ((tT_fr q_38).trans f_22) hw (lv_sub hl [0, 1, 2, 3] rfl)
              · by_cases s_30_2 : x_25 = 2
                · refine lv_tableIn (tgt := 134) (off := 66) hx hb dX4_read_68 (by rw [s_30_2]; decide) (by rw [s_30_2]; decide) (by rw [s_30_2]; decide) (by decide) ?_
                  refine lv_aload_n hx hb dX4_read_134 rfl (lv_at hl 1 rfl) ?_
                  refine ti_callVvE (ci := 4) (av := []) C hE hw (s_X4_readPower l D A cy hJ M_18 iM_18 t ht (f_22)) ⟨ml_X4_50, ym_X4_readPower, yv_X4_readPower, yi_X4_readPower, yc_X4_readPower⟩ yd_X4_readPower ob_1 (by decide) rfl rfl hl.1 (Nat.le_of_ble_eq_true rfl) ⟨by decide, by decide⟩ ⟨Nat.zero_le _, Nat.zero_le _⟩ dX4_read_135 (fun M_42 H locs hp_42 hw => ?_)
                  obtain ⟨iM_42, q_43, q_44, q_45⟩ := hp_42
                  refine lv_goto (tgt := 273) hx hb dX4_read_138 (by decide) ?_
                  exact hj_273_122 M_42 _ _ _ iM_42 (rR.trans (rr_of q_43) f_19) (f0.trans q_44 f_20) ((q_45).trans f_21) ((tT_fr q_43).trans f_22) hw (lv_sub hl [0, 1, 2, 3] rfl)
                · by_cases s_30_3 : x_25 = 3
                  · refine lv_tableIn (tgt := 141) (off := 73) hx hb dX4_read_68 (by rw [s_30_3]; decide) (by rw [s_30_3]; decide) (by rw [s_30_3]; decide) (by decide) ?_
                    refine lv_aload_n hx hb dX4_read_141 rfl (lv_at hl 1 rfl) ?_
                    refine ti_callVvE (ci := 4) (av := []) C hE hw (s_X4_once l D A cy hJ M_18 iM_18 ) ⟨ml_X4_53, ym_X4_once, yv_X4_once, yi_X4_once, yc_X4_once⟩ yd_X4_once ob_1 (by decide) rfl rfl hl.1 (Nat.le_of_ble_eq_true rfl) ⟨by decide, by decide⟩ ⟨Nat.zero_le _, Nat.zero_le _⟩ dX4_read_142 (fun M_47 H locs hp_47 hw => ?_)
                    obtain ⟨iM_47, q_48, q_49, q_50⟩ := hp_47
                    refine lv_aload_n hx hb dX4_read_145 rfl (lv_at hl 1 rfl) ?_
                    refine ti_get (ci := 4) (k := 1) (N := 6) (T := TX4) (v := .ref (A t 0)) C hw iw_4 rfl ob_1 (by decide) (by decide) fl_X4_28 rfl (ti_Tv ((tT_fr q_48).trans f_22)) dX4_read_146 ?_
                    refine lv_aload_n hx hb dX4_read_149 rfl (lv_at hl 1 rfl) ?_
                    refine lv_iconst (v := 0) hx hb dX4_read_150 (by decide) ?_
                    refine lv_sipush (v := 999) hx hb dX4_read_151 (by decide) ?_
                    refine ti_callViE (ci := 4) (av := [.int 0, .int 999]) C hE hw (s_X4_number l D A cy hJ M_47 iM_47 0 999) ⟨ml_X4_56, ym_X4_number, yv_X4_number, yi_X4_number, yc_X4_number⟩ yd_X4_number ob_1 (by decide) rfl rfl hl.1 (Nat.le_of_ble_eq_true rfl) ⟨by decide, by decide⟩ ⟨Nat.zero_le _, Nat.zero_le _⟩ dX4_read_154 (fun r_51 M_52 H locs hp_52 hw => ?_)
                    obtain ⟨iM_52, q_53, q_54, q_55⟩ := hp_52
                    refine ti_putI (ci := 8) (k := 6) (N := 12) (T := TX8) C hw iw_8 tyX8 tyX8_ok nmX8 rfl (ob_t ht) (by decide) (by decide) fl_X4_60 rfl rfl rfl rfl (fn_8 A _) fs_8_6 dX4_read_157 (fun H locs hw => ?_)
                    obtain ⟨M_56, hM_56⟩ : ∃ z : ti_M, z = uI M_52 t 6 r_51 := ⟨_, rfl⟩
                    have hw := hw.to hM_56.symm
                    have iM_56 : cI Tc M_56 := cI_uI iM_52 hM_56 (ob_t ht).1 trivial
                    refine lv_aload_n hx hb dX4_read_160 rfl (lv_at hl 1 rfl) ?_
                    refine ti_get (ci := 4) (k := 1) (N := 6) (T := TX4) (v := .ref (A t 0)) C hw iw_4 rfl ob_1 (by decide) (by decide) fl_X4_28 rfl (ti_Tv ((tT_uIE hM_56).trans ((tT_fr q_53).trans ((tT_fr q_48).trans f_22)))) dX4_read_161 ?_
                    refine lv_aload_n hx hb dX4_read_164 rfl (lv_at hl 1 rfl) ?_
                    refine lv_iconst (v := 1) hx hb dX4_read_165 (by decide) ?_
                    refine lv_bipush (v := 9) hx hb dX4_read_166 (by decide) ?_
                    refine ti_callViE (ci := 4) (av := [.int 1, .int 9]) C hE hw (s_X4_number l D A cy hJ M_56 iM_56 1 9) ⟨ml_X4_56, ym_X4_number, yv_X4_number, yi_X4_number, yc_X4_number⟩ yd_X4_number ob_1 (by decide) rfl rfl hl.1 (Nat.le_of_ble_eq_true rfl) ⟨by decide, by decide⟩ ⟨Nat.zero_le _, Nat.zero_le _⟩ dX4_read_168 (fun r_57 M_58 H locs hp_58 hw => ?_)
                    obtain ⟨iM_58, q_59, q_60, q_61⟩ := hp_58
                    refine ti_putI (ci := 8) (k := 7) (N := 12) (T := TX8) C hw iw_8 tyX8 tyX8_ok nmX8 rfl (ob_t ht) (by decide) (by decide) fl_X4_63 rfl rfl rfl rfl (fn_8 A _) fs_8_7 dX4_read_171 (fun H locs hw => ?_)
                    obtain ⟨M_62, hM_62⟩ : ∃ z : ti_M, z = uI M_58 t 7 r_57 := ⟨_, rfl⟩
                    have hw := hw.to hM_62.symm
                    have iM_62 : cI Tc M_62 := cI_uI iM_58 hM_62 (ob_t ht).1 trivial
                    refine lv_goto (tgt := 273) hx hb dX4_read_174 (by decide) ?_
                    exact hj_273_122 M_62 _ _ _ iM_62 (rR.trans (rr_of (rf_I hM_62)) (rR.trans (rr_of q_59) (rR.trans (rr_of (rf_I hM_56)) (rR.trans (rr_of q_53) (rR.trans (rr_of q_48) f_19))))) (f0.trans (f0_I hM_62 (f0n (ob_t ht).1 (by decide))) (f0.trans (f0_12 q_60) (f0.trans (f0_I hM_56 (f0n (ob_t ht).1 (by decide))) (f0.trans (f0_12 q_54) (f0.trans (f0_12 q_49) f_20))))) ((tI_nE hM_62 (nk (by decide))).trans ((q_61).trans ((tI_nE hM_56 (nk (by decide))).trans ((q_55).trans ((q_50).trans f_21))))) ((tT_uIE hM_62).trans ((tT_fr q_59).trans ((tT_uIE hM_56).trans ((tT_fr q_53).trans ((tT_fr q_48).trans f_22))))) hw (lv_sub hl [0, 1, 2, 3] rfl)
                  · by_cases s_30_4 : x_25 = 4
                    · refine lv_tableIn (tgt := 177) (off := 109) hx hb dX4_read_68 (by rw [s_30_4]; decide) (by rw [s_30_4]; decide) (by rw [s_30_4]; decide) (by decide) ?_
                      refine lv_aload_n hx hb dX4_read_177 rfl (lv_at hl 1 rfl) ?_
                      refine ti_callVvE (ci := 4) (av := []) C hE hw (s_X4_once l D A cy hJ M_18 iM_18 ) ⟨ml_X4_53, ym_X4_once, yv_X4_once, yi_X4_once, yc_X4_once⟩ yd_X4_once ob_1 (by decide) rfl rfl hl.1 (Nat.le_of_ble_eq_true rfl) ⟨by decide, by decide⟩ ⟨Nat.zero_le _, Nat.zero_le _⟩ dX4_read_178 (fun M_64 H locs hp_64 hw => ?_)
                      obtain ⟨iM_64, q_65, q_66, q_67⟩ := hp_64
                      refine lv_aload_n hx hb dX4_read_181 rfl (lv_at hl 1 rfl) ?_
                      refine ti_get (ci := 4) (k := 1) (N := 6) (T := TX4) (v := .ref (A t 0)) C hw iw_4 rfl ob_1 (by decide) (by decide) fl_X4_28 rfl (ti_Tv ((tT_fr q_65).trans f_22)) dX4_read_182 ?_
                      refine lv_aload_n hx hb dX4_read_185 rfl (lv_at hl 1 rfl) ?_
                      refine lv_iconst (v := 1) hx hb dX4_read_186 (by decide) ?_
                      refine lv_bipush (v := 30) hx hb dX4_read_187 (by decide) ?_
                      refine ti_callViE (ci := 4) (av := [.int 1, .int 30]) C hE hw (s_X4_number l D A cy hJ M_64 iM_64 1 30) ⟨ml_X4_56, ym_X4_number, yv_X4_number, yi_X4_number, yc_X4_number⟩ yd_X4_number ob_1 (by decide) rfl rfl hl.1 (Nat.le_of_ble_eq_true rfl) ⟨by decide, by decide⟩ ⟨Nat.zero_le _, Nat.zero_le _⟩ dX4_read_189 (fun r_68 M_69 H locs hp_69 hw => ?_)
                      obtain ⟨iM_69, q_70, q_71, q_72⟩ := hp_69
                      refine ti_putI (ci := 8) (k := 8) (N := 12) (T := TX8) C hw iw_8 tyX8 tyX8_ok nmX8 rfl (ob_t ht) (by decide) (by decide) fl_X4_66 rfl rfl rfl rfl (fn_8 A _) fs_8_8 dX4_read_192 (fun H locs hw => ?_)
                      obtain ⟨M_73, hM_73⟩ : ∃ z : ti_M, z = uI M_69 t 8 r_68 := ⟨_, rfl⟩
                      have hw := hw.to hM_73.symm
                      have iM_73 : cI Tc M_73 := cI_uI iM_69 hM_73 (ob_t ht).1 trivial
                      refine lv_goto (tgt := 273) hx hb dX4_read_195 (by decide) ?_
                      exact hj_273_122 M_73 _ _ _ iM_73 (rR.trans (rr_of (rf_I hM_73)) (rR.trans (rr_of q_70) (rR.trans (rr_of q_65) f_19))) (f0.trans (f0_I hM_73 (f0n (ob_t ht).1 (by decide))) (f0.trans (f0_12 q_71) (f0.trans (f0_12 q_66) f_20))) ((tI_nE hM_73 (nk (by decide))).trans ((q_72).trans ((q_67).trans f_21))) ((tT_uIE hM_73).trans ((tT_fr q_70).trans ((tT_fr q_65).trans f_22))) hw (lv_sub hl [0, 1, 2, 3] rfl)
                    · by_cases s_30_5 : x_25 = 5
                      · refine lv_tableIn (tgt := 198) (off := 130) hx hb dX4_read_68 (by rw [s_30_5]; decide) (by rw [s_30_5]; decide) (by rw [s_30_5]; decide) (by decide) ?_
                        refine lv_aload_n hx hb dX4_read_198 rfl (lv_at hl 1 rfl) ?_
                        refine ti_callVvE (ci := 4) (av := []) C hE hw (s_X4_once l D A cy hJ M_18 iM_18 ) ⟨ml_X4_53, ym_X4_once, yv_X4_once, yi_X4_once, yc_X4_once⟩ yd_X4_once ob_1 (by decide) rfl rfl hl.1 (Nat.le_of_ble_eq_true rfl) ⟨by decide, by decide⟩ ⟨Nat.zero_le _, Nat.zero_le _⟩ dX4_read_199 (fun M_75 H locs hp_75 hw => ?_)
                        obtain ⟨iM_75, q_76, q_77, q_78⟩ := hp_75
                        refine lv_aload_n hx hb dX4_read_202 rfl (lv_at hl 1 rfl) ?_
                        refine ti_get (ci := 4) (k := 1) (N := 6) (T := TX4) (v := .ref (A t 0)) C hw iw_4 rfl ob_1 (by decide) (by decide) fl_X4_28 rfl (ti_Tv ((tT_fr q_76).trans f_22)) dX4_read_203 ?_
                        refine lv_aload_n hx hb dX4_read_206 rfl (lv_at hl 1 rfl) ?_
                        refine lv_iconst (v := 1) hx hb dX4_read_207 (by decide) ?_
                        refine lv_bipush (v := 7) hx hb dX4_read_208 (by decide) ?_
                        refine ti_callViE (ci := 4) (av := [.int 1, .int 7]) C hE hw (s_X4_number l D A cy hJ M_75 iM_75 1 7) ⟨ml_X4_56, ym_X4_number, yv_X4_number, yi_X4_number, yc_X4_number⟩ yd_X4_number ob_1 (by decide) rfl rfl hl.1 (Nat.le_of_ble_eq_true rfl) ⟨by decide, by decide⟩ ⟨Nat.zero_le _, Nat.zero_le _⟩ dX4_read_210 (fun r_79 M_80 H locs hp_80 hw => ?_)
                        obtain ⟨iM_80, q_81, q_82, q_83⟩ := hp_80
                        refine ti_putI (ci := 8) (k := 9) (N := 12) (T := TX8) C hw iw_8 tyX8 tyX8_ok nmX8 rfl (ob_t ht) (by decide) (by decide) fl_X4_69 rfl rfl rfl rfl (fn_8 A _) fs_8_9 dX4_read_213 (fun H locs hw => ?_)
                        obtain ⟨M_84, hM_84⟩ : ∃ z : ti_M, z = uI M_80 t 9 r_79 := ⟨_, rfl⟩
                        have hw := hw.to hM_84.symm
                        have iM_84 : cI Tc M_84 := cI_uI iM_80 hM_84 (ob_t ht).1 trivial
                        refine lv_goto (tgt := 273) hx hb dX4_read_216 (by decide) ?_
                        exact hj_273_122 M_84 _ _ _ iM_84 (rR.trans (rr_of (rf_I hM_84)) (rR.trans (rr_of q_81) (rR.trans (rr_of q_76) f_19))) (f0.trans (f0_I hM_84 (f0n (ob_t ht).1 (by decide))) (f0.trans (f0_12 q_82) (f0.trans (f0_12 q_77) f_20))) ((tI_nE hM_84 (nk (by decide))).trans ((q_83).trans ((q_78).trans f_21))) ((tT_uIE hM_84).trans ((tT_fr q_81).trans ((tT_fr q_76).trans f_22))) hw (lv_sub hl [0, 1, 2, 3] rfl)
                      · by_cases s_30_6 : x_25 = 6
                        · refine lv_tableIn (tgt := 219) (off := 151) hx hb dX4_read_68 (by rw [s_30_6]; decide) (by rw [s_30_6]; decide) (by rw [s_30_6]; decide) (by decide) ?_
                          refine lv_aload_n hx hb dX4_read_219 rfl (lv_at hl 1 rfl) ?_
                          refine ti_callVvE (ci := 4) (av := []) C hE hw (s_X4_once l D A cy hJ M_18 iM_18 ) ⟨ml_X4_53, ym_X4_once, yv_X4_once, yi_X4_once, yc_X4_once⟩ yd_X4_once ob_1 (by decide) rfl rfl hl.1 (Nat.le_of_ble_eq_true rfl) ⟨by decide, by decide⟩ ⟨Nat.zero_le _, Nat.zero_le _⟩ dX4_read_220 (fun M_86 H locs hp_86 hw => ?_)
                          obtain ⟨iM_86, q_87, q_88, q_89⟩ := hp_86
                          refine lv_aload_n hx hb dX4_read_223 rfl (lv_at hl 1 rfl) ?_
                          refine ti_get (ci := 4) (k := 1) (N := 6) (T := TX4) (v := .ref (A t 0)) C hw iw_4 rfl ob_1 (by decide) (by decide) fl_X4_28 rfl (ti_Tv ((tT_fr q_87).trans f_22)) dX4_read_224 ?_
                          refine lv_aload_n hx hb dX4_read_227 rfl (lv_at hl 1 rfl) ?_
                          refine lv_iconst (v := 0) hx hb dX4_read_228 (by decide) ?_
                          refine lv_bipush (v := 99) hx hb dX4_read_229 (by decide) ?_
                          refine ti_callViE (ci := 4) (av := [.int 0, .int 99]) C hE hw (s_X4_number l D A cy hJ M_86 iM_86 0 99) ⟨ml_X4_56, ym_X4_number, yv_X4_number, yi_X4_number, yc_X4_number⟩ yd_X4_number ob_1 (by decide) rfl rfl hl.1 (Nat.le_of_ble_eq_true rfl) ⟨by decide, by decide⟩ ⟨Nat.zero_le _, Nat.zero_le _⟩ dX4_read_231 (fun r_90 M_91 H locs hp_91 hw => ?_)
                          obtain ⟨iM_91, q_92, q_93, q_94⟩ := hp_91
                          refine ti_putI (ci := 8) (k := 10) (N := 12) (T := TX8) C hw iw_8 tyX8 tyX8_ok nmX8 rfl (ob_t ht) (by decide) (by decide) fl_X4_72 rfl rfl rfl rfl (fn_8 A _) fs_8_10 dX4_read_234 (fun H locs hw => ?_)
                          obtain ⟨M_95, hM_95⟩ : ∃ z : ti_M, z = uI M_91 t 10 r_90 := ⟨_, rfl⟩
                          have hw := hw.to hM_95.symm
                          have iM_95 : cI Tc M_95 := cI_uI iM_91 hM_95 (ob_t ht).1 trivial
                          refine lv_goto (tgt := 273) hx hb dX4_read_237 (by decide) ?_
                          exact hj_273_122 M_95 _ _ _ iM_95 (rR.trans (rr_of (rf_I hM_95)) (rR.trans (rr_of q_92) (rR.trans (rr_of q_87) f_19))) (f0.trans (f0_I hM_95 (f0n (ob_t ht).1 (by decide))) (f0.trans (f0_12 q_93) (f0.trans (f0_12 q_88) f_20))) ((tI_nE hM_95 (nk (by decide))).trans ((q_94).trans ((q_89).trans f_21))) ((tT_uIE hM_95).trans ((tT_fr q_92).trans ((tT_fr q_87).trans f_22))) hw (lv_sub hl [0, 1, 2, 3] rfl)
                        · by_cases s_30_7 : x_25 = 7
                          · refine lv_tableIn (tgt := 240) (off := 172) hx hb dX4_read_68 (by rw [s_30_7]; decide) (by rw [s_30_7]; decide) (by rw [s_30_7]; decide) (by decide) ?_
                            refine lv_aload_n hx hb dX4_read_240 rfl (lv_at hl 1 rfl) ?_
                            refine ti_callVvE (ci := 4) (av := []) C hE hw (s_X4_once l D A cy hJ M_18 iM_18 ) ⟨ml_X4_53, ym_X4_once, yv_X4_once, yi_X4_once, yc_X4_once⟩ yd_X4_once ob_1 (by decide) rfl rfl hl.1 (Nat.le_of_ble_eq_true rfl) ⟨by decide, by decide⟩ ⟨Nat.zero_le _, Nat.zero_le _⟩ dX4_read_241 (fun M_97 H locs hp_97 hw => ?_)
                            obtain ⟨iM_97, q_98, q_99, q_100⟩ := hp_97
                            refine lv_aload_n hx hb dX4_read_244 rfl (lv_at hl 1 rfl) ?_
                            refine ti_get (ci := 4) (k := 1) (N := 6) (T := TX4) (v := .ref (A t 0)) C hw iw_4 rfl ob_1 (by decide) (by decide) fl_X4_28 rfl (ti_Tv ((tT_fr q_98).trans f_22)) dX4_read_245 ?_
                            refine lv_aload_n hx hb dX4_read_248 rfl (lv_at hl 1 rfl) ?_
                            refine lv_iconst (v := 0) hx hb dX4_read_249 (by decide) ?_
                            refine lv_ldc (v := 99999) hx hb C.2.2.2.1 (C.2.2.1 _ cn_X4_75) dX4_read_250 ?_
                            refine ti_callViE (ci := 4) (av := [.int 0, .int 99999]) C hE hw (s_X4_number l D A cy hJ M_97 iM_97 0 99999) ⟨ml_X4_56, ym_X4_number, yv_X4_number, yi_X4_number, yc_X4_number⟩ yd_X4_number ob_1 (by decide) rfl rfl hl.1 (Nat.le_of_ble_eq_true rfl) ⟨by decide, by decide⟩ ⟨Nat.zero_le _, Nat.zero_le _⟩ dX4_read_252 (fun r_101 M_102 H locs hp_102 hw => ?_)
                            obtain ⟨iM_102, q_103, q_104, q_105⟩ := hp_102
                            refine ti_putI (ci := 8) (k := 11) (N := 12) (T := TX8) C hw iw_8 tyX8 tyX8_ok nmX8 rfl (ob_t ht) (by decide) (by decide) fl_X4_76 rfl rfl rfl rfl (fn_8 A _) fs_8_11 dX4_read_255 (fun H locs hw => ?_)
                            obtain ⟨M_106, hM_106⟩ : ∃ z : ti_M, z = uI M_102 t 11 r_101 := ⟨_, rfl⟩
                            have hw := hw.to hM_106.symm
                            have iM_106 : cI Tc M_106 := cI_uI iM_102 hM_106 (ob_t ht).1 trivial
                            refine lv_goto (tgt := 273) hx hb dX4_read_258 (by decide) ?_
                            exact hj_273_122 M_106 _ _ _ iM_106 (rR.trans (rr_of (rf_I hM_106)) (rR.trans (rr_of q_103) (rR.trans (rr_of q_98) f_19))) (f0.trans (f0_I hM_106 (f0n (ob_t ht).1 (by decide))) (f0.trans (f0_12 q_104) (f0.trans (f0_12 q_99) f_20))) ((tI_nE hM_106 (nk (by decide))).trans ((q_105).trans ((q_100).trans f_21))) ((tT_uIE hM_106).trans ((tT_fr q_103).trans ((tT_fr q_98).trans f_22))) hw (lv_sub hl [0, 1, 2, 3] rfl)
                          · by_cases s_30_8 : x_25 = 8
                            · refine lv_tableIn (tgt := 261) (off := 193) hx hb dX4_read_68 (by rw [s_30_8]; decide) (by rw [s_30_8]; decide) (by rw [s_30_8]; decide) (by decide) ?_
                              refine lv_aload_n hx hb dX4_read_261 rfl (lv_at hl 1 rfl) ?_
                              refine ti_callVvE (ci := 4) (av := []) C hE hw (s_X4_readLaw l D A cy hJ M_18 iM_18 t ht (f_22)) ⟨ml_X4_79, ym_X4_readLaw, yv_X4_readLaw, yi_X4_readLaw, yc_X4_readLaw⟩ yd_X4_readLaw ob_1 (by decide) rfl rfl hl.1 (Nat.le_of_ble_eq_true rfl) ⟨by decide, by decide⟩ ⟨Nat.zero_le _, Nat.zero_le _⟩ dX4_read_262 (fun M_108 H locs hp_108 hw => ?_)
                              obtain ⟨iM_108, q_109, q_110, q_111, q_112⟩ := hp_108
                              refine lv_goto (tgt := 273) hx hb dX4_read_265 (by decide) ?_
                              exact hj_273_122 M_108 _ _ _ iM_108 (rR.trans q_109 f_19) (f0.trans q_110 f_20) ((q_111).trans f_21) ((q_112).trans f_22) hw (lv_sub hl [0, 1, 2, 3] rfl)
                            · refine lv_tableOut (tgt := 268) hx hb dX4_read_68 (ti_out (lo := 0) (hi := 8) x_25 (fun v h1 h2 => by rcases (show v = 0 ∨ v = 1 ∨ v = 2 ∨ v = 3 ∨ v = 4 ∨ v = 5 ∨ v = 6 ∨ v = 7 ∨ v = 8 by omega) with rfl | rfl | rfl | rfl | rfl | rfl | rfl | rfl | rfl <;> first | exact ti_nev 0 s_30_0 (by decide) | exact ti_nev 1 s_30_1 (by decide) | exact ti_nev 2 s_30_2 (by decide) | exact ti_nev 3 s_30_3 (by decide) | exact ti_nev 4 s_30_4 (by decide) | exact ti_nev 5 s_30_5 (by decide) | exact ti_nev 6 s_30_6 (by decide) | exact ti_nev 7 s_30_7 (by decide) | exact ti_nev 8 s_30_8 (by decide))) (by decide) ?_
                              refine lv_aload_n hx hb dX4_read_268 rfl (lv_at hl 1 rfl) ?_
                              refine lv_iconst (v := 1) hx hb dX4_read_269 (by decide) ?_
                              refine ti_callVv (ci := 4) (av := [.int 1]) C hw (s_X4_refuse l D A cy hJ M_18 iM_18 1) ⟨ml_X4_82, ym_X4_refuse, yv_X4_refuse, yi_X4_refuse, yc_X4_refuse⟩ yd_X4_refuse ob_1 (by decide) rfl rfl hl.1 (Nat.le_of_ble_eq_true rfl) ⟨by decide, by decide⟩ ⟨Nat.zero_le _, Nat.zero_le _⟩ dX4_read_270 (fun M_114 H locs hp_114 hw => ?_)
                              obtain ⟨iM_114, q_115, q_116, q_117⟩ := hp_114
                              exact hj_273_122 M_114 _ _ _ iM_114 (rR.trans (rr_of q_115) f_19) (f0.trans (f0_12 q_116) f_20) ((q_117).trans f_21) ((tT_fr q_115).trans f_22) hw (lv_sub hl [0, 1, 2, 3] rfl)
  exact hl_37_22 ((701 - 0 : Int).toNat + 1) 0 M_11 _ _ _ (Nat.lt_succ_self _) (by have lt0 : (0 : Int32).toInt = 0 := (by decide); first | omega | decide) (by have lt0 : (0 : Int32).toInt = 0 := (by decide); first | omega | decide) iM_11 (rR.trans (rr_of q_12) (rR.trans (rr_of (rf_I hM_9)) (rR.trans (rr_of (rf_I hM_8)) (rR.trans (rr_of (rf_I hM_7)) (rR.trans (rr_of q_4) (rr_T hM_1)))))) (f0.trans (f0_12 q_13) (f0.trans (f0_I hM_9 (by decide)) (f0.trans (f0_I hM_8 (by decide)) (f0.trans (f0_I hM_7 (by decide)) (f0.trans q_5 (f0_of (ra_T hM_1))))))) ((q_14).trans ((tI_nE hM_9 (nk (by decide))).trans ((tI_nE hM_8 (nk (by decide))).trans ((tI_nE hM_7 (nk (by decide))).trans ((q_6).trans (tI_uTE hM_1)))))) ((tT_fr q_12).trans ((tT_uIE hM_9).trans ((tT_uIE hM_8).trans ((tT_uIE hM_7).trans ((tT_fr q_4).trans (tT_uE hM_1)))))) hw (lv_sub hl [0, 1, 2, 3] rfl)
set_option maxHeartbeats 4000000 in
set_option maxRecDepth 100000 in
theorem s_X5_clear (l : Launch) (D : va_G) (A : Nat → Nat → Nat) (cy : Nat → ClassId) (hJ : ti_inj ti_LT A) (M : ti_M) (hI : cI Tc M)  : ti_Kv l yX5_clear cX5_clear 1 0 ti_LT D A cy M [.ref (A 28 0)] (fun M2 => M2 = uI M 28 2 0) := by
  refine ti_eV yp_X5_clear hJ ti_LT_nd (Nat.le_of_ble_eq_true rfl) ?_
  intro p e s m args below meth c Q H0 C hQ hw ls hl
  have hx := C.1
  have hb := C.2.1
  have hl : lv_has ls 1 [(0, .ref (A 28 0))] := hl
  refine lv_aload_n hx hb dX5_clear_0 rfl (lv_at hl 0 rfl) ?_
  refine lv_iconst (v := 0) hx hb dX5_clear_1 (by decide) ?_
  refine ti_putI (ci := 5) (k := 2) (N := 3) (T := TX5) C hw iw_5 tyX5 tyX5_ok nmX5 rfl ob_28 (by decide) (by decide) fl_X5_21 rfl rfl rfl rfl (fn_5 A _) fs_5_2 dX5_clear_2 (fun H locs hw => ?_)
  obtain ⟨M_1, hM_1⟩ : ∃ z : ti_M, z = uI M 28 2 0 := ⟨_, rfl⟩
  have hw := hw.to hM_1.symm
  have iM_1 : cI Tc M_1 := cI_uI hI hM_1 ob_28.1 (ib_mk (lo := 0) (hi := 20) (by decide) (by decide))
  have vM_1 : (tI M_1 28 2).toInt = 0 := by rw [tI_uE hM_1]; decide
  exact hQ _ _ _ _ _ hw hM_1 dX5_clear_5
set_option maxHeartbeats 4000000 in
set_option maxRecDepth 100000 in
theorem s_X5_remember (l : Launch) (D : va_G) (A : Nat → Nat → Nat) (cy : Nat → ClassId) (hJ : ti_inj ti_LT A) (M : ti_M) (hI : cI Tc M) (t : Nat) (ht : t = 3 ∨ t = 4) (hT : tT M 27 0 = some t) (hF : cF Tc M) : ti_Kv l yX5_remember cX5_remember 2 2 ti_LT D A cy M [.ref (A 28 0), .ref (A 27 0)] (fun M2 => cF Tc M2 ∧ tI M2 2 1 = tI M 2 1 ∧ tl M2 M) := by
  refine ti_eV yp_X5_remember hJ ti_LT_nd (Nat.le_of_ble_eq_true rfl) ?_
  intro p e s m args below meth c Q H0 C hQ hw ls hl
  have hx := C.1
  have hb := C.2.1
  have hl : lv_has ls 2 [(0, .ref (A 28 0)), (1, .ref (A 27 0))] := hl
  refine lv_aload_n hx hb dX5_remember_0 rfl (lv_at hl 0 rfl) ?_
  refine ti_get (ci := 5) (k := 0) (N := 3) (T := TX5) (v := .ref (A 28 1)) C hw iw_5 rfl ob_28 (by decide) (by decide) fl_X5_11 rfl rfl dX5_remember_1 ?_
  refine lv_aload_n hx hb dX5_remember_4 rfl (lv_at hl 0 rfl) ?_
  refine ti_get (ci := 5) (k := 1) (N := 3) (T := TX5) C hw iw_5 rfl ob_28 (by decide) (by decide) fl_X5_17 rfl rfl dX5_remember_5 ?_
  refine lv_topi (fun x_1 ex_1 => ?_)
  have bx_1 : 0 ≤ x_1.toInt ∧ x_1.toInt ≤ 19 := cI_rd hI ob_28.1 ex_1
  have ux_1 : (tI M 28 1).toInt = x_1.toInt := by rw [ex_1]
  refine lv_aload_n hx hb dX5_remember_8 rfl (lv_at hl 0 rfl) ?_
  refine ti_get (ci := 5) (k := 2) (N := 3) (T := TX5) C hw iw_5 rfl ob_28 (by decide) (by decide) fl_X5_21 rfl rfl dX5_remember_9 ?_
  refine lv_topi (fun x_2 ex_2 => ?_)
  have bx_2 : 0 ≤ x_2.toInt ∧ x_2.toInt ≤ 20 := cI_rd hI ob_28.1 ex_2
  have ux_2 : (tI M 28 2).toInt = x_2.toInt := by rw [ex_2]
  refine lv_iadd hx hb dX5_remember_12 ?_
  refine lv_topi (fun x_3 ex_3 => ?_)
  have tx_3 : x_3.toInt = x_1.toInt + x_2.toInt := i_add ex_3 rfl rfl (by omega) (by omega)
  refine lv_bipush (v := 20) hx hb dX5_remember_13 (by decide) ?_
  refine lv_irem hx hb dX5_remember_15 (by decide) ?_
  refine lv_topi (fun x_4 ex_4 => ?_)
  have bx_4 := i_rem ex_4 rfl (by decide : (20 : Int32).toInt = 20) (by omega) (by decide)
  refine ti_aald (ci := 5) (k := 0) (n := 20) (t0 := 6) (Cn := RX3) (gg := (fun i => 29 + i)) (j := x_4.toNatClampNeg) C hw ob_28 (by decide) (fun _ _ => rfl) rfl (vp_in_iff.mpr (by omega)) rfl dX5_remember_16 ?_
  have ob_5 : ti_ob ti_LT (29 + x_4.toNatClampNeg) 3 := ob_r (i_nt rfl (by omega) (by omega))
  refine lv_aload_n hx hb dX5_remember_17 rfl (lv_at hl 1 rfl) ?_
  refine ti_callVv (ci := 3) (av := [.ref (A 27 0)]) C hw (s_X3_copy l D A cy hJ M hI (29 + x_4.toNatClampNeg) 27 t ob_5 ob_27 ht (hT) (fun _ => Or.inl rfl)) ⟨ml_X5_25, ym_X3_copy, yv_X3_copy, yi_X3_copy, yc_X3_copy⟩ yd_X3_copy ob_5 (by decide) rfl rfl hl.1 (Nat.le_of_ble_eq_true rfl) ⟨by decide, by decide⟩ ⟨Nat.zero_le _, Nat.zero_le _⟩ dX5_remember_18 (fun M_7 H locs hp_7 hw => ?_)
  obtain ⟨iM_7, q_8, q_9⟩ := hp_7
  refine lv_aload_n hx hb dX5_remember_21 rfl (lv_at hl 0 rfl) ?_
  refine ti_get (ci := 5) (k := 2) (N := 3) (T := TX5) C hw iw_5 rfl ob_28 (by decide) (by decide) fl_X5_21 rfl rfl dX5_remember_22 ?_
  refine ti_top (y := x_2) (((q_9 2).2.2.1).trans ex_2.symm) ?_
  have u_10 : (tI M_7 28 2).toInt = (x_2 : Int32).toInt := by rw [(((q_9 2).2.2.1).trans ex_2.symm)]
  refine lv_bipush (v := 20) hx hb dX5_remember_25 (by decide) ?_
  refine sb_icmp_ge (tgt := 43) hx hb rfl (by decide : (20 : Int32).toInt = 20) dX5_remember_27 (by decide) (fun c_27_10 => ?_) (fun c_27_10 => ?_)
  · refine lv_aload_n hx hb dX5_remember_43 rfl (lv_at hl 0 rfl) ?_
    refine lv_aload_n hx hb dX5_remember_44 rfl (lv_at hl 0 rfl) ?_
    refine ti_get (ci := 5) (k := 1) (N := 3) (T := TX5) C hw iw_5 rfl ob_28 (by decide) (by decide) fl_X5_17 rfl rfl dX5_remember_45 ?_
    refine ti_top (y := x_1) (((q_9 1).2.2.1).trans ex_1.symm) ?_
    have u_15 : (tI M_7 28 1).toInt = (x_1 : Int32).toInt := by rw [(((q_9 1).2.2.1).trans ex_1.symm)]
    refine lv_iconst (v := 1) hx hb dX5_remember_48 (by decide) ?_
    refine lv_iadd hx hb dX5_remember_49 ?_
    refine lv_topi (fun x_16 ex_16 => ?_)
    have tx_16 : x_16.toInt = x_1.toInt + 1 := i_add ex_16 rfl (by decide : (1 : Int32).toInt = 1) (by omega) (by omega)
    refine lv_bipush (v := 20) hx hb dX5_remember_50 (by decide) ?_
    refine lv_irem hx hb dX5_remember_52 (by decide) ?_
    refine lv_topi (fun x_17 ex_17 => ?_)
    have bx_17 := i_rem ex_17 rfl (by decide : (20 : Int32).toInt = 20) (by omega) (by decide)
    refine ti_putI (ci := 5) (k := 1) (N := 3) (T := TX5) C hw iw_5 tyX5 tyX5_ok nmX5 rfl ob_28 (by decide) (by decide) fl_X5_17 rfl rfl rfl rfl (fn_5 A _) fs_5_1 dX5_remember_53 (fun H locs hw => ?_)
    obtain ⟨M_18, hM_18⟩ : ∃ z : ti_M, z = uI M_7 28 1 x_17 := ⟨_, rfl⟩
    have hw := hw.to hM_18.symm
    have iM_18 : cI Tc M_18 := cI_uI iM_7 hM_18 ob_28.1 (ib_mk (lo := 0) (hi := 19) (by omega) (by omega))
    have vM_18 : (tI M_18 28 1).toInt = (x_17 : Int32).toInt := by rw [tI_uE hM_18]
    exact hQ _ _ _ _ _ hw (⟨cF_rem hF iM_18 ht ((rf_I hM_18).trans q_8) (ex_1.symm) (ex_2.symm) (by omega) (by omega) (by omega) (by omega) (by show ((x_4.toInt.toNat : Nat) : Int) = _; omega) (fun k => (tI_nE hM_18 (no (by decide))).trans (q_9 k).1) (tI_uE hM_18) ((tI_nE hM_18 (nk (by decide))).trans (((q_9 2).2.2.1).trans ex_2.symm)) (Or.inr ⟨by omega, by omega, by omega⟩), ((tI_nE hM_18 (no (by decide))).trans ((q_9 1).2.1)), (tl.trans (tl_I hM_18 (by decide)) (tl_x q_9 ((tT_fr q_8).trans (tT_n _ _ _ _ (nk (by decide)))) ((tT_fr q_8).trans (tT_n _ _ _ _ (nk (by decide))))))⟩) dX5_remember_56
  · refine lv_aload_n hx hb dX5_remember_30 rfl (lv_at hl 0 rfl) ?_
    refine lv_dup hx hb dX5_remember_31 rfl ?_
    refine ti_get (ci := 5) (k := 2) (N := 3) (T := TX5) C hw iw_5 rfl ob_28 (by decide) (by decide) fl_X5_21 rfl rfl dX5_remember_32 ?_
    refine ti_top (y := x_2) (((q_9 2).2.2.1).trans ex_2.symm) ?_
    have u_12 : (tI M_7 28 2).toInt = (x_2 : Int32).toInt := by rw [(((q_9 2).2.2.1).trans ex_2.symm)]
    refine lv_iconst (v := 1) hx hb dX5_remember_35 (by decide) ?_
    refine lv_iadd hx hb dX5_remember_36 ?_
    refine lv_topi (fun x_13 ex_13 => ?_)
    have tx_13 : x_13.toInt = x_2.toInt + 1 := i_add ex_13 rfl (by decide : (1 : Int32).toInt = 1) (by omega) (by omega)
    refine ti_putI (ci := 5) (k := 2) (N := 3) (T := TX5) C hw iw_5 tyX5 tyX5_ok nmX5 rfl ob_28 (by decide) (by decide) fl_X5_21 rfl rfl rfl rfl (fn_5 A _) fs_5_2 dX5_remember_37 (fun H locs hw => ?_)
    obtain ⟨M_14, hM_14⟩ : ∃ z : ti_M, z = uI M_7 28 2 x_13 := ⟨_, rfl⟩
    have hw := hw.to hM_14.symm
    have iM_14 : cI Tc M_14 := cI_uI iM_7 hM_14 ob_28.1 (ib_mk (lo := 0) (hi := 20) (by omega) (by omega))
    have vM_14 : (tI M_14 28 2).toInt = (x_13 : Int32).toInt := by rw [tI_uE hM_14]
    refine lv_goto (tgt := 56) hx hb dX5_remember_40 (by decide) ?_
    exact hQ _ _ _ _ _ hw (⟨cF_rem hF iM_14 ht ((rf_I hM_14).trans q_8) (ex_1.symm) (ex_2.symm) (by omega) (by omega) (by omega) (by omega) (by show ((x_4.toInt.toNat : Nat) : Int) = _; omega) (fun k => (tI_nE hM_14 (no (by decide))).trans (q_9 k).1) ((tI_nE hM_14 (nk (by decide))).trans (((q_9 1).2.2.1).trans ex_1.symm)) (tI_uE hM_14) (Or.inl ⟨rfl, by omega⟩), ((tI_nE hM_14 (nk (by decide))).trans ((q_9 1).2.1)), (tl.trans (tl_I hM_14 (by decide)) (tl_x q_9 ((tT_fr q_8).trans (tT_n _ _ _ _ (nk (by decide)))) ((tT_fr q_8).trans (tT_n _ _ _ _ (nk (by decide))))))⟩) dX5_remember_56
set_option maxHeartbeats 4000000 in
set_option maxRecDepth 100000 in
theorem s_X5_takeBack (l : Launch) (D : va_G) (A : Nat → Nat → Nat) (cy : Nat → ClassId) (hJ : ti_inj ti_LT A) (M : ti_M) (hI : cI Tc M) (t : Nat) (ht : t = 3 ∨ t = 4) (hT : tT M 27 0 = some t) (hF : cF Tc M) : ti_Ki l yX5_takeBack cX5_takeBack 2 (some .boolean) 2 ti_LT D A cy M [.ref (A 28 0), .ref (A 27 0)] (fun r M2 => cF Tc M2 ∧ tI M2 2 1 = tI M 2 1 ∧ tl M2 M) := by
  refine ti_eI yp_X5_takeBack hJ ti_LT_nd (Nat.le_of_ble_eq_true rfl) ?_
  intro p e s m args below meth c Q H0 C hQ hw ls hl
  have hx := C.1
  have hb := C.2.1
  have hl : lv_has ls 2 [(0, .ref (A 28 0)), (1, .ref (A 27 0))] := hl
  refine lv_aload_n hx hb dX5_takeBack_0 rfl (lv_at hl 0 rfl) ?_
  refine ti_get (ci := 5) (k := 2) (N := 3) (T := TX5) C hw iw_5 rfl ob_28 (by decide) (by decide) fl_X5_21 rfl rfl dX5_takeBack_1 ?_
  refine lv_topi (fun x_1 ex_1 => ?_)
  have bx_1 : 0 ≤ x_1.toInt ∧ x_1.toInt ≤ 20 := cI_rd hI ob_28.1 ex_1
  have ux_1 : (tI M 28 2).toInt = x_1.toInt := by rw [ex_1]
  refine sb_if_ne (tgt := 9) hx hb rfl dX5_takeBack_4 (by decide) (fun c_4_1 => ?_) (fun c_4_1 => ?_)
  · refine lv_aload_n hx hb dX5_takeBack_9 rfl (lv_at hl 0 rfl) ?_
    refine lv_dup hx hb dX5_takeBack_10 rfl ?_
    refine ti_get (ci := 5) (k := 2) (N := 3) (T := TX5) C hw iw_5 rfl ob_28 (by decide) (by decide) fl_X5_21 rfl rfl dX5_takeBack_11 ?_
    refine ti_top (y := x_1) (ex_1.symm) ?_
    have u_3 : (tI M 28 2).toInt = (x_1 : Int32).toInt := by rw [(ex_1.symm)]
    refine lv_iconst (v := 1) hx hb dX5_takeBack_14 (by decide) ?_
    refine lv_isub hx hb dX5_takeBack_15 ?_
    refine lv_topi (fun x_4 ex_4 => ?_)
    have tx_4 : x_4.toInt = x_1.toInt - 1 := i_sub ex_4 rfl (by decide : (1 : Int32).toInt = 1) (by omega) (by omega)
    refine ti_putI (ci := 5) (k := 2) (N := 3) (T := TX5) C hw iw_5 tyX5 tyX5_ok nmX5 rfl ob_28 (by decide) (by decide) fl_X5_21 rfl rfl rfl rfl (fn_5 A _) fs_5_2 dX5_takeBack_16 (fun H locs hw => ?_)
    obtain ⟨M_5, hM_5⟩ : ∃ z : ti_M, z = uI M 28 2 x_4 := ⟨_, rfl⟩
    have hw := hw.to hM_5.symm
    have iM_5 : cI Tc M_5 := cI_uI hI hM_5 ob_28.1 (ib_mk (lo := 0) (hi := 20) (by omega) (by omega))
    have vM_5 : (tI M_5 28 2).toInt = (x_4 : Int32).toInt := by rw [tI_uE hM_5]
    refine lv_aload_n hx hb dX5_takeBack_19 rfl (lv_at hl 1 rfl) ?_
    refine lv_aload_n hx hb dX5_takeBack_20 rfl (lv_at hl 0 rfl) ?_
    refine ti_get (ci := 5) (k := 0) (N := 3) (T := TX5) (v := .ref (A 28 1)) C hw iw_5 rfl ob_28 (by decide) (by decide) fl_X5_11 rfl rfl dX5_takeBack_21 ?_
    refine lv_aload_n hx hb dX5_takeBack_24 rfl (lv_at hl 0 rfl) ?_
    refine ti_get (ci := 5) (k := 1) (N := 3) (T := TX5) C hw iw_5 rfl ob_28 (by decide) (by decide) fl_X5_17 rfl rfl dX5_takeBack_25 ?_
    refine lv_topi (fun x_6 ex_6 => ?_)
    have bx_6 : 0 ≤ x_6.toInt ∧ x_6.toInt ≤ 19 := cI_rd iM_5 ob_28.1 ex_6
    have ux_6 : (tI M_5 28 1).toInt = x_6.toInt := by rw [ex_6]
    refine lv_aload_n hx hb dX5_takeBack_28 rfl (lv_at hl 0 rfl) ?_
    refine ti_get (ci := 5) (k := 2) (N := 3) (T := TX5) C hw iw_5 rfl ob_28 (by decide) (by decide) fl_X5_21 rfl rfl dX5_takeBack_29 ?_
    refine ti_top (y := x_4) (tI_uE hM_5) ?_
    have u_7 : (tI M_5 28 2).toInt = (x_4 : Int32).toInt := by rw [(tI_uE hM_5)]
    refine lv_iadd hx hb dX5_takeBack_32 ?_
    refine lv_topi (fun x_8 ex_8 => ?_)
    have tx_8 : x_8.toInt = x_6.toInt + x_4.toInt := i_add ex_8 rfl rfl (by omega) (by omega)
    refine lv_bipush (v := 20) hx hb dX5_takeBack_33 (by decide) ?_
    refine lv_irem hx hb dX5_takeBack_35 (by decide) ?_
    refine lv_topi (fun x_9 ex_9 => ?_)
    have bx_9 := i_rem ex_9 rfl (by decide : (20 : Int32).toInt = 20) (by omega) (by decide)
    refine ti_aald (ci := 5) (k := 0) (n := 20) (t0 := 6) (Cn := RX3) (gg := (fun i => 29 + i)) (j := x_9.toNatClampNeg) C hw ob_28 (by decide) (fun _ _ => rfl) rfl (vp_in_iff.mpr (by omega)) rfl dX5_takeBack_36 ?_
    have ob_10 : ti_ob ti_LT (29 + x_9.toNatClampNeg) 3 := ob_r (i_nt rfl (by omega) (by omega))
    obtain ⟨t9, ht9, hT9⟩ := cS_get (i := x_9.toNatClampNeg) hF.2.2.2.2.1 (((tI_nE hM_5 (nk (by decide)))).symm.trans ex_6.symm) (ex_1.symm) (by omega) (by omega) (by show ((x_9.toInt.toNat : Nat) : Int) = _; omega)
    refine ti_callVv (ci := 3) (av := [.ref (A (29 + x_9.toNatClampNeg) 0)]) C hw (s_X3_copy l D A cy hJ M_5 iM_5 27 (29 + x_9.toNatClampNeg) t9 ob_27 ob_10 ht9 ((tT_uIE hM_5).trans hT9) (fun _ => cPr (i_nt (x := x_9) rfl (by omega) (by omega)))) ⟨ml_X5_25, ym_X3_copy, yv_X3_copy, yi_X3_copy, yc_X3_copy⟩ yd_X3_copy ob_27 (by decide) rfl rfl hl.1 (Nat.le_of_ble_eq_true rfl) ⟨by decide, by decide⟩ ⟨Nat.zero_le _, Nat.zero_le _⟩ dX5_takeBack_37 (fun M_12 H locs hp_12 hw => ?_)
    obtain ⟨iM_12, q_13, q_14⟩ := hp_12
    refine lv_iconst (v := 1) hx hb dX5_takeBack_40 (by decide) ?_
    exact hQ _ _ _ _ _ _ hw rfl (⟨cF_back hF iM_12 ht9 (rf_TTc (q_13) (rf_I hM_5)) (ex_1.symm) (fun k => (q_14 k).1.trans (tI_nE hM_5 (no (by decide)))) (((q_14 1).2.2.1).trans (tI_nE hM_5 (nk (by decide)))) (((q_14 2).2.2.1).trans (tI_uE hM_5)) (by omega) (by omega), (((q_14 1).2.1).trans (tI_nE hM_5 (nk (by decide)))), (tl.trans (tl_x q_14 ((tT_fr q_13).trans (tT_n _ _ _ _ (nk (by decide)))) ((tT_fr q_13).trans (tT_n _ _ _ _ (nk (by decide))))) (tl_I hM_5 (by decide)))⟩) dX5_takeBack_41
  · refine lv_iconst (v := 0) hx hb dX5_takeBack_7 (by decide) ?_
    exact hQ _ _ _ _ _ _ hw rfl (⟨hF, rfl, tl.refl⟩) dX5_takeBack_8
set_option maxHeartbeats 4000000 in
set_option maxRecDepth 100000 in
theorem s_X9_isMan (l : Launch) (D : va_G) (A : Nat → Nat → Nat) (cy : Nat → ClassId) (hJ : ti_inj ti_LT A) (M : ti_M) (hI : cI Tc M) (t1 : Nat) (ht1 : t1 = 3 ∨ t1 = 4) (hT1 : tT M 0 1 = some t1) (mn : Int32) : ti_Ki l yX9_isMan cX9_isMan 2 (some .boolean) 0 ti_LT D A cy M [.ref (A 0 0), .int mn] (fun r M2 => M2 = M ∧ ((r = 1 ∧ 0 ≤ mn.toInt ∧ mn.toInt ≤ 7) ∨ r = 0)) := by
  refine ti_eI yp_X9_isMan hJ ti_LT_nd (Nat.le_of_ble_eq_true rfl) ?_
  intro p e s m args below meth c Q H0 C hQ hw ls hl
  have hx := C.1
  have hb := C.2.1
  have hl : lv_has ls 2 [(0, .ref (A 0 0)), (1, .int mn)] := hl
  refine lv_iload_n hx hb dX9_isMan_0 rfl (lv_at hl 1 rfl) ?_
  have hj_19_3 : ∀  (H : Heap) (locs : List Loc) (ls : Array Slot), ti_H ti_LT D A cy H0 M H locs → lv_has ls 2 [(0, .ref (A 0 0)), (1, .int mn)] → W p l e (ti_rm 0) s m args below meth c H locs 0 0 Q (F0 m 19 ls []) := by
    intro  H locs ls  hw hl
    refine lv_iconst (v := 0) hx hb dX9_isMan_19 (by decide) ?_
    exact hQ _ _ _ _ _ _ hw rfl (⟨rfl, Or.inr rfl⟩) dX9_isMan_20
  refine sb_if_lt (tgt := 19) hx hb rfl dX9_isMan_1 (by decide) (fun c_1_0 => ?_) (fun c_1_0 => ?_)
  · exact hj_19_3  _ _ _  hw (lv_sub hl [0, 1] rfl)
  · refine lv_iload_n hx hb dX9_isMan_4 rfl (lv_at hl 1 rfl) ?_
    refine lv_aload_n hx hb dX9_isMan_5 rfl (lv_at hl 0 rfl) ?_
    refine ti_get (ci := 9) (k := 1) (N := 10) (T := TX9) (v := .ref (A t1 0)) C hw iw_9 rfl ob_0 (by decide) (by decide) fl_X9_19 rfl (ti_Tv (hT1)) dX9_isMan_6 ?_
    refine ti_get (ci := 8) (k := 4) (N := 12) (T := TX8) C hw iw_8 rfl (ob_t ht1) (by decide) (by decide) fl_X9_301 rfl rfl dX9_isMan_9 ?_
    refine lv_topi (fun x_2 ex_2 => ?_)
    have bx_2 : 0 ≤ x_2.toInt ∧ x_2.toInt ≤ 8 := cI_rd hI (ob_t ht1).1 ex_2
    have ux_2 : (tI M t1 4).toInt = x_2.toInt := by rw [ex_2]
    refine sb_icmp_ge (tgt := 19) hx hb rfl rfl dX9_isMan_12 (by decide) (fun c_12_2 => ?_) (fun c_12_2 => ?_)
    · exact hj_19_3  _ _ _  hw (lv_sub hl [0, 1] rfl)
    · refine lv_iconst (v := 1) hx hb dX9_isMan_15 (by decide) ?_
      refine lv_goto (tgt := 20) hx hb dX9_isMan_16 (by decide) ?_
      exact hQ _ _ _ _ _ _ hw rfl (⟨rfl, Or.inl ⟨rfl, by omega, by omega⟩⟩) dX9_isMan_20
set_option maxHeartbeats 4000000 in
set_option maxRecDepth 100000 in
theorem s_X9_isPower (l : Launch) (D : va_G) (A : Nat → Nat → Nat) (cy : Nat → ClassId) (hJ : ti_inj ti_LT A) (M : ti_M) (hI : cI Tc M)  (mn : Int32) : ti_Ki l yX9_isPower cX9_isPower 2 (some .boolean) 0 ti_LT D A cy M [.ref (A 0 0), .int mn] (fun r M2 => M2 = M ∧ ((r = 1 ∧ 0 ≤ mn.toInt ∧ mn.toInt ≤ 2) ∨ r = 0)) := by
  refine ti_eI yp_X9_isPower hJ ti_LT_nd (Nat.le_of_ble_eq_true rfl) ?_
  intro p e s m args below meth c Q H0 C hQ hw ls hl
  have hx := C.1
  have hb := C.2.1
  have hl : lv_has ls 2 [(0, .ref (A 0 0)), (1, .int mn)] := hl
  refine lv_iload_n hx hb dX9_isPower_0 rfl (lv_at hl 1 rfl) ?_
  have hj_13_2 : ∀  (H : Heap) (locs : List Loc) (ls : Array Slot), ti_H ti_LT D A cy H0 M H locs → lv_has ls 2 [(0, .ref (A 0 0)), (1, .int mn)] → W p l e (ti_rm 0) s m args below meth c H locs 0 0 Q (F0 m 13 ls []) := by
    intro  H locs ls  hw hl
    refine lv_iconst (v := 0) hx hb dX9_isPower_13 (by decide) ?_
    exact hQ _ _ _ _ _ _ hw rfl (⟨rfl, Or.inr rfl⟩) dX9_isPower_14
  refine sb_if_lt (tgt := 13) hx hb rfl dX9_isPower_1 (by decide) (fun c_1_0 => ?_) (fun c_1_0 => ?_)
  · exact hj_13_2  _ _ _  hw (lv_sub hl [0, 1] rfl)
  · refine lv_iload_n hx hb dX9_isPower_4 rfl (lv_at hl 1 rfl) ?_
    refine lv_iconst (v := 3) hx hb dX9_isPower_5 (by decide) ?_
    refine sb_icmp_ge (tgt := 13) hx hb rfl (by decide : (3 : Int32).toInt = 3) dX9_isPower_6 (by decide) (fun c_6_1 => ?_) (fun c_6_1 => ?_)
    · exact hj_13_2  _ _ _  hw (lv_sub hl [0, 1] rfl)
    · refine lv_iconst (v := 1) hx hb dX9_isPower_9 (by decide) ?_
      refine lv_goto (tgt := 14) hx hb dX9_isPower_10 (by decide) ?_
      exact hQ _ _ _ _ _ _ hw rfl (⟨rfl, Or.inl ⟨rfl, by omega, by omega⟩⟩) dX9_isPower_14
set_option maxHeartbeats 4000000 in
set_option maxRecDepth 100000 in
theorem s_X9_isPlace (l : Launch) (D : va_G) (A : Nat → Nat → Nat) (cy : Nat → ClassId) (hJ : ti_inj ti_LT A) (M : ti_M) (hI : cI Tc M)  (mn : Int32) : ti_Ki l yX9_isPlace cX9_isPlace 2 (some .boolean) 0 ti_LT D A cy M [.ref (A 0 0), .int mn] (fun r M2 => M2 = M ∧ ((r = 1 ∧ 0 ≤ mn.toInt ∧ mn.toInt ≤ 7) ∨ r = 0)) := by
  refine ti_eI yp_X9_isPlace hJ ti_LT_nd (Nat.le_of_ble_eq_true rfl) ?_
  intro p e s m args below meth c Q H0 C hQ hw ls hl
  have hx := C.1
  have hb := C.2.1
  have hl : lv_has ls 2 [(0, .ref (A 0 0)), (1, .int mn)] := hl
  refine lv_iload_n hx hb dX9_isPlace_0 rfl (lv_at hl 1 rfl) ?_
  have hj_14_2 : ∀  (H : Heap) (locs : List Loc) (ls : Array Slot), ti_H ti_LT D A cy H0 M H locs → lv_has ls 2 [(0, .ref (A 0 0)), (1, .int mn)] → W p l e (ti_rm 0) s m args below meth c H locs 0 0 Q (F0 m 14 ls []) := by
    intro  H locs ls  hw hl
    refine lv_iconst (v := 0) hx hb dX9_isPlace_14 (by decide) ?_
    exact hQ _ _ _ _ _ _ hw rfl (⟨rfl, Or.inr rfl⟩) dX9_isPlace_15
  refine sb_if_lt (tgt := 14) hx hb rfl dX9_isPlace_1 (by decide) (fun c_1_0 => ?_) (fun c_1_0 => ?_)
  · exact hj_14_2  _ _ _  hw (lv_sub hl [0, 1] rfl)
  · refine lv_iload_n hx hb dX9_isPlace_4 rfl (lv_at hl 1 rfl) ?_
    refine lv_bipush (v := 8) hx hb dX9_isPlace_5 (by decide) ?_
    refine sb_icmp_ge (tgt := 14) hx hb rfl (by decide : (8 : Int32).toInt = 8) dX9_isPlace_7 (by decide) (fun c_7_1 => ?_) (fun c_7_1 => ?_)
    · exact hj_14_2  _ _ _  hw (lv_sub hl [0, 1] rfl)
    · refine lv_iconst (v := 1) hx hb dX9_isPlace_10 (by decide) ?_
      refine lv_goto (tgt := 15) hx hb dX9_isPlace_11 (by decide) ?_
      exact hQ _ _ _ _ _ _ hw rfl (⟨rfl, Or.inl ⟨rfl, by omega, by omega⟩⟩) dX9_isPlace_15
set_option maxHeartbeats 4000000 in
set_option maxRecDepth 100000 in
theorem s_X9_isToCome (l : Launch) (D : va_G) (A : Nat → Nat → Nat) (cy : Nat → ClassId) (hJ : ti_inj ti_LT A) (M : ti_M) (hI : cI Tc M) (t1 : Nat) (ht1 : t1 = 3 ∨ t1 = 4) (hT1 : tT M 0 1 = some t1) (mn : Int32) : ti_Ki l yX9_isToCome cX9_isToCome 2 (some .boolean) 1 ti_LT D A cy M [.ref (A 0 0), .int mn] (fun r M2 => M2 = M ∧ ((r = 1 ∧ 0 ≤ mn.toInt ∧ mn.toInt ≤ 7) ∨ r = 0)) := by
  refine ti_eI yp_X9_isToCome hJ ti_LT_nd (Nat.le_of_ble_eq_true rfl) ?_
  intro p e s m args below meth c Q H0 C hQ hw ls hl
  have hx := C.1
  have hb := C.2.1
  have hl : lv_has ls 2 [(0, .ref (A 0 0)), (1, .int mn)] := hl
  refine lv_aload_n hx hb dX9_isToCome_0 rfl (lv_at hl 0 rfl) ?_
  refine lv_iload_n hx hb dX9_isToCome_1 rfl (lv_at hl 1 rfl) ?_
  refine ti_callVi (ci := 9) (av := [.int mn]) C hw (s_X9_isMan l D A cy hJ M hI t1 ht1 (hT1) mn) ⟨ml_X9_104, ym_X9_isMan, yv_X9_isMan, yi_X9_isMan, yc_X9_isMan⟩ yd_X9_isMan ob_0 (by decide) rfl rfl hl.1 (Nat.le_of_ble_eq_true rfl) ⟨by decide, by decide⟩ ⟨Nat.zero_le _, Nat.zero_le _⟩ dX9_isToCome_2 (fun r_1 M_2 H locs hp_2 hw => ?_)
  obtain ⟨hm, hz⟩ := hp_2
  have hw := hw.to hm
  have hj_24_7 : ∀  (H : Heap) (locs : List Loc) (ls : Array Slot), ti_H ti_LT D A cy H0 M H locs → lv_has ls 2 [(0, .ref (A 0 0)), (1, .int mn)] → W p l e (ti_rm 1) s m args below meth c H locs 0 0 Q (F0 m 24 ls []) := by
    intro  H locs ls  hw hl
    refine lv_iconst (v := 0) hx hb dX9_isToCome_24 (by decide) ?_
    exact hQ _ _ _ _ _ _ hw rfl (⟨rfl, Or.inr rfl⟩) dX9_isToCome_25
  rcases hz with ⟨rfl, d1_3, d2_3⟩ | rfl
  · refine sb_if_eq (tgt := 24) hx hb (by decide : (1 : Int32).toInt = 1) dX9_isToCome_5 (by decide) (fun h => absurd h (by decide)) (fun c_5_3 => ?_)
    refine lv_aload_n hx hb dX9_isToCome_8 rfl (lv_at hl 0 rfl) ?_
    refine ti_get (ci := 9) (k := 3) (N := 10) (T := TX9) (v := .ref (A 27 0)) C hw iw_9 rfl ob_0 (by decide) (by decide) fl_X9_29 rfl rfl dX9_isToCome_9 ?_
    refine ti_get (ci := 3) (k := 8) (N := 17) (T := TX3) (v := .ref (A 27 9)) C hw iw_3 rfl ob_27 (by decide) (by decide) fl_X9_139 rfl rfl dX9_isToCome_12 ?_
    refine lv_iload_n hx hb dX9_isToCome_15 rfl (lv_at hl 1 rfl) ?_
    refine ti_iald (ci := 3) (k := 8) (n := 8) C hw ob_27 (by decide) (fun _ _ => rfl) (vp_in_iff.mpr (by omega)) dX9_isToCome_16 ?_
    refine lv_topi (fun x_6 ex_6 => ?_)
    refine sb_if_ne (tgt := 24) hx hb rfl dX9_isToCome_17 (by decide) (fun c_17_6 => ?_) (fun c_17_6 => ?_)
    · exact hj_24_7  _ _ _  hw (lv_sub hl [0, 1] rfl)
    · refine lv_iconst (v := 1) hx hb dX9_isToCome_20 (by decide) ?_
      refine lv_goto (tgt := 25) hx hb dX9_isToCome_21 (by decide) ?_
      exact hQ _ _ _ _ _ _ hw rfl (⟨rfl, Or.inl ⟨rfl, by omega, by omega⟩⟩) dX9_isToCome_25
  · refine sb_if_eq (tgt := 24) hx hb (by decide : (0 : Int32).toInt = 0) dX9_isToCome_5 (by decide) (fun c_5_4 => ?_) (fun h => absurd h (by decide))
    exact hj_24_7  _ _ _  hw (lv_sub hl [0, 1] rfl)
set_option maxHeartbeats 4000000 in
set_option maxRecDepth 100000 in
theorem s_X9_isInQueue (l : Launch) (D : va_G) (A : Nat → Nat → Nat) (cy : Nat → ClassId) (hJ : ti_inj ti_LT A) (M : ti_M) (hI : cI Tc M) (t1 : Nat) (ht1 : t1 = 3 ∨ t1 = 4) (hT1 : tT M 0 1 = some t1) (mn : Int32) : ti_Ki l yX9_isInQueue cX9_isInQueue 2 (some .boolean) 1 ti_LT D A cy M [.ref (A 0 0), .int mn] (fun r M2 => M2 = M ∧ ((r = 1 ∧ 0 ≤ mn.toInt ∧ mn.toInt ≤ 7) ∨ r = 0)) := by
  refine ti_eI yp_X9_isInQueue hJ ti_LT_nd (Nat.le_of_ble_eq_true rfl) ?_
  intro p e s m args below meth c Q H0 C hQ hw ls hl
  have hx := C.1
  have hb := C.2.1
  have hl : lv_has ls 2 [(0, .ref (A 0 0)), (1, .int mn)] := hl
  refine lv_aload_n hx hb dX9_isInQueue_0 rfl (lv_at hl 0 rfl) ?_
  refine lv_iload_n hx hb dX9_isInQueue_1 rfl (lv_at hl 1 rfl) ?_
  refine ti_callVi (ci := 9) (av := [.int mn]) C hw (s_X9_isMan l D A cy hJ M hI t1 ht1 (hT1) mn) ⟨ml_X9_104, ym_X9_isMan, yv_X9_isMan, yi_X9_isMan, yc_X9_isMan⟩ yd_X9_isMan ob_0 (by decide) rfl rfl hl.1 (Nat.le_of_ble_eq_true rfl) ⟨by decide, by decide⟩ ⟨Nat.zero_le _, Nat.zero_le _⟩ dX9_isInQueue_2 (fun r_1 M_2 H locs hp_2 hw => ?_)
  obtain ⟨hm, hz⟩ := hp_2
  have hw := hw.to hm
  have hj_25_7 : ∀  (H : Heap) (locs : List Loc) (ls : Array Slot), ti_H ti_LT D A cy H0 M H locs → lv_has ls 2 [(0, .ref (A 0 0)), (1, .int mn)] → W p l e (ti_rm 1) s m args below meth c H locs 0 0 Q (F0 m 25 ls []) := by
    intro  H locs ls  hw hl
    refine lv_iconst (v := 0) hx hb dX9_isInQueue_25 (by decide) ?_
    exact hQ _ _ _ _ _ _ hw rfl (⟨rfl, Or.inr rfl⟩) dX9_isInQueue_26
  rcases hz with ⟨rfl, d1_3, d2_3⟩ | rfl
  · refine sb_if_eq (tgt := 25) hx hb (by decide : (1 : Int32).toInt = 1) dX9_isInQueue_5 (by decide) (fun h => absurd h (by decide)) (fun c_5_3 => ?_)
    refine lv_aload_n hx hb dX9_isInQueue_8 rfl (lv_at hl 0 rfl) ?_
    refine ti_get (ci := 9) (k := 3) (N := 10) (T := TX9) (v := .ref (A 27 0)) C hw iw_9 rfl ob_0 (by decide) (by decide) fl_X9_29 rfl rfl dX9_isInQueue_9 ?_
    refine ti_get (ci := 3) (k := 8) (N := 17) (T := TX3) (v := .ref (A 27 9)) C hw iw_3 rfl ob_27 (by decide) (by decide) fl_X9_139 rfl rfl dX9_isInQueue_12 ?_
    refine lv_iload_n hx hb dX9_isInQueue_15 rfl (lv_at hl 1 rfl) ?_
    refine ti_iald (ci := 3) (k := 8) (n := 8) C hw ob_27 (by decide) (fun _ _ => rfl) (vp_in_iff.mpr (by omega)) dX9_isInQueue_16 ?_
    refine lv_topi (fun x_6 ex_6 => ?_)
    refine lv_iconst (v := 1) hx hb dX9_isInQueue_17 (by decide) ?_
    refine sb_icmp_ne (tgt := 25) hx hb rfl (by decide : (1 : Int32).toInt = 1) dX9_isInQueue_18 (by decide) (fun c_18_6 => ?_) (fun c_18_6 => ?_)
    · exact hj_25_7  _ _ _  hw (lv_sub hl [0, 1] rfl)
    · refine lv_iconst (v := 1) hx hb dX9_isInQueue_21 (by decide) ?_
      refine lv_goto (tgt := 26) hx hb dX9_isInQueue_22 (by decide) ?_
      exact hQ _ _ _ _ _ _ hw rfl (⟨rfl, Or.inl ⟨rfl, by omega, by omega⟩⟩) dX9_isInQueue_26
  · refine sb_if_eq (tgt := 25) hx hb (by decide : (0 : Int32).toInt = 0) dX9_isInQueue_5 (by decide) (fun c_5_4 => ?_) (fun h => absurd h (by decide))
    exact hj_25_7  _ _ _  hw (lv_sub hl [0, 1] rfl)
set_option maxHeartbeats 4000000 in
set_option maxRecDepth 100000 in
theorem s_X9_isZeroOrOne (l : Launch) (D : va_G) (A : Nat → Nat → Nat) (cy : Nat → ClassId) (hJ : ti_inj ti_LT A) (M : ti_M) (hI : cI Tc M) (mn : Int32) : ti_Ki l yX9_isZeroOrOne cX9_isZeroOrOne 2 (some .boolean) 0 ti_LT D A cy M [.ref (A 0 0), .int mn] (fun r M2 => M2 = M) := by
  refine ti_eI yp_X9_isZeroOrOne hJ ti_LT_nd (Nat.le_of_ble_eq_true rfl) ?_
  intro p e s m args below meth c Q H0 C hQ hw ls hl
  have hx := C.1
  have hb := C.2.1
  have hl : lv_has ls 2 [(0, .ref (A 0 0)), (1, .int mn)] := hl
  refine lv_iload_n hx hb dX9_isZeroOrOne_0 rfl (lv_at hl 1 rfl) ?_
  have hj_9_2 : ∀  (H : Heap) (locs : List Loc) (ls : Array Slot), ti_H ti_LT D A cy H0 M H locs → lv_has ls 2 [(0, .ref (A 0 0)), (1, .int mn)] → W p l e (ti_rm 0) s m args below meth c H locs 0 0 Q (F0 m 9 ls []) := by
    intro  H locs ls  hw hl
    refine lv_iconst (v := 1) hx hb dX9_isZeroOrOne_9 (by decide) ?_
    refine lv_goto (tgt := 14) hx hb dX9_isZeroOrOne_10 (by decide) ?_
    exact hQ _ _ _ _ _ _ hw rfl rfl dX9_isZeroOrOne_14
  refine sb_if_eq (tgt := 9) hx hb rfl dX9_isZeroOrOne_1 (by decide) (fun c_1_0 => ?_) (fun c_1_0 => ?_)
  · exact hj_9_2  _ _ _  hw (lv_sub hl [0, 1] rfl)
  · refine lv_iload_n hx hb dX9_isZeroOrOne_4 rfl (lv_at hl 1 rfl) ?_
    refine lv_iconst (v := 1) hx hb dX9_isZeroOrOne_5 (by decide) ?_
    refine sb_icmp_ne (tgt := 13) hx hb rfl (by decide : (1 : Int32).toInt = 1) dX9_isZeroOrOne_6 (by decide) (fun c_6_1 => ?_) (fun c_6_1 => ?_)
    · refine lv_iconst (v := 0) hx hb dX9_isZeroOrOne_13 (by decide) ?_
      exact hQ _ _ _ _ _ _ hw rfl rfl dX9_isZeroOrOne_14
    · exact hj_9_2  _ _ _  hw (lv_sub hl [0, 1] rfl)
set_option maxHeartbeats 4000000 in
set_option maxRecDepth 100000 in
theorem s_X9_isAhead (l : Launch) (D : va_G) (A : Nat → Nat → Nat) (cy : Nat → ClassId) (hJ : ti_inj ti_LT A) (M : ti_M) (hI : cI Tc M) (n1 n2 : Int32) : ti_Ki l yX9_isAhead cX9_isAhead 3 (some .boolean) 0 ti_LT D A cy M [.ref (A 0 0), .int n1, .int n2] (fun r M2 => M2 = M) := by
  refine ti_eI yp_X9_isAhead hJ ti_LT_nd (Nat.le_of_ble_eq_true rfl) ?_
  intro p e s m args below meth c Q H0 C hQ hw ls hl
  have hx := C.1
  have hb := C.2.1
  have hl : lv_has ls 3 [(0, .ref (A 0 0)), (1, .int n1), (2, .int n2)] := hl
  refine lv_iload_n hx hb dX9_isAhead_0 rfl (lv_at hl 1 rfl) ?_
  refine lv_iload_n hx hb dX9_isAhead_1 rfl (lv_at hl 2 rfl) ?_
  have hj_29_5 : ∀  (H : Heap) (locs : List Loc) (ls : Array Slot), ti_H ti_LT D A cy H0 M H locs → lv_has ls 3 [(0, .ref (A 0 0)), (1, .int n1), (2, .int n2)] → W p l e (ti_rm 0) s m args below meth c H locs 0 0 Q (F0 m 29 ls []) := by
    intro  H locs ls  hw hl
    refine lv_iconst (v := 0) hx hb dX9_isAhead_29 (by decide) ?_
    exact hQ _ _ _ _ _ _ hw rfl rfl dX9_isAhead_30
  refine sb_icmp_lt (tgt := 29) hx hb rfl rfl dX9_isAhead_2 (by decide) (fun c_2_0 => ?_) (fun c_2_0 => ?_)
  · exact hj_29_5  _ _ _  hw (lv_sub hl [0, 1, 2] rfl)
  · refine lv_iload_n hx hb dX9_isAhead_5 rfl (lv_at hl 1 rfl) ?_
    refine lv_bipush (v := 60) hx hb dX9_isAhead_6 (by decide) ?_
    refine sb_icmp_gt (tgt := 29) hx hb rfl (by decide : (60 : Int32).toInt = 60) dX9_isAhead_8 (by decide) (fun c_8_1 => ?_) (fun c_8_1 => ?_)
    · exact hj_29_5  _ _ _  hw (lv_sub hl [0, 1, 2] rfl)
    · refine lv_iload_n hx hb dX9_isAhead_11 rfl (lv_at hl 1 rfl) ?_
      refine lv_bipush (v := 120) hx hb dX9_isAhead_12 (by decide) ?_
      refine lv_aload_n hx hb dX9_isAhead_14 rfl (lv_at hl 0 rfl) ?_
      refine ti_get (ci := 9) (k := 3) (N := 10) (T := TX9) (v := .ref (A 27 0)) C hw iw_9 rfl ob_0 (by decide) (by decide) fl_X9_29 rfl rfl dX9_isAhead_15 ?_
      refine ti_get (ci := 3) (k := 2) (N := 17) (T := TX3) C hw iw_3 rfl ob_27 (by decide) (by decide) fl_X9_186 rfl rfl dX9_isAhead_18 ?_
      refine lv_topi (fun x_3 ex_3 => ?_)
      have bx_3 : 0 ≤ x_3.toInt ∧ x_3.toInt ≤ 120 := cI_rd hI ob_27.1 ex_3 (Or.inl rfl)
      have ux_3 : (tI M 27 2).toInt = x_3.toInt := by rw [ex_3]
      refine lv_isub hx hb dX9_isAhead_21 ?_
      refine lv_topi (fun x_4 ex_4 => ?_)
      have tx_4 : x_4.toInt = 120 - x_3.toInt := i_sub ex_4 (by decide : (120 : Int32).toInt = 120) rfl (by omega) (by omega)
      refine sb_icmp_gt (tgt := 29) hx hb rfl rfl dX9_isAhead_22 (by decide) (fun c_22_4 => ?_) (fun c_22_4 => ?_)
      · exact hj_29_5  _ _ _  hw (lv_sub hl [0, 1, 2] rfl)
      · refine lv_iconst (v := 1) hx hb dX9_isAhead_25 (by decide) ?_
        refine lv_goto (tgt := 30) hx hb dX9_isAhead_26 (by decide) ?_
        exact hQ _ _ _ _ _ _ hw rfl rfl dX9_isAhead_30
set_option maxHeartbeats 4000000 in
set_option maxRecDepth 100000 in
theorem s_X9_isGame (l : Launch) (D : va_G) (A : Nat → Nat → Nat) (cy : Nat → ClassId) (hJ : ti_inj ti_LT A) (M : ti_M) (hI : cI Tc M) (t1 : Nat) (ht1 : t1 = 3 ∨ t1 = 4) (hT1 : tT M 0 1 = some t1) (m1 m2 nn : Int32) : ti_Ki l yX9_isGame cX9_isGame 4 (some .boolean) 2 ti_LT D A cy M [.ref (A 0 0), .int m1, .int m2, .int nn] (fun r M2 => M2 = M ∧ ((r = 1 ∧ 0 ≤ m1.toInt ∧ m1.toInt ≤ 7 ∧ 0 ≤ m2.toInt ∧ m2.toInt ≤ 7) ∨ r = 0)) := by
  refine ti_eI yp_X9_isGame hJ ti_LT_nd (Nat.le_of_ble_eq_true rfl) ?_
  intro p e s m args below meth c Q H0 C hQ hw ls hl
  have hx := C.1
  have hb := C.2.1
  have hl : lv_has ls 4 [(0, .ref (A 0 0)), (1, .int m1), (2, .int m2), (3, .int nn)] := hl
  refine lv_aload_n hx hb dX9_isGame_0 rfl (lv_at hl 0 rfl) ?_
  refine lv_iload_n hx hb dX9_isGame_1 rfl (lv_at hl 1 rfl) ?_
  refine ti_callVi (ci := 9) (av := [.int m1]) C hw (s_X9_isToCome l D A cy hJ M hI t1 ht1 (hT1) m1) ⟨ml_X9_195, ym_X9_isToCome, yv_X9_isToCome, yi_X9_isToCome, yc_X9_isToCome⟩ yd_X9_isToCome ob_0 (by decide) rfl rfl hl.1 (Nat.le_of_ble_eq_true rfl) ⟨by decide, by decide⟩ ⟨Nat.zero_le _, Nat.zero_le _⟩ dX9_isGame_2 (fun r_1 M_2 H locs hp_2 hw => ?_)
  obtain ⟨hm, hz⟩ := hp_2
  have hw := hw.to hm
  have hj_46_16 : ∀  (H : Heap) (locs : List Loc) (ls : Array Slot), ti_H ti_LT D A cy H0 M H locs → lv_has ls 4 [(0, .ref (A 0 0)), (1, .int m1), (2, .int m2), (3, .int nn)] → W p l e (ti_rm 2) s m args below meth c H locs 0 0 Q (F0 m 46 ls []) := by
    intro  H locs ls  hw hl
    refine lv_iconst (v := 0) hx hb dX9_isGame_46 (by decide) ?_
    exact hQ _ _ _ _ _ _ hw rfl (⟨rfl, Or.inr rfl⟩) dX9_isGame_47
  rcases hz with ⟨rfl, d1_3, d2_3⟩ | rfl
  · refine sb_if_eq (tgt := 46) hx hb (by decide : (1 : Int32).toInt = 1) dX9_isGame_5 (by decide) (fun h => absurd h (by decide)) (fun c_5_3 => ?_)
    refine lv_aload_n hx hb dX9_isGame_8 rfl (lv_at hl 0 rfl) ?_
    refine lv_iload_n hx hb dX9_isGame_9 rfl (lv_at hl 2 rfl) ?_
    refine ti_callVi (ci := 9) (av := [.int m2]) C hw (s_X9_isToCome l D A cy hJ M hI t1 ht1 (hT1) m2) ⟨ml_X9_195, ym_X9_isToCome, yv_X9_isToCome, yi_X9_isToCome, yc_X9_isToCome⟩ yd_X9_isToCome ob_0 (by decide) rfl rfl hl.1 (Nat.le_of_ble_eq_true rfl) ⟨by decide, by decide⟩ ⟨Nat.zero_le _, Nat.zero_le _⟩ dX9_isGame_10 (fun r_6 M_7 H locs hp_7 hw => ?_)
    obtain ⟨hm, hz⟩ := hp_7
    have hw := hw.to hm
    rcases hz with ⟨rfl, d1_8, d2_8⟩ | rfl
    · refine sb_if_eq (tgt := 46) hx hb (by decide : (1 : Int32).toInt = 1) dX9_isGame_13 (by decide) (fun h => absurd h (by decide)) (fun c_13_8 => ?_)
      refine lv_iload_n hx hb dX9_isGame_16 rfl (lv_at hl 1 rfl) ?_
      refine lv_iload_n hx hb dX9_isGame_17 rfl (lv_at hl 2 rfl) ?_
      refine sb_icmp_eq (tgt := 46) hx hb rfl rfl dX9_isGame_18 (by decide) (fun c_18_10 => ?_) (fun c_18_10 => ?_)
      · exact hj_46_16  _ _ _  hw (lv_sub hl [0, 1, 2, 3] rfl)
      · refine lv_aload_n hx hb dX9_isGame_21 rfl (lv_at hl 0 rfl) ?_
        refine ti_get (ci := 9) (k := 3) (N := 10) (T := TX9) (v := .ref (A 27 0)) C hw iw_9 rfl ob_0 (by decide) (by decide) fl_X9_29 rfl rfl dX9_isGame_22 ?_
        refine ti_get (ci := 3) (k := 2) (N := 17) (T := TX3) C hw iw_3 rfl ob_27 (by decide) (by decide) fl_X9_186 rfl rfl dX9_isGame_25 ?_
        refine lv_topi (fun x_12 ex_12 => ?_)
        have bx_12 : 0 ≤ x_12.toInt ∧ x_12.toInt ≤ 120 := cI_rd hI ob_27.1 ex_12 (Or.inl rfl)
        have ux_12 : (tI M 27 2).toInt = x_12.toInt := by rw [ex_12]
        refine lv_bipush (v := 59) hx hb dX9_isGame_28 (by decide) ?_
        refine sb_icmp_gt (tgt := 46) hx hb rfl (by decide : (59 : Int32).toInt = 59) dX9_isGame_30 (by decide) (fun c_30_12 => ?_) (fun c_30_12 => ?_)
        · exact hj_46_16  _ _ _  hw (lv_sub hl [0, 1, 2, 3] rfl)
        · refine lv_aload_n hx hb dX9_isGame_33 rfl (lv_at hl 0 rfl) ?_
          refine lv_iload_n hx hb dX9_isGame_34 rfl (lv_at hl 3 rfl) ?_
          refine lv_iconst (v := 1) hx hb dX9_isGame_35 (by decide) ?_
          refine ti_callVi (ci := 9) (av := [.int nn, .int 1]) C hw (s_X9_isAhead l D A cy hJ M hI nn 1) ⟨ml_X9_247, ym_X9_isAhead, yv_X9_isAhead, yi_X9_isAhead, yc_X9_isAhead⟩ yd_X9_isAhead ob_0 (by decide) rfl rfl hl.1 (Nat.le_of_ble_eq_true rfl) ⟨by decide, by decide⟩ ⟨Nat.zero_le _, Nat.zero_le _⟩ dX9_isGame_36 (fun r_14 M_15 H locs hp_15 hw => ?_)
          have hm := hp_15
          have hw := hw.to hm
          refine sb_if_eq (tgt := 46) hx hb rfl dX9_isGame_39 (by decide) (fun c_39_15 => ?_) (fun c_39_15 => ?_)
          · exact hj_46_16  _ _ _  hw (lv_sub hl [0, 1, 2, 3] rfl)
          · refine lv_iconst (v := 1) hx hb dX9_isGame_42 (by decide) ?_
            refine lv_goto (tgt := 47) hx hb dX9_isGame_43 (by decide) ?_
            exact hQ _ _ _ _ _ _ hw rfl (⟨rfl, Or.inl ⟨rfl, by omega, by omega, by omega, by omega⟩⟩) dX9_isGame_47
    · refine sb_if_eq (tgt := 46) hx hb (by decide : (0 : Int32).toInt = 0) dX9_isGame_13 (by decide) (fun c_13_9 => ?_) (fun h => absurd h (by decide))
      exact hj_46_16  _ _ _  hw (lv_sub hl [0, 1, 2, 3] rfl)
  · refine sb_if_eq (tgt := 46) hx hb (by decide : (0 : Int32).toInt = 0) dX9_isGame_5 (by decide) (fun c_5_4 => ?_) (fun h => absurd h (by decide))
    exact hj_46_16  _ _ _  hw (lv_sub hl [0, 1, 2, 3] rfl)
set_option maxHeartbeats 4000000 in
set_option maxRecDepth 100000 in
theorem s_X9_recordHolders (l : Launch) (D : va_G) (A : Nat → Nat → Nat) (cy : Nat → ClassId) (hJ : ti_inj ti_LT A) (M : ti_M) (hI : cI Tc M) (mi : Int32) (h1 : 0 ≤ mi.toInt) (h2 : mi.toInt ≤ 119) : ti_Kv l yX9_recordHolders cX9_recordHolders 3 1 ti_LT D A cy M [.ref (A 0 0), .int mi] (fun M2 => cI Tc M2 ∧ M2.2.2.2 = M.2.2.2 ∧ M2.1 = M.1) := by
  refine ti_eV yp_X9_recordHolders hJ ti_LT_nd (Nat.le_of_ble_eq_true rfl) ?_
  intro p e s m args below meth c Q H0 C hQ hw ls hl
  have hx := C.1
  have hb := C.2.1
  have hl : lv_has ls 3 [(0, .ref (A 0 0)), (1, .int mi)] := hl
  refine lv_iconst (v := 0) hx hb dX9_recordHolders_0 (by decide) ?_
  refine lv_istore_n (lv' := [(2, .int 0), (0, .ref (A 0 0)), (1, .int mi)]) hx hb dX9_recordHolders_1 rfl hl (by decide) rfl (fun ls hl => ?_)
  have hl_2_6 : ∀ (n_7 : Nat) (x_1 : Int32) (M_4 : ti_M) (H : Heap) (locs : List Loc) (ls : Array Slot), (3 - x_1.toInt : Int).toNat < n_7 → (0 ≤ x_1.toInt) → (x_1.toInt ≤ 3) → (cI Tc M_4) → (M_4.2.2.2 = M.2.2.2) → (M_4.1 = M.1) → ti_H ti_LT D A cy H0 M_4 H locs → lv_has ls 3 [(2, .int x_1), (0, .ref (A 0 0)), (1, .int mi)] → W p l e (ti_rm 1) s m args below meth c H locs 0 0 Q (F0 m 2 ls []) := by
    intro n_7
    induction n_7 with
    | zero => intro x_1 M_4 H locs ls hf_7; exact absurd hf_7 (Nat.not_lt_zero _)
    | succ n_7 ih_7 =>
      intro x_1 M_4 H locs ls hf_7 b_2 b_3 iM_4 f_5 f_6 hw hl
      refine lv_iload_n hx hb dX9_recordHolders_2 rfl (lv_at hl 0 rfl) ?_
      refine lv_iconst (v := 3) hx hb dX9_recordHolders_3 (by decide) ?_
      refine sb_icmp_ge (tgt := 40) hx hb rfl (by decide : (3 : Int32).toInt = 3) dX9_recordHolders_4 (by decide) (fun c_4_7 => ?_) (fun c_4_7 => ?_)
      · exact hQ _ _ _ _ _ hw (⟨iM_4, (f_5), (f_6)⟩) dX9_recordHolders_40
      · refine lv_aload_n hx hb dX9_recordHolders_7 rfl (lv_at hl 1 rfl) ?_
        refine ti_get (ci := 9) (k := 4) (N := 10) (T := TX9) (v := .ref (A 0 5)) C hw iw_9 rfl ob_0 (by decide) (by decide) fl_X9_33 rfl rfl dX9_recordHolders_8 ?_
        refine lv_iload_n hx hb dX9_recordHolders_11 rfl (lv_at hl 0 rfl) ?_
        refine lv_bipush (v := 120) hx hb dX9_recordHolders_12 (by decide) ?_
        refine lv_imul hx hb dX9_recordHolders_14 ?_
        refine lv_topi (fun x_9 ex_9 => ?_)
        have tx_9 : x_9.toInt = x_1.toInt * 120 := i_mul ex_9 rfl (by decide : (120 : Int32).toInt = 120) (by omega) (by omega)
        refine lv_iload_n hx hb dX9_recordHolders_15 rfl (lv_at hl 2 rfl) ?_
        refine lv_iadd hx hb dX9_recordHolders_16 ?_
        refine lv_topi (fun x_10 ex_10 => ?_)
        have tx_10 : x_10.toInt = x_9.toInt + mi.toInt := i_add ex_10 rfl rfl (by omega) (by omega)
        refine lv_aload_n hx hb dX9_recordHolders_17 rfl (lv_at hl 1 rfl) ?_
        refine ti_get (ci := 9) (k := 3) (N := 10) (T := TX9) (v := .ref (A 27 0)) C hw iw_9 rfl ob_0 (by decide) (by decide) fl_X9_29 rfl rfl dX9_recordHolders_18 ?_
        refine lv_aload_n hx hb dX9_recordHolders_21 rfl (lv_at hl 1 rfl) ?_
        refine ti_get (ci := 9) (k := 3) (N := 10) (T := TX9) (v := .ref (A 27 0)) C hw iw_9 rfl ob_0 (by decide) (by decide) fl_X9_29 rfl rfl dX9_recordHolders_22 ?_
        refine ti_get (ci := 3) (k := 7) (N := 17) (T := TX3) (v := .ref (A 27 8)) C hw iw_3 rfl ob_27 (by decide) (by decide) fl_X9_168 rfl rfl dX9_recordHolders_25 ?_
        refine lv_iload_n hx hb dX9_recordHolders_28 rfl (lv_at hl 0 rfl) ?_
        refine ti_iald (ci := 3) (k := 7) (n := 3) C hw ob_27 (by decide) (fun _ _ => rfl) (vp_in_iff.mpr (by omega)) dX9_recordHolders_29 ?_
        refine lv_topi (fun x_11 ex_11 => ?_)
        refine ti_callVi (ci := 3) (av := [.int x_11]) C hw (s_X3_manAt l D A cy hJ M_4 iM_4 27 ob_27 x_11) ⟨ml_X9_162, ym_X3_manAt, yv_X3_manAt, yi_X3_manAt, yc_X3_manAt⟩ yd_X3_manAt ob_27 (by decide) rfl rfl hl.1 (Nat.le_of_ble_eq_true rfl) ⟨by decide, by decide⟩ ⟨Nat.zero_le _, Nat.zero_le _⟩ dX9_recordHolders_30 (fun r_12 M_13 H locs hp_13 hw => ?_)
        obtain ⟨hm, b0r_12, b1r_12, p0r_12⟩ := hp_13
        have hw := hw.to hm
        refine ti_iast (ci := 9) (k := 4) (n := 360) C hw ob_0 (by decide) (fun _ _ => rfl) (vp_in_iff.mpr (by omega)) dX9_recordHolders_33 (fun H locs hw => ?_)
        obtain ⟨M_14, hM_14⟩ : ∃ z : ti_M, z = uY M_4 0 4 (upd (tY M_4 0 4) (x_10 : Int32).toNatClampNeg r_12) := ⟨_, rfl⟩
        have hw := hw.to hM_14.symm
        have iM_14 : cI Tc M_14 := cI_up iM_4 hM_14 ob_0.1 trivial
        obtain ⟨x_15, ex_15⟩ : ∃ z : Int32, z = x_1 + 1 := ⟨_, rfl⟩
        have tx_15 : x_15.toInt = x_1.toInt + 1 := i_add ex_15 rfl (by decide) (by omega) (by omega)
        refine lv_iinc (v := x_15) (lv' := [(2, .int x_15), (0, .ref (A 0 0)), (1, .int mi)]) hx hb dX9_recordHolders_34 hl (k := 0) rfl (by rw [ex_15]; rfl) (by decide) rfl (fun ls hl => ?_)
        refine lv_goto (tgt := 2) hx hb dX9_recordHolders_37 (by decide) ?_
        exact ih_7 x_15 M_14 _ _ _ (by omega) (by first | omega | decide) (by first | omega | decide) iM_14 ((rf_Y hM_14).trans f_5) ((ra_Y hM_14).trans f_6) hw (lv_sub hl [0, 1, 2] rfl)
  exact hl_2_6 ((3 - 0 : Int).toNat + 1) 0 M _ _ _ (Nat.lt_succ_self _) (by have lt0 : (0 : Int32).toInt = 0 := (by decide); first | omega | decide) (by have lt0 : (0 : Int32).toInt = 0 := (by decide); first | omega | decide) hI rfl rfl hw (lv_sub hl [0, 1, 2] rfl)
set_option maxHeartbeats 4000000 in
set_option maxRecDepth 100000 in
theorem s_X9_fault (l : Launch) (D : va_G) (A : Nat → Nat → Nat) (cy : Nat → ClassId) (hJ : ti_inj ti_LT A) (M : ti_M) (hI : cI Tc M) (hF : cF Tc M) (za : Int32) : ti_Ki l yX9_fault cX9_fault 2 (some .int) 0 ti_LT D A cy M [.ref (A 0 0), .int za] (fun r M2 => cF Tc M2 ∧ tI M2 2 1 = tI M 2 1 ∧ tl M2 M) := by
  refine ti_eI yp_X9_fault hJ ti_LT_nd (Nat.le_of_ble_eq_true rfl) ?_
  intro p e s m args below meth c Q H0 C hQ hw ls hl
  have hx := C.1
  have hb := C.2.1
  have hl : lv_has ls 2 [(0, .ref (A 0 0)), (1, .int za)] := hl
  obtain ⟨-, ⟨t1, ht1, hT1⟩, ⟨t2, ht2, hT2⟩, ⟨t, ht, hT⟩, hS, hM⟩ := id hF
  refine lv_iload_n hx hb dX9_fault_0 rfl (lv_at hl 1 rfl) ?_
  by_cases s_1_0 : za = 0
  · refine lv_lookup (tgt := 28) hx hb dX9_fault_1 (by decide) (off := 27) (by rw [s_1_0]; decide) (by decide) ?_
    refine lv_aload_n hx hb dX9_fault_28 rfl (lv_at hl 0 rfl) ?_
    refine ti_get (ci := 9) (k := 0) (N := 10) (T := TX9) (v := .ref (A 1 0)) C hw iw_9 rfl ob_0 (by decide) (by decide) fl_X9_12 rfl rfl dX9_fault_29 ?_
    refine ti_get (ci := 4) (k := 4) (N := 6) (T := TX4) C hw iw_4 rfl ob_1 (by decide) (by decide) fl_X9_94 rfl rfl dX9_fault_32 ?_
    refine lv_topi (fun x_2 ex_2 => ?_)
    exact hQ _ _ _ _ _ _ hw rfl (⟨hF, rfl, tl.refl⟩) dX9_fault_35
  · by_cases s_1_1 : za = 1
    · refine lv_lookup (tgt := 36) hx hb dX9_fault_1 (by decide) (off := 35) (by rw [s_1_1]; decide) (by decide) ?_
      refine lv_aload_n hx hb dX9_fault_36 rfl (lv_at hl 0 rfl) ?_
      refine ti_get (ci := 9) (k := 0) (N := 10) (T := TX9) (v := .ref (A 1 0)) C hw iw_9 rfl ob_0 (by decide) (by decide) fl_X9_12 rfl rfl dX9_fault_37 ?_
      refine ti_get (ci := 4) (k := 5) (N := 6) (T := TX4) C hw iw_4 rfl ob_1 (by decide) (by decide) fl_X9_97 rfl rfl dX9_fault_40 ?_
      refine lv_topi (fun x_3 ex_3 => ?_)
      exact hQ _ _ _ _ _ _ hw rfl (⟨hF, rfl, tl.refl⟩) dX9_fault_43
    · refine lv_lookup (tgt := 44) hx hb dX9_fault_1 (by decide) (off := 43) (ti_lk _ za.toInt _ (by intro q hq; simp only [List.mem_cons, List.not_mem_nil, or_false] at hq; rcases hq with rfl | rfl <;> first | exact ti_nev 0 s_1_0 (by decide) | exact ti_nev 1 s_1_1 (by decide))) (by decide) ?_
      refine lv_iconst (v := (-1)) hx hb dX9_fault_44 (by decide) ?_
      exact hQ _ _ _ _ _ _ hw rfl (⟨hF, rfl, tl.refl⟩) dX9_fault_45
set_option maxHeartbeats 4000000 in
set_option maxRecDepth 100000 in
theorem s_X9_named (l : Launch) (D : va_G) (A : Nat → Nat → Nat) (cy : Nat → ClassId) (hJ : ti_inj ti_LT A) (M : ti_M) (hI : cI Tc M) (hF : cF Tc M) (za : Int32) : ti_Ki l yX9_named cX9_named 2 (some .int) 1 ti_LT D A cy M [.ref (A 0 0), .int za] (fun r M2 => cF Tc M2 ∧ tI M2 2 1 = tI M 2 1 ∧ tl M2 M) := by
  refine ti_eI yp_X9_named hJ ti_LT_nd (Nat.le_of_ble_eq_true rfl) ?_
  intro p e s m args below meth c Q H0 C hQ hw ls hl
  have hx := C.1
  have hb := C.2.1
  have hl : lv_has ls 2 [(0, .ref (A 0 0)), (1, .int za)] := hl
  obtain ⟨-, ⟨t1, ht1, hT1⟩, ⟨t2, ht2, hT2⟩, ⟨t, ht, hT⟩, hS, hM⟩ := id hF
  refine lv_aload_n hx hb dX9_named_0 rfl (lv_at hl 0 rfl) ?_
  refine ti_get (ci := 9) (k := 1) (N := 10) (T := TX9) (v := .ref (A t1 0)) C hw iw_9 rfl ob_0 (by decide) (by decide) fl_X9_19 rfl (ti_Tv (hT1)) dX9_named_1 ?_
  refine lv_iload_n hx hb dX9_named_4 rfl (lv_at hl 1 rfl) ?_
  refine ti_callVi (ci := 8) (av := [.int za]) C hw (s_X8_find l D A cy hJ M hI t1 ht1 za) ⟨ml_X9_100, ym_X8_find, yv_X8_find, yi_X8_find, yc_X8_find⟩ yd_X8_find (ob_t ht1) (by decide) rfl rfl hl.1 (Nat.le_of_ble_eq_true rfl) ⟨by decide, by decide⟩ ⟨Nat.zero_le _, Nat.zero_le _⟩ dX9_named_5 (fun r_1 M_2 H locs hp_2 hw => ?_)
  obtain ⟨hm, b0r_1, b1r_1⟩ := hp_2
  have hw := hw.to hm
  exact hQ _ _ _ _ _ _ hw rfl (⟨hF, rfl, tl.refl⟩) dX9_named_8
set_option maxHeartbeats 4000000 in
set_option maxRecDepth 100000 in
theorem s_X9_stands (l : Launch) (D : va_G) (A : Nat → Nat → Nat) (cy : Nat → ClassId) (hJ : ti_inj ti_LT A) (M : ti_M) (hI : cI Tc M) (hF : cF Tc M) (za : Int32) : ti_Ki l yX9_stands cX9_stands 2 (some .int) 1 ti_LT D A cy M [.ref (A 0 0), .int za] (fun r M2 => cF Tc M2 ∧ tI M2 2 1 = tI M 2 1 ∧ tl M2 M) := by
  refine ti_eI yp_X9_stands hJ ti_LT_nd (Nat.le_of_ble_eq_true rfl) ?_
  intro p e s m args below meth c Q H0 C hQ hw ls hl
  have hx := C.1
  have hb := C.2.1
  have hl : lv_has ls 2 [(0, .ref (A 0 0)), (1, .int za)] := hl
  obtain ⟨-, ⟨t1, ht1, hT1⟩, ⟨t2, ht2, hT2⟩, ⟨t, ht, hT⟩, hS, hM⟩ := id hF
  refine lv_aload_n hx hb dX9_stands_0 rfl (lv_at hl 0 rfl) ?_
  refine lv_iload_n hx hb dX9_stands_1 rfl (lv_at hl 1 rfl) ?_
  refine ti_callVi (ci := 9) (av := [.int za]) C hw (s_X9_isPlace l D A cy hJ M hI za) ⟨ml_X9_159, ym_X9_isPlace, yv_X9_isPlace, yi_X9_isPlace, yc_X9_isPlace⟩ yd_X9_isPlace ob_0 (by decide) rfl rfl hl.1 (Nat.le_of_ble_eq_true rfl) ⟨by decide, by decide⟩ ⟨Nat.zero_le _, Nat.zero_le _⟩ dX9_stands_2 (fun r_1 M_2 H locs hp_2 hw => ?_)
  obtain ⟨hm, hz⟩ := hp_2
  have hw := hw.to hm
  rcases hz with ⟨rfl, d1_3, d2_3⟩ | rfl
  · refine sb_if_eq (tgt := 19) hx hb (by decide : (1 : Int32).toInt = 1) dX9_stands_5 (by decide) (fun h => absurd h (by decide)) (fun c_5_3 => ?_)
    refine lv_aload_n hx hb dX9_stands_8 rfl (lv_at hl 0 rfl) ?_
    refine ti_get (ci := 9) (k := 3) (N := 10) (T := TX9) (v := .ref (A 27 0)) C hw iw_9 rfl ob_0 (by decide) (by decide) fl_X9_29 rfl rfl dX9_stands_9 ?_
    refine lv_iload_n hx hb dX9_stands_12 rfl (lv_at hl 1 rfl) ?_
    refine ti_callVi (ci := 3) (av := [.int za]) C hw (s_X3_manAt l D A cy hJ M hI 27 ob_27 za) ⟨ml_X9_162, ym_X3_manAt, yv_X3_manAt, yi_X3_manAt, yc_X3_manAt⟩ yd_X3_manAt ob_27 (by decide) rfl rfl hl.1 (Nat.le_of_ble_eq_true rfl) ⟨by decide, by decide⟩ ⟨Nat.zero_le _, Nat.zero_le _⟩ dX9_stands_13 (fun r_6 M_7 H locs hp_7 hw => ?_)
    obtain ⟨hm, b0r_6, b1r_6, p0r_6⟩ := hp_7
    have hw := hw.to hm
    refine lv_goto (tgt := 20) hx hb dX9_stands_16 (by decide) ?_
    exact hQ _ _ _ _ _ _ hw rfl (⟨hF, rfl, tl.refl⟩) dX9_stands_20
  · refine sb_if_eq (tgt := 19) hx hb (by decide : (0 : Int32).toInt = 0) dX9_stands_5 (by decide) (fun c_5_4 => ?_) (fun h => absurd h (by decide))
    refine lv_iconst (v := (-1)) hx hb dX9_stands_19 (by decide) ?_
    exact hQ _ _ _ _ _ _ hw rfl (⟨hF, rfl, tl.refl⟩) dX9_stands_20
set_option maxHeartbeats 4000000 in
set_option maxRecDepth 100000 in
theorem s_X9_holder (l : Launch) (D : va_G) (A : Nat → Nat → Nat) (cy : Nat → ClassId) (hJ : ti_inj ti_LT A) (M : ti_M) (hI : cI Tc M) (hF : cF Tc M) (za : Int32) : ti_Ki l yX9_holder cX9_holder 2 (some .int) 1 ti_LT D A cy M [.ref (A 0 0), .int za] (fun r M2 => cF Tc M2 ∧ tI M2 2 1 = tI M 2 1 ∧ tl M2 M) := by
  refine ti_eI yp_X9_holder hJ ti_LT_nd (Nat.le_of_ble_eq_true rfl) ?_
  intro p e s m args below meth c Q H0 C hQ hw ls hl
  have hx := C.1
  have hb := C.2.1
  have hl : lv_has ls 2 [(0, .ref (A 0 0)), (1, .int za)] := hl
  obtain ⟨-, ⟨t1, ht1, hT1⟩, ⟨t2, ht2, hT2⟩, ⟨t, ht, hT⟩, hS, hM⟩ := id hF
  refine lv_aload_n hx hb dX9_holder_0 rfl (lv_at hl 0 rfl) ?_
  refine lv_iload_n hx hb dX9_holder_1 rfl (lv_at hl 1 rfl) ?_
  refine ti_callVi (ci := 9) (av := [.int za]) C hw (s_X9_isPower l D A cy hJ M hI za) ⟨ml_X9_165, ym_X9_isPower, yv_X9_isPower, yi_X9_isPower, yc_X9_isPower⟩ yd_X9_isPower ob_0 (by decide) rfl rfl hl.1 (Nat.le_of_ble_eq_true rfl) ⟨by decide, by decide⟩ ⟨Nat.zero_le _, Nat.zero_le _⟩ dX9_holder_2 (fun r_1 M_2 H locs hp_2 hw => ?_)
  obtain ⟨hm, hz⟩ := hp_2
  have hw := hw.to hm
  rcases hz with ⟨rfl, d1_3, d2_3⟩ | rfl
  · refine sb_if_eq (tgt := 27) hx hb (by decide : (1 : Int32).toInt = 1) dX9_holder_5 (by decide) (fun h => absurd h (by decide)) (fun c_5_3 => ?_)
    refine lv_aload_n hx hb dX9_holder_8 rfl (lv_at hl 0 rfl) ?_
    refine ti_get (ci := 9) (k := 3) (N := 10) (T := TX9) (v := .ref (A 27 0)) C hw iw_9 rfl ob_0 (by decide) (by decide) fl_X9_29 rfl rfl dX9_holder_9 ?_
    refine lv_aload_n hx hb dX9_holder_12 rfl (lv_at hl 0 rfl) ?_
    refine ti_get (ci := 9) (k := 3) (N := 10) (T := TX9) (v := .ref (A 27 0)) C hw iw_9 rfl ob_0 (by decide) (by decide) fl_X9_29 rfl rfl dX9_holder_13 ?_
    refine ti_get (ci := 3) (k := 7) (N := 17) (T := TX3) (v := .ref (A 27 8)) C hw iw_3 rfl ob_27 (by decide) (by decide) fl_X9_168 rfl rfl dX9_holder_16 ?_
    refine lv_iload_n hx hb dX9_holder_19 rfl (lv_at hl 1 rfl) ?_
    refine ti_iald (ci := 3) (k := 7) (n := 3) C hw ob_27 (by decide) (fun _ _ => rfl) (vp_in_iff.mpr (by omega)) dX9_holder_20 ?_
    refine lv_topi (fun x_6 ex_6 => ?_)
    refine ti_callVi (ci := 3) (av := [.int x_6]) C hw (s_X3_manAt l D A cy hJ M hI 27 ob_27 x_6) ⟨ml_X9_162, ym_X3_manAt, yv_X3_manAt, yi_X3_manAt, yc_X3_manAt⟩ yd_X3_manAt ob_27 (by decide) rfl rfl hl.1 (Nat.le_of_ble_eq_true rfl) ⟨by decide, by decide⟩ ⟨Nat.zero_le _, Nat.zero_le _⟩ dX9_holder_21 (fun r_7 M_8 H locs hp_8 hw => ?_)
    obtain ⟨hm, b0r_7, b1r_7, p0r_7⟩ := hp_8
    have hw := hw.to hm
    refine lv_goto (tgt := 28) hx hb dX9_holder_24 (by decide) ?_
    exact hQ _ _ _ _ _ _ hw rfl (⟨hF, rfl, tl.refl⟩) dX9_holder_28
  · refine sb_if_eq (tgt := 27) hx hb (by decide : (0 : Int32).toInt = 0) dX9_holder_5 (by decide) (fun c_5_4 => ?_) (fun h => absurd h (by decide))
    refine lv_iconst (v := (-1)) hx hb dX9_holder_27 (by decide) ?_
    exact hQ _ _ _ _ _ _ hw rfl (⟨hF, rfl, tl.refl⟩) dX9_holder_28
set_option maxHeartbeats 4000000 in
set_option maxRecDepth 100000 in
theorem s_X9_law (l : Launch) (D : va_G) (A : Nat → Nat → Nat) (cy : Nat → ClassId) (hJ : ti_inj ti_LT A) (M : ti_M) (hI : cI Tc M) (hF : cF Tc M) (z1 : Int32) (z2 : Int32) : ti_Kl l yX9_law cX9_law 4 (some .long) 2 ti_LT D A cy M [.ref (A 0 0), .int z1, .int z2] (fun r M2 => cF Tc M2 ∧ tI M2 2 1 = tI M 2 1 ∧ tl M2 M) := by
  refine ti_eL yp_X9_law hJ ti_LT_nd (Nat.le_of_ble_eq_true rfl) ?_
  intro p e s m args below meth c Q H0 C hQ hw ls hl
  have hx := C.1
  have hb := C.2.1
  have hl : lv_has ls 4 [(0, .ref (A 0 0)), (1, .int z1), (2, .int z2)] := hl
  obtain ⟨-, ⟨t1, ht1, hT1⟩, ⟨t2, ht2, hT2⟩, ⟨t, ht, hT⟩, hS, hM⟩ := id hF
  refine lv_iload_n hx hb dX9_law_0 rfl (lv_at hl 1 rfl) ?_
  have hj_9_2 : ∀  (H : Heap) (locs : List Loc) (ls : Array Slot), ti_H ti_LT D A cy H0 M H locs → lv_has ls 4 [(0, .ref (A 0 0)), (1, .int z1), (2, .int z2)] → W p l e (ti_rm 2) s m args below meth c H locs 0 0 Q (F0 m 9 ls []) := by
    intro  H locs ls  hw hl
    refine lv_ldc2 (v := (-9223372036854775808)) hx hb C.2.2.2.1 (C.2.2.1 _ cn_X9_173) dX9_law_9 ?_
    exact hQ _ _ _ _ _ _ hw (⟨hF, rfl, tl.refl⟩) dX9_law_12
  refine sb_if_lt (tgt := 9) hx hb rfl dX9_law_1 (by decide) (fun c_1_0 => ?_) (fun c_1_0 => ?_)
  · exact hj_9_2  _ _ _  hw (lv_sub hl [0, 1, 2] rfl)
  · refine lv_iload_n hx hb dX9_law_4 rfl (lv_at hl 1 rfl) ?_
    refine lv_iconst (v := 3) hx hb dX9_law_5 (by decide) ?_
    refine sb_icmp_lt (tgt := 13) hx hb rfl (by decide : (3 : Int32).toInt = 3) dX9_law_6 (by decide) (fun c_6_1 => ?_) (fun c_6_1 => ?_)
    · refine lv_iload_n hx hb dX9_law_13 rfl (lv_at hl 1 rfl) ?_
      refine lv_iconst (v := 2) hx hb dX9_law_14 (by decide) ?_
      refine sb_icmp_ne (tgt := 43) hx hb rfl (by decide : (2 : Int32).toInt = 2) dX9_law_15 (by decide) (fun c_15_2 => ?_) (fun c_15_2 => ?_)
      · refine lv_aload_n hx hb dX9_law_43 rfl (lv_at hl 0 rfl) ?_
        refine ti_get (ci := 9) (k := 3) (N := 10) (T := TX9) (v := .ref (A 27 0)) C hw iw_9 rfl ob_0 (by decide) (by decide) fl_X9_29 rfl rfl dX9_law_44 ?_
        refine lv_iload_n hx hb dX9_law_47 rfl (lv_at hl 2 rfl) ?_
        refine ti_callVi (ci := 3) (av := [.int z2]) C hw (s_X3_placeOf l D A cy hJ M hI 27 ob_27 z2) ⟨ml_X9_136, ym_X3_placeOf, yv_X3_placeOf, yi_X3_placeOf, yc_X3_placeOf⟩ yd_X3_placeOf ob_27 (by decide) rfl rfl hl.1 (Nat.le_of_ble_eq_true rfl) ⟨by decide, by decide⟩ ⟨Nat.zero_le _, Nat.zero_le _⟩ dX9_law_48 (fun r_10 M_11 H locs hp_11 hw => ?_)
        obtain ⟨hm, b0r_10, b1r_10⟩ := hp_11
        have hw := hw.to hm
        refine lv_istore_n (lv' := [(3, .int r_10), (0, .ref (A 0 0)), (1, .int z1), (2, .int z2)]) hx hb dX9_law_51 rfl hl (by decide) rfl (fun ls hl => ?_)
        refine lv_aload_n hx hb dX9_law_52 rfl (lv_at hl 1 rfl) ?_
        refine ti_get (ci := 9) (k := 1) (N := 10) (T := TX9) (v := .ref (A t1 0)) C hw iw_9 rfl ob_0 (by decide) (by decide) fl_X9_19 rfl (ti_Tv (hT1)) dX9_law_53 ?_
        refine ti_get (ci := 8) (k := 2) (N := 12) (T := TX8) (v := .ref (A t1 3)) C hw iw_8 rfl (ob_t ht1) (by decide) (by decide) fl_X9_175 rfl rfl dX9_law_56 ?_
        refine lv_iload_n hx hb dX9_law_59 rfl (lv_at hl 2 rfl) ?_
        refine ti_aald (ci := 8) (k := 2) (n := 3) (t0 := 4) (Cn := RX1) (gg := (ti_laws t1)) (j := z1.toNatClampNeg) C hw (ob_t ht1) (by decide) (fun _ _ => rfl) rfl (vp_in_iff.mpr (by omega)) rfl dX9_law_60 ?_
        have ob_12 : ti_ob ti_LT (ti_laws t1 z1.toNatClampNeg) 1 := ob_l ht1 (i_nt rfl (by omega) (by omega))
        refine lv_aload_n hx hb dX9_law_61 rfl (lv_at hl 1 rfl) ?_
        refine ti_get (ci := 9) (k := 3) (N := 10) (T := TX9) (v := .ref (A 27 0)) C hw iw_9 rfl ob_0 (by decide) (by decide) fl_X9_29 rfl rfl dX9_law_62 ?_
        refine lv_iload_n hx hb dX9_law_65 rfl (lv_at hl 0 rfl) ?_
        refine lv_iload_n hx hb dX9_law_66 rfl (lv_at hl 0 rfl) ?_
        refine ti_callVl (ci := 1) (av := [.ref (A 27 0), .int r_10, .int r_10]) C hw (s_X1_value l D A cy hJ M hI (ti_laws t1 z1.toNatClampNeg) 27 t ob_12 ob_27 ht (hT) r_10 r_10) ⟨ml_X9_182, ym_X1_value, yv_X1_value, yi_X1_value, yc_X1_value⟩ yd_X1_value ob_12 (by decide) rfl rfl hl.1 (Nat.le_of_ble_eq_true rfl) ⟨by decide, by decide⟩ ⟨Nat.zero_le _, Nat.zero_le _⟩ dX9_law_67 (fun r_13 M_14 H locs hp_14 hw => ?_)
        obtain ⟨iM_14, q_15, q_16⟩ := hp_14
        exact hQ _ _ _ _ _ _ hw (⟨(cF_fr hF iM_14 (rs_of q_15) (fx_of q_16)), (tI_fr q_16), (tl_x (fx_of q_16) (tT_fr q_15) (tT_fr q_15))⟩) dX9_law_70
      · refine lv_aload_n hx hb dX9_law_18 rfl (lv_at hl 0 rfl) ?_
        refine ti_get (ci := 9) (k := 1) (N := 10) (T := TX9) (v := .ref (A t1 0)) C hw iw_9 rfl ob_0 (by decide) (by decide) fl_X9_19 rfl (ti_Tv (hT1)) dX9_law_19 ?_
        refine ti_get (ci := 8) (k := 2) (N := 12) (T := TX8) (v := .ref (A t1 3)) C hw iw_8 rfl (ob_t ht1) (by decide) (by decide) fl_X9_175 rfl rfl dX9_law_22 ?_
        refine lv_iload_n hx hb dX9_law_25 rfl (lv_at hl 1 rfl) ?_
        refine ti_aald (ci := 8) (k := 2) (n := 3) (t0 := 4) (Cn := RX1) (gg := (ti_laws t1)) (j := z1.toNatClampNeg) C hw (ob_t ht1) (by decide) (fun _ _ => rfl) rfl (vp_in_iff.mpr (by omega)) rfl dX9_law_26 ?_
        have ob_4 : ti_ob ti_LT (ti_laws t1 z1.toNatClampNeg) 1 := ob_l ht1 (i_nt rfl (by omega) (by omega))
        refine lv_aload_n hx hb dX9_law_27 rfl (lv_at hl 0 rfl) ?_
        refine ti_get (ci := 9) (k := 3) (N := 10) (T := TX9) (v := .ref (A 27 0)) C hw iw_9 rfl ob_0 (by decide) (by decide) fl_X9_29 rfl rfl dX9_law_28 ?_
        refine lv_iconst (v := 0) hx hb dX9_law_31 (by decide) ?_
        refine lv_aload_n hx hb dX9_law_32 rfl (lv_at hl 0 rfl) ?_
        refine ti_get (ci := 9) (k := 3) (N := 10) (T := TX9) (v := .ref (A 27 0)) C hw iw_9 rfl ob_0 (by decide) (by decide) fl_X9_29 rfl rfl dX9_law_33 ?_
        refine ti_get (ci := 3) (k := 3) (N := 17) (T := TX3) C hw iw_3 rfl ob_27 (by decide) (by decide) fl_X9_179 rfl rfl dX9_law_36 ?_
        refine lv_topi (fun x_5 ex_5 => ?_)
        have bx_5 : 0 ≤ x_5.toInt ∧ x_5.toInt ≤ 8 := cI_rd hI ob_27.1 ex_5
        have ux_5 : (tI M 27 3).toInt = x_5.toInt := by rw [ex_5]
        refine ti_callVl (ci := 1) (av := [.ref (A 27 0), .int 0, .int x_5]) C hw (s_X1_value l D A cy hJ M hI (ti_laws t1 z1.toNatClampNeg) 27 t ob_4 ob_27 ht (hT) 0 x_5) ⟨ml_X9_182, ym_X1_value, yv_X1_value, yi_X1_value, yc_X1_value⟩ yd_X1_value ob_4 (by decide) rfl rfl hl.1 (Nat.le_of_ble_eq_true rfl) ⟨by decide, by decide⟩ ⟨Nat.zero_le _, Nat.zero_le _⟩ dX9_law_39 (fun r_6 M_7 H locs hp_7 hw => ?_)
        obtain ⟨iM_7, q_8, q_9⟩ := hp_7
        exact hQ _ _ _ _ _ _ hw (⟨(cF_fr hF iM_7 (rs_of q_8) (fx_of q_9)), (tI_fr q_9), (tl_x (fx_of q_9) (tT_fr q_8) (tT_fr q_8))⟩) dX9_law_42
    · exact hj_9_2  _ _ _  hw (lv_sub hl [0, 1, 2] rfl)
set_option maxHeartbeats 4000000 in
set_option maxRecDepth 100000 in
theorem s_X9_go (l : Launch) (D : va_G) (A : Nat → Nat → Nat) (cy : Nat → ClassId) (hJ : ti_inj ti_LT A) (M : ti_M) (hI : cI Tc M) (hF : cF Tc M) (nn : Int32) : ti_Ki l yX9_go cX9_go 3 (some .int) 6 ti_LT D A cy M [.ref (A 0 0), .int nn] (fun r M2 => cF Tc M2 ∧ tI M2 2 1 = tI M 2 1 ∧ tl M2 M) := by
  refine ti_eI yp_X9_go hJ ti_LT_nd (Nat.le_of_ble_eq_true rfl) ?_
  intro p e s m args below meth c Q H0 C hQ hw ls hl
  have hx := C.1
  have hb := C.2.1
  have hl : lv_has ls 3 [(0, .ref (A 0 0)), (1, .int nn)] := hl
  obtain ⟨-, ⟨t1, ht1, hT1⟩, ⟨t2, ht2, hT2⟩, ⟨t, ht, hT⟩, hS, hM⟩ := id hF
  refine lv_iload_n hx hb dX9_go_0 rfl (lv_at hl 1 rfl) ?_
  have hj_18_4 : ∀  (H : Heap) (locs : List Loc) (ls : Array Slot), ti_H ti_LT D A cy H0 M H locs → lv_has ls 3 [(0, .ref (A 0 0)), (1, .int nn)] → W p l e (ti_rm 6) s m args below meth c H locs 0 0 Q (F0 m 18 ls []) := by
    intro  H locs ls  hw hl
    refine lv_iconst (v := (-1)) hx hb dX9_go_18 (by decide) ?_
    exact hQ _ _ _ _ _ _ hw rfl (⟨hF, rfl, tl.refl⟩) dX9_go_19
  refine sb_if_lt (tgt := 18) hx hb rfl dX9_go_1 (by decide) (fun c_1_0 => ?_) (fun c_1_0 => ?_)
  · exact hj_18_4  _ _ _  hw (lv_sub hl [0, 1] rfl)
  · refine lv_iload_n hx hb dX9_go_4 rfl (lv_at hl 1 rfl) ?_
    refine lv_bipush (v := 120) hx hb dX9_go_5 (by decide) ?_
    refine lv_aload_n hx hb dX9_go_7 rfl (lv_at hl 0 rfl) ?_
    refine ti_get (ci := 9) (k := 3) (N := 10) (T := TX9) (v := .ref (A 27 0)) C hw iw_9 rfl ob_0 (by decide) (by decide) fl_X9_29 rfl rfl dX9_go_8 ?_
    refine ti_get (ci := 3) (k := 2) (N := 17) (T := TX3) C hw iw_3 rfl ob_27 (by decide) (by decide) fl_X9_186 rfl rfl dX9_go_11 ?_
    refine lv_topi (fun x_2 ex_2 => ?_)
    have bx_2 : 0 ≤ x_2.toInt ∧ x_2.toInt ≤ 120 := cI_rd hI ob_27.1 ex_2 (Or.inl rfl)
    have ux_2 : (tI M 27 2).toInt = x_2.toInt := by rw [ex_2]
    refine lv_isub hx hb dX9_go_14 ?_
    refine lv_topi (fun x_3 ex_3 => ?_)
    have tx_3 : x_3.toInt = 120 - x_2.toInt := i_sub ex_3 (by decide : (120 : Int32).toInt = 120) rfl (by omega) (by omega)
    refine sb_icmp_le (tgt := 20) hx hb rfl rfl dX9_go_15 (by decide) (fun c_15_3 => ?_) (fun c_15_3 => ?_)
    · refine lv_iconst (v := 0) hx hb dX9_go_20 (by decide) ?_
      refine lv_istore_n (lv' := [(2, .int 0), (0, .ref (A 0 0)), (1, .int nn)]) hx hb dX9_go_21 rfl hl (by decide) rfl (fun ls hl => ?_)
      have u_13 : (tI M 27 2).toInt = (x_2 : Int32).toInt := by rw [(ex_2.symm)]
      have hl_22_11 : ∀ (n_12 : Nat) (x_5 : Int32) (M_8 : ti_M) (H : Heap) (locs : List Loc) (ls : Array Slot), (nn.toInt - x_5.toInt : Int).toNat < n_12 → (0 ≤ x_5.toInt) → (x_5.toInt ≤ 120) → (cI Tc M_8) → (rT M_8 M) → (fX M_8 M) → ((tI M_8 27 2).toInt = (tI M 27 2).toInt + x_5.toInt) → ti_H ti_LT D A cy H0 M_8 H locs → lv_has ls 3 [(2, .int x_5), (0, .ref (A 0 0)), (1, .int nn)] → W p l e (ti_rm 6) s m args below meth c H locs 0 0 Q (F0 m 22 ls []) := by
        intro n_12
        induction n_12 with
        | zero => intro x_5 M_8 H locs ls hf_12; exact absurd hf_12 (Nat.not_lt_zero _)
        | succ n_12 ih_12 =>
          intro x_5 M_8 H locs ls hf_12 b_6 b_7 iM_8 f_9 f_10 j_11 hw hl
          refine lv_iload_n hx hb dX9_go_22 rfl (lv_at hl 0 rfl) ?_
          refine lv_iload_n hx hb dX9_go_23 rfl (lv_at hl 2 rfl) ?_
          refine sb_icmp_ge (tgt := 53) hx hb rfl rfl dX9_go_24 (by decide) (fun c_24_13 => ?_) (fun c_24_13 => ?_)
          · refine lv_iload_n hx hb dX9_go_53 rfl (lv_at hl 2 rfl) ?_
            refine sb_if_le (tgt := 64) hx hb rfl dX9_go_54 (by decide) (fun c_54_27 => ?_) (fun c_54_27 => ?_)
            · refine lv_aload_n hx hb dX9_go_64 rfl (lv_at hl 1 rfl) ?_
              refine ti_get (ci := 9) (k := 3) (N := 10) (T := TX9) (v := .ref (A 27 0)) C hw iw_9 rfl ob_0 (by decide) (by decide) fl_X9_29 rfl rfl dX9_go_65 ?_
              refine ti_get (ci := 3) (k := 2) (N := 17) (T := TX3) C hw iw_3 rfl ob_27 (by decide) (by decide) fl_X9_186 rfl rfl dX9_go_68 ?_
              refine lv_topi (fun x_31 ex_31 => ?_)
              have bx_31 : 0 ≤ x_31.toInt ∧ x_31.toInt ≤ 120 := cI_rd iM_8 ob_27.1 ex_31 (Or.inl rfl)
              have ux_31 : (tI M_8 27 2).toInt = x_31.toInt := by rw [ex_31]
              exact hQ _ _ _ _ _ _ hw rfl (⟨(cF_fr hF iM_8 f_9 f_10), ((f_10 1).2.1), (tl_x f_10 (f_9 0 1 (by decide)) (f_9 0 2 (by decide)))⟩) dX9_go_71
            · refine lv_aload_n hx hb dX9_go_57 rfl (lv_at hl 1 rfl) ?_
              refine ti_get (ci := 9) (k := 5) (N := 10) (T := TX9) (v := .ref (A 28 0)) C hw iw_9 rfl ob_0 (by decide) (by decide) fl_X9_40 rfl rfl dX9_go_58 ?_
              refine ti_callVv (ci := 5) (av := []) C hw (s_X5_clear l D A cy hJ M_8 iM_8 ) ⟨ml_X9_87, ym_X5_clear, yv_X5_clear, yi_X5_clear, yc_X5_clear⟩ yd_X5_clear ob_28 (by decide) rfl rfl hl.1 (Nat.le_of_ble_eq_true rfl) ⟨by decide, by decide⟩ ⟨Nat.zero_le _, Nat.zero_le _⟩ dX9_go_61 (fun M_30 H locs hp_30 hw => ?_)
              have hM_30 := hp_30
              have iM_30 : cI Tc M_30 := cI_uI iM_8 hM_30 ob_28.1 (ib_mk (lo := 0) (hi := 20) (by decide) (by decide))
              refine lv_aload_n hx hb dX9_go_64 rfl (lv_at hl 1 rfl) ?_
              refine ti_get (ci := 9) (k := 3) (N := 10) (T := TX9) (v := .ref (A 27 0)) C hw iw_9 rfl ob_0 (by decide) (by decide) fl_X9_29 rfl rfl dX9_go_65 ?_
              refine ti_get (ci := 3) (k := 2) (N := 17) (T := TX3) C hw iw_3 rfl ob_27 (by decide) (by decide) fl_X9_186 rfl rfl dX9_go_68 ?_
              refine lv_topi (fun x_32 ex_32 => ?_)
              have bx_32 : 0 ≤ x_32.toInt ∧ x_32.toInt ≤ 120 := cI_rd iM_30 ob_27.1 ex_32 (Or.inl rfl)
              have ux_32 : (tI M_30 27 2).toInt = x_32.toInt := by rw [ex_32]
              exact hQ _ _ _ _ _ _ hw rfl (⟨(cF_clear (cF_fr hF iM_8 f_9 f_10) iM_30 hM_30), ((tI_nE hM_30 (nk (by decide))).trans ((f_10 1).2.1)), (tl.trans (tl_I hM_30 (by decide)) (tl_x f_10 (f_9 0 1 (by decide)) (f_9 0 2 (by decide))))⟩) dX9_go_71
          · refine lv_aload_n hx hb dX9_go_27 rfl (lv_at hl 1 rfl) ?_
            refine ti_get (ci := 9) (k := 3) (N := 10) (T := TX9) (v := .ref (A 27 0)) C hw iw_9 rfl ob_0 (by decide) (by decide) fl_X9_29 rfl rfl dX9_go_28 ?_
            have gM_8 : 0 ≤ (tI M_8 27 2).toInt ∧ (tI M_8 27 2).toInt ≤ 120 := cI_rd (x := tI M_8 27 2) (k := 2) iM_8 ob_27.1 rfl (Or.inl rfl)
            refine ti_callVv (ci := 3) (av := []) C hw (s_X3_pass l D A cy hJ M_8 iM_8 27 t ob_27 ht ((f_9 27 0 (by decide)).trans hT) (fun _ => by omega)) ⟨ml_X9_189, ym_X3_pass, yv_X3_pass, yi_X3_pass, yc_X3_pass⟩ yd_X3_pass ob_27 (by decide) rfl rfl hl.1 (Nat.le_of_ble_eq_true rfl) ⟨by decide, by decide⟩ ⟨Nat.zero_le _, Nat.zero_le _⟩ dX9_go_31 (fun M_16 H locs hp_16 hw => ?_)
            obtain ⟨iM_16, q_17, q_18, q_19⟩ := hp_16
            have pmM_16 : (tI M_16 27 2).toInt = (tI M_8 27 2).toInt + 1 := i_add q_18 rfl (by decide : (1 : Int32).toInt = 1) (by omega) (by omega)
            refine lv_aload_n hx hb dX9_go_34 rfl (lv_at hl 1 rfl) ?_
            refine lv_aload_n hx hb dX9_go_35 rfl (lv_at hl 1 rfl) ?_
            refine ti_get (ci := 9) (k := 3) (N := 10) (T := TX9) (v := .ref (A 27 0)) C hw iw_9 rfl ob_0 (by decide) (by decide) fl_X9_29 rfl rfl dX9_go_36 ?_
            refine ti_get (ci := 3) (k := 2) (N := 17) (T := TX3) C hw iw_3 rfl ob_27 (by decide) (by decide) fl_X9_186 rfl rfl dX9_go_39 ?_
            refine lv_topi (fun x_20 ex_20 => ?_)
            have bx_20 : 0 ≤ x_20.toInt ∧ x_20.toInt ≤ 120 := cI_rd iM_16 ob_27.1 ex_20 (Or.inl rfl)
            have ux_20 : (tI M_16 27 2).toInt = x_20.toInt := by rw [ex_20]
            refine lv_iconst (v := 1) hx hb dX9_go_42 (by decide) ?_
            refine lv_isub hx hb dX9_go_43 ?_
            refine lv_topi (fun x_21 ex_21 => ?_)
            have tx_21 : x_21.toInt = x_20.toInt - 1 := i_sub ex_21 rfl (by decide : (1 : Int32).toInt = 1) (by omega) (by omega)
            refine ti_callVv (ci := 9) (av := [.int x_21]) C hw (s_X9_recordHolders l D A cy hJ M_16 iM_16 x_21 (by first | omega | decide) (by first | omega | decide)) ⟨ml_X9_192, ym_X9_recordHolders, yv_X9_recordHolders, yi_X9_recordHolders, yc_X9_recordHolders⟩ yd_X9_recordHolders ob_0 (by decide) rfl rfl hl.1 (Nat.le_of_ble_eq_true rfl) ⟨by decide, by decide⟩ ⟨Nat.zero_le _, Nat.zero_le _⟩ dX9_go_44 (fun M_23 H locs hp_23 hw => ?_)
            obtain ⟨iM_23, q_24, q_25⟩ := hp_23
            obtain ⟨x_26, ex_26⟩ : ∃ z : Int32, z = x_5 + 1 := ⟨_, rfl⟩
            have lox_26 := x_5.le_toInt
            have hix_26 := x_5.toInt_lt
            have tx_26 : x_26.toInt = x_5.toInt + 1 := i_add ex_26 rfl (by decide) (by omega) (by omega)
            refine lv_iinc (v := x_26) (lv' := [(2, .int x_26), (0, .ref (A 0 0)), (1, .int nn)]) hx hb dX9_go_47 hl (k := 0) rfl (by rw [ex_26]; rfl) (by decide) rfl (fun ls hl => ?_)
            refine lv_goto (tgt := 22) hx hb dX9_go_50 (by decide) ?_
            have u_27 : (tI M_23 27 2).toInt = (x_20 : Int32).toInt := by rw [((tI_fr q_25).trans ex_20.symm)]
            exact ih_12 x_26 M_23 _ _ _ (by omega) (by first | omega | decide) (by first | omega | decide) iM_23 (rT.trans (rs_of q_24) (rT.trans (rs_of q_17) f_9)) (fX.trans (fx_of q_25) (fX.trans q_19 f_10)) (by first | omega | decide) hw (lv_sub hl [0, 1, 2] rfl)
      exact hl_22_11 ((nn.toInt - 0 : Int).toNat + 1) 0 M _ _ _ (Nat.lt_succ_self _) (by have lt0 : (0 : Int32).toInt = 0 := (by decide); first | omega | decide) (by have lt0 : (0 : Int32).toInt = 0 := (by decide); first | omega | decide) hI rT.refl fX.refl (by have lt0 : (0 : Int32).toInt = 0 := (by decide); first | omega | decide) hw (lv_sub hl [0, 1, 2] rfl)
    · exact hj_18_4  _ _ _  hw (lv_sub hl [0, 1] rfl)
set_option maxHeartbeats 4000000 in
set_option maxRecDepth 100000 in
theorem s_X9_join (l : Launch) (D : va_G) (A : Nat → Nat → Nat) (cy : Nat → ClassId) (hJ : ti_inj ti_LT A) (M : ti_M) (hI : cI Tc M) (hF : cF Tc M) (za : Int32) : ti_Ki l yX9_join cX9_join 2 (some .int) 3 ti_LT D A cy M [.ref (A 0 0), .int za] (fun r M2 => cF Tc M2 ∧ tI M2 2 1 = tI M 2 1 ∧ tl M2 M) := by
  refine ti_eI yp_X9_join hJ ti_LT_nd (Nat.le_of_ble_eq_true rfl) ?_
  intro p e s m args below meth c Q H0 C hQ hw ls hl
  have hx := C.1
  have hb := C.2.1
  have hl : lv_has ls 2 [(0, .ref (A 0 0)), (1, .int za)] := hl
  obtain ⟨-, ⟨t1, ht1, hT1⟩, ⟨t2, ht2, hT2⟩, ⟨t, ht, hT⟩, hS, hM⟩ := id hF
  refine lv_aload_n hx hb dX9_join_0 rfl (lv_at hl 0 rfl) ?_
  refine lv_iload_n hx hb dX9_join_1 rfl (lv_at hl 1 rfl) ?_
  refine ti_callVi (ci := 9) (av := [.int za]) C hw (s_X9_isToCome l D A cy hJ M hI t1 ht1 (hT1) za) ⟨ml_X9_195, ym_X9_isToCome, yv_X9_isToCome, yi_X9_isToCome, yc_X9_isToCome⟩ yd_X9_isToCome ob_0 (by decide) rfl rfl hl.1 (Nat.le_of_ble_eq_true rfl) ⟨by decide, by decide⟩ ⟨Nat.zero_le _, Nat.zero_le _⟩ dX9_join_2 (fun r_1 M_2 H locs hp_2 hw => ?_)
  obtain ⟨hm, hz⟩ := hp_2
  have hw := hw.to hm
  rcases hz with ⟨rfl, d1_3, d2_3⟩ | rfl
  · refine sb_if_ne (tgt := 10) hx hb (by decide : (1 : Int32).toInt = 1) dX9_join_5 (by decide) (fun c_5_3 => ?_) (fun h => absurd h (by decide))
    refine lv_aload_n hx hb dX9_join_10 rfl (lv_at hl 0 rfl) ?_
    refine ti_get (ci := 9) (k := 5) (N := 10) (T := TX9) (v := .ref (A 28 0)) C hw iw_9 rfl ob_0 (by decide) (by decide) fl_X9_40 rfl rfl dX9_join_11 ?_
    refine lv_aload_n hx hb dX9_join_14 rfl (lv_at hl 0 rfl) ?_
    refine ti_get (ci := 9) (k := 3) (N := 10) (T := TX9) (v := .ref (A 27 0)) C hw iw_9 rfl ob_0 (by decide) (by decide) fl_X9_29 rfl rfl dX9_join_15 ?_
    refine ti_callVv (ci := 5) (av := [.ref (A 27 0)]) C hw (s_X5_remember l D A cy hJ M hI t ht (hT) hF) ⟨ml_X9_198, ym_X5_remember, yv_X5_remember, yi_X5_remember, yc_X5_remember⟩ yd_X5_remember ob_28 (by decide) rfl rfl hl.1 (Nat.le_of_ble_eq_true rfl) ⟨by decide, by decide⟩ ⟨Nat.zero_le _, Nat.zero_le _⟩ dX9_join_18 (fun M_7 H locs hp_7 hw => ?_)
    obtain ⟨q_8, q_9, q_10⟩ := hp_7
    refine lv_aload_n hx hb dX9_join_21 rfl (lv_at hl 0 rfl) ?_
    refine ti_get (ci := 9) (k := 3) (N := 10) (T := TX9) (v := .ref (A 27 0)) C hw iw_9 rfl ob_0 (by decide) (by decide) fl_X9_29 rfl rfl dX9_join_22 ?_
    refine lv_iload_n hx hb dX9_join_25 rfl (lv_at hl 1 rfl) ?_
    refine ti_callVv (ci := 3) (av := [.int za]) C hw (s_X3_append l D A cy hJ M_7 q_8.1 27 ob_27 za (by omega) (by omega)) ⟨ml_X9_202, ym_X3_append, yv_X3_append, yi_X3_append, yc_X3_append⟩ yd_X3_append ob_27 (by decide) rfl rfl hl.1 (Nat.le_of_ble_eq_true rfl) ⟨by decide, by decide⟩ ⟨Nat.zero_le _, Nat.zero_le _⟩ dX9_join_26 (fun M_12 H locs hp_12 hw => ?_)
    obtain ⟨iM_12, q_13, q_14, q_15⟩ := hp_12
    refine lv_aload_n hx hb dX9_join_29 rfl (lv_at hl 0 rfl) ?_
    refine ti_get (ci := 9) (k := 3) (N := 10) (T := TX9) (v := .ref (A 27 0)) C hw iw_9 rfl ob_0 (by decide) (by decide) fl_X9_29 rfl rfl dX9_join_30 ?_
    refine lv_iload_n hx hb dX9_join_33 rfl (lv_at hl 1 rfl) ?_
    refine ti_callVi (ci := 3) (av := [.int za]) C hw (s_X3_placeOf l D A cy hJ M_12 iM_12 27 ob_27 za) ⟨ml_X9_136, ym_X3_placeOf, yv_X3_placeOf, yi_X3_placeOf, yc_X3_placeOf⟩ yd_X3_placeOf ob_27 (by decide) rfl rfl hl.1 (Nat.le_of_ble_eq_true rfl) ⟨by decide, by decide⟩ ⟨Nat.zero_le _, Nat.zero_le _⟩ dX9_join_34 (fun r_16 M_17 H locs hp_17 hw => ?_)
    obtain ⟨hm, b0r_16, b1r_16⟩ := hp_17
    have hw := hw.to hm
    exact hQ _ _ _ _ _ _ hw rfl (⟨(cF_fr q_8 iM_12 (rs_of q_13) q_15), (((q_15 1).2.1).trans q_9), (tl.trans (tl_x q_15 (tT_fr q_13) (tT_fr q_13)) q_10)⟩) dX9_join_37
  · refine sb_if_ne (tgt := 10) hx hb (by decide : (0 : Int32).toInt = 0) dX9_join_5 (by decide) (fun h => absurd h (by decide)) (fun c_5_4 => ?_)
    refine lv_iconst (v := (-1)) hx hb dX9_join_8 (by decide) ?_
    exact hQ _ _ _ _ _ _ hw rfl (⟨hF, rfl, tl.refl⟩) dX9_join_9
set_option maxHeartbeats 4000000 in
set_option maxRecDepth 100000 in
theorem s_X9_out (l : Launch) (D : va_G) (A : Nat → Nat → Nat) (cy : Nat → ClassId) (hJ : ti_inj ti_LT A) (M : ti_M) (hI : cI Tc M) (hF : cF Tc M) (za : Int32) : ti_Ki l yX9_out cX9_out 2 (some .boolean) 3 ti_LT D A cy M [.ref (A 0 0), .int za] (fun r M2 => cF Tc M2 ∧ tI M2 2 1 = tI M 2 1 ∧ tl M2 M) := by
  refine ti_eI yp_X9_out hJ ti_LT_nd (Nat.le_of_ble_eq_true rfl) ?_
  intro p e s m args below meth c Q H0 C hQ hw ls hl
  have hx := C.1
  have hb := C.2.1
  have hl : lv_has ls 2 [(0, .ref (A 0 0)), (1, .int za)] := hl
  obtain ⟨-, ⟨t1, ht1, hT1⟩, ⟨t2, ht2, hT2⟩, ⟨t, ht, hT⟩, hS, hM⟩ := id hF
  refine lv_aload_n hx hb dX9_out_0 rfl (lv_at hl 0 rfl) ?_
  refine lv_iload_n hx hb dX9_out_1 rfl (lv_at hl 1 rfl) ?_
  refine ti_callVi (ci := 9) (av := [.int za]) C hw (s_X9_isInQueue l D A cy hJ M hI t1 ht1 (hT1) za) ⟨ml_X9_205, ym_X9_isInQueue, yv_X9_isInQueue, yi_X9_isInQueue, yc_X9_isInQueue⟩ yd_X9_isInQueue ob_0 (by decide) rfl rfl hl.1 (Nat.le_of_ble_eq_true rfl) ⟨by decide, by decide⟩ ⟨Nat.zero_le _, Nat.zero_le _⟩ dX9_out_2 (fun r_1 M_2 H locs hp_2 hw => ?_)
  obtain ⟨hm, hz⟩ := hp_2
  have hw := hw.to hm
  rcases hz with ⟨rfl, d1_3, d2_3⟩ | rfl
  · refine sb_if_ne (tgt := 10) hx hb (by decide : (1 : Int32).toInt = 1) dX9_out_5 (by decide) (fun c_5_3 => ?_) (fun h => absurd h (by decide))
    refine lv_aload_n hx hb dX9_out_10 rfl (lv_at hl 0 rfl) ?_
    refine ti_get (ci := 9) (k := 5) (N := 10) (T := TX9) (v := .ref (A 28 0)) C hw iw_9 rfl ob_0 (by decide) (by decide) fl_X9_40 rfl rfl dX9_out_11 ?_
    refine lv_aload_n hx hb dX9_out_14 rfl (lv_at hl 0 rfl) ?_
    refine ti_get (ci := 9) (k := 3) (N := 10) (T := TX9) (v := .ref (A 27 0)) C hw iw_9 rfl ob_0 (by decide) (by decide) fl_X9_29 rfl rfl dX9_out_15 ?_
    refine ti_callVv (ci := 5) (av := [.ref (A 27 0)]) C hw (s_X5_remember l D A cy hJ M hI t ht (hT) hF) ⟨ml_X9_198, ym_X5_remember, yv_X5_remember, yi_X5_remember, yc_X5_remember⟩ yd_X5_remember ob_28 (by decide) rfl rfl hl.1 (Nat.le_of_ble_eq_true rfl) ⟨by decide, by decide⟩ ⟨Nat.zero_le _, Nat.zero_le _⟩ dX9_out_18 (fun M_7 H locs hp_7 hw => ?_)
    obtain ⟨q_8, q_9, q_10⟩ := hp_7
    refine lv_aload_n hx hb dX9_out_21 rfl (lv_at hl 0 rfl) ?_
    refine ti_get (ci := 9) (k := 3) (N := 10) (T := TX9) (v := .ref (A 27 0)) C hw iw_9 rfl ob_0 (by decide) (by decide) fl_X9_29 rfl rfl dX9_out_22 ?_
    refine lv_aload_n hx hb dX9_out_25 rfl (lv_at hl 0 rfl) ?_
    refine ti_get (ci := 9) (k := 3) (N := 10) (T := TX9) (v := .ref (A 27 0)) C hw iw_9 rfl ob_0 (by decide) (by decide) fl_X9_29 rfl rfl dX9_out_26 ?_
    refine lv_iload_n hx hb dX9_out_29 rfl (lv_at hl 1 rfl) ?_
    refine ti_callVi (ci := 3) (av := [.int za]) C hw (s_X3_placeOf l D A cy hJ M_7 q_8.1 27 ob_27 za) ⟨ml_X9_136, ym_X3_placeOf, yv_X3_placeOf, yi_X3_placeOf, yc_X3_placeOf⟩ yd_X3_placeOf ob_27 (by decide) rfl rfl hl.1 (Nat.le_of_ble_eq_true rfl) ⟨by decide, by decide⟩ ⟨Nat.zero_le _, Nat.zero_le _⟩ dX9_out_30 (fun r_11 M_12 H locs hp_12 hw => ?_)
    obtain ⟨hm, b0r_11, b1r_11⟩ := hp_12
    have hw := hw.to hm
    refine lv_iconst (v := 3) hx hb dX9_out_33 (by decide) ?_
    refine ti_callVv (ci := 3) (av := [.int r_11, .int 3]) C hw (s_X3_remove l D A cy hJ M_7 q_8.1 27 ob_27 r_11 3) ⟨ml_X9_208, ym_X3_remove, yv_X3_remove, yi_X3_remove, yc_X3_remove⟩ yd_X3_remove ob_27 (by decide) rfl rfl hl.1 (Nat.le_of_ble_eq_true rfl) ⟨by decide, by decide⟩ ⟨Nat.zero_le _, Nat.zero_le _⟩ dX9_out_34 (fun M_14 H locs hp_14 hw => ?_)
    obtain ⟨iM_14, q_15, q_16, q_17⟩ := hp_14
    refine lv_iconst (v := 1) hx hb dX9_out_37 (by decide) ?_
    exact hQ _ _ _ _ _ _ hw rfl (⟨(cF_fr q_8 iM_14 (rs_of q_15) q_17), (((q_17 1).2.1).trans q_9), (tl.trans (tl_x q_17 (tT_fr q_15) (tT_fr q_15)) q_10)⟩) dX9_out_38
  · refine sb_if_ne (tgt := 10) hx hb (by decide : (0 : Int32).toInt = 0) dX9_out_5 (by decide) (fun h => absurd h (by decide)) (fun c_5_4 => ?_)
    refine lv_iconst (v := 0) hx hb dX9_out_8 (by decide) ?_
    exact hQ _ _ _ _ _ _ hw rfl (⟨hF, rfl, tl.refl⟩) dX9_out_9
set_option maxHeartbeats 4000000 in
set_option maxRecDepth 100000 in
theorem s_X9_swap (l : Launch) (D : va_G) (A : Nat → Nat → Nat) (cy : Nat → ClassId) (hJ : ti_inj ti_LT A) (M : ti_M) (hI : cI Tc M) (hF : cF Tc M) (z1 : Int32) (z2 : Int32) (z3 : Int32) : ti_Ki l yX9_swap cX9_swap 4 (some .boolean) 3 ti_LT D A cy M [.ref (A 0 0), .int z1, .int z2, .int z3] (fun r M2 => cF Tc M2 ∧ tI M2 2 1 = tI M 2 1 ∧ tl M2 M) := by
  refine ti_eI yp_X9_swap hJ ti_LT_nd (Nat.le_of_ble_eq_true rfl) ?_
  intro p e s m args below meth c Q H0 C hQ hw ls hl
  have hx := C.1
  have hb := C.2.1
  have hl : lv_has ls 4 [(0, .ref (A 0 0)), (1, .int z1), (2, .int z2), (3, .int z3)] := hl
  obtain ⟨-, ⟨t1, ht1, hT1⟩, ⟨t2, ht2, hT2⟩, ⟨t, ht, hT⟩, hS, hM⟩ := id hF
  refine lv_aload_n hx hb dX9_swap_0 rfl (lv_at hl 0 rfl) ?_
  refine lv_iload_n hx hb dX9_swap_1 rfl (lv_at hl 1 rfl) ?_
  refine ti_callVi (ci := 9) (av := [.int z1]) C hw (s_X9_isInQueue l D A cy hJ M hI t1 ht1 (hT1) z1) ⟨ml_X9_205, ym_X9_isInQueue, yv_X9_isInQueue, yi_X9_isInQueue, yc_X9_isInQueue⟩ yd_X9_isInQueue ob_0 (by decide) rfl rfl hl.1 (Nat.le_of_ble_eq_true rfl) ⟨by decide, by decide⟩ ⟨Nat.zero_le _, Nat.zero_le _⟩ dX9_swap_2 (fun r_1 M_2 H locs hp_2 hw => ?_)
  obtain ⟨hm, hz⟩ := hp_2
  have hw := hw.to hm
  have hj_21_11 : ∀  (H : Heap) (locs : List Loc) (ls : Array Slot), ti_H ti_LT D A cy H0 M H locs → lv_has ls 4 [(0, .ref (A 0 0)), (1, .int z1), (2, .int z2), (3, .int z3)] → W p l e (ti_rm 3) s m args below meth c H locs 0 0 Q (F0 m 21 ls []) := by
    intro  H locs ls  hw hl
    refine lv_iconst (v := 0) hx hb dX9_swap_21 (by decide) ?_
    exact hQ _ _ _ _ _ _ hw rfl (⟨hF, rfl, tl.refl⟩) dX9_swap_22
  rcases hz with ⟨rfl, d1_3, d2_3⟩ | rfl
  · refine sb_if_eq (tgt := 21) hx hb (by decide : (1 : Int32).toInt = 1) dX9_swap_5 (by decide) (fun h => absurd h (by decide)) (fun c_5_3 => ?_)
    refine lv_aload_n hx hb dX9_swap_8 rfl (lv_at hl 0 rfl) ?_
    refine lv_iload_n hx hb dX9_swap_9 rfl (lv_at hl 2 rfl) ?_
    refine ti_callVi (ci := 9) (av := [.int z2]) C hw (s_X9_isInQueue l D A cy hJ M hI t1 ht1 (hT1) z2) ⟨ml_X9_205, ym_X9_isInQueue, yv_X9_isInQueue, yi_X9_isInQueue, yc_X9_isInQueue⟩ yd_X9_isInQueue ob_0 (by decide) rfl rfl hl.1 (Nat.le_of_ble_eq_true rfl) ⟨by decide, by decide⟩ ⟨Nat.zero_le _, Nat.zero_le _⟩ dX9_swap_10 (fun r_6 M_7 H locs hp_7 hw => ?_)
    obtain ⟨hm, hz⟩ := hp_7
    have hw := hw.to hm
    rcases hz with ⟨rfl, d1_8, d2_8⟩ | rfl
    · refine sb_if_eq (tgt := 21) hx hb (by decide : (1 : Int32).toInt = 1) dX9_swap_13 (by decide) (fun h => absurd h (by decide)) (fun c_13_8 => ?_)
      refine lv_iload_n hx hb dX9_swap_16 rfl (lv_at hl 1 rfl) ?_
      refine lv_iload_n hx hb dX9_swap_17 rfl (lv_at hl 2 rfl) ?_
      refine sb_icmp_ne (tgt := 23) hx hb rfl rfl dX9_swap_18 (by decide) (fun c_18_10 => ?_) (fun c_18_10 => ?_)
      · refine lv_iload_n hx hb dX9_swap_23 rfl (lv_at hl 3 rfl) ?_
        have hj_46_15 : ∀  (H : Heap) (locs : List Loc) (ls : Array Slot), ti_H ti_LT D A cy H0 M H locs → lv_has ls 4 [(0, .ref (A 0 0)), (1, .int z1), (2, .int z2), (3, .int z3)] → W p l e (ti_rm 3) s m args below meth c H locs 0 0 Q (F0 m 46 ls []) := by
          intro  H locs ls  hw hl
          refine lv_iconst (v := 0) hx hb dX9_swap_46 (by decide) ?_
          exact hQ _ _ _ _ _ _ hw rfl (⟨hF, rfl, tl.refl⟩) dX9_swap_47
        refine sb_if_lt (tgt := 46) hx hb rfl dX9_swap_24 (by decide) (fun c_24_11 => ?_) (fun c_24_11 => ?_)
        · exact hj_46_15  _ _ _  hw (lv_sub hl [0, 1, 2, 3] rfl)
        · refine lv_iload_n hx hb dX9_swap_27 rfl (lv_at hl 3 rfl) ?_
          refine lv_bipush (v := 99) hx hb dX9_swap_28 (by decide) ?_
          refine sb_icmp_gt (tgt := 46) hx hb rfl (by decide : (99 : Int32).toInt = 99) dX9_swap_30 (by decide) (fun c_30_12 => ?_) (fun c_30_12 => ?_)
          · exact hj_46_15  _ _ _  hw (lv_sub hl [0, 1, 2, 3] rfl)
          · refine lv_iload_n hx hb dX9_swap_33 rfl (lv_at hl 3 rfl) ?_
            refine lv_aload_n hx hb dX9_swap_34 rfl (lv_at hl 0 rfl) ?_
            refine ti_get (ci := 9) (k := 3) (N := 10) (T := TX9) (v := .ref (A 27 0)) C hw iw_9 rfl ob_0 (by decide) (by decide) fl_X9_29 rfl rfl dX9_swap_35 ?_
            refine ti_get (ci := 3) (k := 12) (N := 17) (T := TX3) (v := .ref (A 27 13)) C hw iw_3 rfl ob_27 (by decide) (by decide) fl_X9_133 rfl rfl dX9_swap_38 ?_
            refine lv_iload_n hx hb dX9_swap_41 rfl (lv_at hl 1 rfl) ?_
            refine ti_iald (ci := 3) (k := 12) (n := 8) C hw ob_27 (by decide) (fun _ _ => rfl) (vp_in_iff.mpr (by omega)) dX9_swap_42 ?_
            refine lv_topi (fun x_14 ex_14 => ?_)
            refine sb_icmp_le (tgt := 48) hx hb rfl rfl dX9_swap_43 (by decide) (fun c_43_14 => ?_) (fun c_43_14 => ?_)
            · refine lv_aload_n hx hb dX9_swap_48 rfl (lv_at hl 0 rfl) ?_
              refine ti_get (ci := 9) (k := 5) (N := 10) (T := TX9) (v := .ref (A 28 0)) C hw iw_9 rfl ob_0 (by decide) (by decide) fl_X9_40 rfl rfl dX9_swap_49 ?_
              refine lv_aload_n hx hb dX9_swap_52 rfl (lv_at hl 0 rfl) ?_
              refine ti_get (ci := 9) (k := 3) (N := 10) (T := TX9) (v := .ref (A 27 0)) C hw iw_9 rfl ob_0 (by decide) (by decide) fl_X9_29 rfl rfl dX9_swap_53 ?_
              refine ti_callVv (ci := 5) (av := [.ref (A 27 0)]) C hw (s_X5_remember l D A cy hJ M hI t ht (hT) hF) ⟨ml_X9_198, ym_X5_remember, yv_X5_remember, yi_X5_remember, yc_X5_remember⟩ yd_X5_remember ob_28 (by decide) rfl rfl hl.1 (Nat.le_of_ble_eq_true rfl) ⟨by decide, by decide⟩ ⟨Nat.zero_le _, Nat.zero_le _⟩ dX9_swap_56 (fun M_17 H locs hp_17 hw => ?_)
              obtain ⟨q_18, q_19, q_20⟩ := hp_17
              refine lv_aload_n hx hb dX9_swap_59 rfl (lv_at hl 0 rfl) ?_
              refine ti_get (ci := 9) (k := 3) (N := 10) (T := TX9) (v := .ref (A 27 0)) C hw iw_9 rfl ob_0 (by decide) (by decide) fl_X9_29 rfl rfl dX9_swap_60 ?_
              refine lv_iload_n hx hb dX9_swap_63 rfl (lv_at hl 1 rfl) ?_
              refine lv_iload_n hx hb dX9_swap_64 rfl (lv_at hl 2 rfl) ?_
              refine ti_callVv (ci := 3) (av := [.int z1, .int z2]) C hw (s_X3_exchange l D A cy hJ M_17 q_18.1 27 ob_27 z1 z2 (by omega) (by omega) (by omega) (by omega)) ⟨ml_X9_212, ym_X3_exchange, yv_X3_exchange, yi_X3_exchange, yc_X3_exchange⟩ yd_X3_exchange ob_27 (by decide) rfl rfl hl.1 (Nat.le_of_ble_eq_true rfl) ⟨by decide, by decide⟩ ⟨Nat.zero_le _, Nat.zero_le _⟩ dX9_swap_65 (fun M_22 H locs hp_22 hw => ?_)
              obtain ⟨iM_22, q_23, q_24, q_25⟩ := hp_22
              refine lv_aload_n hx hb dX9_swap_68 rfl (lv_at hl 0 rfl) ?_
              refine ti_get (ci := 9) (k := 3) (N := 10) (T := TX9) (v := .ref (A 27 0)) C hw iw_9 rfl ob_0 (by decide) (by decide) fl_X9_29 rfl rfl dX9_swap_69 ?_
              refine ti_get (ci := 3) (k := 12) (N := 17) (T := TX3) (v := .ref (A 27 13)) C hw iw_3 rfl ob_27 (by decide) (by decide) fl_X9_133 rfl rfl dX9_swap_72 ?_
              refine lv_iload_n hx hb dX9_swap_75 rfl (lv_at hl 1 rfl) ?_
              refine lv_dup2_11 hx hb dX9_swap_76 rfl rfl ?_
              refine ti_iald (ci := 3) (k := 12) (n := 8) C hw ob_27 (by decide) (fun _ _ => rfl) (vp_in_iff.mpr (by omega)) dX9_swap_77 ?_
              refine lv_topi (fun x_26 ex_26 => ?_)
              refine lv_iload_n hx hb dX9_swap_78 rfl (lv_at hl 3 rfl) ?_
              refine lv_isub hx hb dX9_swap_79 ?_
              refine lv_topi (fun x_27 ex_27 => ?_)
              refine ti_iast (ci := 3) (k := 12) (n := 8) C hw ob_27 (by decide) (fun _ _ => rfl) (vp_in_iff.mpr (by omega)) dX9_swap_80 (fun H locs hw => ?_)
              obtain ⟨M_28, hM_28⟩ : ∃ z : ti_M, z = uY M_22 27 12 (upd (tY M_22 27 12) (z1 : Int32).toNatClampNeg x_27) := ⟨_, rfl⟩
              have hw := hw.to hM_28.symm
              have iM_28 : cI Tc M_28 := cI_up iM_22 hM_28 ob_27.1 trivial
              refine lv_aload_n hx hb dX9_swap_81 rfl (lv_at hl 0 rfl) ?_
              refine ti_get (ci := 9) (k := 3) (N := 10) (T := TX9) (v := .ref (A 27 0)) C hw iw_9 rfl ob_0 (by decide) (by decide) fl_X9_29 rfl rfl dX9_swap_82 ?_
              refine ti_get (ci := 3) (k := 12) (N := 17) (T := TX3) (v := .ref (A 27 13)) C hw iw_3 rfl ob_27 (by decide) (by decide) fl_X9_133 rfl rfl dX9_swap_85 ?_
              refine lv_iload_n hx hb dX9_swap_88 rfl (lv_at hl 2 rfl) ?_
              refine lv_dup2_11 hx hb dX9_swap_89 rfl rfl ?_
              refine ti_iald (ci := 3) (k := 12) (n := 8) C hw ob_27 (by decide) (fun _ _ => rfl) (vp_in_iff.mpr (by omega)) dX9_swap_90 ?_
              refine lv_topi (fun x_29 ex_29 => ?_)
              refine lv_iload_n hx hb dX9_swap_91 rfl (lv_at hl 3 rfl) ?_
              refine lv_iadd hx hb dX9_swap_92 ?_
              refine lv_topi (fun x_30 ex_30 => ?_)
              refine ti_iast (ci := 3) (k := 12) (n := 8) C hw ob_27 (by decide) (fun _ _ => rfl) (vp_in_iff.mpr (by omega)) dX9_swap_93 (fun H locs hw => ?_)
              obtain ⟨M_31, hM_31⟩ : ∃ z : ti_M, z = uY M_28 27 12 (upd (tY M_28 27 12) (z2 : Int32).toNatClampNeg x_30) := ⟨_, rfl⟩
              have hw := hw.to hM_31.symm
              have iM_31 : cI Tc M_31 := cI_up iM_28 hM_31 ob_27.1 trivial
              refine lv_iconst (v := 1) hx hb dX9_swap_94 (by decide) ?_
              exact hQ _ _ _ _ _ _ hw rfl (⟨(cF_fr q_18 iM_31 (rT.trans (rs_of (rf_Y hM_31)) (rT.trans (rs_of (rf_Y hM_28)) (rs_of q_23))) (fX.trans (fx_of (ra_Y hM_31)) (fX.trans (fx_of (ra_Y hM_28)) q_25))), ((tI_uYE hM_31).trans ((tI_uYE hM_28).trans (((q_25 1).2.1).trans q_19))), (tl.trans (tl_Y hM_31) (tl.trans (tl_Y hM_28) (tl.trans (tl_x q_25 (tT_fr q_23) (tT_fr q_23)) q_20)))⟩) dX9_swap_95
            · exact hj_46_15  _ _ _  hw (lv_sub hl [0, 1, 2, 3] rfl)
      · exact hj_21_11  _ _ _  hw (lv_sub hl [0, 1, 2, 3] rfl)
    · refine sb_if_eq (tgt := 21) hx hb (by decide : (0 : Int32).toInt = 0) dX9_swap_13 (by decide) (fun c_13_9 => ?_) (fun h => absurd h (by decide))
      exact hj_21_11  _ _ _  hw (lv_sub hl [0, 1, 2, 3] rfl)
  · refine sb_if_eq (tgt := 21) hx hb (by decide : (0 : Int32).toInt = 0) dX9_swap_5 (by decide) (fun c_5_4 => ?_) (fun h => absurd h (by decide))
    exact hj_21_11  _ _ _  hw (lv_sub hl [0, 1, 2, 3] rfl)
set_option maxHeartbeats 4000000 in
set_option maxRecDepth 100000 in
theorem s_X9_kneel (l : Launch) (D : va_G) (A : Nat → Nat → Nat) (cy : Nat → ClassId) (hJ : ti_inj ti_LT A) (M : ti_M) (hI : cI Tc M) (hF : cF Tc M) (z1 : Int32) (z2 : Int32) : ti_Ki l yX9_kneel cX9_kneel 3 (some .boolean) 3 ti_LT D A cy M [.ref (A 0 0), .int z1, .int z2] (fun r M2 => cF Tc M2 ∧ tI M2 2 1 = tI M 2 1 ∧ tl M2 M) := by
  refine ti_eI yp_X9_kneel hJ ti_LT_nd (Nat.le_of_ble_eq_true rfl) ?_
  intro p e s m args below meth c Q H0 C hQ hw ls hl
  have hx := C.1
  have hb := C.2.1
  have hl : lv_has ls 3 [(0, .ref (A 0 0)), (1, .int z1), (2, .int z2)] := hl
  obtain ⟨-, ⟨t1, ht1, hT1⟩, ⟨t2, ht2, hT2⟩, ⟨t, ht, hT⟩, hS, hM⟩ := id hF
  refine lv_aload_n hx hb dX9_kneel_0 rfl (lv_at hl 0 rfl) ?_
  refine lv_iload_n hx hb dX9_kneel_1 rfl (lv_at hl 1 rfl) ?_
  refine ti_callVi (ci := 9) (av := [.int z1]) C hw (s_X9_isInQueue l D A cy hJ M hI t1 ht1 (hT1) z1) ⟨ml_X9_205, ym_X9_isInQueue, yv_X9_isInQueue, yi_X9_isInQueue, yc_X9_isInQueue⟩ yd_X9_isInQueue ob_0 (by decide) rfl rfl hl.1 (Nat.le_of_ble_eq_true rfl) ⟨by decide, by decide⟩ ⟨Nat.zero_le _, Nat.zero_le _⟩ dX9_kneel_2 (fun r_1 M_2 H locs hp_2 hw => ?_)
  obtain ⟨hm, hz⟩ := hp_2
  have hw := hw.to hm
  have hj_19_7 : ∀  (H : Heap) (locs : List Loc) (ls : Array Slot), ti_H ti_LT D A cy H0 M H locs → lv_has ls 3 [(0, .ref (A 0 0)), (1, .int z1), (2, .int z2)] → W p l e (ti_rm 3) s m args below meth c H locs 0 0 Q (F0 m 19 ls []) := by
    intro  H locs ls  hw hl
    refine lv_iconst (v := 0) hx hb dX9_kneel_19 (by decide) ?_
    exact hQ _ _ _ _ _ _ hw rfl (⟨hF, rfl, tl.refl⟩) dX9_kneel_20
  rcases hz with ⟨rfl, d1_3, d2_3⟩ | rfl
  · refine sb_if_eq (tgt := 19) hx hb (by decide : (1 : Int32).toInt = 1) dX9_kneel_5 (by decide) (fun h => absurd h (by decide)) (fun c_5_3 => ?_)
    refine lv_iload_n hx hb dX9_kneel_8 rfl (lv_at hl 2 rfl) ?_
    refine lv_iconst (v := 1) hx hb dX9_kneel_9 (by decide) ?_
    refine sb_icmp_lt (tgt := 19) hx hb rfl (by decide : (1 : Int32).toInt = 1) dX9_kneel_10 (by decide) (fun c_10_5 => ?_) (fun c_10_5 => ?_)
    · exact hj_19_7  _ _ _  hw (lv_sub hl [0, 1, 2] rfl)
    · refine lv_iload_n hx hb dX9_kneel_13 rfl (lv_at hl 2 rfl) ?_
      refine lv_bipush (v := 20) hx hb dX9_kneel_14 (by decide) ?_
      refine sb_icmp_le (tgt := 21) hx hb rfl (by decide : (20 : Int32).toInt = 20) dX9_kneel_16 (by decide) (fun c_16_6 => ?_) (fun c_16_6 => ?_)
      · refine lv_aload_n hx hb dX9_kneel_21 rfl (lv_at hl 0 rfl) ?_
        refine ti_get (ci := 9) (k := 3) (N := 10) (T := TX9) (v := .ref (A 27 0)) C hw iw_9 rfl ob_0 (by decide) (by decide) fl_X9_29 rfl rfl dX9_kneel_22 ?_
        refine ti_get (ci := 3) (k := 15) (N := 17) (T := TX3) (v := .ref (A 27 16)) C hw iw_3 rfl ob_27 (by decide) (by decide) fl_X9_145 rfl rfl dX9_kneel_25 ?_
        refine lv_iload_n hx hb dX9_kneel_28 rfl (lv_at hl 1 rfl) ?_
        refine ti_iald (ci := 3) (k := 15) (n := 8) C hw ob_27 (by decide) (fun _ _ => rfl) (vp_in_iff.mpr (by omega)) dX9_kneel_29 ?_
        refine lv_topi (fun x_8 ex_8 => ?_)
        refine lv_iload_n hx hb dX9_kneel_30 rfl (lv_at hl 2 rfl) ?_
        refine sb_icmp_ne (tgt := 36) hx hb rfl rfl dX9_kneel_31 (by decide) (fun c_31_8 => ?_) (fun c_31_8 => ?_)
        · refine lv_aload_n hx hb dX9_kneel_36 rfl (lv_at hl 0 rfl) ?_
          refine ti_get (ci := 9) (k := 5) (N := 10) (T := TX9) (v := .ref (A 28 0)) C hw iw_9 rfl ob_0 (by decide) (by decide) fl_X9_40 rfl rfl dX9_kneel_37 ?_
          refine lv_aload_n hx hb dX9_kneel_40 rfl (lv_at hl 0 rfl) ?_
          refine ti_get (ci := 9) (k := 3) (N := 10) (T := TX9) (v := .ref (A 27 0)) C hw iw_9 rfl ob_0 (by decide) (by decide) fl_X9_29 rfl rfl dX9_kneel_41 ?_
          refine ti_callVv (ci := 5) (av := [.ref (A 27 0)]) C hw (s_X5_remember l D A cy hJ M hI t ht (hT) hF) ⟨ml_X9_198, ym_X5_remember, yv_X5_remember, yi_X5_remember, yc_X5_remember⟩ yd_X5_remember ob_28 (by decide) rfl rfl hl.1 (Nat.le_of_ble_eq_true rfl) ⟨by decide, by decide⟩ ⟨Nat.zero_le _, Nat.zero_le _⟩ dX9_kneel_44 (fun M_11 H locs hp_11 hw => ?_)
          obtain ⟨q_12, q_13, q_14⟩ := hp_11
          refine lv_aload_n hx hb dX9_kneel_47 rfl (lv_at hl 0 rfl) ?_
          refine ti_get (ci := 9) (k := 3) (N := 10) (T := TX9) (v := .ref (A 27 0)) C hw iw_9 rfl ob_0 (by decide) (by decide) fl_X9_29 rfl rfl dX9_kneel_48 ?_
          refine ti_get (ci := 3) (k := 15) (N := 17) (T := TX3) (v := .ref (A 27 16)) C hw iw_3 rfl ob_27 (by decide) (by decide) fl_X9_145 rfl rfl dX9_kneel_51 ?_
          refine lv_iload_n hx hb dX9_kneel_54 rfl (lv_at hl 1 rfl) ?_
          refine lv_iload_n hx hb dX9_kneel_55 rfl (lv_at hl 2 rfl) ?_
          refine ti_iast (ci := 3) (k := 15) (n := 8) C hw ob_27 (by decide) (fun _ _ => rfl) (vp_in_iff.mpr (by omega)) dX9_kneel_56 (fun H locs hw => ?_)
          obtain ⟨M_15, hM_15⟩ : ∃ z : ti_M, z = uY M_11 27 15 (upd (tY M_11 27 15) (z1 : Int32).toNatClampNeg z2) := ⟨_, rfl⟩
          have hw := hw.to hM_15.symm
          have iM_15 : cI Tc M_15 := cI_up q_12.1 hM_15 ob_27.1 trivial
          refine lv_iconst (v := 1) hx hb dX9_kneel_57 (by decide) ?_
          exact hQ _ _ _ _ _ _ hw rfl (⟨(cF_fr q_12 iM_15 (rs_of (rf_Y hM_15)) (fx_of (ra_Y hM_15))), ((tI_uYE hM_15).trans q_13), (tl.trans (tl_Y hM_15) q_14)⟩) dX9_kneel_58
        · refine lv_iconst (v := 0) hx hb dX9_kneel_34 (by decide) ?_
          exact hQ _ _ _ _ _ _ hw rfl (⟨hF, rfl, tl.refl⟩) dX9_kneel_35
      · exact hj_19_7  _ _ _  hw (lv_sub hl [0, 1, 2] rfl)
  · refine sb_if_eq (tgt := 19) hx hb (by decide : (0 : Int32).toInt = 0) dX9_kneel_5 (by decide) (fun c_5_4 => ?_) (fun h => absurd h (by decide))
    exact hj_19_7  _ _ _  hw (lv_sub hl [0, 1, 2] rfl)
set_option maxHeartbeats 4000000 in
set_option maxRecDepth 100000 in
theorem s_X9_cough (l : Launch) (D : va_G) (A : Nat → Nat → Nat) (cy : Nat → ClassId) (hJ : ti_inj ti_LT A) (M : ti_M) (hI : cI Tc M) (hF : cF Tc M) (za : Int32) : ti_Ki l yX9_cough cX9_cough 2 (some .boolean) 3 ti_LT D A cy M [.ref (A 0 0), .int za] (fun r M2 => cF Tc M2 ∧ tI M2 2 1 = tI M 2 1 ∧ tl M2 M) := by
  refine ti_eI yp_X9_cough hJ ti_LT_nd (Nat.le_of_ble_eq_true rfl) ?_
  intro p e s m args below meth c Q H0 C hQ hw ls hl
  have hx := C.1
  have hb := C.2.1
  have hl : lv_has ls 2 [(0, .ref (A 0 0)), (1, .int za)] := hl
  obtain ⟨-, ⟨t1, ht1, hT1⟩, ⟨t2, ht2, hT2⟩, ⟨t, ht, hT⟩, hS, hM⟩ := id hF
  refine lv_aload_n hx hb dX9_cough_0 rfl (lv_at hl 0 rfl) ?_
  refine lv_iload_n hx hb dX9_cough_1 rfl (lv_at hl 1 rfl) ?_
  refine ti_callVi (ci := 9) (av := [.int za]) C hw (s_X9_isInQueue l D A cy hJ M hI t1 ht1 (hT1) za) ⟨ml_X9_205, ym_X9_isInQueue, yv_X9_isInQueue, yi_X9_isInQueue, yc_X9_isInQueue⟩ yd_X9_isInQueue ob_0 (by decide) rfl rfl hl.1 (Nat.le_of_ble_eq_true rfl) ⟨by decide, by decide⟩ ⟨Nat.zero_le _, Nat.zero_le _⟩ dX9_cough_2 (fun r_1 M_2 H locs hp_2 hw => ?_)
  obtain ⟨hm, hz⟩ := hp_2
  have hw := hw.to hm
  have hj_20_7 : ∀  (H : Heap) (locs : List Loc) (ls : Array Slot), ti_H ti_LT D A cy H0 M H locs → lv_has ls 2 [(0, .ref (A 0 0)), (1, .int za)] → W p l e (ti_rm 3) s m args below meth c H locs 0 0 Q (F0 m 20 ls []) := by
    intro  H locs ls  hw hl
    refine lv_iconst (v := 0) hx hb dX9_cough_20 (by decide) ?_
    exact hQ _ _ _ _ _ _ hw rfl (⟨hF, rfl, tl.refl⟩) dX9_cough_21
  rcases hz with ⟨rfl, d1_3, d2_3⟩ | rfl
  · refine sb_if_eq (tgt := 20) hx hb (by decide : (1 : Int32).toInt = 1) dX9_cough_5 (by decide) (fun h => absurd h (by decide)) (fun c_5_3 => ?_)
    refine lv_aload_n hx hb dX9_cough_8 rfl (lv_at hl 0 rfl) ?_
    refine ti_get (ci := 9) (k := 3) (N := 10) (T := TX9) (v := .ref (A 27 0)) C hw iw_9 rfl ob_0 (by decide) (by decide) fl_X9_29 rfl rfl dX9_cough_9 ?_
    refine ti_get (ci := 3) (k := 16) (N := 17) (T := TX3) (v := .ref (A 27 17)) C hw iw_3 rfl ob_27 (by decide) (by decide) fl_X9_148 rfl rfl dX9_cough_12 ?_
    refine lv_iload_n hx hb dX9_cough_15 rfl (lv_at hl 1 rfl) ?_
    refine ti_iald (ci := 3) (k := 16) (n := 8) C hw ob_27 (by decide) (fun _ _ => rfl) (vp_in_iff.mpr (by omega)) dX9_cough_16 ?_
    refine lv_topi (fun x_6 ex_6 => ?_)
    refine sb_if_eq (tgt := 22) hx hb rfl dX9_cough_17 (by decide) (fun c_17_6 => ?_) (fun c_17_6 => ?_)
    · refine lv_aload_n hx hb dX9_cough_22 rfl (lv_at hl 0 rfl) ?_
      refine ti_get (ci := 9) (k := 5) (N := 10) (T := TX9) (v := .ref (A 28 0)) C hw iw_9 rfl ob_0 (by decide) (by decide) fl_X9_40 rfl rfl dX9_cough_23 ?_
      refine lv_aload_n hx hb dX9_cough_26 rfl (lv_at hl 0 rfl) ?_
      refine ti_get (ci := 9) (k := 3) (N := 10) (T := TX9) (v := .ref (A 27 0)) C hw iw_9 rfl ob_0 (by decide) (by decide) fl_X9_29 rfl rfl dX9_cough_27 ?_
      refine ti_callVv (ci := 5) (av := [.ref (A 27 0)]) C hw (s_X5_remember l D A cy hJ M hI t ht (hT) hF) ⟨ml_X9_198, ym_X5_remember, yv_X5_remember, yi_X5_remember, yc_X5_remember⟩ yd_X5_remember ob_28 (by decide) rfl rfl hl.1 (Nat.le_of_ble_eq_true rfl) ⟨by decide, by decide⟩ ⟨Nat.zero_le _, Nat.zero_le _⟩ dX9_cough_30 (fun M_9 H locs hp_9 hw => ?_)
      obtain ⟨q_10, q_11, q_12⟩ := hp_9
      refine lv_aload_n hx hb dX9_cough_33 rfl (lv_at hl 0 rfl) ?_
      refine ti_get (ci := 9) (k := 3) (N := 10) (T := TX9) (v := .ref (A 27 0)) C hw iw_9 rfl ob_0 (by decide) (by decide) fl_X9_29 rfl rfl dX9_cough_34 ?_
      refine ti_get (ci := 3) (k := 16) (N := 17) (T := TX3) (v := .ref (A 27 17)) C hw iw_3 rfl ob_27 (by decide) (by decide) fl_X9_148 rfl rfl dX9_cough_37 ?_
      refine lv_iload_n hx hb dX9_cough_40 rfl (lv_at hl 1 rfl) ?_
      refine lv_iconst (v := 1) hx hb dX9_cough_41 (by decide) ?_
      refine ti_iast (ci := 3) (k := 16) (n := 8) C hw ob_27 (by decide) (fun _ _ => rfl) (vp_in_iff.mpr (by omega)) dX9_cough_42 (fun H locs hw => ?_)
      obtain ⟨M_13, hM_13⟩ : ∃ z : ti_M, z = uY M_9 27 16 (upd (tY M_9 27 16) (za : Int32).toNatClampNeg 1) := ⟨_, rfl⟩
      have hw := hw.to hM_13.symm
      have iM_13 : cI Tc M_13 := cI_up q_10.1 hM_13 ob_27.1 trivial
      refine lv_iconst (v := 1) hx hb dX9_cough_43 (by decide) ?_
      exact hQ _ _ _ _ _ _ hw rfl (⟨(cF_fr q_10 iM_13 (rs_of (rf_Y hM_13)) (fx_of (ra_Y hM_13))), ((tI_uYE hM_13).trans q_11), (tl.trans (tl_Y hM_13) q_12)⟩) dX9_cough_44
    · exact hj_20_7  _ _ _  hw (lv_sub hl [0, 1] rfl)
  · refine sb_if_eq (tgt := 20) hx hb (by decide : (0 : Int32).toInt = 0) dX9_cough_5 (by decide) (fun c_5_4 => ?_) (fun h => absurd h (by decide))
    exact hj_20_7  _ _ _  hw (lv_sub hl [0, 1] rfl)
set_option maxHeartbeats 4000000 in
set_option maxRecDepth 100000 in
theorem s_X9_move (l : Launch) (D : va_G) (A : Nat → Nat → Nat) (cy : Nat → ClassId) (hJ : ti_inj ti_LT A) (M : ti_M) (hI : cI Tc M) (hF : cF Tc M) (z1 : Int32) (z2 : Int32) : ti_Ki l yX9_move cX9_move 3 (some .boolean) 3 ti_LT D A cy M [.ref (A 0 0), .int z1, .int z2] (fun r M2 => cF Tc M2 ∧ tI M2 2 1 = tI M 2 1 ∧ tl M2 M) := by
  refine ti_eI yp_X9_move hJ ti_LT_nd (Nat.le_of_ble_eq_true rfl) ?_
  intro p e s m args below meth c Q H0 C hQ hw ls hl
  have hx := C.1
  have hb := C.2.1
  have hl : lv_has ls 3 [(0, .ref (A 0 0)), (1, .int z1), (2, .int z2)] := hl
  obtain ⟨-, ⟨t1, ht1, hT1⟩, ⟨t2, ht2, hT2⟩, ⟨t, ht, hT⟩, hS, hM⟩ := id hF
  refine lv_aload_n hx hb dX9_move_0 rfl (lv_at hl 0 rfl) ?_
  refine lv_iload_n hx hb dX9_move_1 rfl (lv_at hl 1 rfl) ?_
  refine ti_callVi (ci := 9) (av := [.int z1]) C hw (s_X9_isPower l D A cy hJ M hI z1) ⟨ml_X9_165, ym_X9_isPower, yv_X9_isPower, yi_X9_isPower, yc_X9_isPower⟩ yd_X9_isPower ob_0 (by decide) rfl rfl hl.1 (Nat.le_of_ble_eq_true rfl) ⟨by decide, by decide⟩ ⟨Nat.zero_le _, Nat.zero_le _⟩ dX9_move_2 (fun r_1 M_2 H locs hp_2 hw => ?_)
  obtain ⟨hm, hz⟩ := hp_2
  have hw := hw.to hm
  have hj_29_12 : ∀  (H : Heap) (locs : List Loc) (ls : Array Slot), ti_H ti_LT D A cy H0 M H locs → lv_has ls 3 [(0, .ref (A 0 0)), (1, .int z1), (2, .int z2)] → W p l e (ti_rm 3) s m args below meth c H locs 0 0 Q (F0 m 29 ls []) := by
    intro  H locs ls  hw hl
    refine lv_iconst (v := 0) hx hb dX9_move_29 (by decide) ?_
    exact hQ _ _ _ _ _ _ hw rfl (⟨hF, rfl, tl.refl⟩) dX9_move_30
  rcases hz with ⟨rfl, d1_3, d2_3⟩ | rfl
  · refine sb_if_eq (tgt := 29) hx hb (by decide : (1 : Int32).toInt = 1) dX9_move_5 (by decide) (fun h => absurd h (by decide)) (fun c_5_3 => ?_)
    refine lv_aload_n hx hb dX9_move_8 rfl (lv_at hl 0 rfl) ?_
    refine lv_iload_n hx hb dX9_move_9 rfl (lv_at hl 2 rfl) ?_
    refine ti_callVi (ci := 9) (av := [.int z2]) C hw (s_X9_isPlace l D A cy hJ M hI z2) ⟨ml_X9_159, ym_X9_isPlace, yv_X9_isPlace, yi_X9_isPlace, yc_X9_isPlace⟩ yd_X9_isPlace ob_0 (by decide) rfl rfl hl.1 (Nat.le_of_ble_eq_true rfl) ⟨by decide, by decide⟩ ⟨Nat.zero_le _, Nat.zero_le _⟩ dX9_move_10 (fun r_6 M_7 H locs hp_7 hw => ?_)
    obtain ⟨hm, hz⟩ := hp_7
    have hw := hw.to hm
    rcases hz with ⟨rfl, d1_8, d2_8⟩ | rfl
    · refine sb_if_eq (tgt := 29) hx hb (by decide : (1 : Int32).toInt = 1) dX9_move_13 (by decide) (fun h => absurd h (by decide)) (fun c_13_8 => ?_)
      refine lv_aload_n hx hb dX9_move_16 rfl (lv_at hl 0 rfl) ?_
      refine ti_get (ci := 9) (k := 3) (N := 10) (T := TX9) (v := .ref (A 27 0)) C hw iw_9 rfl ob_0 (by decide) (by decide) fl_X9_29 rfl rfl dX9_move_17 ?_
      refine ti_get (ci := 3) (k := 7) (N := 17) (T := TX3) (v := .ref (A 27 8)) C hw iw_3 rfl ob_27 (by decide) (by decide) fl_X9_168 rfl rfl dX9_move_20 ?_
      refine lv_iload_n hx hb dX9_move_23 rfl (lv_at hl 1 rfl) ?_
      refine ti_iald (ci := 3) (k := 7) (n := 3) C hw ob_27 (by decide) (fun _ _ => rfl) (vp_in_iff.mpr (by omega)) dX9_move_24 ?_
      refine lv_topi (fun x_11 ex_11 => ?_)
      refine lv_iload_n hx hb dX9_move_25 rfl (lv_at hl 2 rfl) ?_
      refine sb_icmp_ne (tgt := 31) hx hb rfl rfl dX9_move_26 (by decide) (fun c_26_11 => ?_) (fun c_26_11 => ?_)
      · refine lv_aload_n hx hb dX9_move_31 rfl (lv_at hl 0 rfl) ?_
        refine ti_get (ci := 9) (k := 5) (N := 10) (T := TX9) (v := .ref (A 28 0)) C hw iw_9 rfl ob_0 (by decide) (by decide) fl_X9_40 rfl rfl dX9_move_32 ?_
        refine lv_aload_n hx hb dX9_move_35 rfl (lv_at hl 0 rfl) ?_
        refine ti_get (ci := 9) (k := 3) (N := 10) (T := TX9) (v := .ref (A 27 0)) C hw iw_9 rfl ob_0 (by decide) (by decide) fl_X9_29 rfl rfl dX9_move_36 ?_
        refine ti_callVv (ci := 5) (av := [.ref (A 27 0)]) C hw (s_X5_remember l D A cy hJ M hI t ht (hT) hF) ⟨ml_X9_198, ym_X5_remember, yv_X5_remember, yi_X5_remember, yc_X5_remember⟩ yd_X5_remember ob_28 (by decide) rfl rfl hl.1 (Nat.le_of_ble_eq_true rfl) ⟨by decide, by decide⟩ ⟨Nat.zero_le _, Nat.zero_le _⟩ dX9_move_39 (fun M_14 H locs hp_14 hw => ?_)
        obtain ⟨q_15, q_16, q_17⟩ := hp_14
        refine lv_aload_n hx hb dX9_move_42 rfl (lv_at hl 0 rfl) ?_
        refine ti_get (ci := 9) (k := 3) (N := 10) (T := TX9) (v := .ref (A 27 0)) C hw iw_9 rfl ob_0 (by decide) (by decide) fl_X9_29 rfl rfl dX9_move_43 ?_
        refine ti_get (ci := 3) (k := 7) (N := 17) (T := TX3) (v := .ref (A 27 8)) C hw iw_3 rfl ob_27 (by decide) (by decide) fl_X9_168 rfl rfl dX9_move_46 ?_
        refine lv_iload_n hx hb dX9_move_49 rfl (lv_at hl 1 rfl) ?_
        refine lv_iload_n hx hb dX9_move_50 rfl (lv_at hl 2 rfl) ?_
        refine ti_iast (ci := 3) (k := 7) (n := 3) C hw ob_27 (by decide) (fun _ _ => rfl) (vp_in_iff.mpr (by omega)) dX9_move_51 (fun H locs hw => ?_)
        obtain ⟨M_18, hM_18⟩ : ∃ z : ti_M, z = uY M_14 27 7 (upd (tY M_14 27 7) (z1 : Int32).toNatClampNeg z2) := ⟨_, rfl⟩
        have hw := hw.to hM_18.symm
        have iM_18 : cI Tc M_18 := cI_up q_15.1 hM_18 ob_27.1 trivial
        refine lv_iconst (v := 1) hx hb dX9_move_52 (by decide) ?_
        exact hQ _ _ _ _ _ _ hw rfl (⟨(cF_fr q_15 iM_18 (rs_of (rf_Y hM_18)) (fx_of (ra_Y hM_18))), ((tI_uYE hM_18).trans q_16), (tl.trans (tl_Y hM_18) q_17)⟩) dX9_move_53
      · exact hj_29_12  _ _ _  hw (lv_sub hl [0, 1, 2] rfl)
    · refine sb_if_eq (tgt := 29) hx hb (by decide : (0 : Int32).toInt = 0) dX9_move_13 (by decide) (fun c_13_9 => ?_) (fun h => absurd h (by decide))
      exact hj_29_12  _ _ _  hw (lv_sub hl [0, 1, 2] rfl)
  · refine sb_if_eq (tgt := 29) hx hb (by decide : (0 : Int32).toInt = 0) dX9_move_5 (by decide) (fun c_5_4 => ?_) (fun h => absurd h (by decide))
    exact hj_29_12  _ _ _  hw (lv_sub hl [0, 1, 2] rfl)
set_option maxHeartbeats 4000000 in
set_option maxRecDepth 100000 in
theorem s_X9_was (l : Launch) (D : va_G) (A : Nat → Nat → Nat) (cy : Nat → ClassId) (hJ : ti_inj ti_LT A) (M : ti_M) (hI : cI Tc M) (hF : cF Tc M) (z1 : Int32) (z2 : Int32) : ti_Ki l yX9_was cX9_was 3 (some .int) 1 ti_LT D A cy M [.ref (A 0 0), .int z1, .int z2] (fun r M2 => cF Tc M2 ∧ tI M2 2 1 = tI M 2 1 ∧ tl M2 M) := by
  refine ti_eI yp_X9_was hJ ti_LT_nd (Nat.le_of_ble_eq_true rfl) ?_
  intro p e s m args below meth c Q H0 C hQ hw ls hl
  have hx := C.1
  have hb := C.2.1
  have hl : lv_has ls 3 [(0, .ref (A 0 0)), (1, .int z1), (2, .int z2)] := hl
  obtain ⟨-, ⟨t1, ht1, hT1⟩, ⟨t2, ht2, hT2⟩, ⟨t, ht, hT⟩, hS, hM⟩ := id hF
  refine lv_aload_n hx hb dX9_was_0 rfl (lv_at hl 0 rfl) ?_
  refine lv_iload_n hx hb dX9_was_1 rfl (lv_at hl 1 rfl) ?_
  refine ti_callVi (ci := 9) (av := [.int z1]) C hw (s_X9_isPower l D A cy hJ M hI z1) ⟨ml_X9_165, ym_X9_isPower, yv_X9_isPower, yi_X9_isPower, yc_X9_isPower⟩ yd_X9_isPower ob_0 (by decide) rfl rfl hl.1 (Nat.le_of_ble_eq_true rfl) ⟨by decide, by decide⟩ ⟨Nat.zero_le _, Nat.zero_le _⟩ dX9_was_2 (fun r_1 M_2 H locs hp_2 hw => ?_)
  obtain ⟨hm, hz⟩ := hp_2
  have hw := hw.to hm
  have hj_23_8 : ∀  (H : Heap) (locs : List Loc) (ls : Array Slot), ti_H ti_LT D A cy H0 M H locs → lv_has ls 3 [(0, .ref (A 0 0)), (1, .int z1), (2, .int z2)] → W p l e (ti_rm 1) s m args below meth c H locs 0 0 Q (F0 m 23 ls []) := by
    intro  H locs ls  hw hl
    refine lv_iconst (v := (-1)) hx hb dX9_was_23 (by decide) ?_
    exact hQ _ _ _ _ _ _ hw rfl (⟨hF, rfl, tl.refl⟩) dX9_was_24
  rcases hz with ⟨rfl, d1_3, d2_3⟩ | rfl
  · refine sb_if_eq (tgt := 23) hx hb (by decide : (1 : Int32).toInt = 1) dX9_was_5 (by decide) (fun h => absurd h (by decide)) (fun c_5_3 => ?_)
    refine lv_iload_n hx hb dX9_was_8 rfl (lv_at hl 2 rfl) ?_
    refine sb_if_lt (tgt := 23) hx hb rfl dX9_was_9 (by decide) (fun c_9_5 => ?_) (fun c_9_5 => ?_)
    · exact hj_23_8  _ _ _  hw (lv_sub hl [0, 1, 2] rfl)
    · refine lv_iload_n hx hb dX9_was_12 rfl (lv_at hl 2 rfl) ?_
      refine lv_aload_n hx hb dX9_was_13 rfl (lv_at hl 0 rfl) ?_
      refine ti_get (ci := 9) (k := 3) (N := 10) (T := TX9) (v := .ref (A 27 0)) C hw iw_9 rfl ob_0 (by decide) (by decide) fl_X9_29 rfl rfl dX9_was_14 ?_
      refine ti_get (ci := 3) (k := 2) (N := 17) (T := TX3) C hw iw_3 rfl ob_27 (by decide) (by decide) fl_X9_186 rfl rfl dX9_was_17 ?_
      refine lv_topi (fun x_7 ex_7 => ?_)
      have bx_7 : 0 ≤ x_7.toInt ∧ x_7.toInt ≤ 120 := cI_rd hI ob_27.1 ex_7 (Or.inl rfl)
      have ux_7 : (tI M 27 2).toInt = x_7.toInt := by rw [ex_7]
      refine sb_icmp_lt (tgt := 25) hx hb rfl rfl dX9_was_20 (by decide) (fun c_20_7 => ?_) (fun c_20_7 => ?_)
      · refine lv_aload_n hx hb dX9_was_25 rfl (lv_at hl 0 rfl) ?_
        refine ti_get (ci := 9) (k := 4) (N := 10) (T := TX9) (v := .ref (A 0 5)) C hw iw_9 rfl ob_0 (by decide) (by decide) fl_X9_33 rfl rfl dX9_was_26 ?_
        refine lv_iload_n hx hb dX9_was_29 rfl (lv_at hl 1 rfl) ?_
        refine lv_bipush (v := 120) hx hb dX9_was_30 (by decide) ?_
        refine lv_imul hx hb dX9_was_32 ?_
        refine lv_topi (fun x_9 ex_9 => ?_)
        have lox_9z1 := z1.le_toInt
        have hix_9z1 := z1.toInt_lt
        have tx_9 : x_9.toInt = z1.toInt * 120 := i_mul ex_9 rfl (by decide : (120 : Int32).toInt = 120) (by omega) (by omega)
        refine lv_iload_n hx hb dX9_was_33 rfl (lv_at hl 2 rfl) ?_
        refine lv_iadd hx hb dX9_was_34 ?_
        refine lv_topi (fun x_10 ex_10 => ?_)
        have lox_10x_9 := x_9.le_toInt
        have hix_10x_9 := x_9.toInt_lt
        have lox_10z2 := z2.le_toInt
        have hix_10z2 := z2.toInt_lt
        have tx_10 : x_10.toInt = x_9.toInt + z2.toInt := i_add ex_10 rfl rfl (by omega) (by omega)
        refine ti_iald (ci := 9) (k := 4) (n := 360) C hw ob_0 (by decide) (fun _ _ => rfl) (vp_in_iff.mpr (by omega)) dX9_was_35 ?_
        refine lv_topi (fun x_11 ex_11 => ?_)
        exact hQ _ _ _ _ _ _ hw rfl (⟨hF, rfl, tl.refl⟩) dX9_was_36
      · exact hj_23_8  _ _ _  hw (lv_sub hl [0, 1, 2] rfl)
  · refine sb_if_eq (tgt := 23) hx hb (by decide : (0 : Int32).toInt = 0) dX9_was_5 (by decide) (fun c_5_4 => ?_) (fun h => absurd h (by decide))
    exact hj_23_8  _ _ _  hw (lv_sub hl [0, 1, 2] rfl)
set_option maxHeartbeats 4000000 in
set_option maxRecDepth 100000 in
theorem s_X9_ruled (l : Launch) (D : va_G) (A : Nat → Nat → Nat) (cy : Nat → ClassId) (hJ : ti_inj ti_LT A) (M : ti_M) (hI : cI Tc M) (hF : cF Tc M) (z1 : Int32) (z2 : Int32) : ti_Ki l yX9_ruled cX9_ruled 5 (some .int) 1 ti_LT D A cy M [.ref (A 0 0), .int z1, .int z2] (fun r M2 => cF Tc M2 ∧ tI M2 2 1 = tI M 2 1 ∧ tl M2 M) := by
  refine ti_eI yp_X9_ruled hJ ti_LT_nd (Nat.le_of_ble_eq_true rfl) ?_
  intro p e s m args below meth c Q H0 C hQ hw ls hl
  have hx := C.1
  have hb := C.2.1
  have hl : lv_has ls 5 [(0, .ref (A 0 0)), (1, .int z1), (2, .int z2)] := hl
  obtain ⟨-, ⟨t1, ht1, hT1⟩, ⟨t2, ht2, hT2⟩, ⟨t, ht, hT⟩, hS, hM⟩ := id hF
  refine lv_aload_n hx hb dX9_ruled_0 rfl (lv_at hl 0 rfl) ?_
  refine lv_iload_n hx hb dX9_ruled_1 rfl (lv_at hl 1 rfl) ?_
  refine ti_callVi (ci := 9) (av := [.int z1]) C hw (s_X9_isMan l D A cy hJ M hI t1 ht1 (hT1) z1) ⟨ml_X9_104, ym_X9_isMan, yv_X9_isMan, yi_X9_isMan, yc_X9_isMan⟩ yd_X9_isMan ob_0 (by decide) rfl rfl hl.1 (Nat.le_of_ble_eq_true rfl) ⟨by decide, by decide⟩ ⟨Nat.zero_le _, Nat.zero_le _⟩ dX9_ruled_2 (fun r_1 M_2 H locs hp_2 hw => ?_)
  obtain ⟨hm, hz⟩ := hp_2
  have hw := hw.to hm
  have hj_16_10 : ∀  (H : Heap) (locs : List Loc) (ls : Array Slot), ti_H ti_LT D A cy H0 M H locs → lv_has ls 5 [(0, .ref (A 0 0)), (1, .int z1), (2, .int z2)] → W p l e (ti_rm 1) s m args below meth c H locs 0 0 Q (F0 m 16 ls []) := by
    intro  H locs ls  hw hl
    refine lv_iconst (v := (-1)) hx hb dX9_ruled_16 (by decide) ?_
    exact hQ _ _ _ _ _ _ hw rfl (⟨hF, rfl, tl.refl⟩) dX9_ruled_17
  rcases hz with ⟨rfl, d1_3, d2_3⟩ | rfl
  · refine sb_if_eq (tgt := 16) hx hb (by decide : (1 : Int32).toInt = 1) dX9_ruled_5 (by decide) (fun h => absurd h (by decide)) (fun c_5_3 => ?_)
    refine lv_aload_n hx hb dX9_ruled_8 rfl (lv_at hl 0 rfl) ?_
    refine lv_iload_n hx hb dX9_ruled_9 rfl (lv_at hl 2 rfl) ?_
    refine ti_callVi (ci := 9) (av := [.int z2]) C hw (s_X9_isPower l D A cy hJ M hI z2) ⟨ml_X9_165, ym_X9_isPower, yv_X9_isPower, yi_X9_isPower, yc_X9_isPower⟩ yd_X9_isPower ob_0 (by decide) rfl rfl hl.1 (Nat.le_of_ble_eq_true rfl) ⟨by decide, by decide⟩ ⟨Nat.zero_le _, Nat.zero_le _⟩ dX9_ruled_10 (fun r_6 M_7 H locs hp_7 hw => ?_)
    obtain ⟨hm, hz⟩ := hp_7
    have hw := hw.to hm
    rcases hz with ⟨rfl, d1_8, d2_8⟩ | rfl
    · refine sb_if_ne (tgt := 18) hx hb (by decide : (1 : Int32).toInt = 1) dX9_ruled_13 (by decide) (fun c_13_8 => ?_) (fun h => absurd h (by decide))
      refine lv_iconst (v := 0) hx hb dX9_ruled_18 (by decide) ?_
      refine lv_istore_n (lv' := [(3, .int 0), (0, .ref (A 0 0)), (1, .int z1), (2, .int z2)]) hx hb dX9_ruled_19 rfl hl (by decide) rfl (fun ls hl => ?_)
      refine lv_iconst (v := 0) hx hb dX9_ruled_20 (by decide) ?_
      refine lv_istore (lv' := [(4, .int 0), (3, .int 0), (0, .ref (A 0 0)), (1, .int z1), (2, .int z2)]) hx hb dX9_ruled_21 hl (by decide) rfl (fun ls hl => ?_)
      have hl_23_14 : ∀ (n_15 : Nat) (x_11 : Int32) (x_14 : Int32) (H : Heap) (locs : List Loc) (ls : Array Slot), (120 - x_11.toInt : Int).toNat < n_15 → (0 ≤ x_11.toInt) → (x_11.toInt ≤ 120) → ti_H ti_LT D A cy H0 M H locs → lv_has ls 5 [(4, .int x_11), (3, .int x_14), (0, .ref (A 0 0)), (1, .int z1), (2, .int z2)] → W p l e (ti_rm 1) s m args below meth c H locs 0 0 Q (F0 m 23 ls []) := by
        intro n_15
        induction n_15 with
        | zero => intro x_11 x_14 H locs ls hf_15; exact absurd hf_15 (Nat.not_lt_zero _)
        | succ n_15 ih_15 =>
          intro x_11 x_14 H locs ls hf_15 b_12 b_13 hw hl
          refine lv_iload hx hb dX9_ruled_23 (lv_at hl 0 rfl) ?_
          refine lv_aload_n hx hb dX9_ruled_25 rfl (lv_at hl 2 rfl) ?_
          refine ti_get (ci := 9) (k := 3) (N := 10) (T := TX9) (v := .ref (A 27 0)) C hw iw_9 rfl ob_0 (by decide) (by decide) fl_X9_29 rfl rfl dX9_ruled_26 ?_
          refine ti_get (ci := 3) (k := 2) (N := 17) (T := TX3) C hw iw_3 rfl ob_27 (by decide) (by decide) fl_X9_186 rfl rfl dX9_ruled_29 ?_
          refine lv_topi (fun x_16 ex_16 => ?_)
          have bx_16 : 0 ≤ x_16.toInt ∧ x_16.toInt ≤ 120 := cI_rd hI ob_27.1 ex_16 (Or.inl rfl)
          have ux_16 : (tI M 27 2).toInt = x_16.toInt := by rw [ex_16]
          refine sb_icmp_ge (tgt := 60) hx hb rfl rfl dX9_ruled_32 (by decide) (fun c_32_16 => ?_) (fun c_32_16 => ?_)
          · refine lv_iload_n hx hb dX9_ruled_60 rfl (lv_at hl 1 rfl) ?_
            exact hQ _ _ _ _ _ _ hw rfl (⟨hF, rfl, tl.refl⟩) dX9_ruled_61
          · refine lv_aload_n hx hb dX9_ruled_35 rfl (lv_at hl 2 rfl) ?_
            refine ti_get (ci := 9) (k := 4) (N := 10) (T := TX9) (v := .ref (A 0 5)) C hw iw_9 rfl ob_0 (by decide) (by decide) fl_X9_33 rfl rfl dX9_ruled_36 ?_
            refine lv_iload_n hx hb dX9_ruled_39 rfl (lv_at hl 4 rfl) ?_
            refine lv_bipush (v := 120) hx hb dX9_ruled_40 (by decide) ?_
            refine lv_imul hx hb dX9_ruled_42 ?_
            refine lv_topi (fun x_18 ex_18 => ?_)
            have lox_18z2 := z2.le_toInt
            have hix_18z2 := z2.toInt_lt
            have tx_18 : x_18.toInt = z2.toInt * 120 := i_mul ex_18 rfl (by decide : (120 : Int32).toInt = 120) (by omega) (by omega)
            refine lv_iload hx hb dX9_ruled_43 (lv_at hl 0 rfl) ?_
            refine lv_iadd hx hb dX9_ruled_45 ?_
            refine lv_topi (fun x_19 ex_19 => ?_)
            have lox_19x_18 := x_18.le_toInt
            have hix_19x_18 := x_18.toInt_lt
            have lox_19x_11 := x_11.le_toInt
            have hix_19x_11 := x_11.toInt_lt
            have tx_19 : x_19.toInt = x_18.toInt + x_11.toInt := i_add ex_19 rfl rfl (by omega) (by omega)
            refine ti_iald (ci := 9) (k := 4) (n := 360) C hw ob_0 (by decide) (fun _ _ => rfl) (vp_in_iff.mpr (by omega)) dX9_ruled_46 ?_
            refine lv_topi (fun x_20 ex_20 => ?_)
            refine lv_iload_n hx hb dX9_ruled_47 rfl (lv_at hl 3 rfl) ?_
            have hj_54_23 : ∀ (x_23 : Int32) (H : Heap) (locs : List Loc) (ls : Array Slot), ti_H ti_LT D A cy H0 M H locs → lv_has ls 5 [(4, .int x_11), (3, .int x_23), (0, .ref (A 0 0)), (1, .int z1), (2, .int z2)] → W p l e (ti_rm 1) s m args below meth c H locs 0 0 Q (F0 m 54 ls []) := by
              intro x_23 H locs ls  hw hl
              obtain ⟨x_24, ex_24⟩ : ∃ z : Int32, z = x_11 + 1 := ⟨_, rfl⟩
              have tx_24 : x_24.toInt = x_11.toInt + 1 := i_add ex_24 rfl (by decide) (by omega) (by omega)
              refine lv_iinc (v := x_24) (lv' := [(4, .int x_24), (3, .int x_23), (0, .ref (A 0 0)), (1, .int z1), (2, .int z2)]) hx hb dX9_ruled_54 hl (k := 0) rfl (by rw [ex_24]; rfl) (by decide) rfl (fun ls hl => ?_)
              refine lv_goto (tgt := 23) hx hb dX9_ruled_57 (by decide) ?_
              exact ih_15 x_24 x_23 _ _ _ (by omega) (by first | omega | decide) (by first | omega | decide) hw (lv_sub hl [0, 1, 2, 3, 4] rfl)
            refine sb_icmp_ne (tgt := 54) hx hb rfl rfl dX9_ruled_48 (by decide) (fun c_48_20 => ?_) (fun c_48_20 => ?_)
            · exact hj_54_23 x_14 _ _ _  hw (lv_sub hl [0, 1, 2, 3, 4] rfl)
            · obtain ⟨x_22, ex_22⟩ : ∃ z : Int32, z = x_14 + 1 := ⟨_, rfl⟩
              refine lv_iinc (v := x_22) (lv' := [(3, .int x_22), (4, .int x_11), (0, .ref (A 0 0)), (1, .int z1), (2, .int z2)]) hx hb dX9_ruled_51 hl (k := 1) rfl (by rw [ex_22]; rfl) (by decide) rfl (fun ls hl => ?_)
              exact hj_54_23 x_22 _ _ _  hw (lv_sub hl [1, 0, 2, 3, 4] rfl)
      exact hl_23_14 ((120 - 0 : Int).toNat + 1) 0 0 _ _ _ (Nat.lt_succ_self _) (by have lt0 : (0 : Int32).toInt = 0 := (by decide); first | omega | decide) (by have lt0 : (0 : Int32).toInt = 0 := (by decide); first | omega | decide) hw (lv_sub hl [0, 1, 2, 3, 4] rfl)
    · refine sb_if_ne (tgt := 18) hx hb (by decide : (0 : Int32).toInt = 0) dX9_ruled_13 (by decide) (fun h => absurd h (by decide)) (fun c_13_9 => ?_)
      exact hj_16_10  _ _ _  hw (lv_sub hl [0, 1, 2] rfl)
  · refine sb_if_eq (tgt := 16) hx hb (by decide : (0 : Int32).toInt = 0) dX9_ruled_5 (by decide) (fun c_5_4 => ?_) (fun h => absurd h (by decide))
    exact hj_16_10  _ _ _  hw (lv_sub hl [0, 1, 2] rfl)
set_option maxHeartbeats 4000000 in
set_option maxRecDepth 100000 in
theorem s_X9_served (l : Launch) (D : va_G) (A : Nat → Nat → Nat) (cy : Nat → ClassId) (hJ : ti_inj ti_LT A) (M : ti_M) (hI : cI Tc M) (hF : cF Tc M) (za : Int32) : ti_Ki l yX9_served cX9_served 2 (some .int) 6 ti_LT D A cy M [.ref (A 0 0), .int za] (fun r M2 => cF Tc M2 ∧ tI M2 2 1 = tI M 2 1 ∧ tl M2 M) := by
  refine ti_eI yp_X9_served hJ ti_LT_nd (Nat.le_of_ble_eq_true rfl) ?_
  intro p e s m args below meth c Q H0 C hQ hw ls hl
  have hx := C.1
  have hb := C.2.1
  have hl : lv_has ls 2 [(0, .ref (A 0 0)), (1, .int za)] := hl
  obtain ⟨-, ⟨t1, ht1, hT1⟩, ⟨t2, ht2, hT2⟩, ⟨t, ht, hT⟩, hS, hM⟩ := id hF
  refine lv_aload_n hx hb dX9_served_0 rfl (lv_at hl 0 rfl) ?_
  refine lv_iload_n hx hb dX9_served_1 rfl (lv_at hl 1 rfl) ?_
  refine ti_callVi (ci := 9) (av := [.int za]) C hw (s_X9_isMan l D A cy hJ M hI t1 ht1 (hT1) za) ⟨ml_X9_104, ym_X9_isMan, yv_X9_isMan, yi_X9_isMan, yc_X9_isMan⟩ yd_X9_isMan ob_0 (by decide) rfl rfl hl.1 (Nat.le_of_ble_eq_true rfl) ⟨by decide, by decide⟩ ⟨Nat.zero_le _, Nat.zero_le _⟩ dX9_served_2 (fun r_1 M_2 H locs hp_2 hw => ?_)
  obtain ⟨hm, hz⟩ := hp_2
  have hw := hw.to hm
  rcases hz with ⟨rfl, d1_3, d2_3⟩ | rfl
  · refine sb_if_eq (tgt := 23) hx hb (by decide : (1 : Int32).toInt = 1) dX9_served_5 (by decide) (fun h => absurd h (by decide)) (fun c_5_3 => ?_)
    refine lv_aload_n hx hb dX9_served_8 rfl (lv_at hl 0 rfl) ?_
    refine ti_get (ci := 9) (k := 9) (N := 10) (T := TX9) (v := .ref (A 53 0)) C hw iw_9 rfl ob_0 (by decide) (by decide) fl_X9_61 rfl rfl dX9_served_9 ?_
    refine lv_aload_n hx hb dX9_served_12 rfl (lv_at hl 0 rfl) ?_
    refine ti_get (ci := 9) (k := 3) (N := 10) (T := TX9) (v := .ref (A 27 0)) C hw iw_9 rfl ob_0 (by decide) (by decide) fl_X9_29 rfl rfl dX9_served_13 ?_
    refine lv_iload_n hx hb dX9_served_16 rfl (lv_at hl 1 rfl) ?_
    refine ti_callVi (ci := 0) (av := [.ref (A 27 0), .int za]) C hw (s_X0_servedIn l D A cy hJ M hI t ht (hT) za (by first | omega | decide) (by first | omega | decide)) ⟨ml_X9_215, ym_X0_servedIn, yv_X0_servedIn, yi_X0_servedIn, yc_X0_servedIn⟩ yd_X0_servedIn ob_53 (by decide) rfl rfl hl.1 (Nat.le_of_ble_eq_true rfl) ⟨by decide, by decide⟩ ⟨Nat.zero_le _, Nat.zero_le _⟩ dX9_served_17 (fun r_6 M_7 H locs hp_7 hw => ?_)
    obtain ⟨iM_7, q_8, q_9⟩ := hp_7
    refine lv_goto (tgt := 24) hx hb dX9_served_20 (by decide) ?_
    exact hQ _ _ _ _ _ _ hw rfl (⟨(cF_fr hF iM_7 q_8 q_9), ((q_9 1).2.1), (tl_x q_9 (q_8 0 1 (by decide)) (q_8 0 2 (by decide)))⟩) dX9_served_24
  · refine sb_if_eq (tgt := 23) hx hb (by decide : (0 : Int32).toInt = 0) dX9_served_5 (by decide) (fun c_5_4 => ?_) (fun h => absurd h (by decide))
    refine lv_iconst (v := (-1)) hx hb dX9_served_23 (by decide) ?_
    exact hQ _ _ _ _ _ _ hw rfl (⟨hF, rfl, tl.refl⟩) dX9_served_24
set_option maxHeartbeats 4000000 in
set_option maxRecDepth 100000 in
theorem s_X9_coming (l : Launch) (D : va_G) (A : Nat → Nat → Nat) (cy : Nat → ClassId) (hJ : ti_inj ti_LT A) (M : ti_M) (hI : cI Tc M) (hF : cF Tc M) (z1 : Int32) (z2 : Int32) (z3 : Int32) : ti_Ki l yX9_coming cX9_coming 4 (some .int) 7 ti_LT D A cy M [.ref (A 0 0), .int z1, .int z2, .int z3] (fun r M2 => cF Tc M2 ∧ tI M2 2 1 = tI M 2 1 ∧ tl M2 M) := by
  refine ti_eI yp_X9_coming hJ ti_LT_nd (Nat.le_of_ble_eq_true rfl) ?_
  intro p e s m args below meth c Q H0 C hQ hw ls hl
  have hx := C.1
  have hb := C.2.1
  have hl : lv_has ls 4 [(0, .ref (A 0 0)), (1, .int z1), (2, .int z2), (3, .int z3)] := hl
  obtain ⟨-, ⟨t1, ht1, hT1⟩, ⟨t2, ht2, hT2⟩, ⟨t, ht, hT⟩, hS, hM⟩ := id hF
  refine lv_aload_n hx hb dX9_coming_0 rfl (lv_at hl 0 rfl) ?_
  refine lv_iload_n hx hb dX9_coming_1 rfl (lv_at hl 1 rfl) ?_
  refine ti_callVi (ci := 9) (av := [.int z1]) C hw (s_X9_isToCome l D A cy hJ M hI t1 ht1 (hT1) z1) ⟨ml_X9_195, ym_X9_isToCome, yv_X9_isToCome, yi_X9_isToCome, yc_X9_isToCome⟩ yd_X9_isToCome ob_0 (by decide) rfl rfl hl.1 (Nat.le_of_ble_eq_true rfl) ⟨by decide, by decide⟩ ⟨Nat.zero_le _, Nat.zero_le _⟩ dX9_coming_2 (fun r_1 M_2 H locs hp_2 hw => ?_)
  obtain ⟨hm, hz⟩ := hp_2
  have hw := hw.to hm
  have hj_33_13 : ∀  (H : Heap) (locs : List Loc) (ls : Array Slot), ti_H ti_LT D A cy H0 M H locs → lv_has ls 4 [(0, .ref (A 0 0)), (1, .int z1), (2, .int z2), (3, .int z3)] → W p l e (ti_rm 7) s m args below meth c H locs 0 0 Q (F0 m 33 ls []) := by
    intro  H locs ls  hw hl
    refine lv_iconst (v := (-1)) hx hb dX9_coming_33 (by decide) ?_
    exact hQ _ _ _ _ _ _ hw rfl (⟨hF, rfl, tl.refl⟩) dX9_coming_34
  rcases hz with ⟨rfl, d1_3, d2_3⟩ | rfl
  · refine sb_if_eq (tgt := 33) hx hb (by decide : (1 : Int32).toInt = 1) dX9_coming_5 (by decide) (fun h => absurd h (by decide)) (fun c_5_3 => ?_)
    refine lv_aload_n hx hb dX9_coming_8 rfl (lv_at hl 0 rfl) ?_
    refine lv_iload_n hx hb dX9_coming_9 rfl (lv_at hl 2 rfl) ?_
    refine ti_callVi (ci := 9) (av := [.int z2]) C hw (s_X9_isPlace l D A cy hJ M hI z2) ⟨ml_X9_159, ym_X9_isPlace, yv_X9_isPlace, yi_X9_isPlace, yc_X9_isPlace⟩ yd_X9_isPlace ob_0 (by decide) rfl rfl hl.1 (Nat.le_of_ble_eq_true rfl) ⟨by decide, by decide⟩ ⟨Nat.zero_le _, Nat.zero_le _⟩ dX9_coming_10 (fun r_6 M_7 H locs hp_7 hw => ?_)
    obtain ⟨hm, hz⟩ := hp_7
    have hw := hw.to hm
    rcases hz with ⟨rfl, d1_8, d2_8⟩ | rfl
    · refine sb_if_eq (tgt := 33) hx hb (by decide : (1 : Int32).toInt = 1) dX9_coming_13 (by decide) (fun h => absurd h (by decide)) (fun c_13_8 => ?_)
      refine lv_iload_n hx hb dX9_coming_16 rfl (lv_at hl 3 rfl) ?_
      refine lv_aload_n hx hb dX9_coming_17 rfl (lv_at hl 0 rfl) ?_
      refine ti_get (ci := 9) (k := 3) (N := 10) (T := TX9) (v := .ref (A 27 0)) C hw iw_9 rfl ob_0 (by decide) (by decide) fl_X9_29 rfl rfl dX9_coming_18 ?_
      refine ti_get (ci := 3) (k := 2) (N := 17) (T := TX3) C hw iw_3 rfl ob_27 (by decide) (by decide) fl_X9_186 rfl rfl dX9_coming_21 ?_
      refine lv_topi (fun x_11 ex_11 => ?_)
      have bx_11 : 0 ≤ x_11.toInt ∧ x_11.toInt ≤ 120 := cI_rd hI ob_27.1 ex_11 (Or.inl rfl)
      have ux_11 : (tI M 27 2).toInt = x_11.toInt := by rw [ex_11]
      refine sb_icmp_lt (tgt := 33) hx hb rfl rfl dX9_coming_24 (by decide) (fun c_24_11 => ?_) (fun c_24_11 => ?_)
      · exact hj_33_13  _ _ _  hw (lv_sub hl [0, 1, 2, 3] rfl)
      · refine lv_iload_n hx hb dX9_coming_27 rfl (lv_at hl 3 rfl) ?_
        refine lv_bipush (v := 120) hx hb dX9_coming_28 (by decide) ?_
        refine sb_icmp_lt (tgt := 35) hx hb rfl (by decide : (120 : Int32).toInt = 120) dX9_coming_30 (by decide) (fun c_30_12 => ?_) (fun c_30_12 => ?_)
        · refine lv_aload_n hx hb dX9_coming_35 rfl (lv_at hl 0 rfl) ?_
          refine ti_get (ci := 9) (k := 9) (N := 10) (T := TX9) (v := .ref (A 53 0)) C hw iw_9 rfl ob_0 (by decide) (by decide) fl_X9_61 rfl rfl dX9_coming_36 ?_
          refine lv_aload_n hx hb dX9_coming_39 rfl (lv_at hl 0 rfl) ?_
          refine ti_get (ci := 9) (k := 3) (N := 10) (T := TX9) (v := .ref (A 27 0)) C hw iw_9 rfl ob_0 (by decide) (by decide) fl_X9_29 rfl rfl dX9_coming_40 ?_
          refine lv_iload_n hx hb dX9_coming_43 rfl (lv_at hl 1 rfl) ?_
          refine lv_iload_n hx hb dX9_coming_44 rfl (lv_at hl 2 rfl) ?_
          refine lv_iload_n hx hb dX9_coming_45 rfl (lv_at hl 3 rfl) ?_
          refine ti_callVi (ci := 0) (av := [.ref (A 27 0), .int z1, .int z2, .int z3]) C hw (s_X0_firstToCome l D A cy hJ M hI t ht (hT) z1 (by first | omega | decide) (by first | omega | decide) z2 z3 (by first | omega | decide) (by first | omega | decide)) ⟨ml_X9_219, ym_X0_firstToCome, yv_X0_firstToCome, yi_X0_firstToCome, yc_X0_firstToCome⟩ yd_X0_firstToCome ob_53 (by decide) rfl rfl hl.1 (Nat.le_of_ble_eq_true rfl) ⟨by decide, by decide⟩ ⟨Nat.zero_le _, Nat.zero_le _⟩ dX9_coming_46 (fun r_14 M_15 H locs hp_15 hw => ?_)
          obtain ⟨iM_15, q_16, q_17⟩ := hp_15
          exact hQ _ _ _ _ _ _ hw rfl (⟨(cF_fr hF iM_15 q_16 q_17), ((q_17 1).2.1), (tl_x q_17 (q_16 0 1 (by decide)) (q_16 0 2 (by decide)))⟩) dX9_coming_49
        · exact hj_33_13  _ _ _  hw (lv_sub hl [0, 1, 2, 3] rfl)
    · refine sb_if_eq (tgt := 33) hx hb (by decide : (0 : Int32).toInt = 0) dX9_coming_13 (by decide) (fun c_13_9 => ?_) (fun h => absurd h (by decide))
      exact hj_33_13  _ _ _  hw (lv_sub hl [0, 1, 2, 3] rfl)
  · refine sb_if_eq (tgt := 33) hx hb (by decide : (0 : Int32).toInt = 0) dX9_coming_5 (by decide) (fun c_5_4 => ?_) (fun h => absurd h (by decide))
    exact hj_33_13  _ _ _  hw (lv_sub hl [0, 1, 2, 3] rfl)
set_option maxHeartbeats 4000000 in
set_option maxRecDepth 100000 in
theorem s_X9_decree (l : Launch) (D : va_G) (A : Nat → Nat → Nat) (cy : Nat → ClassId) (hJ : ti_inj ti_LT A) (M : ti_M) (hI : cI Tc M) (hF : cF Tc M) (z1 : Int32) (z2 : Int32) (z3 : Int32) : ti_Ki l yX9_decree cX9_decree 4 (some .int) 3 ti_LT D A cy M [.ref (A 0 0), .int z1, .int z2, .int z3] (fun r M2 => cF Tc M2 ∧ tI M2 2 1 = tI M 2 1 ∧ tl M2 M) := by
  refine ti_eI yp_X9_decree hJ ti_LT_nd (Nat.le_of_ble_eq_true rfl) ?_
  intro p e s m args below meth c Q H0 C hQ hw ls hl
  have hx := C.1
  have hb := C.2.1
  have hl : lv_has ls 4 [(0, .ref (A 0 0)), (1, .int z1), (2, .int z2), (3, .int z3)] := hl
  obtain ⟨-, ⟨t1, ht1, hT1⟩, ⟨t2, ht2, hT2⟩, ⟨t, ht, hT⟩, hS, hM⟩ := id hF
  refine lv_iload_n hx hb dX9_decree_0 rfl (lv_at hl 1 rfl) ?_
  refine lv_iconst (v := 1) hx hb dX9_decree_1 (by decide) ?_
  have hj_28_7 : ∀  (H : Heap) (locs : List Loc) (ls : Array Slot), ti_H ti_LT D A cy H0 M H locs → lv_has ls 4 [(0, .ref (A 0 0)), (1, .int z1), (2, .int z2), (3, .int z3)] → W p l e (ti_rm 3) s m args below meth c H locs 0 0 Q (F0 m 28 ls []) := by
    intro  H locs ls  hw hl
    refine lv_iconst (v := (-1)) hx hb dX9_decree_28 (by decide) ?_
    exact hQ _ _ _ _ _ _ hw rfl (⟨hF, rfl, tl.refl⟩) dX9_decree_29
  refine sb_icmp_lt (tgt := 28) hx hb rfl (by decide : (1 : Int32).toInt = 1) dX9_decree_2 (by decide) (fun c_2_0 => ?_) (fun c_2_0 => ?_)
  · exact hj_28_7  _ _ _  hw (lv_sub hl [0, 1, 2, 3] rfl)
  · refine lv_iload_n hx hb dX9_decree_5 rfl (lv_at hl 1 rfl) ?_
    refine lv_bipush (v := 8) hx hb dX9_decree_6 (by decide) ?_
    refine sb_icmp_gt (tgt := 28) hx hb rfl (by decide : (8 : Int32).toInt = 8) dX9_decree_8 (by decide) (fun c_8_1 => ?_) (fun c_8_1 => ?_)
    · exact hj_28_7  _ _ _  hw (lv_sub hl [0, 1, 2, 3] rfl)
    · refine lv_iload_n hx hb dX9_decree_11 rfl (lv_at hl 2 rfl) ?_
      refine sb_if_lt (tgt := 28) hx hb rfl dX9_decree_12 (by decide) (fun c_12_2 => ?_) (fun c_12_2 => ?_)
      · exact hj_28_7  _ _ _  hw (lv_sub hl [0, 1, 2, 3] rfl)
      · refine lv_iload_n hx hb dX9_decree_15 rfl (lv_at hl 2 rfl) ?_
        refine lv_iload_n hx hb dX9_decree_16 rfl (lv_at hl 1 rfl) ?_
        refine sb_icmp_gt (tgt := 28) hx hb rfl rfl dX9_decree_17 (by decide) (fun c_17_3 => ?_) (fun c_17_3 => ?_)
        · exact hj_28_7  _ _ _  hw (lv_sub hl [0, 1, 2, 3] rfl)
        · refine lv_aload_n hx hb dX9_decree_20 rfl (lv_at hl 0 rfl) ?_
          refine lv_iload_n hx hb dX9_decree_21 rfl (lv_at hl 3 rfl) ?_
          refine ti_callVi (ci := 9) (av := [.int z3]) C hw (s_X9_isZeroOrOne l D A cy hJ M hI z3) ⟨ml_X9_223, ym_X9_isZeroOrOne, yv_X9_isZeroOrOne, yi_X9_isZeroOrOne, yc_X9_isZeroOrOne⟩ yd_X9_isZeroOrOne ob_0 (by decide) rfl rfl hl.1 (Nat.le_of_ble_eq_true rfl) ⟨by decide, by decide⟩ ⟨Nat.zero_le _, Nat.zero_le _⟩ dX9_decree_22 (fun r_5 M_6 H locs hp_6 hw => ?_)
          have hm := hp_6
          have hw := hw.to hm
          refine sb_if_ne (tgt := 30) hx hb rfl dX9_decree_25 (by decide) (fun c_25_6 => ?_) (fun c_25_6 => ?_)
          · refine lv_aload_n hx hb dX9_decree_30 rfl (lv_at hl 0 rfl) ?_
            refine ti_get (ci := 9) (k := 9) (N := 10) (T := TX9) (v := .ref (A 53 0)) C hw iw_9 rfl ob_0 (by decide) (by decide) fl_X9_61 rfl rfl dX9_decree_31 ?_
            refine lv_aload_n hx hb dX9_decree_34 rfl (lv_at hl 0 rfl) ?_
            refine ti_get (ci := 9) (k := 3) (N := 10) (T := TX9) (v := .ref (A 27 0)) C hw iw_9 rfl ob_0 (by decide) (by decide) fl_X9_29 rfl rfl dX9_decree_35 ?_
            refine lv_iload_n hx hb dX9_decree_38 rfl (lv_at hl 1 rfl) ?_
            refine lv_iload_n hx hb dX9_decree_39 rfl (lv_at hl 2 rfl) ?_
            refine lv_iload_n hx hb dX9_decree_40 rfl (lv_at hl 3 rfl) ?_
            refine ti_callVi (ci := 0) (av := [.ref (A 27 0), .int z1, .int z2, .int z3]) C hw (s_X0_bribes l D A cy hJ M hI t ht (hT) z1 z2 z3) ⟨ml_X9_226, ym_X0_bribes, yv_X0_bribes, yi_X0_bribes, yc_X0_bribes⟩ yd_X0_bribes ob_53 (by decide) rfl rfl hl.1 (Nat.le_of_ble_eq_true rfl) ⟨by decide, by decide⟩ ⟨Nat.zero_le _, Nat.zero_le _⟩ dX9_decree_41 (fun r_8 M_9 H locs hp_9 hw => ?_)
            have hm := hp_9
            have hw := hw.to hm
            exact hQ _ _ _ _ _ _ hw rfl (⟨hF, rfl, tl.refl⟩) dX9_decree_44
          · exact hj_28_7  _ _ _  hw (lv_sub hl [0, 1, 2, 3] rfl)
set_option maxHeartbeats 4000000 in
set_option maxRecDepth 100000 in
theorem s_X9_coup (l : Launch) (D : va_G) (A : Nat → Nat → Nat) (cy : Nat → ClassId) (hJ : ti_inj ti_LT A) (M : ti_M) (hI : cI Tc M) (hF : cF Tc M) : ti_Ki l yX9_coup cX9_coup 1 (some .int) 4 ti_LT D A cy M [.ref (A 0 0)] (fun r M2 => cF Tc M2 ∧ tI M2 2 1 = tI M 2 1 ∧ tl M2 M) := by
  refine ti_eI yp_X9_coup hJ ti_LT_nd (Nat.le_of_ble_eq_true rfl) ?_
  intro p e s m args below meth c Q H0 C hQ hw ls hl
  have hx := C.1
  have hb := C.2.1
  have hl : lv_has ls 1 [(0, .ref (A 0 0))] := hl
  obtain ⟨-, ⟨t1, ht1, hT1⟩, ⟨t2, ht2, hT2⟩, ⟨t, ht, hT⟩, hS, hM⟩ := id hF
  refine lv_aload_n hx hb dX9_coup_0 rfl (lv_at hl 0 rfl) ?_
  refine ti_get (ci := 9) (k := 3) (N := 10) (T := TX9) (v := .ref (A 27 0)) C hw iw_9 rfl ob_0 (by decide) (by decide) fl_X9_29 rfl rfl dX9_coup_1 ?_
  refine ti_get (ci := 3) (k := 3) (N := 17) (T := TX3) C hw iw_3 rfl ob_27 (by decide) (by decide) fl_X9_179 rfl rfl dX9_coup_4 ?_
  refine lv_topi (fun x_1 ex_1 => ?_)
  have bx_1 : 0 ≤ x_1.toInt ∧ x_1.toInt ≤ 8 := cI_rd hI ob_27.1 ex_1
  have ux_1 : (tI M 27 3).toInt = x_1.toInt := by rw [ex_1]
  refine sb_if_ne (tgt := 14) hx hb rfl dX9_coup_7 (by decide) (fun c_7_1 => ?_) (fun c_7_1 => ?_)
  · refine lv_aload_n hx hb dX9_coup_14 rfl (lv_at hl 0 rfl) ?_
    refine ti_get (ci := 9) (k := 9) (N := 10) (T := TX9) (v := .ref (A 53 0)) C hw iw_9 rfl ob_0 (by decide) (by decide) fl_X9_61 rfl rfl dX9_coup_15 ?_
    refine lv_aload_n hx hb dX9_coup_18 rfl (lv_at hl 0 rfl) ?_
    refine ti_get (ci := 9) (k := 3) (N := 10) (T := TX9) (v := .ref (A 27 0)) C hw iw_9 rfl ob_0 (by decide) (by decide) fl_X9_29 rfl rfl dX9_coup_19 ?_
    refine ti_callVi (ci := 0) (av := [.ref (A 27 0)]) C hw (s_X0_plotters l D A cy hJ M hI t ht (hT)) ⟨ml_X9_229, ym_X0_plotters, yv_X0_plotters, yi_X0_plotters, yc_X0_plotters⟩ yd_X0_plotters ob_53 (by decide) rfl rfl hl.1 (Nat.le_of_ble_eq_true rfl) ⟨by decide, by decide⟩ ⟨Nat.zero_le _, Nat.zero_le _⟩ dX9_coup_22 (fun r_3 M_4 H locs hp_4 hw => ?_)
    obtain ⟨iM_4, q_5, q_6⟩ := hp_4
    exact hQ _ _ _ _ _ _ hw rfl (⟨(cF_fr hF iM_4 q_5 q_6), ((q_6 1).2.1), (tl_x q_6 (q_5 0 1 (by decide)) (q_5 0 2 (by decide)))⟩) dX9_coup_25
  · refine lv_iconst (v := (-1)) hx hb dX9_coup_10 (by decide) ?_
    refine lv_goto (tgt := 25) hx hb dX9_coup_11 (by decide) ?_
    exact hQ _ _ _ _ _ _ hw rfl (⟨hF, rfl, tl.refl⟩) dX9_coup_25
set_option maxHeartbeats 4000000 in
set_option maxRecDepth 100000 in
theorem s_X9_rests (l : Launch) (D : va_G) (A : Nat → Nat → Nat) (cy : Nat → ClassId) (hJ : ti_inj ti_LT A) (M : ti_M) (hI : cI Tc M) (hF : cF Tc M) (z1 : Int32) (z2 : Int32) (z3 : Int32) : ti_Ki l yX9_rests cX9_rests 4 (some .int) 7 ti_LT D A cy M [.ref (A 0 0), .int z1, .int z2, .int z3] (fun r M2 => cF Tc M2 ∧ tI M2 2 1 = tI M 2 1 ∧ tl M2 M) := by
  refine ti_eI yp_X9_rests hJ ti_LT_nd (Nat.le_of_ble_eq_true rfl) ?_
  intro p e s m args below meth c Q H0 C hQ hw ls hl
  have hx := C.1
  have hb := C.2.1
  have hl : lv_has ls 4 [(0, .ref (A 0 0)), (1, .int z1), (2, .int z2), (3, .int z3)] := hl
  obtain ⟨-, ⟨t1, ht1, hT1⟩, ⟨t2, ht2, hT2⟩, ⟨t, ht, hT⟩, hS, hM⟩ := id hF
  refine lv_aload_n hx hb dX9_rests_0 rfl (lv_at hl 0 rfl) ?_
  refine lv_iload_n hx hb dX9_rests_1 rfl (lv_at hl 1 rfl) ?_
  refine lv_iload_n hx hb dX9_rests_2 rfl (lv_at hl 2 rfl) ?_
  refine lv_iload_n hx hb dX9_rests_3 rfl (lv_at hl 3 rfl) ?_
  refine ti_callVi (ci := 9) (av := [.int z1, .int z2, .int z3]) C hw (s_X9_isGame l D A cy hJ M hI t1 ht1 (hT1) z1 z2 z3) ⟨ml_X9_233, ym_X9_isGame, yv_X9_isGame, yi_X9_isGame, yc_X9_isGame⟩ yd_X9_isGame ob_0 (by decide) rfl rfl hl.1 (Nat.le_of_ble_eq_true rfl) ⟨by decide, by decide⟩ ⟨Nat.zero_le _, Nat.zero_le _⟩ dX9_rests_4 (fun r_1 M_2 H locs hp_2 hw => ?_)
  obtain ⟨hm, hz⟩ := hp_2
  have hw := hw.to hm
  rcases hz with ⟨rfl, d1_3, d2_3, d3_3, d4_3⟩ | rfl
  · refine sb_if_ne (tgt := 12) hx hb (by decide : (1 : Int32).toInt = 1) dX9_rests_7 (by decide) (fun c_7_3 => ?_) (fun h => absurd h (by decide))
    refine lv_aload_n hx hb dX9_rests_12 rfl (lv_at hl 0 rfl) ?_
    refine ti_get (ci := 9) (k := 9) (N := 10) (T := TX9) (v := .ref (A 53 0)) C hw iw_9 rfl ob_0 (by decide) (by decide) fl_X9_61 rfl rfl dX9_rests_13 ?_
    refine lv_aload_n hx hb dX9_rests_16 rfl (lv_at hl 0 rfl) ?_
    refine ti_get (ci := 9) (k := 3) (N := 10) (T := TX9) (v := .ref (A 27 0)) C hw iw_9 rfl ob_0 (by decide) (by decide) fl_X9_29 rfl rfl dX9_rests_17 ?_
    refine lv_iload_n hx hb dX9_rests_20 rfl (lv_at hl 1 rfl) ?_
    refine lv_iload_n hx hb dX9_rests_21 rfl (lv_at hl 2 rfl) ?_
    refine lv_iload_n hx hb dX9_rests_22 rfl (lv_at hl 3 rfl) ?_
    refine ti_callVv (ci := 0) (av := [.ref (A 27 0), .int z1, .int z2, .int z3]) C hw (s_X0_play l D A cy hJ M hI t ht (hT) z1 z2 z3 (by first | omega | decide) (by first | omega | decide) (by first | omega | decide) (by first | omega | decide)) ⟨ml_X9_237, ym_X0_play, yv_X0_play, yi_X0_play, yc_X0_play⟩ yd_X0_play ob_53 (by decide) rfl rfl hl.1 (Nat.le_of_ble_eq_true rfl) ⟨by decide, by decide⟩ ⟨Nat.zero_le _, Nat.zero_le _⟩ dX9_rests_23 (fun M_7 H locs hp_7 hw => ?_)
    obtain ⟨iM_7, q_8, q_9⟩ := hp_7
    refine lv_aload_n hx hb dX9_rests_26 rfl (lv_at hl 0 rfl) ?_
    refine ti_get (ci := 9) (k := 9) (N := 10) (T := TX9) (v := .ref (A 53 0)) C hw iw_9 rfl ob_0 (by decide) (by decide) fl_X9_61 rfl rfl dX9_rests_27 ?_
    refine ti_get (ci := 0) (k := 5) (N := 6) (T := TX0) C hw iw_0 rfl ob_53 (by decide) (by decide) fl_X9_241 rfl rfl dX9_rests_30 ?_
    refine lv_topi (fun x_10 ex_10 => ?_)
    have bx_10 : 0 ≤ x_10.toInt ∧ x_10.toInt ≤ 16 := cI_rd iM_7 ob_53.1 ex_10
    have ux_10 : (tI M_7 53 5).toInt = x_10.toInt := by rw [ex_10]
    exact hQ _ _ _ _ _ _ hw rfl (⟨(cF_fr hF iM_7 q_8 q_9), ((q_9 1).2.1), (tl_x q_9 (q_8 0 1 (by decide)) (q_8 0 2 (by decide)))⟩) dX9_rests_33
  · refine sb_if_ne (tgt := 12) hx hb (by decide : (0 : Int32).toInt = 0) dX9_rests_7 (by decide) (fun h => absurd h (by decide)) (fun c_7_4 => ?_)
    refine lv_iconst (v := (-1)) hx hb dX9_rests_10 (by decide) ?_
    exact hQ _ _ _ _ _ _ hw rfl (⟨hF, rfl, tl.refl⟩) dX9_rests_11
set_option maxHeartbeats 4000000 in
set_option maxRecDepth 100000 in
theorem s_X9_rest (l : Launch) (D : va_G) (A : Nat → Nat → Nat) (cy : Nat → ClassId) (hJ : ti_inj ti_LT A) (M : ti_M) (hI : cI Tc M) (hF : cF Tc M) (z1 : Int32) (z2 : Int32) (z3 : Int32) (z4 : Int32) : ti_Ki l yX9_rest cX9_rest 5 (some .int) 7 ti_LT D A cy M [.ref (A 0 0), .int z1, .int z2, .int z3, .int z4] (fun r M2 => cF Tc M2 ∧ tI M2 2 1 = tI M 2 1 ∧ tl M2 M) := by
  refine ti_eI yp_X9_rest hJ ti_LT_nd (Nat.le_of_ble_eq_true rfl) ?_
  intro p e s m args below meth c Q H0 C hQ hw ls hl
  have hx := C.1
  have hb := C.2.1
  have hl : lv_has ls 5 [(0, .ref (A 0 0)), (1, .int z1), (2, .int z2), (3, .int z3), (4, .int z4)] := hl
  obtain ⟨-, ⟨t1, ht1, hT1⟩, ⟨t2, ht2, hT2⟩, ⟨t, ht, hT⟩, hS, hM⟩ := id hF
  refine lv_aload_n hx hb dX9_rest_0 rfl (lv_at hl 0 rfl) ?_
  refine lv_iload_n hx hb dX9_rest_1 rfl (lv_at hl 1 rfl) ?_
  refine lv_iload_n hx hb dX9_rest_2 rfl (lv_at hl 2 rfl) ?_
  refine lv_iload_n hx hb dX9_rest_3 rfl (lv_at hl 3 rfl) ?_
  refine ti_callVi (ci := 9) (av := [.int z1, .int z2, .int z3]) C hw (s_X9_isGame l D A cy hJ M hI t1 ht1 (hT1) z1 z2 z3) ⟨ml_X9_233, ym_X9_isGame, yv_X9_isGame, yi_X9_isGame, yc_X9_isGame⟩ yd_X9_isGame ob_0 (by decide) rfl rfl hl.1 (Nat.le_of_ble_eq_true rfl) ⟨by decide, by decide⟩ ⟨Nat.zero_le _, Nat.zero_le _⟩ dX9_rest_4 (fun r_1 M_2 H locs hp_2 hw => ?_)
  obtain ⟨hm, hz⟩ := hp_2
  have hw := hw.to hm
  have hj_15_6 : ∀  (H : Heap) (locs : List Loc) (ls : Array Slot), ti_H ti_LT D A cy H0 M H locs → lv_has ls 5 [(0, .ref (A 0 0)), (1, .int z1), (2, .int z2), (3, .int z3), (4, .int z4)] → W p l e (ti_rm 7) s m args below meth c H locs 0 0 Q (F0 m 15 ls []) := by
    intro  H locs ls  hw hl
    refine lv_iconst (v := (-1)) hx hb dX9_rest_15 (by decide) ?_
    exact hQ _ _ _ _ _ _ hw rfl (⟨hF, rfl, tl.refl⟩) dX9_rest_16
  rcases hz with ⟨rfl, d1_3, d2_3, d3_3, d4_3⟩ | rfl
  · refine sb_if_eq (tgt := 15) hx hb (by decide : (1 : Int32).toInt = 1) dX9_rest_7 (by decide) (fun h => absurd h (by decide)) (fun c_7_3 => ?_)
    refine lv_iload hx hb dX9_rest_10 (lv_at hl 4 rfl) ?_
    refine sb_if_ge (tgt := 17) hx hb rfl dX9_rest_12 (by decide) (fun c_12_5 => ?_) (fun c_12_5 => ?_)
    · refine lv_aload_n hx hb dX9_rest_17 rfl (lv_at hl 0 rfl) ?_
      refine ti_get (ci := 9) (k := 9) (N := 10) (T := TX9) (v := .ref (A 53 0)) C hw iw_9 rfl ob_0 (by decide) (by decide) fl_X9_61 rfl rfl dX9_rest_18 ?_
      refine lv_aload_n hx hb dX9_rest_21 rfl (lv_at hl 0 rfl) ?_
      refine ti_get (ci := 9) (k := 3) (N := 10) (T := TX9) (v := .ref (A 27 0)) C hw iw_9 rfl ob_0 (by decide) (by decide) fl_X9_29 rfl rfl dX9_rest_22 ?_
      refine lv_iload_n hx hb dX9_rest_25 rfl (lv_at hl 1 rfl) ?_
      refine lv_iload_n hx hb dX9_rest_26 rfl (lv_at hl 2 rfl) ?_
      refine lv_iload_n hx hb dX9_rest_27 rfl (lv_at hl 3 rfl) ?_
      refine ti_callVv (ci := 0) (av := [.ref (A 27 0), .int z1, .int z2, .int z3]) C hw (s_X0_play l D A cy hJ M hI t ht (hT) z1 z2 z3 (by first | omega | decide) (by first | omega | decide) (by first | omega | decide) (by first | omega | decide)) ⟨ml_X9_237, ym_X0_play, yv_X0_play, yi_X0_play, yc_X0_play⟩ yd_X0_play ob_53 (by decide) rfl rfl hl.1 (Nat.le_of_ble_eq_true rfl) ⟨by decide, by decide⟩ ⟨Nat.zero_le _, Nat.zero_le _⟩ dX9_rest_28 (fun M_8 H locs hp_8 hw => ?_)
      obtain ⟨iM_8, q_9, q_10⟩ := hp_8
      refine lv_iload hx hb dX9_rest_31 (lv_at hl 4 rfl) ?_
      refine lv_aload_n hx hb dX9_rest_33 rfl (lv_at hl 0 rfl) ?_
      refine ti_get (ci := 9) (k := 9) (N := 10) (T := TX9) (v := .ref (A 53 0)) C hw iw_9 rfl ob_0 (by decide) (by decide) fl_X9_61 rfl rfl dX9_rest_34 ?_
      refine ti_get (ci := 0) (k := 5) (N := 6) (T := TX0) C hw iw_0 rfl ob_53 (by decide) (by decide) fl_X9_241 rfl rfl dX9_rest_37 ?_
      refine lv_topi (fun x_11 ex_11 => ?_)
      have bx_11 : 0 ≤ x_11.toInt ∧ x_11.toInt ≤ 16 := cI_rd iM_8 ob_53.1 ex_11
      have ux_11 : (tI M_8 53 5).toInt = x_11.toInt := by rw [ex_11]
      refine sb_icmp_ge (tgt := 56) hx hb rfl rfl dX9_rest_40 (by decide) (fun c_40_11 => ?_) (fun c_40_11 => ?_)
      · refine lv_bipush (v := (-2)) hx hb dX9_rest_56 (by decide) ?_
        exact hQ _ _ _ _ _ _ hw rfl (⟨(cF_fr hF iM_8 q_9 q_10), ((q_10 1).2.1), (tl_x q_10 (q_9 0 1 (by decide)) (q_9 0 2 (by decide)))⟩) dX9_rest_58
      · refine lv_aload_n hx hb dX9_rest_43 rfl (lv_at hl 0 rfl) ?_
        refine ti_get (ci := 9) (k := 9) (N := 10) (T := TX9) (v := .ref (A 53 0)) C hw iw_9 rfl ob_0 (by decide) (by decide) fl_X9_61 rfl rfl dX9_rest_44 ?_
        refine ti_get (ci := 0) (k := 4) (N := 6) (T := TX0) (v := .ref (A 53 5)) C hw iw_0 rfl ob_53 (by decide) (by decide) fl_X9_244 rfl rfl dX9_rest_47 ?_
        refine lv_iload hx hb dX9_rest_50 (lv_at hl 4 rfl) ?_
        refine ti_iald (ci := 0) (k := 4) (n := 16) C hw ob_53 (by decide) (fun _ _ => rfl) (vp_in_iff.mpr (by omega)) dX9_rest_52 ?_
        refine lv_topi (fun x_13 ex_13 => ?_)
        refine lv_goto (tgt := 58) hx hb dX9_rest_53 (by decide) ?_
        exact hQ _ _ _ _ _ _ hw rfl (⟨(cF_fr hF iM_8 q_9 q_10), ((q_10 1).2.1), (tl_x q_10 (q_9 0 1 (by decide)) (q_9 0 2 (by decide)))⟩) dX9_rest_58
    · exact hj_15_6  _ _ _  hw (lv_sub hl [0, 1, 2, 3, 4] rfl)
  · refine sb_if_eq (tgt := 15) hx hb (by decide : (0 : Int32).toInt = 0) dX9_rest_7 (by decide) (fun c_7_4 => ?_) (fun h => absurd h (by decide))
    exact hj_15_6  _ _ _  hw (lv_sub hl [0, 1, 2, 3, 4] rfl)
set_option maxHeartbeats 4000000 in
set_option maxRecDepth 100000 in
theorem s_X9_best (l : Launch) (D : va_G) (A : Nat → Nat → Nat) (cy : Nat → ClassId) (hJ : ti_inj ti_LT A) (M : ti_M) (hI : cI Tc M) (hF : cF Tc M) (z1 : Int32) (z2 : Int32) (z3 : Int32) (z4 : Int32) : ti_Ki l yX9_best cX9_best 5 (some .int) 7 ti_LT D A cy M [.ref (A 0 0), .int z1, .int z2, .int z3, .int z4] (fun r M2 => cF Tc M2 ∧ tI M2 2 1 = tI M 2 1 ∧ tl M2 M) := by
  refine ti_eI yp_X9_best hJ ti_LT_nd (Nat.le_of_ble_eq_true rfl) ?_
  intro p e s m args below meth c Q H0 C hQ hw ls hl
  have hx := C.1
  have hb := C.2.1
  have hl : lv_has ls 5 [(0, .ref (A 0 0)), (1, .int z1), (2, .int z2), (3, .int z3), (4, .int z4)] := hl
  obtain ⟨-, ⟨t1, ht1, hT1⟩, ⟨t2, ht2, hT2⟩, ⟨t, ht, hT⟩, hS, hM⟩ := id hF
  refine lv_aload_n hx hb dX9_best_0 rfl (lv_at hl 0 rfl) ?_
  refine lv_iload_n hx hb dX9_best_1 rfl (lv_at hl 1 rfl) ?_
  refine ti_callVi (ci := 9) (av := [.int z1]) C hw (s_X9_isPower l D A cy hJ M hI z1) ⟨ml_X9_165, ym_X9_isPower, yv_X9_isPower, yi_X9_isPower, yc_X9_isPower⟩ yd_X9_isPower ob_0 (by decide) rfl rfl hl.1 (Nat.le_of_ble_eq_true rfl) ⟨by decide, by decide⟩ ⟨Nat.zero_le _, Nat.zero_le _⟩ dX9_best_2 (fun r_1 M_2 H locs hp_2 hw => ?_)
  obtain ⟨hm, hz⟩ := hp_2
  have hw := hw.to hm
  have hj_34_16 : ∀  (H : Heap) (locs : List Loc) (ls : Array Slot), ti_H ti_LT D A cy H0 M H locs → lv_has ls 5 [(0, .ref (A 0 0)), (1, .int z1), (2, .int z2), (3, .int z3), (4, .int z4)] → W p l e (ti_rm 7) s m args below meth c H locs 0 0 Q (F0 m 34 ls []) := by
    intro  H locs ls  hw hl
    refine lv_iconst (v := (-1)) hx hb dX9_best_34 (by decide) ?_
    exact hQ _ _ _ _ _ _ hw rfl (⟨hF, rfl, tl.refl⟩) dX9_best_35
  rcases hz with ⟨rfl, d1_3, d2_3⟩ | rfl
  · refine sb_if_eq (tgt := 34) hx hb (by decide : (1 : Int32).toInt = 1) dX9_best_5 (by decide) (fun h => absurd h (by decide)) (fun c_5_3 => ?_)
    refine lv_aload_n hx hb dX9_best_8 rfl (lv_at hl 0 rfl) ?_
    refine lv_iload_n hx hb dX9_best_9 rfl (lv_at hl 2 rfl) ?_
    refine ti_callVi (ci := 9) (av := [.int z2]) C hw (s_X9_isMan l D A cy hJ M hI t1 ht1 (hT1) z2) ⟨ml_X9_104, ym_X9_isMan, yv_X9_isMan, yi_X9_isMan, yc_X9_isMan⟩ yd_X9_isMan ob_0 (by decide) rfl rfl hl.1 (Nat.le_of_ble_eq_true rfl) ⟨by decide, by decide⟩ ⟨Nat.zero_le _, Nat.zero_le _⟩ dX9_best_10 (fun r_6 M_7 H locs hp_7 hw => ?_)
    obtain ⟨hm, hz⟩ := hp_7
    have hw := hw.to hm
    rcases hz with ⟨rfl, d1_8, d2_8⟩ | rfl
    · refine sb_if_eq (tgt := 34) hx hb (by decide : (1 : Int32).toInt = 1) dX9_best_13 (by decide) (fun h => absurd h (by decide)) (fun c_13_8 => ?_)
      refine lv_aload_n hx hb dX9_best_16 rfl (lv_at hl 0 rfl) ?_
      refine lv_iload_n hx hb dX9_best_17 rfl (lv_at hl 3 rfl) ?_
      refine lv_iconst (v := 1) hx hb dX9_best_18 (by decide) ?_
      refine ti_callVi (ci := 9) (av := [.int z3, .int 1]) C hw (s_X9_isAhead l D A cy hJ M hI z3 1) ⟨ml_X9_247, ym_X9_isAhead, yv_X9_isAhead, yi_X9_isAhead, yc_X9_isAhead⟩ yd_X9_isAhead ob_0 (by decide) rfl rfl hl.1 (Nat.le_of_ble_eq_true rfl) ⟨by decide, by decide⟩ ⟨Nat.zero_le _, Nat.zero_le _⟩ dX9_best_19 (fun r_11 M_12 H locs hp_12 hw => ?_)
      have hm := hp_12
      have hw := hw.to hm
      refine sb_if_eq (tgt := 34) hx hb rfl dX9_best_22 (by decide) (fun c_22_12 => ?_) (fun c_22_12 => ?_)
      · exact hj_34_16  _ _ _  hw (lv_sub hl [0, 1, 2, 3, 4] rfl)
      · refine lv_aload_n hx hb dX9_best_25 rfl (lv_at hl 0 rfl) ?_
        refine lv_iload hx hb dX9_best_26 (lv_at hl 4 rfl) ?_
        refine ti_callVi (ci := 9) (av := [.int z4]) C hw (s_X9_isZeroOrOne l D A cy hJ M hI z4) ⟨ml_X9_223, ym_X9_isZeroOrOne, yv_X9_isZeroOrOne, yi_X9_isZeroOrOne, yc_X9_isZeroOrOne⟩ yd_X9_isZeroOrOne ob_0 (by decide) rfl rfl hl.1 (Nat.le_of_ble_eq_true rfl) ⟨by decide, by decide⟩ ⟨Nat.zero_le _, Nat.zero_le _⟩ dX9_best_28 (fun r_14 M_15 H locs hp_15 hw => ?_)
        have hm := hp_15
        have hw := hw.to hm
        refine sb_if_ne (tgt := 36) hx hb rfl dX9_best_31 (by decide) (fun c_31_15 => ?_) (fun c_31_15 => ?_)
        · refine lv_aload_n hx hb dX9_best_36 rfl (lv_at hl 0 rfl) ?_
          refine ti_get (ci := 9) (k := 9) (N := 10) (T := TX9) (v := .ref (A 53 0)) C hw iw_9 rfl ob_0 (by decide) (by decide) fl_X9_61 rfl rfl dX9_best_37 ?_
          refine lv_aload_n hx hb dX9_best_40 rfl (lv_at hl 0 rfl) ?_
          refine ti_get (ci := 9) (k := 3) (N := 10) (T := TX9) (v := .ref (A 27 0)) C hw iw_9 rfl ob_0 (by decide) (by decide) fl_X9_29 rfl rfl dX9_best_41 ?_
          refine lv_iload_n hx hb dX9_best_44 rfl (lv_at hl 1 rfl) ?_
          refine lv_iload_n hx hb dX9_best_45 rfl (lv_at hl 2 rfl) ?_
          refine lv_iload_n hx hb dX9_best_46 rfl (lv_at hl 3 rfl) ?_
          refine lv_iload hx hb dX9_best_47 (lv_at hl 4 rfl) ?_
          refine ti_callVi (ci := 0) (av := [.ref (A 27 0), .int z1, .int z2, .int z3, .int z4]) C hw (s_X0_bestPlace l D A cy hJ M hI t ht (hT) z1 z2 z3 z4 (by first | omega | decide) (by first | omega | decide)) ⟨ml_X9_251, ym_X0_bestPlace, yv_X0_bestPlace, yi_X0_bestPlace, yc_X0_bestPlace⟩ yd_X0_bestPlace ob_53 (by decide) rfl rfl hl.1 (Nat.le_of_ble_eq_true rfl) ⟨by decide, by decide⟩ ⟨Nat.zero_le _, Nat.zero_le _⟩ dX9_best_49 (fun r_17 M_18 H locs hp_18 hw => ?_)
          obtain ⟨iM_18, q_19, q_20⟩ := hp_18
          exact hQ _ _ _ _ _ _ hw rfl (⟨(cF_fr hF iM_18 q_19 q_20), ((q_20 1).2.1), (tl_x q_20 (q_19 0 1 (by decide)) (q_19 0 2 (by decide)))⟩) dX9_best_52
        · exact hj_34_16  _ _ _  hw (lv_sub hl [0, 1, 2, 3, 4] rfl)
    · refine sb_if_eq (tgt := 34) hx hb (by decide : (0 : Int32).toInt = 0) dX9_best_13 (by decide) (fun c_13_9 => ?_) (fun h => absurd h (by decide))
      exact hj_34_16  _ _ _  hw (lv_sub hl [0, 1, 2, 3, 4] rfl)
  · refine sb_if_eq (tgt := 34) hx hb (by decide : (0 : Int32).toInt = 0) dX9_best_5 (by decide) (fun c_5_4 => ?_) (fun h => absurd h (by decide))
    exact hj_34_16  _ _ _  hw (lv_sub hl [0, 1, 2, 3, 4] rfl)
set_option maxHeartbeats 4000000 in
set_option maxRecDepth 100000 in
theorem s_X9_fairest (l : Launch) (D : va_G) (A : Nat → Nat → Nat) (cy : Nat → ClassId) (hJ : ti_inj ti_LT A) (M : ti_M) (hI : cI Tc M) (hF : cF Tc M) (z1 : Int32) (z2 : Int32) (z3 : Int32) : ti_Ki l yX9_fairest cX9_fairest 4 (some .int) 7 ti_LT D A cy M [.ref (A 0 0), .int z1, .int z2, .int z3] (fun r M2 => cF Tc M2 ∧ tI M2 2 1 = tI M 2 1 ∧ tl M2 M) := by
  refine ti_eI yp_X9_fairest hJ ti_LT_nd (Nat.le_of_ble_eq_true rfl) ?_
  intro p e s m args below meth c Q H0 C hQ hw ls hl
  have hx := C.1
  have hb := C.2.1
  have hl : lv_has ls 4 [(0, .ref (A 0 0)), (1, .int z1), (2, .int z2), (3, .int z3)] := hl
  obtain ⟨-, ⟨t1, ht1, hT1⟩, ⟨t2, ht2, hT2⟩, ⟨t, ht, hT⟩, hS, hM⟩ := id hF
  refine lv_aload_n hx hb dX9_fairest_0 rfl (lv_at hl 0 rfl) ?_
  refine lv_iload_n hx hb dX9_fairest_1 rfl (lv_at hl 1 rfl) ?_
  refine ti_callVi (ci := 9) (av := [.int z1]) C hw (s_X9_isPower l D A cy hJ M hI z1) ⟨ml_X9_165, ym_X9_isPower, yv_X9_isPower, yi_X9_isPower, yc_X9_isPower⟩ yd_X9_isPower ob_0 (by decide) rfl rfl hl.1 (Nat.le_of_ble_eq_true rfl) ⟨by decide, by decide⟩ ⟨Nat.zero_le _, Nat.zero_le _⟩ dX9_fairest_2 (fun r_1 M_2 H locs hp_2 hw => ?_)
  obtain ⟨hm, hz⟩ := hp_2
  have hw := hw.to hm
  have hj_25_11 : ∀  (H : Heap) (locs : List Loc) (ls : Array Slot), ti_H ti_LT D A cy H0 M H locs → lv_has ls 4 [(0, .ref (A 0 0)), (1, .int z1), (2, .int z2), (3, .int z3)] → W p l e (ti_rm 7) s m args below meth c H locs 0 0 Q (F0 m 25 ls []) := by
    intro  H locs ls  hw hl
    refine lv_iconst (v := (-1)) hx hb dX9_fairest_25 (by decide) ?_
    exact hQ _ _ _ _ _ _ hw rfl (⟨hF, rfl, tl.refl⟩) dX9_fairest_26
  rcases hz with ⟨rfl, d1_3, d2_3⟩ | rfl
  · refine sb_if_eq (tgt := 25) hx hb (by decide : (1 : Int32).toInt = 1) dX9_fairest_5 (by decide) (fun h => absurd h (by decide)) (fun c_5_3 => ?_)
    refine lv_aload_n hx hb dX9_fairest_8 rfl (lv_at hl 0 rfl) ?_
    refine lv_iload_n hx hb dX9_fairest_9 rfl (lv_at hl 2 rfl) ?_
    refine lv_iconst (v := 1) hx hb dX9_fairest_10 (by decide) ?_
    refine ti_callVi (ci := 9) (av := [.int z2, .int 1]) C hw (s_X9_isAhead l D A cy hJ M hI z2 1) ⟨ml_X9_247, ym_X9_isAhead, yv_X9_isAhead, yi_X9_isAhead, yc_X9_isAhead⟩ yd_X9_isAhead ob_0 (by decide) rfl rfl hl.1 (Nat.le_of_ble_eq_true rfl) ⟨by decide, by decide⟩ ⟨Nat.zero_le _, Nat.zero_le _⟩ dX9_fairest_11 (fun r_6 M_7 H locs hp_7 hw => ?_)
    have hm := hp_7
    have hw := hw.to hm
    refine sb_if_eq (tgt := 25) hx hb rfl dX9_fairest_14 (by decide) (fun c_14_7 => ?_) (fun c_14_7 => ?_)
    · exact hj_25_11  _ _ _  hw (lv_sub hl [0, 1, 2, 3] rfl)
    · refine lv_aload_n hx hb dX9_fairest_17 rfl (lv_at hl 0 rfl) ?_
      refine lv_iload_n hx hb dX9_fairest_18 rfl (lv_at hl 3 rfl) ?_
      refine ti_callVi (ci := 9) (av := [.int z3]) C hw (s_X9_isZeroOrOne l D A cy hJ M hI z3) ⟨ml_X9_223, ym_X9_isZeroOrOne, yv_X9_isZeroOrOne, yi_X9_isZeroOrOne, yc_X9_isZeroOrOne⟩ yd_X9_isZeroOrOne ob_0 (by decide) rfl rfl hl.1 (Nat.le_of_ble_eq_true rfl) ⟨by decide, by decide⟩ ⟨Nat.zero_le _, Nat.zero_le _⟩ dX9_fairest_19 (fun r_9 M_10 H locs hp_10 hw => ?_)
      have hm := hp_10
      have hw := hw.to hm
      refine sb_if_ne (tgt := 27) hx hb rfl dX9_fairest_22 (by decide) (fun c_22_10 => ?_) (fun c_22_10 => ?_)
      · refine lv_aload_n hx hb dX9_fairest_27 rfl (lv_at hl 0 rfl) ?_
        refine ti_get (ci := 9) (k := 9) (N := 10) (T := TX9) (v := .ref (A 53 0)) C hw iw_9 rfl ob_0 (by decide) (by decide) fl_X9_61 rfl rfl dX9_fairest_28 ?_
        refine lv_aload_n hx hb dX9_fairest_31 rfl (lv_at hl 0 rfl) ?_
        refine ti_get (ci := 9) (k := 3) (N := 10) (T := TX9) (v := .ref (A 27 0)) C hw iw_9 rfl ob_0 (by decide) (by decide) fl_X9_29 rfl rfl dX9_fairest_32 ?_
        refine lv_iload_n hx hb dX9_fairest_35 rfl (lv_at hl 1 rfl) ?_
        refine lv_iload_n hx hb dX9_fairest_36 rfl (lv_at hl 2 rfl) ?_
        refine lv_iload_n hx hb dX9_fairest_37 rfl (lv_at hl 3 rfl) ?_
        refine ti_callVi (ci := 0) (av := [.ref (A 27 0), .int z1, .int z2, .int z3]) C hw (s_X0_fairestPlace l D A cy hJ M hI t ht (hT) z1 z2 z3 (by first | omega | decide) (by first | omega | decide)) ⟨ml_X9_255, ym_X0_fairestPlace, yv_X0_fairestPlace, yi_X0_fairestPlace, yc_X0_fairestPlace⟩ yd_X0_fairestPlace ob_53 (by decide) rfl rfl hl.1 (Nat.le_of_ble_eq_true rfl) ⟨by decide, by decide⟩ ⟨Nat.zero_le _, Nat.zero_le _⟩ dX9_fairest_38 (fun r_12 M_13 H locs hp_13 hw => ?_)
        obtain ⟨iM_13, q_14, q_15⟩ := hp_13
        exact hQ _ _ _ _ _ _ hw rfl (⟨(cF_fr hF iM_13 q_14 q_15), ((q_15 1).2.1), (tl_x q_15 (q_14 0 1 (by decide)) (q_14 0 2 (by decide)))⟩) dX9_fairest_41
      · exact hj_25_11  _ _ _  hw (lv_sub hl [0, 1, 2, 3] rfl)
  · refine sb_if_eq (tgt := 25) hx hb (by decide : (0 : Int32).toInt = 0) dX9_fairest_5 (by decide) (fun c_5_4 => ?_) (fun h => absurd h (by decide))
    exact hj_25_11  _ _ _  hw (lv_sub hl [0, 1, 2, 3] rfl)
set_option maxHeartbeats 4000000 in
set_option maxRecDepth 100000 in
theorem s_X9_gain (l : Launch) (D : va_G) (A : Nat → Nat → Nat) (cy : Nat → ClassId) (hJ : ti_inj ti_LT A) (M : ti_M) (hI : cI Tc M) (hF : cF Tc M) (z1 : Int32) (z2 : Int32) : ti_Ki l yX9_gain cX9_gain 3 (some .int) 7 ti_LT D A cy M [.ref (A 0 0), .int z1, .int z2] (fun r M2 => cF Tc M2 ∧ tI M2 2 1 = tI M 2 1 ∧ tl M2 M) := by
  refine ti_eI yp_X9_gain hJ ti_LT_nd (Nat.le_of_ble_eq_true rfl) ?_
  intro p e s m args below meth c Q H0 C hQ hw ls hl
  have hx := C.1
  have hb := C.2.1
  have hl : lv_has ls 3 [(0, .ref (A 0 0)), (1, .int z1), (2, .int z2)] := hl
  obtain ⟨-, ⟨t1, ht1, hT1⟩, ⟨t2, ht2, hT2⟩, ⟨t, ht, hT⟩, hS, hM⟩ := id hF
  refine lv_iload_n hx hb dX9_gain_0 rfl (lv_at hl 1 rfl) ?_
  have hj_24_6 : ∀  (H : Heap) (locs : List Loc) (ls : Array Slot), ti_H ti_LT D A cy H0 M H locs → lv_has ls 3 [(0, .ref (A 0 0)), (1, .int z1), (2, .int z2)] → W p l e (ti_rm 7) s m args below meth c H locs 0 0 Q (F0 m 24 ls []) := by
    intro  H locs ls  hw hl
    refine lv_iconst (v := (-1)) hx hb dX9_gain_24 (by decide) ?_
    exact hQ _ _ _ _ _ _ hw rfl (⟨hF, rfl, tl.refl⟩) dX9_gain_25
  refine sb_if_lt (tgt := 24) hx hb rfl dX9_gain_1 (by decide) (fun c_1_0 => ?_) (fun c_1_0 => ?_)
  · exact hj_24_6  _ _ _  hw (lv_sub hl [0, 1, 2] rfl)
  · refine lv_iload_n hx hb dX9_gain_4 rfl (lv_at hl 1 rfl) ?_
    refine lv_aload_n hx hb dX9_gain_5 rfl (lv_at hl 0 rfl) ?_
    refine ti_get (ci := 9) (k := 3) (N := 10) (T := TX9) (v := .ref (A 27 0)) C hw iw_9 rfl ob_0 (by decide) (by decide) fl_X9_29 rfl rfl dX9_gain_6 ?_
    refine ti_get (ci := 3) (k := 3) (N := 17) (T := TX3) C hw iw_3 rfl ob_27 (by decide) (by decide) fl_X9_179 rfl rfl dX9_gain_9 ?_
    refine lv_topi (fun x_2 ex_2 => ?_)
    have bx_2 : 0 ≤ x_2.toInt ∧ x_2.toInt ≤ 8 := cI_rd hI ob_27.1 ex_2
    have ux_2 : (tI M 27 3).toInt = x_2.toInt := by rw [ex_2]
    refine sb_icmp_ge (tgt := 24) hx hb rfl rfl dX9_gain_12 (by decide) (fun c_12_2 => ?_) (fun c_12_2 => ?_)
    · exact hj_24_6  _ _ _  hw (lv_sub hl [0, 1, 2] rfl)
    · refine lv_aload_n hx hb dX9_gain_15 rfl (lv_at hl 0 rfl) ?_
      refine lv_iload_n hx hb dX9_gain_16 rfl (lv_at hl 2 rfl) ?_
      refine lv_iconst (v := 1) hx hb dX9_gain_17 (by decide) ?_
      refine ti_callVi (ci := 9) (av := [.int z2, .int 1]) C hw (s_X9_isAhead l D A cy hJ M hI z2 1) ⟨ml_X9_247, ym_X9_isAhead, yv_X9_isAhead, yi_X9_isAhead, yc_X9_isAhead⟩ yd_X9_isAhead ob_0 (by decide) rfl rfl hl.1 (Nat.le_of_ble_eq_true rfl) ⟨by decide, by decide⟩ ⟨Nat.zero_le _, Nat.zero_le _⟩ dX9_gain_18 (fun r_4 M_5 H locs hp_5 hw => ?_)
      have hm := hp_5
      have hw := hw.to hm
      refine sb_if_ne (tgt := 26) hx hb rfl dX9_gain_21 (by decide) (fun c_21_5 => ?_) (fun c_21_5 => ?_)
      · refine lv_aload_n hx hb dX9_gain_26 rfl (lv_at hl 0 rfl) ?_
        refine ti_get (ci := 9) (k := 9) (N := 10) (T := TX9) (v := .ref (A 53 0)) C hw iw_9 rfl ob_0 (by decide) (by decide) fl_X9_61 rfl rfl dX9_gain_27 ?_
        refine lv_aload_n hx hb dX9_gain_30 rfl (lv_at hl 0 rfl) ?_
        refine ti_get (ci := 9) (k := 3) (N := 10) (T := TX9) (v := .ref (A 27 0)) C hw iw_9 rfl ob_0 (by decide) (by decide) fl_X9_29 rfl rfl dX9_gain_31 ?_
        refine lv_iload_n hx hb dX9_gain_34 rfl (lv_at hl 1 rfl) ?_
        refine lv_iload_n hx hb dX9_gain_35 rfl (lv_at hl 2 rfl) ?_
        refine ti_callVi (ci := 0) (av := [.ref (A 27 0), .int z1, .int z2]) C hw (s_X0_gainers l D A cy hJ M hI t ht (hT) z1 z2 (by first | omega | decide) (by first | omega | decide)) ⟨ml_X9_258, ym_X0_gainers, yv_X0_gainers, yi_X0_gainers, yc_X0_gainers⟩ yd_X0_gainers ob_53 (by decide) rfl rfl hl.1 (Nat.le_of_ble_eq_true rfl) ⟨by decide, by decide⟩ ⟨Nat.zero_le _, Nat.zero_le _⟩ dX9_gain_36 (fun r_7 M_8 H locs hp_8 hw => ?_)
        obtain ⟨iM_8, q_9, q_10⟩ := hp_8
        exact hQ _ _ _ _ _ _ hw rfl (⟨(cF_fr hF iM_8 q_9 q_10), ((q_10 1).2.1), (tl_x q_10 (q_9 0 1 (by decide)) (q_9 0 2 (by decide)))⟩) dX9_gain_39
      · exact hj_24_6  _ _ _  hw (lv_sub hl [0, 1, 2] rfl)
set_option maxHeartbeats 4000000 in
set_option maxRecDepth 100000 in
theorem s_X9_came (l : Launch) (D : va_G) (A : Nat → Nat → Nat) (cy : Nat → ClassId) (hJ : ti_inj ti_LT A) (M : ti_M) (hI : cI Tc M) (hF : cF Tc M) : ti_Ki l yX9_came cX9_came 1 (some .int) 7 ti_LT D A cy M [.ref (A 0 0)] (fun r M2 => cF Tc M2 ∧ tI M2 2 1 = tI M 2 1 ∧ tl M2 M) := by
  refine ti_eI yp_X9_came hJ ti_LT_nd (Nat.le_of_ble_eq_true rfl) ?_
  intro p e s m args below meth c Q H0 C hQ hw ls hl
  have hx := C.1
  have hb := C.2.1
  have hl : lv_has ls 1 [(0, .ref (A 0 0))] := hl
  obtain ⟨-, ⟨t1, ht1, hT1⟩, ⟨t2, ht2, hT2⟩, ⟨t, ht, hT⟩, hS, hM⟩ := id hF
  refine lv_aload_n hx hb dX9_came_0 rfl (lv_at hl 0 rfl) ?_
  refine ti_get (ci := 9) (k := 8) (N := 10) (T := TX9) (v := .ref (A 50 0)) C hw iw_9 rfl ob_0 (by decide) (by decide) fl_X9_54 rfl rfl dX9_came_1 ?_
  refine lv_aload_n hx hb dX9_came_4 rfl (lv_at hl 0 rfl) ?_
  refine ti_get (ci := 9) (k := 1) (N := 10) (T := TX9) (v := .ref (A t1 0)) C hw iw_9 rfl ob_0 (by decide) (by decide) fl_X9_19 rfl (ti_Tv (hT1)) dX9_came_5 ?_
  refine ti_callVv (ci := 6) (av := [.ref (A t1 0)]) C hw (s_X6_search l D A cy hJ M hI t1 ht1) ⟨ml_X9_272, ym_X6_search, yv_X6_search, yi_X6_search, yc_X6_search⟩ yd_X6_search ob_50 (by decide) rfl rfl hl.1 (Nat.le_of_ble_eq_true rfl) ⟨by decide, by decide⟩ ⟨Nat.zero_le _, Nat.zero_le _⟩ dX9_came_8 (fun M_2 H locs hp_2 hw => ?_)
  obtain ⟨iM_2, q_3, q_4⟩ := hp_2
  refine lv_aload_n hx hb dX9_came_11 rfl (lv_at hl 0 rfl) ?_
  refine ti_get (ci := 9) (k := 8) (N := 10) (T := TX9) (v := .ref (A 50 0)) C hw iw_9 rfl ob_0 (by decide) (by decide) fl_X9_54 rfl rfl dX9_came_12 ?_
  refine ti_get (ci := 6) (k := 10) (N := 13) (T := TX6) C hw iw_6 rfl ob_50 (by decide) (by decide) fl_X9_275 rfl rfl dX9_came_15 ?_
  refine lv_topi (fun x_5 ex_5 => ?_)
  have bx_5 : 0 ≤ x_5.toInt ∧ x_5.toInt ≤ 480 := cI_rd iM_2 ob_50.1 ex_5
  have ux_5 : (tI M_2 50 10).toInt = x_5.toInt := by rw [ex_5]
  exact hQ _ _ _ _ _ _ hw rfl (⟨(cF_fr hF iM_2 q_3 q_4), ((q_4 1).2.1), (tl_x q_4 (q_3 0 1 (by decide)) (q_3 0 2 (by decide)))⟩) dX9_came_18
set_option maxHeartbeats 4000000 in
set_option maxRecDepth 100000 in
theorem s_X9_one (l : Launch) (D : va_G) (A : Nat → Nat → Nat) (cy : Nat → ClassId) (hJ : ti_inj ti_LT A) (M : ti_M) (hI : cI Tc M) (hF : cF Tc M) (z1 : Int32) (z2 : Int32) : ti_Ki l yX9_one cX9_one 3 (some .int) 7 ti_LT D A cy M [.ref (A 0 0), .int z1, .int z2] (fun r M2 => cF Tc M2 ∧ tI M2 2 1 = tI M 2 1 ∧ tl M2 M) := by
  refine ti_eI yp_X9_one hJ ti_LT_nd (Nat.le_of_ble_eq_true rfl) ?_
  intro p e s m args below meth c Q H0 C hQ hw ls hl
  have hx := C.1
  have hb := C.2.1
  have hl : lv_has ls 3 [(0, .ref (A 0 0)), (1, .int z1), (2, .int z2)] := hl
  obtain ⟨-, ⟨t1, ht1, hT1⟩, ⟨t2, ht2, hT2⟩, ⟨t, ht, hT⟩, hS, hM⟩ := id hF
  refine lv_iload_n hx hb dX9_one_0 rfl (lv_at hl 1 rfl) ?_
  have hj_12_4 : ∀  (H : Heap) (locs : List Loc) (ls : Array Slot), ti_H ti_LT D A cy H0 M H locs → lv_has ls 3 [(0, .ref (A 0 0)), (1, .int z1), (2, .int z2)] → W p l e (ti_rm 7) s m args below meth c H locs 0 0 Q (F0 m 12 ls []) := by
    intro  H locs ls  hw hl
    refine lv_iconst (v := (-1)) hx hb dX9_one_12 (by decide) ?_
    exact hQ _ _ _ _ _ _ hw rfl (⟨hF, rfl, tl.refl⟩) dX9_one_13
  refine sb_if_lt (tgt := 12) hx hb rfl dX9_one_1 (by decide) (fun c_1_0 => ?_) (fun c_1_0 => ?_)
  · exact hj_12_4  _ _ _  hw (lv_sub hl [0, 1, 2] rfl)
  · refine lv_aload_n hx hb dX9_one_4 rfl (lv_at hl 0 rfl) ?_
    refine lv_iload_n hx hb dX9_one_5 rfl (lv_at hl 2 rfl) ?_
    refine ti_callVi (ci := 9) (av := [.int z2]) C hw (s_X9_isZeroOrOne l D A cy hJ M hI z2) ⟨ml_X9_223, ym_X9_isZeroOrOne, yv_X9_isZeroOrOne, yi_X9_isZeroOrOne, yc_X9_isZeroOrOne⟩ yd_X9_isZeroOrOne ob_0 (by decide) rfl rfl hl.1 (Nat.le_of_ble_eq_true rfl) ⟨by decide, by decide⟩ ⟨Nat.zero_le _, Nat.zero_le _⟩ dX9_one_6 (fun r_2 M_3 H locs hp_3 hw => ?_)
    have hm := hp_3
    have hw := hw.to hm
    refine sb_if_ne (tgt := 14) hx hb rfl dX9_one_9 (by decide) (fun c_9_3 => ?_) (fun c_9_3 => ?_)
    · refine lv_aload_n hx hb dX9_one_14 rfl (lv_at hl 0 rfl) ?_
      refine ti_get (ci := 9) (k := 8) (N := 10) (T := TX9) (v := .ref (A 50 0)) C hw iw_9 rfl ob_0 (by decide) (by decide) fl_X9_54 rfl rfl dX9_one_15 ?_
      refine lv_aload_n hx hb dX9_one_18 rfl (lv_at hl 0 rfl) ?_
      refine ti_get (ci := 9) (k := 1) (N := 10) (T := TX9) (v := .ref (A t1 0)) C hw iw_9 rfl ob_0 (by decide) (by decide) fl_X9_19 rfl (ti_Tv (hT1)) dX9_one_19 ?_
      refine ti_callVv (ci := 6) (av := [.ref (A t1 0)]) C hw (s_X6_search l D A cy hJ M hI t1 ht1) ⟨ml_X9_272, ym_X6_search, yv_X6_search, yi_X6_search, yc_X6_search⟩ yd_X6_search ob_50 (by decide) rfl rfl hl.1 (Nat.le_of_ble_eq_true rfl) ⟨by decide, by decide⟩ ⟨Nat.zero_le _, Nat.zero_le _⟩ dX9_one_22 (fun M_6 H locs hp_6 hw => ?_)
      obtain ⟨iM_6, q_7, q_8⟩ := hp_6
      refine lv_iload_n hx hb dX9_one_25 rfl (lv_at hl 1 rfl) ?_
      refine lv_aload_n hx hb dX9_one_26 rfl (lv_at hl 0 rfl) ?_
      refine ti_get (ci := 9) (k := 8) (N := 10) (T := TX9) (v := .ref (A 50 0)) C hw iw_9 rfl ob_0 (by decide) (by decide) fl_X9_54 rfl rfl dX9_one_27 ?_
      refine ti_get (ci := 6) (k := 10) (N := 13) (T := TX6) C hw iw_6 rfl ob_50 (by decide) (by decide) fl_X9_275 rfl rfl dX9_one_30 ?_
      refine lv_topi (fun x_9 ex_9 => ?_)
      have bx_9 : 0 ≤ x_9.toInt ∧ x_9.toInt ≤ 480 := cI_rd iM_6 ob_50.1 ex_9
      have ux_9 : (tI M_6 50 10).toInt = x_9.toInt := by rw [ex_9]
      refine sb_icmp_lt (tgt := 39) hx hb rfl rfl dX9_one_33 (by decide) (fun c_33_9 => ?_) (fun c_33_9 => ?_)
      · refine lv_iload_n hx hb dX9_one_39 rfl (lv_at hl 2 rfl) ?_
        refine sb_if_ne (tgt := 55) hx hb rfl dX9_one_40 (by decide) (fun c_40_10 => ?_) (fun c_40_10 => ?_)
        · refine lv_aload_n hx hb dX9_one_55 rfl (lv_at hl 0 rfl) ?_
          refine ti_get (ci := 9) (k := 8) (N := 10) (T := TX9) (v := .ref (A 50 0)) C hw iw_9 rfl ob_0 (by decide) (by decide) fl_X9_54 rfl rfl dX9_one_56 ?_
          refine ti_get (ci := 6) (k := 9) (N := 13) (T := TX6) (v := .ref (A 50 10)) C hw iw_6 rfl ob_50 (by decide) (by decide) fl_X9_281 rfl rfl dX9_one_59 ?_
          refine lv_iload_n hx hb dX9_one_62 rfl (lv_at hl 1 rfl) ?_
          refine ti_iald (ci := 6) (k := 9) (n := 480) C hw ob_50 (by decide) (fun _ _ => rfl) (vp_in_iff.mpr (by omega)) dX9_one_63 ?_
          refine lv_topi (fun x_13 ex_13 => ?_)
          exact hQ _ _ _ _ _ _ hw rfl (⟨(cF_fr hF iM_6 q_7 q_8), ((q_8 1).2.1), (tl_x q_8 (q_7 0 1 (by decide)) (q_7 0 2 (by decide)))⟩) dX9_one_64
        · refine lv_aload_n hx hb dX9_one_43 rfl (lv_at hl 0 rfl) ?_
          refine ti_get (ci := 9) (k := 8) (N := 10) (T := TX9) (v := .ref (A 50 0)) C hw iw_9 rfl ob_0 (by decide) (by decide) fl_X9_54 rfl rfl dX9_one_44 ?_
          refine ti_get (ci := 6) (k := 8) (N := 13) (T := TX6) (v := .ref (A 50 9)) C hw iw_6 rfl ob_50 (by decide) (by decide) fl_X9_278 rfl rfl dX9_one_47 ?_
          refine lv_iload_n hx hb dX9_one_50 rfl (lv_at hl 1 rfl) ?_
          refine ti_iald (ci := 6) (k := 8) (n := 480) C hw ob_50 (by decide) (fun _ _ => rfl) (vp_in_iff.mpr (by omega)) dX9_one_51 ?_
          refine lv_topi (fun x_12 ex_12 => ?_)
          refine lv_goto (tgt := 64) hx hb dX9_one_52 (by decide) ?_
          exact hQ _ _ _ _ _ _ hw rfl (⟨(cF_fr hF iM_6 q_7 q_8), ((q_8 1).2.1), (tl_x q_8 (q_7 0 1 (by decide)) (q_7 0 2 (by decide)))⟩) dX9_one_64
      · refine lv_bipush (v := (-2)) hx hb dX9_one_36 (by decide) ?_
        exact hQ _ _ _ _ _ _ hw rfl (⟨(cF_fr hF iM_6 q_7 q_8), ((q_8 1).2.1), (tl_x q_8 (q_7 0 1 (by decide)) (q_7 0 2 (by decide)))⟩) dX9_one_38
    · exact hj_12_4  _ _ _  hw (lv_sub hl [0, 1, 2] rfl)
set_option maxHeartbeats 4000000 in
set_option maxRecDepth 100000 in
theorem s_X9_empty (l : Launch) (D : va_G) (A : Nat → Nat → Nat) (cy : Nat → ClassId) (hJ : ti_inj ti_LT A) (M : ti_M) (hI : cI Tc M) (hF : cF Tc M) (z1 : Int32) (z2 : Int32) : ti_Ki l yX9_empty cX9_empty 3 (some .int) 6 ti_LT D A cy M [.ref (A 0 0), .int z1, .int z2] (fun r M2 => cF Tc M2 ∧ tI M2 2 1 = tI M 2 1 ∧ tl M2 M) := by
  refine ti_eI yp_X9_empty hJ ti_LT_nd (Nat.le_of_ble_eq_true rfl) ?_
  intro p e s m args below meth c Q H0 C hQ hw ls hl
  have hx := C.1
  have hb := C.2.1
  have hl : lv_has ls 3 [(0, .ref (A 0 0)), (1, .int z1), (2, .int z2)] := hl
  obtain ⟨-, ⟨t1, ht1, hT1⟩, ⟨t2, ht2, hT2⟩, ⟨t, ht, hT⟩, hS, hM⟩ := id hF
  refine lv_aload_n hx hb dX9_empty_0 rfl (lv_at hl 0 rfl) ?_
  refine lv_iload_n hx hb dX9_empty_1 rfl (lv_at hl 1 rfl) ?_
  refine lv_iconst (v := 1) hx hb dX9_empty_2 (by decide) ?_
  refine ti_callVi (ci := 9) (av := [.int z1, .int 1]) C hw (s_X9_isAhead l D A cy hJ M hI z1 1) ⟨ml_X9_247, ym_X9_isAhead, yv_X9_isAhead, yi_X9_isAhead, yc_X9_isAhead⟩ yd_X9_isAhead ob_0 (by decide) rfl rfl hl.1 (Nat.le_of_ble_eq_true rfl) ⟨by decide, by decide⟩ ⟨Nat.zero_le _, Nat.zero_le _⟩ dX9_empty_3 (fun r_1 M_2 H locs hp_2 hw => ?_)
  have hm := hp_2
  have hw := hw.to hm
  have hj_17_6 : ∀  (H : Heap) (locs : List Loc) (ls : Array Slot), ti_H ti_LT D A cy H0 M H locs → lv_has ls 3 [(0, .ref (A 0 0)), (1, .int z1), (2, .int z2)] → W p l e (ti_rm 6) s m args below meth c H locs 0 0 Q (F0 m 17 ls []) := by
    intro  H locs ls  hw hl
    refine lv_iconst (v := (-1)) hx hb dX9_empty_17 (by decide) ?_
    exact hQ _ _ _ _ _ _ hw rfl (⟨hF, rfl, tl.refl⟩) dX9_empty_18
  refine sb_if_eq (tgt := 17) hx hb rfl dX9_empty_6 (by decide) (fun c_6_2 => ?_) (fun c_6_2 => ?_)
  · exact hj_17_6  _ _ _  hw (lv_sub hl [0, 1, 2] rfl)
  · refine lv_aload_n hx hb dX9_empty_9 rfl (lv_at hl 0 rfl) ?_
    refine lv_iload_n hx hb dX9_empty_10 rfl (lv_at hl 2 rfl) ?_
    refine ti_callVi (ci := 9) (av := [.int z2]) C hw (s_X9_isZeroOrOne l D A cy hJ M hI z2) ⟨ml_X9_223, ym_X9_isZeroOrOne, yv_X9_isZeroOrOne, yi_X9_isZeroOrOne, yc_X9_isZeroOrOne⟩ yd_X9_isZeroOrOne ob_0 (by decide) rfl rfl hl.1 (Nat.le_of_ble_eq_true rfl) ⟨by decide, by decide⟩ ⟨Nat.zero_le _, Nat.zero_le _⟩ dX9_empty_11 (fun r_4 M_5 H locs hp_5 hw => ?_)
    have hm := hp_5
    have hw := hw.to hm
    refine sb_if_ne (tgt := 19) hx hb rfl dX9_empty_14 (by decide) (fun c_14_5 => ?_) (fun c_14_5 => ?_)
    · refine lv_aload_n hx hb dX9_empty_19 rfl (lv_at hl 0 rfl) ?_
      refine ti_get (ci := 9) (k := 9) (N := 10) (T := TX9) (v := .ref (A 53 0)) C hw iw_9 rfl ob_0 (by decide) (by decide) fl_X9_61 rfl rfl dX9_empty_20 ?_
      refine lv_aload_n hx hb dX9_empty_23 rfl (lv_at hl 0 rfl) ?_
      refine ti_get (ci := 9) (k := 3) (N := 10) (T := TX9) (v := .ref (A 27 0)) C hw iw_9 rfl ob_0 (by decide) (by decide) fl_X9_29 rfl rfl dX9_empty_24 ?_
      refine lv_iload_n hx hb dX9_empty_27 rfl (lv_at hl 1 rfl) ?_
      refine lv_iload_n hx hb dX9_empty_28 rfl (lv_at hl 2 rfl) ?_
      refine ti_callVi (ci := 0) (av := [.ref (A 27 0), .int z1, .int z2]) C hw (s_X0_emptyMinutes l D A cy hJ M hI t ht (hT) z1 z2) ⟨ml_X9_284, ym_X0_emptyMinutes, yv_X0_emptyMinutes, yi_X0_emptyMinutes, yc_X0_emptyMinutes⟩ yd_X0_emptyMinutes ob_53 (by decide) rfl rfl hl.1 (Nat.le_of_ble_eq_true rfl) ⟨by decide, by decide⟩ ⟨Nat.zero_le _, Nat.zero_le _⟩ dX9_empty_29 (fun r_7 M_8 H locs hp_8 hw => ?_)
      obtain ⟨iM_8, q_9, q_10⟩ := hp_8
      exact hQ _ _ _ _ _ _ hw rfl (⟨(cF_fr hF iM_8 q_9 q_10), ((q_10 1).2.1), (tl_x q_10 (q_9 0 1 (by decide)) (q_9 0 2 (by decide)))⟩) dX9_empty_32
    · exact hj_17_6  _ _ _  hw (lv_sub hl [0, 1, 2] rfl)
set_option maxHeartbeats 4000000 in
set_option maxRecDepth 100000 in
theorem s_X9_chance (l : Launch) (D : va_G) (A : Nat → Nat → Nat) (cy : Nat → ClassId) (hJ : ti_inj ti_LT A) (M : ti_M) (hI : cI Tc M) (hF : cF Tc M) (z1 : Int32) (z2 : Int32) (z3 : Int32) : ti_Ki l yX9_chance cX9_chance 4 (some .int) 7 ti_LT D A cy M [.ref (A 0 0), .int z1, .int z2, .int z3] (fun r M2 => cF Tc M2 ∧ tI M2 2 1 = tI M 2 1 ∧ tl M2 M) := by
  refine ti_eI yp_X9_chance hJ ti_LT_nd (Nat.le_of_ble_eq_true rfl) ?_
  intro p e s m args below meth c Q H0 C hQ hw ls hl
  have hx := C.1
  have hb := C.2.1
  have hl : lv_has ls 4 [(0, .ref (A 0 0)), (1, .int z1), (2, .int z2), (3, .int z3)] := hl
  obtain ⟨-, ⟨t1, ht1, hT1⟩, ⟨t2, ht2, hT2⟩, ⟨t, ht, hT⟩, hS, hM⟩ := id hF
  refine lv_iload_n hx hb dX9_chance_0 rfl (lv_at hl 1 rfl) ?_
  have hj_21_9 : ∀  (H : Heap) (locs : List Loc) (ls : Array Slot), ti_H ti_LT D A cy H0 M H locs → lv_has ls 4 [(0, .ref (A 0 0)), (1, .int z1), (2, .int z2), (3, .int z3)] → W p l e (ti_rm 7) s m args below meth c H locs 0 0 Q (F0 m 21 ls []) := by
    intro  H locs ls  hw hl
    refine lv_iconst (v := (-1)) hx hb dX9_chance_21 (by decide) ?_
    exact hQ _ _ _ _ _ _ hw rfl (⟨hF, rfl, tl.refl⟩) dX9_chance_22
  refine sb_if_lt (tgt := 21) hx hb rfl dX9_chance_1 (by decide) (fun c_1_0 => ?_) (fun c_1_0 => ?_)
  · exact hj_21_9  _ _ _  hw (lv_sub hl [0, 1, 2, 3] rfl)
  · refine lv_aload_n hx hb dX9_chance_4 rfl (lv_at hl 0 rfl) ?_
    refine lv_iload_n hx hb dX9_chance_5 rfl (lv_at hl 2 rfl) ?_
    refine ti_callVi (ci := 9) (av := [.int z2]) C hw (s_X9_isMan l D A cy hJ M hI t1 ht1 (hT1) z2) ⟨ml_X9_104, ym_X9_isMan, yv_X9_isMan, yi_X9_isMan, yc_X9_isMan⟩ yd_X9_isMan ob_0 (by decide) rfl rfl hl.1 (Nat.le_of_ble_eq_true rfl) ⟨by decide, by decide⟩ ⟨Nat.zero_le _, Nat.zero_le _⟩ dX9_chance_6 (fun r_2 M_3 H locs hp_3 hw => ?_)
    obtain ⟨hm, hz⟩ := hp_3
    have hw := hw.to hm
    rcases hz with ⟨rfl, d1_4, d2_4⟩ | rfl
    · refine sb_if_eq (tgt := 21) hx hb (by decide : (1 : Int32).toInt = 1) dX9_chance_9 (by decide) (fun h => absurd h (by decide)) (fun c_9_4 => ?_)
      refine lv_aload_n hx hb dX9_chance_12 rfl (lv_at hl 0 rfl) ?_
      refine lv_iload_n hx hb dX9_chance_13 rfl (lv_at hl 3 rfl) ?_
      refine lv_iconst (v := 1) hx hb dX9_chance_14 (by decide) ?_
      refine ti_callVi (ci := 9) (av := [.int z3, .int 1]) C hw (s_X9_isAhead l D A cy hJ M hI z3 1) ⟨ml_X9_247, ym_X9_isAhead, yv_X9_isAhead, yi_X9_isAhead, yc_X9_isAhead⟩ yd_X9_isAhead ob_0 (by decide) rfl rfl hl.1 (Nat.le_of_ble_eq_true rfl) ⟨by decide, by decide⟩ ⟨Nat.zero_le _, Nat.zero_le _⟩ dX9_chance_15 (fun r_7 M_8 H locs hp_8 hw => ?_)
      have hm := hp_8
      have hw := hw.to hm
      refine sb_if_ne (tgt := 23) hx hb rfl dX9_chance_18 (by decide) (fun c_18_8 => ?_) (fun c_18_8 => ?_)
      · refine lv_aload_n hx hb dX9_chance_23 rfl (lv_at hl 0 rfl) ?_
        refine ti_get (ci := 9) (k := 9) (N := 10) (T := TX9) (v := .ref (A 53 0)) C hw iw_9 rfl ob_0 (by decide) (by decide) fl_X9_61 rfl rfl dX9_chance_24 ?_
        refine lv_aload_n hx hb dX9_chance_27 rfl (lv_at hl 0 rfl) ?_
        refine ti_get (ci := 9) (k := 3) (N := 10) (T := TX9) (v := .ref (A 27 0)) C hw iw_9 rfl ob_0 (by decide) (by decide) fl_X9_29 rfl rfl dX9_chance_28 ?_
        refine lv_iload_n hx hb dX9_chance_31 rfl (lv_at hl 1 rfl) ?_
        refine lv_iload_n hx hb dX9_chance_32 rfl (lv_at hl 2 rfl) ?_
        refine lv_iload_n hx hb dX9_chance_33 rfl (lv_at hl 3 rfl) ?_
        refine ti_callVi (ci := 0) (av := [.ref (A 27 0), .int z1, .int z2, .int z3]) C hw (s_X0_timesServed l D A cy hJ M hI t ht (hT) z1 z2 z3 (by first | omega | decide) (by first | omega | decide)) ⟨ml_X9_287, ym_X0_timesServed, yv_X0_timesServed, yi_X0_timesServed, yc_X0_timesServed⟩ yd_X0_timesServed ob_53 (by decide) rfl rfl hl.1 (Nat.le_of_ble_eq_true rfl) ⟨by decide, by decide⟩ ⟨Nat.zero_le _, Nat.zero_le _⟩ dX9_chance_34 (fun r_10 M_11 H locs hp_11 hw => ?_)
        obtain ⟨iM_11, q_12, q_13⟩ := hp_11
        exact hQ _ _ _ _ _ _ hw rfl (⟨(cF_fr hF iM_11 q_12 q_13), ((q_13 1).2.1), (tl_x q_13 (q_12 0 1 (by decide)) (q_12 0 2 (by decide)))⟩) dX9_chance_37
      · exact hj_21_9  _ _ _  hw (lv_sub hl [0, 1, 2, 3] rfl)
    · refine sb_if_eq (tgt := 21) hx hb (by decide : (0 : Int32).toInt = 0) dX9_chance_9 (by decide) (fun c_9_5 => ?_) (fun h => absurd h (by decide))
      exact hj_21_9  _ _ _  hw (lv_sub hl [0, 1, 2, 3] rfl)
set_option maxHeartbeats 4000000 in
set_option maxRecDepth 100000 in
theorem s_X9_tried (l : Launch) (D : va_G) (A : Nat → Nat → Nat) (cy : Nat → ClassId) (hJ : ti_inj ti_LT A) (M : ti_M) (hI : cI Tc M) (hF : cF Tc M) (z1 : Int32) (z2 : Int32) (z3 : Int32) : ti_Ki l yX9_tried cX9_tried 4 (some .int) 7 ti_LT D A cy M [.ref (A 0 0), .int z1, .int z2, .int z3] (fun r M2 => cF Tc M2 ∧ tI M2 2 1 = tI M 2 1 ∧ tl M2 M) := by
  refine ti_eI yp_X9_tried hJ ti_LT_nd (Nat.le_of_ble_eq_true rfl) ?_
  intro p e s m args below meth c Q H0 C hQ hw ls hl
  have hx := C.1
  have hb := C.2.1
  have hl : lv_has ls 4 [(0, .ref (A 0 0)), (1, .int z1), (2, .int z2), (3, .int z3)] := hl
  obtain ⟨-, ⟨t1, ht1, hT1⟩, ⟨t2, ht2, hT2⟩, ⟨t, ht, hT⟩, hS, hM⟩ := id hF
  refine lv_iload_n hx hb dX9_tried_0 rfl (lv_at hl 1 rfl) ?_
  have hj_18_5 : ∀  (H : Heap) (locs : List Loc) (ls : Array Slot), ti_H ti_LT D A cy H0 M H locs → lv_has ls 4 [(0, .ref (A 0 0)), (1, .int z1), (2, .int z2), (3, .int z3)] → W p l e (ti_rm 7) s m args below meth c H locs 0 0 Q (F0 m 18 ls []) := by
    intro  H locs ls  hw hl
    refine lv_iconst (v := (-1)) hx hb dX9_tried_18 (by decide) ?_
    exact hQ _ _ _ _ _ _ hw rfl (⟨hF, rfl, tl.refl⟩) dX9_tried_19
  refine sb_if_lt (tgt := 18) hx hb rfl dX9_tried_1 (by decide) (fun c_1_0 => ?_) (fun c_1_0 => ?_)
  · exact hj_18_5  _ _ _  hw (lv_sub hl [0, 1, 2, 3] rfl)
  · refine lv_iload_n hx hb dX9_tried_4 rfl (lv_at hl 1 rfl) ?_
    refine lv_iconst (v := 5) hx hb dX9_tried_5 (by decide) ?_
    refine sb_icmp_gt (tgt := 18) hx hb rfl (by decide : (5 : Int32).toInt = 5) dX9_tried_6 (by decide) (fun c_6_1 => ?_) (fun c_6_1 => ?_)
    · exact hj_18_5  _ _ _  hw (lv_sub hl [0, 1, 2, 3] rfl)
    · refine lv_aload_n hx hb dX9_tried_9 rfl (lv_at hl 0 rfl) ?_
      refine lv_iload_n hx hb dX9_tried_10 rfl (lv_at hl 3 rfl) ?_
      refine lv_iconst (v := 0) hx hb dX9_tried_11 (by decide) ?_
      refine ti_callVi (ci := 9) (av := [.int z3, .int 0]) C hw (s_X9_isAhead l D A cy hJ M hI z3 0) ⟨ml_X9_247, ym_X9_isAhead, yv_X9_isAhead, yi_X9_isAhead, yc_X9_isAhead⟩ yd_X9_isAhead ob_0 (by decide) rfl rfl hl.1 (Nat.le_of_ble_eq_true rfl) ⟨by decide, by decide⟩ ⟨Nat.zero_le _, Nat.zero_le _⟩ dX9_tried_12 (fun r_3 M_4 H locs hp_4 hw => ?_)
      have hm := hp_4
      have hw := hw.to hm
      refine sb_if_ne (tgt := 20) hx hb rfl dX9_tried_15 (by decide) (fun c_15_4 => ?_) (fun c_15_4 => ?_)
      · refine lv_iload_n hx hb dX9_tried_20 rfl (lv_at hl 1 rfl) ?_
        refine lv_iconst (v := 2) hx hb dX9_tried_21 (by decide) ?_
        have hj_42_14 : ∀  (H : Heap) (locs : List Loc) (ls : Array Slot), (0 ≤ z2.toInt) → (z2.toInt ≤ 7) → ti_H ti_LT D A cy H0 M H locs → lv_has ls 4 [(0, .ref (A 0 0)), (1, .int z1), (2, .int z2), (3, .int z3)] → W p l e (ti_rm 7) s m args below meth c H locs 0 0 Q (F0 m 42 ls []) := by
          intro  H locs ls j_13 j_14 hw hl
          refine lv_aload_n hx hb dX9_tried_42 rfl (lv_at hl 0 rfl) ?_
          refine ti_get (ci := 9) (k := 9) (N := 10) (T := TX9) (v := .ref (A 53 0)) C hw iw_9 rfl ob_0 (by decide) (by decide) fl_X9_61 rfl rfl dX9_tried_43 ?_
          refine lv_aload_n hx hb dX9_tried_46 rfl (lv_at hl 0 rfl) ?_
          refine ti_get (ci := 9) (k := 3) (N := 10) (T := TX9) (v := .ref (A 27 0)) C hw iw_9 rfl ob_0 (by decide) (by decide) fl_X9_29 rfl rfl dX9_tried_47 ?_
          refine lv_iload_n hx hb dX9_tried_50 rfl (lv_at hl 1 rfl) ?_
          refine lv_iload_n hx hb dX9_tried_51 rfl (lv_at hl 2 rfl) ?_
          refine lv_iload_n hx hb dX9_tried_52 rfl (lv_at hl 3 rfl) ?_
          refine ti_callVi (ci := 0) (av := [.ref (A 27 0), .int z1, .int z2, .int z3]) C hw (s_X0_servedOtherwise l D A cy hJ M hI t ht (hT) z1 z2 z3 (by first | omega | decide) (by first | omega | decide)) ⟨ml_X9_290, ym_X0_servedOtherwise, yv_X0_servedOtherwise, yi_X0_servedOtherwise, yc_X0_servedOtherwise⟩ yd_X0_servedOtherwise ob_53 (by decide) rfl rfl hl.1 (Nat.le_of_ble_eq_true rfl) ⟨by decide, by decide⟩ ⟨Nat.zero_le _, Nat.zero_le _⟩ dX9_tried_53 (fun r_15 M_16 H locs hp_16 hw => ?_)
          obtain ⟨iM_16, q_17, q_18⟩ := hp_16
          exact hQ _ _ _ _ _ _ hw rfl (⟨(cF_fr hF iM_16 q_17 q_18), ((q_18 1).2.1), (tl_x q_18 (q_17 0 1 (by decide)) (q_17 0 2 (by decide)))⟩) dX9_tried_56
        have hj_40_12 : ∀  (H : Heap) (locs : List Loc) (ls : Array Slot), ti_H ti_LT D A cy H0 M H locs → lv_has ls 4 [(0, .ref (A 0 0)), (1, .int z1), (2, .int z2), (3, .int z3)] → W p l e (ti_rm 7) s m args below meth c H locs 0 0 Q (F0 m 40 ls []) := by
          intro  H locs ls  hw hl
          refine lv_iconst (v := (-1)) hx hb dX9_tried_40 (by decide) ?_
          exact hQ _ _ _ _ _ _ hw rfl (⟨hF, rfl, tl.refl⟩) dX9_tried_41
        refine sb_icmp_ne (tgt := 36) hx hb rfl (by decide : (2 : Int32).toInt = 2) dX9_tried_22 (by decide) (fun c_22_5 => ?_) (fun c_22_5 => ?_)
        · refine lv_iload_n hx hb dX9_tried_36 rfl (lv_at hl 2 rfl) ?_
          refine sb_if_eq (tgt := 42) hx hb rfl dX9_tried_37 (by decide) (fun c_37_11 => ?_) (fun c_37_11 => ?_)
          · exact hj_42_14  _ _ _ (by first | omega | decide) (by first | omega | decide) hw (lv_sub hl [0, 1, 2, 3] rfl)
          · exact hj_40_12  _ _ _  hw (lv_sub hl [0, 1, 2, 3] rfl)
        · refine lv_aload_n hx hb dX9_tried_25 rfl (lv_at hl 0 rfl) ?_
          refine lv_iload_n hx hb dX9_tried_26 rfl (lv_at hl 2 rfl) ?_
          refine ti_callVi (ci := 9) (av := [.int z2]) C hw (s_X9_isMan l D A cy hJ M hI t1 ht1 (hT1) z2) ⟨ml_X9_104, ym_X9_isMan, yv_X9_isMan, yi_X9_isMan, yc_X9_isMan⟩ yd_X9_isMan ob_0 (by decide) rfl rfl hl.1 (Nat.le_of_ble_eq_true rfl) ⟨by decide, by decide⟩ ⟨Nat.zero_le _, Nat.zero_le _⟩ dX9_tried_27 (fun r_7 M_8 H locs hp_8 hw => ?_)
          obtain ⟨hm, hz⟩ := hp_8
          have hw := hw.to hm
          rcases hz with ⟨rfl, d1_9, d2_9⟩ | rfl
          · refine sb_if_ne (tgt := 42) hx hb (by decide : (1 : Int32).toInt = 1) dX9_tried_30 (by decide) (fun c_30_9 => ?_) (fun h => absurd h (by decide))
            exact hj_42_14  _ _ _ (by first | omega | decide) (by first | omega | decide) hw (lv_sub hl [0, 1, 2, 3] rfl)
          · refine sb_if_ne (tgt := 42) hx hb (by decide : (0 : Int32).toInt = 0) dX9_tried_30 (by decide) (fun h => absurd h (by decide)) (fun c_30_10 => ?_)
            refine lv_goto (tgt := 40) hx hb dX9_tried_33 (by decide) ?_
            exact hj_40_12  _ _ _  hw (lv_sub hl [0, 1, 2, 3] rfl)
      · exact hj_18_5  _ _ _  hw (lv_sub hl [0, 1, 2, 3] rfl)
set_option maxHeartbeats 4000000 in
set_option maxRecDepth 100000 in
theorem s_X9_undo (l : Launch) (D : va_G) (A : Nat → Nat → Nat) (cy : Nat → ClassId) (hJ : ti_inj ti_LT A) (M : ti_M) (hI : cI Tc M) (hF : cF Tc M) : ti_Ki l yX9_undo cX9_undo 1 (some .int) 3 ti_LT D A cy M [.ref (A 0 0)] (fun r M2 => cF Tc M2 ∧ tI M2 2 1 = tI M 2 1 ∧ tl M2 M) := by
  refine ti_eI yp_X9_undo hJ ti_LT_nd (Nat.le_of_ble_eq_true rfl) ?_
  intro p e s m args below meth c Q H0 C hQ hw ls hl
  have hx := C.1
  have hb := C.2.1
  have hl : lv_has ls 1 [(0, .ref (A 0 0))] := hl
  obtain ⟨-, ⟨t1, ht1, hT1⟩, ⟨t2, ht2, hT2⟩, ⟨t, ht, hT⟩, hS, hM⟩ := id hF
  refine lv_aload_n hx hb dX9_undo_0 rfl (lv_at hl 0 rfl) ?_
  refine ti_get (ci := 9) (k := 5) (N := 10) (T := TX9) (v := .ref (A 28 0)) C hw iw_9 rfl ob_0 (by decide) (by decide) fl_X9_40 rfl rfl dX9_undo_1 ?_
  refine lv_aload_n hx hb dX9_undo_4 rfl (lv_at hl 0 rfl) ?_
  refine ti_get (ci := 9) (k := 3) (N := 10) (T := TX9) (v := .ref (A 27 0)) C hw iw_9 rfl ob_0 (by decide) (by decide) fl_X9_29 rfl rfl dX9_undo_5 ?_
  refine ti_callVi (ci := 5) (av := [.ref (A 27 0)]) C hw (s_X5_takeBack l D A cy hJ M hI t ht (hT) hF) ⟨ml_X9_293, ym_X5_takeBack, yv_X5_takeBack, yi_X5_takeBack, yc_X5_takeBack⟩ yd_X5_takeBack ob_28 (by decide) rfl rfl hl.1 (Nat.le_of_ble_eq_true rfl) ⟨by decide, by decide⟩ ⟨Nat.zero_le _, Nat.zero_le _⟩ dX9_undo_8 (fun r_1 M_2 H locs hp_2 hw => ?_)
  obtain ⟨q_3, q_4, q_5⟩ := hp_2
  refine sb_if_eq (tgt := 24) hx hb rfl dX9_undo_11 (by decide) (fun c_11_5 => ?_) (fun c_11_5 => ?_)
  · refine lv_iconst (v := (-1)) hx hb dX9_undo_24 (by decide) ?_
    exact hQ _ _ _ _ _ _ hw rfl (⟨q_3, (q_4), q_5⟩) dX9_undo_25
  · refine lv_aload_n hx hb dX9_undo_14 rfl (lv_at hl 0 rfl) ?_
    refine ti_get (ci := 9) (k := 5) (N := 10) (T := TX9) (v := .ref (A 28 0)) C hw iw_9 rfl ob_0 (by decide) (by decide) fl_X9_40 rfl rfl dX9_undo_15 ?_
    refine ti_get (ci := 5) (k := 2) (N := 3) (T := TX5) C hw iw_5 rfl ob_28 (by decide) (by decide) fl_X9_297 rfl rfl dX9_undo_18 ?_
    refine lv_topi (fun x_7 ex_7 => ?_)
    have bx_7 : 0 ≤ x_7.toInt ∧ x_7.toInt ≤ 20 := cI_rd q_3.1 ob_28.1 ex_7
    have ux_7 : (tI M_2 28 2).toInt = x_7.toInt := by rw [ex_7]
    refine lv_goto (tgt := 25) hx hb dX9_undo_21 (by decide) ?_
    exact hQ _ _ _ _ _ _ hw rfl (⟨q_3, (q_4), q_5⟩) dX9_undo_25
set_option maxHeartbeats 4000000 in
set_option maxRecDepth 100000 in
theorem s_X9_keep (l : Launch) (D : va_G) (A : Nat → Nat → Nat) (cy : Nat → ClassId) (hJ : ti_inj ti_LT A) (M : ti_M) (hI : cI Tc M) (hF : cF Tc M) : ti_Ki l yX9_keep cX9_keep 1 (some .int) 2 ti_LT D A cy M [.ref (A 0 0)] (fun r M2 => cF Tc M2 ∧ tI M2 2 1 = tI M 2 1 ∧ tl M2 M) := by
  refine ti_eI yp_X9_keep hJ ti_LT_nd (Nat.le_of_ble_eq_true rfl) ?_
  intro p e s m args below meth c Q H0 C hQ hw ls hl
  have hx := C.1
  have hb := C.2.1
  have hl : lv_has ls 1 [(0, .ref (A 0 0))] := hl
  obtain ⟨-, ⟨t1, ht1, hT1⟩, ⟨t2, ht2, hT2⟩, ⟨t, ht, hT⟩, hS, hM⟩ := id hF
  refine lv_aload_n hx hb dX9_keep_0 rfl (lv_at hl 0 rfl) ?_
  refine ti_get (ci := 9) (k := 6) (N := 10) (T := TX9) (v := .ref (A 49 0)) C hw iw_9 rfl ob_0 (by decide) (by decide) fl_X9_44 rfl rfl dX9_keep_1 ?_
  refine lv_aload_n hx hb dX9_keep_4 rfl (lv_at hl 0 rfl) ?_
  refine ti_get (ci := 9) (k := 3) (N := 10) (T := TX9) (v := .ref (A 27 0)) C hw iw_9 rfl ob_0 (by decide) (by decide) fl_X9_29 rfl rfl dX9_keep_5 ?_
  refine ti_callVv (ci := 3) (av := [.ref (A 27 0)]) C hw (s_X3_copy l D A cy hJ M hI 49 27 t ob_49 ob_27 ht (hT) (fun _ => Or.inl rfl)) ⟨ml_X9_298, ym_X3_copy, yv_X3_copy, yi_X3_copy, yc_X3_copy⟩ yd_X3_copy ob_49 (by decide) rfl rfl hl.1 (Nat.le_of_ble_eq_true rfl) ⟨by decide, by decide⟩ ⟨Nat.zero_le _, Nat.zero_le _⟩ dX9_keep_8 (fun M_2 H locs hp_2 hw => ?_)
  obtain ⟨iM_2, q_3, q_4⟩ := hp_2
  refine lv_aload_n hx hb dX9_keep_11 rfl (lv_at hl 0 rfl) ?_
  refine lv_iconst (v := 1) hx hb dX9_keep_12 (by decide) ?_
  refine ti_putI (ci := 9) (k := 7) (N := 10) (T := TX9) C hw iw_9 tyX9 tyX9_ok nmX9 rfl ob_0 (by decide) (by decide) fl_X9_47 rfl rfl rfl rfl (fn_9 A _) fs_9_7 dX9_keep_13 (fun H locs hw => ?_)
  obtain ⟨M_5, hM_5⟩ : ∃ z : ti_M, z = uI M_2 0 7 1 := ⟨_, rfl⟩
  have hw := hw.to hM_5.symm
  have iM_5 : cI Tc M_5 := cI_uI iM_2 hM_5 ob_0.1 trivial
  refine lv_aload_n hx hb dX9_keep_16 rfl (lv_at hl 0 rfl) ?_
  refine ti_get (ci := 9) (k := 3) (N := 10) (T := TX9) (v := .ref (A 27 0)) C hw iw_9 rfl ob_0 (by decide) (by decide) fl_X9_29 rfl rfl dX9_keep_17 ?_
  refine ti_get (ci := 3) (k := 2) (N := 17) (T := TX3) C hw iw_3 rfl ob_27 (by decide) (by decide) fl_X9_186 rfl rfl dX9_keep_20 ?_
  refine lv_topi (fun x_6 ex_6 => ?_)
  have bx_6 : 0 ≤ x_6.toInt ∧ x_6.toInt ≤ 120 := cI_rd iM_5 ob_27.1 ex_6 (Or.inl rfl)
  have ux_6 : (tI M_5 27 2).toInt = x_6.toInt := by rw [ex_6]
  exact hQ _ _ _ _ _ _ hw rfl (⟨cF_keep hF iM_5 ht ((rf_I hM_5).trans q_3) (fun k => (tI_nE hM_5 (no (by decide))).trans (q_4 k).2.2.1), ((tI_nE hM_5 (nk (by decide))).trans ((q_4 1).2.1)), (tl.trans (tl_I hM_5 (by decide)) (tl_x q_4 ((tT_fr q_3).trans (tT_n _ _ _ _ (nk (by decide)))) ((tT_fr q_3).trans (tT_n _ _ _ _ (nk (by decide))))))⟩) dX9_keep_23
set_option maxHeartbeats 4000000 in
set_option maxRecDepth 100000 in
theorem s_X9_back (l : Launch) (D : va_G) (A : Nat → Nat → Nat) (cy : Nat → ClassId) (hJ : ti_inj ti_LT A) (M : ti_M) (hI : cI Tc M) (hF : cF Tc M) : ti_Ki l yX9_back cX9_back 1 (some .int) 2 ti_LT D A cy M [.ref (A 0 0)] (fun r M2 => cF Tc M2 ∧ tI M2 2 1 = tI M 2 1 ∧ tl M2 M) := by
  refine ti_eI yp_X9_back hJ ti_LT_nd (Nat.le_of_ble_eq_true rfl) ?_
  intro p e s m args below meth c Q H0 C hQ hw ls hl
  have hx := C.1
  have hb := C.2.1
  have hl : lv_has ls 1 [(0, .ref (A 0 0))] := hl
  obtain ⟨-, ⟨t1, ht1, hT1⟩, ⟨t2, ht2, hT2⟩, ⟨t, ht, hT⟩, hS, hM⟩ := id hF
  refine lv_aload_n hx hb dX9_back_0 rfl (lv_at hl 0 rfl) ?_
  refine ti_get (ci := 9) (k := 7) (N := 10) (T := TX9) C hw iw_9 rfl ob_0 (by decide) (by decide) fl_X9_47 rfl rfl dX9_back_1 ?_
  refine lv_topi (fun x_1 ex_1 => ?_)
  refine sb_if_ne (tgt := 9) hx hb rfl dX9_back_4 (by decide) (fun c_4_1 => ?_) (fun c_4_1 => ?_)
  · refine lv_aload_n hx hb dX9_back_9 rfl (lv_at hl 0 rfl) ?_
    refine ti_get (ci := 9) (k := 3) (N := 10) (T := TX9) (v := .ref (A 27 0)) C hw iw_9 rfl ob_0 (by decide) (by decide) fl_X9_29 rfl rfl dX9_back_10 ?_
    refine lv_aload_n hx hb dX9_back_13 rfl (lv_at hl 0 rfl) ?_
    refine ti_get (ci := 9) (k := 6) (N := 10) (T := TX9) (v := .ref (A 49 0)) C hw iw_9 rfl ob_0 (by decide) (by decide) fl_X9_44 rfl rfl dX9_back_14 ?_
    obtain ⟨t9, ht9, hT9⟩ := hM (by rw [ex_1] at c_4_1; exact c_4_1)
    refine ti_callVv (ci := 3) (av := [.ref (A 49 0)]) C hw (s_X3_copy l D A cy hJ M hI 27 49 t9 ob_27 ob_49 ht9 (hT9) (fun _ => Or.inr ⟨by decide, by decide⟩)) ⟨ml_X9_298, ym_X3_copy, yv_X3_copy, yi_X3_copy, yc_X3_copy⟩ yd_X3_copy ob_27 (by decide) rfl rfl hl.1 (Nat.le_of_ble_eq_true rfl) ⟨by decide, by decide⟩ ⟨Nat.zero_le _, Nat.zero_le _⟩ dX9_back_17 (fun M_4 H locs hp_4 hw => ?_)
    obtain ⟨iM_4, q_5, q_6⟩ := hp_4
    have q_7 : cF Tc M_4 := cF_now hF iM_4 ht9 (q_5) q_6
    refine lv_aload_n hx hb dX9_back_20 rfl (lv_at hl 0 rfl) ?_
    refine ti_get (ci := 9) (k := 5) (N := 10) (T := TX9) (v := .ref (A 28 0)) C hw iw_9 rfl ob_0 (by decide) (by decide) fl_X9_40 rfl rfl dX9_back_21 ?_
    refine ti_callVv (ci := 5) (av := []) C hw (s_X5_clear l D A cy hJ M_4 iM_4 ) ⟨ml_X9_87, ym_X5_clear, yv_X5_clear, yi_X5_clear, yc_X5_clear⟩ yd_X5_clear ob_28 (by decide) rfl rfl hl.1 (Nat.le_of_ble_eq_true rfl) ⟨by decide, by decide⟩ ⟨Nat.zero_le _, Nat.zero_le _⟩ dX9_back_24 (fun M_9 H locs hp_9 hw => ?_)
    have hM_9 := hp_9
    have iM_9 : cI Tc M_9 := cI_uI iM_4 hM_9 ob_28.1 (ib_mk (lo := 0) (hi := 20) (by decide) (by decide))
    refine lv_aload_n hx hb dX9_back_27 rfl (lv_at hl 0 rfl) ?_
    refine ti_get (ci := 9) (k := 3) (N := 10) (T := TX9) (v := .ref (A 27 0)) C hw iw_9 rfl ob_0 (by decide) (by decide) fl_X9_29 rfl rfl dX9_back_28 ?_
    refine ti_get (ci := 3) (k := 2) (N := 17) (T := TX3) C hw iw_3 rfl ob_27 (by decide) (by decide) fl_X9_186 rfl rfl dX9_back_31 ?_
    refine lv_topi (fun x_10 ex_10 => ?_)
    have bx_10 : 0 ≤ x_10.toInt ∧ x_10.toInt ≤ 120 := cI_rd iM_9 ob_27.1 ex_10 (Or.inl rfl)
    have ux_10 : (tI M_9 27 2).toInt = x_10.toInt := by rw [ex_10]
    exact hQ _ _ _ _ _ _ hw rfl (⟨(cF_clear q_7 iM_9 hM_9), ((tI_nE hM_9 (nk (by decide))).trans ((q_6 1).2.1)), (tl.trans (tl_I hM_9 (by decide)) (tl_x q_6 ((tT_fr q_5).trans (tT_n _ _ _ _ (nk (by decide)))) ((tT_fr q_5).trans (tT_n _ _ _ _ (nk (by decide))))))⟩) dX9_back_34
  · refine lv_iconst (v := (-1)) hx hb dX9_back_7 (by decide) ?_
    exact hQ _ _ _ _ _ _ hw rfl (⟨hF, rfl, tl.refl⟩) dX9_back_8
set_option maxHeartbeats 4000000 in
set_option maxRecDepth 100000 in
theorem s_X9_count (l : Launch) (D : va_G) (A : Nat → Nat → Nat) (cy : Nat → ClassId) (hJ : ti_inj ti_LT A) (M : ti_M) (hI : cI Tc M) (hF : cF Tc M) (za : Int32) : ti_Ki l yX9_count cX9_count 2 (some .int) 2 ti_LT D A cy M [.ref (A 0 0), .int za] (fun r M2 => cF Tc M2 ∧ tI M2 2 1 = tI M 2 1 ∧ tl M2 M) := by
  refine ti_eI yp_X9_count hJ ti_LT_nd (Nat.le_of_ble_eq_true rfl) ?_
  intro p e s m args below meth c Q H0 C hQ hw ls hl
  have hx := C.1
  have hb := C.2.1
  have hl : lv_has ls 2 [(0, .ref (A 0 0)), (1, .int za)] := hl
  obtain ⟨-, ⟨t1, ht1, hT1⟩, ⟨t2, ht2, hT2⟩, ⟨t, ht, hT⟩, hS, hM⟩ := id hF
  refine lv_iload_n hx hb dX9_count_0 rfl (lv_at hl 1 rfl) ?_
  by_cases s_1_0 : za = 0
  · refine lv_tableIn (tgt := 76) (off := 75) hx hb dX9_count_1 (by rw [s_1_0]; decide) (by rw [s_1_0]; decide) (by rw [s_1_0]; decide) (by decide) ?_
    refine lv_aload_n hx hb dX9_count_76 rfl (lv_at hl 0 rfl) ?_
    refine ti_get (ci := 9) (k := 1) (N := 10) (T := TX9) (v := .ref (A t1 0)) C hw iw_9 rfl ob_0 (by decide) (by decide) fl_X9_19 rfl (ti_Tv (hT1)) dX9_count_77 ?_
    refine ti_get (ci := 8) (k := 4) (N := 12) (T := TX8) C hw iw_8 rfl (ob_t ht1) (by decide) (by decide) fl_X9_301 rfl rfl dX9_count_80 ?_
    refine lv_topi (fun x_2 ex_2 => ?_)
    have bx_2 : 0 ≤ x_2.toInt ∧ x_2.toInt ≤ 8 := cI_rd hI (ob_t ht1).1 ex_2
    have ux_2 : (tI M t1 4).toInt = x_2.toInt := by rw [ex_2]
    exact hQ _ _ _ _ _ _ hw rfl (⟨hF, rfl, tl.refl⟩) dX9_count_83
  · by_cases s_1_1 : za = 1
    · refine lv_tableIn (tgt := 84) (off := 83) hx hb dX9_count_1 (by rw [s_1_1]; decide) (by rw [s_1_1]; decide) (by rw [s_1_1]; decide) (by decide) ?_
      refine lv_aload_n hx hb dX9_count_84 rfl (lv_at hl 0 rfl) ?_
      refine ti_get (ci := 9) (k := 1) (N := 10) (T := TX9) (v := .ref (A t1 0)) C hw iw_9 rfl ob_0 (by decide) (by decide) fl_X9_19 rfl (ti_Tv (hT1)) dX9_count_85 ?_
      refine ti_get (ci := 8) (k := 5) (N := 12) (T := TX8) C hw iw_8 rfl (ob_t ht1) (by decide) (by decide) fl_X9_304 rfl rfl dX9_count_88 ?_
      refine lv_topi (fun x_3 ex_3 => ?_)
      exact hQ _ _ _ _ _ _ hw rfl (⟨hF, rfl, tl.refl⟩) dX9_count_91
    · by_cases s_1_2 : za = 2
      · refine lv_tableIn (tgt := 92) (off := 91) hx hb dX9_count_1 (by rw [s_1_2]; decide) (by rw [s_1_2]; decide) (by rw [s_1_2]; decide) (by decide) ?_
        refine lv_aload_n hx hb dX9_count_92 rfl (lv_at hl 0 rfl) ?_
        refine ti_get (ci := 9) (k := 3) (N := 10) (T := TX9) (v := .ref (A 27 0)) C hw iw_9 rfl ob_0 (by decide) (by decide) fl_X9_29 rfl rfl dX9_count_93 ?_
        refine ti_get (ci := 3) (k := 2) (N := 17) (T := TX3) C hw iw_3 rfl ob_27 (by decide) (by decide) fl_X9_186 rfl rfl dX9_count_96 ?_
        refine lv_topi (fun x_4 ex_4 => ?_)
        have bx_4 : 0 ≤ x_4.toInt ∧ x_4.toInt ≤ 120 := cI_rd hI ob_27.1 ex_4 (Or.inl rfl)
        have ux_4 : (tI M 27 2).toInt = x_4.toInt := by rw [ex_4]
        exact hQ _ _ _ _ _ _ hw rfl (⟨hF, rfl, tl.refl⟩) dX9_count_99
      · by_cases s_1_3 : za = 3
        · refine lv_tableIn (tgt := 100) (off := 99) hx hb dX9_count_1 (by rw [s_1_3]; decide) (by rw [s_1_3]; decide) (by rw [s_1_3]; decide) (by decide) ?_
          refine lv_aload_n hx hb dX9_count_100 rfl (lv_at hl 0 rfl) ?_
          refine ti_get (ci := 9) (k := 3) (N := 10) (T := TX9) (v := .ref (A 27 0)) C hw iw_9 rfl ob_0 (by decide) (by decide) fl_X9_29 rfl rfl dX9_count_101 ?_
          refine ti_get (ci := 3) (k := 3) (N := 17) (T := TX3) C hw iw_3 rfl ob_27 (by decide) (by decide) fl_X9_179 rfl rfl dX9_count_104 ?_
          refine lv_topi (fun x_5 ex_5 => ?_)
          have bx_5 : 0 ≤ x_5.toInt ∧ x_5.toInt ≤ 8 := cI_rd hI ob_27.1 ex_5
          have ux_5 : (tI M 27 3).toInt = x_5.toInt := by rw [ex_5]
          exact hQ _ _ _ _ _ _ hw rfl (⟨hF, rfl, tl.refl⟩) dX9_count_107
        · by_cases s_1_4 : za = 4
          · refine lv_tableIn (tgt := 108) (off := 107) hx hb dX9_count_1 (by rw [s_1_4]; decide) (by rw [s_1_4]; decide) (by rw [s_1_4]; decide) (by decide) ?_
            refine lv_aload_n hx hb dX9_count_108 rfl (lv_at hl 0 rfl) ?_
            refine ti_get (ci := 9) (k := 3) (N := 10) (T := TX9) (v := .ref (A 27 0)) C hw iw_9 rfl ob_0 (by decide) (by decide) fl_X9_29 rfl rfl dX9_count_109 ?_
            refine lv_iconst (v := 2) hx hb dX9_count_112 (by decide) ?_
            refine ti_callVi (ci := 3) (av := [.int 2]) C hw (s_X3_howMany l D A cy hJ M hI 27 t ob_27 ht (hT) 2) ⟨ml_X9_307, ym_X3_howMany, yv_X3_howMany, yi_X3_howMany, yc_X3_howMany⟩ yd_X3_howMany ob_27 (by decide) rfl rfl hl.1 (Nat.le_of_ble_eq_true rfl) ⟨by decide, by decide⟩ ⟨Nat.zero_le _, Nat.zero_le _⟩ dX9_count_113 (fun r_6 M_7 H locs hp_7 hw => ?_)
            have hm := hp_7
            have hw := hw.to hm
            exact hQ _ _ _ _ _ _ hw rfl (⟨hF, rfl, tl.refl⟩) dX9_count_116
          · by_cases s_1_5 : za = 5
            · refine lv_tableIn (tgt := 117) (off := 116) hx hb dX9_count_1 (by rw [s_1_5]; decide) (by rw [s_1_5]; decide) (by rw [s_1_5]; decide) (by decide) ?_
              refine lv_aload_n hx hb dX9_count_117 rfl (lv_at hl 0 rfl) ?_
              refine ti_get (ci := 9) (k := 3) (N := 10) (T := TX9) (v := .ref (A 27 0)) C hw iw_9 rfl ob_0 (by decide) (by decide) fl_X9_29 rfl rfl dX9_count_118 ?_
              refine lv_iconst (v := 3) hx hb dX9_count_121 (by decide) ?_
              refine ti_callVi (ci := 3) (av := [.int 3]) C hw (s_X3_howMany l D A cy hJ M hI 27 t ob_27 ht (hT) 3) ⟨ml_X9_307, ym_X3_howMany, yv_X3_howMany, yi_X3_howMany, yc_X3_howMany⟩ yd_X3_howMany ob_27 (by decide) rfl rfl hl.1 (Nat.le_of_ble_eq_true rfl) ⟨by decide, by decide⟩ ⟨Nat.zero_le _, Nat.zero_le _⟩ dX9_count_122 (fun r_8 M_9 H locs hp_9 hw => ?_)
              have hm := hp_9
              have hw := hw.to hm
              exact hQ _ _ _ _ _ _ hw rfl (⟨hF, rfl, tl.refl⟩) dX9_count_125
            · by_cases s_1_6 : za = 6
              · refine lv_tableIn (tgt := 126) (off := 125) hx hb dX9_count_1 (by rw [s_1_6]; decide) (by rw [s_1_6]; decide) (by rw [s_1_6]; decide) (by decide) ?_
                refine lv_aload_n hx hb dX9_count_126 rfl (lv_at hl 0 rfl) ?_
                refine ti_get (ci := 9) (k := 3) (N := 10) (T := TX9) (v := .ref (A 27 0)) C hw iw_9 rfl ob_0 (by decide) (by decide) fl_X9_29 rfl rfl dX9_count_127 ?_
                refine ti_get (ci := 3) (k := 4) (N := 17) (T := TX3) C hw iw_3 rfl ob_27 (by decide) (by decide) fl_X9_310 rfl rfl dX9_count_130 ?_
                refine lv_topi (fun x_10 ex_10 => ?_)
                exact hQ _ _ _ _ _ _ hw rfl (⟨hF, rfl, tl.refl⟩) dX9_count_133
              · by_cases s_1_7 : za = 7
                · refine lv_tableIn (tgt := 134) (off := 133) hx hb dX9_count_1 (by rw [s_1_7]; decide) (by rw [s_1_7]; decide) (by rw [s_1_7]; decide) (by decide) ?_
                  refine lv_aload_n hx hb dX9_count_134 rfl (lv_at hl 0 rfl) ?_
                  refine ti_get (ci := 9) (k := 3) (N := 10) (T := TX9) (v := .ref (A 27 0)) C hw iw_9 rfl ob_0 (by decide) (by decide) fl_X9_29 rfl rfl dX9_count_135 ?_
                  refine ti_callVi (ci := 3) (av := []) C hw (s_X3_allCoin l D A cy hJ M hI 27 t ob_27 ht (hT)) ⟨ml_X9_313, ym_X3_allCoin, yv_X3_allCoin, yi_X3_allCoin, yc_X3_allCoin⟩ yd_X3_allCoin ob_27 (by decide) rfl rfl hl.1 (Nat.le_of_ble_eq_true rfl) ⟨by decide, by decide⟩ ⟨Nat.zero_le _, Nat.zero_le _⟩ dX9_count_138 (fun r_11 M_12 H locs hp_12 hw => ?_)
                  have hm := hp_12
                  have hw := hw.to hm
                  exact hQ _ _ _ _ _ _ hw rfl (⟨hF, rfl, tl.refl⟩) dX9_count_141
                · by_cases s_1_8 : za = 8
                  · refine lv_tableIn (tgt := 142) (off := 141) hx hb dX9_count_1 (by rw [s_1_8]; decide) (by rw [s_1_8]; decide) (by rw [s_1_8]; decide) (by decide) ?_
                    refine lv_aload_n hx hb dX9_count_142 rfl (lv_at hl 0 rfl) ?_
                    refine ti_get (ci := 9) (k := 8) (N := 10) (T := TX9) (v := .ref (A 50 0)) C hw iw_9 rfl ob_0 (by decide) (by decide) fl_X9_54 rfl rfl dX9_count_143 ?_
                    refine ti_get (ci := 6) (k := 5) (N := 13) (T := TX6) C hw iw_6 rfl ob_50 (by decide) (by decide) fl_X9_317 rfl rfl dX9_count_146 ?_
                    refine lv_topi (fun x_13 ex_13 => ?_)
                    have bx_13 : 0 ≤ x_13.toInt ∧ x_13.toInt ≤ 24 := cI_rd hI ob_50.1 ex_13
                    have ux_13 : (tI M 50 5).toInt = x_13.toInt := by rw [ex_13]
                    exact hQ _ _ _ _ _ _ hw rfl (⟨hF, rfl, tl.refl⟩) dX9_count_149
                  · by_cases s_1_9 : za = 9
                    · refine lv_tableIn (tgt := 150) (off := 149) hx hb dX9_count_1 (by rw [s_1_9]; decide) (by rw [s_1_9]; decide) (by rw [s_1_9]; decide) (by decide) ?_
                      refine lv_aload_n hx hb dX9_count_150 rfl (lv_at hl 0 rfl) ?_
                      refine ti_get (ci := 9) (k := 8) (N := 10) (T := TX9) (v := .ref (A 50 0)) C hw iw_9 rfl ob_0 (by decide) (by decide) fl_X9_54 rfl rfl dX9_count_151 ?_
                      refine ti_callVi (ci := 6) (av := []) C hw (s_X6_knownBy l D A cy hJ M hI ) ⟨ml_X9_318, ym_X6_knownBy, yv_X6_knownBy, yi_X6_knownBy, yc_X6_knownBy⟩ yd_X6_knownBy ob_50 (by decide) rfl rfl hl.1 (Nat.le_of_ble_eq_true rfl) ⟨by decide, by decide⟩ ⟨Nat.zero_le _, Nat.zero_le _⟩ dX9_count_154 (fun r_14 M_15 H locs hp_15 hw => ?_)
                      obtain ⟨hm, b0r_14, b1r_14⟩ := hp_15
                      have hw := hw.to hm
                      exact hQ _ _ _ _ _ _ hw rfl (⟨hF, rfl, tl.refl⟩) dX9_count_157
                    · by_cases s_1_10 : za = 10
                      · refine lv_tableIn (tgt := 158) (off := 157) hx hb dX9_count_1 (by rw [s_1_10]; decide) (by rw [s_1_10]; decide) (by rw [s_1_10]; decide) (by decide) ?_
                        refine lv_aload_n hx hb dX9_count_158 rfl (lv_at hl 0 rfl) ?_
                        refine ti_get (ci := 9) (k := 5) (N := 10) (T := TX9) (v := .ref (A 28 0)) C hw iw_9 rfl ob_0 (by decide) (by decide) fl_X9_40 rfl rfl dX9_count_159 ?_
                        refine ti_get (ci := 5) (k := 2) (N := 3) (T := TX5) C hw iw_5 rfl ob_28 (by decide) (by decide) fl_X9_297 rfl rfl dX9_count_162 ?_
                        refine lv_topi (fun x_16 ex_16 => ?_)
                        have bx_16 : 0 ≤ x_16.toInt ∧ x_16.toInt ≤ 20 := cI_rd hI ob_28.1 ex_16
                        have ux_16 : (tI M 28 2).toInt = x_16.toInt := by rw [ex_16]
                        exact hQ _ _ _ _ _ _ hw rfl (⟨hF, rfl, tl.refl⟩) dX9_count_165
                      · by_cases s_1_11 : za = 11
                        · refine lv_tableIn (tgt := 166) (off := 165) hx hb dX9_count_1 (by rw [s_1_11]; decide) (by rw [s_1_11]; decide) (by rw [s_1_11]; decide) (by decide) ?_
                          refine lv_aload_n hx hb dX9_count_166 rfl (lv_at hl 0 rfl) ?_
                          refine ti_get (ci := 9) (k := 3) (N := 10) (T := TX9) (v := .ref (A 27 0)) C hw iw_9 rfl ob_0 (by decide) (by decide) fl_X9_29 rfl rfl dX9_count_167 ?_
                          refine ti_get (ci := 3) (k := 7) (N := 17) (T := TX3) (v := .ref (A 27 8)) C hw iw_3 rfl ob_27 (by decide) (by decide) fl_X9_168 rfl rfl dX9_count_170 ?_
                          refine lv_iconst (v := 0) hx hb dX9_count_173 (by decide) ?_
                          refine ti_iald (ci := 3) (k := 7) (n := 3) C hw ob_27 (by decide) (fun _ _ => rfl) (by unfold vp_in; decide) dX9_count_174 ?_
                          refine lv_topi (fun x_17 ex_17 => ?_)
                          exact hQ _ _ _ _ _ _ hw rfl (⟨hF, rfl, tl.refl⟩) dX9_count_175
                        · by_cases s_1_12 : za = 12
                          · refine lv_tableIn (tgt := 176) (off := 175) hx hb dX9_count_1 (by rw [s_1_12]; decide) (by rw [s_1_12]; decide) (by rw [s_1_12]; decide) (by decide) ?_
                            refine lv_aload_n hx hb dX9_count_176 rfl (lv_at hl 0 rfl) ?_
                            refine ti_get (ci := 9) (k := 3) (N := 10) (T := TX9) (v := .ref (A 27 0)) C hw iw_9 rfl ob_0 (by decide) (by decide) fl_X9_29 rfl rfl dX9_count_177 ?_
                            refine ti_get (ci := 3) (k := 7) (N := 17) (T := TX3) (v := .ref (A 27 8)) C hw iw_3 rfl ob_27 (by decide) (by decide) fl_X9_168 rfl rfl dX9_count_180 ?_
                            refine lv_iconst (v := 1) hx hb dX9_count_183 (by decide) ?_
                            refine ti_iald (ci := 3) (k := 7) (n := 3) C hw ob_27 (by decide) (fun _ _ => rfl) (by unfold vp_in; decide) dX9_count_184 ?_
                            refine lv_topi (fun x_18 ex_18 => ?_)
                            exact hQ _ _ _ _ _ _ hw rfl (⟨hF, rfl, tl.refl⟩) dX9_count_185
                          · by_cases s_1_13 : za = 13
                            · refine lv_tableIn (tgt := 186) (off := 185) hx hb dX9_count_1 (by rw [s_1_13]; decide) (by rw [s_1_13]; decide) (by rw [s_1_13]; decide) (by decide) ?_
                              refine lv_aload_n hx hb dX9_count_186 rfl (lv_at hl 0 rfl) ?_
                              refine ti_get (ci := 9) (k := 3) (N := 10) (T := TX9) (v := .ref (A 27 0)) C hw iw_9 rfl ob_0 (by decide) (by decide) fl_X9_29 rfl rfl dX9_count_187 ?_
                              refine ti_get (ci := 3) (k := 7) (N := 17) (T := TX3) (v := .ref (A 27 8)) C hw iw_3 rfl ob_27 (by decide) (by decide) fl_X9_168 rfl rfl dX9_count_190 ?_
                              refine lv_iconst (v := 2) hx hb dX9_count_193 (by decide) ?_
                              refine ti_iald (ci := 3) (k := 7) (n := 3) C hw ob_27 (by decide) (fun _ _ => rfl) (by unfold vp_in; decide) dX9_count_194 ?_
                              refine lv_topi (fun x_19 ex_19 => ?_)
                              exact hQ _ _ _ _ _ _ hw rfl (⟨hF, rfl, tl.refl⟩) dX9_count_195
                            · by_cases s_1_14 : za = 14
                              · refine lv_tableIn (tgt := 196) (off := 195) hx hb dX9_count_1 (by rw [s_1_14]; decide) (by rw [s_1_14]; decide) (by rw [s_1_14]; decide) (by decide) ?_
                                refine lv_aload_n hx hb dX9_count_196 rfl (lv_at hl 0 rfl) ?_
                                refine ti_get (ci := 9) (k := 3) (N := 10) (T := TX9) (v := .ref (A 27 0)) C hw iw_9 rfl ob_0 (by decide) (by decide) fl_X9_29 rfl rfl dX9_count_197 ?_
                                refine ti_callVi (ci := 3) (av := []) C hw (s_X3_allCoughs l D A cy hJ M hI 27 t ob_27 ht (hT)) ⟨ml_X9_321, ym_X3_allCoughs, yv_X3_allCoughs, yi_X3_allCoughs, yc_X3_allCoughs⟩ yd_X3_allCoughs ob_27 (by decide) rfl rfl hl.1 (Nat.le_of_ble_eq_true rfl) ⟨by decide, by decide⟩ ⟨Nat.zero_le _, Nat.zero_le _⟩ dX9_count_200 (fun r_20 M_21 H locs hp_21 hw => ?_)
                                have hm := hp_21
                                have hw := hw.to hm
                                exact hQ _ _ _ _ _ _ hw rfl (⟨hF, rfl, tl.refl⟩) dX9_count_203
                              · refine lv_tableOut (tgt := 204) hx hb dX9_count_1 (ti_out (lo := 0) (hi := 14) za (fun v h1 h2 => by rcases (show v = 0 ∨ v = 1 ∨ v = 2 ∨ v = 3 ∨ v = 4 ∨ v = 5 ∨ v = 6 ∨ v = 7 ∨ v = 8 ∨ v = 9 ∨ v = 10 ∨ v = 11 ∨ v = 12 ∨ v = 13 ∨ v = 14 by omega) with rfl | rfl | rfl | rfl | rfl | rfl | rfl | rfl | rfl | rfl | rfl | rfl | rfl | rfl | rfl <;> first | exact ti_nev 0 s_1_0 (by decide) | exact ti_nev 1 s_1_1 (by decide) | exact ti_nev 2 s_1_2 (by decide) | exact ti_nev 3 s_1_3 (by decide) | exact ti_nev 4 s_1_4 (by decide) | exact ti_nev 5 s_1_5 (by decide) | exact ti_nev 6 s_1_6 (by decide) | exact ti_nev 7 s_1_7 (by decide) | exact ti_nev 8 s_1_8 (by decide) | exact ti_nev 9 s_1_9 (by decide) | exact ti_nev 10 s_1_10 (by decide) | exact ti_nev 11 s_1_11 (by decide) | exact ti_nev 12 s_1_12 (by decide) | exact ti_nev 13 s_1_13 (by decide) | exact ti_nev 14 s_1_14 (by decide))) (by decide) ?_
                                refine lv_iconst (v := (-1)) hx hb dX9_count_204 (by decide) ?_
                                exact hQ _ _ _ _ _ _ hw rfl (⟨hF, rfl, tl.refl⟩) dX9_count_205

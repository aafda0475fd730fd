variable {Tc : gC} {Tm : gM}
section
variable {B : Nat → Int} {n : Nat} {s x : Nat → Int}
theorem lb_x (h : 8 < s 0) : pp_lb B n s = pp_rf 1 s := by
  unfold pp_lb
  rw [if_neg (by omega), if_neg (by omega), if_neg (by omega), if_neg (by omega), if_neg (by omega), if_neg (by omega), if_neg (by omega), if_neg (by omega), if_neg (by omega)]
theorem fk_e (e : s = x) (z : fz x) : fk s x := by subst e; exact fk.refl z
theorem ln_k (k : fk (pp_lb B n s) x) (z : fz x) : fk (pp_ln B n s) x := by
  unfold pp_ln
  have q := (tk_f (B := B) (n := n) (k := 29) (k.zz z) (by decide)).trans k
  exact (l9_f (q.zz z)).trans q
theorem l9_k {v : Int} (z : fz s) : fk (pp_l9 s) (pp_su s 9 v) := fk_l (l9_f z) (fk_su z (by decide))
theorem lb_0 (h : s 0 = 0) (h7 : ¬ s 7 < 8) : pp_lb B n s = pp_rf 2 s := by
  unfold pp_lb
  rw [if_pos h, mn_q, if_neg h7]
theorem lb_3 (h : 3 ≤ s 0 ∧ s 0 ≤ 7) (hb : ¬ s (300 + (s 0).toNat) = 0) : fk (pp_lb B n s) (pp_rf 3 s) := by
  have z : fz (pp_rf 3 s) := ⟨rf_4 (by decide), rf_0⟩
  have e : pp_on B n s = pp_rf 3 s := by unfold pp_on; rw [if_neg hb]
  unfold pp_lb
  rw [if_neg (by omega), if_neg (by omega), if_neg (by omega), e]
  repeat' split
  · have q := nb_f (B := B) (n := n) (lo := 0) (mo := 999) z
    exact (nb_f (q.zz z)).trans q
  all_goals first | exact nb_f z | omega
end
set_option maxHeartbeats 4000000 in
set_option maxRecDepth 100000 in
theorem x_X10_line (l : Launch) (D : va_G) (A : Nat → Nat → Nat) (cy : Nat → ClassId) (hJ : ti_inj ti_LM A) (M : ti_M) (hI : mI Tm M) (hf : ff M = 1) (hum : um M) (h1 : (tY M 60 3 18).toInt ≤ (tI M 60 30).toInt + 64 - 64 * ff M) (h2 : (tI M 60 29).toInt ≤ 8 - 8 * ff M) (hs : pg M = 2 * (tI M 60 21).toInt) (B : Nat → Int) (n : Nat) (rg : Nat → Int) (hr : rQ B n rg M) (h9 : 0 ≤ rg 9 ∧ rg 9 ≤ 100000) : ti_KvE l yX10_line cX10_line 2 651 ti_LM D A cy M [.ref (A 60 0)] (fun M2 => rQ B n (pp_ln B n rg) M2 ∧ mI Tm M2 ∧ ln M2 M ∧ (pg M + 2 * ff M2 ≤ pg M2) ∧ (0 ≤ ff M2) ∧ (ff M2 ≤ 1) ∧ ((tY M2 60 3 18).toInt ≤ (tI M2 60 30).toInt + 64 - 64 * ff M2) ∧ ((tI M2 60 29).toInt ≤ 8 - 8 * ff M2) ∧ (0 ≤ (tY M2 60 3 18).toInt) ∧ ((tY M2 60 3 18).toInt ≤ 64) ∧ (0 ≤ (tI M2 60 29).toInt) ∧ ((tI M2 60 29).toInt ≤ 8) ∧ (0 ≤ (tI M2 60 30).toInt) ∧ ((tI M2 60 30).toInt ≤ 64) ∧ um M2) := by
  refine ti_eVE yp_X10_line hJ ti_LM_nd (Nat.le_of_ble_eq_true rfl) ?_
  intro p e s m args below meth c Q H0 C hE hQ hw ls hl
  have hx := C.1
  have hb := C.2.1
  have hl : lv_has ls 2 [(0, .ref (A 60 0))] := hl
  have hI30 := b30 hI
  have hI29 := b29 hI
  have hI18 := b18 hI
  have hIff := ff_b M
  refine lv_aload_n hx hb dX10_line_0 rfl (lv_at hl 0 rfl) ?_
  refine ti_get (ci := 10) (k := 23) (N := 67) (T := TX10) C hw iw_10 rfl ob_60 (by decide) (by decide) fl_X10_173 rfl rfl dX10_line_1 ?_
  refine lv_topi (fun x_1 ex_1 => ?_)
  have uqu_2 : (tI M 60 23).toInt = x_1.toInt := by rw [(ex_1.symm)]
  refine sb_if_ne (tgt := 16) hx hb rfl dX10_line_4 (by decide) (fun c_4_2 => ?_) (fun c_4_2 => ?_)
  · refine lv_aload_n hx hb dX10_line_16 rfl (lv_at hl 0 rfl) ?_
    refine lv_iconst (v := 1) hx hb dX10_line_17 (by decide) ?_
    refine ti_callVv (ci := 10) (av := [.int 1]) C hw (x_X10_wrong l D A cy hJ M hI 1 (by decide) B n rg hr) ⟨ml_X10_217, ym_X10_wrong, yv_X10_wrong, yi_X10_wrong, yc_X10_wrong⟩ yd_X10_wrong ob_60 (by decide) rfl rfl hl.1 (Nat.le_of_ble_eq_true rfl) ⟨by decide, by decide⟩ ⟨Nat.zero_le _, Nat.zero_le _⟩ dX10_line_18 (fun M_8 H locs hp_8 hw => ?_)
    rw [show (1 : Int32).toInt = 1 by decide] at hp_8
    obtain ⟨hs_9, hp_10⟩ := hp_8
    obtain ⟨iM_8, q_11, z_12, z_13, z_14, z_15, z_16⟩ := l_wr hp_10
    clear hp_10
    obtain ⟨g_17, eg_17⟩ : ∃ z : Nat → Int, z = pp_rf 1 rg := ⟨_, rfl⟩
    rw [← eg_17] at hs_9
    exact hQ _ _ _ _ _ hw (⟨(rQ_f hs_9 (rQ_g1 hs_9 (by omega)) (ln_k (fk_e ((lb_x (by have e := (pT_nw (rQ_T hr hf)).2.2; omega)).trans eg_17.symm) (rQ_z hs_9 (rQ_g1 hs_9 (by omega)))) (rQ_z hs_9 (rQ_g1 hs_9 (by omega))))), iM_8, (ln_l0 (l0_pr q_11 (by decide) (by decide))), (by omega), (by omega), (by omega), (by omega), (by omega), (by omega), (by omega), (by omega), (by omega), (by omega), (by omega), (um_l0 hum (l0_pr q_11 (by decide) (by decide)) (by omega))⟩) dX10_line_21
  · refine lv_aload_n hx hb dX10_line_7 rfl (lv_at hl 0 rfl) ?_
    refine ti_get (ci := 10) (k := 24) (N := 67) (T := TX10) C hw iw_10 rfl ob_60 (by decide) (by decide) fl_X10_183 rfl rfl dX10_line_8 ?_
    refine lv_topi (fun x_4 ex_4 => ?_)
    have uqu_5 : (tI M 60 24).toInt = x_4.toInt := by rw [(ex_4.symm)]
    refine lv_bipush (v := 8) hx hb dX10_line_11 (by decide) ?_
    refine sb_icmp_le (tgt := 22) hx hb rfl (by decide : (8 : Int32).toInt = 8) dX10_line_13 (by decide) (fun c_13_5 => ?_) (fun c_13_5 => ?_)
    · refine lv_aload_n hx hb dX10_line_22 rfl (lv_at hl 0 rfl) ?_
      refine ti_get (ci := 10) (k := 24) (N := 67) (T := TX10) C hw iw_10 rfl ob_60 (by decide) (by decide) fl_X10_183 rfl rfl dX10_line_23 ?_
      refine ti_top (y := x_4) (ex_4.symm) ?_
      have uqu_29 : (tI M 60 24).toInt = x_4.toInt := by rw [(ex_4.symm)]
      refine lv_istore_n (lv' := [(1, .int x_4), (0, .ref (A 60 0))]) hx hb dX10_line_26 rfl hl (by decide) rfl (fun ls hl => ?_)
      refine lv_iload_n hx hb dX10_line_27 rfl (lv_at hl 0 rfl) ?_
      have hj_49_45 : ∀  (H : Heap) (locs : List Loc) (ls : Array Slot), (x_4.toInt ≠ 0 ∨ (tY M 60 3 11).toInt ≤ 7) → ti_H ti_LM D A cy H0 M H locs → lv_has ls 2 [(1, .int x_4), (0, .ref (A 60 0))] → W p l e (ti_rm 651) s m args below meth c H locs 0 0 Q (F0 m 49 ls []) := by
        intro  H locs ls j_45 hw hl
        refine lv_iload_n hx hb dX10_line_49 rfl (lv_at hl 0 rfl) ?_
        refine lv_iconst (v := 3) hx hb dX10_line_50 (by decide) ?_
        have hj_85_84 : ∀  (H : Heap) (locs : List Loc) (ls : Array Slot), (x_4.toInt ≠ 0 ∨ (tY M 60 3 11).toInt ≤ 7) → (pp_bt (tI M 60 18) (x_4.toInt).toNat = 0 ∨ x_4.toInt < 3 ∨ 7 < x_4.toInt) → ti_H ti_LM D A cy H0 M H locs → lv_has ls 2 [(1, .int x_4), (0, .ref (A 60 0))] → W p l e (ti_rm 651) s m args below meth c H locs 0 0 Q (F0 m 85 ls []) := by
          intro  H locs ls j_83 j_84 hw hl
          have e3 := (pT_pw (rQ_T hr hf)).2.2 ⟨by omega, by omega⟩
          have r0 := rQ_g0 hr hf
          have m7 := mh_7 hr r0 rfl
          refine lv_aload_n hx hb dX10_line_85 rfl (lv_at hl 1 rfl) ?_
          refine lv_dup hx hb dX10_line_86 rfl ?_
          refine ti_get (ci := 10) (k := 18) (N := 67) (T := TX10) C hw iw_10 rfl ob_60 (by decide) (by decide) fl_X10_228 rfl rfl dX10_line_87 ?_
          refine lv_topi (fun x_85 ex_85 => ?_)
          refine lv_iconst (v := 1) hx hb dX10_line_90 (by decide) ?_
          refine lv_iload_n hx hb dX10_line_91 rfl (lv_at hl 0 rfl) ?_
          refine lv_ishl hx hb dX10_line_92 ?_
          refine lv_topi (fun x_86 ex_86 => ?_)
          refine lv_ior hx hb dX10_line_93 ?_
          refine lv_topi (fun x_87 ex_87 => ?_)
          refine ti_putI (ci := 10) (k := 18) (N := 67) (T := TX10) C hw iw_10 tyX10 tyX10_ok nmX10 rfl ob_60 (by decide) (by decide) fl_X10_228 rfl rfl rfl rfl (fn_10 A _) fs_10_18 dX10_line_94 (fun H locs hw => ?_)
          obtain ⟨M_88, hM_88⟩ : ∃ z : ti_M, z = uI M 60 18 x_87 := ⟨_, rfl⟩
          have hw := hw.to hM_88.symm
          have iM_88 : mI Tm M_88 := mI_uI hI hM_88 (by decide) (by decide) trivial
          have z_89 : ff M_88 = ff M := ff_I hM_88 (by decide)
          have z_90 : pg M_88 = pg M := pg_I hM_88 (by decide)
          have z_91 : (tI M_88 60 29).toInt = (tI M 60 29).toInt := by rw [tI_nE hM_88 (nk (by decide))]
          have z_92 : (tI M_88 60 30).toInt = (tI M 60 30).toInt := by rw [tI_nE hM_88 (nk (by decide))]
          have z_93 : (tY M_88 60 3 18).toInt = (tY M 60 3 18).toInt := by rw [tY_uIE hM_88]
          have hs_94 := rQ_18w (k0 := (x_4.toInt).toNat) hr hM_88 (fun j hj => (bt_or (k := x_4.toInt) ex_86 rfl (by omega) (by omega) ex_87 j hj).trans (by rw [← (ex_85.symm)])) (by omega) (by omega)
          obtain ⟨g_95, eg_95⟩ : ∃ z : Nat → Int, z = pp_o1 rg := ⟨_, rfl⟩
          rw [← eg_95] at hs_94
          have z_96 : (tI M_88 60 21).toInt = (tI M 60 21).toInt := by rw [tI_nE hM_88 (nk (by decide))]
          refine lv_aload_n hx hb dX10_line_97 rfl (lv_at hl 1 rfl) ?_
          refine ti_callVvE (ci := 10) (av := []) C hE hw (x_X10_token l D A cy hJ M_88 iM_88 ) ⟨ml_X10_214, ym_X10_token, yv_X10_token, yi_X10_token, yc_X10_token⟩ yd_X10_token ob_60 (by decide) rfl rfl hl.1 (Nat.le_of_ble_eq_true rfl) ⟨by decide, by decide⟩ ⟨Nat.zero_le _, Nat.zero_le _⟩ dX10_line_98 (fun M_98 H locs hp_98 hw => ?_)
          obtain ⟨iM_98, q_101, z_99, z_100, k2M_98, k3M_98, k4M_98⟩ := hp_98
          have hs_102 := rQ_av hs_94 (rQ_g0 hs_94 (by omega)) (iM_88.1 21).1 q_101 k2M_98 k3M_98 k4M_98
          obtain ⟨-, -, z_103, z_104, z_105, z_106, z_107, z_108⟩ := l_tk ⟨iM_98, q_101, z_99, z_100⟩
          clear z_99 z_100 k2M_98 k3M_98 k4M_98
          obtain ⟨g_109, eg_109⟩ : ∃ z : Nat → Int, z = pp_av B n g_95 := ⟨_, rfl⟩
          rw [← eg_109] at hs_102
          refine lv_iload_n hx hb dX10_line_101 rfl (lv_at hl 0 rfl) ?_
          have hj_270_291 : ∀ (M_275 : ti_M) (g_277 : Nat → Int) (H : Heap) (locs : List Loc) (ls : Array Slot), (mI Tm M_275) → (ln M_275 M) → (rQ B n g_277 M_275) → (g_277 = pp_lb B n rg) → (pg M + 1 ≤ pg M_275) → (0 ≤ ff M_275) → (ff M_275 ≤ 1) → ((tY M_275 60 3 18).toInt ≤ (tI M_275 60 30).toInt + 64 - 64 * ff M_275) → ((tI M_275 60 29).toInt ≤ 8 - 8 * ff M_275) → (0 ≤ (tY M_275 60 3 18).toInt) → ((tY M_275 60 3 18).toInt ≤ 64) → (0 ≤ (tI M_275 60 29).toInt) → ((tI M_275 60 29).toInt ≤ 8) → (0 ≤ (tI M_275 60 30).toInt) → ((tI M_275 60 30).toInt ≤ 64) → (um M_275) → ti_H ti_LM D A cy H0 M_275 H locs → lv_has ls 2 [(1, .int x_4), (0, .ref (A 60 0))] → W p l e (ti_rm 651) s m args below meth c H locs 0 0 Q (F0 m 270 ls []) := by
            intro M_275 g_277 H locs ls iM_275 f_276 hs_278 j_279 j_280 j_281 j_282 j_283 j_284 j_285 j_286 j_287 j_288 j_289 j_290 j_291 hw hl
            refine lv_aload_n hx hb dX10_line_270 rfl (lv_at hl 1 rfl) ?_
            refine ti_get (ci := 10) (k := 25) (N := 67) (T := TX10) C hw iw_10 rfl ob_60 (by decide) (by decide) fl_X10_208 rfl rfl dX10_line_271 ?_
            refine lv_topi (fun x_292 ex_292 => ?_)
            have u_293 : (tI M_275 60 25).toInt = x_292.toInt := by rw [ex_292]
            have ufx_292 : (tI M_275 60 25).toInt = x_292.toInt := by rw [ex_292]
            refine sb_if_eq (tgt := 278) hx hb rfl dX10_line_274 (by decide) (fun c_274_293 => ?_) (fun c_274_293 => ?_)
            · have z_295 : ff M_275 = 1 := ff_1 (ufx_292.trans c_274_293)
              clear c_274_293
              refine lv_aload_n hx hb dX10_line_278 rfl (lv_at hl 1 rfl) ?_
              refine lv_bipush (v := 59) hx hb dX10_line_279 (by decide) ?_
              refine ti_callVi (ci := 10) (av := [.int 59]) C hw (x_X10_isSign l D A cy hJ M_275 iM_275 59) ⟨ml_X10_251, ym_X10_isSign, yv_X10_isSign, yi_X10_isSign, yc_X10_isSign⟩ yd_X10_isSign ob_60 (by decide) rfl rfl hl.1 (Nat.le_of_ble_eq_true rfl) ⟨by decide, by decide⟩ ⟨Nat.zero_le _, Nat.zero_le _⟩ dX10_line_281 (fun r_296 M_297 H locs hp_297 hw => ?_)
              obtain ⟨hm, hz⟩ := hp_297
              have hw := hw.to hm
              rcases hz with ⟨rfl, d0_298, d1_298, d2_298⟩ | ⟨rfl, d3_298⟩
              · have dk_298 := rQ_s1 (k := 29) hs_278 d0_298 d1_298 d2_298 (by decide)
                have z_299 : ff M_275 = 1 := ff_1 d0_298
                have z_300 : pg M_275 = 2 * (tI M_275 60 21).toInt := pg_3 (by rw [d1_298]; decide)
                clear d0_298 d1_298 d2_298
                refine sb_if_ne (tgt := 295) hx hb (by decide : (1 : Int32).toInt = 1) dX10_line_284 (by decide) (fun c_284_300 => ?_) (fun h => absurd h (by decide))
                refine lv_aload_n hx hb dX10_line_295 rfl (lv_at hl 1 rfl) ?_
                refine ti_callVvE (ci := 10) (av := []) C hE hw (x_X10_token l D A cy hJ M_275 iM_275 ) ⟨ml_X10_214, ym_X10_token, yv_X10_token, yi_X10_token, yc_X10_token⟩ yd_X10_token ob_60 (by decide) rfl rfl hl.1 (Nat.le_of_ble_eq_true rfl) ⟨by decide, by decide⟩ ⟨Nat.zero_le _, Nat.zero_le _⟩ dX10_line_296 (fun M_315 H locs hp_315 hw => ?_)
                obtain ⟨iM_315, q_318, z_316, z_317, k2M_315, k3M_315, k4M_315⟩ := hp_315
                have hs_319 := rQ_av hs_278 (rQ_g0 hs_278 (by omega)) (iM_275.1 21).1 q_318 k2M_315 k3M_315 k4M_315
                obtain ⟨-, -, z_320, z_321, z_322, z_323, z_324, z_325⟩ := l_tk ⟨iM_315, q_318, z_316, z_317⟩
                clear z_316 z_317 k2M_315 k3M_315 k4M_315
                obtain ⟨g_326, eg_326⟩ : ∃ z : Nat → Int, z = pp_av B n g_277 := ⟨_, rfl⟩
                rw [← eg_326] at hs_319
                refine lv_aload_n hx hb dX10_line_299 rfl (lv_at hl 1 rfl) ?_
                refine lv_dup hx hb dX10_line_300 rfl ?_
                refine ti_get (ci := 10) (k := 19) (N := 67) (T := TX10) C hw iw_10 rfl ob_60 (by decide) (by decide) fl_X10_254 rfl rfl dX10_line_301 ?_
                refine lv_topi (fun x_338 ex_338 => ?_)
                refine lv_iconst (v := 1) hx hb dX10_line_304 (by decide) ?_
                have r9 := rQ_g0 hs_319 (show ff M_315 = 1 by omega)
                have x9 : g_326 9 = (x_338 : Int32).toInt := ((hs_319.2.2.2 r9).2.2.1.2.2).trans (congrArg Int32.toInt (ex_338.symm))
                have y9 : g_326 9 = rg 9 := by rw [eg_326, av_n (by decide), j_279]; exact lb_9
                refine lv_iadd hx hb dX10_line_305 ?_
                refine lv_topi (fun x_339 ex_339 => ?_)
                have lox_339x_338 := x_338.le_toInt
                have hix_339x_338 := x_338.toInt_lt
                have tx_339 : x_339.toInt = x_338.toInt + 1 := i_add ex_339 rfl (by decide : (1 : Int32).toInt = 1) (by omega) (by omega)
                refine ti_putI (ci := 10) (k := 19) (N := 67) (T := TX10) C hw iw_10 tyX10 tyX10_ok nmX10 rfl ob_60 (by decide) (by decide) fl_X10_254 rfl rfl rfl rfl (fn_10 A _) fs_10_19 dX10_line_306 (fun H locs hw => ?_)
                obtain ⟨M_340, hM_340⟩ : ∃ z : ti_M, z = uI M_315 60 19 x_339 := ⟨_, rfl⟩
                have hw := hw.to hM_340.symm
                have iM_340 : mI Tm M_340 := mI_uI iM_315 hM_340 (by decide) (by decide) trivial
                have z_341 : ff M_340 = ff M_315 := ff_I hM_340 (by decide)
                have z_342 : pg M_340 = pg M_315 := pg_I hM_340 (by decide)
                have z_343 : (tI M_340 60 29).toInt = (tI M_315 60 29).toInt := by rw [tI_nE hM_340 (nk (by decide))]
                have z_344 : (tI M_340 60 30).toInt = (tI M_315 60 30).toInt := by rw [tI_nE hM_340 (nk (by decide))]
                have z_345 : (tY M_340 60 3 18).toInt = (tY M_315 60 3 18).toInt := by rw [tY_uIE hM_340]
                have hs_346 := rQ_19 hs_319 hM_340
                obtain ⟨g_347, eg_347⟩ : ∃ z : Nat → Int, z = pp_su g_326 9 x_339.toInt := ⟨_, rfl⟩
                rw [← eg_347] at hs_346
                have z_348 : (tI M_340 60 21).toInt = (tI M_315 60 21).toInt := by rw [tI_nE hM_340 (nk (by decide))]
                exact hQ _ _ _ _ _ hw (⟨(by unfold pp_ln; rw [← j_279]; unfold pp_tk; rw [if_pos dk_298.1, ← eg_326]; unfold pp_l9; rw [show g_326 9 + 1 = x_339.toInt by omega, ← eg_347]; exact hs_346), iM_340, (ln.trans (ln_l0 (l0_I hM_340 (by decide))) (ln.trans (ln_l0 (l0_pr q_318 (by decide) (by decide))) f_276)), (by omega), (by omega), (by omega), (by omega), (by omega), (by omega), (by omega), (by omega), (by omega), (by omega), (by omega), (um_l0 j_291 (l0.trans (l0_I hM_340 (by decide)) (l0_pr q_318 (by decide) (by decide))) (by omega))⟩) dX10_line_309
              · have dk_298 := rQ_s0 (k := 29) hs_278 d3_298 (by decide) (by decide)
                clear d3_298
                refine sb_if_ne (tgt := 295) hx hb (by decide : (0 : Int32).toInt = 0) dX10_line_284 (by decide) (fun h => absurd h (by decide)) (fun c_284_301 => ?_)
                refine lv_aload_n hx hb dX10_line_287 rfl (lv_at hl 1 rfl) ?_
                refine lv_iconst (v := 1) hx hb dX10_line_288 (by decide) ?_
                refine ti_callVv (ci := 10) (av := [.int 1]) C hw (x_X10_wrong l D A cy hJ M_275 iM_275 1 (by decide) B n g_277 hs_278) ⟨ml_X10_217, ym_X10_wrong, yv_X10_wrong, yi_X10_wrong, yc_X10_wrong⟩ yd_X10_wrong ob_60 (by decide) rfl rfl hl.1 (Nat.le_of_ble_eq_true rfl) ⟨by decide, by decide⟩ ⟨Nat.zero_le _, Nat.zero_le _⟩ dX10_line_289 (fun M_304 H locs hp_304 hw => ?_)
                rw [show (1 : Int32).toInt = 1 by decide] at hp_304
                obtain ⟨hs_305, hp_306⟩ := hp_304
                obtain ⟨iM_304, q_307, z_308, z_309, z_310, z_311, z_312⟩ := l_wr hp_306
                clear hp_306
                obtain ⟨g_313, eg_313⟩ : ∃ z : Nat → Int, z = pp_rf 1 g_277 := ⟨_, rfl⟩
                rw [← eg_313] at hs_305
                refine lv_goto (tgt := 299) hx hb dX10_line_292 (by decide) ?_
                refine lv_aload_n hx hb dX10_line_299 rfl (lv_at hl 1 rfl) ?_
                refine lv_dup hx hb dX10_line_300 rfl ?_
                refine ti_get (ci := 10) (k := 19) (N := 67) (T := TX10) C hw iw_10 rfl ob_60 (by decide) (by decide) fl_X10_254 rfl rfl dX10_line_301 ?_
                refine lv_topi (fun x_327 ex_327 => ?_)
                refine lv_iconst (v := 1) hx hb dX10_line_304 (by decide) ?_
                refine lv_iadd hx hb dX10_line_305 ?_
                refine lv_topi (fun x_328 ex_328 => ?_)
                refine ti_putI (ci := 10) (k := 19) (N := 67) (T := TX10) C hw iw_10 tyX10 tyX10_ok nmX10 rfl ob_60 (by decide) (by decide) fl_X10_254 rfl rfl rfl rfl (fn_10 A _) fs_10_19 dX10_line_306 (fun H locs hw => ?_)
                obtain ⟨M_329, hM_329⟩ : ∃ z : ti_M, z = uI M_304 60 19 x_328 := ⟨_, rfl⟩
                have hw := hw.to hM_329.symm
                have iM_329 : mI Tm M_329 := mI_uI iM_304 hM_329 (by decide) (by decide) trivial
                have z_330 : ff M_329 = ff M_304 := ff_I hM_329 (by decide)
                have z_331 : pg M_329 = pg M_304 := pg_I hM_329 (by decide)
                have z_332 : (tI M_329 60 29).toInt = (tI M_304 60 29).toInt := by rw [tI_nE hM_329 (nk (by decide))]
                have z_333 : (tI M_329 60 30).toInt = (tI M_304 60 30).toInt := by rw [tI_nE hM_329 (nk (by decide))]
                have z_334 : (tY M_329 60 3 18).toInt = (tY M_304 60 3 18).toInt := by rw [tY_uIE hM_329]
                have hs_335 := rQ_19 hs_305 hM_329
                obtain ⟨g_336, eg_336⟩ : ∃ z : Nat → Int, z = pp_su g_313 9 x_328.toInt := ⟨_, rfl⟩
                rw [← eg_336] at hs_335
                have z_337 : (tI M_329 60 21).toInt = (tI M_304 60 21).toInt := by rw [tI_nE hM_329 (nk (by decide))]
                exact hQ _ _ _ _ _ hw (⟨(by have z := (rQ_z hs_305 (rQ_g1 hs_305 (by omega))); rw [show pp_ln B n rg = pp_l9 g_313 by unfold pp_ln; rw [← j_279]; unfold pp_tk; rw [if_neg dk_298, ← eg_313]]; exact rQ_f hs_335 (by rw [eg_336, su_n (by decide)]; exact z.1) (by rw [eg_336]; exact l9_k z)), iM_329, (ln.trans (ln_l0 (l0_I hM_329 (by decide))) (ln.trans (ln_l0 (l0_pr q_307 (by decide) (by decide))) f_276)), (by omega), (by omega), (by omega), (by omega), (by omega), (by omega), (by omega), (by omega), (by omega), (by omega), (by omega), (um_l0 j_291 (l0.trans (l0_I hM_329 (by decide)) (l0_pr q_307 (by decide) (by decide))) (by omega))⟩) dX10_line_309
            · have z_295 : ff M_275 = 0 := ff_0 (fun h => c_274_293 (ufx_292.symm.trans h))
              clear c_274_293
              exact hQ _ _ _ _ _ hw (⟨(rQ_f hs_278 (rQ_g1 hs_278 (by omega)) (ln_k (by rw [← j_279]; exact fk.refl (rQ_z hs_278 (rQ_g1 hs_278 (by omega)))) (rQ_z hs_278 (rQ_g1 hs_278 (by omega))))), iM_275, f_276, (by omega), (by omega), (by omega), (by omega), (by omega), (by omega), (by omega), (by omega), (by omega), (by omega), (by omega), j_291⟩) dX10_line_277
          by_cases s_110_0 : x_4 = 0
          · refine lv_tableIn (tgt := 148) (off := 46) hx hb dX10_line_102 (by rw [s_110_0]; decide) (by rw [s_110_0]; decide) (by rw [s_110_0]; decide) (by decide) ?_
            have w0 : (x_4 : Int32).toInt = 0 := by rw [s_110_0]; decide
            have w1 : (tY M_98 60 3 11).toInt = (tY M 60 3 11).toInt := by rw [(((tY_fr q_101.1).trans (tY_uIE hM_88)))]
            refine lv_aload_n hx hb dX10_line_148 rfl (lv_at hl 1 rfl) ?_
            refine lv_bipush (v := 8) hx hb dX10_line_149 (by decide) ?_
            refine lv_aload_n hx hb dX10_line_151 rfl (lv_at hl 1 rfl) ?_
            refine lv_iconst (v := 0) hx hb dX10_line_152 (by decide) ?_
            refine ti_callVi (ci := 10) (av := [.int 0]) C hw (s_X10_fresher_0 l D A cy hJ M_98 iM_98 ) ⟨ml_X10_224, ym_X10_fresher, yv_X10_fresher, yi_X10_fresher, yc_X10_fresher⟩ yd_X10_fresher ob_60 (by decide) rfl rfl hl.1 (Nat.le_of_ble_eq_true rfl) ⟨by decide, by decide⟩ ⟨Nat.zero_le _, Nat.zero_le _⟩ dX10_line_153 (fun r_111 M_112 H locs hp_112 hw => ?_)
            obtain ⟨hm, b0r_111, b1r_111, yr_111⟩ := hp_112
            have hw := hw.to hm
            have zr_111 : (tY M_98 60 3 11).toInt = r_111.toInt := by rw [yr_111]
            refine lv_iadd hx hb dX10_line_156 ?_
            refine lv_topi (fun x_113 ex_113 => ?_)
            have tx_113 : x_113.toInt = 8 + r_111.toInt := i_add ex_113 (by decide : (8 : Int32).toInt = 8) rfl (by omega) (by omega)
            refine ti_callVvE (ci := 10) (av := [.int x_113]) C hE hw (x_X10_manLine l D A cy hJ M_98 iM_98 x_113 r_111 (by omega) (by omega) (yr_111) (by omega) (by omega) (by omega) B n g_109 hs_102) ⟨ml_X10_231, ym_X10_manLine, yv_X10_manLine, yi_X10_manLine, yc_X10_manLine⟩ yd_X10_manLine ob_60 (by decide) rfl rfl hl.1 (Nat.le_of_ble_eq_true rfl) ⟨by decide, by decide⟩ ⟨Nat.zero_le _, Nat.zero_le _⟩ dX10_line_157 (fun M_115 H locs hp_115 hw => ?_)
            obtain ⟨hs_116, hp_117⟩ := hp_115
            obtain ⟨iM_115, q_118, z_119, z_120, z_121, z_122, z_123, z_124⟩ := hp_117
            obtain ⟨g_125, eg_125⟩ : ∃ z : Nat → Int, z = pp_mq B n g_109 := ⟨_, rfl⟩
            rw [← eg_125] at hs_116
            have w_127 : x_4.toInt = 0 := by rw [s_110_0]; decide
            have hq_126 : rQ B n (pp_lb B n rg) M_115 := by unfold pp_lb; rw [if_pos (by omega), mn_q, if_pos (by omega), show pp_av B n rg = g_109 by rw [eg_109, eg_95, o1_n (by omega)], ← eg_125]; exact hs_116
            refine lv_goto (tgt := 270) hx hb dX10_line_160 (by decide) ?_
            exact hj_270_291 M_115 (pp_lb B n rg) _ _ _ iM_115 (ln.trans (ln_l0 q_118) (ln.trans (ln_l0 (l0_pr q_101 (by decide) (by decide))) (ln_l0 (l0_I hM_88 (by decide))))) hq_126 rfl (by first | omega | decide) (by first | omega | decide) (by first | omega | decide) (by first | omega | decide) (by first | omega | decide) (by first | omega | decide) (by first | omega | decide) (by first | omega | decide) (by first | omega | decide) (by first | omega | decide) (by first | omega | decide) (um_l0 hum (l0.trans q_118 (l0.trans (l0_pr q_101 (by decide) (by decide)) (l0_I hM_88 (by decide)))) (by omega)) hw (lv_sub hl [0, 1] rfl)
          · have qs_110_0 : x_4.toInt ≠ 0 := pt_ne s_110_0 (by decide)
            by_cases s_110_1 : x_4 = 1
            · refine lv_tableIn (tgt := 163) (off := 61) hx hb dX10_line_102 (by rw [s_110_1]; decide) (by rw [s_110_1]; decide) (by rw [s_110_1]; decide) (by decide) ?_
              refine lv_aload_n hx hb dX10_line_163 rfl (lv_at hl 1 rfl) ?_
              refine ti_callVvE (ci := 10) (av := []) C hE hw (x_X10_guardLine l D A cy hJ M_98 iM_98  B n g_109 hs_102) ⟨ml_X10_234, ym_X10_guardLine, yv_X10_guardLine, yi_X10_guardLine, yc_X10_guardLine⟩ yd_X10_guardLine ob_60 (by decide) rfl rfl hl.1 (Nat.le_of_ble_eq_true rfl) ⟨by decide, by decide⟩ ⟨Nat.zero_le _, Nat.zero_le _⟩ dX10_line_164 (fun M_129 H locs hp_129 hw => ?_)
              obtain ⟨hs_130, hp_131⟩ := hp_129
              obtain ⟨iM_129, q_132, z_133, z_134, z_135, z_136, z_137, z_138⟩ := hp_131
              obtain ⟨g_139, eg_139⟩ : ∃ z : Nat → Int, z = pp_gq B n g_109 := ⟨_, rfl⟩
              rw [← eg_139] at hs_130
              have w_141 : x_4.toInt = 1 := by rw [s_110_1]; decide
              have hq_140 : rQ B n (pp_lb B n rg) M_129 := by unfold pp_lb; rw [if_neg (by omega), if_pos (by omega), gd_q, show pp_av B n rg = g_109 by rw [eg_109, eg_95, o1_n (by omega)], ← eg_139]; exact hs_130
              refine lv_goto (tgt := 270) hx hb dX10_line_167 (by decide) ?_
              exact hj_270_291 M_129 (pp_lb B n rg) _ _ _ iM_129 (ln.trans (ln_l0 q_132) (ln.trans (ln_l0 (l0_pr q_101 (by decide) (by decide))) (ln_l0 (l0_I hM_88 (by decide))))) hq_140 rfl (by first | omega | decide) (by first | omega | decide) (by first | omega | decide) (by first | omega | decide) (by first | omega | decide) (by first | omega | decide) (by first | omega | decide) (by first | omega | decide) (by first | omega | decide) (by first | omega | decide) (by first | omega | decide) (um_l0 hum (l0.trans q_132 (l0.trans (l0_pr q_101 (by decide) (by decide)) (l0_I hM_88 (by decide)))) (by omega)) hw (lv_sub hl [0, 1] rfl)
            · have qs_110_1 : x_4.toInt ≠ 1 := pt_ne s_110_1 (by decide)
              by_cases s_110_2 : x_4 = 2
              · refine lv_tableIn (tgt := 170) (off := 68) hx hb dX10_line_102 (by rw [s_110_2]; decide) (by rw [s_110_2]; decide) (by rw [s_110_2]; decide) (by decide) ?_
                refine lv_aload_n hx hb dX10_line_170 rfl (lv_at hl 1 rfl) ?_
                refine ti_callVvE (ci := 10) (av := []) C hE hw (x_X10_powerLine l D A cy hJ M_98 iM_98 (by omega) B n g_109 hs_102) ⟨ml_X10_237, ym_X10_powerLine, yv_X10_powerLine, yi_X10_powerLine, yc_X10_powerLine⟩ yd_X10_powerLine ob_60 (by decide) rfl rfl hl.1 (Nat.le_of_ble_eq_true rfl) ⟨by decide, by decide⟩ ⟨Nat.zero_le _, Nat.zero_le _⟩ dX10_line_171 (fun M_143 H locs hp_143 hw => ?_)
                obtain ⟨hs_144, hp_145⟩ := hp_143
                obtain ⟨iM_143, q_146, z_147, z_148, z_149, z_150, z_151, z_152⟩ := hp_145
                obtain ⟨g_153, eg_153⟩ : ∃ z : Nat → Int, z = pp_pq B n g_109 := ⟨_, rfl⟩
                rw [← eg_153] at hs_144
                have w_155 : x_4.toInt = 2 := by rw [s_110_2]; decide
                have hq_154 : rQ B n (pp_lb B n rg) M_143 := by unfold pp_lb; rw [if_neg (by omega), if_neg (by omega), if_pos (by omega), pw_q, show pp_av B n rg = g_109 by rw [eg_109, eg_95, o1_n (by omega)], ← eg_153]; exact hs_144
                refine lv_goto (tgt := 270) hx hb dX10_line_174 (by decide) ?_
                exact hj_270_291 M_143 (pp_lb B n rg) _ _ _ iM_143 (ln.trans (ln_l0 q_146) (ln.trans (ln_l0 (l0_pr q_101 (by decide) (by decide))) (ln_l0 (l0_I hM_88 (by decide))))) hq_154 rfl (by first | omega | decide) (by first | omega | decide) (by first | omega | decide) (by first | omega | decide) (by first | omega | decide) (by first | omega | decide) (by first | omega | decide) (by first | omega | decide) (by first | omega | decide) (by first | omega | decide) (by first | omega | decide) (um_l0 hum (l0.trans q_146 (l0.trans (l0_pr q_101 (by decide) (by decide)) (l0_I hM_88 (by decide)))) (by omega)) hw (lv_sub hl [0, 1] rfl)
              · have qs_110_2 : x_4.toInt ≠ 2 := pt_ne s_110_2 (by decide)
                by_cases s_110_3 : x_4 = 3
                · refine lv_tableIn (tgt := 177) (off := 75) hx hb dX10_line_102 (by rw [s_110_3]; decide) (by rw [s_110_3]; decide) (by rw [s_110_3]; decide) (by decide) ?_
                  refine lv_aload_n hx hb dX10_line_177 rfl (lv_at hl 1 rfl) ?_
                  refine lv_iconst (v := 1) hx hb dX10_line_178 (by decide) ?_
                  refine lv_aload_n hx hb dX10_line_179 rfl (lv_at hl 1 rfl) ?_
                  refine lv_iconst (v := 0) hx hb dX10_line_180 (by decide) ?_
                  refine lv_sipush (v := 999) hx hb dX10_line_181 (by decide) ?_
                  refine ti_callViE (ci := 10) (av := [.int 0, .int 999]) C hE hw (x_X10_numeral l D A cy hJ M_98 iM_98 0 999 (by decide) (by decide) B n g_109 hs_102) ⟨ml_X10_240, ym_X10_numeral, yv_X10_numeral, yi_X10_numeral, yc_X10_numeral⟩ yd_X10_numeral ob_60 (by decide) rfl rfl hl.1 (Nat.le_of_ble_eq_true rfl) ⟨by decide, by decide⟩ ⟨Nat.zero_le _, Nat.zero_le _⟩ dX10_line_184 (fun r_156 M_157 H locs hp_157 hw => ?_)
                  obtain ⟨hs_158, hm_159, hp_160⟩ := hp_157
                  rw [show (0 : Int32).toInt = 0 by decide] at hs_158
                  rw [show (999 : Int32).toInt = 999 by decide] at hs_158
                  obtain ⟨iM_157, q_161, p_162, p_163, p_164, b0r_156, b1r_156⟩ := hp_160
                  have z_165 := l_ps (by decide) (by decide) ⟨iM_157, q_161, p_162, p_163, p_164⟩
                  clear p_162 p_163 p_164
                  have br_156 : 0 ≤ r_156.toInt ∧ r_156.toInt ≤ 999 := by have l1 : (0 : Int32).toInt = 0 := (by decide); have l2 : (999 : Int32).toInt = 999 := (by decide); omega
                  obtain ⟨g_166, eg_166⟩ : ∃ z : Nat → Int, z = pp_nb B n 0 999 g_109 := ⟨_, rfl⟩
                  rw [← eg_166] at hs_158
                  refine ti_callVv (ci := 10) (av := [.int 1, .int r_156]) C hw (s_X10_reads l D A cy hJ M_157 iM_157 1 r_156 (by decide) (by decide) (by rw [show (11 + (1 : Int32).toInt).toNat = 12 by decide]; exact trivial)) ⟨ml_X10_244, ym_X10_reads, yv_X10_reads, yi_X10_reads, yc_X10_reads⟩ yd_X10_reads ob_60 (by decide) rfl rfl hl.1 (Nat.le_of_ble_eq_true rfl) ⟨by decide, by decide⟩ ⟨Nat.zero_le _, Nat.zero_le _⟩ dX10_line_187 (fun M_168 H locs hp_168 hw => ?_)
                  obtain ⟨iM_168, hM_168⟩ := hp_168
                  rw [show (11 + (1 : Int32).toInt).toNat = 12 by decide] at hM_168
                  have z_169 := s5_3 hM_168 (by decide)
                  have hs_170 := rQ_3x hs_158 hM_168 (by decide)
                  refine lv_aload_n hx hb dX10_line_190 rfl (lv_at hl 1 rfl) ?_
                  refine lv_iconst (v := 2) hx hb dX10_line_191 (by decide) ?_
                  refine lv_aload_n hx hb dX10_line_192 rfl (lv_at hl 1 rfl) ?_
                  refine lv_iconst (v := 1) hx hb dX10_line_193 (by decide) ?_
                  refine lv_bipush (v := 9) hx hb dX10_line_194 (by decide) ?_
                  refine ti_callViE (ci := 10) (av := [.int 1, .int 9]) C hE hw (x_X10_numeral l D A cy hJ M_168 iM_168 1 9 (by decide) (by decide) B n g_166 hs_170) ⟨ml_X10_240, ym_X10_numeral, yv_X10_numeral, yi_X10_numeral, yc_X10_numeral⟩ yd_X10_numeral ob_60 (by decide) rfl rfl hl.1 (Nat.le_of_ble_eq_true rfl) ⟨by decide, by decide⟩ ⟨Nat.zero_le _, Nat.zero_le _⟩ dX10_line_196 (fun r_171 M_172 H locs hp_172 hw => ?_)
                  obtain ⟨hs_173, hm_174, hp_175⟩ := hp_172
                  rw [show (1 : Int32).toInt = 1 by decide] at hs_173
                  rw [show (9 : Int32).toInt = 9 by decide] at hs_173
                  obtain ⟨iM_172, q_176, p_177, p_178, p_179, b0r_171, b1r_171⟩ := hp_175
                  have z_180 := l_ps (by decide) (by decide) ⟨iM_172, q_176, p_177, p_178, p_179⟩
                  clear p_177 p_178 p_179
                  have br_171 : 1 ≤ r_171.toInt ∧ r_171.toInt ≤ 9 := by have l1 : (1 : Int32).toInt = 1 := (by decide); have l2 : (9 : Int32).toInt = 9 := (by decide); omega
                  obtain ⟨g_181, eg_181⟩ : ∃ z : Nat → Int, z = pp_nb B n 1 9 g_166 := ⟨_, rfl⟩
                  rw [← eg_181] at hs_173
                  refine ti_callVv (ci := 10) (av := [.int 2, .int r_171]) C hw (s_X10_reads l D A cy hJ M_172 iM_172 2 r_171 (by decide) (by decide) (by rw [show (11 + (2 : Int32).toInt).toNat = 13 by decide]; exact trivial)) ⟨ml_X10_244, ym_X10_reads, yv_X10_reads, yi_X10_reads, yc_X10_reads⟩ yd_X10_reads ob_60 (by decide) rfl rfl hl.1 (Nat.le_of_ble_eq_true rfl) ⟨by decide, by decide⟩ ⟨Nat.zero_le _, Nat.zero_le _⟩ dX10_line_199 (fun M_183 H locs hp_183 hw => ?_)
                  obtain ⟨iM_183, hM_183⟩ := hp_183
                  rw [show (11 + (2 : Int32).toInt).toNat = 13 by decide] at hM_183
                  have z_184 := s5_3 hM_183 (by decide)
                  have hs_185 := rQ_3x hs_173 hM_183 (by decide)
                  have w_187 : x_4.toInt = 3 := by rw [s_110_3]; decide
                  have hq_186 : rQ B n (pp_lb B n rg) M_183 := by unfold pp_lb; rw [if_neg (by omega), if_neg (by omega), if_neg (by omega), if_pos (by omega), o1_on ⟨by omega, by omega⟩ (by rw [rQ_b3 hr r0 ⟨by omega, by omega⟩, show (rg 0).toNat = x_4.toInt.toNat by omega]; omega), ← eg_95, ← eg_109, ← eg_166, ← eg_181]; exact hs_185
                  refine lv_goto (tgt := 270) hx hb dX10_line_202 (by decide) ?_
                  exact hj_270_291 M_183 (pp_lb B n rg) _ _ _ iM_183 (ln.trans (ln_l0 (l0_3 hM_183 (by decide))) (ln.trans (ln_l0 (l0_pr q_176 (by decide) (by decide))) (ln.trans (ln_l0 (l0_3 hM_168 (by decide))) (ln.trans (ln_l0 (l0_pr q_161 (by decide) (by decide))) (ln.trans (ln_l0 (l0_pr q_101 (by decide) (by decide))) (ln_l0 (l0_I hM_88 (by decide)))))))) hq_186 rfl (by first | omega | decide) (by first | omega | decide) (by first | omega | decide) (by first | omega | decide) (by first | omega | decide) (by first | omega | decide) (by first | omega | decide) (by first | omega | decide) (by first | omega | decide) (by first | omega | decide) (by first | omega | decide) (um_l0 hum (l0.trans (l0_3 hM_183 (by decide)) (l0.trans (l0_pr q_176 (by decide) (by decide)) (l0.trans (l0_3 hM_168 (by decide)) (l0.trans (l0_pr q_161 (by decide) (by decide)) (l0.trans (l0_pr q_101 (by decide) (by decide)) (l0_I hM_88 (by decide))))))) (by omega)) hw (lv_sub hl [0, 1] rfl)
                · have qs_110_3 : x_4.toInt ≠ 3 := pt_ne s_110_3 (by decide)
                  by_cases s_110_4 : x_4 = 4
                  · refine lv_tableIn (tgt := 205) (off := 103) hx hb dX10_line_102 (by rw [s_110_4]; decide) (by rw [s_110_4]; decide) (by rw [s_110_4]; decide) (by decide) ?_
                    refine lv_aload_n hx hb dX10_line_205 rfl (lv_at hl 1 rfl) ?_
                    refine lv_iconst (v := 3) hx hb dX10_line_206 (by decide) ?_
                    refine lv_aload_n hx hb dX10_line_207 rfl (lv_at hl 1 rfl) ?_
                    refine lv_iconst (v := 1) hx hb dX10_line_208 (by decide) ?_
                    refine lv_bipush (v := 30) hx hb dX10_line_209 (by decide) ?_
                    refine ti_callViE (ci := 10) (av := [.int 1, .int 30]) C hE hw (x_X10_numeral l D A cy hJ M_98 iM_98 1 30 (by decide) (by decide) B n g_109 hs_102) ⟨ml_X10_240, ym_X10_numeral, yv_X10_numeral, yi_X10_numeral, yc_X10_numeral⟩ yd_X10_numeral ob_60 (by decide) rfl rfl hl.1 (Nat.le_of_ble_eq_true rfl) ⟨by decide, by decide⟩ ⟨Nat.zero_le _, Nat.zero_le _⟩ dX10_line_211 (fun r_188 M_189 H locs hp_189 hw => ?_)
                    obtain ⟨hs_190, hm_191, hp_192⟩ := hp_189
                    rw [show (1 : Int32).toInt = 1 by decide] at hs_190
                    rw [show (30 : Int32).toInt = 30 by decide] at hs_190
                    obtain ⟨iM_189, q_193, p_194, p_195, p_196, b0r_188, b1r_188⟩ := hp_192
                    have z_197 := l_ps (by decide) (by decide) ⟨iM_189, q_193, p_194, p_195, p_196⟩
                    clear p_194 p_195 p_196
                    have br_188 : 1 ≤ r_188.toInt ∧ r_188.toInt ≤ 30 := by have l1 : (1 : Int32).toInt = 1 := (by decide); have l2 : (30 : Int32).toInt = 30 := (by decide); omega
                    obtain ⟨g_198, eg_198⟩ : ∃ z : Nat → Int, z = pp_nb B n 1 30 g_109 := ⟨_, rfl⟩
                    rw [← eg_198] at hs_190
                    refine ti_callVv (ci := 10) (av := [.int 3, .int r_188]) C hw (s_X10_reads l D A cy hJ M_189 iM_189 3 r_188 (by decide) (by decide) (by rw [show (11 + (3 : Int32).toInt).toNat = 14 by decide]; exact (ib_mk (lo := 1) (hi := 30) (by omega) (by omega)))) ⟨ml_X10_244, ym_X10_reads, yv_X10_reads, yi_X10_reads, yc_X10_reads⟩ yd_X10_reads ob_60 (by decide) rfl rfl hl.1 (Nat.le_of_ble_eq_true rfl) ⟨by decide, by decide⟩ ⟨Nat.zero_le _, Nat.zero_le _⟩ dX10_line_214 (fun M_200 H locs hp_200 hw => ?_)
                    obtain ⟨iM_200, hM_200⟩ := hp_200
                    rw [show (11 + (3 : Int32).toInt).toNat = 14 by decide] at hM_200
                    have z_201 := s5_3 hM_200 (by decide)
                    have hs_202 := rQ_3x hs_190 hM_200 (by decide)
                    have w_204 : x_4.toInt = 4 := by rw [s_110_4]; decide
                    have hq_203 : rQ B n (pp_lb B n rg) M_200 := by unfold pp_lb; rw [if_neg (by omega), if_neg (by omega), if_neg (by omega), if_neg (by omega), if_pos (by omega), o1_on ⟨by omega, by omega⟩ (by rw [rQ_b3 hr r0 ⟨by omega, by omega⟩, show (rg 0).toNat = x_4.toInt.toNat by omega]; omega), ← eg_95, ← eg_109, ← eg_198]; exact hs_202
                    refine lv_goto (tgt := 270) hx hb dX10_line_217 (by decide) ?_
                    exact hj_270_291 M_200 (pp_lb B n rg) _ _ _ iM_200 (ln.trans (ln_l0 (l0_3 hM_200 (by decide))) (ln.trans (ln_l0 (l0_pr q_193 (by decide) (by decide))) (ln.trans (ln_l0 (l0_pr q_101 (by decide) (by decide))) (ln_l0 (l0_I hM_88 (by decide)))))) hq_203 rfl (by first | omega | decide) (by first | omega | decide) (by first | omega | decide) (by first | omega | decide) (by first | omega | decide) (by first | omega | decide) (by first | omega | decide) (by first | omega | decide) (by first | omega | decide) (by first | omega | decide) (by first | omega | decide) (um_l0 hum (l0.trans (l0_3 hM_200 (by decide)) (l0.trans (l0_pr q_193 (by decide) (by decide)) (l0.trans (l0_pr q_101 (by decide) (by decide)) (l0_I hM_88 (by decide))))) (by omega)) hw (lv_sub hl [0, 1] rfl)
                  · have qs_110_4 : x_4.toInt ≠ 4 := pt_ne s_110_4 (by decide)
                    by_cases s_110_5 : x_4 = 5
                    · refine lv_tableIn (tgt := 220) (off := 118) hx hb dX10_line_102 (by rw [s_110_5]; decide) (by rw [s_110_5]; decide) (by rw [s_110_5]; decide) (by decide) ?_
                      refine lv_aload_n hx hb dX10_line_220 rfl (lv_at hl 1 rfl) ?_
                      refine lv_iconst (v := 4) hx hb dX10_line_221 (by decide) ?_
                      refine lv_aload_n hx hb dX10_line_222 rfl (lv_at hl 1 rfl) ?_
                      refine lv_iconst (v := 1) hx hb dX10_line_223 (by decide) ?_
                      refine lv_bipush (v := 7) hx hb dX10_line_224 (by decide) ?_
                      refine ti_callViE (ci := 10) (av := [.int 1, .int 7]) C hE hw (x_X10_numeral l D A cy hJ M_98 iM_98 1 7 (by decide) (by decide) B n g_109 hs_102) ⟨ml_X10_240, ym_X10_numeral, yv_X10_numeral, yi_X10_numeral, yc_X10_numeral⟩ yd_X10_numeral ob_60 (by decide) rfl rfl hl.1 (Nat.le_of_ble_eq_true rfl) ⟨by decide, by decide⟩ ⟨Nat.zero_le _, Nat.zero_le _⟩ dX10_line_226 (fun r_205 M_206 H locs hp_206 hw => ?_)
                      obtain ⟨hs_207, hm_208, hp_209⟩ := hp_206
                      rw [show (1 : Int32).toInt = 1 by decide] at hs_207
                      rw [show (7 : Int32).toInt = 7 by decide] at hs_207
                      obtain ⟨iM_206, q_210, p_211, p_212, p_213, b0r_205, b1r_205⟩ := hp_209
                      have z_214 := l_ps (by decide) (by decide) ⟨iM_206, q_210, p_211, p_212, p_213⟩
                      clear p_211 p_212 p_213
                      have br_205 : 1 ≤ r_205.toInt ∧ r_205.toInt ≤ 7 := by have l1 : (1 : Int32).toInt = 1 := (by decide); have l2 : (7 : Int32).toInt = 7 := (by decide); omega
                      obtain ⟨g_215, eg_215⟩ : ∃ z : Nat → Int, z = pp_nb B n 1 7 g_109 := ⟨_, rfl⟩
                      rw [← eg_215] at hs_207
                      refine ti_callVv (ci := 10) (av := [.int 4, .int r_205]) C hw (s_X10_reads l D A cy hJ M_206 iM_206 4 r_205 (by decide) (by decide) (by rw [show (11 + (4 : Int32).toInt).toNat = 15 by decide]; exact trivial)) ⟨ml_X10_244, ym_X10_reads, yv_X10_reads, yi_X10_reads, yc_X10_reads⟩ yd_X10_reads ob_60 (by decide) rfl rfl hl.1 (Nat.le_of_ble_eq_true rfl) ⟨by decide, by decide⟩ ⟨Nat.zero_le _, Nat.zero_le _⟩ dX10_line_229 (fun M_217 H locs hp_217 hw => ?_)
                      obtain ⟨iM_217, hM_217⟩ := hp_217
                      rw [show (11 + (4 : Int32).toInt).toNat = 15 by decide] at hM_217
                      have z_218 := s5_3 hM_217 (by decide)
                      have hs_219 := rQ_3x hs_207 hM_217 (by decide)
                      have w_221 : x_4.toInt = 5 := by rw [s_110_5]; decide
                      have hq_220 : rQ B n (pp_lb B n rg) M_217 := by unfold pp_lb; rw [if_neg (by omega), if_neg (by omega), if_neg (by omega), if_neg (by omega), if_neg (by omega), if_pos (by omega), o1_on ⟨by omega, by omega⟩ (by rw [rQ_b3 hr r0 ⟨by omega, by omega⟩, show (rg 0).toNat = x_4.toInt.toNat by omega]; omega), ← eg_95, ← eg_109, ← eg_215]; exact hs_219
                      refine lv_goto (tgt := 270) hx hb dX10_line_232 (by decide) ?_
                      exact hj_270_291 M_217 (pp_lb B n rg) _ _ _ iM_217 (ln.trans (ln_l0 (l0_3 hM_217 (by decide))) (ln.trans (ln_l0 (l0_pr q_210 (by decide) (by decide))) (ln.trans (ln_l0 (l0_pr q_101 (by decide) (by decide))) (ln_l0 (l0_I hM_88 (by decide)))))) hq_220 rfl (by first | omega | decide) (by first | omega | decide) (by first | omega | decide) (by first | omega | decide) (by first | omega | decide) (by first | omega | decide) (by first | omega | decide) (by first | omega | decide) (by first | omega | decide) (by first | omega | decide) (by first | omega | decide) (um_l0 hum (l0.trans (l0_3 hM_217 (by decide)) (l0.trans (l0_pr q_210 (by decide) (by decide)) (l0.trans (l0_pr q_101 (by decide) (by decide)) (l0_I hM_88 (by decide))))) (by omega)) hw (lv_sub hl [0, 1] rfl)
                    · have qs_110_5 : x_4.toInt ≠ 5 := pt_ne s_110_5 (by decide)
                      by_cases s_110_6 : x_4 = 6
                      · refine lv_tableIn (tgt := 235) (off := 133) hx hb dX10_line_102 (by rw [s_110_6]; decide) (by rw [s_110_6]; decide) (by rw [s_110_6]; decide) (by decide) ?_
                        refine lv_aload_n hx hb dX10_line_235 rfl (lv_at hl 1 rfl) ?_
                        refine lv_iconst (v := 5) hx hb dX10_line_236 (by decide) ?_
                        refine lv_aload_n hx hb dX10_line_237 rfl (lv_at hl 1 rfl) ?_
                        refine lv_iconst (v := 0) hx hb dX10_line_238 (by decide) ?_
                        refine lv_bipush (v := 99) hx hb dX10_line_239 (by decide) ?_
                        refine ti_callViE (ci := 10) (av := [.int 0, .int 99]) C hE hw (x_X10_numeral l D A cy hJ M_98 iM_98 0 99 (by decide) (by decide) B n g_109 hs_102) ⟨ml_X10_240, ym_X10_numeral, yv_X10_numeral, yi_X10_numeral, yc_X10_numeral⟩ yd_X10_numeral ob_60 (by decide) rfl rfl hl.1 (Nat.le_of_ble_eq_true rfl) ⟨by decide, by decide⟩ ⟨Nat.zero_le _, Nat.zero_le _⟩ dX10_line_241 (fun r_222 M_223 H locs hp_223 hw => ?_)
                        obtain ⟨hs_224, hm_225, hp_226⟩ := hp_223
                        rw [show (0 : Int32).toInt = 0 by decide] at hs_224
                        rw [show (99 : Int32).toInt = 99 by decide] at hs_224
                        obtain ⟨iM_223, q_227, p_228, p_229, p_230, b0r_222, b1r_222⟩ := hp_226
                        have z_231 := l_ps (by decide) (by decide) ⟨iM_223, q_227, p_228, p_229, p_230⟩
                        clear p_228 p_229 p_230
                        have br_222 : 0 ≤ r_222.toInt ∧ r_222.toInt ≤ 99 := by have l1 : (0 : Int32).toInt = 0 := (by decide); have l2 : (99 : Int32).toInt = 99 := (by decide); omega
                        obtain ⟨g_232, eg_232⟩ : ∃ z : Nat → Int, z = pp_nb B n 0 99 g_109 := ⟨_, rfl⟩
                        rw [← eg_232] at hs_224
                        refine ti_callVv (ci := 10) (av := [.int 5, .int r_222]) C hw (s_X10_reads l D A cy hJ M_223 iM_223 5 r_222 (by decide) (by decide) (by rw [show (11 + (5 : Int32).toInt).toNat = 16 by decide]; exact trivial)) ⟨ml_X10_244, ym_X10_reads, yv_X10_reads, yi_X10_reads, yc_X10_reads⟩ yd_X10_reads ob_60 (by decide) rfl rfl hl.1 (Nat.le_of_ble_eq_true rfl) ⟨by decide, by decide⟩ ⟨Nat.zero_le _, Nat.zero_le _⟩ dX10_line_244 (fun M_234 H locs hp_234 hw => ?_)
                        obtain ⟨iM_234, hM_234⟩ := hp_234
                        rw [show (11 + (5 : Int32).toInt).toNat = 16 by decide] at hM_234
                        have z_235 := s5_3 hM_234 (by decide)
                        have hs_236 := rQ_3x hs_224 hM_234 (by decide)
                        have w_238 : x_4.toInt = 6 := by rw [s_110_6]; decide
                        have hq_237 : rQ B n (pp_lb B n rg) M_234 := by unfold pp_lb; rw [if_neg (by omega), if_neg (by omega), if_neg (by omega), if_neg (by omega), if_neg (by omega), if_neg (by omega), if_pos (by omega), o1_on ⟨by omega, by omega⟩ (by rw [rQ_b3 hr r0 ⟨by omega, by omega⟩, show (rg 0).toNat = x_4.toInt.toNat by omega]; omega), ← eg_95, ← eg_109, ← eg_232]; exact hs_236
                        refine lv_goto (tgt := 270) hx hb dX10_line_247 (by decide) ?_
                        exact hj_270_291 M_234 (pp_lb B n rg) _ _ _ iM_234 (ln.trans (ln_l0 (l0_3 hM_234 (by decide))) (ln.trans (ln_l0 (l0_pr q_227 (by decide) (by decide))) (ln.trans (ln_l0 (l0_pr q_101 (by decide) (by decide))) (ln_l0 (l0_I hM_88 (by decide)))))) hq_237 rfl (by first | omega | decide) (by first | omega | decide) (by first | omega | decide) (by first | omega | decide) (by first | omega | decide) (by first | omega | decide) (by first | omega | decide) (by first | omega | decide) (by first | omega | decide) (by first | omega | decide) (by first | omega | decide) (um_l0 hum (l0.trans (l0_3 hM_234 (by decide)) (l0.trans (l0_pr q_227 (by decide) (by decide)) (l0.trans (l0_pr q_101 (by decide) (by decide)) (l0_I hM_88 (by decide))))) (by omega)) hw (lv_sub hl [0, 1] rfl)
                      · have qs_110_6 : x_4.toInt ≠ 6 := pt_ne s_110_6 (by decide)
                        by_cases s_110_7 : x_4 = 7
                        · refine lv_tableIn (tgt := 250) (off := 148) hx hb dX10_line_102 (by rw [s_110_7]; decide) (by rw [s_110_7]; decide) (by rw [s_110_7]; decide) (by decide) ?_
                          refine lv_aload_n hx hb dX10_line_250 rfl (lv_at hl 1 rfl) ?_
                          refine lv_bipush (v := 6) hx hb dX10_line_251 (by decide) ?_
                          refine lv_aload_n hx hb dX10_line_253 rfl (lv_at hl 1 rfl) ?_
                          refine lv_iconst (v := 0) hx hb dX10_line_254 (by decide) ?_
                          refine lv_ldc (v := 99999) hx hb C.2.2.2.1 (C.2.2.1 _ cn_X10_192) dX10_line_255 ?_
                          refine ti_callViE (ci := 10) (av := [.int 0, .int 99999]) C hE hw (x_X10_numeral l D A cy hJ M_98 iM_98 0 99999 (by decide) (by decide) B n g_109 hs_102) ⟨ml_X10_240, ym_X10_numeral, yv_X10_numeral, yi_X10_numeral, yc_X10_numeral⟩ yd_X10_numeral ob_60 (by decide) rfl rfl hl.1 (Nat.le_of_ble_eq_true rfl) ⟨by decide, by decide⟩ ⟨Nat.zero_le _, Nat.zero_le _⟩ dX10_line_257 (fun r_239 M_240 H locs hp_240 hw => ?_)
                          obtain ⟨hs_241, hm_242, hp_243⟩ := hp_240
                          rw [show (0 : Int32).toInt = 0 by decide] at hs_241
                          rw [show (99999 : Int32).toInt = 99999 by decide] at hs_241
                          obtain ⟨iM_240, q_244, p_245, p_246, p_247, b0r_239, b1r_239⟩ := hp_243
                          have z_248 := l_ps (by decide) (by decide) ⟨iM_240, q_244, p_245, p_246, p_247⟩
                          clear p_245 p_246 p_247
                          have br_239 : 0 ≤ r_239.toInt ∧ r_239.toInt ≤ 99999 := by have l1 : (0 : Int32).toInt = 0 := (by decide); have l2 : (99999 : Int32).toInt = 99999 := (by decide); omega
                          obtain ⟨g_249, eg_249⟩ : ∃ z : Nat → Int, z = pp_nb B n 0 99999 g_109 := ⟨_, rfl⟩
                          rw [← eg_249] at hs_241
                          refine ti_callVv (ci := 10) (av := [.int 6, .int r_239]) C hw (s_X10_reads l D A cy hJ M_240 iM_240 6 r_239 (by decide) (by decide) (by rw [show (11 + (6 : Int32).toInt).toNat = 17 by decide]; exact trivial)) ⟨ml_X10_244, ym_X10_reads, yv_X10_reads, yi_X10_reads, yc_X10_reads⟩ yd_X10_reads ob_60 (by decide) rfl rfl hl.1 (Nat.le_of_ble_eq_true rfl) ⟨by decide, by decide⟩ ⟨Nat.zero_le _, Nat.zero_le _⟩ dX10_line_260 (fun M_251 H locs hp_251 hw => ?_)
                          obtain ⟨iM_251, hM_251⟩ := hp_251
                          rw [show (11 + (6 : Int32).toInt).toNat = 17 by decide] at hM_251
                          have z_252 := s5_3 hM_251 (by decide)
                          have hs_253 := rQ_3x hs_241 hM_251 (by decide)
                          have w_255 : x_4.toInt = 7 := by rw [s_110_7]; decide
                          have hq_254 : rQ B n (pp_lb B n rg) M_251 := by unfold pp_lb; rw [if_neg (by omega), if_neg (by omega), if_neg (by omega), if_neg (by omega), if_neg (by omega), if_neg (by omega), if_neg (by omega), if_pos (by omega), o1_on ⟨by omega, by omega⟩ (by rw [rQ_b3 hr r0 ⟨by omega, by omega⟩, show (rg 0).toNat = x_4.toInt.toNat by omega]; omega), ← eg_95, ← eg_109, ← eg_249]; exact hs_253
                          refine lv_goto (tgt := 270) hx hb dX10_line_263 (by decide) ?_
                          exact hj_270_291 M_251 (pp_lb B n rg) _ _ _ iM_251 (ln.trans (ln_l0 (l0_3 hM_251 (by decide))) (ln.trans (ln_l0 (l0_pr q_244 (by decide) (by decide))) (ln.trans (ln_l0 (l0_pr q_101 (by decide) (by decide))) (ln_l0 (l0_I hM_88 (by decide)))))) hq_254 rfl (by first | omega | decide) (by first | omega | decide) (by first | omega | decide) (by first | omega | decide) (by first | omega | decide) (by first | omega | decide) (by first | omega | decide) (by first | omega | decide) (by first | omega | decide) (by first | omega | decide) (by first | omega | decide) (um_l0 hum (l0.trans (l0_3 hM_251 (by decide)) (l0.trans (l0_pr q_244 (by decide) (by decide)) (l0.trans (l0_pr q_101 (by decide) (by decide)) (l0_I hM_88 (by decide))))) (by omega)) hw (lv_sub hl [0, 1] rfl)
                        · have qs_110_7 : x_4.toInt ≠ 7 := pt_ne s_110_7 (by decide)
                          refine lv_tableOut (tgt := 266) hx hb dX10_line_102 (ti_out (lo := 0) (hi := 7) x_4 (fun v h1 h2 => by rcases (show v = 0 ∨ v = 1 ∨ v = 2 ∨ v = 3 ∨ v = 4 ∨ v = 5 ∨ v = 6 ∨ v = 7 by omega) with rfl | rfl | rfl | rfl | rfl | rfl | rfl | rfl <;> first | exact ti_nev 0 s_110_0 (by decide) | exact ti_nev 1 s_110_1 (by decide) | exact ti_nev 2 s_110_2 (by decide) | exact ti_nev 3 s_110_3 (by decide) | exact ti_nev 4 s_110_4 (by decide) | exact ti_nev 5 s_110_5 (by decide) | exact ti_nev 6 s_110_6 (by decide) | exact ti_nev 7 s_110_7 (by decide))) (by decide) ?_
                          refine lv_aload_n hx hb dX10_line_266 rfl (lv_at hl 1 rfl) ?_
                          refine ti_callVvE (ci := 10) (av := []) C hE hw (x_X10_lawLine l D A cy hJ M_98 iM_98 (by omega) (um_l0 hum (l0.trans (l0_pr q_101 (by decide) (by decide)) (l0_I hM_88 (by decide))) (by omega)) (by omega) (by omega) B n g_109 hs_102) ⟨ml_X10_248, ym_X10_lawLine, yv_X10_lawLine, yi_X10_lawLine, yc_X10_lawLine⟩ yd_X10_lawLine ob_60 (by decide) rfl rfl hl.1 (Nat.le_of_ble_eq_true rfl) ⟨by decide, by decide⟩ ⟨Nat.zero_le _, Nat.zero_le _⟩ dX10_line_267 (fun M_257 H locs hp_257 hw => ?_)
                          obtain ⟨hs_258, hp_259⟩ := hp_257
                          obtain ⟨iM_257, q_260, z_261, z_262, z_263, z_264, z_265, z_266, z_267, z_268, z_269, z_270, z_271, u_272⟩ := hp_259
                          obtain ⟨g_273, eg_273⟩ : ∃ z : Nat → Int, z = pp_lq B n g_109 := ⟨_, rfl⟩
                          rw [← eg_273] at hs_258
                          have hq_274 : rQ B n (pp_lb B n rg) M_257 := by unfold pp_lb; rw [if_neg (by omega), if_neg (by omega), if_neg (by omega), if_neg (by omega), if_neg (by omega), if_neg (by omega), if_neg (by omega), if_neg (by omega), if_pos (by omega), show pp_lw B n rg = pp_lq B n (pp_av B n rg) from rfl, show pp_av B n rg = g_109 by rw [eg_109, eg_95, o1_n (by omega)], ← eg_273]; exact hs_258
                          exact hj_270_291 M_257 (pp_lb B n rg) _ _ _ iM_257 (ln.trans q_260 (ln.trans (ln_l0 (l0_pr q_101 (by decide) (by decide))) (ln_l0 (l0_I hM_88 (by decide))))) hq_274 rfl (by first | omega | decide) (by first | omega | decide) (by first | omega | decide) (by first | omega | decide) (by first | omega | decide) (by first | omega | decide) (by first | omega | decide) (by first | omega | decide) (by first | omega | decide) (by first | omega | decide) (by first | omega | decide) u_272 hw (lv_sub hl [0, 1] rfl)
        refine sb_icmp_lt (tgt := 77) hx hb rfl (by decide : (3 : Int32).toInt = 3) dX10_line_51 (by decide) (fun c_51_45 => ?_) (fun c_51_45 => ?_)
        · refine lv_aload_n hx hb dX10_line_77 rfl (lv_at hl 1 rfl) ?_
          refine ti_get (ci := 10) (k := 25) (N := 67) (T := TX10) C hw iw_10 rfl ob_60 (by decide) (by decide) fl_X10_208 rfl rfl dX10_line_78 ?_
          refine lv_topi (fun x_67 ex_67 => ?_)
          have u_68 : (tI M 60 25).toInt = x_67.toInt := by rw [ex_67]
          have ufx_67 : (tI M 60 25).toInt = x_67.toInt := by rw [ex_67]
          refine sb_if_eq (tgt := 85) hx hb rfl dX10_line_81 (by decide) (fun c_81_68 => ?_) (fun c_81_68 => by have z_70 : ff M = 0 := ff_0 (fun h => c_81_68 (ufx_67.symm.trans h)); omega)
          have z_70 : ff M = 1 := ff_1 (ufx_67.trans c_81_68)
          clear c_81_68
          exact hj_85_84  _ _ _ (by first | omega | decide) (by first | omega | decide) hw (lv_sub hl [0, 1] rfl)
        · refine lv_iload_n hx hb dX10_line_54 rfl (lv_at hl 0 rfl) ?_
          refine lv_bipush (v := 7) hx hb dX10_line_55 (by decide) ?_
          refine sb_icmp_gt (tgt := 77) hx hb rfl (by decide : (7 : Int32).toInt = 7) dX10_line_57 (by decide) (fun c_57_46 => ?_) (fun c_57_46 => ?_)
          · refine lv_aload_n hx hb dX10_line_77 rfl (lv_at hl 1 rfl) ?_
            refine ti_get (ci := 10) (k := 25) (N := 67) (T := TX10) C hw iw_10 rfl ob_60 (by decide) (by decide) fl_X10_208 rfl rfl dX10_line_78 ?_
            refine lv_topi (fun x_71 ex_71 => ?_)
            have u_72 : (tI M 60 25).toInt = x_71.toInt := by rw [ex_71]
            have ufx_71 : (tI M 60 25).toInt = x_71.toInt := by rw [ex_71]
            refine sb_if_eq (tgt := 85) hx hb rfl dX10_line_81 (by decide) (fun c_81_72 => ?_) (fun c_81_72 => by have z_74 : ff M = 0 := ff_0 (fun h => c_81_72 (ufx_71.symm.trans h)); omega)
            have z_74 : ff M = 1 := ff_1 (ufx_71.trans c_81_72)
            clear c_81_72
            exact hj_85_84  _ _ _ (by first | omega | decide) (by first | omega | decide) hw (lv_sub hl [0, 1] rfl)
          · refine lv_aload_n hx hb dX10_line_60 rfl (lv_at hl 1 rfl) ?_
            refine ti_get (ci := 10) (k := 18) (N := 67) (T := TX10) C hw iw_10 rfl ob_60 (by decide) (by decide) fl_X10_228 rfl rfl dX10_line_61 ?_
            refine lv_topi (fun x_48 ex_48 => ?_)
            refine lv_iload_n hx hb dX10_line_64 rfl (lv_at hl 0 rfl) ?_
            refine lv_ishr hx hb dX10_line_65 ?_
            refine lv_topi (fun x_49 ex_49 => ?_)
            refine lv_iconst (v := 1) hx hb dX10_line_66 (by decide) ?_
            refine lv_iand hx hb dX10_line_67 ?_
            refine lv_topi (fun x_50 ex_50 => ?_)
            have bx_50 := i_and 1 ex_50 (by decide) (by decide)
            have bsx_50 : x_50.toInt = pp_bt (tI M 60 18) (x_4.toInt).toNat := by rw [(ex_48.symm)]; exact bt_shr (k := x_4.toInt) ex_49 rfl (by omega) (by omega) ex_50
            have box_50 := bt_01 (tI M 60 18) (x_4.toInt).toNat
            refine lv_iconst (v := 1) hx hb dX10_line_68 (by decide) ?_
            refine sb_icmp_ne (tgt := 77) hx hb rfl (by decide : (1 : Int32).toInt = 1) dX10_line_69 (by decide) (fun c_69_50 => ?_) (fun c_69_50 => ?_)
            · refine lv_aload_n hx hb dX10_line_77 rfl (lv_at hl 1 rfl) ?_
              refine ti_get (ci := 10) (k := 25) (N := 67) (T := TX10) C hw iw_10 rfl ob_60 (by decide) (by decide) fl_X10_208 rfl rfl dX10_line_78 ?_
              refine lv_topi (fun x_75 ex_75 => ?_)
              have u_76 : (tI M 60 25).toInt = x_75.toInt := by rw [ex_75]
              have ufx_75 : (tI M 60 25).toInt = x_75.toInt := by rw [ex_75]
              refine sb_if_eq (tgt := 85) hx hb rfl dX10_line_81 (by decide) (fun c_81_76 => ?_) (fun c_81_76 => by have z_78 : ff M = 0 := ff_0 (fun h => c_81_76 (ufx_75.symm.trans h)); omega)
              have z_78 : ff M = 1 := ff_1 (ufx_75.trans c_81_76)
              clear c_81_76
              exact hj_85_84  _ _ _ (by first | omega | decide) (by first | omega | decide) hw (lv_sub hl [0, 1] rfl)
            · refine lv_aload_n hx hb dX10_line_72 rfl (lv_at hl 1 rfl) ?_
              refine lv_iconst (v := 3) hx hb dX10_line_73 (by decide) ?_
              refine ti_callVv (ci := 10) (av := [.int 3]) C hw (x_X10_wrong l D A cy hJ M hI 3 (by decide) B n rg hr) ⟨ml_X10_217, ym_X10_wrong, yv_X10_wrong, yi_X10_wrong, yc_X10_wrong⟩ yd_X10_wrong ob_60 (by decide) rfl rfl hl.1 (Nat.le_of_ble_eq_true rfl) ⟨by decide, by decide⟩ ⟨Nat.zero_le _, Nat.zero_le _⟩ dX10_line_74 (fun M_53 H locs hp_53 hw => ?_)
              rw [show (3 : Int32).toInt = 3 by decide] at hp_53
              obtain ⟨hs_54, hp_55⟩ := hp_53
              obtain ⟨iM_53, q_56, z_57, z_58, z_59, z_60, z_61⟩ := l_wr hp_55
              clear hp_55
              obtain ⟨g_62, eg_62⟩ : ∃ z : Nat → Int, z = pp_rf 3 rg := ⟨_, rfl⟩
              rw [← eg_62] at hs_54
              refine lv_aload_n hx hb dX10_line_77 rfl (lv_at hl 1 rfl) ?_
              refine ti_get (ci := 10) (k := 25) (N := 67) (T := TX10) C hw iw_10 rfl ob_60 (by decide) (by decide) fl_X10_208 rfl rfl dX10_line_78 ?_
              refine lv_topi (fun x_79 ex_79 => ?_)
              have u_80 : (tI M_53 60 25).toInt = x_79.toInt := by rw [ex_79]
              have ufx_79 : (tI M_53 60 25).toInt = x_79.toInt := by rw [ex_79]
              refine sb_if_eq (tgt := 85) hx hb rfl dX10_line_81 (by decide) (fun c_81_80 => by have z_82 : ff M_53 = 1 := ff_1 (ufx_79.trans c_81_80); omega) (fun c_81_80 => ?_)
              have z_82 : ff M_53 = 0 := ff_0 (fun h => c_81_80 (ufx_79.symm.trans h))
              clear c_81_80
              exact hQ _ _ _ _ _ hw (⟨(rQ_f hs_54 (rQ_g1 hs_54 (by omega)) (ln_k ((by have e3 := (pT_pw (rQ_T hr hf)).2.2 ⟨by omega, by omega⟩; rw [eg_62]; exact lb_3 ⟨by omega, by omega⟩ (by rw [rQ_b3 hr (rQ_g0 hr hf) ⟨by omega, by omega⟩, show (rg 0).toNat = x_4.toInt.toNat by omega]; omega))) (rQ_z hs_54 (rQ_g1 hs_54 (by omega))))), iM_53, (ln_l0 (l0_pr q_56 (by decide) (by decide))), (by omega), (by omega), (by omega), (by omega), (by omega), (by omega), (by omega), (by omega), (by omega), (by omega), (by omega), (um_l0 hum (l0_pr q_56 (by decide) (by decide)) (by omega))⟩) dX10_line_84
      refine sb_if_ne (tgt := 49) hx hb rfl dX10_line_28 (by decide) (fun c_28_29 => ?_) (fun c_28_29 => ?_)
      · exact hj_49_45  _ _ _ (by first | omega | decide) hw (lv_sub hl [0, 1] rfl)
      · refine lv_aload_n hx hb dX10_line_31 rfl (lv_at hl 1 rfl) ?_
        refine lv_iconst (v := 0) hx hb dX10_line_32 (by decide) ?_
        refine ti_callVi (ci := 10) (av := [.int 0]) C hw (s_X10_fresher_0 l D A cy hJ M hI ) ⟨ml_X10_224, ym_X10_fresher, yv_X10_fresher, yi_X10_fresher, yc_X10_fresher⟩ yd_X10_fresher ob_60 (by decide) rfl rfl hl.1 (Nat.le_of_ble_eq_true rfl) ⟨by decide, by decide⟩ ⟨Nat.zero_le _, Nat.zero_le _⟩ dX10_line_33 (fun r_31 M_32 H locs hp_32 hw => ?_)
        obtain ⟨hm, b0r_31, b1r_31, yr_31⟩ := hp_32
        have hw := hw.to hm
        have zr_31 : (tY M 60 3 11).toInt = r_31.toInt := by rw [yr_31]
        refine lv_bipush (v := 8) hx hb dX10_line_36 (by decide) ?_
        refine sb_icmp_ne (tgt := 49) hx hb rfl (by decide : (8 : Int32).toInt = 8) dX10_line_38 (by decide) (fun c_38_32 => ?_) (fun c_38_32 => ?_)
        · exact hj_49_45  _ _ _ (by first | omega | decide) hw (lv_sub hl [0, 1] rfl)
        · refine lv_aload_n hx hb dX10_line_41 rfl (lv_at hl 1 rfl) ?_
          refine lv_iconst (v := 2) hx hb dX10_line_42 (by decide) ?_
          refine ti_callVv (ci := 10) (av := [.int 2]) C hw (x_X10_wrong l D A cy hJ M hI 2 (by decide) B n rg hr) ⟨ml_X10_217, ym_X10_wrong, yv_X10_wrong, yi_X10_wrong, yc_X10_wrong⟩ yd_X10_wrong ob_60 (by decide) rfl rfl hl.1 (Nat.le_of_ble_eq_true rfl) ⟨by decide, by decide⟩ ⟨Nat.zero_le _, Nat.zero_le _⟩ dX10_line_43 (fun M_35 H locs hp_35 hw => ?_)
          rw [show (2 : Int32).toInt = 2 by decide] at hp_35
          obtain ⟨hs_36, hp_37⟩ := hp_35
          obtain ⟨iM_35, q_38, z_39, z_40, z_41, z_42, z_43⟩ := l_wr hp_37
          clear hp_37
          obtain ⟨g_44, eg_44⟩ : ∃ z : Nat → Int, z = pp_rf 2 rg := ⟨_, rfl⟩
          rw [← eg_44] at hs_36
          refine lv_goto (tgt := 77) hx hb dX10_line_46 (by decide) ?_
          refine lv_aload_n hx hb dX10_line_77 rfl (lv_at hl 1 rfl) ?_
          refine ti_get (ci := 10) (k := 25) (N := 67) (T := TX10) C hw iw_10 rfl ob_60 (by decide) (by decide) fl_X10_208 rfl rfl dX10_line_78 ?_
          refine lv_topi (fun x_63 ex_63 => ?_)
          have u_64 : (tI M_35 60 25).toInt = x_63.toInt := by rw [ex_63]
          have ufx_63 : (tI M_35 60 25).toInt = x_63.toInt := by rw [ex_63]
          refine sb_if_eq (tgt := 85) hx hb rfl dX10_line_81 (by decide) (fun c_81_64 => by have z_66 : ff M_35 = 1 := ff_1 (ufx_63.trans c_81_64); omega) (fun c_81_64 => ?_)
          have z_66 : ff M_35 = 0 := ff_0 (fun h => c_81_64 (ufx_63.symm.trans h))
          clear c_81_64
          exact hQ _ _ _ _ _ hw (⟨(rQ_f hs_36 (rQ_g1 hs_36 (by omega)) (ln_k (fk_e ((lb_0 (by have e3 := (pT_pw (rQ_T hr hf)).2.2 ⟨by omega, by omega⟩; omega) (by have m7 := mh_7 hr (rQ_g0 hr hf) rfl; omega)).trans eg_44.symm) (rQ_z hs_36 (rQ_g1 hs_36 (by omega)))) (rQ_z hs_36 (rQ_g1 hs_36 (by omega))))), iM_35, (ln_l0 (l0_pr q_38 (by decide) (by decide))), (by omega), (by omega), (by omega), (by omega), (by omega), (by omega), (by omega), (by omega), (by omega), (by omega), (by omega), (um_l0 hum (l0_pr q_38 (by decide) (by decide)) (by omega))⟩) dX10_line_84
    · refine lv_aload_n hx hb dX10_line_16 rfl (lv_at hl 0 rfl) ?_
      refine lv_iconst (v := 1) hx hb dX10_line_17 (by decide) ?_
      refine ti_callVv (ci := 10) (av := [.int 1]) C hw (x_X10_wrong l D A cy hJ M hI 1 (by decide) B n rg hr) ⟨ml_X10_217, ym_X10_wrong, yv_X10_wrong, yi_X10_wrong, yc_X10_wrong⟩ yd_X10_wrong ob_60 (by decide) rfl rfl hl.1 (Nat.le_of_ble_eq_true rfl) ⟨by decide, by decide⟩ ⟨Nat.zero_le _, Nat.zero_le _⟩ dX10_line_18 (fun M_19 H locs hp_19 hw => ?_)
      rw [show (1 : Int32).toInt = 1 by decide] at hp_19
      obtain ⟨hs_20, hp_21⟩ := hp_19
      obtain ⟨iM_19, q_22, z_23, z_24, z_25, z_26, z_27⟩ := l_wr hp_21
      clear hp_21
      obtain ⟨g_28, eg_28⟩ : ∃ z : Nat → Int, z = pp_rf 1 rg := ⟨_, rfl⟩
      rw [← eg_28] at hs_20
      exact hQ _ _ _ _ _ hw (⟨(rQ_f hs_20 (rQ_g1 hs_20 (by omega)) (ln_k (fk_e ((lb_x (by have e := (pT_nw (rQ_T hr hf)).2.2; omega)).trans eg_28.symm) (rQ_z hs_20 (rQ_g1 hs_20 (by omega)))) (rQ_z hs_20 (rQ_g1 hs_20 (by omega))))), iM_19, (ln_l0 (l0_pr q_22 (by decide) (by decide))), (by omega), (by omega), (by omega), (by omega), (by omega), (by omega), (by omega), (by omega), (by omega), (by omega), (by omega), (um_l0 hum (l0_pr q_22 (by decide) (by decide)) (by omega))⟩) dX10_line_21

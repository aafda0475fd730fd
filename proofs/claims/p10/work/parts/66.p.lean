variable {Tc : gC} {Tm : gM}
section
variable {B : Nat → Int} {n : Nat} {s x : Nat → Int}
theorem lb_x (h : 8 < s 0) : pp_lb B n s = pp_rf 1 s := by
  unfold pp_lb
  rw [if_neg (by omega), if_neg (by omega), if_neg (by omega), if_neg (by omega), if_neg (by omega), if_neg (by omega), if_neg (by omega), if_neg (by omega), if_neg (by omega)]
theorem fk_e (e : s = x) (z : fz x) : fk s x := by subst e; exact fk.refl z
theorem ln_k (k : fk (pp_lb B n s) x) (z : fz x) : fk (pp_ln B n s) x := by
  unfold pp_ln
  have q := (tk_f (B := B) (n := n) (k := 29) (k.zz z) (by decide)).trans k
  exact (l9_f (q.zz z)).trans q
theorem l9_k {v : Int} (z : fz s) : fk (pp_l9 s) (pp_su s 9 v) := fk_l (l9_f z) (fk_su z (by decide))
theorem lb_0 (h : s 0 = 0) (h7 : ¬ s 7 < 8) : pp_lb B n s = pp_rf 2 s := by
  unfold pp_lb
  rw [if_pos h, mn_q, if_neg h7]
theorem lb_3 (h : 3 ≤ s 0 ∧ s 0 ≤ 7) (hb : ¬ s (300 + (s 0).toNat) = 0) : fk (pp_lb B n s) (pp_rf 3 s) := by
  have z : fz (pp_rf 3 s) := ⟨rf_4 (by decide), rf_0⟩
  have e : pp_on B n s = pp_rf 3 s := by unfold pp_on; rw [if_neg hb]
  unfold pp_lb
  rw [if_neg (by omega), if_neg (by omega), if_neg (by omega), e]
  repeat' split
  · have q := nb_f (B := B) (n := n) (lo := 0) (mo := 999) z
    exact (nb_f (q.zz z)).trans q
  all_goals first | exact nb_f z | omega
end
set_option maxHeartbeats 4000000 in
set_option maxRecDepth 100000 in
theorem x_X10_line (l : Launch) (D : va_G) (A : Nat → Nat → Nat) (cy : Nat → ClassId) (hJ : ti_inj ti_LM A) (M : ti_M) (hI : mI Tm M) (hf : ff M = 1) (hum : um M) (h1 : (tY M 60 3 18).toInt ≤ (tI M 60 30).toInt + 64 - 64 * ff M) (h2 : (tI M 60 29).toInt ≤ 8 - 8 * ff M) (hs : pg M = 2 * (tI M 60 21).toInt) (B : Nat → Int) (n : Nat) (rg : Nat → Int) (hr : rQ B n rg M) (h9 : 0 ≤ rg 9 ∧ rg 9 ≤ 100000) (td : Nat → Int) (hql : qL td M) : ti_KvE l yX10_line cX10_line 2 651 ti_LM D A cy M [.ref (A 60 0)] (fun M2 => gU M2 M ∧ qL (qq_lb B n rg td) M2 ∧ rQ B n (pp_ln B n rg) M2 ∧ mI Tm M2 ∧ ln M2 M ∧ (pg M + 2 * ff M2 ≤ pg M2) ∧ (0 ≤ ff M2) ∧ (ff M2 ≤ 1) ∧ ((tY M2 60 3 18).toInt ≤ (tI M2 60 30).toInt + 64 - 64 * ff M2) ∧ ((tI M2 60 29).toInt ≤ 8 - 8 * ff M2) ∧ (0 ≤ (tY M2 60 3 18).toInt) ∧ ((tY M2 60 3 18).toInt ≤ 64) ∧ (0 ≤ (tI M2 60 29).toInt) ∧ ((tI M2 60 29).toInt ≤ 8) ∧ (0 ≤ (tI M2 60 30).toInt) ∧ ((tI M2 60 30).toInt ≤ 64) ∧ um M2) := by
  refine ti_eVE yp_X10_line hJ ti_LM_nd (Nat.le_of_ble_eq_true rfl) ?_
  intro p e s m args below meth c Q H0 C hE hQ hw ls hl
  have hx := C.1
  have hb := C.2.1
  have hl : lv_has ls 2 [(0, .ref (A 60 0))] := hl
  have hI30 := b30 hI
  have hI29 := b29 hI
  have hI18 := b18 hI
  have hIff := ff_b M
  refine lv_aload_n hx hb dX10_line_0 rfl (lv_at hl 0 rfl) ?_
  refine ti_get (ci := 10) (k := 23) (N := 67) (T := TX10) C hw iw_10 rfl ob_60 (by decide) (by decide) fl_X10_173 rfl rfl dX10_line_1 ?_
  refine lv_topi (fun x_1 ex_1 => ?_)
  have uqu_2 : (tI M 60 23).toInt = x_1.toInt := by rw [(ex_1.symm)]
  refine sb_if_ne (tgt := 16) hx hb rfl dX10_line_4 (by decide) (fun c_4_2 => ?_) (fun c_4_2 => ?_)
  · refine lv_aload_n hx hb dX10_line_16 rfl (lv_at hl 0 rfl) ?_
    refine lv_iconst (v := 1) hx hb dX10_line_17 (by decide) ?_
    refine ti_callVv (ci := 10) (av := [.int 1]) C hw (x_X10_wrong l D A cy hJ M hI 1 (by decide) B n rg hr) ⟨ml_X10_217, ym_X10_wrong, yv_X10_wrong, yi_X10_wrong, yc_X10_wrong⟩ yd_X10_wrong ob_60 (by decide) rfl rfl hl.1 (Nat.le_of_ble_eq_true rfl) ⟨by decide, by decide⟩ ⟨Nat.zero_le _, Nat.zero_le _⟩ dX10_line_18 (fun M_8 H locs hp_8 hw => ?_)
    rw [show (1 : Int32).toInt = 1 by decide] at hp_8
    obtain ⟨hs_9, hp_10⟩ := hp_8
    obtain ⟨iM_8, q_11, z_12, z_13, z_14, z_15, z_16⟩ := l_wr hp_10
    clear hp_10
    obtain ⟨g_17, eg_17⟩ : ∃ z : Nat → Int, z = pp_rf 1 rg := ⟨_, rfl⟩
    rw [← eg_17] at hs_9
    have tl_18 : qL td M_8 := qL_fr hql q_11.1 (q_11.2 18 (by decide)) (q_11.2 30 (by decide)) (by omega)
    exact hQ _ _ _ _ _ hw (⟨(gU_e q_11.1), (qL_f (by omega)), (rQ_f hs_9 (rQ_g1 hs_9 (by omega)) (ln_k (fk_e ((lb_x (by have e := (pT_nw (rQ_T hr hf)).2.2; omega)).trans eg_17.symm) (rQ_z hs_9 (rQ_g1 hs_9 (by omega)))) (rQ_z hs_9 (rQ_g1 hs_9 (by omega))))), iM_8, (ln_l0 (l0_pr q_11 (by decide) (by decide))), (by omega), (by omega), (by omega), (by omega), (by omega), (by omega), (by omega), (by omega), (by omega), (by omega), (by omega), (um_l0 hum (l0_pr q_11 (by decide) (by decide)) (by omega))⟩) dX10_line_21
  · refine lv_aload_n hx hb dX10_line_7 rfl (lv_at hl 0 rfl) ?_
    refine ti_get (ci := 10) (k := 24) (N := 67) (T := TX10) C hw iw_10 rfl ob_60 (by decide) (by decide) fl_X10_183 rfl rfl dX10_line_8 ?_
    refine lv_topi (fun x_4 ex_4 => ?_)
    have uqu_5 : (tI M 60 24).toInt = x_4.toInt := by rw [(ex_4.symm)]
    refine lv_bipush (v := 8) hx hb dX10_line_11 (by decide) ?_
    refine sb_icmp_le (tgt := 22) hx hb rfl (by decide : (8 : Int32).toInt = 8) dX10_line_13 (by decide) (fun c_13_5 => ?_) (fun c_13_5 => ?_)
    · refine lv_aload_n hx hb dX10_line_22 rfl (lv_at hl 0 rfl) ?_
      refine ti_get (ci := 10) (k := 24) (N := 67) (T := TX10) C hw iw_10 rfl ob_60 (by decide) (by decide) fl_X10_183 rfl rfl dX10_line_23 ?_
      refine ti_top (y := x_4) (ex_4.symm) ?_
      have uqu_31 : (tI M 60 24).toInt = x_4.toInt := by rw [(ex_4.symm)]
      refine lv_istore_n (lv' := [(1, .int x_4), (0, .ref (A 60 0))]) hx hb dX10_line_26 rfl hl (by decide) rfl (fun ls hl => ?_)
      refine lv_iload_n hx hb dX10_line_27 rfl (lv_at hl 0 rfl) ?_
      have hj_49_48 : ∀  (H : Heap) (locs : List Loc) (ls : Array Slot), (x_4.toInt ≠ 0 ∨ (tY M 60 3 11).toInt ≤ 7) → ti_H ti_LM D A cy H0 M H locs → lv_has ls 2 [(1, .int x_4), (0, .ref (A 60 0))] → W p l e (ti_rm 651) s m args below meth c H locs 0 0 Q (F0 m 49 ls []) := by
        intro  H locs ls j_48 hw hl
        refine lv_iload_n hx hb dX10_line_49 rfl (lv_at hl 0 rfl) ?_
        refine lv_iconst (v := 3) hx hb dX10_line_50 (by decide) ?_
        have hj_85_88 : ∀  (H : Heap) (locs : List Loc) (ls : Array Slot), (x_4.toInt ≠ 0 ∨ (tY M 60 3 11).toInt ≤ 7) → (pp_bt (tI M 60 18) (x_4.toInt).toNat = 0 ∨ x_4.toInt < 3 ∨ 7 < x_4.toInt) → ti_H ti_LM D A cy H0 M H locs → lv_has ls 2 [(1, .int x_4), (0, .ref (A 60 0))] → W p l e (ti_rm 651) s m args below meth c H locs 0 0 Q (F0 m 85 ls []) := by
          intro  H locs ls j_87 j_88 hw hl
          have e3 := (pT_pw (rQ_T hr hf)).2.2 ⟨by omega, by omega⟩
          have r0 := rQ_g0 hr hf
          have m7 := mh_7 hr r0 rfl
          refine lv_aload_n hx hb dX10_line_85 rfl (lv_at hl 1 rfl) ?_
          refine lv_dup hx hb dX10_line_86 rfl ?_
          refine ti_get (ci := 10) (k := 18) (N := 67) (T := TX10) C hw iw_10 rfl ob_60 (by decide) (by decide) fl_X10_228 rfl rfl dX10_line_87 ?_
          refine lv_topi (fun x_89 ex_89 => ?_)
          refine lv_iconst (v := 1) hx hb dX10_line_90 (by decide) ?_
          refine lv_iload_n hx hb dX10_line_91 rfl (lv_at hl 0 rfl) ?_
          refine lv_ishl hx hb dX10_line_92 ?_
          refine lv_topi (fun x_90 ex_90 => ?_)
          refine lv_ior hx hb dX10_line_93 ?_
          refine lv_topi (fun x_91 ex_91 => ?_)
          refine ti_putI (ci := 10) (k := 18) (N := 67) (T := TX10) C hw iw_10 tyX10 tyX10_ok nmX10 rfl ob_60 (by decide) (by decide) fl_X10_228 rfl rfl rfl rfl (fn_10 A _) fs_10_18 dX10_line_94 (fun H locs hw => ?_)
          obtain ⟨M_92, hM_92⟩ : ∃ z : ti_M, z = uI M 60 18 x_91 := ⟨_, rfl⟩
          have hw := hw.to hM_92.symm
          have iM_92 : mI Tm M_92 := mI_uI hI hM_92 (by decide) (by decide) trivial
          have z_93 : ff M_92 = ff M := ff_I hM_92 (by decide)
          have z_94 : pg M_92 = pg M := pg_I hM_92 (by decide)
          have z_95 : (tI M_92 60 29).toInt = (tI M 60 29).toInt := by rw [tI_nE hM_92 (nk (by decide))]
          have z_96 : (tI M_92 60 30).toInt = (tI M 60 30).toInt := by rw [tI_nE hM_92 (nk (by decide))]
          have z_97 : (tY M_92 60 3 18).toInt = (tY M 60 3 18).toInt := by rw [tY_uIE hM_92]
          have hs_98 := rQ_18w (k0 := (x_4.toInt).toNat) hr hM_92 (fun j hj => (bt_or (k := x_4.toInt) ex_90 rfl (by omega) (by omega) ex_91 j hj).trans (by rw [← (ex_89.symm)])) (by omega) (by omega)
          obtain ⟨g_99, eg_99⟩ : ∃ z : Nat → Int, z = pp_o1 rg := ⟨_, rfl⟩
          rw [← eg_99] at hs_98
          have tl_100 : qL td M_92 := qL_18 (k0 := (x_4.toInt).toNat) hql hM_92 (fun j hj => (bt_or (k := x_4.toInt) ex_90 rfl (by omega) (by omega) ex_91 j hj).trans (by rw [← (ex_89.symm)]))
          have z_101 : (tI M_92 60 21).toInt = (tI M 60 21).toInt := by rw [tI_nE hM_92 (nk (by decide))]
          refine lv_aload_n hx hb dX10_line_97 rfl (lv_at hl 1 rfl) ?_
          refine ti_callVvE (ci := 10) (av := []) C hE hw (x_X10_token l D A cy hJ M_92 iM_92 ) ⟨ml_X10_214, ym_X10_token, yv_X10_token, yi_X10_token, yc_X10_token⟩ yd_X10_token ob_60 (by decide) rfl rfl hl.1 (Nat.le_of_ble_eq_true rfl) ⟨by decide, by decide⟩ ⟨Nat.zero_le _, Nat.zero_le _⟩ dX10_line_98 (fun M_103 H locs hp_103 hw => ?_)
          obtain ⟨iM_103, q_106, z_104, z_105, k2M_103, k3M_103, k4M_103⟩ := hp_103
          have hs_107 := rQ_av hs_98 (rQ_g0 hs_98 (by omega)) (iM_92.1 21).1 q_106 k2M_103 k3M_103 k4M_103
          obtain ⟨-, -, z_108, z_109, z_110, z_111, z_112, z_113⟩ := l_tk ⟨iM_103, q_106, z_104, z_105⟩
          clear z_104 z_105 k2M_103 k3M_103 k4M_103
          obtain ⟨g_114, eg_114⟩ : ∃ z : Nat → Int, z = pp_av B n g_99 := ⟨_, rfl⟩
          rw [← eg_114] at hs_107
          have tl_115 : qL td M_103 := qL_fr tl_100 q_106.1 (q_106.2 18 (by decide)) (q_106.2 30 (by decide)) (by omega)
          refine lv_iload_n hx hb dX10_line_101 rfl (lv_at hl 0 rfl) ?_
          have hj_270_343 : ∀ (M_323 : ti_M) (g_326 : Nat → Int) (d_328 : Nat → Int) (H : Heap) (locs : List Loc) (ls : Array Slot), (mI Tm M_323) → (ln M_323 M) → (gU M_323 M) → (rQ B n g_326 M_323) → (qL d_328 M_323) → (g_326 = pp_lb B n rg) → (d_328 = qq_lb B n rg td) → (pg M + 1 ≤ pg M_323) → (0 ≤ ff M_323) → (ff M_323 ≤ 1) → ((tY M_323 60 3 18).toInt ≤ (tI M_323 60 30).toInt + 64 - 64 * ff M_323) → ((tI M_323 60 29).toInt ≤ 8 - 8 * ff M_323) → (0 ≤ (tY M_323 60 3 18).toInt) → ((tY M_323 60 3 18).toInt ≤ 64) → (0 ≤ (tI M_323 60 29).toInt) → ((tI M_323 60 29).toInt ≤ 8) → (0 ≤ (tI M_323 60 30).toInt) → ((tI M_323 60 30).toInt ≤ 64) → (um M_323) → ti_H ti_LM D A cy H0 M_323 H locs → lv_has ls 2 [(1, .int x_4), (0, .ref (A 60 0))] → W p l e (ti_rm 651) s m args below meth c H locs 0 0 Q (F0 m 270 ls []) := by
            intro M_323 g_326 d_328 H locs ls iM_323 f_324 f_325 hs_327 tl_329 j_330 j_331 j_332 j_333 j_334 j_335 j_336 j_337 j_338 j_339 j_340 j_341 j_342 j_343 hw hl
            refine lv_aload_n hx hb dX10_line_270 rfl (lv_at hl 1 rfl) ?_
            refine ti_get (ci := 10) (k := 25) (N := 67) (T := TX10) C hw iw_10 rfl ob_60 (by decide) (by decide) fl_X10_208 rfl rfl dX10_line_271 ?_
            refine lv_topi (fun x_344 ex_344 => ?_)
            have u_345 : (tI M_323 60 25).toInt = x_344.toInt := by rw [ex_344]
            have ufx_344 : (tI M_323 60 25).toInt = x_344.toInt := by rw [ex_344]
            refine sb_if_eq (tgt := 278) hx hb rfl dX10_line_274 (by decide) (fun c_274_345 => ?_) (fun c_274_345 => ?_)
            · have z_347 : ff M_323 = 1 := ff_1 (ufx_344.trans c_274_345)
              clear c_274_345
              refine lv_aload_n hx hb dX10_line_278 rfl (lv_at hl 1 rfl) ?_
              refine lv_bipush (v := 59) hx hb dX10_line_279 (by decide) ?_
              refine ti_callVi (ci := 10) (av := [.int 59]) C hw (x_X10_isSign l D A cy hJ M_323 iM_323 59) ⟨ml_X10_251, ym_X10_isSign, yv_X10_isSign, yi_X10_isSign, yc_X10_isSign⟩ yd_X10_isSign ob_60 (by decide) rfl rfl hl.1 (Nat.le_of_ble_eq_true rfl) ⟨by decide, by decide⟩ ⟨Nat.zero_le _, Nat.zero_le _⟩ dX10_line_281 (fun r_348 M_349 H locs hp_349 hw => ?_)
              obtain ⟨hm, hz⟩ := hp_349
              have hw := hw.to hm
              rcases hz with ⟨rfl, d0_350, d1_350, d2_350⟩ | ⟨rfl, d3_350⟩
              · have dk_350 := rQ_s1 (k := 29) hs_327 d0_350 d1_350 d2_350 (by decide)
                have z_351 : ff M_323 = 1 := ff_1 d0_350
                have z_352 : pg M_323 = 2 * (tI M_323 60 21).toInt := pg_3 (by rw [d1_350]; decide)
                clear d0_350 d1_350 d2_350
                refine sb_if_ne (tgt := 295) hx hb (by decide : (1 : Int32).toInt = 1) dX10_line_284 (by decide) (fun c_284_352 => ?_) (fun h => absurd h (by decide))
                refine lv_aload_n hx hb dX10_line_295 rfl (lv_at hl 1 rfl) ?_
                refine ti_callVvE (ci := 10) (av := []) C hE hw (x_X10_token l D A cy hJ M_323 iM_323 ) ⟨ml_X10_214, ym_X10_token, yv_X10_token, yi_X10_token, yc_X10_token⟩ yd_X10_token ob_60 (by decide) rfl rfl hl.1 (Nat.le_of_ble_eq_true rfl) ⟨by decide, by decide⟩ ⟨Nat.zero_le _, Nat.zero_le _⟩ dX10_line_296 (fun M_368 H locs hp_368 hw => ?_)
                obtain ⟨iM_368, q_371, z_369, z_370, k2M_368, k3M_368, k4M_368⟩ := hp_368
                have hs_372 := rQ_av hs_327 (rQ_g0 hs_327 (by omega)) (iM_323.1 21).1 q_371 k2M_368 k3M_368 k4M_368
                obtain ⟨-, -, z_373, z_374, z_375, z_376, z_377, z_378⟩ := l_tk ⟨iM_368, q_371, z_369, z_370⟩
                clear z_369 z_370 k2M_368 k3M_368 k4M_368
                obtain ⟨g_379, eg_379⟩ : ∃ z : Nat → Int, z = pp_av B n g_326 := ⟨_, rfl⟩
                rw [← eg_379] at hs_372
                have tl_380 : qL d_328 M_368 := qL_fr tl_329 q_371.1 (q_371.2 18 (by decide)) (q_371.2 30 (by decide)) (by omega)
                refine lv_aload_n hx hb dX10_line_299 rfl (lv_at hl 1 rfl) ?_
                refine lv_dup hx hb dX10_line_300 rfl ?_
                refine ti_get (ci := 10) (k := 19) (N := 67) (T := TX10) C hw iw_10 rfl ob_60 (by decide) (by decide) fl_X10_254 rfl rfl dX10_line_301 ?_
                refine lv_topi (fun x_393 ex_393 => ?_)
                refine lv_iconst (v := 1) hx hb dX10_line_304 (by decide) ?_
                have r9 := rQ_g0 hs_372 (show ff M_368 = 1 by omega)
                have x9 : g_379 9 = (x_393 : Int32).toInt := ((hs_372.2.2.2 r9).2.2.1.2.2).trans (congrArg Int32.toInt (ex_393.symm))
                have y9 : g_379 9 = rg 9 := by rw [eg_379, av_n (by decide), j_330]; exact lb_9
                refine lv_iadd hx hb dX10_line_305 ?_
                refine lv_topi (fun x_394 ex_394 => ?_)
                have lox_394x_393 := x_393.le_toInt
                have hix_394x_393 := x_393.toInt_lt
                have tx_394 : x_394.toInt = x_393.toInt + 1 := i_add ex_394 rfl (by decide : (1 : Int32).toInt = 1) (by omega) (by omega)
                refine ti_putI (ci := 10) (k := 19) (N := 67) (T := TX10) C hw iw_10 tyX10 tyX10_ok nmX10 rfl ob_60 (by decide) (by decide) fl_X10_254 rfl rfl rfl rfl (fn_10 A _) fs_10_19 dX10_line_306 (fun H locs hw => ?_)
                obtain ⟨M_395, hM_395⟩ : ∃ z : ti_M, z = uI M_368 60 19 x_394 := ⟨_, rfl⟩
                have hw := hw.to hM_395.symm
                have iM_395 : mI Tm M_395 := mI_uI iM_368 hM_395 (by decide) (by decide) trivial
                have z_396 : ff M_395 = ff M_368 := ff_I hM_395 (by decide)
                have z_397 : pg M_395 = pg M_368 := pg_I hM_395 (by decide)
                have z_398 : (tI M_395 60 29).toInt = (tI M_368 60 29).toInt := by rw [tI_nE hM_395 (nk (by decide))]
                have z_399 : (tI M_395 60 30).toInt = (tI M_368 60 30).toInt := by rw [tI_nE hM_395 (nk (by decide))]
                have z_400 : (tY M_395 60 3 18).toInt = (tY M_368 60 3 18).toInt := by rw [tY_uIE hM_395]
                have hs_401 := rQ_19 hs_372 hM_395
                obtain ⟨g_402, eg_402⟩ : ∃ z : Nat → Int, z = pp_su g_379 9 x_394.toInt := ⟨_, rfl⟩
                rw [← eg_402] at hs_401
                have z_403 : (tI M_395 60 21).toInt = (tI M_368 60 21).toInt := by rw [tI_nE hM_395 (nk (by decide))]
                have tl_404 : qL d_328 M_395 := qL_fr tl_380 (ry_I hM_395) (tI_nE hM_395 (nk (by decide))) (tI_nE hM_395 (nk (by decide))) (by omega)
                exact hQ _ _ _ _ _ hw (⟨(gU.trans (gU_e (ry_I hM_395)) (gU.trans (gU_e q_371.1) f_325)), (by rw [← j_331]; exact tl_404), (by unfold pp_ln; rw [← j_330]; unfold pp_tk; rw [if_pos dk_350.1, ← eg_379]; unfold pp_l9; rw [show g_379 9 + 1 = x_394.toInt by omega, ← eg_402]; exact hs_401), iM_395, (ln.trans (ln_l0 (l0_I hM_395 (by decide))) (ln.trans (ln_l0 (l0_pr q_371 (by decide) (by decide))) f_324)), (by omega), (by omega), (by omega), (by omega), (by omega), (by omega), (by omega), (by omega), (by omega), (by omega), (by omega), (um_l0 j_343 (l0.trans (l0_I hM_395 (by decide)) (l0_pr q_371 (by decide) (by decide))) (by omega))⟩) dX10_line_309
              · have dk_350 := rQ_s0 (k := 29) hs_327 d3_350 (by decide) (by decide)
                clear d3_350
                refine sb_if_ne (tgt := 295) hx hb (by decide : (0 : Int32).toInt = 0) dX10_line_284 (by decide) (fun h => absurd h (by decide)) (fun c_284_353 => ?_)
                refine lv_aload_n hx hb dX10_line_287 rfl (lv_at hl 1 rfl) ?_
                refine lv_iconst (v := 1) hx hb dX10_line_288 (by decide) ?_
                refine ti_callVv (ci := 10) (av := [.int 1]) C hw (x_X10_wrong l D A cy hJ M_323 iM_323 1 (by decide) B n g_326 hs_327) ⟨ml_X10_217, ym_X10_wrong, yv_X10_wrong, yi_X10_wrong, yc_X10_wrong⟩ yd_X10_wrong ob_60 (by decide) rfl rfl hl.1 (Nat.le_of_ble_eq_true rfl) ⟨by decide, by decide⟩ ⟨Nat.zero_le _, Nat.zero_le _⟩ dX10_line_289 (fun M_356 H locs hp_356 hw => ?_)
                rw [show (1 : Int32).toInt = 1 by decide] at hp_356
                obtain ⟨hs_357, hp_358⟩ := hp_356
                obtain ⟨iM_356, q_359, z_360, z_361, z_362, z_363, z_364⟩ := l_wr hp_358
                clear hp_358
                obtain ⟨g_365, eg_365⟩ : ∃ z : Nat → Int, z = pp_rf 1 g_326 := ⟨_, rfl⟩
                rw [← eg_365] at hs_357
                have tl_366 : qL d_328 M_356 := qL_fr tl_329 q_359.1 (q_359.2 18 (by decide)) (q_359.2 30 (by decide)) (by omega)
                refine lv_goto (tgt := 299) hx hb dX10_line_292 (by decide) ?_
                refine lv_aload_n hx hb dX10_line_299 rfl (lv_at hl 1 rfl) ?_
                refine lv_dup hx hb dX10_line_300 rfl ?_
                refine ti_get (ci := 10) (k := 19) (N := 67) (T := TX10) C hw iw_10 rfl ob_60 (by decide) (by decide) fl_X10_254 rfl rfl dX10_line_301 ?_
                refine lv_topi (fun x_381 ex_381 => ?_)
                refine lv_iconst (v := 1) hx hb dX10_line_304 (by decide) ?_
                refine lv_iadd hx hb dX10_line_305 ?_
                refine lv_topi (fun x_382 ex_382 => ?_)
                refine ti_putI (ci := 10) (k := 19) (N := 67) (T := TX10) C hw iw_10 tyX10 tyX10_ok nmX10 rfl ob_60 (by decide) (by decide) fl_X10_254 rfl rfl rfl rfl (fn_10 A _) fs_10_19 dX10_line_306 (fun H locs hw => ?_)
                obtain ⟨M_383, hM_383⟩ : ∃ z : ti_M, z = uI M_356 60 19 x_382 := ⟨_, rfl⟩
                have hw := hw.to hM_383.symm
                have iM_383 : mI Tm M_383 := mI_uI iM_356 hM_383 (by decide) (by decide) trivial
                have z_384 : ff M_383 = ff M_356 := ff_I hM_383 (by decide)
                have z_385 : pg M_383 = pg M_356 := pg_I hM_383 (by decide)
                have z_386 : (tI M_383 60 29).toInt = (tI M_356 60 29).toInt := by rw [tI_nE hM_383 (nk (by decide))]
                have z_387 : (tI M_383 60 30).toInt = (tI M_356 60 30).toInt := by rw [tI_nE hM_383 (nk (by decide))]
                have z_388 : (tY M_383 60 3 18).toInt = (tY M_356 60 3 18).toInt := by rw [tY_uIE hM_383]
                have hs_389 := rQ_19 hs_357 hM_383
                obtain ⟨g_390, eg_390⟩ : ∃ z : Nat → Int, z = pp_su g_365 9 x_382.toInt := ⟨_, rfl⟩
                rw [← eg_390] at hs_389
                have z_391 : (tI M_383 60 21).toInt = (tI M_356 60 21).toInt := by rw [tI_nE hM_383 (nk (by decide))]
                have tl_392 : qL d_328 M_383 := qL_fr tl_366 (ry_I hM_383) (tI_nE hM_383 (nk (by decide))) (tI_nE hM_383 (nk (by decide))) (by omega)
                exact hQ _ _ _ _ _ hw (⟨(gU.trans (gU_e (ry_I hM_383)) (gU.trans (gU_e q_359.1) f_325)), (by rw [← j_331]; exact tl_392), (by have z := (rQ_z hs_357 (rQ_g1 hs_357 (by omega))); rw [show pp_ln B n rg = pp_l9 g_365 by unfold pp_ln; rw [← j_330]; unfold pp_tk; rw [if_neg dk_350, ← eg_365]]; exact rQ_f hs_389 (by rw [eg_390, su_n (by decide)]; exact z.1) (by rw [eg_390]; exact l9_k z)), iM_383, (ln.trans (ln_l0 (l0_I hM_383 (by decide))) (ln.trans (ln_l0 (l0_pr q_359 (by decide) (by decide))) f_324)), (by omega), (by omega), (by omega), (by omega), (by omega), (by omega), (by omega), (by omega), (by omega), (by omega), (by omega), (um_l0 j_343 (l0.trans (l0_I hM_383 (by decide)) (l0_pr q_359 (by decide) (by decide))) (by omega))⟩) dX10_line_309
            · have z_347 : ff M_323 = 0 := ff_0 (fun h => c_274_345 (ufx_344.symm.trans h))
              clear c_274_345
              exact hQ _ _ _ _ _ hw (⟨f_325, (by rw [← j_331]; exact tl_329), (rQ_f hs_327 (rQ_g1 hs_327 (by omega)) (ln_k (by rw [← j_330]; exact fk.refl (rQ_z hs_327 (rQ_g1 hs_327 (by omega)))) (rQ_z hs_327 (rQ_g1 hs_327 (by omega))))), iM_323, f_324, (by omega), (by omega), (by omega), (by omega), (by omega), (by omega), (by omega), (by omega), (by omega), (by omega), (by omega), j_343⟩) dX10_line_277
          by_cases s_116_0 : x_4 = 0
          · refine lv_tableIn (tgt := 148) (off := 46) hx hb dX10_line_102 (by rw [s_116_0]; decide) (by rw [s_116_0]; decide) (by rw [s_116_0]; decide) (by decide) ?_
            have w0 : (x_4 : Int32).toInt = 0 := by rw [s_116_0]; decide
            have w1 : (tY M_103 60 3 11).toInt = (tY M 60 3 11).toInt := by rw [(((tY_fr q_106.1).trans (tY_uIE hM_92)))]
            refine lv_aload_n hx hb dX10_line_148 rfl (lv_at hl 1 rfl) ?_
            refine lv_bipush (v := 8) hx hb dX10_line_149 (by decide) ?_
            refine lv_aload_n hx hb dX10_line_151 rfl (lv_at hl 1 rfl) ?_
            refine lv_iconst (v := 0) hx hb dX10_line_152 (by decide) ?_
            refine ti_callVi (ci := 10) (av := [.int 0]) C hw (s_X10_fresher_0 l D A cy hJ M_103 iM_103 ) ⟨ml_X10_224, ym_X10_fresher, yv_X10_fresher, yi_X10_fresher, yc_X10_fresher⟩ yd_X10_fresher ob_60 (by decide) rfl rfl hl.1 (Nat.le_of_ble_eq_true rfl) ⟨by decide, by decide⟩ ⟨Nat.zero_le _, Nat.zero_le _⟩ dX10_line_153 (fun r_117 M_118 H locs hp_118 hw => ?_)
            obtain ⟨hm, b0r_117, b1r_117, yr_117⟩ := hp_118
            have hw := hw.to hm
            have zr_117 : (tY M_103 60 3 11).toInt = r_117.toInt := by rw [yr_117]
            refine lv_iadd hx hb dX10_line_156 ?_
            refine lv_topi (fun x_119 ex_119 => ?_)
            have tx_119 : x_119.toInt = 8 + r_117.toInt := i_add ex_119 (by decide : (8 : Int32).toInt = 8) rfl (by omega) (by omega)
            refine ti_callVvE (ci := 10) (av := [.int x_119]) C hE hw (x_X10_manLine l D A cy hJ M_103 iM_103 x_119 r_117 (by omega) (by omega) (yr_117) (by omega) (by omega) (by omega) B n g_114 hs_107 td tl_115) ⟨ml_X10_231, ym_X10_manLine, yv_X10_manLine, yi_X10_manLine, yc_X10_manLine⟩ yd_X10_manLine ob_60 (by decide) rfl rfl hl.1 (Nat.le_of_ble_eq_true rfl) ⟨by decide, by decide⟩ ⟨Nat.zero_le _, Nat.zero_le _⟩ dX10_line_157 (fun M_121 H locs hp_121 hw => ?_)
            obtain ⟨gu_124, tl_122, hp_123⟩ := hp_121
            obtain ⟨hs_125, hp_126⟩ := hp_123
            obtain ⟨iM_121, q_127, z_128, z_129, z_130, z_131, z_132, z_133⟩ := hp_126
            obtain ⟨g_134, eg_134⟩ : ∃ z : Nat → Int, z = pp_mq B n g_114 := ⟨_, rfl⟩
            rw [← eg_134] at hs_125
            obtain ⟨d_135, ed_135⟩ : ∃ z : Nat → Int, z = qq_mq B n g_114 td := ⟨_, rfl⟩
            rw [← ed_135] at tl_122
            have w_137 : x_4.toInt = 0 := by rw [s_116_0]; decide
            have hq_136 : rQ B n (pp_lb B n rg) M_121 := by unfold pp_lb; rw [if_pos (by omega), mn_q, if_pos (by omega), show pp_av B n rg = g_114 by rw [eg_114, eg_99, o1_n (by omega)], ← eg_134]; exact hs_125
            have tl_138 : qL (qq_lb B n rg td) M_121 := by unfold qq_lb; rw [if_pos (by omega), qmn_q (by omega), show pp_av B n rg = g_114 by rw [eg_114, eg_99, o1_n (by omega)], ← ed_135]; exact tl_122
            refine lv_goto (tgt := 270) hx hb dX10_line_160 (by decide) ?_
            exact hj_270_343 M_121 (pp_lb B n rg) (qq_lb B n rg td) _ _ _ iM_121 (ln.trans (ln_l0 q_127) (ln.trans (ln_l0 (l0_pr q_106 (by decide) (by decide))) (ln_l0 (l0_I hM_92 (by decide))))) (gU.trans gu_124 (gU.trans (gU_e q_106.1) (gU_e (ry_I hM_92)))) hq_136 tl_138 rfl rfl (by first | omega | decide) (by first | omega | decide) (by first | omega | decide) (by first | omega | decide) (by first | omega | decide) (by first | omega | decide) (by first | omega | decide) (by first | omega | decide) (by first | omega | decide) (by first | omega | decide) (by first | omega | decide) (um_l0 hum (l0.trans q_127 (l0.trans (l0_pr q_106 (by decide) (by decide)) (l0_I hM_92 (by decide)))) (by omega)) hw (lv_sub hl [0, 1] rfl)
          · have qs_116_0 : x_4.toInt ≠ 0 := pt_ne s_116_0 (by decide)
            by_cases s_116_1 : x_4 = 1
            · refine lv_tableIn (tgt := 163) (off := 61) hx hb dX10_line_102 (by rw [s_116_1]; decide) (by rw [s_116_1]; decide) (by rw [s_116_1]; decide) (by decide) ?_
              refine lv_aload_n hx hb dX10_line_163 rfl (lv_at hl 1 rfl) ?_
              refine ti_callVvE (ci := 10) (av := []) C hE hw (x_X10_guardLine l D A cy hJ M_103 iM_103  B n g_114 hs_107 td tl_115) ⟨ml_X10_234, ym_X10_guardLine, yv_X10_guardLine, yi_X10_guardLine, yc_X10_guardLine⟩ yd_X10_guardLine ob_60 (by decide) rfl rfl hl.1 (Nat.le_of_ble_eq_true rfl) ⟨by decide, by decide⟩ ⟨Nat.zero_le _, Nat.zero_le _⟩ dX10_line_164 (fun M_140 H locs hp_140 hw => ?_)
              obtain ⟨gu_143, tl_141, hp_142⟩ := hp_140
              obtain ⟨hs_144, hp_145⟩ := hp_142
              obtain ⟨iM_140, q_146, z_147, z_148, z_149, z_150, z_151, z_152⟩ := hp_145
              obtain ⟨g_153, eg_153⟩ : ∃ z : Nat → Int, z = pp_gq B n g_114 := ⟨_, rfl⟩
              rw [← eg_153] at hs_144
              have w_155 : x_4.toInt = 1 := by rw [s_116_1]; decide
              have hq_154 : rQ B n (pp_lb B n rg) M_140 := by unfold pp_lb; rw [if_neg (by omega), if_pos (by omega), gd_q, show pp_av B n rg = g_114 by rw [eg_114, eg_99, o1_n (by omega)], ← eg_153]; exact hs_144
              have tl_156 : qL (qq_lb B n rg td) M_140 := by unfold qq_lb; rw [if_neg (by omega), if_pos (by omega)]; exact tl_141
              refine lv_goto (tgt := 270) hx hb dX10_line_167 (by decide) ?_
              exact hj_270_343 M_140 (pp_lb B n rg) (qq_lb B n rg td) _ _ _ iM_140 (ln.trans (ln_l0 q_146) (ln.trans (ln_l0 (l0_pr q_106 (by decide) (by decide))) (ln_l0 (l0_I hM_92 (by decide))))) (gU.trans gu_143 (gU.trans (gU_e q_106.1) (gU_e (ry_I hM_92)))) hq_154 tl_156 rfl rfl (by first | omega | decide) (by first | omega | decide) (by first | omega | decide) (by first | omega | decide) (by first | omega | decide) (by first | omega | decide) (by first | omega | decide) (by first | omega | decide) (by first | omega | decide) (by first | omega | decide) (by first | omega | decide) (um_l0 hum (l0.trans q_146 (l0.trans (l0_pr q_106 (by decide) (by decide)) (l0_I hM_92 (by decide)))) (by omega)) hw (lv_sub hl [0, 1] rfl)
            · have qs_116_1 : x_4.toInt ≠ 1 := pt_ne s_116_1 (by decide)
              by_cases s_116_2 : x_4 = 2
              · refine lv_tableIn (tgt := 170) (off := 68) hx hb dX10_line_102 (by rw [s_116_2]; decide) (by rw [s_116_2]; decide) (by rw [s_116_2]; decide) (by decide) ?_
                refine lv_aload_n hx hb dX10_line_170 rfl (lv_at hl 1 rfl) ?_
                refine ti_callVvE (ci := 10) (av := []) C hE hw (x_X10_powerLine l D A cy hJ M_103 iM_103 (by omega) B n g_114 hs_107 td tl_115) ⟨ml_X10_237, ym_X10_powerLine, yv_X10_powerLine, yi_X10_powerLine, yc_X10_powerLine⟩ yd_X10_powerLine ob_60 (by decide) rfl rfl hl.1 (Nat.le_of_ble_eq_true rfl) ⟨by decide, by decide⟩ ⟨Nat.zero_le _, Nat.zero_le _⟩ dX10_line_171 (fun M_158 H locs hp_158 hw => ?_)
                obtain ⟨gu_161, tl_159, hp_160⟩ := hp_158
                obtain ⟨hs_162, hp_163⟩ := hp_160
                obtain ⟨iM_158, q_164, z_165, z_166, z_167, z_168, z_169, z_170⟩ := hp_163
                obtain ⟨g_171, eg_171⟩ : ∃ z : Nat → Int, z = pp_pq B n g_114 := ⟨_, rfl⟩
                rw [← eg_171] at hs_162
                obtain ⟨d_172, ed_172⟩ : ∃ z : Nat → Int, z = qq_pq B n g_114 td := ⟨_, rfl⟩
                rw [← ed_172] at tl_159
                have w_174 : x_4.toInt = 2 := by rw [s_116_2]; decide
                have hq_173 : rQ B n (pp_lb B n rg) M_158 := by unfold pp_lb; rw [if_neg (by omega), if_neg (by omega), if_pos (by omega), pw_q, show pp_av B n rg = g_114 by rw [eg_114, eg_99, o1_n (by omega)], ← eg_171]; exact hs_162
                have tl_175 : qL (qq_lb B n rg td) M_158 := by unfold qq_lb; rw [if_neg (by omega), if_neg (by omega), if_pos (by omega), qpw_q, show pp_av B n rg = g_114 by rw [eg_114, eg_99, o1_n (by omega)], ← ed_172]; exact tl_159
                refine lv_goto (tgt := 270) hx hb dX10_line_174 (by decide) ?_
                exact hj_270_343 M_158 (pp_lb B n rg) (qq_lb B n rg td) _ _ _ iM_158 (ln.trans (ln_l0 q_164) (ln.trans (ln_l0 (l0_pr q_106 (by decide) (by decide))) (ln_l0 (l0_I hM_92 (by decide))))) (gU.trans gu_161 (gU.trans (gU_e q_106.1) (gU_e (ry_I hM_92)))) hq_173 tl_175 rfl rfl (by first | omega | decide) (by first | omega | decide) (by first | omega | decide) (by first | omega | decide) (by first | omega | decide) (by first | omega | decide) (by first | omega | decide) (by first | omega | decide) (by first | omega | decide) (by first | omega | decide) (by first | omega | decide) (um_l0 hum (l0.trans q_164 (l0.trans (l0_pr q_106 (by decide) (by decide)) (l0_I hM_92 (by decide)))) (by omega)) hw (lv_sub hl [0, 1] rfl)
              · have qs_116_2 : x_4.toInt ≠ 2 := pt_ne s_116_2 (by decide)
                by_cases s_116_3 : x_4 = 3
                · refine lv_tableIn (tgt := 177) (off := 75) hx hb dX10_line_102 (by rw [s_116_3]; decide) (by rw [s_116_3]; decide) (by rw [s_116_3]; decide) (by decide) ?_
                  refine lv_aload_n hx hb dX10_line_177 rfl (lv_at hl 1 rfl) ?_
                  refine lv_iconst (v := 1) hx hb dX10_line_178 (by decide) ?_
                  refine lv_aload_n hx hb dX10_line_179 rfl (lv_at hl 1 rfl) ?_
                  refine lv_iconst (v := 0) hx hb dX10_line_180 (by decide) ?_
                  refine lv_sipush (v := 999) hx hb dX10_line_181 (by decide) ?_
                  refine ti_callViE (ci := 10) (av := [.int 0, .int 999]) C hE hw (x_X10_numeral l D A cy hJ M_103 iM_103 0 999 (by decide) (by decide) B n g_114 hs_107) ⟨ml_X10_240, ym_X10_numeral, yv_X10_numeral, yi_X10_numeral, yc_X10_numeral⟩ yd_X10_numeral ob_60 (by decide) rfl rfl hl.1 (Nat.le_of_ble_eq_true rfl) ⟨by decide, by decide⟩ ⟨Nat.zero_le _, Nat.zero_le _⟩ dX10_line_184 (fun r_176 M_177 H locs hp_177 hw => ?_)
                  obtain ⟨hs_178, hm_179, hp_180⟩ := hp_177
                  rw [show (0 : Int32).toInt = 0 by decide] at hs_178
                  rw [show (999 : Int32).toInt = 999 by decide] at hs_178
                  obtain ⟨iM_177, q_181, p_182, p_183, p_184, b0r_176, b1r_176⟩ := hp_180
                  have z_185 := l_ps (by decide) (by decide) ⟨iM_177, q_181, p_182, p_183, p_184⟩
                  clear p_182 p_183 p_184
                  have br_176 : 0 ≤ r_176.toInt ∧ r_176.toInt ≤ 999 := by have l1 : (0 : Int32).toInt = 0 := (by decide); have l2 : (999 : Int32).toInt = 999 := (by decide); omega
                  obtain ⟨g_186, eg_186⟩ : ∃ z : Nat → Int, z = pp_nb B n 0 999 g_114 := ⟨_, rfl⟩
                  rw [← eg_186] at hs_178
                  have tl_187 : qL td M_177 := qL_fr tl_115 q_181.1 (q_181.2 18 (by decide)) (q_181.2 30 (by decide)) (by omega)
                  refine ti_callVv (ci := 10) (av := [.int 1, .int r_176]) C hw (s_X10_reads l D A cy hJ M_177 iM_177 1 r_176 (by decide) (by decide) (by rw [show (11 + (1 : Int32).toInt).toNat = 12 by decide]; exact trivial)) ⟨ml_X10_244, ym_X10_reads, yv_X10_reads, yi_X10_reads, yc_X10_reads⟩ yd_X10_reads ob_60 (by decide) rfl rfl hl.1 (Nat.le_of_ble_eq_true rfl) ⟨by decide, by decide⟩ ⟨Nat.zero_le _, Nat.zero_le _⟩ dX10_line_187 (fun M_189 H locs hp_189 hw => ?_)
                  obtain ⟨iM_189, hM_189⟩ := hp_189
                  rw [show (11 + (1 : Int32).toInt).toNat = 12 by decide] at hM_189
                  have z_190 := s5_3 hM_189 (by decide)
                  have hs_191 := rQ_3x hs_178 hM_189 (by decide)
                  have tl_193 : qL (pp_su td 6 (g_114 1)) M_189 := qL_r (c := 6) tl_187 hM_189 (fun q8 => hm_179 (by have q7 := ff_1 q8; exact ff_y (by omega))) (Or.inl ⟨by decide, by decide, rfl⟩) (fun q8 => by have h9 := (fun q8 => hm_179 (by have q7 := ff_1 q8; exact ff_y (by omega))) q8; refine ⟨fun _ => ?_, fun _ => ?_, fun _ => ?_, fun _ => ?_, fun _ => ?_, fun _ => ?_, fun _ => ?_⟩ <;> omega)
                  obtain ⟨d_192, ed_192⟩ : ∃ z : Nat → Int, z = pp_su td 6 (g_114 1) := ⟨_, rfl⟩
                  rw [← ed_192] at tl_193
                  refine lv_aload_n hx hb dX10_line_190 rfl (lv_at hl 1 rfl) ?_
                  refine lv_iconst (v := 2) hx hb dX10_line_191 (by decide) ?_
                  refine lv_aload_n hx hb dX10_line_192 rfl (lv_at hl 1 rfl) ?_
                  refine lv_iconst (v := 1) hx hb dX10_line_193 (by decide) ?_
                  refine lv_bipush (v := 9) hx hb dX10_line_194 (by decide) ?_
                  refine ti_callViE (ci := 10) (av := [.int 1, .int 9]) C hE hw (x_X10_numeral l D A cy hJ M_189 iM_189 1 9 (by decide) (by decide) B n g_186 hs_191) ⟨ml_X10_240, ym_X10_numeral, yv_X10_numeral, yi_X10_numeral, yc_X10_numeral⟩ yd_X10_numeral ob_60 (by decide) rfl rfl hl.1 (Nat.le_of_ble_eq_true rfl) ⟨by decide, by decide⟩ ⟨Nat.zero_le _, Nat.zero_le _⟩ dX10_line_196 (fun r_194 M_195 H locs hp_195 hw => ?_)
                  obtain ⟨hs_196, hm_197, hp_198⟩ := hp_195
                  rw [show (1 : Int32).toInt = 1 by decide] at hs_196
                  rw [show (9 : Int32).toInt = 9 by decide] at hs_196
                  obtain ⟨iM_195, q_199, p_200, p_201, p_202, b0r_194, b1r_194⟩ := hp_198
                  have z_203 := l_ps (by decide) (by decide) ⟨iM_195, q_199, p_200, p_201, p_202⟩
                  clear p_200 p_201 p_202
                  have br_194 : 1 ≤ r_194.toInt ∧ r_194.toInt ≤ 9 := by have l1 : (1 : Int32).toInt = 1 := (by decide); have l2 : (9 : Int32).toInt = 9 := (by decide); omega
                  obtain ⟨g_204, eg_204⟩ : ∃ z : Nat → Int, z = pp_nb B n 1 9 g_186 := ⟨_, rfl⟩
                  rw [← eg_204] at hs_196
                  have tl_205 : qL d_192 M_195 := qL_fr tl_193 q_199.1 (q_199.2 18 (by decide)) (q_199.2 30 (by decide)) (by omega)
                  refine ti_callVv (ci := 10) (av := [.int 2, .int r_194]) C hw (s_X10_reads l D A cy hJ M_195 iM_195 2 r_194 (by decide) (by decide) (by rw [show (11 + (2 : Int32).toInt).toNat = 13 by decide]; exact trivial)) ⟨ml_X10_244, ym_X10_reads, yv_X10_reads, yi_X10_reads, yc_X10_reads⟩ yd_X10_reads ob_60 (by decide) rfl rfl hl.1 (Nat.le_of_ble_eq_true rfl) ⟨by decide, by decide⟩ ⟨Nat.zero_le _, Nat.zero_le _⟩ dX10_line_199 (fun M_207 H locs hp_207 hw => ?_)
                  obtain ⟨iM_207, hM_207⟩ := hp_207
                  rw [show (11 + (2 : Int32).toInt).toNat = 13 by decide] at hM_207
                  have z_208 := s5_3 hM_207 (by decide)
                  have hs_209 := rQ_3x hs_196 hM_207 (by decide)
                  have tl_211 : qL (pp_su d_192 7 (g_186 1)) M_207 := qL_r (c := 7) tl_205 hM_207 (fun q8 => hm_197 (by have q7 := ff_1 q8; exact ff_y (by omega))) (Or.inl ⟨by decide, by decide, rfl⟩) (fun q8 => by have h9 := (fun q8 => hm_197 (by have q7 := ff_1 q8; exact ff_y (by omega))) q8; refine ⟨fun _ => ?_, fun _ => ?_, fun _ => ?_, fun _ => ?_, fun _ => ?_, fun _ => ?_, fun _ => ?_⟩ <;> omega)
                  obtain ⟨d_210, ed_210⟩ : ∃ z : Nat → Int, z = pp_su d_192 7 (g_186 1) := ⟨_, rfl⟩
                  rw [← ed_210] at tl_211
                  have w_213 : x_4.toInt = 3 := by rw [s_116_3]; decide
                  have hq_212 : rQ B n (pp_lb B n rg) M_207 := by unfold pp_lb; rw [if_neg (by omega), if_neg (by omega), if_neg (by omega), if_pos (by omega), o1_on ⟨by omega, by omega⟩ (by rw [rQ_b3 hr r0 ⟨by omega, by omega⟩, show (rg 0).toNat = x_4.toInt.toNat by omega]; omega), ← eg_99, ← eg_114, ← eg_186, ← eg_204]; exact hs_209
                  have tl_214 : qL (qq_lb B n rg td) M_207 := by unfold qq_lb; rw [if_neg (by omega), if_neg (by omega), if_neg (by omega), if_pos (by omega), o1_on ⟨by omega, by omega⟩ (by rw [rQ_b3 hr r0 ⟨by omega, by omega⟩, show (rg 0).toNat = x_4.toInt.toNat by omega]; omega), ← eg_99, ← eg_114, ← eg_186, ← ed_192, ← ed_210]; exact tl_211
                  refine lv_goto (tgt := 270) hx hb dX10_line_202 (by decide) ?_
                  exact hj_270_343 M_207 (pp_lb B n rg) (qq_lb B n rg td) _ _ _ iM_207 (ln.trans (ln_l0 (l0_3 hM_207 (by decide))) (ln.trans (ln_l0 (l0_pr q_199 (by decide) (by decide))) (ln.trans (ln_l0 (l0_3 hM_189 (by decide))) (ln.trans (ln_l0 (l0_pr q_181 (by decide) (by decide))) (ln.trans (ln_l0 (l0_pr q_106 (by decide) (by decide))) (ln_l0 (l0_I hM_92 (by decide)))))))) (gU.trans (gU_Yx hM_207 (by decide)) (gU.trans (gU_e q_199.1) (gU.trans (gU_Yx hM_189 (by decide)) (gU.trans (gU_e q_181.1) (gU.trans (gU_e q_106.1) (gU_e (ry_I hM_92))))))) hq_212 tl_214 rfl rfl (by first | omega | decide) (by first | omega | decide) (by first | omega | decide) (by first | omega | decide) (by first | omega | decide) (by first | omega | decide) (by first | omega | decide) (by first | omega | decide) (by first | omega | decide) (by first | omega | decide) (by first | omega | decide) (um_l0 hum (l0.trans (l0_3 hM_207 (by decide)) (l0.trans (l0_pr q_199 (by decide) (by decide)) (l0.trans (l0_3 hM_189 (by decide)) (l0.trans (l0_pr q_181 (by decide) (by decide)) (l0.trans (l0_pr q_106 (by decide) (by decide)) (l0_I hM_92 (by decide))))))) (by omega)) hw (lv_sub hl [0, 1] rfl)
                · have qs_116_3 : x_4.toInt ≠ 3 := pt_ne s_116_3 (by decide)
                  by_cases s_116_4 : x_4 = 4
                  · refine lv_tableIn (tgt := 205) (off := 103) hx hb dX10_line_102 (by rw [s_116_4]; decide) (by rw [s_116_4]; decide) (by rw [s_116_4]; decide) (by decide) ?_
                    refine lv_aload_n hx hb dX10_line_205 rfl (lv_at hl 1 rfl) ?_
                    refine lv_iconst (v := 3) hx hb dX10_line_206 (by decide) ?_
                    refine lv_aload_n hx hb dX10_line_207 rfl (lv_at hl 1 rfl) ?_
                    refine lv_iconst (v := 1) hx hb dX10_line_208 (by decide) ?_
                    refine lv_bipush (v := 30) hx hb dX10_line_209 (by decide) ?_
                    refine ti_callViE (ci := 10) (av := [.int 1, .int 30]) C hE hw (x_X10_numeral l D A cy hJ M_103 iM_103 1 30 (by decide) (by decide) B n g_114 hs_107) ⟨ml_X10_240, ym_X10_numeral, yv_X10_numeral, yi_X10_numeral, yc_X10_numeral⟩ yd_X10_numeral ob_60 (by decide) rfl rfl hl.1 (Nat.le_of_ble_eq_true rfl) ⟨by decide, by decide⟩ ⟨Nat.zero_le _, Nat.zero_le _⟩ dX10_line_211 (fun r_215 M_216 H locs hp_216 hw => ?_)
                    obtain ⟨hs_217, hm_218, hp_219⟩ := hp_216
                    rw [show (1 : Int32).toInt = 1 by decide] at hs_217
                    rw [show (30 : Int32).toInt = 30 by decide] at hs_217
                    obtain ⟨iM_216, q_220, p_221, p_222, p_223, b0r_215, b1r_215⟩ := hp_219
                    have z_224 := l_ps (by decide) (by decide) ⟨iM_216, q_220, p_221, p_222, p_223⟩
                    clear p_221 p_222 p_223
                    have br_215 : 1 ≤ r_215.toInt ∧ r_215.toInt ≤ 30 := by have l1 : (1 : Int32).toInt = 1 := (by decide); have l2 : (30 : Int32).toInt = 30 := (by decide); omega
                    obtain ⟨g_225, eg_225⟩ : ∃ z : Nat → Int, z = pp_nb B n 1 30 g_114 := ⟨_, rfl⟩
                    rw [← eg_225] at hs_217
                    have tl_226 : qL td M_216 := qL_fr tl_115 q_220.1 (q_220.2 18 (by decide)) (q_220.2 30 (by decide)) (by omega)
                    refine ti_callVv (ci := 10) (av := [.int 3, .int r_215]) C hw (s_X10_reads l D A cy hJ M_216 iM_216 3 r_215 (by decide) (by decide) (by rw [show (11 + (3 : Int32).toInt).toNat = 14 by decide]; exact (ib_mk (lo := 1) (hi := 30) (by omega) (by omega)))) ⟨ml_X10_244, ym_X10_reads, yv_X10_reads, yi_X10_reads, yc_X10_reads⟩ yd_X10_reads ob_60 (by decide) rfl rfl hl.1 (Nat.le_of_ble_eq_true rfl) ⟨by decide, by decide⟩ ⟨Nat.zero_le _, Nat.zero_le _⟩ dX10_line_214 (fun M_228 H locs hp_228 hw => ?_)
                    obtain ⟨iM_228, hM_228⟩ := hp_228
                    rw [show (11 + (3 : Int32).toInt).toNat = 14 by decide] at hM_228
                    have z_229 := s5_3 hM_228 (by decide)
                    have hs_230 := rQ_3x hs_217 hM_228 (by decide)
                    have tl_232 : qL (pp_su td 8 (g_114 1)) M_228 := qL_r (c := 8) tl_226 hM_228 (fun q8 => hm_218 (by have q7 := ff_1 q8; exact ff_y (by omega))) (Or.inl ⟨by decide, by decide, rfl⟩) (fun q8 => by have h9 := (fun q8 => hm_218 (by have q7 := ff_1 q8; exact ff_y (by omega))) q8; refine ⟨fun _ => ?_, fun _ => ?_, fun _ => ?_, fun _ => ?_, fun _ => ?_, fun _ => ?_, fun _ => ?_⟩ <;> omega)
                    obtain ⟨d_231, ed_231⟩ : ∃ z : Nat → Int, z = pp_su td 8 (g_114 1) := ⟨_, rfl⟩
                    rw [← ed_231] at tl_232
                    have w_234 : x_4.toInt = 4 := by rw [s_116_4]; decide
                    have hq_233 : rQ B n (pp_lb B n rg) M_228 := by unfold pp_lb; rw [if_neg (by omega), if_neg (by omega), if_neg (by omega), if_neg (by omega), if_pos (by omega), o1_on ⟨by omega, by omega⟩ (by rw [rQ_b3 hr r0 ⟨by omega, by omega⟩, show (rg 0).toNat = x_4.toInt.toNat by omega]; omega), ← eg_99, ← eg_114, ← eg_225]; exact hs_230
                    have tl_235 : qL (qq_lb B n rg td) M_228 := by unfold qq_lb; rw [if_neg (by omega), if_neg (by omega), if_neg (by omega), if_neg (by omega), if_pos (by omega), o1_on ⟨by omega, by omega⟩ (by rw [rQ_b3 hr r0 ⟨by omega, by omega⟩, show (rg 0).toNat = x_4.toInt.toNat by omega]; omega), ← eg_99, ← eg_114, ← ed_231]; exact tl_232
                    refine lv_goto (tgt := 270) hx hb dX10_line_217 (by decide) ?_
                    exact hj_270_343 M_228 (pp_lb B n rg) (qq_lb B n rg td) _ _ _ iM_228 (ln.trans (ln_l0 (l0_3 hM_228 (by decide))) (ln.trans (ln_l0 (l0_pr q_220 (by decide) (by decide))) (ln.trans (ln_l0 (l0_pr q_106 (by decide) (by decide))) (ln_l0 (l0_I hM_92 (by decide)))))) (gU.trans (gU_Yx hM_228 (by decide)) (gU.trans (gU_e q_220.1) (gU.trans (gU_e q_106.1) (gU_e (ry_I hM_92))))) hq_233 tl_235 rfl rfl (by first | omega | decide) (by first | omega | decide) (by first | omega | decide) (by first | omega | decide) (by first | omega | decide) (by first | omega | decide) (by first | omega | decide) (by first | omega | decide) (by first | omega | decide) (by first | omega | decide) (by first | omega | decide) (um_l0 hum (l0.trans (l0_3 hM_228 (by decide)) (l0.trans (l0_pr q_220 (by decide) (by decide)) (l0.trans (l0_pr q_106 (by decide) (by decide)) (l0_I hM_92 (by decide))))) (by omega)) hw (lv_sub hl [0, 1] rfl)
                  · have qs_116_4 : x_4.toInt ≠ 4 := pt_ne s_116_4 (by decide)
                    by_cases s_116_5 : x_4 = 5
                    · refine lv_tableIn (tgt := 220) (off := 118) hx hb dX10_line_102 (by rw [s_116_5]; decide) (by rw [s_116_5]; decide) (by rw [s_116_5]; decide) (by decide) ?_
                      refine lv_aload_n hx hb dX10_line_220 rfl (lv_at hl 1 rfl) ?_
                      refine lv_iconst (v := 4) hx hb dX10_line_221 (by decide) ?_
                      refine lv_aload_n hx hb dX10_line_222 rfl (lv_at hl 1 rfl) ?_
                      refine lv_iconst (v := 1) hx hb dX10_line_223 (by decide) ?_
                      refine lv_bipush (v := 7) hx hb dX10_line_224 (by decide) ?_
                      refine ti_callViE (ci := 10) (av := [.int 1, .int 7]) C hE hw (x_X10_numeral l D A cy hJ M_103 iM_103 1 7 (by decide) (by decide) B n g_114 hs_107) ⟨ml_X10_240, ym_X10_numeral, yv_X10_numeral, yi_X10_numeral, yc_X10_numeral⟩ yd_X10_numeral ob_60 (by decide) rfl rfl hl.1 (Nat.le_of_ble_eq_true rfl) ⟨by decide, by decide⟩ ⟨Nat.zero_le _, Nat.zero_le _⟩ dX10_line_226 (fun r_236 M_237 H locs hp_237 hw => ?_)
                      obtain ⟨hs_238, hm_239, hp_240⟩ := hp_237
                      rw [show (1 : Int32).toInt = 1 by decide] at hs_238
                      rw [show (7 : Int32).toInt = 7 by decide] at hs_238
                      obtain ⟨iM_237, q_241, p_242, p_243, p_244, b0r_236, b1r_236⟩ := hp_240
                      have z_245 := l_ps (by decide) (by decide) ⟨iM_237, q_241, p_242, p_243, p_244⟩
                      clear p_242 p_243 p_244
                      have br_236 : 1 ≤ r_236.toInt ∧ r_236.toInt ≤ 7 := by have l1 : (1 : Int32).toInt = 1 := (by decide); have l2 : (7 : Int32).toInt = 7 := (by decide); omega
                      obtain ⟨g_246, eg_246⟩ : ∃ z : Nat → Int, z = pp_nb B n 1 7 g_114 := ⟨_, rfl⟩
                      rw [← eg_246] at hs_238
                      have tl_247 : qL td M_237 := qL_fr tl_115 q_241.1 (q_241.2 18 (by decide)) (q_241.2 30 (by decide)) (by omega)
                      refine ti_callVv (ci := 10) (av := [.int 4, .int r_236]) C hw (s_X10_reads l D A cy hJ M_237 iM_237 4 r_236 (by decide) (by decide) (by rw [show (11 + (4 : Int32).toInt).toNat = 15 by decide]; exact trivial)) ⟨ml_X10_244, ym_X10_reads, yv_X10_reads, yi_X10_reads, yc_X10_reads⟩ yd_X10_reads ob_60 (by decide) rfl rfl hl.1 (Nat.le_of_ble_eq_true rfl) ⟨by decide, by decide⟩ ⟨Nat.zero_le _, Nat.zero_le _⟩ dX10_line_229 (fun M_249 H locs hp_249 hw => ?_)
                      obtain ⟨iM_249, hM_249⟩ := hp_249
                      rw [show (11 + (4 : Int32).toInt).toNat = 15 by decide] at hM_249
                      have z_250 := s5_3 hM_249 (by decide)
                      have hs_251 := rQ_3x hs_238 hM_249 (by decide)
                      have tl_253 : qL (pp_su td 9 (g_114 1)) M_249 := qL_r (c := 9) tl_247 hM_249 (fun q8 => hm_239 (by have q7 := ff_1 q8; exact ff_y (by omega))) (Or.inl ⟨by decide, by decide, rfl⟩) (fun q8 => by have h9 := (fun q8 => hm_239 (by have q7 := ff_1 q8; exact ff_y (by omega))) q8; refine ⟨fun _ => ?_, fun _ => ?_, fun _ => ?_, fun _ => ?_, fun _ => ?_, fun _ => ?_, fun _ => ?_⟩ <;> omega)
                      obtain ⟨d_252, ed_252⟩ : ∃ z : Nat → Int, z = pp_su td 9 (g_114 1) := ⟨_, rfl⟩
                      rw [← ed_252] at tl_253
                      have w_255 : x_4.toInt = 5 := by rw [s_116_5]; decide
                      have hq_254 : rQ B n (pp_lb B n rg) M_249 := by unfold pp_lb; rw [if_neg (by omega), if_neg (by omega), if_neg (by omega), if_neg (by omega), if_neg (by omega), if_pos (by omega), o1_on ⟨by omega, by omega⟩ (by rw [rQ_b3 hr r0 ⟨by omega, by omega⟩, show (rg 0).toNat = x_4.toInt.toNat by omega]; omega), ← eg_99, ← eg_114, ← eg_246]; exact hs_251
                      have tl_256 : qL (qq_lb B n rg td) M_249 := by unfold qq_lb; rw [if_neg (by omega), if_neg (by omega), if_neg (by omega), if_neg (by omega), if_neg (by omega), if_pos (by omega), o1_on ⟨by omega, by omega⟩ (by rw [rQ_b3 hr r0 ⟨by omega, by omega⟩, show (rg 0).toNat = x_4.toInt.toNat by omega]; omega), ← eg_99, ← eg_114, ← ed_252]; exact tl_253
                      refine lv_goto (tgt := 270) hx hb dX10_line_232 (by decide) ?_
                      exact hj_270_343 M_249 (pp_lb B n rg) (qq_lb B n rg td) _ _ _ iM_249 (ln.trans (ln_l0 (l0_3 hM_249 (by decide))) (ln.trans (ln_l0 (l0_pr q_241 (by decide) (by decide))) (ln.trans (ln_l0 (l0_pr q_106 (by decide) (by decide))) (ln_l0 (l0_I hM_92 (by decide)))))) (gU.trans (gU_Yx hM_249 (by decide)) (gU.trans (gU_e q_241.1) (gU.trans (gU_e q_106.1) (gU_e (ry_I hM_92))))) hq_254 tl_256 rfl rfl (by first | omega | decide) (by first | omega | decide) (by first | omega | decide) (by first | omega | decide) (by first | omega | decide) (by first | omega | decide) (by first | omega | decide) (by first | omega | decide) (by first | omega | decide) (by first | omega | decide) (by first | omega | decide) (um_l0 hum (l0.trans (l0_3 hM_249 (by decide)) (l0.trans (l0_pr q_241 (by decide) (by decide)) (l0.trans (l0_pr q_106 (by decide) (by decide)) (l0_I hM_92 (by decide))))) (by omega)) hw (lv_sub hl [0, 1] rfl)
                    · have qs_116_5 : x_4.toInt ≠ 5 := pt_ne s_116_5 (by decide)
                      by_cases s_116_6 : x_4 = 6
                      · refine lv_tableIn (tgt := 235) (off := 133) hx hb dX10_line_102 (by rw [s_116_6]; decide) (by rw [s_116_6]; decide) (by rw [s_116_6]; decide) (by decide) ?_
                        refine lv_aload_n hx hb dX10_line_235 rfl (lv_at hl 1 rfl) ?_
                        refine lv_iconst (v := 5) hx hb dX10_line_236 (by decide) ?_
                        refine lv_aload_n hx hb dX10_line_237 rfl (lv_at hl 1 rfl) ?_
                        refine lv_iconst (v := 0) hx hb dX10_line_238 (by decide) ?_
                        refine lv_bipush (v := 99) hx hb dX10_line_239 (by decide) ?_
                        refine ti_callViE (ci := 10) (av := [.int 0, .int 99]) C hE hw (x_X10_numeral l D A cy hJ M_103 iM_103 0 99 (by decide) (by decide) B n g_114 hs_107) ⟨ml_X10_240, ym_X10_numeral, yv_X10_numeral, yi_X10_numeral, yc_X10_numeral⟩ yd_X10_numeral ob_60 (by decide) rfl rfl hl.1 (Nat.le_of_ble_eq_true rfl) ⟨by decide, by decide⟩ ⟨Nat.zero_le _, Nat.zero_le _⟩ dX10_line_241 (fun r_257 M_258 H locs hp_258 hw => ?_)
                        obtain ⟨hs_259, hm_260, hp_261⟩ := hp_258
                        rw [show (0 : Int32).toInt = 0 by decide] at hs_259
                        rw [show (99 : Int32).toInt = 99 by decide] at hs_259
                        obtain ⟨iM_258, q_262, p_263, p_264, p_265, b0r_257, b1r_257⟩ := hp_261
                        have z_266 := l_ps (by decide) (by decide) ⟨iM_258, q_262, p_263, p_264, p_265⟩
                        clear p_263 p_264 p_265
                        have br_257 : 0 ≤ r_257.toInt ∧ r_257.toInt ≤ 99 := by have l1 : (0 : Int32).toInt = 0 := (by decide); have l2 : (99 : Int32).toInt = 99 := (by decide); omega
                        obtain ⟨g_267, eg_267⟩ : ∃ z : Nat → Int, z = pp_nb B n 0 99 g_114 := ⟨_, rfl⟩
                        rw [← eg_267] at hs_259
                        have tl_268 : qL td M_258 := qL_fr tl_115 q_262.1 (q_262.2 18 (by decide)) (q_262.2 30 (by decide)) (by omega)
                        refine ti_callVv (ci := 10) (av := [.int 5, .int r_257]) C hw (s_X10_reads l D A cy hJ M_258 iM_258 5 r_257 (by decide) (by decide) (by rw [show (11 + (5 : Int32).toInt).toNat = 16 by decide]; exact trivial)) ⟨ml_X10_244, ym_X10_reads, yv_X10_reads, yi_X10_reads, yc_X10_reads⟩ yd_X10_reads ob_60 (by decide) rfl rfl hl.1 (Nat.le_of_ble_eq_true rfl) ⟨by decide, by decide⟩ ⟨Nat.zero_le _, Nat.zero_le _⟩ dX10_line_244 (fun M_270 H locs hp_270 hw => ?_)
                        obtain ⟨iM_270, hM_270⟩ := hp_270
                        rw [show (11 + (5 : Int32).toInt).toNat = 16 by decide] at hM_270
                        have z_271 := s5_3 hM_270 (by decide)
                        have hs_272 := rQ_3x hs_259 hM_270 (by decide)
                        have tl_274 : qL (pp_su td 10 (g_114 1)) M_270 := qL_r (c := 10) tl_268 hM_270 (fun q8 => hm_260 (by have q7 := ff_1 q8; exact ff_y (by omega))) (Or.inl ⟨by decide, by decide, rfl⟩) (fun q8 => by have h9 := (fun q8 => hm_260 (by have q7 := ff_1 q8; exact ff_y (by omega))) q8; refine ⟨fun _ => ?_, fun _ => ?_, fun _ => ?_, fun _ => ?_, fun _ => ?_, fun _ => ?_, fun _ => ?_⟩ <;> omega)
                        obtain ⟨d_273, ed_273⟩ : ∃ z : Nat → Int, z = pp_su td 10 (g_114 1) := ⟨_, rfl⟩
                        rw [← ed_273] at tl_274
                        have w_276 : x_4.toInt = 6 := by rw [s_116_6]; decide
                        have hq_275 : rQ B n (pp_lb B n rg) M_270 := by unfold pp_lb; rw [if_neg (by omega), if_neg (by omega), if_neg (by omega), if_neg (by omega), if_neg (by omega), if_neg (by omega), if_pos (by omega), o1_on ⟨by omega, by omega⟩ (by rw [rQ_b3 hr r0 ⟨by omega, by omega⟩, show (rg 0).toNat = x_4.toInt.toNat by omega]; omega), ← eg_99, ← eg_114, ← eg_267]; exact hs_272
                        have tl_277 : qL (qq_lb B n rg td) M_270 := by unfold qq_lb; rw [if_neg (by omega), if_neg (by omega), if_neg (by omega), if_neg (by omega), if_neg (by omega), if_neg (by omega), if_pos (by omega), o1_on ⟨by omega, by omega⟩ (by rw [rQ_b3 hr r0 ⟨by omega, by omega⟩, show (rg 0).toNat = x_4.toInt.toNat by omega]; omega), ← eg_99, ← eg_114, ← ed_273]; exact tl_274
                        refine lv_goto (tgt := 270) hx hb dX10_line_247 (by decide) ?_
                        exact hj_270_343 M_270 (pp_lb B n rg) (qq_lb B n rg td) _ _ _ iM_270 (ln.trans (ln_l0 (l0_3 hM_270 (by decide))) (ln.trans (ln_l0 (l0_pr q_262 (by decide) (by decide))) (ln.trans (ln_l0 (l0_pr q_106 (by decide) (by decide))) (ln_l0 (l0_I hM_92 (by decide)))))) (gU.trans (gU_Yx hM_270 (by decide)) (gU.trans (gU_e q_262.1) (gU.trans (gU_e q_106.1) (gU_e (ry_I hM_92))))) hq_275 tl_277 rfl rfl (by first | omega | decide) (by first | omega | decide) (by first | omega | decide) (by first | omega | decide) (by first | omega | decide) (by first | omega | decide) (by first | omega | decide) (by first | omega | decide) (by first | omega | decide) (by first | omega | decide) (by first | omega | decide) (um_l0 hum (l0.trans (l0_3 hM_270 (by decide)) (l0.trans (l0_pr q_262 (by decide) (by decide)) (l0.trans (l0_pr q_106 (by decide) (by decide)) (l0_I hM_92 (by decide))))) (by omega)) hw (lv_sub hl [0, 1] rfl)
                      · have qs_116_6 : x_4.toInt ≠ 6 := pt_ne s_116_6 (by decide)
                        by_cases s_116_7 : x_4 = 7
                        · refine lv_tableIn (tgt := 250) (off := 148) hx hb dX10_line_102 (by rw [s_116_7]; decide) (by rw [s_116_7]; decide) (by rw [s_116_7]; decide) (by decide) ?_
                          refine lv_aload_n hx hb dX10_line_250 rfl (lv_at hl 1 rfl) ?_
                          refine lv_bipush (v := 6) hx hb dX10_line_251 (by decide) ?_
                          refine lv_aload_n hx hb dX10_line_253 rfl (lv_at hl 1 rfl) ?_
                          refine lv_iconst (v := 0) hx hb dX10_line_254 (by decide) ?_
                          refine lv_ldc (v := 99999) hx hb C.2.2.2.1 (C.2.2.1 _ cn_X10_192) dX10_line_255 ?_
                          refine ti_callViE (ci := 10) (av := [.int 0, .int 99999]) C hE hw (x_X10_numeral l D A cy hJ M_103 iM_103 0 99999 (by decide) (by decide) B n g_114 hs_107) ⟨ml_X10_240, ym_X10_numeral, yv_X10_numeral, yi_X10_numeral, yc_X10_numeral⟩ yd_X10_numeral ob_60 (by decide) rfl rfl hl.1 (Nat.le_of_ble_eq_true rfl) ⟨by decide, by decide⟩ ⟨Nat.zero_le _, Nat.zero_le _⟩ dX10_line_257 (fun r_278 M_279 H locs hp_279 hw => ?_)
                          obtain ⟨hs_280, hm_281, hp_282⟩ := hp_279
                          rw [show (0 : Int32).toInt = 0 by decide] at hs_280
                          rw [show (99999 : Int32).toInt = 99999 by decide] at hs_280
                          obtain ⟨iM_279, q_283, p_284, p_285, p_286, b0r_278, b1r_278⟩ := hp_282
                          have z_287 := l_ps (by decide) (by decide) ⟨iM_279, q_283, p_284, p_285, p_286⟩
                          clear p_284 p_285 p_286
                          have br_278 : 0 ≤ r_278.toInt ∧ r_278.toInt ≤ 99999 := by have l1 : (0 : Int32).toInt = 0 := (by decide); have l2 : (99999 : Int32).toInt = 99999 := (by decide); omega
                          obtain ⟨g_288, eg_288⟩ : ∃ z : Nat → Int, z = pp_nb B n 0 99999 g_114 := ⟨_, rfl⟩
                          rw [← eg_288] at hs_280
                          have tl_289 : qL td M_279 := qL_fr tl_115 q_283.1 (q_283.2 18 (by decide)) (q_283.2 30 (by decide)) (by omega)
                          refine ti_callVv (ci := 10) (av := [.int 6, .int r_278]) C hw (s_X10_reads l D A cy hJ M_279 iM_279 6 r_278 (by decide) (by decide) (by rw [show (11 + (6 : Int32).toInt).toNat = 17 by decide]; exact trivial)) ⟨ml_X10_244, ym_X10_reads, yv_X10_reads, yi_X10_reads, yc_X10_reads⟩ yd_X10_reads ob_60 (by decide) rfl rfl hl.1 (Nat.le_of_ble_eq_true rfl) ⟨by decide, by decide⟩ ⟨Nat.zero_le _, Nat.zero_le _⟩ dX10_line_260 (fun M_291 H locs hp_291 hw => ?_)
                          obtain ⟨iM_291, hM_291⟩ := hp_291
                          rw [show (11 + (6 : Int32).toInt).toNat = 17 by decide] at hM_291
                          have z_292 := s5_3 hM_291 (by decide)
                          have hs_293 := rQ_3x hs_280 hM_291 (by decide)
                          have tl_295 : qL (pp_su td 11 (g_114 1)) M_291 := qL_r (c := 11) tl_289 hM_291 (fun q8 => hm_281 (by have q7 := ff_1 q8; exact ff_y (by omega))) (Or.inl ⟨by decide, by decide, rfl⟩) (fun q8 => by have h9 := (fun q8 => hm_281 (by have q7 := ff_1 q8; exact ff_y (by omega))) q8; refine ⟨fun _ => ?_, fun _ => ?_, fun _ => ?_, fun _ => ?_, fun _ => ?_, fun _ => ?_, fun _ => ?_⟩ <;> omega)
                          obtain ⟨d_294, ed_294⟩ : ∃ z : Nat → Int, z = pp_su td 11 (g_114 1) := ⟨_, rfl⟩
                          rw [← ed_294] at tl_295
                          have w_297 : x_4.toInt = 7 := by rw [s_116_7]; decide
                          have hq_296 : rQ B n (pp_lb B n rg) M_291 := by unfold pp_lb; rw [if_neg (by omega), if_neg (by omega), if_neg (by omega), if_neg (by omega), if_neg (by omega), if_neg (by omega), if_neg (by omega), if_pos (by omega), o1_on ⟨by omega, by omega⟩ (by rw [rQ_b3 hr r0 ⟨by omega, by omega⟩, show (rg 0).toNat = x_4.toInt.toNat by omega]; omega), ← eg_99, ← eg_114, ← eg_288]; exact hs_293
                          have tl_298 : qL (qq_lb B n rg td) M_291 := by unfold qq_lb; rw [if_neg (by omega), if_neg (by omega), if_neg (by omega), if_neg (by omega), if_neg (by omega), if_neg (by omega), if_neg (by omega), if_pos (by omega), o1_on ⟨by omega, by omega⟩ (by rw [rQ_b3 hr r0 ⟨by omega, by omega⟩, show (rg 0).toNat = x_4.toInt.toNat by omega]; omega), ← eg_99, ← eg_114, ← ed_294]; exact tl_295
                          refine lv_goto (tgt := 270) hx hb dX10_line_263 (by decide) ?_
                          exact hj_270_343 M_291 (pp_lb B n rg) (qq_lb B n rg td) _ _ _ iM_291 (ln.trans (ln_l0 (l0_3 hM_291 (by decide))) (ln.trans (ln_l0 (l0_pr q_283 (by decide) (by decide))) (ln.trans (ln_l0 (l0_pr q_106 (by decide) (by decide))) (ln_l0 (l0_I hM_92 (by decide)))))) (gU.trans (gU_Yx hM_291 (by decide)) (gU.trans (gU_e q_283.1) (gU.trans (gU_e q_106.1) (gU_e (ry_I hM_92))))) hq_296 tl_298 rfl rfl (by first | omega | decide) (by first | omega | decide) (by first | omega | decide) (by first | omega | decide) (by first | omega | decide) (by first | omega | decide) (by first | omega | decide) (by first | omega | decide) (by first | omega | decide) (by first | omega | decide) (by first | omega | decide) (um_l0 hum (l0.trans (l0_3 hM_291 (by decide)) (l0.trans (l0_pr q_283 (by decide) (by decide)) (l0.trans (l0_pr q_106 (by decide) (by decide)) (l0_I hM_92 (by decide))))) (by omega)) hw (lv_sub hl [0, 1] rfl)
                        · have qs_116_7 : x_4.toInt ≠ 7 := pt_ne s_116_7 (by decide)
                          refine lv_tableOut (tgt := 266) hx hb dX10_line_102 (ti_out (lo := 0) (hi := 7) x_4 (fun v h1 h2 => by rcases (show v = 0 ∨ v = 1 ∨ v = 2 ∨ v = 3 ∨ v = 4 ∨ v = 5 ∨ v = 6 ∨ v = 7 by omega) with rfl | rfl | rfl | rfl | rfl | rfl | rfl | rfl <;> first | exact ti_nev 0 s_116_0 (by decide) | exact ti_nev 1 s_116_1 (by decide) | exact ti_nev 2 s_116_2 (by decide) | exact ti_nev 3 s_116_3 (by decide) | exact ti_nev 4 s_116_4 (by decide) | exact ti_nev 5 s_116_5 (by decide) | exact ti_nev 6 s_116_6 (by decide) | exact ti_nev 7 s_116_7 (by decide))) (by decide) ?_
                          refine lv_aload_n hx hb dX10_line_266 rfl (lv_at hl 1 rfl) ?_
                          refine ti_callVvE (ci := 10) (av := []) C hE hw (x_X10_lawLine l D A cy hJ M_103 iM_103 (by omega) (um_l0 hum (l0.trans (l0_pr q_106 (by decide) (by decide)) (l0_I hM_92 (by decide))) (by omega)) (by omega) (by omega) B n g_114 hs_107 td tl_115) ⟨ml_X10_248, ym_X10_lawLine, yv_X10_lawLine, yi_X10_lawLine, yc_X10_lawLine⟩ yd_X10_lawLine ob_60 (by decide) rfl rfl hl.1 (Nat.le_of_ble_eq_true rfl) ⟨by decide, by decide⟩ ⟨Nat.zero_le _, Nat.zero_le _⟩ dX10_line_267 (fun M_300 H locs hp_300 hw => ?_)
                          obtain ⟨gu_303, tl_301, hp_302⟩ := hp_300
                          obtain ⟨hs_304, hp_305⟩ := hp_302
                          obtain ⟨iM_300, q_306, z_307, z_308, z_309, z_310, z_311, z_312, z_313, z_314, z_315, z_316, z_317, u_318⟩ := hp_305
                          obtain ⟨g_319, eg_319⟩ : ∃ z : Nat → Int, z = pp_lq B n g_114 := ⟨_, rfl⟩
                          rw [← eg_319] at hs_304
                          obtain ⟨d_320, ed_320⟩ : ∃ z : Nat → Int, z = qq_lq B n g_114 td := ⟨_, rfl⟩
                          rw [← ed_320] at tl_301
                          have hq_321 : rQ B n (pp_lb B n rg) M_300 := by unfold pp_lb; rw [if_neg (by omega), if_neg (by omega), if_neg (by omega), if_neg (by omega), if_neg (by omega), if_neg (by omega), if_neg (by omega), if_neg (by omega), if_pos (by omega), show pp_lw B n rg = pp_lq B n (pp_av B n rg) from rfl, show pp_av B n rg = g_114 by rw [eg_114, eg_99, o1_n (by omega)], ← eg_319]; exact hs_304
                          have tl_322 : qL (qq_lb B n rg td) M_300 := by unfold qq_lb; rw [if_neg (by omega), if_neg (by omega), if_neg (by omega), if_neg (by omega), if_neg (by omega), if_neg (by omega), if_neg (by omega), if_neg (by omega), if_pos (by omega), show qq_lw B n rg td = qq_lq B n (pp_av B n rg) td from rfl, show pp_av B n rg = g_114 by rw [eg_114, eg_99, o1_n (by omega)], ← ed_320]; exact tl_301
                          exact hj_270_343 M_300 (pp_lb B n rg) (qq_lb B n rg td) _ _ _ iM_300 (ln.trans q_306 (ln.trans (ln_l0 (l0_pr q_106 (by decide) (by decide))) (ln_l0 (l0_I hM_92 (by decide))))) (gU.trans gu_303 (gU.trans (gU_e q_106.1) (gU_e (ry_I hM_92)))) hq_321 tl_322 rfl rfl (by first | omega | decide) (by first | omega | decide) (by first | omega | decide) (by first | omega | decide) (by first | omega | decide) (by first | omega | decide) (by first | omega | decide) (by first | omega | decide) (by first | omega | decide) (by first | omega | decide) (by first | omega | decide) u_318 hw (lv_sub hl [0, 1] rfl)
        refine sb_icmp_lt (tgt := 77) hx hb rfl (by decide : (3 : Int32).toInt = 3) dX10_line_51 (by decide) (fun c_51_48 => ?_) (fun c_51_48 => ?_)
        · refine lv_aload_n hx hb dX10_line_77 rfl (lv_at hl 1 rfl) ?_
          refine ti_get (ci := 10) (k := 25) (N := 67) (T := TX10) C hw iw_10 rfl ob_60 (by decide) (by decide) fl_X10_208 rfl rfl dX10_line_78 ?_
          refine lv_topi (fun x_71 ex_71 => ?_)
          have u_72 : (tI M 60 25).toInt = x_71.toInt := by rw [ex_71]
          have ufx_71 : (tI M 60 25).toInt = x_71.toInt := by rw [ex_71]
          refine sb_if_eq (tgt := 85) hx hb rfl dX10_line_81 (by decide) (fun c_81_72 => ?_) (fun c_81_72 => by have z_74 : ff M = 0 := ff_0 (fun h => c_81_72 (ufx_71.symm.trans h)); omega)
          have z_74 : ff M = 1 := ff_1 (ufx_71.trans c_81_72)
          clear c_81_72
          exact hj_85_88  _ _ _ (by first | omega | decide) (by first | omega | decide) hw (lv_sub hl [0, 1] rfl)
        · refine lv_iload_n hx hb dX10_line_54 rfl (lv_at hl 0 rfl) ?_
          refine lv_bipush (v := 7) hx hb dX10_line_55 (by decide) ?_
          refine sb_icmp_gt (tgt := 77) hx hb rfl (by decide : (7 : Int32).toInt = 7) dX10_line_57 (by decide) (fun c_57_49 => ?_) (fun c_57_49 => ?_)
          · refine lv_aload_n hx hb dX10_line_77 rfl (lv_at hl 1 rfl) ?_
            refine ti_get (ci := 10) (k := 25) (N := 67) (T := TX10) C hw iw_10 rfl ob_60 (by decide) (by decide) fl_X10_208 rfl rfl dX10_line_78 ?_
            refine lv_topi (fun x_75 ex_75 => ?_)
            have u_76 : (tI M 60 25).toInt = x_75.toInt := by rw [ex_75]
            have ufx_75 : (tI M 60 25).toInt = x_75.toInt := by rw [ex_75]
            refine sb_if_eq (tgt := 85) hx hb rfl dX10_line_81 (by decide) (fun c_81_76 => ?_) (fun c_81_76 => by have z_78 : ff M = 0 := ff_0 (fun h => c_81_76 (ufx_75.symm.trans h)); omega)
            have z_78 : ff M = 1 := ff_1 (ufx_75.trans c_81_76)
            clear c_81_76
            exact hj_85_88  _ _ _ (by first | omega | decide) (by first | omega | decide) hw (lv_sub hl [0, 1] rfl)
          · refine lv_aload_n hx hb dX10_line_60 rfl (lv_at hl 1 rfl) ?_
            refine ti_get (ci := 10) (k := 18) (N := 67) (T := TX10) C hw iw_10 rfl ob_60 (by decide) (by decide) fl_X10_228 rfl rfl dX10_line_61 ?_
            refine lv_topi (fun x_51 ex_51 => ?_)
            refine lv_iload_n hx hb dX10_line_64 rfl (lv_at hl 0 rfl) ?_
            refine lv_ishr hx hb dX10_line_65 ?_
            refine lv_topi (fun x_52 ex_52 => ?_)
            refine lv_iconst (v := 1) hx hb dX10_line_66 (by decide) ?_
            refine lv_iand hx hb dX10_line_67 ?_
            refine lv_topi (fun x_53 ex_53 => ?_)
            have bx_53 := i_and 1 ex_53 (by decide) (by decide)
            have bsx_53 : x_53.toInt = pp_bt (tI M 60 18) (x_4.toInt).toNat := by rw [(ex_51.symm)]; exact bt_shr (k := x_4.toInt) ex_52 rfl (by omega) (by omega) ex_53
            have box_53 := bt_01 (tI M 60 18) (x_4.toInt).toNat
            refine lv_iconst (v := 1) hx hb dX10_line_68 (by decide) ?_
            refine sb_icmp_ne (tgt := 77) hx hb rfl (by decide : (1 : Int32).toInt = 1) dX10_line_69 (by decide) (fun c_69_53 => ?_) (fun c_69_53 => ?_)
            · refine lv_aload_n hx hb dX10_line_77 rfl (lv_at hl 1 rfl) ?_
              refine ti_get (ci := 10) (k := 25) (N := 67) (T := TX10) C hw iw_10 rfl ob_60 (by decide) (by decide) fl_X10_208 rfl rfl dX10_line_78 ?_
              refine lv_topi (fun x_79 ex_79 => ?_)
              have u_80 : (tI M 60 25).toInt = x_79.toInt := by rw [ex_79]
              have ufx_79 : (tI M 60 25).toInt = x_79.toInt := by rw [ex_79]
              refine sb_if_eq (tgt := 85) hx hb rfl dX10_line_81 (by decide) (fun c_81_80 => ?_) (fun c_81_80 => by have z_82 : ff M = 0 := ff_0 (fun h => c_81_80 (ufx_79.symm.trans h)); omega)
              have z_82 : ff M = 1 := ff_1 (ufx_79.trans c_81_80)
              clear c_81_80
              exact hj_85_88  _ _ _ (by first | omega | decide) (by first | omega | decide) hw (lv_sub hl [0, 1] rfl)
            · refine lv_aload_n hx hb dX10_line_72 rfl (lv_at hl 1 rfl) ?_
              refine lv_iconst (v := 3) hx hb dX10_line_73 (by decide) ?_
              refine ti_callVv (ci := 10) (av := [.int 3]) C hw (x_X10_wrong l D A cy hJ M hI 3 (by decide) B n rg hr) ⟨ml_X10_217, ym_X10_wrong, yv_X10_wrong, yi_X10_wrong, yc_X10_wrong⟩ yd_X10_wrong ob_60 (by decide) rfl rfl hl.1 (Nat.le_of_ble_eq_true rfl) ⟨by decide, by decide⟩ ⟨Nat.zero_le _, Nat.zero_le _⟩ dX10_line_74 (fun M_56 H locs hp_56 hw => ?_)
              rw [show (3 : Int32).toInt = 3 by decide] at hp_56
              obtain ⟨hs_57, hp_58⟩ := hp_56
              obtain ⟨iM_56, q_59, z_60, z_61, z_62, z_63, z_64⟩ := l_wr hp_58
              clear hp_58
              obtain ⟨g_65, eg_65⟩ : ∃ z : Nat → Int, z = pp_rf 3 rg := ⟨_, rfl⟩
              rw [← eg_65] at hs_57
              have tl_66 : qL td M_56 := qL_fr hql q_59.1 (q_59.2 18 (by decide)) (q_59.2 30 (by decide)) (by omega)
              refine lv_aload_n hx hb dX10_line_77 rfl (lv_at hl 1 rfl) ?_
              refine ti_get (ci := 10) (k := 25) (N := 67) (T := TX10) C hw iw_10 rfl ob_60 (by decide) (by decide) fl_X10_208 rfl rfl dX10_line_78 ?_
              refine lv_topi (fun x_83 ex_83 => ?_)
              have u_84 : (tI M_56 60 25).toInt = x_83.toInt := by rw [ex_83]
              have ufx_83 : (tI M_56 60 25).toInt = x_83.toInt := by rw [ex_83]
              refine sb_if_eq (tgt := 85) hx hb rfl dX10_line_81 (by decide) (fun c_81_84 => by have z_86 : ff M_56 = 1 := ff_1 (ufx_83.trans c_81_84); omega) (fun c_81_84 => ?_)
              have z_86 : ff M_56 = 0 := ff_0 (fun h => c_81_84 (ufx_83.symm.trans h))
              clear c_81_84
              exact hQ _ _ _ _ _ hw (⟨(gU_e q_59.1), (qL_f (by omega)), (rQ_f hs_57 (rQ_g1 hs_57 (by omega)) (ln_k ((by have e3 := (pT_pw (rQ_T hr hf)).2.2 ⟨by omega, by omega⟩; rw [eg_65]; exact lb_3 ⟨by omega, by omega⟩ (by rw [rQ_b3 hr (rQ_g0 hr hf) ⟨by omega, by omega⟩, show (rg 0).toNat = x_4.toInt.toNat by omega]; omega))) (rQ_z hs_57 (rQ_g1 hs_57 (by omega))))), iM_56, (ln_l0 (l0_pr q_59 (by decide) (by decide))), (by omega), (by omega), (by omega), (by omega), (by omega), (by omega), (by omega), (by omega), (by omega), (by omega), (by omega), (um_l0 hum (l0_pr q_59 (by decide) (by decide)) (by omega))⟩) dX10_line_84
      refine sb_if_ne (tgt := 49) hx hb rfl dX10_line_28 (by decide) (fun c_28_31 => ?_) (fun c_28_31 => ?_)
      · exact hj_49_48  _ _ _ (by first | omega | decide) hw (lv_sub hl [0, 1] rfl)
      · refine lv_aload_n hx hb dX10_line_31 rfl (lv_at hl 1 rfl) ?_
        refine lv_iconst (v := 0) hx hb dX10_line_32 (by decide) ?_
        refine ti_callVi (ci := 10) (av := [.int 0]) C hw (s_X10_fresher_0 l D A cy hJ M hI ) ⟨ml_X10_224, ym_X10_fresher, yv_X10_fresher, yi_X10_fresher, yc_X10_fresher⟩ yd_X10_fresher ob_60 (by decide) rfl rfl hl.1 (Nat.le_of_ble_eq_true rfl) ⟨by decide, by decide⟩ ⟨Nat.zero_le _, Nat.zero_le _⟩ dX10_line_33 (fun r_33 M_34 H locs hp_34 hw => ?_)
        obtain ⟨hm, b0r_33, b1r_33, yr_33⟩ := hp_34
        have hw := hw.to hm
        have zr_33 : (tY M 60 3 11).toInt = r_33.toInt := by rw [yr_33]
        refine lv_bipush (v := 8) hx hb dX10_line_36 (by decide) ?_
        refine sb_icmp_ne (tgt := 49) hx hb rfl (by decide : (8 : Int32).toInt = 8) dX10_line_38 (by decide) (fun c_38_34 => ?_) (fun c_38_34 => ?_)
        · exact hj_49_48  _ _ _ (by first | omega | decide) hw (lv_sub hl [0, 1] rfl)
        · refine lv_aload_n hx hb dX10_line_41 rfl (lv_at hl 1 rfl) ?_
          refine lv_iconst (v := 2) hx hb dX10_line_42 (by decide) ?_
          refine ti_callVv (ci := 10) (av := [.int 2]) C hw (x_X10_wrong l D A cy hJ M hI 2 (by decide) B n rg hr) ⟨ml_X10_217, ym_X10_wrong, yv_X10_wrong, yi_X10_wrong, yc_X10_wrong⟩ yd_X10_wrong ob_60 (by decide) rfl rfl hl.1 (Nat.le_of_ble_eq_true rfl) ⟨by decide, by decide⟩ ⟨Nat.zero_le _, Nat.zero_le _⟩ dX10_line_43 (fun M_37 H locs hp_37 hw => ?_)
          rw [show (2 : Int32).toInt = 2 by decide] at hp_37
          obtain ⟨hs_38, hp_39⟩ := hp_37
          obtain ⟨iM_37, q_40, z_41, z_42, z_43, z_44, z_45⟩ := l_wr hp_39
          clear hp_39
          obtain ⟨g_46, eg_46⟩ : ∃ z : Nat → Int, z = pp_rf 2 rg := ⟨_, rfl⟩
          rw [← eg_46] at hs_38
          have tl_47 : qL td M_37 := qL_fr hql q_40.1 (q_40.2 18 (by decide)) (q_40.2 30 (by decide)) (by omega)
          refine lv_goto (tgt := 77) hx hb dX10_line_46 (by decide) ?_
          refine lv_aload_n hx hb dX10_line_77 rfl (lv_at hl 1 rfl) ?_
          refine ti_get (ci := 10) (k := 25) (N := 67) (T := TX10) C hw iw_10 rfl ob_60 (by decide) (by decide) fl_X10_208 rfl rfl dX10_line_78 ?_
          refine lv_topi (fun x_67 ex_67 => ?_)
          have u_68 : (tI M_37 60 25).toInt = x_67.toInt := by rw [ex_67]
          have ufx_67 : (tI M_37 60 25).toInt = x_67.toInt := by rw [ex_67]
          refine sb_if_eq (tgt := 85) hx hb rfl dX10_line_81 (by decide) (fun c_81_68 => by have z_70 : ff M_37 = 1 := ff_1 (ufx_67.trans c_81_68); omega) (fun c_81_68 => ?_)
          have z_70 : ff M_37 = 0 := ff_0 (fun h => c_81_68 (ufx_67.symm.trans h))
          clear c_81_68
          exact hQ _ _ _ _ _ hw (⟨(gU_e q_40.1), (qL_f (by omega)), (rQ_f hs_38 (rQ_g1 hs_38 (by omega)) (ln_k (fk_e ((lb_0 (by have e3 := (pT_pw (rQ_T hr hf)).2.2 ⟨by omega, by omega⟩; omega) (by have m7 := mh_7 hr (rQ_g0 hr hf) rfl; omega)).trans eg_46.symm) (rQ_z hs_38 (rQ_g1 hs_38 (by omega)))) (rQ_z hs_38 (rQ_g1 hs_38 (by omega))))), iM_37, (ln_l0 (l0_pr q_40 (by decide) (by decide))), (by omega), (by omega), (by omega), (by omega), (by omega), (by omega), (by omega), (by omega), (by omega), (by omega), (by omega), (um_l0 hum (l0_pr q_40 (by decide) (by decide)) (by omega))⟩) dX10_line_84
    · refine lv_aload_n hx hb dX10_line_16 rfl (lv_at hl 0 rfl) ?_
      refine lv_iconst (v := 1) hx hb dX10_line_17 (by decide) ?_
      refine ti_callVv (ci := 10) (av := [.int 1]) C hw (x_X10_wrong l D A cy hJ M hI 1 (by decide) B n rg hr) ⟨ml_X10_217, ym_X10_wrong, yv_X10_wrong, yi_X10_wrong, yc_X10_wrong⟩ yd_X10_wrong ob_60 (by decide) rfl rfl hl.1 (Nat.le_of_ble_eq_true rfl) ⟨by decide, by decide⟩ ⟨Nat.zero_le _, Nat.zero_le _⟩ dX10_line_18 (fun M_20 H locs hp_20 hw => ?_)
      rw [show (1 : Int32).toInt = 1 by decide] at hp_20
      obtain ⟨hs_21, hp_22⟩ := hp_20
      obtain ⟨iM_20, q_23, z_24, z_25, z_26, z_27, z_28⟩ := l_wr hp_22
      clear hp_22
      obtain ⟨g_29, eg_29⟩ : ∃ z : Nat → Int, z = pp_rf 1 rg := ⟨_, rfl⟩
      rw [← eg_29] at hs_21
      have tl_30 : qL td M_20 := qL_fr hql q_23.1 (q_23.2 18 (by decide)) (q_23.2 30 (by decide)) (by omega)
      exact hQ _ _ _ _ _ hw (⟨(gU_e q_23.1), (qL_f (by omega)), (rQ_f hs_21 (rQ_g1 hs_21 (by omega)) (ln_k (fk_e ((lb_x (by have e := (pT_nw (rQ_T hr hf)).2.2; omega)).trans eg_29.symm) (rQ_z hs_21 (rQ_g1 hs_21 (by omega)))) (rQ_z hs_21 (rQ_g1 hs_21 (by omega))))), iM_20, (ln_l0 (l0_pr q_23 (by decide) (by decide))), (by omega), (by omega), (by omega), (by omega), (by omega), (by omega), (by omega), (by omega), (by omega), (by omega), (by omega), (um_l0 hum (l0_pr q_23 (by decide) (by decide)) (by omega))⟩) dX10_line_21

section
variable {Tc : gC} {Tm : gM}
theorem pe_s {B : Nat → Int} {n j : Nat} {s : Nat → Int} (h : 1 ≤ j) : pp_pt B n j s = if s 0 = 30 then pp_tk B n 31 (pp_ei B n (pp_pt B n (j - 1)) (pp_av B n s)) else pp_p0 B n s := by
  cases j with
  | zero => omega
  | succ j => rfl
theorem pe_n {B : Nat → Int} {n j : Nat} {s : Nat → Int} (h : s 0 ≠ 30) : pp_pt B n j s = pp_p0 B n s := by
  cases j with
  | zero => rw [pp_pt, if_neg h]
  | succ j => rw [pp_pt, if_neg h]
theorem pt_nm0 : ∀ k : Nat, k < 25 → (19 ≤ pt_pm.getD k 0 ↔ (16 ≤ k ∧ k ≤ 21)) := by decide +kernel
section
variable {B : Nat → Int} {n : Nat} {s : Nat → Int} {x w : Int}
theorem p0_2 (T : pt_T (s 0) (s 1) x w) (h : x = 2) (hw : 9999 < w) : pp_p0 B n s = pp_rf 2 s := by
  have q := (pt_Tnm T).2.2.1 h
  unfold pp_p0
  rw [if_pos q.1, if_pos (by omega)]
theorem p0_k (T : pt_T (s 0) (s 1) x w) (h : x = 2) (hw : ¬ 9999 < w) : pp_p0 B n s = pp_kn B n s := by
  have q := (pt_Tnm T).2.2.1 h
  unfold pp_p0
  rw [if_pos q.1, if_neg (by omega)]
theorem p0_n (T : pt_T (s 0) (s 1) x w) (h : x = 0) (hw : 19 ≤ w) : pp_p0 B n s = pp_kn B n s := by
  have q := pt_Twd T h
  have r := pt_nm0 (s 0).toNat (by omega)
  unfold pp_p0
  rw [if_neg (by omega), if_pos (by omega)]
theorem p0_1 (T : pt_T (s 0) (s 1) x w) (h : x ≠ 2) (hw : x ≠ 0 ∨ w < 19) : pp_p0 B n s = pp_rf 1 s := by
  have q := (pt_Tnm T).2.2.2.1
  unfold pp_p0
  rw [if_neg (fun g => h (q g))]
  refine if_neg (fun g => ?_)
  have e := T.2.1 (by omega)
  have r := pt_nm0 (s 0).toNat (by omega)
  omega
theorem rQ_gr {F : (Nat → Int) → Nat → Int} {M : ti_M} (hF : pp_gr F) (h : rQ B n s M) (hI : mI Tm M) : F s 0 = 28 ∨ (1 ≤ F s 8 ∧ F s 8 ≤ 64) := by
  by_cases q : s 4 = 0
  · have e := (h.2.2.2 q).2.2.1.2.1
    have b := b30 hI
    rcases hF.2 s (by omega) with g | g
    · exact Or.inl g
    · exact Or.inr ⟨by omega, g.2⟩
  · exact Or.inl (hF.1 s (h.2.2.1.2 q))
theorem rQ_nc {M : ti_M} (h : rQ B n s M) (hd : ff M = 0 ∨ (tI M 60 23).toInt ≠ 3 ∨ ¬ ((tI M 60 24).toInt = 60 ∨ (tI M 60 24).toInt = 62 ∨ (tI M 60 24).toInt = 61 ∨ 256 ≤ (tI M 60 24).toInt)) : ¬ (32 ≤ s 0 ∧ s 0 ≤ 37) := by
  by_cases z : ff M = 0
  · have := rQ_28 h z; omega
  · have T := rQ_T h (by have := ff_b M; omega)
    by_cases q : (tI M 60 23).toInt = 3
    · have e := pt_Tsg T q
      exact fun g => (hd.resolve_left z).resolve_left (fun r => r q) (e.2.2.2.2.mpr g)
    · have := pt_Tso T q; omega
theorem rQ_yc {M : ti_M} (h : rQ B n s M) (z : ff M = 1) (q : (tI M 60 23).toInt = 3) (hd : (tI M 60 24).toInt = 60 ∨ (tI M 60 24).toInt = 62 ∨ (tI M 60 24).toInt = 61 ∨ 256 ≤ (tI M 60 24).toInt) : 32 ≤ s 0 ∧ s 0 ≤ 37 := (pt_Tsg (rQ_T h z) q).2.2.2.2.mp hd
theorem rQ_8 {M : ti_M} (h : rQ B n s M) (hI : mI Tm M) (z : s 4 = 0) : 0 ≤ s 8 ∧ s 8 ≤ 64 := by
  have e := (h.2.2.2 z).2.2.1.2.1
  have b := b30 hI
  omega
end
theorem pt_nm1 : ∀ k : Nat, k < 25 → (19 ≤ pt_pm.getD k 0 ↔ (16 ≤ k ∧ k ≤ 21)) ∧ (16 ≤ k → k ≤ 21 → pt_pm.getD k 0 = k + 3) := by decide +kernel
set_option maxHeartbeats 4000000 in
set_option maxRecDepth 100000 in
theorem x_X10_primary (l : Launch) (D : va_G) (A : Nat → Nat → Nat) (cy : Nat → ClassId) (hJ : ti_inj ti_LM A) (M : ti_M) (hI : mI Tm M) (j a d : Nat) (hj : j ≤ 8) (hu : us M a d) (hc : (tY M 60 3 18).toInt ≤ (tI M 60 30).toInt + 64 - 64 * ff M) (ho : (tI M 60 29).toInt + j ≤ 16 - 8 * ff M) (ho2 : 8 * ff M ≤ (tI M 60 29).toInt + j) (B : Nat → Int) (n : Nat) (rg : Nat → Int) (hr : rQ B n rg M) (lj : Nat) (hlj : lj < 3) (td : Nat → Int) (he : qE a d lj td M) (hvs : vs M) (ih : ∀ i : Nat, i < j → ∀ (l : Launch) (D : va_G) (A : Nat → Nat → Nat) (cy : Nat → ClassId) (hJ : ti_inj ti_LM A) (M : ti_M) (hI : mI Tm M) (a d : Nat) (hj : i ≤ 8) (hu : us M a d) (hc : (tY M 60 3 18).toInt ≤ (tI M 60 30).toInt + 64 - 64 * ff M) (ho : (tI M 60 29).toInt + i ≤ 16 - 8 * ff M) (ho2 : 8 * ff M ≤ (tI M 60 29).toInt + i) (B : Nat → Int) (n : Nat) (rg : Nat → Int) (hr : rQ B n rg M) (lj : Nat) (hlj : lj < 3) (td : Nat → Int) (he : qE a d lj td M) (hvs : vs M), ti_KvE l yX10_expression cX10_expression 1 (78 + 71 * i) ti_LM D A cy M [.ref (A 60 0)] (fun M2 => qE a (d + 1) lj (qq_ei B n lj (pp_pt B n i) (qq_pt B n lj i) rg td) M2 ∧ vs M2 ∧ rQ B n (pp_ei B n (pp_pt B n i) rg) M2 ∧ mI Tm M2 ∧ pe M2 M ∧ (pg M ≤ pg M2) ∧ (0 ≤ ff M2) ∧ (ff M2 ≤ ff M) ∧ ((tI M 60 30).toInt ≤ (tI M2 60 30).toInt) ∧ ((tI M2 60 30).toInt ≤ 64) ∧ ((tI M2 60 29).toInt ≤ (tI M 60 29).toInt + 8 - 8 * ff M2) ∧ ((tI M 60 29).toInt ≤ (tI M2 60 29).toInt + 8 - 8 * ff M2) ∧ ((tI M2 60 30).toInt - (tY M2 60 3 18).toInt ≤ (tI M 60 30).toInt - (tY M 60 3 18).toInt + 200 - 200 * ff M2) ∧ ((tI M 60 30).toInt - (tY M 60 3 18).toInt ≤ (tI M2 60 30).toInt - (tY M2 60 3 18).toInt + 200 - 200 * ff M2) ∧ (0 ≤ (tY M2 60 3 18).toInt) ∧ ((tY M2 60 3 18).toInt ≤ 64) ∧ (0 ≤ (tI M2 60 29).toInt) ∧ ((tI M2 60 29).toInt ≤ 8) ∧ us M2 a (d + 1))) : ti_KvE l yX10_primary cX10_primary 2 (8 + 71 * j) ti_LM D A cy M [.ref (A 60 0)] (fun M2 => qE a (d + 1) lj (qq_pt B n lj j rg td) M2 ∧ vs M2 ∧ rQ B n (pp_pt B n j rg) M2 ∧ mI Tm M2 ∧ pe M2 M ∧ (pg M ≤ pg M2) ∧ (0 ≤ ff M2) ∧ (ff M2 ≤ ff M) ∧ ((tI M 60 30).toInt ≤ (tI M2 60 30).toInt) ∧ ((tI M2 60 30).toInt ≤ 64) ∧ ((tI M2 60 29).toInt ≤ (tI M 60 29).toInt + 8 - 8 * ff M2) ∧ ((tI M 60 29).toInt ≤ (tI M2 60 29).toInt + 8 - 8 * ff M2) ∧ ((tI M2 60 30).toInt - (tY M2 60 3 18).toInt ≤ (tI M 60 30).toInt - (tY M 60 3 18).toInt + 200 - 200 * ff M2) ∧ ((tI M 60 30).toInt - (tY M 60 3 18).toInt ≤ (tI M2 60 30).toInt - (tY M2 60 3 18).toInt + 200 - 200 * ff M2) ∧ (0 ≤ (tY M2 60 3 18).toInt) ∧ ((tY M2 60 3 18).toInt ≤ 64) ∧ (0 ≤ (tI M2 60 29).toInt) ∧ ((tI M2 60 29).toInt ≤ 8) ∧ us M2 a (d + 1)) := by
  refine ti_eVE yp_X10_primary hJ ti_LM_nd (Nat.le_of_ble_eq_true rfl) ?_
  intro p e s m args below meth c Q H0 C hE hQ hw ls hl
  have hx := C.1
  have hb := C.2.1
  have hl : lv_has ls 2 [(0, .ref (A 60 0))] := hl
  have hI30 := b30 hI
  have hI29 := b29 hI
  have hI18 := b18 hI
  have hIff := ff_b M
  refine lv_aload_n hx hb dX10_primary_0 rfl (lv_at hl 0 rfl) ?_
  refine ti_get (ci := 10) (k := 25) (N := 67) (T := TX10) C hw iw_10 rfl ob_60 (by decide) (by decide) fl_X10_208 rfl rfl dX10_primary_1 ?_
  refine lv_topi (fun x_1 ex_1 => ?_)
  have u_2 : (tI M 60 25).toInt = x_1.toInt := by rw [ex_1]
  have ufx_1 : (tI M 60 25).toInt = x_1.toInt := by rw [ex_1]
  refine sb_if_eq (tgt := 8) hx hb rfl dX10_primary_4 (by decide) (fun c_4_2 => ?_) (fun c_4_2 => ?_)
  · have z_4 : ff M = 1 := ff_1 (ufx_1.trans c_4_2)
    clear c_4_2
    refine lv_aload_n hx hb dX10_primary_8 rfl (lv_at hl 0 rfl) ?_
    refine lv_bipush (v := 40) hx hb dX10_primary_9 (by decide) ?_
    refine ti_callVi (ci := 10) (av := [.int 40]) C hw (x_X10_isSign l D A cy hJ M hI 40) ⟨ml_X10_251, ym_X10_isSign, yv_X10_isSign, yi_X10_isSign, yc_X10_isSign⟩ yd_X10_isSign ob_60 (by decide) rfl rfl hl.1 (Nat.le_of_ble_eq_true rfl) ⟨by simp only [ti_rm]; omega, by simp only [ti_rm]; omega⟩ ⟨Nat.zero_le _, Nat.zero_le _⟩ dX10_primary_11 (fun r_5 M_6 H locs hp_6 hw => ?_)
    obtain ⟨hm, hz⟩ := hp_6
    have hw := hw.to hm
    rcases hz with ⟨rfl, d0_7, d1_7, d2_7⟩ | ⟨rfl, d3_7⟩
    · have dk_7 := rQ_s1 (k := 30) hr d0_7 d1_7 d2_7 (by decide)
      have z_8 : ff M = 1 := ff_1 d0_7
      have z_9 : pg M = 2 * (tI M 60 21).toInt := pg_3 (by rw [d1_7]; decide)
      clear d0_7 d1_7 d2_7
      refine sb_if_eq (tgt := 101) hx hb (by decide : (1 : Int32).toInt = 1) dX10_primary_14 (by decide) (fun h => absurd h (by decide)) (fun c_14_9 => ?_)
      refine lv_aload_n hx hb dX10_primary_17 rfl (lv_at hl 0 rfl) ?_
      refine ti_get (ci := 10) (k := 29) (N := 67) (T := TX10) C hw iw_10 rfl ob_60 (by decide) (by decide) fl_X10_297 rfl rfl dX10_primary_18 ?_
      refine lv_topi (fun x_12 ex_12 => ?_)
      have bx_12 : 0 ≤ x_12.toInt ∧ x_12.toInt ≤ 8 := mI_rd hI ex_12
      have ux_12 : (tI M 60 29).toInt = x_12.toInt := by rw [ex_12]
      refine lv_bipush (v := 8) hx hb dX10_primary_21 (by decide) ?_
      refine sb_icmp_ne (tgt := 31) hx hb rfl (by decide : (8 : Int32).toInt = 8) dX10_primary_23 (by decide) (fun c_23_12 => ?_) (fun c_23_12 => ?_)
      · refine lv_aload_n hx hb dX10_primary_31 rfl (lv_at hl 0 rfl) ?_
        refine ti_get (ci := 10) (k := 25) (N := 67) (T := TX10) C hw iw_10 rfl ob_60 (by decide) (by decide) fl_X10_208 rfl rfl dX10_primary_32 ?_
        refine ti_top (y := x_1) (ex_1.symm) ?_
        refine sb_if_eq (tgt := 39) hx hb rfl dX10_primary_35 (by decide) (fun c_35_26 => ?_) (fun c_35_26 => by have z_28 : ff M = 0 := ff_0 (fun h => c_35_26 (ufx_1.symm.trans h)); omega)
        have z_28 : ff M = 1 := ff_1 (ufx_1.trans c_35_26)
        clear c_35_26
        refine lv_aload_n hx hb dX10_primary_39 rfl (lv_at hl 0 rfl) ?_
        refine lv_dup hx hb dX10_primary_40 rfl ?_
        refine ti_get (ci := 10) (k := 29) (N := 67) (T := TX10) C hw iw_10 rfl ob_60 (by decide) (by decide) fl_X10_297 rfl rfl dX10_primary_41 ?_
        refine ti_top (y := x_12) (ex_12.symm) ?_
        have u_33 : (tI M 60 29).toInt = (x_12 : Int32).toInt := by rw [(ex_12.symm)]
        refine lv_iconst (v := 1) hx hb dX10_primary_44 (by decide) ?_
        refine lv_iadd hx hb dX10_primary_45 ?_
        refine lv_topi (fun x_34 ex_34 => ?_)
        have tx_34 : x_34.toInt = x_12.toInt + 1 := i_add ex_34 rfl (by decide : (1 : Int32).toInt = 1) (by omega) (by omega)
        refine ti_putI (ci := 10) (k := 29) (N := 67) (T := TX10) C hw iw_10 tyX10 tyX10_ok nmX10 rfl ob_60 (by decide) (by decide) fl_X10_297 rfl rfl rfl rfl (fn_10 A _) fs_10_29 dX10_primary_46 (fun H locs hw => ?_)
        obtain ⟨M_35, hM_35⟩ : ∃ z : ti_M, z = uI M 60 29 x_34 := ⟨_, rfl⟩
        have hw := hw.to hM_35.symm
        have iM_35 : mI Tm M_35 := mI_uI hI hM_35 (by decide) (by decide) (ib_mk (lo := 0) (hi := 8) (by omega) (by omega))
        have vM_35 : (tI M_35 60 29).toInt = (x_34 : Int32).toInt := by rw [tI_uE hM_35]
        have z_36 : ff M_35 = ff M := ff_I hM_35 (by decide)
        have z_37 : pg M_35 = pg M := pg_I hM_35 (by decide)
        have z_38 : (tI M_35 60 30).toInt = (tI M 60 30).toInt := by rw [tI_nE hM_35 (nk (by decide))]
        have z_39 : (tY M_35 60 3 18).toInt = (tY M 60 3 18).toInt := by rw [tY_uIE hM_35]
        have hs_40 := rQ_29 hr hM_35
        have te_41 : qE a (d) lj td M_35 := qE_fr he (ry_I hM_35) (by omega)
        have vs_42 : vs M_35 := vs_fr hvs (by omega) (tI_nE hM_35 (nk (by decide))) (tI_nE hM_35 (nk (by decide)))
        refine lv_aload_n hx hb dX10_primary_49 rfl (lv_at hl 0 rfl) ?_
        refine ti_callVvE (ci := 10) (av := []) C hE hw (x_X10_token l D A cy hJ M_35 iM_35 ) ⟨ml_X10_214, ym_X10_token, yv_X10_token, yi_X10_token, yc_X10_token⟩ yd_X10_token ob_60 (by decide) rfl rfl hl.1 (Nat.le_of_ble_eq_true rfl) ⟨by simp only [ti_rm]; omega, by simp only [ti_rm]; omega⟩ ⟨Nat.zero_le _, Nat.zero_le _⟩ dX10_primary_50 (fun M_44 H locs hp_44 hw => ?_)
        obtain ⟨iM_44, q_47, z_45, z_46, k2M_44, k3M_44, k4M_44⟩ := hp_44
        have hs_48 := rQ_av hs_40 (rQ_g0 hs_40 (by omega)) (iM_35.1 21).1 q_47 k2M_44 k3M_44 k4M_44
        obtain ⟨-, -, z_49, z_50, z_51, z_52, z_53, z_54⟩ := l_tk ⟨iM_44, q_47, z_45, z_46⟩
        clear z_45 z_46 k2M_44 k3M_44 k4M_44
        obtain ⟨g_55, eg_55⟩ : ∃ z : Nat → Int, z = pp_av B n rg := ⟨_, rfl⟩
        rw [← eg_55] at hs_48
        have te_56 : qE a (d) lj td M_44 := qE_fr te_41 q_47.1 (by omega)
        have vs_57 : vs M_44 := vs_av hs_48 (by rw [eg_55]; exact av_v)
        refine lv_aload_n hx hb dX10_primary_53 rfl (lv_at hl 0 rfl) ?_
        refine ti_callVvE (ci := 10) (av := []) C hE hw (ih (j - 1) (by omega) l D A cy hJ M_44 iM_44 a (d) (by omega) (us_q (x := 21) (y := 30) hu (pr.trans (pr_w q_47 (by decide) (by decide)) (pr_I hM_35 (by decide))) (by omega)) (by omega) (by omega) (by omega) B n g_55 hs_48 lj hlj td te_56 vs_57) ⟨ml_X10_270, ym_X10_expression, yv_X10_expression, yi_X10_expression, yc_X10_expression⟩ yd_X10_expression ob_60 (by decide) rfl rfl hl.1 (Nat.le_of_ble_eq_true rfl) ⟨by simp only [ti_rm]; omega, by simp only [ti_rm]; omega⟩ ⟨Nat.zero_le _, Nat.zero_le _⟩ dX10_primary_54 (fun M_59 H locs hp_59 hw => ?_)
        obtain ⟨te_62, vs_63, hs_60, hp_61⟩ := hp_59
        obtain ⟨iM_59, q_64, p_65, p_66, p_67, p_68, p_69, p_70, p_71, p_72, p_73, p_74, p_75, p_76, p_77, u_78⟩ := hp_61
        obtain ⟨g_79, eg_79⟩ : ∃ z : Nat → Int, z = pp_ei B n (pp_pt B n (j - 1)) g_55 := ⟨_, rfl⟩
        rw [← eg_79] at hs_60
        obtain ⟨d_80, ed_80⟩ : ∃ z : Nat → Int, z = qq_ei B n lj (pp_pt B n (j - 1)) (qq_pt B n lj (j - 1)) g_55 td := ⟨_, rfl⟩
        rw [← ed_80] at te_62
        refine lv_aload_n hx hb dX10_primary_57 rfl (lv_at hl 0 rfl) ?_
        refine ti_get (ci := 10) (k := 25) (N := 67) (T := TX10) C hw iw_10 rfl ob_60 (by decide) (by decide) fl_X10_208 rfl rfl dX10_primary_58 ?_
        refine lv_topi (fun x_81 ex_81 => ?_)
        have u_82 : (tI M_59 60 25).toInt = x_81.toInt := by rw [ex_81]
        have ufx_81 : (tI M_59 60 25).toInt = x_81.toInt := by rw [ex_81]
        refine sb_if_ne (tgt := 78) hx hb rfl dX10_primary_61 (by decide) (fun c_61_82 => ?_) (fun c_61_82 => ?_)
        · have z_84 : ff M_59 = 0 := ff_0 (fun h => c_61_82 (ufx_81.symm.trans h))
          clear c_61_82
          refine lv_aload_n hx hb dX10_primary_78 rfl (lv_at hl 0 rfl) ?_
          refine ti_get (ci := 10) (k := 25) (N := 67) (T := TX10) C hw iw_10 rfl ob_60 (by decide) (by decide) fl_X10_208 rfl rfl dX10_primary_79 ?_
          refine ti_top (y := x_81) (ex_81.symm) ?_
          refine sb_if_eq (tgt := 86) hx hb rfl dX10_primary_82 (by decide) (fun c_82_104 => by have z_106 : ff M_59 = 1 := ff_1 (ufx_81.trans c_82_104); omega) (fun c_82_104 => ?_)
          have z_106 : ff M_59 = 0 := ff_0 (fun h => c_82_104 (ufx_81.symm.trans h))
          clear c_82_104
          exact hQ _ _ _ _ _ hw (⟨(qE_f (by omega)), vs_63, (by rw [pe_s (by omega), if_pos dk_7.1, ← eg_55, ← eg_79]; exact rQ_f hs_60 (rQ_g1 hs_60 (by omega)) (tk_f (rQ_z hs_60 (rQ_g1 hs_60 (by omega))) (by decide))), iM_59, (pe.trans q_64 (pe.trans (pe_pr q_47 (by decide) (by decide)) (pe_I hM_35 (by decide)))), (by omega), (by omega), (by omega), (by omega), (by omega), (by omega), (by omega), (by omega), (by omega), (by omega), (by omega), (by omega), (by omega), u_78⟩) dX10_primary_85
        · have z_84 : ff M_59 = 1 := ff_1 (ufx_81.trans c_61_82)
          clear c_61_82
          refine lv_aload_n hx hb dX10_primary_64 rfl (lv_at hl 0 rfl) ?_
          refine lv_bipush (v := 41) hx hb dX10_primary_65 (by decide) ?_
          refine ti_callVi (ci := 10) (av := [.int 41]) C hw (x_X10_isSign l D A cy hJ M_59 iM_59 41) ⟨ml_X10_251, ym_X10_isSign, yv_X10_isSign, yi_X10_isSign, yc_X10_isSign⟩ yd_X10_isSign ob_60 (by decide) rfl rfl hl.1 (Nat.le_of_ble_eq_true rfl) ⟨by simp only [ti_rm]; omega, by simp only [ti_rm]; omega⟩ ⟨Nat.zero_le _, Nat.zero_le _⟩ dX10_primary_67 (fun r_85 M_86 H locs hp_86 hw => ?_)
          obtain ⟨hm, hz⟩ := hp_86
          have hw := hw.to hm
          rcases hz with ⟨rfl, d0_87, d1_87, d2_87⟩ | ⟨rfl, d3_87⟩
          · have dk_87 := rQ_s1 (k := 31) hs_60 d0_87 d1_87 d2_87 (by decide)
            have z_88 : ff M_59 = 1 := ff_1 d0_87
            have z_89 : pg M_59 = 2 * (tI M_59 60 21).toInt := pg_3 (by rw [d1_87]; decide)
            clear d0_87 d1_87 d2_87
            refine sb_if_ne (tgt := 78) hx hb (by decide : (1 : Int32).toInt = 1) dX10_primary_70 (by decide) (fun c_70_89 => ?_) (fun h => absurd h (by decide))
            refine lv_aload_n hx hb dX10_primary_78 rfl (lv_at hl 0 rfl) ?_
            refine ti_get (ci := 10) (k := 25) (N := 67) (T := TX10) C hw iw_10 rfl ob_60 (by decide) (by decide) fl_X10_208 rfl rfl dX10_primary_79 ?_
            refine ti_top (y := x_81) (ex_81.symm) ?_
            refine sb_if_eq (tgt := 86) hx hb rfl dX10_primary_82 (by decide) (fun c_82_106 => ?_) (fun c_82_106 => by have z_108 : ff M_59 = 0 := ff_0 (fun h => c_82_106 (ufx_81.symm.trans h)); omega)
            have z_108 : ff M_59 = 1 := ff_1 (ufx_81.trans c_82_106)
            clear c_82_106
            refine lv_aload_n hx hb dX10_primary_86 rfl (lv_at hl 0 rfl) ?_
            refine lv_dup hx hb dX10_primary_87 rfl ?_
            refine ti_get (ci := 10) (k := 29) (N := 67) (T := TX10) C hw iw_10 rfl ob_60 (by decide) (by decide) fl_X10_297 rfl rfl dX10_primary_88 ?_
            refine lv_topi (fun x_113 ex_113 => ?_)
            have bx_113 : 0 ≤ x_113.toInt ∧ x_113.toInt ≤ 8 := mI_rd iM_59 ex_113
            have ux_113 : (tI M_59 60 29).toInt = x_113.toInt := by rw [ex_113]
            refine lv_iconst (v := 1) hx hb dX10_primary_91 (by decide) ?_
            refine lv_isub hx hb dX10_primary_92 ?_
            refine lv_topi (fun x_114 ex_114 => ?_)
            have tx_114 : x_114.toInt = x_113.toInt - 1 := i_sub ex_114 rfl (by decide : (1 : Int32).toInt = 1) (by omega) (by omega)
            refine ti_putI (ci := 10) (k := 29) (N := 67) (T := TX10) C hw iw_10 tyX10 tyX10_ok nmX10 rfl ob_60 (by decide) (by decide) fl_X10_297 rfl rfl rfl rfl (fn_10 A _) fs_10_29 dX10_primary_93 (fun H locs hw => ?_)
            obtain ⟨M_115, hM_115⟩ : ∃ z : ti_M, z = uI M_59 60 29 x_114 := ⟨_, rfl⟩
            have hw := hw.to hM_115.symm
            have iM_115 : mI Tm M_115 := mI_uI iM_59 hM_115 (by decide) (by decide) (ib_mk (lo := 0) (hi := 8) (by omega) (by omega))
            have vM_115 : (tI M_115 60 29).toInt = (x_114 : Int32).toInt := by rw [tI_uE hM_115]
            have z_116 : ff M_115 = ff M_59 := ff_I hM_115 (by decide)
            have z_117 : pg M_115 = pg M_59 := pg_I hM_115 (by decide)
            have z_118 : (tI M_115 60 30).toInt = (tI M_59 60 30).toInt := by rw [tI_nE hM_115 (nk (by decide))]
            have z_119 : (tY M_115 60 3 18).toInt = (tY M_59 60 3 18).toInt := by rw [tY_uIE hM_115]
            have hs_120 := rQ_29 hs_60 hM_115
            have te_121 : qE a (d + 1) lj d_80 M_115 := qE_fr te_62 (ry_I hM_115) (by omega)
            have vs_122 : vs M_115 := vs_fr vs_63 (by omega) (tI_nE hM_115 (nk (by decide))) (tI_nE hM_115 (nk (by decide)))
            refine lv_aload_n hx hb dX10_primary_96 rfl (lv_at hl 0 rfl) ?_
            refine ti_callVvE (ci := 10) (av := []) C hE hw (x_X10_token l D A cy hJ M_115 iM_115 ) ⟨ml_X10_214, ym_X10_token, yv_X10_token, yi_X10_token, yc_X10_token⟩ yd_X10_token ob_60 (by decide) rfl rfl hl.1 (Nat.le_of_ble_eq_true rfl) ⟨by simp only [ti_rm]; omega, by simp only [ti_rm]; omega⟩ ⟨Nat.zero_le _, Nat.zero_le _⟩ dX10_primary_97 (fun M_124 H locs hp_124 hw => ?_)
            obtain ⟨iM_124, q_127, z_125, z_126, k2M_124, k3M_124, k4M_124⟩ := hp_124
            have hs_128 := rQ_av hs_120 (rQ_g0 hs_120 (by omega)) (iM_115.1 21).1 q_127 k2M_124 k3M_124 k4M_124
            obtain ⟨-, -, z_129, z_130, z_131, z_132, z_133, z_134⟩ := l_tk ⟨iM_124, q_127, z_125, z_126⟩
            clear z_125 z_126 k2M_124 k3M_124 k4M_124
            obtain ⟨g_135, eg_135⟩ : ∃ z : Nat → Int, z = pp_av B n g_79 := ⟨_, rfl⟩
            rw [← eg_135] at hs_128
            have te_136 : qE a (d + 1) lj d_80 M_124 := qE_fr te_121 q_127.1 (by omega)
            have vs_137 : vs M_124 := vs_av hs_128 (by rw [eg_135]; exact av_v)
            exact hQ _ _ _ _ _ hw (⟨(by rw [qe_s (by omega), if_pos dk_7.1, ← eg_55, ← ed_80]; exact te_136), vs_137, (by rw [pe_s (by omega), if_pos dk_7.1, ← eg_55, ← eg_79]; unfold pp_tk; rw [if_pos dk_87.1, ← eg_135]; exact hs_128), iM_124, (pe.trans (pe_pr q_127 (by decide) (by decide)) (pe.trans (pe_I hM_115 (by decide)) (pe.trans q_64 (pe.trans (pe_pr q_47 (by decide) (by decide)) (pe_I hM_35 (by decide)))))), (by omega), (by omega), (by omega), (by omega), (by omega), (by omega), (by omega), (by omega), (by omega), (by omega), (by omega), (by omega), (by omega), (us_q (x := 21) (y := 30) u_78 (pr.trans (pr_w q_127 (by decide) (by decide)) (pr_I hM_115 (by decide))) (by omega))⟩) dX10_primary_100
          · have dk_87 := rQ_s0 (k := 31) hs_60 d3_87 (by decide) (by decide)
            clear d3_87
            refine sb_if_ne (tgt := 78) hx hb (by decide : (0 : Int32).toInt = 0) dX10_primary_70 (by decide) (fun h => absurd h (by decide)) (fun c_70_90 => ?_)
            refine lv_aload_n hx hb dX10_primary_73 rfl (lv_at hl 0 rfl) ?_
            refine lv_iconst (v := 1) hx hb dX10_primary_74 (by decide) ?_
            refine ti_callVv (ci := 10) (av := [.int 1]) C hw (x_X10_wrong l D A cy hJ M_59 iM_59 1 (by decide) B n g_79 hs_60) ⟨ml_X10_217, ym_X10_wrong, yv_X10_wrong, yi_X10_wrong, yc_X10_wrong⟩ yd_X10_wrong ob_60 (by decide) rfl rfl hl.1 (Nat.le_of_ble_eq_true rfl) ⟨by simp only [ti_rm]; omega, by simp only [ti_rm]; omega⟩ ⟨Nat.zero_le _, Nat.zero_le _⟩ dX10_primary_75 (fun M_93 H locs hp_93 hw => ?_)
            rw [show (1 : Int32).toInt = 1 by decide] at hp_93
            obtain ⟨hs_94, hp_95⟩ := hp_93
            obtain ⟨iM_93, q_96, z_97, z_98, z_99, z_100, z_101⟩ := l_wr hp_95
            clear hp_95
            obtain ⟨g_102, eg_102⟩ : ∃ z : Nat → Int, z = pp_rf 1 g_79 := ⟨_, rfl⟩
            rw [← eg_102] at hs_94
            have te_103 : qE a (d + 1) lj d_80 M_93 := qE_fr te_62 q_96.1 (by omega)
            have vs_104 : vs M_93 := vs_fr vs_63 (by omega) (q_96.2 23 (by decide)) (q_96.2 24 (by decide))
            refine lv_aload_n hx hb dX10_primary_78 rfl (lv_at hl 0 rfl) ?_
            refine ti_get (ci := 10) (k := 25) (N := 67) (T := TX10) C hw iw_10 rfl ob_60 (by decide) (by decide) fl_X10_208 rfl rfl dX10_primary_79 ?_
            refine lv_topi (fun x_109 ex_109 => ?_)
            have u_110 : (tI M_93 60 25).toInt = x_109.toInt := by rw [ex_109]
            have ufx_109 : (tI M_93 60 25).toInt = x_109.toInt := by rw [ex_109]
            refine sb_if_eq (tgt := 86) hx hb rfl dX10_primary_82 (by decide) (fun c_82_110 => by have z_112 : ff M_93 = 1 := ff_1 (ufx_109.trans c_82_110); omega) (fun c_82_110 => ?_)
            have z_112 : ff M_93 = 0 := ff_0 (fun h => c_82_110 (ufx_109.symm.trans h))
            clear c_82_110
            exact hQ _ _ _ _ _ hw (⟨(qE_f (by omega)), vs_104, (by rw [pe_s (by omega), if_pos dk_7.1, ← eg_55, ← eg_79]; unfold pp_tk; rw [if_neg dk_87, ← eg_102]; exact hs_94), iM_93, (pe.trans (pe_pr q_96 (by decide) (by decide)) (pe.trans q_64 (pe.trans (pe_pr q_47 (by decide) (by decide)) (pe_I hM_35 (by decide))))), (by omega), (by omega), (by omega), (by omega), (by omega), (by omega), (by omega), (by omega), (by omega), (by omega), (by omega), (by omega), (by omega), (us_q (x := 21) (y := 30) u_78 (pr_w q_96 (by decide) (by decide)) (by omega))⟩) dX10_primary_85
      · refine lv_aload_n hx hb dX10_primary_26 rfl (lv_at hl 0 rfl) ?_
        refine lv_iconst (v := 2) hx hb dX10_primary_27 (by decide) ?_
        refine ti_callVv (ci := 10) (av := [.int 2]) C hw (x_X10_wrong l D A cy hJ M hI 2 (by decide) B n rg hr) ⟨ml_X10_217, ym_X10_wrong, yv_X10_wrong, yi_X10_wrong, yc_X10_wrong⟩ yd_X10_wrong ob_60 (by decide) rfl rfl hl.1 (Nat.le_of_ble_eq_true rfl) ⟨by simp only [ti_rm]; omega, by simp only [ti_rm]; omega⟩ ⟨Nat.zero_le _, Nat.zero_le _⟩ dX10_primary_28 (fun M_15 H locs hp_15 hw => ?_)
        rw [show (2 : Int32).toInt = 2 by decide] at hp_15
        obtain ⟨hs_16, hp_17⟩ := hp_15
        obtain ⟨iM_15, q_18, z_19, z_20, z_21, z_22, z_23⟩ := l_wr hp_17
        clear hp_17
        obtain ⟨g_24, eg_24⟩ : ∃ z : Nat → Int, z = pp_rf 2 rg := ⟨_, rfl⟩
        rw [← eg_24] at hs_16
        have te_25 : qE a (d) lj td M_15 := qE_fr he q_18.1 (by omega)
        have vs_26 : vs M_15 := vs_fr hvs (by omega) (q_18.2 23 (by decide)) (q_18.2 24 (by decide))
        refine lv_aload_n hx hb dX10_primary_31 rfl (lv_at hl 0 rfl) ?_
        refine ti_get (ci := 10) (k := 25) (N := 67) (T := TX10) C hw iw_10 rfl ob_60 (by decide) (by decide) fl_X10_208 rfl rfl dX10_primary_32 ?_
        refine lv_topi (fun x_29 ex_29 => ?_)
        have u_30 : (tI M_15 60 25).toInt = x_29.toInt := by rw [ex_29]
        have ufx_29 : (tI M_15 60 25).toInt = x_29.toInt := by rw [ex_29]
        refine sb_if_eq (tgt := 39) hx hb rfl dX10_primary_35 (by decide) (fun c_35_30 => by have z_32 : ff M_15 = 1 := ff_1 (ufx_29.trans c_35_30); omega) (fun c_35_30 => ?_)
        have z_32 : ff M_15 = 0 := ff_0 (fun h => c_35_30 (ufx_29.symm.trans h))
        clear c_35_30
        exact hQ _ _ _ _ _ hw (⟨(qE_f (by omega)), vs_26, (by rw [show j = 0 by omega, pe_0, if_pos dk_7.1, ← eg_24]; exact hs_16), iM_15, (pe_pr q_18 (by decide) (by decide)), (by omega), (by omega), (by omega), (by omega), (by omega), (by omega), (by omega), (by omega), (by omega), (by omega), (by omega), (by omega), (by omega), us_f (by omega)⟩) dX10_primary_38
    · have dk_7 := rQ_s0 (k := 30) hr d3_7 (by decide) (by decide)
      clear d3_7
      refine sb_if_eq (tgt := 101) hx hb (by decide : (0 : Int32).toInt = 0) dX10_primary_14 (by decide) (fun c_14_10 => ?_) (fun h => absurd h (by decide))
      refine lv_aload_n hx hb dX10_primary_101 rfl (lv_at hl 0 rfl) ?_
      refine ti_get (ci := 10) (k := 23) (N := 67) (T := TX10) C hw iw_10 rfl ob_60 (by decide) (by decide) fl_X10_173 rfl rfl dX10_primary_102 ?_
      refine lv_topi (fun x_138 ex_138 => ?_)
      have uqu_139 : (tI M 60 23).toInt = x_138.toInt := by rw [(ex_138.symm)]
      refine lv_iconst (v := 2) hx hb dX10_primary_105 (by decide) ?_
      refine sb_icmp_ne (tgt := 113) hx hb rfl (by decide : (2 : Int32).toInt = 2) dX10_primary_106 (by decide) (fun c_106_139 => ?_) (fun c_106_139 => ?_)
      · refine lv_iconst (v := 0) hx hb dX10_primary_113 (by decide) ?_
        refine lv_istore_n (lv' := [(1, .int 0), (0, .ref (A 60 0))]) hx hb dX10_primary_114 rfl hl (by decide) rfl (fun ls hl => ?_)
        refine lv_iload_n hx hb dX10_primary_115 rfl (lv_at hl 0 rfl) ?_
        refine sb_if_eq (tgt := 137) hx hb (by decide : (0 : Int32).toInt = 0) dX10_primary_116 (by decide) (fun c_116_141 => ?_) (fun h => absurd h (by decide))
        refine lv_iload_n hx hb dX10_primary_137 rfl (lv_at hl 0 rfl) ?_
        refine sb_if_ne (tgt := 162) hx hb (by decide : (0 : Int32).toInt = 0) dX10_primary_138 (by decide) (fun h => absurd h (by decide)) (fun c_138_158 => ?_)
        refine lv_aload_n hx hb dX10_primary_141 rfl (lv_at hl 1 rfl) ?_
        refine ti_get (ci := 10) (k := 23) (N := 67) (T := TX10) C hw iw_10 rfl ob_60 (by decide) (by decide) fl_X10_173 rfl rfl dX10_primary_142 ?_
        refine ti_top (y := x_138) (ex_138.symm) ?_
        have uqu_161 : (tI M 60 23).toInt = x_138.toInt := by rw [(ex_138.symm)]
        refine sb_if_ne (tgt := 157) hx hb rfl dX10_primary_145 (by decide) (fun c_145_161 => ?_) (fun c_145_161 => ?_)
        · refine lv_aload_n hx hb dX10_primary_157 rfl (lv_at hl 1 rfl) ?_
          refine lv_iconst (v := 1) hx hb dX10_primary_158 (by decide) ?_
          refine ti_callVv (ci := 10) (av := [.int 1]) C hw (x_X10_wrong l D A cy hJ M hI 1 (by decide) B n rg hr) ⟨ml_X10_217, ym_X10_wrong, yv_X10_wrong, yi_X10_wrong, yc_X10_wrong⟩ yd_X10_wrong ob_60 (by decide) rfl rfl hl.1 (Nat.le_of_ble_eq_true rfl) ⟨by simp only [ti_rm]; omega, by simp only [ti_rm]; omega⟩ ⟨Nat.zero_le _, Nat.zero_le _⟩ dX10_primary_159 (fun M_167 H locs hp_167 hw => ?_)
          rw [show (1 : Int32).toInt = 1 by decide] at hp_167
          obtain ⟨hs_168, hp_169⟩ := hp_167
          obtain ⟨iM_167, q_170, z_171, z_172, z_173, z_174, z_175⟩ := l_wr hp_169
          clear hp_169
          obtain ⟨g_176, eg_176⟩ : ∃ z : Nat → Int, z = pp_rf 1 rg := ⟨_, rfl⟩
          rw [← eg_176] at hs_168
          have te_177 : qE a (d) lj td M_167 := qE_fr he q_170.1 (by omega)
          have vs_178 : vs M_167 := vs_fr hvs (by omega) (q_170.2 23 (by decide)) (q_170.2 24 (by decide))
          refine lv_aload_n hx hb dX10_primary_162 rfl (lv_at hl 1 rfl) ?_
          refine ti_callVv (ci := 10) (av := []) C hw (x_X10_knot l D A cy hJ M_167 iM_167  B n g_176 hs_168) ⟨ml_X10_279, ym_X10_knot, yv_X10_knot, yi_X10_knot, yc_X10_knot⟩ yd_X10_knot ob_60 (by decide) rfl rfl hl.1 (Nat.le_of_ble_eq_true rfl) ⟨by simp only [ti_rm]; omega, by simp only [ti_rm]; omega⟩ ⟨Nat.zero_le _, Nat.zero_le _⟩ dX10_primary_163 (fun M_238 H locs hp_238 hw => ?_)
          obtain ⟨hs_239, hp_240⟩ := hp_238
          obtain ⟨iM_238, q_241, z_242, z_243, z_244, z_245, z_246, z_247⟩ := l_kn hp_240
          clear hp_240
          obtain ⟨g_248, eg_248⟩ : ∃ z : Nat → Int, z = pp_k1 g_176 := ⟨_, rfl⟩
          rw [← eg_248] at hs_239
          have te_249 : qE a (d) lj td M_238 := qE_fr te_177 q_241.1 (by omega)
          have vs_250 : vs M_238 := vs_fr vs_178 (by omega) (q_241.2 23 (by decide)) (q_241.2 24 (by decide))
          refine lv_aload_n hx hb dX10_primary_166 rfl (lv_at hl 1 rfl) ?_
          refine lv_iload_n hx hb dX10_primary_167 rfl (lv_at hl 0 rfl) ?_
          refine sb_if_eq (tgt := 175) hx hb (by decide : (0 : Int32).toInt = 0) dX10_primary_168 (by decide) (fun c_168_250 => ?_) (fun h => absurd h (by decide))
          refine lv_iconst (v := 1) hx hb dX10_primary_175 (by decide) ?_
          refine lv_iload_n hx hb dX10_primary_176 rfl (lv_at hl 0 rfl) ?_
          refine sb_if_eq (tgt := 187) hx hb (by decide : (0 : Int32).toInt = 0) dX10_primary_177 (by decide) (fun c_177_269 => ?_) (fun h => absurd h (by decide))
          refine lv_aload_n hx hb dX10_primary_187 rfl (lv_at hl 1 rfl) ?_
          refine ti_get (ci := 10) (k := 24) (N := 67) (T := TX10) C hw iw_10 rfl ob_60 (by decide) (by decide) fl_X10_183 rfl rfl dX10_primary_188 ?_
          refine lv_topi (fun x_276 ex_276 => ?_)
          have uqu_277 : (tI M_238 60 24).toInt = x_276.toInt := by rw [(ex_276.symm)]
          refine lv_bipush (v := 19) hx hb dX10_primary_191 (by decide) ?_
          refine lv_isub hx hb dX10_primary_193 ?_
          refine lv_topi (fun x_278 ex_278 => ?_)
          refine ti_callVv (ci := 10) (av := [.int 1, .int x_278]) C hw (x_X10_puts l D A cy hJ M_238 iM_238 a (d) (d + 1) 1 x_278 (us_q (x := 21) (y := 30) hu (pr.trans (pr_w q_241 (by decide) (by decide)) (pr_w q_170 (by decide) (by decide))) (by omega)) (nL (by omega)) (by first | exact Or.inr (Or.inr (Or.inr ⟨by decide, Or.inr ⟨by omega, by omega⟩, rfl⟩)) | exact nF (by omega))) ⟨ml_X10_282, ym_X10_puts, yv_X10_puts, yi_X10_puts, yc_X10_puts⟩ yd_X10_puts ob_60 (by decide) rfl rfl hl.1 (Nat.le_of_ble_eq_true rfl) ⟨by simp only [ti_rm]; omega, by simp only [ti_rm]; omega⟩ ⟨Nat.zero_le _, Nat.zero_le _⟩ dX10_primary_194 (fun M_363 H locs hp_363 hw => ?_)
          have piM_363 := (hp_363).2.2.2.2.1
          obtain ⟨puM_363, hqM_363⟩ := hp_363
          have hs_364 := rQ_pe hs_239 hqM_363.2.1 hqM_363.2.2.2.1
          obtain ⟨iM_363, q_365, u_366, z_367, z_368, z_369, z_370, z_371, z_372⟩ := l_pu iM_238 hqM_363
          clear hqM_363
          have te_374 : qE a (d + 1) lj (qa lj (-(16 + x_278.toInt)) td) M_363 := qE_pu hlj te_249 puM_363 (fun q9 => by have q8 := ff_1 q9; exact ⟨by unfold bq_kc; rw [if_neg (by decide), if_neg (by decide)], fun q => absurd q (by decide)⟩) (fun q9 => by have q8 := ff_1 q9; exact Or.inr (Or.inr ⟨by decide, Or.inr ⟨by omega, by omega⟩, rfl⟩))
          obtain ⟨d_373, ed_373⟩ : ∃ z : Nat → Int, z = qa lj (-(16 + x_278.toInt)) td := ⟨_, rfl⟩
          rw [← ed_373] at te_374
          have vs_375 : vs M_363 := fun q9 q8 => by rw [piM_363 23 (by decide)] at q8; rw [piM_363 24 (by decide)]; exact vs_250 (by rw [← puM_363.1]; exact q9) q8
          refine lv_aload_n hx hb dX10_primary_197 rfl (lv_at hl 1 rfl) ?_
          refine ti_callVvE (ci := 10) (av := []) C hE hw (x_X10_goOn l D A cy hJ M_363 iM_363  B n g_248 hs_364) ⟨ml_X10_267, ym_X10_goOn, yv_X10_goOn, yi_X10_goOn, yc_X10_goOn⟩ yd_X10_goOn ob_60 (by decide) rfl rfl hl.1 (Nat.le_of_ble_eq_true rfl) ⟨by simp only [ti_rm]; omega, by simp only [ti_rm]; omega⟩ ⟨Nat.zero_le _, Nat.zero_le _⟩ dX10_primary_198 (fun M_377 H locs hp_377 hw => ?_)
          obtain ⟨hs_378, hp_379⟩ := hp_377
          obtain ⟨iM_377, q_380, z_381, z_382, z_383, z_384, z_385⟩ := l_go hp_379
          clear hp_379
          obtain ⟨g_386, eg_386⟩ : ∃ z : Nat → Int, z = pp_go B n g_248 := ⟨_, rfl⟩
          rw [← eg_386] at hs_378
          have te_387 : qE a (d + 1) lj d_373 M_377 := qE_fr te_374 q_380.1 (by omega)
          have vs_388 : vs M_377 := (fun q9 => vs_av hs_378 (by rw [eg_386]; unfold pp_go; rw [if_pos (rQ_g0 hs_364 (ff_1 (ff_q (by omega) q9)))]; exact av_v) q9)
          exact hQ _ _ _ _ _ hw (⟨(qE_f (by omega)), vs_388, (by have z := rQ_g1 hs_168 (by omega); have q : g_386 = g_176 := (by rw [eg_386, eg_248, k1_f z, go_f z]); rw [pe_n dk_7, show pp_p0 B n rg = g_176 from Eq.trans (by first | exact p0_2 (rQ_T hr (by omega)) (by omega) (by omega) | exact p0_1 (rQ_T hr (by omega)) (by omega) (by omega)) eg_176.symm, ← q]; exact hs_378), iM_377, (pe.trans (pe_pr q_380 (by decide) (by decide)) (pe.trans q_365 (pe.trans (pe_pr q_241 (by decide) (by decide)) (pe_pr q_170 (by decide) (by decide))))), (by omega), (by omega), (by omega), (by omega), (by omega), (by omega), (by omega), (by omega), (by omega), (by omega), (by omega), (by omega), (by omega), (us_q (x := 21) (y := 30) u_366 (pr_w q_380 (by decide) (by decide)) (by omega))⟩) dX10_primary_201
        · have v24 : (tI M 60 24).toInt ≤ 24 := hI.2.2.1 (by rw [(ex_138.symm)]; exact z0 (by omega))
          refine lv_aload_n hx hb dX10_primary_148 rfl (lv_at hl 1 rfl) ?_
          refine ti_get (ci := 10) (k := 24) (N := 67) (T := TX10) C hw iw_10 rfl ob_60 (by decide) (by decide) fl_X10_183 rfl rfl dX10_primary_149 ?_
          refine lv_topi (fun x_163 ex_163 => ?_)
          have uqu_164 : (tI M 60 24).toInt = x_163.toInt := by rw [(ex_163.symm)]
          have u24 : (tI M 60 24).toInt = (x_163 : Int32).toInt := by rw [(ex_163.symm)]
          refine lv_bipush (v := 19) hx hb dX10_primary_152 (by decide) ?_
          refine sb_icmp_ge (tgt := 162) hx hb rfl (by decide : (19 : Int32).toInt = 19) dX10_primary_154 (by decide) (fun c_154_164 => ?_) (fun c_154_164 => ?_)
          · refine lv_aload_n hx hb dX10_primary_162 rfl (lv_at hl 1 rfl) ?_
            refine ti_callVv (ci := 10) (av := []) C hw (x_X10_knot l D A cy hJ M hI  B n rg hr) ⟨ml_X10_279, ym_X10_knot, yv_X10_knot, yi_X10_knot, yc_X10_knot⟩ yd_X10_knot ob_60 (by decide) rfl rfl hl.1 (Nat.le_of_ble_eq_true rfl) ⟨by simp only [ti_rm]; omega, by simp only [ti_rm]; omega⟩ ⟨Nat.zero_le _, Nat.zero_le _⟩ dX10_primary_163 (fun M_223 H locs hp_223 hw => ?_)
            obtain ⟨hs_224, hp_225⟩ := hp_223
            obtain ⟨iM_223, q_226, z_227, z_228, z_229, z_230, z_231, z_232⟩ := l_kn hp_225
            clear hp_225
            obtain ⟨g_233, eg_233⟩ : ∃ z : Nat → Int, z = pp_k1 rg := ⟨_, rfl⟩
            rw [← eg_233] at hs_224
            have te_234 : qE a (d) lj td M_223 := qE_fr he q_226.1 (by omega)
            have vs_235 : vs M_223 := vs_fr hvs (by omega) (q_226.2 23 (by decide)) (q_226.2 24 (by decide))
            refine lv_aload_n hx hb dX10_primary_166 rfl (lv_at hl 1 rfl) ?_
            refine lv_iload_n hx hb dX10_primary_167 rfl (lv_at hl 0 rfl) ?_
            refine sb_if_eq (tgt := 175) hx hb (by decide : (0 : Int32).toInt = 0) dX10_primary_168 (by decide) (fun c_168_235 => ?_) (fun h => absurd h (by decide))
            refine lv_iconst (v := 1) hx hb dX10_primary_175 (by decide) ?_
            refine lv_iload_n hx hb dX10_primary_176 rfl (lv_at hl 0 rfl) ?_
            refine sb_if_eq (tgt := 187) hx hb (by decide : (0 : Int32).toInt = 0) dX10_primary_177 (by decide) (fun c_177_268 => ?_) (fun h => absurd h (by decide))
            refine lv_aload_n hx hb dX10_primary_187 rfl (lv_at hl 1 rfl) ?_
            refine ti_get (ci := 10) (k := 24) (N := 67) (T := TX10) C hw iw_10 rfl ob_60 (by decide) (by decide) fl_X10_183 rfl rfl dX10_primary_188 ?_
            refine ti_top (y := x_163) ((q_226.2 24 (by decide)).trans ex_163.symm) ?_
            have uqu_274 : (tI M_223 60 24).toInt = x_163.toInt := by rw [((q_226.2 24 (by decide)).trans ex_163.symm)]
            refine lv_bipush (v := 19) hx hb dX10_primary_191 (by decide) ?_
            refine lv_isub hx hb dX10_primary_193 ?_
            refine lv_topi (fun x_275 ex_275 => ?_)
            have lox_275x_163 := x_163.le_toInt
            have hix_275x_163 := x_163.toInt_lt
            have tx_275 : x_275.toInt = x_163.toInt - 19 := i_sub ex_275 rfl (by decide : (19 : Int32).toInt = 19) (by omega) (by omega)
            refine ti_callVv (ci := 10) (av := [.int 1, .int x_275]) C hw (x_X10_puts l D A cy hJ M_223 iM_223 a (d) (d + 1) 1 x_275 (us_q (x := 21) (y := 30) hu (pr_w q_226 (by decide) (by decide)) (by omega)) (nL (by omega)) (by first | exact Or.inr (Or.inr (Or.inr ⟨by decide, Or.inr ⟨by omega, by omega⟩, rfl⟩)) | exact nF (by omega))) ⟨ml_X10_282, ym_X10_puts, yv_X10_puts, yi_X10_puts, yc_X10_puts⟩ yd_X10_puts ob_60 (by decide) rfl rfl hl.1 (Nat.le_of_ble_eq_true rfl) ⟨by simp only [ti_rm]; omega, by simp only [ti_rm]; omega⟩ ⟨Nat.zero_le _, Nat.zero_le _⟩ dX10_primary_194 (fun M_336 H locs hp_336 hw => ?_)
            have piM_336 := (hp_336).2.2.2.2.1
            obtain ⟨puM_336, hqM_336⟩ := hp_336
            have hs_337 := rQ_pe hs_224 hqM_336.2.1 hqM_336.2.2.2.1
            obtain ⟨iM_336, q_338, u_339, z_340, z_341, z_342, z_343, z_344, z_345⟩ := l_pu iM_223 hqM_336
            clear hqM_336
            have te_347 : qE a (d + 1) lj (qa lj (-(16 + x_275.toInt)) td) M_336 := qE_pu hlj te_234 puM_336 (fun q9 => by have q8 := ff_1 q9; exact ⟨by unfold bq_kc; rw [if_neg (by decide), if_neg (by decide)], fun q => absurd q (by decide)⟩) (fun q9 => by have q8 := ff_1 q9; exact Or.inr (Or.inr ⟨by decide, Or.inr ⟨by omega, by omega⟩, rfl⟩))
            obtain ⟨d_346, ed_346⟩ : ∃ z : Nat → Int, z = qa lj (-(16 + x_275.toInt)) td := ⟨_, rfl⟩
            rw [← ed_346] at te_347
            have vs_348 : vs M_336 := fun q9 q8 => by rw [piM_336 23 (by decide)] at q8; rw [piM_336 24 (by decide)]; exact vs_235 (by rw [← puM_336.1]; exact q9) q8
            refine lv_aload_n hx hb dX10_primary_197 rfl (lv_at hl 1 rfl) ?_
            refine ti_callVvE (ci := 10) (av := []) C hE hw (x_X10_goOn l D A cy hJ M_336 iM_336  B n g_233 hs_337) ⟨ml_X10_267, ym_X10_goOn, yv_X10_goOn, yi_X10_goOn, yc_X10_goOn⟩ yd_X10_goOn ob_60 (by decide) rfl rfl hl.1 (Nat.le_of_ble_eq_true rfl) ⟨by simp only [ti_rm]; omega, by simp only [ti_rm]; omega⟩ ⟨Nat.zero_le _, Nat.zero_le _⟩ dX10_primary_198 (fun M_350 H locs hp_350 hw => ?_)
            obtain ⟨hs_351, hp_352⟩ := hp_350
            obtain ⟨iM_350, q_353, z_354, z_355, z_356, z_357, z_358⟩ := l_go hp_352
            clear hp_352
            obtain ⟨g_359, eg_359⟩ : ∃ z : Nat → Int, z = pp_go B n g_233 := ⟨_, rfl⟩
            rw [← eg_359] at hs_351
            have te_360 : qE a (d + 1) lj d_346 M_350 := qE_fr te_347 q_353.1 (by omega)
            have vs_361 : vs M_350 := (fun q9 => vs_av hs_351 (by rw [eg_359]; unfold pp_go; rw [if_pos (rQ_g0 hs_337 (ff_1 (ff_q (by omega) q9)))]; exact av_v) q9)
            exact hQ _ _ _ _ _ hw (⟨(by rw [qe_n dk_7]; unfold qq_p0; have q := pt_Twd (rQ_T hr (by omega)) (by omega); have r := pt_nm1 (rg 0).toNat (by omega); rw [if_neg (by omega), if_pos ⟨by omega, by omega⟩, show -(rg 0) = -(16 + x_275.toInt) by omega, ← ed_346]; exact te_360), vs_361, (by rw [pe_n dk_7, show pp_p0 B n rg = pp_kn B n rg from (by first | exact p0_k (rQ_T hr (by omega)) (by omega) (by omega) | exact p0_n (rQ_T hr (by omega)) (by omega) (by omega)), ← kn_kg (rQ_g0 hr (by omega)), ← eg_233, ← eg_359]; exact hs_351), iM_350, (pe.trans (pe_pr q_353 (by decide) (by decide)) (pe.trans q_338 (pe_pr q_226 (by decide) (by decide)))), (by omega), (by omega), (by omega), (by omega), (by omega), (by omega), (by omega), (by omega), (by omega), (by omega), (by omega), (by omega), (by omega), (us_q (x := 21) (y := 30) u_339 (pr_w q_353 (by decide) (by decide)) (by omega))⟩) dX10_primary_201
          · refine lv_aload_n hx hb dX10_primary_157 rfl (lv_at hl 1 rfl) ?_
            refine lv_iconst (v := 1) hx hb dX10_primary_158 (by decide) ?_
            refine ti_callVv (ci := 10) (av := [.int 1]) C hw (x_X10_wrong l D A cy hJ M hI 1 (by decide) B n rg hr) ⟨ml_X10_217, ym_X10_wrong, yv_X10_wrong, yi_X10_wrong, yc_X10_wrong⟩ yd_X10_wrong ob_60 (by decide) rfl rfl hl.1 (Nat.le_of_ble_eq_true rfl) ⟨by simp only [ti_rm]; omega, by simp only [ti_rm]; omega⟩ ⟨Nat.zero_le _, Nat.zero_le _⟩ dX10_primary_159 (fun M_180 H locs hp_180 hw => ?_)
            rw [show (1 : Int32).toInt = 1 by decide] at hp_180
            obtain ⟨hs_181, hp_182⟩ := hp_180
            obtain ⟨iM_180, q_183, z_184, z_185, z_186, z_187, z_188⟩ := l_wr hp_182
            clear hp_182
            obtain ⟨g_189, eg_189⟩ : ∃ z : Nat → Int, z = pp_rf 1 rg := ⟨_, rfl⟩
            rw [← eg_189] at hs_181
            have te_190 : qE a (d) lj td M_180 := qE_fr he q_183.1 (by omega)
            have vs_191 : vs M_180 := vs_fr hvs (by omega) (q_183.2 23 (by decide)) (q_183.2 24 (by decide))
            refine lv_aload_n hx hb dX10_primary_162 rfl (lv_at hl 1 rfl) ?_
            refine ti_callVv (ci := 10) (av := []) C hw (x_X10_knot l D A cy hJ M_180 iM_180  B n g_189 hs_181) ⟨ml_X10_279, ym_X10_knot, yv_X10_knot, yi_X10_knot, yc_X10_knot⟩ yd_X10_knot ob_60 (by decide) rfl rfl hl.1 (Nat.le_of_ble_eq_true rfl) ⟨by simp only [ti_rm]; omega, by simp only [ti_rm]; omega⟩ ⟨Nat.zero_le _, Nat.zero_le _⟩ dX10_primary_163 (fun M_253 H locs hp_253 hw => ?_)
            obtain ⟨hs_254, hp_255⟩ := hp_253
            obtain ⟨iM_253, q_256, z_257, z_258, z_259, z_260, z_261, z_262⟩ := l_kn hp_255
            clear hp_255
            obtain ⟨g_263, eg_263⟩ : ∃ z : Nat → Int, z = pp_k1 g_189 := ⟨_, rfl⟩
            rw [← eg_263] at hs_254
            have te_264 : qE a (d) lj td M_253 := qE_fr te_190 q_256.1 (by omega)
            have vs_265 : vs M_253 := vs_fr vs_191 (by omega) (q_256.2 23 (by decide)) (q_256.2 24 (by decide))
            refine lv_aload_n hx hb dX10_primary_166 rfl (lv_at hl 1 rfl) ?_
            refine lv_iload_n hx hb dX10_primary_167 rfl (lv_at hl 0 rfl) ?_
            refine sb_if_eq (tgt := 175) hx hb (by decide : (0 : Int32).toInt = 0) dX10_primary_168 (by decide) (fun c_168_265 => ?_) (fun h => absurd h (by decide))
            refine lv_iconst (v := 1) hx hb dX10_primary_175 (by decide) ?_
            refine lv_iload_n hx hb dX10_primary_176 rfl (lv_at hl 0 rfl) ?_
            refine sb_if_eq (tgt := 187) hx hb (by decide : (0 : Int32).toInt = 0) dX10_primary_177 (by decide) (fun c_177_270 => ?_) (fun h => absurd h (by decide))
            refine lv_aload_n hx hb dX10_primary_187 rfl (lv_at hl 1 rfl) ?_
            refine ti_get (ci := 10) (k := 24) (N := 67) (T := TX10) C hw iw_10 rfl ob_60 (by decide) (by decide) fl_X10_183 rfl rfl dX10_primary_188 ?_
            refine ti_top (y := x_163) ((q_256.2 24 (by decide)).trans ((q_183.2 24 (by decide)).trans ex_163.symm)) ?_
            have uqu_279 : (tI M_253 60 24).toInt = x_163.toInt := by rw [((q_256.2 24 (by decide)).trans ((q_183.2 24 (by decide)).trans ex_163.symm))]
            refine lv_bipush (v := 19) hx hb dX10_primary_191 (by decide) ?_
            refine lv_isub hx hb dX10_primary_193 ?_
            refine lv_topi (fun x_280 ex_280 => ?_)
            refine ti_callVv (ci := 10) (av := [.int 1, .int x_280]) C hw (x_X10_puts l D A cy hJ M_253 iM_253 a (d) (d + 1) 1 x_280 (us_q (x := 21) (y := 30) hu (pr.trans (pr_w q_256 (by decide) (by decide)) (pr_w q_183 (by decide) (by decide))) (by omega)) (nL (by omega)) (by first | exact Or.inr (Or.inr (Or.inr ⟨by decide, Or.inr ⟨by omega, by omega⟩, rfl⟩)) | exact nF (by omega))) ⟨ml_X10_282, ym_X10_puts, yv_X10_puts, yi_X10_puts, yc_X10_puts⟩ yd_X10_puts ob_60 (by decide) rfl rfl hl.1 (Nat.le_of_ble_eq_true rfl) ⟨by simp only [ti_rm]; omega, by simp only [ti_rm]; omega⟩ ⟨Nat.zero_le _, Nat.zero_le _⟩ dX10_primary_194 (fun M_390 H locs hp_390 hw => ?_)
            have piM_390 := (hp_390).2.2.2.2.1
            obtain ⟨puM_390, hqM_390⟩ := hp_390
            have hs_391 := rQ_pe hs_254 hqM_390.2.1 hqM_390.2.2.2.1
            obtain ⟨iM_390, q_392, u_393, z_394, z_395, z_396, z_397, z_398, z_399⟩ := l_pu iM_253 hqM_390
            clear hqM_390
            have te_401 : qE a (d + 1) lj (qa lj (-(16 + x_280.toInt)) td) M_390 := qE_pu hlj te_264 puM_390 (fun q9 => by have q8 := ff_1 q9; exact ⟨by unfold bq_kc; rw [if_neg (by decide), if_neg (by decide)], fun q => absurd q (by decide)⟩) (fun q9 => by have q8 := ff_1 q9; exact Or.inr (Or.inr ⟨by decide, Or.inr ⟨by omega, by omega⟩, rfl⟩))
            obtain ⟨d_400, ed_400⟩ : ∃ z : Nat → Int, z = qa lj (-(16 + x_280.toInt)) td := ⟨_, rfl⟩
            rw [← ed_400] at te_401
            have vs_402 : vs M_390 := fun q9 q8 => by rw [piM_390 23 (by decide)] at q8; rw [piM_390 24 (by decide)]; exact vs_265 (by rw [← puM_390.1]; exact q9) q8
            refine lv_aload_n hx hb dX10_primary_197 rfl (lv_at hl 1 rfl) ?_
            refine ti_callVvE (ci := 10) (av := []) C hE hw (x_X10_goOn l D A cy hJ M_390 iM_390  B n g_263 hs_391) ⟨ml_X10_267, ym_X10_goOn, yv_X10_goOn, yi_X10_goOn, yc_X10_goOn⟩ yd_X10_goOn ob_60 (by decide) rfl rfl hl.1 (Nat.le_of_ble_eq_true rfl) ⟨by simp only [ti_rm]; omega, by simp only [ti_rm]; omega⟩ ⟨Nat.zero_le _, Nat.zero_le _⟩ dX10_primary_198 (fun M_404 H locs hp_404 hw => ?_)
            obtain ⟨hs_405, hp_406⟩ := hp_404
            obtain ⟨iM_404, q_407, z_408, z_409, z_410, z_411, z_412⟩ := l_go hp_406
            clear hp_406
            obtain ⟨g_413, eg_413⟩ : ∃ z : Nat → Int, z = pp_go B n g_263 := ⟨_, rfl⟩
            rw [← eg_413] at hs_405
            have te_414 : qE a (d + 1) lj d_400 M_404 := qE_fr te_401 q_407.1 (by omega)
            have vs_415 : vs M_404 := (fun q9 => vs_av hs_405 (by rw [eg_413]; unfold pp_go; rw [if_pos (rQ_g0 hs_391 (ff_1 (ff_q (by omega) q9)))]; exact av_v) q9)
            exact hQ _ _ _ _ _ hw (⟨(qE_f (by omega)), vs_415, (by have z := rQ_g1 hs_181 (by omega); have q : g_413 = g_189 := (by rw [eg_413, eg_263, k1_f z, go_f z]); rw [pe_n dk_7, show pp_p0 B n rg = g_189 from Eq.trans (by first | exact p0_2 (rQ_T hr (by omega)) (by omega) (by omega) | exact p0_1 (rQ_T hr (by omega)) (by omega) (by omega)) eg_189.symm, ← q]; exact hs_405), iM_404, (pe.trans (pe_pr q_407 (by decide) (by decide)) (pe.trans q_392 (pe.trans (pe_pr q_256 (by decide) (by decide)) (pe_pr q_183 (by decide) (by decide))))), (by omega), (by omega), (by omega), (by omega), (by omega), (by omega), (by omega), (by omega), (by omega), (by omega), (by omega), (by omega), (by omega), (us_q (x := 21) (y := 30) u_393 (pr_w q_407 (by decide) (by decide)) (by omega))⟩) dX10_primary_201
      · refine lv_iconst (v := 1) hx hb dX10_primary_109 (by decide) ?_
        refine lv_goto (tgt := 114) hx hb dX10_primary_110 (by decide) ?_
        refine lv_istore_n (lv' := [(1, .int 1), (0, .ref (A 60 0))]) hx hb dX10_primary_114 rfl hl (by decide) rfl (fun ls hl => ?_)
        refine lv_iload_n hx hb dX10_primary_115 rfl (lv_at hl 0 rfl) ?_
        refine sb_if_eq (tgt := 137) hx hb (by decide : (1 : Int32).toInt = 1) dX10_primary_116 (by decide) (fun h => absurd h (by decide)) (fun c_116_140 => ?_)
        refine lv_aload_n hx hb dX10_primary_119 rfl (lv_at hl 1 rfl) ?_
        refine ti_get (ci := 10) (k := 24) (N := 67) (T := TX10) C hw iw_10 rfl ob_60 (by decide) (by decide) fl_X10_183 rfl rfl dX10_primary_120 ?_
        refine lv_topi (fun x_143 ex_143 => ?_)
        have uqu_144 : (tI M 60 24).toInt = x_143.toInt := by rw [(ex_143.symm)]
        refine lv_sipush (v := 9999) hx hb dX10_primary_123 (by decide) ?_
        refine sb_icmp_le (tgt := 137) hx hb rfl (by decide : (9999 : Int32).toInt = 9999) dX10_primary_126 (by decide) (fun c_126_144 => ?_) (fun c_126_144 => ?_)
        · refine lv_iload_n hx hb dX10_primary_137 rfl (lv_at hl 0 rfl) ?_
          refine sb_if_ne (tgt := 162) hx hb (by decide : (1 : Int32).toInt = 1) dX10_primary_138 (by decide) (fun c_138_159 => ?_) (fun h => absurd h (by decide))
          refine lv_aload_n hx hb dX10_primary_162 rfl (lv_at hl 1 rfl) ?_
          refine ti_callVv (ci := 10) (av := []) C hw (x_X10_knot l D A cy hJ M hI  B n rg hr) ⟨ml_X10_279, ym_X10_knot, yv_X10_knot, yi_X10_knot, yc_X10_knot⟩ yd_X10_knot ob_60 (by decide) rfl rfl hl.1 (Nat.le_of_ble_eq_true rfl) ⟨by simp only [ti_rm]; omega, by simp only [ti_rm]; omega⟩ ⟨Nat.zero_le _, Nat.zero_le _⟩ dX10_primary_163 (fun M_208 H locs hp_208 hw => ?_)
          obtain ⟨hs_209, hp_210⟩ := hp_208
          obtain ⟨iM_208, q_211, z_212, z_213, z_214, z_215, z_216, z_217⟩ := l_kn hp_210
          clear hp_210
          obtain ⟨g_218, eg_218⟩ : ∃ z : Nat → Int, z = pp_k1 rg := ⟨_, rfl⟩
          rw [← eg_218] at hs_209
          have te_219 : qE a (d) lj td M_208 := qE_fr he q_211.1 (by omega)
          have vs_220 : vs M_208 := vs_fr hvs (by omega) (q_211.2 23 (by decide)) (q_211.2 24 (by decide))
          refine lv_aload_n hx hb dX10_primary_166 rfl (lv_at hl 1 rfl) ?_
          refine lv_iload_n hx hb dX10_primary_167 rfl (lv_at hl 0 rfl) ?_
          refine sb_if_eq (tgt := 175) hx hb (by decide : (1 : Int32).toInt = 1) dX10_primary_168 (by decide) (fun h => absurd h (by decide)) (fun c_168_220 => ?_)
          refine lv_iconst (v := 0) hx hb dX10_primary_171 (by decide) ?_
          refine lv_goto (tgt := 176) hx hb dX10_primary_172 (by decide) ?_
          refine lv_iload_n hx hb dX10_primary_176 rfl (lv_at hl 0 rfl) ?_
          refine sb_if_eq (tgt := 187) hx hb (by decide : (1 : Int32).toInt = 1) dX10_primary_177 (by decide) (fun h => absurd h (by decide)) (fun c_177_267 => ?_)
          refine lv_aload_n hx hb dX10_primary_180 rfl (lv_at hl 1 rfl) ?_
          refine ti_get (ci := 10) (k := 24) (N := 67) (T := TX10) C hw iw_10 rfl ob_60 (by decide) (by decide) fl_X10_183 rfl rfl dX10_primary_181 ?_
          refine ti_top (y := x_143) ((q_211.2 24 (by decide)).trans ex_143.symm) ?_
          have uqu_273 : (tI M_208 60 24).toInt = x_143.toInt := by rw [((q_211.2 24 (by decide)).trans ex_143.symm)]
          refine lv_goto (tgt := 194) hx hb dX10_primary_184 (by decide) ?_
          refine ti_callVv (ci := 10) (av := [.int 0, .int x_143]) C hw (x_X10_puts l D A cy hJ M_208 iM_208 a (d) (d + 1) 0 x_143 (us_q (x := 21) (y := 30) hu (pr_w q_211 (by decide) (by decide)) (by omega)) (nL (by omega)) (by first | exact Or.inr (Or.inr (Or.inr ⟨by decide, Or.inl (by decide), rfl⟩)) | exact nF (by omega))) ⟨ml_X10_282, ym_X10_puts, yv_X10_puts, yi_X10_puts, yc_X10_puts⟩ yd_X10_puts ob_60 (by decide) rfl rfl hl.1 (Nat.le_of_ble_eq_true rfl) ⟨by simp only [ti_rm]; omega, by simp only [ti_rm]; omega⟩ ⟨Nat.zero_le _, Nat.zero_le _⟩ dX10_primary_194 (fun M_309 H locs hp_309 hw => ?_)
          have piM_309 := (hp_309).2.2.2.2.1
          obtain ⟨puM_309, hqM_309⟩ := hp_309
          have hs_310 := rQ_pe hs_209 hqM_309.2.1 hqM_309.2.2.2.1
          obtain ⟨iM_309, q_311, u_312, z_313, z_314, z_315, z_316, z_317, z_318⟩ := l_pu iM_208 hqM_309
          clear hqM_309
          have te_320 : qE a (d + 1) lj (qa lj x_143.toInt td) M_309 := qE_pu hlj te_219 puM_309 (fun q9 => by have q8 := ff_1 q9; exact ⟨by unfold bq_kc; rw [if_neg (by decide), if_pos (by decide)], fun _ => (by have q7 := hvs (ff_y (by omega)) (by omega); omega)⟩) (fun q9 => by have q8 := ff_1 q9; exact Or.inr (Or.inr ⟨by decide, Or.inl (by decide), rfl⟩))
          obtain ⟨d_319, ed_319⟩ : ∃ z : Nat → Int, z = qa lj x_143.toInt td := ⟨_, rfl⟩
          rw [← ed_319] at te_320
          have vs_321 : vs M_309 := fun q9 q8 => by rw [piM_309 23 (by decide)] at q8; rw [piM_309 24 (by decide)]; exact vs_220 (by rw [← puM_309.1]; exact q9) q8
          refine lv_aload_n hx hb dX10_primary_197 rfl (lv_at hl 1 rfl) ?_
          refine ti_callVvE (ci := 10) (av := []) C hE hw (x_X10_goOn l D A cy hJ M_309 iM_309  B n g_218 hs_310) ⟨ml_X10_267, ym_X10_goOn, yv_X10_goOn, yi_X10_goOn, yc_X10_goOn⟩ yd_X10_goOn ob_60 (by decide) rfl rfl hl.1 (Nat.le_of_ble_eq_true rfl) ⟨by simp only [ti_rm]; omega, by simp only [ti_rm]; omega⟩ ⟨Nat.zero_le _, Nat.zero_le _⟩ dX10_primary_198 (fun M_323 H locs hp_323 hw => ?_)
          obtain ⟨hs_324, hp_325⟩ := hp_323
          obtain ⟨iM_323, q_326, z_327, z_328, z_329, z_330, z_331⟩ := l_go hp_325
          clear hp_325
          obtain ⟨g_332, eg_332⟩ : ∃ z : Nat → Int, z = pp_go B n g_218 := ⟨_, rfl⟩
          rw [← eg_332] at hs_324
          have te_333 : qE a (d + 1) lj d_319 M_323 := qE_fr te_320 q_326.1 (by omega)
          have vs_334 : vs M_323 := (fun q9 => vs_av hs_324 (by rw [eg_332]; unfold pp_go; rw [if_pos (rQ_g0 hs_310 (ff_1 (ff_q (by omega) q9)))]; exact av_v) q9)
          exact hQ _ _ _ _ _ hw (⟨(by rw [qe_n dk_7]; unfold qq_p0; have q := (pt_Tnm (rQ_T hr (by omega))).2.2.1 (by omega); rw [if_pos q.1, if_neg (by omega), show rg 1 = x_143.toInt by omega, ← ed_319]; exact te_333), vs_334, (by rw [pe_n dk_7, show pp_p0 B n rg = pp_kn B n rg from (by first | exact p0_k (rQ_T hr (by omega)) (by omega) (by omega) | exact p0_n (rQ_T hr (by omega)) (by omega) (by omega)), ← kn_kg (rQ_g0 hr (by omega)), ← eg_218, ← eg_332]; exact hs_324), iM_323, (pe.trans (pe_pr q_326 (by decide) (by decide)) (pe.trans q_311 (pe_pr q_211 (by decide) (by decide)))), (by omega), (by omega), (by omega), (by omega), (by omega), (by omega), (by omega), (by omega), (by omega), (by omega), (by omega), (by omega), (by omega), (us_q (x := 21) (y := 30) u_312 (pr_w q_326 (by decide) (by decide)) (by omega))⟩) dX10_primary_201
        · refine lv_aload_n hx hb dX10_primary_129 rfl (lv_at hl 1 rfl) ?_
          refine lv_iconst (v := 2) hx hb dX10_primary_130 (by decide) ?_
          refine ti_callVv (ci := 10) (av := [.int 2]) C hw (x_X10_wrong l D A cy hJ M hI 2 (by decide) B n rg hr) ⟨ml_X10_217, ym_X10_wrong, yv_X10_wrong, yi_X10_wrong, yc_X10_wrong⟩ yd_X10_wrong ob_60 (by decide) rfl rfl hl.1 (Nat.le_of_ble_eq_true rfl) ⟨by simp only [ti_rm]; omega, by simp only [ti_rm]; omega⟩ ⟨Nat.zero_le _, Nat.zero_le _⟩ dX10_primary_131 (fun M_147 H locs hp_147 hw => ?_)
          rw [show (2 : Int32).toInt = 2 by decide] at hp_147
          obtain ⟨hs_148, hp_149⟩ := hp_147
          obtain ⟨iM_147, q_150, z_151, z_152, z_153, z_154, z_155⟩ := l_wr hp_149
          clear hp_149
          obtain ⟨g_156, eg_156⟩ : ∃ z : Nat → Int, z = pp_rf 2 rg := ⟨_, rfl⟩
          rw [← eg_156] at hs_148
          have te_157 : qE a (d) lj td M_147 := qE_fr he q_150.1 (by omega)
          have vs_158 : vs M_147 := vs_fr hvs (by omega) (q_150.2 23 (by decide)) (q_150.2 24 (by decide))
          refine lv_goto (tgt := 162) hx hb dX10_primary_134 (by decide) ?_
          refine lv_aload_n hx hb dX10_primary_162 rfl (lv_at hl 1 rfl) ?_
          refine ti_callVv (ci := 10) (av := []) C hw (x_X10_knot l D A cy hJ M_147 iM_147  B n g_156 hs_148) ⟨ml_X10_279, ym_X10_knot, yv_X10_knot, yi_X10_knot, yc_X10_knot⟩ yd_X10_knot ob_60 (by decide) rfl rfl hl.1 (Nat.le_of_ble_eq_true rfl) ⟨by simp only [ti_rm]; omega, by simp only [ti_rm]; omega⟩ ⟨Nat.zero_le _, Nat.zero_le _⟩ dX10_primary_163 (fun M_193 H locs hp_193 hw => ?_)
          obtain ⟨hs_194, hp_195⟩ := hp_193
          obtain ⟨iM_193, q_196, z_197, z_198, z_199, z_200, z_201, z_202⟩ := l_kn hp_195
          clear hp_195
          obtain ⟨g_203, eg_203⟩ : ∃ z : Nat → Int, z = pp_k1 g_156 := ⟨_, rfl⟩
          rw [← eg_203] at hs_194
          have te_204 : qE a (d) lj td M_193 := qE_fr te_157 q_196.1 (by omega)
          have vs_205 : vs M_193 := vs_fr vs_158 (by omega) (q_196.2 23 (by decide)) (q_196.2 24 (by decide))
          refine lv_aload_n hx hb dX10_primary_166 rfl (lv_at hl 1 rfl) ?_
          refine lv_iload_n hx hb dX10_primary_167 rfl (lv_at hl 0 rfl) ?_
          refine sb_if_eq (tgt := 175) hx hb (by decide : (1 : Int32).toInt = 1) dX10_primary_168 (by decide) (fun h => absurd h (by decide)) (fun c_168_205 => ?_)
          refine lv_iconst (v := 0) hx hb dX10_primary_171 (by decide) ?_
          refine lv_goto (tgt := 176) hx hb dX10_primary_172 (by decide) ?_
          refine lv_iload_n hx hb dX10_primary_176 rfl (lv_at hl 0 rfl) ?_
          refine sb_if_eq (tgt := 187) hx hb (by decide : (1 : Int32).toInt = 1) dX10_primary_177 (by decide) (fun h => absurd h (by decide)) (fun c_177_266 => ?_)
          refine lv_aload_n hx hb dX10_primary_180 rfl (lv_at hl 1 rfl) ?_
          refine ti_get (ci := 10) (k := 24) (N := 67) (T := TX10) C hw iw_10 rfl ob_60 (by decide) (by decide) fl_X10_183 rfl rfl dX10_primary_181 ?_
          refine ti_top (y := x_143) ((q_196.2 24 (by decide)).trans ((q_150.2 24 (by decide)).trans ex_143.symm)) ?_
          have uqu_272 : (tI M_193 60 24).toInt = x_143.toInt := by rw [((q_196.2 24 (by decide)).trans ((q_150.2 24 (by decide)).trans ex_143.symm))]
          refine lv_goto (tgt := 194) hx hb dX10_primary_184 (by decide) ?_
          refine ti_callVv (ci := 10) (av := [.int 0, .int x_143]) C hw (x_X10_puts l D A cy hJ M_193 iM_193 a (d) (d + 1) 0 x_143 (us_q (x := 21) (y := 30) hu (pr.trans (pr_w q_196 (by decide) (by decide)) (pr_w q_150 (by decide) (by decide))) (by omega)) (nL (by omega)) (by first | exact Or.inr (Or.inr (Or.inr ⟨by decide, Or.inl (by decide), rfl⟩)) | exact nF (by omega))) ⟨ml_X10_282, ym_X10_puts, yv_X10_puts, yi_X10_puts, yc_X10_puts⟩ yd_X10_puts ob_60 (by decide) rfl rfl hl.1 (Nat.le_of_ble_eq_true rfl) ⟨by simp only [ti_rm]; omega, by simp only [ti_rm]; omega⟩ ⟨Nat.zero_le _, Nat.zero_le _⟩ dX10_primary_194 (fun M_282 H locs hp_282 hw => ?_)
          have piM_282 := (hp_282).2.2.2.2.1
          obtain ⟨puM_282, hqM_282⟩ := hp_282
          have hs_283 := rQ_pe hs_194 hqM_282.2.1 hqM_282.2.2.2.1
          obtain ⟨iM_282, q_284, u_285, z_286, z_287, z_288, z_289, z_290, z_291⟩ := l_pu iM_193 hqM_282
          clear hqM_282
          have te_293 : qE a (d + 1) lj (qa lj x_143.toInt td) M_282 := qE_pu hlj te_204 puM_282 (fun q9 => by have q8 := ff_1 q9; exact ⟨by unfold bq_kc; rw [if_neg (by decide), if_pos (by decide)], fun _ => (by have q7 := hvs (ff_y (by omega)) (by omega); omega)⟩) (fun q9 => by have q8 := ff_1 q9; exact Or.inr (Or.inr ⟨by decide, Or.inl (by decide), rfl⟩))
          obtain ⟨d_292, ed_292⟩ : ∃ z : Nat → Int, z = qa lj x_143.toInt td := ⟨_, rfl⟩
          rw [← ed_292] at te_293
          have vs_294 : vs M_282 := fun q9 q8 => by rw [piM_282 23 (by decide)] at q8; rw [piM_282 24 (by decide)]; exact vs_205 (by rw [← puM_282.1]; exact q9) q8
          refine lv_aload_n hx hb dX10_primary_197 rfl (lv_at hl 1 rfl) ?_
          refine ti_callVvE (ci := 10) (av := []) C hE hw (x_X10_goOn l D A cy hJ M_282 iM_282  B n g_203 hs_283) ⟨ml_X10_267, ym_X10_goOn, yv_X10_goOn, yi_X10_goOn, yc_X10_goOn⟩ yd_X10_goOn ob_60 (by decide) rfl rfl hl.1 (Nat.le_of_ble_eq_true rfl) ⟨by simp only [ti_rm]; omega, by simp only [ti_rm]; omega⟩ ⟨Nat.zero_le _, Nat.zero_le _⟩ dX10_primary_198 (fun M_296 H locs hp_296 hw => ?_)
          obtain ⟨hs_297, hp_298⟩ := hp_296
          obtain ⟨iM_296, q_299, z_300, z_301, z_302, z_303, z_304⟩ := l_go hp_298
          clear hp_298
          obtain ⟨g_305, eg_305⟩ : ∃ z : Nat → Int, z = pp_go B n g_203 := ⟨_, rfl⟩
          rw [← eg_305] at hs_297
          have te_306 : qE a (d + 1) lj d_292 M_296 := qE_fr te_293 q_299.1 (by omega)
          have vs_307 : vs M_296 := (fun q9 => vs_av hs_297 (by rw [eg_305]; unfold pp_go; rw [if_pos (rQ_g0 hs_283 (ff_1 (ff_q (by omega) q9)))]; exact av_v) q9)
          exact hQ _ _ _ _ _ hw (⟨(qE_f (by omega)), vs_307, (by have z := rQ_g1 hs_148 (by omega); have q : g_305 = g_156 := (by rw [eg_305, eg_203, k1_f z, go_f z]); rw [pe_n dk_7, show pp_p0 B n rg = g_156 from Eq.trans (by first | exact p0_2 (rQ_T hr (by omega)) (by omega) (by omega) | exact p0_1 (rQ_T hr (by omega)) (by omega) (by omega)) eg_156.symm, ← q]; exact hs_297), iM_296, (pe.trans (pe_pr q_299 (by decide) (by decide)) (pe.trans q_284 (pe.trans (pe_pr q_196 (by decide) (by decide)) (pe_pr q_150 (by decide) (by decide))))), (by omega), (by omega), (by omega), (by omega), (by omega), (by omega), (by omega), (by omega), (by omega), (by omega), (by omega), (by omega), (by omega), (us_q (x := 21) (y := 30) u_285 (pr_w q_299 (by decide) (by decide)) (by omega))⟩) dX10_primary_201
  · have z_4 : ff M = 0 := ff_0 (fun h => c_4_2 (ufx_1.symm.trans h))
    clear c_4_2
    exact hQ _ _ _ _ _ hw (⟨(qE_f (by omega)), hvs, (rQ_f hr (rQ_g1 hr (by omega)) (pt_f (rQ_z hr (rQ_g1 hr (by omega))))), hI, pe.refl, (by omega), (by omega), (by omega), (by omega), (by omega), (by omega), (by omega), (by omega), (by omega), (by omega), (by omega), (by omega), (by omega), us_f (by omega)⟩) dX10_primary_7
set_option maxHeartbeats 4000000 in
set_option maxRecDepth 100000 in
theorem x_X10_product (l : Launch) (D : va_G) (A : Nat → Nat → Nat) (cy : Nat → ClassId) (hJ : ti_inj ti_LM A) (M : ti_M) (hI : mI Tm M) (j a d : Nat) (hj : j ≤ 8) (hu : us M a d) (hc : (tY M 60 3 18).toInt ≤ (tI M 60 30).toInt + 64 - 64 * ff M) (ho : (tI M 60 29).toInt + j ≤ 16 - 8 * ff M) (ho2 : 8 * ff M ≤ (tI M 60 29).toInt + j) (B : Nat → Int) (n : Nat) (rg : Nat → Int) (hr : rQ B n rg M) (lj : Nat) (hlj : lj < 3) (td : Nat → Int) (he : qE a d lj td M) (hvs : vs M) (ih : ∀ i : Nat, i < j → ∀ (l : Launch) (D : va_G) (A : Nat → Nat → Nat) (cy : Nat → ClassId) (hJ : ti_inj ti_LM A) (M : ti_M) (hI : mI Tm M) (a d : Nat) (hj : i ≤ 8) (hu : us M a d) (hc : (tY M 60 3 18).toInt ≤ (tI M 60 30).toInt + 64 - 64 * ff M) (ho : (tI M 60 29).toInt + i ≤ 16 - 8 * ff M) (ho2 : 8 * ff M ≤ (tI M 60 29).toInt + i) (B : Nat → Int) (n : Nat) (rg : Nat → Int) (hr : rQ B n rg M) (lj : Nat) (hlj : lj < 3) (td : Nat → Int) (he : qE a d lj td M) (hvs : vs M), ti_KvE l yX10_expression cX10_expression 1 (78 + 71 * i) ti_LM D A cy M [.ref (A 60 0)] (fun M2 => qE a (d + 1) lj (qq_ei B n lj (pp_pt B n i) (qq_pt B n lj i) rg td) M2 ∧ vs M2 ∧ rQ B n (pp_ei B n (pp_pt B n i) rg) M2 ∧ mI Tm M2 ∧ pe M2 M ∧ (pg M ≤ pg M2) ∧ (0 ≤ ff M2) ∧ (ff M2 ≤ ff M) ∧ ((tI M 60 30).toInt ≤ (tI M2 60 30).toInt) ∧ ((tI M2 60 30).toInt ≤ 64) ∧ ((tI M2 60 29).toInt ≤ (tI M 60 29).toInt + 8 - 8 * ff M2) ∧ ((tI M 60 29).toInt ≤ (tI M2 60 29).toInt + 8 - 8 * ff M2) ∧ ((tI M2 60 30).toInt - (tY M2 60 3 18).toInt ≤ (tI M 60 30).toInt - (tY M 60 3 18).toInt + 200 - 200 * ff M2) ∧ ((tI M 60 30).toInt - (tY M 60 3 18).toInt ≤ (tI M2 60 30).toInt - (tY M2 60 3 18).toInt + 200 - 200 * ff M2) ∧ (0 ≤ (tY M2 60 3 18).toInt) ∧ ((tY M2 60 3 18).toInt ≤ 64) ∧ (0 ≤ (tI M2 60 29).toInt) ∧ ((tI M2 60 29).toInt ≤ 8) ∧ us M2 a (d + 1))) : ti_KvE l yX10_product cX10_product 2 (9 + 71 * j) ti_LM D A cy M [.ref (A 60 0)] (fun M2 => qE a (d + 1) lj (qq_pd B n lj (pp_pt B n j) (qq_pt B n lj j) rg td) M2 ∧ vs M2 ∧ rQ B n (pp_pd B n (pp_pt B n j) rg) M2 ∧ mI Tm M2 ∧ pe M2 M ∧ (pg M ≤ pg M2) ∧ (0 ≤ ff M2) ∧ (ff M2 ≤ ff M) ∧ ((tI M 60 30).toInt ≤ (tI M2 60 30).toInt) ∧ ((tI M2 60 30).toInt ≤ 64) ∧ ((tI M2 60 29).toInt ≤ (tI M 60 29).toInt + 8 - 8 * ff M2) ∧ ((tI M 60 29).toInt ≤ (tI M2 60 29).toInt + 8 - 8 * ff M2) ∧ ((tI M2 60 30).toInt - (tY M2 60 3 18).toInt ≤ (tI M 60 30).toInt - (tY M 60 3 18).toInt + 200 - 200 * ff M2) ∧ ((tI M 60 30).toInt - (tY M 60 3 18).toInt ≤ (tI M2 60 30).toInt - (tY M2 60 3 18).toInt + 200 - 200 * ff M2) ∧ (0 ≤ (tY M2 60 3 18).toInt) ∧ ((tY M2 60 3 18).toInt ≤ 64) ∧ (0 ≤ (tI M2 60 29).toInt) ∧ ((tI M2 60 29).toInt ≤ 8) ∧ us M2 a (d + 1)) := by
  refine ti_eVE yp_X10_product hJ ti_LM_nd (Nat.le_of_ble_eq_true rfl) ?_
  intro p e s m args below meth c Q H0 C hE hQ hw ls hl
  have hx := C.1
  have hb := C.2.1
  have hl : lv_has ls 2 [(0, .ref (A 60 0))] := hl
  have hI30 := b30 hI
  have hI29 := b29 hI
  have hI18 := b18 hI
  have hIff := ff_b M
  refine lv_aload_n hx hb dX10_product_0 rfl (lv_at hl 0 rfl) ?_
  refine ti_callVvE (ci := 10) (av := []) C hE hw (x_X10_primary l D A cy hJ M hI j a (d) (by omega) hu (by omega) (by omega) (by omega) B n rg hr lj hlj td he hvs ih) ⟨ml_X10_294, ym_X10_primary, yv_X10_primary, yi_X10_primary, yc_X10_primary⟩ yd_X10_primary ob_60 (by decide) rfl rfl hl.1 (Nat.le_of_ble_eq_true rfl) ⟨by simp only [ti_rm]; omega, by simp only [ti_rm]; omega⟩ ⟨Nat.zero_le _, Nat.zero_le _⟩ dX10_product_1 (fun M_2 H locs hp_2 hw => ?_)
  obtain ⟨te_5, vs_6, hs_3, hp_4⟩ := hp_2
  obtain ⟨iM_2, q_7, p_8, p_9, p_10, p_11, p_12, p_13, p_14, p_15, p_16, p_17, p_18, p_19, p_20, u_21⟩ := hp_4
  obtain ⟨g_22, eg_22⟩ : ∃ z : Nat → Int, z = pp_pt B n j rg := ⟨_, rfl⟩
  rw [← eg_22] at hs_3
  obtain ⟨d_23, ed_23⟩ : ∃ z : Nat → Int, z = qq_pt B n lj j rg td := ⟨_, rfl⟩
  rw [← ed_23] at te_5
  have hl_4_47 : ∀ (n_48 : Nat) (M_24 : ti_M) (g_26 : Nat → Int) (d_28 : Nat → Int) (H : Heap) (locs : List Loc) (ls : Array Slot), (64 - (tI M_24 60 30).toInt + ff M_24 : Int).toNat < n_48 → (mI Tm M_24) → (pe M_24 M) → (rQ B n g_26 M_24) → (qE a (d + 1) lj d_28 M_24) → (vs M_24) → (us M_24 a (d + 1)) → (pp_pd B n (pp_pt B n j) rg = pp_lp pp_qT (fun s => pp_pt B n j (pp_kn B n s)) 64 g_26) → (qq_pd B n lj (pp_pt B n j) (qq_pt B n lj j) rg td = qq_lp pp_qT (fun s => pp_pt B n j (pp_kn B n s)) (fun s td => qa lj (-(s 0)) (qq_pt B n lj j (pp_kn B n s) td)) 64 g_26 d_28) → (g_26 0 = 28 ∨ (1 ≤ g_26 8 ∧ g_26 8 ≤ 64)) → (pg M ≤ pg M_24) → (0 ≤ ff M_24) → (ff M_24 ≤ ff M) → ((tI M 60 30).toInt ≤ (tI M_24 60 30).toInt) → ((tI M_24 60 30).toInt ≤ 64) → ((tI M_24 60 29).toInt ≤ (tI M 60 29).toInt + 8 - 8 * ff M_24) → ((tI M 60 29).toInt ≤ (tI M_24 60 29).toInt + 8 - 8 * ff M_24) → ((tI M_24 60 30).toInt - (tY M_24 60 3 18).toInt ≤ (tI M 60 30).toInt - (tY M 60 3 18).toInt + 200 - 200 * ff M_24) → ((tI M 60 30).toInt - (tY M 60 3 18).toInt ≤ (tI M_24 60 30).toInt - (tY M_24 60 3 18).toInt + 200 - 200 * ff M_24) → (0 ≤ (tY M_24 60 3 18).toInt) → ((tY M_24 60 3 18).toInt ≤ 64) → (0 ≤ (tI M_24 60 29).toInt) → ((tI M_24 60 29).toInt ≤ 8) → ti_H ti_LM D A cy H0 M_24 H locs → lv_has ls 2 [(0, .ref (A 60 0))] → W p l e (ti_rm (9 + 71 * j)) s m args below meth c H locs 0 0 Q (F0 m 4 ls []) := by
    intro n_48
    induction n_48 with
    | zero => intro M_24 g_26 d_28 H locs ls hf_48; exact absurd hf_48 (Nat.not_lt_zero _)
    | succ n_48 ih_48 =>
      intro M_24 g_26 d_28 H locs ls hf_48 iM_24 f_25 hs_27 te_29 vs_30 j_31 j_32 j_33 j_34 j_35 j_36 j_37 j_38 j_39 j_40 j_41 j_42 j_43 j_44 j_45 j_46 j_47 hw hl
      refine lv_aload_n hx hb dX10_product_4 rfl (lv_at hl 0 rfl) ?_
      refine lv_bipush (v := 42) hx hb dX10_product_5 (by decide) ?_
      refine ti_callVi (ci := 10) (av := [.int 42]) C hw (x_X10_isSign l D A cy hJ M_24 iM_24 42) ⟨ml_X10_251, ym_X10_isSign, yv_X10_isSign, yi_X10_isSign, yc_X10_isSign⟩ yd_X10_isSign ob_60 (by decide) rfl rfl hl.1 (Nat.le_of_ble_eq_true rfl) ⟨by simp only [ti_rm]; omega, by simp only [ti_rm]; omega⟩ ⟨Nat.zero_le _, Nat.zero_le _⟩ dX10_product_7 (fun r_49 M_50 H locs hp_50 hw => ?_)
      obtain ⟨hm, hz⟩ := hp_50
      have hw := hw.to hm
      have hj_22_65 : ∀  (H : Heap) (locs : List Loc) (ls : Array Slot), (ff M_24 = 1) → (g_26 0 ≠ 28) → (pp_qT (g_26 0) = true) → ti_H ti_LM D A cy H0 M_24 H locs → lv_has ls 2 [(0, .ref (A 60 0))] → W p l e (ti_rm (9 + 71 * j)) s m args below meth c H locs 0 0 Q (F0 m 22 ls []) := by
        intro  H locs ls j_63 j_64 j_65 hw hl
        refine lv_aload_n hx hb dX10_product_22 rfl (lv_at hl 0 rfl) ?_
        refine ti_get (ci := 10) (k := 24) (N := 67) (T := TX10) C hw iw_10 rfl ob_60 (by decide) (by decide) fl_X10_183 rfl rfl dX10_product_23 ?_
        refine lv_topi (fun x_66 ex_66 => ?_)
        have uqu_67 : (tI M_24 60 24).toInt = x_66.toInt := by rw [(ex_66.symm)]
        refine lv_istore_n (lv' := [(1, .int x_66), (0, .ref (A 60 0))]) hx hb dX10_product_26 rfl hl (by decide) rfl (fun ls hl => ?_)
        refine lv_aload_n hx hb dX10_product_27 rfl (lv_at hl 1 rfl) ?_
        refine ti_callVv (ci := 10) (av := []) C hw (x_X10_knot l D A cy hJ M_24 iM_24  B n g_26 hs_27) ⟨ml_X10_279, ym_X10_knot, yv_X10_knot, yi_X10_knot, yc_X10_knot⟩ yd_X10_knot ob_60 (by decide) rfl rfl hl.1 (Nat.le_of_ble_eq_true rfl) ⟨by simp only [ti_rm]; omega, by simp only [ti_rm]; omega⟩ ⟨Nat.zero_le _, Nat.zero_le _⟩ dX10_product_28 (fun M_69 H locs hp_69 hw => ?_)
        obtain ⟨hs_70, hp_71⟩ := hp_69
        obtain ⟨iM_69, q_72, z_73, z_74, z_75, z_76, z_77, z_78⟩ := l_kn hp_71
        clear hp_71
        obtain ⟨g_79, eg_79⟩ : ∃ z : Nat → Int, z = pp_k1 g_26 := ⟨_, rfl⟩
        rw [← eg_79] at hs_70
        have te_80 : qE a (d + 1) lj d_28 M_69 := qE_fr te_29 q_72.1 (by omega)
        have vs_81 : vs M_69 := vs_fr vs_30 (by omega) (q_72.2 23 (by decide)) (q_72.2 24 (by decide))
        refine lv_aload_n hx hb dX10_product_31 rfl (lv_at hl 1 rfl) ?_
        refine ti_callVvE (ci := 10) (av := []) C hE hw (x_X10_goOn l D A cy hJ M_69 iM_69  B n g_79 hs_70) ⟨ml_X10_267, ym_X10_goOn, yv_X10_goOn, yi_X10_goOn, yc_X10_goOn⟩ yd_X10_goOn ob_60 (by decide) rfl rfl hl.1 (Nat.le_of_ble_eq_true rfl) ⟨by simp only [ti_rm]; omega, by simp only [ti_rm]; omega⟩ ⟨Nat.zero_le _, Nat.zero_le _⟩ dX10_product_32 (fun M_83 H locs hp_83 hw => ?_)
        obtain ⟨hs_84, hp_85⟩ := hp_83
        obtain ⟨iM_83, q_86, z_87, z_88, z_89, z_90, z_91⟩ := l_go hp_85
        clear hp_85
        obtain ⟨g_92, eg_92⟩ : ∃ z : Nat → Int, z = pp_go B n g_79 := ⟨_, rfl⟩
        rw [← eg_92] at hs_84
        have te_93 : qE a (d + 1) lj d_28 M_83 := qE_fr te_80 q_86.1 (by omega)
        have vs_94 : vs M_83 := (fun q9 => vs_av hs_84 (by rw [eg_92]; unfold pp_go; rw [if_pos (rQ_g0 hs_70 (ff_1 (ff_q (by omega) q9)))]; exact av_v) q9)
        refine lv_aload_n hx hb dX10_product_35 rfl (lv_at hl 1 rfl) ?_
        refine ti_callVvE (ci := 10) (av := []) C hE hw (x_X10_primary l D A cy hJ M_83 iM_83 j a (d + 1) (by omega) (us_q (x := 21) (y := 30) j_31 (pr.trans (pr_w q_86 (by decide) (by decide)) (pr_w q_72 (by decide) (by decide))) (by omega)) (by omega) (by omega) (by omega) B n g_92 hs_84 lj hlj d_28 te_93 vs_94 ih) ⟨ml_X10_294, ym_X10_primary, yv_X10_primary, yi_X10_primary, yc_X10_primary⟩ yd_X10_primary ob_60 (by decide) rfl rfl hl.1 (Nat.le_of_ble_eq_true rfl) ⟨by simp only [ti_rm]; omega, by simp only [ti_rm]; omega⟩ ⟨Nat.zero_le _, Nat.zero_le _⟩ dX10_product_36 (fun M_96 H locs hp_96 hw => ?_)
        obtain ⟨te_99, vs_100, hs_97, hp_98⟩ := hp_96
        obtain ⟨iM_96, q_101, p_102, p_103, p_104, p_105, p_106, p_107, p_108, p_109, p_110, p_111, p_112, p_113, p_114, u_115⟩ := hp_98
        obtain ⟨g_116, eg_116⟩ : ∃ z : Nat → Int, z = pp_pt B n j g_92 := ⟨_, rfl⟩
        rw [← eg_116] at hs_97
        obtain ⟨d_117, ed_117⟩ : ∃ z : Nat → Int, z = qq_pt B n lj j g_92 d_28 := ⟨_, rfl⟩
        rw [← ed_117] at te_99
        refine lv_aload_n hx hb dX10_product_39 rfl (lv_at hl 1 rfl) ?_
        refine lv_iconst (v := 2) hx hb dX10_product_40 (by decide) ?_
        refine lv_iload_n hx hb dX10_product_41 rfl (lv_at hl 0 rfl) ?_
        refine ti_callVv (ci := 10) (av := [.int 2, .int x_66]) C hw (x_X10_puts l D A cy hJ M_96 iM_96 a (d + 1 + 1) (d + 1) 2 x_66 u_115 (nL (by omega)) (by first | exact Or.inr (Or.inr (Or.inl ⟨by decide, by omega, rfl⟩)) | exact nF (by omega))) ⟨ml_X10_282, ym_X10_puts, yv_X10_puts, yi_X10_puts, yc_X10_puts⟩ yd_X10_puts ob_60 (by decide) rfl rfl hl.1 (Nat.le_of_ble_eq_true rfl) ⟨by simp only [ti_rm]; omega, by simp only [ti_rm]; omega⟩ ⟨Nat.zero_le _, Nat.zero_le _⟩ dX10_product_42 (fun M_119 H locs hp_119 hw => ?_)
        have piM_119 := (hp_119).2.2.2.2.1
        obtain ⟨puM_119, hqM_119⟩ := hp_119
        have hs_120 := rQ_pe hs_97 hqM_119.2.1 hqM_119.2.2.2.1
        obtain ⟨iM_119, q_121, u_122, z_123, z_124, z_125, z_126, z_127, z_128⟩ := l_pu iM_96 hqM_119
        clear hqM_119
        have te_130 : qE a (d + 1) lj (qa lj (-(bq_sc x_66.toInt)) d_117) M_119 := qE_pu hlj te_99 puM_119 (fun q9 => by have q8 := ff_1 q9; exact ⟨by unfold bq_kc; rw [if_pos (by decide)], fun q => absurd q (by decide)⟩) (fun q9 => by have q8 := ff_1 q9; exact Or.inr (Or.inl ⟨by decide, (by have h9 := of_decide_eq_true j_65; have T9 := rQ_T hs_27 (by omega); have w9 := T9.2.2.2.2.2.2 (by omega); have s9 := sg_260 (k := g_26 0) (by omega) T9.1.2; omega), by omega, rfl⟩))
        obtain ⟨d_129, ed_129⟩ : ∃ z : Nat → Int, z = qa lj (-(bq_sc x_66.toInt)) d_117 := ⟨_, rfl⟩
        rw [← ed_129] at te_130
        have vs_131 : vs M_119 := fun q9 q8 => by rw [piM_119 23 (by decide)] at q8; rw [piM_119 24 (by decide)]; exact vs_100 (by rw [← puM_119.1]; exact q9) q8
        refine lv_goto (tgt := 4) hx hb dX10_product_45 (by decide) ?_
        exact ih_48 M_119 g_116 d_129 _ _ _ (by omega) iM_119 (pe.trans q_121 (pe.trans q_101 (pe.trans (pe_pr q_86 (by decide) (by decide)) (pe.trans (pe_pr q_72 (by decide) (by decide)) f_25)))) hs_120 te_130 vs_131 u_122 (j_32.trans (lp_nx (P := pp_qT) (G := fun s => pp_pt B n j (pp_kn B n s)) (s := g_26) (by decide) (gr_kn (gr_pt j)) 63 j_65 (by rw [eg_116, eg_92, eg_79, kn_kg (rQ_g0 hs_27 (by omega))]) (by omega) (by omega))) (j_33.trans (qlp_nx (P := pp_qT) (F := fun s => pp_pt B n j (pp_kn B n s)) (G := fun s td => qa lj (-(s 0)) (qq_pt B n lj j (pp_kn B n s) td)) (s := g_26) (by decide) (gr_kn (gr_pt j)) 63 j_65 (by rw [eg_116, eg_92, eg_79, kn_kg (rQ_g0 hs_27 (by omega))]) (by rw [ed_129, ed_117, eg_92, eg_79, show -(bq_sc x_66.toInt) = -(g_26 0) from (by have k9 : 32 ≤ g_26 0 := (by have h9 := of_decide_eq_true j_65; omega); have T8 := rQ_T hs_27 (by omega); have T9 := T8.2.2.2.2.2.2 (by omega); have T7 := T8.1; have s9 := sc_sg (g_26 0 - 29).toNat (by omega) (by omega); rw [show (29 : Int) + (((g_26 0 - 29).toNat : Nat) : Int) = g_26 0 by omega] at s9; rw [show x_66.toInt = pt_sg (g_26 0) by omega, s9]), kn_kg (rQ_g0 hs_27 (by omega))]) (by omega) (by omega))) (by rw [eg_116]; exact rQ_gr (gr_pt j) hs_84 iM_83) (by first | omega | decide) (by first | omega | decide) (by first | omega | decide) (by first | omega | decide) (by first | omega | decide) (by first | omega | decide) (by first | omega | decide) (by first | omega | decide) (by first | omega | decide) (by first | omega | decide) (by first | omega | decide) (by first | omega | decide) (by first | omega | decide) hw (lv_sub hl [1] rfl)
      rcases hz with ⟨rfl, d0_51, d1_51, d2_51⟩ | ⟨rfl, d3_51⟩
      · have dk_51 := rQ_s1 (k := 40) hs_27 d0_51 d1_51 d2_51 (by decide)
        have z_52 : ff M_24 = 1 := ff_1 d0_51
        have z_53 : pg M_24 = 2 * (tI M_24 60 21).toInt := pg_3 (by rw [d1_51]; decide)
        clear d0_51 d1_51 d2_51
        refine sb_if_ne (tgt := 22) hx hb (by decide : (1 : Int32).toInt = 1) dX10_product_10 (by decide) (fun c_10_53 => ?_) (fun h => absurd h (by decide))
        exact hj_22_65  _ _ _ (by first | omega | decide) (by first | omega | decide) (show pp_qT (g_26 0) = true from decide_eq_true (by omega)) hw (lv_sub hl [0] rfl)
      · have dk_51 := rQ_s0 (k := 40) hs_27 d3_51 (by decide) (by decide)
        clear d3_51
        refine sb_if_ne (tgt := 22) hx hb (by decide : (0 : Int32).toInt = 0) dX10_product_10 (by decide) (fun h => absurd h (by decide)) (fun c_10_54 => ?_)
        refine lv_aload_n hx hb dX10_product_13 rfl (lv_at hl 0 rfl) ?_
        refine lv_bipush (v := 47) hx hb dX10_product_14 (by decide) ?_
        refine ti_callVi (ci := 10) (av := [.int 47]) C hw (x_X10_isSign l D A cy hJ M_24 iM_24 47) ⟨ml_X10_251, ym_X10_isSign, yv_X10_isSign, yi_X10_isSign, yc_X10_isSign⟩ yd_X10_isSign ob_60 (by decide) rfl rfl hl.1 (Nat.le_of_ble_eq_true rfl) ⟨by simp only [ti_rm]; omega, by simp only [ti_rm]; omega⟩ ⟨Nat.zero_le _, Nat.zero_le _⟩ dX10_product_16 (fun r_56 M_57 H locs hp_57 hw => ?_)
        obtain ⟨hm, hz⟩ := hp_57
        have hw := hw.to hm
        rcases hz with ⟨rfl, d0_58, d1_58, d2_58⟩ | ⟨rfl, d3_58⟩
        · have dk_58 := rQ_s1 (k := 41) hs_27 d0_58 d1_58 d2_58 (by decide)
          have z_59 : ff M_24 = 1 := ff_1 d0_58
          have z_60 : pg M_24 = 2 * (tI M_24 60 21).toInt := pg_3 (by rw [d1_58]; decide)
          clear d0_58 d1_58 d2_58
          refine sb_if_eq (tgt := 48) hx hb (by decide : (1 : Int32).toInt = 1) dX10_product_19 (by decide) (fun h => absurd h (by decide)) (fun c_19_60 => ?_)
          exact hj_22_65  _ _ _ (by first | omega | decide) (by first | omega | decide) (show pp_qT (g_26 0) = true from decide_eq_true (by omega)) hw (lv_sub hl [0] rfl)
        · have dk_58 := rQ_s0 (k := 41) hs_27 d3_58 (by decide) (by decide)
          clear d3_58
          refine sb_if_eq (tgt := 48) hx hb (by decide : (0 : Int32).toInt = 0) dX10_product_19 (by decide) (fun c_19_61 => ?_) (fun h => absurd h (by decide))
          exact hQ _ _ _ _ _ hw (⟨(by rw [j_33, qlp_end (P := pp_qT) (f := 64) (s := g_26) (Or.inr (decide_eq_false (by omega)))]; exact te_29), vs_30, (by rw [j_32, lp_end (P := pp_qT) (f := 64) (s := g_26) (Or.inr (decide_eq_false (by omega)))]; exact hs_27), iM_24, f_25, (by omega), (by omega), (by omega), (by omega), (by omega), (by omega), (by omega), (by omega), (by omega), (by omega), (by omega), (by omega), (by omega), j_31⟩) dX10_product_48
  exact hl_4_47 ((64 - (tI M_2 60 30).toInt + ff M_2 : Int).toNat + 1) M_2 g_22 d_23 _ _ _ (Nat.lt_succ_self _) iM_2 q_7 hs_3 te_5 vs_6 u_21 (by unfold pp_pd; rw [← eg_22]) (by unfold qq_pd; rw [← eg_22, ← ed_23]) (by rw [eg_22]; exact rQ_gr (gr_pt j) hr hI) (by first | omega | decide) (by first | omega | decide) (by first | omega | decide) (by first | omega | decide) (by first | omega | decide) (by first | omega | decide) (by first | omega | decide) (by first | omega | decide) (by first | omega | decide) (by first | omega | decide) (by first | omega | decide) (by first | omega | decide) (by first | omega | decide) hw (lv_sub hl [0] rfl)
set_option maxHeartbeats 4000000 in
set_option maxRecDepth 100000 in
theorem x_X10_sum (l : Launch) (D : va_G) (A : Nat → Nat → Nat) (cy : Nat → ClassId) (hJ : ti_inj ti_LM A) (M : ti_M) (hI : mI Tm M) (j a d : Nat) (hj : j ≤ 8) (hu : us M a d) (hc : (tY M 60 3 18).toInt ≤ (tI M 60 30).toInt + 64 - 64 * ff M) (ho : (tI M 60 29).toInt + j ≤ 16 - 8 * ff M) (ho2 : 8 * ff M ≤ (tI M 60 29).toInt + j) (B : Nat → Int) (n : Nat) (rg : Nat → Int) (hr : rQ B n rg M) (lj : Nat) (hlj : lj < 3) (td : Nat → Int) (he : qE a d lj td M) (hvs : vs M) (ih : ∀ i : Nat, i < j → ∀ (l : Launch) (D : va_G) (A : Nat → Nat → Nat) (cy : Nat → ClassId) (hJ : ti_inj ti_LM A) (M : ti_M) (hI : mI Tm M) (a d : Nat) (hj : i ≤ 8) (hu : us M a d) (hc : (tY M 60 3 18).toInt ≤ (tI M 60 30).toInt + 64 - 64 * ff M) (ho : (tI M 60 29).toInt + i ≤ 16 - 8 * ff M) (ho2 : 8 * ff M ≤ (tI M 60 29).toInt + i) (B : Nat → Int) (n : Nat) (rg : Nat → Int) (hr : rQ B n rg M) (lj : Nat) (hlj : lj < 3) (td : Nat → Int) (he : qE a d lj td M) (hvs : vs M), ti_KvE l yX10_expression cX10_expression 1 (78 + 71 * i) ti_LM D A cy M [.ref (A 60 0)] (fun M2 => qE a (d + 1) lj (qq_ei B n lj (pp_pt B n i) (qq_pt B n lj i) rg td) M2 ∧ vs M2 ∧ rQ B n (pp_ei B n (pp_pt B n i) rg) M2 ∧ mI Tm M2 ∧ pe M2 M ∧ (pg M ≤ pg M2) ∧ (0 ≤ ff M2) ∧ (ff M2 ≤ ff M) ∧ ((tI M 60 30).toInt ≤ (tI M2 60 30).toInt) ∧ ((tI M2 60 30).toInt ≤ 64) ∧ ((tI M2 60 29).toInt ≤ (tI M 60 29).toInt + 8 - 8 * ff M2) ∧ ((tI M 60 29).toInt ≤ (tI M2 60 29).toInt + 8 - 8 * ff M2) ∧ ((tI M2 60 30).toInt - (tY M2 60 3 18).toInt ≤ (tI M 60 30).toInt - (tY M 60 3 18).toInt + 200 - 200 * ff M2) ∧ ((tI M 60 30).toInt - (tY M 60 3 18).toInt ≤ (tI M2 60 30).toInt - (tY M2 60 3 18).toInt + 200 - 200 * ff M2) ∧ (0 ≤ (tY M2 60 3 18).toInt) ∧ ((tY M2 60 3 18).toInt ≤ 64) ∧ (0 ≤ (tI M2 60 29).toInt) ∧ ((tI M2 60 29).toInt ≤ 8) ∧ us M2 a (d + 1))) : ti_KvE l yX10_sum cX10_sum 2 (10 + 71 * j) ti_LM D A cy M [.ref (A 60 0)] (fun M2 => qE a (d + 1) lj (qq_sm B n lj (pp_pt B n j) (qq_pt B n lj j) rg td) M2 ∧ vs M2 ∧ rQ B n (pp_sm B n (pp_pt B n j) rg) M2 ∧ mI Tm M2 ∧ pe M2 M ∧ (pg M ≤ pg M2) ∧ (0 ≤ ff M2) ∧ (ff M2 ≤ ff M) ∧ ((tI M 60 30).toInt ≤ (tI M2 60 30).toInt) ∧ ((tI M2 60 30).toInt ≤ 64) ∧ ((tI M2 60 29).toInt ≤ (tI M 60 29).toInt + 8 - 8 * ff M2) ∧ ((tI M 60 29).toInt ≤ (tI M2 60 29).toInt + 8 - 8 * ff M2) ∧ ((tI M2 60 30).toInt - (tY M2 60 3 18).toInt ≤ (tI M 60 30).toInt - (tY M 60 3 18).toInt + 200 - 200 * ff M2) ∧ ((tI M 60 30).toInt - (tY M 60 3 18).toInt ≤ (tI M2 60 30).toInt - (tY M2 60 3 18).toInt + 200 - 200 * ff M2) ∧ (0 ≤ (tY M2 60 3 18).toInt) ∧ ((tY M2 60 3 18).toInt ≤ 64) ∧ (0 ≤ (tI M2 60 29).toInt) ∧ ((tI M2 60 29).toInt ≤ 8) ∧ us M2 a (d + 1)) := by
  refine ti_eVE yp_X10_sum hJ ti_LM_nd (Nat.le_of_ble_eq_true rfl) ?_
  intro p e s m args below meth c Q H0 C hE hQ hw ls hl
  have hx := C.1
  have hb := C.2.1
  have hl : lv_has ls 2 [(0, .ref (A 60 0))] := hl
  have hI30 := b30 hI
  have hI29 := b29 hI
  have hI18 := b18 hI
  have hIff := ff_b M
  refine lv_aload_n hx hb dX10_sum_0 rfl (lv_at hl 0 rfl) ?_
  refine ti_callVvE (ci := 10) (av := []) C hE hw (x_X10_product l D A cy hJ M hI j a (d) (by omega) hu (by omega) (by omega) (by omega) B n rg hr lj hlj td he hvs ih) ⟨ml_X10_291, ym_X10_product, yv_X10_product, yi_X10_product, yc_X10_product⟩ yd_X10_product ob_60 (by decide) rfl rfl hl.1 (Nat.le_of_ble_eq_true rfl) ⟨by simp only [ti_rm]; omega, by simp only [ti_rm]; omega⟩ ⟨Nat.zero_le _, Nat.zero_le _⟩ dX10_sum_1 (fun M_2 H locs hp_2 hw => ?_)
  obtain ⟨te_5, vs_6, hs_3, hp_4⟩ := hp_2
  obtain ⟨iM_2, q_7, p_8, p_9, p_10, p_11, p_12, p_13, p_14, p_15, p_16, p_17, p_18, p_19, p_20, u_21⟩ := hp_4
  obtain ⟨g_22, eg_22⟩ : ∃ z : Nat → Int, z = pp_pd B n (pp_pt B n j) rg := ⟨_, rfl⟩
  rw [← eg_22] at hs_3
  obtain ⟨d_23, ed_23⟩ : ∃ z : Nat → Int, z = qq_pd B n lj (pp_pt B n j) (qq_pt B n lj j) rg td := ⟨_, rfl⟩
  rw [← ed_23] at te_5
  have hl_4_47 : ∀ (n_48 : Nat) (M_24 : ti_M) (g_26 : Nat → Int) (d_28 : Nat → Int) (H : Heap) (locs : List Loc) (ls : Array Slot), (64 - (tI M_24 60 30).toInt + ff M_24 : Int).toNat < n_48 → (mI Tm M_24) → (pe M_24 M) → (rQ B n g_26 M_24) → (qE a (d + 1) lj d_28 M_24) → (vs M_24) → (us M_24 a (d + 1)) → (pp_sm B n (pp_pt B n j) rg = pp_lp pp_qP (fun s => pp_pd B n (pp_pt B n j) (pp_kn B n s)) 64 g_26) → (qq_sm B n lj (pp_pt B n j) (qq_pt B n lj j) rg td = qq_lp pp_qP (fun s => pp_pd B n (pp_pt B n j) (pp_kn B n s)) (fun s td => qa lj (-(s 0)) (qq_pd B n lj (pp_pt B n j) (qq_pt B n lj j) (pp_kn B n s) td)) 64 g_26 d_28) → (g_26 0 = 28 ∨ (1 ≤ g_26 8 ∧ g_26 8 ≤ 64)) → (pg M ≤ pg M_24) → (0 ≤ ff M_24) → (ff M_24 ≤ ff M) → ((tI M 60 30).toInt ≤ (tI M_24 60 30).toInt) → ((tI M_24 60 30).toInt ≤ 64) → ((tI M_24 60 29).toInt ≤ (tI M 60 29).toInt + 8 - 8 * ff M_24) → ((tI M 60 29).toInt ≤ (tI M_24 60 29).toInt + 8 - 8 * ff M_24) → ((tI M_24 60 30).toInt - (tY M_24 60 3 18).toInt ≤ (tI M 60 30).toInt - (tY M 60 3 18).toInt + 200 - 200 * ff M_24) → ((tI M 60 30).toInt - (tY M 60 3 18).toInt ≤ (tI M_24 60 30).toInt - (tY M_24 60 3 18).toInt + 200 - 200 * ff M_24) → (0 ≤ (tY M_24 60 3 18).toInt) → ((tY M_24 60 3 18).toInt ≤ 64) → (0 ≤ (tI M_24 60 29).toInt) → ((tI M_24 60 29).toInt ≤ 8) → ti_H ti_LM D A cy H0 M_24 H locs → lv_has ls 2 [(0, .ref (A 60 0))] → W p l e (ti_rm (10 + 71 * j)) s m args below meth c H locs 0 0 Q (F0 m 4 ls []) := by
    intro n_48
    induction n_48 with
    | zero => intro M_24 g_26 d_28 H locs ls hf_48; exact absurd hf_48 (Nat.not_lt_zero _)
    | succ n_48 ih_48 =>
      intro M_24 g_26 d_28 H locs ls hf_48 iM_24 f_25 hs_27 te_29 vs_30 j_31 j_32 j_33 j_34 j_35 j_36 j_37 j_38 j_39 j_40 j_41 j_42 j_43 j_44 j_45 j_46 j_47 hw hl
      refine lv_aload_n hx hb dX10_sum_4 rfl (lv_at hl 0 rfl) ?_
      refine lv_bipush (v := 43) hx hb dX10_sum_5 (by decide) ?_
      refine ti_callVi (ci := 10) (av := [.int 43]) C hw (x_X10_isSign l D A cy hJ M_24 iM_24 43) ⟨ml_X10_251, ym_X10_isSign, yv_X10_isSign, yi_X10_isSign, yc_X10_isSign⟩ yd_X10_isSign ob_60 (by decide) rfl rfl hl.1 (Nat.le_of_ble_eq_true rfl) ⟨by simp only [ti_rm]; omega, by simp only [ti_rm]; omega⟩ ⟨Nat.zero_le _, Nat.zero_le _⟩ dX10_sum_7 (fun r_49 M_50 H locs hp_50 hw => ?_)
      obtain ⟨hm, hz⟩ := hp_50
      have hw := hw.to hm
      have hj_22_65 : ∀  (H : Heap) (locs : List Loc) (ls : Array Slot), (ff M_24 = 1) → (g_26 0 ≠ 28) → (pp_qP (g_26 0) = true) → ti_H ti_LM D A cy H0 M_24 H locs → lv_has ls 2 [(0, .ref (A 60 0))] → W p l e (ti_rm (10 + 71 * j)) s m args below meth c H locs 0 0 Q (F0 m 22 ls []) := by
        intro  H locs ls j_63 j_64 j_65 hw hl
        refine lv_aload_n hx hb dX10_sum_22 rfl (lv_at hl 0 rfl) ?_
        refine ti_get (ci := 10) (k := 24) (N := 67) (T := TX10) C hw iw_10 rfl ob_60 (by decide) (by decide) fl_X10_183 rfl rfl dX10_sum_23 ?_
        refine lv_topi (fun x_66 ex_66 => ?_)
        have uqu_67 : (tI M_24 60 24).toInt = x_66.toInt := by rw [(ex_66.symm)]
        refine lv_istore_n (lv' := [(1, .int x_66), (0, .ref (A 60 0))]) hx hb dX10_sum_26 rfl hl (by decide) rfl (fun ls hl => ?_)
        refine lv_aload_n hx hb dX10_sum_27 rfl (lv_at hl 1 rfl) ?_
        refine ti_callVv (ci := 10) (av := []) C hw (x_X10_knot l D A cy hJ M_24 iM_24  B n g_26 hs_27) ⟨ml_X10_279, ym_X10_knot, yv_X10_knot, yi_X10_knot, yc_X10_knot⟩ yd_X10_knot ob_60 (by decide) rfl rfl hl.1 (Nat.le_of_ble_eq_true rfl) ⟨by simp only [ti_rm]; omega, by simp only [ti_rm]; omega⟩ ⟨Nat.zero_le _, Nat.zero_le _⟩ dX10_sum_28 (fun M_69 H locs hp_69 hw => ?_)
        obtain ⟨hs_70, hp_71⟩ := hp_69
        obtain ⟨iM_69, q_72, z_73, z_74, z_75, z_76, z_77, z_78⟩ := l_kn hp_71
        clear hp_71
        obtain ⟨g_79, eg_79⟩ : ∃ z : Nat → Int, z = pp_k1 g_26 := ⟨_, rfl⟩
        rw [← eg_79] at hs_70
        have te_80 : qE a (d + 1) lj d_28 M_69 := qE_fr te_29 q_72.1 (by omega)
        have vs_81 : vs M_69 := vs_fr vs_30 (by omega) (q_72.2 23 (by decide)) (q_72.2 24 (by decide))
        refine lv_aload_n hx hb dX10_sum_31 rfl (lv_at hl 1 rfl) ?_
        refine ti_callVvE (ci := 10) (av := []) C hE hw (x_X10_goOn l D A cy hJ M_69 iM_69  B n g_79 hs_70) ⟨ml_X10_267, ym_X10_goOn, yv_X10_goOn, yi_X10_goOn, yc_X10_goOn⟩ yd_X10_goOn ob_60 (by decide) rfl rfl hl.1 (Nat.le_of_ble_eq_true rfl) ⟨by simp only [ti_rm]; omega, by simp only [ti_rm]; omega⟩ ⟨Nat.zero_le _, Nat.zero_le _⟩ dX10_sum_32 (fun M_83 H locs hp_83 hw => ?_)
        obtain ⟨hs_84, hp_85⟩ := hp_83
        obtain ⟨iM_83, q_86, z_87, z_88, z_89, z_90, z_91⟩ := l_go hp_85
        clear hp_85
        obtain ⟨g_92, eg_92⟩ : ∃ z : Nat → Int, z = pp_go B n g_79 := ⟨_, rfl⟩
        rw [← eg_92] at hs_84
        have te_93 : qE a (d + 1) lj d_28 M_83 := qE_fr te_80 q_86.1 (by omega)
        have vs_94 : vs M_83 := (fun q9 => vs_av hs_84 (by rw [eg_92]; unfold pp_go; rw [if_pos (rQ_g0 hs_70 (ff_1 (ff_q (by omega) q9)))]; exact av_v) q9)
        refine lv_aload_n hx hb dX10_sum_35 rfl (lv_at hl 1 rfl) ?_
        refine ti_callVvE (ci := 10) (av := []) C hE hw (x_X10_product l D A cy hJ M_83 iM_83 j a (d + 1) (by omega) (us_q (x := 21) (y := 30) j_31 (pr.trans (pr_w q_86 (by decide) (by decide)) (pr_w q_72 (by decide) (by decide))) (by omega)) (by omega) (by omega) (by omega) B n g_92 hs_84 lj hlj d_28 te_93 vs_94 ih) ⟨ml_X10_291, ym_X10_product, yv_X10_product, yi_X10_product, yc_X10_product⟩ yd_X10_product ob_60 (by decide) rfl rfl hl.1 (Nat.le_of_ble_eq_true rfl) ⟨by simp only [ti_rm]; omega, by simp only [ti_rm]; omega⟩ ⟨Nat.zero_le _, Nat.zero_le _⟩ dX10_sum_36 (fun M_96 H locs hp_96 hw => ?_)
        obtain ⟨te_99, vs_100, hs_97, hp_98⟩ := hp_96
        obtain ⟨iM_96, q_101, p_102, p_103, p_104, p_105, p_106, p_107, p_108, p_109, p_110, p_111, p_112, p_113, p_114, u_115⟩ := hp_98
        obtain ⟨g_116, eg_116⟩ : ∃ z : Nat → Int, z = pp_pd B n (pp_pt B n j) g_92 := ⟨_, rfl⟩
        rw [← eg_116] at hs_97
        obtain ⟨d_117, ed_117⟩ : ∃ z : Nat → Int, z = qq_pd B n lj (pp_pt B n j) (qq_pt B n lj j) g_92 d_28 := ⟨_, rfl⟩
        rw [← ed_117] at te_99
        refine lv_aload_n hx hb dX10_sum_39 rfl (lv_at hl 1 rfl) ?_
        refine lv_iconst (v := 2) hx hb dX10_sum_40 (by decide) ?_
        refine lv_iload_n hx hb dX10_sum_41 rfl (lv_at hl 0 rfl) ?_
        refine ti_callVv (ci := 10) (av := [.int 2, .int x_66]) C hw (x_X10_puts l D A cy hJ M_96 iM_96 a (d + 1 + 1) (d + 1) 2 x_66 u_115 (nL (by omega)) (by first | exact Or.inr (Or.inr (Or.inl ⟨by decide, by omega, rfl⟩)) | exact nF (by omega))) ⟨ml_X10_282, ym_X10_puts, yv_X10_puts, yi_X10_puts, yc_X10_puts⟩ yd_X10_puts ob_60 (by decide) rfl rfl hl.1 (Nat.le_of_ble_eq_true rfl) ⟨by simp only [ti_rm]; omega, by simp only [ti_rm]; omega⟩ ⟨Nat.zero_le _, Nat.zero_le _⟩ dX10_sum_42 (fun M_119 H locs hp_119 hw => ?_)
        have piM_119 := (hp_119).2.2.2.2.1
        obtain ⟨puM_119, hqM_119⟩ := hp_119
        have hs_120 := rQ_pe hs_97 hqM_119.2.1 hqM_119.2.2.2.1
        obtain ⟨iM_119, q_121, u_122, z_123, z_124, z_125, z_126, z_127, z_128⟩ := l_pu iM_96 hqM_119
        clear hqM_119
        have te_130 : qE a (d + 1) lj (qa lj (-(bq_sc x_66.toInt)) d_117) M_119 := qE_pu hlj te_99 puM_119 (fun q9 => by have q8 := ff_1 q9; exact ⟨by unfold bq_kc; rw [if_pos (by decide)], fun q => absurd q (by decide)⟩) (fun q9 => by have q8 := ff_1 q9; exact Or.inr (Or.inl ⟨by decide, (by have h9 := of_decide_eq_true j_65; have T9 := rQ_T hs_27 (by omega); have w9 := T9.2.2.2.2.2.2 (by omega); have s9 := sg_260 (k := g_26 0) (by omega) T9.1.2; omega), by omega, rfl⟩))
        obtain ⟨d_129, ed_129⟩ : ∃ z : Nat → Int, z = qa lj (-(bq_sc x_66.toInt)) d_117 := ⟨_, rfl⟩
        rw [← ed_129] at te_130
        have vs_131 : vs M_119 := fun q9 q8 => by rw [piM_119 23 (by decide)] at q8; rw [piM_119 24 (by decide)]; exact vs_100 (by rw [← puM_119.1]; exact q9) q8
        refine lv_goto (tgt := 4) hx hb dX10_sum_45 (by decide) ?_
        exact ih_48 M_119 g_116 d_129 _ _ _ (by omega) iM_119 (pe.trans q_121 (pe.trans q_101 (pe.trans (pe_pr q_86 (by decide) (by decide)) (pe.trans (pe_pr q_72 (by decide) (by decide)) f_25)))) hs_120 te_130 vs_131 u_122 (j_32.trans (lp_nx (P := pp_qP) (G := fun s => pp_pd B n (pp_pt B n j) (pp_kn B n s)) (s := g_26) (by decide) (gr_kn (gr_pd (gr_pt j))) 63 j_65 (by rw [eg_116, eg_92, eg_79, kn_kg (rQ_g0 hs_27 (by omega))]) (by omega) (by omega))) (j_33.trans (qlp_nx (P := pp_qP) (F := fun s => pp_pd B n (pp_pt B n j) (pp_kn B n s)) (G := fun s td => qa lj (-(s 0)) (qq_pd B n lj (pp_pt B n j) (qq_pt B n lj j) (pp_kn B n s) td)) (s := g_26) (by decide) (gr_kn (gr_pd (gr_pt j))) 63 j_65 (by rw [eg_116, eg_92, eg_79, kn_kg (rQ_g0 hs_27 (by omega))]) (by rw [ed_129, ed_117, eg_92, eg_79, show -(bq_sc x_66.toInt) = -(g_26 0) from (by have k9 : 32 ≤ g_26 0 := (by have h9 := of_decide_eq_true j_65; omega); have T8 := rQ_T hs_27 (by omega); have T9 := T8.2.2.2.2.2.2 (by omega); have T7 := T8.1; have s9 := sc_sg (g_26 0 - 29).toNat (by omega) (by omega); rw [show (29 : Int) + (((g_26 0 - 29).toNat : Nat) : Int) = g_26 0 by omega] at s9; rw [show x_66.toInt = pt_sg (g_26 0) by omega, s9]), kn_kg (rQ_g0 hs_27 (by omega))]) (by omega) (by omega))) (by rw [eg_116]; exact rQ_gr (gr_pd (gr_pt j)) hs_84 iM_83) (by first | omega | decide) (by first | omega | decide) (by first | omega | decide) (by first | omega | decide) (by first | omega | decide) (by first | omega | decide) (by first | omega | decide) (by first | omega | decide) (by first | omega | decide) (by first | omega | decide) (by first | omega | decide) (by first | omega | decide) (by first | omega | decide) hw (lv_sub hl [1] rfl)
      rcases hz with ⟨rfl, d0_51, d1_51, d2_51⟩ | ⟨rfl, d3_51⟩
      · have dk_51 := rQ_s1 (k := 38) hs_27 d0_51 d1_51 d2_51 (by decide)
        have z_52 : ff M_24 = 1 := ff_1 d0_51
        have z_53 : pg M_24 = 2 * (tI M_24 60 21).toInt := pg_3 (by rw [d1_51]; decide)
        clear d0_51 d1_51 d2_51
        refine sb_if_ne (tgt := 22) hx hb (by decide : (1 : Int32).toInt = 1) dX10_sum_10 (by decide) (fun c_10_53 => ?_) (fun h => absurd h (by decide))
        exact hj_22_65  _ _ _ (by first | omega | decide) (by first | omega | decide) (show pp_qP (g_26 0) = true from decide_eq_true (by omega)) hw (lv_sub hl [0] rfl)
      · have dk_51 := rQ_s0 (k := 38) hs_27 d3_51 (by decide) (by decide)
        clear d3_51
        refine sb_if_ne (tgt := 22) hx hb (by decide : (0 : Int32).toInt = 0) dX10_sum_10 (by decide) (fun h => absurd h (by decide)) (fun c_10_54 => ?_)
        refine lv_aload_n hx hb dX10_sum_13 rfl (lv_at hl 0 rfl) ?_
        refine lv_bipush (v := 45) hx hb dX10_sum_14 (by decide) ?_
        refine ti_callVi (ci := 10) (av := [.int 45]) C hw (x_X10_isSign l D A cy hJ M_24 iM_24 45) ⟨ml_X10_251, ym_X10_isSign, yv_X10_isSign, yi_X10_isSign, yc_X10_isSign⟩ yd_X10_isSign ob_60 (by decide) rfl rfl hl.1 (Nat.le_of_ble_eq_true rfl) ⟨by simp only [ti_rm]; omega, by simp only [ti_rm]; omega⟩ ⟨Nat.zero_le _, Nat.zero_le _⟩ dX10_sum_16 (fun r_56 M_57 H locs hp_57 hw => ?_)
        obtain ⟨hm, hz⟩ := hp_57
        have hw := hw.to hm
        rcases hz with ⟨rfl, d0_58, d1_58, d2_58⟩ | ⟨rfl, d3_58⟩
        · have dk_58 := rQ_s1 (k := 39) hs_27 d0_58 d1_58 d2_58 (by decide)
          have z_59 : ff M_24 = 1 := ff_1 d0_58
          have z_60 : pg M_24 = 2 * (tI M_24 60 21).toInt := pg_3 (by rw [d1_58]; decide)
          clear d0_58 d1_58 d2_58
          refine sb_if_eq (tgt := 48) hx hb (by decide : (1 : Int32).toInt = 1) dX10_sum_19 (by decide) (fun h => absurd h (by decide)) (fun c_19_60 => ?_)
          exact hj_22_65  _ _ _ (by first | omega | decide) (by first | omega | decide) (show pp_qP (g_26 0) = true from decide_eq_true (by omega)) hw (lv_sub hl [0] rfl)
        · have dk_58 := rQ_s0 (k := 39) hs_27 d3_58 (by decide) (by decide)
          clear d3_58
          refine sb_if_eq (tgt := 48) hx hb (by decide : (0 : Int32).toInt = 0) dX10_sum_19 (by decide) (fun c_19_61 => ?_) (fun h => absurd h (by decide))
          exact hQ _ _ _ _ _ hw (⟨(by rw [j_33, qlp_end (P := pp_qP) (f := 64) (s := g_26) (Or.inr (decide_eq_false (by omega)))]; exact te_29), vs_30, (by rw [j_32, lp_end (P := pp_qP) (f := 64) (s := g_26) (Or.inr (decide_eq_false (by omega)))]; exact hs_27), iM_24, f_25, (by omega), (by omega), (by omega), (by omega), (by omega), (by omega), (by omega), (by omega), (by omega), (by omega), (by omega), (by omega), (by omega), j_31⟩) dX10_sum_48
  exact hl_4_47 ((64 - (tI M_2 60 30).toInt + ff M_2 : Int).toNat + 1) M_2 g_22 d_23 _ _ _ (Nat.lt_succ_self _) iM_2 q_7 hs_3 te_5 vs_6 u_21 (by unfold pp_sm; rw [← eg_22]) (by unfold qq_sm; rw [← eg_22, ← ed_23]) (by rw [eg_22]; exact rQ_gr (gr_pd (gr_pt j)) hr hI) (by first | omega | decide) (by first | omega | decide) (by first | omega | decide) (by first | omega | decide) (by first | omega | decide) (by first | omega | decide) (by first | omega | decide) (by first | omega | decide) (by first | omega | decide) (by first | omega | decide) (by first | omega | decide) (by first | omega | decide) (by first | omega | decide) hw (lv_sub hl [0] rfl)
end
section
variable {Tc : gC} {Tm : gM}
set_option maxHeartbeats 4000000 in
set_option maxRecDepth 100000 in
theorem x_X10_negation_s (l : Launch) (D : va_G) (A : Nat → Nat → Nat) (cy : Nat → ClassId) (hJ : ti_inj ti_LM A) (M : ti_M) (hI : mI Tm M) (j a d : Nat) (hj : j ≤ 8) (hu : us M a d) (hc : (tY M 60 3 18).toInt ≤ (tI M 60 30).toInt + 64 - 64 * ff M) (ho : (tI M 60 29).toInt + j ≤ 16 - 8 * ff M) (ho2 : 8 * ff M ≤ (tI M 60 29).toInt + j) (B : Nat → Int) (n : Nat) (rg : Nat → Int) (hr : rQ B n rg M) (lj : Nat) (hlj : lj < 3) (td : Nat → Int) (he : qE a d lj td M) (hvs : vs M) (ih : ∀ i : Nat, i < j → ∀ (l : Launch) (D : va_G) (A : Nat → Nat → Nat) (cy : Nat → ClassId) (hJ : ti_inj ti_LM A) (M : ti_M) (hI : mI Tm M) (a d : Nat) (hj : i ≤ 8) (hu : us M a d) (hc : (tY M 60 3 18).toInt ≤ (tI M 60 30).toInt + 64 - 64 * ff M) (ho : (tI M 60 29).toInt + i ≤ 16 - 8 * ff M) (ho2 : 8 * ff M ≤ (tI M 60 29).toInt + i) (B : Nat → Int) (n : Nat) (rg : Nat → Int) (hr : rQ B n rg M) (lj : Nat) (hlj : lj < 3) (td : Nat → Int) (he : qE a d lj td M) (hvs : vs M), ti_KvE l yX10_expression cX10_expression 1 (78 + 71 * i) ti_LM D A cy M [.ref (A 60 0)] (fun M2 => qE a (d + 1) lj (qq_ei B n lj (pp_pt B n i) (qq_pt B n lj i) rg td) M2 ∧ vs M2 ∧ rQ B n (pp_ei B n (pp_pt B n i) rg) M2 ∧ mI Tm M2 ∧ pe M2 M ∧ (pg M ≤ pg M2) ∧ (0 ≤ ff M2) ∧ (ff M2 ≤ ff M) ∧ ((tI M 60 30).toInt ≤ (tI M2 60 30).toInt) ∧ ((tI M2 60 30).toInt ≤ 64) ∧ ((tI M2 60 29).toInt ≤ (tI M 60 29).toInt + 8 - 8 * ff M2) ∧ ((tI M 60 29).toInt ≤ (tI M2 60 29).toInt + 8 - 8 * ff M2) ∧ ((tI M2 60 30).toInt - (tY M2 60 3 18).toInt ≤ (tI M 60 30).toInt - (tY M 60 3 18).toInt + 200 - 200 * ff M2) ∧ ((tI M 60 30).toInt - (tY M 60 3 18).toInt ≤ (tI M2 60 30).toInt - (tY M2 60 3 18).toInt + 200 - 200 * ff M2) ∧ (0 ≤ (tY M2 60 3 18).toInt) ∧ ((tY M2 60 3 18).toInt ≤ 64) ∧ (0 ≤ (tI M2 60 29).toInt) ∧ ((tI M2 60 29).toInt ≤ 8) ∧ us M2 a (d + 1))) (nn : Nat) (hn : 64 - (tI M 60 30).toInt + ff M ≤ nn) (ihn : ∀ i : Nat, i < nn → ∀ (l : Launch) (D : va_G) (A : Nat → Nat → Nat) (cy : Nat → ClassId) (hJ : ti_inj ti_LM A) (M : ti_M) (hI : mI Tm M) (a d : Nat) (hj : j ≤ 8) (hu : us M a d) (hc : (tY M 60 3 18).toInt ≤ (tI M 60 30).toInt + 64 - 64 * ff M) (ho : (tI M 60 29).toInt + j ≤ 16 - 8 * ff M) (ho2 : 8 * ff M ≤ (tI M 60 29).toInt + j) (B : Nat → Int) (n : Nat) (rg : Nat → Int) (hr : rQ B n rg M) (lj : Nat) (hlj : lj < 3) (td : Nat → Int) (he : qE a d lj td M) (hvs : vs M) (hn : 64 - (tI M 60 30).toInt + ff M ≤ i), ti_KvE l yX10_negation cX10_negation 2 (11 + 71 * j + i) ti_LM D A cy M [.ref (A 60 0)] (fun M2 => qE a (d + 1) lj (qq_ng B n lj (pp_pt B n j) (qq_pt B n lj j) rg td) M2 ∧ vs M2 ∧ rQ B n (pp_ng B n (pp_pt B n j) rg) M2 ∧ mI Tm M2 ∧ pe M2 M ∧ (pg M ≤ pg M2) ∧ (0 ≤ ff M2) ∧ (ff M2 ≤ ff M) ∧ ((tI M 60 30).toInt ≤ (tI M2 60 30).toInt) ∧ ((tI M2 60 30).toInt ≤ 64) ∧ ((tI M2 60 29).toInt ≤ (tI M 60 29).toInt + 8 - 8 * ff M2) ∧ ((tI M 60 29).toInt ≤ (tI M2 60 29).toInt + 8 - 8 * ff M2) ∧ ((tI M2 60 30).toInt - (tY M2 60 3 18).toInt ≤ (tI M 60 30).toInt - (tY M 60 3 18).toInt + 200 - 200 * ff M2) ∧ ((tI M 60 30).toInt - (tY M 60 3 18).toInt ≤ (tI M2 60 30).toInt - (tY M2 60 3 18).toInt + 200 - 200 * ff M2) ∧ (0 ≤ (tY M2 60 3 18).toInt) ∧ ((tY M2 60 3 18).toInt ≤ 64) ∧ (0 ≤ (tI M2 60 29).toInt) ∧ ((tI M2 60 29).toInt ≤ 8) ∧ us M2 a (d + 1))) : ti_KvE l yX10_negation cX10_negation 2 (11 + 71 * j + nn) ti_LM D A cy M [.ref (A 60 0)] (fun M2 => qE a (d + 1) lj (qq_ng B n lj (pp_pt B n j) (qq_pt B n lj j) rg td) M2 ∧ vs M2 ∧ rQ B n (pp_ng B n (pp_pt B n j) rg) M2 ∧ mI Tm M2 ∧ pe M2 M ∧ (pg M ≤ pg M2) ∧ (0 ≤ ff M2) ∧ (ff M2 ≤ ff M) ∧ ((tI M 60 30).toInt ≤ (tI M2 60 30).toInt) ∧ ((tI M2 60 30).toInt ≤ 64) ∧ ((tI M2 60 29).toInt ≤ (tI M 60 29).toInt + 8 - 8 * ff M2) ∧ ((tI M 60 29).toInt ≤ (tI M2 60 29).toInt + 8 - 8 * ff M2) ∧ ((tI M2 60 30).toInt - (tY M2 60 3 18).toInt ≤ (tI M 60 30).toInt - (tY M 60 3 18).toInt + 200 - 200 * ff M2) ∧ ((tI M 60 30).toInt - (tY M 60 3 18).toInt ≤ (tI M2 60 30).toInt - (tY M2 60 3 18).toInt + 200 - 200 * ff M2) ∧ (0 ≤ (tY M2 60 3 18).toInt) ∧ ((tY M2 60 3 18).toInt ≤ 64) ∧ (0 ≤ (tI M2 60 29).toInt) ∧ ((tI M2 60 29).toInt ≤ 8) ∧ us M2 a (d + 1)) := by
  refine ti_eVE yp_X10_negation hJ ti_LM_nd (Nat.le_of_ble_eq_true rfl) ?_
  intro p e s m args below meth c Q H0 C hE hQ hw ls hl
  have hx := C.1
  have hb := C.2.1
  have hl : lv_has ls 2 [(0, .ref (A 60 0))] := hl
  have hI30 := b30 hI
  have hI29 := b29 hI
  have hI18 := b18 hI
  have hIff := ff_b M
  refine lv_aload_n hx hb dX10_negation_0 rfl (lv_at hl 0 rfl) ?_
  refine lv_bipush (v := 18) hx hb dX10_negation_1 (by decide) ?_
  refine ti_callVi (ci := 10) (av := [.int 18]) C hw (x_X10_isWord l D A cy hJ M hI 18) ⟨ml_X10_261, ym_X10_isWord, yv_X10_isWord, yi_X10_isWord, yc_X10_isWord⟩ yd_X10_isWord ob_60 (by decide) rfl rfl hl.1 (Nat.le_of_ble_eq_true rfl) ⟨by simp only [ti_rm]; omega, by simp only [ti_rm]; omega⟩ ⟨Nat.zero_le _, Nat.zero_le _⟩ dX10_negation_3 (fun r_1 M_2 H locs hp_2 hw => ?_)
  obtain ⟨hm, hz⟩ := hp_2
  have hw := hw.to hm
  rcases hz with ⟨rfl, d0_3, d1_3, d2_3⟩ | ⟨rfl, d3_3⟩
  · have dk_3 := rQ_w1 (k := 24) hr d0_3 d1_3 d2_3 (by decide)
    have z_4 : ff M = 1 := ff_1 d0_3
    have z_5 : pg M = 2 * (tI M 60 21).toInt := pg_3 (by rw [d1_3]; decide)
    clear d0_3 d1_3 d2_3
    have z_NOT : True := trivial
    refine sb_if_eq (tgt := 30) hx hb (by decide : (1 : Int32).toInt = 1) dX10_negation_6 (by decide) (fun h => absurd h (by decide)) (fun c_6_5 => ?_)
    refine lv_aload_n hx hb dX10_negation_9 rfl (lv_at hl 0 rfl) ?_
    refine ti_callVv (ci := 10) (av := []) C hw (x_X10_knot l D A cy hJ M hI  B n rg hr) ⟨ml_X10_279, ym_X10_knot, yv_X10_knot, yi_X10_knot, yc_X10_knot⟩ yd_X10_knot ob_60 (by decide) rfl rfl hl.1 (Nat.le_of_ble_eq_true rfl) ⟨by simp only [ti_rm]; omega, by simp only [ti_rm]; omega⟩ ⟨Nat.zero_le _, Nat.zero_le _⟩ dX10_negation_10 (fun M_9 H locs hp_9 hw => ?_)
    obtain ⟨hs_10, hp_11⟩ := hp_9
    obtain ⟨iM_9, q_12, z_13, z_14, z_15, z_16, z_17, z_18⟩ := l_kn hp_11
    clear hp_11
    obtain ⟨g_19, eg_19⟩ : ∃ z : Nat → Int, z = pp_k1 rg := ⟨_, rfl⟩
    rw [← eg_19] at hs_10
    have te_20 : qE a (d) lj td M_9 := qE_fr he q_12.1 (by omega)
    have vs_21 : vs M_9 := vs_fr hvs (by omega) (q_12.2 23 (by decide)) (q_12.2 24 (by decide))
    refine lv_aload_n hx hb dX10_negation_13 rfl (lv_at hl 0 rfl) ?_
    refine ti_callVvE (ci := 10) (av := []) C hE hw (x_X10_goOn l D A cy hJ M_9 iM_9  B n g_19 hs_10) ⟨ml_X10_267, ym_X10_goOn, yv_X10_goOn, yi_X10_goOn, yc_X10_goOn⟩ yd_X10_goOn ob_60 (by decide) rfl rfl hl.1 (Nat.le_of_ble_eq_true rfl) ⟨by simp only [ti_rm]; omega, by simp only [ti_rm]; omega⟩ ⟨Nat.zero_le _, Nat.zero_le _⟩ dX10_negation_14 (fun M_23 H locs hp_23 hw => ?_)
    obtain ⟨hs_24, hp_25⟩ := hp_23
    obtain ⟨iM_23, q_26, z_27, z_28, z_29, z_30, z_31⟩ := l_go hp_25
    clear hp_25
    obtain ⟨g_32, eg_32⟩ : ∃ z : Nat → Int, z = pp_go B n g_19 := ⟨_, rfl⟩
    rw [← eg_32] at hs_24
    have te_33 : qE a (d) lj td M_23 := qE_fr te_20 q_26.1 (by omega)
    have vs_34 : vs M_23 := (fun q9 => vs_av hs_24 (by rw [eg_32]; unfold pp_go; rw [if_pos (rQ_g0 hs_10 (ff_1 (ff_q (by omega) q9)))]; exact av_v) q9)
    refine lv_aload_n hx hb dX10_negation_17 rfl (lv_at hl 0 rfl) ?_
    refine ti_callVvE (ci := 10) (av := []) C hE hw (ihn (nn - 1) (by omega) l D A cy hJ M_23 iM_23 a (d) (by omega) (us_q (x := 21) (y := 30) hu (pr.trans (pr_w q_26 (by decide) (by decide)) (pr_w q_12 (by decide) (by decide))) (by omega)) (by omega) (by omega) (by omega) B n g_32 hs_24 lj hlj td te_33 vs_34 (by omega)) ⟨ml_X10_285, ym_X10_negation, yv_X10_negation, yi_X10_negation, yc_X10_negation⟩ yd_X10_negation ob_60 (by decide) rfl rfl hl.1 (Nat.le_of_ble_eq_true rfl) ⟨by simp only [ti_rm]; omega, by simp only [ti_rm]; omega⟩ ⟨Nat.zero_le _, Nat.zero_le _⟩ dX10_negation_18 (fun M_36 H locs hp_36 hw => ?_)
    obtain ⟨te_39, vs_40, hs_37, hp_38⟩ := hp_36
    obtain ⟨iM_36, q_41, p_42, p_43, p_44, p_45, p_46, p_47, p_48, p_49, p_50, p_51, p_52, p_53, p_54, u_55⟩ := hp_38
    obtain ⟨g_56, eg_56⟩ : ∃ z : Nat → Int, z = pp_ng B n (pp_pt B n j) g_32 := ⟨_, rfl⟩
    rw [← eg_56] at hs_37
    obtain ⟨d_57, ed_57⟩ : ∃ z : Nat → Int, z = qq_ng B n lj (pp_pt B n j) (qq_pt B n lj j) g_32 td := ⟨_, rfl⟩
    rw [← ed_57] at te_39
    refine lv_aload_n hx hb dX10_negation_21 rfl (lv_at hl 0 rfl) ?_
    refine lv_iconst (v := 2) hx hb dX10_negation_22 (by decide) ?_
    refine lv_sipush (v := 260) hx hb dX10_negation_23 (by decide) ?_
    refine ti_callVv (ci := 10) (av := [.int 2, .int 260]) C hw (x_X10_puts l D A cy hJ M_36 iM_36 a (d + 1) (d + 1) 2 260 u_55 (nL (by omega)) (by first | exact Or.inr (Or.inl ⟨by decide, by decide, by omega, rfl⟩) | exact nF (by omega))) ⟨ml_X10_282, ym_X10_puts, yv_X10_puts, yi_X10_puts, yc_X10_puts⟩ yd_X10_puts ob_60 (by decide) rfl rfl hl.1 (Nat.le_of_ble_eq_true rfl) ⟨by simp only [ti_rm]; omega, by simp only [ti_rm]; omega⟩ ⟨Nat.zero_le _, Nat.zero_le _⟩ dX10_negation_26 (fun M_59 H locs hp_59 hw => ?_)
    have piM_59 := (hp_59).2.2.2.2.1
    obtain ⟨puM_59, hqM_59⟩ := hp_59
    have hs_60 := rQ_pe hs_37 hqM_59.2.1 hqM_59.2.2.2.1
    obtain ⟨iM_59, q_61, u_62, z_63, z_64, z_65, z_66, z_67, z_68⟩ := l_pu iM_36 hqM_59
    clear hqM_59
    have te_70 : qE a (d + 1) lj (qa lj (-24) d_57) M_59 := qE_pu hlj te_39 puM_59 (fun q9 => by have q8 := ff_1 q9; exact ⟨by decide, fun q => absurd q (by decide)⟩) (fun q9 => by have q8 := ff_1 q9; exact Or.inl ⟨by decide, by decide, by omega, rfl⟩)
    obtain ⟨d_69, ed_69⟩ : ∃ z : Nat → Int, z = qa lj (-24) d_57 := ⟨_, rfl⟩
    rw [← ed_69] at te_70
    have vs_71 : vs M_59 := fun q9 q8 => by rw [piM_59 23 (by decide)] at q8; rw [piM_59 24 (by decide)]; exact vs_40 (by rw [← puM_59.1]; exact q9) q8
    exact hQ _ _ _ _ _ hw (⟨(fun q9 => by have q8 := ff_1 q9; have r9 := rQ_g0 hr (ff_1 (ff_q (by omega) q9)); rw [qng_not dk_3.1 (rQ_8 hr hI r9).1 (rQ_8 hr hI r9).2, ← kn_kg r9, ← eg_19, ← eg_32, ← ed_57, ← ed_69]; exact te_70 q9), vs_71, (by rw [ng_not dk_3.1 (rQ_8 hr hI (rQ_g0 hr (by omega))).1 (rQ_8 hr hI (rQ_g0 hr (by omega))).2, ← kn_kg (rQ_g0 hr (by omega)), ← eg_19, ← eg_32, ← eg_56]; exact hs_60), iM_59, (pe.trans q_61 (pe.trans q_41 (pe.trans (pe_pr q_26 (by decide) (by decide)) (pe_pr q_12 (by decide) (by decide))))), (by omega), (by omega), (by omega), (by omega), (by omega), (by omega), (by omega), (by omega), (by omega), (by omega), (by omega), (by omega), (by omega), u_62⟩) dX10_negation_29
  · have dk_3 := rQ_w0 (k := 24) hr d3_3 (by decide) (by decide)
    clear d3_3
    refine sb_if_eq (tgt := 30) hx hb (by decide : (0 : Int32).toInt = 0) dX10_negation_6 (by decide) (fun c_6_6 => ?_) (fun h => absurd h (by decide))
    refine lv_aload_n hx hb dX10_negation_30 rfl (lv_at hl 0 rfl) ?_
    refine ti_callVvE (ci := 10) (av := []) C hE hw (x_X10_sum l D A cy hJ M hI j a (d) (by omega) hu (by omega) (by omega) (by omega) B n rg hr lj hlj td he hvs ih) ⟨ml_X10_288, ym_X10_sum, yv_X10_sum, yi_X10_sum, yc_X10_sum⟩ yd_X10_sum ob_60 (by decide) rfl rfl hl.1 (Nat.le_of_ble_eq_true rfl) ⟨by simp only [ti_rm]; omega, by simp only [ti_rm]; omega⟩ ⟨Nat.zero_le _, Nat.zero_le _⟩ dX10_negation_31 (fun M_73 H locs hp_73 hw => ?_)
    obtain ⟨te_76, vs_77, hs_74, hp_75⟩ := hp_73
    obtain ⟨iM_73, q_78, p_79, p_80, p_81, p_82, p_83, p_84, p_85, p_86, p_87, p_88, p_89, p_90, p_91, u_92⟩ := hp_75
    obtain ⟨g_93, eg_93⟩ : ∃ z : Nat → Int, z = pp_sm B n (pp_pt B n j) rg := ⟨_, rfl⟩
    rw [← eg_93] at hs_74
    obtain ⟨d_94, ed_94⟩ : ∃ z : Nat → Int, z = qq_sm B n lj (pp_pt B n j) (qq_pt B n lj j) rg td := ⟨_, rfl⟩
    rw [← ed_94] at te_76
    refine lv_aload_n hx hb dX10_negation_34 rfl (lv_at hl 0 rfl) ?_
    refine ti_get (ci := 10) (k := 25) (N := 67) (T := TX10) C hw iw_10 rfl ob_60 (by decide) (by decide) fl_X10_208 rfl rfl dX10_negation_35 ?_
    refine lv_topi (fun x_95 ex_95 => ?_)
    have u_96 : (tI M_73 60 25).toInt = x_95.toInt := by rw [ex_95]
    have ufx_95 : (tI M_73 60 25).toInt = x_95.toInt := by rw [ex_95]
    refine sb_if_ne (tgt := 86) hx hb rfl dX10_negation_38 (by decide) (fun c_38_96 => ?_) (fun c_38_96 => ?_)
    · have z_98 : ff M_73 = 0 := ff_0 (fun h => c_38_96 (ufx_95.symm.trans h))
      clear c_38_96
      exact hQ _ _ _ _ _ hw (⟨(by rw [qng_no dk_3]; unfold qq_cm; rw [← eg_93, ← ed_94]; unfold qq_c2; rw [if_neg (rQ_nc hs_74 (by omega))]; exact te_76), vs_77, (by rw [ng_no dk_3]; unfold pp_cm; rw [← eg_93]; unfold pp_c2; rw [if_neg (rQ_nc hs_74 (by omega))]; exact hs_74), iM_73, q_78, (by omega), (by omega), (by omega), (by omega), (by omega), (by omega), (by omega), (by omega), (by omega), (by omega), (by omega), (by omega), (by omega), u_92⟩) dX10_negation_86
    · have z_98 : ff M_73 = 1 := ff_1 (ufx_95.trans c_38_96)
      clear c_38_96
      refine lv_aload_n hx hb dX10_negation_41 rfl (lv_at hl 0 rfl) ?_
      refine ti_get (ci := 10) (k := 23) (N := 67) (T := TX10) C hw iw_10 rfl ob_60 (by decide) (by decide) fl_X10_173 rfl rfl dX10_negation_42 ?_
      refine lv_topi (fun x_99 ex_99 => ?_)
      have uqu_100 : (tI M_73 60 23).toInt = x_99.toInt := by rw [(ex_99.symm)]
      refine lv_iconst (v := 3) hx hb dX10_negation_45 (by decide) ?_
      refine sb_icmp_ne (tgt := 86) hx hb rfl (by decide : (3 : Int32).toInt = 3) dX10_negation_46 (by decide) (fun c_46_100 => ?_) (fun c_46_100 => ?_)
      · exact hQ _ _ _ _ _ hw (⟨(by rw [qng_no dk_3]; unfold qq_cm; rw [← eg_93, ← ed_94]; unfold qq_c2; rw [if_neg (rQ_nc hs_74 (by omega))]; exact te_76), vs_77, (by rw [ng_no dk_3]; unfold pp_cm; rw [← eg_93]; unfold pp_c2; rw [if_neg (rQ_nc hs_74 (by omega))]; exact hs_74), iM_73, q_78, (by omega), (by omega), (by omega), (by omega), (by omega), (by omega), (by omega), (by omega), (by omega), (by omega), (by omega), (by omega), (by omega), u_92⟩) dX10_negation_86
      · refine lv_aload_n hx hb dX10_negation_49 rfl (lv_at hl 0 rfl) ?_
        refine ti_get (ci := 10) (k := 24) (N := 67) (T := TX10) C hw iw_10 rfl ob_60 (by decide) (by decide) fl_X10_183 rfl rfl dX10_negation_50 ?_
        refine lv_topi (fun x_102 ex_102 => ?_)
        have uqu_103 : (tI M_73 60 24).toInt = x_102.toInt := by rw [(ex_102.symm)]
        refine lv_bipush (v := 60) hx hb dX10_negation_53 (by decide) ?_
        refine sb_icmp_eq (tgt := 87) hx hb rfl (by decide : (60 : Int32).toInt = 60) dX10_negation_55 (by decide) (fun c_55_103 => ?_) (fun c_55_103 => ?_)
        · refine lv_aload_n hx hb dX10_negation_87 rfl (lv_at hl 0 rfl) ?_
          refine ti_get (ci := 10) (k := 24) (N := 67) (T := TX10) C hw iw_10 rfl ob_60 (by decide) (by decide) fl_X10_183 rfl rfl dX10_negation_88 ?_
          refine ti_top (y := x_102) (ex_102.symm) ?_
          have uqu_111 : (tI M_73 60 24).toInt = x_102.toInt := by rw [(ex_102.symm)]
          refine lv_istore_n (lv' := [(1, .int x_102), (0, .ref (A 60 0))]) hx hb dX10_negation_91 rfl hl (by decide) rfl (fun ls hl => ?_)
          refine lv_aload_n hx hb dX10_negation_92 rfl (lv_at hl 1 rfl) ?_
          refine ti_callVv (ci := 10) (av := []) C hw (x_X10_knot l D A cy hJ M_73 iM_73  B n g_93 hs_74) ⟨ml_X10_279, ym_X10_knot, yv_X10_knot, yi_X10_knot, yc_X10_knot⟩ yd_X10_knot ob_60 (by decide) rfl rfl hl.1 (Nat.le_of_ble_eq_true rfl) ⟨by simp only [ti_rm]; omega, by simp only [ti_rm]; omega⟩ ⟨Nat.zero_le _, Nat.zero_le _⟩ dX10_negation_93 (fun M_113 H locs hp_113 hw => ?_)
          obtain ⟨hs_114, hp_115⟩ := hp_113
          obtain ⟨iM_113, q_116, z_117, z_118, z_119, z_120, z_121, z_122⟩ := l_kn hp_115
          clear hp_115
          obtain ⟨g_123, eg_123⟩ : ∃ z : Nat → Int, z = pp_k1 g_93 := ⟨_, rfl⟩
          rw [← eg_123] at hs_114
          have te_124 : qE a (d + 1) lj d_94 M_113 := qE_fr te_76 q_116.1 (by omega)
          have vs_125 : vs M_113 := vs_fr vs_77 (by omega) (q_116.2 23 (by decide)) (q_116.2 24 (by decide))
          refine lv_aload_n hx hb dX10_negation_96 rfl (lv_at hl 1 rfl) ?_
          refine ti_callVvE (ci := 10) (av := []) C hE hw (x_X10_goOn l D A cy hJ M_113 iM_113  B n g_123 hs_114) ⟨ml_X10_267, ym_X10_goOn, yv_X10_goOn, yi_X10_goOn, yc_X10_goOn⟩ yd_X10_goOn ob_60 (by decide) rfl rfl hl.1 (Nat.le_of_ble_eq_true rfl) ⟨by simp only [ti_rm]; omega, by simp only [ti_rm]; omega⟩ ⟨Nat.zero_le _, Nat.zero_le _⟩ dX10_negation_97 (fun M_127 H locs hp_127 hw => ?_)
          obtain ⟨hs_128, hp_129⟩ := hp_127
          obtain ⟨iM_127, q_130, z_131, z_132, z_133, z_134, z_135⟩ := l_go hp_129
          clear hp_129
          obtain ⟨g_136, eg_136⟩ : ∃ z : Nat → Int, z = pp_go B n g_123 := ⟨_, rfl⟩
          rw [← eg_136] at hs_128
          have te_137 : qE a (d + 1) lj d_94 M_127 := qE_fr te_124 q_130.1 (by omega)
          have vs_138 : vs M_127 := (fun q9 => vs_av hs_128 (by rw [eg_136]; unfold pp_go; rw [if_pos (rQ_g0 hs_114 (ff_1 (ff_q (by omega) q9)))]; exact av_v) q9)
          refine lv_aload_n hx hb dX10_negation_100 rfl (lv_at hl 1 rfl) ?_
          refine ti_callVvE (ci := 10) (av := []) C hE hw (x_X10_sum l D A cy hJ M_127 iM_127 j a (d + 1) (by omega) (us_q (x := 21) (y := 30) u_92 (pr.trans (pr_w q_130 (by decide) (by decide)) (pr_w q_116 (by decide) (by decide))) (by omega)) (by omega) (by omega) (by omega) B n g_136 hs_128 lj hlj d_94 te_137 vs_138 ih) ⟨ml_X10_288, ym_X10_sum, yv_X10_sum, yi_X10_sum, yc_X10_sum⟩ yd_X10_sum ob_60 (by decide) rfl rfl hl.1 (Nat.le_of_ble_eq_true rfl) ⟨by simp only [ti_rm]; omega, by simp only [ti_rm]; omega⟩ ⟨Nat.zero_le _, Nat.zero_le _⟩ dX10_negation_101 (fun M_140 H locs hp_140 hw => ?_)
          obtain ⟨te_143, vs_144, hs_141, hp_142⟩ := hp_140
          obtain ⟨iM_140, q_145, p_146, p_147, p_148, p_149, p_150, p_151, p_152, p_153, p_154, p_155, p_156, p_157, p_158, u_159⟩ := hp_142
          obtain ⟨g_160, eg_160⟩ : ∃ z : Nat → Int, z = pp_sm B n (pp_pt B n j) g_136 := ⟨_, rfl⟩
          rw [← eg_160] at hs_141
          obtain ⟨d_161, ed_161⟩ : ∃ z : Nat → Int, z = qq_sm B n lj (pp_pt B n j) (qq_pt B n lj j) g_136 d_94 := ⟨_, rfl⟩
          rw [← ed_161] at te_143
          refine lv_aload_n hx hb dX10_negation_104 rfl (lv_at hl 1 rfl) ?_
          refine lv_iconst (v := 2) hx hb dX10_negation_105 (by decide) ?_
          refine lv_iload_n hx hb dX10_negation_106 rfl (lv_at hl 0 rfl) ?_
          refine ti_callVv (ci := 10) (av := [.int 2, .int x_102]) C hw (x_X10_puts l D A cy hJ M_140 iM_140 a (d + 1 + 1) (d + 1) 2 x_102 u_159 (nL (by omega)) (by first | exact Or.inr (Or.inr (Or.inl ⟨by decide, by omega, rfl⟩)) | exact nF (by omega))) ⟨ml_X10_282, ym_X10_puts, yv_X10_puts, yi_X10_puts, yc_X10_puts⟩ yd_X10_puts ob_60 (by decide) rfl rfl hl.1 (Nat.le_of_ble_eq_true rfl) ⟨by simp only [ti_rm]; omega, by simp only [ti_rm]; omega⟩ ⟨Nat.zero_le _, Nat.zero_le _⟩ dX10_negation_107 (fun M_163 H locs hp_163 hw => ?_)
          have piM_163 := (hp_163).2.2.2.2.1
          obtain ⟨puM_163, hqM_163⟩ := hp_163
          have hs_164 := rQ_pe hs_141 hqM_163.2.1 hqM_163.2.2.2.1
          obtain ⟨iM_163, q_165, u_166, z_167, z_168, z_169, z_170, z_171, z_172⟩ := l_pu iM_140 hqM_163
          clear hqM_163
          have te_174 : qE a (d + 1) lj (qa lj (-(bq_sc x_102.toInt)) d_161) M_163 := qE_pu hlj te_143 puM_163 (fun q9 => by have q8 := ff_1 q9; exact ⟨by unfold bq_kc; rw [if_pos (by decide)], fun q => absurd q (by decide)⟩) (fun q9 => by have q8 := ff_1 q9; exact Or.inr (Or.inl ⟨by decide, (by have yc := rQ_yc hs_74 (by omega) (by omega) (by omega); have T9 := rQ_T hs_74 (by omega); have w9 := T9.2.2.2.2.2.2 (by omega); have s9 := sg_260 (k := g_93 0) (by omega) T9.1.2; omega), by omega, rfl⟩))
          obtain ⟨d_173, ed_173⟩ : ∃ z : Nat → Int, z = qa lj (-(bq_sc x_102.toInt)) d_161 := ⟨_, rfl⟩
          rw [← ed_173] at te_174
          have vs_175 : vs M_163 := fun q9 q8 => by rw [piM_163 23 (by decide)] at q8; rw [piM_163 24 (by decide)]; exact vs_144 (by rw [← puM_163.1]; exact q9) q8
          exact hQ _ _ _ _ _ hw (⟨(fun q9 => by have q8 := ff_1 q9; have yc := rQ_yc hs_74 (by omega) (by omega) (by omega); rw [qng_no dk_3]; unfold qq_cm; rw [← eg_93, ← ed_94]; unfold qq_c2; rw [if_pos yc, ← kn_kg (rQ_g0 hs_74 (by omega)), ← eg_123, ← eg_136, ← ed_161, show -(g_93 0) = -(bq_sc x_102.toInt) from (by have T9 := pt_Tsg (rQ_T hs_74 (by omega)) (by omega); have s9 := sc_sg (g_93 0 - 29).toNat (by omega) (by omega); rw [show (29 : Int) + (((g_93 0 - 29).toNat : Nat) : Int) = g_93 0 by omega] at s9; rw [show x_102.toInt = pt_sg (g_93 0) by omega, s9]), ← ed_173]; exact te_174 q9), vs_175, (by rw [ng_no dk_3]; unfold pp_cm; rw [← eg_93]; unfold pp_c2; rw [if_pos (rQ_yc hs_74 (by omega) (by omega) (by omega)), ← kn_kg (rQ_g0 hs_74 (by omega)), ← eg_123, ← eg_136, ← eg_160]; exact hs_164), iM_163, (pe.trans q_165 (pe.trans q_145 (pe.trans (pe_pr q_130 (by decide) (by decide)) (pe.trans (pe_pr q_116 (by decide) (by decide)) q_78)))), (by omega), (by omega), (by omega), (by omega), (by omega), (by omega), (by omega), (by omega), (by omega), (by omega), (by omega), (by omega), (by omega), u_166⟩) dX10_negation_110
        · refine lv_aload_n hx hb dX10_negation_58 rfl (lv_at hl 0 rfl) ?_
          refine ti_get (ci := 10) (k := 24) (N := 67) (T := TX10) C hw iw_10 rfl ob_60 (by decide) (by decide) fl_X10_183 rfl rfl dX10_negation_59 ?_
          refine ti_top (y := x_102) (ex_102.symm) ?_
          have uqu_105 : (tI M_73 60 24).toInt = x_102.toInt := by rw [(ex_102.symm)]
          refine lv_bipush (v := 62) hx hb dX10_negation_62 (by decide) ?_
          refine sb_icmp_eq (tgt := 87) hx hb rfl (by decide : (62 : Int32).toInt = 62) dX10_negation_64 (by decide) (fun c_64_105 => ?_) (fun c_64_105 => ?_)
          · refine lv_aload_n hx hb dX10_negation_87 rfl (lv_at hl 0 rfl) ?_
            refine ti_get (ci := 10) (k := 24) (N := 67) (T := TX10) C hw iw_10 rfl ob_60 (by decide) (by decide) fl_X10_183 rfl rfl dX10_negation_88 ?_
            refine ti_top (y := x_102) (ex_102.symm) ?_
            have uqu_176 : (tI M_73 60 24).toInt = x_102.toInt := by rw [(ex_102.symm)]
            refine lv_istore_n (lv' := [(1, .int x_102), (0, .ref (A 60 0))]) hx hb dX10_negation_91 rfl hl (by decide) rfl (fun ls hl => ?_)
            refine lv_aload_n hx hb dX10_negation_92 rfl (lv_at hl 1 rfl) ?_
            refine ti_callVv (ci := 10) (av := []) C hw (x_X10_knot l D A cy hJ M_73 iM_73  B n g_93 hs_74) ⟨ml_X10_279, ym_X10_knot, yv_X10_knot, yi_X10_knot, yc_X10_knot⟩ yd_X10_knot ob_60 (by decide) rfl rfl hl.1 (Nat.le_of_ble_eq_true rfl) ⟨by simp only [ti_rm]; omega, by simp only [ti_rm]; omega⟩ ⟨Nat.zero_le _, Nat.zero_le _⟩ dX10_negation_93 (fun M_178 H locs hp_178 hw => ?_)
            obtain ⟨hs_179, hp_180⟩ := hp_178
            obtain ⟨iM_178, q_181, z_182, z_183, z_184, z_185, z_186, z_187⟩ := l_kn hp_180
            clear hp_180
            obtain ⟨g_188, eg_188⟩ : ∃ z : Nat → Int, z = pp_k1 g_93 := ⟨_, rfl⟩
            rw [← eg_188] at hs_179
            have te_189 : qE a (d + 1) lj d_94 M_178 := qE_fr te_76 q_181.1 (by omega)
            have vs_190 : vs M_178 := vs_fr vs_77 (by omega) (q_181.2 23 (by decide)) (q_181.2 24 (by decide))
            refine lv_aload_n hx hb dX10_negation_96 rfl (lv_at hl 1 rfl) ?_
            refine ti_callVvE (ci := 10) (av := []) C hE hw (x_X10_goOn l D A cy hJ M_178 iM_178  B n g_188 hs_179) ⟨ml_X10_267, ym_X10_goOn, yv_X10_goOn, yi_X10_goOn, yc_X10_goOn⟩ yd_X10_goOn ob_60 (by decide) rfl rfl hl.1 (Nat.le_of_ble_eq_true rfl) ⟨by simp only [ti_rm]; omega, by simp only [ti_rm]; omega⟩ ⟨Nat.zero_le _, Nat.zero_le _⟩ dX10_negation_97 (fun M_192 H locs hp_192 hw => ?_)
            obtain ⟨hs_193, hp_194⟩ := hp_192
            obtain ⟨iM_192, q_195, z_196, z_197, z_198, z_199, z_200⟩ := l_go hp_194
            clear hp_194
            obtain ⟨g_201, eg_201⟩ : ∃ z : Nat → Int, z = pp_go B n g_188 := ⟨_, rfl⟩
            rw [← eg_201] at hs_193
            have te_202 : qE a (d + 1) lj d_94 M_192 := qE_fr te_189 q_195.1 (by omega)
            have vs_203 : vs M_192 := (fun q9 => vs_av hs_193 (by rw [eg_201]; unfold pp_go; rw [if_pos (rQ_g0 hs_179 (ff_1 (ff_q (by omega) q9)))]; exact av_v) q9)
            refine lv_aload_n hx hb dX10_negation_100 rfl (lv_at hl 1 rfl) ?_
            refine ti_callVvE (ci := 10) (av := []) C hE hw (x_X10_sum l D A cy hJ M_192 iM_192 j a (d + 1) (by omega) (us_q (x := 21) (y := 30) u_92 (pr.trans (pr_w q_195 (by decide) (by decide)) (pr_w q_181 (by decide) (by decide))) (by omega)) (by omega) (by omega) (by omega) B n g_201 hs_193 lj hlj d_94 te_202 vs_203 ih) ⟨ml_X10_288, ym_X10_sum, yv_X10_sum, yi_X10_sum, yc_X10_sum⟩ yd_X10_sum ob_60 (by decide) rfl rfl hl.1 (Nat.le_of_ble_eq_true rfl) ⟨by simp only [ti_rm]; omega, by simp only [ti_rm]; omega⟩ ⟨Nat.zero_le _, Nat.zero_le _⟩ dX10_negation_101 (fun M_205 H locs hp_205 hw => ?_)
            obtain ⟨te_208, vs_209, hs_206, hp_207⟩ := hp_205
            obtain ⟨iM_205, q_210, p_211, p_212, p_213, p_214, p_215, p_216, p_217, p_218, p_219, p_220, p_221, p_222, p_223, u_224⟩ := hp_207
            obtain ⟨g_225, eg_225⟩ : ∃ z : Nat → Int, z = pp_sm B n (pp_pt B n j) g_201 := ⟨_, rfl⟩
            rw [← eg_225] at hs_206
            obtain ⟨d_226, ed_226⟩ : ∃ z : Nat → Int, z = qq_sm B n lj (pp_pt B n j) (qq_pt B n lj j) g_201 d_94 := ⟨_, rfl⟩
            rw [← ed_226] at te_208
            refine lv_aload_n hx hb dX10_negation_104 rfl (lv_at hl 1 rfl) ?_
            refine lv_iconst (v := 2) hx hb dX10_negation_105 (by decide) ?_
            refine lv_iload_n hx hb dX10_negation_106 rfl (lv_at hl 0 rfl) ?_
            refine ti_callVv (ci := 10) (av := [.int 2, .int x_102]) C hw (x_X10_puts l D A cy hJ M_205 iM_205 a (d + 1 + 1) (d + 1) 2 x_102 u_224 (nL (by omega)) (by first | exact Or.inr (Or.inr (Or.inl ⟨by decide, by omega, rfl⟩)) | exact nF (by omega))) ⟨ml_X10_282, ym_X10_puts, yv_X10_puts, yi_X10_puts, yc_X10_puts⟩ yd_X10_puts ob_60 (by decide) rfl rfl hl.1 (Nat.le_of_ble_eq_true rfl) ⟨by simp only [ti_rm]; omega, by simp only [ti_rm]; omega⟩ ⟨Nat.zero_le _, Nat.zero_le _⟩ dX10_negation_107 (fun M_228 H locs hp_228 hw => ?_)
            have piM_228 := (hp_228).2.2.2.2.1
            obtain ⟨puM_228, hqM_228⟩ := hp_228
            have hs_229 := rQ_pe hs_206 hqM_228.2.1 hqM_228.2.2.2.1
            obtain ⟨iM_228, q_230, u_231, z_232, z_233, z_234, z_235, z_236, z_237⟩ := l_pu iM_205 hqM_228
            clear hqM_228
            have te_239 : qE a (d + 1) lj (qa lj (-(bq_sc x_102.toInt)) d_226) M_228 := qE_pu hlj te_208 puM_228 (fun q9 => by have q8 := ff_1 q9; exact ⟨by unfold bq_kc; rw [if_pos (by decide)], fun q => absurd q (by decide)⟩) (fun q9 => by have q8 := ff_1 q9; exact Or.inr (Or.inl ⟨by decide, (by have yc := rQ_yc hs_74 (by omega) (by omega) (by omega); have T9 := rQ_T hs_74 (by omega); have w9 := T9.2.2.2.2.2.2 (by omega); have s9 := sg_260 (k := g_93 0) (by omega) T9.1.2; omega), by omega, rfl⟩))
            obtain ⟨d_238, ed_238⟩ : ∃ z : Nat → Int, z = qa lj (-(bq_sc x_102.toInt)) d_226 := ⟨_, rfl⟩
            rw [← ed_238] at te_239
            have vs_240 : vs M_228 := fun q9 q8 => by rw [piM_228 23 (by decide)] at q8; rw [piM_228 24 (by decide)]; exact vs_209 (by rw [← puM_228.1]; exact q9) q8
            exact hQ _ _ _ _ _ hw (⟨(fun q9 => by have q8 := ff_1 q9; have yc := rQ_yc hs_74 (by omega) (by omega) (by omega); rw [qng_no dk_3]; unfold qq_cm; rw [← eg_93, ← ed_94]; unfold qq_c2; rw [if_pos yc, ← kn_kg (rQ_g0 hs_74 (by omega)), ← eg_188, ← eg_201, ← ed_226, show -(g_93 0) = -(bq_sc x_102.toInt) from (by have T9 := pt_Tsg (rQ_T hs_74 (by omega)) (by omega); have s9 := sc_sg (g_93 0 - 29).toNat (by omega) (by omega); rw [show (29 : Int) + (((g_93 0 - 29).toNat : Nat) : Int) = g_93 0 by omega] at s9; rw [show x_102.toInt = pt_sg (g_93 0) by omega, s9]), ← ed_238]; exact te_239 q9), vs_240, (by rw [ng_no dk_3]; unfold pp_cm; rw [← eg_93]; unfold pp_c2; rw [if_pos (rQ_yc hs_74 (by omega) (by omega) (by omega)), ← kn_kg (rQ_g0 hs_74 (by omega)), ← eg_188, ← eg_201, ← eg_225]; exact hs_229), iM_228, (pe.trans q_230 (pe.trans q_210 (pe.trans (pe_pr q_195 (by decide) (by decide)) (pe.trans (pe_pr q_181 (by decide) (by decide)) q_78)))), (by omega), (by omega), (by omega), (by omega), (by omega), (by omega), (by omega), (by omega), (by omega), (by omega), (by omega), (by omega), (by omega), u_231⟩) dX10_negation_110
          · refine lv_aload_n hx hb dX10_negation_67 rfl (lv_at hl 0 rfl) ?_
            refine ti_get (ci := 10) (k := 24) (N := 67) (T := TX10) C hw iw_10 rfl ob_60 (by decide) (by decide) fl_X10_183 rfl rfl dX10_negation_68 ?_
            refine ti_top (y := x_102) (ex_102.symm) ?_
            have uqu_107 : (tI M_73 60 24).toInt = x_102.toInt := by rw [(ex_102.symm)]
            refine lv_bipush (v := 61) hx hb dX10_negation_71 (by decide) ?_
            refine sb_icmp_eq (tgt := 87) hx hb rfl (by decide : (61 : Int32).toInt = 61) dX10_negation_73 (by decide) (fun c_73_107 => ?_) (fun c_73_107 => ?_)
            · refine lv_aload_n hx hb dX10_negation_87 rfl (lv_at hl 0 rfl) ?_
              refine ti_get (ci := 10) (k := 24) (N := 67) (T := TX10) C hw iw_10 rfl ob_60 (by decide) (by decide) fl_X10_183 rfl rfl dX10_negation_88 ?_
              refine ti_top (y := x_102) (ex_102.symm) ?_
              have uqu_241 : (tI M_73 60 24).toInt = x_102.toInt := by rw [(ex_102.symm)]
              refine lv_istore_n (lv' := [(1, .int x_102), (0, .ref (A 60 0))]) hx hb dX10_negation_91 rfl hl (by decide) rfl (fun ls hl => ?_)
              refine lv_aload_n hx hb dX10_negation_92 rfl (lv_at hl 1 rfl) ?_
              refine ti_callVv (ci := 10) (av := []) C hw (x_X10_knot l D A cy hJ M_73 iM_73  B n g_93 hs_74) ⟨ml_X10_279, ym_X10_knot, yv_X10_knot, yi_X10_knot, yc_X10_knot⟩ yd_X10_knot ob_60 (by decide) rfl rfl hl.1 (Nat.le_of_ble_eq_true rfl) ⟨by simp only [ti_rm]; omega, by simp only [ti_rm]; omega⟩ ⟨Nat.zero_le _, Nat.zero_le _⟩ dX10_negation_93 (fun M_243 H locs hp_243 hw => ?_)
              obtain ⟨hs_244, hp_245⟩ := hp_243
              obtain ⟨iM_243, q_246, z_247, z_248, z_249, z_250, z_251, z_252⟩ := l_kn hp_245
              clear hp_245
              obtain ⟨g_253, eg_253⟩ : ∃ z : Nat → Int, z = pp_k1 g_93 := ⟨_, rfl⟩
              rw [← eg_253] at hs_244
              have te_254 : qE a (d + 1) lj d_94 M_243 := qE_fr te_76 q_246.1 (by omega)
              have vs_255 : vs M_243 := vs_fr vs_77 (by omega) (q_246.2 23 (by decide)) (q_246.2 24 (by decide))
              refine lv_aload_n hx hb dX10_negation_96 rfl (lv_at hl 1 rfl) ?_
              refine ti_callVvE (ci := 10) (av := []) C hE hw (x_X10_goOn l D A cy hJ M_243 iM_243  B n g_253 hs_244) ⟨ml_X10_267, ym_X10_goOn, yv_X10_goOn, yi_X10_goOn, yc_X10_goOn⟩ yd_X10_goOn ob_60 (by decide) rfl rfl hl.1 (Nat.le_of_ble_eq_true rfl) ⟨by simp only [ti_rm]; omega, by simp only [ti_rm]; omega⟩ ⟨Nat.zero_le _, Nat.zero_le _⟩ dX10_negation_97 (fun M_257 H locs hp_257 hw => ?_)
              obtain ⟨hs_258, hp_259⟩ := hp_257
              obtain ⟨iM_257, q_260, z_261, z_262, z_263, z_264, z_265⟩ := l_go hp_259
              clear hp_259
              obtain ⟨g_266, eg_266⟩ : ∃ z : Nat → Int, z = pp_go B n g_253 := ⟨_, rfl⟩
              rw [← eg_266] at hs_258
              have te_267 : qE a (d + 1) lj d_94 M_257 := qE_fr te_254 q_260.1 (by omega)
              have vs_268 : vs M_257 := (fun q9 => vs_av hs_258 (by rw [eg_266]; unfold pp_go; rw [if_pos (rQ_g0 hs_244 (ff_1 (ff_q (by omega) q9)))]; exact av_v) q9)
              refine lv_aload_n hx hb dX10_negation_100 rfl (lv_at hl 1 rfl) ?_
              refine ti_callVvE (ci := 10) (av := []) C hE hw (x_X10_sum l D A cy hJ M_257 iM_257 j a (d + 1) (by omega) (us_q (x := 21) (y := 30) u_92 (pr.trans (pr_w q_260 (by decide) (by decide)) (pr_w q_246 (by decide) (by decide))) (by omega)) (by omega) (by omega) (by omega) B n g_266 hs_258 lj hlj d_94 te_267 vs_268 ih) ⟨ml_X10_288, ym_X10_sum, yv_X10_sum, yi_X10_sum, yc_X10_sum⟩ yd_X10_sum ob_60 (by decide) rfl rfl hl.1 (Nat.le_of_ble_eq_true rfl) ⟨by simp only [ti_rm]; omega, by simp only [ti_rm]; omega⟩ ⟨Nat.zero_le _, Nat.zero_le _⟩ dX10_negation_101 (fun M_270 H locs hp_270 hw => ?_)
              obtain ⟨te_273, vs_274, hs_271, hp_272⟩ := hp_270
              obtain ⟨iM_270, q_275, p_276, p_277, p_278, p_279, p_280, p_281, p_282, p_283, p_284, p_285, p_286, p_287, p_288, u_289⟩ := hp_272
              obtain ⟨g_290, eg_290⟩ : ∃ z : Nat → Int, z = pp_sm B n (pp_pt B n j) g_266 := ⟨_, rfl⟩
              rw [← eg_290] at hs_271
              obtain ⟨d_291, ed_291⟩ : ∃ z : Nat → Int, z = qq_sm B n lj (pp_pt B n j) (qq_pt B n lj j) g_266 d_94 := ⟨_, rfl⟩
              rw [← ed_291] at te_273
              refine lv_aload_n hx hb dX10_negation_104 rfl (lv_at hl 1 rfl) ?_
              refine lv_iconst (v := 2) hx hb dX10_negation_105 (by decide) ?_
              refine lv_iload_n hx hb dX10_negation_106 rfl (lv_at hl 0 rfl) ?_
              refine ti_callVv (ci := 10) (av := [.int 2, .int x_102]) C hw (x_X10_puts l D A cy hJ M_270 iM_270 a (d + 1 + 1) (d + 1) 2 x_102 u_289 (nL (by omega)) (by first | exact Or.inr (Or.inr (Or.inl ⟨by decide, by omega, rfl⟩)) | exact nF (by omega))) ⟨ml_X10_282, ym_X10_puts, yv_X10_puts, yi_X10_puts, yc_X10_puts⟩ yd_X10_puts ob_60 (by decide) rfl rfl hl.1 (Nat.le_of_ble_eq_true rfl) ⟨by simp only [ti_rm]; omega, by simp only [ti_rm]; omega⟩ ⟨Nat.zero_le _, Nat.zero_le _⟩ dX10_negation_107 (fun M_293 H locs hp_293 hw => ?_)
              have piM_293 := (hp_293).2.2.2.2.1
              obtain ⟨puM_293, hqM_293⟩ := hp_293
              have hs_294 := rQ_pe hs_271 hqM_293.2.1 hqM_293.2.2.2.1
              obtain ⟨iM_293, q_295, u_296, z_297, z_298, z_299, z_300, z_301, z_302⟩ := l_pu iM_270 hqM_293
              clear hqM_293
              have te_304 : qE a (d + 1) lj (qa lj (-(bq_sc x_102.toInt)) d_291) M_293 := qE_pu hlj te_273 puM_293 (fun q9 => by have q8 := ff_1 q9; exact ⟨by unfold bq_kc; rw [if_pos (by decide)], fun q => absurd q (by decide)⟩) (fun q9 => by have q8 := ff_1 q9; exact Or.inr (Or.inl ⟨by decide, (by have yc := rQ_yc hs_74 (by omega) (by omega) (by omega); have T9 := rQ_T hs_74 (by omega); have w9 := T9.2.2.2.2.2.2 (by omega); have s9 := sg_260 (k := g_93 0) (by omega) T9.1.2; omega), by omega, rfl⟩))
              obtain ⟨d_303, ed_303⟩ : ∃ z : Nat → Int, z = qa lj (-(bq_sc x_102.toInt)) d_291 := ⟨_, rfl⟩
              rw [← ed_303] at te_304
              have vs_305 : vs M_293 := fun q9 q8 => by rw [piM_293 23 (by decide)] at q8; rw [piM_293 24 (by decide)]; exact vs_274 (by rw [← puM_293.1]; exact q9) q8
              exact hQ _ _ _ _ _ hw (⟨(fun q9 => by have q8 := ff_1 q9; have yc := rQ_yc hs_74 (by omega) (by omega) (by omega); rw [qng_no dk_3]; unfold qq_cm; rw [← eg_93, ← ed_94]; unfold qq_c2; rw [if_pos yc, ← kn_kg (rQ_g0 hs_74 (by omega)), ← eg_253, ← eg_266, ← ed_291, show -(g_93 0) = -(bq_sc x_102.toInt) from (by have T9 := pt_Tsg (rQ_T hs_74 (by omega)) (by omega); have s9 := sc_sg (g_93 0 - 29).toNat (by omega) (by omega); rw [show (29 : Int) + (((g_93 0 - 29).toNat : Nat) : Int) = g_93 0 by omega] at s9; rw [show x_102.toInt = pt_sg (g_93 0) by omega, s9]), ← ed_303]; exact te_304 q9), vs_305, (by rw [ng_no dk_3]; unfold pp_cm; rw [← eg_93]; unfold pp_c2; rw [if_pos (rQ_yc hs_74 (by omega) (by omega) (by omega)), ← kn_kg (rQ_g0 hs_74 (by omega)), ← eg_253, ← eg_266, ← eg_290]; exact hs_294), iM_293, (pe.trans q_295 (pe.trans q_275 (pe.trans (pe_pr q_260 (by decide) (by decide)) (pe.trans (pe_pr q_246 (by decide) (by decide)) q_78)))), (by omega), (by omega), (by omega), (by omega), (by omega), (by omega), (by omega), (by omega), (by omega), (by omega), (by omega), (by omega), (by omega), u_296⟩) dX10_negation_110
            · refine lv_aload_n hx hb dX10_negation_76 rfl (lv_at hl 0 rfl) ?_
              refine ti_get (ci := 10) (k := 24) (N := 67) (T := TX10) C hw iw_10 rfl ob_60 (by decide) (by decide) fl_X10_183 rfl rfl dX10_negation_77 ?_
              refine ti_top (y := x_102) (ex_102.symm) ?_
              have uqu_109 : (tI M_73 60 24).toInt = x_102.toInt := by rw [(ex_102.symm)]
              refine lv_sipush (v := 256) hx hb dX10_negation_80 (by decide) ?_
              refine sb_icmp_ge (tgt := 87) hx hb rfl (by decide : (256 : Int32).toInt = 256) dX10_negation_83 (by decide) (fun c_83_109 => ?_) (fun c_83_109 => ?_)
              · refine lv_aload_n hx hb dX10_negation_87 rfl (lv_at hl 0 rfl) ?_
                refine ti_get (ci := 10) (k := 24) (N := 67) (T := TX10) C hw iw_10 rfl ob_60 (by decide) (by decide) fl_X10_183 rfl rfl dX10_negation_88 ?_
                refine ti_top (y := x_102) (ex_102.symm) ?_
                have uqu_306 : (tI M_73 60 24).toInt = x_102.toInt := by rw [(ex_102.symm)]
                refine lv_istore_n (lv' := [(1, .int x_102), (0, .ref (A 60 0))]) hx hb dX10_negation_91 rfl hl (by decide) rfl (fun ls hl => ?_)
                refine lv_aload_n hx hb dX10_negation_92 rfl (lv_at hl 1 rfl) ?_
                refine ti_callVv (ci := 10) (av := []) C hw (x_X10_knot l D A cy hJ M_73 iM_73  B n g_93 hs_74) ⟨ml_X10_279, ym_X10_knot, yv_X10_knot, yi_X10_knot, yc_X10_knot⟩ yd_X10_knot ob_60 (by decide) rfl rfl hl.1 (Nat.le_of_ble_eq_true rfl) ⟨by simp only [ti_rm]; omega, by simp only [ti_rm]; omega⟩ ⟨Nat.zero_le _, Nat.zero_le _⟩ dX10_negation_93 (fun M_308 H locs hp_308 hw => ?_)
                obtain ⟨hs_309, hp_310⟩ := hp_308
                obtain ⟨iM_308, q_311, z_312, z_313, z_314, z_315, z_316, z_317⟩ := l_kn hp_310
                clear hp_310
                obtain ⟨g_318, eg_318⟩ : ∃ z : Nat → Int, z = pp_k1 g_93 := ⟨_, rfl⟩
                rw [← eg_318] at hs_309
                have te_319 : qE a (d + 1) lj d_94 M_308 := qE_fr te_76 q_311.1 (by omega)
                have vs_320 : vs M_308 := vs_fr vs_77 (by omega) (q_311.2 23 (by decide)) (q_311.2 24 (by decide))
                refine lv_aload_n hx hb dX10_negation_96 rfl (lv_at hl 1 rfl) ?_
                refine ti_callVvE (ci := 10) (av := []) C hE hw (x_X10_goOn l D A cy hJ M_308 iM_308  B n g_318 hs_309) ⟨ml_X10_267, ym_X10_goOn, yv_X10_goOn, yi_X10_goOn, yc_X10_goOn⟩ yd_X10_goOn ob_60 (by decide) rfl rfl hl.1 (Nat.le_of_ble_eq_true rfl) ⟨by simp only [ti_rm]; omega, by simp only [ti_rm]; omega⟩ ⟨Nat.zero_le _, Nat.zero_le _⟩ dX10_negation_97 (fun M_322 H locs hp_322 hw => ?_)
                obtain ⟨hs_323, hp_324⟩ := hp_322
                obtain ⟨iM_322, q_325, z_326, z_327, z_328, z_329, z_330⟩ := l_go hp_324
                clear hp_324
                obtain ⟨g_331, eg_331⟩ : ∃ z : Nat → Int, z = pp_go B n g_318 := ⟨_, rfl⟩
                rw [← eg_331] at hs_323
                have te_332 : qE a (d + 1) lj d_94 M_322 := qE_fr te_319 q_325.1 (by omega)
                have vs_333 : vs M_322 := (fun q9 => vs_av hs_323 (by rw [eg_331]; unfold pp_go; rw [if_pos (rQ_g0 hs_309 (ff_1 (ff_q (by omega) q9)))]; exact av_v) q9)
                refine lv_aload_n hx hb dX10_negation_100 rfl (lv_at hl 1 rfl) ?_
                refine ti_callVvE (ci := 10) (av := []) C hE hw (x_X10_sum l D A cy hJ M_322 iM_322 j a (d + 1) (by omega) (us_q (x := 21) (y := 30) u_92 (pr.trans (pr_w q_325 (by decide) (by decide)) (pr_w q_311 (by decide) (by decide))) (by omega)) (by omega) (by omega) (by omega) B n g_331 hs_323 lj hlj d_94 te_332 vs_333 ih) ⟨ml_X10_288, ym_X10_sum, yv_X10_sum, yi_X10_sum, yc_X10_sum⟩ yd_X10_sum ob_60 (by decide) rfl rfl hl.1 (Nat.le_of_ble_eq_true rfl) ⟨by simp only [ti_rm]; omega, by simp only [ti_rm]; omega⟩ ⟨Nat.zero_le _, Nat.zero_le _⟩ dX10_negation_101 (fun M_335 H locs hp_335 hw => ?_)
                obtain ⟨te_338, vs_339, hs_336, hp_337⟩ := hp_335
                obtain ⟨iM_335, q_340, p_341, p_342, p_343, p_344, p_345, p_346, p_347, p_348, p_349, p_350, p_351, p_352, p_353, u_354⟩ := hp_337
                obtain ⟨g_355, eg_355⟩ : ∃ z : Nat → Int, z = pp_sm B n (pp_pt B n j) g_331 := ⟨_, rfl⟩
                rw [← eg_355] at hs_336
                obtain ⟨d_356, ed_356⟩ : ∃ z : Nat → Int, z = qq_sm B n lj (pp_pt B n j) (qq_pt B n lj j) g_331 d_94 := ⟨_, rfl⟩
                rw [← ed_356] at te_338
                refine lv_aload_n hx hb dX10_negation_104 rfl (lv_at hl 1 rfl) ?_
                refine lv_iconst (v := 2) hx hb dX10_negation_105 (by decide) ?_
                refine lv_iload_n hx hb dX10_negation_106 rfl (lv_at hl 0 rfl) ?_
                refine ti_callVv (ci := 10) (av := [.int 2, .int x_102]) C hw (x_X10_puts l D A cy hJ M_335 iM_335 a (d + 1 + 1) (d + 1) 2 x_102 u_354 (nL (by omega)) (by first | exact Or.inr (Or.inr (Or.inl ⟨by decide, by omega, rfl⟩)) | exact nF (by omega))) ⟨ml_X10_282, ym_X10_puts, yv_X10_puts, yi_X10_puts, yc_X10_puts⟩ yd_X10_puts ob_60 (by decide) rfl rfl hl.1 (Nat.le_of_ble_eq_true rfl) ⟨by simp only [ti_rm]; omega, by simp only [ti_rm]; omega⟩ ⟨Nat.zero_le _, Nat.zero_le _⟩ dX10_negation_107 (fun M_358 H locs hp_358 hw => ?_)
                have piM_358 := (hp_358).2.2.2.2.1
                obtain ⟨puM_358, hqM_358⟩ := hp_358
                have hs_359 := rQ_pe hs_336 hqM_358.2.1 hqM_358.2.2.2.1
                obtain ⟨iM_358, q_360, u_361, z_362, z_363, z_364, z_365, z_366, z_367⟩ := l_pu iM_335 hqM_358
                clear hqM_358
                have te_369 : qE a (d + 1) lj (qa lj (-(bq_sc x_102.toInt)) d_356) M_358 := qE_pu hlj te_338 puM_358 (fun q9 => by have q8 := ff_1 q9; exact ⟨by unfold bq_kc; rw [if_pos (by decide)], fun q => absurd q (by decide)⟩) (fun q9 => by have q8 := ff_1 q9; exact Or.inr (Or.inl ⟨by decide, (by have yc := rQ_yc hs_74 (by omega) (by omega) (by omega); have T9 := rQ_T hs_74 (by omega); have w9 := T9.2.2.2.2.2.2 (by omega); have s9 := sg_260 (k := g_93 0) (by omega) T9.1.2; omega), by omega, rfl⟩))
                obtain ⟨d_368, ed_368⟩ : ∃ z : Nat → Int, z = qa lj (-(bq_sc x_102.toInt)) d_356 := ⟨_, rfl⟩
                rw [← ed_368] at te_369
                have vs_370 : vs M_358 := fun q9 q8 => by rw [piM_358 23 (by decide)] at q8; rw [piM_358 24 (by decide)]; exact vs_339 (by rw [← puM_358.1]; exact q9) q8
                exact hQ _ _ _ _ _ hw (⟨(fun q9 => by have q8 := ff_1 q9; have yc := rQ_yc hs_74 (by omega) (by omega) (by omega); rw [qng_no dk_3]; unfold qq_cm; rw [← eg_93, ← ed_94]; unfold qq_c2; rw [if_pos yc, ← kn_kg (rQ_g0 hs_74 (by omega)), ← eg_318, ← eg_331, ← ed_356, show -(g_93 0) = -(bq_sc x_102.toInt) from (by have T9 := pt_Tsg (rQ_T hs_74 (by omega)) (by omega); have s9 := sc_sg (g_93 0 - 29).toNat (by omega) (by omega); rw [show (29 : Int) + (((g_93 0 - 29).toNat : Nat) : Int) = g_93 0 by omega] at s9; rw [show x_102.toInt = pt_sg (g_93 0) by omega, s9]), ← ed_368]; exact te_369 q9), vs_370, (by rw [ng_no dk_3]; unfold pp_cm; rw [← eg_93]; unfold pp_c2; rw [if_pos (rQ_yc hs_74 (by omega) (by omega) (by omega)), ← kn_kg (rQ_g0 hs_74 (by omega)), ← eg_318, ← eg_331, ← eg_355]; exact hs_359), iM_358, (pe.trans q_360 (pe.trans q_340 (pe.trans (pe_pr q_325 (by decide) (by decide)) (pe.trans (pe_pr q_311 (by decide) (by decide)) q_78)))), (by omega), (by omega), (by omega), (by omega), (by omega), (by omega), (by omega), (by omega), (by omega), (by omega), (by omega), (by omega), (by omega), u_361⟩) dX10_negation_110
              · exact hQ _ _ _ _ _ hw (⟨(by rw [qng_no dk_3]; unfold qq_cm; rw [← eg_93, ← ed_94]; unfold qq_c2; rw [if_neg (rQ_nc hs_74 (by omega))]; exact te_76), vs_77, (by rw [ng_no dk_3]; unfold pp_cm; rw [← eg_93]; unfold pp_c2; rw [if_neg (rQ_nc hs_74 (by omega))]; exact hs_74), iM_73, q_78, (by omega), (by omega), (by omega), (by omega), (by omega), (by omega), (by omega), (by omega), (by omega), (by omega), (by omega), (by omega), (by omega), u_92⟩) dX10_negation_86
theorem x_X10_negation_n (j : Nat) (ih : ∀ i : Nat, i < j → ∀ (l : Launch) (D : va_G) (A : Nat → Nat → Nat) (cy : Nat → ClassId) (hJ : ti_inj ti_LM A) (M : ti_M) (hI : mI Tm M) (a d : Nat) (hj : i ≤ 8) (hu : us M a d) (hc : (tY M 60 3 18).toInt ≤ (tI M 60 30).toInt + 64 - 64 * ff M) (ho : (tI M 60 29).toInt + i ≤ 16 - 8 * ff M) (ho2 : 8 * ff M ≤ (tI M 60 29).toInt + i) (B : Nat → Int) (n : Nat) (rg : Nat → Int) (hr : rQ B n rg M) (lj : Nat) (hlj : lj < 3) (td : Nat → Int) (he : qE a d lj td M) (hvs : vs M), ti_KvE l yX10_expression cX10_expression 1 (78 + 71 * i) ti_LM D A cy M [.ref (A 60 0)] (fun M2 => qE a (d + 1) lj (qq_ei B n lj (pp_pt B n i) (qq_pt B n lj i) rg td) M2 ∧ vs M2 ∧ rQ B n (pp_ei B n (pp_pt B n i) rg) M2 ∧ mI Tm M2 ∧ pe M2 M ∧ (pg M ≤ pg M2) ∧ (0 ≤ ff M2) ∧ (ff M2 ≤ ff M) ∧ ((tI M 60 30).toInt ≤ (tI M2 60 30).toInt) ∧ ((tI M2 60 30).toInt ≤ 64) ∧ ((tI M2 60 29).toInt ≤ (tI M 60 29).toInt + 8 - 8 * ff M2) ∧ ((tI M 60 29).toInt ≤ (tI M2 60 29).toInt + 8 - 8 * ff M2) ∧ ((tI M2 60 30).toInt - (tY M2 60 3 18).toInt ≤ (tI M 60 30).toInt - (tY M 60 3 18).toInt + 200 - 200 * ff M2) ∧ ((tI M 60 30).toInt - (tY M 60 3 18).toInt ≤ (tI M2 60 30).toInt - (tY M2 60 3 18).toInt + 200 - 200 * ff M2) ∧ (0 ≤ (tY M2 60 3 18).toInt) ∧ ((tY M2 60 3 18).toInt ≤ 64) ∧ (0 ≤ (tI M2 60 29).toInt) ∧ ((tI M2 60 29).toInt ≤ 8) ∧ us M2 a (d + 1))) : ∀ nn : Nat, ∀ (l : Launch) (D : va_G) (A : Nat → Nat → Nat) (cy : Nat → ClassId) (hJ : ti_inj ti_LM A) (M : ti_M) (hI : mI Tm M) (a d : Nat) (hj : j ≤ 8) (hu : us M a d) (hc : (tY M 60 3 18).toInt ≤ (tI M 60 30).toInt + 64 - 64 * ff M) (ho : (tI M 60 29).toInt + j ≤ 16 - 8 * ff M) (ho2 : 8 * ff M ≤ (tI M 60 29).toInt + j) (B : Nat → Int) (n : Nat) (rg : Nat → Int) (hr : rQ B n rg M) (lj : Nat) (hlj : lj < 3) (td : Nat → Int) (he : qE a d lj td M) (hvs : vs M) (hn : 64 - (tI M 60 30).toInt + ff M ≤ nn), ti_KvE l yX10_negation cX10_negation 2 (11 + 71 * j + nn) ti_LM D A cy M [.ref (A 60 0)] (fun M2 => qE a (d + 1) lj (qq_ng B n lj (pp_pt B n j) (qq_pt B n lj j) rg td) M2 ∧ vs M2 ∧ rQ B n (pp_ng B n (pp_pt B n j) rg) M2 ∧ mI Tm M2 ∧ pe M2 M ∧ (pg M ≤ pg M2) ∧ (0 ≤ ff M2) ∧ (ff M2 ≤ ff M) ∧ ((tI M 60 30).toInt ≤ (tI M2 60 30).toInt) ∧ ((tI M2 60 30).toInt ≤ 64) ∧ ((tI M2 60 29).toInt ≤ (tI M 60 29).toInt + 8 - 8 * ff M2) ∧ ((tI M 60 29).toInt ≤ (tI M2 60 29).toInt + 8 - 8 * ff M2) ∧ ((tI M2 60 30).toInt - (tY M2 60 3 18).toInt ≤ (tI M 60 30).toInt - (tY M 60 3 18).toInt + 200 - 200 * ff M2) ∧ ((tI M 60 30).toInt - (tY M 60 3 18).toInt ≤ (tI M2 60 30).toInt - (tY M2 60 3 18).toInt + 200 - 200 * ff M2) ∧ (0 ≤ (tY M2 60 3 18).toInt) ∧ ((tY M2 60 3 18).toInt ≤ 64) ∧ (0 ≤ (tI M2 60 29).toInt) ∧ ((tI M2 60 29).toInt ≤ 8) ∧ us M2 a (d + 1)) := by
  intro nn
  induction nn using Nat.strongRecOn with
  | ind nn ihn =>
    intro l D A cy hJ M hI a d hj hu hc ho ho2 B n rg hr lj hlj td he hvs hn
    exact x_X10_negation_s l D A cy hJ M hI j a d hj hu hc ho ho2 B n rg hr lj hlj td he hvs ih nn hn ihn
set_option maxHeartbeats 4000000 in
set_option maxRecDepth 100000 in
theorem x_X10_conjunction (l : Launch) (D : va_G) (A : Nat → Nat → Nat) (cy : Nat → ClassId) (hJ : ti_inj ti_LM A) (M : ti_M) (hI : mI Tm M) (j a d : Nat) (hj : j ≤ 8) (hu : us M a d) (hc : (tY M 60 3 18).toInt ≤ (tI M 60 30).toInt + 64 - 64 * ff M) (ho : (tI M 60 29).toInt + j ≤ 16 - 8 * ff M) (ho2 : 8 * ff M ≤ (tI M 60 29).toInt + j) (B : Nat → Int) (n : Nat) (rg : Nat → Int) (hr : rQ B n rg M) (lj : Nat) (hlj : lj < 3) (td : Nat → Int) (he : qE a d lj td M) (hvs : vs M) (ih : ∀ i : Nat, i < j → ∀ (l : Launch) (D : va_G) (A : Nat → Nat → Nat) (cy : Nat → ClassId) (hJ : ti_inj ti_LM A) (M : ti_M) (hI : mI Tm M) (a d : Nat) (hj : i ≤ 8) (hu : us M a d) (hc : (tY M 60 3 18).toInt ≤ (tI M 60 30).toInt + 64 - 64 * ff M) (ho : (tI M 60 29).toInt + i ≤ 16 - 8 * ff M) (ho2 : 8 * ff M ≤ (tI M 60 29).toInt + i) (B : Nat → Int) (n : Nat) (rg : Nat → Int) (hr : rQ B n rg M) (lj : Nat) (hlj : lj < 3) (td : Nat → Int) (he : qE a d lj td M) (hvs : vs M), ti_KvE l yX10_expression cX10_expression 1 (78 + 71 * i) ti_LM D A cy M [.ref (A 60 0)] (fun M2 => qE a (d + 1) lj (qq_ei B n lj (pp_pt B n i) (qq_pt B n lj i) rg td) M2 ∧ vs M2 ∧ rQ B n (pp_ei B n (pp_pt B n i) rg) M2 ∧ mI Tm M2 ∧ pe M2 M ∧ (pg M ≤ pg M2) ∧ (0 ≤ ff M2) ∧ (ff M2 ≤ ff M) ∧ ((tI M 60 30).toInt ≤ (tI M2 60 30).toInt) ∧ ((tI M2 60 30).toInt ≤ 64) ∧ ((tI M2 60 29).toInt ≤ (tI M 60 29).toInt + 8 - 8 * ff M2) ∧ ((tI M 60 29).toInt ≤ (tI M2 60 29).toInt + 8 - 8 * ff M2) ∧ ((tI M2 60 30).toInt - (tY M2 60 3 18).toInt ≤ (tI M 60 30).toInt - (tY M 60 3 18).toInt + 200 - 200 * ff M2) ∧ ((tI M 60 30).toInt - (tY M 60 3 18).toInt ≤ (tI M2 60 30).toInt - (tY M2 60 3 18).toInt + 200 - 200 * ff M2) ∧ (0 ≤ (tY M2 60 3 18).toInt) ∧ ((tY M2 60 3 18).toInt ≤ 64) ∧ (0 ≤ (tI M2 60 29).toInt) ∧ ((tI M2 60 29).toInt ≤ 8) ∧ us M2 a (d + 1))) : ti_KvE l yX10_conjunction cX10_conjunction 1 (77 + 71 * j) ti_LM D A cy M [.ref (A 60 0)] (fun M2 => qE a (d + 1) lj (qq_bo B n lj (pp_pt B n j) (qq_pt B n lj j) rg td) M2 ∧ vs M2 ∧ rQ B n (pp_bo B n (pp_pt B n j) rg) M2 ∧ mI Tm M2 ∧ pe M2 M ∧ (pg M ≤ pg M2) ∧ (0 ≤ ff M2) ∧ (ff M2 ≤ ff M) ∧ ((tI M 60 30).toInt ≤ (tI M2 60 30).toInt) ∧ ((tI M2 60 30).toInt ≤ 64) ∧ ((tI M2 60 29).toInt ≤ (tI M 60 29).toInt + 8 - 8 * ff M2) ∧ ((tI M 60 29).toInt ≤ (tI M2 60 29).toInt + 8 - 8 * ff M2) ∧ ((tI M2 60 30).toInt - (tY M2 60 3 18).toInt ≤ (tI M 60 30).toInt - (tY M 60 3 18).toInt + 200 - 200 * ff M2) ∧ ((tI M 60 30).toInt - (tY M 60 3 18).toInt ≤ (tI M2 60 30).toInt - (tY M2 60 3 18).toInt + 200 - 200 * ff M2) ∧ (0 ≤ (tY M2 60 3 18).toInt) ∧ ((tY M2 60 3 18).toInt ≤ 64) ∧ (0 ≤ (tI M2 60 29).toInt) ∧ ((tI M2 60 29).toInt ≤ 8) ∧ us M2 a (d + 1)) := by
  refine ti_eVE yp_X10_conjunction hJ ti_LM_nd (Nat.le_of_ble_eq_true rfl) ?_
  intro p e s m args below meth c Q H0 C hE hQ hw ls hl
  have hx := C.1
  have hb := C.2.1
  have hl : lv_has ls 1 [(0, .ref (A 60 0))] := hl
  have hI30 := b30 hI
  have hI29 := b29 hI
  have hI18 := b18 hI
  have hIff := ff_b M
  refine lv_aload_n hx hb dX10_conjunction_0 rfl (lv_at hl 0 rfl) ?_
  refine ti_callVvE (ci := 10) (av := []) C hE hw (x_X10_negation_n j ih 65 l D A cy hJ M hI a (d) (by omega) hu (by omega) (by omega) (by omega) B n rg hr lj hlj td he hvs (by omega)) ⟨ml_X10_285, ym_X10_negation, yv_X10_negation, yi_X10_negation, yc_X10_negation⟩ yd_X10_negation ob_60 (by decide) rfl rfl hl.1 (Nat.le_of_ble_eq_true rfl) ⟨by simp only [ti_rm]; omega, by simp only [ti_rm]; omega⟩ ⟨Nat.zero_le _, Nat.zero_le _⟩ dX10_conjunction_1 (fun M_2 H locs hp_2 hw => ?_)
  obtain ⟨te_5, vs_6, hs_3, hp_4⟩ := hp_2
  obtain ⟨iM_2, q_7, p_8, p_9, p_10, p_11, p_12, p_13, p_14, p_15, p_16, p_17, p_18, p_19, p_20, u_21⟩ := hp_4
  obtain ⟨g_22, eg_22⟩ : ∃ z : Nat → Int, z = pp_ng B n (pp_pt B n j) rg := ⟨_, rfl⟩
  rw [← eg_22] at hs_3
  obtain ⟨d_23, ed_23⟩ : ∃ z : Nat → Int, z = qq_ng B n lj (pp_pt B n j) (qq_pt B n lj j) rg td := ⟨_, rfl⟩
  rw [← ed_23] at te_5
  have hl_4_47 : ∀ (n_48 : Nat) (M_24 : ti_M) (g_26 : Nat → Int) (d_28 : Nat → Int) (H : Heap) (locs : List Loc) (ls : Array Slot), (64 - (tI M_24 60 30).toInt + ff M_24 : Int).toNat < n_48 → (mI Tm M_24) → (pe M_24 M) → (rQ B n g_26 M_24) → (qE a (d + 1) lj d_28 M_24) → (vs M_24) → (us M_24 a (d + 1)) → (pp_bo B n (pp_pt B n j) rg = pp_lp pp_qA (fun s => pp_ng B n (pp_pt B n j) (pp_kn B n s)) 64 g_26) → (qq_bo B n lj (pp_pt B n j) (qq_pt B n lj j) rg td = qq_lp pp_qA (fun s => pp_ng B n (pp_pt B n j) (pp_kn B n s)) (fun s td => qa lj (-22) (qq_ng B n lj (pp_pt B n j) (qq_pt B n lj j) (pp_kn B n s) td)) 64 g_26 d_28) → (g_26 0 = 28 ∨ (1 ≤ g_26 8 ∧ g_26 8 ≤ 64)) → (pg M ≤ pg M_24) → (0 ≤ ff M_24) → (ff M_24 ≤ ff M) → ((tI M 60 30).toInt ≤ (tI M_24 60 30).toInt) → ((tI M_24 60 30).toInt ≤ 64) → ((tI M_24 60 29).toInt ≤ (tI M 60 29).toInt + 8 - 8 * ff M_24) → ((tI M 60 29).toInt ≤ (tI M_24 60 29).toInt + 8 - 8 * ff M_24) → ((tI M_24 60 30).toInt - (tY M_24 60 3 18).toInt ≤ (tI M 60 30).toInt - (tY M 60 3 18).toInt + 200 - 200 * ff M_24) → ((tI M 60 30).toInt - (tY M 60 3 18).toInt ≤ (tI M_24 60 30).toInt - (tY M_24 60 3 18).toInt + 200 - 200 * ff M_24) → (0 ≤ (tY M_24 60 3 18).toInt) → ((tY M_24 60 3 18).toInt ≤ 64) → (0 ≤ (tI M_24 60 29).toInt) → ((tI M_24 60 29).toInt ≤ 8) → ti_H ti_LM D A cy H0 M_24 H locs → lv_has ls 1 [(0, .ref (A 60 0))] → W p l e (ti_rm (77 + 71 * j)) s m args below meth c H locs 0 0 Q (F0 m 4 ls []) := by
    intro n_48
    induction n_48 with
    | zero => intro M_24 g_26 d_28 H locs ls hf_48; exact absurd hf_48 (Nat.not_lt_zero _)
    | succ n_48 ih_48 =>
      intro M_24 g_26 d_28 H locs ls hf_48 iM_24 f_25 hs_27 te_29 vs_30 j_31 j_32 j_33 j_34 j_35 j_36 j_37 j_38 j_39 j_40 j_41 j_42 j_43 j_44 j_45 j_46 j_47 hw hl
      refine lv_aload_n hx hb dX10_conjunction_4 rfl (lv_at hl 0 rfl) ?_
      refine lv_bipush (v := 17) hx hb dX10_conjunction_5 (by decide) ?_
      refine ti_callVi (ci := 10) (av := [.int 17]) C hw (x_X10_isWord l D A cy hJ M_24 iM_24 17) ⟨ml_X10_261, ym_X10_isWord, yv_X10_isWord, yi_X10_isWord, yc_X10_isWord⟩ yd_X10_isWord ob_60 (by decide) rfl rfl hl.1 (Nat.le_of_ble_eq_true rfl) ⟨by simp only [ti_rm]; omega, by simp only [ti_rm]; omega⟩ ⟨Nat.zero_le _, Nat.zero_le _⟩ dX10_conjunction_7 (fun r_49 M_50 H locs hp_50 hw => ?_)
      obtain ⟨hm, hz⟩ := hp_50
      have hw := hw.to hm
      rcases hz with ⟨rfl, d0_51, d1_51, d2_51⟩ | ⟨rfl, d3_51⟩
      · have dk_51 := rQ_w1 (k := 22) hs_27 d0_51 d1_51 d2_51 (by decide)
        have z_52 : ff M_24 = 1 := ff_1 d0_51
        have z_53 : pg M_24 = 2 * (tI M_24 60 21).toInt := pg_3 (by rw [d1_51]; decide)
        clear d0_51 d1_51 d2_51
        refine sb_if_eq (tgt := 36) hx hb (by decide : (1 : Int32).toInt = 1) dX10_conjunction_10 (by decide) (fun h => absurd h (by decide)) (fun c_10_53 => ?_)
        refine lv_aload_n hx hb dX10_conjunction_13 rfl (lv_at hl 0 rfl) ?_
        refine ti_callVv (ci := 10) (av := []) C hw (x_X10_knot l D A cy hJ M_24 iM_24  B n g_26 hs_27) ⟨ml_X10_279, ym_X10_knot, yv_X10_knot, yi_X10_knot, yc_X10_knot⟩ yd_X10_knot ob_60 (by decide) rfl rfl hl.1 (Nat.le_of_ble_eq_true rfl) ⟨by simp only [ti_rm]; omega, by simp only [ti_rm]; omega⟩ ⟨Nat.zero_le _, Nat.zero_le _⟩ dX10_conjunction_14 (fun M_57 H locs hp_57 hw => ?_)
        obtain ⟨hs_58, hp_59⟩ := hp_57
        obtain ⟨iM_57, q_60, z_61, z_62, z_63, z_64, z_65, z_66⟩ := l_kn hp_59
        clear hp_59
        obtain ⟨g_67, eg_67⟩ : ∃ z : Nat → Int, z = pp_k1 g_26 := ⟨_, rfl⟩
        rw [← eg_67] at hs_58
        have te_68 : qE a (d + 1) lj d_28 M_57 := qE_fr te_29 q_60.1 (by omega)
        have vs_69 : vs M_57 := vs_fr vs_30 (by omega) (q_60.2 23 (by decide)) (q_60.2 24 (by decide))
        refine lv_aload_n hx hb dX10_conjunction_17 rfl (lv_at hl 0 rfl) ?_
        refine ti_callVvE (ci := 10) (av := []) C hE hw (x_X10_goOn l D A cy hJ M_57 iM_57  B n g_67 hs_58) ⟨ml_X10_267, ym_X10_goOn, yv_X10_goOn, yi_X10_goOn, yc_X10_goOn⟩ yd_X10_goOn ob_60 (by decide) rfl rfl hl.1 (Nat.le_of_ble_eq_true rfl) ⟨by simp only [ti_rm]; omega, by simp only [ti_rm]; omega⟩ ⟨Nat.zero_le _, Nat.zero_le _⟩ dX10_conjunction_18 (fun M_71 H locs hp_71 hw => ?_)
        obtain ⟨hs_72, hp_73⟩ := hp_71
        obtain ⟨iM_71, q_74, z_75, z_76, z_77, z_78, z_79⟩ := l_go hp_73
        clear hp_73
        obtain ⟨g_80, eg_80⟩ : ∃ z : Nat → Int, z = pp_go B n g_67 := ⟨_, rfl⟩
        rw [← eg_80] at hs_72
        have te_81 : qE a (d + 1) lj d_28 M_71 := qE_fr te_68 q_74.1 (by omega)
        have vs_82 : vs M_71 := (fun q9 => vs_av hs_72 (by rw [eg_80]; unfold pp_go; rw [if_pos (rQ_g0 hs_58 (ff_1 (ff_q (by omega) q9)))]; exact av_v) q9)
        refine lv_aload_n hx hb dX10_conjunction_21 rfl (lv_at hl 0 rfl) ?_
        refine ti_callVvE (ci := 10) (av := []) C hE hw (x_X10_negation_n j ih 65 l D A cy hJ M_71 iM_71 a (d + 1) (by omega) (us_q (x := 21) (y := 30) j_31 (pr.trans (pr_w q_74 (by decide) (by decide)) (pr_w q_60 (by decide) (by decide))) (by omega)) (by omega) (by omega) (by omega) B n g_80 hs_72 lj hlj d_28 te_81 vs_82 (by omega)) ⟨ml_X10_285, ym_X10_negation, yv_X10_negation, yi_X10_negation, yc_X10_negation⟩ yd_X10_negation ob_60 (by decide) rfl rfl hl.1 (Nat.le_of_ble_eq_true rfl) ⟨by simp only [ti_rm]; omega, by simp only [ti_rm]; omega⟩ ⟨Nat.zero_le _, Nat.zero_le _⟩ dX10_conjunction_22 (fun M_84 H locs hp_84 hw => ?_)
        obtain ⟨te_87, vs_88, hs_85, hp_86⟩ := hp_84
        obtain ⟨iM_84, q_89, p_90, p_91, p_92, p_93, p_94, p_95, p_96, p_97, p_98, p_99, p_100, p_101, p_102, u_103⟩ := hp_86
        obtain ⟨g_104, eg_104⟩ : ∃ z : Nat → Int, z = pp_ng B n (pp_pt B n j) g_80 := ⟨_, rfl⟩
        rw [← eg_104] at hs_85
        obtain ⟨d_105, ed_105⟩ : ∃ z : Nat → Int, z = qq_ng B n lj (pp_pt B n j) (qq_pt B n lj j) g_80 d_28 := ⟨_, rfl⟩
        rw [← ed_105] at te_87
        refine lv_aload_n hx hb dX10_conjunction_25 rfl (lv_at hl 0 rfl) ?_
        refine lv_iconst (v := 2) hx hb dX10_conjunction_26 (by decide) ?_
        refine lv_sipush (v := 261) hx hb dX10_conjunction_27 (by decide) ?_
        refine ti_callVv (ci := 10) (av := [.int 2, .int 261]) C hw (x_X10_puts l D A cy hJ M_84 iM_84 a (d + 1 + 1) (d + 1) 2 261 u_103 (nL (by omega)) (by first | exact Or.inr (Or.inr (Or.inl ⟨by decide, by omega, rfl⟩)) | exact nF (by omega))) ⟨ml_X10_282, ym_X10_puts, yv_X10_puts, yi_X10_puts, yc_X10_puts⟩ yd_X10_puts ob_60 (by decide) rfl rfl hl.1 (Nat.le_of_ble_eq_true rfl) ⟨by simp only [ti_rm]; omega, by simp only [ti_rm]; omega⟩ ⟨Nat.zero_le _, Nat.zero_le _⟩ dX10_conjunction_30 (fun M_107 H locs hp_107 hw => ?_)
        have piM_107 := (hp_107).2.2.2.2.1
        obtain ⟨puM_107, hqM_107⟩ := hp_107
        have hs_108 := rQ_pe hs_85 hqM_107.2.1 hqM_107.2.2.2.1
        obtain ⟨iM_107, q_109, u_110, z_111, z_112, z_113, z_114, z_115, z_116⟩ := l_pu iM_84 hqM_107
        clear hqM_107
        have te_118 : qE a (d + 1) lj (qa lj (-22) d_105) M_107 := qE_pu hlj te_87 puM_107 (fun q9 => by have q8 := ff_1 q9; exact ⟨by decide, fun q => absurd q (by decide)⟩) (fun q9 => by have q8 := ff_1 q9; exact Or.inr (Or.inl ⟨by decide, by decide, by omega, rfl⟩))
        obtain ⟨d_117, ed_117⟩ : ∃ z : Nat → Int, z = qa lj (-22) d_105 := ⟨_, rfl⟩
        rw [← ed_117] at te_118
        have vs_119 : vs M_107 := fun q9 q8 => by rw [piM_107 23 (by decide)] at q8; rw [piM_107 24 (by decide)]; exact vs_88 (by rw [← puM_107.1]; exact q9) q8
        refine lv_goto (tgt := 4) hx hb dX10_conjunction_33 (by decide) ?_
        exact ih_48 M_107 g_104 d_117 _ _ _ (by omega) iM_107 (pe.trans q_109 (pe.trans q_89 (pe.trans (pe_pr q_74 (by decide) (by decide)) (pe.trans (pe_pr q_60 (by decide) (by decide)) f_25)))) hs_108 te_118 vs_119 u_110 (j_32.trans (lp_nx (P := pp_qA) (G := fun s => pp_ng B n (pp_pt B n j) (pp_kn B n s)) (s := g_26) (by decide) (gr_kn (gr_ng (gr_pt j))) 63 (show pp_qA (g_26 0) = true from decide_eq_true (by omega)) (by rw [eg_104, eg_80, eg_67, kn_kg (rQ_g0 hs_27 (by omega))]) (by omega) (by omega))) (j_33.trans (qlp_nx (P := pp_qA) (F := fun s => pp_ng B n (pp_pt B n j) (pp_kn B n s)) (G := fun s td => qa lj (-22) (qq_ng B n lj (pp_pt B n j) (qq_pt B n lj j) (pp_kn B n s) td)) (s := g_26) (by decide) (gr_kn (gr_ng (gr_pt j))) 63 (show pp_qA (g_26 0) = true from decide_eq_true (by omega)) (by rw [eg_104, eg_80, eg_67, kn_kg (rQ_g0 hs_27 (by omega))]) (by rw [ed_117, ed_105, eg_80, eg_67, kn_kg (rQ_g0 hs_27 (by omega))]) (by omega) (by omega))) (by rw [eg_104]; exact rQ_gr (gr_ng (gr_pt j)) hs_72 iM_71) (by first | omega | decide) (by first | omega | decide) (by first | omega | decide) (by first | omega | decide) (by first | omega | decide) (by first | omega | decide) (by first | omega | decide) (by first | omega | decide) (by first | omega | decide) (by first | omega | decide) (by first | omega | decide) (by first | omega | decide) (by first | omega | decide) hw (lv_sub hl [0] rfl)
      · have dk_51 := rQ_w0 (k := 22) hs_27 d3_51 (by decide) (by decide)
        clear d3_51
        refine sb_if_eq (tgt := 36) hx hb (by decide : (0 : Int32).toInt = 0) dX10_conjunction_10 (by decide) (fun c_10_54 => ?_) (fun h => absurd h (by decide))
        exact hQ _ _ _ _ _ hw (⟨(by rw [j_33, qlp_end (P := pp_qA) (f := 64) (s := g_26) (Or.inr (decide_eq_false (by omega)))]; exact te_29), vs_30, (by rw [j_32, lp_end (P := pp_qA) (f := 64) (s := g_26) (Or.inr (decide_eq_false (by omega)))]; exact hs_27), iM_24, f_25, (by omega), (by omega), (by omega), (by omega), (by omega), (by omega), (by omega), (by omega), (by omega), (by omega), (by omega), (by omega), (by omega), j_31⟩) dX10_conjunction_36
  exact hl_4_47 ((64 - (tI M_2 60 30).toInt + ff M_2 : Int).toNat + 1) M_2 g_22 d_23 _ _ _ (Nat.lt_succ_self _) iM_2 q_7 hs_3 te_5 vs_6 u_21 (by unfold pp_bo; rw [← eg_22]) (by unfold qq_bo; rw [← eg_22, ← ed_23]) (by rw [eg_22]; exact rQ_gr (gr_ng (gr_pt j)) hr hI) (by first | omega | decide) (by first | omega | decide) (by first | omega | decide) (by first | omega | decide) (by first | omega | decide) (by first | omega | decide) (by first | omega | decide) (by first | omega | decide) (by first | omega | decide) (by first | omega | decide) (by first | omega | decide) (by first | omega | decide) (by first | omega | decide) hw (lv_sub hl [0] rfl)
set_option maxHeartbeats 4000000 in
set_option maxRecDepth 100000 in
theorem x_X10_expression_s (l : Launch) (D : va_G) (A : Nat → Nat → Nat) (cy : Nat → ClassId) (hJ : ti_inj ti_LM A) (M : ti_M) (hI : mI Tm M) (j a d : Nat) (hj : j ≤ 8) (hu : us M a d) (hc : (tY M 60 3 18).toInt ≤ (tI M 60 30).toInt + 64 - 64 * ff M) (ho : (tI M 60 29).toInt + j ≤ 16 - 8 * ff M) (ho2 : 8 * ff M ≤ (tI M 60 29).toInt + j) (B : Nat → Int) (n : Nat) (rg : Nat → Int) (hr : rQ B n rg M) (lj : Nat) (hlj : lj < 3) (td : Nat → Int) (he : qE a d lj td M) (hvs : vs M) (ih : ∀ i : Nat, i < j → ∀ (l : Launch) (D : va_G) (A : Nat → Nat → Nat) (cy : Nat → ClassId) (hJ : ti_inj ti_LM A) (M : ti_M) (hI : mI Tm M) (a d : Nat) (hj : i ≤ 8) (hu : us M a d) (hc : (tY M 60 3 18).toInt ≤ (tI M 60 30).toInt + 64 - 64 * ff M) (ho : (tI M 60 29).toInt + i ≤ 16 - 8 * ff M) (ho2 : 8 * ff M ≤ (tI M 60 29).toInt + i) (B : Nat → Int) (n : Nat) (rg : Nat → Int) (hr : rQ B n rg M) (lj : Nat) (hlj : lj < 3) (td : Nat → Int) (he : qE a d lj td M) (hvs : vs M), ti_KvE l yX10_expression cX10_expression 1 (78 + 71 * i) ti_LM D A cy M [.ref (A 60 0)] (fun M2 => qE a (d + 1) lj (qq_ei B n lj (pp_pt B n i) (qq_pt B n lj i) rg td) M2 ∧ vs M2 ∧ rQ B n (pp_ei B n (pp_pt B n i) rg) M2 ∧ mI Tm M2 ∧ pe M2 M ∧ (pg M ≤ pg M2) ∧ (0 ≤ ff M2) ∧ (ff M2 ≤ ff M) ∧ ((tI M 60 30).toInt ≤ (tI M2 60 30).toInt) ∧ ((tI M2 60 30).toInt ≤ 64) ∧ ((tI M2 60 29).toInt ≤ (tI M 60 29).toInt + 8 - 8 * ff M2) ∧ ((tI M 60 29).toInt ≤ (tI M2 60 29).toInt + 8 - 8 * ff M2) ∧ ((tI M2 60 30).toInt - (tY M2 60 3 18).toInt ≤ (tI M 60 30).toInt - (tY M 60 3 18).toInt + 200 - 200 * ff M2) ∧ ((tI M 60 30).toInt - (tY M 60 3 18).toInt ≤ (tI M2 60 30).toInt - (tY M2 60 3 18).toInt + 200 - 200 * ff M2) ∧ (0 ≤ (tY M2 60 3 18).toInt) ∧ ((tY M2 60 3 18).toInt ≤ 64) ∧ (0 ≤ (tI M2 60 29).toInt) ∧ ((tI M2 60 29).toInt ≤ 8) ∧ us M2 a (d + 1))) : ti_KvE l yX10_expression cX10_expression 1 (78 + 71 * j) ti_LM D A cy M [.ref (A 60 0)] (fun M2 => qE a (d + 1) lj (qq_ei B n lj (pp_pt B n j) (qq_pt B n lj j) rg td) M2 ∧ vs M2 ∧ rQ B n (pp_ei B n (pp_pt B n j) rg) M2 ∧ mI Tm M2 ∧ pe M2 M ∧ (pg M ≤ pg M2) ∧ (0 ≤ ff M2) ∧ (ff M2 ≤ ff M) ∧ ((tI M 60 30).toInt ≤ (tI M2 60 30).toInt) ∧ ((tI M2 60 30).toInt ≤ 64) ∧ ((tI M2 60 29).toInt ≤ (tI M 60 29).toInt + 8 - 8 * ff M2) ∧ ((tI M 60 29).toInt ≤ (tI M2 60 29).toInt + 8 - 8 * ff M2) ∧ ((tI M2 60 30).toInt - (tY M2 60 3 18).toInt ≤ (tI M 60 30).toInt - (tY M 60 3 18).toInt + 200 - 200 * ff M2) ∧ ((tI M 60 30).toInt - (tY M 60 3 18).toInt ≤ (tI M2 60 30).toInt - (tY M2 60 3 18).toInt + 200 - 200 * ff M2) ∧ (0 ≤ (tY M2 60 3 18).toInt) ∧ ((tY M2 60 3 18).toInt ≤ 64) ∧ (0 ≤ (tI M2 60 29).toInt) ∧ ((tI M2 60 29).toInt ≤ 8) ∧ us M2 a (d + 1)) := by
  refine ti_eVE yp_X10_expression hJ ti_LM_nd (Nat.le_of_ble_eq_true rfl) ?_
  intro p e s m args below meth c Q H0 C hE hQ hw ls hl
  have hx := C.1
  have hb := C.2.1
  have hl : lv_has ls 1 [(0, .ref (A 60 0))] := hl
  have hI30 := b30 hI
  have hI29 := b29 hI
  have hI18 := b18 hI
  have hIff := ff_b M
  refine lv_aload_n hx hb dX10_expression_0 rfl (lv_at hl 0 rfl) ?_
  refine ti_callVvE (ci := 10) (av := []) C hE hw (x_X10_conjunction l D A cy hJ M hI j a (d) (by omega) hu (by omega) (by omega) (by omega) B n rg hr lj hlj td he hvs ih) ⟨ml_X10_276, ym_X10_conjunction, yv_X10_conjunction, yi_X10_conjunction, yc_X10_conjunction⟩ yd_X10_conjunction ob_60 (by decide) rfl rfl hl.1 (Nat.le_of_ble_eq_true rfl) ⟨by simp only [ti_rm]; omega, by simp only [ti_rm]; omega⟩ ⟨Nat.zero_le _, Nat.zero_le _⟩ dX10_expression_1 (fun M_2 H locs hp_2 hw => ?_)
  obtain ⟨te_5, vs_6, hs_3, hp_4⟩ := hp_2
  obtain ⟨iM_2, q_7, p_8, p_9, p_10, p_11, p_12, p_13, p_14, p_15, p_16, p_17, p_18, p_19, p_20, u_21⟩ := hp_4
  obtain ⟨g_22, eg_22⟩ : ∃ z : Nat → Int, z = pp_bo B n (pp_pt B n j) rg := ⟨_, rfl⟩
  rw [← eg_22] at hs_3
  obtain ⟨d_23, ed_23⟩ : ∃ z : Nat → Int, z = qq_bo B n lj (pp_pt B n j) (qq_pt B n lj j) rg td := ⟨_, rfl⟩
  rw [← ed_23] at te_5
  have hl_4_47 : ∀ (n_48 : Nat) (M_24 : ti_M) (g_26 : Nat → Int) (d_28 : Nat → Int) (H : Heap) (locs : List Loc) (ls : Array Slot), (64 - (tI M_24 60 30).toInt + ff M_24 : Int).toNat < n_48 → (mI Tm M_24) → (pe M_24 M) → (rQ B n g_26 M_24) → (qE a (d + 1) lj d_28 M_24) → (vs M_24) → (us M_24 a (d + 1)) → (pp_ei B n (pp_pt B n j) rg = pp_lp pp_qO (fun s => pp_bo B n (pp_pt B n j) (pp_kn B n s)) 64 g_26) → (qq_ei B n lj (pp_pt B n j) (qq_pt B n lj j) rg td = qq_lp pp_qO (fun s => pp_bo B n (pp_pt B n j) (pp_kn B n s)) (fun s td => qa lj (-23) (qq_bo B n lj (pp_pt B n j) (qq_pt B n lj j) (pp_kn B n s) td)) 64 g_26 d_28) → (g_26 0 = 28 ∨ (1 ≤ g_26 8 ∧ g_26 8 ≤ 64)) → (pg M ≤ pg M_24) → (0 ≤ ff M_24) → (ff M_24 ≤ ff M) → ((tI M 60 30).toInt ≤ (tI M_24 60 30).toInt) → ((tI M_24 60 30).toInt ≤ 64) → ((tI M_24 60 29).toInt ≤ (tI M 60 29).toInt + 8 - 8 * ff M_24) → ((tI M 60 29).toInt ≤ (tI M_24 60 29).toInt + 8 - 8 * ff M_24) → ((tI M_24 60 30).toInt - (tY M_24 60 3 18).toInt ≤ (tI M 60 30).toInt - (tY M 60 3 18).toInt + 200 - 200 * ff M_24) → ((tI M 60 30).toInt - (tY M 60 3 18).toInt ≤ (tI M_24 60 30).toInt - (tY M_24 60 3 18).toInt + 200 - 200 * ff M_24) → (0 ≤ (tY M_24 60 3 18).toInt) → ((tY M_24 60 3 18).toInt ≤ 64) → (0 ≤ (tI M_24 60 29).toInt) → ((tI M_24 60 29).toInt ≤ 8) → ti_H ti_LM D A cy H0 M_24 H locs → lv_has ls 1 [(0, .ref (A 60 0))] → W p l e (ti_rm (78 + 71 * j)) s m args below meth c H locs 0 0 Q (F0 m 4 ls []) := by
    intro n_48
    induction n_48 with
    | zero => intro M_24 g_26 d_28 H locs ls hf_48; exact absurd hf_48 (Nat.not_lt_zero _)
    | succ n_48 ih_48 =>
      intro M_24 g_26 d_28 H locs ls hf_48 iM_24 f_25 hs_27 te_29 vs_30 j_31 j_32 j_33 j_34 j_35 j_36 j_37 j_38 j_39 j_40 j_41 j_42 j_43 j_44 j_45 j_46 j_47 hw hl
      refine lv_aload_n hx hb dX10_expression_4 rfl (lv_at hl 0 rfl) ?_
      refine lv_bipush (v := 16) hx hb dX10_expression_5 (by decide) ?_
      refine ti_callVi (ci := 10) (av := [.int 16]) C hw (x_X10_isWord l D A cy hJ M_24 iM_24 16) ⟨ml_X10_261, ym_X10_isWord, yv_X10_isWord, yi_X10_isWord, yc_X10_isWord⟩ yd_X10_isWord ob_60 (by decide) rfl rfl hl.1 (Nat.le_of_ble_eq_true rfl) ⟨by simp only [ti_rm]; omega, by simp only [ti_rm]; omega⟩ ⟨Nat.zero_le _, Nat.zero_le _⟩ dX10_expression_7 (fun r_49 M_50 H locs hp_50 hw => ?_)
      obtain ⟨hm, hz⟩ := hp_50
      have hw := hw.to hm
      rcases hz with ⟨rfl, d0_51, d1_51, d2_51⟩ | ⟨rfl, d3_51⟩
      · have dk_51 := rQ_w1 (k := 23) hs_27 d0_51 d1_51 d2_51 (by decide)
        have z_52 : ff M_24 = 1 := ff_1 d0_51
        have z_53 : pg M_24 = 2 * (tI M_24 60 21).toInt := pg_3 (by rw [d1_51]; decide)
        clear d0_51 d1_51 d2_51
        refine sb_if_eq (tgt := 36) hx hb (by decide : (1 : Int32).toInt = 1) dX10_expression_10 (by decide) (fun h => absurd h (by decide)) (fun c_10_53 => ?_)
        refine lv_aload_n hx hb dX10_expression_13 rfl (lv_at hl 0 rfl) ?_
        refine ti_callVv (ci := 10) (av := []) C hw (x_X10_knot l D A cy hJ M_24 iM_24  B n g_26 hs_27) ⟨ml_X10_279, ym_X10_knot, yv_X10_knot, yi_X10_knot, yc_X10_knot⟩ yd_X10_knot ob_60 (by decide) rfl rfl hl.1 (Nat.le_of_ble_eq_true rfl) ⟨by simp only [ti_rm]; omega, by simp only [ti_rm]; omega⟩ ⟨Nat.zero_le _, Nat.zero_le _⟩ dX10_expression_14 (fun M_57 H locs hp_57 hw => ?_)
        obtain ⟨hs_58, hp_59⟩ := hp_57
        obtain ⟨iM_57, q_60, z_61, z_62, z_63, z_64, z_65, z_66⟩ := l_kn hp_59
        clear hp_59
        obtain ⟨g_67, eg_67⟩ : ∃ z : Nat → Int, z = pp_k1 g_26 := ⟨_, rfl⟩
        rw [← eg_67] at hs_58
        have te_68 : qE a (d + 1) lj d_28 M_57 := qE_fr te_29 q_60.1 (by omega)
        have vs_69 : vs M_57 := vs_fr vs_30 (by omega) (q_60.2 23 (by decide)) (q_60.2 24 (by decide))
        refine lv_aload_n hx hb dX10_expression_17 rfl (lv_at hl 0 rfl) ?_
        refine ti_callVvE (ci := 10) (av := []) C hE hw (x_X10_goOn l D A cy hJ M_57 iM_57  B n g_67 hs_58) ⟨ml_X10_267, ym_X10_goOn, yv_X10_goOn, yi_X10_goOn, yc_X10_goOn⟩ yd_X10_goOn ob_60 (by decide) rfl rfl hl.1 (Nat.le_of_ble_eq_true rfl) ⟨by simp only [ti_rm]; omega, by simp only [ti_rm]; omega⟩ ⟨Nat.zero_le _, Nat.zero_le _⟩ dX10_expression_18 (fun M_71 H locs hp_71 hw => ?_)
        obtain ⟨hs_72, hp_73⟩ := hp_71
        obtain ⟨iM_71, q_74, z_75, z_76, z_77, z_78, z_79⟩ := l_go hp_73
        clear hp_73
        obtain ⟨g_80, eg_80⟩ : ∃ z : Nat → Int, z = pp_go B n g_67 := ⟨_, rfl⟩
        rw [← eg_80] at hs_72
        have te_81 : qE a (d + 1) lj d_28 M_71 := qE_fr te_68 q_74.1 (by omega)
        have vs_82 : vs M_71 := (fun q9 => vs_av hs_72 (by rw [eg_80]; unfold pp_go; rw [if_pos (rQ_g0 hs_58 (ff_1 (ff_q (by omega) q9)))]; exact av_v) q9)
        refine lv_aload_n hx hb dX10_expression_21 rfl (lv_at hl 0 rfl) ?_
        refine ti_callVvE (ci := 10) (av := []) C hE hw (x_X10_conjunction l D A cy hJ M_71 iM_71 j a (d + 1) (by omega) (us_q (x := 21) (y := 30) j_31 (pr.trans (pr_w q_74 (by decide) (by decide)) (pr_w q_60 (by decide) (by decide))) (by omega)) (by omega) (by omega) (by omega) B n g_80 hs_72 lj hlj d_28 te_81 vs_82 ih) ⟨ml_X10_276, ym_X10_conjunction, yv_X10_conjunction, yi_X10_conjunction, yc_X10_conjunction⟩ yd_X10_conjunction ob_60 (by decide) rfl rfl hl.1 (Nat.le_of_ble_eq_true rfl) ⟨by simp only [ti_rm]; omega, by simp only [ti_rm]; omega⟩ ⟨Nat.zero_le _, Nat.zero_le _⟩ dX10_expression_22 (fun M_84 H locs hp_84 hw => ?_)
        obtain ⟨te_87, vs_88, hs_85, hp_86⟩ := hp_84
        obtain ⟨iM_84, q_89, p_90, p_91, p_92, p_93, p_94, p_95, p_96, p_97, p_98, p_99, p_100, p_101, p_102, u_103⟩ := hp_86
        obtain ⟨g_104, eg_104⟩ : ∃ z : Nat → Int, z = pp_bo B n (pp_pt B n j) g_80 := ⟨_, rfl⟩
        rw [← eg_104] at hs_85
        obtain ⟨d_105, ed_105⟩ : ∃ z : Nat → Int, z = qq_bo B n lj (pp_pt B n j) (qq_pt B n lj j) g_80 d_28 := ⟨_, rfl⟩
        rw [← ed_105] at te_87
        refine lv_aload_n hx hb dX10_expression_25 rfl (lv_at hl 0 rfl) ?_
        refine lv_iconst (v := 2) hx hb dX10_expression_26 (by decide) ?_
        refine lv_sipush (v := 262) hx hb dX10_expression_27 (by decide) ?_
        refine ti_callVv (ci := 10) (av := [.int 2, .int 262]) C hw (x_X10_puts l D A cy hJ M_84 iM_84 a (d + 1 + 1) (d + 1) 2 262 u_103 (nL (by omega)) (by first | exact Or.inr (Or.inr (Or.inl ⟨by decide, by omega, rfl⟩)) | exact nF (by omega))) ⟨ml_X10_282, ym_X10_puts, yv_X10_puts, yi_X10_puts, yc_X10_puts⟩ yd_X10_puts ob_60 (by decide) rfl rfl hl.1 (Nat.le_of_ble_eq_true rfl) ⟨by simp only [ti_rm]; omega, by simp only [ti_rm]; omega⟩ ⟨Nat.zero_le _, Nat.zero_le _⟩ dX10_expression_30 (fun M_107 H locs hp_107 hw => ?_)
        have piM_107 := (hp_107).2.2.2.2.1
        obtain ⟨puM_107, hqM_107⟩ := hp_107
        have hs_108 := rQ_pe hs_85 hqM_107.2.1 hqM_107.2.2.2.1
        obtain ⟨iM_107, q_109, u_110, z_111, z_112, z_113, z_114, z_115, z_116⟩ := l_pu iM_84 hqM_107
        clear hqM_107
        have te_118 : qE a (d + 1) lj (qa lj (-23) d_105) M_107 := qE_pu hlj te_87 puM_107 (fun q9 => by have q8 := ff_1 q9; exact ⟨by decide, fun q => absurd q (by decide)⟩) (fun q9 => by have q8 := ff_1 q9; exact Or.inr (Or.inl ⟨by decide, by decide, by omega, rfl⟩))
        obtain ⟨d_117, ed_117⟩ : ∃ z : Nat → Int, z = qa lj (-23) d_105 := ⟨_, rfl⟩
        rw [← ed_117] at te_118
        have vs_119 : vs M_107 := fun q9 q8 => by rw [piM_107 23 (by decide)] at q8; rw [piM_107 24 (by decide)]; exact vs_88 (by rw [← puM_107.1]; exact q9) q8
        refine lv_goto (tgt := 4) hx hb dX10_expression_33 (by decide) ?_
        exact ih_48 M_107 g_104 d_117 _ _ _ (by omega) iM_107 (pe.trans q_109 (pe.trans q_89 (pe.trans (pe_pr q_74 (by decide) (by decide)) (pe.trans (pe_pr q_60 (by decide) (by decide)) f_25)))) hs_108 te_118 vs_119 u_110 (j_32.trans (lp_nx (P := pp_qO) (G := fun s => pp_bo B n (pp_pt B n j) (pp_kn B n s)) (s := g_26) (by decide) (gr_kn (gr_bo (gr_pt j))) 63 (show pp_qO (g_26 0) = true from decide_eq_true (by omega)) (by rw [eg_104, eg_80, eg_67, kn_kg (rQ_g0 hs_27 (by omega))]) (by omega) (by omega))) (j_33.trans (qlp_nx (P := pp_qO) (F := fun s => pp_bo B n (pp_pt B n j) (pp_kn B n s)) (G := fun s td => qa lj (-23) (qq_bo B n lj (pp_pt B n j) (qq_pt B n lj j) (pp_kn B n s) td)) (s := g_26) (by decide) (gr_kn (gr_bo (gr_pt j))) 63 (show pp_qO (g_26 0) = true from decide_eq_true (by omega)) (by rw [eg_104, eg_80, eg_67, kn_kg (rQ_g0 hs_27 (by omega))]) (by rw [ed_117, ed_105, eg_80, eg_67, kn_kg (rQ_g0 hs_27 (by omega))]) (by omega) (by omega))) (by rw [eg_104]; exact rQ_gr (gr_bo (gr_pt j)) hs_72 iM_71) (by first | omega | decide) (by first | omega | decide) (by first | omega | decide) (by first | omega | decide) (by first | omega | decide) (by first | omega | decide) (by first | omega | decide) (by first | omega | decide) (by first | omega | decide) (by first | omega | decide) (by first | omega | decide) (by first | omega | decide) (by first | omega | decide) hw (lv_sub hl [0] rfl)
      · have dk_51 := rQ_w0 (k := 23) hs_27 d3_51 (by decide) (by decide)
        clear d3_51
        refine sb_if_eq (tgt := 36) hx hb (by decide : (0 : Int32).toInt = 0) dX10_expression_10 (by decide) (fun c_10_54 => ?_) (fun h => absurd h (by decide))
        exact hQ _ _ _ _ _ hw (⟨(by rw [j_33, qlp_end (P := pp_qO) (f := 64) (s := g_26) (Or.inr (decide_eq_false (by omega)))]; exact te_29), vs_30, (by rw [j_32, lp_end (P := pp_qO) (f := 64) (s := g_26) (Or.inr (decide_eq_false (by omega)))]; exact hs_27), iM_24, f_25, (by omega), (by omega), (by omega), (by omega), (by omega), (by omega), (by omega), (by omega), (by omega), (by omega), (by omega), (by omega), (by omega), j_31⟩) dX10_expression_36
  exact hl_4_47 ((64 - (tI M_2 60 30).toInt + ff M_2 : Int).toNat + 1) M_2 g_22 d_23 _ _ _ (Nat.lt_succ_self _) iM_2 q_7 hs_3 te_5 vs_6 u_21 (by unfold pp_ei; rw [← eg_22]) (by unfold qq_ei; rw [← eg_22, ← ed_23]) (by rw [eg_22]; exact rQ_gr (gr_bo (gr_pt j)) hr hI) (by first | omega | decide) (by first | omega | decide) (by first | omega | decide) (by first | omega | decide) (by first | omega | decide) (by first | omega | decide) (by first | omega | decide) (by first | omega | decide) (by first | omega | decide) (by first | omega | decide) (by first | omega | decide) (by first | omega | decide) (by first | omega | decide) hw (lv_sub hl [0] rfl)
theorem x_X10_expression : ∀ j : Nat, ∀ (l : Launch) (D : va_G) (A : Nat → Nat → Nat) (cy : Nat → ClassId) (hJ : ti_inj ti_LM A) (M : ti_M) (hI : mI Tm M) (a d : Nat) (hj : j ≤ 8) (hu : us M a d) (hc : (tY M 60 3 18).toInt ≤ (tI M 60 30).toInt + 64 - 64 * ff M) (ho : (tI M 60 29).toInt + j ≤ 16 - 8 * ff M) (ho2 : 8 * ff M ≤ (tI M 60 29).toInt + j) (B : Nat → Int) (n : Nat) (rg : Nat → Int) (hr : rQ B n rg M) (lj : Nat) (hlj : lj < 3) (td : Nat → Int) (he : qE a d lj td M) (hvs : vs M), ti_KvE l yX10_expression cX10_expression 1 (78 + 71 * j) ti_LM D A cy M [.ref (A 60 0)] (fun M2 => qE a (d + 1) lj (qq_ei B n lj (pp_pt B n j) (qq_pt B n lj j) rg td) M2 ∧ vs M2 ∧ rQ B n (pp_ei B n (pp_pt B n j) rg) M2 ∧ mI Tm M2 ∧ pe M2 M ∧ (pg M ≤ pg M2) ∧ (0 ≤ ff M2) ∧ (ff M2 ≤ ff M) ∧ ((tI M 60 30).toInt ≤ (tI M2 60 30).toInt) ∧ ((tI M2 60 30).toInt ≤ 64) ∧ ((tI M2 60 29).toInt ≤ (tI M 60 29).toInt + 8 - 8 * ff M2) ∧ ((tI M 60 29).toInt ≤ (tI M2 60 29).toInt + 8 - 8 * ff M2) ∧ ((tI M2 60 30).toInt - (tY M2 60 3 18).toInt ≤ (tI M 60 30).toInt - (tY M 60 3 18).toInt + 200 - 200 * ff M2) ∧ ((tI M 60 30).toInt - (tY M 60 3 18).toInt ≤ (tI M2 60 30).toInt - (tY M2 60 3 18).toInt + 200 - 200 * ff M2) ∧ (0 ≤ (tY M2 60 3 18).toInt) ∧ ((tY M2 60 3 18).toInt ≤ 64) ∧ (0 ≤ (tI M2 60 29).toInt) ∧ ((tI M2 60 29).toInt ≤ 8) ∧ us M2 a (d + 1)) := by
  intro j
  induction j using Nat.strongRecOn with
  | ind j ih =>
    intro l D A cy hJ M hI a d hj hu hc ho ho2 B n rg hr lj hlj td he hvs
    exact x_X10_expression_s l D A cy hJ M hI j a d hj hu hc ho ho2 B n rg hr lj hlj td he hvs ih
end
section
variable {Tc : gC} {Tm : gM}
def pp_by (z : Int32) (j : Nat) : Int := ((z >>> (nI (24 - 8 * j) &&& 31)) &&& 255).toInt
def pp_fb (a b c d e : Int32) (j : Nat) : Int := pp_by (if j < 4 then a else if j < 8 then b else if j < 12 then c else if j < 16 then d else e) (j % 4)
section
variable {B : Nat → Int} {n : Nat} {s g : Nat → Int}
def pp_mq (B : Nat → Int) (n : Nat) (s : Nat → Int) : Nat → Int := pp_m5 (pp_m4 B n (pp_m3 B n (pp_m2 (pp_su s (100 + (s 7).toNat) (s 1)))))
theorem mn_q : pp_mn B n s = if s 7 < 8 then pp_mq B n (pp_av B n s) else pp_rf 2 s := by
  unfold pp_mn pp_mq pp_m1
  rw [av_n (j := 7) (by decide)]
def pp_gq (B : Nat → Int) (n : Nat) (a : Nat → Int) : Nat → Int := if pp_tv a = -1 then pp_tm a else pp_g3 B n (pp_tv a) (pp_g1 B n (pp_tv a) (pp_tm a))
theorem gd_q : pp_gd B n s = pp_gq B n (pp_av B n s) := rfl
def pp_pq (B : Nat → Int) (n : Nat) (a : Nat → Int) : Nat → Int := if 9 ≤ a 0 ∧ a 0 ≤ 11 then pp_nb B n 0 7 (pp_on B n a) else pp_rf 1 a
theorem pw_q : pp_pw B n s = pp_pq B n (pp_av B n s) := rfl
def pp_lq (B : Nat → Int) (n : Nat) (a : Nat → Int) : Nat → Int := if 12 ≤ a 0 ∧ a 0 ≤ 14 then pp_ei B n (pp_pt B n 8) (pp_on B n a) else pp_rf 1 a
def pp_lw (B : Nat → Int) (n : Nat) (s : Nat → Int) : Nat → Int := pp_lq B n (pp_av B n s)
/-- a line but its semicolon -/
def pp_lb (B : Nat → Int) (n : Nat) (s : Nat → Int) : Nat → Int := if s 0 = 0 then pp_mn B n s else if s 0 = 1 then pp_gd B n s else if s 0 = 2 then pp_pw B n s else if s 0 = 3 then pp_nb B n 1 9 (pp_nb B n 0 999 (pp_on B n s)) else if s 0 = 4 then pp_nb B n 1 30 (pp_on B n s) else if s 0 = 5 then pp_nb B n 1 7 (pp_on B n s) else if s 0 = 6 then pp_nb B n 0 99 (pp_on B n s) else if s 0 = 7 then pp_nb B n 0 99999 (pp_on B n s) else if s 0 = 8 then pp_lw B n s else pp_rf 1 s
def pp_l9 (s : Nat → Int) : Nat → Int := pp_su s 9 (s 9 + 1)
def pp_ln (B : Nat → Int) (n : Nat) (s : Nat → Int) : Nat → Int := pp_l9 (pp_tk B n 29 (pp_lb B n s))
/-- the lines of a text, up to the first fault -/
def pp_rd (B : Nat → Int) (n : Nat) : Nat → (Nat → Int) → Nat → Int
  | 0, s => s
  | f + 1, s => if s 0 ≠ 27 ∧ s 4 = 0 then pp_rd B n f (pp_ln B n s) else s
theorem rd_step {f f' : Nat} {s' : Nat → Int} (h : s 0 ≠ 27 ∧ s 4 = 0) (e : s' = pp_ln B n s) (hf : f = f' + 1) : pp_rd B n f s = pp_rd B n f' s' := by
  subst e hf
  rw [pp_rd, if_pos h]
theorem rd_end {f : Nat} (h : f = 0 ∨ s 0 = 27 ∨ s 4 ≠ 0) : pp_rd B n f s = s := by
  cases f with
  | zero => rfl
  | succ f => rw [pp_rd, if_neg (by omega)]
/-- the registers ahead of the first line; what J tells of men isn't looked at -/
def pp_r0 (B : Nat → Int) (n : Nat) (J : Nat → Int) : Nat → Int := fun j => if j = 0 then pt_K B n 0 else if j = 1 then pt_V B n 0 else if j = 2 then ((pt_P B n 0 : Nat) : Int) else if j = 3 then pt_A B n 0 else if j = 4 then 0 else if j = 5 then -1 else if j = 7 ∨ j = 8 ∨ j = 9 then 0 else if 300 ≤ j ∧ j < 315 then 0 else J j
/-- the registers behind the text -/
def pp_tx (B : Nat → Int) (n : Nat) (J : Nat → Int) : Nat → Int := pp_rd B n (n + 1) (pp_r0 B n J)
/-- what text() answers -/
def pp_an (s : Nat → Int) : Int := if s 4 = 0 then s 9 else -1
theorem m2_n {j : Nat} (hj : 6 ≤ j) : pp_m2 s j = s j := by
  unfold pp_m2
  split
  · exact rf_n hj
  · rfl
theorem m3_n {j : Nat} (hj : 6 ≤ j) : pp_m3 B n s j = s j := by
  unfold pp_m3
  rw [nb_n hj, nb_n hj, nb_n hj, nb_n hj, nb_n hj, nb_n hj, nb_n hj, tk_n hj]
theorem m4_n {j : Nat} (hj : 6 ≤ j) : pp_m4 B n s j = s j := by
  unfold pp_m4
  split
  · exact av_n (by omega)
  · rfl
theorem tm_n {j : Nat} (hj : 6 ≤ j) : pp_tm s j = s j := by
  unfold pp_tm
  split
  · split
    · exact rf_n hj
    · rfl
  · exact rf_n hj
theorem on_9 : pp_on B n s 9 = s 9 := by
  unfold pp_on
  split
  · rw [av_n (by decide), su_n (by omega)]
  · exact rf_n (by decide)
theorem kn_9 : pp_kn B n s 9 = s 9 := by
  unfold pp_kn
  split
  · rw [av_n (by decide), su_n (by decide)]
  · exact rf_n (by decide)
theorem lp_9 {P : Int → Bool} {F : (Nat → Int) → Nat → Int} (hF : ∀ s : Nat → Int, F s 9 = s 9) : ∀ (f : Nat) (s : Nat → Int), pp_lp P F f s 9 = s 9 := by
  intro f
  induction f with
  | zero => intro s; rfl
  | succ f ih =>
    intro s
    rw [pp_lp]
    split
    · rw [ih, hF]
    · rfl
section
variable {F : (Nat → Int) → Nat → Int}
theorem pd_9 (hF : ∀ s : Nat → Int, F s 9 = s 9) (s : Nat → Int) : pp_pd B n F s 9 = s 9 := by
  unfold pp_pd
  rw [lp_9 (fun s => by rw [hF, kn_9]), hF]
theorem sm_9 (hF : ∀ s : Nat → Int, F s 9 = s 9) (s : Nat → Int) : pp_sm B n F s 9 = s 9 := by
  unfold pp_sm
  rw [lp_9 (fun s => by rw [pd_9 hF, kn_9]), pd_9 hF]
theorem cm_9 (hF : ∀ s : Nat → Int, F s 9 = s 9) (s : Nat → Int) : pp_cm B n F s 9 = s 9 := by
  unfold pp_cm pp_c2
  split
  · rw [sm_9 hF, kn_9, sm_9 hF]
  · rw [sm_9 hF]
theorem ng_9 (hF : ∀ s : Nat → Int, F s 9 = s 9) (s : Nat → Int) : pp_ng B n F s 9 = s 9 := by
  unfold pp_ng
  rw [cm_9 hF, lp_9 (fun s => kn_9)]
theorem bo_9 (hF : ∀ s : Nat → Int, F s 9 = s 9) (s : Nat → Int) : pp_bo B n F s 9 = s 9 := by
  unfold pp_bo
  rw [lp_9 (fun s => by rw [ng_9 hF, kn_9]), ng_9 hF]
theorem ei_9 (hF : ∀ s : Nat → Int, F s 9 = s 9) (s : Nat → Int) : pp_ei B n F s 9 = s 9 := by
  unfold pp_ei
  rw [lp_9 (fun s => by rw [bo_9 hF, kn_9]), bo_9 hF]
end
theorem p0_9 (s : Nat → Int) : pp_p0 B n s 9 = s 9 := by
  unfold pp_p0
  split
  · split
    · exact rf_n (by decide)
    · exact kn_9
  · split
    · exact kn_9
    · exact rf_n (by decide)
theorem pt_9 : ∀ (d : Nat) (s : Nat → Int), pp_pt B n d s 9 = s 9 := by
  intro d
  induction d with
  | zero =>
    intro s
    rw [pp_pt]
    split
    · exact rf_n (by decide)
    · exact p0_9 s
  | succ d ih =>
    intro s
    rw [pp_pt]
    split
    · rw [tk_n (by decide), ei_9 ih, av_n (by decide)]
    · exact p0_9 s
theorem mn_9 : pp_mn B n s 9 = s 9 := by
  rw [mn_q]
  split
  · unfold pp_mq pp_m5
    rw [su_n (by decide), su_n (by omega), m4_n (by decide), m3_n (by decide), m2_n (by decide), su_n (by omega), av_n (by decide)]
  · exact rf_n (by decide)
theorem g1_9 {a : Int} : pp_g1 B n a s 9 = s 9 := by
  unfold pp_g1
  rw [tk_n (by decide)]
  split
  · rfl
  · exact rf_n (by decide)
theorem g3_9 {a : Int} : pp_g3 B n a s 9 = s 9 := by
  unfold pp_g3 pp_g2
  rw [su_n (by omega), tk_n (by decide)]
  split
  · rw [rf_n (by decide), tm_n (by decide)]
  · rw [tm_n (by decide)]
theorem gd_9 : pp_gd B n s 9 = s 9 := by
  unfold pp_gd
  split
  · rw [tm_n (by decide), av_n (by decide)]
  · rw [g3_9, g1_9, tm_n (by decide), av_n (by decide)]
theorem lb_9 : pp_lb B n s 9 = s 9 := by
  unfold pp_lb
  split
  · exact mn_9
  · split
    · exact gd_9
    · split
      · unfold pp_pw
        split
        · rw [nb_n (by decide), on_9, av_n (by decide)]
        · rw [rf_n (by decide), av_n (by decide)]
      · split
        · rw [nb_n (by decide), nb_n (by decide), on_9]
        · split
          · rw [nb_n (by decide), on_9]
          · split
            · rw [nb_n (by decide), on_9]
            · split
              · rw [nb_n (by decide), on_9]
              · split
                · rw [nb_n (by decide), on_9]
                · split
                  · unfold pp_lw pp_lq
                    split
                    · rw [ei_9 (pt_9 8), on_9, av_n (by decide)]
                    · rw [rf_n (by decide), av_n (by decide)]
                  · exact rf_n (by decide)
theorem ln_9 : pp_ln B n s 9 = s 9 + 1 := by
  unfold pp_ln pp_l9
  rw [su_s, tk_n (by decide), lb_9]
theorem fk_l {x y a : Nat → Int} (p : fk x a) (q : fk y a) : fk x y := ⟨p.1.trans q.1.symm, p.2.1.trans q.2.1.symm, p.2.2⟩
theorem l9_f (h : fz s) : fk (pp_l9 s) s := fk_su h (by decide)
theorem tm_f (h : fz s) : fk (pp_tm s) s := by
  unfold pp_tm
  rw [if_neg (by rw [h.2]; decide)]
  exact rf_f h
theorem g1_f {a : Int} (h : fz s) : fk (pp_g1 B n a s) s := by
  unfold pp_g1
  split
  · exact tk_f h (by decide)
  · exact (tk_f ((rf_f h).zz h) (by decide)).trans (rf_f h)
theorem g2_f {a b : Int} (h : fz s) : fk (pp_g2 B n a b s) s := by
  unfold pp_g2
  split
  · have q : fk (pp_tk B n 25 (pp_rf 5 s)) s := (tk_f ((rf_f h).zz h) (by decide)).trans (rf_f h)
    exact (fk_su (q.zz h) (by omega)).trans q
  · have q : fk (pp_tk B n 25 s) s := tk_f h (by decide)
    exact (fk_su (q.zz h) (by omega)).trans q
theorem g3_f {a : Int} (h : fz s) : fk (pp_g3 B n a s) s := by
  unfold pp_g3
  exact (g2_f ((tm_f h).zz h)).trans (tm_f h)
theorem av_su {k : Nat} {v : Int} (hk : 4 ≤ k) : pp_av B n (pp_su s k v) = pp_su (pp_av B n s) k v := by
  funext j
  by_cases q : j = k
  · subst q; rw [av_n hk, su_s, su_s]
  · rw [su_n q]
    unfold pp_av
    rw [su_n (j := 3) (by omega), su_n q]
theorem gq_1 (z : fz (pp_tm s)) (k : fk g (pp_tm s)) : fk (pp_gq B n s) g := by
  refine fk_l ?_ k
  unfold pp_gq
  split
  · exact fk.refl z
  · exact (g3_f ((g1_f z).zz z)).trans (g1_f z)
theorem tm_a (h : pp_tm s 4 = 0) : s 0 = 25 ∧ pp_tm s = s ∧ pp_tv s ≠ -1 ∧ pp_tv s = pp_fd s (s 1) 0 := by
  unfold pp_tm at *
  unfold pp_tv
  by_cases q : s 0 = 25
  · rw [if_pos q] at h ⊢
    by_cases q2 : pp_fd s (s 1) 0 = -1
    · rw [if_pos q2] at h; exact absurd h (rf_4 (by decide))
    · rw [if_neg q2, if_pos q]; exact ⟨q, rfl, q2, rfl⟩
  · rw [if_neg q] at h; exact absurd h (rf_4 (by decide))
theorem gq_2 (h : pp_tm s 4 = 0) (hg : pp_tm s (200 + (pp_tv s).toNat) ≠ -1) (k : fk g (pp_rf 3 (pp_tm s))) : fk (pp_gq B n s) g := by
  have e := tm_a h
  have z : fz (pp_rf 3 (pp_tm s)) := ⟨rf_4 (by decide), rf_0⟩
  refine fk_l ?_ k
  unfold pp_gq
  rw [if_neg e.2.2.1]
  have q : fk (pp_g1 B n (pp_tv s) (pp_tm s)) (pp_rf 3 (pp_tm s)) := by
    unfold pp_g1
    rw [if_neg hg]
    exact tk_f z (by decide)
  exact (g3_f (q.zz z)).trans q
theorem gq_e (h : pp_tm s 4 = 0) (hg : pp_tm s (200 + (pp_tv s).toNat) = -1) : pp_gq B n s = pp_g3 B n (pp_tv s) (pp_go B n (pp_tm s)) := by
  have e := tm_a h
  unfold pp_gq
  rw [if_neg e.2.2.1]
  unfold pp_g1
  rw [if_pos hg]
  unfold pp_tk pp_go
  rw [if_pos (show pp_tm s 0 = 25 by rw [e.2.1]; exact e.1), if_pos h]
theorem gq_3 (h : pp_tm s 4 = 0) (hg : pp_tm s (200 + (pp_tv s).toNat) = -1) (z : fz (pp_tm (pp_go B n (pp_tm s)))) (k : fk g (pp_tm (pp_go B n (pp_tm s)))) : fk (pp_gq B n s) g := by
  refine fk_l ?_ k
  rw [gq_e h hg]
  unfold pp_g3
  exact g2_f z
theorem gq_4 (h : pp_tm s 4 = 0) (hg : pp_tm s (200 + (pp_tv s).toNat) = -1) (hb : pp_tv (pp_go B n (pp_tm s)) = pp_tv s) (k : fk g (pp_rf 5 (pp_tm (pp_go B n (pp_tm s))))) : fk (pp_gq B n s) g := by
  have z : fz (pp_rf 5 (pp_tm (pp_go B n (pp_tm s)))) := ⟨rf_4 (by decide), rf_0⟩
  refine fk_l ?_ k
  rw [gq_e h hg]
  unfold pp_g3 pp_g2
  rw [if_pos hb]
  have q := tk_f (B := B) (n := n) (k := 25) z (by decide)
  exact (fk_su (q.zz z) (by omega)).trans q
theorem gq_5 (h : pp_tm s 4 = 0) (hg : pp_tm s (200 + (pp_tv s).toNat) = -1) (h2 : pp_tm (pp_go B n (pp_tm s)) 4 = 0) (hb : pp_tv (pp_go B n (pp_tm s)) ≠ pp_tv s) : pp_gq B n s = pp_av B n (pp_su (pp_tm (pp_go B n (pp_tm s))) (200 + (pp_tv s).toNat) (pp_tv (pp_go B n (pp_tm s)))) := by
  have e := tm_a h2
  rw [gq_e h hg, av_su (by omega)]
  unfold pp_g3 pp_g2
  rw [if_neg hb]
  unfold pp_tk
  rw [if_pos (by rw [e.2.1]; exact e.1)]
theorem pt_pw0 : ∀ k : Nat, k < 25 → ((10 ≤ pt_pm.getD k 0 ∧ pt_pm.getD k 0 ≤ 12) ↔ (9 ≤ k ∧ k ≤ 11)) ∧ ((13 ≤ pt_pm.getD k 0 ∧ pt_pm.getD k 0 ≤ 15) ↔ (12 ≤ k ∧ k ≤ 14)) ∧ (9 ≤ k → k ≤ 14 → pt_pm.getD k 0 = k + 1) ∧ (pt_pm.getD k 0 ≤ 8 ↔ k ≤ 8) ∧ (k ≤ 8 → pt_pm.getD k 0 = k) := by decide +kernel
theorem pT_pw {x w : Int} (T : pt_T (s 0) (s 1) x w) : ((x = 0 ∧ 10 ≤ w ∧ w ≤ 12) → 9 ≤ s 0 ∧ s 0 ≤ 11 ∧ w = s 0 + 1) ∧ ((x = 0 ∧ 13 ≤ w ∧ w ≤ 15) → 12 ≤ s 0 ∧ s 0 ≤ 14 ∧ w = s 0 + 1) ∧ ((x = 0 ∧ w ≤ 8) → 0 ≤ s 0 ∧ s 0 ≤ 8 ∧ w = s 0) := by
  refine ⟨fun q => ?_, fun q => ?_, fun q => ?_⟩
  all_goals
    have e := pt_Twd T q.1
    have r := pt_pw0 (s 0).toNat (by omega)
    omega
theorem pT_nw {x w : Int} (T : pt_T (s 0) (s 1) x w) : (9 ≤ s 0 ∧ s 0 ≤ 11 → x = 0 ∧ 10 ≤ w ∧ w ≤ 12) ∧ (12 ≤ s 0 ∧ s 0 ≤ 14 → x = 0 ∧ 13 ≤ w ∧ w ≤ 15) ∧ (s 0 ≤ 8 → x = 0 ∧ w ≤ 8) := by
  have h0 := T.1.1
  refine ⟨fun q => ?_, fun q => ?_, fun q => ?_⟩
  all_goals
    have e := T.2.1 (by omega)
    have r := pt_pw0 (s 0).toNat (by omega)
    omega
end
end
section
variable {Tc : gC} {Tm : gM}
def qq_lq (B : Nat → Int) (n : Nat) (a td : Nat → Int) : Nat → Int := if 12 ≤ a 0 ∧ a 0 ≤ 14 then qq_ei B n (a 0 - 12).toNat (pp_pt B n 8) (qq_pt B n (a 0 - 12).toNat 8) (pp_on B n a) td else td
def qq_lw (B : Nat → Int) (n : Nat) (s td : Nat → Int) : Nat → Int := qq_lq B n (pp_av B n s) td
def qq_lb (B : Nat → Int) (n : Nat) (s td : Nat → Int) : Nat → Int := if s 0 = 0 then qq_mn B n s td else if s 0 = 1 then td else if s 0 = 2 then qq_pw B n s td else if s 0 = 3 then pp_su (pp_su td 6 (pp_on B n s 1)) 7 (pp_nb B n 0 999 (pp_on B n s) 1) else if s 0 = 4 then pp_su td 8 (pp_on B n s 1) else if s 0 = 5 then pp_su td 9 (pp_on B n s 1) else if s 0 = 6 then pp_su td 10 (pp_on B n s 1) else if s 0 = 7 then pp_su td 11 (pp_on B n s 1) else if s 0 = 8 then qq_lw B n s td else td
def qq_mq (B : Nat → Int) (n : Nat) (s td : Nat → Int) : Nat → Int := qq_m4 (s 7).toNat (pp_m3 B n (pp_m2 (pp_su s (100 + (s 7).toNat) (s 1)))) (qq_m3 B n (s 7).toNat (pp_tk B n 25 (pp_m2 (pp_su s (100 + (s 7).toNat) (s 1)))) td)
def qq_pq (B : Nat → Int) (n : Nat) (s td : Nat → Int) : Nat → Int := if 9 ≤ s 0 ∧ s 0 ≤ 11 then pp_su td (32 + (s 0 - 9).toNat) (pp_on B n s 1) else td
theorem qmn_q {B : Nat → Int} {n : Nat} {s td : Nat → Int} (h : s 7 < 8) : qq_mn B n s td = qq_mq B n (pp_av B n s) td := by
  unfold qq_mn qq_mq pp_m1
  rw [if_pos h, show pp_av B n s 7 = s 7 from av_n (by decide)]
theorem qpw_q {B : Nat → Int} {n : Nat} {s td : Nat → Int} : qq_pw B n s td = qq_pq B n (pp_av B n s) td := rfl
theorem qm_o {B : Nat → Int} {n m k : Nat} {b g td : Nat → Int} (h : k < 100 + 16 * m ∨ 228 ≤ k) (hm : m < 8) : qq_m4 m g (qq_m3 B n m b td) k = td k := by
  unfold qq_m4 qq_m3
  rw [su_n (by omega), su_n (by omega), su_n (by omega), su_n (by omega), su_n (by omega), su_n (by omega), su_n (by omega), su_n (by omega)]
theorem qm_v {B : Nat → Int} {n m : Nat} {b g td g1 g2 g3 g4 g5 g6 : Nat → Int} (e1 : g1 = pp_nb B n 1 99 b) (e2 : g2 = pp_nb B n 0 9 g1) (e3 : g3 = pp_nb B n 1 99 g2) (e4 : g4 = pp_nb B n 1 30 g3) (e5 : g5 = pp_nb B n 0 99 g4) (e6 : g6 = pp_nb B n 0 99 g5) :
    qq_m4 m g (qq_m3 B n m b td) (100 + 16 * m + 1) = b 1 ∧ qq_m4 m g (qq_m3 B n m b td) (100 + 16 * m + 2) = g1 1 ∧ qq_m4 m g (qq_m3 B n m b td) (100 + 16 * m + 3) = g2 1 ∧ qq_m4 m g (qq_m3 B n m b td) (100 + 16 * m + 4) = g3 1 ∧ qq_m4 m g (qq_m3 B n m b td) (100 + 16 * m + 5) = g4 1 ∧ qq_m4 m g (qq_m3 B n m b td) (100 + 16 * m + 6) = g5 1 ∧ qq_m4 m g (qq_m3 B n m b td) (100 + 16 * m + 7) = g6 1 ∧ qq_m4 m g (qq_m3 B n m b td) (100 + 16 * m + 8) = if g 0 = 15 then 1 else 0 := by
  unfold qq_m4 qq_m3
  rw [← e1, ← e2, ← e3, ← e4, ← e5, ← e6]
  refine ⟨?_, ?_, ?_, ?_, ?_, ?_, ?_, su_s⟩
  · rw [su_n (by omega), su_n (by omega), su_n (by omega), su_n (by omega), su_n (by omega), su_n (by omega), su_n (by omega), su_s]
  · rw [su_n (by omega), su_n (by omega), su_n (by omega), su_n (by omega), su_n (by omega), su_n (by omega), su_s]
  · rw [su_n (by omega), su_n (by omega), su_n (by omega), su_n (by omega), su_n (by omega), su_s]
  · rw [su_n (by omega), su_n (by omega), su_n (by omega), su_n (by omega), su_s]
  · rw [su_n (by omega), su_n (by omega), su_n (by omega), su_s]
  · rw [su_n (by omega), su_n (by omega), su_s]
  · rw [su_n (by omega), su_s]
def tj (j : Nat) (td2 td : Nat → Int) : Prop := ∀ k : Nat, k ≠ 300 + j → (k < 400 + 64 * j ∨ 464 + 64 * j ≤ k) → td2 k = td k
theorem tj.refl {j : Nat} {td : Nat → Int} : tj j td td := fun _ _ _ => rfl
theorem tj.trans {j : Nat} {a b c : Nat → Int} (x : tj j a b) (y : tj j b c) : tj j a c := fun k h1 h2 => (x k h1 h2).trans (y k h1 h2)
theorem tj_a {j : Nat} {x : Int} {td : Nat → Int} : tj j (qa j x td) td := fun k h1 h2 => by
  unfold qa
  split
  · rw [su_n h1, su_n (by omega)]
  · rfl
def tP (j : Nat) (G : (Nat → Int) → (Nat → Int) → Nat → Int) : Prop := ∀ s td : Nat → Int, tj j (G s td) td
theorem tP_lp {j : Nat} {P : Int → Bool} {F : (Nat → Int) → Nat → Int} {G : (Nat → Int) → (Nat → Int) → Nat → Int} (h : tP j G) : ∀ f : Nat, tP j (qq_lp P F G f) := by
  intro f
  induction f with
  | zero => intro s td; exact tj.refl
  | succ f ih =>
    intro s td
    rw [qq_lp]
    split
    · exact (ih _ _).trans (h s td)
    · exact tj.refl
section
variable {B : Nat → Int} {n j : Nat} {F : (Nat → Int) → Nat → Int} {G : (Nat → Int) → (Nat → Int) → Nat → Int}
theorem tP_p0 : tP j (qq_p0 j) := fun s td => by
  unfold qq_p0
  repeat' split
  all_goals first | exact tj.refl | exact tj_a
theorem tP_pd (h : tP j G) : tP j (qq_pd B n j F G) := fun s td => (tP_lp (fun s td => tj_a.trans (h _ _)) 64 _ _).trans (h s td)
theorem tP_sm (h : tP j G) : tP j (qq_sm B n j F G) := fun s td => (tP_lp (fun s td => tj_a.trans (tP_pd h _ _)) 64 _ _).trans (tP_pd h s td)
theorem tP_c2 (h : tP j G) : tP j (qq_c2 B n j F G) := fun s td => by
  unfold qq_c2
  split
  · exact tj_a.trans (tP_sm h _ _)
  · exact tj.refl
theorem tP_cm (h : tP j G) : tP j (qq_cm B n j F G) := fun s td => (tP_c2 h _ _).trans (tP_sm h s td)
theorem tP_na : ∀ (f : Nat) (td : Nat → Int), tj j (qq_na j f td) td := by
  intro f
  induction f with
  | zero => intro td; exact tj.refl
  | succ f ih => intro td; exact tj_a.trans (ih td)
theorem tP_ng (h : tP j G) : tP j (qq_ng B n j F G) := fun s td => (tP_na _ _).trans (tP_cm h _ _)
theorem tP_bo (h : tP j G) : tP j (qq_bo B n j F G) := fun s td => (tP_lp (fun s td => tj_a.trans (tP_ng h _ _)) 64 _ _).trans (tP_ng h s td)
theorem tP_ei (h : tP j G) : tP j (qq_ei B n j F G) := fun s td => (tP_lp (fun s td => tj_a.trans (tP_bo h _ _)) 64 _ _).trans (tP_bo h s td)
end
theorem tP_pt {B : Nat → Int} {n j : Nat} : ∀ d : Nat, tP j (qq_pt B n j d) := by
  intro d
  induction d with
  | zero =>
    intro s td
    rw [qq_pt]
    split
    · exact tj.refl
    · exact tP_p0 s td
  | succ d ih =>
    intro s td
    rw [qq_pt]
    split
    · exact tP_ei ih _ _
    · exact tP_p0 s td
def gU (N M : ti_M) : Prop := ∀ k i : Nat, 5 ≤ k → k ≤ 13 → i < 8 → tY N 60 k i = tY M 60 k i
theorem gU.refl {M : ti_M} : gU M M := fun _ _ _ _ _ => rfl
theorem gU.trans {K N M : ti_M} (x : gU K N) (y : gU N M) : gU K M := fun k i a b c => (x k i a b c).trans (y k i a b c)
theorem gU_e {N M : ti_M} (e : N.2.1 = M.2.1) : gU N M := fun _ _ _ _ _ => cg (tY_fr e) _
theorem gU_pe {N M : ti_M} (x : pe N M) : gU N M := fun k i a b _ => by rw [x.1 k (by omega) (by omega) (by omega)]
theorem gU_Yx {N M : ti_M} {k : Nat} {f : Nat → Int32} (e : N = uY M 60 k f) (h : k < 5 ∨ 13 < k) : gU N M := fun k2 i a b _ => cg (tY_nE e (nk (by omega))) i
theorem gU_Y {N M : ti_M} {k i : Nat} {v : Int32} (e : N = uY M 60 k (upd (tY M 60 k) i v)) (h : 8 ≤ i) : gU N M := fun k2 j a b c => by
  by_cases r : k2 = k
  · subst r; rw [tY_uE e, pk_un (by omega)]
  · exact cg (tY_nE e (nk r)) j
/-- of a law -/
def qO (j : Nat) (td : Nat → Int) (M : ti_M) : Prop := 0 ≤ td (300 + j) ∧ ∃ a : Nat, (tY M 60 14 (3 + j)).toInt = a ∧ (tY M 60 15 (3 + j)).toInt = a + td (300 + j) ∧ a + td (300 + j) ≤ (tY M 60 3 18).toInt ∧ (0 < td (300 + j) → ud M a (td (300 + j)).toNat = some 1) ∧ ∀ n : Nat, (n : Int) < td (300 + j) → td (400 + 64 * j + n) = bq_kc (tY M 60 16 (64 + (a + n))).toInt (tY M 60 17 (64 + (a + n))).toInt ∧ ((tY M 60 16 (64 + (a + n))).toInt = 0 → 0 ≤ (tY M 60 17 (64 + (a + n))).toInt)
def qA (td : Nat → Int) (M : ti_M) : Prop := (∀ k : Nat, 6 ≤ k → k ≤ 11 → td k = (tY M 60 3 (6 + k)).toInt) ∧ (∀ k : Nat, k < 3 → td (32 + k) = (tY M 60 3 (19 + k)).toInt) ∧ (∀ i f : Nat, (i : Int) < (tY M 60 3 11).toInt → i < 8 → 1 ≤ f → f ≤ 8 → td (100 + 16 * i + f) = (tY M 60 (4 + f) (8 + i)).toInt) ∧ ∀ j : Nat, j < 3 → (pp_bt (tI M 60 18) (16 + j) = 0 → td (300 + j) = 0) ∧ td (300 + j) ≤ 64 ∧ qO j td M
/-- knots counted; bounds of what is told -/
def qK (td : Nat → Int) (M : ti_M) : Prop := (tY M 60 3 18).toInt = (tI M 60 30).toInt ∧ ((0 ≤ td 6 ∧ td 6 ≤ 999) ∧ 1 ≤ td 7 ∧ 1 ≤ td 8 ∧ (1 ≤ td 9 ∧ td 9 ≤ 7) ∧ 0 ≤ td 10 ∧ 0 ≤ td 11) ∧ (∀ k : Nat, k < 3 → 0 ≤ td (32 + k) ∧ td (32 + k) ≤ 7) ∧ ∀ i : Nat, (i : Int) < (tY M 60 3 11).toInt → i < 8 → (1 ≤ td (100 + 16 * i + 4) ∧ td (100 + 16 * i + 4) ≤ 30) ∧ (tY M 60 13 (8 + i)).toInt ≤ 8
def qL (td : Nat → Int) (M : ti_M) : Prop := (tI M 60 25).toInt = 0 → qK td M ∧ qA td M
section
variable {td td2 : Nat → Int} {N M : ti_M} {z v : Int32} {x : Int} {k a : Nat}
theorem qL_f (h : ff M = 0) : qL td M := fun q => absurd q (ff_n h)
theorem qA_fr (h : qA td M) (e : N.2.1 = M.2.1) (e18 : tI N 60 18 = tI M 60 18) : qA td N := by
  have e2 : ∀ k, tY N 60 k = tY M 60 k := fun k => tY_fr e
  unfold qA qO ud at *
  simp only [e2, e18]
  exact h
theorem qL_fr (h : qL td M) (e : N.2.1 = M.2.1) (e18 : tI N 60 18 = tI M 60 18) (e30 : tI N 60 30 = tI M 60 30) (hf : ff N ≤ ff M) : qL td N := fun q => ⟨by unfold qK; rw [e30, show tY N 60 3 = tY M 60 3 from tY_fr e, show tY N 60 13 = tY M 60 13 from tY_fr e]; exact (h (ff_q hf q)).1, qA_fr (h (ff_q hf q)).2 e e18⟩
theorem qL_18 {k0 : Nat} (h : qL td M) (e : N = uI M 60 18 z) (hb : ∀ j : Nat, j < 32 → pp_bt z j = if j = k0 then 1 else pp_bt (tI M 60 18) j) : qL td N := fun q => by
  have e2 : ∀ k, tY N 60 k = tY M 60 k := fun k => tY_uIE e
  have w := h (by rw [← tI_nE e (nk (by decide))]; exact q)
  have y := w.2
  refine ⟨by unfold qK; rw [e2 3, e2 13, tI_nE e (nk (by decide))]; exact w.1, ?_⟩
  unfold qA qO ud at *
  simp only [e2, tI_uE e]
  refine ⟨y.1, y.2.1, y.2.2.1, fun j hj => ⟨fun b => (y.2.2.2 j hj).1 ?_, (y.2.2.2 j hj).2⟩⟩
  rw [hb _ (by omega)] at b
  split at b
  · exact absurd b (by decide)
  · exact b
/-- a row of men, at the place that comes next, or one that tells nothing here -/
theorem qL_m {i : Nat} (h : qL td M) (e : N = uY M 60 k (upd (tY M 60 k) i v)) (hk : 4 ≤ k ∧ k ≤ 13) (hi : (k = 13 ∧ v.toInt ≤ 8) ∨ (tY M 60 3 11).toInt + 8 ≤ (i : Int)) : qL td N := fun q => by
  have w := h (by rw [← tI_uYE e]; exact q)
  have y := w.2
  have e2 : ∀ k2, k2 ≠ k → tY N 60 k2 = tY M 60 k2 := fun k2 h2 => tY_nE e (nk h2)
  refine ⟨⟨by rw [e2 3 (by omega), show tI N 60 30 = tI M 60 30 from tI_uYE e]; exact w.1.1, w.1.2.1, w.1.2.2.1, fun i2 h1 h0 => ?_⟩, ?_⟩
  · rw [e2 3 (by omega)] at h1
    have x := w.1.2.2.2 i2 h1 h0
    refine ⟨x.1, ?_⟩
    by_cases r : 13 = k
    · subst r
      rw [tY_uE e]
      by_cases r2 : 8 + i2 = i
      · rw [r2, pk_us]
        rcases hi with hi | hi
        · exact hi.2
        · omega
      · rw [pk_un r2]; exact x.2
    · rw [e2 13 r]; exact x.2
  unfold qA qO ud at *
  rw [e2 3 (by omega), e2 14 (by omega), e2 15 (by omega), e2 16 (by omega), e2 17 (by omega), show tI N 60 18 = tI M 60 18 from tI_uYE e]
  refine ⟨y.1, y.2.1, fun i2 f h1 h0 h2 h3 => ?_, y.2.2.2⟩
  rw [y.2.2.1 i2 f h1 h0 h2 h3]
  by_cases r : 4 + f = k
  · subst r
    rw [tY_uE e, pk_un (by omega)]
  · rw [e2 _ r]
/-- bounds of a number that is told -/
def bK (c : Nat) (x : Int) : Prop := (c = 6 → 0 ≤ x ∧ x ≤ 999) ∧ (c = 7 → 1 ≤ x) ∧ (c = 8 → 1 ≤ x) ∧ (c = 9 → 1 ≤ x ∧ x ≤ 7) ∧ (c = 10 → 0 ≤ x) ∧ (c = 11 → 0 ≤ x) ∧ (32 ≤ c → 0 ≤ x ∧ x ≤ 7)
/-- a number that is told -/
theorem qL_r {c : Nat} (h : qL td M) (e : N = uY M 60 3 (upd (tY M 60 3) a v)) (hv : (tI M 60 25).toInt = 0 → v.toInt = x) (hc : (6 ≤ c ∧ c ≤ 11 ∧ a = 6 + c) ∨ (32 ≤ c ∧ c < 35 ∧ a + 13 = c)) (hx : (tI M 60 25).toInt = 0 → bK c x) : qL (pp_su td c x) N := fun q => by
  have q0 : (tI M 60 25).toInt = 0 := by rw [← tI_uYE e]; exact q
  have w0 := h q0
  have y := w0.2
  have v0 := hv q0
  have e2 : ∀ k2, k2 ≠ 3 → tY N 60 k2 = tY M 60 k2 := fun k2 h2 => tY_nE e (nk h2)
  have e3 : ∀ i, i ≠ a → tY N 60 3 i = tY M 60 3 i := fun i hi => by rw [tY_uE e, pk_un hi]
  have ea : (tY N 60 3 a).toInt = x := by rw [tY_uE e, pk_us, v0]
  have hx := hx q0
  obtain ⟨k0, ⟨k6, k7, k8, k9, k10, k11⟩, k32, k4⟩ := w0.1
  refine ⟨⟨by rw [e3 18 (by omega), show tI N 60 30 = tI M 60 30 from tI_uYE e]; exact k0, ⟨?_, ?_, ?_, ?_, ?_, ?_⟩, fun k hk => ?_, fun i h1 h0 => ?_⟩, fun k h1 h2 => ?_, fun k hk => ?_, fun i f h1 h0 h2 h3 => ?_, fun j hj => ?_⟩
  · by_cases r : 6 = c
    · rw [← r, su_s]; exact hx.1 r.symm
    · rw [su_n r]; exact k6
  · by_cases r : 7 = c
    · rw [← r, su_s]; exact hx.2.1 r.symm
    · rw [su_n r]; exact k7
  · by_cases r : 8 = c
    · rw [← r, su_s]; exact hx.2.2.1 r.symm
    · rw [su_n r]; exact k8
  · by_cases r : 9 = c
    · rw [← r, su_s]; exact hx.2.2.2.1 r.symm
    · rw [su_n r]; exact k9
  · by_cases r : 10 = c
    · rw [← r, su_s]; exact hx.2.2.2.2.1 r.symm
    · rw [su_n r]; exact k10
  · by_cases r : 11 = c
    · rw [← r, su_s]; exact hx.2.2.2.2.2.1 r.symm
    · rw [su_n r]; exact k11
  · by_cases r : 32 + k = c
    · rw [r, su_s]; exact hx.2.2.2.2.2.2 (by omega)
    · rw [su_n r]; exact k32 k hk
  · rw [e3 11 (by omega)] at h1
    rw [su_n (by omega), e2 13 (by decide)]; exact k4 i h1 h0
  · by_cases r : k = c
    · subst r; rw [su_s, show 6 + k = a by omega, ea]
    · rw [su_n r, e3 _ (by omega)]; exact y.1 k h1 h2
  · by_cases r : 32 + k = c
    · rw [r, su_s, show 19 + k = a by omega, ea]
    · rw [su_n r, e3 _ (by omega)]; exact y.2.1 k hk
  · rw [e3 11 (by omega)] at h1
    rw [su_n (by omega), e2 _ (by omega)]; exact y.2.2.1 i f h1 h0 h2 h3
  · have w := y.2.2.2 j hj
    unfold qO ud at *
    rw [su_n (by omega), e2 14 (by decide), e2 15 (by decide), e2 16 (by decide), e2 17 (by decide), e3 18 (by omega), show tI N 60 18 = tI M 60 18 from tI_uYE e]
    obtain ⟨w1, w2, w3, b, w4, w5, w6, w7, w8⟩ := w
    exact ⟨w1, w2, w3, b, w4, w5, w6, w7, fun m hm => by rw [su_n (by omega)]; exact w8 m hm⟩
/-- a man more -/
theorem qL_mn (h : qL td M) (e : N = uY M 60 3 (upd (tY M 60 3) 11 z)) (h11 : (tY M 60 3 11).toInt = a) (hz : z.toInt = a + 1) (ha : a < 8) (ho : ∀ k : Nat, (k < 100 + 16 * a ∨ 228 ≤ k) → td2 k = td k) (hv : (tI M 60 25).toInt = 0 → ∀ f : Nat, 1 ≤ f → f ≤ 8 → td2 (100 + 16 * a + f) = (tY M 60 (4 + f) (8 + a)).toInt) (hb : (tI M 60 25).toInt = 0 → (1 ≤ td2 (100 + 16 * a + 4) ∧ td2 (100 + 16 * a + 4) ≤ 30) ∧ (tY M 60 13 (8 + a)).toInt ≤ 8) : qL td2 N := fun q => by
  have q0 : (tI M 60 25).toInt = 0 := by rw [← tI_uYE e]; exact q
  have w0 := h q0
  have y := w0.2
  have v0 := hv q0
  have e2 : ∀ k2, k2 ≠ 3 → tY N 60 k2 = tY M 60 k2 := fun k2 h2 => tY_nE e (nk h2)
  have e3 : ∀ i, i ≠ 11 → tY N 60 3 i = tY M 60 3 i := fun i hi => by rw [tY_uE e, pk_un hi]
  have ea : (tY N 60 3 11).toInt = a + 1 := by rw [tY_uE e, pk_us, hz]
  obtain ⟨k0, k6, k32, k4⟩ := w0.1
  refine ⟨⟨by rw [e3 18 (by omega), show tI N 60 30 = tI M 60 30 from tI_uYE e]; exact k0, by rw [ho 6 (by omega), ho 7 (by omega), ho 8 (by omega), ho 9 (by omega), ho 10 (by omega), ho 11 (by omega)]; exact k6, fun k hk => by rw [ho _ (by omega)]; exact k32 k hk, fun i h1 h0 => ?_⟩, fun k h1 h2 => ?_, fun k hk => ?_, fun i f h1 h0 h2 h3 => ?_, fun j hj => ?_⟩
  · rw [e2 13 (by decide)]
    by_cases r : i = a
    · subst r; exact hb q0
    · rw [ho _ (by omega)]; exact k4 i (by omega) h0
  · rw [ho k (by omega), e3 _ (by omega)]; exact y.1 k h1 h2
  · rw [ho _ (by omega), e3 _ (by omega)]; exact y.2.1 k hk
  · rw [e2 _ (by omega)]
    by_cases r : i = a
    · subst r; exact v0 f h2 h3
    · rw [ho _ (by omega)]; exact y.2.2.1 i f (by omega) h0 h2 h3
  · have w := y.2.2.2 j hj
    unfold qO ud at *
    rw [ho _ (by omega), e2 14 (by decide), e2 15 (by decide), e2 16 (by decide), e2 17 (by decide), e3 18 (by omega), show tI N 60 18 = tI M 60 18 from tI_uYE e]
    obtain ⟨w1, w2, w3, b, w4, w5, w6, w7, w8⟩ := w
    exact ⟨w1, w2, w3, b, w4, w5, w6, w7, fun m hm => by rw [ho _ (by omega)]; exact w8 m hm⟩
theorem qE_0 {lj : Nat} (hI : 0 ≤ (tY M 60 3 18).toInt) (h : (tI M 60 25).toInt = 0 → td (300 + lj) = 0) : qE (tY M 60 3 18).toInt.toNat 0 lj td M := fun q => by
  have z := h q
  rw [z]
  exact ⟨⟨by omega, Int.le_refl _⟩, rfl, fun m hm => absurd hm (by omega)⟩
/-- a law -/
theorem qL_law {A B C E : ti_M} {i i2 lj : Nat} {f t : Int32} (h : qL td A) (e1 : B = uY A 60 14 (upd (tY A 60 14) i f)) (hf : f.toInt = (tY A 60 3 18).toInt) (h0 : 0 ≤ (tY A 60 3 18).toInt) (hl : lj < 3) (hi : i = 3 + lj) (p : pe C B) (hff : ff C ≤ ff B) (q : qE (tY B 60 3 18).toInt.toNat 1 lj td2 C) (h64 : (tY C 60 3 18).toInt ≤ 64) (ht2 : tj lj td2 td) (e2 : E = uY C 60 15 (upd (tY C 60 15) i2 t)) (h2 : i2 = i) (ht : t.toInt = (tY C 60 3 18).toInt) (hb : (tI A 60 25).toInt = 0 → pp_bt (tI A 60 18) (16 + lj) ≠ 0) (hk : (tI C 60 25).toInt = 0 → (tY A 60 3 18).toInt = (tI A 60 30).toInt → (tY C 60 3 18).toInt = (tI C 60 30).toInt) : qL td2 E := fun q9 => by
  subst h2
  have qC : (tI C 60 25).toInt = 0 := by rw [← tI_uYE e2]; exact q9
  have qB : (tI B 60 25).toInt = 0 := ff_q hff qC
  have qA0 : (tI A 60 25).toInt = 0 := by rw [← tI_uYE e1]; exact qB
  have w0 := h qA0
  have y := w0.2
  have hb := hb qA0
  obtain ⟨⟨x1, x2⟩, x3, x4⟩ := q qC
  have r14 : ∀ x, tY E 60 14 x = upd (tY A 60 14) i2 f x := fun x => by rw [tY_nE e2 (nk (by decide)), p.1 14 (by decide) (by decide) (by decide), tY_uE e1]
  have r15 : ∀ x, tY E 60 15 x = upd (tY A 60 15) i2 t x := fun x => by rw [tY_uE e2, p.1 15 (by decide) (by decide) (by decide), tY_nE e1 (nk (by decide))]
  have k3 : tY B 60 3 = tY A 60 3 := tY_nE e1 (nk (by decide))
  have c3 : tY E 60 3 = tY C 60 3 := tY_nE e2 (nk (by decide))
  have r3 : ∀ i, i ≠ 18 → tY E 60 3 i = tY A 60 3 i := fun i hi => by rw [c3, p.2.1 i hi, k3]
  have r18 : tY E 60 3 18 = tY C 60 3 18 := by rw [c3]
  have rk : ∀ k, 4 < k → k < 13 → tY E 60 k = tY A 60 k := fun k h1 h2 => by rw [tY_nE e2 (nk (by omega)), p.1 k (by omega) (by omega) (by omega), tY_nE e1 (nk (by omega))]
  have r16 : tY E 60 16 = tY C 60 16 := tY_nE e2 (nk (by decide))
  have r17 : tY E 60 17 = tY C 60 17 := tY_nE e2 (nk (by decide))
  have b18 : tI E 60 18 = tI A 60 18 := (tI_uYE e2).trans ((p.2.2.2.2 18 (by decide)).trans (tI_uYE e1))
  have g3 := p.2.2.1
  have g4 := p.2.2.2.1
  rw [k3] at x1 x3 x4 g3 g4
  obtain ⟨k0, k6, k32, k4⟩ := w0.1
  have o : ∀ k : Nat, k < 300 → td2 k = td k := fun k h => ht2 k (by omega) (by omega)
  have r13 : tY E 60 13 = tY A 60 13 := by rw [tY_nE e2 (nk (by decide)), p.1 13 (by decide) (by decide) (by decide), tY_nE e1 (nk (by decide))]
  refine ⟨⟨by rw [r18, show tI E 60 30 = tI C 60 30 from tI_uYE e2]; exact hk qC k0, by rw [o 6 (by decide), o 7 (by decide), o 8 (by decide), o 9 (by decide), o 10 (by decide), o 11 (by decide)]; exact k6, fun k hk => by rw [o _ (by omega)]; exact k32 k hk, fun i h1 h0 => by rw [r3 11 (by decide)] at h1; rw [o _ (by omega), r13]; exact k4 i h1 h0⟩, fun k h1 h2 => ?_, fun k hk => ?_, fun m f h1 h0 h2 h3 => ?_, fun j hj => ?_⟩
  · rw [ht2 k (by omega) (by omega), r3 _ (by omega)]; exact y.1 k h1 h2
  · rw [ht2 _ (by omega) (by omega), r3 _ (by omega)]; exact y.2.1 k hk
  · rw [r3 11 (by decide)] at h1
    rw [ht2 _ (by omega) (by omega), rk _ (by omega) (by omega)]; exact y.2.2.1 m f h1 h0 h2 h3
  · by_cases r : j = lj
    · subst r
      refine ⟨fun b => absurd (by rw [← b18]; exact b) hb, by omega, x2, (tY A 60 3 18).toInt.toNat, ?_, ?_, ?_, fun w => ?_, fun m hm => ?_⟩
      · rw [r14, hi, pk_us]; omega
      · rw [r15, hi, pk_us]; omega
      · rw [r18]; omega
      · have : (td2 (300 + j)).toNat ≠ 0 := by omega
        unfold ud at *
        rw [r16, r17]; exact x3
      · rw [r16, r17]; exact x4 m hm
    · obtain ⟨w1, w64, w2, a, w3, w4, w5, w6, w7⟩ := y.2.2.2 j hj
      have et : td2 (300 + j) = td (300 + j) := ht2 _ (by omega) (by omega)
      rw [b18]
      unfold qO
      rw [et, r14, r15, pk_un (by omega), pk_un (by omega), r18]
      have ge : ∀ m : Nat, (m : Int) < td (300 + j) → tY E 60 16 (64 + (a + m)) = tY A 60 16 (64 + (a + m)) ∧ tY E 60 17 (64 + (a + m)) = tY A 60 17 (64 + (a + m)) := fun m hm => by
        have g := g3 (64 + (a + m)) (by omega)
        rw [r16, r17, g.1, g.2, tY_nE e1 (nk (by decide)), tY_nE e1 (nk (by decide))]
        exact ⟨rfl, rfl⟩
      refine ⟨w1, w64, w2, a, w3, w4, by omega, fun w => ?_, fun m hm => ?_⟩
      · rw [← w6 w]
        unfold ud
        exact dp_ext _ (fun x hx => ge x (by omega))
      · rw [ht2 _ (by omega) (by omega), (ge m hm).1, (ge m hm).2]; exact w7 m hm
end
end

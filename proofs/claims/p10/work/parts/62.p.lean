variable {Tc : gC} {Tm : gM}
/-! the reference's expressions beside the registers -/
theorem pe_s {B : Nat → Int} {n j : Nat} {s : Nat → Int} (h : 1 ≤ j) : pp_pt B n j s = if s 0 = 30 then pp_tk B n 31 (pp_ei B n (pp_pt B n (j - 1)) (pp_av B n s)) else pp_p0 B n s := by
  cases j with
  | zero => omega
  | succ j => rfl
theorem pe_n {B : Nat → Int} {n j : Nat} {s : Nat → Int} (h : s 0 ≠ 30) : pp_pt B n j s = pp_p0 B n s := by
  cases j with
  | zero => rw [pp_pt, if_neg h]
  | succ j => rw [pp_pt, if_neg h]
theorem pt_nm0 : ∀ k : Nat, k < 25 → (19 ≤ pt_pm.getD k 0 ↔ (16 ≤ k ∧ k ≤ 21)) := by decide +kernel
section
variable {B : Nat → Int} {n : Nat} {s : Nat → Int} {x w : Int}
theorem p0_2 (T : pt_T (s 0) (s 1) x w) (h : x = 2) (hw : 9999 < w) : pp_p0 B n s = pp_rf 2 s := by
  have q := (pt_Tnm T).2.2.1 h
  unfold pp_p0
  rw [if_pos q.1, if_pos (by omega)]
theorem p0_k (T : pt_T (s 0) (s 1) x w) (h : x = 2) (hw : ¬ 9999 < w) : pp_p0 B n s = pp_kn B n s := by
  have q := (pt_Tnm T).2.2.1 h
  unfold pp_p0
  rw [if_pos q.1, if_neg (by omega)]
theorem p0_n (T : pt_T (s 0) (s 1) x w) (h : x = 0) (hw : 19 ≤ w) : pp_p0 B n s = pp_kn B n s := by
  have q := pt_Twd T h
  have r := pt_nm0 (s 0).toNat (by omega)
  unfold pp_p0
  rw [if_neg (by omega), if_pos (by omega)]
theorem p0_1 (T : pt_T (s 0) (s 1) x w) (h : x ≠ 2) (hw : x ≠ 0 ∨ w < 19) : pp_p0 B n s = pp_rf 1 s := by
  have q := (pt_Tnm T).2.2.2.1
  unfold pp_p0
  rw [if_neg (fun g => h (q g))]
  refine if_neg (fun g => ?_)
  have e := T.2.1 (by omega)
  have r := pt_nm0 (s 0).toNat (by omega)
  omega
theorem rQ_gr {F : (Nat → Int) → Nat → Int} {M : ti_M} (hF : pp_gr F) (h : rQ B n s M) (hI : mI Tm M) : F s 0 = 28 ∨ (1 ≤ F s 8 ∧ F s 8 ≤ 64) := by
  by_cases q : s 4 = 0
  · have e := (h.2.2.2 q).2.2.1.2.1
    have b := b30 hI
    rcases hF.2 s (by omega) with g | g
    · exact Or.inl g
    · exact Or.inr ⟨by omega, g.2⟩
  · exact Or.inl (hF.1 s (h.2.2.1.2 q))
theorem rQ_nc {M : ti_M} (h : rQ B n s M) (hd : ff M = 0 ∨ (tI M 60 23).toInt ≠ 3 ∨ ¬ ((tI M 60 24).toInt = 60 ∨ (tI M 60 24).toInt = 62 ∨ (tI M 60 24).toInt = 61 ∨ 256 ≤ (tI M 60 24).toInt)) : ¬ (32 ≤ s 0 ∧ s 0 ≤ 37) := by
  by_cases z : ff M = 0
  · have := rQ_28 h z; omega
  · have T := rQ_T h (by have := ff_b M; omega)
    by_cases q : (tI M 60 23).toInt = 3
    · have e := pt_Tsg T q
      exact fun g => (hd.resolve_left z).resolve_left (fun r => r q) (e.2.2.2.2.mpr g)
    · have := pt_Tso T q; omega
theorem rQ_yc {M : ti_M} (h : rQ B n s M) (z : ff M = 1) (q : (tI M 60 23).toInt = 3) (hd : (tI M 60 24).toInt = 60 ∨ (tI M 60 24).toInt = 62 ∨ (tI M 60 24).toInt = 61 ∨ 256 ≤ (tI M 60 24).toInt) : 32 ≤ s 0 ∧ s 0 ≤ 37 := (pt_Tsg (rQ_T h z) q).2.2.2.2.mp hd
theorem rQ_8 {M : ti_M} (h : rQ B n s M) (hI : mI Tm M) (z : s 4 = 0) : 0 ≤ s 8 ∧ s 8 ≤ 64 := by
  have e := (h.2.2.2 z).2.2.1.2.1
  have b := b30 hI
  omega
end
theorem pt_nm1 : ∀ k : Nat, k < 25 → (19 ≤ pt_pm.getD k 0 ↔ (16 ≤ k ∧ k ≤ 21)) ∧ (16 ≤ k → k ≤ 21 → pt_pm.getD k 0 = k + 3) := by decide +kernel
set_option maxHeartbeats 4000000 in
set_option maxRecDepth 100000 in
theorem x_X10_primary (l : Launch) (D : va_G) (A : Nat → Nat → Nat) (cy : Nat → ClassId) (hJ : ti_inj ti_LM A) (M : ti_M) (hI : mI Tm M) (j a d : Nat) (hj : j ≤ 8) (hu : us M a d) (hc : (tY M 60 3 18).toInt ≤ (tI M 60 30).toInt + 64 - 64 * ff M) (ho : (tI M 60 29).toInt + j ≤ 16 - 8 * ff M) (ho2 : 8 * ff M ≤ (tI M 60 29).toInt + j) (B : Nat → Int) (n : Nat) (rg : Nat → Int) (hr : rQ B n rg M) (lj : Nat) (hlj : lj < 3) (td : Nat → Int) (he : qE a d lj td M) (hvs : vs M) (ih : ∀ i : Nat, i < j → ∀ (l : Launch) (D : va_G) (A : Nat → Nat → Nat) (cy : Nat → ClassId) (hJ : ti_inj ti_LM A) (M : ti_M) (hI : mI Tm M) (a d : Nat) (hj : i ≤ 8) (hu : us M a d) (hc : (tY M 60 3 18).toInt ≤ (tI M 60 30).toInt + 64 - 64 * ff M) (ho : (tI M 60 29).toInt + i ≤ 16 - 8 * ff M) (ho2 : 8 * ff M ≤ (tI M 60 29).toInt + i) (B : Nat → Int) (n : Nat) (rg : Nat → Int) (hr : rQ B n rg M) (lj : Nat) (hlj : lj < 3) (td : Nat → Int) (he : qE a d lj td M) (hvs : vs M), ti_KvE l yX10_expression cX10_expression 1 (78 + 71 * i) ti_LM D A cy M [.ref (A 60 0)] (fun M2 => qE a (d + 1) lj (qq_ei B n lj (pp_pt B n i) (qq_pt B n lj i) rg td) M2 ∧ vs M2 ∧ rQ B n (pp_ei B n (pp_pt B n i) rg) M2 ∧ mI Tm M2 ∧ pe M2 M ∧ (pg M ≤ pg M2) ∧ (0 ≤ ff M2) ∧ (ff M2 ≤ ff M) ∧ ((tI M 60 30).toInt ≤ (tI M2 60 30).toInt) ∧ ((tI M2 60 30).toInt ≤ 64) ∧ ((tI M2 60 29).toInt ≤ (tI M 60 29).toInt + 8 - 8 * ff M2) ∧ ((tI M 60 29).toInt ≤ (tI M2 60 29).toInt + 8 - 8 * ff M2) ∧ ((tI M2 60 30).toInt - (tY M2 60 3 18).toInt ≤ (tI M 60 30).toInt - (tY M 60 3 18).toInt + 200 - 200 * ff M2) ∧ ((tI M 60 30).toInt - (tY M 60 3 18).toInt ≤ (tI M2 60 30).toInt - (tY M2 60 3 18).toInt + 200 - 200 * ff M2) ∧ (0 ≤ (tY M2 60 3 18).toInt) ∧ ((tY M2 60 3 18).toInt ≤ 64) ∧ (0 ≤ (tI M2 60 29).toInt) ∧ ((tI M2 60 29).toInt ≤ 8) ∧ us M2 a (d + 1))) : ti_KvE l yX10_primary cX10_primary 2 (8 + 71 * j) ti_LM D A cy M [.ref (A 60 0)] (fun M2 => qE a (d + 1) lj (qq_pt B n lj j rg td) M2 ∧ vs M2 ∧ rQ B n (pp_pt B n j rg) M2 ∧ mI Tm M2 ∧ pe M2 M ∧ (pg M ≤ pg M2) ∧ (0 ≤ ff M2) ∧ (ff M2 ≤ ff M) ∧ ((tI M 60 30).toInt ≤ (tI M2 60 30).toInt) ∧ ((tI M2 60 30).toInt ≤ 64) ∧ ((tI M2 60 29).toInt ≤ (tI M 60 29).toInt + 8 - 8 * ff M2) ∧ ((tI M 60 29).toInt ≤ (tI M2 60 29).toInt + 8 - 8 * ff M2) ∧ ((tI M2 60 30).toInt - (tY M2 60 3 18).toInt ≤ (tI M 60 30).toInt - (tY M 60 3 18).toInt + 200 - 200 * ff M2) ∧ ((tI M 60 30).toInt - (tY M 60 3 18).toInt ≤ (tI M2 60 30).toInt - (tY M2 60 3 18).toInt + 200 - 200 * ff M2) ∧ (0 ≤ (tY M2 60 3 18).toInt) ∧ ((tY M2 60 3 18).toInt ≤ 64) ∧ (0 ≤ (tI M2 60 29).toInt) ∧ ((tI M2 60 29).toInt ≤ 8) ∧ us M2 a (d + 1)) := by
  refine ti_eVE yp_X10_primary hJ ti_LM_nd (Nat.le_of_ble_eq_true rfl) ?_
  intro p e s m args below meth c Q H0 C hE hQ hw ls hl
  have hx := C.1
  have hb := C.2.1
  have hl : lv_has ls 2 [(0, .ref (A 60 0))] := hl
  have hI30 := b30 hI
  have hI29 := b29 hI
  have hI18 := b18 hI
  have hIff := ff_b M
  refine lv_aload_n hx hb dX10_primary_0 rfl (lv_at hl 0 rfl) ?_
  refine ti_get (ci := 10) (k := 25) (N := 67) (T := TX10) C hw iw_10 rfl ob_60 (by decide) (by decide) fl_X10_208 rfl rfl dX10_primary_1 ?_
  refine lv_topi (fun x_1 ex_1 => ?_)
  have u_2 : (tI M 60 25).toInt = x_1.toInt := by rw [ex_1]
  have ufx_1 : (tI M 60 25).toInt = x_1.toInt := by rw [ex_1]
  refine sb_if_eq (tgt := 8) hx hb rfl dX10_primary_4 (by decide) (fun c_4_2 => ?_) (fun c_4_2 => ?_)
  · have z_4 : ff M = 1 := ff_1 (ufx_1.trans c_4_2)
    clear c_4_2
    refine lv_aload_n hx hb dX10_primary_8 rfl (lv_at hl 0 rfl) ?_
    refine lv_bipush (v := 40) hx hb dX10_primary_9 (by decide) ?_
    refine ti_callVi (ci := 10) (av := [.int 40]) C hw (x_X10_isSign l D A cy hJ M hI 40) ⟨ml_X10_251, ym_X10_isSign, yv_X10_isSign, yi_X10_isSign, yc_X10_isSign⟩ yd_X10_isSign ob_60 (by decide) rfl rfl hl.1 (Nat.le_of_ble_eq_true rfl) ⟨by simp only [ti_rm]; omega, by simp only [ti_rm]; omega⟩ ⟨Nat.zero_le _, Nat.zero_le _⟩ dX10_primary_11 (fun r_5 M_6 H locs hp_6 hw => ?_)
    obtain ⟨hm, hz⟩ := hp_6
    have hw := hw.to hm
    rcases hz with ⟨rfl, d0_7, d1_7, d2_7⟩ | ⟨rfl, d3_7⟩
    · have dk_7 := rQ_s1 (k := 30) hr d0_7 d1_7 d2_7 (by decide)
      have z_8 : ff M = 1 := ff_1 d0_7
      have z_9 : pg M = 2 * (tI M 60 21).toInt := pg_3 (by rw [d1_7]; decide)
      clear d0_7 d1_7 d2_7
      refine sb_if_eq (tgt := 101) hx hb (by decide : (1 : Int32).toInt = 1) dX10_primary_14 (by decide) (fun h => absurd h (by decide)) (fun c_14_9 => ?_)
      refine lv_aload_n hx hb dX10_primary_17 rfl (lv_at hl 0 rfl) ?_
      refine ti_get (ci := 10) (k := 29) (N := 67) (T := TX10) C hw iw_10 rfl ob_60 (by decide) (by decide) fl_X10_297 rfl rfl dX10_primary_18 ?_
      refine lv_topi (fun x_12 ex_12 => ?_)
      have bx_12 : 0 ≤ x_12.toInt ∧ x_12.toInt ≤ 8 := mI_rd hI ex_12
      have ux_12 : (tI M 60 29).toInt = x_12.toInt := by rw [ex_12]
      refine lv_bipush (v := 8) hx hb dX10_primary_21 (by decide) ?_
      refine sb_icmp_ne (tgt := 31) hx hb rfl (by decide : (8 : Int32).toInt = 8) dX10_primary_23 (by decide) (fun c_23_12 => ?_) (fun c_23_12 => ?_)
      · refine lv_aload_n hx hb dX10_primary_31 rfl (lv_at hl 0 rfl) ?_
        refine ti_get (ci := 10) (k := 25) (N := 67) (T := TX10) C hw iw_10 rfl ob_60 (by decide) (by decide) fl_X10_208 rfl rfl dX10_primary_32 ?_
        refine ti_top (y := x_1) (ex_1.symm) ?_
        refine sb_if_eq (tgt := 39) hx hb rfl dX10_primary_35 (by decide) (fun c_35_26 => ?_) (fun c_35_26 => by have z_28 : ff M = 0 := ff_0 (fun h => c_35_26 (ufx_1.symm.trans h)); omega)
        have z_28 : ff M = 1 := ff_1 (ufx_1.trans c_35_26)
        clear c_35_26
        refine lv_aload_n hx hb dX10_primary_39 rfl (lv_at hl 0 rfl) ?_
        refine lv_dup hx hb dX10_primary_40 rfl ?_
        refine ti_get (ci := 10) (k := 29) (N := 67) (T := TX10) C hw iw_10 rfl ob_60 (by decide) (by decide) fl_X10_297 rfl rfl dX10_primary_41 ?_
        refine ti_top (y := x_12) (ex_12.symm) ?_
        have u_33 : (tI M 60 29).toInt = (x_12 : Int32).toInt := by rw [(ex_12.symm)]
        refine lv_iconst (v := 1) hx hb dX10_primary_44 (by decide) ?_
        refine lv_iadd hx hb dX10_primary_45 ?_
        refine lv_topi (fun x_34 ex_34 => ?_)
        have tx_34 : x_34.toInt = x_12.toInt + 1 := i_add ex_34 rfl (by decide : (1 : Int32).toInt = 1) (by omega) (by omega)
        refine ti_putI (ci := 10) (k := 29) (N := 67) (T := TX10) C hw iw_10 tyX10 tyX10_ok nmX10 rfl ob_60 (by decide) (by decide) fl_X10_297 rfl rfl rfl rfl (fn_10 A _) fs_10_29 dX10_primary_46 (fun H locs hw => ?_)
        obtain ⟨M_35, hM_35⟩ : ∃ z : ti_M, z = uI M 60 29 x_34 := ⟨_, rfl⟩
        have hw := hw.to hM_35.symm
        have iM_35 : mI Tm M_35 := mI_uI hI hM_35 (by decide) (by decide) (ib_mk (lo := 0) (hi := 8) (by omega) (by omega))
        have vM_35 : (tI M_35 60 29).toInt = (x_34 : Int32).toInt := by rw [tI_uE hM_35]
        have z_36 : ff M_35 = ff M := ff_I hM_35 (by decide)
        have z_37 : pg M_35 = pg M := pg_I hM_35 (by decide)
        have z_38 : (tI M_35 60 30).toInt = (tI M 60 30).toInt := by rw [tI_nE hM_35 (nk (by decide))]
        have z_39 : (tY M_35 60 3 18).toInt = (tY M 60 3 18).toInt := by rw [tY_uIE hM_35]
        have hs_40 := rQ_29 hr hM_35
        have te_41 : qE a (d) lj td M_35 := qE_fr he (ry_I hM_35) (by omega)
        have vs_42 : vs M_35 := vs_fr hvs (by omega) (tI_nE hM_35 (nk (by decide))) (tI_nE hM_35 (nk (by decide)))
        refine lv_aload_n hx hb dX10_primary_49 rfl (lv_at hl 0 rfl) ?_
        refine ti_callVvE (ci := 10) (av := []) C hE hw (x_X10_token l D A cy hJ M_35 iM_35 ) ⟨ml_X10_214, ym_X10_token, yv_X10_token, yi_X10_token, yc_X10_token⟩ yd_X10_token ob_60 (by decide) rfl rfl hl.1 (Nat.le_of_ble_eq_true rfl) ⟨by simp only [ti_rm]; omega, by simp only [ti_rm]; omega⟩ ⟨Nat.zero_le _, Nat.zero_le _⟩ dX10_primary_50 (fun M_44 H locs hp_44 hw => ?_)
        obtain ⟨iM_44, q_47, z_45, z_46, k2M_44, k3M_44, k4M_44⟩ := hp_44
        have hs_48 := rQ_av hs_40 (rQ_g0 hs_40 (by omega)) (iM_35.1 21).1 q_47 k2M_44 k3M_44 k4M_44
        obtain ⟨-, -, z_49, z_50, z_51, z_52, z_53, z_54⟩ := l_tk ⟨iM_44, q_47, z_45, z_46⟩
        clear z_45 z_46 k2M_44 k3M_44 k4M_44
        obtain ⟨g_55, eg_55⟩ : ∃ z : Nat → Int, z = pp_av B n rg := ⟨_, rfl⟩
        rw [← eg_55] at hs_48
        have te_56 : qE a (d) lj td M_44 := qE_fr te_41 q_47.1 (by omega)
        have vs_57 : vs M_44 := vs_av hs_48 (by rw [eg_55]; exact av_v)
        refine lv_aload_n hx hb dX10_primary_53 rfl (lv_at hl 0 rfl) ?_
        refine ti_callVvE (ci := 10) (av := []) C hE hw (ih (j - 1) (by omega) l D A cy hJ M_44 iM_44 a (d) (by omega) (us_q (x := 21) (y := 30) hu (pr.trans (pr_w q_47 (by decide) (by decide)) (pr_I hM_35 (by decide))) (by omega)) (by omega) (by omega) (by omega) B n g_55 hs_48 lj hlj td te_56 vs_57) ⟨ml_X10_270, ym_X10_expression, yv_X10_expression, yi_X10_expression, yc_X10_expression⟩ yd_X10_expression ob_60 (by decide) rfl rfl hl.1 (Nat.le_of_ble_eq_true rfl) ⟨by simp only [ti_rm]; omega, by simp only [ti_rm]; omega⟩ ⟨Nat.zero_le _, Nat.zero_le _⟩ dX10_primary_54 (fun M_59 H locs hp_59 hw => ?_)
        obtain ⟨te_62, vs_63, hs_60, hp_61⟩ := hp_59
        obtain ⟨iM_59, q_64, p_65, p_66, p_67, p_68, p_69, p_70, p_71, p_72, p_73, p_74, p_75, p_76, p_77, u_78⟩ := hp_61
        obtain ⟨g_79, eg_79⟩ : ∃ z : Nat → Int, z = pp_ei B n (pp_pt B n (j - 1)) g_55 := ⟨_, rfl⟩
        rw [← eg_79] at hs_60
        obtain ⟨d_80, ed_80⟩ : ∃ z : Nat → Int, z = qq_ei B n lj (pp_pt B n (j - 1)) (qq_pt B n lj (j - 1)) g_55 td := ⟨_, rfl⟩
        rw [← ed_80] at te_62
        refine lv_aload_n hx hb dX10_primary_57 rfl (lv_at hl 0 rfl) ?_
        refine ti_get (ci := 10) (k := 25) (N := 67) (T := TX10) C hw iw_10 rfl ob_60 (by decide) (by decide) fl_X10_208 rfl rfl dX10_primary_58 ?_
        refine lv_topi (fun x_81 ex_81 => ?_)
        have u_82 : (tI M_59 60 25).toInt = x_81.toInt := by rw [ex_81]
        have ufx_81 : (tI M_59 60 25).toInt = x_81.toInt := by rw [ex_81]
        refine sb_if_ne (tgt := 78) hx hb rfl dX10_primary_61 (by decide) (fun c_61_82 => ?_) (fun c_61_82 => ?_)
        · have z_84 : ff M_59 = 0 := ff_0 (fun h => c_61_82 (ufx_81.symm.trans h))
          clear c_61_82
          refine lv_aload_n hx hb dX10_primary_78 rfl (lv_at hl 0 rfl) ?_
          refine ti_get (ci := 10) (k := 25) (N := 67) (T := TX10) C hw iw_10 rfl ob_60 (by decide) (by decide) fl_X10_208 rfl rfl dX10_primary_79 ?_
          refine ti_top (y := x_81) (ex_81.symm) ?_
          refine sb_if_eq (tgt := 86) hx hb rfl dX10_primary_82 (by decide) (fun c_82_104 => by have z_106 : ff M_59 = 1 := ff_1 (ufx_81.trans c_82_104); omega) (fun c_82_104 => ?_)
          have z_106 : ff M_59 = 0 := ff_0 (fun h => c_82_104 (ufx_81.symm.trans h))
          clear c_82_104
          exact hQ _ _ _ _ _ hw (⟨(qE_f (by omega)), vs_63, (by rw [pe_s (by omega), if_pos dk_7.1, ← eg_55, ← eg_79]; exact rQ_f hs_60 (rQ_g1 hs_60 (by omega)) (tk_f (rQ_z hs_60 (rQ_g1 hs_60 (by omega))) (by decide))), iM_59, (pe.trans q_64 (pe.trans (pe_pr q_47 (by decide) (by decide)) (pe_I hM_35 (by decide)))), (by omega), (by omega), (by omega), (by omega), (by omega), (by omega), (by omega), (by omega), (by omega), (by omega), (by omega), (by omega), (by omega), u_78⟩) dX10_primary_85
        · have z_84 : ff M_59 = 1 := ff_1 (ufx_81.trans c_61_82)
          clear c_61_82
          refine lv_aload_n hx hb dX10_primary_64 rfl (lv_at hl 0 rfl) ?_
          refine lv_bipush (v := 41) hx hb dX10_primary_65 (by decide) ?_
          refine ti_callVi (ci := 10) (av := [.int 41]) C hw (x_X10_isSign l D A cy hJ M_59 iM_59 41) ⟨ml_X10_251, ym_X10_isSign, yv_X10_isSign, yi_X10_isSign, yc_X10_isSign⟩ yd_X10_isSign ob_60 (by decide) rfl rfl hl.1 (Nat.le_of_ble_eq_true rfl) ⟨by simp only [ti_rm]; omega, by simp only [ti_rm]; omega⟩ ⟨Nat.zero_le _, Nat.zero_le _⟩ dX10_primary_67 (fun r_85 M_86 H locs hp_86 hw => ?_)
          obtain ⟨hm, hz⟩ := hp_86
          have hw := hw.to hm
          rcases hz with ⟨rfl, d0_87, d1_87, d2_87⟩ | ⟨rfl, d3_87⟩
          · have dk_87 := rQ_s1 (k := 31) hs_60 d0_87 d1_87 d2_87 (by decide)
            have z_88 : ff M_59 = 1 := ff_1 d0_87
            have z_89 : pg M_59 = 2 * (tI M_59 60 21).toInt := pg_3 (by rw [d1_87]; decide)
            clear d0_87 d1_87 d2_87
            refine sb_if_ne (tgt := 78) hx hb (by decide : (1 : Int32).toInt = 1) dX10_primary_70 (by decide) (fun c_70_89 => ?_) (fun h => absurd h (by decide))
            refine lv_aload_n hx hb dX10_primary_78 rfl (lv_at hl 0 rfl) ?_
            refine ti_get (ci := 10) (k := 25) (N := 67) (T := TX10) C hw iw_10 rfl ob_60 (by decide) (by decide) fl_X10_208 rfl rfl dX10_primary_79 ?_
            refine ti_top (y := x_81) (ex_81.symm) ?_
            refine sb_if_eq (tgt := 86) hx hb rfl dX10_primary_82 (by decide) (fun c_82_106 => ?_) (fun c_82_106 => by have z_108 : ff M_59 = 0 := ff_0 (fun h => c_82_106 (ufx_81.symm.trans h)); omega)
            have z_108 : ff M_59 = 1 := ff_1 (ufx_81.trans c_82_106)
            clear c_82_106
            refine lv_aload_n hx hb dX10_primary_86 rfl (lv_at hl 0 rfl) ?_
            refine lv_dup hx hb dX10_primary_87 rfl ?_
            refine ti_get (ci := 10) (k := 29) (N := 67) (T := TX10) C hw iw_10 rfl ob_60 (by decide) (by decide) fl_X10_297 rfl rfl dX10_primary_88 ?_
            refine lv_topi (fun x_113 ex_113 => ?_)
            have bx_113 : 0 ≤ x_113.toInt ∧ x_113.toInt ≤ 8 := mI_rd iM_59 ex_113
            have ux_113 : (tI M_59 60 29).toInt = x_113.toInt := by rw [ex_113]
            refine lv_iconst (v := 1) hx hb dX10_primary_91 (by decide) ?_
            refine lv_isub hx hb dX10_primary_92 ?_
            refine lv_topi (fun x_114 ex_114 => ?_)
            have tx_114 : x_114.toInt = x_113.toInt - 1 := i_sub ex_114 rfl (by decide : (1 : Int32).toInt = 1) (by omega) (by omega)
            refine ti_putI (ci := 10) (k := 29) (N := 67) (T := TX10) C hw iw_10 tyX10 tyX10_ok nmX10 rfl ob_60 (by decide) (by decide) fl_X10_297 rfl rfl rfl rfl (fn_10 A _) fs_10_29 dX10_primary_93 (fun H locs hw => ?_)
            obtain ⟨M_115, hM_115⟩ : ∃ z : ti_M, z = uI M_59 60 29 x_114 := ⟨_, rfl⟩
            have hw := hw.to hM_115.symm
            have iM_115 : mI Tm M_115 := mI_uI iM_59 hM_115 (by decide) (by decide) (ib_mk (lo := 0) (hi := 8) (by omega) (by omega))
            have vM_115 : (tI M_115 60 29).toInt = (x_114 : Int32).toInt := by rw [tI_uE hM_115]
            have z_116 : ff M_115 = ff M_59 := ff_I hM_115 (by decide)
            have z_117 : pg M_115 = pg M_59 := pg_I hM_115 (by decide)
            have z_118 : (tI M_115 60 30).toInt = (tI M_59 60 30).toInt := by rw [tI_nE hM_115 (nk (by decide))]
            have z_119 : (tY M_115 60 3 18).toInt = (tY M_59 60 3 18).toInt := by rw [tY_uIE hM_115]
            have hs_120 := rQ_29 hs_60 hM_115
            have te_121 : qE a (d + 1) lj d_80 M_115 := qE_fr te_62 (ry_I hM_115) (by omega)
            have vs_122 : vs M_115 := vs_fr vs_63 (by omega) (tI_nE hM_115 (nk (by decide))) (tI_nE hM_115 (nk (by decide)))
            refine lv_aload_n hx hb dX10_primary_96 rfl (lv_at hl 0 rfl) ?_
            refine ti_callVvE (ci := 10) (av := []) C hE hw (x_X10_token l D A cy hJ M_115 iM_115 ) ⟨ml_X10_214, ym_X10_token, yv_X10_token, yi_X10_token, yc_X10_token⟩ yd_X10_token ob_60 (by decide) rfl rfl hl.1 (Nat.le_of_ble_eq_true rfl) ⟨by simp only [ti_rm]; omega, by simp only [ti_rm]; omega⟩ ⟨Nat.zero_le _, Nat.zero_le _⟩ dX10_primary_97 (fun M_124 H locs hp_124 hw => ?_)
            obtain ⟨iM_124, q_127, z_125, z_126, k2M_124, k3M_124, k4M_124⟩ := hp_124
            have hs_128 := rQ_av hs_120 (rQ_g0 hs_120 (by omega)) (iM_115.1 21).1 q_127 k2M_124 k3M_124 k4M_124
            obtain ⟨-, -, z_129, z_130, z_131, z_132, z_133, z_134⟩ := l_tk ⟨iM_124, q_127, z_125, z_126⟩
            clear z_125 z_126 k2M_124 k3M_124 k4M_124
            obtain ⟨g_135, eg_135⟩ : ∃ z : Nat → Int, z = pp_av B n g_79 := ⟨_, rfl⟩
            rw [← eg_135] at hs_128
            have te_136 : qE a (d + 1) lj d_80 M_124 := qE_fr te_121 q_127.1 (by omega)
            have vs_137 : vs M_124 := vs_av hs_128 (by rw [eg_135]; exact av_v)
            exact hQ _ _ _ _ _ hw (⟨(by rw [qe_s (by omega), if_pos dk_7.1, ← eg_55, ← ed_80]; exact te_136), vs_137, (by rw [pe_s (by omega), if_pos dk_7.1, ← eg_55, ← eg_79]; unfold pp_tk; rw [if_pos dk_87.1, ← eg_135]; exact hs_128), iM_124, (pe.trans (pe_pr q_127 (by decide) (by decide)) (pe.trans (pe_I hM_115 (by decide)) (pe.trans q_64 (pe.trans (pe_pr q_47 (by decide) (by decide)) (pe_I hM_35 (by decide)))))), (by omega), (by omega), (by omega), (by omega), (by omega), (by omega), (by omega), (by omega), (by omega), (by omega), (by omega), (by omega), (by omega), (us_q (x := 21) (y := 30) u_78 (pr.trans (pr_w q_127 (by decide) (by decide)) (pr_I hM_115 (by decide))) (by omega))⟩) dX10_primary_100
          · have dk_87 := rQ_s0 (k := 31) hs_60 d3_87 (by decide) (by decide)
            clear d3_87
            refine sb_if_ne (tgt := 78) hx hb (by decide : (0 : Int32).toInt = 0) dX10_primary_70 (by decide) (fun h => absurd h (by decide)) (fun c_70_90 => ?_)
            refine lv_aload_n hx hb dX10_primary_73 rfl (lv_at hl 0 rfl) ?_
            refine lv_iconst (v := 1) hx hb dX10_primary_74 (by decide) ?_
            refine ti_callVv (ci := 10) (av := [.int 1]) C hw (x_X10_wrong l D A cy hJ M_59 iM_59 1 (by decide) B n g_79 hs_60) ⟨ml_X10_217, ym_X10_wrong, yv_X10_wrong, yi_X10_wrong, yc_X10_wrong⟩ yd_X10_wrong ob_60 (by decide) rfl rfl hl.1 (Nat.le_of_ble_eq_true rfl) ⟨by simp only [ti_rm]; omega, by simp only [ti_rm]; omega⟩ ⟨Nat.zero_le _, Nat.zero_le _⟩ dX10_primary_75 (fun M_93 H locs hp_93 hw => ?_)
            rw [show (1 : Int32).toInt = 1 by decide] at hp_93
            obtain ⟨hs_94, hp_95⟩ := hp_93
            obtain ⟨iM_93, q_96, z_97, z_98, z_99, z_100, z_101⟩ := l_wr hp_95
            clear hp_95
            obtain ⟨g_102, eg_102⟩ : ∃ z : Nat → Int, z = pp_rf 1 g_79 := ⟨_, rfl⟩
            rw [← eg_102] at hs_94
            have te_103 : qE a (d + 1) lj d_80 M_93 := qE_fr te_62 q_96.1 (by omega)
            have vs_104 : vs M_93 := vs_fr vs_63 (by omega) (q_96.2 23 (by decide)) (q_96.2 24 (by decide))
            refine lv_aload_n hx hb dX10_primary_78 rfl (lv_at hl 0 rfl) ?_
            refine ti_get (ci := 10) (k := 25) (N := 67) (T := TX10) C hw iw_10 rfl ob_60 (by decide) (by decide) fl_X10_208 rfl rfl dX10_primary_79 ?_
            refine lv_topi (fun x_109 ex_109 => ?_)
            have u_110 : (tI M_93 60 25).toInt = x_109.toInt := by rw [ex_109]
            have ufx_109 : (tI M_93 60 25).toInt = x_109.toInt := by rw [ex_109]
            refine sb_if_eq (tgt := 86) hx hb rfl dX10_primary_82 (by decide) (fun c_82_110 => by have z_112 : ff M_93 = 1 := ff_1 (ufx_109.trans c_82_110); omega) (fun c_82_110 => ?_)
            have z_112 : ff M_93 = 0 := ff_0 (fun h => c_82_110 (ufx_109.symm.trans h))
            clear c_82_110
            exact hQ _ _ _ _ _ hw (⟨(qE_f (by omega)), vs_104, (by rw [pe_s (by omega), if_pos dk_7.1, ← eg_55, ← eg_79]; unfold pp_tk; rw [if_neg dk_87, ← eg_102]; exact hs_94), iM_93, (pe.trans (pe_pr q_96 (by decide) (by decide)) (pe.trans q_64 (pe.trans (pe_pr q_47 (by decide) (by decide)) (pe_I hM_35 (by decide))))), (by omega), (by omega), (by omega), (by omega), (by omega), (by omega), (by omega), (by omega), (by omega), (by omega), (by omega), (by omega), (by omega), (us_q (x := 21) (y := 30) u_78 (pr_w q_96 (by decide) (by decide)) (by omega))⟩) dX10_primary_85
      · refine lv_aload_n hx hb dX10_primary_26 rfl (lv_at hl 0 rfl) ?_
        refine lv_iconst (v := 2) hx hb dX10_primary_27 (by decide) ?_
        refine ti_callVv (ci := 10) (av := [.int 2]) C hw (x_X10_wrong l D A cy hJ M hI 2 (by decide) B n rg hr) ⟨ml_X10_217, ym_X10_wrong, yv_X10_wrong, yi_X10_wrong, yc_X10_wrong⟩ yd_X10_wrong ob_60 (by decide) rfl rfl hl.1 (Nat.le_of_ble_eq_true rfl) ⟨by simp only [ti_rm]; omega, by simp only [ti_rm]; omega⟩ ⟨Nat.zero_le _, Nat.zero_le _⟩ dX10_primary_28 (fun M_15 H locs hp_15 hw => ?_)
        rw [show (2 : Int32).toInt = 2 by decide] at hp_15
        obtain ⟨hs_16, hp_17⟩ := hp_15
        obtain ⟨iM_15, q_18, z_19, z_20, z_21, z_22, z_23⟩ := l_wr hp_17
        clear hp_17
        obtain ⟨g_24, eg_24⟩ : ∃ z : Nat → Int, z = pp_rf 2 rg := ⟨_, rfl⟩
        rw [← eg_24] at hs_16
        have te_25 : qE a (d) lj td M_15 := qE_fr he q_18.1 (by omega)
        have vs_26 : vs M_15 := vs_fr hvs (by omega) (q_18.2 23 (by decide)) (q_18.2 24 (by decide))
        refine lv_aload_n hx hb dX10_primary_31 rfl (lv_at hl 0 rfl) ?_
        refine ti_get (ci := 10) (k := 25) (N := 67) (T := TX10) C hw iw_10 rfl ob_60 (by decide) (by decide) fl_X10_208 rfl rfl dX10_primary_32 ?_
        refine lv_topi (fun x_29 ex_29 => ?_)
        have u_30 : (tI M_15 60 25).toInt = x_29.toInt := by rw [ex_29]
        have ufx_29 : (tI M_15 60 25).toInt = x_29.toInt := by rw [ex_29]
        refine sb_if_eq (tgt := 39) hx hb rfl dX10_primary_35 (by decide) (fun c_35_30 => by have z_32 : ff M_15 = 1 := ff_1 (ufx_29.trans c_35_30); omega) (fun c_35_30 => ?_)
        have z_32 : ff M_15 = 0 := ff_0 (fun h => c_35_30 (ufx_29.symm.trans h))
        clear c_35_30
        exact hQ _ _ _ _ _ hw (⟨(qE_f (by omega)), vs_26, (by rw [show j = 0 by omega, pe_0, if_pos dk_7.1, ← eg_24]; exact hs_16), iM_15, (pe_pr q_18 (by decide) (by decide)), (by omega), (by omega), (by omega), (by omega), (by omega), (by omega), (by omega), (by omega), (by omega), (by omega), (by omega), (by omega), (by omega), us_f (by omega)⟩) dX10_primary_38
    · have dk_7 := rQ_s0 (k := 30) hr d3_7 (by decide) (by decide)
      clear d3_7
      refine sb_if_eq (tgt := 101) hx hb (by decide : (0 : Int32).toInt = 0) dX10_primary_14 (by decide) (fun c_14_10 => ?_) (fun h => absurd h (by decide))
      refine lv_aload_n hx hb dX10_primary_101 rfl (lv_at hl 0 rfl) ?_
      refine ti_get (ci := 10) (k := 23) (N := 67) (T := TX10) C hw iw_10 rfl ob_60 (by decide) (by decide) fl_X10_173 rfl rfl dX10_primary_102 ?_
      refine lv_topi (fun x_138 ex_138 => ?_)
      have uqu_139 : (tI M 60 23).toInt = x_138.toInt := by rw [(ex_138.symm)]
      refine lv_iconst (v := 2) hx hb dX10_primary_105 (by decide) ?_
      refine sb_icmp_ne (tgt := 113) hx hb rfl (by decide : (2 : Int32).toInt = 2) dX10_primary_106 (by decide) (fun c_106_139 => ?_) (fun c_106_139 => ?_)
      · refine lv_iconst (v := 0) hx hb dX10_primary_113 (by decide) ?_
        refine lv_istore_n (lv' := [(1, .int 0), (0, .ref (A 60 0))]) hx hb dX10_primary_114 rfl hl (by decide) rfl (fun ls hl => ?_)
        refine lv_iload_n hx hb dX10_primary_115 rfl (lv_at hl 0 rfl) ?_
        refine sb_if_eq (tgt := 137) hx hb (by decide : (0 : Int32).toInt = 0) dX10_primary_116 (by decide) (fun c_116_141 => ?_) (fun h => absurd h (by decide))
        refine lv_iload_n hx hb dX10_primary_137 rfl (lv_at hl 0 rfl) ?_
        refine sb_if_ne (tgt := 162) hx hb (by decide : (0 : Int32).toInt = 0) dX10_primary_138 (by decide) (fun h => absurd h (by decide)) (fun c_138_158 => ?_)
        refine lv_aload_n hx hb dX10_primary_141 rfl (lv_at hl 1 rfl) ?_
        refine ti_get (ci := 10) (k := 23) (N := 67) (T := TX10) C hw iw_10 rfl ob_60 (by decide) (by decide) fl_X10_173 rfl rfl dX10_primary_142 ?_
        refine ti_top (y := x_138) (ex_138.symm) ?_
        have uqu_161 : (tI M 60 23).toInt = x_138.toInt := by rw [(ex_138.symm)]
        refine sb_if_ne (tgt := 157) hx hb rfl dX10_primary_145 (by decide) (fun c_145_161 => ?_) (fun c_145_161 => ?_)
        · refine lv_aload_n hx hb dX10_primary_157 rfl (lv_at hl 1 rfl) ?_
          refine lv_iconst (v := 1) hx hb dX10_primary_158 (by decide) ?_
          refine ti_callVv (ci := 10) (av := [.int 1]) C hw (x_X10_wrong l D A cy hJ M hI 1 (by decide) B n rg hr) ⟨ml_X10_217, ym_X10_wrong, yv_X10_wrong, yi_X10_wrong, yc_X10_wrong⟩ yd_X10_wrong ob_60 (by decide) rfl rfl hl.1 (Nat.le_of_ble_eq_true rfl) ⟨by simp only [ti_rm]; omega, by simp only [ti_rm]; omega⟩ ⟨Nat.zero_le _, Nat.zero_le _⟩ dX10_primary_159 (fun M_167 H locs hp_167 hw => ?_)
          rw [show (1 : Int32).toInt = 1 by decide] at hp_167
          obtain ⟨hs_168, hp_169⟩ := hp_167
          obtain ⟨iM_167, q_170, z_171, z_172, z_173, z_174, z_175⟩ := l_wr hp_169
          clear hp_169
          obtain ⟨g_176, eg_176⟩ : ∃ z : Nat → Int, z = pp_rf 1 rg := ⟨_, rfl⟩
          rw [← eg_176] at hs_168
          have te_177 : qE a (d) lj td M_167 := qE_fr he q_170.1 (by omega)
          have vs_178 : vs M_167 := vs_fr hvs (by omega) (q_170.2 23 (by decide)) (q_170.2 24 (by decide))
          refine lv_aload_n hx hb dX10_primary_162 rfl (lv_at hl 1 rfl) ?_
          refine ti_callVv (ci := 10) (av := []) C hw (x_X10_knot l D A cy hJ M_167 iM_167  B n g_176 hs_168) ⟨ml_X10_279, ym_X10_knot, yv_X10_knot, yi_X10_knot, yc_X10_knot⟩ yd_X10_knot ob_60 (by decide) rfl rfl hl.1 (Nat.le_of_ble_eq_true rfl) ⟨by simp only [ti_rm]; omega, by simp only [ti_rm]; omega⟩ ⟨Nat.zero_le _, Nat.zero_le _⟩ dX10_primary_163 (fun M_238 H locs hp_238 hw => ?_)
          obtain ⟨hs_239, hp_240⟩ := hp_238
          obtain ⟨iM_238, q_241, z_242, z_243, z_244, z_245, z_246, z_247⟩ := l_kn hp_240
          clear hp_240
          obtain ⟨g_248, eg_248⟩ : ∃ z : Nat → Int, z = pp_k1 g_176 := ⟨_, rfl⟩
          rw [← eg_248] at hs_239
          have te_249 : qE a (d) lj td M_238 := qE_fr te_177 q_241.1 (by omega)
          have vs_250 : vs M_238 := vs_fr vs_178 (by omega) (q_241.2 23 (by decide)) (q_241.2 24 (by decide))
          refine lv_aload_n hx hb dX10_primary_166 rfl (lv_at hl 1 rfl) ?_
          refine lv_iload_n hx hb dX10_primary_167 rfl (lv_at hl 0 rfl) ?_
          refine sb_if_eq (tgt := 175) hx hb (by decide : (0 : Int32).toInt = 0) dX10_primary_168 (by decide) (fun c_168_250 => ?_) (fun h => absurd h (by decide))
          refine lv_iconst (v := 1) hx hb dX10_primary_175 (by decide) ?_
          refine lv_iload_n hx hb dX10_primary_176 rfl (lv_at hl 0 rfl) ?_
          refine sb_if_eq (tgt := 187) hx hb (by decide : (0 : Int32).toInt = 0) dX10_primary_177 (by decide) (fun c_177_269 => ?_) (fun h => absurd h (by decide))
          refine lv_aload_n hx hb dX10_primary_187 rfl (lv_at hl 1 rfl) ?_
          refine ti_get (ci := 10) (k := 24) (N := 67) (T := TX10) C hw iw_10 rfl ob_60 (by decide) (by decide) fl_X10_183 rfl rfl dX10_primary_188 ?_
          refine lv_topi (fun x_276 ex_276 => ?_)
          have uqu_277 : (tI M_238 60 24).toInt = x_276.toInt := by rw [(ex_276.symm)]
          refine lv_bipush (v := 19) hx hb dX10_primary_191 (by decide) ?_
          refine lv_isub hx hb dX10_primary_193 ?_
          refine lv_topi (fun x_278 ex_278 => ?_)
          refine ti_callVv (ci := 10) (av := [.int 1, .int x_278]) C hw (x_X10_puts l D A cy hJ M_238 iM_238 a (d) (d + 1) 1 x_278 (us_q (x := 21) (y := 30) hu (pr.trans (pr_w q_241 (by decide) (by decide)) (pr_w q_170 (by decide) (by decide))) (by omega)) (nL (by omega)) (by first | exact Or.inr (Or.inr (Or.inr ⟨by decide, Or.inr ⟨by omega, by omega⟩, rfl⟩)) | exact nF (by omega))) ⟨ml_X10_282, ym_X10_puts, yv_X10_puts, yi_X10_puts, yc_X10_puts⟩ yd_X10_puts ob_60 (by decide) rfl rfl hl.1 (Nat.le_of_ble_eq_true rfl) ⟨by simp only [ti_rm]; omega, by simp only [ti_rm]; omega⟩ ⟨Nat.zero_le _, Nat.zero_le _⟩ dX10_primary_194 (fun M_363 H locs hp_363 hw => ?_)
          have piM_363 := (hp_363).2.2.2.2.1
          obtain ⟨puM_363, hqM_363⟩ := hp_363
          have hs_364 := rQ_pe hs_239 hqM_363.2.1 hqM_363.2.2.2.1
          obtain ⟨iM_363, q_365, u_366, z_367, z_368, z_369, z_370, z_371, z_372⟩ := l_pu iM_238 hqM_363
          clear hqM_363
          have te_374 : qE a (d + 1) lj (qa lj (-(16 + x_278.toInt)) td) M_363 := qE_pu hlj te_249 puM_363 (fun q9 => by have q8 := ff_1 q9; exact ⟨by unfold bq_kc; rw [if_neg (by decide), if_neg (by decide)], fun q => absurd q (by decide)⟩) (fun q9 => by have q8 := ff_1 q9; exact Or.inr (Or.inr ⟨by decide, Or.inr ⟨by omega, by omega⟩, rfl⟩))
          obtain ⟨d_373, ed_373⟩ : ∃ z : Nat → Int, z = qa lj (-(16 + x_278.toInt)) td := ⟨_, rfl⟩
          rw [← ed_373] at te_374
          have vs_375 : vs M_363 := fun q9 q8 => by rw [piM_363 23 (by decide)] at q8; rw [piM_363 24 (by decide)]; exact vs_250 (by rw [← puM_363.1]; exact q9) q8
          refine lv_aload_n hx hb dX10_primary_197 rfl (lv_at hl 1 rfl) ?_
          refine ti_callVvE (ci := 10) (av := []) C hE hw (x_X10_goOn l D A cy hJ M_363 iM_363  B n g_248 hs_364) ⟨ml_X10_267, ym_X10_goOn, yv_X10_goOn, yi_X10_goOn, yc_X10_goOn⟩ yd_X10_goOn ob_60 (by decide) rfl rfl hl.1 (Nat.le_of_ble_eq_true rfl) ⟨by simp only [ti_rm]; omega, by simp only [ti_rm]; omega⟩ ⟨Nat.zero_le _, Nat.zero_le _⟩ dX10_primary_198 (fun M_377 H locs hp_377 hw => ?_)
          obtain ⟨hs_378, hp_379⟩ := hp_377
          obtain ⟨iM_377, q_380, z_381, z_382, z_383, z_384, z_385⟩ := l_go hp_379
          clear hp_379
          obtain ⟨g_386, eg_386⟩ : ∃ z : Nat → Int, z = pp_go B n g_248 := ⟨_, rfl⟩
          rw [← eg_386] at hs_378
          have te_387 : qE a (d + 1) lj d_373 M_377 := qE_fr te_374 q_380.1 (by omega)
          have vs_388 : vs M_377 := (fun q9 => vs_av hs_378 (by rw [eg_386]; unfold pp_go; rw [if_pos (rQ_g0 hs_364 (ff_1 (ff_q (by omega) q9)))]; exact av_v) q9)
          exact hQ _ _ _ _ _ hw (⟨(qE_f (by omega)), vs_388, (by have z := rQ_g1 hs_168 (by omega); have q : g_386 = g_176 := (by rw [eg_386, eg_248, k1_f z, go_f z]); rw [pe_n dk_7, show pp_p0 B n rg = g_176 from Eq.trans (by first | exact p0_2 (rQ_T hr (by omega)) (by omega) (by omega) | exact p0_1 (rQ_T hr (by omega)) (by omega) (by omega)) eg_176.symm, ← q]; exact hs_378), iM_377, (pe.trans (pe_pr q_380 (by decide) (by decide)) (pe.trans q_365 (pe.trans (pe_pr q_241 (by decide) (by decide)) (pe_pr q_170 (by decide) (by decide))))), (by omega), (by omega), (by omega), (by omega), (by omega), (by omega), (by omega), (by omega), (by omega), (by omega), (by omega), (by omega), (by omega), (us_q (x := 21) (y := 30) u_366 (pr_w q_380 (by decide) (by decide)) (by omega))⟩) dX10_primary_201
        · have v24 : (tI M 60 24).toInt ≤ 24 := hI.2.2.1 (by rw [(ex_138.symm)]; exact z0 (by omega))
          refine lv_aload_n hx hb dX10_primary_148 rfl (lv_at hl 1 rfl) ?_
          refine ti_get (ci := 10) (k := 24) (N := 67) (T := TX10) C hw iw_10 rfl ob_60 (by decide) (by decide) fl_X10_183 rfl rfl dX10_primary_149 ?_
          refine lv_topi (fun x_163 ex_163 => ?_)
          have uqu_164 : (tI M 60 24).toInt = x_163.toInt := by rw [(ex_163.symm)]
          have u24 : (tI M 60 24).toInt = (x_163 : Int32).toInt := by rw [(ex_163.symm)]
          refine lv_bipush (v := 19) hx hb dX10_primary_152 (by decide) ?_
          refine sb_icmp_ge (tgt := 162) hx hb rfl (by decide : (19 : Int32).toInt = 19) dX10_primary_154 (by decide) (fun c_154_164 => ?_) (fun c_154_164 => ?_)
          · refine lv_aload_n hx hb dX10_primary_162 rfl (lv_at hl 1 rfl) ?_
            refine ti_callVv (ci := 10) (av := []) C hw (x_X10_knot l D A cy hJ M hI  B n rg hr) ⟨ml_X10_279, ym_X10_knot, yv_X10_knot, yi_X10_knot, yc_X10_knot⟩ yd_X10_knot ob_60 (by decide) rfl rfl hl.1 (Nat.le_of_ble_eq_true rfl) ⟨by simp only [ti_rm]; omega, by simp only [ti_rm]; omega⟩ ⟨Nat.zero_le _, Nat.zero_le _⟩ dX10_primary_163 (fun M_223 H locs hp_223 hw => ?_)
            obtain ⟨hs_224, hp_225⟩ := hp_223
            obtain ⟨iM_223, q_226, z_227, z_228, z_229, z_230, z_231, z_232⟩ := l_kn hp_225
            clear hp_225
            obtain ⟨g_233, eg_233⟩ : ∃ z : Nat → Int, z = pp_k1 rg := ⟨_, rfl⟩
            rw [← eg_233] at hs_224
            have te_234 : qE a (d) lj td M_223 := qE_fr he q_226.1 (by omega)
            have vs_235 : vs M_223 := vs_fr hvs (by omega) (q_226.2 23 (by decide)) (q_226.2 24 (by decide))
            refine lv_aload_n hx hb dX10_primary_166 rfl (lv_at hl 1 rfl) ?_
            refine lv_iload_n hx hb dX10_primary_167 rfl (lv_at hl 0 rfl) ?_
            refine sb_if_eq (tgt := 175) hx hb (by decide : (0 : Int32).toInt = 0) dX10_primary_168 (by decide) (fun c_168_235 => ?_) (fun h => absurd h (by decide))
            refine lv_iconst (v := 1) hx hb dX10_primary_175 (by decide) ?_
            refine lv_iload_n hx hb dX10_primary_176 rfl (lv_at hl 0 rfl) ?_
            refine sb_if_eq (tgt := 187) hx hb (by decide : (0 : Int32).toInt = 0) dX10_primary_177 (by decide) (fun c_177_268 => ?_) (fun h => absurd h (by decide))
            refine lv_aload_n hx hb dX10_primary_187 rfl (lv_at hl 1 rfl) ?_
            refine ti_get (ci := 10) (k := 24) (N := 67) (T := TX10) C hw iw_10 rfl ob_60 (by decide) (by decide) fl_X10_183 rfl rfl dX10_primary_188 ?_
            refine ti_top (y := x_163) ((q_226.2 24 (by decide)).trans ex_163.symm) ?_
            have uqu_274 : (tI M_223 60 24).toInt = x_163.toInt := by rw [((q_226.2 24 (by decide)).trans ex_163.symm)]
            refine lv_bipush (v := 19) hx hb dX10_primary_191 (by decide) ?_
            refine lv_isub hx hb dX10_primary_193 ?_
            refine lv_topi (fun x_275 ex_275 => ?_)
            have lox_275x_163 := x_163.le_toInt
            have hix_275x_163 := x_163.toInt_lt
            have tx_275 : x_275.toInt = x_163.toInt - 19 := i_sub ex_275 rfl (by decide : (19 : Int32).toInt = 19) (by omega) (by omega)
            refine ti_callVv (ci := 10) (av := [.int 1, .int x_275]) C hw (x_X10_puts l D A cy hJ M_223 iM_223 a (d) (d + 1) 1 x_275 (us_q (x := 21) (y := 30) hu (pr_w q_226 (by decide) (by decide)) (by omega)) (nL (by omega)) (by first | exact Or.inr (Or.inr (Or.inr ⟨by decide, Or.inr ⟨by omega, by omega⟩, rfl⟩)) | exact nF (by omega))) ⟨ml_X10_282, ym_X10_puts, yv_X10_puts, yi_X10_puts, yc_X10_puts⟩ yd_X10_puts ob_60 (by decide) rfl rfl hl.1 (Nat.le_of_ble_eq_true rfl) ⟨by simp only [ti_rm]; omega, by simp only [ti_rm]; omega⟩ ⟨Nat.zero_le _, Nat.zero_le _⟩ dX10_primary_194 (fun M_336 H locs hp_336 hw => ?_)
            have piM_336 := (hp_336).2.2.2.2.1
            obtain ⟨puM_336, hqM_336⟩ := hp_336
            have hs_337 := rQ_pe hs_224 hqM_336.2.1 hqM_336.2.2.2.1
            obtain ⟨iM_336, q_338, u_339, z_340, z_341, z_342, z_343, z_344, z_345⟩ := l_pu iM_223 hqM_336
            clear hqM_336
            have te_347 : qE a (d + 1) lj (qa lj (-(16 + x_275.toInt)) td) M_336 := qE_pu hlj te_234 puM_336 (fun q9 => by have q8 := ff_1 q9; exact ⟨by unfold bq_kc; rw [if_neg (by decide), if_neg (by decide)], fun q => absurd q (by decide)⟩) (fun q9 => by have q8 := ff_1 q9; exact Or.inr (Or.inr ⟨by decide, Or.inr ⟨by omega, by omega⟩, rfl⟩))
            obtain ⟨d_346, ed_346⟩ : ∃ z : Nat → Int, z = qa lj (-(16 + x_275.toInt)) td := ⟨_, rfl⟩
            rw [← ed_346] at te_347
            have vs_348 : vs M_336 := fun q9 q8 => by rw [piM_336 23 (by decide)] at q8; rw [piM_336 24 (by decide)]; exact vs_235 (by rw [← puM_336.1]; exact q9) q8
            refine lv_aload_n hx hb dX10_primary_197 rfl (lv_at hl 1 rfl) ?_
            refine ti_callVvE (ci := 10) (av := []) C hE hw (x_X10_goOn l D A cy hJ M_336 iM_336  B n g_233 hs_337) ⟨ml_X10_267, ym_X10_goOn, yv_X10_goOn, yi_X10_goOn, yc_X10_goOn⟩ yd_X10_goOn ob_60 (by decide) rfl rfl hl.1 (Nat.le_of_ble_eq_true rfl) ⟨by simp only [ti_rm]; omega, by simp only [ti_rm]; omega⟩ ⟨Nat.zero_le _, Nat.zero_le _⟩ dX10_primary_198 (fun M_350 H locs hp_350 hw => ?_)
            obtain ⟨hs_351, hp_352⟩ := hp_350
            obtain ⟨iM_350, q_353, z_354, z_355, z_356, z_357, z_358⟩ := l_go hp_352
            clear hp_352
            obtain ⟨g_359, eg_359⟩ : ∃ z : Nat → Int, z = pp_go B n g_233 := ⟨_, rfl⟩
            rw [← eg_359] at hs_351
            have te_360 : qE a (d + 1) lj d_346 M_350 := qE_fr te_347 q_353.1 (by omega)
            have vs_361 : vs M_350 := (fun q9 => vs_av hs_351 (by rw [eg_359]; unfold pp_go; rw [if_pos (rQ_g0 hs_337 (ff_1 (ff_q (by omega) q9)))]; exact av_v) q9)
            exact hQ _ _ _ _ _ hw (⟨(by rw [qe_n dk_7]; unfold qq_p0; have q := pt_Twd (rQ_T hr (by omega)) (by omega); have r := pt_nm1 (rg 0).toNat (by omega); rw [if_neg (by omega), if_pos ⟨by omega, by omega⟩, show -(rg 0) = -(16 + x_275.toInt) by omega, ← ed_346]; exact te_360), vs_361, (by rw [pe_n dk_7, show pp_p0 B n rg = pp_kn B n rg from (by first | exact p0_k (rQ_T hr (by omega)) (by omega) (by omega) | exact p0_n (rQ_T hr (by omega)) (by omega) (by omega)), ← kn_kg (rQ_g0 hr (by omega)), ← eg_233, ← eg_359]; exact hs_351), iM_350, (pe.trans (pe_pr q_353 (by decide) (by decide)) (pe.trans q_338 (pe_pr q_226 (by decide) (by decide)))), (by omega), (by omega), (by omega), (by omega), (by omega), (by omega), (by omega), (by omega), (by omega), (by omega), (by omega), (by omega), (by omega), (us_q (x := 21) (y := 30) u_339 (pr_w q_353 (by decide) (by decide)) (by omega))⟩) dX10_primary_201
          · refine lv_aload_n hx hb dX10_primary_157 rfl (lv_at hl 1 rfl) ?_
            refine lv_iconst (v := 1) hx hb dX10_primary_158 (by decide) ?_
            refine ti_callVv (ci := 10) (av := [.int 1]) C hw (x_X10_wrong l D A cy hJ M hI 1 (by decide) B n rg hr) ⟨ml_X10_217, ym_X10_wrong, yv_X10_wrong, yi_X10_wrong, yc_X10_wrong⟩ yd_X10_wrong ob_60 (by decide) rfl rfl hl.1 (Nat.le_of_ble_eq_true rfl) ⟨by simp only [ti_rm]; omega, by simp only [ti_rm]; omega⟩ ⟨Nat.zero_le _, Nat.zero_le _⟩ dX10_primary_159 (fun M_180 H locs hp_180 hw => ?_)
            rw [show (1 : Int32).toInt = 1 by decide] at hp_180
            obtain ⟨hs_181, hp_182⟩ := hp_180
            obtain ⟨iM_180, q_183, z_184, z_185, z_186, z_187, z_188⟩ := l_wr hp_182
            clear hp_182
            obtain ⟨g_189, eg_189⟩ : ∃ z : Nat → Int, z = pp_rf 1 rg := ⟨_, rfl⟩
            rw [← eg_189] at hs_181
            have te_190 : qE a (d) lj td M_180 := qE_fr he q_183.1 (by omega)
            have vs_191 : vs M_180 := vs_fr hvs (by omega) (q_183.2 23 (by decide)) (q_183.2 24 (by decide))
            refine lv_aload_n hx hb dX10_primary_162 rfl (lv_at hl 1 rfl) ?_
            refine ti_callVv (ci := 10) (av := []) C hw (x_X10_knot l D A cy hJ M_180 iM_180  B n g_189 hs_181) ⟨ml_X10_279, ym_X10_knot, yv_X10_knot, yi_X10_knot, yc_X10_knot⟩ yd_X10_knot ob_60 (by decide) rfl rfl hl.1 (Nat.le_of_ble_eq_true rfl) ⟨by simp only [ti_rm]; omega, by simp only [ti_rm]; omega⟩ ⟨Nat.zero_le _, Nat.zero_le _⟩ dX10_primary_163 (fun M_253 H locs hp_253 hw => ?_)
            obtain ⟨hs_254, hp_255⟩ := hp_253
            obtain ⟨iM_253, q_256, z_257, z_258, z_259, z_260, z_261, z_262⟩ := l_kn hp_255
            clear hp_255
            obtain ⟨g_263, eg_263⟩ : ∃ z : Nat → Int, z = pp_k1 g_189 := ⟨_, rfl⟩
            rw [← eg_263] at hs_254
            have te_264 : qE a (d) lj td M_253 := qE_fr te_190 q_256.1 (by omega)
            have vs_265 : vs M_253 := vs_fr vs_191 (by omega) (q_256.2 23 (by decide)) (q_256.2 24 (by decide))
            refine lv_aload_n hx hb dX10_primary_166 rfl (lv_at hl 1 rfl) ?_
            refine lv_iload_n hx hb dX10_primary_167 rfl (lv_at hl 0 rfl) ?_
            refine sb_if_eq (tgt := 175) hx hb (by decide : (0 : Int32).toInt = 0) dX10_primary_168 (by decide) (fun c_168_265 => ?_) (fun h => absurd h (by decide))
            refine lv_iconst (v := 1) hx hb dX10_primary_175 (by decide) ?_
            refine lv_iload_n hx hb dX10_primary_176 rfl (lv_at hl 0 rfl) ?_
            refine sb_if_eq (tgt := 187) hx hb (by decide : (0 : Int32).toInt = 0) dX10_primary_177 (by decide) (fun c_177_270 => ?_) (fun h => absurd h (by decide))
            refine lv_aload_n hx hb dX10_primary_187 rfl (lv_at hl 1 rfl) ?_
            refine ti_get (ci := 10) (k := 24) (N := 67) (T := TX10) C hw iw_10 rfl ob_60 (by decide) (by decide) fl_X10_183 rfl rfl dX10_primary_188 ?_
            refine ti_top (y := x_163) ((q_256.2 24 (by decide)).trans ((q_183.2 24 (by decide)).trans ex_163.symm)) ?_
            have uqu_279 : (tI M_253 60 24).toInt = x_163.toInt := by rw [((q_256.2 24 (by decide)).trans ((q_183.2 24 (by decide)).trans ex_163.symm))]
            refine lv_bipush (v := 19) hx hb dX10_primary_191 (by decide) ?_
            refine lv_isub hx hb dX10_primary_193 ?_
            refine lv_topi (fun x_280 ex_280 => ?_)
            refine ti_callVv (ci := 10) (av := [.int 1, .int x_280]) C hw (x_X10_puts l D A cy hJ M_253 iM_253 a (d) (d + 1) 1 x_280 (us_q (x := 21) (y := 30) hu (pr.trans (pr_w q_256 (by decide) (by decide)) (pr_w q_183 (by decide) (by decide))) (by omega)) (nL (by omega)) (by first | exact Or.inr (Or.inr (Or.inr ⟨by decide, Or.inr ⟨by omega, by omega⟩, rfl⟩)) | exact nF (by omega))) ⟨ml_X10_282, ym_X10_puts, yv_X10_puts, yi_X10_puts, yc_X10_puts⟩ yd_X10_puts ob_60 (by decide) rfl rfl hl.1 (Nat.le_of_ble_eq_true rfl) ⟨by simp only [ti_rm]; omega, by simp only [ti_rm]; omega⟩ ⟨Nat.zero_le _, Nat.zero_le _⟩ dX10_primary_194 (fun M_390 H locs hp_390 hw => ?_)
            have piM_390 := (hp_390).2.2.2.2.1
            obtain ⟨puM_390, hqM_390⟩ := hp_390
            have hs_391 := rQ_pe hs_254 hqM_390.2.1 hqM_390.2.2.2.1
            obtain ⟨iM_390, q_392, u_393, z_394, z_395, z_396, z_397, z_398, z_399⟩ := l_pu iM_253 hqM_390
            clear hqM_390
            have te_401 : qE a (d + 1) lj (qa lj (-(16 + x_280.toInt)) td) M_390 := qE_pu hlj te_264 puM_390 (fun q9 => by have q8 := ff_1 q9; exact ⟨by unfold bq_kc; rw [if_neg (by decide), if_neg (by decide)], fun q => absurd q (by decide)⟩) (fun q9 => by have q8 := ff_1 q9; exact Or.inr (Or.inr ⟨by decide, Or.inr ⟨by omega, by omega⟩, rfl⟩))
            obtain ⟨d_400, ed_400⟩ : ∃ z : Nat → Int, z = qa lj (-(16 + x_280.toInt)) td := ⟨_, rfl⟩
            rw [← ed_400] at te_401
            have vs_402 : vs M_390 := fun q9 q8 => by rw [piM_390 23 (by decide)] at q8; rw [piM_390 24 (by decide)]; exact vs_265 (by rw [← puM_390.1]; exact q9) q8
            refine lv_aload_n hx hb dX10_primary_197 rfl (lv_at hl 1 rfl) ?_
            refine ti_callVvE (ci := 10) (av := []) C hE hw (x_X10_goOn l D A cy hJ M_390 iM_390  B n g_263 hs_391) ⟨ml_X10_267, ym_X10_goOn, yv_X10_goOn, yi_X10_goOn, yc_X10_goOn⟩ yd_X10_goOn ob_60 (by decide) rfl rfl hl.1 (Nat.le_of_ble_eq_true rfl) ⟨by simp only [ti_rm]; omega, by simp only [ti_rm]; omega⟩ ⟨Nat.zero_le _, Nat.zero_le _⟩ dX10_primary_198 (fun M_404 H locs hp_404 hw => ?_)
            obtain ⟨hs_405, hp_406⟩ := hp_404
            obtain ⟨iM_404, q_407, z_408, z_409, z_410, z_411, z_412⟩ := l_go hp_406
            clear hp_406
            obtain ⟨g_413, eg_413⟩ : ∃ z : Nat → Int, z = pp_go B n g_263 := ⟨_, rfl⟩
            rw [← eg_413] at hs_405
            have te_414 : qE a (d + 1) lj d_400 M_404 := qE_fr te_401 q_407.1 (by omega)
            have vs_415 : vs M_404 := (fun q9 => vs_av hs_405 (by rw [eg_413]; unfold pp_go; rw [if_pos (rQ_g0 hs_391 (ff_1 (ff_q (by omega) q9)))]; exact av_v) q9)
            exact hQ _ _ _ _ _ hw (⟨(qE_f (by omega)), vs_415, (by have z := rQ_g1 hs_181 (by omega); have q : g_413 = g_189 := (by rw [eg_413, eg_263, k1_f z, go_f z]); rw [pe_n dk_7, show pp_p0 B n rg = g_189 from Eq.trans (by first | exact p0_2 (rQ_T hr (by omega)) (by omega) (by omega) | exact p0_1 (rQ_T hr (by omega)) (by omega) (by omega)) eg_189.symm, ← q]; exact hs_405), iM_404, (pe.trans (pe_pr q_407 (by decide) (by decide)) (pe.trans q_392 (pe.trans (pe_pr q_256 (by decide) (by decide)) (pe_pr q_183 (by decide) (by decide))))), (by omega), (by omega), (by omega), (by omega), (by omega), (by omega), (by omega), (by omega), (by omega), (by omega), (by omega), (by omega), (by omega), (us_q (x := 21) (y := 30) u_393 (pr_w q_407 (by decide) (by decide)) (by omega))⟩) dX10_primary_201
      · refine lv_iconst (v := 1) hx hb dX10_primary_109 (by decide) ?_
        refine lv_goto (tgt := 114) hx hb dX10_primary_110 (by decide) ?_
        refine lv_istore_n (lv' := [(1, .int 1), (0, .ref (A 60 0))]) hx hb dX10_primary_114 rfl hl (by decide) rfl (fun ls hl => ?_)
        refine lv_iload_n hx hb dX10_primary_115 rfl (lv_at hl 0 rfl) ?_
        refine sb_if_eq (tgt := 137) hx hb (by decide : (1 : Int32).toInt = 1) dX10_primary_116 (by decide) (fun h => absurd h (by decide)) (fun c_116_140 => ?_)
        refine lv_aload_n hx hb dX10_primary_119 rfl (lv_at hl 1 rfl) ?_
        refine ti_get (ci := 10) (k := 24) (N := 67) (T := TX10) C hw iw_10 rfl ob_60 (by decide) (by decide) fl_X10_183 rfl rfl dX10_primary_120 ?_
        refine lv_topi (fun x_143 ex_143 => ?_)
        have uqu_144 : (tI M 60 24).toInt = x_143.toInt := by rw [(ex_143.symm)]
        refine lv_sipush (v := 9999) hx hb dX10_primary_123 (by decide) ?_
        refine sb_icmp_le (tgt := 137) hx hb rfl (by decide : (9999 : Int32).toInt = 9999) dX10_primary_126 (by decide) (fun c_126_144 => ?_) (fun c_126_144 => ?_)
        · refine lv_iload_n hx hb dX10_primary_137 rfl (lv_at hl 0 rfl) ?_
          refine sb_if_ne (tgt := 162) hx hb (by decide : (1 : Int32).toInt = 1) dX10_primary_138 (by decide) (fun c_138_159 => ?_) (fun h => absurd h (by decide))
          refine lv_aload_n hx hb dX10_primary_162 rfl (lv_at hl 1 rfl) ?_
          refine ti_callVv (ci := 10) (av := []) C hw (x_X10_knot l D A cy hJ M hI  B n rg hr) ⟨ml_X10_279, ym_X10_knot, yv_X10_knot, yi_X10_knot, yc_X10_knot⟩ yd_X10_knot ob_60 (by decide) rfl rfl hl.1 (Nat.le_of_ble_eq_true rfl) ⟨by simp only [ti_rm]; omega, by simp only [ti_rm]; omega⟩ ⟨Nat.zero_le _, Nat.zero_le _⟩ dX10_primary_163 (fun M_208 H locs hp_208 hw => ?_)
          obtain ⟨hs_209, hp_210⟩ := hp_208
          obtain ⟨iM_208, q_211, z_212, z_213, z_214, z_215, z_216, z_217⟩ := l_kn hp_210
          clear hp_210
          obtain ⟨g_218, eg_218⟩ : ∃ z : Nat → Int, z = pp_k1 rg := ⟨_, rfl⟩
          rw [← eg_218] at hs_209
          have te_219 : qE a (d) lj td M_208 := qE_fr he q_211.1 (by omega)
          have vs_220 : vs M_208 := vs_fr hvs (by omega) (q_211.2 23 (by decide)) (q_211.2 24 (by decide))
          refine lv_aload_n hx hb dX10_primary_166 rfl (lv_at hl 1 rfl) ?_
          refine lv_iload_n hx hb dX10_primary_167 rfl (lv_at hl 0 rfl) ?_
          refine sb_if_eq (tgt := 175) hx hb (by decide : (1 : Int32).toInt = 1) dX10_primary_168 (by decide) (fun h => absurd h (by decide)) (fun c_168_220 => ?_)
          refine lv_iconst (v := 0) hx hb dX10_primary_171 (by decide) ?_
          refine lv_goto (tgt := 176) hx hb dX10_primary_172 (by decide) ?_
          refine lv_iload_n hx hb dX10_primary_176 rfl (lv_at hl 0 rfl) ?_
          refine sb_if_eq (tgt := 187) hx hb (by decide : (1 : Int32).toInt = 1) dX10_primary_177 (by decide) (fun h => absurd h (by decide)) (fun c_177_267 => ?_)
          refine lv_aload_n hx hb dX10_primary_180 rfl (lv_at hl 1 rfl) ?_
          refine ti_get (ci := 10) (k := 24) (N := 67) (T := TX10) C hw iw_10 rfl ob_60 (by decide) (by decide) fl_X10_183 rfl rfl dX10_primary_181 ?_
          refine ti_top (y := x_143) ((q_211.2 24 (by decide)).trans ex_143.symm) ?_
          have uqu_273 : (tI M_208 60 24).toInt = x_143.toInt := by rw [((q_211.2 24 (by decide)).trans ex_143.symm)]
          refine lv_goto (tgt := 194) hx hb dX10_primary_184 (by decide) ?_
          refine ti_callVv (ci := 10) (av := [.int 0, .int x_143]) C hw (x_X10_puts l D A cy hJ M_208 iM_208 a (d) (d + 1) 0 x_143 (us_q (x := 21) (y := 30) hu (pr_w q_211 (by decide) (by decide)) (by omega)) (nL (by omega)) (by first | exact Or.inr (Or.inr (Or.inr ⟨by decide, Or.inl (by decide), rfl⟩)) | exact nF (by omega))) ⟨ml_X10_282, ym_X10_puts, yv_X10_puts, yi_X10_puts, yc_X10_puts⟩ yd_X10_puts ob_60 (by decide) rfl rfl hl.1 (Nat.le_of_ble_eq_true rfl) ⟨by simp only [ti_rm]; omega, by simp only [ti_rm]; omega⟩ ⟨Nat.zero_le _, Nat.zero_le _⟩ dX10_primary_194 (fun M_309 H locs hp_309 hw => ?_)
          have piM_309 := (hp_309).2.2.2.2.1
          obtain ⟨puM_309, hqM_309⟩ := hp_309
          have hs_310 := rQ_pe hs_209 hqM_309.2.1 hqM_309.2.2.2.1
          obtain ⟨iM_309, q_311, u_312, z_313, z_314, z_315, z_316, z_317, z_318⟩ := l_pu iM_208 hqM_309
          clear hqM_309
          have te_320 : qE a (d + 1) lj (qa lj x_143.toInt td) M_309 := qE_pu hlj te_219 puM_309 (fun q9 => by have q8 := ff_1 q9; exact ⟨by unfold bq_kc; rw [if_neg (by decide), if_pos (by decide)], fun _ => (by have q7 := hvs (ff_y (by omega)) (by omega); omega)⟩) (fun q9 => by have q8 := ff_1 q9; exact Or.inr (Or.inr ⟨by decide, Or.inl (by decide), rfl⟩))
          obtain ⟨d_319, ed_319⟩ : ∃ z : Nat → Int, z = qa lj x_143.toInt td := ⟨_, rfl⟩
          rw [← ed_319] at te_320
          have vs_321 : vs M_309 := fun q9 q8 => by rw [piM_309 23 (by decide)] at q8; rw [piM_309 24 (by decide)]; exact vs_220 (by rw [← puM_309.1]; exact q9) q8
          refine lv_aload_n hx hb dX10_primary_197 rfl (lv_at hl 1 rfl) ?_
          refine ti_callVvE (ci := 10) (av := []) C hE hw (x_X10_goOn l D A cy hJ M_309 iM_309  B n g_218 hs_310) ⟨ml_X10_267, ym_X10_goOn, yv_X10_goOn, yi_X10_goOn, yc_X10_goOn⟩ yd_X10_goOn ob_60 (by decide) rfl rfl hl.1 (Nat.le_of_ble_eq_true rfl) ⟨by simp only [ti_rm]; omega, by simp only [ti_rm]; omega⟩ ⟨Nat.zero_le _, Nat.zero_le _⟩ dX10_primary_198 (fun M_323 H locs hp_323 hw => ?_)
          obtain ⟨hs_324, hp_325⟩ := hp_323
          obtain ⟨iM_323, q_326, z_327, z_328, z_329, z_330, z_331⟩ := l_go hp_325
          clear hp_325
          obtain ⟨g_332, eg_332⟩ : ∃ z : Nat → Int, z = pp_go B n g_218 := ⟨_, rfl⟩
          rw [← eg_332] at hs_324
          have te_333 : qE a (d + 1) lj d_319 M_323 := qE_fr te_320 q_326.1 (by omega)
          have vs_334 : vs M_323 := (fun q9 => vs_av hs_324 (by rw [eg_332]; unfold pp_go; rw [if_pos (rQ_g0 hs_310 (ff_1 (ff_q (by omega) q9)))]; exact av_v) q9)
          exact hQ _ _ _ _ _ hw (⟨(by rw [qe_n dk_7]; unfold qq_p0; have q := (pt_Tnm (rQ_T hr (by omega))).2.2.1 (by omega); rw [if_pos q.1, if_neg (by omega), show rg 1 = x_143.toInt by omega, ← ed_319]; exact te_333), vs_334, (by rw [pe_n dk_7, show pp_p0 B n rg = pp_kn B n rg from (by first | exact p0_k (rQ_T hr (by omega)) (by omega) (by omega) | exact p0_n (rQ_T hr (by omega)) (by omega) (by omega)), ← kn_kg (rQ_g0 hr (by omega)), ← eg_218, ← eg_332]; exact hs_324), iM_323, (pe.trans (pe_pr q_326 (by decide) (by decide)) (pe.trans q_311 (pe_pr q_211 (by decide) (by decide)))), (by omega), (by omega), (by omega), (by omega), (by omega), (by omega), (by omega), (by omega), (by omega), (by omega), (by omega), (by omega), (by omega), (us_q (x := 21) (y := 30) u_312 (pr_w q_326 (by decide) (by decide)) (by omega))⟩) dX10_primary_201
        · refine lv_aload_n hx hb dX10_primary_129 rfl (lv_at hl 1 rfl) ?_
          refine lv_iconst (v := 2) hx hb dX10_primary_130 (by decide) ?_
          refine ti_callVv (ci := 10) (av := [.int 2]) C hw (x_X10_wrong l D A cy hJ M hI 2 (by decide) B n rg hr) ⟨ml_X10_217, ym_X10_wrong, yv_X10_wrong, yi_X10_wrong, yc_X10_wrong⟩ yd_X10_wrong ob_60 (by decide) rfl rfl hl.1 (Nat.le_of_ble_eq_true rfl) ⟨by simp only [ti_rm]; omega, by simp only [ti_rm]; omega⟩ ⟨Nat.zero_le _, Nat.zero_le _⟩ dX10_primary_131 (fun M_147 H locs hp_147 hw => ?_)
          rw [show (2 : Int32).toInt = 2 by decide] at hp_147
          obtain ⟨hs_148, hp_149⟩ := hp_147
          obtain ⟨iM_147, q_150, z_151, z_152, z_153, z_154, z_155⟩ := l_wr hp_149
          clear hp_149
          obtain ⟨g_156, eg_156⟩ : ∃ z : Nat → Int, z = pp_rf 2 rg := ⟨_, rfl⟩
          rw [← eg_156] at hs_148
          have te_157 : qE a (d) lj td M_147 := qE_fr he q_150.1 (by omega)
          have vs_158 : vs M_147 := vs_fr hvs (by omega) (q_150.2 23 (by decide)) (q_150.2 24 (by decide))
          refine lv_goto (tgt := 162) hx hb dX10_primary_134 (by decide) ?_
          refine lv_aload_n hx hb dX10_primary_162 rfl (lv_at hl 1 rfl) ?_
          refine ti_callVv (ci := 10) (av := []) C hw (x_X10_knot l D A cy hJ M_147 iM_147  B n g_156 hs_148) ⟨ml_X10_279, ym_X10_knot, yv_X10_knot, yi_X10_knot, yc_X10_knot⟩ yd_X10_knot ob_60 (by decide) rfl rfl hl.1 (Nat.le_of_ble_eq_true rfl) ⟨by simp only [ti_rm]; omega, by simp only [ti_rm]; omega⟩ ⟨Nat.zero_le _, Nat.zero_le _⟩ dX10_primary_163 (fun M_193 H locs hp_193 hw => ?_)
          obtain ⟨hs_194, hp_195⟩ := hp_193
          obtain ⟨iM_193, q_196, z_197, z_198, z_199, z_200, z_201, z_202⟩ := l_kn hp_195
          clear hp_195
          obtain ⟨g_203, eg_203⟩ : ∃ z : Nat → Int, z = pp_k1 g_156 := ⟨_, rfl⟩
          rw [← eg_203] at hs_194
          have te_204 : qE a (d) lj td M_193 := qE_fr te_157 q_196.1 (by omega)
          have vs_205 : vs M_193 := vs_fr vs_158 (by omega) (q_196.2 23 (by decide)) (q_196.2 24 (by decide))
          refine lv_aload_n hx hb dX10_primary_166 rfl (lv_at hl 1 rfl) ?_
          refine lv_iload_n hx hb dX10_primary_167 rfl (lv_at hl 0 rfl) ?_
          refine sb_if_eq (tgt := 175) hx hb (by decide : (1 : Int32).toInt = 1) dX10_primary_168 (by decide) (fun h => absurd h (by decide)) (fun c_168_205 => ?_)
          refine lv_iconst (v := 0) hx hb dX10_primary_171 (by decide) ?_
          refine lv_goto (tgt := 176) hx hb dX10_primary_172 (by decide) ?_
          refine lv_iload_n hx hb dX10_primary_176 rfl (lv_at hl 0 rfl) ?_
          refine sb_if_eq (tgt := 187) hx hb (by decide : (1 : Int32).toInt = 1) dX10_primary_177 (by decide) (fun h => absurd h (by decide)) (fun c_177_266 => ?_)
          refine lv_aload_n hx hb dX10_primary_180 rfl (lv_at hl 1 rfl) ?_
          refine ti_get (ci := 10) (k := 24) (N := 67) (T := TX10) C hw iw_10 rfl ob_60 (by decide) (by decide) fl_X10_183 rfl rfl dX10_primary_181 ?_
          refine ti_top (y := x_143) ((q_196.2 24 (by decide)).trans ((q_150.2 24 (by decide)).trans ex_143.symm)) ?_
          have uqu_272 : (tI M_193 60 24).toInt = x_143.toInt := by rw [((q_196.2 24 (by decide)).trans ((q_150.2 24 (by decide)).trans ex_143.symm))]
          refine lv_goto (tgt := 194) hx hb dX10_primary_184 (by decide) ?_
          refine ti_callVv (ci := 10) (av := [.int 0, .int x_143]) C hw (x_X10_puts l D A cy hJ M_193 iM_193 a (d) (d + 1) 0 x_143 (us_q (x := 21) (y := 30) hu (pr.trans (pr_w q_196 (by decide) (by decide)) (pr_w q_150 (by decide) (by decide))) (by omega)) (nL (by omega)) (by first | exact Or.inr (Or.inr (Or.inr ⟨by decide, Or.inl (by decide), rfl⟩)) | exact nF (by omega))) ⟨ml_X10_282, ym_X10_puts, yv_X10_puts, yi_X10_puts, yc_X10_puts⟩ yd_X10_puts ob_60 (by decide) rfl rfl hl.1 (Nat.le_of_ble_eq_true rfl) ⟨by simp only [ti_rm]; omega, by simp only [ti_rm]; omega⟩ ⟨Nat.zero_le _, Nat.zero_le _⟩ dX10_primary_194 (fun M_282 H locs hp_282 hw => ?_)
          have piM_282 := (hp_282).2.2.2.2.1
          obtain ⟨puM_282, hqM_282⟩ := hp_282
          have hs_283 := rQ_pe hs_194 hqM_282.2.1 hqM_282.2.2.2.1
          obtain ⟨iM_282, q_284, u_285, z_286, z_287, z_288, z_289, z_290, z_291⟩ := l_pu iM_193 hqM_282
          clear hqM_282
          have te_293 : qE a (d + 1) lj (qa lj x_143.toInt td) M_282 := qE_pu hlj te_204 puM_282 (fun q9 => by have q8 := ff_1 q9; exact ⟨by unfold bq_kc; rw [if_neg (by decide), if_pos (by decide)], fun _ => (by have q7 := hvs (ff_y (by omega)) (by omega); omega)⟩) (fun q9 => by have q8 := ff_1 q9; exact Or.inr (Or.inr ⟨by decide, Or.inl (by decide), rfl⟩))
          obtain ⟨d_292, ed_292⟩ : ∃ z : Nat → Int, z = qa lj x_143.toInt td := ⟨_, rfl⟩
          rw [← ed_292] at te_293
          have vs_294 : vs M_282 := fun q9 q8 => by rw [piM_282 23 (by decide)] at q8; rw [piM_282 24 (by decide)]; exact vs_205 (by rw [← puM_282.1]; exact q9) q8
          refine lv_aload_n hx hb dX10_primary_197 rfl (lv_at hl 1 rfl) ?_
          refine ti_callVvE (ci := 10) (av := []) C hE hw (x_X10_goOn l D A cy hJ M_282 iM_282  B n g_203 hs_283) ⟨ml_X10_267, ym_X10_goOn, yv_X10_goOn, yi_X10_goOn, yc_X10_goOn⟩ yd_X10_goOn ob_60 (by decide) rfl rfl hl.1 (Nat.le_of_ble_eq_true rfl) ⟨by simp only [ti_rm]; omega, by simp only [ti_rm]; omega⟩ ⟨Nat.zero_le _, Nat.zero_le _⟩ dX10_primary_198 (fun M_296 H locs hp_296 hw => ?_)
          obtain ⟨hs_297, hp_298⟩ := hp_296
          obtain ⟨iM_296, q_299, z_300, z_301, z_302, z_303, z_304⟩ := l_go hp_298
          clear hp_298
          obtain ⟨g_305, eg_305⟩ : ∃ z : Nat → Int, z = pp_go B n g_203 := ⟨_, rfl⟩
          rw [← eg_305] at hs_297
          have te_306 : qE a (d + 1) lj d_292 M_296 := qE_fr te_293 q_299.1 (by omega)
          have vs_307 : vs M_296 := (fun q9 => vs_av hs_297 (by rw [eg_305]; unfold pp_go; rw [if_pos (rQ_g0 hs_283 (ff_1 (ff_q (by omega) q9)))]; exact av_v) q9)
          exact hQ _ _ _ _ _ hw (⟨(qE_f (by omega)), vs_307, (by have z := rQ_g1 hs_148 (by omega); have q : g_305 = g_156 := (by rw [eg_305, eg_203, k1_f z, go_f z]); rw [pe_n dk_7, show pp_p0 B n rg = g_156 from Eq.trans (by first | exact p0_2 (rQ_T hr (by omega)) (by omega) (by omega) | exact p0_1 (rQ_T hr (by omega)) (by omega) (by omega)) eg_156.symm, ← q]; exact hs_297), iM_296, (pe.trans (pe_pr q_299 (by decide) (by decide)) (pe.trans q_284 (pe.trans (pe_pr q_196 (by decide) (by decide)) (pe_pr q_150 (by decide) (by decide))))), (by omega), (by omega), (by omega), (by omega), (by omega), (by omega), (by omega), (by omega), (by omega), (by omega), (by omega), (by omega), (by omega), (us_q (x := 21) (y := 30) u_285 (pr_w q_299 (by decide) (by decide)) (by omega))⟩) dX10_primary_201
  · have z_4 : ff M = 0 := ff_0 (fun h => c_4_2 (ufx_1.symm.trans h))
    clear c_4_2
    exact hQ _ _ _ _ _ hw (⟨(qE_f (by omega)), hvs, (rQ_f hr (rQ_g1 hr (by omega)) (pt_f (rQ_z hr (rQ_g1 hr (by omega))))), hI, pe.refl, (by omega), (by omega), (by omega), (by omega), (by omega), (by omega), (by omega), (by omega), (by omega), (by omega), (by omega), (by omega), (by omega), us_f (by omega)⟩) dX10_primary_7
set_option maxHeartbeats 4000000 in
set_option maxRecDepth 100000 in
theorem x_X10_product (l : Launch) (D : va_G) (A : Nat → Nat → Nat) (cy : Nat → ClassId) (hJ : ti_inj ti_LM A) (M : ti_M) (hI : mI Tm M) (j a d : Nat) (hj : j ≤ 8) (hu : us M a d) (hc : (tY M 60 3 18).toInt ≤ (tI M 60 30).toInt + 64 - 64 * ff M) (ho : (tI M 60 29).toInt + j ≤ 16 - 8 * ff M) (ho2 : 8 * ff M ≤ (tI M 60 29).toInt + j) (B : Nat → Int) (n : Nat) (rg : Nat → Int) (hr : rQ B n rg M) (lj : Nat) (hlj : lj < 3) (td : Nat → Int) (he : qE a d lj td M) (hvs : vs M) (ih : ∀ i : Nat, i < j → ∀ (l : Launch) (D : va_G) (A : Nat → Nat → Nat) (cy : Nat → ClassId) (hJ : ti_inj ti_LM A) (M : ti_M) (hI : mI Tm M) (a d : Nat) (hj : i ≤ 8) (hu : us M a d) (hc : (tY M 60 3 18).toInt ≤ (tI M 60 30).toInt + 64 - 64 * ff M) (ho : (tI M 60 29).toInt + i ≤ 16 - 8 * ff M) (ho2 : 8 * ff M ≤ (tI M 60 29).toInt + i) (B : Nat → Int) (n : Nat) (rg : Nat → Int) (hr : rQ B n rg M) (lj : Nat) (hlj : lj < 3) (td : Nat → Int) (he : qE a d lj td M) (hvs : vs M), ti_KvE l yX10_expression cX10_expression 1 (78 + 71 * i) ti_LM D A cy M [.ref (A 60 0)] (fun M2 => qE a (d + 1) lj (qq_ei B n lj (pp_pt B n i) (qq_pt B n lj i) rg td) M2 ∧ vs M2 ∧ rQ B n (pp_ei B n (pp_pt B n i) rg) M2 ∧ mI Tm M2 ∧ pe M2 M ∧ (pg M ≤ pg M2) ∧ (0 ≤ ff M2) ∧ (ff M2 ≤ ff M) ∧ ((tI M 60 30).toInt ≤ (tI M2 60 30).toInt) ∧ ((tI M2 60 30).toInt ≤ 64) ∧ ((tI M2 60 29).toInt ≤ (tI M 60 29).toInt + 8 - 8 * ff M2) ∧ ((tI M 60 29).toInt ≤ (tI M2 60 29).toInt + 8 - 8 * ff M2) ∧ ((tI M2 60 30).toInt - (tY M2 60 3 18).toInt ≤ (tI M 60 30).toInt - (tY M 60 3 18).toInt + 200 - 200 * ff M2) ∧ ((tI M 60 30).toInt - (tY M 60 3 18).toInt ≤ (tI M2 60 30).toInt - (tY M2 60 3 18).toInt + 200 - 200 * ff M2) ∧ (0 ≤ (tY M2 60 3 18).toInt) ∧ ((tY M2 60 3 18).toInt ≤ 64) ∧ (0 ≤ (tI M2 60 29).toInt) ∧ ((tI M2 60 29).toInt ≤ 8) ∧ us M2 a (d + 1))) : ti_KvE l yX10_product cX10_product 2 (9 + 71 * j) ti_LM D A cy M [.ref (A 60 0)] (fun M2 => qE a (d + 1) lj (qq_pd B n lj (pp_pt B n j) (qq_pt B n lj j) rg td) M2 ∧ vs M2 ∧ rQ B n (pp_pd B n (pp_pt B n j) rg) M2 ∧ mI Tm M2 ∧ pe M2 M ∧ (pg M ≤ pg M2) ∧ (0 ≤ ff M2) ∧ (ff M2 ≤ ff M) ∧ ((tI M 60 30).toInt ≤ (tI M2 60 30).toInt) ∧ ((tI M2 60 30).toInt ≤ 64) ∧ ((tI M2 60 29).toInt ≤ (tI M 60 29).toInt + 8 - 8 * ff M2) ∧ ((tI M 60 29).toInt ≤ (tI M2 60 29).toInt + 8 - 8 * ff M2) ∧ ((tI M2 60 30).toInt - (tY M2 60 3 18).toInt ≤ (tI M 60 30).toInt - (tY M 60 3 18).toInt + 200 - 200 * ff M2) ∧ ((tI M 60 30).toInt - (tY M 60 3 18).toInt ≤ (tI M2 60 30).toInt - (tY M2 60 3 18).toInt + 200 - 200 * ff M2) ∧ (0 ≤ (tY M2 60 3 18).toInt) ∧ ((tY M2 60 3 18).toInt ≤ 64) ∧ (0 ≤ (tI M2 60 29).toInt) ∧ ((tI M2 60 29).toInt ≤ 8) ∧ us M2 a (d + 1)) := by
  refine ti_eVE yp_X10_product hJ ti_LM_nd (Nat.le_of_ble_eq_true rfl) ?_
  intro p e s m args below meth c Q H0 C hE hQ hw ls hl
  have hx := C.1
  have hb := C.2.1
  have hl : lv_has ls 2 [(0, .ref (A 60 0))] := hl
  have hI30 := b30 hI
  have hI29 := b29 hI
  have hI18 := b18 hI
  have hIff := ff_b M
  refine lv_aload_n hx hb dX10_product_0 rfl (lv_at hl 0 rfl) ?_
  refine ti_callVvE (ci := 10) (av := []) C hE hw (x_X10_primary l D A cy hJ M hI j a (d) (by omega) hu (by omega) (by omega) (by omega) B n rg hr lj hlj td he hvs ih) ⟨ml_X10_294, ym_X10_primary, yv_X10_primary, yi_X10_primary, yc_X10_primary⟩ yd_X10_primary ob_60 (by decide) rfl rfl hl.1 (Nat.le_of_ble_eq_true rfl) ⟨by simp only [ti_rm]; omega, by simp only [ti_rm]; omega⟩ ⟨Nat.zero_le _, Nat.zero_le _⟩ dX10_product_1 (fun M_2 H locs hp_2 hw => ?_)
  obtain ⟨te_5, vs_6, hs_3, hp_4⟩ := hp_2
  obtain ⟨iM_2, q_7, p_8, p_9, p_10, p_11, p_12, p_13, p_14, p_15, p_16, p_17, p_18, p_19, p_20, u_21⟩ := hp_4
  obtain ⟨g_22, eg_22⟩ : ∃ z : Nat → Int, z = pp_pt B n j rg := ⟨_, rfl⟩
  rw [← eg_22] at hs_3
  obtain ⟨d_23, ed_23⟩ : ∃ z : Nat → Int, z = qq_pt B n lj j rg td := ⟨_, rfl⟩
  rw [← ed_23] at te_5
  have hl_4_47 : ∀ (n_48 : Nat) (M_24 : ti_M) (g_26 : Nat → Int) (d_28 : Nat → Int) (H : Heap) (locs : List Loc) (ls : Array Slot), (64 - (tI M_24 60 30).toInt + ff M_24 : Int).toNat < n_48 → (mI Tm M_24) → (pe M_24 M) → (rQ B n g_26 M_24) → (qE a (d + 1) lj d_28 M_24) → (vs M_24) → (us M_24 a (d + 1)) → (pp_pd B n (pp_pt B n j) rg = pp_lp pp_qT (fun s => pp_pt B n j (pp_kn B n s)) 64 g_26) → (qq_pd B n lj (pp_pt B n j) (qq_pt B n lj j) rg td = qq_lp pp_qT (fun s => pp_pt B n j (pp_kn B n s)) (fun s td => qa lj (-(s 0)) (qq_pt B n lj j (pp_kn B n s) td)) 64 g_26 d_28) → (g_26 0 = 28 ∨ (1 ≤ g_26 8 ∧ g_26 8 ≤ 64)) → (pg M ≤ pg M_24) → (0 ≤ ff M_24) → (ff M_24 ≤ ff M) → ((tI M 60 30).toInt ≤ (tI M_24 60 30).toInt) → ((tI M_24 60 30).toInt ≤ 64) → ((tI M_24 60 29).toInt ≤ (tI M 60 29).toInt + 8 - 8 * ff M_24) → ((tI M 60 29).toInt ≤ (tI M_24 60 29).toInt + 8 - 8 * ff M_24) → ((tI M_24 60 30).toInt - (tY M_24 60 3 18).toInt ≤ (tI M 60 30).toInt - (tY M 60 3 18).toInt + 200 - 200 * ff M_24) → ((tI M 60 30).toInt - (tY M 60 3 18).toInt ≤ (tI M_24 60 30).toInt - (tY M_24 60 3 18).toInt + 200 - 200 * ff M_24) → (0 ≤ (tY M_24 60 3 18).toInt) → ((tY M_24 60 3 18).toInt ≤ 64) → (0 ≤ (tI M_24 60 29).toInt) → ((tI M_24 60 29).toInt ≤ 8) → ti_H ti_LM D A cy H0 M_24 H locs → lv_has ls 2 [(0, .ref (A 60 0))] → W p l e (ti_rm (9 + 71 * j)) s m args below meth c H locs 0 0 Q (F0 m 4 ls []) := by
    intro n_48
    induction n_48 with
    | zero => intro M_24 g_26 d_28 H locs ls hf_48; exact absurd hf_48 (Nat.not_lt_zero _)
    | succ n_48 ih_48 =>
      intro M_24 g_26 d_28 H locs ls hf_48 iM_24 f_25 hs_27 te_29 vs_30 j_31 j_32 j_33 j_34 j_35 j_36 j_37 j_38 j_39 j_40 j_41 j_42 j_43 j_44 j_45 j_46 j_47 hw hl
      refine lv_aload_n hx hb dX10_product_4 rfl (lv_at hl 0 rfl) ?_
      refine lv_bipush (v := 42) hx hb dX10_product_5 (by decide) ?_
      refine ti_callVi (ci := 10) (av := [.int 42]) C hw (x_X10_isSign l D A cy hJ M_24 iM_24 42) ⟨ml_X10_251, ym_X10_isSign, yv_X10_isSign, yi_X10_isSign, yc_X10_isSign⟩ yd_X10_isSign ob_60 (by decide) rfl rfl hl.1 (Nat.le_of_ble_eq_true rfl) ⟨by simp only [ti_rm]; omega, by simp only [ti_rm]; omega⟩ ⟨Nat.zero_le _, Nat.zero_le _⟩ dX10_product_7 (fun r_49 M_50 H locs hp_50 hw => ?_)
      obtain ⟨hm, hz⟩ := hp_50
      have hw := hw.to hm
      have hj_22_65 : ∀  (H : Heap) (locs : List Loc) (ls : Array Slot), (ff M_24 = 1) → (g_26 0 ≠ 28) → (pp_qT (g_26 0) = true) → ti_H ti_LM D A cy H0 M_24 H locs → lv_has ls 2 [(0, .ref (A 60 0))] → W p l e (ti_rm (9 + 71 * j)) s m args below meth c H locs 0 0 Q (F0 m 22 ls []) := by
        intro  H locs ls j_63 j_64 j_65 hw hl
        refine lv_aload_n hx hb dX10_product_22 rfl (lv_at hl 0 rfl) ?_
        refine ti_get (ci := 10) (k := 24) (N := 67) (T := TX10) C hw iw_10 rfl ob_60 (by decide) (by decide) fl_X10_183 rfl rfl dX10_product_23 ?_
        refine lv_topi (fun x_66 ex_66 => ?_)
        have uqu_67 : (tI M_24 60 24).toInt = x_66.toInt := by rw [(ex_66.symm)]
        refine lv_istore_n (lv' := [(1, .int x_66), (0, .ref (A 60 0))]) hx hb dX10_product_26 rfl hl (by decide) rfl (fun ls hl => ?_)
        refine lv_aload_n hx hb dX10_product_27 rfl (lv_at hl 1 rfl) ?_
        refine ti_callVv (ci := 10) (av := []) C hw (x_X10_knot l D A cy hJ M_24 iM_24  B n g_26 hs_27) ⟨ml_X10_279, ym_X10_knot, yv_X10_knot, yi_X10_knot, yc_X10_knot⟩ yd_X10_knot ob_60 (by decide) rfl rfl hl.1 (Nat.le_of_ble_eq_true rfl) ⟨by simp only [ti_rm]; omega, by simp only [ti_rm]; omega⟩ ⟨Nat.zero_le _, Nat.zero_le _⟩ dX10_product_28 (fun M_69 H locs hp_69 hw => ?_)
        obtain ⟨hs_70, hp_71⟩ := hp_69
        obtain ⟨iM_69, q_72, z_73, z_74, z_75, z_76, z_77, z_78⟩ := l_kn hp_71
        clear hp_71
        obtain ⟨g_79, eg_79⟩ : ∃ z : Nat → Int, z = pp_k1 g_26 := ⟨_, rfl⟩
        rw [← eg_79] at hs_70
        have te_80 : qE a (d + 1) lj d_28 M_69 := qE_fr te_29 q_72.1 (by omega)
        have vs_81 : vs M_69 := vs_fr vs_30 (by omega) (q_72.2 23 (by decide)) (q_72.2 24 (by decide))
        refine lv_aload_n hx hb dX10_product_31 rfl (lv_at hl 1 rfl) ?_
        refine ti_callVvE (ci := 10) (av := []) C hE hw (x_X10_goOn l D A cy hJ M_69 iM_69  B n g_79 hs_70) ⟨ml_X10_267, ym_X10_goOn, yv_X10_goOn, yi_X10_goOn, yc_X10_goOn⟩ yd_X10_goOn ob_60 (by decide) rfl rfl hl.1 (Nat.le_of_ble_eq_true rfl) ⟨by simp only [ti_rm]; omega, by simp only [ti_rm]; omega⟩ ⟨Nat.zero_le _, Nat.zero_le _⟩ dX10_product_32 (fun M_83 H locs hp_83 hw => ?_)
        obtain ⟨hs_84, hp_85⟩ := hp_83
        obtain ⟨iM_83, q_86, z_87, z_88, z_89, z_90, z_91⟩ := l_go hp_85
        clear hp_85
        obtain ⟨g_92, eg_92⟩ : ∃ z : Nat → Int, z = pp_go B n g_79 := ⟨_, rfl⟩
        rw [← eg_92] at hs_84
        have te_93 : qE a (d + 1) lj d_28 M_83 := qE_fr te_80 q_86.1 (by omega)
        have vs_94 : vs M_83 := (fun q9 => vs_av hs_84 (by rw [eg_92]; unfold pp_go; rw [if_pos (rQ_g0 hs_70 (ff_1 (ff_q (by omega) q9)))]; exact av_v) q9)
        refine lv_aload_n hx hb dX10_product_35 rfl (lv_at hl 1 rfl) ?_
        refine ti_callVvE (ci := 10) (av := []) C hE hw (x_X10_primary l D A cy hJ M_83 iM_83 j a (d + 1) (by omega) (us_q (x := 21) (y := 30) j_31 (pr.trans (pr_w q_86 (by decide) (by decide)) (pr_w q_72 (by decide) (by decide))) (by omega)) (by omega) (by omega) (by omega) B n g_92 hs_84 lj hlj d_28 te_93 vs_94 ih) ⟨ml_X10_294, ym_X10_primary, yv_X10_primary, yi_X10_primary, yc_X10_primary⟩ yd_X10_primary ob_60 (by decide) rfl rfl hl.1 (Nat.le_of_ble_eq_true rfl) ⟨by simp only [ti_rm]; omega, by simp only [ti_rm]; omega⟩ ⟨Nat.zero_le _, Nat.zero_le _⟩ dX10_product_36 (fun M_96 H locs hp_96 hw => ?_)
        obtain ⟨te_99, vs_100, hs_97, hp_98⟩ := hp_96
        obtain ⟨iM_96, q_101, p_102, p_103, p_104, p_105, p_106, p_107, p_108, p_109, p_110, p_111, p_112, p_113, p_114, u_115⟩ := hp_98
        obtain ⟨g_116, eg_116⟩ : ∃ z : Nat → Int, z = pp_pt B n j g_92 := ⟨_, rfl⟩
        rw [← eg_116] at hs_97
        obtain ⟨d_117, ed_117⟩ : ∃ z : Nat → Int, z = qq_pt B n lj j g_92 d_28 := ⟨_, rfl⟩
        rw [← ed_117] at te_99
        refine lv_aload_n hx hb dX10_product_39 rfl (lv_at hl 1 rfl) ?_
        refine lv_iconst (v := 2) hx hb dX10_product_40 (by decide) ?_
        refine lv_iload_n hx hb dX10_product_41 rfl (lv_at hl 0 rfl) ?_
        refine ti_callVv (ci := 10) (av := [.int 2, .int x_66]) C hw (x_X10_puts l D A cy hJ M_96 iM_96 a (d + 1 + 1) (d + 1) 2 x_66 u_115 (nL (by omega)) (by first | exact Or.inr (Or.inr (Or.inl ⟨by decide, by omega, rfl⟩)) | exact nF (by omega))) ⟨ml_X10_282, ym_X10_puts, yv_X10_puts, yi_X10_puts, yc_X10_puts⟩ yd_X10_puts ob_60 (by decide) rfl rfl hl.1 (Nat.le_of_ble_eq_true rfl) ⟨by simp only [ti_rm]; omega, by simp only [ti_rm]; omega⟩ ⟨Nat.zero_le _, Nat.zero_le _⟩ dX10_product_42 (fun M_119 H locs hp_119 hw => ?_)
        have piM_119 := (hp_119).2.2.2.2.1
        obtain ⟨puM_119, hqM_119⟩ := hp_119
        have hs_120 := rQ_pe hs_97 hqM_119.2.1 hqM_119.2.2.2.1
        obtain ⟨iM_119, q_121, u_122, z_123, z_124, z_125, z_126, z_127, z_128⟩ := l_pu iM_96 hqM_119
        clear hqM_119
        have te_130 : qE a (d + 1) lj (qa lj (-(bq_sc x_66.toInt)) d_117) M_119 := qE_pu hlj te_99 puM_119 (fun q9 => by have q8 := ff_1 q9; exact ⟨by unfold bq_kc; rw [if_pos (by decide)], fun q => absurd q (by decide)⟩) (fun q9 => by have q8 := ff_1 q9; exact Or.inr (Or.inl ⟨by decide, (by have h9 := of_decide_eq_true j_65; have T9 := rQ_T hs_27 (by omega); have w9 := T9.2.2.2.2.2.2 (by omega); have s9 := sg_260 (k := g_26 0) (by omega) T9.1.2; omega), by omega, rfl⟩))
        obtain ⟨d_129, ed_129⟩ : ∃ z : Nat → Int, z = qa lj (-(bq_sc x_66.toInt)) d_117 := ⟨_, rfl⟩
        rw [← ed_129] at te_130
        have vs_131 : vs M_119 := fun q9 q8 => by rw [piM_119 23 (by decide)] at q8; rw [piM_119 24 (by decide)]; exact vs_100 (by rw [← puM_119.1]; exact q9) q8
        refine lv_goto (tgt := 4) hx hb dX10_product_45 (by decide) ?_
        exact ih_48 M_119 g_116 d_129 _ _ _ (by omega) iM_119 (pe.trans q_121 (pe.trans q_101 (pe.trans (pe_pr q_86 (by decide) (by decide)) (pe.trans (pe_pr q_72 (by decide) (by decide)) f_25)))) hs_120 te_130 vs_131 u_122 (j_32.trans (lp_nx (P := pp_qT) (G := fun s => pp_pt B n j (pp_kn B n s)) (s := g_26) (by decide) (gr_kn (gr_pt j)) 63 j_65 (by rw [eg_116, eg_92, eg_79, kn_kg (rQ_g0 hs_27 (by omega))]) (by omega) (by omega))) (j_33.trans (qlp_nx (P := pp_qT) (F := fun s => pp_pt B n j (pp_kn B n s)) (G := fun s td => qa lj (-(s 0)) (qq_pt B n lj j (pp_kn B n s) td)) (s := g_26) (by decide) (gr_kn (gr_pt j)) 63 j_65 (by rw [eg_116, eg_92, eg_79, kn_kg (rQ_g0 hs_27 (by omega))]) (by rw [ed_129, ed_117, eg_92, eg_79, show -(bq_sc x_66.toInt) = -(g_26 0) from (by have k9 : 32 ≤ g_26 0 := (by have h9 := of_decide_eq_true j_65; omega); have T8 := rQ_T hs_27 (by omega); have T9 := T8.2.2.2.2.2.2 (by omega); have T7 := T8.1; have s9 := sc_sg (g_26 0 - 29).toNat (by omega) (by omega); rw [show (29 : Int) + (((g_26 0 - 29).toNat : Nat) : Int) = g_26 0 by omega] at s9; rw [show x_66.toInt = pt_sg (g_26 0) by omega, s9]), kn_kg (rQ_g0 hs_27 (by omega))]) (by omega) (by omega))) (by rw [eg_116]; exact rQ_gr (gr_pt j) hs_84 iM_83) (by first | omega | decide) (by first | omega | decide) (by first | omega | decide) (by first | omega | decide) (by first | omega | decide) (by first | omega | decide) (by first | omega | decide) (by first | omega | decide) (by first | omega | decide) (by first | omega | decide) (by first | omega | decide) (by first | omega | decide) (by first | omega | decide) hw (lv_sub hl [1] rfl)
      rcases hz with ⟨rfl, d0_51, d1_51, d2_51⟩ | ⟨rfl, d3_51⟩
      · have dk_51 := rQ_s1 (k := 40) hs_27 d0_51 d1_51 d2_51 (by decide)
        have z_52 : ff M_24 = 1 := ff_1 d0_51
        have z_53 : pg M_24 = 2 * (tI M_24 60 21).toInt := pg_3 (by rw [d1_51]; decide)
        clear d0_51 d1_51 d2_51
        refine sb_if_ne (tgt := 22) hx hb (by decide : (1 : Int32).toInt = 1) dX10_product_10 (by decide) (fun c_10_53 => ?_) (fun h => absurd h (by decide))
        exact hj_22_65  _ _ _ (by first | omega | decide) (by first | omega | decide) (show pp_qT (g_26 0) = true from decide_eq_true (by omega)) hw (lv_sub hl [0] rfl)
      · have dk_51 := rQ_s0 (k := 40) hs_27 d3_51 (by decide) (by decide)
        clear d3_51
        refine sb_if_ne (tgt := 22) hx hb (by decide : (0 : Int32).toInt = 0) dX10_product_10 (by decide) (fun h => absurd h (by decide)) (fun c_10_54 => ?_)
        refine lv_aload_n hx hb dX10_product_13 rfl (lv_at hl 0 rfl) ?_
        refine lv_bipush (v := 47) hx hb dX10_product_14 (by decide) ?_
        refine ti_callVi (ci := 10) (av := [.int 47]) C hw (x_X10_isSign l D A cy hJ M_24 iM_24 47) ⟨ml_X10_251, ym_X10_isSign, yv_X10_isSign, yi_X10_isSign, yc_X10_isSign⟩ yd_X10_isSign ob_60 (by decide) rfl rfl hl.1 (Nat.le_of_ble_eq_true rfl) ⟨by simp only [ti_rm]; omega, by simp only [ti_rm]; omega⟩ ⟨Nat.zero_le _, Nat.zero_le _⟩ dX10_product_16 (fun r_56 M_57 H locs hp_57 hw => ?_)
        obtain ⟨hm, hz⟩ := hp_57
        have hw := hw.to hm
        rcases hz with ⟨rfl, d0_58, d1_58, d2_58⟩ | ⟨rfl, d3_58⟩
        · have dk_58 := rQ_s1 (k := 41) hs_27 d0_58 d1_58 d2_58 (by decide)
          have z_59 : ff M_24 = 1 := ff_1 d0_58
          have z_60 : pg M_24 = 2 * (tI M_24 60 21).toInt := pg_3 (by rw [d1_58]; decide)
          clear d0_58 d1_58 d2_58
          refine sb_if_eq (tgt := 48) hx hb (by decide : (1 : Int32).toInt = 1) dX10_product_19 (by decide) (fun h => absurd h (by decide)) (fun c_19_60 => ?_)
          exact hj_22_65  _ _ _ (by first | omega | decide) (by first | omega | decide) (show pp_qT (g_26 0) = true from decide_eq_true (by omega)) hw (lv_sub hl [0] rfl)
        · have dk_58 := rQ_s0 (k := 41) hs_27 d3_58 (by decide) (by decide)
          clear d3_58
          refine sb_if_eq (tgt := 48) hx hb (by decide : (0 : Int32).toInt = 0) dX10_product_19 (by decide) (fun c_19_61 => ?_) (fun h => absurd h (by decide))
          exact hQ _ _ _ _ _ hw (⟨(by rw [j_33, qlp_end (P := pp_qT) (f := 64) (s := g_26) (Or.inr (decide_eq_false (by omega)))]; exact te_29), vs_30, (by rw [j_32, lp_end (P := pp_qT) (f := 64) (s := g_26) (Or.inr (decide_eq_false (by omega)))]; exact hs_27), iM_24, f_25, (by omega), (by omega), (by omega), (by omega), (by omega), (by omega), (by omega), (by omega), (by omega), (by omega), (by omega), (by omega), (by omega), j_31⟩) dX10_product_48
  exact hl_4_47 ((64 - (tI M_2 60 30).toInt + ff M_2 : Int).toNat + 1) M_2 g_22 d_23 _ _ _ (Nat.lt_succ_self _) iM_2 q_7 hs_3 te_5 vs_6 u_21 (by unfold pp_pd; rw [← eg_22]) (by unfold qq_pd; rw [← eg_22, ← ed_23]) (by rw [eg_22]; exact rQ_gr (gr_pt j) hr hI) (by first | omega | decide) (by first | omega | decide) (by first | omega | decide) (by first | omega | decide) (by first | omega | decide) (by first | omega | decide) (by first | omega | decide) (by first | omega | decide) (by first | omega | decide) (by first | omega | decide) (by first | omega | decide) (by first | omega | decide) (by first | omega | decide) hw (lv_sub hl [0] rfl)
set_option maxHeartbeats 4000000 in
set_option maxRecDepth 100000 in
theorem x_X10_sum (l : Launch) (D : va_G) (A : Nat → Nat → Nat) (cy : Nat → ClassId) (hJ : ti_inj ti_LM A) (M : ti_M) (hI : mI Tm M) (j a d : Nat) (hj : j ≤ 8) (hu : us M a d) (hc : (tY M 60 3 18).toInt ≤ (tI M 60 30).toInt + 64 - 64 * ff M) (ho : (tI M 60 29).toInt + j ≤ 16 - 8 * ff M) (ho2 : 8 * ff M ≤ (tI M 60 29).toInt + j) (B : Nat → Int) (n : Nat) (rg : Nat → Int) (hr : rQ B n rg M) (lj : Nat) (hlj : lj < 3) (td : Nat → Int) (he : qE a d lj td M) (hvs : vs M) (ih : ∀ i : Nat, i < j → ∀ (l : Launch) (D : va_G) (A : Nat → Nat → Nat) (cy : Nat → ClassId) (hJ : ti_inj ti_LM A) (M : ti_M) (hI : mI Tm M) (a d : Nat) (hj : i ≤ 8) (hu : us M a d) (hc : (tY M 60 3 18).toInt ≤ (tI M 60 30).toInt + 64 - 64 * ff M) (ho : (tI M 60 29).toInt + i ≤ 16 - 8 * ff M) (ho2 : 8 * ff M ≤ (tI M 60 29).toInt + i) (B : Nat → Int) (n : Nat) (rg : Nat → Int) (hr : rQ B n rg M) (lj : Nat) (hlj : lj < 3) (td : Nat → Int) (he : qE a d lj td M) (hvs : vs M), ti_KvE l yX10_expression cX10_expression 1 (78 + 71 * i) ti_LM D A cy M [.ref (A 60 0)] (fun M2 => qE a (d + 1) lj (qq_ei B n lj (pp_pt B n i) (qq_pt B n lj i) rg td) M2 ∧ vs M2 ∧ rQ B n (pp_ei B n (pp_pt B n i) rg) M2 ∧ mI Tm M2 ∧ pe M2 M ∧ (pg M ≤ pg M2) ∧ (0 ≤ ff M2) ∧ (ff M2 ≤ ff M) ∧ ((tI M 60 30).toInt ≤ (tI M2 60 30).toInt) ∧ ((tI M2 60 30).toInt ≤ 64) ∧ ((tI M2 60 29).toInt ≤ (tI M 60 29).toInt + 8 - 8 * ff M2) ∧ ((tI M 60 29).toInt ≤ (tI M2 60 29).toInt + 8 - 8 * ff M2) ∧ ((tI M2 60 30).toInt - (tY M2 60 3 18).toInt ≤ (tI M 60 30).toInt - (tY M 60 3 18).toInt + 200 - 200 * ff M2) ∧ ((tI M 60 30).toInt - (tY M 60 3 18).toInt ≤ (tI M2 60 30).toInt - (tY M2 60 3 18).toInt + 200 - 200 * ff M2) ∧ (0 ≤ (tY M2 60 3 18).toInt) ∧ ((tY M2 60 3 18).toInt ≤ 64) ∧ (0 ≤ (tI M2 60 29).toInt) ∧ ((tI M2 60 29).toInt ≤ 8) ∧ us M2 a (d + 1))) : ti_KvE l yX10_sum cX10_sum 2 (10 + 71 * j) ti_LM D A cy M [.ref (A 60 0)] (fun M2 => qE a (d + 1) lj (qq_sm B n lj (pp_pt B n j) (qq_pt B n lj j) rg td) M2 ∧ vs M2 ∧ rQ B n (pp_sm B n (pp_pt B n j) rg) M2 ∧ mI Tm M2 ∧ pe M2 M ∧ (pg M ≤ pg M2) ∧ (0 ≤ ff M2) ∧ (ff M2 ≤ ff M) ∧ ((tI M 60 30).toInt ≤ (tI M2 60 30).toInt) ∧ ((tI M2 60 30).toInt ≤ 64) ∧ ((tI M2 60 29).toInt ≤ (tI M 60 29).toInt + 8 - 8 * ff M2) ∧ ((tI M 60 29).toInt ≤ (tI M2 60 29).toInt + 8 - 8 * ff M2) ∧ ((tI M2 60 30).toInt - (tY M2 60 3 18).toInt ≤ (tI M 60 30).toInt - (tY M 60 3 18).toInt + 200 - 200 * ff M2) ∧ ((tI M 60 30).toInt - (tY M 60 3 18).toInt ≤ (tI M2 60 30).toInt - (tY M2 60 3 18).toInt + 200 - 200 * ff M2) ∧ (0 ≤ (tY M2 60 3 18).toInt) ∧ ((tY M2 60 3 18).toInt ≤ 64) ∧ (0 ≤ (tI M2 60 29).toInt) ∧ ((tI M2 60 29).toInt ≤ 8) ∧ us M2 a (d + 1)) := by
  refine ti_eVE yp_X10_sum hJ ti_LM_nd (Nat.le_of_ble_eq_true rfl) ?_
  intro p e s m args below meth c Q H0 C hE hQ hw ls hl
  have hx := C.1
  have hb := C.2.1
  have hl : lv_has ls 2 [(0, .ref (A 60 0))] := hl
  have hI30 := b30 hI
  have hI29 := b29 hI
  have hI18 := b18 hI
  have hIff := ff_b M
  refine lv_aload_n hx hb dX10_sum_0 rfl (lv_at hl 0 rfl) ?_
  refine ti_callVvE (ci := 10) (av := []) C hE hw (x_X10_product l D A cy hJ M hI j a (d) (by omega) hu (by omega) (by omega) (by omega) B n rg hr lj hlj td he hvs ih) ⟨ml_X10_291, ym_X10_product, yv_X10_product, yi_X10_product, yc_X10_product⟩ yd_X10_product ob_60 (by decide) rfl rfl hl.1 (Nat.le_of_ble_eq_true rfl) ⟨by simp only [ti_rm]; omega, by simp only [ti_rm]; omega⟩ ⟨Nat.zero_le _, Nat.zero_le _⟩ dX10_sum_1 (fun M_2 H locs hp_2 hw => ?_)
  obtain ⟨te_5, vs_6, hs_3, hp_4⟩ := hp_2
  obtain ⟨iM_2, q_7, p_8, p_9, p_10, p_11, p_12, p_13, p_14, p_15, p_16, p_17, p_18, p_19, p_20, u_21⟩ := hp_4
  obtain ⟨g_22, eg_22⟩ : ∃ z : Nat → Int, z = pp_pd B n (pp_pt B n j) rg := ⟨_, rfl⟩
  rw [← eg_22] at hs_3
  obtain ⟨d_23, ed_23⟩ : ∃ z : Nat → Int, z = qq_pd B n lj (pp_pt B n j) (qq_pt B n lj j) rg td := ⟨_, rfl⟩
  rw [← ed_23] at te_5
  have hl_4_47 : ∀ (n_48 : Nat) (M_24 : ti_M) (g_26 : Nat → Int) (d_28 : Nat → Int) (H : Heap) (locs : List Loc) (ls : Array Slot), (64 - (tI M_24 60 30).toInt + ff M_24 : Int).toNat < n_48 → (mI Tm M_24) → (pe M_24 M) → (rQ B n g_26 M_24) → (qE a (d + 1) lj d_28 M_24) → (vs M_24) → (us M_24 a (d + 1)) → (pp_sm B n (pp_pt B n j) rg = pp_lp pp_qP (fun s => pp_pd B n (pp_pt B n j) (pp_kn B n s)) 64 g_26) → (qq_sm B n lj (pp_pt B n j) (qq_pt B n lj j) rg td = qq_lp pp_qP (fun s => pp_pd B n (pp_pt B n j) (pp_kn B n s)) (fun s td => qa lj (-(s 0)) (qq_pd B n lj (pp_pt B n j) (qq_pt B n lj j) (pp_kn B n s) td)) 64 g_26 d_28) → (g_26 0 = 28 ∨ (1 ≤ g_26 8 ∧ g_26 8 ≤ 64)) → (pg M ≤ pg M_24) → (0 ≤ ff M_24) → (ff M_24 ≤ ff M) → ((tI M 60 30).toInt ≤ (tI M_24 60 30).toInt) → ((tI M_24 60 30).toInt ≤ 64) → ((tI M_24 60 29).toInt ≤ (tI M 60 29).toInt + 8 - 8 * ff M_24) → ((tI M 60 29).toInt ≤ (tI M_24 60 29).toInt + 8 - 8 * ff M_24) → ((tI M_24 60 30).toInt - (tY M_24 60 3 18).toInt ≤ (tI M 60 30).toInt - (tY M 60 3 18).toInt + 200 - 200 * ff M_24) → ((tI M 60 30).toInt - (tY M 60 3 18).toInt ≤ (tI M_24 60 30).toInt - (tY M_24 60 3 18).toInt + 200 - 200 * ff M_24) → (0 ≤ (tY M_24 60 3 18).toInt) → ((tY M_24 60 3 18).toInt ≤ 64) → (0 ≤ (tI M_24 60 29).toInt) → ((tI M_24 60 29).toInt ≤ 8) → ti_H ti_LM D A cy H0 M_24 H locs → lv_has ls 2 [(0, .ref (A 60 0))] → W p l e (ti_rm (10 + 71 * j)) s m args below meth c H locs 0 0 Q (F0 m 4 ls []) := by
    intro n_48
    induction n_48 with
    | zero => intro M_24 g_26 d_28 H locs ls hf_48; exact absurd hf_48 (Nat.not_lt_zero _)
    | succ n_48 ih_48 =>
      intro M_24 g_26 d_28 H locs ls hf_48 iM_24 f_25 hs_27 te_29 vs_30 j_31 j_32 j_33 j_34 j_35 j_36 j_37 j_38 j_39 j_40 j_41 j_42 j_43 j_44 j_45 j_46 j_47 hw hl
      refine lv_aload_n hx hb dX10_sum_4 rfl (lv_at hl 0 rfl) ?_
      refine lv_bipush (v := 43) hx hb dX10_sum_5 (by decide) ?_
      refine ti_callVi (ci := 10) (av := [.int 43]) C hw (x_X10_isSign l D A cy hJ M_24 iM_24 43) ⟨ml_X10_251, ym_X10_isSign, yv_X10_isSign, yi_X10_isSign, yc_X10_isSign⟩ yd_X10_isSign ob_60 (by decide) rfl rfl hl.1 (Nat.le_of_ble_eq_true rfl) ⟨by simp only [ti_rm]; omega, by simp only [ti_rm]; omega⟩ ⟨Nat.zero_le _, Nat.zero_le _⟩ dX10_sum_7 (fun r_49 M_50 H locs hp_50 hw => ?_)
      obtain ⟨hm, hz⟩ := hp_50
      have hw := hw.to hm
      have hj_22_65 : ∀  (H : Heap) (locs : List Loc) (ls : Array Slot), (ff M_24 = 1) → (g_26 0 ≠ 28) → (pp_qP (g_26 0) = true) → ti_H ti_LM D A cy H0 M_24 H locs → lv_has ls 2 [(0, .ref (A 60 0))] → W p l e (ti_rm (10 + 71 * j)) s m args below meth c H locs 0 0 Q (F0 m 22 ls []) := by
        intro  H locs ls j_63 j_64 j_65 hw hl
        refine lv_aload_n hx hb dX10_sum_22 rfl (lv_at hl 0 rfl) ?_
        refine ti_get (ci := 10) (k := 24) (N := 67) (T := TX10) C hw iw_10 rfl ob_60 (by decide) (by decide) fl_X10_183 rfl rfl dX10_sum_23 ?_
        refine lv_topi (fun x_66 ex_66 => ?_)
        have uqu_67 : (tI M_24 60 24).toInt = x_66.toInt := by rw [(ex_66.symm)]
        refine lv_istore_n (lv' := [(1, .int x_66), (0, .ref (A 60 0))]) hx hb dX10_sum_26 rfl hl (by decide) rfl (fun ls hl => ?_)
        refine lv_aload_n hx hb dX10_sum_27 rfl (lv_at hl 1 rfl) ?_
        refine ti_callVv (ci := 10) (av := []) C hw (x_X10_knot l D A cy hJ M_24 iM_24  B n g_26 hs_27) ⟨ml_X10_279, ym_X10_knot, yv_X10_knot, yi_X10_knot, yc_X10_knot⟩ yd_X10_knot ob_60 (by decide) rfl rfl hl.1 (Nat.le_of_ble_eq_true rfl) ⟨by simp only [ti_rm]; omega, by simp only [ti_rm]; omega⟩ ⟨Nat.zero_le _, Nat.zero_le _⟩ dX10_sum_28 (fun M_69 H locs hp_69 hw => ?_)
        obtain ⟨hs_70, hp_71⟩ := hp_69
        obtain ⟨iM_69, q_72, z_73, z_74, z_75, z_76, z_77, z_78⟩ := l_kn hp_71
        clear hp_71
        obtain ⟨g_79, eg_79⟩ : ∃ z : Nat → Int, z = pp_k1 g_26 := ⟨_, rfl⟩
        rw [← eg_79] at hs_70
        have te_80 : qE a (d + 1) lj d_28 M_69 := qE_fr te_29 q_72.1 (by omega)
        have vs_81 : vs M_69 := vs_fr vs_30 (by omega) (q_72.2 23 (by decide)) (q_72.2 24 (by decide))
        refine lv_aload_n hx hb dX10_sum_31 rfl (lv_at hl 1 rfl) ?_
        refine ti_callVvE (ci := 10) (av := []) C hE hw (x_X10_goOn l D A cy hJ M_69 iM_69  B n g_79 hs_70) ⟨ml_X10_267, ym_X10_goOn, yv_X10_goOn, yi_X10_goOn, yc_X10_goOn⟩ yd_X10_goOn ob_60 (by decide) rfl rfl hl.1 (Nat.le_of_ble_eq_true rfl) ⟨by simp only [ti_rm]; omega, by simp only [ti_rm]; omega⟩ ⟨Nat.zero_le _, Nat.zero_le _⟩ dX10_sum_32 (fun M_83 H locs hp_83 hw => ?_)
        obtain ⟨hs_84, hp_85⟩ := hp_83
        obtain ⟨iM_83, q_86, z_87, z_88, z_89, z_90, z_91⟩ := l_go hp_85
        clear hp_85
        obtain ⟨g_92, eg_92⟩ : ∃ z : Nat → Int, z = pp_go B n g_79 := ⟨_, rfl⟩
        rw [← eg_92] at hs_84
        have te_93 : qE a (d + 1) lj d_28 M_83 := qE_fr te_80 q_86.1 (by omega)
        have vs_94 : vs M_83 := (fun q9 => vs_av hs_84 (by rw [eg_92]; unfold pp_go; rw [if_pos (rQ_g0 hs_70 (ff_1 (ff_q (by omega) q9)))]; exact av_v) q9)
        refine lv_aload_n hx hb dX10_sum_35 rfl (lv_at hl 1 rfl) ?_
        refine ti_callVvE (ci := 10) (av := []) C hE hw (x_X10_product l D A cy hJ M_83 iM_83 j a (d + 1) (by omega) (us_q (x := 21) (y := 30) j_31 (pr.trans (pr_w q_86 (by decide) (by decide)) (pr_w q_72 (by decide) (by decide))) (by omega)) (by omega) (by omega) (by omega) B n g_92 hs_84 lj hlj d_28 te_93 vs_94 ih) ⟨ml_X10_291, ym_X10_product, yv_X10_product, yi_X10_product, yc_X10_product⟩ yd_X10_product ob_60 (by decide) rfl rfl hl.1 (Nat.le_of_ble_eq_true rfl) ⟨by simp only [ti_rm]; omega, by simp only [ti_rm]; omega⟩ ⟨Nat.zero_le _, Nat.zero_le _⟩ dX10_sum_36 (fun M_96 H locs hp_96 hw => ?_)
        obtain ⟨te_99, vs_100, hs_97, hp_98⟩ := hp_96
        obtain ⟨iM_96, q_101, p_102, p_103, p_104, p_105, p_106, p_107, p_108, p_109, p_110, p_111, p_112, p_113, p_114, u_115⟩ := hp_98
        obtain ⟨g_116, eg_116⟩ : ∃ z : Nat → Int, z = pp_pd B n (pp_pt B n j) g_92 := ⟨_, rfl⟩
        rw [← eg_116] at hs_97
        obtain ⟨d_117, ed_117⟩ : ∃ z : Nat → Int, z = qq_pd B n lj (pp_pt B n j) (qq_pt B n lj j) g_92 d_28 := ⟨_, rfl⟩
        rw [← ed_117] at te_99
        refine lv_aload_n hx hb dX10_sum_39 rfl (lv_at hl 1 rfl) ?_
        refine lv_iconst (v := 2) hx hb dX10_sum_40 (by decide) ?_
        refine lv_iload_n hx hb dX10_sum_41 rfl (lv_at hl 0 rfl) ?_
        refine ti_callVv (ci := 10) (av := [.int 2, .int x_66]) C hw (x_X10_puts l D A cy hJ M_96 iM_96 a (d + 1 + 1) (d + 1) 2 x_66 u_115 (nL (by omega)) (by first | exact Or.inr (Or.inr (Or.inl ⟨by decide, by omega, rfl⟩)) | exact nF (by omega))) ⟨ml_X10_282, ym_X10_puts, yv_X10_puts, yi_X10_puts, yc_X10_puts⟩ yd_X10_puts ob_60 (by decide) rfl rfl hl.1 (Nat.le_of_ble_eq_true rfl) ⟨by simp only [ti_rm]; omega, by simp only [ti_rm]; omega⟩ ⟨Nat.zero_le _, Nat.zero_le _⟩ dX10_sum_42 (fun M_119 H locs hp_119 hw => ?_)
        have piM_119 := (hp_119).2.2.2.2.1
        obtain ⟨puM_119, hqM_119⟩ := hp_119
        have hs_120 := rQ_pe hs_97 hqM_119.2.1 hqM_119.2.2.2.1
        obtain ⟨iM_119, q_121, u_122, z_123, z_124, z_125, z_126, z_127, z_128⟩ := l_pu iM_96 hqM_119
        clear hqM_119
        have te_130 : qE a (d + 1) lj (qa lj (-(bq_sc x_66.toInt)) d_117) M_119 := qE_pu hlj te_99 puM_119 (fun q9 => by have q8 := ff_1 q9; exact ⟨by unfold bq_kc; rw [if_pos (by decide)], fun q => absurd q (by decide)⟩) (fun q9 => by have q8 := ff_1 q9; exact Or.inr (Or.inl ⟨by decide, (by have h9 := of_decide_eq_true j_65; have T9 := rQ_T hs_27 (by omega); have w9 := T9.2.2.2.2.2.2 (by omega); have s9 := sg_260 (k := g_26 0) (by omega) T9.1.2; omega), by omega, rfl⟩))
        obtain ⟨d_129, ed_129⟩ : ∃ z : Nat → Int, z = qa lj (-(bq_sc x_66.toInt)) d_117 := ⟨_, rfl⟩
        rw [← ed_129] at te_130
        have vs_131 : vs M_119 := fun q9 q8 => by rw [piM_119 23 (by decide)] at q8; rw [piM_119 24 (by decide)]; exact vs_100 (by rw [← puM_119.1]; exact q9) q8
        refine lv_goto (tgt := 4) hx hb dX10_sum_45 (by decide) ?_
        exact ih_48 M_119 g_116 d_129 _ _ _ (by omega) iM_119 (pe.trans q_121 (pe.trans q_101 (pe.trans (pe_pr q_86 (by decide) (by decide)) (pe.trans (pe_pr q_72 (by decide) (by decide)) f_25)))) hs_120 te_130 vs_131 u_122 (j_32.trans (lp_nx (P := pp_qP) (G := fun s => pp_pd B n (pp_pt B n j) (pp_kn B n s)) (s := g_26) (by decide) (gr_kn (gr_pd (gr_pt j))) 63 j_65 (by rw [eg_116, eg_92, eg_79, kn_kg (rQ_g0 hs_27 (by omega))]) (by omega) (by omega))) (j_33.trans (qlp_nx (P := pp_qP) (F := fun s => pp_pd B n (pp_pt B n j) (pp_kn B n s)) (G := fun s td => qa lj (-(s 0)) (qq_pd B n lj (pp_pt B n j) (qq_pt B n lj j) (pp_kn B n s) td)) (s := g_26) (by decide) (gr_kn (gr_pd (gr_pt j))) 63 j_65 (by rw [eg_116, eg_92, eg_79, kn_kg (rQ_g0 hs_27 (by omega))]) (by rw [ed_129, ed_117, eg_92, eg_79, show -(bq_sc x_66.toInt) = -(g_26 0) from (by have k9 : 32 ≤ g_26 0 := (by have h9 := of_decide_eq_true j_65; omega); have T8 := rQ_T hs_27 (by omega); have T9 := T8.2.2.2.2.2.2 (by omega); have T7 := T8.1; have s9 := sc_sg (g_26 0 - 29).toNat (by omega) (by omega); rw [show (29 : Int) + (((g_26 0 - 29).toNat : Nat) : Int) = g_26 0 by omega] at s9; rw [show x_66.toInt = pt_sg (g_26 0) by omega, s9]), kn_kg (rQ_g0 hs_27 (by omega))]) (by omega) (by omega))) (by rw [eg_116]; exact rQ_gr (gr_pd (gr_pt j)) hs_84 iM_83) (by first | omega | decide) (by first | omega | decide) (by first | omega | decide) (by first | omega | decide) (by first | omega | decide) (by first | omega | decide) (by first | omega | decide) (by first | omega | decide) (by first | omega | decide) (by first | omega | decide) (by first | omega | decide) (by first | omega | decide) (by first | omega | decide) hw (lv_sub hl [1] rfl)
      rcases hz with ⟨rfl, d0_51, d1_51, d2_51⟩ | ⟨rfl, d3_51⟩
      · have dk_51 := rQ_s1 (k := 38) hs_27 d0_51 d1_51 d2_51 (by decide)
        have z_52 : ff M_24 = 1 := ff_1 d0_51
        have z_53 : pg M_24 = 2 * (tI M_24 60 21).toInt := pg_3 (by rw [d1_51]; decide)
        clear d0_51 d1_51 d2_51
        refine sb_if_ne (tgt := 22) hx hb (by decide : (1 : Int32).toInt = 1) dX10_sum_10 (by decide) (fun c_10_53 => ?_) (fun h => absurd h (by decide))
        exact hj_22_65  _ _ _ (by first | omega | decide) (by first | omega | decide) (show pp_qP (g_26 0) = true from decide_eq_true (by omega)) hw (lv_sub hl [0] rfl)
      · have dk_51 := rQ_s0 (k := 38) hs_27 d3_51 (by decide) (by decide)
        clear d3_51
        refine sb_if_ne (tgt := 22) hx hb (by decide : (0 : Int32).toInt = 0) dX10_sum_10 (by decide) (fun h => absurd h (by decide)) (fun c_10_54 => ?_)
        refine lv_aload_n hx hb dX10_sum_13 rfl (lv_at hl 0 rfl) ?_
        refine lv_bipush (v := 45) hx hb dX10_sum_14 (by decide) ?_
        refine ti_callVi (ci := 10) (av := [.int 45]) C hw (x_X10_isSign l D A cy hJ M_24 iM_24 45) ⟨ml_X10_251, ym_X10_isSign, yv_X10_isSign, yi_X10_isSign, yc_X10_isSign⟩ yd_X10_isSign ob_60 (by decide) rfl rfl hl.1 (Nat.le_of_ble_eq_true rfl) ⟨by simp only [ti_rm]; omega, by simp only [ti_rm]; omega⟩ ⟨Nat.zero_le _, Nat.zero_le _⟩ dX10_sum_16 (fun r_56 M_57 H locs hp_57 hw => ?_)
        obtain ⟨hm, hz⟩ := hp_57
        have hw := hw.to hm
        rcases hz with ⟨rfl, d0_58, d1_58, d2_58⟩ | ⟨rfl, d3_58⟩
        · have dk_58 := rQ_s1 (k := 39) hs_27 d0_58 d1_58 d2_58 (by decide)
          have z_59 : ff M_24 = 1 := ff_1 d0_58
          have z_60 : pg M_24 = 2 * (tI M_24 60 21).toInt := pg_3 (by rw [d1_58]; decide)
          clear d0_58 d1_58 d2_58
          refine sb_if_eq (tgt := 48) hx hb (by decide : (1 : Int32).toInt = 1) dX10_sum_19 (by decide) (fun h => absurd h (by decide)) (fun c_19_60 => ?_)
          exact hj_22_65  _ _ _ (by first | omega | decide) (by first | omega | decide) (show pp_qP (g_26 0) = true from decide_eq_true (by omega)) hw (lv_sub hl [0] rfl)
        · have dk_58 := rQ_s0 (k := 39) hs_27 d3_58 (by decide) (by decide)
          clear d3_58
          refine sb_if_eq (tgt := 48) hx hb (by decide : (0 : Int32).toInt = 0) dX10_sum_19 (by decide) (fun c_19_61 => ?_) (fun h => absurd h (by decide))
          exact hQ _ _ _ _ _ hw (⟨(by rw [j_33, qlp_end (P := pp_qP) (f := 64) (s := g_26) (Or.inr (decide_eq_false (by omega)))]; exact te_29), vs_30, (by rw [j_32, lp_end (P := pp_qP) (f := 64) (s := g_26) (Or.inr (decide_eq_false (by omega)))]; exact hs_27), iM_24, f_25, (by omega), (by omega), (by omega), (by omega), (by omega), (by omega), (by omega), (by omega), (by omega), (by omega), (by omega), (by omega), (by omega), j_31⟩) dX10_sum_48
  exact hl_4_47 ((64 - (tI M_2 60 30).toInt + ff M_2 : Int).toNat + 1) M_2 g_22 d_23 _ _ _ (Nat.lt_succ_self _) iM_2 q_7 hs_3 te_5 vs_6 u_21 (by unfold pp_sm; rw [← eg_22]) (by unfold qq_sm; rw [← eg_22, ← ed_23]) (by rw [eg_22]; exact rQ_gr (gr_pd (gr_pt j)) hr hI) (by first | omega | decide) (by first | omega | decide) (by first | omega | decide) (by first | omega | decide) (by first | omega | decide) (by first | omega | decide) (by first | omega | decide) (by first | omega | decide) (by first | omega | decide) (by first | omega | decide) (by first | omega | decide) (by first | omega | decide) (by first | omega | decide) hw (lv_sub hl [0] rfl)

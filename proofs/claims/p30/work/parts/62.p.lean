variable {Tc : gC} {Tm : gM}
/-! the reference's expressions beside the registers -/
theorem pe_s {B : Nat → Int} {n j : Nat} {s : Nat → Int} (h : 1 ≤ j) : pp_pt B n j s = if s 0 = 30 then pp_tk B n 31 (pp_ei B n (pp_pt B n (j - 1)) (pp_av B n s)) else pp_p0 B n s := by
  cases j with
  | zero => omega
  | succ j => rfl
theorem pe_n {B : Nat → Int} {n j : Nat} {s : Nat → Int} (h : s 0 ≠ 30) : pp_pt B n j s = pp_p0 B n s := by
  cases j with
  | zero => rw [pp_pt, if_neg h]
  | succ j => rw [pp_pt, if_neg h]
theorem pt_nm0 : ∀ k : Nat, k < 25 → (19 ≤ pt_pm.getD k 0 ↔ (16 ≤ k ∧ k ≤ 21)) := by decide +kernel
section
variable {B : Nat → Int} {n : Nat} {s : Nat → Int} {x w : Int}
theorem p0_2 (T : pt_T (s 0) (s 1) x w) (h : x = 2) (hw : 9999 < w) : pp_p0 B n s = pp_rf 2 s := by
  have q := (pt_Tnm T).2.2.1 h
  unfold pp_p0
  rw [if_pos q.1, if_pos (by omega)]
theorem p0_k (T : pt_T (s 0) (s 1) x w) (h : x = 2) (hw : ¬ 9999 < w) : pp_p0 B n s = pp_kn B n s := by
  have q := (pt_Tnm T).2.2.1 h
  unfold pp_p0
  rw [if_pos q.1, if_neg (by omega)]
theorem p0_n (T : pt_T (s 0) (s 1) x w) (h : x = 0) (hw : 19 ≤ w) : pp_p0 B n s = pp_kn B n s := by
  have q := pt_Twd T h
  have r := pt_nm0 (s 0).toNat (by omega)
  unfold pp_p0
  rw [if_neg (by omega), if_pos (by omega)]
theorem p0_1 (T : pt_T (s 0) (s 1) x w) (h : x ≠ 2) (hw : x ≠ 0 ∨ w < 19) : pp_p0 B n s = pp_rf 1 s := by
  have q := (pt_Tnm T).2.2.2.1
  unfold pp_p0
  rw [if_neg (fun g => h (q g))]
  refine if_neg (fun g => ?_)
  have e := T.2.1 (by omega)
  have r := pt_nm0 (s 0).toNat (by omega)
  omega
theorem rQ_gr {F : (Nat → Int) → Nat → Int} {M : ti_M} (hF : pp_gr F) (h : rQ B n s M) (hI : mI Tm M) : F s 0 = 28 ∨ (1 ≤ F s 8 ∧ F s 8 ≤ 64) := by
  by_cases q : s 4 = 0
  · have e := (h.2.2.2 q).2.2.1.2.1
    have b := b30 hI
    rcases hF.2 s (by omega) with g | g
    · exact Or.inl g
    · exact Or.inr ⟨by omega, g.2⟩
  · exact Or.inl (hF.1 s (h.2.2.1.2 q))
theorem rQ_nc {M : ti_M} (h : rQ B n s M) (hd : ff M = 0 ∨ (tI M 60 23).toInt ≠ 3 ∨ ¬ ((tI M 60 24).toInt = 60 ∨ (tI M 60 24).toInt = 62 ∨ (tI M 60 24).toInt = 61 ∨ 256 ≤ (tI M 60 24).toInt)) : ¬ (32 ≤ s 0 ∧ s 0 ≤ 37) := by
  by_cases z : ff M = 0
  · have := rQ_28 h z; omega
  · have T := rQ_T h (by have := ff_b M; omega)
    by_cases q : (tI M 60 23).toInt = 3
    · have e := pt_Tsg T q
      exact fun g => (hd.resolve_left z).resolve_left (fun r => r q) (e.2.2.2.2.mpr g)
    · have := pt_Tso T q; omega
theorem rQ_yc {M : ti_M} (h : rQ B n s M) (z : ff M = 1) (q : (tI M 60 23).toInt = 3) (hd : (tI M 60 24).toInt = 60 ∨ (tI M 60 24).toInt = 62 ∨ (tI M 60 24).toInt = 61 ∨ 256 ≤ (tI M 60 24).toInt) : 32 ≤ s 0 ∧ s 0 ≤ 37 := (pt_Tsg (rQ_T h z) q).2.2.2.2.mp hd
theorem rQ_8 {M : ti_M} (h : rQ B n s M) (hI : mI Tm M) (z : s 4 = 0) : 0 ≤ s 8 ∧ s 8 ≤ 64 := by
  have e := (h.2.2.2 z).2.2.1.2.1
  have b := b30 hI
  omega
end
set_option maxHeartbeats 4000000 in
set_option maxRecDepth 100000 in
theorem x_X10_primary (l : Launch) (D : va_G) (A : Nat → Nat → Nat) (cy : Nat → ClassId) (hJ : ti_inj ti_LM A) (M : ti_M) (hI : mI Tm M) (j a d : Nat) (hj : j ≤ 8) (hu : us M a d) (hc : (tY M 60 3 18).toInt ≤ (tI M 60 30).toInt + 64 - 64 * ff M) (ho : (tI M 60 29).toInt + j ≤ 16 - 8 * ff M) (ho2 : 8 * ff M ≤ (tI M 60 29).toInt + j) (B : Nat → Int) (n : Nat) (rg : Nat → Int) (hr : rQ B n rg M) (ih : ∀ i : Nat, i < j → ∀ (l : Launch) (D : va_G) (A : Nat → Nat → Nat) (cy : Nat → ClassId) (hJ : ti_inj ti_LM A) (M : ti_M) (hI : mI Tm M) (a d : Nat) (hj : i ≤ 8) (hu : us M a d) (hc : (tY M 60 3 18).toInt ≤ (tI M 60 30).toInt + 64 - 64 * ff M) (ho : (tI M 60 29).toInt + i ≤ 16 - 8 * ff M) (ho2 : 8 * ff M ≤ (tI M 60 29).toInt + i) (B : Nat → Int) (n : Nat) (rg : Nat → Int) (hr : rQ B n rg M), ti_KvE l yX10_expression cX10_expression 1 (78 + 71 * i) ti_LM D A cy M [.ref (A 60 0)] (fun M2 => rQ B n (pp_ei B n (pp_pt B n i) rg) M2 ∧ mI Tm M2 ∧ pe M2 M ∧ (pg M ≤ pg M2) ∧ (0 ≤ ff M2) ∧ (ff M2 ≤ ff M) ∧ ((tI M 60 30).toInt ≤ (tI M2 60 30).toInt) ∧ ((tI M2 60 30).toInt ≤ 64) ∧ ((tI M2 60 29).toInt ≤ (tI M 60 29).toInt + 8 - 8 * ff M2) ∧ ((tI M 60 29).toInt ≤ (tI M2 60 29).toInt + 8 - 8 * ff M2) ∧ ((tI M2 60 30).toInt - (tY M2 60 3 18).toInt ≤ (tI M 60 30).toInt - (tY M 60 3 18).toInt + 200 - 200 * ff M2) ∧ ((tI M 60 30).toInt - (tY M 60 3 18).toInt ≤ (tI M2 60 30).toInt - (tY M2 60 3 18).toInt + 200 - 200 * ff M2) ∧ (0 ≤ (tY M2 60 3 18).toInt) ∧ ((tY M2 60 3 18).toInt ≤ 64) ∧ (0 ≤ (tI M2 60 29).toInt) ∧ ((tI M2 60 29).toInt ≤ 8) ∧ us M2 a (d + 1))) : ti_KvE l yX10_primary cX10_primary 2 (8 + 71 * j) ti_LM D A cy M [.ref (A 60 0)] (fun M2 => rQ B n (pp_pt B n j rg) M2 ∧ mI Tm M2 ∧ pe M2 M ∧ (pg M ≤ pg M2) ∧ (0 ≤ ff M2) ∧ (ff M2 ≤ ff M) ∧ ((tI M 60 30).toInt ≤ (tI M2 60 30).toInt) ∧ ((tI M2 60 30).toInt ≤ 64) ∧ ((tI M2 60 29).toInt ≤ (tI M 60 29).toInt + 8 - 8 * ff M2) ∧ ((tI M 60 29).toInt ≤ (tI M2 60 29).toInt + 8 - 8 * ff M2) ∧ ((tI M2 60 30).toInt - (tY M2 60 3 18).toInt ≤ (tI M 60 30).toInt - (tY M 60 3 18).toInt + 200 - 200 * ff M2) ∧ ((tI M 60 30).toInt - (tY M 60 3 18).toInt ≤ (tI M2 60 30).toInt - (tY M2 60 3 18).toInt + 200 - 200 * ff M2) ∧ (0 ≤ (tY M2 60 3 18).toInt) ∧ ((tY M2 60 3 18).toInt ≤ 64) ∧ (0 ≤ (tI M2 60 29).toInt) ∧ ((tI M2 60 29).toInt ≤ 8) ∧ us M2 a (d + 1)) := by
  refine ti_eVE yp_X10_primary hJ ti_LM_nd (Nat.le_of_ble_eq_true rfl) ?_
  intro p e s m args below meth c Q H0 C hE hQ hw ls hl
  have hx := C.1
  have hb := C.2.1
  have hl : lv_has ls 2 [(0, .ref (A 60 0))] := hl
  have hI30 := b30 hI
  have hI29 := b29 hI
  have hI18 := b18 hI
  have hIff := ff_b M
  refine lv_aload_n hx hb dX10_primary_0 rfl (lv_at hl 0 rfl) ?_
  refine ti_get (ci := 10) (k := 25) (N := 67) (T := TX10) C hw iw_10 rfl ob_60 (by decide) (by decide) fl_X10_208 rfl rfl dX10_primary_1 ?_
  refine lv_topi (fun x_1 ex_1 => ?_)
  have u_2 : (tI M 60 25).toInt = x_1.toInt := by rw [ex_1]
  have ufx_1 : (tI M 60 25).toInt = x_1.toInt := by rw [ex_1]
  refine sb_if_eq (tgt := 8) hx hb rfl dX10_primary_4 (by decide) (fun c_4_2 => ?_) (fun c_4_2 => ?_)
  · have z_4 : ff M = 1 := ff_1 (ufx_1.trans c_4_2)
    clear c_4_2
    refine lv_aload_n hx hb dX10_primary_8 rfl (lv_at hl 0 rfl) ?_
    refine lv_bipush (v := 40) hx hb dX10_primary_9 (by decide) ?_
    refine ti_callVi (ci := 10) (av := [.int 40]) C hw (x_X10_isSign l D A cy hJ M hI 40) ⟨ml_X10_251, ym_X10_isSign, yv_X10_isSign, yi_X10_isSign, yc_X10_isSign⟩ yd_X10_isSign ob_60 (by decide) rfl rfl hl.1 (Nat.le_of_ble_eq_true rfl) ⟨by simp only [ti_rm]; omega, by simp only [ti_rm]; omega⟩ ⟨Nat.zero_le _, Nat.zero_le _⟩ dX10_primary_11 (fun r_5 M_6 H locs hp_6 hw => ?_)
    obtain ⟨hm, hz⟩ := hp_6
    have hw := hw.to hm
    rcases hz with ⟨rfl, d0_7, d1_7, d2_7⟩ | ⟨rfl, d3_7⟩
    · have dk_7 := rQ_s1 (k := 30) hr d0_7 d1_7 d2_7 (by decide)
      have z_8 : ff M = 1 := ff_1 d0_7
      have z_9 : pg M = 2 * (tI M 60 21).toInt := pg_3 (by rw [d1_7]; decide)
      clear d0_7 d1_7 d2_7
      refine sb_if_eq (tgt := 101) hx hb (by decide : (1 : Int32).toInt = 1) dX10_primary_14 (by decide) (fun h => absurd h (by decide)) (fun c_14_9 => ?_)
      refine lv_aload_n hx hb dX10_primary_17 rfl (lv_at hl 0 rfl) ?_
      refine ti_get (ci := 10) (k := 29) (N := 67) (T := TX10) C hw iw_10 rfl ob_60 (by decide) (by decide) fl_X10_297 rfl rfl dX10_primary_18 ?_
      refine lv_topi (fun x_12 ex_12 => ?_)
      have bx_12 : 0 ≤ x_12.toInt ∧ x_12.toInt ≤ 8 := mI_rd hI ex_12
      have ux_12 : (tI M 60 29).toInt = x_12.toInt := by rw [ex_12]
      refine lv_bipush (v := 8) hx hb dX10_primary_21 (by decide) ?_
      refine sb_icmp_ne (tgt := 31) hx hb rfl (by decide : (8 : Int32).toInt = 8) dX10_primary_23 (by decide) (fun c_23_12 => ?_) (fun c_23_12 => ?_)
      · refine lv_aload_n hx hb dX10_primary_31 rfl (lv_at hl 0 rfl) ?_
        refine ti_get (ci := 10) (k := 25) (N := 67) (T := TX10) C hw iw_10 rfl ob_60 (by decide) (by decide) fl_X10_208 rfl rfl dX10_primary_32 ?_
        refine ti_top (y := x_1) (ex_1.symm) ?_
        refine sb_if_eq (tgt := 39) hx hb rfl dX10_primary_35 (by decide) (fun c_35_24 => ?_) (fun c_35_24 => by have z_26 : ff M = 0 := ff_0 (fun h => c_35_24 (ufx_1.symm.trans h)); omega)
        have z_26 : ff M = 1 := ff_1 (ufx_1.trans c_35_24)
        clear c_35_24
        refine lv_aload_n hx hb dX10_primary_39 rfl (lv_at hl 0 rfl) ?_
        refine lv_dup hx hb dX10_primary_40 rfl ?_
        refine ti_get (ci := 10) (k := 29) (N := 67) (T := TX10) C hw iw_10 rfl ob_60 (by decide) (by decide) fl_X10_297 rfl rfl dX10_primary_41 ?_
        refine ti_top (y := x_12) (ex_12.symm) ?_
        have u_31 : (tI M 60 29).toInt = (x_12 : Int32).toInt := by rw [(ex_12.symm)]
        refine lv_iconst (v := 1) hx hb dX10_primary_44 (by decide) ?_
        refine lv_iadd hx hb dX10_primary_45 ?_
        refine lv_topi (fun x_32 ex_32 => ?_)
        have tx_32 : x_32.toInt = x_12.toInt + 1 := i_add ex_32 rfl (by decide : (1 : Int32).toInt = 1) (by omega) (by omega)
        refine ti_putI (ci := 10) (k := 29) (N := 67) (T := TX10) C hw iw_10 tyX10 tyX10_ok nmX10 rfl ob_60 (by decide) (by decide) fl_X10_297 rfl rfl rfl rfl (fn_10 A _) fs_10_29 dX10_primary_46 (fun H locs hw => ?_)
        obtain ⟨M_33, hM_33⟩ : ∃ z : ti_M, z = uI M 60 29 x_32 := ⟨_, rfl⟩
        have hw := hw.to hM_33.symm
        have iM_33 : mI Tm M_33 := mI_uI hI hM_33 (by decide) (by decide) (ib_mk (lo := 0) (hi := 8) (by omega) (by omega))
        have vM_33 : (tI M_33 60 29).toInt = (x_32 : Int32).toInt := by rw [tI_uE hM_33]
        have z_34 : ff M_33 = ff M := ff_I hM_33 (by decide)
        have z_35 : pg M_33 = pg M := pg_I hM_33 (by decide)
        have z_36 : (tI M_33 60 30).toInt = (tI M 60 30).toInt := by rw [tI_nE hM_33 (nk (by decide))]
        have z_37 : (tY M_33 60 3 18).toInt = (tY M 60 3 18).toInt := by rw [tY_uIE hM_33]
        have hs_38 := rQ_29 hr hM_33
        refine lv_aload_n hx hb dX10_primary_49 rfl (lv_at hl 0 rfl) ?_
        refine ti_callVvE (ci := 10) (av := []) C hE hw (x_X10_token l D A cy hJ M_33 iM_33 ) ⟨ml_X10_214, ym_X10_token, yv_X10_token, yi_X10_token, yc_X10_token⟩ yd_X10_token ob_60 (by decide) rfl rfl hl.1 (Nat.le_of_ble_eq_true rfl) ⟨by simp only [ti_rm]; omega, by simp only [ti_rm]; omega⟩ ⟨Nat.zero_le _, Nat.zero_le _⟩ dX10_primary_50 (fun M_40 H locs hp_40 hw => ?_)
        obtain ⟨iM_40, q_43, z_41, z_42, k2M_40, k3M_40, k4M_40⟩ := hp_40
        have hs_44 := rQ_av hs_38 (rQ_g0 hs_38 (by omega)) (iM_33.1 21).1 q_43 k2M_40 k3M_40 k4M_40
        obtain ⟨-, -, z_45, z_46, z_47, z_48, z_49, z_50⟩ := l_tk ⟨iM_40, q_43, z_41, z_42⟩
        clear z_41 z_42 k2M_40 k3M_40 k4M_40
        obtain ⟨g_51, eg_51⟩ : ∃ z : Nat → Int, z = pp_av B n rg := ⟨_, rfl⟩
        rw [← eg_51] at hs_44
        refine lv_aload_n hx hb dX10_primary_53 rfl (lv_at hl 0 rfl) ?_
        refine ti_callVvE (ci := 10) (av := []) C hE hw (ih (j - 1) (by omega) l D A cy hJ M_40 iM_40 a (d) (by omega) (us_q (x := 21) (y := 30) hu (pr.trans (pr_w q_43 (by decide) (by decide)) (pr_I hM_33 (by decide))) (by omega)) (by omega) (by omega) (by omega) B n g_51 hs_44) ⟨ml_X10_270, ym_X10_expression, yv_X10_expression, yi_X10_expression, yc_X10_expression⟩ yd_X10_expression ob_60 (by decide) rfl rfl hl.1 (Nat.le_of_ble_eq_true rfl) ⟨by simp only [ti_rm]; omega, by simp only [ti_rm]; omega⟩ ⟨Nat.zero_le _, Nat.zero_le _⟩ dX10_primary_54 (fun M_53 H locs hp_53 hw => ?_)
        obtain ⟨hs_54, hp_55⟩ := hp_53
        obtain ⟨iM_53, q_56, p_57, p_58, p_59, p_60, p_61, p_62, p_63, p_64, p_65, p_66, p_67, p_68, p_69, u_70⟩ := hp_55
        obtain ⟨g_71, eg_71⟩ : ∃ z : Nat → Int, z = pp_ei B n (pp_pt B n (j - 1)) g_51 := ⟨_, rfl⟩
        rw [← eg_71] at hs_54
        refine lv_aload_n hx hb dX10_primary_57 rfl (lv_at hl 0 rfl) ?_
        refine ti_get (ci := 10) (k := 25) (N := 67) (T := TX10) C hw iw_10 rfl ob_60 (by decide) (by decide) fl_X10_208 rfl rfl dX10_primary_58 ?_
        refine lv_topi (fun x_72 ex_72 => ?_)
        have u_73 : (tI M_53 60 25).toInt = x_72.toInt := by rw [ex_72]
        have ufx_72 : (tI M_53 60 25).toInt = x_72.toInt := by rw [ex_72]
        refine sb_if_ne (tgt := 78) hx hb rfl dX10_primary_61 (by decide) (fun c_61_73 => ?_) (fun c_61_73 => ?_)
        · have z_75 : ff M_53 = 0 := ff_0 (fun h => c_61_73 (ufx_72.symm.trans h))
          clear c_61_73
          refine lv_aload_n hx hb dX10_primary_78 rfl (lv_at hl 0 rfl) ?_
          refine ti_get (ci := 10) (k := 25) (N := 67) (T := TX10) C hw iw_10 rfl ob_60 (by decide) (by decide) fl_X10_208 rfl rfl dX10_primary_79 ?_
          refine ti_top (y := x_72) (ex_72.symm) ?_
          refine sb_if_eq (tgt := 86) hx hb rfl dX10_primary_82 (by decide) (fun c_82_93 => by have z_95 : ff M_53 = 1 := ff_1 (ufx_72.trans c_82_93); omega) (fun c_82_93 => ?_)
          have z_95 : ff M_53 = 0 := ff_0 (fun h => c_82_93 (ufx_72.symm.trans h))
          clear c_82_93
          exact hQ _ _ _ _ _ hw (⟨(by rw [pe_s (by omega), if_pos dk_7.1, ← eg_51, ← eg_71]; exact rQ_f hs_54 (rQ_g1 hs_54 (by omega)) (tk_f (rQ_z hs_54 (rQ_g1 hs_54 (by omega))) (by decide))), iM_53, (pe.trans q_56 (pe.trans (pe_pr q_43 (by decide) (by decide)) (pe_I hM_33 (by decide)))), (by omega), (by omega), (by omega), (by omega), (by omega), (by omega), (by omega), (by omega), (by omega), (by omega), (by omega), (by omega), (by omega), u_70⟩) dX10_primary_85
        · have z_75 : ff M_53 = 1 := ff_1 (ufx_72.trans c_61_73)
          clear c_61_73
          refine lv_aload_n hx hb dX10_primary_64 rfl (lv_at hl 0 rfl) ?_
          refine lv_bipush (v := 41) hx hb dX10_primary_65 (by decide) ?_
          refine ti_callVi (ci := 10) (av := [.int 41]) C hw (x_X10_isSign l D A cy hJ M_53 iM_53 41) ⟨ml_X10_251, ym_X10_isSign, yv_X10_isSign, yi_X10_isSign, yc_X10_isSign⟩ yd_X10_isSign ob_60 (by decide) rfl rfl hl.1 (Nat.le_of_ble_eq_true rfl) ⟨by simp only [ti_rm]; omega, by simp only [ti_rm]; omega⟩ ⟨Nat.zero_le _, Nat.zero_le _⟩ dX10_primary_67 (fun r_76 M_77 H locs hp_77 hw => ?_)
          obtain ⟨hm, hz⟩ := hp_77
          have hw := hw.to hm
          rcases hz with ⟨rfl, d0_78, d1_78, d2_78⟩ | ⟨rfl, d3_78⟩
          · have dk_78 := rQ_s1 (k := 31) hs_54 d0_78 d1_78 d2_78 (by decide)
            have z_79 : ff M_53 = 1 := ff_1 d0_78
            have z_80 : pg M_53 = 2 * (tI M_53 60 21).toInt := pg_3 (by rw [d1_78]; decide)
            clear d0_78 d1_78 d2_78
            refine sb_if_ne (tgt := 78) hx hb (by decide : (1 : Int32).toInt = 1) dX10_primary_70 (by decide) (fun c_70_80 => ?_) (fun h => absurd h (by decide))
            refine lv_aload_n hx hb dX10_primary_78 rfl (lv_at hl 0 rfl) ?_
            refine ti_get (ci := 10) (k := 25) (N := 67) (T := TX10) C hw iw_10 rfl ob_60 (by decide) (by decide) fl_X10_208 rfl rfl dX10_primary_79 ?_
            refine ti_top (y := x_72) (ex_72.symm) ?_
            refine sb_if_eq (tgt := 86) hx hb rfl dX10_primary_82 (by decide) (fun c_82_95 => ?_) (fun c_82_95 => by have z_97 : ff M_53 = 0 := ff_0 (fun h => c_82_95 (ufx_72.symm.trans h)); omega)
            have z_97 : ff M_53 = 1 := ff_1 (ufx_72.trans c_82_95)
            clear c_82_95
            refine lv_aload_n hx hb dX10_primary_86 rfl (lv_at hl 0 rfl) ?_
            refine lv_dup hx hb dX10_primary_87 rfl ?_
            refine ti_get (ci := 10) (k := 29) (N := 67) (T := TX10) C hw iw_10 rfl ob_60 (by decide) (by decide) fl_X10_297 rfl rfl dX10_primary_88 ?_
            refine lv_topi (fun x_102 ex_102 => ?_)
            have bx_102 : 0 ≤ x_102.toInt ∧ x_102.toInt ≤ 8 := mI_rd iM_53 ex_102
            have ux_102 : (tI M_53 60 29).toInt = x_102.toInt := by rw [ex_102]
            refine lv_iconst (v := 1) hx hb dX10_primary_91 (by decide) ?_
            refine lv_isub hx hb dX10_primary_92 ?_
            refine lv_topi (fun x_103 ex_103 => ?_)
            have tx_103 : x_103.toInt = x_102.toInt - 1 := i_sub ex_103 rfl (by decide : (1 : Int32).toInt = 1) (by omega) (by omega)
            refine ti_putI (ci := 10) (k := 29) (N := 67) (T := TX10) C hw iw_10 tyX10 tyX10_ok nmX10 rfl ob_60 (by decide) (by decide) fl_X10_297 rfl rfl rfl rfl (fn_10 A _) fs_10_29 dX10_primary_93 (fun H locs hw => ?_)
            obtain ⟨M_104, hM_104⟩ : ∃ z : ti_M, z = uI M_53 60 29 x_103 := ⟨_, rfl⟩
            have hw := hw.to hM_104.symm
            have iM_104 : mI Tm M_104 := mI_uI iM_53 hM_104 (by decide) (by decide) (ib_mk (lo := 0) (hi := 8) (by omega) (by omega))
            have vM_104 : (tI M_104 60 29).toInt = (x_103 : Int32).toInt := by rw [tI_uE hM_104]
            have z_105 : ff M_104 = ff M_53 := ff_I hM_104 (by decide)
            have z_106 : pg M_104 = pg M_53 := pg_I hM_104 (by decide)
            have z_107 : (tI M_104 60 30).toInt = (tI M_53 60 30).toInt := by rw [tI_nE hM_104 (nk (by decide))]
            have z_108 : (tY M_104 60 3 18).toInt = (tY M_53 60 3 18).toInt := by rw [tY_uIE hM_104]
            have hs_109 := rQ_29 hs_54 hM_104
            refine lv_aload_n hx hb dX10_primary_96 rfl (lv_at hl 0 rfl) ?_
            refine ti_callVvE (ci := 10) (av := []) C hE hw (x_X10_token l D A cy hJ M_104 iM_104 ) ⟨ml_X10_214, ym_X10_token, yv_X10_token, yi_X10_token, yc_X10_token⟩ yd_X10_token ob_60 (by decide) rfl rfl hl.1 (Nat.le_of_ble_eq_true rfl) ⟨by simp only [ti_rm]; omega, by simp only [ti_rm]; omega⟩ ⟨Nat.zero_le _, Nat.zero_le _⟩ dX10_primary_97 (fun M_111 H locs hp_111 hw => ?_)
            obtain ⟨iM_111, q_114, z_112, z_113, k2M_111, k3M_111, k4M_111⟩ := hp_111
            have hs_115 := rQ_av hs_109 (rQ_g0 hs_109 (by omega)) (iM_104.1 21).1 q_114 k2M_111 k3M_111 k4M_111
            obtain ⟨-, -, z_116, z_117, z_118, z_119, z_120, z_121⟩ := l_tk ⟨iM_111, q_114, z_112, z_113⟩
            clear z_112 z_113 k2M_111 k3M_111 k4M_111
            obtain ⟨g_122, eg_122⟩ : ∃ z : Nat → Int, z = pp_av B n g_71 := ⟨_, rfl⟩
            rw [← eg_122] at hs_115
            exact hQ _ _ _ _ _ hw (⟨(by rw [pe_s (by omega), if_pos dk_7.1, ← eg_51, ← eg_71]; unfold pp_tk; rw [if_pos dk_78.1, ← eg_122]; exact hs_115), iM_111, (pe.trans (pe_pr q_114 (by decide) (by decide)) (pe.trans (pe_I hM_104 (by decide)) (pe.trans q_56 (pe.trans (pe_pr q_43 (by decide) (by decide)) (pe_I hM_33 (by decide)))))), (by omega), (by omega), (by omega), (by omega), (by omega), (by omega), (by omega), (by omega), (by omega), (by omega), (by omega), (by omega), (by omega), (us_q (x := 21) (y := 30) u_70 (pr.trans (pr_w q_114 (by decide) (by decide)) (pr_I hM_104 (by decide))) (by omega))⟩) dX10_primary_100
          · have dk_78 := rQ_s0 (k := 31) hs_54 d3_78 (by decide) (by decide)
            clear d3_78
            refine sb_if_ne (tgt := 78) hx hb (by decide : (0 : Int32).toInt = 0) dX10_primary_70 (by decide) (fun h => absurd h (by decide)) (fun c_70_81 => ?_)
            refine lv_aload_n hx hb dX10_primary_73 rfl (lv_at hl 0 rfl) ?_
            refine lv_iconst (v := 1) hx hb dX10_primary_74 (by decide) ?_
            refine ti_callVv (ci := 10) (av := [.int 1]) C hw (x_X10_wrong l D A cy hJ M_53 iM_53 1 (by decide) B n g_71 hs_54) ⟨ml_X10_217, ym_X10_wrong, yv_X10_wrong, yi_X10_wrong, yc_X10_wrong⟩ yd_X10_wrong ob_60 (by decide) rfl rfl hl.1 (Nat.le_of_ble_eq_true rfl) ⟨by simp only [ti_rm]; omega, by simp only [ti_rm]; omega⟩ ⟨Nat.zero_le _, Nat.zero_le _⟩ dX10_primary_75 (fun M_84 H locs hp_84 hw => ?_)
            rw [show (1 : Int32).toInt = 1 by decide] at hp_84
            obtain ⟨hs_85, hp_86⟩ := hp_84
            obtain ⟨iM_84, q_87, z_88, z_89, z_90, z_91, z_92⟩ := l_wr hp_86
            clear hp_86
            obtain ⟨g_93, eg_93⟩ : ∃ z : Nat → Int, z = pp_rf 1 g_71 := ⟨_, rfl⟩
            rw [← eg_93] at hs_85
            refine lv_aload_n hx hb dX10_primary_78 rfl (lv_at hl 0 rfl) ?_
            refine ti_get (ci := 10) (k := 25) (N := 67) (T := TX10) C hw iw_10 rfl ob_60 (by decide) (by decide) fl_X10_208 rfl rfl dX10_primary_79 ?_
            refine lv_topi (fun x_98 ex_98 => ?_)
            have u_99 : (tI M_84 60 25).toInt = x_98.toInt := by rw [ex_98]
            have ufx_98 : (tI M_84 60 25).toInt = x_98.toInt := by rw [ex_98]
            refine sb_if_eq (tgt := 86) hx hb rfl dX10_primary_82 (by decide) (fun c_82_99 => by have z_101 : ff M_84 = 1 := ff_1 (ufx_98.trans c_82_99); omega) (fun c_82_99 => ?_)
            have z_101 : ff M_84 = 0 := ff_0 (fun h => c_82_99 (ufx_98.symm.trans h))
            clear c_82_99
            exact hQ _ _ _ _ _ hw (⟨(by rw [pe_s (by omega), if_pos dk_7.1, ← eg_51, ← eg_71]; unfold pp_tk; rw [if_neg dk_78, ← eg_93]; exact hs_85), iM_84, (pe.trans (pe_pr q_87 (by decide) (by decide)) (pe.trans q_56 (pe.trans (pe_pr q_43 (by decide) (by decide)) (pe_I hM_33 (by decide))))), (by omega), (by omega), (by omega), (by omega), (by omega), (by omega), (by omega), (by omega), (by omega), (by omega), (by omega), (by omega), (by omega), (us_q (x := 21) (y := 30) u_70 (pr_w q_87 (by decide) (by decide)) (by omega))⟩) dX10_primary_85
      · refine lv_aload_n hx hb dX10_primary_26 rfl (lv_at hl 0 rfl) ?_
        refine lv_iconst (v := 2) hx hb dX10_primary_27 (by decide) ?_
        refine ti_callVv (ci := 10) (av := [.int 2]) C hw (x_X10_wrong l D A cy hJ M hI 2 (by decide) B n rg hr) ⟨ml_X10_217, ym_X10_wrong, yv_X10_wrong, yi_X10_wrong, yc_X10_wrong⟩ yd_X10_wrong ob_60 (by decide) rfl rfl hl.1 (Nat.le_of_ble_eq_true rfl) ⟨by simp only [ti_rm]; omega, by simp only [ti_rm]; omega⟩ ⟨Nat.zero_le _, Nat.zero_le _⟩ dX10_primary_28 (fun M_15 H locs hp_15 hw => ?_)
        rw [show (2 : Int32).toInt = 2 by decide] at hp_15
        obtain ⟨hs_16, hp_17⟩ := hp_15
        obtain ⟨iM_15, q_18, z_19, z_20, z_21, z_22, z_23⟩ := l_wr hp_17
        clear hp_17
        obtain ⟨g_24, eg_24⟩ : ∃ z : Nat → Int, z = pp_rf 2 rg := ⟨_, rfl⟩
        rw [← eg_24] at hs_16
        refine lv_aload_n hx hb dX10_primary_31 rfl (lv_at hl 0 rfl) ?_
        refine ti_get (ci := 10) (k := 25) (N := 67) (T := TX10) C hw iw_10 rfl ob_60 (by decide) (by decide) fl_X10_208 rfl rfl dX10_primary_32 ?_
        refine lv_topi (fun x_27 ex_27 => ?_)
        have u_28 : (tI M_15 60 25).toInt = x_27.toInt := by rw [ex_27]
        have ufx_27 : (tI M_15 60 25).toInt = x_27.toInt := by rw [ex_27]
        refine sb_if_eq (tgt := 39) hx hb rfl dX10_primary_35 (by decide) (fun c_35_28 => by have z_30 : ff M_15 = 1 := ff_1 (ufx_27.trans c_35_28); omega) (fun c_35_28 => ?_)
        have z_30 : ff M_15 = 0 := ff_0 (fun h => c_35_28 (ufx_27.symm.trans h))
        clear c_35_28
        exact hQ _ _ _ _ _ hw (⟨(by rw [show j = 0 by omega, pe_0, if_pos dk_7.1, ← eg_24]; exact hs_16), iM_15, (pe_pr q_18 (by decide) (by decide)), (by omega), (by omega), (by omega), (by omega), (by omega), (by omega), (by omega), (by omega), (by omega), (by omega), (by omega), (by omega), (by omega), us_f (by omega)⟩) dX10_primary_38
    · have dk_7 := rQ_s0 (k := 30) hr d3_7 (by decide) (by decide)
      clear d3_7
      refine sb_if_eq (tgt := 101) hx hb (by decide : (0 : Int32).toInt = 0) dX10_primary_14 (by decide) (fun c_14_10 => ?_) (fun h => absurd h (by decide))
      refine lv_aload_n hx hb dX10_primary_101 rfl (lv_at hl 0 rfl) ?_
      refine ti_get (ci := 10) (k := 23) (N := 67) (T := TX10) C hw iw_10 rfl ob_60 (by decide) (by decide) fl_X10_173 rfl rfl dX10_primary_102 ?_
      refine lv_topi (fun x_123 ex_123 => ?_)
      have uqu_124 : (tI M 60 23).toInt = x_123.toInt := by rw [(ex_123.symm)]
      refine lv_iconst (v := 2) hx hb dX10_primary_105 (by decide) ?_
      refine sb_icmp_ne (tgt := 113) hx hb rfl (by decide : (2 : Int32).toInt = 2) dX10_primary_106 (by decide) (fun c_106_124 => ?_) (fun c_106_124 => ?_)
      · refine lv_iconst (v := 0) hx hb dX10_primary_113 (by decide) ?_
        refine lv_istore_n (lv' := [(1, .int 0), (0, .ref (A 60 0))]) hx hb dX10_primary_114 rfl hl (by decide) rfl (fun ls hl => ?_)
        refine lv_iload_n hx hb dX10_primary_115 rfl (lv_at hl 0 rfl) ?_
        refine sb_if_eq (tgt := 137) hx hb (by decide : (0 : Int32).toInt = 0) dX10_primary_116 (by decide) (fun c_116_126 => ?_) (fun h => absurd h (by decide))
        refine lv_iload_n hx hb dX10_primary_137 rfl (lv_at hl 0 rfl) ?_
        refine sb_if_ne (tgt := 162) hx hb (by decide : (0 : Int32).toInt = 0) dX10_primary_138 (by decide) (fun h => absurd h (by decide)) (fun c_138_141 => ?_)
        refine lv_aload_n hx hb dX10_primary_141 rfl (lv_at hl 1 rfl) ?_
        refine ti_get (ci := 10) (k := 23) (N := 67) (T := TX10) C hw iw_10 rfl ob_60 (by decide) (by decide) fl_X10_173 rfl rfl dX10_primary_142 ?_
        refine ti_top (y := x_123) (ex_123.symm) ?_
        have uqu_144 : (tI M 60 23).toInt = x_123.toInt := by rw [(ex_123.symm)]
        refine sb_if_ne (tgt := 157) hx hb rfl dX10_primary_145 (by decide) (fun c_145_144 => ?_) (fun c_145_144 => ?_)
        · refine lv_aload_n hx hb dX10_primary_157 rfl (lv_at hl 1 rfl) ?_
          refine lv_iconst (v := 1) hx hb dX10_primary_158 (by decide) ?_
          refine ti_callVv (ci := 10) (av := [.int 1]) C hw (x_X10_wrong l D A cy hJ M hI 1 (by decide) B n rg hr) ⟨ml_X10_217, ym_X10_wrong, yv_X10_wrong, yi_X10_wrong, yc_X10_wrong⟩ yd_X10_wrong ob_60 (by decide) rfl rfl hl.1 (Nat.le_of_ble_eq_true rfl) ⟨by simp only [ti_rm]; omega, by simp only [ti_rm]; omega⟩ ⟨Nat.zero_le _, Nat.zero_le _⟩ dX10_primary_159 (fun M_150 H locs hp_150 hw => ?_)
          rw [show (1 : Int32).toInt = 1 by decide] at hp_150
          obtain ⟨hs_151, hp_152⟩ := hp_150
          obtain ⟨iM_150, q_153, z_154, z_155, z_156, z_157, z_158⟩ := l_wr hp_152
          clear hp_152
          obtain ⟨g_159, eg_159⟩ : ∃ z : Nat → Int, z = pp_rf 1 rg := ⟨_, rfl⟩
          rw [← eg_159] at hs_151
          refine lv_aload_n hx hb dX10_primary_162 rfl (lv_at hl 1 rfl) ?_
          refine ti_callVv (ci := 10) (av := []) C hw (x_X10_knot l D A cy hJ M_150 iM_150  B n g_159 hs_151) ⟨ml_X10_279, ym_X10_knot, yv_X10_knot, yi_X10_knot, yc_X10_knot⟩ yd_X10_knot ob_60 (by decide) rfl rfl hl.1 (Nat.le_of_ble_eq_true rfl) ⟨by simp only [ti_rm]; omega, by simp only [ti_rm]; omega⟩ ⟨Nat.zero_le _, Nat.zero_le _⟩ dX10_primary_163 (fun M_211 H locs hp_211 hw => ?_)
          obtain ⟨hs_212, hp_213⟩ := hp_211
          obtain ⟨iM_211, q_214, z_215, z_216, z_217, z_218, z_219, z_220⟩ := l_kn hp_213
          clear hp_213
          obtain ⟨g_221, eg_221⟩ : ∃ z : Nat → Int, z = pp_k1 g_159 := ⟨_, rfl⟩
          rw [← eg_221] at hs_212
          refine lv_aload_n hx hb dX10_primary_166 rfl (lv_at hl 1 rfl) ?_
          refine lv_iload_n hx hb dX10_primary_167 rfl (lv_at hl 0 rfl) ?_
          refine sb_if_eq (tgt := 175) hx hb (by decide : (0 : Int32).toInt = 0) dX10_primary_168 (by decide) (fun c_168_221 => ?_) (fun h => absurd h (by decide))
          refine lv_iconst (v := 1) hx hb dX10_primary_175 (by decide) ?_
          refine lv_iload_n hx hb dX10_primary_176 rfl (lv_at hl 0 rfl) ?_
          refine sb_if_eq (tgt := 187) hx hb (by decide : (0 : Int32).toInt = 0) dX10_primary_177 (by decide) (fun c_177_238 => ?_) (fun h => absurd h (by decide))
          refine lv_aload_n hx hb dX10_primary_187 rfl (lv_at hl 1 rfl) ?_
          refine ti_get (ci := 10) (k := 24) (N := 67) (T := TX10) C hw iw_10 rfl ob_60 (by decide) (by decide) fl_X10_183 rfl rfl dX10_primary_188 ?_
          refine lv_topi (fun x_245 ex_245 => ?_)
          have uqu_246 : (tI M_211 60 24).toInt = x_245.toInt := by rw [(ex_245.symm)]
          refine lv_bipush (v := 19) hx hb dX10_primary_191 (by decide) ?_
          refine lv_isub hx hb dX10_primary_193 ?_
          refine lv_topi (fun x_247 ex_247 => ?_)
          refine ti_callVv (ci := 10) (av := [.int 1, .int x_247]) C hw (s_X10_puts l D A cy hJ M_211 iM_211 a (d) (d + 1) 1 x_247 (us_q (x := 21) (y := 30) hu (pr.trans (pr_w q_214 (by decide) (by decide)) (pr_w q_153 (by decide) (by decide))) (by omega)) (nL (by omega)) (by first | exact Or.inr (Or.inr (Or.inr ⟨by decide, Or.inr ⟨by omega, by omega⟩, rfl⟩)) | exact nF (by omega))) ⟨ml_X10_282, ym_X10_puts, yv_X10_puts, yi_X10_puts, yc_X10_puts⟩ yd_X10_puts ob_60 (by decide) rfl rfl hl.1 (Nat.le_of_ble_eq_true rfl) ⟨by simp only [ti_rm]; omega, by simp only [ti_rm]; omega⟩ ⟨Nat.zero_le _, Nat.zero_le _⟩ dX10_primary_194 (fun M_317 H locs hp_317 hw => ?_)
          have hs_318 := rQ_pe hs_212 hp_317.2.1 hp_317.2.2.2.1
          obtain ⟨iM_317, q_319, u_320, z_321, z_322, z_323, z_324, z_325, z_326⟩ := l_pu iM_211 hp_317
          clear hp_317
          refine lv_aload_n hx hb dX10_primary_197 rfl (lv_at hl 1 rfl) ?_
          refine ti_callVvE (ci := 10) (av := []) C hE hw (x_X10_goOn l D A cy hJ M_317 iM_317  B n g_221 hs_318) ⟨ml_X10_267, ym_X10_goOn, yv_X10_goOn, yi_X10_goOn, yc_X10_goOn⟩ yd_X10_goOn ob_60 (by decide) rfl rfl hl.1 (Nat.le_of_ble_eq_true rfl) ⟨by simp only [ti_rm]; omega, by simp only [ti_rm]; omega⟩ ⟨Nat.zero_le _, Nat.zero_le _⟩ dX10_primary_198 (fun M_328 H locs hp_328 hw => ?_)
          obtain ⟨hs_329, hp_330⟩ := hp_328
          obtain ⟨iM_328, q_331, z_332, z_333, z_334, z_335, z_336⟩ := l_go hp_330
          clear hp_330
          obtain ⟨g_337, eg_337⟩ : ∃ z : Nat → Int, z = pp_go B n g_221 := ⟨_, rfl⟩
          rw [← eg_337] at hs_329
          exact hQ _ _ _ _ _ hw (⟨(by have z := rQ_g1 hs_151 (by omega); have q : g_337 = g_159 := (by rw [eg_337, eg_221, k1_f z, go_f z]); rw [pe_n dk_7, show pp_p0 B n rg = g_159 from Eq.trans (by first | exact p0_2 (rQ_T hr (by omega)) (by omega) (by omega) | exact p0_1 (rQ_T hr (by omega)) (by omega) (by omega)) eg_159.symm, ← q]; exact hs_329), iM_328, (pe.trans (pe_pr q_331 (by decide) (by decide)) (pe.trans q_319 (pe.trans (pe_pr q_214 (by decide) (by decide)) (pe_pr q_153 (by decide) (by decide))))), (by omega), (by omega), (by omega), (by omega), (by omega), (by omega), (by omega), (by omega), (by omega), (by omega), (by omega), (by omega), (by omega), (us_q (x := 21) (y := 30) u_320 (pr_w q_331 (by decide) (by decide)) (by omega))⟩) dX10_primary_201
        · have v24 : (tI M 60 24).toInt ≤ 24 := hI.2.2.1 (by rw [(ex_123.symm)]; exact z0 (by omega))
          refine lv_aload_n hx hb dX10_primary_148 rfl (lv_at hl 1 rfl) ?_
          refine ti_get (ci := 10) (k := 24) (N := 67) (T := TX10) C hw iw_10 rfl ob_60 (by decide) (by decide) fl_X10_183 rfl rfl dX10_primary_149 ?_
          refine lv_topi (fun x_146 ex_146 => ?_)
          have uqu_147 : (tI M 60 24).toInt = x_146.toInt := by rw [(ex_146.symm)]
          have u24 : (tI M 60 24).toInt = (x_146 : Int32).toInt := by rw [(ex_146.symm)]
          refine lv_bipush (v := 19) hx hb dX10_primary_152 (by decide) ?_
          refine sb_icmp_ge (tgt := 162) hx hb rfl (by decide : (19 : Int32).toInt = 19) dX10_primary_154 (by decide) (fun c_154_147 => ?_) (fun c_154_147 => ?_)
          · refine lv_aload_n hx hb dX10_primary_162 rfl (lv_at hl 1 rfl) ?_
            refine ti_callVv (ci := 10) (av := []) C hw (x_X10_knot l D A cy hJ M hI  B n rg hr) ⟨ml_X10_279, ym_X10_knot, yv_X10_knot, yi_X10_knot, yc_X10_knot⟩ yd_X10_knot ob_60 (by decide) rfl rfl hl.1 (Nat.le_of_ble_eq_true rfl) ⟨by simp only [ti_rm]; omega, by simp only [ti_rm]; omega⟩ ⟨Nat.zero_le _, Nat.zero_le _⟩ dX10_primary_163 (fun M_198 H locs hp_198 hw => ?_)
            obtain ⟨hs_199, hp_200⟩ := hp_198
            obtain ⟨iM_198, q_201, z_202, z_203, z_204, z_205, z_206, z_207⟩ := l_kn hp_200
            clear hp_200
            obtain ⟨g_208, eg_208⟩ : ∃ z : Nat → Int, z = pp_k1 rg := ⟨_, rfl⟩
            rw [← eg_208] at hs_199
            refine lv_aload_n hx hb dX10_primary_166 rfl (lv_at hl 1 rfl) ?_
            refine lv_iload_n hx hb dX10_primary_167 rfl (lv_at hl 0 rfl) ?_
            refine sb_if_eq (tgt := 175) hx hb (by decide : (0 : Int32).toInt = 0) dX10_primary_168 (by decide) (fun c_168_208 => ?_) (fun h => absurd h (by decide))
            refine lv_iconst (v := 1) hx hb dX10_primary_175 (by decide) ?_
            refine lv_iload_n hx hb dX10_primary_176 rfl (lv_at hl 0 rfl) ?_
            refine sb_if_eq (tgt := 187) hx hb (by decide : (0 : Int32).toInt = 0) dX10_primary_177 (by decide) (fun c_177_237 => ?_) (fun h => absurd h (by decide))
            refine lv_aload_n hx hb dX10_primary_187 rfl (lv_at hl 1 rfl) ?_
            refine ti_get (ci := 10) (k := 24) (N := 67) (T := TX10) C hw iw_10 rfl ob_60 (by decide) (by decide) fl_X10_183 rfl rfl dX10_primary_188 ?_
            refine ti_top (y := x_146) ((q_201.2 24 (by decide)).trans ex_146.symm) ?_
            have uqu_243 : (tI M_198 60 24).toInt = x_146.toInt := by rw [((q_201.2 24 (by decide)).trans ex_146.symm)]
            refine lv_bipush (v := 19) hx hb dX10_primary_191 (by decide) ?_
            refine lv_isub hx hb dX10_primary_193 ?_
            refine lv_topi (fun x_244 ex_244 => ?_)
            have lox_244x_146 := x_146.le_toInt
            have hix_244x_146 := x_146.toInt_lt
            have tx_244 : x_244.toInt = x_146.toInt - 19 := i_sub ex_244 rfl (by decide : (19 : Int32).toInt = 19) (by omega) (by omega)
            refine ti_callVv (ci := 10) (av := [.int 1, .int x_244]) C hw (s_X10_puts l D A cy hJ M_198 iM_198 a (d) (d + 1) 1 x_244 (us_q (x := 21) (y := 30) hu (pr_w q_201 (by decide) (by decide)) (by omega)) (nL (by omega)) (by first | exact Or.inr (Or.inr (Or.inr ⟨by decide, Or.inr ⟨by omega, by omega⟩, rfl⟩)) | exact nF (by omega))) ⟨ml_X10_282, ym_X10_puts, yv_X10_puts, yi_X10_puts, yc_X10_puts⟩ yd_X10_puts ob_60 (by decide) rfl rfl hl.1 (Nat.le_of_ble_eq_true rfl) ⟨by simp only [ti_rm]; omega, by simp only [ti_rm]; omega⟩ ⟨Nat.zero_le _, Nat.zero_le _⟩ dX10_primary_194 (fun M_295 H locs hp_295 hw => ?_)
            have hs_296 := rQ_pe hs_199 hp_295.2.1 hp_295.2.2.2.1
            obtain ⟨iM_295, q_297, u_298, z_299, z_300, z_301, z_302, z_303, z_304⟩ := l_pu iM_198 hp_295
            clear hp_295
            refine lv_aload_n hx hb dX10_primary_197 rfl (lv_at hl 1 rfl) ?_
            refine ti_callVvE (ci := 10) (av := []) C hE hw (x_X10_goOn l D A cy hJ M_295 iM_295  B n g_208 hs_296) ⟨ml_X10_267, ym_X10_goOn, yv_X10_goOn, yi_X10_goOn, yc_X10_goOn⟩ yd_X10_goOn ob_60 (by decide) rfl rfl hl.1 (Nat.le_of_ble_eq_true rfl) ⟨by simp only [ti_rm]; omega, by simp only [ti_rm]; omega⟩ ⟨Nat.zero_le _, Nat.zero_le _⟩ dX10_primary_198 (fun M_306 H locs hp_306 hw => ?_)
            obtain ⟨hs_307, hp_308⟩ := hp_306
            obtain ⟨iM_306, q_309, z_310, z_311, z_312, z_313, z_314⟩ := l_go hp_308
            clear hp_308
            obtain ⟨g_315, eg_315⟩ : ∃ z : Nat → Int, z = pp_go B n g_208 := ⟨_, rfl⟩
            rw [← eg_315] at hs_307
            exact hQ _ _ _ _ _ hw (⟨(by rw [pe_n dk_7, show pp_p0 B n rg = pp_kn B n rg from (by first | exact p0_k (rQ_T hr (by omega)) (by omega) (by omega) | exact p0_n (rQ_T hr (by omega)) (by omega) (by omega)), ← kn_kg (rQ_g0 hr (by omega)), ← eg_208, ← eg_315]; exact hs_307), iM_306, (pe.trans (pe_pr q_309 (by decide) (by decide)) (pe.trans q_297 (pe_pr q_201 (by decide) (by decide)))), (by omega), (by omega), (by omega), (by omega), (by omega), (by omega), (by omega), (by omega), (by omega), (by omega), (by omega), (by omega), (by omega), (us_q (x := 21) (y := 30) u_298 (pr_w q_309 (by decide) (by decide)) (by omega))⟩) dX10_primary_201
          · refine lv_aload_n hx hb dX10_primary_157 rfl (lv_at hl 1 rfl) ?_
            refine lv_iconst (v := 1) hx hb dX10_primary_158 (by decide) ?_
            refine ti_callVv (ci := 10) (av := [.int 1]) C hw (x_X10_wrong l D A cy hJ M hI 1 (by decide) B n rg hr) ⟨ml_X10_217, ym_X10_wrong, yv_X10_wrong, yi_X10_wrong, yc_X10_wrong⟩ yd_X10_wrong ob_60 (by decide) rfl rfl hl.1 (Nat.le_of_ble_eq_true rfl) ⟨by simp only [ti_rm]; omega, by simp only [ti_rm]; omega⟩ ⟨Nat.zero_le _, Nat.zero_le _⟩ dX10_primary_159 (fun M_161 H locs hp_161 hw => ?_)
            rw [show (1 : Int32).toInt = 1 by decide] at hp_161
            obtain ⟨hs_162, hp_163⟩ := hp_161
            obtain ⟨iM_161, q_164, z_165, z_166, z_167, z_168, z_169⟩ := l_wr hp_163
            clear hp_163
            obtain ⟨g_170, eg_170⟩ : ∃ z : Nat → Int, z = pp_rf 1 rg := ⟨_, rfl⟩
            rw [← eg_170] at hs_162
            refine lv_aload_n hx hb dX10_primary_162 rfl (lv_at hl 1 rfl) ?_
            refine ti_callVv (ci := 10) (av := []) C hw (x_X10_knot l D A cy hJ M_161 iM_161  B n g_170 hs_162) ⟨ml_X10_279, ym_X10_knot, yv_X10_knot, yi_X10_knot, yc_X10_knot⟩ yd_X10_knot ob_60 (by decide) rfl rfl hl.1 (Nat.le_of_ble_eq_true rfl) ⟨by simp only [ti_rm]; omega, by simp only [ti_rm]; omega⟩ ⟨Nat.zero_le _, Nat.zero_le _⟩ dX10_primary_163 (fun M_224 H locs hp_224 hw => ?_)
            obtain ⟨hs_225, hp_226⟩ := hp_224
            obtain ⟨iM_224, q_227, z_228, z_229, z_230, z_231, z_232, z_233⟩ := l_kn hp_226
            clear hp_226
            obtain ⟨g_234, eg_234⟩ : ∃ z : Nat → Int, z = pp_k1 g_170 := ⟨_, rfl⟩
            rw [← eg_234] at hs_225
            refine lv_aload_n hx hb dX10_primary_166 rfl (lv_at hl 1 rfl) ?_
            refine lv_iload_n hx hb dX10_primary_167 rfl (lv_at hl 0 rfl) ?_
            refine sb_if_eq (tgt := 175) hx hb (by decide : (0 : Int32).toInt = 0) dX10_primary_168 (by decide) (fun c_168_234 => ?_) (fun h => absurd h (by decide))
            refine lv_iconst (v := 1) hx hb dX10_primary_175 (by decide) ?_
            refine lv_iload_n hx hb dX10_primary_176 rfl (lv_at hl 0 rfl) ?_
            refine sb_if_eq (tgt := 187) hx hb (by decide : (0 : Int32).toInt = 0) dX10_primary_177 (by decide) (fun c_177_239 => ?_) (fun h => absurd h (by decide))
            refine lv_aload_n hx hb dX10_primary_187 rfl (lv_at hl 1 rfl) ?_
            refine ti_get (ci := 10) (k := 24) (N := 67) (T := TX10) C hw iw_10 rfl ob_60 (by decide) (by decide) fl_X10_183 rfl rfl dX10_primary_188 ?_
            refine ti_top (y := x_146) ((q_227.2 24 (by decide)).trans ((q_164.2 24 (by decide)).trans ex_146.symm)) ?_
            have uqu_248 : (tI M_224 60 24).toInt = x_146.toInt := by rw [((q_227.2 24 (by decide)).trans ((q_164.2 24 (by decide)).trans ex_146.symm))]
            refine lv_bipush (v := 19) hx hb dX10_primary_191 (by decide) ?_
            refine lv_isub hx hb dX10_primary_193 ?_
            refine lv_topi (fun x_249 ex_249 => ?_)
            refine ti_callVv (ci := 10) (av := [.int 1, .int x_249]) C hw (s_X10_puts l D A cy hJ M_224 iM_224 a (d) (d + 1) 1 x_249 (us_q (x := 21) (y := 30) hu (pr.trans (pr_w q_227 (by decide) (by decide)) (pr_w q_164 (by decide) (by decide))) (by omega)) (nL (by omega)) (by first | exact Or.inr (Or.inr (Or.inr ⟨by decide, Or.inr ⟨by omega, by omega⟩, rfl⟩)) | exact nF (by omega))) ⟨ml_X10_282, ym_X10_puts, yv_X10_puts, yi_X10_puts, yc_X10_puts⟩ yd_X10_puts ob_60 (by decide) rfl rfl hl.1 (Nat.le_of_ble_eq_true rfl) ⟨by simp only [ti_rm]; omega, by simp only [ti_rm]; omega⟩ ⟨Nat.zero_le _, Nat.zero_le _⟩ dX10_primary_194 (fun M_339 H locs hp_339 hw => ?_)
            have hs_340 := rQ_pe hs_225 hp_339.2.1 hp_339.2.2.2.1
            obtain ⟨iM_339, q_341, u_342, z_343, z_344, z_345, z_346, z_347, z_348⟩ := l_pu iM_224 hp_339
            clear hp_339
            refine lv_aload_n hx hb dX10_primary_197 rfl (lv_at hl 1 rfl) ?_
            refine ti_callVvE (ci := 10) (av := []) C hE hw (x_X10_goOn l D A cy hJ M_339 iM_339  B n g_234 hs_340) ⟨ml_X10_267, ym_X10_goOn, yv_X10_goOn, yi_X10_goOn, yc_X10_goOn⟩ yd_X10_goOn ob_60 (by decide) rfl rfl hl.1 (Nat.le_of_ble_eq_true rfl) ⟨by simp only [ti_rm]; omega, by simp only [ti_rm]; omega⟩ ⟨Nat.zero_le _, Nat.zero_le _⟩ dX10_primary_198 (fun M_350 H locs hp_350 hw => ?_)
            obtain ⟨hs_351, hp_352⟩ := hp_350
            obtain ⟨iM_350, q_353, z_354, z_355, z_356, z_357, z_358⟩ := l_go hp_352
            clear hp_352
            obtain ⟨g_359, eg_359⟩ : ∃ z : Nat → Int, z = pp_go B n g_234 := ⟨_, rfl⟩
            rw [← eg_359] at hs_351
            exact hQ _ _ _ _ _ hw (⟨(by have z := rQ_g1 hs_162 (by omega); have q : g_359 = g_170 := (by rw [eg_359, eg_234, k1_f z, go_f z]); rw [pe_n dk_7, show pp_p0 B n rg = g_170 from Eq.trans (by first | exact p0_2 (rQ_T hr (by omega)) (by omega) (by omega) | exact p0_1 (rQ_T hr (by omega)) (by omega) (by omega)) eg_170.symm, ← q]; exact hs_351), iM_350, (pe.trans (pe_pr q_353 (by decide) (by decide)) (pe.trans q_341 (pe.trans (pe_pr q_227 (by decide) (by decide)) (pe_pr q_164 (by decide) (by decide))))), (by omega), (by omega), (by omega), (by omega), (by omega), (by omega), (by omega), (by omega), (by omega), (by omega), (by omega), (by omega), (by omega), (us_q (x := 21) (y := 30) u_342 (pr_w q_353 (by decide) (by decide)) (by omega))⟩) dX10_primary_201
      · refine lv_iconst (v := 1) hx hb dX10_primary_109 (by decide) ?_
        refine lv_goto (tgt := 114) hx hb dX10_primary_110 (by decide) ?_
        refine lv_istore_n (lv' := [(1, .int 1), (0, .ref (A 60 0))]) hx hb dX10_primary_114 rfl hl (by decide) rfl (fun ls hl => ?_)
        refine lv_iload_n hx hb dX10_primary_115 rfl (lv_at hl 0 rfl) ?_
        refine sb_if_eq (tgt := 137) hx hb (by decide : (1 : Int32).toInt = 1) dX10_primary_116 (by decide) (fun h => absurd h (by decide)) (fun c_116_125 => ?_)
        refine lv_aload_n hx hb dX10_primary_119 rfl (lv_at hl 1 rfl) ?_
        refine ti_get (ci := 10) (k := 24) (N := 67) (T := TX10) C hw iw_10 rfl ob_60 (by decide) (by decide) fl_X10_183 rfl rfl dX10_primary_120 ?_
        refine lv_topi (fun x_128 ex_128 => ?_)
        have uqu_129 : (tI M 60 24).toInt = x_128.toInt := by rw [(ex_128.symm)]
        refine lv_sipush (v := 9999) hx hb dX10_primary_123 (by decide) ?_
        refine sb_icmp_le (tgt := 137) hx hb rfl (by decide : (9999 : Int32).toInt = 9999) dX10_primary_126 (by decide) (fun c_126_129 => ?_) (fun c_126_129 => ?_)
        · refine lv_iload_n hx hb dX10_primary_137 rfl (lv_at hl 0 rfl) ?_
          refine sb_if_ne (tgt := 162) hx hb (by decide : (1 : Int32).toInt = 1) dX10_primary_138 (by decide) (fun c_138_142 => ?_) (fun h => absurd h (by decide))
          refine lv_aload_n hx hb dX10_primary_162 rfl (lv_at hl 1 rfl) ?_
          refine ti_callVv (ci := 10) (av := []) C hw (x_X10_knot l D A cy hJ M hI  B n rg hr) ⟨ml_X10_279, ym_X10_knot, yv_X10_knot, yi_X10_knot, yc_X10_knot⟩ yd_X10_knot ob_60 (by decide) rfl rfl hl.1 (Nat.le_of_ble_eq_true rfl) ⟨by simp only [ti_rm]; omega, by simp only [ti_rm]; omega⟩ ⟨Nat.zero_le _, Nat.zero_le _⟩ dX10_primary_163 (fun M_185 H locs hp_185 hw => ?_)
          obtain ⟨hs_186, hp_187⟩ := hp_185
          obtain ⟨iM_185, q_188, z_189, z_190, z_191, z_192, z_193, z_194⟩ := l_kn hp_187
          clear hp_187
          obtain ⟨g_195, eg_195⟩ : ∃ z : Nat → Int, z = pp_k1 rg := ⟨_, rfl⟩
          rw [← eg_195] at hs_186
          refine lv_aload_n hx hb dX10_primary_166 rfl (lv_at hl 1 rfl) ?_
          refine lv_iload_n hx hb dX10_primary_167 rfl (lv_at hl 0 rfl) ?_
          refine sb_if_eq (tgt := 175) hx hb (by decide : (1 : Int32).toInt = 1) dX10_primary_168 (by decide) (fun h => absurd h (by decide)) (fun c_168_195 => ?_)
          refine lv_iconst (v := 0) hx hb dX10_primary_171 (by decide) ?_
          refine lv_goto (tgt := 176) hx hb dX10_primary_172 (by decide) ?_
          refine lv_iload_n hx hb dX10_primary_176 rfl (lv_at hl 0 rfl) ?_
          refine sb_if_eq (tgt := 187) hx hb (by decide : (1 : Int32).toInt = 1) dX10_primary_177 (by decide) (fun h => absurd h (by decide)) (fun c_177_236 => ?_)
          refine lv_aload_n hx hb dX10_primary_180 rfl (lv_at hl 1 rfl) ?_
          refine ti_get (ci := 10) (k := 24) (N := 67) (T := TX10) C hw iw_10 rfl ob_60 (by decide) (by decide) fl_X10_183 rfl rfl dX10_primary_181 ?_
          refine ti_top (y := x_128) ((q_188.2 24 (by decide)).trans ex_128.symm) ?_
          have uqu_242 : (tI M_185 60 24).toInt = x_128.toInt := by rw [((q_188.2 24 (by decide)).trans ex_128.symm)]
          refine lv_goto (tgt := 194) hx hb dX10_primary_184 (by decide) ?_
          refine ti_callVv (ci := 10) (av := [.int 0, .int x_128]) C hw (s_X10_puts l D A cy hJ M_185 iM_185 a (d) (d + 1) 0 x_128 (us_q (x := 21) (y := 30) hu (pr_w q_188 (by decide) (by decide)) (by omega)) (nL (by omega)) (by first | exact Or.inr (Or.inr (Or.inr ⟨by decide, Or.inl (by decide), rfl⟩)) | exact nF (by omega))) ⟨ml_X10_282, ym_X10_puts, yv_X10_puts, yi_X10_puts, yc_X10_puts⟩ yd_X10_puts ob_60 (by decide) rfl rfl hl.1 (Nat.le_of_ble_eq_true rfl) ⟨by simp only [ti_rm]; omega, by simp only [ti_rm]; omega⟩ ⟨Nat.zero_le _, Nat.zero_le _⟩ dX10_primary_194 (fun M_273 H locs hp_273 hw => ?_)
          have hs_274 := rQ_pe hs_186 hp_273.2.1 hp_273.2.2.2.1
          obtain ⟨iM_273, q_275, u_276, z_277, z_278, z_279, z_280, z_281, z_282⟩ := l_pu iM_185 hp_273
          clear hp_273
          refine lv_aload_n hx hb dX10_primary_197 rfl (lv_at hl 1 rfl) ?_
          refine ti_callVvE (ci := 10) (av := []) C hE hw (x_X10_goOn l D A cy hJ M_273 iM_273  B n g_195 hs_274) ⟨ml_X10_267, ym_X10_goOn, yv_X10_goOn, yi_X10_goOn, yc_X10_goOn⟩ yd_X10_goOn ob_60 (by decide) rfl rfl hl.1 (Nat.le_of_ble_eq_true rfl) ⟨by simp only [ti_rm]; omega, by simp only [ti_rm]; omega⟩ ⟨Nat.zero_le _, Nat.zero_le _⟩ dX10_primary_198 (fun M_284 H locs hp_284 hw => ?_)
          obtain ⟨hs_285, hp_286⟩ := hp_284
          obtain ⟨iM_284, q_287, z_288, z_289, z_290, z_291, z_292⟩ := l_go hp_286
          clear hp_286
          obtain ⟨g_293, eg_293⟩ : ∃ z : Nat → Int, z = pp_go B n g_195 := ⟨_, rfl⟩
          rw [← eg_293] at hs_285
          exact hQ _ _ _ _ _ hw (⟨(by rw [pe_n dk_7, show pp_p0 B n rg = pp_kn B n rg from (by first | exact p0_k (rQ_T hr (by omega)) (by omega) (by omega) | exact p0_n (rQ_T hr (by omega)) (by omega) (by omega)), ← kn_kg (rQ_g0 hr (by omega)), ← eg_195, ← eg_293]; exact hs_285), iM_284, (pe.trans (pe_pr q_287 (by decide) (by decide)) (pe.trans q_275 (pe_pr q_188 (by decide) (by decide)))), (by omega), (by omega), (by omega), (by omega), (by omega), (by omega), (by omega), (by omega), (by omega), (by omega), (by omega), (by omega), (by omega), (us_q (x := 21) (y := 30) u_276 (pr_w q_287 (by decide) (by decide)) (by omega))⟩) dX10_primary_201
        · refine lv_aload_n hx hb dX10_primary_129 rfl (lv_at hl 1 rfl) ?_
          refine lv_iconst (v := 2) hx hb dX10_primary_130 (by decide) ?_
          refine ti_callVv (ci := 10) (av := [.int 2]) C hw (x_X10_wrong l D A cy hJ M hI 2 (by decide) B n rg hr) ⟨ml_X10_217, ym_X10_wrong, yv_X10_wrong, yi_X10_wrong, yc_X10_wrong⟩ yd_X10_wrong ob_60 (by decide) rfl rfl hl.1 (Nat.le_of_ble_eq_true rfl) ⟨by simp only [ti_rm]; omega, by simp only [ti_rm]; omega⟩ ⟨Nat.zero_le _, Nat.zero_le _⟩ dX10_primary_131 (fun M_132 H locs hp_132 hw => ?_)
          rw [show (2 : Int32).toInt = 2 by decide] at hp_132
          obtain ⟨hs_133, hp_134⟩ := hp_132
          obtain ⟨iM_132, q_135, z_136, z_137, z_138, z_139, z_140⟩ := l_wr hp_134
          clear hp_134
          obtain ⟨g_141, eg_141⟩ : ∃ z : Nat → Int, z = pp_rf 2 rg := ⟨_, rfl⟩
          rw [← eg_141] at hs_133
          refine lv_goto (tgt := 162) hx hb dX10_primary_134 (by decide) ?_
          refine lv_aload_n hx hb dX10_primary_162 rfl (lv_at hl 1 rfl) ?_
          refine ti_callVv (ci := 10) (av := []) C hw (x_X10_knot l D A cy hJ M_132 iM_132  B n g_141 hs_133) ⟨ml_X10_279, ym_X10_knot, yv_X10_knot, yi_X10_knot, yc_X10_knot⟩ yd_X10_knot ob_60 (by decide) rfl rfl hl.1 (Nat.le_of_ble_eq_true rfl) ⟨by simp only [ti_rm]; omega, by simp only [ti_rm]; omega⟩ ⟨Nat.zero_le _, Nat.zero_le _⟩ dX10_primary_163 (fun M_172 H locs hp_172 hw => ?_)
          obtain ⟨hs_173, hp_174⟩ := hp_172
          obtain ⟨iM_172, q_175, z_176, z_177, z_178, z_179, z_180, z_181⟩ := l_kn hp_174
          clear hp_174
          obtain ⟨g_182, eg_182⟩ : ∃ z : Nat → Int, z = pp_k1 g_141 := ⟨_, rfl⟩
          rw [← eg_182] at hs_173
          refine lv_aload_n hx hb dX10_primary_166 rfl (lv_at hl 1 rfl) ?_
          refine lv_iload_n hx hb dX10_primary_167 rfl (lv_at hl 0 rfl) ?_
          refine sb_if_eq (tgt := 175) hx hb (by decide : (1 : Int32).toInt = 1) dX10_primary_168 (by decide) (fun h => absurd h (by decide)) (fun c_168_182 => ?_)
          refine lv_iconst (v := 0) hx hb dX10_primary_171 (by decide) ?_
          refine lv_goto (tgt := 176) hx hb dX10_primary_172 (by decide) ?_
          refine lv_iload_n hx hb dX10_primary_176 rfl (lv_at hl 0 rfl) ?_
          refine sb_if_eq (tgt := 187) hx hb (by decide : (1 : Int32).toInt = 1) dX10_primary_177 (by decide) (fun h => absurd h (by decide)) (fun c_177_235 => ?_)
          refine lv_aload_n hx hb dX10_primary_180 rfl (lv_at hl 1 rfl) ?_
          refine ti_get (ci := 10) (k := 24) (N := 67) (T := TX10) C hw iw_10 rfl ob_60 (by decide) (by decide) fl_X10_183 rfl rfl dX10_primary_181 ?_
          refine ti_top (y := x_128) ((q_175.2 24 (by decide)).trans ((q_135.2 24 (by decide)).trans ex_128.symm)) ?_
          have uqu_241 : (tI M_172 60 24).toInt = x_128.toInt := by rw [((q_175.2 24 (by decide)).trans ((q_135.2 24 (by decide)).trans ex_128.symm))]
          refine lv_goto (tgt := 194) hx hb dX10_primary_184 (by decide) ?_
          refine ti_callVv (ci := 10) (av := [.int 0, .int x_128]) C hw (s_X10_puts l D A cy hJ M_172 iM_172 a (d) (d + 1) 0 x_128 (us_q (x := 21) (y := 30) hu (pr.trans (pr_w q_175 (by decide) (by decide)) (pr_w q_135 (by decide) (by decide))) (by omega)) (nL (by omega)) (by first | exact Or.inr (Or.inr (Or.inr ⟨by decide, Or.inl (by decide), rfl⟩)) | exact nF (by omega))) ⟨ml_X10_282, ym_X10_puts, yv_X10_puts, yi_X10_puts, yc_X10_puts⟩ yd_X10_puts ob_60 (by decide) rfl rfl hl.1 (Nat.le_of_ble_eq_true rfl) ⟨by simp only [ti_rm]; omega, by simp only [ti_rm]; omega⟩ ⟨Nat.zero_le _, Nat.zero_le _⟩ dX10_primary_194 (fun M_251 H locs hp_251 hw => ?_)
          have hs_252 := rQ_pe hs_173 hp_251.2.1 hp_251.2.2.2.1
          obtain ⟨iM_251, q_253, u_254, z_255, z_256, z_257, z_258, z_259, z_260⟩ := l_pu iM_172 hp_251
          clear hp_251
          refine lv_aload_n hx hb dX10_primary_197 rfl (lv_at hl 1 rfl) ?_
          refine ti_callVvE (ci := 10) (av := []) C hE hw (x_X10_goOn l D A cy hJ M_251 iM_251  B n g_182 hs_252) ⟨ml_X10_267, ym_X10_goOn, yv_X10_goOn, yi_X10_goOn, yc_X10_goOn⟩ yd_X10_goOn ob_60 (by decide) rfl rfl hl.1 (Nat.le_of_ble_eq_true rfl) ⟨by simp only [ti_rm]; omega, by simp only [ti_rm]; omega⟩ ⟨Nat.zero_le _, Nat.zero_le _⟩ dX10_primary_198 (fun M_262 H locs hp_262 hw => ?_)
          obtain ⟨hs_263, hp_264⟩ := hp_262
          obtain ⟨iM_262, q_265, z_266, z_267, z_268, z_269, z_270⟩ := l_go hp_264
          clear hp_264
          obtain ⟨g_271, eg_271⟩ : ∃ z : Nat → Int, z = pp_go B n g_182 := ⟨_, rfl⟩
          rw [← eg_271] at hs_263
          exact hQ _ _ _ _ _ hw (⟨(by have z := rQ_g1 hs_133 (by omega); have q : g_271 = g_141 := (by rw [eg_271, eg_182, k1_f z, go_f z]); rw [pe_n dk_7, show pp_p0 B n rg = g_141 from Eq.trans (by first | exact p0_2 (rQ_T hr (by omega)) (by omega) (by omega) | exact p0_1 (rQ_T hr (by omega)) (by omega) (by omega)) eg_141.symm, ← q]; exact hs_263), iM_262, (pe.trans (pe_pr q_265 (by decide) (by decide)) (pe.trans q_253 (pe.trans (pe_pr q_175 (by decide) (by decide)) (pe_pr q_135 (by decide) (by decide))))), (by omega), (by omega), (by omega), (by omega), (by omega), (by omega), (by omega), (by omega), (by omega), (by omega), (by omega), (by omega), (by omega), (us_q (x := 21) (y := 30) u_254 (pr_w q_265 (by decide) (by decide)) (by omega))⟩) dX10_primary_201
  · have z_4 : ff M = 0 := ff_0 (fun h => c_4_2 (ufx_1.symm.trans h))
    clear c_4_2
    exact hQ _ _ _ _ _ hw (⟨(rQ_f hr (rQ_g1 hr (by omega)) (pt_f (rQ_z hr (rQ_g1 hr (by omega))))), hI, pe.refl, (by omega), (by omega), (by omega), (by omega), (by omega), (by omega), (by omega), (by omega), (by omega), (by omega), (by omega), (by omega), (by omega), us_f (by omega)⟩) dX10_primary_7
set_option maxHeartbeats 4000000 in
set_option maxRecDepth 100000 in
theorem x_X10_product (l : Launch) (D : va_G) (A : Nat → Nat → Nat) (cy : Nat → ClassId) (hJ : ti_inj ti_LM A) (M : ti_M) (hI : mI Tm M) (j a d : Nat) (hj : j ≤ 8) (hu : us M a d) (hc : (tY M 60 3 18).toInt ≤ (tI M 60 30).toInt + 64 - 64 * ff M) (ho : (tI M 60 29).toInt + j ≤ 16 - 8 * ff M) (ho2 : 8 * ff M ≤ (tI M 60 29).toInt + j) (B : Nat → Int) (n : Nat) (rg : Nat → Int) (hr : rQ B n rg M) (ih : ∀ i : Nat, i < j → ∀ (l : Launch) (D : va_G) (A : Nat → Nat → Nat) (cy : Nat → ClassId) (hJ : ti_inj ti_LM A) (M : ti_M) (hI : mI Tm M) (a d : Nat) (hj : i ≤ 8) (hu : us M a d) (hc : (tY M 60 3 18).toInt ≤ (tI M 60 30).toInt + 64 - 64 * ff M) (ho : (tI M 60 29).toInt + i ≤ 16 - 8 * ff M) (ho2 : 8 * ff M ≤ (tI M 60 29).toInt + i) (B : Nat → Int) (n : Nat) (rg : Nat → Int) (hr : rQ B n rg M), ti_KvE l yX10_expression cX10_expression 1 (78 + 71 * i) ti_LM D A cy M [.ref (A 60 0)] (fun M2 => rQ B n (pp_ei B n (pp_pt B n i) rg) M2 ∧ mI Tm M2 ∧ pe M2 M ∧ (pg M ≤ pg M2) ∧ (0 ≤ ff M2) ∧ (ff M2 ≤ ff M) ∧ ((tI M 60 30).toInt ≤ (tI M2 60 30).toInt) ∧ ((tI M2 60 30).toInt ≤ 64) ∧ ((tI M2 60 29).toInt ≤ (tI M 60 29).toInt + 8 - 8 * ff M2) ∧ ((tI M 60 29).toInt ≤ (tI M2 60 29).toInt + 8 - 8 * ff M2) ∧ ((tI M2 60 30).toInt - (tY M2 60 3 18).toInt ≤ (tI M 60 30).toInt - (tY M 60 3 18).toInt + 200 - 200 * ff M2) ∧ ((tI M 60 30).toInt - (tY M 60 3 18).toInt ≤ (tI M2 60 30).toInt - (tY M2 60 3 18).toInt + 200 - 200 * ff M2) ∧ (0 ≤ (tY M2 60 3 18).toInt) ∧ ((tY M2 60 3 18).toInt ≤ 64) ∧ (0 ≤ (tI M2 60 29).toInt) ∧ ((tI M2 60 29).toInt ≤ 8) ∧ us M2 a (d + 1))) : ti_KvE l yX10_product cX10_product 2 (9 + 71 * j) ti_LM D A cy M [.ref (A 60 0)] (fun M2 => rQ B n (pp_pd B n (pp_pt B n j) rg) M2 ∧ mI Tm M2 ∧ pe M2 M ∧ (pg M ≤ pg M2) ∧ (0 ≤ ff M2) ∧ (ff M2 ≤ ff M) ∧ ((tI M 60 30).toInt ≤ (tI M2 60 30).toInt) ∧ ((tI M2 60 30).toInt ≤ 64) ∧ ((tI M2 60 29).toInt ≤ (tI M 60 29).toInt + 8 - 8 * ff M2) ∧ ((tI M 60 29).toInt ≤ (tI M2 60 29).toInt + 8 - 8 * ff M2) ∧ ((tI M2 60 30).toInt - (tY M2 60 3 18).toInt ≤ (tI M 60 30).toInt - (tY M 60 3 18).toInt + 200 - 200 * ff M2) ∧ ((tI M 60 30).toInt - (tY M 60 3 18).toInt ≤ (tI M2 60 30).toInt - (tY M2 60 3 18).toInt + 200 - 200 * ff M2) ∧ (0 ≤ (tY M2 60 3 18).toInt) ∧ ((tY M2 60 3 18).toInt ≤ 64) ∧ (0 ≤ (tI M2 60 29).toInt) ∧ ((tI M2 60 29).toInt ≤ 8) ∧ us M2 a (d + 1)) := by
  refine ti_eVE yp_X10_product hJ ti_LM_nd (Nat.le_of_ble_eq_true rfl) ?_
  intro p e s m args below meth c Q H0 C hE hQ hw ls hl
  have hx := C.1
  have hb := C.2.1
  have hl : lv_has ls 2 [(0, .ref (A 60 0))] := hl
  have hI30 := b30 hI
  have hI29 := b29 hI
  have hI18 := b18 hI
  have hIff := ff_b M
  refine lv_aload_n hx hb dX10_product_0 rfl (lv_at hl 0 rfl) ?_
  refine ti_callVvE (ci := 10) (av := []) C hE hw (x_X10_primary l D A cy hJ M hI j a (d) (by omega) hu (by omega) (by omega) (by omega) B n rg hr ih) ⟨ml_X10_294, ym_X10_primary, yv_X10_primary, yi_X10_primary, yc_X10_primary⟩ yd_X10_primary ob_60 (by decide) rfl rfl hl.1 (Nat.le_of_ble_eq_true rfl) ⟨by simp only [ti_rm]; omega, by simp only [ti_rm]; omega⟩ ⟨Nat.zero_le _, Nat.zero_le _⟩ dX10_product_1 (fun M_2 H locs hp_2 hw => ?_)
  obtain ⟨hs_3, hp_4⟩ := hp_2
  obtain ⟨iM_2, q_5, p_6, p_7, p_8, p_9, p_10, p_11, p_12, p_13, p_14, p_15, p_16, p_17, p_18, u_19⟩ := hp_4
  obtain ⟨g_20, eg_20⟩ : ∃ z : Nat → Int, z = pp_pt B n j rg := ⟨_, rfl⟩
  rw [← eg_20] at hs_3
  have hl_4_40 : ∀ (n_41 : Nat) (M_21 : ti_M) (g_23 : Nat → Int) (H : Heap) (locs : List Loc) (ls : Array Slot), (64 - (tI M_21 60 30).toInt + ff M_21 : Int).toNat < n_41 → (mI Tm M_21) → (pe M_21 M) → (rQ B n g_23 M_21) → (us M_21 a (d + 1)) → (pp_pd B n (pp_pt B n j) rg = pp_lp pp_qT (fun s => pp_pt B n j (pp_kn B n s)) 64 g_23) → (g_23 0 = 28 ∨ (1 ≤ g_23 8 ∧ g_23 8 ≤ 64)) → (pg M ≤ pg M_21) → (0 ≤ ff M_21) → (ff M_21 ≤ ff M) → ((tI M 60 30).toInt ≤ (tI M_21 60 30).toInt) → ((tI M_21 60 30).toInt ≤ 64) → ((tI M_21 60 29).toInt ≤ (tI M 60 29).toInt + 8 - 8 * ff M_21) → ((tI M 60 29).toInt ≤ (tI M_21 60 29).toInt + 8 - 8 * ff M_21) → ((tI M_21 60 30).toInt - (tY M_21 60 3 18).toInt ≤ (tI M 60 30).toInt - (tY M 60 3 18).toInt + 200 - 200 * ff M_21) → ((tI M 60 30).toInt - (tY M 60 3 18).toInt ≤ (tI M_21 60 30).toInt - (tY M_21 60 3 18).toInt + 200 - 200 * ff M_21) → (0 ≤ (tY M_21 60 3 18).toInt) → ((tY M_21 60 3 18).toInt ≤ 64) → (0 ≤ (tI M_21 60 29).toInt) → ((tI M_21 60 29).toInt ≤ 8) → ti_H ti_LM D A cy H0 M_21 H locs → lv_has ls 2 [(0, .ref (A 60 0))] → W p l e (ti_rm (9 + 71 * j)) s m args below meth c H locs 0 0 Q (F0 m 4 ls []) := by
    intro n_41
    induction n_41 with
    | zero => intro M_21 g_23 H locs ls hf_41; exact absurd hf_41 (Nat.not_lt_zero _)
    | succ n_41 ih_41 =>
      intro M_21 g_23 H locs ls hf_41 iM_21 f_22 hs_24 j_25 j_26 j_27 j_28 j_29 j_30 j_31 j_32 j_33 j_34 j_35 j_36 j_37 j_38 j_39 j_40 hw hl
      refine lv_aload_n hx hb dX10_product_4 rfl (lv_at hl 0 rfl) ?_
      refine lv_bipush (v := 42) hx hb dX10_product_5 (by decide) ?_
      refine ti_callVi (ci := 10) (av := [.int 42]) C hw (x_X10_isSign l D A cy hJ M_21 iM_21 42) ⟨ml_X10_251, ym_X10_isSign, yv_X10_isSign, yi_X10_isSign, yc_X10_isSign⟩ yd_X10_isSign ob_60 (by decide) rfl rfl hl.1 (Nat.le_of_ble_eq_true rfl) ⟨by simp only [ti_rm]; omega, by simp only [ti_rm]; omega⟩ ⟨Nat.zero_le _, Nat.zero_le _⟩ dX10_product_7 (fun r_42 M_43 H locs hp_43 hw => ?_)
      obtain ⟨hm, hz⟩ := hp_43
      have hw := hw.to hm
      have hj_22_58 : ∀  (H : Heap) (locs : List Loc) (ls : Array Slot), (ff M_21 = 1) → (g_23 0 ≠ 28) → (pp_qT (g_23 0) = true) → ti_H ti_LM D A cy H0 M_21 H locs → lv_has ls 2 [(0, .ref (A 60 0))] → W p l e (ti_rm (9 + 71 * j)) s m args below meth c H locs 0 0 Q (F0 m 22 ls []) := by
        intro  H locs ls j_56 j_57 j_58 hw hl
        refine lv_aload_n hx hb dX10_product_22 rfl (lv_at hl 0 rfl) ?_
        refine ti_get (ci := 10) (k := 24) (N := 67) (T := TX10) C hw iw_10 rfl ob_60 (by decide) (by decide) fl_X10_183 rfl rfl dX10_product_23 ?_
        refine lv_topi (fun x_59 ex_59 => ?_)
        have uqu_60 : (tI M_21 60 24).toInt = x_59.toInt := by rw [(ex_59.symm)]
        refine lv_istore_n (lv' := [(1, .int x_59), (0, .ref (A 60 0))]) hx hb dX10_product_26 rfl hl (by decide) rfl (fun ls hl => ?_)
        refine lv_aload_n hx hb dX10_product_27 rfl (lv_at hl 1 rfl) ?_
        refine ti_callVv (ci := 10) (av := []) C hw (x_X10_knot l D A cy hJ M_21 iM_21  B n g_23 hs_24) ⟨ml_X10_279, ym_X10_knot, yv_X10_knot, yi_X10_knot, yc_X10_knot⟩ yd_X10_knot ob_60 (by decide) rfl rfl hl.1 (Nat.le_of_ble_eq_true rfl) ⟨by simp only [ti_rm]; omega, by simp only [ti_rm]; omega⟩ ⟨Nat.zero_le _, Nat.zero_le _⟩ dX10_product_28 (fun M_62 H locs hp_62 hw => ?_)
        obtain ⟨hs_63, hp_64⟩ := hp_62
        obtain ⟨iM_62, q_65, z_66, z_67, z_68, z_69, z_70, z_71⟩ := l_kn hp_64
        clear hp_64
        obtain ⟨g_72, eg_72⟩ : ∃ z : Nat → Int, z = pp_k1 g_23 := ⟨_, rfl⟩
        rw [← eg_72] at hs_63
        refine lv_aload_n hx hb dX10_product_31 rfl (lv_at hl 1 rfl) ?_
        refine ti_callVvE (ci := 10) (av := []) C hE hw (x_X10_goOn l D A cy hJ M_62 iM_62  B n g_72 hs_63) ⟨ml_X10_267, ym_X10_goOn, yv_X10_goOn, yi_X10_goOn, yc_X10_goOn⟩ yd_X10_goOn ob_60 (by decide) rfl rfl hl.1 (Nat.le_of_ble_eq_true rfl) ⟨by simp only [ti_rm]; omega, by simp only [ti_rm]; omega⟩ ⟨Nat.zero_le _, Nat.zero_le _⟩ dX10_product_32 (fun M_74 H locs hp_74 hw => ?_)
        obtain ⟨hs_75, hp_76⟩ := hp_74
        obtain ⟨iM_74, q_77, z_78, z_79, z_80, z_81, z_82⟩ := l_go hp_76
        clear hp_76
        obtain ⟨g_83, eg_83⟩ : ∃ z : Nat → Int, z = pp_go B n g_72 := ⟨_, rfl⟩
        rw [← eg_83] at hs_75
        refine lv_aload_n hx hb dX10_product_35 rfl (lv_at hl 1 rfl) ?_
        refine ti_callVvE (ci := 10) (av := []) C hE hw (x_X10_primary l D A cy hJ M_74 iM_74 j a (d + 1) (by omega) (us_q (x := 21) (y := 30) j_25 (pr.trans (pr_w q_77 (by decide) (by decide)) (pr_w q_65 (by decide) (by decide))) (by omega)) (by omega) (by omega) (by omega) B n g_83 hs_75 ih) ⟨ml_X10_294, ym_X10_primary, yv_X10_primary, yi_X10_primary, yc_X10_primary⟩ yd_X10_primary ob_60 (by decide) rfl rfl hl.1 (Nat.le_of_ble_eq_true rfl) ⟨by simp only [ti_rm]; omega, by simp only [ti_rm]; omega⟩ ⟨Nat.zero_le _, Nat.zero_le _⟩ dX10_product_36 (fun M_85 H locs hp_85 hw => ?_)
        obtain ⟨hs_86, hp_87⟩ := hp_85
        obtain ⟨iM_85, q_88, p_89, p_90, p_91, p_92, p_93, p_94, p_95, p_96, p_97, p_98, p_99, p_100, p_101, u_102⟩ := hp_87
        obtain ⟨g_103, eg_103⟩ : ∃ z : Nat → Int, z = pp_pt B n j g_83 := ⟨_, rfl⟩
        rw [← eg_103] at hs_86
        refine lv_aload_n hx hb dX10_product_39 rfl (lv_at hl 1 rfl) ?_
        refine lv_iconst (v := 2) hx hb dX10_product_40 (by decide) ?_
        refine lv_iload_n hx hb dX10_product_41 rfl (lv_at hl 0 rfl) ?_
        refine ti_callVv (ci := 10) (av := [.int 2, .int x_59]) C hw (s_X10_puts l D A cy hJ M_85 iM_85 a (d + 1 + 1) (d + 1) 2 x_59 u_102 (nL (by omega)) (by first | exact Or.inr (Or.inr (Or.inl ⟨by decide, by omega, rfl⟩)) | exact nF (by omega))) ⟨ml_X10_282, ym_X10_puts, yv_X10_puts, yi_X10_puts, yc_X10_puts⟩ yd_X10_puts ob_60 (by decide) rfl rfl hl.1 (Nat.le_of_ble_eq_true rfl) ⟨by simp only [ti_rm]; omega, by simp only [ti_rm]; omega⟩ ⟨Nat.zero_le _, Nat.zero_le _⟩ dX10_product_42 (fun M_105 H locs hp_105 hw => ?_)
        have hs_106 := rQ_pe hs_86 hp_105.2.1 hp_105.2.2.2.1
        obtain ⟨iM_105, q_107, u_108, z_109, z_110, z_111, z_112, z_113, z_114⟩ := l_pu iM_85 hp_105
        clear hp_105
        refine lv_goto (tgt := 4) hx hb dX10_product_45 (by decide) ?_
        exact ih_41 M_105 g_103 _ _ _ (by omega) iM_105 (pe.trans q_107 (pe.trans q_88 (pe.trans (pe_pr q_77 (by decide) (by decide)) (pe.trans (pe_pr q_65 (by decide) (by decide)) f_22)))) hs_106 u_108 (j_26.trans (lp_nx (P := pp_qT) (G := fun s => pp_pt B n j (pp_kn B n s)) (s := g_23) (by decide) (gr_kn (gr_pt j)) 63 j_58 (by rw [eg_103, eg_83, eg_72, kn_kg (rQ_g0 hs_24 (by omega))]) (by omega) (by omega))) (by rw [eg_103]; exact rQ_gr (gr_pt j) hs_75 iM_74) (by first | omega | decide) (by first | omega | decide) (by first | omega | decide) (by first | omega | decide) (by first | omega | decide) (by first | omega | decide) (by first | omega | decide) (by first | omega | decide) (by first | omega | decide) (by first | omega | decide) (by first | omega | decide) (by first | omega | decide) (by first | omega | decide) hw (lv_sub hl [1] rfl)
      rcases hz with ⟨rfl, d0_44, d1_44, d2_44⟩ | ⟨rfl, d3_44⟩
      · have dk_44 := rQ_s1 (k := 40) hs_24 d0_44 d1_44 d2_44 (by decide)
        have z_45 : ff M_21 = 1 := ff_1 d0_44
        have z_46 : pg M_21 = 2 * (tI M_21 60 21).toInt := pg_3 (by rw [d1_44]; decide)
        clear d0_44 d1_44 d2_44
        refine sb_if_ne (tgt := 22) hx hb (by decide : (1 : Int32).toInt = 1) dX10_product_10 (by decide) (fun c_10_46 => ?_) (fun h => absurd h (by decide))
        exact hj_22_58  _ _ _ (by first | omega | decide) (by first | omega | decide) (show pp_qT (g_23 0) = true from decide_eq_true (by omega)) hw (lv_sub hl [0] rfl)
      · have dk_44 := rQ_s0 (k := 40) hs_24 d3_44 (by decide) (by decide)
        clear d3_44
        refine sb_if_ne (tgt := 22) hx hb (by decide : (0 : Int32).toInt = 0) dX10_product_10 (by decide) (fun h => absurd h (by decide)) (fun c_10_47 => ?_)
        refine lv_aload_n hx hb dX10_product_13 rfl (lv_at hl 0 rfl) ?_
        refine lv_bipush (v := 47) hx hb dX10_product_14 (by decide) ?_
        refine ti_callVi (ci := 10) (av := [.int 47]) C hw (x_X10_isSign l D A cy hJ M_21 iM_21 47) ⟨ml_X10_251, ym_X10_isSign, yv_X10_isSign, yi_X10_isSign, yc_X10_isSign⟩ yd_X10_isSign ob_60 (by decide) rfl rfl hl.1 (Nat.le_of_ble_eq_true rfl) ⟨by simp only [ti_rm]; omega, by simp only [ti_rm]; omega⟩ ⟨Nat.zero_le _, Nat.zero_le _⟩ dX10_product_16 (fun r_49 M_50 H locs hp_50 hw => ?_)
        obtain ⟨hm, hz⟩ := hp_50
        have hw := hw.to hm
        rcases hz with ⟨rfl, d0_51, d1_51, d2_51⟩ | ⟨rfl, d3_51⟩
        · have dk_51 := rQ_s1 (k := 41) hs_24 d0_51 d1_51 d2_51 (by decide)
          have z_52 : ff M_21 = 1 := ff_1 d0_51
          have z_53 : pg M_21 = 2 * (tI M_21 60 21).toInt := pg_3 (by rw [d1_51]; decide)
          clear d0_51 d1_51 d2_51
          refine sb_if_eq (tgt := 48) hx hb (by decide : (1 : Int32).toInt = 1) dX10_product_19 (by decide) (fun h => absurd h (by decide)) (fun c_19_53 => ?_)
          exact hj_22_58  _ _ _ (by first | omega | decide) (by first | omega | decide) (show pp_qT (g_23 0) = true from decide_eq_true (by omega)) hw (lv_sub hl [0] rfl)
        · have dk_51 := rQ_s0 (k := 41) hs_24 d3_51 (by decide) (by decide)
          clear d3_51
          refine sb_if_eq (tgt := 48) hx hb (by decide : (0 : Int32).toInt = 0) dX10_product_19 (by decide) (fun c_19_54 => ?_) (fun h => absurd h (by decide))
          exact hQ _ _ _ _ _ hw (⟨(by rw [j_26, lp_end (P := pp_qT) (f := 64) (s := g_23) (Or.inr (decide_eq_false (by omega)))]; exact hs_24), iM_21, f_22, (by omega), (by omega), (by omega), (by omega), (by omega), (by omega), (by omega), (by omega), (by omega), (by omega), (by omega), (by omega), (by omega), j_25⟩) dX10_product_48
  exact hl_4_40 ((64 - (tI M_2 60 30).toInt + ff M_2 : Int).toNat + 1) M_2 g_20 _ _ _ (Nat.lt_succ_self _) iM_2 q_5 hs_3 u_19 (by unfold pp_pd; rw [← eg_20]) (by rw [eg_20]; exact rQ_gr (gr_pt j) hr hI) (by first | omega | decide) (by first | omega | decide) (by first | omega | decide) (by first | omega | decide) (by first | omega | decide) (by first | omega | decide) (by first | omega | decide) (by first | omega | decide) (by first | omega | decide) (by first | omega | decide) (by first | omega | decide) (by first | omega | decide) (by first | omega | decide) hw (lv_sub hl [0] rfl)
set_option maxHeartbeats 4000000 in
set_option maxRecDepth 100000 in
theorem x_X10_sum (l : Launch) (D : va_G) (A : Nat → Nat → Nat) (cy : Nat → ClassId) (hJ : ti_inj ti_LM A) (M : ti_M) (hI : mI Tm M) (j a d : Nat) (hj : j ≤ 8) (hu : us M a d) (hc : (tY M 60 3 18).toInt ≤ (tI M 60 30).toInt + 64 - 64 * ff M) (ho : (tI M 60 29).toInt + j ≤ 16 - 8 * ff M) (ho2 : 8 * ff M ≤ (tI M 60 29).toInt + j) (B : Nat → Int) (n : Nat) (rg : Nat → Int) (hr : rQ B n rg M) (ih : ∀ i : Nat, i < j → ∀ (l : Launch) (D : va_G) (A : Nat → Nat → Nat) (cy : Nat → ClassId) (hJ : ti_inj ti_LM A) (M : ti_M) (hI : mI Tm M) (a d : Nat) (hj : i ≤ 8) (hu : us M a d) (hc : (tY M 60 3 18).toInt ≤ (tI M 60 30).toInt + 64 - 64 * ff M) (ho : (tI M 60 29).toInt + i ≤ 16 - 8 * ff M) (ho2 : 8 * ff M ≤ (tI M 60 29).toInt + i) (B : Nat → Int) (n : Nat) (rg : Nat → Int) (hr : rQ B n rg M), ti_KvE l yX10_expression cX10_expression 1 (78 + 71 * i) ti_LM D A cy M [.ref (A 60 0)] (fun M2 => rQ B n (pp_ei B n (pp_pt B n i) rg) M2 ∧ mI Tm M2 ∧ pe M2 M ∧ (pg M ≤ pg M2) ∧ (0 ≤ ff M2) ∧ (ff M2 ≤ ff M) ∧ ((tI M 60 30).toInt ≤ (tI M2 60 30).toInt) ∧ ((tI M2 60 30).toInt ≤ 64) ∧ ((tI M2 60 29).toInt ≤ (tI M 60 29).toInt + 8 - 8 * ff M2) ∧ ((tI M 60 29).toInt ≤ (tI M2 60 29).toInt + 8 - 8 * ff M2) ∧ ((tI M2 60 30).toInt - (tY M2 60 3 18).toInt ≤ (tI M 60 30).toInt - (tY M 60 3 18).toInt + 200 - 200 * ff M2) ∧ ((tI M 60 30).toInt - (tY M 60 3 18).toInt ≤ (tI M2 60 30).toInt - (tY M2 60 3 18).toInt + 200 - 200 * ff M2) ∧ (0 ≤ (tY M2 60 3 18).toInt) ∧ ((tY M2 60 3 18).toInt ≤ 64) ∧ (0 ≤ (tI M2 60 29).toInt) ∧ ((tI M2 60 29).toInt ≤ 8) ∧ us M2 a (d + 1))) : ti_KvE l yX10_sum cX10_sum 2 (10 + 71 * j) ti_LM D A cy M [.ref (A 60 0)] (fun M2 => rQ B n (pp_sm B n (pp_pt B n j) rg) M2 ∧ mI Tm M2 ∧ pe M2 M ∧ (pg M ≤ pg M2) ∧ (0 ≤ ff M2) ∧ (ff M2 ≤ ff M) ∧ ((tI M 60 30).toInt ≤ (tI M2 60 30).toInt) ∧ ((tI M2 60 30).toInt ≤ 64) ∧ ((tI M2 60 29).toInt ≤ (tI M 60 29).toInt + 8 - 8 * ff M2) ∧ ((tI M 60 29).toInt ≤ (tI M2 60 29).toInt + 8 - 8 * ff M2) ∧ ((tI M2 60 30).toInt - (tY M2 60 3 18).toInt ≤ (tI M 60 30).toInt - (tY M 60 3 18).toInt + 200 - 200 * ff M2) ∧ ((tI M 60 30).toInt - (tY M 60 3 18).toInt ≤ (tI M2 60 30).toInt - (tY M2 60 3 18).toInt + 200 - 200 * ff M2) ∧ (0 ≤ (tY M2 60 3 18).toInt) ∧ ((tY M2 60 3 18).toInt ≤ 64) ∧ (0 ≤ (tI M2 60 29).toInt) ∧ ((tI M2 60 29).toInt ≤ 8) ∧ us M2 a (d + 1)) := by
  refine ti_eVE yp_X10_sum hJ ti_LM_nd (Nat.le_of_ble_eq_true rfl) ?_
  intro p e s m args below meth c Q H0 C hE hQ hw ls hl
  have hx := C.1
  have hb := C.2.1
  have hl : lv_has ls 2 [(0, .ref (A 60 0))] := hl
  have hI30 := b30 hI
  have hI29 := b29 hI
  have hI18 := b18 hI
  have hIff := ff_b M
  refine lv_aload_n hx hb dX10_sum_0 rfl (lv_at hl 0 rfl) ?_
  refine ti_callVvE (ci := 10) (av := []) C hE hw (x_X10_product l D A cy hJ M hI j a (d) (by omega) hu (by omega) (by omega) (by omega) B n rg hr ih) ⟨ml_X10_291, ym_X10_product, yv_X10_product, yi_X10_product, yc_X10_product⟩ yd_X10_product ob_60 (by decide) rfl rfl hl.1 (Nat.le_of_ble_eq_true rfl) ⟨by simp only [ti_rm]; omega, by simp only [ti_rm]; omega⟩ ⟨Nat.zero_le _, Nat.zero_le _⟩ dX10_sum_1 (fun M_2 H locs hp_2 hw => ?_)
  obtain ⟨hs_3, hp_4⟩ := hp_2
  obtain ⟨iM_2, q_5, p_6, p_7, p_8, p_9, p_10, p_11, p_12, p_13, p_14, p_15, p_16, p_17, p_18, u_19⟩ := hp_4
  obtain ⟨g_20, eg_20⟩ : ∃ z : Nat → Int, z = pp_pd B n (pp_pt B n j) rg := ⟨_, rfl⟩
  rw [← eg_20] at hs_3
  have hl_4_40 : ∀ (n_41 : Nat) (M_21 : ti_M) (g_23 : Nat → Int) (H : Heap) (locs : List Loc) (ls : Array Slot), (64 - (tI M_21 60 30).toInt + ff M_21 : Int).toNat < n_41 → (mI Tm M_21) → (pe M_21 M) → (rQ B n g_23 M_21) → (us M_21 a (d + 1)) → (pp_sm B n (pp_pt B n j) rg = pp_lp pp_qP (fun s => pp_pd B n (pp_pt B n j) (pp_kn B n s)) 64 g_23) → (g_23 0 = 28 ∨ (1 ≤ g_23 8 ∧ g_23 8 ≤ 64)) → (pg M ≤ pg M_21) → (0 ≤ ff M_21) → (ff M_21 ≤ ff M) → ((tI M 60 30).toInt ≤ (tI M_21 60 30).toInt) → ((tI M_21 60 30).toInt ≤ 64) → ((tI M_21 60 29).toInt ≤ (tI M 60 29).toInt + 8 - 8 * ff M_21) → ((tI M 60 29).toInt ≤ (tI M_21 60 29).toInt + 8 - 8 * ff M_21) → ((tI M_21 60 30).toInt - (tY M_21 60 3 18).toInt ≤ (tI M 60 30).toInt - (tY M 60 3 18).toInt + 200 - 200 * ff M_21) → ((tI M 60 30).toInt - (tY M 60 3 18).toInt ≤ (tI M_21 60 30).toInt - (tY M_21 60 3 18).toInt + 200 - 200 * ff M_21) → (0 ≤ (tY M_21 60 3 18).toInt) → ((tY M_21 60 3 18).toInt ≤ 64) → (0 ≤ (tI M_21 60 29).toInt) → ((tI M_21 60 29).toInt ≤ 8) → ti_H ti_LM D A cy H0 M_21 H locs → lv_has ls 2 [(0, .ref (A 60 0))] → W p l e (ti_rm (10 + 71 * j)) s m args below meth c H locs 0 0 Q (F0 m 4 ls []) := by
    intro n_41
    induction n_41 with
    | zero => intro M_21 g_23 H locs ls hf_41; exact absurd hf_41 (Nat.not_lt_zero _)
    | succ n_41 ih_41 =>
      intro M_21 g_23 H locs ls hf_41 iM_21 f_22 hs_24 j_25 j_26 j_27 j_28 j_29 j_30 j_31 j_32 j_33 j_34 j_35 j_36 j_37 j_38 j_39 j_40 hw hl
      refine lv_aload_n hx hb dX10_sum_4 rfl (lv_at hl 0 rfl) ?_
      refine lv_bipush (v := 43) hx hb dX10_sum_5 (by decide) ?_
      refine ti_callVi (ci := 10) (av := [.int 43]) C hw (x_X10_isSign l D A cy hJ M_21 iM_21 43) ⟨ml_X10_251, ym_X10_isSign, yv_X10_isSign, yi_X10_isSign, yc_X10_isSign⟩ yd_X10_isSign ob_60 (by decide) rfl rfl hl.1 (Nat.le_of_ble_eq_true rfl) ⟨by simp only [ti_rm]; omega, by simp only [ti_rm]; omega⟩ ⟨Nat.zero_le _, Nat.zero_le _⟩ dX10_sum_7 (fun r_42 M_43 H locs hp_43 hw => ?_)
      obtain ⟨hm, hz⟩ := hp_43
      have hw := hw.to hm
      have hj_22_58 : ∀  (H : Heap) (locs : List Loc) (ls : Array Slot), (ff M_21 = 1) → (g_23 0 ≠ 28) → (pp_qP (g_23 0) = true) → ti_H ti_LM D A cy H0 M_21 H locs → lv_has ls 2 [(0, .ref (A 60 0))] → W p l e (ti_rm (10 + 71 * j)) s m args below meth c H locs 0 0 Q (F0 m 22 ls []) := by
        intro  H locs ls j_56 j_57 j_58 hw hl
        refine lv_aload_n hx hb dX10_sum_22 rfl (lv_at hl 0 rfl) ?_
        refine ti_get (ci := 10) (k := 24) (N := 67) (T := TX10) C hw iw_10 rfl ob_60 (by decide) (by decide) fl_X10_183 rfl rfl dX10_sum_23 ?_
        refine lv_topi (fun x_59 ex_59 => ?_)
        have uqu_60 : (tI M_21 60 24).toInt = x_59.toInt := by rw [(ex_59.symm)]
        refine lv_istore_n (lv' := [(1, .int x_59), (0, .ref (A 60 0))]) hx hb dX10_sum_26 rfl hl (by decide) rfl (fun ls hl => ?_)
        refine lv_aload_n hx hb dX10_sum_27 rfl (lv_at hl 1 rfl) ?_
        refine ti_callVv (ci := 10) (av := []) C hw (x_X10_knot l D A cy hJ M_21 iM_21  B n g_23 hs_24) ⟨ml_X10_279, ym_X10_knot, yv_X10_knot, yi_X10_knot, yc_X10_knot⟩ yd_X10_knot ob_60 (by decide) rfl rfl hl.1 (Nat.le_of_ble_eq_true rfl) ⟨by simp only [ti_rm]; omega, by simp only [ti_rm]; omega⟩ ⟨Nat.zero_le _, Nat.zero_le _⟩ dX10_sum_28 (fun M_62 H locs hp_62 hw => ?_)
        obtain ⟨hs_63, hp_64⟩ := hp_62
        obtain ⟨iM_62, q_65, z_66, z_67, z_68, z_69, z_70, z_71⟩ := l_kn hp_64
        clear hp_64
        obtain ⟨g_72, eg_72⟩ : ∃ z : Nat → Int, z = pp_k1 g_23 := ⟨_, rfl⟩
        rw [← eg_72] at hs_63
        refine lv_aload_n hx hb dX10_sum_31 rfl (lv_at hl 1 rfl) ?_
        refine ti_callVvE (ci := 10) (av := []) C hE hw (x_X10_goOn l D A cy hJ M_62 iM_62  B n g_72 hs_63) ⟨ml_X10_267, ym_X10_goOn, yv_X10_goOn, yi_X10_goOn, yc_X10_goOn⟩ yd_X10_goOn ob_60 (by decide) rfl rfl hl.1 (Nat.le_of_ble_eq_true rfl) ⟨by simp only [ti_rm]; omega, by simp only [ti_rm]; omega⟩ ⟨Nat.zero_le _, Nat.zero_le _⟩ dX10_sum_32 (fun M_74 H locs hp_74 hw => ?_)
        obtain ⟨hs_75, hp_76⟩ := hp_74
        obtain ⟨iM_74, q_77, z_78, z_79, z_80, z_81, z_82⟩ := l_go hp_76
        clear hp_76
        obtain ⟨g_83, eg_83⟩ : ∃ z : Nat → Int, z = pp_go B n g_72 := ⟨_, rfl⟩
        rw [← eg_83] at hs_75
        refine lv_aload_n hx hb dX10_sum_35 rfl (lv_at hl 1 rfl) ?_
        refine ti_callVvE (ci := 10) (av := []) C hE hw (x_X10_product l D A cy hJ M_74 iM_74 j a (d + 1) (by omega) (us_q (x := 21) (y := 30) j_25 (pr.trans (pr_w q_77 (by decide) (by decide)) (pr_w q_65 (by decide) (by decide))) (by omega)) (by omega) (by omega) (by omega) B n g_83 hs_75 ih) ⟨ml_X10_291, ym_X10_product, yv_X10_product, yi_X10_product, yc_X10_product⟩ yd_X10_product ob_60 (by decide) rfl rfl hl.1 (Nat.le_of_ble_eq_true rfl) ⟨by simp only [ti_rm]; omega, by simp only [ti_rm]; omega⟩ ⟨Nat.zero_le _, Nat.zero_le _⟩ dX10_sum_36 (fun M_85 H locs hp_85 hw => ?_)
        obtain ⟨hs_86, hp_87⟩ := hp_85
        obtain ⟨iM_85, q_88, p_89, p_90, p_91, p_92, p_93, p_94, p_95, p_96, p_97, p_98, p_99, p_100, p_101, u_102⟩ := hp_87
        obtain ⟨g_103, eg_103⟩ : ∃ z : Nat → Int, z = pp_pd B n (pp_pt B n j) g_83 := ⟨_, rfl⟩
        rw [← eg_103] at hs_86
        refine lv_aload_n hx hb dX10_sum_39 rfl (lv_at hl 1 rfl) ?_
        refine lv_iconst (v := 2) hx hb dX10_sum_40 (by decide) ?_
        refine lv_iload_n hx hb dX10_sum_41 rfl (lv_at hl 0 rfl) ?_
        refine ti_callVv (ci := 10) (av := [.int 2, .int x_59]) C hw (s_X10_puts l D A cy hJ M_85 iM_85 a (d + 1 + 1) (d + 1) 2 x_59 u_102 (nL (by omega)) (by first | exact Or.inr (Or.inr (Or.inl ⟨by decide, by omega, rfl⟩)) | exact nF (by omega))) ⟨ml_X10_282, ym_X10_puts, yv_X10_puts, yi_X10_puts, yc_X10_puts⟩ yd_X10_puts ob_60 (by decide) rfl rfl hl.1 (Nat.le_of_ble_eq_true rfl) ⟨by simp only [ti_rm]; omega, by simp only [ti_rm]; omega⟩ ⟨Nat.zero_le _, Nat.zero_le _⟩ dX10_sum_42 (fun M_105 H locs hp_105 hw => ?_)
        have hs_106 := rQ_pe hs_86 hp_105.2.1 hp_105.2.2.2.1
        obtain ⟨iM_105, q_107, u_108, z_109, z_110, z_111, z_112, z_113, z_114⟩ := l_pu iM_85 hp_105
        clear hp_105
        refine lv_goto (tgt := 4) hx hb dX10_sum_45 (by decide) ?_
        exact ih_41 M_105 g_103 _ _ _ (by omega) iM_105 (pe.trans q_107 (pe.trans q_88 (pe.trans (pe_pr q_77 (by decide) (by decide)) (pe.trans (pe_pr q_65 (by decide) (by decide)) f_22)))) hs_106 u_108 (j_26.trans (lp_nx (P := pp_qP) (G := fun s => pp_pd B n (pp_pt B n j) (pp_kn B n s)) (s := g_23) (by decide) (gr_kn (gr_pd (gr_pt j))) 63 j_58 (by rw [eg_103, eg_83, eg_72, kn_kg (rQ_g0 hs_24 (by omega))]) (by omega) (by omega))) (by rw [eg_103]; exact rQ_gr (gr_pd (gr_pt j)) hs_75 iM_74) (by first | omega | decide) (by first | omega | decide) (by first | omega | decide) (by first | omega | decide) (by first | omega | decide) (by first | omega | decide) (by first | omega | decide) (by first | omega | decide) (by first | omega | decide) (by first | omega | decide) (by first | omega | decide) (by first | omega | decide) (by first | omega | decide) hw (lv_sub hl [1] rfl)
      rcases hz with ⟨rfl, d0_44, d1_44, d2_44⟩ | ⟨rfl, d3_44⟩
      · have dk_44 := rQ_s1 (k := 38) hs_24 d0_44 d1_44 d2_44 (by decide)
        have z_45 : ff M_21 = 1 := ff_1 d0_44
        have z_46 : pg M_21 = 2 * (tI M_21 60 21).toInt := pg_3 (by rw [d1_44]; decide)
        clear d0_44 d1_44 d2_44
        refine sb_if_ne (tgt := 22) hx hb (by decide : (1 : Int32).toInt = 1) dX10_sum_10 (by decide) (fun c_10_46 => ?_) (fun h => absurd h (by decide))
        exact hj_22_58  _ _ _ (by first | omega | decide) (by first | omega | decide) (show pp_qP (g_23 0) = true from decide_eq_true (by omega)) hw (lv_sub hl [0] rfl)
      · have dk_44 := rQ_s0 (k := 38) hs_24 d3_44 (by decide) (by decide)
        clear d3_44
        refine sb_if_ne (tgt := 22) hx hb (by decide : (0 : Int32).toInt = 0) dX10_sum_10 (by decide) (fun h => absurd h (by decide)) (fun c_10_47 => ?_)
        refine lv_aload_n hx hb dX10_sum_13 rfl (lv_at hl 0 rfl) ?_
        refine lv_bipush (v := 45) hx hb dX10_sum_14 (by decide) ?_
        refine ti_callVi (ci := 10) (av := [.int 45]) C hw (x_X10_isSign l D A cy hJ M_21 iM_21 45) ⟨ml_X10_251, ym_X10_isSign, yv_X10_isSign, yi_X10_isSign, yc_X10_isSign⟩ yd_X10_isSign ob_60 (by decide) rfl rfl hl.1 (Nat.le_of_ble_eq_true rfl) ⟨by simp only [ti_rm]; omega, by simp only [ti_rm]; omega⟩ ⟨Nat.zero_le _, Nat.zero_le _⟩ dX10_sum_16 (fun r_49 M_50 H locs hp_50 hw => ?_)
        obtain ⟨hm, hz⟩ := hp_50
        have hw := hw.to hm
        rcases hz with ⟨rfl, d0_51, d1_51, d2_51⟩ | ⟨rfl, d3_51⟩
        · have dk_51 := rQ_s1 (k := 39) hs_24 d0_51 d1_51 d2_51 (by decide)
          have z_52 : ff M_21 = 1 := ff_1 d0_51
          have z_53 : pg M_21 = 2 * (tI M_21 60 21).toInt := pg_3 (by rw [d1_51]; decide)
          clear d0_51 d1_51 d2_51
          refine sb_if_eq (tgt := 48) hx hb (by decide : (1 : Int32).toInt = 1) dX10_sum_19 (by decide) (fun h => absurd h (by decide)) (fun c_19_53 => ?_)
          exact hj_22_58  _ _ _ (by first | omega | decide) (by first | omega | decide) (show pp_qP (g_23 0) = true from decide_eq_true (by omega)) hw (lv_sub hl [0] rfl)
        · have dk_51 := rQ_s0 (k := 39) hs_24 d3_51 (by decide) (by decide)
          clear d3_51
          refine sb_if_eq (tgt := 48) hx hb (by decide : (0 : Int32).toInt = 0) dX10_sum_19 (by decide) (fun c_19_54 => ?_) (fun h => absurd h (by decide))
          exact hQ _ _ _ _ _ hw (⟨(by rw [j_26, lp_end (P := pp_qP) (f := 64) (s := g_23) (Or.inr (decide_eq_false (by omega)))]; exact hs_24), iM_21, f_22, (by omega), (by omega), (by omega), (by omega), (by omega), (by omega), (by omega), (by omega), (by omega), (by omega), (by omega), (by omega), (by omega), j_25⟩) dX10_sum_48
  exact hl_4_40 ((64 - (tI M_2 60 30).toInt + ff M_2 : Int).toNat + 1) M_2 g_20 _ _ _ (Nat.lt_succ_self _) iM_2 q_5 hs_3 u_19 (by unfold pp_sm; rw [← eg_20]) (by rw [eg_20]; exact rQ_gr (gr_pd (gr_pt j)) hr hI) (by first | omega | decide) (by first | omega | decide) (by first | omega | decide) (by first | omega | decide) (by first | omega | decide) (by first | omega | decide) (by first | omega | decide) (by first | omega | decide) (by first | omega | decide) (by first | omega | decide) (by first | omega | decide) (by first | omega | decide) (by first | omega | decide) hw (lv_sub hl [0] rfl)

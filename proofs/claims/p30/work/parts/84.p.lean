variable {Tc : gC} {Tm : gM}
/-- the told text's count of men and their names are in the registers; the other text is the spare -/
def tdC (M : ti_M) (rg : Nat → Int) : Prop := ∃ t, (t = 3 ∨ t = 4) ∧ tT M 0 1 = some t ∧ tT M 0 2 = some (7 - t) ∧ rg 7 = (tI M t 4).toInt ∧ ∀ i : Nat, i < 8 → rg (100 + i) = (tI M (ti_men t i) 0).toInt
theorem tdC_sp {M : ti_M} {rg : Nat → Int} {t1 t2 : Nat} (h : tdC M rg) (e1 : tT M 0 1 = some t1) (e2 : tT M 0 2 = some t2) : t2 = 7 - t1 := by
  obtain ⟨t, -, a, b, -, -⟩ := h
  obtain rfl : t1 = t := Option.some.inj (e1.symm.trans a)
  exact Option.some.inj (e2.symm.trans b)
theorem tdC_of {M N : ti_M} {rg : Nat → Int} {t1 : Nat} (h : tdC M rg) (e1 : tT M 0 1 = some t1) (hI : ∀ k : Nat, tI N t1 k = tI M t1 k) (hm : ∀ i k : Nat, i < 8 → tI N (ti_men t1 i) k = tI M (ti_men t1 i) k) (a : tT N 0 1 = some t1) (b : tT N 0 2 = some (7 - t1)) : tdC N rg := by
  obtain ⟨t, ht, a1, b1, c, d⟩ := h
  obtain rfl : t1 = t := Option.some.inj (e1.symm.trans a1)
  exact ⟨t1, ht, a, b, by rw [hI]; exact c, fun i hi => by rw [hm i 0 hi]; exact d i hi⟩
theorem tdC_tl {M N : ti_M} {rg : Nat → Int} (h : tdC M rg) (x : tl N M) : tdC N rg := by
  obtain ⟨t, ht, a, b, -, -⟩ := id h
  exact tdC_of h a (fun k => x.1 t k (by omega) (by omega)) (fun i k hi => x.1 _ k (by have := pp_men (t := t) (i := i); omega) (pp_men20 hi)) (x.2.1.trans a) (x.2.2.trans b)
theorem tdC_ot {M N : ti_M} {rg : Nat → Int} {t1 t2 : Nat} (h : tdC M rg) (e1 : tT M 0 1 = some t1) (e2 : tT M 0 2 = some t2) (x : ot t2 N M) (a : tT N 0 1 = some t1) (b : tT N 0 2 = some t2) : tdC N rg := by
  have e := tdC_sp h e1 e2
  obtain ⟨t, ht, a1, -, -, -⟩ := id h
  obtain rfl : t1 = t := Option.some.inj (e1.symm.trans a1)
  have e3 : 7 - t2 = t1 := by omega
  subst e
  unfold ot at x
  rw [e3] at x
  exact tdC_of h e1 x.1 x.2 a b
theorem tdC_rc {M R N : ti_M} {rg : Nat → Int} {B : Nat → Int} {n : Nat} {J : Nat → Int} {t1 t2 : Nat} (h : tdC M rg) (ht2 : t2 = 3 ∨ t2 = 4) (e1 : tT M 0 1 = some t1) (e2 : tT M 0 2 = some t2) (hJ : rC B n t2 J R) (x : ot t1 N R) (a : tT N 0 1 = some t2) (b : tT N 0 2 = some t1) : tdC N J := by
  have e := tdC_sp h e1 e2
  have e3 : 7 - t1 = t2 := e.symm
  have e4 : 7 - t2 = t1 := by
    obtain ⟨t, ht, a1, -, -, -⟩ := id h
    obtain rfl : t1 = t := Option.some.inj (e1.symm.trans a1)
    omega
  unfold ot at x
  rw [e3] at x
  exact ⟨t2, ht2, a, by rw [e4]; exact b, by rw [x.1]; exact hJ.2.2.2.1.1, fun i hi => by rw [x.2 i 0 hi]; exact (hJ.2.2.2.2 i hi).1⟩
set_option maxHeartbeats 4000000 in
set_option maxRecDepth 100000 in
theorem x_X9_text_td (l : Launch) (D : va_G) (A : Nat → Nat → Nat) (cy : Nat → ClassId) (hJ : ti_inj ti_LT A) (M : ti_M) (hI : cI Tc M) (hF : cF Tc M) (nn : Int32) (B : Nat → Int) (n : Nat) (hB : B = fun i => (Tc.1 i &&& 255).toInt) (hn : n = nn.toInt.toNat) (rg : Nat → Int) (htd : tdC M rg) : ti_KiE l yX9_text cX9_text 3 (some .int) 74 ti_LT D A cy M [.ref (A 0 0), .int nn] (fun r M2 => ((nn.toInt < 0 ∨ (tI M 2 1).toInt < nn.toInt) ∧ r.toInt = -2 ∧ cF Tc M2 ∧ tI M2 2 1 = tI M 2 1 ∧ (∀ k : Nat, tI M2 1 k = tI M 1 k) ∧ tdC M2 rg) ∨ (¬ (nn.toInt < 0 ∨ (tI M 2 1).toInt < nn.toInt) ∧ cF (cG M2) M2 ∧ tI M2 2 1 = 0 ∧ ∃ J : Nat → Int, r.toInt = pp_an (pp_tx B n J) ∧ (tI M2 1 4).toInt = (pp_tx B n J) 4 ∧ (tI M2 1 5).toInt = (pp_tx B n J) 5 ∧ ((pp_tx B n J) 4 ≠ 0 → tdC M2 rg ∧ cG M2 = Tc) ∧ ((pp_tx B n J) 4 = 0 → tdC M2 (pp_tx B n J) ∧ tI M2 50 5 = 0 ∧ tI M2 50 6 = -1))) := by
  refine ti_eIE yp_X9_text hJ ti_LT_nd (Nat.le_of_ble_eq_true rfl) ?_
  intro p e s m args below meth c Q H0 C hE hQ hw ls hl
  have hx := C.1
  have hb := C.2.1
  have hl : lv_has ls 3 [(0, .ref (A 0 0)), (1, .int nn)] := hl
  obtain ⟨-, ⟨t1, ht1, hT1⟩, ⟨t2, ht2, hT2⟩, ⟨t, ht, hT⟩, hS, hM⟩ := id hF
  refine lv_iload_n hx hb dX9_text_0 rfl (lv_at hl 1 rfl) ?_
  refine sb_if_lt (tgt := 18) hx hb rfl dX9_text_1 (by decide) (fun c_1_0 => ?_) (fun c_1_0 => ?_)
  · refine lv_bipush (v := (-2)) hx hb dX9_text_18 (by decide) ?_
    exact hQ _ _ _ _ _ _ hw rfl (Or.inl ⟨by omega, by decide, hF, rfl, (fun _ => rfl), htd⟩) dX9_text_20
  · refine lv_iload_n hx hb dX9_text_4 rfl (lv_at hl 1 rfl) ?_
    refine lv_aload_n hx hb dX9_text_5 rfl (lv_at hl 0 rfl) ?_
    refine ti_get (ci := 9) (k := 0) (N := 10) (T := TX9) (v := .ref (A 1 0)) C hw iw_9 rfl ob_0 (by decide) (by decide) fl_X9_12 rfl rfl dX9_text_6 ?_
    refine ti_get (ci := 4) (k := 0) (N := 6) (T := TX4) (v := .ref (A 2 0)) C hw iw_4 rfl ob_1 (by decide) (by decide) fl_X9_69 rfl rfl dX9_text_9 ?_
    refine ti_get (ci := 7) (k := 1) (N := 7) (T := TX7) C hw iw_7 rfl ob_2 (by decide) (by decide) fl_X9_73 rfl rfl dX9_text_12 ?_
    refine lv_topi (fun x_2 ex_2 => ?_)
    have bx_2 : 0 ≤ x_2.toInt ∧ x_2.toInt ≤ 700 := cI_rd hI ob_2.1 ex_2
    have ux_2 : (tI M 2 1).toInt = x_2.toInt := by rw [ex_2]
    refine sb_icmp_le (tgt := 21) hx hb rfl rfl dX9_text_15 (by decide) (fun c_15_2 => ?_) (fun c_15_2 => ?_)
    · refine lv_aload_n hx hb dX9_text_21 rfl (lv_at hl 0 rfl) ?_
      refine ti_get (ci := 9) (k := 0) (N := 10) (T := TX9) (v := .ref (A 1 0)) C hw iw_9 rfl ob_0 (by decide) (by decide) fl_X9_12 rfl rfl dX9_text_22 ?_
      refine ti_get (ci := 4) (k := 0) (N := 6) (T := TX4) (v := .ref (A 2 0)) C hw iw_4 rfl ob_1 (by decide) (by decide) fl_X9_69 rfl rfl dX9_text_25 ?_
      refine lv_iconst (v := 0) hx hb dX9_text_28 (by decide) ?_
      refine ti_putI (ci := 7) (k := 1) (N := 7) (T := TX7) C hw iw_7 tyX7 tyX7_ok nmX7 rfl ob_2 (by decide) (by decide) fl_X9_73 rfl rfl rfl rfl (fn_7 A _) fs_7_1 dX9_text_29 (fun H locs hw => ?_)
      obtain ⟨M_4, hM_4⟩ : ∃ z : ti_M, z = uI M 2 1 0 := ⟨_, rfl⟩
      have hw := hw.to hM_4.symm
      have iM_4 : cI Tc M_4 := cI_uI hI hM_4 ob_2.1 (ib_mk (lo := 0) (hi := 700) (by decide) (by decide))
      have vM_4 : (tI M_4 2 1).toInt = 0 := by rw [tI_uE hM_4]; decide
      refine lv_aload_n hx hb dX9_text_32 rfl (lv_at hl 0 rfl) ?_
      refine ti_get (ci := 9) (k := 0) (N := 10) (T := TX9) (v := .ref (A 1 0)) C hw iw_9 rfl ob_0 (by decide) (by decide) fl_X9_12 rfl rfl dX9_text_33 ?_
      refine lv_iload_n hx hb dX9_text_36 rfl (lv_at hl 1 rfl) ?_
      refine lv_aload_n hx hb dX9_text_37 rfl (lv_at hl 0 rfl) ?_
      refine ti_get (ci := 9) (k := 2) (N := 10) (T := TX9) (v := .ref (A t2 0)) C hw iw_9 rfl ob_0 (by decide) (by decide) fl_X9_23 rfl (ti_Tv ((tT_uIE hM_4).trans hT2)) dX9_text_38 ?_
      refine ti_callViE (ci := 4) (av := [.int nn, .ref (A t2 0)]) C hE hw (x_X4_read l D A cy hJ M_4 iM_4 t2 ht2 nn (by omega) (by omega) B n hB hn) ⟨ml_X9_83, ym_X4_read, yv_X4_read, yi_X4_read, yc_X4_read⟩ yd_X4_read ob_1 (by decide) rfl rfl hl.1 (Nat.le_of_ble_eq_true rfl) ⟨by decide, by decide⟩ ⟨Nat.zero_le _, Nat.zero_le _⟩ dX9_text_41 (fun r_5 M_6 H locs hp_6 hw => ?_)
      obtain ⟨iM_6, q_7, q_8, q_9, q_10, p0r_5⟩ := hp_6
      obtain ⟨J, hJr, hJ4⟩ := p0r_5
      rcases hJ4 with ⟨rfl, hJ4⟩ | ⟨rfl, hJ4⟩
      · refine sb_if_ne (tgt := 49) hx hb (by decide : (1 : Int32).toInt = 1) dX9_text_44 (by decide) (fun c_44_10 => ?_) (fun h => absurd h (by decide))
        refine lv_aload_n hx hb dX9_text_49 rfl (lv_at hl 0 rfl) ?_
        refine ti_get (ci := 9) (k := 1) (N := 10) (T := TX9) (v := .ref (A t1 0)) C hw iw_9 rfl ob_0 (by decide) (by decide) fl_X9_19 rfl (ti_Tv ((q_7 0 1 (by decide)).trans ((tT_uIE hM_4).trans hT1))) dX9_text_50 ?_
        refine lv_astore_n (lv' := [(2, .ref (A t1 0)), (0, .ref (A 0 0)), (1, .int nn)]) hx hb dX9_text_53 rfl hl (by decide) rfl (fun ls hl => ?_)
        refine lv_aload_n hx hb dX9_text_54 rfl (lv_at hl 1 rfl) ?_
        refine lv_aload_n hx hb dX9_text_55 rfl (lv_at hl 1 rfl) ?_
        refine ti_get (ci := 9) (k := 2) (N := 10) (T := TX9) (v := .ref (A t2 0)) C hw iw_9 rfl ob_0 (by decide) (by decide) fl_X9_23 rfl (ti_Tv ((q_7 0 2 (by decide)).trans ((tT_uIE hM_4).trans hT2))) dX9_text_56 ?_
        refine ti_putT (ci := 9) (k := 1) (N := 10) (T := TX9) C hw iw_9 tyX9 tyX9_ok nmX9 rfl ob_0 (by decide) (by decide) fl_X9_19 rfl rfl rfl rfl (fn_9 A _) fs_9_1 dX9_text_59 (fun H locs hw => ?_)
        obtain ⟨M_13, hM_13⟩ : ∃ z : ti_M, z = uT M_6 0 1 (some t2) := ⟨_, rfl⟩
        have hw := hw.to hM_13.symm
        have iM_13 : cI Tc M_13 := cI_uT iM_6 hM_13
        refine lv_aload_n hx hb dX9_text_62 rfl (lv_at hl 1 rfl) ?_
        refine lv_aload_n hx hb dX9_text_63 rfl (lv_at hl 0 rfl) ?_
        refine ti_putT (ci := 9) (k := 2) (N := 10) (T := TX9) C hw iw_9 tyX9 tyX9_ok nmX9 rfl ob_0 (by decide) (by decide) fl_X9_23 rfl rfl rfl rfl (fn_9 A _) fs_9_2 dX9_text_64 (fun H locs hw => ?_)
        obtain ⟨M_14, hM_14⟩ : ∃ z : ti_M, z = uT M_13 0 2 (some t1) := ⟨_, rfl⟩
        have hw := hw.to hM_14.symm
        have iM_14 : cI Tc M_14 := cI_uT iM_13 hM_14
        refine lv_aload_n hx hb dX9_text_67 rfl (lv_at hl 1 rfl) ?_
        refine ti_get (ci := 9) (k := 3) (N := 10) (T := TX9) (v := .ref (A 27 0)) C hw iw_9 rfl ob_0 (by decide) (by decide) fl_X9_29 rfl rfl dX9_text_68 ?_
        refine lv_aload_n hx hb dX9_text_71 rfl (lv_at hl 1 rfl) ?_
        refine ti_get (ci := 9) (k := 1) (N := 10) (T := TX9) (v := .ref (A t2 0)) C hw iw_9 rfl ob_0 (by decide) (by decide) fl_X9_19 rfl (ti_Tv ((tT_nE hM_14 (nk (by decide))).trans (tT_uE hM_13))) dX9_text_72 ?_
        refine ti_callVv (ci := 3) (av := [.ref (A t2 0)]) C hw (s_X3_start l D A cy hJ M_14 iM_14 27 t2 ob_27 ht2) ⟨ml_X9_65, ym_X3_start, yv_X3_start, yi_X3_start, yc_X3_start⟩ yd_X3_start ob_27 (by decide) rfl rfl hl.1 (Nat.le_of_ble_eq_true rfl) ⟨by decide, by decide⟩ ⟨Nat.zero_le _, Nat.zero_le _⟩ dX9_text_75 (fun M_16 H locs hp_16 hw => ?_)
        obtain ⟨iM_16, q_17, q_18⟩ := hp_16
        refine lv_aload_n hx hb dX9_text_78 rfl (lv_at hl 1 rfl) ?_
        refine ti_get (ci := 9) (k := 5) (N := 10) (T := TX9) (v := .ref (A 28 0)) C hw iw_9 rfl ob_0 (by decide) (by decide) fl_X9_40 rfl rfl dX9_text_79 ?_
        refine ti_callVv (ci := 5) (av := []) C hw (s_X5_clear l D A cy hJ M_16 iM_16 ) ⟨ml_X9_87, ym_X5_clear, yv_X5_clear, yi_X5_clear, yc_X5_clear⟩ yd_X5_clear ob_28 (by decide) rfl rfl hl.1 (Nat.le_of_ble_eq_true rfl) ⟨by decide, by decide⟩ ⟨Nat.zero_le _, Nat.zero_le _⟩ dX9_text_82 (fun M_20 H locs hp_20 hw => ?_)
        have hM_20 := hp_20
        have iM_20 : cI Tc M_20 := cI_uI iM_16 hM_20 ob_28.1 (ib_mk (lo := 0) (hi := 20) (by decide) (by decide))
        refine lv_aload_n hx hb dX9_text_85 rfl (lv_at hl 1 rfl) ?_
        refine ti_get (ci := 9) (k := 8) (N := 10) (T := TX9) (v := .ref (A 50 0)) C hw iw_9 rfl ob_0 (by decide) (by decide) fl_X9_54 rfl rfl dX9_text_86 ?_
        refine ti_callVv (ci := 6) (av := []) C hw (s_X6_clear l D A cy hJ M_20 iM_20 ) ⟨ml_X9_90, ym_X6_clear, yv_X6_clear, yi_X6_clear, yc_X6_clear⟩ yd_X6_clear ob_50 (by decide) rfl rfl hl.1 (Nat.le_of_ble_eq_true rfl) ⟨by decide, by decide⟩ ⟨Nat.zero_le _, Nat.zero_le _⟩ dX9_text_89 (fun M_22 H locs hp_22 hw => ?_)
        obtain ⟨iM_22, q_23, q_24, n22a, n22b⟩ := hp_22
        refine lv_aload_n hx hb dX9_text_92 rfl (lv_at hl 1 rfl) ?_
        refine lv_iconst (v := 0) hx hb dX9_text_93 (by decide) ?_
        refine ti_putI (ci := 9) (k := 7) (N := 10) (T := TX9) C hw iw_9 tyX9 tyX9_ok nmX9 rfl ob_0 (by decide) (by decide) fl_X9_47 rfl rfl rfl rfl (fn_9 A _) fs_9_7 dX9_text_94 (fun H locs hw => ?_)
        obtain ⟨M_25, hM_25⟩ : ∃ z : ti_M, z = uI M_22 0 7 0 := ⟨_, rfl⟩
        have hw := hw.to hM_25.symm
        have iM_25 : cI (cG M_22) M_25 := cI_uI iM_22 hM_25 ob_0.1 trivial
        refine lv_aload_n hx hb dX9_text_97 rfl (lv_at hl 1 rfl) ?_
        refine ti_get (ci := 9) (k := 1) (N := 10) (T := TX9) (v := .ref (A t2 0)) C hw iw_9 rfl ob_0 (by decide) (by decide) fl_X9_19 rfl (ti_Tv ((tT_uIE hM_25).trans ((tT_fr q_23).trans ((tT_uIE hM_20).trans ((tT_fr q_17).trans ((tT_n _ _ _ _ (nk (by decide))).trans ((tT_nE hM_14 (nk (by decide))).trans (tT_uE hM_13)))))))) dX9_text_98 ?_
        refine ti_get (ci := 8) (k := 3) (N := 12) (T := TX8) C hw iw_8 rfl (ob_t ht2) (by decide) (by decide) fl_X9_91 rfl rfl dX9_text_101 ?_
        refine lv_topi (fun x_26 ex_26 => ?_)
        exact hQ _ _ _ _ _ _ hw rfl (Or.inr ⟨by omega, cF_self (cF_mk iM_25 ⟨t2, ht2, ((tT_uIE hM_25).trans ((tT_fr q_23).trans ((tT_uIE hM_20).trans ((tT_fr q_17).trans ((tT_n _ _ _ _ (nk (by decide))).trans ((tT_nE hM_14 (nk (by decide))).trans (tT_uE hM_13)))))))⟩ ⟨t1, ht1, ((tT_uIE hM_25).trans ((tT_fr q_23).trans ((tT_uIE hM_20).trans ((tT_fr q_17).trans ((tT_n _ _ _ _ (nk (by decide))).trans (tT_uE hM_14))))))⟩ ⟨t2, ht2, ((tT_uIE hM_25).trans ((tT_fr q_23).trans ((tT_uIE hM_20).trans ((tT_fr q_17).trans (tT_u _ _ _ _)))))⟩ (by rw [((tI_nE hM_25 (nk (by decide))).trans (((q_24 2).2.2.1).trans (tI_uE hM_20)))]; decide) (by rw [(tI_uE hM_25)]; decide)), ((tI_nE hM_25 (nk (by decide))).trans (((q_24 1).2.1).trans ((tI_nE hM_20 (nk (by decide))).trans (((q_18 1).2.1).trans ((tI_uTE hM_14).trans ((tI_uTE hM_13).trans ((q_9).trans (tI_uE hM_4)))))))), J, (by unfold pp_an; rw [if_pos hJ4, hJr.2.2.2.1.2.2]; exact (congrArg Int32.toInt (ex_26.symm)).symm.trans (congrArg Int32.toInt ((tI_nE hM_25 (nk (by decide))).trans (((q_24 3).2.2.2 t2 (by omega)).trans ((tI_nE hM_20 (nk (by decide))).trans (((q_18 3).2.2.2 t2 (by omega)).trans ((tI_uTE hM_14).trans (tI_uTE hM_13)))))))), (congrArg Int32.toInt ((tI_nE hM_25 (nk (by decide))).trans (((q_24 4).2.2.2 1 (by decide)).trans ((tI_nE hM_20 (nk (by decide))).trans (((q_18 4).2.2.2 1 (by decide)).trans ((tI_uTE hM_14).trans (tI_uTE hM_13))))))).trans hJr.2.2.1.1.symm, (congrArg Int32.toInt ((tI_nE hM_25 (nk (by decide))).trans (((q_24 5).2.2.2 1 (by decide)).trans ((tI_nE hM_20 (nk (by decide))).trans (((q_18 5).2.2.2 1 (by decide)).trans ((tI_uTE hM_14).trans (tI_uTE hM_13))))))).trans hJr.2.2.1.2.1.symm, (fun q => absurd hJ4 q), (fun _ => ⟨tdC_rc htd ht2 hT1 hT2 hJr (ot.trans (ot_I ht1 hM_25 (by omega)) (ot.trans (ot_fx ht1 q_24) (ot.trans (ot_I ht1 hM_20 (by omega)) (ot.trans (ot_fx ht1 q_18) (ot.trans (ot_of (ra_T hM_14)) (ot_of (ra_T hM_13))))))) ((tT_uIE hM_25).trans ((tT_fr q_23).trans ((tT_uIE hM_20).trans ((tT_fr q_17).trans ((tT_n _ _ _ _ (nk (by decide))).trans ((tT_nE hM_14 (nk (by decide))).trans (tT_uE hM_13))))))) ((tT_uIE hM_25).trans ((tT_fr q_23).trans ((tT_uIE hM_20).trans ((tT_fr q_17).trans ((tT_n _ _ _ _ (nk (by decide))).trans (tT_uE hM_14)))))), (tI_nE hM_25 (no (by decide))).trans n22a, (tI_nE hM_25 (no (by decide))).trans n22b⟩)⟩) dX9_text_104
      · refine sb_if_ne (tgt := 49) hx hb (by decide : (0 : Int32).toInt = 0) dX9_text_44 (by decide) (fun h => absurd h (by decide)) (fun c_44_11 => ?_)
        refine lv_iconst (v := (-1)) hx hb dX9_text_47 (by decide) ?_
        exact hQ _ _ _ _ _ _ hw rfl (Or.inr ⟨by omega, cF_self (cF_rr hF iM_6 (rR.trans q_7 (rr_of (rf_I hM_4))) (f0.trans q_8 (f0_I hM_4 (by decide)))), ((q_9).trans (tI_uE hM_4)), J, (by unfold pp_an; rw [if_neg hJ4]; decide), hJr.2.2.1.1.symm, hJr.2.2.1.2.1.symm, (fun _ => ⟨tdC_ot htd hT1 hT2 (ot.trans q_10 (ot_I ht2 hM_4 (by omega))) ((q_7 0 1 (by decide)).trans ((tT_uIE hM_4).trans hT1)) ((q_7 0 2 (by decide)).trans ((tT_uIE hM_4).trans hT2)), iM_6.2.2⟩), (fun q => absurd q hJ4)⟩) dX9_text_48
    · refine lv_bipush (v := (-2)) hx hb dX9_text_18 (by decide) ?_
      exact hQ _ _ _ _ _ _ hw rfl (Or.inl ⟨by omega, by decide, hF, rfl, (fun _ => rfl), htd⟩) dX9_text_20
def t5 (N M : ti_M) : Prop := (∀ o k : Nat, 3 ≤ o → tI N o k = tI M o k) ∧ tT N 0 1 = tT M 0 1 ∧ tT N 0 2 = tT M 0 2
theorem tdC_5 {M N : ti_M} {rg : Nat → Int} (h : tdC M rg) (x : t5 N M) : tdC N rg := by
  obtain ⟨t, ht, a, b, -, -⟩ := id h
  exact tdC_of h a (fun k => x.1 t k (by omega)) (fun i k hi => x.1 _ k (by have := pp_men (t := t) (i := i); omega)) (x.2.1.trans a) (x.2.2.trans b)
set_option maxHeartbeats 4000000 in
set_option maxRecDepth 100000 in
theorem x_X9_feed_td (l : Launch) (D : va_G) (A : Nat → Nat → Nat) (cy : Nat → ClassId) (hJ : ti_inj ti_LT A) (M : ti_M) (hI : cI Tc M) (hF : cF Tc M) (z1 : Int32) (z2 : Int32) (z3 : Int32) (z4 : Int32) (z5 : Int32) : ti_Ki l yX9_feed cX9_feed 7 (some .int) 1 ti_LT D A cy M [.ref (A 0 0), .int z1, .int z2, .int z3, .int z4, .int z5] (fun r M2 => ((680 < (tI M 2 1).toInt ∧ r.toInt = -1 ∧ cF Tc M2 ∧ tI M2 2 1 = tI M 2 1 ∧ (∀ k : Nat, tI M2 1 k = tI M 1 k)) ∨ ((tI M 2 1).toInt ≤ 680 ∧ r.toInt = (tI M 2 1).toInt + 20 ∧ cF (cG M2) M2 ∧ (tI M2 2 1).toInt = (tI M 2 1).toInt + 20 ∧ (∀ i : Nat, (i : Int) < (tI M 2 1).toInt → tY M2 2 0 i = tY M 2 0 i) ∧ (∀ j : Nat, j < 20 → (tY M2 2 0 ((tI M 2 1).toInt.toNat + j) &&& 255).toInt = pp_fb z1 z2 z3 z4 z5 j) ∧ (∀ k : Nat, tI M2 1 k = tI M 1 k))) ∧ t5 M2 M) := by
  refine ti_eI yp_X9_feed hJ ti_LT_nd (Nat.le_of_ble_eq_true rfl) ?_
  intro p e s m args below meth c Q H0 C hQ hw ls hl
  have hx := C.1
  have hb := C.2.1
  have hl : lv_has ls 7 [(0, .ref (A 0 0)), (1, .int z1), (2, .int z2), (3, .int z3), (4, .int z4), (5, .int z5)] := hl
  obtain ⟨-, ⟨t1, ht1, hT1⟩, ⟨t2, ht2, hT2⟩, ⟨t, ht, hT⟩, hS, hM⟩ := id hF
  refine lv_aload_n hx hb dX9_feed_0 rfl (lv_at hl 0 rfl) ?_
  refine ti_get (ci := 9) (k := 0) (N := 10) (T := TX9) (v := .ref (A 1 0)) C hw iw_9 rfl ob_0 (by decide) (by decide) fl_X9_12 rfl rfl dX9_feed_1 ?_
  refine ti_get (ci := 4) (k := 0) (N := 6) (T := TX4) (v := .ref (A 2 0)) C hw iw_4 rfl ob_1 (by decide) (by decide) fl_X9_69 rfl rfl dX9_feed_4 ?_
  refine lv_astore (lv' := [(6, .ref (A 2 0)), (0, .ref (A 0 0)), (1, .int z1), (2, .int z2), (3, .int z3), (4, .int z4), (5, .int z5)]) hx hb dX9_feed_7 hl (by decide) rfl (fun ls hl => ?_)
  refine lv_aload hx hb dX9_feed_9 (lv_at hl 0 rfl) ?_
  refine ti_get (ci := 7) (k := 1) (N := 7) (T := TX7) C hw iw_7 rfl ob_2 (by decide) (by decide) fl_X9_73 rfl rfl dX9_feed_11 ?_
  refine lv_topi (fun x_1 ex_1 => ?_)
  have bx_1 : 0 ≤ x_1.toInt ∧ x_1.toInt ≤ 700 := cI_rd hI ob_2.1 ex_1
  have ux_1 : (tI M 2 1).toInt = x_1.toInt := by rw [ex_1]
  refine lv_bipush (v := 20) hx hb dX9_feed_14 (by decide) ?_
  refine lv_iadd hx hb dX9_feed_16 ?_
  refine lv_topi (fun x_2 ex_2 => ?_)
  have tx_2 : x_2.toInt = x_1.toInt + 20 := i_add ex_2 rfl (by decide : (20 : Int32).toInt = 20) (by omega) (by omega)
  refine lv_sipush (v := 700) hx hb dX9_feed_17 (by decide) ?_
  refine sb_icmp_le (tgt := 25) hx hb rfl (by decide : (700 : Int32).toInt = 700) dX9_feed_20 (by decide) (fun c_20_2 => ?_) (fun c_20_2 => ?_)
  · refine lv_aload hx hb dX9_feed_25 (lv_at hl 0 rfl) ?_
    refine lv_iload_n hx hb dX9_feed_27 rfl (lv_at hl 2 rfl) ?_
    refine ti_callVv (ci := 7) (av := [.int z1]) C hw (x_X7_put l D A cy hJ M hI z1 (by omega)) ⟨ml_X9_79, ym_X7_put, yv_X7_put, yi_X7_put, yc_X7_put⟩ yd_X7_put ob_2 (by decide) rfl rfl hl.1 (Nat.le_of_ble_eq_true rfl) ⟨by decide, by decide⟩ ⟨Nat.zero_le _, Nat.zero_le _⟩ dX9_feed_28 (fun M_5 H locs hp_5 hw => ?_)
    obtain ⟨iM_5, q_6, q_7, k0M_5, k1M_5, k2M_5⟩ := hp_5
    refine lv_aload hx hb dX9_feed_31 (lv_at hl 0 rfl) ?_
    refine lv_iload_n hx hb dX9_feed_33 rfl (lv_at hl 3 rfl) ?_
    refine ti_callVv (ci := 7) (av := [.int z2]) C hw (x_X7_put l D A cy hJ M_5 iM_5 z2 (by omega)) ⟨ml_X9_79, ym_X7_put, yv_X7_put, yi_X7_put, yc_X7_put⟩ yd_X7_put ob_2 (by decide) rfl rfl hl.1 (Nat.le_of_ble_eq_true rfl) ⟨by decide, by decide⟩ ⟨Nat.zero_le _, Nat.zero_le _⟩ dX9_feed_34 (fun M_9 H locs hp_9 hw => ?_)
    obtain ⟨iM_9, q_10, q_11, k0M_9, k1M_9, k2M_9⟩ := hp_9
    refine lv_aload hx hb dX9_feed_37 (lv_at hl 0 rfl) ?_
    refine lv_iload_n hx hb dX9_feed_39 rfl (lv_at hl 4 rfl) ?_
    refine ti_callVv (ci := 7) (av := [.int z3]) C hw (x_X7_put l D A cy hJ M_9 iM_9 z3 (by omega)) ⟨ml_X9_79, ym_X7_put, yv_X7_put, yi_X7_put, yc_X7_put⟩ yd_X7_put ob_2 (by decide) rfl rfl hl.1 (Nat.le_of_ble_eq_true rfl) ⟨by decide, by decide⟩ ⟨Nat.zero_le _, Nat.zero_le _⟩ dX9_feed_40 (fun M_13 H locs hp_13 hw => ?_)
    obtain ⟨iM_13, q_14, q_15, k0M_13, k1M_13, k2M_13⟩ := hp_13
    refine lv_aload hx hb dX9_feed_43 (lv_at hl 0 rfl) ?_
    refine lv_iload hx hb dX9_feed_45 (lv_at hl 5 rfl) ?_
    refine ti_callVv (ci := 7) (av := [.int z4]) C hw (x_X7_put l D A cy hJ M_13 iM_13 z4 (by omega)) ⟨ml_X9_79, ym_X7_put, yv_X7_put, yi_X7_put, yc_X7_put⟩ yd_X7_put ob_2 (by decide) rfl rfl hl.1 (Nat.le_of_ble_eq_true rfl) ⟨by decide, by decide⟩ ⟨Nat.zero_le _, Nat.zero_le _⟩ dX9_feed_47 (fun M_17 H locs hp_17 hw => ?_)
    obtain ⟨iM_17, q_18, q_19, k0M_17, k1M_17, k2M_17⟩ := hp_17
    refine lv_aload hx hb dX9_feed_50 (lv_at hl 0 rfl) ?_
    refine lv_iload hx hb dX9_feed_52 (lv_at hl 6 rfl) ?_
    refine ti_callVv (ci := 7) (av := [.int z5]) C hw (x_X7_put l D A cy hJ M_17 iM_17 z5 (by omega)) ⟨ml_X9_79, ym_X7_put, yv_X7_put, yi_X7_put, yc_X7_put⟩ yd_X7_put ob_2 (by decide) rfl rfl hl.1 (Nat.le_of_ble_eq_true rfl) ⟨by decide, by decide⟩ ⟨Nat.zero_le _, Nat.zero_le _⟩ dX9_feed_54 (fun M_21 H locs hp_21 hw => ?_)
    obtain ⟨iM_21, q_22, q_23, k0M_21, k1M_21, k2M_21⟩ := hp_21
    refine lv_aload hx hb dX9_feed_57 (lv_at hl 0 rfl) ?_
    refine ti_get (ci := 7) (k := 1) (N := 7) (T := TX7) C hw iw_7 rfl ob_2 (by decide) (by decide) fl_X9_73 rfl rfl dX9_feed_59 ?_
    refine lv_topi (fun x_24 ex_24 => ?_)
    have bx_24 : 0 ≤ x_24.toInt ∧ x_24.toInt ≤ 700 := cI_rd iM_21 ob_2.1 ex_24
    have ux_24 : (tI M_21 2 1).toInt = x_24.toInt := by rw [ex_24]
    exact hQ _ _ _ _ _ _ hw rfl (⟨(Or.inr ⟨by omega, by omega, cF_rx hF iM_21 (rr_of ((q_22).trans ((q_18).trans ((q_14).trans ((q_10).trans q_6))))) (f0_12 (o2_12 (o2.trans q_23 (o2.trans q_19 (o2.trans q_15 (o2.trans q_11 q_7)))))), by omega, (fun i hi => ((k1M_21 i (by omega)).trans ((k1M_17 i (by omega)).trans ((k1M_13 i (by omega)).trans ((k1M_9 i (by omega)).trans (k1M_5 i (by omega))))))), (fun j hj => by
      rcases (show j < 4 ∨ (4 ≤ j ∧ j < 8) ∨ (8 ≤ j ∧ j < 12) ∨ (12 ≤ j ∧ j < 16) ∨ 16 ≤ j by omega) with g | g | g | g | g
      · have b := k2M_5 (j - 0) (by omega)
        rw [show (tI M 2 1).toInt.toNat + (j - 0) = (tI M 2 1).toInt.toNat + j by omega] at b
        rw [k1M_21 _ (by omega)]
        rw [k1M_17 _ (by omega)]
        rw [k1M_13 _ (by omega)]
        rw [k1M_9 _ (by omega)]
        unfold pp_fb
        rw [if_pos (by omega), show j % 4 = j - 0 by omega]
        exact b
      · have b := k2M_9 (j - 4) (by omega)
        rw [show (tI M_5 2 1).toInt.toNat + (j - 4) = (tI M 2 1).toInt.toNat + j by omega] at b
        rw [k1M_21 _ (by omega)]
        rw [k1M_17 _ (by omega)]
        rw [k1M_13 _ (by omega)]
        unfold pp_fb
        rw [if_neg (by omega), if_pos (by omega), show j % 4 = j - 4 by omega]
        exact b
      · have b := k2M_13 (j - 8) (by omega)
        rw [show (tI M_9 2 1).toInt.toNat + (j - 8) = (tI M 2 1).toInt.toNat + j by omega] at b
        rw [k1M_21 _ (by omega)]
        rw [k1M_17 _ (by omega)]
        unfold pp_fb
        rw [if_neg (by omega), if_neg (by omega), if_pos (by omega), show j % 4 = j - 8 by omega]
        exact b
      · have b := k2M_17 (j - 12) (by omega)
        rw [show (tI M_13 2 1).toInt.toNat + (j - 12) = (tI M 2 1).toInt.toNat + j by omega] at b
        rw [k1M_21 _ (by omega)]
        unfold pp_fb
        rw [if_neg (by omega), if_neg (by omega), if_neg (by omega), if_pos (by omega), show j % 4 = j - 12 by omega]
        exact b
      · have b := k2M_21 (j - 16) (by omega)
        rw [show (tI M_17 2 1).toInt.toNat + (j - 16) = (tI M 2 1).toInt.toNat + j by omega] at b
        unfold pp_fb
        rw [if_neg (by omega), if_neg (by omega), if_neg (by omega), if_neg (by omega), show j % 4 = j - 16 by omega]
        exact b), (fun k => ((q_23 1 k (by decide)).trans ((q_19 1 k (by decide)).trans ((q_15 1 k (by decide)).trans ((q_11 1 k (by decide)).trans (q_7 1 k (by decide)))))))⟩), (fun o k h3 => (o2.trans q_23 (o2.trans q_19 (o2.trans q_15 (o2.trans q_11 q_7)))) o k (by omega)), tT_fr ((q_22).trans ((q_18).trans ((q_14).trans ((q_10).trans q_6)))), tT_fr ((q_22).trans ((q_18).trans ((q_14).trans ((q_10).trans q_6))))⟩) dX9_feed_62
  · refine lv_iconst (v := (-1)) hx hb dX9_feed_23 (by decide) ?_
    exact hQ _ _ _ _ _ _ hw rfl (⟨(Or.inl ⟨by omega, by decide, hF, rfl, fun _ => rfl⟩), (fun _ _ _ => rfl), rfl, rfl⟩) dX9_feed_24
set_option maxHeartbeats 4000000 in
set_option maxRecDepth 100000 in
theorem x_X8_found (l : Launch) (D : va_G) (A : Nat → Nat → Nat) (cy : Nat → ClassId) (hJ : ti_inj ti_LT A) (M : ti_M) (hI : cI Tc M) (t : Nat) (ht : t = 3 ∨ t = 4) (nm : Int32) (rg : Nat → Int) (h7 : rg 7 = (tI M t 4).toInt) (h10 : ∀ i : Nat, i < 8 → rg (100 + i) = (tI M (ti_men t i) 0).toInt) : ti_Ki l yX8_find cX8_find 3 (some .int) 0 ti_LT D A cy M [.ref (A t 0), .int nm] (fun r M2 => M2 = M ∧ (-1) ≤ r.toInt ∧ r.toInt ≤ 7 ∧ r.toInt = pp_fd rg nm.toInt 0) := by
  refine ti_eI yp_X8_find hJ ti_LT_nd (Nat.le_of_ble_eq_true rfl) ?_
  intro p e s m args below meth c Q H0 C hQ hw ls hl
  have hx := C.1
  have hb := C.2.1
  have hl : lv_has ls 3 [(0, .ref (A t 0)), (1, .int nm)] := hl
  refine lv_iconst (v := 0) hx hb dX8_find_0 (by decide) ?_
  refine lv_istore_n (lv' := [(2, .int 0), (0, .ref (A t 0)), (1, .int nm)]) hx hb dX8_find_1 rfl hl (by decide) rfl (fun ls hl => ?_)
  have hl_2_4 : ∀ (n_5 : Nat) (x_1 : Int32) (H : Heap) (locs : List Loc) (ls : Array Slot), (8 - x_1.toInt : Int).toNat < n_5 → (0 ≤ x_1.toInt) → (x_1.toInt ≤ 8) → (pp_fd rg nm.toInt 0 = pp_fd rg nm.toInt (x_1.toInt).toNat) → ti_H ti_LT D A cy H0 M H locs → lv_has ls 3 [(2, .int x_1), (0, .ref (A t 0)), (1, .int nm)] → W p l e (ti_rm 0) s m args below meth c H locs 0 0 Q (F0 m 2 ls []) := by
    intro n_5
    induction n_5 with
    | zero => intro x_1 H locs ls hf_5; exact absurd hf_5 (Nat.not_lt_zero _)
    | succ n_5 ih_5 =>
      intro x_1 H locs ls hf_5 b_2 b_3 j_4 hw hl
      refine lv_iload_n hx hb dX8_find_2 rfl (lv_at hl 0 rfl) ?_
      refine lv_aload_n hx hb dX8_find_3 rfl (lv_at hl 1 rfl) ?_
      refine ti_get (ci := 8) (k := 4) (N := 12) (T := TX8) C hw iw_8 rfl (ob_t ht) (by decide) (by decide) fl_X8_36 rfl rfl dX8_find_4 ?_
      refine lv_topi (fun x_6 ex_6 => ?_)
      have bx_6 : 0 ≤ x_6.toInt ∧ x_6.toInt ≤ 8 := cI_rd hI (ob_t ht).1 ex_6
      have ux_6 : (tI M t 4).toInt = x_6.toInt := by rw [ex_6]
      refine sb_icmp_ge (tgt := 31) hx hb rfl rfl dX8_find_7 (by decide) (fun c_7_6 => ?_) (fun c_7_6 => ?_)
      · refine lv_iconst (v := (-1)) hx hb dX8_find_31 (by decide) ?_
        exact hQ _ _ _ _ _ _ hw rfl (⟨rfl, by decide, by decide, (by rw [j_4, fd_end (s := rg) (v := nm.toInt) (i := x_1.toInt.toNat) (by omega)]; decide)⟩) dX8_find_32
      · refine lv_aload_n hx hb dX8_find_10 rfl (lv_at hl 1 rfl) ?_
        refine ti_get (ci := 8) (k := 0) (N := 12) (T := TX8) (v := .ref (A t 1)) C hw iw_8 rfl (ob_t ht) (by decide) (by decide) fl_X8_11 rfl rfl dX8_find_11 ?_
        refine lv_iload_n hx hb dX8_find_14 rfl (lv_at hl 0 rfl) ?_
        refine ti_aald (ci := 8) (k := 0) (n := 8) (t0 := 5) (Cn := RX2) (gg := (ti_men t)) (j := x_1.toNatClampNeg) C hw (ob_t ht) (by decide) (fun _ _ => rfl) rfl (vp_in_iff.mpr (by omega)) rfl dX8_find_15 ?_
        have ob_8 : ti_ob ti_LT (ti_men t x_1.toNatClampNeg) 2 := ob_m ht (i_nt rfl (by omega) (by omega))
        refine ti_get (ci := 2) (k := 0) (N := 10) (T := TX2) C hw iw_2 rfl ob_8 (by decide) (by decide) fl_X8_63 rfl rfl dX8_find_16 ?_
        refine lv_topi (fun x_9 ex_9 => ?_)
        have mnx_1 : rg (100 + x_1.toInt.toNat) = x_9.toInt := by rw [ex_9]; exact h10 x_1.toInt.toNat (by omega)
        refine lv_iload_n hx hb dX8_find_19 rfl (lv_at hl 2 rfl) ?_
        refine sb_icmp_ne (tgt := 25) hx hb rfl rfl dX8_find_20 (by decide) (fun c_20_9 => ?_) (fun c_20_9 => ?_)
        · obtain ⟨x_11, ex_11⟩ : ∃ z : Int32, z = x_1 + 1 := ⟨_, rfl⟩
          have tx_11 : x_11.toInt = x_1.toInt + 1 := i_add ex_11 rfl (by decide) (by omega) (by omega)
          refine lv_iinc (v := x_11) (lv' := [(2, .int x_11), (0, .ref (A t 0)), (1, .int nm)]) hx hb dX8_find_25 hl (k := 0) rfl (by rw [ex_11]; rfl) (by decide) rfl (fun ls hl => ?_)
          refine lv_goto (tgt := 2) hx hb dX8_find_28 (by decide) ?_
          exact ih_5 x_11 _ _ _ (by omega) (by first | omega | decide) (by first | omega | decide) (by rw [show x_11.toInt.toNat = x_1.toInt.toNat + 1 by omega, ← fd_go (s := rg) (v := nm.toInt) (i := x_1.toInt.toNat) (by omega) (by rw [mnx_1]; omega)]; exact j_4) hw (lv_sub hl [0, 1, 2] rfl)
        · refine lv_iload_n hx hb dX8_find_23 rfl (lv_at hl 0 rfl) ?_
          exact hQ _ _ _ _ _ _ hw rfl (⟨rfl, by omega, by omega, (by rw [j_4, fd_at (s := rg) (v := nm.toInt) (i := x_1.toInt.toNat) (by omega) (by rw [mnx_1]; omega)]; omega)⟩) dX8_find_24
  exact hl_2_4 ((8 - 0 : Int).toNat + 1) 0 _ _ _ (Nat.lt_succ_self _) (by have lt0 : (0 : Int32).toInt = 0 := (by decide); first | omega | decide) (by have lt0 : (0 : Int32).toInt = 0 := (by decide); first | omega | decide) rfl hw (lv_sub hl [0, 1, 2] rfl)
set_option maxHeartbeats 4000000 in
set_option maxRecDepth 100000 in
theorem x_X9_named (l : Launch) (D : va_G) (A : Nat → Nat → Nat) (cy : Nat → ClassId) (hJ : ti_inj ti_LT A) (M : ti_M) (hI : cI Tc M) (hF : cF Tc M) (za : Int32) (rg : Nat → Int) (htd : tdC M rg) : ti_Ki l yX9_named cX9_named 2 (some .int) 1 ti_LT D A cy M [.ref (A 0 0), .int za] (fun r M2 => (cF Tc M2 ∧ tI M2 2 1 = tI M 2 1 ∧ tl M2 M) ∧ r.toInt = pp_fd rg za.toInt 0) := by
  refine ti_eI yp_X9_named hJ ti_LT_nd (Nat.le_of_ble_eq_true rfl) ?_
  intro p e s m args below meth c Q H0 C hQ hw ls hl
  have hx := C.1
  have hb := C.2.1
  have hl : lv_has ls 2 [(0, .ref (A 0 0)), (1, .int za)] := hl
  obtain ⟨-, ⟨t1, ht1, hT1⟩, ⟨t2, ht2, hT2⟩, ⟨t, ht, hT⟩, hS, hM⟩ := id hF
  obtain ⟨t0, -, hT0, -, h7, h10⟩ := id htd
  obtain rfl : t1 = t0 := Option.some.inj (hT1.symm.trans hT0)
  refine lv_aload_n hx hb dX9_named_0 rfl (lv_at hl 0 rfl) ?_
  refine ti_get (ci := 9) (k := 1) (N := 10) (T := TX9) (v := .ref (A t1 0)) C hw iw_9 rfl ob_0 (by decide) (by decide) fl_X9_19 rfl (ti_Tv (hT1)) dX9_named_1 ?_
  refine lv_iload_n hx hb dX9_named_4 rfl (lv_at hl 1 rfl) ?_
  refine ti_callVi (ci := 8) (av := [.int za]) C hw (x_X8_found l D A cy hJ M hI t1 ht1 za rg h7 h10) ⟨ml_X9_100, ym_X8_find, yv_X8_find, yi_X8_find, yc_X8_find⟩ yd_X8_find (ob_t ht1) (by decide) rfl rfl hl.1 (Nat.le_of_ble_eq_true rfl) ⟨by decide, by decide⟩ ⟨Nat.zero_le _, Nat.zero_le _⟩ dX9_named_5 (fun r_1 M_2 H locs hp_2 hw => ?_)
  obtain ⟨hm, b0r_1, b1r_1, p0r_1⟩ := hp_2
  have hw := hw.to hm
  exact hQ _ _ _ _ _ _ hw rfl (⟨⟨hF, rfl, tl.refl⟩, p0r_1⟩) dX9_named_8

variable {Tc : gC} {Tm : gM}
variable {Tc : gC}
/-- a queue's registers, whatever it holds -/
def qQ (q : Nat) (M : ti_M) : Nat → Int := fun j => if j < 96 then (tI M q j).toInt else (tY M q (j / 16) (j % 16)).toInt
theorem qC_Q {q : Nat} {M : ti_M} : qC q (qQ q M) M := by
  refine ⟨fun k h1 h2 => ?_, fun k i h1 h2 hi h7 => ?_⟩
  · unfold qQ; rw [if_pos (by omega)]
  · unfold qQ; rw [if_neg (by omega), show (16 * k + i) / 16 = k by omega, show (16 * k + i) % 16 = i by omega]
theorem tC_rq {B : Nat → Int} {n t : Nat} {s td : Nat → Int} {M : ti_M} (h : rC B n t s M) (g : tq t td M) : tC t (tX s td) M := by
  refine ⟨fun k h1 h2 => ?_, fun i hi => ?_, fun i k hi h1 h2 => ?_, fun j hj => ⟨?_, fun m hm => ?_⟩⟩
  · by_cases a : k = 4
    · subst a; rw [tX_4]; exact h.2.2.2.1.1
    · by_cases b : k = 5
      · subst b; rw [tX_5]; exact h.2.2.2.1.2.1
      · rw [tX_o a b (by omega)]; exact g.1 k (by omega) h2
  · rw [tX_o (by omega) (by omega) (by omega)]; exact g.2.1 i hi
  · by_cases a : k = 9
    · subst a; rw [tX_9 hi]; exact (h.2.2.2.2 i hi).2
    · rw [tX_o (by omega) (by omega) (by omega)]; exact g.2.2.1 i k hi h1 (by omega)
  · rw [tX_o (by omega) (by omega) (by omega)]; exact (g.2.2.2 j hj).1
  · rw [tX_o (by omega) (by omega) (by omega)]; exact (g.2.2.2 j hj).2 m hm
theorem tC_ot {t1 t2 : Nat} {tx : Nat → Int} {M N : ti_M} (e : t2 = 7 - t1) (ht : t2 = 3 ∨ t2 = 4) (h : tC t1 tx M) (x : ot t2 N M) : tC t1 tx N := by
  have e3 : 7 - t2 = t1 := by omega
  unfold ot at x
  rw [e3] at x
  obtain ⟨x1, x2, x3, x4, -⟩ := x
  refine ⟨fun k h1 h2 => by rw [x1]; exact h.1 k h1 h2, fun i hi => by rw [x3]; exact h.2.1 i hi, fun i k hi h1 h2 => by rw [x2 i k hi]; exact h.2.2.1 i k hi h1 h2, fun j hj => ⟨by rw [(x4 j 3 hj).1]; exact (h.2.2.2 j hj).1, fun n hn => by rw [(x4 j 0 hj).2]; exact (h.2.2.2 j hj).2 n hn⟩⟩
theorem fX_50 {N M : ti_M} (E : eo 50 N M) : fX N M := fun k => ⟨E.1 0 k (by decide), E.1 2 k (by decide), E.1 28 k (by decide), fun o h => E.1 o k (by omega)⟩
set_option maxHeartbeats 4000000 in
set_option maxRecDepth 100000 in
theorem z_X6_clear (l : Launch) (D : va_G) (A : Nat → Nat → Nat) (cy : Nat → ClassId) (hJ : ti_inj ti_LT A) (M : ti_M) (hI : cI Tc M)  : ti_Kv l yX6_clear cX6_clear 1 0 ti_LT D A cy M [.ref (A 50 0)] (fun M2 => cI (cG M2) M2 ∧ M2.2.2.2 = M.2.2.2 ∧ eo 50 M2 M ∧ tI M2 50 5 = 0 ∧ tI M2 50 6 = -1) := by
  refine ti_eV yp_X6_clear hJ ti_LT_nd (Nat.le_of_ble_eq_true rfl) ?_
  intro p e s m args below meth c Q H0 C hQ hw ls hl
  have hx := C.1
  have hb := C.2.1
  have hl : lv_has ls 1 [(0, .ref (A 50 0))] := hl
  refine lv_aload_n hx hb dX6_clear_0 rfl (lv_at hl 0 rfl) ?_
  refine lv_iconst (v := 0) hx hb dX6_clear_1 (by decide) ?_
  refine ti_putI (ci := 6) (k := 5) (N := 13) (T := TX6) C hw iw_6 tyX6 tyX6_ok nmX6 rfl ob_50 (by decide) (by decide) fl_X6_28 rfl rfl rfl rfl (fn_6 A _) fs_6_5 dX6_clear_2 (fun H locs hw => ?_)
  obtain ⟨M_1, hM_1⟩ : ∃ z : ti_M, z = uI M 50 5 0 := ⟨_, rfl⟩
  have hw := hw.to hM_1.symm
  have iM_1 : cI (cG M_1) M_1 := cI_gI hI hM_1 ob_50.1 (ib_mk (lo := 0) (hi := 24) (by decide) (by decide))
  have vM_1 : (tI M_1 50 5).toInt = 0 := by rw [tI_uE hM_1]; decide
  refine lv_aload_n hx hb dX6_clear_5 rfl (lv_at hl 0 rfl) ?_
  refine lv_iconst (v := (-1)) hx hb dX6_clear_6 (by decide) ?_
  refine ti_putI (ci := 6) (k := 6) (N := 13) (T := TX6) C hw iw_6 tyX6 tyX6_ok nmX6 rfl ob_50 (by decide) (by decide) fl_X6_31 rfl rfl rfl rfl (fn_6 A _) fs_6_6 dX6_clear_7 (fun H locs hw => ?_)
  obtain ⟨M_2, hM_2⟩ : ∃ z : ti_M, z = uI M_1 50 6 (-1) := ⟨_, rfl⟩
  have hw := hw.to hM_2.symm
  have iM_2 : cI (cG M_2) M_2 := cI_gI iM_1 hM_2 ob_50.1 (ib_mk (lo := (-1)) (hi := 24) (by decide) (by decide))
  have vM_2 : (tI M_2 50 6).toInt = (-1) := by rw [tI_uE hM_2]; decide
  refine lv_aload_n hx hb dX6_clear_10 rfl (lv_at hl 0 rfl) ?_
  refine lv_iconst (v := 0) hx hb dX6_clear_11 (by decide) ?_
  refine ti_putI (ci := 6) (k := 7) (N := 13) (T := TX6) C hw iw_6 tyX6 tyX6_ok nmX6 rfl ob_50 (by decide) (by decide) fl_X6_34 rfl rfl rfl rfl (fn_6 A _) fs_6_7 dX6_clear_12 (fun H locs hw => ?_)
  obtain ⟨M_3, hM_3⟩ : ∃ z : ti_M, z = uI M_2 50 7 0 := ⟨_, rfl⟩
  have hw := hw.to hM_3.symm
  have iM_3 : cI (cG M_2) M_3 := cI_uI iM_2 hM_3 ob_50.1 trivial
  exact hQ _ _ _ _ _ hw (⟨cI_self iM_3, ((rf_I hM_3).trans ((rf_I hM_2).trans (rf_I hM_1))), (eo.trans (eo_I hM_3) (eo.trans (eo_I hM_2) (eo_I hM_1))), ((tI_nE hM_3 (nk (by decide))).trans ((tI_nE hM_2 (nk (by decide))).trans (tI_uE hM_1))), ((tI_nE hM_3 (nk (by decide))).trans (tI_uE hM_2))⟩) dX6_clear_15
set_option maxHeartbeats 4000000 in
set_option maxRecDepth 100000 in
theorem z_X9_text (l : Launch) (D : va_G) (A : Nat → Nat → Nat) (cy : Nat → ClassId) (hJ : ti_inj ti_LT A) (M : ti_M) (hI : cI Tc M) (hF : cF Tc M) (nn : Int32) (B : Nat → Int) (n : Nat) (hB : B = fun i => (Tc.1 i &&& 255).toInt) (hn : n = nn.toInt.toNat) (rg : Nat → Int) (htd : tdC M rg) : ti_KiE l yX9_text cX9_text 3 (some .int) 74 ti_LT D A cy M [.ref (A 0 0), .int nn] (fun r M2 => ((nn.toInt < 0 ∨ (tI M 2 1).toInt < nn.toInt) ∧ r.toInt = -2 ∧ M2 = M) ∨ (¬ (nn.toInt < 0 ∨ (tI M 2 1).toInt < nn.toInt) ∧ cF (cG M2) M2 ∧ tI M2 2 1 = 0 ∧ ∃ J K : Nat → Int, r.toInt = pp_an (pp_tx B n J) ∧ (tI M2 1 4).toInt = (pp_tx B n J) 4 ∧ (tI M2 1 5).toInt = (pp_tx B n J) 5 ∧ ((pp_tx B n J) 4 ≠ 0 → tdC M2 rg ∧ cG M2 = Tc ∧ rR M2 M ∧ (∀ (t0 : Nat) (tx0 : Nat → Int), tT M 0 1 = some t0 → tC t0 tx0 M → tC t0 tx0 M2) ∧ ∀ o k : Nat, (o = 0 ∨ 26 < o) → tI M2 o k = tI M o k ∧ tY M2 o k = tY M o k) ∧ ((pp_tx B n J) 4 = 0 → tdC M2 (pp_tx B n J) ∧ ∃ t : Nat, (t = 3 ∨ t = 4) ∧ tC t (tX (pp_tx B n J) (qq_tx B n J K)) M2 ∧ tT M2 0 1 = some t ∧ tT M2 27 0 = some t ∧ (∃ rg2 : Nat → Int, qC 27 (bq_s0 (tX (pp_tx B n J) (qq_tx B n J K)) rg2) M2) ∧ tI M2 28 2 = 0 ∧ tI M2 0 7 = 0 ∧ tI M2 50 5 = 0 ∧ tI M2 50 6 = -1))) := by
  refine ti_eIE yp_X9_text hJ ti_LT_nd (Nat.le_of_ble_eq_true rfl) ?_
  intro p e s m args below meth c Q H0 C hE hQ hw ls hl
  have hx := C.1
  have hb := C.2.1
  have hl : lv_has ls 3 [(0, .ref (A 0 0)), (1, .int nn)] := hl
  obtain ⟨-, ⟨t1, ht1, hT1⟩, ⟨t2, ht2, hT2⟩, ⟨t, ht, hT⟩, hS, hM⟩ := id hF
  refine lv_iload_n hx hb dX9_text_0 rfl (lv_at hl 1 rfl) ?_
  refine sb_if_lt (tgt := 18) hx hb rfl dX9_text_1 (by decide) (fun c_1_0 => ?_) (fun c_1_0 => ?_)
  · refine lv_bipush (v := (-2)) hx hb dX9_text_18 (by decide) ?_
    exact hQ _ _ _ _ _ _ hw rfl (Or.inl ⟨by omega, by decide, rfl⟩) dX9_text_20
  · refine lv_iload_n hx hb dX9_text_4 rfl (lv_at hl 1 rfl) ?_
    refine lv_aload_n hx hb dX9_text_5 rfl (lv_at hl 0 rfl) ?_
    refine ti_get (ci := 9) (k := 0) (N := 10) (T := TX9) (v := .ref (A 1 0)) C hw iw_9 rfl ob_0 (by decide) (by decide) fl_X9_12 rfl rfl dX9_text_6 ?_
    refine ti_get (ci := 4) (k := 0) (N := 6) (T := TX4) (v := .ref (A 2 0)) C hw iw_4 rfl ob_1 (by decide) (by decide) fl_X9_69 rfl rfl dX9_text_9 ?_
    refine ti_get (ci := 7) (k := 1) (N := 7) (T := TX7) C hw iw_7 rfl ob_2 (by decide) (by decide) fl_X9_73 rfl rfl dX9_text_12 ?_
    refine lv_topi (fun x_2 ex_2 => ?_)
    have bx_2 : 0 ≤ x_2.toInt ∧ x_2.toInt ≤ 700 := cI_rd hI ob_2.1 ex_2
    have ux_2 : (tI M 2 1).toInt = x_2.toInt := by rw [ex_2]
    refine sb_icmp_le (tgt := 21) hx hb rfl rfl dX9_text_15 (by decide) (fun c_15_2 => ?_) (fun c_15_2 => ?_)
    · refine lv_aload_n hx hb dX9_text_21 rfl (lv_at hl 0 rfl) ?_
      refine ti_get (ci := 9) (k := 0) (N := 10) (T := TX9) (v := .ref (A 1 0)) C hw iw_9 rfl ob_0 (by decide) (by decide) fl_X9_12 rfl rfl dX9_text_22 ?_
      refine ti_get (ci := 4) (k := 0) (N := 6) (T := TX4) (v := .ref (A 2 0)) C hw iw_4 rfl ob_1 (by decide) (by decide) fl_X9_69 rfl rfl dX9_text_25 ?_
      refine lv_iconst (v := 0) hx hb dX9_text_28 (by decide) ?_
      refine ti_putI (ci := 7) (k := 1) (N := 7) (T := TX7) C hw iw_7 tyX7 tyX7_ok nmX7 rfl ob_2 (by decide) (by decide) fl_X9_73 rfl rfl rfl rfl (fn_7 A _) fs_7_1 dX9_text_29 (fun H locs hw => ?_)
      obtain ⟨M_4, hM_4⟩ : ∃ z : ti_M, z = uI M 2 1 0 := ⟨_, rfl⟩
      have hw := hw.to hM_4.symm
      have iM_4 : cI Tc M_4 := cI_uI hI hM_4 ob_2.1 (ib_mk (lo := 0) (hi := 700) (by decide) (by decide))
      have vM_4 : (tI M_4 2 1).toInt = 0 := by rw [tI_uE hM_4]; decide
      refine lv_aload_n hx hb dX9_text_32 rfl (lv_at hl 0 rfl) ?_
      refine ti_get (ci := 9) (k := 0) (N := 10) (T := TX9) (v := .ref (A 1 0)) C hw iw_9 rfl ob_0 (by decide) (by decide) fl_X9_12 rfl rfl dX9_text_33 ?_
      refine lv_iload_n hx hb dX9_text_36 rfl (lv_at hl 1 rfl) ?_
      refine lv_aload_n hx hb dX9_text_37 rfl (lv_at hl 0 rfl) ?_
      refine ti_get (ci := 9) (k := 2) (N := 10) (T := TX9) (v := .ref (A t2 0)) C hw iw_9 rfl ob_0 (by decide) (by decide) fl_X9_23 rfl (ti_Tv ((tT_uIE hM_4).trans hT2)) dX9_text_38 ?_
      refine ti_callViE (ci := 4) (av := [.int nn, .ref (A t2 0)]) C hE hw (x_X4_read l D A cy hJ M_4 iM_4 t2 ht2 nn (by omega) (by omega) B n hB hn) ⟨ml_X9_83, ym_X4_read, yv_X4_read, yi_X4_read, yc_X4_read⟩ yd_X4_read ob_1 (by decide) rfl rfl hl.1 (Nat.le_of_ble_eq_true rfl) ⟨by decide, by decide⟩ ⟨Nat.zero_le _, Nat.zero_le _⟩ dX9_text_41 (fun r_5 M_6 H locs hp_6 hw => ?_)
      obtain ⟨iM_6, q_7, q_8, q_9, q_10, p0r_5⟩ := hp_6
      obtain ⟨J, K, hJr, hJq, hJ4⟩ := p0r_5
      rcases hJ4 with ⟨rfl, hJ4⟩ | ⟨rfl, hJ4⟩
      · refine sb_if_ne (tgt := 49) hx hb (by decide : (1 : Int32).toInt = 1) dX9_text_44 (by decide) (fun c_44_10 => ?_) (fun h => absurd h (by decide))
        refine lv_aload_n hx hb dX9_text_49 rfl (lv_at hl 0 rfl) ?_
        refine ti_get (ci := 9) (k := 1) (N := 10) (T := TX9) (v := .ref (A t1 0)) C hw iw_9 rfl ob_0 (by decide) (by decide) fl_X9_19 rfl (ti_Tv ((q_7 0 1 (by decide)).trans ((tT_uIE hM_4).trans hT1))) dX9_text_50 ?_
        refine lv_astore_n (lv' := [(2, .ref (A t1 0)), (0, .ref (A 0 0)), (1, .int nn)]) hx hb dX9_text_53 rfl hl (by decide) rfl (fun ls hl => ?_)
        refine lv_aload_n hx hb dX9_text_54 rfl (lv_at hl 1 rfl) ?_
        refine lv_aload_n hx hb dX9_text_55 rfl (lv_at hl 1 rfl) ?_
        refine ti_get (ci := 9) (k := 2) (N := 10) (T := TX9) (v := .ref (A t2 0)) C hw iw_9 rfl ob_0 (by decide) (by decide) fl_X9_23 rfl (ti_Tv ((q_7 0 2 (by decide)).trans ((tT_uIE hM_4).trans hT2))) dX9_text_56 ?_
        refine ti_putT (ci := 9) (k := 1) (N := 10) (T := TX9) C hw iw_9 tyX9 tyX9_ok nmX9 rfl ob_0 (by decide) (by decide) fl_X9_19 rfl rfl rfl rfl (fn_9 A _) fs_9_1 dX9_text_59 (fun H locs hw => ?_)
        obtain ⟨M_13, hM_13⟩ : ∃ z : ti_M, z = uT M_6 0 1 (some t2) := ⟨_, rfl⟩
        have hw := hw.to hM_13.symm
        have iM_13 : cI Tc M_13 := cI_uT iM_6 hM_13
        refine lv_aload_n hx hb dX9_text_62 rfl (lv_at hl 1 rfl) ?_
        refine lv_aload_n hx hb dX9_text_63 rfl (lv_at hl 0 rfl) ?_
        refine ti_putT (ci := 9) (k := 2) (N := 10) (T := TX9) C hw iw_9 tyX9 tyX9_ok nmX9 rfl ob_0 (by decide) (by decide) fl_X9_23 rfl rfl rfl rfl (fn_9 A _) fs_9_2 dX9_text_64 (fun H locs hw => ?_)
        obtain ⟨M_14, hM_14⟩ : ∃ z : ti_M, z = uT M_13 0 2 (some t1) := ⟨_, rfl⟩
        have hw := hw.to hM_14.symm
        have iM_14 : cI Tc M_14 := cI_uT iM_13 hM_14
        refine lv_aload_n hx hb dX9_text_67 rfl (lv_at hl 1 rfl) ?_
        refine ti_get (ci := 9) (k := 3) (N := 10) (T := TX9) (v := .ref (A 27 0)) C hw iw_9 rfl ob_0 (by decide) (by decide) fl_X9_29 rfl rfl dX9_text_68 ?_
        refine lv_aload_n hx hb dX9_text_71 rfl (lv_at hl 1 rfl) ?_
        refine ti_get (ci := 9) (k := 1) (N := 10) (T := TX9) (v := .ref (A t2 0)) C hw iw_9 rfl ob_0 (by decide) (by decide) fl_X9_19 rfl (ti_Tv ((tT_nE hM_14 (nk (by decide))).trans (tT_uE hM_13))) dX9_text_72 ?_
        have tCP : tC t2 (tX (pp_tx B n J) (qq_tx B n J K)) M_14 := tC_lo ht2 (tC_rq hJr hJq) (fun o k _ _ => ⟨tI_fr (((ra_T hM_14).trans (ra_T hM_13))), tY_fr (((ry_T hM_14).trans (ry_T hM_13)))⟩)
        refine ti_callVv (ci := 3) (av := [.ref (A t2 0)]) C hw (z_X3_start l D A cy hJ M_14 iM_14 27 t2 ob_27 ht2 (tX (pp_tx B n J) (qq_tx B n J K)) (qQ 27 M_14) tCP qC_Q) ⟨ml_X9_65, ym_X3_start, yv_X3_start, yi_X3_start, yc_X3_start⟩ yd_X3_start ob_27 (by decide) rfl rfl hl.1 (Nat.le_of_ble_eq_true rfl) ⟨by decide, by decide⟩ ⟨Nat.zero_le _, Nat.zero_le _⟩ dX9_text_75 (fun M_16 H locs hp_16 hw => ?_)
        obtain ⟨iM_16, q_17, q_18, p0r_15⟩ := hp_16
        have q_19 := fX_eo q_18
        refine lv_aload_n hx hb dX9_text_78 rfl (lv_at hl 1 rfl) ?_
        refine ti_get (ci := 9) (k := 5) (N := 10) (T := TX9) (v := .ref (A 28 0)) C hw iw_9 rfl ob_0 (by decide) (by decide) fl_X9_40 rfl rfl dX9_text_79 ?_
        refine ti_callVv (ci := 5) (av := []) C hw (s_X5_clear l D A cy hJ M_16 iM_16 ) ⟨ml_X9_87, ym_X5_clear, yv_X5_clear, yi_X5_clear, yc_X5_clear⟩ yd_X5_clear ob_28 (by decide) rfl rfl hl.1 (Nat.le_of_ble_eq_true rfl) ⟨by decide, by decide⟩ ⟨Nat.zero_le _, Nat.zero_le _⟩ dX9_text_82 (fun M_21 H locs hp_21 hw => ?_)
        have hM_21 := hp_21
        have iM_21 : cI Tc M_21 := cI_uI iM_16 hM_21 ob_28.1 (ib_mk (lo := 0) (hi := 20) (by decide) (by decide))
        refine lv_aload_n hx hb dX9_text_85 rfl (lv_at hl 1 rfl) ?_
        refine ti_get (ci := 9) (k := 8) (N := 10) (T := TX9) (v := .ref (A 50 0)) C hw iw_9 rfl ob_0 (by decide) (by decide) fl_X9_54 rfl rfl dX9_text_86 ?_
        refine ti_callVv (ci := 6) (av := []) C hw (z_X6_clear l D A cy hJ M_21 iM_21 ) ⟨ml_X9_90, ym_X6_clear, yv_X6_clear, yi_X6_clear, yc_X6_clear⟩ yd_X6_clear ob_50 (by decide) rfl rfl hl.1 (Nat.le_of_ble_eq_true rfl) ⟨by decide, by decide⟩ ⟨Nat.zero_le _, Nat.zero_le _⟩ dX9_text_89 (fun M_23 H locs hp_23 hw => ?_)
        obtain ⟨iM_23, q_24, q_25, q_26, q_27⟩ := hp_23
        have q_28 := fX_50 q_25
        refine lv_aload_n hx hb dX9_text_92 rfl (lv_at hl 1 rfl) ?_
        refine lv_iconst (v := 0) hx hb dX9_text_93 (by decide) ?_
        refine ti_putI (ci := 9) (k := 7) (N := 10) (T := TX9) C hw iw_9 tyX9 tyX9_ok nmX9 rfl ob_0 (by decide) (by decide) fl_X9_47 rfl rfl rfl rfl (fn_9 A _) fs_9_7 dX9_text_94 (fun H locs hw => ?_)
        obtain ⟨M_29, hM_29⟩ : ∃ z : ti_M, z = uI M_23 0 7 0 := ⟨_, rfl⟩
        have hw := hw.to hM_29.symm
        have iM_29 : cI (cG M_23) M_29 := cI_uI iM_23 hM_29 ob_0.1 trivial
        refine lv_aload_n hx hb dX9_text_97 rfl (lv_at hl 1 rfl) ?_
        refine ti_get (ci := 9) (k := 1) (N := 10) (T := TX9) (v := .ref (A t2 0)) C hw iw_9 rfl ob_0 (by decide) (by decide) fl_X9_19 rfl (ti_Tv ((tT_uIE hM_29).trans ((tT_fr q_24).trans ((tT_uIE hM_21).trans ((tT_fr q_17).trans ((tT_n _ _ _ _ (nk (by decide))).trans ((tT_nE hM_14 (nk (by decide))).trans (tT_uE hM_13)))))))) dX9_text_98 ?_
        refine ti_get (ci := 8) (k := 3) (N := 12) (T := TX8) C hw iw_8 rfl (ob_t ht2) (by decide) (by decide) fl_X9_91 rfl rfl dX9_text_101 ?_
        refine lv_topi (fun x_30 ex_30 => ?_)
        have lo9 : ∀ o k : Nat, 1 ≤ o → o ≤ 27 → tI M_29 o k = tI M_16 o k ∧ tY M_29 o k = tY M_16 o k := fun o k a b => ⟨(tI_nE hM_29 (no (by omega))).trans ((q_25.1 o k (by omega)).trans (tI_nE hM_21 (no (by omega)))), (tY_uIE hM_29).trans ((q_25.2 o k (by omega)).trans (tY_uIE hM_21))⟩
        exact hQ _ _ _ _ _ _ hw rfl (Or.inr ⟨by omega, cF_self (cF_mk iM_29 ⟨t2, ht2, ((tT_uIE hM_29).trans ((tT_fr q_24).trans ((tT_uIE hM_21).trans ((tT_fr q_17).trans ((tT_n _ _ _ _ (nk (by decide))).trans ((tT_nE hM_14 (nk (by decide))).trans (tT_uE hM_13)))))))⟩ ⟨t1, ht1, ((tT_uIE hM_29).trans ((tT_fr q_24).trans ((tT_uIE hM_21).trans ((tT_fr q_17).trans ((tT_n _ _ _ _ (nk (by decide))).trans (tT_uE hM_14))))))⟩ ⟨t2, ht2, ((tT_uIE hM_29).trans ((tT_fr q_24).trans ((tT_uIE hM_21).trans ((tT_fr q_17).trans (tT_u _ _ _ _)))))⟩ (by rw [((tI_nE hM_29 (nk (by decide))).trans (((q_28 2).2.2.1).trans (tI_uE hM_21)))]; decide) (by rw [(tI_uE hM_29)]; decide)), ((tI_nE hM_29 (nk (by decide))).trans (((q_28 1).2.1).trans ((tI_nE hM_21 (nk (by decide))).trans (((q_19 1).2.1).trans ((tI_uTE hM_14).trans ((tI_uTE hM_13).trans ((q_9).trans (tI_uE hM_4)))))))), J, K, (by unfold pp_an; rw [if_pos hJ4, hJr.2.2.2.1.2.2]; exact (congrArg Int32.toInt (ex_30.symm)).symm.trans (congrArg Int32.toInt (((tI_nE hM_29 (nk (by decide))).trans (((q_28 3).2.2.2 t2 (by omega)).trans ((tI_nE hM_21 (nk (by decide))).trans (((q_19 3).2.2.2 t2 (by omega)).trans ((tI_uTE hM_14).trans (tI_uTE hM_13))))))))), (congrArg Int32.toInt (((tI_nE hM_29 (nk (by decide))).trans (((q_28 4).2.2.2 1 (by decide)).trans ((tI_nE hM_21 (nk (by decide))).trans (((q_19 4).2.2.2 1 (by decide)).trans ((tI_uTE hM_14).trans (tI_uTE hM_13)))))))).trans hJr.2.2.1.1.symm, (congrArg Int32.toInt (((tI_nE hM_29 (nk (by decide))).trans (((q_28 5).2.2.2 1 (by decide)).trans ((tI_nE hM_21 (nk (by decide))).trans (((q_19 5).2.2.2 1 (by decide)).trans ((tI_uTE hM_14).trans (tI_uTE hM_13)))))))).trans hJr.2.2.1.2.1.symm, (fun q => absurd hJ4 q), (fun _ => ⟨tdC_rc htd ht2 hT1 hT2 hJr (fun o k a b => ((lo9 o k a (by omega)).1.trans (q_18.1 o k (by omega))).trans (tI_fr (((ra_T hM_14).trans (ra_T hM_13))))) ((tT_uIE hM_29).trans ((tT_fr q_24).trans ((tT_uIE hM_21).trans ((tT_fr q_17).trans ((tT_n _ _ _ _ (nk (by decide))).trans ((tT_nE hM_14 (nk (by decide))).trans (tT_uE hM_13))))))) ((tT_uIE hM_29).trans ((tT_fr q_24).trans ((tT_uIE hM_21).trans ((tT_fr q_17).trans ((tT_n _ _ _ _ (nk (by decide))).trans (tT_uE hM_14)))))), t2, ht2, tC_lo ht2 (tC_eo ht2 ob_27.1 tCP q_18) (fun o k a b => lo9 o k a (by omega)), ((tT_uIE hM_29).trans ((tT_fr q_24).trans ((tT_uIE hM_21).trans ((tT_fr q_17).trans ((tT_n _ _ _ _ (nk (by decide))).trans ((tT_nE hM_14 (nk (by decide))).trans (tT_uE hM_13))))))), ((tT_uIE hM_29).trans ((tT_fr q_24).trans ((tT_uIE hM_21).trans ((tT_fr q_17).trans (tT_u _ _ _ _))))), ⟨_, qC_same p0r_15 (fun k => lo9 27 k (by decide) (by decide))⟩, ((tI_nE hM_29 (nk (by decide))).trans (((q_28 2).2.2.1).trans (tI_uE hM_21))), (tI_uE hM_29), (tI_nE hM_29 (no (by decide))).trans q_26, (tI_nE hM_29 (no (by decide))).trans q_27⟩)⟩) dX9_text_104
      · refine sb_if_ne (tgt := 49) hx hb (by decide : (0 : Int32).toInt = 0) dX9_text_44 (by decide) (fun h => absurd h (by decide)) (fun c_44_11 => ?_)
        refine lv_iconst (v := (-1)) hx hb dX9_text_47 (by decide) ?_
        have OT9 := (ot.trans q_10 (ot_I ht2 hM_4 (by omega)))
        have sp9 := tdC_sp htd hT1 hT2
        exact hQ _ _ _ _ _ _ hw rfl (Or.inr ⟨by omega, cF_self (cF_rr hF iM_6 (rR.trans q_7 (rr_of (rf_I hM_4))) (f0.trans q_8 (f0_I hM_4 (by decide)))), ((q_9).trans (tI_uE hM_4)), J, K, (by unfold pp_an; rw [if_neg hJ4]; decide), hJr.2.2.1.1.symm, hJr.2.2.1.2.1.symm, (fun _ => ⟨tdC_ot htd hT1 hT2 OT9 ((q_7 0 1 (by decide)).trans ((tT_uIE hM_4).trans hT1)) ((q_7 0 2 (by decide)).trans ((tT_uIE hM_4).trans hT2)), iM_6.2.2, (rR.trans q_7 (rr_of (rf_I hM_4))), fun t0 tx0 e0 h0 => by
        obtain rfl : t1 = t0 := Option.some.inj (hT1.symm.trans e0)
        exact tC_ot sp9 ht2 h0 OT9, OT9.2.2.2.2⟩), (fun q => absurd q hJ4)⟩) dX9_text_48
    · refine lv_bipush (v := (-2)) hx hb dX9_text_18 (by decide) ?_
      exact hQ _ _ _ _ _ _ hw rfl (Or.inl ⟨by omega, by decide, rfl⟩) dX9_text_20

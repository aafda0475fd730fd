variable {Tc : gC} {Tm : gM}
/-- all but the queue that is and the log stays -/
def kP (N M : ti_M) : Prop := (∀ o k : Nat, o ≠ 27 → tI N o k = tI M o k) ∧ ∀ o k : Nat, o ≠ 27 → ¬ (o = 0 ∧ k = 4) → tY N o k = tY M o k
/-- all but the image stays -/
def kK (N M : ti_M) : Prop := (∀ o k : Nat, o ≠ 49 → ¬ (o = 0 ∧ k = 7) → tI N o k = tI M o k) ∧ (∀ o k : Nat, o ≠ 49 → tY N o k = tY M o k) ∧ tT N 0 1 = tT M 0 1 ∧ tT N 0 2 = tT M 0 2
section
variable {t : Nat} {tx s s2 p p2 : Nat → Int} {u : Nat → Nat → Int} {c : Int} {K N M : ti_M}
theorem kP.refl : kP M M := ⟨fun _ _ _ => rfl, fun _ _ _ _ => rfl⟩
theorem kP.trans (x : kP K N) (y : kP N M) : kP K M := ⟨fun o k h => (x.1 o k h).trans (y.1 o k h), fun o k h q => (x.2 o k h q).trans (y.2 o k h q)⟩
theorem kP_eo (E : eo 27 N M) : kP N M := ⟨fun o k h => E.1 o k h, fun o k h _ => E.2 o k h⟩
theorem kP_ai (e : N.1 = M.1) (h : ∀ o k : Nat, ¬ (o = 0 ∧ k = 4) → tY N o k = tY M o k) : kP N M := ⟨fun _ _ _ => tI_fr e, fun o k _ q => h o k q⟩
theorem kP_fX (h : kP N M) : fX N M := fun k => ⟨h.1 0 k (by decide), h.1 2 k (by decide), h.1 28 k (by decide), fun o q => h.1 o k (by omega)⟩
theorem kP_kG (h : kP N M) (T : N.2.2.2 = M.2.2.2) : kG N M := ⟨fun o k q => ⟨h.1 o k (by omega), fun r => h.2 o k (by omega) r⟩, tT_fr T, tT_fr T, tT_fr T⟩
theorem kP_kC (ht : t = 3 ∨ t = 4) (h : kC t tx s u c p M) (x : kP N M) (T : N.2.2.2 = M.2.2.2) (hq : qC 27 s2 N) (hp : pC p2 N) : kC t tx s2 u c p2 N :=
  ⟨tC_kG ht h.1 (kP_kG x T), (tT_fr T).trans h.2.1, (tT_fr T).trans h.2.2.1, hq, rg5_to h.2.2.2.2.1 (fun o k a b => ⟨x.1 o k (by omega), x.2 o k (by omega) (by omega)⟩) (fun _ _ _ => tT_fr T), hp⟩
theorem kG_clear (e : N = uI M 28 2 0) : kG N M := ⟨fun o k q => ⟨tI_nE e (no (by omega)), fun _ => tY_uIE e⟩, tT_uIE e, tT_uIE e, tT_uIE e⟩
theorem kC_clear (ht : t = 3 ∨ t = 4) (h : kC t tx s u c p M) (e : N = uI M 28 2 0) : kC t tx s u 0 p N :=
  ⟨tC_kG ht h.1 (kG_clear e), (tT_uIE e).trans h.2.1, (tT_uIE e).trans h.2.2.1, qC_same h.2.2.2.1 (fun k => ⟨tI_nE e (no (by decide)), tY_uIE e⟩), ⟨by rw [tI_uE e]; decide, fun i hi => by omega⟩, pC_to h.2.2.2.2.2 (tY_uIE e)⟩
end
set_option maxHeartbeats 4000000 in
set_option maxRecDepth 100000 in
theorem z_X9_recordHolders (l : Launch) (D : va_G) (A : Nat → Nat → Nat) (cy : Nat → ClassId) (hJ : ti_inj ti_LT A) (M : ti_M) (hI : cI Tc M)  (rg lp : Nat → Int) (hs : qC 27 rg M) (hp0 : pC lp M) (mi : Int32) (h1 : 0 ≤ mi.toInt) (h2 : mi.toInt ≤ 119) : ti_Kv l yX9_recordHolders cX9_recordHolders 3 1 ti_LT D A cy M [.ref (A 0 0), .int mi] (fun M2 => cI Tc M2 ∧ M2.2.2.2 = M.2.2.2 ∧ M2.1 = M.1 ∧ (∀ o k : Nat, ¬ (o = 0 ∧ k = 4) → tY M2 o k = tY M o k) ∧ pC (bq_hp rg mi.toInt.toNat lp) M2) := by
  refine ti_eV yp_X9_recordHolders hJ ti_LT_nd (Nat.le_of_ble_eq_true rfl) ?_
  intro p e s m args below meth c Q H0 C hQ hw ls hl
  have hx := C.1
  have hb := C.2.1
  have hl : lv_has ls 3 [(0, .ref (A 0 0)), (1, .int mi)] := hl
  refine lv_iconst (v := 0) hx hb dX9_recordHolders_0 (by decide) ?_
  refine lv_istore_n (lv' := [(2, .int 0), (0, .ref (A 0 0)), (1, .int mi)]) hx hb dX9_recordHolders_1 rfl hl (by decide) rfl (fun ls hl => ?_)
  refine lv_iload_n hx hb dX9_recordHolders_2 rfl (lv_at hl 0 rfl) ?_
  refine lv_iconst (v := 3) hx hb dX9_recordHolders_3 (by decide) ?_
  refine sb_icmp_ge (tgt := 40) hx hb (by decide : (0 : Int32).toInt = 0) (by decide : (3 : Int32).toInt = 3) dX9_recordHolders_4 (by decide) (fun h => absurd h (by decide)) (fun c_4_0 => ?_)
  refine lv_aload_n hx hb dX9_recordHolders_7 rfl (lv_at hl 1 rfl) ?_
  refine ti_get (ci := 9) (k := 4) (N := 10) (T := TX9) (v := .ref (A 0 5)) C hw iw_9 rfl ob_0 (by decide) (by decide) fl_X9_33 rfl rfl dX9_recordHolders_8 ?_
  refine lv_iload_n hx hb dX9_recordHolders_11 rfl (lv_at hl 0 rfl) ?_
  refine lv_bipush (v := 120) hx hb dX9_recordHolders_12 (by decide) ?_
  refine lv_imul hx hb dX9_recordHolders_14 ?_
  refine ti_top (y := 0) (by decide) ?_
  refine lv_iload_n hx hb dX9_recordHolders_15 rfl (lv_at hl 2 rfl) ?_
  refine lv_iadd hx hb dX9_recordHolders_16 ?_
  refine lv_topi (fun x_2 ex_2 => ?_)
  have tx_2 : x_2.toInt = 0 + mi.toInt := i_add ex_2 (by decide : (0 : Int32).toInt = 0) rfl (by omega) (by omega)
  refine lv_aload_n hx hb dX9_recordHolders_17 rfl (lv_at hl 1 rfl) ?_
  refine ti_get (ci := 9) (k := 3) (N := 10) (T := TX9) (v := .ref (A 27 0)) C hw iw_9 rfl ob_0 (by decide) (by decide) fl_X9_29 rfl rfl dX9_recordHolders_18 ?_
  refine lv_aload_n hx hb dX9_recordHolders_21 rfl (lv_at hl 1 rfl) ?_
  refine ti_get (ci := 9) (k := 3) (N := 10) (T := TX9) (v := .ref (A 27 0)) C hw iw_9 rfl ob_0 (by decide) (by decide) fl_X9_29 rfl rfl dX9_recordHolders_22 ?_
  refine ti_get (ci := 3) (k := 7) (N := 17) (T := TX3) (v := .ref (A 27 8)) C hw iw_3 rfl ob_27 (by decide) (by decide) fl_X9_168 rfl rfl dX9_recordHolders_25 ?_
  refine lv_iload_n hx hb dX9_recordHolders_28 rfl (lv_at hl 0 rfl) ?_
  refine ti_iald (ci := 3) (k := 7) (n := 3) C hw ob_27 (by decide) (fun _ _ => rfl) (by unfold vp_in; decide) dX9_recordHolders_29 ?_
  refine lv_topi (fun x_3 ex_3 => ?_)
  have L_4 : rg 112 = x_3.toInt := (hs.2 7 0 (by decide) (by decide) (by decide) (by decide)).trans (congrArg Int32.toInt ex_3.symm)
  refine ti_callVi (ci := 3) (av := [.int x_3]) C hw (z_X3_manAt l D A cy hJ M hI 27 ob_27 x_3 rg hs) ⟨ml_X9_162, ym_X3_manAt, yv_X3_manAt, yi_X3_manAt, yc_X3_manAt⟩ yd_X3_manAt ob_27 (by decide) rfl rfl hl.1 (Nat.le_of_ble_eq_true rfl) ⟨by decide, by decide⟩ ⟨Nat.zero_le _, Nat.zero_le _⟩ dX9_recordHolders_30 (fun r_5 M_6 H locs hp_6 hw => ?_)
  obtain ⟨hm, b0r_5, b1r_5, pr_5, p0r_5⟩ := hp_6
  have hw := hw.to hm
  refine ti_iast (ci := 9) (k := 4) (n := 360) C hw ob_0 (by decide) (fun _ _ => rfl) (vp_in_iff.mpr (by omega)) dX9_recordHolders_33 (fun H locs hw => ?_)
  obtain ⟨M_7, hM_7⟩ : ∃ z : ti_M, z = uY M 0 4 (upd (tY M 0 4) (x_2 : Int32).toNatClampNeg r_5) := ⟨_, rfl⟩
  have hw := hw.to hM_7.symm
  have iM_7 : cI Tc M_7 := cI_up hI hM_7 ob_0.1 trivial
  have hs_8 : qC 27 rg M_7 := qC_same hs (fun k => ⟨tI_uYE hM_7, tY_nE hM_7 (no (by decide))⟩)
  have hp_9 : pC (pp_su lp (mi.toInt.toNat) r_5.toInt) M_7 := pC_Y (i := x_2) hp0 (by omega) rfl hM_7
  refine lv_iinc (v := 1) (lv' := [(2, .int 1), (0, .ref (A 0 0)), (1, .int mi)]) hx hb dX9_recordHolders_34 hl (k := 0) rfl (by decide) (by decide) rfl (fun ls hl => ?_)
  refine lv_goto (tgt := 2) hx hb dX9_recordHolders_37 (by decide) ?_
  refine lv_iload_n hx hb dX9_recordHolders_2 rfl (lv_at hl 0 rfl) ?_
  refine lv_iconst (v := 3) hx hb dX9_recordHolders_3 (by decide) ?_
  refine sb_icmp_ge (tgt := 40) hx hb (by decide : (1 : Int32).toInt = 1) (by decide : (3 : Int32).toInt = 3) dX9_recordHolders_4 (by decide) (fun h => absurd h (by decide)) (fun c_4_9 => ?_)
  refine lv_aload_n hx hb dX9_recordHolders_7 rfl (lv_at hl 1 rfl) ?_
  refine ti_get (ci := 9) (k := 4) (N := 10) (T := TX9) (v := .ref (A 0 5)) C hw iw_9 rfl ob_0 (by decide) (by decide) fl_X9_33 rfl rfl dX9_recordHolders_8 ?_
  refine lv_iload_n hx hb dX9_recordHolders_11 rfl (lv_at hl 0 rfl) ?_
  refine lv_bipush (v := 120) hx hb dX9_recordHolders_12 (by decide) ?_
  refine lv_imul hx hb dX9_recordHolders_14 ?_
  refine ti_top (y := 120) (by decide) ?_
  refine lv_iload_n hx hb dX9_recordHolders_15 rfl (lv_at hl 2 rfl) ?_
  refine lv_iadd hx hb dX9_recordHolders_16 ?_
  refine lv_topi (fun x_11 ex_11 => ?_)
  have tx_11 : x_11.toInt = 120 + mi.toInt := i_add ex_11 (by decide : (120 : Int32).toInt = 120) rfl (by omega) (by omega)
  refine lv_aload_n hx hb dX9_recordHolders_17 rfl (lv_at hl 1 rfl) ?_
  refine ti_get (ci := 9) (k := 3) (N := 10) (T := TX9) (v := .ref (A 27 0)) C hw iw_9 rfl ob_0 (by decide) (by decide) fl_X9_29 rfl rfl dX9_recordHolders_18 ?_
  refine lv_aload_n hx hb dX9_recordHolders_21 rfl (lv_at hl 1 rfl) ?_
  refine ti_get (ci := 9) (k := 3) (N := 10) (T := TX9) (v := .ref (A 27 0)) C hw iw_9 rfl ob_0 (by decide) (by decide) fl_X9_29 rfl rfl dX9_recordHolders_22 ?_
  refine ti_get (ci := 3) (k := 7) (N := 17) (T := TX3) (v := .ref (A 27 8)) C hw iw_3 rfl ob_27 (by decide) (by decide) fl_X9_168 rfl rfl dX9_recordHolders_25 ?_
  refine lv_iload_n hx hb dX9_recordHolders_28 rfl (lv_at hl 0 rfl) ?_
  refine ti_iald (ci := 3) (k := 7) (n := 3) C hw ob_27 (by decide) (fun _ _ => rfl) (by unfold vp_in; decide) dX9_recordHolders_29 ?_
  refine lv_topi (fun x_12 ex_12 => ?_)
  have L_13 : rg 113 = x_12.toInt := (hs_8.2 7 1 (by decide) (by decide) (by decide) (by decide)).trans (congrArg Int32.toInt ex_12.symm)
  refine ti_callVi (ci := 3) (av := [.int x_12]) C hw (z_X3_manAt l D A cy hJ M_7 iM_7 27 ob_27 x_12 rg hs_8) ⟨ml_X9_162, ym_X3_manAt, yv_X3_manAt, yi_X3_manAt, yc_X3_manAt⟩ yd_X3_manAt ob_27 (by decide) rfl rfl hl.1 (Nat.le_of_ble_eq_true rfl) ⟨by decide, by decide⟩ ⟨Nat.zero_le _, Nat.zero_le _⟩ dX9_recordHolders_30 (fun r_14 M_15 H locs hp_15 hw => ?_)
  obtain ⟨hm, b0r_14, b1r_14, pr_14, p0r_14⟩ := hp_15
  have hw := hw.to hm
  refine ti_iast (ci := 9) (k := 4) (n := 360) C hw ob_0 (by decide) (fun _ _ => rfl) (vp_in_iff.mpr (by omega)) dX9_recordHolders_33 (fun H locs hw => ?_)
  obtain ⟨M_16, hM_16⟩ : ∃ z : ti_M, z = uY M_7 0 4 (upd (tY M_7 0 4) (x_11 : Int32).toNatClampNeg r_14) := ⟨_, rfl⟩
  have hw := hw.to hM_16.symm
  have iM_16 : cI Tc M_16 := cI_up iM_7 hM_16 ob_0.1 trivial
  have hs_17 : qC 27 rg M_16 := qC_same hs_8 (fun k => ⟨tI_uYE hM_16, tY_nE hM_16 (no (by decide))⟩)
  have hp_18 : pC (pp_su (pp_su lp (mi.toInt.toNat) r_5.toInt) (120 + mi.toInt.toNat) r_14.toInt) M_16 := pC_Y (i := x_11) hp_9 (by omega) rfl hM_16
  refine lv_iinc (v := 2) (lv' := [(2, .int 2), (0, .ref (A 0 0)), (1, .int mi)]) hx hb dX9_recordHolders_34 hl (k := 0) rfl (by decide) (by decide) rfl (fun ls hl => ?_)
  refine lv_goto (tgt := 2) hx hb dX9_recordHolders_37 (by decide) ?_
  refine lv_iload_n hx hb dX9_recordHolders_2 rfl (lv_at hl 0 rfl) ?_
  refine lv_iconst (v := 3) hx hb dX9_recordHolders_3 (by decide) ?_
  refine sb_icmp_ge (tgt := 40) hx hb (by decide : (2 : Int32).toInt = 2) (by decide : (3 : Int32).toInt = 3) dX9_recordHolders_4 (by decide) (fun h => absurd h (by decide)) (fun c_4_18 => ?_)
  refine lv_aload_n hx hb dX9_recordHolders_7 rfl (lv_at hl 1 rfl) ?_
  refine ti_get (ci := 9) (k := 4) (N := 10) (T := TX9) (v := .ref (A 0 5)) C hw iw_9 rfl ob_0 (by decide) (by decide) fl_X9_33 rfl rfl dX9_recordHolders_8 ?_
  refine lv_iload_n hx hb dX9_recordHolders_11 rfl (lv_at hl 0 rfl) ?_
  refine lv_bipush (v := 120) hx hb dX9_recordHolders_12 (by decide) ?_
  refine lv_imul hx hb dX9_recordHolders_14 ?_
  refine ti_top (y := 240) (by decide) ?_
  refine lv_iload_n hx hb dX9_recordHolders_15 rfl (lv_at hl 2 rfl) ?_
  refine lv_iadd hx hb dX9_recordHolders_16 ?_
  refine lv_topi (fun x_20 ex_20 => ?_)
  have tx_20 : x_20.toInt = 240 + mi.toInt := i_add ex_20 (by decide : (240 : Int32).toInt = 240) rfl (by omega) (by omega)
  refine lv_aload_n hx hb dX9_recordHolders_17 rfl (lv_at hl 1 rfl) ?_
  refine ti_get (ci := 9) (k := 3) (N := 10) (T := TX9) (v := .ref (A 27 0)) C hw iw_9 rfl ob_0 (by decide) (by decide) fl_X9_29 rfl rfl dX9_recordHolders_18 ?_
  refine lv_aload_n hx hb dX9_recordHolders_21 rfl (lv_at hl 1 rfl) ?_
  refine ti_get (ci := 9) (k := 3) (N := 10) (T := TX9) (v := .ref (A 27 0)) C hw iw_9 rfl ob_0 (by decide) (by decide) fl_X9_29 rfl rfl dX9_recordHolders_22 ?_
  refine ti_get (ci := 3) (k := 7) (N := 17) (T := TX3) (v := .ref (A 27 8)) C hw iw_3 rfl ob_27 (by decide) (by decide) fl_X9_168 rfl rfl dX9_recordHolders_25 ?_
  refine lv_iload_n hx hb dX9_recordHolders_28 rfl (lv_at hl 0 rfl) ?_
  refine ti_iald (ci := 3) (k := 7) (n := 3) C hw ob_27 (by decide) (fun _ _ => rfl) (by unfold vp_in; decide) dX9_recordHolders_29 ?_
  refine lv_topi (fun x_21 ex_21 => ?_)
  have L_22 : rg 114 = x_21.toInt := (hs_17.2 7 2 (by decide) (by decide) (by decide) (by decide)).trans (congrArg Int32.toInt ex_21.symm)
  refine ti_callVi (ci := 3) (av := [.int x_21]) C hw (z_X3_manAt l D A cy hJ M_16 iM_16 27 ob_27 x_21 rg hs_17) ⟨ml_X9_162, ym_X3_manAt, yv_X3_manAt, yi_X3_manAt, yc_X3_manAt⟩ yd_X3_manAt ob_27 (by decide) rfl rfl hl.1 (Nat.le_of_ble_eq_true rfl) ⟨by decide, by decide⟩ ⟨Nat.zero_le _, Nat.zero_le _⟩ dX9_recordHolders_30 (fun r_23 M_24 H locs hp_24 hw => ?_)
  obtain ⟨hm, b0r_23, b1r_23, pr_23, p0r_23⟩ := hp_24
  have hw := hw.to hm
  refine ti_iast (ci := 9) (k := 4) (n := 360) C hw ob_0 (by decide) (fun _ _ => rfl) (vp_in_iff.mpr (by omega)) dX9_recordHolders_33 (fun H locs hw => ?_)
  obtain ⟨M_25, hM_25⟩ : ∃ z : ti_M, z = uY M_16 0 4 (upd (tY M_16 0 4) (x_20 : Int32).toNatClampNeg r_23) := ⟨_, rfl⟩
  have hw := hw.to hM_25.symm
  have iM_25 : cI Tc M_25 := cI_up iM_16 hM_25 ob_0.1 trivial
  have hs_26 : qC 27 rg M_25 := qC_same hs_17 (fun k => ⟨tI_uYE hM_25, tY_nE hM_25 (no (by decide))⟩)
  have hp_27 : pC (pp_su (pp_su (pp_su lp (mi.toInt.toNat) r_5.toInt) (120 + mi.toInt.toNat) r_14.toInt) (240 + mi.toInt.toNat) r_23.toInt) M_25 := pC_Y (i := x_20) hp_18 (by omega) rfl hM_25
  refine lv_iinc (v := 3) (lv' := [(2, .int 3), (0, .ref (A 0 0)), (1, .int mi)]) hx hb dX9_recordHolders_34 hl (k := 0) rfl (by decide) (by decide) rfl (fun ls hl => ?_)
  refine lv_goto (tgt := 2) hx hb dX9_recordHolders_37 (by decide) ?_
  refine lv_iload_n hx hb dX9_recordHolders_2 rfl (lv_at hl 0 rfl) ?_
  refine lv_iconst (v := 3) hx hb dX9_recordHolders_3 (by decide) ?_
  refine sb_icmp_ge (tgt := 40) hx hb (by decide : (3 : Int32).toInt = 3) (by decide : (3 : Int32).toInt = 3) dX9_recordHolders_4 (by decide) (fun c_4_27 => ?_) (fun h => absurd h (by decide))
  have E_29 : bq_hp rg mi.toInt.toNat lp = (pp_su (pp_su (pp_su lp (mi.toInt.toNat) r_5.toInt) (120 + mi.toInt.toNat) r_14.toInt) (240 + mi.toInt.toNat) r_23.toInt) := by unfold bq_hp; rw [L_4, ← pr_5, L_13, ← pr_14, L_22, ← pr_23]
  exact hQ _ _ _ _ _ hw (⟨iM_25, ((rf_Y hM_25).trans ((rf_Y hM_16).trans (rf_Y hM_7))), ((ra_Y hM_25).trans ((ra_Y hM_16).trans (ra_Y hM_7))), fun o k q => ((tY_nE hM_25 (fun r => q ⟨r.2, r.1⟩)).trans ((tY_nE hM_16 (fun r => q ⟨r.2, r.1⟩)).trans (tY_nE hM_7 (fun r => q ⟨r.2, r.1⟩)))), by rw [E_29]; exact hp_27⟩) dX9_recordHolders_40
set_option maxHeartbeats 4000000 in
set_option maxRecDepth 100000 in
theorem z_X9_go (l : Launch) (D : va_G) (A : Nat → Nat → Nat) (cy : Nat → ClassId) (hJ : ti_inj ti_LT A) (M : ti_M) (hI : cI Tc M) (hF : cF Tc M) (t : Nat) (ht : t = 3 ∨ t = 4) (tx rg lp : Nat → Int) (ug : Nat → Nat → Int) (cu : Int) (hk : kC t tx rg ug cu lp M) (h1 : rg 1 = 0) (h5 : 0 ≤ rg 5) (nn : Int32) : ti_Ki l yX9_go cX9_go 3 (some .int) 6 ti_LT D A cy M [.ref (A 0 0), .int nn] (fun r M2 => (¬ (0 ≤ nn.toInt ∧ nn.toInt ≤ 120 - rg 2) ∧ r.toInt = -1 ∧ M2 = M) ∨ ((0 ≤ nn.toInt ∧ nn.toInt ≤ 120 - rg 2) ∧ r.toInt = rg 2 + nn.toInt ∧ cF Tc M2 ∧ kG M2 M ∧ kC t tx (bq_pl tx nn.toInt.toNat rg) ug (if 0 < nn.toInt then 0 else cu) (bq_gh tx nn.toInt.toNat rg lp) M2)) := by
  refine ti_eI yp_X9_go hJ ti_LT_nd (Nat.le_of_ble_eq_true rfl) ?_
  intro p e s m args below meth c Q H0 C hQ hw ls hl
  have hx := C.1
  have hb := C.2.1
  have hl : lv_has ls 3 [(0, .ref (A 0 0)), (1, .int nn)] := hl
  obtain ⟨htx, hT1, hT, hs, hr, hp0⟩ := id hk
  have l4 : 0 ≤ tx 4 ∧ tx 4 ≤ 8 := by rw [htx.1 4 (by decide) (by decide)]; exact cI_rd (k := 4) hI (ob_t ht).1 rfl
  have h4 : tx 4 = (tI M t 4).toInt := htx.1 4 (by decide) (by decide)
  refine lv_iload_n hx hb dX9_go_0 rfl (lv_at hl 1 rfl) ?_
  refine sb_if_lt (tgt := 18) hx hb rfl dX9_go_1 (by decide) (fun c_1_0 => ?_) (fun c_1_0 => ?_)
  · refine lv_iconst (v := (-1)) hx hb dX9_go_18 (by decide) ?_
    exact hQ _ _ _ _ _ _ hw rfl (Or.inl ⟨by omega, by decide, rfl⟩) dX9_go_19
  · refine lv_iload_n hx hb dX9_go_4 rfl (lv_at hl 1 rfl) ?_
    refine lv_bipush (v := 120) hx hb dX9_go_5 (by decide) ?_
    refine lv_aload_n hx hb dX9_go_7 rfl (lv_at hl 0 rfl) ?_
    refine ti_get (ci := 9) (k := 3) (N := 10) (T := TX9) (v := .ref (A 27 0)) C hw iw_9 rfl ob_0 (by decide) (by decide) fl_X9_29 rfl rfl dX9_go_8 ?_
    refine ti_get (ci := 3) (k := 2) (N := 17) (T := TX3) C hw iw_3 rfl ob_27 (by decide) (by decide) fl_X9_186 rfl rfl dX9_go_11 ?_
    refine lv_topi (fun x_2 ex_2 => ?_)
    have bx_2 : 0 ≤ x_2.toInt ∧ x_2.toInt ≤ 120 := cI_rd hI ob_27.1 ex_2 (Or.inl rfl)
    have ux_2 : (tI M 27 2).toInt = x_2.toInt := by rw [ex_2]
    have L_3 : rg 2 = x_2.toInt := ((hs.1 2 (by decide) (by decide)).trans (congrArg Int32.toInt (ex_2.symm))).trans rfl
    refine lv_isub hx hb dX9_go_14 ?_
    refine lv_topi (fun x_4 ex_4 => ?_)
    have tx_4 : x_4.toInt = 120 - x_2.toInt := i_sub ex_4 (by decide : (120 : Int32).toInt = 120) rfl (by omega) (by omega)
    refine sb_icmp_le (tgt := 20) hx hb rfl rfl dX9_go_15 (by decide) (fun c_15_4 => ?_) (fun c_15_4 => ?_)
    · refine lv_iconst (v := 0) hx hb dX9_go_20 (by decide) ?_
      refine lv_istore_n (lv' := [(2, .int 0), (0, .ref (A 0 0)), (1, .int nn)]) hx hb dX9_go_21 rfl hl (by decide) rfl (fun ls hl => ?_)
      have hl_22_21 : ∀ (n_22 : Nat) (x_6 : Int32) (M_9 : ti_M) (g_12 : Nat → Int) (p_14 : Nat → Int) (H : Heap) (locs : List Loc) (ls : Array Slot), (nn.toInt - x_6.toInt : Int).toNat < n_22 → (0 ≤ x_6.toInt) → (x_6.toInt ≤ 120) → (cI Tc M_9) → (M_9.2.2.2 = M.2.2.2) → (kP M_9 M) → (qC 27 g_12 M_9) → (pC p_14 M_9) → (x_6.toInt ≤ nn.toInt) → (bq_pl tx ((nn.toInt) - (x_6.toInt)).toNat g_12 = bq_pl tx nn.toInt.toNat rg) → (bq_gh tx ((nn.toInt) - (x_6.toInt)).toNat g_12 p_14 = bq_gh tx nn.toInt.toNat rg lp) → (g_12 2 = rg 2 + x_6.toInt) → (g_12 1 = 0) → (0 ≤ g_12 5) → ti_H ti_LT D A cy H0 M_9 H locs → lv_has ls 3 [(2, .int x_6), (0, .ref (A 0 0)), (1, .int nn)] → W p l e (ti_rm 6) s m args below meth c H locs 0 0 Q (F0 m 22 ls []) := by
        intro n_22
        induction n_22 with
        | zero => intro x_6 M_9 g_12 p_14 H locs ls hf_22; exact absurd hf_22 (Nat.not_lt_zero _)
        | succ n_22 ih_22 =>
          intro x_6 M_9 g_12 p_14 H locs ls hf_22 b_7 b_8 iM_9 f_10 f_11 hs_13 hp_15 j_16 j_17 j_18 j_19 j_20 j_21 hw hl
          refine lv_iload_n hx hb dX9_go_22 rfl (lv_at hl 0 rfl) ?_
          refine lv_iload_n hx hb dX9_go_23 rfl (lv_at hl 2 rfl) ?_
          refine sb_icmp_ge (tgt := 53) hx hb rfl rfl dX9_go_24 (by decide) (fun c_24_22 => ?_) (fun c_24_22 => ?_)
          · refine lv_iload_n hx hb dX9_go_53 rfl (lv_at hl 2 rfl) ?_
            refine sb_if_le (tgt := 64) hx hb rfl dX9_go_54 (by decide) (fun c_54_43 => ?_) (fun c_54_43 => ?_)
            · refine lv_aload_n hx hb dX9_go_64 rfl (lv_at hl 1 rfl) ?_
              refine ti_get (ci := 9) (k := 3) (N := 10) (T := TX9) (v := .ref (A 27 0)) C hw iw_9 rfl ob_0 (by decide) (by decide) fl_X9_29 rfl rfl dX9_go_65 ?_
              refine ti_get (ci := 3) (k := 2) (N := 17) (T := TX3) C hw iw_3 rfl ob_27 (by decide) (by decide) fl_X9_186 rfl rfl dX9_go_68 ?_
              refine lv_topi (fun x_48 ex_48 => ?_)
              have bx_48 : 0 ≤ x_48.toInt ∧ x_48.toInt ≤ 120 := cI_rd iM_9 ob_27.1 ex_48 (Or.inl rfl)
              have ux_48 : (tI M_9 27 2).toInt = x_48.toInt := by rw [ex_48]
              have L_49 : g_12 2 = x_48.toInt := ((hs_13.1 2 (by decide) (by decide)).trans (congrArg Int32.toInt (ex_48.symm))).trans rfl
              have E_50 : bq_pl tx nn.toInt.toNat rg = g_12 := by rw [← j_17, show (nn.toInt - x_6.toInt).toNat = 0 by omega]; rfl
              have E_51 : bq_gh tx nn.toInt.toNat rg lp = p_14 := by rw [← j_18, show (nn.toInt - x_6.toInt).toNat = 0 by omega]; rfl
              exact hQ _ _ _ _ _ _ hw rfl (Or.inr ⟨by omega, by omega, (cF_fr hF iM_9 (rs_of (f_10)) (kP_fX f_11)), (kP_kG f_11 (f_10)), (by rw [if_neg (by omega)]; exact (kP_kC ht hk f_11 (f_10) (by rw [E_50]; exact hs_13) (by rw [E_51]; exact hp_15)))⟩) dX9_go_71
            · refine lv_aload_n hx hb dX9_go_57 rfl (lv_at hl 1 rfl) ?_
              refine ti_get (ci := 9) (k := 5) (N := 10) (T := TX9) (v := .ref (A 28 0)) C hw iw_9 rfl ob_0 (by decide) (by decide) fl_X9_40 rfl rfl dX9_go_58 ?_
              refine ti_callVv (ci := 5) (av := []) C hw (s_X5_clear l D A cy hJ M_9 iM_9 ) ⟨ml_X9_87, ym_X5_clear, yv_X5_clear, yi_X5_clear, yc_X5_clear⟩ yd_X5_clear ob_28 (by decide) rfl rfl hl.1 (Nat.le_of_ble_eq_true rfl) ⟨by decide, by decide⟩ ⟨Nat.zero_le _, Nat.zero_le _⟩ dX9_go_61 (fun M_46 H locs hp_46 hw => ?_)
              have hM_46 := hp_46
              have iM_46 : cI Tc M_46 := cI_uI iM_9 hM_46 ob_28.1 (ib_mk (lo := 0) (hi := 20) (by decide) (by decide))
              have hs_47 : qC 27 g_12 M_46 := qC_same hs_13 (fun k => ⟨tI_nE hM_46 (no (by decide)), tY_uIE hM_46⟩)
              refine lv_aload_n hx hb dX9_go_64 rfl (lv_at hl 1 rfl) ?_
              refine ti_get (ci := 9) (k := 3) (N := 10) (T := TX9) (v := .ref (A 27 0)) C hw iw_9 rfl ob_0 (by decide) (by decide) fl_X9_29 rfl rfl dX9_go_65 ?_
              refine ti_get (ci := 3) (k := 2) (N := 17) (T := TX3) C hw iw_3 rfl ob_27 (by decide) (by decide) fl_X9_186 rfl rfl dX9_go_68 ?_
              refine lv_topi (fun x_52 ex_52 => ?_)
              have bx_52 : 0 ≤ x_52.toInt ∧ x_52.toInt ≤ 120 := cI_rd iM_46 ob_27.1 ex_52 (Or.inl rfl)
              have ux_52 : (tI M_46 27 2).toInt = x_52.toInt := by rw [ex_52]
              have L_53 : g_12 2 = x_52.toInt := ((hs_47.1 2 (by decide) (by decide)).trans (congrArg Int32.toInt (ex_52.symm))).trans rfl
              have E_54 : bq_pl tx nn.toInt.toNat rg = g_12 := by rw [← j_17, show (nn.toInt - x_6.toInt).toNat = 0 by omega]; rfl
              have E_55 : bq_gh tx nn.toInt.toNat rg lp = p_14 := by rw [← j_18, show (nn.toInt - x_6.toInt).toNat = 0 by omega]; rfl
              exact hQ _ _ _ _ _ _ hw rfl (Or.inr ⟨by omega, by omega, (cF_clear (cF_fr hF iM_9 (rs_of (f_10)) (kP_fX f_11)) iM_46 hM_46), (kG.trans (kG_clear hM_46) (kP_kG f_11 (f_10))), (by rw [if_pos (by omega)]; exact kC_clear ht (kP_kC ht hk f_11 (f_10) (by rw [E_54]; exact hs_13) (by rw [E_55]; exact hp_15)) hM_46)⟩) dX9_go_71
          · refine lv_aload_n hx hb dX9_go_27 rfl (lv_at hl 1 rfl) ?_
            refine ti_get (ci := 9) (k := 3) (N := 10) (T := TX9) (v := .ref (A 27 0)) C hw iw_9 rfl ob_0 (by decide) (by decide) fl_X9_29 rfl rfl dX9_go_28 ?_
            refine ti_callVv (ci := 3) (av := []) C hw (z_X3_pass l D A cy hJ M_9 iM_9 27 t ob_27 ht ((tT_fr f_10).trans hT) tx g_12 (tC_kG ht htx (kP_kG f_11 (f_10))) hs_13 (by omega) (by omega) (by omega) (fun _ => by omega)) ⟨ml_X9_189, ym_X3_pass, yv_X3_pass, yi_X3_pass, yc_X3_pass⟩ yd_X3_pass ob_27 (by decide) rfl rfl hl.1 (Nat.le_of_ble_eq_true rfl) ⟨by decide, by decide⟩ ⟨Nat.zero_le _, Nat.zero_le _⟩ dX9_go_31 (fun M_25 H locs hp_25 hw => ?_)
            obtain ⟨iM_25, q_26, q_27, hs_28⟩ := hp_25
            obtain ⟨g_29, eg_29⟩ : ∃ z : Nat → Int, z = bq_ps tx g_12 := ⟨_, rfl⟩
            rw [← eg_29] at hs_28
            have w1g_29 : g_29 1 = g_12 1 := by rw [eg_29]; exact ps_1
            have w2g_29 : g_29 2 = g_12 2 + 1 := by rw [eg_29, ps_2, bw_id (by omega) (by omega)]
            have w5g_29 : 0 ≤ g_29 5 := by rw [eg_29]; exact ps_5 (by omega)
            refine lv_aload_n hx hb dX9_go_34 rfl (lv_at hl 1 rfl) ?_
            refine lv_aload_n hx hb dX9_go_35 rfl (lv_at hl 1 rfl) ?_
            refine ti_get (ci := 9) (k := 3) (N := 10) (T := TX9) (v := .ref (A 27 0)) C hw iw_9 rfl ob_0 (by decide) (by decide) fl_X9_29 rfl rfl dX9_go_36 ?_
            refine ti_get (ci := 3) (k := 2) (N := 17) (T := TX3) C hw iw_3 rfl ob_27 (by decide) (by decide) fl_X9_186 rfl rfl dX9_go_39 ?_
            refine lv_topi (fun x_30 ex_30 => ?_)
            have bx_30 : 0 ≤ x_30.toInt ∧ x_30.toInt ≤ 120 := cI_rd iM_25 ob_27.1 ex_30 (Or.inl rfl)
            have ux_30 : (tI M_25 27 2).toInt = x_30.toInt := by rw [ex_30]
            have L_31 : g_29 2 = x_30.toInt := ((hs_28.1 2 (by decide) (by decide)).trans (congrArg Int32.toInt (ex_30.symm))).trans rfl
            refine lv_iconst (v := 1) hx hb dX9_go_42 (by decide) ?_
            refine lv_isub hx hb dX9_go_43 ?_
            refine lv_topi (fun x_32 ex_32 => ?_)
            have tx_32 : x_32.toInt = x_30.toInt - 1 := i_sub ex_32 rfl (by decide : (1 : Int32).toInt = 1) (by omega) (by omega)
            refine ti_callVv (ci := 9) (av := [.int x_32]) C hw (z_X9_recordHolders l D A cy hJ M_25 iM_25 g_29 p_14 hs_28 (pC_to hp_15 (q_27.2 0 4 (by decide))) x_32 (by omega) (by omega)) ⟨ml_X9_192, ym_X9_recordHolders, yv_X9_recordHolders, yi_X9_recordHolders, yc_X9_recordHolders⟩ yd_X9_recordHolders ob_0 (by decide) rfl rfl hl.1 (Nat.le_of_ble_eq_true rfl) ⟨by decide, by decide⟩ ⟨Nat.zero_le _, Nat.zero_le _⟩ dX9_go_44 (fun M_34 H locs hp_34 hw => ?_)
            obtain ⟨q_35, q_36, q_37, q_38, q_39⟩ := hp_34
            obtain ⟨p_40, ep_40⟩ : ∃ z : Nat → Int, z = bq_hp g_29 x_32.toInt.toNat p_14 := ⟨_, rfl⟩
            have hp_41 : pC p_40 M_34 := by rw [ep_40]; exact q_39
            have hs_42 : qC 27 g_29 M_34 := qC_same hs_28 (fun k => ⟨tI_fr q_37, q_38 27 k (by omega)⟩)
            obtain ⟨x_43, ex_43⟩ : ∃ z : Int32, z = x_6 + 1 := ⟨_, rfl⟩
            have lox_43 := x_6.le_toInt
            have hix_43 := x_6.toInt_lt
            have tx_43 : x_43.toInt = x_6.toInt + 1 := i_add ex_43 rfl (by decide) (by omega) (by omega)
            refine lv_iinc (v := x_43) (lv' := [(2, .int x_43), (0, .ref (A 0 0)), (1, .int nn)]) hx hb dX9_go_47 hl (k := 0) rfl (by rw [ex_43]; rfl) (by decide) rfl (fun ls hl => ?_)
            refine lv_goto (tgt := 22) hx hb dX9_go_50 (by decide) ?_
            exact ih_22 x_43 M_34 g_29 p_40 _ _ _ (by omega) (by first | omega | decide) (by first | omega | decide) q_35 ((q_36).trans ((q_26).trans f_10)) (kP.trans (kP_ai q_37 q_38) (kP.trans (kP_eo q_27) f_11)) hs_42 hp_41 (by first | omega | decide) (by rw [← j_17, pl_go (tx := tx) (s := g_12) (f := (nn.toInt - x_6.toInt).toNat) (f' := (nn.toInt - x_43.toInt).toNat) (by omega), ← eg_29]) (by rw [← j_18, gh_go (tx := tx) (s := g_12) (p := p_14) (f := (nn.toInt - x_6.toInt).toNat) (f' := (nn.toInt - x_43.toInt).toNat) (by omega), ← eg_29, show (g_12 2).toNat = x_32.toInt.toNat by omega, ← ep_40]) (by first | omega | decide) (by first | omega | decide) (by first | omega | decide) hw (lv_sub hl [0, 1, 2] rfl)
      exact hl_22_21 ((nn.toInt - 0 : Int).toNat + 1) 0 M rg lp _ _ _ (Nat.lt_succ_self _) (by have lt0 : (0 : Int32).toInt = 0 := (by decide); first | omega | decide) (by have lt0 : (0 : Int32).toInt = 0 := (by decide); first | omega | decide) hI rfl kP.refl hs hp0 (by have lt0 : (0 : Int32).toInt = 0 := (by decide); first | omega | decide) (by rw [show (0 : Int32).toInt = 0 by decide, show nn.toInt - 0 = nn.toInt by omega]) (by rw [show (0 : Int32).toInt = 0 by decide, show nn.toInt - 0 = nn.toInt by omega]) (by have lt0 : (0 : Int32).toInt = 0 := (by decide); first | omega | decide) (by have lt0 : (0 : Int32).toInt = 0 := (by decide); first | omega | decide) (by have lt0 : (0 : Int32).toInt = 0 := (by decide); first | omega | decide) hw (lv_sub hl [0, 1, 2] rfl)
    · refine lv_iconst (v := (-1)) hx hb dX9_go_18 (by decide) ?_
      exact hQ _ _ _ _ _ _ hw rfl (Or.inl ⟨by omega, by decide, rfl⟩) dX9_go_19
set_option maxHeartbeats 4000000 in
set_option maxRecDepth 100000 in
theorem z_X9_keep (l : Launch) (D : va_G) (A : Nat → Nat → Nat) (cy : Nat → ClassId) (hJ : ti_inj ti_LT A) (M : ti_M) (hI : cI Tc M) (hF : cF Tc M) (t : Nat) (ht : t = 3 ∨ t = 4) (tx rg lp : Nat → Int) (ug : Nat → Nat → Int) (cu : Int) (hk : kC t tx rg ug cu lp M) : ti_Ki l yX9_keep cX9_keep 1 (some .int) 2 ti_LT D A cy M [.ref (A 0 0)] (fun r M2 => r.toInt = rg 2 ∧ cF Tc M2 ∧ tI M2 0 7 = 1 ∧ kK M2 M ∧ qC 49 rg M2 ∧ tT M2 49 0 = some t ∧ kC t tx rg ug cu lp M2) := by
  refine ti_eI yp_X9_keep hJ ti_LT_nd (Nat.le_of_ble_eq_true rfl) ?_
  intro p e s m args below meth c Q H0 C hQ hw ls hl
  have hx := C.1
  have hb := C.2.1
  have hl : lv_has ls 1 [(0, .ref (A 0 0))] := hl
  obtain ⟨htx, hT1, hT, hs, hr, hp0⟩ := id hk
  have l4 : 0 ≤ tx 4 ∧ tx 4 ≤ 8 := by rw [htx.1 4 (by decide) (by decide)]; exact cI_rd (k := 4) hI (ob_t ht).1 rfl
  have h4 : tx 4 = (tI M t 4).toInt := htx.1 4 (by decide) (by decide)
  refine lv_aload_n hx hb dX9_keep_0 rfl (lv_at hl 0 rfl) ?_
  refine ti_get (ci := 9) (k := 6) (N := 10) (T := TX9) (v := .ref (A 49 0)) C hw iw_9 rfl ob_0 (by decide) (by decide) fl_X9_44 rfl rfl dX9_keep_1 ?_
  refine lv_aload_n hx hb dX9_keep_4 rfl (lv_at hl 0 rfl) ?_
  refine ti_get (ci := 9) (k := 3) (N := 10) (T := TX9) (v := .ref (A 27 0)) C hw iw_9 rfl ob_0 (by decide) (by decide) fl_X9_29 rfl rfl dX9_keep_5 ?_
  refine ti_callVv (ci := 3) (av := [.ref (A 27 0)]) C hw (z_X3_copy l D A cy hJ M hI 49 27 t ob_49 ob_27 ht (hT) (fun _ => Or.inl rfl) (by decide) rg hs) ⟨ml_X9_298, ym_X3_copy, yv_X3_copy, yi_X3_copy, yc_X3_copy⟩ yd_X3_copy ob_49 (by decide) rfl rfl hl.1 (Nat.le_of_ble_eq_true rfl) ⟨by decide, by decide⟩ ⟨Nat.zero_le _, Nat.zero_le _⟩ dX9_keep_8 (fun M_2 H locs hp_2 hw => ?_)
  obtain ⟨iM_2, q_3, q_4, hs_5⟩ := hp_2
  have hs_6 : qC 27 rg M_2 := qC_eo hs q_4 (by decide)
  refine lv_aload_n hx hb dX9_keep_11 rfl (lv_at hl 0 rfl) ?_
  refine lv_iconst (v := 1) hx hb dX9_keep_12 (by decide) ?_
  refine ti_putI (ci := 9) (k := 7) (N := 10) (T := TX9) C hw iw_9 tyX9 tyX9_ok nmX9 rfl ob_0 (by decide) (by decide) fl_X9_47 rfl rfl rfl rfl (fn_9 A _) fs_9_7 dX9_keep_13 (fun H locs hw => ?_)
  obtain ⟨M_7, hM_7⟩ : ∃ z : ti_M, z = uI M_2 0 7 1 := ⟨_, rfl⟩
  have hw := hw.to hM_7.symm
  have iM_7 : cI Tc M_7 := cI_uI iM_2 hM_7 ob_0.1 trivial
  have hs_8 : qC 27 rg M_7 := qC_same hs_6 (fun k => ⟨tI_nE hM_7 (no (by decide)), tY_uIE hM_7⟩)
  refine lv_aload_n hx hb dX9_keep_16 rfl (lv_at hl 0 rfl) ?_
  refine ti_get (ci := 9) (k := 3) (N := 10) (T := TX9) (v := .ref (A 27 0)) C hw iw_9 rfl ob_0 (by decide) (by decide) fl_X9_29 rfl rfl dX9_keep_17 ?_
  refine ti_get (ci := 3) (k := 2) (N := 17) (T := TX3) C hw iw_3 rfl ob_27 (by decide) (by decide) fl_X9_186 rfl rfl dX9_keep_20 ?_
  refine lv_topi (fun x_9 ex_9 => ?_)
  have bx_9 : 0 ≤ x_9.toInt ∧ x_9.toInt ≤ 120 := cI_rd iM_7 ob_27.1 ex_9 (Or.inl rfl)
  have ux_9 : (tI M_7 27 2).toInt = x_9.toInt := by rw [ex_9]
  have L_10 : rg 2 = x_9.toInt := ((hs_8.1 2 (by decide) (by decide)).trans (congrArg Int32.toInt (ex_9.symm))).trans rfl
  have ktkk_11 : ∀ o k : Nat, ¬ (k = 0 ∧ o = 49) → tT M_7 o k = tT M o k := fun o k q => (tT_fr ((rf_I hM_7).trans q_3)).trans (tT_n _ _ _ _ q)
  have kk_11 : kK M_7 M := ⟨fun o k a b => (tI_nE hM_7 (fun r => b ⟨r.2, r.1⟩)).trans (q_4.1 o k a), fun o k a => (tY_uIE hM_7).trans (q_4.2 o k a), ktkk_11 0 1 (by decide), ktkk_11 0 2 (by decide)⟩
  exact hQ _ _ _ _ _ _ hw rfl (⟨by omega, cF_keep hF iM_7 ht ((rf_I hM_7).trans q_3) (fun k => (tI_nE hM_7 (no (by decide))).trans (q_4.1 28 k (by decide))), tI_uE hM_7, kk_11, qC_same hs_5 (fun k => ⟨tI_nE hM_7 (no (by decide)), tY_uIE hM_7⟩), (tT_fr ((rf_I hM_7).trans q_3)).trans (tT_u _ _ _ _), tC_lo ht htx (fun o k a b => ⟨kk_11.1 o k (by omega) (by omega), kk_11.2.1 o k (by omega)⟩), (ktkk_11 0 1 (by decide)).trans hT1, (ktkk_11 27 0 (by decide)).trans hT, hs_8, rg5_to hr (fun o k a b => ⟨kk_11.1 o k (by omega) (by omega), kk_11.2.1 o k (by omega)⟩) (fun o a b => ktkk_11 o 0 (by omega)), pC_to hp0 (kk_11.2.1 0 4 (by decide))⟩) dX9_keep_23
set_option maxHeartbeats 4000000 in
set_option maxRecDepth 100000 in
theorem z_X9_back (l : Launch) (D : va_G) (A : Nat → Nat → Nat) (cy : Nat → ClassId) (hJ : ti_inj ti_LT A) (M : ti_M) (hI : cI Tc M) (hF : cF Tc M) (t : Nat) (ht : t = 3 ∨ t = 4) (tx rg lp : Nat → Int) (ug : Nat → Nat → Int) (cu : Int) (hk : kC t tx rg ug cu lp M) (si : Nat → Int) (hi9 : ¬ (tI M 0 7).toInt = 0 → qC 49 si M ∧ tT M 49 0 = some t) : ti_Ki l yX9_back cX9_back 1 (some .int) 2 ti_LT D A cy M [.ref (A 0 0)] (fun r M2 => ((tI M 0 7).toInt = 0 ∧ r.toInt = -1 ∧ M2 = M) ∨ (¬ (tI M 0 7).toInt = 0 ∧ r.toInt = si 2 ∧ cF Tc M2 ∧ kG M2 M ∧ kC t tx si ug 0 lp M2)) := by
  refine ti_eI yp_X9_back hJ ti_LT_nd (Nat.le_of_ble_eq_true rfl) ?_
  intro p e s m args below meth c Q H0 C hQ hw ls hl
  have hx := C.1
  have hb := C.2.1
  have hl : lv_has ls 1 [(0, .ref (A 0 0))] := hl
  obtain ⟨htx, hT1, hT, hs, hr, hp0⟩ := id hk
  have l4 : 0 ≤ tx 4 ∧ tx 4 ≤ 8 := by rw [htx.1 4 (by decide) (by decide)]; exact cI_rd (k := 4) hI (ob_t ht).1 rfl
  have h4 : tx 4 = (tI M t 4).toInt := htx.1 4 (by decide) (by decide)
  refine lv_aload_n hx hb dX9_back_0 rfl (lv_at hl 0 rfl) ?_
  refine ti_get (ci := 9) (k := 7) (N := 10) (T := TX9) C hw iw_9 rfl ob_0 (by decide) (by decide) fl_X9_47 rfl rfl dX9_back_1 ?_
  refine lv_topi (fun x_1 ex_1 => ?_)
  refine sb_if_ne (tgt := 9) hx hb rfl dX9_back_4 (by decide) (fun c_4_1 => ?_) (fun c_4_1 => ?_)
  · refine lv_aload_n hx hb dX9_back_9 rfl (lv_at hl 0 rfl) ?_
    refine ti_get (ci := 9) (k := 3) (N := 10) (T := TX9) (v := .ref (A 27 0)) C hw iw_9 rfl ob_0 (by decide) (by decide) fl_X9_29 rfl rfl dX9_back_10 ?_
    refine lv_aload_n hx hb dX9_back_13 rfl (lv_at hl 0 rfl) ?_
    refine ti_get (ci := 9) (k := 6) (N := 10) (T := TX9) (v := .ref (A 49 0)) C hw iw_9 rfl ob_0 (by decide) (by decide) fl_X9_44 rfl rfl dX9_back_14 ?_
    obtain ⟨hq9, hT9⟩ := hi9 (by rw [ex_1] at c_4_1; exact c_4_1)
    refine ti_callVv (ci := 3) (av := [.ref (A 49 0)]) C hw (z_X3_copy l D A cy hJ M hI 27 49 t ob_27 ob_49 ht (hT9) (fun _ => Or.inr ⟨by decide, by decide⟩) (by decide) si hq9) ⟨ml_X9_298, ym_X3_copy, yv_X3_copy, yi_X3_copy, yc_X3_copy⟩ yd_X3_copy ob_27 (by decide) rfl rfl hl.1 (Nat.le_of_ble_eq_true rfl) ⟨by decide, by decide⟩ ⟨Nat.zero_le _, Nat.zero_le _⟩ dX9_back_17 (fun M_4 H locs hp_4 hw => ?_)
    obtain ⟨iM_4, q_5, q_6, hs_7⟩ := hp_4
    refine lv_aload_n hx hb dX9_back_20 rfl (lv_at hl 0 rfl) ?_
    refine ti_get (ci := 9) (k := 5) (N := 10) (T := TX9) (v := .ref (A 28 0)) C hw iw_9 rfl ob_0 (by decide) (by decide) fl_X9_40 rfl rfl dX9_back_21 ?_
    refine ti_callVv (ci := 5) (av := []) C hw (s_X5_clear l D A cy hJ M_4 iM_4 ) ⟨ml_X9_87, ym_X5_clear, yv_X5_clear, yi_X5_clear, yc_X5_clear⟩ yd_X5_clear ob_28 (by decide) rfl rfl hl.1 (Nat.le_of_ble_eq_true rfl) ⟨by decide, by decide⟩ ⟨Nat.zero_le _, Nat.zero_le _⟩ dX9_back_24 (fun M_9 H locs hp_9 hw => ?_)
    have hM_9 := hp_9
    have iM_9 : cI Tc M_9 := cI_uI iM_4 hM_9 ob_28.1 (ib_mk (lo := 0) (hi := 20) (by decide) (by decide))
    have hs_10 : qC 27 si M_9 := qC_same hs_7 (fun k => ⟨tI_nE hM_9 (no (by decide)), tY_uIE hM_9⟩)
    refine lv_aload_n hx hb dX9_back_27 rfl (lv_at hl 0 rfl) ?_
    refine ti_get (ci := 9) (k := 3) (N := 10) (T := TX9) (v := .ref (A 27 0)) C hw iw_9 rfl ob_0 (by decide) (by decide) fl_X9_29 rfl rfl dX9_back_28 ?_
    refine ti_get (ci := 3) (k := 2) (N := 17) (T := TX3) C hw iw_3 rfl ob_27 (by decide) (by decide) fl_X9_186 rfl rfl dX9_back_31 ?_
    refine lv_topi (fun x_11 ex_11 => ?_)
    have bx_11 : 0 ≤ x_11.toInt ∧ x_11.toInt ≤ 120 := cI_rd iM_9 ob_27.1 ex_11 (Or.inl rfl)
    have ux_11 : (tI M_9 27 2).toInt = x_11.toInt := by rw [ex_11]
    have L_12 : si 2 = x_11.toInt := ((hs_10.1 2 (by decide) (by decide)).trans (congrArg Int32.toInt (ex_11.symm))).trans rfl
    have ktkk_13 : ∀ o k : Nat, ¬ (k = 0 ∧ o = 27) → tT M_4 o k = tT M o k := fun o k q => (tT_fr (q_5)).trans (tT_n _ _ _ _ q)
    have kk_13 : kG M_4 M := ⟨fun o k q => ⟨q_6.1 o k (by omega), fun _ => q_6.2 o k (by omega)⟩, ktkk_13 0 1 (by decide), ktkk_13 0 2 (by decide), ktkk_13 49 0 (by decide)⟩
    have kckk_13 : kC t tx si ug cu lp M_4 := ⟨tC_kG ht htx kk_13, (ktkk_13 0 1 (by decide)).trans hT1, (tT_fr (q_5)).trans (tT_u _ _ _ _), hs_7, rg5_to hr (fun o k a b => ⟨q_6.1 o k (by omega), q_6.2 o k (by omega)⟩) (fun o a b => ktkk_13 o 0 (by omega)), pC_to hp0 (q_6.2 0 4 (by decide))⟩
    exact hQ _ _ _ _ _ _ hw rfl (Or.inr ⟨by rw [ex_1] at c_4_1; exact c_4_1, by omega, cF_clear (cF_now hF iM_4 ht (q_5) (fX_eo q_6)) iM_9 hM_9, kG.trans (kG_clear hM_9) kk_13, kC_clear ht kckk_13 hM_9⟩) dX9_back_34
  · refine lv_iconst (v := (-1)) hx hb dX9_back_7 (by decide) ?_
    exact hQ _ _ _ _ _ _ hw rfl (Or.inl ⟨by rw [ex_1] at c_4_1; omega, by decide, rfl⟩) dX9_back_8

variable {Tc : gC} {Tm : gM}
variable {Tc : gC} {Tm : gM}
set_option maxHeartbeats 4000000 in
set_option maxRecDepth 100000 in
theorem z_X10_joins_0 (l : Launch) (D : va_G) (A : Nat → Nat → Nat) (cy : Nat → ClassId) (hJ : ti_inj ti_LM A) (M : ti_M) (hI : mI Tm M) (hC : mC M 0) (a t : Int32) (h1 : 0 ≤ a.toInt) (h2 : a.toInt ≤ 7) (h0 : ∀ i : Nat, (i : Int) = 0 + a.toInt → (tY M 60 40 i).toInt = 0) (tx rg : Nat → Int) (htr : tR tx M) (ht4 : 0 ≤ tx 4 ∧ tx 4 ≤ 8) (hr : qR (tx 4).toNat 0 rg M) (hV : qV (tx 4).toNat 0 rg M) (ha : a.toInt < tx 4) (hs0 : rg (128 + a.toInt.toNat) = 0) (hs3 : 0 ≤ rg 3 ∧ rg 3 < 8) (htm : t.toInt = rg 2) : ti_Kv l yX10_joins cX10_joins 4 0 ti_LM D A cy M [.ref (A 60 0), .int 0, .int a, .int t] (fun M2 => eR 0 M2 M ∧ qR (tx 4).toNat 0 (bq_ap rg a.toInt) M2 ∧ qV (tx 4).toNat 0 (bq_ap rg a.toInt) M2 ∧ mI Tm M2 ∧ rq 0 M2 M ∧ mC M2 0 ∧ tY M2 60 34 = tY M 60 34 ∧ zc (tY M2 60 40) 0 < zc (tY M 60 40) 0) := by
  refine ti_eV yp_X10_joins hJ ti_LM_nd (Nat.le_of_ble_eq_true rfl) ?_
  intro p e s m args below meth c Q H0 C hQ hw ls hl
  have hx := C.1
  have hb := C.2.1
  have hl : lv_has ls 4 [(0, .ref (A 60 0)), (1, .int 0), (2, .int a), (3, .int t)] := hl
  have m7 := mC_7 (i := (0 + a.toInt).toNat) hC (h0 _ (by omega)) (by omega) (by omega)
  have l3 := hr.1.2.1
  refine lv_aload_n hx hb dX10_joins_0 rfl (lv_at hl 0 rfl) ?_
  refine ti_get (ci := 10) (k := 39) (N := 67) (T := TX10) (v := .ref (A 60 40)) C hw iw_10 rfl ob_60 (by decide) (by decide) fl_X10_84 rfl rfl dX10_joins_1 ?_
  refine lv_bipush (v := 8) hx hb dX10_joins_4 (by decide) ?_
  refine lv_iload_n hx hb dX10_joins_6 rfl (lv_at hl 1 rfl) ?_
  refine lv_imul hx hb dX10_joins_7 ?_
  refine ti_top (y := 0) (by decide) ?_
  refine lv_aload_n hx hb dX10_joins_8 rfl (lv_at hl 0 rfl) ?_
  refine ti_get (ci := 10) (k := 38) (N := 67) (T := TX10) (v := .ref (A 60 39)) C hw iw_10 rfl ob_60 (by decide) (by decide) fl_X10_81 rfl rfl dX10_joins_9 ?_
  refine lv_iload_n hx hb dX10_joins_12 rfl (lv_at hl 1 rfl) ?_
  refine ti_iald (ci := 10) (k := 38) (n := 23) C hw ob_60 (by decide) (fun _ _ => rfl) (by unfold vp_in; decide) dX10_joins_13 ?_
  refine lv_topi (fun x_1 ex_1 => ?_)
  have yx_1 : tY M 60 38 0 = x_1 := ((congrArg _ (by decide)).symm.trans ex_1.symm)
  have bx_1 : 0 ≤ x_1.toInt ∧ x_1.toInt ≤ 8 := mI_ry (k := 38) (i := 0) hI yx_1.symm
  have zx_1 : (tY M 60 38 0).toInt = x_1.toInt := by rw [yx_1]
  refine lv_iadd hx hb dX10_joins_14 ?_
  refine lv_topi (fun x_2 ex_2 => ?_)
  have tx_2 : x_2.toInt = 0 + x_1.toInt := i_add ex_2 (by decide : (0 : Int32).toInt = 0) rfl (by omega) (by omega)
  refine lv_iload_n hx hb dX10_joins_15 rfl (lv_at hl 2 rfl) ?_
  refine ti_iast (ci := 10) (k := 39) (n := 184) C hw ob_60 (by decide) (fun _ _ => rfl) (vp_in_iff.mpr (by omega)) dX10_joins_16 (fun H locs hw => ?_)
  obtain ⟨M_3, hM_3⟩ : ∃ z : ti_M, z = uY M 60 39 (upd (tY M 60 39) (x_2 : Int32).toNatClampNeg a) := ⟨_, rfl⟩
  have hw := hw.to hM_3.symm
  have iM_3 : mI Tm M_3 := mI_up (i := x_2.toNatClampNeg) hI hM_3 (ib_mk (lo := 0) (hi := 7) (by omega) (by omega))
  refine lv_aload_n hx hb dX10_joins_17 rfl (lv_at hl 0 rfl) ?_
  refine ti_get (ci := 10) (k := 38) (N := 67) (T := TX10) (v := .ref (A 60 39)) C hw iw_10 rfl ob_60 (by decide) (by decide) fl_X10_81 rfl rfl dX10_joins_18 ?_
  refine lv_iload_n hx hb dX10_joins_21 rfl (lv_at hl 1 rfl) ?_
  refine lv_dup2_11 hx hb dX10_joins_22 rfl rfl ?_
  refine ti_iald (ci := 10) (k := 38) (n := 23) C hw ob_60 (by decide) (fun _ _ => rfl) (by unfold vp_in; decide) dX10_joins_23 ?_
  refine ti_top (y := x_1) ((congrArg _ (by decide)).trans ((cg (tY_nE hM_3 (nk (by decide))) 0).trans yx_1)) ?_
  refine lv_iconst (v := 1) hx hb dX10_joins_24 (by decide) ?_
  refine lv_iadd hx hb dX10_joins_25 ?_
  refine lv_topi (fun x_4 ex_4 => ?_)
  have tx_4 : x_4.toInt = x_1.toInt + 1 := i_add ex_4 rfl (by decide : (1 : Int32).toInt = 1) (by omega) (by omega)
  refine ti_iast (ci := 10) (k := 38) (n := 23) C hw ob_60 (by decide) (fun _ _ => rfl) (by unfold vp_in; decide) dX10_joins_26 (fun H locs hw => ?_)
  obtain ⟨M_5, hM_5⟩ : ∃ z : ti_M, z = uY M_3 60 38 (upd (tY M_3 60 38) (0 : Int32).toNatClampNeg x_4) := ⟨_, rfl⟩
  have hw := hw.to hM_5.symm
  have iM_5 : mI Tm M_5 := mI_up (i := 0) iM_3 hM_5 (ib_mk (lo := 0) (hi := 8) (by omega) (by omega))
  refine lv_aload_n hx hb dX10_joins_27 rfl (lv_at hl 0 rfl) ?_
  refine ti_get (ci := 10) (k := 40) (N := 67) (T := TX10) (v := .ref (A 60 41)) C hw iw_10 rfl ob_60 (by decide) (by decide) fl_X10_87 rfl rfl dX10_joins_28 ?_
  refine lv_bipush (v := 8) hx hb dX10_joins_31 (by decide) ?_
  refine lv_iload_n hx hb dX10_joins_33 rfl (lv_at hl 1 rfl) ?_
  refine lv_imul hx hb dX10_joins_34 ?_
  refine ti_top (y := 0) (by decide) ?_
  refine lv_iload_n hx hb dX10_joins_35 rfl (lv_at hl 2 rfl) ?_
  refine lv_iadd hx hb dX10_joins_36 ?_
  refine lv_topi (fun x_6 ex_6 => ?_)
  have tx_6 : x_6.toInt = 0 + a.toInt := i_add ex_6 (by decide : (0 : Int32).toInt = 0) rfl (by omega) (by omega)
  refine lv_iconst (v := 1) hx hb dX10_joins_37 (by decide) ?_
  refine ti_iast (ci := 10) (k := 40) (n := 184) C hw ob_60 (by decide) (fun _ _ => rfl) (vp_in_iff.mpr (by omega)) dX10_joins_38 (fun H locs hw => ?_)
  obtain ⟨M_7, hM_7⟩ : ∃ z : ti_M, z = uY M_5 60 40 (upd (tY M_5 60 40) (x_6 : Int32).toNatClampNeg 1) := ⟨_, rfl⟩
  have hw := hw.to hM_7.symm
  have iM_7 : mI Tm M_7 := mI_up (i := x_6.toNatClampNeg) iM_5 hM_7 trivial
  refine lv_aload_n hx hb dX10_joins_39 rfl (lv_at hl 0 rfl) ?_
  refine ti_get (ci := 10) (k := 45) (N := 67) (T := TX10) (v := .ref (A 60 46)) C hw iw_10 rfl ob_60 (by decide) (by decide) fl_X10_102 rfl rfl dX10_joins_40 ?_
  refine lv_bipush (v := 8) hx hb dX10_joins_43 (by decide) ?_
  refine lv_iload_n hx hb dX10_joins_45 rfl (lv_at hl 1 rfl) ?_
  refine lv_imul hx hb dX10_joins_46 ?_
  refine ti_top (y := 0) (by decide) ?_
  refine lv_iload_n hx hb dX10_joins_47 rfl (lv_at hl 2 rfl) ?_
  refine lv_iadd hx hb dX10_joins_48 ?_
  refine lv_topi (fun x_8 ex_8 => ?_)
  have tx_8 : x_8.toInt = 0 + a.toInt := i_add ex_8 (by decide : (0 : Int32).toInt = 0) rfl (by omega) (by omega)
  refine lv_iload_n hx hb dX10_joins_49 rfl (lv_at hl 3 rfl) ?_
  refine ti_iast (ci := 10) (k := 45) (n := 184) C hw ob_60 (by decide) (fun _ _ => rfl) (vp_in_iff.mpr (by omega)) dX10_joins_50 (fun H locs hw => ?_)
  obtain ⟨M_9, hM_9⟩ : ∃ z : ti_M, z = uY M_7 60 45 (upd (tY M_7 60 45) (x_8 : Int32).toNatClampNeg t) := ⟨_, rfl⟩
  have hw := hw.to hM_9.symm
  have iM_9 : mI Tm M_9 := mI_up (i := x_8.toNatClampNeg) iM_7 hM_9 trivial
  have jj := q_join (mn := a.toInt.toNat) hI hC (by rw [tY_nE (o2 := 60) (k2 := 38) hM_9 (nk (by decide)), tY_nE (o2 := 60) (k2 := 38) hM_7 (nk (by decide)), tY_uE hM_5, tY_nE (o2 := 60) (k2 := 38) hM_3 (nk (by decide))] : tY M_9 60 38 = upd (tY M 60 38) (0 : Int32).toNatClampNeg x_4) (by rw [tY_nE (o2 := 60) (k2 := 39) hM_9 (nk (by decide)), tY_nE (o2 := 60) (k2 := 39) hM_7 (nk (by decide)), tY_nE (o2 := 60) (k2 := 39) hM_5 (nk (by decide)), tY_uE hM_3] : tY M_9 60 39 = upd (tY M 60 39) (x_2 : Int32).toNatClampNeg a) (by rw [tY_nE (o2 := 60) (k2 := 40) hM_9 (nk (by decide)), tY_uE hM_7, tY_nE (o2 := 60) (k2 := 40) hM_5 (nk (by decide)), tY_nE (o2 := 60) (k2 := 40) hM_3 (nk (by decide))] : tY M_9 60 40 = upd (tY M 60 40) (x_6 : Int32).toNatClampNeg 1) (lk.trans (lk_Y hM_9 (by decide)) (lk.trans (lk_Y hM_7 (by decide)) (lk.trans (lk_Y hM_5 (by decide)) (lk_Y hM_3 (by decide))))) (by decide) (by omega) (by show ((x_2.toInt.toNat : Nat) : Int) = _; omega) (by omega) (by show x_6.toInt.toNat = _; omega) (by omega) (by decide) (h0 _ (by show ((x_6.toInt.toNat : Nat) : Int) = _; omega))
  have JJ := q_joinR (m := a.toInt.toNat) hr hV (by omega) hs3 (by omega) hs0 (by rw [tY_nE (o2 := 60) (k2 := 38) hM_9 (nk (by decide)), tY_nE (o2 := 60) (k2 := 38) hM_7 (nk (by decide)), tY_uE hM_5, tY_nE (o2 := 60) (k2 := 38) hM_3 (nk (by decide))] : tY M_9 60 38 = upd (tY M 60 38) (0 : Int32).toNatClampNeg x_4) (by rw [tY_nE (o2 := 60) (k2 := 39) hM_9 (nk (by decide)), tY_nE (o2 := 60) (k2 := 39) hM_7 (nk (by decide)), tY_nE (o2 := 60) (k2 := 39) hM_5 (nk (by decide)), tY_uE hM_3] : tY M_9 60 39 = upd (tY M 60 39) (x_2 : Int32).toNatClampNeg a) (by rw [tY_nE (o2 := 60) (k2 := 40) hM_9 (nk (by decide)), tY_uE hM_7, tY_nE (o2 := 60) (k2 := 40) hM_5 (nk (by decide)), tY_nE (o2 := 60) (k2 := 40) hM_3 (nk (by decide))] : tY M_9 60 40 = upd (tY M 60 40) (x_6 : Int32).toNatClampNeg 1) (by rw [tY_uE hM_9, tY_nE (o2 := 60) (k2 := 45) hM_7 (nk (by decide)), tY_nE (o2 := 60) (k2 := 45) hM_5 (nk (by decide)), tY_nE (o2 := 60) (k2 := 45) hM_3 (nk (by decide))] : tY M_9 60 45 = upd (tY M 60 45) (x_8 : Int32).toNatClampNeg t) (by decide) (by omega) (by show ((x_2.toInt.toNat : Nat) : Int) = _; omega) (by omega) (by show x_6.toInt.toNat = _; omega) (by decide) (by show x_8.toInt.toNat = _; omega) (by omega) (fun k k38 k39 k40 k45 => ((tY_nE hM_9 (nk k45)).trans ((tY_nE hM_7 (nk k40)).trans ((tY_nE hM_5 (nk k38)).trans (tY_nE hM_3 (nk k39))))))
  rw [show ((a.toInt.toNat : Nat) : Int) = a.toInt by omega] at JJ
  exact hQ _ _ _ _ _ hw (⟨(eR.trans (eR_Y hM_9 (bk_m (z := x_8) (by omega) (by decide))) (eR.trans (eR_Y hM_7 (bk_m (z := x_6) (by omega) (by decide))) (eR.trans (eR_Y hM_5 (bk_q (z := 0) (by decide) (by decide))) (eR_Y hM_3 (bk_m (z := x_2) (by omega) (by decide)))))), JJ.1, JJ.2, iM_9, jj.1, jj.2.1, (((tY_nE hM_9 (nk (by decide))).trans ((tY_nE hM_7 (nk (by decide))).trans ((tY_nE hM_5 (nk (by decide))).trans (tY_nE hM_3 (nk (by decide))))))), jj.2.2⟩) dX10_joins_51
set_option maxHeartbeats 4000000 in
set_option maxRecDepth 100000 in
theorem z_X10_joins_1 (l : Launch) (D : va_G) (A : Nat → Nat → Nat) (cy : Nat → ClassId) (hJ : ti_inj ti_LM A) (M : ti_M) (hI : mI Tm M) (hC : mC M 1) (a t : Int32) (h1 : 0 ≤ a.toInt) (h2 : a.toInt ≤ 7) (h0 : ∀ i : Nat, (i : Int) = 8 + a.toInt → (tY M 60 40 i).toInt = 0) (tx rg : Nat → Int) (htr : tR tx M) (ht4 : 0 ≤ tx 4 ∧ tx 4 ≤ 8) (hr : qR (tx 4).toNat 1 rg M) (hV : qV (tx 4).toNat 1 rg M) (ha : a.toInt < tx 4) (hs0 : rg (128 + a.toInt.toNat) = 0) (hs3 : 0 ≤ rg 3 ∧ rg 3 < 8) (htm : t.toInt = rg 2) : ti_Kv l yX10_joins cX10_joins 4 0 ti_LM D A cy M [.ref (A 60 0), .int 1, .int a, .int t] (fun M2 => eR 1 M2 M ∧ qR (tx 4).toNat 1 (bq_ap rg a.toInt) M2 ∧ qV (tx 4).toNat 1 (bq_ap rg a.toInt) M2 ∧ mI Tm M2 ∧ rq 1 M2 M ∧ mC M2 1 ∧ tY M2 60 34 = tY M 60 34 ∧ zc (tY M2 60 40) 8 < zc (tY M 60 40) 8) := by
  refine ti_eV yp_X10_joins hJ ti_LM_nd (Nat.le_of_ble_eq_true rfl) ?_
  intro p e s m args below meth c Q H0 C hQ hw ls hl
  have hx := C.1
  have hb := C.2.1
  have hl : lv_has ls 4 [(0, .ref (A 60 0)), (1, .int 1), (2, .int a), (3, .int t)] := hl
  have m7 := mC_7 (i := (8 + a.toInt).toNat) hC (h0 _ (by omega)) (by omega) (by omega)
  have l3 := hr.1.2.1
  refine lv_aload_n hx hb dX10_joins_0 rfl (lv_at hl 0 rfl) ?_
  refine ti_get (ci := 10) (k := 39) (N := 67) (T := TX10) (v := .ref (A 60 40)) C hw iw_10 rfl ob_60 (by decide) (by decide) fl_X10_84 rfl rfl dX10_joins_1 ?_
  refine lv_bipush (v := 8) hx hb dX10_joins_4 (by decide) ?_
  refine lv_iload_n hx hb dX10_joins_6 rfl (lv_at hl 1 rfl) ?_
  refine lv_imul hx hb dX10_joins_7 ?_
  refine ti_top (y := 8) (by decide) ?_
  refine lv_aload_n hx hb dX10_joins_8 rfl (lv_at hl 0 rfl) ?_
  refine ti_get (ci := 10) (k := 38) (N := 67) (T := TX10) (v := .ref (A 60 39)) C hw iw_10 rfl ob_60 (by decide) (by decide) fl_X10_81 rfl rfl dX10_joins_9 ?_
  refine lv_iload_n hx hb dX10_joins_12 rfl (lv_at hl 1 rfl) ?_
  refine ti_iald (ci := 10) (k := 38) (n := 23) C hw ob_60 (by decide) (fun _ _ => rfl) (by unfold vp_in; decide) dX10_joins_13 ?_
  refine lv_topi (fun x_1 ex_1 => ?_)
  have yx_1 : tY M 60 38 1 = x_1 := ((congrArg _ (by decide)).symm.trans ex_1.symm)
  have bx_1 : 0 ≤ x_1.toInt ∧ x_1.toInt ≤ 8 := mI_ry (k := 38) (i := 1) hI yx_1.symm
  have zx_1 : (tY M 60 38 1).toInt = x_1.toInt := by rw [yx_1]
  refine lv_iadd hx hb dX10_joins_14 ?_
  refine lv_topi (fun x_2 ex_2 => ?_)
  have tx_2 : x_2.toInt = 8 + x_1.toInt := i_add ex_2 (by decide : (8 : Int32).toInt = 8) rfl (by omega) (by omega)
  refine lv_iload_n hx hb dX10_joins_15 rfl (lv_at hl 2 rfl) ?_
  refine ti_iast (ci := 10) (k := 39) (n := 184) C hw ob_60 (by decide) (fun _ _ => rfl) (vp_in_iff.mpr (by omega)) dX10_joins_16 (fun H locs hw => ?_)
  obtain ⟨M_3, hM_3⟩ : ∃ z : ti_M, z = uY M 60 39 (upd (tY M 60 39) (x_2 : Int32).toNatClampNeg a) := ⟨_, rfl⟩
  have hw := hw.to hM_3.symm
  have iM_3 : mI Tm M_3 := mI_up (i := x_2.toNatClampNeg) hI hM_3 (ib_mk (lo := 0) (hi := 7) (by omega) (by omega))
  refine lv_aload_n hx hb dX10_joins_17 rfl (lv_at hl 0 rfl) ?_
  refine ti_get (ci := 10) (k := 38) (N := 67) (T := TX10) (v := .ref (A 60 39)) C hw iw_10 rfl ob_60 (by decide) (by decide) fl_X10_81 rfl rfl dX10_joins_18 ?_
  refine lv_iload_n hx hb dX10_joins_21 rfl (lv_at hl 1 rfl) ?_
  refine lv_dup2_11 hx hb dX10_joins_22 rfl rfl ?_
  refine ti_iald (ci := 10) (k := 38) (n := 23) C hw ob_60 (by decide) (fun _ _ => rfl) (by unfold vp_in; decide) dX10_joins_23 ?_
  refine ti_top (y := x_1) ((congrArg _ (by decide)).trans ((cg (tY_nE hM_3 (nk (by decide))) 1).trans yx_1)) ?_
  refine lv_iconst (v := 1) hx hb dX10_joins_24 (by decide) ?_
  refine lv_iadd hx hb dX10_joins_25 ?_
  refine lv_topi (fun x_4 ex_4 => ?_)
  have tx_4 : x_4.toInt = x_1.toInt + 1 := i_add ex_4 rfl (by decide : (1 : Int32).toInt = 1) (by omega) (by omega)
  refine ti_iast (ci := 10) (k := 38) (n := 23) C hw ob_60 (by decide) (fun _ _ => rfl) (by unfold vp_in; decide) dX10_joins_26 (fun H locs hw => ?_)
  obtain ⟨M_5, hM_5⟩ : ∃ z : ti_M, z = uY M_3 60 38 (upd (tY M_3 60 38) (1 : Int32).toNatClampNeg x_4) := ⟨_, rfl⟩
  have hw := hw.to hM_5.symm
  have iM_5 : mI Tm M_5 := mI_up (i := 1) iM_3 hM_5 (ib_mk (lo := 0) (hi := 8) (by omega) (by omega))
  refine lv_aload_n hx hb dX10_joins_27 rfl (lv_at hl 0 rfl) ?_
  refine ti_get (ci := 10) (k := 40) (N := 67) (T := TX10) (v := .ref (A 60 41)) C hw iw_10 rfl ob_60 (by decide) (by decide) fl_X10_87 rfl rfl dX10_joins_28 ?_
  refine lv_bipush (v := 8) hx hb dX10_joins_31 (by decide) ?_
  refine lv_iload_n hx hb dX10_joins_33 rfl (lv_at hl 1 rfl) ?_
  refine lv_imul hx hb dX10_joins_34 ?_
  refine ti_top (y := 8) (by decide) ?_
  refine lv_iload_n hx hb dX10_joins_35 rfl (lv_at hl 2 rfl) ?_
  refine lv_iadd hx hb dX10_joins_36 ?_
  refine lv_topi (fun x_6 ex_6 => ?_)
  have tx_6 : x_6.toInt = 8 + a.toInt := i_add ex_6 (by decide : (8 : Int32).toInt = 8) rfl (by omega) (by omega)
  refine lv_iconst (v := 1) hx hb dX10_joins_37 (by decide) ?_
  refine ti_iast (ci := 10) (k := 40) (n := 184) C hw ob_60 (by decide) (fun _ _ => rfl) (vp_in_iff.mpr (by omega)) dX10_joins_38 (fun H locs hw => ?_)
  obtain ⟨M_7, hM_7⟩ : ∃ z : ti_M, z = uY M_5 60 40 (upd (tY M_5 60 40) (x_6 : Int32).toNatClampNeg 1) := ⟨_, rfl⟩
  have hw := hw.to hM_7.symm
  have iM_7 : mI Tm M_7 := mI_up (i := x_6.toNatClampNeg) iM_5 hM_7 trivial
  refine lv_aload_n hx hb dX10_joins_39 rfl (lv_at hl 0 rfl) ?_
  refine ti_get (ci := 10) (k := 45) (N := 67) (T := TX10) (v := .ref (A 60 46)) C hw iw_10 rfl ob_60 (by decide) (by decide) fl_X10_102 rfl rfl dX10_joins_40 ?_
  refine lv_bipush (v := 8) hx hb dX10_joins_43 (by decide) ?_
  refine lv_iload_n hx hb dX10_joins_45 rfl (lv_at hl 1 rfl) ?_
  refine lv_imul hx hb dX10_joins_46 ?_
  refine ti_top (y := 8) (by decide) ?_
  refine lv_iload_n hx hb dX10_joins_47 rfl (lv_at hl 2 rfl) ?_
  refine lv_iadd hx hb dX10_joins_48 ?_
  refine lv_topi (fun x_8 ex_8 => ?_)
  have tx_8 : x_8.toInt = 8 + a.toInt := i_add ex_8 (by decide : (8 : Int32).toInt = 8) rfl (by omega) (by omega)
  refine lv_iload_n hx hb dX10_joins_49 rfl (lv_at hl 3 rfl) ?_
  refine ti_iast (ci := 10) (k := 45) (n := 184) C hw ob_60 (by decide) (fun _ _ => rfl) (vp_in_iff.mpr (by omega)) dX10_joins_50 (fun H locs hw => ?_)
  obtain ⟨M_9, hM_9⟩ : ∃ z : ti_M, z = uY M_7 60 45 (upd (tY M_7 60 45) (x_8 : Int32).toNatClampNeg t) := ⟨_, rfl⟩
  have hw := hw.to hM_9.symm
  have iM_9 : mI Tm M_9 := mI_up (i := x_8.toNatClampNeg) iM_7 hM_9 trivial
  have jj := q_join (mn := a.toInt.toNat) hI hC (by rw [tY_nE (o2 := 60) (k2 := 38) hM_9 (nk (by decide)), tY_nE (o2 := 60) (k2 := 38) hM_7 (nk (by decide)), tY_uE hM_5, tY_nE (o2 := 60) (k2 := 38) hM_3 (nk (by decide))] : tY M_9 60 38 = upd (tY M 60 38) (1 : Int32).toNatClampNeg x_4) (by rw [tY_nE (o2 := 60) (k2 := 39) hM_9 (nk (by decide)), tY_nE (o2 := 60) (k2 := 39) hM_7 (nk (by decide)), tY_nE (o2 := 60) (k2 := 39) hM_5 (nk (by decide)), tY_uE hM_3] : tY M_9 60 39 = upd (tY M 60 39) (x_2 : Int32).toNatClampNeg a) (by rw [tY_nE (o2 := 60) (k2 := 40) hM_9 (nk (by decide)), tY_uE hM_7, tY_nE (o2 := 60) (k2 := 40) hM_5 (nk (by decide)), tY_nE (o2 := 60) (k2 := 40) hM_3 (nk (by decide))] : tY M_9 60 40 = upd (tY M 60 40) (x_6 : Int32).toNatClampNeg 1) (lk.trans (lk_Y hM_9 (by decide)) (lk.trans (lk_Y hM_7 (by decide)) (lk.trans (lk_Y hM_5 (by decide)) (lk_Y hM_3 (by decide))))) (by decide) (by omega) (by show ((x_2.toInt.toNat : Nat) : Int) = _; omega) (by omega) (by show x_6.toInt.toNat = _; omega) (by omega) (by decide) (h0 _ (by show ((x_6.toInt.toNat : Nat) : Int) = _; omega))
  have JJ := q_joinR (m := a.toInt.toNat) hr hV (by omega) hs3 (by omega) hs0 (by rw [tY_nE (o2 := 60) (k2 := 38) hM_9 (nk (by decide)), tY_nE (o2 := 60) (k2 := 38) hM_7 (nk (by decide)), tY_uE hM_5, tY_nE (o2 := 60) (k2 := 38) hM_3 (nk (by decide))] : tY M_9 60 38 = upd (tY M 60 38) (1 : Int32).toNatClampNeg x_4) (by rw [tY_nE (o2 := 60) (k2 := 39) hM_9 (nk (by decide)), tY_nE (o2 := 60) (k2 := 39) hM_7 (nk (by decide)), tY_nE (o2 := 60) (k2 := 39) hM_5 (nk (by decide)), tY_uE hM_3] : tY M_9 60 39 = upd (tY M 60 39) (x_2 : Int32).toNatClampNeg a) (by rw [tY_nE (o2 := 60) (k2 := 40) hM_9 (nk (by decide)), tY_uE hM_7, tY_nE (o2 := 60) (k2 := 40) hM_5 (nk (by decide)), tY_nE (o2 := 60) (k2 := 40) hM_3 (nk (by decide))] : tY M_9 60 40 = upd (tY M 60 40) (x_6 : Int32).toNatClampNeg 1) (by rw [tY_uE hM_9, tY_nE (o2 := 60) (k2 := 45) hM_7 (nk (by decide)), tY_nE (o2 := 60) (k2 := 45) hM_5 (nk (by decide)), tY_nE (o2 := 60) (k2 := 45) hM_3 (nk (by decide))] : tY M_9 60 45 = upd (tY M 60 45) (x_8 : Int32).toNatClampNeg t) (by decide) (by omega) (by show ((x_2.toInt.toNat : Nat) : Int) = _; omega) (by omega) (by show x_6.toInt.toNat = _; omega) (by decide) (by show x_8.toInt.toNat = _; omega) (by omega) (fun k k38 k39 k40 k45 => ((tY_nE hM_9 (nk k45)).trans ((tY_nE hM_7 (nk k40)).trans ((tY_nE hM_5 (nk k38)).trans (tY_nE hM_3 (nk k39))))))
  rw [show ((a.toInt.toNat : Nat) : Int) = a.toInt by omega] at JJ
  exact hQ _ _ _ _ _ hw (⟨(eR.trans (eR_Y hM_9 (bk_m (z := x_8) (by omega) (by decide))) (eR.trans (eR_Y hM_7 (bk_m (z := x_6) (by omega) (by decide))) (eR.trans (eR_Y hM_5 (bk_q (z := 1) (by decide) (by decide))) (eR_Y hM_3 (bk_m (z := x_2) (by omega) (by decide)))))), JJ.1, JJ.2, iM_9, jj.1, jj.2.1, (((tY_nE hM_9 (nk (by decide))).trans ((tY_nE hM_7 (nk (by decide))).trans ((tY_nE hM_5 (nk (by decide))).trans (tY_nE hM_3 (nk (by decide))))))), jj.2.2⟩) dX10_joins_51
set_option maxHeartbeats 4000000 in
set_option maxRecDepth 100000 in
theorem z_X10_leaves_0 (l : Launch) (D : va_G) (A : Nat → Nat → Nat) (cy : Nat → ClassId) (hJ : ti_inj ti_LM A) (M : ti_M) (hI : mI Tm M) (hC : mC M 0) (pl ho t : Int32) (h1 : 0 ≤ pl.toInt) (h2 : pl.toInt < (tY M 60 38 0).toInt) (h3 : 2 ≤ ho.toInt) (tx rg : Nat → Int) (htr : tR tx M) (ht4 : 0 ≤ tx 4 ∧ tx 4 ≤ 8) (hr : qR (tx 4).toNat 0 rg M) (hV : qV (tx 4).toNat 0 rg M) (hwf : wF tx rg) (htm : t.toInt = rg 2) : ti_Kv l yX10_leaves cX10_leaves 8 0 ti_LM D A cy M [.ref (A 60 0), .int 0, .int pl, .int ho, .int t] (fun M2 => eR 0 M2 M ∧ qR (tx 4).toNat 0 (bq_rm rg pl.toInt ho.toInt) M2 ∧ qV (tx 4).toNat 0 (bq_rm rg pl.toInt ho.toInt) M2 ∧ mI Tm M2 ∧ rq 0 M2 M ∧ mC M2 0 ∧ tY M2 60 34 = tY M 60 34 ∧ (tY M2 60 38 0).toInt = (tY M 60 38 0).toInt - 1) := by
  refine ti_eV yp_X10_leaves hJ ti_LM_nd (Nat.le_of_ble_eq_true rfl) ?_
  intro p e s m args below meth c Q H0 C hQ hw ls hl
  have hx := C.1
  have hb := C.2.1
  have hl : lv_has ls 8 [(0, .ref (A 60 0)), (1, .int 0), (2, .int pl), (3, .int ho), (4, .int t)] := hl
  have h7 : 0 ≤ (tY M 60 38 0).toInt ∧ (tY M 60 38 0).toInt ≤ 8 := hI.2.1 38 _
  have l3 := hr.1.2.1
  have AP := hwf.2.2.1 pl.toInt.toNat (by omega)
  have w8 := wF_8 hwf
  have hq9 := hr.2.1 pl.toInt.toNat (by omega) (by omega)
  refine lv_aload_n hx hb dX10_leaves_0 rfl (lv_at hl 0 rfl) ?_
  refine ti_get (ci := 10) (k := 39) (N := 67) (T := TX10) (v := .ref (A 60 40)) C hw iw_10 rfl ob_60 (by decide) (by decide) fl_X10_84 rfl rfl dX10_leaves_1 ?_
  refine lv_bipush (v := 8) hx hb dX10_leaves_4 (by decide) ?_
  refine lv_iload_n hx hb dX10_leaves_6 rfl (lv_at hl 1 rfl) ?_
  refine lv_imul hx hb dX10_leaves_7 ?_
  refine ti_top (y := 0) (by decide) ?_
  refine lv_iload_n hx hb dX10_leaves_8 rfl (lv_at hl 2 rfl) ?_
  refine lv_iadd hx hb dX10_leaves_9 ?_
  refine lv_topi (fun x_1 ex_1 => ?_)
  have tx_1 : x_1.toInt = 0 + pl.toInt := i_add ex_1 (by decide : (0 : Int32).toInt = 0) rfl (by omega) (by omega)
  refine ti_iald (ci := 10) (k := 39) (n := 184) C hw ob_60 (by decide) (fun _ _ => rfl) (vp_in_iff.mpr (by omega)) dX10_leaves_10 ?_
  refine lv_topi (fun x_2 ex_2 => ?_)
  have yx_2 : tY M 60 39 x_1.toNatClampNeg = x_2 := (ex_2.symm)
  have bx_2 : 0 ≤ x_2.toInt ∧ x_2.toInt ≤ 7 := mI_ry (k := 39) (i := x_1.toNatClampNeg) hI yx_2.symm
  refine lv_istore (lv' := [(5, .int x_2), (0, .ref (A 60 0)), (1, .int 0), (2, .int pl), (3, .int ho), (4, .int t)]) hx hb dX10_leaves_11 hl (by decide) rfl (fun ls hl => ?_)
  refine lv_bipush (v := 8) hx hb dX10_leaves_13 (by decide) ?_
  refine lv_iload_n hx hb dX10_leaves_15 rfl (lv_at hl 2 rfl) ?_
  refine lv_imul hx hb dX10_leaves_16 ?_
  refine ti_top (y := 0) (by decide) ?_
  refine lv_iload hx hb dX10_leaves_17 (lv_at hl 0 rfl) ?_
  refine lv_iadd hx hb dX10_leaves_19 ?_
  refine lv_topi (fun x_3 ex_3 => ?_)
  have tx_3 : x_3.toInt = 0 + x_2.toInt := i_add ex_3 (by decide : (0 : Int32).toInt = 0) rfl (by omega) (by omega)
  refine lv_istore (lv' := [(6, .int x_3), (5, .int x_2), (0, .ref (A 60 0)), (1, .int 0), (2, .int pl), (3, .int ho), (4, .int t)]) hx hb dX10_leaves_20 hl (by decide) rfl (fun ls hl => ?_)
  refine lv_iload_n hx hb dX10_leaves_22 rfl (lv_at hl 4 rfl) ?_
  refine lv_istore (lv' := [(7, .int pl), (6, .int x_3), (5, .int x_2), (0, .ref (A 60 0)), (1, .int 0), (2, .int pl), (3, .int ho), (4, .int t)]) hx hb dX10_leaves_23 hl (by decide) rfl (fun ls hl => ?_)
  have hl_25_28 : ∀ (n_29 : Nat) (x_4 : Int32) (M_7 : ti_M) (H : Heap) (locs : List Loc) (ls : Array Slot), (8 - x_4.toInt : Int).toNat < n_29 → (0 ≤ x_4.toInt) → (x_4.toInt ≤ 7) → (mI Tm M_7) → (lk M_7 M) → (tY M_7 60 38 = tY M 60 38) → (tY M_7 60 40 = tY M 60 40) → (tY M_7 60 34 = tY M 60 34) → (eR 0 M_7 M) → (fI M_7 M) → (tY M_7 60 35 = tY M 60 35) → (tY M_7 60 36 = tY M 60 36) → (tY M_7 60 37 = tY M 60 37) → (tY M_7 60 41 = tY M 60 41) → (tY M_7 60 42 = tY M 60 42) → (tY M_7 60 43 = tY M 60 43) → (tY M_7 60 44 = tY M 60 44) → (tY M_7 60 45 = tY M 60 45) → (tY M_7 60 46 = tY M 60 46) → (tY M_7 60 47 = tY M 60 47) → (tY M_7 60 48 = tY M 60 48) → (tY M_7 60 49 = tY M 60 49) → (pl.toInt ≤ x_4.toInt) → (x_4.toInt < (tY M 60 38 0).toInt) → (sh M M_7 0 pl.toInt.toNat x_4.toInt) → ti_H ti_LM D A cy H0 M_7 H locs → lv_has ls 8 [(7, .int x_4), (6, .int x_3), (5, .int x_2), (0, .ref (A 60 0)), (1, .int 0), (2, .int pl), (3, .int ho), (4, .int t)] → W p l e (ti_rm 0) s m args below meth c H locs 0 0 Q (F0 m 25 ls []) := by
    intro n_29
    induction n_29 with
    | zero => intro x_4 M_7 H locs ls hf_29; exact absurd hf_29 (Nat.not_lt_zero _)
    | succ n_29 ih_29 =>
      intro x_4 M_7 H locs ls hf_29 b_5 b_6 iM_7 f_8 f_9 f_10 f_11 f_12 f_13 f_14 f_15 f_16 f_17 f_18 f_19 f_20 f_21 f_22 f_23 f_24 f_25 j_26 j_27 j_28 hw hl
      refine lv_iload hx hb dX10_leaves_25 (lv_at hl 0 rfl) ?_
      refine lv_iconst (v := 1) hx hb dX10_leaves_27 (by decide) ?_
      refine lv_iadd hx hb dX10_leaves_28 ?_
      refine lv_topi (fun x_30 ex_30 => ?_)
      have tx_30 : x_30.toInt = x_4.toInt + 1 := i_add ex_30 rfl (by decide : (1 : Int32).toInt = 1) (by omega) (by omega)
      refine lv_aload_n hx hb dX10_leaves_29 rfl (lv_at hl 3 rfl) ?_
      refine ti_get (ci := 10) (k := 38) (N := 67) (T := TX10) (v := .ref (A 60 39)) C hw iw_10 rfl ob_60 (by decide) (by decide) fl_X10_81 rfl rfl dX10_leaves_30 ?_
      refine lv_iload_n hx hb dX10_leaves_33 rfl (lv_at hl 4 rfl) ?_
      refine ti_iald (ci := 10) (k := 38) (n := 23) C hw ob_60 (by decide) (fun _ _ => rfl) (by unfold vp_in; decide) dX10_leaves_34 ?_
      refine lv_topi (fun x_31 ex_31 => ?_)
      have yx_31 : tY M_7 60 38 0 = x_31 := ((congrArg _ (by decide)).symm.trans ex_31.symm)
      have bx_31 : 0 ≤ x_31.toInt ∧ x_31.toInt ≤ 8 := mI_ry (k := 38) (i := 0) iM_7 yx_31.symm
      have zx_31 : (tY M_7 60 38 0).toInt = x_31.toInt := by rw [yx_31]
      have wx_31 : tY M 60 38 0 = x_31 := ((cg f_9 0)).symm.trans yx_31
      have zwx_31 : (tY M 60 38 0).toInt = x_31.toInt := by rw [wx_31]
      refine sb_icmp_ge (tgt := 70) hx hb rfl rfl dX10_leaves_35 (by decide) (fun c_35_31 => ?_) (fun c_35_31 => ?_)
      · refine lv_aload_n hx hb dX10_leaves_70 rfl (lv_at hl 3 rfl) ?_
        refine ti_get (ci := 10) (k := 38) (N := 67) (T := TX10) (v := .ref (A 60 39)) C hw iw_10 rfl ob_60 (by decide) (by decide) fl_X10_81 rfl rfl dX10_leaves_71 ?_
        refine lv_iload_n hx hb dX10_leaves_74 rfl (lv_at hl 4 rfl) ?_
        refine lv_dup2_11 hx hb dX10_leaves_75 rfl rfl ?_
        refine ti_iald (ci := 10) (k := 38) (n := 23) C hw ob_60 (by decide) (fun _ _ => rfl) (by unfold vp_in; decide) dX10_leaves_76 ?_
        refine ti_top (y := x_31) ((congrArg _ (by decide)).trans ((cg f_9 0).trans wx_31)) ?_
        refine lv_iconst (v := 1) hx hb dX10_leaves_77 (by decide) ?_
        refine lv_isub hx hb dX10_leaves_78 ?_
        refine lv_topi (fun x_39 ex_39 => ?_)
        have tx_39 : x_39.toInt = x_31.toInt - 1 := i_sub ex_39 rfl (by decide : (1 : Int32).toInt = 1) (by omega) (by omega)
        refine ti_iast (ci := 10) (k := 38) (n := 23) C hw ob_60 (by decide) (fun _ _ => rfl) (by unfold vp_in; decide) dX10_leaves_79 (fun H locs hw => ?_)
        obtain ⟨M_40, hM_40⟩ : ∃ z : ti_M, z = uY M_7 60 38 (upd (tY M_7 60 38) (0 : Int32).toNatClampNeg x_39) := ⟨_, rfl⟩
        have hw := hw.to hM_40.symm
        have iM_40 : mI Tm M_40 := mI_up (i := 0) iM_7 hM_40 (ib_mk (lo := 0) (hi := 8) (by omega) (by omega))
        refine lv_aload_n hx hb dX10_leaves_80 rfl (lv_at hl 3 rfl) ?_
        refine ti_get (ci := 10) (k := 40) (N := 67) (T := TX10) (v := .ref (A 60 41)) C hw iw_10 rfl ob_60 (by decide) (by decide) fl_X10_87 rfl rfl dX10_leaves_81 ?_
        refine lv_iload hx hb dX10_leaves_84 (lv_at hl 1 rfl) ?_
        refine lv_iload_n hx hb dX10_leaves_86 rfl (lv_at hl 6 rfl) ?_
        refine ti_iast (ci := 10) (k := 40) (n := 184) C hw ob_60 (by decide) (fun _ _ => rfl) (vp_in_iff.mpr (by omega)) dX10_leaves_87 (fun H locs hw => ?_)
        obtain ⟨M_41, hM_41⟩ : ∃ z : ti_M, z = uY M_40 60 40 (upd (tY M_40 60 40) (x_3 : Int32).toNatClampNeg ho) := ⟨_, rfl⟩
        have hw := hw.to hM_41.symm
        have iM_41 : mI Tm M_41 := mI_up (i := x_3.toNatClampNeg) iM_40 hM_41 trivial
        refine lv_aload_n hx hb dX10_leaves_88 rfl (lv_at hl 3 rfl) ?_
        refine ti_get (ci := 10) (k := 46) (N := 67) (T := TX10) (v := .ref (A 60 47)) C hw iw_10 rfl ob_60 (by decide) (by decide) fl_X10_105 rfl rfl dX10_leaves_89 ?_
        refine lv_iload hx hb dX10_leaves_92 (lv_at hl 1 rfl) ?_
        refine lv_iload hx hb dX10_leaves_94 (lv_at hl 7 rfl) ?_
        refine ti_iast (ci := 10) (k := 46) (n := 184) C hw ob_60 (by decide) (fun _ _ => rfl) (vp_in_iff.mpr (by omega)) dX10_leaves_96 (fun H locs hw => ?_)
        obtain ⟨M_42, hM_42⟩ : ∃ z : ti_M, z = uY M_41 60 46 (upd (tY M_41 60 46) (x_3 : Int32).toNatClampNeg t) := ⟨_, rfl⟩
        have hw := hw.to hM_42.symm
        have iM_42 : mI Tm M_42 := mI_up (i := x_3.toNatClampNeg) iM_41 hM_42 trivial
        refine lv_aload_n hx hb dX10_leaves_97 rfl (lv_at hl 3 rfl) ?_
        refine ti_get (ci := 10) (k := 47) (N := 67) (T := TX10) (v := .ref (A 60 48)) C hw iw_10 rfl ob_60 (by decide) (by decide) fl_X10_108 rfl rfl dX10_leaves_98 ?_
        refine lv_iload hx hb dX10_leaves_101 (lv_at hl 1 rfl) ?_
        refine lv_iconst (v := 0) hx hb dX10_leaves_103 (by decide) ?_
        refine ti_iast (ci := 10) (k := 47) (n := 184) C hw ob_60 (by decide) (fun _ _ => rfl) (vp_in_iff.mpr (by omega)) dX10_leaves_104 (fun H locs hw => ?_)
        obtain ⟨M_43, hM_43⟩ : ∃ z : ti_M, z = uY M_42 60 47 (upd (tY M_42 60 47) (x_3 : Int32).toNatClampNeg 0) := ⟨_, rfl⟩
        have hw := hw.to hM_43.symm
        have iM_43 : mI Tm M_43 := mI_up (i := x_3.toNatClampNeg) iM_42 hM_43 trivial
        refine lv_aload_n hx hb dX10_leaves_105 rfl (lv_at hl 3 rfl) ?_
        refine ti_get (ci := 10) (k := 37) (N := 67) (T := TX10) (v := .ref (A 60 38)) C hw iw_10 rfl ob_60 (by decide) (by decide) fl_X10_78 rfl rfl dX10_leaves_106 ?_
        refine lv_iload_n hx hb dX10_leaves_109 rfl (lv_at hl 4 rfl) ?_
        refine lv_dup2_11 hx hb dX10_leaves_110 rfl rfl ?_
        refine ti_iald (ci := 10) (k := 37) (n := 23) C hw ob_60 (by decide) (fun _ _ => rfl) (by unfold vp_in; decide) dX10_leaves_111 ?_
        refine lv_topi (fun x_44 ex_44 => ?_)
        have yx_44 : tY M_43 60 37 0 = x_44 := ((congrArg _ (by decide)).symm.trans ex_44.symm)
        have wx_44 : tY M 60 37 0 = x_44 := (((cg (tY_nE hM_43 (nk (by decide))) 0).trans ((cg (tY_nE hM_42 (nk (by decide))) 0).trans ((cg (tY_nE hM_41 (nk (by decide))) 0).trans ((cg (tY_nE hM_40 (nk (by decide))) 0).trans (cg f_16 0)))))).symm.trans yx_44
        refine lv_iconst (v := 1) hx hb dX10_leaves_112 (by decide) ?_
        refine lv_iload hx hb dX10_leaves_113 (lv_at hl 2 rfl) ?_
        refine lv_ishl hx hb dX10_leaves_115 ?_
        refine lv_topi (fun x_45 ex_45 => ?_)
        refine lv_iconst (v := (-1)) hx hb dX10_leaves_116 (by decide) ?_
        refine lv_ixor hx hb dX10_leaves_117 ?_
        refine lv_topi (fun x_46 ex_46 => ?_)
        refine lv_iand hx hb dX10_leaves_118 ?_
        refine lv_topi (fun x_47 ex_47 => ?_)
        refine ti_iast (ci := 10) (k := 37) (n := 23) C hw ob_60 (by decide) (fun _ _ => rfl) (by unfold vp_in; decide) dX10_leaves_119 (fun H locs hw => ?_)
        obtain ⟨M_48, hM_48⟩ : ∃ z : ti_M, z = uY M_43 60 37 (upd (tY M_43 60 37) (0 : Int32).toNatClampNeg x_47) := ⟨_, rfl⟩
        have hw := hw.to hM_48.symm
        have iM_48 : mI Tm M_48 := mI_up (i := 0) iM_43 hM_48 trivial
        refine lv_iload_n hx hb dX10_leaves_120 rfl (lv_at hl 6 rfl) ?_
        refine lv_iconst (v := 2) hx hb dX10_leaves_121 (by decide) ?_
        refine sb_icmp_ne (tgt := 134) hx hb rfl (by decide : (2 : Int32).toInt = 2) dX10_leaves_122 (by decide) (fun c_122_48 => ?_) (fun c_122_48 => ?_)
        · have n9 : x_1.toNatClampNeg = 8 * 0 + pl.toInt.toNat := by show (x_1).toInt.toNat = _; omega
          have k9 : (tY M 60 39 (8 * 0 + pl.toInt.toNat)).toInt = x_2.toInt := by rw [← n9, (yx_2)]
          have jj := q_leave (q := 0) (pl := pl.toInt.toNat) (p := x_4.toInt) hI hC (by rw [tY_nE (o2 := 60) (k2 := 38) hM_48 (nk (by decide)), tY_nE (o2 := 60) (k2 := 38) hM_43 (nk (by decide)), tY_nE (o2 := 60) (k2 := 38) hM_42 (nk (by decide)), tY_nE (o2 := 60) (k2 := 38) hM_41 (nk (by decide)), tY_uE hM_40, (f_9 : tY M_7 60 38 = tY M 60 38)] : tY M_48 60 38 = upd (tY M 60 38) (0 : Int32).toNatClampNeg x_39) (fun i => (cg (by rw [tY_nE (o2 := 60) (k2 := 39) hM_48 (nk (by decide)), tY_nE (o2 := 60) (k2 := 39) hM_43 (nk (by decide)), tY_nE (o2 := 60) (k2 := 39) hM_42 (nk (by decide)), tY_nE (o2 := 60) (k2 := 39) hM_41 (nk (by decide)), tY_nE (o2 := 60) (k2 := 39) hM_40 (nk (by decide))] : tY M_48 60 39 = tY M_7 60 39) i).trans (j_28 i)) (by rw [tY_nE (o2 := 60) (k2 := 40) hM_48 (nk (by decide)), tY_nE (o2 := 60) (k2 := 40) hM_43 (nk (by decide)), tY_nE (o2 := 60) (k2 := 40) hM_42 (nk (by decide)), tY_uE hM_41, tY_nE (o2 := 60) (k2 := 40) hM_40 (nk (by decide)), (f_10 : tY M_7 60 40 = tY M 60 40)] : tY M_48 60 40 = upd (tY M 60 40) (x_3 : Int32).toNatClampNeg ho) (lk.trans (lk_Y hM_48 (by decide)) (lk.trans (lk_Y hM_43 (by decide)) (lk.trans (lk_Y hM_42 (by decide)) (lk.trans (lk_Y hM_41 (by decide)) (lk.trans (lk_Y hM_40 (by decide)) f_8))))) (by decide) (by omega) (by omega) (by omega) (by show ((x_3.toInt.toNat : Nat) : Int) = _; omega) h3
          have h39 : ∀ i : Nat, tY M_48 60 39 i = if 8 * 0 + pl.toInt.toNat ≤ i ∧ (i : Int) < 8 * ((0 : Nat) : Int) + (rg 3 - 1) then tY M 60 39 (i + 1) else tY M 60 39 i := fun i => by
            have q9 := (cg (by rw [tY_nE (o2 := 60) (k2 := 39) hM_48 (nk (by decide)), tY_nE (o2 := 60) (k2 := 39) hM_43 (nk (by decide)), tY_nE (o2 := 60) (k2 := 39) hM_42 (nk (by decide)), tY_nE (o2 := 60) (k2 := 39) hM_41 (nk (by decide)), tY_nE (o2 := 60) (k2 := 39) hM_40 (nk (by decide))] : tY M_48 60 39 = tY M_7 60 39) i).trans (j_28 i)
            rw [q9]
            by_cases c9 : 8 * 0 + pl.toInt.toNat ≤ i ∧ (i : Int) < 8 * ((0 : Nat) : Int) + (rg 3 - 1)
            · rw [if_pos c9, if_pos (by omega)]
            · rw [if_neg c9, if_neg (by omega)]
          have LL := q_leaveR (m := x_2.toInt.toNat) (pl := pl.toInt.toNat) hr hV (by omega) (by omega) (by omega) (by omega) (by omega) (by rw [show x_2.toInt.toNat = (rg (96 + pl.toInt.toNat)).toNat by omega]; exact AP.2.2) h3 (by rw [tY_nE (o2 := 60) (k2 := 38) hM_48 (nk (by decide)), tY_nE (o2 := 60) (k2 := 38) hM_43 (nk (by decide)), tY_nE (o2 := 60) (k2 := 38) hM_42 (nk (by decide)), tY_nE (o2 := 60) (k2 := 38) hM_41 (nk (by decide)), tY_uE hM_40, (f_9 : tY M_7 60 38 = tY M 60 38)] : tY M_48 60 38 = upd (tY M 60 38) (0 : Int32).toNatClampNeg x_39) h39 (by rw [tY_nE (o2 := 60) (k2 := 40) hM_48 (nk (by decide)), tY_nE (o2 := 60) (k2 := 40) hM_43 (nk (by decide)), tY_nE (o2 := 60) (k2 := 40) hM_42 (nk (by decide)), tY_uE hM_41, tY_nE (o2 := 60) (k2 := 40) hM_40 (nk (by decide)), (f_10 : tY M_7 60 40 = tY M 60 40)] : tY M_48 60 40 = upd (tY M 60 40) (x_3 : Int32).toNatClampNeg ho) (by rw [tY_nE (o2 := 60) (k2 := 46) hM_48 (nk (by decide)), tY_nE (o2 := 60) (k2 := 46) hM_43 (nk (by decide)), tY_uE hM_42, tY_nE (o2 := 60) (k2 := 46) hM_41 (nk (by decide)), tY_nE (o2 := 60) (k2 := 46) hM_40 (nk (by decide)), (f_22 : tY M_7 60 46 = tY M 60 46)] : tY M_48 60 46 = upd (tY M 60 46) (x_3 : Int32).toNatClampNeg t) (by rw [tY_nE (o2 := 60) (k2 := 47) hM_48 (nk (by decide)), tY_uE hM_43, tY_nE (o2 := 60) (k2 := 47) hM_42 (nk (by decide)), tY_nE (o2 := 60) (k2 := 47) hM_41 (nk (by decide)), tY_nE (o2 := 60) (k2 := 47) hM_40 (nk (by decide)), (f_23 : tY M_7 60 47 = tY M 60 47)] : tY M_48 60 47 = upd (tY M 60 47) (x_3 : Int32).toNatClampNeg 0) (by rw [tY_uE hM_48, tY_nE (o2 := 60) (k2 := 37) hM_43 (nk (by decide)), tY_nE (o2 := 60) (k2 := 37) hM_42 (nk (by decide)), tY_nE (o2 := 60) (k2 := 37) hM_41 (nk (by decide)), tY_nE (o2 := 60) (k2 := 37) hM_40 (nk (by decide)), (f_16 : tY M_7 60 37 = tY M 60 37)] : tY M_48 60 37 = upd (tY M 60 37) (0 : Int32).toNatClampNeg x_47) (Or.inr ⟨by omega, (((tY_nE hM_48 (nk (by decide))).trans ((tY_nE hM_43 (nk (by decide))).trans ((tY_nE hM_42 (nk (by decide))).trans ((tY_nE hM_41 (nk (by decide))).trans ((tY_nE hM_40 (nk (by decide))).trans f_24))))))⟩) (by decide) (by decide) (by omega) (by show x_3.toInt.toNat = _; omega) (by omega) (by decide) (fun j hj => by rw [bt_clr (k := x_2.toInt) ex_45 rfl (by omega) (by omega) ex_46 ex_47 j (by omega), (wx_44)]) (fun h => by rw [ex_47, ← (wx_44), h]; simp) (fun k k37 k38 k39 k40 k46 k47 k48 k34 k49 => by rcases (show k = 34 ∨ k = 35 ∨ k = 36 ∨ k = 41 ∨ k = 42 ∨ k = 43 ∨ k = 44 ∨ k = 45 ∨ k = 49 by omega) with rfl | rfl | rfl | rfl | rfl | rfl | rfl | rfl | rfl <;> first | exact (((tY_nE hM_48 (nk (by decide))).trans ((tY_nE hM_43 (nk (by decide))).trans ((tY_nE hM_42 (nk (by decide))).trans ((tY_nE hM_41 (nk (by decide))).trans ((tY_nE hM_40 (nk (by decide))).trans f_11)))))) | exact (((tY_nE hM_48 (nk (by decide))).trans ((tY_nE hM_43 (nk (by decide))).trans ((tY_nE hM_42 (nk (by decide))).trans ((tY_nE hM_41 (nk (by decide))).trans ((tY_nE hM_40 (nk (by decide))).trans f_14)))))) | exact (((tY_nE hM_48 (nk (by decide))).trans ((tY_nE hM_43 (nk (by decide))).trans ((tY_nE hM_42 (nk (by decide))).trans ((tY_nE hM_41 (nk (by decide))).trans ((tY_nE hM_40 (nk (by decide))).trans f_15)))))) | exact (((tY_nE hM_48 (nk (by decide))).trans ((tY_nE hM_43 (nk (by decide))).trans ((tY_nE hM_42 (nk (by decide))).trans ((tY_nE hM_41 (nk (by decide))).trans ((tY_nE hM_40 (nk (by decide))).trans f_17)))))) | exact (((tY_nE hM_48 (nk (by decide))).trans ((tY_nE hM_43 (nk (by decide))).trans ((tY_nE hM_42 (nk (by decide))).trans ((tY_nE hM_41 (nk (by decide))).trans ((tY_nE hM_40 (nk (by decide))).trans f_18)))))) | exact (((tY_nE hM_48 (nk (by decide))).trans ((tY_nE hM_43 (nk (by decide))).trans ((tY_nE hM_42 (nk (by decide))).trans ((tY_nE hM_41 (nk (by decide))).trans ((tY_nE hM_40 (nk (by decide))).trans f_19)))))) | exact (((tY_nE hM_48 (nk (by decide))).trans ((tY_nE hM_43 (nk (by decide))).trans ((tY_nE hM_42 (nk (by decide))).trans ((tY_nE hM_41 (nk (by decide))).trans ((tY_nE hM_40 (nk (by decide))).trans f_20)))))) | exact (((tY_nE hM_48 (nk (by decide))).trans ((tY_nE hM_43 (nk (by decide))).trans ((tY_nE hM_42 (nk (by decide))).trans ((tY_nE hM_41 (nk (by decide))).trans ((tY_nE hM_40 (nk (by decide))).trans f_21)))))) | exact (((tY_nE hM_48 (nk (by decide))).trans ((tY_nE hM_43 (nk (by decide))).trans ((tY_nE hM_42 (nk (by decide))).trans ((tY_nE hM_41 (nk (by decide))).trans ((tY_nE hM_40 (nk (by decide))).trans f_25)))))))
          rw [show ((pl.toInt.toNat : Nat) : Int) = pl.toInt by omega] at LL
          exact hQ _ _ _ _ _ hw (⟨(eR.trans (eR_Y hM_48 (bk_q (z := 0) (by decide) (by decide))) (eR.trans (eR_Y hM_43 (bk_m (z := x_3) (by omega) (by decide))) (eR.trans (eR_Y hM_42 (bk_m (z := x_3) (by omega) (by decide))) (eR.trans (eR_Y hM_41 (bk_m (z := x_3) (by omega) (by decide))) (eR.trans (eR_Y hM_40 (bk_q (z := 0) (by decide) (by decide))) f_12))))), LL.1, LL.2, iM_48, jj.1, jj.2.1, (((tY_nE hM_48 (nk (by decide))).trans ((tY_nE hM_43 (nk (by decide))).trans ((tY_nE hM_42 (nk (by decide))).trans ((tY_nE hM_41 (nk (by decide))).trans ((tY_nE hM_40 (nk (by decide))).trans f_11)))))), jj.2.2⟩) dX10_leaves_134
        · refine lv_aload_n hx hb dX10_leaves_125 rfl (lv_at hl 3 rfl) ?_
          refine ti_get (ci := 10) (k := 48) (N := 67) (T := TX10) (v := .ref (A 60 49)) C hw iw_10 rfl ob_60 (by decide) (by decide) fl_X10_111 rfl rfl dX10_leaves_126 ?_
          refine lv_iload hx hb dX10_leaves_129 (lv_at hl 1 rfl) ?_
          refine lv_iload hx hb dX10_leaves_131 (lv_at hl 7 rfl) ?_
          refine ti_iast (ci := 10) (k := 48) (n := 184) C hw ob_60 (by decide) (fun _ _ => rfl) (vp_in_iff.mpr (by omega)) dX10_leaves_133 (fun H locs hw => ?_)
          obtain ⟨M_50, hM_50⟩ : ∃ z : ti_M, z = uY M_48 60 48 (upd (tY M_48 60 48) (x_3 : Int32).toNatClampNeg t) := ⟨_, rfl⟩
          have hw := hw.to hM_50.symm
          have iM_50 : mI Tm M_50 := mI_up (i := x_3.toNatClampNeg) iM_48 hM_50 trivial
          have n9 : x_1.toNatClampNeg = 8 * 0 + pl.toInt.toNat := by show (x_1).toInt.toNat = _; omega
          have k9 : (tY M 60 39 (8 * 0 + pl.toInt.toNat)).toInt = x_2.toInt := by rw [← n9, (yx_2)]
          have jj := q_leave (q := 0) (pl := pl.toInt.toNat) (p := x_4.toInt) hI hC (by rw [tY_nE (o2 := 60) (k2 := 38) hM_50 (nk (by decide)), tY_nE (o2 := 60) (k2 := 38) hM_48 (nk (by decide)), tY_nE (o2 := 60) (k2 := 38) hM_43 (nk (by decide)), tY_nE (o2 := 60) (k2 := 38) hM_42 (nk (by decide)), tY_nE (o2 := 60) (k2 := 38) hM_41 (nk (by decide)), tY_uE hM_40, (f_9 : tY M_7 60 38 = tY M 60 38)] : tY M_50 60 38 = upd (tY M 60 38) (0 : Int32).toNatClampNeg x_39) (fun i => (cg (by rw [tY_nE (o2 := 60) (k2 := 39) hM_50 (nk (by decide)), tY_nE (o2 := 60) (k2 := 39) hM_48 (nk (by decide)), tY_nE (o2 := 60) (k2 := 39) hM_43 (nk (by decide)), tY_nE (o2 := 60) (k2 := 39) hM_42 (nk (by decide)), tY_nE (o2 := 60) (k2 := 39) hM_41 (nk (by decide)), tY_nE (o2 := 60) (k2 := 39) hM_40 (nk (by decide))] : tY M_50 60 39 = tY M_7 60 39) i).trans (j_28 i)) (by rw [tY_nE (o2 := 60) (k2 := 40) hM_50 (nk (by decide)), tY_nE (o2 := 60) (k2 := 40) hM_48 (nk (by decide)), tY_nE (o2 := 60) (k2 := 40) hM_43 (nk (by decide)), tY_nE (o2 := 60) (k2 := 40) hM_42 (nk (by decide)), tY_uE hM_41, tY_nE (o2 := 60) (k2 := 40) hM_40 (nk (by decide)), (f_10 : tY M_7 60 40 = tY M 60 40)] : tY M_50 60 40 = upd (tY M 60 40) (x_3 : Int32).toNatClampNeg ho) (lk.trans (lk_Y hM_50 (by decide)) (lk.trans (lk_Y hM_48 (by decide)) (lk.trans (lk_Y hM_43 (by decide)) (lk.trans (lk_Y hM_42 (by decide)) (lk.trans (lk_Y hM_41 (by decide)) (lk.trans (lk_Y hM_40 (by decide)) f_8)))))) (by decide) (by omega) (by omega) (by omega) (by show ((x_3.toInt.toNat : Nat) : Int) = _; omega) h3
          have h39 : ∀ i : Nat, tY M_50 60 39 i = if 8 * 0 + pl.toInt.toNat ≤ i ∧ (i : Int) < 8 * ((0 : Nat) : Int) + (rg 3 - 1) then tY M 60 39 (i + 1) else tY M 60 39 i := fun i => by
            have q9 := (cg (by rw [tY_nE (o2 := 60) (k2 := 39) hM_50 (nk (by decide)), tY_nE (o2 := 60) (k2 := 39) hM_48 (nk (by decide)), tY_nE (o2 := 60) (k2 := 39) hM_43 (nk (by decide)), tY_nE (o2 := 60) (k2 := 39) hM_42 (nk (by decide)), tY_nE (o2 := 60) (k2 := 39) hM_41 (nk (by decide)), tY_nE (o2 := 60) (k2 := 39) hM_40 (nk (by decide))] : tY M_50 60 39 = tY M_7 60 39) i).trans (j_28 i)
            rw [q9]
            by_cases c9 : 8 * 0 + pl.toInt.toNat ≤ i ∧ (i : Int) < 8 * ((0 : Nat) : Int) + (rg 3 - 1)
            · rw [if_pos c9, if_pos (by omega)]
            · rw [if_neg c9, if_neg (by omega)]
          have LL := q_leaveR (m := x_2.toInt.toNat) (pl := pl.toInt.toNat) hr hV (by omega) (by omega) (by omega) (by omega) (by omega) (by rw [show x_2.toInt.toNat = (rg (96 + pl.toInt.toNat)).toNat by omega]; exact AP.2.2) h3 (by rw [tY_nE (o2 := 60) (k2 := 38) hM_50 (nk (by decide)), tY_nE (o2 := 60) (k2 := 38) hM_48 (nk (by decide)), tY_nE (o2 := 60) (k2 := 38) hM_43 (nk (by decide)), tY_nE (o2 := 60) (k2 := 38) hM_42 (nk (by decide)), tY_nE (o2 := 60) (k2 := 38) hM_41 (nk (by decide)), tY_uE hM_40, (f_9 : tY M_7 60 38 = tY M 60 38)] : tY M_50 60 38 = upd (tY M 60 38) (0 : Int32).toNatClampNeg x_39) h39 (by rw [tY_nE (o2 := 60) (k2 := 40) hM_50 (nk (by decide)), tY_nE (o2 := 60) (k2 := 40) hM_48 (nk (by decide)), tY_nE (o2 := 60) (k2 := 40) hM_43 (nk (by decide)), tY_nE (o2 := 60) (k2 := 40) hM_42 (nk (by decide)), tY_uE hM_41, tY_nE (o2 := 60) (k2 := 40) hM_40 (nk (by decide)), (f_10 : tY M_7 60 40 = tY M 60 40)] : tY M_50 60 40 = upd (tY M 60 40) (x_3 : Int32).toNatClampNeg ho) (by rw [tY_nE (o2 := 60) (k2 := 46) hM_50 (nk (by decide)), tY_nE (o2 := 60) (k2 := 46) hM_48 (nk (by decide)), tY_nE (o2 := 60) (k2 := 46) hM_43 (nk (by decide)), tY_uE hM_42, tY_nE (o2 := 60) (k2 := 46) hM_41 (nk (by decide)), tY_nE (o2 := 60) (k2 := 46) hM_40 (nk (by decide)), (f_22 : tY M_7 60 46 = tY M 60 46)] : tY M_50 60 46 = upd (tY M 60 46) (x_3 : Int32).toNatClampNeg t) (by rw [tY_nE (o2 := 60) (k2 := 47) hM_50 (nk (by decide)), tY_nE (o2 := 60) (k2 := 47) hM_48 (nk (by decide)), tY_uE hM_43, tY_nE (o2 := 60) (k2 := 47) hM_42 (nk (by decide)), tY_nE (o2 := 60) (k2 := 47) hM_41 (nk (by decide)), tY_nE (o2 := 60) (k2 := 47) hM_40 (nk (by decide)), (f_23 : tY M_7 60 47 = tY M 60 47)] : tY M_50 60 47 = upd (tY M 60 47) (x_3 : Int32).toNatClampNeg 0) (by rw [tY_nE (o2 := 60) (k2 := 37) hM_50 (nk (by decide)), tY_uE hM_48, tY_nE (o2 := 60) (k2 := 37) hM_43 (nk (by decide)), tY_nE (o2 := 60) (k2 := 37) hM_42 (nk (by decide)), tY_nE (o2 := 60) (k2 := 37) hM_41 (nk (by decide)), tY_nE (o2 := 60) (k2 := 37) hM_40 (nk (by decide)), (f_16 : tY M_7 60 37 = tY M 60 37)] : tY M_50 60 37 = upd (tY M 60 37) (0 : Int32).toNatClampNeg x_47) (Or.inl ⟨by omega, (by rw [tY_uE hM_50, tY_nE (o2 := 60) (k2 := 48) hM_48 (nk (by decide)), tY_nE (o2 := 60) (k2 := 48) hM_43 (nk (by decide)), tY_nE (o2 := 60) (k2 := 48) hM_42 (nk (by decide)), tY_nE (o2 := 60) (k2 := 48) hM_41 (nk (by decide)), tY_nE (o2 := 60) (k2 := 48) hM_40 (nk (by decide)), (f_24 : tY M_7 60 48 = tY M 60 48)] : tY M_50 60 48 = upd (tY M 60 48) (x_3 : Int32).toNatClampNeg t)⟩) (by decide) (by decide) (by omega) (by show x_3.toInt.toNat = _; omega) (by omega) (by decide) (fun j hj => by rw [bt_clr (k := x_2.toInt) ex_45 rfl (by omega) (by omega) ex_46 ex_47 j (by omega), (wx_44)]) (fun h => by rw [ex_47, ← (wx_44), h]; simp) (fun k k37 k38 k39 k40 k46 k47 k48 k34 k49 => by rcases (show k = 34 ∨ k = 35 ∨ k = 36 ∨ k = 41 ∨ k = 42 ∨ k = 43 ∨ k = 44 ∨ k = 45 ∨ k = 49 by omega) with rfl | rfl | rfl | rfl | rfl | rfl | rfl | rfl | rfl <;> first | exact (((tY_nE hM_50 (nk (by decide))).trans ((tY_nE hM_48 (nk (by decide))).trans ((tY_nE hM_43 (nk (by decide))).trans ((tY_nE hM_42 (nk (by decide))).trans ((tY_nE hM_41 (nk (by decide))).trans ((tY_nE hM_40 (nk (by decide))).trans f_11))))))) | exact (((tY_nE hM_50 (nk (by decide))).trans ((tY_nE hM_48 (nk (by decide))).trans ((tY_nE hM_43 (nk (by decide))).trans ((tY_nE hM_42 (nk (by decide))).trans ((tY_nE hM_41 (nk (by decide))).trans ((tY_nE hM_40 (nk (by decide))).trans f_14))))))) | exact (((tY_nE hM_50 (nk (by decide))).trans ((tY_nE hM_48 (nk (by decide))).trans ((tY_nE hM_43 (nk (by decide))).trans ((tY_nE hM_42 (nk (by decide))).trans ((tY_nE hM_41 (nk (by decide))).trans ((tY_nE hM_40 (nk (by decide))).trans f_15))))))) | exact (((tY_nE hM_50 (nk (by decide))).trans ((tY_nE hM_48 (nk (by decide))).trans ((tY_nE hM_43 (nk (by decide))).trans ((tY_nE hM_42 (nk (by decide))).trans ((tY_nE hM_41 (nk (by decide))).trans ((tY_nE hM_40 (nk (by decide))).trans f_17))))))) | exact (((tY_nE hM_50 (nk (by decide))).trans ((tY_nE hM_48 (nk (by decide))).trans ((tY_nE hM_43 (nk (by decide))).trans ((tY_nE hM_42 (nk (by decide))).trans ((tY_nE hM_41 (nk (by decide))).trans ((tY_nE hM_40 (nk (by decide))).trans f_18))))))) | exact (((tY_nE hM_50 (nk (by decide))).trans ((tY_nE hM_48 (nk (by decide))).trans ((tY_nE hM_43 (nk (by decide))).trans ((tY_nE hM_42 (nk (by decide))).trans ((tY_nE hM_41 (nk (by decide))).trans ((tY_nE hM_40 (nk (by decide))).trans f_19))))))) | exact (((tY_nE hM_50 (nk (by decide))).trans ((tY_nE hM_48 (nk (by decide))).trans ((tY_nE hM_43 (nk (by decide))).trans ((tY_nE hM_42 (nk (by decide))).trans ((tY_nE hM_41 (nk (by decide))).trans ((tY_nE hM_40 (nk (by decide))).trans f_20))))))) | exact (((tY_nE hM_50 (nk (by decide))).trans ((tY_nE hM_48 (nk (by decide))).trans ((tY_nE hM_43 (nk (by decide))).trans ((tY_nE hM_42 (nk (by decide))).trans ((tY_nE hM_41 (nk (by decide))).trans ((tY_nE hM_40 (nk (by decide))).trans f_21))))))) | exact (((tY_nE hM_50 (nk (by decide))).trans ((tY_nE hM_48 (nk (by decide))).trans ((tY_nE hM_43 (nk (by decide))).trans ((tY_nE hM_42 (nk (by decide))).trans ((tY_nE hM_41 (nk (by decide))).trans ((tY_nE hM_40 (nk (by decide))).trans f_25))))))))
          rw [show ((pl.toInt.toNat : Nat) : Int) = pl.toInt by omega] at LL
          exact hQ _ _ _ _ _ hw (⟨(eR.trans (eR_Y hM_50 (bk_m (z := x_3) (by omega) (by decide))) (eR.trans (eR_Y hM_48 (bk_q (z := 0) (by decide) (by decide))) (eR.trans (eR_Y hM_43 (bk_m (z := x_3) (by omega) (by decide))) (eR.trans (eR_Y hM_42 (bk_m (z := x_3) (by omega) (by decide))) (eR.trans (eR_Y hM_41 (bk_m (z := x_3) (by omega) (by decide))) (eR.trans (eR_Y hM_40 (bk_q (z := 0) (by decide) (by decide))) f_12)))))), LL.1, LL.2, iM_50, jj.1, jj.2.1, (((tY_nE hM_50 (nk (by decide))).trans ((tY_nE hM_48 (nk (by decide))).trans ((tY_nE hM_43 (nk (by decide))).trans ((tY_nE hM_42 (nk (by decide))).trans ((tY_nE hM_41 (nk (by decide))).trans ((tY_nE hM_40 (nk (by decide))).trans f_11))))))), jj.2.2⟩) dX10_leaves_134
      · refine lv_aload_n hx hb dX10_leaves_38 rfl (lv_at hl 3 rfl) ?_
        refine ti_get (ci := 10) (k := 39) (N := 67) (T := TX10) (v := .ref (A 60 40)) C hw iw_10 rfl ob_60 (by decide) (by decide) fl_X10_84 rfl rfl dX10_leaves_39 ?_
        refine lv_bipush (v := 8) hx hb dX10_leaves_42 (by decide) ?_
        refine lv_iload_n hx hb dX10_leaves_44 rfl (lv_at hl 4 rfl) ?_
        refine lv_imul hx hb dX10_leaves_45 ?_
        refine ti_top (y := 0) (by decide) ?_
        refine lv_iload hx hb dX10_leaves_46 (lv_at hl 0 rfl) ?_
        refine lv_iadd hx hb dX10_leaves_48 ?_
        refine lv_topi (fun x_33 ex_33 => ?_)
        have tx_33 : x_33.toInt = 0 + x_4.toInt := i_add ex_33 (by decide : (0 : Int32).toInt = 0) rfl (by omega) (by omega)
        refine lv_aload_n hx hb dX10_leaves_49 rfl (lv_at hl 3 rfl) ?_
        refine ti_get (ci := 10) (k := 39) (N := 67) (T := TX10) (v := .ref (A 60 40)) C hw iw_10 rfl ob_60 (by decide) (by decide) fl_X10_84 rfl rfl dX10_leaves_50 ?_
        refine lv_bipush (v := 8) hx hb dX10_leaves_53 (by decide) ?_
        refine lv_iload_n hx hb dX10_leaves_55 rfl (lv_at hl 4 rfl) ?_
        refine lv_imul hx hb dX10_leaves_56 ?_
        refine ti_top (y := 0) (by decide) ?_
        refine lv_iload hx hb dX10_leaves_57 (lv_at hl 0 rfl) ?_
        refine lv_iadd hx hb dX10_leaves_59 ?_
        refine lv_topi (fun x_34 ex_34 => ?_)
        have tx_34 : x_34.toInt = 0 + x_4.toInt := i_add ex_34 (by decide : (0 : Int32).toInt = 0) rfl (by omega) (by omega)
        refine lv_iconst (v := 1) hx hb dX10_leaves_60 (by decide) ?_
        refine lv_iadd hx hb dX10_leaves_61 ?_
        refine lv_topi (fun x_35 ex_35 => ?_)
        have tx_35 : x_35.toInt = x_34.toInt + 1 := i_add ex_35 rfl (by decide : (1 : Int32).toInt = 1) (by omega) (by omega)
        refine ti_iald (ci := 10) (k := 39) (n := 184) C hw ob_60 (by decide) (fun _ _ => rfl) (vp_in_iff.mpr (by omega)) dX10_leaves_62 ?_
        refine lv_topi (fun x_36 ex_36 => ?_)
        have yx_36 : tY M_7 60 39 x_35.toNatClampNeg = x_36 := (ex_36.symm)
        have bx_36 : 0 ≤ x_36.toInt ∧ x_36.toInt ≤ 7 := mI_ry (k := 39) (i := x_35.toNatClampNeg) iM_7 yx_36.symm
        refine ti_iast (ci := 10) (k := 39) (n := 184) C hw ob_60 (by decide) (fun _ _ => rfl) (vp_in_iff.mpr (by omega)) dX10_leaves_63 (fun H locs hw => ?_)
        obtain ⟨M_37, hM_37⟩ : ∃ z : ti_M, z = uY M_7 60 39 (upd (tY M_7 60 39) (x_33 : Int32).toNatClampNeg x_36) := ⟨_, rfl⟩
        have hw := hw.to hM_37.symm
        have iM_37 : mI Tm M_37 := mI_up (i := x_33.toNatClampNeg) iM_7 hM_37 (ib_mk (lo := 0) (hi := 7) (by omega) (by omega))
        obtain ⟨x_38, ex_38⟩ : ∃ z : Int32, z = x_4 + 1 := ⟨_, rfl⟩
        have tx_38 : x_38.toInt = x_4.toInt + 1 := i_add ex_38 rfl (by decide) (by omega) (by omega)
        refine lv_iinc (v := x_38) (lv' := [(7, .int x_38), (6, .int x_3), (5, .int x_2), (0, .ref (A 60 0)), (1, .int 0), (2, .int pl), (3, .int ho), (4, .int t)]) hx hb dX10_leaves_64 hl (k := 0) rfl (by rw [ex_38]; rfl) (by decide) rfl (fun ls hl => ?_)
        refine lv_goto (tgt := 25) hx hb dX10_leaves_67 (by decide) ?_
        exact ih_29 x_38 M_37 _ _ _ (by omega) (by first | omega | decide) (by first | omega | decide) iM_37 (lk.trans (lk_Y hM_37 (by decide)) f_8) (((tY_nE hM_37 (nk (by decide))).trans f_9)) (((tY_nE hM_37 (nk (by decide))).trans f_10)) (((tY_nE hM_37 (nk (by decide))).trans f_11)) (eR.trans (eR_Y hM_37 (bk_m (z := x_33) (by omega) (by decide))) f_12) (fI.trans (fI_Y hM_37) f_13) (((tY_nE hM_37 (nk (by decide))).trans f_14)) (((tY_nE hM_37 (nk (by decide))).trans f_15)) (((tY_nE hM_37 (nk (by decide))).trans f_16)) (((tY_nE hM_37 (nk (by decide))).trans f_17)) (((tY_nE hM_37 (nk (by decide))).trans f_18)) (((tY_nE hM_37 (nk (by decide))).trans f_19)) (((tY_nE hM_37 (nk (by decide))).trans f_20)) (((tY_nE hM_37 (nk (by decide))).trans f_21)) (((tY_nE hM_37 (nk (by decide))).trans f_22)) (((tY_nE hM_37 (nk (by decide))).trans f_23)) (((tY_nE hM_37 (nk (by decide))).trans f_24)) (((tY_nE hM_37 (nk (by decide))).trans f_25)) (by first | omega | decide) (by first | omega | decide) (sh_s j_28 hM_37 (by show ((x_33.toInt.toNat : Nat) : Int) = _; omega) (by omega) yx_36 (by show (x_35).toInt.toNat = (x_33).toInt.toNat + 1; omega) (by omega)) hw (lv_sub hl [0, 1, 2, 3, 4, 5, 6, 7] rfl)
  exact hl_25_28 ((8 - pl.toInt : Int).toNat + 1) pl M _ _ _ (Nat.lt_succ_self _) (by first | omega | decide) (by first | omega | decide) hI lk.refl rfl rfl rfl eR.refl fI.refl rfl rfl rfl rfl rfl rfl rfl rfl rfl rfl rfl rfl (by first | omega | decide) (by first | omega | decide) (sh_0 (by omega)) hw (lv_sub hl [0, 1, 2, 3, 4, 5, 6, 7] rfl)
set_option maxHeartbeats 4000000 in
set_option maxRecDepth 100000 in
theorem z_X10_leaves_1 (l : Launch) (D : va_G) (A : Nat → Nat → Nat) (cy : Nat → ClassId) (hJ : ti_inj ti_LM A) (M : ti_M) (hI : mI Tm M) (hC : mC M 1) (pl ho t : Int32) (h1 : 0 ≤ pl.toInt) (h2 : pl.toInt < (tY M 60 38 1).toInt) (h3 : 2 ≤ ho.toInt) (tx rg : Nat → Int) (htr : tR tx M) (ht4 : 0 ≤ tx 4 ∧ tx 4 ≤ 8) (hr : qR (tx 4).toNat 1 rg M) (hV : qV (tx 4).toNat 1 rg M) (hwf : wF tx rg) (htm : t.toInt = rg 2) : ti_Kv l yX10_leaves cX10_leaves 8 0 ti_LM D A cy M [.ref (A 60 0), .int 1, .int pl, .int ho, .int t] (fun M2 => eR 1 M2 M ∧ qR (tx 4).toNat 1 (bq_rm rg pl.toInt ho.toInt) M2 ∧ qV (tx 4).toNat 1 (bq_rm rg pl.toInt ho.toInt) M2 ∧ mI Tm M2 ∧ rq 1 M2 M ∧ mC M2 1 ∧ tY M2 60 34 = tY M 60 34 ∧ (tY M2 60 38 1).toInt = (tY M 60 38 1).toInt - 1) := by
  refine ti_eV yp_X10_leaves hJ ti_LM_nd (Nat.le_of_ble_eq_true rfl) ?_
  intro p e s m args below meth c Q H0 C hQ hw ls hl
  have hx := C.1
  have hb := C.2.1
  have hl : lv_has ls 8 [(0, .ref (A 60 0)), (1, .int 1), (2, .int pl), (3, .int ho), (4, .int t)] := hl
  have h7 : 0 ≤ (tY M 60 38 1).toInt ∧ (tY M 60 38 1).toInt ≤ 8 := hI.2.1 38 _
  have l3 := hr.1.2.1
  have AP := hwf.2.2.1 pl.toInt.toNat (by omega)
  have w8 := wF_8 hwf
  have hq9 := hr.2.1 pl.toInt.toNat (by omega) (by omega)
  refine lv_aload_n hx hb dX10_leaves_0 rfl (lv_at hl 0 rfl) ?_
  refine ti_get (ci := 10) (k := 39) (N := 67) (T := TX10) (v := .ref (A 60 40)) C hw iw_10 rfl ob_60 (by decide) (by decide) fl_X10_84 rfl rfl dX10_leaves_1 ?_
  refine lv_bipush (v := 8) hx hb dX10_leaves_4 (by decide) ?_
  refine lv_iload_n hx hb dX10_leaves_6 rfl (lv_at hl 1 rfl) ?_
  refine lv_imul hx hb dX10_leaves_7 ?_
  refine ti_top (y := 8) (by decide) ?_
  refine lv_iload_n hx hb dX10_leaves_8 rfl (lv_at hl 2 rfl) ?_
  refine lv_iadd hx hb dX10_leaves_9 ?_
  refine lv_topi (fun x_1 ex_1 => ?_)
  have tx_1 : x_1.toInt = 8 + pl.toInt := i_add ex_1 (by decide : (8 : Int32).toInt = 8) rfl (by omega) (by omega)
  refine ti_iald (ci := 10) (k := 39) (n := 184) C hw ob_60 (by decide) (fun _ _ => rfl) (vp_in_iff.mpr (by omega)) dX10_leaves_10 ?_
  refine lv_topi (fun x_2 ex_2 => ?_)
  have yx_2 : tY M 60 39 x_1.toNatClampNeg = x_2 := (ex_2.symm)
  have bx_2 : 0 ≤ x_2.toInt ∧ x_2.toInt ≤ 7 := mI_ry (k := 39) (i := x_1.toNatClampNeg) hI yx_2.symm
  refine lv_istore (lv' := [(5, .int x_2), (0, .ref (A 60 0)), (1, .int 1), (2, .int pl), (3, .int ho), (4, .int t)]) hx hb dX10_leaves_11 hl (by decide) rfl (fun ls hl => ?_)
  refine lv_bipush (v := 8) hx hb dX10_leaves_13 (by decide) ?_
  refine lv_iload_n hx hb dX10_leaves_15 rfl (lv_at hl 2 rfl) ?_
  refine lv_imul hx hb dX10_leaves_16 ?_
  refine ti_top (y := 8) (by decide) ?_
  refine lv_iload hx hb dX10_leaves_17 (lv_at hl 0 rfl) ?_
  refine lv_iadd hx hb dX10_leaves_19 ?_
  refine lv_topi (fun x_3 ex_3 => ?_)
  have tx_3 : x_3.toInt = 8 + x_2.toInt := i_add ex_3 (by decide : (8 : Int32).toInt = 8) rfl (by omega) (by omega)
  refine lv_istore (lv' := [(6, .int x_3), (5, .int x_2), (0, .ref (A 60 0)), (1, .int 1), (2, .int pl), (3, .int ho), (4, .int t)]) hx hb dX10_leaves_20 hl (by decide) rfl (fun ls hl => ?_)
  refine lv_iload_n hx hb dX10_leaves_22 rfl (lv_at hl 4 rfl) ?_
  refine lv_istore (lv' := [(7, .int pl), (6, .int x_3), (5, .int x_2), (0, .ref (A 60 0)), (1, .int 1), (2, .int pl), (3, .int ho), (4, .int t)]) hx hb dX10_leaves_23 hl (by decide) rfl (fun ls hl => ?_)
  have hl_25_28 : ∀ (n_29 : Nat) (x_4 : Int32) (M_7 : ti_M) (H : Heap) (locs : List Loc) (ls : Array Slot), (8 - x_4.toInt : Int).toNat < n_29 → (0 ≤ x_4.toInt) → (x_4.toInt ≤ 7) → (mI Tm M_7) → (lk M_7 M) → (tY M_7 60 38 = tY M 60 38) → (tY M_7 60 40 = tY M 60 40) → (tY M_7 60 34 = tY M 60 34) → (eR 1 M_7 M) → (fI M_7 M) → (tY M_7 60 35 = tY M 60 35) → (tY M_7 60 36 = tY M 60 36) → (tY M_7 60 37 = tY M 60 37) → (tY M_7 60 41 = tY M 60 41) → (tY M_7 60 42 = tY M 60 42) → (tY M_7 60 43 = tY M 60 43) → (tY M_7 60 44 = tY M 60 44) → (tY M_7 60 45 = tY M 60 45) → (tY M_7 60 46 = tY M 60 46) → (tY M_7 60 47 = tY M 60 47) → (tY M_7 60 48 = tY M 60 48) → (tY M_7 60 49 = tY M 60 49) → (pl.toInt ≤ x_4.toInt) → (x_4.toInt < (tY M 60 38 1).toInt) → (sh M M_7 8 pl.toInt.toNat x_4.toInt) → ti_H ti_LM D A cy H0 M_7 H locs → lv_has ls 8 [(7, .int x_4), (6, .int x_3), (5, .int x_2), (0, .ref (A 60 0)), (1, .int 1), (2, .int pl), (3, .int ho), (4, .int t)] → W p l e (ti_rm 0) s m args below meth c H locs 0 0 Q (F0 m 25 ls []) := by
    intro n_29
    induction n_29 with
    | zero => intro x_4 M_7 H locs ls hf_29; exact absurd hf_29 (Nat.not_lt_zero _)
    | succ n_29 ih_29 =>
      intro x_4 M_7 H locs ls hf_29 b_5 b_6 iM_7 f_8 f_9 f_10 f_11 f_12 f_13 f_14 f_15 f_16 f_17 f_18 f_19 f_20 f_21 f_22 f_23 f_24 f_25 j_26 j_27 j_28 hw hl
      refine lv_iload hx hb dX10_leaves_25 (lv_at hl 0 rfl) ?_
      refine lv_iconst (v := 1) hx hb dX10_leaves_27 (by decide) ?_
      refine lv_iadd hx hb dX10_leaves_28 ?_
      refine lv_topi (fun x_30 ex_30 => ?_)
      have tx_30 : x_30.toInt = x_4.toInt + 1 := i_add ex_30 rfl (by decide : (1 : Int32).toInt = 1) (by omega) (by omega)
      refine lv_aload_n hx hb dX10_leaves_29 rfl (lv_at hl 3 rfl) ?_
      refine ti_get (ci := 10) (k := 38) (N := 67) (T := TX10) (v := .ref (A 60 39)) C hw iw_10 rfl ob_60 (by decide) (by decide) fl_X10_81 rfl rfl dX10_leaves_30 ?_
      refine lv_iload_n hx hb dX10_leaves_33 rfl (lv_at hl 4 rfl) ?_
      refine ti_iald (ci := 10) (k := 38) (n := 23) C hw ob_60 (by decide) (fun _ _ => rfl) (by unfold vp_in; decide) dX10_leaves_34 ?_
      refine lv_topi (fun x_31 ex_31 => ?_)
      have yx_31 : tY M_7 60 38 1 = x_31 := ((congrArg _ (by decide)).symm.trans ex_31.symm)
      have bx_31 : 0 ≤ x_31.toInt ∧ x_31.toInt ≤ 8 := mI_ry (k := 38) (i := 1) iM_7 yx_31.symm
      have zx_31 : (tY M_7 60 38 1).toInt = x_31.toInt := by rw [yx_31]
      have wx_31 : tY M 60 38 1 = x_31 := ((cg f_9 1)).symm.trans yx_31
      have zwx_31 : (tY M 60 38 1).toInt = x_31.toInt := by rw [wx_31]
      refine sb_icmp_ge (tgt := 70) hx hb rfl rfl dX10_leaves_35 (by decide) (fun c_35_31 => ?_) (fun c_35_31 => ?_)
      · refine lv_aload_n hx hb dX10_leaves_70 rfl (lv_at hl 3 rfl) ?_
        refine ti_get (ci := 10) (k := 38) (N := 67) (T := TX10) (v := .ref (A 60 39)) C hw iw_10 rfl ob_60 (by decide) (by decide) fl_X10_81 rfl rfl dX10_leaves_71 ?_
        refine lv_iload_n hx hb dX10_leaves_74 rfl (lv_at hl 4 rfl) ?_
        refine lv_dup2_11 hx hb dX10_leaves_75 rfl rfl ?_
        refine ti_iald (ci := 10) (k := 38) (n := 23) C hw ob_60 (by decide) (fun _ _ => rfl) (by unfold vp_in; decide) dX10_leaves_76 ?_
        refine ti_top (y := x_31) ((congrArg _ (by decide)).trans ((cg f_9 1).trans wx_31)) ?_
        refine lv_iconst (v := 1) hx hb dX10_leaves_77 (by decide) ?_
        refine lv_isub hx hb dX10_leaves_78 ?_
        refine lv_topi (fun x_39 ex_39 => ?_)
        have tx_39 : x_39.toInt = x_31.toInt - 1 := i_sub ex_39 rfl (by decide : (1 : Int32).toInt = 1) (by omega) (by omega)
        refine ti_iast (ci := 10) (k := 38) (n := 23) C hw ob_60 (by decide) (fun _ _ => rfl) (by unfold vp_in; decide) dX10_leaves_79 (fun H locs hw => ?_)
        obtain ⟨M_40, hM_40⟩ : ∃ z : ti_M, z = uY M_7 60 38 (upd (tY M_7 60 38) (1 : Int32).toNatClampNeg x_39) := ⟨_, rfl⟩
        have hw := hw.to hM_40.symm
        have iM_40 : mI Tm M_40 := mI_up (i := 1) iM_7 hM_40 (ib_mk (lo := 0) (hi := 8) (by omega) (by omega))
        refine lv_aload_n hx hb dX10_leaves_80 rfl (lv_at hl 3 rfl) ?_
        refine ti_get (ci := 10) (k := 40) (N := 67) (T := TX10) (v := .ref (A 60 41)) C hw iw_10 rfl ob_60 (by decide) (by decide) fl_X10_87 rfl rfl dX10_leaves_81 ?_
        refine lv_iload hx hb dX10_leaves_84 (lv_at hl 1 rfl) ?_
        refine lv_iload_n hx hb dX10_leaves_86 rfl (lv_at hl 6 rfl) ?_
        refine ti_iast (ci := 10) (k := 40) (n := 184) C hw ob_60 (by decide) (fun _ _ => rfl) (vp_in_iff.mpr (by omega)) dX10_leaves_87 (fun H locs hw => ?_)
        obtain ⟨M_41, hM_41⟩ : ∃ z : ti_M, z = uY M_40 60 40 (upd (tY M_40 60 40) (x_3 : Int32).toNatClampNeg ho) := ⟨_, rfl⟩
        have hw := hw.to hM_41.symm
        have iM_41 : mI Tm M_41 := mI_up (i := x_3.toNatClampNeg) iM_40 hM_41 trivial
        refine lv_aload_n hx hb dX10_leaves_88 rfl (lv_at hl 3 rfl) ?_
        refine ti_get (ci := 10) (k := 46) (N := 67) (T := TX10) (v := .ref (A 60 47)) C hw iw_10 rfl ob_60 (by decide) (by decide) fl_X10_105 rfl rfl dX10_leaves_89 ?_
        refine lv_iload hx hb dX10_leaves_92 (lv_at hl 1 rfl) ?_
        refine lv_iload hx hb dX10_leaves_94 (lv_at hl 7 rfl) ?_
        refine ti_iast (ci := 10) (k := 46) (n := 184) C hw ob_60 (by decide) (fun _ _ => rfl) (vp_in_iff.mpr (by omega)) dX10_leaves_96 (fun H locs hw => ?_)
        obtain ⟨M_42, hM_42⟩ : ∃ z : ti_M, z = uY M_41 60 46 (upd (tY M_41 60 46) (x_3 : Int32).toNatClampNeg t) := ⟨_, rfl⟩
        have hw := hw.to hM_42.symm
        have iM_42 : mI Tm M_42 := mI_up (i := x_3.toNatClampNeg) iM_41 hM_42 trivial
        refine lv_aload_n hx hb dX10_leaves_97 rfl (lv_at hl 3 rfl) ?_
        refine ti_get (ci := 10) (k := 47) (N := 67) (T := TX10) (v := .ref (A 60 48)) C hw iw_10 rfl ob_60 (by decide) (by decide) fl_X10_108 rfl rfl dX10_leaves_98 ?_
        refine lv_iload hx hb dX10_leaves_101 (lv_at hl 1 rfl) ?_
        refine lv_iconst (v := 0) hx hb dX10_leaves_103 (by decide) ?_
        refine ti_iast (ci := 10) (k := 47) (n := 184) C hw ob_60 (by decide) (fun _ _ => rfl) (vp_in_iff.mpr (by omega)) dX10_leaves_104 (fun H locs hw => ?_)
        obtain ⟨M_43, hM_43⟩ : ∃ z : ti_M, z = uY M_42 60 47 (upd (tY M_42 60 47) (x_3 : Int32).toNatClampNeg 0) := ⟨_, rfl⟩
        have hw := hw.to hM_43.symm
        have iM_43 : mI Tm M_43 := mI_up (i := x_3.toNatClampNeg) iM_42 hM_43 trivial
        refine lv_aload_n hx hb dX10_leaves_105 rfl (lv_at hl 3 rfl) ?_
        refine ti_get (ci := 10) (k := 37) (N := 67) (T := TX10) (v := .ref (A 60 38)) C hw iw_10 rfl ob_60 (by decide) (by decide) fl_X10_78 rfl rfl dX10_leaves_106 ?_
        refine lv_iload_n hx hb dX10_leaves_109 rfl (lv_at hl 4 rfl) ?_
        refine lv_dup2_11 hx hb dX10_leaves_110 rfl rfl ?_
        refine ti_iald (ci := 10) (k := 37) (n := 23) C hw ob_60 (by decide) (fun _ _ => rfl) (by unfold vp_in; decide) dX10_leaves_111 ?_
        refine lv_topi (fun x_44 ex_44 => ?_)
        have yx_44 : tY M_43 60 37 1 = x_44 := ((congrArg _ (by decide)).symm.trans ex_44.symm)
        have wx_44 : tY M 60 37 1 = x_44 := (((cg (tY_nE hM_43 (nk (by decide))) 1).trans ((cg (tY_nE hM_42 (nk (by decide))) 1).trans ((cg (tY_nE hM_41 (nk (by decide))) 1).trans ((cg (tY_nE hM_40 (nk (by decide))) 1).trans (cg f_16 1)))))).symm.trans yx_44
        refine lv_iconst (v := 1) hx hb dX10_leaves_112 (by decide) ?_
        refine lv_iload hx hb dX10_leaves_113 (lv_at hl 2 rfl) ?_
        refine lv_ishl hx hb dX10_leaves_115 ?_
        refine lv_topi (fun x_45 ex_45 => ?_)
        refine lv_iconst (v := (-1)) hx hb dX10_leaves_116 (by decide) ?_
        refine lv_ixor hx hb dX10_leaves_117 ?_
        refine lv_topi (fun x_46 ex_46 => ?_)
        refine lv_iand hx hb dX10_leaves_118 ?_
        refine lv_topi (fun x_47 ex_47 => ?_)
        refine ti_iast (ci := 10) (k := 37) (n := 23) C hw ob_60 (by decide) (fun _ _ => rfl) (by unfold vp_in; decide) dX10_leaves_119 (fun H locs hw => ?_)
        obtain ⟨M_48, hM_48⟩ : ∃ z : ti_M, z = uY M_43 60 37 (upd (tY M_43 60 37) (1 : Int32).toNatClampNeg x_47) := ⟨_, rfl⟩
        have hw := hw.to hM_48.symm
        have iM_48 : mI Tm M_48 := mI_up (i := 1) iM_43 hM_48 trivial
        refine lv_iload_n hx hb dX10_leaves_120 rfl (lv_at hl 6 rfl) ?_
        refine lv_iconst (v := 2) hx hb dX10_leaves_121 (by decide) ?_
        refine sb_icmp_ne (tgt := 134) hx hb rfl (by decide : (2 : Int32).toInt = 2) dX10_leaves_122 (by decide) (fun c_122_48 => ?_) (fun c_122_48 => ?_)
        · have n9 : x_1.toNatClampNeg = 8 * 1 + pl.toInt.toNat := by show (x_1).toInt.toNat = _; omega
          have k9 : (tY M 60 39 (8 * 1 + pl.toInt.toNat)).toInt = x_2.toInt := by rw [← n9, (yx_2)]
          have jj := q_leave (q := 1) (pl := pl.toInt.toNat) (p := x_4.toInt) hI hC (by rw [tY_nE (o2 := 60) (k2 := 38) hM_48 (nk (by decide)), tY_nE (o2 := 60) (k2 := 38) hM_43 (nk (by decide)), tY_nE (o2 := 60) (k2 := 38) hM_42 (nk (by decide)), tY_nE (o2 := 60) (k2 := 38) hM_41 (nk (by decide)), tY_uE hM_40, (f_9 : tY M_7 60 38 = tY M 60 38)] : tY M_48 60 38 = upd (tY M 60 38) (1 : Int32).toNatClampNeg x_39) (fun i => (cg (by rw [tY_nE (o2 := 60) (k2 := 39) hM_48 (nk (by decide)), tY_nE (o2 := 60) (k2 := 39) hM_43 (nk (by decide)), tY_nE (o2 := 60) (k2 := 39) hM_42 (nk (by decide)), tY_nE (o2 := 60) (k2 := 39) hM_41 (nk (by decide)), tY_nE (o2 := 60) (k2 := 39) hM_40 (nk (by decide))] : tY M_48 60 39 = tY M_7 60 39) i).trans (j_28 i)) (by rw [tY_nE (o2 := 60) (k2 := 40) hM_48 (nk (by decide)), tY_nE (o2 := 60) (k2 := 40) hM_43 (nk (by decide)), tY_nE (o2 := 60) (k2 := 40) hM_42 (nk (by decide)), tY_uE hM_41, tY_nE (o2 := 60) (k2 := 40) hM_40 (nk (by decide)), (f_10 : tY M_7 60 40 = tY M 60 40)] : tY M_48 60 40 = upd (tY M 60 40) (x_3 : Int32).toNatClampNeg ho) (lk.trans (lk_Y hM_48 (by decide)) (lk.trans (lk_Y hM_43 (by decide)) (lk.trans (lk_Y hM_42 (by decide)) (lk.trans (lk_Y hM_41 (by decide)) (lk.trans (lk_Y hM_40 (by decide)) f_8))))) (by decide) (by omega) (by omega) (by omega) (by show ((x_3.toInt.toNat : Nat) : Int) = _; omega) h3
          have h39 : ∀ i : Nat, tY M_48 60 39 i = if 8 * 1 + pl.toInt.toNat ≤ i ∧ (i : Int) < 8 * ((1 : Nat) : Int) + (rg 3 - 1) then tY M 60 39 (i + 1) else tY M 60 39 i := fun i => by
            have q9 := (cg (by rw [tY_nE (o2 := 60) (k2 := 39) hM_48 (nk (by decide)), tY_nE (o2 := 60) (k2 := 39) hM_43 (nk (by decide)), tY_nE (o2 := 60) (k2 := 39) hM_42 (nk (by decide)), tY_nE (o2 := 60) (k2 := 39) hM_41 (nk (by decide)), tY_nE (o2 := 60) (k2 := 39) hM_40 (nk (by decide))] : tY M_48 60 39 = tY M_7 60 39) i).trans (j_28 i)
            rw [q9]
            by_cases c9 : 8 * 1 + pl.toInt.toNat ≤ i ∧ (i : Int) < 8 * ((1 : Nat) : Int) + (rg 3 - 1)
            · rw [if_pos c9, if_pos (by omega)]
            · rw [if_neg c9, if_neg (by omega)]
          have LL := q_leaveR (m := x_2.toInt.toNat) (pl := pl.toInt.toNat) hr hV (by omega) (by omega) (by omega) (by omega) (by omega) (by rw [show x_2.toInt.toNat = (rg (96 + pl.toInt.toNat)).toNat by omega]; exact AP.2.2) h3 (by rw [tY_nE (o2 := 60) (k2 := 38) hM_48 (nk (by decide)), tY_nE (o2 := 60) (k2 := 38) hM_43 (nk (by decide)), tY_nE (o2 := 60) (k2 := 38) hM_42 (nk (by decide)), tY_nE (o2 := 60) (k2 := 38) hM_41 (nk (by decide)), tY_uE hM_40, (f_9 : tY M_7 60 38 = tY M 60 38)] : tY M_48 60 38 = upd (tY M 60 38) (1 : Int32).toNatClampNeg x_39) h39 (by rw [tY_nE (o2 := 60) (k2 := 40) hM_48 (nk (by decide)), tY_nE (o2 := 60) (k2 := 40) hM_43 (nk (by decide)), tY_nE (o2 := 60) (k2 := 40) hM_42 (nk (by decide)), tY_uE hM_41, tY_nE (o2 := 60) (k2 := 40) hM_40 (nk (by decide)), (f_10 : tY M_7 60 40 = tY M 60 40)] : tY M_48 60 40 = upd (tY M 60 40) (x_3 : Int32).toNatClampNeg ho) (by rw [tY_nE (o2 := 60) (k2 := 46) hM_48 (nk (by decide)), tY_nE (o2 := 60) (k2 := 46) hM_43 (nk (by decide)), tY_uE hM_42, tY_nE (o2 := 60) (k2 := 46) hM_41 (nk (by decide)), tY_nE (o2 := 60) (k2 := 46) hM_40 (nk (by decide)), (f_22 : tY M_7 60 46 = tY M 60 46)] : tY M_48 60 46 = upd (tY M 60 46) (x_3 : Int32).toNatClampNeg t) (by rw [tY_nE (o2 := 60) (k2 := 47) hM_48 (nk (by decide)), tY_uE hM_43, tY_nE (o2 := 60) (k2 := 47) hM_42 (nk (by decide)), tY_nE (o2 := 60) (k2 := 47) hM_41 (nk (by decide)), tY_nE (o2 := 60) (k2 := 47) hM_40 (nk (by decide)), (f_23 : tY M_7 60 47 = tY M 60 47)] : tY M_48 60 47 = upd (tY M 60 47) (x_3 : Int32).toNatClampNeg 0) (by rw [tY_uE hM_48, tY_nE (o2 := 60) (k2 := 37) hM_43 (nk (by decide)), tY_nE (o2 := 60) (k2 := 37) hM_42 (nk (by decide)), tY_nE (o2 := 60) (k2 := 37) hM_41 (nk (by decide)), tY_nE (o2 := 60) (k2 := 37) hM_40 (nk (by decide)), (f_16 : tY M_7 60 37 = tY M 60 37)] : tY M_48 60 37 = upd (tY M 60 37) (1 : Int32).toNatClampNeg x_47) (Or.inr ⟨by omega, (((tY_nE hM_48 (nk (by decide))).trans ((tY_nE hM_43 (nk (by decide))).trans ((tY_nE hM_42 (nk (by decide))).trans ((tY_nE hM_41 (nk (by decide))).trans ((tY_nE hM_40 (nk (by decide))).trans f_24))))))⟩) (by decide) (by decide) (by omega) (by show x_3.toInt.toNat = _; omega) (by omega) (by decide) (fun j hj => by rw [bt_clr (k := x_2.toInt) ex_45 rfl (by omega) (by omega) ex_46 ex_47 j (by omega), (wx_44)]) (fun h => by rw [ex_47, ← (wx_44), h]; simp) (fun k k37 k38 k39 k40 k46 k47 k48 k34 k49 => by rcases (show k = 34 ∨ k = 35 ∨ k = 36 ∨ k = 41 ∨ k = 42 ∨ k = 43 ∨ k = 44 ∨ k = 45 ∨ k = 49 by omega) with rfl | rfl | rfl | rfl | rfl | rfl | rfl | rfl | rfl <;> first | exact (((tY_nE hM_48 (nk (by decide))).trans ((tY_nE hM_43 (nk (by decide))).trans ((tY_nE hM_42 (nk (by decide))).trans ((tY_nE hM_41 (nk (by decide))).trans ((tY_nE hM_40 (nk (by decide))).trans f_11)))))) | exact (((tY_nE hM_48 (nk (by decide))).trans ((tY_nE hM_43 (nk (by decide))).trans ((tY_nE hM_42 (nk (by decide))).trans ((tY_nE hM_41 (nk (by decide))).trans ((tY_nE hM_40 (nk (by decide))).trans f_14)))))) | exact (((tY_nE hM_48 (nk (by decide))).trans ((tY_nE hM_43 (nk (by decide))).trans ((tY_nE hM_42 (nk (by decide))).trans ((tY_nE hM_41 (nk (by decide))).trans ((tY_nE hM_40 (nk (by decide))).trans f_15)))))) | exact (((tY_nE hM_48 (nk (by decide))).trans ((tY_nE hM_43 (nk (by decide))).trans ((tY_nE hM_42 (nk (by decide))).trans ((tY_nE hM_41 (nk (by decide))).trans ((tY_nE hM_40 (nk (by decide))).trans f_17)))))) | exact (((tY_nE hM_48 (nk (by decide))).trans ((tY_nE hM_43 (nk (by decide))).trans ((tY_nE hM_42 (nk (by decide))).trans ((tY_nE hM_41 (nk (by decide))).trans ((tY_nE hM_40 (nk (by decide))).trans f_18)))))) | exact (((tY_nE hM_48 (nk (by decide))).trans ((tY_nE hM_43 (nk (by decide))).trans ((tY_nE hM_42 (nk (by decide))).trans ((tY_nE hM_41 (nk (by decide))).trans ((tY_nE hM_40 (nk (by decide))).trans f_19)))))) | exact (((tY_nE hM_48 (nk (by decide))).trans ((tY_nE hM_43 (nk (by decide))).trans ((tY_nE hM_42 (nk (by decide))).trans ((tY_nE hM_41 (nk (by decide))).trans ((tY_nE hM_40 (nk (by decide))).trans f_20)))))) | exact (((tY_nE hM_48 (nk (by decide))).trans ((tY_nE hM_43 (nk (by decide))).trans ((tY_nE hM_42 (nk (by decide))).trans ((tY_nE hM_41 (nk (by decide))).trans ((tY_nE hM_40 (nk (by decide))).trans f_21)))))) | exact (((tY_nE hM_48 (nk (by decide))).trans ((tY_nE hM_43 (nk (by decide))).trans ((tY_nE hM_42 (nk (by decide))).trans ((tY_nE hM_41 (nk (by decide))).trans ((tY_nE hM_40 (nk (by decide))).trans f_25)))))))
          rw [show ((pl.toInt.toNat : Nat) : Int) = pl.toInt by omega] at LL
          exact hQ _ _ _ _ _ hw (⟨(eR.trans (eR_Y hM_48 (bk_q (z := 1) (by decide) (by decide))) (eR.trans (eR_Y hM_43 (bk_m (z := x_3) (by omega) (by decide))) (eR.trans (eR_Y hM_42 (bk_m (z := x_3) (by omega) (by decide))) (eR.trans (eR_Y hM_41 (bk_m (z := x_3) (by omega) (by decide))) (eR.trans (eR_Y hM_40 (bk_q (z := 1) (by decide) (by decide))) f_12))))), LL.1, LL.2, iM_48, jj.1, jj.2.1, (((tY_nE hM_48 (nk (by decide))).trans ((tY_nE hM_43 (nk (by decide))).trans ((tY_nE hM_42 (nk (by decide))).trans ((tY_nE hM_41 (nk (by decide))).trans ((tY_nE hM_40 (nk (by decide))).trans f_11)))))), jj.2.2⟩) dX10_leaves_134
        · refine lv_aload_n hx hb dX10_leaves_125 rfl (lv_at hl 3 rfl) ?_
          refine ti_get (ci := 10) (k := 48) (N := 67) (T := TX10) (v := .ref (A 60 49)) C hw iw_10 rfl ob_60 (by decide) (by decide) fl_X10_111 rfl rfl dX10_leaves_126 ?_
          refine lv_iload hx hb dX10_leaves_129 (lv_at hl 1 rfl) ?_
          refine lv_iload hx hb dX10_leaves_131 (lv_at hl 7 rfl) ?_
          refine ti_iast (ci := 10) (k := 48) (n := 184) C hw ob_60 (by decide) (fun _ _ => rfl) (vp_in_iff.mpr (by omega)) dX10_leaves_133 (fun H locs hw => ?_)
          obtain ⟨M_50, hM_50⟩ : ∃ z : ti_M, z = uY M_48 60 48 (upd (tY M_48 60 48) (x_3 : Int32).toNatClampNeg t) := ⟨_, rfl⟩
          have hw := hw.to hM_50.symm
          have iM_50 : mI Tm M_50 := mI_up (i := x_3.toNatClampNeg) iM_48 hM_50 trivial
          have n9 : x_1.toNatClampNeg = 8 * 1 + pl.toInt.toNat := by show (x_1).toInt.toNat = _; omega
          have k9 : (tY M 60 39 (8 * 1 + pl.toInt.toNat)).toInt = x_2.toInt := by rw [← n9, (yx_2)]
          have jj := q_leave (q := 1) (pl := pl.toInt.toNat) (p := x_4.toInt) hI hC (by rw [tY_nE (o2 := 60) (k2 := 38) hM_50 (nk (by decide)), tY_nE (o2 := 60) (k2 := 38) hM_48 (nk (by decide)), tY_nE (o2 := 60) (k2 := 38) hM_43 (nk (by decide)), tY_nE (o2 := 60) (k2 := 38) hM_42 (nk (by decide)), tY_nE (o2 := 60) (k2 := 38) hM_41 (nk (by decide)), tY_uE hM_40, (f_9 : tY M_7 60 38 = tY M 60 38)] : tY M_50 60 38 = upd (tY M 60 38) (1 : Int32).toNatClampNeg x_39) (fun i => (cg (by rw [tY_nE (o2 := 60) (k2 := 39) hM_50 (nk (by decide)), tY_nE (o2 := 60) (k2 := 39) hM_48 (nk (by decide)), tY_nE (o2 := 60) (k2 := 39) hM_43 (nk (by decide)), tY_nE (o2 := 60) (k2 := 39) hM_42 (nk (by decide)), tY_nE (o2 := 60) (k2 := 39) hM_41 (nk (by decide)), tY_nE (o2 := 60) (k2 := 39) hM_40 (nk (by decide))] : tY M_50 60 39 = tY M_7 60 39) i).trans (j_28 i)) (by rw [tY_nE (o2 := 60) (k2 := 40) hM_50 (nk (by decide)), tY_nE (o2 := 60) (k2 := 40) hM_48 (nk (by decide)), tY_nE (o2 := 60) (k2 := 40) hM_43 (nk (by decide)), tY_nE (o2 := 60) (k2 := 40) hM_42 (nk (by decide)), tY_uE hM_41, tY_nE (o2 := 60) (k2 := 40) hM_40 (nk (by decide)), (f_10 : tY M_7 60 40 = tY M 60 40)] : tY M_50 60 40 = upd (tY M 60 40) (x_3 : Int32).toNatClampNeg ho) (lk.trans (lk_Y hM_50 (by decide)) (lk.trans (lk_Y hM_48 (by decide)) (lk.trans (lk_Y hM_43 (by decide)) (lk.trans (lk_Y hM_42 (by decide)) (lk.trans (lk_Y hM_41 (by decide)) (lk.trans (lk_Y hM_40 (by decide)) f_8)))))) (by decide) (by omega) (by omega) (by omega) (by show ((x_3.toInt.toNat : Nat) : Int) = _; omega) h3
          have h39 : ∀ i : Nat, tY M_50 60 39 i = if 8 * 1 + pl.toInt.toNat ≤ i ∧ (i : Int) < 8 * ((1 : Nat) : Int) + (rg 3 - 1) then tY M 60 39 (i + 1) else tY M 60 39 i := fun i => by
            have q9 := (cg (by rw [tY_nE (o2 := 60) (k2 := 39) hM_50 (nk (by decide)), tY_nE (o2 := 60) (k2 := 39) hM_48 (nk (by decide)), tY_nE (o2 := 60) (k2 := 39) hM_43 (nk (by decide)), tY_nE (o2 := 60) (k2 := 39) hM_42 (nk (by decide)), tY_nE (o2 := 60) (k2 := 39) hM_41 (nk (by decide)), tY_nE (o2 := 60) (k2 := 39) hM_40 (nk (by decide))] : tY M_50 60 39 = tY M_7 60 39) i).trans (j_28 i)
            rw [q9]
            by_cases c9 : 8 * 1 + pl.toInt.toNat ≤ i ∧ (i : Int) < 8 * ((1 : Nat) : Int) + (rg 3 - 1)
            · rw [if_pos c9, if_pos (by omega)]
            · rw [if_neg c9, if_neg (by omega)]
          have LL := q_leaveR (m := x_2.toInt.toNat) (pl := pl.toInt.toNat) hr hV (by omega) (by omega) (by omega) (by omega) (by omega) (by rw [show x_2.toInt.toNat = (rg (96 + pl.toInt.toNat)).toNat by omega]; exact AP.2.2) h3 (by rw [tY_nE (o2 := 60) (k2 := 38) hM_50 (nk (by decide)), tY_nE (o2 := 60) (k2 := 38) hM_48 (nk (by decide)), tY_nE (o2 := 60) (k2 := 38) hM_43 (nk (by decide)), tY_nE (o2 := 60) (k2 := 38) hM_42 (nk (by decide)), tY_nE (o2 := 60) (k2 := 38) hM_41 (nk (by decide)), tY_uE hM_40, (f_9 : tY M_7 60 38 = tY M 60 38)] : tY M_50 60 38 = upd (tY M 60 38) (1 : Int32).toNatClampNeg x_39) h39 (by rw [tY_nE (o2 := 60) (k2 := 40) hM_50 (nk (by decide)), tY_nE (o2 := 60) (k2 := 40) hM_48 (nk (by decide)), tY_nE (o2 := 60) (k2 := 40) hM_43 (nk (by decide)), tY_nE (o2 := 60) (k2 := 40) hM_42 (nk (by decide)), tY_uE hM_41, tY_nE (o2 := 60) (k2 := 40) hM_40 (nk (by decide)), (f_10 : tY M_7 60 40 = tY M 60 40)] : tY M_50 60 40 = upd (tY M 60 40) (x_3 : Int32).toNatClampNeg ho) (by rw [tY_nE (o2 := 60) (k2 := 46) hM_50 (nk (by decide)), tY_nE (o2 := 60) (k2 := 46) hM_48 (nk (by decide)), tY_nE (o2 := 60) (k2 := 46) hM_43 (nk (by decide)), tY_uE hM_42, tY_nE (o2 := 60) (k2 := 46) hM_41 (nk (by decide)), tY_nE (o2 := 60) (k2 := 46) hM_40 (nk (by decide)), (f_22 : tY M_7 60 46 = tY M 60 46)] : tY M_50 60 46 = upd (tY M 60 46) (x_3 : Int32).toNatClampNeg t) (by rw [tY_nE (o2 := 60) (k2 := 47) hM_50 (nk (by decide)), tY_nE (o2 := 60) (k2 := 47) hM_48 (nk (by decide)), tY_uE hM_43, tY_nE (o2 := 60) (k2 := 47) hM_42 (nk (by decide)), tY_nE (o2 := 60) (k2 := 47) hM_41 (nk (by decide)), tY_nE (o2 := 60) (k2 := 47) hM_40 (nk (by decide)), (f_23 : tY M_7 60 47 = tY M 60 47)] : tY M_50 60 47 = upd (tY M 60 47) (x_3 : Int32).toNatClampNeg 0) (by rw [tY_nE (o2 := 60) (k2 := 37) hM_50 (nk (by decide)), tY_uE hM_48, tY_nE (o2 := 60) (k2 := 37) hM_43 (nk (by decide)), tY_nE (o2 := 60) (k2 := 37) hM_42 (nk (by decide)), tY_nE (o2 := 60) (k2 := 37) hM_41 (nk (by decide)), tY_nE (o2 := 60) (k2 := 37) hM_40 (nk (by decide)), (f_16 : tY M_7 60 37 = tY M 60 37)] : tY M_50 60 37 = upd (tY M 60 37) (1 : Int32).toNatClampNeg x_47) (Or.inl ⟨by omega, (by rw [tY_uE hM_50, tY_nE (o2 := 60) (k2 := 48) hM_48 (nk (by decide)), tY_nE (o2 := 60) (k2 := 48) hM_43 (nk (by decide)), tY_nE (o2 := 60) (k2 := 48) hM_42 (nk (by decide)), tY_nE (o2 := 60) (k2 := 48) hM_41 (nk (by decide)), tY_nE (o2 := 60) (k2 := 48) hM_40 (nk (by decide)), (f_24 : tY M_7 60 48 = tY M 60 48)] : tY M_50 60 48 = upd (tY M 60 48) (x_3 : Int32).toNatClampNeg t)⟩) (by decide) (by decide) (by omega) (by show x_3.toInt.toNat = _; omega) (by omega) (by decide) (fun j hj => by rw [bt_clr (k := x_2.toInt) ex_45 rfl (by omega) (by omega) ex_46 ex_47 j (by omega), (wx_44)]) (fun h => by rw [ex_47, ← (wx_44), h]; simp) (fun k k37 k38 k39 k40 k46 k47 k48 k34 k49 => by rcases (show k = 34 ∨ k = 35 ∨ k = 36 ∨ k = 41 ∨ k = 42 ∨ k = 43 ∨ k = 44 ∨ k = 45 ∨ k = 49 by omega) with rfl | rfl | rfl | rfl | rfl | rfl | rfl | rfl | rfl <;> first | exact (((tY_nE hM_50 (nk (by decide))).trans ((tY_nE hM_48 (nk (by decide))).trans ((tY_nE hM_43 (nk (by decide))).trans ((tY_nE hM_42 (nk (by decide))).trans ((tY_nE hM_41 (nk (by decide))).trans ((tY_nE hM_40 (nk (by decide))).trans f_11))))))) | exact (((tY_nE hM_50 (nk (by decide))).trans ((tY_nE hM_48 (nk (by decide))).trans ((tY_nE hM_43 (nk (by decide))).trans ((tY_nE hM_42 (nk (by decide))).trans ((tY_nE hM_41 (nk (by decide))).trans ((tY_nE hM_40 (nk (by decide))).trans f_14))))))) | exact (((tY_nE hM_50 (nk (by decide))).trans ((tY_nE hM_48 (nk (by decide))).trans ((tY_nE hM_43 (nk (by decide))).trans ((tY_nE hM_42 (nk (by decide))).trans ((tY_nE hM_41 (nk (by decide))).trans ((tY_nE hM_40 (nk (by decide))).trans f_15))))))) | exact (((tY_nE hM_50 (nk (by decide))).trans ((tY_nE hM_48 (nk (by decide))).trans ((tY_nE hM_43 (nk (by decide))).trans ((tY_nE hM_42 (nk (by decide))).trans ((tY_nE hM_41 (nk (by decide))).trans ((tY_nE hM_40 (nk (by decide))).trans f_17))))))) | exact (((tY_nE hM_50 (nk (by decide))).trans ((tY_nE hM_48 (nk (by decide))).trans ((tY_nE hM_43 (nk (by decide))).trans ((tY_nE hM_42 (nk (by decide))).trans ((tY_nE hM_41 (nk (by decide))).trans ((tY_nE hM_40 (nk (by decide))).trans f_18))))))) | exact (((tY_nE hM_50 (nk (by decide))).trans ((tY_nE hM_48 (nk (by decide))).trans ((tY_nE hM_43 (nk (by decide))).trans ((tY_nE hM_42 (nk (by decide))).trans ((tY_nE hM_41 (nk (by decide))).trans ((tY_nE hM_40 (nk (by decide))).trans f_19))))))) | exact (((tY_nE hM_50 (nk (by decide))).trans ((tY_nE hM_48 (nk (by decide))).trans ((tY_nE hM_43 (nk (by decide))).trans ((tY_nE hM_42 (nk (by decide))).trans ((tY_nE hM_41 (nk (by decide))).trans ((tY_nE hM_40 (nk (by decide))).trans f_20))))))) | exact (((tY_nE hM_50 (nk (by decide))).trans ((tY_nE hM_48 (nk (by decide))).trans ((tY_nE hM_43 (nk (by decide))).trans ((tY_nE hM_42 (nk (by decide))).trans ((tY_nE hM_41 (nk (by decide))).trans ((tY_nE hM_40 (nk (by decide))).trans f_21))))))) | exact (((tY_nE hM_50 (nk (by decide))).trans ((tY_nE hM_48 (nk (by decide))).trans ((tY_nE hM_43 (nk (by decide))).trans ((tY_nE hM_42 (nk (by decide))).trans ((tY_nE hM_41 (nk (by decide))).trans ((tY_nE hM_40 (nk (by decide))).trans f_25))))))))
          rw [show ((pl.toInt.toNat : Nat) : Int) = pl.toInt by omega] at LL
          exact hQ _ _ _ _ _ hw (⟨(eR.trans (eR_Y hM_50 (bk_m (z := x_3) (by omega) (by decide))) (eR.trans (eR_Y hM_48 (bk_q (z := 1) (by decide) (by decide))) (eR.trans (eR_Y hM_43 (bk_m (z := x_3) (by omega) (by decide))) (eR.trans (eR_Y hM_42 (bk_m (z := x_3) (by omega) (by decide))) (eR.trans (eR_Y hM_41 (bk_m (z := x_3) (by omega) (by decide))) (eR.trans (eR_Y hM_40 (bk_q (z := 1) (by decide) (by decide))) f_12)))))), LL.1, LL.2, iM_50, jj.1, jj.2.1, (((tY_nE hM_50 (nk (by decide))).trans ((tY_nE hM_48 (nk (by decide))).trans ((tY_nE hM_43 (nk (by decide))).trans ((tY_nE hM_42 (nk (by decide))).trans ((tY_nE hM_41 (nk (by decide))).trans ((tY_nE hM_40 (nk (by decide))).trans f_11))))))), jj.2.2⟩) dX10_leaves_134
      · refine lv_aload_n hx hb dX10_leaves_38 rfl (lv_at hl 3 rfl) ?_
        refine ti_get (ci := 10) (k := 39) (N := 67) (T := TX10) (v := .ref (A 60 40)) C hw iw_10 rfl ob_60 (by decide) (by decide) fl_X10_84 rfl rfl dX10_leaves_39 ?_
        refine lv_bipush (v := 8) hx hb dX10_leaves_42 (by decide) ?_
        refine lv_iload_n hx hb dX10_leaves_44 rfl (lv_at hl 4 rfl) ?_
        refine lv_imul hx hb dX10_leaves_45 ?_
        refine ti_top (y := 8) (by decide) ?_
        refine lv_iload hx hb dX10_leaves_46 (lv_at hl 0 rfl) ?_
        refine lv_iadd hx hb dX10_leaves_48 ?_
        refine lv_topi (fun x_33 ex_33 => ?_)
        have tx_33 : x_33.toInt = 8 + x_4.toInt := i_add ex_33 (by decide : (8 : Int32).toInt = 8) rfl (by omega) (by omega)
        refine lv_aload_n hx hb dX10_leaves_49 rfl (lv_at hl 3 rfl) ?_
        refine ti_get (ci := 10) (k := 39) (N := 67) (T := TX10) (v := .ref (A 60 40)) C hw iw_10 rfl ob_60 (by decide) (by decide) fl_X10_84 rfl rfl dX10_leaves_50 ?_
        refine lv_bipush (v := 8) hx hb dX10_leaves_53 (by decide) ?_
        refine lv_iload_n hx hb dX10_leaves_55 rfl (lv_at hl 4 rfl) ?_
        refine lv_imul hx hb dX10_leaves_56 ?_
        refine ti_top (y := 8) (by decide) ?_
        refine lv_iload hx hb dX10_leaves_57 (lv_at hl 0 rfl) ?_
        refine lv_iadd hx hb dX10_leaves_59 ?_
        refine lv_topi (fun x_34 ex_34 => ?_)
        have tx_34 : x_34.toInt = 8 + x_4.toInt := i_add ex_34 (by decide : (8 : Int32).toInt = 8) rfl (by omega) (by omega)
        refine lv_iconst (v := 1) hx hb dX10_leaves_60 (by decide) ?_
        refine lv_iadd hx hb dX10_leaves_61 ?_
        refine lv_topi (fun x_35 ex_35 => ?_)
        have tx_35 : x_35.toInt = x_34.toInt + 1 := i_add ex_35 rfl (by decide : (1 : Int32).toInt = 1) (by omega) (by omega)
        refine ti_iald (ci := 10) (k := 39) (n := 184) C hw ob_60 (by decide) (fun _ _ => rfl) (vp_in_iff.mpr (by omega)) dX10_leaves_62 ?_
        refine lv_topi (fun x_36 ex_36 => ?_)
        have yx_36 : tY M_7 60 39 x_35.toNatClampNeg = x_36 := (ex_36.symm)
        have bx_36 : 0 ≤ x_36.toInt ∧ x_36.toInt ≤ 7 := mI_ry (k := 39) (i := x_35.toNatClampNeg) iM_7 yx_36.symm
        refine ti_iast (ci := 10) (k := 39) (n := 184) C hw ob_60 (by decide) (fun _ _ => rfl) (vp_in_iff.mpr (by omega)) dX10_leaves_63 (fun H locs hw => ?_)
        obtain ⟨M_37, hM_37⟩ : ∃ z : ti_M, z = uY M_7 60 39 (upd (tY M_7 60 39) (x_33 : Int32).toNatClampNeg x_36) := ⟨_, rfl⟩
        have hw := hw.to hM_37.symm
        have iM_37 : mI Tm M_37 := mI_up (i := x_33.toNatClampNeg) iM_7 hM_37 (ib_mk (lo := 0) (hi := 7) (by omega) (by omega))
        obtain ⟨x_38, ex_38⟩ : ∃ z : Int32, z = x_4 + 1 := ⟨_, rfl⟩
        have tx_38 : x_38.toInt = x_4.toInt + 1 := i_add ex_38 rfl (by decide) (by omega) (by omega)
        refine lv_iinc (v := x_38) (lv' := [(7, .int x_38), (6, .int x_3), (5, .int x_2), (0, .ref (A 60 0)), (1, .int 1), (2, .int pl), (3, .int ho), (4, .int t)]) hx hb dX10_leaves_64 hl (k := 0) rfl (by rw [ex_38]; rfl) (by decide) rfl (fun ls hl => ?_)
        refine lv_goto (tgt := 25) hx hb dX10_leaves_67 (by decide) ?_
        exact ih_29 x_38 M_37 _ _ _ (by omega) (by first | omega | decide) (by first | omega | decide) iM_37 (lk.trans (lk_Y hM_37 (by decide)) f_8) (((tY_nE hM_37 (nk (by decide))).trans f_9)) (((tY_nE hM_37 (nk (by decide))).trans f_10)) (((tY_nE hM_37 (nk (by decide))).trans f_11)) (eR.trans (eR_Y hM_37 (bk_m (z := x_33) (by omega) (by decide))) f_12) (fI.trans (fI_Y hM_37) f_13) (((tY_nE hM_37 (nk (by decide))).trans f_14)) (((tY_nE hM_37 (nk (by decide))).trans f_15)) (((tY_nE hM_37 (nk (by decide))).trans f_16)) (((tY_nE hM_37 (nk (by decide))).trans f_17)) (((tY_nE hM_37 (nk (by decide))).trans f_18)) (((tY_nE hM_37 (nk (by decide))).trans f_19)) (((tY_nE hM_37 (nk (by decide))).trans f_20)) (((tY_nE hM_37 (nk (by decide))).trans f_21)) (((tY_nE hM_37 (nk (by decide))).trans f_22)) (((tY_nE hM_37 (nk (by decide))).trans f_23)) (((tY_nE hM_37 (nk (by decide))).trans f_24)) (((tY_nE hM_37 (nk (by decide))).trans f_25)) (by first | omega | decide) (by first | omega | decide) (sh_s j_28 hM_37 (by show ((x_33.toInt.toNat : Nat) : Int) = _; omega) (by omega) yx_36 (by show (x_35).toInt.toNat = (x_33).toInt.toNat + 1; omega) (by omega)) hw (lv_sub hl [0, 1, 2, 3, 4, 5, 6, 7] rfl)
  exact hl_25_28 ((8 - pl.toInt : Int).toNat + 1) pl M _ _ _ (Nat.lt_succ_self _) (by first | omega | decide) (by first | omega | decide) hI lk.refl rfl rfl rfl eR.refl fI.refl rfl rfl rfl rfl rfl rfl rfl rfl rfl rfl rfl rfl (by first | omega | decide) (by first | omega | decide) (sh_0 (by omega)) hw (lv_sub hl [0, 1, 2, 3, 4, 5, 6, 7] rfl)

variable {Tc : gC} {Tm : gM}
variable {Tc : gC} {Tm : gM}
theorem lv_wv {tx rg : Nat → Int} {k : Nat} {pl ps x : Int} (hx : bq_ma rg pl = x) (h0 : 0 ≤ x) : bq_lv tx rg k pl ps = if tx (300 + k) = 0 then bl_ER else bl_rn (fun n => tx (400 + 64 * k + n)) (bq_fa tx rg x ps) (tx (300 + k)).toNat 0 0 (fun _ => 0) := by
  unfold bq_lv
  rw [hx]
  by_cases c : tx (300 + k) = 0
  · rw [if_pos (Or.inr c), if_pos c]
  · rw [if_neg (by omega), if_neg c]
theorem qV_same {n q : Nat} {s g : Nat → Int} {M N : ti_M} (h : qV n q s M) (e : tY N 60 48 = tY M 60 48) (hn : n ≤ 8) (h1 : ∀ m : Nat, m < 8 → g (128 + m) = s (128 + m)) (h2 : ∀ m : Nat, m < 8 → g (224 + m) = s (224 + m)) : qV n q g N := fun m hm => by
  rw [e, h1 m (by omega), h2 m (by omega)]; exact h m hm
set_option maxHeartbeats 4000000 in
set_option maxRecDepth 100000 in
theorem z_X10_needOf_0 (l : Launch) (D : va_G) (A : Nat → Nat → Nat) (cy : Nat → ClassId) (hJ : ti_inj ti_LM A) (M : ti_M) (hI : mI Tm M) (hL : mL M) (t : Int32) (tx rg : Nat → Int) (htr : tR tx M) (ht4 : 0 ≤ tx 4 ∧ tx 4 ≤ 8) (hr : qR (tx 4).toNat 0 rg M) (hwf : wF tx rg) (h0 : 0 < rg 3) (htm : t.toInt = rg 2) : ti_Ki l yX10_needOf cX10_needOf 3 (some .int) 4 ti_LM D A cy M [.ref (A 60 0), .int 0, .int t] (fun r M2 => fI M2 M ∧ r.toInt = bq_nd tx rg ∧ mI Tm M2 ∧ qw M2 M ∧ M2.2.1 = M.2.1) := by
  refine ti_eI yp_X10_needOf hJ ti_LM_nd (Nat.le_of_ble_eq_true rfl) ?_
  intro p e s m args below meth c Q H0 C hQ hw ls hl
  have hx := C.1
  have hb := C.2.1
  have hl : lv_has ls 3 [(0, .ref (A 60 0)), (1, .int 0), (2, .int t)] := hl
  refine lv_aload_n hx hb dX10_needOf_0 rfl (lv_at hl 0 rfl) ?_
  refine lv_iload_n hx hb dX10_needOf_1 rfl (lv_at hl 1 rfl) ?_
  refine lv_aload_n hx hb dX10_needOf_2 rfl (lv_at hl 0 rfl) ?_
  refine ti_get (ci := 10) (k := 39) (N := 67) (T := TX10) (v := .ref (A 60 40)) C hw iw_10 rfl ob_60 (by decide) (by decide) fl_X10_84 rfl rfl dX10_needOf_3 ?_
  refine lv_bipush (v := 8) hx hb dX10_needOf_6 (by decide) ?_
  refine lv_iload_n hx hb dX10_needOf_8 rfl (lv_at hl 1 rfl) ?_
  refine lv_imul hx hb dX10_needOf_9 ?_
  refine ti_top (y := 0) (by decide) ?_
  refine ti_iald (ci := 10) (k := 39) (n := 184) C hw ob_60 (by decide) (fun _ _ => rfl) (by unfold vp_in; decide) dX10_needOf_10 ?_
  refine lv_topi (fun x_1 ex_1 => ?_)
  have yx_1 : tY M 60 39 0 = x_1 := ((congrArg _ (by decide)).symm.trans ex_1.symm)
  have bx_1 : 0 ≤ x_1.toInt ∧ x_1.toInt ≤ 7 := mI_ry (k := 39) (i := 0) hI yx_1.symm
  have L_2 : rg 96 = x_1.toInt := (hr.2.1 (0) (by omega) (by omega)).trans (congrArg Int32.toInt (yx_1))
  have A0 : 0 ≤ rg 96 ∧ rg 96 < tx 4 ∧ rg (128 + (rg 96).toNat) = 1 := hwf.2.2.1 0 (by omega)
  rw [L_2] at A0
  refine lv_aload_n hx hb dX10_needOf_11 rfl (lv_at hl 0 rfl) ?_
  refine ti_get (ci := 10) (k := 38) (N := 67) (T := TX10) (v := .ref (A 60 39)) C hw iw_10 rfl ob_60 (by decide) (by decide) fl_X10_81 rfl rfl dX10_needOf_12 ?_
  refine lv_iload_n hx hb dX10_needOf_15 rfl (lv_at hl 1 rfl) ?_
  refine ti_iald (ci := 10) (k := 38) (n := 23) C hw ob_60 (by decide) (fun _ _ => rfl) (by unfold vp_in; decide) dX10_needOf_16 ?_
  refine lv_topi (fun x_3 ex_3 => ?_)
  have yx_3 : tY M 60 38 0 = x_3 := ((congrArg _ (by decide)).symm.trans ex_3.symm)
  have bx_3 : 0 ≤ x_3.toInt ∧ x_3.toInt ≤ 8 := mI_ry (k := 38) (i := 0) hI yx_3.symm
  have zx_3 : (tY M 60 38 0).toInt = x_3.toInt := by rw [yx_3]
  have L_4 : rg 3 = x_3.toInt := (hr.1.2.1).trans (congrArg Int32.toInt (yx_3))
  refine lv_iload_n hx hb dX10_needOf_17 rfl (lv_at hl 2 rfl) ?_
  refine ti_callVv (ci := 10) (av := [.int 0, .int x_1, .int x_3, .int t]) C hw (z_X10_calls_0 l D A cy hJ M hI x_1 x_3 t (by first | omega | decide) (by first | omega | decide) tx rg htr ht4 hr (by omega) A0.2.2 (by omega)) ⟨ml_X10_363, ym_X10_calls, yv_X10_calls, yi_X10_calls, yc_X10_calls⟩ yd_X10_calls ob_60 (by decide) rfl rfl hl.1 (Nat.le_of_ble_eq_true rfl) ⟨by decide, by decide⟩ ⟨Nat.zero_le _, Nat.zero_le _⟩ dX10_needOf_18 (fun M_6 H locs hp_6 hw => ?_)
  obtain ⟨n6_9, fi_10, iM_6, q_7, q_8⟩ := hp_6
  have hs_11 : qR (tx 4).toNat 0 rg M_6 := qR_of hr q_8
  refine lv_aload_n hx hb dX10_needOf_21 rfl (lv_at hl 0 rfl) ?_
  refine lv_iconst (v := 2) hx hb dX10_needOf_22 (by decide) ?_
  refine lv_iconst (v := 1) hx hb dX10_needOf_23 (by decide) ?_
  refine lv_bipush (v := 9) hx hb dX10_needOf_24 (by decide) ?_
  refine lv_aload_n hx hb dX10_needOf_26 rfl (lv_at hl 0 rfl) ?_
  refine ti_get (ci := 10) (k := 38) (N := 67) (T := TX10) (v := .ref (A 60 39)) C hw iw_10 rfl ob_60 (by decide) (by decide) fl_X10_81 rfl rfl dX10_needOf_27 ?_
  refine lv_iload_n hx hb dX10_needOf_30 rfl (lv_at hl 1 rfl) ?_
  refine ti_iald (ci := 10) (k := 38) (n := 23) C hw ob_60 (by decide) (fun _ _ => rfl) (by unfold vp_in; decide) dX10_needOf_31 ?_
  refine ti_top (y := x_3) ((congrArg _ (by decide)).trans ((cg (tY_fr q_8) 0).trans yx_3)) ?_
  have L_12 : rg 3 = x_3.toInt := (hs_11.1.2.1).trans (congrArg Int32.toInt ((cg (tY_fr q_8) 0).trans yx_3))
  refine lv_iconst (v := 1) hx hb dX10_needOf_32 (by decide) ?_
  refine lv_iadd hx hb dX10_needOf_33 ?_
  refine lv_topi (fun x_13 ex_13 => ?_)
  have tx_13 : x_13.toInt = x_3.toInt + 1 := i_add ex_13 rfl (by decide : (1 : Int32).toInt = 1) (by omega) (by omega)
  refine lv_iconst (v := 2) hx hb dX10_needOf_34 (by decide) ?_
  refine lv_idiv hx hb dX10_needOf_35 (by decide) ?_
  refine lv_topi (fun x_14 ex_14 => ?_)
  have dx_14 : x_14.toInt = x_13.toInt / 2 := i_div2 ex_14 rfl (by omega)
  refine ti_callVi (ci := 10) (av := [.int 2, .int 1, .int 9, .int x_14]) C hw (z_X10_within l D A cy hJ M_6 iM_6 (mL_lw (lk_of q_7.1 q_7.2.1).1 hL) 2 (by first | omega | decide) (by first | omega | decide) 1 9 x_14 (bq_fa tx rg x_1.toInt x_3.toInt) tx (tR_lw htr (eR_lw (q := 0) (eR_fI fi_10 q_8))) n6_9 (by first | decide | omega)) ⟨ml_X10_367, ym_X10_within, yv_X10_within, yi_X10_within, yc_X10_within⟩ yd_X10_within ob_60 (by decide) rfl rfl hl.1 (Nat.le_of_ble_eq_true rfl) ⟨by decide, by decide⟩ ⟨Nat.zero_le _, Nat.zero_le _⟩ dX10_needOf_36 (fun r_15 M_16 H locs hp_16 hw => ?_)
  obtain ⟨fi_20, pr_15, iM_16, q_18, q_19⟩ := hp_16
  have hs_21 : qR (tx 4).toNat 0 rg M_16 := qR_of hs_11 q_19
  try simp only [show (2 : Int32).toInt.toNat = 2 by decide] at pr_15
  try simp only [show (2 : Int32).toInt = 2 by decide] at pr_15
  try simp only [show (1 : Int32).toInt.toNat = 1 by decide] at pr_15
  try simp only [show (1 : Int32).toInt = 1 by decide] at pr_15
  try simp only [show (9 : Int32).toInt.toNat = 9 by decide] at pr_15
  try simp only [show (9 : Int32).toInt = 9 by decide] at pr_15
  exact hQ _ _ _ _ _ _ hw rfl (⟨(fI.trans fi_20 fi_10), (by rw [pr_15]; unfold bq_nd; rw [lv_wv (x := x_1.toInt) (by unfold bq_ma; rw [if_pos (by omega)]; exact L_2) (by omega), show rg 3 = x_3.toInt by omega, show (x_3.toInt + 1) / 2 = x_14.toInt by omega]), iM_16, (qw.trans q_18 q_7), ((q_19).trans q_8)⟩) dX10_needOf_39
set_option maxHeartbeats 4000000 in
set_option maxRecDepth 100000 in
theorem z_X10_needOf_1 (l : Launch) (D : va_G) (A : Nat → Nat → Nat) (cy : Nat → ClassId) (hJ : ti_inj ti_LM A) (M : ti_M) (hI : mI Tm M) (hL : mL M) (t : Int32) (tx rg : Nat → Int) (htr : tR tx M) (ht4 : 0 ≤ tx 4 ∧ tx 4 ≤ 8) (hr : qR (tx 4).toNat 1 rg M) (hwf : wF tx rg) (h0 : 0 < rg 3) (htm : t.toInt = rg 2) : ti_Ki l yX10_needOf cX10_needOf 3 (some .int) 4 ti_LM D A cy M [.ref (A 60 0), .int 1, .int t] (fun r M2 => fI M2 M ∧ r.toInt = bq_nd tx rg ∧ mI Tm M2 ∧ qw M2 M ∧ M2.2.1 = M.2.1) := by
  refine ti_eI yp_X10_needOf hJ ti_LM_nd (Nat.le_of_ble_eq_true rfl) ?_
  intro p e s m args below meth c Q H0 C hQ hw ls hl
  have hx := C.1
  have hb := C.2.1
  have hl : lv_has ls 3 [(0, .ref (A 60 0)), (1, .int 1), (2, .int t)] := hl
  refine lv_aload_n hx hb dX10_needOf_0 rfl (lv_at hl 0 rfl) ?_
  refine lv_iload_n hx hb dX10_needOf_1 rfl (lv_at hl 1 rfl) ?_
  refine lv_aload_n hx hb dX10_needOf_2 rfl (lv_at hl 0 rfl) ?_
  refine ti_get (ci := 10) (k := 39) (N := 67) (T := TX10) (v := .ref (A 60 40)) C hw iw_10 rfl ob_60 (by decide) (by decide) fl_X10_84 rfl rfl dX10_needOf_3 ?_
  refine lv_bipush (v := 8) hx hb dX10_needOf_6 (by decide) ?_
  refine lv_iload_n hx hb dX10_needOf_8 rfl (lv_at hl 1 rfl) ?_
  refine lv_imul hx hb dX10_needOf_9 ?_
  refine ti_top (y := 8) (by decide) ?_
  refine ti_iald (ci := 10) (k := 39) (n := 184) C hw ob_60 (by decide) (fun _ _ => rfl) (by unfold vp_in; decide) dX10_needOf_10 ?_
  refine lv_topi (fun x_1 ex_1 => ?_)
  have yx_1 : tY M 60 39 8 = x_1 := ((congrArg _ (by decide)).symm.trans ex_1.symm)
  have bx_1 : 0 ≤ x_1.toInt ∧ x_1.toInt ≤ 7 := mI_ry (k := 39) (i := 8) hI yx_1.symm
  have L_2 : rg 96 = x_1.toInt := (hr.2.1 (0) (by omega) (by omega)).trans (congrArg Int32.toInt (yx_1))
  have A0 : 0 ≤ rg 96 ∧ rg 96 < tx 4 ∧ rg (128 + (rg 96).toNat) = 1 := hwf.2.2.1 0 (by omega)
  rw [L_2] at A0
  refine lv_aload_n hx hb dX10_needOf_11 rfl (lv_at hl 0 rfl) ?_
  refine ti_get (ci := 10) (k := 38) (N := 67) (T := TX10) (v := .ref (A 60 39)) C hw iw_10 rfl ob_60 (by decide) (by decide) fl_X10_81 rfl rfl dX10_needOf_12 ?_
  refine lv_iload_n hx hb dX10_needOf_15 rfl (lv_at hl 1 rfl) ?_
  refine ti_iald (ci := 10) (k := 38) (n := 23) C hw ob_60 (by decide) (fun _ _ => rfl) (by unfold vp_in; decide) dX10_needOf_16 ?_
  refine lv_topi (fun x_3 ex_3 => ?_)
  have yx_3 : tY M 60 38 1 = x_3 := ((congrArg _ (by decide)).symm.trans ex_3.symm)
  have bx_3 : 0 ≤ x_3.toInt ∧ x_3.toInt ≤ 8 := mI_ry (k := 38) (i := 1) hI yx_3.symm
  have zx_3 : (tY M 60 38 1).toInt = x_3.toInt := by rw [yx_3]
  have L_4 : rg 3 = x_3.toInt := (hr.1.2.1).trans (congrArg Int32.toInt (yx_3))
  refine lv_iload_n hx hb dX10_needOf_17 rfl (lv_at hl 2 rfl) ?_
  refine ti_callVv (ci := 10) (av := [.int 1, .int x_1, .int x_3, .int t]) C hw (z_X10_calls_1 l D A cy hJ M hI x_1 x_3 t (by first | omega | decide) (by first | omega | decide) tx rg htr ht4 hr (by omega) A0.2.2 (by omega)) ⟨ml_X10_363, ym_X10_calls, yv_X10_calls, yi_X10_calls, yc_X10_calls⟩ yd_X10_calls ob_60 (by decide) rfl rfl hl.1 (Nat.le_of_ble_eq_true rfl) ⟨by decide, by decide⟩ ⟨Nat.zero_le _, Nat.zero_le _⟩ dX10_needOf_18 (fun M_6 H locs hp_6 hw => ?_)
  obtain ⟨n6_9, fi_10, iM_6, q_7, q_8⟩ := hp_6
  have hs_11 : qR (tx 4).toNat 1 rg M_6 := qR_of hr q_8
  refine lv_aload_n hx hb dX10_needOf_21 rfl (lv_at hl 0 rfl) ?_
  refine lv_iconst (v := 2) hx hb dX10_needOf_22 (by decide) ?_
  refine lv_iconst (v := 1) hx hb dX10_needOf_23 (by decide) ?_
  refine lv_bipush (v := 9) hx hb dX10_needOf_24 (by decide) ?_
  refine lv_aload_n hx hb dX10_needOf_26 rfl (lv_at hl 0 rfl) ?_
  refine ti_get (ci := 10) (k := 38) (N := 67) (T := TX10) (v := .ref (A 60 39)) C hw iw_10 rfl ob_60 (by decide) (by decide) fl_X10_81 rfl rfl dX10_needOf_27 ?_
  refine lv_iload_n hx hb dX10_needOf_30 rfl (lv_at hl 1 rfl) ?_
  refine ti_iald (ci := 10) (k := 38) (n := 23) C hw ob_60 (by decide) (fun _ _ => rfl) (by unfold vp_in; decide) dX10_needOf_31 ?_
  refine ti_top (y := x_3) ((congrArg _ (by decide)).trans ((cg (tY_fr q_8) 1).trans yx_3)) ?_
  have L_12 : rg 3 = x_3.toInt := (hs_11.1.2.1).trans (congrArg Int32.toInt ((cg (tY_fr q_8) 1).trans yx_3))
  refine lv_iconst (v := 1) hx hb dX10_needOf_32 (by decide) ?_
  refine lv_iadd hx hb dX10_needOf_33 ?_
  refine lv_topi (fun x_13 ex_13 => ?_)
  have tx_13 : x_13.toInt = x_3.toInt + 1 := i_add ex_13 rfl (by decide : (1 : Int32).toInt = 1) (by omega) (by omega)
  refine lv_iconst (v := 2) hx hb dX10_needOf_34 (by decide) ?_
  refine lv_idiv hx hb dX10_needOf_35 (by decide) ?_
  refine lv_topi (fun x_14 ex_14 => ?_)
  have dx_14 : x_14.toInt = x_13.toInt / 2 := i_div2 ex_14 rfl (by omega)
  refine ti_callVi (ci := 10) (av := [.int 2, .int 1, .int 9, .int x_14]) C hw (z_X10_within l D A cy hJ M_6 iM_6 (mL_lw (lk_of q_7.1 q_7.2.1).1 hL) 2 (by first | omega | decide) (by first | omega | decide) 1 9 x_14 (bq_fa tx rg x_1.toInt x_3.toInt) tx (tR_lw htr (eR_lw (q := 1) (eR_fI fi_10 q_8))) n6_9 (by first | decide | omega)) ⟨ml_X10_367, ym_X10_within, yv_X10_within, yi_X10_within, yc_X10_within⟩ yd_X10_within ob_60 (by decide) rfl rfl hl.1 (Nat.le_of_ble_eq_true rfl) ⟨by decide, by decide⟩ ⟨Nat.zero_le _, Nat.zero_le _⟩ dX10_needOf_36 (fun r_15 M_16 H locs hp_16 hw => ?_)
  obtain ⟨fi_20, pr_15, iM_16, q_18, q_19⟩ := hp_16
  have hs_21 : qR (tx 4).toNat 1 rg M_16 := qR_of hs_11 q_19
  try simp only [show (2 : Int32).toInt.toNat = 2 by decide] at pr_15
  try simp only [show (2 : Int32).toInt = 2 by decide] at pr_15
  try simp only [show (1 : Int32).toInt.toNat = 1 by decide] at pr_15
  try simp only [show (1 : Int32).toInt = 1 by decide] at pr_15
  try simp only [show (9 : Int32).toInt.toNat = 9 by decide] at pr_15
  try simp only [show (9 : Int32).toInt = 9 by decide] at pr_15
  exact hQ _ _ _ _ _ _ hw rfl (⟨(fI.trans fi_20 fi_10), (by rw [pr_15]; unfold bq_nd; rw [lv_wv (x := x_1.toInt) (by unfold bq_ma; rw [if_pos (by omega)]; exact L_2) (by omega), show rg 3 = x_3.toInt by omega, show (x_3.toInt + 1) / 2 = x_14.toInt by omega]), iM_16, (qw.trans q_18 q_7), ((q_19).trans q_8)⟩) dX10_needOf_39
set_option maxHeartbeats 4000000 in
set_option maxRecDepth 100000 in
theorem z_X10_isGuarded_0 (l : Launch) (D : va_G) (A : Nat → Nat → Nat) (cy : Nat → ClassId) (hJ : ti_inj ti_LM A) (M : ti_M) (hI : mI Tm M)  (tx rg : Nat → Int) (htr : tR tx M) (ht4 : 0 ≤ tx 4 ∧ tx 4 ≤ 8) (hr : qR (tx 4).toNat 0 rg M) (hwf : wF tx rg) (htW : tW tx) : ti_Ki l yX10_isGuarded cX10_isGuarded 2 (some .boolean) 0 ti_LM D A cy M [.ref (A 60 0), .int 0] (fun r M2 => M2 = M ∧ ((r = 1 ∧ (1 < rg 3 ∧ tx (100 + 16 * (rg 97).toNat + 9) = rg 96)) ∨ (r = 0 ∧ ¬ (1 < rg 3 ∧ tx (100 + 16 * (rg 97).toNat + 9) = rg 96)))) := by
  refine ti_eI yp_X10_isGuarded hJ ti_LM_nd (Nat.le_of_ble_eq_true rfl) ?_
  intro p e s m args below meth c Q H0 C hQ hw ls hl
  have hx := C.1
  have hb := C.2.1
  have hl : lv_has ls 2 [(0, .ref (A 60 0)), (1, .int 0)] := hl
  refine lv_aload_n hx hb dX10_isGuarded_0 rfl (lv_at hl 0 rfl) ?_
  refine ti_get (ci := 10) (k := 38) (N := 67) (T := TX10) (v := .ref (A 60 39)) C hw iw_10 rfl ob_60 (by decide) (by decide) fl_X10_81 rfl rfl dX10_isGuarded_1 ?_
  refine lv_iload_n hx hb dX10_isGuarded_4 rfl (lv_at hl 1 rfl) ?_
  refine ti_iald (ci := 10) (k := 38) (n := 23) C hw ob_60 (by decide) (fun _ _ => rfl) (by unfold vp_in; decide) dX10_isGuarded_5 ?_
  refine lv_topi (fun x_1 ex_1 => ?_)
  have yx_1 : tY M 60 38 0 = x_1 := ((congrArg _ (by decide)).symm.trans ex_1.symm)
  have bx_1 : 0 ≤ x_1.toInt ∧ x_1.toInt ≤ 8 := mI_ry (k := 38) (i := 0) hI yx_1.symm
  have zx_1 : (tY M 60 38 0).toInt = x_1.toInt := by rw [yx_1]
  have L_2 : rg 3 = x_1.toInt := (hr.1.2.1).trans (congrArg Int32.toInt (yx_1))
  refine lv_iconst (v := 1) hx hb dX10_isGuarded_6 (by decide) ?_
  refine sb_icmp_le (tgt := 44) hx hb rfl (by decide : (1 : Int32).toInt = 1) dX10_isGuarded_7 (by decide) (fun c_7_2 => ?_) (fun c_7_2 => ?_)
  · refine lv_iconst (v := 0) hx hb dX10_isGuarded_44 (by decide) ?_
    exact hQ _ _ _ _ _ _ hw rfl (⟨rfl, Or.inr ⟨rfl, (by omega)⟩⟩) dX10_isGuarded_45
  · refine lv_aload_n hx hb dX10_isGuarded_10 rfl (lv_at hl 0 rfl) ?_
    refine ti_get (ci := 10) (k := 13) (N := 67) (T := TX10) (v := .ref (A 60 14)) C hw iw_10 rfl ob_60 (by decide) (by decide) fl_X10_43 rfl rfl dX10_isGuarded_11 ?_
    refine lv_aload_n hx hb dX10_isGuarded_14 rfl (lv_at hl 0 rfl) ?_
    refine ti_get (ci := 10) (k := 39) (N := 67) (T := TX10) (v := .ref (A 60 40)) C hw iw_10 rfl ob_60 (by decide) (by decide) fl_X10_84 rfl rfl dX10_isGuarded_15 ?_
    refine lv_bipush (v := 8) hx hb dX10_isGuarded_18 (by decide) ?_
    refine lv_iload_n hx hb dX10_isGuarded_20 rfl (lv_at hl 1 rfl) ?_
    refine lv_imul hx hb dX10_isGuarded_21 ?_
    refine ti_top (y := 0) (by decide) ?_
    refine lv_iconst (v := 1) hx hb dX10_isGuarded_22 (by decide) ?_
    refine lv_iadd hx hb dX10_isGuarded_23 ?_
    refine ti_top (y := 1) (by decide) ?_
    refine ti_iald (ci := 10) (k := 39) (n := 184) C hw ob_60 (by decide) (fun _ _ => rfl) (by unfold vp_in; decide) dX10_isGuarded_24 ?_
    refine lv_topi (fun x_4 ex_4 => ?_)
    have yx_4 : tY M 60 39 1 = x_4 := ((congrArg _ (by decide)).symm.trans ex_4.symm)
    have bx_4 : 0 ≤ x_4.toInt ∧ x_4.toInt ≤ 7 := mI_ry (k := 39) (i := 1) hI yx_4.symm
    have L_5 : rg 97 = x_4.toInt := (hr.2.1 (1) (by omega) (by omega)).trans (congrArg Int32.toInt (yx_4))
    have A1 : 0 ≤ rg 97 ∧ rg 97 < tx 4 ∧ rg (128 + (rg 97).toNat) = 1 := hwf.2.2.1 1 (by omega)
    rw [L_5] at A1
    refine ti_iald (ci := 10) (k := 13) (n := 16) C hw ob_60 (by decide) (fun _ _ => rfl) (vp_in_iff.mpr (by omega)) dX10_isGuarded_25 ?_
    refine lv_topi (fun x_6 ex_6 => ?_)
    have yx_6 : tY M 60 13 x_4.toNatClampNeg = x_6 := (ex_6.symm)
    have L_7 : tx (100 + 16 * x_4.toInt.toNat + 9) = x_6.toInt - 1 := (htr.2.2.1 (x_4.toInt.toNat) (by omega) (by omega)).2.2.2.2.2.2.2.2.trans (congrArg (fun z => z - 1) ((congrArg Int32.toInt (cg rfl (x_4.toInt.toNat))).symm.trans (rd_k (n := x_4.toInt.toNat) (by omega) (yx_6))))
    have G1 := htW.2.2.2.2.2.2.2.2.2 x_4.toInt.toNat (by omega) (by omega)
    refine lv_iconst (v := 1) hx hb dX10_isGuarded_26 (by decide) ?_
    refine lv_isub hx hb dX10_isGuarded_27 ?_
    refine lv_topi (fun x_8 ex_8 => ?_)
    have lox_8x_6 := x_6.le_toInt
    have hix_8x_6 := x_6.toInt_lt
    have tx_8 : x_8.toInt = x_6.toInt - 1 := i_sub ex_8 rfl (by decide : (1 : Int32).toInt = 1) (by omega) (by omega)
    have tx_8 : x_8.toInt = bw (x_6.toInt - 1) := bw_sub ex_8 rfl (by decide : (1 : Int32).toInt = 1)
    refine lv_aload_n hx hb dX10_isGuarded_28 rfl (lv_at hl 0 rfl) ?_
    refine ti_get (ci := 10) (k := 39) (N := 67) (T := TX10) (v := .ref (A 60 40)) C hw iw_10 rfl ob_60 (by decide) (by decide) fl_X10_84 rfl rfl dX10_isGuarded_29 ?_
    refine lv_bipush (v := 8) hx hb dX10_isGuarded_32 (by decide) ?_
    refine lv_iload_n hx hb dX10_isGuarded_34 rfl (lv_at hl 1 rfl) ?_
    refine lv_imul hx hb dX10_isGuarded_35 ?_
    refine ti_top (y := 0) (by decide) ?_
    refine ti_iald (ci := 10) (k := 39) (n := 184) C hw ob_60 (by decide) (fun _ _ => rfl) (by unfold vp_in; decide) dX10_isGuarded_36 ?_
    refine lv_topi (fun x_9 ex_9 => ?_)
    have yx_9 : tY M 60 39 0 = x_9 := ((congrArg _ (by decide)).symm.trans ex_9.symm)
    have bx_9 : 0 ≤ x_9.toInt ∧ x_9.toInt ≤ 7 := mI_ry (k := 39) (i := 0) hI yx_9.symm
    have L_10 : rg 96 = x_9.toInt := (hr.2.1 (0) (by omega) (by omega)).trans (congrArg Int32.toInt (yx_9))
    refine sb_icmp_ne (tgt := 44) hx hb rfl rfl dX10_isGuarded_37 (by decide) (fun c_37_10 => ?_) (fun c_37_10 => ?_)
    · refine lv_iconst (v := 0) hx hb dX10_isGuarded_44 (by decide) ?_
      exact hQ _ _ _ _ _ _ hw rfl (⟨rfl, Or.inr ⟨rfl, (by rw [show rg 97 = x_4.toInt by omega]; omega)⟩⟩) dX10_isGuarded_45
    · refine lv_iconst (v := 1) hx hb dX10_isGuarded_40 (by decide) ?_
      refine lv_goto (tgt := 45) hx hb dX10_isGuarded_41 (by decide) ?_
      exact hQ _ _ _ _ _ _ hw rfl (⟨rfl, Or.inl ⟨rfl, (by rw [show rg 97 = x_4.toInt by omega]; omega)⟩⟩) dX10_isGuarded_45
set_option maxHeartbeats 4000000 in
set_option maxRecDepth 100000 in
theorem z_X10_isGuarded_1 (l : Launch) (D : va_G) (A : Nat → Nat → Nat) (cy : Nat → ClassId) (hJ : ti_inj ti_LM A) (M : ti_M) (hI : mI Tm M)  (tx rg : Nat → Int) (htr : tR tx M) (ht4 : 0 ≤ tx 4 ∧ tx 4 ≤ 8) (hr : qR (tx 4).toNat 1 rg M) (hwf : wF tx rg) (htW : tW tx) : ti_Ki l yX10_isGuarded cX10_isGuarded 2 (some .boolean) 0 ti_LM D A cy M [.ref (A 60 0), .int 1] (fun r M2 => M2 = M ∧ ((r = 1 ∧ (1 < rg 3 ∧ tx (100 + 16 * (rg 97).toNat + 9) = rg 96)) ∨ (r = 0 ∧ ¬ (1 < rg 3 ∧ tx (100 + 16 * (rg 97).toNat + 9) = rg 96)))) := by
  refine ti_eI yp_X10_isGuarded hJ ti_LM_nd (Nat.le_of_ble_eq_true rfl) ?_
  intro p e s m args below meth c Q H0 C hQ hw ls hl
  have hx := C.1
  have hb := C.2.1
  have hl : lv_has ls 2 [(0, .ref (A 60 0)), (1, .int 1)] := hl
  refine lv_aload_n hx hb dX10_isGuarded_0 rfl (lv_at hl 0 rfl) ?_
  refine ti_get (ci := 10) (k := 38) (N := 67) (T := TX10) (v := .ref (A 60 39)) C hw iw_10 rfl ob_60 (by decide) (by decide) fl_X10_81 rfl rfl dX10_isGuarded_1 ?_
  refine lv_iload_n hx hb dX10_isGuarded_4 rfl (lv_at hl 1 rfl) ?_
  refine ti_iald (ci := 10) (k := 38) (n := 23) C hw ob_60 (by decide) (fun _ _ => rfl) (by unfold vp_in; decide) dX10_isGuarded_5 ?_
  refine lv_topi (fun x_1 ex_1 => ?_)
  have yx_1 : tY M 60 38 1 = x_1 := ((congrArg _ (by decide)).symm.trans ex_1.symm)
  have bx_1 : 0 ≤ x_1.toInt ∧ x_1.toInt ≤ 8 := mI_ry (k := 38) (i := 1) hI yx_1.symm
  have zx_1 : (tY M 60 38 1).toInt = x_1.toInt := by rw [yx_1]
  have L_2 : rg 3 = x_1.toInt := (hr.1.2.1).trans (congrArg Int32.toInt (yx_1))
  refine lv_iconst (v := 1) hx hb dX10_isGuarded_6 (by decide) ?_
  refine sb_icmp_le (tgt := 44) hx hb rfl (by decide : (1 : Int32).toInt = 1) dX10_isGuarded_7 (by decide) (fun c_7_2 => ?_) (fun c_7_2 => ?_)
  · refine lv_iconst (v := 0) hx hb dX10_isGuarded_44 (by decide) ?_
    exact hQ _ _ _ _ _ _ hw rfl (⟨rfl, Or.inr ⟨rfl, (by omega)⟩⟩) dX10_isGuarded_45
  · refine lv_aload_n hx hb dX10_isGuarded_10 rfl (lv_at hl 0 rfl) ?_
    refine ti_get (ci := 10) (k := 13) (N := 67) (T := TX10) (v := .ref (A 60 14)) C hw iw_10 rfl ob_60 (by decide) (by decide) fl_X10_43 rfl rfl dX10_isGuarded_11 ?_
    refine lv_aload_n hx hb dX10_isGuarded_14 rfl (lv_at hl 0 rfl) ?_
    refine ti_get (ci := 10) (k := 39) (N := 67) (T := TX10) (v := .ref (A 60 40)) C hw iw_10 rfl ob_60 (by decide) (by decide) fl_X10_84 rfl rfl dX10_isGuarded_15 ?_
    refine lv_bipush (v := 8) hx hb dX10_isGuarded_18 (by decide) ?_
    refine lv_iload_n hx hb dX10_isGuarded_20 rfl (lv_at hl 1 rfl) ?_
    refine lv_imul hx hb dX10_isGuarded_21 ?_
    refine ti_top (y := 8) (by decide) ?_
    refine lv_iconst (v := 1) hx hb dX10_isGuarded_22 (by decide) ?_
    refine lv_iadd hx hb dX10_isGuarded_23 ?_
    refine ti_top (y := 9) (by decide) ?_
    refine ti_iald (ci := 10) (k := 39) (n := 184) C hw ob_60 (by decide) (fun _ _ => rfl) (by unfold vp_in; decide) dX10_isGuarded_24 ?_
    refine lv_topi (fun x_4 ex_4 => ?_)
    have yx_4 : tY M 60 39 9 = x_4 := ((congrArg _ (by decide)).symm.trans ex_4.symm)
    have bx_4 : 0 ≤ x_4.toInt ∧ x_4.toInt ≤ 7 := mI_ry (k := 39) (i := 9) hI yx_4.symm
    have L_5 : rg 97 = x_4.toInt := (hr.2.1 (1) (by omega) (by omega)).trans (congrArg Int32.toInt (yx_4))
    have A1 : 0 ≤ rg 97 ∧ rg 97 < tx 4 ∧ rg (128 + (rg 97).toNat) = 1 := hwf.2.2.1 1 (by omega)
    rw [L_5] at A1
    refine ti_iald (ci := 10) (k := 13) (n := 16) C hw ob_60 (by decide) (fun _ _ => rfl) (vp_in_iff.mpr (by omega)) dX10_isGuarded_25 ?_
    refine lv_topi (fun x_6 ex_6 => ?_)
    have yx_6 : tY M 60 13 x_4.toNatClampNeg = x_6 := (ex_6.symm)
    have L_7 : tx (100 + 16 * x_4.toInt.toNat + 9) = x_6.toInt - 1 := (htr.2.2.1 (x_4.toInt.toNat) (by omega) (by omega)).2.2.2.2.2.2.2.2.trans (congrArg (fun z => z - 1) ((congrArg Int32.toInt (cg rfl (x_4.toInt.toNat))).symm.trans (rd_k (n := x_4.toInt.toNat) (by omega) (yx_6))))
    have G1 := htW.2.2.2.2.2.2.2.2.2 x_4.toInt.toNat (by omega) (by omega)
    refine lv_iconst (v := 1) hx hb dX10_isGuarded_26 (by decide) ?_
    refine lv_isub hx hb dX10_isGuarded_27 ?_
    refine lv_topi (fun x_8 ex_8 => ?_)
    have lox_8x_6 := x_6.le_toInt
    have hix_8x_6 := x_6.toInt_lt
    have tx_8 : x_8.toInt = x_6.toInt - 1 := i_sub ex_8 rfl (by decide : (1 : Int32).toInt = 1) (by omega) (by omega)
    have tx_8 : x_8.toInt = bw (x_6.toInt - 1) := bw_sub ex_8 rfl (by decide : (1 : Int32).toInt = 1)
    refine lv_aload_n hx hb dX10_isGuarded_28 rfl (lv_at hl 0 rfl) ?_
    refine ti_get (ci := 10) (k := 39) (N := 67) (T := TX10) (v := .ref (A 60 40)) C hw iw_10 rfl ob_60 (by decide) (by decide) fl_X10_84 rfl rfl dX10_isGuarded_29 ?_
    refine lv_bipush (v := 8) hx hb dX10_isGuarded_32 (by decide) ?_
    refine lv_iload_n hx hb dX10_isGuarded_34 rfl (lv_at hl 1 rfl) ?_
    refine lv_imul hx hb dX10_isGuarded_35 ?_
    refine ti_top (y := 8) (by decide) ?_
    refine ti_iald (ci := 10) (k := 39) (n := 184) C hw ob_60 (by decide) (fun _ _ => rfl) (by unfold vp_in; decide) dX10_isGuarded_36 ?_
    refine lv_topi (fun x_9 ex_9 => ?_)
    have yx_9 : tY M 60 39 8 = x_9 := ((congrArg _ (by decide)).symm.trans ex_9.symm)
    have bx_9 : 0 ≤ x_9.toInt ∧ x_9.toInt ≤ 7 := mI_ry (k := 39) (i := 8) hI yx_9.symm
    have L_10 : rg 96 = x_9.toInt := (hr.2.1 (0) (by omega) (by omega)).trans (congrArg Int32.toInt (yx_9))
    refine sb_icmp_ne (tgt := 44) hx hb rfl rfl dX10_isGuarded_37 (by decide) (fun c_37_10 => ?_) (fun c_37_10 => ?_)
    · refine lv_iconst (v := 0) hx hb dX10_isGuarded_44 (by decide) ?_
      exact hQ _ _ _ _ _ _ hw rfl (⟨rfl, Or.inr ⟨rfl, (by rw [show rg 97 = x_4.toInt by omega]; omega)⟩⟩) dX10_isGuarded_45
    · refine lv_iconst (v := 1) hx hb dX10_isGuarded_40 (by decide) ?_
      refine lv_goto (tgt := 45) hx hb dX10_isGuarded_41 (by decide) ?_
      exact hQ _ _ _ _ _ _ hw rfl (⟨rfl, Or.inl ⟨rfl, (by rw [show rg 97 = x_4.toInt by omega]; omega)⟩⟩) dX10_isGuarded_45
set_option maxHeartbeats 4000000 in
set_option maxRecDepth 100000 in
theorem z_X10_standsAt_0 (l : Launch) (D : va_G) (A : Nat → Nat → Nat) (cy : Nat → ClassId) (hJ : ti_inj ti_LM A) (M : ti_M) (hI : mI Tm M) (a : Int32) (h1 : 0 ≤ a.toInt) (h2 : a.toInt ≤ 7) (tx rg : Nat → Int) (htr : tR tx M) (ht4 : 0 ≤ tx 4 ∧ tx 4 ≤ 8) (hr : qR (tx 4).toNat 0 rg M) : ti_Ki l yX10_standsAt cX10_standsAt 3 (some .int) 0 ti_LM D A cy M [.ref (A 60 0), .int 0, .int a] (fun r M2 => M2 = M ∧ -2 ≤ r.toInt ∧ r.toInt ≤ 7 ∧ r.toInt = bq_ma rg a.toInt) := by
  refine ti_eI yp_X10_standsAt hJ ti_LM_nd (Nat.le_of_ble_eq_true rfl) ?_
  intro p e s m args below meth c Q H0 C hQ hw ls hl
  have hx := C.1
  have hb := C.2.1
  have hl : lv_has ls 3 [(0, .ref (A 60 0)), (1, .int 0), (2, .int a)] := hl
  refine lv_iload_n hx hb dX10_standsAt_0 rfl (lv_at hl 2 rfl) ?_
  refine lv_aload_n hx hb dX10_standsAt_1 rfl (lv_at hl 0 rfl) ?_
  refine ti_get (ci := 10) (k := 38) (N := 67) (T := TX10) (v := .ref (A 60 39)) C hw iw_10 rfl ob_60 (by decide) (by decide) fl_X10_81 rfl rfl dX10_standsAt_2 ?_
  refine lv_iload_n hx hb dX10_standsAt_5 rfl (lv_at hl 1 rfl) ?_
  refine ti_iald (ci := 10) (k := 38) (n := 23) C hw ob_60 (by decide) (fun _ _ => rfl) (by unfold vp_in; decide) dX10_standsAt_6 ?_
  refine lv_topi (fun x_1 ex_1 => ?_)
  have yx_1 : tY M 60 38 0 = x_1 := ((congrArg _ (by decide)).symm.trans ex_1.symm)
  have bx_1 : 0 ≤ x_1.toInt ∧ x_1.toInt ≤ 8 := mI_ry (k := 38) (i := 0) hI yx_1.symm
  have zx_1 : (tY M 60 38 0).toInt = x_1.toInt := by rw [yx_1]
  have L_2 : rg 3 = x_1.toInt := (hr.1.2.1).trans (congrArg Int32.toInt (yx_1))
  refine sb_icmp_ge (tgt := 24) hx hb rfl rfl dX10_standsAt_7 (by decide) (fun c_7_2 => ?_) (fun c_7_2 => ?_)
  · refine lv_bipush (v := (-2)) hx hb dX10_standsAt_24 (by decide) ?_
    exact hQ _ _ _ _ _ _ hw rfl (⟨rfl, by first | omega | decide, by first | omega | decide, (by have lv : ((-2) : Int32).toInt = (-2) := (by decide); unfold bq_ma; (repeat (first | rw [if_pos (by omega)] | rw [if_neg (by omega)])); first | omega)⟩) dX10_standsAt_26
  · refine lv_aload_n hx hb dX10_standsAt_10 rfl (lv_at hl 0 rfl) ?_
    refine ti_get (ci := 10) (k := 39) (N := 67) (T := TX10) (v := .ref (A 60 40)) C hw iw_10 rfl ob_60 (by decide) (by decide) fl_X10_84 rfl rfl dX10_standsAt_11 ?_
    refine lv_bipush (v := 8) hx hb dX10_standsAt_14 (by decide) ?_
    refine lv_iload_n hx hb dX10_standsAt_16 rfl (lv_at hl 1 rfl) ?_
    refine lv_imul hx hb dX10_standsAt_17 ?_
    refine ti_top (y := 0) (by decide) ?_
    refine lv_iload_n hx hb dX10_standsAt_18 rfl (lv_at hl 2 rfl) ?_
    refine lv_iadd hx hb dX10_standsAt_19 ?_
    refine lv_topi (fun x_4 ex_4 => ?_)
    have tx_4 : x_4.toInt = 0 + a.toInt := i_add ex_4 (by decide : (0 : Int32).toInt = 0) rfl (by omega) (by omega)
    refine ti_iald (ci := 10) (k := 39) (n := 184) C hw ob_60 (by decide) (fun _ _ => rfl) (vp_in_iff.mpr (by omega)) dX10_standsAt_20 ?_
    refine lv_topi (fun x_5 ex_5 => ?_)
    have yx_5 : tY M 60 39 x_4.toNatClampNeg = x_5 := (ex_5.symm)
    have bx_5 : 0 ≤ x_5.toInt ∧ x_5.toInt ≤ 7 := mI_ry (k := 39) (i := x_4.toNatClampNeg) hI yx_5.symm
    have L_6 : rg (96 + a.toInt.toNat) = x_5.toInt := (hr.2.1 (a.toInt.toNat) (by omega) (by omega)).trans (rd_k (n := 8 * 0 + a.toInt.toNat) (by omega) (yx_5))
    refine lv_goto (tgt := 26) hx hb dX10_standsAt_21 (by decide) ?_
    exact hQ _ _ _ _ _ _ hw rfl (⟨rfl, by first | omega | decide, by first | omega | decide, (by unfold bq_ma; (repeat (first | rw [if_pos (by omega)] | rw [if_neg (by omega)])); first | omega)⟩) dX10_standsAt_26
set_option maxHeartbeats 4000000 in
set_option maxRecDepth 100000 in
theorem z_X10_standsAt_1 (l : Launch) (D : va_G) (A : Nat → Nat → Nat) (cy : Nat → ClassId) (hJ : ti_inj ti_LM A) (M : ti_M) (hI : mI Tm M) (a : Int32) (h1 : 0 ≤ a.toInt) (h2 : a.toInt ≤ 7) (tx rg : Nat → Int) (htr : tR tx M) (ht4 : 0 ≤ tx 4 ∧ tx 4 ≤ 8) (hr : qR (tx 4).toNat 1 rg M) : ti_Ki l yX10_standsAt cX10_standsAt 3 (some .int) 0 ti_LM D A cy M [.ref (A 60 0), .int 1, .int a] (fun r M2 => M2 = M ∧ -2 ≤ r.toInt ∧ r.toInt ≤ 7 ∧ r.toInt = bq_ma rg a.toInt) := by
  refine ti_eI yp_X10_standsAt hJ ti_LM_nd (Nat.le_of_ble_eq_true rfl) ?_
  intro p e s m args below meth c Q H0 C hQ hw ls hl
  have hx := C.1
  have hb := C.2.1
  have hl : lv_has ls 3 [(0, .ref (A 60 0)), (1, .int 1), (2, .int a)] := hl
  refine lv_iload_n hx hb dX10_standsAt_0 rfl (lv_at hl 2 rfl) ?_
  refine lv_aload_n hx hb dX10_standsAt_1 rfl (lv_at hl 0 rfl) ?_
  refine ti_get (ci := 10) (k := 38) (N := 67) (T := TX10) (v := .ref (A 60 39)) C hw iw_10 rfl ob_60 (by decide) (by decide) fl_X10_81 rfl rfl dX10_standsAt_2 ?_
  refine lv_iload_n hx hb dX10_standsAt_5 rfl (lv_at hl 1 rfl) ?_
  refine ti_iald (ci := 10) (k := 38) (n := 23) C hw ob_60 (by decide) (fun _ _ => rfl) (by unfold vp_in; decide) dX10_standsAt_6 ?_
  refine lv_topi (fun x_1 ex_1 => ?_)
  have yx_1 : tY M 60 38 1 = x_1 := ((congrArg _ (by decide)).symm.trans ex_1.symm)
  have bx_1 : 0 ≤ x_1.toInt ∧ x_1.toInt ≤ 8 := mI_ry (k := 38) (i := 1) hI yx_1.symm
  have zx_1 : (tY M 60 38 1).toInt = x_1.toInt := by rw [yx_1]
  have L_2 : rg 3 = x_1.toInt := (hr.1.2.1).trans (congrArg Int32.toInt (yx_1))
  refine sb_icmp_ge (tgt := 24) hx hb rfl rfl dX10_standsAt_7 (by decide) (fun c_7_2 => ?_) (fun c_7_2 => ?_)
  · refine lv_bipush (v := (-2)) hx hb dX10_standsAt_24 (by decide) ?_
    exact hQ _ _ _ _ _ _ hw rfl (⟨rfl, by first | omega | decide, by first | omega | decide, (by have lv : ((-2) : Int32).toInt = (-2) := (by decide); unfold bq_ma; (repeat (first | rw [if_pos (by omega)] | rw [if_neg (by omega)])); first | omega)⟩) dX10_standsAt_26
  · refine lv_aload_n hx hb dX10_standsAt_10 rfl (lv_at hl 0 rfl) ?_
    refine ti_get (ci := 10) (k := 39) (N := 67) (T := TX10) (v := .ref (A 60 40)) C hw iw_10 rfl ob_60 (by decide) (by decide) fl_X10_84 rfl rfl dX10_standsAt_11 ?_
    refine lv_bipush (v := 8) hx hb dX10_standsAt_14 (by decide) ?_
    refine lv_iload_n hx hb dX10_standsAt_16 rfl (lv_at hl 1 rfl) ?_
    refine lv_imul hx hb dX10_standsAt_17 ?_
    refine ti_top (y := 8) (by decide) ?_
    refine lv_iload_n hx hb dX10_standsAt_18 rfl (lv_at hl 2 rfl) ?_
    refine lv_iadd hx hb dX10_standsAt_19 ?_
    refine lv_topi (fun x_4 ex_4 => ?_)
    have tx_4 : x_4.toInt = 8 + a.toInt := i_add ex_4 (by decide : (8 : Int32).toInt = 8) rfl (by omega) (by omega)
    refine ti_iald (ci := 10) (k := 39) (n := 184) C hw ob_60 (by decide) (fun _ _ => rfl) (vp_in_iff.mpr (by omega)) dX10_standsAt_20 ?_
    refine lv_topi (fun x_5 ex_5 => ?_)
    have yx_5 : tY M 60 39 x_4.toNatClampNeg = x_5 := (ex_5.symm)
    have bx_5 : 0 ≤ x_5.toInt ∧ x_5.toInt ≤ 7 := mI_ry (k := 39) (i := x_4.toNatClampNeg) hI yx_5.symm
    have L_6 : rg (96 + a.toInt.toNat) = x_5.toInt := (hr.2.1 (a.toInt.toNat) (by omega) (by omega)).trans (rd_k (n := 8 * 1 + a.toInt.toNat) (by omega) (yx_5))
    refine lv_goto (tgt := 26) hx hb dX10_standsAt_21 (by decide) ?_
    exact hQ _ _ _ _ _ _ hw rfl (⟨rfl, by first | omega | decide, by first | omega | decide, (by unfold bq_ma; (repeat (first | rw [if_pos (by omega)] | rw [if_neg (by omega)])); first | omega)⟩) dX10_standsAt_26
set_option maxHeartbeats 4000000 in
set_option maxRecDepth 100000 in
theorem z_X10_pour_0 (l : Launch) (D : va_G) (A : Nat → Nat → Nat) (cy : Nat → ClassId) (hJ : ti_inj ti_LM A) (M : ti_M) (hI : mI Tm M)  (tx rg : Nat → Int) (htr : tR tx M) (ht4 : 0 ≤ tx 4 ∧ tx 4 ≤ 8) (hr : qR (tx 4).toNat 0 rg M) (hwf : wF tx rg) (htw : tI M 60 53 = -1) : ti_Kv l yX10_pour cX10_pour 4 1 ti_LM D A cy M [.ref (A 60 0), .int 0] (fun M2 => eR 0 M2 M ∧ tY M2 60 48 = tY M 60 48 ∧ qR (tx 4).toNat 0 (bq_pr tx rg) M2 ∧ mI Tm M2 ∧ qw M2 M ∧ tY M2 60 34 = tY M 60 34) := by
  refine ti_eV yp_X10_pour hJ ti_LM_nd (Nat.le_of_ble_eq_true rfl) ?_
  intro p e s m args below meth c Q H0 C hQ hw ls hl
  have hx := C.1
  have hb := C.2.1
  have hl : lv_has ls 4 [(0, .ref (A 60 0)), (1, .int 0)] := hl
  refine lv_aload_n hx hb dX10_pour_0 rfl (lv_at hl 0 rfl) ?_
  refine ti_get (ci := 10) (k := 38) (N := 67) (T := TX10) (v := .ref (A 60 39)) C hw iw_10 rfl ob_60 (by decide) (by decide) fl_X10_81 rfl rfl dX10_pour_1 ?_
  refine lv_iload_n hx hb dX10_pour_4 rfl (lv_at hl 1 rfl) ?_
  refine ti_iald (ci := 10) (k := 38) (n := 23) C hw ob_60 (by decide) (fun _ _ => rfl) (by unfold vp_in; decide) dX10_pour_5 ?_
  refine lv_topi (fun x_1 ex_1 => ?_)
  have yx_1 : tY M 60 38 0 = x_1 := ((congrArg _ (by decide)).symm.trans ex_1.symm)
  have bx_1 : 0 ≤ x_1.toInt ∧ x_1.toInt ≤ 8 := mI_ry (k := 38) (i := 0) hI yx_1.symm
  have zx_1 : (tY M 60 38 0).toInt = x_1.toInt := by rw [yx_1]
  have L_2 : rg 3 = x_1.toInt := (hr.1.2.1).trans (congrArg Int32.toInt (yx_1))
  refine sb_if_ne (tgt := 10) hx hb rfl dX10_pour_6 (by decide) (fun c_6_2 => ?_) (fun c_6_2 => ?_)
  · refine lv_aload_n hx hb dX10_pour_10 rfl (lv_at hl 0 rfl) ?_
    refine ti_get (ci := 10) (k := 39) (N := 67) (T := TX10) (v := .ref (A 60 40)) C hw iw_10 rfl ob_60 (by decide) (by decide) fl_X10_84 rfl rfl dX10_pour_11 ?_
    refine lv_bipush (v := 8) hx hb dX10_pour_14 (by decide) ?_
    refine lv_iload_n hx hb dX10_pour_16 rfl (lv_at hl 1 rfl) ?_
    refine lv_imul hx hb dX10_pour_17 ?_
    refine ti_top (y := 0) (by decide) ?_
    refine ti_iald (ci := 10) (k := 39) (n := 184) C hw ob_60 (by decide) (fun _ _ => rfl) (by unfold vp_in; decide) dX10_pour_18 ?_
    refine lv_topi (fun x_5 ex_5 => ?_)
    have yx_5 : tY M 60 39 0 = x_5 := ((congrArg _ (by decide)).symm.trans ex_5.symm)
    have bx_5 : 0 ≤ x_5.toInt ∧ x_5.toInt ≤ 7 := mI_ry (k := 39) (i := 0) hI yx_5.symm
    have L_6 : rg 96 = x_5.toInt := (hr.2.1 (0) (by omega) (by omega)).trans (congrArg Int32.toInt (yx_5))
    have A0 : 0 ≤ rg 96 ∧ rg 96 < tx 4 ∧ rg (128 + (rg 96).toNat) = 1 := hwf.2.2.1 0 (by omega)
    rw [L_6] at A0
    refine lv_istore_n (lv' := [(2, .int x_5), (0, .ref (A 60 0)), (1, .int 0)]) hx hb dX10_pour_19 rfl hl (by decide) rfl (fun ls hl => ?_)
    refine lv_aload_n hx hb dX10_pour_20 rfl (lv_at hl 1 rfl) ?_
    refine ti_get (ci := 10) (k := 3) (N := 67) (T := TX10) (v := .ref (A 60 4)) C hw iw_10 rfl ob_60 (by decide) (by decide) fl_X10_13 rfl rfl dX10_pour_21 ?_
    refine lv_iconst (v := 2) hx hb dX10_pour_24 (by decide) ?_
    refine ti_iald (ci := 10) (k := 3) (n := 22) C hw ob_60 (by decide) (fun _ _ => rfl) (by unfold vp_in; decide) dX10_pour_25 ?_
    refine lv_topi (fun x_7 ex_7 => ?_)
    have yx_7 : tY M 60 3 2 = x_7 := ((congrArg _ (by decide)).symm.trans ex_7.symm)
    have zx_7 : (tY M 60 3 2).toInt = x_7.toInt := by rw [yx_7]
    have L_8 : tx 7 = x_7.toInt := (htr.1.2.2.1).trans ((congrArg Int32.toInt (cg rfl 2)).symm.trans (congrArg Int32.toInt (yx_7)))
    refine lv_aload_n hx hb dX10_pour_26 rfl (lv_at hl 1 rfl) ?_
    refine ti_get (ci := 10) (k := 53) (N := 67) (T := TX10) C hw iw_10 rfl ob_60 (by decide) (by decide) fl_X10_120 rfl rfl dX10_pour_27 ?_
    refine ti_top (y := (-1)) (htw) ?_
    refine lv_iconst (v := 3) hx hb dX10_pour_30 (by decide) ?_
    refine sb_icmp_ne (tgt := 38) hx hb (by decide : ((-1) : Int32).toInt = (-1)) (by decide : (3 : Int32).toInt = 3) dX10_pour_31 (by decide) (fun c_31_8 => ?_) (fun h => absurd h (by decide))
    refine lv_iconst (v := 0) hx hb dX10_pour_38 (by decide) ?_
    refine lv_iadd hx hb dX10_pour_39 ?_
    refine lv_topi (fun x_10 ex_10 => ?_)
    have tx_10 : x_10.toInt = x_7.toInt := by rw [bw_add ex_10 rfl (by decide : (0 : Int32).toInt = 0), Int.add_zero, bw_id (by have := (x_7 : Int32).le_toInt; omega) (by have := (x_7 : Int32).toInt_lt; omega)]
    refine lv_aload_n hx hb dX10_pour_40 rfl (lv_at hl 1 rfl) ?_
    refine ti_get (ci := 10) (k := 8) (N := 67) (T := TX10) (v := .ref (A 60 9)) C hw iw_10 rfl ob_60 (by decide) (by decide) fl_X10_28 rfl rfl dX10_pour_41 ?_
    refine lv_iload_n hx hb dX10_pour_44 rfl (lv_at hl 0 rfl) ?_
    refine ti_iald (ci := 10) (k := 8) (n := 16) C hw ob_60 (by decide) (fun _ _ => rfl) (vp_in_iff.mpr (by omega)) dX10_pour_45 ?_
    refine lv_topi (fun x_11 ex_11 => ?_)
    have yx_11 : tY M 60 8 x_5.toNatClampNeg = x_11 := (ex_11.symm)
    have L_12 : tx (100 + 16 * x_5.toInt.toNat + 4) = x_11.toInt := (htr.2.2.1 (x_5.toInt.toNat) (by omega) (by omega)).2.2.2.1.trans ((congrArg Int32.toInt (cg rfl (x_5.toInt.toNat))).symm.trans (rd_k (n := x_5.toInt.toNat) (by omega) (yx_11)))
    refine lv_aload_n hx hb dX10_pour_46 rfl (lv_at hl 1 rfl) ?_
    refine ti_get (ci := 10) (k := 42) (N := 67) (T := TX10) (v := .ref (A 60 43)) C hw iw_10 rfl ob_60 (by decide) (by decide) fl_X10_93 rfl rfl dX10_pour_47 ?_
    refine lv_bipush (v := 8) hx hb dX10_pour_50 (by decide) ?_
    refine lv_iload_n hx hb dX10_pour_52 rfl (lv_at hl 2 rfl) ?_
    refine lv_imul hx hb dX10_pour_53 ?_
    refine ti_top (y := 0) (by decide) ?_
    refine lv_iload_n hx hb dX10_pour_54 rfl (lv_at hl 0 rfl) ?_
    refine lv_iadd hx hb dX10_pour_55 ?_
    refine lv_topi (fun x_13 ex_13 => ?_)
    have tx_13 : x_13.toInt = 0 + x_5.toInt := i_add ex_13 (by decide : (0 : Int32).toInt = 0) rfl (by omega) (by omega)
    refine ti_iald (ci := 10) (k := 42) (n := 184) C hw ob_60 (by decide) (fun _ _ => rfl) (vp_in_iff.mpr (by omega)) dX10_pour_56 ?_
    refine lv_topi (fun x_14 ex_14 => ?_)
    have yx_14 : tY M 60 42 x_13.toNatClampNeg = x_14 := (ex_14.symm)
    have L_15 : rg (176 + x_5.toInt.toNat) = x_14.toInt := ((hr.2.2.2.1 (x_5.toInt.toNat) (by omega)).2.2.2.1).trans (rd_k (n := 8 * 0 + x_5.toInt.toNat) (by omega) (yx_14))
    refine lv_isub hx hb dX10_pour_57 ?_
    refine lv_topi (fun x_16 ex_16 => ?_)
    have tx_16 : x_16.toInt = bw (x_11.toInt - x_14.toInt) := bw_sub ex_16 rfl rfl
    refine ti_min C ml_X10_380 hl.1 (by decide) (Nat.le_of_ble_eq_true rfl) ⟨Nat.zero_le _, Nat.zero_le _⟩ dX10_pour_58 ?_
    refine lv_topi (fun x_17 ex_17 => ?_)
    have bx_17 := i_min ex_17 rfl rfl
    refine lv_istore_n (lv' := [(3, .int x_17), (2, .int x_5), (0, .ref (A 60 0)), (1, .int 0)]) hx hb dX10_pour_61 rfl hl (by decide) rfl (fun ls hl => ?_)
    refine lv_aload_n hx hb dX10_pour_62 rfl (lv_at hl 2 rfl) ?_
    refine ti_get (ci := 10) (k := 53) (N := 67) (T := TX10) C hw iw_10 rfl ob_60 (by decide) (by decide) fl_X10_120 rfl rfl dX10_pour_63 ?_
    refine ti_top (y := (-1)) (htw) ?_
    refine lv_iconst (v := 4) hx hb dX10_pour_66 (by decide) ?_
    refine sb_icmp_eq (tgt := 91) hx hb (by decide : ((-1) : Int32).toInt = (-1)) (by decide : (4 : Int32).toInt = 4) dX10_pour_67 (by decide) (fun h => absurd h (by decide)) (fun c_67_17 => ?_)
    refine lv_iload_n hx hb dX10_pour_70 rfl (lv_at hl 0 rfl) ?_
    refine lv_aload_n hx hb dX10_pour_71 rfl (lv_at hl 2 rfl) ?_
    refine ti_get (ci := 10) (k := 35) (N := 67) (T := TX10) (v := .ref (A 60 36)) C hw iw_10 rfl ob_60 (by decide) (by decide) fl_X10_72 rfl rfl dX10_pour_72 ?_
    refine lv_iload_n hx hb dX10_pour_75 rfl (lv_at hl 3 rfl) ?_
    refine ti_iald (ci := 10) (k := 35) (n := 23) C hw ob_60 (by decide) (fun _ _ => rfl) (by unfold vp_in; decide) dX10_pour_76 ?_
    refine lv_topi (fun x_19 ex_19 => ?_)
    have yx_19 : tY M 60 35 0 = x_19 := ((congrArg _ (by decide)).symm.trans ex_19.symm)
    have L_20 : rg 4 = x_19.toInt := (hr.1.2.2.1).trans (congrArg Int32.toInt (yx_19))
    refine ti_min C ml_X10_380 hl.1 (by decide) (Nat.le_of_ble_eq_true rfl) ⟨Nat.zero_le _, Nat.zero_le _⟩ dX10_pour_77 ?_
    refine lv_topi (fun x_21 ex_21 => ?_)
    have bx_21 := i_min ex_21 rfl rfl
    refine lv_istore_n (lv' := [(3, .int x_21), (2, .int x_5), (0, .ref (A 60 0)), (1, .int 0)]) hx hb dX10_pour_80 rfl hl (by decide) rfl (fun ls hl => ?_)
    have EN : bq_pn tx rg = x_21.toInt := by unfold bq_pn; rw [L_6, L_12, L_15, ← tx_16]; unfold bq_mn; (repeat' split) <;> omega
    refine lv_aload_n hx hb dX10_pour_81 rfl (lv_at hl 2 rfl) ?_
    refine ti_get (ci := 10) (k := 35) (N := 67) (T := TX10) (v := .ref (A 60 36)) C hw iw_10 rfl ob_60 (by decide) (by decide) fl_X10_72 rfl rfl dX10_pour_82 ?_
    refine lv_iload_n hx hb dX10_pour_85 rfl (lv_at hl 3 rfl) ?_
    refine lv_dup2_11 hx hb dX10_pour_86 rfl rfl ?_
    refine ti_iald (ci := 10) (k := 35) (n := 23) C hw ob_60 (by decide) (fun _ _ => rfl) (by unfold vp_in; decide) dX10_pour_87 ?_
    refine ti_top (y := x_19) ((congrArg _ (by decide)).trans (yx_19)) ?_
    have L_22 : rg 4 = x_19.toInt := (hr.1.2.2.1).trans (congrArg Int32.toInt (yx_19))
    refine lv_iload_n hx hb dX10_pour_88 rfl (lv_at hl 0 rfl) ?_
    refine lv_isub hx hb dX10_pour_89 ?_
    refine lv_topi (fun x_23 ex_23 => ?_)
    have tx_23 : x_23.toInt = bw (x_19.toInt - x_21.toInt) := bw_sub ex_23 rfl rfl
    refine ti_iast (ci := 10) (k := 35) (n := 23) C hw ob_60 (by decide) (fun _ _ => rfl) (by unfold vp_in; decide) dX10_pour_90 (fun H locs hw => ?_)
    obtain ⟨M_24, hM_24⟩ : ∃ z : ti_M, z = uY M 60 35 (upd (tY M 60 35) (0 : Int32).toNatClampNeg x_23) := ⟨_, rfl⟩
    have hw := hw.to hM_24.symm
    have iM_24 : mI Tm M_24 := mI_up (i := 0) hI hM_24 trivial
    have hs_25 : qR (tx 4).toNat 0 (pp_su rg 4 x_23.toInt) M_24 := qR_35 (z := 0) hr (by decide) rfl hM_24
    obtain ⟨g_26, eg_26⟩ : ∃ z : Nat → Int, z = pp_su rg 4 x_23.toInt := ⟨_, rfl⟩
    rw [← eg_26] at hs_25
    have sg_26 : g_26 4 = x_23.toInt := by rw [eg_26, su_s]
    refine lv_aload_n hx hb dX10_pour_91 rfl (lv_at hl 2 rfl) ?_
    refine ti_get (ci := 10) (k := 42) (N := 67) (T := TX10) (v := .ref (A 60 43)) C hw iw_10 rfl ob_60 (by decide) (by decide) fl_X10_93 rfl rfl dX10_pour_92 ?_
    refine lv_bipush (v := 8) hx hb dX10_pour_95 (by decide) ?_
    refine lv_iload_n hx hb dX10_pour_97 rfl (lv_at hl 3 rfl) ?_
    refine lv_imul hx hb dX10_pour_98 ?_
    refine ti_top (y := 0) (by decide) ?_
    refine lv_iload_n hx hb dX10_pour_99 rfl (lv_at hl 1 rfl) ?_
    refine lv_iadd hx hb dX10_pour_100 ?_
    refine lv_topi (fun x_27 ex_27 => ?_)
    have tx_27 : x_27.toInt = 0 + x_5.toInt := i_add ex_27 (by decide : (0 : Int32).toInt = 0) rfl (by omega) (by omega)
    refine lv_dup2_11 hx hb dX10_pour_101 rfl rfl ?_
    refine ti_iald (ci := 10) (k := 42) (n := 184) C hw ob_60 (by decide) (fun _ _ => rfl) (vp_in_iff.mpr (by omega)) dX10_pour_102 ?_
    refine lv_topi (fun x_28 ex_28 => ?_)
    have yx_28 : tY M_24 60 42 x_27.toNatClampNeg = x_28 := (ex_28.symm)
    have wx_28 : tY M 60 42 x_27.toNatClampNeg = x_28 := ((cg (tY_nE hM_24 (nk (by decide))) x_27.toNatClampNeg)).symm.trans yx_28
    have L_29 : g_26 (176 + x_5.toInt.toNat) = x_28.toInt := ((hs_25.2.2.2.1 (x_5.toInt.toNat) (by omega)).2.2.2.1).trans (rd_k (n := 8 * 0 + x_5.toInt.toNat) (by omega) ((cg (tY_nE hM_24 (nk (by decide))) x_27.toNatClampNeg).trans wx_28))
    have L_30 : rg (176 + x_5.toInt.toNat) = x_28.toInt := (show g_26 (176 + x_5.toInt.toNat) = rg (176 + x_5.toInt.toNat) by rw [eg_26, su_n (by omega)]).symm.trans L_29
    refine lv_iload_n hx hb dX10_pour_103 rfl (lv_at hl 0 rfl) ?_
    refine lv_iadd hx hb dX10_pour_104 ?_
    refine lv_topi (fun x_31 ex_31 => ?_)
    have tx_31 : x_31.toInt = bw (x_28.toInt + x_21.toInt) := bw_add ex_31 rfl rfl
    refine ti_iast (ci := 10) (k := 42) (n := 184) C hw ob_60 (by decide) (fun _ _ => rfl) (vp_in_iff.mpr (by omega)) dX10_pour_105 (fun H locs hw => ?_)
    obtain ⟨M_32, hM_32⟩ : ∃ z : ti_M, z = uY M_24 60 42 (upd (tY M_24 60 42) (x_27 : Int32).toNatClampNeg x_31) := ⟨_, rfl⟩
    have hw := hw.to hM_32.symm
    have iM_32 : mI Tm M_32 := mI_up (i := x_27.toNatClampNeg) iM_24 hM_32 trivial
    have hs_33 : qR (tx 4).toNat 0 (pp_su g_26 (176 + x_5.toInt.toNat) x_31.toInt) M_32 := qR_42 (m := x_5.toInt.toNat) (z := x_27) hs_25 (by omega) rfl hM_32 (by omega) (by omega)
    obtain ⟨g_34, eg_34⟩ : ∃ z : Nat → Int, z = pp_su g_26 (176 + x_5.toInt.toNat) x_31.toInt := ⟨_, rfl⟩
    rw [← eg_34] at hs_33
    have E_35 : bq_pr tx rg = g_34 := by unfold bq_pr; rw [if_neg (by omega), EN, L_6, show rg 4 = x_19.toInt by omega, show rg (176 + x_5.toInt.toNat) = x_28.toInt by omega, ← tx_23, ← tx_31, ← eg_26, ← eg_34]
    exact hQ _ _ _ _ _ hw (⟨(eR.trans (eR_Y hM_32 (bk_m (z := x_27) (by omega) (by decide))) (eR_Y hM_24 (bk_q (z := 0) (by decide) (by decide)))), (((tY_nE hM_32 (nk (by decide))).trans (tY_nE hM_24 (nk (by decide))))), (by rw [E_35]; exact hs_33), iM_32, (qw.trans (qw_Y hM_32 (by decide)) (qw_Y hM_24 (by decide))), (((tY_nE hM_32 (nk (by decide))).trans (tY_nE hM_24 (nk (by decide)))))⟩) dX10_pour_106
  · exact hQ _ _ _ _ _ hw (⟨eR.refl, rfl, (by unfold bq_pr; rw [if_pos (by omega)]; exact hr), hI, qw.refl, rfl⟩) dX10_pour_9
set_option maxHeartbeats 4000000 in
set_option maxRecDepth 100000 in
theorem z_X10_pour_1 (l : Launch) (D : va_G) (A : Nat → Nat → Nat) (cy : Nat → ClassId) (hJ : ti_inj ti_LM A) (M : ti_M) (hI : mI Tm M)  (tx rg : Nat → Int) (htr : tR tx M) (ht4 : 0 ≤ tx 4 ∧ tx 4 ≤ 8) (hr : qR (tx 4).toNat 1 rg M) (hwf : wF tx rg) (htw : tI M 60 53 = -1) : ti_Kv l yX10_pour cX10_pour 4 1 ti_LM D A cy M [.ref (A 60 0), .int 1] (fun M2 => eR 1 M2 M ∧ tY M2 60 48 = tY M 60 48 ∧ qR (tx 4).toNat 1 (bq_pr tx rg) M2 ∧ mI Tm M2 ∧ qw M2 M ∧ tY M2 60 34 = tY M 60 34) := by
  refine ti_eV yp_X10_pour hJ ti_LM_nd (Nat.le_of_ble_eq_true rfl) ?_
  intro p e s m args below meth c Q H0 C hQ hw ls hl
  have hx := C.1
  have hb := C.2.1
  have hl : lv_has ls 4 [(0, .ref (A 60 0)), (1, .int 1)] := hl
  refine lv_aload_n hx hb dX10_pour_0 rfl (lv_at hl 0 rfl) ?_
  refine ti_get (ci := 10) (k := 38) (N := 67) (T := TX10) (v := .ref (A 60 39)) C hw iw_10 rfl ob_60 (by decide) (by decide) fl_X10_81 rfl rfl dX10_pour_1 ?_
  refine lv_iload_n hx hb dX10_pour_4 rfl (lv_at hl 1 rfl) ?_
  refine ti_iald (ci := 10) (k := 38) (n := 23) C hw ob_60 (by decide) (fun _ _ => rfl) (by unfold vp_in; decide) dX10_pour_5 ?_
  refine lv_topi (fun x_1 ex_1 => ?_)
  have yx_1 : tY M 60 38 1 = x_1 := ((congrArg _ (by decide)).symm.trans ex_1.symm)
  have bx_1 : 0 ≤ x_1.toInt ∧ x_1.toInt ≤ 8 := mI_ry (k := 38) (i := 1) hI yx_1.symm
  have zx_1 : (tY M 60 38 1).toInt = x_1.toInt := by rw [yx_1]
  have L_2 : rg 3 = x_1.toInt := (hr.1.2.1).trans (congrArg Int32.toInt (yx_1))
  refine sb_if_ne (tgt := 10) hx hb rfl dX10_pour_6 (by decide) (fun c_6_2 => ?_) (fun c_6_2 => ?_)
  · refine lv_aload_n hx hb dX10_pour_10 rfl (lv_at hl 0 rfl) ?_
    refine ti_get (ci := 10) (k := 39) (N := 67) (T := TX10) (v := .ref (A 60 40)) C hw iw_10 rfl ob_60 (by decide) (by decide) fl_X10_84 rfl rfl dX10_pour_11 ?_
    refine lv_bipush (v := 8) hx hb dX10_pour_14 (by decide) ?_
    refine lv_iload_n hx hb dX10_pour_16 rfl (lv_at hl 1 rfl) ?_
    refine lv_imul hx hb dX10_pour_17 ?_
    refine ti_top (y := 8) (by decide) ?_
    refine ti_iald (ci := 10) (k := 39) (n := 184) C hw ob_60 (by decide) (fun _ _ => rfl) (by unfold vp_in; decide) dX10_pour_18 ?_
    refine lv_topi (fun x_5 ex_5 => ?_)
    have yx_5 : tY M 60 39 8 = x_5 := ((congrArg _ (by decide)).symm.trans ex_5.symm)
    have bx_5 : 0 ≤ x_5.toInt ∧ x_5.toInt ≤ 7 := mI_ry (k := 39) (i := 8) hI yx_5.symm
    have L_6 : rg 96 = x_5.toInt := (hr.2.1 (0) (by omega) (by omega)).trans (congrArg Int32.toInt (yx_5))
    have A0 : 0 ≤ rg 96 ∧ rg 96 < tx 4 ∧ rg (128 + (rg 96).toNat) = 1 := hwf.2.2.1 0 (by omega)
    rw [L_6] at A0
    refine lv_istore_n (lv' := [(2, .int x_5), (0, .ref (A 60 0)), (1, .int 1)]) hx hb dX10_pour_19 rfl hl (by decide) rfl (fun ls hl => ?_)
    refine lv_aload_n hx hb dX10_pour_20 rfl (lv_at hl 1 rfl) ?_
    refine ti_get (ci := 10) (k := 3) (N := 67) (T := TX10) (v := .ref (A 60 4)) C hw iw_10 rfl ob_60 (by decide) (by decide) fl_X10_13 rfl rfl dX10_pour_21 ?_
    refine lv_iconst (v := 2) hx hb dX10_pour_24 (by decide) ?_
    refine ti_iald (ci := 10) (k := 3) (n := 22) C hw ob_60 (by decide) (fun _ _ => rfl) (by unfold vp_in; decide) dX10_pour_25 ?_
    refine lv_topi (fun x_7 ex_7 => ?_)
    have yx_7 : tY M 60 3 2 = x_7 := ((congrArg _ (by decide)).symm.trans ex_7.symm)
    have zx_7 : (tY M 60 3 2).toInt = x_7.toInt := by rw [yx_7]
    have L_8 : tx 7 = x_7.toInt := (htr.1.2.2.1).trans ((congrArg Int32.toInt (cg rfl 2)).symm.trans (congrArg Int32.toInt (yx_7)))
    refine lv_aload_n hx hb dX10_pour_26 rfl (lv_at hl 1 rfl) ?_
    refine ti_get (ci := 10) (k := 53) (N := 67) (T := TX10) C hw iw_10 rfl ob_60 (by decide) (by decide) fl_X10_120 rfl rfl dX10_pour_27 ?_
    refine ti_top (y := (-1)) (htw) ?_
    refine lv_iconst (v := 3) hx hb dX10_pour_30 (by decide) ?_
    refine sb_icmp_ne (tgt := 38) hx hb (by decide : ((-1) : Int32).toInt = (-1)) (by decide : (3 : Int32).toInt = 3) dX10_pour_31 (by decide) (fun c_31_8 => ?_) (fun h => absurd h (by decide))
    refine lv_iconst (v := 0) hx hb dX10_pour_38 (by decide) ?_
    refine lv_iadd hx hb dX10_pour_39 ?_
    refine lv_topi (fun x_10 ex_10 => ?_)
    have tx_10 : x_10.toInt = x_7.toInt := by rw [bw_add ex_10 rfl (by decide : (0 : Int32).toInt = 0), Int.add_zero, bw_id (by have := (x_7 : Int32).le_toInt; omega) (by have := (x_7 : Int32).toInt_lt; omega)]
    refine lv_aload_n hx hb dX10_pour_40 rfl (lv_at hl 1 rfl) ?_
    refine ti_get (ci := 10) (k := 8) (N := 67) (T := TX10) (v := .ref (A 60 9)) C hw iw_10 rfl ob_60 (by decide) (by decide) fl_X10_28 rfl rfl dX10_pour_41 ?_
    refine lv_iload_n hx hb dX10_pour_44 rfl (lv_at hl 0 rfl) ?_
    refine ti_iald (ci := 10) (k := 8) (n := 16) C hw ob_60 (by decide) (fun _ _ => rfl) (vp_in_iff.mpr (by omega)) dX10_pour_45 ?_
    refine lv_topi (fun x_11 ex_11 => ?_)
    have yx_11 : tY M 60 8 x_5.toNatClampNeg = x_11 := (ex_11.symm)
    have L_12 : tx (100 + 16 * x_5.toInt.toNat + 4) = x_11.toInt := (htr.2.2.1 (x_5.toInt.toNat) (by omega) (by omega)).2.2.2.1.trans ((congrArg Int32.toInt (cg rfl (x_5.toInt.toNat))).symm.trans (rd_k (n := x_5.toInt.toNat) (by omega) (yx_11)))
    refine lv_aload_n hx hb dX10_pour_46 rfl (lv_at hl 1 rfl) ?_
    refine ti_get (ci := 10) (k := 42) (N := 67) (T := TX10) (v := .ref (A 60 43)) C hw iw_10 rfl ob_60 (by decide) (by decide) fl_X10_93 rfl rfl dX10_pour_47 ?_
    refine lv_bipush (v := 8) hx hb dX10_pour_50 (by decide) ?_
    refine lv_iload_n hx hb dX10_pour_52 rfl (lv_at hl 2 rfl) ?_
    refine lv_imul hx hb dX10_pour_53 ?_
    refine ti_top (y := 8) (by decide) ?_
    refine lv_iload_n hx hb dX10_pour_54 rfl (lv_at hl 0 rfl) ?_
    refine lv_iadd hx hb dX10_pour_55 ?_
    refine lv_topi (fun x_13 ex_13 => ?_)
    have tx_13 : x_13.toInt = 8 + x_5.toInt := i_add ex_13 (by decide : (8 : Int32).toInt = 8) rfl (by omega) (by omega)
    refine ti_iald (ci := 10) (k := 42) (n := 184) C hw ob_60 (by decide) (fun _ _ => rfl) (vp_in_iff.mpr (by omega)) dX10_pour_56 ?_
    refine lv_topi (fun x_14 ex_14 => ?_)
    have yx_14 : tY M 60 42 x_13.toNatClampNeg = x_14 := (ex_14.symm)
    have L_15 : rg (176 + x_5.toInt.toNat) = x_14.toInt := ((hr.2.2.2.1 (x_5.toInt.toNat) (by omega)).2.2.2.1).trans (rd_k (n := 8 * 1 + x_5.toInt.toNat) (by omega) (yx_14))
    refine lv_isub hx hb dX10_pour_57 ?_
    refine lv_topi (fun x_16 ex_16 => ?_)
    have tx_16 : x_16.toInt = bw (x_11.toInt - x_14.toInt) := bw_sub ex_16 rfl rfl
    refine ti_min C ml_X10_380 hl.1 (by decide) (Nat.le_of_ble_eq_true rfl) ⟨Nat.zero_le _, Nat.zero_le _⟩ dX10_pour_58 ?_
    refine lv_topi (fun x_17 ex_17 => ?_)
    have bx_17 := i_min ex_17 rfl rfl
    refine lv_istore_n (lv' := [(3, .int x_17), (2, .int x_5), (0, .ref (A 60 0)), (1, .int 1)]) hx hb dX10_pour_61 rfl hl (by decide) rfl (fun ls hl => ?_)
    refine lv_aload_n hx hb dX10_pour_62 rfl (lv_at hl 2 rfl) ?_
    refine ti_get (ci := 10) (k := 53) (N := 67) (T := TX10) C hw iw_10 rfl ob_60 (by decide) (by decide) fl_X10_120 rfl rfl dX10_pour_63 ?_
    refine ti_top (y := (-1)) (htw) ?_
    refine lv_iconst (v := 4) hx hb dX10_pour_66 (by decide) ?_
    refine sb_icmp_eq (tgt := 91) hx hb (by decide : ((-1) : Int32).toInt = (-1)) (by decide : (4 : Int32).toInt = 4) dX10_pour_67 (by decide) (fun h => absurd h (by decide)) (fun c_67_17 => ?_)
    refine lv_iload_n hx hb dX10_pour_70 rfl (lv_at hl 0 rfl) ?_
    refine lv_aload_n hx hb dX10_pour_71 rfl (lv_at hl 2 rfl) ?_
    refine ti_get (ci := 10) (k := 35) (N := 67) (T := TX10) (v := .ref (A 60 36)) C hw iw_10 rfl ob_60 (by decide) (by decide) fl_X10_72 rfl rfl dX10_pour_72 ?_
    refine lv_iload_n hx hb dX10_pour_75 rfl (lv_at hl 3 rfl) ?_
    refine ti_iald (ci := 10) (k := 35) (n := 23) C hw ob_60 (by decide) (fun _ _ => rfl) (by unfold vp_in; decide) dX10_pour_76 ?_
    refine lv_topi (fun x_19 ex_19 => ?_)
    have yx_19 : tY M 60 35 1 = x_19 := ((congrArg _ (by decide)).symm.trans ex_19.symm)
    have L_20 : rg 4 = x_19.toInt := (hr.1.2.2.1).trans (congrArg Int32.toInt (yx_19))
    refine ti_min C ml_X10_380 hl.1 (by decide) (Nat.le_of_ble_eq_true rfl) ⟨Nat.zero_le _, Nat.zero_le _⟩ dX10_pour_77 ?_
    refine lv_topi (fun x_21 ex_21 => ?_)
    have bx_21 := i_min ex_21 rfl rfl
    refine lv_istore_n (lv' := [(3, .int x_21), (2, .int x_5), (0, .ref (A 60 0)), (1, .int 1)]) hx hb dX10_pour_80 rfl hl (by decide) rfl (fun ls hl => ?_)
    have EN : bq_pn tx rg = x_21.toInt := by unfold bq_pn; rw [L_6, L_12, L_15, ← tx_16]; unfold bq_mn; (repeat' split) <;> omega
    refine lv_aload_n hx hb dX10_pour_81 rfl (lv_at hl 2 rfl) ?_
    refine ti_get (ci := 10) (k := 35) (N := 67) (T := TX10) (v := .ref (A 60 36)) C hw iw_10 rfl ob_60 (by decide) (by decide) fl_X10_72 rfl rfl dX10_pour_82 ?_
    refine lv_iload_n hx hb dX10_pour_85 rfl (lv_at hl 3 rfl) ?_
    refine lv_dup2_11 hx hb dX10_pour_86 rfl rfl ?_
    refine ti_iald (ci := 10) (k := 35) (n := 23) C hw ob_60 (by decide) (fun _ _ => rfl) (by unfold vp_in; decide) dX10_pour_87 ?_
    refine ti_top (y := x_19) ((congrArg _ (by decide)).trans (yx_19)) ?_
    have L_22 : rg 4 = x_19.toInt := (hr.1.2.2.1).trans (congrArg Int32.toInt (yx_19))
    refine lv_iload_n hx hb dX10_pour_88 rfl (lv_at hl 0 rfl) ?_
    refine lv_isub hx hb dX10_pour_89 ?_
    refine lv_topi (fun x_23 ex_23 => ?_)
    have tx_23 : x_23.toInt = bw (x_19.toInt - x_21.toInt) := bw_sub ex_23 rfl rfl
    refine ti_iast (ci := 10) (k := 35) (n := 23) C hw ob_60 (by decide) (fun _ _ => rfl) (by unfold vp_in; decide) dX10_pour_90 (fun H locs hw => ?_)
    obtain ⟨M_24, hM_24⟩ : ∃ z : ti_M, z = uY M 60 35 (upd (tY M 60 35) (1 : Int32).toNatClampNeg x_23) := ⟨_, rfl⟩
    have hw := hw.to hM_24.symm
    have iM_24 : mI Tm M_24 := mI_up (i := 1) hI hM_24 trivial
    have hs_25 : qR (tx 4).toNat 1 (pp_su rg 4 x_23.toInt) M_24 := qR_35 (z := 1) hr (by decide) rfl hM_24
    obtain ⟨g_26, eg_26⟩ : ∃ z : Nat → Int, z = pp_su rg 4 x_23.toInt := ⟨_, rfl⟩
    rw [← eg_26] at hs_25
    have sg_26 : g_26 4 = x_23.toInt := by rw [eg_26, su_s]
    refine lv_aload_n hx hb dX10_pour_91 rfl (lv_at hl 2 rfl) ?_
    refine ti_get (ci := 10) (k := 42) (N := 67) (T := TX10) (v := .ref (A 60 43)) C hw iw_10 rfl ob_60 (by decide) (by decide) fl_X10_93 rfl rfl dX10_pour_92 ?_
    refine lv_bipush (v := 8) hx hb dX10_pour_95 (by decide) ?_
    refine lv_iload_n hx hb dX10_pour_97 rfl (lv_at hl 3 rfl) ?_
    refine lv_imul hx hb dX10_pour_98 ?_
    refine ti_top (y := 8) (by decide) ?_
    refine lv_iload_n hx hb dX10_pour_99 rfl (lv_at hl 1 rfl) ?_
    refine lv_iadd hx hb dX10_pour_100 ?_
    refine lv_topi (fun x_27 ex_27 => ?_)
    have tx_27 : x_27.toInt = 8 + x_5.toInt := i_add ex_27 (by decide : (8 : Int32).toInt = 8) rfl (by omega) (by omega)
    refine lv_dup2_11 hx hb dX10_pour_101 rfl rfl ?_
    refine ti_iald (ci := 10) (k := 42) (n := 184) C hw ob_60 (by decide) (fun _ _ => rfl) (vp_in_iff.mpr (by omega)) dX10_pour_102 ?_
    refine lv_topi (fun x_28 ex_28 => ?_)
    have yx_28 : tY M_24 60 42 x_27.toNatClampNeg = x_28 := (ex_28.symm)
    have wx_28 : tY M 60 42 x_27.toNatClampNeg = x_28 := ((cg (tY_nE hM_24 (nk (by decide))) x_27.toNatClampNeg)).symm.trans yx_28
    have L_29 : g_26 (176 + x_5.toInt.toNat) = x_28.toInt := ((hs_25.2.2.2.1 (x_5.toInt.toNat) (by omega)).2.2.2.1).trans (rd_k (n := 8 * 1 + x_5.toInt.toNat) (by omega) ((cg (tY_nE hM_24 (nk (by decide))) x_27.toNatClampNeg).trans wx_28))
    have L_30 : rg (176 + x_5.toInt.toNat) = x_28.toInt := (show g_26 (176 + x_5.toInt.toNat) = rg (176 + x_5.toInt.toNat) by rw [eg_26, su_n (by omega)]).symm.trans L_29
    refine lv_iload_n hx hb dX10_pour_103 rfl (lv_at hl 0 rfl) ?_
    refine lv_iadd hx hb dX10_pour_104 ?_
    refine lv_topi (fun x_31 ex_31 => ?_)
    have tx_31 : x_31.toInt = bw (x_28.toInt + x_21.toInt) := bw_add ex_31 rfl rfl
    refine ti_iast (ci := 10) (k := 42) (n := 184) C hw ob_60 (by decide) (fun _ _ => rfl) (vp_in_iff.mpr (by omega)) dX10_pour_105 (fun H locs hw => ?_)
    obtain ⟨M_32, hM_32⟩ : ∃ z : ti_M, z = uY M_24 60 42 (upd (tY M_24 60 42) (x_27 : Int32).toNatClampNeg x_31) := ⟨_, rfl⟩
    have hw := hw.to hM_32.symm
    have iM_32 : mI Tm M_32 := mI_up (i := x_27.toNatClampNeg) iM_24 hM_32 trivial
    have hs_33 : qR (tx 4).toNat 1 (pp_su g_26 (176 + x_5.toInt.toNat) x_31.toInt) M_32 := qR_42 (m := x_5.toInt.toNat) (z := x_27) hs_25 (by omega) rfl hM_32 (by omega) (by omega)
    obtain ⟨g_34, eg_34⟩ : ∃ z : Nat → Int, z = pp_su g_26 (176 + x_5.toInt.toNat) x_31.toInt := ⟨_, rfl⟩
    rw [← eg_34] at hs_33
    have E_35 : bq_pr tx rg = g_34 := by unfold bq_pr; rw [if_neg (by omega), EN, L_6, show rg 4 = x_19.toInt by omega, show rg (176 + x_5.toInt.toNat) = x_28.toInt by omega, ← tx_23, ← tx_31, ← eg_26, ← eg_34]
    exact hQ _ _ _ _ _ hw (⟨(eR.trans (eR_Y hM_32 (bk_m (z := x_27) (by omega) (by decide))) (eR_Y hM_24 (bk_q (z := 1) (by decide) (by decide)))), (((tY_nE hM_32 (nk (by decide))).trans (tY_nE hM_24 (nk (by decide))))), (by rw [E_35]; exact hs_33), iM_32, (qw.trans (qw_Y hM_32 (by decide)) (qw_Y hM_24 (by decide))), (((tY_nE hM_32 (nk (by decide))).trans (tY_nE hM_24 (nk (by decide)))))⟩) dX10_pour_106
  · exact hQ _ _ _ _ _ hw (⟨eR.refl, rfl, (by unfold bq_pr; rw [if_pos (by omega)]; exact hr), hI, qw.refl, rfl⟩) dX10_pour_9

variable {Tc : gC} {Tm : gM}
set_option maxHeartbeats 4000000 in
set_option maxRecDepth 100000 in
theorem z_X3_put (l : Launch) (D : va_G) (A : Nat → Nat → Nat) (cy : Nat → ClassId) (hJ : ti_inj ti_LT A) (M : ti_M) (hI : cI Tc M) (a : Int64) (b1 b2 b3 : Int32) (hb : b1.toInt ≤ b2.toInt) : ti_Ki l yX3_put cX3_put 5 (some .int) 1 ti_LT D A cy M [.long a, .int b1, .int b2, .int b3] (fun r M2 => M2 = M ∧ r.toInt = bq_pt a.toInt b1.toInt b2.toInt b3.toInt) := by
  refine ti_eI yp_X3_put hJ ti_LT_nd (Nat.le_of_ble_eq_true rfl) ?_
  intro p e s m args below meth c Q H0 C hQ hw ls hl
  have hx := C.1
  have hb := C.2.1
  have hl : lv_has ls 5 [(0, .long a), (2, .int b1), (3, .int b2), (4, .int b3)] := hl
  have er : bl_ER = -9223372036854775808 := rfl
  refine lv_lload_n hx hb dX3_put_0 rfl (lv_at hl 0 rfl) ?_
  refine lv_ldc2 (v := (-9223372036854775808)) hx hb C.2.2.2.1 (C.2.2.1 _ cn_X3_108) dX3_put_1 ?_
  have z_1 : ((-9223372036854775808) : Int64).toInt = -9223372036854775808 := by decide
  refine W.lcmp hx hb dX3_put_4 ?_
  refine lv_topi (fun x_2 ex_2 => ?_)
  have cx_2 := lg_c ex_2
  refine sb_if_ne (tgt := 11) hx hb rfl dX3_put_5 (by decide) (fun c_5_2 => ?_) (fun c_5_2 => ?_)
  · refine lv_iload_n hx hb dX3_put_11 rfl (lv_at hl 1 rfl) ?_
    obtain ⟨x_4, ex_4⟩ : ∃ z : Int64, z = b1.toInt64 := ⟨_, rfl⟩
    refine lv_i2l (v := x_4) hx hb dX3_put_12 ex_4.symm ?_
    have tx_4 : x_4.toInt = b1.toInt := by rw [ex_4, Int32.toInt_toInt64]
    have lox_4 := (b1 : Int32).le_toInt
    have hix_4 := (b1 : Int32).toInt_lt
    refine lv_iload_n hx hb dX3_put_13 rfl (lv_at hl 2 rfl) ?_
    obtain ⟨x_5, ex_5⟩ : ∃ z : Int64, z = b2.toInt64 := ⟨_, rfl⟩
    refine lv_i2l (v := x_5) hx hb dX3_put_14 ex_5.symm ?_
    have tx_5 : x_5.toInt = b2.toInt := by rw [ex_5, Int32.toInt_toInt64]
    have lox_5 := (b2 : Int32).le_toInt
    have hix_5 := (b2 : Int32).toInt_lt
    refine lv_lload_n hx hb dX3_put_15 rfl (lv_at hl 0 rfl) ?_
    refine ti_minl C ml_X3_110 hl.1 (by decide) (Nat.le_of_ble_eq_true rfl) ⟨Nat.zero_le _, Nat.zero_le _⟩ dX3_put_16 ?_
    refine lv_topl (fun x_6 ex_6 => ?_)
    have mx_6 := l_min ex_6
    refine ti_maxl C ml_X3_116 hl.1 (by decide) (Nat.le_of_ble_eq_true rfl) ⟨Nat.zero_le _, Nat.zero_le _⟩ dX3_put_19 ?_
    refine lv_topl (fun x_7 ex_7 => ?_)
    have mx_7 := l_max ex_7
    obtain ⟨x_8, ex_8⟩ : ∃ z : Int32, z = (x_7 : Int64).toInt32 := ⟨_, rfl⟩
    refine lv_l2i (v := x_8) hx hb dX3_put_22 ex_8.symm ?_
    exact hQ _ _ _ _ _ _ hw rfl (⟨rfl, (by have q := l_2i ex_8 (by omega) (by omega); rw [q]; unfold bq_pt; rw [if_neg (by omega)]; (repeat' split) <;> omega)⟩) dX3_put_23
  · refine lv_iload hx hb dX3_put_8 (lv_at hl 3 rfl) ?_
    exact hQ _ _ _ _ _ _ hw rfl (⟨rfl, (by unfold bq_pt; rw [if_pos (by omega)])⟩) dX3_put_10
set_option maxHeartbeats 4000000 in
set_option maxRecDepth 100000 in
theorem z_X3_need (l : Launch) (D : va_G) (A : Nat → Nat → Nat) (cy : Nat → ClassId) (hJ : ti_inj ti_LT A) (M : ti_M) (hI : cI Tc M) (q t : Nat) (hq : ti_ob ti_LT q 3) (ht : t = 3 ∨ t = 4) (hT : tT M q 0 = some t) (tx rg : Nat → Int) (htx : tC t tx M) (hs : qC q rg M) : ti_Ki l yX3_need cX3_need 1 (some .int) 2 ti_LT D A cy M [.ref (A q 0)] (fun r M2 => cI Tc M2 ∧ M2.2.2.2 = M.2.2.2 ∧ M2.1 = M.1 ∧ M2.2.1 = M.2.1 ∧ r.toInt = bq_nd tx rg) := by
  refine ti_eI yp_X3_need hJ ti_LT_nd (Nat.le_of_ble_eq_true rfl) ?_
  intro p e s m args below meth c Q H0 C hQ hw ls hl
  have hx := C.1
  have hb := C.2.1
  have hl : lv_has ls 1 [(0, .ref (A q 0))] := hl
  refine lv_aload_n hx hb dX3_need_0 rfl (lv_at hl 0 rfl) ?_
  refine ti_get (ci := 3) (k := 0) (N := 17) (T := TX3) (v := .ref (A t 0)) C hw iw_3 rfl hq (by decide) (by decide) fl_X3_45 rfl (ti_Tv (hT)) dX3_need_1 ?_
  refine ti_get (ci := 8) (k := 2) (N := 12) (T := TX8) (v := .ref (A t 3)) C hw iw_8 rfl (ob_t ht) (by decide) (by decide) fl_X3_119 rfl rfl dX3_need_4 ?_
  refine lv_iconst (v := 2) hx hb dX3_need_7 (by decide) ?_
  refine ti_aald (ci := 8) (k := 2) (n := 3) (t0 := 4) (Cn := RX1) (gg := (ti_laws t)) (j := 2) C hw (ob_t ht) (by decide) (fun _ _ => rfl) rfl (by unfold vp_in; decide) (by decide) dX3_need_8 ?_
  have ob_1 : ti_ob ti_LT (ti_laws t 2) 1 := ob_l ht (by decide)
  refine lv_aload_n hx hb dX3_need_9 rfl (lv_at hl 0 rfl) ?_
  refine lv_iconst (v := 0) hx hb dX3_need_10 (by decide) ?_
  refine lv_aload_n hx hb dX3_need_11 rfl (lv_at hl 0 rfl) ?_
  refine ti_get (ci := 3) (k := 3) (N := 17) (T := TX3) C hw iw_3 rfl hq (by decide) (by decide) fl_X3_56 rfl rfl dX3_need_12 ?_
  refine lv_topi (fun x_2 ex_2 => ?_)
  have bx_2 : 0 ≤ x_2.toInt ∧ x_2.toInt ≤ 8 := cI_rd hI hq.1 ex_2
  have ux_2 : (tI M q 3).toInt = x_2.toInt := by rw [ex_2]
  have L_3 : rg 3 = x_2.toInt := ((hs.1 3 (by decide) (by decide)).trans (congrArg Int32.toInt (ex_2.symm))).trans rfl
  refine ti_callVl (ci := 1) (av := [.ref (A q 0), .int 0, .int x_2]) C hw (z_X1_value l D A cy hJ M hI (ti_laws t 2) q t ob_1 hq ht (hT) 0 x_2 (fun n => tx (400 + 64 * 2 + n)) (tx (300 + 2)) (fun n hn => (htx.2.2.2 2 (by decide)).2 n hn) ((htx.2.2.2 2 (by decide)).1) tx rg htx hs) ⟨ml_X3_123, ym_X1_value, yv_X1_value, yi_X1_value, yc_X1_value⟩ yd_X1_value ob_1 (by decide) rfl rfl hl.1 (Nat.le_of_ble_eq_true rfl) ⟨by decide, by decide⟩ ⟨Nat.zero_le _, Nat.zero_le _⟩ dX3_need_15 (fun r_4 M_5 H locs hp_5 hw => ?_)
  obtain ⟨iM_5, q_6, q_7, q_8, ppr_4⟩ := hp_5
  have pr_4 : r_4.toInt = bq_lv tx rg 2 ((0 : Int32).toInt) x_2.toInt := ppr_4
  simp only [show (0 : Int32).toInt = 0 by decide] at pr_4
  have hs_9 : qC q rg M_5 := qC_of hs q_7 q_8
  refine lv_iconst (v := 1) hx hb dX3_need_18 (by decide) ?_
  refine lv_bipush (v := 9) hx hb dX3_need_19 (by decide) ?_
  refine lv_aload_n hx hb dX3_need_21 rfl (lv_at hl 0 rfl) ?_
  refine ti_get (ci := 3) (k := 3) (N := 17) (T := TX3) C hw iw_3 rfl hq (by decide) (by decide) fl_X3_56 rfl rfl dX3_need_22 ?_
  refine ti_top (y := x_2) ((tI_fr q_7).trans ex_2.symm) ?_
  have u_10 : (tI M_5 q 3).toInt = (x_2 : Int32).toInt := by rw [((tI_fr q_7).trans ex_2.symm)]
  have L_11 : rg 3 = x_2.toInt := ((hs_9.1 3 (by decide) (by decide)).trans (congrArg Int32.toInt ((tI_fr q_7).trans ex_2.symm))).trans rfl
  refine lv_iconst (v := 1) hx hb dX3_need_25 (by decide) ?_
  refine lv_iadd hx hb dX3_need_26 ?_
  refine lv_topi (fun x_12 ex_12 => ?_)
  have tx_12 : x_12.toInt = x_2.toInt + 1 := i_add ex_12 rfl (by decide : (1 : Int32).toInt = 1) (by omega) (by omega)
  refine lv_iconst (v := 2) hx hb dX3_need_27 (by decide) ?_
  refine lv_idiv hx hb dX3_need_28 (by decide) ?_
  refine lv_topi (fun x_13 ex_13 => ?_)
  have dx_13 : x_13.toInt = x_12.toInt / 2 := i_div2 ex_13 rfl (by omega)
  refine ti_callSi (av := [.long r_4, .int 1, .int 9, .int x_13]) C hw (z_X3_put l D A cy hJ M_5 iM_5 r_4 1 9 x_13 (by first | decide | omega)) ⟨ml_X3_127, ys_X3_put, yi_X3_put, yc_X3_put⟩ yd_X3_put rfl hl.1 (Nat.le_of_ble_eq_true rfl) ⟨by decide, by decide⟩ ⟨Nat.zero_le _, Nat.zero_le _⟩ dX3_need_29 (fun r_14 M_15 H locs hp_15 hw => ?_)
  obtain ⟨hm, pr_14⟩ := hp_15
  have hw := hw.to hm
  try simp only [show (1 : Int32).toInt = 1 by decide] at pr_14
  try simp only [show (9 : Int32).toInt = 9 by decide] at pr_14
  exact hQ _ _ _ _ _ _ hw rfl (⟨iM_5, (q_6), (q_7), (q_8), (by rw [pr_14, pr_4]; unfold bq_nd; rw [show rg 3 = x_2.toInt by omega, show (x_2.toInt + 1) / 2 = x_13.toInt by omega])⟩) dX3_need_32
set_option maxHeartbeats 4000000 in
set_option maxRecDepth 100000 in
theorem z_X3_isGuarded (l : Launch) (D : va_G) (A : Nat → Nat → Nat) (cy : Nat → ClassId) (hJ : ti_inj ti_LT A) (M : ti_M) (hI : cI Tc M) (q t : Nat) (hq : ti_ob ti_LT q 3) (ht : t = 3 ∨ t = 4) (hT : tT M q 0 = some t) (tx rg : Nat → Int) (htx : tC t tx M) (hs : qC q rg M) : ti_Ki l yX3_isGuarded cX3_isGuarded 1 (some .boolean) 0 ti_LT D A cy M [.ref (A q 0)] (fun r M2 => M2 = M ∧ ((r = 1 ∧ (1 < rg 3 ∧ tx (100 + 16 * (rg 97).toNat + 9) = rg 96)) ∨ (r = 0 ∧ ¬ (1 < rg 3 ∧ tx (100 + 16 * (rg 97).toNat + 9) = rg 96)))) := by
  refine ti_eI yp_X3_isGuarded hJ ti_LT_nd (Nat.le_of_ble_eq_true rfl) ?_
  intro p e s m args below meth c Q H0 C hQ hw ls hl
  have hx := C.1
  have hb := C.2.1
  have hl : lv_has ls 1 [(0, .ref (A q 0))] := hl
  refine lv_aload_n hx hb dX3_isGuarded_0 rfl (lv_at hl 0 rfl) ?_
  refine ti_get (ci := 3) (k := 3) (N := 17) (T := TX3) C hw iw_3 rfl hq (by decide) (by decide) fl_X3_56 rfl rfl dX3_isGuarded_1 ?_
  refine lv_topi (fun x_1 ex_1 => ?_)
  have bx_1 : 0 ≤ x_1.toInt ∧ x_1.toInt ≤ 8 := cI_rd hI hq.1 ex_1
  have ux_1 : (tI M q 3).toInt = x_1.toInt := by rw [ex_1]
  have L_2 : rg 3 = x_1.toInt := ((hs.1 3 (by decide) (by decide)).trans (congrArg Int32.toInt (ex_1.symm))).trans rfl
  refine lv_iconst (v := 1) hx hb dX3_isGuarded_4 (by decide) ?_
  refine sb_icmp_le (tgt := 38) hx hb rfl (by decide : (1 : Int32).toInt = 1) dX3_isGuarded_5 (by decide) (fun c_5_2 => ?_) (fun c_5_2 => ?_)
  · refine lv_iconst (v := 0) hx hb dX3_isGuarded_38 (by decide) ?_
    exact hQ _ _ _ _ _ _ hw rfl (⟨rfl, Or.inr ⟨rfl, (by omega)⟩⟩) dX3_isGuarded_39
  · refine lv_aload_n hx hb dX3_isGuarded_8 rfl (lv_at hl 0 rfl) ?_
    refine ti_get (ci := 3) (k := 0) (N := 17) (T := TX3) (v := .ref (A t 0)) C hw iw_3 rfl hq (by decide) (by decide) fl_X3_45 rfl (ti_Tv (hT)) dX3_isGuarded_9 ?_
    refine ti_get (ci := 8) (k := 0) (N := 12) (T := TX8) (v := .ref (A t 1)) C hw iw_8 rfl (ob_t ht) (by decide) (by decide) fl_X3_81 rfl rfl dX3_isGuarded_12 ?_
    refine lv_aload_n hx hb dX3_isGuarded_15 rfl (lv_at hl 0 rfl) ?_
    refine ti_get (ci := 3) (k := 6) (N := 17) (T := TX3) (v := .ref (A q 7)) C hw iw_3 rfl hq (by decide) (by decide) fl_X3_9 rfl rfl dX3_isGuarded_16 ?_
    refine lv_iconst (v := 1) hx hb dX3_isGuarded_19 (by decide) ?_
    refine ti_iald (ci := 3) (k := 6) (n := 8) C hw hq (by decide) (fun _ _ => rfl) (by unfold vp_in; decide) dX3_isGuarded_20 ?_
    refine lv_topi (fun x_4 ex_4 => ?_)
    have bx_4 : 0 ≤ x_4.toInt ∧ x_4.toInt ≤ 7 := cI_ry hI hq.1 ex_4
    have L_5 : rg 97 = x_4.toInt := (hs.2 6 1 (by decide) (by decide) (by decide) (by decide)).trans (congrArg Int32.toInt ex_4.symm)
    refine ti_aald (ci := 8) (k := 0) (n := 8) (t0 := 5) (Cn := RX2) (gg := (ti_men t)) (j := x_4.toNatClampNeg) C hw (ob_t ht) (by decide) (fun _ _ => rfl) rfl (vp_in_iff.mpr (by omega)) rfl dX3_isGuarded_21 ?_
    have ob_6 : ti_ob ti_LT (ti_men t x_4.toNatClampNeg) 2 := ob_m ht (i_nt rfl (by omega) (by omega))
    refine ti_get (ci := 2) (k := 9) (N := 10) (T := TX2) C hw iw_2 rfl ob_6 (by decide) (by decide) fl_X3_131 rfl rfl dX3_isGuarded_22 ?_
    refine lv_topi (fun x_7 ex_7 => ?_)
    have L_8 : tx (100 + 16 * x_4.toInt.toNat + 9) = x_7.toInt := (((show tx (100 + 16 * x_4.toInt.toNat + 9) = _ from by rw [← (show x_4.toNatClampNeg = x_4.toInt.toNat from congrArg Int.toNat rfl)]; exact htx.2.2.1 x_4.toNatClampNeg 9 (i_nt (n := 8) rfl (by omega) (by omega)) (by decide) (by decide))).trans (congrArg Int32.toInt (ex_7.symm))).trans rfl
    refine lv_aload_n hx hb dX3_isGuarded_25 rfl (lv_at hl 0 rfl) ?_
    refine ti_get (ci := 3) (k := 6) (N := 17) (T := TX3) (v := .ref (A q 7)) C hw iw_3 rfl hq (by decide) (by decide) fl_X3_9 rfl rfl dX3_isGuarded_26 ?_
    refine lv_iconst (v := 0) hx hb dX3_isGuarded_29 (by decide) ?_
    refine ti_iald (ci := 3) (k := 6) (n := 8) C hw hq (by decide) (fun _ _ => rfl) (by unfold vp_in; decide) dX3_isGuarded_30 ?_
    refine lv_topi (fun x_9 ex_9 => ?_)
    have bx_9 : 0 ≤ x_9.toInt ∧ x_9.toInt ≤ 7 := cI_ry hI hq.1 ex_9
    have L_10 : rg 96 = x_9.toInt := (hs.2 6 0 (by decide) (by decide) (by decide) (by decide)).trans (congrArg Int32.toInt ex_9.symm)
    refine sb_icmp_ne (tgt := 38) hx hb rfl rfl dX3_isGuarded_31 (by decide) (fun c_31_10 => ?_) (fun c_31_10 => ?_)
    · refine lv_iconst (v := 0) hx hb dX3_isGuarded_38 (by decide) ?_
      exact hQ _ _ _ _ _ _ hw rfl (⟨rfl, Or.inr ⟨rfl, (by rw [L_5]; omega)⟩⟩) dX3_isGuarded_39
    · refine lv_iconst (v := 1) hx hb dX3_isGuarded_34 (by decide) ?_
      refine lv_goto (tgt := 39) hx hb dX3_isGuarded_35 (by decide) ?_
      exact hQ _ _ _ _ _ _ hw rfl (⟨rfl, Or.inl ⟨rfl, (by rw [L_5]; omega)⟩⟩) dX3_isGuarded_39
set_option maxHeartbeats 4000000 in
set_option maxRecDepth 100000 in
theorem z_X3_lastHeard (l : Launch) (D : va_G) (A : Nat → Nat → Nat) (cy : Nat → ClassId) (hJ : ti_inj ti_LT A) (M : ti_M) (hI : cI Tc M) (q t : Nat) (hq : ti_ob ti_LT q 3) (ht : t = 3 ∨ t = 4) (hT : tT M q 0 = some t) (tx rg : Nat → Int) (htx : tC t tx M) (hs : qC q rg M) : ti_Ki l yX3_lastHeard cX3_lastHeard 1 (some .int) 1 ti_LT D A cy M [.ref (A q 0)] (fun r M2 => M2 = M ∧ r.toInt ≤ 7 ∧ r.toInt = bq_lh tx rg) := by
  refine ti_eI yp_X3_lastHeard hJ ti_LT_nd (Nat.le_of_ble_eq_true rfl) ?_
  intro p e s m args below meth c Q H0 C hQ hw ls hl
  have hx := C.1
  have hb := C.2.1
  have hl : lv_has ls 1 [(0, .ref (A q 0))] := hl
  refine lv_aload_n hx hb dX3_lastHeard_0 rfl (lv_at hl 0 rfl) ?_
  refine ti_get (ci := 3) (k := 0) (N := 17) (T := TX3) (v := .ref (A t 0)) C hw iw_3 rfl hq (by decide) (by decide) fl_X3_45 rfl (ti_Tv (hT)) dX3_lastHeard_1 ?_
  refine ti_get (ci := 8) (k := 9) (N := 12) (T := TX8) C hw iw_8 rfl (ob_t ht) (by decide) (by decide) fl_X3_134 rfl rfl dX3_lastHeard_4 ?_
  refine lv_topi (fun x_1 ex_1 => ?_)
  have L_2 : tx 9 = x_1.toInt := ((htx.1 9 (by decide) (by decide)).trans (congrArg Int32.toInt (ex_1.symm))).trans rfl
  refine lv_aload_n hx hb dX3_lastHeard_7 rfl (lv_at hl 0 rfl) ?_
  refine ti_get (ci := 3) (k := 3) (N := 17) (T := TX3) C hw iw_3 rfl hq (by decide) (by decide) fl_X3_56 rfl rfl dX3_lastHeard_8 ?_
  refine lv_topi (fun x_3 ex_3 => ?_)
  have bx_3 : 0 ≤ x_3.toInt ∧ x_3.toInt ≤ 8 := cI_rd hI hq.1 ex_3
  have ux_3 : (tI M q 3).toInt = x_3.toInt := by rw [ex_3]
  have L_4 : rg 3 = x_3.toInt := ((hs.1 3 (by decide) (by decide)).trans (congrArg Int32.toInt (ex_3.symm))).trans rfl
  refine lv_iconst (v := 1) hx hb dX3_lastHeard_11 (by decide) ?_
  refine lv_isub hx hb dX3_lastHeard_12 ?_
  refine lv_topi (fun x_5 ex_5 => ?_)
  have tx_5 : x_5.toInt = x_3.toInt - 1 := i_sub ex_5 rfl (by decide : (1 : Int32).toInt = 1) (by omega) (by omega)
  refine ti_min C ml_X3_137 hl.1 (by decide) (Nat.le_of_ble_eq_true rfl) ⟨Nat.zero_le _, Nat.zero_le _⟩ dX3_lastHeard_13 ?_
  refine lv_topi (fun x_6 ex_6 => ?_)
  have bx_6 := i_min ex_6 rfl rfl
  exact hQ _ _ _ _ _ _ hw rfl (⟨rfl, by omega, (by unfold bq_lh bq_mn; split <;> omega)⟩) dX3_lastHeard_16
set_option maxHeartbeats 4000000 in
set_option maxRecDepth 100000 in
theorem z_X3_is (l : Launch) (D : va_G) (A : Nat → Nat → Nat) (cy : Nat → ClassId) (hJ : ti_inj ti_LT A) (M : ti_M) (hI : cI Tc M) (q : Nat) (hq : ti_ob ti_LT q 3) (bt : Int32) (rg : Nat → Int) (hs : qC q rg M) (hm : rg 1 = 0 ∨ rg 1 = 1 ∨ rg 1 = 3) (hb0 : bt = 1 ∨ bt = 2 ∨ bt = 4 ∨ bt = 8 ∨ bt = 16 ∨ bt = 32) : ti_Ki l yX3_is cX3_is 2 (some .boolean) 0 ti_LT D A cy M [.ref (A q 0), .int bt] (fun r M2 => M2 = M ∧ ((r = 1 ∧ ((bt.toInt = 1 ∧ rg 1 ≠ 0) ∨ (bt.toInt = 2 ∧ rg 1 = 3))) ∨ (r = 0 ∧ ((bt.toInt = 1 ∧ rg 1 = 0) ∨ (bt.toInt = 2 ∧ rg 1 ≠ 3) ∨ 2 < bt.toInt)))) := by
  refine ti_eI yp_X3_is hJ ti_LT_nd (Nat.le_of_ble_eq_true rfl) ?_
  intro p e s m args below meth c Q H0 C hQ hw ls hl
  have hx := C.1
  have hb := C.2.1
  have hl : lv_has ls 2 [(0, .ref (A q 0)), (1, .int bt)] := hl
  refine lv_aload_n hx hb dX3_is_0 rfl (lv_at hl 0 rfl) ?_
  refine ti_get (ci := 3) (k := 1) (N := 17) (T := TX3) C hw iw_3 rfl hq (by decide) (by decide) fl_X3_49 rfl rfl dX3_is_1 ?_
  refine lv_topi (fun x_1 ex_1 => ?_)
  have L_2 : rg 1 = x_1.toInt := ((hs.1 1 (by decide) (by decide)).trans (congrArg Int32.toInt (ex_1.symm))).trans rfl
  refine lv_iload_n hx hb dX3_is_4 rfl (lv_at hl 1 rfl) ?_
  refine lv_iand hx hb dX3_is_5 ?_
  refine lv_topi (fun x_3 ex_3 => ?_)
  have ib := is_b ex_3 (by omega) hb0
  refine sb_if_eq (tgt := 13) hx hb rfl dX3_is_6 (by decide) (fun c_6_3 => ?_) (fun c_6_3 => ?_)
  · refine lv_iconst (v := 0) hx hb dX3_is_13 (by decide) ?_
    exact hQ _ _ _ _ _ _ hw rfl (⟨rfl, Or.inr ⟨rfl, by omega⟩⟩) dX3_is_14
  · refine lv_iconst (v := 1) hx hb dX3_is_9 (by decide) ?_
    refine lv_goto (tgt := 14) hx hb dX3_is_10 (by decide) ?_
    exact hQ _ _ _ _ _ _ hw rfl (⟨rfl, Or.inl ⟨rfl, by omega⟩⟩) dX3_is_14
set_option maxHeartbeats 4000000 in
set_option maxRecDepth 100000 in
theorem z_X3_joinsAhead (l : Launch) (D : va_G) (A : Nat → Nat → Nat) (cy : Nat → ClassId) (hJ : ti_inj ti_LT A) (M : ti_M) (hI : cI Tc M) (m1 m2 : Nat) (h1 : ti_ob ti_LT m1 2) (h2 : ti_ob ti_LT m2 2) : ti_Ki l yX3_joinsAhead cX3_joinsAhead 2 (some .boolean) 0 ti_LT D A cy M [.ref (A m1 0), .ref (A m2 0)] (fun r M2 => M2 = M ∧ ((r = 1 ∧ ((tI M m1 2).toInt < (tI M m2 2).toInt ∨ ((tI M m1 2).toInt = (tI M m2 2).toInt ∧ (tI M m2 1).toInt < (tI M m1 1).toInt))) ∨ (r = 0 ∧ ¬ ((tI M m1 2).toInt < (tI M m2 2).toInt ∨ ((tI M m1 2).toInt = (tI M m2 2).toInt ∧ (tI M m2 1).toInt < (tI M m1 1).toInt))))) := by
  refine ti_eI yp_X3_joinsAhead hJ ti_LT_nd (Nat.le_of_ble_eq_true rfl) ?_
  intro p e s m args below meth c Q H0 C hQ hw ls hl
  have hx := C.1
  have hb := C.2.1
  have hl : lv_has ls 2 [(0, .ref (A m1 0)), (1, .ref (A m2 0))] := hl
  refine lv_aload_n hx hb dX3_joinsAhead_0 rfl (lv_at hl 0 rfl) ?_
  refine ti_get (ci := 2) (k := 2) (N := 10) (T := TX2) C hw iw_2 rfl h1 (by decide) (by decide) fl_X3_176 rfl rfl dX3_joinsAhead_1 ?_
  refine lv_topi (fun x_1 ex_1 => ?_)
  have u_2 : (tI M m1 2).toInt = x_1.toInt := by rw [ex_1]
  refine lv_aload_n hx hb dX3_joinsAhead_4 rfl (lv_at hl 1 rfl) ?_
  refine ti_get (ci := 2) (k := 2) (N := 10) (T := TX2) C hw iw_2 rfl h2 (by decide) (by decide) fl_X3_176 rfl rfl dX3_joinsAhead_5 ?_
  refine lv_topi (fun x_3 ex_3 => ?_)
  have u_4 : (tI M m2 2).toInt = x_3.toInt := by rw [ex_3]
  refine sb_icmp_lt (tgt := 33) hx hb rfl rfl dX3_joinsAhead_8 (by decide) (fun c_8_4 => ?_) (fun c_8_4 => ?_)
  · refine lv_iconst (v := 1) hx hb dX3_joinsAhead_33 (by decide) ?_
    refine lv_goto (tgt := 38) hx hb dX3_joinsAhead_34 (by decide) ?_
    exact hQ _ _ _ _ _ _ hw rfl (⟨rfl, Or.inl ⟨rfl, by omega⟩⟩) dX3_joinsAhead_38
  · refine lv_aload_n hx hb dX3_joinsAhead_11 rfl (lv_at hl 0 rfl) ?_
    refine ti_get (ci := 2) (k := 2) (N := 10) (T := TX2) C hw iw_2 rfl h1 (by decide) (by decide) fl_X3_176 rfl rfl dX3_joinsAhead_12 ?_
    refine ti_top (y := x_1) (ex_1.symm) ?_
    refine lv_aload_n hx hb dX3_joinsAhead_15 rfl (lv_at hl 1 rfl) ?_
    refine ti_get (ci := 2) (k := 2) (N := 10) (T := TX2) C hw iw_2 rfl h2 (by decide) (by decide) fl_X3_176 rfl rfl dX3_joinsAhead_16 ?_
    refine ti_top (y := x_3) (ex_3.symm) ?_
    refine sb_icmp_ne (tgt := 37) hx hb rfl rfl dX3_joinsAhead_19 (by decide) (fun c_19_5 => ?_) (fun c_19_5 => ?_)
    · refine lv_iconst (v := 0) hx hb dX3_joinsAhead_37 (by decide) ?_
      exact hQ _ _ _ _ _ _ hw rfl (⟨rfl, Or.inr ⟨rfl, by omega⟩⟩) dX3_joinsAhead_38
    · refine lv_aload_n hx hb dX3_joinsAhead_22 rfl (lv_at hl 0 rfl) ?_
      refine ti_get (ci := 2) (k := 1) (N := 10) (T := TX2) C hw iw_2 rfl h1 (by decide) (by decide) fl_X3_179 rfl rfl dX3_joinsAhead_23 ?_
      refine lv_topi (fun x_7 ex_7 => ?_)
      have u_8 : (tI M m1 1).toInt = x_7.toInt := by rw [ex_7]
      refine lv_aload_n hx hb dX3_joinsAhead_26 rfl (lv_at hl 1 rfl) ?_
      refine ti_get (ci := 2) (k := 1) (N := 10) (T := TX2) C hw iw_2 rfl h2 (by decide) (by decide) fl_X3_179 rfl rfl dX3_joinsAhead_27 ?_
      refine lv_topi (fun x_9 ex_9 => ?_)
      have u_10 : (tI M m2 1).toInt = x_9.toInt := by rw [ex_9]
      refine sb_icmp_le (tgt := 37) hx hb rfl rfl dX3_joinsAhead_30 (by decide) (fun c_30_10 => ?_) (fun c_30_10 => ?_)
      · refine lv_iconst (v := 0) hx hb dX3_joinsAhead_37 (by decide) ?_
        exact hQ _ _ _ _ _ _ hw rfl (⟨rfl, Or.inr ⟨rfl, by omega⟩⟩) dX3_joinsAhead_38
      · refine lv_iconst (v := 1) hx hb dX3_joinsAhead_33 (by decide) ?_
        refine lv_goto (tgt := 38) hx hb dX3_joinsAhead_34 (by decide) ?_
        exact hQ _ _ _ _ _ _ hw rfl (⟨rfl, Or.inl ⟨rfl, by omega⟩⟩) dX3_joinsAhead_38
set_option maxHeartbeats 4000000 in
set_option maxRecDepth 100000 in
theorem z_X3_nextToJoin (l : Launch) (D : va_G) (A : Nat → Nat → Nat) (cy : Nat → ClassId) (hJ : ti_inj ti_LT A) (M : ti_M) (hI : cI Tc M) (q t : Nat) (hq : ti_ob ti_LT q 3) (ht : t = 3 ∨ t = 4) (hT : tT M q 0 = some t) (tx rg : Nat → Int) (htx : tC t tx M) (hs : qC q rg M) : ti_Ki l yX3_nextToJoin cX3_nextToJoin 3 (some .int) 1 ti_LT D A cy M [.ref (A q 0)] (fun r M2 => M2 = M ∧ (-1) ≤ r.toInt ∧ r.toInt ≤ 7 ∧ r.toInt = bq_nx tx rg) := by
  refine ti_eI yp_X3_nextToJoin hJ ti_LT_nd (Nat.le_of_ble_eq_true rfl) ?_
  intro p e s m args below meth c Q H0 C hQ hw ls hl
  have hx := C.1
  have hb := C.2.1
  have hl : lv_has ls 3 [(0, .ref (A q 0))] := hl
  refine lv_iconst (v := (-1)) hx hb dX3_nextToJoin_0 (by decide) ?_
  refine lv_istore_n (lv' := [(1, .int (-1)), (0, .ref (A q 0))]) hx hb dX3_nextToJoin_1 rfl hl (by decide) rfl (fun ls hl => ?_)
  refine lv_iconst (v := 0) hx hb dX3_nextToJoin_2 (by decide) ?_
  refine lv_istore_n (lv' := [(2, .int 0), (1, .int (-1)), (0, .ref (A q 0))]) hx hb dX3_nextToJoin_3 rfl hl (by decide) rfl (fun ls hl => ?_)
  have hl_4_7 : ∀ (n_8 : Nat) (x_1 : Int32) (x_4 : Int32) (H : Heap) (locs : List Loc) (ls : Array Slot), (8 - x_1.toInt : Int).toNat < n_8 → (0 ≤ x_1.toInt) → (x_1.toInt ≤ 8) → ((-1) ≤ x_4.toInt) → (x_4.toInt ≤ 7) → (bq_nf tx rg ((tx 4).toNat - (x_1.toInt).toNat) (x_1.toInt).toNat (x_4.toInt) = bq_nx tx rg) → ti_H ti_LT D A cy H0 M H locs → lv_has ls 3 [(2, .int x_1), (1, .int x_4), (0, .ref (A q 0))] → W p l e (ti_rm 1) s m args below meth c H locs 0 0 Q (F0 m 4 ls []) := by
    intro n_8
    induction n_8 with
    | zero => intro x_1 x_4 H locs ls hf_8; exact absurd hf_8 (Nat.not_lt_zero _)
    | succ n_8 ih_8 =>
      intro x_1 x_4 H locs ls hf_8 b_2 b_3 b_5 b_6 j_7 hw hl
      refine lv_iload_n hx hb dX3_nextToJoin_4 rfl (lv_at hl 0 rfl) ?_
      refine lv_aload_n hx hb dX3_nextToJoin_5 rfl (lv_at hl 2 rfl) ?_
      refine ti_get (ci := 3) (k := 0) (N := 17) (T := TX3) (v := .ref (A t 0)) C hw iw_3 rfl hq (by decide) (by decide) fl_X3_45 rfl (ti_Tv (hT)) dX3_nextToJoin_6 ?_
      refine ti_get (ci := 8) (k := 4) (N := 12) (T := TX8) C hw iw_8 rfl (ob_t ht) (by decide) (by decide) fl_X3_78 rfl rfl dX3_nextToJoin_9 ?_
      refine lv_topi (fun x_9 ex_9 => ?_)
      have bx_9 : 0 ≤ x_9.toInt ∧ x_9.toInt ≤ 8 := cI_rd hI (ob_t ht).1 ex_9
      have ux_9 : (tI M t 4).toInt = x_9.toInt := by rw [ex_9]
      have L_10 : tx 4 = x_9.toInt := ((htx.1 4 (by decide) (by decide)).trans (congrArg Int32.toInt (ex_9.symm))).trans rfl
      refine sb_icmp_ge (tgt := 74) hx hb rfl rfl dX3_nextToJoin_12 (by decide) (fun c_12_10 => ?_) (fun c_12_10 => ?_)
      · refine lv_iload_n hx hb dX3_nextToJoin_74 rfl (lv_at hl 1 rfl) ?_
        exact hQ _ _ _ _ _ _ hw rfl (⟨rfl, by omega, by omega, (by rw [← j_7, nf_end (by omega)])⟩) dX3_nextToJoin_75
      · refine lv_aload_n hx hb dX3_nextToJoin_15 rfl (lv_at hl 2 rfl) ?_
        refine ti_get (ci := 3) (k := 8) (N := 17) (T := TX3) (v := .ref (A q 9)) C hw iw_3 rfl hq (by decide) (by decide) fl_X3_18 rfl rfl dX3_nextToJoin_16 ?_
        refine lv_iload_n hx hb dX3_nextToJoin_19 rfl (lv_at hl 0 rfl) ?_
        refine ti_iald (ci := 3) (k := 8) (n := 8) C hw hq (by decide) (fun _ _ => rfl) (vp_in_iff.mpr (by omega)) dX3_nextToJoin_20 ?_
        refine lv_topi (fun x_12 ex_12 => ?_)
        have L_13 : rg (128 + x_1.toInt.toNat) = x_12.toInt := qC_y (k := 8) hs rfl (by omega) (by omega) (by decide) (by decide) ex_12
        refine sb_if_ne (tgt := 68) hx hb rfl dX3_nextToJoin_21 (by decide) (fun c_21_13 => ?_) (fun c_21_13 => ?_)
        · obtain ⟨x_32, ex_32⟩ : ∃ z : Int32, z = x_1 + 1 := ⟨_, rfl⟩
          have tx_32 : x_32.toInt = x_1.toInt + 1 := i_add ex_32 rfl (by decide) (by omega) (by omega)
          refine lv_iinc (v := x_32) (lv' := [(2, .int x_32), (1, .int x_4), (0, .ref (A q 0))]) hx hb dX3_nextToJoin_68 hl (k := 0) rfl (by rw [ex_32]; rfl) (by decide) rfl (fun ls hl => ?_)
          refine lv_goto (tgt := 4) hx hb dX3_nextToJoin_71 (by decide) ?_
          exact ih_8 x_32 x_4 _ _ _ (by omega) (by first | omega | decide) (by first | omega | decide) (by first | omega | decide) (by first | omega | decide) (by rw [← j_7, nf_go (tx := tx) (s := rg) (f := (tx 4).toNat - x_1.toInt.toNat) (f' := (tx 4).toNat - x_32.toInt.toNat) (m := x_1.toInt.toNat) (b := x_4.toInt) (by omega), if_neg (by omega), show x_32.toInt.toNat = x_1.toInt.toNat + 1 by omega]) hw (lv_sub hl [0, 1, 2] rfl)
        · refine lv_aload_n hx hb dX3_nextToJoin_24 rfl (lv_at hl 2 rfl) ?_
          refine ti_get (ci := 3) (k := 9) (N := 17) (T := TX3) (v := .ref (A q 10)) C hw iw_3 rfl hq (by decide) (by decide) fl_X3_21 rfl rfl dX3_nextToJoin_25 ?_
          refine lv_iload_n hx hb dX3_nextToJoin_28 rfl (lv_at hl 0 rfl) ?_
          refine ti_iald (ci := 3) (k := 9) (n := 8) C hw hq (by decide) (fun _ _ => rfl) (vp_in_iff.mpr (by omega)) dX3_nextToJoin_29 ?_
          refine lv_topi (fun x_15 ex_15 => ?_)
          have L_16 : rg (144 + x_1.toInt.toNat) = x_15.toInt := qC_y (k := 9) hs rfl (by omega) (by omega) (by decide) (by decide) ex_15
          refine lv_aload_n hx hb dX3_nextToJoin_30 rfl (lv_at hl 2 rfl) ?_
          refine ti_get (ci := 3) (k := 2) (N := 17) (T := TX3) C hw iw_3 rfl hq (by decide) (by decide) fl_X3_53 rfl rfl dX3_nextToJoin_31 ?_
          refine lv_topi (fun x_17 ex_17 => ?_)
          have L_18 : rg 2 = x_17.toInt := ((hs.1 2 (by decide) (by decide)).trans (congrArg Int32.toInt (ex_17.symm))).trans rfl
          refine sb_icmp_ne (tgt := 68) hx hb rfl rfl dX3_nextToJoin_34 (by decide) (fun c_34_18 => ?_) (fun c_34_18 => ?_)
          · obtain ⟨x_33, ex_33⟩ : ∃ z : Int32, z = x_1 + 1 := ⟨_, rfl⟩
            have tx_33 : x_33.toInt = x_1.toInt + 1 := i_add ex_33 rfl (by decide) (by omega) (by omega)
            refine lv_iinc (v := x_33) (lv' := [(2, .int x_33), (1, .int x_4), (0, .ref (A q 0))]) hx hb dX3_nextToJoin_68 hl (k := 0) rfl (by rw [ex_33]; rfl) (by decide) rfl (fun ls hl => ?_)
            refine lv_goto (tgt := 4) hx hb dX3_nextToJoin_71 (by decide) ?_
            exact ih_8 x_33 x_4 _ _ _ (by omega) (by first | omega | decide) (by first | omega | decide) (by first | omega | decide) (by first | omega | decide) (by rw [← j_7, nf_go (tx := tx) (s := rg) (f := (tx 4).toNat - x_1.toInt.toNat) (f' := (tx 4).toNat - x_33.toInt.toNat) (m := x_1.toInt.toNat) (b := x_4.toInt) (by omega), if_neg (by omega), show x_33.toInt.toNat = x_1.toInt.toNat + 1 by omega]) hw (lv_sub hl [0, 1, 2] rfl)
          · refine lv_iload_n hx hb dX3_nextToJoin_37 rfl (lv_at hl 1 rfl) ?_
            refine lv_iconst (v := (-1)) hx hb dX3_nextToJoin_38 (by decide) ?_
            refine sb_icmp_eq (tgt := 66) hx hb rfl (by decide : ((-1) : Int32).toInt = (-1)) dX3_nextToJoin_39 (by decide) (fun c_39_19 => ?_) (fun c_39_19 => ?_)
            · refine lv_iload_n hx hb dX3_nextToJoin_66 rfl (lv_at hl 0 rfl) ?_
              refine lv_istore_n (lv' := [(1, .int x_1), (2, .int x_1), (0, .ref (A q 0))]) hx hb dX3_nextToJoin_67 rfl hl (by decide) rfl (fun ls hl => ?_)
              obtain ⟨x_35, ex_35⟩ : ∃ z : Int32, z = x_1 + 1 := ⟨_, rfl⟩
              have tx_35 : x_35.toInt = x_1.toInt + 1 := i_add ex_35 rfl (by decide) (by omega) (by omega)
              refine lv_iinc (v := x_35) (lv' := [(2, .int x_35), (1, .int x_1), (0, .ref (A q 0))]) hx hb dX3_nextToJoin_68 hl (k := 1) rfl (by rw [ex_35]; rfl) (by decide) rfl (fun ls hl => ?_)
              refine lv_goto (tgt := 4) hx hb dX3_nextToJoin_71 (by decide) ?_
              exact ih_8 x_35 x_1 _ _ _ (by omega) (by first | omega | decide) (by first | omega | decide) (by first | omega | decide) (by first | omega | decide) (by rw [← j_7, nf_go (tx := tx) (s := rg) (f := (tx 4).toNat - x_1.toInt.toNat) (f' := (tx 4).toNat - x_35.toInt.toNat) (m := x_1.toInt.toNat) (b := x_4.toInt) (by omega), if_pos (by omega), show x_35.toInt.toNat = x_1.toInt.toNat + 1 by omega]; exact congrArg _ (by omega)) hw (lv_sub hl [0, 1, 2] rfl)
            · refine lv_aload_n hx hb dX3_nextToJoin_42 rfl (lv_at hl 2 rfl) ?_
              refine ti_get (ci := 3) (k := 0) (N := 17) (T := TX3) (v := .ref (A t 0)) C hw iw_3 rfl hq (by decide) (by decide) fl_X3_45 rfl (ti_Tv (hT)) dX3_nextToJoin_43 ?_
              refine ti_get (ci := 8) (k := 0) (N := 12) (T := TX8) (v := .ref (A t 1)) C hw iw_8 rfl (ob_t ht) (by decide) (by decide) fl_X3_81 rfl rfl dX3_nextToJoin_46 ?_
              refine lv_iload_n hx hb dX3_nextToJoin_49 rfl (lv_at hl 0 rfl) ?_
              refine ti_aald (ci := 8) (k := 0) (n := 8) (t0 := 5) (Cn := RX2) (gg := (ti_men t)) (j := x_1.toNatClampNeg) C hw (ob_t ht) (by decide) (fun _ _ => rfl) rfl (vp_in_iff.mpr (by omega)) rfl dX3_nextToJoin_50 ?_
              have ob_21 : ti_ob ti_LT (ti_men t x_1.toNatClampNeg) 2 := ob_m ht (i_nt rfl (by omega) (by omega))
              refine lv_aload_n hx hb dX3_nextToJoin_51 rfl (lv_at hl 2 rfl) ?_
              refine ti_get (ci := 3) (k := 0) (N := 17) (T := TX3) (v := .ref (A t 0)) C hw iw_3 rfl hq (by decide) (by decide) fl_X3_45 rfl (ti_Tv (hT)) dX3_nextToJoin_52 ?_
              refine ti_get (ci := 8) (k := 0) (N := 12) (T := TX8) (v := .ref (A t 1)) C hw iw_8 rfl (ob_t ht) (by decide) (by decide) fl_X3_81 rfl rfl dX3_nextToJoin_55 ?_
              refine lv_iload_n hx hb dX3_nextToJoin_58 rfl (lv_at hl 1 rfl) ?_
              refine ti_aald (ci := 8) (k := 0) (n := 8) (t0 := 5) (Cn := RX2) (gg := (ti_men t)) (j := x_4.toNatClampNeg) C hw (ob_t ht) (by decide) (fun _ _ => rfl) rfl (vp_in_iff.mpr (by omega)) rfl dX3_nextToJoin_59 ?_
              have ob_22 : ti_ob ti_LT (ti_men t x_4.toNatClampNeg) 2 := ob_m ht (i_nt rfl (by omega) (by omega))
              refine ti_callSi (av := [.ref (A (ti_men t x_1.toNatClampNeg) 0), .ref (A (ti_men t x_4.toNatClampNeg) 0)]) C hw (z_X3_joinsAhead l D A cy hJ M hI (ti_men t x_1.toNatClampNeg) (ti_men t x_4.toNatClampNeg) ob_21 ob_22) ⟨ml_X3_172, ys_X3_joinsAhead, yi_X3_joinsAhead, yc_X3_joinsAhead⟩ yd_X3_joinsAhead rfl hl.1 (Nat.le_of_ble_eq_true rfl) ⟨by decide, by decide⟩ ⟨Nat.zero_le _, Nat.zero_le _⟩ dX3_nextToJoin_60 (fun r_23 M_24 H locs hp_24 hw => ?_)
              have j_25 : tx (100 + 16 * x_1.toInt.toNat + 1) = (tI M (ti_men t x_1.toNatClampNeg) 1).toInt := by rw [← (show x_1.toNatClampNeg = x_1.toInt.toNat from congrArg Int.toNat rfl)]; exact htx.2.2.1 x_1.toNatClampNeg 1 (i_nt (n := 8) rfl (by omega) (by omega)) (by decide) (by decide)
              have j_26 : tx (100 + 16 * x_1.toInt.toNat + 2) = (tI M (ti_men t x_1.toNatClampNeg) 2).toInt := by rw [← (show x_1.toNatClampNeg = x_1.toInt.toNat from congrArg Int.toNat rfl)]; exact htx.2.2.1 x_1.toNatClampNeg 2 (i_nt (n := 8) rfl (by omega) (by omega)) (by decide) (by decide)
              have j_27 : tx (100 + 16 * x_4.toInt.toNat + 1) = (tI M (ti_men t x_4.toNatClampNeg) 1).toInt := by rw [← (show x_4.toNatClampNeg = x_4.toInt.toNat from congrArg Int.toNat rfl)]; exact htx.2.2.1 x_4.toNatClampNeg 1 (i_nt (n := 8) rfl (by omega) (by omega)) (by decide) (by decide)
              have j_28 : tx (100 + 16 * x_4.toInt.toNat + 2) = (tI M (ti_men t x_4.toNatClampNeg) 2).toInt := by rw [← (show x_4.toNatClampNeg = x_4.toInt.toNat from congrArg Int.toNat rfl)]; exact htx.2.2.1 x_4.toNatClampNeg 2 (i_nt (n := 8) rfl (by omega) (by omega)) (by decide) (by decide)
              obtain ⟨hm, hz⟩ := hp_24
              have hw := hw.to hm
              rcases hz with ⟨rfl, dg_29⟩ | ⟨rfl, dg_29⟩
              · refine sb_if_eq (tgt := 68) hx hb (by decide : (1 : Int32).toInt = 1) dX3_nextToJoin_63 (by decide) (fun h => absurd h (by decide)) (fun c_63_29 => ?_)
                refine lv_iload_n hx hb dX3_nextToJoin_66 rfl (lv_at hl 0 rfl) ?_
                refine lv_istore_n (lv' := [(1, .int x_1), (2, .int x_1), (0, .ref (A q 0))]) hx hb dX3_nextToJoin_67 rfl hl (by decide) rfl (fun ls hl => ?_)
                obtain ⟨x_36, ex_36⟩ : ∃ z : Int32, z = x_1 + 1 := ⟨_, rfl⟩
                have tx_36 : x_36.toInt = x_1.toInt + 1 := i_add ex_36 rfl (by decide) (by omega) (by omega)
                refine lv_iinc (v := x_36) (lv' := [(2, .int x_36), (1, .int x_1), (0, .ref (A q 0))]) hx hb dX3_nextToJoin_68 hl (k := 1) rfl (by rw [ex_36]; rfl) (by decide) rfl (fun ls hl => ?_)
                refine lv_goto (tgt := 4) hx hb dX3_nextToJoin_71 (by decide) ?_
                exact ih_8 x_36 x_1 _ _ _ (by omega) (by first | omega | decide) (by first | omega | decide) (by first | omega | decide) (by first | omega | decide) (by rw [← j_7, nf_go (tx := tx) (s := rg) (f := (tx 4).toNat - x_1.toInt.toNat) (f' := (tx 4).toNat - x_36.toInt.toNat) (m := x_1.toInt.toNat) (b := x_4.toInt) (by omega), if_pos (by omega), show x_36.toInt.toNat = x_1.toInt.toNat + 1 by omega]; exact congrArg _ (by omega)) hw (lv_sub hl [0, 1, 2] rfl)
              · refine sb_if_eq (tgt := 68) hx hb (by decide : (0 : Int32).toInt = 0) dX3_nextToJoin_63 (by decide) (fun c_63_30 => ?_) (fun h => absurd h (by decide))
                obtain ⟨x_34, ex_34⟩ : ∃ z : Int32, z = x_1 + 1 := ⟨_, rfl⟩
                have tx_34 : x_34.toInt = x_1.toInt + 1 := i_add ex_34 rfl (by decide) (by omega) (by omega)
                refine lv_iinc (v := x_34) (lv' := [(2, .int x_34), (1, .int x_4), (0, .ref (A q 0))]) hx hb dX3_nextToJoin_68 hl (k := 0) rfl (by rw [ex_34]; rfl) (by decide) rfl (fun ls hl => ?_)
                refine lv_goto (tgt := 4) hx hb dX3_nextToJoin_71 (by decide) ?_
                exact ih_8 x_34 x_4 _ _ _ (by omega) (by first | omega | decide) (by first | omega | decide) (by first | omega | decide) (by first | omega | decide) (by rw [← j_7, nf_go (tx := tx) (s := rg) (f := (tx 4).toNat - x_1.toInt.toNat) (f' := (tx 4).toNat - x_34.toInt.toNat) (m := x_1.toInt.toNat) (b := x_4.toInt) (by omega), if_neg (by omega), show x_34.toInt.toNat = x_1.toInt.toNat + 1 by omega]) hw (lv_sub hl [0, 1, 2] rfl)
  exact hl_4_7 ((8 - 0 : Int).toNat + 1) 0 (-1) _ _ _ (Nat.lt_succ_self _) (by have lt0 : ((-1) : Int32).toInt = (-1) := (by decide); have lt1 : (0 : Int32).toInt = 0 := (by decide); first | omega | decide) (by have lt0 : ((-1) : Int32).toInt = (-1) := (by decide); have lt1 : (0 : Int32).toInt = 0 := (by decide); first | omega | decide) (by have lt0 : ((-1) : Int32).toInt = (-1) := (by decide); have lt1 : (0 : Int32).toInt = 0 := (by decide); first | omega | decide) (by have lt0 : ((-1) : Int32).toInt = (-1) := (by decide); have lt1 : (0 : Int32).toInt = 0 := (by decide); first | omega | decide) (by show bq_nf tx rg ((tx 4).toNat - 0) 0 (-1) = _; rfl) hw (lv_sub hl [0, 1, 2] rfl)

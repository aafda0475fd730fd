variable {Tc : gC} {Tm : gM}
variable {Tc : gC} {Tm : gM}
section
theorem bw_i (x : Int32) : bw x.toInt = x.toInt := bw_id (Int32.le_toInt x) (by have := Int32.toInt_lt x; omega)
variable {tx s : Nat → Int} {j : Nat}
theorem pr_v (ht : tW tx) (h : wF tx s) (hj : (128 ≤ j ∧ j < 136) ∨ (224 ≤ j ∧ j < 232)) : bq_pr tx s j = s j := by
  unfold bq_pr
  split
  · rfl
  · rename_i c
    have h3 := wF_8 h
    have x : 0 ≤ s 96 ∧ s 96 < tx 4 ∧ s (128 + (s 96).toNat) = 1 := h.2.2.1 0 (by omega)
    have ht4 := ht.1
    rw [su_n (by omega), su_n (by omega)]
theorem l1_v (ht : tW tx) (h : wF tx s) {t : Int} {p : Nat} (h0 : 0 ≤ t) (h1 : t < tx 4) (hp : (p : Int) < s 3) (hj : (128 ≤ j ∧ j < 136) ∨ (224 ≤ j ∧ j < 232)) : bq_l1 tx s t p j = s j := by
  have ht4 := ht.1
  have x := h.2.2.1 p hp
  unfold bq_l1 bq_py
  split
  · rfl
  · rw [su_n (by omega), su_n (by omega)]
theorem lf_v (ht : tW tx) {t : Int} (h0 : 0 ≤ t) (h1 : t < tx 4) (hj : (128 ≤ j ∧ j < 136) ∨ (224 ≤ j ∧ j < 232)) : ∀ (f p : Nat) (s : Nat → Int), (p + f : Int) ≤ s 3 → wF tx s → bq_lf tx t f p s j = s j := by
  intro f
  induction f with
  | zero => intro p s _ h; rfl
  | succ f ih =>
    intro p s hp h
    rw [bq_lf, ih (p + 1) _ (by rw [l1_k (by decide)]; omega) (wF_l1 ht h h0 h1 (by omega)), l1_v ht h h0 h1 (by omega) hj]
theorem ly_v (ht : tW tx) (h : wF tx s) (hj : (128 ≤ j ∧ j < 136) ∨ (224 ≤ j ∧ j < 232)) : bq_ly tx s j = s j := by
  unfold bq_ly
  split
  · rfl
  · rename_i c
    have h8 := wF_8 h
    have k : 0 ≤ s 114 ∧ s 114 < s 3 := by
      by_cases q : 0 ≤ s 114 ∧ s 114 < s 3
      · exact q
      · exact absurd (Or.inl (by unfold bq_ma; rw [if_neg q]; decide)) c
    have x := h.2.2.1 (s 114).toNat (by omega)
    have e : bq_ma s (s 114) = s (96 + (s 114).toNat) := by unfold bq_ma; rw [if_pos k]
    rw [e]
    exact lf_v ht x.1 x.2.1 hj _ _ _ (by omega) h
theorem w1_v (ht : tW tx) (h : wF tx s) {p : Nat} (hp : (p : Int) < s 3) (hj : (128 ≤ j ∧ j < 136) ∨ (224 ≤ j ∧ j < 232)) : bq_w1 tx s p j = s j := by
  have ht4 := ht.1
  have x := h.2.2.1 p hp
  unfold bq_w1
  split
  · rw [su_n (by omega)]
  · split
    · rw [su_n (by omega)]
    · rfl
theorem wr_v (ht : tW tx) (h : wF tx s) (hj : (128 ≤ j ∧ j < 136) ∨ (224 ≤ j ∧ j < 232)) : bq_wr tx s j = s j := by
  have key : ∀ (f p : Nat) (s : Nat → Int), (p + f : Int) ≤ s 3 → wF tx s → bq_wf tx f p s j = s j := by
    intro f
    induction f with
    | zero => intro p s _ h; rfl
    | succ f ih =>
      intro p s hp h
      rw [bq_wf, ih (p + 1) _ (by rw [w1_k (by decide)]; omega) (wF_w1 ht h (by omega)), w1_v ht h (by omega) hj]
  exact key _ _ _ (by have := wF_8 h; omega) h
theorem wF_dr (ht : tW tx) (h : wF tx s) : wF tx (pp_su s 5 (bq_dr (s 5))) := by
  have hd : 0 ≤ bq_dr (s 5) := by unfold bq_dr; omega
  have D := h.2.2.2.2.2
  refine wF_of ht h (su_n (by omega)) (by rw [su_n (by omega)]; exact h.2.1.1) (by rw [su_s]; exact hd) (fun p hp => su_n (by omega)) (fun m hm => su_n (by omega)) ⟨fun m hm => ?_, fun m hm hl => ?_, fun j hj => ?_⟩
  · rw [su_n (by omega), su_n (by omega), su_n (by omega)]; exact D.1 m hm
  · rw [su_n (by omega)]; exact D.2.1 m hm hl
  · rw [su_n (by omega)]; exact D.2.2 j hj
end
set_option maxHeartbeats 4000000 in
set_option maxRecDepth 100000 in
theorem z_X10_passes_0 (l : Launch) (D : va_G) (A : Nat → Nat → Nat) (cy : Nat → ClassId) (hJ : ti_inj ti_LM A) (M : ti_M) (hI : mI Tm M) (hC : mC M 0) (hL : mL M) (mu : Int32) (h34 : (tY M 60 34 0).toInt ≤ 119) (tx rg : Nat → Int) (htr : tR tx M) (ht4 : 0 ≤ tx 4 ∧ tx 4 ≤ 8) (hr : qR (tx 4).toNat 0 rg M) (hV : qV (tx 4).toNat 0 rg M) (hwf : wF tx rg) (htw : tI M 60 53 = -1) (htW : tW tx) (h1 : rg 1 = 0) (hmu : mu.toInt ≠ 0) (h2 : 0 ≤ rg 2) : ti_Kv l yX10_passes cX10_passes 5 6 ti_LM D A cy M [.ref (A 60 0), .int 0, .int mu] (fun M2 => eR 0 M2 M ∧ qR (tx 4).toNat 0 (bq_ps tx rg) M2 ∧ qV (tx 4).toNat 0 (bq_ps tx rg) M2 ∧ mI Tm M2 ∧ rq 0 M2 M ∧ mC M2 0 ∧ (tY M2 60 34 0).toInt = (tY M 60 34 0).toInt + 1) := by
  refine ti_eV yp_X10_passes hJ ti_LM_nd (Nat.le_of_ble_eq_true rfl) ?_
  intro p e s m args below meth c Q H0 C hQ hw ls hl
  have hx := C.1
  have hb := C.2.1
  have hl : lv_has ls 5 [(0, .ref (A 60 0)), (1, .int 0), (2, .int mu)] := hl
  have h5 := hwf.2.1.2
  have ht10 := htW.2.2.2.2.2.1
  refine lv_aload_n hx hb dX10_passes_0 rfl (lv_at hl 0 rfl) ?_
  refine ti_get (ci := 10) (k := 34) (N := 67) (T := TX10) (v := .ref (A 60 35)) C hw iw_10 rfl ob_60 (by decide) (by decide) fl_X10_69 rfl rfl dX10_passes_1 ?_
  refine lv_iload_n hx hb dX10_passes_4 rfl (lv_at hl 1 rfl) ?_
  refine ti_iald (ci := 10) (k := 34) (n := 23) C hw ob_60 (by decide) (fun _ _ => rfl) (by unfold vp_in; decide) dX10_passes_5 ?_
  refine lv_topi (fun x_1 ex_1 => ?_)
  have yx_1 : tY M 60 34 0 = x_1 := ((congrArg _ (by decide)).symm.trans ex_1.symm)
  have bx_1 : 0 ≤ x_1.toInt ∧ x_1.toInt ≤ 120 := mI_ry (k := 34) (i := 0) hI yx_1.symm (by decide)
  have zx_1 : (tY M 60 34 0).toInt = x_1.toInt := by rw [yx_1]
  have L_2 : rg 2 = x_1.toInt := (hr.1.1).trans (congrArg Int32.toInt (yx_1))
  refine lv_istore_n (lv' := [(3, .int x_1), (0, .ref (A 60 0)), (1, .int 0), (2, .int mu)]) hx hb dX10_passes_6 rfl hl (by decide) rfl (fun ls hl => ?_)
  refine lv_aload_n hx hb dX10_passes_7 rfl (lv_at hl 1 rfl) ?_
  refine lv_iload_n hx hb dX10_passes_8 rfl (lv_at hl 2 rfl) ?_
  refine lv_iload_n hx hb dX10_passes_9 rfl (lv_at hl 0 rfl) ?_
  refine ti_callVv (ci := 10) (av := [.int 0, .int x_1]) C hw (z_X10_arrive_0 l D A cy hJ M hI hC x_1 tx rg htr ht4 hr hV hwf htW (by omega)) ⟨ml_X10_382, ym_X10_arrive, yv_X10_arrive, yi_X10_arrive, yc_X10_arrive⟩ yd_X10_arrive ob_60 (by decide) rfl rfl hl.1 (Nat.le_of_ble_eq_true rfl) ⟨by decide, by decide⟩ ⟨Nat.zero_le _, Nat.zero_le _⟩ dX10_passes_10 (fun M_4 H locs hp_4 hw => ?_)
  obtain ⟨erM_4, hrM_4, qvM_4, hqM_4⟩ := hp_4
  obtain ⟨iM_4, q_5, q_6, q_7⟩ := hqM_4
  obtain ⟨g_8, eg_8⟩ : ∃ z : Nat → Int, z = bq_wl tx (tx 4).toNat rg := ⟨_, rfl⟩
  rw [← eg_8] at hrM_4
  have w1g_8 : g_8 1 = rg 1 := by rw [eg_8]; exact wl_k (k := 1) (by decide) _ _
  have w2g_8 : g_8 2 = rg 2 := by rw [eg_8]; exact wl_k (k := 2) (by decide) _ _
  have w5g_8 : g_8 5 = rg 5 := by rw [eg_8]; exact wl_k (k := 5) (by decide) _ _
  have wpg_8 : wF tx g_8 := by rw [eg_8]; exact wF_wl htW _ _ hwf
  rw [← eg_8] at qvM_4
  refine lv_aload_n hx hb dX10_passes_13 rfl (lv_at hl 1 rfl) ?_
  refine lv_iload_n hx hb dX10_passes_14 rfl (lv_at hl 2 rfl) ?_
  refine lv_iload_n hx hb dX10_passes_15 rfl (lv_at hl 0 rfl) ?_
  refine ti_callVv (ci := 10) (av := [.int 0, .int x_1]) C hw (z_X10_coughing_0 l D A cy hJ M_4 iM_4 q_6 (mL_lw (lk_of q_5.1 q_5.2.1).1 hL) x_1 tx g_8 (tR_lw htr (eR_lw (q := 0) erM_4)) ht4 hrM_4 qvM_4 wpg_8 htW (by omega) (by omega)) ⟨ml_X10_385, ym_X10_coughing, yv_X10_coughing, yi_X10_coughing, yc_X10_coughing⟩ yd_X10_coughing ob_60 (by decide) rfl rfl hl.1 (Nat.le_of_ble_eq_true rfl) ⟨by decide, by decide⟩ ⟨Nat.zero_le _, Nat.zero_le _⟩ dX10_passes_16 (fun M_10 H locs hp_10 hw => ?_)
  obtain ⟨erM_10, hrM_10, qvM_10, hqM_10⟩ := hp_10
  obtain ⟨iM_10, q_11, q_12, q_13⟩ := hqM_10
  obtain ⟨g_14, eg_14⟩ : ∃ z : Nat → Int, z = bq_hc tx g_8 := ⟨_, rfl⟩
  rw [← eg_14] at hrM_10
  have w1g_14 : g_14 1 = g_8 1 := by rw [eg_14]; exact hc_k (by decide)
  have w2g_14 : g_14 2 = g_8 2 := by rw [eg_14]; exact hc_k (by decide)
  have w5g_14 : g_14 5 = g_8 5 := by rw [eg_14]; exact hc_k (by decide)
  have wpg_14 : wF tx g_14 := by rw [eg_14]; exact wF_hc htW wpg_8
  rw [← eg_14] at qvM_10
  refine lv_aload_n hx hb dX10_passes_19 rfl (lv_at hl 1 rfl) ?_
  refine lv_iload_n hx hb dX10_passes_20 rfl (lv_at hl 2 rfl) ?_
  refine ti_callVv (ci := 10) (av := [.int 0]) C hw (z_X10_pour_0 l D A cy hJ M_10 iM_10  tx g_14 (tR_lw htr (eR_lw (q := 0) (eR.trans erM_10 erM_4))) ht4 hrM_10 wpg_14 ((erM_10.1 53 (by decide)).trans ((erM_4.1 53 (by decide)).trans htw))) ⟨ml_X10_388, ym_X10_pour, yv_X10_pour, yi_X10_pour, yc_X10_pour⟩ yd_X10_pour ob_60 (by decide) rfl rfl hl.1 (Nat.le_of_ble_eq_true rfl) ⟨by decide, by decide⟩ ⟨Nat.zero_le _, Nat.zero_le _⟩ dX10_passes_21 (fun M_16 H locs hp_16 hw => ?_)
  obtain ⟨erM_16, e48M_16, hrM_16, hqM_16⟩ := hp_16
  obtain ⟨iM_16, q_17, q_18⟩ := hqM_16
  obtain ⟨g_19, eg_19⟩ : ∃ z : Nat → Int, z = bq_pr tx g_14 := ⟨_, rfl⟩
  rw [← eg_19] at hrM_16
  have w1g_19 : g_19 1 = g_14 1 := by rw [eg_19]; exact pr_k (by decide)
  have w2g_19 : g_19 2 = g_14 2 := by rw [eg_19]; exact pr_k (by decide)
  have w5g_19 : g_19 5 = g_14 5 := by rw [eg_19]; exact pr_k (by decide)
  have wpg_19 : wF tx g_19 := by rw [eg_19]; exact wF_pr htW wpg_14
  have qvM_16 : qV (tx 4).toNat 0 g_19 M_16 := qV_same qvM_10 e48M_16 (by omega) (fun m hm => by rw [eg_19]; exact pr_v htW wpg_14 (by omega)) (fun m hm => by rw [eg_19]; exact pr_v htW wpg_14 (by omega))
  refine lv_aload_n hx hb dX10_passes_24 rfl (lv_at hl 1 rfl) ?_
  refine lv_iload_n hx hb dX10_passes_25 rfl (lv_at hl 2 rfl) ?_
  refine lv_iload_n hx hb dX10_passes_26 rfl (lv_at hl 0 rfl) ?_
  refine ti_callVv (ci := 10) (av := [.int 0, .int x_1]) C hw (z_X10_levy_0 l D A cy hJ M_16 iM_16 (mL_lw (lk.trans (lk_of q_17.1 q_17.2.1) (lk.trans (lk_of q_11.1 q_11.2.1) (lk_of q_5.1 q_5.2.1))).1 hL) x_1 tx g_19 (tR_lw htr (eR_lw (q := 0) (eR.trans erM_16 (eR.trans erM_10 erM_4)))) ht4 hrM_16 wpg_19 ((erM_16.1 53 (by decide)).trans ((erM_10.1 53 (by decide)).trans ((erM_4.1 53 (by decide)).trans htw))) htW (by omega) (by omega)) ⟨ml_X10_391, ym_X10_levy, yv_X10_levy, yi_X10_levy, yc_X10_levy⟩ yd_X10_levy ob_60 (by decide) rfl rfl hl.1 (Nat.le_of_ble_eq_true rfl) ⟨by decide, by decide⟩ ⟨Nat.zero_le _, Nat.zero_le _⟩ dX10_passes_27 (fun M_21 H locs hp_21 hw => ?_)
  obtain ⟨erM_21, e48M_21, hrM_21, hqM_21⟩ := hp_21
  obtain ⟨iM_21, q_22, q_23⟩ := hqM_21
  obtain ⟨g_24, eg_24⟩ : ∃ z : Nat → Int, z = bq_ly tx g_19 := ⟨_, rfl⟩
  rw [← eg_24] at hrM_21
  have w1g_24 : g_24 1 = g_19 1 := by rw [eg_24]; exact ly_k (by decide)
  have w2g_24 : g_24 2 = g_19 2 := by rw [eg_24]; exact ly_k (by decide)
  have w5g_24 : g_24 5 = g_19 5 := by rw [eg_24]; exact ly_k (by decide)
  have wpg_24 : wF tx g_24 := by rw [eg_24]; exact wF_ly htW wpg_19
  have qvM_21 : qV (tx 4).toNat 0 g_24 M_21 := qV_same qvM_16 e48M_21 (by omega) (fun m hm => by rw [eg_24]; exact ly_v htW wpg_19 (by omega)) (fun m hm => by rw [eg_24]; exact ly_v htW wpg_19 (by omega))
  refine lv_aload_n hx hb dX10_passes_30 rfl (lv_at hl 1 rfl) ?_
  refine lv_iload_n hx hb dX10_passes_31 rfl (lv_at hl 2 rfl) ?_
  refine lv_iload_n hx hb dX10_passes_32 rfl (lv_at hl 0 rfl) ?_
  refine ti_callVv (ci := 10) (av := [.int 0, .int x_1]) C hw (z_X10_wear_0 l D A cy hJ M_21 iM_21 (mL_lw (lk.trans (lk_of q_22.1 q_22.2.1) (lk.trans (lk_of q_17.1 q_17.2.1) (lk.trans (lk_of q_11.1 q_11.2.1) (lk_of q_5.1 q_5.2.1)))).1 hL) x_1 tx g_24 (tR_lw htr (eR_lw (q := 0) (eR.trans erM_21 (eR.trans erM_16 (eR.trans erM_10 erM_4))))) ht4 hrM_21 wpg_24 ((erM_21.1 53 (by decide)).trans ((erM_16.1 53 (by decide)).trans ((erM_10.1 53 (by decide)).trans ((erM_4.1 53 (by decide)).trans htw)))) (by omega)) ⟨ml_X10_394, ym_X10_wear, yv_X10_wear, yi_X10_wear, yc_X10_wear⟩ yd_X10_wear ob_60 (by decide) rfl rfl hl.1 (Nat.le_of_ble_eq_true rfl) ⟨by decide, by decide⟩ ⟨Nat.zero_le _, Nat.zero_le _⟩ dX10_passes_33 (fun M_26 H locs hp_26 hw => ?_)
  obtain ⟨erM_26, e48M_26, hrM_26, hqM_26⟩ := hp_26
  obtain ⟨iM_26, q_27, q_28⟩ := hqM_26
  obtain ⟨g_29, eg_29⟩ : ∃ z : Nat → Int, z = bq_wr tx g_24 := ⟨_, rfl⟩
  rw [← eg_29] at hrM_26
  have w1g_29 : g_29 1 = g_24 1 := by rw [eg_29]; exact wr_k (by decide)
  have w2g_29 : g_29 2 = g_24 2 := by rw [eg_29]; exact wr_k (by decide)
  have w5g_29 : g_29 5 = g_24 5 := by rw [eg_29]; exact wr_k (by decide)
  have wpg_29 : wF tx g_29 := by rw [eg_29]; exact wF_wr htW wpg_24
  have qvM_26 : qV (tx 4).toNat 0 g_29 M_26 := qV_same qvM_21 e48M_26 (by omega) (fun m hm => by rw [eg_29]; exact wr_v htW wpg_24 (by omega)) (fun m hm => by rw [eg_29]; exact wr_v htW wpg_24 (by omega))
  have w85 := wF_8 wpg_29
  refine lv_aload_n hx hb dX10_passes_36 rfl (lv_at hl 1 rfl) ?_
  refine ti_get (ci := 10) (k := 38) (N := 67) (T := TX10) (v := .ref (A 60 39)) C hw iw_10 rfl ob_60 (by decide) (by decide) fl_X10_81 rfl rfl dX10_passes_37 ?_
  refine lv_iload_n hx hb dX10_passes_40 rfl (lv_at hl 2 rfl) ?_
  refine ti_iald (ci := 10) (k := 38) (n := 23) C hw ob_60 (by decide) (fun _ _ => rfl) (by unfold vp_in; decide) dX10_passes_41 ?_
  refine lv_topi (fun x_30 ex_30 => ?_)
  have yx_30 : tY M_26 60 38 0 = x_30 := ((congrArg _ (by decide)).symm.trans ex_30.symm)
  have bx_30 : 0 ≤ x_30.toInt ∧ x_30.toInt ≤ 8 := mI_ry (k := 38) (i := 0) iM_26 yx_30.symm
  have zx_30 : (tY M_26 60 38 0).toInt = x_30.toInt := by rw [yx_30]
  have wx_30 : tY M_10 60 38 0 = x_30 := (((cg q_27.2.2.1 0).trans ((cg q_22.2.2.1 0).trans (cg q_17.2.2.1 0)))).symm.trans yx_30
  have zwx_30 : (tY M_10 60 38 0).toInt = x_30.toInt := by rw [wx_30]
  have L_31 : g_29 3 = x_30.toInt := (hrM_26.1.2.1).trans (congrArg Int32.toInt ((cg q_27.2.2.1 0).trans ((cg q_22.2.2.1 0).trans ((cg q_17.2.2.1 0).trans wx_30))))
  have hl_99_73 : ∀ (n_74 : Nat) (x_56 : Int32) (M_59 : ti_M) (g_64 : Nat → Int) (H : Heap) (locs : List Loc) (ls : Array Slot), (x_56.toInt + 1 : Int).toNat < n_74 → ((-1) ≤ x_56.toInt) → (x_56.toInt ≤ 7) → (mI Tm M_59) → (rq 0 M_59 M) → (mC M_59 0) → (tY M_59 60 34 = tY M 60 34) → (eR 0 M_59 M) → (qR (tx 4).toNat 0 g_64 M_59) → (x_56.toInt < (tY M_59 60 38 0).toInt) → (bq_of (x_56.toInt).toNat g_64 = bq_rl tx g_29) → (wF tx g_64) → (qV (tx 4).toNat 0 g_64 M_59) → (g_64 1 = rg 1) → (g_64 2 = rg 2) → (g_64 5 = rg 5) → (x_56.toInt < g_64 3 ∨ x_56.toInt ≤ 0) → ti_H ti_LM D A cy H0 M_59 H locs → lv_has ls 5 [(4, .int x_56), (3, .int x_1), (0, .ref (A 60 0)), (1, .int 0), (2, .int mu)] → W p l e (ti_rm 6) s m args below meth c H locs 0 0 Q (F0 m 99 ls []) := by
    intro n_74
    induction n_74 with
    | zero => intro x_56 M_59 g_64 H locs ls hf_74; exact absurd hf_74 (Nat.not_lt_zero _)
    | succ n_74 ih_74 =>
      intro x_56 M_59 g_64 H locs ls hf_74 b_57 b_58 iM_59 f_60 f_61 f_62 f_63 hs_65 j_66 j_67 j_68 j_69 j_70 j_71 j_72 j_73 hw hl
      refine lv_iload hx hb dX10_passes_99 (lv_at hl 0 rfl) ?_
      refine lv_iconst (v := 1) hx hb dX10_passes_101 (by decide) ?_
      refine sb_icmp_lt (tgt := 145) hx hb rfl (by decide : (1 : Int32).toInt = 1) dX10_passes_102 (by decide) (fun c_102_76 => ?_) (fun c_102_76 => ?_)
      · refine lv_iload_n hx hb dX10_passes_145 rfl (lv_at hl 4 rfl) ?_
        refine sb_if_eq (tgt := 197) hx hb rfl dX10_passes_146 (by decide) (fun c_146_92 => ?_) (fun c_146_92 => ?_)
        · refine lv_aload_n hx hb dX10_passes_197 rfl (lv_at hl 2 rfl) ?_
          refine ti_get (ci := 10) (k := 34) (N := 67) (T := TX10) (v := .ref (A 60 35)) C hw iw_10 rfl ob_60 (by decide) (by decide) fl_X10_69 rfl rfl dX10_passes_198 ?_
          refine lv_iload_n hx hb dX10_passes_201 rfl (lv_at hl 3 rfl) ?_
          refine lv_dup2_11 hx hb dX10_passes_202 rfl rfl ?_
          refine ti_iald (ci := 10) (k := 34) (n := 23) C hw ob_60 (by decide) (fun _ _ => rfl) (by unfold vp_in; decide) dX10_passes_203 ?_
          refine ti_top (y := x_1) ((congrArg _ (by decide)).trans ((cg f_62 0).trans yx_1)) ?_
          have L_116 : g_64 2 = x_1.toInt := (hs_65.1.1).trans (congrArg Int32.toInt ((cg f_62 0).trans yx_1))
          refine lv_iconst (v := 1) hx hb dX10_passes_204 (by decide) ?_
          refine lv_iadd hx hb dX10_passes_205 ?_
          refine lv_topi (fun x_117 ex_117 => ?_)
          have tx_117 : x_117.toInt = x_1.toInt + 1 := i_add ex_117 rfl (by decide : (1 : Int32).toInt = 1) (by omega) (by omega)
          refine ti_iast (ci := 10) (k := 34) (n := 23) C hw ob_60 (by decide) (fun _ _ => rfl) (by unfold vp_in; decide) dX10_passes_206 (fun H locs hw => ?_)
          obtain ⟨M_118, hM_118⟩ : ∃ z : ti_M, z = uY M_59 60 34 (upd (tY M_59 60 34) (0 : Int32).toNatClampNeg x_117) := ⟨_, rfl⟩
          have hw := hw.to hM_118.symm
          have iM_118 : mI Tm M_118 := mI_up (i := 0) iM_59 hM_118 (fun _ => (ib_mk (lo := 0) (hi := 120) (by omega) (by omega)))
          have hs_119 : qR (tx 4).toNat 0 (pp_su g_64 2 x_117.toInt) M_118 := qR_34 (z := 0) hs_65 (by decide) rfl hM_118
          obtain ⟨g_120, eg_120⟩ : ∃ z : Nat → Int, z = pp_su g_64 2 x_117.toInt := ⟨_, rfl⟩
          rw [← eg_120] at hs_119
          have sg_120 : g_120 2 = x_117.toInt := by rw [eg_120, su_s]
          have w1g_120 : g_120 1 = g_64 1 := by rw [eg_120, su_n (by omega)]
          have w5g_120 : g_120 5 = g_64 5 := by rw [eg_120, su_n (by omega)]
          have ER : g_64 = bq_rl tx g_29 := by rw [← j_67, show x_56.toInt.toNat = 0 by omega]; rfl
          have EM : bq_mt tx g_64 = g_64 := by unfold bq_mt; rw [if_pos (by omega)]
          have E_121 : bq_ps tx rg = g_120 := by unfold bq_ps; rw [← eg_8, ← eg_14, ← eg_19, ← eg_24, ← eg_29, ← ER, EM]; unfold bq_m1; rw [show g_64 2 = x_1.toInt by omega, ← tx_117, bw_i, ← eg_120]
          exact hQ _ _ _ _ _ hw (⟨(eR.trans (eR_Y hM_118 (bk_q (z := 0) (by decide) (by decide))) f_63), (by rw [E_121]; exact hs_119), (by rw [E_121]; exact (qV_same j_69 (tY_nE hM_118 (nk (by decide))) (by omega) (fun _ _ => by rw [eg_120, su_n (by omega)]) (fun _ _ => by rw [eg_120, su_n (by omega)]))), iM_118, (rq.trans (rq_qw (qw_Y hM_118 (by decide))) f_60), (mC_qw (qw_Y hM_118 (by decide)) f_61), by rw [tY_uE hM_118, upl (by decide)]; omega⟩) dX10_passes_207
        · refine lv_aload_n hx hb dX10_passes_149 rfl (lv_at hl 2 rfl) ?_
          refine ti_get (ci := 10) (k := 3) (N := 67) (T := TX10) (v := .ref (A 60 4)) C hw iw_10 rfl ob_60 (by decide) (by decide) fl_X10_13 rfl rfl dX10_passes_150 ?_
          refine lv_iconst (v := 5) hx hb dX10_passes_153 (by decide) ?_
          refine ti_iald (ci := 10) (k := 3) (n := 22) C hw ob_60 (by decide) (fun _ _ => rfl) (by unfold vp_in; decide) dX10_passes_154 ?_
          refine lv_topi (fun x_94 ex_94 => ?_)
          have yx_94 : tY M_59 60 3 5 = x_94 := ((congrArg _ (by decide)).symm.trans ex_94.symm)
          have zx_94 : (tY M_59 60 3 5).toInt = x_94.toInt := by rw [yx_94]
          have wx_94 : tY M 60 3 5 = x_94 := ((cg (f_60.1 3 (by decide) (by decide)) 5)).symm.trans yx_94
          have zwx_94 : (tY M 60 3 5).toInt = x_94.toInt := by rw [wx_94]
          have L_95 : tx 10 = x_94.toInt := (htr.1.2.2.2.2.2.1).trans ((congrArg Int32.toInt (cg ((f_60.1 3 (by decide) (by decide))) 5)).symm.trans (congrArg Int32.toInt ((cg (f_60.1 3 (by decide) (by decide)) 5).trans wx_94)))
          refine sb_if_le (tgt := 197) hx hb rfl dX10_passes_155 (by decide) (fun c_155_95 => ?_) (fun c_155_95 => ?_)
          · refine lv_aload_n hx hb dX10_passes_197 rfl (lv_at hl 2 rfl) ?_
            refine ti_get (ci := 10) (k := 34) (N := 67) (T := TX10) (v := .ref (A 60 35)) C hw iw_10 rfl ob_60 (by decide) (by decide) fl_X10_69 rfl rfl dX10_passes_198 ?_
            refine lv_iload_n hx hb dX10_passes_201 rfl (lv_at hl 3 rfl) ?_
            refine lv_dup2_11 hx hb dX10_passes_202 rfl rfl ?_
            refine ti_iald (ci := 10) (k := 34) (n := 23) C hw ob_60 (by decide) (fun _ _ => rfl) (by unfold vp_in; decide) dX10_passes_203 ?_
            refine ti_top (y := x_1) ((congrArg _ (by decide)).trans ((cg f_62 0).trans yx_1)) ?_
            have L_122 : g_64 2 = x_1.toInt := (hs_65.1.1).trans (congrArg Int32.toInt ((cg f_62 0).trans yx_1))
            refine lv_iconst (v := 1) hx hb dX10_passes_204 (by decide) ?_
            refine lv_iadd hx hb dX10_passes_205 ?_
            refine lv_topi (fun x_123 ex_123 => ?_)
            have tx_123 : x_123.toInt = x_1.toInt + 1 := i_add ex_123 rfl (by decide : (1 : Int32).toInt = 1) (by omega) (by omega)
            refine ti_iast (ci := 10) (k := 34) (n := 23) C hw ob_60 (by decide) (fun _ _ => rfl) (by unfold vp_in; decide) dX10_passes_206 (fun H locs hw => ?_)
            obtain ⟨M_124, hM_124⟩ : ∃ z : ti_M, z = uY M_59 60 34 (upd (tY M_59 60 34) (0 : Int32).toNatClampNeg x_123) := ⟨_, rfl⟩
            have hw := hw.to hM_124.symm
            have iM_124 : mI Tm M_124 := mI_up (i := 0) iM_59 hM_124 (fun _ => (ib_mk (lo := 0) (hi := 120) (by omega) (by omega)))
            have hs_125 : qR (tx 4).toNat 0 (pp_su g_64 2 x_123.toInt) M_124 := qR_34 (z := 0) hs_65 (by decide) rfl hM_124
            obtain ⟨g_126, eg_126⟩ : ∃ z : Nat → Int, z = pp_su g_64 2 x_123.toInt := ⟨_, rfl⟩
            rw [← eg_126] at hs_125
            have sg_126 : g_126 2 = x_123.toInt := by rw [eg_126, su_s]
            have w1g_126 : g_126 1 = g_64 1 := by rw [eg_126, su_n (by omega)]
            have w5g_126 : g_126 5 = g_64 5 := by rw [eg_126, su_n (by omega)]
            have ER : g_64 = bq_rl tx g_29 := by rw [← j_67, show x_56.toInt.toNat = 0 by omega]; rfl
            have EM : bq_mt tx g_64 = g_64 := by unfold bq_mt; rw [if_pos (by omega)]
            have E_127 : bq_ps tx rg = g_126 := by unfold bq_ps; rw [← eg_8, ← eg_14, ← eg_19, ← eg_24, ← eg_29, ← ER, EM]; unfold bq_m1; rw [show g_64 2 = x_1.toInt by omega, ← tx_123, bw_i, ← eg_126]
            exact hQ _ _ _ _ _ hw (⟨(eR.trans (eR_Y hM_124 (bk_q (z := 0) (by decide) (by decide))) f_63), (by rw [E_127]; exact hs_125), (by rw [E_127]; exact (qV_same j_69 (tY_nE hM_124 (nk (by decide))) (by omega) (fun _ _ => by rw [eg_126, su_n (by omega)]) (fun _ _ => by rw [eg_126, su_n (by omega)]))), iM_124, (rq.trans (rq_qw (qw_Y hM_124 (by decide))) f_60), (mC_qw (qw_Y hM_124 (by decide)) f_61), by rw [tY_uE hM_124, upl (by decide)]; omega⟩) dX10_passes_207
          · refine lv_aload_n hx hb dX10_passes_158 rfl (lv_at hl 2 rfl) ?_
            refine lv_iload_n hx hb dX10_passes_159 rfl (lv_at hl 3 rfl) ?_
            refine ti_callVi (ci := 10) (av := [.int 0]) C hw (z_X10_draw_0 l D A cy hJ M_59 iM_59  tx g_64 (tR_lw htr (eR_lw (q := 0) f_63)) ht4 hs_65 (by omega)) ⟨ml_X10_397, ym_X10_draw, yv_X10_draw, yi_X10_draw, yc_X10_draw⟩ yd_X10_draw ob_60 (by decide) rfl rfl hl.1 (Nat.le_of_ble_eq_true rfl) ⟨by decide, by decide⟩ ⟨Nat.zero_le _, Nat.zero_le _⟩ dX10_passes_160 (fun r_97 M_98 H locs hp_98 hw => ?_)
            obtain ⟨erM_98, e48M_98, hrM_98, rvM_98, hqM_98⟩ := hp_98
            obtain ⟨iM_98, q_99, q_100⟩ := hqM_98
            obtain ⟨g_101, eg_101⟩ : ∃ z : Nat → Int, z = pp_su g_64 5 (bq_dr (g_64 5)) := ⟨_, rfl⟩
            rw [← eg_101] at hrM_98
            have w1g_101 : g_101 1 = g_64 1 := by rw [eg_101]; exact su_n (by decide)
            have w2g_101 : g_101 2 = g_64 2 := by rw [eg_101]; exact su_n (by decide)
            have wpg_101 : wF tx g_101 := by rw [eg_101]; exact wF_dr htW j_68
            have qvM_98 : qV (tx 4).toNat 0 g_101 M_98 := qV_same j_69 e48M_98 (by omega) (fun m hm => by rw [eg_101]; exact su_n (by omega)) (fun m hm => by rw [eg_101]; exact su_n (by omega))
            refine lv_aload_n hx hb dX10_passes_163 rfl (lv_at hl 2 rfl) ?_
            refine ti_get (ci := 10) (k := 3) (N := 67) (T := TX10) (v := .ref (A 60 4)) C hw iw_10 rfl ob_60 (by decide) (by decide) fl_X10_13 rfl rfl dX10_passes_164 ?_
            refine lv_iconst (v := 5) hx hb dX10_passes_167 (by decide) ?_
            refine ti_iald (ci := 10) (k := 3) (n := 22) C hw ob_60 (by decide) (fun _ _ => rfl) (by unfold vp_in; decide) dX10_passes_168 ?_
            refine ti_top (y := x_94) ((congrArg _ (by decide)).trans ((cg (q_99.1 3 (by decide) (by decide)) 5).trans ((cg (f_60.1 3 (by decide) (by decide)) 5).trans wx_94))) ?_
            have L_102 : tx 10 = x_94.toInt := (htr.1.2.2.2.2.2.1).trans ((congrArg Int32.toInt (cg (((q_99.1 3 (by decide) (by decide)).trans (f_60.1 3 (by decide) (by decide)))) 5)).symm.trans (congrArg Int32.toInt ((cg (q_99.1 3 (by decide) (by decide)) 5).trans ((cg (f_60.1 3 (by decide) (by decide)) 5).trans wx_94))))
            refine sb_icmp_ge (tgt := 197) hx hb rfl rfl dX10_passes_169 (by decide) (fun c_169_102 => ?_) (fun c_169_102 => ?_)
            · refine lv_aload_n hx hb dX10_passes_197 rfl (lv_at hl 2 rfl) ?_
              refine ti_get (ci := 10) (k := 34) (N := 67) (T := TX10) (v := .ref (A 60 35)) C hw iw_10 rfl ob_60 (by decide) (by decide) fl_X10_69 rfl rfl dX10_passes_198 ?_
              refine lv_iload_n hx hb dX10_passes_201 rfl (lv_at hl 3 rfl) ?_
              refine lv_dup2_11 hx hb dX10_passes_202 rfl rfl ?_
              refine ti_iald (ci := 10) (k := 34) (n := 23) C hw ob_60 (by decide) (fun _ _ => rfl) (by unfold vp_in; decide) dX10_passes_203 ?_
              refine ti_top (y := x_1) ((congrArg _ (by decide)).trans ((cg q_100 0).trans ((cg f_62 0).trans yx_1))) ?_
              have L_128 : g_101 2 = x_1.toInt := (hrM_98.1.1).trans (congrArg Int32.toInt ((cg q_100 0).trans ((cg f_62 0).trans yx_1)))
              refine lv_iconst (v := 1) hx hb dX10_passes_204 (by decide) ?_
              refine lv_iadd hx hb dX10_passes_205 ?_
              refine lv_topi (fun x_129 ex_129 => ?_)
              have tx_129 : x_129.toInt = x_1.toInt + 1 := i_add ex_129 rfl (by decide : (1 : Int32).toInt = 1) (by omega) (by omega)
              refine ti_iast (ci := 10) (k := 34) (n := 23) C hw ob_60 (by decide) (fun _ _ => rfl) (by unfold vp_in; decide) dX10_passes_206 (fun H locs hw => ?_)
              obtain ⟨M_130, hM_130⟩ : ∃ z : ti_M, z = uY M_98 60 34 (upd (tY M_98 60 34) (0 : Int32).toNatClampNeg x_129) := ⟨_, rfl⟩
              have hw := hw.to hM_130.symm
              have iM_130 : mI Tm M_130 := mI_up (i := 0) iM_98 hM_130 (fun _ => (ib_mk (lo := 0) (hi := 120) (by omega) (by omega)))
              have hs_131 : qR (tx 4).toNat 0 (pp_su g_101 2 x_129.toInt) M_130 := qR_34 (z := 0) hrM_98 (by decide) rfl hM_130
              obtain ⟨g_132, eg_132⟩ : ∃ z : Nat → Int, z = pp_su g_101 2 x_129.toInt := ⟨_, rfl⟩
              rw [← eg_132] at hs_131
              have sg_132 : g_132 2 = x_129.toInt := by rw [eg_132, su_s]
              have w1g_132 : g_132 1 = g_101 1 := by rw [eg_132, su_n (by omega)]
              have w5g_132 : g_132 5 = g_101 5 := by rw [eg_132, su_n (by omega)]
              have ER : g_64 = bq_rl tx g_29 := by rw [← j_67, show x_56.toInt.toNat = 0 by omega]; rfl
              have w3g_101 : g_101 3 = g_64 3 := by rw [eg_101]; exact su_n (by decide)
              have EM : bq_mt tx g_64 = g_101 := by unfold bq_mt; rw [if_neg (by omega), if_neg (by omega), ← eg_101]
              have E_133 : bq_ps tx rg = g_132 := by unfold bq_ps; rw [← eg_8, ← eg_14, ← eg_19, ← eg_24, ← eg_29, ← ER, EM]; unfold bq_m1; rw [show g_101 2 = x_1.toInt by omega, ← tx_129, bw_i, ← eg_132]
              exact hQ _ _ _ _ _ hw (⟨(eR.trans (eR_Y hM_130 (bk_q (z := 0) (by decide) (by decide))) (eR.trans erM_98 f_63)), (by rw [E_133]; exact hs_131), (by rw [E_133]; exact (qV_same qvM_98 (tY_nE hM_130 (nk (by decide))) (by omega) (fun _ _ => by rw [eg_132, su_n (by omega)]) (fun _ _ => by rw [eg_132, su_n (by omega)]))), iM_130, (rq.trans (rq_qw (qw_Y hM_130 (by decide))) (rq.trans (rq_qw q_99) f_60)), (mC_qw (qw.trans (qw_Y hM_130 (by decide)) q_99) f_61), by rw [tY_uE hM_130, upl (by decide)]; omega⟩) dX10_passes_207
            · refine lv_aload_n hx hb dX10_passes_172 rfl (lv_at hl 2 rfl) ?_
              refine ti_get (ci := 10) (k := 38) (N := 67) (T := TX10) (v := .ref (A 60 39)) C hw iw_10 rfl ob_60 (by decide) (by decide) fl_X10_81 rfl rfl dX10_passes_173 ?_
              refine lv_iload_n hx hb dX10_passes_176 rfl (lv_at hl 3 rfl) ?_
              refine ti_iald (ci := 10) (k := 38) (n := 23) C hw ob_60 (by decide) (fun _ _ => rfl) (by unfold vp_in; decide) dX10_passes_177 ?_
              refine lv_topi (fun x_104 ex_104 => ?_)
              have yx_104 : tY M_98 60 38 0 = x_104 := ((congrArg _ (by decide)).symm.trans ex_104.symm)
              have bx_104 : 0 ≤ x_104.toInt ∧ x_104.toInt ≤ 8 := mI_ry (k := 38) (i := 0) iM_98 yx_104.symm
              have zx_104 : (tY M_98 60 38 0).toInt = x_104.toInt := by rw [yx_104]
              have wx_104 : tY M_59 60 38 0 = x_104 := ((cg q_99.2.2.1 0)).symm.trans yx_104
              have zwx_104 : (tY M_59 60 38 0).toInt = x_104.toInt := by rw [wx_104]
              have L_105 : g_101 3 = x_104.toInt := (hrM_98.1.2.1).trans (congrArg Int32.toInt ((cg q_99.2.2.1 0).trans wx_104))
              refine lv_iconst (v := 1) hx hb dX10_passes_178 (by decide) ?_
              refine sb_icmp_le (tgt := 197) hx hb rfl (by decide : (1 : Int32).toInt = 1) dX10_passes_179 (by decide) (fun c_179_105 => ?_) (fun c_179_105 => ?_)
              · refine lv_aload_n hx hb dX10_passes_197 rfl (lv_at hl 2 rfl) ?_
                refine ti_get (ci := 10) (k := 34) (N := 67) (T := TX10) (v := .ref (A 60 35)) C hw iw_10 rfl ob_60 (by decide) (by decide) fl_X10_69 rfl rfl dX10_passes_198 ?_
                refine lv_iload_n hx hb dX10_passes_201 rfl (lv_at hl 3 rfl) ?_
                refine lv_dup2_11 hx hb dX10_passes_202 rfl rfl ?_
                refine ti_iald (ci := 10) (k := 34) (n := 23) C hw ob_60 (by decide) (fun _ _ => rfl) (by unfold vp_in; decide) dX10_passes_203 ?_
                refine ti_top (y := x_1) ((congrArg _ (by decide)).trans ((cg q_100 0).trans ((cg f_62 0).trans yx_1))) ?_
                have L_134 : g_101 2 = x_1.toInt := (hrM_98.1.1).trans (congrArg Int32.toInt ((cg q_100 0).trans ((cg f_62 0).trans yx_1)))
                refine lv_iconst (v := 1) hx hb dX10_passes_204 (by decide) ?_
                refine lv_iadd hx hb dX10_passes_205 ?_
                refine lv_topi (fun x_135 ex_135 => ?_)
                have tx_135 : x_135.toInt = x_1.toInt + 1 := i_add ex_135 rfl (by decide : (1 : Int32).toInt = 1) (by omega) (by omega)
                refine ti_iast (ci := 10) (k := 34) (n := 23) C hw ob_60 (by decide) (fun _ _ => rfl) (by unfold vp_in; decide) dX10_passes_206 (fun H locs hw => ?_)
                obtain ⟨M_136, hM_136⟩ : ∃ z : ti_M, z = uY M_98 60 34 (upd (tY M_98 60 34) (0 : Int32).toNatClampNeg x_135) := ⟨_, rfl⟩
                have hw := hw.to hM_136.symm
                have iM_136 : mI Tm M_136 := mI_up (i := 0) iM_98 hM_136 (fun _ => (ib_mk (lo := 0) (hi := 120) (by omega) (by omega)))
                have hs_137 : qR (tx 4).toNat 0 (pp_su g_101 2 x_135.toInt) M_136 := qR_34 (z := 0) hrM_98 (by decide) rfl hM_136
                obtain ⟨g_138, eg_138⟩ : ∃ z : Nat → Int, z = pp_su g_101 2 x_135.toInt := ⟨_, rfl⟩
                rw [← eg_138] at hs_137
                have sg_138 : g_138 2 = x_135.toInt := by rw [eg_138, su_s]
                have w1g_138 : g_138 1 = g_101 1 := by rw [eg_138, su_n (by omega)]
                have w5g_138 : g_138 5 = g_101 5 := by rw [eg_138, su_n (by omega)]
                have ER : g_64 = bq_rl tx g_29 := by rw [← j_67, show x_56.toInt.toNat = 0 by omega]; rfl
                have w3g_101 : g_101 3 = g_64 3 := by rw [eg_101]; exact su_n (by decide)
                have EM : bq_mt tx g_64 = g_101 := by unfold bq_mt; rw [if_neg (by omega), if_neg (by omega), ← eg_101]
                have E_139 : bq_ps tx rg = g_138 := by unfold bq_ps; rw [← eg_8, ← eg_14, ← eg_19, ← eg_24, ← eg_29, ← ER, EM]; unfold bq_m1; rw [show g_101 2 = x_1.toInt by omega, ← tx_135, bw_i, ← eg_138]
                exact hQ _ _ _ _ _ hw (⟨(eR.trans (eR_Y hM_136 (bk_q (z := 0) (by decide) (by decide))) (eR.trans erM_98 f_63)), (by rw [E_139]; exact hs_137), (by rw [E_139]; exact (qV_same qvM_98 (tY_nE hM_136 (nk (by decide))) (by omega) (fun _ _ => by rw [eg_138, su_n (by omega)]) (fun _ _ => by rw [eg_138, su_n (by omega)]))), iM_136, (rq.trans (rq_qw (qw_Y hM_136 (by decide))) (rq.trans (rq_qw q_99) f_60)), (mC_qw (qw.trans (qw_Y hM_136 (by decide)) q_99) f_61), by rw [tY_uE hM_136, upl (by decide)]; omega⟩) dX10_passes_207
              · refine lv_aload_n hx hb dX10_passes_182 rfl (lv_at hl 2 rfl) ?_
                refine lv_iload_n hx hb dX10_passes_183 rfl (lv_at hl 3 rfl) ?_
                refine lv_aload_n hx hb dX10_passes_184 rfl (lv_at hl 2 rfl) ?_
                refine ti_get (ci := 10) (k := 38) (N := 67) (T := TX10) (v := .ref (A 60 39)) C hw iw_10 rfl ob_60 (by decide) (by decide) fl_X10_81 rfl rfl dX10_passes_185 ?_
                refine lv_iload_n hx hb dX10_passes_188 rfl (lv_at hl 3 rfl) ?_
                refine ti_iald (ci := 10) (k := 38) (n := 23) C hw ob_60 (by decide) (fun _ _ => rfl) (by unfold vp_in; decide) dX10_passes_189 ?_
                refine ti_top (y := x_104) ((congrArg _ (by decide)).trans ((cg q_99.2.2.1 0).trans wx_104)) ?_
                have L_107 : g_101 3 = x_104.toInt := (hrM_98.1.2.1).trans (congrArg Int32.toInt ((cg q_99.2.2.1 0).trans wx_104))
                refine lv_iconst (v := 1) hx hb dX10_passes_190 (by decide) ?_
                refine lv_isub hx hb dX10_passes_191 ?_
                refine lv_topi (fun x_108 ex_108 => ?_)
                have tx_108 : x_108.toInt = x_104.toInt - 1 := i_sub ex_108 rfl (by decide : (1 : Int32).toInt = 1) (by omega) (by omega)
                refine lv_iconst (v := 3) hx hb dX10_passes_192 (by decide) ?_
                refine lv_iload_n hx hb dX10_passes_193 rfl (lv_at hl 1 rfl) ?_
                have lk_111 : (tY M_98 60 38 0).toInt = (tY M_59 60 38 0).toInt := by rw [(cg q_99.2.2.1 0)]
                refine ti_callVv (ci := 10) (av := [.int 0, .int x_108, .int 3, .int x_1]) C hw (z_X10_leaves_0 l D A cy hJ M_98 iM_98 (mC_qw q_99 f_61) x_108 3 x_1 (by first | omega | decide | (have l0 : (0 : Int32).toInt = 0 := (by decide); have l2 : (2 : Int32).toInt = 2 := (by decide); have l3 : (3 : Int32).toInt = 3 := (by decide); omega)) (by first | omega | decide | (have l0 : (0 : Int32).toInt = 0 := (by decide); have l2 : (2 : Int32).toInt = 2 := (by decide); have l3 : (3 : Int32).toInt = 3 := (by decide); omega)) (by first | omega | decide | (have l0 : (0 : Int32).toInt = 0 := (by decide); have l2 : (2 : Int32).toInt = 2 := (by decide); have l3 : (3 : Int32).toInt = 3 := (by decide); omega)) tx g_101 (tR_lw htr (eR_lw (q := 0) (eR.trans erM_98 f_63))) ht4 hrM_98 qvM_98 wpg_101 (by omega)) ⟨ml_X10_377, ym_X10_leaves, yv_X10_leaves, yi_X10_leaves, yc_X10_leaves⟩ yd_X10_leaves ob_60 (by decide) rfl rfl hl.1 (Nat.le_of_ble_eq_true rfl) ⟨by decide, by decide⟩ ⟨Nat.zero_le _, Nat.zero_le _⟩ dX10_passes_194 (fun M_110 H locs hp_110 hw => ?_)
                obtain ⟨erM_110, hrM_110, qvM_110, hqM_110⟩ := hp_110
                obtain ⟨iM_110, q_112, q_113, q_114, p0r_109⟩ := hqM_110
                simp only [show (3 : Int32).toInt = 3 by decide] at hrM_110 qvM_110
                obtain ⟨g_115, eg_115⟩ : ∃ z : Nat → Int, z = bq_rm g_101 x_108.toInt 3 := ⟨_, rfl⟩
                rw [← eg_115] at hrM_110
                rw [← eg_115] at qvM_110
                have w1g_115 : g_115 1 = g_101 1 := by rw [eg_115]; exact rm_k (by decide)
                have w2g_115 : g_115 2 = g_101 2 := by rw [eg_115]; exact rm_k (by decide)
                have w5g_115 : g_115 5 = g_101 5 := by rw [eg_115]; exact rm_k (by decide)
                have wrg_115 := wF_rm htW wpg_101 (p := x_108.toInt.toNat) (by omega) (ns := 3) (by decide)
                rw [show ((x_108.toInt.toNat : Nat) : Int) = x_108.toInt by omega, ← eg_115] at wrg_115
                have wpg_115 := wrg_115.1
                have wng_115 := wrg_115.2.1
                refine lv_aload_n hx hb dX10_passes_197 rfl (lv_at hl 2 rfl) ?_
                refine ti_get (ci := 10) (k := 34) (N := 67) (T := TX10) (v := .ref (A 60 35)) C hw iw_10 rfl ob_60 (by decide) (by decide) fl_X10_69 rfl rfl dX10_passes_198 ?_
                refine lv_iload_n hx hb dX10_passes_201 rfl (lv_at hl 3 rfl) ?_
                refine lv_dup2_11 hx hb dX10_passes_202 rfl rfl ?_
                refine ti_iald (ci := 10) (k := 34) (n := 23) C hw ob_60 (by decide) (fun _ _ => rfl) (by unfold vp_in; decide) dX10_passes_203 ?_
                refine ti_top (y := x_1) ((congrArg _ (by decide)).trans ((cg q_114 0).trans ((cg q_100 0).trans ((cg f_62 0).trans yx_1)))) ?_
                have L_140 : g_115 2 = x_1.toInt := (hrM_110.1.1).trans (congrArg Int32.toInt ((cg q_114 0).trans ((cg q_100 0).trans ((cg f_62 0).trans yx_1))))
                refine lv_iconst (v := 1) hx hb dX10_passes_204 (by decide) ?_
                refine lv_iadd hx hb dX10_passes_205 ?_
                refine lv_topi (fun x_141 ex_141 => ?_)
                have tx_141 : x_141.toInt = x_1.toInt + 1 := i_add ex_141 rfl (by decide : (1 : Int32).toInt = 1) (by omega) (by omega)
                refine ti_iast (ci := 10) (k := 34) (n := 23) C hw ob_60 (by decide) (fun _ _ => rfl) (by unfold vp_in; decide) dX10_passes_206 (fun H locs hw => ?_)
                obtain ⟨M_142, hM_142⟩ : ∃ z : ti_M, z = uY M_110 60 34 (upd (tY M_110 60 34) (0 : Int32).toNatClampNeg x_141) := ⟨_, rfl⟩
                have hw := hw.to hM_142.symm
                have iM_142 : mI Tm M_142 := mI_up (i := 0) iM_110 hM_142 (fun _ => (ib_mk (lo := 0) (hi := 120) (by omega) (by omega)))
                have hs_143 : qR (tx 4).toNat 0 (pp_su g_115 2 x_141.toInt) M_142 := qR_34 (z := 0) hrM_110 (by decide) rfl hM_142
                obtain ⟨g_144, eg_144⟩ : ∃ z : Nat → Int, z = pp_su g_115 2 x_141.toInt := ⟨_, rfl⟩
                rw [← eg_144] at hs_143
                have sg_144 : g_144 2 = x_141.toInt := by rw [eg_144, su_s]
                have w1g_144 : g_144 1 = g_115 1 := by rw [eg_144, su_n (by omega)]
                have w5g_144 : g_144 5 = g_115 5 := by rw [eg_144, su_n (by omega)]
                have ER : g_64 = bq_rl tx g_29 := by rw [← j_67, show x_56.toInt.toNat = 0 by omega]; rfl
                have w3g_101 : g_101 3 = g_64 3 := by rw [eg_101]; exact su_n (by decide)
                have EM : bq_mt tx g_64 = g_115 := by unfold bq_mt; rw [if_neg (by omega), if_pos (by omega), ← eg_101, show g_64 3 - 1 = x_108.toInt by omega, ← eg_115]
                have E_145 : bq_ps tx rg = g_144 := by unfold bq_ps; rw [← eg_8, ← eg_14, ← eg_19, ← eg_24, ← eg_29, ← ER, EM]; unfold bq_m1; rw [show g_115 2 = x_1.toInt by omega, ← tx_141, bw_i, ← eg_144]
                exact hQ _ _ _ _ _ hw (⟨(eR.trans (eR_Y hM_142 (bk_q (z := 0) (by decide) (by decide))) (eR.trans erM_110 (eR.trans erM_98 f_63))), (by rw [E_145]; exact hs_143), (by rw [E_145]; exact (qV_same qvM_110 (tY_nE hM_142 (nk (by decide))) (by omega) (fun _ _ => by rw [eg_144, su_n (by omega)]) (fun _ _ => by rw [eg_144, su_n (by omega)]))), iM_142, (rq.trans (rq_qw (qw_Y hM_142 (by decide))) (rq.trans q_112 (rq.trans (rq_qw q_99) f_60))), (mC_qw (qw_Y hM_142 (by decide)) q_113), by rw [tY_uE hM_142, upl (by decide)]; omega⟩) dX10_passes_207
      · refine lv_aload_n hx hb dX10_passes_105 rfl (lv_at hl 2 rfl) ?_
        refine ti_get (ci := 10) (k := 41) (N := 67) (T := TX10) (v := .ref (A 60 42)) C hw iw_10 rfl ob_60 (by decide) (by decide) fl_X10_90 rfl rfl dX10_passes_106 ?_
        refine lv_bipush (v := 8) hx hb dX10_passes_109 (by decide) ?_
        refine lv_iload_n hx hb dX10_passes_111 rfl (lv_at hl 3 rfl) ?_
        refine lv_imul hx hb dX10_passes_112 ?_
        refine ti_top (y := 0) (by decide) ?_
        refine lv_aload_n hx hb dX10_passes_113 rfl (lv_at hl 2 rfl) ?_
        refine ti_get (ci := 10) (k := 39) (N := 67) (T := TX10) (v := .ref (A 60 40)) C hw iw_10 rfl ob_60 (by decide) (by decide) fl_X10_84 rfl rfl dX10_passes_114 ?_
        refine lv_bipush (v := 8) hx hb dX10_passes_117 (by decide) ?_
        refine lv_iload_n hx hb dX10_passes_119 rfl (lv_at hl 3 rfl) ?_
        refine lv_imul hx hb dX10_passes_120 ?_
        refine ti_top (y := 0) (by decide) ?_
        refine lv_iload hx hb dX10_passes_121 (lv_at hl 0 rfl) ?_
        refine lv_iadd hx hb dX10_passes_123 ?_
        refine lv_topi (fun x_78 ex_78 => ?_)
        have tx_78 : x_78.toInt = 0 + x_56.toInt := i_add ex_78 (by decide : (0 : Int32).toInt = 0) rfl (by omega) (by omega)
        refine ti_iald (ci := 10) (k := 39) (n := 184) C hw ob_60 (by decide) (fun _ _ => rfl) (vp_in_iff.mpr (by omega)) dX10_passes_124 ?_
        refine lv_topi (fun x_79 ex_79 => ?_)
        have yx_79 : tY M_59 60 39 x_78.toNatClampNeg = x_79 := (ex_79.symm)
        have bx_79 : 0 ≤ x_79.toInt ∧ x_79.toInt ≤ 7 := mI_ry (k := 39) (i := x_78.toNatClampNeg) iM_59 yx_79.symm
        have L_80 : g_64 (96 + x_56.toInt.toNat) = x_79.toInt := (hs_65.2.1 (x_56.toInt.toNat) (by omega) (by omega)).trans (rd_k (n := 8 * 0 + x_56.toInt.toNat) (by omega) (yx_79))
        have A6 := j_68.2.2.1 x_56.toInt.toNat (by omega)
        rw [L_80] at A6
        refine lv_iadd hx hb dX10_passes_125 ?_
        refine lv_topi (fun x_81 ex_81 => ?_)
        have tx_81 : x_81.toInt = 0 + x_79.toInt := i_add ex_81 (by decide : (0 : Int32).toInt = 0) rfl (by omega) (by omega)
        refine ti_iald (ci := 10) (k := 41) (n := 184) C hw ob_60 (by decide) (fun _ _ => rfl) (vp_in_iff.mpr (by omega)) dX10_passes_126 ?_
        refine lv_topi (fun x_82 ex_82 => ?_)
        have yx_82 : tY M_59 60 41 x_81.toNatClampNeg = x_82 := (ex_82.symm)
        have L_83 : g_64 (160 + x_79.toInt.toNat) = x_82.toInt := ((hs_65.2.2.2.1 (x_79.toInt.toNat) (by omega)).2.2.1).trans (rd_k (n := 8 * 0 + x_79.toInt.toNat) (by omega) (yx_82))
        refine sb_if_gt (tgt := 139) hx hb rfl dX10_passes_127 (by decide) (fun c_127_83 => ?_) (fun c_127_83 => ?_)
        · obtain ⟨x_91, ex_91⟩ : ∃ z : Int32, z = x_56 + (-1) := ⟨_, rfl⟩
          have tx_91 : x_91.toInt = x_56.toInt + (-1) := i_add ex_91 rfl (by decide) (by omega) (by omega)
          refine lv_iinc (v := x_91) (lv' := [(4, .int x_91), (3, .int x_1), (0, .ref (A 60 0)), (1, .int 0), (2, .int mu)]) hx hb dX10_passes_139 hl (k := 0) rfl (by rw [ex_91]; rfl) (by decide) rfl (fun ls hl => ?_)
          refine lv_goto (tgt := 99) hx hb dX10_passes_142 (by decide) ?_
          exact ih_74 x_91 M_59 g_64 _ _ _ (by omega) (by first | omega | decide) (by first | omega | decide) iM_59 f_60 f_61 ((f_62)) f_63 hs_65 (by first | omega | decide) (by rw [← j_67, of_go (p := x_56.toInt.toNat) (p' := x_91.toInt.toNat) (s := g_64) (by omega), show bq_o1 g_64 x_56.toInt.toNat = g_64 by (unfold bq_o1; rw [L_80, show g_64 (160 + x_79.toInt.toNat) = x_82.toInt by omega, if_neg (by omega)])]) j_68 j_69 (by first | omega | decide) (by first | omega | decide) (by first | omega | decide) (by first | omega | decide) hw (lv_sub hl [0, 1, 2, 3, 4] rfl)
        · refine lv_aload_n hx hb dX10_passes_130 rfl (lv_at hl 2 rfl) ?_
          refine lv_iload_n hx hb dX10_passes_131 rfl (lv_at hl 3 rfl) ?_
          refine lv_iload hx hb dX10_passes_132 (lv_at hl 0 rfl) ?_
          refine lv_iconst (v := 3) hx hb dX10_passes_134 (by decide) ?_
          refine lv_iload_n hx hb dX10_passes_135 rfl (lv_at hl 1 rfl) ?_
          refine ti_callVv (ci := 10) (av := [.int 0, .int x_56, .int 3, .int x_1]) C hw (z_X10_leaves_0 l D A cy hJ M_59 iM_59 f_61 x_56 3 x_1 (by first | omega | decide | (have l0 : (0 : Int32).toInt = 0 := (by decide); have l2 : (2 : Int32).toInt = 2 := (by decide); have l3 : (3 : Int32).toInt = 3 := (by decide); omega)) (by first | omega | decide | (have l0 : (0 : Int32).toInt = 0 := (by decide); have l2 : (2 : Int32).toInt = 2 := (by decide); have l3 : (3 : Int32).toInt = 3 := (by decide); omega)) (by first | omega | decide | (have l0 : (0 : Int32).toInt = 0 := (by decide); have l2 : (2 : Int32).toInt = 2 := (by decide); have l3 : (3 : Int32).toInt = 3 := (by decide); omega)) tx g_64 (tR_lw htr (eR_lw (q := 0) f_63)) ht4 hs_65 j_69 j_68 (by omega)) ⟨ml_X10_377, ym_X10_leaves, yv_X10_leaves, yi_X10_leaves, yc_X10_leaves⟩ yd_X10_leaves ob_60 (by decide) rfl rfl hl.1 (Nat.le_of_ble_eq_true rfl) ⟨by decide, by decide⟩ ⟨Nat.zero_le _, Nat.zero_le _⟩ dX10_passes_136 (fun M_86 H locs hp_86 hw => ?_)
          obtain ⟨erM_86, hrM_86, qvM_86, hqM_86⟩ := hp_86
          obtain ⟨iM_86, q_87, q_88, q_89, p0r_85⟩ := hqM_86
          simp only [show (3 : Int32).toInt = 3 by decide] at hrM_86 qvM_86
          obtain ⟨g_90, eg_90⟩ : ∃ z : Nat → Int, z = bq_rm g_64 x_56.toInt 3 := ⟨_, rfl⟩
          rw [← eg_90] at hrM_86
          rw [← eg_90] at qvM_86
          have w1g_90 : g_90 1 = g_64 1 := by rw [eg_90]; exact rm_k (by decide)
          have w2g_90 : g_90 2 = g_64 2 := by rw [eg_90]; exact rm_k (by decide)
          have w5g_90 : g_90 5 = g_64 5 := by rw [eg_90]; exact rm_k (by decide)
          have wrg_90 := wF_rm htW j_68 (p := x_56.toInt.toNat) (by omega) (ns := 3) (by decide)
          rw [show ((x_56.toInt.toNat : Nat) : Int) = x_56.toInt by omega, ← eg_90] at wrg_90
          have wpg_90 := wrg_90.1
          have wng_90 := wrg_90.2.1
          obtain ⟨x_92, ex_92⟩ : ∃ z : Int32, z = x_56 + (-1) := ⟨_, rfl⟩
          have tx_92 : x_92.toInt = x_56.toInt + (-1) := i_add ex_92 rfl (by decide) (by omega) (by omega)
          refine lv_iinc (v := x_92) (lv' := [(4, .int x_92), (3, .int x_1), (0, .ref (A 60 0)), (1, .int 0), (2, .int mu)]) hx hb dX10_passes_139 hl (k := 0) rfl (by rw [ex_92]; rfl) (by decide) rfl (fun ls hl => ?_)
          refine lv_goto (tgt := 99) hx hb dX10_passes_142 (by decide) ?_
          exact ih_74 x_92 M_86 g_90 _ _ _ (by omega) (by first | omega | decide) (by first | omega | decide) iM_86 (rq.trans q_87 f_60) q_88 (((q_89).trans f_62)) (eR.trans erM_86 f_63) hrM_86 (by first | omega | decide) (by rw [← j_67, of_go (p := x_56.toInt.toNat) (p' := x_92.toInt.toNat) (s := g_64) (by omega), show bq_o1 g_64 x_56.toInt.toNat = g_90 by (unfold bq_o1; rw [L_80, show g_64 (160 + x_79.toInt.toNat) = x_82.toInt by omega, if_pos (by omega), show ((x_56.toInt.toNat : Nat) : Int) = x_56.toInt by omega, ← eg_90])]) wpg_90 qvM_86 (by first | omega | decide) (by first | omega | decide) (by first | omega | decide) (by first | omega | decide) hw (lv_sub hl [0, 1, 2, 3, 4] rfl)
  refine sb_if_le (tgt := 89) hx hb rfl dX10_passes_42 (by decide) (fun c_42_31 => ?_) (fun c_42_31 => ?_)
  · refine lv_aload_n hx hb dX10_passes_89 rfl (lv_at hl 1 rfl) ?_
    refine ti_get (ci := 10) (k := 38) (N := 67) (T := TX10) (v := .ref (A 60 39)) C hw iw_10 rfl ob_60 (by decide) (by decide) fl_X10_81 rfl rfl dX10_passes_90 ?_
    refine lv_iload_n hx hb dX10_passes_93 rfl (lv_at hl 2 rfl) ?_
    refine ti_iald (ci := 10) (k := 38) (n := 23) C hw ob_60 (by decide) (fun _ _ => rfl) (by unfold vp_in; decide) dX10_passes_94 ?_
    refine ti_top (y := x_30) ((congrArg _ (by decide)).trans ((cg q_27.2.2.1 0).trans ((cg q_22.2.2.1 0).trans ((cg q_17.2.2.1 0).trans wx_30)))) ?_
    have L_49 : g_29 3 = x_30.toInt := (hrM_26.1.2.1).trans (congrArg Int32.toInt ((cg q_27.2.2.1 0).trans ((cg q_22.2.2.1 0).trans ((cg q_17.2.2.1 0).trans wx_30))))
    refine lv_iconst (v := 1) hx hb dX10_passes_95 (by decide) ?_
    refine lv_isub hx hb dX10_passes_96 ?_
    refine lv_topi (fun x_50 ex_50 => ?_)
    have tx_50 : x_50.toInt = x_30.toInt - 1 := i_sub ex_50 rfl (by decide : (1 : Int32).toInt = 1) (by omega) (by omega)
    refine lv_istore (lv' := [(4, .int x_50), (3, .int x_1), (0, .ref (A 60 0)), (1, .int 0), (2, .int mu)]) hx hb dX10_passes_97 hl (by decide) rfl (fun ls hl => ?_)
    have lk_75 : (tY M_26 60 38 0).toInt = (tY M_10 60 38 0).toInt := by rw [((cg q_27.2.2.1 0).trans ((cg q_22.2.2.1 0).trans (cg q_17.2.2.1 0)))]
    exact hl_99_73 ((x_50.toInt + 1 : Int).toNat + 1) x_50 M_26 g_29 _ _ _ (Nat.lt_succ_self _) (by first | omega | decide) (by first | omega | decide) iM_26 (rq.trans (rq_qw q_27) (rq.trans (rq_qw q_22) (rq.trans (rq_qw q_17) (rq.trans q_11 q_5)))) (mC_qw (qw.trans q_27 (qw.trans q_22 q_17)) q_12) (((q_28).trans ((q_23).trans ((q_18).trans ((q_13).trans q_7))))) (eR.trans erM_26 (eR.trans erM_21 (eR.trans erM_16 (eR.trans erM_10 erM_4)))) hrM_26 (by first | omega | decide) (by have ES : bq_sv tx g_29 = g_29 := (by unfold bq_sv; rw [if_neg (by omega)]); unfold bq_rl; rw [ES]; exact congrArg (fun k => bq_of k g_29) (by omega)) wpg_29 qvM_26 (by first | omega | decide) (by first | omega | decide) (by first | omega | decide) (by first | omega | decide) hw (lv_sub hl [0, 1, 2, 3, 4] rfl)
  · refine lv_aload_n hx hb dX10_passes_45 rfl (lv_at hl 1 rfl) ?_
    refine ti_get (ci := 10) (k := 42) (N := 67) (T := TX10) (v := .ref (A 60 43)) C hw iw_10 rfl ob_60 (by decide) (by decide) fl_X10_93 rfl rfl dX10_passes_46 ?_
    refine lv_bipush (v := 8) hx hb dX10_passes_49 (by decide) ?_
    refine lv_iload_n hx hb dX10_passes_51 rfl (lv_at hl 2 rfl) ?_
    refine lv_imul hx hb dX10_passes_52 ?_
    refine ti_top (y := 0) (by decide) ?_
    refine lv_aload_n hx hb dX10_passes_53 rfl (lv_at hl 1 rfl) ?_
    refine ti_get (ci := 10) (k := 39) (N := 67) (T := TX10) (v := .ref (A 60 40)) C hw iw_10 rfl ob_60 (by decide) (by decide) fl_X10_84 rfl rfl dX10_passes_54 ?_
    refine lv_bipush (v := 8) hx hb dX10_passes_57 (by decide) ?_
    refine lv_iload_n hx hb dX10_passes_59 rfl (lv_at hl 2 rfl) ?_
    refine lv_imul hx hb dX10_passes_60 ?_
    refine ti_top (y := 0) (by decide) ?_
    refine ti_iald (ci := 10) (k := 39) (n := 184) C hw ob_60 (by decide) (fun _ _ => rfl) (by unfold vp_in; decide) dX10_passes_61 ?_
    refine lv_topi (fun x_33 ex_33 => ?_)
    have yx_33 : tY M_26 60 39 0 = x_33 := ((congrArg _ (by decide)).symm.trans ex_33.symm)
    have bx_33 : 0 ≤ x_33.toInt ∧ x_33.toInt ≤ 7 := mI_ry (k := 39) (i := 0) iM_26 yx_33.symm
    have wx_33 : tY M_10 60 39 0 = x_33 := (((cg q_27.2.2.2.1 0).trans ((cg q_22.2.2.2.1 0).trans (cg q_17.2.2.2.1 0)))).symm.trans yx_33
    have L_34 : g_29 96 = x_33.toInt := (hrM_26.2.1 (0) (by omega) (by omega)).trans (congrArg Int32.toInt ((cg q_27.2.2.2.1 0).trans ((cg q_22.2.2.2.1 0).trans ((cg q_17.2.2.2.1 0).trans wx_33))))
    have A5 : 0 ≤ g_29 96 ∧ g_29 96 < tx 4 ∧ g_29 (128 + (g_29 96).toNat) = 1 := wpg_29.2.2.1 0 (by omega)
    have D5 := wpg_29.2.2.2.2.2.2.1 (g_29 96).toNat (by omega) (by omega)
    rw [show g_29 96 = x_33.toInt by omega] at A5 D5
    refine lv_iadd hx hb dX10_passes_62 ?_
    refine lv_topi (fun x_35 ex_35 => ?_)
    have tx_35 : x_35.toInt = 0 + x_33.toInt := i_add ex_35 (by decide : (0 : Int32).toInt = 0) rfl (by omega) (by omega)
    refine ti_iald (ci := 10) (k := 42) (n := 184) C hw ob_60 (by decide) (fun _ _ => rfl) (vp_in_iff.mpr (by omega)) dX10_passes_63 ?_
    refine lv_topi (fun x_36 ex_36 => ?_)
    have yx_36 : tY M_26 60 42 x_35.toNatClampNeg = x_36 := (ex_36.symm)
    have L_37 : g_29 (176 + x_33.toInt.toNat) = x_36.toInt := ((hrM_26.2.2.2.1 (x_33.toInt.toNat) (by omega)).2.2.2.1).trans (rd_k (n := 8 * 0 + x_33.toInt.toNat) (by omega) (yx_36))
    refine lv_aload_n hx hb dX10_passes_64 rfl (lv_at hl 1 rfl) ?_
    refine ti_get (ci := 10) (k := 8) (N := 67) (T := TX10) (v := .ref (A 60 9)) C hw iw_10 rfl ob_60 (by decide) (by decide) fl_X10_28 rfl rfl dX10_passes_65 ?_
    refine lv_aload_n hx hb dX10_passes_68 rfl (lv_at hl 1 rfl) ?_
    refine ti_get (ci := 10) (k := 39) (N := 67) (T := TX10) (v := .ref (A 60 40)) C hw iw_10 rfl ob_60 (by decide) (by decide) fl_X10_84 rfl rfl dX10_passes_69 ?_
    refine lv_bipush (v := 8) hx hb dX10_passes_72 (by decide) ?_
    refine lv_iload_n hx hb dX10_passes_74 rfl (lv_at hl 2 rfl) ?_
    refine lv_imul hx hb dX10_passes_75 ?_
    refine ti_top (y := 0) (by decide) ?_
    refine ti_iald (ci := 10) (k := 39) (n := 184) C hw ob_60 (by decide) (fun _ _ => rfl) (by unfold vp_in; decide) dX10_passes_76 ?_
    refine ti_top (y := x_33) ((congrArg _ (by decide)).trans ((cg q_27.2.2.2.1 0).trans ((cg q_22.2.2.2.1 0).trans ((cg q_17.2.2.2.1 0).trans wx_33)))) ?_
    have L_38 : g_29 96 = x_33.toInt := (hrM_26.2.1 (0) (by omega) (by omega)).trans (congrArg Int32.toInt ((cg q_27.2.2.2.1 0).trans ((cg q_22.2.2.2.1 0).trans ((cg q_17.2.2.2.1 0).trans wx_33))))
    refine ti_iald (ci := 10) (k := 8) (n := 16) C hw ob_60 (by decide) (fun _ _ => rfl) (vp_in_iff.mpr (by omega)) dX10_passes_77 ?_
    refine lv_topi (fun x_39 ex_39 => ?_)
    have yx_39 : tY M_26 60 8 x_33.toNatClampNeg = x_39 := (ex_39.symm)
    have wx_39 : tY M 60 8 x_33.toNatClampNeg = x_39 := (((cg (q_27.1 8 (by decide) (by decide)) x_33.toNatClampNeg).trans ((cg (q_22.1 8 (by decide) (by decide)) x_33.toNatClampNeg).trans ((cg (q_17.1 8 (by decide) (by decide)) x_33.toNatClampNeg).trans ((cg (q_11.1 8 (by decide) (by decide)) x_33.toNatClampNeg).trans (cg (q_5.1 8 (by decide) (by decide)) x_33.toNatClampNeg)))))).symm.trans yx_39
    have L_40 : tx (100 + 16 * x_33.toInt.toNat + 4) = x_39.toInt := (htr.2.2.1 (x_33.toInt.toNat) (by omega) (by omega)).2.2.2.1.trans ((congrArg Int32.toInt (cg (((q_27.1 8 (by decide) (by decide)).trans ((q_22.1 8 (by decide) (by decide)).trans ((q_17.1 8 (by decide) (by decide)).trans ((q_11.1 8 (by decide) (by decide)).trans (q_5.1 8 (by decide) (by decide))))))) (x_33.toInt.toNat))).symm.trans (rd_k (n := x_33.toInt.toNat) (by omega) ((cg (q_27.1 8 (by decide) (by decide)) x_33.toNatClampNeg).trans ((cg (q_22.1 8 (by decide) (by decide)) x_33.toNatClampNeg).trans ((cg (q_17.1 8 (by decide) (by decide)) x_33.toNatClampNeg).trans ((cg (q_11.1 8 (by decide) (by decide)) x_33.toNatClampNeg).trans ((cg (q_5.1 8 (by decide) (by decide)) x_33.toNatClampNeg).trans wx_39)))))))
    refine sb_icmp_ne (tgt := 89) hx hb rfl rfl dX10_passes_78 (by decide) (fun c_78_40 => ?_) (fun c_78_40 => ?_)
    · refine lv_aload_n hx hb dX10_passes_89 rfl (lv_at hl 1 rfl) ?_
      refine ti_get (ci := 10) (k := 38) (N := 67) (T := TX10) (v := .ref (A 60 39)) C hw iw_10 rfl ob_60 (by decide) (by decide) fl_X10_81 rfl rfl dX10_passes_90 ?_
      refine lv_iload_n hx hb dX10_passes_93 rfl (lv_at hl 2 rfl) ?_
      refine ti_iald (ci := 10) (k := 38) (n := 23) C hw ob_60 (by decide) (fun _ _ => rfl) (by unfold vp_in; decide) dX10_passes_94 ?_
      refine ti_top (y := x_30) ((congrArg _ (by decide)).trans ((cg q_27.2.2.1 0).trans ((cg q_22.2.2.1 0).trans ((cg q_17.2.2.1 0).trans wx_30)))) ?_
      have L_51 : g_29 3 = x_30.toInt := (hrM_26.1.2.1).trans (congrArg Int32.toInt ((cg q_27.2.2.1 0).trans ((cg q_22.2.2.1 0).trans ((cg q_17.2.2.1 0).trans wx_30))))
      refine lv_iconst (v := 1) hx hb dX10_passes_95 (by decide) ?_
      refine lv_isub hx hb dX10_passes_96 ?_
      refine lv_topi (fun x_52 ex_52 => ?_)
      have tx_52 : x_52.toInt = x_30.toInt - 1 := i_sub ex_52 rfl (by decide : (1 : Int32).toInt = 1) (by omega) (by omega)
      refine lv_istore (lv' := [(4, .int x_52), (3, .int x_1), (0, .ref (A 60 0)), (1, .int 0), (2, .int mu)]) hx hb dX10_passes_97 hl (by decide) rfl (fun ls hl => ?_)
      have lk_76 : (tY M_26 60 38 0).toInt = (tY M_10 60 38 0).toInt := by rw [((cg q_27.2.2.1 0).trans ((cg q_22.2.2.1 0).trans (cg q_17.2.2.1 0)))]
      exact hl_99_73 ((x_52.toInt + 1 : Int).toNat + 1) x_52 M_26 g_29 _ _ _ (Nat.lt_succ_self _) (by first | omega | decide) (by first | omega | decide) iM_26 (rq.trans (rq_qw q_27) (rq.trans (rq_qw q_22) (rq.trans (rq_qw q_17) (rq.trans q_11 q_5)))) (mC_qw (qw.trans q_27 (qw.trans q_22 q_17)) q_12) (((q_28).trans ((q_23).trans ((q_18).trans ((q_13).trans q_7))))) (eR.trans erM_26 (eR.trans erM_21 (eR.trans erM_16 (eR.trans erM_10 erM_4)))) hrM_26 (by first | omega | decide) (by have ES : bq_sv tx g_29 = g_29 := (by unfold bq_sv; rw [show g_29 96 = x_33.toInt by omega, show tx (100 + 16 * x_33.toInt.toNat + 4) = x_39.toInt by omega]; rw [if_neg (by omega)]); unfold bq_rl; rw [ES]; exact congrArg (fun k => bq_of k g_29) (by omega)) wpg_29 qvM_26 (by first | omega | decide) (by first | omega | decide) (by first | omega | decide) (by first | omega | decide) hw (lv_sub hl [0, 1, 2, 3, 4] rfl)
    · refine lv_aload_n hx hb dX10_passes_81 rfl (lv_at hl 1 rfl) ?_
      refine lv_iload_n hx hb dX10_passes_82 rfl (lv_at hl 2 rfl) ?_
      refine lv_iconst (v := 0) hx hb dX10_passes_83 (by decide) ?_
      refine lv_iconst (v := 2) hx hb dX10_passes_84 (by decide) ?_
      refine lv_iload_n hx hb dX10_passes_85 rfl (lv_at hl 0 rfl) ?_
      have lk_44 : (tY M_26 60 38 0).toInt = (tY M_10 60 38 0).toInt := by rw [((cg q_27.2.2.1 0).trans ((cg q_22.2.2.1 0).trans (cg q_17.2.2.1 0)))]
      refine ti_callVv (ci := 10) (av := [.int 0, .int 0, .int 2, .int x_1]) C hw (z_X10_leaves_0 l D A cy hJ M_26 iM_26 (mC_qw (qw.trans q_27 (qw.trans q_22 q_17)) q_12) 0 2 x_1 (by first | omega | decide | (have l0 : (0 : Int32).toInt = 0 := (by decide); have l2 : (2 : Int32).toInt = 2 := (by decide); have l3 : (3 : Int32).toInt = 3 := (by decide); omega)) (by first | omega | decide | (have l0 : (0 : Int32).toInt = 0 := (by decide); have l2 : (2 : Int32).toInt = 2 := (by decide); have l3 : (3 : Int32).toInt = 3 := (by decide); omega)) (by first | omega | decide | (have l0 : (0 : Int32).toInt = 0 := (by decide); have l2 : (2 : Int32).toInt = 2 := (by decide); have l3 : (3 : Int32).toInt = 3 := (by decide); omega)) tx g_29 (tR_lw htr (eR_lw (q := 0) (eR.trans erM_26 (eR.trans erM_21 (eR.trans erM_16 (eR.trans erM_10 erM_4)))))) ht4 hrM_26 qvM_26 wpg_29 (by omega)) ⟨ml_X10_377, ym_X10_leaves, yv_X10_leaves, yi_X10_leaves, yc_X10_leaves⟩ yd_X10_leaves ob_60 (by decide) rfl rfl hl.1 (Nat.le_of_ble_eq_true rfl) ⟨by decide, by decide⟩ ⟨Nat.zero_le _, Nat.zero_le _⟩ dX10_passes_86 (fun M_43 H locs hp_43 hw => ?_)
      obtain ⟨erM_43, hrM_43, qvM_43, hqM_43⟩ := hp_43
      obtain ⟨iM_43, q_45, q_46, q_47, p0r_42⟩ := hqM_43
      simp only [show (0 : Int32).toInt = 0 by decide] at hrM_43 qvM_43
      simp only [show (2 : Int32).toInt = 2 by decide] at hrM_43 qvM_43
      obtain ⟨g_48, eg_48⟩ : ∃ z : Nat → Int, z = bq_rm g_29 0 2 := ⟨_, rfl⟩
      rw [← eg_48] at hrM_43
      rw [← eg_48] at qvM_43
      have w1g_48 : g_48 1 = g_29 1 := by rw [eg_48]; exact rm_k (by decide)
      have w2g_48 : g_48 2 = g_29 2 := by rw [eg_48]; exact rm_k (by decide)
      have w5g_48 : g_48 5 = g_29 5 := by rw [eg_48]; exact rm_k (by decide)
      have wrg_48 := wF_rm htW wpg_29 (p := 0) (by omega) (ns := 2) (by decide)
      rw [show ((0 : Nat) : Int) = 0 by rfl, ← eg_48] at wrg_48
      have wpg_48 := wrg_48.1
      have wng_48 := wrg_48.2.1
      refine lv_aload_n hx hb dX10_passes_89 rfl (lv_at hl 1 rfl) ?_
      refine ti_get (ci := 10) (k := 38) (N := 67) (T := TX10) (v := .ref (A 60 39)) C hw iw_10 rfl ob_60 (by decide) (by decide) fl_X10_81 rfl rfl dX10_passes_90 ?_
      refine lv_iload_n hx hb dX10_passes_93 rfl (lv_at hl 2 rfl) ?_
      refine ti_iald (ci := 10) (k := 38) (n := 23) C hw ob_60 (by decide) (fun _ _ => rfl) (by unfold vp_in; decide) dX10_passes_94 ?_
      refine lv_topi (fun x_53 ex_53 => ?_)
      have yx_53 : tY M_43 60 38 0 = x_53 := ((congrArg _ (by decide)).symm.trans ex_53.symm)
      have bx_53 : 0 ≤ x_53.toInt ∧ x_53.toInt ≤ 8 := mI_ry (k := 38) (i := 0) iM_43 yx_53.symm
      have zx_53 : (tY M_43 60 38 0).toInt = x_53.toInt := by rw [yx_53]
      have L_54 : g_48 3 = x_53.toInt := (hrM_43.1.2.1).trans (congrArg Int32.toInt (yx_53))
      refine lv_iconst (v := 1) hx hb dX10_passes_95 (by decide) ?_
      refine lv_isub hx hb dX10_passes_96 ?_
      refine lv_topi (fun x_55 ex_55 => ?_)
      have tx_55 : x_55.toInt = x_53.toInt - 1 := i_sub ex_55 rfl (by decide : (1 : Int32).toInt = 1) (by omega) (by omega)
      refine lv_istore (lv' := [(4, .int x_55), (3, .int x_1), (0, .ref (A 60 0)), (1, .int 0), (2, .int mu)]) hx hb dX10_passes_97 hl (by decide) rfl (fun ls hl => ?_)
      exact hl_99_73 ((x_55.toInt + 1 : Int).toNat + 1) x_55 M_43 g_48 _ _ _ (Nat.lt_succ_self _) (by first | omega | decide) (by first | omega | decide) iM_43 (rq.trans q_45 (rq.trans (rq_qw q_27) (rq.trans (rq_qw q_22) (rq.trans (rq_qw q_17) (rq.trans q_11 q_5))))) q_46 (((q_47).trans ((q_28).trans ((q_23).trans ((q_18).trans ((q_13).trans q_7)))))) (eR.trans erM_43 (eR.trans erM_26 (eR.trans erM_21 (eR.trans erM_16 (eR.trans erM_10 erM_4))))) hrM_43 (by first | omega | decide) (by have ES : bq_sv tx g_29 = g_48 := (by unfold bq_sv; rw [show g_29 96 = x_33.toInt by omega, show tx (100 + 16 * x_33.toInt.toNat + 4) = x_39.toInt by omega]; rw [if_pos (by omega), ← eg_48]); unfold bq_rl; rw [ES]; exact congrArg (fun k => bq_of k g_48) (by omega)) wpg_48 qvM_43 (by first | omega | decide) (by first | omega | decide) (by first | omega | decide) (by first | omega | decide) hw (lv_sub hl [0, 1, 2, 3, 4] rfl)
set_option maxHeartbeats 4000000 in
set_option maxRecDepth 100000 in
theorem z_X10_passes_1 (l : Launch) (D : va_G) (A : Nat → Nat → Nat) (cy : Nat → ClassId) (hJ : ti_inj ti_LM A) (M : ti_M) (hI : mI Tm M) (hC : mC M 1) (hL : mL M) (mu : Int32) (tx rg : Nat → Int) (htr : tR tx M) (ht4 : 0 ≤ tx 4 ∧ tx 4 ≤ 8) (hr : qR (tx 4).toNat 1 rg M) (hV : qV (tx 4).toNat 1 rg M) (hwf : wF tx rg) (htw : tI M 60 53 = -1) (htW : tW tx) (h1 : rg 1 = 1 ∨ rg 1 = 3) (hmu : mu.toInt = 0 ↔ rg 1 = 3) (h2 : 0 ≤ rg 2) : ti_Kv l yX10_passes cX10_passes 5 6 ti_LM D A cy M [.ref (A 60 0), .int 1, .int mu] (fun M2 => eR 1 M2 M ∧ qR (tx 4).toNat 1 (bq_ps tx rg) M2 ∧ qV (tx 4).toNat 1 (bq_ps tx rg) M2 ∧ mI Tm M2 ∧ rq 1 M2 M ∧ mC M2 1) := by
  refine ti_eV yp_X10_passes hJ ti_LM_nd (Nat.le_of_ble_eq_true rfl) ?_
  intro p e s m args below meth c Q H0 C hQ hw ls hl
  have hx := C.1
  have hb := C.2.1
  have hl : lv_has ls 5 [(0, .ref (A 60 0)), (1, .int 1), (2, .int mu)] := hl
  have h5 := hwf.2.1.2
  have ht10 := htW.2.2.2.2.2.1
  refine lv_aload_n hx hb dX10_passes_0 rfl (lv_at hl 0 rfl) ?_
  refine ti_get (ci := 10) (k := 34) (N := 67) (T := TX10) (v := .ref (A 60 35)) C hw iw_10 rfl ob_60 (by decide) (by decide) fl_X10_69 rfl rfl dX10_passes_1 ?_
  refine lv_iload_n hx hb dX10_passes_4 rfl (lv_at hl 1 rfl) ?_
  refine ti_iald (ci := 10) (k := 34) (n := 23) C hw ob_60 (by decide) (fun _ _ => rfl) (by unfold vp_in; decide) dX10_passes_5 ?_
  refine lv_topi (fun x_1 ex_1 => ?_)
  have yx_1 : tY M 60 34 1 = x_1 := ((congrArg _ (by decide)).symm.trans ex_1.symm)
  have zx_1 : (tY M 60 34 1).toInt = x_1.toInt := by rw [yx_1]
  have L_2 : rg 2 = x_1.toInt := (hr.1.1).trans (congrArg Int32.toInt (yx_1))
  refine lv_istore_n (lv' := [(3, .int x_1), (0, .ref (A 60 0)), (1, .int 1), (2, .int mu)]) hx hb dX10_passes_6 rfl hl (by decide) rfl (fun ls hl => ?_)
  refine lv_aload_n hx hb dX10_passes_7 rfl (lv_at hl 1 rfl) ?_
  refine lv_iload_n hx hb dX10_passes_8 rfl (lv_at hl 2 rfl) ?_
  refine lv_iload_n hx hb dX10_passes_9 rfl (lv_at hl 0 rfl) ?_
  refine ti_callVv (ci := 10) (av := [.int 1, .int x_1]) C hw (z_X10_arrive_1 l D A cy hJ M hI hC x_1 tx rg htr ht4 hr hV hwf htW (by omega)) ⟨ml_X10_382, ym_X10_arrive, yv_X10_arrive, yi_X10_arrive, yc_X10_arrive⟩ yd_X10_arrive ob_60 (by decide) rfl rfl hl.1 (Nat.le_of_ble_eq_true rfl) ⟨by decide, by decide⟩ ⟨Nat.zero_le _, Nat.zero_le _⟩ dX10_passes_10 (fun M_4 H locs hp_4 hw => ?_)
  obtain ⟨erM_4, hrM_4, qvM_4, hqM_4⟩ := hp_4
  obtain ⟨iM_4, q_5, q_6, q_7⟩ := hqM_4
  obtain ⟨g_8, eg_8⟩ : ∃ z : Nat → Int, z = bq_wl tx (tx 4).toNat rg := ⟨_, rfl⟩
  rw [← eg_8] at hrM_4
  have w1g_8 : g_8 1 = rg 1 := by rw [eg_8]; exact wl_k (k := 1) (by decide) _ _
  have w2g_8 : g_8 2 = rg 2 := by rw [eg_8]; exact wl_k (k := 2) (by decide) _ _
  have w5g_8 : g_8 5 = rg 5 := by rw [eg_8]; exact wl_k (k := 5) (by decide) _ _
  have wpg_8 : wF tx g_8 := by rw [eg_8]; exact wF_wl htW _ _ hwf
  rw [← eg_8] at qvM_4
  refine lv_aload_n hx hb dX10_passes_13 rfl (lv_at hl 1 rfl) ?_
  refine lv_iload_n hx hb dX10_passes_14 rfl (lv_at hl 2 rfl) ?_
  refine lv_iload_n hx hb dX10_passes_15 rfl (lv_at hl 0 rfl) ?_
  refine ti_callVv (ci := 10) (av := [.int 1, .int x_1]) C hw (z_X10_coughing_1 l D A cy hJ M_4 iM_4 q_6 (mL_lw (lk_of q_5.1 q_5.2.1).1 hL) x_1 tx g_8 (tR_lw htr (eR_lw (q := 1) erM_4)) ht4 hrM_4 qvM_4 wpg_8 htW (by omega) (by omega)) ⟨ml_X10_385, ym_X10_coughing, yv_X10_coughing, yi_X10_coughing, yc_X10_coughing⟩ yd_X10_coughing ob_60 (by decide) rfl rfl hl.1 (Nat.le_of_ble_eq_true rfl) ⟨by decide, by decide⟩ ⟨Nat.zero_le _, Nat.zero_le _⟩ dX10_passes_16 (fun M_10 H locs hp_10 hw => ?_)
  obtain ⟨erM_10, hrM_10, qvM_10, hqM_10⟩ := hp_10
  obtain ⟨iM_10, q_11, q_12, q_13⟩ := hqM_10
  refine lv_aload_n hx hb dX10_passes_19 rfl (lv_at hl 1 rfl) ?_
  refine lv_iload_n hx hb dX10_passes_20 rfl (lv_at hl 2 rfl) ?_
  refine ti_callVv (ci := 10) (av := [.int 1]) C hw (z_X10_pour_1 l D A cy hJ M_10 iM_10  tx g_8 (tR_lw htr (eR_lw (q := 1) (eR.trans erM_10 erM_4))) ht4 hrM_10 wpg_8 ((erM_10.1 53 (by decide)).trans ((erM_4.1 53 (by decide)).trans htw))) ⟨ml_X10_388, ym_X10_pour, yv_X10_pour, yi_X10_pour, yc_X10_pour⟩ yd_X10_pour ob_60 (by decide) rfl rfl hl.1 (Nat.le_of_ble_eq_true rfl) ⟨by decide, by decide⟩ ⟨Nat.zero_le _, Nat.zero_le _⟩ dX10_passes_21 (fun M_15 H locs hp_15 hw => ?_)
  obtain ⟨erM_15, e48M_15, hrM_15, hqM_15⟩ := hp_15
  obtain ⟨iM_15, q_16, q_17⟩ := hqM_15
  obtain ⟨g_18, eg_18⟩ : ∃ z : Nat → Int, z = bq_pr tx g_8 := ⟨_, rfl⟩
  rw [← eg_18] at hrM_15
  have w1g_18 : g_18 1 = g_8 1 := by rw [eg_18]; exact pr_k (by decide)
  have w2g_18 : g_18 2 = g_8 2 := by rw [eg_18]; exact pr_k (by decide)
  have w5g_18 : g_18 5 = g_8 5 := by rw [eg_18]; exact pr_k (by decide)
  have wpg_18 : wF tx g_18 := by rw [eg_18]; exact wF_pr htW wpg_8
  have qvM_15 : qV (tx 4).toNat 1 g_18 M_15 := qV_same qvM_10 e48M_15 (by omega) (fun m hm => by rw [eg_18]; exact pr_v htW wpg_8 (by omega)) (fun m hm => by rw [eg_18]; exact pr_v htW wpg_8 (by omega))
  refine lv_aload_n hx hb dX10_passes_24 rfl (lv_at hl 1 rfl) ?_
  refine lv_iload_n hx hb dX10_passes_25 rfl (lv_at hl 2 rfl) ?_
  refine lv_iload_n hx hb dX10_passes_26 rfl (lv_at hl 0 rfl) ?_
  refine ti_callVv (ci := 10) (av := [.int 1, .int x_1]) C hw (z_X10_levy_1 l D A cy hJ M_15 iM_15 (mL_lw (lk.trans (lk_of q_16.1 q_16.2.1) (lk.trans (lk_of q_11.1 q_11.2.1) (lk_of q_5.1 q_5.2.1))).1 hL) x_1 tx g_18 (tR_lw htr (eR_lw (q := 1) (eR.trans erM_15 (eR.trans erM_10 erM_4)))) ht4 hrM_15 wpg_18 ((erM_15.1 53 (by decide)).trans ((erM_10.1 53 (by decide)).trans ((erM_4.1 53 (by decide)).trans htw))) htW (by omega) (by omega)) ⟨ml_X10_391, ym_X10_levy, yv_X10_levy, yi_X10_levy, yc_X10_levy⟩ yd_X10_levy ob_60 (by decide) rfl rfl hl.1 (Nat.le_of_ble_eq_true rfl) ⟨by decide, by decide⟩ ⟨Nat.zero_le _, Nat.zero_le _⟩ dX10_passes_27 (fun M_20 H locs hp_20 hw => ?_)
  obtain ⟨erM_20, e48M_20, hrM_20, hqM_20⟩ := hp_20
  obtain ⟨iM_20, q_21, q_22⟩ := hqM_20
  obtain ⟨g_23, eg_23⟩ : ∃ z : Nat → Int, z = bq_ly tx g_18 := ⟨_, rfl⟩
  rw [← eg_23] at hrM_20
  have w1g_23 : g_23 1 = g_18 1 := by rw [eg_23]; exact ly_k (by decide)
  have w2g_23 : g_23 2 = g_18 2 := by rw [eg_23]; exact ly_k (by decide)
  have w5g_23 : g_23 5 = g_18 5 := by rw [eg_23]; exact ly_k (by decide)
  have wpg_23 : wF tx g_23 := by rw [eg_23]; exact wF_ly htW wpg_18
  have qvM_20 : qV (tx 4).toNat 1 g_23 M_20 := qV_same qvM_15 e48M_20 (by omega) (fun m hm => by rw [eg_23]; exact ly_v htW wpg_18 (by omega)) (fun m hm => by rw [eg_23]; exact ly_v htW wpg_18 (by omega))
  refine lv_aload_n hx hb dX10_passes_30 rfl (lv_at hl 1 rfl) ?_
  refine lv_iload_n hx hb dX10_passes_31 rfl (lv_at hl 2 rfl) ?_
  refine lv_iload_n hx hb dX10_passes_32 rfl (lv_at hl 0 rfl) ?_
  refine ti_callVv (ci := 10) (av := [.int 1, .int x_1]) C hw (z_X10_wear_1 l D A cy hJ M_20 iM_20 (mL_lw (lk.trans (lk_of q_21.1 q_21.2.1) (lk.trans (lk_of q_16.1 q_16.2.1) (lk.trans (lk_of q_11.1 q_11.2.1) (lk_of q_5.1 q_5.2.1)))).1 hL) x_1 tx g_23 (tR_lw htr (eR_lw (q := 1) (eR.trans erM_20 (eR.trans erM_15 (eR.trans erM_10 erM_4))))) ht4 hrM_20 wpg_23 ((erM_20.1 53 (by decide)).trans ((erM_15.1 53 (by decide)).trans ((erM_10.1 53 (by decide)).trans ((erM_4.1 53 (by decide)).trans htw)))) (by omega)) ⟨ml_X10_394, ym_X10_wear, yv_X10_wear, yi_X10_wear, yc_X10_wear⟩ yd_X10_wear ob_60 (by decide) rfl rfl hl.1 (Nat.le_of_ble_eq_true rfl) ⟨by decide, by decide⟩ ⟨Nat.zero_le _, Nat.zero_le _⟩ dX10_passes_33 (fun M_25 H locs hp_25 hw => ?_)
  obtain ⟨erM_25, e48M_25, hrM_25, hqM_25⟩ := hp_25
  obtain ⟨iM_25, q_26, q_27⟩ := hqM_25
  obtain ⟨g_28, eg_28⟩ : ∃ z : Nat → Int, z = bq_wr tx g_23 := ⟨_, rfl⟩
  rw [← eg_28] at hrM_25
  have w1g_28 : g_28 1 = g_23 1 := by rw [eg_28]; exact wr_k (by decide)
  have w2g_28 : g_28 2 = g_23 2 := by rw [eg_28]; exact wr_k (by decide)
  have w5g_28 : g_28 5 = g_23 5 := by rw [eg_28]; exact wr_k (by decide)
  have wpg_28 : wF tx g_28 := by rw [eg_28]; exact wF_wr htW wpg_23
  have qvM_25 : qV (tx 4).toNat 1 g_28 M_25 := qV_same qvM_20 e48M_25 (by omega) (fun m hm => by rw [eg_28]; exact wr_v htW wpg_23 (by omega)) (fun m hm => by rw [eg_28]; exact wr_v htW wpg_23 (by omega))
  have w85 := wF_8 wpg_28
  refine lv_aload_n hx hb dX10_passes_36 rfl (lv_at hl 1 rfl) ?_
  refine ti_get (ci := 10) (k := 38) (N := 67) (T := TX10) (v := .ref (A 60 39)) C hw iw_10 rfl ob_60 (by decide) (by decide) fl_X10_81 rfl rfl dX10_passes_37 ?_
  refine lv_iload_n hx hb dX10_passes_40 rfl (lv_at hl 2 rfl) ?_
  refine ti_iald (ci := 10) (k := 38) (n := 23) C hw ob_60 (by decide) (fun _ _ => rfl) (by unfold vp_in; decide) dX10_passes_41 ?_
  refine lv_topi (fun x_29 ex_29 => ?_)
  have yx_29 : tY M_25 60 38 1 = x_29 := ((congrArg _ (by decide)).symm.trans ex_29.symm)
  have bx_29 : 0 ≤ x_29.toInt ∧ x_29.toInt ≤ 8 := mI_ry (k := 38) (i := 1) iM_25 yx_29.symm
  have zx_29 : (tY M_25 60 38 1).toInt = x_29.toInt := by rw [yx_29]
  have wx_29 : tY M_10 60 38 1 = x_29 := (((cg q_26.2.2.1 1).trans ((cg q_21.2.2.1 1).trans (cg q_16.2.2.1 1)))).symm.trans yx_29
  have zwx_29 : (tY M_10 60 38 1).toInt = x_29.toInt := by rw [wx_29]
  have L_30 : g_28 3 = x_29.toInt := (hrM_25.1.2.1).trans (congrArg Int32.toInt ((cg q_26.2.2.1 1).trans ((cg q_21.2.2.1 1).trans ((cg q_16.2.2.1 1).trans wx_29))))
  have hl_99_72 : ∀ (n_73 : Nat) (x_55 : Int32) (M_58 : ti_M) (g_63 : Nat → Int) (H : Heap) (locs : List Loc) (ls : Array Slot), (x_55.toInt + 1 : Int).toNat < n_73 → ((-1) ≤ x_55.toInt) → (x_55.toInt ≤ 7) → (mI Tm M_58) → (rq 1 M_58 M) → (mC M_58 1) → (tY M_58 60 34 = tY M 60 34) → (eR 1 M_58 M) → (qR (tx 4).toNat 1 g_63 M_58) → (x_55.toInt < (tY M_58 60 38 1).toInt) → (bq_of (x_55.toInt).toNat g_63 = bq_rl tx g_28) → (wF tx g_63) → (qV (tx 4).toNat 1 g_63 M_58) → (g_63 1 = rg 1) → (g_63 2 = rg 2) → (g_63 5 = rg 5) → (x_55.toInt < g_63 3 ∨ x_55.toInt ≤ 0) → ti_H ti_LM D A cy H0 M_58 H locs → lv_has ls 5 [(4, .int x_55), (3, .int x_1), (0, .ref (A 60 0)), (1, .int 1), (2, .int mu)] → W p l e (ti_rm 6) s m args below meth c H locs 0 0 Q (F0 m 99 ls []) := by
    intro n_73
    induction n_73 with
    | zero => intro x_55 M_58 g_63 H locs ls hf_73; exact absurd hf_73 (Nat.not_lt_zero _)
    | succ n_73 ih_73 =>
      intro x_55 M_58 g_63 H locs ls hf_73 b_56 b_57 iM_58 f_59 f_60 f_61 f_62 hs_64 j_65 j_66 j_67 j_68 j_69 j_70 j_71 j_72 hw hl
      refine lv_iload hx hb dX10_passes_99 (lv_at hl 0 rfl) ?_
      refine lv_iconst (v := 1) hx hb dX10_passes_101 (by decide) ?_
      refine sb_icmp_lt (tgt := 145) hx hb rfl (by decide : (1 : Int32).toInt = 1) dX10_passes_102 (by decide) (fun c_102_75 => ?_) (fun c_102_75 => ?_)
      · refine lv_iload_n hx hb dX10_passes_145 rfl (lv_at hl 4 rfl) ?_
        refine sb_if_eq (tgt := 197) hx hb rfl dX10_passes_146 (by decide) (fun c_146_91 => ?_) (fun c_146_91 => ?_)
        · refine lv_aload_n hx hb dX10_passes_197 rfl (lv_at hl 2 rfl) ?_
          refine ti_get (ci := 10) (k := 34) (N := 67) (T := TX10) (v := .ref (A 60 35)) C hw iw_10 rfl ob_60 (by decide) (by decide) fl_X10_69 rfl rfl dX10_passes_198 ?_
          refine lv_iload_n hx hb dX10_passes_201 rfl (lv_at hl 3 rfl) ?_
          refine lv_dup2_11 hx hb dX10_passes_202 rfl rfl ?_
          refine ti_iald (ci := 10) (k := 34) (n := 23) C hw ob_60 (by decide) (fun _ _ => rfl) (by unfold vp_in; decide) dX10_passes_203 ?_
          refine ti_top (y := x_1) ((congrArg _ (by decide)).trans ((cg f_61 1).trans yx_1)) ?_
          have L_115 : g_63 2 = x_1.toInt := (hs_64.1.1).trans (congrArg Int32.toInt ((cg f_61 1).trans yx_1))
          refine lv_iconst (v := 1) hx hb dX10_passes_204 (by decide) ?_
          refine lv_iadd hx hb dX10_passes_205 ?_
          refine lv_topi (fun x_116 ex_116 => ?_)
          have tx_116 : x_116.toInt = bw (x_1.toInt + 1) := bw_add ex_116 rfl (by decide : (1 : Int32).toInt = 1)
          refine ti_iast (ci := 10) (k := 34) (n := 23) C hw ob_60 (by decide) (fun _ _ => rfl) (by unfold vp_in; decide) dX10_passes_206 (fun H locs hw => ?_)
          obtain ⟨M_117, hM_117⟩ : ∃ z : ti_M, z = uY M_58 60 34 (upd (tY M_58 60 34) (1 : Int32).toNatClampNeg x_116) := ⟨_, rfl⟩
          have hw := hw.to hM_117.symm
          have iM_117 : mI Tm M_117 := mI_up (i := 1) iM_58 hM_117 (fun h => absurd rfl h)
          have hs_118 : qR (tx 4).toNat 1 (pp_su g_63 2 x_116.toInt) M_117 := qR_34 (z := 1) hs_64 (by decide) rfl hM_117
          obtain ⟨g_119, eg_119⟩ : ∃ z : Nat → Int, z = pp_su g_63 2 x_116.toInt := ⟨_, rfl⟩
          rw [← eg_119] at hs_118
          have sg_119 : g_119 2 = x_116.toInt := by rw [eg_119, su_s]
          have w1g_119 : g_119 1 = g_63 1 := by rw [eg_119, su_n (by omega)]
          have w5g_119 : g_119 5 = g_63 5 := by rw [eg_119, su_n (by omega)]
          have ER : g_63 = bq_rl tx g_28 := by rw [← j_66, show x_55.toInt.toNat = 0 by omega]; rfl
          have EM : bq_mt tx g_63 = g_63 := by unfold bq_mt; rw [if_pos (by omega)]
          have HC1 : g_8 = bq_hc tx g_8 := by unfold bq_hc; rw [if_neg (by omega)]
          have E_120 : bq_ps tx rg = g_119 := by unfold bq_ps; rw [← eg_8, ← HC1, ← eg_18, ← eg_23, ← eg_28, ← ER, EM]; unfold bq_m1; rw [show g_63 2 = x_1.toInt by omega, ← tx_116, ← eg_119]
          exact hQ _ _ _ _ _ hw (⟨(eR.trans (eR_Y hM_117 (bk_q (z := 1) (by decide) (by decide))) f_62), (by rw [E_120]; exact hs_118), (by rw [E_120]; exact (qV_same j_68 (tY_nE hM_117 (nk (by decide))) (by omega) (fun _ _ => by rw [eg_119, su_n (by omega)]) (fun _ _ => by rw [eg_119, su_n (by omega)]))), iM_117, (rq.trans (rq_qw (qw_Y hM_117 (by decide))) f_59), (mC_qw (qw_Y hM_117 (by decide)) f_60)⟩) dX10_passes_207
        · refine lv_aload_n hx hb dX10_passes_149 rfl (lv_at hl 2 rfl) ?_
          refine ti_get (ci := 10) (k := 3) (N := 67) (T := TX10) (v := .ref (A 60 4)) C hw iw_10 rfl ob_60 (by decide) (by decide) fl_X10_13 rfl rfl dX10_passes_150 ?_
          refine lv_iconst (v := 5) hx hb dX10_passes_153 (by decide) ?_
          refine ti_iald (ci := 10) (k := 3) (n := 22) C hw ob_60 (by decide) (fun _ _ => rfl) (by unfold vp_in; decide) dX10_passes_154 ?_
          refine lv_topi (fun x_93 ex_93 => ?_)
          have yx_93 : tY M_58 60 3 5 = x_93 := ((congrArg _ (by decide)).symm.trans ex_93.symm)
          have zx_93 : (tY M_58 60 3 5).toInt = x_93.toInt := by rw [yx_93]
          have wx_93 : tY M 60 3 5 = x_93 := ((cg (f_59.1 3 (by decide) (by decide)) 5)).symm.trans yx_93
          have zwx_93 : (tY M 60 3 5).toInt = x_93.toInt := by rw [wx_93]
          have L_94 : tx 10 = x_93.toInt := (htr.1.2.2.2.2.2.1).trans ((congrArg Int32.toInt (cg ((f_59.1 3 (by decide) (by decide))) 5)).symm.trans (congrArg Int32.toInt ((cg (f_59.1 3 (by decide) (by decide)) 5).trans wx_93)))
          refine sb_if_le (tgt := 197) hx hb rfl dX10_passes_155 (by decide) (fun c_155_94 => ?_) (fun c_155_94 => ?_)
          · refine lv_aload_n hx hb dX10_passes_197 rfl (lv_at hl 2 rfl) ?_
            refine ti_get (ci := 10) (k := 34) (N := 67) (T := TX10) (v := .ref (A 60 35)) C hw iw_10 rfl ob_60 (by decide) (by decide) fl_X10_69 rfl rfl dX10_passes_198 ?_
            refine lv_iload_n hx hb dX10_passes_201 rfl (lv_at hl 3 rfl) ?_
            refine lv_dup2_11 hx hb dX10_passes_202 rfl rfl ?_
            refine ti_iald (ci := 10) (k := 34) (n := 23) C hw ob_60 (by decide) (fun _ _ => rfl) (by unfold vp_in; decide) dX10_passes_203 ?_
            refine ti_top (y := x_1) ((congrArg _ (by decide)).trans ((cg f_61 1).trans yx_1)) ?_
            have L_121 : g_63 2 = x_1.toInt := (hs_64.1.1).trans (congrArg Int32.toInt ((cg f_61 1).trans yx_1))
            refine lv_iconst (v := 1) hx hb dX10_passes_204 (by decide) ?_
            refine lv_iadd hx hb dX10_passes_205 ?_
            refine lv_topi (fun x_122 ex_122 => ?_)
            have tx_122 : x_122.toInt = bw (x_1.toInt + 1) := bw_add ex_122 rfl (by decide : (1 : Int32).toInt = 1)
            refine ti_iast (ci := 10) (k := 34) (n := 23) C hw ob_60 (by decide) (fun _ _ => rfl) (by unfold vp_in; decide) dX10_passes_206 (fun H locs hw => ?_)
            obtain ⟨M_123, hM_123⟩ : ∃ z : ti_M, z = uY M_58 60 34 (upd (tY M_58 60 34) (1 : Int32).toNatClampNeg x_122) := ⟨_, rfl⟩
            have hw := hw.to hM_123.symm
            have iM_123 : mI Tm M_123 := mI_up (i := 1) iM_58 hM_123 (fun h => absurd rfl h)
            have hs_124 : qR (tx 4).toNat 1 (pp_su g_63 2 x_122.toInt) M_123 := qR_34 (z := 1) hs_64 (by decide) rfl hM_123
            obtain ⟨g_125, eg_125⟩ : ∃ z : Nat → Int, z = pp_su g_63 2 x_122.toInt := ⟨_, rfl⟩
            rw [← eg_125] at hs_124
            have sg_125 : g_125 2 = x_122.toInt := by rw [eg_125, su_s]
            have w1g_125 : g_125 1 = g_63 1 := by rw [eg_125, su_n (by omega)]
            have w5g_125 : g_125 5 = g_63 5 := by rw [eg_125, su_n (by omega)]
            have ER : g_63 = bq_rl tx g_28 := by rw [← j_66, show x_55.toInt.toNat = 0 by omega]; rfl
            have EM : bq_mt tx g_63 = g_63 := by unfold bq_mt; rw [if_pos (by omega)]
            have HC1 : g_8 = bq_hc tx g_8 := by unfold bq_hc; rw [if_neg (by omega)]
            have E_126 : bq_ps tx rg = g_125 := by unfold bq_ps; rw [← eg_8, ← HC1, ← eg_18, ← eg_23, ← eg_28, ← ER, EM]; unfold bq_m1; rw [show g_63 2 = x_1.toInt by omega, ← tx_122, ← eg_125]
            exact hQ _ _ _ _ _ hw (⟨(eR.trans (eR_Y hM_123 (bk_q (z := 1) (by decide) (by decide))) f_62), (by rw [E_126]; exact hs_124), (by rw [E_126]; exact (qV_same j_68 (tY_nE hM_123 (nk (by decide))) (by omega) (fun _ _ => by rw [eg_125, su_n (by omega)]) (fun _ _ => by rw [eg_125, su_n (by omega)]))), iM_123, (rq.trans (rq_qw (qw_Y hM_123 (by decide))) f_59), (mC_qw (qw_Y hM_123 (by decide)) f_60)⟩) dX10_passes_207
          · refine lv_aload_n hx hb dX10_passes_158 rfl (lv_at hl 2 rfl) ?_
            refine lv_iload_n hx hb dX10_passes_159 rfl (lv_at hl 3 rfl) ?_
            refine ti_callVi (ci := 10) (av := [.int 1]) C hw (z_X10_draw_1 l D A cy hJ M_58 iM_58  tx g_63 (tR_lw htr (eR_lw (q := 1) f_62)) ht4 hs_64 (by omega)) ⟨ml_X10_397, ym_X10_draw, yv_X10_draw, yi_X10_draw, yc_X10_draw⟩ yd_X10_draw ob_60 (by decide) rfl rfl hl.1 (Nat.le_of_ble_eq_true rfl) ⟨by decide, by decide⟩ ⟨Nat.zero_le _, Nat.zero_le _⟩ dX10_passes_160 (fun r_96 M_97 H locs hp_97 hw => ?_)
            obtain ⟨erM_97, e48M_97, hrM_97, rvM_97, hqM_97⟩ := hp_97
            obtain ⟨iM_97, q_98, q_99⟩ := hqM_97
            obtain ⟨g_100, eg_100⟩ : ∃ z : Nat → Int, z = pp_su g_63 5 (bq_dr (g_63 5)) := ⟨_, rfl⟩
            rw [← eg_100] at hrM_97
            have w1g_100 : g_100 1 = g_63 1 := by rw [eg_100]; exact su_n (by decide)
            have w2g_100 : g_100 2 = g_63 2 := by rw [eg_100]; exact su_n (by decide)
            have wpg_100 : wF tx g_100 := by rw [eg_100]; exact wF_dr htW j_67
            have qvM_97 : qV (tx 4).toNat 1 g_100 M_97 := qV_same j_68 e48M_97 (by omega) (fun m hm => by rw [eg_100]; exact su_n (by omega)) (fun m hm => by rw [eg_100]; exact su_n (by omega))
            refine lv_aload_n hx hb dX10_passes_163 rfl (lv_at hl 2 rfl) ?_
            refine ti_get (ci := 10) (k := 3) (N := 67) (T := TX10) (v := .ref (A 60 4)) C hw iw_10 rfl ob_60 (by decide) (by decide) fl_X10_13 rfl rfl dX10_passes_164 ?_
            refine lv_iconst (v := 5) hx hb dX10_passes_167 (by decide) ?_
            refine ti_iald (ci := 10) (k := 3) (n := 22) C hw ob_60 (by decide) (fun _ _ => rfl) (by unfold vp_in; decide) dX10_passes_168 ?_
            refine ti_top (y := x_93) ((congrArg _ (by decide)).trans ((cg (q_98.1 3 (by decide) (by decide)) 5).trans ((cg (f_59.1 3 (by decide) (by decide)) 5).trans wx_93))) ?_
            have L_101 : tx 10 = x_93.toInt := (htr.1.2.2.2.2.2.1).trans ((congrArg Int32.toInt (cg (((q_98.1 3 (by decide) (by decide)).trans (f_59.1 3 (by decide) (by decide)))) 5)).symm.trans (congrArg Int32.toInt ((cg (q_98.1 3 (by decide) (by decide)) 5).trans ((cg (f_59.1 3 (by decide) (by decide)) 5).trans wx_93))))
            refine sb_icmp_ge (tgt := 197) hx hb rfl rfl dX10_passes_169 (by decide) (fun c_169_101 => ?_) (fun c_169_101 => ?_)
            · refine lv_aload_n hx hb dX10_passes_197 rfl (lv_at hl 2 rfl) ?_
              refine ti_get (ci := 10) (k := 34) (N := 67) (T := TX10) (v := .ref (A 60 35)) C hw iw_10 rfl ob_60 (by decide) (by decide) fl_X10_69 rfl rfl dX10_passes_198 ?_
              refine lv_iload_n hx hb dX10_passes_201 rfl (lv_at hl 3 rfl) ?_
              refine lv_dup2_11 hx hb dX10_passes_202 rfl rfl ?_
              refine ti_iald (ci := 10) (k := 34) (n := 23) C hw ob_60 (by decide) (fun _ _ => rfl) (by unfold vp_in; decide) dX10_passes_203 ?_
              refine ti_top (y := x_1) ((congrArg _ (by decide)).trans ((cg q_99 1).trans ((cg f_61 1).trans yx_1))) ?_
              have L_127 : g_100 2 = x_1.toInt := (hrM_97.1.1).trans (congrArg Int32.toInt ((cg q_99 1).trans ((cg f_61 1).trans yx_1)))
              refine lv_iconst (v := 1) hx hb dX10_passes_204 (by decide) ?_
              refine lv_iadd hx hb dX10_passes_205 ?_
              refine lv_topi (fun x_128 ex_128 => ?_)
              have tx_128 : x_128.toInt = bw (x_1.toInt + 1) := bw_add ex_128 rfl (by decide : (1 : Int32).toInt = 1)
              refine ti_iast (ci := 10) (k := 34) (n := 23) C hw ob_60 (by decide) (fun _ _ => rfl) (by unfold vp_in; decide) dX10_passes_206 (fun H locs hw => ?_)
              obtain ⟨M_129, hM_129⟩ : ∃ z : ti_M, z = uY M_97 60 34 (upd (tY M_97 60 34) (1 : Int32).toNatClampNeg x_128) := ⟨_, rfl⟩
              have hw := hw.to hM_129.symm
              have iM_129 : mI Tm M_129 := mI_up (i := 1) iM_97 hM_129 (fun h => absurd rfl h)
              have hs_130 : qR (tx 4).toNat 1 (pp_su g_100 2 x_128.toInt) M_129 := qR_34 (z := 1) hrM_97 (by decide) rfl hM_129
              obtain ⟨g_131, eg_131⟩ : ∃ z : Nat → Int, z = pp_su g_100 2 x_128.toInt := ⟨_, rfl⟩
              rw [← eg_131] at hs_130
              have sg_131 : g_131 2 = x_128.toInt := by rw [eg_131, su_s]
              have w1g_131 : g_131 1 = g_100 1 := by rw [eg_131, su_n (by omega)]
              have w5g_131 : g_131 5 = g_100 5 := by rw [eg_131, su_n (by omega)]
              have ER : g_63 = bq_rl tx g_28 := by rw [← j_66, show x_55.toInt.toNat = 0 by omega]; rfl
              have w3g_100 : g_100 3 = g_63 3 := by rw [eg_100]; exact su_n (by decide)
              have EM : bq_mt tx g_63 = g_100 := by unfold bq_mt; rw [if_neg (by omega), if_neg (by omega), ← eg_100]
              have HC1 : g_8 = bq_hc tx g_8 := by unfold bq_hc; rw [if_neg (by omega)]
              have E_132 : bq_ps tx rg = g_131 := by unfold bq_ps; rw [← eg_8, ← HC1, ← eg_18, ← eg_23, ← eg_28, ← ER, EM]; unfold bq_m1; rw [show g_100 2 = x_1.toInt by omega, ← tx_128, ← eg_131]
              exact hQ _ _ _ _ _ hw (⟨(eR.trans (eR_Y hM_129 (bk_q (z := 1) (by decide) (by decide))) (eR.trans erM_97 f_62)), (by rw [E_132]; exact hs_130), (by rw [E_132]; exact (qV_same qvM_97 (tY_nE hM_129 (nk (by decide))) (by omega) (fun _ _ => by rw [eg_131, su_n (by omega)]) (fun _ _ => by rw [eg_131, su_n (by omega)]))), iM_129, (rq.trans (rq_qw (qw_Y hM_129 (by decide))) (rq.trans (rq_qw q_98) f_59)), (mC_qw (qw.trans (qw_Y hM_129 (by decide)) q_98) f_60)⟩) dX10_passes_207
            · refine lv_aload_n hx hb dX10_passes_172 rfl (lv_at hl 2 rfl) ?_
              refine ti_get (ci := 10) (k := 38) (N := 67) (T := TX10) (v := .ref (A 60 39)) C hw iw_10 rfl ob_60 (by decide) (by decide) fl_X10_81 rfl rfl dX10_passes_173 ?_
              refine lv_iload_n hx hb dX10_passes_176 rfl (lv_at hl 3 rfl) ?_
              refine ti_iald (ci := 10) (k := 38) (n := 23) C hw ob_60 (by decide) (fun _ _ => rfl) (by unfold vp_in; decide) dX10_passes_177 ?_
              refine lv_topi (fun x_103 ex_103 => ?_)
              have yx_103 : tY M_97 60 38 1 = x_103 := ((congrArg _ (by decide)).symm.trans ex_103.symm)
              have bx_103 : 0 ≤ x_103.toInt ∧ x_103.toInt ≤ 8 := mI_ry (k := 38) (i := 1) iM_97 yx_103.symm
              have zx_103 : (tY M_97 60 38 1).toInt = x_103.toInt := by rw [yx_103]
              have wx_103 : tY M_58 60 38 1 = x_103 := ((cg q_98.2.2.1 1)).symm.trans yx_103
              have zwx_103 : (tY M_58 60 38 1).toInt = x_103.toInt := by rw [wx_103]
              have L_104 : g_100 3 = x_103.toInt := (hrM_97.1.2.1).trans (congrArg Int32.toInt ((cg q_98.2.2.1 1).trans wx_103))
              refine lv_iconst (v := 1) hx hb dX10_passes_178 (by decide) ?_
              refine sb_icmp_le (tgt := 197) hx hb rfl (by decide : (1 : Int32).toInt = 1) dX10_passes_179 (by decide) (fun c_179_104 => ?_) (fun c_179_104 => ?_)
              · refine lv_aload_n hx hb dX10_passes_197 rfl (lv_at hl 2 rfl) ?_
                refine ti_get (ci := 10) (k := 34) (N := 67) (T := TX10) (v := .ref (A 60 35)) C hw iw_10 rfl ob_60 (by decide) (by decide) fl_X10_69 rfl rfl dX10_passes_198 ?_
                refine lv_iload_n hx hb dX10_passes_201 rfl (lv_at hl 3 rfl) ?_
                refine lv_dup2_11 hx hb dX10_passes_202 rfl rfl ?_
                refine ti_iald (ci := 10) (k := 34) (n := 23) C hw ob_60 (by decide) (fun _ _ => rfl) (by unfold vp_in; decide) dX10_passes_203 ?_
                refine ti_top (y := x_1) ((congrArg _ (by decide)).trans ((cg q_99 1).trans ((cg f_61 1).trans yx_1))) ?_
                have L_133 : g_100 2 = x_1.toInt := (hrM_97.1.1).trans (congrArg Int32.toInt ((cg q_99 1).trans ((cg f_61 1).trans yx_1)))
                refine lv_iconst (v := 1) hx hb dX10_passes_204 (by decide) ?_
                refine lv_iadd hx hb dX10_passes_205 ?_
                refine lv_topi (fun x_134 ex_134 => ?_)
                have tx_134 : x_134.toInt = bw (x_1.toInt + 1) := bw_add ex_134 rfl (by decide : (1 : Int32).toInt = 1)
                refine ti_iast (ci := 10) (k := 34) (n := 23) C hw ob_60 (by decide) (fun _ _ => rfl) (by unfold vp_in; decide) dX10_passes_206 (fun H locs hw => ?_)
                obtain ⟨M_135, hM_135⟩ : ∃ z : ti_M, z = uY M_97 60 34 (upd (tY M_97 60 34) (1 : Int32).toNatClampNeg x_134) := ⟨_, rfl⟩
                have hw := hw.to hM_135.symm
                have iM_135 : mI Tm M_135 := mI_up (i := 1) iM_97 hM_135 (fun h => absurd rfl h)
                have hs_136 : qR (tx 4).toNat 1 (pp_su g_100 2 x_134.toInt) M_135 := qR_34 (z := 1) hrM_97 (by decide) rfl hM_135
                obtain ⟨g_137, eg_137⟩ : ∃ z : Nat → Int, z = pp_su g_100 2 x_134.toInt := ⟨_, rfl⟩
                rw [← eg_137] at hs_136
                have sg_137 : g_137 2 = x_134.toInt := by rw [eg_137, su_s]
                have w1g_137 : g_137 1 = g_100 1 := by rw [eg_137, su_n (by omega)]
                have w5g_137 : g_137 5 = g_100 5 := by rw [eg_137, su_n (by omega)]
                have ER : g_63 = bq_rl tx g_28 := by rw [← j_66, show x_55.toInt.toNat = 0 by omega]; rfl
                have w3g_100 : g_100 3 = g_63 3 := by rw [eg_100]; exact su_n (by decide)
                have EM : bq_mt tx g_63 = g_100 := by unfold bq_mt; rw [if_neg (by omega), if_neg (by omega), ← eg_100]
                have HC1 : g_8 = bq_hc tx g_8 := by unfold bq_hc; rw [if_neg (by omega)]
                have E_138 : bq_ps tx rg = g_137 := by unfold bq_ps; rw [← eg_8, ← HC1, ← eg_18, ← eg_23, ← eg_28, ← ER, EM]; unfold bq_m1; rw [show g_100 2 = x_1.toInt by omega, ← tx_134, ← eg_137]
                exact hQ _ _ _ _ _ hw (⟨(eR.trans (eR_Y hM_135 (bk_q (z := 1) (by decide) (by decide))) (eR.trans erM_97 f_62)), (by rw [E_138]; exact hs_136), (by rw [E_138]; exact (qV_same qvM_97 (tY_nE hM_135 (nk (by decide))) (by omega) (fun _ _ => by rw [eg_137, su_n (by omega)]) (fun _ _ => by rw [eg_137, su_n (by omega)]))), iM_135, (rq.trans (rq_qw (qw_Y hM_135 (by decide))) (rq.trans (rq_qw q_98) f_59)), (mC_qw (qw.trans (qw_Y hM_135 (by decide)) q_98) f_60)⟩) dX10_passes_207
              · refine lv_aload_n hx hb dX10_passes_182 rfl (lv_at hl 2 rfl) ?_
                refine lv_iload_n hx hb dX10_passes_183 rfl (lv_at hl 3 rfl) ?_
                refine lv_aload_n hx hb dX10_passes_184 rfl (lv_at hl 2 rfl) ?_
                refine ti_get (ci := 10) (k := 38) (N := 67) (T := TX10) (v := .ref (A 60 39)) C hw iw_10 rfl ob_60 (by decide) (by decide) fl_X10_81 rfl rfl dX10_passes_185 ?_
                refine lv_iload_n hx hb dX10_passes_188 rfl (lv_at hl 3 rfl) ?_
                refine ti_iald (ci := 10) (k := 38) (n := 23) C hw ob_60 (by decide) (fun _ _ => rfl) (by unfold vp_in; decide) dX10_passes_189 ?_
                refine ti_top (y := x_103) ((congrArg _ (by decide)).trans ((cg q_98.2.2.1 1).trans wx_103)) ?_
                have L_106 : g_100 3 = x_103.toInt := (hrM_97.1.2.1).trans (congrArg Int32.toInt ((cg q_98.2.2.1 1).trans wx_103))
                refine lv_iconst (v := 1) hx hb dX10_passes_190 (by decide) ?_
                refine lv_isub hx hb dX10_passes_191 ?_
                refine lv_topi (fun x_107 ex_107 => ?_)
                have tx_107 : x_107.toInt = x_103.toInt - 1 := i_sub ex_107 rfl (by decide : (1 : Int32).toInt = 1) (by omega) (by omega)
                refine lv_iconst (v := 3) hx hb dX10_passes_192 (by decide) ?_
                refine lv_iload_n hx hb dX10_passes_193 rfl (lv_at hl 1 rfl) ?_
                have lk_110 : (tY M_97 60 38 1).toInt = (tY M_58 60 38 1).toInt := by rw [(cg q_98.2.2.1 1)]
                refine ti_callVv (ci := 10) (av := [.int 1, .int x_107, .int 3, .int x_1]) C hw (z_X10_leaves_1 l D A cy hJ M_97 iM_97 (mC_qw q_98 f_60) x_107 3 x_1 (by first | omega | decide | (have l0 : (0 : Int32).toInt = 0 := (by decide); have l2 : (2 : Int32).toInt = 2 := (by decide); have l3 : (3 : Int32).toInt = 3 := (by decide); omega)) (by first | omega | decide | (have l0 : (0 : Int32).toInt = 0 := (by decide); have l2 : (2 : Int32).toInt = 2 := (by decide); have l3 : (3 : Int32).toInt = 3 := (by decide); omega)) (by first | omega | decide | (have l0 : (0 : Int32).toInt = 0 := (by decide); have l2 : (2 : Int32).toInt = 2 := (by decide); have l3 : (3 : Int32).toInt = 3 := (by decide); omega)) tx g_100 (tR_lw htr (eR_lw (q := 1) (eR.trans erM_97 f_62))) ht4 hrM_97 qvM_97 wpg_100 (by omega)) ⟨ml_X10_377, ym_X10_leaves, yv_X10_leaves, yi_X10_leaves, yc_X10_leaves⟩ yd_X10_leaves ob_60 (by decide) rfl rfl hl.1 (Nat.le_of_ble_eq_true rfl) ⟨by decide, by decide⟩ ⟨Nat.zero_le _, Nat.zero_le _⟩ dX10_passes_194 (fun M_109 H locs hp_109 hw => ?_)
                obtain ⟨erM_109, hrM_109, qvM_109, hqM_109⟩ := hp_109
                obtain ⟨iM_109, q_111, q_112, q_113, p0r_108⟩ := hqM_109
                simp only [show (3 : Int32).toInt = 3 by decide] at hrM_109 qvM_109
                obtain ⟨g_114, eg_114⟩ : ∃ z : Nat → Int, z = bq_rm g_100 x_107.toInt 3 := ⟨_, rfl⟩
                rw [← eg_114] at hrM_109
                rw [← eg_114] at qvM_109
                have w1g_114 : g_114 1 = g_100 1 := by rw [eg_114]; exact rm_k (by decide)
                have w2g_114 : g_114 2 = g_100 2 := by rw [eg_114]; exact rm_k (by decide)
                have w5g_114 : g_114 5 = g_100 5 := by rw [eg_114]; exact rm_k (by decide)
                have wrg_114 := wF_rm htW wpg_100 (p := x_107.toInt.toNat) (by omega) (ns := 3) (by decide)
                rw [show ((x_107.toInt.toNat : Nat) : Int) = x_107.toInt by omega, ← eg_114] at wrg_114
                have wpg_114 := wrg_114.1
                have wng_114 := wrg_114.2.1
                refine lv_aload_n hx hb dX10_passes_197 rfl (lv_at hl 2 rfl) ?_
                refine ti_get (ci := 10) (k := 34) (N := 67) (T := TX10) (v := .ref (A 60 35)) C hw iw_10 rfl ob_60 (by decide) (by decide) fl_X10_69 rfl rfl dX10_passes_198 ?_
                refine lv_iload_n hx hb dX10_passes_201 rfl (lv_at hl 3 rfl) ?_
                refine lv_dup2_11 hx hb dX10_passes_202 rfl rfl ?_
                refine ti_iald (ci := 10) (k := 34) (n := 23) C hw ob_60 (by decide) (fun _ _ => rfl) (by unfold vp_in; decide) dX10_passes_203 ?_
                refine ti_top (y := x_1) ((congrArg _ (by decide)).trans ((cg q_113 1).trans ((cg q_99 1).trans ((cg f_61 1).trans yx_1)))) ?_
                have L_139 : g_114 2 = x_1.toInt := (hrM_109.1.1).trans (congrArg Int32.toInt ((cg q_113 1).trans ((cg q_99 1).trans ((cg f_61 1).trans yx_1))))
                refine lv_iconst (v := 1) hx hb dX10_passes_204 (by decide) ?_
                refine lv_iadd hx hb dX10_passes_205 ?_
                refine lv_topi (fun x_140 ex_140 => ?_)
                have tx_140 : x_140.toInt = bw (x_1.toInt + 1) := bw_add ex_140 rfl (by decide : (1 : Int32).toInt = 1)
                refine ti_iast (ci := 10) (k := 34) (n := 23) C hw ob_60 (by decide) (fun _ _ => rfl) (by unfold vp_in; decide) dX10_passes_206 (fun H locs hw => ?_)
                obtain ⟨M_141, hM_141⟩ : ∃ z : ti_M, z = uY M_109 60 34 (upd (tY M_109 60 34) (1 : Int32).toNatClampNeg x_140) := ⟨_, rfl⟩
                have hw := hw.to hM_141.symm
                have iM_141 : mI Tm M_141 := mI_up (i := 1) iM_109 hM_141 (fun h => absurd rfl h)
                have hs_142 : qR (tx 4).toNat 1 (pp_su g_114 2 x_140.toInt) M_141 := qR_34 (z := 1) hrM_109 (by decide) rfl hM_141
                obtain ⟨g_143, eg_143⟩ : ∃ z : Nat → Int, z = pp_su g_114 2 x_140.toInt := ⟨_, rfl⟩
                rw [← eg_143] at hs_142
                have sg_143 : g_143 2 = x_140.toInt := by rw [eg_143, su_s]
                have w1g_143 : g_143 1 = g_114 1 := by rw [eg_143, su_n (by omega)]
                have w5g_143 : g_143 5 = g_114 5 := by rw [eg_143, su_n (by omega)]
                have ER : g_63 = bq_rl tx g_28 := by rw [← j_66, show x_55.toInt.toNat = 0 by omega]; rfl
                have w3g_100 : g_100 3 = g_63 3 := by rw [eg_100]; exact su_n (by decide)
                have EM : bq_mt tx g_63 = g_114 := by unfold bq_mt; rw [if_neg (by omega), if_pos (by omega), ← eg_100, show g_63 3 - 1 = x_107.toInt by omega, ← eg_114]
                have HC1 : g_8 = bq_hc tx g_8 := by unfold bq_hc; rw [if_neg (by omega)]
                have E_144 : bq_ps tx rg = g_143 := by unfold bq_ps; rw [← eg_8, ← HC1, ← eg_18, ← eg_23, ← eg_28, ← ER, EM]; unfold bq_m1; rw [show g_114 2 = x_1.toInt by omega, ← tx_140, ← eg_143]
                exact hQ _ _ _ _ _ hw (⟨(eR.trans (eR_Y hM_141 (bk_q (z := 1) (by decide) (by decide))) (eR.trans erM_109 (eR.trans erM_97 f_62))), (by rw [E_144]; exact hs_142), (by rw [E_144]; exact (qV_same qvM_109 (tY_nE hM_141 (nk (by decide))) (by omega) (fun _ _ => by rw [eg_143, su_n (by omega)]) (fun _ _ => by rw [eg_143, su_n (by omega)]))), iM_141, (rq.trans (rq_qw (qw_Y hM_141 (by decide))) (rq.trans q_111 (rq.trans (rq_qw q_98) f_59))), (mC_qw (qw_Y hM_141 (by decide)) q_112)⟩) dX10_passes_207
      · refine lv_aload_n hx hb dX10_passes_105 rfl (lv_at hl 2 rfl) ?_
        refine ti_get (ci := 10) (k := 41) (N := 67) (T := TX10) (v := .ref (A 60 42)) C hw iw_10 rfl ob_60 (by decide) (by decide) fl_X10_90 rfl rfl dX10_passes_106 ?_
        refine lv_bipush (v := 8) hx hb dX10_passes_109 (by decide) ?_
        refine lv_iload_n hx hb dX10_passes_111 rfl (lv_at hl 3 rfl) ?_
        refine lv_imul hx hb dX10_passes_112 ?_
        refine ti_top (y := 8) (by decide) ?_
        refine lv_aload_n hx hb dX10_passes_113 rfl (lv_at hl 2 rfl) ?_
        refine ti_get (ci := 10) (k := 39) (N := 67) (T := TX10) (v := .ref (A 60 40)) C hw iw_10 rfl ob_60 (by decide) (by decide) fl_X10_84 rfl rfl dX10_passes_114 ?_
        refine lv_bipush (v := 8) hx hb dX10_passes_117 (by decide) ?_
        refine lv_iload_n hx hb dX10_passes_119 rfl (lv_at hl 3 rfl) ?_
        refine lv_imul hx hb dX10_passes_120 ?_
        refine ti_top (y := 8) (by decide) ?_
        refine lv_iload hx hb dX10_passes_121 (lv_at hl 0 rfl) ?_
        refine lv_iadd hx hb dX10_passes_123 ?_
        refine lv_topi (fun x_77 ex_77 => ?_)
        have tx_77 : x_77.toInt = 8 + x_55.toInt := i_add ex_77 (by decide : (8 : Int32).toInt = 8) rfl (by omega) (by omega)
        refine ti_iald (ci := 10) (k := 39) (n := 184) C hw ob_60 (by decide) (fun _ _ => rfl) (vp_in_iff.mpr (by omega)) dX10_passes_124 ?_
        refine lv_topi (fun x_78 ex_78 => ?_)
        have yx_78 : tY M_58 60 39 x_77.toNatClampNeg = x_78 := (ex_78.symm)
        have bx_78 : 0 ≤ x_78.toInt ∧ x_78.toInt ≤ 7 := mI_ry (k := 39) (i := x_77.toNatClampNeg) iM_58 yx_78.symm
        have L_79 : g_63 (96 + x_55.toInt.toNat) = x_78.toInt := (hs_64.2.1 (x_55.toInt.toNat) (by omega) (by omega)).trans (rd_k (n := 8 * 1 + x_55.toInt.toNat) (by omega) (yx_78))
        have A6 := j_67.2.2.1 x_55.toInt.toNat (by omega)
        rw [L_79] at A6
        refine lv_iadd hx hb dX10_passes_125 ?_
        refine lv_topi (fun x_80 ex_80 => ?_)
        have tx_80 : x_80.toInt = 8 + x_78.toInt := i_add ex_80 (by decide : (8 : Int32).toInt = 8) rfl (by omega) (by omega)
        refine ti_iald (ci := 10) (k := 41) (n := 184) C hw ob_60 (by decide) (fun _ _ => rfl) (vp_in_iff.mpr (by omega)) dX10_passes_126 ?_
        refine lv_topi (fun x_81 ex_81 => ?_)
        have yx_81 : tY M_58 60 41 x_80.toNatClampNeg = x_81 := (ex_81.symm)
        have L_82 : g_63 (160 + x_78.toInt.toNat) = x_81.toInt := ((hs_64.2.2.2.1 (x_78.toInt.toNat) (by omega)).2.2.1).trans (rd_k (n := 8 * 1 + x_78.toInt.toNat) (by omega) (yx_81))
        refine sb_if_gt (tgt := 139) hx hb rfl dX10_passes_127 (by decide) (fun c_127_82 => ?_) (fun c_127_82 => ?_)
        · obtain ⟨x_90, ex_90⟩ : ∃ z : Int32, z = x_55 + (-1) := ⟨_, rfl⟩
          have tx_90 : x_90.toInt = x_55.toInt + (-1) := i_add ex_90 rfl (by decide) (by omega) (by omega)
          refine lv_iinc (v := x_90) (lv' := [(4, .int x_90), (3, .int x_1), (0, .ref (A 60 0)), (1, .int 1), (2, .int mu)]) hx hb dX10_passes_139 hl (k := 0) rfl (by rw [ex_90]; rfl) (by decide) rfl (fun ls hl => ?_)
          refine lv_goto (tgt := 99) hx hb dX10_passes_142 (by decide) ?_
          exact ih_73 x_90 M_58 g_63 _ _ _ (by omega) (by first | omega | decide) (by first | omega | decide) iM_58 f_59 f_60 ((f_61)) f_62 hs_64 (by first | omega | decide) (by rw [← j_66, of_go (p := x_55.toInt.toNat) (p' := x_90.toInt.toNat) (s := g_63) (by omega), show bq_o1 g_63 x_55.toInt.toNat = g_63 by (unfold bq_o1; rw [L_79, show g_63 (160 + x_78.toInt.toNat) = x_81.toInt by omega, if_neg (by omega)])]) j_67 j_68 (by first | omega | decide) (by first | omega | decide) (by first | omega | decide) (by first | omega | decide) hw (lv_sub hl [0, 1, 2, 3, 4] rfl)
        · refine lv_aload_n hx hb dX10_passes_130 rfl (lv_at hl 2 rfl) ?_
          refine lv_iload_n hx hb dX10_passes_131 rfl (lv_at hl 3 rfl) ?_
          refine lv_iload hx hb dX10_passes_132 (lv_at hl 0 rfl) ?_
          refine lv_iconst (v := 3) hx hb dX10_passes_134 (by decide) ?_
          refine lv_iload_n hx hb dX10_passes_135 rfl (lv_at hl 1 rfl) ?_
          refine ti_callVv (ci := 10) (av := [.int 1, .int x_55, .int 3, .int x_1]) C hw (z_X10_leaves_1 l D A cy hJ M_58 iM_58 f_60 x_55 3 x_1 (by first | omega | decide | (have l0 : (0 : Int32).toInt = 0 := (by decide); have l2 : (2 : Int32).toInt = 2 := (by decide); have l3 : (3 : Int32).toInt = 3 := (by decide); omega)) (by first | omega | decide | (have l0 : (0 : Int32).toInt = 0 := (by decide); have l2 : (2 : Int32).toInt = 2 := (by decide); have l3 : (3 : Int32).toInt = 3 := (by decide); omega)) (by first | omega | decide | (have l0 : (0 : Int32).toInt = 0 := (by decide); have l2 : (2 : Int32).toInt = 2 := (by decide); have l3 : (3 : Int32).toInt = 3 := (by decide); omega)) tx g_63 (tR_lw htr (eR_lw (q := 1) f_62)) ht4 hs_64 j_68 j_67 (by omega)) ⟨ml_X10_377, ym_X10_leaves, yv_X10_leaves, yi_X10_leaves, yc_X10_leaves⟩ yd_X10_leaves ob_60 (by decide) rfl rfl hl.1 (Nat.le_of_ble_eq_true rfl) ⟨by decide, by decide⟩ ⟨Nat.zero_le _, Nat.zero_le _⟩ dX10_passes_136 (fun M_85 H locs hp_85 hw => ?_)
          obtain ⟨erM_85, hrM_85, qvM_85, hqM_85⟩ := hp_85
          obtain ⟨iM_85, q_86, q_87, q_88, p0r_84⟩ := hqM_85
          simp only [show (3 : Int32).toInt = 3 by decide] at hrM_85 qvM_85
          obtain ⟨g_89, eg_89⟩ : ∃ z : Nat → Int, z = bq_rm g_63 x_55.toInt 3 := ⟨_, rfl⟩
          rw [← eg_89] at hrM_85
          rw [← eg_89] at qvM_85
          have w1g_89 : g_89 1 = g_63 1 := by rw [eg_89]; exact rm_k (by decide)
          have w2g_89 : g_89 2 = g_63 2 := by rw [eg_89]; exact rm_k (by decide)
          have w5g_89 : g_89 5 = g_63 5 := by rw [eg_89]; exact rm_k (by decide)
          have wrg_89 := wF_rm htW j_67 (p := x_55.toInt.toNat) (by omega) (ns := 3) (by decide)
          rw [show ((x_55.toInt.toNat : Nat) : Int) = x_55.toInt by omega, ← eg_89] at wrg_89
          have wpg_89 := wrg_89.1
          have wng_89 := wrg_89.2.1
          obtain ⟨x_91, ex_91⟩ : ∃ z : Int32, z = x_55 + (-1) := ⟨_, rfl⟩
          have tx_91 : x_91.toInt = x_55.toInt + (-1) := i_add ex_91 rfl (by decide) (by omega) (by omega)
          refine lv_iinc (v := x_91) (lv' := [(4, .int x_91), (3, .int x_1), (0, .ref (A 60 0)), (1, .int 1), (2, .int mu)]) hx hb dX10_passes_139 hl (k := 0) rfl (by rw [ex_91]; rfl) (by decide) rfl (fun ls hl => ?_)
          refine lv_goto (tgt := 99) hx hb dX10_passes_142 (by decide) ?_
          exact ih_73 x_91 M_85 g_89 _ _ _ (by omega) (by first | omega | decide) (by first | omega | decide) iM_85 (rq.trans q_86 f_59) q_87 (((q_88).trans f_61)) (eR.trans erM_85 f_62) hrM_85 (by first | omega | decide) (by rw [← j_66, of_go (p := x_55.toInt.toNat) (p' := x_91.toInt.toNat) (s := g_63) (by omega), show bq_o1 g_63 x_55.toInt.toNat = g_89 by (unfold bq_o1; rw [L_79, show g_63 (160 + x_78.toInt.toNat) = x_81.toInt by omega, if_pos (by omega), show ((x_55.toInt.toNat : Nat) : Int) = x_55.toInt by omega, ← eg_89])]) wpg_89 qvM_85 (by first | omega | decide) (by first | omega | decide) (by first | omega | decide) (by first | omega | decide) hw (lv_sub hl [0, 1, 2, 3, 4] rfl)
  refine sb_if_le (tgt := 89) hx hb rfl dX10_passes_42 (by decide) (fun c_42_30 => ?_) (fun c_42_30 => ?_)
  · refine lv_aload_n hx hb dX10_passes_89 rfl (lv_at hl 1 rfl) ?_
    refine ti_get (ci := 10) (k := 38) (N := 67) (T := TX10) (v := .ref (A 60 39)) C hw iw_10 rfl ob_60 (by decide) (by decide) fl_X10_81 rfl rfl dX10_passes_90 ?_
    refine lv_iload_n hx hb dX10_passes_93 rfl (lv_at hl 2 rfl) ?_
    refine ti_iald (ci := 10) (k := 38) (n := 23) C hw ob_60 (by decide) (fun _ _ => rfl) (by unfold vp_in; decide) dX10_passes_94 ?_
    refine ti_top (y := x_29) ((congrArg _ (by decide)).trans ((cg q_26.2.2.1 1).trans ((cg q_21.2.2.1 1).trans ((cg q_16.2.2.1 1).trans wx_29)))) ?_
    have L_48 : g_28 3 = x_29.toInt := (hrM_25.1.2.1).trans (congrArg Int32.toInt ((cg q_26.2.2.1 1).trans ((cg q_21.2.2.1 1).trans ((cg q_16.2.2.1 1).trans wx_29))))
    refine lv_iconst (v := 1) hx hb dX10_passes_95 (by decide) ?_
    refine lv_isub hx hb dX10_passes_96 ?_
    refine lv_topi (fun x_49 ex_49 => ?_)
    have tx_49 : x_49.toInt = x_29.toInt - 1 := i_sub ex_49 rfl (by decide : (1 : Int32).toInt = 1) (by omega) (by omega)
    refine lv_istore (lv' := [(4, .int x_49), (3, .int x_1), (0, .ref (A 60 0)), (1, .int 1), (2, .int mu)]) hx hb dX10_passes_97 hl (by decide) rfl (fun ls hl => ?_)
    have lk_74 : (tY M_25 60 38 1).toInt = (tY M_10 60 38 1).toInt := by rw [((cg q_26.2.2.1 1).trans ((cg q_21.2.2.1 1).trans (cg q_16.2.2.1 1)))]
    exact hl_99_72 ((x_49.toInt + 1 : Int).toNat + 1) x_49 M_25 g_28 _ _ _ (Nat.lt_succ_self _) (by first | omega | decide) (by first | omega | decide) iM_25 (rq.trans (rq_qw q_26) (rq.trans (rq_qw q_21) (rq.trans (rq_qw q_16) (rq.trans q_11 q_5)))) (mC_qw (qw.trans q_26 (qw.trans q_21 q_16)) q_12) (((q_27).trans ((q_22).trans ((q_17).trans ((q_13).trans q_7))))) (eR.trans erM_25 (eR.trans erM_20 (eR.trans erM_15 (eR.trans erM_10 erM_4)))) hrM_25 (by first | omega | decide) (by have ES : bq_sv tx g_28 = g_28 := (by unfold bq_sv; rw [if_neg (by omega)]); unfold bq_rl; rw [ES]; exact congrArg (fun k => bq_of k g_28) (by omega)) wpg_28 qvM_25 (by first | omega | decide) (by first | omega | decide) (by first | omega | decide) (by first | omega | decide) hw (lv_sub hl [0, 1, 2, 3, 4] rfl)
  · refine lv_aload_n hx hb dX10_passes_45 rfl (lv_at hl 1 rfl) ?_
    refine ti_get (ci := 10) (k := 42) (N := 67) (T := TX10) (v := .ref (A 60 43)) C hw iw_10 rfl ob_60 (by decide) (by decide) fl_X10_93 rfl rfl dX10_passes_46 ?_
    refine lv_bipush (v := 8) hx hb dX10_passes_49 (by decide) ?_
    refine lv_iload_n hx hb dX10_passes_51 rfl (lv_at hl 2 rfl) ?_
    refine lv_imul hx hb dX10_passes_52 ?_
    refine ti_top (y := 8) (by decide) ?_
    refine lv_aload_n hx hb dX10_passes_53 rfl (lv_at hl 1 rfl) ?_
    refine ti_get (ci := 10) (k := 39) (N := 67) (T := TX10) (v := .ref (A 60 40)) C hw iw_10 rfl ob_60 (by decide) (by decide) fl_X10_84 rfl rfl dX10_passes_54 ?_
    refine lv_bipush (v := 8) hx hb dX10_passes_57 (by decide) ?_
    refine lv_iload_n hx hb dX10_passes_59 rfl (lv_at hl 2 rfl) ?_
    refine lv_imul hx hb dX10_passes_60 ?_
    refine ti_top (y := 8) (by decide) ?_
    refine ti_iald (ci := 10) (k := 39) (n := 184) C hw ob_60 (by decide) (fun _ _ => rfl) (by unfold vp_in; decide) dX10_passes_61 ?_
    refine lv_topi (fun x_32 ex_32 => ?_)
    have yx_32 : tY M_25 60 39 8 = x_32 := ((congrArg _ (by decide)).symm.trans ex_32.symm)
    have bx_32 : 0 ≤ x_32.toInt ∧ x_32.toInt ≤ 7 := mI_ry (k := 39) (i := 8) iM_25 yx_32.symm
    have wx_32 : tY M_10 60 39 8 = x_32 := (((cg q_26.2.2.2.1 8).trans ((cg q_21.2.2.2.1 8).trans (cg q_16.2.2.2.1 8)))).symm.trans yx_32
    have L_33 : g_28 96 = x_32.toInt := (hrM_25.2.1 (0) (by omega) (by omega)).trans (congrArg Int32.toInt ((cg q_26.2.2.2.1 8).trans ((cg q_21.2.2.2.1 8).trans ((cg q_16.2.2.2.1 8).trans wx_32))))
    have A5 : 0 ≤ g_28 96 ∧ g_28 96 < tx 4 ∧ g_28 (128 + (g_28 96).toNat) = 1 := wpg_28.2.2.1 0 (by omega)
    have D5 := wpg_28.2.2.2.2.2.2.1 (g_28 96).toNat (by omega) (by omega)
    rw [show g_28 96 = x_32.toInt by omega] at A5 D5
    refine lv_iadd hx hb dX10_passes_62 ?_
    refine lv_topi (fun x_34 ex_34 => ?_)
    have tx_34 : x_34.toInt = 8 + x_32.toInt := i_add ex_34 (by decide : (8 : Int32).toInt = 8) rfl (by omega) (by omega)
    refine ti_iald (ci := 10) (k := 42) (n := 184) C hw ob_60 (by decide) (fun _ _ => rfl) (vp_in_iff.mpr (by omega)) dX10_passes_63 ?_
    refine lv_topi (fun x_35 ex_35 => ?_)
    have yx_35 : tY M_25 60 42 x_34.toNatClampNeg = x_35 := (ex_35.symm)
    have L_36 : g_28 (176 + x_32.toInt.toNat) = x_35.toInt := ((hrM_25.2.2.2.1 (x_32.toInt.toNat) (by omega)).2.2.2.1).trans (rd_k (n := 8 * 1 + x_32.toInt.toNat) (by omega) (yx_35))
    refine lv_aload_n hx hb dX10_passes_64 rfl (lv_at hl 1 rfl) ?_
    refine ti_get (ci := 10) (k := 8) (N := 67) (T := TX10) (v := .ref (A 60 9)) C hw iw_10 rfl ob_60 (by decide) (by decide) fl_X10_28 rfl rfl dX10_passes_65 ?_
    refine lv_aload_n hx hb dX10_passes_68 rfl (lv_at hl 1 rfl) ?_
    refine ti_get (ci := 10) (k := 39) (N := 67) (T := TX10) (v := .ref (A 60 40)) C hw iw_10 rfl ob_60 (by decide) (by decide) fl_X10_84 rfl rfl dX10_passes_69 ?_
    refine lv_bipush (v := 8) hx hb dX10_passes_72 (by decide) ?_
    refine lv_iload_n hx hb dX10_passes_74 rfl (lv_at hl 2 rfl) ?_
    refine lv_imul hx hb dX10_passes_75 ?_
    refine ti_top (y := 8) (by decide) ?_
    refine ti_iald (ci := 10) (k := 39) (n := 184) C hw ob_60 (by decide) (fun _ _ => rfl) (by unfold vp_in; decide) dX10_passes_76 ?_
    refine ti_top (y := x_32) ((congrArg _ (by decide)).trans ((cg q_26.2.2.2.1 8).trans ((cg q_21.2.2.2.1 8).trans ((cg q_16.2.2.2.1 8).trans wx_32)))) ?_
    have L_37 : g_28 96 = x_32.toInt := (hrM_25.2.1 (0) (by omega) (by omega)).trans (congrArg Int32.toInt ((cg q_26.2.2.2.1 8).trans ((cg q_21.2.2.2.1 8).trans ((cg q_16.2.2.2.1 8).trans wx_32))))
    refine ti_iald (ci := 10) (k := 8) (n := 16) C hw ob_60 (by decide) (fun _ _ => rfl) (vp_in_iff.mpr (by omega)) dX10_passes_77 ?_
    refine lv_topi (fun x_38 ex_38 => ?_)
    have yx_38 : tY M_25 60 8 x_32.toNatClampNeg = x_38 := (ex_38.symm)
    have wx_38 : tY M 60 8 x_32.toNatClampNeg = x_38 := (((cg (q_26.1 8 (by decide) (by decide)) x_32.toNatClampNeg).trans ((cg (q_21.1 8 (by decide) (by decide)) x_32.toNatClampNeg).trans ((cg (q_16.1 8 (by decide) (by decide)) x_32.toNatClampNeg).trans ((cg (q_11.1 8 (by decide) (by decide)) x_32.toNatClampNeg).trans (cg (q_5.1 8 (by decide) (by decide)) x_32.toNatClampNeg)))))).symm.trans yx_38
    have L_39 : tx (100 + 16 * x_32.toInt.toNat + 4) = x_38.toInt := (htr.2.2.1 (x_32.toInt.toNat) (by omega) (by omega)).2.2.2.1.trans ((congrArg Int32.toInt (cg (((q_26.1 8 (by decide) (by decide)).trans ((q_21.1 8 (by decide) (by decide)).trans ((q_16.1 8 (by decide) (by decide)).trans ((q_11.1 8 (by decide) (by decide)).trans (q_5.1 8 (by decide) (by decide))))))) (x_32.toInt.toNat))).symm.trans (rd_k (n := x_32.toInt.toNat) (by omega) ((cg (q_26.1 8 (by decide) (by decide)) x_32.toNatClampNeg).trans ((cg (q_21.1 8 (by decide) (by decide)) x_32.toNatClampNeg).trans ((cg (q_16.1 8 (by decide) (by decide)) x_32.toNatClampNeg).trans ((cg (q_11.1 8 (by decide) (by decide)) x_32.toNatClampNeg).trans ((cg (q_5.1 8 (by decide) (by decide)) x_32.toNatClampNeg).trans wx_38)))))))
    refine sb_icmp_ne (tgt := 89) hx hb rfl rfl dX10_passes_78 (by decide) (fun c_78_39 => ?_) (fun c_78_39 => ?_)
    · refine lv_aload_n hx hb dX10_passes_89 rfl (lv_at hl 1 rfl) ?_
      refine ti_get (ci := 10) (k := 38) (N := 67) (T := TX10) (v := .ref (A 60 39)) C hw iw_10 rfl ob_60 (by decide) (by decide) fl_X10_81 rfl rfl dX10_passes_90 ?_
      refine lv_iload_n hx hb dX10_passes_93 rfl (lv_at hl 2 rfl) ?_
      refine ti_iald (ci := 10) (k := 38) (n := 23) C hw ob_60 (by decide) (fun _ _ => rfl) (by unfold vp_in; decide) dX10_passes_94 ?_
      refine ti_top (y := x_29) ((congrArg _ (by decide)).trans ((cg q_26.2.2.1 1).trans ((cg q_21.2.2.1 1).trans ((cg q_16.2.2.1 1).trans wx_29)))) ?_
      have L_50 : g_28 3 = x_29.toInt := (hrM_25.1.2.1).trans (congrArg Int32.toInt ((cg q_26.2.2.1 1).trans ((cg q_21.2.2.1 1).trans ((cg q_16.2.2.1 1).trans wx_29))))
      refine lv_iconst (v := 1) hx hb dX10_passes_95 (by decide) ?_
      refine lv_isub hx hb dX10_passes_96 ?_
      refine lv_topi (fun x_51 ex_51 => ?_)
      have tx_51 : x_51.toInt = x_29.toInt - 1 := i_sub ex_51 rfl (by decide : (1 : Int32).toInt = 1) (by omega) (by omega)
      refine lv_istore (lv' := [(4, .int x_51), (3, .int x_1), (0, .ref (A 60 0)), (1, .int 1), (2, .int mu)]) hx hb dX10_passes_97 hl (by decide) rfl (fun ls hl => ?_)
      have lk_75 : (tY M_25 60 38 1).toInt = (tY M_10 60 38 1).toInt := by rw [((cg q_26.2.2.1 1).trans ((cg q_21.2.2.1 1).trans (cg q_16.2.2.1 1)))]
      exact hl_99_72 ((x_51.toInt + 1 : Int).toNat + 1) x_51 M_25 g_28 _ _ _ (Nat.lt_succ_self _) (by first | omega | decide) (by first | omega | decide) iM_25 (rq.trans (rq_qw q_26) (rq.trans (rq_qw q_21) (rq.trans (rq_qw q_16) (rq.trans q_11 q_5)))) (mC_qw (qw.trans q_26 (qw.trans q_21 q_16)) q_12) (((q_27).trans ((q_22).trans ((q_17).trans ((q_13).trans q_7))))) (eR.trans erM_25 (eR.trans erM_20 (eR.trans erM_15 (eR.trans erM_10 erM_4)))) hrM_25 (by first | omega | decide) (by have ES : bq_sv tx g_28 = g_28 := (by unfold bq_sv; rw [show g_28 96 = x_32.toInt by omega, show tx (100 + 16 * x_32.toInt.toNat + 4) = x_38.toInt by omega]; rw [if_neg (by omega)]); unfold bq_rl; rw [ES]; exact congrArg (fun k => bq_of k g_28) (by omega)) wpg_28 qvM_25 (by first | omega | decide) (by first | omega | decide) (by first | omega | decide) (by first | omega | decide) hw (lv_sub hl [0, 1, 2, 3, 4] rfl)
    · refine lv_aload_n hx hb dX10_passes_81 rfl (lv_at hl 1 rfl) ?_
      refine lv_iload_n hx hb dX10_passes_82 rfl (lv_at hl 2 rfl) ?_
      refine lv_iconst (v := 0) hx hb dX10_passes_83 (by decide) ?_
      refine lv_iconst (v := 2) hx hb dX10_passes_84 (by decide) ?_
      refine lv_iload_n hx hb dX10_passes_85 rfl (lv_at hl 0 rfl) ?_
      have lk_43 : (tY M_25 60 38 1).toInt = (tY M_10 60 38 1).toInt := by rw [((cg q_26.2.2.1 1).trans ((cg q_21.2.2.1 1).trans (cg q_16.2.2.1 1)))]
      refine ti_callVv (ci := 10) (av := [.int 1, .int 0, .int 2, .int x_1]) C hw (z_X10_leaves_1 l D A cy hJ M_25 iM_25 (mC_qw (qw.trans q_26 (qw.trans q_21 q_16)) q_12) 0 2 x_1 (by first | omega | decide | (have l0 : (0 : Int32).toInt = 0 := (by decide); have l2 : (2 : Int32).toInt = 2 := (by decide); have l3 : (3 : Int32).toInt = 3 := (by decide); omega)) (by first | omega | decide | (have l0 : (0 : Int32).toInt = 0 := (by decide); have l2 : (2 : Int32).toInt = 2 := (by decide); have l3 : (3 : Int32).toInt = 3 := (by decide); omega)) (by first | omega | decide | (have l0 : (0 : Int32).toInt = 0 := (by decide); have l2 : (2 : Int32).toInt = 2 := (by decide); have l3 : (3 : Int32).toInt = 3 := (by decide); omega)) tx g_28 (tR_lw htr (eR_lw (q := 1) (eR.trans erM_25 (eR.trans erM_20 (eR.trans erM_15 (eR.trans erM_10 erM_4)))))) ht4 hrM_25 qvM_25 wpg_28 (by omega)) ⟨ml_X10_377, ym_X10_leaves, yv_X10_leaves, yi_X10_leaves, yc_X10_leaves⟩ yd_X10_leaves ob_60 (by decide) rfl rfl hl.1 (Nat.le_of_ble_eq_true rfl) ⟨by decide, by decide⟩ ⟨Nat.zero_le _, Nat.zero_le _⟩ dX10_passes_86 (fun M_42 H locs hp_42 hw => ?_)
      obtain ⟨erM_42, hrM_42, qvM_42, hqM_42⟩ := hp_42
      obtain ⟨iM_42, q_44, q_45, q_46, p0r_41⟩ := hqM_42
      simp only [show (0 : Int32).toInt = 0 by decide] at hrM_42 qvM_42
      simp only [show (2 : Int32).toInt = 2 by decide] at hrM_42 qvM_42
      obtain ⟨g_47, eg_47⟩ : ∃ z : Nat → Int, z = bq_rm g_28 0 2 := ⟨_, rfl⟩
      rw [← eg_47] at hrM_42
      rw [← eg_47] at qvM_42
      have w1g_47 : g_47 1 = g_28 1 := by rw [eg_47]; exact rm_k (by decide)
      have w2g_47 : g_47 2 = g_28 2 := by rw [eg_47]; exact rm_k (by decide)
      have w5g_47 : g_47 5 = g_28 5 := by rw [eg_47]; exact rm_k (by decide)
      have wrg_47 := wF_rm htW wpg_28 (p := 0) (by omega) (ns := 2) (by decide)
      rw [show ((0 : Nat) : Int) = 0 by rfl, ← eg_47] at wrg_47
      have wpg_47 := wrg_47.1
      have wng_47 := wrg_47.2.1
      refine lv_aload_n hx hb dX10_passes_89 rfl (lv_at hl 1 rfl) ?_
      refine ti_get (ci := 10) (k := 38) (N := 67) (T := TX10) (v := .ref (A 60 39)) C hw iw_10 rfl ob_60 (by decide) (by decide) fl_X10_81 rfl rfl dX10_passes_90 ?_
      refine lv_iload_n hx hb dX10_passes_93 rfl (lv_at hl 2 rfl) ?_
      refine ti_iald (ci := 10) (k := 38) (n := 23) C hw ob_60 (by decide) (fun _ _ => rfl) (by unfold vp_in; decide) dX10_passes_94 ?_
      refine lv_topi (fun x_52 ex_52 => ?_)
      have yx_52 : tY M_42 60 38 1 = x_52 := ((congrArg _ (by decide)).symm.trans ex_52.symm)
      have bx_52 : 0 ≤ x_52.toInt ∧ x_52.toInt ≤ 8 := mI_ry (k := 38) (i := 1) iM_42 yx_52.symm
      have zx_52 : (tY M_42 60 38 1).toInt = x_52.toInt := by rw [yx_52]
      have L_53 : g_47 3 = x_52.toInt := (hrM_42.1.2.1).trans (congrArg Int32.toInt (yx_52))
      refine lv_iconst (v := 1) hx hb dX10_passes_95 (by decide) ?_
      refine lv_isub hx hb dX10_passes_96 ?_
      refine lv_topi (fun x_54 ex_54 => ?_)
      have tx_54 : x_54.toInt = x_52.toInt - 1 := i_sub ex_54 rfl (by decide : (1 : Int32).toInt = 1) (by omega) (by omega)
      refine lv_istore (lv' := [(4, .int x_54), (3, .int x_1), (0, .ref (A 60 0)), (1, .int 1), (2, .int mu)]) hx hb dX10_passes_97 hl (by decide) rfl (fun ls hl => ?_)
      exact hl_99_72 ((x_54.toInt + 1 : Int).toNat + 1) x_54 M_42 g_47 _ _ _ (Nat.lt_succ_self _) (by first | omega | decide) (by first | omega | decide) iM_42 (rq.trans q_44 (rq.trans (rq_qw q_26) (rq.trans (rq_qw q_21) (rq.trans (rq_qw q_16) (rq.trans q_11 q_5))))) q_45 (((q_46).trans ((q_27).trans ((q_22).trans ((q_17).trans ((q_13).trans q_7)))))) (eR.trans erM_42 (eR.trans erM_25 (eR.trans erM_20 (eR.trans erM_15 (eR.trans erM_10 erM_4))))) hrM_42 (by first | omega | decide) (by have ES : bq_sv tx g_28 = g_47 := (by unfold bq_sv; rw [show g_28 96 = x_32.toInt by omega, show tx (100 + 16 * x_32.toInt.toNat + 4) = x_38.toInt by omega]; rw [if_pos (by omega), ← eg_47]); unfold bq_rl; rw [ES]; exact congrArg (fun k => bq_of k g_47) (by omega)) wpg_47 qvM_42 (by first | omega | decide) (by first | omega | decide) (by first | omega | decide) (by first | omega | decide) hw (lv_sub hl [0, 1, 2, 3, 4] rfl)

variable {Tc : gC} {Tm : gM}
/-- the told text's count of men and their names are in the registers; the other text is the spare -/
def tdC (M : ti_M) (rg : Nat → Int) : Prop := ∃ t, (t = 3 ∨ t = 4) ∧ tT M 0 1 = some t ∧ tT M 0 2 = some (7 - t) ∧ rg 7 = (tI M t 4).toInt ∧ ∀ i : Nat, i < 8 → rg (100 + i) = (tI M (ti_men t i) 0).toInt
theorem tdC_sp {M : ti_M} {rg : Nat → Int} {t1 t2 : Nat} (h : tdC M rg) (e1 : tT M 0 1 = some t1) (e2 : tT M 0 2 = some t2) : t2 = 7 - t1 := by
  obtain ⟨t, -, a, b, -, -⟩ := h
  obtain rfl : t1 = t := Option.some.inj (e1.symm.trans a)
  exact Option.some.inj (e2.symm.trans b)
theorem tdC_of {M N : ti_M} {rg : Nat → Int} {t1 : Nat} (h : tdC M rg) (e1 : tT M 0 1 = some t1) (hI : ∀ k : Nat, tI N t1 k = tI M t1 k) (hm : ∀ i k : Nat, i < 8 → tI N (ti_men t1 i) k = tI M (ti_men t1 i) k) (a : tT N 0 1 = some t1) (b : tT N 0 2 = some (7 - t1)) : tdC N rg := by
  obtain ⟨t, ht, a1, b1, c, d⟩ := h
  obtain rfl : t1 = t := Option.some.inj (e1.symm.trans a1)
  exact ⟨t1, ht, a, b, by rw [hI]; exact c, fun i hi => by rw [hm i 0 hi]; exact d i hi⟩
theorem tdC_tl {M N : ti_M} {rg : Nat → Int} (h : tdC M rg) (x : tl N M) : tdC N rg := by
  obtain ⟨t, ht, a, b, -, -⟩ := id h
  exact tdC_of h a (fun k => x.1 t k (by omega) (by omega)) (fun i k hi => x.1 _ k (by have := pp_men (t := t) (i := i); omega) (pp_men20 hi)) (x.2.1.trans a) (x.2.2.trans b)
theorem tdC_rc {M R N : ti_M} {rg : Nat → Int} {B : Nat → Int} {n : Nat} {J : Nat → Int} {t1 t2 : Nat} (h : tdC M rg) (ht2 : t2 = 3 ∨ t2 = 4) (e1 : tT M 0 1 = some t1) (e2 : tT M 0 2 = some t2) (hJ : rC B n t2 J R) (x : ∀ o k : Nat, 1 ≤ o → o < 27 → tI N o k = tI R o k) (a : tT N 0 1 = some t2) (b : tT N 0 2 = some t1) : tdC N J := by
  have e := tdC_sp h e1 e2
  have e4 : 7 - t2 = t1 := by
    obtain ⟨t, ht, a1, -, -, -⟩ := id h
    obtain rfl : t1 = t := Option.some.inj (e1.symm.trans a1)
    omega
  exact ⟨t2, ht2, a, by rw [e4]; exact b, by rw [x t2 4 (by omega) (by omega)]; exact hJ.2.2.2.1.1, fun i hi => by rw [x _ 0 (by have := pp_men (t := t2) (i := i); omega) (by have := pp_men20 (t := t2) hi; omega)]; exact (hJ.2.2.2.2 i hi).1⟩
theorem tdC_ot {M N : ti_M} {rg : Nat → Int} {t1 t2 : Nat} (h : tdC M rg) (e1 : tT M 0 1 = some t1) (e2 : tT M 0 2 = some t2) (x : ot t2 N M) (a : tT N 0 1 = some t1) (b : tT N 0 2 = some t2) : tdC N rg := by
  have e := tdC_sp h e1 e2
  obtain ⟨t, ht, a1, -, -, -⟩ := id h
  obtain rfl : t1 = t := Option.some.inj (e1.symm.trans a1)
  have e3 : 7 - t2 = t1 := by omega
  subst e
  unfold ot at x
  rw [e3] at x
  exact tdC_of h e1 x.1 x.2.1 a b
def t5 (N M : ti_M) : Prop := (∀ o k : Nat, 3 ≤ o → tI N o k = tI M o k) ∧ tT N 0 1 = tT M 0 1 ∧ tT N 0 2 = tT M 0 2
theorem tdC_5 {M N : ti_M} {rg : Nat → Int} (h : tdC M rg) (x : t5 N M) : tdC N rg := by
  obtain ⟨t, ht, a, b, -, -⟩ := id h
  exact tdC_of h a (fun k => x.1 t k (by omega)) (fun i k hi => x.1 _ k (by have := pp_men (t := t) (i := i); omega)) (x.2.1.trans a) (x.2.2.trans b)
set_option maxHeartbeats 4000000 in
set_option maxRecDepth 100000 in
theorem x_X9_feed_td (l : Launch) (D : va_G) (A : Nat → Nat → Nat) (cy : Nat → ClassId) (hJ : ti_inj ti_LT A) (M : ti_M) (hI : cI Tc M) (hF : cF Tc M) (z1 : Int32) (z2 : Int32) (z3 : Int32) (z4 : Int32) (z5 : Int32) : ti_Ki l yX9_feed cX9_feed 7 (some .int) 1 ti_LT D A cy M [.ref (A 0 0), .int z1, .int z2, .int z3, .int z4, .int z5] (fun r M2 => ((680 < (tI M 2 1).toInt ∧ r.toInt = -1 ∧ cF Tc M2 ∧ tI M2 2 1 = tI M 2 1 ∧ (∀ k : Nat, tI M2 1 k = tI M 1 k)) ∨ ((tI M 2 1).toInt ≤ 680 ∧ r.toInt = (tI M 2 1).toInt + 20 ∧ cF (cG M2) M2 ∧ (tI M2 2 1).toInt = (tI M 2 1).toInt + 20 ∧ (∀ i : Nat, (i : Int) < (tI M 2 1).toInt → tY M2 2 0 i = tY M 2 0 i) ∧ (∀ j : Nat, j < 20 → (tY M2 2 0 ((tI M 2 1).toInt.toNat + j) &&& 255).toInt = pp_fb z1 z2 z3 z4 z5 j) ∧ (∀ k : Nat, tI M2 1 k = tI M 1 k))) ∧ t5 M2 M) := by
  refine ti_eI yp_X9_feed hJ ti_LT_nd (Nat.le_of_ble_eq_true rfl) ?_
  intro p e s m args below meth c Q H0 C hQ hw ls hl
  have hx := C.1
  have hb := C.2.1
  have hl : lv_has ls 7 [(0, .ref (A 0 0)), (1, .int z1), (2, .int z2), (3, .int z3), (4, .int z4), (5, .int z5)] := hl
  obtain ⟨-, ⟨t1, ht1, hT1⟩, ⟨t2, ht2, hT2⟩, ⟨t, ht, hT⟩, hS, hM⟩ := id hF
  refine lv_aload_n hx hb dX9_feed_0 rfl (lv_at hl 0 rfl) ?_
  refine ti_get (ci := 9) (k := 0) (N := 10) (T := TX9) (v := .ref (A 1 0)) C hw iw_9 rfl ob_0 (by decide) (by decide) fl_X9_12 rfl rfl dX9_feed_1 ?_
  refine ti_get (ci := 4) (k := 0) (N := 6) (T := TX4) (v := .ref (A 2 0)) C hw iw_4 rfl ob_1 (by decide) (by decide) fl_X9_69 rfl rfl dX9_feed_4 ?_
  refine lv_astore (lv' := [(6, .ref (A 2 0)), (0, .ref (A 0 0)), (1, .int z1), (2, .int z2), (3, .int z3), (4, .int z4), (5, .int z5)]) hx hb dX9_feed_7 hl (by decide) rfl (fun ls hl => ?_)
  refine lv_aload hx hb dX9_feed_9 (lv_at hl 0 rfl) ?_
  refine ti_get (ci := 7) (k := 1) (N := 7) (T := TX7) C hw iw_7 rfl ob_2 (by decide) (by decide) fl_X9_73 rfl rfl dX9_feed_11 ?_
  refine lv_topi (fun x_1 ex_1 => ?_)
  have bx_1 : 0 ≤ x_1.toInt ∧ x_1.toInt ≤ 700 := cI_rd hI ob_2.1 ex_1
  have ux_1 : (tI M 2 1).toInt = x_1.toInt := by rw [ex_1]
  refine lv_bipush (v := 20) hx hb dX9_feed_14 (by decide) ?_
  refine lv_iadd hx hb dX9_feed_16 ?_
  refine lv_topi (fun x_2 ex_2 => ?_)
  have tx_2 : x_2.toInt = x_1.toInt + 20 := i_add ex_2 rfl (by decide : (20 : Int32).toInt = 20) (by omega) (by omega)
  refine lv_sipush (v := 700) hx hb dX9_feed_17 (by decide) ?_
  refine sb_icmp_le (tgt := 25) hx hb rfl (by decide : (700 : Int32).toInt = 700) dX9_feed_20 (by decide) (fun c_20_2 => ?_) (fun c_20_2 => ?_)
  · refine lv_aload hx hb dX9_feed_25 (lv_at hl 0 rfl) ?_
    refine lv_iload_n hx hb dX9_feed_27 rfl (lv_at hl 2 rfl) ?_
    refine ti_callVv (ci := 7) (av := [.int z1]) C hw (x_X7_put l D A cy hJ M hI z1 (by omega)) ⟨ml_X9_79, ym_X7_put, yv_X7_put, yi_X7_put, yc_X7_put⟩ yd_X7_put ob_2 (by decide) rfl rfl hl.1 (Nat.le_of_ble_eq_true rfl) ⟨by decide, by decide⟩ ⟨Nat.zero_le _, Nat.zero_le _⟩ dX9_feed_28 (fun M_5 H locs hp_5 hw => ?_)
    obtain ⟨iM_5, q_6, q_7, k0M_5, k1M_5, k2M_5⟩ := hp_5
    refine lv_aload hx hb dX9_feed_31 (lv_at hl 0 rfl) ?_
    refine lv_iload_n hx hb dX9_feed_33 rfl (lv_at hl 3 rfl) ?_
    refine ti_callVv (ci := 7) (av := [.int z2]) C hw (x_X7_put l D A cy hJ M_5 iM_5 z2 (by omega)) ⟨ml_X9_79, ym_X7_put, yv_X7_put, yi_X7_put, yc_X7_put⟩ yd_X7_put ob_2 (by decide) rfl rfl hl.1 (Nat.le_of_ble_eq_true rfl) ⟨by decide, by decide⟩ ⟨Nat.zero_le _, Nat.zero_le _⟩ dX9_feed_34 (fun M_9 H locs hp_9 hw => ?_)
    obtain ⟨iM_9, q_10, q_11, k0M_9, k1M_9, k2M_9⟩ := hp_9
    refine lv_aload hx hb dX9_feed_37 (lv_at hl 0 rfl) ?_
    refine lv_iload_n hx hb dX9_feed_39 rfl (lv_at hl 4 rfl) ?_
    refine ti_callVv (ci := 7) (av := [.int z3]) C hw (x_X7_put l D A cy hJ M_9 iM_9 z3 (by omega)) ⟨ml_X9_79, ym_X7_put, yv_X7_put, yi_X7_put, yc_X7_put⟩ yd_X7_put ob_2 (by decide) rfl rfl hl.1 (Nat.le_of_ble_eq_true rfl) ⟨by decide, by decide⟩ ⟨Nat.zero_le _, Nat.zero_le _⟩ dX9_feed_40 (fun M_13 H locs hp_13 hw => ?_)
    obtain ⟨iM_13, q_14, q_15, k0M_13, k1M_13, k2M_13⟩ := hp_13
    refine lv_aload hx hb dX9_feed_43 (lv_at hl 0 rfl) ?_
    refine lv_iload hx hb dX9_feed_45 (lv_at hl 5 rfl) ?_
    refine ti_callVv (ci := 7) (av := [.int z4]) C hw (x_X7_put l D A cy hJ M_13 iM_13 z4 (by omega)) ⟨ml_X9_79, ym_X7_put, yv_X7_put, yi_X7_put, yc_X7_put⟩ yd_X7_put ob_2 (by decide) rfl rfl hl.1 (Nat.le_of_ble_eq_true rfl) ⟨by decide, by decide⟩ ⟨Nat.zero_le _, Nat.zero_le _⟩ dX9_feed_47 (fun M_17 H locs hp_17 hw => ?_)
    obtain ⟨iM_17, q_18, q_19, k0M_17, k1M_17, k2M_17⟩ := hp_17
    refine lv_aload hx hb dX9_feed_50 (lv_at hl 0 rfl) ?_
    refine lv_iload hx hb dX9_feed_52 (lv_at hl 6 rfl) ?_
    refine ti_callVv (ci := 7) (av := [.int z5]) C hw (x_X7_put l D A cy hJ M_17 iM_17 z5 (by omega)) ⟨ml_X9_79, ym_X7_put, yv_X7_put, yi_X7_put, yc_X7_put⟩ yd_X7_put ob_2 (by decide) rfl rfl hl.1 (Nat.le_of_ble_eq_true rfl) ⟨by decide, by decide⟩ ⟨Nat.zero_le _, Nat.zero_le _⟩ dX9_feed_54 (fun M_21 H locs hp_21 hw => ?_)
    obtain ⟨iM_21, q_22, q_23, k0M_21, k1M_21, k2M_21⟩ := hp_21
    refine lv_aload hx hb dX9_feed_57 (lv_at hl 0 rfl) ?_
    refine ti_get (ci := 7) (k := 1) (N := 7) (T := TX7) C hw iw_7 rfl ob_2 (by decide) (by decide) fl_X9_73 rfl rfl dX9_feed_59 ?_
    refine lv_topi (fun x_24 ex_24 => ?_)
    have bx_24 : 0 ≤ x_24.toInt ∧ x_24.toInt ≤ 700 := cI_rd iM_21 ob_2.1 ex_24
    have ux_24 : (tI M_21 2 1).toInt = x_24.toInt := by rw [ex_24]
    exact hQ _ _ _ _ _ _ hw rfl (⟨(Or.inr ⟨by omega, by omega, cF_rx hF iM_21 (rr_of ((q_22).trans ((q_18).trans ((q_14).trans ((q_10).trans q_6))))) (f0_12 (o2_12 (o2.trans q_23 (o2.trans q_19 (o2.trans q_15 (o2.trans q_11 q_7)))))), by omega, (fun i hi => ((k1M_21 i (by omega)).trans ((k1M_17 i (by omega)).trans ((k1M_13 i (by omega)).trans ((k1M_9 i (by omega)).trans (k1M_5 i (by omega))))))), (fun j hj => by
      rcases (show j < 4 ∨ (4 ≤ j ∧ j < 8) ∨ (8 ≤ j ∧ j < 12) ∨ (12 ≤ j ∧ j < 16) ∨ 16 ≤ j by omega) with g | g | g | g | g
      · have b := k2M_5 (j - 0) (by omega)
        rw [show (tI M 2 1).toInt.toNat + (j - 0) = (tI M 2 1).toInt.toNat + j by omega] at b
        rw [k1M_21 _ (by omega)]
        rw [k1M_17 _ (by omega)]
        rw [k1M_13 _ (by omega)]
        rw [k1M_9 _ (by omega)]
        unfold pp_fb
        rw [if_pos (by omega), show j % 4 = j - 0 by omega]
        exact b
      · have b := k2M_9 (j - 4) (by omega)
        rw [show (tI M_5 2 1).toInt.toNat + (j - 4) = (tI M 2 1).toInt.toNat + j by omega] at b
        rw [k1M_21 _ (by omega)]
        rw [k1M_17 _ (by omega)]
        rw [k1M_13 _ (by omega)]
        unfold pp_fb
        rw [if_neg (by omega), if_pos (by omega), show j % 4 = j - 4 by omega]
        exact b
      · have b := k2M_13 (j - 8) (by omega)
        rw [show (tI M_9 2 1).toInt.toNat + (j - 8) = (tI M 2 1).toInt.toNat + j by omega] at b
        rw [k1M_21 _ (by omega)]
        rw [k1M_17 _ (by omega)]
        unfold pp_fb
        rw [if_neg (by omega), if_neg (by omega), if_pos (by omega), show j % 4 = j - 8 by omega]
        exact b
      · have b := k2M_17 (j - 12) (by omega)
        rw [show (tI M_13 2 1).toInt.toNat + (j - 12) = (tI M 2 1).toInt.toNat + j by omega] at b
        rw [k1M_21 _ (by omega)]
        unfold pp_fb
        rw [if_neg (by omega), if_neg (by omega), if_neg (by omega), if_pos (by omega), show j % 4 = j - 12 by omega]
        exact b
      · have b := k2M_21 (j - 16) (by omega)
        rw [show (tI M_17 2 1).toInt.toNat + (j - 16) = (tI M 2 1).toInt.toNat + j by omega] at b
        unfold pp_fb
        rw [if_neg (by omega), if_neg (by omega), if_neg (by omega), if_neg (by omega), show j % 4 = j - 16 by omega]
        exact b), (fun k => ((q_23 1 k (by decide)).trans ((q_19 1 k (by decide)).trans ((q_15 1 k (by decide)).trans ((q_11 1 k (by decide)).trans (q_7 1 k (by decide)))))))⟩), (fun o k h3 => (o2.trans q_23 (o2.trans q_19 (o2.trans q_15 (o2.trans q_11 q_7)))) o k (by omega)), tT_fr ((q_22).trans ((q_18).trans ((q_14).trans ((q_10).trans q_6)))), tT_fr ((q_22).trans ((q_18).trans ((q_14).trans ((q_10).trans q_6))))⟩) dX9_feed_62
  · refine lv_iconst (v := (-1)) hx hb dX9_feed_23 (by decide) ?_
    exact hQ _ _ _ _ _ _ hw rfl (⟨(Or.inl ⟨by omega, by decide, hF, rfl, fun _ => rfl⟩), (fun _ _ _ => rfl), rfl, rfl⟩) dX9_feed_24
set_option maxHeartbeats 4000000 in
set_option maxRecDepth 100000 in
theorem x_X8_found (l : Launch) (D : va_G) (A : Nat → Nat → Nat) (cy : Nat → ClassId) (hJ : ti_inj ti_LT A) (M : ti_M) (hI : cI Tc M) (t : Nat) (ht : t = 3 ∨ t = 4) (nm : Int32) (rg : Nat → Int) (h7 : rg 7 = (tI M t 4).toInt) (h10 : ∀ i : Nat, i < 8 → rg (100 + i) = (tI M (ti_men t i) 0).toInt) : ti_Ki l yX8_find cX8_find 3 (some .int) 0 ti_LT D A cy M [.ref (A t 0), .int nm] (fun r M2 => M2 = M ∧ (-1) ≤ r.toInt ∧ r.toInt ≤ 7 ∧ r.toInt = pp_fd rg nm.toInt 0) := by
  refine ti_eI yp_X8_find hJ ti_LT_nd (Nat.le_of_ble_eq_true rfl) ?_
  intro p e s m args below meth c Q H0 C hQ hw ls hl
  have hx := C.1
  have hb := C.2.1
  have hl : lv_has ls 3 [(0, .ref (A t 0)), (1, .int nm)] := hl
  refine lv_iconst (v := 0) hx hb dX8_find_0 (by decide) ?_
  refine lv_istore_n (lv' := [(2, .int 0), (0, .ref (A t 0)), (1, .int nm)]) hx hb dX8_find_1 rfl hl (by decide) rfl (fun ls hl => ?_)
  have hl_2_4 : ∀ (n_5 : Nat) (x_1 : Int32) (H : Heap) (locs : List Loc) (ls : Array Slot), (8 - x_1.toInt : Int).toNat < n_5 → (0 ≤ x_1.toInt) → (x_1.toInt ≤ 8) → (pp_fd rg nm.toInt 0 = pp_fd rg nm.toInt (x_1.toInt).toNat) → ti_H ti_LT D A cy H0 M H locs → lv_has ls 3 [(2, .int x_1), (0, .ref (A t 0)), (1, .int nm)] → W p l e (ti_rm 0) s m args below meth c H locs 0 0 Q (F0 m 2 ls []) := by
    intro n_5
    induction n_5 with
    | zero => intro x_1 H locs ls hf_5; exact absurd hf_5 (Nat.not_lt_zero _)
    | succ n_5 ih_5 =>
      intro x_1 H locs ls hf_5 b_2 b_3 j_4 hw hl
      refine lv_iload_n hx hb dX8_find_2 rfl (lv_at hl 0 rfl) ?_
      refine lv_aload_n hx hb dX8_find_3 rfl (lv_at hl 1 rfl) ?_
      refine ti_get (ci := 8) (k := 4) (N := 12) (T := TX8) C hw iw_8 rfl (ob_t ht) (by decide) (by decide) fl_X8_36 rfl rfl dX8_find_4 ?_
      refine lv_topi (fun x_6 ex_6 => ?_)
      have bx_6 : 0 ≤ x_6.toInt ∧ x_6.toInt ≤ 8 := cI_rd hI (ob_t ht).1 ex_6
      have ux_6 : (tI M t 4).toInt = x_6.toInt := by rw [ex_6]
      refine sb_icmp_ge (tgt := 31) hx hb rfl rfl dX8_find_7 (by decide) (fun c_7_6 => ?_) (fun c_7_6 => ?_)
      · refine lv_iconst (v := (-1)) hx hb dX8_find_31 (by decide) ?_
        exact hQ _ _ _ _ _ _ hw rfl (⟨rfl, by decide, by decide, (by rw [j_4, fd_end (s := rg) (v := nm.toInt) (i := x_1.toInt.toNat) (by omega)]; decide)⟩) dX8_find_32
      · refine lv_aload_n hx hb dX8_find_10 rfl (lv_at hl 1 rfl) ?_
        refine ti_get (ci := 8) (k := 0) (N := 12) (T := TX8) (v := .ref (A t 1)) C hw iw_8 rfl (ob_t ht) (by decide) (by decide) fl_X8_11 rfl rfl dX8_find_11 ?_
        refine lv_iload_n hx hb dX8_find_14 rfl (lv_at hl 0 rfl) ?_
        refine ti_aald (ci := 8) (k := 0) (n := 8) (t0 := 5) (Cn := RX2) (gg := (ti_men t)) (j := x_1.toNatClampNeg) C hw (ob_t ht) (by decide) (fun _ _ => rfl) rfl (vp_in_iff.mpr (by omega)) rfl dX8_find_15 ?_
        have ob_8 : ti_ob ti_LT (ti_men t x_1.toNatClampNeg) 2 := ob_m ht (i_nt rfl (by omega) (by omega))
        refine ti_get (ci := 2) (k := 0) (N := 10) (T := TX2) C hw iw_2 rfl ob_8 (by decide) (by decide) fl_X8_63 rfl rfl dX8_find_16 ?_
        refine lv_topi (fun x_9 ex_9 => ?_)
        have mnx_1 : rg (100 + x_1.toInt.toNat) = x_9.toInt := by rw [ex_9]; exact h10 x_1.toInt.toNat (by omega)
        refine lv_iload_n hx hb dX8_find_19 rfl (lv_at hl 2 rfl) ?_
        refine sb_icmp_ne (tgt := 25) hx hb rfl rfl dX8_find_20 (by decide) (fun c_20_9 => ?_) (fun c_20_9 => ?_)
        · obtain ⟨x_11, ex_11⟩ : ∃ z : Int32, z = x_1 + 1 := ⟨_, rfl⟩
          have tx_11 : x_11.toInt = x_1.toInt + 1 := i_add ex_11 rfl (by decide) (by omega) (by omega)
          refine lv_iinc (v := x_11) (lv' := [(2, .int x_11), (0, .ref (A t 0)), (1, .int nm)]) hx hb dX8_find_25 hl (k := 0) rfl (by rw [ex_11]; rfl) (by decide) rfl (fun ls hl => ?_)
          refine lv_goto (tgt := 2) hx hb dX8_find_28 (by decide) ?_
          exact ih_5 x_11 _ _ _ (by omega) (by first | omega | decide) (by first | omega | decide) (by rw [show x_11.toInt.toNat = x_1.toInt.toNat + 1 by omega, ← fd_go (s := rg) (v := nm.toInt) (i := x_1.toInt.toNat) (by omega) (by rw [mnx_1]; omega)]; exact j_4) hw (lv_sub hl [0, 1, 2] rfl)
        · refine lv_iload_n hx hb dX8_find_23 rfl (lv_at hl 0 rfl) ?_
          exact hQ _ _ _ _ _ _ hw rfl (⟨rfl, by omega, by omega, (by rw [j_4, fd_at (s := rg) (v := nm.toInt) (i := x_1.toInt.toNat) (by omega) (by rw [mnx_1]; omega)]; omega)⟩) dX8_find_24
  exact hl_2_4 ((8 - 0 : Int).toNat + 1) 0 _ _ _ (Nat.lt_succ_self _) (by have lt0 : (0 : Int32).toInt = 0 := (by decide); first | omega | decide) (by have lt0 : (0 : Int32).toInt = 0 := (by decide); first | omega | decide) rfl hw (lv_sub hl [0, 1, 2] rfl)
set_option maxHeartbeats 4000000 in
set_option maxRecDepth 100000 in
theorem x_X9_named (l : Launch) (D : va_G) (A : Nat → Nat → Nat) (cy : Nat → ClassId) (hJ : ti_inj ti_LT A) (M : ti_M) (hI : cI Tc M) (hF : cF Tc M) (za : Int32) (rg : Nat → Int) (htd : tdC M rg) : ti_Ki l yX9_named cX9_named 2 (some .int) 1 ti_LT D A cy M [.ref (A 0 0), .int za] (fun r M2 => (cF Tc M2 ∧ tI M2 2 1 = tI M 2 1 ∧ tl M2 M) ∧ r.toInt = pp_fd rg za.toInt 0) := by
  refine ti_eI yp_X9_named hJ ti_LT_nd (Nat.le_of_ble_eq_true rfl) ?_
  intro p e s m args below meth c Q H0 C hQ hw ls hl
  have hx := C.1
  have hb := C.2.1
  have hl : lv_has ls 2 [(0, .ref (A 0 0)), (1, .int za)] := hl
  obtain ⟨-, ⟨t1, ht1, hT1⟩, ⟨t2, ht2, hT2⟩, ⟨t, ht, hT⟩, hS, hM⟩ := id hF
  obtain ⟨t0, -, hT0, -, h7, h10⟩ := id htd
  obtain rfl : t1 = t0 := Option.some.inj (hT1.symm.trans hT0)
  refine lv_aload_n hx hb dX9_named_0 rfl (lv_at hl 0 rfl) ?_
  refine ti_get (ci := 9) (k := 1) (N := 10) (T := TX9) (v := .ref (A t1 0)) C hw iw_9 rfl ob_0 (by decide) (by decide) fl_X9_19 rfl (ti_Tv (hT1)) dX9_named_1 ?_
  refine lv_iload_n hx hb dX9_named_4 rfl (lv_at hl 1 rfl) ?_
  refine ti_callVi (ci := 8) (av := [.int za]) C hw (x_X8_found l D A cy hJ M hI t1 ht1 za rg h7 h10) ⟨ml_X9_100, ym_X8_find, yv_X8_find, yi_X8_find, yc_X8_find⟩ yd_X8_find (ob_t ht1) (by decide) rfl rfl hl.1 (Nat.le_of_ble_eq_true rfl) ⟨by decide, by decide⟩ ⟨Nat.zero_le _, Nat.zero_le _⟩ dX9_named_5 (fun r_1 M_2 H locs hp_2 hw => ?_)
  obtain ⟨hm, b0r_1, b1r_1, p0r_1⟩ := hp_2
  have hw := hw.to hm
  exact hQ _ _ _ _ _ _ hw rfl (⟨⟨hF, rfl, tl.refl⟩, p0r_1⟩) dX9_named_8

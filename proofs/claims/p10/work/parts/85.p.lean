variable {Tc : gC} {Tm : gM}
theorem ra_4 {M : ti_M} {x z : Int32} {s : Nat} (e : tY M 60 4 x.toNatClampNeg = z) (hx : x.toInt = (s : Int)) : (tY M 60 4 s).toInt = z.toInt := by
  rw [i_cl hx] at e
  rw [e]
set_option maxHeartbeats 4000000 in
set_option maxRecDepth 100000 in
theorem x_X10_found_0 (l : Launch) (D : va_G) (A : Nat → Nat → Nat) (cy : Nat → ClassId) (hJ : ti_inj ti_LM A) (M : ti_M) (hI : mI Tm M) (nm v : Int32) (h1 : 0 ≤ nm.toInt) (h2 : nm.toInt ≤ 8) (rg : Nat → Int) (h7 : rg 7 = nm.toInt) (hnm : ∀ i : Nat, i < 8 → (i : Int) < nm.toInt → rg (100 + i) = (tY M 60 4 i).toInt) : ti_Ki l yX10_found cX10_found 5 (some .int) 0 ti_LM D A cy M [.ref (A 60 5), .int 0, .int nm, .int v] (fun r M2 => M2 = M ∧ -1 ≤ r.toInt ∧ r.toInt ≤ 7 ∧ r.toInt = pp_fd rg v.toInt 0) := by
  refine ti_eI yp_X10_found hJ ti_LM_nd (Nat.le_of_ble_eq_true rfl) ?_
  intro p e s m args below meth c Q H0 C hQ hw ls hl
  have hx := C.1
  have hb := C.2.1
  have hl : lv_has ls 5 [(0, .ref (A 60 5)), (1, .int 0), (2, .int nm), (3, .int v)] := hl
  refine lv_iconst (v := 0) hx hb dX10_found_0 (by decide) ?_
  refine lv_istore (lv' := [(4, .int 0), (0, .ref (A 60 5)), (1, .int 0), (2, .int nm), (3, .int v)]) hx hb dX10_found_1 hl (by decide) rfl (fun ls hl => ?_)
  have hl_3_4 : ∀ (n_5 : Nat) (x_1 : Int32) (H : Heap) (locs : List Loc) (ls : Array Slot), (8 - x_1.toInt : Int).toNat < n_5 → (0 ≤ x_1.toInt) → (x_1.toInt ≤ 8) → (pp_fd rg v.toInt 0 = pp_fd rg v.toInt (x_1.toInt).toNat) → ti_H ti_LM D A cy H0 M H locs → lv_has ls 5 [(4, .int x_1), (0, .ref (A 60 5)), (1, .int 0), (2, .int nm), (3, .int v)] → W p l e (ti_rm 0) s m args below meth c H locs 0 0 Q (F0 m 3 ls []) := by
    intro n_5
    induction n_5 with
    | zero => intro x_1 H locs ls hf_5; exact absurd hf_5 (Nat.not_lt_zero _)
    | succ n_5 ih_5 =>
      intro x_1 H locs ls hf_5 b_2 b_3 j_4 hw hl
      refine lv_iload hx hb dX10_found_3 (lv_at hl 0 rfl) ?_
      refine lv_iload_n hx hb dX10_found_5 rfl (lv_at hl 3 rfl) ?_
      refine sb_icmp_ge (tgt := 28) hx hb rfl rfl dX10_found_6 (by decide) (fun c_6_5 => ?_) (fun c_6_5 => ?_)
      · refine lv_iconst (v := (-1)) hx hb dX10_found_28 (by decide) ?_
        exact hQ _ _ _ _ _ _ hw rfl (⟨rfl, by decide, by decide, (by rw [j_4, fd_end (s := rg) (v := v.toInt) (i := x_1.toInt.toNat) (by omega)]; decide)⟩) dX10_found_29
      · refine lv_aload_n hx hb dX10_found_9 rfl (lv_at hl 1 rfl) ?_
        refine lv_iload_n hx hb dX10_found_10 rfl (lv_at hl 2 rfl) ?_
        refine lv_iload hx hb dX10_found_11 (lv_at hl 0 rfl) ?_
        refine lv_iadd hx hb dX10_found_13 ?_
        refine lv_topi (fun x_7 ex_7 => ?_)
        have tx_7 : x_7.toInt = 0 + x_1.toInt := i_add ex_7 (by decide : (0 : Int32).toInt = 0) rfl (by omega) (by omega)
        refine ti_iald (ci := 10) (k := 4) (n := 16) C hw ob_60 (by decide) (fun _ _ => rfl) (vp_in_iff.mpr (by omega)) dX10_found_14 ?_
        refine lv_topi (fun x_8 ex_8 => ?_)
        have yx_8 : tY M 60 4 x_7.toNatClampNeg = x_8 := (ex_8.symm)
        have mnx_1 : rg (100 + x_1.toInt.toNat) = x_8.toInt := (hnm x_1.toInt.toNat (by omega) (by omega)).trans (ra_4 (s := x_1.toInt.toNat) yx_8 (by omega))
        refine lv_iload_n hx hb dX10_found_15 rfl (lv_at hl 4 rfl) ?_
        refine sb_icmp_ne (tgt := 22) hx hb rfl rfl dX10_found_16 (by decide) (fun c_16_8 => ?_) (fun c_16_8 => ?_)
        · obtain ⟨x_10, ex_10⟩ : ∃ z : Int32, z = x_1 + 1 := ⟨_, rfl⟩
          have tx_10 : x_10.toInt = x_1.toInt + 1 := i_add ex_10 rfl (by decide) (by omega) (by omega)
          refine lv_iinc (v := x_10) (lv' := [(4, .int x_10), (0, .ref (A 60 5)), (1, .int 0), (2, .int nm), (3, .int v)]) hx hb dX10_found_22 hl (k := 0) rfl (by rw [ex_10]; rfl) (by decide) rfl (fun ls hl => ?_)
          refine lv_goto (tgt := 3) hx hb dX10_found_25 (by decide) ?_
          exact ih_5 x_10 _ _ _ (by omega) (by first | omega | decide) (by first | omega | decide) (by rw [show x_10.toInt.toNat = x_1.toInt.toNat + 1 by omega, ← fd_go (s := rg) (v := v.toInt) (i := x_1.toInt.toNat) (by omega) (by rw [mnx_1]; omega)]; exact j_4) hw (lv_sub hl [0, 1, 2, 3, 4] rfl)
        · refine lv_iload hx hb dX10_found_19 (lv_at hl 0 rfl) ?_
          exact hQ _ _ _ _ _ _ hw rfl (⟨rfl, by omega, by omega, (by rw [j_4, fd_at (s := rg) (v := v.toInt) (i := x_1.toInt.toNat) (by omega) (by rw [mnx_1]; omega)]; omega)⟩) dX10_found_21
  exact hl_3_4 ((8 - 0 : Int).toNat + 1) 0 _ _ _ (Nat.lt_succ_self _) (by have lt0 : (0 : Int32).toInt = 0 := (by decide); first | omega | decide) (by have lt0 : (0 : Int32).toInt = 0 := (by decide); first | omega | decide) rfl hw (lv_sub hl [0, 1, 2, 3, 4] rfl)
set_option maxHeartbeats 4000000 in
set_option maxRecDepth 100000 in
theorem x_X10_named (l : Launch) (D : va_G) (A : Nat → Nat → Nat) (cy : Nat → ClassId) (hJ : ti_inj ti_LM A) (M : ti_M) (hI : mI Tm M) (hF : mF Tm M) (z1 : Int32) (rg : Nat → Int) (htd : tdR M rg) : ti_Ki l yX10_named cX10_named 2 (some .int) 1 ti_LM D A cy M [.ref (A 60 0), .int z1] (fun r M2 => (mF Tm M2 ∧ tI M2 60 2 = tI M 60 2 ∧ lw M2 M) ∧ r.toInt = pp_fd rg z1.toInt 0) := by
  refine ti_eI yp_X10_named hJ ti_LM_nd (Nat.le_of_ble_eq_true rfl) ?_
  intro p e s m args below meth c Q H0 C hQ hw ls hl
  have hx := C.1
  have hb := C.2.1
  have hl : lv_has ls 2 [(0, .ref (A 60 0)), (1, .int z1)] := hl
  have hL : mL M := hF.2.1
  have hC0 : mC M 0 := hF.2.2.1.1
  have hP0 : mP M 0 := hF.2.2.1.2
  refine lv_aload_n hx hb dX10_named_0 rfl (lv_at hl 0 rfl) ?_
  refine lv_iconst (v := 0) hx hb dX10_named_1 (by decide) ?_
  refine ti_putI (ci := 10) (k := 0) (N := 67) (T := TX10) C hw iw_10 tyX10 tyX10_ok nmX10 rfl ob_60 (by decide) (by decide) fl_X10_154 rfl rfl rfl rfl (fn_10 A _) fs_10_0 dX10_named_2 (fun H locs hw => ?_)
  obtain ⟨M_1, hM_1⟩ : ∃ z : ti_M, z = uI M 60 0 0 := ⟨_, rfl⟩
  have hw := hw.to hM_1.symm
  have iM_1 : mI Tm M_1 := mI_uI hI hM_1 (by decide) (by decide) trivial
  refine lv_aload_n hx hb dX10_named_5 rfl (lv_at hl 0 rfl) ?_
  refine ti_get (ci := 10) (k := 4) (N := 67) (T := TX10) (v := .ref (A 60 5)) C hw iw_10 rfl ob_60 (by decide) (by decide) fl_X10_16 rfl rfl dX10_named_6 ?_
  refine lv_iconst (v := 0) hx hb dX10_named_9 (by decide) ?_
  refine lv_aload_n hx hb dX10_named_10 rfl (lv_at hl 0 rfl) ?_
  refine ti_get (ci := 10) (k := 3) (N := 67) (T := TX10) (v := .ref (A 60 4)) C hw iw_10 rfl ob_60 (by decide) (by decide) fl_X10_13 rfl rfl dX10_named_11 ?_
  refine lv_iconst (v := 0) hx hb dX10_named_14 (by decide) ?_
  refine ti_iald (ci := 10) (k := 3) (n := 22) C hw ob_60 (by decide) (fun _ _ => rfl) (by unfold vp_in; decide) dX10_named_15 ?_
  refine lv_topi (fun x_2 ex_2 => ?_)
  have yx_2 : tY M_1 60 3 0 = x_2 := ((congrArg _ (by decide)).symm.trans ex_2.symm)
  have bx_2 : 0 ≤ x_2.toInt ∧ x_2.toInt ≤ 8 := mI_rn (i := 0) iM_1 yx_2.symm (fun _ h => h)
  have zx_2 : (tY M_1 60 3 0).toInt = x_2.toInt := by rw [yx_2]
  have wx_2 : tY M 60 3 0 = x_2 := ((cg (tY_uIE hM_1) 0)).symm.trans yx_2
  have zwx_2 : (tY M 60 3 0).toInt = x_2.toInt := by rw [wx_2]
  refine lv_iload_n hx hb dX10_named_16 rfl (lv_at hl 1 rfl) ?_
  refine ti_callSi (av := [.ref (A 60 5), .int 0, .int x_2, .int z1]) C hw (x_X10_found_0 l D A cy hJ M_1 iM_1 x_2 z1 (by omega) (by omega) rg (htd.1.trans (congrArg Int32.toInt ((congrFun ((qw_I hM_1 (by decide)).1 3 (by decide) (by decide)) 0).symm.trans ((cg (tY_uIE hM_1) 0).trans wx_2)))) (fun i hi hl => (htd.2 i hi (by rw [(htd.1.trans (congrArg Int32.toInt ((congrFun ((qw_I hM_1 (by decide)).1 3 (by decide) (by decide)) 0).symm.trans ((cg (tY_uIE hM_1) 0).trans wx_2))))]; exact hl)).trans (congrArg Int32.toInt (congrFun ((qw_I hM_1 (by decide)).1 4 (by decide) (by decide)) i).symm))) ⟨ml_X10_220, ys_X10_found, yi_X10_found, yc_X10_found⟩ yd_X10_found rfl hl.1 (Nat.le_of_ble_eq_true rfl) ⟨by decide, by decide⟩ ⟨Nat.zero_le _, Nat.zero_le _⟩ dX10_named_17 (fun r_3 M_4 H locs hp_4 hw => ?_)
  obtain ⟨hm, b0r_3, b1r_3, p0r_3⟩ := hp_4
  have hw := hw.to hm
  exact hQ _ _ _ _ _ _ hw rfl (⟨⟨mF_qw hF iM_1 (qw_I hM_1 (by decide)), (qw_I hM_1 (by decide)).2.1.1, (qw_I hM_1 (by decide)).1⟩, p0r_3⟩) dX10_named_20
set_option maxHeartbeats 4000000 in
set_option maxRecDepth 100000 in
theorem x_X10_feed_td (l : Launch) (D : va_G) (A : Nat → Nat → Nat) (cy : Nat → ClassId) (hJ : ti_inj ti_LM A) (M : ti_M) (hI : mJ M) (hF : mF Tm M) (z1 : Int32) (z2 : Int32) (z3 : Int32) (z4 : Int32) (z5 : Int32) : ti_Ki l yX10_feed cX10_feed 8 (some .int) 0 ti_LM D A cy M [.ref (A 60 0), .int z1, .int z2, .int z3, .int z4, .int z5] (fun r M2 => ((680 < (tI M 60 2).toInt ∧ r.toInt = -1 ∧ mF (mG M2) M2 ∧ tI M2 60 2 = tI M 60 2 ∧ tY M2 60 1 = tY M 60 1 ∧ tI M2 60 27 = tI M 60 27 ∧ tI M2 60 28 = tI M 60 28 ∧ tI M2 60 58 = tI M 60 58 ∧ tI M2 60 59 = tI M 60 59) ∨ ((tI M 60 2).toInt ≤ 680 ∧ r.toInt = (tI M 60 2).toInt + 20 ∧ mF (mG M2) M2 ∧ (tI M2 60 2).toInt = (tI M 60 2).toInt + 20 ∧ (∀ i : Nat, (i : Int) < (tI M 60 2).toInt → tY M2 60 1 i = tY M 60 1 i) ∧ (∀ j : Nat, j < 20 → (tY M2 60 1 ((tI M 60 2).toInt.toNat + j)).toInt = pp_fb z1 z2 z3 z4 z5 j) ∧ tI M2 60 27 = tI M 60 27 ∧ tI M2 60 28 = tI M 60 28 ∧ tI M2 60 58 = tI M 60 58 ∧ tI M2 60 59 = tI M 60 59)) ∧ lw M2 M) := by
  refine ti_eI yp_X10_feed hJ ti_LM_nd (Nat.le_of_ble_eq_true rfl) ?_
  intro p e s m args below meth c Q H0 C hQ hw ls hl
  have hx := C.1
  have hb := C.2.1
  have hl : lv_has ls 8 [(0, .ref (A 60 0)), (1, .int z1), (2, .int z2), (3, .int z3), (4, .int z4), (5, .int z5)] := hl
  refine lv_aload_n hx hb dX10_feed_0 rfl (lv_at hl 0 rfl) ?_
  refine lv_iconst (v := 0) hx hb dX10_feed_1 (by decide) ?_
  refine ti_putI (ci := 10) (k := 0) (N := 67) (T := TX10) C hw iw_10 tyX10 tyX10_ok nmX10 rfl ob_60 (by decide) (by decide) fl_X10_154 rfl rfl rfl rfl (fn_10 A _) fs_10_0 dX10_feed_2 (fun H locs hw => ?_)
  obtain ⟨M_1, hM_1⟩ : ∃ z : ti_M, z = uI M 60 0 0 := ⟨_, rfl⟩
  have hw := hw.to hM_1.symm
  have iM_1 : mJ M_1 := mI_self (mI_uI hI hM_1 (by decide) (by decide) trivial)
  refine lv_aload_n hx hb dX10_feed_5 rfl (lv_at hl 0 rfl) ?_
  refine ti_get (ci := 10) (k := 2) (N := 67) (T := TX10) C hw iw_10 rfl ob_60 (by decide) (by decide) fl_X10_157 rfl rfl dX10_feed_6 ?_
  refine lv_topi (fun x_2 ex_2 => ?_)
  have bx_2 : 0 ≤ x_2.toInt ∧ x_2.toInt ≤ 700 := mI_rd iM_1 ex_2
  have ux_2 : (tI M_1 60 2).toInt = x_2.toInt := by rw [ex_2]
  refine lv_sipush (v := 680) hx hb dX10_feed_9 (by decide) ?_
  refine sb_icmp_le (tgt := 17) hx hb rfl (by decide : (680 : Int32).toInt = 680) dX10_feed_12 (by decide) (fun c_12_2 => ?_) (fun c_12_2 => ?_)
  · refine lv_iconst (v := 0) hx hb dX10_feed_17 (by decide) ?_
    refine lv_istore (lv' := [(6, .int 0), (0, .ref (A 60 0)), (1, .int z1), (2, .int z2), (3, .int z3), (4, .int z4), (5, .int z5)]) hx hb dX10_feed_18 hl (by decide) rfl (fun ls hl => ?_)
    have hl_20_15 : ∀ (n_16 : Nat) (x_4 : Int32) (M_7 : ti_M) (H : Heap) (locs : List Loc) (ls : Array Slot), (20 - x_4.toInt : Int).toNat < n_16 → (0 ≤ x_4.toInt) → (x_4.toInt ≤ 20) → (mJ M_7) → (qw M_7 M) → (tI M_7 60 27 = tI M 60 27) → (tI M_7 60 28 = tI M 60 28) → (tI M_7 60 58 = tI M 60 58) → (tI M_7 60 59 = tI M 60 59) → (tI M_7 60 2 = x_2) → (∀ i : Nat, (i : Int) < (tI M 60 2).toInt → tY M_7 60 1 i = tY M 60 1 i) → (∀ j : Nat, (j : Int) < x_4.toInt → (tY M_7 60 1 ((tI M 60 2).toInt.toNat + j)).toInt = pp_fb z1 z2 z3 z4 z5 j) → ti_H ti_LM D A cy H0 M_7 H locs → lv_has ls 8 [(6, .int x_4), (0, .ref (A 60 0)), (1, .int z1), (2, .int z2), (3, .int z3), (4, .int z4), (5, .int z5)] → W p l e (ti_rm 0) s m args below meth c H locs 0 0 Q (F0 m 20 ls []) := by
      intro n_16
      induction n_16 with
      | zero => intro x_4 M_7 H locs ls hf_16; exact absurd hf_16 (Nat.not_lt_zero _)
      | succ n_16 ih_16 =>
        intro x_4 M_7 H locs ls hf_16 b_5 b_6 iM_7 f_8 f_9 f_10 f_11 f_12 f_13 j_14 j_15 hw hl
        have v_17 : (tI M_7 60 2).toInt = (tI M 60 2).toInt := by rw [f_8.2.1.1]
        refine lv_iload hx hb dX10_feed_20 (lv_at hl 0 rfl) ?_
        refine lv_bipush (v := 20) hx hb dX10_feed_22 (by decide) ?_
        refine sb_icmp_ge (tgt := 110) hx hb rfl (by decide : (20 : Int32).toInt = 20) dX10_feed_24 (by decide) (fun c_24_17 => ?_) (fun c_24_17 => ?_)
        · refine lv_aload_n hx hb dX10_feed_110 rfl (lv_at hl 1 rfl) ?_
          refine lv_dup hx hb dX10_feed_111 rfl ?_
          refine ti_get (ci := 10) (k := 2) (N := 67) (T := TX10) C hw iw_10 rfl ob_60 (by decide) (by decide) fl_X10_157 rfl rfl dX10_feed_112 ?_
          refine ti_top (y := x_2) (f_13) ?_
          have u_68 : (tI M_7 60 2).toInt = (x_2 : Int32).toInt := by rw [(f_13)]
          refine lv_bipush (v := 20) hx hb dX10_feed_115 (by decide) ?_
          refine lv_iadd hx hb dX10_feed_117 ?_
          refine lv_topi (fun x_69 ex_69 => ?_)
          have tx_69 : x_69.toInt = x_2.toInt + 20 := i_add ex_69 rfl (by decide : (20 : Int32).toInt = 20) (by omega) (by omega)
          refine ti_putI (ci := 10) (k := 2) (N := 67) (T := TX10) C hw iw_10 tyX10 tyX10_ok nmX10 rfl ob_60 (by decide) (by decide) fl_X10_157 rfl rfl rfl rfl (fn_10 A _) fs_10_2 dX10_feed_118 (fun H locs hw => ?_)
          obtain ⟨M_70, hM_70⟩ : ∃ z : ti_M, z = uI M_7 60 2 x_69 := ⟨_, rfl⟩
          have hw := hw.to hM_70.symm
          have iM_70 : mJ M_70 := mI_self (mI_uI iM_7 hM_70 (by decide) (by decide) (ib_mk (lo := 0) (hi := 700) (by omega) (by omega)))
          have vM_70 : (tI M_70 60 2).toInt = (x_69 : Int32).toInt := by rw [tI_uE hM_70]
          refine lv_aload_n hx hb dX10_feed_121 rfl (lv_at hl 1 rfl) ?_
          refine ti_get (ci := 10) (k := 2) (N := 67) (T := TX10) C hw iw_10 rfl ob_60 (by decide) (by decide) fl_X10_157 rfl rfl dX10_feed_122 ?_
          refine ti_top (y := x_69) (tI_uE hM_70) ?_
          have u_71 : (tI M_70 60 2).toInt = (x_69 : Int32).toInt := by rw [(tI_uE hM_70)]
          exact hQ _ _ _ _ _ _ hw rfl (⟨(Or.inr ⟨by omega, by omega, mF_tp hF iM_7 f_8 iM_70 hM_70, by omega, (fun i hi => by rw [tY_uIE hM_70]; exact j_14 i hi), (fun j hj => by rw [tY_uIE hM_70]; exact j_15 j (by omega)), ((tI_nE hM_70 (nk (by decide))).trans f_9), ((tI_nE hM_70 (nk (by decide))).trans f_10), ((tI_nE hM_70 (nk (by decide))).trans f_11), ((tI_nE hM_70 (nk (by decide))).trans f_12)⟩), fun k h1 h2 => (tY_uIE hM_70).trans (f_8.1 k h1 h2)⟩) dX10_feed_125
        · refine lv_iload hx hb dX10_feed_27 (lv_at hl 0 rfl) ?_
          refine lv_iconst (v := 4) hx hb dX10_feed_29 (by decide) ?_
          refine sb_icmp_ge (tgt := 37) hx hb rfl (by decide : (4 : Int32).toInt = 4) dX10_feed_30 (by decide) (fun c_30_18 => ?_) (fun c_30_18 => ?_)
          · refine lv_iload hx hb dX10_feed_37 (lv_at hl 0 rfl) ?_
            refine lv_bipush (v := 8) hx hb dX10_feed_39 (by decide) ?_
            refine sb_icmp_ge (tgt := 48) hx hb rfl (by decide : (8 : Int32).toInt = 8) dX10_feed_41 (by decide) (fun c_41_19 => ?_) (fun c_41_19 => ?_)
            · refine lv_iload hx hb dX10_feed_48 (lv_at hl 0 rfl) ?_
              refine lv_bipush (v := 12) hx hb dX10_feed_50 (by decide) ?_
              refine sb_icmp_ge (tgt := 59) hx hb rfl (by decide : (12 : Int32).toInt = 12) dX10_feed_52 (by decide) (fun c_52_20 => ?_) (fun c_52_20 => ?_)
              · refine lv_iload hx hb dX10_feed_59 (lv_at hl 0 rfl) ?_
                refine lv_bipush (v := 16) hx hb dX10_feed_61 (by decide) ?_
                refine sb_icmp_ge (tgt := 71) hx hb rfl (by decide : (16 : Int32).toInt = 16) dX10_feed_63 (by decide) (fun c_63_21 => ?_) (fun c_63_21 => ?_)
                · refine lv_iload hx hb dX10_feed_71 (lv_at hl 6 rfl) ?_
                  refine lv_istore (lv' := [(7, .int z5), (6, .int x_4), (0, .ref (A 60 0)), (1, .int z1), (2, .int z2), (3, .int z3), (4, .int z4), (5, .int z5)]) hx hb dX10_feed_73 hl (by decide) rfl (fun ls hl => ?_)
                  refine lv_aload_n hx hb dX10_feed_75 rfl (lv_at hl 2 rfl) ?_
                  refine ti_get (ci := 10) (k := 1) (N := 67) (T := TX10) (v := .ref (A 60 2)) C hw iw_10 rfl ob_60 (by decide) (by decide) fl_X10_7 rfl rfl dX10_feed_76 ?_
                  refine lv_aload_n hx hb dX10_feed_79 rfl (lv_at hl 2 rfl) ?_
                  refine ti_get (ci := 10) (k := 2) (N := 67) (T := TX10) C hw iw_10 rfl ob_60 (by decide) (by decide) fl_X10_157 rfl rfl dX10_feed_80 ?_
                  refine ti_top (y := x_2) (f_13) ?_
                  have u_59 : (tI M_7 60 2).toInt = (x_2 : Int32).toInt := by rw [(f_13)]
                  refine lv_iload hx hb dX10_feed_83 (lv_at hl 1 rfl) ?_
                  refine lv_iadd hx hb dX10_feed_85 ?_
                  refine lv_topi (fun x_60 ex_60 => ?_)
                  have tx_60 : x_60.toInt = x_2.toInt + x_4.toInt := i_add ex_60 rfl rfl (by omega) (by omega)
                  refine lv_iload hx hb dX10_feed_86 (lv_at hl 0 rfl) ?_
                  refine lv_bipush (v := 24) hx hb dX10_feed_88 (by decide) ?_
                  refine lv_bipush (v := 8) hx hb dX10_feed_90 (by decide) ?_
                  refine lv_iload hx hb dX10_feed_92 (lv_at hl 1 rfl) ?_
                  refine lv_iconst (v := 4) hx hb dX10_feed_94 (by decide) ?_
                  refine lv_irem hx hb dX10_feed_95 (by decide) ?_
                  refine lv_topi (fun x_61 ex_61 => ?_)
                  have bx_61 := i_rem ex_61 rfl (by decide : (4 : Int32).toInt = 4) (by omega) (by decide)
                  refine lv_imul hx hb dX10_feed_96 ?_
                  refine lv_topi (fun x_62 ex_62 => ?_)
                  have tx_62 : x_62.toInt = 8 * x_61.toInt := i_mul ex_62 (by decide : (8 : Int32).toInt = 8) rfl (by omega) (by omega)
                  refine lv_isub hx hb dX10_feed_97 ?_
                  refine lv_topi (fun x_63 ex_63 => ?_)
                  have tx_63 : x_63.toInt = 24 - x_62.toInt := i_sub ex_63 (by decide : (24 : Int32).toInt = 24) rfl (by omega) (by omega)
                  refine lv_ishr hx hb dX10_feed_98 ?_
                  refine lv_topi (fun x_64 ex_64 => ?_)
                  refine lv_sipush (v := 255) hx hb dX10_feed_99 (by decide) ?_
                  refine lv_iand hx hb dX10_feed_102 ?_
                  refine lv_topi (fun x_65 ex_65 => ?_)
                  have bx_65 := i_and 8 ex_65 (by decide) (by decide)
                  refine ti_iast (ci := 10) (k := 1) (n := 700) C hw ob_60 (by decide) (fun _ _ => rfl) (vp_in_iff.mpr (by omega)) dX10_feed_103 (fun H locs hw => ?_)
                  obtain ⟨M_66, hM_66⟩ : ∃ z : ti_M, z = uY M_7 60 1 (upd (tY M_7 60 1) (x_60 : Int32).toNatClampNeg x_65) := ⟨_, rfl⟩
                  have hw := hw.to hM_66.symm
                  have iM_66 : mJ M_66 := mI_tp iM_7 hM_66 (fun j => by by_cases q : j = (x_60 : Int32).toNatClampNeg; (subst q; rw [pk_us]; exact ib_mk (lo := 0) (hi := 255) (by omega) (by omega)); (rw [pk_un q]; exact iM_7.2.1 1 j))
                  obtain ⟨x_67, ex_67⟩ : ∃ z : Int32, z = x_4 + 1 := ⟨_, rfl⟩
                  have tx_67 : x_67.toInt = x_4.toInt + 1 := i_add ex_67 rfl (by decide) (by omega) (by omega)
                  refine lv_iinc (v := x_67) (lv' := [(6, .int x_67), (7, .int z5), (0, .ref (A 60 0)), (1, .int z1), (2, .int z2), (3, .int z3), (4, .int z4), (5, .int z5)]) hx hb dX10_feed_104 hl (k := 1) rfl (by rw [ex_67]; rfl) (by decide) rfl (fun ls hl => ?_)
                  refine lv_goto (tgt := 20) hx hb dX10_feed_107 (by decide) ?_
                  exact ih_16 x_67 M_66 _ _ _ (by omega) (by first | omega | decide) (by first | omega | decide) iM_66 (qw.trans (qw_Y hM_66 (by decide)) f_8) ((tI_uYE hM_66).trans f_9) ((tI_uYE hM_66).trans f_10) ((tI_uYE hM_66).trans f_11) ((tI_uYE hM_66).trans f_12) ((tI_uYE hM_66).trans f_13) (fun i hi => by rw [tY_uE hM_66, pk_un (show i ≠ (x_60 : Int32).toNatClampNeg by (show i ≠ (x_60 : Int32).toInt.toNat; omega))]; exact j_14 i hi) (fun j hj => by
      rw [tY_uE hM_66]
      by_cases q : j = x_4.toInt.toNat
      · rw [show (tI M 60 2).toInt.toNat + j = (x_60 : Int32).toNatClampNeg by (show _ = (x_60 : Int32).toInt.toNat; omega), pk_us]; subst q; exact pb_k (k := x_4.toInt.toNat) (by rw [if_neg (by omega), if_neg (by omega), if_neg (by omega), if_neg (by omega)]) ex_64 (by omega) ex_65
      · rw [pk_un (show (tI M 60 2).toInt.toNat + j ≠ (x_60 : Int32).toNatClampNeg by (show _ ≠ (x_60 : Int32).toInt.toNat; omega))]; exact j_15 j (by omega)) hw (lv_sub hl [0, 2, 3, 4, 5, 6, 7] rfl)
                · refine lv_iload hx hb dX10_feed_66 (lv_at hl 5 rfl) ?_
                  refine lv_goto (tgt := 73) hx hb dX10_feed_68 (by decide) ?_
                  refine lv_istore (lv' := [(7, .int z4), (6, .int x_4), (0, .ref (A 60 0)), (1, .int z1), (2, .int z2), (3, .int z3), (4, .int z4), (5, .int z5)]) hx hb dX10_feed_73 hl (by decide) rfl (fun ls hl => ?_)
                  refine lv_aload_n hx hb dX10_feed_75 rfl (lv_at hl 2 rfl) ?_
                  refine ti_get (ci := 10) (k := 1) (N := 67) (T := TX10) (v := .ref (A 60 2)) C hw iw_10 rfl ob_60 (by decide) (by decide) fl_X10_7 rfl rfl dX10_feed_76 ?_
                  refine lv_aload_n hx hb dX10_feed_79 rfl (lv_at hl 2 rfl) ?_
                  refine ti_get (ci := 10) (k := 2) (N := 67) (T := TX10) C hw iw_10 rfl ob_60 (by decide) (by decide) fl_X10_157 rfl rfl dX10_feed_80 ?_
                  refine ti_top (y := x_2) (f_13) ?_
                  have u_50 : (tI M_7 60 2).toInt = (x_2 : Int32).toInt := by rw [(f_13)]
                  refine lv_iload hx hb dX10_feed_83 (lv_at hl 1 rfl) ?_
                  refine lv_iadd hx hb dX10_feed_85 ?_
                  refine lv_topi (fun x_51 ex_51 => ?_)
                  have tx_51 : x_51.toInt = x_2.toInt + x_4.toInt := i_add ex_51 rfl rfl (by omega) (by omega)
                  refine lv_iload hx hb dX10_feed_86 (lv_at hl 0 rfl) ?_
                  refine lv_bipush (v := 24) hx hb dX10_feed_88 (by decide) ?_
                  refine lv_bipush (v := 8) hx hb dX10_feed_90 (by decide) ?_
                  refine lv_iload hx hb dX10_feed_92 (lv_at hl 1 rfl) ?_
                  refine lv_iconst (v := 4) hx hb dX10_feed_94 (by decide) ?_
                  refine lv_irem hx hb dX10_feed_95 (by decide) ?_
                  refine lv_topi (fun x_52 ex_52 => ?_)
                  have bx_52 := i_rem ex_52 rfl (by decide : (4 : Int32).toInt = 4) (by omega) (by decide)
                  refine lv_imul hx hb dX10_feed_96 ?_
                  refine lv_topi (fun x_53 ex_53 => ?_)
                  have tx_53 : x_53.toInt = 8 * x_52.toInt := i_mul ex_53 (by decide : (8 : Int32).toInt = 8) rfl (by omega) (by omega)
                  refine lv_isub hx hb dX10_feed_97 ?_
                  refine lv_topi (fun x_54 ex_54 => ?_)
                  have tx_54 : x_54.toInt = 24 - x_53.toInt := i_sub ex_54 (by decide : (24 : Int32).toInt = 24) rfl (by omega) (by omega)
                  refine lv_ishr hx hb dX10_feed_98 ?_
                  refine lv_topi (fun x_55 ex_55 => ?_)
                  refine lv_sipush (v := 255) hx hb dX10_feed_99 (by decide) ?_
                  refine lv_iand hx hb dX10_feed_102 ?_
                  refine lv_topi (fun x_56 ex_56 => ?_)
                  have bx_56 := i_and 8 ex_56 (by decide) (by decide)
                  refine ti_iast (ci := 10) (k := 1) (n := 700) C hw ob_60 (by decide) (fun _ _ => rfl) (vp_in_iff.mpr (by omega)) dX10_feed_103 (fun H locs hw => ?_)
                  obtain ⟨M_57, hM_57⟩ : ∃ z : ti_M, z = uY M_7 60 1 (upd (tY M_7 60 1) (x_51 : Int32).toNatClampNeg x_56) := ⟨_, rfl⟩
                  have hw := hw.to hM_57.symm
                  have iM_57 : mJ M_57 := mI_tp iM_7 hM_57 (fun j => by by_cases q : j = (x_51 : Int32).toNatClampNeg; (subst q; rw [pk_us]; exact ib_mk (lo := 0) (hi := 255) (by omega) (by omega)); (rw [pk_un q]; exact iM_7.2.1 1 j))
                  obtain ⟨x_58, ex_58⟩ : ∃ z : Int32, z = x_4 + 1 := ⟨_, rfl⟩
                  have tx_58 : x_58.toInt = x_4.toInt + 1 := i_add ex_58 rfl (by decide) (by omega) (by omega)
                  refine lv_iinc (v := x_58) (lv' := [(6, .int x_58), (7, .int z4), (0, .ref (A 60 0)), (1, .int z1), (2, .int z2), (3, .int z3), (4, .int z4), (5, .int z5)]) hx hb dX10_feed_104 hl (k := 1) rfl (by rw [ex_58]; rfl) (by decide) rfl (fun ls hl => ?_)
                  refine lv_goto (tgt := 20) hx hb dX10_feed_107 (by decide) ?_
                  exact ih_16 x_58 M_57 _ _ _ (by omega) (by first | omega | decide) (by first | omega | decide) iM_57 (qw.trans (qw_Y hM_57 (by decide)) f_8) ((tI_uYE hM_57).trans f_9) ((tI_uYE hM_57).trans f_10) ((tI_uYE hM_57).trans f_11) ((tI_uYE hM_57).trans f_12) ((tI_uYE hM_57).trans f_13) (fun i hi => by rw [tY_uE hM_57, pk_un (show i ≠ (x_51 : Int32).toNatClampNeg by (show i ≠ (x_51 : Int32).toInt.toNat; omega))]; exact j_14 i hi) (fun j hj => by
      rw [tY_uE hM_57]
      by_cases q : j = x_4.toInt.toNat
      · rw [show (tI M 60 2).toInt.toNat + j = (x_51 : Int32).toNatClampNeg by (show _ = (x_51 : Int32).toInt.toNat; omega), pk_us]; subst q; exact pb_k (k := x_4.toInt.toNat) (by rw [if_neg (by omega), if_neg (by omega), if_neg (by omega), if_pos (by omega)]) ex_55 (by omega) ex_56
      · rw [pk_un (show (tI M 60 2).toInt.toNat + j ≠ (x_51 : Int32).toNatClampNeg by (show _ ≠ (x_51 : Int32).toInt.toNat; omega))]; exact j_15 j (by omega)) hw (lv_sub hl [0, 2, 3, 4, 5, 6, 7] rfl)
              · refine lv_iload_n hx hb dX10_feed_55 rfl (lv_at hl 4 rfl) ?_
                refine lv_goto (tgt := 73) hx hb dX10_feed_56 (by decide) ?_
                refine lv_istore (lv' := [(7, .int z3), (6, .int x_4), (0, .ref (A 60 0)), (1, .int z1), (2, .int z2), (3, .int z3), (4, .int z4), (5, .int z5)]) hx hb dX10_feed_73 hl (by decide) rfl (fun ls hl => ?_)
                refine lv_aload_n hx hb dX10_feed_75 rfl (lv_at hl 2 rfl) ?_
                refine ti_get (ci := 10) (k := 1) (N := 67) (T := TX10) (v := .ref (A 60 2)) C hw iw_10 rfl ob_60 (by decide) (by decide) fl_X10_7 rfl rfl dX10_feed_76 ?_
                refine lv_aload_n hx hb dX10_feed_79 rfl (lv_at hl 2 rfl) ?_
                refine ti_get (ci := 10) (k := 2) (N := 67) (T := TX10) C hw iw_10 rfl ob_60 (by decide) (by decide) fl_X10_157 rfl rfl dX10_feed_80 ?_
                refine ti_top (y := x_2) (f_13) ?_
                have u_41 : (tI M_7 60 2).toInt = (x_2 : Int32).toInt := by rw [(f_13)]
                refine lv_iload hx hb dX10_feed_83 (lv_at hl 1 rfl) ?_
                refine lv_iadd hx hb dX10_feed_85 ?_
                refine lv_topi (fun x_42 ex_42 => ?_)
                have tx_42 : x_42.toInt = x_2.toInt + x_4.toInt := i_add ex_42 rfl rfl (by omega) (by omega)
                refine lv_iload hx hb dX10_feed_86 (lv_at hl 0 rfl) ?_
                refine lv_bipush (v := 24) hx hb dX10_feed_88 (by decide) ?_
                refine lv_bipush (v := 8) hx hb dX10_feed_90 (by decide) ?_
                refine lv_iload hx hb dX10_feed_92 (lv_at hl 1 rfl) ?_
                refine lv_iconst (v := 4) hx hb dX10_feed_94 (by decide) ?_
                refine lv_irem hx hb dX10_feed_95 (by decide) ?_
                refine lv_topi (fun x_43 ex_43 => ?_)
                have bx_43 := i_rem ex_43 rfl (by decide : (4 : Int32).toInt = 4) (by omega) (by decide)
                refine lv_imul hx hb dX10_feed_96 ?_
                refine lv_topi (fun x_44 ex_44 => ?_)
                have tx_44 : x_44.toInt = 8 * x_43.toInt := i_mul ex_44 (by decide : (8 : Int32).toInt = 8) rfl (by omega) (by omega)
                refine lv_isub hx hb dX10_feed_97 ?_
                refine lv_topi (fun x_45 ex_45 => ?_)
                have tx_45 : x_45.toInt = 24 - x_44.toInt := i_sub ex_45 (by decide : (24 : Int32).toInt = 24) rfl (by omega) (by omega)
                refine lv_ishr hx hb dX10_feed_98 ?_
                refine lv_topi (fun x_46 ex_46 => ?_)
                refine lv_sipush (v := 255) hx hb dX10_feed_99 (by decide) ?_
                refine lv_iand hx hb dX10_feed_102 ?_
                refine lv_topi (fun x_47 ex_47 => ?_)
                have bx_47 := i_and 8 ex_47 (by decide) (by decide)
                refine ti_iast (ci := 10) (k := 1) (n := 700) C hw ob_60 (by decide) (fun _ _ => rfl) (vp_in_iff.mpr (by omega)) dX10_feed_103 (fun H locs hw => ?_)
                obtain ⟨M_48, hM_48⟩ : ∃ z : ti_M, z = uY M_7 60 1 (upd (tY M_7 60 1) (x_42 : Int32).toNatClampNeg x_47) := ⟨_, rfl⟩
                have hw := hw.to hM_48.symm
                have iM_48 : mJ M_48 := mI_tp iM_7 hM_48 (fun j => by by_cases q : j = (x_42 : Int32).toNatClampNeg; (subst q; rw [pk_us]; exact ib_mk (lo := 0) (hi := 255) (by omega) (by omega)); (rw [pk_un q]; exact iM_7.2.1 1 j))
                obtain ⟨x_49, ex_49⟩ : ∃ z : Int32, z = x_4 + 1 := ⟨_, rfl⟩
                have tx_49 : x_49.toInt = x_4.toInt + 1 := i_add ex_49 rfl (by decide) (by omega) (by omega)
                refine lv_iinc (v := x_49) (lv' := [(6, .int x_49), (7, .int z3), (0, .ref (A 60 0)), (1, .int z1), (2, .int z2), (3, .int z3), (4, .int z4), (5, .int z5)]) hx hb dX10_feed_104 hl (k := 1) rfl (by rw [ex_49]; rfl) (by decide) rfl (fun ls hl => ?_)
                refine lv_goto (tgt := 20) hx hb dX10_feed_107 (by decide) ?_
                exact ih_16 x_49 M_48 _ _ _ (by omega) (by first | omega | decide) (by first | omega | decide) iM_48 (qw.trans (qw_Y hM_48 (by decide)) f_8) ((tI_uYE hM_48).trans f_9) ((tI_uYE hM_48).trans f_10) ((tI_uYE hM_48).trans f_11) ((tI_uYE hM_48).trans f_12) ((tI_uYE hM_48).trans f_13) (fun i hi => by rw [tY_uE hM_48, pk_un (show i ≠ (x_42 : Int32).toNatClampNeg by (show i ≠ (x_42 : Int32).toInt.toNat; omega))]; exact j_14 i hi) (fun j hj => by
      rw [tY_uE hM_48]
      by_cases q : j = x_4.toInt.toNat
      · rw [show (tI M 60 2).toInt.toNat + j = (x_42 : Int32).toNatClampNeg by (show _ = (x_42 : Int32).toInt.toNat; omega), pk_us]; subst q; exact pb_k (k := x_4.toInt.toNat) (by rw [if_neg (by omega), if_neg (by omega), if_pos (by omega)]) ex_46 (by omega) ex_47
      · rw [pk_un (show (tI M 60 2).toInt.toNat + j ≠ (x_42 : Int32).toNatClampNeg by (show _ ≠ (x_42 : Int32).toInt.toNat; omega))]; exact j_15 j (by omega)) hw (lv_sub hl [0, 2, 3, 4, 5, 6, 7] rfl)
            · refine lv_iload_n hx hb dX10_feed_44 rfl (lv_at hl 3 rfl) ?_
              refine lv_goto (tgt := 73) hx hb dX10_feed_45 (by decide) ?_
              refine lv_istore (lv' := [(7, .int z2), (6, .int x_4), (0, .ref (A 60 0)), (1, .int z1), (2, .int z2), (3, .int z3), (4, .int z4), (5, .int z5)]) hx hb dX10_feed_73 hl (by decide) rfl (fun ls hl => ?_)
              refine lv_aload_n hx hb dX10_feed_75 rfl (lv_at hl 2 rfl) ?_
              refine ti_get (ci := 10) (k := 1) (N := 67) (T := TX10) (v := .ref (A 60 2)) C hw iw_10 rfl ob_60 (by decide) (by decide) fl_X10_7 rfl rfl dX10_feed_76 ?_
              refine lv_aload_n hx hb dX10_feed_79 rfl (lv_at hl 2 rfl) ?_
              refine ti_get (ci := 10) (k := 2) (N := 67) (T := TX10) C hw iw_10 rfl ob_60 (by decide) (by decide) fl_X10_157 rfl rfl dX10_feed_80 ?_
              refine ti_top (y := x_2) (f_13) ?_
              have u_32 : (tI M_7 60 2).toInt = (x_2 : Int32).toInt := by rw [(f_13)]
              refine lv_iload hx hb dX10_feed_83 (lv_at hl 1 rfl) ?_
              refine lv_iadd hx hb dX10_feed_85 ?_
              refine lv_topi (fun x_33 ex_33 => ?_)
              have tx_33 : x_33.toInt = x_2.toInt + x_4.toInt := i_add ex_33 rfl rfl (by omega) (by omega)
              refine lv_iload hx hb dX10_feed_86 (lv_at hl 0 rfl) ?_
              refine lv_bipush (v := 24) hx hb dX10_feed_88 (by decide) ?_
              refine lv_bipush (v := 8) hx hb dX10_feed_90 (by decide) ?_
              refine lv_iload hx hb dX10_feed_92 (lv_at hl 1 rfl) ?_
              refine lv_iconst (v := 4) hx hb dX10_feed_94 (by decide) ?_
              refine lv_irem hx hb dX10_feed_95 (by decide) ?_
              refine lv_topi (fun x_34 ex_34 => ?_)
              have bx_34 := i_rem ex_34 rfl (by decide : (4 : Int32).toInt = 4) (by omega) (by decide)
              refine lv_imul hx hb dX10_feed_96 ?_
              refine lv_topi (fun x_35 ex_35 => ?_)
              have tx_35 : x_35.toInt = 8 * x_34.toInt := i_mul ex_35 (by decide : (8 : Int32).toInt = 8) rfl (by omega) (by omega)
              refine lv_isub hx hb dX10_feed_97 ?_
              refine lv_topi (fun x_36 ex_36 => ?_)
              have tx_36 : x_36.toInt = 24 - x_35.toInt := i_sub ex_36 (by decide : (24 : Int32).toInt = 24) rfl (by omega) (by omega)
              refine lv_ishr hx hb dX10_feed_98 ?_
              refine lv_topi (fun x_37 ex_37 => ?_)
              refine lv_sipush (v := 255) hx hb dX10_feed_99 (by decide) ?_
              refine lv_iand hx hb dX10_feed_102 ?_
              refine lv_topi (fun x_38 ex_38 => ?_)
              have bx_38 := i_and 8 ex_38 (by decide) (by decide)
              refine ti_iast (ci := 10) (k := 1) (n := 700) C hw ob_60 (by decide) (fun _ _ => rfl) (vp_in_iff.mpr (by omega)) dX10_feed_103 (fun H locs hw => ?_)
              obtain ⟨M_39, hM_39⟩ : ∃ z : ti_M, z = uY M_7 60 1 (upd (tY M_7 60 1) (x_33 : Int32).toNatClampNeg x_38) := ⟨_, rfl⟩
              have hw := hw.to hM_39.symm
              have iM_39 : mJ M_39 := mI_tp iM_7 hM_39 (fun j => by by_cases q : j = (x_33 : Int32).toNatClampNeg; (subst q; rw [pk_us]; exact ib_mk (lo := 0) (hi := 255) (by omega) (by omega)); (rw [pk_un q]; exact iM_7.2.1 1 j))
              obtain ⟨x_40, ex_40⟩ : ∃ z : Int32, z = x_4 + 1 := ⟨_, rfl⟩
              have tx_40 : x_40.toInt = x_4.toInt + 1 := i_add ex_40 rfl (by decide) (by omega) (by omega)
              refine lv_iinc (v := x_40) (lv' := [(6, .int x_40), (7, .int z2), (0, .ref (A 60 0)), (1, .int z1), (2, .int z2), (3, .int z3), (4, .int z4), (5, .int z5)]) hx hb dX10_feed_104 hl (k := 1) rfl (by rw [ex_40]; rfl) (by decide) rfl (fun ls hl => ?_)
              refine lv_goto (tgt := 20) hx hb dX10_feed_107 (by decide) ?_
              exact ih_16 x_40 M_39 _ _ _ (by omega) (by first | omega | decide) (by first | omega | decide) iM_39 (qw.trans (qw_Y hM_39 (by decide)) f_8) ((tI_uYE hM_39).trans f_9) ((tI_uYE hM_39).trans f_10) ((tI_uYE hM_39).trans f_11) ((tI_uYE hM_39).trans f_12) ((tI_uYE hM_39).trans f_13) (fun i hi => by rw [tY_uE hM_39, pk_un (show i ≠ (x_33 : Int32).toNatClampNeg by (show i ≠ (x_33 : Int32).toInt.toNat; omega))]; exact j_14 i hi) (fun j hj => by
      rw [tY_uE hM_39]
      by_cases q : j = x_4.toInt.toNat
      · rw [show (tI M 60 2).toInt.toNat + j = (x_33 : Int32).toNatClampNeg by (show _ = (x_33 : Int32).toInt.toNat; omega), pk_us]; subst q; exact pb_k (k := x_4.toInt.toNat) (by rw [if_neg (by omega), if_pos (by omega)]) ex_37 (by omega) ex_38
      · rw [pk_un (show (tI M 60 2).toInt.toNat + j ≠ (x_33 : Int32).toNatClampNeg by (show _ ≠ (x_33 : Int32).toInt.toNat; omega))]; exact j_15 j (by omega)) hw (lv_sub hl [0, 2, 3, 4, 5, 6, 7] rfl)
          · refine lv_iload_n hx hb dX10_feed_33 rfl (lv_at hl 2 rfl) ?_
            refine lv_goto (tgt := 73) hx hb dX10_feed_34 (by decide) ?_
            refine lv_istore (lv' := [(7, .int z1), (6, .int x_4), (0, .ref (A 60 0)), (1, .int z1), (2, .int z2), (3, .int z3), (4, .int z4), (5, .int z5)]) hx hb dX10_feed_73 hl (by decide) rfl (fun ls hl => ?_)
            refine lv_aload_n hx hb dX10_feed_75 rfl (lv_at hl 2 rfl) ?_
            refine ti_get (ci := 10) (k := 1) (N := 67) (T := TX10) (v := .ref (A 60 2)) C hw iw_10 rfl ob_60 (by decide) (by decide) fl_X10_7 rfl rfl dX10_feed_76 ?_
            refine lv_aload_n hx hb dX10_feed_79 rfl (lv_at hl 2 rfl) ?_
            refine ti_get (ci := 10) (k := 2) (N := 67) (T := TX10) C hw iw_10 rfl ob_60 (by decide) (by decide) fl_X10_157 rfl rfl dX10_feed_80 ?_
            refine ti_top (y := x_2) (f_13) ?_
            have u_23 : (tI M_7 60 2).toInt = (x_2 : Int32).toInt := by rw [(f_13)]
            refine lv_iload hx hb dX10_feed_83 (lv_at hl 1 rfl) ?_
            refine lv_iadd hx hb dX10_feed_85 ?_
            refine lv_topi (fun x_24 ex_24 => ?_)
            have tx_24 : x_24.toInt = x_2.toInt + x_4.toInt := i_add ex_24 rfl rfl (by omega) (by omega)
            refine lv_iload hx hb dX10_feed_86 (lv_at hl 0 rfl) ?_
            refine lv_bipush (v := 24) hx hb dX10_feed_88 (by decide) ?_
            refine lv_bipush (v := 8) hx hb dX10_feed_90 (by decide) ?_
            refine lv_iload hx hb dX10_feed_92 (lv_at hl 1 rfl) ?_
            refine lv_iconst (v := 4) hx hb dX10_feed_94 (by decide) ?_
            refine lv_irem hx hb dX10_feed_95 (by decide) ?_
            refine lv_topi (fun x_25 ex_25 => ?_)
            have bx_25 := i_rem ex_25 rfl (by decide : (4 : Int32).toInt = 4) (by omega) (by decide)
            refine lv_imul hx hb dX10_feed_96 ?_
            refine lv_topi (fun x_26 ex_26 => ?_)
            have tx_26 : x_26.toInt = 8 * x_25.toInt := i_mul ex_26 (by decide : (8 : Int32).toInt = 8) rfl (by omega) (by omega)
            refine lv_isub hx hb dX10_feed_97 ?_
            refine lv_topi (fun x_27 ex_27 => ?_)
            have tx_27 : x_27.toInt = 24 - x_26.toInt := i_sub ex_27 (by decide : (24 : Int32).toInt = 24) rfl (by omega) (by omega)
            refine lv_ishr hx hb dX10_feed_98 ?_
            refine lv_topi (fun x_28 ex_28 => ?_)
            refine lv_sipush (v := 255) hx hb dX10_feed_99 (by decide) ?_
            refine lv_iand hx hb dX10_feed_102 ?_
            refine lv_topi (fun x_29 ex_29 => ?_)
            have bx_29 := i_and 8 ex_29 (by decide) (by decide)
            refine ti_iast (ci := 10) (k := 1) (n := 700) C hw ob_60 (by decide) (fun _ _ => rfl) (vp_in_iff.mpr (by omega)) dX10_feed_103 (fun H locs hw => ?_)
            obtain ⟨M_30, hM_30⟩ : ∃ z : ti_M, z = uY M_7 60 1 (upd (tY M_7 60 1) (x_24 : Int32).toNatClampNeg x_29) := ⟨_, rfl⟩
            have hw := hw.to hM_30.symm
            have iM_30 : mJ M_30 := mI_tp iM_7 hM_30 (fun j => by by_cases q : j = (x_24 : Int32).toNatClampNeg; (subst q; rw [pk_us]; exact ib_mk (lo := 0) (hi := 255) (by omega) (by omega)); (rw [pk_un q]; exact iM_7.2.1 1 j))
            obtain ⟨x_31, ex_31⟩ : ∃ z : Int32, z = x_4 + 1 := ⟨_, rfl⟩
            have tx_31 : x_31.toInt = x_4.toInt + 1 := i_add ex_31 rfl (by decide) (by omega) (by omega)
            refine lv_iinc (v := x_31) (lv' := [(6, .int x_31), (7, .int z1), (0, .ref (A 60 0)), (1, .int z1), (2, .int z2), (3, .int z3), (4, .int z4), (5, .int z5)]) hx hb dX10_feed_104 hl (k := 1) rfl (by rw [ex_31]; rfl) (by decide) rfl (fun ls hl => ?_)
            refine lv_goto (tgt := 20) hx hb dX10_feed_107 (by decide) ?_
            exact ih_16 x_31 M_30 _ _ _ (by omega) (by first | omega | decide) (by first | omega | decide) iM_30 (qw.trans (qw_Y hM_30 (by decide)) f_8) ((tI_uYE hM_30).trans f_9) ((tI_uYE hM_30).trans f_10) ((tI_uYE hM_30).trans f_11) ((tI_uYE hM_30).trans f_12) ((tI_uYE hM_30).trans f_13) (fun i hi => by rw [tY_uE hM_30, pk_un (show i ≠ (x_24 : Int32).toNatClampNeg by (show i ≠ (x_24 : Int32).toInt.toNat; omega))]; exact j_14 i hi) (fun j hj => by
      rw [tY_uE hM_30]
      by_cases q : j = x_4.toInt.toNat
      · rw [show (tI M 60 2).toInt.toNat + j = (x_24 : Int32).toNatClampNeg by (show _ = (x_24 : Int32).toInt.toNat; omega), pk_us]; subst q; exact pb_k (k := x_4.toInt.toNat) (by rw [if_pos (by omega)]) ex_28 (by omega) ex_29
      · rw [pk_un (show (tI M 60 2).toInt.toNat + j ≠ (x_24 : Int32).toNatClampNeg by (show _ ≠ (x_24 : Int32).toInt.toNat; omega))]; exact j_15 j (by omega)) hw (lv_sub hl [0, 2, 3, 4, 5, 6, 7] rfl)
    exact hl_20_15 ((20 - 0 : Int).toNat + 1) 0 M_1 _ _ _ (Nat.lt_succ_self _) (by have lt0 : (0 : Int32).toInt = 0 := (by decide); first | omega | decide) (by have lt0 : (0 : Int32).toInt = 0 := (by decide); first | omega | decide) iM_1 (qw_I hM_1 (by decide)) (tI_nE hM_1 (nk (by decide))) (tI_nE hM_1 (nk (by decide))) (tI_nE hM_1 (nk (by decide))) (tI_nE hM_1 (nk (by decide))) (ex_2.symm) (fun i _ => by rw [(tY_uIE hM_1)]) (fun j hj => absurd hj (by have z0 : (0 : Int32).toInt = 0 := (by decide); omega)) hw (lv_sub hl [0, 1, 2, 3, 4, 5, 6] rfl)
  · have e2 : (tI M_1 60 2).toInt = (tI M 60 2).toInt := congrArg Int32.toInt (tI_nE hM_1 (nk (by decide)))
    refine lv_iconst (v := (-1)) hx hb dX10_feed_15 (by decide) ?_
    exact hQ _ _ _ _ _ _ hw rfl (⟨(Or.inl ⟨by omega, by decide, mF_qx hF iM_1 (qw_I hM_1 (by decide)), (tI_nE hM_1 (nk (by decide))), (tY_uIE hM_1), (tI_nE hM_1 (nk (by decide))), (tI_nE hM_1 (nk (by decide))), (tI_nE hM_1 (nk (by decide))), (tI_nE hM_1 (nk (by decide)))⟩), (qw_I hM_1 (by decide)).1⟩) dX10_feed_16

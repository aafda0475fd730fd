variable {Tc : gC} {Tm : gM}
set_option maxHeartbeats 4000000 in
set_option maxRecDepth 100000 in
theorem z_X3_manAt (l : Launch) (D : va_G) (A : Nat → Nat → Nat) (cy : Nat → ClassId) (hJ : ti_inj ti_LT A) (M : ti_M) (hI : cI Tc M) (q : Nat) (hq : ti_ob ti_LT q 3) (pl : Int32) (rg : Nat → Int) (hs : qC q rg M) : ti_Ki l yX3_manAt cX3_manAt 2 (some .int) 0 ti_LT D A cy M [.ref (A q 0), .int pl] (fun r M2 => M2 = M ∧ (-2) ≤ r.toInt ∧ r.toInt ≤ 7 ∧ r.toInt = bq_ma rg pl.toInt ∧ (r.toInt < 0 ∨ (0 ≤ pl.toInt ∧ pl.toInt < rg 3))) := by
  refine ti_eI yp_X3_manAt hJ ti_LT_nd (Nat.le_of_ble_eq_true rfl) ?_
  intro p e s m args below meth c Q H0 C hQ hw ls hl
  have hx := C.1
  have hb := C.2.1
  have hl : lv_has ls 2 [(0, .ref (A q 0)), (1, .int pl)] := hl
  refine lv_iload_n hx hb dX3_manAt_0 rfl (lv_at hl 1 rfl) ?_
  refine sb_if_lt (tgt := 21) hx hb rfl dX3_manAt_1 (by decide) (fun c_1_0 => ?_) (fun c_1_0 => ?_)
  · refine lv_bipush (v := (-2)) hx hb dX3_manAt_21 (by decide) ?_
    exact hQ _ _ _ _ _ _ hw rfl (⟨rfl, by first | omega | decide, by first | omega | decide, (by have lv : ((-2) : Int32).toInt = (-2) := (by decide); unfold bq_ma; (repeat (first | rw [if_pos (by omega)] | rw [if_neg (by omega)])); first | omega), by first | omega | exact Or.inl (by decide)⟩) dX3_manAt_23
  · refine lv_iload_n hx hb dX3_manAt_4 rfl (lv_at hl 1 rfl) ?_
    refine lv_aload_n hx hb dX3_manAt_5 rfl (lv_at hl 0 rfl) ?_
    refine ti_get (ci := 3) (k := 3) (N := 17) (T := TX3) C hw iw_3 rfl hq (by decide) (by decide) fl_X3_56 rfl rfl dX3_manAt_6 ?_
    refine lv_topi (fun x_2 ex_2 => ?_)
    have bx_2 : 0 ≤ x_2.toInt ∧ x_2.toInt ≤ 8 := cI_rd hI hq.1 ex_2
    have ux_2 : (tI M q 3).toInt = x_2.toInt := by rw [ex_2]
    have L_3 : rg 3 = x_2.toInt := ((hs.1 3 (by decide) (by decide)).trans (congrArg Int32.toInt (ex_2.symm))).trans rfl
    refine sb_icmp_ge (tgt := 21) hx hb rfl rfl dX3_manAt_9 (by decide) (fun c_9_3 => ?_) (fun c_9_3 => ?_)
    · refine lv_bipush (v := (-2)) hx hb dX3_manAt_21 (by decide) ?_
      exact hQ _ _ _ _ _ _ hw rfl (⟨rfl, by first | omega | decide, by first | omega | decide, (by have lv : ((-2) : Int32).toInt = (-2) := (by decide); unfold bq_ma; (repeat (first | rw [if_pos (by omega)] | rw [if_neg (by omega)])); first | omega), by first | omega | exact Or.inl (by decide)⟩) dX3_manAt_23
    · refine lv_aload_n hx hb dX3_manAt_12 rfl (lv_at hl 0 rfl) ?_
      refine ti_get (ci := 3) (k := 6) (N := 17) (T := TX3) (v := .ref (A q 7)) C hw iw_3 rfl hq (by decide) (by decide) fl_X3_9 rfl rfl dX3_manAt_13 ?_
      refine lv_iload_n hx hb dX3_manAt_16 rfl (lv_at hl 1 rfl) ?_
      refine ti_iald (ci := 3) (k := 6) (n := 8) C hw hq (by decide) (fun _ _ => rfl) (vp_in_iff.mpr (by omega)) dX3_manAt_17 ?_
      refine lv_topi (fun x_5 ex_5 => ?_)
      have bx_5 : 0 ≤ x_5.toInt ∧ x_5.toInt ≤ 7 := cI_ry hI hq.1 ex_5
      have L_6 : rg (96 + pl.toInt.toNat) = x_5.toInt := qC_y (k := 6) hs rfl (by omega) (by omega) (by decide) (by decide) ex_5
      refine lv_goto (tgt := 23) hx hb dX3_manAt_18 (by decide) ?_
      exact hQ _ _ _ _ _ _ hw rfl (⟨rfl, by first | omega | decide, by first | omega | decide, (by unfold bq_ma; (repeat (first | rw [if_pos (by omega)] | rw [if_neg (by omega)])); first | omega), by first | omega | exact Or.inl (by decide)⟩) dX3_manAt_23
set_option maxHeartbeats 4000000 in
set_option maxRecDepth 100000 in
theorem z_X3_placeOf (l : Launch) (D : va_G) (A : Nat → Nat → Nat) (cy : Nat → ClassId) (hJ : ti_inj ti_LT A) (M : ti_M) (hI : cI Tc M) (q : Nat) (hq : ti_ob ti_LT q 3) (mn : Int32) (rg : Nat → Int) (hs : qC q rg M) : ti_Ki l yX3_placeOf cX3_placeOf 3 (some .int) 0 ti_LT D A cy M [.ref (A q 0), .int mn] (fun r M2 => M2 = M ∧ (-1) ≤ r.toInt ∧ r.toInt ≤ 7 ∧ r.toInt = bq_po rg mn.toInt 0) := by
  refine ti_eI yp_X3_placeOf hJ ti_LT_nd (Nat.le_of_ble_eq_true rfl) ?_
  intro p e s m args below meth c Q H0 C hQ hw ls hl
  have hx := C.1
  have hb := C.2.1
  have hl : lv_has ls 3 [(0, .ref (A q 0)), (1, .int mn)] := hl
  refine lv_iconst (v := 0) hx hb dX3_placeOf_0 (by decide) ?_
  refine lv_istore_n (lv' := [(2, .int 0), (0, .ref (A q 0)), (1, .int mn)]) hx hb dX3_placeOf_1 rfl hl (by decide) rfl (fun ls hl => ?_)
  have hl_2_4 : ∀ (n_5 : Nat) (x_1 : Int32) (H : Heap) (locs : List Loc) (ls : Array Slot), (8 - x_1.toInt : Int).toNat < n_5 → (0 ≤ x_1.toInt) → (x_1.toInt ≤ 8) → (bq_po rg mn.toInt 0 = bq_po rg mn.toInt (x_1.toInt).toNat) → ti_H ti_LT D A cy H0 M H locs → lv_has ls 3 [(2, .int x_1), (0, .ref (A q 0)), (1, .int mn)] → W p l e (ti_rm 0) s m args below meth c H locs 0 0 Q (F0 m 2 ls []) := by
    intro n_5
    induction n_5 with
    | zero => intro x_1 H locs ls hf_5; exact absurd hf_5 (Nat.not_lt_zero _)
    | succ n_5 ih_5 =>
      intro x_1 H locs ls hf_5 b_2 b_3 j_4 hw hl
      refine lv_iload_n hx hb dX3_placeOf_2 rfl (lv_at hl 0 rfl) ?_
      refine lv_aload_n hx hb dX3_placeOf_3 rfl (lv_at hl 1 rfl) ?_
      refine ti_get (ci := 3) (k := 3) (N := 17) (T := TX3) C hw iw_3 rfl hq (by decide) (by decide) fl_X3_56 rfl rfl dX3_placeOf_4 ?_
      refine lv_topi (fun x_6 ex_6 => ?_)
      have bx_6 : 0 ≤ x_6.toInt ∧ x_6.toInt ≤ 8 := cI_rd hI hq.1 ex_6
      have ux_6 : (tI M q 3).toInt = x_6.toInt := by rw [ex_6]
      have L_7 : rg 3 = x_6.toInt := ((hs.1 3 (by decide) (by decide)).trans (congrArg Int32.toInt (ex_6.symm))).trans rfl
      refine sb_icmp_ge (tgt := 28) hx hb rfl rfl dX3_placeOf_7 (by decide) (fun c_7_7 => ?_) (fun c_7_7 => ?_)
      · refine lv_iconst (v := (-1)) hx hb dX3_placeOf_28 (by decide) ?_
        exact hQ _ _ _ _ _ _ hw rfl (⟨rfl, by first | omega | decide, by first | omega | decide, (by rw [j_4, po_end (s := rg) (m := mn.toInt) (p := x_1.toInt.toNat) (by omega)]; decide)⟩) dX3_placeOf_29
      · refine lv_aload_n hx hb dX3_placeOf_10 rfl (lv_at hl 1 rfl) ?_
        refine ti_get (ci := 3) (k := 6) (N := 17) (T := TX3) (v := .ref (A q 7)) C hw iw_3 rfl hq (by decide) (by decide) fl_X3_9 rfl rfl dX3_placeOf_11 ?_
        refine lv_iload_n hx hb dX3_placeOf_14 rfl (lv_at hl 0 rfl) ?_
        refine ti_iald (ci := 3) (k := 6) (n := 8) C hw hq (by decide) (fun _ _ => rfl) (vp_in_iff.mpr (by omega)) dX3_placeOf_15 ?_
        refine lv_topi (fun x_9 ex_9 => ?_)
        have bx_9 : 0 ≤ x_9.toInt ∧ x_9.toInt ≤ 7 := cI_ry hI hq.1 ex_9
        have L_10 : rg (96 + x_1.toInt.toNat) = x_9.toInt := qC_y (k := 6) hs rfl (by omega) (by omega) (by decide) (by decide) ex_9
        refine lv_iload_n hx hb dX3_placeOf_16 rfl (lv_at hl 2 rfl) ?_
        refine sb_icmp_ne (tgt := 22) hx hb rfl rfl dX3_placeOf_17 (by decide) (fun c_17_10 => ?_) (fun c_17_10 => ?_)
        · obtain ⟨x_12, ex_12⟩ : ∃ z : Int32, z = x_1 + 1 := ⟨_, rfl⟩
          have tx_12 : x_12.toInt = x_1.toInt + 1 := i_add ex_12 rfl (by decide) (by omega) (by omega)
          refine lv_iinc (v := x_12) (lv' := [(2, .int x_12), (0, .ref (A q 0)), (1, .int mn)]) hx hb dX3_placeOf_22 hl (k := 0) rfl (by rw [ex_12]; rfl) (by decide) rfl (fun ls hl => ?_)
          refine lv_goto (tgt := 2) hx hb dX3_placeOf_25 (by decide) ?_
          exact ih_5 x_12 _ _ _ (by omega) (by first | omega | decide) (by first | omega | decide) (by rw [show x_12.toInt.toNat = x_1.toInt.toNat + 1 by omega, ← po_go (s := rg) (m := mn.toInt) (p := x_1.toInt.toNat) (by omega) (by omega)]; exact j_4) hw (lv_sub hl [0, 1, 2] rfl)
        · refine lv_iload_n hx hb dX3_placeOf_20 rfl (lv_at hl 0 rfl) ?_
          exact hQ _ _ _ _ _ _ hw rfl (⟨rfl, by first | omega | decide, by first | omega | decide, (by rw [j_4, po_at (s := rg) (m := mn.toInt) (p := x_1.toInt.toNat) (by omega) (by omega)]; omega)⟩) dX3_placeOf_21
  exact hl_2_4 ((8 - 0 : Int).toNat + 1) 0 _ _ _ (Nat.lt_succ_self _) (by have lt0 : (0 : Int32).toInt = 0 := (by decide); first | omega | decide) (by have lt0 : (0 : Int32).toInt = 0 := (by decide); first | omega | decide) rfl hw (lv_sub hl [0, 1, 2] rfl)
set_option maxHeartbeats 4000000 in
set_option maxRecDepth 100000 in
theorem z_X3_waited (l : Launch) (D : va_G) (A : Nat → Nat → Nat) (cy : Nat → ClassId) (hJ : ti_inj ti_LT A) (M : ti_M) (hI : cI Tc M) (q : Nat) (hq : ti_ob ti_LT q 3) (mn : Int32) (h1 : 0 ≤ mn.toInt) (h2 : mn.toInt ≤ 7) (rg : Nat → Int) (hs : qC q rg M) : ti_Ki l yX3_waited cX3_waited 2 (some .int) 0 ti_LT D A cy M [.ref (A q 0), .int mn] (fun r M2 => M2 = M ∧ r.toInt = bq_wt rg mn.toInt) := by
  refine ti_eI yp_X3_waited hJ ti_LT_nd (Nat.le_of_ble_eq_true rfl) ?_
  intro p e s m args below meth c Q H0 C hQ hw ls hl
  have hx := C.1
  have hb := C.2.1
  have hl : lv_has ls 2 [(0, .ref (A q 0)), (1, .int mn)] := hl
  refine lv_aload_n hx hb dX3_waited_0 rfl (lv_at hl 0 rfl) ?_
  refine ti_get (ci := 3) (k := 8) (N := 17) (T := TX3) (v := .ref (A q 9)) C hw iw_3 rfl hq (by decide) (by decide) fl_X3_18 rfl rfl dX3_waited_1 ?_
  refine lv_iload_n hx hb dX3_waited_4 rfl (lv_at hl 1 rfl) ?_
  refine ti_iald (ci := 3) (k := 8) (n := 8) C hw hq (by decide) (fun _ _ => rfl) (vp_in_iff.mpr (by omega)) dX3_waited_5 ?_
  refine lv_topi (fun x_1 ex_1 => ?_)
  have L_2 : rg (128 + mn.toInt.toNat) = x_1.toInt := qC_y (k := 8) hs rfl (by omega) (by omega) (by decide) (by decide) ex_1
  by_cases s_3_0 : x_1 = 0
  · have qs_3_0 : x_1.toInt = 0 := by rw [s_3_0]; decide
    refine lv_lookup (tgt := 32) hx hb dX3_waited_6 (by decide) (off := 26) (by rw [s_3_0]; decide) (by decide) ?_
    refine lv_iconst (v := 0) hx hb dX3_waited_32 (by decide) ?_
    exact hQ _ _ _ _ _ _ hw rfl (⟨rfl, (by have lv : (0 : Int32).toInt = 0 := (by decide); unfold bq_wt; (repeat (first | rw [if_pos (by omega)] | rw [if_neg (by omega)])); first | omega)⟩) dX3_waited_33
  · have qs_3_0 : x_1.toInt ≠ 0 := pt_ne s_3_0 (by decide)
    by_cases s_3_1 : x_1 = 1
    · have qs_3_1 : x_1.toInt = 1 := by rw [s_3_1]; decide
      refine lv_lookup (tgt := 34) hx hb dX3_waited_6 (by decide) (off := 28) (by rw [s_3_1]; decide) (by decide) ?_
      refine lv_aload_n hx hb dX3_waited_34 rfl (lv_at hl 0 rfl) ?_
      refine ti_get (ci := 3) (k := 2) (N := 17) (T := TX3) C hw iw_3 rfl hq (by decide) (by decide) fl_X3_53 rfl rfl dX3_waited_35 ?_
      refine lv_topi (fun x_4 ex_4 => ?_)
      have L_5 : rg 2 = x_4.toInt := ((hs.1 2 (by decide) (by decide)).trans (congrArg Int32.toInt (ex_4.symm))).trans rfl
      refine lv_aload_n hx hb dX3_waited_38 rfl (lv_at hl 0 rfl) ?_
      refine ti_get (ci := 3) (k := 13) (N := 17) (T := TX3) (v := .ref (A q 14)) C hw iw_3 rfl hq (by decide) (by decide) fl_X3_33 rfl rfl dX3_waited_39 ?_
      refine lv_iload_n hx hb dX3_waited_42 rfl (lv_at hl 1 rfl) ?_
      refine ti_iald (ci := 3) (k := 13) (n := 8) C hw hq (by decide) (fun _ _ => rfl) (vp_in_iff.mpr (by omega)) dX3_waited_43 ?_
      refine lv_topi (fun x_6 ex_6 => ?_)
      have L_7 : rg (208 + mn.toInt.toNat) = x_6.toInt := qC_y (k := 13) hs rfl (by omega) (by omega) (by decide) (by decide) ex_6
      refine lv_isub hx hb dX3_waited_44 ?_
      refine lv_topi (fun x_8 ex_8 => ?_)
      have tx_8 : x_8.toInt = bw (x_4.toInt - x_6.toInt) := bw_sub ex_8 rfl rfl
      exact hQ _ _ _ _ _ _ hw rfl (⟨rfl, (by unfold bq_wt; (repeat (first | rw [if_pos (by omega)] | rw [if_neg (by omega)])); first | omega | (rw [tx_8]; exact congrArg bw (by omega)))⟩) dX3_waited_45
    · have qs_3_1 : x_1.toInt ≠ 1 := pt_ne s_3_1 (by decide)
      refine lv_lookup (tgt := 46) hx hb dX3_waited_6 (by decide) (off := 40) (ti_lk _ x_1.toInt _ (by intro q hq; simp only [List.mem_cons, List.not_mem_nil, or_false] at hq; rcases hq with rfl | rfl <;> first | exact ti_nev 0 s_3_0 (by decide) | exact ti_nev 1 s_3_1 (by decide))) (by decide) ?_
      refine lv_aload_n hx hb dX3_waited_46 rfl (lv_at hl 0 rfl) ?_
      refine ti_get (ci := 3) (k := 14) (N := 17) (T := TX3) (v := .ref (A q 15)) C hw iw_3 rfl hq (by decide) (by decide) fl_X3_36 rfl rfl dX3_waited_47 ?_
      refine lv_iload_n hx hb dX3_waited_50 rfl (lv_at hl 1 rfl) ?_
      refine ti_iald (ci := 3) (k := 14) (n := 8) C hw hq (by decide) (fun _ _ => rfl) (vp_in_iff.mpr (by omega)) dX3_waited_51 ?_
      refine lv_topi (fun x_9 ex_9 => ?_)
      have L_10 : rg (224 + mn.toInt.toNat) = x_9.toInt := qC_y (k := 14) hs rfl (by omega) (by omega) (by decide) (by decide) ex_9
      refine lv_aload_n hx hb dX3_waited_52 rfl (lv_at hl 0 rfl) ?_
      refine ti_get (ci := 3) (k := 13) (N := 17) (T := TX3) (v := .ref (A q 14)) C hw iw_3 rfl hq (by decide) (by decide) fl_X3_33 rfl rfl dX3_waited_53 ?_
      refine lv_iload_n hx hb dX3_waited_56 rfl (lv_at hl 1 rfl) ?_
      refine ti_iald (ci := 3) (k := 13) (n := 8) C hw hq (by decide) (fun _ _ => rfl) (vp_in_iff.mpr (by omega)) dX3_waited_57 ?_
      refine lv_topi (fun x_11 ex_11 => ?_)
      have L_12 : rg (208 + mn.toInt.toNat) = x_11.toInt := qC_y (k := 13) hs rfl (by omega) (by omega) (by decide) (by decide) ex_11
      refine lv_isub hx hb dX3_waited_58 ?_
      refine lv_topi (fun x_13 ex_13 => ?_)
      have tx_13 : x_13.toInt = bw (x_9.toInt - x_11.toInt) := bw_sub ex_13 rfl rfl
      exact hQ _ _ _ _ _ _ hw rfl (⟨rfl, (by unfold bq_wt; (repeat (first | rw [if_pos (by omega)] | rw [if_neg (by omega)])); first | omega | (rw [tx_13]; exact congrArg bw (by omega)))⟩) dX3_waited_59
set_option maxHeartbeats 4000000 in
set_option maxRecDepth 100000 in
theorem z_X3_append (l : Launch) (D : va_G) (A : Nat → Nat → Nat) (cy : Nat → ClassId) (hJ : ti_inj ti_LT A) (M : ti_M) (hI : cI Tc M) (q : Nat) (hq : ti_ob ti_LT q 3) (mn : Int32) (h1 : 0 ≤ mn.toInt) (h2 : mn.toInt ≤ 7) (rg : Nat → Int) (hs : qC q rg M) : ti_Kv l yX3_append cX3_append 2 0 ti_LT D A cy M [.ref (A q 0), .int mn] (fun M2 => cI Tc M2 ∧ M2.2.2.2 = M.2.2.2 ∧ eo q M2 M ∧ qC q (bq_ap rg mn.toInt) M2) := by
  refine ti_eV yp_X3_append hJ ti_LT_nd (Nat.le_of_ble_eq_true rfl) ?_
  intro p e s m args below meth c Q H0 C hQ hw ls hl
  have hx := C.1
  have hb := C.2.1
  have hl : lv_has ls 2 [(0, .ref (A q 0)), (1, .int mn)] := hl
  refine lv_aload_n hx hb dX3_append_0 rfl (lv_at hl 0 rfl) ?_
  refine ti_get (ci := 3) (k := 3) (N := 17) (T := TX3) C hw iw_3 rfl hq (by decide) (by decide) fl_X3_56 rfl rfl dX3_append_1 ?_
  refine lv_topi (fun x_1 ex_1 => ?_)
  have bx_1 : 0 ≤ x_1.toInt ∧ x_1.toInt ≤ 8 := cI_rd hI hq.1 ex_1
  have ux_1 : (tI M q 3).toInt = x_1.toInt := by rw [ex_1]
  have L_2 : rg 3 = x_1.toInt := ((hs.1 3 (by decide) (by decide)).trans (congrArg Int32.toInt (ex_1.symm))).trans rfl
  refine lv_bipush (v := 8) hx hb dX3_append_4 (by decide) ?_
  refine sb_icmp_ge (tgt := 46) hx hb rfl (by decide : (8 : Int32).toInt = 8) dX3_append_6 (by decide) (fun c_6_2 => ?_) (fun c_6_2 => ?_)
  · have E_27 : bq_ap rg mn.toInt = rg := by
      unfold bq_ap
      (repeat (first | rw [if_pos (by omega)] | rw [if_neg (by omega)]))
      all_goals ((repeat' (first | rfl | assumption | refine su_cg ?_ ?_ ?_)) <;> first | omega | (exact congrArg bw (by omega)))
    exact hQ _ _ _ _ _ hw (⟨hI, rfl, eo.refl, (by rw [E_27]; exact hs)⟩) dX3_append_46
  · refine lv_aload_n hx hb dX3_append_9 rfl (lv_at hl 0 rfl) ?_
    refine ti_get (ci := 3) (k := 6) (N := 17) (T := TX3) (v := .ref (A q 7)) C hw iw_3 rfl hq (by decide) (by decide) fl_X3_9 rfl rfl dX3_append_10 ?_
    refine lv_aload_n hx hb dX3_append_13 rfl (lv_at hl 0 rfl) ?_
    refine ti_get (ci := 3) (k := 3) (N := 17) (T := TX3) C hw iw_3 rfl hq (by decide) (by decide) fl_X3_56 rfl rfl dX3_append_14 ?_
    refine ti_top (y := x_1) (ex_1.symm) ?_
    have u_4 : (tI M q 3).toInt = (x_1 : Int32).toInt := by rw [(ex_1.symm)]
    have L_5 : rg 3 = x_1.toInt := ((hs.1 3 (by decide) (by decide)).trans (congrArg Int32.toInt (ex_1.symm))).trans rfl
    refine lv_iload_n hx hb dX3_append_17 rfl (lv_at hl 1 rfl) ?_
    refine ti_iast (ci := 3) (k := 6) (n := 8) C hw hq (by decide) (fun _ _ => rfl) (vp_in_iff.mpr (by omega)) dX3_append_18 (fun H locs hw => ?_)
    obtain ⟨M_6, hM_6⟩ : ∃ z : ti_M, z = uY M q 6 (upd (tY M q 6) (x_1 : Int32).toNatClampNeg mn) := ⟨_, rfl⟩
    have hw := hw.to hM_6.symm
    have iM_6 : cI Tc M_6 := cI_up hI hM_6 hq.1 (ib_mk (lo := 0) (hi := 7) (by omega) (by omega))
    have hs_7 : qC q (pp_su rg (96 + x_1.toInt.toNat) mn.toInt) M_6 := qC_Y (k := 6) (j := x_1.toInt.toNat) (i := x_1) hs (by omega) rfl hM_6 (by decide) (by omega)
    obtain ⟨g_8, eg_8⟩ : ∃ z : Nat → Int, z = pp_su rg (96 + x_1.toInt.toNat) mn.toInt := ⟨_, rfl⟩
    rw [← eg_8] at hs_7
    refine lv_aload_n hx hb dX3_append_19 rfl (lv_at hl 0 rfl) ?_
    refine lv_dup hx hb dX3_append_20 rfl ?_
    refine ti_get (ci := 3) (k := 3) (N := 17) (T := TX3) C hw iw_3 rfl hq (by decide) (by decide) fl_X3_56 rfl rfl dX3_append_21 ?_
    refine ti_top (y := x_1) ((tI_uYE hM_6).trans ex_1.symm) ?_
    have u_9 : (tI M_6 q 3).toInt = (x_1 : Int32).toInt := by rw [((tI_uYE hM_6).trans ex_1.symm)]
    have L_10 : g_8 3 = x_1.toInt := ((hs_7.1 3 (by decide) (by decide)).trans (congrArg Int32.toInt ((tI_uYE hM_6).trans ex_1.symm))).trans rfl
    have L_11 : rg 3 = x_1.toInt := (show g_8 3 = rg 3 by rw [eg_8, su_n (by omega)]).symm.trans L_10
    refine lv_iconst (v := 1) hx hb dX3_append_24 (by decide) ?_
    refine lv_iadd hx hb dX3_append_25 ?_
    refine lv_topi (fun x_12 ex_12 => ?_)
    have tx_12 : x_12.toInt = x_1.toInt + 1 := i_add ex_12 rfl (by decide : (1 : Int32).toInt = 1) (by omega) (by omega)
    refine ti_putI (ci := 3) (k := 3) (N := 17) (T := TX3) C hw iw_3 tyX3 tyX3_ok nmX3 rfl hq (by decide) (by decide) fl_X3_56 rfl rfl rfl rfl (fn_3 A _) fs_3_3 dX3_append_26 (fun H locs hw => ?_)
    obtain ⟨M_13, hM_13⟩ : ∃ z : ti_M, z = uI M_6 q 3 x_12 := ⟨_, rfl⟩
    have hw := hw.to hM_13.symm
    have iM_13 : cI Tc M_13 := cI_uI iM_6 hM_13 hq.1 (ib_mk (lo := 0) (hi := 8) (by omega) (by omega))
    have vM_13 : (tI M_13 q 3).toInt = (x_12 : Int32).toInt := by rw [tI_uE hM_13]
    have hs_14 : qC q (pp_su g_8 3 x_12.toInt) M_13 := qC_I hs_7 rfl hM_13 (by decide)
    obtain ⟨g_15, eg_15⟩ : ∃ z : Nat → Int, z = pp_su g_8 3 x_12.toInt := ⟨_, rfl⟩
    rw [← eg_15] at hs_14
    have sg_15 : g_15 3 = x_12.toInt := by rw [eg_15, su_s]
    refine lv_aload_n hx hb dX3_append_29 rfl (lv_at hl 0 rfl) ?_
    refine ti_get (ci := 3) (k := 8) (N := 17) (T := TX3) (v := .ref (A q 9)) C hw iw_3 rfl hq (by decide) (by decide) fl_X3_18 rfl rfl dX3_append_30 ?_
    refine lv_iload_n hx hb dX3_append_33 rfl (lv_at hl 1 rfl) ?_
    refine lv_iconst (v := 1) hx hb dX3_append_34 (by decide) ?_
    refine ti_iast (ci := 3) (k := 8) (n := 8) C hw hq (by decide) (fun _ _ => rfl) (vp_in_iff.mpr (by omega)) dX3_append_35 (fun H locs hw => ?_)
    obtain ⟨M_16, hM_16⟩ : ∃ z : ti_M, z = uY M_13 q 8 (upd (tY M_13 q 8) (mn : Int32).toNatClampNeg 1) := ⟨_, rfl⟩
    have hw := hw.to hM_16.symm
    have iM_16 : cI Tc M_16 := cI_up iM_13 hM_16 hq.1 trivial
    have hs_17 : qC q (pp_su g_15 (128 + mn.toInt.toNat) 1) M_16 := qC_Y (k := 8) (j := mn.toInt.toNat) (i := mn) hs_14 (by omega) (by decide : (1 : Int32).toInt = 1) hM_16 (by decide) (by omega)
    obtain ⟨g_18, eg_18⟩ : ∃ z : Nat → Int, z = pp_su g_15 (128 + mn.toInt.toNat) 1 := ⟨_, rfl⟩
    rw [← eg_18] at hs_17
    refine lv_aload_n hx hb dX3_append_36 rfl (lv_at hl 0 rfl) ?_
    refine ti_get (ci := 3) (k := 13) (N := 17) (T := TX3) (v := .ref (A q 14)) C hw iw_3 rfl hq (by decide) (by decide) fl_X3_33 rfl rfl dX3_append_37 ?_
    refine lv_iload_n hx hb dX3_append_40 rfl (lv_at hl 1 rfl) ?_
    refine lv_aload_n hx hb dX3_append_41 rfl (lv_at hl 0 rfl) ?_
    refine ti_get (ci := 3) (k := 2) (N := 17) (T := TX3) C hw iw_3 rfl hq (by decide) (by decide) fl_X3_53 rfl rfl dX3_append_42 ?_
    refine lv_topi (fun x_19 ex_19 => ?_)
    have L_20 : g_18 2 = x_19.toInt := ((hs_17.1 2 (by decide) (by decide)).trans (congrArg Int32.toInt (ex_19.symm))).trans rfl
    have L_21 : g_15 2 = x_19.toInt := (show g_18 2 = g_15 2 by rw [eg_18, su_n (by omega)]).symm.trans L_20
    have L_22 : g_8 2 = x_19.toInt := (show g_15 2 = g_8 2 by rw [eg_15, su_n (by omega)]).symm.trans L_21
    have L_23 : rg 2 = x_19.toInt := (show g_8 2 = rg 2 by rw [eg_8, su_n (by omega)]).symm.trans L_22
    refine ti_iast (ci := 3) (k := 13) (n := 8) C hw hq (by decide) (fun _ _ => rfl) (vp_in_iff.mpr (by omega)) dX3_append_45 (fun H locs hw => ?_)
    obtain ⟨M_24, hM_24⟩ : ∃ z : ti_M, z = uY M_16 q 13 (upd (tY M_16 q 13) (mn : Int32).toNatClampNeg x_19) := ⟨_, rfl⟩
    have hw := hw.to hM_24.symm
    have iM_24 : cI Tc M_24 := cI_up iM_16 hM_24 hq.1 trivial
    have hs_25 : qC q (pp_su g_18 (208 + mn.toInt.toNat) x_19.toInt) M_24 := qC_Y (k := 13) (j := mn.toInt.toNat) (i := mn) hs_17 (by omega) rfl hM_24 (by decide) (by omega)
    obtain ⟨g_26, eg_26⟩ : ∃ z : Nat → Int, z = pp_su g_18 (208 + mn.toInt.toNat) x_19.toInt := ⟨_, rfl⟩
    rw [← eg_26] at hs_25
    have E_28 : bq_ap rg mn.toInt = g_26 := by
      unfold bq_ap
      (repeat (first | rw [if_pos (by omega)] | rw [if_neg (by omega)]))
      all_goals subst eg_26 eg_18 eg_15 eg_8
      all_goals ((repeat' (first | rfl | assumption | refine su_cg ?_ ?_ ?_)) <;> first | omega | (exact congrArg bw (by omega)))
    exact hQ _ _ _ _ _ hw (⟨iM_24, ((rf_Y hM_24).trans ((rf_Y hM_16).trans ((rf_I hM_13).trans (rf_Y hM_6)))), (eo.trans (eo_Y hM_24) (eo.trans (eo_Y hM_16) (eo.trans (eo_I hM_13) (eo_Y hM_6)))), (by rw [E_28]; exact hs_25)⟩) dX3_append_46
set_option maxHeartbeats 4000000 in
set_option maxRecDepth 100000 in
theorem z_X3_remove (l : Launch) (D : va_G) (A : Nat → Nat → Nat) (cy : Nat → ClassId) (hJ : ti_inj ti_LT A) (M : ti_M) (hI : cI Tc M) (q : Nat) (hq : ti_ob ti_LT q 3) (pl ns : Int32) (rg : Nat → Int) (hs : qC q rg M) : ti_Kv l yX3_remove cX3_remove 5 1 ti_LT D A cy M [.ref (A q 0), .int pl, .int ns] (fun M2 => cI Tc M2 ∧ M2.2.2.2 = M.2.2.2 ∧ eo q M2 M ∧ qC q (bq_rm rg pl.toInt ns.toInt) M2) := by
  refine ti_eV yp_X3_remove hJ ti_LT_nd (Nat.le_of_ble_eq_true rfl) ?_
  intro p e s m args below meth c Q H0 C hQ hw ls hl
  have hx := C.1
  have hb := C.2.1
  have hl : lv_has ls 5 [(0, .ref (A q 0)), (1, .int pl), (2, .int ns)] := hl
  refine lv_aload_n hx hb dX3_remove_0 rfl (lv_at hl 0 rfl) ?_
  refine lv_iload_n hx hb dX3_remove_1 rfl (lv_at hl 1 rfl) ?_
  refine ti_callVi (ci := 3) (av := [.int pl]) C hw (z_X3_manAt l D A cy hJ M hI q hq pl rg hs) ⟨ml_X3_99, ym_X3_manAt, yv_X3_manAt, yi_X3_manAt, yc_X3_manAt⟩ yd_X3_manAt hq (by decide) rfl rfl hl.1 (Nat.le_of_ble_eq_true rfl) ⟨by decide, by decide⟩ ⟨Nat.zero_le _, Nat.zero_le _⟩ dX3_remove_2 (fun r_1 M_2 H locs hp_2 hw => ?_)
  obtain ⟨hm, b0r_1, b1r_1, pr_1, p0r_1⟩ := hp_2
  have hw := hw.to hm
  refine lv_istore_n (lv' := [(3, .int r_1), (0, .ref (A q 0)), (1, .int pl), (2, .int ns)]) hx hb dX3_remove_5 rfl hl (by decide) rfl (fun ls hl => ?_)
  refine lv_iload_n hx hb dX3_remove_6 rfl (lv_at hl 0 rfl) ?_
  refine sb_if_ge (tgt := 11) hx hb rfl dX3_remove_7 (by decide) (fun c_7_2 => ?_) (fun c_7_2 => ?_)
  · refine lv_aload_n hx hb dX3_remove_11 rfl (lv_at hl 1 rfl) ?_
    refine lv_dup hx hb dX3_remove_12 rfl ?_
    refine ti_get (ci := 3) (k := 3) (N := 17) (T := TX3) C hw iw_3 rfl hq (by decide) (by decide) fl_X3_56 rfl rfl dX3_remove_13 ?_
    refine lv_topi (fun x_4 ex_4 => ?_)
    have bx_4 : 0 ≤ x_4.toInt ∧ x_4.toInt ≤ 8 := cI_rd hI hq.1 ex_4
    have ux_4 : (tI M q 3).toInt = x_4.toInt := by rw [ex_4]
    have L_5 : rg 3 = x_4.toInt := ((hs.1 3 (by decide) (by decide)).trans (congrArg Int32.toInt (ex_4.symm))).trans rfl
    refine lv_iconst (v := 1) hx hb dX3_remove_16 (by decide) ?_
    refine lv_isub hx hb dX3_remove_17 ?_
    refine lv_topi (fun x_6 ex_6 => ?_)
    have tx_6 : x_6.toInt = x_4.toInt - 1 := i_sub ex_6 rfl (by decide : (1 : Int32).toInt = 1) (by omega) (by omega)
    refine ti_putI (ci := 3) (k := 3) (N := 17) (T := TX3) C hw iw_3 tyX3 tyX3_ok nmX3 rfl hq (by decide) (by decide) fl_X3_56 rfl rfl rfl rfl (fn_3 A _) fs_3_3 dX3_remove_18 (fun H locs hw => ?_)
    obtain ⟨M_7, hM_7⟩ : ∃ z : ti_M, z = uI M q 3 x_6 := ⟨_, rfl⟩
    have hw := hw.to hM_7.symm
    have iM_7 : cI Tc M_7 := cI_uI hI hM_7 hq.1 (ib_mk (lo := 0) (hi := 8) (by omega) (by omega))
    have vM_7 : (tI M_7 q 3).toInt = (x_6 : Int32).toInt := by rw [tI_uE hM_7]
    have hs_8 : qC q (pp_su rg 3 x_6.toInt) M_7 := qC_I hs rfl hM_7 (by decide)
    obtain ⟨g_9, eg_9⟩ : ∃ z : Nat → Int, z = pp_su rg 3 x_6.toInt := ⟨_, rfl⟩
    rw [← eg_9] at hs_8
    have sg_9 : g_9 3 = x_6.toInt := by rw [eg_9, su_s]
    have w2g_9 : g_9 2 = rg 2 := by rw [eg_9, su_n (by omega)]
    refine lv_iload_n hx hb dX3_remove_21 rfl (lv_at hl 2 rfl) ?_
    refine lv_istore (lv' := [(4, .int pl), (3, .int r_1), (0, .ref (A q 0)), (1, .int pl), (2, .int ns)]) hx hb dX3_remove_22 hl (by decide) rfl (fun ls hl => ?_)
    have hl_24_21 : ∀ (n_22 : Nat) (x_10 : Int32) (M_13 : ti_M) (g_16 : Nat → Int) (H : Heap) (locs : List Loc) (ls : Array Slot), (8 - x_10.toInt : Int).toNat < n_22 → (0 ≤ x_10.toInt) → (x_10.toInt ≤ 8) → (cI Tc M_13) → (M_13.2.2.2 = M.2.2.2) → (eo q M_13 M) → (qC q g_16 M_13) → (x_10.toInt ≤ 8) → (bq_sf ((g_16 3).toNat - (x_10.toInt).toNat) (x_10.toInt).toNat g_16 = bq_sf (rg 3 - 1 - pl.toInt).toNat pl.toInt.toNat (pp_su rg 3 (rg 3 - 1))) → (g_16 3 = rg 3 - 1) → (g_16 2 = rg 2) → ti_H ti_LT D A cy H0 M_13 H locs → lv_has ls 5 [(4, .int x_10), (3, .int r_1), (0, .ref (A q 0)), (1, .int pl), (2, .int ns)] → W p l e (ti_rm 1) s m args below meth c H locs 0 0 Q (F0 m 24 ls []) := by
      intro n_22
      induction n_22 with
      | zero => intro x_10 M_13 g_16 H locs ls hf_22; exact absurd hf_22 (Nat.not_lt_zero _)
      | succ n_22 ih_22 =>
        intro x_10 M_13 g_16 H locs ls hf_22 b_11 b_12 iM_13 f_14 f_15 hs_17 j_18 j_19 j_20 j_21 hw hl
        refine lv_iload hx hb dX3_remove_24 (lv_at hl 0 rfl) ?_
        refine lv_aload_n hx hb dX3_remove_26 rfl (lv_at hl 2 rfl) ?_
        refine ti_get (ci := 3) (k := 3) (N := 17) (T := TX3) C hw iw_3 rfl hq (by decide) (by decide) fl_X3_56 rfl rfl dX3_remove_27 ?_
        refine lv_topi (fun x_23 ex_23 => ?_)
        have bx_23 : 0 ≤ x_23.toInt ∧ x_23.toInt ≤ 8 := cI_rd iM_13 hq.1 ex_23
        have ux_23 : (tI M_13 q 3).toInt = x_23.toInt := by rw [ex_23]
        have L_24 : g_16 3 = x_23.toInt := ((hs_17.1 3 (by decide) (by decide)).trans (congrArg Int32.toInt (ex_23.symm))).trans rfl
        refine sb_icmp_ge (tgt := 55) hx hb rfl rfl dX3_remove_30 (by decide) (fun c_30_24 => ?_) (fun c_30_24 => ?_)
        · refine lv_aload_n hx hb dX3_remove_55 rfl (lv_at hl 2 rfl) ?_
          refine ti_get (ci := 3) (k := 8) (N := 17) (T := TX3) (v := .ref (A q 9)) C hw iw_3 rfl hq (by decide) (by decide) fl_X3_18 rfl rfl dX3_remove_56 ?_
          refine lv_iload_n hx hb dX3_remove_59 rfl (lv_at hl 1 rfl) ?_
          refine lv_iload_n hx hb dX3_remove_60 rfl (lv_at hl 4 rfl) ?_
          refine ti_iast (ci := 3) (k := 8) (n := 8) C hw hq (by decide) (fun _ _ => rfl) (vp_in_iff.mpr (by omega)) dX3_remove_61 (fun H locs hw => ?_)
          obtain ⟨M_33, hM_33⟩ : ∃ z : ti_M, z = uY M_13 q 8 (upd (tY M_13 q 8) (r_1 : Int32).toNatClampNeg ns) := ⟨_, rfl⟩
          have hw := hw.to hM_33.symm
          have iM_33 : cI Tc M_33 := cI_up iM_13 hM_33 hq.1 trivial
          have hs_34 : qC q (pp_su g_16 (128 + r_1.toInt.toNat) ns.toInt) M_33 := qC_Y (k := 8) (j := r_1.toInt.toNat) (i := r_1) hs_17 (by omega) rfl hM_33 (by decide) (by omega)
          obtain ⟨g_35, eg_35⟩ : ∃ z : Nat → Int, z = pp_su g_16 (128 + r_1.toInt.toNat) ns.toInt := ⟨_, rfl⟩
          rw [← eg_35] at hs_34
          have w2g_35 : g_35 2 = g_16 2 := by rw [eg_35, su_n (by omega)]
          have w3g_35 : g_35 3 = g_16 3 := by rw [eg_35, su_n (by omega)]
          refine lv_aload_n hx hb dX3_remove_62 rfl (lv_at hl 2 rfl) ?_
          refine ti_get (ci := 3) (k := 14) (N := 17) (T := TX3) (v := .ref (A q 15)) C hw iw_3 rfl hq (by decide) (by decide) fl_X3_36 rfl rfl dX3_remove_63 ?_
          refine lv_iload_n hx hb dX3_remove_66 rfl (lv_at hl 1 rfl) ?_
          refine lv_aload_n hx hb dX3_remove_67 rfl (lv_at hl 2 rfl) ?_
          refine ti_get (ci := 3) (k := 2) (N := 17) (T := TX3) C hw iw_3 rfl hq (by decide) (by decide) fl_X3_53 rfl rfl dX3_remove_68 ?_
          refine lv_topi (fun x_36 ex_36 => ?_)
          have L_37 : g_35 2 = x_36.toInt := ((hs_34.1 2 (by decide) (by decide)).trans (congrArg Int32.toInt (ex_36.symm))).trans rfl
          have L_38 : g_16 2 = x_36.toInt := (show g_35 2 = g_16 2 by rw [eg_35, su_n (by omega)]).symm.trans L_37
          refine ti_iast (ci := 3) (k := 14) (n := 8) C hw hq (by decide) (fun _ _ => rfl) (vp_in_iff.mpr (by omega)) dX3_remove_71 (fun H locs hw => ?_)
          obtain ⟨M_39, hM_39⟩ : ∃ z : ti_M, z = uY M_33 q 14 (upd (tY M_33 q 14) (r_1 : Int32).toNatClampNeg x_36) := ⟨_, rfl⟩
          have hw := hw.to hM_39.symm
          have iM_39 : cI Tc M_39 := cI_up iM_33 hM_39 hq.1 trivial
          have hs_40 : qC q (pp_su g_35 (224 + r_1.toInt.toNat) x_36.toInt) M_39 := qC_Y (k := 14) (j := r_1.toInt.toNat) (i := r_1) hs_34 (by omega) rfl hM_39 (by decide) (by omega)
          obtain ⟨g_41, eg_41⟩ : ∃ z : Nat → Int, z = pp_su g_35 (224 + r_1.toInt.toNat) x_36.toInt := ⟨_, rfl⟩
          rw [← eg_41] at hs_40
          have w2g_41 : g_41 2 = g_35 2 := by rw [eg_41, su_n (by omega)]
          have w3g_41 : g_41 3 = g_35 3 := by rw [eg_41, su_n (by omega)]
          refine lv_aload_n hx hb dX3_remove_72 rfl (lv_at hl 2 rfl) ?_
          refine ti_get (ci := 3) (k := 15) (N := 17) (T := TX3) (v := .ref (A q 16)) C hw iw_3 rfl hq (by decide) (by decide) fl_X3_39 rfl rfl dX3_remove_73 ?_
          refine lv_iload_n hx hb dX3_remove_76 rfl (lv_at hl 1 rfl) ?_
          refine lv_iconst (v := 0) hx hb dX3_remove_77 (by decide) ?_
          refine ti_iast (ci := 3) (k := 15) (n := 8) C hw hq (by decide) (fun _ _ => rfl) (vp_in_iff.mpr (by omega)) dX3_remove_78 (fun H locs hw => ?_)
          obtain ⟨M_42, hM_42⟩ : ∃ z : ti_M, z = uY M_39 q 15 (upd (tY M_39 q 15) (r_1 : Int32).toNatClampNeg 0) := ⟨_, rfl⟩
          have hw := hw.to hM_42.symm
          have iM_42 : cI Tc M_42 := cI_up iM_39 hM_42 hq.1 trivial
          have hs_43 : qC q (pp_su g_41 (240 + r_1.toInt.toNat) 0) M_42 := qC_Y (k := 15) (j := r_1.toInt.toNat) (i := r_1) hs_40 (by omega) (by decide : (0 : Int32).toInt = 0) hM_42 (by decide) (by omega)
          obtain ⟨g_44, eg_44⟩ : ∃ z : Nat → Int, z = pp_su g_41 (240 + r_1.toInt.toNat) 0 := ⟨_, rfl⟩
          rw [← eg_44] at hs_43
          have w2g_44 : g_44 2 = g_41 2 := by rw [eg_44, su_n (by omega)]
          have w3g_44 : g_44 3 = g_41 3 := by rw [eg_44, su_n (by omega)]
          refine lv_aload_n hx hb dX3_remove_79 rfl (lv_at hl 2 rfl) ?_
          refine ti_get (ci := 3) (k := 16) (N := 17) (T := TX3) (v := .ref (A q 17)) C hw iw_3 rfl hq (by decide) (by decide) fl_X3_42 rfl rfl dX3_remove_80 ?_
          refine lv_iload_n hx hb dX3_remove_83 rfl (lv_at hl 1 rfl) ?_
          refine lv_iconst (v := 0) hx hb dX3_remove_84 (by decide) ?_
          refine ti_iast (ci := 3) (k := 16) (n := 8) C hw hq (by decide) (fun _ _ => rfl) (vp_in_iff.mpr (by omega)) dX3_remove_85 (fun H locs hw => ?_)
          obtain ⟨M_45, hM_45⟩ : ∃ z : ti_M, z = uY M_42 q 16 (upd (tY M_42 q 16) (r_1 : Int32).toNatClampNeg 0) := ⟨_, rfl⟩
          have hw := hw.to hM_45.symm
          have iM_45 : cI Tc M_45 := cI_up iM_42 hM_45 hq.1 trivial
          have hs_46 : qC q (pp_su g_44 (256 + r_1.toInt.toNat) 0) M_45 := qC_Y (k := 16) (j := r_1.toInt.toNat) (i := r_1) hs_43 (by omega) (by decide : (0 : Int32).toInt = 0) hM_45 (by decide) (by omega)
          obtain ⟨g_47, eg_47⟩ : ∃ z : Nat → Int, z = pp_su g_44 (256 + r_1.toInt.toNat) 0 := ⟨_, rfl⟩
          rw [← eg_47] at hs_46
          have w2g_47 : g_47 2 = g_44 2 := by rw [eg_47, su_n (by omega)]
          have w3g_47 : g_47 3 = g_44 3 := by rw [eg_47, su_n (by omega)]
          have E_48 : bq_rm rg pl.toInt ns.toInt = g_47 := by
            unfold bq_rm bq_r2; rw [if_neg (by omega), ← j_19, show (g_16 3).toNat - x_10.toInt.toNat = 0 by omega]
            subst eg_47 eg_44 eg_41 eg_35
            exact su_cg (su_cg (su_cg (su_cg rfl (by omega) (by omega)) (by omega) (by omega)) (by omega) (by omega)) (by omega) (by omega)
          exact hQ _ _ _ _ _ hw (⟨iM_45, ((rf_Y hM_45).trans ((rf_Y hM_42).trans ((rf_Y hM_39).trans ((rf_Y hM_33).trans f_14)))), (eo.trans (eo_Y hM_45) (eo.trans (eo_Y hM_42) (eo.trans (eo_Y hM_39) (eo.trans (eo_Y hM_33) f_15)))), (by rw [E_48]; exact hs_46)⟩) dX3_remove_86
        · refine lv_aload_n hx hb dX3_remove_33 rfl (lv_at hl 2 rfl) ?_
          refine ti_get (ci := 3) (k := 6) (N := 17) (T := TX3) (v := .ref (A q 7)) C hw iw_3 rfl hq (by decide) (by decide) fl_X3_9 rfl rfl dX3_remove_34 ?_
          refine lv_iload hx hb dX3_remove_37 (lv_at hl 0 rfl) ?_
          refine lv_aload_n hx hb dX3_remove_39 rfl (lv_at hl 2 rfl) ?_
          refine ti_get (ci := 3) (k := 6) (N := 17) (T := TX3) (v := .ref (A q 7)) C hw iw_3 rfl hq (by decide) (by decide) fl_X3_9 rfl rfl dX3_remove_40 ?_
          refine lv_iload hx hb dX3_remove_43 (lv_at hl 0 rfl) ?_
          refine lv_iconst (v := 1) hx hb dX3_remove_45 (by decide) ?_
          refine lv_iadd hx hb dX3_remove_46 ?_
          refine lv_topi (fun x_26 ex_26 => ?_)
          have tx_26 : x_26.toInt = x_10.toInt + 1 := i_add ex_26 rfl (by decide : (1 : Int32).toInt = 1) (by omega) (by omega)
          refine ti_iald (ci := 3) (k := 6) (n := 8) C hw hq (by decide) (fun _ _ => rfl) (vp_in_iff.mpr (by omega)) dX3_remove_47 ?_
          refine lv_topi (fun x_27 ex_27 => ?_)
          have bx_27 : 0 ≤ x_27.toInt ∧ x_27.toInt ≤ 7 := cI_ry iM_13 hq.1 ex_27
          have L_28 : g_16 (96 + x_26.toInt.toNat) = x_27.toInt := qC_y (k := 6) hs_17 rfl (by omega) (by omega) (by decide) (by decide) ex_27
          refine ti_iast (ci := 3) (k := 6) (n := 8) C hw hq (by decide) (fun _ _ => rfl) (vp_in_iff.mpr (by omega)) dX3_remove_48 (fun H locs hw => ?_)
          obtain ⟨M_29, hM_29⟩ : ∃ z : ti_M, z = uY M_13 q 6 (upd (tY M_13 q 6) (x_10 : Int32).toNatClampNeg x_27) := ⟨_, rfl⟩
          have hw := hw.to hM_29.symm
          have iM_29 : cI Tc M_29 := cI_up iM_13 hM_29 hq.1 (ib_mk (lo := 0) (hi := 7) (by omega) (by omega))
          have hs_30 : qC q (pp_su g_16 (96 + x_10.toInt.toNat) x_27.toInt) M_29 := qC_Y (k := 6) (j := x_10.toInt.toNat) (i := x_10) hs_17 (by omega) rfl hM_29 (by decide) (by omega)
          obtain ⟨g_31, eg_31⟩ : ∃ z : Nat → Int, z = pp_su g_16 (96 + x_10.toInt.toNat) x_27.toInt := ⟨_, rfl⟩
          rw [← eg_31] at hs_30
          have w2g_31 : g_31 2 = g_16 2 := by rw [eg_31, su_n (by omega)]
          have w3g_31 : g_31 3 = g_16 3 := by rw [eg_31, su_n (by omega)]
          obtain ⟨x_32, ex_32⟩ : ∃ z : Int32, z = x_10 + 1 := ⟨_, rfl⟩
          have tx_32 : x_32.toInt = x_10.toInt + 1 := i_add ex_32 rfl (by decide) (by omega) (by omega)
          refine lv_iinc (v := x_32) (lv' := [(4, .int x_32), (3, .int r_1), (0, .ref (A q 0)), (1, .int pl), (2, .int ns)]) hx hb dX3_remove_49 hl (k := 0) rfl (by rw [ex_32]; rfl) (by decide) rfl (fun ls hl => ?_)
          refine lv_goto (tgt := 24) hx hb dX3_remove_52 (by decide) ?_
          exact ih_22 x_32 M_29 g_31 _ _ _ (by omega) (by first | omega | decide) (by first | omega | decide) iM_29 ((rf_Y hM_29).trans f_14) (eo.trans (eo_Y hM_29) f_15) hs_30 (by first | omega | decide) (by rw [← j_19, sf_go (s := g_16) (n := (g_16 3).toNat) (i := x_10.toInt.toNat) (by omega), show x_32.toInt.toNat = x_10.toInt.toNat + 1 by omega, show (g_31 3).toNat = (g_16 3).toNat by omega]; subst eg_31; exact congrArg _ (su_cg rfl (by omega) (by rw [show 96 + x_10.toInt.toNat + 1 = 96 + x_26.toInt.toNat by omega]; omega))) (by first | omega | decide) (by first | omega | decide) hw (lv_sub hl [0, 1, 2, 3, 4] rfl)
    exact hl_24_21 ((8 - pl.toInt : Int).toNat + 1) pl M_7 g_9 _ _ _ (Nat.lt_succ_self _) (by first | omega | decide) (by first | omega | decide) iM_7 (rf_I hM_7) (eo_I hM_7) hs_8 (by first | omega | decide) (by rw [show (g_9 3).toNat - pl.toInt.toNat = (rg 3 - 1 - pl.toInt).toNat by omega]; subst eg_9; exact congrArg _ (su_cg rfl rfl (by omega))) (by first | omega | decide) (by first | omega | decide) hw (lv_sub hl [0, 1, 2, 3, 4] rfl)
  · exact hQ _ _ _ _ _ hw (⟨hI, rfl, eo.refl, (by unfold bq_rm; rw [if_pos (by omega)]; exact hs)⟩) dX3_remove_10
set_option maxHeartbeats 4000000 in
set_option maxRecDepth 100000 in
theorem z_X3_exchange (l : Launch) (D : va_G) (A : Nat → Nat → Nat) (cy : Nat → ClassId) (hJ : ti_inj ti_LT A) (M : ti_M) (hI : cI Tc M) (q : Nat) (hq : ti_ob ti_LT q 3) (a1 a2 : Int32) (h1 : 0 ≤ a1.toInt) (h2 : a1.toInt ≤ 7) (h3 : 0 ≤ a2.toInt) (h4 : a2.toInt ≤ 7) (rg : Nat → Int) (hs : qC q rg M) : ti_Kv l yX3_exchange cX3_exchange 5 1 ti_LT D A cy M [.ref (A q 0), .int a1, .int a2] (fun M2 => cI Tc M2 ∧ M2.2.2.2 = M.2.2.2 ∧ eo q M2 M ∧ qC q (bq_ex rg a1.toInt a2.toInt) M2) := by
  refine ti_eV yp_X3_exchange hJ ti_LT_nd (Nat.le_of_ble_eq_true rfl) ?_
  intro p e s m args below meth c Q H0 C hQ hw ls hl
  have hx := C.1
  have hb := C.2.1
  have hl : lv_has ls 5 [(0, .ref (A q 0)), (1, .int a1), (2, .int a2)] := hl
  refine lv_aload_n hx hb dX3_exchange_0 rfl (lv_at hl 0 rfl) ?_
  refine lv_iload_n hx hb dX3_exchange_1 rfl (lv_at hl 1 rfl) ?_
  refine ti_callVi (ci := 3) (av := [.int a1]) C hw (z_X3_placeOf l D A cy hJ M hI q hq a1 rg hs) ⟨ml_X3_103, ym_X3_placeOf, yv_X3_placeOf, yi_X3_placeOf, yc_X3_placeOf⟩ yd_X3_placeOf hq (by decide) rfl rfl hl.1 (Nat.le_of_ble_eq_true rfl) ⟨by decide, by decide⟩ ⟨Nat.zero_le _, Nat.zero_le _⟩ dX3_exchange_2 (fun r_1 M_2 H locs hp_2 hw => ?_)
  obtain ⟨hm, b0r_1, b1r_1, pr_1⟩ := hp_2
  have hw := hw.to hm
  refine lv_istore_n (lv' := [(3, .int r_1), (0, .ref (A q 0)), (1, .int a1), (2, .int a2)]) hx hb dX3_exchange_5 rfl hl (by decide) rfl (fun ls hl => ?_)
  refine lv_aload_n hx hb dX3_exchange_6 rfl (lv_at hl 1 rfl) ?_
  refine lv_iload_n hx hb dX3_exchange_7 rfl (lv_at hl 3 rfl) ?_
  refine ti_callVi (ci := 3) (av := [.int a2]) C hw (z_X3_placeOf l D A cy hJ M hI q hq a2 rg hs) ⟨ml_X3_103, ym_X3_placeOf, yv_X3_placeOf, yi_X3_placeOf, yc_X3_placeOf⟩ yd_X3_placeOf hq (by decide) rfl rfl hl.1 (Nat.le_of_ble_eq_true rfl) ⟨by decide, by decide⟩ ⟨Nat.zero_le _, Nat.zero_le _⟩ dX3_exchange_8 (fun r_3 M_4 H locs hp_4 hw => ?_)
  obtain ⟨hm, b0r_3, b1r_3, pr_3⟩ := hp_4
  have hw := hw.to hm
  refine lv_istore (lv' := [(4, .int r_3), (3, .int r_1), (0, .ref (A q 0)), (1, .int a1), (2, .int a2)]) hx hb dX3_exchange_11 hl (by decide) rfl (fun ls hl => ?_)
  refine lv_iload_n hx hb dX3_exchange_13 rfl (lv_at hl 1 rfl) ?_
  refine sb_if_lt (tgt := 37) hx hb rfl dX3_exchange_14 (by decide) (fun c_14_4 => ?_) (fun c_14_4 => ?_)
  · have E_13 : bq_ex rg a1.toInt a2.toInt = rg := by
      unfold bq_ex
      (repeat (first | rw [if_pos (by omega)] | rw [if_neg (by omega)]))
      all_goals ((repeat' (first | rfl | assumption | refine su_cg ?_ ?_ ?_)) <;> first | omega | (exact congrArg bw (by omega)))
    exact hQ _ _ _ _ _ hw (⟨hI, rfl, eo.refl, (by rw [E_13]; exact hs)⟩) dX3_exchange_37
  · refine lv_iload hx hb dX3_exchange_17 (lv_at hl 0 rfl) ?_
    refine sb_if_lt (tgt := 37) hx hb rfl dX3_exchange_19 (by decide) (fun c_19_5 => ?_) (fun c_19_5 => ?_)
    · have E_14 : bq_ex rg a1.toInt a2.toInt = rg := by
        unfold bq_ex
        (repeat (first | rw [if_pos (by omega)] | rw [if_neg (by omega)]))
        all_goals ((repeat' (first | rfl | assumption | refine su_cg ?_ ?_ ?_)) <;> first | omega | (exact congrArg bw (by omega)))
      exact hQ _ _ _ _ _ hw (⟨hI, rfl, eo.refl, (by rw [E_14]; exact hs)⟩) dX3_exchange_37
    · refine lv_aload_n hx hb dX3_exchange_22 rfl (lv_at hl 2 rfl) ?_
      refine ti_get (ci := 3) (k := 6) (N := 17) (T := TX3) (v := .ref (A q 7)) C hw iw_3 rfl hq (by decide) (by decide) fl_X3_9 rfl rfl dX3_exchange_23 ?_
      refine lv_iload_n hx hb dX3_exchange_26 rfl (lv_at hl 1 rfl) ?_
      refine lv_iload_n hx hb dX3_exchange_27 rfl (lv_at hl 4 rfl) ?_
      refine ti_iast (ci := 3) (k := 6) (n := 8) C hw hq (by decide) (fun _ _ => rfl) (vp_in_iff.mpr (by omega)) dX3_exchange_28 (fun H locs hw => ?_)
      obtain ⟨M_7, hM_7⟩ : ∃ z : ti_M, z = uY M q 6 (upd (tY M q 6) (r_1 : Int32).toNatClampNeg a2) := ⟨_, rfl⟩
      have hw := hw.to hM_7.symm
      have iM_7 : cI Tc M_7 := cI_up hI hM_7 hq.1 (ib_mk (lo := 0) (hi := 7) (by omega) (by omega))
      have hs_8 : qC q (pp_su rg (96 + r_1.toInt.toNat) a2.toInt) M_7 := qC_Y (k := 6) (j := r_1.toInt.toNat) (i := r_1) hs (by omega) rfl hM_7 (by decide) (by omega)
      obtain ⟨g_9, eg_9⟩ : ∃ z : Nat → Int, z = pp_su rg (96 + r_1.toInt.toNat) a2.toInt := ⟨_, rfl⟩
      rw [← eg_9] at hs_8
      refine lv_aload_n hx hb dX3_exchange_29 rfl (lv_at hl 2 rfl) ?_
      refine ti_get (ci := 3) (k := 6) (N := 17) (T := TX3) (v := .ref (A q 7)) C hw iw_3 rfl hq (by decide) (by decide) fl_X3_9 rfl rfl dX3_exchange_30 ?_
      refine lv_iload hx hb dX3_exchange_33 (lv_at hl 0 rfl) ?_
      refine lv_iload_n hx hb dX3_exchange_35 rfl (lv_at hl 3 rfl) ?_
      refine ti_iast (ci := 3) (k := 6) (n := 8) C hw hq (by decide) (fun _ _ => rfl) (vp_in_iff.mpr (by omega)) dX3_exchange_36 (fun H locs hw => ?_)
      obtain ⟨M_10, hM_10⟩ : ∃ z : ti_M, z = uY M_7 q 6 (upd (tY M_7 q 6) (r_3 : Int32).toNatClampNeg a1) := ⟨_, rfl⟩
      have hw := hw.to hM_10.symm
      have iM_10 : cI Tc M_10 := cI_up iM_7 hM_10 hq.1 (ib_mk (lo := 0) (hi := 7) (by omega) (by omega))
      have hs_11 : qC q (pp_su g_9 (96 + r_3.toInt.toNat) a1.toInt) M_10 := qC_Y (k := 6) (j := r_3.toInt.toNat) (i := r_3) hs_8 (by omega) rfl hM_10 (by decide) (by omega)
      obtain ⟨g_12, eg_12⟩ : ∃ z : Nat → Int, z = pp_su g_9 (96 + r_3.toInt.toNat) a1.toInt := ⟨_, rfl⟩
      rw [← eg_12] at hs_11
      have E_15 : bq_ex rg a1.toInt a2.toInt = g_12 := by
        unfold bq_ex
        (repeat (first | rw [if_pos (by omega)] | rw [if_neg (by omega)]))
        all_goals subst eg_12 eg_9
        all_goals ((repeat' (first | rfl | assumption | refine su_cg ?_ ?_ ?_)) <;> first | omega | (exact congrArg bw (by omega)))
      exact hQ _ _ _ _ _ hw (⟨iM_10, ((rf_Y hM_10).trans (rf_Y hM_7)), (eo.trans (eo_Y hM_10) (eo_Y hM_7)), (by rw [E_15]; exact hs_11)⟩) dX3_exchange_37

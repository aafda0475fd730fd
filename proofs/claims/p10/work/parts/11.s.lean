variable {Tc : gC} {Tm : gM}
set_option maxHeartbeats 4000000 in
set_option maxRecDepth 100000 in
theorem s_X3_manAt (l : Launch) (D : va_G) (A : Nat → Nat → Nat) (cy : Nat → ClassId) (hJ : ti_inj ti_LT A) (M : ti_M) (hI : cI Tc M) (q : Nat) (hq : ti_ob ti_LT q 3) (pl : Int32) : ti_Ki l yX3_manAt cX3_manAt 2 (some .int) 0 ti_LT D A cy M [.ref (A q 0), .int pl] (fun r M2 => M2 = M ∧ (-2) ≤ r.toInt ∧ r.toInt ≤ 7 ∧ (r.toInt < 0 ∨ (0 ≤ pl.toInt ∧ pl.toInt < (tI M q 3).toInt))) := by
  refine ti_eI yp_X3_manAt hJ ti_LT_nd (Nat.le_of_ble_eq_true rfl) ?_
  intro p e s m args below meth c Q H0 C hQ hw ls hl
  have hx := C.1
  have hb := C.2.1
  have hl : lv_has ls 2 [(0, .ref (A q 0)), (1, .int pl)] := hl
  refine lv_iload_n hx hb dX3_manAt_0 rfl (lv_at hl 1 rfl) ?_
  have hj_21_4 : ∀  (H : Heap) (locs : List Loc) (ls : Array Slot), ti_H ti_LT D A cy H0 M H locs → lv_has ls 2 [(0, .ref (A q 0)), (1, .int pl)] → W p l e (ti_rm 0) s m args below meth c H locs 0 0 Q (F0 m 21 ls []) := by
    intro  H locs ls  hw hl
    refine lv_bipush (v := (-2)) hx hb dX3_manAt_21 (by decide) ?_
    exact hQ _ _ _ _ _ _ hw rfl (⟨rfl, by first | omega | decide, by first | omega | decide, by first | omega | exact Or.inl (by decide)⟩) dX3_manAt_23
  refine sb_if_lt (tgt := 21) hx hb rfl dX3_manAt_1 (by decide) (fun c_1_0 => ?_) (fun c_1_0 => ?_)
  · exact hj_21_4  _ _ _  hw (lv_sub hl [0, 1] rfl)
  · refine lv_iload_n hx hb dX3_manAt_4 rfl (lv_at hl 1 rfl) ?_
    refine lv_aload_n hx hb dX3_manAt_5 rfl (lv_at hl 0 rfl) ?_
    refine ti_get (ci := 3) (k := 3) (N := 17) (T := TX3) C hw iw_3 rfl hq (by decide) (by decide) fl_X3_56 rfl rfl dX3_manAt_6 ?_
    refine lv_topi (fun x_2 ex_2 => ?_)
    have bx_2 : 0 ≤ x_2.toInt ∧ x_2.toInt ≤ 8 := cI_rd hI hq.1 ex_2
    have ux_2 : (tI M q 3).toInt = x_2.toInt := by rw [ex_2]
    refine sb_icmp_ge (tgt := 21) hx hb rfl rfl dX3_manAt_9 (by decide) (fun c_9_2 => ?_) (fun c_9_2 => ?_)
    · exact hj_21_4  _ _ _  hw (lv_sub hl [0, 1] rfl)
    · refine lv_aload_n hx hb dX3_manAt_12 rfl (lv_at hl 0 rfl) ?_
      refine ti_get (ci := 3) (k := 6) (N := 17) (T := TX3) (v := .ref (A q 7)) C hw iw_3 rfl hq (by decide) (by decide) fl_X3_9 rfl rfl dX3_manAt_13 ?_
      refine lv_iload_n hx hb dX3_manAt_16 rfl (lv_at hl 1 rfl) ?_
      refine ti_iald (ci := 3) (k := 6) (n := 8) C hw hq (by decide) (fun _ _ => rfl) (vp_in_iff.mpr (by omega)) dX3_manAt_17 ?_
      refine lv_topi (fun x_4 ex_4 => ?_)
      have bx_4 : 0 ≤ x_4.toInt ∧ x_4.toInt ≤ 7 := cI_ry hI hq.1 ex_4
      refine lv_goto (tgt := 23) hx hb dX3_manAt_18 (by decide) ?_
      exact hQ _ _ _ _ _ _ hw rfl (⟨rfl, by first | omega | decide, by first | omega | decide, by first | omega | exact Or.inl (by decide)⟩) dX3_manAt_23
set_option maxHeartbeats 4000000 in
set_option maxRecDepth 100000 in
theorem s_X3_placeOf (l : Launch) (D : va_G) (A : Nat → Nat → Nat) (cy : Nat → ClassId) (hJ : ti_inj ti_LT A) (M : ti_M) (hI : cI Tc M) (q : Nat) (hq : ti_ob ti_LT q 3) (mn : Int32) : ti_Ki l yX3_placeOf cX3_placeOf 3 (some .int) 0 ti_LT D A cy M [.ref (A q 0), .int mn] (fun r M2 => M2 = M ∧ (-1) ≤ r.toInt ∧ r.toInt ≤ 7) := by
  refine ti_eI yp_X3_placeOf hJ ti_LT_nd (Nat.le_of_ble_eq_true rfl) ?_
  intro p e s m args below meth c Q H0 C hQ hw ls hl
  have hx := C.1
  have hb := C.2.1
  have hl : lv_has ls 3 [(0, .ref (A q 0)), (1, .int mn)] := hl
  refine lv_iconst (v := 0) hx hb dX3_placeOf_0 (by decide) ?_
  refine lv_istore_n (lv' := [(2, .int 0), (0, .ref (A q 0)), (1, .int mn)]) hx hb dX3_placeOf_1 rfl hl (by decide) rfl (fun ls hl => ?_)
  have hl_2_3 : ∀ (n_4 : Nat) (x_1 : Int32) (H : Heap) (locs : List Loc) (ls : Array Slot), (8 - x_1.toInt : Int).toNat < n_4 → (0 ≤ x_1.toInt) → (x_1.toInt ≤ 8) → ti_H ti_LT D A cy H0 M H locs → lv_has ls 3 [(2, .int x_1), (0, .ref (A q 0)), (1, .int mn)] → W p l e (ti_rm 0) s m args below meth c H locs 0 0 Q (F0 m 2 ls []) := by
    intro n_4
    induction n_4 with
    | zero => intro x_1 H locs ls hf_4; exact absurd hf_4 (Nat.not_lt_zero _)
    | succ n_4 ih_4 =>
      intro x_1 H locs ls hf_4 b_2 b_3 hw hl
      refine lv_iload_n hx hb dX3_placeOf_2 rfl (lv_at hl 0 rfl) ?_
      refine lv_aload_n hx hb dX3_placeOf_3 rfl (lv_at hl 1 rfl) ?_
      refine ti_get (ci := 3) (k := 3) (N := 17) (T := TX3) C hw iw_3 rfl hq (by decide) (by decide) fl_X3_56 rfl rfl dX3_placeOf_4 ?_
      refine lv_topi (fun x_5 ex_5 => ?_)
      have bx_5 : 0 ≤ x_5.toInt ∧ x_5.toInt ≤ 8 := cI_rd hI hq.1 ex_5
      have ux_5 : (tI M q 3).toInt = x_5.toInt := by rw [ex_5]
      refine sb_icmp_ge (tgt := 28) hx hb rfl rfl dX3_placeOf_7 (by decide) (fun c_7_5 => ?_) (fun c_7_5 => ?_)
      · refine lv_iconst (v := (-1)) hx hb dX3_placeOf_28 (by decide) ?_
        exact hQ _ _ _ _ _ _ hw rfl (⟨rfl, by first | omega | decide, by first | omega | decide⟩) dX3_placeOf_29
      · refine lv_aload_n hx hb dX3_placeOf_10 rfl (lv_at hl 1 rfl) ?_
        refine ti_get (ci := 3) (k := 6) (N := 17) (T := TX3) (v := .ref (A q 7)) C hw iw_3 rfl hq (by decide) (by decide) fl_X3_9 rfl rfl dX3_placeOf_11 ?_
        refine lv_iload_n hx hb dX3_placeOf_14 rfl (lv_at hl 0 rfl) ?_
        refine ti_iald (ci := 3) (k := 6) (n := 8) C hw hq (by decide) (fun _ _ => rfl) (vp_in_iff.mpr (by omega)) dX3_placeOf_15 ?_
        refine lv_topi (fun x_7 ex_7 => ?_)
        have bx_7 : 0 ≤ x_7.toInt ∧ x_7.toInt ≤ 7 := cI_ry hI hq.1 ex_7
        refine lv_iload_n hx hb dX3_placeOf_16 rfl (lv_at hl 2 rfl) ?_
        refine sb_icmp_ne (tgt := 22) hx hb rfl rfl dX3_placeOf_17 (by decide) (fun c_17_7 => ?_) (fun c_17_7 => ?_)
        · obtain ⟨x_9, ex_9⟩ : ∃ z : Int32, z = x_1 + 1 := ⟨_, rfl⟩
          have tx_9 : x_9.toInt = x_1.toInt + 1 := i_add ex_9 rfl (by decide) (by omega) (by omega)
          refine lv_iinc (v := x_9) (lv' := [(2, .int x_9), (0, .ref (A q 0)), (1, .int mn)]) hx hb dX3_placeOf_22 hl (k := 0) rfl (by rw [ex_9]; rfl) (by decide) rfl (fun ls hl => ?_)
          refine lv_goto (tgt := 2) hx hb dX3_placeOf_25 (by decide) ?_
          exact ih_4 x_9 _ _ _ (by omega) (by first | omega | decide) (by first | omega | decide) hw (lv_sub hl [0, 1, 2] rfl)
        · refine lv_iload_n hx hb dX3_placeOf_20 rfl (lv_at hl 0 rfl) ?_
          exact hQ _ _ _ _ _ _ hw rfl (⟨rfl, by first | omega | decide, by first | omega | decide⟩) dX3_placeOf_21
  exact hl_2_3 ((8 - 0 : Int).toNat + 1) 0 _ _ _ (Nat.lt_succ_self _) (by have lt0 : (0 : Int32).toInt = 0 := (by decide); first | omega | decide) (by have lt0 : (0 : Int32).toInt = 0 := (by decide); first | omega | decide) hw (lv_sub hl [0, 1, 2] rfl)
set_option maxHeartbeats 4000000 in
set_option maxRecDepth 100000 in
theorem s_X3_waited (l : Launch) (D : va_G) (A : Nat → Nat → Nat) (cy : Nat → ClassId) (hJ : ti_inj ti_LT A) (M : ti_M) (hI : cI Tc M) (q : Nat) (hq : ti_ob ti_LT q 3) (mn : Int32) (h1 : 0 ≤ mn.toInt) (h2 : mn.toInt ≤ 7) : ti_Ki l yX3_waited cX3_waited 2 (some .int) 0 ti_LT D A cy M [.ref (A q 0), .int mn] (fun r M2 => M2 = M) := by
  refine ti_eI yp_X3_waited hJ ti_LT_nd (Nat.le_of_ble_eq_true rfl) ?_
  intro p e s m args below meth c Q H0 C hQ hw ls hl
  have hx := C.1
  have hb := C.2.1
  have hl : lv_has ls 2 [(0, .ref (A q 0)), (1, .int mn)] := hl
  refine lv_aload_n hx hb dX3_waited_0 rfl (lv_at hl 0 rfl) ?_
  refine ti_get (ci := 3) (k := 8) (N := 17) (T := TX3) (v := .ref (A q 9)) C hw iw_3 rfl hq (by decide) (by decide) fl_X3_18 rfl rfl dX3_waited_1 ?_
  refine lv_iload_n hx hb dX3_waited_4 rfl (lv_at hl 1 rfl) ?_
  refine ti_iald (ci := 3) (k := 8) (n := 8) C hw hq (by decide) (fun _ _ => rfl) (vp_in_iff.mpr (by omega)) dX3_waited_5 ?_
  refine lv_topi (fun x_1 ex_1 => ?_)
  by_cases s_2_0 : x_1 = 0
  · refine lv_lookup (tgt := 32) hx hb dX3_waited_6 (by decide) (off := 26) (by rw [s_2_0]; decide) (by decide) ?_
    refine lv_iconst (v := 0) hx hb dX3_waited_32 (by decide) ?_
    exact hQ _ _ _ _ _ _ hw rfl rfl dX3_waited_33
  · by_cases s_2_1 : x_1 = 1
    · refine lv_lookup (tgt := 34) hx hb dX3_waited_6 (by decide) (off := 28) (by rw [s_2_1]; decide) (by decide) ?_
      refine lv_aload_n hx hb dX3_waited_34 rfl (lv_at hl 0 rfl) ?_
      refine ti_get (ci := 3) (k := 2) (N := 17) (T := TX3) C hw iw_3 rfl hq (by decide) (by decide) fl_X3_53 rfl rfl dX3_waited_35 ?_
      refine lv_topi (fun x_3 ex_3 => ?_)
      refine lv_aload_n hx hb dX3_waited_38 rfl (lv_at hl 0 rfl) ?_
      refine ti_get (ci := 3) (k := 13) (N := 17) (T := TX3) (v := .ref (A q 14)) C hw iw_3 rfl hq (by decide) (by decide) fl_X3_33 rfl rfl dX3_waited_39 ?_
      refine lv_iload_n hx hb dX3_waited_42 rfl (lv_at hl 1 rfl) ?_
      refine ti_iald (ci := 3) (k := 13) (n := 8) C hw hq (by decide) (fun _ _ => rfl) (vp_in_iff.mpr (by omega)) dX3_waited_43 ?_
      refine lv_topi (fun x_4 ex_4 => ?_)
      refine lv_isub hx hb dX3_waited_44 ?_
      refine lv_topi (fun x_5 ex_5 => ?_)
      exact hQ _ _ _ _ _ _ hw rfl rfl dX3_waited_45
    · refine lv_lookup (tgt := 46) hx hb dX3_waited_6 (by decide) (off := 40) (ti_lk _ x_1.toInt _ (by intro q hq; simp only [List.mem_cons, List.not_mem_nil, or_false] at hq; rcases hq with rfl | rfl <;> first | exact ti_nev 0 s_2_0 (by decide) | exact ti_nev 1 s_2_1 (by decide))) (by decide) ?_
      refine lv_aload_n hx hb dX3_waited_46 rfl (lv_at hl 0 rfl) ?_
      refine ti_get (ci := 3) (k := 14) (N := 17) (T := TX3) (v := .ref (A q 15)) C hw iw_3 rfl hq (by decide) (by decide) fl_X3_36 rfl rfl dX3_waited_47 ?_
      refine lv_iload_n hx hb dX3_waited_50 rfl (lv_at hl 1 rfl) ?_
      refine ti_iald (ci := 3) (k := 14) (n := 8) C hw hq (by decide) (fun _ _ => rfl) (vp_in_iff.mpr (by omega)) dX3_waited_51 ?_
      refine lv_topi (fun x_6 ex_6 => ?_)
      refine lv_aload_n hx hb dX3_waited_52 rfl (lv_at hl 0 rfl) ?_
      refine ti_get (ci := 3) (k := 13) (N := 17) (T := TX3) (v := .ref (A q 14)) C hw iw_3 rfl hq (by decide) (by decide) fl_X3_33 rfl rfl dX3_waited_53 ?_
      refine lv_iload_n hx hb dX3_waited_56 rfl (lv_at hl 1 rfl) ?_
      refine ti_iald (ci := 3) (k := 13) (n := 8) C hw hq (by decide) (fun _ _ => rfl) (vp_in_iff.mpr (by omega)) dX3_waited_57 ?_
      refine lv_topi (fun x_7 ex_7 => ?_)
      refine lv_isub hx hb dX3_waited_58 ?_
      refine lv_topi (fun x_8 ex_8 => ?_)
      exact hQ _ _ _ _ _ _ hw rfl rfl dX3_waited_59
set_option maxHeartbeats 4000000 in
set_option maxRecDepth 100000 in
theorem s_X3_howMany (l : Launch) (D : va_G) (A : Nat → Nat → Nat) (cy : Nat → ClassId) (hJ : ti_inj ti_LT A) (M : ti_M) (hI : cI Tc M) (q t : Nat) (hq : ti_ob ti_LT q 3) (ht : t = 3 ∨ t = 4) (hT : tT M q 0 = some t) (hw0 : Int32) : ti_Ki l yX3_howMany cX3_howMany 4 (some .int) 0 ti_LT D A cy M [.ref (A q 0), .int hw0] (fun r M2 => M2 = M) := by
  refine ti_eI yp_X3_howMany hJ ti_LT_nd (Nat.le_of_ble_eq_true rfl) ?_
  intro p e s m args below meth c Q H0 C hQ hw ls hl
  have hx := C.1
  have hb := C.2.1
  have hl : lv_has ls 4 [(0, .ref (A q 0)), (1, .int hw0)] := hl
  refine lv_iconst (v := 0) hx hb dX3_howMany_0 (by decide) ?_
  refine lv_istore_n (lv' := [(2, .int 0), (0, .ref (A q 0)), (1, .int hw0)]) hx hb dX3_howMany_1 rfl hl (by decide) rfl (fun ls hl => ?_)
  refine lv_iconst (v := 0) hx hb dX3_howMany_2 (by decide) ?_
  refine lv_istore_n (lv' := [(3, .int 0), (2, .int 0), (0, .ref (A q 0)), (1, .int hw0)]) hx hb dX3_howMany_3 rfl hl (by decide) rfl (fun ls hl => ?_)
  have hl_4_4 : ∀ (n_5 : Nat) (x_1 : Int32) (x_4 : Int32) (H : Heap) (locs : List Loc) (ls : Array Slot), (8 - x_1.toInt : Int).toNat < n_5 → (0 ≤ x_1.toInt) → (x_1.toInt ≤ 8) → ti_H ti_LT D A cy H0 M H locs → lv_has ls 4 [(3, .int x_1), (2, .int x_4), (0, .ref (A q 0)), (1, .int hw0)] → W p l e (ti_rm 0) s m args below meth c H locs 0 0 Q (F0 m 4 ls []) := by
    intro n_5
    induction n_5 with
    | zero => intro x_1 x_4 H locs ls hf_5; exact absurd hf_5 (Nat.not_lt_zero _)
    | succ n_5 ih_5 =>
      intro x_1 x_4 H locs ls hf_5 b_2 b_3 hw hl
      refine lv_iload_n hx hb dX3_howMany_4 rfl (lv_at hl 0 rfl) ?_
      refine lv_aload_n hx hb dX3_howMany_5 rfl (lv_at hl 2 rfl) ?_
      refine ti_get (ci := 3) (k := 0) (N := 17) (T := TX3) (v := .ref (A t 0)) C hw iw_3 rfl hq (by decide) (by decide) fl_X3_45 rfl (ti_Tv (hT)) dX3_howMany_6 ?_
      refine ti_get (ci := 8) (k := 4) (N := 12) (T := TX8) C hw iw_8 rfl (ob_t ht) (by decide) (by decide) fl_X3_78 rfl rfl dX3_howMany_9 ?_
      refine lv_topi (fun x_6 ex_6 => ?_)
      have bx_6 : 0 ≤ x_6.toInt ∧ x_6.toInt ≤ 8 := cI_rd hI (ob_t ht).1 ex_6
      have ux_6 : (tI M t 4).toInt = x_6.toInt := by rw [ex_6]
      refine sb_icmp_ge (tgt := 34) hx hb rfl rfl dX3_howMany_12 (by decide) (fun c_12_6 => ?_) (fun c_12_6 => ?_)
      · refine lv_iload_n hx hb dX3_howMany_34 rfl (lv_at hl 1 rfl) ?_
        exact hQ _ _ _ _ _ _ hw rfl rfl dX3_howMany_35
      · refine lv_aload_n hx hb dX3_howMany_15 rfl (lv_at hl 2 rfl) ?_
        refine ti_get (ci := 3) (k := 8) (N := 17) (T := TX3) (v := .ref (A q 9)) C hw iw_3 rfl hq (by decide) (by decide) fl_X3_18 rfl rfl dX3_howMany_16 ?_
        refine lv_iload_n hx hb dX3_howMany_19 rfl (lv_at hl 0 rfl) ?_
        refine ti_iald (ci := 3) (k := 8) (n := 8) C hw hq (by decide) (fun _ _ => rfl) (vp_in_iff.mpr (by omega)) dX3_howMany_20 ?_
        refine lv_topi (fun x_8 ex_8 => ?_)
        refine lv_iload_n hx hb dX3_howMany_21 rfl (lv_at hl 3 rfl) ?_
        have hj_28_11 : ∀ (x_11 : Int32) (H : Heap) (locs : List Loc) (ls : Array Slot), ti_H ti_LT D A cy H0 M H locs → lv_has ls 4 [(3, .int x_1), (2, .int x_11), (0, .ref (A q 0)), (1, .int hw0)] → W p l e (ti_rm 0) s m args below meth c H locs 0 0 Q (F0 m 28 ls []) := by
          intro x_11 H locs ls  hw hl
          obtain ⟨x_12, ex_12⟩ : ∃ z : Int32, z = x_1 + 1 := ⟨_, rfl⟩
          have tx_12 : x_12.toInt = x_1.toInt + 1 := i_add ex_12 rfl (by decide) (by omega) (by omega)
          refine lv_iinc (v := x_12) (lv' := [(3, .int x_12), (2, .int x_11), (0, .ref (A q 0)), (1, .int hw0)]) hx hb dX3_howMany_28 hl (k := 0) rfl (by rw [ex_12]; rfl) (by decide) rfl (fun ls hl => ?_)
          refine lv_goto (tgt := 4) hx hb dX3_howMany_31 (by decide) ?_
          exact ih_5 x_12 x_11 _ _ _ (by omega) (by first | omega | decide) (by first | omega | decide) hw (lv_sub hl [0, 1, 2, 3] rfl)
        refine sb_icmp_ne (tgt := 28) hx hb rfl rfl dX3_howMany_22 (by decide) (fun c_22_8 => ?_) (fun c_22_8 => ?_)
        · exact hj_28_11 x_4 _ _ _  hw (lv_sub hl [0, 1, 2, 3] rfl)
        · obtain ⟨x_10, ex_10⟩ : ∃ z : Int32, z = x_4 + 1 := ⟨_, rfl⟩
          refine lv_iinc (v := x_10) (lv' := [(2, .int x_10), (3, .int x_1), (0, .ref (A q 0)), (1, .int hw0)]) hx hb dX3_howMany_25 hl (k := 1) rfl (by rw [ex_10]; rfl) (by decide) rfl (fun ls hl => ?_)
          exact hj_28_11 x_10 _ _ _  hw (lv_sub hl [1, 0, 2, 3] rfl)
  exact hl_4_4 ((8 - 0 : Int).toNat + 1) 0 0 _ _ _ (Nat.lt_succ_self _) (by have lt0 : (0 : Int32).toInt = 0 := (by decide); first | omega | decide) (by have lt0 : (0 : Int32).toInt = 0 := (by decide); first | omega | decide) hw (lv_sub hl [0, 1, 2, 3] rfl)
set_option maxHeartbeats 4000000 in
set_option maxRecDepth 100000 in
theorem s_X3_allCoin (l : Launch) (D : va_G) (A : Nat → Nat → Nat) (cy : Nat → ClassId) (hJ : ti_inj ti_LT A) (M : ti_M) (hI : cI Tc M) (q t : Nat) (hq : ti_ob ti_LT q 3) (ht : t = 3 ∨ t = 4) (hT : tT M q 0 = some t) : ti_Ki l yX3_allCoin cX3_allCoin 3 (some .int) 0 ti_LT D A cy M [.ref (A q 0)] (fun r M2 => M2 = M) := by
  refine ti_eI yp_X3_allCoin hJ ti_LT_nd (Nat.le_of_ble_eq_true rfl) ?_
  intro p e s m args below meth c Q H0 C hQ hw ls hl
  have hx := C.1
  have hb := C.2.1
  have hl : lv_has ls 3 [(0, .ref (A q 0))] := hl
  refine lv_iconst (v := 0) hx hb dX3_allCoin_0 (by decide) ?_
  refine lv_istore_n (lv' := [(1, .int 0), (0, .ref (A q 0))]) hx hb dX3_allCoin_1 rfl hl (by decide) rfl (fun ls hl => ?_)
  refine lv_iconst (v := 0) hx hb dX3_allCoin_2 (by decide) ?_
  refine lv_istore_n (lv' := [(2, .int 0), (1, .int 0), (0, .ref (A q 0))]) hx hb dX3_allCoin_3 rfl hl (by decide) rfl (fun ls hl => ?_)
  have hl_4_4 : ∀ (n_5 : Nat) (x_1 : Int32) (x_4 : Int32) (H : Heap) (locs : List Loc) (ls : Array Slot), (8 - x_1.toInt : Int).toNat < n_5 → (0 ≤ x_1.toInt) → (x_1.toInt ≤ 8) → ti_H ti_LT D A cy H0 M H locs → lv_has ls 3 [(2, .int x_1), (1, .int x_4), (0, .ref (A q 0))] → W p l e (ti_rm 0) s m args below meth c H locs 0 0 Q (F0 m 4 ls []) := by
    intro n_5
    induction n_5 with
    | zero => intro x_1 x_4 H locs ls hf_5; exact absurd hf_5 (Nat.not_lt_zero _)
    | succ n_5 ih_5 =>
      intro x_1 x_4 H locs ls hf_5 b_2 b_3 hw hl
      refine lv_iload_n hx hb dX3_allCoin_4 rfl (lv_at hl 0 rfl) ?_
      refine lv_aload_n hx hb dX3_allCoin_5 rfl (lv_at hl 2 rfl) ?_
      refine ti_get (ci := 3) (k := 0) (N := 17) (T := TX3) (v := .ref (A t 0)) C hw iw_3 rfl hq (by decide) (by decide) fl_X3_45 rfl (ti_Tv (hT)) dX3_allCoin_6 ?_
      refine ti_get (ci := 8) (k := 4) (N := 12) (T := TX8) C hw iw_8 rfl (ob_t ht) (by decide) (by decide) fl_X3_78 rfl rfl dX3_allCoin_9 ?_
      refine lv_topi (fun x_6 ex_6 => ?_)
      have bx_6 : 0 ≤ x_6.toInt ∧ x_6.toInt ≤ 8 := cI_rd hI (ob_t ht).1 ex_6
      have ux_6 : (tI M t 4).toInt = x_6.toInt := by rw [ex_6]
      refine sb_icmp_ge (tgt := 30) hx hb rfl rfl dX3_allCoin_12 (by decide) (fun c_12_6 => ?_) (fun c_12_6 => ?_)
      · refine lv_iload_n hx hb dX3_allCoin_30 rfl (lv_at hl 1 rfl) ?_
        exact hQ _ _ _ _ _ _ hw rfl rfl dX3_allCoin_31
      · refine lv_iload_n hx hb dX3_allCoin_15 rfl (lv_at hl 1 rfl) ?_
        refine lv_aload_n hx hb dX3_allCoin_16 rfl (lv_at hl 2 rfl) ?_
        refine ti_get (ci := 3) (k := 12) (N := 17) (T := TX3) (v := .ref (A q 13)) C hw iw_3 rfl hq (by decide) (by decide) fl_X3_30 rfl rfl dX3_allCoin_17 ?_
        refine lv_iload_n hx hb dX3_allCoin_20 rfl (lv_at hl 0 rfl) ?_
        refine ti_iald (ci := 3) (k := 12) (n := 8) C hw hq (by decide) (fun _ _ => rfl) (vp_in_iff.mpr (by omega)) dX3_allCoin_21 ?_
        refine lv_topi (fun x_8 ex_8 => ?_)
        refine lv_iadd hx hb dX3_allCoin_22 ?_
        refine lv_topi (fun x_9 ex_9 => ?_)
        refine lv_istore_n (lv' := [(1, .int x_9), (2, .int x_1), (0, .ref (A q 0))]) hx hb dX3_allCoin_23 rfl hl (by decide) rfl (fun ls hl => ?_)
        obtain ⟨x_10, ex_10⟩ : ∃ z : Int32, z = x_1 + 1 := ⟨_, rfl⟩
        have tx_10 : x_10.toInt = x_1.toInt + 1 := i_add ex_10 rfl (by decide) (by omega) (by omega)
        refine lv_iinc (v := x_10) (lv' := [(2, .int x_10), (1, .int x_9), (0, .ref (A q 0))]) hx hb dX3_allCoin_24 hl (k := 1) rfl (by rw [ex_10]; rfl) (by decide) rfl (fun ls hl => ?_)
        refine lv_goto (tgt := 4) hx hb dX3_allCoin_27 (by decide) ?_
        exact ih_5 x_10 x_9 _ _ _ (by omega) (by first | omega | decide) (by first | omega | decide) hw (lv_sub hl [0, 1, 2] rfl)
  exact hl_4_4 ((8 - 0 : Int).toNat + 1) 0 0 _ _ _ (Nat.lt_succ_self _) (by have lt0 : (0 : Int32).toInt = 0 := (by decide); first | omega | decide) (by have lt0 : (0 : Int32).toInt = 0 := (by decide); first | omega | decide) hw (lv_sub hl [0, 1, 2] rfl)
set_option maxHeartbeats 4000000 in
set_option maxRecDepth 100000 in
theorem s_X3_allCoughs (l : Launch) (D : va_G) (A : Nat → Nat → Nat) (cy : Nat → ClassId) (hJ : ti_inj ti_LT A) (M : ti_M) (hI : cI Tc M) (q t : Nat) (hq : ti_ob ti_LT q 3) (ht : t = 3 ∨ t = 4) (hT : tT M q 0 = some t) : ti_Ki l yX3_allCoughs cX3_allCoughs 3 (some .int) 0 ti_LT D A cy M [.ref (A q 0)] (fun r M2 => M2 = M) := by
  refine ti_eI yp_X3_allCoughs hJ ti_LT_nd (Nat.le_of_ble_eq_true rfl) ?_
  intro p e s m args below meth c Q H0 C hQ hw ls hl
  have hx := C.1
  have hb := C.2.1
  have hl : lv_has ls 3 [(0, .ref (A q 0))] := hl
  refine lv_iconst (v := 0) hx hb dX3_allCoughs_0 (by decide) ?_
  refine lv_istore_n (lv' := [(1, .int 0), (0, .ref (A q 0))]) hx hb dX3_allCoughs_1 rfl hl (by decide) rfl (fun ls hl => ?_)
  refine lv_iconst (v := 0) hx hb dX3_allCoughs_2 (by decide) ?_
  refine lv_istore_n (lv' := [(2, .int 0), (1, .int 0), (0, .ref (A q 0))]) hx hb dX3_allCoughs_3 rfl hl (by decide) rfl (fun ls hl => ?_)
  have hl_4_4 : ∀ (n_5 : Nat) (x_1 : Int32) (x_4 : Int32) (H : Heap) (locs : List Loc) (ls : Array Slot), (8 - x_1.toInt : Int).toNat < n_5 → (0 ≤ x_1.toInt) → (x_1.toInt ≤ 8) → ti_H ti_LT D A cy H0 M H locs → lv_has ls 3 [(2, .int x_1), (1, .int x_4), (0, .ref (A q 0))] → W p l e (ti_rm 0) s m args below meth c H locs 0 0 Q (F0 m 4 ls []) := by
    intro n_5
    induction n_5 with
    | zero => intro x_1 x_4 H locs ls hf_5; exact absurd hf_5 (Nat.not_lt_zero _)
    | succ n_5 ih_5 =>
      intro x_1 x_4 H locs ls hf_5 b_2 b_3 hw hl
      refine lv_iload_n hx hb dX3_allCoughs_4 rfl (lv_at hl 0 rfl) ?_
      refine lv_aload_n hx hb dX3_allCoughs_5 rfl (lv_at hl 2 rfl) ?_
      refine ti_get (ci := 3) (k := 0) (N := 17) (T := TX3) (v := .ref (A t 0)) C hw iw_3 rfl hq (by decide) (by decide) fl_X3_45 rfl (ti_Tv (hT)) dX3_allCoughs_6 ?_
      refine ti_get (ci := 8) (k := 4) (N := 12) (T := TX8) C hw iw_8 rfl (ob_t ht) (by decide) (by decide) fl_X3_78 rfl rfl dX3_allCoughs_9 ?_
      refine lv_topi (fun x_6 ex_6 => ?_)
      have bx_6 : 0 ≤ x_6.toInt ∧ x_6.toInt ≤ 8 := cI_rd hI (ob_t ht).1 ex_6
      have ux_6 : (tI M t 4).toInt = x_6.toInt := by rw [ex_6]
      refine sb_icmp_ge (tgt := 30) hx hb rfl rfl dX3_allCoughs_12 (by decide) (fun c_12_6 => ?_) (fun c_12_6 => ?_)
      · refine lv_iload_n hx hb dX3_allCoughs_30 rfl (lv_at hl 1 rfl) ?_
        exact hQ _ _ _ _ _ _ hw rfl rfl dX3_allCoughs_31
      · refine lv_iload_n hx hb dX3_allCoughs_15 rfl (lv_at hl 1 rfl) ?_
        refine lv_aload_n hx hb dX3_allCoughs_16 rfl (lv_at hl 2 rfl) ?_
        refine ti_get (ci := 3) (k := 16) (N := 17) (T := TX3) (v := .ref (A q 17)) C hw iw_3 rfl hq (by decide) (by decide) fl_X3_42 rfl rfl dX3_allCoughs_17 ?_
        refine lv_iload_n hx hb dX3_allCoughs_20 rfl (lv_at hl 0 rfl) ?_
        refine ti_iald (ci := 3) (k := 16) (n := 8) C hw hq (by decide) (fun _ _ => rfl) (vp_in_iff.mpr (by omega)) dX3_allCoughs_21 ?_
        refine lv_topi (fun x_8 ex_8 => ?_)
        refine lv_iadd hx hb dX3_allCoughs_22 ?_
        refine lv_topi (fun x_9 ex_9 => ?_)
        refine lv_istore_n (lv' := [(1, .int x_9), (2, .int x_1), (0, .ref (A q 0))]) hx hb dX3_allCoughs_23 rfl hl (by decide) rfl (fun ls hl => ?_)
        obtain ⟨x_10, ex_10⟩ : ∃ z : Int32, z = x_1 + 1 := ⟨_, rfl⟩
        have tx_10 : x_10.toInt = x_1.toInt + 1 := i_add ex_10 rfl (by decide) (by omega) (by omega)
        refine lv_iinc (v := x_10) (lv' := [(2, .int x_10), (1, .int x_9), (0, .ref (A q 0))]) hx hb dX3_allCoughs_24 hl (k := 1) rfl (by rw [ex_10]; rfl) (by decide) rfl (fun ls hl => ?_)
        refine lv_goto (tgt := 4) hx hb dX3_allCoughs_27 (by decide) ?_
        exact ih_5 x_10 x_9 _ _ _ (by omega) (by first | omega | decide) (by first | omega | decide) hw (lv_sub hl [0, 1, 2] rfl)
  exact hl_4_4 ((8 - 0 : Int).toNat + 1) 0 0 _ _ _ (Nat.lt_succ_self _) (by have lt0 : (0 : Int32).toInt = 0 := (by decide); first | omega | decide) (by have lt0 : (0 : Int32).toInt = 0 := (by decide); first | omega | decide) hw (lv_sub hl [0, 1, 2] rfl)
set_option maxHeartbeats 4000000 in
set_option maxRecDepth 100000 in
theorem s_X3_append (l : Launch) (D : va_G) (A : Nat → Nat → Nat) (cy : Nat → ClassId) (hJ : ti_inj ti_LT A) (M : ti_M) (hI : cI Tc M) (q : Nat) (hq : ti_ob ti_LT q 3) (mn : Int32) (h1 : 0 ≤ mn.toInt) (h2 : mn.toInt ≤ 7) : ti_Kv l yX3_append cX3_append 2 0 ti_LT D A cy M [.ref (A q 0), .int mn] (fun M2 => cI Tc M2 ∧ M2.2.2.2 = M.2.2.2 ∧ tI M2 q 2 = tI M q 2 ∧ fX M2 M) := by
  refine ti_eV yp_X3_append hJ ti_LT_nd (Nat.le_of_ble_eq_true rfl) ?_
  intro p e s m args below meth c Q H0 C hQ hw ls hl
  have hx := C.1
  have hb := C.2.1
  have hl : lv_has ls 2 [(0, .ref (A q 0)), (1, .int mn)] := hl
  refine lv_aload_n hx hb dX3_append_0 rfl (lv_at hl 0 rfl) ?_
  refine ti_get (ci := 3) (k := 3) (N := 17) (T := TX3) C hw iw_3 rfl hq (by decide) (by decide) fl_X3_56 rfl rfl dX3_append_1 ?_
  refine lv_topi (fun x_1 ex_1 => ?_)
  have bx_1 : 0 ≤ x_1.toInt ∧ x_1.toInt ≤ 8 := cI_rd hI hq.1 ex_1
  have ux_1 : (tI M q 3).toInt = x_1.toInt := by rw [ex_1]
  refine lv_bipush (v := 8) hx hb dX3_append_4 (by decide) ?_
  refine sb_icmp_ge (tgt := 46) hx hb rfl (by decide : (8 : Int32).toInt = 8) dX3_append_6 (by decide) (fun c_6_1 => ?_) (fun c_6_1 => ?_)
  · exact hQ _ _ _ _ _ hw (⟨hI, rfl, rfl, fX.refl⟩) dX3_append_46
  · refine lv_aload_n hx hb dX3_append_9 rfl (lv_at hl 0 rfl) ?_
    refine ti_get (ci := 3) (k := 6) (N := 17) (T := TX3) (v := .ref (A q 7)) C hw iw_3 rfl hq (by decide) (by decide) fl_X3_9 rfl rfl dX3_append_10 ?_
    refine lv_aload_n hx hb dX3_append_13 rfl (lv_at hl 0 rfl) ?_
    refine ti_get (ci := 3) (k := 3) (N := 17) (T := TX3) C hw iw_3 rfl hq (by decide) (by decide) fl_X3_56 rfl rfl dX3_append_14 ?_
    refine ti_top (y := x_1) (ex_1.symm) ?_
    have u_3 : (tI M q 3).toInt = (x_1 : Int32).toInt := by rw [(ex_1.symm)]
    refine lv_iload_n hx hb dX3_append_17 rfl (lv_at hl 1 rfl) ?_
    refine ti_iast (ci := 3) (k := 6) (n := 8) C hw hq (by decide) (fun _ _ => rfl) (vp_in_iff.mpr (by omega)) dX3_append_18 (fun H locs hw => ?_)
    obtain ⟨M_4, hM_4⟩ : ∃ z : ti_M, z = uY M q 6 (upd (tY M q 6) (x_1 : Int32).toNatClampNeg mn) := ⟨_, rfl⟩
    have hw := hw.to hM_4.symm
    have iM_4 : cI Tc M_4 := cI_up hI hM_4 hq.1 (ib_mk (lo := 0) (hi := 7) (by first | omega | decide) (by first | omega | decide))
    refine lv_aload_n hx hb dX3_append_19 rfl (lv_at hl 0 rfl) ?_
    refine lv_dup hx hb dX3_append_20 rfl ?_
    refine ti_get (ci := 3) (k := 3) (N := 17) (T := TX3) C hw iw_3 rfl hq (by decide) (by decide) fl_X3_56 rfl rfl dX3_append_21 ?_
    refine ti_top (y := x_1) ((tI_uYE hM_4).trans ex_1.symm) ?_
    have u_5 : (tI M_4 q 3).toInt = (x_1 : Int32).toInt := by rw [((tI_uYE hM_4).trans ex_1.symm)]
    refine lv_iconst (v := 1) hx hb dX3_append_24 (by decide) ?_
    refine lv_iadd hx hb dX3_append_25 ?_
    refine lv_topi (fun x_6 ex_6 => ?_)
    have tx_6 : x_6.toInt = x_1.toInt + 1 := i_add ex_6 rfl (by decide : (1 : Int32).toInt = 1) (by omega) (by omega)
    refine ti_putI (ci := 3) (k := 3) (N := 17) (T := TX3) C hw iw_3 tyX3 tyX3_ok nmX3 rfl hq (by decide) (by decide) fl_X3_56 rfl rfl rfl rfl (fn_3 A _) fs_3_3 dX3_append_26 (fun H locs hw => ?_)
    obtain ⟨M_7, hM_7⟩ : ∃ z : ti_M, z = uI M_4 q 3 x_6 := ⟨_, rfl⟩
    have hw := hw.to hM_7.symm
    have iM_7 : cI Tc M_7 := cI_uI iM_4 hM_7 hq.1 (ib_mk (lo := 0) (hi := 8) (by first | omega | decide) (by first | omega | decide))
    have vM_7 : (tI M_7 q 3).toInt = (x_6 : Int32).toInt := by rw [tI_uE hM_7]
    refine lv_aload_n hx hb dX3_append_29 rfl (lv_at hl 0 rfl) ?_
    refine ti_get (ci := 3) (k := 8) (N := 17) (T := TX3) (v := .ref (A q 9)) C hw iw_3 rfl hq (by decide) (by decide) fl_X3_18 rfl rfl dX3_append_30 ?_
    refine lv_iload_n hx hb dX3_append_33 rfl (lv_at hl 1 rfl) ?_
    refine lv_iconst (v := 1) hx hb dX3_append_34 (by decide) ?_
    refine ti_iast (ci := 3) (k := 8) (n := 8) C hw hq (by decide) (fun _ _ => rfl) (vp_in_iff.mpr (by omega)) dX3_append_35 (fun H locs hw => ?_)
    obtain ⟨M_8, hM_8⟩ : ∃ z : ti_M, z = uY M_7 q 8 (upd (tY M_7 q 8) (mn : Int32).toNatClampNeg 1) := ⟨_, rfl⟩
    have hw := hw.to hM_8.symm
    have iM_8 : cI Tc M_8 := cI_up iM_7 hM_8 hq.1 trivial
    refine lv_aload_n hx hb dX3_append_36 rfl (lv_at hl 0 rfl) ?_
    refine ti_get (ci := 3) (k := 13) (N := 17) (T := TX3) (v := .ref (A q 14)) C hw iw_3 rfl hq (by decide) (by decide) fl_X3_33 rfl rfl dX3_append_37 ?_
    refine lv_iload_n hx hb dX3_append_40 rfl (lv_at hl 1 rfl) ?_
    refine lv_aload_n hx hb dX3_append_41 rfl (lv_at hl 0 rfl) ?_
    refine ti_get (ci := 3) (k := 2) (N := 17) (T := TX3) C hw iw_3 rfl hq (by decide) (by decide) fl_X3_53 rfl rfl dX3_append_42 ?_
    refine lv_topi (fun x_9 ex_9 => ?_)
    refine ti_iast (ci := 3) (k := 13) (n := 8) C hw hq (by decide) (fun _ _ => rfl) (vp_in_iff.mpr (by omega)) dX3_append_45 (fun H locs hw => ?_)
    obtain ⟨M_10, hM_10⟩ : ∃ z : ti_M, z = uY M_8 q 13 (upd (tY M_8 q 13) (mn : Int32).toNatClampNeg x_9) := ⟨_, rfl⟩
    have hw := hw.to hM_10.symm
    have iM_10 : cI Tc M_10 := cI_up iM_8 hM_10 hq.1 trivial
    exact hQ _ _ _ _ _ hw (⟨iM_10, ((rf_Y hM_10).trans ((rf_Y hM_8).trans ((rf_I hM_7).trans (rf_Y hM_4)))), ((tI_uYE hM_10).trans ((tI_uYE hM_8).trans ((tI_nE hM_7 (nk (by decide))).trans (tI_uYE hM_4)))), (fX.trans (fx_of (ra_Y hM_10)) (fX.trans (fx_of (ra_Y hM_8)) (fX.trans (fx_I hM_7 (fxn hq.1 (by decide))) (fx_of (ra_Y hM_4)))))⟩) dX3_append_46
set_option maxHeartbeats 4000000 in
set_option maxRecDepth 100000 in
theorem s_X3_remove (l : Launch) (D : va_G) (A : Nat → Nat → Nat) (cy : Nat → ClassId) (hJ : ti_inj ti_LT A) (M : ti_M) (hI : cI Tc M) (q : Nat) (hq : ti_ob ti_LT q 3) (pl ns : Int32) : ti_Kv l yX3_remove cX3_remove 5 1 ti_LT D A cy M [.ref (A q 0), .int pl, .int ns] (fun M2 => cI Tc M2 ∧ M2.2.2.2 = M.2.2.2 ∧ tI M2 q 2 = tI M q 2 ∧ fX M2 M) := by
  refine ti_eV yp_X3_remove hJ ti_LT_nd (Nat.le_of_ble_eq_true rfl) ?_
  intro p e s m args below meth c Q H0 C hQ hw ls hl
  have hx := C.1
  have hb := C.2.1
  have hl : lv_has ls 5 [(0, .ref (A q 0)), (1, .int pl), (2, .int ns)] := hl
  refine lv_aload_n hx hb dX3_remove_0 rfl (lv_at hl 0 rfl) ?_
  refine lv_iload_n hx hb dX3_remove_1 rfl (lv_at hl 1 rfl) ?_
  refine ti_callVi (ci := 3) (av := [.int pl]) C hw (s_X3_manAt l D A cy hJ M hI q hq pl) ⟨ml_X3_99, ym_X3_manAt, yv_X3_manAt, yi_X3_manAt, yc_X3_manAt⟩ yd_X3_manAt hq (by decide) rfl rfl hl.1 (Nat.le_of_ble_eq_true rfl) ⟨by decide, by decide⟩ ⟨Nat.zero_le _, Nat.zero_le _⟩ dX3_remove_2 (fun r_1 M_2 H locs hp_2 hw => ?_)
  obtain ⟨hm, b0r_1, b1r_1, p0r_1⟩ := hp_2
  have hw := hw.to hm
  refine lv_istore_n (lv' := [(3, .int r_1), (0, .ref (A q 0)), (1, .int pl), (2, .int ns)]) hx hb dX3_remove_5 rfl hl (by decide) rfl (fun ls hl => ?_)
  refine lv_iload_n hx hb dX3_remove_6 rfl (lv_at hl 0 rfl) ?_
  refine sb_if_ge (tgt := 11) hx hb rfl dX3_remove_7 (by decide) (fun c_7_2 => ?_) (fun c_7_2 => ?_)
  · refine lv_aload_n hx hb dX3_remove_11 rfl (lv_at hl 1 rfl) ?_
    refine lv_dup hx hb dX3_remove_12 rfl ?_
    refine ti_get (ci := 3) (k := 3) (N := 17) (T := TX3) C hw iw_3 rfl hq (by decide) (by decide) fl_X3_56 rfl rfl dX3_remove_13 ?_
    refine lv_topi (fun x_4 ex_4 => ?_)
    have bx_4 : 0 ≤ x_4.toInt ∧ x_4.toInt ≤ 8 := cI_rd hI hq.1 ex_4
    have ux_4 : (tI M q 3).toInt = x_4.toInt := by rw [ex_4]
    refine lv_iconst (v := 1) hx hb dX3_remove_16 (by decide) ?_
    refine lv_isub hx hb dX3_remove_17 ?_
    refine lv_topi (fun x_5 ex_5 => ?_)
    have tx_5 : x_5.toInt = x_4.toInt - 1 := i_sub ex_5 rfl (by decide : (1 : Int32).toInt = 1) (by omega) (by omega)
    refine ti_putI (ci := 3) (k := 3) (N := 17) (T := TX3) C hw iw_3 tyX3 tyX3_ok nmX3 rfl hq (by decide) (by decide) fl_X3_56 rfl rfl rfl rfl (fn_3 A _) fs_3_3 dX3_remove_18 (fun H locs hw => ?_)
    obtain ⟨M_6, hM_6⟩ : ∃ z : ti_M, z = uI M q 3 x_5 := ⟨_, rfl⟩
    have hw := hw.to hM_6.symm
    have iM_6 : cI Tc M_6 := cI_uI hI hM_6 hq.1 (ib_mk (lo := 0) (hi := 8) (by first | omega | decide) (by first | omega | decide))
    have vM_6 : (tI M_6 q 3).toInt = (x_5 : Int32).toInt := by rw [tI_uE hM_6]
    refine lv_iload_n hx hb dX3_remove_21 rfl (lv_at hl 2 rfl) ?_
    refine lv_istore (lv' := [(4, .int pl), (3, .int r_1), (0, .ref (A q 0)), (1, .int pl), (2, .int ns)]) hx hb dX3_remove_22 hl (by decide) rfl (fun ls hl => ?_)
    have hl_24_15 : ∀ (n_16 : Nat) (x_7 : Int32) (M_10 : ti_M) (H : Heap) (locs : List Loc) (ls : Array Slot), (8 - x_7.toInt : Int).toNat < n_16 → (0 ≤ x_7.toInt) → (x_7.toInt ≤ 8) → (cI Tc M_10) → (M_10.2.2.2 = M.2.2.2) → (tI M_10 q 2 = tI M q 2) → (fX M_10 M) → (tI M_10 q 3 = x_5) → (x_7.toInt ≤ 8) → ti_H ti_LT D A cy H0 M_10 H locs → lv_has ls 5 [(4, .int x_7), (3, .int r_1), (0, .ref (A q 0)), (1, .int pl), (2, .int ns)] → W p l e (ti_rm 1) s m args below meth c H locs 0 0 Q (F0 m 24 ls []) := by
      intro n_16
      induction n_16 with
      | zero => intro x_7 M_10 H locs ls hf_16; exact absurd hf_16 (Nat.not_lt_zero _)
      | succ n_16 ih_16 =>
        intro x_7 M_10 H locs ls hf_16 b_8 b_9 iM_10 f_11 f_12 f_13 f_14 j_15 hw hl
        refine lv_iload hx hb dX3_remove_24 (lv_at hl 0 rfl) ?_
        refine lv_aload_n hx hb dX3_remove_26 rfl (lv_at hl 2 rfl) ?_
        refine ti_get (ci := 3) (k := 3) (N := 17) (T := TX3) C hw iw_3 rfl hq (by decide) (by decide) fl_X3_56 rfl rfl dX3_remove_27 ?_
        refine ti_top (y := x_5) (f_14) ?_
        have u_17 : (tI M_10 q 3).toInt = (x_5 : Int32).toInt := by rw [(f_14)]
        refine sb_icmp_ge (tgt := 55) hx hb rfl rfl dX3_remove_30 (by decide) (fun c_30_17 => ?_) (fun c_30_17 => ?_)
        · refine lv_aload_n hx hb dX3_remove_55 rfl (lv_at hl 2 rfl) ?_
          refine ti_get (ci := 3) (k := 8) (N := 17) (T := TX3) (v := .ref (A q 9)) C hw iw_3 rfl hq (by decide) (by decide) fl_X3_18 rfl rfl dX3_remove_56 ?_
          refine lv_iload_n hx hb dX3_remove_59 rfl (lv_at hl 1 rfl) ?_
          refine lv_iload_n hx hb dX3_remove_60 rfl (lv_at hl 4 rfl) ?_
          refine ti_iast (ci := 3) (k := 8) (n := 8) C hw hq (by decide) (fun _ _ => rfl) (vp_in_iff.mpr (by omega)) dX3_remove_61 (fun H locs hw => ?_)
          obtain ⟨M_23, hM_23⟩ : ∃ z : ti_M, z = uY M_10 q 8 (upd (tY M_10 q 8) (r_1 : Int32).toNatClampNeg ns) := ⟨_, rfl⟩
          have hw := hw.to hM_23.symm
          have iM_23 : cI Tc M_23 := cI_up iM_10 hM_23 hq.1 trivial
          refine lv_aload_n hx hb dX3_remove_62 rfl (lv_at hl 2 rfl) ?_
          refine ti_get (ci := 3) (k := 14) (N := 17) (T := TX3) (v := .ref (A q 15)) C hw iw_3 rfl hq (by decide) (by decide) fl_X3_36 rfl rfl dX3_remove_63 ?_
          refine lv_iload_n hx hb dX3_remove_66 rfl (lv_at hl 1 rfl) ?_
          refine lv_aload_n hx hb dX3_remove_67 rfl (lv_at hl 2 rfl) ?_
          refine ti_get (ci := 3) (k := 2) (N := 17) (T := TX3) C hw iw_3 rfl hq (by decide) (by decide) fl_X3_53 rfl rfl dX3_remove_68 ?_
          refine lv_topi (fun x_24 ex_24 => ?_)
          refine ti_iast (ci := 3) (k := 14) (n := 8) C hw hq (by decide) (fun _ _ => rfl) (vp_in_iff.mpr (by omega)) dX3_remove_71 (fun H locs hw => ?_)
          obtain ⟨M_25, hM_25⟩ : ∃ z : ti_M, z = uY M_23 q 14 (upd (tY M_23 q 14) (r_1 : Int32).toNatClampNeg x_24) := ⟨_, rfl⟩
          have hw := hw.to hM_25.symm
          have iM_25 : cI Tc M_25 := cI_up iM_23 hM_25 hq.1 trivial
          refine lv_aload_n hx hb dX3_remove_72 rfl (lv_at hl 2 rfl) ?_
          refine ti_get (ci := 3) (k := 15) (N := 17) (T := TX3) (v := .ref (A q 16)) C hw iw_3 rfl hq (by decide) (by decide) fl_X3_39 rfl rfl dX3_remove_73 ?_
          refine lv_iload_n hx hb dX3_remove_76 rfl (lv_at hl 1 rfl) ?_
          refine lv_iconst (v := 0) hx hb dX3_remove_77 (by decide) ?_
          refine ti_iast (ci := 3) (k := 15) (n := 8) C hw hq (by decide) (fun _ _ => rfl) (vp_in_iff.mpr (by omega)) dX3_remove_78 (fun H locs hw => ?_)
          obtain ⟨M_26, hM_26⟩ : ∃ z : ti_M, z = uY M_25 q 15 (upd (tY M_25 q 15) (r_1 : Int32).toNatClampNeg 0) := ⟨_, rfl⟩
          have hw := hw.to hM_26.symm
          have iM_26 : cI Tc M_26 := cI_up iM_25 hM_26 hq.1 trivial
          refine lv_aload_n hx hb dX3_remove_79 rfl (lv_at hl 2 rfl) ?_
          refine ti_get (ci := 3) (k := 16) (N := 17) (T := TX3) (v := .ref (A q 17)) C hw iw_3 rfl hq (by decide) (by decide) fl_X3_42 rfl rfl dX3_remove_80 ?_
          refine lv_iload_n hx hb dX3_remove_83 rfl (lv_at hl 1 rfl) ?_
          refine lv_iconst (v := 0) hx hb dX3_remove_84 (by decide) ?_
          refine ti_iast (ci := 3) (k := 16) (n := 8) C hw hq (by decide) (fun _ _ => rfl) (vp_in_iff.mpr (by omega)) dX3_remove_85 (fun H locs hw => ?_)
          obtain ⟨M_27, hM_27⟩ : ∃ z : ti_M, z = uY M_26 q 16 (upd (tY M_26 q 16) (r_1 : Int32).toNatClampNeg 0) := ⟨_, rfl⟩
          have hw := hw.to hM_27.symm
          have iM_27 : cI Tc M_27 := cI_up iM_26 hM_27 hq.1 trivial
          exact hQ _ _ _ _ _ hw (⟨iM_27, ((rf_Y hM_27).trans ((rf_Y hM_26).trans ((rf_Y hM_25).trans ((rf_Y hM_23).trans f_11)))), ((tI_uYE hM_27).trans ((tI_uYE hM_26).trans ((tI_uYE hM_25).trans ((tI_uYE hM_23).trans f_12)))), (fX.trans (fx_of (ra_Y hM_27)) (fX.trans (fx_of (ra_Y hM_26)) (fX.trans (fx_of (ra_Y hM_25)) (fX.trans (fx_of (ra_Y hM_23)) f_13))))⟩) dX3_remove_86
        · refine lv_aload_n hx hb dX3_remove_33 rfl (lv_at hl 2 rfl) ?_
          refine ti_get (ci := 3) (k := 6) (N := 17) (T := TX3) (v := .ref (A q 7)) C hw iw_3 rfl hq (by decide) (by decide) fl_X3_9 rfl rfl dX3_remove_34 ?_
          refine lv_iload hx hb dX3_remove_37 (lv_at hl 0 rfl) ?_
          refine lv_aload_n hx hb dX3_remove_39 rfl (lv_at hl 2 rfl) ?_
          refine ti_get (ci := 3) (k := 6) (N := 17) (T := TX3) (v := .ref (A q 7)) C hw iw_3 rfl hq (by decide) (by decide) fl_X3_9 rfl rfl dX3_remove_40 ?_
          refine lv_iload hx hb dX3_remove_43 (lv_at hl 0 rfl) ?_
          refine lv_iconst (v := 1) hx hb dX3_remove_45 (by decide) ?_
          refine lv_iadd hx hb dX3_remove_46 ?_
          refine lv_topi (fun x_19 ex_19 => ?_)
          have tx_19 : x_19.toInt = x_7.toInt + 1 := i_add ex_19 rfl (by decide : (1 : Int32).toInt = 1) (by omega) (by omega)
          refine ti_iald (ci := 3) (k := 6) (n := 8) C hw hq (by decide) (fun _ _ => rfl) (vp_in_iff.mpr (by omega)) dX3_remove_47 ?_
          refine lv_topi (fun x_20 ex_20 => ?_)
          have bx_20 : 0 ≤ x_20.toInt ∧ x_20.toInt ≤ 7 := cI_ry iM_10 hq.1 ex_20
          refine ti_iast (ci := 3) (k := 6) (n := 8) C hw hq (by decide) (fun _ _ => rfl) (vp_in_iff.mpr (by omega)) dX3_remove_48 (fun H locs hw => ?_)
          obtain ⟨M_21, hM_21⟩ : ∃ z : ti_M, z = uY M_10 q 6 (upd (tY M_10 q 6) (x_7 : Int32).toNatClampNeg x_20) := ⟨_, rfl⟩
          have hw := hw.to hM_21.symm
          have iM_21 : cI Tc M_21 := cI_up iM_10 hM_21 hq.1 (ib_mk (lo := 0) (hi := 7) (by first | omega | decide) (by first | omega | decide))
          obtain ⟨x_22, ex_22⟩ : ∃ z : Int32, z = x_7 + 1 := ⟨_, rfl⟩
          have tx_22 : x_22.toInt = x_7.toInt + 1 := i_add ex_22 rfl (by decide) (by omega) (by omega)
          refine lv_iinc (v := x_22) (lv' := [(4, .int x_22), (3, .int r_1), (0, .ref (A q 0)), (1, .int pl), (2, .int ns)]) hx hb dX3_remove_49 hl (k := 0) rfl (by rw [ex_22]; rfl) (by decide) rfl (fun ls hl => ?_)
          refine lv_goto (tgt := 24) hx hb dX3_remove_52 (by decide) ?_
          exact ih_16 x_22 M_21 _ _ _ (by omega) (by first | omega | decide) (by first | omega | decide) iM_21 ((rf_Y hM_21).trans f_11) ((tI_uYE hM_21).trans f_12) (fX.trans (fx_of (ra_Y hM_21)) f_13) ((tI_uYE hM_21).trans f_14) (by first | omega | decide) hw (lv_sub hl [0, 1, 2, 3, 4] rfl)
    exact hl_24_15 ((8 - pl.toInt : Int).toNat + 1) pl M_6 _ _ _ (Nat.lt_succ_self _) (by first | omega | decide) (by first | omega | decide) iM_6 (rf_I hM_6) (tI_nE hM_6 (nk (by decide))) (fx_I hM_6 (fxn hq.1 (by decide))) (tI_uE hM_6) (by first | omega | decide) hw (lv_sub hl [0, 1, 2, 3, 4] rfl)
  · exact hQ _ _ _ _ _ hw (⟨hI, rfl, rfl, fX.refl⟩) dX3_remove_10
set_option maxHeartbeats 4000000 in
set_option maxRecDepth 100000 in
theorem s_X3_exchange (l : Launch) (D : va_G) (A : Nat → Nat → Nat) (cy : Nat → ClassId) (hJ : ti_inj ti_LT A) (M : ti_M) (hI : cI Tc M) (q : Nat) (hq : ti_ob ti_LT q 3) (a1 a2 : Int32) (h1 : 0 ≤ a1.toInt) (h2 : a1.toInt ≤ 7) (h3 : 0 ≤ a2.toInt) (h4 : a2.toInt ≤ 7) : ti_Kv l yX3_exchange cX3_exchange 5 1 ti_LT D A cy M [.ref (A q 0), .int a1, .int a2] (fun M2 => cI Tc M2 ∧ M2.2.2.2 = M.2.2.2 ∧ tI M2 q 2 = tI M q 2 ∧ fX M2 M) := by
  refine ti_eV yp_X3_exchange hJ ti_LT_nd (Nat.le_of_ble_eq_true rfl) ?_
  intro p e s m args below meth c Q H0 C hQ hw ls hl
  have hx := C.1
  have hb := C.2.1
  have hl : lv_has ls 5 [(0, .ref (A q 0)), (1, .int a1), (2, .int a2)] := hl
  refine lv_aload_n hx hb dX3_exchange_0 rfl (lv_at hl 0 rfl) ?_
  refine lv_iload_n hx hb dX3_exchange_1 rfl (lv_at hl 1 rfl) ?_
  refine ti_callVi (ci := 3) (av := [.int a1]) C hw (s_X3_placeOf l D A cy hJ M hI q hq a1) ⟨ml_X3_103, ym_X3_placeOf, yv_X3_placeOf, yi_X3_placeOf, yc_X3_placeOf⟩ yd_X3_placeOf hq (by decide) rfl rfl hl.1 (Nat.le_of_ble_eq_true rfl) ⟨by decide, by decide⟩ ⟨Nat.zero_le _, Nat.zero_le _⟩ dX3_exchange_2 (fun r_1 M_2 H locs hp_2 hw => ?_)
  obtain ⟨hm, b0r_1, b1r_1⟩ := hp_2
  have hw := hw.to hm
  refine lv_istore_n (lv' := [(3, .int r_1), (0, .ref (A q 0)), (1, .int a1), (2, .int a2)]) hx hb dX3_exchange_5 rfl hl (by decide) rfl (fun ls hl => ?_)
  refine lv_aload_n hx hb dX3_exchange_6 rfl (lv_at hl 1 rfl) ?_
  refine lv_iload_n hx hb dX3_exchange_7 rfl (lv_at hl 3 rfl) ?_
  refine ti_callVi (ci := 3) (av := [.int a2]) C hw (s_X3_placeOf l D A cy hJ M hI q hq a2) ⟨ml_X3_103, ym_X3_placeOf, yv_X3_placeOf, yi_X3_placeOf, yc_X3_placeOf⟩ yd_X3_placeOf hq (by decide) rfl rfl hl.1 (Nat.le_of_ble_eq_true rfl) ⟨by decide, by decide⟩ ⟨Nat.zero_le _, Nat.zero_le _⟩ dX3_exchange_8 (fun r_3 M_4 H locs hp_4 hw => ?_)
  obtain ⟨hm, b0r_3, b1r_3⟩ := hp_4
  have hw := hw.to hm
  refine lv_istore (lv' := [(4, .int r_3), (3, .int r_1), (0, .ref (A q 0)), (1, .int a1), (2, .int a2)]) hx hb dX3_exchange_11 hl (by decide) rfl (fun ls hl => ?_)
  refine lv_iload_n hx hb dX3_exchange_13 rfl (lv_at hl 1 rfl) ?_
  refine sb_if_lt (tgt := 37) hx hb rfl dX3_exchange_14 (by decide) (fun c_14_4 => ?_) (fun c_14_4 => ?_)
  · exact hQ _ _ _ _ _ hw (⟨hI, rfl, rfl, fX.refl⟩) dX3_exchange_37
  · refine lv_iload hx hb dX3_exchange_17 (lv_at hl 0 rfl) ?_
    refine sb_if_lt (tgt := 37) hx hb rfl dX3_exchange_19 (by decide) (fun c_19_5 => ?_) (fun c_19_5 => ?_)
    · exact hQ _ _ _ _ _ hw (⟨hI, rfl, rfl, fX.refl⟩) dX3_exchange_37
    · refine lv_aload_n hx hb dX3_exchange_22 rfl (lv_at hl 2 rfl) ?_
      refine ti_get (ci := 3) (k := 6) (N := 17) (T := TX3) (v := .ref (A q 7)) C hw iw_3 rfl hq (by decide) (by decide) fl_X3_9 rfl rfl dX3_exchange_23 ?_
      refine lv_iload_n hx hb dX3_exchange_26 rfl (lv_at hl 1 rfl) ?_
      refine lv_iload_n hx hb dX3_exchange_27 rfl (lv_at hl 4 rfl) ?_
      refine ti_iast (ci := 3) (k := 6) (n := 8) C hw hq (by decide) (fun _ _ => rfl) (vp_in_iff.mpr (by omega)) dX3_exchange_28 (fun H locs hw => ?_)
      obtain ⟨M_7, hM_7⟩ : ∃ z : ti_M, z = uY M q 6 (upd (tY M q 6) (r_1 : Int32).toNatClampNeg a2) := ⟨_, rfl⟩
      have hw := hw.to hM_7.symm
      have iM_7 : cI Tc M_7 := cI_up hI hM_7 hq.1 (ib_mk (lo := 0) (hi := 7) (by first | omega | decide) (by first | omega | decide))
      refine lv_aload_n hx hb dX3_exchange_29 rfl (lv_at hl 2 rfl) ?_
      refine ti_get (ci := 3) (k := 6) (N := 17) (T := TX3) (v := .ref (A q 7)) C hw iw_3 rfl hq (by decide) (by decide) fl_X3_9 rfl rfl dX3_exchange_30 ?_
      refine lv_iload hx hb dX3_exchange_33 (lv_at hl 0 rfl) ?_
      refine lv_iload_n hx hb dX3_exchange_35 rfl (lv_at hl 3 rfl) ?_
      refine ti_iast (ci := 3) (k := 6) (n := 8) C hw hq (by decide) (fun _ _ => rfl) (vp_in_iff.mpr (by omega)) dX3_exchange_36 (fun H locs hw => ?_)
      obtain ⟨M_8, hM_8⟩ : ∃ z : ti_M, z = uY M_7 q 6 (upd (tY M_7 q 6) (r_3 : Int32).toNatClampNeg a1) := ⟨_, rfl⟩
      have hw := hw.to hM_8.symm
      have iM_8 : cI Tc M_8 := cI_up iM_7 hM_8 hq.1 (ib_mk (lo := 0) (hi := 7) (by first | omega | decide) (by first | omega | decide))
      exact hQ _ _ _ _ _ hw (⟨iM_8, ((rf_Y hM_8).trans (rf_Y hM_7)), ((tI_uYE hM_8).trans (tI_uYE hM_7)), (fX.trans (fx_of (ra_Y hM_8)) (fx_of (ra_Y hM_7)))⟩) dX3_exchange_37

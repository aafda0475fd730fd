variable {Tc : gC} {Tm : gM}
theorem tY_fr {M N : ti_M} (e : N.2.1 = M.2.1) {o k : Nat} : tY N o k = tY M o k := congrFun (congrFun e o) k
theorem ry_I {M N : ti_M} {o k : Nat} {v : Int32} (e : N = uI M o k v) : N.2.1 = M.2.1 := by subst e; rfl
theorem ry_Z {M N : ti_M} {o k : Nat} {v : Nat → Int64} (e : N = uZ M o k v) : N.2.1 = M.2.1 := by subst e; rfl
theorem upl {f : Nat → Int32} {i n : Nat} {v : Int32} (h : i = n) : upd f i v n = v := by subst h; rw [pk_us]
theorem nc_at {x : Int32} {n : Nat} (h : x.toInt = n) : x.toNatClampNeg = n := by show x.toInt.toNat = n; omega
set_option maxHeartbeats 4000000 in
set_option maxRecDepth 100000 in
theorem s_X10_isPlace (l : Launch) (D : va_G) (A : Nat → Nat → Nat) (cy : Nat → ClassId) (hJ : ti_inj ti_LM A) (M : ti_M) (hI : mI Tm M)  (a : Int32) : ti_Ki l yX10_isPlace cX10_isPlace 1 (some .boolean) 0 ti_LM D A cy M [.int a] (fun r M2 => M2 = M ∧ ((r = 1 ∧ 0 ≤ a.toInt ∧ a.toInt ≤ 7) ∨ r = 0)) := by
  refine ti_eI yp_X10_isPlace hJ ti_LM_nd (Nat.le_of_ble_eq_true rfl) ?_
  intro p e s m args below meth c Q H0 C hQ hw ls hl
  have hx := C.1
  have hb := C.2.1
  have hl : lv_has ls 1 [(0, .int a)] := hl
  refine lv_iload_n hx hb dX10_isPlace_0 rfl (lv_at hl 0 rfl) ?_
  have hj_14_2 : ∀  (H : Heap) (locs : List Loc) (ls : Array Slot), ti_H ti_LM D A cy H0 M H locs → lv_has ls 1 [(0, .int a)] → W p l e (ti_rm 0) s m args below meth c H locs 0 0 Q (F0 m 14 ls []) := by
    intro  H locs ls  hw hl
    refine lv_iconst (v := 0) hx hb dX10_isPlace_14 (by decide) ?_
    exact hQ _ _ _ _ _ _ hw rfl (⟨rfl, Or.inr rfl⟩) dX10_isPlace_15
  refine sb_if_lt (tgt := 14) hx hb rfl dX10_isPlace_1 (by decide) (fun c_1_0 => ?_) (fun c_1_0 => ?_)
  · exact hj_14_2  _ _ _  hw (lv_sub hl [0] rfl)
  · refine lv_iload_n hx hb dX10_isPlace_4 rfl (lv_at hl 0 rfl) ?_
    refine lv_bipush (v := 8) hx hb dX10_isPlace_5 (by decide) ?_
    refine sb_icmp_ge (tgt := 14) hx hb rfl (by decide : (8 : Int32).toInt = 8) dX10_isPlace_7 (by decide) (fun c_7_1 => ?_) (fun c_7_1 => ?_)
    · exact hj_14_2  _ _ _  hw (lv_sub hl [0] rfl)
    · refine lv_iconst (v := 1) hx hb dX10_isPlace_10 (by decide) ?_
      refine lv_goto (tgt := 15) hx hb dX10_isPlace_11 (by decide) ?_
      exact hQ _ _ _ _ _ _ hw rfl (⟨rfl, Or.inl ⟨rfl, by omega, by omega⟩⟩) dX10_isPlace_15
set_option maxHeartbeats 4000000 in
set_option maxRecDepth 100000 in
theorem s_X10_isPower (l : Launch) (D : va_G) (A : Nat → Nat → Nat) (cy : Nat → ClassId) (hJ : ti_inj ti_LM A) (M : ti_M) (hI : mI Tm M)  (a : Int32) : ti_Ki l yX10_isPower cX10_isPower 1 (some .boolean) 0 ti_LM D A cy M [.int a] (fun r M2 => M2 = M ∧ ((r = 1 ∧ 0 ≤ a.toInt ∧ a.toInt ≤ 2) ∨ r = 0)) := by
  refine ti_eI yp_X10_isPower hJ ti_LM_nd (Nat.le_of_ble_eq_true rfl) ?_
  intro p e s m args below meth c Q H0 C hQ hw ls hl
  have hx := C.1
  have hb := C.2.1
  have hl : lv_has ls 1 [(0, .int a)] := hl
  refine lv_iload_n hx hb dX10_isPower_0 rfl (lv_at hl 0 rfl) ?_
  have hj_13_2 : ∀  (H : Heap) (locs : List Loc) (ls : Array Slot), ti_H ti_LM D A cy H0 M H locs → lv_has ls 1 [(0, .int a)] → W p l e (ti_rm 0) s m args below meth c H locs 0 0 Q (F0 m 13 ls []) := by
    intro  H locs ls  hw hl
    refine lv_iconst (v := 0) hx hb dX10_isPower_13 (by decide) ?_
    exact hQ _ _ _ _ _ _ hw rfl (⟨rfl, Or.inr rfl⟩) dX10_isPower_14
  refine sb_if_lt (tgt := 13) hx hb rfl dX10_isPower_1 (by decide) (fun c_1_0 => ?_) (fun c_1_0 => ?_)
  · exact hj_13_2  _ _ _  hw (lv_sub hl [0] rfl)
  · refine lv_iload_n hx hb dX10_isPower_4 rfl (lv_at hl 0 rfl) ?_
    refine lv_iconst (v := 3) hx hb dX10_isPower_5 (by decide) ?_
    refine sb_icmp_ge (tgt := 13) hx hb rfl (by decide : (3 : Int32).toInt = 3) dX10_isPower_6 (by decide) (fun c_6_1 => ?_) (fun c_6_1 => ?_)
    · exact hj_13_2  _ _ _  hw (lv_sub hl [0] rfl)
    · refine lv_iconst (v := 1) hx hb dX10_isPower_9 (by decide) ?_
      refine lv_goto (tgt := 14) hx hb dX10_isPower_10 (by decide) ?_
      exact hQ _ _ _ _ _ _ hw rfl (⟨rfl, Or.inl ⟨rfl, by omega, by omega⟩⟩) dX10_isPower_14
set_option maxHeartbeats 4000000 in
set_option maxRecDepth 100000 in
theorem s_X10_isMan (l : Launch) (D : va_G) (A : Nat → Nat → Nat) (cy : Nat → ClassId) (hJ : ti_inj ti_LM A) (M : ti_M) (hI : mI Tm M)  (a : Int32) : ti_Ki l yX10_isMan cX10_isMan 2 (some .boolean) 0 ti_LM D A cy M [.ref (A 60 0), .int a] (fun r M2 => M2 = M ∧ ((r = 1 ∧ 0 ≤ a.toInt ∧ a.toInt ≤ 7 ∧ a.toInt < (tY M 60 3 0).toInt) ∨ r = 0)) := by
  refine ti_eI yp_X10_isMan hJ ti_LM_nd (Nat.le_of_ble_eq_true rfl) ?_
  intro p e s m args below meth c Q H0 C hQ hw ls hl
  have hx := C.1
  have hb := C.2.1
  have hl : lv_has ls 2 [(0, .ref (A 60 0)), (1, .int a)] := hl
  refine lv_iload_n hx hb dX10_isMan_0 rfl (lv_at hl 1 rfl) ?_
  have hj_18_3 : ∀  (H : Heap) (locs : List Loc) (ls : Array Slot), ti_H ti_LM D A cy H0 M H locs → lv_has ls 2 [(0, .ref (A 60 0)), (1, .int a)] → W p l e (ti_rm 0) s m args below meth c H locs 0 0 Q (F0 m 18 ls []) := by
    intro  H locs ls  hw hl
    refine lv_iconst (v := 0) hx hb dX10_isMan_18 (by decide) ?_
    exact hQ _ _ _ _ _ _ hw rfl (⟨rfl, Or.inr rfl⟩) dX10_isMan_19
  refine sb_if_lt (tgt := 18) hx hb rfl dX10_isMan_1 (by decide) (fun c_1_0 => ?_) (fun c_1_0 => ?_)
  · exact hj_18_3  _ _ _  hw (lv_sub hl [0, 1] rfl)
  · refine lv_iload_n hx hb dX10_isMan_4 rfl (lv_at hl 1 rfl) ?_
    refine lv_aload_n hx hb dX10_isMan_5 rfl (lv_at hl 0 rfl) ?_
    refine ti_get (ci := 10) (k := 3) (N := 67) (T := TX10) (v := .ref (A 60 4)) C hw iw_10 rfl ob_60 (by decide) (by decide) fl_X10_13 rfl rfl dX10_isMan_6 ?_
    refine lv_iconst (v := 0) hx hb dX10_isMan_9 (by decide) ?_
    refine ti_iald (ci := 10) (k := 3) (n := 22) C hw ob_60 (by decide) (fun _ _ => rfl) (by unfold vp_in; decide) dX10_isMan_10 ?_
    refine lv_topi (fun x_2 ex_2 => ?_)
    have yx_2 : tY M 60 3 0 = x_2 := ((congrArg _ (by decide)).symm.trans ex_2.symm)
    have bx_2 : 0 ≤ x_2.toInt ∧ x_2.toInt ≤ 8 := mI_rn (i := 0) hI yx_2.symm (fun _ h => h)
    have zx_2 : (tY M 60 3 0).toInt = x_2.toInt := by rw [yx_2]
    refine sb_icmp_ge (tgt := 18) hx hb rfl rfl dX10_isMan_11 (by decide) (fun c_11_2 => ?_) (fun c_11_2 => ?_)
    · exact hj_18_3  _ _ _  hw (lv_sub hl [0, 1] rfl)
    · refine lv_iconst (v := 1) hx hb dX10_isMan_14 (by decide) ?_
      refine lv_goto (tgt := 19) hx hb dX10_isMan_15 (by decide) ?_
      exact hQ _ _ _ _ _ _ hw rfl (⟨rfl, Or.inl ⟨rfl, by omega, by omega, by rw [(yx_2)]; omega⟩⟩) dX10_isMan_19
set_option maxHeartbeats 4000000 in
set_option maxRecDepth 100000 in
theorem s_X10_isIn (l : Launch) (D : va_G) (A : Nat → Nat → Nat) (cy : Nat → ClassId) (hJ : ti_inj ti_LM A) (M : ti_M) (hI : mI Tm M)  (a : Int32) : ti_Ki l yX10_isIn cX10_isIn 2 (some .boolean) 1 ti_LM D A cy M [.ref (A 60 0), .int a] (fun r M2 => M2 = M ∧ ((r = 1 ∧ 0 ≤ a.toInt ∧ a.toInt ≤ 7 ∧ a.toInt < (tY M 60 3 0).toInt ∧ (tY M 60 40 a.toNatClampNeg).toInt = 1) ∨ r = 0)) := by
  refine ti_eI yp_X10_isIn hJ ti_LM_nd (Nat.le_of_ble_eq_true rfl) ?_
  intro p e s m args below meth c Q H0 C hQ hw ls hl
  have hx := C.1
  have hb := C.2.1
  have hl : lv_has ls 2 [(0, .ref (A 60 0)), (1, .int a)] := hl
  refine lv_aload_n hx hb dX10_isIn_0 rfl (lv_at hl 0 rfl) ?_
  refine lv_iload_n hx hb dX10_isIn_1 rfl (lv_at hl 1 rfl) ?_
  refine ti_callVi (ci := 10) (av := [.int a]) C hw (s_X10_isMan l D A cy hJ M hI a) ⟨ml_X10_356, ym_X10_isMan, yv_X10_isMan, yi_X10_isMan, yc_X10_isMan⟩ yd_X10_isMan ob_60 (by decide) rfl rfl hl.1 (Nat.le_of_ble_eq_true rfl) ⟨by decide, by decide⟩ ⟨Nat.zero_le _, Nat.zero_le _⟩ dX10_isIn_2 (fun r_1 M_2 H locs hp_2 hw => ?_)
  obtain ⟨hm, hz⟩ := hp_2
  have hw := hw.to hm
  have hj_22_7 : ∀  (H : Heap) (locs : List Loc) (ls : Array Slot), ti_H ti_LM D A cy H0 M H locs → lv_has ls 2 [(0, .ref (A 60 0)), (1, .int a)] → W p l e (ti_rm 1) s m args below meth c H locs 0 0 Q (F0 m 22 ls []) := by
    intro  H locs ls  hw hl
    refine lv_iconst (v := 0) hx hb dX10_isIn_22 (by decide) ?_
    exact hQ _ _ _ _ _ _ hw rfl (⟨rfl, Or.inr rfl⟩) dX10_isIn_23
  rcases hz with ⟨rfl, d0_3, d1_3, d2_3⟩ | rfl
  · refine sb_if_eq (tgt := 22) hx hb (by decide : (1 : Int32).toInt = 1) dX10_isIn_5 (by decide) (fun h => absurd h (by decide)) (fun c_5_3 => ?_)
    refine lv_aload_n hx hb dX10_isIn_8 rfl (lv_at hl 0 rfl) ?_
    refine ti_get (ci := 10) (k := 40) (N := 67) (T := TX10) (v := .ref (A 60 41)) C hw iw_10 rfl ob_60 (by decide) (by decide) fl_X10_87 rfl rfl dX10_isIn_9 ?_
    refine lv_iload_n hx hb dX10_isIn_12 rfl (lv_at hl 1 rfl) ?_
    refine ti_iald (ci := 10) (k := 40) (n := 184) C hw ob_60 (by decide) (fun _ _ => rfl) (vp_in_iff.mpr (by omega)) dX10_isIn_13 ?_
    refine lv_topi (fun x_6 ex_6 => ?_)
    have yx_6 : tY M 60 40 a.toNatClampNeg = x_6 := (ex_6.symm)
    have zx_6 : (tY M 60 40 a.toNatClampNeg).toInt = x_6.toInt := by rw [yx_6]
    refine lv_iconst (v := 1) hx hb dX10_isIn_14 (by decide) ?_
    refine sb_icmp_ne (tgt := 22) hx hb rfl (by decide : (1 : Int32).toInt = 1) dX10_isIn_15 (by decide) (fun c_15_6 => ?_) (fun c_15_6 => ?_)
    · exact hj_22_7  _ _ _  hw (lv_sub hl [0, 1] rfl)
    · refine lv_iconst (v := 1) hx hb dX10_isIn_18 (by decide) ?_
      refine lv_goto (tgt := 23) hx hb dX10_isIn_19 (by decide) ?_
      exact hQ _ _ _ _ _ _ hw rfl (⟨rfl, Or.inl ⟨rfl, by omega, by omega, by omega, by rw [(yx_6)]; omega⟩⟩) dX10_isIn_23
  · refine sb_if_eq (tgt := 22) hx hb (by decide : (0 : Int32).toInt = 0) dX10_isIn_5 (by decide) (fun c_5_4 => ?_) (fun h => absurd h (by decide))
    exact hj_22_7  _ _ _  hw (lv_sub hl [0, 1] rfl)
set_option maxHeartbeats 4000000 in
set_option maxRecDepth 100000 in
theorem s_X10_isToCome (l : Launch) (D : va_G) (A : Nat → Nat → Nat) (cy : Nat → ClassId) (hJ : ti_inj ti_LM A) (M : ti_M) (hI : mI Tm M)  (a : Int32) : ti_Ki l yX10_isToCome cX10_isToCome 2 (some .boolean) 1 ti_LM D A cy M [.ref (A 60 0), .int a] (fun r M2 => M2 = M ∧ ((r = 1 ∧ 0 ≤ a.toInt ∧ a.toInt ≤ 7 ∧ a.toInt < (tY M 60 3 0).toInt ∧ (tY M 60 40 a.toNatClampNeg).toInt = 0) ∨ r = 0)) := by
  refine ti_eI yp_X10_isToCome hJ ti_LM_nd (Nat.le_of_ble_eq_true rfl) ?_
  intro p e s m args below meth c Q H0 C hQ hw ls hl
  have hx := C.1
  have hb := C.2.1
  have hl : lv_has ls 2 [(0, .ref (A 60 0)), (1, .int a)] := hl
  refine lv_aload_n hx hb dX10_isToCome_0 rfl (lv_at hl 0 rfl) ?_
  refine lv_iload_n hx hb dX10_isToCome_1 rfl (lv_at hl 1 rfl) ?_
  refine ti_callVi (ci := 10) (av := [.int a]) C hw (s_X10_isMan l D A cy hJ M hI a) ⟨ml_X10_356, ym_X10_isMan, yv_X10_isMan, yi_X10_isMan, yc_X10_isMan⟩ yd_X10_isMan ob_60 (by decide) rfl rfl hl.1 (Nat.le_of_ble_eq_true rfl) ⟨by decide, by decide⟩ ⟨Nat.zero_le _, Nat.zero_le _⟩ dX10_isToCome_2 (fun r_1 M_2 H locs hp_2 hw => ?_)
  obtain ⟨hm, hz⟩ := hp_2
  have hw := hw.to hm
  have hj_21_7 : ∀  (H : Heap) (locs : List Loc) (ls : Array Slot), ti_H ti_LM D A cy H0 M H locs → lv_has ls 2 [(0, .ref (A 60 0)), (1, .int a)] → W p l e (ti_rm 1) s m args below meth c H locs 0 0 Q (F0 m 21 ls []) := by
    intro  H locs ls  hw hl
    refine lv_iconst (v := 0) hx hb dX10_isToCome_21 (by decide) ?_
    exact hQ _ _ _ _ _ _ hw rfl (⟨rfl, Or.inr rfl⟩) dX10_isToCome_22
  rcases hz with ⟨rfl, d0_3, d1_3, d2_3⟩ | rfl
  · refine sb_if_eq (tgt := 21) hx hb (by decide : (1 : Int32).toInt = 1) dX10_isToCome_5 (by decide) (fun h => absurd h (by decide)) (fun c_5_3 => ?_)
    refine lv_aload_n hx hb dX10_isToCome_8 rfl (lv_at hl 0 rfl) ?_
    refine ti_get (ci := 10) (k := 40) (N := 67) (T := TX10) (v := .ref (A 60 41)) C hw iw_10 rfl ob_60 (by decide) (by decide) fl_X10_87 rfl rfl dX10_isToCome_9 ?_
    refine lv_iload_n hx hb dX10_isToCome_12 rfl (lv_at hl 1 rfl) ?_
    refine ti_iald (ci := 10) (k := 40) (n := 184) C hw ob_60 (by decide) (fun _ _ => rfl) (vp_in_iff.mpr (by omega)) dX10_isToCome_13 ?_
    refine lv_topi (fun x_6 ex_6 => ?_)
    have yx_6 : tY M 60 40 a.toNatClampNeg = x_6 := (ex_6.symm)
    have zx_6 : (tY M 60 40 a.toNatClampNeg).toInt = x_6.toInt := by rw [yx_6]
    refine sb_if_ne (tgt := 21) hx hb rfl dX10_isToCome_14 (by decide) (fun c_14_6 => ?_) (fun c_14_6 => ?_)
    · exact hj_21_7  _ _ _  hw (lv_sub hl [0, 1] rfl)
    · refine lv_iconst (v := 1) hx hb dX10_isToCome_17 (by decide) ?_
      refine lv_goto (tgt := 22) hx hb dX10_isToCome_18 (by decide) ?_
      exact hQ _ _ _ _ _ _ hw rfl (⟨rfl, Or.inl ⟨rfl, by omega, by omega, by omega, by rw [(yx_6)]; omega⟩⟩) dX10_isToCome_22
  · refine sb_if_eq (tgt := 21) hx hb (by decide : (0 : Int32).toInt = 0) dX10_isToCome_5 (by decide) (fun c_5_4 => ?_) (fun h => absurd h (by decide))
    exact hj_21_7  _ _ _  hw (lv_sub hl [0, 1] rfl)
set_option maxHeartbeats 4000000 in
set_option maxRecDepth 100000 in
theorem s_X10_isGone (l : Launch) (D : va_G) (A : Nat → Nat → Nat) (cy : Nat → ClassId) (hJ : ti_inj ti_LM A) (M : ti_M) (hI : mI Tm M)  (a : Int32) : ti_Ki l yX10_isGone cX10_isGone 2 (some .boolean) 0 ti_LM D A cy M [.ref (A 60 0), .int a] (fun r M2 => M2 = M ∧ ((r = 1 ∧ 0 ≤ a.toInt ∧ a.toInt ≤ 119) ∨ r = 0)) := by
  refine ti_eI yp_X10_isGone hJ ti_LM_nd (Nat.le_of_ble_eq_true rfl) ?_
  intro p e s m args below meth c Q H0 C hQ hw ls hl
  have hx := C.1
  have hb := C.2.1
  have hl : lv_has ls 2 [(0, .ref (A 60 0)), (1, .int a)] := hl
  refine lv_iload_n hx hb dX10_isGone_0 rfl (lv_at hl 1 rfl) ?_
  have hj_18_3 : ∀  (H : Heap) (locs : List Loc) (ls : Array Slot), ti_H ti_LM D A cy H0 M H locs → lv_has ls 2 [(0, .ref (A 60 0)), (1, .int a)] → W p l e (ti_rm 0) s m args below meth c H locs 0 0 Q (F0 m 18 ls []) := by
    intro  H locs ls  hw hl
    refine lv_iconst (v := 0) hx hb dX10_isGone_18 (by decide) ?_
    exact hQ _ _ _ _ _ _ hw rfl (⟨rfl, Or.inr rfl⟩) dX10_isGone_19
  refine sb_if_lt (tgt := 18) hx hb rfl dX10_isGone_1 (by decide) (fun c_1_0 => ?_) (fun c_1_0 => ?_)
  · exact hj_18_3  _ _ _  hw (lv_sub hl [0, 1] rfl)
  · refine lv_iload_n hx hb dX10_isGone_4 rfl (lv_at hl 1 rfl) ?_
    refine lv_aload_n hx hb dX10_isGone_5 rfl (lv_at hl 0 rfl) ?_
    refine ti_get (ci := 10) (k := 34) (N := 67) (T := TX10) (v := .ref (A 60 35)) C hw iw_10 rfl ob_60 (by decide) (by decide) fl_X10_69 rfl rfl dX10_isGone_6 ?_
    refine lv_iconst (v := 0) hx hb dX10_isGone_9 (by decide) ?_
    refine ti_iald (ci := 10) (k := 34) (n := 23) C hw ob_60 (by decide) (fun _ _ => rfl) (by unfold vp_in; decide) dX10_isGone_10 ?_
    refine lv_topi (fun x_2 ex_2 => ?_)
    have yx_2 : tY M 60 34 0 = x_2 := ((congrArg _ (by decide)).symm.trans ex_2.symm)
    have bx_2 : 0 ≤ x_2.toInt ∧ x_2.toInt ≤ 120 := mI_ry (k := 34) (i := 0) hI yx_2.symm (by decide)
    have zx_2 : (tY M 60 34 0).toInt = x_2.toInt := by rw [yx_2]
    refine sb_icmp_ge (tgt := 18) hx hb rfl rfl dX10_isGone_11 (by decide) (fun c_11_2 => ?_) (fun c_11_2 => ?_)
    · exact hj_18_3  _ _ _  hw (lv_sub hl [0, 1] rfl)
    · refine lv_iconst (v := 1) hx hb dX10_isGone_14 (by decide) ?_
      refine lv_goto (tgt := 19) hx hb dX10_isGone_15 (by decide) ?_
      exact hQ _ _ _ _ _ _ hw rfl (⟨rfl, Or.inl ⟨rfl, by omega, by omega⟩⟩) dX10_isGone_19
set_option maxHeartbeats 4000000 in
set_option maxRecDepth 100000 in
theorem s_X10_minutesLeft (l : Launch) (D : va_G) (A : Nat → Nat → Nat) (cy : Nat → ClassId) (hJ : ti_inj ti_LM A) (M : ti_M) (hI : mI Tm M)  : ti_Ki l yX10_minutesLeft cX10_minutesLeft 1 (some .int) 0 ti_LM D A cy M [.ref (A 60 0)] (fun r M2 => M2 = M ∧ 0 ≤ r.toInt ∧ r.toInt ≤ 120 ∧ r.toInt = 120 - (tY M 60 34 0).toInt) := by
  refine ti_eI yp_X10_minutesLeft hJ ti_LM_nd (Nat.le_of_ble_eq_true rfl) ?_
  intro p e s m args below meth c Q H0 C hQ hw ls hl
  have hx := C.1
  have hb := C.2.1
  have hl : lv_has ls 1 [(0, .ref (A 60 0))] := hl
  refine lv_bipush (v := 120) hx hb dX10_minutesLeft_0 (by decide) ?_
  refine lv_aload_n hx hb dX10_minutesLeft_2 rfl (lv_at hl 0 rfl) ?_
  refine ti_get (ci := 10) (k := 34) (N := 67) (T := TX10) (v := .ref (A 60 35)) C hw iw_10 rfl ob_60 (by decide) (by decide) fl_X10_69 rfl rfl dX10_minutesLeft_3 ?_
  refine lv_iconst (v := 0) hx hb dX10_minutesLeft_6 (by decide) ?_
  refine ti_iald (ci := 10) (k := 34) (n := 23) C hw ob_60 (by decide) (fun _ _ => rfl) (by unfold vp_in; decide) dX10_minutesLeft_7 ?_
  refine lv_topi (fun x_1 ex_1 => ?_)
  have yx_1 : tY M 60 34 0 = x_1 := ((congrArg _ (by decide)).symm.trans ex_1.symm)
  have bx_1 : 0 ≤ x_1.toInt ∧ x_1.toInt ≤ 120 := mI_ry (k := 34) (i := 0) hI yx_1.symm (by decide)
  have zx_1 : (tY M 60 34 0).toInt = x_1.toInt := by rw [yx_1]
  refine lv_isub hx hb dX10_minutesLeft_8 ?_
  refine lv_topi (fun x_2 ex_2 => ?_)
  have tx_2 : x_2.toInt = 120 - x_1.toInt := i_sub ex_2 (by decide : (120 : Int32).toInt = 120) rfl (by omega) (by omega)
  exact hQ _ _ _ _ _ _ hw rfl (⟨rfl, by omega, by omega, by rw [(yx_1)]; omega⟩) dX10_minutesLeft_9
set_option maxHeartbeats 4000000 in
set_option maxRecDepth 100000 in
theorem s_X10_isLong (l : Launch) (D : va_G) (A : Nat → Nat → Nat) (cy : Nat → ClassId) (hJ : ti_inj ti_LM A) (M : ti_M) (hI : mI Tm M)  (a : Int32) : ti_Ki l yX10_isLong cX10_isLong 2 (some .boolean) 1 ti_LM D A cy M [.ref (A 60 0), .int a] (fun r M2 => M2 = M ∧ ((r = 1 ∧ 1 ≤ a.toInt ∧ a.toInt ≤ 60) ∨ r = 0)) := by
  refine ti_eI yp_X10_isLong hJ ti_LM_nd (Nat.le_of_ble_eq_true rfl) ?_
  intro p e s m args below meth c Q H0 C hQ hw ls hl
  have hx := C.1
  have hb := C.2.1
  have hl : lv_has ls 2 [(0, .ref (A 60 0)), (1, .int a)] := hl
  refine lv_iload_n hx hb dX10_isLong_0 rfl (lv_at hl 1 rfl) ?_
  refine lv_iconst (v := 1) hx hb dX10_isLong_1 (by decide) ?_
  have hj_23_5 : ∀  (H : Heap) (locs : List Loc) (ls : Array Slot), ti_H ti_LM D A cy H0 M H locs → lv_has ls 2 [(0, .ref (A 60 0)), (1, .int a)] → W p l e (ti_rm 1) s m args below meth c H locs 0 0 Q (F0 m 23 ls []) := by
    intro  H locs ls  hw hl
    refine lv_iconst (v := 0) hx hb dX10_isLong_23 (by decide) ?_
    exact hQ _ _ _ _ _ _ hw rfl (⟨rfl, Or.inr rfl⟩) dX10_isLong_24
  refine sb_icmp_lt (tgt := 23) hx hb rfl (by decide : (1 : Int32).toInt = 1) dX10_isLong_2 (by decide) (fun c_2_0 => ?_) (fun c_2_0 => ?_)
  · exact hj_23_5  _ _ _  hw (lv_sub hl [0, 1] rfl)
  · refine lv_iload_n hx hb dX10_isLong_5 rfl (lv_at hl 1 rfl) ?_
    refine lv_bipush (v := 60) hx hb dX10_isLong_6 (by decide) ?_
    refine sb_icmp_gt (tgt := 23) hx hb rfl (by decide : (60 : Int32).toInt = 60) dX10_isLong_8 (by decide) (fun c_8_1 => ?_) (fun c_8_1 => ?_)
    · exact hj_23_5  _ _ _  hw (lv_sub hl [0, 1] rfl)
    · refine lv_iload_n hx hb dX10_isLong_11 rfl (lv_at hl 1 rfl) ?_
      refine lv_aload_n hx hb dX10_isLong_12 rfl (lv_at hl 0 rfl) ?_
      refine ti_callVi (ci := 10) (av := []) C hw (s_X10_minutesLeft l D A cy hJ M hI ) ⟨ml_X10_430, ym_X10_minutesLeft, yv_X10_minutesLeft, yi_X10_minutesLeft, yc_X10_minutesLeft⟩ yd_X10_minutesLeft ob_60 (by decide) rfl rfl hl.1 (Nat.le_of_ble_eq_true rfl) ⟨by decide, by decide⟩ ⟨Nat.zero_le _, Nat.zero_le _⟩ dX10_isLong_13 (fun r_3 M_4 H locs hp_4 hw => ?_)
      obtain ⟨hm, b0r_3, b1r_3, p0r_3⟩ := hp_4
      have hw := hw.to hm
      refine sb_icmp_gt (tgt := 23) hx hb rfl rfl dX10_isLong_16 (by decide) (fun c_16_4 => ?_) (fun c_16_4 => ?_)
      · exact hj_23_5  _ _ _  hw (lv_sub hl [0, 1] rfl)
      · refine lv_iconst (v := 1) hx hb dX10_isLong_19 (by decide) ?_
        refine lv_goto (tgt := 24) hx hb dX10_isLong_20 (by decide) ?_
        exact hQ _ _ _ _ _ _ hw rfl (⟨rfl, Or.inl ⟨rfl, by omega, by omega⟩⟩) dX10_isLong_24
set_option maxHeartbeats 4000000 in
set_option maxRecDepth 100000 in
theorem s_X10_isGame (l : Launch) (D : va_G) (A : Nat → Nat → Nat) (cy : Nat → ClassId) (hJ : ti_inj ti_LM A) (M : ti_M) (hI : mI Tm M)  (a : Int32) (b : Int32) (n : Int32) : ti_Ki l yX10_isGame cX10_isGame 4 (some .boolean) 2 ti_LM D A cy M [.ref (A 60 0), .int a, .int b, .int n] (fun r M2 => M2 = M ∧ ((r = 1 ∧ 0 ≤ a.toInt ∧ a.toInt ≤ 7 ∧ 0 ≤ b.toInt ∧ b.toInt ≤ 7 ∧ (tY M 60 34 0).toInt ≤ 59 ∧ 1 ≤ n.toInt ∧ n.toInt ≤ 60) ∨ r = 0)) := by
  refine ti_eI yp_X10_isGame hJ ti_LM_nd (Nat.le_of_ble_eq_true rfl) ?_
  intro p e s m args below meth c Q H0 C hQ hw ls hl
  have hx := C.1
  have hb := C.2.1
  have hl : lv_has ls 4 [(0, .ref (A 60 0)), (1, .int a), (2, .int b), (3, .int n)] := hl
  refine lv_aload_n hx hb dX10_isGame_0 rfl (lv_at hl 0 rfl) ?_
  refine lv_iload_n hx hb dX10_isGame_1 rfl (lv_at hl 1 rfl) ?_
  refine ti_callVi (ci := 10) (av := [.int a]) C hw (s_X10_isToCome l D A cy hJ M hI a) ⟨ml_X10_433, ym_X10_isToCome, yv_X10_isToCome, yi_X10_isToCome, yc_X10_isToCome⟩ yd_X10_isToCome ob_60 (by decide) rfl rfl hl.1 (Nat.le_of_ble_eq_true rfl) ⟨by decide, by decide⟩ ⟨Nat.zero_le _, Nat.zero_le _⟩ dX10_isGame_2 (fun r_1 M_2 H locs hp_2 hw => ?_)
  obtain ⟨hm, hz⟩ := hp_2
  have hw := hw.to hm
  have hj_44_18 : ∀  (H : Heap) (locs : List Loc) (ls : Array Slot), ti_H ti_LM D A cy H0 M H locs → lv_has ls 4 [(0, .ref (A 60 0)), (1, .int a), (2, .int b), (3, .int n)] → W p l e (ti_rm 2) s m args below meth c H locs 0 0 Q (F0 m 44 ls []) := by
    intro  H locs ls  hw hl
    refine lv_iconst (v := 0) hx hb dX10_isGame_44 (by decide) ?_
    exact hQ _ _ _ _ _ _ hw rfl (⟨rfl, Or.inr rfl⟩) dX10_isGame_45
  rcases hz with ⟨rfl, d0_3, d1_3, d2_3, d3_3⟩ | rfl
  · refine sb_if_eq (tgt := 44) hx hb (by decide : (1 : Int32).toInt = 1) dX10_isGame_5 (by decide) (fun h => absurd h (by decide)) (fun c_5_3 => ?_)
    refine lv_aload_n hx hb dX10_isGame_8 rfl (lv_at hl 0 rfl) ?_
    refine lv_iload_n hx hb dX10_isGame_9 rfl (lv_at hl 2 rfl) ?_
    refine ti_callVi (ci := 10) (av := [.int b]) C hw (s_X10_isToCome l D A cy hJ M hI b) ⟨ml_X10_433, ym_X10_isToCome, yv_X10_isToCome, yi_X10_isToCome, yc_X10_isToCome⟩ yd_X10_isToCome ob_60 (by decide) rfl rfl hl.1 (Nat.le_of_ble_eq_true rfl) ⟨by decide, by decide⟩ ⟨Nat.zero_le _, Nat.zero_le _⟩ dX10_isGame_10 (fun r_6 M_7 H locs hp_7 hw => ?_)
    obtain ⟨hm, hz⟩ := hp_7
    have hw := hw.to hm
    rcases hz with ⟨rfl, d0_8, d1_8, d2_8, d3_8⟩ | rfl
    · refine sb_if_eq (tgt := 44) hx hb (by decide : (1 : Int32).toInt = 1) dX10_isGame_13 (by decide) (fun h => absurd h (by decide)) (fun c_13_8 => ?_)
      refine lv_iload_n hx hb dX10_isGame_16 rfl (lv_at hl 1 rfl) ?_
      refine lv_iload_n hx hb dX10_isGame_17 rfl (lv_at hl 2 rfl) ?_
      refine sb_icmp_eq (tgt := 44) hx hb rfl rfl dX10_isGame_18 (by decide) (fun c_18_10 => ?_) (fun c_18_10 => ?_)
      · exact hj_44_18  _ _ _  hw (lv_sub hl [0, 1, 2, 3] rfl)
      · refine lv_aload_n hx hb dX10_isGame_21 rfl (lv_at hl 0 rfl) ?_
        refine ti_get (ci := 10) (k := 34) (N := 67) (T := TX10) (v := .ref (A 60 35)) C hw iw_10 rfl ob_60 (by decide) (by decide) fl_X10_69 rfl rfl dX10_isGame_22 ?_
        refine lv_iconst (v := 0) hx hb dX10_isGame_25 (by decide) ?_
        refine ti_iald (ci := 10) (k := 34) (n := 23) C hw ob_60 (by decide) (fun _ _ => rfl) (by unfold vp_in; decide) dX10_isGame_26 ?_
        refine lv_topi (fun x_12 ex_12 => ?_)
        have yx_12 : tY M 60 34 0 = x_12 := ((congrArg _ (by decide)).symm.trans ex_12.symm)
        have bx_12 : 0 ≤ x_12.toInt ∧ x_12.toInt ≤ 120 := mI_ry (k := 34) (i := 0) hI yx_12.symm (by decide)
        have zx_12 : (tY M 60 34 0).toInt = x_12.toInt := by rw [yx_12]
        refine lv_bipush (v := 59) hx hb dX10_isGame_27 (by decide) ?_
        refine sb_icmp_gt (tgt := 44) hx hb rfl (by decide : (59 : Int32).toInt = 59) dX10_isGame_29 (by decide) (fun c_29_12 => ?_) (fun c_29_12 => ?_)
        · exact hj_44_18  _ _ _  hw (lv_sub hl [0, 1, 2, 3] rfl)
        · refine lv_aload_n hx hb dX10_isGame_32 rfl (lv_at hl 0 rfl) ?_
          refine lv_iload_n hx hb dX10_isGame_33 rfl (lv_at hl 3 rfl) ?_
          refine ti_callVi (ci := 10) (av := [.int n]) C hw (s_X10_isLong l D A cy hJ M hI n) ⟨ml_X10_461, ym_X10_isLong, yv_X10_isLong, yi_X10_isLong, yc_X10_isLong⟩ yd_X10_isLong ob_60 (by decide) rfl rfl hl.1 (Nat.le_of_ble_eq_true rfl) ⟨by decide, by decide⟩ ⟨Nat.zero_le _, Nat.zero_le _⟩ dX10_isGame_34 (fun r_14 M_15 H locs hp_15 hw => ?_)
          obtain ⟨hm, hz⟩ := hp_15
          have hw := hw.to hm
          rcases hz with ⟨rfl, d0_16, d1_16⟩ | rfl
          · refine sb_if_eq (tgt := 44) hx hb (by decide : (1 : Int32).toInt = 1) dX10_isGame_37 (by decide) (fun h => absurd h (by decide)) (fun c_37_16 => ?_)
            refine lv_iconst (v := 1) hx hb dX10_isGame_40 (by decide) ?_
            refine lv_goto (tgt := 45) hx hb dX10_isGame_41 (by decide) ?_
            exact hQ _ _ _ _ _ _ hw rfl (⟨rfl, Or.inl ⟨rfl, by omega, by omega, by omega, by omega, by rw [(yx_12)]; omega, by omega, by omega⟩⟩) dX10_isGame_45
          · refine sb_if_eq (tgt := 44) hx hb (by decide : (0 : Int32).toInt = 0) dX10_isGame_37 (by decide) (fun c_37_17 => ?_) (fun h => absurd h (by decide))
            exact hj_44_18  _ _ _  hw (lv_sub hl [0, 1, 2, 3] rfl)
    · refine sb_if_eq (tgt := 44) hx hb (by decide : (0 : Int32).toInt = 0) dX10_isGame_13 (by decide) (fun c_13_9 => ?_) (fun h => absurd h (by decide))
      exact hj_44_18  _ _ _  hw (lv_sub hl [0, 1, 2, 3] rfl)
  · refine sb_if_eq (tgt := 44) hx hb (by decide : (0 : Int32).toInt = 0) dX10_isGame_5 (by decide) (fun c_5_4 => ?_) (fun h => absurd h (by decide))
    exact hj_44_18  _ _ _  hw (lv_sub hl [0, 1, 2, 3] rfl)
set_option maxHeartbeats 4000000 in
set_option maxRecDepth 100000 in
theorem s_X10_bitsOf (l : Launch) (D : va_G) (A : Nat → Nat → Nat) (cy : Nat → ClassId) (hJ : ti_inj ti_LM A) (M : ti_M) (hI : mI Tm M)  (a : Int32) : ti_Ki l yX10_bitsOf cX10_bitsOf 3 (some .int) 0 ti_LM D A cy M [.int a] (fun r M2 => M2 = M) := by
  refine ti_eI yp_X10_bitsOf hJ ti_LM_nd (Nat.le_of_ble_eq_true rfl) ?_
  intro p e s m args below meth c Q H0 C hQ hw ls hl
  have hx := C.1
  have hb := C.2.1
  have hl : lv_has ls 3 [(0, .int a)] := hl
  refine lv_iconst (v := 0) hx hb dX10_bitsOf_0 (by decide) ?_
  refine lv_istore_n (lv' := [(1, .int 0), (0, .int a)]) hx hb dX10_bitsOf_1 rfl hl (by decide) rfl (fun ls hl => ?_)
  refine lv_iconst (v := 0) hx hb dX10_bitsOf_2 (by decide) ?_
  refine lv_istore_n (lv' := [(2, .int 0), (1, .int 0), (0, .int a)]) hx hb dX10_bitsOf_3 rfl hl (by decide) rfl (fun ls hl => ?_)
  have hl_4_4 : ∀ (n_5 : Nat) (x_1 : Int32) (x_4 : Int32) (H : Heap) (locs : List Loc) (ls : Array Slot), (8 - x_1.toInt : Int).toNat < n_5 → (0 ≤ x_1.toInt) → (x_1.toInt ≤ 8) → ti_H ti_LM D A cy H0 M H locs → lv_has ls 3 [(2, .int x_1), (1, .int x_4), (0, .int a)] → W p l e (ti_rm 0) s m args below meth c H locs 0 0 Q (F0 m 4 ls []) := by
    intro n_5
    induction n_5 with
    | zero => intro x_1 x_4 H locs ls hf_5; exact absurd hf_5 (Nat.not_lt_zero _)
    | succ n_5 ih_5 =>
      intro x_1 x_4 H locs ls hf_5 b_2 b_3 hw hl
      refine lv_iload_n hx hb dX10_bitsOf_4 rfl (lv_at hl 0 rfl) ?_
      refine lv_bipush (v := 8) hx hb dX10_bitsOf_5 (by decide) ?_
      refine sb_icmp_ge (tgt := 24) hx hb rfl (by decide : (8 : Int32).toInt = 8) dX10_bitsOf_7 (by decide) (fun c_7_5 => ?_) (fun c_7_5 => ?_)
      · refine lv_iload_n hx hb dX10_bitsOf_24 rfl (lv_at hl 1 rfl) ?_
        exact hQ _ _ _ _ _ _ hw rfl rfl dX10_bitsOf_25
      · refine lv_iload_n hx hb dX10_bitsOf_10 rfl (lv_at hl 1 rfl) ?_
        refine lv_iload_n hx hb dX10_bitsOf_11 rfl (lv_at hl 2 rfl) ?_
        refine lv_iload_n hx hb dX10_bitsOf_12 rfl (lv_at hl 0 rfl) ?_
        refine lv_ishr hx hb dX10_bitsOf_13 ?_
        refine lv_topi (fun x_7 ex_7 => ?_)
        refine lv_iconst (v := 1) hx hb dX10_bitsOf_14 (by decide) ?_
        refine lv_iand hx hb dX10_bitsOf_15 ?_
        refine lv_topi (fun x_8 ex_8 => ?_)
        have bx_8 := i_and 1 ex_8 (by decide) (by decide)
        refine lv_iadd hx hb dX10_bitsOf_16 ?_
        refine lv_topi (fun x_9 ex_9 => ?_)
        refine lv_istore_n (lv' := [(1, .int x_9), (2, .int x_1), (0, .int a)]) hx hb dX10_bitsOf_17 rfl hl (by decide) rfl (fun ls hl => ?_)
        obtain ⟨x_10, ex_10⟩ : ∃ z : Int32, z = x_1 + 1 := ⟨_, rfl⟩
        have tx_10 : x_10.toInt = x_1.toInt + 1 := i_add ex_10 rfl (by decide) (by omega) (by omega)
        refine lv_iinc (v := x_10) (lv' := [(2, .int x_10), (1, .int x_9), (0, .int a)]) hx hb dX10_bitsOf_18 hl (k := 1) rfl (by rw [ex_10]; rfl) (by decide) rfl (fun ls hl => ?_)
        refine lv_goto (tgt := 4) hx hb dX10_bitsOf_21 (by decide) ?_
        exact ih_5 x_10 x_9 _ _ _ (by omega) (by first | omega | decide) (by first | omega | decide) hw (lv_sub hl [0, 1, 2] rfl)
  exact hl_4_4 ((8 - 0 : Int).toNat + 1) 0 0 _ _ _ (Nat.lt_succ_self _) (by have lt0 : (0 : Int32).toInt = 0 := (by decide); first | omega | decide) (by have lt0 : (0 : Int32).toInt = 0 := (by decide); first | omega | decide) hw (lv_sub hl [0, 1, 2] rfl)
set_option maxHeartbeats 4000000 in
set_option maxRecDepth 100000 in
theorem s_X10_knownMany (l : Launch) (D : va_G) (A : Nat → Nat → Nat) (cy : Nat → ClassId) (hJ : ti_inj ti_LM A) (M : ti_M) (hI : mI Tm M)  : ti_Ki l yX10_knownMany cX10_knownMany 1 (some .int) 0 ti_LM D A cy M [.ref (A 60 0)] (fun r M2 => M2 = M ∧ 0 ≤ r.toInt ∧ r.toInt ≤ 24) := by
  refine ti_eI yp_X10_knownMany hJ ti_LM_nd (Nat.le_of_ble_eq_true rfl) ?_
  intro p e s m args below meth c Q H0 C hQ hw ls hl
  have hx := C.1
  have hb := C.2.1
  have hl : lv_has ls 1 [(0, .ref (A 60 0))] := hl
  refine lv_aload_n hx hb dX10_knownMany_0 rfl (lv_at hl 0 rfl) ?_
  refine ti_get (ci := 10) (k := 59) (N := 67) (T := TX10) C hw iw_10 rfl ob_60 (by decide) (by decide) fl_X10_132 rfl rfl dX10_knownMany_1 ?_
  refine lv_topi (fun x_1 ex_1 => ?_)
  have bx_1 : (-1) ≤ x_1.toInt ∧ x_1.toInt ≤ 24 := mI_rd hI ex_1
  have ux_1 : (tI M 60 59).toInt = x_1.toInt := by rw [ex_1]
  refine lv_iconst (v := (-1)) hx hb dX10_knownMany_4 (by decide) ?_
  refine sb_icmp_ne (tgt := 15) hx hb rfl (by decide : ((-1) : Int32).toInt = (-1)) dX10_knownMany_5 (by decide) (fun c_5_1 => ?_) (fun c_5_1 => ?_)
  · refine lv_aload_n hx hb dX10_knownMany_15 rfl (lv_at hl 0 rfl) ?_
    refine ti_get (ci := 10) (k := 59) (N := 67) (T := TX10) C hw iw_10 rfl ob_60 (by decide) (by decide) fl_X10_132 rfl rfl dX10_knownMany_16 ?_
    refine ti_top (y := x_1) (ex_1.symm) ?_
    have u_4 : (tI M 60 59).toInt = (x_1 : Int32).toInt := by rw [(ex_1.symm)]
    exact hQ _ _ _ _ _ _ hw rfl (⟨rfl, by omega, by omega⟩) dX10_knownMany_19
  · refine lv_aload_n hx hb dX10_knownMany_8 rfl (lv_at hl 0 rfl) ?_
    refine ti_get (ci := 10) (k := 58) (N := 67) (T := TX10) C hw iw_10 rfl ob_60 (by decide) (by decide) fl_X10_310 rfl rfl dX10_knownMany_9 ?_
    refine lv_topi (fun x_3 ex_3 => ?_)
    have bx_3 : 0 ≤ x_3.toInt ∧ x_3.toInt ≤ 24 := mI_rd hI ex_3
    have ux_3 : (tI M 60 58).toInt = x_3.toInt := by rw [ex_3]
    refine lv_goto (tgt := 19) hx hb dX10_knownMany_12 (by decide) ?_
    exact hQ _ _ _ _ _ _ hw rfl (⟨rfl, by omega, by omega⟩) dX10_knownMany_19
set_option maxHeartbeats 4000000 in
set_option maxRecDepth 100000 in
theorem s_X10_is (l : Launch) (D : va_G) (A : Nat → Nat → Nat) (cy : Nat → ClassId) (hJ : ti_inj ti_LM A) (M : ti_M) (hI : mI Tm M)  (a : Int32) : ti_Kl l yX10_is cX10_is 1 (some .long) 0 ti_LM D A cy M [.int a] (fun r M2 => M2 = M) := by
  refine ti_eL yp_X10_is hJ ti_LM_nd (Nat.le_of_ble_eq_true rfl) ?_
  intro p e s m args below meth c Q H0 C hQ hw ls hl
  have hx := C.1
  have hb := C.2.1
  have hl : lv_has ls 1 [(0, .int a)] := hl
  refine lv_iload_n hx hb dX10_is_0 rfl (lv_at hl 0 rfl) ?_
  refine sb_if_eq (tgt := 8) hx hb rfl dX10_is_1 (by decide) (fun c_1_0 => ?_) (fun c_1_0 => ?_)
  · refine lv_lconst (v := 0) hx hb dX10_is_8 (by decide) ?_
    exact hQ _ _ _ _ _ _ hw rfl dX10_is_9
  · refine lv_lconst (v := 1) hx hb dX10_is_4 (by decide) ?_
    refine lv_goto (tgt := 9) hx hb dX10_is_5 (by decide) ?_
    exact hQ _ _ _ _ _ _ hw rfl dX10_is_9
set_option maxHeartbeats 4000000 in
set_option maxRecDepth 100000 in
theorem s_X10_hasLaw (l : Launch) (D : va_G) (A : Nat → Nat → Nat) (cy : Nat → ClassId) (hJ : ti_inj ti_LM A) (M : ti_M) (hI : mI Tm M) (a : Int32) (h1 : 0 ≤ a.toInt) (h2 : a.toInt ≤ 2) : ti_Ki l yX10_hasLaw cX10_hasLaw 2 (some .boolean) 0 ti_LM D A cy M [.ref (A 60 0), .int a] (fun r M2 => M2 = M) := by
  refine ti_eI yp_X10_hasLaw hJ ti_LM_nd (Nat.le_of_ble_eq_true rfl) ?_
  intro p e s m args below meth c Q H0 C hQ hw ls hl
  have hx := C.1
  have hb := C.2.1
  have hl : lv_has ls 2 [(0, .ref (A 60 0)), (1, .int a)] := hl
  refine lv_aload_n hx hb dX10_hasLaw_0 rfl (lv_at hl 0 rfl) ?_
  refine ti_get (ci := 10) (k := 15) (N := 67) (T := TX10) (v := .ref (A 60 16)) C hw iw_10 rfl ob_60 (by decide) (by decide) fl_X10_49 rfl rfl dX10_hasLaw_1 ?_
  refine lv_iload_n hx hb dX10_hasLaw_4 rfl (lv_at hl 1 rfl) ?_
  refine ti_iald (ci := 10) (k := 15) (n := 6) C hw ob_60 (by decide) (fun _ _ => rfl) (vp_in_iff.mpr (by omega)) dX10_hasLaw_5 ?_
  refine lv_topi (fun x_1 ex_1 => ?_)
  have yx_1 : tY M 60 15 a.toNatClampNeg = x_1 := (ex_1.symm)
  have bx_1 : 0 ≤ x_1.toInt ∧ x_1.toInt ≤ 64 := mI_ry (k := 15) (i := a.toNatClampNeg) hI yx_1.symm
  refine lv_aload_n hx hb dX10_hasLaw_6 rfl (lv_at hl 0 rfl) ?_
  refine ti_get (ci := 10) (k := 14) (N := 67) (T := TX10) (v := .ref (A 60 15)) C hw iw_10 rfl ob_60 (by decide) (by decide) fl_X10_46 rfl rfl dX10_hasLaw_7 ?_
  refine lv_iload_n hx hb dX10_hasLaw_10 rfl (lv_at hl 1 rfl) ?_
  refine ti_iald (ci := 10) (k := 14) (n := 6) C hw ob_60 (by decide) (fun _ _ => rfl) (vp_in_iff.mpr (by omega)) dX10_hasLaw_11 ?_
  refine lv_topi (fun x_2 ex_2 => ?_)
  have yx_2 : tY M 60 14 a.toNatClampNeg = x_2 := (ex_2.symm)
  have bx_2 : 0 ≤ x_2.toInt ∧ x_2.toInt ≤ 64 := mI_ry (k := 14) (i := a.toNatClampNeg) hI yx_2.symm
  refine sb_icmp_le (tgt := 19) hx hb rfl rfl dX10_hasLaw_12 (by decide) (fun c_12_2 => ?_) (fun c_12_2 => ?_)
  · refine lv_iconst (v := 0) hx hb dX10_hasLaw_19 (by decide) ?_
    exact hQ _ _ _ _ _ _ hw rfl rfl dX10_hasLaw_20
  · refine lv_iconst (v := 1) hx hb dX10_hasLaw_15 (by decide) ?_
    refine lv_goto (tgt := 20) hx hb dX10_hasLaw_16 (by decide) ?_
    exact hQ _ _ _ _ _ _ hw rfl rfl dX10_hasLaw_20

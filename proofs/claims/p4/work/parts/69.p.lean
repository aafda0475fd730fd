variable {Tc : Nat → Int32} {Tm : (Nat → Int32) × Int32 × Int32}
set_option maxHeartbeats 4000000 in
set_option maxRecDepth 100000 in
theorem x_X10_fault (l : Launch) (D : va_G) (A : Nat → Nat → Nat) (cy : Nat → ClassId) (hJ : ti_inj ti_LM A) (M : ti_M) (hI : mI Tm M) (hF : mF Tm M) (z1 : Int32) : ti_Ki l yX10_fault cX10_fault 2 (some .int) 0 ti_LM D A cy M [.ref (A 60 0), .int z1] (fun r M2 => (mF Tm M2 ∧ tI M2 60 2 = tI M 60 2 ∧ lw M2 M) ∧ r.toInt = (if z1.toInt = 0 then (tI M 60 27).toInt else if z1.toInt = 1 then (tI M 60 28).toInt else -1)) := by
  refine ti_eI yp_X10_fault hJ ti_LM_nd (Nat.le_of_ble_eq_true rfl) ?_
  intro p e s m args below meth c Q H0 C hQ hw ls hl
  have hx := C.1
  have hb := C.2.1
  have hl : lv_has ls 2 [(0, .ref (A 60 0)), (1, .int z1)] := hl
  have hL : mL M := hF.2.1
  have hC0 : mC M 0 := hF.2.2.1.1
  have hP0 : mP M 0 := hF.2.2.1.2
  refine lv_aload_n hx hb dX10_fault_0 rfl (lv_at hl 0 rfl) ?_
  refine lv_iconst (v := 0) hx hb dX10_fault_1 (by decide) ?_
  refine ti_putI (ci := 10) (k := 0) (N := 67) (T := TX10) C hw iw_10 tyX10 tyX10_ok nmX10 rfl ob_60 (by decide) (by decide) fl_X10_154 rfl rfl rfl rfl (fn_10 A _) fs_10_0 dX10_fault_2 (fun H locs hw => ?_)
  obtain ⟨M_1, hM_1⟩ : ∃ z : ti_M, z = uI M 60 0 0 := ⟨_, rfl⟩
  have hw := hw.to hM_1.symm
  have iM_1 : mI Tm M_1 := mI_uI hI hM_1 (by decide) (by decide) trivial
  refine lv_iload_n hx hb dX10_fault_5 rfl (lv_at hl 1 rfl) ?_
  refine sb_if_ne (tgt := 16) hx hb rfl dX10_fault_6 (by decide) (fun c_6_1 => ?_) (fun c_6_1 => ?_)
  · refine lv_iload_n hx hb dX10_fault_16 rfl (lv_at hl 1 rfl) ?_
    refine lv_iconst (v := 1) hx hb dX10_fault_17 (by decide) ?_
    refine sb_icmp_ne (tgt := 28) hx hb rfl (by decide : (1 : Int32).toInt = 1) dX10_fault_18 (by decide) (fun c_18_3 => ?_) (fun c_18_3 => ?_)
    · refine lv_iconst (v := (-1)) hx hb dX10_fault_28 (by decide) ?_
      exact hQ _ _ _ _ _ _ hw rfl (⟨⟨mF_qw hF iM_1 (qw_I hM_1 (by decide)), (qw_I hM_1 (by decide)).2.1.1, (qw_I hM_1 (by decide)).1⟩, (by rw [if_neg (by omega), if_neg (by omega)]; decide)⟩) dX10_fault_29
    · refine lv_aload_n hx hb dX10_fault_21 rfl (lv_at hl 0 rfl) ?_
      refine ti_get (ci := 10) (k := 28) (N := 67) (T := TX10) C hw iw_10 rfl ob_60 (by decide) (by decide) fl_X10_58 rfl rfl dX10_fault_22 ?_
      refine lv_topi (fun x_5 ex_5 => ?_)
      refine lv_goto (tgt := 29) hx hb dX10_fault_25 (by decide) ?_
      exact hQ _ _ _ _ _ _ hw rfl (⟨⟨mF_qw hF iM_1 (qw_I hM_1 (by decide)), (qw_I hM_1 (by decide)).2.1.1, (qw_I hM_1 (by decide)).1⟩, (by rw [if_neg (by omega), if_pos (by omega)]; exact (congrArg Int32.toInt ((ex_5.symm))).symm.trans (congrArg Int32.toInt ((tI_nE hM_1 (nk (by decide))))))⟩) dX10_fault_29
  · refine lv_aload_n hx hb dX10_fault_9 rfl (lv_at hl 0 rfl) ?_
    refine ti_get (ci := 10) (k := 27) (N := 67) (T := TX10) C hw iw_10 rfl ob_60 (by decide) (by decide) fl_X10_303 rfl rfl dX10_fault_10 ?_
    refine lv_topi (fun x_3 ex_3 => ?_)
    refine lv_goto (tgt := 29) hx hb dX10_fault_13 (by decide) ?_
    exact hQ _ _ _ _ _ _ hw rfl (⟨⟨mF_qw hF iM_1 (qw_I hM_1 (by decide)), (qw_I hM_1 (by decide)).2.1.1, (qw_I hM_1 (by decide)).1⟩, (by rw [if_pos (by omega)]; exact (congrArg Int32.toInt ((ex_3.symm))).symm.trans (congrArg Int32.toInt ((tI_nE hM_1 (nk (by decide))))))⟩) dX10_fault_29

variable {Tc : Nat → Int32} {Tm : (Nat → Int32) × Int32 × Int32}
/-! the tape's bytes -/
theorem n8_255 (x : Int32) : x.toInt8.toInt32 &&& 255 = x &&& 255 := by
  apply Int32.toBitVec_inj.mp
  rw [Int32.toBitVec_and, Int32.toBitVec_and]
  have h : ∀ i : Nat, i < 32 → ((255 : Int32).toBitVec.getLsbD i = true → i < 8) := by decide
  have e : x.toInt8.toInt32.toBitVec = (x.toBitVec.signExtend 8).signExtend 32 := rfl
  rw [e]
  apply BitVec.eq_of_getLsbD_eq
  intro i hi
  rw [BitVec.getLsbD_and, BitVec.getLsbD_and]
  by_cases q : i < 8
  · have e2 : ((x.toBitVec.signExtend 8).signExtend 32).getLsbD i = x.toBitVec.getLsbD i := by
      rw [BitVec.getLsbD_signExtend, BitVec.getLsbD_signExtend]
      simp [q, hi]
    rw [e2]
  · have e2 : (255 : Int32).toBitVec.getLsbD i = false := by
      cases g : (255 : Int32).toBitVec.getLsbD i with
      | true => exact absurd (h i hi g) q
      | false => rfl
    rw [e2, Bool.and_false, Bool.and_false]
theorem pb_st {y x z : Int32} (e : y = x.toInt8.toInt32) (e2 : x = z) : vp_nar .byte y &&& 255 = z &&& 255 := by
  rw [vp_nar_byte, n8_255, e, n8_255, e2]
theorem cI_tp {M N : ti_M} {f : Nat → Int32} (h : cI Tc M) (e : N = uY M 2 0 f) : cI (tY N 2 0) N := by
  subst e
  refine ⟨fun o2 k2 => h.1 o2 k2, fun o2 k2 i => ?_, rfl⟩
  by_cases q : k2 = 0 ∧ o2 = 2
  · obtain ⟨rfl, rfl⟩ := q; show cBY 7 0 _; trivial
  · rw [tY_n _ _ _ _ q]; exact h.2.1 o2 k2 i
set_option maxHeartbeats 4000000 in
set_option maxRecDepth 100000 in
theorem x_X7_put (l : Launch) (D : va_G) (A : Nat → Nat → Nat) (cy : Nat → ClassId) (hJ : ti_inj ti_LT A) (M : ti_M) (hI : cI Tc M) (fo : Int32) (hm : (tI M 2 1).toInt ≤ 696) : ti_Kv l yX7_put cX7_put 3 0 ti_LT D A cy M [.ref (A 2 0), .int fo] (fun M2 => cI (tY M2 2 0) M2 ∧ M2.2.2.2 = M.2.2.2 ∧ o2 M2 M ∧ (tI M2 2 1).toInt = (tI M 2 1).toInt + 4 ∧ (∀ i : Nat, (i : Int) < (tI M 2 1).toInt → tY M2 2 0 i = tY M 2 0 i) ∧ (∀ j : Nat, j < 4 → (tY M2 2 0 ((tI M 2 1).toInt.toNat + j) &&& 255).toInt = pp_by fo j)) := by
  refine ti_eV yp_X7_put hJ ti_LT_nd (Nat.le_of_ble_eq_true rfl) ?_
  intro p e s m args below meth c Q H0 C hQ hw ls hl
  have hx := C.1
  have hb := C.2.1
  have hl : lv_has ls 3 [(0, .ref (A 2 0)), (1, .int fo)] := hl
  refine lv_bipush (v := 24) hx hb dX7_put_0 (by decide) ?_
  refine lv_istore_n (lv' := [(2, .int 24), (0, .ref (A 2 0)), (1, .int fo)]) hx hb dX7_put_2 rfl hl (by decide) rfl (fun ls hl => ?_)
  refine lv_iload_n hx hb dX7_put_3 rfl (lv_at hl 0 rfl) ?_
  refine sb_if_lt (tgt := 46) hx hb (by decide : (24 : Int32).toInt = 24) dX7_put_4 (by decide) (fun h => absurd h (by decide)) (fun c_4_0 => ?_)
  refine lv_aload_n hx hb dX7_put_7 rfl (lv_at hl 1 rfl) ?_
  refine ti_get (ci := 7) (k := 1) (N := 7) (T := TX7) C hw iw_7 rfl ob_2 (by decide) (by decide) fl_X7_15 rfl rfl dX7_put_8 ?_
  refine lv_topi (fun x_2 ex_2 => ?_)
  have bx_2 : 0 ≤ x_2.toInt ∧ x_2.toInt ≤ 700 := cI_rd hI ob_2.1 ex_2
  have ux_2 : (tI M 2 1).toInt = x_2.toInt := by rw [ex_2]
  refine lv_sipush (v := 700) hx hb dX7_put_11 (by decide) ?_
  refine sb_icmp_ge (tgt := 40) hx hb rfl (by decide : (700 : Int32).toInt = 700) dX7_put_14 (by decide) (fun h => by omega) (fun c_14_2 => ?_)
  refine lv_aload_n hx hb dX7_put_17 rfl (lv_at hl 1 rfl) ?_
  refine ti_get (ci := 7) (k := 0) (N := 7) (T := TX7) (v := .ref (A 2 1)) C hw iw_7 rfl ob_2 (by decide) (by decide) fl_X7_9 rfl rfl dX7_put_18 ?_
  refine lv_aload_n hx hb dX7_put_21 rfl (lv_at hl 1 rfl) ?_
  refine ti_get (ci := 7) (k := 1) (N := 7) (T := TX7) C hw iw_7 rfl ob_2 (by decide) (by decide) fl_X7_15 rfl rfl dX7_put_22 ?_
  refine ti_top (y := x_2) (ex_2.symm) ?_
  have u_4 : (tI M 2 1).toInt = (x_2 : Int32).toInt := by rw [(ex_2.symm)]
  refine lv_iload_n hx hb dX7_put_25 rfl (lv_at hl 2 rfl) ?_
  refine lv_iload_n hx hb dX7_put_26 rfl (lv_at hl 0 rfl) ?_
  refine lv_ishr hx hb dX7_put_27 ?_
  refine lv_topi (fun x_5 ex_5 => ?_)
  refine lv_i2b hx hb dX7_put_28 rfl ?_
  refine lv_topi (fun x_6 ex_6 => ?_)
  refine ti_bast (ci := 7) (k := 0) (n := 700) C hw ob_2 (by decide) (fun _ _ => rfl) (vp_in_iff.mpr (by omega)) dX7_put_29 (fun H locs hw => ?_)
  obtain ⟨M_7, hM_7⟩ : ∃ z : ti_M, z = uY M 2 0 (upd (tY M 2 0) (x_2 : Int32).toNatClampNeg (vp_nar .byte x_6)) := ⟨_, rfl⟩
  have hw := hw.to hM_7.symm
  have iM_7 : cI (tY M_7 2 0) M_7 := cI_tp hI hM_7
  refine lv_aload_n hx hb dX7_put_30 rfl (lv_at hl 1 rfl) ?_
  refine lv_dup hx hb dX7_put_31 rfl ?_
  refine ti_get (ci := 7) (k := 1) (N := 7) (T := TX7) C hw iw_7 rfl ob_2 (by decide) (by decide) fl_X7_15 rfl rfl dX7_put_32 ?_
  refine ti_top (y := x_2) ((tI_uYE hM_7).trans ex_2.symm) ?_
  have u_8 : (tI M_7 2 1).toInt = (x_2 : Int32).toInt := by rw [((tI_uYE hM_7).trans ex_2.symm)]
  refine lv_iconst (v := 1) hx hb dX7_put_35 (by decide) ?_
  refine lv_iadd hx hb dX7_put_36 ?_
  refine lv_topi (fun x_9 ex_9 => ?_)
  have tx_9 : x_9.toInt = x_2.toInt + 1 := i_add ex_9 rfl (by decide : (1 : Int32).toInt = 1) (by omega) (by omega)
  refine ti_putI (ci := 7) (k := 1) (N := 7) (T := TX7) C hw iw_7 tyX7 tyX7_ok nmX7 rfl ob_2 (by decide) (by decide) fl_X7_15 rfl rfl rfl rfl (fn_7 A _) fs_7_1 dX7_put_37 (fun H locs hw => ?_)
  obtain ⟨M_10, hM_10⟩ : ∃ z : ti_M, z = uI M_7 2 1 x_9 := ⟨_, rfl⟩
  have hw := hw.to hM_10.symm
  have iM_10 : cI (tY M_7 2 0) M_10 := cI_uI iM_7 hM_10 ob_2.1 (ib_mk (lo := 0) (hi := 700) (by omega) (by omega))
  have vM_10 : (tI M_10 2 1).toInt = (x_9 : Int32).toInt := by rw [tI_uE hM_10]
  refine lv_iinc (v := 16) (lv' := [(2, .int 16), (0, .ref (A 2 0)), (1, .int fo)]) hx hb dX7_put_40 hl (k := 0) rfl (by decide) (by decide) rfl (fun ls hl => ?_)
  refine lv_goto (tgt := 3) hx hb dX7_put_43 (by decide) ?_
  refine lv_iload_n hx hb dX7_put_3 rfl (lv_at hl 0 rfl) ?_
  refine sb_if_lt (tgt := 46) hx hb (by decide : (16 : Int32).toInt = 16) dX7_put_4 (by decide) (fun h => absurd h (by decide)) (fun c_4_10 => ?_)
  refine lv_aload_n hx hb dX7_put_7 rfl (lv_at hl 1 rfl) ?_
  refine ti_get (ci := 7) (k := 1) (N := 7) (T := TX7) C hw iw_7 rfl ob_2 (by decide) (by decide) fl_X7_15 rfl rfl dX7_put_8 ?_
  refine ti_top (y := x_9) (tI_uE hM_10) ?_
  have u_12 : (tI M_10 2 1).toInt = (x_9 : Int32).toInt := by rw [(tI_uE hM_10)]
  refine lv_sipush (v := 700) hx hb dX7_put_11 (by decide) ?_
  refine sb_icmp_ge (tgt := 40) hx hb rfl (by decide : (700 : Int32).toInt = 700) dX7_put_14 (by decide) (fun h => by omega) (fun c_14_12 => ?_)
  refine lv_aload_n hx hb dX7_put_17 rfl (lv_at hl 1 rfl) ?_
  refine ti_get (ci := 7) (k := 0) (N := 7) (T := TX7) (v := .ref (A 2 1)) C hw iw_7 rfl ob_2 (by decide) (by decide) fl_X7_9 rfl rfl dX7_put_18 ?_
  refine lv_aload_n hx hb dX7_put_21 rfl (lv_at hl 1 rfl) ?_
  refine ti_get (ci := 7) (k := 1) (N := 7) (T := TX7) C hw iw_7 rfl ob_2 (by decide) (by decide) fl_X7_15 rfl rfl dX7_put_22 ?_
  refine ti_top (y := x_9) (tI_uE hM_10) ?_
  have u_14 : (tI M_10 2 1).toInt = (x_9 : Int32).toInt := by rw [(tI_uE hM_10)]
  refine lv_iload_n hx hb dX7_put_25 rfl (lv_at hl 2 rfl) ?_
  refine lv_iload_n hx hb dX7_put_26 rfl (lv_at hl 0 rfl) ?_
  refine lv_ishr hx hb dX7_put_27 ?_
  refine lv_topi (fun x_15 ex_15 => ?_)
  refine lv_i2b hx hb dX7_put_28 rfl ?_
  refine lv_topi (fun x_16 ex_16 => ?_)
  refine ti_bast (ci := 7) (k := 0) (n := 700) C hw ob_2 (by decide) (fun _ _ => rfl) (vp_in_iff.mpr (by omega)) dX7_put_29 (fun H locs hw => ?_)
  obtain ⟨M_17, hM_17⟩ : ∃ z : ti_M, z = uY M_10 2 0 (upd (tY M_10 2 0) (x_9 : Int32).toNatClampNeg (vp_nar .byte x_16)) := ⟨_, rfl⟩
  have hw := hw.to hM_17.symm
  have iM_17 : cI (tY M_17 2 0) M_17 := cI_tp iM_10 hM_17
  refine lv_aload_n hx hb dX7_put_30 rfl (lv_at hl 1 rfl) ?_
  refine lv_dup hx hb dX7_put_31 rfl ?_
  refine ti_get (ci := 7) (k := 1) (N := 7) (T := TX7) C hw iw_7 rfl ob_2 (by decide) (by decide) fl_X7_15 rfl rfl dX7_put_32 ?_
  refine ti_top (y := x_9) ((tI_uYE hM_17).trans (tI_uE hM_10)) ?_
  have u_18 : (tI M_17 2 1).toInt = (x_9 : Int32).toInt := by rw [((tI_uYE hM_17).trans (tI_uE hM_10))]
  refine lv_iconst (v := 1) hx hb dX7_put_35 (by decide) ?_
  refine lv_iadd hx hb dX7_put_36 ?_
  refine lv_topi (fun x_19 ex_19 => ?_)
  have tx_19 : x_19.toInt = x_9.toInt + 1 := i_add ex_19 rfl (by decide : (1 : Int32).toInt = 1) (by omega) (by omega)
  refine ti_putI (ci := 7) (k := 1) (N := 7) (T := TX7) C hw iw_7 tyX7 tyX7_ok nmX7 rfl ob_2 (by decide) (by decide) fl_X7_15 rfl rfl rfl rfl (fn_7 A _) fs_7_1 dX7_put_37 (fun H locs hw => ?_)
  obtain ⟨M_20, hM_20⟩ : ∃ z : ti_M, z = uI M_17 2 1 x_19 := ⟨_, rfl⟩
  have hw := hw.to hM_20.symm
  have iM_20 : cI (tY M_17 2 0) M_20 := cI_uI iM_17 hM_20 ob_2.1 (ib_mk (lo := 0) (hi := 700) (by omega) (by omega))
  have vM_20 : (tI M_20 2 1).toInt = (x_19 : Int32).toInt := by rw [tI_uE hM_20]
  refine lv_iinc (v := 8) (lv' := [(2, .int 8), (0, .ref (A 2 0)), (1, .int fo)]) hx hb dX7_put_40 hl (k := 0) rfl (by decide) (by decide) rfl (fun ls hl => ?_)
  refine lv_goto (tgt := 3) hx hb dX7_put_43 (by decide) ?_
  refine lv_iload_n hx hb dX7_put_3 rfl (lv_at hl 0 rfl) ?_
  refine sb_if_lt (tgt := 46) hx hb (by decide : (8 : Int32).toInt = 8) dX7_put_4 (by decide) (fun h => absurd h (by decide)) (fun c_4_20 => ?_)
  refine lv_aload_n hx hb dX7_put_7 rfl (lv_at hl 1 rfl) ?_
  refine ti_get (ci := 7) (k := 1) (N := 7) (T := TX7) C hw iw_7 rfl ob_2 (by decide) (by decide) fl_X7_15 rfl rfl dX7_put_8 ?_
  refine ti_top (y := x_19) (tI_uE hM_20) ?_
  have u_22 : (tI M_20 2 1).toInt = (x_19 : Int32).toInt := by rw [(tI_uE hM_20)]
  refine lv_sipush (v := 700) hx hb dX7_put_11 (by decide) ?_
  refine sb_icmp_ge (tgt := 40) hx hb rfl (by decide : (700 : Int32).toInt = 700) dX7_put_14 (by decide) (fun h => by omega) (fun c_14_22 => ?_)
  refine lv_aload_n hx hb dX7_put_17 rfl (lv_at hl 1 rfl) ?_
  refine ti_get (ci := 7) (k := 0) (N := 7) (T := TX7) (v := .ref (A 2 1)) C hw iw_7 rfl ob_2 (by decide) (by decide) fl_X7_9 rfl rfl dX7_put_18 ?_
  refine lv_aload_n hx hb dX7_put_21 rfl (lv_at hl 1 rfl) ?_
  refine ti_get (ci := 7) (k := 1) (N := 7) (T := TX7) C hw iw_7 rfl ob_2 (by decide) (by decide) fl_X7_15 rfl rfl dX7_put_22 ?_
  refine ti_top (y := x_19) (tI_uE hM_20) ?_
  have u_24 : (tI M_20 2 1).toInt = (x_19 : Int32).toInt := by rw [(tI_uE hM_20)]
  refine lv_iload_n hx hb dX7_put_25 rfl (lv_at hl 2 rfl) ?_
  refine lv_iload_n hx hb dX7_put_26 rfl (lv_at hl 0 rfl) ?_
  refine lv_ishr hx hb dX7_put_27 ?_
  refine lv_topi (fun x_25 ex_25 => ?_)
  refine lv_i2b hx hb dX7_put_28 rfl ?_
  refine lv_topi (fun x_26 ex_26 => ?_)
  refine ti_bast (ci := 7) (k := 0) (n := 700) C hw ob_2 (by decide) (fun _ _ => rfl) (vp_in_iff.mpr (by omega)) dX7_put_29 (fun H locs hw => ?_)
  obtain ⟨M_27, hM_27⟩ : ∃ z : ti_M, z = uY M_20 2 0 (upd (tY M_20 2 0) (x_19 : Int32).toNatClampNeg (vp_nar .byte x_26)) := ⟨_, rfl⟩
  have hw := hw.to hM_27.symm
  have iM_27 : cI (tY M_27 2 0) M_27 := cI_tp iM_20 hM_27
  refine lv_aload_n hx hb dX7_put_30 rfl (lv_at hl 1 rfl) ?_
  refine lv_dup hx hb dX7_put_31 rfl ?_
  refine ti_get (ci := 7) (k := 1) (N := 7) (T := TX7) C hw iw_7 rfl ob_2 (by decide) (by decide) fl_X7_15 rfl rfl dX7_put_32 ?_
  refine ti_top (y := x_19) ((tI_uYE hM_27).trans (tI_uE hM_20)) ?_
  have u_28 : (tI M_27 2 1).toInt = (x_19 : Int32).toInt := by rw [((tI_uYE hM_27).trans (tI_uE hM_20))]
  refine lv_iconst (v := 1) hx hb dX7_put_35 (by decide) ?_
  refine lv_iadd hx hb dX7_put_36 ?_
  refine lv_topi (fun x_29 ex_29 => ?_)
  have tx_29 : x_29.toInt = x_19.toInt + 1 := i_add ex_29 rfl (by decide : (1 : Int32).toInt = 1) (by omega) (by omega)
  refine ti_putI (ci := 7) (k := 1) (N := 7) (T := TX7) C hw iw_7 tyX7 tyX7_ok nmX7 rfl ob_2 (by decide) (by decide) fl_X7_15 rfl rfl rfl rfl (fn_7 A _) fs_7_1 dX7_put_37 (fun H locs hw => ?_)
  obtain ⟨M_30, hM_30⟩ : ∃ z : ti_M, z = uI M_27 2 1 x_29 := ⟨_, rfl⟩
  have hw := hw.to hM_30.symm
  have iM_30 : cI (tY M_27 2 0) M_30 := cI_uI iM_27 hM_30 ob_2.1 (ib_mk (lo := 0) (hi := 700) (by omega) (by omega))
  have vM_30 : (tI M_30 2 1).toInt = (x_29 : Int32).toInt := by rw [tI_uE hM_30]
  refine lv_iinc (v := 0) (lv' := [(2, .int 0), (0, .ref (A 2 0)), (1, .int fo)]) hx hb dX7_put_40 hl (k := 0) rfl (by decide) (by decide) rfl (fun ls hl => ?_)
  refine lv_goto (tgt := 3) hx hb dX7_put_43 (by decide) ?_
  refine lv_iload_n hx hb dX7_put_3 rfl (lv_at hl 0 rfl) ?_
  refine sb_if_lt (tgt := 46) hx hb (by decide : (0 : Int32).toInt = 0) dX7_put_4 (by decide) (fun h => absurd h (by decide)) (fun c_4_30 => ?_)
  refine lv_aload_n hx hb dX7_put_7 rfl (lv_at hl 1 rfl) ?_
  refine ti_get (ci := 7) (k := 1) (N := 7) (T := TX7) C hw iw_7 rfl ob_2 (by decide) (by decide) fl_X7_15 rfl rfl dX7_put_8 ?_
  refine ti_top (y := x_29) (tI_uE hM_30) ?_
  have u_32 : (tI M_30 2 1).toInt = (x_29 : Int32).toInt := by rw [(tI_uE hM_30)]
  refine lv_sipush (v := 700) hx hb dX7_put_11 (by decide) ?_
  refine sb_icmp_ge (tgt := 40) hx hb rfl (by decide : (700 : Int32).toInt = 700) dX7_put_14 (by decide) (fun h => by omega) (fun c_14_32 => ?_)
  refine lv_aload_n hx hb dX7_put_17 rfl (lv_at hl 1 rfl) ?_
  refine ti_get (ci := 7) (k := 0) (N := 7) (T := TX7) (v := .ref (A 2 1)) C hw iw_7 rfl ob_2 (by decide) (by decide) fl_X7_9 rfl rfl dX7_put_18 ?_
  refine lv_aload_n hx hb dX7_put_21 rfl (lv_at hl 1 rfl) ?_
  refine ti_get (ci := 7) (k := 1) (N := 7) (T := TX7) C hw iw_7 rfl ob_2 (by decide) (by decide) fl_X7_15 rfl rfl dX7_put_22 ?_
  refine ti_top (y := x_29) (tI_uE hM_30) ?_
  have u_34 : (tI M_30 2 1).toInt = (x_29 : Int32).toInt := by rw [(tI_uE hM_30)]
  refine lv_iload_n hx hb dX7_put_25 rfl (lv_at hl 2 rfl) ?_
  refine lv_iload_n hx hb dX7_put_26 rfl (lv_at hl 0 rfl) ?_
  refine lv_ishr hx hb dX7_put_27 ?_
  refine lv_topi (fun x_35 ex_35 => ?_)
  refine lv_i2b hx hb dX7_put_28 rfl ?_
  refine lv_topi (fun x_36 ex_36 => ?_)
  refine ti_bast (ci := 7) (k := 0) (n := 700) C hw ob_2 (by decide) (fun _ _ => rfl) (vp_in_iff.mpr (by omega)) dX7_put_29 (fun H locs hw => ?_)
  obtain ⟨M_37, hM_37⟩ : ∃ z : ti_M, z = uY M_30 2 0 (upd (tY M_30 2 0) (x_29 : Int32).toNatClampNeg (vp_nar .byte x_36)) := ⟨_, rfl⟩
  have hw := hw.to hM_37.symm
  have iM_37 : cI (tY M_37 2 0) M_37 := cI_tp iM_30 hM_37
  refine lv_aload_n hx hb dX7_put_30 rfl (lv_at hl 1 rfl) ?_
  refine lv_dup hx hb dX7_put_31 rfl ?_
  refine ti_get (ci := 7) (k := 1) (N := 7) (T := TX7) C hw iw_7 rfl ob_2 (by decide) (by decide) fl_X7_15 rfl rfl dX7_put_32 ?_
  refine ti_top (y := x_29) ((tI_uYE hM_37).trans (tI_uE hM_30)) ?_
  have u_38 : (tI M_37 2 1).toInt = (x_29 : Int32).toInt := by rw [((tI_uYE hM_37).trans (tI_uE hM_30))]
  refine lv_iconst (v := 1) hx hb dX7_put_35 (by decide) ?_
  refine lv_iadd hx hb dX7_put_36 ?_
  refine lv_topi (fun x_39 ex_39 => ?_)
  have tx_39 : x_39.toInt = x_29.toInt + 1 := i_add ex_39 rfl (by decide : (1 : Int32).toInt = 1) (by omega) (by omega)
  refine ti_putI (ci := 7) (k := 1) (N := 7) (T := TX7) C hw iw_7 tyX7 tyX7_ok nmX7 rfl ob_2 (by decide) (by decide) fl_X7_15 rfl rfl rfl rfl (fn_7 A _) fs_7_1 dX7_put_37 (fun H locs hw => ?_)
  obtain ⟨M_40, hM_40⟩ : ∃ z : ti_M, z = uI M_37 2 1 x_39 := ⟨_, rfl⟩
  have hw := hw.to hM_40.symm
  have iM_40 : cI (tY M_37 2 0) M_40 := cI_uI iM_37 hM_40 ob_2.1 (ib_mk (lo := 0) (hi := 700) (by omega) (by omega))
  have vM_40 : (tI M_40 2 1).toInt = (x_39 : Int32).toInt := by rw [tI_uE hM_40]
  refine lv_iinc (v := (-8)) (lv' := [(2, .int (-8)), (0, .ref (A 2 0)), (1, .int fo)]) hx hb dX7_put_40 hl (k := 0) rfl (by decide) (by decide) rfl (fun ls hl => ?_)
  refine lv_goto (tgt := 3) hx hb dX7_put_43 (by decide) ?_
  refine lv_iload_n hx hb dX7_put_3 rfl (lv_at hl 0 rfl) ?_
  refine sb_if_lt (tgt := 46) hx hb (by decide : ((-8) : Int32).toInt = (-8)) dX7_put_4 (by decide) (fun c_4_40 => ?_) (fun h => absurd h (by decide))
  exact hQ _ _ _ _ _ hw (⟨cI_self iM_40, ((rf_I hM_40).trans ((rf_Y hM_37).trans ((rf_I hM_30).trans ((rf_Y hM_27).trans ((rf_I hM_20).trans ((rf_Y hM_17).trans ((rf_I hM_10).trans (rf_Y hM_7)))))))), (o2.trans (o2_I hM_40) (o2.trans (o2_of (ra_Y hM_37)) (o2.trans (o2_I hM_30) (o2.trans (o2_of (ra_Y hM_27)) (o2.trans (o2_I hM_20) (o2.trans (o2_of (ra_Y hM_17)) (o2.trans (o2_I hM_10) (o2_of (ra_Y hM_7))))))))), by rw [(tI_uE hM_40)]; omega, (fun i hi => by rw [tY_uIE hM_40, tY_uE hM_37, pk_un (show i ≠ (x_29 : Int32).toNatClampNeg by (show i ≠ (x_29 : Int32).toInt.toNat; omega)), tY_uIE hM_30, tY_uE hM_27, pk_un (show i ≠ (x_19 : Int32).toNatClampNeg by (show i ≠ (x_19 : Int32).toInt.toNat; omega)), tY_uIE hM_20, tY_uE hM_17, pk_un (show i ≠ (x_9 : Int32).toNatClampNeg by (show i ≠ (x_9 : Int32).toInt.toNat; omega)), tY_uIE hM_10, tY_uE hM_7, pk_un (show i ≠ (x_2 : Int32).toNatClampNeg by (show i ≠ (x_2 : Int32).toInt.toNat; omega))]), (fun j hj => by
      obtain rfl | rfl | rfl | rfl : j = 0 ∨ j = 1 ∨ j = 2 ∨ j = 3 := by omega
      · exact (by rw [show (tI M 2 1).toInt.toNat + 0 = (x_2 : Int32).toNatClampNeg by (show _ = (x_2 : Int32).toInt.toNat; omega), tY_uIE hM_40, tY_uE hM_37, pk_un (show (x_2 : Int32).toNatClampNeg ≠ (x_29 : Int32).toNatClampNeg by (show (x_2 : Int32).toInt.toNat ≠ (x_29 : Int32).toInt.toNat; omega)), tY_uIE hM_30, tY_uE hM_27, pk_un (show (x_2 : Int32).toNatClampNeg ≠ (x_19 : Int32).toNatClampNeg by (show (x_2 : Int32).toInt.toNat ≠ (x_19 : Int32).toInt.toNat; omega)), tY_uIE hM_20, tY_uE hM_17, pk_un (show (x_2 : Int32).toNatClampNeg ≠ (x_9 : Int32).toNatClampNeg by (show (x_2 : Int32).toInt.toNat ≠ (x_9 : Int32).toInt.toNat; omega)), tY_uIE hM_10, tY_uE hM_7, pk_us, pb_st ex_6 ex_5]; rfl)
      · exact (by rw [show (tI M 2 1).toInt.toNat + 1 = (x_9 : Int32).toNatClampNeg by (show _ = (x_9 : Int32).toInt.toNat; omega), tY_uIE hM_40, tY_uE hM_37, pk_un (show (x_9 : Int32).toNatClampNeg ≠ (x_29 : Int32).toNatClampNeg by (show (x_9 : Int32).toInt.toNat ≠ (x_29 : Int32).toInt.toNat; omega)), tY_uIE hM_30, tY_uE hM_27, pk_un (show (x_9 : Int32).toNatClampNeg ≠ (x_19 : Int32).toNatClampNeg by (show (x_9 : Int32).toInt.toNat ≠ (x_19 : Int32).toInt.toNat; omega)), tY_uIE hM_20, tY_uE hM_17, pk_us, pb_st ex_16 ex_15]; rfl)
      · exact (by rw [show (tI M 2 1).toInt.toNat + 2 = (x_19 : Int32).toNatClampNeg by (show _ = (x_19 : Int32).toInt.toNat; omega), tY_uIE hM_40, tY_uE hM_37, pk_un (show (x_19 : Int32).toNatClampNeg ≠ (x_29 : Int32).toNatClampNeg by (show (x_19 : Int32).toInt.toNat ≠ (x_29 : Int32).toInt.toNat; omega)), tY_uIE hM_30, tY_uE hM_27, pk_us, pb_st ex_26 ex_25]; rfl)
      · exact (by rw [show (tI M 2 1).toInt.toNat + 3 = (x_29 : Int32).toNatClampNeg by (show _ = (x_29 : Int32).toInt.toNat; omega), tY_uIE hM_40, tY_uE hM_37, pk_us, pb_st ex_36 ex_35]; rfl))⟩) dX7_put_46
theorem cF_rx {M N : ti_M} {Tn : Nat → Int32} (h : cF Tc M) (hI : cI Tn N) (r : rR N M) (x : f0 N M) : cF Tn N := by
  obtain ⟨-, h1, h2, h3, h4, h5⟩ := h
  refine ⟨hI, h1.to (r 0 1 (by decide)), h2.to (r 0 2 (by decide)), h3.to (r 27 0 (by decide)), h4.to (x 1).2 (x 2).2 (fun i hi => r _ _ (by omega)), fun q => (h5 ?_).to (r 49 0 (by decide))⟩
  rwa [(x 7).1] at q
set_option maxHeartbeats 4000000 in
set_option maxRecDepth 100000 in
theorem x_X9_feed (l : Launch) (D : va_G) (A : Nat → Nat → Nat) (cy : Nat → ClassId) (hJ : ti_inj ti_LT A) (M : ti_M) (hI : cI Tc M) (hF : cF Tc M) (z1 : Int32) (z2 : Int32) (z3 : Int32) (z4 : Int32) (z5 : Int32) : ti_Ki l yX9_feed cX9_feed 7 (some .int) 1 ti_LT D A cy M [.ref (A 0 0), .int z1, .int z2, .int z3, .int z4, .int z5] (fun r M2 => (680 < (tI M 2 1).toInt ∧ r.toInt = -1 ∧ cF Tc M2 ∧ tI M2 2 1 = tI M 2 1 ∧ (∀ k : Nat, tI M2 1 k = tI M 1 k)) ∨ ((tI M 2 1).toInt ≤ 680 ∧ r.toInt = (tI M 2 1).toInt + 20 ∧ cF (tY M2 2 0) M2 ∧ (tI M2 2 1).toInt = (tI M 2 1).toInt + 20 ∧ (∀ i : Nat, (i : Int) < (tI M 2 1).toInt → tY M2 2 0 i = tY M 2 0 i) ∧ (∀ j : Nat, j < 20 → (tY M2 2 0 ((tI M 2 1).toInt.toNat + j) &&& 255).toInt = pp_fb z1 z2 z3 z4 z5 j) ∧ (∀ k : Nat, tI M2 1 k = tI M 1 k))) := by
  refine ti_eI yp_X9_feed hJ ti_LT_nd (Nat.le_of_ble_eq_true rfl) ?_
  intro p e s m args below meth c Q H0 C hQ hw ls hl
  have hx := C.1
  have hb := C.2.1
  have hl : lv_has ls 7 [(0, .ref (A 0 0)), (1, .int z1), (2, .int z2), (3, .int z3), (4, .int z4), (5, .int z5)] := hl
  obtain ⟨-, ⟨t1, ht1, hT1⟩, ⟨t2, ht2, hT2⟩, ⟨t, ht, hT⟩, hS, hM⟩ := id hF
  refine lv_aload_n hx hb dX9_feed_0 rfl (lv_at hl 0 rfl) ?_
  refine ti_get (ci := 9) (k := 0) (N := 10) (T := TX9) (v := .ref (A 1 0)) C hw iw_9 rfl ob_0 (by decide) (by decide) fl_X9_12 rfl rfl dX9_feed_1 ?_
  refine ti_get (ci := 4) (k := 0) (N := 6) (T := TX4) (v := .ref (A 2 0)) C hw iw_4 rfl ob_1 (by decide) (by decide) fl_X9_69 rfl rfl dX9_feed_4 ?_
  refine lv_astore (lv' := [(6, .ref (A 2 0)), (0, .ref (A 0 0)), (1, .int z1), (2, .int z2), (3, .int z3), (4, .int z4), (5, .int z5)]) hx hb dX9_feed_7 hl (by decide) rfl (fun ls hl => ?_)
  refine lv_aload hx hb dX9_feed_9 (lv_at hl 0 rfl) ?_
  refine ti_get (ci := 7) (k := 1) (N := 7) (T := TX7) C hw iw_7 rfl ob_2 (by decide) (by decide) fl_X9_73 rfl rfl dX9_feed_11 ?_
  refine lv_topi (fun x_1 ex_1 => ?_)
  have bx_1 : 0 ≤ x_1.toInt ∧ x_1.toInt ≤ 700 := cI_rd hI ob_2.1 ex_1
  have ux_1 : (tI M 2 1).toInt = x_1.toInt := by rw [ex_1]
  refine lv_bipush (v := 20) hx hb dX9_feed_14 (by decide) ?_
  refine lv_iadd hx hb dX9_feed_16 ?_
  refine lv_topi (fun x_2 ex_2 => ?_)
  have tx_2 : x_2.toInt = x_1.toInt + 20 := i_add ex_2 rfl (by decide : (20 : Int32).toInt = 20) (by omega) (by omega)
  refine lv_sipush (v := 700) hx hb dX9_feed_17 (by decide) ?_
  refine sb_icmp_le (tgt := 25) hx hb rfl (by decide : (700 : Int32).toInt = 700) dX9_feed_20 (by decide) (fun c_20_2 => ?_) (fun c_20_2 => ?_)
  · refine lv_aload hx hb dX9_feed_25 (lv_at hl 0 rfl) ?_
    refine lv_iload_n hx hb dX9_feed_27 rfl (lv_at hl 2 rfl) ?_
    refine ti_callVv (ci := 7) (av := [.int z1]) C hw (x_X7_put l D A cy hJ M hI z1 (by omega)) ⟨ml_X9_79, ym_X7_put, yv_X7_put, yi_X7_put, yc_X7_put⟩ yd_X7_put ob_2 (by decide) rfl rfl hl.1 (Nat.le_of_ble_eq_true rfl) ⟨by decide, by decide⟩ ⟨Nat.zero_le _, Nat.zero_le _⟩ dX9_feed_28 (fun M_5 H locs hp_5 hw => ?_)
    obtain ⟨iM_5, q_6, q_7, k0M_5, k1M_5, k2M_5⟩ := hp_5
    refine lv_aload hx hb dX9_feed_31 (lv_at hl 0 rfl) ?_
    refine lv_iload_n hx hb dX9_feed_33 rfl (lv_at hl 3 rfl) ?_
    refine ti_callVv (ci := 7) (av := [.int z2]) C hw (x_X7_put l D A cy hJ M_5 iM_5 z2 (by omega)) ⟨ml_X9_79, ym_X7_put, yv_X7_put, yi_X7_put, yc_X7_put⟩ yd_X7_put ob_2 (by decide) rfl rfl hl.1 (Nat.le_of_ble_eq_true rfl) ⟨by decide, by decide⟩ ⟨Nat.zero_le _, Nat.zero_le _⟩ dX9_feed_34 (fun M_9 H locs hp_9 hw => ?_)
    obtain ⟨iM_9, q_10, q_11, k0M_9, k1M_9, k2M_9⟩ := hp_9
    refine lv_aload hx hb dX9_feed_37 (lv_at hl 0 rfl) ?_
    refine lv_iload_n hx hb dX9_feed_39 rfl (lv_at hl 4 rfl) ?_
    refine ti_callVv (ci := 7) (av := [.int z3]) C hw (x_X7_put l D A cy hJ M_9 iM_9 z3 (by omega)) ⟨ml_X9_79, ym_X7_put, yv_X7_put, yi_X7_put, yc_X7_put⟩ yd_X7_put ob_2 (by decide) rfl rfl hl.1 (Nat.le_of_ble_eq_true rfl) ⟨by decide, by decide⟩ ⟨Nat.zero_le _, Nat.zero_le _⟩ dX9_feed_40 (fun M_13 H locs hp_13 hw => ?_)
    obtain ⟨iM_13, q_14, q_15, k0M_13, k1M_13, k2M_13⟩ := hp_13
    refine lv_aload hx hb dX9_feed_43 (lv_at hl 0 rfl) ?_
    refine lv_iload hx hb dX9_feed_45 (lv_at hl 5 rfl) ?_
    refine ti_callVv (ci := 7) (av := [.int z4]) C hw (x_X7_put l D A cy hJ M_13 iM_13 z4 (by omega)) ⟨ml_X9_79, ym_X7_put, yv_X7_put, yi_X7_put, yc_X7_put⟩ yd_X7_put ob_2 (by decide) rfl rfl hl.1 (Nat.le_of_ble_eq_true rfl) ⟨by decide, by decide⟩ ⟨Nat.zero_le _, Nat.zero_le _⟩ dX9_feed_47 (fun M_17 H locs hp_17 hw => ?_)
    obtain ⟨iM_17, q_18, q_19, k0M_17, k1M_17, k2M_17⟩ := hp_17
    refine lv_aload hx hb dX9_feed_50 (lv_at hl 0 rfl) ?_
    refine lv_iload hx hb dX9_feed_52 (lv_at hl 6 rfl) ?_
    refine ti_callVv (ci := 7) (av := [.int z5]) C hw (x_X7_put l D A cy hJ M_17 iM_17 z5 (by omega)) ⟨ml_X9_79, ym_X7_put, yv_X7_put, yi_X7_put, yc_X7_put⟩ yd_X7_put ob_2 (by decide) rfl rfl hl.1 (Nat.le_of_ble_eq_true rfl) ⟨by decide, by decide⟩ ⟨Nat.zero_le _, Nat.zero_le _⟩ dX9_feed_54 (fun M_21 H locs hp_21 hw => ?_)
    obtain ⟨iM_21, q_22, q_23, k0M_21, k1M_21, k2M_21⟩ := hp_21
    refine lv_aload hx hb dX9_feed_57 (lv_at hl 0 rfl) ?_
    refine ti_get (ci := 7) (k := 1) (N := 7) (T := TX7) C hw iw_7 rfl ob_2 (by decide) (by decide) fl_X9_73 rfl rfl dX9_feed_59 ?_
    refine lv_topi (fun x_24 ex_24 => ?_)
    have bx_24 : 0 ≤ x_24.toInt ∧ x_24.toInt ≤ 700 := cI_rd iM_21 ob_2.1 ex_24
    have ux_24 : (tI M_21 2 1).toInt = x_24.toInt := by rw [ex_24]
    exact hQ _ _ _ _ _ _ hw rfl (Or.inr ⟨by omega, by omega, cF_rx hF iM_21 (rr_of ((q_22).trans ((q_18).trans ((q_14).trans ((q_10).trans q_6))))) (f0_12 (o2_12 (o2.trans q_23 (o2.trans q_19 (o2.trans q_15 (o2.trans q_11 q_7)))))), by omega, (fun i hi => ((k1M_21 i (by omega)).trans ((k1M_17 i (by omega)).trans ((k1M_13 i (by omega)).trans ((k1M_9 i (by omega)).trans (k1M_5 i (by omega))))))), (fun j hj => by
      rcases (show j < 4 ∨ (4 ≤ j ∧ j < 8) ∨ (8 ≤ j ∧ j < 12) ∨ (12 ≤ j ∧ j < 16) ∨ 16 ≤ j by omega) with g | g | g | g | g
      · have b := k2M_5 (j - 0) (by omega)
        rw [show (tI M 2 1).toInt.toNat + (j - 0) = (tI M 2 1).toInt.toNat + j by omega] at b
        rw [k1M_21 _ (by omega)]
        rw [k1M_17 _ (by omega)]
        rw [k1M_13 _ (by omega)]
        rw [k1M_9 _ (by omega)]
        unfold pp_fb
        rw [if_pos (by omega), show j % 4 = j - 0 by omega]
        exact b
      · have b := k2M_9 (j - 4) (by omega)
        rw [show (tI M_5 2 1).toInt.toNat + (j - 4) = (tI M 2 1).toInt.toNat + j by omega] at b
        rw [k1M_21 _ (by omega)]
        rw [k1M_17 _ (by omega)]
        rw [k1M_13 _ (by omega)]
        unfold pp_fb
        rw [if_neg (by omega), if_pos (by omega), show j % 4 = j - 4 by omega]
        exact b
      · have b := k2M_13 (j - 8) (by omega)
        rw [show (tI M_9 2 1).toInt.toNat + (j - 8) = (tI M 2 1).toInt.toNat + j by omega] at b
        rw [k1M_21 _ (by omega)]
        rw [k1M_17 _ (by omega)]
        unfold pp_fb
        rw [if_neg (by omega), if_neg (by omega), if_pos (by omega), show j % 4 = j - 8 by omega]
        exact b
      · have b := k2M_17 (j - 12) (by omega)
        rw [show (tI M_13 2 1).toInt.toNat + (j - 12) = (tI M 2 1).toInt.toNat + j by omega] at b
        rw [k1M_21 _ (by omega)]
        unfold pp_fb
        rw [if_neg (by omega), if_neg (by omega), if_neg (by omega), if_pos (by omega), show j % 4 = j - 12 by omega]
        exact b
      · have b := k2M_21 (j - 16) (by omega)
        rw [show (tI M_17 2 1).toInt.toNat + (j - 16) = (tI M 2 1).toInt.toNat + j by omega] at b
        unfold pp_fb
        rw [if_neg (by omega), if_neg (by omega), if_neg (by omega), if_neg (by omega), show j % 4 = j - 16 by omega]
        exact b), (fun k => ((q_23 1 k (by decide)).trans ((q_19 1 k (by decide)).trans ((q_15 1 k (by decide)).trans ((q_11 1 k (by decide)).trans (q_7 1 k (by decide)))))))⟩) dX9_feed_62
  · refine lv_iconst (v := (-1)) hx hb dX9_feed_23 (by decide) ?_
    exact hQ _ _ _ _ _ _ hw rfl (Or.inl ⟨by omega, by decide, hF, rfl, fun _ => rfl⟩) dX9_feed_24
set_option maxHeartbeats 4000000 in
set_option maxRecDepth 100000 in
theorem x_X9_text (l : Launch) (D : va_G) (A : Nat → Nat → Nat) (cy : Nat → ClassId) (hJ : ti_inj ti_LT A) (M : ti_M) (hI : cI Tc M) (hF : cF Tc M) (nn : Int32) (B : Nat → Int) (n : Nat) (hB : B = fun i => (Tc i &&& 255).toInt) (hn : n = nn.toInt.toNat) : ti_KiE l yX9_text cX9_text 3 (some .int) 74 ti_LT D A cy M [.ref (A 0 0), .int nn] (fun r M2 => ((nn.toInt < 0 ∨ (tI M 2 1).toInt < nn.toInt) ∧ r.toInt = -2 ∧ cF Tc M2 ∧ tI M2 2 1 = tI M 2 1 ∧ (∀ k : Nat, tI M2 1 k = tI M 1 k)) ∨ (¬ (nn.toInt < 0 ∨ (tI M 2 1).toInt < nn.toInt) ∧ cF Tc M2 ∧ tI M2 2 1 = 0 ∧ ∃ J : Nat → Int, r.toInt = pp_an (pp_tx B n J) ∧ (tI M2 1 4).toInt = (pp_tx B n J) 4 ∧ (tI M2 1 5).toInt = (pp_tx B n J) 5)) := by
  refine ti_eIE yp_X9_text hJ ti_LT_nd (Nat.le_of_ble_eq_true rfl) ?_
  intro p e s m args below meth c Q H0 C hE hQ hw ls hl
  have hx := C.1
  have hb := C.2.1
  have hl : lv_has ls 3 [(0, .ref (A 0 0)), (1, .int nn)] := hl
  obtain ⟨-, ⟨t1, ht1, hT1⟩, ⟨t2, ht2, hT2⟩, ⟨t, ht, hT⟩, hS, hM⟩ := id hF
  refine lv_iload_n hx hb dX9_text_0 rfl (lv_at hl 1 rfl) ?_
  refine sb_if_lt (tgt := 18) hx hb rfl dX9_text_1 (by decide) (fun c_1_0 => ?_) (fun c_1_0 => ?_)
  · refine lv_bipush (v := (-2)) hx hb dX9_text_18 (by decide) ?_
    exact hQ _ _ _ _ _ _ hw rfl (Or.inl ⟨by omega, by decide, hF, rfl, fun _ => rfl⟩) dX9_text_20
  · refine lv_iload_n hx hb dX9_text_4 rfl (lv_at hl 1 rfl) ?_
    refine lv_aload_n hx hb dX9_text_5 rfl (lv_at hl 0 rfl) ?_
    refine ti_get (ci := 9) (k := 0) (N := 10) (T := TX9) (v := .ref (A 1 0)) C hw iw_9 rfl ob_0 (by decide) (by decide) fl_X9_12 rfl rfl dX9_text_6 ?_
    refine ti_get (ci := 4) (k := 0) (N := 6) (T := TX4) (v := .ref (A 2 0)) C hw iw_4 rfl ob_1 (by decide) (by decide) fl_X9_69 rfl rfl dX9_text_9 ?_
    refine ti_get (ci := 7) (k := 1) (N := 7) (T := TX7) C hw iw_7 rfl ob_2 (by decide) (by decide) fl_X9_73 rfl rfl dX9_text_12 ?_
    refine lv_topi (fun x_2 ex_2 => ?_)
    have bx_2 : 0 ≤ x_2.toInt ∧ x_2.toInt ≤ 700 := cI_rd hI ob_2.1 ex_2
    have ux_2 : (tI M 2 1).toInt = x_2.toInt := by rw [ex_2]
    refine sb_icmp_le (tgt := 21) hx hb rfl rfl dX9_text_15 (by decide) (fun c_15_2 => ?_) (fun c_15_2 => ?_)
    · refine lv_aload_n hx hb dX9_text_21 rfl (lv_at hl 0 rfl) ?_
      refine ti_get (ci := 9) (k := 0) (N := 10) (T := TX9) (v := .ref (A 1 0)) C hw iw_9 rfl ob_0 (by decide) (by decide) fl_X9_12 rfl rfl dX9_text_22 ?_
      refine ti_get (ci := 4) (k := 0) (N := 6) (T := TX4) (v := .ref (A 2 0)) C hw iw_4 rfl ob_1 (by decide) (by decide) fl_X9_69 rfl rfl dX9_text_25 ?_
      refine lv_iconst (v := 0) hx hb dX9_text_28 (by decide) ?_
      refine ti_putI (ci := 7) (k := 1) (N := 7) (T := TX7) C hw iw_7 tyX7 tyX7_ok nmX7 rfl ob_2 (by decide) (by decide) fl_X9_73 rfl rfl rfl rfl (fn_7 A _) fs_7_1 dX9_text_29 (fun H locs hw => ?_)
      obtain ⟨M_4, hM_4⟩ : ∃ z : ti_M, z = uI M 2 1 0 := ⟨_, rfl⟩
      have hw := hw.to hM_4.symm
      have iM_4 : cI Tc M_4 := cI_uI hI hM_4 ob_2.1 (ib_mk (lo := 0) (hi := 700) (by decide) (by decide))
      have vM_4 : (tI M_4 2 1).toInt = 0 := by rw [tI_uE hM_4]; decide
      refine lv_aload_n hx hb dX9_text_32 rfl (lv_at hl 0 rfl) ?_
      refine ti_get (ci := 9) (k := 0) (N := 10) (T := TX9) (v := .ref (A 1 0)) C hw iw_9 rfl ob_0 (by decide) (by decide) fl_X9_12 rfl rfl dX9_text_33 ?_
      refine lv_iload_n hx hb dX9_text_36 rfl (lv_at hl 1 rfl) ?_
      refine lv_aload_n hx hb dX9_text_37 rfl (lv_at hl 0 rfl) ?_
      refine ti_get (ci := 9) (k := 2) (N := 10) (T := TX9) (v := .ref (A t2 0)) C hw iw_9 rfl ob_0 (by decide) (by decide) fl_X9_23 rfl (ti_Tv ((tT_uIE hM_4).trans hT2)) dX9_text_38 ?_
      refine ti_callViE (ci := 4) (av := [.int nn, .ref (A t2 0)]) C hE hw (x_X4_read l D A cy hJ M_4 iM_4 t2 ht2 nn (by omega) (by omega) B n hB hn) ⟨ml_X9_83, ym_X4_read, yv_X4_read, yi_X4_read, yc_X4_read⟩ yd_X4_read ob_1 (by decide) rfl rfl hl.1 (Nat.le_of_ble_eq_true rfl) ⟨by decide, by decide⟩ ⟨Nat.zero_le _, Nat.zero_le _⟩ dX9_text_41 (fun r_5 M_6 H locs hp_6 hw => ?_)
      obtain ⟨iM_6, q_7, q_8, q_9, q_10, p0r_5⟩ := hp_6
      obtain ⟨J, hJr, hJ4⟩ := p0r_5
      rcases hJ4 with ⟨rfl, hJ4⟩ | ⟨rfl, hJ4⟩
      · refine sb_if_ne (tgt := 49) hx hb (by decide : (1 : Int32).toInt = 1) dX9_text_44 (by decide) (fun c_44_10 => ?_) (fun h => absurd h (by decide))
        refine lv_aload_n hx hb dX9_text_49 rfl (lv_at hl 0 rfl) ?_
        refine ti_get (ci := 9) (k := 1) (N := 10) (T := TX9) (v := .ref (A t1 0)) C hw iw_9 rfl ob_0 (by decide) (by decide) fl_X9_19 rfl (ti_Tv ((q_7 0 1 (by decide)).trans ((tT_uIE hM_4).trans hT1))) dX9_text_50 ?_
        refine lv_astore_n (lv' := [(2, .ref (A t1 0)), (0, .ref (A 0 0)), (1, .int nn)]) hx hb dX9_text_53 rfl hl (by decide) rfl (fun ls hl => ?_)
        refine lv_aload_n hx hb dX9_text_54 rfl (lv_at hl 1 rfl) ?_
        refine lv_aload_n hx hb dX9_text_55 rfl (lv_at hl 1 rfl) ?_
        refine ti_get (ci := 9) (k := 2) (N := 10) (T := TX9) (v := .ref (A t2 0)) C hw iw_9 rfl ob_0 (by decide) (by decide) fl_X9_23 rfl (ti_Tv ((q_7 0 2 (by decide)).trans ((tT_uIE hM_4).trans hT2))) dX9_text_56 ?_
        refine ti_putT (ci := 9) (k := 1) (N := 10) (T := TX9) C hw iw_9 tyX9 tyX9_ok nmX9 rfl ob_0 (by decide) (by decide) fl_X9_19 rfl rfl rfl rfl (fn_9 A _) fs_9_1 dX9_text_59 (fun H locs hw => ?_)
        obtain ⟨M_13, hM_13⟩ : ∃ z : ti_M, z = uT M_6 0 1 (some t2) := ⟨_, rfl⟩
        have hw := hw.to hM_13.symm
        have iM_13 : cI Tc M_13 := cI_uT iM_6 hM_13
        refine lv_aload_n hx hb dX9_text_62 rfl (lv_at hl 1 rfl) ?_
        refine lv_aload_n hx hb dX9_text_63 rfl (lv_at hl 0 rfl) ?_
        refine ti_putT (ci := 9) (k := 2) (N := 10) (T := TX9) C hw iw_9 tyX9 tyX9_ok nmX9 rfl ob_0 (by decide) (by decide) fl_X9_23 rfl rfl rfl rfl (fn_9 A _) fs_9_2 dX9_text_64 (fun H locs hw => ?_)
        obtain ⟨M_14, hM_14⟩ : ∃ z : ti_M, z = uT M_13 0 2 (some t1) := ⟨_, rfl⟩
        have hw := hw.to hM_14.symm
        have iM_14 : cI Tc M_14 := cI_uT iM_13 hM_14
        refine lv_aload_n hx hb dX9_text_67 rfl (lv_at hl 1 rfl) ?_
        refine ti_get (ci := 9) (k := 3) (N := 10) (T := TX9) (v := .ref (A 27 0)) C hw iw_9 rfl ob_0 (by decide) (by decide) fl_X9_29 rfl rfl dX9_text_68 ?_
        refine lv_aload_n hx hb dX9_text_71 rfl (lv_at hl 1 rfl) ?_
        refine ti_get (ci := 9) (k := 1) (N := 10) (T := TX9) (v := .ref (A t2 0)) C hw iw_9 rfl ob_0 (by decide) (by decide) fl_X9_19 rfl (ti_Tv ((tT_nE hM_14 (nk (by decide))).trans (tT_uE hM_13))) dX9_text_72 ?_
        refine ti_callVv (ci := 3) (av := [.ref (A t2 0)]) C hw (s_X3_start l D A cy hJ M_14 iM_14 27 t2 ob_27 ht2) ⟨ml_X9_65, ym_X3_start, yv_X3_start, yi_X3_start, yc_X3_start⟩ yd_X3_start ob_27 (by decide) rfl rfl hl.1 (Nat.le_of_ble_eq_true rfl) ⟨by decide, by decide⟩ ⟨Nat.zero_le _, Nat.zero_le _⟩ dX9_text_75 (fun M_16 H locs hp_16 hw => ?_)
        obtain ⟨iM_16, q_17, q_18⟩ := hp_16
        refine lv_aload_n hx hb dX9_text_78 rfl (lv_at hl 1 rfl) ?_
        refine ti_get (ci := 9) (k := 5) (N := 10) (T := TX9) (v := .ref (A 28 0)) C hw iw_9 rfl ob_0 (by decide) (by decide) fl_X9_40 rfl rfl dX9_text_79 ?_
        refine ti_callVv (ci := 5) (av := []) C hw (s_X5_clear l D A cy hJ M_16 iM_16 ) ⟨ml_X9_87, ym_X5_clear, yv_X5_clear, yi_X5_clear, yc_X5_clear⟩ yd_X5_clear ob_28 (by decide) rfl rfl hl.1 (Nat.le_of_ble_eq_true rfl) ⟨by decide, by decide⟩ ⟨Nat.zero_le _, Nat.zero_le _⟩ dX9_text_82 (fun M_20 H locs hp_20 hw => ?_)
        have hM_20 := hp_20
        have iM_20 : cI Tc M_20 := cI_uI iM_16 hM_20 ob_28.1 (ib_mk (lo := 0) (hi := 20) (by decide) (by decide))
        refine lv_aload_n hx hb dX9_text_85 rfl (lv_at hl 1 rfl) ?_
        refine ti_get (ci := 9) (k := 8) (N := 10) (T := TX9) (v := .ref (A 50 0)) C hw iw_9 rfl ob_0 (by decide) (by decide) fl_X9_54 rfl rfl dX9_text_86 ?_
        refine ti_callVv (ci := 6) (av := []) C hw (s_X6_clear l D A cy hJ M_20 iM_20 ) ⟨ml_X9_90, ym_X6_clear, yv_X6_clear, yi_X6_clear, yc_X6_clear⟩ yd_X6_clear ob_50 (by decide) rfl rfl hl.1 (Nat.le_of_ble_eq_true rfl) ⟨by decide, by decide⟩ ⟨Nat.zero_le _, Nat.zero_le _⟩ dX9_text_89 (fun M_22 H locs hp_22 hw => ?_)
        obtain ⟨iM_22, q_23, q_24⟩ := hp_22
        refine lv_aload_n hx hb dX9_text_92 rfl (lv_at hl 1 rfl) ?_
        refine lv_iconst (v := 0) hx hb dX9_text_93 (by decide) ?_
        refine ti_putI (ci := 9) (k := 7) (N := 10) (T := TX9) C hw iw_9 tyX9 tyX9_ok nmX9 rfl ob_0 (by decide) (by decide) fl_X9_47 rfl rfl rfl rfl (fn_9 A _) fs_9_7 dX9_text_94 (fun H locs hw => ?_)
        obtain ⟨M_25, hM_25⟩ : ∃ z : ti_M, z = uI M_22 0 7 0 := ⟨_, rfl⟩
        have hw := hw.to hM_25.symm
        have iM_25 : cI Tc M_25 := cI_uI iM_22 hM_25 ob_0.1 trivial
        refine lv_aload_n hx hb dX9_text_97 rfl (lv_at hl 1 rfl) ?_
        refine ti_get (ci := 9) (k := 1) (N := 10) (T := TX9) (v := .ref (A t2 0)) C hw iw_9 rfl ob_0 (by decide) (by decide) fl_X9_19 rfl (ti_Tv ((tT_uIE hM_25).trans ((tT_fr q_23).trans ((tT_uIE hM_20).trans ((tT_fr q_17).trans ((tT_n _ _ _ _ (nk (by decide))).trans ((tT_nE hM_14 (nk (by decide))).trans (tT_uE hM_13)))))))) dX9_text_98 ?_
        refine ti_get (ci := 8) (k := 3) (N := 12) (T := TX8) C hw iw_8 rfl (ob_t ht2) (by decide) (by decide) fl_X9_91 rfl rfl dX9_text_101 ?_
        refine lv_topi (fun x_26 ex_26 => ?_)
        exact hQ _ _ _ _ _ _ hw rfl (Or.inr ⟨by omega, cF_mk iM_25 ⟨t2, ht2, ((tT_uIE hM_25).trans ((tT_fr q_23).trans ((tT_uIE hM_20).trans ((tT_fr q_17).trans ((tT_n _ _ _ _ (nk (by decide))).trans ((tT_nE hM_14 (nk (by decide))).trans (tT_uE hM_13)))))))⟩ ⟨t1, ht1, ((tT_uIE hM_25).trans ((tT_fr q_23).trans ((tT_uIE hM_20).trans ((tT_fr q_17).trans ((tT_n _ _ _ _ (nk (by decide))).trans (tT_uE hM_14))))))⟩ ⟨t2, ht2, ((tT_uIE hM_25).trans ((tT_fr q_23).trans ((tT_uIE hM_20).trans ((tT_fr q_17).trans (tT_u _ _ _ _)))))⟩ (by rw [((tI_nE hM_25 (nk (by decide))).trans (((q_24 2).2.2.1).trans (tI_uE hM_20)))]; decide) (by rw [(tI_uE hM_25)]; decide), ((tI_nE hM_25 (nk (by decide))).trans (((q_24 1).2.1).trans ((tI_nE hM_20 (nk (by decide))).trans (((q_18 1).2.1).trans ((tI_uTE hM_14).trans ((tI_uTE hM_13).trans ((q_9).trans (tI_uE hM_4)))))))), J, (by unfold pp_an; rw [if_pos hJ4, hJr.2.2.2.1.2.2]; exact (congrArg Int32.toInt (ex_26.symm)).symm.trans (congrArg Int32.toInt ((tI_nE hM_25 (nk (by decide))).trans (((q_24 3).2.2.2 t2 (by omega)).trans ((tI_nE hM_20 (nk (by decide))).trans (((q_18 3).2.2.2 t2 (by omega)).trans ((tI_uTE hM_14).trans (tI_uTE hM_13)))))))), (congrArg Int32.toInt ((tI_nE hM_25 (nk (by decide))).trans (((q_24 4).2.2.2 1 (by decide)).trans ((tI_nE hM_20 (nk (by decide))).trans (((q_18 4).2.2.2 1 (by decide)).trans ((tI_uTE hM_14).trans (tI_uTE hM_13))))))).trans hJr.2.2.1.1.symm, (congrArg Int32.toInt ((tI_nE hM_25 (nk (by decide))).trans (((q_24 5).2.2.2 1 (by decide)).trans ((tI_nE hM_20 (nk (by decide))).trans (((q_18 5).2.2.2 1 (by decide)).trans ((tI_uTE hM_14).trans (tI_uTE hM_13))))))).trans hJr.2.2.1.2.1.symm⟩) dX9_text_104
      · refine sb_if_ne (tgt := 49) hx hb (by decide : (0 : Int32).toInt = 0) dX9_text_44 (by decide) (fun h => absurd h (by decide)) (fun c_44_11 => ?_)
        refine lv_iconst (v := (-1)) hx hb dX9_text_47 (by decide) ?_
        exact hQ _ _ _ _ _ _ hw rfl (Or.inr ⟨by omega, cF_rr hF iM_6 (rR.trans q_7 (rr_of (rf_I hM_4))) (f0.trans q_8 (f0_I hM_4 (by decide))), ((q_9).trans (tI_uE hM_4)), J, (by unfold pp_an; rw [if_neg hJ4]; decide), hJr.2.2.1.1.symm, hJr.2.2.1.2.1.symm⟩) dX9_text_48
    · refine lv_bipush (v := (-2)) hx hb dX9_text_18 (by decide) ?_
      exact hQ _ _ _ _ _ _ hw rfl (Or.inl ⟨by omega, by decide, hF, rfl, fun _ => rfl⟩) dX9_text_20

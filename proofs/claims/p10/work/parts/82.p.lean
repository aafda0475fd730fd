variable {Tc : gC} {Tm : gM}
/-! the tape's bytes -/
theorem n8_255 (x : Int32) : x.toInt8.toInt32 &&& 255 = x &&& 255 := by
  apply Int32.toBitVec_inj.mp
  rw [Int32.toBitVec_and, Int32.toBitVec_and]
  have h : ∀ i : Nat, i < 32 → ((255 : Int32).toBitVec.getLsbD i = true → i < 8) := by decide
  have e : x.toInt8.toInt32.toBitVec = (x.toBitVec.signExtend 8).signExtend 32 := rfl
  rw [e]
  apply BitVec.eq_of_getLsbD_eq
  intro i hi
  rw [BitVec.getLsbD_and, BitVec.getLsbD_and]
  by_cases q : i < 8
  · have e2 : ((x.toBitVec.signExtend 8).signExtend 32).getLsbD i = x.toBitVec.getLsbD i := by
      rw [BitVec.getLsbD_signExtend, BitVec.getLsbD_signExtend]
      simp [q, hi]
    rw [e2]
  · have e2 : (255 : Int32).toBitVec.getLsbD i = false := by
      cases g : (255 : Int32).toBitVec.getLsbD i with
      | true => exact absurd (h i hi g) q
      | false => rfl
    rw [e2, Bool.and_false, Bool.and_false]
theorem pb_st {y x z : Int32} (e : y = x.toInt8.toInt32) (e2 : x = z) : vp_nar .byte y &&& 255 = z &&& 255 := by
  rw [vp_nar_byte, n8_255, e, n8_255, e2]
theorem cI_tp {M N : ti_M} {f : Nat → Int32} (h : cI Tc M) (e : N = uY M 2 0 f) : cI (cG N) N := by
  subst e
  refine ⟨fun o2 k2 => h.1 o2 k2, fun o2 k2 i => ?_, rfl⟩
  by_cases q : k2 = 0 ∧ o2 = 2
  · obtain ⟨rfl, rfl⟩ := q; show cBY 7 0 _; trivial
  · rw [tY_n _ _ _ _ q]; exact h.2.1 o2 k2 i
set_option maxHeartbeats 4000000 in
set_option maxRecDepth 100000 in
theorem x_X7_put (l : Launch) (D : va_G) (A : Nat → Nat → Nat) (cy : Nat → ClassId) (hJ : ti_inj ti_LT A) (M : ti_M) (hI : cI Tc M) (fo : Int32) (hm : (tI M 2 1).toInt ≤ 696) : ti_Kv l yX7_put cX7_put 3 0 ti_LT D A cy M [.ref (A 2 0), .int fo] (fun M2 => cI (cG M2) M2 ∧ M2.2.2.2 = M.2.2.2 ∧ o2 M2 M ∧ (tI M2 2 1).toInt = (tI M 2 1).toInt + 4 ∧ (∀ i : Nat, (i : Int) < (tI M 2 1).toInt → tY M2 2 0 i = tY M 2 0 i) ∧ (∀ j : Nat, j < 4 → (tY M2 2 0 ((tI M 2 1).toInt.toNat + j) &&& 255).toInt = pp_by fo j)) := by
  refine ti_eV yp_X7_put hJ ti_LT_nd (Nat.le_of_ble_eq_true rfl) ?_
  intro p e s m args below meth c Q H0 C hQ hw ls hl
  have hx := C.1
  have hb := C.2.1
  have hl : lv_has ls 3 [(0, .ref (A 2 0)), (1, .int fo)] := hl
  refine lv_bipush (v := 24) hx hb dX7_put_0 (by decide) ?_
  refine lv_istore_n (lv' := [(2, .int 24), (0, .ref (A 2 0)), (1, .int fo)]) hx hb dX7_put_2 rfl hl (by decide) rfl (fun ls hl => ?_)
  refine lv_iload_n hx hb dX7_put_3 rfl (lv_at hl 0 rfl) ?_
  refine sb_if_lt (tgt := 46) hx hb (by decide : (24 : Int32).toInt = 24) dX7_put_4 (by decide) (fun h => absurd h (by decide)) (fun c_4_0 => ?_)
  refine lv_aload_n hx hb dX7_put_7 rfl (lv_at hl 1 rfl) ?_
  refine ti_get (ci := 7) (k := 1) (N := 7) (T := TX7) C hw iw_7 rfl ob_2 (by decide) (by decide) fl_X7_15 rfl rfl dX7_put_8 ?_
  refine lv_topi (fun x_2 ex_2 => ?_)
  have bx_2 : 0 ≤ x_2.toInt ∧ x_2.toInt ≤ 700 := cI_rd hI ob_2.1 ex_2
  have ux_2 : (tI M 2 1).toInt = x_2.toInt := by rw [ex_2]
  refine lv_sipush (v := 700) hx hb dX7_put_11 (by decide) ?_
  refine sb_icmp_ge (tgt := 40) hx hb rfl (by decide : (700 : Int32).toInt = 700) dX7_put_14 (by decide) (fun h => by omega) (fun c_14_2 => ?_)
  refine lv_aload_n hx hb dX7_put_17 rfl (lv_at hl 1 rfl) ?_
  refine ti_get (ci := 7) (k := 0) (N := 7) (T := TX7) (v := .ref (A 2 1)) C hw iw_7 rfl ob_2 (by decide) (by decide) fl_X7_9 rfl rfl dX7_put_18 ?_
  refine lv_aload_n hx hb dX7_put_21 rfl (lv_at hl 1 rfl) ?_
  refine ti_get (ci := 7) (k := 1) (N := 7) (T := TX7) C hw iw_7 rfl ob_2 (by decide) (by decide) fl_X7_15 rfl rfl dX7_put_22 ?_
  refine ti_top (y := x_2) (ex_2.symm) ?_
  have u_4 : (tI M 2 1).toInt = (x_2 : Int32).toInt := by rw [(ex_2.symm)]
  refine lv_iload_n hx hb dX7_put_25 rfl (lv_at hl 2 rfl) ?_
  refine lv_iload_n hx hb dX7_put_26 rfl (lv_at hl 0 rfl) ?_
  refine lv_ishr hx hb dX7_put_27 ?_
  refine lv_topi (fun x_5 ex_5 => ?_)
  refine lv_i2b hx hb dX7_put_28 rfl ?_
  refine lv_topi (fun x_6 ex_6 => ?_)
  refine ti_bast (ci := 7) (k := 0) (n := 700) C hw ob_2 (by decide) (fun _ _ => rfl) (vp_in_iff.mpr (by omega)) dX7_put_29 (fun H locs hw => ?_)
  obtain ⟨M_7, hM_7⟩ : ∃ z : ti_M, z = uY M 2 0 (upd (tY M 2 0) (x_2 : Int32).toNatClampNeg (vp_nar .byte x_6)) := ⟨_, rfl⟩
  have hw := hw.to hM_7.symm
  have iM_7 : cI (cG M_7) M_7 := cI_tp hI hM_7
  refine lv_aload_n hx hb dX7_put_30 rfl (lv_at hl 1 rfl) ?_
  refine lv_dup hx hb dX7_put_31 rfl ?_
  refine ti_get (ci := 7) (k := 1) (N := 7) (T := TX7) C hw iw_7 rfl ob_2 (by decide) (by decide) fl_X7_15 rfl rfl dX7_put_32 ?_
  refine ti_top (y := x_2) ((tI_uYE hM_7).trans ex_2.symm) ?_
  have u_8 : (tI M_7 2 1).toInt = (x_2 : Int32).toInt := by rw [((tI_uYE hM_7).trans ex_2.symm)]
  refine lv_iconst (v := 1) hx hb dX7_put_35 (by decide) ?_
  refine lv_iadd hx hb dX7_put_36 ?_
  refine lv_topi (fun x_9 ex_9 => ?_)
  have tx_9 : x_9.toInt = x_2.toInt + 1 := i_add ex_9 rfl (by decide : (1 : Int32).toInt = 1) (by omega) (by omega)
  refine ti_putI (ci := 7) (k := 1) (N := 7) (T := TX7) C hw iw_7 tyX7 tyX7_ok nmX7 rfl ob_2 (by decide) (by decide) fl_X7_15 rfl rfl rfl rfl (fn_7 A _) fs_7_1 dX7_put_37 (fun H locs hw => ?_)
  obtain ⟨M_10, hM_10⟩ : ∃ z : ti_M, z = uI M_7 2 1 x_9 := ⟨_, rfl⟩
  have hw := hw.to hM_10.symm
  have iM_10 : cI (cG M_7) M_10 := cI_uI iM_7 hM_10 ob_2.1 (ib_mk (lo := 0) (hi := 700) (by omega) (by omega))
  have vM_10 : (tI M_10 2 1).toInt = (x_9 : Int32).toInt := by rw [tI_uE hM_10]
  refine lv_iinc (v := 16) (lv' := [(2, .int 16), (0, .ref (A 2 0)), (1, .int fo)]) hx hb dX7_put_40 hl (k := 0) rfl (by decide) (by decide) rfl (fun ls hl => ?_)
  refine lv_goto (tgt := 3) hx hb dX7_put_43 (by decide) ?_
  refine lv_iload_n hx hb dX7_put_3 rfl (lv_at hl 0 rfl) ?_
  refine sb_if_lt (tgt := 46) hx hb (by decide : (16 : Int32).toInt = 16) dX7_put_4 (by decide) (fun h => absurd h (by decide)) (fun c_4_10 => ?_)
  refine lv_aload_n hx hb dX7_put_7 rfl (lv_at hl 1 rfl) ?_
  refine ti_get (ci := 7) (k := 1) (N := 7) (T := TX7) C hw iw_7 rfl ob_2 (by decide) (by decide) fl_X7_15 rfl rfl dX7_put_8 ?_
  refine ti_top (y := x_9) (tI_uE hM_10) ?_
  have u_12 : (tI M_10 2 1).toInt = (x_9 : Int32).toInt := by rw [(tI_uE hM_10)]
  refine lv_sipush (v := 700) hx hb dX7_put_11 (by decide) ?_
  refine sb_icmp_ge (tgt := 40) hx hb rfl (by decide : (700 : Int32).toInt = 700) dX7_put_14 (by decide) (fun h => by omega) (fun c_14_12 => ?_)
  refine lv_aload_n hx hb dX7_put_17 rfl (lv_at hl 1 rfl) ?_
  refine ti_get (ci := 7) (k := 0) (N := 7) (T := TX7) (v := .ref (A 2 1)) C hw iw_7 rfl ob_2 (by decide) (by decide) fl_X7_9 rfl rfl dX7_put_18 ?_
  refine lv_aload_n hx hb dX7_put_21 rfl (lv_at hl 1 rfl) ?_
  refine ti_get (ci := 7) (k := 1) (N := 7) (T := TX7) C hw iw_7 rfl ob_2 (by decide) (by decide) fl_X7_15 rfl rfl dX7_put_22 ?_
  refine ti_top (y := x_9) (tI_uE hM_10) ?_
  have u_14 : (tI M_10 2 1).toInt = (x_9 : Int32).toInt := by rw [(tI_uE hM_10)]
  refine lv_iload_n hx hb dX7_put_25 rfl (lv_at hl 2 rfl) ?_
  refine lv_iload_n hx hb dX7_put_26 rfl (lv_at hl 0 rfl) ?_
  refine lv_ishr hx hb dX7_put_27 ?_
  refine lv_topi (fun x_15 ex_15 => ?_)
  refine lv_i2b hx hb dX7_put_28 rfl ?_
  refine lv_topi (fun x_16 ex_16 => ?_)
  refine ti_bast (ci := 7) (k := 0) (n := 700) C hw ob_2 (by decide) (fun _ _ => rfl) (vp_in_iff.mpr (by omega)) dX7_put_29 (fun H locs hw => ?_)
  obtain ⟨M_17, hM_17⟩ : ∃ z : ti_M, z = uY M_10 2 0 (upd (tY M_10 2 0) (x_9 : Int32).toNatClampNeg (vp_nar .byte x_16)) := ⟨_, rfl⟩
  have hw := hw.to hM_17.symm
  have iM_17 : cI (cG M_17) M_17 := cI_tp iM_10 hM_17
  refine lv_aload_n hx hb dX7_put_30 rfl (lv_at hl 1 rfl) ?_
  refine lv_dup hx hb dX7_put_31 rfl ?_
  refine ti_get (ci := 7) (k := 1) (N := 7) (T := TX7) C hw iw_7 rfl ob_2 (by decide) (by decide) fl_X7_15 rfl rfl dX7_put_32 ?_
  refine ti_top (y := x_9) ((tI_uYE hM_17).trans (tI_uE hM_10)) ?_
  have u_18 : (tI M_17 2 1).toInt = (x_9 : Int32).toInt := by rw [((tI_uYE hM_17).trans (tI_uE hM_10))]
  refine lv_iconst (v := 1) hx hb dX7_put_35 (by decide) ?_
  refine lv_iadd hx hb dX7_put_36 ?_
  refine lv_topi (fun x_19 ex_19 => ?_)
  have tx_19 : x_19.toInt = x_9.toInt + 1 := i_add ex_19 rfl (by decide : (1 : Int32).toInt = 1) (by omega) (by omega)
  refine ti_putI (ci := 7) (k := 1) (N := 7) (T := TX7) C hw iw_7 tyX7 tyX7_ok nmX7 rfl ob_2 (by decide) (by decide) fl_X7_15 rfl rfl rfl rfl (fn_7 A _) fs_7_1 dX7_put_37 (fun H locs hw => ?_)
  obtain ⟨M_20, hM_20⟩ : ∃ z : ti_M, z = uI M_17 2 1 x_19 := ⟨_, rfl⟩
  have hw := hw.to hM_20.symm
  have iM_20 : cI (cG M_17) M_20 := cI_uI iM_17 hM_20 ob_2.1 (ib_mk (lo := 0) (hi := 700) (by omega) (by omega))
  have vM_20 : (tI M_20 2 1).toInt = (x_19 : Int32).toInt := by rw [tI_uE hM_20]
  refine lv_iinc (v := 8) (lv' := [(2, .int 8), (0, .ref (A 2 0)), (1, .int fo)]) hx hb dX7_put_40 hl (k := 0) rfl (by decide) (by decide) rfl (fun ls hl => ?_)
  refine lv_goto (tgt := 3) hx hb dX7_put_43 (by decide) ?_
  refine lv_iload_n hx hb dX7_put_3 rfl (lv_at hl 0 rfl) ?_
  refine sb_if_lt (tgt := 46) hx hb (by decide : (8 : Int32).toInt = 8) dX7_put_4 (by decide) (fun h => absurd h (by decide)) (fun c_4_20 => ?_)
  refine lv_aload_n hx hb dX7_put_7 rfl (lv_at hl 1 rfl) ?_
  refine ti_get (ci := 7) (k := 1) (N := 7) (T := TX7) C hw iw_7 rfl ob_2 (by decide) (by decide) fl_X7_15 rfl rfl dX7_put_8 ?_
  refine ti_top (y := x_19) (tI_uE hM_20) ?_
  have u_22 : (tI M_20 2 1).toInt = (x_19 : Int32).toInt := by rw [(tI_uE hM_20)]
  refine lv_sipush (v := 700) hx hb dX7_put_11 (by decide) ?_
  refine sb_icmp_ge (tgt := 40) hx hb rfl (by decide : (700 : Int32).toInt = 700) dX7_put_14 (by decide) (fun h => by omega) (fun c_14_22 => ?_)
  refine lv_aload_n hx hb dX7_put_17 rfl (lv_at hl 1 rfl) ?_
  refine ti_get (ci := 7) (k := 0) (N := 7) (T := TX7) (v := .ref (A 2 1)) C hw iw_7 rfl ob_2 (by decide) (by decide) fl_X7_9 rfl rfl dX7_put_18 ?_
  refine lv_aload_n hx hb dX7_put_21 rfl (lv_at hl 1 rfl) ?_
  refine ti_get (ci := 7) (k := 1) (N := 7) (T := TX7) C hw iw_7 rfl ob_2 (by decide) (by decide) fl_X7_15 rfl rfl dX7_put_22 ?_
  refine ti_top (y := x_19) (tI_uE hM_20) ?_
  have u_24 : (tI M_20 2 1).toInt = (x_19 : Int32).toInt := by rw [(tI_uE hM_20)]
  refine lv_iload_n hx hb dX7_put_25 rfl (lv_at hl 2 rfl) ?_
  refine lv_iload_n hx hb dX7_put_26 rfl (lv_at hl 0 rfl) ?_
  refine lv_ishr hx hb dX7_put_27 ?_
  refine lv_topi (fun x_25 ex_25 => ?_)
  refine lv_i2b hx hb dX7_put_28 rfl ?_
  refine lv_topi (fun x_26 ex_26 => ?_)
  refine ti_bast (ci := 7) (k := 0) (n := 700) C hw ob_2 (by decide) (fun _ _ => rfl) (vp_in_iff.mpr (by omega)) dX7_put_29 (fun H locs hw => ?_)
  obtain ⟨M_27, hM_27⟩ : ∃ z : ti_M, z = uY M_20 2 0 (upd (tY M_20 2 0) (x_19 : Int32).toNatClampNeg (vp_nar .byte x_26)) := ⟨_, rfl⟩
  have hw := hw.to hM_27.symm
  have iM_27 : cI (cG M_27) M_27 := cI_tp iM_20 hM_27
  refine lv_aload_n hx hb dX7_put_30 rfl (lv_at hl 1 rfl) ?_
  refine lv_dup hx hb dX7_put_31 rfl ?_
  refine ti_get (ci := 7) (k := 1) (N := 7) (T := TX7) C hw iw_7 rfl ob_2 (by decide) (by decide) fl_X7_15 rfl rfl dX7_put_32 ?_
  refine ti_top (y := x_19) ((tI_uYE hM_27).trans (tI_uE hM_20)) ?_
  have u_28 : (tI M_27 2 1).toInt = (x_19 : Int32).toInt := by rw [((tI_uYE hM_27).trans (tI_uE hM_20))]
  refine lv_iconst (v := 1) hx hb dX7_put_35 (by decide) ?_
  refine lv_iadd hx hb dX7_put_36 ?_
  refine lv_topi (fun x_29 ex_29 => ?_)
  have tx_29 : x_29.toInt = x_19.toInt + 1 := i_add ex_29 rfl (by decide : (1 : Int32).toInt = 1) (by omega) (by omega)
  refine ti_putI (ci := 7) (k := 1) (N := 7) (T := TX7) C hw iw_7 tyX7 tyX7_ok nmX7 rfl ob_2 (by decide) (by decide) fl_X7_15 rfl rfl rfl rfl (fn_7 A _) fs_7_1 dX7_put_37 (fun H locs hw => ?_)
  obtain ⟨M_30, hM_30⟩ : ∃ z : ti_M, z = uI M_27 2 1 x_29 := ⟨_, rfl⟩
  have hw := hw.to hM_30.symm
  have iM_30 : cI (cG M_27) M_30 := cI_uI iM_27 hM_30 ob_2.1 (ib_mk (lo := 0) (hi := 700) (by omega) (by omega))
  have vM_30 : (tI M_30 2 1).toInt = (x_29 : Int32).toInt := by rw [tI_uE hM_30]
  refine lv_iinc (v := 0) (lv' := [(2, .int 0), (0, .ref (A 2 0)), (1, .int fo)]) hx hb dX7_put_40 hl (k := 0) rfl (by decide) (by decide) rfl (fun ls hl => ?_)
  refine lv_goto (tgt := 3) hx hb dX7_put_43 (by decide) ?_
  refine lv_iload_n hx hb dX7_put_3 rfl (lv_at hl 0 rfl) ?_
  refine sb_if_lt (tgt := 46) hx hb (by decide : (0 : Int32).toInt = 0) dX7_put_4 (by decide) (fun h => absurd h (by decide)) (fun c_4_30 => ?_)
  refine lv_aload_n hx hb dX7_put_7 rfl (lv_at hl 1 rfl) ?_
  refine ti_get (ci := 7) (k := 1) (N := 7) (T := TX7) C hw iw_7 rfl ob_2 (by decide) (by decide) fl_X7_15 rfl rfl dX7_put_8 ?_
  refine ti_top (y := x_29) (tI_uE hM_30) ?_
  have u_32 : (tI M_30 2 1).toInt = (x_29 : Int32).toInt := by rw [(tI_uE hM_30)]
  refine lv_sipush (v := 700) hx hb dX7_put_11 (by decide) ?_
  refine sb_icmp_ge (tgt := 40) hx hb rfl (by decide : (700 : Int32).toInt = 700) dX7_put_14 (by decide) (fun h => by omega) (fun c_14_32 => ?_)
  refine lv_aload_n hx hb dX7_put_17 rfl (lv_at hl 1 rfl) ?_
  refine ti_get (ci := 7) (k := 0) (N := 7) (T := TX7) (v := .ref (A 2 1)) C hw iw_7 rfl ob_2 (by decide) (by decide) fl_X7_9 rfl rfl dX7_put_18 ?_
  refine lv_aload_n hx hb dX7_put_21 rfl (lv_at hl 1 rfl) ?_
  refine ti_get (ci := 7) (k := 1) (N := 7) (T := TX7) C hw iw_7 rfl ob_2 (by decide) (by decide) fl_X7_15 rfl rfl dX7_put_22 ?_
  refine ti_top (y := x_29) (tI_uE hM_30) ?_
  have u_34 : (tI M_30 2 1).toInt = (x_29 : Int32).toInt := by rw [(tI_uE hM_30)]
  refine lv_iload_n hx hb dX7_put_25 rfl (lv_at hl 2 rfl) ?_
  refine lv_iload_n hx hb dX7_put_26 rfl (lv_at hl 0 rfl) ?_
  refine lv_ishr hx hb dX7_put_27 ?_
  refine lv_topi (fun x_35 ex_35 => ?_)
  refine lv_i2b hx hb dX7_put_28 rfl ?_
  refine lv_topi (fun x_36 ex_36 => ?_)
  refine ti_bast (ci := 7) (k := 0) (n := 700) C hw ob_2 (by decide) (fun _ _ => rfl) (vp_in_iff.mpr (by omega)) dX7_put_29 (fun H locs hw => ?_)
  obtain ⟨M_37, hM_37⟩ : ∃ z : ti_M, z = uY M_30 2 0 (upd (tY M_30 2 0) (x_29 : Int32).toNatClampNeg (vp_nar .byte x_36)) := ⟨_, rfl⟩
  have hw := hw.to hM_37.symm
  have iM_37 : cI (cG M_37) M_37 := cI_tp iM_30 hM_37
  refine lv_aload_n hx hb dX7_put_30 rfl (lv_at hl 1 rfl) ?_
  refine lv_dup hx hb dX7_put_31 rfl ?_
  refine ti_get (ci := 7) (k := 1) (N := 7) (T := TX7) C hw iw_7 rfl ob_2 (by decide) (by decide) fl_X7_15 rfl rfl dX7_put_32 ?_
  refine ti_top (y := x_29) ((tI_uYE hM_37).trans (tI_uE hM_30)) ?_
  have u_38 : (tI M_37 2 1).toInt = (x_29 : Int32).toInt := by rw [((tI_uYE hM_37).trans (tI_uE hM_30))]
  refine lv_iconst (v := 1) hx hb dX7_put_35 (by decide) ?_
  refine lv_iadd hx hb dX7_put_36 ?_
  refine lv_topi (fun x_39 ex_39 => ?_)
  have tx_39 : x_39.toInt = x_29.toInt + 1 := i_add ex_39 rfl (by decide : (1 : Int32).toInt = 1) (by omega) (by omega)
  refine ti_putI (ci := 7) (k := 1) (N := 7) (T := TX7) C hw iw_7 tyX7 tyX7_ok nmX7 rfl ob_2 (by decide) (by decide) fl_X7_15 rfl rfl rfl rfl (fn_7 A _) fs_7_1 dX7_put_37 (fun H locs hw => ?_)
  obtain ⟨M_40, hM_40⟩ : ∃ z : ti_M, z = uI M_37 2 1 x_39 := ⟨_, rfl⟩
  have hw := hw.to hM_40.symm
  have iM_40 : cI (cG M_37) M_40 := cI_uI iM_37 hM_40 ob_2.1 (ib_mk (lo := 0) (hi := 700) (by omega) (by omega))
  have vM_40 : (tI M_40 2 1).toInt = (x_39 : Int32).toInt := by rw [tI_uE hM_40]
  refine lv_iinc (v := (-8)) (lv' := [(2, .int (-8)), (0, .ref (A 2 0)), (1, .int fo)]) hx hb dX7_put_40 hl (k := 0) rfl (by decide) (by decide) rfl (fun ls hl => ?_)
  refine lv_goto (tgt := 3) hx hb dX7_put_43 (by decide) ?_
  refine lv_iload_n hx hb dX7_put_3 rfl (lv_at hl 0 rfl) ?_
  refine sb_if_lt (tgt := 46) hx hb (by decide : ((-8) : Int32).toInt = (-8)) dX7_put_4 (by decide) (fun c_4_40 => ?_) (fun h => absurd h (by decide))
  exact hQ _ _ _ _ _ hw (⟨cI_self iM_40, ((rf_I hM_40).trans ((rf_Y hM_37).trans ((rf_I hM_30).trans ((rf_Y hM_27).trans ((rf_I hM_20).trans ((rf_Y hM_17).trans ((rf_I hM_10).trans (rf_Y hM_7)))))))), (o2.trans (o2_I hM_40) (o2.trans (o2_of (ra_Y hM_37)) (o2.trans (o2_I hM_30) (o2.trans (o2_of (ra_Y hM_27)) (o2.trans (o2_I hM_20) (o2.trans (o2_of (ra_Y hM_17)) (o2.trans (o2_I hM_10) (o2_of (ra_Y hM_7))))))))), by rw [(tI_uE hM_40)]; omega, (fun i hi => by rw [tY_uIE hM_40, tY_uE hM_37, pk_un (show i ≠ (x_29 : Int32).toNatClampNeg by (show i ≠ (x_29 : Int32).toInt.toNat; omega)), tY_uIE hM_30, tY_uE hM_27, pk_un (show i ≠ (x_19 : Int32).toNatClampNeg by (show i ≠ (x_19 : Int32).toInt.toNat; omega)), tY_uIE hM_20, tY_uE hM_17, pk_un (show i ≠ (x_9 : Int32).toNatClampNeg by (show i ≠ (x_9 : Int32).toInt.toNat; omega)), tY_uIE hM_10, tY_uE hM_7, pk_un (show i ≠ (x_2 : Int32).toNatClampNeg by (show i ≠ (x_2 : Int32).toInt.toNat; omega))]), (fun j hj => by
      obtain rfl | rfl | rfl | rfl : j = 0 ∨ j = 1 ∨ j = 2 ∨ j = 3 := by omega
      · exact (by rw [show (tI M 2 1).toInt.toNat + 0 = (x_2 : Int32).toNatClampNeg by (show _ = (x_2 : Int32).toInt.toNat; omega), tY_uIE hM_40, tY_uE hM_37, pk_un (show (x_2 : Int32).toNatClampNeg ≠ (x_29 : Int32).toNatClampNeg by (show (x_2 : Int32).toInt.toNat ≠ (x_29 : Int32).toInt.toNat; omega)), tY_uIE hM_30, tY_uE hM_27, pk_un (show (x_2 : Int32).toNatClampNeg ≠ (x_19 : Int32).toNatClampNeg by (show (x_2 : Int32).toInt.toNat ≠ (x_19 : Int32).toInt.toNat; omega)), tY_uIE hM_20, tY_uE hM_17, pk_un (show (x_2 : Int32).toNatClampNeg ≠ (x_9 : Int32).toNatClampNeg by (show (x_2 : Int32).toInt.toNat ≠ (x_9 : Int32).toInt.toNat; omega)), tY_uIE hM_10, tY_uE hM_7, pk_us, pb_st ex_6 ex_5]; rfl)
      · exact (by rw [show (tI M 2 1).toInt.toNat + 1 = (x_9 : Int32).toNatClampNeg by (show _ = (x_9 : Int32).toInt.toNat; omega), tY_uIE hM_40, tY_uE hM_37, pk_un (show (x_9 : Int32).toNatClampNeg ≠ (x_29 : Int32).toNatClampNeg by (show (x_9 : Int32).toInt.toNat ≠ (x_29 : Int32).toInt.toNat; omega)), tY_uIE hM_30, tY_uE hM_27, pk_un (show (x_9 : Int32).toNatClampNeg ≠ (x_19 : Int32).toNatClampNeg by (show (x_9 : Int32).toInt.toNat ≠ (x_19 : Int32).toInt.toNat; omega)), tY_uIE hM_20, tY_uE hM_17, pk_us, pb_st ex_16 ex_15]; rfl)
      · exact (by rw [show (tI M 2 1).toInt.toNat + 2 = (x_19 : Int32).toNatClampNeg by (show _ = (x_19 : Int32).toInt.toNat; omega), tY_uIE hM_40, tY_uE hM_37, pk_un (show (x_19 : Int32).toNatClampNeg ≠ (x_29 : Int32).toNatClampNeg by (show (x_19 : Int32).toInt.toNat ≠ (x_29 : Int32).toInt.toNat; omega)), tY_uIE hM_30, tY_uE hM_27, pk_us, pb_st ex_26 ex_25]; rfl)
      · exact (by rw [show (tI M 2 1).toInt.toNat + 3 = (x_29 : Int32).toNatClampNeg by (show _ = (x_29 : Int32).toInt.toNat; omega), tY_uIE hM_40, tY_uE hM_37, pk_us, pb_st ex_36 ex_35]; rfl))⟩) dX7_put_46
theorem cF_rx {M N : ti_M} {Tn : gC} (h : cF Tc M) (hI : cI Tn N) (r : rR N M) (x : f0 N M) : cF Tn N := by
  obtain ⟨-, h1, h2, h3, h4, h5⟩ := h
  refine ⟨hI, h1.to (r 0 1 (by decide)), h2.to (r 0 2 (by decide)), h3.to (r 27 0 (by decide)), h4.to (x 1).2 (x 2).2 (fun i hi => r _ _ (by omega)), fun q => (h5 ?_).to (r 49 0 (by decide))⟩
  rwa [(x 7).1] at q
variable {Tc : gC} {Tm : gM}
def lk (N M : ti_M) : Prop := lw N M ∧ ik N M
theorem lk_of {N M : ti_M} (a : lw N M) (b : ik N M) : lk N M := ⟨a, b⟩
theorem lk.refl {M : ti_M} : lk M M := ⟨fun _ _ _ => rfl, rfl, rfl, rfl⟩
theorem lk.trans {K N M : ti_M} (a : lk K N) (b : lk N M) : lk K M := ⟨fun k h1 h2 => (a.1 k h1 h2).trans (b.1 k h1 h2), a.2.1.trans b.2.1, a.2.2.1.trans b.2.2.1, a.2.2.2.trans b.2.2.2⟩
theorem lk_I {M N : ti_M} {k : Nat} {v : Int32} (e : N = uI M 60 k v) (h : k ≠ 2 ∧ k ≠ 51 ∧ k ≠ 52) : lk N M := ⟨(qw_I e h).1, (qw_I e h).2.1⟩
theorem lk_Y {M N : ti_M} {k : Nat} {v : Nat → Int32} (e : N = uY M 60 k v) (h : k < 3 ∨ 17 < k) : lk N M := ⟨fun k2 h1 h2 => tY_nE e (nk (by omega)), tI_uYE e, tI_uYE e, tI_uYE e⟩
theorem lk_Z {M N : ti_M} {k : Nat} {v : Nat → Int64} (e : N = uZ M 60 k v) : lk N M := ⟨fun _ _ _ => tY_uZE e, tI_uZE e, tI_uZE e, tI_uZE e⟩
set_option maxHeartbeats 4000000 in
set_option maxRecDepth 100000 in
theorem s_X10_calls_0 (l : Launch) (D : va_G) (A : Nat → Nat → Nat) (cy : Nat → ClassId) (hJ : ti_inj ti_LM A) (M : ti_M) (hI : mI Tm M) (a b t : Int32) (h1 : 0 ≤ a.toInt) (h2 : a.toInt ≤ 7) : ti_Kv l yX10_calls cX10_calls 6 0 ti_LM D A cy M [.ref (A 60 0), .int 0, .int a, .int b, .int t] (fun M2 => mI Tm M2 ∧ qw M2 M ∧ M2.2.1 = M.2.1) := by
  refine ti_eV yp_X10_calls hJ ti_LM_nd (Nat.le_of_ble_eq_true rfl) ?_
  intro p e s m args below meth c Q H0 C hQ hw ls hl
  have hx := C.1
  have hb := C.2.1
  have hl : lv_has ls 6 [(0, .ref (A 60 0)), (1, .int 0), (2, .int a), (3, .int b), (4, .int t)] := hl
  refine lv_bipush (v := 8) hx hb dX10_calls_0 (by decide) ?_
  refine lv_iload_n hx hb dX10_calls_2 rfl (lv_at hl 1 rfl) ?_
  refine lv_imul hx hb dX10_calls_3 ?_
  refine ti_top (y := 0) (by decide) ?_
  refine lv_iload_n hx hb dX10_calls_4 rfl (lv_at hl 2 rfl) ?_
  refine lv_iadd hx hb dX10_calls_5 ?_
  refine lv_topi (fun x_1 ex_1 => ?_)
  have tx_1 : x_1.toInt = 0 + a.toInt := i_add ex_1 (by decide : (0 : Int32).toInt = 0) rfl (by omega) (by omega)
  refine lv_istore (lv' := [(5, .int x_1), (0, .ref (A 60 0)), (1, .int 0), (2, .int a), (3, .int b), (4, .int t)]) hx hb dX10_calls_6 hl (by decide) rfl (fun ls hl => ?_)
  refine lv_aload_n hx hb dX10_calls_8 rfl (lv_at hl 1 rfl) ?_
  refine ti_get (ci := 10) (k := 31) (N := 67) (T := TX10) (v := .ref (A 60 32)) C hw iw_10 rfl ob_60 (by decide) (by decide) fl_X10_62 rfl rfl dX10_calls_9 ?_
  refine lv_iconst (v := 0) hx hb dX10_calls_12 (by decide) ?_
  refine lv_aload_n hx hb dX10_calls_13 rfl (lv_at hl 1 rfl) ?_
  refine ti_get (ci := 10) (k := 5) (N := 67) (T := TX10) (v := .ref (A 60 6)) C hw iw_10 rfl ob_60 (by decide) (by decide) fl_X10_19 rfl rfl dX10_calls_14 ?_
  refine lv_iload_n hx hb dX10_calls_17 rfl (lv_at hl 3 rfl) ?_
  refine ti_iald (ci := 10) (k := 5) (n := 16) C hw ob_60 (by decide) (fun _ _ => rfl) (vp_in_iff.mpr (by omega)) dX10_calls_18 ?_
  refine lv_topi (fun x_2 ex_2 => ?_)
  have yx_2 : tY M 60 5 a.toNatClampNeg = x_2 := (ex_2.symm)
  obtain ⟨x_3, ex_3⟩ : ∃ z : Int64, z = x_2.toInt64 := ⟨_, rfl⟩
  refine lv_i2l (v := x_3) hx hb dX10_calls_19 ex_3.symm ?_
  refine ti_last (ci := 10) (k := 31) (n := 6) C hw ob_60 (by decide) (fun _ _ => rfl) (by unfold vp_in; decide) dX10_calls_20 (fun H locs hw => ?_)
  obtain ⟨M_4, hM_4⟩ : ∃ z : ti_M, z = uZ M 60 31 (vp_updL (tZ M 60 31) (0 : Int32).toNatClampNeg x_3) := ⟨_, rfl⟩
  have hw := hw.to hM_4.symm
  have iM_4 : mI Tm M_4 := mI_uZ hI hM_4
  refine lv_aload_n hx hb dX10_calls_21 rfl (lv_at hl 1 rfl) ?_
  refine ti_get (ci := 10) (k := 31) (N := 67) (T := TX10) (v := .ref (A 60 32)) C hw iw_10 rfl ob_60 (by decide) (by decide) fl_X10_62 rfl rfl dX10_calls_22 ?_
  refine lv_iconst (v := 1) hx hb dX10_calls_25 (by decide) ?_
  refine lv_aload_n hx hb dX10_calls_26 rfl (lv_at hl 1 rfl) ?_
  refine ti_get (ci := 10) (k := 6) (N := 67) (T := TX10) (v := .ref (A 60 7)) C hw iw_10 rfl ob_60 (by decide) (by decide) fl_X10_22 rfl rfl dX10_calls_27 ?_
  refine lv_iload_n hx hb dX10_calls_30 rfl (lv_at hl 3 rfl) ?_
  refine ti_iald (ci := 10) (k := 6) (n := 16) C hw ob_60 (by decide) (fun _ _ => rfl) (vp_in_iff.mpr (by omega)) dX10_calls_31 ?_
  refine lv_topi (fun x_5 ex_5 => ?_)
  have yx_5 : tY M_4 60 6 a.toNatClampNeg = x_5 := (ex_5.symm)
  have wx_5 : tY M 60 6 a.toNatClampNeg = x_5 := ((cg (tY_uZE hM_4) a.toNatClampNeg)).symm.trans yx_5
  obtain ⟨x_6, ex_6⟩ : ∃ z : Int64, z = x_5.toInt64 := ⟨_, rfl⟩
  refine lv_i2l (v := x_6) hx hb dX10_calls_32 ex_6.symm ?_
  refine ti_last (ci := 10) (k := 31) (n := 6) C hw ob_60 (by decide) (fun _ _ => rfl) (by unfold vp_in; decide) dX10_calls_33 (fun H locs hw => ?_)
  obtain ⟨M_7, hM_7⟩ : ∃ z : ti_M, z = uZ M_4 60 31 (vp_updL (tZ M_4 60 31) (1 : Int32).toNatClampNeg x_6) := ⟨_, rfl⟩
  have hw := hw.to hM_7.symm
  have iM_7 : mI Tm M_7 := mI_uZ iM_4 hM_7
  refine lv_aload_n hx hb dX10_calls_34 rfl (lv_at hl 1 rfl) ?_
  refine ti_get (ci := 10) (k := 31) (N := 67) (T := TX10) (v := .ref (A 60 32)) C hw iw_10 rfl ob_60 (by decide) (by decide) fl_X10_62 rfl rfl dX10_calls_35 ?_
  refine lv_iconst (v := 2) hx hb dX10_calls_38 (by decide) ?_
  refine lv_aload_n hx hb dX10_calls_39 rfl (lv_at hl 1 rfl) ?_
  refine ti_get (ci := 10) (k := 8) (N := 67) (T := TX10) (v := .ref (A 60 9)) C hw iw_10 rfl ob_60 (by decide) (by decide) fl_X10_28 rfl rfl dX10_calls_40 ?_
  refine lv_iload_n hx hb dX10_calls_43 rfl (lv_at hl 3 rfl) ?_
  refine ti_iald (ci := 10) (k := 8) (n := 16) C hw ob_60 (by decide) (fun _ _ => rfl) (vp_in_iff.mpr (by omega)) dX10_calls_44 ?_
  refine lv_topi (fun x_8 ex_8 => ?_)
  have yx_8 : tY M_7 60 8 a.toNatClampNeg = x_8 := (ex_8.symm)
  have wx_8 : tY M 60 8 a.toNatClampNeg = x_8 := (((cg (tY_uZE hM_7) a.toNatClampNeg).trans (cg (tY_uZE hM_4) a.toNatClampNeg))).symm.trans yx_8
  obtain ⟨x_9, ex_9⟩ : ∃ z : Int64, z = x_8.toInt64 := ⟨_, rfl⟩
  refine lv_i2l (v := x_9) hx hb dX10_calls_45 ex_9.symm ?_
  refine ti_last (ci := 10) (k := 31) (n := 6) C hw ob_60 (by decide) (fun _ _ => rfl) (by unfold vp_in; decide) dX10_calls_46 (fun H locs hw => ?_)
  obtain ⟨M_10, hM_10⟩ : ∃ z : ti_M, z = uZ M_7 60 31 (vp_updL (tZ M_7 60 31) (2 : Int32).toNatClampNeg x_9) := ⟨_, rfl⟩
  have hw := hw.to hM_10.symm
  have iM_10 : mI Tm M_10 := mI_uZ iM_7 hM_10
  refine lv_aload_n hx hb dX10_calls_47 rfl (lv_at hl 1 rfl) ?_
  refine ti_get (ci := 10) (k := 31) (N := 67) (T := TX10) (v := .ref (A 60 32)) C hw iw_10 rfl ob_60 (by decide) (by decide) fl_X10_62 rfl rfl dX10_calls_48 ?_
  refine lv_iconst (v := 3) hx hb dX10_calls_51 (by decide) ?_
  refine lv_aload_n hx hb dX10_calls_52 rfl (lv_at hl 1 rfl) ?_
  refine ti_get (ci := 10) (k := 43) (N := 67) (T := TX10) (v := .ref (A 60 44)) C hw iw_10 rfl ob_60 (by decide) (by decide) fl_X10_96 rfl rfl dX10_calls_53 ?_
  refine lv_iload hx hb dX10_calls_56 (lv_at hl 0 rfl) ?_
  refine ti_iald (ci := 10) (k := 43) (n := 184) C hw ob_60 (by decide) (fun _ _ => rfl) (vp_in_iff.mpr (by omega)) dX10_calls_58 ?_
  refine lv_topi (fun x_11 ex_11 => ?_)
  have yx_11 : tY M_10 60 43 x_1.toNatClampNeg = x_11 := (ex_11.symm)
  have wx_11 : tY M 60 43 x_1.toNatClampNeg = x_11 := (((cg (tY_uZE hM_10) x_1.toNatClampNeg).trans ((cg (tY_uZE hM_7) x_1.toNatClampNeg).trans (cg (tY_uZE hM_4) x_1.toNatClampNeg)))).symm.trans yx_11
  obtain ⟨x_12, ex_12⟩ : ∃ z : Int64, z = x_11.toInt64 := ⟨_, rfl⟩
  refine lv_i2l (v := x_12) hx hb dX10_calls_59 ex_12.symm ?_
  refine ti_last (ci := 10) (k := 31) (n := 6) C hw ob_60 (by decide) (fun _ _ => rfl) (by unfold vp_in; decide) dX10_calls_60 (fun H locs hw => ?_)
  obtain ⟨M_13, hM_13⟩ : ∃ z : ti_M, z = uZ M_10 60 31 (vp_updL (tZ M_10 60 31) (3 : Int32).toNatClampNeg x_12) := ⟨_, rfl⟩
  have hw := hw.to hM_13.symm
  have iM_13 : mI Tm M_13 := mI_uZ iM_10 hM_13
  refine lv_aload_n hx hb dX10_calls_61 rfl (lv_at hl 1 rfl) ?_
  refine ti_get (ci := 10) (k := 31) (N := 67) (T := TX10) (v := .ref (A 60 32)) C hw iw_10 rfl ob_60 (by decide) (by decide) fl_X10_62 rfl rfl dX10_calls_62 ?_
  refine lv_iconst (v := 4) hx hb dX10_calls_65 (by decide) ?_
  refine lv_iload_n hx hb dX10_calls_66 rfl (lv_at hl 4 rfl) ?_
  obtain ⟨x_14, ex_14⟩ : ∃ z : Int64, z = b.toInt64 := ⟨_, rfl⟩
  refine lv_i2l (v := x_14) hx hb dX10_calls_67 ex_14.symm ?_
  refine ti_last (ci := 10) (k := 31) (n := 6) C hw ob_60 (by decide) (fun _ _ => rfl) (by unfold vp_in; decide) dX10_calls_68 (fun H locs hw => ?_)
  obtain ⟨M_15, hM_15⟩ : ∃ z : ti_M, z = uZ M_13 60 31 (vp_updL (tZ M_13 60 31) (4 : Int32).toNatClampNeg x_14) := ⟨_, rfl⟩
  have hw := hw.to hM_15.symm
  have iM_15 : mI Tm M_15 := mI_uZ iM_13 hM_15
  refine lv_aload_n hx hb dX10_calls_69 rfl (lv_at hl 1 rfl) ?_
  refine ti_get (ci := 10) (k := 31) (N := 67) (T := TX10) (v := .ref (A 60 32)) C hw iw_10 rfl ob_60 (by decide) (by decide) fl_X10_62 rfl rfl dX10_calls_70 ?_
  refine lv_iconst (v := 5) hx hb dX10_calls_73 (by decide) ?_
  refine lv_iload hx hb dX10_calls_74 (lv_at hl 5 rfl) ?_
  refine lv_aload_n hx hb dX10_calls_76 rfl (lv_at hl 1 rfl) ?_
  refine ti_get (ci := 10) (k := 45) (N := 67) (T := TX10) (v := .ref (A 60 46)) C hw iw_10 rfl ob_60 (by decide) (by decide) fl_X10_102 rfl rfl dX10_calls_77 ?_
  refine lv_iload hx hb dX10_calls_80 (lv_at hl 0 rfl) ?_
  refine ti_iald (ci := 10) (k := 45) (n := 184) C hw ob_60 (by decide) (fun _ _ => rfl) (vp_in_iff.mpr (by omega)) dX10_calls_82 ?_
  refine lv_topi (fun x_16 ex_16 => ?_)
  have yx_16 : tY M_15 60 45 x_1.toNatClampNeg = x_16 := (ex_16.symm)
  have wx_16 : tY M 60 45 x_1.toNatClampNeg = x_16 := (((cg (tY_uZE hM_15) x_1.toNatClampNeg).trans ((cg (tY_uZE hM_13) x_1.toNatClampNeg).trans ((cg (tY_uZE hM_10) x_1.toNatClampNeg).trans ((cg (tY_uZE hM_7) x_1.toNatClampNeg).trans (cg (tY_uZE hM_4) x_1.toNatClampNeg)))))).symm.trans yx_16
  refine lv_isub hx hb dX10_calls_83 ?_
  refine lv_topi (fun x_17 ex_17 => ?_)
  obtain ⟨x_18, ex_18⟩ : ∃ z : Int64, z = x_17.toInt64 := ⟨_, rfl⟩
  refine lv_i2l (v := x_18) hx hb dX10_calls_84 ex_18.symm ?_
  refine ti_last (ci := 10) (k := 31) (n := 6) C hw ob_60 (by decide) (fun _ _ => rfl) (by unfold vp_in; decide) dX10_calls_85 (fun H locs hw => ?_)
  obtain ⟨M_19, hM_19⟩ : ∃ z : ti_M, z = uZ M_15 60 31 (vp_updL (tZ M_15 60 31) (5 : Int32).toNatClampNeg x_18) := ⟨_, rfl⟩
  have hw := hw.to hM_19.symm
  have iM_19 : mI Tm M_19 := mI_uZ iM_15 hM_19
  exact hQ _ _ _ _ _ hw (⟨iM_19, (qw.trans (qw_Z hM_19) (qw.trans (qw_Z hM_15) (qw.trans (qw_Z hM_13) (qw.trans (qw_Z hM_10) (qw.trans (qw_Z hM_7) (qw_Z hM_4)))))), ((ry_Z hM_19).trans ((ry_Z hM_15).trans ((ry_Z hM_13).trans ((ry_Z hM_10).trans ((ry_Z hM_7).trans (ry_Z hM_4))))))⟩) dX10_calls_86
set_option maxHeartbeats 4000000 in
set_option maxRecDepth 100000 in
theorem s_X10_calls_1 (l : Launch) (D : va_G) (A : Nat → Nat → Nat) (cy : Nat → ClassId) (hJ : ti_inj ti_LM A) (M : ti_M) (hI : mI Tm M) (a b t : Int32) (h1 : 0 ≤ a.toInt) (h2 : a.toInt ≤ 7) : ti_Kv l yX10_calls cX10_calls 6 0 ti_LM D A cy M [.ref (A 60 0), .int 1, .int a, .int b, .int t] (fun M2 => mI Tm M2 ∧ qw M2 M ∧ M2.2.1 = M.2.1) := by
  refine ti_eV yp_X10_calls hJ ti_LM_nd (Nat.le_of_ble_eq_true rfl) ?_
  intro p e s m args below meth c Q H0 C hQ hw ls hl
  have hx := C.1
  have hb := C.2.1
  have hl : lv_has ls 6 [(0, .ref (A 60 0)), (1, .int 1), (2, .int a), (3, .int b), (4, .int t)] := hl
  refine lv_bipush (v := 8) hx hb dX10_calls_0 (by decide) ?_
  refine lv_iload_n hx hb dX10_calls_2 rfl (lv_at hl 1 rfl) ?_
  refine lv_imul hx hb dX10_calls_3 ?_
  refine ti_top (y := 8) (by decide) ?_
  refine lv_iload_n hx hb dX10_calls_4 rfl (lv_at hl 2 rfl) ?_
  refine lv_iadd hx hb dX10_calls_5 ?_
  refine lv_topi (fun x_1 ex_1 => ?_)
  have tx_1 : x_1.toInt = 8 + a.toInt := i_add ex_1 (by decide : (8 : Int32).toInt = 8) rfl (by omega) (by omega)
  refine lv_istore (lv' := [(5, .int x_1), (0, .ref (A 60 0)), (1, .int 1), (2, .int a), (3, .int b), (4, .int t)]) hx hb dX10_calls_6 hl (by decide) rfl (fun ls hl => ?_)
  refine lv_aload_n hx hb dX10_calls_8 rfl (lv_at hl 1 rfl) ?_
  refine ti_get (ci := 10) (k := 31) (N := 67) (T := TX10) (v := .ref (A 60 32)) C hw iw_10 rfl ob_60 (by decide) (by decide) fl_X10_62 rfl rfl dX10_calls_9 ?_
  refine lv_iconst (v := 0) hx hb dX10_calls_12 (by decide) ?_
  refine lv_aload_n hx hb dX10_calls_13 rfl (lv_at hl 1 rfl) ?_
  refine ti_get (ci := 10) (k := 5) (N := 67) (T := TX10) (v := .ref (A 60 6)) C hw iw_10 rfl ob_60 (by decide) (by decide) fl_X10_19 rfl rfl dX10_calls_14 ?_
  refine lv_iload_n hx hb dX10_calls_17 rfl (lv_at hl 3 rfl) ?_
  refine ti_iald (ci := 10) (k := 5) (n := 16) C hw ob_60 (by decide) (fun _ _ => rfl) (vp_in_iff.mpr (by omega)) dX10_calls_18 ?_
  refine lv_topi (fun x_2 ex_2 => ?_)
  have yx_2 : tY M 60 5 a.toNatClampNeg = x_2 := (ex_2.symm)
  obtain ⟨x_3, ex_3⟩ : ∃ z : Int64, z = x_2.toInt64 := ⟨_, rfl⟩
  refine lv_i2l (v := x_3) hx hb dX10_calls_19 ex_3.symm ?_
  refine ti_last (ci := 10) (k := 31) (n := 6) C hw ob_60 (by decide) (fun _ _ => rfl) (by unfold vp_in; decide) dX10_calls_20 (fun H locs hw => ?_)
  obtain ⟨M_4, hM_4⟩ : ∃ z : ti_M, z = uZ M 60 31 (vp_updL (tZ M 60 31) (0 : Int32).toNatClampNeg x_3) := ⟨_, rfl⟩
  have hw := hw.to hM_4.symm
  have iM_4 : mI Tm M_4 := mI_uZ hI hM_4
  refine lv_aload_n hx hb dX10_calls_21 rfl (lv_at hl 1 rfl) ?_
  refine ti_get (ci := 10) (k := 31) (N := 67) (T := TX10) (v := .ref (A 60 32)) C hw iw_10 rfl ob_60 (by decide) (by decide) fl_X10_62 rfl rfl dX10_calls_22 ?_
  refine lv_iconst (v := 1) hx hb dX10_calls_25 (by decide) ?_
  refine lv_aload_n hx hb dX10_calls_26 rfl (lv_at hl 1 rfl) ?_
  refine ti_get (ci := 10) (k := 6) (N := 67) (T := TX10) (v := .ref (A 60 7)) C hw iw_10 rfl ob_60 (by decide) (by decide) fl_X10_22 rfl rfl dX10_calls_27 ?_
  refine lv_iload_n hx hb dX10_calls_30 rfl (lv_at hl 3 rfl) ?_
  refine ti_iald (ci := 10) (k := 6) (n := 16) C hw ob_60 (by decide) (fun _ _ => rfl) (vp_in_iff.mpr (by omega)) dX10_calls_31 ?_
  refine lv_topi (fun x_5 ex_5 => ?_)
  have yx_5 : tY M_4 60 6 a.toNatClampNeg = x_5 := (ex_5.symm)
  have wx_5 : tY M 60 6 a.toNatClampNeg = x_5 := ((cg (tY_uZE hM_4) a.toNatClampNeg)).symm.trans yx_5
  obtain ⟨x_6, ex_6⟩ : ∃ z : Int64, z = x_5.toInt64 := ⟨_, rfl⟩
  refine lv_i2l (v := x_6) hx hb dX10_calls_32 ex_6.symm ?_
  refine ti_last (ci := 10) (k := 31) (n := 6) C hw ob_60 (by decide) (fun _ _ => rfl) (by unfold vp_in; decide) dX10_calls_33 (fun H locs hw => ?_)
  obtain ⟨M_7, hM_7⟩ : ∃ z : ti_M, z = uZ M_4 60 31 (vp_updL (tZ M_4 60 31) (1 : Int32).toNatClampNeg x_6) := ⟨_, rfl⟩
  have hw := hw.to hM_7.symm
  have iM_7 : mI Tm M_7 := mI_uZ iM_4 hM_7
  refine lv_aload_n hx hb dX10_calls_34 rfl (lv_at hl 1 rfl) ?_
  refine ti_get (ci := 10) (k := 31) (N := 67) (T := TX10) (v := .ref (A 60 32)) C hw iw_10 rfl ob_60 (by decide) (by decide) fl_X10_62 rfl rfl dX10_calls_35 ?_
  refine lv_iconst (v := 2) hx hb dX10_calls_38 (by decide) ?_
  refine lv_aload_n hx hb dX10_calls_39 rfl (lv_at hl 1 rfl) ?_
  refine ti_get (ci := 10) (k := 8) (N := 67) (T := TX10) (v := .ref (A 60 9)) C hw iw_10 rfl ob_60 (by decide) (by decide) fl_X10_28 rfl rfl dX10_calls_40 ?_
  refine lv_iload_n hx hb dX10_calls_43 rfl (lv_at hl 3 rfl) ?_
  refine ti_iald (ci := 10) (k := 8) (n := 16) C hw ob_60 (by decide) (fun _ _ => rfl) (vp_in_iff.mpr (by omega)) dX10_calls_44 ?_
  refine lv_topi (fun x_8 ex_8 => ?_)
  have yx_8 : tY M_7 60 8 a.toNatClampNeg = x_8 := (ex_8.symm)
  have wx_8 : tY M 60 8 a.toNatClampNeg = x_8 := (((cg (tY_uZE hM_7) a.toNatClampNeg).trans (cg (tY_uZE hM_4) a.toNatClampNeg))).symm.trans yx_8
  obtain ⟨x_9, ex_9⟩ : ∃ z : Int64, z = x_8.toInt64 := ⟨_, rfl⟩
  refine lv_i2l (v := x_9) hx hb dX10_calls_45 ex_9.symm ?_
  refine ti_last (ci := 10) (k := 31) (n := 6) C hw ob_60 (by decide) (fun _ _ => rfl) (by unfold vp_in; decide) dX10_calls_46 (fun H locs hw => ?_)
  obtain ⟨M_10, hM_10⟩ : ∃ z : ti_M, z = uZ M_7 60 31 (vp_updL (tZ M_7 60 31) (2 : Int32).toNatClampNeg x_9) := ⟨_, rfl⟩
  have hw := hw.to hM_10.symm
  have iM_10 : mI Tm M_10 := mI_uZ iM_7 hM_10
  refine lv_aload_n hx hb dX10_calls_47 rfl (lv_at hl 1 rfl) ?_
  refine ti_get (ci := 10) (k := 31) (N := 67) (T := TX10) (v := .ref (A 60 32)) C hw iw_10 rfl ob_60 (by decide) (by decide) fl_X10_62 rfl rfl dX10_calls_48 ?_
  refine lv_iconst (v := 3) hx hb dX10_calls_51 (by decide) ?_
  refine lv_aload_n hx hb dX10_calls_52 rfl (lv_at hl 1 rfl) ?_
  refine ti_get (ci := 10) (k := 43) (N := 67) (T := TX10) (v := .ref (A 60 44)) C hw iw_10 rfl ob_60 (by decide) (by decide) fl_X10_96 rfl rfl dX10_calls_53 ?_
  refine lv_iload hx hb dX10_calls_56 (lv_at hl 0 rfl) ?_
  refine ti_iald (ci := 10) (k := 43) (n := 184) C hw ob_60 (by decide) (fun _ _ => rfl) (vp_in_iff.mpr (by omega)) dX10_calls_58 ?_
  refine lv_topi (fun x_11 ex_11 => ?_)
  have yx_11 : tY M_10 60 43 x_1.toNatClampNeg = x_11 := (ex_11.symm)
  have wx_11 : tY M 60 43 x_1.toNatClampNeg = x_11 := (((cg (tY_uZE hM_10) x_1.toNatClampNeg).trans ((cg (tY_uZE hM_7) x_1.toNatClampNeg).trans (cg (tY_uZE hM_4) x_1.toNatClampNeg)))).symm.trans yx_11
  obtain ⟨x_12, ex_12⟩ : ∃ z : Int64, z = x_11.toInt64 := ⟨_, rfl⟩
  refine lv_i2l (v := x_12) hx hb dX10_calls_59 ex_12.symm ?_
  refine ti_last (ci := 10) (k := 31) (n := 6) C hw ob_60 (by decide) (fun _ _ => rfl) (by unfold vp_in; decide) dX10_calls_60 (fun H locs hw => ?_)
  obtain ⟨M_13, hM_13⟩ : ∃ z : ti_M, z = uZ M_10 60 31 (vp_updL (tZ M_10 60 31) (3 : Int32).toNatClampNeg x_12) := ⟨_, rfl⟩
  have hw := hw.to hM_13.symm
  have iM_13 : mI Tm M_13 := mI_uZ iM_10 hM_13
  refine lv_aload_n hx hb dX10_calls_61 rfl (lv_at hl 1 rfl) ?_
  refine ti_get (ci := 10) (k := 31) (N := 67) (T := TX10) (v := .ref (A 60 32)) C hw iw_10 rfl ob_60 (by decide) (by decide) fl_X10_62 rfl rfl dX10_calls_62 ?_
  refine lv_iconst (v := 4) hx hb dX10_calls_65 (by decide) ?_
  refine lv_iload_n hx hb dX10_calls_66 rfl (lv_at hl 4 rfl) ?_
  obtain ⟨x_14, ex_14⟩ : ∃ z : Int64, z = b.toInt64 := ⟨_, rfl⟩
  refine lv_i2l (v := x_14) hx hb dX10_calls_67 ex_14.symm ?_
  refine ti_last (ci := 10) (k := 31) (n := 6) C hw ob_60 (by decide) (fun _ _ => rfl) (by unfold vp_in; decide) dX10_calls_68 (fun H locs hw => ?_)
  obtain ⟨M_15, hM_15⟩ : ∃ z : ti_M, z = uZ M_13 60 31 (vp_updL (tZ M_13 60 31) (4 : Int32).toNatClampNeg x_14) := ⟨_, rfl⟩
  have hw := hw.to hM_15.symm
  have iM_15 : mI Tm M_15 := mI_uZ iM_13 hM_15
  refine lv_aload_n hx hb dX10_calls_69 rfl (lv_at hl 1 rfl) ?_
  refine ti_get (ci := 10) (k := 31) (N := 67) (T := TX10) (v := .ref (A 60 32)) C hw iw_10 rfl ob_60 (by decide) (by decide) fl_X10_62 rfl rfl dX10_calls_70 ?_
  refine lv_iconst (v := 5) hx hb dX10_calls_73 (by decide) ?_
  refine lv_iload hx hb dX10_calls_74 (lv_at hl 5 rfl) ?_
  refine lv_aload_n hx hb dX10_calls_76 rfl (lv_at hl 1 rfl) ?_
  refine ti_get (ci := 10) (k := 45) (N := 67) (T := TX10) (v := .ref (A 60 46)) C hw iw_10 rfl ob_60 (by decide) (by decide) fl_X10_102 rfl rfl dX10_calls_77 ?_
  refine lv_iload hx hb dX10_calls_80 (lv_at hl 0 rfl) ?_
  refine ti_iald (ci := 10) (k := 45) (n := 184) C hw ob_60 (by decide) (fun _ _ => rfl) (vp_in_iff.mpr (by omega)) dX10_calls_82 ?_
  refine lv_topi (fun x_16 ex_16 => ?_)
  have yx_16 : tY M_15 60 45 x_1.toNatClampNeg = x_16 := (ex_16.symm)
  have wx_16 : tY M 60 45 x_1.toNatClampNeg = x_16 := (((cg (tY_uZE hM_15) x_1.toNatClampNeg).trans ((cg (tY_uZE hM_13) x_1.toNatClampNeg).trans ((cg (tY_uZE hM_10) x_1.toNatClampNeg).trans ((cg (tY_uZE hM_7) x_1.toNatClampNeg).trans (cg (tY_uZE hM_4) x_1.toNatClampNeg)))))).symm.trans yx_16
  refine lv_isub hx hb dX10_calls_83 ?_
  refine lv_topi (fun x_17 ex_17 => ?_)
  obtain ⟨x_18, ex_18⟩ : ∃ z : Int64, z = x_17.toInt64 := ⟨_, rfl⟩
  refine lv_i2l (v := x_18) hx hb dX10_calls_84 ex_18.symm ?_
  refine ti_last (ci := 10) (k := 31) (n := 6) C hw ob_60 (by decide) (fun _ _ => rfl) (by unfold vp_in; decide) dX10_calls_85 (fun H locs hw => ?_)
  obtain ⟨M_19, hM_19⟩ : ∃ z : ti_M, z = uZ M_15 60 31 (vp_updL (tZ M_15 60 31) (5 : Int32).toNatClampNeg x_18) := ⟨_, rfl⟩
  have hw := hw.to hM_19.symm
  have iM_19 : mI Tm M_19 := mI_uZ iM_15 hM_19
  exact hQ _ _ _ _ _ hw (⟨iM_19, (qw.trans (qw_Z hM_19) (qw.trans (qw_Z hM_15) (qw.trans (qw_Z hM_13) (qw.trans (qw_Z hM_10) (qw.trans (qw_Z hM_7) (qw_Z hM_4)))))), ((ry_Z hM_19).trans ((ry_Z hM_15).trans ((ry_Z hM_13).trans ((ry_Z hM_10).trans ((ry_Z hM_7).trans (ry_Z hM_4))))))⟩) dX10_calls_86
set_option maxHeartbeats 4000000 in
set_option maxRecDepth 100000 in
theorem s_X10_needOf_0 (l : Launch) (D : va_G) (A : Nat → Nat → Nat) (cy : Nat → ClassId) (hJ : ti_inj ti_LM A) (M : ti_M) (hI : mI Tm M) (hL : mL M) (t : Int32) : ti_Ki l yX10_needOf cX10_needOf 3 (some .int) 4 ti_LM D A cy M [.ref (A 60 0), .int 0, .int t] (fun r M2 => mI Tm M2 ∧ qw M2 M ∧ M2.2.1 = M.2.1) := by
  refine ti_eI yp_X10_needOf hJ ti_LM_nd (Nat.le_of_ble_eq_true rfl) ?_
  intro p e s m args below meth c Q H0 C hQ hw ls hl
  have hx := C.1
  have hb := C.2.1
  have hl : lv_has ls 3 [(0, .ref (A 60 0)), (1, .int 0), (2, .int t)] := hl
  refine lv_aload_n hx hb dX10_needOf_0 rfl (lv_at hl 0 rfl) ?_
  refine lv_iload_n hx hb dX10_needOf_1 rfl (lv_at hl 1 rfl) ?_
  refine lv_aload_n hx hb dX10_needOf_2 rfl (lv_at hl 0 rfl) ?_
  refine ti_get (ci := 10) (k := 39) (N := 67) (T := TX10) (v := .ref (A 60 40)) C hw iw_10 rfl ob_60 (by decide) (by decide) fl_X10_84 rfl rfl dX10_needOf_3 ?_
  refine lv_bipush (v := 8) hx hb dX10_needOf_6 (by decide) ?_
  refine lv_iload_n hx hb dX10_needOf_8 rfl (lv_at hl 1 rfl) ?_
  refine lv_imul hx hb dX10_needOf_9 ?_
  refine ti_top (y := 0) (by decide) ?_
  refine ti_iald (ci := 10) (k := 39) (n := 184) C hw ob_60 (by decide) (fun _ _ => rfl) (by unfold vp_in; decide) dX10_needOf_10 ?_
  refine lv_topi (fun x_1 ex_1 => ?_)
  have yx_1 : tY M 60 39 0 = x_1 := ((congrArg _ (by decide)).symm.trans ex_1.symm)
  have bx_1 : 0 ≤ x_1.toInt ∧ x_1.toInt ≤ 7 := mI_ry (k := 39) (i := 0) hI yx_1.symm
  refine lv_aload_n hx hb dX10_needOf_11 rfl (lv_at hl 0 rfl) ?_
  refine ti_get (ci := 10) (k := 38) (N := 67) (T := TX10) (v := .ref (A 60 39)) C hw iw_10 rfl ob_60 (by decide) (by decide) fl_X10_81 rfl rfl dX10_needOf_12 ?_
  refine lv_iload_n hx hb dX10_needOf_15 rfl (lv_at hl 1 rfl) ?_
  refine ti_iald (ci := 10) (k := 38) (n := 23) C hw ob_60 (by decide) (fun _ _ => rfl) (by unfold vp_in; decide) dX10_needOf_16 ?_
  refine lv_topi (fun x_2 ex_2 => ?_)
  have yx_2 : tY M 60 38 0 = x_2 := ((congrArg _ (by decide)).symm.trans ex_2.symm)
  have bx_2 : 0 ≤ x_2.toInt ∧ x_2.toInt ≤ 8 := mI_ry (k := 38) (i := 0) hI yx_2.symm
  have zx_2 : (tY M 60 38 0).toInt = x_2.toInt := by rw [yx_2]
  refine lv_iload_n hx hb dX10_needOf_17 rfl (lv_at hl 2 rfl) ?_
  refine ti_callVv (ci := 10) (av := [.int 0, .int x_1, .int x_2, .int t]) C hw (s_X10_calls_0 l D A cy hJ M hI x_1 x_2 t (by first | omega | decide) (by first | omega | decide)) ⟨ml_X10_363, ym_X10_calls, yv_X10_calls, yi_X10_calls, yc_X10_calls⟩ yd_X10_calls ob_60 (by decide) rfl rfl hl.1 (Nat.le_of_ble_eq_true rfl) ⟨by decide, by decide⟩ ⟨Nat.zero_le _, Nat.zero_le _⟩ dX10_needOf_18 (fun M_4 H locs hp_4 hw => ?_)
  obtain ⟨iM_4, q_5, q_6⟩ := hp_4
  refine lv_aload_n hx hb dX10_needOf_21 rfl (lv_at hl 0 rfl) ?_
  refine lv_iconst (v := 2) hx hb dX10_needOf_22 (by decide) ?_
  refine lv_iconst (v := 1) hx hb dX10_needOf_23 (by decide) ?_
  refine lv_bipush (v := 9) hx hb dX10_needOf_24 (by decide) ?_
  refine lv_aload_n hx hb dX10_needOf_26 rfl (lv_at hl 0 rfl) ?_
  refine ti_get (ci := 10) (k := 38) (N := 67) (T := TX10) (v := .ref (A 60 39)) C hw iw_10 rfl ob_60 (by decide) (by decide) fl_X10_81 rfl rfl dX10_needOf_27 ?_
  refine lv_iload_n hx hb dX10_needOf_30 rfl (lv_at hl 1 rfl) ?_
  refine ti_iald (ci := 10) (k := 38) (n := 23) C hw ob_60 (by decide) (fun _ _ => rfl) (by unfold vp_in; decide) dX10_needOf_31 ?_
  refine ti_top (y := x_2) ((congrArg _ (by decide)).trans ((cg (tY_fr q_6) 0).trans yx_2)) ?_
  refine lv_iconst (v := 1) hx hb dX10_needOf_32 (by decide) ?_
  refine lv_iadd hx hb dX10_needOf_33 ?_
  refine lv_topi (fun x_7 ex_7 => ?_)
  have tx_7 : x_7.toInt = x_2.toInt + 1 := i_add ex_7 rfl (by decide : (1 : Int32).toInt = 1) (by omega) (by omega)
  refine lv_iconst (v := 2) hx hb dX10_needOf_34 (by decide) ?_
  refine lv_idiv hx hb dX10_needOf_35 (by decide) ?_
  refine lv_topi (fun x_8 ex_8 => ?_)
  refine ti_callVi (ci := 10) (av := [.int 2, .int 1, .int 9, .int x_8]) C hw (s_X10_within l D A cy hJ M_4 iM_4 (mL_lw (lk_of q_5.1 q_5.2.1).1 hL) 2 (by first | omega | decide) (by first | omega | decide) 1 9 x_8) ⟨ml_X10_367, ym_X10_within, yv_X10_within, yi_X10_within, yc_X10_within⟩ yd_X10_within ob_60 (by decide) rfl rfl hl.1 (Nat.le_of_ble_eq_true rfl) ⟨by decide, by decide⟩ ⟨Nat.zero_le _, Nat.zero_le _⟩ dX10_needOf_36 (fun r_9 M_10 H locs hp_10 hw => ?_)
  obtain ⟨iM_10, q_11, q_12⟩ := hp_10
  exact hQ _ _ _ _ _ _ hw rfl (⟨iM_10, (qw.trans q_11 q_5), ((q_12).trans q_6)⟩) dX10_needOf_39
set_option maxHeartbeats 4000000 in
set_option maxRecDepth 100000 in
theorem s_X10_needOf_1 (l : Launch) (D : va_G) (A : Nat → Nat → Nat) (cy : Nat → ClassId) (hJ : ti_inj ti_LM A) (M : ti_M) (hI : mI Tm M) (hL : mL M) (t : Int32) : ti_Ki l yX10_needOf cX10_needOf 3 (some .int) 4 ti_LM D A cy M [.ref (A 60 0), .int 1, .int t] (fun r M2 => mI Tm M2 ∧ qw M2 M ∧ M2.2.1 = M.2.1) := by
  refine ti_eI yp_X10_needOf hJ ti_LM_nd (Nat.le_of_ble_eq_true rfl) ?_
  intro p e s m args below meth c Q H0 C hQ hw ls hl
  have hx := C.1
  have hb := C.2.1
  have hl : lv_has ls 3 [(0, .ref (A 60 0)), (1, .int 1), (2, .int t)] := hl
  refine lv_aload_n hx hb dX10_needOf_0 rfl (lv_at hl 0 rfl) ?_
  refine lv_iload_n hx hb dX10_needOf_1 rfl (lv_at hl 1 rfl) ?_
  refine lv_aload_n hx hb dX10_needOf_2 rfl (lv_at hl 0 rfl) ?_
  refine ti_get (ci := 10) (k := 39) (N := 67) (T := TX10) (v := .ref (A 60 40)) C hw iw_10 rfl ob_60 (by decide) (by decide) fl_X10_84 rfl rfl dX10_needOf_3 ?_
  refine lv_bipush (v := 8) hx hb dX10_needOf_6 (by decide) ?_
  refine lv_iload_n hx hb dX10_needOf_8 rfl (lv_at hl 1 rfl) ?_
  refine lv_imul hx hb dX10_needOf_9 ?_
  refine ti_top (y := 8) (by decide) ?_
  refine ti_iald (ci := 10) (k := 39) (n := 184) C hw ob_60 (by decide) (fun _ _ => rfl) (by unfold vp_in; decide) dX10_needOf_10 ?_
  refine lv_topi (fun x_1 ex_1 => ?_)
  have yx_1 : tY M 60 39 8 = x_1 := ((congrArg _ (by decide)).symm.trans ex_1.symm)
  have bx_1 : 0 ≤ x_1.toInt ∧ x_1.toInt ≤ 7 := mI_ry (k := 39) (i := 8) hI yx_1.symm
  refine lv_aload_n hx hb dX10_needOf_11 rfl (lv_at hl 0 rfl) ?_
  refine ti_get (ci := 10) (k := 38) (N := 67) (T := TX10) (v := .ref (A 60 39)) C hw iw_10 rfl ob_60 (by decide) (by decide) fl_X10_81 rfl rfl dX10_needOf_12 ?_
  refine lv_iload_n hx hb dX10_needOf_15 rfl (lv_at hl 1 rfl) ?_
  refine ti_iald (ci := 10) (k := 38) (n := 23) C hw ob_60 (by decide) (fun _ _ => rfl) (by unfold vp_in; decide) dX10_needOf_16 ?_
  refine lv_topi (fun x_2 ex_2 => ?_)
  have yx_2 : tY M 60 38 1 = x_2 := ((congrArg _ (by decide)).symm.trans ex_2.symm)
  have bx_2 : 0 ≤ x_2.toInt ∧ x_2.toInt ≤ 8 := mI_ry (k := 38) (i := 1) hI yx_2.symm
  have zx_2 : (tY M 60 38 1).toInt = x_2.toInt := by rw [yx_2]
  refine lv_iload_n hx hb dX10_needOf_17 rfl (lv_at hl 2 rfl) ?_
  refine ti_callVv (ci := 10) (av := [.int 1, .int x_1, .int x_2, .int t]) C hw (s_X10_calls_1 l D A cy hJ M hI x_1 x_2 t (by first | omega | decide) (by first | omega | decide)) ⟨ml_X10_363, ym_X10_calls, yv_X10_calls, yi_X10_calls, yc_X10_calls⟩ yd_X10_calls ob_60 (by decide) rfl rfl hl.1 (Nat.le_of_ble_eq_true rfl) ⟨by decide, by decide⟩ ⟨Nat.zero_le _, Nat.zero_le _⟩ dX10_needOf_18 (fun M_4 H locs hp_4 hw => ?_)
  obtain ⟨iM_4, q_5, q_6⟩ := hp_4
  refine lv_aload_n hx hb dX10_needOf_21 rfl (lv_at hl 0 rfl) ?_
  refine lv_iconst (v := 2) hx hb dX10_needOf_22 (by decide) ?_
  refine lv_iconst (v := 1) hx hb dX10_needOf_23 (by decide) ?_
  refine lv_bipush (v := 9) hx hb dX10_needOf_24 (by decide) ?_
  refine lv_aload_n hx hb dX10_needOf_26 rfl (lv_at hl 0 rfl) ?_
  refine ti_get (ci := 10) (k := 38) (N := 67) (T := TX10) (v := .ref (A 60 39)) C hw iw_10 rfl ob_60 (by decide) (by decide) fl_X10_81 rfl rfl dX10_needOf_27 ?_
  refine lv_iload_n hx hb dX10_needOf_30 rfl (lv_at hl 1 rfl) ?_
  refine ti_iald (ci := 10) (k := 38) (n := 23) C hw ob_60 (by decide) (fun _ _ => rfl) (by unfold vp_in; decide) dX10_needOf_31 ?_
  refine ti_top (y := x_2) ((congrArg _ (by decide)).trans ((cg (tY_fr q_6) 1).trans yx_2)) ?_
  refine lv_iconst (v := 1) hx hb dX10_needOf_32 (by decide) ?_
  refine lv_iadd hx hb dX10_needOf_33 ?_
  refine lv_topi (fun x_7 ex_7 => ?_)
  have tx_7 : x_7.toInt = x_2.toInt + 1 := i_add ex_7 rfl (by decide : (1 : Int32).toInt = 1) (by omega) (by omega)
  refine lv_iconst (v := 2) hx hb dX10_needOf_34 (by decide) ?_
  refine lv_idiv hx hb dX10_needOf_35 (by decide) ?_
  refine lv_topi (fun x_8 ex_8 => ?_)
  refine ti_callVi (ci := 10) (av := [.int 2, .int 1, .int 9, .int x_8]) C hw (s_X10_within l D A cy hJ M_4 iM_4 (mL_lw (lk_of q_5.1 q_5.2.1).1 hL) 2 (by first | omega | decide) (by first | omega | decide) 1 9 x_8) ⟨ml_X10_367, ym_X10_within, yv_X10_within, yi_X10_within, yc_X10_within⟩ yd_X10_within ob_60 (by decide) rfl rfl hl.1 (Nat.le_of_ble_eq_true rfl) ⟨by decide, by decide⟩ ⟨Nat.zero_le _, Nat.zero_le _⟩ dX10_needOf_36 (fun r_9 M_10 H locs hp_10 hw => ?_)
  obtain ⟨iM_10, q_11, q_12⟩ := hp_10
  exact hQ _ _ _ _ _ _ hw rfl (⟨iM_10, (qw.trans q_11 q_5), ((q_12).trans q_6)⟩) dX10_needOf_39
set_option maxHeartbeats 4000000 in
set_option maxRecDepth 100000 in
theorem s_X10_isGuarded_0 (l : Launch) (D : va_G) (A : Nat → Nat → Nat) (cy : Nat → ClassId) (hJ : ti_inj ti_LM A) (M : ti_M) (hI : mI Tm M)  : ti_Ki l yX10_isGuarded cX10_isGuarded 2 (some .boolean) 0 ti_LM D A cy M [.ref (A 60 0), .int 0] (fun r M2 => M2 = M ∧ 0 ≤ r.toInt ∧ r.toInt ≤ 1) := by
  refine ti_eI yp_X10_isGuarded hJ ti_LM_nd (Nat.le_of_ble_eq_true rfl) ?_
  intro p e s m args below meth c Q H0 C hQ hw ls hl
  have hx := C.1
  have hb := C.2.1
  have hl : lv_has ls 2 [(0, .ref (A 60 0)), (1, .int 0)] := hl
  refine lv_aload_n hx hb dX10_isGuarded_0 rfl (lv_at hl 0 rfl) ?_
  refine ti_get (ci := 10) (k := 38) (N := 67) (T := TX10) (v := .ref (A 60 39)) C hw iw_10 rfl ob_60 (by decide) (by decide) fl_X10_81 rfl rfl dX10_isGuarded_1 ?_
  refine lv_iload_n hx hb dX10_isGuarded_4 rfl (lv_at hl 1 rfl) ?_
  refine ti_iald (ci := 10) (k := 38) (n := 23) C hw ob_60 (by decide) (fun _ _ => rfl) (by unfold vp_in; decide) dX10_isGuarded_5 ?_
  refine lv_topi (fun x_1 ex_1 => ?_)
  have yx_1 : tY M 60 38 0 = x_1 := ((congrArg _ (by decide)).symm.trans ex_1.symm)
  have bx_1 : 0 ≤ x_1.toInt ∧ x_1.toInt ≤ 8 := mI_ry (k := 38) (i := 0) hI yx_1.symm
  have zx_1 : (tY M 60 38 0).toInt = x_1.toInt := by rw [yx_1]
  refine lv_iconst (v := 1) hx hb dX10_isGuarded_6 (by decide) ?_
  have hj_44_7 : ∀  (H : Heap) (locs : List Loc) (ls : Array Slot), ti_H ti_LM D A cy H0 M H locs → lv_has ls 2 [(0, .ref (A 60 0)), (1, .int 0)] → W p l e (ti_rm 0) s m args below meth c H locs 0 0 Q (F0 m 44 ls []) := by
    intro  H locs ls  hw hl
    refine lv_iconst (v := 0) hx hb dX10_isGuarded_44 (by decide) ?_
    exact hQ _ _ _ _ _ _ hw rfl (⟨rfl, by first | omega | decide, by first | omega | decide⟩) dX10_isGuarded_45
  refine sb_icmp_le (tgt := 44) hx hb rfl (by decide : (1 : Int32).toInt = 1) dX10_isGuarded_7 (by decide) (fun c_7_1 => ?_) (fun c_7_1 => ?_)
  · exact hj_44_7  _ _ _  hw (lv_sub hl [0, 1] rfl)
  · refine lv_aload_n hx hb dX10_isGuarded_10 rfl (lv_at hl 0 rfl) ?_
    refine ti_get (ci := 10) (k := 13) (N := 67) (T := TX10) (v := .ref (A 60 14)) C hw iw_10 rfl ob_60 (by decide) (by decide) fl_X10_43 rfl rfl dX10_isGuarded_11 ?_
    refine lv_aload_n hx hb dX10_isGuarded_14 rfl (lv_at hl 0 rfl) ?_
    refine ti_get (ci := 10) (k := 39) (N := 67) (T := TX10) (v := .ref (A 60 40)) C hw iw_10 rfl ob_60 (by decide) (by decide) fl_X10_84 rfl rfl dX10_isGuarded_15 ?_
    refine lv_bipush (v := 8) hx hb dX10_isGuarded_18 (by decide) ?_
    refine lv_iload_n hx hb dX10_isGuarded_20 rfl (lv_at hl 1 rfl) ?_
    refine lv_imul hx hb dX10_isGuarded_21 ?_
    refine ti_top (y := 0) (by decide) ?_
    refine lv_iconst (v := 1) hx hb dX10_isGuarded_22 (by decide) ?_
    refine lv_iadd hx hb dX10_isGuarded_23 ?_
    refine ti_top (y := 1) (by decide) ?_
    refine ti_iald (ci := 10) (k := 39) (n := 184) C hw ob_60 (by decide) (fun _ _ => rfl) (by unfold vp_in; decide) dX10_isGuarded_24 ?_
    refine lv_topi (fun x_3 ex_3 => ?_)
    have yx_3 : tY M 60 39 1 = x_3 := ((congrArg _ (by decide)).symm.trans ex_3.symm)
    have bx_3 : 0 ≤ x_3.toInt ∧ x_3.toInt ≤ 7 := mI_ry (k := 39) (i := 1) hI yx_3.symm
    refine ti_iald (ci := 10) (k := 13) (n := 16) C hw ob_60 (by decide) (fun _ _ => rfl) (vp_in_iff.mpr (by omega)) dX10_isGuarded_25 ?_
    refine lv_topi (fun x_4 ex_4 => ?_)
    have yx_4 : tY M 60 13 x_3.toNatClampNeg = x_4 := (ex_4.symm)
    refine lv_iconst (v := 1) hx hb dX10_isGuarded_26 (by decide) ?_
    refine lv_isub hx hb dX10_isGuarded_27 ?_
    refine lv_topi (fun x_5 ex_5 => ?_)
    refine lv_aload_n hx hb dX10_isGuarded_28 rfl (lv_at hl 0 rfl) ?_
    refine ti_get (ci := 10) (k := 39) (N := 67) (T := TX10) (v := .ref (A 60 40)) C hw iw_10 rfl ob_60 (by decide) (by decide) fl_X10_84 rfl rfl dX10_isGuarded_29 ?_
    refine lv_bipush (v := 8) hx hb dX10_isGuarded_32 (by decide) ?_
    refine lv_iload_n hx hb dX10_isGuarded_34 rfl (lv_at hl 1 rfl) ?_
    refine lv_imul hx hb dX10_isGuarded_35 ?_
    refine ti_top (y := 0) (by decide) ?_
    refine ti_iald (ci := 10) (k := 39) (n := 184) C hw ob_60 (by decide) (fun _ _ => rfl) (by unfold vp_in; decide) dX10_isGuarded_36 ?_
    refine lv_topi (fun x_6 ex_6 => ?_)
    have yx_6 : tY M 60 39 0 = x_6 := ((congrArg _ (by decide)).symm.trans ex_6.symm)
    have bx_6 : 0 ≤ x_6.toInt ∧ x_6.toInt ≤ 7 := mI_ry (k := 39) (i := 0) hI yx_6.symm
    refine sb_icmp_ne (tgt := 44) hx hb rfl rfl dX10_isGuarded_37 (by decide) (fun c_37_6 => ?_) (fun c_37_6 => ?_)
    · exact hj_44_7  _ _ _  hw (lv_sub hl [0, 1] rfl)
    · refine lv_iconst (v := 1) hx hb dX10_isGuarded_40 (by decide) ?_
      refine lv_goto (tgt := 45) hx hb dX10_isGuarded_41 (by decide) ?_
      exact hQ _ _ _ _ _ _ hw rfl (⟨rfl, by first | omega | decide, by first | omega | decide⟩) dX10_isGuarded_45
set_option maxHeartbeats 4000000 in
set_option maxRecDepth 100000 in
theorem s_X10_isGuarded_1 (l : Launch) (D : va_G) (A : Nat → Nat → Nat) (cy : Nat → ClassId) (hJ : ti_inj ti_LM A) (M : ti_M) (hI : mI Tm M)  : ti_Ki l yX10_isGuarded cX10_isGuarded 2 (some .boolean) 0 ti_LM D A cy M [.ref (A 60 0), .int 1] (fun r M2 => M2 = M ∧ 0 ≤ r.toInt ∧ r.toInt ≤ 1) := by
  refine ti_eI yp_X10_isGuarded hJ ti_LM_nd (Nat.le_of_ble_eq_true rfl) ?_
  intro p e s m args below meth c Q H0 C hQ hw ls hl
  have hx := C.1
  have hb := C.2.1
  have hl : lv_has ls 2 [(0, .ref (A 60 0)), (1, .int 1)] := hl
  refine lv_aload_n hx hb dX10_isGuarded_0 rfl (lv_at hl 0 rfl) ?_
  refine ti_get (ci := 10) (k := 38) (N := 67) (T := TX10) (v := .ref (A 60 39)) C hw iw_10 rfl ob_60 (by decide) (by decide) fl_X10_81 rfl rfl dX10_isGuarded_1 ?_
  refine lv_iload_n hx hb dX10_isGuarded_4 rfl (lv_at hl 1 rfl) ?_
  refine ti_iald (ci := 10) (k := 38) (n := 23) C hw ob_60 (by decide) (fun _ _ => rfl) (by unfold vp_in; decide) dX10_isGuarded_5 ?_
  refine lv_topi (fun x_1 ex_1 => ?_)
  have yx_1 : tY M 60 38 1 = x_1 := ((congrArg _ (by decide)).symm.trans ex_1.symm)
  have bx_1 : 0 ≤ x_1.toInt ∧ x_1.toInt ≤ 8 := mI_ry (k := 38) (i := 1) hI yx_1.symm
  have zx_1 : (tY M 60 38 1).toInt = x_1.toInt := by rw [yx_1]
  refine lv_iconst (v := 1) hx hb dX10_isGuarded_6 (by decide) ?_
  have hj_44_7 : ∀  (H : Heap) (locs : List Loc) (ls : Array Slot), ti_H ti_LM D A cy H0 M H locs → lv_has ls 2 [(0, .ref (A 60 0)), (1, .int 1)] → W p l e (ti_rm 0) s m args below meth c H locs 0 0 Q (F0 m 44 ls []) := by
    intro  H locs ls  hw hl
    refine lv_iconst (v := 0) hx hb dX10_isGuarded_44 (by decide) ?_
    exact hQ _ _ _ _ _ _ hw rfl (⟨rfl, by first | omega | decide, by first | omega | decide⟩) dX10_isGuarded_45
  refine sb_icmp_le (tgt := 44) hx hb rfl (by decide : (1 : Int32).toInt = 1) dX10_isGuarded_7 (by decide) (fun c_7_1 => ?_) (fun c_7_1 => ?_)
  · exact hj_44_7  _ _ _  hw (lv_sub hl [0, 1] rfl)
  · refine lv_aload_n hx hb dX10_isGuarded_10 rfl (lv_at hl 0 rfl) ?_
    refine ti_get (ci := 10) (k := 13) (N := 67) (T := TX10) (v := .ref (A 60 14)) C hw iw_10 rfl ob_60 (by decide) (by decide) fl_X10_43 rfl rfl dX10_isGuarded_11 ?_
    refine lv_aload_n hx hb dX10_isGuarded_14 rfl (lv_at hl 0 rfl) ?_
    refine ti_get (ci := 10) (k := 39) (N := 67) (T := TX10) (v := .ref (A 60 40)) C hw iw_10 rfl ob_60 (by decide) (by decide) fl_X10_84 rfl rfl dX10_isGuarded_15 ?_
    refine lv_bipush (v := 8) hx hb dX10_isGuarded_18 (by decide) ?_
    refine lv_iload_n hx hb dX10_isGuarded_20 rfl (lv_at hl 1 rfl) ?_
    refine lv_imul hx hb dX10_isGuarded_21 ?_
    refine ti_top (y := 8) (by decide) ?_
    refine lv_iconst (v := 1) hx hb dX10_isGuarded_22 (by decide) ?_
    refine lv_iadd hx hb dX10_isGuarded_23 ?_
    refine ti_top (y := 9) (by decide) ?_
    refine ti_iald (ci := 10) (k := 39) (n := 184) C hw ob_60 (by decide) (fun _ _ => rfl) (by unfold vp_in; decide) dX10_isGuarded_24 ?_
    refine lv_topi (fun x_3 ex_3 => ?_)
    have yx_3 : tY M 60 39 9 = x_3 := ((congrArg _ (by decide)).symm.trans ex_3.symm)
    have bx_3 : 0 ≤ x_3.toInt ∧ x_3.toInt ≤ 7 := mI_ry (k := 39) (i := 9) hI yx_3.symm
    refine ti_iald (ci := 10) (k := 13) (n := 16) C hw ob_60 (by decide) (fun _ _ => rfl) (vp_in_iff.mpr (by omega)) dX10_isGuarded_25 ?_
    refine lv_topi (fun x_4 ex_4 => ?_)
    have yx_4 : tY M 60 13 x_3.toNatClampNeg = x_4 := (ex_4.symm)
    refine lv_iconst (v := 1) hx hb dX10_isGuarded_26 (by decide) ?_
    refine lv_isub hx hb dX10_isGuarded_27 ?_
    refine lv_topi (fun x_5 ex_5 => ?_)
    refine lv_aload_n hx hb dX10_isGuarded_28 rfl (lv_at hl 0 rfl) ?_
    refine ti_get (ci := 10) (k := 39) (N := 67) (T := TX10) (v := .ref (A 60 40)) C hw iw_10 rfl ob_60 (by decide) (by decide) fl_X10_84 rfl rfl dX10_isGuarded_29 ?_
    refine lv_bipush (v := 8) hx hb dX10_isGuarded_32 (by decide) ?_
    refine lv_iload_n hx hb dX10_isGuarded_34 rfl (lv_at hl 1 rfl) ?_
    refine lv_imul hx hb dX10_isGuarded_35 ?_
    refine ti_top (y := 8) (by decide) ?_
    refine ti_iald (ci := 10) (k := 39) (n := 184) C hw ob_60 (by decide) (fun _ _ => rfl) (by unfold vp_in; decide) dX10_isGuarded_36 ?_
    refine lv_topi (fun x_6 ex_6 => ?_)
    have yx_6 : tY M 60 39 8 = x_6 := ((congrArg _ (by decide)).symm.trans ex_6.symm)
    have bx_6 : 0 ≤ x_6.toInt ∧ x_6.toInt ≤ 7 := mI_ry (k := 39) (i := 8) hI yx_6.symm
    refine sb_icmp_ne (tgt := 44) hx hb rfl rfl dX10_isGuarded_37 (by decide) (fun c_37_6 => ?_) (fun c_37_6 => ?_)
    · exact hj_44_7  _ _ _  hw (lv_sub hl [0, 1] rfl)
    · refine lv_iconst (v := 1) hx hb dX10_isGuarded_40 (by decide) ?_
      refine lv_goto (tgt := 45) hx hb dX10_isGuarded_41 (by decide) ?_
      exact hQ _ _ _ _ _ _ hw rfl (⟨rfl, by first | omega | decide, by first | omega | decide⟩) dX10_isGuarded_45
set_option maxHeartbeats 4000000 in
set_option maxRecDepth 100000 in
theorem s_X10_draw_0 (l : Launch) (D : va_G) (A : Nat → Nat → Nat) (cy : Nat → ClassId) (hJ : ti_inj ti_LM A) (M : ti_M) (hI : mI Tm M)  : ti_Ki l yX10_draw cX10_draw 2 (some .int) 0 ti_LM D A cy M [.ref (A 60 0), .int 0] (fun r M2 => mI Tm M2 ∧ qw M2 M ∧ tY M2 60 34 = tY M 60 34) := by
  refine ti_eI yp_X10_draw hJ ti_LM_nd (Nat.le_of_ble_eq_true rfl) ?_
  intro p e s m args below meth c Q H0 C hQ hw ls hl
  have hx := C.1
  have hb := C.2.1
  have hl : lv_has ls 2 [(0, .ref (A 60 0)), (1, .int 0)] := hl
  refine lv_aload_n hx hb dX10_draw_0 rfl (lv_at hl 0 rfl) ?_
  refine ti_get (ci := 10) (k := 36) (N := 67) (T := TX10) (v := .ref (A 60 37)) C hw iw_10 rfl ob_60 (by decide) (by decide) fl_X10_75 rfl rfl dX10_draw_1 ?_
  refine lv_iload_n hx hb dX10_draw_4 rfl (lv_at hl 1 rfl) ?_
  refine lv_aload_n hx hb dX10_draw_5 rfl (lv_at hl 0 rfl) ?_
  refine ti_get (ci := 10) (k := 36) (N := 67) (T := TX10) (v := .ref (A 60 37)) C hw iw_10 rfl ob_60 (by decide) (by decide) fl_X10_75 rfl rfl dX10_draw_6 ?_
  refine lv_iload_n hx hb dX10_draw_9 rfl (lv_at hl 1 rfl) ?_
  refine ti_iald (ci := 10) (k := 36) (n := 23) C hw ob_60 (by decide) (fun _ _ => rfl) (by unfold vp_in; decide) dX10_draw_10 ?_
  refine lv_topi (fun x_1 ex_1 => ?_)
  have yx_1 : tY M 60 36 0 = x_1 := ((congrArg _ (by decide)).symm.trans ex_1.symm)
  refine lv_ldcw (v := 1103515245) hx hb C.2.2.2.1 (C.2.2.1 _ cn_X10_400) dX10_draw_11 ?_
  refine lv_imul hx hb dX10_draw_14 ?_
  refine lv_topi (fun x_2 ex_2 => ?_)
  refine lv_sipush (v := 12345) hx hb dX10_draw_15 (by decide) ?_
  refine lv_iadd hx hb dX10_draw_18 ?_
  refine lv_topi (fun x_3 ex_3 => ?_)
  refine lv_ldcw (v := 2147483647) hx hb C.2.2.2.1 (C.2.2.1 _ cn_X10_403) dX10_draw_19 ?_
  refine lv_iand hx hb dX10_draw_22 ?_
  refine lv_topi (fun x_4 ex_4 => ?_)
  refine ti_iast (ci := 10) (k := 36) (n := 23) C hw ob_60 (by decide) (fun _ _ => rfl) (by unfold vp_in; decide) dX10_draw_23 (fun H locs hw => ?_)
  obtain ⟨M_5, hM_5⟩ : ∃ z : ti_M, z = uY M 60 36 (upd (tY M 60 36) (0 : Int32).toNatClampNeg x_4) := ⟨_, rfl⟩
  have hw := hw.to hM_5.symm
  have iM_5 : mI Tm M_5 := mI_up (i := 0) hI hM_5 trivial
  refine lv_aload_n hx hb dX10_draw_24 rfl (lv_at hl 0 rfl) ?_
  refine ti_get (ci := 10) (k := 36) (N := 67) (T := TX10) (v := .ref (A 60 37)) C hw iw_10 rfl ob_60 (by decide) (by decide) fl_X10_75 rfl rfl dX10_draw_25 ?_
  refine lv_iload_n hx hb dX10_draw_28 rfl (lv_at hl 1 rfl) ?_
  refine ti_iald (ci := 10) (k := 36) (n := 23) C hw ob_60 (by decide) (fun _ _ => rfl) (by unfold vp_in; decide) dX10_draw_29 ?_
  refine ti_top (y := x_4) ((congrArg _ (by decide)).trans ((cg (tY_uE hM_5) 0).trans (upl (by decide)))) ?_
  refine lv_bipush (v := 16) hx hb dX10_draw_30 (by decide) ?_
  refine lv_ishr hx hb dX10_draw_32 ?_
  refine lv_topi (fun x_6 ex_6 => ?_)
  refine lv_bipush (v := 100) hx hb dX10_draw_33 (by decide) ?_
  refine lv_irem hx hb dX10_draw_35 (by decide) ?_
  refine lv_topi (fun x_7 ex_7 => ?_)
  exact hQ _ _ _ _ _ _ hw rfl (⟨iM_5, (qw_Y hM_5 (by decide)), ((tY_nE hM_5 (nk (by decide))))⟩) dX10_draw_36
set_option maxHeartbeats 4000000 in
set_option maxRecDepth 100000 in
theorem s_X10_draw_1 (l : Launch) (D : va_G) (A : Nat → Nat → Nat) (cy : Nat → ClassId) (hJ : ti_inj ti_LM A) (M : ti_M) (hI : mI Tm M)  : ti_Ki l yX10_draw cX10_draw 2 (some .int) 0 ti_LM D A cy M [.ref (A 60 0), .int 1] (fun r M2 => mI Tm M2 ∧ qw M2 M ∧ tY M2 60 34 = tY M 60 34) := by
  refine ti_eI yp_X10_draw hJ ti_LM_nd (Nat.le_of_ble_eq_true rfl) ?_
  intro p e s m args below meth c Q H0 C hQ hw ls hl
  have hx := C.1
  have hb := C.2.1
  have hl : lv_has ls 2 [(0, .ref (A 60 0)), (1, .int 1)] := hl
  refine lv_aload_n hx hb dX10_draw_0 rfl (lv_at hl 0 rfl) ?_
  refine ti_get (ci := 10) (k := 36) (N := 67) (T := TX10) (v := .ref (A 60 37)) C hw iw_10 rfl ob_60 (by decide) (by decide) fl_X10_75 rfl rfl dX10_draw_1 ?_
  refine lv_iload_n hx hb dX10_draw_4 rfl (lv_at hl 1 rfl) ?_
  refine lv_aload_n hx hb dX10_draw_5 rfl (lv_at hl 0 rfl) ?_
  refine ti_get (ci := 10) (k := 36) (N := 67) (T := TX10) (v := .ref (A 60 37)) C hw iw_10 rfl ob_60 (by decide) (by decide) fl_X10_75 rfl rfl dX10_draw_6 ?_
  refine lv_iload_n hx hb dX10_draw_9 rfl (lv_at hl 1 rfl) ?_
  refine ti_iald (ci := 10) (k := 36) (n := 23) C hw ob_60 (by decide) (fun _ _ => rfl) (by unfold vp_in; decide) dX10_draw_10 ?_
  refine lv_topi (fun x_1 ex_1 => ?_)
  have yx_1 : tY M 60 36 1 = x_1 := ((congrArg _ (by decide)).symm.trans ex_1.symm)
  refine lv_ldcw (v := 1103515245) hx hb C.2.2.2.1 (C.2.2.1 _ cn_X10_400) dX10_draw_11 ?_
  refine lv_imul hx hb dX10_draw_14 ?_
  refine lv_topi (fun x_2 ex_2 => ?_)
  refine lv_sipush (v := 12345) hx hb dX10_draw_15 (by decide) ?_
  refine lv_iadd hx hb dX10_draw_18 ?_
  refine lv_topi (fun x_3 ex_3 => ?_)
  refine lv_ldcw (v := 2147483647) hx hb C.2.2.2.1 (C.2.2.1 _ cn_X10_403) dX10_draw_19 ?_
  refine lv_iand hx hb dX10_draw_22 ?_
  refine lv_topi (fun x_4 ex_4 => ?_)
  refine ti_iast (ci := 10) (k := 36) (n := 23) C hw ob_60 (by decide) (fun _ _ => rfl) (by unfold vp_in; decide) dX10_draw_23 (fun H locs hw => ?_)
  obtain ⟨M_5, hM_5⟩ : ∃ z : ti_M, z = uY M 60 36 (upd (tY M 60 36) (1 : Int32).toNatClampNeg x_4) := ⟨_, rfl⟩
  have hw := hw.to hM_5.symm
  have iM_5 : mI Tm M_5 := mI_up (i := 1) hI hM_5 trivial
  refine lv_aload_n hx hb dX10_draw_24 rfl (lv_at hl 0 rfl) ?_
  refine ti_get (ci := 10) (k := 36) (N := 67) (T := TX10) (v := .ref (A 60 37)) C hw iw_10 rfl ob_60 (by decide) (by decide) fl_X10_75 rfl rfl dX10_draw_25 ?_
  refine lv_iload_n hx hb dX10_draw_28 rfl (lv_at hl 1 rfl) ?_
  refine ti_iald (ci := 10) (k := 36) (n := 23) C hw ob_60 (by decide) (fun _ _ => rfl) (by unfold vp_in; decide) dX10_draw_29 ?_
  refine ti_top (y := x_4) ((congrArg _ (by decide)).trans ((cg (tY_uE hM_5) 1).trans (upl (by decide)))) ?_
  refine lv_bipush (v := 16) hx hb dX10_draw_30 (by decide) ?_
  refine lv_ishr hx hb dX10_draw_32 ?_
  refine lv_topi (fun x_6 ex_6 => ?_)
  refine lv_bipush (v := 100) hx hb dX10_draw_33 (by decide) ?_
  refine lv_irem hx hb dX10_draw_35 (by decide) ?_
  refine lv_topi (fun x_7 ex_7 => ?_)
  exact hQ _ _ _ _ _ _ hw rfl (⟨iM_5, (qw_Y hM_5 (by decide)), ((tY_nE hM_5 (nk (by decide))))⟩) dX10_draw_36
set_option maxHeartbeats 4000000 in
set_option maxRecDepth 100000 in
theorem s_X10_pour_0 (l : Launch) (D : va_G) (A : Nat → Nat → Nat) (cy : Nat → ClassId) (hJ : ti_inj ti_LM A) (M : ti_M) (hI : mI Tm M)  : ti_Kv l yX10_pour cX10_pour 4 1 ti_LM D A cy M [.ref (A 60 0), .int 0] (fun M2 => mI Tm M2 ∧ qw M2 M ∧ tY M2 60 34 = tY M 60 34) := by
  refine ti_eV yp_X10_pour hJ ti_LM_nd (Nat.le_of_ble_eq_true rfl) ?_
  intro p e s m args below meth c Q H0 C hQ hw ls hl
  have hx := C.1
  have hb := C.2.1
  have hl : lv_has ls 4 [(0, .ref (A 60 0)), (1, .int 0)] := hl
  refine lv_aload_n hx hb dX10_pour_0 rfl (lv_at hl 0 rfl) ?_
  refine ti_get (ci := 10) (k := 38) (N := 67) (T := TX10) (v := .ref (A 60 39)) C hw iw_10 rfl ob_60 (by decide) (by decide) fl_X10_81 rfl rfl dX10_pour_1 ?_
  refine lv_iload_n hx hb dX10_pour_4 rfl (lv_at hl 1 rfl) ?_
  refine ti_iald (ci := 10) (k := 38) (n := 23) C hw ob_60 (by decide) (fun _ _ => rfl) (by unfold vp_in; decide) dX10_pour_5 ?_
  refine lv_topi (fun x_1 ex_1 => ?_)
  have yx_1 : tY M 60 38 0 = x_1 := ((congrArg _ (by decide)).symm.trans ex_1.symm)
  have bx_1 : 0 ≤ x_1.toInt ∧ x_1.toInt ≤ 8 := mI_ry (k := 38) (i := 0) hI yx_1.symm
  have zx_1 : (tY M 60 38 0).toInt = x_1.toInt := by rw [yx_1]
  refine sb_if_ne (tgt := 10) hx hb rfl dX10_pour_6 (by decide) (fun c_6_1 => ?_) (fun c_6_1 => ?_)
  · refine lv_aload_n hx hb dX10_pour_10 rfl (lv_at hl 0 rfl) ?_
    refine ti_get (ci := 10) (k := 39) (N := 67) (T := TX10) (v := .ref (A 60 40)) C hw iw_10 rfl ob_60 (by decide) (by decide) fl_X10_84 rfl rfl dX10_pour_11 ?_
    refine lv_bipush (v := 8) hx hb dX10_pour_14 (by decide) ?_
    refine lv_iload_n hx hb dX10_pour_16 rfl (lv_at hl 1 rfl) ?_
    refine lv_imul hx hb dX10_pour_17 ?_
    refine ti_top (y := 0) (by decide) ?_
    refine ti_iald (ci := 10) (k := 39) (n := 184) C hw ob_60 (by decide) (fun _ _ => rfl) (by unfold vp_in; decide) dX10_pour_18 ?_
    refine lv_topi (fun x_3 ex_3 => ?_)
    have yx_3 : tY M 60 39 0 = x_3 := ((congrArg _ (by decide)).symm.trans ex_3.symm)
    have bx_3 : 0 ≤ x_3.toInt ∧ x_3.toInt ≤ 7 := mI_ry (k := 39) (i := 0) hI yx_3.symm
    refine lv_istore_n (lv' := [(2, .int x_3), (0, .ref (A 60 0)), (1, .int 0)]) hx hb dX10_pour_19 rfl hl (by decide) rfl (fun ls hl => ?_)
    refine lv_aload_n hx hb dX10_pour_20 rfl (lv_at hl 1 rfl) ?_
    refine ti_get (ci := 10) (k := 3) (N := 67) (T := TX10) (v := .ref (A 60 4)) C hw iw_10 rfl ob_60 (by decide) (by decide) fl_X10_13 rfl rfl dX10_pour_21 ?_
    refine lv_iconst (v := 2) hx hb dX10_pour_24 (by decide) ?_
    refine ti_iald (ci := 10) (k := 3) (n := 22) C hw ob_60 (by decide) (fun _ _ => rfl) (by unfold vp_in; decide) dX10_pour_25 ?_
    refine lv_topi (fun x_4 ex_4 => ?_)
    have yx_4 : tY M 60 3 2 = x_4 := ((congrArg _ (by decide)).symm.trans ex_4.symm)
    have zx_4 : (tY M 60 3 2).toInt = x_4.toInt := by rw [yx_4]
    refine lv_aload_n hx hb dX10_pour_26 rfl (lv_at hl 1 rfl) ?_
    refine ti_get (ci := 10) (k := 53) (N := 67) (T := TX10) C hw iw_10 rfl ob_60 (by decide) (by decide) fl_X10_120 rfl rfl dX10_pour_27 ?_
    refine lv_topi (fun x_5 ex_5 => ?_)
    refine lv_iconst (v := 3) hx hb dX10_pour_30 (by decide) ?_
    have hj_39_9 : ∀ (x_7 : Int32) (H : Heap) (locs : List Loc) (ls : Array Slot), (0 ≤ x_7.toInt) → (x_7.toInt ≤ 1) → ti_H ti_LM D A cy H0 M H locs → lv_has ls 4 [(2, .int x_3), (0, .ref (A 60 0)), (1, .int 0)] → W p l e (ti_rm 1) s m args below meth c H locs 0 0 Q (F0 m 39 ls [.int x_7, .int x_4]) := by
      intro x_7 H locs ls b_8 b_9 hw hl
      refine lv_iadd hx hb dX10_pour_39 ?_
      refine lv_topi (fun x_10 ex_10 => ?_)
      refine lv_aload_n hx hb dX10_pour_40 rfl (lv_at hl 1 rfl) ?_
      refine ti_get (ci := 10) (k := 8) (N := 67) (T := TX10) (v := .ref (A 60 9)) C hw iw_10 rfl ob_60 (by decide) (by decide) fl_X10_28 rfl rfl dX10_pour_41 ?_
      refine lv_iload_n hx hb dX10_pour_44 rfl (lv_at hl 0 rfl) ?_
      refine ti_iald (ci := 10) (k := 8) (n := 16) C hw ob_60 (by decide) (fun _ _ => rfl) (vp_in_iff.mpr (by omega)) dX10_pour_45 ?_
      refine lv_topi (fun x_11 ex_11 => ?_)
      have yx_11 : tY M 60 8 x_3.toNatClampNeg = x_11 := (ex_11.symm)
      refine lv_aload_n hx hb dX10_pour_46 rfl (lv_at hl 1 rfl) ?_
      refine ti_get (ci := 10) (k := 42) (N := 67) (T := TX10) (v := .ref (A 60 43)) C hw iw_10 rfl ob_60 (by decide) (by decide) fl_X10_93 rfl rfl dX10_pour_47 ?_
      refine lv_bipush (v := 8) hx hb dX10_pour_50 (by decide) ?_
      refine lv_iload_n hx hb dX10_pour_52 rfl (lv_at hl 2 rfl) ?_
      refine lv_imul hx hb dX10_pour_53 ?_
      refine ti_top (y := 0) (by decide) ?_
      refine lv_iload_n hx hb dX10_pour_54 rfl (lv_at hl 0 rfl) ?_
      refine lv_iadd hx hb dX10_pour_55 ?_
      refine lv_topi (fun x_12 ex_12 => ?_)
      have tx_12 : x_12.toInt = 0 + x_3.toInt := i_add ex_12 (by decide : (0 : Int32).toInt = 0) rfl (by omega) (by omega)
      refine ti_iald (ci := 10) (k := 42) (n := 184) C hw ob_60 (by decide) (fun _ _ => rfl) (vp_in_iff.mpr (by omega)) dX10_pour_56 ?_
      refine lv_topi (fun x_13 ex_13 => ?_)
      have yx_13 : tY M 60 42 x_12.toNatClampNeg = x_13 := (ex_13.symm)
      refine lv_isub hx hb dX10_pour_57 ?_
      refine lv_topi (fun x_14 ex_14 => ?_)
      refine ti_min C ml_X10_380 hl.1 (by decide) (Nat.le_of_ble_eq_true rfl) ⟨Nat.zero_le _, Nat.zero_le _⟩ dX10_pour_58 ?_
      refine lv_topi (fun x_15 ex_15 => ?_)
      have bx_15 := i_min ex_15 rfl rfl
      refine lv_istore_n (lv' := [(3, .int x_15), (2, .int x_3), (0, .ref (A 60 0)), (1, .int 0)]) hx hb dX10_pour_61 rfl hl (by decide) rfl (fun ls hl => ?_)
      refine lv_aload_n hx hb dX10_pour_62 rfl (lv_at hl 2 rfl) ?_
      refine ti_get (ci := 10) (k := 53) (N := 67) (T := TX10) C hw iw_10 rfl ob_60 (by decide) (by decide) fl_X10_120 rfl rfl dX10_pour_63 ?_
      refine ti_top (y := x_5) (ex_5.symm) ?_
      refine lv_iconst (v := 4) hx hb dX10_pour_66 (by decide) ?_
      have hj_91_24 : ∀ (x_21 : Int32) (M_22 : ti_M) (H : Heap) (locs : List Loc) (ls : Array Slot), (mI Tm M_22) → (qw M_22 M) → (tY M_22 60 34 = tY M 60 34) → ti_H ti_LM D A cy H0 M_22 H locs → lv_has ls 4 [(3, .int x_21), (2, .int x_3), (0, .ref (A 60 0)), (1, .int 0)] → W p l e (ti_rm 1) s m args below meth c H locs 0 0 Q (F0 m 91 ls []) := by
        intro x_21 M_22 H locs ls iM_22 f_23 f_24 hw hl
        refine lv_aload_n hx hb dX10_pour_91 rfl (lv_at hl 2 rfl) ?_
        refine ti_get (ci := 10) (k := 42) (N := 67) (T := TX10) (v := .ref (A 60 43)) C hw iw_10 rfl ob_60 (by decide) (by decide) fl_X10_93 rfl rfl dX10_pour_92 ?_
        refine lv_bipush (v := 8) hx hb dX10_pour_95 (by decide) ?_
        refine lv_iload_n hx hb dX10_pour_97 rfl (lv_at hl 3 rfl) ?_
        refine lv_imul hx hb dX10_pour_98 ?_
        refine ti_top (y := 0) (by decide) ?_
        refine lv_iload_n hx hb dX10_pour_99 rfl (lv_at hl 1 rfl) ?_
        refine lv_iadd hx hb dX10_pour_100 ?_
        refine lv_topi (fun x_25 ex_25 => ?_)
        have tx_25 : x_25.toInt = 0 + x_3.toInt := i_add ex_25 (by decide : (0 : Int32).toInt = 0) rfl (by omega) (by omega)
        refine lv_dup2_11 hx hb dX10_pour_101 rfl rfl ?_
        refine ti_iald (ci := 10) (k := 42) (n := 184) C hw ob_60 (by decide) (fun _ _ => rfl) (vp_in_iff.mpr (by omega)) dX10_pour_102 ?_
        refine lv_topi (fun x_26 ex_26 => ?_)
        have yx_26 : tY M_22 60 42 x_25.toNatClampNeg = x_26 := (ex_26.symm)
        refine lv_iload_n hx hb dX10_pour_103 rfl (lv_at hl 0 rfl) ?_
        refine lv_iadd hx hb dX10_pour_104 ?_
        refine lv_topi (fun x_27 ex_27 => ?_)
        refine ti_iast (ci := 10) (k := 42) (n := 184) C hw ob_60 (by decide) (fun _ _ => rfl) (vp_in_iff.mpr (by omega)) dX10_pour_105 (fun H locs hw => ?_)
        obtain ⟨M_28, hM_28⟩ : ∃ z : ti_M, z = uY M_22 60 42 (upd (tY M_22 60 42) (x_25 : Int32).toNatClampNeg x_27) := ⟨_, rfl⟩
        have hw := hw.to hM_28.symm
        have iM_28 : mI Tm M_28 := mI_up (i := x_25.toNatClampNeg) iM_22 hM_28 trivial
        exact hQ _ _ _ _ _ hw (⟨iM_28, (qw.trans (qw_Y hM_28 (by decide)) f_23), (((tY_nE hM_28 (nk (by decide))).trans f_24))⟩) dX10_pour_106
      refine sb_icmp_eq (tgt := 91) hx hb rfl (by decide : (4 : Int32).toInt = 4) dX10_pour_67 (by decide) (fun c_67_15 => ?_) (fun c_67_15 => ?_)
      · exact hj_91_24 x_15 M _ _ _ hI qw.refl rfl hw (lv_sub hl [0, 1, 2, 3] rfl)
      · refine lv_iload_n hx hb dX10_pour_70 rfl (lv_at hl 0 rfl) ?_
        refine lv_aload_n hx hb dX10_pour_71 rfl (lv_at hl 2 rfl) ?_
        refine ti_get (ci := 10) (k := 35) (N := 67) (T := TX10) (v := .ref (A 60 36)) C hw iw_10 rfl ob_60 (by decide) (by decide) fl_X10_72 rfl rfl dX10_pour_72 ?_
        refine lv_iload_n hx hb dX10_pour_75 rfl (lv_at hl 3 rfl) ?_
        refine ti_iald (ci := 10) (k := 35) (n := 23) C hw ob_60 (by decide) (fun _ _ => rfl) (by unfold vp_in; decide) dX10_pour_76 ?_
        refine lv_topi (fun x_17 ex_17 => ?_)
        have yx_17 : tY M 60 35 0 = x_17 := ((congrArg _ (by decide)).symm.trans ex_17.symm)
        refine ti_min C ml_X10_380 hl.1 (by decide) (Nat.le_of_ble_eq_true rfl) ⟨Nat.zero_le _, Nat.zero_le _⟩ dX10_pour_77 ?_
        refine lv_topi (fun x_18 ex_18 => ?_)
        have bx_18 := i_min ex_18 rfl rfl
        refine lv_istore_n (lv' := [(3, .int x_18), (2, .int x_3), (0, .ref (A 60 0)), (1, .int 0)]) hx hb dX10_pour_80 rfl hl (by decide) rfl (fun ls hl => ?_)
        refine lv_aload_n hx hb dX10_pour_81 rfl (lv_at hl 2 rfl) ?_
        refine ti_get (ci := 10) (k := 35) (N := 67) (T := TX10) (v := .ref (A 60 36)) C hw iw_10 rfl ob_60 (by decide) (by decide) fl_X10_72 rfl rfl dX10_pour_82 ?_
        refine lv_iload_n hx hb dX10_pour_85 rfl (lv_at hl 3 rfl) ?_
        refine lv_dup2_11 hx hb dX10_pour_86 rfl rfl ?_
        refine ti_iald (ci := 10) (k := 35) (n := 23) C hw ob_60 (by decide) (fun _ _ => rfl) (by unfold vp_in; decide) dX10_pour_87 ?_
        refine ti_top (y := x_17) ((congrArg _ (by decide)).trans (yx_17)) ?_
        refine lv_iload_n hx hb dX10_pour_88 rfl (lv_at hl 0 rfl) ?_
        refine lv_isub hx hb dX10_pour_89 ?_
        refine lv_topi (fun x_19 ex_19 => ?_)
        refine ti_iast (ci := 10) (k := 35) (n := 23) C hw ob_60 (by decide) (fun _ _ => rfl) (by unfold vp_in; decide) dX10_pour_90 (fun H locs hw => ?_)
        obtain ⟨M_20, hM_20⟩ : ∃ z : ti_M, z = uY M 60 35 (upd (tY M 60 35) (0 : Int32).toNatClampNeg x_19) := ⟨_, rfl⟩
        have hw := hw.to hM_20.symm
        have iM_20 : mI Tm M_20 := mI_up (i := 0) hI hM_20 trivial
        exact hj_91_24 x_18 M_20 _ _ _ iM_20 (qw_Y hM_20 (by decide)) ((tY_nE hM_20 (nk (by decide)))) hw (lv_sub hl [0, 1, 2, 3] rfl)
    refine sb_icmp_ne (tgt := 38) hx hb rfl (by decide : (3 : Int32).toInt = 3) dX10_pour_31 (by decide) (fun c_31_5 => ?_) (fun c_31_5 => ?_)
    · refine lv_iconst (v := 0) hx hb dX10_pour_38 (by decide) ?_
      exact hj_39_9 0 _ _ _ (by have lt0 : (0 : Int32).toInt = 0 := (by decide); first | omega | decide) (by have lt0 : (0 : Int32).toInt = 0 := (by decide); first | omega | decide) hw (lv_sub hl [0, 1, 2] rfl)
    · refine lv_iconst (v := 1) hx hb dX10_pour_34 (by decide) ?_
      refine lv_goto (tgt := 39) hx hb dX10_pour_35 (by decide) ?_
      exact hj_39_9 1 _ _ _ (by have lt0 : (1 : Int32).toInt = 1 := (by decide); first | omega | decide) (by have lt0 : (1 : Int32).toInt = 1 := (by decide); first | omega | decide) hw (lv_sub hl [0, 1, 2] rfl)
  · exact hQ _ _ _ _ _ hw (⟨hI, qw.refl, rfl⟩) dX10_pour_9
set_option maxHeartbeats 4000000 in
set_option maxRecDepth 100000 in
theorem s_X10_pour_1 (l : Launch) (D : va_G) (A : Nat → Nat → Nat) (cy : Nat → ClassId) (hJ : ti_inj ti_LM A) (M : ti_M) (hI : mI Tm M)  : ti_Kv l yX10_pour cX10_pour 4 1 ti_LM D A cy M [.ref (A 60 0), .int 1] (fun M2 => mI Tm M2 ∧ qw M2 M ∧ tY M2 60 34 = tY M 60 34) := by
  refine ti_eV yp_X10_pour hJ ti_LM_nd (Nat.le_of_ble_eq_true rfl) ?_
  intro p e s m args below meth c Q H0 C hQ hw ls hl
  have hx := C.1
  have hb := C.2.1
  have hl : lv_has ls 4 [(0, .ref (A 60 0)), (1, .int 1)] := hl
  refine lv_aload_n hx hb dX10_pour_0 rfl (lv_at hl 0 rfl) ?_
  refine ti_get (ci := 10) (k := 38) (N := 67) (T := TX10) (v := .ref (A 60 39)) C hw iw_10 rfl ob_60 (by decide) (by decide) fl_X10_81 rfl rfl dX10_pour_1 ?_
  refine lv_iload_n hx hb dX10_pour_4 rfl (lv_at hl 1 rfl) ?_
  refine ti_iald (ci := 10) (k := 38) (n := 23) C hw ob_60 (by decide) (fun _ _ => rfl) (by unfold vp_in; decide) dX10_pour_5 ?_
  refine lv_topi (fun x_1 ex_1 => ?_)
  have yx_1 : tY M 60 38 1 = x_1 := ((congrArg _ (by decide)).symm.trans ex_1.symm)
  have bx_1 : 0 ≤ x_1.toInt ∧ x_1.toInt ≤ 8 := mI_ry (k := 38) (i := 1) hI yx_1.symm
  have zx_1 : (tY M 60 38 1).toInt = x_1.toInt := by rw [yx_1]
  refine sb_if_ne (tgt := 10) hx hb rfl dX10_pour_6 (by decide) (fun c_6_1 => ?_) (fun c_6_1 => ?_)
  · refine lv_aload_n hx hb dX10_pour_10 rfl (lv_at hl 0 rfl) ?_
    refine ti_get (ci := 10) (k := 39) (N := 67) (T := TX10) (v := .ref (A 60 40)) C hw iw_10 rfl ob_60 (by decide) (by decide) fl_X10_84 rfl rfl dX10_pour_11 ?_
    refine lv_bipush (v := 8) hx hb dX10_pour_14 (by decide) ?_
    refine lv_iload_n hx hb dX10_pour_16 rfl (lv_at hl 1 rfl) ?_
    refine lv_imul hx hb dX10_pour_17 ?_
    refine ti_top (y := 8) (by decide) ?_
    refine ti_iald (ci := 10) (k := 39) (n := 184) C hw ob_60 (by decide) (fun _ _ => rfl) (by unfold vp_in; decide) dX10_pour_18 ?_
    refine lv_topi (fun x_3 ex_3 => ?_)
    have yx_3 : tY M 60 39 8 = x_3 := ((congrArg _ (by decide)).symm.trans ex_3.symm)
    have bx_3 : 0 ≤ x_3.toInt ∧ x_3.toInt ≤ 7 := mI_ry (k := 39) (i := 8) hI yx_3.symm
    refine lv_istore_n (lv' := [(2, .int x_3), (0, .ref (A 60 0)), (1, .int 1)]) hx hb dX10_pour_19 rfl hl (by decide) rfl (fun ls hl => ?_)
    refine lv_aload_n hx hb dX10_pour_20 rfl (lv_at hl 1 rfl) ?_
    refine ti_get (ci := 10) (k := 3) (N := 67) (T := TX10) (v := .ref (A 60 4)) C hw iw_10 rfl ob_60 (by decide) (by decide) fl_X10_13 rfl rfl dX10_pour_21 ?_
    refine lv_iconst (v := 2) hx hb dX10_pour_24 (by decide) ?_
    refine ti_iald (ci := 10) (k := 3) (n := 22) C hw ob_60 (by decide) (fun _ _ => rfl) (by unfold vp_in; decide) dX10_pour_25 ?_
    refine lv_topi (fun x_4 ex_4 => ?_)
    have yx_4 : tY M 60 3 2 = x_4 := ((congrArg _ (by decide)).symm.trans ex_4.symm)
    have zx_4 : (tY M 60 3 2).toInt = x_4.toInt := by rw [yx_4]
    refine lv_aload_n hx hb dX10_pour_26 rfl (lv_at hl 1 rfl) ?_
    refine ti_get (ci := 10) (k := 53) (N := 67) (T := TX10) C hw iw_10 rfl ob_60 (by decide) (by decide) fl_X10_120 rfl rfl dX10_pour_27 ?_
    refine lv_topi (fun x_5 ex_5 => ?_)
    refine lv_iconst (v := 3) hx hb dX10_pour_30 (by decide) ?_
    have hj_39_9 : ∀ (x_7 : Int32) (H : Heap) (locs : List Loc) (ls : Array Slot), (0 ≤ x_7.toInt) → (x_7.toInt ≤ 1) → ti_H ti_LM D A cy H0 M H locs → lv_has ls 4 [(2, .int x_3), (0, .ref (A 60 0)), (1, .int 1)] → W p l e (ti_rm 1) s m args below meth c H locs 0 0 Q (F0 m 39 ls [.int x_7, .int x_4]) := by
      intro x_7 H locs ls b_8 b_9 hw hl
      refine lv_iadd hx hb dX10_pour_39 ?_
      refine lv_topi (fun x_10 ex_10 => ?_)
      refine lv_aload_n hx hb dX10_pour_40 rfl (lv_at hl 1 rfl) ?_
      refine ti_get (ci := 10) (k := 8) (N := 67) (T := TX10) (v := .ref (A 60 9)) C hw iw_10 rfl ob_60 (by decide) (by decide) fl_X10_28 rfl rfl dX10_pour_41 ?_
      refine lv_iload_n hx hb dX10_pour_44 rfl (lv_at hl 0 rfl) ?_
      refine ti_iald (ci := 10) (k := 8) (n := 16) C hw ob_60 (by decide) (fun _ _ => rfl) (vp_in_iff.mpr (by omega)) dX10_pour_45 ?_
      refine lv_topi (fun x_11 ex_11 => ?_)
      have yx_11 : tY M 60 8 x_3.toNatClampNeg = x_11 := (ex_11.symm)
      refine lv_aload_n hx hb dX10_pour_46 rfl (lv_at hl 1 rfl) ?_
      refine ti_get (ci := 10) (k := 42) (N := 67) (T := TX10) (v := .ref (A 60 43)) C hw iw_10 rfl ob_60 (by decide) (by decide) fl_X10_93 rfl rfl dX10_pour_47 ?_
      refine lv_bipush (v := 8) hx hb dX10_pour_50 (by decide) ?_
      refine lv_iload_n hx hb dX10_pour_52 rfl (lv_at hl 2 rfl) ?_
      refine lv_imul hx hb dX10_pour_53 ?_
      refine ti_top (y := 8) (by decide) ?_
      refine lv_iload_n hx hb dX10_pour_54 rfl (lv_at hl 0 rfl) ?_
      refine lv_iadd hx hb dX10_pour_55 ?_
      refine lv_topi (fun x_12 ex_12 => ?_)
      have tx_12 : x_12.toInt = 8 + x_3.toInt := i_add ex_12 (by decide : (8 : Int32).toInt = 8) rfl (by omega) (by omega)
      refine ti_iald (ci := 10) (k := 42) (n := 184) C hw ob_60 (by decide) (fun _ _ => rfl) (vp_in_iff.mpr (by omega)) dX10_pour_56 ?_
      refine lv_topi (fun x_13 ex_13 => ?_)
      have yx_13 : tY M 60 42 x_12.toNatClampNeg = x_13 := (ex_13.symm)
      refine lv_isub hx hb dX10_pour_57 ?_
      refine lv_topi (fun x_14 ex_14 => ?_)
      refine ti_min C ml_X10_380 hl.1 (by decide) (Nat.le_of_ble_eq_true rfl) ⟨Nat.zero_le _, Nat.zero_le _⟩ dX10_pour_58 ?_
      refine lv_topi (fun x_15 ex_15 => ?_)
      have bx_15 := i_min ex_15 rfl rfl
      refine lv_istore_n (lv' := [(3, .int x_15), (2, .int x_3), (0, .ref (A 60 0)), (1, .int 1)]) hx hb dX10_pour_61 rfl hl (by decide) rfl (fun ls hl => ?_)
      refine lv_aload_n hx hb dX10_pour_62 rfl (lv_at hl 2 rfl) ?_
      refine ti_get (ci := 10) (k := 53) (N := 67) (T := TX10) C hw iw_10 rfl ob_60 (by decide) (by decide) fl_X10_120 rfl rfl dX10_pour_63 ?_
      refine ti_top (y := x_5) (ex_5.symm) ?_
      refine lv_iconst (v := 4) hx hb dX10_pour_66 (by decide) ?_
      have hj_91_24 : ∀ (x_21 : Int32) (M_22 : ti_M) (H : Heap) (locs : List Loc) (ls : Array Slot), (mI Tm M_22) → (qw M_22 M) → (tY M_22 60 34 = tY M 60 34) → ti_H ti_LM D A cy H0 M_22 H locs → lv_has ls 4 [(3, .int x_21), (2, .int x_3), (0, .ref (A 60 0)), (1, .int 1)] → W p l e (ti_rm 1) s m args below meth c H locs 0 0 Q (F0 m 91 ls []) := by
        intro x_21 M_22 H locs ls iM_22 f_23 f_24 hw hl
        refine lv_aload_n hx hb dX10_pour_91 rfl (lv_at hl 2 rfl) ?_
        refine ti_get (ci := 10) (k := 42) (N := 67) (T := TX10) (v := .ref (A 60 43)) C hw iw_10 rfl ob_60 (by decide) (by decide) fl_X10_93 rfl rfl dX10_pour_92 ?_
        refine lv_bipush (v := 8) hx hb dX10_pour_95 (by decide) ?_
        refine lv_iload_n hx hb dX10_pour_97 rfl (lv_at hl 3 rfl) ?_
        refine lv_imul hx hb dX10_pour_98 ?_
        refine ti_top (y := 8) (by decide) ?_
        refine lv_iload_n hx hb dX10_pour_99 rfl (lv_at hl 1 rfl) ?_
        refine lv_iadd hx hb dX10_pour_100 ?_
        refine lv_topi (fun x_25 ex_25 => ?_)
        have tx_25 : x_25.toInt = 8 + x_3.toInt := i_add ex_25 (by decide : (8 : Int32).toInt = 8) rfl (by omega) (by omega)
        refine lv_dup2_11 hx hb dX10_pour_101 rfl rfl ?_
        refine ti_iald (ci := 10) (k := 42) (n := 184) C hw ob_60 (by decide) (fun _ _ => rfl) (vp_in_iff.mpr (by omega)) dX10_pour_102 ?_
        refine lv_topi (fun x_26 ex_26 => ?_)
        have yx_26 : tY M_22 60 42 x_25.toNatClampNeg = x_26 := (ex_26.symm)
        refine lv_iload_n hx hb dX10_pour_103 rfl (lv_at hl 0 rfl) ?_
        refine lv_iadd hx hb dX10_pour_104 ?_
        refine lv_topi (fun x_27 ex_27 => ?_)
        refine ti_iast (ci := 10) (k := 42) (n := 184) C hw ob_60 (by decide) (fun _ _ => rfl) (vp_in_iff.mpr (by omega)) dX10_pour_105 (fun H locs hw => ?_)
        obtain ⟨M_28, hM_28⟩ : ∃ z : ti_M, z = uY M_22 60 42 (upd (tY M_22 60 42) (x_25 : Int32).toNatClampNeg x_27) := ⟨_, rfl⟩
        have hw := hw.to hM_28.symm
        have iM_28 : mI Tm M_28 := mI_up (i := x_25.toNatClampNeg) iM_22 hM_28 trivial
        exact hQ _ _ _ _ _ hw (⟨iM_28, (qw.trans (qw_Y hM_28 (by decide)) f_23), (((tY_nE hM_28 (nk (by decide))).trans f_24))⟩) dX10_pour_106
      refine sb_icmp_eq (tgt := 91) hx hb rfl (by decide : (4 : Int32).toInt = 4) dX10_pour_67 (by decide) (fun c_67_15 => ?_) (fun c_67_15 => ?_)
      · exact hj_91_24 x_15 M _ _ _ hI qw.refl rfl hw (lv_sub hl [0, 1, 2, 3] rfl)
      · refine lv_iload_n hx hb dX10_pour_70 rfl (lv_at hl 0 rfl) ?_
        refine lv_aload_n hx hb dX10_pour_71 rfl (lv_at hl 2 rfl) ?_
        refine ti_get (ci := 10) (k := 35) (N := 67) (T := TX10) (v := .ref (A 60 36)) C hw iw_10 rfl ob_60 (by decide) (by decide) fl_X10_72 rfl rfl dX10_pour_72 ?_
        refine lv_iload_n hx hb dX10_pour_75 rfl (lv_at hl 3 rfl) ?_
        refine ti_iald (ci := 10) (k := 35) (n := 23) C hw ob_60 (by decide) (fun _ _ => rfl) (by unfold vp_in; decide) dX10_pour_76 ?_
        refine lv_topi (fun x_17 ex_17 => ?_)
        have yx_17 : tY M 60 35 1 = x_17 := ((congrArg _ (by decide)).symm.trans ex_17.symm)
        refine ti_min C ml_X10_380 hl.1 (by decide) (Nat.le_of_ble_eq_true rfl) ⟨Nat.zero_le _, Nat.zero_le _⟩ dX10_pour_77 ?_
        refine lv_topi (fun x_18 ex_18 => ?_)
        have bx_18 := i_min ex_18 rfl rfl
        refine lv_istore_n (lv' := [(3, .int x_18), (2, .int x_3), (0, .ref (A 60 0)), (1, .int 1)]) hx hb dX10_pour_80 rfl hl (by decide) rfl (fun ls hl => ?_)
        refine lv_aload_n hx hb dX10_pour_81 rfl (lv_at hl 2 rfl) ?_
        refine ti_get (ci := 10) (k := 35) (N := 67) (T := TX10) (v := .ref (A 60 36)) C hw iw_10 rfl ob_60 (by decide) (by decide) fl_X10_72 rfl rfl dX10_pour_82 ?_
        refine lv_iload_n hx hb dX10_pour_85 rfl (lv_at hl 3 rfl) ?_
        refine lv_dup2_11 hx hb dX10_pour_86 rfl rfl ?_
        refine ti_iald (ci := 10) (k := 35) (n := 23) C hw ob_60 (by decide) (fun _ _ => rfl) (by unfold vp_in; decide) dX10_pour_87 ?_
        refine ti_top (y := x_17) ((congrArg _ (by decide)).trans (yx_17)) ?_
        refine lv_iload_n hx hb dX10_pour_88 rfl (lv_at hl 0 rfl) ?_
        refine lv_isub hx hb dX10_pour_89 ?_
        refine lv_topi (fun x_19 ex_19 => ?_)
        refine ti_iast (ci := 10) (k := 35) (n := 23) C hw ob_60 (by decide) (fun _ _ => rfl) (by unfold vp_in; decide) dX10_pour_90 (fun H locs hw => ?_)
        obtain ⟨M_20, hM_20⟩ : ∃ z : ti_M, z = uY M 60 35 (upd (tY M 60 35) (1 : Int32).toNatClampNeg x_19) := ⟨_, rfl⟩
        have hw := hw.to hM_20.symm
        have iM_20 : mI Tm M_20 := mI_up (i := 1) hI hM_20 trivial
        exact hj_91_24 x_18 M_20 _ _ _ iM_20 (qw_Y hM_20 (by decide)) ((tY_nE hM_20 (nk (by decide)))) hw (lv_sub hl [0, 1, 2, 3] rfl)
    refine sb_icmp_ne (tgt := 38) hx hb rfl (by decide : (3 : Int32).toInt = 3) dX10_pour_31 (by decide) (fun c_31_5 => ?_) (fun c_31_5 => ?_)
    · refine lv_iconst (v := 0) hx hb dX10_pour_38 (by decide) ?_
      exact hj_39_9 0 _ _ _ (by have lt0 : (0 : Int32).toInt = 0 := (by decide); first | omega | decide) (by have lt0 : (0 : Int32).toInt = 0 := (by decide); first | omega | decide) hw (lv_sub hl [0, 1, 2] rfl)
    · refine lv_iconst (v := 1) hx hb dX10_pour_34 (by decide) ?_
      refine lv_goto (tgt := 39) hx hb dX10_pour_35 (by decide) ?_
      exact hj_39_9 1 _ _ _ (by have lt0 : (1 : Int32).toInt = 1 := (by decide); first | omega | decide) (by have lt0 : (1 : Int32).toInt = 1 := (by decide); first | omega | decide) hw (lv_sub hl [0, 1, 2] rfl)
  · exact hQ _ _ _ _ _ hw (⟨hI, qw.refl, rfl⟩) dX10_pour_9
set_option maxHeartbeats 4000000 in
set_option maxRecDepth 100000 in
theorem s_X10_levy_0 (l : Launch) (D : va_G) (A : Nat → Nat → Nat) (cy : Nat → ClassId) (hJ : ti_inj ti_LM A) (M : ti_M) (hI : mI Tm M) (hL : mL M) (t : Int32) : ti_Kv l yX10_levy cX10_levy 8 4 ti_LM D A cy M [.ref (A 60 0), .int 0, .int t] (fun M2 => mI Tm M2 ∧ qw M2 M ∧ tY M2 60 34 = tY M 60 34) := by
  refine ti_eV yp_X10_levy hJ ti_LM_nd (Nat.le_of_ble_eq_true rfl) ?_
  intro p e s m args below meth c Q H0 C hQ hw ls hl
  have hx := C.1
  have hb := C.2.1
  have hl : lv_has ls 8 [(0, .ref (A 60 0)), (1, .int 0), (2, .int t)] := hl
  refine lv_aload_n hx hb dX10_levy_0 rfl (lv_at hl 0 rfl) ?_
  refine ti_get (ci := 10) (k := 49) (N := 67) (T := TX10) (v := .ref (A 60 50)) C hw iw_10 rfl ob_60 (by decide) (by decide) fl_X10_114 rfl rfl dX10_levy_1 ?_
  refine lv_iconst (v := 3) hx hb dX10_levy_4 (by decide) ?_
  refine lv_iload_n hx hb dX10_levy_5 rfl (lv_at hl 1 rfl) ?_
  refine lv_imul hx hb dX10_levy_6 ?_
  refine ti_top (y := 0) (by decide) ?_
  refine lv_iconst (v := 2) hx hb dX10_levy_7 (by decide) ?_
  refine lv_iadd hx hb dX10_levy_8 ?_
  refine ti_top (y := 2) (by decide) ?_
  refine ti_iald (ci := 10) (k := 49) (n := 69) C hw ob_60 (by decide) (fun _ _ => rfl) (by unfold vp_in; decide) dX10_levy_9 ?_
  refine lv_topi (fun x_1 ex_1 => ?_)
  have yx_1 : tY M 60 49 2 = x_1 := ((congrArg _ (by decide)).symm.trans ex_1.symm)
  have bx_1 : 0 ≤ x_1.toInt ∧ x_1.toInt ≤ 7 := mI_ry (k := 49) (i := 2) hI yx_1.symm
  refine lv_istore_n (lv' := [(3, .int x_1), (0, .ref (A 60 0)), (1, .int 0), (2, .int t)]) hx hb dX10_levy_10 rfl hl (by decide) rfl (fun ls hl => ?_)
  refine lv_iload_n hx hb dX10_levy_11 rfl (lv_at hl 3 rfl) ?_
  refine lv_aload_n hx hb dX10_levy_12 rfl (lv_at hl 1 rfl) ?_
  refine ti_get (ci := 10) (k := 3) (N := 67) (T := TX10) (v := .ref (A 60 4)) C hw iw_10 rfl ob_60 (by decide) (by decide) fl_X10_13 rfl rfl dX10_levy_13 ?_
  refine lv_iconst (v := 3) hx hb dX10_levy_16 (by decide) ?_
  refine ti_iald (ci := 10) (k := 3) (n := 22) C hw ob_60 (by decide) (fun _ _ => rfl) (by unfold vp_in; decide) dX10_levy_17 ?_
  refine lv_topi (fun x_2 ex_2 => ?_)
  have yx_2 : tY M 60 3 3 = x_2 := ((congrArg _ (by decide)).symm.trans ex_2.symm)
  have bx_2 : 1 ≤ x_2.toInt ∧ x_2.toInt ≤ 30 := mI_rn (i := 3) hI yx_2.symm (fun _ h => h)
  have zx_2 : (tY M 60 3 3).toInt = x_2.toInt := by rw [yx_2]
  refine lv_irem hx hb dX10_levy_18 (nz (by omega)) ?_
  refine lv_topi (fun x_3 ex_3 => ?_)
  refine sb_if_ne (tgt := 39) hx hb rfl dX10_levy_19 (by decide) (fun c_19_3 => ?_) (fun c_19_3 => ?_)
  · exact hQ _ _ _ _ _ hw (⟨hI, qw.refl, rfl⟩) dX10_levy_39
  · refine lv_iload_n hx hb dX10_levy_22 rfl (lv_at hl 0 rfl) ?_
    refine lv_aload_n hx hb dX10_levy_23 rfl (lv_at hl 1 rfl) ?_
    refine ti_get (ci := 10) (k := 38) (N := 67) (T := TX10) (v := .ref (A 60 39)) C hw iw_10 rfl ob_60 (by decide) (by decide) fl_X10_81 rfl rfl dX10_levy_24 ?_
    refine lv_iload_n hx hb dX10_levy_27 rfl (lv_at hl 2 rfl) ?_
    refine ti_iald (ci := 10) (k := 38) (n := 23) C hw ob_60 (by decide) (fun _ _ => rfl) (by unfold vp_in; decide) dX10_levy_28 ?_
    refine lv_topi (fun x_5 ex_5 => ?_)
    have yx_5 : tY M 60 38 0 = x_5 := ((congrArg _ (by decide)).symm.trans ex_5.symm)
    have bx_5 : 0 ≤ x_5.toInt ∧ x_5.toInt ≤ 8 := mI_ry (k := 38) (i := 0) hI yx_5.symm
    have zx_5 : (tY M 60 38 0).toInt = x_5.toInt := by rw [yx_5]
    refine sb_icmp_ge (tgt := 39) hx hb rfl rfl dX10_levy_29 (by decide) (fun c_29_5 => ?_) (fun c_29_5 => ?_)
    · exact hQ _ _ _ _ _ hw (⟨hI, qw.refl, rfl⟩) dX10_levy_39
    · refine lv_aload_n hx hb dX10_levy_32 rfl (lv_at hl 1 rfl) ?_
      refine ti_get (ci := 10) (k := 53) (N := 67) (T := TX10) C hw iw_10 rfl ob_60 (by decide) (by decide) fl_X10_120 rfl rfl dX10_levy_33 ?_
      refine lv_topi (fun x_7 ex_7 => ?_)
      refine sb_if_ne (tgt := 40) hx hb rfl dX10_levy_36 (by decide) (fun c_36_7 => ?_) (fun c_36_7 => ?_)
      · refine lv_bipush (v := 8) hx hb dX10_levy_40 (by decide) ?_
        refine lv_iload_n hx hb dX10_levy_42 rfl (lv_at hl 2 rfl) ?_
        refine lv_imul hx hb dX10_levy_43 ?_
        refine ti_top (y := 0) (by decide) ?_
        refine lv_aload_n hx hb dX10_levy_44 rfl (lv_at hl 1 rfl) ?_
        refine ti_get (ci := 10) (k := 39) (N := 67) (T := TX10) (v := .ref (A 60 40)) C hw iw_10 rfl ob_60 (by decide) (by decide) fl_X10_84 rfl rfl dX10_levy_45 ?_
        refine lv_bipush (v := 8) hx hb dX10_levy_48 (by decide) ?_
        refine lv_iload_n hx hb dX10_levy_50 rfl (lv_at hl 2 rfl) ?_
        refine lv_imul hx hb dX10_levy_51 ?_
        refine ti_top (y := 0) (by decide) ?_
        refine lv_iload_n hx hb dX10_levy_52 rfl (lv_at hl 0 rfl) ?_
        refine lv_iadd hx hb dX10_levy_53 ?_
        refine lv_topi (fun x_9 ex_9 => ?_)
        have tx_9 : x_9.toInt = 0 + x_1.toInt := i_add ex_9 (by decide : (0 : Int32).toInt = 0) rfl (by omega) (by omega)
        refine ti_iald (ci := 10) (k := 39) (n := 184) C hw ob_60 (by decide) (fun _ _ => rfl) (vp_in_iff.mpr (by omega)) dX10_levy_54 ?_
        refine lv_topi (fun x_10 ex_10 => ?_)
        have yx_10 : tY M 60 39 x_9.toNatClampNeg = x_10 := (ex_10.symm)
        have bx_10 : 0 ≤ x_10.toInt ∧ x_10.toInt ≤ 7 := mI_ry (k := 39) (i := x_9.toNatClampNeg) hI yx_10.symm
        refine lv_iadd hx hb dX10_levy_55 ?_
        refine lv_topi (fun x_11 ex_11 => ?_)
        have tx_11 : x_11.toInt = 0 + x_10.toInt := i_add ex_11 (by decide : (0 : Int32).toInt = 0) rfl (by omega) (by omega)
        refine lv_istore (lv' := [(4, .int x_11), (3, .int x_1), (0, .ref (A 60 0)), (1, .int 0), (2, .int t)]) hx hb dX10_levy_56 hl (by decide) rfl (fun ls hl => ?_)
        refine lv_iconst (v := 0) hx hb dX10_levy_58 (by decide) ?_
        refine lv_istore (lv' := [(5, .int 0), (4, .int x_11), (3, .int x_1), (0, .ref (A 60 0)), (1, .int 0), (2, .int t)]) hx hb dX10_levy_59 hl (by decide) rfl (fun ls hl => ?_)
        have hl_61_17 : ∀ (n_18 : Nat) (x_12 : Int32) (M_15 : ti_M) (H : Heap) (locs : List Loc) (ls : Array Slot), (8 - x_12.toInt : Int).toNat < n_18 → (0 ≤ x_12.toInt) → (x_12.toInt ≤ 8) → (mI Tm M_15) → (qw M_15 M) → (tY M_15 60 34 = tY M 60 34) → ti_H ti_LM D A cy H0 M_15 H locs → lv_has ls 8 [(5, .int x_12), (4, .int x_11), (3, .int x_1), (0, .ref (A 60 0)), (1, .int 0), (2, .int t)] → W p l e (ti_rm 4) s m args below meth c H locs 0 0 Q (F0 m 61 ls []) := by
          intro n_18
          induction n_18 with
          | zero => intro x_12 M_15 H locs ls hf_18; exact absurd hf_18 (Nat.not_lt_zero _)
          | succ n_18 ih_18 =>
            intro x_12 M_15 H locs ls hf_18 b_13 b_14 iM_15 f_16 f_17 hw hl
            refine lv_iload hx hb dX10_levy_61 (lv_at hl 0 rfl) ?_
            refine lv_aload_n hx hb dX10_levy_63 rfl (lv_at hl 3 rfl) ?_
            refine ti_get (ci := 10) (k := 38) (N := 67) (T := TX10) (v := .ref (A 60 39)) C hw iw_10 rfl ob_60 (by decide) (by decide) fl_X10_81 rfl rfl dX10_levy_64 ?_
            refine lv_iload_n hx hb dX10_levy_67 rfl (lv_at hl 4 rfl) ?_
            refine ti_iald (ci := 10) (k := 38) (n := 23) C hw ob_60 (by decide) (fun _ _ => rfl) (by unfold vp_in; decide) dX10_levy_68 ?_
            refine ti_top (y := x_5) ((congrArg _ (by decide)).trans ((cg f_16.2.2.1 0).trans yx_5)) ?_
            refine sb_icmp_ge (tgt := 166) hx hb rfl rfl dX10_levy_69 (by decide) (fun c_69_18 => ?_) (fun c_69_18 => ?_)
            · exact hQ _ _ _ _ _ hw (⟨iM_15, f_16, ((f_17))⟩) dX10_levy_166
            · refine lv_iload hx hb dX10_levy_72 (lv_at hl 0 rfl) ?_
              refine lv_iload_n hx hb dX10_levy_74 rfl (lv_at hl 2 rfl) ?_
              have hj_160_43 : ∀ (M_41 : ti_M) (H : Heap) (locs : List Loc) (ls : Array Slot), (mI Tm M_41) → (qw M_41 M) → (tY M_41 60 34 = tY M 60 34) → ti_H ti_LM D A cy H0 M_41 H locs → lv_has ls 8 [(5, .int x_12), (4, .int x_11), (3, .int x_1), (0, .ref (A 60 0)), (1, .int 0), (2, .int t)] → W p l e (ti_rm 4) s m args below meth c H locs 0 0 Q (F0 m 160 ls []) := by
                intro M_41 H locs ls iM_41 f_42 f_43 hw hl
                obtain ⟨x_44, ex_44⟩ : ∃ z : Int32, z = x_12 + 1 := ⟨_, rfl⟩
                have tx_44 : x_44.toInt = x_12.toInt + 1 := i_add ex_44 rfl (by decide) (by omega) (by omega)
                refine lv_iinc (v := x_44) (lv' := [(5, .int x_44), (4, .int x_11), (3, .int x_1), (0, .ref (A 60 0)), (1, .int 0), (2, .int t)]) hx hb dX10_levy_160 hl (k := 0) rfl (by rw [ex_44]; rfl) (by decide) rfl (fun ls hl => ?_)
                refine lv_goto (tgt := 61) hx hb dX10_levy_163 (by decide) ?_
                exact ih_18 x_44 M_41 _ _ _ (by omega) (by first | omega | decide) (by first | omega | decide) iM_41 f_42 ((f_43)) hw (lv_sub hl [0, 1, 2, 3, 4, 5] rfl)
              refine sb_icmp_ne (tgt := 81) hx hb rfl rfl dX10_levy_75 (by decide) (fun c_75_19 => ?_) (fun c_75_19 => ?_)
              · refine lv_aload_n hx hb dX10_levy_81 rfl (lv_at hl 3 rfl) ?_
                refine ti_get (ci := 10) (k := 39) (N := 67) (T := TX10) (v := .ref (A 60 40)) C hw iw_10 rfl ob_60 (by decide) (by decide) fl_X10_84 rfl rfl dX10_levy_82 ?_
                refine lv_bipush (v := 8) hx hb dX10_levy_85 (by decide) ?_
                refine lv_iload_n hx hb dX10_levy_87 rfl (lv_at hl 4 rfl) ?_
                refine lv_imul hx hb dX10_levy_88 ?_
                refine ti_top (y := 0) (by decide) ?_
                refine lv_iload hx hb dX10_levy_89 (lv_at hl 0 rfl) ?_
                refine lv_iadd hx hb dX10_levy_91 ?_
                refine lv_topi (fun x_21 ex_21 => ?_)
                have tx_21 : x_21.toInt = 0 + x_12.toInt := i_add ex_21 (by decide : (0 : Int32).toInt = 0) rfl (by omega) (by omega)
                refine ti_iald (ci := 10) (k := 39) (n := 184) C hw ob_60 (by decide) (fun _ _ => rfl) (vp_in_iff.mpr (by omega)) dX10_levy_92 ?_
                refine lv_topi (fun x_22 ex_22 => ?_)
                have yx_22 : tY M_15 60 39 x_21.toNatClampNeg = x_22 := (ex_22.symm)
                have bx_22 : 0 ≤ x_22.toInt ∧ x_22.toInt ≤ 7 := mI_ry (k := 39) (i := x_21.toNatClampNeg) iM_15 yx_22.symm
                have wx_22 : tY M 60 39 x_21.toNatClampNeg = x_22 := ((cg f_16.2.2.2.1 x_21.toNatClampNeg)).symm.trans yx_22
                refine lv_istore (lv' := [(6, .int x_22), (5, .int x_12), (4, .int x_11), (3, .int x_1), (0, .ref (A 60 0)), (1, .int 0), (2, .int t)]) hx hb dX10_levy_93 hl (by decide) rfl (fun ls hl => ?_)
                refine lv_aload_n hx hb dX10_levy_95 rfl (lv_at hl 4 rfl) ?_
                refine lv_iload_n hx hb dX10_levy_96 rfl (lv_at hl 5 rfl) ?_
                refine lv_iload hx hb dX10_levy_97 (lv_at hl 0 rfl) ?_
                refine lv_iload hx hb dX10_levy_99 (lv_at hl 1 rfl) ?_
                refine lv_iload_n hx hb dX10_levy_101 rfl (lv_at hl 6 rfl) ?_
                refine ti_callVv (ci := 10) (av := [.int 0, .int x_22, .int x_12, .int t]) C hw (s_X10_calls_0 l D A cy hJ M_15 iM_15 x_22 x_12 t (by first | omega | decide) (by first | omega | decide)) ⟨ml_X10_363, ym_X10_calls, yv_X10_calls, yi_X10_calls, yc_X10_calls⟩ yd_X10_calls ob_60 (by decide) rfl rfl hl.1 (Nat.le_of_ble_eq_true rfl) ⟨by decide, by decide⟩ ⟨Nat.zero_le _, Nat.zero_le _⟩ dX10_levy_102 (fun M_24 H locs hp_24 hw => ?_)
                obtain ⟨iM_24, q_25, q_26⟩ := hp_24
                refine lv_aload_n hx hb dX10_levy_105 rfl (lv_at hl 4 rfl) ?_
                refine ti_get (ci := 10) (k := 43) (N := 67) (T := TX10) (v := .ref (A 60 44)) C hw iw_10 rfl ob_60 (by decide) (by decide) fl_X10_96 rfl rfl dX10_levy_106 ?_
                refine lv_bipush (v := 8) hx hb dX10_levy_109 (by decide) ?_
                refine lv_iload_n hx hb dX10_levy_111 rfl (lv_at hl 5 rfl) ?_
                refine lv_imul hx hb dX10_levy_112 ?_
                refine ti_top (y := 0) (by decide) ?_
                refine lv_iload hx hb dX10_levy_113 (lv_at hl 0 rfl) ?_
                refine lv_iadd hx hb dX10_levy_115 ?_
                refine lv_topi (fun x_27 ex_27 => ?_)
                have tx_27 : x_27.toInt = 0 + x_22.toInt := i_add ex_27 (by decide : (0 : Int32).toInt = 0) rfl (by omega) (by omega)
                refine ti_iald (ci := 10) (k := 43) (n := 184) C hw ob_60 (by decide) (fun _ _ => rfl) (vp_in_iff.mpr (by omega)) dX10_levy_116 ?_
                refine lv_topi (fun x_28 ex_28 => ?_)
                have yx_28 : tY M_24 60 43 x_27.toNatClampNeg = x_28 := (ex_28.symm)
                have wx_28 : tY M_15 60 43 x_27.toNatClampNeg = x_28 := ((cg (tY_fr q_26) x_27.toNatClampNeg)).symm.trans yx_28
                refine lv_aload_n hx hb dX10_levy_117 rfl (lv_at hl 4 rfl) ?_
                refine lv_iconst (v := 0) hx hb dX10_levy_118 (by decide) ?_
                refine lv_iconst (v := 0) hx hb dX10_levy_119 (by decide) ?_
                refine lv_bipush (v := 99) hx hb dX10_levy_120 (by decide) ?_
                refine lv_iconst (v := 1) hx hb dX10_levy_122 (by decide) ?_
                refine ti_callVi (ci := 10) (av := [.int 0, .int 0, .int 99, .int 1]) C hw (s_X10_within l D A cy hJ M_24 iM_24 (mL_lw (lk.trans (lk_of q_25.1 q_25.2.1) (lk_of f_16.1 f_16.2.1)).1 hL) 0 (by first | omega | decide) (by first | omega | decide) 0 99 1) ⟨ml_X10_367, ym_X10_within, yv_X10_within, yi_X10_within, yc_X10_within⟩ yd_X10_within ob_60 (by decide) rfl rfl hl.1 (Nat.le_of_ble_eq_true rfl) ⟨by decide, by decide⟩ ⟨Nat.zero_le _, Nat.zero_le _⟩ dX10_levy_123 (fun r_29 M_30 H locs hp_30 hw => ?_)
                obtain ⟨iM_30, q_31, q_32⟩ := hp_30
                refine ti_min C ml_X10_380 hl.1 (by decide) (Nat.le_of_ble_eq_true rfl) ⟨Nat.zero_le _, Nat.zero_le _⟩ dX10_levy_126 ?_
                refine lv_topi (fun x_33 ex_33 => ?_)
                have bx_33 := i_min ex_33 rfl rfl
                refine lv_istore (lv' := [(7, .int x_33), (6, .int x_22), (5, .int x_12), (4, .int x_11), (3, .int x_1), (0, .ref (A 60 0)), (1, .int 0), (2, .int t)]) hx hb dX10_levy_129 hl (by decide) rfl (fun ls hl => ?_)
                refine lv_aload_n hx hb dX10_levy_131 rfl (lv_at hl 5 rfl) ?_
                refine ti_get (ci := 10) (k := 43) (N := 67) (T := TX10) (v := .ref (A 60 44)) C hw iw_10 rfl ob_60 (by decide) (by decide) fl_X10_96 rfl rfl dX10_levy_132 ?_
                refine lv_bipush (v := 8) hx hb dX10_levy_135 (by decide) ?_
                refine lv_iload_n hx hb dX10_levy_137 rfl (lv_at hl 6 rfl) ?_
                refine lv_imul hx hb dX10_levy_138 ?_
                refine ti_top (y := 0) (by decide) ?_
                refine lv_iload hx hb dX10_levy_139 (lv_at hl 1 rfl) ?_
                refine lv_iadd hx hb dX10_levy_141 ?_
                refine lv_topi (fun x_34 ex_34 => ?_)
                have tx_34 : x_34.toInt = 0 + x_22.toInt := i_add ex_34 (by decide : (0 : Int32).toInt = 0) rfl (by omega) (by omega)
                refine lv_dup2_11 hx hb dX10_levy_142 rfl rfl ?_
                refine ti_iald (ci := 10) (k := 43) (n := 184) C hw ob_60 (by decide) (fun _ _ => rfl) (vp_in_iff.mpr (by omega)) dX10_levy_143 ?_
                refine lv_topi (fun x_35 ex_35 => ?_)
                have yx_35 : tY M_30 60 43 x_34.toNatClampNeg = x_35 := (ex_35.symm)
                have wx_35 : tY M_15 60 43 x_34.toNatClampNeg = x_35 := (((cg (tY_fr q_32) x_34.toNatClampNeg).trans (cg (tY_fr q_26) x_34.toNatClampNeg))).symm.trans yx_35
                refine lv_iload hx hb dX10_levy_144 (lv_at hl 0 rfl) ?_
                refine lv_isub hx hb dX10_levy_146 ?_
                refine lv_topi (fun x_36 ex_36 => ?_)
                refine ti_iast (ci := 10) (k := 43) (n := 184) C hw ob_60 (by decide) (fun _ _ => rfl) (vp_in_iff.mpr (by omega)) dX10_levy_147 (fun H locs hw => ?_)
                obtain ⟨M_37, hM_37⟩ : ∃ z : ti_M, z = uY M_30 60 43 (upd (tY M_30 60 43) (x_34 : Int32).toNatClampNeg x_36) := ⟨_, rfl⟩
                have hw := hw.to hM_37.symm
                have iM_37 : mI Tm M_37 := mI_up (i := x_34.toNatClampNeg) iM_30 hM_37 trivial
                refine lv_aload_n hx hb dX10_levy_148 rfl (lv_at hl 5 rfl) ?_
                refine ti_get (ci := 10) (k := 43) (N := 67) (T := TX10) (v := .ref (A 60 44)) C hw iw_10 rfl ob_60 (by decide) (by decide) fl_X10_96 rfl rfl dX10_levy_149 ?_
                refine lv_iload hx hb dX10_levy_152 (lv_at hl 3 rfl) ?_
                refine lv_dup2_11 hx hb dX10_levy_154 rfl rfl ?_
                refine ti_iald (ci := 10) (k := 43) (n := 184) C hw ob_60 (by decide) (fun _ _ => rfl) (vp_in_iff.mpr (by omega)) dX10_levy_155 ?_
                refine lv_topi (fun x_38 ex_38 => ?_)
                have yx_38 : tY M_37 60 43 x_11.toNatClampNeg = x_38 := (ex_38.symm)
                refine lv_iload hx hb dX10_levy_156 (lv_at hl 0 rfl) ?_
                refine lv_iadd hx hb dX10_levy_158 ?_
                refine lv_topi (fun x_39 ex_39 => ?_)
                refine ti_iast (ci := 10) (k := 43) (n := 184) C hw ob_60 (by decide) (fun _ _ => rfl) (vp_in_iff.mpr (by omega)) dX10_levy_159 (fun H locs hw => ?_)
                obtain ⟨M_40, hM_40⟩ : ∃ z : ti_M, z = uY M_37 60 43 (upd (tY M_37 60 43) (x_11 : Int32).toNatClampNeg x_39) := ⟨_, rfl⟩
                have hw := hw.to hM_40.symm
                have iM_40 : mI Tm M_40 := mI_up (i := x_11.toNatClampNeg) iM_37 hM_40 trivial
                exact hj_160_43 M_40 _ _ _ iM_40 (qw.trans (qw_Y hM_40 (by decide)) (qw.trans (qw_Y hM_37 (by decide)) (qw.trans q_31 (qw.trans q_25 f_16)))) (((tY_nE hM_40 (nk (by decide))).trans ((tY_nE hM_37 (nk (by decide))).trans ((tY_fr q_32).trans ((tY_fr q_26).trans f_17))))) hw (lv_sub hl [2, 3, 4, 5, 6, 7] rfl)
              · refine lv_goto (tgt := 160) hx hb dX10_levy_78 (by decide) ?_
                exact hj_160_43 M_15 _ _ _ iM_15 f_16 ((f_17)) hw (lv_sub hl [0, 1, 2, 3, 4, 5] rfl)
        exact hl_61_17 ((8 - 0 : Int).toNat + 1) 0 M _ _ _ (Nat.lt_succ_self _) (by have lt0 : (0 : Int32).toInt = 0 := (by decide); first | omega | decide) (by have lt0 : (0 : Int32).toInt = 0 := (by decide); first | omega | decide) hI qw.refl rfl hw (lv_sub hl [0, 1, 2, 3, 4, 5] rfl)
      · exact hQ _ _ _ _ _ hw (⟨hI, qw.refl, rfl⟩) dX10_levy_39
set_option maxHeartbeats 4000000 in
set_option maxRecDepth 100000 in
theorem s_X10_levy_1 (l : Launch) (D : va_G) (A : Nat → Nat → Nat) (cy : Nat → ClassId) (hJ : ti_inj ti_LM A) (M : ti_M) (hI : mI Tm M) (hL : mL M) (t : Int32) : ti_Kv l yX10_levy cX10_levy 8 4 ti_LM D A cy M [.ref (A 60 0), .int 1, .int t] (fun M2 => mI Tm M2 ∧ qw M2 M ∧ tY M2 60 34 = tY M 60 34) := by
  refine ti_eV yp_X10_levy hJ ti_LM_nd (Nat.le_of_ble_eq_true rfl) ?_
  intro p e s m args below meth c Q H0 C hQ hw ls hl
  have hx := C.1
  have hb := C.2.1
  have hl : lv_has ls 8 [(0, .ref (A 60 0)), (1, .int 1), (2, .int t)] := hl
  refine lv_aload_n hx hb dX10_levy_0 rfl (lv_at hl 0 rfl) ?_
  refine ti_get (ci := 10) (k := 49) (N := 67) (T := TX10) (v := .ref (A 60 50)) C hw iw_10 rfl ob_60 (by decide) (by decide) fl_X10_114 rfl rfl dX10_levy_1 ?_
  refine lv_iconst (v := 3) hx hb dX10_levy_4 (by decide) ?_
  refine lv_iload_n hx hb dX10_levy_5 rfl (lv_at hl 1 rfl) ?_
  refine lv_imul hx hb dX10_levy_6 ?_
  refine ti_top (y := 3) (by decide) ?_
  refine lv_iconst (v := 2) hx hb dX10_levy_7 (by decide) ?_
  refine lv_iadd hx hb dX10_levy_8 ?_
  refine ti_top (y := 5) (by decide) ?_
  refine ti_iald (ci := 10) (k := 49) (n := 69) C hw ob_60 (by decide) (fun _ _ => rfl) (by unfold vp_in; decide) dX10_levy_9 ?_
  refine lv_topi (fun x_1 ex_1 => ?_)
  have yx_1 : tY M 60 49 5 = x_1 := ((congrArg _ (by decide)).symm.trans ex_1.symm)
  have bx_1 : 0 ≤ x_1.toInt ∧ x_1.toInt ≤ 7 := mI_ry (k := 49) (i := 5) hI yx_1.symm
  refine lv_istore_n (lv' := [(3, .int x_1), (0, .ref (A 60 0)), (1, .int 1), (2, .int t)]) hx hb dX10_levy_10 rfl hl (by decide) rfl (fun ls hl => ?_)
  refine lv_iload_n hx hb dX10_levy_11 rfl (lv_at hl 3 rfl) ?_
  refine lv_aload_n hx hb dX10_levy_12 rfl (lv_at hl 1 rfl) ?_
  refine ti_get (ci := 10) (k := 3) (N := 67) (T := TX10) (v := .ref (A 60 4)) C hw iw_10 rfl ob_60 (by decide) (by decide) fl_X10_13 rfl rfl dX10_levy_13 ?_
  refine lv_iconst (v := 3) hx hb dX10_levy_16 (by decide) ?_
  refine ti_iald (ci := 10) (k := 3) (n := 22) C hw ob_60 (by decide) (fun _ _ => rfl) (by unfold vp_in; decide) dX10_levy_17 ?_
  refine lv_topi (fun x_2 ex_2 => ?_)
  have yx_2 : tY M 60 3 3 = x_2 := ((congrArg _ (by decide)).symm.trans ex_2.symm)
  have bx_2 : 1 ≤ x_2.toInt ∧ x_2.toInt ≤ 30 := mI_rn (i := 3) hI yx_2.symm (fun _ h => h)
  have zx_2 : (tY M 60 3 3).toInt = x_2.toInt := by rw [yx_2]
  refine lv_irem hx hb dX10_levy_18 (nz (by omega)) ?_
  refine lv_topi (fun x_3 ex_3 => ?_)
  refine sb_if_ne (tgt := 39) hx hb rfl dX10_levy_19 (by decide) (fun c_19_3 => ?_) (fun c_19_3 => ?_)
  · exact hQ _ _ _ _ _ hw (⟨hI, qw.refl, rfl⟩) dX10_levy_39
  · refine lv_iload_n hx hb dX10_levy_22 rfl (lv_at hl 0 rfl) ?_
    refine lv_aload_n hx hb dX10_levy_23 rfl (lv_at hl 1 rfl) ?_
    refine ti_get (ci := 10) (k := 38) (N := 67) (T := TX10) (v := .ref (A 60 39)) C hw iw_10 rfl ob_60 (by decide) (by decide) fl_X10_81 rfl rfl dX10_levy_24 ?_
    refine lv_iload_n hx hb dX10_levy_27 rfl (lv_at hl 2 rfl) ?_
    refine ti_iald (ci := 10) (k := 38) (n := 23) C hw ob_60 (by decide) (fun _ _ => rfl) (by unfold vp_in; decide) dX10_levy_28 ?_
    refine lv_topi (fun x_5 ex_5 => ?_)
    have yx_5 : tY M 60 38 1 = x_5 := ((congrArg _ (by decide)).symm.trans ex_5.symm)
    have bx_5 : 0 ≤ x_5.toInt ∧ x_5.toInt ≤ 8 := mI_ry (k := 38) (i := 1) hI yx_5.symm
    have zx_5 : (tY M 60 38 1).toInt = x_5.toInt := by rw [yx_5]
    refine sb_icmp_ge (tgt := 39) hx hb rfl rfl dX10_levy_29 (by decide) (fun c_29_5 => ?_) (fun c_29_5 => ?_)
    · exact hQ _ _ _ _ _ hw (⟨hI, qw.refl, rfl⟩) dX10_levy_39
    · refine lv_aload_n hx hb dX10_levy_32 rfl (lv_at hl 1 rfl) ?_
      refine ti_get (ci := 10) (k := 53) (N := 67) (T := TX10) C hw iw_10 rfl ob_60 (by decide) (by decide) fl_X10_120 rfl rfl dX10_levy_33 ?_
      refine lv_topi (fun x_7 ex_7 => ?_)
      refine sb_if_ne (tgt := 40) hx hb rfl dX10_levy_36 (by decide) (fun c_36_7 => ?_) (fun c_36_7 => ?_)
      · refine lv_bipush (v := 8) hx hb dX10_levy_40 (by decide) ?_
        refine lv_iload_n hx hb dX10_levy_42 rfl (lv_at hl 2 rfl) ?_
        refine lv_imul hx hb dX10_levy_43 ?_
        refine ti_top (y := 8) (by decide) ?_
        refine lv_aload_n hx hb dX10_levy_44 rfl (lv_at hl 1 rfl) ?_
        refine ti_get (ci := 10) (k := 39) (N := 67) (T := TX10) (v := .ref (A 60 40)) C hw iw_10 rfl ob_60 (by decide) (by decide) fl_X10_84 rfl rfl dX10_levy_45 ?_
        refine lv_bipush (v := 8) hx hb dX10_levy_48 (by decide) ?_
        refine lv_iload_n hx hb dX10_levy_50 rfl (lv_at hl 2 rfl) ?_
        refine lv_imul hx hb dX10_levy_51 ?_
        refine ti_top (y := 8) (by decide) ?_
        refine lv_iload_n hx hb dX10_levy_52 rfl (lv_at hl 0 rfl) ?_
        refine lv_iadd hx hb dX10_levy_53 ?_
        refine lv_topi (fun x_9 ex_9 => ?_)
        have tx_9 : x_9.toInt = 8 + x_1.toInt := i_add ex_9 (by decide : (8 : Int32).toInt = 8) rfl (by omega) (by omega)
        refine ti_iald (ci := 10) (k := 39) (n := 184) C hw ob_60 (by decide) (fun _ _ => rfl) (vp_in_iff.mpr (by omega)) dX10_levy_54 ?_
        refine lv_topi (fun x_10 ex_10 => ?_)
        have yx_10 : tY M 60 39 x_9.toNatClampNeg = x_10 := (ex_10.symm)
        have bx_10 : 0 ≤ x_10.toInt ∧ x_10.toInt ≤ 7 := mI_ry (k := 39) (i := x_9.toNatClampNeg) hI yx_10.symm
        refine lv_iadd hx hb dX10_levy_55 ?_
        refine lv_topi (fun x_11 ex_11 => ?_)
        have tx_11 : x_11.toInt = 8 + x_10.toInt := i_add ex_11 (by decide : (8 : Int32).toInt = 8) rfl (by omega) (by omega)
        refine lv_istore (lv' := [(4, .int x_11), (3, .int x_1), (0, .ref (A 60 0)), (1, .int 1), (2, .int t)]) hx hb dX10_levy_56 hl (by decide) rfl (fun ls hl => ?_)
        refine lv_iconst (v := 0) hx hb dX10_levy_58 (by decide) ?_
        refine lv_istore (lv' := [(5, .int 0), (4, .int x_11), (3, .int x_1), (0, .ref (A 60 0)), (1, .int 1), (2, .int t)]) hx hb dX10_levy_59 hl (by decide) rfl (fun ls hl => ?_)
        have hl_61_17 : ∀ (n_18 : Nat) (x_12 : Int32) (M_15 : ti_M) (H : Heap) (locs : List Loc) (ls : Array Slot), (8 - x_12.toInt : Int).toNat < n_18 → (0 ≤ x_12.toInt) → (x_12.toInt ≤ 8) → (mI Tm M_15) → (qw M_15 M) → (tY M_15 60 34 = tY M 60 34) → ti_H ti_LM D A cy H0 M_15 H locs → lv_has ls 8 [(5, .int x_12), (4, .int x_11), (3, .int x_1), (0, .ref (A 60 0)), (1, .int 1), (2, .int t)] → W p l e (ti_rm 4) s m args below meth c H locs 0 0 Q (F0 m 61 ls []) := by
          intro n_18
          induction n_18 with
          | zero => intro x_12 M_15 H locs ls hf_18; exact absurd hf_18 (Nat.not_lt_zero _)
          | succ n_18 ih_18 =>
            intro x_12 M_15 H locs ls hf_18 b_13 b_14 iM_15 f_16 f_17 hw hl
            refine lv_iload hx hb dX10_levy_61 (lv_at hl 0 rfl) ?_
            refine lv_aload_n hx hb dX10_levy_63 rfl (lv_at hl 3 rfl) ?_
            refine ti_get (ci := 10) (k := 38) (N := 67) (T := TX10) (v := .ref (A 60 39)) C hw iw_10 rfl ob_60 (by decide) (by decide) fl_X10_81 rfl rfl dX10_levy_64 ?_
            refine lv_iload_n hx hb dX10_levy_67 rfl (lv_at hl 4 rfl) ?_
            refine ti_iald (ci := 10) (k := 38) (n := 23) C hw ob_60 (by decide) (fun _ _ => rfl) (by unfold vp_in; decide) dX10_levy_68 ?_
            refine ti_top (y := x_5) ((congrArg _ (by decide)).trans ((cg f_16.2.2.1 1).trans yx_5)) ?_
            refine sb_icmp_ge (tgt := 166) hx hb rfl rfl dX10_levy_69 (by decide) (fun c_69_18 => ?_) (fun c_69_18 => ?_)
            · exact hQ _ _ _ _ _ hw (⟨iM_15, f_16, ((f_17))⟩) dX10_levy_166
            · refine lv_iload hx hb dX10_levy_72 (lv_at hl 0 rfl) ?_
              refine lv_iload_n hx hb dX10_levy_74 rfl (lv_at hl 2 rfl) ?_
              have hj_160_43 : ∀ (M_41 : ti_M) (H : Heap) (locs : List Loc) (ls : Array Slot), (mI Tm M_41) → (qw M_41 M) → (tY M_41 60 34 = tY M 60 34) → ti_H ti_LM D A cy H0 M_41 H locs → lv_has ls 8 [(5, .int x_12), (4, .int x_11), (3, .int x_1), (0, .ref (A 60 0)), (1, .int 1), (2, .int t)] → W p l e (ti_rm 4) s m args below meth c H locs 0 0 Q (F0 m 160 ls []) := by
                intro M_41 H locs ls iM_41 f_42 f_43 hw hl
                obtain ⟨x_44, ex_44⟩ : ∃ z : Int32, z = x_12 + 1 := ⟨_, rfl⟩
                have tx_44 : x_44.toInt = x_12.toInt + 1 := i_add ex_44 rfl (by decide) (by omega) (by omega)
                refine lv_iinc (v := x_44) (lv' := [(5, .int x_44), (4, .int x_11), (3, .int x_1), (0, .ref (A 60 0)), (1, .int 1), (2, .int t)]) hx hb dX10_levy_160 hl (k := 0) rfl (by rw [ex_44]; rfl) (by decide) rfl (fun ls hl => ?_)
                refine lv_goto (tgt := 61) hx hb dX10_levy_163 (by decide) ?_
                exact ih_18 x_44 M_41 _ _ _ (by omega) (by first | omega | decide) (by first | omega | decide) iM_41 f_42 ((f_43)) hw (lv_sub hl [0, 1, 2, 3, 4, 5] rfl)
              refine sb_icmp_ne (tgt := 81) hx hb rfl rfl dX10_levy_75 (by decide) (fun c_75_19 => ?_) (fun c_75_19 => ?_)
              · refine lv_aload_n hx hb dX10_levy_81 rfl (lv_at hl 3 rfl) ?_
                refine ti_get (ci := 10) (k := 39) (N := 67) (T := TX10) (v := .ref (A 60 40)) C hw iw_10 rfl ob_60 (by decide) (by decide) fl_X10_84 rfl rfl dX10_levy_82 ?_
                refine lv_bipush (v := 8) hx hb dX10_levy_85 (by decide) ?_
                refine lv_iload_n hx hb dX10_levy_87 rfl (lv_at hl 4 rfl) ?_
                refine lv_imul hx hb dX10_levy_88 ?_
                refine ti_top (y := 8) (by decide) ?_
                refine lv_iload hx hb dX10_levy_89 (lv_at hl 0 rfl) ?_
                refine lv_iadd hx hb dX10_levy_91 ?_
                refine lv_topi (fun x_21 ex_21 => ?_)
                have tx_21 : x_21.toInt = 8 + x_12.toInt := i_add ex_21 (by decide : (8 : Int32).toInt = 8) rfl (by omega) (by omega)
                refine ti_iald (ci := 10) (k := 39) (n := 184) C hw ob_60 (by decide) (fun _ _ => rfl) (vp_in_iff.mpr (by omega)) dX10_levy_92 ?_
                refine lv_topi (fun x_22 ex_22 => ?_)
                have yx_22 : tY M_15 60 39 x_21.toNatClampNeg = x_22 := (ex_22.symm)
                have bx_22 : 0 ≤ x_22.toInt ∧ x_22.toInt ≤ 7 := mI_ry (k := 39) (i := x_21.toNatClampNeg) iM_15 yx_22.symm
                have wx_22 : tY M 60 39 x_21.toNatClampNeg = x_22 := ((cg f_16.2.2.2.1 x_21.toNatClampNeg)).symm.trans yx_22
                refine lv_istore (lv' := [(6, .int x_22), (5, .int x_12), (4, .int x_11), (3, .int x_1), (0, .ref (A 60 0)), (1, .int 1), (2, .int t)]) hx hb dX10_levy_93 hl (by decide) rfl (fun ls hl => ?_)
                refine lv_aload_n hx hb dX10_levy_95 rfl (lv_at hl 4 rfl) ?_
                refine lv_iload_n hx hb dX10_levy_96 rfl (lv_at hl 5 rfl) ?_
                refine lv_iload hx hb dX10_levy_97 (lv_at hl 0 rfl) ?_
                refine lv_iload hx hb dX10_levy_99 (lv_at hl 1 rfl) ?_
                refine lv_iload_n hx hb dX10_levy_101 rfl (lv_at hl 6 rfl) ?_
                refine ti_callVv (ci := 10) (av := [.int 1, .int x_22, .int x_12, .int t]) C hw (s_X10_calls_1 l D A cy hJ M_15 iM_15 x_22 x_12 t (by first | omega | decide) (by first | omega | decide)) ⟨ml_X10_363, ym_X10_calls, yv_X10_calls, yi_X10_calls, yc_X10_calls⟩ yd_X10_calls ob_60 (by decide) rfl rfl hl.1 (Nat.le_of_ble_eq_true rfl) ⟨by decide, by decide⟩ ⟨Nat.zero_le _, Nat.zero_le _⟩ dX10_levy_102 (fun M_24 H locs hp_24 hw => ?_)
                obtain ⟨iM_24, q_25, q_26⟩ := hp_24
                refine lv_aload_n hx hb dX10_levy_105 rfl (lv_at hl 4 rfl) ?_
                refine ti_get (ci := 10) (k := 43) (N := 67) (T := TX10) (v := .ref (A 60 44)) C hw iw_10 rfl ob_60 (by decide) (by decide) fl_X10_96 rfl rfl dX10_levy_106 ?_
                refine lv_bipush (v := 8) hx hb dX10_levy_109 (by decide) ?_
                refine lv_iload_n hx hb dX10_levy_111 rfl (lv_at hl 5 rfl) ?_
                refine lv_imul hx hb dX10_levy_112 ?_
                refine ti_top (y := 8) (by decide) ?_
                refine lv_iload hx hb dX10_levy_113 (lv_at hl 0 rfl) ?_
                refine lv_iadd hx hb dX10_levy_115 ?_
                refine lv_topi (fun x_27 ex_27 => ?_)
                have tx_27 : x_27.toInt = 8 + x_22.toInt := i_add ex_27 (by decide : (8 : Int32).toInt = 8) rfl (by omega) (by omega)
                refine ti_iald (ci := 10) (k := 43) (n := 184) C hw ob_60 (by decide) (fun _ _ => rfl) (vp_in_iff.mpr (by omega)) dX10_levy_116 ?_
                refine lv_topi (fun x_28 ex_28 => ?_)
                have yx_28 : tY M_24 60 43 x_27.toNatClampNeg = x_28 := (ex_28.symm)
                have wx_28 : tY M_15 60 43 x_27.toNatClampNeg = x_28 := ((cg (tY_fr q_26) x_27.toNatClampNeg)).symm.trans yx_28
                refine lv_aload_n hx hb dX10_levy_117 rfl (lv_at hl 4 rfl) ?_
                refine lv_iconst (v := 0) hx hb dX10_levy_118 (by decide) ?_
                refine lv_iconst (v := 0) hx hb dX10_levy_119 (by decide) ?_
                refine lv_bipush (v := 99) hx hb dX10_levy_120 (by decide) ?_
                refine lv_iconst (v := 1) hx hb dX10_levy_122 (by decide) ?_
                refine ti_callVi (ci := 10) (av := [.int 0, .int 0, .int 99, .int 1]) C hw (s_X10_within l D A cy hJ M_24 iM_24 (mL_lw (lk.trans (lk_of q_25.1 q_25.2.1) (lk_of f_16.1 f_16.2.1)).1 hL) 0 (by first | omega | decide) (by first | omega | decide) 0 99 1) ⟨ml_X10_367, ym_X10_within, yv_X10_within, yi_X10_within, yc_X10_within⟩ yd_X10_within ob_60 (by decide) rfl rfl hl.1 (Nat.le_of_ble_eq_true rfl) ⟨by decide, by decide⟩ ⟨Nat.zero_le _, Nat.zero_le _⟩ dX10_levy_123 (fun r_29 M_30 H locs hp_30 hw => ?_)
                obtain ⟨iM_30, q_31, q_32⟩ := hp_30
                refine ti_min C ml_X10_380 hl.1 (by decide) (Nat.le_of_ble_eq_true rfl) ⟨Nat.zero_le _, Nat.zero_le _⟩ dX10_levy_126 ?_
                refine lv_topi (fun x_33 ex_33 => ?_)
                have bx_33 := i_min ex_33 rfl rfl
                refine lv_istore (lv' := [(7, .int x_33), (6, .int x_22), (5, .int x_12), (4, .int x_11), (3, .int x_1), (0, .ref (A 60 0)), (1, .int 1), (2, .int t)]) hx hb dX10_levy_129 hl (by decide) rfl (fun ls hl => ?_)
                refine lv_aload_n hx hb dX10_levy_131 rfl (lv_at hl 5 rfl) ?_
                refine ti_get (ci := 10) (k := 43) (N := 67) (T := TX10) (v := .ref (A 60 44)) C hw iw_10 rfl ob_60 (by decide) (by decide) fl_X10_96 rfl rfl dX10_levy_132 ?_
                refine lv_bipush (v := 8) hx hb dX10_levy_135 (by decide) ?_
                refine lv_iload_n hx hb dX10_levy_137 rfl (lv_at hl 6 rfl) ?_
                refine lv_imul hx hb dX10_levy_138 ?_
                refine ti_top (y := 8) (by decide) ?_
                refine lv_iload hx hb dX10_levy_139 (lv_at hl 1 rfl) ?_
                refine lv_iadd hx hb dX10_levy_141 ?_
                refine lv_topi (fun x_34 ex_34 => ?_)
                have tx_34 : x_34.toInt = 8 + x_22.toInt := i_add ex_34 (by decide : (8 : Int32).toInt = 8) rfl (by omega) (by omega)
                refine lv_dup2_11 hx hb dX10_levy_142 rfl rfl ?_
                refine ti_iald (ci := 10) (k := 43) (n := 184) C hw ob_60 (by decide) (fun _ _ => rfl) (vp_in_iff.mpr (by omega)) dX10_levy_143 ?_
                refine lv_topi (fun x_35 ex_35 => ?_)
                have yx_35 : tY M_30 60 43 x_34.toNatClampNeg = x_35 := (ex_35.symm)
                have wx_35 : tY M_15 60 43 x_34.toNatClampNeg = x_35 := (((cg (tY_fr q_32) x_34.toNatClampNeg).trans (cg (tY_fr q_26) x_34.toNatClampNeg))).symm.trans yx_35
                refine lv_iload hx hb dX10_levy_144 (lv_at hl 0 rfl) ?_
                refine lv_isub hx hb dX10_levy_146 ?_
                refine lv_topi (fun x_36 ex_36 => ?_)
                refine ti_iast (ci := 10) (k := 43) (n := 184) C hw ob_60 (by decide) (fun _ _ => rfl) (vp_in_iff.mpr (by omega)) dX10_levy_147 (fun H locs hw => ?_)
                obtain ⟨M_37, hM_37⟩ : ∃ z : ti_M, z = uY M_30 60 43 (upd (tY M_30 60 43) (x_34 : Int32).toNatClampNeg x_36) := ⟨_, rfl⟩
                have hw := hw.to hM_37.symm
                have iM_37 : mI Tm M_37 := mI_up (i := x_34.toNatClampNeg) iM_30 hM_37 trivial
                refine lv_aload_n hx hb dX10_levy_148 rfl (lv_at hl 5 rfl) ?_
                refine ti_get (ci := 10) (k := 43) (N := 67) (T := TX10) (v := .ref (A 60 44)) C hw iw_10 rfl ob_60 (by decide) (by decide) fl_X10_96 rfl rfl dX10_levy_149 ?_
                refine lv_iload hx hb dX10_levy_152 (lv_at hl 3 rfl) ?_
                refine lv_dup2_11 hx hb dX10_levy_154 rfl rfl ?_
                refine ti_iald (ci := 10) (k := 43) (n := 184) C hw ob_60 (by decide) (fun _ _ => rfl) (vp_in_iff.mpr (by omega)) dX10_levy_155 ?_
                refine lv_topi (fun x_38 ex_38 => ?_)
                have yx_38 : tY M_37 60 43 x_11.toNatClampNeg = x_38 := (ex_38.symm)
                refine lv_iload hx hb dX10_levy_156 (lv_at hl 0 rfl) ?_
                refine lv_iadd hx hb dX10_levy_158 ?_
                refine lv_topi (fun x_39 ex_39 => ?_)
                refine ti_iast (ci := 10) (k := 43) (n := 184) C hw ob_60 (by decide) (fun _ _ => rfl) (vp_in_iff.mpr (by omega)) dX10_levy_159 (fun H locs hw => ?_)
                obtain ⟨M_40, hM_40⟩ : ∃ z : ti_M, z = uY M_37 60 43 (upd (tY M_37 60 43) (x_11 : Int32).toNatClampNeg x_39) := ⟨_, rfl⟩
                have hw := hw.to hM_40.symm
                have iM_40 : mI Tm M_40 := mI_up (i := x_11.toNatClampNeg) iM_37 hM_40 trivial
                exact hj_160_43 M_40 _ _ _ iM_40 (qw.trans (qw_Y hM_40 (by decide)) (qw.trans (qw_Y hM_37 (by decide)) (qw.trans q_31 (qw.trans q_25 f_16)))) (((tY_nE hM_40 (nk (by decide))).trans ((tY_nE hM_37 (nk (by decide))).trans ((tY_fr q_32).trans ((tY_fr q_26).trans f_17))))) hw (lv_sub hl [2, 3, 4, 5, 6, 7] rfl)
              · refine lv_goto (tgt := 160) hx hb dX10_levy_78 (by decide) ?_
                exact hj_160_43 M_15 _ _ _ iM_15 f_16 ((f_17)) hw (lv_sub hl [0, 1, 2, 3, 4, 5] rfl)
        exact hl_61_17 ((8 - 0 : Int).toNat + 1) 0 M _ _ _ (Nat.lt_succ_self _) (by have lt0 : (0 : Int32).toInt = 0 := (by decide); first | omega | decide) (by have lt0 : (0 : Int32).toInt = 0 := (by decide); first | omega | decide) hI qw.refl rfl hw (lv_sub hl [0, 1, 2, 3, 4, 5] rfl)
      · exact hQ _ _ _ _ _ hw (⟨hI, qw.refl, rfl⟩) dX10_levy_39
set_option maxHeartbeats 4000000 in
set_option maxRecDepth 100000 in
theorem s_X10_wear_0 (l : Launch) (D : va_G) (A : Nat → Nat → Nat) (cy : Nat → ClassId) (hJ : ti_inj ti_LM A) (M : ti_M) (hI : mI Tm M) (hL : mL M) (t : Int32) : ti_Kv l yX10_wear cX10_wear 6 4 ti_LM D A cy M [.ref (A 60 0), .int 0, .int t] (fun M2 => mI Tm M2 ∧ qw M2 M ∧ tY M2 60 34 = tY M 60 34) := by
  refine ti_eV yp_X10_wear hJ ti_LM_nd (Nat.le_of_ble_eq_true rfl) ?_
  intro p e s m args below meth c Q H0 C hQ hw ls hl
  have hx := C.1
  have hb := C.2.1
  have hl : lv_has ls 6 [(0, .ref (A 60 0)), (1, .int 0), (2, .int t)] := hl
  refine lv_iconst (v := 0) hx hb dX10_wear_0 (by decide) ?_
  refine lv_istore_n (lv' := [(3, .int 0), (0, .ref (A 60 0)), (1, .int 0), (2, .int t)]) hx hb dX10_wear_1 rfl hl (by decide) rfl (fun ls hl => ?_)
  have hl_2_6 : ∀ (n_7 : Nat) (x_1 : Int32) (M_4 : ti_M) (H : Heap) (locs : List Loc) (ls : Array Slot), (8 - x_1.toInt : Int).toNat < n_7 → (0 ≤ x_1.toInt) → (x_1.toInt ≤ 8) → (mI Tm M_4) → (qw M_4 M) → (tY M_4 60 34 = tY M 60 34) → ti_H ti_LM D A cy H0 M_4 H locs → lv_has ls 6 [(3, .int x_1), (0, .ref (A 60 0)), (1, .int 0), (2, .int t)] → W p l e (ti_rm 4) s m args below meth c H locs 0 0 Q (F0 m 2 ls []) := by
    intro n_7
    induction n_7 with
    | zero => intro x_1 M_4 H locs ls hf_7; exact absurd hf_7 (Nat.not_lt_zero _)
    | succ n_7 ih_7 =>
      intro x_1 M_4 H locs ls hf_7 b_2 b_3 iM_4 f_5 f_6 hw hl
      refine lv_iload_n hx hb dX10_wear_2 rfl (lv_at hl 0 rfl) ?_
      refine lv_aload_n hx hb dX10_wear_3 rfl (lv_at hl 1 rfl) ?_
      refine ti_get (ci := 10) (k := 38) (N := 67) (T := TX10) (v := .ref (A 60 39)) C hw iw_10 rfl ob_60 (by decide) (by decide) fl_X10_81 rfl rfl dX10_wear_4 ?_
      refine lv_iload_n hx hb dX10_wear_7 rfl (lv_at hl 2 rfl) ?_
      refine ti_iald (ci := 10) (k := 38) (n := 23) C hw ob_60 (by decide) (fun _ _ => rfl) (by unfold vp_in; decide) dX10_wear_8 ?_
      refine lv_topi (fun x_8 ex_8 => ?_)
      have yx_8 : tY M_4 60 38 0 = x_8 := ((congrArg _ (by decide)).symm.trans ex_8.symm)
      have bx_8 : 0 ≤ x_8.toInt ∧ x_8.toInt ≤ 8 := mI_ry (k := 38) (i := 0) iM_4 yx_8.symm
      have zx_8 : (tY M_4 60 38 0).toInt = x_8.toInt := by rw [yx_8]
      have wx_8 : tY M 60 38 0 = x_8 := ((cg f_5.2.2.1 0)).symm.trans yx_8
      have zwx_8 : (tY M 60 38 0).toInt = x_8.toInt := by rw [wx_8]
      refine sb_icmp_ge (tgt := 104) hx hb rfl rfl dX10_wear_9 (by decide) (fun c_9_8 => ?_) (fun c_9_8 => ?_)
      · exact hQ _ _ _ _ _ hw (⟨iM_4, f_5, ((f_6))⟩) dX10_wear_104
      · refine lv_aload_n hx hb dX10_wear_12 rfl (lv_at hl 1 rfl) ?_
        refine ti_get (ci := 10) (k := 39) (N := 67) (T := TX10) (v := .ref (A 60 40)) C hw iw_10 rfl ob_60 (by decide) (by decide) fl_X10_84 rfl rfl dX10_wear_13 ?_
        refine lv_bipush (v := 8) hx hb dX10_wear_16 (by decide) ?_
        refine lv_iload_n hx hb dX10_wear_18 rfl (lv_at hl 2 rfl) ?_
        refine lv_imul hx hb dX10_wear_19 ?_
        refine ti_top (y := 0) (by decide) ?_
        refine lv_iload_n hx hb dX10_wear_20 rfl (lv_at hl 0 rfl) ?_
        refine lv_iadd hx hb dX10_wear_21 ?_
        refine lv_topi (fun x_10 ex_10 => ?_)
        have tx_10 : x_10.toInt = 0 + x_1.toInt := i_add ex_10 (by decide : (0 : Int32).toInt = 0) rfl (by omega) (by omega)
        refine ti_iald (ci := 10) (k := 39) (n := 184) C hw ob_60 (by decide) (fun _ _ => rfl) (vp_in_iff.mpr (by omega)) dX10_wear_22 ?_
        refine lv_topi (fun x_11 ex_11 => ?_)
        have yx_11 : tY M_4 60 39 x_10.toNatClampNeg = x_11 := (ex_11.symm)
        have bx_11 : 0 ≤ x_11.toInt ∧ x_11.toInt ≤ 7 := mI_ry (k := 39) (i := x_10.toNatClampNeg) iM_4 yx_11.symm
        have wx_11 : tY M 60 39 x_10.toNatClampNeg = x_11 := ((cg f_5.2.2.2.1 x_10.toNatClampNeg)).symm.trans yx_11
        refine lv_istore (lv' := [(4, .int x_11), (3, .int x_1), (0, .ref (A 60 0)), (1, .int 0), (2, .int t)]) hx hb dX10_wear_23 hl (by decide) rfl (fun ls hl => ?_)
        refine lv_bipush (v := 8) hx hb dX10_wear_25 (by decide) ?_
        refine lv_iload_n hx hb dX10_wear_27 rfl (lv_at hl 3 rfl) ?_
        refine lv_imul hx hb dX10_wear_28 ?_
        refine ti_top (y := 0) (by decide) ?_
        refine lv_iload hx hb dX10_wear_29 (lv_at hl 0 rfl) ?_
        refine lv_iadd hx hb dX10_wear_31 ?_
        refine lv_topi (fun x_12 ex_12 => ?_)
        have tx_12 : x_12.toInt = 0 + x_11.toInt := i_add ex_12 (by decide : (0 : Int32).toInt = 0) rfl (by omega) (by omega)
        refine lv_istore (lv' := [(5, .int x_12), (4, .int x_11), (3, .int x_1), (0, .ref (A 60 0)), (1, .int 0), (2, .int t)]) hx hb dX10_wear_32 hl (by decide) rfl (fun ls hl => ?_)
        refine lv_aload_n hx hb dX10_wear_34 rfl (lv_at hl 3 rfl) ?_
        refine ti_get (ci := 10) (k := 47) (N := 67) (T := TX10) (v := .ref (A 60 48)) C hw iw_10 rfl ob_60 (by decide) (by decide) fl_X10_108 rfl rfl dX10_wear_35 ?_
        refine lv_iload hx hb dX10_wear_38 (lv_at hl 0 rfl) ?_
        refine ti_iald (ci := 10) (k := 47) (n := 184) C hw ob_60 (by decide) (fun _ _ => rfl) (vp_in_iff.mpr (by omega)) dX10_wear_40 ?_
        refine lv_topi (fun x_13 ex_13 => ?_)
        have yx_13 : tY M_4 60 47 x_12.toNatClampNeg = x_13 := (ex_13.symm)
        have hj_98_33 : ∀ (M_31 : ti_M) (H : Heap) (locs : List Loc) (ls : Array Slot), (mI Tm M_31) → (qw M_31 M) → (tY M_31 60 34 = tY M 60 34) → ti_H ti_LM D A cy H0 M_31 H locs → lv_has ls 6 [(5, .int x_12), (4, .int x_11), (3, .int x_1), (0, .ref (A 60 0)), (1, .int 0), (2, .int t)] → W p l e (ti_rm 4) s m args below meth c H locs 0 0 Q (F0 m 98 ls []) := by
          intro M_31 H locs ls iM_31 f_32 f_33 hw hl
          obtain ⟨x_34, ex_34⟩ : ∃ z : Int32, z = x_1 + 1 := ⟨_, rfl⟩
          have tx_34 : x_34.toInt = x_1.toInt + 1 := i_add ex_34 rfl (by decide) (by omega) (by omega)
          refine lv_iinc (v := x_34) (lv' := [(3, .int x_34), (5, .int x_12), (4, .int x_11), (0, .ref (A 60 0)), (1, .int 0), (2, .int t)]) hx hb dX10_wear_98 hl (k := 2) rfl (by rw [ex_34]; rfl) (by decide) rfl (fun ls hl => ?_)
          refine lv_goto (tgt := 2) hx hb dX10_wear_101 (by decide) ?_
          exact ih_7 x_34 M_31 _ _ _ (by omega) (by first | omega | decide) (by first | omega | decide) iM_31 f_32 ((f_33)) hw (lv_sub hl [0, 3, 4, 5] rfl)
        refine sb_if_le (tgt := 58) hx hb rfl dX10_wear_41 (by decide) (fun c_41_13 => ?_) (fun c_41_13 => ?_)
        · refine lv_iload_n hx hb dX10_wear_58 rfl (lv_at hl 2 rfl) ?_
          refine sb_if_le (tgt := 98) hx hb rfl dX10_wear_59 (by decide) (fun c_59_16 => ?_) (fun c_59_16 => ?_)
          · exact hj_98_33 M_4 _ _ _ iM_4 f_5 ((f_6)) hw (lv_sub hl [0, 1, 2, 3, 4, 5] rfl)
          · refine lv_aload_n hx hb dX10_wear_62 rfl (lv_at hl 3 rfl) ?_
            refine ti_get (ci := 10) (k := 53) (N := 67) (T := TX10) C hw iw_10 rfl ob_60 (by decide) (by decide) fl_X10_120 rfl rfl dX10_wear_63 ?_
            refine lv_topi (fun x_18 ex_18 => ?_)
            refine lv_iconst (v := 1) hx hb dX10_wear_66 (by decide) ?_
            refine sb_icmp_eq (tgt := 98) hx hb rfl (by decide : (1 : Int32).toInt = 1) dX10_wear_67 (by decide) (fun c_67_18 => ?_) (fun c_67_18 => ?_)
            · exact hj_98_33 M_4 _ _ _ iM_4 f_5 ((f_6)) hw (lv_sub hl [0, 1, 2, 3, 4, 5] rfl)
            · refine lv_aload_n hx hb dX10_wear_70 rfl (lv_at hl 3 rfl) ?_
              refine lv_iload_n hx hb dX10_wear_71 rfl (lv_at hl 4 rfl) ?_
              refine lv_iload hx hb dX10_wear_72 (lv_at hl 1 rfl) ?_
              refine lv_iload_n hx hb dX10_wear_74 rfl (lv_at hl 2 rfl) ?_
              refine lv_iload_n hx hb dX10_wear_75 rfl (lv_at hl 5 rfl) ?_
              refine ti_callVv (ci := 10) (av := [.int 0, .int x_11, .int x_1, .int t]) C hw (s_X10_calls_0 l D A cy hJ M_4 iM_4 x_11 x_1 t (by first | omega | decide) (by first | omega | decide)) ⟨ml_X10_363, ym_X10_calls, yv_X10_calls, yi_X10_calls, yc_X10_calls⟩ yd_X10_calls ob_60 (by decide) rfl rfl hl.1 (Nat.le_of_ble_eq_true rfl) ⟨by decide, by decide⟩ ⟨Nat.zero_le _, Nat.zero_le _⟩ dX10_wear_76 (fun M_21 H locs hp_21 hw => ?_)
              obtain ⟨iM_21, q_22, q_23⟩ := hp_21
              refine lv_aload_n hx hb dX10_wear_79 rfl (lv_at hl 3 rfl) ?_
              refine ti_get (ci := 10) (k := 41) (N := 67) (T := TX10) (v := .ref (A 60 42)) C hw iw_10 rfl ob_60 (by decide) (by decide) fl_X10_90 rfl rfl dX10_wear_80 ?_
              refine lv_iload hx hb dX10_wear_83 (lv_at hl 0 rfl) ?_
              refine lv_dup2_11 hx hb dX10_wear_85 rfl rfl ?_
              refine ti_iald (ci := 10) (k := 41) (n := 184) C hw ob_60 (by decide) (fun _ _ => rfl) (vp_in_iff.mpr (by omega)) dX10_wear_86 ?_
              refine lv_topi (fun x_24 ex_24 => ?_)
              have yx_24 : tY M_21 60 41 x_12.toNatClampNeg = x_24 := (ex_24.symm)
              have wx_24 : tY M_4 60 41 x_12.toNatClampNeg = x_24 := ((cg (tY_fr q_23) x_12.toNatClampNeg)).symm.trans yx_24
              refine lv_aload_n hx hb dX10_wear_87 rfl (lv_at hl 3 rfl) ?_
              refine lv_iconst (v := 1) hx hb dX10_wear_88 (by decide) ?_
              refine lv_iconst (v := 0) hx hb dX10_wear_89 (by decide) ?_
              refine lv_bipush (v := 9) hx hb dX10_wear_90 (by decide) ?_
              refine lv_iconst (v := 1) hx hb dX10_wear_92 (by decide) ?_
              refine ti_callVi (ci := 10) (av := [.int 1, .int 0, .int 9, .int 1]) C hw (s_X10_within l D A cy hJ M_21 iM_21 (mL_lw (lk.trans (lk_of q_22.1 q_22.2.1) (lk_of f_5.1 f_5.2.1)).1 hL) 1 (by first | omega | decide) (by first | omega | decide) 0 9 1) ⟨ml_X10_367, ym_X10_within, yv_X10_within, yi_X10_within, yc_X10_within⟩ yd_X10_within ob_60 (by decide) rfl rfl hl.1 (Nat.le_of_ble_eq_true rfl) ⟨by decide, by decide⟩ ⟨Nat.zero_le _, Nat.zero_le _⟩ dX10_wear_93 (fun r_25 M_26 H locs hp_26 hw => ?_)
              obtain ⟨iM_26, q_27, q_28⟩ := hp_26
              refine lv_isub hx hb dX10_wear_96 ?_
              refine lv_topi (fun x_29 ex_29 => ?_)
              refine ti_iast (ci := 10) (k := 41) (n := 184) C hw ob_60 (by decide) (fun _ _ => rfl) (vp_in_iff.mpr (by omega)) dX10_wear_97 (fun H locs hw => ?_)
              obtain ⟨M_30, hM_30⟩ : ∃ z : ti_M, z = uY M_26 60 41 (upd (tY M_26 60 41) (x_12 : Int32).toNatClampNeg x_29) := ⟨_, rfl⟩
              have hw := hw.to hM_30.symm
              have iM_30 : mI Tm M_30 := mI_up (i := x_12.toNatClampNeg) iM_26 hM_30 trivial
              exact hj_98_33 M_30 _ _ _ iM_30 (qw.trans (qw_Y hM_30 (by decide)) (qw.trans q_27 (qw.trans q_22 f_5))) (((tY_nE hM_30 (nk (by decide))).trans ((tY_fr q_28).trans ((tY_fr q_23).trans f_6)))) hw (lv_sub hl [0, 1, 2, 3, 4, 5] rfl)
        · refine lv_aload_n hx hb dX10_wear_44 rfl (lv_at hl 3 rfl) ?_
          refine ti_get (ci := 10) (k := 47) (N := 67) (T := TX10) (v := .ref (A 60 48)) C hw iw_10 rfl ob_60 (by decide) (by decide) fl_X10_108 rfl rfl dX10_wear_45 ?_
          refine lv_iload hx hb dX10_wear_48 (lv_at hl 0 rfl) ?_
          refine lv_dup2_11 hx hb dX10_wear_50 rfl rfl ?_
          refine ti_iald (ci := 10) (k := 47) (n := 184) C hw ob_60 (by decide) (fun _ _ => rfl) (vp_in_iff.mpr (by omega)) dX10_wear_51 ?_
          refine ti_top (y := x_13) ((yx_13)) ?_
          refine lv_iconst (v := 1) hx hb dX10_wear_52 (by decide) ?_
          refine lv_isub hx hb dX10_wear_53 ?_
          refine lv_topi (fun x_15 ex_15 => ?_)
          refine ti_iast (ci := 10) (k := 47) (n := 184) C hw ob_60 (by decide) (fun _ _ => rfl) (vp_in_iff.mpr (by omega)) dX10_wear_54 (fun H locs hw => ?_)
          obtain ⟨M_16, hM_16⟩ : ∃ z : ti_M, z = uY M_4 60 47 (upd (tY M_4 60 47) (x_12 : Int32).toNatClampNeg x_15) := ⟨_, rfl⟩
          have hw := hw.to hM_16.symm
          have iM_16 : mI Tm M_16 := mI_up (i := x_12.toNatClampNeg) iM_4 hM_16 trivial
          refine lv_goto (tgt := 98) hx hb dX10_wear_55 (by decide) ?_
          exact hj_98_33 M_16 _ _ _ iM_16 (qw.trans (qw_Y hM_16 (by decide)) f_5) (((tY_nE hM_16 (nk (by decide))).trans f_6)) hw (lv_sub hl [0, 1, 2, 3, 4, 5] rfl)
  exact hl_2_6 ((8 - 0 : Int).toNat + 1) 0 M _ _ _ (Nat.lt_succ_self _) (by have lt0 : (0 : Int32).toInt = 0 := (by decide); first | omega | decide) (by have lt0 : (0 : Int32).toInt = 0 := (by decide); first | omega | decide) hI qw.refl rfl hw (lv_sub hl [0, 1, 2, 3] rfl)
set_option maxHeartbeats 4000000 in
set_option maxRecDepth 100000 in
theorem s_X10_wear_1 (l : Launch) (D : va_G) (A : Nat → Nat → Nat) (cy : Nat → ClassId) (hJ : ti_inj ti_LM A) (M : ti_M) (hI : mI Tm M) (hL : mL M) (t : Int32) : ti_Kv l yX10_wear cX10_wear 6 4 ti_LM D A cy M [.ref (A 60 0), .int 1, .int t] (fun M2 => mI Tm M2 ∧ qw M2 M ∧ tY M2 60 34 = tY M 60 34) := by
  refine ti_eV yp_X10_wear hJ ti_LM_nd (Nat.le_of_ble_eq_true rfl) ?_
  intro p e s m args below meth c Q H0 C hQ hw ls hl
  have hx := C.1
  have hb := C.2.1
  have hl : lv_has ls 6 [(0, .ref (A 60 0)), (1, .int 1), (2, .int t)] := hl
  refine lv_iconst (v := 0) hx hb dX10_wear_0 (by decide) ?_
  refine lv_istore_n (lv' := [(3, .int 0), (0, .ref (A 60 0)), (1, .int 1), (2, .int t)]) hx hb dX10_wear_1 rfl hl (by decide) rfl (fun ls hl => ?_)
  have hl_2_6 : ∀ (n_7 : Nat) (x_1 : Int32) (M_4 : ti_M) (H : Heap) (locs : List Loc) (ls : Array Slot), (8 - x_1.toInt : Int).toNat < n_7 → (0 ≤ x_1.toInt) → (x_1.toInt ≤ 8) → (mI Tm M_4) → (qw M_4 M) → (tY M_4 60 34 = tY M 60 34) → ti_H ti_LM D A cy H0 M_4 H locs → lv_has ls 6 [(3, .int x_1), (0, .ref (A 60 0)), (1, .int 1), (2, .int t)] → W p l e (ti_rm 4) s m args below meth c H locs 0 0 Q (F0 m 2 ls []) := by
    intro n_7
    induction n_7 with
    | zero => intro x_1 M_4 H locs ls hf_7; exact absurd hf_7 (Nat.not_lt_zero _)
    | succ n_7 ih_7 =>
      intro x_1 M_4 H locs ls hf_7 b_2 b_3 iM_4 f_5 f_6 hw hl
      refine lv_iload_n hx hb dX10_wear_2 rfl (lv_at hl 0 rfl) ?_
      refine lv_aload_n hx hb dX10_wear_3 rfl (lv_at hl 1 rfl) ?_
      refine ti_get (ci := 10) (k := 38) (N := 67) (T := TX10) (v := .ref (A 60 39)) C hw iw_10 rfl ob_60 (by decide) (by decide) fl_X10_81 rfl rfl dX10_wear_4 ?_
      refine lv_iload_n hx hb dX10_wear_7 rfl (lv_at hl 2 rfl) ?_
      refine ti_iald (ci := 10) (k := 38) (n := 23) C hw ob_60 (by decide) (fun _ _ => rfl) (by unfold vp_in; decide) dX10_wear_8 ?_
      refine lv_topi (fun x_8 ex_8 => ?_)
      have yx_8 : tY M_4 60 38 1 = x_8 := ((congrArg _ (by decide)).symm.trans ex_8.symm)
      have bx_8 : 0 ≤ x_8.toInt ∧ x_8.toInt ≤ 8 := mI_ry (k := 38) (i := 1) iM_4 yx_8.symm
      have zx_8 : (tY M_4 60 38 1).toInt = x_8.toInt := by rw [yx_8]
      have wx_8 : tY M 60 38 1 = x_8 := ((cg f_5.2.2.1 1)).symm.trans yx_8
      have zwx_8 : (tY M 60 38 1).toInt = x_8.toInt := by rw [wx_8]
      refine sb_icmp_ge (tgt := 104) hx hb rfl rfl dX10_wear_9 (by decide) (fun c_9_8 => ?_) (fun c_9_8 => ?_)
      · exact hQ _ _ _ _ _ hw (⟨iM_4, f_5, ((f_6))⟩) dX10_wear_104
      · refine lv_aload_n hx hb dX10_wear_12 rfl (lv_at hl 1 rfl) ?_
        refine ti_get (ci := 10) (k := 39) (N := 67) (T := TX10) (v := .ref (A 60 40)) C hw iw_10 rfl ob_60 (by decide) (by decide) fl_X10_84 rfl rfl dX10_wear_13 ?_
        refine lv_bipush (v := 8) hx hb dX10_wear_16 (by decide) ?_
        refine lv_iload_n hx hb dX10_wear_18 rfl (lv_at hl 2 rfl) ?_
        refine lv_imul hx hb dX10_wear_19 ?_
        refine ti_top (y := 8) (by decide) ?_
        refine lv_iload_n hx hb dX10_wear_20 rfl (lv_at hl 0 rfl) ?_
        refine lv_iadd hx hb dX10_wear_21 ?_
        refine lv_topi (fun x_10 ex_10 => ?_)
        have tx_10 : x_10.toInt = 8 + x_1.toInt := i_add ex_10 (by decide : (8 : Int32).toInt = 8) rfl (by omega) (by omega)
        refine ti_iald (ci := 10) (k := 39) (n := 184) C hw ob_60 (by decide) (fun _ _ => rfl) (vp_in_iff.mpr (by omega)) dX10_wear_22 ?_
        refine lv_topi (fun x_11 ex_11 => ?_)
        have yx_11 : tY M_4 60 39 x_10.toNatClampNeg = x_11 := (ex_11.symm)
        have bx_11 : 0 ≤ x_11.toInt ∧ x_11.toInt ≤ 7 := mI_ry (k := 39) (i := x_10.toNatClampNeg) iM_4 yx_11.symm
        have wx_11 : tY M 60 39 x_10.toNatClampNeg = x_11 := ((cg f_5.2.2.2.1 x_10.toNatClampNeg)).symm.trans yx_11
        refine lv_istore (lv' := [(4, .int x_11), (3, .int x_1), (0, .ref (A 60 0)), (1, .int 1), (2, .int t)]) hx hb dX10_wear_23 hl (by decide) rfl (fun ls hl => ?_)
        refine lv_bipush (v := 8) hx hb dX10_wear_25 (by decide) ?_
        refine lv_iload_n hx hb dX10_wear_27 rfl (lv_at hl 3 rfl) ?_
        refine lv_imul hx hb dX10_wear_28 ?_
        refine ti_top (y := 8) (by decide) ?_
        refine lv_iload hx hb dX10_wear_29 (lv_at hl 0 rfl) ?_
        refine lv_iadd hx hb dX10_wear_31 ?_
        refine lv_topi (fun x_12 ex_12 => ?_)
        have tx_12 : x_12.toInt = 8 + x_11.toInt := i_add ex_12 (by decide : (8 : Int32).toInt = 8) rfl (by omega) (by omega)
        refine lv_istore (lv' := [(5, .int x_12), (4, .int x_11), (3, .int x_1), (0, .ref (A 60 0)), (1, .int 1), (2, .int t)]) hx hb dX10_wear_32 hl (by decide) rfl (fun ls hl => ?_)
        refine lv_aload_n hx hb dX10_wear_34 rfl (lv_at hl 3 rfl) ?_
        refine ti_get (ci := 10) (k := 47) (N := 67) (T := TX10) (v := .ref (A 60 48)) C hw iw_10 rfl ob_60 (by decide) (by decide) fl_X10_108 rfl rfl dX10_wear_35 ?_
        refine lv_iload hx hb dX10_wear_38 (lv_at hl 0 rfl) ?_
        refine ti_iald (ci := 10) (k := 47) (n := 184) C hw ob_60 (by decide) (fun _ _ => rfl) (vp_in_iff.mpr (by omega)) dX10_wear_40 ?_
        refine lv_topi (fun x_13 ex_13 => ?_)
        have yx_13 : tY M_4 60 47 x_12.toNatClampNeg = x_13 := (ex_13.symm)
        have hj_98_33 : ∀ (M_31 : ti_M) (H : Heap) (locs : List Loc) (ls : Array Slot), (mI Tm M_31) → (qw M_31 M) → (tY M_31 60 34 = tY M 60 34) → ti_H ti_LM D A cy H0 M_31 H locs → lv_has ls 6 [(5, .int x_12), (4, .int x_11), (3, .int x_1), (0, .ref (A 60 0)), (1, .int 1), (2, .int t)] → W p l e (ti_rm 4) s m args below meth c H locs 0 0 Q (F0 m 98 ls []) := by
          intro M_31 H locs ls iM_31 f_32 f_33 hw hl
          obtain ⟨x_34, ex_34⟩ : ∃ z : Int32, z = x_1 + 1 := ⟨_, rfl⟩
          have tx_34 : x_34.toInt = x_1.toInt + 1 := i_add ex_34 rfl (by decide) (by omega) (by omega)
          refine lv_iinc (v := x_34) (lv' := [(3, .int x_34), (5, .int x_12), (4, .int x_11), (0, .ref (A 60 0)), (1, .int 1), (2, .int t)]) hx hb dX10_wear_98 hl (k := 2) rfl (by rw [ex_34]; rfl) (by decide) rfl (fun ls hl => ?_)
          refine lv_goto (tgt := 2) hx hb dX10_wear_101 (by decide) ?_
          exact ih_7 x_34 M_31 _ _ _ (by omega) (by first | omega | decide) (by first | omega | decide) iM_31 f_32 ((f_33)) hw (lv_sub hl [0, 3, 4, 5] rfl)
        refine sb_if_le (tgt := 58) hx hb rfl dX10_wear_41 (by decide) (fun c_41_13 => ?_) (fun c_41_13 => ?_)
        · refine lv_iload_n hx hb dX10_wear_58 rfl (lv_at hl 2 rfl) ?_
          refine sb_if_le (tgt := 98) hx hb rfl dX10_wear_59 (by decide) (fun c_59_16 => ?_) (fun c_59_16 => ?_)
          · exact hj_98_33 M_4 _ _ _ iM_4 f_5 ((f_6)) hw (lv_sub hl [0, 1, 2, 3, 4, 5] rfl)
          · refine lv_aload_n hx hb dX10_wear_62 rfl (lv_at hl 3 rfl) ?_
            refine ti_get (ci := 10) (k := 53) (N := 67) (T := TX10) C hw iw_10 rfl ob_60 (by decide) (by decide) fl_X10_120 rfl rfl dX10_wear_63 ?_
            refine lv_topi (fun x_18 ex_18 => ?_)
            refine lv_iconst (v := 1) hx hb dX10_wear_66 (by decide) ?_
            refine sb_icmp_eq (tgt := 98) hx hb rfl (by decide : (1 : Int32).toInt = 1) dX10_wear_67 (by decide) (fun c_67_18 => ?_) (fun c_67_18 => ?_)
            · exact hj_98_33 M_4 _ _ _ iM_4 f_5 ((f_6)) hw (lv_sub hl [0, 1, 2, 3, 4, 5] rfl)
            · refine lv_aload_n hx hb dX10_wear_70 rfl (lv_at hl 3 rfl) ?_
              refine lv_iload_n hx hb dX10_wear_71 rfl (lv_at hl 4 rfl) ?_
              refine lv_iload hx hb dX10_wear_72 (lv_at hl 1 rfl) ?_
              refine lv_iload_n hx hb dX10_wear_74 rfl (lv_at hl 2 rfl) ?_
              refine lv_iload_n hx hb dX10_wear_75 rfl (lv_at hl 5 rfl) ?_
              refine ti_callVv (ci := 10) (av := [.int 1, .int x_11, .int x_1, .int t]) C hw (s_X10_calls_1 l D A cy hJ M_4 iM_4 x_11 x_1 t (by first | omega | decide) (by first | omega | decide)) ⟨ml_X10_363, ym_X10_calls, yv_X10_calls, yi_X10_calls, yc_X10_calls⟩ yd_X10_calls ob_60 (by decide) rfl rfl hl.1 (Nat.le_of_ble_eq_true rfl) ⟨by decide, by decide⟩ ⟨Nat.zero_le _, Nat.zero_le _⟩ dX10_wear_76 (fun M_21 H locs hp_21 hw => ?_)
              obtain ⟨iM_21, q_22, q_23⟩ := hp_21
              refine lv_aload_n hx hb dX10_wear_79 rfl (lv_at hl 3 rfl) ?_
              refine ti_get (ci := 10) (k := 41) (N := 67) (T := TX10) (v := .ref (A 60 42)) C hw iw_10 rfl ob_60 (by decide) (by decide) fl_X10_90 rfl rfl dX10_wear_80 ?_
              refine lv_iload hx hb dX10_wear_83 (lv_at hl 0 rfl) ?_
              refine lv_dup2_11 hx hb dX10_wear_85 rfl rfl ?_
              refine ti_iald (ci := 10) (k := 41) (n := 184) C hw ob_60 (by decide) (fun _ _ => rfl) (vp_in_iff.mpr (by omega)) dX10_wear_86 ?_
              refine lv_topi (fun x_24 ex_24 => ?_)
              have yx_24 : tY M_21 60 41 x_12.toNatClampNeg = x_24 := (ex_24.symm)
              have wx_24 : tY M_4 60 41 x_12.toNatClampNeg = x_24 := ((cg (tY_fr q_23) x_12.toNatClampNeg)).symm.trans yx_24
              refine lv_aload_n hx hb dX10_wear_87 rfl (lv_at hl 3 rfl) ?_
              refine lv_iconst (v := 1) hx hb dX10_wear_88 (by decide) ?_
              refine lv_iconst (v := 0) hx hb dX10_wear_89 (by decide) ?_
              refine lv_bipush (v := 9) hx hb dX10_wear_90 (by decide) ?_
              refine lv_iconst (v := 1) hx hb dX10_wear_92 (by decide) ?_
              refine ti_callVi (ci := 10) (av := [.int 1, .int 0, .int 9, .int 1]) C hw (s_X10_within l D A cy hJ M_21 iM_21 (mL_lw (lk.trans (lk_of q_22.1 q_22.2.1) (lk_of f_5.1 f_5.2.1)).1 hL) 1 (by first | omega | decide) (by first | omega | decide) 0 9 1) ⟨ml_X10_367, ym_X10_within, yv_X10_within, yi_X10_within, yc_X10_within⟩ yd_X10_within ob_60 (by decide) rfl rfl hl.1 (Nat.le_of_ble_eq_true rfl) ⟨by decide, by decide⟩ ⟨Nat.zero_le _, Nat.zero_le _⟩ dX10_wear_93 (fun r_25 M_26 H locs hp_26 hw => ?_)
              obtain ⟨iM_26, q_27, q_28⟩ := hp_26
              refine lv_isub hx hb dX10_wear_96 ?_
              refine lv_topi (fun x_29 ex_29 => ?_)
              refine ti_iast (ci := 10) (k := 41) (n := 184) C hw ob_60 (by decide) (fun _ _ => rfl) (vp_in_iff.mpr (by omega)) dX10_wear_97 (fun H locs hw => ?_)
              obtain ⟨M_30, hM_30⟩ : ∃ z : ti_M, z = uY M_26 60 41 (upd (tY M_26 60 41) (x_12 : Int32).toNatClampNeg x_29) := ⟨_, rfl⟩
              have hw := hw.to hM_30.symm
              have iM_30 : mI Tm M_30 := mI_up (i := x_12.toNatClampNeg) iM_26 hM_30 trivial
              exact hj_98_33 M_30 _ _ _ iM_30 (qw.trans (qw_Y hM_30 (by decide)) (qw.trans q_27 (qw.trans q_22 f_5))) (((tY_nE hM_30 (nk (by decide))).trans ((tY_fr q_28).trans ((tY_fr q_23).trans f_6)))) hw (lv_sub hl [0, 1, 2, 3, 4, 5] rfl)
        · refine lv_aload_n hx hb dX10_wear_44 rfl (lv_at hl 3 rfl) ?_
          refine ti_get (ci := 10) (k := 47) (N := 67) (T := TX10) (v := .ref (A 60 48)) C hw iw_10 rfl ob_60 (by decide) (by decide) fl_X10_108 rfl rfl dX10_wear_45 ?_
          refine lv_iload hx hb dX10_wear_48 (lv_at hl 0 rfl) ?_
          refine lv_dup2_11 hx hb dX10_wear_50 rfl rfl ?_
          refine ti_iald (ci := 10) (k := 47) (n := 184) C hw ob_60 (by decide) (fun _ _ => rfl) (vp_in_iff.mpr (by omega)) dX10_wear_51 ?_
          refine ti_top (y := x_13) ((yx_13)) ?_
          refine lv_iconst (v := 1) hx hb dX10_wear_52 (by decide) ?_
          refine lv_isub hx hb dX10_wear_53 ?_
          refine lv_topi (fun x_15 ex_15 => ?_)
          refine ti_iast (ci := 10) (k := 47) (n := 184) C hw ob_60 (by decide) (fun _ _ => rfl) (vp_in_iff.mpr (by omega)) dX10_wear_54 (fun H locs hw => ?_)
          obtain ⟨M_16, hM_16⟩ : ∃ z : ti_M, z = uY M_4 60 47 (upd (tY M_4 60 47) (x_12 : Int32).toNatClampNeg x_15) := ⟨_, rfl⟩
          have hw := hw.to hM_16.symm
          have iM_16 : mI Tm M_16 := mI_up (i := x_12.toNatClampNeg) iM_4 hM_16 trivial
          refine lv_goto (tgt := 98) hx hb dX10_wear_55 (by decide) ?_
          exact hj_98_33 M_16 _ _ _ iM_16 (qw.trans (qw_Y hM_16 (by decide)) f_5) (((tY_nE hM_16 (nk (by decide))).trans f_6)) hw (lv_sub hl [0, 1, 2, 3, 4, 5] rfl)
  exact hl_2_6 ((8 - 0 : Int).toNat + 1) 0 M _ _ _ (Nat.lt_succ_self _) (by have lt0 : (0 : Int32).toInt = 0 := (by decide); first | omega | decide) (by have lt0 : (0 : Int32).toInt = 0 := (by decide); first | omega | decide) hI qw.refl rfl hw (lv_sub hl [0, 1, 2, 3] rfl)

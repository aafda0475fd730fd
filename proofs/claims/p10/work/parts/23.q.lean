variable {Tc : gC} {Tm : gM}
theorem mC_7 {M : ti_M} {q i : Nat} (hC : mC M q) (h0 : (tY M 60 40 i).toInt = 0) (q1 : 8 * q ≤ i) (q2 : i < 8 * q + 8) : (tY M 60 38 q).toInt ≤ 7 := by
  have := zc_pos (tY M 60 40) i (8 * q) h0 q1 q2
  unfold mC at hC; omega
theorem q_join {M N : ti_M} {q i8 i9 i0 mn : Nat} {v w o : Int32} (hI : mI Tm M) (hC : mC M q) (h38 : tY N 60 38 = upd (tY M 60 38) i8 v) (h39 : tY N 60 39 = upd (tY M 60 39) i9 w) (h40 : tY N 60 40 = upd (tY M 60 40) i0 o) (hl : lk N M) (e8 : i8 = q) (hv : v.toInt = (tY M 60 38 q).toInt + 1) (e9 : (i9 : Int) = 8 * q + (tY M 60 38 q).toInt) (hw : w.toInt = mn) (e0 : i0 = 8 * q + mn) (hm : mn < 8) (ho : o.toInt = 1) (h0 : (tY M 60 40 i0).toInt = 0) : rq q N M ∧ mC N q ∧ zc (tY N 60 40) (8 * q) < zc (tY M 60 40) (8 * q) := by
  subst e8
  have hb : ∀ x, 0 ≤ (tY M 60 38 x).toInt ∧ (tY M 60 38 x).toInt ≤ 8 := fun x => hI.2.1 38 x
  have m7 := mC_7 hC h0 (by omega) (by omega)
  have z0 : zc (tY N 60 40) (8 * i8) + 1 ≤ zc (tY M 60 40) (8 * i8) := by rw [h40]; exact zc_one _ _ _ _ (by omega) h0 (by omega) (by omega)
  have b8 := hb i8
  unfold mC at hC
  refine ⟨⟨hl.1, hl.2, fun q2 => ⟨fun hne c => ?_, fun c => ?_⟩, fun hne => ?_⟩, ?_, by omega⟩
  · unfold mC at c ⊢; rw [h38, pk_un hne, h40, zc_out _ _ _ _ (by omega)]; exact c
  · intro m hm2 hmn hws
    rw [hl.1 3 (by decide) (by decide)] at hmn
    rw [h40] at hws
    have hbq := hb q2
    by_cases hq : 8 * q2 + m = i0
    · have e : q2 = i8 := by omega
      subst e
      refine ⟨(tY M 60 38 q2).toInt.toNat, ?_, ?_⟩
      · rw [h38, pk_us]; omega
      · rw [h39, show 8 * q2 + (tY M 60 38 q2).toInt.toNat = i9 by omega, pk_us]; omega
    · rw [pk_un hq] at hws
      obtain ⟨p, hp, hpq⟩ := c m hm2 hmn hws
      by_cases e : q2 = i8
      · subst e
        exact ⟨p, by rw [h38, pk_us]; omega, by rw [h39, pk_un (by omega)]; exact hpq⟩
      · exact ⟨p, by rw [h38, pk_un e]; exact hp, by rw [h39, pk_un (by omega)]; exact hpq⟩
  · rw [h38, pk_un (Ne.symm hne)]
  · unfold mC; rw [h38, pk_us]; omega
/-- the row from a place on moved up -/
def sh (M N : ti_M) (b pl : Nat) (p : Int) : Prop := ∀ i : Nat, tY N 60 39 i = if b + pl ≤ i ∧ (i : Int) < b + p then tY M 60 39 (i + 1) else tY M 60 39 i
theorem sh_0 {M : ti_M} {b pl : Nat} {p : Int} (h : p = pl) : sh M M b pl p := by intro i; rw [if_neg (by omega)]
theorem sh_s {M N K : ti_M} {b pl i : Nat} {p p2 : Int} {v : Int32} (h : sh M N b pl p) (e : K = uY N 60 39 (upd (tY N 60 39) i v)) (hi : (i : Int) = b + p) (hp : pl ≤ p) {j : Nat} (hv : tY N 60 39 j = v) (hj : j = i + 1) (h2 : p2 = p + 1) : sh M K b pl p2 := by
  intro x
  rw [tY_uE e]
  by_cases q : x = i
  · subst q
    rw [pk_us, if_pos (by omega), ← hv, hj, h (x + 1), if_neg (by omega)]
  · rw [pk_un q, h x]
    by_cases c : b + pl ≤ x ∧ (x : Int) < b + p
    · rw [if_pos c, if_pos (by omega)]
    · rw [if_neg c, if_neg (by omega)]
theorem q_leave {M N : ti_M} {q i8 i0 pl : Nat} {p : Int} {v ho : Int32} (hI : mI Tm M) (hC : mC M q) (h38 : tY N 60 38 = upd (tY M 60 38) i8 v) (h39 : sh M N (8 * q) pl p) (h40 : tY N 60 40 = upd (tY M 60 40) i0 ho) (hl : lk N M) (e8 : i8 = q) (hv : v.toInt = (tY M 60 38 q).toInt - 1) (hp : p = (tY M 60 38 q).toInt - 1) (hpl : (pl : Int) ≤ p) (e0 : (i0 : Int) = 8 * q + (tY M 60 39 (8 * q + pl)).toInt) (ho2 : 2 ≤ ho.toInt) : rq q N M ∧ mC N q ∧ (tY N 60 38 q).toInt = (tY M 60 38 q).toInt - 1 := by
  subst e8
  have hb : ∀ x, 0 ≤ (tY M 60 38 x).toInt ∧ (tY M 60 38 x).toInt ≤ 8 := fun x => hI.2.1 38 x
  have hbq : 0 ≤ (tY M 60 39 (8 * i8 + pl)).toInt ∧ (tY M 60 39 (8 * i8 + pl)).toInt ≤ 7 := hI.2.1 39 _
  have b8 := hb i8
  have z0 : zc (tY N 60 40) (8 * i8) ≤ zc (tY M 60 40) (8 * i8) := by rw [h40]; exact zc_le _ _ _ _ (by omega)
  unfold mC at hC
  refine ⟨⟨hl.1, hl.2, fun q2 => ⟨fun hne c => ?_, fun c => ?_⟩, fun hne => ?_⟩, ?_, by rw [h38, pk_us]; exact hv⟩
  · unfold mC at c ⊢; rw [h38, pk_un hne, h40, zc_out _ _ _ _ (by omega)]; exact c
  · intro m hm2 hmn hws
    rw [hl.1 3 (by decide) (by decide)] at hmn
    rw [h40] at hws
    by_cases hq : 8 * q2 + m = i0
    · rw [hq, pk_us] at hws; omega
    · rw [pk_un hq] at hws
      obtain ⟨p0, hp0, hpq⟩ := c m hm2 hmn hws
      have hb2 := hb q2
      by_cases e : q2 = i8
      · subst e
        have hne : p0 ≠ pl := by intro h; subst h; omega
        by_cases hlt : p0 < pl
        · exact ⟨p0, by rw [h38, pk_us]; omega, by rw [h39, if_neg (by omega)]; exact hpq⟩
        · exact ⟨p0 - 1, by rw [h38, pk_us]; omega, by rw [h39, if_pos (by omega), show 8 * q2 + (p0 - 1) + 1 = 8 * q2 + p0 by omega]; exact hpq⟩
      · exact ⟨p0, by rw [h38, pk_un e]; exact hp0, by rw [h39, if_neg (by omega)]; exact hpq⟩
  · rw [h38, pk_un (Ne.symm hne)]
  · unfold mC; rw [h38, pk_us]; omega
set_option maxHeartbeats 4000000 in
set_option maxRecDepth 100000 in
theorem s_X10_joins_0 (l : Launch) (D : va_G) (A : Nat → Nat → Nat) (cy : Nat → ClassId) (hJ : ti_inj ti_LM A) (M : ti_M) (hI : mI Tm M) (hC : mC M 0) (a t : Int32) (h1 : 0 ≤ a.toInt) (h2 : a.toInt ≤ 7) (h0 : ∀ i : Nat, (i : Int) = 0 + a.toInt → (tY M 60 40 i).toInt = 0) : ti_Kv l yX10_joins cX10_joins 4 0 ti_LM D A cy M [.ref (A 60 0), .int 0, .int a, .int t] (fun M2 => mI Tm M2 ∧ rq 0 M2 M ∧ mC M2 0 ∧ tY M2 60 34 = tY M 60 34 ∧ zc (tY M2 60 40) 0 < zc (tY M 60 40) 0) := by
  refine ti_eV yp_X10_joins hJ ti_LM_nd (Nat.le_of_ble_eq_true rfl) ?_
  intro p e s m args below meth c Q H0 C hQ hw ls hl
  have hx := C.1
  have hb := C.2.1
  have hl : lv_has ls 4 [(0, .ref (A 60 0)), (1, .int 0), (2, .int a), (3, .int t)] := hl
  have m7 := mC_7 (i := (0 + a.toInt).toNat) hC (h0 _ (by omega)) (by omega) (by omega)
  refine lv_aload_n hx hb dX10_joins_0 rfl (lv_at hl 0 rfl) ?_
  refine ti_get (ci := 10) (k := 39) (N := 67) (T := TX10) (v := .ref (A 60 40)) C hw iw_10 rfl ob_60 (by decide) (by decide) fl_X10_84 rfl rfl dX10_joins_1 ?_
  refine lv_bipush (v := 8) hx hb dX10_joins_4 (by decide) ?_
  refine lv_iload_n hx hb dX10_joins_6 rfl (lv_at hl 1 rfl) ?_
  refine lv_imul hx hb dX10_joins_7 ?_
  refine ti_top (y := 0) (by decide) ?_
  refine lv_aload_n hx hb dX10_joins_8 rfl (lv_at hl 0 rfl) ?_
  refine ti_get (ci := 10) (k := 38) (N := 67) (T := TX10) (v := .ref (A 60 39)) C hw iw_10 rfl ob_60 (by decide) (by decide) fl_X10_81 rfl rfl dX10_joins_9 ?_
  refine lv_iload_n hx hb dX10_joins_12 rfl (lv_at hl 1 rfl) ?_
  refine ti_iald (ci := 10) (k := 38) (n := 23) C hw ob_60 (by decide) (fun _ _ => rfl) (by unfold vp_in; decide) dX10_joins_13 ?_
  refine lv_topi (fun x_1 ex_1 => ?_)
  have yx_1 : tY M 60 38 0 = x_1 := ((congrArg _ (by decide)).symm.trans ex_1.symm)
  have bx_1 : 0 ≤ x_1.toInt ∧ x_1.toInt ≤ 8 := mI_ry (k := 38) (i := 0) hI yx_1.symm
  have zx_1 : (tY M 60 38 0).toInt = x_1.toInt := by rw [yx_1]
  refine lv_iadd hx hb dX10_joins_14 ?_
  refine lv_topi (fun x_2 ex_2 => ?_)
  have tx_2 : x_2.toInt = 0 + x_1.toInt := i_add ex_2 (by decide : (0 : Int32).toInt = 0) rfl (by omega) (by omega)
  refine lv_iload_n hx hb dX10_joins_15 rfl (lv_at hl 2 rfl) ?_
  refine ti_iast (ci := 10) (k := 39) (n := 184) C hw ob_60 (by decide) (fun _ _ => rfl) (vp_in_iff.mpr (by omega)) dX10_joins_16 (fun H locs hw => ?_)
  obtain ⟨M_3, hM_3⟩ : ∃ z : ti_M, z = uY M 60 39 (upd (tY M 60 39) (x_2 : Int32).toNatClampNeg a) := ⟨_, rfl⟩
  have hw := hw.to hM_3.symm
  have iM_3 : mI Tm M_3 := mI_up (i := x_2.toNatClampNeg) hI hM_3 (ib_mk (lo := 0) (hi := 7) (by omega) (by omega))
  refine lv_aload_n hx hb dX10_joins_17 rfl (lv_at hl 0 rfl) ?_
  refine ti_get (ci := 10) (k := 38) (N := 67) (T := TX10) (v := .ref (A 60 39)) C hw iw_10 rfl ob_60 (by decide) (by decide) fl_X10_81 rfl rfl dX10_joins_18 ?_
  refine lv_iload_n hx hb dX10_joins_21 rfl (lv_at hl 1 rfl) ?_
  refine lv_dup2_11 hx hb dX10_joins_22 rfl rfl ?_
  refine ti_iald (ci := 10) (k := 38) (n := 23) C hw ob_60 (by decide) (fun _ _ => rfl) (by unfold vp_in; decide) dX10_joins_23 ?_
  refine ti_top (y := x_1) ((congrArg _ (by decide)).trans ((cg (tY_nE hM_3 (nk (by decide))) 0).trans yx_1)) ?_
  refine lv_iconst (v := 1) hx hb dX10_joins_24 (by decide) ?_
  refine lv_iadd hx hb dX10_joins_25 ?_
  refine lv_topi (fun x_4 ex_4 => ?_)
  have tx_4 : x_4.toInt = x_1.toInt + 1 := i_add ex_4 rfl (by decide : (1 : Int32).toInt = 1) (by omega) (by omega)
  refine ti_iast (ci := 10) (k := 38) (n := 23) C hw ob_60 (by decide) (fun _ _ => rfl) (by unfold vp_in; decide) dX10_joins_26 (fun H locs hw => ?_)
  obtain ⟨M_5, hM_5⟩ : ∃ z : ti_M, z = uY M_3 60 38 (upd (tY M_3 60 38) (0 : Int32).toNatClampNeg x_4) := ⟨_, rfl⟩
  have hw := hw.to hM_5.symm
  have iM_5 : mI Tm M_5 := mI_up (i := 0) iM_3 hM_5 (ib_mk (lo := 0) (hi := 8) (by omega) (by omega))
  refine lv_aload_n hx hb dX10_joins_27 rfl (lv_at hl 0 rfl) ?_
  refine ti_get (ci := 10) (k := 40) (N := 67) (T := TX10) (v := .ref (A 60 41)) C hw iw_10 rfl ob_60 (by decide) (by decide) fl_X10_87 rfl rfl dX10_joins_28 ?_
  refine lv_bipush (v := 8) hx hb dX10_joins_31 (by decide) ?_
  refine lv_iload_n hx hb dX10_joins_33 rfl (lv_at hl 1 rfl) ?_
  refine lv_imul hx hb dX10_joins_34 ?_
  refine ti_top (y := 0) (by decide) ?_
  refine lv_iload_n hx hb dX10_joins_35 rfl (lv_at hl 2 rfl) ?_
  refine lv_iadd hx hb dX10_joins_36 ?_
  refine lv_topi (fun x_6 ex_6 => ?_)
  have tx_6 : x_6.toInt = 0 + a.toInt := i_add ex_6 (by decide : (0 : Int32).toInt = 0) rfl (by omega) (by omega)
  refine lv_iconst (v := 1) hx hb dX10_joins_37 (by decide) ?_
  refine ti_iast (ci := 10) (k := 40) (n := 184) C hw ob_60 (by decide) (fun _ _ => rfl) (vp_in_iff.mpr (by omega)) dX10_joins_38 (fun H locs hw => ?_)
  obtain ⟨M_7, hM_7⟩ : ∃ z : ti_M, z = uY M_5 60 40 (upd (tY M_5 60 40) (x_6 : Int32).toNatClampNeg 1) := ⟨_, rfl⟩
  have hw := hw.to hM_7.symm
  have iM_7 : mI Tm M_7 := mI_up (i := x_6.toNatClampNeg) iM_5 hM_7 trivial
  refine lv_aload_n hx hb dX10_joins_39 rfl (lv_at hl 0 rfl) ?_
  refine ti_get (ci := 10) (k := 45) (N := 67) (T := TX10) (v := .ref (A 60 46)) C hw iw_10 rfl ob_60 (by decide) (by decide) fl_X10_102 rfl rfl dX10_joins_40 ?_
  refine lv_bipush (v := 8) hx hb dX10_joins_43 (by decide) ?_
  refine lv_iload_n hx hb dX10_joins_45 rfl (lv_at hl 1 rfl) ?_
  refine lv_imul hx hb dX10_joins_46 ?_
  refine ti_top (y := 0) (by decide) ?_
  refine lv_iload_n hx hb dX10_joins_47 rfl (lv_at hl 2 rfl) ?_
  refine lv_iadd hx hb dX10_joins_48 ?_
  refine lv_topi (fun x_8 ex_8 => ?_)
  have tx_8 : x_8.toInt = 0 + a.toInt := i_add ex_8 (by decide : (0 : Int32).toInt = 0) rfl (by omega) (by omega)
  refine lv_iload_n hx hb dX10_joins_49 rfl (lv_at hl 3 rfl) ?_
  refine ti_iast (ci := 10) (k := 45) (n := 184) C hw ob_60 (by decide) (fun _ _ => rfl) (vp_in_iff.mpr (by omega)) dX10_joins_50 (fun H locs hw => ?_)
  obtain ⟨M_9, hM_9⟩ : ∃ z : ti_M, z = uY M_7 60 45 (upd (tY M_7 60 45) (x_8 : Int32).toNatClampNeg t) := ⟨_, rfl⟩
  have hw := hw.to hM_9.symm
  have iM_9 : mI Tm M_9 := mI_up (i := x_8.toNatClampNeg) iM_7 hM_9 trivial
  have jj := q_join (mn := a.toInt.toNat) hI hC (by rw [tY_nE (o2 := 60) (k2 := 38) hM_9 (nk (by decide)), tY_nE (o2 := 60) (k2 := 38) hM_7 (nk (by decide)), tY_uE hM_5, tY_nE (o2 := 60) (k2 := 38) hM_3 (nk (by decide))] : tY M_9 60 38 = upd (tY M 60 38) (0 : Int32).toNatClampNeg x_4) (by rw [tY_nE (o2 := 60) (k2 := 39) hM_9 (nk (by decide)), tY_nE (o2 := 60) (k2 := 39) hM_7 (nk (by decide)), tY_nE (o2 := 60) (k2 := 39) hM_5 (nk (by decide)), tY_uE hM_3] : tY M_9 60 39 = upd (tY M 60 39) (x_2 : Int32).toNatClampNeg a) (by rw [tY_nE (o2 := 60) (k2 := 40) hM_9 (nk (by decide)), tY_uE hM_7, tY_nE (o2 := 60) (k2 := 40) hM_5 (nk (by decide)), tY_nE (o2 := 60) (k2 := 40) hM_3 (nk (by decide))] : tY M_9 60 40 = upd (tY M 60 40) (x_6 : Int32).toNatClampNeg 1) (lk.trans (lk_Y hM_9 (by decide)) (lk.trans (lk_Y hM_7 (by decide)) (lk.trans (lk_Y hM_5 (by decide)) (lk_Y hM_3 (by decide))))) (by decide) (by omega) (by show ((x_2.toInt.toNat : Nat) : Int) = _; omega) (by omega) (by show x_6.toInt.toNat = _; omega) (by omega) (by decide) (h0 _ (by show ((x_6.toInt.toNat : Nat) : Int) = _; omega))
  exact hQ _ _ _ _ _ hw (⟨iM_9, jj.1, jj.2.1, (((tY_nE hM_9 (nk (by decide))).trans ((tY_nE hM_7 (nk (by decide))).trans ((tY_nE hM_5 (nk (by decide))).trans (tY_nE hM_3 (nk (by decide))))))), jj.2.2⟩) dX10_joins_51
set_option maxHeartbeats 4000000 in
set_option maxRecDepth 100000 in
theorem s_X10_joins_1 (l : Launch) (D : va_G) (A : Nat → Nat → Nat) (cy : Nat → ClassId) (hJ : ti_inj ti_LM A) (M : ti_M) (hI : mI Tm M) (hC : mC M 1) (a t : Int32) (h1 : 0 ≤ a.toInt) (h2 : a.toInt ≤ 7) (h0 : ∀ i : Nat, (i : Int) = 8 + a.toInt → (tY M 60 40 i).toInt = 0) : ti_Kv l yX10_joins cX10_joins 4 0 ti_LM D A cy M [.ref (A 60 0), .int 1, .int a, .int t] (fun M2 => mI Tm M2 ∧ rq 1 M2 M ∧ mC M2 1 ∧ tY M2 60 34 = tY M 60 34 ∧ zc (tY M2 60 40) 8 < zc (tY M 60 40) 8) := by
  refine ti_eV yp_X10_joins hJ ti_LM_nd (Nat.le_of_ble_eq_true rfl) ?_
  intro p e s m args below meth c Q H0 C hQ hw ls hl
  have hx := C.1
  have hb := C.2.1
  have hl : lv_has ls 4 [(0, .ref (A 60 0)), (1, .int 1), (2, .int a), (3, .int t)] := hl
  have m7 := mC_7 (i := (8 + a.toInt).toNat) hC (h0 _ (by omega)) (by omega) (by omega)
  refine lv_aload_n hx hb dX10_joins_0 rfl (lv_at hl 0 rfl) ?_
  refine ti_get (ci := 10) (k := 39) (N := 67) (T := TX10) (v := .ref (A 60 40)) C hw iw_10 rfl ob_60 (by decide) (by decide) fl_X10_84 rfl rfl dX10_joins_1 ?_
  refine lv_bipush (v := 8) hx hb dX10_joins_4 (by decide) ?_
  refine lv_iload_n hx hb dX10_joins_6 rfl (lv_at hl 1 rfl) ?_
  refine lv_imul hx hb dX10_joins_7 ?_
  refine ti_top (y := 8) (by decide) ?_
  refine lv_aload_n hx hb dX10_joins_8 rfl (lv_at hl 0 rfl) ?_
  refine ti_get (ci := 10) (k := 38) (N := 67) (T := TX10) (v := .ref (A 60 39)) C hw iw_10 rfl ob_60 (by decide) (by decide) fl_X10_81 rfl rfl dX10_joins_9 ?_
  refine lv_iload_n hx hb dX10_joins_12 rfl (lv_at hl 1 rfl) ?_
  refine ti_iald (ci := 10) (k := 38) (n := 23) C hw ob_60 (by decide) (fun _ _ => rfl) (by unfold vp_in; decide) dX10_joins_13 ?_
  refine lv_topi (fun x_1 ex_1 => ?_)
  have yx_1 : tY M 60 38 1 = x_1 := ((congrArg _ (by decide)).symm.trans ex_1.symm)
  have bx_1 : 0 ≤ x_1.toInt ∧ x_1.toInt ≤ 8 := mI_ry (k := 38) (i := 1) hI yx_1.symm
  have zx_1 : (tY M 60 38 1).toInt = x_1.toInt := by rw [yx_1]
  refine lv_iadd hx hb dX10_joins_14 ?_
  refine lv_topi (fun x_2 ex_2 => ?_)
  have tx_2 : x_2.toInt = 8 + x_1.toInt := i_add ex_2 (by decide : (8 : Int32).toInt = 8) rfl (by omega) (by omega)
  refine lv_iload_n hx hb dX10_joins_15 rfl (lv_at hl 2 rfl) ?_
  refine ti_iast (ci := 10) (k := 39) (n := 184) C hw ob_60 (by decide) (fun _ _ => rfl) (vp_in_iff.mpr (by omega)) dX10_joins_16 (fun H locs hw => ?_)
  obtain ⟨M_3, hM_3⟩ : ∃ z : ti_M, z = uY M 60 39 (upd (tY M 60 39) (x_2 : Int32).toNatClampNeg a) := ⟨_, rfl⟩
  have hw := hw.to hM_3.symm
  have iM_3 : mI Tm M_3 := mI_up (i := x_2.toNatClampNeg) hI hM_3 (ib_mk (lo := 0) (hi := 7) (by omega) (by omega))
  refine lv_aload_n hx hb dX10_joins_17 rfl (lv_at hl 0 rfl) ?_
  refine ti_get (ci := 10) (k := 38) (N := 67) (T := TX10) (v := .ref (A 60 39)) C hw iw_10 rfl ob_60 (by decide) (by decide) fl_X10_81 rfl rfl dX10_joins_18 ?_
  refine lv_iload_n hx hb dX10_joins_21 rfl (lv_at hl 1 rfl) ?_
  refine lv_dup2_11 hx hb dX10_joins_22 rfl rfl ?_
  refine ti_iald (ci := 10) (k := 38) (n := 23) C hw ob_60 (by decide) (fun _ _ => rfl) (by unfold vp_in; decide) dX10_joins_23 ?_
  refine ti_top (y := x_1) ((congrArg _ (by decide)).trans ((cg (tY_nE hM_3 (nk (by decide))) 1).trans yx_1)) ?_
  refine lv_iconst (v := 1) hx hb dX10_joins_24 (by decide) ?_
  refine lv_iadd hx hb dX10_joins_25 ?_
  refine lv_topi (fun x_4 ex_4 => ?_)
  have tx_4 : x_4.toInt = x_1.toInt + 1 := i_add ex_4 rfl (by decide : (1 : Int32).toInt = 1) (by omega) (by omega)
  refine ti_iast (ci := 10) (k := 38) (n := 23) C hw ob_60 (by decide) (fun _ _ => rfl) (by unfold vp_in; decide) dX10_joins_26 (fun H locs hw => ?_)
  obtain ⟨M_5, hM_5⟩ : ∃ z : ti_M, z = uY M_3 60 38 (upd (tY M_3 60 38) (1 : Int32).toNatClampNeg x_4) := ⟨_, rfl⟩
  have hw := hw.to hM_5.symm
  have iM_5 : mI Tm M_5 := mI_up (i := 1) iM_3 hM_5 (ib_mk (lo := 0) (hi := 8) (by omega) (by omega))
  refine lv_aload_n hx hb dX10_joins_27 rfl (lv_at hl 0 rfl) ?_
  refine ti_get (ci := 10) (k := 40) (N := 67) (T := TX10) (v := .ref (A 60 41)) C hw iw_10 rfl ob_60 (by decide) (by decide) fl_X10_87 rfl rfl dX10_joins_28 ?_
  refine lv_bipush (v := 8) hx hb dX10_joins_31 (by decide) ?_
  refine lv_iload_n hx hb dX10_joins_33 rfl (lv_at hl 1 rfl) ?_
  refine lv_imul hx hb dX10_joins_34 ?_
  refine ti_top (y := 8) (by decide) ?_
  refine lv_iload_n hx hb dX10_joins_35 rfl (lv_at hl 2 rfl) ?_
  refine lv_iadd hx hb dX10_joins_36 ?_
  refine lv_topi (fun x_6 ex_6 => ?_)
  have tx_6 : x_6.toInt = 8 + a.toInt := i_add ex_6 (by decide : (8 : Int32).toInt = 8) rfl (by omega) (by omega)
  refine lv_iconst (v := 1) hx hb dX10_joins_37 (by decide) ?_
  refine ti_iast (ci := 10) (k := 40) (n := 184) C hw ob_60 (by decide) (fun _ _ => rfl) (vp_in_iff.mpr (by omega)) dX10_joins_38 (fun H locs hw => ?_)
  obtain ⟨M_7, hM_7⟩ : ∃ z : ti_M, z = uY M_5 60 40 (upd (tY M_5 60 40) (x_6 : Int32).toNatClampNeg 1) := ⟨_, rfl⟩
  have hw := hw.to hM_7.symm
  have iM_7 : mI Tm M_7 := mI_up (i := x_6.toNatClampNeg) iM_5 hM_7 trivial
  refine lv_aload_n hx hb dX10_joins_39 rfl (lv_at hl 0 rfl) ?_
  refine ti_get (ci := 10) (k := 45) (N := 67) (T := TX10) (v := .ref (A 60 46)) C hw iw_10 rfl ob_60 (by decide) (by decide) fl_X10_102 rfl rfl dX10_joins_40 ?_
  refine lv_bipush (v := 8) hx hb dX10_joins_43 (by decide) ?_
  refine lv_iload_n hx hb dX10_joins_45 rfl (lv_at hl 1 rfl) ?_
  refine lv_imul hx hb dX10_joins_46 ?_
  refine ti_top (y := 8) (by decide) ?_
  refine lv_iload_n hx hb dX10_joins_47 rfl (lv_at hl 2 rfl) ?_
  refine lv_iadd hx hb dX10_joins_48 ?_
  refine lv_topi (fun x_8 ex_8 => ?_)
  have tx_8 : x_8.toInt = 8 + a.toInt := i_add ex_8 (by decide : (8 : Int32).toInt = 8) rfl (by omega) (by omega)
  refine lv_iload_n hx hb dX10_joins_49 rfl (lv_at hl 3 rfl) ?_
  refine ti_iast (ci := 10) (k := 45) (n := 184) C hw ob_60 (by decide) (fun _ _ => rfl) (vp_in_iff.mpr (by omega)) dX10_joins_50 (fun H locs hw => ?_)
  obtain ⟨M_9, hM_9⟩ : ∃ z : ti_M, z = uY M_7 60 45 (upd (tY M_7 60 45) (x_8 : Int32).toNatClampNeg t) := ⟨_, rfl⟩
  have hw := hw.to hM_9.symm
  have iM_9 : mI Tm M_9 := mI_up (i := x_8.toNatClampNeg) iM_7 hM_9 trivial
  have jj := q_join (mn := a.toInt.toNat) hI hC (by rw [tY_nE (o2 := 60) (k2 := 38) hM_9 (nk (by decide)), tY_nE (o2 := 60) (k2 := 38) hM_7 (nk (by decide)), tY_uE hM_5, tY_nE (o2 := 60) (k2 := 38) hM_3 (nk (by decide))] : tY M_9 60 38 = upd (tY M 60 38) (1 : Int32).toNatClampNeg x_4) (by rw [tY_nE (o2 := 60) (k2 := 39) hM_9 (nk (by decide)), tY_nE (o2 := 60) (k2 := 39) hM_7 (nk (by decide)), tY_nE (o2 := 60) (k2 := 39) hM_5 (nk (by decide)), tY_uE hM_3] : tY M_9 60 39 = upd (tY M 60 39) (x_2 : Int32).toNatClampNeg a) (by rw [tY_nE (o2 := 60) (k2 := 40) hM_9 (nk (by decide)), tY_uE hM_7, tY_nE (o2 := 60) (k2 := 40) hM_5 (nk (by decide)), tY_nE (o2 := 60) (k2 := 40) hM_3 (nk (by decide))] : tY M_9 60 40 = upd (tY M 60 40) (x_6 : Int32).toNatClampNeg 1) (lk.trans (lk_Y hM_9 (by decide)) (lk.trans (lk_Y hM_7 (by decide)) (lk.trans (lk_Y hM_5 (by decide)) (lk_Y hM_3 (by decide))))) (by decide) (by omega) (by show ((x_2.toInt.toNat : Nat) : Int) = _; omega) (by omega) (by show x_6.toInt.toNat = _; omega) (by omega) (by decide) (h0 _ (by show ((x_6.toInt.toNat : Nat) : Int) = _; omega))
  exact hQ _ _ _ _ _ hw (⟨iM_9, jj.1, jj.2.1, (((tY_nE hM_9 (nk (by decide))).trans ((tY_nE hM_7 (nk (by decide))).trans ((tY_nE hM_5 (nk (by decide))).trans (tY_nE hM_3 (nk (by decide))))))), jj.2.2⟩) dX10_joins_51
set_option maxHeartbeats 4000000 in
set_option maxRecDepth 100000 in
theorem s_X10_leaves_0 (l : Launch) (D : va_G) (A : Nat → Nat → Nat) (cy : Nat → ClassId) (hJ : ti_inj ti_LM A) (M : ti_M) (hI : mI Tm M) (hC : mC M 0) (pl ho t : Int32) (h1 : 0 ≤ pl.toInt) (h2 : pl.toInt < (tY M 60 38 0).toInt) (h3 : 2 ≤ ho.toInt) : ti_Kv l yX10_leaves cX10_leaves 8 0 ti_LM D A cy M [.ref (A 60 0), .int 0, .int pl, .int ho, .int t] (fun M2 => mI Tm M2 ∧ rq 0 M2 M ∧ mC M2 0 ∧ tY M2 60 34 = tY M 60 34 ∧ (tY M2 60 38 0).toInt = (tY M 60 38 0).toInt - 1) := by
  refine ti_eV yp_X10_leaves hJ ti_LM_nd (Nat.le_of_ble_eq_true rfl) ?_
  intro p e s m args below meth c Q H0 C hQ hw ls hl
  have hx := C.1
  have hb := C.2.1
  have hl : lv_has ls 8 [(0, .ref (A 60 0)), (1, .int 0), (2, .int pl), (3, .int ho), (4, .int t)] := hl
  have h7 : 0 ≤ (tY M 60 38 0).toInt ∧ (tY M 60 38 0).toInt ≤ 8 := hI.2.1 38 _
  refine lv_aload_n hx hb dX10_leaves_0 rfl (lv_at hl 0 rfl) ?_
  refine ti_get (ci := 10) (k := 39) (N := 67) (T := TX10) (v := .ref (A 60 40)) C hw iw_10 rfl ob_60 (by decide) (by decide) fl_X10_84 rfl rfl dX10_leaves_1 ?_
  refine lv_bipush (v := 8) hx hb dX10_leaves_4 (by decide) ?_
  refine lv_iload_n hx hb dX10_leaves_6 rfl (lv_at hl 1 rfl) ?_
  refine lv_imul hx hb dX10_leaves_7 ?_
  refine ti_top (y := 0) (by decide) ?_
  refine lv_iload_n hx hb dX10_leaves_8 rfl (lv_at hl 2 rfl) ?_
  refine lv_iadd hx hb dX10_leaves_9 ?_
  refine lv_topi (fun x_1 ex_1 => ?_)
  have tx_1 : x_1.toInt = 0 + pl.toInt := i_add ex_1 (by decide : (0 : Int32).toInt = 0) rfl (by omega) (by omega)
  refine ti_iald (ci := 10) (k := 39) (n := 184) C hw ob_60 (by decide) (fun _ _ => rfl) (vp_in_iff.mpr (by omega)) dX10_leaves_10 ?_
  refine lv_topi (fun x_2 ex_2 => ?_)
  have yx_2 : tY M 60 39 x_1.toNatClampNeg = x_2 := (ex_2.symm)
  have bx_2 : 0 ≤ x_2.toInt ∧ x_2.toInt ≤ 7 := mI_ry (k := 39) (i := x_1.toNatClampNeg) hI yx_2.symm
  refine lv_istore (lv' := [(5, .int x_2), (0, .ref (A 60 0)), (1, .int 0), (2, .int pl), (3, .int ho), (4, .int t)]) hx hb dX10_leaves_11 hl (by decide) rfl (fun ls hl => ?_)
  refine lv_bipush (v := 8) hx hb dX10_leaves_13 (by decide) ?_
  refine lv_iload_n hx hb dX10_leaves_15 rfl (lv_at hl 2 rfl) ?_
  refine lv_imul hx hb dX10_leaves_16 ?_
  refine ti_top (y := 0) (by decide) ?_
  refine lv_iload hx hb dX10_leaves_17 (lv_at hl 0 rfl) ?_
  refine lv_iadd hx hb dX10_leaves_19 ?_
  refine lv_topi (fun x_3 ex_3 => ?_)
  have tx_3 : x_3.toInt = 0 + x_2.toInt := i_add ex_3 (by decide : (0 : Int32).toInt = 0) rfl (by omega) (by omega)
  refine lv_istore (lv' := [(6, .int x_3), (5, .int x_2), (0, .ref (A 60 0)), (1, .int 0), (2, .int pl), (3, .int ho), (4, .int t)]) hx hb dX10_leaves_20 hl (by decide) rfl (fun ls hl => ?_)
  refine lv_iload_n hx hb dX10_leaves_22 rfl (lv_at hl 4 rfl) ?_
  refine lv_istore (lv' := [(7, .int pl), (6, .int x_3), (5, .int x_2), (0, .ref (A 60 0)), (1, .int 0), (2, .int pl), (3, .int ho), (4, .int t)]) hx hb dX10_leaves_23 hl (by decide) rfl (fun ls hl => ?_)
  have hl_25_14 : ∀ (n_15 : Nat) (x_4 : Int32) (M_7 : ti_M) (H : Heap) (locs : List Loc) (ls : Array Slot), (8 - x_4.toInt : Int).toNat < n_15 → (0 ≤ x_4.toInt) → (x_4.toInt ≤ 7) → (mI Tm M_7) → (lk M_7 M) → (tY M_7 60 38 = tY M 60 38) → (tY M_7 60 40 = tY M 60 40) → (tY M_7 60 34 = tY M 60 34) → (pl.toInt ≤ x_4.toInt) → (x_4.toInt < (tY M 60 38 0).toInt) → (sh M M_7 0 pl.toInt.toNat x_4.toInt) → ti_H ti_LM D A cy H0 M_7 H locs → lv_has ls 8 [(7, .int x_4), (6, .int x_3), (5, .int x_2), (0, .ref (A 60 0)), (1, .int 0), (2, .int pl), (3, .int ho), (4, .int t)] → W p l e (ti_rm 0) s m args below meth c H locs 0 0 Q (F0 m 25 ls []) := by
    intro n_15
    induction n_15 with
    | zero => intro x_4 M_7 H locs ls hf_15; exact absurd hf_15 (Nat.not_lt_zero _)
    | succ n_15 ih_15 =>
      intro x_4 M_7 H locs ls hf_15 b_5 b_6 iM_7 f_8 f_9 f_10 f_11 j_12 j_13 j_14 hw hl
      refine lv_iload hx hb dX10_leaves_25 (lv_at hl 0 rfl) ?_
      refine lv_iconst (v := 1) hx hb dX10_leaves_27 (by decide) ?_
      refine lv_iadd hx hb dX10_leaves_28 ?_
      refine lv_topi (fun x_16 ex_16 => ?_)
      have tx_16 : x_16.toInt = x_4.toInt + 1 := i_add ex_16 rfl (by decide : (1 : Int32).toInt = 1) (by omega) (by omega)
      refine lv_aload_n hx hb dX10_leaves_29 rfl (lv_at hl 3 rfl) ?_
      refine ti_get (ci := 10) (k := 38) (N := 67) (T := TX10) (v := .ref (A 60 39)) C hw iw_10 rfl ob_60 (by decide) (by decide) fl_X10_81 rfl rfl dX10_leaves_30 ?_
      refine lv_iload_n hx hb dX10_leaves_33 rfl (lv_at hl 4 rfl) ?_
      refine ti_iald (ci := 10) (k := 38) (n := 23) C hw ob_60 (by decide) (fun _ _ => rfl) (by unfold vp_in; decide) dX10_leaves_34 ?_
      refine lv_topi (fun x_17 ex_17 => ?_)
      have yx_17 : tY M_7 60 38 0 = x_17 := ((congrArg _ (by decide)).symm.trans ex_17.symm)
      have bx_17 : 0 ≤ x_17.toInt ∧ x_17.toInt ≤ 8 := mI_ry (k := 38) (i := 0) iM_7 yx_17.symm
      have zx_17 : (tY M_7 60 38 0).toInt = x_17.toInt := by rw [yx_17]
      have wx_17 : tY M 60 38 0 = x_17 := ((cg f_9 0)).symm.trans yx_17
      have zwx_17 : (tY M 60 38 0).toInt = x_17.toInt := by rw [wx_17]
      refine sb_icmp_ge (tgt := 70) hx hb rfl rfl dX10_leaves_35 (by decide) (fun c_35_17 => ?_) (fun c_35_17 => ?_)
      · refine lv_aload_n hx hb dX10_leaves_70 rfl (lv_at hl 3 rfl) ?_
        refine ti_get (ci := 10) (k := 38) (N := 67) (T := TX10) (v := .ref (A 60 39)) C hw iw_10 rfl ob_60 (by decide) (by decide) fl_X10_81 rfl rfl dX10_leaves_71 ?_
        refine lv_iload_n hx hb dX10_leaves_74 rfl (lv_at hl 4 rfl) ?_
        refine lv_dup2_11 hx hb dX10_leaves_75 rfl rfl ?_
        refine ti_iald (ci := 10) (k := 38) (n := 23) C hw ob_60 (by decide) (fun _ _ => rfl) (by unfold vp_in; decide) dX10_leaves_76 ?_
        refine ti_top (y := x_17) ((congrArg _ (by decide)).trans ((cg f_9 0).trans wx_17)) ?_
        refine lv_iconst (v := 1) hx hb dX10_leaves_77 (by decide) ?_
        refine lv_isub hx hb dX10_leaves_78 ?_
        refine lv_topi (fun x_25 ex_25 => ?_)
        have tx_25 : x_25.toInt = x_17.toInt - 1 := i_sub ex_25 rfl (by decide : (1 : Int32).toInt = 1) (by omega) (by omega)
        refine ti_iast (ci := 10) (k := 38) (n := 23) C hw ob_60 (by decide) (fun _ _ => rfl) (by unfold vp_in; decide) dX10_leaves_79 (fun H locs hw => ?_)
        obtain ⟨M_26, hM_26⟩ : ∃ z : ti_M, z = uY M_7 60 38 (upd (tY M_7 60 38) (0 : Int32).toNatClampNeg x_25) := ⟨_, rfl⟩
        have hw := hw.to hM_26.symm
        have iM_26 : mI Tm M_26 := mI_up (i := 0) iM_7 hM_26 (ib_mk (lo := 0) (hi := 8) (by omega) (by omega))
        refine lv_aload_n hx hb dX10_leaves_80 rfl (lv_at hl 3 rfl) ?_
        refine ti_get (ci := 10) (k := 40) (N := 67) (T := TX10) (v := .ref (A 60 41)) C hw iw_10 rfl ob_60 (by decide) (by decide) fl_X10_87 rfl rfl dX10_leaves_81 ?_
        refine lv_iload hx hb dX10_leaves_84 (lv_at hl 1 rfl) ?_
        refine lv_iload_n hx hb dX10_leaves_86 rfl (lv_at hl 6 rfl) ?_
        refine ti_iast (ci := 10) (k := 40) (n := 184) C hw ob_60 (by decide) (fun _ _ => rfl) (vp_in_iff.mpr (by omega)) dX10_leaves_87 (fun H locs hw => ?_)
        obtain ⟨M_27, hM_27⟩ : ∃ z : ti_M, z = uY M_26 60 40 (upd (tY M_26 60 40) (x_3 : Int32).toNatClampNeg ho) := ⟨_, rfl⟩
        have hw := hw.to hM_27.symm
        have iM_27 : mI Tm M_27 := mI_up (i := x_3.toNatClampNeg) iM_26 hM_27 trivial
        refine lv_aload_n hx hb dX10_leaves_88 rfl (lv_at hl 3 rfl) ?_
        refine ti_get (ci := 10) (k := 46) (N := 67) (T := TX10) (v := .ref (A 60 47)) C hw iw_10 rfl ob_60 (by decide) (by decide) fl_X10_105 rfl rfl dX10_leaves_89 ?_
        refine lv_iload hx hb dX10_leaves_92 (lv_at hl 1 rfl) ?_
        refine lv_iload hx hb dX10_leaves_94 (lv_at hl 7 rfl) ?_
        refine ti_iast (ci := 10) (k := 46) (n := 184) C hw ob_60 (by decide) (fun _ _ => rfl) (vp_in_iff.mpr (by omega)) dX10_leaves_96 (fun H locs hw => ?_)
        obtain ⟨M_28, hM_28⟩ : ∃ z : ti_M, z = uY M_27 60 46 (upd (tY M_27 60 46) (x_3 : Int32).toNatClampNeg t) := ⟨_, rfl⟩
        have hw := hw.to hM_28.symm
        have iM_28 : mI Tm M_28 := mI_up (i := x_3.toNatClampNeg) iM_27 hM_28 trivial
        refine lv_aload_n hx hb dX10_leaves_97 rfl (lv_at hl 3 rfl) ?_
        refine ti_get (ci := 10) (k := 47) (N := 67) (T := TX10) (v := .ref (A 60 48)) C hw iw_10 rfl ob_60 (by decide) (by decide) fl_X10_108 rfl rfl dX10_leaves_98 ?_
        refine lv_iload hx hb dX10_leaves_101 (lv_at hl 1 rfl) ?_
        refine lv_iconst (v := 0) hx hb dX10_leaves_103 (by decide) ?_
        refine ti_iast (ci := 10) (k := 47) (n := 184) C hw ob_60 (by decide) (fun _ _ => rfl) (vp_in_iff.mpr (by omega)) dX10_leaves_104 (fun H locs hw => ?_)
        obtain ⟨M_29, hM_29⟩ : ∃ z : ti_M, z = uY M_28 60 47 (upd (tY M_28 60 47) (x_3 : Int32).toNatClampNeg 0) := ⟨_, rfl⟩
        have hw := hw.to hM_29.symm
        have iM_29 : mI Tm M_29 := mI_up (i := x_3.toNatClampNeg) iM_28 hM_29 trivial
        refine lv_aload_n hx hb dX10_leaves_105 rfl (lv_at hl 3 rfl) ?_
        refine ti_get (ci := 10) (k := 37) (N := 67) (T := TX10) (v := .ref (A 60 38)) C hw iw_10 rfl ob_60 (by decide) (by decide) fl_X10_78 rfl rfl dX10_leaves_106 ?_
        refine lv_iload_n hx hb dX10_leaves_109 rfl (lv_at hl 4 rfl) ?_
        refine lv_dup2_11 hx hb dX10_leaves_110 rfl rfl ?_
        refine ti_iald (ci := 10) (k := 37) (n := 23) C hw ob_60 (by decide) (fun _ _ => rfl) (by unfold vp_in; decide) dX10_leaves_111 ?_
        refine lv_topi (fun x_30 ex_30 => ?_)
        have yx_30 : tY M_29 60 37 0 = x_30 := ((congrArg _ (by decide)).symm.trans ex_30.symm)
        have wx_30 : tY M_7 60 37 0 = x_30 := (((cg (tY_nE hM_29 (nk (by decide))) 0).trans ((cg (tY_nE hM_28 (nk (by decide))) 0).trans ((cg (tY_nE hM_27 (nk (by decide))) 0).trans (cg (tY_nE hM_26 (nk (by decide))) 0))))).symm.trans yx_30
        refine lv_iconst (v := 1) hx hb dX10_leaves_112 (by decide) ?_
        refine lv_iload hx hb dX10_leaves_113 (lv_at hl 2 rfl) ?_
        refine lv_ishl hx hb dX10_leaves_115 ?_
        refine lv_topi (fun x_31 ex_31 => ?_)
        refine lv_iconst (v := (-1)) hx hb dX10_leaves_116 (by decide) ?_
        refine lv_ixor hx hb dX10_leaves_117 ?_
        refine lv_topi (fun x_32 ex_32 => ?_)
        refine lv_iand hx hb dX10_leaves_118 ?_
        refine lv_topi (fun x_33 ex_33 => ?_)
        refine ti_iast (ci := 10) (k := 37) (n := 23) C hw ob_60 (by decide) (fun _ _ => rfl) (by unfold vp_in; decide) dX10_leaves_119 (fun H locs hw => ?_)
        obtain ⟨M_34, hM_34⟩ : ∃ z : ti_M, z = uY M_29 60 37 (upd (tY M_29 60 37) (0 : Int32).toNatClampNeg x_33) := ⟨_, rfl⟩
        have hw := hw.to hM_34.symm
        have iM_34 : mI Tm M_34 := mI_up (i := 0) iM_29 hM_34 trivial
        refine lv_iload_n hx hb dX10_leaves_120 rfl (lv_at hl 6 rfl) ?_
        refine lv_iconst (v := 2) hx hb dX10_leaves_121 (by decide) ?_
        refine sb_icmp_ne (tgt := 134) hx hb rfl (by decide : (2 : Int32).toInt = 2) dX10_leaves_122 (by decide) (fun c_122_34 => ?_) (fun c_122_34 => ?_)
        · have n9 : x_1.toNatClampNeg = 8 * 0 + pl.toInt.toNat := by show (x_1).toInt.toNat = _; omega
          have k9 : (tY M 60 39 (8 * 0 + pl.toInt.toNat)).toInt = x_2.toInt := by rw [← n9, (yx_2)]
          have jj := q_leave (q := 0) (pl := pl.toInt.toNat) (p := x_4.toInt) hI hC (by rw [tY_nE (o2 := 60) (k2 := 38) hM_34 (nk (by decide)), tY_nE (o2 := 60) (k2 := 38) hM_29 (nk (by decide)), tY_nE (o2 := 60) (k2 := 38) hM_28 (nk (by decide)), tY_nE (o2 := 60) (k2 := 38) hM_27 (nk (by decide)), tY_uE hM_26, (f_9 : tY M_7 60 38 = tY M 60 38)] : tY M_34 60 38 = upd (tY M 60 38) (0 : Int32).toNatClampNeg x_25) (fun i => (cg (by rw [tY_nE (o2 := 60) (k2 := 39) hM_34 (nk (by decide)), tY_nE (o2 := 60) (k2 := 39) hM_29 (nk (by decide)), tY_nE (o2 := 60) (k2 := 39) hM_28 (nk (by decide)), tY_nE (o2 := 60) (k2 := 39) hM_27 (nk (by decide)), tY_nE (o2 := 60) (k2 := 39) hM_26 (nk (by decide))] : tY M_34 60 39 = tY M_7 60 39) i).trans (j_14 i)) (by rw [tY_nE (o2 := 60) (k2 := 40) hM_34 (nk (by decide)), tY_nE (o2 := 60) (k2 := 40) hM_29 (nk (by decide)), tY_nE (o2 := 60) (k2 := 40) hM_28 (nk (by decide)), tY_uE hM_27, tY_nE (o2 := 60) (k2 := 40) hM_26 (nk (by decide)), (f_10 : tY M_7 60 40 = tY M 60 40)] : tY M_34 60 40 = upd (tY M 60 40) (x_3 : Int32).toNatClampNeg ho) (lk.trans (lk_Y hM_34 (by decide)) (lk.trans (lk_Y hM_29 (by decide)) (lk.trans (lk_Y hM_28 (by decide)) (lk.trans (lk_Y hM_27 (by decide)) (lk.trans (lk_Y hM_26 (by decide)) f_8))))) (by decide) (by omega) (by omega) (by omega) (by show ((x_3.toInt.toNat : Nat) : Int) = _; omega) h3
          exact hQ _ _ _ _ _ hw (⟨iM_34, jj.1, jj.2.1, (((tY_nE hM_34 (nk (by decide))).trans ((tY_nE hM_29 (nk (by decide))).trans ((tY_nE hM_28 (nk (by decide))).trans ((tY_nE hM_27 (nk (by decide))).trans ((tY_nE hM_26 (nk (by decide))).trans f_11)))))), jj.2.2⟩) dX10_leaves_134
        · refine lv_aload_n hx hb dX10_leaves_125 rfl (lv_at hl 3 rfl) ?_
          refine ti_get (ci := 10) (k := 48) (N := 67) (T := TX10) (v := .ref (A 60 49)) C hw iw_10 rfl ob_60 (by decide) (by decide) fl_X10_111 rfl rfl dX10_leaves_126 ?_
          refine lv_iload hx hb dX10_leaves_129 (lv_at hl 1 rfl) ?_
          refine lv_iload hx hb dX10_leaves_131 (lv_at hl 7 rfl) ?_
          refine ti_iast (ci := 10) (k := 48) (n := 184) C hw ob_60 (by decide) (fun _ _ => rfl) (vp_in_iff.mpr (by omega)) dX10_leaves_133 (fun H locs hw => ?_)
          obtain ⟨M_36, hM_36⟩ : ∃ z : ti_M, z = uY M_34 60 48 (upd (tY M_34 60 48) (x_3 : Int32).toNatClampNeg t) := ⟨_, rfl⟩
          have hw := hw.to hM_36.symm
          have iM_36 : mI Tm M_36 := mI_up (i := x_3.toNatClampNeg) iM_34 hM_36 trivial
          have n9 : x_1.toNatClampNeg = 8 * 0 + pl.toInt.toNat := by show (x_1).toInt.toNat = _; omega
          have k9 : (tY M 60 39 (8 * 0 + pl.toInt.toNat)).toInt = x_2.toInt := by rw [← n9, (yx_2)]
          have jj := q_leave (q := 0) (pl := pl.toInt.toNat) (p := x_4.toInt) hI hC (by rw [tY_nE (o2 := 60) (k2 := 38) hM_36 (nk (by decide)), tY_nE (o2 := 60) (k2 := 38) hM_34 (nk (by decide)), tY_nE (o2 := 60) (k2 := 38) hM_29 (nk (by decide)), tY_nE (o2 := 60) (k2 := 38) hM_28 (nk (by decide)), tY_nE (o2 := 60) (k2 := 38) hM_27 (nk (by decide)), tY_uE hM_26, (f_9 : tY M_7 60 38 = tY M 60 38)] : tY M_36 60 38 = upd (tY M 60 38) (0 : Int32).toNatClampNeg x_25) (fun i => (cg (by rw [tY_nE (o2 := 60) (k2 := 39) hM_36 (nk (by decide)), tY_nE (o2 := 60) (k2 := 39) hM_34 (nk (by decide)), tY_nE (o2 := 60) (k2 := 39) hM_29 (nk (by decide)), tY_nE (o2 := 60) (k2 := 39) hM_28 (nk (by decide)), tY_nE (o2 := 60) (k2 := 39) hM_27 (nk (by decide)), tY_nE (o2 := 60) (k2 := 39) hM_26 (nk (by decide))] : tY M_36 60 39 = tY M_7 60 39) i).trans (j_14 i)) (by rw [tY_nE (o2 := 60) (k2 := 40) hM_36 (nk (by decide)), tY_nE (o2 := 60) (k2 := 40) hM_34 (nk (by decide)), tY_nE (o2 := 60) (k2 := 40) hM_29 (nk (by decide)), tY_nE (o2 := 60) (k2 := 40) hM_28 (nk (by decide)), tY_uE hM_27, tY_nE (o2 := 60) (k2 := 40) hM_26 (nk (by decide)), (f_10 : tY M_7 60 40 = tY M 60 40)] : tY M_36 60 40 = upd (tY M 60 40) (x_3 : Int32).toNatClampNeg ho) (lk.trans (lk_Y hM_36 (by decide)) (lk.trans (lk_Y hM_34 (by decide)) (lk.trans (lk_Y hM_29 (by decide)) (lk.trans (lk_Y hM_28 (by decide)) (lk.trans (lk_Y hM_27 (by decide)) (lk.trans (lk_Y hM_26 (by decide)) f_8)))))) (by decide) (by omega) (by omega) (by omega) (by show ((x_3.toInt.toNat : Nat) : Int) = _; omega) h3
          exact hQ _ _ _ _ _ hw (⟨iM_36, jj.1, jj.2.1, (((tY_nE hM_36 (nk (by decide))).trans ((tY_nE hM_34 (nk (by decide))).trans ((tY_nE hM_29 (nk (by decide))).trans ((tY_nE hM_28 (nk (by decide))).trans ((tY_nE hM_27 (nk (by decide))).trans ((tY_nE hM_26 (nk (by decide))).trans f_11))))))), jj.2.2⟩) dX10_leaves_134
      · refine lv_aload_n hx hb dX10_leaves_38 rfl (lv_at hl 3 rfl) ?_
        refine ti_get (ci := 10) (k := 39) (N := 67) (T := TX10) (v := .ref (A 60 40)) C hw iw_10 rfl ob_60 (by decide) (by decide) fl_X10_84 rfl rfl dX10_leaves_39 ?_
        refine lv_bipush (v := 8) hx hb dX10_leaves_42 (by decide) ?_
        refine lv_iload_n hx hb dX10_leaves_44 rfl (lv_at hl 4 rfl) ?_
        refine lv_imul hx hb dX10_leaves_45 ?_
        refine ti_top (y := 0) (by decide) ?_
        refine lv_iload hx hb dX10_leaves_46 (lv_at hl 0 rfl) ?_
        refine lv_iadd hx hb dX10_leaves_48 ?_
        refine lv_topi (fun x_19 ex_19 => ?_)
        have tx_19 : x_19.toInt = 0 + x_4.toInt := i_add ex_19 (by decide : (0 : Int32).toInt = 0) rfl (by omega) (by omega)
        refine lv_aload_n hx hb dX10_leaves_49 rfl (lv_at hl 3 rfl) ?_
        refine ti_get (ci := 10) (k := 39) (N := 67) (T := TX10) (v := .ref (A 60 40)) C hw iw_10 rfl ob_60 (by decide) (by decide) fl_X10_84 rfl rfl dX10_leaves_50 ?_
        refine lv_bipush (v := 8) hx hb dX10_leaves_53 (by decide) ?_
        refine lv_iload_n hx hb dX10_leaves_55 rfl (lv_at hl 4 rfl) ?_
        refine lv_imul hx hb dX10_leaves_56 ?_
        refine ti_top (y := 0) (by decide) ?_
        refine lv_iload hx hb dX10_leaves_57 (lv_at hl 0 rfl) ?_
        refine lv_iadd hx hb dX10_leaves_59 ?_
        refine lv_topi (fun x_20 ex_20 => ?_)
        have tx_20 : x_20.toInt = 0 + x_4.toInt := i_add ex_20 (by decide : (0 : Int32).toInt = 0) rfl (by omega) (by omega)
        refine lv_iconst (v := 1) hx hb dX10_leaves_60 (by decide) ?_
        refine lv_iadd hx hb dX10_leaves_61 ?_
        refine lv_topi (fun x_21 ex_21 => ?_)
        have tx_21 : x_21.toInt = x_20.toInt + 1 := i_add ex_21 rfl (by decide : (1 : Int32).toInt = 1) (by omega) (by omega)
        refine ti_iald (ci := 10) (k := 39) (n := 184) C hw ob_60 (by decide) (fun _ _ => rfl) (vp_in_iff.mpr (by omega)) dX10_leaves_62 ?_
        refine lv_topi (fun x_22 ex_22 => ?_)
        have yx_22 : tY M_7 60 39 x_21.toNatClampNeg = x_22 := (ex_22.symm)
        have bx_22 : 0 ≤ x_22.toInt ∧ x_22.toInt ≤ 7 := mI_ry (k := 39) (i := x_21.toNatClampNeg) iM_7 yx_22.symm
        refine ti_iast (ci := 10) (k := 39) (n := 184) C hw ob_60 (by decide) (fun _ _ => rfl) (vp_in_iff.mpr (by omega)) dX10_leaves_63 (fun H locs hw => ?_)
        obtain ⟨M_23, hM_23⟩ : ∃ z : ti_M, z = uY M_7 60 39 (upd (tY M_7 60 39) (x_19 : Int32).toNatClampNeg x_22) := ⟨_, rfl⟩
        have hw := hw.to hM_23.symm
        have iM_23 : mI Tm M_23 := mI_up (i := x_19.toNatClampNeg) iM_7 hM_23 (ib_mk (lo := 0) (hi := 7) (by omega) (by omega))
        obtain ⟨x_24, ex_24⟩ : ∃ z : Int32, z = x_4 + 1 := ⟨_, rfl⟩
        have tx_24 : x_24.toInt = x_4.toInt + 1 := i_add ex_24 rfl (by decide) (by omega) (by omega)
        refine lv_iinc (v := x_24) (lv' := [(7, .int x_24), (6, .int x_3), (5, .int x_2), (0, .ref (A 60 0)), (1, .int 0), (2, .int pl), (3, .int ho), (4, .int t)]) hx hb dX10_leaves_64 hl (k := 0) rfl (by rw [ex_24]; rfl) (by decide) rfl (fun ls hl => ?_)
        refine lv_goto (tgt := 25) hx hb dX10_leaves_67 (by decide) ?_
        exact ih_15 x_24 M_23 _ _ _ (by omega) (by first | omega | decide) (by first | omega | decide) iM_23 (lk.trans (lk_Y hM_23 (by decide)) f_8) (((tY_nE hM_23 (nk (by decide))).trans f_9)) (((tY_nE hM_23 (nk (by decide))).trans f_10)) (((tY_nE hM_23 (nk (by decide))).trans f_11)) (by first | omega | decide) (by first | omega | decide) (sh_s j_14 hM_23 (by show ((x_19.toInt.toNat : Nat) : Int) = _; omega) (by omega) yx_22 (by show (x_21).toInt.toNat = (x_19).toInt.toNat + 1; omega) (by omega)) hw (lv_sub hl [0, 1, 2, 3, 4, 5, 6, 7] rfl)
  exact hl_25_14 ((8 - pl.toInt : Int).toNat + 1) pl M _ _ _ (Nat.lt_succ_self _) (by first | omega | decide) (by first | omega | decide) hI lk.refl rfl rfl rfl (by first | omega | decide) (by first | omega | decide) (sh_0 (by omega)) hw (lv_sub hl [0, 1, 2, 3, 4, 5, 6, 7] rfl)
set_option maxHeartbeats 4000000 in
set_option maxRecDepth 100000 in
theorem s_X10_leaves_1 (l : Launch) (D : va_G) (A : Nat → Nat → Nat) (cy : Nat → ClassId) (hJ : ti_inj ti_LM A) (M : ti_M) (hI : mI Tm M) (hC : mC M 1) (pl ho t : Int32) (h1 : 0 ≤ pl.toInt) (h2 : pl.toInt < (tY M 60 38 1).toInt) (h3 : 2 ≤ ho.toInt) : ti_Kv l yX10_leaves cX10_leaves 8 0 ti_LM D A cy M [.ref (A 60 0), .int 1, .int pl, .int ho, .int t] (fun M2 => mI Tm M2 ∧ rq 1 M2 M ∧ mC M2 1 ∧ tY M2 60 34 = tY M 60 34 ∧ (tY M2 60 38 1).toInt = (tY M 60 38 1).toInt - 1) := by
  refine ti_eV yp_X10_leaves hJ ti_LM_nd (Nat.le_of_ble_eq_true rfl) ?_
  intro p e s m args below meth c Q H0 C hQ hw ls hl
  have hx := C.1
  have hb := C.2.1
  have hl : lv_has ls 8 [(0, .ref (A 60 0)), (1, .int 1), (2, .int pl), (3, .int ho), (4, .int t)] := hl
  have h7 : 0 ≤ (tY M 60 38 1).toInt ∧ (tY M 60 38 1).toInt ≤ 8 := hI.2.1 38 _
  refine lv_aload_n hx hb dX10_leaves_0 rfl (lv_at hl 0 rfl) ?_
  refine ti_get (ci := 10) (k := 39) (N := 67) (T := TX10) (v := .ref (A 60 40)) C hw iw_10 rfl ob_60 (by decide) (by decide) fl_X10_84 rfl rfl dX10_leaves_1 ?_
  refine lv_bipush (v := 8) hx hb dX10_leaves_4 (by decide) ?_
  refine lv_iload_n hx hb dX10_leaves_6 rfl (lv_at hl 1 rfl) ?_
  refine lv_imul hx hb dX10_leaves_7 ?_
  refine ti_top (y := 8) (by decide) ?_
  refine lv_iload_n hx hb dX10_leaves_8 rfl (lv_at hl 2 rfl) ?_
  refine lv_iadd hx hb dX10_leaves_9 ?_
  refine lv_topi (fun x_1 ex_1 => ?_)
  have tx_1 : x_1.toInt = 8 + pl.toInt := i_add ex_1 (by decide : (8 : Int32).toInt = 8) rfl (by omega) (by omega)
  refine ti_iald (ci := 10) (k := 39) (n := 184) C hw ob_60 (by decide) (fun _ _ => rfl) (vp_in_iff.mpr (by omega)) dX10_leaves_10 ?_
  refine lv_topi (fun x_2 ex_2 => ?_)
  have yx_2 : tY M 60 39 x_1.toNatClampNeg = x_2 := (ex_2.symm)
  have bx_2 : 0 ≤ x_2.toInt ∧ x_2.toInt ≤ 7 := mI_ry (k := 39) (i := x_1.toNatClampNeg) hI yx_2.symm
  refine lv_istore (lv' := [(5, .int x_2), (0, .ref (A 60 0)), (1, .int 1), (2, .int pl), (3, .int ho), (4, .int t)]) hx hb dX10_leaves_11 hl (by decide) rfl (fun ls hl => ?_)
  refine lv_bipush (v := 8) hx hb dX10_leaves_13 (by decide) ?_
  refine lv_iload_n hx hb dX10_leaves_15 rfl (lv_at hl 2 rfl) ?_
  refine lv_imul hx hb dX10_leaves_16 ?_
  refine ti_top (y := 8) (by decide) ?_
  refine lv_iload hx hb dX10_leaves_17 (lv_at hl 0 rfl) ?_
  refine lv_iadd hx hb dX10_leaves_19 ?_
  refine lv_topi (fun x_3 ex_3 => ?_)
  have tx_3 : x_3.toInt = 8 + x_2.toInt := i_add ex_3 (by decide : (8 : Int32).toInt = 8) rfl (by omega) (by omega)
  refine lv_istore (lv' := [(6, .int x_3), (5, .int x_2), (0, .ref (A 60 0)), (1, .int 1), (2, .int pl), (3, .int ho), (4, .int t)]) hx hb dX10_leaves_20 hl (by decide) rfl (fun ls hl => ?_)
  refine lv_iload_n hx hb dX10_leaves_22 rfl (lv_at hl 4 rfl) ?_
  refine lv_istore (lv' := [(7, .int pl), (6, .int x_3), (5, .int x_2), (0, .ref (A 60 0)), (1, .int 1), (2, .int pl), (3, .int ho), (4, .int t)]) hx hb dX10_leaves_23 hl (by decide) rfl (fun ls hl => ?_)
  have hl_25_14 : ∀ (n_15 : Nat) (x_4 : Int32) (M_7 : ti_M) (H : Heap) (locs : List Loc) (ls : Array Slot), (8 - x_4.toInt : Int).toNat < n_15 → (0 ≤ x_4.toInt) → (x_4.toInt ≤ 7) → (mI Tm M_7) → (lk M_7 M) → (tY M_7 60 38 = tY M 60 38) → (tY M_7 60 40 = tY M 60 40) → (tY M_7 60 34 = tY M 60 34) → (pl.toInt ≤ x_4.toInt) → (x_4.toInt < (tY M 60 38 1).toInt) → (sh M M_7 8 pl.toInt.toNat x_4.toInt) → ti_H ti_LM D A cy H0 M_7 H locs → lv_has ls 8 [(7, .int x_4), (6, .int x_3), (5, .int x_2), (0, .ref (A 60 0)), (1, .int 1), (2, .int pl), (3, .int ho), (4, .int t)] → W p l e (ti_rm 0) s m args below meth c H locs 0 0 Q (F0 m 25 ls []) := by
    intro n_15
    induction n_15 with
    | zero => intro x_4 M_7 H locs ls hf_15; exact absurd hf_15 (Nat.not_lt_zero _)
    | succ n_15 ih_15 =>
      intro x_4 M_7 H locs ls hf_15 b_5 b_6 iM_7 f_8 f_9 f_10 f_11 j_12 j_13 j_14 hw hl
      refine lv_iload hx hb dX10_leaves_25 (lv_at hl 0 rfl) ?_
      refine lv_iconst (v := 1) hx hb dX10_leaves_27 (by decide) ?_
      refine lv_iadd hx hb dX10_leaves_28 ?_
      refine lv_topi (fun x_16 ex_16 => ?_)
      have tx_16 : x_16.toInt = x_4.toInt + 1 := i_add ex_16 rfl (by decide : (1 : Int32).toInt = 1) (by omega) (by omega)
      refine lv_aload_n hx hb dX10_leaves_29 rfl (lv_at hl 3 rfl) ?_
      refine ti_get (ci := 10) (k := 38) (N := 67) (T := TX10) (v := .ref (A 60 39)) C hw iw_10 rfl ob_60 (by decide) (by decide) fl_X10_81 rfl rfl dX10_leaves_30 ?_
      refine lv_iload_n hx hb dX10_leaves_33 rfl (lv_at hl 4 rfl) ?_
      refine ti_iald (ci := 10) (k := 38) (n := 23) C hw ob_60 (by decide) (fun _ _ => rfl) (by unfold vp_in; decide) dX10_leaves_34 ?_
      refine lv_topi (fun x_17 ex_17 => ?_)
      have yx_17 : tY M_7 60 38 1 = x_17 := ((congrArg _ (by decide)).symm.trans ex_17.symm)
      have bx_17 : 0 ≤ x_17.toInt ∧ x_17.toInt ≤ 8 := mI_ry (k := 38) (i := 1) iM_7 yx_17.symm
      have zx_17 : (tY M_7 60 38 1).toInt = x_17.toInt := by rw [yx_17]
      have wx_17 : tY M 60 38 1 = x_17 := ((cg f_9 1)).symm.trans yx_17
      have zwx_17 : (tY M 60 38 1).toInt = x_17.toInt := by rw [wx_17]
      refine sb_icmp_ge (tgt := 70) hx hb rfl rfl dX10_leaves_35 (by decide) (fun c_35_17 => ?_) (fun c_35_17 => ?_)
      · refine lv_aload_n hx hb dX10_leaves_70 rfl (lv_at hl 3 rfl) ?_
        refine ti_get (ci := 10) (k := 38) (N := 67) (T := TX10) (v := .ref (A 60 39)) C hw iw_10 rfl ob_60 (by decide) (by decide) fl_X10_81 rfl rfl dX10_leaves_71 ?_
        refine lv_iload_n hx hb dX10_leaves_74 rfl (lv_at hl 4 rfl) ?_
        refine lv_dup2_11 hx hb dX10_leaves_75 rfl rfl ?_
        refine ti_iald (ci := 10) (k := 38) (n := 23) C hw ob_60 (by decide) (fun _ _ => rfl) (by unfold vp_in; decide) dX10_leaves_76 ?_
        refine ti_top (y := x_17) ((congrArg _ (by decide)).trans ((cg f_9 1).trans wx_17)) ?_
        refine lv_iconst (v := 1) hx hb dX10_leaves_77 (by decide) ?_
        refine lv_isub hx hb dX10_leaves_78 ?_
        refine lv_topi (fun x_25 ex_25 => ?_)
        have tx_25 : x_25.toInt = x_17.toInt - 1 := i_sub ex_25 rfl (by decide : (1 : Int32).toInt = 1) (by omega) (by omega)
        refine ti_iast (ci := 10) (k := 38) (n := 23) C hw ob_60 (by decide) (fun _ _ => rfl) (by unfold vp_in; decide) dX10_leaves_79 (fun H locs hw => ?_)
        obtain ⟨M_26, hM_26⟩ : ∃ z : ti_M, z = uY M_7 60 38 (upd (tY M_7 60 38) (1 : Int32).toNatClampNeg x_25) := ⟨_, rfl⟩
        have hw := hw.to hM_26.symm
        have iM_26 : mI Tm M_26 := mI_up (i := 1) iM_7 hM_26 (ib_mk (lo := 0) (hi := 8) (by omega) (by omega))
        refine lv_aload_n hx hb dX10_leaves_80 rfl (lv_at hl 3 rfl) ?_
        refine ti_get (ci := 10) (k := 40) (N := 67) (T := TX10) (v := .ref (A 60 41)) C hw iw_10 rfl ob_60 (by decide) (by decide) fl_X10_87 rfl rfl dX10_leaves_81 ?_
        refine lv_iload hx hb dX10_leaves_84 (lv_at hl 1 rfl) ?_
        refine lv_iload_n hx hb dX10_leaves_86 rfl (lv_at hl 6 rfl) ?_
        refine ti_iast (ci := 10) (k := 40) (n := 184) C hw ob_60 (by decide) (fun _ _ => rfl) (vp_in_iff.mpr (by omega)) dX10_leaves_87 (fun H locs hw => ?_)
        obtain ⟨M_27, hM_27⟩ : ∃ z : ti_M, z = uY M_26 60 40 (upd (tY M_26 60 40) (x_3 : Int32).toNatClampNeg ho) := ⟨_, rfl⟩
        have hw := hw.to hM_27.symm
        have iM_27 : mI Tm M_27 := mI_up (i := x_3.toNatClampNeg) iM_26 hM_27 trivial
        refine lv_aload_n hx hb dX10_leaves_88 rfl (lv_at hl 3 rfl) ?_
        refine ti_get (ci := 10) (k := 46) (N := 67) (T := TX10) (v := .ref (A 60 47)) C hw iw_10 rfl ob_60 (by decide) (by decide) fl_X10_105 rfl rfl dX10_leaves_89 ?_
        refine lv_iload hx hb dX10_leaves_92 (lv_at hl 1 rfl) ?_
        refine lv_iload hx hb dX10_leaves_94 (lv_at hl 7 rfl) ?_
        refine ti_iast (ci := 10) (k := 46) (n := 184) C hw ob_60 (by decide) (fun _ _ => rfl) (vp_in_iff.mpr (by omega)) dX10_leaves_96 (fun H locs hw => ?_)
        obtain ⟨M_28, hM_28⟩ : ∃ z : ti_M, z = uY M_27 60 46 (upd (tY M_27 60 46) (x_3 : Int32).toNatClampNeg t) := ⟨_, rfl⟩
        have hw := hw.to hM_28.symm
        have iM_28 : mI Tm M_28 := mI_up (i := x_3.toNatClampNeg) iM_27 hM_28 trivial
        refine lv_aload_n hx hb dX10_leaves_97 rfl (lv_at hl 3 rfl) ?_
        refine ti_get (ci := 10) (k := 47) (N := 67) (T := TX10) (v := .ref (A 60 48)) C hw iw_10 rfl ob_60 (by decide) (by decide) fl_X10_108 rfl rfl dX10_leaves_98 ?_
        refine lv_iload hx hb dX10_leaves_101 (lv_at hl 1 rfl) ?_
        refine lv_iconst (v := 0) hx hb dX10_leaves_103 (by decide) ?_
        refine ti_iast (ci := 10) (k := 47) (n := 184) C hw ob_60 (by decide) (fun _ _ => rfl) (vp_in_iff.mpr (by omega)) dX10_leaves_104 (fun H locs hw => ?_)
        obtain ⟨M_29, hM_29⟩ : ∃ z : ti_M, z = uY M_28 60 47 (upd (tY M_28 60 47) (x_3 : Int32).toNatClampNeg 0) := ⟨_, rfl⟩
        have hw := hw.to hM_29.symm
        have iM_29 : mI Tm M_29 := mI_up (i := x_3.toNatClampNeg) iM_28 hM_29 trivial
        refine lv_aload_n hx hb dX10_leaves_105 rfl (lv_at hl 3 rfl) ?_
        refine ti_get (ci := 10) (k := 37) (N := 67) (T := TX10) (v := .ref (A 60 38)) C hw iw_10 rfl ob_60 (by decide) (by decide) fl_X10_78 rfl rfl dX10_leaves_106 ?_
        refine lv_iload_n hx hb dX10_leaves_109 rfl (lv_at hl 4 rfl) ?_
        refine lv_dup2_11 hx hb dX10_leaves_110 rfl rfl ?_
        refine ti_iald (ci := 10) (k := 37) (n := 23) C hw ob_60 (by decide) (fun _ _ => rfl) (by unfold vp_in; decide) dX10_leaves_111 ?_
        refine lv_topi (fun x_30 ex_30 => ?_)
        have yx_30 : tY M_29 60 37 1 = x_30 := ((congrArg _ (by decide)).symm.trans ex_30.symm)
        have wx_30 : tY M_7 60 37 1 = x_30 := (((cg (tY_nE hM_29 (nk (by decide))) 1).trans ((cg (tY_nE hM_28 (nk (by decide))) 1).trans ((cg (tY_nE hM_27 (nk (by decide))) 1).trans (cg (tY_nE hM_26 (nk (by decide))) 1))))).symm.trans yx_30
        refine lv_iconst (v := 1) hx hb dX10_leaves_112 (by decide) ?_
        refine lv_iload hx hb dX10_leaves_113 (lv_at hl 2 rfl) ?_
        refine lv_ishl hx hb dX10_leaves_115 ?_
        refine lv_topi (fun x_31 ex_31 => ?_)
        refine lv_iconst (v := (-1)) hx hb dX10_leaves_116 (by decide) ?_
        refine lv_ixor hx hb dX10_leaves_117 ?_
        refine lv_topi (fun x_32 ex_32 => ?_)
        refine lv_iand hx hb dX10_leaves_118 ?_
        refine lv_topi (fun x_33 ex_33 => ?_)
        refine ti_iast (ci := 10) (k := 37) (n := 23) C hw ob_60 (by decide) (fun _ _ => rfl) (by unfold vp_in; decide) dX10_leaves_119 (fun H locs hw => ?_)
        obtain ⟨M_34, hM_34⟩ : ∃ z : ti_M, z = uY M_29 60 37 (upd (tY M_29 60 37) (1 : Int32).toNatClampNeg x_33) := ⟨_, rfl⟩
        have hw := hw.to hM_34.symm
        have iM_34 : mI Tm M_34 := mI_up (i := 1) iM_29 hM_34 trivial
        refine lv_iload_n hx hb dX10_leaves_120 rfl (lv_at hl 6 rfl) ?_
        refine lv_iconst (v := 2) hx hb dX10_leaves_121 (by decide) ?_
        refine sb_icmp_ne (tgt := 134) hx hb rfl (by decide : (2 : Int32).toInt = 2) dX10_leaves_122 (by decide) (fun c_122_34 => ?_) (fun c_122_34 => ?_)
        · have n9 : x_1.toNatClampNeg = 8 * 1 + pl.toInt.toNat := by show (x_1).toInt.toNat = _; omega
          have k9 : (tY M 60 39 (8 * 1 + pl.toInt.toNat)).toInt = x_2.toInt := by rw [← n9, (yx_2)]
          have jj := q_leave (q := 1) (pl := pl.toInt.toNat) (p := x_4.toInt) hI hC (by rw [tY_nE (o2 := 60) (k2 := 38) hM_34 (nk (by decide)), tY_nE (o2 := 60) (k2 := 38) hM_29 (nk (by decide)), tY_nE (o2 := 60) (k2 := 38) hM_28 (nk (by decide)), tY_nE (o2 := 60) (k2 := 38) hM_27 (nk (by decide)), tY_uE hM_26, (f_9 : tY M_7 60 38 = tY M 60 38)] : tY M_34 60 38 = upd (tY M 60 38) (1 : Int32).toNatClampNeg x_25) (fun i => (cg (by rw [tY_nE (o2 := 60) (k2 := 39) hM_34 (nk (by decide)), tY_nE (o2 := 60) (k2 := 39) hM_29 (nk (by decide)), tY_nE (o2 := 60) (k2 := 39) hM_28 (nk (by decide)), tY_nE (o2 := 60) (k2 := 39) hM_27 (nk (by decide)), tY_nE (o2 := 60) (k2 := 39) hM_26 (nk (by decide))] : tY M_34 60 39 = tY M_7 60 39) i).trans (j_14 i)) (by rw [tY_nE (o2 := 60) (k2 := 40) hM_34 (nk (by decide)), tY_nE (o2 := 60) (k2 := 40) hM_29 (nk (by decide)), tY_nE (o2 := 60) (k2 := 40) hM_28 (nk (by decide)), tY_uE hM_27, tY_nE (o2 := 60) (k2 := 40) hM_26 (nk (by decide)), (f_10 : tY M_7 60 40 = tY M 60 40)] : tY M_34 60 40 = upd (tY M 60 40) (x_3 : Int32).toNatClampNeg ho) (lk.trans (lk_Y hM_34 (by decide)) (lk.trans (lk_Y hM_29 (by decide)) (lk.trans (lk_Y hM_28 (by decide)) (lk.trans (lk_Y hM_27 (by decide)) (lk.trans (lk_Y hM_26 (by decide)) f_8))))) (by decide) (by omega) (by omega) (by omega) (by show ((x_3.toInt.toNat : Nat) : Int) = _; omega) h3
          exact hQ _ _ _ _ _ hw (⟨iM_34, jj.1, jj.2.1, (((tY_nE hM_34 (nk (by decide))).trans ((tY_nE hM_29 (nk (by decide))).trans ((tY_nE hM_28 (nk (by decide))).trans ((tY_nE hM_27 (nk (by decide))).trans ((tY_nE hM_26 (nk (by decide))).trans f_11)))))), jj.2.2⟩) dX10_leaves_134
        · refine lv_aload_n hx hb dX10_leaves_125 rfl (lv_at hl 3 rfl) ?_
          refine ti_get (ci := 10) (k := 48) (N := 67) (T := TX10) (v := .ref (A 60 49)) C hw iw_10 rfl ob_60 (by decide) (by decide) fl_X10_111 rfl rfl dX10_leaves_126 ?_
          refine lv_iload hx hb dX10_leaves_129 (lv_at hl 1 rfl) ?_
          refine lv_iload hx hb dX10_leaves_131 (lv_at hl 7 rfl) ?_
          refine ti_iast (ci := 10) (k := 48) (n := 184) C hw ob_60 (by decide) (fun _ _ => rfl) (vp_in_iff.mpr (by omega)) dX10_leaves_133 (fun H locs hw => ?_)
          obtain ⟨M_36, hM_36⟩ : ∃ z : ti_M, z = uY M_34 60 48 (upd (tY M_34 60 48) (x_3 : Int32).toNatClampNeg t) := ⟨_, rfl⟩
          have hw := hw.to hM_36.symm
          have iM_36 : mI Tm M_36 := mI_up (i := x_3.toNatClampNeg) iM_34 hM_36 trivial
          have n9 : x_1.toNatClampNeg = 8 * 1 + pl.toInt.toNat := by show (x_1).toInt.toNat = _; omega
          have k9 : (tY M 60 39 (8 * 1 + pl.toInt.toNat)).toInt = x_2.toInt := by rw [← n9, (yx_2)]
          have jj := q_leave (q := 1) (pl := pl.toInt.toNat) (p := x_4.toInt) hI hC (by rw [tY_nE (o2 := 60) (k2 := 38) hM_36 (nk (by decide)), tY_nE (o2 := 60) (k2 := 38) hM_34 (nk (by decide)), tY_nE (o2 := 60) (k2 := 38) hM_29 (nk (by decide)), tY_nE (o2 := 60) (k2 := 38) hM_28 (nk (by decide)), tY_nE (o2 := 60) (k2 := 38) hM_27 (nk (by decide)), tY_uE hM_26, (f_9 : tY M_7 60 38 = tY M 60 38)] : tY M_36 60 38 = upd (tY M 60 38) (1 : Int32).toNatClampNeg x_25) (fun i => (cg (by rw [tY_nE (o2 := 60) (k2 := 39) hM_36 (nk (by decide)), tY_nE (o2 := 60) (k2 := 39) hM_34 (nk (by decide)), tY_nE (o2 := 60) (k2 := 39) hM_29 (nk (by decide)), tY_nE (o2 := 60) (k2 := 39) hM_28 (nk (by decide)), tY_nE (o2 := 60) (k2 := 39) hM_27 (nk (by decide)), tY_nE (o2 := 60) (k2 := 39) hM_26 (nk (by decide))] : tY M_36 60 39 = tY M_7 60 39) i).trans (j_14 i)) (by rw [tY_nE (o2 := 60) (k2 := 40) hM_36 (nk (by decide)), tY_nE (o2 := 60) (k2 := 40) hM_34 (nk (by decide)), tY_nE (o2 := 60) (k2 := 40) hM_29 (nk (by decide)), tY_nE (o2 := 60) (k2 := 40) hM_28 (nk (by decide)), tY_uE hM_27, tY_nE (o2 := 60) (k2 := 40) hM_26 (nk (by decide)), (f_10 : tY M_7 60 40 = tY M 60 40)] : tY M_36 60 40 = upd (tY M 60 40) (x_3 : Int32).toNatClampNeg ho) (lk.trans (lk_Y hM_36 (by decide)) (lk.trans (lk_Y hM_34 (by decide)) (lk.trans (lk_Y hM_29 (by decide)) (lk.trans (lk_Y hM_28 (by decide)) (lk.trans (lk_Y hM_27 (by decide)) (lk.trans (lk_Y hM_26 (by decide)) f_8)))))) (by decide) (by omega) (by omega) (by omega) (by show ((x_3.toInt.toNat : Nat) : Int) = _; omega) h3
          exact hQ _ _ _ _ _ hw (⟨iM_36, jj.1, jj.2.1, (((tY_nE hM_36 (nk (by decide))).trans ((tY_nE hM_34 (nk (by decide))).trans ((tY_nE hM_29 (nk (by decide))).trans ((tY_nE hM_28 (nk (by decide))).trans ((tY_nE hM_27 (nk (by decide))).trans ((tY_nE hM_26 (nk (by decide))).trans f_11))))))), jj.2.2⟩) dX10_leaves_134
      · refine lv_aload_n hx hb dX10_leaves_38 rfl (lv_at hl 3 rfl) ?_
        refine ti_get (ci := 10) (k := 39) (N := 67) (T := TX10) (v := .ref (A 60 40)) C hw iw_10 rfl ob_60 (by decide) (by decide) fl_X10_84 rfl rfl dX10_leaves_39 ?_
        refine lv_bipush (v := 8) hx hb dX10_leaves_42 (by decide) ?_
        refine lv_iload_n hx hb dX10_leaves_44 rfl (lv_at hl 4 rfl) ?_
        refine lv_imul hx hb dX10_leaves_45 ?_
        refine ti_top (y := 8) (by decide) ?_
        refine lv_iload hx hb dX10_leaves_46 (lv_at hl 0 rfl) ?_
        refine lv_iadd hx hb dX10_leaves_48 ?_
        refine lv_topi (fun x_19 ex_19 => ?_)
        have tx_19 : x_19.toInt = 8 + x_4.toInt := i_add ex_19 (by decide : (8 : Int32).toInt = 8) rfl (by omega) (by omega)
        refine lv_aload_n hx hb dX10_leaves_49 rfl (lv_at hl 3 rfl) ?_
        refine ti_get (ci := 10) (k := 39) (N := 67) (T := TX10) (v := .ref (A 60 40)) C hw iw_10 rfl ob_60 (by decide) (by decide) fl_X10_84 rfl rfl dX10_leaves_50 ?_
        refine lv_bipush (v := 8) hx hb dX10_leaves_53 (by decide) ?_
        refine lv_iload_n hx hb dX10_leaves_55 rfl (lv_at hl 4 rfl) ?_
        refine lv_imul hx hb dX10_leaves_56 ?_
        refine ti_top (y := 8) (by decide) ?_
        refine lv_iload hx hb dX10_leaves_57 (lv_at hl 0 rfl) ?_
        refine lv_iadd hx hb dX10_leaves_59 ?_
        refine lv_topi (fun x_20 ex_20 => ?_)
        have tx_20 : x_20.toInt = 8 + x_4.toInt := i_add ex_20 (by decide : (8 : Int32).toInt = 8) rfl (by omega) (by omega)
        refine lv_iconst (v := 1) hx hb dX10_leaves_60 (by decide) ?_
        refine lv_iadd hx hb dX10_leaves_61 ?_
        refine lv_topi (fun x_21 ex_21 => ?_)
        have tx_21 : x_21.toInt = x_20.toInt + 1 := i_add ex_21 rfl (by decide : (1 : Int32).toInt = 1) (by omega) (by omega)
        refine ti_iald (ci := 10) (k := 39) (n := 184) C hw ob_60 (by decide) (fun _ _ => rfl) (vp_in_iff.mpr (by omega)) dX10_leaves_62 ?_
        refine lv_topi (fun x_22 ex_22 => ?_)
        have yx_22 : tY M_7 60 39 x_21.toNatClampNeg = x_22 := (ex_22.symm)
        have bx_22 : 0 ≤ x_22.toInt ∧ x_22.toInt ≤ 7 := mI_ry (k := 39) (i := x_21.toNatClampNeg) iM_7 yx_22.symm
        refine ti_iast (ci := 10) (k := 39) (n := 184) C hw ob_60 (by decide) (fun _ _ => rfl) (vp_in_iff.mpr (by omega)) dX10_leaves_63 (fun H locs hw => ?_)
        obtain ⟨M_23, hM_23⟩ : ∃ z : ti_M, z = uY M_7 60 39 (upd (tY M_7 60 39) (x_19 : Int32).toNatClampNeg x_22) := ⟨_, rfl⟩
        have hw := hw.to hM_23.symm
        have iM_23 : mI Tm M_23 := mI_up (i := x_19.toNatClampNeg) iM_7 hM_23 (ib_mk (lo := 0) (hi := 7) (by omega) (by omega))
        obtain ⟨x_24, ex_24⟩ : ∃ z : Int32, z = x_4 + 1 := ⟨_, rfl⟩
        have tx_24 : x_24.toInt = x_4.toInt + 1 := i_add ex_24 rfl (by decide) (by omega) (by omega)
        refine lv_iinc (v := x_24) (lv' := [(7, .int x_24), (6, .int x_3), (5, .int x_2), (0, .ref (A 60 0)), (1, .int 1), (2, .int pl), (3, .int ho), (4, .int t)]) hx hb dX10_leaves_64 hl (k := 0) rfl (by rw [ex_24]; rfl) (by decide) rfl (fun ls hl => ?_)
        refine lv_goto (tgt := 25) hx hb dX10_leaves_67 (by decide) ?_
        exact ih_15 x_24 M_23 _ _ _ (by omega) (by first | omega | decide) (by first | omega | decide) iM_23 (lk.trans (lk_Y hM_23 (by decide)) f_8) (((tY_nE hM_23 (nk (by decide))).trans f_9)) (((tY_nE hM_23 (nk (by decide))).trans f_10)) (((tY_nE hM_23 (nk (by decide))).trans f_11)) (by first | omega | decide) (by first | omega | decide) (sh_s j_14 hM_23 (by show ((x_19.toInt.toNat : Nat) : Int) = _; omega) (by omega) yx_22 (by show (x_21).toInt.toNat = (x_19).toInt.toNat + 1; omega) (by omega)) hw (lv_sub hl [0, 1, 2, 3, 4, 5, 6, 7] rfl)
  exact hl_25_14 ((8 - pl.toInt : Int).toNat + 1) pl M _ _ _ (Nat.lt_succ_self _) (by first | omega | decide) (by first | omega | decide) hI lk.refl rfl rfl rfl (by first | omega | decide) (by first | omega | decide) (sh_0 (by omega)) hw (lv_sub hl [0, 1, 2, 3, 4, 5, 6, 7] rfl)
set_option maxHeartbeats 4000000 in
set_option maxRecDepth 100000 in
theorem s_X10_arrive_0 (l : Launch) (D : va_G) (A : Nat → Nat → Nat) (cy : Nat → ClassId) (hJ : ti_inj ti_LM A) (M : ti_M) (hI : mI Tm M) (hC : mC M 0) (t : Int32) : ti_Kv l yX10_arrive cX10_arrive 5 1 ti_LM D A cy M [.ref (A 60 0), .int 0, .int t] (fun M2 => mI Tm M2 ∧ rq 0 M2 M ∧ mC M2 0 ∧ tY M2 60 34 = tY M 60 34) := by
  refine ti_eV yp_X10_arrive hJ ti_LM_nd (Nat.le_of_ble_eq_true rfl) ?_
  intro p e s m args below meth c Q H0 C hQ hw ls hl
  have hx := C.1
  have hb := C.2.1
  have hl : lv_has ls 5 [(0, .ref (A 60 0)), (1, .int 0), (2, .int t)] := hl
  have hl_0_4 : ∀ (n_5 : Nat) (M_1 : ti_M) (H : Heap) (locs : List Loc) (ls : Array Slot), (((zc (tY M_1 60 40) 0 : Nat) : Int) : Int).toNat < n_5 → (mI Tm M_1) → (rq 0 M_1 M) → (mC M_1 0) → (tY M_1 60 34 = tY M 60 34) → ti_H ti_LM D A cy H0 M_1 H locs → lv_has ls 5 [(0, .ref (A 60 0)), (1, .int 0), (2, .int t)] → W p l e (ti_rm 1) s m args below meth c H locs 0 0 Q (F0 m 0 ls []) := by
    intro n_5
    induction n_5 with
    | zero => intro M_1 H locs ls hf_5; exact absurd hf_5 (Nat.not_lt_zero _)
    | succ n_5 ih_5 =>
      intro M_1 H locs ls hf_5 iM_1 f_2 f_3 f_4 hw hl
      refine lv_iconst (v := (-1)) hx hb dX10_arrive_0 (by decide) ?_
      refine lv_istore_n (lv' := [(3, .int (-1)), (0, .ref (A 60 0)), (1, .int 0), (2, .int t)]) hx hb dX10_arrive_1 rfl hl (by decide) rfl (fun ls hl => ?_)
      refine lv_iconst (v := 0) hx hb dX10_arrive_2 (by decide) ?_
      refine lv_istore (lv' := [(4, .int 0), (3, .int (-1)), (0, .ref (A 60 0)), (1, .int 0), (2, .int t)]) hx hb dX10_arrive_3 hl (by decide) rfl (fun ls hl => ?_)
      have hl_5_12 : ∀ (n_13 : Nat) (x_6 : Int32) (x_9 : Int32) (H : Heap) (locs : List Loc) (ls : Array Slot), (8 - x_6.toInt : Int).toNat < n_13 → (0 ≤ x_6.toInt) → (x_6.toInt ≤ 8) → ((-1) ≤ x_9.toInt) → (x_9.toInt ≤ 7) → (x_9.toInt = -1 ∨ ∀ i : Nat, (i : Int) = 0 + x_9.toInt → (tY M_1 60 40 i).toInt = 0) → ti_H ti_LM D A cy H0 M_1 H locs → lv_has ls 5 [(4, .int x_6), (3, .int x_9), (0, .ref (A 60 0)), (1, .int 0), (2, .int t)] → W p l e (ti_rm 1) s m args below meth c H locs 0 0 Q (F0 m 5 ls []) := by
        intro n_13
        induction n_13 with
        | zero => intro x_6 x_9 H locs ls hf_13; exact absurd hf_13 (Nat.not_lt_zero _)
        | succ n_13 ih_13 =>
          intro x_6 x_9 H locs ls hf_13 b_7 b_8 b_10 b_11 j_12 hw hl
          refine lv_iload hx hb dX10_arrive_5 (lv_at hl 0 rfl) ?_
          refine lv_aload_n hx hb dX10_arrive_7 rfl (lv_at hl 2 rfl) ?_
          refine ti_get (ci := 10) (k := 3) (N := 67) (T := TX10) (v := .ref (A 60 4)) C hw iw_10 rfl ob_60 (by decide) (by decide) fl_X10_13 rfl rfl dX10_arrive_8 ?_
          refine lv_iconst (v := 0) hx hb dX10_arrive_11 (by decide) ?_
          refine ti_iald (ci := 10) (k := 3) (n := 22) C hw ob_60 (by decide) (fun _ _ => rfl) (by unfold vp_in; decide) dX10_arrive_12 ?_
          refine lv_topi (fun x_14 ex_14 => ?_)
          have yx_14 : tY M_1 60 3 0 = x_14 := ((congrArg _ (by decide)).symm.trans ex_14.symm)
          have bx_14 : 0 ≤ x_14.toInt ∧ x_14.toInt ≤ 8 := mI_rn (i := 0) iM_1 yx_14.symm (fun _ h => h)
          have zx_14 : (tY M_1 60 3 0).toInt = x_14.toInt := by rw [yx_14]
          have wx_14 : tY M 60 3 0 = x_14 := ((cg (f_2.1 3 (by decide) (by decide)) 0)).symm.trans yx_14
          have zwx_14 : (tY M 60 3 0).toInt = x_14.toInt := by rw [wx_14]
          refine sb_icmp_ge (tgt := 112) hx hb rfl rfl dX10_arrive_13 (by decide) (fun c_13_14 => ?_) (fun c_13_14 => ?_)
          · refine lv_iload_n hx hb dX10_arrive_112 rfl (lv_at hl 1 rfl) ?_
            refine lv_iconst (v := (-1)) hx hb dX10_arrive_113 (by decide) ?_
            refine sb_icmp_ne (tgt := 118) hx hb rfl (by decide : ((-1) : Int32).toInt = (-1)) dX10_arrive_114 (by decide) (fun c_114_35 => ?_) (fun c_114_35 => ?_)
            · refine lv_aload_n hx hb dX10_arrive_118 rfl (lv_at hl 2 rfl) ?_
              refine lv_iload_n hx hb dX10_arrive_119 rfl (lv_at hl 3 rfl) ?_
              refine lv_iload_n hx hb dX10_arrive_120 rfl (lv_at hl 1 rfl) ?_
              refine lv_iload_n hx hb dX10_arrive_121 rfl (lv_at hl 4 rfl) ?_
              refine ti_callVv (ci := 10) (av := [.int 0, .int x_9, .int t]) C hw (s_X10_joins_0 l D A cy hJ M_1 iM_1 f_3 x_9 t (by first | omega | decide | (have l0 : (0 : Int32).toInt = 0 := (by decide); have l2 : (2 : Int32).toInt = 2 := (by decide); have l3 : (3 : Int32).toInt = 3 := (by decide); omega)) (by first | omega | decide | (have l0 : (0 : Int32).toInt = 0 := (by decide); have l2 : (2 : Int32).toInt = 2 := (by decide); have l3 : (3 : Int32).toInt = 3 := (by decide); omega)) (fun i hi => (j_12).elim (fun h => absurd h (by omega)) (fun h => h i hi))) ⟨ml_X10_359, ym_X10_joins, yv_X10_joins, yi_X10_joins, yc_X10_joins⟩ yd_X10_joins ob_60 (by decide) rfl rfl hl.1 (Nat.le_of_ble_eq_true rfl) ⟨by decide, by decide⟩ ⟨Nat.zero_le _, Nat.zero_le _⟩ dX10_arrive_122 (fun M_38 H locs hp_38 hw => ?_)
              obtain ⟨iM_38, q_39, q_40, q_41, q_42⟩ := hp_38
              refine lv_goto (tgt := 0) hx hb dX10_arrive_125 (by decide) ?_
              exact ih_5 M_38 _ _ _ (by omega) iM_38 (rq.trans q_39 f_2) q_40 (((q_41).trans f_4)) hw (lv_sub hl [2, 3, 4] rfl)
            · exact hQ _ _ _ _ _ hw (⟨iM_1, f_2, f_3, ((f_4))⟩) dX10_arrive_117
          · refine lv_aload_n hx hb dX10_arrive_16 rfl (lv_at hl 2 rfl) ?_
            refine ti_get (ci := 10) (k := 40) (N := 67) (T := TX10) (v := .ref (A 60 41)) C hw iw_10 rfl ob_60 (by decide) (by decide) fl_X10_87 rfl rfl dX10_arrive_17 ?_
            refine lv_bipush (v := 8) hx hb dX10_arrive_20 (by decide) ?_
            refine lv_iload_n hx hb dX10_arrive_22 rfl (lv_at hl 3 rfl) ?_
            refine lv_imul hx hb dX10_arrive_23 ?_
            refine ti_top (y := 0) (by decide) ?_
            refine lv_iload hx hb dX10_arrive_24 (lv_at hl 0 rfl) ?_
            refine lv_iadd hx hb dX10_arrive_26 ?_
            refine lv_topi (fun x_16 ex_16 => ?_)
            have tx_16 : x_16.toInt = 0 + x_6.toInt := i_add ex_16 (by decide : (0 : Int32).toInt = 0) rfl (by omega) (by omega)
            refine ti_iald (ci := 10) (k := 40) (n := 184) C hw ob_60 (by decide) (fun _ _ => rfl) (vp_in_iff.mpr (by omega)) dX10_arrive_27 ?_
            refine lv_topi (fun x_17 ex_17 => ?_)
            have yx_17 : tY M_1 60 40 x_16.toNatClampNeg = x_17 := (ex_17.symm)
            have zx_17 : (tY M_1 60 40 x_16.toNatClampNeg).toInt = x_17.toInt := by rw [yx_17]
            have hj_106_34 : ∀ (x_30 : Int32) (H : Heap) (locs : List Loc) (ls : Array Slot), ((-1) ≤ x_30.toInt) → (x_30.toInt ≤ 8) → (x_30.toInt = -1 ∨ ∀ i : Nat, (i : Int) = 0 + x_30.toInt → (tY M_1 60 40 i).toInt = 0) → (x_30.toInt ≤ 7) → ti_H ti_LM D A cy H0 M_1 H locs → lv_has ls 5 [(4, .int x_6), (3, .int x_30), (0, .ref (A 60 0)), (1, .int 0), (2, .int t)] → W p l e (ti_rm 1) s m args below meth c H locs 0 0 Q (F0 m 106 ls []) := by
              intro x_30 H locs ls b_31 b_32 j_33 j_34 hw hl
              obtain ⟨x_35, ex_35⟩ : ∃ z : Int32, z = x_6 + 1 := ⟨_, rfl⟩
              have tx_35 : x_35.toInt = x_6.toInt + 1 := i_add ex_35 rfl (by decide) (by omega) (by omega)
              refine lv_iinc (v := x_35) (lv' := [(4, .int x_35), (3, .int x_30), (0, .ref (A 60 0)), (1, .int 0), (2, .int t)]) hx hb dX10_arrive_106 hl (k := 0) rfl (by rw [ex_35]; rfl) (by decide) rfl (fun ls hl => ?_)
              refine lv_goto (tgt := 5) hx hb dX10_arrive_109 (by decide) ?_
              exact ih_13 x_35 x_30 _ _ _ (by omega) (by first | omega | decide) (by first | omega | decide) (by first | omega | decide) (by first | omega | decide) j_33 hw (lv_sub hl [0, 1, 2, 3, 4] rfl)
            refine sb_if_ne (tgt := 106) hx hb rfl dX10_arrive_28 (by decide) (fun c_28_17 => ?_) (fun c_28_17 => ?_)
            · exact hj_106_34 x_9 _ _ _ (by first | omega | decide) (by first | omega | decide) j_12 (by first | omega | decide) hw (lv_sub hl [0, 1, 2, 3, 4] rfl)
            · refine lv_aload_n hx hb dX10_arrive_31 rfl (lv_at hl 2 rfl) ?_
              refine ti_get (ci := 10) (k := 44) (N := 67) (T := TX10) (v := .ref (A 60 45)) C hw iw_10 rfl ob_60 (by decide) (by decide) fl_X10_99 rfl rfl dX10_arrive_32 ?_
              refine lv_bipush (v := 8) hx hb dX10_arrive_35 (by decide) ?_
              refine lv_iload_n hx hb dX10_arrive_37 rfl (lv_at hl 3 rfl) ?_
              refine lv_imul hx hb dX10_arrive_38 ?_
              refine ti_top (y := 0) (by decide) ?_
              refine lv_iload hx hb dX10_arrive_39 (lv_at hl 0 rfl) ?_
              refine lv_iadd hx hb dX10_arrive_41 ?_
              refine lv_topi (fun x_19 ex_19 => ?_)
              have tx_19 : x_19.toInt = 0 + x_6.toInt := i_add ex_19 (by decide : (0 : Int32).toInt = 0) rfl (by omega) (by omega)
              refine ti_iald (ci := 10) (k := 44) (n := 184) C hw ob_60 (by decide) (fun _ _ => rfl) (vp_in_iff.mpr (by omega)) dX10_arrive_42 ?_
              refine lv_topi (fun x_20 ex_20 => ?_)
              have yx_20 : tY M_1 60 44 x_19.toNatClampNeg = x_20 := (ex_20.symm)
              refine lv_iload_n hx hb dX10_arrive_43 rfl (lv_at hl 4 rfl) ?_
              refine sb_icmp_eq (tgt := 50) hx hb rfl rfl dX10_arrive_44 (by decide) (fun c_44_20 => ?_) (fun c_44_20 => ?_)
              · refine lv_iload_n hx hb dX10_arrive_50 rfl (lv_at hl 1 rfl) ?_
                refine lv_iconst (v := (-1)) hx hb dX10_arrive_51 (by decide) ?_
                have hj_103_29 : ∀  (H : Heap) (locs : List Loc) (ls : Array Slot), ti_H ti_LM D A cy H0 M_1 H locs → lv_has ls 5 [(4, .int x_6), (3, .int x_9), (0, .ref (A 60 0)), (1, .int 0), (2, .int t)] → W p l e (ti_rm 1) s m args below meth c H locs 0 0 Q (F0 m 103 ls []) := by
                  intro  H locs ls  hw hl
                  refine lv_iload hx hb dX10_arrive_103 (lv_at hl 0 rfl) ?_
                  refine lv_istore_n (lv' := [(3, .int x_6), (4, .int x_6), (0, .ref (A 60 0)), (1, .int 0), (2, .int t)]) hx hb dX10_arrive_105 rfl hl (by decide) rfl (fun ls hl => ?_)
                  exact hj_106_34 x_6 _ _ _ (by first | omega | decide) (by first | omega | decide) (Or.inr (fun i hi => by rw [show i = x_16.toNatClampNeg by (show i = (x_16).toInt.toNat; omega), yx_17]; omega)) (by first | omega | decide) hw (lv_sub hl [1, 0, 2, 3, 4] rfl)
                refine sb_icmp_eq (tgt := 103) hx hb rfl (by decide : ((-1) : Int32).toInt = (-1)) dX10_arrive_52 (by decide) (fun c_52_21 => ?_) (fun c_52_21 => ?_)
                · exact hj_103_29  _ _ _  hw (lv_sub hl [0, 1, 2, 3, 4] rfl)
                · refine lv_aload_n hx hb dX10_arrive_55 rfl (lv_at hl 2 rfl) ?_
                  refine ti_get (ci := 10) (k := 6) (N := 67) (T := TX10) (v := .ref (A 60 7)) C hw iw_10 rfl ob_60 (by decide) (by decide) fl_X10_22 rfl rfl dX10_arrive_56 ?_
                  refine lv_iload hx hb dX10_arrive_59 (lv_at hl 0 rfl) ?_
                  refine ti_iald (ci := 10) (k := 6) (n := 16) C hw ob_60 (by decide) (fun _ _ => rfl) (vp_in_iff.mpr (by omega)) dX10_arrive_61 ?_
                  refine lv_topi (fun x_23 ex_23 => ?_)
                  have yx_23 : tY M_1 60 6 x_6.toNatClampNeg = x_23 := (ex_23.symm)
                  have wx_23 : tY M 60 6 x_6.toNatClampNeg = x_23 := ((cg (f_2.1 6 (by decide) (by decide)) x_6.toNatClampNeg)).symm.trans yx_23
                  refine lv_aload_n hx hb dX10_arrive_62 rfl (lv_at hl 2 rfl) ?_
                  refine ti_get (ci := 10) (k := 6) (N := 67) (T := TX10) (v := .ref (A 60 7)) C hw iw_10 rfl ob_60 (by decide) (by decide) fl_X10_22 rfl rfl dX10_arrive_63 ?_
                  refine lv_iload_n hx hb dX10_arrive_66 rfl (lv_at hl 1 rfl) ?_
                  refine ti_iald (ci := 10) (k := 6) (n := 16) C hw ob_60 (by decide) (fun _ _ => rfl) (vp_in_iff.mpr (by omega)) dX10_arrive_67 ?_
                  refine lv_topi (fun x_24 ex_24 => ?_)
                  have yx_24 : tY M_1 60 6 x_9.toNatClampNeg = x_24 := (ex_24.symm)
                  have wx_24 : tY M 60 6 x_9.toNatClampNeg = x_24 := ((cg (f_2.1 6 (by decide) (by decide)) x_9.toNatClampNeg)).symm.trans yx_24
                  refine sb_icmp_lt (tgt := 103) hx hb rfl rfl dX10_arrive_68 (by decide) (fun c_68_24 => ?_) (fun c_68_24 => ?_)
                  · exact hj_103_29  _ _ _  hw (lv_sub hl [0, 1, 2, 3, 4] rfl)
                  · refine lv_aload_n hx hb dX10_arrive_71 rfl (lv_at hl 2 rfl) ?_
                    refine ti_get (ci := 10) (k := 6) (N := 67) (T := TX10) (v := .ref (A 60 7)) C hw iw_10 rfl ob_60 (by decide) (by decide) fl_X10_22 rfl rfl dX10_arrive_72 ?_
                    refine lv_iload hx hb dX10_arrive_75 (lv_at hl 0 rfl) ?_
                    refine ti_iald (ci := 10) (k := 6) (n := 16) C hw ob_60 (by decide) (fun _ _ => rfl) (vp_in_iff.mpr (by omega)) dX10_arrive_77 ?_
                    refine ti_top (y := x_23) (((cg (f_2.1 6 (by decide) (by decide)) x_6.toNatClampNeg).trans wx_23)) ?_
                    refine lv_aload_n hx hb dX10_arrive_78 rfl (lv_at hl 2 rfl) ?_
                    refine ti_get (ci := 10) (k := 6) (N := 67) (T := TX10) (v := .ref (A 60 7)) C hw iw_10 rfl ob_60 (by decide) (by decide) fl_X10_22 rfl rfl dX10_arrive_79 ?_
                    refine lv_iload_n hx hb dX10_arrive_82 rfl (lv_at hl 1 rfl) ?_
                    refine ti_iald (ci := 10) (k := 6) (n := 16) C hw ob_60 (by decide) (fun _ _ => rfl) (vp_in_iff.mpr (by omega)) dX10_arrive_83 ?_
                    refine ti_top (y := x_24) (((cg (f_2.1 6 (by decide) (by decide)) x_9.toNatClampNeg).trans wx_24)) ?_
                    refine sb_icmp_ne (tgt := 106) hx hb rfl rfl dX10_arrive_84 (by decide) (fun c_84_25 => ?_) (fun c_84_25 => ?_)
                    · exact hj_106_34 x_9 _ _ _ (by first | omega | decide) (by first | omega | decide) j_12 (by first | omega | decide) hw (lv_sub hl [0, 1, 2, 3, 4] rfl)
                    · refine lv_aload_n hx hb dX10_arrive_87 rfl (lv_at hl 2 rfl) ?_
                      refine ti_get (ci := 10) (k := 5) (N := 67) (T := TX10) (v := .ref (A 60 6)) C hw iw_10 rfl ob_60 (by decide) (by decide) fl_X10_19 rfl rfl dX10_arrive_88 ?_
                      refine lv_iload hx hb dX10_arrive_91 (lv_at hl 0 rfl) ?_
                      refine ti_iald (ci := 10) (k := 5) (n := 16) C hw ob_60 (by decide) (fun _ _ => rfl) (vp_in_iff.mpr (by omega)) dX10_arrive_93 ?_
                      refine lv_topi (fun x_27 ex_27 => ?_)
                      have yx_27 : tY M_1 60 5 x_6.toNatClampNeg = x_27 := (ex_27.symm)
                      have wx_27 : tY M 60 5 x_6.toNatClampNeg = x_27 := ((cg (f_2.1 5 (by decide) (by decide)) x_6.toNatClampNeg)).symm.trans yx_27
                      refine lv_aload_n hx hb dX10_arrive_94 rfl (lv_at hl 2 rfl) ?_
                      refine ti_get (ci := 10) (k := 5) (N := 67) (T := TX10) (v := .ref (A 60 6)) C hw iw_10 rfl ob_60 (by decide) (by decide) fl_X10_19 rfl rfl dX10_arrive_95 ?_
                      refine lv_iload_n hx hb dX10_arrive_98 rfl (lv_at hl 1 rfl) ?_
                      refine ti_iald (ci := 10) (k := 5) (n := 16) C hw ob_60 (by decide) (fun _ _ => rfl) (vp_in_iff.mpr (by omega)) dX10_arrive_99 ?_
                      refine lv_topi (fun x_28 ex_28 => ?_)
                      have yx_28 : tY M_1 60 5 x_9.toNatClampNeg = x_28 := (ex_28.symm)
                      have wx_28 : tY M 60 5 x_9.toNatClampNeg = x_28 := ((cg (f_2.1 5 (by decide) (by decide)) x_9.toNatClampNeg)).symm.trans yx_28
                      refine sb_icmp_le (tgt := 106) hx hb rfl rfl dX10_arrive_100 (by decide) (fun c_100_28 => ?_) (fun c_100_28 => ?_)
                      · exact hj_106_34 x_9 _ _ _ (by first | omega | decide) (by first | omega | decide) j_12 (by first | omega | decide) hw (lv_sub hl [0, 1, 2, 3, 4] rfl)
                      · exact hj_103_29  _ _ _  hw (lv_sub hl [0, 1, 2, 3, 4] rfl)
              · refine lv_goto (tgt := 106) hx hb dX10_arrive_47 (by decide) ?_
                exact hj_106_34 x_9 _ _ _ (by first | omega | decide) (by first | omega | decide) j_12 (by first | omega | decide) hw (lv_sub hl [0, 1, 2, 3, 4] rfl)
      exact hl_5_12 ((8 - 0 : Int).toNat + 1) 0 (-1) _ _ _ (Nat.lt_succ_self _) (by have lt0 : ((-1) : Int32).toInt = (-1) := (by decide); have lt1 : (0 : Int32).toInt = 0 := (by decide); first | omega | decide) (by have lt0 : ((-1) : Int32).toInt = (-1) := (by decide); have lt1 : (0 : Int32).toInt = 0 := (by decide); first | omega | decide) (by have lt0 : ((-1) : Int32).toInt = (-1) := (by decide); have lt1 : (0 : Int32).toInt = 0 := (by decide); first | omega | decide) (by have lt0 : ((-1) : Int32).toInt = (-1) := (by decide); have lt1 : (0 : Int32).toInt = 0 := (by decide); first | omega | decide) (Or.inl (by decide)) hw (lv_sub hl [0, 1, 2, 3, 4] rfl)
  exact hl_0_4 ((((zc (tY M 60 40) 0 : Nat) : Int) : Int).toNat + 1) M _ _ _ (Nat.lt_succ_self _) hI rq.refl hC rfl hw (lv_sub hl [0, 1, 2] rfl)
set_option maxHeartbeats 4000000 in
set_option maxRecDepth 100000 in
theorem s_X10_arrive_1 (l : Launch) (D : va_G) (A : Nat → Nat → Nat) (cy : Nat → ClassId) (hJ : ti_inj ti_LM A) (M : ti_M) (hI : mI Tm M) (hC : mC M 1) (t : Int32) : ti_Kv l yX10_arrive cX10_arrive 5 1 ti_LM D A cy M [.ref (A 60 0), .int 1, .int t] (fun M2 => mI Tm M2 ∧ rq 1 M2 M ∧ mC M2 1 ∧ tY M2 60 34 = tY M 60 34) := by
  refine ti_eV yp_X10_arrive hJ ti_LM_nd (Nat.le_of_ble_eq_true rfl) ?_
  intro p e s m args below meth c Q H0 C hQ hw ls hl
  have hx := C.1
  have hb := C.2.1
  have hl : lv_has ls 5 [(0, .ref (A 60 0)), (1, .int 1), (2, .int t)] := hl
  have hl_0_4 : ∀ (n_5 : Nat) (M_1 : ti_M) (H : Heap) (locs : List Loc) (ls : Array Slot), (((zc (tY M_1 60 40) 8 : Nat) : Int) : Int).toNat < n_5 → (mI Tm M_1) → (rq 1 M_1 M) → (mC M_1 1) → (tY M_1 60 34 = tY M 60 34) → ti_H ti_LM D A cy H0 M_1 H locs → lv_has ls 5 [(0, .ref (A 60 0)), (1, .int 1), (2, .int t)] → W p l e (ti_rm 1) s m args below meth c H locs 0 0 Q (F0 m 0 ls []) := by
    intro n_5
    induction n_5 with
    | zero => intro M_1 H locs ls hf_5; exact absurd hf_5 (Nat.not_lt_zero _)
    | succ n_5 ih_5 =>
      intro M_1 H locs ls hf_5 iM_1 f_2 f_3 f_4 hw hl
      refine lv_iconst (v := (-1)) hx hb dX10_arrive_0 (by decide) ?_
      refine lv_istore_n (lv' := [(3, .int (-1)), (0, .ref (A 60 0)), (1, .int 1), (2, .int t)]) hx hb dX10_arrive_1 rfl hl (by decide) rfl (fun ls hl => ?_)
      refine lv_iconst (v := 0) hx hb dX10_arrive_2 (by decide) ?_
      refine lv_istore (lv' := [(4, .int 0), (3, .int (-1)), (0, .ref (A 60 0)), (1, .int 1), (2, .int t)]) hx hb dX10_arrive_3 hl (by decide) rfl (fun ls hl => ?_)
      have hl_5_12 : ∀ (n_13 : Nat) (x_6 : Int32) (x_9 : Int32) (H : Heap) (locs : List Loc) (ls : Array Slot), (8 - x_6.toInt : Int).toNat < n_13 → (0 ≤ x_6.toInt) → (x_6.toInt ≤ 8) → ((-1) ≤ x_9.toInt) → (x_9.toInt ≤ 7) → (x_9.toInt = -1 ∨ ∀ i : Nat, (i : Int) = 8 + x_9.toInt → (tY M_1 60 40 i).toInt = 0) → ti_H ti_LM D A cy H0 M_1 H locs → lv_has ls 5 [(4, .int x_6), (3, .int x_9), (0, .ref (A 60 0)), (1, .int 1), (2, .int t)] → W p l e (ti_rm 1) s m args below meth c H locs 0 0 Q (F0 m 5 ls []) := by
        intro n_13
        induction n_13 with
        | zero => intro x_6 x_9 H locs ls hf_13; exact absurd hf_13 (Nat.not_lt_zero _)
        | succ n_13 ih_13 =>
          intro x_6 x_9 H locs ls hf_13 b_7 b_8 b_10 b_11 j_12 hw hl
          refine lv_iload hx hb dX10_arrive_5 (lv_at hl 0 rfl) ?_
          refine lv_aload_n hx hb dX10_arrive_7 rfl (lv_at hl 2 rfl) ?_
          refine ti_get (ci := 10) (k := 3) (N := 67) (T := TX10) (v := .ref (A 60 4)) C hw iw_10 rfl ob_60 (by decide) (by decide) fl_X10_13 rfl rfl dX10_arrive_8 ?_
          refine lv_iconst (v := 0) hx hb dX10_arrive_11 (by decide) ?_
          refine ti_iald (ci := 10) (k := 3) (n := 22) C hw ob_60 (by decide) (fun _ _ => rfl) (by unfold vp_in; decide) dX10_arrive_12 ?_
          refine lv_topi (fun x_14 ex_14 => ?_)
          have yx_14 : tY M_1 60 3 0 = x_14 := ((congrArg _ (by decide)).symm.trans ex_14.symm)
          have bx_14 : 0 ≤ x_14.toInt ∧ x_14.toInt ≤ 8 := mI_rn (i := 0) iM_1 yx_14.symm (fun _ h => h)
          have zx_14 : (tY M_1 60 3 0).toInt = x_14.toInt := by rw [yx_14]
          have wx_14 : tY M 60 3 0 = x_14 := ((cg (f_2.1 3 (by decide) (by decide)) 0)).symm.trans yx_14
          have zwx_14 : (tY M 60 3 0).toInt = x_14.toInt := by rw [wx_14]
          refine sb_icmp_ge (tgt := 112) hx hb rfl rfl dX10_arrive_13 (by decide) (fun c_13_14 => ?_) (fun c_13_14 => ?_)
          · refine lv_iload_n hx hb dX10_arrive_112 rfl (lv_at hl 1 rfl) ?_
            refine lv_iconst (v := (-1)) hx hb dX10_arrive_113 (by decide) ?_
            refine sb_icmp_ne (tgt := 118) hx hb rfl (by decide : ((-1) : Int32).toInt = (-1)) dX10_arrive_114 (by decide) (fun c_114_35 => ?_) (fun c_114_35 => ?_)
            · refine lv_aload_n hx hb dX10_arrive_118 rfl (lv_at hl 2 rfl) ?_
              refine lv_iload_n hx hb dX10_arrive_119 rfl (lv_at hl 3 rfl) ?_
              refine lv_iload_n hx hb dX10_arrive_120 rfl (lv_at hl 1 rfl) ?_
              refine lv_iload_n hx hb dX10_arrive_121 rfl (lv_at hl 4 rfl) ?_
              refine ti_callVv (ci := 10) (av := [.int 1, .int x_9, .int t]) C hw (s_X10_joins_1 l D A cy hJ M_1 iM_1 f_3 x_9 t (by first | omega | decide | (have l0 : (0 : Int32).toInt = 0 := (by decide); have l2 : (2 : Int32).toInt = 2 := (by decide); have l3 : (3 : Int32).toInt = 3 := (by decide); omega)) (by first | omega | decide | (have l0 : (0 : Int32).toInt = 0 := (by decide); have l2 : (2 : Int32).toInt = 2 := (by decide); have l3 : (3 : Int32).toInt = 3 := (by decide); omega)) (fun i hi => (j_12).elim (fun h => absurd h (by omega)) (fun h => h i hi))) ⟨ml_X10_359, ym_X10_joins, yv_X10_joins, yi_X10_joins, yc_X10_joins⟩ yd_X10_joins ob_60 (by decide) rfl rfl hl.1 (Nat.le_of_ble_eq_true rfl) ⟨by decide, by decide⟩ ⟨Nat.zero_le _, Nat.zero_le _⟩ dX10_arrive_122 (fun M_38 H locs hp_38 hw => ?_)
              obtain ⟨iM_38, q_39, q_40, q_41, q_42⟩ := hp_38
              refine lv_goto (tgt := 0) hx hb dX10_arrive_125 (by decide) ?_
              exact ih_5 M_38 _ _ _ (by omega) iM_38 (rq.trans q_39 f_2) q_40 (((q_41).trans f_4)) hw (lv_sub hl [2, 3, 4] rfl)
            · exact hQ _ _ _ _ _ hw (⟨iM_1, f_2, f_3, ((f_4))⟩) dX10_arrive_117
          · refine lv_aload_n hx hb dX10_arrive_16 rfl (lv_at hl 2 rfl) ?_
            refine ti_get (ci := 10) (k := 40) (N := 67) (T := TX10) (v := .ref (A 60 41)) C hw iw_10 rfl ob_60 (by decide) (by decide) fl_X10_87 rfl rfl dX10_arrive_17 ?_
            refine lv_bipush (v := 8) hx hb dX10_arrive_20 (by decide) ?_
            refine lv_iload_n hx hb dX10_arrive_22 rfl (lv_at hl 3 rfl) ?_
            refine lv_imul hx hb dX10_arrive_23 ?_
            refine ti_top (y := 8) (by decide) ?_
            refine lv_iload hx hb dX10_arrive_24 (lv_at hl 0 rfl) ?_
            refine lv_iadd hx hb dX10_arrive_26 ?_
            refine lv_topi (fun x_16 ex_16 => ?_)
            have tx_16 : x_16.toInt = 8 + x_6.toInt := i_add ex_16 (by decide : (8 : Int32).toInt = 8) rfl (by omega) (by omega)
            refine ti_iald (ci := 10) (k := 40) (n := 184) C hw ob_60 (by decide) (fun _ _ => rfl) (vp_in_iff.mpr (by omega)) dX10_arrive_27 ?_
            refine lv_topi (fun x_17 ex_17 => ?_)
            have yx_17 : tY M_1 60 40 x_16.toNatClampNeg = x_17 := (ex_17.symm)
            have zx_17 : (tY M_1 60 40 x_16.toNatClampNeg).toInt = x_17.toInt := by rw [yx_17]
            have hj_106_34 : ∀ (x_30 : Int32) (H : Heap) (locs : List Loc) (ls : Array Slot), ((-1) ≤ x_30.toInt) → (x_30.toInt ≤ 8) → (x_30.toInt = -1 ∨ ∀ i : Nat, (i : Int) = 8 + x_30.toInt → (tY M_1 60 40 i).toInt = 0) → (x_30.toInt ≤ 7) → ti_H ti_LM D A cy H0 M_1 H locs → lv_has ls 5 [(4, .int x_6), (3, .int x_30), (0, .ref (A 60 0)), (1, .int 1), (2, .int t)] → W p l e (ti_rm 1) s m args below meth c H locs 0 0 Q (F0 m 106 ls []) := by
              intro x_30 H locs ls b_31 b_32 j_33 j_34 hw hl
              obtain ⟨x_35, ex_35⟩ : ∃ z : Int32, z = x_6 + 1 := ⟨_, rfl⟩
              have tx_35 : x_35.toInt = x_6.toInt + 1 := i_add ex_35 rfl (by decide) (by omega) (by omega)
              refine lv_iinc (v := x_35) (lv' := [(4, .int x_35), (3, .int x_30), (0, .ref (A 60 0)), (1, .int 1), (2, .int t)]) hx hb dX10_arrive_106 hl (k := 0) rfl (by rw [ex_35]; rfl) (by decide) rfl (fun ls hl => ?_)
              refine lv_goto (tgt := 5) hx hb dX10_arrive_109 (by decide) ?_
              exact ih_13 x_35 x_30 _ _ _ (by omega) (by first | omega | decide) (by first | omega | decide) (by first | omega | decide) (by first | omega | decide) j_33 hw (lv_sub hl [0, 1, 2, 3, 4] rfl)
            refine sb_if_ne (tgt := 106) hx hb rfl dX10_arrive_28 (by decide) (fun c_28_17 => ?_) (fun c_28_17 => ?_)
            · exact hj_106_34 x_9 _ _ _ (by first | omega | decide) (by first | omega | decide) j_12 (by first | omega | decide) hw (lv_sub hl [0, 1, 2, 3, 4] rfl)
            · refine lv_aload_n hx hb dX10_arrive_31 rfl (lv_at hl 2 rfl) ?_
              refine ti_get (ci := 10) (k := 44) (N := 67) (T := TX10) (v := .ref (A 60 45)) C hw iw_10 rfl ob_60 (by decide) (by decide) fl_X10_99 rfl rfl dX10_arrive_32 ?_
              refine lv_bipush (v := 8) hx hb dX10_arrive_35 (by decide) ?_
              refine lv_iload_n hx hb dX10_arrive_37 rfl (lv_at hl 3 rfl) ?_
              refine lv_imul hx hb dX10_arrive_38 ?_
              refine ti_top (y := 8) (by decide) ?_
              refine lv_iload hx hb dX10_arrive_39 (lv_at hl 0 rfl) ?_
              refine lv_iadd hx hb dX10_arrive_41 ?_
              refine lv_topi (fun x_19 ex_19 => ?_)
              have tx_19 : x_19.toInt = 8 + x_6.toInt := i_add ex_19 (by decide : (8 : Int32).toInt = 8) rfl (by omega) (by omega)
              refine ti_iald (ci := 10) (k := 44) (n := 184) C hw ob_60 (by decide) (fun _ _ => rfl) (vp_in_iff.mpr (by omega)) dX10_arrive_42 ?_
              refine lv_topi (fun x_20 ex_20 => ?_)
              have yx_20 : tY M_1 60 44 x_19.toNatClampNeg = x_20 := (ex_20.symm)
              refine lv_iload_n hx hb dX10_arrive_43 rfl (lv_at hl 4 rfl) ?_
              refine sb_icmp_eq (tgt := 50) hx hb rfl rfl dX10_arrive_44 (by decide) (fun c_44_20 => ?_) (fun c_44_20 => ?_)
              · refine lv_iload_n hx hb dX10_arrive_50 rfl (lv_at hl 1 rfl) ?_
                refine lv_iconst (v := (-1)) hx hb dX10_arrive_51 (by decide) ?_
                have hj_103_29 : ∀  (H : Heap) (locs : List Loc) (ls : Array Slot), ti_H ti_LM D A cy H0 M_1 H locs → lv_has ls 5 [(4, .int x_6), (3, .int x_9), (0, .ref (A 60 0)), (1, .int 1), (2, .int t)] → W p l e (ti_rm 1) s m args below meth c H locs 0 0 Q (F0 m 103 ls []) := by
                  intro  H locs ls  hw hl
                  refine lv_iload hx hb dX10_arrive_103 (lv_at hl 0 rfl) ?_
                  refine lv_istore_n (lv' := [(3, .int x_6), (4, .int x_6), (0, .ref (A 60 0)), (1, .int 1), (2, .int t)]) hx hb dX10_arrive_105 rfl hl (by decide) rfl (fun ls hl => ?_)
                  exact hj_106_34 x_6 _ _ _ (by first | omega | decide) (by first | omega | decide) (Or.inr (fun i hi => by rw [show i = x_16.toNatClampNeg by (show i = (x_16).toInt.toNat; omega), yx_17]; omega)) (by first | omega | decide) hw (lv_sub hl [1, 0, 2, 3, 4] rfl)
                refine sb_icmp_eq (tgt := 103) hx hb rfl (by decide : ((-1) : Int32).toInt = (-1)) dX10_arrive_52 (by decide) (fun c_52_21 => ?_) (fun c_52_21 => ?_)
                · exact hj_103_29  _ _ _  hw (lv_sub hl [0, 1, 2, 3, 4] rfl)
                · refine lv_aload_n hx hb dX10_arrive_55 rfl (lv_at hl 2 rfl) ?_
                  refine ti_get (ci := 10) (k := 6) (N := 67) (T := TX10) (v := .ref (A 60 7)) C hw iw_10 rfl ob_60 (by decide) (by decide) fl_X10_22 rfl rfl dX10_arrive_56 ?_
                  refine lv_iload hx hb dX10_arrive_59 (lv_at hl 0 rfl) ?_
                  refine ti_iald (ci := 10) (k := 6) (n := 16) C hw ob_60 (by decide) (fun _ _ => rfl) (vp_in_iff.mpr (by omega)) dX10_arrive_61 ?_
                  refine lv_topi (fun x_23 ex_23 => ?_)
                  have yx_23 : tY M_1 60 6 x_6.toNatClampNeg = x_23 := (ex_23.symm)
                  have wx_23 : tY M 60 6 x_6.toNatClampNeg = x_23 := ((cg (f_2.1 6 (by decide) (by decide)) x_6.toNatClampNeg)).symm.trans yx_23
                  refine lv_aload_n hx hb dX10_arrive_62 rfl (lv_at hl 2 rfl) ?_
                  refine ti_get (ci := 10) (k := 6) (N := 67) (T := TX10) (v := .ref (A 60 7)) C hw iw_10 rfl ob_60 (by decide) (by decide) fl_X10_22 rfl rfl dX10_arrive_63 ?_
                  refine lv_iload_n hx hb dX10_arrive_66 rfl (lv_at hl 1 rfl) ?_
                  refine ti_iald (ci := 10) (k := 6) (n := 16) C hw ob_60 (by decide) (fun _ _ => rfl) (vp_in_iff.mpr (by omega)) dX10_arrive_67 ?_
                  refine lv_topi (fun x_24 ex_24 => ?_)
                  have yx_24 : tY M_1 60 6 x_9.toNatClampNeg = x_24 := (ex_24.symm)
                  have wx_24 : tY M 60 6 x_9.toNatClampNeg = x_24 := ((cg (f_2.1 6 (by decide) (by decide)) x_9.toNatClampNeg)).symm.trans yx_24
                  refine sb_icmp_lt (tgt := 103) hx hb rfl rfl dX10_arrive_68 (by decide) (fun c_68_24 => ?_) (fun c_68_24 => ?_)
                  · exact hj_103_29  _ _ _  hw (lv_sub hl [0, 1, 2, 3, 4] rfl)
                  · refine lv_aload_n hx hb dX10_arrive_71 rfl (lv_at hl 2 rfl) ?_
                    refine ti_get (ci := 10) (k := 6) (N := 67) (T := TX10) (v := .ref (A 60 7)) C hw iw_10 rfl ob_60 (by decide) (by decide) fl_X10_22 rfl rfl dX10_arrive_72 ?_
                    refine lv_iload hx hb dX10_arrive_75 (lv_at hl 0 rfl) ?_
                    refine ti_iald (ci := 10) (k := 6) (n := 16) C hw ob_60 (by decide) (fun _ _ => rfl) (vp_in_iff.mpr (by omega)) dX10_arrive_77 ?_
                    refine ti_top (y := x_23) (((cg (f_2.1 6 (by decide) (by decide)) x_6.toNatClampNeg).trans wx_23)) ?_
                    refine lv_aload_n hx hb dX10_arrive_78 rfl (lv_at hl 2 rfl) ?_
                    refine ti_get (ci := 10) (k := 6) (N := 67) (T := TX10) (v := .ref (A 60 7)) C hw iw_10 rfl ob_60 (by decide) (by decide) fl_X10_22 rfl rfl dX10_arrive_79 ?_
                    refine lv_iload_n hx hb dX10_arrive_82 rfl (lv_at hl 1 rfl) ?_
                    refine ti_iald (ci := 10) (k := 6) (n := 16) C hw ob_60 (by decide) (fun _ _ => rfl) (vp_in_iff.mpr (by omega)) dX10_arrive_83 ?_
                    refine ti_top (y := x_24) (((cg (f_2.1 6 (by decide) (by decide)) x_9.toNatClampNeg).trans wx_24)) ?_
                    refine sb_icmp_ne (tgt := 106) hx hb rfl rfl dX10_arrive_84 (by decide) (fun c_84_25 => ?_) (fun c_84_25 => ?_)
                    · exact hj_106_34 x_9 _ _ _ (by first | omega | decide) (by first | omega | decide) j_12 (by first | omega | decide) hw (lv_sub hl [0, 1, 2, 3, 4] rfl)
                    · refine lv_aload_n hx hb dX10_arrive_87 rfl (lv_at hl 2 rfl) ?_
                      refine ti_get (ci := 10) (k := 5) (N := 67) (T := TX10) (v := .ref (A 60 6)) C hw iw_10 rfl ob_60 (by decide) (by decide) fl_X10_19 rfl rfl dX10_arrive_88 ?_
                      refine lv_iload hx hb dX10_arrive_91 (lv_at hl 0 rfl) ?_
                      refine ti_iald (ci := 10) (k := 5) (n := 16) C hw ob_60 (by decide) (fun _ _ => rfl) (vp_in_iff.mpr (by omega)) dX10_arrive_93 ?_
                      refine lv_topi (fun x_27 ex_27 => ?_)
                      have yx_27 : tY M_1 60 5 x_6.toNatClampNeg = x_27 := (ex_27.symm)
                      have wx_27 : tY M 60 5 x_6.toNatClampNeg = x_27 := ((cg (f_2.1 5 (by decide) (by decide)) x_6.toNatClampNeg)).symm.trans yx_27
                      refine lv_aload_n hx hb dX10_arrive_94 rfl (lv_at hl 2 rfl) ?_
                      refine ti_get (ci := 10) (k := 5) (N := 67) (T := TX10) (v := .ref (A 60 6)) C hw iw_10 rfl ob_60 (by decide) (by decide) fl_X10_19 rfl rfl dX10_arrive_95 ?_
                      refine lv_iload_n hx hb dX10_arrive_98 rfl (lv_at hl 1 rfl) ?_
                      refine ti_iald (ci := 10) (k := 5) (n := 16) C hw ob_60 (by decide) (fun _ _ => rfl) (vp_in_iff.mpr (by omega)) dX10_arrive_99 ?_
                      refine lv_topi (fun x_28 ex_28 => ?_)
                      have yx_28 : tY M_1 60 5 x_9.toNatClampNeg = x_28 := (ex_28.symm)
                      have wx_28 : tY M 60 5 x_9.toNatClampNeg = x_28 := ((cg (f_2.1 5 (by decide) (by decide)) x_9.toNatClampNeg)).symm.trans yx_28
                      refine sb_icmp_le (tgt := 106) hx hb rfl rfl dX10_arrive_100 (by decide) (fun c_100_28 => ?_) (fun c_100_28 => ?_)
                      · exact hj_106_34 x_9 _ _ _ (by first | omega | decide) (by first | omega | decide) j_12 (by first | omega | decide) hw (lv_sub hl [0, 1, 2, 3, 4] rfl)
                      · exact hj_103_29  _ _ _  hw (lv_sub hl [0, 1, 2, 3, 4] rfl)
              · refine lv_goto (tgt := 106) hx hb dX10_arrive_47 (by decide) ?_
                exact hj_106_34 x_9 _ _ _ (by first | omega | decide) (by first | omega | decide) j_12 (by first | omega | decide) hw (lv_sub hl [0, 1, 2, 3, 4] rfl)
      exact hl_5_12 ((8 - 0 : Int).toNat + 1) 0 (-1) _ _ _ (Nat.lt_succ_self _) (by have lt0 : ((-1) : Int32).toInt = (-1) := (by decide); have lt1 : (0 : Int32).toInt = 0 := (by decide); first | omega | decide) (by have lt0 : ((-1) : Int32).toInt = (-1) := (by decide); have lt1 : (0 : Int32).toInt = 0 := (by decide); first | omega | decide) (by have lt0 : ((-1) : Int32).toInt = (-1) := (by decide); have lt1 : (0 : Int32).toInt = 0 := (by decide); first | omega | decide) (by have lt0 : ((-1) : Int32).toInt = (-1) := (by decide); have lt1 : (0 : Int32).toInt = 0 := (by decide); first | omega | decide) (Or.inl (by decide)) hw (lv_sub hl [0, 1, 2, 3, 4] rfl)
  exact hl_0_4 ((((zc (tY M 60 40) 8 : Nat) : Int) : Int).toNat + 1) M _ _ _ (Nat.lt_succ_self _) hI rq.refl hC rfl hw (lv_sub hl [0, 1, 2] rfl)
set_option maxHeartbeats 4000000 in
set_option maxRecDepth 100000 in
theorem s_X10_coughing_0 (l : Launch) (D : va_G) (A : Nat → Nat → Nat) (cy : Nat → ClassId) (hJ : ti_inj ti_LM A) (M : ti_M) (hI : mI Tm M) (hC : mC M 0) (hL : mL M) (t : Int32) : ti_Kv l yX10_coughing cX10_coughing 5 5 ti_LM D A cy M [.ref (A 60 0), .int 0, .int t] (fun M2 => mI Tm M2 ∧ rq 0 M2 M ∧ mC M2 0 ∧ tY M2 60 34 = tY M 60 34) := by
  refine ti_eV yp_X10_coughing hJ ti_LM_nd (Nat.le_of_ble_eq_true rfl) ?_
  intro p e s m args below meth c Q H0 C hQ hw ls hl
  have hx := C.1
  have hb := C.2.1
  have hl : lv_has ls 5 [(0, .ref (A 60 0)), (1, .int 0), (2, .int t)] := hl
  refine lv_iconst (v := 0) hx hb dX10_coughing_0 (by decide) ?_
  refine lv_istore_n (lv' := [(3, .int 0), (0, .ref (A 60 0)), (1, .int 0), (2, .int t)]) hx hb dX10_coughing_1 rfl hl (by decide) rfl (fun ls hl => ?_)
  refine lv_iconst (v := 1) hx hb dX10_coughing_2 (by decide) ?_
  refine lv_istore (lv' := [(4, .int 1), (3, .int 0), (0, .ref (A 60 0)), (1, .int 0), (2, .int t)]) hx hb dX10_coughing_3 hl (by decide) rfl (fun ls hl => ?_)
  have hl_5_4 : ∀ (n_5 : Nat) (x_1 : Int32) (x_4 : Int32) (H : Heap) (locs : List Loc) (ls : Array Slot), (8 - x_1.toInt : Int).toNat < n_5 → (1 ≤ x_1.toInt) → (x_1.toInt ≤ 8) → ti_H ti_LM D A cy H0 M H locs → lv_has ls 5 [(4, .int x_1), (3, .int x_4), (0, .ref (A 60 0)), (1, .int 0), (2, .int t)] → W p l e (ti_rm 5) s m args below meth c H locs 0 0 Q (F0 m 5 ls []) := by
    intro n_5
    induction n_5 with
    | zero => intro x_1 x_4 H locs ls hf_5; exact absurd hf_5 (Nat.not_lt_zero _)
    | succ n_5 ih_5 =>
      intro x_1 x_4 H locs ls hf_5 b_2 b_3 hw hl
      refine lv_iload hx hb dX10_coughing_5 (lv_at hl 0 rfl) ?_
      refine lv_aload_n hx hb dX10_coughing_7 rfl (lv_at hl 2 rfl) ?_
      refine ti_get (ci := 10) (k := 38) (N := 67) (T := TX10) (v := .ref (A 60 39)) C hw iw_10 rfl ob_60 (by decide) (by decide) fl_X10_81 rfl rfl dX10_coughing_8 ?_
      refine lv_iload_n hx hb dX10_coughing_11 rfl (lv_at hl 3 rfl) ?_
      refine ti_iald (ci := 10) (k := 38) (n := 23) C hw ob_60 (by decide) (fun _ _ => rfl) (by unfold vp_in; decide) dX10_coughing_12 ?_
      refine lv_topi (fun x_6 ex_6 => ?_)
      have yx_6 : tY M 60 38 0 = x_6 := ((congrArg _ (by decide)).symm.trans ex_6.symm)
      have bx_6 : 0 ≤ x_6.toInt ∧ x_6.toInt ≤ 8 := mI_ry (k := 38) (i := 0) hI yx_6.symm
      have zx_6 : (tY M 60 38 0).toInt = x_6.toInt := by rw [yx_6]
      have hj_57_16 : ∀  (H : Heap) (locs : List Loc) (ls : Array Slot), ti_H ti_LM D A cy H0 M H locs → lv_has ls 5 [(4, .int x_1), (3, .int x_4), (0, .ref (A 60 0)), (1, .int 0), (2, .int t)] → W p l e (ti_rm 5) s m args below meth c H locs 0 0 Q (F0 m 57 ls []) := by
        intro  H locs ls  hw hl
        refine lv_aload_n hx hb dX10_coughing_57 rfl (lv_at hl 2 rfl) ?_
        refine ti_get (ci := 10) (k := 38) (N := 67) (T := TX10) (v := .ref (A 60 39)) C hw iw_10 rfl ob_60 (by decide) (by decide) fl_X10_81 rfl rfl dX10_coughing_58 ?_
        refine lv_iload_n hx hb dX10_coughing_61 rfl (lv_at hl 3 rfl) ?_
        refine ti_iald (ci := 10) (k := 38) (n := 23) C hw ob_60 (by decide) (fun _ _ => rfl) (by unfold vp_in; decide) dX10_coughing_62 ?_
        refine ti_top (y := x_6) ((congrArg _ (by decide)).trans (yx_6)) ?_
        have hj_96_36 : ∀ (M_33 : ti_M) (H : Heap) (locs : List Loc) (ls : Array Slot), (mI Tm M_33) → (rq 0 M_33 M) → (mC M_33 0) → (tY M_33 60 34 = tY M 60 34) → ti_H ti_LM D A cy H0 M_33 H locs → lv_has ls 5 [(4, .int x_1), (3, .int x_4), (0, .ref (A 60 0)), (1, .int 0), (2, .int t)] → W p l e (ti_rm 5) s m args below meth c H locs 0 0 Q (F0 m 96 ls []) := by
          intro M_33 H locs ls iM_33 f_34 f_35 f_36 hw hl
          refine lv_aload_n hx hb dX10_coughing_96 rfl (lv_at hl 2 rfl) ?_
          refine ti_get (ci := 10) (k := 37) (N := 67) (T := TX10) (v := .ref (A 60 38)) C hw iw_10 rfl ob_60 (by decide) (by decide) fl_X10_78 rfl rfl dX10_coughing_97 ?_
          refine lv_iload_n hx hb dX10_coughing_100 rfl (lv_at hl 3 rfl) ?_
          refine lv_iconst (v := 0) hx hb dX10_coughing_101 (by decide) ?_
          refine ti_iast (ci := 10) (k := 37) (n := 23) C hw ob_60 (by decide) (fun _ _ => rfl) (by unfold vp_in; decide) dX10_coughing_102 (fun H locs hw => ?_)
          obtain ⟨M_37, hM_37⟩ : ∃ z : ti_M, z = uY M_33 60 37 (upd (tY M_33 60 37) (0 : Int32).toNatClampNeg 0) := ⟨_, rfl⟩
          have hw := hw.to hM_37.symm
          have iM_37 : mI Tm M_37 := mI_up (i := 0) iM_33 hM_37 trivial
          exact hQ _ _ _ _ _ hw (⟨iM_37, (rq.trans (rq_qw (qw_Y hM_37 (by decide))) f_34), (mC_qw (qw_Y hM_37 (by decide)) f_35), (((tY_nE hM_37 (nk (by decide))).trans f_36))⟩) dX10_coughing_103
        refine sb_if_le (tgt := 96) hx hb rfl dX10_coughing_63 (by decide) (fun c_63_16 => ?_) (fun c_63_16 => ?_)
        · exact hj_96_36 M _ _ _ hI rq.refl hC rfl hw (lv_sub hl [0, 1, 2, 3, 4] rfl)
        · refine lv_iload_n hx hb dX10_coughing_66 rfl (lv_at hl 1 rfl) ?_
          refine sb_if_le (tgt := 96) hx hb rfl dX10_coughing_67 (by decide) (fun c_67_17 => ?_) (fun c_67_17 => ?_)
          · exact hj_96_36 M _ _ _ hI rq.refl hC rfl hw (lv_sub hl [0, 1, 2, 3, 4] rfl)
          · refine lv_iload_n hx hb dX10_coughing_70 rfl (lv_at hl 1 rfl) ?_
            refine lv_aload_n hx hb dX10_coughing_71 rfl (lv_at hl 2 rfl) ?_
            refine lv_iload_n hx hb dX10_coughing_72 rfl (lv_at hl 3 rfl) ?_
            refine lv_iload_n hx hb dX10_coughing_73 rfl (lv_at hl 4 rfl) ?_
            refine ti_callVi (ci := 10) (av := [.int 0, .int t]) C hw (s_X10_needOf_0 l D A cy hJ M hI hL t) ⟨ml_X10_371, ym_X10_needOf, yv_X10_needOf, yi_X10_needOf, yc_X10_needOf⟩ yd_X10_needOf ob_60 (by decide) rfl rfl hl.1 (Nat.le_of_ble_eq_true rfl) ⟨by decide, by decide⟩ ⟨Nat.zero_le _, Nat.zero_le _⟩ dX10_coughing_74 (fun r_19 M_20 H locs hp_20 hw => ?_)
            obtain ⟨iM_20, q_21, q_22⟩ := hp_20
            refine sb_icmp_lt (tgt := 96) hx hb rfl rfl dX10_coughing_77 (by decide) (fun c_77_22 => ?_) (fun c_77_22 => ?_)
            · exact hj_96_36 M_20 _ _ _ iM_20 (rq_qw q_21) (mC_qw q_21 hC) ((tY_fr q_22)) hw (lv_sub hl [0, 1, 2, 3, 4] rfl)
            · refine lv_aload_n hx hb dX10_coughing_80 rfl (lv_at hl 2 rfl) ?_
              refine lv_iload_n hx hb dX10_coughing_81 rfl (lv_at hl 3 rfl) ?_
              refine ti_callVi (ci := 10) (av := [.int 0]) C hw (s_X10_isGuarded_0 l D A cy hJ M_20 iM_20 ) ⟨ml_X10_374, ym_X10_isGuarded, yv_X10_isGuarded, yi_X10_isGuarded, yc_X10_isGuarded⟩ yd_X10_isGuarded ob_60 (by decide) rfl rfl hl.1 (Nat.le_of_ble_eq_true rfl) ⟨by decide, by decide⟩ ⟨Nat.zero_le _, Nat.zero_le _⟩ dX10_coughing_82 (fun r_24 M_25 H locs hp_25 hw => ?_)
              obtain ⟨hm, b0r_24, b1r_24⟩ := hp_25
              have hw := hw.to hm
              refine sb_if_ne (tgt := 96) hx hb rfl dX10_coughing_85 (by decide) (fun c_85_25 => ?_) (fun c_85_25 => ?_)
              · exact hj_96_36 M_20 _ _ _ iM_20 (rq_qw q_21) (mC_qw q_21 hC) ((tY_fr q_22)) hw (lv_sub hl [0, 1, 2, 3, 4] rfl)
              · refine lv_aload_n hx hb dX10_coughing_88 rfl (lv_at hl 2 rfl) ?_
                refine lv_iload_n hx hb dX10_coughing_89 rfl (lv_at hl 3 rfl) ?_
                refine lv_iconst (v := 0) hx hb dX10_coughing_90 (by decide) ?_
                refine lv_iconst (v := 3) hx hb dX10_coughing_91 (by decide) ?_
                refine lv_iload_n hx hb dX10_coughing_92 rfl (lv_at hl 4 rfl) ?_
                have lk_29 : (tY M_20 60 38 0).toInt = (tY M 60 38 0).toInt := by rw [(cg (tY_fr q_22) 0)]
                refine ti_callVv (ci := 10) (av := [.int 0, .int 0, .int 3, .int t]) C hw (s_X10_leaves_0 l D A cy hJ M_20 iM_20 (mC_qw q_21 hC) 0 3 t (by first | omega | decide | (have l0 : (0 : Int32).toInt = 0 := (by decide); have l2 : (2 : Int32).toInt = 2 := (by decide); have l3 : (3 : Int32).toInt = 3 := (by decide); omega)) (by first | omega | decide | (have l0 : (0 : Int32).toInt = 0 := (by decide); have l2 : (2 : Int32).toInt = 2 := (by decide); have l3 : (3 : Int32).toInt = 3 := (by decide); omega)) (by first | omega | decide | (have l0 : (0 : Int32).toInt = 0 := (by decide); have l2 : (2 : Int32).toInt = 2 := (by decide); have l3 : (3 : Int32).toInt = 3 := (by decide); omega))) ⟨ml_X10_377, ym_X10_leaves, yv_X10_leaves, yi_X10_leaves, yc_X10_leaves⟩ yd_X10_leaves ob_60 (by decide) rfl rfl hl.1 (Nat.le_of_ble_eq_true rfl) ⟨by decide, by decide⟩ ⟨Nat.zero_le _, Nat.zero_le _⟩ dX10_coughing_93 (fun M_28 H locs hp_28 hw => ?_)
                obtain ⟨iM_28, q_30, q_31, q_32, p0r_27⟩ := hp_28
                exact hj_96_36 M_28 _ _ _ iM_28 (rq.trans q_30 (rq_qw q_21)) q_31 (((q_32).trans (tY_fr q_22))) hw (lv_sub hl [0, 1, 2, 3, 4] rfl)
      refine sb_icmp_ge (tgt := 57) hx hb rfl rfl dX10_coughing_13 (by decide) (fun c_13_6 => ?_) (fun c_13_6 => ?_)
      · exact hj_57_16  _ _ _  hw (lv_sub hl [0, 1, 2, 3, 4] rfl)
      · refine lv_iload hx hb dX10_coughing_16 (lv_at hl 0 rfl) ?_
        refine lv_aload_n hx hb dX10_coughing_18 rfl (lv_at hl 2 rfl) ?_
        refine ti_get (ci := 10) (k := 3) (N := 67) (T := TX10) (v := .ref (A 60 4)) C hw iw_10 rfl ob_60 (by decide) (by decide) fl_X10_13 rfl rfl dX10_coughing_19 ?_
        refine lv_iconst (v := 4) hx hb dX10_coughing_22 (by decide) ?_
        refine ti_iald (ci := 10) (k := 3) (n := 22) C hw ob_60 (by decide) (fun _ _ => rfl) (by unfold vp_in; decide) dX10_coughing_23 ?_
        refine lv_topi (fun x_8 ex_8 => ?_)
        have yx_8 : tY M 60 3 4 = x_8 := ((congrArg _ (by decide)).symm.trans ex_8.symm)
        have zx_8 : (tY M 60 3 4).toInt = x_8.toInt := by rw [yx_8]
        refine sb_icmp_gt (tgt := 57) hx hb rfl rfl dX10_coughing_24 (by decide) (fun c_24_8 => ?_) (fun c_24_8 => ?_)
        · exact hj_57_16  _ _ _  hw (lv_sub hl [0, 1, 2, 3, 4] rfl)
        · refine lv_iload_n hx hb dX10_coughing_27 rfl (lv_at hl 1 rfl) ?_
          refine lv_aload_n hx hb dX10_coughing_28 rfl (lv_at hl 2 rfl) ?_
          refine ti_get (ci := 10) (k := 37) (N := 67) (T := TX10) (v := .ref (A 60 38)) C hw iw_10 rfl ob_60 (by decide) (by decide) fl_X10_78 rfl rfl dX10_coughing_29 ?_
          refine lv_iload_n hx hb dX10_coughing_32 rfl (lv_at hl 3 rfl) ?_
          refine ti_iald (ci := 10) (k := 37) (n := 23) C hw ob_60 (by decide) (fun _ _ => rfl) (by unfold vp_in; decide) dX10_coughing_33 ?_
          refine lv_topi (fun x_10 ex_10 => ?_)
          have yx_10 : tY M 60 37 0 = x_10 := ((congrArg _ (by decide)).symm.trans ex_10.symm)
          refine lv_aload_n hx hb dX10_coughing_34 rfl (lv_at hl 2 rfl) ?_
          refine ti_get (ci := 10) (k := 39) (N := 67) (T := TX10) (v := .ref (A 60 40)) C hw iw_10 rfl ob_60 (by decide) (by decide) fl_X10_84 rfl rfl dX10_coughing_35 ?_
          refine lv_bipush (v := 8) hx hb dX10_coughing_38 (by decide) ?_
          refine lv_iload_n hx hb dX10_coughing_40 rfl (lv_at hl 3 rfl) ?_
          refine lv_imul hx hb dX10_coughing_41 ?_
          refine ti_top (y := 0) (by decide) ?_
          refine lv_iload hx hb dX10_coughing_42 (lv_at hl 0 rfl) ?_
          refine lv_iadd hx hb dX10_coughing_44 ?_
          refine lv_topi (fun x_11 ex_11 => ?_)
          have tx_11 : x_11.toInt = 0 + x_1.toInt := i_add ex_11 (by decide : (0 : Int32).toInt = 0) rfl (by omega) (by omega)
          refine ti_iald (ci := 10) (k := 39) (n := 184) C hw ob_60 (by decide) (fun _ _ => rfl) (vp_in_iff.mpr (by omega)) dX10_coughing_45 ?_
          refine lv_topi (fun x_12 ex_12 => ?_)
          have yx_12 : tY M 60 39 x_11.toNatClampNeg = x_12 := (ex_12.symm)
          have bx_12 : 0 ≤ x_12.toInt ∧ x_12.toInt ≤ 7 := mI_ry (k := 39) (i := x_11.toNatClampNeg) hI yx_12.symm
          refine lv_ishr hx hb dX10_coughing_46 ?_
          refine lv_topi (fun x_13 ex_13 => ?_)
          refine lv_iconst (v := 1) hx hb dX10_coughing_47 (by decide) ?_
          refine lv_iand hx hb dX10_coughing_48 ?_
          refine lv_topi (fun x_14 ex_14 => ?_)
          have bx_14 := i_and 1 ex_14 (by decide) (by decide)
          refine lv_iadd hx hb dX10_coughing_49 ?_
          refine lv_topi (fun x_15 ex_15 => ?_)
          refine lv_istore_n (lv' := [(3, .int x_15), (4, .int x_1), (0, .ref (A 60 0)), (1, .int 0), (2, .int t)]) hx hb dX10_coughing_50 rfl hl (by decide) rfl (fun ls hl => ?_)
          obtain ⟨x_16, ex_16⟩ : ∃ z : Int32, z = x_1 + 1 := ⟨_, rfl⟩
          have tx_16 : x_16.toInt = x_1.toInt + 1 := i_add ex_16 rfl (by decide) (by omega) (by omega)
          refine lv_iinc (v := x_16) (lv' := [(4, .int x_16), (3, .int x_15), (0, .ref (A 60 0)), (1, .int 0), (2, .int t)]) hx hb dX10_coughing_51 hl (k := 1) rfl (by rw [ex_16]; rfl) (by decide) rfl (fun ls hl => ?_)
          refine lv_goto (tgt := 5) hx hb dX10_coughing_54 (by decide) ?_
          exact ih_5 x_16 x_15 _ _ _ (by omega) (by first | omega | decide) (by first | omega | decide) hw (lv_sub hl [0, 1, 2, 3, 4] rfl)
  exact hl_5_4 ((8 - 1 : Int).toNat + 1) 1 0 _ _ _ (Nat.lt_succ_self _) (by have lt0 : (0 : Int32).toInt = 0 := (by decide); have lt1 : (1 : Int32).toInt = 1 := (by decide); first | omega | decide) (by have lt0 : (0 : Int32).toInt = 0 := (by decide); have lt1 : (1 : Int32).toInt = 1 := (by decide); first | omega | decide) hw (lv_sub hl [0, 1, 2, 3, 4] rfl)
set_option maxHeartbeats 4000000 in
set_option maxRecDepth 100000 in
theorem s_X10_coughing_1 (l : Launch) (D : va_G) (A : Nat → Nat → Nat) (cy : Nat → ClassId) (hJ : ti_inj ti_LM A) (M : ti_M) (hI : mI Tm M) (hC : mC M 1) (hL : mL M) (t : Int32) : ti_Kv l yX10_coughing cX10_coughing 5 5 ti_LM D A cy M [.ref (A 60 0), .int 1, .int t] (fun M2 => mI Tm M2 ∧ rq 1 M2 M ∧ mC M2 1 ∧ tY M2 60 34 = tY M 60 34) := by
  refine ti_eV yp_X10_coughing hJ ti_LM_nd (Nat.le_of_ble_eq_true rfl) ?_
  intro p e s m args below meth c Q H0 C hQ hw ls hl
  have hx := C.1
  have hb := C.2.1
  have hl : lv_has ls 5 [(0, .ref (A 60 0)), (1, .int 1), (2, .int t)] := hl
  refine lv_iconst (v := 0) hx hb dX10_coughing_0 (by decide) ?_
  refine lv_istore_n (lv' := [(3, .int 0), (0, .ref (A 60 0)), (1, .int 1), (2, .int t)]) hx hb dX10_coughing_1 rfl hl (by decide) rfl (fun ls hl => ?_)
  refine lv_iconst (v := 1) hx hb dX10_coughing_2 (by decide) ?_
  refine lv_istore (lv' := [(4, .int 1), (3, .int 0), (0, .ref (A 60 0)), (1, .int 1), (2, .int t)]) hx hb dX10_coughing_3 hl (by decide) rfl (fun ls hl => ?_)
  have hl_5_4 : ∀ (n_5 : Nat) (x_1 : Int32) (x_4 : Int32) (H : Heap) (locs : List Loc) (ls : Array Slot), (8 - x_1.toInt : Int).toNat < n_5 → (1 ≤ x_1.toInt) → (x_1.toInt ≤ 8) → ti_H ti_LM D A cy H0 M H locs → lv_has ls 5 [(4, .int x_1), (3, .int x_4), (0, .ref (A 60 0)), (1, .int 1), (2, .int t)] → W p l e (ti_rm 5) s m args below meth c H locs 0 0 Q (F0 m 5 ls []) := by
    intro n_5
    induction n_5 with
    | zero => intro x_1 x_4 H locs ls hf_5; exact absurd hf_5 (Nat.not_lt_zero _)
    | succ n_5 ih_5 =>
      intro x_1 x_4 H locs ls hf_5 b_2 b_3 hw hl
      refine lv_iload hx hb dX10_coughing_5 (lv_at hl 0 rfl) ?_
      refine lv_aload_n hx hb dX10_coughing_7 rfl (lv_at hl 2 rfl) ?_
      refine ti_get (ci := 10) (k := 38) (N := 67) (T := TX10) (v := .ref (A 60 39)) C hw iw_10 rfl ob_60 (by decide) (by decide) fl_X10_81 rfl rfl dX10_coughing_8 ?_
      refine lv_iload_n hx hb dX10_coughing_11 rfl (lv_at hl 3 rfl) ?_
      refine ti_iald (ci := 10) (k := 38) (n := 23) C hw ob_60 (by decide) (fun _ _ => rfl) (by unfold vp_in; decide) dX10_coughing_12 ?_
      refine lv_topi (fun x_6 ex_6 => ?_)
      have yx_6 : tY M 60 38 1 = x_6 := ((congrArg _ (by decide)).symm.trans ex_6.symm)
      have bx_6 : 0 ≤ x_6.toInt ∧ x_6.toInt ≤ 8 := mI_ry (k := 38) (i := 1) hI yx_6.symm
      have zx_6 : (tY M 60 38 1).toInt = x_6.toInt := by rw [yx_6]
      have hj_57_16 : ∀  (H : Heap) (locs : List Loc) (ls : Array Slot), ti_H ti_LM D A cy H0 M H locs → lv_has ls 5 [(4, .int x_1), (3, .int x_4), (0, .ref (A 60 0)), (1, .int 1), (2, .int t)] → W p l e (ti_rm 5) s m args below meth c H locs 0 0 Q (F0 m 57 ls []) := by
        intro  H locs ls  hw hl
        refine lv_aload_n hx hb dX10_coughing_57 rfl (lv_at hl 2 rfl) ?_
        refine ti_get (ci := 10) (k := 38) (N := 67) (T := TX10) (v := .ref (A 60 39)) C hw iw_10 rfl ob_60 (by decide) (by decide) fl_X10_81 rfl rfl dX10_coughing_58 ?_
        refine lv_iload_n hx hb dX10_coughing_61 rfl (lv_at hl 3 rfl) ?_
        refine ti_iald (ci := 10) (k := 38) (n := 23) C hw ob_60 (by decide) (fun _ _ => rfl) (by unfold vp_in; decide) dX10_coughing_62 ?_
        refine ti_top (y := x_6) ((congrArg _ (by decide)).trans (yx_6)) ?_
        have hj_96_36 : ∀ (M_33 : ti_M) (H : Heap) (locs : List Loc) (ls : Array Slot), (mI Tm M_33) → (rq 1 M_33 M) → (mC M_33 1) → (tY M_33 60 34 = tY M 60 34) → ti_H ti_LM D A cy H0 M_33 H locs → lv_has ls 5 [(4, .int x_1), (3, .int x_4), (0, .ref (A 60 0)), (1, .int 1), (2, .int t)] → W p l e (ti_rm 5) s m args below meth c H locs 0 0 Q (F0 m 96 ls []) := by
          intro M_33 H locs ls iM_33 f_34 f_35 f_36 hw hl
          refine lv_aload_n hx hb dX10_coughing_96 rfl (lv_at hl 2 rfl) ?_
          refine ti_get (ci := 10) (k := 37) (N := 67) (T := TX10) (v := .ref (A 60 38)) C hw iw_10 rfl ob_60 (by decide) (by decide) fl_X10_78 rfl rfl dX10_coughing_97 ?_
          refine lv_iload_n hx hb dX10_coughing_100 rfl (lv_at hl 3 rfl) ?_
          refine lv_iconst (v := 0) hx hb dX10_coughing_101 (by decide) ?_
          refine ti_iast (ci := 10) (k := 37) (n := 23) C hw ob_60 (by decide) (fun _ _ => rfl) (by unfold vp_in; decide) dX10_coughing_102 (fun H locs hw => ?_)
          obtain ⟨M_37, hM_37⟩ : ∃ z : ti_M, z = uY M_33 60 37 (upd (tY M_33 60 37) (1 : Int32).toNatClampNeg 0) := ⟨_, rfl⟩
          have hw := hw.to hM_37.symm
          have iM_37 : mI Tm M_37 := mI_up (i := 1) iM_33 hM_37 trivial
          exact hQ _ _ _ _ _ hw (⟨iM_37, (rq.trans (rq_qw (qw_Y hM_37 (by decide))) f_34), (mC_qw (qw_Y hM_37 (by decide)) f_35), (((tY_nE hM_37 (nk (by decide))).trans f_36))⟩) dX10_coughing_103
        refine sb_if_le (tgt := 96) hx hb rfl dX10_coughing_63 (by decide) (fun c_63_16 => ?_) (fun c_63_16 => ?_)
        · exact hj_96_36 M _ _ _ hI rq.refl hC rfl hw (lv_sub hl [0, 1, 2, 3, 4] rfl)
        · refine lv_iload_n hx hb dX10_coughing_66 rfl (lv_at hl 1 rfl) ?_
          refine sb_if_le (tgt := 96) hx hb rfl dX10_coughing_67 (by decide) (fun c_67_17 => ?_) (fun c_67_17 => ?_)
          · exact hj_96_36 M _ _ _ hI rq.refl hC rfl hw (lv_sub hl [0, 1, 2, 3, 4] rfl)
          · refine lv_iload_n hx hb dX10_coughing_70 rfl (lv_at hl 1 rfl) ?_
            refine lv_aload_n hx hb dX10_coughing_71 rfl (lv_at hl 2 rfl) ?_
            refine lv_iload_n hx hb dX10_coughing_72 rfl (lv_at hl 3 rfl) ?_
            refine lv_iload_n hx hb dX10_coughing_73 rfl (lv_at hl 4 rfl) ?_
            refine ti_callVi (ci := 10) (av := [.int 1, .int t]) C hw (s_X10_needOf_1 l D A cy hJ M hI hL t) ⟨ml_X10_371, ym_X10_needOf, yv_X10_needOf, yi_X10_needOf, yc_X10_needOf⟩ yd_X10_needOf ob_60 (by decide) rfl rfl hl.1 (Nat.le_of_ble_eq_true rfl) ⟨by decide, by decide⟩ ⟨Nat.zero_le _, Nat.zero_le _⟩ dX10_coughing_74 (fun r_19 M_20 H locs hp_20 hw => ?_)
            obtain ⟨iM_20, q_21, q_22⟩ := hp_20
            refine sb_icmp_lt (tgt := 96) hx hb rfl rfl dX10_coughing_77 (by decide) (fun c_77_22 => ?_) (fun c_77_22 => ?_)
            · exact hj_96_36 M_20 _ _ _ iM_20 (rq_qw q_21) (mC_qw q_21 hC) ((tY_fr q_22)) hw (lv_sub hl [0, 1, 2, 3, 4] rfl)
            · refine lv_aload_n hx hb dX10_coughing_80 rfl (lv_at hl 2 rfl) ?_
              refine lv_iload_n hx hb dX10_coughing_81 rfl (lv_at hl 3 rfl) ?_
              refine ti_callVi (ci := 10) (av := [.int 1]) C hw (s_X10_isGuarded_1 l D A cy hJ M_20 iM_20 ) ⟨ml_X10_374, ym_X10_isGuarded, yv_X10_isGuarded, yi_X10_isGuarded, yc_X10_isGuarded⟩ yd_X10_isGuarded ob_60 (by decide) rfl rfl hl.1 (Nat.le_of_ble_eq_true rfl) ⟨by decide, by decide⟩ ⟨Nat.zero_le _, Nat.zero_le _⟩ dX10_coughing_82 (fun r_24 M_25 H locs hp_25 hw => ?_)
              obtain ⟨hm, b0r_24, b1r_24⟩ := hp_25
              have hw := hw.to hm
              refine sb_if_ne (tgt := 96) hx hb rfl dX10_coughing_85 (by decide) (fun c_85_25 => ?_) (fun c_85_25 => ?_)
              · exact hj_96_36 M_20 _ _ _ iM_20 (rq_qw q_21) (mC_qw q_21 hC) ((tY_fr q_22)) hw (lv_sub hl [0, 1, 2, 3, 4] rfl)
              · refine lv_aload_n hx hb dX10_coughing_88 rfl (lv_at hl 2 rfl) ?_
                refine lv_iload_n hx hb dX10_coughing_89 rfl (lv_at hl 3 rfl) ?_
                refine lv_iconst (v := 0) hx hb dX10_coughing_90 (by decide) ?_
                refine lv_iconst (v := 3) hx hb dX10_coughing_91 (by decide) ?_
                refine lv_iload_n hx hb dX10_coughing_92 rfl (lv_at hl 4 rfl) ?_
                have lk_29 : (tY M_20 60 38 1).toInt = (tY M 60 38 1).toInt := by rw [(cg (tY_fr q_22) 1)]
                refine ti_callVv (ci := 10) (av := [.int 1, .int 0, .int 3, .int t]) C hw (s_X10_leaves_1 l D A cy hJ M_20 iM_20 (mC_qw q_21 hC) 0 3 t (by first | omega | decide | (have l0 : (0 : Int32).toInt = 0 := (by decide); have l2 : (2 : Int32).toInt = 2 := (by decide); have l3 : (3 : Int32).toInt = 3 := (by decide); omega)) (by first | omega | decide | (have l0 : (0 : Int32).toInt = 0 := (by decide); have l2 : (2 : Int32).toInt = 2 := (by decide); have l3 : (3 : Int32).toInt = 3 := (by decide); omega)) (by first | omega | decide | (have l0 : (0 : Int32).toInt = 0 := (by decide); have l2 : (2 : Int32).toInt = 2 := (by decide); have l3 : (3 : Int32).toInt = 3 := (by decide); omega))) ⟨ml_X10_377, ym_X10_leaves, yv_X10_leaves, yi_X10_leaves, yc_X10_leaves⟩ yd_X10_leaves ob_60 (by decide) rfl rfl hl.1 (Nat.le_of_ble_eq_true rfl) ⟨by decide, by decide⟩ ⟨Nat.zero_le _, Nat.zero_le _⟩ dX10_coughing_93 (fun M_28 H locs hp_28 hw => ?_)
                obtain ⟨iM_28, q_30, q_31, q_32, p0r_27⟩ := hp_28
                exact hj_96_36 M_28 _ _ _ iM_28 (rq.trans q_30 (rq_qw q_21)) q_31 (((q_32).trans (tY_fr q_22))) hw (lv_sub hl [0, 1, 2, 3, 4] rfl)
      refine sb_icmp_ge (tgt := 57) hx hb rfl rfl dX10_coughing_13 (by decide) (fun c_13_6 => ?_) (fun c_13_6 => ?_)
      · exact hj_57_16  _ _ _  hw (lv_sub hl [0, 1, 2, 3, 4] rfl)
      · refine lv_iload hx hb dX10_coughing_16 (lv_at hl 0 rfl) ?_
        refine lv_aload_n hx hb dX10_coughing_18 rfl (lv_at hl 2 rfl) ?_
        refine ti_get (ci := 10) (k := 3) (N := 67) (T := TX10) (v := .ref (A 60 4)) C hw iw_10 rfl ob_60 (by decide) (by decide) fl_X10_13 rfl rfl dX10_coughing_19 ?_
        refine lv_iconst (v := 4) hx hb dX10_coughing_22 (by decide) ?_
        refine ti_iald (ci := 10) (k := 3) (n := 22) C hw ob_60 (by decide) (fun _ _ => rfl) (by unfold vp_in; decide) dX10_coughing_23 ?_
        refine lv_topi (fun x_8 ex_8 => ?_)
        have yx_8 : tY M 60 3 4 = x_8 := ((congrArg _ (by decide)).symm.trans ex_8.symm)
        have zx_8 : (tY M 60 3 4).toInt = x_8.toInt := by rw [yx_8]
        refine sb_icmp_gt (tgt := 57) hx hb rfl rfl dX10_coughing_24 (by decide) (fun c_24_8 => ?_) (fun c_24_8 => ?_)
        · exact hj_57_16  _ _ _  hw (lv_sub hl [0, 1, 2, 3, 4] rfl)
        · refine lv_iload_n hx hb dX10_coughing_27 rfl (lv_at hl 1 rfl) ?_
          refine lv_aload_n hx hb dX10_coughing_28 rfl (lv_at hl 2 rfl) ?_
          refine ti_get (ci := 10) (k := 37) (N := 67) (T := TX10) (v := .ref (A 60 38)) C hw iw_10 rfl ob_60 (by decide) (by decide) fl_X10_78 rfl rfl dX10_coughing_29 ?_
          refine lv_iload_n hx hb dX10_coughing_32 rfl (lv_at hl 3 rfl) ?_
          refine ti_iald (ci := 10) (k := 37) (n := 23) C hw ob_60 (by decide) (fun _ _ => rfl) (by unfold vp_in; decide) dX10_coughing_33 ?_
          refine lv_topi (fun x_10 ex_10 => ?_)
          have yx_10 : tY M 60 37 1 = x_10 := ((congrArg _ (by decide)).symm.trans ex_10.symm)
          refine lv_aload_n hx hb dX10_coughing_34 rfl (lv_at hl 2 rfl) ?_
          refine ti_get (ci := 10) (k := 39) (N := 67) (T := TX10) (v := .ref (A 60 40)) C hw iw_10 rfl ob_60 (by decide) (by decide) fl_X10_84 rfl rfl dX10_coughing_35 ?_
          refine lv_bipush (v := 8) hx hb dX10_coughing_38 (by decide) ?_
          refine lv_iload_n hx hb dX10_coughing_40 rfl (lv_at hl 3 rfl) ?_
          refine lv_imul hx hb dX10_coughing_41 ?_
          refine ti_top (y := 8) (by decide) ?_
          refine lv_iload hx hb dX10_coughing_42 (lv_at hl 0 rfl) ?_
          refine lv_iadd hx hb dX10_coughing_44 ?_
          refine lv_topi (fun x_11 ex_11 => ?_)
          have tx_11 : x_11.toInt = 8 + x_1.toInt := i_add ex_11 (by decide : (8 : Int32).toInt = 8) rfl (by omega) (by omega)
          refine ti_iald (ci := 10) (k := 39) (n := 184) C hw ob_60 (by decide) (fun _ _ => rfl) (vp_in_iff.mpr (by omega)) dX10_coughing_45 ?_
          refine lv_topi (fun x_12 ex_12 => ?_)
          have yx_12 : tY M 60 39 x_11.toNatClampNeg = x_12 := (ex_12.symm)
          have bx_12 : 0 ≤ x_12.toInt ∧ x_12.toInt ≤ 7 := mI_ry (k := 39) (i := x_11.toNatClampNeg) hI yx_12.symm
          refine lv_ishr hx hb dX10_coughing_46 ?_
          refine lv_topi (fun x_13 ex_13 => ?_)
          refine lv_iconst (v := 1) hx hb dX10_coughing_47 (by decide) ?_
          refine lv_iand hx hb dX10_coughing_48 ?_
          refine lv_topi (fun x_14 ex_14 => ?_)
          have bx_14 := i_and 1 ex_14 (by decide) (by decide)
          refine lv_iadd hx hb dX10_coughing_49 ?_
          refine lv_topi (fun x_15 ex_15 => ?_)
          refine lv_istore_n (lv' := [(3, .int x_15), (4, .int x_1), (0, .ref (A 60 0)), (1, .int 1), (2, .int t)]) hx hb dX10_coughing_50 rfl hl (by decide) rfl (fun ls hl => ?_)
          obtain ⟨x_16, ex_16⟩ : ∃ z : Int32, z = x_1 + 1 := ⟨_, rfl⟩
          have tx_16 : x_16.toInt = x_1.toInt + 1 := i_add ex_16 rfl (by decide) (by omega) (by omega)
          refine lv_iinc (v := x_16) (lv' := [(4, .int x_16), (3, .int x_15), (0, .ref (A 60 0)), (1, .int 1), (2, .int t)]) hx hb dX10_coughing_51 hl (k := 1) rfl (by rw [ex_16]; rfl) (by decide) rfl (fun ls hl => ?_)
          refine lv_goto (tgt := 5) hx hb dX10_coughing_54 (by decide) ?_
          exact ih_5 x_16 x_15 _ _ _ (by omega) (by first | omega | decide) (by first | omega | decide) hw (lv_sub hl [0, 1, 2, 3, 4] rfl)
  exact hl_5_4 ((8 - 1 : Int).toNat + 1) 1 0 _ _ _ (Nat.lt_succ_self _) (by have lt0 : (0 : Int32).toInt = 0 := (by decide); have lt1 : (1 : Int32).toInt = 1 := (by decide); first | omega | decide) (by have lt0 : (0 : Int32).toInt = 0 := (by decide); have lt1 : (1 : Int32).toInt = 1 := (by decide); first | omega | decide) hw (lv_sub hl [0, 1, 2, 3, 4] rfl)
set_option maxHeartbeats 4000000 in
set_option maxRecDepth 100000 in
theorem s_X10_passes_0 (l : Launch) (D : va_G) (A : Nat → Nat → Nat) (cy : Nat → ClassId) (hJ : ti_inj ti_LM A) (M : ti_M) (hI : mI Tm M) (hC : mC M 0) (hL : mL M) (mu : Int32) (h34 : (tY M 60 34 0).toInt ≤ 119) : ti_Kv l yX10_passes cX10_passes 5 6 ti_LM D A cy M [.ref (A 60 0), .int 0, .int mu] (fun M2 => mI Tm M2 ∧ rq 0 M2 M ∧ mC M2 0 ∧ (tY M2 60 34 0).toInt = (tY M 60 34 0).toInt + 1) := by
  refine ti_eV yp_X10_passes hJ ti_LM_nd (Nat.le_of_ble_eq_true rfl) ?_
  intro p e s m args below meth c Q H0 C hQ hw ls hl
  have hx := C.1
  have hb := C.2.1
  have hl : lv_has ls 5 [(0, .ref (A 60 0)), (1, .int 0), (2, .int mu)] := hl
  refine lv_aload_n hx hb dX10_passes_0 rfl (lv_at hl 0 rfl) ?_
  refine ti_get (ci := 10) (k := 34) (N := 67) (T := TX10) (v := .ref (A 60 35)) C hw iw_10 rfl ob_60 (by decide) (by decide) fl_X10_69 rfl rfl dX10_passes_1 ?_
  refine lv_iload_n hx hb dX10_passes_4 rfl (lv_at hl 1 rfl) ?_
  refine ti_iald (ci := 10) (k := 34) (n := 23) C hw ob_60 (by decide) (fun _ _ => rfl) (by unfold vp_in; decide) dX10_passes_5 ?_
  refine lv_topi (fun x_1 ex_1 => ?_)
  have yx_1 : tY M 60 34 0 = x_1 := ((congrArg _ (by decide)).symm.trans ex_1.symm)
  have bx_1 : 0 ≤ x_1.toInt ∧ x_1.toInt ≤ 120 := mI_ry (k := 34) (i := 0) hI yx_1.symm (by decide)
  have zx_1 : (tY M 60 34 0).toInt = x_1.toInt := by rw [yx_1]
  refine lv_istore_n (lv' := [(3, .int x_1), (0, .ref (A 60 0)), (1, .int 0), (2, .int mu)]) hx hb dX10_passes_6 rfl hl (by decide) rfl (fun ls hl => ?_)
  refine lv_aload_n hx hb dX10_passes_7 rfl (lv_at hl 1 rfl) ?_
  refine lv_iload_n hx hb dX10_passes_8 rfl (lv_at hl 2 rfl) ?_
  refine lv_iload_n hx hb dX10_passes_9 rfl (lv_at hl 0 rfl) ?_
  refine ti_callVv (ci := 10) (av := [.int 0, .int x_1]) C hw (s_X10_arrive_0 l D A cy hJ M hI hC x_1) ⟨ml_X10_382, ym_X10_arrive, yv_X10_arrive, yi_X10_arrive, yc_X10_arrive⟩ yd_X10_arrive ob_60 (by decide) rfl rfl hl.1 (Nat.le_of_ble_eq_true rfl) ⟨by decide, by decide⟩ ⟨Nat.zero_le _, Nat.zero_le _⟩ dX10_passes_10 (fun M_3 H locs hp_3 hw => ?_)
  obtain ⟨iM_3, q_4, q_5, q_6⟩ := hp_3
  refine lv_aload_n hx hb dX10_passes_13 rfl (lv_at hl 1 rfl) ?_
  refine lv_iload_n hx hb dX10_passes_14 rfl (lv_at hl 2 rfl) ?_
  refine lv_iload_n hx hb dX10_passes_15 rfl (lv_at hl 0 rfl) ?_
  refine ti_callVv (ci := 10) (av := [.int 0, .int x_1]) C hw (s_X10_coughing_0 l D A cy hJ M_3 iM_3 q_5 (mL_lw (lk_of q_4.1 q_4.2.1).1 hL) x_1) ⟨ml_X10_385, ym_X10_coughing, yv_X10_coughing, yi_X10_coughing, yc_X10_coughing⟩ yd_X10_coughing ob_60 (by decide) rfl rfl hl.1 (Nat.le_of_ble_eq_true rfl) ⟨by decide, by decide⟩ ⟨Nat.zero_le _, Nat.zero_le _⟩ dX10_passes_16 (fun M_8 H locs hp_8 hw => ?_)
  obtain ⟨iM_8, q_9, q_10, q_11⟩ := hp_8
  refine lv_aload_n hx hb dX10_passes_19 rfl (lv_at hl 1 rfl) ?_
  refine lv_iload_n hx hb dX10_passes_20 rfl (lv_at hl 2 rfl) ?_
  refine ti_callVv (ci := 10) (av := [.int 0]) C hw (s_X10_pour_0 l D A cy hJ M_8 iM_8 ) ⟨ml_X10_388, ym_X10_pour, yv_X10_pour, yi_X10_pour, yc_X10_pour⟩ yd_X10_pour ob_60 (by decide) rfl rfl hl.1 (Nat.le_of_ble_eq_true rfl) ⟨by decide, by decide⟩ ⟨Nat.zero_le _, Nat.zero_le _⟩ dX10_passes_21 (fun M_13 H locs hp_13 hw => ?_)
  obtain ⟨iM_13, q_14, q_15⟩ := hp_13
  refine lv_aload_n hx hb dX10_passes_24 rfl (lv_at hl 1 rfl) ?_
  refine lv_iload_n hx hb dX10_passes_25 rfl (lv_at hl 2 rfl) ?_
  refine lv_iload_n hx hb dX10_passes_26 rfl (lv_at hl 0 rfl) ?_
  refine ti_callVv (ci := 10) (av := [.int 0, .int x_1]) C hw (s_X10_levy_0 l D A cy hJ M_13 iM_13 (mL_lw (lk.trans (lk_of q_14.1 q_14.2.1) (lk.trans (lk_of q_9.1 q_9.2.1) (lk_of q_4.1 q_4.2.1))).1 hL) x_1) ⟨ml_X10_391, ym_X10_levy, yv_X10_levy, yi_X10_levy, yc_X10_levy⟩ yd_X10_levy ob_60 (by decide) rfl rfl hl.1 (Nat.le_of_ble_eq_true rfl) ⟨by decide, by decide⟩ ⟨Nat.zero_le _, Nat.zero_le _⟩ dX10_passes_27 (fun M_17 H locs hp_17 hw => ?_)
  obtain ⟨iM_17, q_18, q_19⟩ := hp_17
  refine lv_aload_n hx hb dX10_passes_30 rfl (lv_at hl 1 rfl) ?_
  refine lv_iload_n hx hb dX10_passes_31 rfl (lv_at hl 2 rfl) ?_
  refine lv_iload_n hx hb dX10_passes_32 rfl (lv_at hl 0 rfl) ?_
  refine ti_callVv (ci := 10) (av := [.int 0, .int x_1]) C hw (s_X10_wear_0 l D A cy hJ M_17 iM_17 (mL_lw (lk.trans (lk_of q_18.1 q_18.2.1) (lk.trans (lk_of q_14.1 q_14.2.1) (lk.trans (lk_of q_9.1 q_9.2.1) (lk_of q_4.1 q_4.2.1)))).1 hL) x_1) ⟨ml_X10_394, ym_X10_wear, yv_X10_wear, yi_X10_wear, yc_X10_wear⟩ yd_X10_wear ob_60 (by decide) rfl rfl hl.1 (Nat.le_of_ble_eq_true rfl) ⟨by decide, by decide⟩ ⟨Nat.zero_le _, Nat.zero_le _⟩ dX10_passes_33 (fun M_21 H locs hp_21 hw => ?_)
  obtain ⟨iM_21, q_22, q_23⟩ := hp_21
  refine lv_aload_n hx hb dX10_passes_36 rfl (lv_at hl 1 rfl) ?_
  refine ti_get (ci := 10) (k := 38) (N := 67) (T := TX10) (v := .ref (A 60 39)) C hw iw_10 rfl ob_60 (by decide) (by decide) fl_X10_81 rfl rfl dX10_passes_37 ?_
  refine lv_iload_n hx hb dX10_passes_40 rfl (lv_at hl 2 rfl) ?_
  refine ti_iald (ci := 10) (k := 38) (n := 23) C hw ob_60 (by decide) (fun _ _ => rfl) (by unfold vp_in; decide) dX10_passes_41 ?_
  refine lv_topi (fun x_24 ex_24 => ?_)
  have yx_24 : tY M_21 60 38 0 = x_24 := ((congrArg _ (by decide)).symm.trans ex_24.symm)
  have bx_24 : 0 ≤ x_24.toInt ∧ x_24.toInt ≤ 8 := mI_ry (k := 38) (i := 0) iM_21 yx_24.symm
  have zx_24 : (tY M_21 60 38 0).toInt = x_24.toInt := by rw [yx_24]
  have wx_24 : tY M_8 60 38 0 = x_24 := (((cg q_22.2.2.1 0).trans ((cg q_18.2.2.1 0).trans (cg q_14.2.2.1 0)))).symm.trans yx_24
  have zwx_24 : (tY M_8 60 38 0).toInt = x_24.toInt := by rw [wx_24]
  have hj_89_40 : ∀ (M_37 : ti_M) (H : Heap) (locs : List Loc) (ls : Array Slot), (mI Tm M_37) → (rq 0 M_37 M) → (mC M_37 0) → (tY M_37 60 34 = tY M 60 34) → ti_H ti_LM D A cy H0 M_37 H locs → lv_has ls 5 [(3, .int x_1), (0, .ref (A 60 0)), (1, .int 0), (2, .int mu)] → W p l e (ti_rm 6) s m args below meth c H locs 0 0 Q (F0 m 89 ls []) := by
    intro M_37 H locs ls iM_37 f_38 f_39 f_40 hw hl
    refine lv_aload_n hx hb dX10_passes_89 rfl (lv_at hl 1 rfl) ?_
    refine ti_get (ci := 10) (k := 38) (N := 67) (T := TX10) (v := .ref (A 60 39)) C hw iw_10 rfl ob_60 (by decide) (by decide) fl_X10_81 rfl rfl dX10_passes_90 ?_
    refine lv_iload_n hx hb dX10_passes_93 rfl (lv_at hl 2 rfl) ?_
    refine ti_iald (ci := 10) (k := 38) (n := 23) C hw ob_60 (by decide) (fun _ _ => rfl) (by unfold vp_in; decide) dX10_passes_94 ?_
    refine lv_topi (fun x_41 ex_41 => ?_)
    have yx_41 : tY M_37 60 38 0 = x_41 := ((congrArg _ (by decide)).symm.trans ex_41.symm)
    have bx_41 : 0 ≤ x_41.toInt ∧ x_41.toInt ≤ 8 := mI_ry (k := 38) (i := 0) iM_37 yx_41.symm
    have zx_41 : (tY M_37 60 38 0).toInt = x_41.toInt := by rw [yx_41]
    refine lv_iconst (v := 1) hx hb dX10_passes_95 (by decide) ?_
    refine lv_isub hx hb dX10_passes_96 ?_
    refine lv_topi (fun x_42 ex_42 => ?_)
    have tx_42 : x_42.toInt = x_41.toInt - 1 := i_sub ex_42 rfl (by decide : (1 : Int32).toInt = 1) (by omega) (by omega)
    refine lv_istore (lv' := [(4, .int x_42), (3, .int x_1), (0, .ref (A 60 0)), (1, .int 0), (2, .int mu)]) hx hb dX10_passes_97 hl (by decide) rfl (fun ls hl => ?_)
    have hl_99_50 : ∀ (n_51 : Nat) (x_43 : Int32) (M_46 : ti_M) (H : Heap) (locs : List Loc) (ls : Array Slot), (x_43.toInt + 1 : Int).toNat < n_51 → ((-1) ≤ x_43.toInt) → (x_43.toInt ≤ 7) → (mI Tm M_46) → (rq 0 M_46 M) → (mC M_46 0) → (tY M_46 60 34 = tY M 60 34) → (x_43.toInt < (tY M_46 60 38 0).toInt) → ti_H ti_LM D A cy H0 M_46 H locs → lv_has ls 5 [(4, .int x_43), (3, .int x_1), (0, .ref (A 60 0)), (1, .int 0), (2, .int mu)] → W p l e (ti_rm 6) s m args below meth c H locs 0 0 Q (F0 m 99 ls []) := by
      intro n_51
      induction n_51 with
      | zero => intro x_43 M_46 H locs ls hf_51; exact absurd hf_51 (Nat.not_lt_zero _)
      | succ n_51 ih_51 =>
        intro x_43 M_46 H locs ls hf_51 b_44 b_45 iM_46 f_47 f_48 f_49 j_50 hw hl
        refine lv_iload hx hb dX10_passes_99 (lv_at hl 0 rfl) ?_
        refine lv_iconst (v := 1) hx hb dX10_passes_101 (by decide) ?_
        refine sb_icmp_lt (tgt := 145) hx hb rfl (by decide : (1 : Int32).toInt = 1) dX10_passes_102 (by decide) (fun c_102_51 => ?_) (fun c_102_51 => ?_)
        · refine lv_iload_n hx hb dX10_passes_145 rfl (lv_at hl 4 rfl) ?_
          have hj_197_89 : ∀ (M_86 : ti_M) (H : Heap) (locs : List Loc) (ls : Array Slot), (mI Tm M_86) → (rq 0 M_86 M) → (mC M_86 0) → (tY M_86 60 34 = tY M 60 34) → ti_H ti_LM D A cy H0 M_86 H locs → lv_has ls 5 [(4, .int x_43), (3, .int x_1), (0, .ref (A 60 0)), (1, .int 0), (2, .int mu)] → W p l e (ti_rm 6) s m args below meth c H locs 0 0 Q (F0 m 197 ls []) := by
            intro M_86 H locs ls iM_86 f_87 f_88 f_89 hw hl
            refine lv_aload_n hx hb dX10_passes_197 rfl (lv_at hl 2 rfl) ?_
            refine ti_get (ci := 10) (k := 34) (N := 67) (T := TX10) (v := .ref (A 60 35)) C hw iw_10 rfl ob_60 (by decide) (by decide) fl_X10_69 rfl rfl dX10_passes_198 ?_
            refine lv_iload_n hx hb dX10_passes_201 rfl (lv_at hl 3 rfl) ?_
            refine lv_dup2_11 hx hb dX10_passes_202 rfl rfl ?_
            refine ti_iald (ci := 10) (k := 34) (n := 23) C hw ob_60 (by decide) (fun _ _ => rfl) (by unfold vp_in; decide) dX10_passes_203 ?_
            refine ti_top (y := x_1) ((congrArg _ (by decide)).trans ((cg f_89 0).trans yx_1)) ?_
            refine lv_iconst (v := 1) hx hb dX10_passes_204 (by decide) ?_
            refine lv_iadd hx hb dX10_passes_205 ?_
            refine lv_topi (fun x_90 ex_90 => ?_)
            have tx_90 : x_90.toInt = x_1.toInt + 1 := i_add ex_90 rfl (by decide : (1 : Int32).toInt = 1) (by omega) (by omega)
            refine ti_iast (ci := 10) (k := 34) (n := 23) C hw ob_60 (by decide) (fun _ _ => rfl) (by unfold vp_in; decide) dX10_passes_206 (fun H locs hw => ?_)
            obtain ⟨M_91, hM_91⟩ : ∃ z : ti_M, z = uY M_86 60 34 (upd (tY M_86 60 34) (0 : Int32).toNatClampNeg x_90) := ⟨_, rfl⟩
            have hw := hw.to hM_91.symm
            have iM_91 : mI Tm M_91 := mI_up (i := 0) iM_86 hM_91 (fun _ => (ib_mk (lo := 0) (hi := 120) (by omega) (by omega)))
            exact hQ _ _ _ _ _ hw (⟨iM_91, (rq.trans (rq_qw (qw_Y hM_91 (by decide))) f_87), (mC_qw (qw_Y hM_91 (by decide)) f_88), by rw [tY_uE hM_91, upl (by decide)]; omega⟩) dX10_passes_207
          refine sb_if_eq (tgt := 197) hx hb rfl dX10_passes_146 (by decide) (fun c_146_68 => ?_) (fun c_146_68 => ?_)
          · exact hj_197_89 M_46 _ _ _ iM_46 f_47 f_48 ((f_49)) hw (lv_sub hl [0, 1, 2, 3, 4] rfl)
          · refine lv_aload_n hx hb dX10_passes_149 rfl (lv_at hl 2 rfl) ?_
            refine ti_get (ci := 10) (k := 3) (N := 67) (T := TX10) (v := .ref (A 60 4)) C hw iw_10 rfl ob_60 (by decide) (by decide) fl_X10_13 rfl rfl dX10_passes_150 ?_
            refine lv_iconst (v := 5) hx hb dX10_passes_153 (by decide) ?_
            refine ti_iald (ci := 10) (k := 3) (n := 22) C hw ob_60 (by decide) (fun _ _ => rfl) (by unfold vp_in; decide) dX10_passes_154 ?_
            refine lv_topi (fun x_70 ex_70 => ?_)
            have yx_70 : tY M_46 60 3 5 = x_70 := ((congrArg _ (by decide)).symm.trans ex_70.symm)
            have zx_70 : (tY M_46 60 3 5).toInt = x_70.toInt := by rw [yx_70]
            have wx_70 : tY M 60 3 5 = x_70 := ((cg (f_47.1 3 (by decide) (by decide)) 5)).symm.trans yx_70
            have zwx_70 : (tY M 60 3 5).toInt = x_70.toInt := by rw [wx_70]
            refine sb_if_le (tgt := 197) hx hb rfl dX10_passes_155 (by decide) (fun c_155_70 => ?_) (fun c_155_70 => ?_)
            · exact hj_197_89 M_46 _ _ _ iM_46 f_47 f_48 ((f_49)) hw (lv_sub hl [0, 1, 2, 3, 4] rfl)
            · refine lv_aload_n hx hb dX10_passes_158 rfl (lv_at hl 2 rfl) ?_
              refine lv_iload_n hx hb dX10_passes_159 rfl (lv_at hl 3 rfl) ?_
              refine ti_callVi (ci := 10) (av := [.int 0]) C hw (s_X10_draw_0 l D A cy hJ M_46 iM_46 ) ⟨ml_X10_397, ym_X10_draw, yv_X10_draw, yi_X10_draw, yc_X10_draw⟩ yd_X10_draw ob_60 (by decide) rfl rfl hl.1 (Nat.le_of_ble_eq_true rfl) ⟨by decide, by decide⟩ ⟨Nat.zero_le _, Nat.zero_le _⟩ dX10_passes_160 (fun r_72 M_73 H locs hp_73 hw => ?_)
              obtain ⟨iM_73, q_74, q_75⟩ := hp_73
              refine lv_aload_n hx hb dX10_passes_163 rfl (lv_at hl 2 rfl) ?_
              refine ti_get (ci := 10) (k := 3) (N := 67) (T := TX10) (v := .ref (A 60 4)) C hw iw_10 rfl ob_60 (by decide) (by decide) fl_X10_13 rfl rfl dX10_passes_164 ?_
              refine lv_iconst (v := 5) hx hb dX10_passes_167 (by decide) ?_
              refine ti_iald (ci := 10) (k := 3) (n := 22) C hw ob_60 (by decide) (fun _ _ => rfl) (by unfold vp_in; decide) dX10_passes_168 ?_
              refine ti_top (y := x_70) ((congrArg _ (by decide)).trans ((cg (q_74.1 3 (by decide) (by decide)) 5).trans ((cg (f_47.1 3 (by decide) (by decide)) 5).trans wx_70))) ?_
              refine sb_icmp_ge (tgt := 197) hx hb rfl rfl dX10_passes_169 (by decide) (fun c_169_75 => ?_) (fun c_169_75 => ?_)
              · exact hj_197_89 M_73 _ _ _ iM_73 (rq.trans (rq_qw q_74) f_47) (mC_qw q_74 f_48) (((q_75).trans f_49)) hw (lv_sub hl [0, 1, 2, 3, 4] rfl)
              · refine lv_aload_n hx hb dX10_passes_172 rfl (lv_at hl 2 rfl) ?_
                refine ti_get (ci := 10) (k := 38) (N := 67) (T := TX10) (v := .ref (A 60 39)) C hw iw_10 rfl ob_60 (by decide) (by decide) fl_X10_81 rfl rfl dX10_passes_173 ?_
                refine lv_iload_n hx hb dX10_passes_176 rfl (lv_at hl 3 rfl) ?_
                refine ti_iald (ci := 10) (k := 38) (n := 23) C hw ob_60 (by decide) (fun _ _ => rfl) (by unfold vp_in; decide) dX10_passes_177 ?_
                refine lv_topi (fun x_77 ex_77 => ?_)
                have yx_77 : tY M_73 60 38 0 = x_77 := ((congrArg _ (by decide)).symm.trans ex_77.symm)
                have bx_77 : 0 ≤ x_77.toInt ∧ x_77.toInt ≤ 8 := mI_ry (k := 38) (i := 0) iM_73 yx_77.symm
                have zx_77 : (tY M_73 60 38 0).toInt = x_77.toInt := by rw [yx_77]
                have wx_77 : tY M_46 60 38 0 = x_77 := ((cg q_74.2.2.1 0)).symm.trans yx_77
                have zwx_77 : (tY M_46 60 38 0).toInt = x_77.toInt := by rw [wx_77]
                refine lv_iconst (v := 1) hx hb dX10_passes_178 (by decide) ?_
                refine sb_icmp_le (tgt := 197) hx hb rfl (by decide : (1 : Int32).toInt = 1) dX10_passes_179 (by decide) (fun c_179_77 => ?_) (fun c_179_77 => ?_)
                · exact hj_197_89 M_73 _ _ _ iM_73 (rq.trans (rq_qw q_74) f_47) (mC_qw q_74 f_48) (((q_75).trans f_49)) hw (lv_sub hl [0, 1, 2, 3, 4] rfl)
                · refine lv_aload_n hx hb dX10_passes_182 rfl (lv_at hl 2 rfl) ?_
                  refine lv_iload_n hx hb dX10_passes_183 rfl (lv_at hl 3 rfl) ?_
                  refine lv_aload_n hx hb dX10_passes_184 rfl (lv_at hl 2 rfl) ?_
                  refine ti_get (ci := 10) (k := 38) (N := 67) (T := TX10) (v := .ref (A 60 39)) C hw iw_10 rfl ob_60 (by decide) (by decide) fl_X10_81 rfl rfl dX10_passes_185 ?_
                  refine lv_iload_n hx hb dX10_passes_188 rfl (lv_at hl 3 rfl) ?_
                  refine ti_iald (ci := 10) (k := 38) (n := 23) C hw ob_60 (by decide) (fun _ _ => rfl) (by unfold vp_in; decide) dX10_passes_189 ?_
                  refine ti_top (y := x_77) ((congrArg _ (by decide)).trans ((cg q_74.2.2.1 0).trans wx_77)) ?_
                  refine lv_iconst (v := 1) hx hb dX10_passes_190 (by decide) ?_
                  refine lv_isub hx hb dX10_passes_191 ?_
                  refine lv_topi (fun x_79 ex_79 => ?_)
                  have tx_79 : x_79.toInt = x_77.toInt - 1 := i_sub ex_79 rfl (by decide : (1 : Int32).toInt = 1) (by omega) (by omega)
                  refine lv_iconst (v := 3) hx hb dX10_passes_192 (by decide) ?_
                  refine lv_iload_n hx hb dX10_passes_193 rfl (lv_at hl 1 rfl) ?_
                  have lk_82 : (tY M_73 60 38 0).toInt = (tY M_46 60 38 0).toInt := by rw [(cg q_74.2.2.1 0)]
                  refine ti_callVv (ci := 10) (av := [.int 0, .int x_79, .int 3, .int x_1]) C hw (s_X10_leaves_0 l D A cy hJ M_73 iM_73 (mC_qw q_74 f_48) x_79 3 x_1 (by first | omega | decide | (have l0 : (0 : Int32).toInt = 0 := (by decide); have l2 : (2 : Int32).toInt = 2 := (by decide); have l3 : (3 : Int32).toInt = 3 := (by decide); omega)) (by first | omega | decide | (have l0 : (0 : Int32).toInt = 0 := (by decide); have l2 : (2 : Int32).toInt = 2 := (by decide); have l3 : (3 : Int32).toInt = 3 := (by decide); omega)) (by first | omega | decide | (have l0 : (0 : Int32).toInt = 0 := (by decide); have l2 : (2 : Int32).toInt = 2 := (by decide); have l3 : (3 : Int32).toInt = 3 := (by decide); omega))) ⟨ml_X10_377, ym_X10_leaves, yv_X10_leaves, yi_X10_leaves, yc_X10_leaves⟩ yd_X10_leaves ob_60 (by decide) rfl rfl hl.1 (Nat.le_of_ble_eq_true rfl) ⟨by decide, by decide⟩ ⟨Nat.zero_le _, Nat.zero_le _⟩ dX10_passes_194 (fun M_81 H locs hp_81 hw => ?_)
                  obtain ⟨iM_81, q_83, q_84, q_85, p0r_80⟩ := hp_81
                  exact hj_197_89 M_81 _ _ _ iM_81 (rq.trans q_83 (rq.trans (rq_qw q_74) f_47)) q_84 (((q_85).trans ((q_75).trans f_49))) hw (lv_sub hl [0, 1, 2, 3, 4] rfl)
        · refine lv_aload_n hx hb dX10_passes_105 rfl (lv_at hl 2 rfl) ?_
          refine ti_get (ci := 10) (k := 41) (N := 67) (T := TX10) (v := .ref (A 60 42)) C hw iw_10 rfl ob_60 (by decide) (by decide) fl_X10_90 rfl rfl dX10_passes_106 ?_
          refine lv_bipush (v := 8) hx hb dX10_passes_109 (by decide) ?_
          refine lv_iload_n hx hb dX10_passes_111 rfl (lv_at hl 3 rfl) ?_
          refine lv_imul hx hb dX10_passes_112 ?_
          refine ti_top (y := 0) (by decide) ?_
          refine lv_aload_n hx hb dX10_passes_113 rfl (lv_at hl 2 rfl) ?_
          refine ti_get (ci := 10) (k := 39) (N := 67) (T := TX10) (v := .ref (A 60 40)) C hw iw_10 rfl ob_60 (by decide) (by decide) fl_X10_84 rfl rfl dX10_passes_114 ?_
          refine lv_bipush (v := 8) hx hb dX10_passes_117 (by decide) ?_
          refine lv_iload_n hx hb dX10_passes_119 rfl (lv_at hl 3 rfl) ?_
          refine lv_imul hx hb dX10_passes_120 ?_
          refine ti_top (y := 0) (by decide) ?_
          refine lv_iload hx hb dX10_passes_121 (lv_at hl 0 rfl) ?_
          refine lv_iadd hx hb dX10_passes_123 ?_
          refine lv_topi (fun x_53 ex_53 => ?_)
          have tx_53 : x_53.toInt = 0 + x_43.toInt := i_add ex_53 (by decide : (0 : Int32).toInt = 0) rfl (by omega) (by omega)
          refine ti_iald (ci := 10) (k := 39) (n := 184) C hw ob_60 (by decide) (fun _ _ => rfl) (vp_in_iff.mpr (by omega)) dX10_passes_124 ?_
          refine lv_topi (fun x_54 ex_54 => ?_)
          have yx_54 : tY M_46 60 39 x_53.toNatClampNeg = x_54 := (ex_54.symm)
          have bx_54 : 0 ≤ x_54.toInt ∧ x_54.toInt ≤ 7 := mI_ry (k := 39) (i := x_53.toNatClampNeg) iM_46 yx_54.symm
          refine lv_iadd hx hb dX10_passes_125 ?_
          refine lv_topi (fun x_55 ex_55 => ?_)
          have tx_55 : x_55.toInt = 0 + x_54.toInt := i_add ex_55 (by decide : (0 : Int32).toInt = 0) rfl (by omega) (by omega)
          refine ti_iald (ci := 10) (k := 41) (n := 184) C hw ob_60 (by decide) (fun _ _ => rfl) (vp_in_iff.mpr (by omega)) dX10_passes_126 ?_
          refine lv_topi (fun x_56 ex_56 => ?_)
          have yx_56 : tY M_46 60 41 x_55.toNatClampNeg = x_56 := (ex_56.symm)
          have hj_139_67 : ∀ (M_63 : ti_M) (H : Heap) (locs : List Loc) (ls : Array Slot), (mI Tm M_63) → (rq 0 M_63 M) → (mC M_63 0) → (tY M_63 60 34 = tY M 60 34) → (x_43.toInt ≤ (tY M_63 60 38 0).toInt) → ti_H ti_LM D A cy H0 M_63 H locs → lv_has ls 5 [(4, .int x_43), (3, .int x_1), (0, .ref (A 60 0)), (1, .int 0), (2, .int mu)] → W p l e (ti_rm 6) s m args below meth c H locs 0 0 Q (F0 m 139 ls []) := by
            intro M_63 H locs ls iM_63 f_64 f_65 f_66 j_67 hw hl
            obtain ⟨x_68, ex_68⟩ : ∃ z : Int32, z = x_43 + (-1) := ⟨_, rfl⟩
            have tx_68 : x_68.toInt = x_43.toInt + (-1) := i_add ex_68 rfl (by decide) (by omega) (by omega)
            refine lv_iinc (v := x_68) (lv' := [(4, .int x_68), (3, .int x_1), (0, .ref (A 60 0)), (1, .int 0), (2, .int mu)]) hx hb dX10_passes_139 hl (k := 0) rfl (by rw [ex_68]; rfl) (by decide) rfl (fun ls hl => ?_)
            refine lv_goto (tgt := 99) hx hb dX10_passes_142 (by decide) ?_
            exact ih_51 x_68 M_63 _ _ _ (by omega) (by first | omega | decide) (by first | omega | decide) iM_63 f_64 f_65 ((f_66)) (by first | omega | decide) hw (lv_sub hl [0, 1, 2, 3, 4] rfl)
          refine sb_if_gt (tgt := 139) hx hb rfl dX10_passes_127 (by decide) (fun c_127_56 => ?_) (fun c_127_56 => ?_)
          · exact hj_139_67 M_46 _ _ _ iM_46 f_47 f_48 ((f_49)) (by first | omega | decide) hw (lv_sub hl [0, 1, 2, 3, 4] rfl)
          · refine lv_aload_n hx hb dX10_passes_130 rfl (lv_at hl 2 rfl) ?_
            refine lv_iload_n hx hb dX10_passes_131 rfl (lv_at hl 3 rfl) ?_
            refine lv_iload hx hb dX10_passes_132 (lv_at hl 0 rfl) ?_
            refine lv_iconst (v := 3) hx hb dX10_passes_134 (by decide) ?_
            refine lv_iload_n hx hb dX10_passes_135 rfl (lv_at hl 1 rfl) ?_
            refine ti_callVv (ci := 10) (av := [.int 0, .int x_43, .int 3, .int x_1]) C hw (s_X10_leaves_0 l D A cy hJ M_46 iM_46 f_48 x_43 3 x_1 (by first | omega | decide | (have l0 : (0 : Int32).toInt = 0 := (by decide); have l2 : (2 : Int32).toInt = 2 := (by decide); have l3 : (3 : Int32).toInt = 3 := (by decide); omega)) (by first | omega | decide | (have l0 : (0 : Int32).toInt = 0 := (by decide); have l2 : (2 : Int32).toInt = 2 := (by decide); have l3 : (3 : Int32).toInt = 3 := (by decide); omega)) (by first | omega | decide | (have l0 : (0 : Int32).toInt = 0 := (by decide); have l2 : (2 : Int32).toInt = 2 := (by decide); have l3 : (3 : Int32).toInt = 3 := (by decide); omega))) ⟨ml_X10_377, ym_X10_leaves, yv_X10_leaves, yi_X10_leaves, yc_X10_leaves⟩ yd_X10_leaves ob_60 (by decide) rfl rfl hl.1 (Nat.le_of_ble_eq_true rfl) ⟨by decide, by decide⟩ ⟨Nat.zero_le _, Nat.zero_le _⟩ dX10_passes_136 (fun M_59 H locs hp_59 hw => ?_)
            obtain ⟨iM_59, q_60, q_61, q_62, p0r_58⟩ := hp_59
            exact hj_139_67 M_59 _ _ _ iM_59 (rq.trans q_60 f_47) q_61 (((q_62).trans f_49)) (by first | omega | decide) hw (lv_sub hl [0, 1, 2, 3, 4] rfl)
    exact hl_99_50 ((x_42.toInt + 1 : Int).toNat + 1) x_42 M_37 _ _ _ (Nat.lt_succ_self _) (by first | omega | decide) (by first | omega | decide) iM_37 f_38 f_39 ((f_40)) (by first | omega | decide) hw (lv_sub hl [0, 1, 2, 3, 4] rfl)
  refine sb_if_le (tgt := 89) hx hb rfl dX10_passes_42 (by decide) (fun c_42_24 => ?_) (fun c_42_24 => ?_)
  · exact hj_89_40 M_21 _ _ _ iM_21 (rq.trans (rq_qw q_22) (rq.trans (rq_qw q_18) (rq.trans (rq_qw q_14) (rq.trans q_9 q_4)))) (mC_qw (qw.trans q_22 (qw.trans q_18 q_14)) q_10) (((q_23).trans ((q_19).trans ((q_15).trans ((q_11).trans q_6))))) hw (lv_sub hl [0, 1, 2, 3] rfl)
  · refine lv_aload_n hx hb dX10_passes_45 rfl (lv_at hl 1 rfl) ?_
    refine ti_get (ci := 10) (k := 42) (N := 67) (T := TX10) (v := .ref (A 60 43)) C hw iw_10 rfl ob_60 (by decide) (by decide) fl_X10_93 rfl rfl dX10_passes_46 ?_
    refine lv_bipush (v := 8) hx hb dX10_passes_49 (by decide) ?_
    refine lv_iload_n hx hb dX10_passes_51 rfl (lv_at hl 2 rfl) ?_
    refine lv_imul hx hb dX10_passes_52 ?_
    refine ti_top (y := 0) (by decide) ?_
    refine lv_aload_n hx hb dX10_passes_53 rfl (lv_at hl 1 rfl) ?_
    refine ti_get (ci := 10) (k := 39) (N := 67) (T := TX10) (v := .ref (A 60 40)) C hw iw_10 rfl ob_60 (by decide) (by decide) fl_X10_84 rfl rfl dX10_passes_54 ?_
    refine lv_bipush (v := 8) hx hb dX10_passes_57 (by decide) ?_
    refine lv_iload_n hx hb dX10_passes_59 rfl (lv_at hl 2 rfl) ?_
    refine lv_imul hx hb dX10_passes_60 ?_
    refine ti_top (y := 0) (by decide) ?_
    refine ti_iald (ci := 10) (k := 39) (n := 184) C hw ob_60 (by decide) (fun _ _ => rfl) (by unfold vp_in; decide) dX10_passes_61 ?_
    refine lv_topi (fun x_26 ex_26 => ?_)
    have yx_26 : tY M_21 60 39 0 = x_26 := ((congrArg _ (by decide)).symm.trans ex_26.symm)
    have bx_26 : 0 ≤ x_26.toInt ∧ x_26.toInt ≤ 7 := mI_ry (k := 39) (i := 0) iM_21 yx_26.symm
    have wx_26 : tY M_8 60 39 0 = x_26 := (((cg q_22.2.2.2.1 0).trans ((cg q_18.2.2.2.1 0).trans (cg q_14.2.2.2.1 0)))).symm.trans yx_26
    refine lv_iadd hx hb dX10_passes_62 ?_
    refine lv_topi (fun x_27 ex_27 => ?_)
    have tx_27 : x_27.toInt = 0 + x_26.toInt := i_add ex_27 (by decide : (0 : Int32).toInt = 0) rfl (by omega) (by omega)
    refine ti_iald (ci := 10) (k := 42) (n := 184) C hw ob_60 (by decide) (fun _ _ => rfl) (vp_in_iff.mpr (by omega)) dX10_passes_63 ?_
    refine lv_topi (fun x_28 ex_28 => ?_)
    have yx_28 : tY M_21 60 42 x_27.toNatClampNeg = x_28 := (ex_28.symm)
    refine lv_aload_n hx hb dX10_passes_64 rfl (lv_at hl 1 rfl) ?_
    refine ti_get (ci := 10) (k := 8) (N := 67) (T := TX10) (v := .ref (A 60 9)) C hw iw_10 rfl ob_60 (by decide) (by decide) fl_X10_28 rfl rfl dX10_passes_65 ?_
    refine lv_aload_n hx hb dX10_passes_68 rfl (lv_at hl 1 rfl) ?_
    refine ti_get (ci := 10) (k := 39) (N := 67) (T := TX10) (v := .ref (A 60 40)) C hw iw_10 rfl ob_60 (by decide) (by decide) fl_X10_84 rfl rfl dX10_passes_69 ?_
    refine lv_bipush (v := 8) hx hb dX10_passes_72 (by decide) ?_
    refine lv_iload_n hx hb dX10_passes_74 rfl (lv_at hl 2 rfl) ?_
    refine lv_imul hx hb dX10_passes_75 ?_
    refine ti_top (y := 0) (by decide) ?_
    refine ti_iald (ci := 10) (k := 39) (n := 184) C hw ob_60 (by decide) (fun _ _ => rfl) (by unfold vp_in; decide) dX10_passes_76 ?_
    refine ti_top (y := x_26) ((congrArg _ (by decide)).trans ((cg q_22.2.2.2.1 0).trans ((cg q_18.2.2.2.1 0).trans ((cg q_14.2.2.2.1 0).trans wx_26)))) ?_
    refine ti_iald (ci := 10) (k := 8) (n := 16) C hw ob_60 (by decide) (fun _ _ => rfl) (vp_in_iff.mpr (by omega)) dX10_passes_77 ?_
    refine lv_topi (fun x_29 ex_29 => ?_)
    have yx_29 : tY M_21 60 8 x_26.toNatClampNeg = x_29 := (ex_29.symm)
    have wx_29 : tY M 60 8 x_26.toNatClampNeg = x_29 := (((cg (q_22.1 8 (by decide) (by decide)) x_26.toNatClampNeg).trans ((cg (q_18.1 8 (by decide) (by decide)) x_26.toNatClampNeg).trans ((cg (q_14.1 8 (by decide) (by decide)) x_26.toNatClampNeg).trans ((cg (q_9.1 8 (by decide) (by decide)) x_26.toNatClampNeg).trans (cg (q_4.1 8 (by decide) (by decide)) x_26.toNatClampNeg)))))).symm.trans yx_29
    refine sb_icmp_ne (tgt := 89) hx hb rfl rfl dX10_passes_78 (by decide) (fun c_78_29 => ?_) (fun c_78_29 => ?_)
    · exact hj_89_40 M_21 _ _ _ iM_21 (rq.trans (rq_qw q_22) (rq.trans (rq_qw q_18) (rq.trans (rq_qw q_14) (rq.trans q_9 q_4)))) (mC_qw (qw.trans q_22 (qw.trans q_18 q_14)) q_10) (((q_23).trans ((q_19).trans ((q_15).trans ((q_11).trans q_6))))) hw (lv_sub hl [0, 1, 2, 3] rfl)
    · refine lv_aload_n hx hb dX10_passes_81 rfl (lv_at hl 1 rfl) ?_
      refine lv_iload_n hx hb dX10_passes_82 rfl (lv_at hl 2 rfl) ?_
      refine lv_iconst (v := 0) hx hb dX10_passes_83 (by decide) ?_
      refine lv_iconst (v := 2) hx hb dX10_passes_84 (by decide) ?_
      refine lv_iload_n hx hb dX10_passes_85 rfl (lv_at hl 0 rfl) ?_
      have lk_33 : (tY M_21 60 38 0).toInt = (tY M_8 60 38 0).toInt := by rw [((cg q_22.2.2.1 0).trans ((cg q_18.2.2.1 0).trans (cg q_14.2.2.1 0)))]
      refine ti_callVv (ci := 10) (av := [.int 0, .int 0, .int 2, .int x_1]) C hw (s_X10_leaves_0 l D A cy hJ M_21 iM_21 (mC_qw (qw.trans q_22 (qw.trans q_18 q_14)) q_10) 0 2 x_1 (by first | omega | decide | (have l0 : (0 : Int32).toInt = 0 := (by decide); have l2 : (2 : Int32).toInt = 2 := (by decide); have l3 : (3 : Int32).toInt = 3 := (by decide); omega)) (by first | omega | decide | (have l0 : (0 : Int32).toInt = 0 := (by decide); have l2 : (2 : Int32).toInt = 2 := (by decide); have l3 : (3 : Int32).toInt = 3 := (by decide); omega)) (by first | omega | decide | (have l0 : (0 : Int32).toInt = 0 := (by decide); have l2 : (2 : Int32).toInt = 2 := (by decide); have l3 : (3 : Int32).toInt = 3 := (by decide); omega))) ⟨ml_X10_377, ym_X10_leaves, yv_X10_leaves, yi_X10_leaves, yc_X10_leaves⟩ yd_X10_leaves ob_60 (by decide) rfl rfl hl.1 (Nat.le_of_ble_eq_true rfl) ⟨by decide, by decide⟩ ⟨Nat.zero_le _, Nat.zero_le _⟩ dX10_passes_86 (fun M_32 H locs hp_32 hw => ?_)
      obtain ⟨iM_32, q_34, q_35, q_36, p0r_31⟩ := hp_32
      exact hj_89_40 M_32 _ _ _ iM_32 (rq.trans q_34 (rq.trans (rq_qw q_22) (rq.trans (rq_qw q_18) (rq.trans (rq_qw q_14) (rq.trans q_9 q_4))))) q_35 (((q_36).trans ((q_23).trans ((q_19).trans ((q_15).trans ((q_11).trans q_6)))))) hw (lv_sub hl [0, 1, 2, 3] rfl)
set_option maxHeartbeats 4000000 in
set_option maxRecDepth 100000 in
theorem s_X10_passes_1 (l : Launch) (D : va_G) (A : Nat → Nat → Nat) (cy : Nat → ClassId) (hJ : ti_inj ti_LM A) (M : ti_M) (hI : mI Tm M) (hC : mC M 1) (hL : mL M) (mu : Int32) : ti_Kv l yX10_passes cX10_passes 5 6 ti_LM D A cy M [.ref (A 60 0), .int 1, .int mu] (fun M2 => mI Tm M2 ∧ rq 1 M2 M ∧ mC M2 1) := by
  refine ti_eV yp_X10_passes hJ ti_LM_nd (Nat.le_of_ble_eq_true rfl) ?_
  intro p e s m args below meth c Q H0 C hQ hw ls hl
  have hx := C.1
  have hb := C.2.1
  have hl : lv_has ls 5 [(0, .ref (A 60 0)), (1, .int 1), (2, .int mu)] := hl
  refine lv_aload_n hx hb dX10_passes_0 rfl (lv_at hl 0 rfl) ?_
  refine ti_get (ci := 10) (k := 34) (N := 67) (T := TX10) (v := .ref (A 60 35)) C hw iw_10 rfl ob_60 (by decide) (by decide) fl_X10_69 rfl rfl dX10_passes_1 ?_
  refine lv_iload_n hx hb dX10_passes_4 rfl (lv_at hl 1 rfl) ?_
  refine ti_iald (ci := 10) (k := 34) (n := 23) C hw ob_60 (by decide) (fun _ _ => rfl) (by unfold vp_in; decide) dX10_passes_5 ?_
  refine lv_topi (fun x_1 ex_1 => ?_)
  have yx_1 : tY M 60 34 1 = x_1 := ((congrArg _ (by decide)).symm.trans ex_1.symm)
  have zx_1 : (tY M 60 34 1).toInt = x_1.toInt := by rw [yx_1]
  refine lv_istore_n (lv' := [(3, .int x_1), (0, .ref (A 60 0)), (1, .int 1), (2, .int mu)]) hx hb dX10_passes_6 rfl hl (by decide) rfl (fun ls hl => ?_)
  refine lv_aload_n hx hb dX10_passes_7 rfl (lv_at hl 1 rfl) ?_
  refine lv_iload_n hx hb dX10_passes_8 rfl (lv_at hl 2 rfl) ?_
  refine lv_iload_n hx hb dX10_passes_9 rfl (lv_at hl 0 rfl) ?_
  refine ti_callVv (ci := 10) (av := [.int 1, .int x_1]) C hw (s_X10_arrive_1 l D A cy hJ M hI hC x_1) ⟨ml_X10_382, ym_X10_arrive, yv_X10_arrive, yi_X10_arrive, yc_X10_arrive⟩ yd_X10_arrive ob_60 (by decide) rfl rfl hl.1 (Nat.le_of_ble_eq_true rfl) ⟨by decide, by decide⟩ ⟨Nat.zero_le _, Nat.zero_le _⟩ dX10_passes_10 (fun M_3 H locs hp_3 hw => ?_)
  obtain ⟨iM_3, q_4, q_5, q_6⟩ := hp_3
  refine lv_aload_n hx hb dX10_passes_13 rfl (lv_at hl 1 rfl) ?_
  refine lv_iload_n hx hb dX10_passes_14 rfl (lv_at hl 2 rfl) ?_
  refine lv_iload_n hx hb dX10_passes_15 rfl (lv_at hl 0 rfl) ?_
  refine ti_callVv (ci := 10) (av := [.int 1, .int x_1]) C hw (s_X10_coughing_1 l D A cy hJ M_3 iM_3 q_5 (mL_lw (lk_of q_4.1 q_4.2.1).1 hL) x_1) ⟨ml_X10_385, ym_X10_coughing, yv_X10_coughing, yi_X10_coughing, yc_X10_coughing⟩ yd_X10_coughing ob_60 (by decide) rfl rfl hl.1 (Nat.le_of_ble_eq_true rfl) ⟨by decide, by decide⟩ ⟨Nat.zero_le _, Nat.zero_le _⟩ dX10_passes_16 (fun M_8 H locs hp_8 hw => ?_)
  obtain ⟨iM_8, q_9, q_10, q_11⟩ := hp_8
  refine lv_aload_n hx hb dX10_passes_19 rfl (lv_at hl 1 rfl) ?_
  refine lv_iload_n hx hb dX10_passes_20 rfl (lv_at hl 2 rfl) ?_
  refine ti_callVv (ci := 10) (av := [.int 1]) C hw (s_X10_pour_1 l D A cy hJ M_8 iM_8 ) ⟨ml_X10_388, ym_X10_pour, yv_X10_pour, yi_X10_pour, yc_X10_pour⟩ yd_X10_pour ob_60 (by decide) rfl rfl hl.1 (Nat.le_of_ble_eq_true rfl) ⟨by decide, by decide⟩ ⟨Nat.zero_le _, Nat.zero_le _⟩ dX10_passes_21 (fun M_13 H locs hp_13 hw => ?_)
  obtain ⟨iM_13, q_14, q_15⟩ := hp_13
  refine lv_aload_n hx hb dX10_passes_24 rfl (lv_at hl 1 rfl) ?_
  refine lv_iload_n hx hb dX10_passes_25 rfl (lv_at hl 2 rfl) ?_
  refine lv_iload_n hx hb dX10_passes_26 rfl (lv_at hl 0 rfl) ?_
  refine ti_callVv (ci := 10) (av := [.int 1, .int x_1]) C hw (s_X10_levy_1 l D A cy hJ M_13 iM_13 (mL_lw (lk.trans (lk_of q_14.1 q_14.2.1) (lk.trans (lk_of q_9.1 q_9.2.1) (lk_of q_4.1 q_4.2.1))).1 hL) x_1) ⟨ml_X10_391, ym_X10_levy, yv_X10_levy, yi_X10_levy, yc_X10_levy⟩ yd_X10_levy ob_60 (by decide) rfl rfl hl.1 (Nat.le_of_ble_eq_true rfl) ⟨by decide, by decide⟩ ⟨Nat.zero_le _, Nat.zero_le _⟩ dX10_passes_27 (fun M_17 H locs hp_17 hw => ?_)
  obtain ⟨iM_17, q_18, q_19⟩ := hp_17
  refine lv_aload_n hx hb dX10_passes_30 rfl (lv_at hl 1 rfl) ?_
  refine lv_iload_n hx hb dX10_passes_31 rfl (lv_at hl 2 rfl) ?_
  refine lv_iload_n hx hb dX10_passes_32 rfl (lv_at hl 0 rfl) ?_
  refine ti_callVv (ci := 10) (av := [.int 1, .int x_1]) C hw (s_X10_wear_1 l D A cy hJ M_17 iM_17 (mL_lw (lk.trans (lk_of q_18.1 q_18.2.1) (lk.trans (lk_of q_14.1 q_14.2.1) (lk.trans (lk_of q_9.1 q_9.2.1) (lk_of q_4.1 q_4.2.1)))).1 hL) x_1) ⟨ml_X10_394, ym_X10_wear, yv_X10_wear, yi_X10_wear, yc_X10_wear⟩ yd_X10_wear ob_60 (by decide) rfl rfl hl.1 (Nat.le_of_ble_eq_true rfl) ⟨by decide, by decide⟩ ⟨Nat.zero_le _, Nat.zero_le _⟩ dX10_passes_33 (fun M_21 H locs hp_21 hw => ?_)
  obtain ⟨iM_21, q_22, q_23⟩ := hp_21
  refine lv_aload_n hx hb dX10_passes_36 rfl (lv_at hl 1 rfl) ?_
  refine ti_get (ci := 10) (k := 38) (N := 67) (T := TX10) (v := .ref (A 60 39)) C hw iw_10 rfl ob_60 (by decide) (by decide) fl_X10_81 rfl rfl dX10_passes_37 ?_
  refine lv_iload_n hx hb dX10_passes_40 rfl (lv_at hl 2 rfl) ?_
  refine ti_iald (ci := 10) (k := 38) (n := 23) C hw ob_60 (by decide) (fun _ _ => rfl) (by unfold vp_in; decide) dX10_passes_41 ?_
  refine lv_topi (fun x_24 ex_24 => ?_)
  have yx_24 : tY M_21 60 38 1 = x_24 := ((congrArg _ (by decide)).symm.trans ex_24.symm)
  have bx_24 : 0 ≤ x_24.toInt ∧ x_24.toInt ≤ 8 := mI_ry (k := 38) (i := 1) iM_21 yx_24.symm
  have zx_24 : (tY M_21 60 38 1).toInt = x_24.toInt := by rw [yx_24]
  have wx_24 : tY M_8 60 38 1 = x_24 := (((cg q_22.2.2.1 1).trans ((cg q_18.2.2.1 1).trans (cg q_14.2.2.1 1)))).symm.trans yx_24
  have zwx_24 : (tY M_8 60 38 1).toInt = x_24.toInt := by rw [wx_24]
  have hj_89_40 : ∀ (M_37 : ti_M) (H : Heap) (locs : List Loc) (ls : Array Slot), (mI Tm M_37) → (rq 1 M_37 M) → (mC M_37 1) → (tY M_37 60 34 = tY M 60 34) → ti_H ti_LM D A cy H0 M_37 H locs → lv_has ls 5 [(3, .int x_1), (0, .ref (A 60 0)), (1, .int 1), (2, .int mu)] → W p l e (ti_rm 6) s m args below meth c H locs 0 0 Q (F0 m 89 ls []) := by
    intro M_37 H locs ls iM_37 f_38 f_39 f_40 hw hl
    refine lv_aload_n hx hb dX10_passes_89 rfl (lv_at hl 1 rfl) ?_
    refine ti_get (ci := 10) (k := 38) (N := 67) (T := TX10) (v := .ref (A 60 39)) C hw iw_10 rfl ob_60 (by decide) (by decide) fl_X10_81 rfl rfl dX10_passes_90 ?_
    refine lv_iload_n hx hb dX10_passes_93 rfl (lv_at hl 2 rfl) ?_
    refine ti_iald (ci := 10) (k := 38) (n := 23) C hw ob_60 (by decide) (fun _ _ => rfl) (by unfold vp_in; decide) dX10_passes_94 ?_
    refine lv_topi (fun x_41 ex_41 => ?_)
    have yx_41 : tY M_37 60 38 1 = x_41 := ((congrArg _ (by decide)).symm.trans ex_41.symm)
    have bx_41 : 0 ≤ x_41.toInt ∧ x_41.toInt ≤ 8 := mI_ry (k := 38) (i := 1) iM_37 yx_41.symm
    have zx_41 : (tY M_37 60 38 1).toInt = x_41.toInt := by rw [yx_41]
    refine lv_iconst (v := 1) hx hb dX10_passes_95 (by decide) ?_
    refine lv_isub hx hb dX10_passes_96 ?_
    refine lv_topi (fun x_42 ex_42 => ?_)
    have tx_42 : x_42.toInt = x_41.toInt - 1 := i_sub ex_42 rfl (by decide : (1 : Int32).toInt = 1) (by omega) (by omega)
    refine lv_istore (lv' := [(4, .int x_42), (3, .int x_1), (0, .ref (A 60 0)), (1, .int 1), (2, .int mu)]) hx hb dX10_passes_97 hl (by decide) rfl (fun ls hl => ?_)
    have hl_99_50 : ∀ (n_51 : Nat) (x_43 : Int32) (M_46 : ti_M) (H : Heap) (locs : List Loc) (ls : Array Slot), (x_43.toInt + 1 : Int).toNat < n_51 → ((-1) ≤ x_43.toInt) → (x_43.toInt ≤ 7) → (mI Tm M_46) → (rq 1 M_46 M) → (mC M_46 1) → (tY M_46 60 34 = tY M 60 34) → (x_43.toInt < (tY M_46 60 38 1).toInt) → ti_H ti_LM D A cy H0 M_46 H locs → lv_has ls 5 [(4, .int x_43), (3, .int x_1), (0, .ref (A 60 0)), (1, .int 1), (2, .int mu)] → W p l e (ti_rm 6) s m args below meth c H locs 0 0 Q (F0 m 99 ls []) := by
      intro n_51
      induction n_51 with
      | zero => intro x_43 M_46 H locs ls hf_51; exact absurd hf_51 (Nat.not_lt_zero _)
      | succ n_51 ih_51 =>
        intro x_43 M_46 H locs ls hf_51 b_44 b_45 iM_46 f_47 f_48 f_49 j_50 hw hl
        refine lv_iload hx hb dX10_passes_99 (lv_at hl 0 rfl) ?_
        refine lv_iconst (v := 1) hx hb dX10_passes_101 (by decide) ?_
        refine sb_icmp_lt (tgt := 145) hx hb rfl (by decide : (1 : Int32).toInt = 1) dX10_passes_102 (by decide) (fun c_102_51 => ?_) (fun c_102_51 => ?_)
        · refine lv_iload_n hx hb dX10_passes_145 rfl (lv_at hl 4 rfl) ?_
          have hj_197_89 : ∀ (M_86 : ti_M) (H : Heap) (locs : List Loc) (ls : Array Slot), (mI Tm M_86) → (rq 1 M_86 M) → (mC M_86 1) → (tY M_86 60 34 = tY M 60 34) → ti_H ti_LM D A cy H0 M_86 H locs → lv_has ls 5 [(4, .int x_43), (3, .int x_1), (0, .ref (A 60 0)), (1, .int 1), (2, .int mu)] → W p l e (ti_rm 6) s m args below meth c H locs 0 0 Q (F0 m 197 ls []) := by
            intro M_86 H locs ls iM_86 f_87 f_88 f_89 hw hl
            refine lv_aload_n hx hb dX10_passes_197 rfl (lv_at hl 2 rfl) ?_
            refine ti_get (ci := 10) (k := 34) (N := 67) (T := TX10) (v := .ref (A 60 35)) C hw iw_10 rfl ob_60 (by decide) (by decide) fl_X10_69 rfl rfl dX10_passes_198 ?_
            refine lv_iload_n hx hb dX10_passes_201 rfl (lv_at hl 3 rfl) ?_
            refine lv_dup2_11 hx hb dX10_passes_202 rfl rfl ?_
            refine ti_iald (ci := 10) (k := 34) (n := 23) C hw ob_60 (by decide) (fun _ _ => rfl) (by unfold vp_in; decide) dX10_passes_203 ?_
            refine ti_top (y := x_1) ((congrArg _ (by decide)).trans ((cg f_89 1).trans yx_1)) ?_
            refine lv_iconst (v := 1) hx hb dX10_passes_204 (by decide) ?_
            refine lv_iadd hx hb dX10_passes_205 ?_
            refine lv_topi (fun x_90 ex_90 => ?_)
            refine ti_iast (ci := 10) (k := 34) (n := 23) C hw ob_60 (by decide) (fun _ _ => rfl) (by unfold vp_in; decide) dX10_passes_206 (fun H locs hw => ?_)
            obtain ⟨M_91, hM_91⟩ : ∃ z : ti_M, z = uY M_86 60 34 (upd (tY M_86 60 34) (1 : Int32).toNatClampNeg x_90) := ⟨_, rfl⟩
            have hw := hw.to hM_91.symm
            have iM_91 : mI Tm M_91 := mI_up (i := 1) iM_86 hM_91 (fun h => absurd rfl h)
            exact hQ _ _ _ _ _ hw (⟨iM_91, (rq.trans (rq_qw (qw_Y hM_91 (by decide))) f_87), (mC_qw (qw_Y hM_91 (by decide)) f_88)⟩) dX10_passes_207
          refine sb_if_eq (tgt := 197) hx hb rfl dX10_passes_146 (by decide) (fun c_146_68 => ?_) (fun c_146_68 => ?_)
          · exact hj_197_89 M_46 _ _ _ iM_46 f_47 f_48 ((f_49)) hw (lv_sub hl [0, 1, 2, 3, 4] rfl)
          · refine lv_aload_n hx hb dX10_passes_149 rfl (lv_at hl 2 rfl) ?_
            refine ti_get (ci := 10) (k := 3) (N := 67) (T := TX10) (v := .ref (A 60 4)) C hw iw_10 rfl ob_60 (by decide) (by decide) fl_X10_13 rfl rfl dX10_passes_150 ?_
            refine lv_iconst (v := 5) hx hb dX10_passes_153 (by decide) ?_
            refine ti_iald (ci := 10) (k := 3) (n := 22) C hw ob_60 (by decide) (fun _ _ => rfl) (by unfold vp_in; decide) dX10_passes_154 ?_
            refine lv_topi (fun x_70 ex_70 => ?_)
            have yx_70 : tY M_46 60 3 5 = x_70 := ((congrArg _ (by decide)).symm.trans ex_70.symm)
            have zx_70 : (tY M_46 60 3 5).toInt = x_70.toInt := by rw [yx_70]
            have wx_70 : tY M 60 3 5 = x_70 := ((cg (f_47.1 3 (by decide) (by decide)) 5)).symm.trans yx_70
            have zwx_70 : (tY M 60 3 5).toInt = x_70.toInt := by rw [wx_70]
            refine sb_if_le (tgt := 197) hx hb rfl dX10_passes_155 (by decide) (fun c_155_70 => ?_) (fun c_155_70 => ?_)
            · exact hj_197_89 M_46 _ _ _ iM_46 f_47 f_48 ((f_49)) hw (lv_sub hl [0, 1, 2, 3, 4] rfl)
            · refine lv_aload_n hx hb dX10_passes_158 rfl (lv_at hl 2 rfl) ?_
              refine lv_iload_n hx hb dX10_passes_159 rfl (lv_at hl 3 rfl) ?_
              refine ti_callVi (ci := 10) (av := [.int 1]) C hw (s_X10_draw_1 l D A cy hJ M_46 iM_46 ) ⟨ml_X10_397, ym_X10_draw, yv_X10_draw, yi_X10_draw, yc_X10_draw⟩ yd_X10_draw ob_60 (by decide) rfl rfl hl.1 (Nat.le_of_ble_eq_true rfl) ⟨by decide, by decide⟩ ⟨Nat.zero_le _, Nat.zero_le _⟩ dX10_passes_160 (fun r_72 M_73 H locs hp_73 hw => ?_)
              obtain ⟨iM_73, q_74, q_75⟩ := hp_73
              refine lv_aload_n hx hb dX10_passes_163 rfl (lv_at hl 2 rfl) ?_
              refine ti_get (ci := 10) (k := 3) (N := 67) (T := TX10) (v := .ref (A 60 4)) C hw iw_10 rfl ob_60 (by decide) (by decide) fl_X10_13 rfl rfl dX10_passes_164 ?_
              refine lv_iconst (v := 5) hx hb dX10_passes_167 (by decide) ?_
              refine ti_iald (ci := 10) (k := 3) (n := 22) C hw ob_60 (by decide) (fun _ _ => rfl) (by unfold vp_in; decide) dX10_passes_168 ?_
              refine ti_top (y := x_70) ((congrArg _ (by decide)).trans ((cg (q_74.1 3 (by decide) (by decide)) 5).trans ((cg (f_47.1 3 (by decide) (by decide)) 5).trans wx_70))) ?_
              refine sb_icmp_ge (tgt := 197) hx hb rfl rfl dX10_passes_169 (by decide) (fun c_169_75 => ?_) (fun c_169_75 => ?_)
              · exact hj_197_89 M_73 _ _ _ iM_73 (rq.trans (rq_qw q_74) f_47) (mC_qw q_74 f_48) (((q_75).trans f_49)) hw (lv_sub hl [0, 1, 2, 3, 4] rfl)
              · refine lv_aload_n hx hb dX10_passes_172 rfl (lv_at hl 2 rfl) ?_
                refine ti_get (ci := 10) (k := 38) (N := 67) (T := TX10) (v := .ref (A 60 39)) C hw iw_10 rfl ob_60 (by decide) (by decide) fl_X10_81 rfl rfl dX10_passes_173 ?_
                refine lv_iload_n hx hb dX10_passes_176 rfl (lv_at hl 3 rfl) ?_
                refine ti_iald (ci := 10) (k := 38) (n := 23) C hw ob_60 (by decide) (fun _ _ => rfl) (by unfold vp_in; decide) dX10_passes_177 ?_
                refine lv_topi (fun x_77 ex_77 => ?_)
                have yx_77 : tY M_73 60 38 1 = x_77 := ((congrArg _ (by decide)).symm.trans ex_77.symm)
                have bx_77 : 0 ≤ x_77.toInt ∧ x_77.toInt ≤ 8 := mI_ry (k := 38) (i := 1) iM_73 yx_77.symm
                have zx_77 : (tY M_73 60 38 1).toInt = x_77.toInt := by rw [yx_77]
                have wx_77 : tY M_46 60 38 1 = x_77 := ((cg q_74.2.2.1 1)).symm.trans yx_77
                have zwx_77 : (tY M_46 60 38 1).toInt = x_77.toInt := by rw [wx_77]
                refine lv_iconst (v := 1) hx hb dX10_passes_178 (by decide) ?_
                refine sb_icmp_le (tgt := 197) hx hb rfl (by decide : (1 : Int32).toInt = 1) dX10_passes_179 (by decide) (fun c_179_77 => ?_) (fun c_179_77 => ?_)
                · exact hj_197_89 M_73 _ _ _ iM_73 (rq.trans (rq_qw q_74) f_47) (mC_qw q_74 f_48) (((q_75).trans f_49)) hw (lv_sub hl [0, 1, 2, 3, 4] rfl)
                · refine lv_aload_n hx hb dX10_passes_182 rfl (lv_at hl 2 rfl) ?_
                  refine lv_iload_n hx hb dX10_passes_183 rfl (lv_at hl 3 rfl) ?_
                  refine lv_aload_n hx hb dX10_passes_184 rfl (lv_at hl 2 rfl) ?_
                  refine ti_get (ci := 10) (k := 38) (N := 67) (T := TX10) (v := .ref (A 60 39)) C hw iw_10 rfl ob_60 (by decide) (by decide) fl_X10_81 rfl rfl dX10_passes_185 ?_
                  refine lv_iload_n hx hb dX10_passes_188 rfl (lv_at hl 3 rfl) ?_
                  refine ti_iald (ci := 10) (k := 38) (n := 23) C hw ob_60 (by decide) (fun _ _ => rfl) (by unfold vp_in; decide) dX10_passes_189 ?_
                  refine ti_top (y := x_77) ((congrArg _ (by decide)).trans ((cg q_74.2.2.1 1).trans wx_77)) ?_
                  refine lv_iconst (v := 1) hx hb dX10_passes_190 (by decide) ?_
                  refine lv_isub hx hb dX10_passes_191 ?_
                  refine lv_topi (fun x_79 ex_79 => ?_)
                  have tx_79 : x_79.toInt = x_77.toInt - 1 := i_sub ex_79 rfl (by decide : (1 : Int32).toInt = 1) (by omega) (by omega)
                  refine lv_iconst (v := 3) hx hb dX10_passes_192 (by decide) ?_
                  refine lv_iload_n hx hb dX10_passes_193 rfl (lv_at hl 1 rfl) ?_
                  have lk_82 : (tY M_73 60 38 1).toInt = (tY M_46 60 38 1).toInt := by rw [(cg q_74.2.2.1 1)]
                  refine ti_callVv (ci := 10) (av := [.int 1, .int x_79, .int 3, .int x_1]) C hw (s_X10_leaves_1 l D A cy hJ M_73 iM_73 (mC_qw q_74 f_48) x_79 3 x_1 (by first | omega | decide | (have l0 : (0 : Int32).toInt = 0 := (by decide); have l2 : (2 : Int32).toInt = 2 := (by decide); have l3 : (3 : Int32).toInt = 3 := (by decide); omega)) (by first | omega | decide | (have l0 : (0 : Int32).toInt = 0 := (by decide); have l2 : (2 : Int32).toInt = 2 := (by decide); have l3 : (3 : Int32).toInt = 3 := (by decide); omega)) (by first | omega | decide | (have l0 : (0 : Int32).toInt = 0 := (by decide); have l2 : (2 : Int32).toInt = 2 := (by decide); have l3 : (3 : Int32).toInt = 3 := (by decide); omega))) ⟨ml_X10_377, ym_X10_leaves, yv_X10_leaves, yi_X10_leaves, yc_X10_leaves⟩ yd_X10_leaves ob_60 (by decide) rfl rfl hl.1 (Nat.le_of_ble_eq_true rfl) ⟨by decide, by decide⟩ ⟨Nat.zero_le _, Nat.zero_le _⟩ dX10_passes_194 (fun M_81 H locs hp_81 hw => ?_)
                  obtain ⟨iM_81, q_83, q_84, q_85, p0r_80⟩ := hp_81
                  exact hj_197_89 M_81 _ _ _ iM_81 (rq.trans q_83 (rq.trans (rq_qw q_74) f_47)) q_84 (((q_85).trans ((q_75).trans f_49))) hw (lv_sub hl [0, 1, 2, 3, 4] rfl)
        · refine lv_aload_n hx hb dX10_passes_105 rfl (lv_at hl 2 rfl) ?_
          refine ti_get (ci := 10) (k := 41) (N := 67) (T := TX10) (v := .ref (A 60 42)) C hw iw_10 rfl ob_60 (by decide) (by decide) fl_X10_90 rfl rfl dX10_passes_106 ?_
          refine lv_bipush (v := 8) hx hb dX10_passes_109 (by decide) ?_
          refine lv_iload_n hx hb dX10_passes_111 rfl (lv_at hl 3 rfl) ?_
          refine lv_imul hx hb dX10_passes_112 ?_
          refine ti_top (y := 8) (by decide) ?_
          refine lv_aload_n hx hb dX10_passes_113 rfl (lv_at hl 2 rfl) ?_
          refine ti_get (ci := 10) (k := 39) (N := 67) (T := TX10) (v := .ref (A 60 40)) C hw iw_10 rfl ob_60 (by decide) (by decide) fl_X10_84 rfl rfl dX10_passes_114 ?_
          refine lv_bipush (v := 8) hx hb dX10_passes_117 (by decide) ?_
          refine lv_iload_n hx hb dX10_passes_119 rfl (lv_at hl 3 rfl) ?_
          refine lv_imul hx hb dX10_passes_120 ?_
          refine ti_top (y := 8) (by decide) ?_
          refine lv_iload hx hb dX10_passes_121 (lv_at hl 0 rfl) ?_
          refine lv_iadd hx hb dX10_passes_123 ?_
          refine lv_topi (fun x_53 ex_53 => ?_)
          have tx_53 : x_53.toInt = 8 + x_43.toInt := i_add ex_53 (by decide : (8 : Int32).toInt = 8) rfl (by omega) (by omega)
          refine ti_iald (ci := 10) (k := 39) (n := 184) C hw ob_60 (by decide) (fun _ _ => rfl) (vp_in_iff.mpr (by omega)) dX10_passes_124 ?_
          refine lv_topi (fun x_54 ex_54 => ?_)
          have yx_54 : tY M_46 60 39 x_53.toNatClampNeg = x_54 := (ex_54.symm)
          have bx_54 : 0 ≤ x_54.toInt ∧ x_54.toInt ≤ 7 := mI_ry (k := 39) (i := x_53.toNatClampNeg) iM_46 yx_54.symm
          refine lv_iadd hx hb dX10_passes_125 ?_
          refine lv_topi (fun x_55 ex_55 => ?_)
          have tx_55 : x_55.toInt = 8 + x_54.toInt := i_add ex_55 (by decide : (8 : Int32).toInt = 8) rfl (by omega) (by omega)
          refine ti_iald (ci := 10) (k := 41) (n := 184) C hw ob_60 (by decide) (fun _ _ => rfl) (vp_in_iff.mpr (by omega)) dX10_passes_126 ?_
          refine lv_topi (fun x_56 ex_56 => ?_)
          have yx_56 : tY M_46 60 41 x_55.toNatClampNeg = x_56 := (ex_56.symm)
          have hj_139_67 : ∀ (M_63 : ti_M) (H : Heap) (locs : List Loc) (ls : Array Slot), (mI Tm M_63) → (rq 1 M_63 M) → (mC M_63 1) → (tY M_63 60 34 = tY M 60 34) → (x_43.toInt ≤ (tY M_63 60 38 1).toInt) → ti_H ti_LM D A cy H0 M_63 H locs → lv_has ls 5 [(4, .int x_43), (3, .int x_1), (0, .ref (A 60 0)), (1, .int 1), (2, .int mu)] → W p l e (ti_rm 6) s m args below meth c H locs 0 0 Q (F0 m 139 ls []) := by
            intro M_63 H locs ls iM_63 f_64 f_65 f_66 j_67 hw hl
            obtain ⟨x_68, ex_68⟩ : ∃ z : Int32, z = x_43 + (-1) := ⟨_, rfl⟩
            have tx_68 : x_68.toInt = x_43.toInt + (-1) := i_add ex_68 rfl (by decide) (by omega) (by omega)
            refine lv_iinc (v := x_68) (lv' := [(4, .int x_68), (3, .int x_1), (0, .ref (A 60 0)), (1, .int 1), (2, .int mu)]) hx hb dX10_passes_139 hl (k := 0) rfl (by rw [ex_68]; rfl) (by decide) rfl (fun ls hl => ?_)
            refine lv_goto (tgt := 99) hx hb dX10_passes_142 (by decide) ?_
            exact ih_51 x_68 M_63 _ _ _ (by omega) (by first | omega | decide) (by first | omega | decide) iM_63 f_64 f_65 ((f_66)) (by first | omega | decide) hw (lv_sub hl [0, 1, 2, 3, 4] rfl)
          refine sb_if_gt (tgt := 139) hx hb rfl dX10_passes_127 (by decide) (fun c_127_56 => ?_) (fun c_127_56 => ?_)
          · exact hj_139_67 M_46 _ _ _ iM_46 f_47 f_48 ((f_49)) (by first | omega | decide) hw (lv_sub hl [0, 1, 2, 3, 4] rfl)
          · refine lv_aload_n hx hb dX10_passes_130 rfl (lv_at hl 2 rfl) ?_
            refine lv_iload_n hx hb dX10_passes_131 rfl (lv_at hl 3 rfl) ?_
            refine lv_iload hx hb dX10_passes_132 (lv_at hl 0 rfl) ?_
            refine lv_iconst (v := 3) hx hb dX10_passes_134 (by decide) ?_
            refine lv_iload_n hx hb dX10_passes_135 rfl (lv_at hl 1 rfl) ?_
            refine ti_callVv (ci := 10) (av := [.int 1, .int x_43, .int 3, .int x_1]) C hw (s_X10_leaves_1 l D A cy hJ M_46 iM_46 f_48 x_43 3 x_1 (by first | omega | decide | (have l0 : (0 : Int32).toInt = 0 := (by decide); have l2 : (2 : Int32).toInt = 2 := (by decide); have l3 : (3 : Int32).toInt = 3 := (by decide); omega)) (by first | omega | decide | (have l0 : (0 : Int32).toInt = 0 := (by decide); have l2 : (2 : Int32).toInt = 2 := (by decide); have l3 : (3 : Int32).toInt = 3 := (by decide); omega)) (by first | omega | decide | (have l0 : (0 : Int32).toInt = 0 := (by decide); have l2 : (2 : Int32).toInt = 2 := (by decide); have l3 : (3 : Int32).toInt = 3 := (by decide); omega))) ⟨ml_X10_377, ym_X10_leaves, yv_X10_leaves, yi_X10_leaves, yc_X10_leaves⟩ yd_X10_leaves ob_60 (by decide) rfl rfl hl.1 (Nat.le_of_ble_eq_true rfl) ⟨by decide, by decide⟩ ⟨Nat.zero_le _, Nat.zero_le _⟩ dX10_passes_136 (fun M_59 H locs hp_59 hw => ?_)
            obtain ⟨iM_59, q_60, q_61, q_62, p0r_58⟩ := hp_59
            exact hj_139_67 M_59 _ _ _ iM_59 (rq.trans q_60 f_47) q_61 (((q_62).trans f_49)) (by first | omega | decide) hw (lv_sub hl [0, 1, 2, 3, 4] rfl)
    exact hl_99_50 ((x_42.toInt + 1 : Int).toNat + 1) x_42 M_37 _ _ _ (Nat.lt_succ_self _) (by first | omega | decide) (by first | omega | decide) iM_37 f_38 f_39 ((f_40)) (by first | omega | decide) hw (lv_sub hl [0, 1, 2, 3, 4] rfl)
  refine sb_if_le (tgt := 89) hx hb rfl dX10_passes_42 (by decide) (fun c_42_24 => ?_) (fun c_42_24 => ?_)
  · exact hj_89_40 M_21 _ _ _ iM_21 (rq.trans (rq_qw q_22) (rq.trans (rq_qw q_18) (rq.trans (rq_qw q_14) (rq.trans q_9 q_4)))) (mC_qw (qw.trans q_22 (qw.trans q_18 q_14)) q_10) (((q_23).trans ((q_19).trans ((q_15).trans ((q_11).trans q_6))))) hw (lv_sub hl [0, 1, 2, 3] rfl)
  · refine lv_aload_n hx hb dX10_passes_45 rfl (lv_at hl 1 rfl) ?_
    refine ti_get (ci := 10) (k := 42) (N := 67) (T := TX10) (v := .ref (A 60 43)) C hw iw_10 rfl ob_60 (by decide) (by decide) fl_X10_93 rfl rfl dX10_passes_46 ?_
    refine lv_bipush (v := 8) hx hb dX10_passes_49 (by decide) ?_
    refine lv_iload_n hx hb dX10_passes_51 rfl (lv_at hl 2 rfl) ?_
    refine lv_imul hx hb dX10_passes_52 ?_
    refine ti_top (y := 8) (by decide) ?_
    refine lv_aload_n hx hb dX10_passes_53 rfl (lv_at hl 1 rfl) ?_
    refine ti_get (ci := 10) (k := 39) (N := 67) (T := TX10) (v := .ref (A 60 40)) C hw iw_10 rfl ob_60 (by decide) (by decide) fl_X10_84 rfl rfl dX10_passes_54 ?_
    refine lv_bipush (v := 8) hx hb dX10_passes_57 (by decide) ?_
    refine lv_iload_n hx hb dX10_passes_59 rfl (lv_at hl 2 rfl) ?_
    refine lv_imul hx hb dX10_passes_60 ?_
    refine ti_top (y := 8) (by decide) ?_
    refine ti_iald (ci := 10) (k := 39) (n := 184) C hw ob_60 (by decide) (fun _ _ => rfl) (by unfold vp_in; decide) dX10_passes_61 ?_
    refine lv_topi (fun x_26 ex_26 => ?_)
    have yx_26 : tY M_21 60 39 8 = x_26 := ((congrArg _ (by decide)).symm.trans ex_26.symm)
    have bx_26 : 0 ≤ x_26.toInt ∧ x_26.toInt ≤ 7 := mI_ry (k := 39) (i := 8) iM_21 yx_26.symm
    have wx_26 : tY M_8 60 39 8 = x_26 := (((cg q_22.2.2.2.1 8).trans ((cg q_18.2.2.2.1 8).trans (cg q_14.2.2.2.1 8)))).symm.trans yx_26
    refine lv_iadd hx hb dX10_passes_62 ?_
    refine lv_topi (fun x_27 ex_27 => ?_)
    have tx_27 : x_27.toInt = 8 + x_26.toInt := i_add ex_27 (by decide : (8 : Int32).toInt = 8) rfl (by omega) (by omega)
    refine ti_iald (ci := 10) (k := 42) (n := 184) C hw ob_60 (by decide) (fun _ _ => rfl) (vp_in_iff.mpr (by omega)) dX10_passes_63 ?_
    refine lv_topi (fun x_28 ex_28 => ?_)
    have yx_28 : tY M_21 60 42 x_27.toNatClampNeg = x_28 := (ex_28.symm)
    refine lv_aload_n hx hb dX10_passes_64 rfl (lv_at hl 1 rfl) ?_
    refine ti_get (ci := 10) (k := 8) (N := 67) (T := TX10) (v := .ref (A 60 9)) C hw iw_10 rfl ob_60 (by decide) (by decide) fl_X10_28 rfl rfl dX10_passes_65 ?_
    refine lv_aload_n hx hb dX10_passes_68 rfl (lv_at hl 1 rfl) ?_
    refine ti_get (ci := 10) (k := 39) (N := 67) (T := TX10) (v := .ref (A 60 40)) C hw iw_10 rfl ob_60 (by decide) (by decide) fl_X10_84 rfl rfl dX10_passes_69 ?_
    refine lv_bipush (v := 8) hx hb dX10_passes_72 (by decide) ?_
    refine lv_iload_n hx hb dX10_passes_74 rfl (lv_at hl 2 rfl) ?_
    refine lv_imul hx hb dX10_passes_75 ?_
    refine ti_top (y := 8) (by decide) ?_
    refine ti_iald (ci := 10) (k := 39) (n := 184) C hw ob_60 (by decide) (fun _ _ => rfl) (by unfold vp_in; decide) dX10_passes_76 ?_
    refine ti_top (y := x_26) ((congrArg _ (by decide)).trans ((cg q_22.2.2.2.1 8).trans ((cg q_18.2.2.2.1 8).trans ((cg q_14.2.2.2.1 8).trans wx_26)))) ?_
    refine ti_iald (ci := 10) (k := 8) (n := 16) C hw ob_60 (by decide) (fun _ _ => rfl) (vp_in_iff.mpr (by omega)) dX10_passes_77 ?_
    refine lv_topi (fun x_29 ex_29 => ?_)
    have yx_29 : tY M_21 60 8 x_26.toNatClampNeg = x_29 := (ex_29.symm)
    have wx_29 : tY M 60 8 x_26.toNatClampNeg = x_29 := (((cg (q_22.1 8 (by decide) (by decide)) x_26.toNatClampNeg).trans ((cg (q_18.1 8 (by decide) (by decide)) x_26.toNatClampNeg).trans ((cg (q_14.1 8 (by decide) (by decide)) x_26.toNatClampNeg).trans ((cg (q_9.1 8 (by decide) (by decide)) x_26.toNatClampNeg).trans (cg (q_4.1 8 (by decide) (by decide)) x_26.toNatClampNeg)))))).symm.trans yx_29
    refine sb_icmp_ne (tgt := 89) hx hb rfl rfl dX10_passes_78 (by decide) (fun c_78_29 => ?_) (fun c_78_29 => ?_)
    · exact hj_89_40 M_21 _ _ _ iM_21 (rq.trans (rq_qw q_22) (rq.trans (rq_qw q_18) (rq.trans (rq_qw q_14) (rq.trans q_9 q_4)))) (mC_qw (qw.trans q_22 (qw.trans q_18 q_14)) q_10) (((q_23).trans ((q_19).trans ((q_15).trans ((q_11).trans q_6))))) hw (lv_sub hl [0, 1, 2, 3] rfl)
    · refine lv_aload_n hx hb dX10_passes_81 rfl (lv_at hl 1 rfl) ?_
      refine lv_iload_n hx hb dX10_passes_82 rfl (lv_at hl 2 rfl) ?_
      refine lv_iconst (v := 0) hx hb dX10_passes_83 (by decide) ?_
      refine lv_iconst (v := 2) hx hb dX10_passes_84 (by decide) ?_
      refine lv_iload_n hx hb dX10_passes_85 rfl (lv_at hl 0 rfl) ?_
      have lk_33 : (tY M_21 60 38 1).toInt = (tY M_8 60 38 1).toInt := by rw [((cg q_22.2.2.1 1).trans ((cg q_18.2.2.1 1).trans (cg q_14.2.2.1 1)))]
      refine ti_callVv (ci := 10) (av := [.int 1, .int 0, .int 2, .int x_1]) C hw (s_X10_leaves_1 l D A cy hJ M_21 iM_21 (mC_qw (qw.trans q_22 (qw.trans q_18 q_14)) q_10) 0 2 x_1 (by first | omega | decide | (have l0 : (0 : Int32).toInt = 0 := (by decide); have l2 : (2 : Int32).toInt = 2 := (by decide); have l3 : (3 : Int32).toInt = 3 := (by decide); omega)) (by first | omega | decide | (have l0 : (0 : Int32).toInt = 0 := (by decide); have l2 : (2 : Int32).toInt = 2 := (by decide); have l3 : (3 : Int32).toInt = 3 := (by decide); omega)) (by first | omega | decide | (have l0 : (0 : Int32).toInt = 0 := (by decide); have l2 : (2 : Int32).toInt = 2 := (by decide); have l3 : (3 : Int32).toInt = 3 := (by decide); omega))) ⟨ml_X10_377, ym_X10_leaves, yv_X10_leaves, yi_X10_leaves, yc_X10_leaves⟩ yd_X10_leaves ob_60 (by decide) rfl rfl hl.1 (Nat.le_of_ble_eq_true rfl) ⟨by decide, by decide⟩ ⟨Nat.zero_le _, Nat.zero_le _⟩ dX10_passes_86 (fun M_32 H locs hp_32 hw => ?_)
      obtain ⟨iM_32, q_34, q_35, q_36, p0r_31⟩ := hp_32
      exact hj_89_40 M_32 _ _ _ iM_32 (rq.trans q_34 (rq.trans (rq_qw q_22) (rq.trans (rq_qw q_18) (rq.trans (rq_qw q_14) (rq.trans q_9 q_4))))) q_35 (((q_36).trans ((q_23).trans ((q_19).trans ((q_15).trans ((q_11).trans q_6)))))) hw (lv_sub hl [0, 1, 2, 3] rfl)
set_option maxHeartbeats 4000000 in
set_option maxRecDepth 100000 in
theorem s_X10_runs (l : Launch) (D : va_G) (A : Nat → Nat → Nat) (cy : Nat → ClassId) (hJ : ti_inj ti_LM A) (M : ti_M) (hI : mI Tm M) (hC : mC M 1) (hL : mL M) (n : Int32) : ti_Kv l yX10_runs cX10_runs 3 7 ti_LM D A cy M [.ref (A 60 0), .int n] (fun M2 => mI Tm M2 ∧ rq 1 M2 M ∧ mC M2 1) := by
  refine ti_eV yp_X10_runs hJ ti_LM_nd (Nat.le_of_ble_eq_true rfl) ?_
  intro p e s m args below meth c Q H0 C hQ hw ls hl
  have hx := C.1
  have hb := C.2.1
  have hl : lv_has ls 3 [(0, .ref (A 60 0)), (1, .int n)] := hl
  have hn := n.toInt_lt
  refine lv_iconst (v := 0) hx hb dX10_runs_0 (by decide) ?_
  refine lv_istore_n (lv' := [(2, .int 0), (0, .ref (A 60 0)), (1, .int n)]) hx hb dX10_runs_1 rfl hl (by decide) rfl (fun ls hl => ?_)
  have hl_2_5 : ∀ (n_6 : Nat) (x_1 : Int32) (M_3 : ti_M) (H : Heap) (locs : List Loc) (ls : Array Slot), (n.toInt - x_1.toInt : Int).toNat < n_6 → (0 ≤ x_1.toInt) → (mI Tm M_3) → (rq 1 M_3 M) → (mC M_3 1) → ti_H ti_LM D A cy H0 M_3 H locs → lv_has ls 3 [(2, .int x_1), (0, .ref (A 60 0)), (1, .int n)] → W p l e (ti_rm 7) s m args below meth c H locs 0 0 Q (F0 m 2 ls []) := by
    intro n_6
    induction n_6 with
    | zero => intro x_1 M_3 H locs ls hf_6; exact absurd hf_6 (Nat.not_lt_zero _)
    | succ n_6 ih_6 =>
      intro x_1 M_3 H locs ls hf_6 b_2 iM_3 f_4 f_5 hw hl
      refine lv_iload_n hx hb dX10_runs_2 rfl (lv_at hl 0 rfl) ?_
      refine lv_iload_n hx hb dX10_runs_3 rfl (lv_at hl 2 rfl) ?_
      refine sb_icmp_ge (tgt := 19) hx hb rfl rfl dX10_runs_4 (by decide) (fun c_4_6 => ?_) (fun c_4_6 => ?_)
      · exact hQ _ _ _ _ _ hw (⟨iM_3, f_4, f_5⟩) dX10_runs_19
      · refine lv_aload_n hx hb dX10_runs_7 rfl (lv_at hl 1 rfl) ?_
        refine lv_iconst (v := 1) hx hb dX10_runs_8 (by decide) ?_
        refine lv_iconst (v := 0) hx hb dX10_runs_9 (by decide) ?_
        refine ti_callVv (ci := 10) (av := [.int 1, .int 0]) C hw (s_X10_passes_1 l D A cy hJ M_3 iM_3 f_5 (mL_lw (lk_of f_4.1 f_4.2.1).1 hL) 0) ⟨ml_X10_407, ym_X10_passes, yv_X10_passes, yi_X10_passes, yc_X10_passes⟩ yd_X10_passes ob_60 (by decide) rfl rfl hl.1 (Nat.le_of_ble_eq_true rfl) ⟨by decide, by decide⟩ ⟨Nat.zero_le _, Nat.zero_le _⟩ dX10_runs_10 (fun M_9 H locs hp_9 hw => ?_)
        obtain ⟨iM_9, q_10, q_11⟩ := hp_9
        obtain ⟨x_12, ex_12⟩ : ∃ z : Int32, z = x_1 + 1 := ⟨_, rfl⟩
        have lox_12 := x_1.le_toInt
        have hix_12 := x_1.toInt_lt
        have tx_12 : x_12.toInt = x_1.toInt + 1 := i_add ex_12 rfl (by decide) (by omega) (by omega)
        refine lv_iinc (v := x_12) (lv' := [(2, .int x_12), (0, .ref (A 60 0)), (1, .int n)]) hx hb dX10_runs_13 hl (k := 0) rfl (by rw [ex_12]; rfl) (by decide) rfl (fun ls hl => ?_)
        refine lv_goto (tgt := 2) hx hb dX10_runs_16 (by decide) ?_
        exact ih_6 x_12 M_9 _ _ _ (by omega) (by first | omega | decide) iM_9 (rq.trans q_10 f_4) q_11 hw (lv_sub hl [0, 1, 2] rfl)
  exact hl_2_5 ((n.toInt - 0 : Int).toNat + 1) 0 M _ _ _ (Nat.lt_succ_self _) (by have lt0 : (0 : Int32).toInt = 0 := (by decide); first | omega | decide) hI rq.refl hC hw (lv_sub hl [0, 1, 2] rfl)

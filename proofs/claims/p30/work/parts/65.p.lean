variable {Tc : gC} {Tm : gM}
/-! bits that are asked for -/
theorem bt_01 (h : Int32) (k : Nat) : pp_bt h k = 0 ∨ pp_bt h k = 1 := by unfold pp_bt; split <;> omega
theorem bt_sr : ∀ l : Nat, l < 32 → ((nI l &&& 31 : Int32).toBitVec.smod 32).toNat = l := by decide +kernel
theorem bt_shr {h x z y : Int32} {k : Int} (ez : z = h >>> (x &&& 31)) (hx : x.toInt = k) (h0 : 0 ≤ k) (h1 : k < 32) (ey : y = z &&& 1) : y.toInt = pp_bt h k.toNat := by
  have ex : x = nI k.toNat := Int32.toInt_inj.mp (by rw [nI_toInt (by omega)]; omega)
  have hz : z.toBitVec = h.toBitVec.sshiftRight k.toNat := by
    rw [ez, Int32.toBitVec_shiftRight, ex]
    show h.toBitVec.sshiftRight ((nI k.toNat &&& 31 : Int32).toBitVec.smod 32).toNat = _
    rw [bt_sr _ (by omega)]
  have hy : y.toBitVec = z.toBitVec &&& BitVec.twoPow 32 0 := by rw [ey, Int32.toBitVec_and]; rfl
  rw [BitVec.and_twoPow, hz, BitVec.getLsbD_sshiftRight] at hy
  have e : (!decide (32 ≤ 0) && if k.toNat + 0 < 32 then h.toBitVec.getLsbD (k.toNat + 0) else h.toBitVec.msb) = h.toBitVec.getLsbD k.toNat := by
    rw [if_pos (by omega)]; simp
  rw [e] at hy
  unfold pp_bt
  by_cases q : h.toBitVec.getLsbD k.toNat = true
  · rw [if_pos q] at hy
    rw [if_pos q]
    have : y = 1 := Int32.toBitVec_inj.mp (hy.trans (by decide))
    rw [this]; decide
  · rw [if_neg q] at hy
    rw [if_neg q]
    have : y = 0 := Int32.toBitVec_inj.mp (hy.trans (by decide))
    rw [this]; decide
theorem rb_k {M : ti_M} {k : Nat} {x z : Int32} {s : Nat} (e : tY M 60 k x.toNatClampNeg = z) (hx : x.toInt = (s : Int)) : (tY M 60 k s).toInt = z.toInt := by
  rw [i_cl hx] at e
  rw [e]
def pp_o1 (s : Nat → Int) : Nat → Int := if 3 ≤ s 0 ∧ s 0 ≤ 7 then pp_su s (300 + (s 0).toNat) 1 else s
section
variable {B : Nat → Int} {n : Nat} {s : Nat → Int} {M N : ti_M}
theorem o1_n (h : ¬ (3 ≤ s 0 ∧ s 0 ≤ 7)) : pp_o1 s = s := by unfold pp_o1; rw [if_neg h]
theorem o1_on (h : 3 ≤ s 0 ∧ s 0 ≤ 7) (hb : s (300 + (s 0).toNat) = 0) : pp_on B n s = pp_av B n (pp_o1 s) := by unfold pp_o1 pp_on; rw [if_pos h, if_pos hb]
theorem o1_4 : pp_o1 s 4 = s 4 := by
  unfold pp_o1
  split
  · exact su_n (by omega)
  · rfl
theorem rQ_18w {z : Int32} {k0 : Nat} (h : rQ B n s M) (e : N = uI M 60 18 z) (hb : ∀ j : Nat, j < 32 → pp_bt z j = if j = k0 then 1 else pp_bt (tI M 60 18) j) (hk : (k0 : Int) = s 0) (h8 : s 0 ≤ 8) : rQ B n (pp_o1 s) N := by
  by_cases q : 3 ≤ s 0 ∧ s 0 ≤ 7
  · unfold pp_o1
    rw [if_pos q]
    exact rQ_18 h e hb (Or.inl ⟨by omega, by omega, by omega⟩)
  · rw [o1_n q]
    exact rQ_18n h e hb (by omega)
theorem rQ_b3 (h : rQ B n s M) (hz : s 4 = 0) (hk : 3 ≤ s 0 ∧ s 0 ≤ 7) : s (300 + (s 0).toNat) = pp_bt (tI M 60 18) (s 0).toNat := (h.2.2.2 hz).2.2.2.2.1 (s 0).toNat (by omega) (by omega)
theorem rQ_b9 (h : rQ B n s M) (hz : s 4 = 0) (hk : 9 ≤ s 0 ∧ s 0 ≤ 11) : s (300 + (s 0).toNat) = pp_bt (tI M 60 18) ((s 0).toNat + 3) := by
  have e := ((h.2.2.2 hz).2.2.2.2.2 ((s 0).toNat - 9) (by omega)).1
  rw [show 309 + ((s 0).toNat - 9) = 300 + (s 0).toNat by omega, show 12 + ((s 0).toNat - 9) = (s 0).toNat + 3 by omega] at e
  exact e
theorem rQ_b12 (h : rQ B n s M) (hz : s 4 = 0) (hk : 12 ≤ s 0 ∧ s 0 ≤ 14) : s (300 + (s 0).toNat) = pp_bt (tI M 60 18) ((s 0).toNat + 4) := by
  have e := ((h.2.2.2 hz).2.2.2.2.2 ((s 0).toNat - 12) (by omega)).2
  rw [show 312 + ((s 0).toNat - 12) = 300 + (s 0).toNat by omega, show 16 + ((s 0).toNat - 12) = (s 0).toNat + 4 by omega] at e
  exact e
theorem rQ_g200 (h : rQ B n s M) (hz : s 4 = 0) {i : Nat} (hi : i < 8) (hl : (i : Int) < s 7) : s (200 + i) = (tY M 60 13 (8 + i)).toInt - 1 ∧ -1 ≤ s (200 + i) := ((h.2.2.2 hz).2.2.2.1 i hi hl).2
end
theorem pp_fdb {s : Nat → Int} {v : Int} {i : Nat} : pp_fd s v i = -1 ∨ (0 ≤ pp_fd s v i ∧ pp_fd s v i < s 7) := by
  have : ∀ (f i : Nat), (f = (s 7).toNat - i) → pp_ff s v f i = -1 ∨ (0 ≤ pp_ff s v f i ∧ pp_ff s v f i < s 7) := by
    intro f
    induction f with
    | zero => intro i _; exact Or.inl rfl
    | succ f ih =>
      intro i h
      rw [pp_ff]
      split
      · exact Or.inr ⟨by omega, by omega⟩
      · exact ih (i + 1) (by omega)
  exact this _ _ rfl
set_option maxHeartbeats 4000000 in
set_option maxRecDepth 100000 in
theorem x_X10_manLine (l : Launch) (D : va_G) (A : Nat → Nat → Nat) (cy : Nat → ClassId) (hJ : ti_inj ti_LM A) (M : ti_M) (hI : mI Tm M) (mz nm : Int32) (hm1 : 8 ≤ mz.toInt) (hm2 : mz.toInt ≤ 15) (h11 : tY M 60 3 11 = nm) (hn0 : 0 ≤ nm.toInt) (hn : nm.toInt ≤ 7) (hmz : mz.toInt = 8 + nm.toInt) (B : Nat → Int) (n : Nat) (rg : Nat → Int) (hr : rQ B n rg M) : ti_KvE l yX10_manLine cX10_manLine 2 7 ti_LM D A cy M [.ref (A 60 0), .int mz] (fun M2 => rQ B n (pp_mq B n rg) M2 ∧ mI Tm M2 ∧ l0 M2 M ∧ (pg M ≤ pg M2) ∧ (0 ≤ ff M2) ∧ (ff M2 ≤ ff M) ∧ ((tI M2 60 29).toInt = (tI M 60 29).toInt) ∧ ((tI M2 60 30).toInt = (tI M 60 30).toInt) ∧ ((tY M2 60 3 18).toInt = (tY M 60 3 18).toInt)) := by
  refine ti_eVE yp_X10_manLine hJ ti_LM_nd (Nat.le_of_ble_eq_true rfl) ?_
  intro p e s m args below meth c Q H0 C hE hQ hw ls hl
  have hx := C.1
  have hb := C.2.1
  have hl : lv_has ls 2 [(0, .ref (A 60 0)), (1, .int mz)] := hl
  have hI30 := b30 hI
  have hI29 := b29 hI
  have hI18 := b18 hI
  have hIff := ff_b M
  have e7 : rg 4 = 0 → rg 7 = nm.toInt := fun q => mh_7 hr q h11
  obtain ⟨g1, eg1⟩ : ∃ z : Nat → Int, z = pp_su rg (100 + (rg 7).toNat) (rg 1) := ⟨_, rfl⟩
  have hs1 := rQ_su (r := 100 + (rg 7).toNat) (v := rg 1) hr (fun q => by have := e7 q; omega) (Or.inl rfl)
  rw [← eg1] at hs1
  have e71 : g1 4 = 0 → g1 7 = nm.toInt := fun q => by rw [eg1, su_n (by omega)] at q; rw [eg1, su_n (by omega)]; exact e7 q
  refine lv_aload_n hx hb dX10_manLine_0 rfl (lv_at hl 0 rfl) ?_
  refine ti_get (ci := 10) (k := 4) (N := 67) (T := TX10) (v := .ref (A 60 5)) C hw iw_10 rfl ob_60 (by decide) (by decide) fl_X10_16 rfl rfl dX10_manLine_1 ?_
  refine lv_iload_n hx hb dX10_manLine_4 rfl (lv_at hl 1 rfl) ?_
  refine lv_aload_n hx hb dX10_manLine_5 rfl (lv_at hl 0 rfl) ?_
  refine lv_aload_n hx hb dX10_manLine_6 rfl (lv_at hl 0 rfl) ?_
  refine ti_get (ci := 10) (k := 4) (N := 67) (T := TX10) (v := .ref (A 60 5)) C hw iw_10 rfl ob_60 (by decide) (by decide) fl_X10_16 rfl rfl dX10_manLine_7 ?_
  refine lv_bipush (v := 8) hx hb dX10_manLine_10 (by decide) ?_
  refine lv_aload_n hx hb dX10_manLine_12 rfl (lv_at hl 0 rfl) ?_
  refine lv_iconst (v := 0) hx hb dX10_manLine_13 (by decide) ?_
  refine ti_callVi (ci := 10) (av := [.int 0]) C hw (s_X10_fresher_0 l D A cy hJ M hI ) ⟨ml_X10_224, ym_X10_fresher, yv_X10_fresher, yi_X10_fresher, yc_X10_fresher⟩ yd_X10_fresher ob_60 (by decide) rfl rfl hl.1 (Nat.le_of_ble_eq_true rfl) ⟨by decide, by decide⟩ ⟨Nat.zero_le _, Nat.zero_le _⟩ dX10_manLine_14 (fun r_1 M_2 H locs hp_2 hw => ?_)
  obtain ⟨hm, b0r_1, b1r_1, yr_1⟩ := hp_2
  have hw := hw.to hm
  have sr_1 : r_1.toInt = (nm : Int32).toInt := by rw [← yr_1, (h11)]
  have zr_1 : (tY M 60 3 11).toInt = r_1.toInt := by rw [yr_1]
  refine ti_callViE (ci := 10) (av := [.ref (A 60 5), .int 8, .int r_1]) C hE hw (x_X10_fresh l D A cy hJ M hI r_1 (by first | omega | decide) (by first | omega | decide) B n g1 hs1 (fun q => by have := e71 q; omega)) ⟨ml_X10_257, ym_X10_fresh, yv_X10_fresh, yi_X10_fresh, yc_X10_fresh⟩ yd_X10_fresh ob_60 (by decide) rfl rfl hl.1 (Nat.le_of_ble_eq_true rfl) ⟨by decide, by decide⟩ ⟨Nat.zero_le _, Nat.zero_le _⟩ dX10_manLine_17 (fun r_3 M_4 H locs hp_4 hw => ?_)
  obtain ⟨hs_5, hm_6, hp_7⟩ := hp_4
  obtain ⟨iM_4, q_8, p_9, p_10, p_11⟩ := hp_7
  have z_12 := l_ps (by decide) (by decide) ⟨iM_4, q_8, p_9, p_10, p_11⟩
  clear p_9 p_10 p_11
  obtain ⟨g_13, eg_13⟩ : ∃ z : Nat → Int, z = pp_tk B n 25 (pp_m2 g1) := ⟨_, rfl⟩
  rw [← eg_13] at hs_5
  refine ti_iast (ci := 10) (k := 4) (n := 16) C hw ob_60 (by decide) (fun _ _ => rfl) (vp_in_iff.mpr (by omega)) dX10_manLine_20 (fun H locs hw => ?_)
  obtain ⟨M_14, hM_14⟩ : ∃ z : ti_M, z = uY M_4 60 4 (upd (tY M_4 60 4) (mz : Int32).toNatClampNeg r_3) := ⟨_, rfl⟩
  have hw := hw.to hM_14.symm
  have iM_14 : mI Tm M_14 := mI_up (i := mz.toNatClampNeg) iM_4 hM_14 trivial
  have z_15 := s5_Y hM_14 (by decide)
  have hs_17 := rQ_4 hs_5 hM_14 (fun q => by have g7 := mh_7 hs_5 q ((cg (tY_fr q_8.1) 11).trans h11); show 8 + _ ≤ ((mz.toInt.toNat : Nat) : Int); omega)
  refine lv_aload_n hx hb dX10_manLine_21 rfl (lv_at hl 0 rfl) ?_
  refine ti_get (ci := 10) (k := 5) (N := 67) (T := TX10) (v := .ref (A 60 6)) C hw iw_10 rfl ob_60 (by decide) (by decide) fl_X10_19 rfl rfl dX10_manLine_22 ?_
  refine lv_iload_n hx hb dX10_manLine_25 rfl (lv_at hl 1 rfl) ?_
  refine lv_aload_n hx hb dX10_manLine_26 rfl (lv_at hl 0 rfl) ?_
  refine lv_iconst (v := 1) hx hb dX10_manLine_27 (by decide) ?_
  refine lv_bipush (v := 99) hx hb dX10_manLine_28 (by decide) ?_
  refine ti_callViE (ci := 10) (av := [.int 1, .int 99]) C hE hw (x_X10_numeral l D A cy hJ M_14 iM_14 1 99 (by decide) (by decide) B n g_13 hs_17) ⟨ml_X10_240, ym_X10_numeral, yv_X10_numeral, yi_X10_numeral, yc_X10_numeral⟩ yd_X10_numeral ob_60 (by decide) rfl rfl hl.1 (Nat.le_of_ble_eq_true rfl) ⟨by decide, by decide⟩ ⟨Nat.zero_le _, Nat.zero_le _⟩ dX10_manLine_30 (fun r_18 M_19 H locs hp_19 hw => ?_)
  obtain ⟨hs_20, hm_21, hp_22⟩ := hp_19
  rw [show (1 : Int32).toInt = 1 by decide] at hs_20
  rw [show (99 : Int32).toInt = 99 by decide] at hs_20
  obtain ⟨iM_19, q_23, p_24, p_25, p_26, b0r_18, b1r_18⟩ := hp_22
  have z_27 := l_ps (by decide) (by decide) ⟨iM_19, q_23, p_24, p_25, p_26⟩
  clear p_24 p_25 p_26
  have br_18 : 1 ≤ r_18.toInt ∧ r_18.toInt ≤ 99 := by have l1 : (1 : Int32).toInt = 1 := (by decide); have l2 : (99 : Int32).toInt = 99 := (by decide); omega
  obtain ⟨g_28, eg_28⟩ : ∃ z : Nat → Int, z = pp_nb B n 1 99 g_13 := ⟨_, rfl⟩
  rw [← eg_28] at hs_20
  refine ti_iast (ci := 10) (k := 5) (n := 16) C hw ob_60 (by decide) (fun _ _ => rfl) (vp_in_iff.mpr (by omega)) dX10_manLine_33 (fun H locs hw => ?_)
  obtain ⟨M_29, hM_29⟩ : ∃ z : ti_M, z = uY M_19 60 5 (upd (tY M_19 60 5) (mz : Int32).toNatClampNeg r_18) := ⟨_, rfl⟩
  have hw := hw.to hM_29.symm
  have iM_29 : mI Tm M_29 := mI_up (i := mz.toNatClampNeg) iM_19 hM_29 trivial
  have z_30 := s5_Y hM_29 (by decide)
  have hs_32 := rQ_Yx hs_20 hM_29 (by decide) (by decide) (by decide) (by decide)
  refine lv_aload_n hx hb dX10_manLine_34 rfl (lv_at hl 0 rfl) ?_
  refine ti_get (ci := 10) (k := 6) (N := 67) (T := TX10) (v := .ref (A 60 7)) C hw iw_10 rfl ob_60 (by decide) (by decide) fl_X10_22 rfl rfl dX10_manLine_35 ?_
  refine lv_iload_n hx hb dX10_manLine_38 rfl (lv_at hl 1 rfl) ?_
  refine lv_aload_n hx hb dX10_manLine_39 rfl (lv_at hl 0 rfl) ?_
  refine lv_iconst (v := 0) hx hb dX10_manLine_40 (by decide) ?_
  refine lv_bipush (v := 9) hx hb dX10_manLine_41 (by decide) ?_
  refine ti_callViE (ci := 10) (av := [.int 0, .int 9]) C hE hw (x_X10_numeral l D A cy hJ M_29 iM_29 0 9 (by decide) (by decide) B n g_28 hs_32) ⟨ml_X10_240, ym_X10_numeral, yv_X10_numeral, yi_X10_numeral, yc_X10_numeral⟩ yd_X10_numeral ob_60 (by decide) rfl rfl hl.1 (Nat.le_of_ble_eq_true rfl) ⟨by decide, by decide⟩ ⟨Nat.zero_le _, Nat.zero_le _⟩ dX10_manLine_43 (fun r_33 M_34 H locs hp_34 hw => ?_)
  obtain ⟨hs_35, hm_36, hp_37⟩ := hp_34
  rw [show (0 : Int32).toInt = 0 by decide] at hs_35
  rw [show (9 : Int32).toInt = 9 by decide] at hs_35
  obtain ⟨iM_34, q_38, p_39, p_40, p_41, b0r_33, b1r_33⟩ := hp_37
  have z_42 := l_ps (by decide) (by decide) ⟨iM_34, q_38, p_39, p_40, p_41⟩
  clear p_39 p_40 p_41
  have br_33 : 0 ≤ r_33.toInt ∧ r_33.toInt ≤ 9 := by have l1 : (0 : Int32).toInt = 0 := (by decide); have l2 : (9 : Int32).toInt = 9 := (by decide); omega
  obtain ⟨g_43, eg_43⟩ : ∃ z : Nat → Int, z = pp_nb B n 0 9 g_28 := ⟨_, rfl⟩
  rw [← eg_43] at hs_35
  refine ti_iast (ci := 10) (k := 6) (n := 16) C hw ob_60 (by decide) (fun _ _ => rfl) (vp_in_iff.mpr (by omega)) dX10_manLine_46 (fun H locs hw => ?_)
  obtain ⟨M_44, hM_44⟩ : ∃ z : ti_M, z = uY M_34 60 6 (upd (tY M_34 60 6) (mz : Int32).toNatClampNeg r_33) := ⟨_, rfl⟩
  have hw := hw.to hM_44.symm
  have iM_44 : mI Tm M_44 := mI_up (i := mz.toNatClampNeg) iM_34 hM_44 trivial
  have z_45 := s5_Y hM_44 (by decide)
  have hs_47 := rQ_Yx hs_35 hM_44 (by decide) (by decide) (by decide) (by decide)
  refine lv_aload_n hx hb dX10_manLine_47 rfl (lv_at hl 0 rfl) ?_
  refine ti_get (ci := 10) (k := 7) (N := 67) (T := TX10) (v := .ref (A 60 8)) C hw iw_10 rfl ob_60 (by decide) (by decide) fl_X10_25 rfl rfl dX10_manLine_48 ?_
  refine lv_iload_n hx hb dX10_manLine_51 rfl (lv_at hl 1 rfl) ?_
  refine lv_aload_n hx hb dX10_manLine_52 rfl (lv_at hl 0 rfl) ?_
  refine lv_iconst (v := 1) hx hb dX10_manLine_53 (by decide) ?_
  refine lv_bipush (v := 99) hx hb dX10_manLine_54 (by decide) ?_
  refine ti_callViE (ci := 10) (av := [.int 1, .int 99]) C hE hw (x_X10_numeral l D A cy hJ M_44 iM_44 1 99 (by decide) (by decide) B n g_43 hs_47) ⟨ml_X10_240, ym_X10_numeral, yv_X10_numeral, yi_X10_numeral, yc_X10_numeral⟩ yd_X10_numeral ob_60 (by decide) rfl rfl hl.1 (Nat.le_of_ble_eq_true rfl) ⟨by decide, by decide⟩ ⟨Nat.zero_le _, Nat.zero_le _⟩ dX10_manLine_56 (fun r_48 M_49 H locs hp_49 hw => ?_)
  obtain ⟨hs_50, hm_51, hp_52⟩ := hp_49
  rw [show (1 : Int32).toInt = 1 by decide] at hs_50
  rw [show (99 : Int32).toInt = 99 by decide] at hs_50
  obtain ⟨iM_49, q_53, p_54, p_55, p_56, b0r_48, b1r_48⟩ := hp_52
  have z_57 := l_ps (by decide) (by decide) ⟨iM_49, q_53, p_54, p_55, p_56⟩
  clear p_54 p_55 p_56
  have br_48 : 1 ≤ r_48.toInt ∧ r_48.toInt ≤ 99 := by have l1 : (1 : Int32).toInt = 1 := (by decide); have l2 : (99 : Int32).toInt = 99 := (by decide); omega
  obtain ⟨g_58, eg_58⟩ : ∃ z : Nat → Int, z = pp_nb B n 1 99 g_43 := ⟨_, rfl⟩
  rw [← eg_58] at hs_50
  refine ti_iast (ci := 10) (k := 7) (n := 16) C hw ob_60 (by decide) (fun _ _ => rfl) (vp_in_iff.mpr (by omega)) dX10_manLine_59 (fun H locs hw => ?_)
  obtain ⟨M_59, hM_59⟩ : ∃ z : ti_M, z = uY M_49 60 7 (upd (tY M_49 60 7) (mz : Int32).toNatClampNeg r_48) := ⟨_, rfl⟩
  have hw := hw.to hM_59.symm
  have iM_59 : mI Tm M_59 := mI_up (i := mz.toNatClampNeg) iM_49 hM_59 trivial
  have z_60 := s5_Y hM_59 (by decide)
  have hs_62 := rQ_Yx hs_50 hM_59 (by decide) (by decide) (by decide) (by decide)
  refine lv_aload_n hx hb dX10_manLine_60 rfl (lv_at hl 0 rfl) ?_
  refine ti_get (ci := 10) (k := 8) (N := 67) (T := TX10) (v := .ref (A 60 9)) C hw iw_10 rfl ob_60 (by decide) (by decide) fl_X10_28 rfl rfl dX10_manLine_61 ?_
  refine lv_iload_n hx hb dX10_manLine_64 rfl (lv_at hl 1 rfl) ?_
  refine lv_aload_n hx hb dX10_manLine_65 rfl (lv_at hl 0 rfl) ?_
  refine lv_iconst (v := 1) hx hb dX10_manLine_66 (by decide) ?_
  refine lv_bipush (v := 30) hx hb dX10_manLine_67 (by decide) ?_
  refine ti_callViE (ci := 10) (av := [.int 1, .int 30]) C hE hw (x_X10_numeral l D A cy hJ M_59 iM_59 1 30 (by decide) (by decide) B n g_58 hs_62) ⟨ml_X10_240, ym_X10_numeral, yv_X10_numeral, yi_X10_numeral, yc_X10_numeral⟩ yd_X10_numeral ob_60 (by decide) rfl rfl hl.1 (Nat.le_of_ble_eq_true rfl) ⟨by decide, by decide⟩ ⟨Nat.zero_le _, Nat.zero_le _⟩ dX10_manLine_69 (fun r_63 M_64 H locs hp_64 hw => ?_)
  obtain ⟨hs_65, hm_66, hp_67⟩ := hp_64
  rw [show (1 : Int32).toInt = 1 by decide] at hs_65
  rw [show (30 : Int32).toInt = 30 by decide] at hs_65
  obtain ⟨iM_64, q_68, p_69, p_70, p_71, b0r_63, b1r_63⟩ := hp_67
  have z_72 := l_ps (by decide) (by decide) ⟨iM_64, q_68, p_69, p_70, p_71⟩
  clear p_69 p_70 p_71
  have br_63 : 1 ≤ r_63.toInt ∧ r_63.toInt ≤ 30 := by have l1 : (1 : Int32).toInt = 1 := (by decide); have l2 : (30 : Int32).toInt = 30 := (by decide); omega
  obtain ⟨g_73, eg_73⟩ : ∃ z : Nat → Int, z = pp_nb B n 1 30 g_58 := ⟨_, rfl⟩
  rw [← eg_73] at hs_65
  refine ti_iast (ci := 10) (k := 8) (n := 16) C hw ob_60 (by decide) (fun _ _ => rfl) (vp_in_iff.mpr (by omega)) dX10_manLine_72 (fun H locs hw => ?_)
  obtain ⟨M_74, hM_74⟩ : ∃ z : ti_M, z = uY M_64 60 8 (upd (tY M_64 60 8) (mz : Int32).toNatClampNeg r_63) := ⟨_, rfl⟩
  have hw := hw.to hM_74.symm
  have iM_74 : mI Tm M_74 := mI_up (i := mz.toNatClampNeg) iM_64 hM_74 trivial
  have z_75 := s5_Y hM_74 (by decide)
  have hs_77 := rQ_Yx hs_65 hM_74 (by decide) (by decide) (by decide) (by decide)
  refine lv_aload_n hx hb dX10_manLine_73 rfl (lv_at hl 0 rfl) ?_
  refine ti_get (ci := 10) (k := 9) (N := 67) (T := TX10) (v := .ref (A 60 10)) C hw iw_10 rfl ob_60 (by decide) (by decide) fl_X10_31 rfl rfl dX10_manLine_74 ?_
  refine lv_iload_n hx hb dX10_manLine_77 rfl (lv_at hl 1 rfl) ?_
  refine lv_aload_n hx hb dX10_manLine_78 rfl (lv_at hl 0 rfl) ?_
  refine lv_iconst (v := 0) hx hb dX10_manLine_79 (by decide) ?_
  refine lv_bipush (v := 99) hx hb dX10_manLine_80 (by decide) ?_
  refine ti_callViE (ci := 10) (av := [.int 0, .int 99]) C hE hw (x_X10_numeral l D A cy hJ M_74 iM_74 0 99 (by decide) (by decide) B n g_73 hs_77) ⟨ml_X10_240, ym_X10_numeral, yv_X10_numeral, yi_X10_numeral, yc_X10_numeral⟩ yd_X10_numeral ob_60 (by decide) rfl rfl hl.1 (Nat.le_of_ble_eq_true rfl) ⟨by decide, by decide⟩ ⟨Nat.zero_le _, Nat.zero_le _⟩ dX10_manLine_82 (fun r_78 M_79 H locs hp_79 hw => ?_)
  obtain ⟨hs_80, hm_81, hp_82⟩ := hp_79
  rw [show (0 : Int32).toInt = 0 by decide] at hs_80
  rw [show (99 : Int32).toInt = 99 by decide] at hs_80
  obtain ⟨iM_79, q_83, p_84, p_85, p_86, b0r_78, b1r_78⟩ := hp_82
  have z_87 := l_ps (by decide) (by decide) ⟨iM_79, q_83, p_84, p_85, p_86⟩
  clear p_84 p_85 p_86
  have br_78 : 0 ≤ r_78.toInt ∧ r_78.toInt ≤ 99 := by have l1 : (0 : Int32).toInt = 0 := (by decide); have l2 : (99 : Int32).toInt = 99 := (by decide); omega
  obtain ⟨g_88, eg_88⟩ : ∃ z : Nat → Int, z = pp_nb B n 0 99 g_73 := ⟨_, rfl⟩
  rw [← eg_88] at hs_80
  refine ti_iast (ci := 10) (k := 9) (n := 16) C hw ob_60 (by decide) (fun _ _ => rfl) (vp_in_iff.mpr (by omega)) dX10_manLine_85 (fun H locs hw => ?_)
  obtain ⟨M_89, hM_89⟩ : ∃ z : ti_M, z = uY M_79 60 9 (upd (tY M_79 60 9) (mz : Int32).toNatClampNeg r_78) := ⟨_, rfl⟩
  have hw := hw.to hM_89.symm
  have iM_89 : mI Tm M_89 := mI_up (i := mz.toNatClampNeg) iM_79 hM_89 trivial
  have z_90 := s5_Y hM_89 (by decide)
  have hs_92 := rQ_Yx hs_80 hM_89 (by decide) (by decide) (by decide) (by decide)
  refine lv_aload_n hx hb dX10_manLine_86 rfl (lv_at hl 0 rfl) ?_
  refine ti_get (ci := 10) (k := 10) (N := 67) (T := TX10) (v := .ref (A 60 11)) C hw iw_10 rfl ob_60 (by decide) (by decide) fl_X10_34 rfl rfl dX10_manLine_87 ?_
  refine lv_iload_n hx hb dX10_manLine_90 rfl (lv_at hl 1 rfl) ?_
  refine lv_aload_n hx hb dX10_manLine_91 rfl (lv_at hl 0 rfl) ?_
  refine lv_iconst (v := 0) hx hb dX10_manLine_92 (by decide) ?_
  refine lv_bipush (v := 99) hx hb dX10_manLine_93 (by decide) ?_
  refine ti_callViE (ci := 10) (av := [.int 0, .int 99]) C hE hw (x_X10_numeral l D A cy hJ M_89 iM_89 0 99 (by decide) (by decide) B n g_88 hs_92) ⟨ml_X10_240, ym_X10_numeral, yv_X10_numeral, yi_X10_numeral, yc_X10_numeral⟩ yd_X10_numeral ob_60 (by decide) rfl rfl hl.1 (Nat.le_of_ble_eq_true rfl) ⟨by decide, by decide⟩ ⟨Nat.zero_le _, Nat.zero_le _⟩ dX10_manLine_95 (fun r_93 M_94 H locs hp_94 hw => ?_)
  obtain ⟨hs_95, hm_96, hp_97⟩ := hp_94
  rw [show (0 : Int32).toInt = 0 by decide] at hs_95
  rw [show (99 : Int32).toInt = 99 by decide] at hs_95
  obtain ⟨iM_94, q_98, p_99, p_100, p_101, b0r_93, b1r_93⟩ := hp_97
  have z_102 := l_ps (by decide) (by decide) ⟨iM_94, q_98, p_99, p_100, p_101⟩
  clear p_99 p_100 p_101
  have br_93 : 0 ≤ r_93.toInt ∧ r_93.toInt ≤ 99 := by have l1 : (0 : Int32).toInt = 0 := (by decide); have l2 : (99 : Int32).toInt = 99 := (by decide); omega
  obtain ⟨g_103, eg_103⟩ : ∃ z : Nat → Int, z = pp_nb B n 0 99 g_88 := ⟨_, rfl⟩
  rw [← eg_103] at hs_95
  refine ti_iast (ci := 10) (k := 10) (n := 16) C hw ob_60 (by decide) (fun _ _ => rfl) (vp_in_iff.mpr (by omega)) dX10_manLine_98 (fun H locs hw => ?_)
  obtain ⟨M_104, hM_104⟩ : ∃ z : ti_M, z = uY M_94 60 10 (upd (tY M_94 60 10) (mz : Int32).toNatClampNeg r_93) := ⟨_, rfl⟩
  have hw := hw.to hM_104.symm
  have iM_104 : mI Tm M_104 := mI_up (i := mz.toNatClampNeg) iM_94 hM_104 trivial
  have z_105 := s5_Y hM_104 (by decide)
  have hs_107 := rQ_Yx hs_95 hM_104 (by decide) (by decide) (by decide) (by decide)
  refine lv_aload_n hx hb dX10_manLine_99 rfl (lv_at hl 0 rfl) ?_
  refine ti_get (ci := 10) (k := 11) (N := 67) (T := TX10) (v := .ref (A 60 12)) C hw iw_10 rfl ob_60 (by decide) (by decide) fl_X10_37 rfl rfl dX10_manLine_100 ?_
  refine lv_iload_n hx hb dX10_manLine_103 rfl (lv_at hl 1 rfl) ?_
  refine lv_aload_n hx hb dX10_manLine_104 rfl (lv_at hl 0 rfl) ?_
  refine lv_iconst (v := 0) hx hb dX10_manLine_105 (by decide) ?_
  refine lv_bipush (v := 59) hx hb dX10_manLine_106 (by decide) ?_
  refine ti_callViE (ci := 10) (av := [.int 0, .int 59]) C hE hw (x_X10_numeral l D A cy hJ M_104 iM_104 0 59 (by decide) (by decide) B n g_103 hs_107) ⟨ml_X10_240, ym_X10_numeral, yv_X10_numeral, yi_X10_numeral, yc_X10_numeral⟩ yd_X10_numeral ob_60 (by decide) rfl rfl hl.1 (Nat.le_of_ble_eq_true rfl) ⟨by decide, by decide⟩ ⟨Nat.zero_le _, Nat.zero_le _⟩ dX10_manLine_108 (fun r_108 M_109 H locs hp_109 hw => ?_)
  obtain ⟨hs_110, hm_111, hp_112⟩ := hp_109
  rw [show (0 : Int32).toInt = 0 by decide] at hs_110
  rw [show (59 : Int32).toInt = 59 by decide] at hs_110
  obtain ⟨iM_109, q_113, p_114, p_115, p_116, b0r_108, b1r_108⟩ := hp_112
  have z_117 := l_ps (by decide) (by decide) ⟨iM_109, q_113, p_114, p_115, p_116⟩
  clear p_114 p_115 p_116
  have br_108 : 0 ≤ r_108.toInt ∧ r_108.toInt ≤ 59 := by have l1 : (0 : Int32).toInt = 0 := (by decide); have l2 : (59 : Int32).toInt = 59 := (by decide); omega
  obtain ⟨g_118, eg_118⟩ : ∃ z : Nat → Int, z = pp_nb B n 0 59 g_103 := ⟨_, rfl⟩
  rw [← eg_118] at hs_110
  refine ti_iast (ci := 10) (k := 11) (n := 16) C hw ob_60 (by decide) (fun _ _ => rfl) (vp_in_iff.mpr (by omega)) dX10_manLine_111 (fun H locs hw => ?_)
  obtain ⟨M_119, hM_119⟩ : ∃ z : ti_M, z = uY M_109 60 11 (upd (tY M_109 60 11) (mz : Int32).toNatClampNeg r_108) := ⟨_, rfl⟩
  have hw := hw.to hM_119.symm
  have iM_119 : mI Tm M_119 := mI_up (i := mz.toNatClampNeg) iM_109 hM_119 trivial
  have z_120 := s5_Y hM_119 (by decide)
  have hs_122 := rQ_Yx hs_110 hM_119 (by decide) (by decide) (by decide) (by decide)
  refine lv_aload_n hx hb dX10_manLine_112 rfl (lv_at hl 0 rfl) ?_
  refine ti_get (ci := 10) (k := 13) (N := 67) (T := TX10) (v := .ref (A 60 14)) C hw iw_10 rfl ob_60 (by decide) (by decide) fl_X10_43 rfl rfl dX10_manLine_113 ?_
  refine lv_iload_n hx hb dX10_manLine_116 rfl (lv_at hl 1 rfl) ?_
  refine lv_iconst (v := 0) hx hb dX10_manLine_117 (by decide) ?_
  refine ti_iast (ci := 10) (k := 13) (n := 16) C hw ob_60 (by decide) (fun _ _ => rfl) (vp_in_iff.mpr (by omega)) dX10_manLine_118 (fun H locs hw => ?_)
  obtain ⟨M_123, hM_123⟩ : ∃ z : ti_M, z = uY M_119 60 13 (upd (tY M_119 60 13) (mz : Int32).toNatClampNeg 0) := ⟨_, rfl⟩
  have hw := hw.to hM_123.symm
  have iM_123 : mI Tm M_123 := mI_up (i := mz.toNatClampNeg) iM_119 hM_123 trivial
  have z_124 := s5_Y hM_123 (by decide)
  have hs_126 := rQ_13n hs_122 hM_123 (fun q => by have g7 := mh_7 hs_122 q ((cg (tY_nE hM_119 (nk (by decide))) 11).trans ((cg (tY_fr q_113.1) 11).trans ((cg (tY_nE hM_104 (nk (by decide))) 11).trans ((cg (tY_fr q_98.1) 11).trans ((cg (tY_nE hM_89 (nk (by decide))) 11).trans ((cg (tY_fr q_83.1) 11).trans ((cg (tY_nE hM_74 (nk (by decide))) 11).trans ((cg (tY_fr q_68.1) 11).trans ((cg (tY_nE hM_59 (nk (by decide))) 11).trans ((cg (tY_fr q_53.1) 11).trans ((cg (tY_nE hM_44 (nk (by decide))) 11).trans ((cg (tY_fr q_38.1) 11).trans ((cg (tY_nE hM_29 (nk (by decide))) 11).trans ((cg (tY_fr q_23.1) 11).trans ((cg (tY_nE hM_14 (nk (by decide))) 11).trans ((cg (tY_fr q_8.1) 11).trans h11)))))))))))))))); show 8 + _ ≤ ((mz.toInt.toNat : Nat) : Int); omega)
  refine lv_aload_n hx hb dX10_manLine_119 rfl (lv_at hl 0 rfl) ?_
  refine ti_get (ci := 10) (k := 12) (N := 67) (T := TX10) (v := .ref (A 60 13)) C hw iw_10 rfl ob_60 (by decide) (by decide) fl_X10_40 rfl rfl dX10_manLine_120 ?_
  refine lv_iload_n hx hb dX10_manLine_123 rfl (lv_at hl 1 rfl) ?_
  refine lv_aload_n hx hb dX10_manLine_124 rfl (lv_at hl 0 rfl) ?_
  refine lv_bipush (v := 9) hx hb dX10_manLine_125 (by decide) ?_
  refine ti_callVi (ci := 10) (av := [.int 9]) C hw (x_X10_isWord l D A cy hJ M_123 iM_123 9) ⟨ml_X10_261, ym_X10_isWord, yv_X10_isWord, yi_X10_isWord, yc_X10_isWord⟩ yd_X10_isWord ob_60 (by decide) rfl rfl hl.1 (Nat.le_of_ble_eq_true rfl) ⟨by decide, by decide⟩ ⟨Nat.zero_le _, Nat.zero_le _⟩ dX10_manLine_127 (fun r_127 M_128 H locs hp_128 hw => ?_)
  obtain ⟨hm, hz⟩ := hp_128
  have hw := hw.to hm
  rcases hz with ⟨rfl, d0_129, d1_129, d2_129⟩ | ⟨rfl, d3_129⟩
  · have dk_129 := rQ_w1 (k := 15) hs_126 d0_129 d1_129 d2_129 (by decide)
    have z_130 : ff M_123 = 1 := ff_1 d0_129
    have z_131 : pg M_123 = 2 * (tI M_123 60 21).toInt := pg_3 (by rw [d1_129]; decide)
    clear d0_129 d1_129 d2_129
    refine sb_if_eq (tgt := 137) hx hb (by decide : (1 : Int32).toInt = 1) dX10_manLine_130 (by decide) (fun h => absurd h (by decide)) (fun c_130_131 => ?_)
    refine lv_iconst (v := 1) hx hb dX10_manLine_133 (by decide) ?_
    refine lv_goto (tgt := 138) hx hb dX10_manLine_134 (by decide) ?_
    refine ti_iast (ci := 10) (k := 12) (n := 16) C hw ob_60 (by decide) (fun _ _ => rfl) (vp_in_iff.mpr (by omega)) dX10_manLine_138 (fun H locs hw => ?_)
    obtain ⟨M_134, hM_134⟩ : ∃ z : ti_M, z = uY M_123 60 12 (upd (tY M_123 60 12) (mz : Int32).toNatClampNeg 1) := ⟨_, rfl⟩
    have hw := hw.to hM_134.symm
    have iM_134 : mI Tm M_134 := mI_up (i := mz.toNatClampNeg) iM_123 hM_134 trivial
    have z_135 := s5_Y hM_134 (by decide)
    have hs_137 := rQ_Yx hs_126 hM_134 (by decide) (by decide) (by decide) (by decide)
    refine lv_aload_n hx hb dX10_manLine_139 rfl (lv_at hl 0 rfl) ?_
    refine ti_get (ci := 10) (k := 12) (N := 67) (T := TX10) (v := .ref (A 60 13)) C hw iw_10 rfl ob_60 (by decide) (by decide) fl_X10_40 rfl rfl dX10_manLine_140 ?_
    refine lv_iload_n hx hb dX10_manLine_143 rfl (lv_at hl 1 rfl) ?_
    refine ti_iald (ci := 10) (k := 12) (n := 16) C hw ob_60 (by decide) (fun _ _ => rfl) (vp_in_iff.mpr (by omega)) dX10_manLine_144 ?_
    refine ti_top (y := 1) (((cg (tY_uE hM_134) mz.toNatClampNeg).trans (pk_us ..))) ?_
    refine lv_iconst (v := 1) hx hb dX10_manLine_145 (by decide) ?_
    refine sb_icmp_ne (tgt := 153) hx hb (by decide : (1 : Int32).toInt = 1) (by decide : (1 : Int32).toInt = 1) dX10_manLine_146 (by decide) (fun h => absurd h (by decide)) (fun c_146_137 => ?_)
    refine lv_aload_n hx hb dX10_manLine_149 rfl (lv_at hl 0 rfl) ?_
    refine ti_callVvE (ci := 10) (av := []) C hE hw (x_X10_token l D A cy hJ M_134 iM_134 ) ⟨ml_X10_214, ym_X10_token, yv_X10_token, yi_X10_token, yc_X10_token⟩ yd_X10_token ob_60 (by decide) rfl rfl hl.1 (Nat.le_of_ble_eq_true rfl) ⟨by decide, by decide⟩ ⟨Nat.zero_le _, Nat.zero_le _⟩ dX10_manLine_150 (fun M_145 H locs hp_145 hw => ?_)
    obtain ⟨iM_145, q_148, z_146, z_147, k2M_145, k3M_145, k4M_145⟩ := hp_145
    have hs_149 := rQ_av hs_137 (rQ_g0 hs_137 (by omega)) (iM_134.1 21).1 q_148 k2M_145 k3M_145 k4M_145
    obtain ⟨-, -, z_150, z_151, z_152, z_153, z_154, z_155⟩ := l_tk ⟨iM_145, q_148, z_146, z_147⟩
    clear z_146 z_147 k2M_145 k3M_145 k4M_145
    obtain ⟨g_156, eg_156⟩ : ∃ z : Nat → Int, z = pp_av B n g_118 := ⟨_, rfl⟩
    rw [← eg_156] at hs_149
    refine lv_aload_n hx hb dX10_manLine_153 rfl (lv_at hl 0 rfl) ?_
    refine lv_iconst (v := 0) hx hb dX10_manLine_154 (by decide) ?_
    refine lv_aload_n hx hb dX10_manLine_155 rfl (lv_at hl 0 rfl) ?_
    refine lv_iconst (v := 0) hx hb dX10_manLine_156 (by decide) ?_
    refine ti_callVi (ci := 10) (av := [.int 0]) C hw (s_X10_fresher_0 l D A cy hJ M_145 iM_145 ) ⟨ml_X10_224, ym_X10_fresher, yv_X10_fresher, yi_X10_fresher, yc_X10_fresher⟩ yd_X10_fresher ob_60 (by decide) rfl rfl hl.1 (Nat.le_of_ble_eq_true rfl) ⟨by decide, by decide⟩ ⟨Nat.zero_le _, Nat.zero_le _⟩ dX10_manLine_157 (fun r_163 M_164 H locs hp_164 hw => ?_)
    obtain ⟨hm, b0r_163, b1r_163, yr_163⟩ := hp_164
    have hw := hw.to hm
    have sr_163 : r_163.toInt = (nm : Int32).toInt := by rw [← yr_163, ((cg (tY_fr q_148.1) 11).trans ((cg (tY_nE hM_134 (nk (by decide))) 11).trans ((cg (tY_nE hM_123 (nk (by decide))) 11).trans ((cg (tY_nE hM_119 (nk (by decide))) 11).trans ((cg (tY_fr q_113.1) 11).trans ((cg (tY_nE hM_104 (nk (by decide))) 11).trans ((cg (tY_fr q_98.1) 11).trans ((cg (tY_nE hM_89 (nk (by decide))) 11).trans ((cg (tY_fr q_83.1) 11).trans ((cg (tY_nE hM_74 (nk (by decide))) 11).trans ((cg (tY_fr q_68.1) 11).trans ((cg (tY_nE hM_59 (nk (by decide))) 11).trans ((cg (tY_fr q_53.1) 11).trans ((cg (tY_nE hM_44 (nk (by decide))) 11).trans ((cg (tY_fr q_38.1) 11).trans ((cg (tY_nE hM_29 (nk (by decide))) 11).trans ((cg (tY_fr q_23.1) 11).trans ((cg (tY_nE hM_14 (nk (by decide))) 11).trans ((cg (tY_fr q_8.1) 11).trans h11)))))))))))))))))))]
    have zr_163 : (tY M_145 60 3 11).toInt = r_163.toInt := by rw [yr_163]
    refine lv_iconst (v := 1) hx hb dX10_manLine_160 (by decide) ?_
    refine lv_iadd hx hb dX10_manLine_161 ?_
    refine lv_topi (fun x_165 ex_165 => ?_)
    have tx_165 : x_165.toInt = r_163.toInt + 1 := i_add ex_165 rfl (by decide : (1 : Int32).toInt = 1) (by omega) (by omega)
    refine ti_callVv (ci := 10) (av := [.int 0, .int x_165]) C hw (s_X10_reads l D A cy hJ M_145 iM_145 0 x_165 (by decide) (by decide) (by rw [show (11 + (0 : Int32).toInt).toNat = 11 by decide]; exact (ib_mk (lo := 0) (hi := 8) (by omega) (by omega)))) ⟨ml_X10_244, ym_X10_reads, yv_X10_reads, yi_X10_reads, yc_X10_reads⟩ yd_X10_reads ob_60 (by decide) rfl rfl hl.1 (Nat.le_of_ble_eq_true rfl) ⟨by decide, by decide⟩ ⟨Nat.zero_le _, Nat.zero_le _⟩ dX10_manLine_162 (fun M_167 H locs hp_167 hw => ?_)
    obtain ⟨iM_167, hM_167⟩ := hp_167
    rw [show (11 + (0 : Int32).toInt).toNat = 11 by decide] at hM_167
    have z_168 := s5_3 hM_167 (by decide)
    have E3 : pp_m3 B n (pp_m2 g1) = g_118 := by unfold pp_m3; rw [← eg_13, ← eg_28, ← eg_43, ← eg_58, ← eg_73, ← eg_88, ← eg_103, ← eg_118]
    have E4 : pp_m4 B n g_118 = g_156 := by unfold pp_m4; rw [if_pos dk_129.1, ← eg_156]
    have QQ := rQ_m7 (rQ_su (r := 200 + (g_156 7).toNat) (v := -1) hs_149 (fun q => by have g7 := mh_7 hs_149 q ((cg (tY_fr q_148.1) 11).trans ((cg (tY_nE hM_134 (nk (by decide))) 11).trans ((cg (tY_nE hM_123 (nk (by decide))) 11).trans ((cg (tY_nE hM_119 (nk (by decide))) 11).trans ((cg (tY_fr q_113.1) 11).trans ((cg (tY_nE hM_104 (nk (by decide))) 11).trans ((cg (tY_fr q_98.1) 11).trans ((cg (tY_nE hM_89 (nk (by decide))) 11).trans ((cg (tY_fr q_83.1) 11).trans ((cg (tY_nE hM_74 (nk (by decide))) 11).trans ((cg (tY_fr q_68.1) 11).trans ((cg (tY_nE hM_59 (nk (by decide))) 11).trans ((cg (tY_fr q_53.1) 11).trans ((cg (tY_nE hM_44 (nk (by decide))) 11).trans ((cg (tY_fr q_38.1) 11).trans ((cg (tY_nE hM_29 (nk (by decide))) 11).trans ((cg (tY_fr q_23.1) 11).trans ((cg (tY_nE hM_14 (nk (by decide))) 11).trans ((cg (tY_fr q_8.1) 11).trans h11))))))))))))))))))); omega) (Or.inr rfl)) hM_167 (fun q => by
      rw [su_n (j := 4) (by omega)] at q
      have f1 : ff M_145 = 1 := ff_1 (hs_149.2.1.symm.trans q)
      have r4 := rQ_g0 hr (show ff M = 1 by omega)
      have e7r := e7 r4
      have g7 := mh_7 hs_149 q ((cg (tY_fr q_148.1) 11).trans ((cg (tY_nE hM_134 (nk (by decide))) 11).trans ((cg (tY_nE hM_123 (nk (by decide))) 11).trans ((cg (tY_nE hM_119 (nk (by decide))) 11).trans ((cg (tY_fr q_113.1) 11).trans ((cg (tY_nE hM_104 (nk (by decide))) 11).trans ((cg (tY_fr q_98.1) 11).trans ((cg (tY_nE hM_89 (nk (by decide))) 11).trans ((cg (tY_fr q_83.1) 11).trans ((cg (tY_nE hM_74 (nk (by decide))) 11).trans ((cg (tY_fr q_68.1) 11).trans ((cg (tY_nE hM_59 (nk (by decide))) 11).trans ((cg (tY_fr q_53.1) 11).trans ((cg (tY_nE hM_44 (nk (by decide))) 11).trans ((cg (tY_fr q_38.1) 11).trans ((cg (tY_nE hM_29 (nk (by decide))) 11).trans ((cg (tY_fr q_23.1) 11).trans ((cg (tY_nE hM_14 (nk (by decide))) 11).trans ((cg (tY_fr q_8.1) 11).trans h11)))))))))))))))))))
      have xm := hm_6 (ff_y (by omega))
      have y4 := rb_k (s := 8 + nm.toInt.toNat) ((cg (tY_fr q_148.1) mz.toNatClampNeg).trans ((cg (tY_nE hM_134 (nk (by decide))) mz.toNatClampNeg).trans ((cg (tY_nE hM_123 (nk (by decide))) mz.toNatClampNeg).trans ((cg (tY_nE hM_119 (nk (by decide))) mz.toNatClampNeg).trans ((cg (tY_fr q_113.1) mz.toNatClampNeg).trans ((cg (tY_nE hM_104 (nk (by decide))) mz.toNatClampNeg).trans ((cg (tY_fr q_98.1) mz.toNatClampNeg).trans ((cg (tY_nE hM_89 (nk (by decide))) mz.toNatClampNeg).trans ((cg (tY_fr q_83.1) mz.toNatClampNeg).trans ((cg (tY_nE hM_74 (nk (by decide))) mz.toNatClampNeg).trans ((cg (tY_fr q_68.1) mz.toNatClampNeg).trans ((cg (tY_nE hM_59 (nk (by decide))) mz.toNatClampNeg).trans ((cg (tY_fr q_53.1) mz.toNatClampNeg).trans ((cg (tY_nE hM_44 (nk (by decide))) mz.toNatClampNeg).trans ((cg (tY_fr q_38.1) mz.toNatClampNeg).trans ((cg (tY_nE hM_29 (nk (by decide))) mz.toNatClampNeg).trans ((cg (tY_fr q_23.1) mz.toNatClampNeg).trans ((cg (tY_uE hM_14) mz.toNatClampNeg).trans (pk_us ..))))))))))))))))))) (by omega)
      have y13 := rb_k (s := 8 + nm.toInt.toNat) ((cg (tY_fr q_148.1) mz.toNatClampNeg).trans ((cg (tY_nE hM_134 (nk (by decide))) mz.toNatClampNeg).trans ((cg (tY_uE hM_123) mz.toNatClampNeg).trans (pk_us ..)))) (by omega)
      have n1 : g_156 (100 + nm.toInt.toNat) = rg 1 := by rw [eg_156, av_n (by omega), eg_118, nb_n (by omega), eg_103, nb_n (by omega), eg_88, nb_n (by omega), eg_73, nb_n (by omega), eg_58, nb_n (by omega), eg_43, nb_n (by omega), eg_28, nb_n (by omega), eg_13, tk_n (by omega), m2_n (by omega), eg1, show (rg 7).toNat = nm.toInt.toNat by omega, su_s]
      have n2 : g1 1 = rg 1 := by rw [eg1, su_n (by omega)]
      rw [su_n (j := 7) (by omega), su_n (j := 100 + (g_156 7).toNat) (by omega), su_s, show (g_156 7).toNat = nm.toInt.toNat by omega]
      have z0 : (0 : Int32).toInt = 0 := by decide
      exact ⟨by omega, by omega, by omega, rfl, by omega⟩)
    rw [su_n (j := 7) (by omega)] at QQ
    exact hQ _ _ _ _ _ hw (⟨(by unfold pp_mq; rw [← eg1, E3, E4]; unfold pp_m5; exact QQ), iM_167, (l0.trans (l0_3 hM_167 (by decide)) (l0.trans (l0_pr q_148 (by decide) (by decide)) (l0.trans (l0_Y hM_134 (by decide)) (l0.trans (l0_Y hM_123 (by decide)) (l0.trans (l0_Y hM_119 (by decide)) (l0.trans (l0_pr q_113 (by decide) (by decide)) (l0.trans (l0_Y hM_104 (by decide)) (l0.trans (l0_pr q_98 (by decide) (by decide)) (l0.trans (l0_Y hM_89 (by decide)) (l0.trans (l0_pr q_83 (by decide) (by decide)) (l0.trans (l0_Y hM_74 (by decide)) (l0.trans (l0_pr q_68 (by decide) (by decide)) (l0.trans (l0_Y hM_59 (by decide)) (l0.trans (l0_pr q_53 (by decide) (by decide)) (l0.trans (l0_Y hM_44 (by decide)) (l0.trans (l0_pr q_38 (by decide) (by decide)) (l0.trans (l0_Y hM_29 (by decide)) (l0.trans (l0_pr q_23 (by decide) (by decide)) (l0.trans (l0_4 hM_14 (by show 8 ≤ (mz : Int32).toInt.toNat; omega)) (l0_pr q_8 (by decide) (by decide))))))))))))))))))))), (by omega), (by omega), (by omega), (by omega), (by omega), (by omega)⟩) dX10_manLine_165
  · have dk_129 := rQ_w0 (k := 15) hs_126 d3_129 (by decide) (by decide)
    clear d3_129
    refine sb_if_eq (tgt := 137) hx hb (by decide : (0 : Int32).toInt = 0) dX10_manLine_130 (by decide) (fun c_130_132 => ?_) (fun h => absurd h (by decide))
    refine lv_iconst (v := 0) hx hb dX10_manLine_137 (by decide) ?_
    refine ti_iast (ci := 10) (k := 12) (n := 16) C hw ob_60 (by decide) (fun _ _ => rfl) (vp_in_iff.mpr (by omega)) dX10_manLine_138 (fun H locs hw => ?_)
    obtain ⟨M_139, hM_139⟩ : ∃ z : ti_M, z = uY M_123 60 12 (upd (tY M_123 60 12) (mz : Int32).toNatClampNeg 0) := ⟨_, rfl⟩
    have hw := hw.to hM_139.symm
    have iM_139 : mI Tm M_139 := mI_up (i := mz.toNatClampNeg) iM_123 hM_139 trivial
    have z_140 := s5_Y hM_139 (by decide)
    have hs_142 := rQ_Yx hs_126 hM_139 (by decide) (by decide) (by decide) (by decide)
    refine lv_aload_n hx hb dX10_manLine_139 rfl (lv_at hl 0 rfl) ?_
    refine ti_get (ci := 10) (k := 12) (N := 67) (T := TX10) (v := .ref (A 60 13)) C hw iw_10 rfl ob_60 (by decide) (by decide) fl_X10_40 rfl rfl dX10_manLine_140 ?_
    refine lv_iload_n hx hb dX10_manLine_143 rfl (lv_at hl 1 rfl) ?_
    refine ti_iald (ci := 10) (k := 12) (n := 16) C hw ob_60 (by decide) (fun _ _ => rfl) (vp_in_iff.mpr (by omega)) dX10_manLine_144 ?_
    refine ti_top (y := 0) (((cg (tY_uE hM_139) mz.toNatClampNeg).trans (pk_us ..))) ?_
    refine lv_iconst (v := 1) hx hb dX10_manLine_145 (by decide) ?_
    refine sb_icmp_ne (tgt := 153) hx hb (by decide : (0 : Int32).toInt = 0) (by decide : (1 : Int32).toInt = 1) dX10_manLine_146 (by decide) (fun c_146_142 => ?_) (fun h => absurd h (by decide))
    refine lv_aload_n hx hb dX10_manLine_153 rfl (lv_at hl 0 rfl) ?_
    refine lv_iconst (v := 0) hx hb dX10_manLine_154 (by decide) ?_
    refine lv_aload_n hx hb dX10_manLine_155 rfl (lv_at hl 0 rfl) ?_
    refine lv_iconst (v := 0) hx hb dX10_manLine_156 (by decide) ?_
    refine ti_callVi (ci := 10) (av := [.int 0]) C hw (s_X10_fresher_0 l D A cy hJ M_139 iM_139 ) ⟨ml_X10_224, ym_X10_fresher, yv_X10_fresher, yi_X10_fresher, yc_X10_fresher⟩ yd_X10_fresher ob_60 (by decide) rfl rfl hl.1 (Nat.le_of_ble_eq_true rfl) ⟨by decide, by decide⟩ ⟨Nat.zero_le _, Nat.zero_le _⟩ dX10_manLine_157 (fun r_157 M_158 H locs hp_158 hw => ?_)
    obtain ⟨hm, b0r_157, b1r_157, yr_157⟩ := hp_158
    have hw := hw.to hm
    have sr_157 : r_157.toInt = (nm : Int32).toInt := by rw [← yr_157, ((cg (tY_nE hM_139 (nk (by decide))) 11).trans ((cg (tY_nE hM_123 (nk (by decide))) 11).trans ((cg (tY_nE hM_119 (nk (by decide))) 11).trans ((cg (tY_fr q_113.1) 11).trans ((cg (tY_nE hM_104 (nk (by decide))) 11).trans ((cg (tY_fr q_98.1) 11).trans ((cg (tY_nE hM_89 (nk (by decide))) 11).trans ((cg (tY_fr q_83.1) 11).trans ((cg (tY_nE hM_74 (nk (by decide))) 11).trans ((cg (tY_fr q_68.1) 11).trans ((cg (tY_nE hM_59 (nk (by decide))) 11).trans ((cg (tY_fr q_53.1) 11).trans ((cg (tY_nE hM_44 (nk (by decide))) 11).trans ((cg (tY_fr q_38.1) 11).trans ((cg (tY_nE hM_29 (nk (by decide))) 11).trans ((cg (tY_fr q_23.1) 11).trans ((cg (tY_nE hM_14 (nk (by decide))) 11).trans ((cg (tY_fr q_8.1) 11).trans h11))))))))))))))))))]
    have zr_157 : (tY M_139 60 3 11).toInt = r_157.toInt := by rw [yr_157]
    refine lv_iconst (v := 1) hx hb dX10_manLine_160 (by decide) ?_
    refine lv_iadd hx hb dX10_manLine_161 ?_
    refine lv_topi (fun x_159 ex_159 => ?_)
    have tx_159 : x_159.toInt = r_157.toInt + 1 := i_add ex_159 rfl (by decide : (1 : Int32).toInt = 1) (by omega) (by omega)
    refine ti_callVv (ci := 10) (av := [.int 0, .int x_159]) C hw (s_X10_reads l D A cy hJ M_139 iM_139 0 x_159 (by decide) (by decide) (by rw [show (11 + (0 : Int32).toInt).toNat = 11 by decide]; exact (ib_mk (lo := 0) (hi := 8) (by omega) (by omega)))) ⟨ml_X10_244, ym_X10_reads, yv_X10_reads, yi_X10_reads, yc_X10_reads⟩ yd_X10_reads ob_60 (by decide) rfl rfl hl.1 (Nat.le_of_ble_eq_true rfl) ⟨by decide, by decide⟩ ⟨Nat.zero_le _, Nat.zero_le _⟩ dX10_manLine_162 (fun M_161 H locs hp_161 hw => ?_)
    obtain ⟨iM_161, hM_161⟩ := hp_161
    rw [show (11 + (0 : Int32).toInt).toNat = 11 by decide] at hM_161
    have z_162 := s5_3 hM_161 (by decide)
    have E3 : pp_m3 B n (pp_m2 g1) = g_118 := by unfold pp_m3; rw [← eg_13, ← eg_28, ← eg_43, ← eg_58, ← eg_73, ← eg_88, ← eg_103, ← eg_118]
    have E4 : pp_m4 B n g_118 = g_118 := by unfold pp_m4; rw [if_neg dk_129]
    have QQ := rQ_m7 (rQ_su (r := 200 + (g_118 7).toNat) (v := -1) hs_142 (fun q => by have g7 := mh_7 hs_142 q ((cg (tY_nE hM_139 (nk (by decide))) 11).trans ((cg (tY_nE hM_123 (nk (by decide))) 11).trans ((cg (tY_nE hM_119 (nk (by decide))) 11).trans ((cg (tY_fr q_113.1) 11).trans ((cg (tY_nE hM_104 (nk (by decide))) 11).trans ((cg (tY_fr q_98.1) 11).trans ((cg (tY_nE hM_89 (nk (by decide))) 11).trans ((cg (tY_fr q_83.1) 11).trans ((cg (tY_nE hM_74 (nk (by decide))) 11).trans ((cg (tY_fr q_68.1) 11).trans ((cg (tY_nE hM_59 (nk (by decide))) 11).trans ((cg (tY_fr q_53.1) 11).trans ((cg (tY_nE hM_44 (nk (by decide))) 11).trans ((cg (tY_fr q_38.1) 11).trans ((cg (tY_nE hM_29 (nk (by decide))) 11).trans ((cg (tY_fr q_23.1) 11).trans ((cg (tY_nE hM_14 (nk (by decide))) 11).trans ((cg (tY_fr q_8.1) 11).trans h11)))))))))))))))))); omega) (Or.inr rfl)) hM_161 (fun q => by
      rw [su_n (j := 4) (by omega)] at q
      have f1 : ff M_139 = 1 := ff_1 (hs_142.2.1.symm.trans q)
      have r4 := rQ_g0 hr (show ff M = 1 by omega)
      have e7r := e7 r4
      have g7 := mh_7 hs_142 q ((cg (tY_nE hM_139 (nk (by decide))) 11).trans ((cg (tY_nE hM_123 (nk (by decide))) 11).trans ((cg (tY_nE hM_119 (nk (by decide))) 11).trans ((cg (tY_fr q_113.1) 11).trans ((cg (tY_nE hM_104 (nk (by decide))) 11).trans ((cg (tY_fr q_98.1) 11).trans ((cg (tY_nE hM_89 (nk (by decide))) 11).trans ((cg (tY_fr q_83.1) 11).trans ((cg (tY_nE hM_74 (nk (by decide))) 11).trans ((cg (tY_fr q_68.1) 11).trans ((cg (tY_nE hM_59 (nk (by decide))) 11).trans ((cg (tY_fr q_53.1) 11).trans ((cg (tY_nE hM_44 (nk (by decide))) 11).trans ((cg (tY_fr q_38.1) 11).trans ((cg (tY_nE hM_29 (nk (by decide))) 11).trans ((cg (tY_fr q_23.1) 11).trans ((cg (tY_nE hM_14 (nk (by decide))) 11).trans ((cg (tY_fr q_8.1) 11).trans h11))))))))))))))))))
      have xm := hm_6 (ff_y (by omega))
      have y4 := rb_k (s := 8 + nm.toInt.toNat) ((cg (tY_nE hM_139 (nk (by decide))) mz.toNatClampNeg).trans ((cg (tY_nE hM_123 (nk (by decide))) mz.toNatClampNeg).trans ((cg (tY_nE hM_119 (nk (by decide))) mz.toNatClampNeg).trans ((cg (tY_fr q_113.1) mz.toNatClampNeg).trans ((cg (tY_nE hM_104 (nk (by decide))) mz.toNatClampNeg).trans ((cg (tY_fr q_98.1) mz.toNatClampNeg).trans ((cg (tY_nE hM_89 (nk (by decide))) mz.toNatClampNeg).trans ((cg (tY_fr q_83.1) mz.toNatClampNeg).trans ((cg (tY_nE hM_74 (nk (by decide))) mz.toNatClampNeg).trans ((cg (tY_fr q_68.1) mz.toNatClampNeg).trans ((cg (tY_nE hM_59 (nk (by decide))) mz.toNatClampNeg).trans ((cg (tY_fr q_53.1) mz.toNatClampNeg).trans ((cg (tY_nE hM_44 (nk (by decide))) mz.toNatClampNeg).trans ((cg (tY_fr q_38.1) mz.toNatClampNeg).trans ((cg (tY_nE hM_29 (nk (by decide))) mz.toNatClampNeg).trans ((cg (tY_fr q_23.1) mz.toNatClampNeg).trans ((cg (tY_uE hM_14) mz.toNatClampNeg).trans (pk_us ..)))))))))))))))))) (by omega)
      have y13 := rb_k (s := 8 + nm.toInt.toNat) ((cg (tY_nE hM_139 (nk (by decide))) mz.toNatClampNeg).trans ((cg (tY_uE hM_123) mz.toNatClampNeg).trans (pk_us ..))) (by omega)
      have n1 : g_118 (100 + nm.toInt.toNat) = rg 1 := by rw [eg_118, nb_n (by omega), eg_103, nb_n (by omega), eg_88, nb_n (by omega), eg_73, nb_n (by omega), eg_58, nb_n (by omega), eg_43, nb_n (by omega), eg_28, nb_n (by omega), eg_13, tk_n (by omega), m2_n (by omega), eg1, show (rg 7).toNat = nm.toInt.toNat by omega, su_s]
      have n2 : g1 1 = rg 1 := by rw [eg1, su_n (by omega)]
      rw [su_n (j := 7) (by omega), su_n (j := 100 + (g_118 7).toNat) (by omega), su_s, show (g_118 7).toNat = nm.toInt.toNat by omega]
      have z0 : (0 : Int32).toInt = 0 := by decide
      exact ⟨by omega, by omega, by omega, rfl, by omega⟩)
    rw [su_n (j := 7) (by omega)] at QQ
    exact hQ _ _ _ _ _ hw (⟨(by unfold pp_mq; rw [← eg1, E3, E4]; unfold pp_m5; exact QQ), iM_161, (l0.trans (l0_3 hM_161 (by decide)) (l0.trans (l0_Y hM_139 (by decide)) (l0.trans (l0_Y hM_123 (by decide)) (l0.trans (l0_Y hM_119 (by decide)) (l0.trans (l0_pr q_113 (by decide) (by decide)) (l0.trans (l0_Y hM_104 (by decide)) (l0.trans (l0_pr q_98 (by decide) (by decide)) (l0.trans (l0_Y hM_89 (by decide)) (l0.trans (l0_pr q_83 (by decide) (by decide)) (l0.trans (l0_Y hM_74 (by decide)) (l0.trans (l0_pr q_68 (by decide) (by decide)) (l0.trans (l0_Y hM_59 (by decide)) (l0.trans (l0_pr q_53 (by decide) (by decide)) (l0.trans (l0_Y hM_44 (by decide)) (l0.trans (l0_pr q_38 (by decide) (by decide)) (l0.trans (l0_Y hM_29 (by decide)) (l0.trans (l0_pr q_23 (by decide) (by decide)) (l0.trans (l0_4 hM_14 (by show 8 ≤ (mz : Int32).toInt.toNat; omega)) (l0_pr q_8 (by decide) (by decide)))))))))))))))))))), (by omega), (by omega), (by omega), (by omega), (by omega), (by omega)⟩) dX10_manLine_165
set_option maxHeartbeats 4000000 in
set_option maxRecDepth 100000 in
theorem x_X10_guardLine (l : Launch) (D : va_G) (A : Nat → Nat → Nat) (cy : Nat → ClassId) (hJ : ti_inj ti_LM A) (M : ti_M) (hI : mI Tm M)  (B : Nat → Int) (n : Nat) (rg : Nat → Int) (hr : rQ B n rg M) : ti_KvE l yX10_guardLine cX10_guardLine 3 7 ti_LM D A cy M [.ref (A 60 0)] (fun M2 => rQ B n (pp_gq B n rg) M2 ∧ mI Tm M2 ∧ l0 M2 M ∧ (pg M ≤ pg M2) ∧ (0 ≤ ff M2) ∧ (ff M2 ≤ ff M) ∧ ((tI M2 60 29).toInt = (tI M 60 29).toInt) ∧ ((tI M2 60 30).toInt = (tI M 60 30).toInt) ∧ ((tY M2 60 3 18).toInt = (tY M 60 3 18).toInt)) := by
  refine ti_eVE yp_X10_guardLine hJ ti_LM_nd (Nat.le_of_ble_eq_true rfl) ?_
  intro p e s m args below meth c Q H0 C hE hQ hw ls hl
  have hx := C.1
  have hb := C.2.1
  have hl : lv_has ls 3 [(0, .ref (A 60 0))] := hl
  have hI30 := b30 hI
  have hI29 := b29 hI
  have hI18 := b18 hI
  have hIff := ff_b M
  refine lv_aload_n hx hb dX10_guardLine_0 rfl (lv_at hl 0 rfl) ?_
  refine ti_callVi (ci := 10) (av := []) C hw (x_X10_manAtHand l D A cy hJ M hI  B n rg hr) ⟨ml_X10_264, ym_X10_manAtHand, yv_X10_manAtHand, yi_X10_manAtHand, yc_X10_manAtHand⟩ yd_X10_manAtHand ob_60 (by decide) rfl rfl hl.1 (Nat.le_of_ble_eq_true rfl) ⟨by decide, by decide⟩ ⟨Nat.zero_le _, Nat.zero_le _⟩ dX10_guardLine_1 (fun r_1 M_2 H locs hp_2 hw => ?_)
  obtain ⟨hs_3, hm_4, hp_5⟩ := hp_2
  obtain ⟨iM_2, q_6, p_7, p_8, p_9, b0r_1, b1r_1⟩ := hp_5
  have z_10 := l_ps (by decide) (by decide) ⟨iM_2, q_6, p_7, p_8, p_9⟩
  clear p_7 p_8 p_9
  obtain ⟨g_11, eg_11⟩ : ∃ z : Nat → Int, z = pp_tm rg := ⟨_, rfl⟩
  rw [← eg_11] at hs_3
  refine lv_istore_n (lv' := [(1, .int r_1), (0, .ref (A 60 0))]) hx hb dX10_guardLine_4 rfl hl (by decide) rfl (fun ls hl => ?_)
  refine lv_aload_n hx hb dX10_guardLine_5 rfl (lv_at hl 1 rfl) ?_
  refine ti_get (ci := 10) (k := 25) (N := 67) (T := TX10) C hw iw_10 rfl ob_60 (by decide) (by decide) fl_X10_208 rfl rfl dX10_guardLine_6 ?_
  refine lv_topi (fun x_12 ex_12 => ?_)
  have u_13 : (tI M_2 60 25).toInt = x_12.toInt := by rw [ex_12]
  have ufx_12 : (tI M_2 60 25).toInt = x_12.toInt := by rw [ex_12]
  refine sb_if_ne (tgt := 29) hx hb rfl dX10_guardLine_9 (by decide) (fun c_9_13 => ?_) (fun c_9_13 => ?_)
  · have z_15 : ff M_2 = 0 := ff_0 (fun h => c_9_13 (ufx_12.symm.trans h))
    clear c_9_13
    refine lv_aload_n hx hb dX10_guardLine_29 rfl (lv_at hl 1 rfl) ?_
    refine ti_callVvE (ci := 10) (av := []) C hE hw (x_X10_goOn l D A cy hJ M_2 iM_2  B n g_11 hs_3) ⟨ml_X10_267, ym_X10_goOn, yv_X10_goOn, yi_X10_goOn, yc_X10_goOn⟩ yd_X10_goOn ob_60 (by decide) rfl rfl hl.1 (Nat.le_of_ble_eq_true rfl) ⟨by decide, by decide⟩ ⟨Nat.zero_le _, Nat.zero_le _⟩ dX10_guardLine_30 (fun M_31 H locs hp_31 hw => ?_)
    obtain ⟨hs_32, hp_33⟩ := hp_31
    obtain ⟨iM_31, q_34, z_35, z_36, z_37, z_38, z_39⟩ := l_go hp_33
    clear hp_33
    obtain ⟨g_40, eg_40⟩ : ∃ z : Nat → Int, z = pp_go B n g_11 := ⟨_, rfl⟩
    rw [← eg_40] at hs_32
    refine lv_aload_n hx hb dX10_guardLine_33 rfl (lv_at hl 1 rfl) ?_
    refine ti_callVi (ci := 10) (av := []) C hw (x_X10_manAtHand l D A cy hJ M_31 iM_31  B n g_40 hs_32) ⟨ml_X10_264, ym_X10_manAtHand, yv_X10_manAtHand, yi_X10_manAtHand, yc_X10_manAtHand⟩ yd_X10_manAtHand ob_60 (by decide) rfl rfl hl.1 (Nat.le_of_ble_eq_true rfl) ⟨by decide, by decide⟩ ⟨Nat.zero_le _, Nat.zero_le _⟩ dX10_guardLine_34 (fun r_41 M_42 H locs hp_42 hw => ?_)
    obtain ⟨hs_43, hm_44, hp_45⟩ := hp_42
    obtain ⟨iM_42, q_46, p_47, p_48, p_49, b0r_41, b1r_41⟩ := hp_45
    have z_50 := l_ps (by decide) (by decide) ⟨iM_42, q_46, p_47, p_48, p_49⟩
    clear p_47 p_48 p_49
    obtain ⟨g_51, eg_51⟩ : ∃ z : Nat → Int, z = pp_tm g_40 := ⟨_, rfl⟩
    rw [← eg_51] at hs_43
    refine lv_istore_n (lv' := [(2, .int r_41), (1, .int r_1), (0, .ref (A 60 0))]) hx hb dX10_guardLine_37 rfl hl (by decide) rfl (fun ls hl => ?_)
    refine lv_aload_n hx hb dX10_guardLine_38 rfl (lv_at hl 2 rfl) ?_
    refine ti_get (ci := 10) (k := 25) (N := 67) (T := TX10) C hw iw_10 rfl ob_60 (by decide) (by decide) fl_X10_208 rfl rfl dX10_guardLine_39 ?_
    refine lv_topi (fun x_52 ex_52 => ?_)
    have u_53 : (tI M_42 60 25).toInt = x_52.toInt := by rw [ex_52]
    have ufx_52 : (tI M_42 60 25).toInt = x_52.toInt := by rw [ex_52]
    refine sb_if_ne (tgt := 55) hx hb rfl dX10_guardLine_42 (by decide) (fun c_42_53 => ?_) (fun c_42_53 => ?_)
    · have z_55 : ff M_42 = 0 := ff_0 (fun h => c_42_53 (ufx_52.symm.trans h))
      clear c_42_53
      refine lv_aload_n hx hb dX10_guardLine_55 rfl (lv_at hl 2 rfl) ?_
      refine ti_get (ci := 10) (k := 25) (N := 67) (T := TX10) C hw iw_10 rfl ob_60 (by decide) (by decide) fl_X10_208 rfl rfl dX10_guardLine_56 ?_
      refine ti_top (y := x_52) (ex_52.symm) ?_
      refine sb_if_eq (tgt := 63) hx hb rfl dX10_guardLine_59 (by decide) (fun c_59_143 => by have z_145 : ff M_42 = 1 := ff_1 (ufx_52.trans c_59_143); omega) (fun c_59_143 => ?_)
      have z_145 : ff M_42 = 0 := ff_0 (fun h => c_59_143 (ufx_52.symm.trans h))
      clear c_59_143
      exact hQ _ _ _ _ _ hw (⟨(rQ_f hs_43 (rQ_g1 hs_43 (by omega)) (gq_1 (by rw [← eg_11]; exact (rQ_z hs_3 (rQ_g1 hs_3 (by omega)))) (by rw [← eg_11]; exact (show fk g_51 g_11 by rw [eg_51]; exact (tm_f ((show fk g_40 g_11 by rw [eg_40, go_f ((fk.refl (rQ_z hs_3 (rQ_g1 hs_3 (by omega)))).zz (rQ_z hs_3 (rQ_g1 hs_3 (by omega)))).1]; exact (fk.refl (rQ_z hs_3 (rQ_g1 hs_3 (by omega))))).zz (rQ_z hs_3 (rQ_g1 hs_3 (by omega))))).trans (show fk g_40 g_11 by rw [eg_40, go_f ((fk.refl (rQ_z hs_3 (rQ_g1 hs_3 (by omega)))).zz (rQ_z hs_3 (rQ_g1 hs_3 (by omega)))).1]; exact (fk.refl (rQ_z hs_3 (rQ_g1 hs_3 (by omega))))))))), iM_42, (l0.trans (l0_pr q_46 (by decide) (by decide)) (l0.trans (l0_pr q_34 (by decide) (by decide)) (l0_pr q_6 (by decide) (by decide)))), (by omega), (by omega), (by omega), (by omega), (by omega), (by omega)⟩) dX10_guardLine_62
    · have z_55 : ff M_42 = 1 := ff_1 (ufx_52.trans c_42_53)
      clear c_42_53
      refine lv_iload_n hx hb dX10_guardLine_45 rfl (lv_at hl 1 rfl) ?_
      refine lv_iload_n hx hb dX10_guardLine_46 rfl (lv_at hl 0 rfl) ?_
      refine sb_icmp_ne (tgt := 55) hx hb rfl rfl dX10_guardLine_47 (by decide) (fun c_47_107 => ?_) (fun c_47_107 => ?_)
      · refine lv_aload_n hx hb dX10_guardLine_55 rfl (lv_at hl 2 rfl) ?_
        refine ti_get (ci := 10) (k := 25) (N := 67) (T := TX10) C hw iw_10 rfl ob_60 (by decide) (by decide) fl_X10_208 rfl rfl dX10_guardLine_56 ?_
        refine ti_top (y := x_52) (ex_52.symm) ?_
        refine sb_if_eq (tgt := 63) hx hb rfl dX10_guardLine_59 (by decide) (fun c_59_149 => ?_) (fun c_59_149 => by have z_151 : ff M_42 = 0 := ff_0 (fun h => c_59_149 (ufx_52.symm.trans h)); omega)
        have z_151 : ff M_42 = 1 := ff_1 (ufx_52.trans c_59_149)
        clear c_59_149
        refine lv_aload_n hx hb dX10_guardLine_63 rfl (lv_at hl 2 rfl) ?_
        refine ti_get (ci := 10) (k := 13) (N := 67) (T := TX10) (v := .ref (A 60 14)) C hw iw_10 rfl ob_60 (by decide) (by decide) fl_X10_43 rfl rfl dX10_guardLine_64 ?_
        refine lv_bipush (v := 8) hx hb dX10_guardLine_67 (by decide) ?_
        refine lv_iload_n hx hb dX10_guardLine_69 rfl (lv_at hl 1 rfl) ?_
        refine lv_iadd hx hb dX10_guardLine_70 ?_
        refine lv_topi (fun x_168 ex_168 => ?_)
        have tx_168 : x_168.toInt = 8 + r_1.toInt := i_add ex_168 (by decide : (8 : Int32).toInt = 8) rfl (by omega) (by omega)
        refine lv_iload_n hx hb dX10_guardLine_71 rfl (lv_at hl 0 rfl) ?_
        refine lv_iconst (v := 1) hx hb dX10_guardLine_72 (by decide) ?_
        refine lv_iadd hx hb dX10_guardLine_73 ?_
        refine lv_topi (fun x_169 ex_169 => ?_)
        have tx_169 : x_169.toInt = r_41.toInt + 1 := i_add ex_169 rfl (by decide : (1 : Int32).toInt = 1) (by omega) (by omega)
        refine ti_iast (ci := 10) (k := 13) (n := 16) C hw ob_60 (by decide) (fun _ _ => rfl) (vp_in_iff.mpr (by omega)) dX10_guardLine_74 (fun H locs hw => ?_)
        obtain ⟨M_170, hM_170⟩ : ∃ z : ti_M, z = uY M_42 60 13 (upd (tY M_42 60 13) (x_168 : Int32).toNatClampNeg x_169) := ⟨_, rfl⟩
        have hw := hw.to hM_170.symm
        have iM_170 : mI Tm M_170 := mI_up (i := x_168.toNatClampNeg) iM_42 hM_170 trivial
        have z_171 := s5_Y hM_170 (by decide)
        have hs_173 := rQ_13 (a0 := r_1.toInt.toNat) (b0 := r_41.toInt) hs_43 hM_170 (by show (x_168 : Int32).toInt.toNat = _; omega) (by omega) (by omega) (by omega)
        obtain ⟨g_174, eg_174⟩ : ∃ z : Nat → Int, z = pp_su g_51 (200 + r_1.toInt.toNat) r_41.toInt := ⟨_, rfl⟩
        rw [← eg_174] at hs_173
        refine lv_aload_n hx hb dX10_guardLine_75 rfl (lv_at hl 2 rfl) ?_
        refine ti_callVvE (ci := 10) (av := []) C hE hw (x_X10_token l D A cy hJ M_170 iM_170 ) ⟨ml_X10_214, ym_X10_token, yv_X10_token, yi_X10_token, yc_X10_token⟩ yd_X10_token ob_60 (by decide) rfl rfl hl.1 (Nat.le_of_ble_eq_true rfl) ⟨by decide, by decide⟩ ⟨Nat.zero_le _, Nat.zero_le _⟩ dX10_guardLine_76 (fun M_176 H locs hp_176 hw => ?_)
        obtain ⟨iM_176, q_179, z_177, z_178, k2M_176, k3M_176, k4M_176⟩ := hp_176
        have hs_180 := rQ_av hs_173 (rQ_g0 hs_173 (by omega)) (iM_170.1 21).1 q_179 k2M_176 k3M_176 k4M_176
        obtain ⟨-, -, z_181, z_182, z_183, z_184, z_185, z_186⟩ := l_tk ⟨iM_176, q_179, z_177, z_178⟩
        clear z_177 z_178 k2M_176 k3M_176 k4M_176
        obtain ⟨g_187, eg_187⟩ : ∃ z : Nat → Int, z = pp_av B n g_174 := ⟨_, rfl⟩
        rw [← eg_187] at hs_180
        exact hQ _ _ _ _ _ hw (⟨(by exfalso; omega), iM_176, (l0.trans (l0_pr q_179 (by decide) (by decide)) (l0.trans (l0_Y hM_170 (by decide)) (l0.trans (l0_pr q_46 (by decide) (by decide)) (l0.trans (l0_pr q_34 (by decide) (by decide)) (l0_pr q_6 (by decide) (by decide)))))), (by omega), (by omega), (by omega), (by omega), (by omega), (by omega)⟩) dX10_guardLine_79
      · refine lv_aload_n hx hb dX10_guardLine_50 rfl (lv_at hl 2 rfl) ?_
        refine lv_iconst (v := 5) hx hb dX10_guardLine_51 (by decide) ?_
        refine ti_callVv (ci := 10) (av := [.int 5]) C hw (x_X10_wrong l D A cy hJ M_42 iM_42 5 (by decide) B n g_51 hs_43) ⟨ml_X10_217, ym_X10_wrong, yv_X10_wrong, yi_X10_wrong, yc_X10_wrong⟩ yd_X10_wrong ob_60 (by decide) rfl rfl hl.1 (Nat.le_of_ble_eq_true rfl) ⟨by decide, by decide⟩ ⟨Nat.zero_le _, Nat.zero_le _⟩ dX10_guardLine_52 (fun M_112 H locs hp_112 hw => ?_)
        rw [show (5 : Int32).toInt = 5 by decide] at hp_112
        obtain ⟨hs_113, hp_114⟩ := hp_112
        obtain ⟨iM_112, q_115, z_116, z_117, z_118, z_119, z_120⟩ := l_wr hp_114
        clear hp_114
        obtain ⟨g_121, eg_121⟩ : ∃ z : Nat → Int, z = pp_rf 5 g_51 := ⟨_, rfl⟩
        rw [← eg_121] at hs_113
        refine lv_aload_n hx hb dX10_guardLine_55 rfl (lv_at hl 2 rfl) ?_
        refine ti_get (ci := 10) (k := 25) (N := 67) (T := TX10) C hw iw_10 rfl ob_60 (by decide) (by decide) fl_X10_208 rfl rfl dX10_guardLine_56 ?_
        refine lv_topi (fun x_156 ex_156 => ?_)
        have u_157 : (tI M_112 60 25).toInt = x_156.toInt := by rw [ex_156]
        have ufx_156 : (tI M_112 60 25).toInt = x_156.toInt := by rw [ex_156]
        refine sb_if_eq (tgt := 63) hx hb rfl dX10_guardLine_59 (by decide) (fun c_59_157 => by have z_159 : ff M_112 = 1 := ff_1 (ufx_156.trans c_59_157); omega) (fun c_59_157 => ?_)
        have z_159 : ff M_112 = 0 := ff_0 (fun h => c_59_157 (ufx_156.symm.trans h))
        clear c_59_157
        exact hQ _ _ _ _ _ hw (⟨(by exfalso; omega), iM_112, (l0.trans (l0_pr q_115 (by decide) (by decide)) (l0.trans (l0_pr q_46 (by decide) (by decide)) (l0.trans (l0_pr q_34 (by decide) (by decide)) (l0_pr q_6 (by decide) (by decide))))), (by omega), (by omega), (by omega), (by omega), (by omega), (by omega)⟩) dX10_guardLine_62
  · have z_15 : ff M_2 = 1 := ff_1 (ufx_12.trans c_9_13)
    clear c_9_13
    refine lv_aload_n hx hb dX10_guardLine_12 rfl (lv_at hl 1 rfl) ?_
    refine ti_get (ci := 10) (k := 13) (N := 67) (T := TX10) (v := .ref (A 60 14)) C hw iw_10 rfl ob_60 (by decide) (by decide) fl_X10_43 rfl rfl dX10_guardLine_13 ?_
    refine lv_bipush (v := 8) hx hb dX10_guardLine_16 (by decide) ?_
    refine lv_iload_n hx hb dX10_guardLine_18 rfl (lv_at hl 0 rfl) ?_
    refine lv_iadd hx hb dX10_guardLine_19 ?_
    refine lv_topi (fun x_16 ex_16 => ?_)
    have tx_16 : x_16.toInt = 8 + r_1.toInt := i_add ex_16 (by decide : (8 : Int32).toInt = 8) rfl (by omega) (by omega)
    refine ti_iald (ci := 10) (k := 13) (n := 16) C hw ob_60 (by decide) (fun _ _ => rfl) (vp_in_iff.mpr (by omega)) dX10_guardLine_20 ?_
    refine lv_topi (fun x_17 ex_17 => ?_)
    have yx_17 : tY M_2 60 13 x_16.toNatClampNeg = x_17 := (ex_17.symm)
    have wx_17 : tY M 60 13 x_16.toNatClampNeg = x_17 := ((cg (tY_fr q_6.1) x_16.toNatClampNeg)).symm.trans yx_17
    have r4 := rQ_g0 hs_3 (show ff M_2 = 1 by omega)
    have ta := tm_a (by rw [← eg_11]; exact r4)
    have tv1 : pp_tv rg = r_1.toInt := (hm_4 (ff_y (by omega))).symm
    have fd := pp_fdb (s := rg) (v := rg 1) (i := 0)
    have yk := rb_k (k := 13) (s := 8 + r_1.toInt.toNat) yx_17 (by omega)
    have gr : g_11 = rg := by rw [eg_11]; exact ta.2.1
    have g7 := (hr.2.2.2 (by rw [← gr]; exact r4)).2.2.1.1
    have gg := rQ_g200 (i := r_1.toInt.toNat) hs_3 r4 (by omega) (by rw [gr]; omega)
    refine sb_if_le (tgt := 29) hx hb rfl dX10_guardLine_21 (by decide) (fun c_21_17 => ?_) (fun c_21_17 => ?_)
    · have gu : g_11 (200 + r_1.toInt.toNat) = -1 := by omega
      refine lv_aload_n hx hb dX10_guardLine_29 rfl (lv_at hl 1 rfl) ?_
      refine ti_callVvE (ci := 10) (av := []) C hE hw (x_X10_goOn l D A cy hJ M_2 iM_2  B n g_11 hs_3) ⟨ml_X10_267, ym_X10_goOn, yv_X10_goOn, yi_X10_goOn, yc_X10_goOn⟩ yd_X10_goOn ob_60 (by decide) rfl rfl hl.1 (Nat.le_of_ble_eq_true rfl) ⟨by decide, by decide⟩ ⟨Nat.zero_le _, Nat.zero_le _⟩ dX10_guardLine_30 (fun M_57 H locs hp_57 hw => ?_)
      obtain ⟨hs_58, hp_59⟩ := hp_57
      obtain ⟨iM_57, q_60, z_61, z_62, z_63, z_64, z_65⟩ := l_go hp_59
      clear hp_59
      obtain ⟨g_66, eg_66⟩ : ∃ z : Nat → Int, z = pp_go B n g_11 := ⟨_, rfl⟩
      rw [← eg_66] at hs_58
      refine lv_aload_n hx hb dX10_guardLine_33 rfl (lv_at hl 1 rfl) ?_
      refine ti_callVi (ci := 10) (av := []) C hw (x_X10_manAtHand l D A cy hJ M_57 iM_57  B n g_66 hs_58) ⟨ml_X10_264, ym_X10_manAtHand, yv_X10_manAtHand, yi_X10_manAtHand, yc_X10_manAtHand⟩ yd_X10_manAtHand ob_60 (by decide) rfl rfl hl.1 (Nat.le_of_ble_eq_true rfl) ⟨by decide, by decide⟩ ⟨Nat.zero_le _, Nat.zero_le _⟩ dX10_guardLine_34 (fun r_67 M_68 H locs hp_68 hw => ?_)
      obtain ⟨hs_69, hm_70, hp_71⟩ := hp_68
      obtain ⟨iM_68, q_72, p_73, p_74, p_75, b0r_67, b1r_67⟩ := hp_71
      have z_76 := l_ps (by decide) (by decide) ⟨iM_68, q_72, p_73, p_74, p_75⟩
      clear p_73 p_74 p_75
      obtain ⟨g_77, eg_77⟩ : ∃ z : Nat → Int, z = pp_tm g_66 := ⟨_, rfl⟩
      rw [← eg_77] at hs_69
      refine lv_istore_n (lv' := [(2, .int r_67), (1, .int r_1), (0, .ref (A 60 0))]) hx hb dX10_guardLine_37 rfl hl (by decide) rfl (fun ls hl => ?_)
      refine lv_aload_n hx hb dX10_guardLine_38 rfl (lv_at hl 2 rfl) ?_
      refine ti_get (ci := 10) (k := 25) (N := 67) (T := TX10) C hw iw_10 rfl ob_60 (by decide) (by decide) fl_X10_208 rfl rfl dX10_guardLine_39 ?_
      refine lv_topi (fun x_78 ex_78 => ?_)
      have u_79 : (tI M_68 60 25).toInt = x_78.toInt := by rw [ex_78]
      have ufx_78 : (tI M_68 60 25).toInt = x_78.toInt := by rw [ex_78]
      refine sb_if_ne (tgt := 55) hx hb rfl dX10_guardLine_42 (by decide) (fun c_42_79 => ?_) (fun c_42_79 => ?_)
      · have z_81 : ff M_68 = 0 := ff_0 (fun h => c_42_79 (ufx_78.symm.trans h))
        clear c_42_79
        refine lv_aload_n hx hb dX10_guardLine_55 rfl (lv_at hl 2 rfl) ?_
        refine ti_get (ci := 10) (k := 25) (N := 67) (T := TX10) C hw iw_10 rfl ob_60 (by decide) (by decide) fl_X10_208 rfl rfl dX10_guardLine_56 ?_
        refine ti_top (y := x_78) (ex_78.symm) ?_
        refine sb_if_eq (tgt := 63) hx hb rfl dX10_guardLine_59 (by decide) (fun c_59_145 => by have z_147 : ff M_68 = 1 := ff_1 (ufx_78.trans c_59_145); omega) (fun c_59_145 => ?_)
        have z_147 : ff M_68 = 0 := ff_0 (fun h => c_59_145 (ufx_78.symm.trans h))
        clear c_59_145
        exact hQ _ _ _ _ _ hw (⟨(by have t1 : pp_tv rg = r_1.toInt := (hm_4 (ff_y (by omega))).symm; exact rQ_f hs_69 (rQ_g1 hs_69 (by omega)) (gq_3 (by rw [← eg_11]; exact rQ_g0 hs_3 (by omega)) (by rw [← eg_11, t1]; exact gu) (by rw [← eg_11, ← eg_66, ← eg_77]; exact (rQ_z hs_69 (rQ_g1 hs_69 (by omega)))) (by rw [← eg_11, ← eg_66, ← eg_77]; exact (fk.refl (rQ_z hs_69 (rQ_g1 hs_69 (by omega))))))), iM_68, (l0.trans (l0_pr q_72 (by decide) (by decide)) (l0.trans (l0_pr q_60 (by decide) (by decide)) (l0_pr q_6 (by decide) (by decide)))), (by omega), (by omega), (by omega), (by omega), (by omega), (by omega)⟩) dX10_guardLine_62
      · have z_81 : ff M_68 = 1 := ff_1 (ufx_78.trans c_42_79)
        clear c_42_79
        refine lv_iload_n hx hb dX10_guardLine_45 rfl (lv_at hl 1 rfl) ?_
        refine lv_iload_n hx hb dX10_guardLine_46 rfl (lv_at hl 0 rfl) ?_
        refine sb_icmp_ne (tgt := 55) hx hb rfl rfl dX10_guardLine_47 (by decide) (fun c_47_108 => ?_) (fun c_47_108 => ?_)
        · refine lv_aload_n hx hb dX10_guardLine_55 rfl (lv_at hl 2 rfl) ?_
          refine ti_get (ci := 10) (k := 25) (N := 67) (T := TX10) C hw iw_10 rfl ob_60 (by decide) (by decide) fl_X10_208 rfl rfl dX10_guardLine_56 ?_
          refine ti_top (y := x_78) (ex_78.symm) ?_
          refine sb_if_eq (tgt := 63) hx hb rfl dX10_guardLine_59 (by decide) (fun c_59_151 => ?_) (fun c_59_151 => by have z_153 : ff M_68 = 0 := ff_0 (fun h => c_59_151 (ufx_78.symm.trans h)); omega)
          have z_153 : ff M_68 = 1 := ff_1 (ufx_78.trans c_59_151)
          clear c_59_151
          refine lv_aload_n hx hb dX10_guardLine_63 rfl (lv_at hl 2 rfl) ?_
          refine ti_get (ci := 10) (k := 13) (N := 67) (T := TX10) (v := .ref (A 60 14)) C hw iw_10 rfl ob_60 (by decide) (by decide) fl_X10_43 rfl rfl dX10_guardLine_64 ?_
          refine lv_bipush (v := 8) hx hb dX10_guardLine_67 (by decide) ?_
          refine lv_iload_n hx hb dX10_guardLine_69 rfl (lv_at hl 1 rfl) ?_
          refine lv_iadd hx hb dX10_guardLine_70 ?_
          refine lv_topi (fun x_188 ex_188 => ?_)
          have tx_188 : x_188.toInt = 8 + r_1.toInt := i_add ex_188 (by decide : (8 : Int32).toInt = 8) rfl (by omega) (by omega)
          refine lv_iload_n hx hb dX10_guardLine_71 rfl (lv_at hl 0 rfl) ?_
          refine lv_iconst (v := 1) hx hb dX10_guardLine_72 (by decide) ?_
          refine lv_iadd hx hb dX10_guardLine_73 ?_
          refine lv_topi (fun x_189 ex_189 => ?_)
          have tx_189 : x_189.toInt = r_67.toInt + 1 := i_add ex_189 rfl (by decide : (1 : Int32).toInt = 1) (by omega) (by omega)
          refine ti_iast (ci := 10) (k := 13) (n := 16) C hw ob_60 (by decide) (fun _ _ => rfl) (vp_in_iff.mpr (by omega)) dX10_guardLine_74 (fun H locs hw => ?_)
          obtain ⟨M_190, hM_190⟩ : ∃ z : ti_M, z = uY M_68 60 13 (upd (tY M_68 60 13) (x_188 : Int32).toNatClampNeg x_189) := ⟨_, rfl⟩
          have hw := hw.to hM_190.symm
          have iM_190 : mI Tm M_190 := mI_up (i := x_188.toNatClampNeg) iM_68 hM_190 trivial
          have z_191 := s5_Y hM_190 (by decide)
          have hs_193 := rQ_13 (a0 := r_1.toInt.toNat) (b0 := r_67.toInt) hs_69 hM_190 (by show (x_188 : Int32).toInt.toNat = _; omega) (by omega) (by omega) (by omega)
          obtain ⟨g_194, eg_194⟩ : ∃ z : Nat → Int, z = pp_su g_77 (200 + r_1.toInt.toNat) r_67.toInt := ⟨_, rfl⟩
          rw [← eg_194] at hs_193
          refine lv_aload_n hx hb dX10_guardLine_75 rfl (lv_at hl 2 rfl) ?_
          refine ti_callVvE (ci := 10) (av := []) C hE hw (x_X10_token l D A cy hJ M_190 iM_190 ) ⟨ml_X10_214, ym_X10_token, yv_X10_token, yi_X10_token, yc_X10_token⟩ yd_X10_token ob_60 (by decide) rfl rfl hl.1 (Nat.le_of_ble_eq_true rfl) ⟨by decide, by decide⟩ ⟨Nat.zero_le _, Nat.zero_le _⟩ dX10_guardLine_76 (fun M_196 H locs hp_196 hw => ?_)
          obtain ⟨iM_196, q_199, z_197, z_198, k2M_196, k3M_196, k4M_196⟩ := hp_196
          have hs_200 := rQ_av hs_193 (rQ_g0 hs_193 (by omega)) (iM_190.1 21).1 q_199 k2M_196 k3M_196 k4M_196
          obtain ⟨-, -, z_201, z_202, z_203, z_204, z_205, z_206⟩ := l_tk ⟨iM_196, q_199, z_197, z_198⟩
          clear z_197 z_198 k2M_196 k3M_196 k4M_196
          obtain ⟨g_207, eg_207⟩ : ∃ z : Nat → Int, z = pp_av B n g_194 := ⟨_, rfl⟩
          rw [← eg_207] at hs_200
          exact hQ _ _ _ _ _ hw (⟨(by have t1 : pp_tv rg = r_1.toInt := (hm_4 (ff_y (by omega))).symm; have t2 : pp_tv g_66 = r_67.toInt := (hm_70 (ff_y (by omega))).symm; rw [gq_5 (by rw [← eg_11]; exact rQ_g0 hs_3 (by omega)) (by rw [← eg_11, t1]; exact gu) (by rw [← eg_11, ← eg_66, ← eg_77]; exact rQ_g0 hs_69 (by omega)) (by rw [← eg_11, ← eg_66, t2, t1]; omega), ← eg_11, ← eg_66, ← eg_77, t1, t2, ← eg_194, ← eg_207]; exact hs_200), iM_196, (l0.trans (l0_pr q_199 (by decide) (by decide)) (l0.trans (l0_Y hM_190 (by decide)) (l0.trans (l0_pr q_72 (by decide) (by decide)) (l0.trans (l0_pr q_60 (by decide) (by decide)) (l0_pr q_6 (by decide) (by decide)))))), (by omega), (by omega), (by omega), (by omega), (by omega), (by omega)⟩) dX10_guardLine_79
        · refine lv_aload_n hx hb dX10_guardLine_50 rfl (lv_at hl 2 rfl) ?_
          refine lv_iconst (v := 5) hx hb dX10_guardLine_51 (by decide) ?_
          refine ti_callVv (ci := 10) (av := [.int 5]) C hw (x_X10_wrong l D A cy hJ M_68 iM_68 5 (by decide) B n g_77 hs_69) ⟨ml_X10_217, ym_X10_wrong, yv_X10_wrong, yi_X10_wrong, yc_X10_wrong⟩ yd_X10_wrong ob_60 (by decide) rfl rfl hl.1 (Nat.le_of_ble_eq_true rfl) ⟨by decide, by decide⟩ ⟨Nat.zero_le _, Nat.zero_le _⟩ dX10_guardLine_52 (fun M_123 H locs hp_123 hw => ?_)
          rw [show (5 : Int32).toInt = 5 by decide] at hp_123
          obtain ⟨hs_124, hp_125⟩ := hp_123
          obtain ⟨iM_123, q_126, z_127, z_128, z_129, z_130, z_131⟩ := l_wr hp_125
          clear hp_125
          obtain ⟨g_132, eg_132⟩ : ∃ z : Nat → Int, z = pp_rf 5 g_77 := ⟨_, rfl⟩
          rw [← eg_132] at hs_124
          refine lv_aload_n hx hb dX10_guardLine_55 rfl (lv_at hl 2 rfl) ?_
          refine ti_get (ci := 10) (k := 25) (N := 67) (T := TX10) C hw iw_10 rfl ob_60 (by decide) (by decide) fl_X10_208 rfl rfl dX10_guardLine_56 ?_
          refine lv_topi (fun x_160 ex_160 => ?_)
          have u_161 : (tI M_123 60 25).toInt = x_160.toInt := by rw [ex_160]
          have ufx_160 : (tI M_123 60 25).toInt = x_160.toInt := by rw [ex_160]
          refine sb_if_eq (tgt := 63) hx hb rfl dX10_guardLine_59 (by decide) (fun c_59_161 => by have z_163 : ff M_123 = 1 := ff_1 (ufx_160.trans c_59_161); omega) (fun c_59_161 => ?_)
          have z_163 : ff M_123 = 0 := ff_0 (fun h => c_59_161 (ufx_160.symm.trans h))
          clear c_59_161
          exact hQ _ _ _ _ _ hw (⟨(by have t1 : pp_tv rg = r_1.toInt := (hm_4 (ff_y (by omega))).symm; have t2 : pp_tv g_66 = r_67.toInt := (hm_70 (ff_y (by omega))).symm; exact rQ_f hs_124 (rQ_g1 hs_124 (by omega)) (gq_4 (by rw [← eg_11]; exact rQ_g0 hs_3 (by omega)) (by rw [← eg_11, t1]; exact gu) (by rw [← eg_11, ← eg_66, t2, t1]; omega) (by rw [← eg_11, ← eg_66, ← eg_77, ← eg_132]; exact (fk.refl (rQ_z hs_124 (rQ_g1 hs_124 (by omega))))))), iM_123, (l0.trans (l0_pr q_126 (by decide) (by decide)) (l0.trans (l0_pr q_72 (by decide) (by decide)) (l0.trans (l0_pr q_60 (by decide) (by decide)) (l0_pr q_6 (by decide) (by decide))))), (by omega), (by omega), (by omega), (by omega), (by omega), (by omega)⟩) dX10_guardLine_62
    · have gu : g_11 (200 + r_1.toInt.toNat) ≠ -1 := by omega
      have gn : True := trivial
      refine lv_aload_n hx hb dX10_guardLine_24 rfl (lv_at hl 1 rfl) ?_
      refine lv_iconst (v := 3) hx hb dX10_guardLine_25 (by decide) ?_
      refine ti_callVv (ci := 10) (av := [.int 3]) C hw (x_X10_wrong l D A cy hJ M_2 iM_2 3 (by decide) B n g_11 hs_3) ⟨ml_X10_217, ym_X10_wrong, yv_X10_wrong, yi_X10_wrong, yc_X10_wrong⟩ yd_X10_wrong ob_60 (by decide) rfl rfl hl.1 (Nat.le_of_ble_eq_true rfl) ⟨by decide, by decide⟩ ⟨Nat.zero_le _, Nat.zero_le _⟩ dX10_guardLine_26 (fun M_20 H locs hp_20 hw => ?_)
      rw [show (3 : Int32).toInt = 3 by decide] at hp_20
      obtain ⟨hs_21, hp_22⟩ := hp_20
      obtain ⟨iM_20, q_23, z_24, z_25, z_26, z_27, z_28⟩ := l_wr hp_22
      clear hp_22
      obtain ⟨g_29, eg_29⟩ : ∃ z : Nat → Int, z = pp_rf 3 g_11 := ⟨_, rfl⟩
      rw [← eg_29] at hs_21
      refine lv_aload_n hx hb dX10_guardLine_29 rfl (lv_at hl 1 rfl) ?_
      refine ti_callVvE (ci := 10) (av := []) C hE hw (x_X10_goOn l D A cy hJ M_20 iM_20  B n g_29 hs_21) ⟨ml_X10_267, ym_X10_goOn, yv_X10_goOn, yi_X10_goOn, yc_X10_goOn⟩ yd_X10_goOn ob_60 (by decide) rfl rfl hl.1 (Nat.le_of_ble_eq_true rfl) ⟨by decide, by decide⟩ ⟨Nat.zero_le _, Nat.zero_le _⟩ dX10_guardLine_30 (fun M_83 H locs hp_83 hw => ?_)
      obtain ⟨hs_84, hp_85⟩ := hp_83
      obtain ⟨iM_83, q_86, z_87, z_88, z_89, z_90, z_91⟩ := l_go hp_85
      clear hp_85
      obtain ⟨g_92, eg_92⟩ : ∃ z : Nat → Int, z = pp_go B n g_29 := ⟨_, rfl⟩
      rw [← eg_92] at hs_84
      refine lv_aload_n hx hb dX10_guardLine_33 rfl (lv_at hl 1 rfl) ?_
      refine ti_callVi (ci := 10) (av := []) C hw (x_X10_manAtHand l D A cy hJ M_83 iM_83  B n g_92 hs_84) ⟨ml_X10_264, ym_X10_manAtHand, yv_X10_manAtHand, yi_X10_manAtHand, yc_X10_manAtHand⟩ yd_X10_manAtHand ob_60 (by decide) rfl rfl hl.1 (Nat.le_of_ble_eq_true rfl) ⟨by decide, by decide⟩ ⟨Nat.zero_le _, Nat.zero_le _⟩ dX10_guardLine_34 (fun r_93 M_94 H locs hp_94 hw => ?_)
      obtain ⟨hs_95, hm_96, hp_97⟩ := hp_94
      obtain ⟨iM_94, q_98, p_99, p_100, p_101, b0r_93, b1r_93⟩ := hp_97
      have z_102 := l_ps (by decide) (by decide) ⟨iM_94, q_98, p_99, p_100, p_101⟩
      clear p_99 p_100 p_101
      obtain ⟨g_103, eg_103⟩ : ∃ z : Nat → Int, z = pp_tm g_92 := ⟨_, rfl⟩
      rw [← eg_103] at hs_95
      refine lv_istore_n (lv' := [(2, .int r_93), (1, .int r_1), (0, .ref (A 60 0))]) hx hb dX10_guardLine_37 rfl hl (by decide) rfl (fun ls hl => ?_)
      refine lv_aload_n hx hb dX10_guardLine_38 rfl (lv_at hl 2 rfl) ?_
      refine ti_get (ci := 10) (k := 25) (N := 67) (T := TX10) C hw iw_10 rfl ob_60 (by decide) (by decide) fl_X10_208 rfl rfl dX10_guardLine_39 ?_
      refine lv_topi (fun x_104 ex_104 => ?_)
      have u_105 : (tI M_94 60 25).toInt = x_104.toInt := by rw [ex_104]
      have ufx_104 : (tI M_94 60 25).toInt = x_104.toInt := by rw [ex_104]
      refine sb_if_ne (tgt := 55) hx hb rfl dX10_guardLine_42 (by decide) (fun c_42_105 => ?_) (fun c_42_105 => ?_)
      · have z_107 : ff M_94 = 0 := ff_0 (fun h => c_42_105 (ufx_104.symm.trans h))
        clear c_42_105
        refine lv_aload_n hx hb dX10_guardLine_55 rfl (lv_at hl 2 rfl) ?_
        refine ti_get (ci := 10) (k := 25) (N := 67) (T := TX10) C hw iw_10 rfl ob_60 (by decide) (by decide) fl_X10_208 rfl rfl dX10_guardLine_56 ?_
        refine ti_top (y := x_104) (ex_104.symm) ?_
        refine sb_if_eq (tgt := 63) hx hb rfl dX10_guardLine_59 (by decide) (fun c_59_147 => by have z_149 : ff M_94 = 1 := ff_1 (ufx_104.trans c_59_147); omega) (fun c_59_147 => ?_)
        have z_149 : ff M_94 = 0 := ff_0 (fun h => c_59_147 (ufx_104.symm.trans h))
        clear c_59_147
        exact hQ _ _ _ _ _ hw (⟨(by have t1 : pp_tv rg = r_1.toInt := (hm_4 (ff_y (by omega))).symm; exact rQ_f hs_95 (rQ_g1 hs_95 (by omega)) (gq_2 (by rw [← eg_11]; exact rQ_g0 hs_3 (by omega)) (by rw [← eg_11, t1]; exact gu) (by rw [← eg_11, ← eg_29]; exact (show fk g_103 g_29 by rw [eg_103]; exact (tm_f ((show fk g_92 g_29 by rw [eg_92, go_f ((fk.refl (rQ_z hs_21 (rQ_g1 hs_21 (by omega)))).zz (rQ_z hs_21 (rQ_g1 hs_21 (by omega)))).1]; exact (fk.refl (rQ_z hs_21 (rQ_g1 hs_21 (by omega))))).zz (rQ_z hs_21 (rQ_g1 hs_21 (by omega))))).trans (show fk g_92 g_29 by rw [eg_92, go_f ((fk.refl (rQ_z hs_21 (rQ_g1 hs_21 (by omega)))).zz (rQ_z hs_21 (rQ_g1 hs_21 (by omega)))).1]; exact (fk.refl (rQ_z hs_21 (rQ_g1 hs_21 (by omega))))))))), iM_94, (l0.trans (l0_pr q_98 (by decide) (by decide)) (l0.trans (l0_pr q_86 (by decide) (by decide)) (l0.trans (l0_pr q_23 (by decide) (by decide)) (l0_pr q_6 (by decide) (by decide))))), (by omega), (by omega), (by omega), (by omega), (by omega), (by omega)⟩) dX10_guardLine_62
      · have z_107 : ff M_94 = 1 := ff_1 (ufx_104.trans c_42_105)
        clear c_42_105
        refine lv_iload_n hx hb dX10_guardLine_45 rfl (lv_at hl 1 rfl) ?_
        refine lv_iload_n hx hb dX10_guardLine_46 rfl (lv_at hl 0 rfl) ?_
        refine sb_icmp_ne (tgt := 55) hx hb rfl rfl dX10_guardLine_47 (by decide) (fun c_47_109 => ?_) (fun c_47_109 => ?_)
        · refine lv_aload_n hx hb dX10_guardLine_55 rfl (lv_at hl 2 rfl) ?_
          refine ti_get (ci := 10) (k := 25) (N := 67) (T := TX10) C hw iw_10 rfl ob_60 (by decide) (by decide) fl_X10_208 rfl rfl dX10_guardLine_56 ?_
          refine ti_top (y := x_104) (ex_104.symm) ?_
          refine sb_if_eq (tgt := 63) hx hb rfl dX10_guardLine_59 (by decide) (fun c_59_153 => ?_) (fun c_59_153 => by have z_155 : ff M_94 = 0 := ff_0 (fun h => c_59_153 (ufx_104.symm.trans h)); omega)
          have z_155 : ff M_94 = 1 := ff_1 (ufx_104.trans c_59_153)
          clear c_59_153
          refine lv_aload_n hx hb dX10_guardLine_63 rfl (lv_at hl 2 rfl) ?_
          refine ti_get (ci := 10) (k := 13) (N := 67) (T := TX10) (v := .ref (A 60 14)) C hw iw_10 rfl ob_60 (by decide) (by decide) fl_X10_43 rfl rfl dX10_guardLine_64 ?_
          refine lv_bipush (v := 8) hx hb dX10_guardLine_67 (by decide) ?_
          refine lv_iload_n hx hb dX10_guardLine_69 rfl (lv_at hl 1 rfl) ?_
          refine lv_iadd hx hb dX10_guardLine_70 ?_
          refine lv_topi (fun x_208 ex_208 => ?_)
          have tx_208 : x_208.toInt = 8 + r_1.toInt := i_add ex_208 (by decide : (8 : Int32).toInt = 8) rfl (by omega) (by omega)
          refine lv_iload_n hx hb dX10_guardLine_71 rfl (lv_at hl 0 rfl) ?_
          refine lv_iconst (v := 1) hx hb dX10_guardLine_72 (by decide) ?_
          refine lv_iadd hx hb dX10_guardLine_73 ?_
          refine lv_topi (fun x_209 ex_209 => ?_)
          have tx_209 : x_209.toInt = r_93.toInt + 1 := i_add ex_209 rfl (by decide : (1 : Int32).toInt = 1) (by omega) (by omega)
          refine ti_iast (ci := 10) (k := 13) (n := 16) C hw ob_60 (by decide) (fun _ _ => rfl) (vp_in_iff.mpr (by omega)) dX10_guardLine_74 (fun H locs hw => ?_)
          obtain ⟨M_210, hM_210⟩ : ∃ z : ti_M, z = uY M_94 60 13 (upd (tY M_94 60 13) (x_208 : Int32).toNatClampNeg x_209) := ⟨_, rfl⟩
          have hw := hw.to hM_210.symm
          have iM_210 : mI Tm M_210 := mI_up (i := x_208.toNatClampNeg) iM_94 hM_210 trivial
          have z_211 := s5_Y hM_210 (by decide)
          have hs_213 := rQ_13 (a0 := r_1.toInt.toNat) (b0 := r_93.toInt) hs_95 hM_210 (by show (x_208 : Int32).toInt.toNat = _; omega) (by omega) (by omega) (by omega)
          obtain ⟨g_214, eg_214⟩ : ∃ z : Nat → Int, z = pp_su g_103 (200 + r_1.toInt.toNat) r_93.toInt := ⟨_, rfl⟩
          rw [← eg_214] at hs_213
          refine lv_aload_n hx hb dX10_guardLine_75 rfl (lv_at hl 2 rfl) ?_
          refine ti_callVvE (ci := 10) (av := []) C hE hw (x_X10_token l D A cy hJ M_210 iM_210 ) ⟨ml_X10_214, ym_X10_token, yv_X10_token, yi_X10_token, yc_X10_token⟩ yd_X10_token ob_60 (by decide) rfl rfl hl.1 (Nat.le_of_ble_eq_true rfl) ⟨by decide, by decide⟩ ⟨Nat.zero_le _, Nat.zero_le _⟩ dX10_guardLine_76 (fun M_216 H locs hp_216 hw => ?_)
          obtain ⟨iM_216, q_219, z_217, z_218, k2M_216, k3M_216, k4M_216⟩ := hp_216
          have hs_220 := rQ_av hs_213 (rQ_g0 hs_213 (by omega)) (iM_210.1 21).1 q_219 k2M_216 k3M_216 k4M_216
          obtain ⟨-, -, z_221, z_222, z_223, z_224, z_225, z_226⟩ := l_tk ⟨iM_216, q_219, z_217, z_218⟩
          clear z_217 z_218 k2M_216 k3M_216 k4M_216
          obtain ⟨g_227, eg_227⟩ : ∃ z : Nat → Int, z = pp_av B n g_214 := ⟨_, rfl⟩
          rw [← eg_227] at hs_220
          exact hQ _ _ _ _ _ hw (⟨(by exfalso; omega), iM_216, (l0.trans (l0_pr q_219 (by decide) (by decide)) (l0.trans (l0_Y hM_210 (by decide)) (l0.trans (l0_pr q_98 (by decide) (by decide)) (l0.trans (l0_pr q_86 (by decide) (by decide)) (l0.trans (l0_pr q_23 (by decide) (by decide)) (l0_pr q_6 (by decide) (by decide))))))), (by omega), (by omega), (by omega), (by omega), (by omega), (by omega)⟩) dX10_guardLine_79
        · refine lv_aload_n hx hb dX10_guardLine_50 rfl (lv_at hl 2 rfl) ?_
          refine lv_iconst (v := 5) hx hb dX10_guardLine_51 (by decide) ?_
          refine ti_callVv (ci := 10) (av := [.int 5]) C hw (x_X10_wrong l D A cy hJ M_94 iM_94 5 (by decide) B n g_103 hs_95) ⟨ml_X10_217, ym_X10_wrong, yv_X10_wrong, yi_X10_wrong, yc_X10_wrong⟩ yd_X10_wrong ob_60 (by decide) rfl rfl hl.1 (Nat.le_of_ble_eq_true rfl) ⟨by decide, by decide⟩ ⟨Nat.zero_le _, Nat.zero_le _⟩ dX10_guardLine_52 (fun M_134 H locs hp_134 hw => ?_)
          rw [show (5 : Int32).toInt = 5 by decide] at hp_134
          obtain ⟨hs_135, hp_136⟩ := hp_134
          obtain ⟨iM_134, q_137, z_138, z_139, z_140, z_141, z_142⟩ := l_wr hp_136
          clear hp_136
          obtain ⟨g_143, eg_143⟩ : ∃ z : Nat → Int, z = pp_rf 5 g_103 := ⟨_, rfl⟩
          rw [← eg_143] at hs_135
          refine lv_aload_n hx hb dX10_guardLine_55 rfl (lv_at hl 2 rfl) ?_
          refine ti_get (ci := 10) (k := 25) (N := 67) (T := TX10) C hw iw_10 rfl ob_60 (by decide) (by decide) fl_X10_208 rfl rfl dX10_guardLine_56 ?_
          refine lv_topi (fun x_164 ex_164 => ?_)
          have u_165 : (tI M_134 60 25).toInt = x_164.toInt := by rw [ex_164]
          have ufx_164 : (tI M_134 60 25).toInt = x_164.toInt := by rw [ex_164]
          refine sb_if_eq (tgt := 63) hx hb rfl dX10_guardLine_59 (by decide) (fun c_59_165 => by have z_167 : ff M_134 = 1 := ff_1 (ufx_164.trans c_59_165); omega) (fun c_59_165 => ?_)
          have z_167 : ff M_134 = 0 := ff_0 (fun h => c_59_165 (ufx_164.symm.trans h))
          clear c_59_165
          exact hQ _ _ _ _ _ hw (⟨(by exfalso; omega), iM_134, (l0.trans (l0_pr q_137 (by decide) (by decide)) (l0.trans (l0_pr q_98 (by decide) (by decide)) (l0.trans (l0_pr q_86 (by decide) (by decide)) (l0.trans (l0_pr q_23 (by decide) (by decide)) (l0_pr q_6 (by decide) (by decide)))))), (by omega), (by omega), (by omega), (by omega), (by omega), (by omega)⟩) dX10_guardLine_62
set_option maxHeartbeats 4000000 in
set_option maxRecDepth 100000 in
theorem x_X10_powerLine (l : Launch) (D : va_G) (A : Nat → Nat → Nat) (cy : Nat → ClassId) (hJ : ti_inj ti_LM A) (M : ti_M) (hI : mI Tm M) (hf : ff M = 1) (B : Nat → Int) (n : Nat) (rg : Nat → Int) (hr : rQ B n rg M) : ti_KvE l yX10_powerLine cX10_powerLine 2 7 ti_LM D A cy M [.ref (A 60 0)] (fun M2 => rQ B n (pp_pq B n rg) M2 ∧ mI Tm M2 ∧ l0 M2 M ∧ (pg M ≤ pg M2) ∧ (0 ≤ ff M2) ∧ (ff M2 ≤ ff M) ∧ ((tI M2 60 29).toInt = (tI M 60 29).toInt) ∧ ((tI M2 60 30).toInt = (tI M 60 30).toInt) ∧ ((tY M2 60 3 18).toInt = (tY M 60 3 18).toInt)) := by
  refine ti_eVE yp_X10_powerLine hJ ti_LM_nd (Nat.le_of_ble_eq_true rfl) ?_
  intro p e s m args below meth c Q H0 C hE hQ hw ls hl
  have hx := C.1
  have hb := C.2.1
  have hl : lv_has ls 2 [(0, .ref (A 60 0))] := hl
  have hI30 := b30 hI
  have hI29 := b29 hI
  have hI18 := b18 hI
  have hIff := ff_b M
  refine lv_aload_n hx hb dX10_powerLine_0 rfl (lv_at hl 0 rfl) ?_
  refine ti_get (ci := 10) (k := 23) (N := 67) (T := TX10) C hw iw_10 rfl ob_60 (by decide) (by decide) fl_X10_173 rfl rfl dX10_powerLine_1 ?_
  refine lv_topi (fun x_1 ex_1 => ?_)
  have uqu_2 : (tI M 60 23).toInt = x_1.toInt := by rw [(ex_1.symm)]
  refine sb_if_ne (tgt := 25) hx hb rfl dX10_powerLine_4 (by decide) (fun c_4_2 => ?_) (fun c_4_2 => ?_)
  · refine lv_aload_n hx hb dX10_powerLine_25 rfl (lv_at hl 0 rfl) ?_
    refine lv_iconst (v := 1) hx hb dX10_powerLine_26 (by decide) ?_
    refine ti_callVv (ci := 10) (av := [.int 1]) C hw (x_X10_wrong l D A cy hJ M hI 1 (by decide) B n rg hr) ⟨ml_X10_217, ym_X10_wrong, yv_X10_wrong, yi_X10_wrong, yc_X10_wrong⟩ yd_X10_wrong ob_60 (by decide) rfl rfl hl.1 (Nat.le_of_ble_eq_true rfl) ⟨by decide, by decide⟩ ⟨Nat.zero_le _, Nat.zero_le _⟩ dX10_powerLine_27 (fun M_10 H locs hp_10 hw => ?_)
    rw [show (1 : Int32).toInt = 1 by decide] at hp_10
    obtain ⟨hs_11, hp_12⟩ := hp_10
    obtain ⟨iM_10, q_13, z_14, z_15, z_16, z_17, z_18⟩ := l_wr hp_12
    clear hp_12
    obtain ⟨g_19, eg_19⟩ : ∃ z : Nat → Int, z = pp_rf 1 rg := ⟨_, rfl⟩
    rw [← eg_19] at hs_11
    refine lv_aload_n hx hb dX10_powerLine_30 rfl (lv_at hl 0 rfl) ?_
    refine ti_get (ci := 10) (k := 24) (N := 67) (T := TX10) C hw iw_10 rfl ob_60 (by decide) (by decide) fl_X10_183 rfl rfl dX10_powerLine_31 ?_
    refine lv_topi (fun x_48 ex_48 => ?_)
    have uqu_49 : (tI M_10 60 24).toInt = x_48.toInt := by rw [(ex_48.symm)]
    refine lv_bipush (v := 10) hx hb dX10_powerLine_34 (by decide) ?_
    refine lv_isub hx hb dX10_powerLine_36 ?_
    refine lv_topi (fun x_50 ex_50 => ?_)
    refine lv_istore_n (lv' := [(1, .int x_50), (0, .ref (A 60 0))]) hx hb dX10_powerLine_37 rfl hl (by decide) rfl (fun ls hl => ?_)
    refine lv_aload_n hx hb dX10_powerLine_38 rfl (lv_at hl 1 rfl) ?_
    refine ti_get (ci := 10) (k := 25) (N := 67) (T := TX10) C hw iw_10 rfl ob_60 (by decide) (by decide) fl_X10_208 rfl rfl dX10_powerLine_39 ?_
    refine lv_topi (fun x_51 ex_51 => ?_)
    have u_52 : (tI M_10 60 25).toInt = x_51.toInt := by rw [ex_51]
    have ufx_51 : (tI M_10 60 25).toInt = x_51.toInt := by rw [ex_51]
    refine sb_if_ne (tgt := 65) hx hb rfl dX10_powerLine_42 (by decide) (fun c_42_52 => ?_) (fun c_42_52 => by have z_54 : ff M_10 = 1 := ff_1 (ufx_51.trans c_42_52); omega)
    have z_54 : ff M_10 = 0 := ff_0 (fun h => c_42_52 (ufx_51.symm.trans h))
    clear c_42_52
    refine lv_aload_n hx hb dX10_powerLine_65 rfl (lv_at hl 1 rfl) ?_
    refine ti_get (ci := 10) (k := 25) (N := 67) (T := TX10) C hw iw_10 rfl ob_60 (by decide) (by decide) fl_X10_208 rfl rfl dX10_powerLine_66 ?_
    refine ti_top (y := x_51) (ex_51.symm) ?_
    refine sb_if_eq (tgt := 73) hx hb rfl dX10_powerLine_69 (by decide) (fun c_69_82 => by have z_84 : ff M_10 = 1 := ff_1 (ufx_51.trans c_69_82); omega) (fun c_69_82 => ?_)
    have z_84 : ff M_10 = 0 := ff_0 (fun h => c_69_82 (ufx_51.symm.trans h))
    clear c_69_82
    exact hQ _ _ _ _ _ hw (⟨(by unfold pp_pq; rw [if_neg (fun q => by have e := (pT_nw (rQ_T hr hf)).1 q; omega), ← eg_19]; exact hs_11), iM_10, (l0_pr q_13 (by decide) (by decide)), (by omega), (by omega), (by omega), (by omega), (by omega), (by omega)⟩) dX10_powerLine_72
  · refine lv_aload_n hx hb dX10_powerLine_7 rfl (lv_at hl 0 rfl) ?_
    refine ti_get (ci := 10) (k := 24) (N := 67) (T := TX10) C hw iw_10 rfl ob_60 (by decide) (by decide) fl_X10_183 rfl rfl dX10_powerLine_8 ?_
    refine lv_topi (fun x_4 ex_4 => ?_)
    have uqu_5 : (tI M 60 24).toInt = x_4.toInt := by rw [(ex_4.symm)]
    refine lv_bipush (v := 10) hx hb dX10_powerLine_11 (by decide) ?_
    refine sb_icmp_lt (tgt := 25) hx hb rfl (by decide : (10 : Int32).toInt = 10) dX10_powerLine_13 (by decide) (fun c_13_5 => ?_) (fun c_13_5 => ?_)
    · refine lv_aload_n hx hb dX10_powerLine_25 rfl (lv_at hl 0 rfl) ?_
      refine lv_iconst (v := 1) hx hb dX10_powerLine_26 (by decide) ?_
      refine ti_callVv (ci := 10) (av := [.int 1]) C hw (x_X10_wrong l D A cy hJ M hI 1 (by decide) B n rg hr) ⟨ml_X10_217, ym_X10_wrong, yv_X10_wrong, yi_X10_wrong, yc_X10_wrong⟩ yd_X10_wrong ob_60 (by decide) rfl rfl hl.1 (Nat.le_of_ble_eq_true rfl) ⟨by decide, by decide⟩ ⟨Nat.zero_le _, Nat.zero_le _⟩ dX10_powerLine_27 (fun M_21 H locs hp_21 hw => ?_)
      rw [show (1 : Int32).toInt = 1 by decide] at hp_21
      obtain ⟨hs_22, hp_23⟩ := hp_21
      obtain ⟨iM_21, q_24, z_25, z_26, z_27, z_28, z_29⟩ := l_wr hp_23
      clear hp_23
      obtain ⟨g_30, eg_30⟩ : ∃ z : Nat → Int, z = pp_rf 1 rg := ⟨_, rfl⟩
      rw [← eg_30] at hs_22
      refine lv_aload_n hx hb dX10_powerLine_30 rfl (lv_at hl 0 rfl) ?_
      refine ti_get (ci := 10) (k := 24) (N := 67) (T := TX10) C hw iw_10 rfl ob_60 (by decide) (by decide) fl_X10_183 rfl rfl dX10_powerLine_31 ?_
      refine ti_top (y := x_4) ((q_24.2 24 (by decide)).trans ex_4.symm) ?_
      have uqu_55 : (tI M_21 60 24).toInt = x_4.toInt := by rw [((q_24.2 24 (by decide)).trans ex_4.symm)]
      refine lv_bipush (v := 10) hx hb dX10_powerLine_34 (by decide) ?_
      refine lv_isub hx hb dX10_powerLine_36 ?_
      refine lv_topi (fun x_56 ex_56 => ?_)
      refine lv_istore_n (lv' := [(1, .int x_56), (0, .ref (A 60 0))]) hx hb dX10_powerLine_37 rfl hl (by decide) rfl (fun ls hl => ?_)
      refine lv_aload_n hx hb dX10_powerLine_38 rfl (lv_at hl 1 rfl) ?_
      refine ti_get (ci := 10) (k := 25) (N := 67) (T := TX10) C hw iw_10 rfl ob_60 (by decide) (by decide) fl_X10_208 rfl rfl dX10_powerLine_39 ?_
      refine lv_topi (fun x_57 ex_57 => ?_)
      have u_58 : (tI M_21 60 25).toInt = x_57.toInt := by rw [ex_57]
      have ufx_57 : (tI M_21 60 25).toInt = x_57.toInt := by rw [ex_57]
      refine sb_if_ne (tgt := 65) hx hb rfl dX10_powerLine_42 (by decide) (fun c_42_58 => ?_) (fun c_42_58 => by have z_60 : ff M_21 = 1 := ff_1 (ufx_57.trans c_42_58); omega)
      have z_60 : ff M_21 = 0 := ff_0 (fun h => c_42_58 (ufx_57.symm.trans h))
      clear c_42_58
      refine lv_aload_n hx hb dX10_powerLine_65 rfl (lv_at hl 1 rfl) ?_
      refine ti_get (ci := 10) (k := 25) (N := 67) (T := TX10) C hw iw_10 rfl ob_60 (by decide) (by decide) fl_X10_208 rfl rfl dX10_powerLine_66 ?_
      refine ti_top (y := x_57) (ex_57.symm) ?_
      refine sb_if_eq (tgt := 73) hx hb rfl dX10_powerLine_69 (by decide) (fun c_69_84 => by have z_86 : ff M_21 = 1 := ff_1 (ufx_57.trans c_69_84); omega) (fun c_69_84 => ?_)
      have z_86 : ff M_21 = 0 := ff_0 (fun h => c_69_84 (ufx_57.symm.trans h))
      clear c_69_84
      exact hQ _ _ _ _ _ hw (⟨(by unfold pp_pq; rw [if_neg (fun q => by have e := (pT_nw (rQ_T hr hf)).1 q; omega), ← eg_30]; exact hs_22), iM_21, (l0_pr q_24 (by decide) (by decide)), (by omega), (by omega), (by omega), (by omega), (by omega), (by omega)⟩) dX10_powerLine_72
    · refine lv_aload_n hx hb dX10_powerLine_16 rfl (lv_at hl 0 rfl) ?_
      refine ti_get (ci := 10) (k := 24) (N := 67) (T := TX10) C hw iw_10 rfl ob_60 (by decide) (by decide) fl_X10_183 rfl rfl dX10_powerLine_17 ?_
      refine ti_top (y := x_4) (ex_4.symm) ?_
      have uqu_7 : (tI M 60 24).toInt = x_4.toInt := by rw [(ex_4.symm)]
      refine lv_bipush (v := 12) hx hb dX10_powerLine_20 (by decide) ?_
      refine sb_icmp_le (tgt := 30) hx hb rfl (by decide : (12 : Int32).toInt = 12) dX10_powerLine_22 (by decide) (fun c_22_7 => ?_) (fun c_22_7 => ?_)
      · refine lv_aload_n hx hb dX10_powerLine_30 rfl (lv_at hl 0 rfl) ?_
        refine ti_get (ci := 10) (k := 24) (N := 67) (T := TX10) C hw iw_10 rfl ob_60 (by decide) (by decide) fl_X10_183 rfl rfl dX10_powerLine_31 ?_
        refine ti_top (y := x_4) (ex_4.symm) ?_
        have uqu_42 : (tI M 60 24).toInt = x_4.toInt := by rw [(ex_4.symm)]
        refine lv_bipush (v := 10) hx hb dX10_powerLine_34 (by decide) ?_
        refine lv_isub hx hb dX10_powerLine_36 ?_
        refine lv_topi (fun x_43 ex_43 => ?_)
        have lox_43x_4 := x_4.le_toInt
        have hix_43x_4 := x_4.toInt_lt
        have tx_43 : x_43.toInt = x_4.toInt - 10 := i_sub ex_43 rfl (by decide : (10 : Int32).toInt = 10) (by omega) (by omega)
        refine lv_istore_n (lv' := [(1, .int x_43), (0, .ref (A 60 0))]) hx hb dX10_powerLine_37 rfl hl (by decide) rfl (fun ls hl => ?_)
        refine lv_aload_n hx hb dX10_powerLine_38 rfl (lv_at hl 1 rfl) ?_
        refine ti_get (ci := 10) (k := 25) (N := 67) (T := TX10) C hw iw_10 rfl ob_60 (by decide) (by decide) fl_X10_208 rfl rfl dX10_powerLine_39 ?_
        refine lv_topi (fun x_44 ex_44 => ?_)
        have u_45 : (tI M 60 25).toInt = x_44.toInt := by rw [ex_44]
        have ufx_44 : (tI M 60 25).toInt = x_44.toInt := by rw [ex_44]
        refine sb_if_ne (tgt := 65) hx hb rfl dX10_powerLine_42 (by decide) (fun c_42_45 => by have z_47 : ff M = 0 := ff_0 (fun h => c_42_45 (ufx_44.symm.trans h)); omega) (fun c_42_45 => ?_)
        have z_47 : ff M = 1 := ff_1 (ufx_44.trans c_42_45)
        clear c_42_45
        refine lv_aload_n hx hb dX10_powerLine_45 rfl (lv_at hl 1 rfl) ?_
        refine ti_get (ci := 10) (k := 18) (N := 67) (T := TX10) C hw iw_10 rfl ob_60 (by decide) (by decide) fl_X10_228 rfl rfl dX10_powerLine_46 ?_
        refine lv_topi (fun x_67 ex_67 => ?_)
        refine lv_bipush (v := 12) hx hb dX10_powerLine_49 (by decide) ?_
        refine lv_iload_n hx hb dX10_powerLine_51 rfl (lv_at hl 0 rfl) ?_
        refine lv_iadd hx hb dX10_powerLine_52 ?_
        refine lv_topi (fun x_68 ex_68 => ?_)
        have tx_68 : x_68.toInt = 12 + x_43.toInt := i_add ex_68 (by decide : (12 : Int32).toInt = 12) rfl (by omega) (by omega)
        refine lv_ishr hx hb dX10_powerLine_53 ?_
        refine lv_topi (fun x_69 ex_69 => ?_)
        refine lv_iconst (v := 1) hx hb dX10_powerLine_54 (by decide) ?_
        refine lv_iand hx hb dX10_powerLine_55 ?_
        refine lv_topi (fun x_70 ex_70 => ?_)
        have bx_70 := i_and 1 ex_70 (by decide) (by decide)
        have bsx_70 : x_70.toInt = pp_bt (tI M 60 18) (x_68.toInt).toNat := by rw [(ex_67.symm)]; exact bt_shr (k := x_68.toInt) ex_69 rfl (by omega) (by omega) ex_70
        have box_70 := bt_01 (tI M 60 18) (x_68.toInt).toNat
        refine lv_iconst (v := 1) hx hb dX10_powerLine_56 (by decide) ?_
        refine sb_icmp_ne (tgt := 65) hx hb rfl (by decide : (1 : Int32).toInt = 1) dX10_powerLine_57 (by decide) (fun c_57_70 => ?_) (fun c_57_70 => ?_)
        · refine lv_aload_n hx hb dX10_powerLine_65 rfl (lv_at hl 1 rfl) ?_
          refine ti_get (ci := 10) (k := 25) (N := 67) (T := TX10) C hw iw_10 rfl ob_60 (by decide) (by decide) fl_X10_208 rfl rfl dX10_powerLine_66 ?_
          refine ti_top (y := x_44) (ex_44.symm) ?_
          refine sb_if_eq (tgt := 73) hx hb rfl dX10_powerLine_69 (by decide) (fun c_69_88 => ?_) (fun c_69_88 => by have z_90 : ff M = 0 := ff_0 (fun h => c_69_88 (ufx_44.symm.trans h)); omega)
          have z_90 : ff M = 1 := ff_1 (ufx_44.trans c_69_88)
          clear c_69_88
          refine lv_aload_n hx hb dX10_powerLine_73 rfl (lv_at hl 1 rfl) ?_
          refine lv_dup hx hb dX10_powerLine_74 rfl ?_
          refine ti_get (ci := 10) (k := 18) (N := 67) (T := TX10) C hw iw_10 rfl ob_60 (by decide) (by decide) fl_X10_228 rfl rfl dX10_powerLine_75 ?_
          refine ti_top (y := x_67) (ex_67.symm) ?_
          refine lv_iconst (v := 1) hx hb dX10_powerLine_78 (by decide) ?_
          refine lv_bipush (v := 12) hx hb dX10_powerLine_79 (by decide) ?_
          refine lv_iload_n hx hb dX10_powerLine_81 rfl (lv_at hl 0 rfl) ?_
          refine lv_iadd hx hb dX10_powerLine_82 ?_
          refine lv_topi (fun x_95 ex_95 => ?_)
          have tx_95 : x_95.toInt = 12 + x_43.toInt := i_add ex_95 (by decide : (12 : Int32).toInt = 12) rfl (by omega) (by omega)
          refine lv_ishl hx hb dX10_powerLine_83 ?_
          refine lv_topi (fun x_96 ex_96 => ?_)
          refine lv_ior hx hb dX10_powerLine_84 ?_
          refine lv_topi (fun x_97 ex_97 => ?_)
          refine ti_putI (ci := 10) (k := 18) (N := 67) (T := TX10) C hw iw_10 tyX10 tyX10_ok nmX10 rfl ob_60 (by decide) (by decide) fl_X10_228 rfl rfl rfl rfl (fn_10 A _) fs_10_18 dX10_powerLine_85 (fun H locs hw => ?_)
          obtain ⟨M_98, hM_98⟩ : ∃ z : ti_M, z = uI M 60 18 x_97 := ⟨_, rfl⟩
          have hw := hw.to hM_98.symm
          have iM_98 : mI Tm M_98 := mI_uI hI hM_98 (by decide) (by decide) trivial
          have z_99 : ff M_98 = ff M := ff_I hM_98 (by decide)
          have z_100 : pg M_98 = pg M := pg_I hM_98 (by decide)
          have z_101 : (tI M_98 60 29).toInt = (tI M 60 29).toInt := by rw [tI_nE hM_98 (nk (by decide))]
          have z_102 : (tI M_98 60 30).toInt = (tI M 60 30).toInt := by rw [tI_nE hM_98 (nk (by decide))]
          have z_103 : (tY M_98 60 3 18).toInt = (tY M 60 3 18).toInt := by rw [tY_uIE hM_98]
          have e0 := (pT_pw (rQ_T hr hf)).1 ⟨by omega, by omega, by omega⟩
          have hs_104 := rQ_18 (k0 := (x_95.toInt).toNat) (r := 300 + (rg 0).toNat) hr hM_98 (fun j hj => (bt_or (k := x_95.toInt) ex_96 rfl (by omega) (by omega) ex_97 j hj).trans (by rw [← (ex_67.symm)])) (by omega)
          obtain ⟨g_105, eg_105⟩ : ∃ z : Nat → Int, z = pp_su rg (300 + (rg 0).toNat) 1 := ⟨_, rfl⟩
          rw [← eg_105] at hs_104
          refine lv_aload_n hx hb dX10_powerLine_88 rfl (lv_at hl 1 rfl) ?_
          refine ti_callVvE (ci := 10) (av := []) C hE hw (x_X10_token l D A cy hJ M_98 iM_98 ) ⟨ml_X10_214, ym_X10_token, yv_X10_token, yi_X10_token, yc_X10_token⟩ yd_X10_token ob_60 (by decide) rfl rfl hl.1 (Nat.le_of_ble_eq_true rfl) ⟨by decide, by decide⟩ ⟨Nat.zero_le _, Nat.zero_le _⟩ dX10_powerLine_89 (fun M_107 H locs hp_107 hw => ?_)
          obtain ⟨iM_107, q_110, z_108, z_109, k2M_107, k3M_107, k4M_107⟩ := hp_107
          have hs_111 := rQ_av hs_104 (rQ_g0 hs_104 (by omega)) (iM_98.1 21).1 q_110 k2M_107 k3M_107 k4M_107
          obtain ⟨-, -, z_112, z_113, z_114, z_115, z_116, z_117⟩ := l_tk ⟨iM_107, q_110, z_108, z_109⟩
          clear z_108 z_109 k2M_107 k3M_107 k4M_107
          obtain ⟨g_118, eg_118⟩ : ∃ z : Nat → Int, z = pp_av B n g_105 := ⟨_, rfl⟩
          rw [← eg_118] at hs_111
          refine lv_aload_n hx hb dX10_powerLine_92 rfl (lv_at hl 1 rfl) ?_
          refine lv_bipush (v := 8) hx hb dX10_powerLine_93 (by decide) ?_
          refine lv_iload_n hx hb dX10_powerLine_95 rfl (lv_at hl 0 rfl) ?_
          refine lv_iadd hx hb dX10_powerLine_96 ?_
          refine lv_topi (fun x_119 ex_119 => ?_)
          have tx_119 : x_119.toInt = 8 + x_43.toInt := i_add ex_119 (by decide : (8 : Int32).toInt = 8) rfl (by omega) (by omega)
          refine lv_aload_n hx hb dX10_powerLine_97 rfl (lv_at hl 1 rfl) ?_
          refine lv_iconst (v := 0) hx hb dX10_powerLine_98 (by decide) ?_
          refine lv_bipush (v := 7) hx hb dX10_powerLine_99 (by decide) ?_
          refine ti_callViE (ci := 10) (av := [.int 0, .int 7]) C hE hw (x_X10_numeral l D A cy hJ M_107 iM_107 0 7 (by decide) (by decide) B n g_118 hs_111) ⟨ml_X10_240, ym_X10_numeral, yv_X10_numeral, yi_X10_numeral, yc_X10_numeral⟩ yd_X10_numeral ob_60 (by decide) rfl rfl hl.1 (Nat.le_of_ble_eq_true rfl) ⟨by decide, by decide⟩ ⟨Nat.zero_le _, Nat.zero_le _⟩ dX10_powerLine_101 (fun r_120 M_121 H locs hp_121 hw => ?_)
          obtain ⟨hs_122, hm_123, hp_124⟩ := hp_121
          rw [show (0 : Int32).toInt = 0 by decide] at hs_122
          rw [show (7 : Int32).toInt = 7 by decide] at hs_122
          obtain ⟨iM_121, q_125, p_126, p_127, p_128, b0r_120, b1r_120⟩ := hp_124
          have z_129 := l_ps (by decide) (by decide) ⟨iM_121, q_125, p_126, p_127, p_128⟩
          clear p_126 p_127 p_128
          have br_120 : 0 ≤ r_120.toInt ∧ r_120.toInt ≤ 7 := by have l1 : (0 : Int32).toInt = 0 := (by decide); have l2 : (7 : Int32).toInt = 7 := (by decide); omega
          obtain ⟨g_130, eg_130⟩ : ∃ z : Nat → Int, z = pp_nb B n 0 7 g_118 := ⟨_, rfl⟩
          rw [← eg_130] at hs_122
          refine ti_callVv (ci := 10) (av := [.int x_119, .int r_120]) C hw (s_X10_reads l D A cy hJ M_121 iM_121 x_119 r_120 (by omega) (by omega) (bn_p (by omega) (ib_mk (lo := 0) (hi := 7) (by omega) (by omega)))) ⟨ml_X10_244, ym_X10_reads, yv_X10_reads, yi_X10_reads, yc_X10_reads⟩ yd_X10_reads ob_60 (by decide) rfl rfl hl.1 (Nat.le_of_ble_eq_true rfl) ⟨by decide, by decide⟩ ⟨Nat.zero_le _, Nat.zero_le _⟩ dX10_powerLine_104 (fun M_132 H locs hp_132 hw => ?_)
          obtain ⟨iM_132, hM_132⟩ := hp_132
          have z_133 := s5_3 hM_132 (by omega)
          have hs_134 := rQ_3x hs_122 hM_132 (by omega)
          exact hQ _ _ _ _ _ hw (⟨(by have e := (pT_pw (rQ_T hr hf)).1 ⟨by omega, by omega, by omega⟩; have b9 := rQ_b9 hr (rQ_g0 hr hf) ⟨e.1, e.2.1⟩; rw [show (rg 0).toNat + 3 = (x_68.toInt).toNat by omega] at b9; unfold pp_pq pp_on; rw [if_pos ⟨e.1, e.2.1⟩, if_pos (by omega), ← eg_105, ← eg_118, ← eg_130]; exact hs_134), iM_132, (l0.trans (l0_3 hM_132 (by omega)) (l0.trans (l0_pr q_125 (by decide) (by decide)) (l0.trans (l0_pr q_110 (by decide) (by decide)) (l0_I hM_98 (by decide))))), (by omega), (by omega), (by omega), (by omega), (by omega), (by omega)⟩) dX10_powerLine_107
        · refine lv_aload_n hx hb dX10_powerLine_60 rfl (lv_at hl 1 rfl) ?_
          refine lv_iconst (v := 3) hx hb dX10_powerLine_61 (by decide) ?_
          refine ti_callVv (ci := 10) (av := [.int 3]) C hw (x_X10_wrong l D A cy hJ M hI 3 (by decide) B n rg hr) ⟨ml_X10_217, ym_X10_wrong, yv_X10_wrong, yi_X10_wrong, yc_X10_wrong⟩ yd_X10_wrong ob_60 (by decide) rfl rfl hl.1 (Nat.le_of_ble_eq_true rfl) ⟨by decide, by decide⟩ ⟨Nat.zero_le _, Nat.zero_le _⟩ dX10_powerLine_62 (fun M_73 H locs hp_73 hw => ?_)
          rw [show (3 : Int32).toInt = 3 by decide] at hp_73
          obtain ⟨hs_74, hp_75⟩ := hp_73
          obtain ⟨iM_73, q_76, z_77, z_78, z_79, z_80, z_81⟩ := l_wr hp_75
          clear hp_75
          obtain ⟨g_82, eg_82⟩ : ∃ z : Nat → Int, z = pp_rf 3 rg := ⟨_, rfl⟩
          rw [← eg_82] at hs_74
          refine lv_aload_n hx hb dX10_powerLine_65 rfl (lv_at hl 1 rfl) ?_
          refine ti_get (ci := 10) (k := 25) (N := 67) (T := TX10) C hw iw_10 rfl ob_60 (by decide) (by decide) fl_X10_208 rfl rfl dX10_powerLine_66 ?_
          refine lv_topi (fun x_91 ex_91 => ?_)
          have u_92 : (tI M_73 60 25).toInt = x_91.toInt := by rw [ex_91]
          have ufx_91 : (tI M_73 60 25).toInt = x_91.toInt := by rw [ex_91]
          refine sb_if_eq (tgt := 73) hx hb rfl dX10_powerLine_69 (by decide) (fun c_69_92 => by have z_94 : ff M_73 = 1 := ff_1 (ufx_91.trans c_69_92); omega) (fun c_69_92 => ?_)
          have z_94 : ff M_73 = 0 := ff_0 (fun h => c_69_92 (ufx_91.symm.trans h))
          clear c_69_92
          exact hQ _ _ _ _ _ hw (⟨(by have e := (pT_pw (rQ_T hr hf)).1 ⟨by omega, by omega, by omega⟩; have b9 := rQ_b9 hr (rQ_g0 hr hf) ⟨e.1, e.2.1⟩; rw [show (rg 0).toNat + 3 = (x_68.toInt).toNat by omega] at b9; unfold pp_pq pp_on; rw [if_pos ⟨e.1, e.2.1⟩, if_neg (by omega), ← eg_82]; exact rQ_f hs_74 (rQ_g1 hs_74 (by omega)) (nb_f (rQ_z hs_74 (rQ_g1 hs_74 (by omega))))), iM_73, (l0_pr q_76 (by decide) (by decide)), (by omega), (by omega), (by omega), (by omega), (by omega), (by omega)⟩) dX10_powerLine_72
      · refine lv_aload_n hx hb dX10_powerLine_25 rfl (lv_at hl 0 rfl) ?_
        refine lv_iconst (v := 1) hx hb dX10_powerLine_26 (by decide) ?_
        refine ti_callVv (ci := 10) (av := [.int 1]) C hw (x_X10_wrong l D A cy hJ M hI 1 (by decide) B n rg hr) ⟨ml_X10_217, ym_X10_wrong, yv_X10_wrong, yi_X10_wrong, yc_X10_wrong⟩ yd_X10_wrong ob_60 (by decide) rfl rfl hl.1 (Nat.le_of_ble_eq_true rfl) ⟨by decide, by decide⟩ ⟨Nat.zero_le _, Nat.zero_le _⟩ dX10_powerLine_27 (fun M_32 H locs hp_32 hw => ?_)
        rw [show (1 : Int32).toInt = 1 by decide] at hp_32
        obtain ⟨hs_33, hp_34⟩ := hp_32
        obtain ⟨iM_32, q_35, z_36, z_37, z_38, z_39, z_40⟩ := l_wr hp_34
        clear hp_34
        obtain ⟨g_41, eg_41⟩ : ∃ z : Nat → Int, z = pp_rf 1 rg := ⟨_, rfl⟩
        rw [← eg_41] at hs_33
        refine lv_aload_n hx hb dX10_powerLine_30 rfl (lv_at hl 0 rfl) ?_
        refine ti_get (ci := 10) (k := 24) (N := 67) (T := TX10) C hw iw_10 rfl ob_60 (by decide) (by decide) fl_X10_183 rfl rfl dX10_powerLine_31 ?_
        refine ti_top (y := x_4) ((q_35.2 24 (by decide)).trans ex_4.symm) ?_
        have uqu_61 : (tI M_32 60 24).toInt = x_4.toInt := by rw [((q_35.2 24 (by decide)).trans ex_4.symm)]
        refine lv_bipush (v := 10) hx hb dX10_powerLine_34 (by decide) ?_
        refine lv_isub hx hb dX10_powerLine_36 ?_
        refine lv_topi (fun x_62 ex_62 => ?_)
        refine lv_istore_n (lv' := [(1, .int x_62), (0, .ref (A 60 0))]) hx hb dX10_powerLine_37 rfl hl (by decide) rfl (fun ls hl => ?_)
        refine lv_aload_n hx hb dX10_powerLine_38 rfl (lv_at hl 1 rfl) ?_
        refine ti_get (ci := 10) (k := 25) (N := 67) (T := TX10) C hw iw_10 rfl ob_60 (by decide) (by decide) fl_X10_208 rfl rfl dX10_powerLine_39 ?_
        refine lv_topi (fun x_63 ex_63 => ?_)
        have u_64 : (tI M_32 60 25).toInt = x_63.toInt := by rw [ex_63]
        have ufx_63 : (tI M_32 60 25).toInt = x_63.toInt := by rw [ex_63]
        refine sb_if_ne (tgt := 65) hx hb rfl dX10_powerLine_42 (by decide) (fun c_42_64 => ?_) (fun c_42_64 => by have z_66 : ff M_32 = 1 := ff_1 (ufx_63.trans c_42_64); omega)
        have z_66 : ff M_32 = 0 := ff_0 (fun h => c_42_64 (ufx_63.symm.trans h))
        clear c_42_64
        refine lv_aload_n hx hb dX10_powerLine_65 rfl (lv_at hl 1 rfl) ?_
        refine ti_get (ci := 10) (k := 25) (N := 67) (T := TX10) C hw iw_10 rfl ob_60 (by decide) (by decide) fl_X10_208 rfl rfl dX10_powerLine_66 ?_
        refine ti_top (y := x_63) (ex_63.symm) ?_
        refine sb_if_eq (tgt := 73) hx hb rfl dX10_powerLine_69 (by decide) (fun c_69_86 => by have z_88 : ff M_32 = 1 := ff_1 (ufx_63.trans c_69_86); omega) (fun c_69_86 => ?_)
        have z_88 : ff M_32 = 0 := ff_0 (fun h => c_69_86 (ufx_63.symm.trans h))
        clear c_69_86
        exact hQ _ _ _ _ _ hw (⟨(by unfold pp_pq; rw [if_neg (fun q => by have e := (pT_nw (rQ_T hr hf)).1 q; omega), ← eg_41]; exact hs_33), iM_32, (l0_pr q_35 (by decide) (by decide)), (by omega), (by omega), (by omega), (by omega), (by omega), (by omega)⟩) dX10_powerLine_72
set_option maxHeartbeats 4000000 in
set_option maxRecDepth 100000 in
theorem x_X10_lawLine (l : Launch) (D : va_G) (A : Nat → Nat → Nat) (cy : Nat → ClassId) (hJ : ti_inj ti_LM A) (M : ti_M) (hI : mI Tm M) (hf : ff M = 1) (hum : um M) (h1 : (tY M 60 3 18).toInt ≤ (tI M 60 30).toInt + 64 - 64 * ff M) (h2 : (tI M 60 29).toInt ≤ 8 - 8 * ff M) (B : Nat → Int) (n : Nat) (rg : Nat → Int) (hr : rQ B n rg M) : ti_KvE l yX10_lawLine cX10_lawLine 2 650 ti_LM D A cy M [.ref (A 60 0)] (fun M2 => rQ B n (pp_lq B n rg) M2 ∧ mI Tm M2 ∧ ln M2 M ∧ (pg M ≤ pg M2) ∧ (0 ≤ ff M2) ∧ (ff M2 ≤ ff M) ∧ ((tY M2 60 3 18).toInt ≤ (tI M2 60 30).toInt + 64 - 64 * ff M2) ∧ ((tI M2 60 29).toInt ≤ 8 - 8 * ff M2) ∧ (0 ≤ (tY M2 60 3 18).toInt) ∧ ((tY M2 60 3 18).toInt ≤ 64) ∧ (0 ≤ (tI M2 60 29).toInt) ∧ ((tI M2 60 29).toInt ≤ 8) ∧ (0 ≤ (tI M2 60 30).toInt) ∧ ((tI M2 60 30).toInt ≤ 64) ∧ um M2) := by
  refine ti_eVE yp_X10_lawLine hJ ti_LM_nd (Nat.le_of_ble_eq_true rfl) ?_
  intro p e s m args below meth c Q H0 C hE hQ hw ls hl
  have hx := C.1
  have hb := C.2.1
  have hl : lv_has ls 2 [(0, .ref (A 60 0))] := hl
  have hI30 := b30 hI
  have hI29 := b29 hI
  have hI18 := b18 hI
  have hIff := ff_b M
  refine lv_aload_n hx hb dX10_lawLine_0 rfl (lv_at hl 0 rfl) ?_
  refine ti_get (ci := 10) (k := 23) (N := 67) (T := TX10) C hw iw_10 rfl ob_60 (by decide) (by decide) fl_X10_173 rfl rfl dX10_lawLine_1 ?_
  refine lv_topi (fun x_1 ex_1 => ?_)
  have uqu_2 : (tI M 60 23).toInt = x_1.toInt := by rw [(ex_1.symm)]
  refine sb_if_ne (tgt := 25) hx hb rfl dX10_lawLine_4 (by decide) (fun c_4_2 => ?_) (fun c_4_2 => ?_)
  · refine lv_aload_n hx hb dX10_lawLine_25 rfl (lv_at hl 0 rfl) ?_
    refine lv_iconst (v := 1) hx hb dX10_lawLine_26 (by decide) ?_
    refine ti_callVv (ci := 10) (av := [.int 1]) C hw (x_X10_wrong l D A cy hJ M hI 1 (by decide) B n rg hr) ⟨ml_X10_217, ym_X10_wrong, yv_X10_wrong, yi_X10_wrong, yc_X10_wrong⟩ yd_X10_wrong ob_60 (by decide) rfl rfl hl.1 (Nat.le_of_ble_eq_true rfl) ⟨by decide, by decide⟩ ⟨Nat.zero_le _, Nat.zero_le _⟩ dX10_lawLine_27 (fun M_10 H locs hp_10 hw => ?_)
    rw [show (1 : Int32).toInt = 1 by decide] at hp_10
    obtain ⟨hs_11, hp_12⟩ := hp_10
    obtain ⟨iM_10, q_13, z_14, z_15, z_16, z_17, z_18⟩ := l_wr hp_12
    clear hp_12
    obtain ⟨g_19, eg_19⟩ : ∃ z : Nat → Int, z = pp_rf 1 rg := ⟨_, rfl⟩
    rw [← eg_19] at hs_11
    refine lv_aload_n hx hb dX10_lawLine_30 rfl (lv_at hl 0 rfl) ?_
    refine ti_get (ci := 10) (k := 24) (N := 67) (T := TX10) C hw iw_10 rfl ob_60 (by decide) (by decide) fl_X10_183 rfl rfl dX10_lawLine_31 ?_
    refine lv_topi (fun x_48 ex_48 => ?_)
    have uqu_49 : (tI M_10 60 24).toInt = x_48.toInt := by rw [(ex_48.symm)]
    refine lv_bipush (v := 13) hx hb dX10_lawLine_34 (by decide) ?_
    refine lv_isub hx hb dX10_lawLine_36 ?_
    refine lv_topi (fun x_50 ex_50 => ?_)
    refine lv_istore_n (lv' := [(1, .int x_50), (0, .ref (A 60 0))]) hx hb dX10_lawLine_37 rfl hl (by decide) rfl (fun ls hl => ?_)
    refine lv_aload_n hx hb dX10_lawLine_38 rfl (lv_at hl 1 rfl) ?_
    refine ti_get (ci := 10) (k := 25) (N := 67) (T := TX10) C hw iw_10 rfl ob_60 (by decide) (by decide) fl_X10_208 rfl rfl dX10_lawLine_39 ?_
    refine lv_topi (fun x_51 ex_51 => ?_)
    have u_52 : (tI M_10 60 25).toInt = x_51.toInt := by rw [ex_51]
    have ufx_51 : (tI M_10 60 25).toInt = x_51.toInt := by rw [ex_51]
    refine sb_if_ne (tgt := 65) hx hb rfl dX10_lawLine_42 (by decide) (fun c_42_52 => ?_) (fun c_42_52 => by have z_54 : ff M_10 = 1 := ff_1 (ufx_51.trans c_42_52); omega)
    have z_54 : ff M_10 = 0 := ff_0 (fun h => c_42_52 (ufx_51.symm.trans h))
    clear c_42_52
    refine lv_aload_n hx hb dX10_lawLine_65 rfl (lv_at hl 1 rfl) ?_
    refine ti_get (ci := 10) (k := 25) (N := 67) (T := TX10) C hw iw_10 rfl ob_60 (by decide) (by decide) fl_X10_208 rfl rfl dX10_lawLine_66 ?_
    refine ti_top (y := x_51) (ex_51.symm) ?_
    refine sb_if_eq (tgt := 73) hx hb rfl dX10_lawLine_69 (by decide) (fun c_69_82 => by have z_84 : ff M_10 = 1 := ff_1 (ufx_51.trans c_69_82); omega) (fun c_69_82 => ?_)
    have z_84 : ff M_10 = 0 := ff_0 (fun h => c_69_82 (ufx_51.symm.trans h))
    clear c_69_82
    exact hQ _ _ _ _ _ hw (⟨(by unfold pp_lq; rw [if_neg (fun q => by have e := (pT_nw (rQ_T hr hf)).2.1 q; omega), ← eg_19]; exact hs_11), iM_10, (ln_l0 (l0_pr q_13 (by decide) (by decide))), (by omega), (by omega), (by omega), (by omega), (by omega), (by omega), (by omega), (by omega), (by omega), (by omega), (by omega), Or.inl (by omega)⟩) dX10_lawLine_72
  · refine lv_aload_n hx hb dX10_lawLine_7 rfl (lv_at hl 0 rfl) ?_
    refine ti_get (ci := 10) (k := 24) (N := 67) (T := TX10) C hw iw_10 rfl ob_60 (by decide) (by decide) fl_X10_183 rfl rfl dX10_lawLine_8 ?_
    refine lv_topi (fun x_4 ex_4 => ?_)
    have uqu_5 : (tI M 60 24).toInt = x_4.toInt := by rw [(ex_4.symm)]
    refine lv_bipush (v := 13) hx hb dX10_lawLine_11 (by decide) ?_
    refine sb_icmp_lt (tgt := 25) hx hb rfl (by decide : (13 : Int32).toInt = 13) dX10_lawLine_13 (by decide) (fun c_13_5 => ?_) (fun c_13_5 => ?_)
    · refine lv_aload_n hx hb dX10_lawLine_25 rfl (lv_at hl 0 rfl) ?_
      refine lv_iconst (v := 1) hx hb dX10_lawLine_26 (by decide) ?_
      refine ti_callVv (ci := 10) (av := [.int 1]) C hw (x_X10_wrong l D A cy hJ M hI 1 (by decide) B n rg hr) ⟨ml_X10_217, ym_X10_wrong, yv_X10_wrong, yi_X10_wrong, yc_X10_wrong⟩ yd_X10_wrong ob_60 (by decide) rfl rfl hl.1 (Nat.le_of_ble_eq_true rfl) ⟨by decide, by decide⟩ ⟨Nat.zero_le _, Nat.zero_le _⟩ dX10_lawLine_27 (fun M_21 H locs hp_21 hw => ?_)
      rw [show (1 : Int32).toInt = 1 by decide] at hp_21
      obtain ⟨hs_22, hp_23⟩ := hp_21
      obtain ⟨iM_21, q_24, z_25, z_26, z_27, z_28, z_29⟩ := l_wr hp_23
      clear hp_23
      obtain ⟨g_30, eg_30⟩ : ∃ z : Nat → Int, z = pp_rf 1 rg := ⟨_, rfl⟩
      rw [← eg_30] at hs_22
      refine lv_aload_n hx hb dX10_lawLine_30 rfl (lv_at hl 0 rfl) ?_
      refine ti_get (ci := 10) (k := 24) (N := 67) (T := TX10) C hw iw_10 rfl ob_60 (by decide) (by decide) fl_X10_183 rfl rfl dX10_lawLine_31 ?_
      refine ti_top (y := x_4) ((q_24.2 24 (by decide)).trans ex_4.symm) ?_
      have uqu_55 : (tI M_21 60 24).toInt = x_4.toInt := by rw [((q_24.2 24 (by decide)).trans ex_4.symm)]
      refine lv_bipush (v := 13) hx hb dX10_lawLine_34 (by decide) ?_
      refine lv_isub hx hb dX10_lawLine_36 ?_
      refine lv_topi (fun x_56 ex_56 => ?_)
      refine lv_istore_n (lv' := [(1, .int x_56), (0, .ref (A 60 0))]) hx hb dX10_lawLine_37 rfl hl (by decide) rfl (fun ls hl => ?_)
      refine lv_aload_n hx hb dX10_lawLine_38 rfl (lv_at hl 1 rfl) ?_
      refine ti_get (ci := 10) (k := 25) (N := 67) (T := TX10) C hw iw_10 rfl ob_60 (by decide) (by decide) fl_X10_208 rfl rfl dX10_lawLine_39 ?_
      refine lv_topi (fun x_57 ex_57 => ?_)
      have u_58 : (tI M_21 60 25).toInt = x_57.toInt := by rw [ex_57]
      have ufx_57 : (tI M_21 60 25).toInt = x_57.toInt := by rw [ex_57]
      refine sb_if_ne (tgt := 65) hx hb rfl dX10_lawLine_42 (by decide) (fun c_42_58 => ?_) (fun c_42_58 => by have z_60 : ff M_21 = 1 := ff_1 (ufx_57.trans c_42_58); omega)
      have z_60 : ff M_21 = 0 := ff_0 (fun h => c_42_58 (ufx_57.symm.trans h))
      clear c_42_58
      refine lv_aload_n hx hb dX10_lawLine_65 rfl (lv_at hl 1 rfl) ?_
      refine ti_get (ci := 10) (k := 25) (N := 67) (T := TX10) C hw iw_10 rfl ob_60 (by decide) (by decide) fl_X10_208 rfl rfl dX10_lawLine_66 ?_
      refine ti_top (y := x_57) (ex_57.symm) ?_
      refine sb_if_eq (tgt := 73) hx hb rfl dX10_lawLine_69 (by decide) (fun c_69_84 => by have z_86 : ff M_21 = 1 := ff_1 (ufx_57.trans c_69_84); omega) (fun c_69_84 => ?_)
      have z_86 : ff M_21 = 0 := ff_0 (fun h => c_69_84 (ufx_57.symm.trans h))
      clear c_69_84
      exact hQ _ _ _ _ _ hw (⟨(by unfold pp_lq; rw [if_neg (fun q => by have e := (pT_nw (rQ_T hr hf)).2.1 q; omega), ← eg_30]; exact hs_22), iM_21, (ln_l0 (l0_pr q_24 (by decide) (by decide))), (by omega), (by omega), (by omega), (by omega), (by omega), (by omega), (by omega), (by omega), (by omega), (by omega), (by omega), Or.inl (by omega)⟩) dX10_lawLine_72
    · refine lv_aload_n hx hb dX10_lawLine_16 rfl (lv_at hl 0 rfl) ?_
      refine ti_get (ci := 10) (k := 24) (N := 67) (T := TX10) C hw iw_10 rfl ob_60 (by decide) (by decide) fl_X10_183 rfl rfl dX10_lawLine_17 ?_
      refine ti_top (y := x_4) (ex_4.symm) ?_
      have uqu_7 : (tI M 60 24).toInt = x_4.toInt := by rw [(ex_4.symm)]
      refine lv_bipush (v := 15) hx hb dX10_lawLine_20 (by decide) ?_
      refine sb_icmp_le (tgt := 30) hx hb rfl (by decide : (15 : Int32).toInt = 15) dX10_lawLine_22 (by decide) (fun c_22_7 => ?_) (fun c_22_7 => ?_)
      · refine lv_aload_n hx hb dX10_lawLine_30 rfl (lv_at hl 0 rfl) ?_
        refine ti_get (ci := 10) (k := 24) (N := 67) (T := TX10) C hw iw_10 rfl ob_60 (by decide) (by decide) fl_X10_183 rfl rfl dX10_lawLine_31 ?_
        refine ti_top (y := x_4) (ex_4.symm) ?_
        have uqu_42 : (tI M 60 24).toInt = x_4.toInt := by rw [(ex_4.symm)]
        refine lv_bipush (v := 13) hx hb dX10_lawLine_34 (by decide) ?_
        refine lv_isub hx hb dX10_lawLine_36 ?_
        refine lv_topi (fun x_43 ex_43 => ?_)
        have lox_43x_4 := x_4.le_toInt
        have hix_43x_4 := x_4.toInt_lt
        have tx_43 : x_43.toInt = x_4.toInt - 13 := i_sub ex_43 rfl (by decide : (13 : Int32).toInt = 13) (by omega) (by omega)
        refine lv_istore_n (lv' := [(1, .int x_43), (0, .ref (A 60 0))]) hx hb dX10_lawLine_37 rfl hl (by decide) rfl (fun ls hl => ?_)
        refine lv_aload_n hx hb dX10_lawLine_38 rfl (lv_at hl 1 rfl) ?_
        refine ti_get (ci := 10) (k := 25) (N := 67) (T := TX10) C hw iw_10 rfl ob_60 (by decide) (by decide) fl_X10_208 rfl rfl dX10_lawLine_39 ?_
        refine lv_topi (fun x_44 ex_44 => ?_)
        have u_45 : (tI M 60 25).toInt = x_44.toInt := by rw [ex_44]
        have ufx_44 : (tI M 60 25).toInt = x_44.toInt := by rw [ex_44]
        refine sb_if_ne (tgt := 65) hx hb rfl dX10_lawLine_42 (by decide) (fun c_42_45 => by have z_47 : ff M = 0 := ff_0 (fun h => c_42_45 (ufx_44.symm.trans h)); omega) (fun c_42_45 => ?_)
        have z_47 : ff M = 1 := ff_1 (ufx_44.trans c_42_45)
        clear c_42_45
        refine lv_aload_n hx hb dX10_lawLine_45 rfl (lv_at hl 1 rfl) ?_
        refine ti_get (ci := 10) (k := 18) (N := 67) (T := TX10) C hw iw_10 rfl ob_60 (by decide) (by decide) fl_X10_228 rfl rfl dX10_lawLine_46 ?_
        refine lv_topi (fun x_67 ex_67 => ?_)
        refine lv_bipush (v := 16) hx hb dX10_lawLine_49 (by decide) ?_
        refine lv_iload_n hx hb dX10_lawLine_51 rfl (lv_at hl 0 rfl) ?_
        refine lv_iadd hx hb dX10_lawLine_52 ?_
        refine lv_topi (fun x_68 ex_68 => ?_)
        have tx_68 : x_68.toInt = 16 + x_43.toInt := i_add ex_68 (by decide : (16 : Int32).toInt = 16) rfl (by omega) (by omega)
        refine lv_ishr hx hb dX10_lawLine_53 ?_
        refine lv_topi (fun x_69 ex_69 => ?_)
        refine lv_iconst (v := 1) hx hb dX10_lawLine_54 (by decide) ?_
        refine lv_iand hx hb dX10_lawLine_55 ?_
        refine lv_topi (fun x_70 ex_70 => ?_)
        have bx_70 := i_and 1 ex_70 (by decide) (by decide)
        have bsx_70 : x_70.toInt = pp_bt (tI M 60 18) (x_68.toInt).toNat := by rw [(ex_67.symm)]; exact bt_shr (k := x_68.toInt) ex_69 rfl (by omega) (by omega) ex_70
        have box_70 := bt_01 (tI M 60 18) (x_68.toInt).toNat
        refine lv_iconst (v := 1) hx hb dX10_lawLine_56 (by decide) ?_
        refine sb_icmp_ne (tgt := 65) hx hb rfl (by decide : (1 : Int32).toInt = 1) dX10_lawLine_57 (by decide) (fun c_57_70 => ?_) (fun c_57_70 => ?_)
        · refine lv_aload_n hx hb dX10_lawLine_65 rfl (lv_at hl 1 rfl) ?_
          refine ti_get (ci := 10) (k := 25) (N := 67) (T := TX10) C hw iw_10 rfl ob_60 (by decide) (by decide) fl_X10_208 rfl rfl dX10_lawLine_66 ?_
          refine ti_top (y := x_44) (ex_44.symm) ?_
          refine sb_if_eq (tgt := 73) hx hb rfl dX10_lawLine_69 (by decide) (fun c_69_88 => ?_) (fun c_69_88 => by have z_90 : ff M = 0 := ff_0 (fun h => c_69_88 (ufx_44.symm.trans h)); omega)
          have z_90 : ff M = 1 := ff_1 (ufx_44.trans c_69_88)
          clear c_69_88
          refine lv_aload_n hx hb dX10_lawLine_73 rfl (lv_at hl 1 rfl) ?_
          refine lv_dup hx hb dX10_lawLine_74 rfl ?_
          refine ti_get (ci := 10) (k := 18) (N := 67) (T := TX10) C hw iw_10 rfl ob_60 (by decide) (by decide) fl_X10_228 rfl rfl dX10_lawLine_75 ?_
          refine ti_top (y := x_67) (ex_67.symm) ?_
          refine lv_iconst (v := 1) hx hb dX10_lawLine_78 (by decide) ?_
          refine lv_bipush (v := 16) hx hb dX10_lawLine_79 (by decide) ?_
          refine lv_iload_n hx hb dX10_lawLine_81 rfl (lv_at hl 0 rfl) ?_
          refine lv_iadd hx hb dX10_lawLine_82 ?_
          refine lv_topi (fun x_95 ex_95 => ?_)
          have tx_95 : x_95.toInt = 16 + x_43.toInt := i_add ex_95 (by decide : (16 : Int32).toInt = 16) rfl (by omega) (by omega)
          refine lv_ishl hx hb dX10_lawLine_83 ?_
          refine lv_topi (fun x_96 ex_96 => ?_)
          refine lv_ior hx hb dX10_lawLine_84 ?_
          refine lv_topi (fun x_97 ex_97 => ?_)
          refine ti_putI (ci := 10) (k := 18) (N := 67) (T := TX10) C hw iw_10 tyX10 tyX10_ok nmX10 rfl ob_60 (by decide) (by decide) fl_X10_228 rfl rfl rfl rfl (fn_10 A _) fs_10_18 dX10_lawLine_85 (fun H locs hw => ?_)
          obtain ⟨M_98, hM_98⟩ : ∃ z : ti_M, z = uI M 60 18 x_97 := ⟨_, rfl⟩
          have hw := hw.to hM_98.symm
          have iM_98 : mI Tm M_98 := mI_uI hI hM_98 (by decide) (by decide) trivial
          have z_99 : ff M_98 = ff M := ff_I hM_98 (by decide)
          have z_100 : pg M_98 = pg M := pg_I hM_98 (by decide)
          have z_101 : (tI M_98 60 29).toInt = (tI M 60 29).toInt := by rw [tI_nE hM_98 (nk (by decide))]
          have z_102 : (tI M_98 60 30).toInt = (tI M 60 30).toInt := by rw [tI_nE hM_98 (nk (by decide))]
          have z_103 : (tY M_98 60 3 18).toInt = (tY M 60 3 18).toInt := by rw [tY_uIE hM_98]
          have e0 := (pT_pw (rQ_T hr hf)).2.1 ⟨by omega, by omega, by omega⟩
          have hs_104 := rQ_18 (k0 := (x_95.toInt).toNat) (r := 300 + (rg 0).toNat) hr hM_98 (fun j hj => (bt_or (k := x_95.toInt) ex_96 rfl (by omega) (by omega) ex_97 j hj).trans (by rw [← (ex_67.symm)])) (by omega)
          obtain ⟨g_105, eg_105⟩ : ∃ z : Nat → Int, z = pp_su rg (300 + (rg 0).toNat) 1 := ⟨_, rfl⟩
          rw [← eg_105] at hs_104
          refine lv_aload_n hx hb dX10_lawLine_88 rfl (lv_at hl 1 rfl) ?_
          refine ti_callVvE (ci := 10) (av := []) C hE hw (x_X10_token l D A cy hJ M_98 iM_98 ) ⟨ml_X10_214, ym_X10_token, yv_X10_token, yi_X10_token, yc_X10_token⟩ yd_X10_token ob_60 (by decide) rfl rfl hl.1 (Nat.le_of_ble_eq_true rfl) ⟨by decide, by decide⟩ ⟨Nat.zero_le _, Nat.zero_le _⟩ dX10_lawLine_89 (fun M_107 H locs hp_107 hw => ?_)
          obtain ⟨iM_107, q_110, z_108, z_109, k2M_107, k3M_107, k4M_107⟩ := hp_107
          have hs_111 := rQ_av hs_104 (rQ_g0 hs_104 (by omega)) (iM_98.1 21).1 q_110 k2M_107 k3M_107 k4M_107
          obtain ⟨-, -, z_112, z_113, z_114, z_115, z_116, z_117⟩ := l_tk ⟨iM_107, q_110, z_108, z_109⟩
          clear z_108 z_109 k2M_107 k3M_107 k4M_107
          obtain ⟨g_118, eg_118⟩ : ∃ z : Nat → Int, z = pp_av B n g_105 := ⟨_, rfl⟩
          rw [← eg_118] at hs_111
          refine lv_aload_n hx hb dX10_lawLine_92 rfl (lv_at hl 1 rfl) ?_
          refine ti_get (ci := 10) (k := 14) (N := 67) (T := TX10) (v := .ref (A 60 15)) C hw iw_10 rfl ob_60 (by decide) (by decide) fl_X10_46 rfl rfl dX10_lawLine_93 ?_
          refine lv_iconst (v := 3) hx hb dX10_lawLine_96 (by decide) ?_
          refine lv_iload_n hx hb dX10_lawLine_97 rfl (lv_at hl 0 rfl) ?_
          refine lv_iadd hx hb dX10_lawLine_98 ?_
          refine lv_topi (fun x_119 ex_119 => ?_)
          have tx_119 : x_119.toInt = 3 + x_43.toInt := i_add ex_119 (by decide : (3 : Int32).toInt = 3) rfl (by omega) (by omega)
          refine lv_aload_n hx hb dX10_lawLine_99 rfl (lv_at hl 1 rfl) ?_
          refine lv_bipush (v := 7) hx hb dX10_lawLine_100 (by decide) ?_
          refine ti_callVi (ci := 10) (av := [.int 7]) C hw (s_X10_fresher_7 l D A cy hJ M_107 iM_107 ) ⟨ml_X10_224, ym_X10_fresher, yv_X10_fresher, yi_X10_fresher, yc_X10_fresher⟩ yd_X10_fresher ob_60 (by decide) rfl rfl hl.1 (Nat.le_of_ble_eq_true rfl) ⟨by decide, by decide⟩ ⟨Nat.zero_le _, Nat.zero_le _⟩ dX10_lawLine_102 (fun r_120 M_121 H locs hp_121 hw => ?_)
          obtain ⟨hm, b0r_120, b1r_120, yr_120⟩ := hp_121
          have hw := hw.to hm
          have zr_120 : (tY M_107 60 3 18).toInt = r_120.toInt := by rw [yr_120]
          refine ti_iast (ci := 10) (k := 14) (n := 6) C hw ob_60 (by decide) (fun _ _ => rfl) (vp_in_iff.mpr (by omega)) dX10_lawLine_105 (fun H locs hw => ?_)
          obtain ⟨M_122, hM_122⟩ : ∃ z : ti_M, z = uY M_107 60 14 (upd (tY M_107 60 14) (x_119 : Int32).toNatClampNeg r_120) := ⟨_, rfl⟩
          have hw := hw.to hM_122.symm
          have iM_122 : mI Tm M_122 := mI_up (i := x_119.toNatClampNeg) iM_107 hM_122 (ib_mk (lo := 0) (hi := 64) (by omega) (by omega))
          have z_123 := s5_Y hM_122 (by decide)
          have hs_125 := rQ_Yx hs_111 hM_122 (by decide) (by decide) (by decide) (by decide)
          refine lv_aload_n hx hb dX10_lawLine_106 rfl (lv_at hl 1 rfl) ?_
          refine ti_callVvE (ci := 10) (av := []) C hE hw (x_X10_expression 8 l D A cy hJ M_122 iM_122 (tY M_122 60 3 18).toInt.toNat 0 (by decide) (us_0 iM_122) (by omega) (by omega) (by omega) B n g_118 hs_125) ⟨ml_X10_270, ym_X10_expression, yv_X10_expression, yi_X10_expression, yc_X10_expression⟩ yd_X10_expression ob_60 (by decide) rfl rfl hl.1 (Nat.le_of_ble_eq_true rfl) ⟨by decide, by decide⟩ ⟨Nat.zero_le _, Nat.zero_le _⟩ dX10_lawLine_107 (fun M_127 H locs hp_127 hw => ?_)
          obtain ⟨hs_128, hp_129⟩ := hp_127
          obtain ⟨iM_127, q_130, p_131, p_132, p_133, p_134, p_135, p_136, p_137, p_138, p_139, p_140, p_141, p_142, p_143, u_144⟩ := hp_129
          obtain ⟨g_145, eg_145⟩ : ∃ z : Nat → Int, z = pp_ei B n (pp_pt B n 8) g_118 := ⟨_, rfl⟩
          rw [← eg_145] at hs_128
          refine lv_aload_n hx hb dX10_lawLine_110 rfl (lv_at hl 1 rfl) ?_
          refine ti_get (ci := 10) (k := 15) (N := 67) (T := TX10) (v := .ref (A 60 16)) C hw iw_10 rfl ob_60 (by decide) (by decide) fl_X10_49 rfl rfl dX10_lawLine_111 ?_
          refine lv_iconst (v := 3) hx hb dX10_lawLine_114 (by decide) ?_
          refine lv_iload_n hx hb dX10_lawLine_115 rfl (lv_at hl 0 rfl) ?_
          refine lv_iadd hx hb dX10_lawLine_116 ?_
          refine lv_topi (fun x_146 ex_146 => ?_)
          have tx_146 : x_146.toInt = 3 + x_43.toInt := i_add ex_146 (by decide : (3 : Int32).toInt = 3) rfl (by omega) (by omega)
          refine lv_aload_n hx hb dX10_lawLine_117 rfl (lv_at hl 1 rfl) ?_
          refine lv_bipush (v := 7) hx hb dX10_lawLine_118 (by decide) ?_
          refine ti_callVi (ci := 10) (av := [.int 7]) C hw (s_X10_fresher_7 l D A cy hJ M_127 iM_127 ) ⟨ml_X10_224, ym_X10_fresher, yv_X10_fresher, yi_X10_fresher, yc_X10_fresher⟩ yd_X10_fresher ob_60 (by decide) rfl rfl hl.1 (Nat.le_of_ble_eq_true rfl) ⟨by decide, by decide⟩ ⟨Nat.zero_le _, Nat.zero_le _⟩ dX10_lawLine_120 (fun r_147 M_148 H locs hp_148 hw => ?_)
          obtain ⟨hm, b0r_147, b1r_147, yr_147⟩ := hp_148
          have hw := hw.to hm
          have zr_147 : (tY M_127 60 3 18).toInt = r_147.toInt := by rw [yr_147]
          refine ti_iast (ci := 10) (k := 15) (n := 6) C hw ob_60 (by decide) (fun _ _ => rfl) (vp_in_iff.mpr (by omega)) dX10_lawLine_123 (fun H locs hw => ?_)
          obtain ⟨M_149, hM_149⟩ : ∃ z : ti_M, z = uY M_127 60 15 (upd (tY M_127 60 15) (x_146 : Int32).toNatClampNeg r_147) := ⟨_, rfl⟩
          have hw := hw.to hM_149.symm
          have iM_149 : mI Tm M_149 := mI_up (i := x_146.toNatClampNeg) iM_127 hM_149 (ib_mk (lo := 0) (hi := 64) (by omega) (by omega))
          have z_150 := s5_Y hM_149 (by decide)
          have hs_152 := rQ_Yx hs_128 hM_149 (by decide) (by decide) (by decide) (by decide)
          exact hQ _ _ _ _ _ hw (⟨(by have e := (pT_pw (rQ_T hr hf)).2.1 ⟨by omega, by omega, by omega⟩; have b9 := rQ_b12 hr (rQ_g0 hr hf) ⟨e.1, e.2.1⟩; rw [show (rg 0).toNat + 4 = (x_68.toInt).toNat by omega] at b9; unfold pp_lq pp_on; rw [if_pos ⟨e.1, e.2.1⟩, if_pos (by omega), ← eg_105, ← eg_118, ← eg_145]; exact hs_152), iM_149, (ln.trans (ln_15 hM_149 (by show 3 ≤ (x_146 : Int32).toInt.toNat; omega)) (ln.trans (ln_pe q_130 iM_122) (ln.trans (ln_14 hM_122 (by show 3 ≤ (x_119 : Int32).toInt.toNat; omega)) (ln.trans (ln_l0 (l0_pr q_110 (by decide) (by decide))) (ln_l0 (l0_I hM_98 (by decide))))))), (by omega), (by omega), (by omega), (by omega), (by omega), (by omega), (by omega), (by omega), (by omega), (by omega), (by omega), um_law (um_l0 hum (l0.trans (l0_pr q_110 (by decide) (by decide)) (l0_I hM_98 (by decide))) (by omega)) iM_107 iM_127 hM_122 (by omega) (by show 3 ≤ (x_119 : Int32).toInt.toNat ∧ (x_119 : Int32).toInt.toNat ≤ 5; omega) q_130 (by omega) u_144 hM_149 (by show (x_146 : Int32).toInt.toNat = (x_119 : Int32).toInt.toNat; omega) (by omega)⟩) dX10_lawLine_124
        · refine lv_aload_n hx hb dX10_lawLine_60 rfl (lv_at hl 1 rfl) ?_
          refine lv_iconst (v := 3) hx hb dX10_lawLine_61 (by decide) ?_
          refine ti_callVv (ci := 10) (av := [.int 3]) C hw (x_X10_wrong l D A cy hJ M hI 3 (by decide) B n rg hr) ⟨ml_X10_217, ym_X10_wrong, yv_X10_wrong, yi_X10_wrong, yc_X10_wrong⟩ yd_X10_wrong ob_60 (by decide) rfl rfl hl.1 (Nat.le_of_ble_eq_true rfl) ⟨by decide, by decide⟩ ⟨Nat.zero_le _, Nat.zero_le _⟩ dX10_lawLine_62 (fun M_73 H locs hp_73 hw => ?_)
          rw [show (3 : Int32).toInt = 3 by decide] at hp_73
          obtain ⟨hs_74, hp_75⟩ := hp_73
          obtain ⟨iM_73, q_76, z_77, z_78, z_79, z_80, z_81⟩ := l_wr hp_75
          clear hp_75
          obtain ⟨g_82, eg_82⟩ : ∃ z : Nat → Int, z = pp_rf 3 rg := ⟨_, rfl⟩
          rw [← eg_82] at hs_74
          refine lv_aload_n hx hb dX10_lawLine_65 rfl (lv_at hl 1 rfl) ?_
          refine ti_get (ci := 10) (k := 25) (N := 67) (T := TX10) C hw iw_10 rfl ob_60 (by decide) (by decide) fl_X10_208 rfl rfl dX10_lawLine_66 ?_
          refine lv_topi (fun x_91 ex_91 => ?_)
          have u_92 : (tI M_73 60 25).toInt = x_91.toInt := by rw [ex_91]
          have ufx_91 : (tI M_73 60 25).toInt = x_91.toInt := by rw [ex_91]
          refine sb_if_eq (tgt := 73) hx hb rfl dX10_lawLine_69 (by decide) (fun c_69_92 => by have z_94 : ff M_73 = 1 := ff_1 (ufx_91.trans c_69_92); omega) (fun c_69_92 => ?_)
          have z_94 : ff M_73 = 0 := ff_0 (fun h => c_69_92 (ufx_91.symm.trans h))
          clear c_69_92
          exact hQ _ _ _ _ _ hw (⟨(by have e := (pT_pw (rQ_T hr hf)).2.1 ⟨by omega, by omega, by omega⟩; have b9 := rQ_b12 hr (rQ_g0 hr hf) ⟨e.1, e.2.1⟩; rw [show (rg 0).toNat + 4 = (x_68.toInt).toNat by omega] at b9; unfold pp_lq pp_on; rw [if_pos ⟨e.1, e.2.1⟩, if_neg (by omega), ← eg_82]; exact rQ_f hs_74 (rQ_g1 hs_74 (by omega)) (ei_f (fun s h => pt_f h) (rQ_z hs_74 (rQ_g1 hs_74 (by omega))))), iM_73, (ln_l0 (l0_pr q_76 (by decide) (by decide))), (by omega), (by omega), (by omega), (by omega), (by omega), (by omega), (by omega), (by omega), (by omega), (by omega), (by omega), Or.inl (by omega)⟩) dX10_lawLine_72
      · refine lv_aload_n hx hb dX10_lawLine_25 rfl (lv_at hl 0 rfl) ?_
        refine lv_iconst (v := 1) hx hb dX10_lawLine_26 (by decide) ?_
        refine ti_callVv (ci := 10) (av := [.int 1]) C hw (x_X10_wrong l D A cy hJ M hI 1 (by decide) B n rg hr) ⟨ml_X10_217, ym_X10_wrong, yv_X10_wrong, yi_X10_wrong, yc_X10_wrong⟩ yd_X10_wrong ob_60 (by decide) rfl rfl hl.1 (Nat.le_of_ble_eq_true rfl) ⟨by decide, by decide⟩ ⟨Nat.zero_le _, Nat.zero_le _⟩ dX10_lawLine_27 (fun M_32 H locs hp_32 hw => ?_)
        rw [show (1 : Int32).toInt = 1 by decide] at hp_32
        obtain ⟨hs_33, hp_34⟩ := hp_32
        obtain ⟨iM_32, q_35, z_36, z_37, z_38, z_39, z_40⟩ := l_wr hp_34
        clear hp_34
        obtain ⟨g_41, eg_41⟩ : ∃ z : Nat → Int, z = pp_rf 1 rg := ⟨_, rfl⟩
        rw [← eg_41] at hs_33
        refine lv_aload_n hx hb dX10_lawLine_30 rfl (lv_at hl 0 rfl) ?_
        refine ti_get (ci := 10) (k := 24) (N := 67) (T := TX10) C hw iw_10 rfl ob_60 (by decide) (by decide) fl_X10_183 rfl rfl dX10_lawLine_31 ?_
        refine ti_top (y := x_4) ((q_35.2 24 (by decide)).trans ex_4.symm) ?_
        have uqu_61 : (tI M_32 60 24).toInt = x_4.toInt := by rw [((q_35.2 24 (by decide)).trans ex_4.symm)]
        refine lv_bipush (v := 13) hx hb dX10_lawLine_34 (by decide) ?_
        refine lv_isub hx hb dX10_lawLine_36 ?_
        refine lv_topi (fun x_62 ex_62 => ?_)
        refine lv_istore_n (lv' := [(1, .int x_62), (0, .ref (A 60 0))]) hx hb dX10_lawLine_37 rfl hl (by decide) rfl (fun ls hl => ?_)
        refine lv_aload_n hx hb dX10_lawLine_38 rfl (lv_at hl 1 rfl) ?_
        refine ti_get (ci := 10) (k := 25) (N := 67) (T := TX10) C hw iw_10 rfl ob_60 (by decide) (by decide) fl_X10_208 rfl rfl dX10_lawLine_39 ?_
        refine lv_topi (fun x_63 ex_63 => ?_)
        have u_64 : (tI M_32 60 25).toInt = x_63.toInt := by rw [ex_63]
        have ufx_63 : (tI M_32 60 25).toInt = x_63.toInt := by rw [ex_63]
        refine sb_if_ne (tgt := 65) hx hb rfl dX10_lawLine_42 (by decide) (fun c_42_64 => ?_) (fun c_42_64 => by have z_66 : ff M_32 = 1 := ff_1 (ufx_63.trans c_42_64); omega)
        have z_66 : ff M_32 = 0 := ff_0 (fun h => c_42_64 (ufx_63.symm.trans h))
        clear c_42_64
        refine lv_aload_n hx hb dX10_lawLine_65 rfl (lv_at hl 1 rfl) ?_
        refine ti_get (ci := 10) (k := 25) (N := 67) (T := TX10) C hw iw_10 rfl ob_60 (by decide) (by decide) fl_X10_208 rfl rfl dX10_lawLine_66 ?_
        refine ti_top (y := x_63) (ex_63.symm) ?_
        refine sb_if_eq (tgt := 73) hx hb rfl dX10_lawLine_69 (by decide) (fun c_69_86 => by have z_88 : ff M_32 = 1 := ff_1 (ufx_63.trans c_69_86); omega) (fun c_69_86 => ?_)
        have z_88 : ff M_32 = 0 := ff_0 (fun h => c_69_86 (ufx_63.symm.trans h))
        clear c_69_86
        exact hQ _ _ _ _ _ hw (⟨(by unfold pp_lq; rw [if_neg (fun q => by have e := (pT_nw (rQ_T hr hf)).2.1 q; omega), ← eg_41]; exact hs_33), iM_32, (ln_l0 (l0_pr q_35 (by decide) (by decide))), (by omega), (by omega), (by omega), (by omega), (by omega), (by omega), (by omega), (by omega), (by omega), (by omega), (by omega), Or.inl (by omega)⟩) dX10_lawLine_72

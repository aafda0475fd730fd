section
variable {Tc : gC} {Tm : gM}
theorem bt_01 (h : Int32) (k : Nat) : pp_bt h k = 0 ∨ pp_bt h k = 1 := by unfold pp_bt; split <;> omega
theorem bt_sr : ∀ l : Nat, l < 32 → ((nI l &&& 31 : Int32).toBitVec.smod 32).toNat = l := by decide +kernel
theorem bt_shr {h x z y : Int32} {k : Int} (ez : z = h >>> (x &&& 31)) (hx : x.toInt = k) (h0 : 0 ≤ k) (h1 : k < 32) (ey : y = z &&& 1) : y.toInt = pp_bt h k.toNat := by
  have ex : x = nI k.toNat := Int32.toInt_inj.mp (by rw [nI_toInt (by omega)]; omega)
  have hz : z.toBitVec = h.toBitVec.sshiftRight k.toNat := by
    rw [ez, Int32.toBitVec_shiftRight, ex]
    show h.toBitVec.sshiftRight ((nI k.toNat &&& 31 : Int32).toBitVec.smod 32).toNat = _
    rw [bt_sr _ (by omega)]
  have hy : y.toBitVec = z.toBitVec &&& BitVec.twoPow 32 0 := by rw [ey, Int32.toBitVec_and]; rfl
  rw [BitVec.and_twoPow, hz, BitVec.getLsbD_sshiftRight] at hy
  have e : (!decide (32 ≤ 0) && if k.toNat + 0 < 32 then h.toBitVec.getLsbD (k.toNat + 0) else h.toBitVec.msb) = h.toBitVec.getLsbD k.toNat := by
    rw [if_pos (by omega)]; simp
  rw [e] at hy
  unfold pp_bt
  by_cases q : h.toBitVec.getLsbD k.toNat = true
  · rw [if_pos q] at hy
    rw [if_pos q]
    have : y = 1 := Int32.toBitVec_inj.mp (hy.trans (by decide))
    rw [this]; decide
  · rw [if_neg q] at hy
    rw [if_neg q]
    have : y = 0 := Int32.toBitVec_inj.mp (hy.trans (by decide))
    rw [this]; decide
theorem rb_k {M : ti_M} {k : Nat} {x z : Int32} {s : Nat} (e : tY M 60 k x.toNatClampNeg = z) (hx : x.toInt = (s : Int)) : (tY M 60 k s).toInt = z.toInt := by
  rw [i_cl hx] at e
  rw [e]
def pp_o1 (s : Nat → Int) : Nat → Int := if 3 ≤ s 0 ∧ s 0 ≤ 7 then pp_su s (300 + (s 0).toNat) 1 else s
section
variable {B : Nat → Int} {n : Nat} {s : Nat → Int} {M N : ti_M}
theorem o1_n (h : ¬ (3 ≤ s 0 ∧ s 0 ≤ 7)) : pp_o1 s = s := by unfold pp_o1; rw [if_neg h]
theorem o1_on (h : 3 ≤ s 0 ∧ s 0 ≤ 7) (hb : s (300 + (s 0).toNat) = 0) : pp_on B n s = pp_av B n (pp_o1 s) := by unfold pp_o1 pp_on; rw [if_pos h, if_pos hb]
theorem rQ_18w {z : Int32} {k0 : Nat} (h : rQ B n s M) (e : N = uI M 60 18 z) (hb : ∀ j : Nat, j < 32 → pp_bt z j = if j = k0 then 1 else pp_bt (tI M 60 18) j) (hk : (k0 : Int) = s 0) (h8 : s 0 ≤ 8) : rQ B n (pp_o1 s) N := by
  by_cases q : 3 ≤ s 0 ∧ s 0 ≤ 7
  · unfold pp_o1
    rw [if_pos q]
    exact rQ_18 h e hb (Or.inl ⟨by omega, by omega, by omega⟩)
  · rw [o1_n q]
    exact rQ_18n h e hb (by omega)
theorem rQ_b3 (h : rQ B n s M) (hz : s 4 = 0) (hk : 3 ≤ s 0 ∧ s 0 ≤ 7) : s (300 + (s 0).toNat) = pp_bt (tI M 60 18) (s 0).toNat := (h.2.2.2 hz).2.2.2.2.1 (s 0).toNat (by omega) (by omega)
theorem rQ_b9 (h : rQ B n s M) (hz : s 4 = 0) (hk : 9 ≤ s 0 ∧ s 0 ≤ 11) : s (300 + (s 0).toNat) = pp_bt (tI M 60 18) ((s 0).toNat + 3) := by
  have e := ((h.2.2.2 hz).2.2.2.2.2 ((s 0).toNat - 9) (by omega)).1
  rw [show 309 + ((s 0).toNat - 9) = 300 + (s 0).toNat by omega, show 12 + ((s 0).toNat - 9) = (s 0).toNat + 3 by omega] at e
  exact e
theorem rQ_b12 (h : rQ B n s M) (hz : s 4 = 0) (hk : 12 ≤ s 0 ∧ s 0 ≤ 14) : s (300 + (s 0).toNat) = pp_bt (tI M 60 18) ((s 0).toNat + 4) := by
  have e := ((h.2.2.2 hz).2.2.2.2.2 ((s 0).toNat - 12) (by omega)).2
  rw [show 312 + ((s 0).toNat - 12) = 300 + (s 0).toNat by omega, show 16 + ((s 0).toNat - 12) = (s 0).toNat + 4 by omega] at e
  exact e
theorem rQ_g200 (h : rQ B n s M) (hz : s 4 = 0) {i : Nat} (hi : i < 8) (hl : (i : Int) < s 7) : s (200 + i) = (tY M 60 13 (8 + i)).toInt - 1 ∧ -1 ≤ s (200 + i) := ((h.2.2.2 hz).2.2.2.1 i hi hl).2
end
theorem pp_fdb {s : Nat → Int} {v : Int} {i : Nat} : pp_fd s v i = -1 ∨ (0 ≤ pp_fd s v i ∧ pp_fd s v i < s 7) := by
  have : ∀ (f i : Nat), (f = (s 7).toNat - i) → pp_ff s v f i = -1 ∨ (0 ≤ pp_ff s v f i ∧ pp_ff s v f i < s 7) := by
    intro f
    induction f with
    | zero => intro i _; exact Or.inl rfl
    | succ f ih =>
      intro i h
      rw [pp_ff]
      split
      · exact Or.inr ⟨by omega, by omega⟩
      · exact ih (i + 1) (by omega)
  exact this _ _ rfl
set_option maxHeartbeats 4000000 in
set_option maxRecDepth 100000 in
theorem x_X10_manLine (l : Launch) (D : va_G) (A : Nat → Nat → Nat) (cy : Nat → ClassId) (hJ : ti_inj ti_LM A) (M : ti_M) (hI : mI Tm M) (mz nm : Int32) (hm1 : 8 ≤ mz.toInt) (hm2 : mz.toInt ≤ 15) (h11 : tY M 60 3 11 = nm) (hn0 : 0 ≤ nm.toInt) (hn : nm.toInt ≤ 7) (hmz : mz.toInt = 8 + nm.toInt) (B : Nat → Int) (n : Nat) (rg : Nat → Int) (hr : rQ B n rg M) (td : Nat → Int) (hql : qL td M) : ti_KvE l yX10_manLine cX10_manLine 2 7 ti_LM D A cy M [.ref (A 60 0), .int mz] (fun M2 => gU M2 M ∧ qL (qq_mq B n rg td) M2 ∧ rQ B n (pp_mq B n rg) M2 ∧ mI Tm M2 ∧ l0 M2 M ∧ (pg M ≤ pg M2) ∧ (0 ≤ ff M2) ∧ (ff M2 ≤ ff M) ∧ ((tI M2 60 29).toInt = (tI M 60 29).toInt) ∧ ((tI M2 60 30).toInt = (tI M 60 30).toInt) ∧ ((tY M2 60 3 18).toInt = (tY M 60 3 18).toInt)) := by
  refine ti_eVE yp_X10_manLine hJ ti_LM_nd (Nat.le_of_ble_eq_true rfl) ?_
  intro p e s m args below meth c Q H0 C hE hQ hw ls hl
  have hx := C.1
  have hb := C.2.1
  have hl : lv_has ls 2 [(0, .ref (A 60 0)), (1, .int mz)] := hl
  have hI30 := b30 hI
  have hI29 := b29 hI
  have hI18 := b18 hI
  have hIff := ff_b M
  have e7 : rg 4 = 0 → rg 7 = nm.toInt := fun q => mh_7 hr q h11
  obtain ⟨g1, eg1⟩ : ∃ z : Nat → Int, z = pp_su rg (100 + (rg 7).toNat) (rg 1) := ⟨_, rfl⟩
  have hs1 := rQ_su (r := 100 + (rg 7).toNat) (v := rg 1) hr (fun q => by have := e7 q; omega) (Or.inl rfl)
  rw [← eg1] at hs1
  have e71 : g1 4 = 0 → g1 7 = nm.toInt := fun q => by rw [eg1, su_n (by omega)] at q; rw [eg1, su_n (by omega)]; exact e7 q
  refine lv_aload_n hx hb dX10_manLine_0 rfl (lv_at hl 0 rfl) ?_
  refine ti_get (ci := 10) (k := 4) (N := 67) (T := TX10) (v := .ref (A 60 5)) C hw iw_10 rfl ob_60 (by decide) (by decide) fl_X10_16 rfl rfl dX10_manLine_1 ?_
  refine lv_iload_n hx hb dX10_manLine_4 rfl (lv_at hl 1 rfl) ?_
  refine lv_aload_n hx hb dX10_manLine_5 rfl (lv_at hl 0 rfl) ?_
  refine lv_aload_n hx hb dX10_manLine_6 rfl (lv_at hl 0 rfl) ?_
  refine ti_get (ci := 10) (k := 4) (N := 67) (T := TX10) (v := .ref (A 60 5)) C hw iw_10 rfl ob_60 (by decide) (by decide) fl_X10_16 rfl rfl dX10_manLine_7 ?_
  refine lv_bipush (v := 8) hx hb dX10_manLine_10 (by decide) ?_
  refine lv_aload_n hx hb dX10_manLine_12 rfl (lv_at hl 0 rfl) ?_
  refine lv_iconst (v := 0) hx hb dX10_manLine_13 (by decide) ?_
  refine ti_callVi (ci := 10) (av := [.int 0]) C hw (s_X10_fresher_0 l D A cy hJ M hI ) ⟨ml_X10_224, ym_X10_fresher, yv_X10_fresher, yi_X10_fresher, yc_X10_fresher⟩ yd_X10_fresher ob_60 (by decide) rfl rfl hl.1 (Nat.le_of_ble_eq_true rfl) ⟨by decide, by decide⟩ ⟨Nat.zero_le _, Nat.zero_le _⟩ dX10_manLine_14 (fun r_1 M_2 H locs hp_2 hw => ?_)
  obtain ⟨hm, b0r_1, b1r_1, yr_1⟩ := hp_2
  have hw := hw.to hm
  have sr_1 : r_1.toInt = (nm : Int32).toInt := by rw [← yr_1, (h11)]
  have zr_1 : (tY M 60 3 11).toInt = r_1.toInt := by rw [yr_1]
  refine ti_callViE (ci := 10) (av := [.ref (A 60 5), .int 8, .int r_1]) C hE hw (x_X10_fresh l D A cy hJ M hI r_1 (by first | omega | decide) (by first | omega | decide) B n g1 hs1 (fun q => by have := e71 q; omega)) ⟨ml_X10_257, ym_X10_fresh, yv_X10_fresh, yi_X10_fresh, yc_X10_fresh⟩ yd_X10_fresh ob_60 (by decide) rfl rfl hl.1 (Nat.le_of_ble_eq_true rfl) ⟨by decide, by decide⟩ ⟨Nat.zero_le _, Nat.zero_le _⟩ dX10_manLine_17 (fun r_3 M_4 H locs hp_4 hw => ?_)
  obtain ⟨hs_5, hm_6, hp_7⟩ := hp_4
  obtain ⟨iM_4, q_8, p_9, p_10, p_11⟩ := hp_7
  have z_12 := l_ps (by decide) (by decide) ⟨iM_4, q_8, p_9, p_10, p_11⟩
  clear p_9 p_10 p_11
  obtain ⟨g_13, eg_13⟩ : ∃ z : Nat → Int, z = pp_tk B n 25 (pp_m2 g1) := ⟨_, rfl⟩
  rw [← eg_13] at hs_5
  have tl_14 : qL td M_4 := qL_fr hql q_8.1 (q_8.2 18 (by decide)) (q_8.2 30 (by decide)) (by omega)
  refine ti_iast (ci := 10) (k := 4) (n := 16) C hw ob_60 (by decide) (fun _ _ => rfl) (vp_in_iff.mpr (by omega)) dX10_manLine_20 (fun H locs hw => ?_)
  obtain ⟨M_15, hM_15⟩ : ∃ z : ti_M, z = uY M_4 60 4 (upd (tY M_4 60 4) (mz : Int32).toNatClampNeg r_3) := ⟨_, rfl⟩
  have hw := hw.to hM_15.symm
  have iM_15 : mI Tm M_15 := mI_up (i := mz.toNatClampNeg) iM_4 hM_15 trivial
  have z_16 := s5_Y hM_15 (by decide)
  have hs_18 := rQ_4 hs_5 hM_15 (fun q => by have g7 := mh_7 hs_5 q ((cg (tY_fr q_8.1) 11).trans h11); show 8 + _ ≤ ((mz.toInt.toNat : Nat) : Int); omega)
  have tl_19 : qL td M_15 := qL_m tl_14 hM_15 (by decide) (Or.inr (by rw [((cg (tY_fr q_8.1) 11).trans h11)]; show nm.toInt + 8 ≤ (((mz : Int32).toInt.toNat : Nat) : Int); omega))
  refine lv_aload_n hx hb dX10_manLine_21 rfl (lv_at hl 0 rfl) ?_
  refine ti_get (ci := 10) (k := 5) (N := 67) (T := TX10) (v := .ref (A 60 6)) C hw iw_10 rfl ob_60 (by decide) (by decide) fl_X10_19 rfl rfl dX10_manLine_22 ?_
  refine lv_iload_n hx hb dX10_manLine_25 rfl (lv_at hl 1 rfl) ?_
  refine lv_aload_n hx hb dX10_manLine_26 rfl (lv_at hl 0 rfl) ?_
  refine lv_iconst (v := 1) hx hb dX10_manLine_27 (by decide) ?_
  refine lv_bipush (v := 99) hx hb dX10_manLine_28 (by decide) ?_
  refine ti_callViE (ci := 10) (av := [.int 1, .int 99]) C hE hw (x_X10_numeral l D A cy hJ M_15 iM_15 1 99 (by decide) (by decide) B n g_13 hs_18) ⟨ml_X10_240, ym_X10_numeral, yv_X10_numeral, yi_X10_numeral, yc_X10_numeral⟩ yd_X10_numeral ob_60 (by decide) rfl rfl hl.1 (Nat.le_of_ble_eq_true rfl) ⟨by decide, by decide⟩ ⟨Nat.zero_le _, Nat.zero_le _⟩ dX10_manLine_30 (fun r_20 M_21 H locs hp_21 hw => ?_)
  obtain ⟨hs_22, hm_23, hp_24⟩ := hp_21
  rw [show (1 : Int32).toInt = 1 by decide] at hs_22
  rw [show (99 : Int32).toInt = 99 by decide] at hs_22
  obtain ⟨iM_21, q_25, p_26, p_27, p_28, b0r_20, b1r_20⟩ := hp_24
  have z_29 := l_ps (by decide) (by decide) ⟨iM_21, q_25, p_26, p_27, p_28⟩
  clear p_26 p_27 p_28
  have br_20 : 1 ≤ r_20.toInt ∧ r_20.toInt ≤ 99 := by have l1 : (1 : Int32).toInt = 1 := (by decide); have l2 : (99 : Int32).toInt = 99 := (by decide); omega
  obtain ⟨g_30, eg_30⟩ : ∃ z : Nat → Int, z = pp_nb B n 1 99 g_13 := ⟨_, rfl⟩
  rw [← eg_30] at hs_22
  have tl_31 : qL td M_21 := qL_fr tl_19 q_25.1 (q_25.2 18 (by decide)) (q_25.2 30 (by decide)) (by omega)
  refine ti_iast (ci := 10) (k := 5) (n := 16) C hw ob_60 (by decide) (fun _ _ => rfl) (vp_in_iff.mpr (by omega)) dX10_manLine_33 (fun H locs hw => ?_)
  obtain ⟨M_32, hM_32⟩ : ∃ z : ti_M, z = uY M_21 60 5 (upd (tY M_21 60 5) (mz : Int32).toNatClampNeg r_20) := ⟨_, rfl⟩
  have hw := hw.to hM_32.symm
  have iM_32 : mI Tm M_32 := mI_up (i := mz.toNatClampNeg) iM_21 hM_32 trivial
  have z_33 := s5_Y hM_32 (by decide)
  have hs_35 := rQ_Yx hs_22 hM_32 (by decide) (by decide) (by decide) (by decide)
  have tl_36 : qL td M_32 := qL_m tl_31 hM_32 (by decide) (Or.inr (by rw [((cg (tY_fr q_25.1) 11).trans ((cg (tY_nE hM_15 (nk (by decide))) 11).trans ((cg (tY_fr q_8.1) 11).trans h11)))]; show nm.toInt + 8 ≤ (((mz : Int32).toInt.toNat : Nat) : Int); omega))
  refine lv_aload_n hx hb dX10_manLine_34 rfl (lv_at hl 0 rfl) ?_
  refine ti_get (ci := 10) (k := 6) (N := 67) (T := TX10) (v := .ref (A 60 7)) C hw iw_10 rfl ob_60 (by decide) (by decide) fl_X10_22 rfl rfl dX10_manLine_35 ?_
  refine lv_iload_n hx hb dX10_manLine_38 rfl (lv_at hl 1 rfl) ?_
  refine lv_aload_n hx hb dX10_manLine_39 rfl (lv_at hl 0 rfl) ?_
  refine lv_iconst (v := 0) hx hb dX10_manLine_40 (by decide) ?_
  refine lv_bipush (v := 9) hx hb dX10_manLine_41 (by decide) ?_
  refine ti_callViE (ci := 10) (av := [.int 0, .int 9]) C hE hw (x_X10_numeral l D A cy hJ M_32 iM_32 0 9 (by decide) (by decide) B n g_30 hs_35) ⟨ml_X10_240, ym_X10_numeral, yv_X10_numeral, yi_X10_numeral, yc_X10_numeral⟩ yd_X10_numeral ob_60 (by decide) rfl rfl hl.1 (Nat.le_of_ble_eq_true rfl) ⟨by decide, by decide⟩ ⟨Nat.zero_le _, Nat.zero_le _⟩ dX10_manLine_43 (fun r_37 M_38 H locs hp_38 hw => ?_)
  obtain ⟨hs_39, hm_40, hp_41⟩ := hp_38
  rw [show (0 : Int32).toInt = 0 by decide] at hs_39
  rw [show (9 : Int32).toInt = 9 by decide] at hs_39
  obtain ⟨iM_38, q_42, p_43, p_44, p_45, b0r_37, b1r_37⟩ := hp_41
  have z_46 := l_ps (by decide) (by decide) ⟨iM_38, q_42, p_43, p_44, p_45⟩
  clear p_43 p_44 p_45
  have br_37 : 0 ≤ r_37.toInt ∧ r_37.toInt ≤ 9 := by have l1 : (0 : Int32).toInt = 0 := (by decide); have l2 : (9 : Int32).toInt = 9 := (by decide); omega
  obtain ⟨g_47, eg_47⟩ : ∃ z : Nat → Int, z = pp_nb B n 0 9 g_30 := ⟨_, rfl⟩
  rw [← eg_47] at hs_39
  have tl_48 : qL td M_38 := qL_fr tl_36 q_42.1 (q_42.2 18 (by decide)) (q_42.2 30 (by decide)) (by omega)
  refine ti_iast (ci := 10) (k := 6) (n := 16) C hw ob_60 (by decide) (fun _ _ => rfl) (vp_in_iff.mpr (by omega)) dX10_manLine_46 (fun H locs hw => ?_)
  obtain ⟨M_49, hM_49⟩ : ∃ z : ti_M, z = uY M_38 60 6 (upd (tY M_38 60 6) (mz : Int32).toNatClampNeg r_37) := ⟨_, rfl⟩
  have hw := hw.to hM_49.symm
  have iM_49 : mI Tm M_49 := mI_up (i := mz.toNatClampNeg) iM_38 hM_49 trivial
  have z_50 := s5_Y hM_49 (by decide)
  have hs_52 := rQ_Yx hs_39 hM_49 (by decide) (by decide) (by decide) (by decide)
  have tl_53 : qL td M_49 := qL_m tl_48 hM_49 (by decide) (Or.inr (by rw [((cg (tY_fr q_42.1) 11).trans ((cg (tY_nE hM_32 (nk (by decide))) 11).trans ((cg (tY_fr q_25.1) 11).trans ((cg (tY_nE hM_15 (nk (by decide))) 11).trans ((cg (tY_fr q_8.1) 11).trans h11)))))]; show nm.toInt + 8 ≤ (((mz : Int32).toInt.toNat : Nat) : Int); omega))
  refine lv_aload_n hx hb dX10_manLine_47 rfl (lv_at hl 0 rfl) ?_
  refine ti_get (ci := 10) (k := 7) (N := 67) (T := TX10) (v := .ref (A 60 8)) C hw iw_10 rfl ob_60 (by decide) (by decide) fl_X10_25 rfl rfl dX10_manLine_48 ?_
  refine lv_iload_n hx hb dX10_manLine_51 rfl (lv_at hl 1 rfl) ?_
  refine lv_aload_n hx hb dX10_manLine_52 rfl (lv_at hl 0 rfl) ?_
  refine lv_iconst (v := 1) hx hb dX10_manLine_53 (by decide) ?_
  refine lv_bipush (v := 99) hx hb dX10_manLine_54 (by decide) ?_
  refine ti_callViE (ci := 10) (av := [.int 1, .int 99]) C hE hw (x_X10_numeral l D A cy hJ M_49 iM_49 1 99 (by decide) (by decide) B n g_47 hs_52) ⟨ml_X10_240, ym_X10_numeral, yv_X10_numeral, yi_X10_numeral, yc_X10_numeral⟩ yd_X10_numeral ob_60 (by decide) rfl rfl hl.1 (Nat.le_of_ble_eq_true rfl) ⟨by decide, by decide⟩ ⟨Nat.zero_le _, Nat.zero_le _⟩ dX10_manLine_56 (fun r_54 M_55 H locs hp_55 hw => ?_)
  obtain ⟨hs_56, hm_57, hp_58⟩ := hp_55
  rw [show (1 : Int32).toInt = 1 by decide] at hs_56
  rw [show (99 : Int32).toInt = 99 by decide] at hs_56
  obtain ⟨iM_55, q_59, p_60, p_61, p_62, b0r_54, b1r_54⟩ := hp_58
  have z_63 := l_ps (by decide) (by decide) ⟨iM_55, q_59, p_60, p_61, p_62⟩
  clear p_60 p_61 p_62
  have br_54 : 1 ≤ r_54.toInt ∧ r_54.toInt ≤ 99 := by have l1 : (1 : Int32).toInt = 1 := (by decide); have l2 : (99 : Int32).toInt = 99 := (by decide); omega
  obtain ⟨g_64, eg_64⟩ : ∃ z : Nat → Int, z = pp_nb B n 1 99 g_47 := ⟨_, rfl⟩
  rw [← eg_64] at hs_56
  have tl_65 : qL td M_55 := qL_fr tl_53 q_59.1 (q_59.2 18 (by decide)) (q_59.2 30 (by decide)) (by omega)
  refine ti_iast (ci := 10) (k := 7) (n := 16) C hw ob_60 (by decide) (fun _ _ => rfl) (vp_in_iff.mpr (by omega)) dX10_manLine_59 (fun H locs hw => ?_)
  obtain ⟨M_66, hM_66⟩ : ∃ z : ti_M, z = uY M_55 60 7 (upd (tY M_55 60 7) (mz : Int32).toNatClampNeg r_54) := ⟨_, rfl⟩
  have hw := hw.to hM_66.symm
  have iM_66 : mI Tm M_66 := mI_up (i := mz.toNatClampNeg) iM_55 hM_66 trivial
  have z_67 := s5_Y hM_66 (by decide)
  have hs_69 := rQ_Yx hs_56 hM_66 (by decide) (by decide) (by decide) (by decide)
  have tl_70 : qL td M_66 := qL_m tl_65 hM_66 (by decide) (Or.inr (by rw [((cg (tY_fr q_59.1) 11).trans ((cg (tY_nE hM_49 (nk (by decide))) 11).trans ((cg (tY_fr q_42.1) 11).trans ((cg (tY_nE hM_32 (nk (by decide))) 11).trans ((cg (tY_fr q_25.1) 11).trans ((cg (tY_nE hM_15 (nk (by decide))) 11).trans ((cg (tY_fr q_8.1) 11).trans h11)))))))]; show nm.toInt + 8 ≤ (((mz : Int32).toInt.toNat : Nat) : Int); omega))
  refine lv_aload_n hx hb dX10_manLine_60 rfl (lv_at hl 0 rfl) ?_
  refine ti_get (ci := 10) (k := 8) (N := 67) (T := TX10) (v := .ref (A 60 9)) C hw iw_10 rfl ob_60 (by decide) (by decide) fl_X10_28 rfl rfl dX10_manLine_61 ?_
  refine lv_iload_n hx hb dX10_manLine_64 rfl (lv_at hl 1 rfl) ?_
  refine lv_aload_n hx hb dX10_manLine_65 rfl (lv_at hl 0 rfl) ?_
  refine lv_iconst (v := 1) hx hb dX10_manLine_66 (by decide) ?_
  refine lv_bipush (v := 30) hx hb dX10_manLine_67 (by decide) ?_
  refine ti_callViE (ci := 10) (av := [.int 1, .int 30]) C hE hw (x_X10_numeral l D A cy hJ M_66 iM_66 1 30 (by decide) (by decide) B n g_64 hs_69) ⟨ml_X10_240, ym_X10_numeral, yv_X10_numeral, yi_X10_numeral, yc_X10_numeral⟩ yd_X10_numeral ob_60 (by decide) rfl rfl hl.1 (Nat.le_of_ble_eq_true rfl) ⟨by decide, by decide⟩ ⟨Nat.zero_le _, Nat.zero_le _⟩ dX10_manLine_69 (fun r_71 M_72 H locs hp_72 hw => ?_)
  obtain ⟨hs_73, hm_74, hp_75⟩ := hp_72
  rw [show (1 : Int32).toInt = 1 by decide] at hs_73
  rw [show (30 : Int32).toInt = 30 by decide] at hs_73
  obtain ⟨iM_72, q_76, p_77, p_78, p_79, b0r_71, b1r_71⟩ := hp_75
  have z_80 := l_ps (by decide) (by decide) ⟨iM_72, q_76, p_77, p_78, p_79⟩
  clear p_77 p_78 p_79
  have br_71 : 1 ≤ r_71.toInt ∧ r_71.toInt ≤ 30 := by have l1 : (1 : Int32).toInt = 1 := (by decide); have l2 : (30 : Int32).toInt = 30 := (by decide); omega
  obtain ⟨g_81, eg_81⟩ : ∃ z : Nat → Int, z = pp_nb B n 1 30 g_64 := ⟨_, rfl⟩
  rw [← eg_81] at hs_73
  have tl_82 : qL td M_72 := qL_fr tl_70 q_76.1 (q_76.2 18 (by decide)) (q_76.2 30 (by decide)) (by omega)
  refine ti_iast (ci := 10) (k := 8) (n := 16) C hw ob_60 (by decide) (fun _ _ => rfl) (vp_in_iff.mpr (by omega)) dX10_manLine_72 (fun H locs hw => ?_)
  obtain ⟨M_83, hM_83⟩ : ∃ z : ti_M, z = uY M_72 60 8 (upd (tY M_72 60 8) (mz : Int32).toNatClampNeg r_71) := ⟨_, rfl⟩
  have hw := hw.to hM_83.symm
  have iM_83 : mI Tm M_83 := mI_up (i := mz.toNatClampNeg) iM_72 hM_83 trivial
  have z_84 := s5_Y hM_83 (by decide)
  have hs_86 := rQ_Yx hs_73 hM_83 (by decide) (by decide) (by decide) (by decide)
  have tl_87 : qL td M_83 := qL_m tl_82 hM_83 (by decide) (Or.inr (by rw [((cg (tY_fr q_76.1) 11).trans ((cg (tY_nE hM_66 (nk (by decide))) 11).trans ((cg (tY_fr q_59.1) 11).trans ((cg (tY_nE hM_49 (nk (by decide))) 11).trans ((cg (tY_fr q_42.1) 11).trans ((cg (tY_nE hM_32 (nk (by decide))) 11).trans ((cg (tY_fr q_25.1) 11).trans ((cg (tY_nE hM_15 (nk (by decide))) 11).trans ((cg (tY_fr q_8.1) 11).trans h11)))))))))]; show nm.toInt + 8 ≤ (((mz : Int32).toInt.toNat : Nat) : Int); omega))
  refine lv_aload_n hx hb dX10_manLine_73 rfl (lv_at hl 0 rfl) ?_
  refine ti_get (ci := 10) (k := 9) (N := 67) (T := TX10) (v := .ref (A 60 10)) C hw iw_10 rfl ob_60 (by decide) (by decide) fl_X10_31 rfl rfl dX10_manLine_74 ?_
  refine lv_iload_n hx hb dX10_manLine_77 rfl (lv_at hl 1 rfl) ?_
  refine lv_aload_n hx hb dX10_manLine_78 rfl (lv_at hl 0 rfl) ?_
  refine lv_iconst (v := 0) hx hb dX10_manLine_79 (by decide) ?_
  refine lv_bipush (v := 99) hx hb dX10_manLine_80 (by decide) ?_
  refine ti_callViE (ci := 10) (av := [.int 0, .int 99]) C hE hw (x_X10_numeral l D A cy hJ M_83 iM_83 0 99 (by decide) (by decide) B n g_81 hs_86) ⟨ml_X10_240, ym_X10_numeral, yv_X10_numeral, yi_X10_numeral, yc_X10_numeral⟩ yd_X10_numeral ob_60 (by decide) rfl rfl hl.1 (Nat.le_of_ble_eq_true rfl) ⟨by decide, by decide⟩ ⟨Nat.zero_le _, Nat.zero_le _⟩ dX10_manLine_82 (fun r_88 M_89 H locs hp_89 hw => ?_)
  obtain ⟨hs_90, hm_91, hp_92⟩ := hp_89
  rw [show (0 : Int32).toInt = 0 by decide] at hs_90
  rw [show (99 : Int32).toInt = 99 by decide] at hs_90
  obtain ⟨iM_89, q_93, p_94, p_95, p_96, b0r_88, b1r_88⟩ := hp_92
  have z_97 := l_ps (by decide) (by decide) ⟨iM_89, q_93, p_94, p_95, p_96⟩
  clear p_94 p_95 p_96
  have br_88 : 0 ≤ r_88.toInt ∧ r_88.toInt ≤ 99 := by have l1 : (0 : Int32).toInt = 0 := (by decide); have l2 : (99 : Int32).toInt = 99 := (by decide); omega
  obtain ⟨g_98, eg_98⟩ : ∃ z : Nat → Int, z = pp_nb B n 0 99 g_81 := ⟨_, rfl⟩
  rw [← eg_98] at hs_90
  have tl_99 : qL td M_89 := qL_fr tl_87 q_93.1 (q_93.2 18 (by decide)) (q_93.2 30 (by decide)) (by omega)
  refine ti_iast (ci := 10) (k := 9) (n := 16) C hw ob_60 (by decide) (fun _ _ => rfl) (vp_in_iff.mpr (by omega)) dX10_manLine_85 (fun H locs hw => ?_)
  obtain ⟨M_100, hM_100⟩ : ∃ z : ti_M, z = uY M_89 60 9 (upd (tY M_89 60 9) (mz : Int32).toNatClampNeg r_88) := ⟨_, rfl⟩
  have hw := hw.to hM_100.symm
  have iM_100 : mI Tm M_100 := mI_up (i := mz.toNatClampNeg) iM_89 hM_100 trivial
  have z_101 := s5_Y hM_100 (by decide)
  have hs_103 := rQ_Yx hs_90 hM_100 (by decide) (by decide) (by decide) (by decide)
  have tl_104 : qL td M_100 := qL_m tl_99 hM_100 (by decide) (Or.inr (by rw [((cg (tY_fr q_93.1) 11).trans ((cg (tY_nE hM_83 (nk (by decide))) 11).trans ((cg (tY_fr q_76.1) 11).trans ((cg (tY_nE hM_66 (nk (by decide))) 11).trans ((cg (tY_fr q_59.1) 11).trans ((cg (tY_nE hM_49 (nk (by decide))) 11).trans ((cg (tY_fr q_42.1) 11).trans ((cg (tY_nE hM_32 (nk (by decide))) 11).trans ((cg (tY_fr q_25.1) 11).trans ((cg (tY_nE hM_15 (nk (by decide))) 11).trans ((cg (tY_fr q_8.1) 11).trans h11)))))))))))]; show nm.toInt + 8 ≤ (((mz : Int32).toInt.toNat : Nat) : Int); omega))
  refine lv_aload_n hx hb dX10_manLine_86 rfl (lv_at hl 0 rfl) ?_
  refine ti_get (ci := 10) (k := 10) (N := 67) (T := TX10) (v := .ref (A 60 11)) C hw iw_10 rfl ob_60 (by decide) (by decide) fl_X10_34 rfl rfl dX10_manLine_87 ?_
  refine lv_iload_n hx hb dX10_manLine_90 rfl (lv_at hl 1 rfl) ?_
  refine lv_aload_n hx hb dX10_manLine_91 rfl (lv_at hl 0 rfl) ?_
  refine lv_iconst (v := 0) hx hb dX10_manLine_92 (by decide) ?_
  refine lv_bipush (v := 99) hx hb dX10_manLine_93 (by decide) ?_
  refine ti_callViE (ci := 10) (av := [.int 0, .int 99]) C hE hw (x_X10_numeral l D A cy hJ M_100 iM_100 0 99 (by decide) (by decide) B n g_98 hs_103) ⟨ml_X10_240, ym_X10_numeral, yv_X10_numeral, yi_X10_numeral, yc_X10_numeral⟩ yd_X10_numeral ob_60 (by decide) rfl rfl hl.1 (Nat.le_of_ble_eq_true rfl) ⟨by decide, by decide⟩ ⟨Nat.zero_le _, Nat.zero_le _⟩ dX10_manLine_95 (fun r_105 M_106 H locs hp_106 hw => ?_)
  obtain ⟨hs_107, hm_108, hp_109⟩ := hp_106
  rw [show (0 : Int32).toInt = 0 by decide] at hs_107
  rw [show (99 : Int32).toInt = 99 by decide] at hs_107
  obtain ⟨iM_106, q_110, p_111, p_112, p_113, b0r_105, b1r_105⟩ := hp_109
  have z_114 := l_ps (by decide) (by decide) ⟨iM_106, q_110, p_111, p_112, p_113⟩
  clear p_111 p_112 p_113
  have br_105 : 0 ≤ r_105.toInt ∧ r_105.toInt ≤ 99 := by have l1 : (0 : Int32).toInt = 0 := (by decide); have l2 : (99 : Int32).toInt = 99 := (by decide); omega
  obtain ⟨g_115, eg_115⟩ : ∃ z : Nat → Int, z = pp_nb B n 0 99 g_98 := ⟨_, rfl⟩
  rw [← eg_115] at hs_107
  have tl_116 : qL td M_106 := qL_fr tl_104 q_110.1 (q_110.2 18 (by decide)) (q_110.2 30 (by decide)) (by omega)
  refine ti_iast (ci := 10) (k := 10) (n := 16) C hw ob_60 (by decide) (fun _ _ => rfl) (vp_in_iff.mpr (by omega)) dX10_manLine_98 (fun H locs hw => ?_)
  obtain ⟨M_117, hM_117⟩ : ∃ z : ti_M, z = uY M_106 60 10 (upd (tY M_106 60 10) (mz : Int32).toNatClampNeg r_105) := ⟨_, rfl⟩
  have hw := hw.to hM_117.symm
  have iM_117 : mI Tm M_117 := mI_up (i := mz.toNatClampNeg) iM_106 hM_117 trivial
  have z_118 := s5_Y hM_117 (by decide)
  have hs_120 := rQ_Yx hs_107 hM_117 (by decide) (by decide) (by decide) (by decide)
  have tl_121 : qL td M_117 := qL_m tl_116 hM_117 (by decide) (Or.inr (by rw [((cg (tY_fr q_110.1) 11).trans ((cg (tY_nE hM_100 (nk (by decide))) 11).trans ((cg (tY_fr q_93.1) 11).trans ((cg (tY_nE hM_83 (nk (by decide))) 11).trans ((cg (tY_fr q_76.1) 11).trans ((cg (tY_nE hM_66 (nk (by decide))) 11).trans ((cg (tY_fr q_59.1) 11).trans ((cg (tY_nE hM_49 (nk (by decide))) 11).trans ((cg (tY_fr q_42.1) 11).trans ((cg (tY_nE hM_32 (nk (by decide))) 11).trans ((cg (tY_fr q_25.1) 11).trans ((cg (tY_nE hM_15 (nk (by decide))) 11).trans ((cg (tY_fr q_8.1) 11).trans h11)))))))))))))]; show nm.toInt + 8 ≤ (((mz : Int32).toInt.toNat : Nat) : Int); omega))
  refine lv_aload_n hx hb dX10_manLine_99 rfl (lv_at hl 0 rfl) ?_
  refine ti_get (ci := 10) (k := 11) (N := 67) (T := TX10) (v := .ref (A 60 12)) C hw iw_10 rfl ob_60 (by decide) (by decide) fl_X10_37 rfl rfl dX10_manLine_100 ?_
  refine lv_iload_n hx hb dX10_manLine_103 rfl (lv_at hl 1 rfl) ?_
  refine lv_aload_n hx hb dX10_manLine_104 rfl (lv_at hl 0 rfl) ?_
  refine lv_iconst (v := 0) hx hb dX10_manLine_105 (by decide) ?_
  refine lv_bipush (v := 59) hx hb dX10_manLine_106 (by decide) ?_
  refine ti_callViE (ci := 10) (av := [.int 0, .int 59]) C hE hw (x_X10_numeral l D A cy hJ M_117 iM_117 0 59 (by decide) (by decide) B n g_115 hs_120) ⟨ml_X10_240, ym_X10_numeral, yv_X10_numeral, yi_X10_numeral, yc_X10_numeral⟩ yd_X10_numeral ob_60 (by decide) rfl rfl hl.1 (Nat.le_of_ble_eq_true rfl) ⟨by decide, by decide⟩ ⟨Nat.zero_le _, Nat.zero_le _⟩ dX10_manLine_108 (fun r_122 M_123 H locs hp_123 hw => ?_)
  obtain ⟨hs_124, hm_125, hp_126⟩ := hp_123
  rw [show (0 : Int32).toInt = 0 by decide] at hs_124
  rw [show (59 : Int32).toInt = 59 by decide] at hs_124
  obtain ⟨iM_123, q_127, p_128, p_129, p_130, b0r_122, b1r_122⟩ := hp_126
  have z_131 := l_ps (by decide) (by decide) ⟨iM_123, q_127, p_128, p_129, p_130⟩
  clear p_128 p_129 p_130
  have br_122 : 0 ≤ r_122.toInt ∧ r_122.toInt ≤ 59 := by have l1 : (0 : Int32).toInt = 0 := (by decide); have l2 : (59 : Int32).toInt = 59 := (by decide); omega
  obtain ⟨g_132, eg_132⟩ : ∃ z : Nat → Int, z = pp_nb B n 0 59 g_115 := ⟨_, rfl⟩
  rw [← eg_132] at hs_124
  have tl_133 : qL td M_123 := qL_fr tl_121 q_127.1 (q_127.2 18 (by decide)) (q_127.2 30 (by decide)) (by omega)
  refine ti_iast (ci := 10) (k := 11) (n := 16) C hw ob_60 (by decide) (fun _ _ => rfl) (vp_in_iff.mpr (by omega)) dX10_manLine_111 (fun H locs hw => ?_)
  obtain ⟨M_134, hM_134⟩ : ∃ z : ti_M, z = uY M_123 60 11 (upd (tY M_123 60 11) (mz : Int32).toNatClampNeg r_122) := ⟨_, rfl⟩
  have hw := hw.to hM_134.symm
  have iM_134 : mI Tm M_134 := mI_up (i := mz.toNatClampNeg) iM_123 hM_134 trivial
  have z_135 := s5_Y hM_134 (by decide)
  have hs_137 := rQ_Yx hs_124 hM_134 (by decide) (by decide) (by decide) (by decide)
  have tl_138 : qL td M_134 := qL_m tl_133 hM_134 (by decide) (Or.inr (by rw [((cg (tY_fr q_127.1) 11).trans ((cg (tY_nE hM_117 (nk (by decide))) 11).trans ((cg (tY_fr q_110.1) 11).trans ((cg (tY_nE hM_100 (nk (by decide))) 11).trans ((cg (tY_fr q_93.1) 11).trans ((cg (tY_nE hM_83 (nk (by decide))) 11).trans ((cg (tY_fr q_76.1) 11).trans ((cg (tY_nE hM_66 (nk (by decide))) 11).trans ((cg (tY_fr q_59.1) 11).trans ((cg (tY_nE hM_49 (nk (by decide))) 11).trans ((cg (tY_fr q_42.1) 11).trans ((cg (tY_nE hM_32 (nk (by decide))) 11).trans ((cg (tY_fr q_25.1) 11).trans ((cg (tY_nE hM_15 (nk (by decide))) 11).trans ((cg (tY_fr q_8.1) 11).trans h11)))))))))))))))]; show nm.toInt + 8 ≤ (((mz : Int32).toInt.toNat : Nat) : Int); omega))
  refine lv_aload_n hx hb dX10_manLine_112 rfl (lv_at hl 0 rfl) ?_
  refine ti_get (ci := 10) (k := 13) (N := 67) (T := TX10) (v := .ref (A 60 14)) C hw iw_10 rfl ob_60 (by decide) (by decide) fl_X10_43 rfl rfl dX10_manLine_113 ?_
  refine lv_iload_n hx hb dX10_manLine_116 rfl (lv_at hl 1 rfl) ?_
  refine lv_iconst (v := 0) hx hb dX10_manLine_117 (by decide) ?_
  refine ti_iast (ci := 10) (k := 13) (n := 16) C hw ob_60 (by decide) (fun _ _ => rfl) (vp_in_iff.mpr (by omega)) dX10_manLine_118 (fun H locs hw => ?_)
  obtain ⟨M_139, hM_139⟩ : ∃ z : ti_M, z = uY M_134 60 13 (upd (tY M_134 60 13) (mz : Int32).toNatClampNeg 0) := ⟨_, rfl⟩
  have hw := hw.to hM_139.symm
  have iM_139 : mI Tm M_139 := mI_up (i := mz.toNatClampNeg) iM_134 hM_139 trivial
  have z_140 := s5_Y hM_139 (by decide)
  have hs_142 := rQ_13n hs_137 hM_139 (fun q => by have g7 := mh_7 hs_137 q ((cg (tY_nE hM_134 (nk (by decide))) 11).trans ((cg (tY_fr q_127.1) 11).trans ((cg (tY_nE hM_117 (nk (by decide))) 11).trans ((cg (tY_fr q_110.1) 11).trans ((cg (tY_nE hM_100 (nk (by decide))) 11).trans ((cg (tY_fr q_93.1) 11).trans ((cg (tY_nE hM_83 (nk (by decide))) 11).trans ((cg (tY_fr q_76.1) 11).trans ((cg (tY_nE hM_66 (nk (by decide))) 11).trans ((cg (tY_fr q_59.1) 11).trans ((cg (tY_nE hM_49 (nk (by decide))) 11).trans ((cg (tY_fr q_42.1) 11).trans ((cg (tY_nE hM_32 (nk (by decide))) 11).trans ((cg (tY_fr q_25.1) 11).trans ((cg (tY_nE hM_15 (nk (by decide))) 11).trans ((cg (tY_fr q_8.1) 11).trans h11)))))))))))))))); show 8 + _ ≤ ((mz.toInt.toNat : Nat) : Int); omega)
  have tl_143 : qL td M_139 := qL_m tl_138 hM_139 (by decide) (Or.inr (by rw [((cg (tY_nE hM_134 (nk (by decide))) 11).trans ((cg (tY_fr q_127.1) 11).trans ((cg (tY_nE hM_117 (nk (by decide))) 11).trans ((cg (tY_fr q_110.1) 11).trans ((cg (tY_nE hM_100 (nk (by decide))) 11).trans ((cg (tY_fr q_93.1) 11).trans ((cg (tY_nE hM_83 (nk (by decide))) 11).trans ((cg (tY_fr q_76.1) 11).trans ((cg (tY_nE hM_66 (nk (by decide))) 11).trans ((cg (tY_fr q_59.1) 11).trans ((cg (tY_nE hM_49 (nk (by decide))) 11).trans ((cg (tY_fr q_42.1) 11).trans ((cg (tY_nE hM_32 (nk (by decide))) 11).trans ((cg (tY_fr q_25.1) 11).trans ((cg (tY_nE hM_15 (nk (by decide))) 11).trans ((cg (tY_fr q_8.1) 11).trans h11))))))))))))))))]; show nm.toInt + 8 ≤ (((mz : Int32).toInt.toNat : Nat) : Int); omega))
  refine lv_aload_n hx hb dX10_manLine_119 rfl (lv_at hl 0 rfl) ?_
  refine ti_get (ci := 10) (k := 12) (N := 67) (T := TX10) (v := .ref (A 60 13)) C hw iw_10 rfl ob_60 (by decide) (by decide) fl_X10_40 rfl rfl dX10_manLine_120 ?_
  refine lv_iload_n hx hb dX10_manLine_123 rfl (lv_at hl 1 rfl) ?_
  refine lv_aload_n hx hb dX10_manLine_124 rfl (lv_at hl 0 rfl) ?_
  refine lv_bipush (v := 9) hx hb dX10_manLine_125 (by decide) ?_
  refine ti_callVi (ci := 10) (av := [.int 9]) C hw (x_X10_isWord l D A cy hJ M_139 iM_139 9) ⟨ml_X10_261, ym_X10_isWord, yv_X10_isWord, yi_X10_isWord, yc_X10_isWord⟩ yd_X10_isWord ob_60 (by decide) rfl rfl hl.1 (Nat.le_of_ble_eq_true rfl) ⟨by decide, by decide⟩ ⟨Nat.zero_le _, Nat.zero_le _⟩ dX10_manLine_127 (fun r_144 M_145 H locs hp_145 hw => ?_)
  obtain ⟨hm, hz⟩ := hp_145
  have hw := hw.to hm
  rcases hz with ⟨rfl, d0_146, d1_146, d2_146⟩ | ⟨rfl, d3_146⟩
  · have dk_146 := rQ_w1 (k := 15) hs_142 d0_146 d1_146 d2_146 (by decide)
    have z_147 : ff M_139 = 1 := ff_1 d0_146
    have z_148 : pg M_139 = 2 * (tI M_139 60 21).toInt := pg_3 (by rw [d1_146]; decide)
    clear d0_146 d1_146 d2_146
    refine sb_if_eq (tgt := 137) hx hb (by decide : (1 : Int32).toInt = 1) dX10_manLine_130 (by decide) (fun h => absurd h (by decide)) (fun c_130_148 => ?_)
    refine lv_iconst (v := 1) hx hb dX10_manLine_133 (by decide) ?_
    refine lv_goto (tgt := 138) hx hb dX10_manLine_134 (by decide) ?_
    refine ti_iast (ci := 10) (k := 12) (n := 16) C hw ob_60 (by decide) (fun _ _ => rfl) (vp_in_iff.mpr (by omega)) dX10_manLine_138 (fun H locs hw => ?_)
    obtain ⟨M_151, hM_151⟩ : ∃ z : ti_M, z = uY M_139 60 12 (upd (tY M_139 60 12) (mz : Int32).toNatClampNeg 1) := ⟨_, rfl⟩
    have hw := hw.to hM_151.symm
    have iM_151 : mI Tm M_151 := mI_up (i := mz.toNatClampNeg) iM_139 hM_151 trivial
    have z_152 := s5_Y hM_151 (by decide)
    have hs_154 := rQ_Yx hs_142 hM_151 (by decide) (by decide) (by decide) (by decide)
    have tl_155 : qL td M_151 := qL_m tl_143 hM_151 (by decide) (Or.inr (by rw [((cg (tY_nE hM_139 (nk (by decide))) 11).trans ((cg (tY_nE hM_134 (nk (by decide))) 11).trans ((cg (tY_fr q_127.1) 11).trans ((cg (tY_nE hM_117 (nk (by decide))) 11).trans ((cg (tY_fr q_110.1) 11).trans ((cg (tY_nE hM_100 (nk (by decide))) 11).trans ((cg (tY_fr q_93.1) 11).trans ((cg (tY_nE hM_83 (nk (by decide))) 11).trans ((cg (tY_fr q_76.1) 11).trans ((cg (tY_nE hM_66 (nk (by decide))) 11).trans ((cg (tY_fr q_59.1) 11).trans ((cg (tY_nE hM_49 (nk (by decide))) 11).trans ((cg (tY_fr q_42.1) 11).trans ((cg (tY_nE hM_32 (nk (by decide))) 11).trans ((cg (tY_fr q_25.1) 11).trans ((cg (tY_nE hM_15 (nk (by decide))) 11).trans ((cg (tY_fr q_8.1) 11).trans h11)))))))))))))))))]; show nm.toInt + 8 ≤ (((mz : Int32).toInt.toNat : Nat) : Int); omega))
    refine lv_aload_n hx hb dX10_manLine_139 rfl (lv_at hl 0 rfl) ?_
    refine ti_get (ci := 10) (k := 12) (N := 67) (T := TX10) (v := .ref (A 60 13)) C hw iw_10 rfl ob_60 (by decide) (by decide) fl_X10_40 rfl rfl dX10_manLine_140 ?_
    refine lv_iload_n hx hb dX10_manLine_143 rfl (lv_at hl 1 rfl) ?_
    refine ti_iald (ci := 10) (k := 12) (n := 16) C hw ob_60 (by decide) (fun _ _ => rfl) (vp_in_iff.mpr (by omega)) dX10_manLine_144 ?_
    refine ti_top (y := 1) (((cg (tY_uE hM_151) mz.toNatClampNeg).trans (pk_us ..))) ?_
    refine lv_iconst (v := 1) hx hb dX10_manLine_145 (by decide) ?_
    refine sb_icmp_ne (tgt := 153) hx hb (by decide : (1 : Int32).toInt = 1) (by decide : (1 : Int32).toInt = 1) dX10_manLine_146 (by decide) (fun h => absurd h (by decide)) (fun c_146_155 => ?_)
    refine lv_aload_n hx hb dX10_manLine_149 rfl (lv_at hl 0 rfl) ?_
    refine ti_callVvE (ci := 10) (av := []) C hE hw (x_X10_token l D A cy hJ M_151 iM_151 ) ⟨ml_X10_214, ym_X10_token, yv_X10_token, yi_X10_token, yc_X10_token⟩ yd_X10_token ob_60 (by decide) rfl rfl hl.1 (Nat.le_of_ble_eq_true rfl) ⟨by decide, by decide⟩ ⟨Nat.zero_le _, Nat.zero_le _⟩ dX10_manLine_150 (fun M_164 H locs hp_164 hw => ?_)
    obtain ⟨iM_164, q_167, z_165, z_166, k2M_164, k3M_164, k4M_164⟩ := hp_164
    have hs_168 := rQ_av hs_154 (rQ_g0 hs_154 (by omega)) (iM_151.1 21).1 q_167 k2M_164 k3M_164 k4M_164
    obtain ⟨-, -, z_169, z_170, z_171, z_172, z_173, z_174⟩ := l_tk ⟨iM_164, q_167, z_165, z_166⟩
    clear z_165 z_166 k2M_164 k3M_164 k4M_164
    obtain ⟨g_175, eg_175⟩ : ∃ z : Nat → Int, z = pp_av B n g_132 := ⟨_, rfl⟩
    rw [← eg_175] at hs_168
    have tl_176 : qL td M_164 := qL_fr tl_155 q_167.1 (q_167.2 18 (by decide)) (q_167.2 30 (by decide)) (by omega)
    refine lv_aload_n hx hb dX10_manLine_153 rfl (lv_at hl 0 rfl) ?_
    refine lv_iconst (v := 0) hx hb dX10_manLine_154 (by decide) ?_
    refine lv_aload_n hx hb dX10_manLine_155 rfl (lv_at hl 0 rfl) ?_
    refine lv_iconst (v := 0) hx hb dX10_manLine_156 (by decide) ?_
    refine ti_callVi (ci := 10) (av := [.int 0]) C hw (s_X10_fresher_0 l D A cy hJ M_164 iM_164 ) ⟨ml_X10_224, ym_X10_fresher, yv_X10_fresher, yi_X10_fresher, yc_X10_fresher⟩ yd_X10_fresher ob_60 (by decide) rfl rfl hl.1 (Nat.le_of_ble_eq_true rfl) ⟨by decide, by decide⟩ ⟨Nat.zero_le _, Nat.zero_le _⟩ dX10_manLine_157 (fun r_183 M_184 H locs hp_184 hw => ?_)
    obtain ⟨hm, b0r_183, b1r_183, yr_183⟩ := hp_184
    have hw := hw.to hm
    have sr_183 : r_183.toInt = (nm : Int32).toInt := by rw [← yr_183, ((cg (tY_fr q_167.1) 11).trans ((cg (tY_nE hM_151 (nk (by decide))) 11).trans ((cg (tY_nE hM_139 (nk (by decide))) 11).trans ((cg (tY_nE hM_134 (nk (by decide))) 11).trans ((cg (tY_fr q_127.1) 11).trans ((cg (tY_nE hM_117 (nk (by decide))) 11).trans ((cg (tY_fr q_110.1) 11).trans ((cg (tY_nE hM_100 (nk (by decide))) 11).trans ((cg (tY_fr q_93.1) 11).trans ((cg (tY_nE hM_83 (nk (by decide))) 11).trans ((cg (tY_fr q_76.1) 11).trans ((cg (tY_nE hM_66 (nk (by decide))) 11).trans ((cg (tY_fr q_59.1) 11).trans ((cg (tY_nE hM_49 (nk (by decide))) 11).trans ((cg (tY_fr q_42.1) 11).trans ((cg (tY_nE hM_32 (nk (by decide))) 11).trans ((cg (tY_fr q_25.1) 11).trans ((cg (tY_nE hM_15 (nk (by decide))) 11).trans ((cg (tY_fr q_8.1) 11).trans h11)))))))))))))))))))]
    have zr_183 : (tY M_164 60 3 11).toInt = r_183.toInt := by rw [yr_183]
    refine lv_iconst (v := 1) hx hb dX10_manLine_160 (by decide) ?_
    refine lv_iadd hx hb dX10_manLine_161 ?_
    refine lv_topi (fun x_185 ex_185 => ?_)
    have tx_185 : x_185.toInt = r_183.toInt + 1 := i_add ex_185 rfl (by decide : (1 : Int32).toInt = 1) (by omega) (by omega)
    refine ti_callVv (ci := 10) (av := [.int 0, .int x_185]) C hw (s_X10_reads l D A cy hJ M_164 iM_164 0 x_185 (by decide) (by decide) (by rw [show (11 + (0 : Int32).toInt).toNat = 11 by decide]; exact (ib_mk (lo := 0) (hi := 8) (by omega) (by omega)))) ⟨ml_X10_244, ym_X10_reads, yv_X10_reads, yi_X10_reads, yc_X10_reads⟩ yd_X10_reads ob_60 (by decide) rfl rfl hl.1 (Nat.le_of_ble_eq_true rfl) ⟨by decide, by decide⟩ ⟨Nat.zero_le _, Nat.zero_le _⟩ dX10_manLine_162 (fun M_187 H locs hp_187 hw => ?_)
    obtain ⟨iM_187, hM_187⟩ := hp_187
    rw [show (11 + (0 : Int32).toInt).toNat = 11 by decide] at hM_187
    have z_188 := s5_3 hM_187 (by decide)
    have E3 : pp_m3 B n (pp_m2 g1) = g_132 := by unfold pp_m3; rw [← eg_13, ← eg_30, ← eg_47, ← eg_64, ← eg_81, ← eg_98, ← eg_115, ← eg_132]
    have E4 : pp_m4 B n g_132 = g_175 := by unfold pp_m4; rw [if_pos dk_146.1, ← eg_175]
    have QQ := rQ_m7 (rQ_su (r := 200 + (g_175 7).toNat) (v := -1) hs_168 (fun q => by have g7 := mh_7 hs_168 q ((cg (tY_fr q_167.1) 11).trans ((cg (tY_nE hM_151 (nk (by decide))) 11).trans ((cg (tY_nE hM_139 (nk (by decide))) 11).trans ((cg (tY_nE hM_134 (nk (by decide))) 11).trans ((cg (tY_fr q_127.1) 11).trans ((cg (tY_nE hM_117 (nk (by decide))) 11).trans ((cg (tY_fr q_110.1) 11).trans ((cg (tY_nE hM_100 (nk (by decide))) 11).trans ((cg (tY_fr q_93.1) 11).trans ((cg (tY_nE hM_83 (nk (by decide))) 11).trans ((cg (tY_fr q_76.1) 11).trans ((cg (tY_nE hM_66 (nk (by decide))) 11).trans ((cg (tY_fr q_59.1) 11).trans ((cg (tY_nE hM_49 (nk (by decide))) 11).trans ((cg (tY_fr q_42.1) 11).trans ((cg (tY_nE hM_32 (nk (by decide))) 11).trans ((cg (tY_fr q_25.1) 11).trans ((cg (tY_nE hM_15 (nk (by decide))) 11).trans ((cg (tY_fr q_8.1) 11).trans h11))))))))))))))))))); omega) (Or.inr rfl)) hM_187 (fun q => by
      rw [su_n (j := 4) (by omega)] at q
      have f1 : ff M_164 = 1 := ff_1 (hs_168.2.1.symm.trans q)
      have r4 := rQ_g0 hr (show ff M = 1 by omega)
      have e7r := e7 r4
      have g7 := mh_7 hs_168 q ((cg (tY_fr q_167.1) 11).trans ((cg (tY_nE hM_151 (nk (by decide))) 11).trans ((cg (tY_nE hM_139 (nk (by decide))) 11).trans ((cg (tY_nE hM_134 (nk (by decide))) 11).trans ((cg (tY_fr q_127.1) 11).trans ((cg (tY_nE hM_117 (nk (by decide))) 11).trans ((cg (tY_fr q_110.1) 11).trans ((cg (tY_nE hM_100 (nk (by decide))) 11).trans ((cg (tY_fr q_93.1) 11).trans ((cg (tY_nE hM_83 (nk (by decide))) 11).trans ((cg (tY_fr q_76.1) 11).trans ((cg (tY_nE hM_66 (nk (by decide))) 11).trans ((cg (tY_fr q_59.1) 11).trans ((cg (tY_nE hM_49 (nk (by decide))) 11).trans ((cg (tY_fr q_42.1) 11).trans ((cg (tY_nE hM_32 (nk (by decide))) 11).trans ((cg (tY_fr q_25.1) 11).trans ((cg (tY_nE hM_15 (nk (by decide))) 11).trans ((cg (tY_fr q_8.1) 11).trans h11)))))))))))))))))))
      have xm := hm_6 (ff_y (by omega))
      have y4 := rb_k (s := 8 + nm.toInt.toNat) ((cg (tY_fr q_167.1) mz.toNatClampNeg).trans ((cg (tY_nE hM_151 (nk (by decide))) mz.toNatClampNeg).trans ((cg (tY_nE hM_139 (nk (by decide))) mz.toNatClampNeg).trans ((cg (tY_nE hM_134 (nk (by decide))) mz.toNatClampNeg).trans ((cg (tY_fr q_127.1) mz.toNatClampNeg).trans ((cg (tY_nE hM_117 (nk (by decide))) mz.toNatClampNeg).trans ((cg (tY_fr q_110.1) mz.toNatClampNeg).trans ((cg (tY_nE hM_100 (nk (by decide))) mz.toNatClampNeg).trans ((cg (tY_fr q_93.1) mz.toNatClampNeg).trans ((cg (tY_nE hM_83 (nk (by decide))) mz.toNatClampNeg).trans ((cg (tY_fr q_76.1) mz.toNatClampNeg).trans ((cg (tY_nE hM_66 (nk (by decide))) mz.toNatClampNeg).trans ((cg (tY_fr q_59.1) mz.toNatClampNeg).trans ((cg (tY_nE hM_49 (nk (by decide))) mz.toNatClampNeg).trans ((cg (tY_fr q_42.1) mz.toNatClampNeg).trans ((cg (tY_nE hM_32 (nk (by decide))) mz.toNatClampNeg).trans ((cg (tY_fr q_25.1) mz.toNatClampNeg).trans ((cg (tY_uE hM_15) mz.toNatClampNeg).trans (pk_us ..))))))))))))))))))) (by omega)
      have y13 := rb_k (s := 8 + nm.toInt.toNat) ((cg (tY_fr q_167.1) mz.toNatClampNeg).trans ((cg (tY_nE hM_151 (nk (by decide))) mz.toNatClampNeg).trans ((cg (tY_uE hM_139) mz.toNatClampNeg).trans (pk_us ..)))) (by omega)
      have n1 : g_175 (100 + nm.toInt.toNat) = rg 1 := by rw [eg_175, av_n (by omega), eg_132, nb_n (by omega), eg_115, nb_n (by omega), eg_98, nb_n (by omega), eg_81, nb_n (by omega), eg_64, nb_n (by omega), eg_47, nb_n (by omega), eg_30, nb_n (by omega), eg_13, tk_n (by omega), m2_n (by omega), eg1, show (rg 7).toNat = nm.toInt.toNat by omega, su_s]
      have n2 : g1 1 = rg 1 := by rw [eg1, su_n (by omega)]
      rw [su_n (j := 7) (by omega), su_n (j := 100 + (g_175 7).toNat) (by omega), su_s, show (g_175 7).toNat = nm.toInt.toNat by omega]
      have z0 : (0 : Int32).toInt = 0 := by decide
      exact ⟨by omega, by omega, by omega, rfl, by omega⟩)
    rw [su_n (j := 7) (by omega)] at QQ
    exact hQ _ _ _ _ _ hw (⟨(gU.trans (gU_Yx hM_187 (by decide)) (gU.trans (gU_e q_167.1) (gU.trans (gU_Y hM_151 (by show 8 ≤ (mz : Int32).toInt.toNat; omega)) (gU.trans (gU_Y hM_139 (by show 8 ≤ (mz : Int32).toInt.toNat; omega)) (gU.trans (gU_Y hM_134 (by show 8 ≤ (mz : Int32).toInt.toNat; omega)) (gU.trans (gU_e q_127.1) (gU.trans (gU_Y hM_117 (by show 8 ≤ (mz : Int32).toInt.toNat; omega)) (gU.trans (gU_e q_110.1) (gU.trans (gU_Y hM_100 (by show 8 ≤ (mz : Int32).toInt.toNat; omega)) (gU.trans (gU_e q_93.1) (gU.trans (gU_Y hM_83 (by show 8 ≤ (mz : Int32).toInt.toNat; omega)) (gU.trans (gU_e q_76.1) (gU.trans (gU_Y hM_66 (by show 8 ≤ (mz : Int32).toInt.toNat; omega)) (gU.trans (gU_e q_59.1) (gU.trans (gU_Y hM_49 (by show 8 ≤ (mz : Int32).toInt.toNat; omega)) (gU.trans (gU_e q_42.1) (gU.trans (gU_Y hM_32 (by show 8 ≤ (mz : Int32).toInt.toNat; omega)) (gU.trans (gU_e q_25.1) (gU.trans (gU_Yx hM_15 (by decide)) (gU_e q_8.1)))))))))))))))))))), (fun q9 => by
      have q8 : ff M_187 = 1 := ff_1 q9
      have r4 := rQ_g0 hr (show ff M = 1 by omega)
      have e7r := e7 r4
      have z : (rg 7).toNat = nm.toInt.toNat := by omega
      unfold qq_mq
      rw [← eg1, z, E3, ← eg_13]
      exact qL_mn (a := nm.toInt.toNat) tl_176 hM_187 (by rw [((cg (tY_fr q_167.1) 11).trans ((cg (tY_nE hM_151 (nk (by decide))) 11).trans ((cg (tY_nE hM_139 (nk (by decide))) 11).trans ((cg (tY_nE hM_134 (nk (by decide))) 11).trans ((cg (tY_fr q_127.1) 11).trans ((cg (tY_nE hM_117 (nk (by decide))) 11).trans ((cg (tY_fr q_110.1) 11).trans ((cg (tY_nE hM_100 (nk (by decide))) 11).trans ((cg (tY_fr q_93.1) 11).trans ((cg (tY_nE hM_83 (nk (by decide))) 11).trans ((cg (tY_fr q_76.1) 11).trans ((cg (tY_nE hM_66 (nk (by decide))) 11).trans ((cg (tY_fr q_59.1) 11).trans ((cg (tY_nE hM_49 (nk (by decide))) 11).trans ((cg (tY_fr q_42.1) 11).trans ((cg (tY_nE hM_32 (nk (by decide))) 11).trans ((cg (tY_fr q_25.1) 11).trans ((cg (tY_nE hM_15 (nk (by decide))) 11).trans ((cg (tY_fr q_8.1) 11).trans h11)))))))))))))))))))]; omega) (by omega) (by omega) (fun k hk => qm_o hk (by omega)) (fun q f h1 h2 => by
        have q7 := ff_1 q
        have y5 := rb_k (k := 5) (s := 8 + nm.toInt.toNat) ((cg (tY_fr q_167.1) mz.toNatClampNeg).trans ((cg (tY_nE hM_151 (nk (by decide))) mz.toNatClampNeg).trans ((cg (tY_nE hM_139 (nk (by decide))) mz.toNatClampNeg).trans ((cg (tY_nE hM_134 (nk (by decide))) mz.toNatClampNeg).trans ((cg (tY_fr q_127.1) mz.toNatClampNeg).trans ((cg (tY_nE hM_117 (nk (by decide))) mz.toNatClampNeg).trans ((cg (tY_fr q_110.1) mz.toNatClampNeg).trans ((cg (tY_nE hM_100 (nk (by decide))) mz.toNatClampNeg).trans ((cg (tY_fr q_93.1) mz.toNatClampNeg).trans ((cg (tY_nE hM_83 (nk (by decide))) mz.toNatClampNeg).trans ((cg (tY_fr q_76.1) mz.toNatClampNeg).trans ((cg (tY_nE hM_66 (nk (by decide))) mz.toNatClampNeg).trans ((cg (tY_fr q_59.1) mz.toNatClampNeg).trans ((cg (tY_nE hM_49 (nk (by decide))) mz.toNatClampNeg).trans ((cg (tY_fr q_42.1) mz.toNatClampNeg).trans ((cg (tY_uE hM_32) mz.toNatClampNeg).trans (pk_us ..))))))))))))))))) (by omega)
        have x5 := hm_23 (ff_y (by omega))
        have y6 := rb_k (k := 6) (s := 8 + nm.toInt.toNat) ((cg (tY_fr q_167.1) mz.toNatClampNeg).trans ((cg (tY_nE hM_151 (nk (by decide))) mz.toNatClampNeg).trans ((cg (tY_nE hM_139 (nk (by decide))) mz.toNatClampNeg).trans ((cg (tY_nE hM_134 (nk (by decide))) mz.toNatClampNeg).trans ((cg (tY_fr q_127.1) mz.toNatClampNeg).trans ((cg (tY_nE hM_117 (nk (by decide))) mz.toNatClampNeg).trans ((cg (tY_fr q_110.1) mz.toNatClampNeg).trans ((cg (tY_nE hM_100 (nk (by decide))) mz.toNatClampNeg).trans ((cg (tY_fr q_93.1) mz.toNatClampNeg).trans ((cg (tY_nE hM_83 (nk (by decide))) mz.toNatClampNeg).trans ((cg (tY_fr q_76.1) mz.toNatClampNeg).trans ((cg (tY_nE hM_66 (nk (by decide))) mz.toNatClampNeg).trans ((cg (tY_fr q_59.1) mz.toNatClampNeg).trans ((cg (tY_uE hM_49) mz.toNatClampNeg).trans (pk_us ..))))))))))))))) (by omega)
        have x6 := hm_40 (ff_y (by omega))
        have y7 := rb_k (k := 7) (s := 8 + nm.toInt.toNat) ((cg (tY_fr q_167.1) mz.toNatClampNeg).trans ((cg (tY_nE hM_151 (nk (by decide))) mz.toNatClampNeg).trans ((cg (tY_nE hM_139 (nk (by decide))) mz.toNatClampNeg).trans ((cg (tY_nE hM_134 (nk (by decide))) mz.toNatClampNeg).trans ((cg (tY_fr q_127.1) mz.toNatClampNeg).trans ((cg (tY_nE hM_117 (nk (by decide))) mz.toNatClampNeg).trans ((cg (tY_fr q_110.1) mz.toNatClampNeg).trans ((cg (tY_nE hM_100 (nk (by decide))) mz.toNatClampNeg).trans ((cg (tY_fr q_93.1) mz.toNatClampNeg).trans ((cg (tY_nE hM_83 (nk (by decide))) mz.toNatClampNeg).trans ((cg (tY_fr q_76.1) mz.toNatClampNeg).trans ((cg (tY_uE hM_66) mz.toNatClampNeg).trans (pk_us ..))))))))))))) (by omega)
        have x7 := hm_57 (ff_y (by omega))
        have y8 := rb_k (k := 8) (s := 8 + nm.toInt.toNat) ((cg (tY_fr q_167.1) mz.toNatClampNeg).trans ((cg (tY_nE hM_151 (nk (by decide))) mz.toNatClampNeg).trans ((cg (tY_nE hM_139 (nk (by decide))) mz.toNatClampNeg).trans ((cg (tY_nE hM_134 (nk (by decide))) mz.toNatClampNeg).trans ((cg (tY_fr q_127.1) mz.toNatClampNeg).trans ((cg (tY_nE hM_117 (nk (by decide))) mz.toNatClampNeg).trans ((cg (tY_fr q_110.1) mz.toNatClampNeg).trans ((cg (tY_nE hM_100 (nk (by decide))) mz.toNatClampNeg).trans ((cg (tY_fr q_93.1) mz.toNatClampNeg).trans ((cg (tY_uE hM_83) mz.toNatClampNeg).trans (pk_us ..))))))))))) (by omega)
        have x8 := hm_74 (ff_y (by omega))
        have y9 := rb_k (k := 9) (s := 8 + nm.toInt.toNat) ((cg (tY_fr q_167.1) mz.toNatClampNeg).trans ((cg (tY_nE hM_151 (nk (by decide))) mz.toNatClampNeg).trans ((cg (tY_nE hM_139 (nk (by decide))) mz.toNatClampNeg).trans ((cg (tY_nE hM_134 (nk (by decide))) mz.toNatClampNeg).trans ((cg (tY_fr q_127.1) mz.toNatClampNeg).trans ((cg (tY_nE hM_117 (nk (by decide))) mz.toNatClampNeg).trans ((cg (tY_fr q_110.1) mz.toNatClampNeg).trans ((cg (tY_uE hM_100) mz.toNatClampNeg).trans (pk_us ..))))))))) (by omega)
        have x9 := hm_91 (ff_y (by omega))
        have y10 := rb_k (k := 10) (s := 8 + nm.toInt.toNat) ((cg (tY_fr q_167.1) mz.toNatClampNeg).trans ((cg (tY_nE hM_151 (nk (by decide))) mz.toNatClampNeg).trans ((cg (tY_nE hM_139 (nk (by decide))) mz.toNatClampNeg).trans ((cg (tY_nE hM_134 (nk (by decide))) mz.toNatClampNeg).trans ((cg (tY_fr q_127.1) mz.toNatClampNeg).trans ((cg (tY_uE hM_117) mz.toNatClampNeg).trans (pk_us ..))))))) (by omega)
        have x10 := hm_108 (ff_y (by omega))
        have y11 := rb_k (k := 11) (s := 8 + nm.toInt.toNat) ((cg (tY_fr q_167.1) mz.toNatClampNeg).trans ((cg (tY_nE hM_151 (nk (by decide))) mz.toNatClampNeg).trans ((cg (tY_nE hM_139 (nk (by decide))) mz.toNatClampNeg).trans ((cg (tY_uE hM_134) mz.toNatClampNeg).trans (pk_us ..))))) (by omega)
        have x11 := hm_125 (ff_y (by omega))
        have y12 := rb_k (k := 12) (s := 8 + nm.toInt.toNat) ((cg (tY_fr q_167.1) mz.toNatClampNeg).trans ((cg (tY_uE hM_151) mz.toNatClampNeg).trans (pk_us ..))) (by omega)
        have z0 : (0 : Int32).toInt = 0 := by decide
        have z1 : (1 : Int32).toInt = 1 := by decide
        obtain ⟨v1, v2, v3, v4, v5, v6, v7, v8⟩ := qm_v (B := B) (n := n) (m := nm.toInt.toNat) (td := td) (g := g_132) (b := g_13) eg_30 eg_47 eg_64 eg_81 eg_98 eg_115
        rcases (show f = 1 ∨ f = 2 ∨ f = 3 ∨ f = 4 ∨ f = 5 ∨ f = 6 ∨ f = 7 ∨ f = 8 by omega) with rfl | rfl | rfl | rfl | rfl | rfl | rfl | rfl
        · rw [v1]; show _ = (tY M_164 60 5 (8 + nm.toInt.toNat)).toInt; omega
        · rw [v2]; show _ = (tY M_164 60 6 (8 + nm.toInt.toNat)).toInt; omega
        · rw [v3]; show _ = (tY M_164 60 7 (8 + nm.toInt.toNat)).toInt; omega
        · rw [v4]; show _ = (tY M_164 60 8 (8 + nm.toInt.toNat)).toInt; omega
        · rw [v5]; show _ = (tY M_164 60 9 (8 + nm.toInt.toNat)).toInt; omega
        · rw [v6]; show _ = (tY M_164 60 10 (8 + nm.toInt.toNat)).toInt; omega
        · rw [v7]; show _ = (tY M_164 60 11 (8 + nm.toInt.toNat)).toInt; omega
        · rw [v8, if_pos dk_146.1]; show _ = (tY M_164 60 12 (8 + nm.toInt.toNat)).toInt; omega) (fun q => by
        have q7 := ff_1 q
        have x8 := hm_74 (ff_y (by omega))
        obtain ⟨v1, v2, v3, v4, v5, v6, v7, v8⟩ := qm_v (B := B) (n := n) (m := nm.toInt.toNat) (td := td) (g := g_132) (b := g_13) eg_30 eg_47 eg_64 eg_81 eg_98 eg_115
        have y13 := rb_k (k := 13) (s := 8 + nm.toInt.toNat) ((cg (tY_fr q_167.1) mz.toNatClampNeg).trans ((cg (tY_nE hM_151 (nk (by decide))) mz.toNatClampNeg).trans ((cg (tY_uE hM_139) mz.toNatClampNeg).trans (pk_us ..)))) (by omega)
        have z0 : (0 : Int32).toInt = 0 := by decide
        rw [v4]; omega) q9), (by unfold pp_mq; rw [← eg1, E3, E4]; unfold pp_m5; exact QQ), iM_187, (l0.trans (l0_3 hM_187 (by decide)) (l0.trans (l0_pr q_167 (by decide) (by decide)) (l0.trans (l0_Y hM_151 (by decide)) (l0.trans (l0_Y hM_139 (by decide)) (l0.trans (l0_Y hM_134 (by decide)) (l0.trans (l0_pr q_127 (by decide) (by decide)) (l0.trans (l0_Y hM_117 (by decide)) (l0.trans (l0_pr q_110 (by decide) (by decide)) (l0.trans (l0_Y hM_100 (by decide)) (l0.trans (l0_pr q_93 (by decide) (by decide)) (l0.trans (l0_Y hM_83 (by decide)) (l0.trans (l0_pr q_76 (by decide) (by decide)) (l0.trans (l0_Y hM_66 (by decide)) (l0.trans (l0_pr q_59 (by decide) (by decide)) (l0.trans (l0_Y hM_49 (by decide)) (l0.trans (l0_pr q_42 (by decide) (by decide)) (l0.trans (l0_Y hM_32 (by decide)) (l0.trans (l0_pr q_25 (by decide) (by decide)) (l0.trans (l0_4 hM_15 (by show 8 ≤ (mz : Int32).toInt.toNat; omega)) (l0_pr q_8 (by decide) (by decide))))))))))))))))))))), (by omega), (by omega), (by omega), (by omega), (by omega), (by omega)⟩) dX10_manLine_165
  · have dk_146 := rQ_w0 (k := 15) hs_142 d3_146 (by decide) (by decide)
    clear d3_146
    refine sb_if_eq (tgt := 137) hx hb (by decide : (0 : Int32).toInt = 0) dX10_manLine_130 (by decide) (fun c_130_149 => ?_) (fun h => absurd h (by decide))
    refine lv_iconst (v := 0) hx hb dX10_manLine_137 (by decide) ?_
    refine ti_iast (ci := 10) (k := 12) (n := 16) C hw ob_60 (by decide) (fun _ _ => rfl) (vp_in_iff.mpr (by omega)) dX10_manLine_138 (fun H locs hw => ?_)
    obtain ⟨M_157, hM_157⟩ : ∃ z : ti_M, z = uY M_139 60 12 (upd (tY M_139 60 12) (mz : Int32).toNatClampNeg 0) := ⟨_, rfl⟩
    have hw := hw.to hM_157.symm
    have iM_157 : mI Tm M_157 := mI_up (i := mz.toNatClampNeg) iM_139 hM_157 trivial
    have z_158 := s5_Y hM_157 (by decide)
    have hs_160 := rQ_Yx hs_142 hM_157 (by decide) (by decide) (by decide) (by decide)
    have tl_161 : qL td M_157 := qL_m tl_143 hM_157 (by decide) (Or.inr (by rw [((cg (tY_nE hM_139 (nk (by decide))) 11).trans ((cg (tY_nE hM_134 (nk (by decide))) 11).trans ((cg (tY_fr q_127.1) 11).trans ((cg (tY_nE hM_117 (nk (by decide))) 11).trans ((cg (tY_fr q_110.1) 11).trans ((cg (tY_nE hM_100 (nk (by decide))) 11).trans ((cg (tY_fr q_93.1) 11).trans ((cg (tY_nE hM_83 (nk (by decide))) 11).trans ((cg (tY_fr q_76.1) 11).trans ((cg (tY_nE hM_66 (nk (by decide))) 11).trans ((cg (tY_fr q_59.1) 11).trans ((cg (tY_nE hM_49 (nk (by decide))) 11).trans ((cg (tY_fr q_42.1) 11).trans ((cg (tY_nE hM_32 (nk (by decide))) 11).trans ((cg (tY_fr q_25.1) 11).trans ((cg (tY_nE hM_15 (nk (by decide))) 11).trans ((cg (tY_fr q_8.1) 11).trans h11)))))))))))))))))]; show nm.toInt + 8 ≤ (((mz : Int32).toInt.toNat : Nat) : Int); omega))
    refine lv_aload_n hx hb dX10_manLine_139 rfl (lv_at hl 0 rfl) ?_
    refine ti_get (ci := 10) (k := 12) (N := 67) (T := TX10) (v := .ref (A 60 13)) C hw iw_10 rfl ob_60 (by decide) (by decide) fl_X10_40 rfl rfl dX10_manLine_140 ?_
    refine lv_iload_n hx hb dX10_manLine_143 rfl (lv_at hl 1 rfl) ?_
    refine ti_iald (ci := 10) (k := 12) (n := 16) C hw ob_60 (by decide) (fun _ _ => rfl) (vp_in_iff.mpr (by omega)) dX10_manLine_144 ?_
    refine ti_top (y := 0) (((cg (tY_uE hM_157) mz.toNatClampNeg).trans (pk_us ..))) ?_
    refine lv_iconst (v := 1) hx hb dX10_manLine_145 (by decide) ?_
    refine sb_icmp_ne (tgt := 153) hx hb (by decide : (0 : Int32).toInt = 0) (by decide : (1 : Int32).toInt = 1) dX10_manLine_146 (by decide) (fun c_146_161 => ?_) (fun h => absurd h (by decide))
    refine lv_aload_n hx hb dX10_manLine_153 rfl (lv_at hl 0 rfl) ?_
    refine lv_iconst (v := 0) hx hb dX10_manLine_154 (by decide) ?_
    refine lv_aload_n hx hb dX10_manLine_155 rfl (lv_at hl 0 rfl) ?_
    refine lv_iconst (v := 0) hx hb dX10_manLine_156 (by decide) ?_
    refine ti_callVi (ci := 10) (av := [.int 0]) C hw (s_X10_fresher_0 l D A cy hJ M_157 iM_157 ) ⟨ml_X10_224, ym_X10_fresher, yv_X10_fresher, yi_X10_fresher, yc_X10_fresher⟩ yd_X10_fresher ob_60 (by decide) rfl rfl hl.1 (Nat.le_of_ble_eq_true rfl) ⟨by decide, by decide⟩ ⟨Nat.zero_le _, Nat.zero_le _⟩ dX10_manLine_157 (fun r_177 M_178 H locs hp_178 hw => ?_)
    obtain ⟨hm, b0r_177, b1r_177, yr_177⟩ := hp_178
    have hw := hw.to hm
    have sr_177 : r_177.toInt = (nm : Int32).toInt := by rw [← yr_177, ((cg (tY_nE hM_157 (nk (by decide))) 11).trans ((cg (tY_nE hM_139 (nk (by decide))) 11).trans ((cg (tY_nE hM_134 (nk (by decide))) 11).trans ((cg (tY_fr q_127.1) 11).trans ((cg (tY_nE hM_117 (nk (by decide))) 11).trans ((cg (tY_fr q_110.1) 11).trans ((cg (tY_nE hM_100 (nk (by decide))) 11).trans ((cg (tY_fr q_93.1) 11).trans ((cg (tY_nE hM_83 (nk (by decide))) 11).trans ((cg (tY_fr q_76.1) 11).trans ((cg (tY_nE hM_66 (nk (by decide))) 11).trans ((cg (tY_fr q_59.1) 11).trans ((cg (tY_nE hM_49 (nk (by decide))) 11).trans ((cg (tY_fr q_42.1) 11).trans ((cg (tY_nE hM_32 (nk (by decide))) 11).trans ((cg (tY_fr q_25.1) 11).trans ((cg (tY_nE hM_15 (nk (by decide))) 11).trans ((cg (tY_fr q_8.1) 11).trans h11))))))))))))))))))]
    have zr_177 : (tY M_157 60 3 11).toInt = r_177.toInt := by rw [yr_177]
    refine lv_iconst (v := 1) hx hb dX10_manLine_160 (by decide) ?_
    refine lv_iadd hx hb dX10_manLine_161 ?_
    refine lv_topi (fun x_179 ex_179 => ?_)
    have tx_179 : x_179.toInt = r_177.toInt + 1 := i_add ex_179 rfl (by decide : (1 : Int32).toInt = 1) (by omega) (by omega)
    refine ti_callVv (ci := 10) (av := [.int 0, .int x_179]) C hw (s_X10_reads l D A cy hJ M_157 iM_157 0 x_179 (by decide) (by decide) (by rw [show (11 + (0 : Int32).toInt).toNat = 11 by decide]; exact (ib_mk (lo := 0) (hi := 8) (by omega) (by omega)))) ⟨ml_X10_244, ym_X10_reads, yv_X10_reads, yi_X10_reads, yc_X10_reads⟩ yd_X10_reads ob_60 (by decide) rfl rfl hl.1 (Nat.le_of_ble_eq_true rfl) ⟨by decide, by decide⟩ ⟨Nat.zero_le _, Nat.zero_le _⟩ dX10_manLine_162 (fun M_181 H locs hp_181 hw => ?_)
    obtain ⟨iM_181, hM_181⟩ := hp_181
    rw [show (11 + (0 : Int32).toInt).toNat = 11 by decide] at hM_181
    have z_182 := s5_3 hM_181 (by decide)
    have E3 : pp_m3 B n (pp_m2 g1) = g_132 := by unfold pp_m3; rw [← eg_13, ← eg_30, ← eg_47, ← eg_64, ← eg_81, ← eg_98, ← eg_115, ← eg_132]
    have E4 : pp_m4 B n g_132 = g_132 := by unfold pp_m4; rw [if_neg dk_146]
    have QQ := rQ_m7 (rQ_su (r := 200 + (g_132 7).toNat) (v := -1) hs_160 (fun q => by have g7 := mh_7 hs_160 q ((cg (tY_nE hM_157 (nk (by decide))) 11).trans ((cg (tY_nE hM_139 (nk (by decide))) 11).trans ((cg (tY_nE hM_134 (nk (by decide))) 11).trans ((cg (tY_fr q_127.1) 11).trans ((cg (tY_nE hM_117 (nk (by decide))) 11).trans ((cg (tY_fr q_110.1) 11).trans ((cg (tY_nE hM_100 (nk (by decide))) 11).trans ((cg (tY_fr q_93.1) 11).trans ((cg (tY_nE hM_83 (nk (by decide))) 11).trans ((cg (tY_fr q_76.1) 11).trans ((cg (tY_nE hM_66 (nk (by decide))) 11).trans ((cg (tY_fr q_59.1) 11).trans ((cg (tY_nE hM_49 (nk (by decide))) 11).trans ((cg (tY_fr q_42.1) 11).trans ((cg (tY_nE hM_32 (nk (by decide))) 11).trans ((cg (tY_fr q_25.1) 11).trans ((cg (tY_nE hM_15 (nk (by decide))) 11).trans ((cg (tY_fr q_8.1) 11).trans h11)))))))))))))))))); omega) (Or.inr rfl)) hM_181 (fun q => by
      rw [su_n (j := 4) (by omega)] at q
      have f1 : ff M_157 = 1 := ff_1 (hs_160.2.1.symm.trans q)
      have r4 := rQ_g0 hr (show ff M = 1 by omega)
      have e7r := e7 r4
      have g7 := mh_7 hs_160 q ((cg (tY_nE hM_157 (nk (by decide))) 11).trans ((cg (tY_nE hM_139 (nk (by decide))) 11).trans ((cg (tY_nE hM_134 (nk (by decide))) 11).trans ((cg (tY_fr q_127.1) 11).trans ((cg (tY_nE hM_117 (nk (by decide))) 11).trans ((cg (tY_fr q_110.1) 11).trans ((cg (tY_nE hM_100 (nk (by decide))) 11).trans ((cg (tY_fr q_93.1) 11).trans ((cg (tY_nE hM_83 (nk (by decide))) 11).trans ((cg (tY_fr q_76.1) 11).trans ((cg (tY_nE hM_66 (nk (by decide))) 11).trans ((cg (tY_fr q_59.1) 11).trans ((cg (tY_nE hM_49 (nk (by decide))) 11).trans ((cg (tY_fr q_42.1) 11).trans ((cg (tY_nE hM_32 (nk (by decide))) 11).trans ((cg (tY_fr q_25.1) 11).trans ((cg (tY_nE hM_15 (nk (by decide))) 11).trans ((cg (tY_fr q_8.1) 11).trans h11))))))))))))))))))
      have xm := hm_6 (ff_y (by omega))
      have y4 := rb_k (s := 8 + nm.toInt.toNat) ((cg (tY_nE hM_157 (nk (by decide))) mz.toNatClampNeg).trans ((cg (tY_nE hM_139 (nk (by decide))) mz.toNatClampNeg).trans ((cg (tY_nE hM_134 (nk (by decide))) mz.toNatClampNeg).trans ((cg (tY_fr q_127.1) mz.toNatClampNeg).trans ((cg (tY_nE hM_117 (nk (by decide))) mz.toNatClampNeg).trans ((cg (tY_fr q_110.1) mz.toNatClampNeg).trans ((cg (tY_nE hM_100 (nk (by decide))) mz.toNatClampNeg).trans ((cg (tY_fr q_93.1) mz.toNatClampNeg).trans ((cg (tY_nE hM_83 (nk (by decide))) mz.toNatClampNeg).trans ((cg (tY_fr q_76.1) mz.toNatClampNeg).trans ((cg (tY_nE hM_66 (nk (by decide))) mz.toNatClampNeg).trans ((cg (tY_fr q_59.1) mz.toNatClampNeg).trans ((cg (tY_nE hM_49 (nk (by decide))) mz.toNatClampNeg).trans ((cg (tY_fr q_42.1) mz.toNatClampNeg).trans ((cg (tY_nE hM_32 (nk (by decide))) mz.toNatClampNeg).trans ((cg (tY_fr q_25.1) mz.toNatClampNeg).trans ((cg (tY_uE hM_15) mz.toNatClampNeg).trans (pk_us ..)))))))))))))))))) (by omega)
      have y13 := rb_k (s := 8 + nm.toInt.toNat) ((cg (tY_nE hM_157 (nk (by decide))) mz.toNatClampNeg).trans ((cg (tY_uE hM_139) mz.toNatClampNeg).trans (pk_us ..))) (by omega)
      have n1 : g_132 (100 + nm.toInt.toNat) = rg 1 := by rw [eg_132, nb_n (by omega), eg_115, nb_n (by omega), eg_98, nb_n (by omega), eg_81, nb_n (by omega), eg_64, nb_n (by omega), eg_47, nb_n (by omega), eg_30, nb_n (by omega), eg_13, tk_n (by omega), m2_n (by omega), eg1, show (rg 7).toNat = nm.toInt.toNat by omega, su_s]
      have n2 : g1 1 = rg 1 := by rw [eg1, su_n (by omega)]
      rw [su_n (j := 7) (by omega), su_n (j := 100 + (g_132 7).toNat) (by omega), su_s, show (g_132 7).toNat = nm.toInt.toNat by omega]
      have z0 : (0 : Int32).toInt = 0 := by decide
      exact ⟨by omega, by omega, by omega, rfl, by omega⟩)
    rw [su_n (j := 7) (by omega)] at QQ
    exact hQ _ _ _ _ _ hw (⟨(gU.trans (gU_Yx hM_181 (by decide)) (gU.trans (gU_Y hM_157 (by show 8 ≤ (mz : Int32).toInt.toNat; omega)) (gU.trans (gU_Y hM_139 (by show 8 ≤ (mz : Int32).toInt.toNat; omega)) (gU.trans (gU_Y hM_134 (by show 8 ≤ (mz : Int32).toInt.toNat; omega)) (gU.trans (gU_e q_127.1) (gU.trans (gU_Y hM_117 (by show 8 ≤ (mz : Int32).toInt.toNat; omega)) (gU.trans (gU_e q_110.1) (gU.trans (gU_Y hM_100 (by show 8 ≤ (mz : Int32).toInt.toNat; omega)) (gU.trans (gU_e q_93.1) (gU.trans (gU_Y hM_83 (by show 8 ≤ (mz : Int32).toInt.toNat; omega)) (gU.trans (gU_e q_76.1) (gU.trans (gU_Y hM_66 (by show 8 ≤ (mz : Int32).toInt.toNat; omega)) (gU.trans (gU_e q_59.1) (gU.trans (gU_Y hM_49 (by show 8 ≤ (mz : Int32).toInt.toNat; omega)) (gU.trans (gU_e q_42.1) (gU.trans (gU_Y hM_32 (by show 8 ≤ (mz : Int32).toInt.toNat; omega)) (gU.trans (gU_e q_25.1) (gU.trans (gU_Yx hM_15 (by decide)) (gU_e q_8.1))))))))))))))))))), (fun q9 => by
      have q8 : ff M_181 = 1 := ff_1 q9
      have r4 := rQ_g0 hr (show ff M = 1 by omega)
      have e7r := e7 r4
      have z : (rg 7).toNat = nm.toInt.toNat := by omega
      unfold qq_mq
      rw [← eg1, z, E3, ← eg_13]
      exact qL_mn (a := nm.toInt.toNat) tl_161 hM_181 (by rw [((cg (tY_nE hM_157 (nk (by decide))) 11).trans ((cg (tY_nE hM_139 (nk (by decide))) 11).trans ((cg (tY_nE hM_134 (nk (by decide))) 11).trans ((cg (tY_fr q_127.1) 11).trans ((cg (tY_nE hM_117 (nk (by decide))) 11).trans ((cg (tY_fr q_110.1) 11).trans ((cg (tY_nE hM_100 (nk (by decide))) 11).trans ((cg (tY_fr q_93.1) 11).trans ((cg (tY_nE hM_83 (nk (by decide))) 11).trans ((cg (tY_fr q_76.1) 11).trans ((cg (tY_nE hM_66 (nk (by decide))) 11).trans ((cg (tY_fr q_59.1) 11).trans ((cg (tY_nE hM_49 (nk (by decide))) 11).trans ((cg (tY_fr q_42.1) 11).trans ((cg (tY_nE hM_32 (nk (by decide))) 11).trans ((cg (tY_fr q_25.1) 11).trans ((cg (tY_nE hM_15 (nk (by decide))) 11).trans ((cg (tY_fr q_8.1) 11).trans h11))))))))))))))))))]; omega) (by omega) (by omega) (fun k hk => qm_o hk (by omega)) (fun q f h1 h2 => by
        have q7 := ff_1 q
        have y5 := rb_k (k := 5) (s := 8 + nm.toInt.toNat) ((cg (tY_nE hM_157 (nk (by decide))) mz.toNatClampNeg).trans ((cg (tY_nE hM_139 (nk (by decide))) mz.toNatClampNeg).trans ((cg (tY_nE hM_134 (nk (by decide))) mz.toNatClampNeg).trans ((cg (tY_fr q_127.1) mz.toNatClampNeg).trans ((cg (tY_nE hM_117 (nk (by decide))) mz.toNatClampNeg).trans ((cg (tY_fr q_110.1) mz.toNatClampNeg).trans ((cg (tY_nE hM_100 (nk (by decide))) mz.toNatClampNeg).trans ((cg (tY_fr q_93.1) mz.toNatClampNeg).trans ((cg (tY_nE hM_83 (nk (by decide))) mz.toNatClampNeg).trans ((cg (tY_fr q_76.1) mz.toNatClampNeg).trans ((cg (tY_nE hM_66 (nk (by decide))) mz.toNatClampNeg).trans ((cg (tY_fr q_59.1) mz.toNatClampNeg).trans ((cg (tY_nE hM_49 (nk (by decide))) mz.toNatClampNeg).trans ((cg (tY_fr q_42.1) mz.toNatClampNeg).trans ((cg (tY_uE hM_32) mz.toNatClampNeg).trans (pk_us ..)))))))))))))))) (by omega)
        have x5 := hm_23 (ff_y (by omega))
        have y6 := rb_k (k := 6) (s := 8 + nm.toInt.toNat) ((cg (tY_nE hM_157 (nk (by decide))) mz.toNatClampNeg).trans ((cg (tY_nE hM_139 (nk (by decide))) mz.toNatClampNeg).trans ((cg (tY_nE hM_134 (nk (by decide))) mz.toNatClampNeg).trans ((cg (tY_fr q_127.1) mz.toNatClampNeg).trans ((cg (tY_nE hM_117 (nk (by decide))) mz.toNatClampNeg).trans ((cg (tY_fr q_110.1) mz.toNatClampNeg).trans ((cg (tY_nE hM_100 (nk (by decide))) mz.toNatClampNeg).trans ((cg (tY_fr q_93.1) mz.toNatClampNeg).trans ((cg (tY_nE hM_83 (nk (by decide))) mz.toNatClampNeg).trans ((cg (tY_fr q_76.1) mz.toNatClampNeg).trans ((cg (tY_nE hM_66 (nk (by decide))) mz.toNatClampNeg).trans ((cg (tY_fr q_59.1) mz.toNatClampNeg).trans ((cg (tY_uE hM_49) mz.toNatClampNeg).trans (pk_us ..)))))))))))))) (by omega)
        have x6 := hm_40 (ff_y (by omega))
        have y7 := rb_k (k := 7) (s := 8 + nm.toInt.toNat) ((cg (tY_nE hM_157 (nk (by decide))) mz.toNatClampNeg).trans ((cg (tY_nE hM_139 (nk (by decide))) mz.toNatClampNeg).trans ((cg (tY_nE hM_134 (nk (by decide))) mz.toNatClampNeg).trans ((cg (tY_fr q_127.1) mz.toNatClampNeg).trans ((cg (tY_nE hM_117 (nk (by decide))) mz.toNatClampNeg).trans ((cg (tY_fr q_110.1) mz.toNatClampNeg).trans ((cg (tY_nE hM_100 (nk (by decide))) mz.toNatClampNeg).trans ((cg (tY_fr q_93.1) mz.toNatClampNeg).trans ((cg (tY_nE hM_83 (nk (by decide))) mz.toNatClampNeg).trans ((cg (tY_fr q_76.1) mz.toNatClampNeg).trans ((cg (tY_uE hM_66) mz.toNatClampNeg).trans (pk_us ..)))))))))))) (by omega)
        have x7 := hm_57 (ff_y (by omega))
        have y8 := rb_k (k := 8) (s := 8 + nm.toInt.toNat) ((cg (tY_nE hM_157 (nk (by decide))) mz.toNatClampNeg).trans ((cg (tY_nE hM_139 (nk (by decide))) mz.toNatClampNeg).trans ((cg (tY_nE hM_134 (nk (by decide))) mz.toNatClampNeg).trans ((cg (tY_fr q_127.1) mz.toNatClampNeg).trans ((cg (tY_nE hM_117 (nk (by decide))) mz.toNatClampNeg).trans ((cg (tY_fr q_110.1) mz.toNatClampNeg).trans ((cg (tY_nE hM_100 (nk (by decide))) mz.toNatClampNeg).trans ((cg (tY_fr q_93.1) mz.toNatClampNeg).trans ((cg (tY_uE hM_83) mz.toNatClampNeg).trans (pk_us ..)))))))))) (by omega)
        have x8 := hm_74 (ff_y (by omega))
        have y9 := rb_k (k := 9) (s := 8 + nm.toInt.toNat) ((cg (tY_nE hM_157 (nk (by decide))) mz.toNatClampNeg).trans ((cg (tY_nE hM_139 (nk (by decide))) mz.toNatClampNeg).trans ((cg (tY_nE hM_134 (nk (by decide))) mz.toNatClampNeg).trans ((cg (tY_fr q_127.1) mz.toNatClampNeg).trans ((cg (tY_nE hM_117 (nk (by decide))) mz.toNatClampNeg).trans ((cg (tY_fr q_110.1) mz.toNatClampNeg).trans ((cg (tY_uE hM_100) mz.toNatClampNeg).trans (pk_us ..)))))))) (by omega)
        have x9 := hm_91 (ff_y (by omega))
        have y10 := rb_k (k := 10) (s := 8 + nm.toInt.toNat) ((cg (tY_nE hM_157 (nk (by decide))) mz.toNatClampNeg).trans ((cg (tY_nE hM_139 (nk (by decide))) mz.toNatClampNeg).trans ((cg (tY_nE hM_134 (nk (by decide))) mz.toNatClampNeg).trans ((cg (tY_fr q_127.1) mz.toNatClampNeg).trans ((cg (tY_uE hM_117) mz.toNatClampNeg).trans (pk_us ..)))))) (by omega)
        have x10 := hm_108 (ff_y (by omega))
        have y11 := rb_k (k := 11) (s := 8 + nm.toInt.toNat) ((cg (tY_nE hM_157 (nk (by decide))) mz.toNatClampNeg).trans ((cg (tY_nE hM_139 (nk (by decide))) mz.toNatClampNeg).trans ((cg (tY_uE hM_134) mz.toNatClampNeg).trans (pk_us ..)))) (by omega)
        have x11 := hm_125 (ff_y (by omega))
        have y12 := rb_k (k := 12) (s := 8 + nm.toInt.toNat) ((cg (tY_uE hM_157) mz.toNatClampNeg).trans (pk_us ..)) (by omega)
        have z0 : (0 : Int32).toInt = 0 := by decide
        have z1 : (1 : Int32).toInt = 1 := by decide
        obtain ⟨v1, v2, v3, v4, v5, v6, v7, v8⟩ := qm_v (B := B) (n := n) (m := nm.toInt.toNat) (td := td) (g := g_132) (b := g_13) eg_30 eg_47 eg_64 eg_81 eg_98 eg_115
        rcases (show f = 1 ∨ f = 2 ∨ f = 3 ∨ f = 4 ∨ f = 5 ∨ f = 6 ∨ f = 7 ∨ f = 8 by omega) with rfl | rfl | rfl | rfl | rfl | rfl | rfl | rfl
        · rw [v1]; show _ = (tY M_157 60 5 (8 + nm.toInt.toNat)).toInt; omega
        · rw [v2]; show _ = (tY M_157 60 6 (8 + nm.toInt.toNat)).toInt; omega
        · rw [v3]; show _ = (tY M_157 60 7 (8 + nm.toInt.toNat)).toInt; omega
        · rw [v4]; show _ = (tY M_157 60 8 (8 + nm.toInt.toNat)).toInt; omega
        · rw [v5]; show _ = (tY M_157 60 9 (8 + nm.toInt.toNat)).toInt; omega
        · rw [v6]; show _ = (tY M_157 60 10 (8 + nm.toInt.toNat)).toInt; omega
        · rw [v7]; show _ = (tY M_157 60 11 (8 + nm.toInt.toNat)).toInt; omega
        · rw [v8, if_neg dk_146]; show _ = (tY M_157 60 12 (8 + nm.toInt.toNat)).toInt; omega) (fun q => by
        have q7 := ff_1 q
        have x8 := hm_74 (ff_y (by omega))
        obtain ⟨v1, v2, v3, v4, v5, v6, v7, v8⟩ := qm_v (B := B) (n := n) (m := nm.toInt.toNat) (td := td) (g := g_132) (b := g_13) eg_30 eg_47 eg_64 eg_81 eg_98 eg_115
        have y13 := rb_k (k := 13) (s := 8 + nm.toInt.toNat) ((cg (tY_nE hM_157 (nk (by decide))) mz.toNatClampNeg).trans ((cg (tY_uE hM_139) mz.toNatClampNeg).trans (pk_us ..))) (by omega)
        have z0 : (0 : Int32).toInt = 0 := by decide
        rw [v4]; omega) q9), (by unfold pp_mq; rw [← eg1, E3, E4]; unfold pp_m5; exact QQ), iM_181, (l0.trans (l0_3 hM_181 (by decide)) (l0.trans (l0_Y hM_157 (by decide)) (l0.trans (l0_Y hM_139 (by decide)) (l0.trans (l0_Y hM_134 (by decide)) (l0.trans (l0_pr q_127 (by decide) (by decide)) (l0.trans (l0_Y hM_117 (by decide)) (l0.trans (l0_pr q_110 (by decide) (by decide)) (l0.trans (l0_Y hM_100 (by decide)) (l0.trans (l0_pr q_93 (by decide) (by decide)) (l0.trans (l0_Y hM_83 (by decide)) (l0.trans (l0_pr q_76 (by decide) (by decide)) (l0.trans (l0_Y hM_66 (by decide)) (l0.trans (l0_pr q_59 (by decide) (by decide)) (l0.trans (l0_Y hM_49 (by decide)) (l0.trans (l0_pr q_42 (by decide) (by decide)) (l0.trans (l0_Y hM_32 (by decide)) (l0.trans (l0_pr q_25 (by decide) (by decide)) (l0.trans (l0_4 hM_15 (by show 8 ≤ (mz : Int32).toInt.toNat; omega)) (l0_pr q_8 (by decide) (by decide)))))))))))))))))))), (by omega), (by omega), (by omega), (by omega), (by omega), (by omega)⟩) dX10_manLine_165
set_option maxHeartbeats 4000000 in
set_option maxRecDepth 100000 in
theorem x_X10_guardLine (l : Launch) (D : va_G) (A : Nat → Nat → Nat) (cy : Nat → ClassId) (hJ : ti_inj ti_LM A) (M : ti_M) (hI : mI Tm M)  (B : Nat → Int) (n : Nat) (rg : Nat → Int) (hr : rQ B n rg M) (td : Nat → Int) (hql : qL td M) : ti_KvE l yX10_guardLine cX10_guardLine 3 7 ti_LM D A cy M [.ref (A 60 0)] (fun M2 => gU M2 M ∧ qL (td) M2 ∧ rQ B n (pp_gq B n rg) M2 ∧ mI Tm M2 ∧ l0 M2 M ∧ (pg M ≤ pg M2) ∧ (0 ≤ ff M2) ∧ (ff M2 ≤ ff M) ∧ ((tI M2 60 29).toInt = (tI M 60 29).toInt) ∧ ((tI M2 60 30).toInt = (tI M 60 30).toInt) ∧ ((tY M2 60 3 18).toInt = (tY M 60 3 18).toInt)) := by
  refine ti_eVE yp_X10_guardLine hJ ti_LM_nd (Nat.le_of_ble_eq_true rfl) ?_
  intro p e s m args below meth c Q H0 C hE hQ hw ls hl
  have hx := C.1
  have hb := C.2.1
  have hl : lv_has ls 3 [(0, .ref (A 60 0))] := hl
  have hI30 := b30 hI
  have hI29 := b29 hI
  have hI18 := b18 hI
  have hIff := ff_b M
  refine lv_aload_n hx hb dX10_guardLine_0 rfl (lv_at hl 0 rfl) ?_
  refine ti_callVi (ci := 10) (av := []) C hw (x_X10_manAtHand l D A cy hJ M hI  B n rg hr) ⟨ml_X10_264, ym_X10_manAtHand, yv_X10_manAtHand, yi_X10_manAtHand, yc_X10_manAtHand⟩ yd_X10_manAtHand ob_60 (by decide) rfl rfl hl.1 (Nat.le_of_ble_eq_true rfl) ⟨by decide, by decide⟩ ⟨Nat.zero_le _, Nat.zero_le _⟩ dX10_guardLine_1 (fun r_1 M_2 H locs hp_2 hw => ?_)
  obtain ⟨hs_3, hm_4, hp_5⟩ := hp_2
  obtain ⟨iM_2, q_6, p_7, p_8, p_9, b0r_1, b1r_1⟩ := hp_5
  have z_10 := l_ps (by decide) (by decide) ⟨iM_2, q_6, p_7, p_8, p_9⟩
  clear p_7 p_8 p_9
  obtain ⟨g_11, eg_11⟩ : ∃ z : Nat → Int, z = pp_tm rg := ⟨_, rfl⟩
  rw [← eg_11] at hs_3
  have tl_12 : qL td M_2 := qL_fr hql q_6.1 (q_6.2 18 (by decide)) (q_6.2 30 (by decide)) (by omega)
  refine lv_istore_n (lv' := [(1, .int r_1), (0, .ref (A 60 0))]) hx hb dX10_guardLine_4 rfl hl (by decide) rfl (fun ls hl => ?_)
  refine lv_aload_n hx hb dX10_guardLine_5 rfl (lv_at hl 1 rfl) ?_
  refine ti_get (ci := 10) (k := 25) (N := 67) (T := TX10) C hw iw_10 rfl ob_60 (by decide) (by decide) fl_X10_208 rfl rfl dX10_guardLine_6 ?_
  refine lv_topi (fun x_13 ex_13 => ?_)
  have u_14 : (tI M_2 60 25).toInt = x_13.toInt := by rw [ex_13]
  have ufx_13 : (tI M_2 60 25).toInt = x_13.toInt := by rw [ex_13]
  refine sb_if_ne (tgt := 29) hx hb rfl dX10_guardLine_9 (by decide) (fun c_9_14 => ?_) (fun c_9_14 => ?_)
  · have z_16 : ff M_2 = 0 := ff_0 (fun h => c_9_14 (ufx_13.symm.trans h))
    clear c_9_14
    refine lv_aload_n hx hb dX10_guardLine_29 rfl (lv_at hl 1 rfl) ?_
    refine ti_callVvE (ci := 10) (av := []) C hE hw (x_X10_goOn l D A cy hJ M_2 iM_2  B n g_11 hs_3) ⟨ml_X10_267, ym_X10_goOn, yv_X10_goOn, yi_X10_goOn, yc_X10_goOn⟩ yd_X10_goOn ob_60 (by decide) rfl rfl hl.1 (Nat.le_of_ble_eq_true rfl) ⟨by decide, by decide⟩ ⟨Nat.zero_le _, Nat.zero_le _⟩ dX10_guardLine_30 (fun M_33 H locs hp_33 hw => ?_)
    obtain ⟨hs_34, hp_35⟩ := hp_33
    obtain ⟨iM_33, q_36, z_37, z_38, z_39, z_40, z_41⟩ := l_go hp_35
    clear hp_35
    obtain ⟨g_42, eg_42⟩ : ∃ z : Nat → Int, z = pp_go B n g_11 := ⟨_, rfl⟩
    rw [← eg_42] at hs_34
    have tl_43 : qL td M_33 := qL_fr tl_12 q_36.1 (q_36.2 18 (by decide)) (q_36.2 30 (by decide)) (by omega)
    refine lv_aload_n hx hb dX10_guardLine_33 rfl (lv_at hl 1 rfl) ?_
    refine ti_callVi (ci := 10) (av := []) C hw (x_X10_manAtHand l D A cy hJ M_33 iM_33  B n g_42 hs_34) ⟨ml_X10_264, ym_X10_manAtHand, yv_X10_manAtHand, yi_X10_manAtHand, yc_X10_manAtHand⟩ yd_X10_manAtHand ob_60 (by decide) rfl rfl hl.1 (Nat.le_of_ble_eq_true rfl) ⟨by decide, by decide⟩ ⟨Nat.zero_le _, Nat.zero_le _⟩ dX10_guardLine_34 (fun r_44 M_45 H locs hp_45 hw => ?_)
    obtain ⟨hs_46, hm_47, hp_48⟩ := hp_45
    obtain ⟨iM_45, q_49, p_50, p_51, p_52, b0r_44, b1r_44⟩ := hp_48
    have z_53 := l_ps (by decide) (by decide) ⟨iM_45, q_49, p_50, p_51, p_52⟩
    clear p_50 p_51 p_52
    obtain ⟨g_54, eg_54⟩ : ∃ z : Nat → Int, z = pp_tm g_42 := ⟨_, rfl⟩
    rw [← eg_54] at hs_46
    have tl_55 : qL td M_45 := qL_fr tl_43 q_49.1 (q_49.2 18 (by decide)) (q_49.2 30 (by decide)) (by omega)
    refine lv_istore_n (lv' := [(2, .int r_44), (1, .int r_1), (0, .ref (A 60 0))]) hx hb dX10_guardLine_37 rfl hl (by decide) rfl (fun ls hl => ?_)
    refine lv_aload_n hx hb dX10_guardLine_38 rfl (lv_at hl 2 rfl) ?_
    refine ti_get (ci := 10) (k := 25) (N := 67) (T := TX10) C hw iw_10 rfl ob_60 (by decide) (by decide) fl_X10_208 rfl rfl dX10_guardLine_39 ?_
    refine lv_topi (fun x_56 ex_56 => ?_)
    have u_57 : (tI M_45 60 25).toInt = x_56.toInt := by rw [ex_56]
    have ufx_56 : (tI M_45 60 25).toInt = x_56.toInt := by rw [ex_56]
    refine sb_if_ne (tgt := 55) hx hb rfl dX10_guardLine_42 (by decide) (fun c_42_57 => ?_) (fun c_42_57 => ?_)
    · have z_59 : ff M_45 = 0 := ff_0 (fun h => c_42_57 (ufx_56.symm.trans h))
      clear c_42_57
      refine lv_aload_n hx hb dX10_guardLine_55 rfl (lv_at hl 2 rfl) ?_
      refine ti_get (ci := 10) (k := 25) (N := 67) (T := TX10) C hw iw_10 rfl ob_60 (by decide) (by decide) fl_X10_208 rfl rfl dX10_guardLine_56 ?_
      refine ti_top (y := x_56) (ex_56.symm) ?_
      refine sb_if_eq (tgt := 63) hx hb rfl dX10_guardLine_59 (by decide) (fun c_59_154 => by have z_156 : ff M_45 = 1 := ff_1 (ufx_56.trans c_59_154); omega) (fun c_59_154 => ?_)
      have z_156 : ff M_45 = 0 := ff_0 (fun h => c_59_154 (ufx_56.symm.trans h))
      clear c_59_154
      exact hQ _ _ _ _ _ hw (⟨(gU.trans (gU_e q_49.1) (gU.trans (gU_e q_36.1) (gU_e q_6.1))), tl_55, (rQ_f hs_46 (rQ_g1 hs_46 (by omega)) (gq_1 (by rw [← eg_11]; exact (rQ_z hs_3 (rQ_g1 hs_3 (by omega)))) (by rw [← eg_11]; exact (show fk g_54 g_11 by rw [eg_54]; exact (tm_f ((show fk g_42 g_11 by rw [eg_42, go_f ((fk.refl (rQ_z hs_3 (rQ_g1 hs_3 (by omega)))).zz (rQ_z hs_3 (rQ_g1 hs_3 (by omega)))).1]; exact (fk.refl (rQ_z hs_3 (rQ_g1 hs_3 (by omega))))).zz (rQ_z hs_3 (rQ_g1 hs_3 (by omega))))).trans (show fk g_42 g_11 by rw [eg_42, go_f ((fk.refl (rQ_z hs_3 (rQ_g1 hs_3 (by omega)))).zz (rQ_z hs_3 (rQ_g1 hs_3 (by omega)))).1]; exact (fk.refl (rQ_z hs_3 (rQ_g1 hs_3 (by omega))))))))), iM_45, (l0.trans (l0_pr q_49 (by decide) (by decide)) (l0.trans (l0_pr q_36 (by decide) (by decide)) (l0_pr q_6 (by decide) (by decide)))), (by omega), (by omega), (by omega), (by omega), (by omega), (by omega)⟩) dX10_guardLine_62
    · have z_59 : ff M_45 = 1 := ff_1 (ufx_56.trans c_42_57)
      clear c_42_57
      refine lv_iload_n hx hb dX10_guardLine_45 rfl (lv_at hl 1 rfl) ?_
      refine lv_iload_n hx hb dX10_guardLine_46 rfl (lv_at hl 0 rfl) ?_
      refine sb_icmp_ne (tgt := 55) hx hb rfl rfl dX10_guardLine_47 (by decide) (fun c_47_115 => ?_) (fun c_47_115 => ?_)
      · refine lv_aload_n hx hb dX10_guardLine_55 rfl (lv_at hl 2 rfl) ?_
        refine ti_get (ci := 10) (k := 25) (N := 67) (T := TX10) C hw iw_10 rfl ob_60 (by decide) (by decide) fl_X10_208 rfl rfl dX10_guardLine_56 ?_
        refine ti_top (y := x_56) (ex_56.symm) ?_
        refine sb_if_eq (tgt := 63) hx hb rfl dX10_guardLine_59 (by decide) (fun c_59_160 => ?_) (fun c_59_160 => by have z_162 : ff M_45 = 0 := ff_0 (fun h => c_59_160 (ufx_56.symm.trans h)); omega)
        have z_162 : ff M_45 = 1 := ff_1 (ufx_56.trans c_59_160)
        clear c_59_160
        refine lv_aload_n hx hb dX10_guardLine_63 rfl (lv_at hl 2 rfl) ?_
        refine ti_get (ci := 10) (k := 13) (N := 67) (T := TX10) (v := .ref (A 60 14)) C hw iw_10 rfl ob_60 (by decide) (by decide) fl_X10_43 rfl rfl dX10_guardLine_64 ?_
        refine lv_bipush (v := 8) hx hb dX10_guardLine_67 (by decide) ?_
        refine lv_iload_n hx hb dX10_guardLine_69 rfl (lv_at hl 1 rfl) ?_
        refine lv_iadd hx hb dX10_guardLine_70 ?_
        refine lv_topi (fun x_179 ex_179 => ?_)
        have tx_179 : x_179.toInt = 8 + r_1.toInt := i_add ex_179 (by decide : (8 : Int32).toInt = 8) rfl (by omega) (by omega)
        refine lv_iload_n hx hb dX10_guardLine_71 rfl (lv_at hl 0 rfl) ?_
        refine lv_iconst (v := 1) hx hb dX10_guardLine_72 (by decide) ?_
        refine lv_iadd hx hb dX10_guardLine_73 ?_
        refine lv_topi (fun x_180 ex_180 => ?_)
        have tx_180 : x_180.toInt = r_44.toInt + 1 := i_add ex_180 rfl (by decide : (1 : Int32).toInt = 1) (by omega) (by omega)
        refine ti_iast (ci := 10) (k := 13) (n := 16) C hw ob_60 (by decide) (fun _ _ => rfl) (vp_in_iff.mpr (by omega)) dX10_guardLine_74 (fun H locs hw => ?_)
        obtain ⟨M_181, hM_181⟩ : ∃ z : ti_M, z = uY M_45 60 13 (upd (tY M_45 60 13) (x_179 : Int32).toNatClampNeg x_180) := ⟨_, rfl⟩
        have hw := hw.to hM_181.symm
        have iM_181 : mI Tm M_181 := mI_up (i := x_179.toNatClampNeg) iM_45 hM_181 trivial
        have z_182 := s5_Y hM_181 (by decide)
        have hs_184 := rQ_13 (a0 := r_1.toInt.toNat) (b0 := r_44.toInt) hs_46 hM_181 (by show (x_179 : Int32).toInt.toNat = _; omega) (by omega) (by omega) (by omega)
        obtain ⟨g_185, eg_185⟩ : ∃ z : Nat → Int, z = pp_su g_54 (200 + r_1.toInt.toNat) r_44.toInt := ⟨_, rfl⟩
        rw [← eg_185] at hs_184
        have tl_186 : qL td M_181 := qL_m tl_55 hM_181 (by decide) (Or.inl ⟨rfl, by omega⟩)
        refine lv_aload_n hx hb dX10_guardLine_75 rfl (lv_at hl 2 rfl) ?_
        refine ti_callVvE (ci := 10) (av := []) C hE hw (x_X10_token l D A cy hJ M_181 iM_181 ) ⟨ml_X10_214, ym_X10_token, yv_X10_token, yi_X10_token, yc_X10_token⟩ yd_X10_token ob_60 (by decide) rfl rfl hl.1 (Nat.le_of_ble_eq_true rfl) ⟨by decide, by decide⟩ ⟨Nat.zero_le _, Nat.zero_le _⟩ dX10_guardLine_76 (fun M_188 H locs hp_188 hw => ?_)
        obtain ⟨iM_188, q_191, z_189, z_190, k2M_188, k3M_188, k4M_188⟩ := hp_188
        have hs_192 := rQ_av hs_184 (rQ_g0 hs_184 (by omega)) (iM_181.1 21).1 q_191 k2M_188 k3M_188 k4M_188
        obtain ⟨-, -, z_193, z_194, z_195, z_196, z_197, z_198⟩ := l_tk ⟨iM_188, q_191, z_189, z_190⟩
        clear z_189 z_190 k2M_188 k3M_188 k4M_188
        obtain ⟨g_199, eg_199⟩ : ∃ z : Nat → Int, z = pp_av B n g_185 := ⟨_, rfl⟩
        rw [← eg_199] at hs_192
        have tl_200 : qL td M_188 := qL_fr tl_186 q_191.1 (q_191.2 18 (by decide)) (q_191.2 30 (by decide)) (by omega)
        exact hQ _ _ _ _ _ hw (⟨(gU.trans (gU_e q_191.1) (gU.trans (gU_Y hM_181 (by show 8 ≤ (x_179 : Int32).toInt.toNat; omega)) (gU.trans (gU_e q_49.1) (gU.trans (gU_e q_36.1) (gU_e q_6.1))))), tl_200, (by exfalso; omega), iM_188, (l0.trans (l0_pr q_191 (by decide) (by decide)) (l0.trans (l0_Y hM_181 (by decide)) (l0.trans (l0_pr q_49 (by decide) (by decide)) (l0.trans (l0_pr q_36 (by decide) (by decide)) (l0_pr q_6 (by decide) (by decide)))))), (by omega), (by omega), (by omega), (by omega), (by omega), (by omega)⟩) dX10_guardLine_79
      · refine lv_aload_n hx hb dX10_guardLine_50 rfl (lv_at hl 2 rfl) ?_
        refine lv_iconst (v := 5) hx hb dX10_guardLine_51 (by decide) ?_
        refine ti_callVv (ci := 10) (av := [.int 5]) C hw (x_X10_wrong l D A cy hJ M_45 iM_45 5 (by decide) B n g_54 hs_46) ⟨ml_X10_217, ym_X10_wrong, yv_X10_wrong, yi_X10_wrong, yc_X10_wrong⟩ yd_X10_wrong ob_60 (by decide) rfl rfl hl.1 (Nat.le_of_ble_eq_true rfl) ⟨by decide, by decide⟩ ⟨Nat.zero_le _, Nat.zero_le _⟩ dX10_guardLine_52 (fun M_120 H locs hp_120 hw => ?_)
        rw [show (5 : Int32).toInt = 5 by decide] at hp_120
        obtain ⟨hs_121, hp_122⟩ := hp_120
        obtain ⟨iM_120, q_123, z_124, z_125, z_126, z_127, z_128⟩ := l_wr hp_122
        clear hp_122
        obtain ⟨g_129, eg_129⟩ : ∃ z : Nat → Int, z = pp_rf 5 g_54 := ⟨_, rfl⟩
        rw [← eg_129] at hs_121
        have tl_130 : qL td M_120 := qL_fr tl_55 q_123.1 (q_123.2 18 (by decide)) (q_123.2 30 (by decide)) (by omega)
        refine lv_aload_n hx hb dX10_guardLine_55 rfl (lv_at hl 2 rfl) ?_
        refine ti_get (ci := 10) (k := 25) (N := 67) (T := TX10) C hw iw_10 rfl ob_60 (by decide) (by decide) fl_X10_208 rfl rfl dX10_guardLine_56 ?_
        refine lv_topi (fun x_167 ex_167 => ?_)
        have u_168 : (tI M_120 60 25).toInt = x_167.toInt := by rw [ex_167]
        have ufx_167 : (tI M_120 60 25).toInt = x_167.toInt := by rw [ex_167]
        refine sb_if_eq (tgt := 63) hx hb rfl dX10_guardLine_59 (by decide) (fun c_59_168 => by have z_170 : ff M_120 = 1 := ff_1 (ufx_167.trans c_59_168); omega) (fun c_59_168 => ?_)
        have z_170 : ff M_120 = 0 := ff_0 (fun h => c_59_168 (ufx_167.symm.trans h))
        clear c_59_168
        exact hQ _ _ _ _ _ hw (⟨(gU.trans (gU_e q_123.1) (gU.trans (gU_e q_49.1) (gU.trans (gU_e q_36.1) (gU_e q_6.1)))), tl_130, (by exfalso; omega), iM_120, (l0.trans (l0_pr q_123 (by decide) (by decide)) (l0.trans (l0_pr q_49 (by decide) (by decide)) (l0.trans (l0_pr q_36 (by decide) (by decide)) (l0_pr q_6 (by decide) (by decide))))), (by omega), (by omega), (by omega), (by omega), (by omega), (by omega)⟩) dX10_guardLine_62
  · have z_16 : ff M_2 = 1 := ff_1 (ufx_13.trans c_9_14)
    clear c_9_14
    refine lv_aload_n hx hb dX10_guardLine_12 rfl (lv_at hl 1 rfl) ?_
    refine ti_get (ci := 10) (k := 13) (N := 67) (T := TX10) (v := .ref (A 60 14)) C hw iw_10 rfl ob_60 (by decide) (by decide) fl_X10_43 rfl rfl dX10_guardLine_13 ?_
    refine lv_bipush (v := 8) hx hb dX10_guardLine_16 (by decide) ?_
    refine lv_iload_n hx hb dX10_guardLine_18 rfl (lv_at hl 0 rfl) ?_
    refine lv_iadd hx hb dX10_guardLine_19 ?_
    refine lv_topi (fun x_17 ex_17 => ?_)
    have tx_17 : x_17.toInt = 8 + r_1.toInt := i_add ex_17 (by decide : (8 : Int32).toInt = 8) rfl (by omega) (by omega)
    refine ti_iald (ci := 10) (k := 13) (n := 16) C hw ob_60 (by decide) (fun _ _ => rfl) (vp_in_iff.mpr (by omega)) dX10_guardLine_20 ?_
    refine lv_topi (fun x_18 ex_18 => ?_)
    have yx_18 : tY M_2 60 13 x_17.toNatClampNeg = x_18 := (ex_18.symm)
    have wx_18 : tY M 60 13 x_17.toNatClampNeg = x_18 := ((cg (tY_fr q_6.1) x_17.toNatClampNeg)).symm.trans yx_18
    have r4 := rQ_g0 hs_3 (show ff M_2 = 1 by omega)
    have ta := tm_a (by rw [← eg_11]; exact r4)
    have tv1 : pp_tv rg = r_1.toInt := (hm_4 (ff_y (by omega))).symm
    have fd := pp_fdb (s := rg) (v := rg 1) (i := 0)
    have yk := rb_k (k := 13) (s := 8 + r_1.toInt.toNat) yx_18 (by omega)
    have gr : g_11 = rg := by rw [eg_11]; exact ta.2.1
    have g7 := (hr.2.2.2 (by rw [← gr]; exact r4)).2.2.1.1
    have gg := rQ_g200 (i := r_1.toInt.toNat) hs_3 r4 (by omega) (by rw [gr]; omega)
    refine sb_if_le (tgt := 29) hx hb rfl dX10_guardLine_21 (by decide) (fun c_21_18 => ?_) (fun c_21_18 => ?_)
    · have gu : g_11 (200 + r_1.toInt.toNat) = -1 := by omega
      refine lv_aload_n hx hb dX10_guardLine_29 rfl (lv_at hl 1 rfl) ?_
      refine ti_callVvE (ci := 10) (av := []) C hE hw (x_X10_goOn l D A cy hJ M_2 iM_2  B n g_11 hs_3) ⟨ml_X10_267, ym_X10_goOn, yv_X10_goOn, yi_X10_goOn, yc_X10_goOn⟩ yd_X10_goOn ob_60 (by decide) rfl rfl hl.1 (Nat.le_of_ble_eq_true rfl) ⟨by decide, by decide⟩ ⟨Nat.zero_le _, Nat.zero_le _⟩ dX10_guardLine_30 (fun M_61 H locs hp_61 hw => ?_)
      obtain ⟨hs_62, hp_63⟩ := hp_61
      obtain ⟨iM_61, q_64, z_65, z_66, z_67, z_68, z_69⟩ := l_go hp_63
      clear hp_63
      obtain ⟨g_70, eg_70⟩ : ∃ z : Nat → Int, z = pp_go B n g_11 := ⟨_, rfl⟩
      rw [← eg_70] at hs_62
      have tl_71 : qL td M_61 := qL_fr tl_12 q_64.1 (q_64.2 18 (by decide)) (q_64.2 30 (by decide)) (by omega)
      refine lv_aload_n hx hb dX10_guardLine_33 rfl (lv_at hl 1 rfl) ?_
      refine ti_callVi (ci := 10) (av := []) C hw (x_X10_manAtHand l D A cy hJ M_61 iM_61  B n g_70 hs_62) ⟨ml_X10_264, ym_X10_manAtHand, yv_X10_manAtHand, yi_X10_manAtHand, yc_X10_manAtHand⟩ yd_X10_manAtHand ob_60 (by decide) rfl rfl hl.1 (Nat.le_of_ble_eq_true rfl) ⟨by decide, by decide⟩ ⟨Nat.zero_le _, Nat.zero_le _⟩ dX10_guardLine_34 (fun r_72 M_73 H locs hp_73 hw => ?_)
      obtain ⟨hs_74, hm_75, hp_76⟩ := hp_73
      obtain ⟨iM_73, q_77, p_78, p_79, p_80, b0r_72, b1r_72⟩ := hp_76
      have z_81 := l_ps (by decide) (by decide) ⟨iM_73, q_77, p_78, p_79, p_80⟩
      clear p_78 p_79 p_80
      obtain ⟨g_82, eg_82⟩ : ∃ z : Nat → Int, z = pp_tm g_70 := ⟨_, rfl⟩
      rw [← eg_82] at hs_74
      have tl_83 : qL td M_73 := qL_fr tl_71 q_77.1 (q_77.2 18 (by decide)) (q_77.2 30 (by decide)) (by omega)
      refine lv_istore_n (lv' := [(2, .int r_72), (1, .int r_1), (0, .ref (A 60 0))]) hx hb dX10_guardLine_37 rfl hl (by decide) rfl (fun ls hl => ?_)
      refine lv_aload_n hx hb dX10_guardLine_38 rfl (lv_at hl 2 rfl) ?_
      refine ti_get (ci := 10) (k := 25) (N := 67) (T := TX10) C hw iw_10 rfl ob_60 (by decide) (by decide) fl_X10_208 rfl rfl dX10_guardLine_39 ?_
      refine lv_topi (fun x_84 ex_84 => ?_)
      have u_85 : (tI M_73 60 25).toInt = x_84.toInt := by rw [ex_84]
      have ufx_84 : (tI M_73 60 25).toInt = x_84.toInt := by rw [ex_84]
      refine sb_if_ne (tgt := 55) hx hb rfl dX10_guardLine_42 (by decide) (fun c_42_85 => ?_) (fun c_42_85 => ?_)
      · have z_87 : ff M_73 = 0 := ff_0 (fun h => c_42_85 (ufx_84.symm.trans h))
        clear c_42_85
        refine lv_aload_n hx hb dX10_guardLine_55 rfl (lv_at hl 2 rfl) ?_
        refine ti_get (ci := 10) (k := 25) (N := 67) (T := TX10) C hw iw_10 rfl ob_60 (by decide) (by decide) fl_X10_208 rfl rfl dX10_guardLine_56 ?_
        refine ti_top (y := x_84) (ex_84.symm) ?_
        refine sb_if_eq (tgt := 63) hx hb rfl dX10_guardLine_59 (by decide) (fun c_59_156 => by have z_158 : ff M_73 = 1 := ff_1 (ufx_84.trans c_59_156); omega) (fun c_59_156 => ?_)
        have z_158 : ff M_73 = 0 := ff_0 (fun h => c_59_156 (ufx_84.symm.trans h))
        clear c_59_156
        exact hQ _ _ _ _ _ hw (⟨(gU.trans (gU_e q_77.1) (gU.trans (gU_e q_64.1) (gU_e q_6.1))), tl_83, (by have t1 : pp_tv rg = r_1.toInt := (hm_4 (ff_y (by omega))).symm; exact rQ_f hs_74 (rQ_g1 hs_74 (by omega)) (gq_3 (by rw [← eg_11]; exact rQ_g0 hs_3 (by omega)) (by rw [← eg_11, t1]; exact gu) (by rw [← eg_11, ← eg_70, ← eg_82]; exact (rQ_z hs_74 (rQ_g1 hs_74 (by omega)))) (by rw [← eg_11, ← eg_70, ← eg_82]; exact (fk.refl (rQ_z hs_74 (rQ_g1 hs_74 (by omega))))))), iM_73, (l0.trans (l0_pr q_77 (by decide) (by decide)) (l0.trans (l0_pr q_64 (by decide) (by decide)) (l0_pr q_6 (by decide) (by decide)))), (by omega), (by omega), (by omega), (by omega), (by omega), (by omega)⟩) dX10_guardLine_62
      · have z_87 : ff M_73 = 1 := ff_1 (ufx_84.trans c_42_85)
        clear c_42_85
        refine lv_iload_n hx hb dX10_guardLine_45 rfl (lv_at hl 1 rfl) ?_
        refine lv_iload_n hx hb dX10_guardLine_46 rfl (lv_at hl 0 rfl) ?_
        refine sb_icmp_ne (tgt := 55) hx hb rfl rfl dX10_guardLine_47 (by decide) (fun c_47_116 => ?_) (fun c_47_116 => ?_)
        · refine lv_aload_n hx hb dX10_guardLine_55 rfl (lv_at hl 2 rfl) ?_
          refine ti_get (ci := 10) (k := 25) (N := 67) (T := TX10) C hw iw_10 rfl ob_60 (by decide) (by decide) fl_X10_208 rfl rfl dX10_guardLine_56 ?_
          refine ti_top (y := x_84) (ex_84.symm) ?_
          refine sb_if_eq (tgt := 63) hx hb rfl dX10_guardLine_59 (by decide) (fun c_59_162 => ?_) (fun c_59_162 => by have z_164 : ff M_73 = 0 := ff_0 (fun h => c_59_162 (ufx_84.symm.trans h)); omega)
          have z_164 : ff M_73 = 1 := ff_1 (ufx_84.trans c_59_162)
          clear c_59_162
          refine lv_aload_n hx hb dX10_guardLine_63 rfl (lv_at hl 2 rfl) ?_
          refine ti_get (ci := 10) (k := 13) (N := 67) (T := TX10) (v := .ref (A 60 14)) C hw iw_10 rfl ob_60 (by decide) (by decide) fl_X10_43 rfl rfl dX10_guardLine_64 ?_
          refine lv_bipush (v := 8) hx hb dX10_guardLine_67 (by decide) ?_
          refine lv_iload_n hx hb dX10_guardLine_69 rfl (lv_at hl 1 rfl) ?_
          refine lv_iadd hx hb dX10_guardLine_70 ?_
          refine lv_topi (fun x_201 ex_201 => ?_)
          have tx_201 : x_201.toInt = 8 + r_1.toInt := i_add ex_201 (by decide : (8 : Int32).toInt = 8) rfl (by omega) (by omega)
          refine lv_iload_n hx hb dX10_guardLine_71 rfl (lv_at hl 0 rfl) ?_
          refine lv_iconst (v := 1) hx hb dX10_guardLine_72 (by decide) ?_
          refine lv_iadd hx hb dX10_guardLine_73 ?_
          refine lv_topi (fun x_202 ex_202 => ?_)
          have tx_202 : x_202.toInt = r_72.toInt + 1 := i_add ex_202 rfl (by decide : (1 : Int32).toInt = 1) (by omega) (by omega)
          refine ti_iast (ci := 10) (k := 13) (n := 16) C hw ob_60 (by decide) (fun _ _ => rfl) (vp_in_iff.mpr (by omega)) dX10_guardLine_74 (fun H locs hw => ?_)
          obtain ⟨M_203, hM_203⟩ : ∃ z : ti_M, z = uY M_73 60 13 (upd (tY M_73 60 13) (x_201 : Int32).toNatClampNeg x_202) := ⟨_, rfl⟩
          have hw := hw.to hM_203.symm
          have iM_203 : mI Tm M_203 := mI_up (i := x_201.toNatClampNeg) iM_73 hM_203 trivial
          have z_204 := s5_Y hM_203 (by decide)
          have hs_206 := rQ_13 (a0 := r_1.toInt.toNat) (b0 := r_72.toInt) hs_74 hM_203 (by show (x_201 : Int32).toInt.toNat = _; omega) (by omega) (by omega) (by omega)
          obtain ⟨g_207, eg_207⟩ : ∃ z : Nat → Int, z = pp_su g_82 (200 + r_1.toInt.toNat) r_72.toInt := ⟨_, rfl⟩
          rw [← eg_207] at hs_206
          have tl_208 : qL td M_203 := qL_m tl_83 hM_203 (by decide) (Or.inl ⟨rfl, by omega⟩)
          refine lv_aload_n hx hb dX10_guardLine_75 rfl (lv_at hl 2 rfl) ?_
          refine ti_callVvE (ci := 10) (av := []) C hE hw (x_X10_token l D A cy hJ M_203 iM_203 ) ⟨ml_X10_214, ym_X10_token, yv_X10_token, yi_X10_token, yc_X10_token⟩ yd_X10_token ob_60 (by decide) rfl rfl hl.1 (Nat.le_of_ble_eq_true rfl) ⟨by decide, by decide⟩ ⟨Nat.zero_le _, Nat.zero_le _⟩ dX10_guardLine_76 (fun M_210 H locs hp_210 hw => ?_)
          obtain ⟨iM_210, q_213, z_211, z_212, k2M_210, k3M_210, k4M_210⟩ := hp_210
          have hs_214 := rQ_av hs_206 (rQ_g0 hs_206 (by omega)) (iM_203.1 21).1 q_213 k2M_210 k3M_210 k4M_210
          obtain ⟨-, -, z_215, z_216, z_217, z_218, z_219, z_220⟩ := l_tk ⟨iM_210, q_213, z_211, z_212⟩
          clear z_211 z_212 k2M_210 k3M_210 k4M_210
          obtain ⟨g_221, eg_221⟩ : ∃ z : Nat → Int, z = pp_av B n g_207 := ⟨_, rfl⟩
          rw [← eg_221] at hs_214
          have tl_222 : qL td M_210 := qL_fr tl_208 q_213.1 (q_213.2 18 (by decide)) (q_213.2 30 (by decide)) (by omega)
          exact hQ _ _ _ _ _ hw (⟨(gU.trans (gU_e q_213.1) (gU.trans (gU_Y hM_203 (by show 8 ≤ (x_201 : Int32).toInt.toNat; omega)) (gU.trans (gU_e q_77.1) (gU.trans (gU_e q_64.1) (gU_e q_6.1))))), tl_222, (by have t1 : pp_tv rg = r_1.toInt := (hm_4 (ff_y (by omega))).symm; have t2 : pp_tv g_70 = r_72.toInt := (hm_75 (ff_y (by omega))).symm; rw [gq_5 (by rw [← eg_11]; exact rQ_g0 hs_3 (by omega)) (by rw [← eg_11, t1]; exact gu) (by rw [← eg_11, ← eg_70, ← eg_82]; exact rQ_g0 hs_74 (by omega)) (by rw [← eg_11, ← eg_70, t2, t1]; omega), ← eg_11, ← eg_70, ← eg_82, t1, t2, ← eg_207, ← eg_221]; exact hs_214), iM_210, (l0.trans (l0_pr q_213 (by decide) (by decide)) (l0.trans (l0_Y hM_203 (by decide)) (l0.trans (l0_pr q_77 (by decide) (by decide)) (l0.trans (l0_pr q_64 (by decide) (by decide)) (l0_pr q_6 (by decide) (by decide)))))), (by omega), (by omega), (by omega), (by omega), (by omega), (by omega)⟩) dX10_guardLine_79
        · refine lv_aload_n hx hb dX10_guardLine_50 rfl (lv_at hl 2 rfl) ?_
          refine lv_iconst (v := 5) hx hb dX10_guardLine_51 (by decide) ?_
          refine ti_callVv (ci := 10) (av := [.int 5]) C hw (x_X10_wrong l D A cy hJ M_73 iM_73 5 (by decide) B n g_82 hs_74) ⟨ml_X10_217, ym_X10_wrong, yv_X10_wrong, yi_X10_wrong, yc_X10_wrong⟩ yd_X10_wrong ob_60 (by decide) rfl rfl hl.1 (Nat.le_of_ble_eq_true rfl) ⟨by decide, by decide⟩ ⟨Nat.zero_le _, Nat.zero_le _⟩ dX10_guardLine_52 (fun M_132 H locs hp_132 hw => ?_)
          rw [show (5 : Int32).toInt = 5 by decide] at hp_132
          obtain ⟨hs_133, hp_134⟩ := hp_132
          obtain ⟨iM_132, q_135, z_136, z_137, z_138, z_139, z_140⟩ := l_wr hp_134
          clear hp_134
          obtain ⟨g_141, eg_141⟩ : ∃ z : Nat → Int, z = pp_rf 5 g_82 := ⟨_, rfl⟩
          rw [← eg_141] at hs_133
          have tl_142 : qL td M_132 := qL_fr tl_83 q_135.1 (q_135.2 18 (by decide)) (q_135.2 30 (by decide)) (by omega)
          refine lv_aload_n hx hb dX10_guardLine_55 rfl (lv_at hl 2 rfl) ?_
          refine ti_get (ci := 10) (k := 25) (N := 67) (T := TX10) C hw iw_10 rfl ob_60 (by decide) (by decide) fl_X10_208 rfl rfl dX10_guardLine_56 ?_
          refine lv_topi (fun x_171 ex_171 => ?_)
          have u_172 : (tI M_132 60 25).toInt = x_171.toInt := by rw [ex_171]
          have ufx_171 : (tI M_132 60 25).toInt = x_171.toInt := by rw [ex_171]
          refine sb_if_eq (tgt := 63) hx hb rfl dX10_guardLine_59 (by decide) (fun c_59_172 => by have z_174 : ff M_132 = 1 := ff_1 (ufx_171.trans c_59_172); omega) (fun c_59_172 => ?_)
          have z_174 : ff M_132 = 0 := ff_0 (fun h => c_59_172 (ufx_171.symm.trans h))
          clear c_59_172
          exact hQ _ _ _ _ _ hw (⟨(gU.trans (gU_e q_135.1) (gU.trans (gU_e q_77.1) (gU.trans (gU_e q_64.1) (gU_e q_6.1)))), tl_142, (by have t1 : pp_tv rg = r_1.toInt := (hm_4 (ff_y (by omega))).symm; have t2 : pp_tv g_70 = r_72.toInt := (hm_75 (ff_y (by omega))).symm; exact rQ_f hs_133 (rQ_g1 hs_133 (by omega)) (gq_4 (by rw [← eg_11]; exact rQ_g0 hs_3 (by omega)) (by rw [← eg_11, t1]; exact gu) (by rw [← eg_11, ← eg_70, t2, t1]; omega) (by rw [← eg_11, ← eg_70, ← eg_82, ← eg_141]; exact (fk.refl (rQ_z hs_133 (rQ_g1 hs_133 (by omega))))))), iM_132, (l0.trans (l0_pr q_135 (by decide) (by decide)) (l0.trans (l0_pr q_77 (by decide) (by decide)) (l0.trans (l0_pr q_64 (by decide) (by decide)) (l0_pr q_6 (by decide) (by decide))))), (by omega), (by omega), (by omega), (by omega), (by omega), (by omega)⟩) dX10_guardLine_62
    · have gu : g_11 (200 + r_1.toInt.toNat) ≠ -1 := by omega
      have gn : True := trivial
      refine lv_aload_n hx hb dX10_guardLine_24 rfl (lv_at hl 1 rfl) ?_
      refine lv_iconst (v := 3) hx hb dX10_guardLine_25 (by decide) ?_
      refine ti_callVv (ci := 10) (av := [.int 3]) C hw (x_X10_wrong l D A cy hJ M_2 iM_2 3 (by decide) B n g_11 hs_3) ⟨ml_X10_217, ym_X10_wrong, yv_X10_wrong, yi_X10_wrong, yc_X10_wrong⟩ yd_X10_wrong ob_60 (by decide) rfl rfl hl.1 (Nat.le_of_ble_eq_true rfl) ⟨by decide, by decide⟩ ⟨Nat.zero_le _, Nat.zero_le _⟩ dX10_guardLine_26 (fun M_21 H locs hp_21 hw => ?_)
      rw [show (3 : Int32).toInt = 3 by decide] at hp_21
      obtain ⟨hs_22, hp_23⟩ := hp_21
      obtain ⟨iM_21, q_24, z_25, z_26, z_27, z_28, z_29⟩ := l_wr hp_23
      clear hp_23
      obtain ⟨g_30, eg_30⟩ : ∃ z : Nat → Int, z = pp_rf 3 g_11 := ⟨_, rfl⟩
      rw [← eg_30] at hs_22
      have tl_31 : qL td M_21 := qL_fr tl_12 q_24.1 (q_24.2 18 (by decide)) (q_24.2 30 (by decide)) (by omega)
      refine lv_aload_n hx hb dX10_guardLine_29 rfl (lv_at hl 1 rfl) ?_
      refine ti_callVvE (ci := 10) (av := []) C hE hw (x_X10_goOn l D A cy hJ M_21 iM_21  B n g_30 hs_22) ⟨ml_X10_267, ym_X10_goOn, yv_X10_goOn, yi_X10_goOn, yc_X10_goOn⟩ yd_X10_goOn ob_60 (by decide) rfl rfl hl.1 (Nat.le_of_ble_eq_true rfl) ⟨by decide, by decide⟩ ⟨Nat.zero_le _, Nat.zero_le _⟩ dX10_guardLine_30 (fun M_89 H locs hp_89 hw => ?_)
      obtain ⟨hs_90, hp_91⟩ := hp_89
      obtain ⟨iM_89, q_92, z_93, z_94, z_95, z_96, z_97⟩ := l_go hp_91
      clear hp_91
      obtain ⟨g_98, eg_98⟩ : ∃ z : Nat → Int, z = pp_go B n g_30 := ⟨_, rfl⟩
      rw [← eg_98] at hs_90
      have tl_99 : qL td M_89 := qL_fr tl_31 q_92.1 (q_92.2 18 (by decide)) (q_92.2 30 (by decide)) (by omega)
      refine lv_aload_n hx hb dX10_guardLine_33 rfl (lv_at hl 1 rfl) ?_
      refine ti_callVi (ci := 10) (av := []) C hw (x_X10_manAtHand l D A cy hJ M_89 iM_89  B n g_98 hs_90) ⟨ml_X10_264, ym_X10_manAtHand, yv_X10_manAtHand, yi_X10_manAtHand, yc_X10_manAtHand⟩ yd_X10_manAtHand ob_60 (by decide) rfl rfl hl.1 (Nat.le_of_ble_eq_true rfl) ⟨by decide, by decide⟩ ⟨Nat.zero_le _, Nat.zero_le _⟩ dX10_guardLine_34 (fun r_100 M_101 H locs hp_101 hw => ?_)
      obtain ⟨hs_102, hm_103, hp_104⟩ := hp_101
      obtain ⟨iM_101, q_105, p_106, p_107, p_108, b0r_100, b1r_100⟩ := hp_104
      have z_109 := l_ps (by decide) (by decide) ⟨iM_101, q_105, p_106, p_107, p_108⟩
      clear p_106 p_107 p_108
      obtain ⟨g_110, eg_110⟩ : ∃ z : Nat → Int, z = pp_tm g_98 := ⟨_, rfl⟩
      rw [← eg_110] at hs_102
      have tl_111 : qL td M_101 := qL_fr tl_99 q_105.1 (q_105.2 18 (by decide)) (q_105.2 30 (by decide)) (by omega)
      refine lv_istore_n (lv' := [(2, .int r_100), (1, .int r_1), (0, .ref (A 60 0))]) hx hb dX10_guardLine_37 rfl hl (by decide) rfl (fun ls hl => ?_)
      refine lv_aload_n hx hb dX10_guardLine_38 rfl (lv_at hl 2 rfl) ?_
      refine ti_get (ci := 10) (k := 25) (N := 67) (T := TX10) C hw iw_10 rfl ob_60 (by decide) (by decide) fl_X10_208 rfl rfl dX10_guardLine_39 ?_
      refine lv_topi (fun x_112 ex_112 => ?_)
      have u_113 : (tI M_101 60 25).toInt = x_112.toInt := by rw [ex_112]
      have ufx_112 : (tI M_101 60 25).toInt = x_112.toInt := by rw [ex_112]
      refine sb_if_ne (tgt := 55) hx hb rfl dX10_guardLine_42 (by decide) (fun c_42_113 => ?_) (fun c_42_113 => ?_)
      · have z_115 : ff M_101 = 0 := ff_0 (fun h => c_42_113 (ufx_112.symm.trans h))
        clear c_42_113
        refine lv_aload_n hx hb dX10_guardLine_55 rfl (lv_at hl 2 rfl) ?_
        refine ti_get (ci := 10) (k := 25) (N := 67) (T := TX10) C hw iw_10 rfl ob_60 (by decide) (by decide) fl_X10_208 rfl rfl dX10_guardLine_56 ?_
        refine ti_top (y := x_112) (ex_112.symm) ?_
        refine sb_if_eq (tgt := 63) hx hb rfl dX10_guardLine_59 (by decide) (fun c_59_158 => by have z_160 : ff M_101 = 1 := ff_1 (ufx_112.trans c_59_158); omega) (fun c_59_158 => ?_)
        have z_160 : ff M_101 = 0 := ff_0 (fun h => c_59_158 (ufx_112.symm.trans h))
        clear c_59_158
        exact hQ _ _ _ _ _ hw (⟨(gU.trans (gU_e q_105.1) (gU.trans (gU_e q_92.1) (gU.trans (gU_e q_24.1) (gU_e q_6.1)))), tl_111, (by have t1 : pp_tv rg = r_1.toInt := (hm_4 (ff_y (by omega))).symm; exact rQ_f hs_102 (rQ_g1 hs_102 (by omega)) (gq_2 (by rw [← eg_11]; exact rQ_g0 hs_3 (by omega)) (by rw [← eg_11, t1]; exact gu) (by rw [← eg_11, ← eg_30]; exact (show fk g_110 g_30 by rw [eg_110]; exact (tm_f ((show fk g_98 g_30 by rw [eg_98, go_f ((fk.refl (rQ_z hs_22 (rQ_g1 hs_22 (by omega)))).zz (rQ_z hs_22 (rQ_g1 hs_22 (by omega)))).1]; exact (fk.refl (rQ_z hs_22 (rQ_g1 hs_22 (by omega))))).zz (rQ_z hs_22 (rQ_g1 hs_22 (by omega))))).trans (show fk g_98 g_30 by rw [eg_98, go_f ((fk.refl (rQ_z hs_22 (rQ_g1 hs_22 (by omega)))).zz (rQ_z hs_22 (rQ_g1 hs_22 (by omega)))).1]; exact (fk.refl (rQ_z hs_22 (rQ_g1 hs_22 (by omega))))))))), iM_101, (l0.trans (l0_pr q_105 (by decide) (by decide)) (l0.trans (l0_pr q_92 (by decide) (by decide)) (l0.trans (l0_pr q_24 (by decide) (by decide)) (l0_pr q_6 (by decide) (by decide))))), (by omega), (by omega), (by omega), (by omega), (by omega), (by omega)⟩) dX10_guardLine_62
      · have z_115 : ff M_101 = 1 := ff_1 (ufx_112.trans c_42_113)
        clear c_42_113
        refine lv_iload_n hx hb dX10_guardLine_45 rfl (lv_at hl 1 rfl) ?_
        refine lv_iload_n hx hb dX10_guardLine_46 rfl (lv_at hl 0 rfl) ?_
        refine sb_icmp_ne (tgt := 55) hx hb rfl rfl dX10_guardLine_47 (by decide) (fun c_47_117 => ?_) (fun c_47_117 => ?_)
        · refine lv_aload_n hx hb dX10_guardLine_55 rfl (lv_at hl 2 rfl) ?_
          refine ti_get (ci := 10) (k := 25) (N := 67) (T := TX10) C hw iw_10 rfl ob_60 (by decide) (by decide) fl_X10_208 rfl rfl dX10_guardLine_56 ?_
          refine ti_top (y := x_112) (ex_112.symm) ?_
          refine sb_if_eq (tgt := 63) hx hb rfl dX10_guardLine_59 (by decide) (fun c_59_164 => ?_) (fun c_59_164 => by have z_166 : ff M_101 = 0 := ff_0 (fun h => c_59_164 (ufx_112.symm.trans h)); omega)
          have z_166 : ff M_101 = 1 := ff_1 (ufx_112.trans c_59_164)
          clear c_59_164
          refine lv_aload_n hx hb dX10_guardLine_63 rfl (lv_at hl 2 rfl) ?_
          refine ti_get (ci := 10) (k := 13) (N := 67) (T := TX10) (v := .ref (A 60 14)) C hw iw_10 rfl ob_60 (by decide) (by decide) fl_X10_43 rfl rfl dX10_guardLine_64 ?_
          refine lv_bipush (v := 8) hx hb dX10_guardLine_67 (by decide) ?_
          refine lv_iload_n hx hb dX10_guardLine_69 rfl (lv_at hl 1 rfl) ?_
          refine lv_iadd hx hb dX10_guardLine_70 ?_
          refine lv_topi (fun x_223 ex_223 => ?_)
          have tx_223 : x_223.toInt = 8 + r_1.toInt := i_add ex_223 (by decide : (8 : Int32).toInt = 8) rfl (by omega) (by omega)
          refine lv_iload_n hx hb dX10_guardLine_71 rfl (lv_at hl 0 rfl) ?_
          refine lv_iconst (v := 1) hx hb dX10_guardLine_72 (by decide) ?_
          refine lv_iadd hx hb dX10_guardLine_73 ?_
          refine lv_topi (fun x_224 ex_224 => ?_)
          have tx_224 : x_224.toInt = r_100.toInt + 1 := i_add ex_224 rfl (by decide : (1 : Int32).toInt = 1) (by omega) (by omega)
          refine ti_iast (ci := 10) (k := 13) (n := 16) C hw ob_60 (by decide) (fun _ _ => rfl) (vp_in_iff.mpr (by omega)) dX10_guardLine_74 (fun H locs hw => ?_)
          obtain ⟨M_225, hM_225⟩ : ∃ z : ti_M, z = uY M_101 60 13 (upd (tY M_101 60 13) (x_223 : Int32).toNatClampNeg x_224) := ⟨_, rfl⟩
          have hw := hw.to hM_225.symm
          have iM_225 : mI Tm M_225 := mI_up (i := x_223.toNatClampNeg) iM_101 hM_225 trivial
          have z_226 := s5_Y hM_225 (by decide)
          have hs_228 := rQ_13 (a0 := r_1.toInt.toNat) (b0 := r_100.toInt) hs_102 hM_225 (by show (x_223 : Int32).toInt.toNat = _; omega) (by omega) (by omega) (by omega)
          obtain ⟨g_229, eg_229⟩ : ∃ z : Nat → Int, z = pp_su g_110 (200 + r_1.toInt.toNat) r_100.toInt := ⟨_, rfl⟩
          rw [← eg_229] at hs_228
          have tl_230 : qL td M_225 := qL_m tl_111 hM_225 (by decide) (Or.inl ⟨rfl, by omega⟩)
          refine lv_aload_n hx hb dX10_guardLine_75 rfl (lv_at hl 2 rfl) ?_
          refine ti_callVvE (ci := 10) (av := []) C hE hw (x_X10_token l D A cy hJ M_225 iM_225 ) ⟨ml_X10_214, ym_X10_token, yv_X10_token, yi_X10_token, yc_X10_token⟩ yd_X10_token ob_60 (by decide) rfl rfl hl.1 (Nat.le_of_ble_eq_true rfl) ⟨by decide, by decide⟩ ⟨Nat.zero_le _, Nat.zero_le _⟩ dX10_guardLine_76 (fun M_232 H locs hp_232 hw => ?_)
          obtain ⟨iM_232, q_235, z_233, z_234, k2M_232, k3M_232, k4M_232⟩ := hp_232
          have hs_236 := rQ_av hs_228 (rQ_g0 hs_228 (by omega)) (iM_225.1 21).1 q_235 k2M_232 k3M_232 k4M_232
          obtain ⟨-, -, z_237, z_238, z_239, z_240, z_241, z_242⟩ := l_tk ⟨iM_232, q_235, z_233, z_234⟩
          clear z_233 z_234 k2M_232 k3M_232 k4M_232
          obtain ⟨g_243, eg_243⟩ : ∃ z : Nat → Int, z = pp_av B n g_229 := ⟨_, rfl⟩
          rw [← eg_243] at hs_236
          have tl_244 : qL td M_232 := qL_fr tl_230 q_235.1 (q_235.2 18 (by decide)) (q_235.2 30 (by decide)) (by omega)
          exact hQ _ _ _ _ _ hw (⟨(gU.trans (gU_e q_235.1) (gU.trans (gU_Y hM_225 (by show 8 ≤ (x_223 : Int32).toInt.toNat; omega)) (gU.trans (gU_e q_105.1) (gU.trans (gU_e q_92.1) (gU.trans (gU_e q_24.1) (gU_e q_6.1)))))), tl_244, (by exfalso; omega), iM_232, (l0.trans (l0_pr q_235 (by decide) (by decide)) (l0.trans (l0_Y hM_225 (by decide)) (l0.trans (l0_pr q_105 (by decide) (by decide)) (l0.trans (l0_pr q_92 (by decide) (by decide)) (l0.trans (l0_pr q_24 (by decide) (by decide)) (l0_pr q_6 (by decide) (by decide))))))), (by omega), (by omega), (by omega), (by omega), (by omega), (by omega)⟩) dX10_guardLine_79
        · refine lv_aload_n hx hb dX10_guardLine_50 rfl (lv_at hl 2 rfl) ?_
          refine lv_iconst (v := 5) hx hb dX10_guardLine_51 (by decide) ?_
          refine ti_callVv (ci := 10) (av := [.int 5]) C hw (x_X10_wrong l D A cy hJ M_101 iM_101 5 (by decide) B n g_110 hs_102) ⟨ml_X10_217, ym_X10_wrong, yv_X10_wrong, yi_X10_wrong, yc_X10_wrong⟩ yd_X10_wrong ob_60 (by decide) rfl rfl hl.1 (Nat.le_of_ble_eq_true rfl) ⟨by decide, by decide⟩ ⟨Nat.zero_le _, Nat.zero_le _⟩ dX10_guardLine_52 (fun M_144 H locs hp_144 hw => ?_)
          rw [show (5 : Int32).toInt = 5 by decide] at hp_144
          obtain ⟨hs_145, hp_146⟩ := hp_144
          obtain ⟨iM_144, q_147, z_148, z_149, z_150, z_151, z_152⟩ := l_wr hp_146
          clear hp_146
          obtain ⟨g_153, eg_153⟩ : ∃ z : Nat → Int, z = pp_rf 5 g_110 := ⟨_, rfl⟩
          rw [← eg_153] at hs_145
          have tl_154 : qL td M_144 := qL_fr tl_111 q_147.1 (q_147.2 18 (by decide)) (q_147.2 30 (by decide)) (by omega)
          refine lv_aload_n hx hb dX10_guardLine_55 rfl (lv_at hl 2 rfl) ?_
          refine ti_get (ci := 10) (k := 25) (N := 67) (T := TX10) C hw iw_10 rfl ob_60 (by decide) (by decide) fl_X10_208 rfl rfl dX10_guardLine_56 ?_
          refine lv_topi (fun x_175 ex_175 => ?_)
          have u_176 : (tI M_144 60 25).toInt = x_175.toInt := by rw [ex_175]
          have ufx_175 : (tI M_144 60 25).toInt = x_175.toInt := by rw [ex_175]
          refine sb_if_eq (tgt := 63) hx hb rfl dX10_guardLine_59 (by decide) (fun c_59_176 => by have z_178 : ff M_144 = 1 := ff_1 (ufx_175.trans c_59_176); omega) (fun c_59_176 => ?_)
          have z_178 : ff M_144 = 0 := ff_0 (fun h => c_59_176 (ufx_175.symm.trans h))
          clear c_59_176
          exact hQ _ _ _ _ _ hw (⟨(gU.trans (gU_e q_147.1) (gU.trans (gU_e q_105.1) (gU.trans (gU_e q_92.1) (gU.trans (gU_e q_24.1) (gU_e q_6.1))))), tl_154, (by exfalso; omega), iM_144, (l0.trans (l0_pr q_147 (by decide) (by decide)) (l0.trans (l0_pr q_105 (by decide) (by decide)) (l0.trans (l0_pr q_92 (by decide) (by decide)) (l0.trans (l0_pr q_24 (by decide) (by decide)) (l0_pr q_6 (by decide) (by decide)))))), (by omega), (by omega), (by omega), (by omega), (by omega), (by omega)⟩) dX10_guardLine_62
set_option maxHeartbeats 4000000 in
set_option maxRecDepth 100000 in
theorem x_X10_powerLine (l : Launch) (D : va_G) (A : Nat → Nat → Nat) (cy : Nat → ClassId) (hJ : ti_inj ti_LM A) (M : ti_M) (hI : mI Tm M) (hf : ff M = 1) (B : Nat → Int) (n : Nat) (rg : Nat → Int) (hr : rQ B n rg M) (td : Nat → Int) (hql : qL td M) : ti_KvE l yX10_powerLine cX10_powerLine 2 7 ti_LM D A cy M [.ref (A 60 0)] (fun M2 => gU M2 M ∧ qL (qq_pq B n rg td) M2 ∧ rQ B n (pp_pq B n rg) M2 ∧ mI Tm M2 ∧ l0 M2 M ∧ (pg M ≤ pg M2) ∧ (0 ≤ ff M2) ∧ (ff M2 ≤ ff M) ∧ ((tI M2 60 29).toInt = (tI M 60 29).toInt) ∧ ((tI M2 60 30).toInt = (tI M 60 30).toInt) ∧ ((tY M2 60 3 18).toInt = (tY M 60 3 18).toInt)) := by
  refine ti_eVE yp_X10_powerLine hJ ti_LM_nd (Nat.le_of_ble_eq_true rfl) ?_
  intro p e s m args below meth c Q H0 C hE hQ hw ls hl
  have hx := C.1
  have hb := C.2.1
  have hl : lv_has ls 2 [(0, .ref (A 60 0))] := hl
  have hI30 := b30 hI
  have hI29 := b29 hI
  have hI18 := b18 hI
  have hIff := ff_b M
  refine lv_aload_n hx hb dX10_powerLine_0 rfl (lv_at hl 0 rfl) ?_
  refine ti_get (ci := 10) (k := 23) (N := 67) (T := TX10) C hw iw_10 rfl ob_60 (by decide) (by decide) fl_X10_173 rfl rfl dX10_powerLine_1 ?_
  refine lv_topi (fun x_1 ex_1 => ?_)
  have uqu_2 : (tI M 60 23).toInt = x_1.toInt := by rw [(ex_1.symm)]
  refine sb_if_ne (tgt := 25) hx hb rfl dX10_powerLine_4 (by decide) (fun c_4_2 => ?_) (fun c_4_2 => ?_)
  · refine lv_aload_n hx hb dX10_powerLine_25 rfl (lv_at hl 0 rfl) ?_
    refine lv_iconst (v := 1) hx hb dX10_powerLine_26 (by decide) ?_
    refine ti_callVv (ci := 10) (av := [.int 1]) C hw (x_X10_wrong l D A cy hJ M hI 1 (by decide) B n rg hr) ⟨ml_X10_217, ym_X10_wrong, yv_X10_wrong, yi_X10_wrong, yc_X10_wrong⟩ yd_X10_wrong ob_60 (by decide) rfl rfl hl.1 (Nat.le_of_ble_eq_true rfl) ⟨by decide, by decide⟩ ⟨Nat.zero_le _, Nat.zero_le _⟩ dX10_powerLine_27 (fun M_10 H locs hp_10 hw => ?_)
    rw [show (1 : Int32).toInt = 1 by decide] at hp_10
    obtain ⟨hs_11, hp_12⟩ := hp_10
    obtain ⟨iM_10, q_13, z_14, z_15, z_16, z_17, z_18⟩ := l_wr hp_12
    clear hp_12
    obtain ⟨g_19, eg_19⟩ : ∃ z : Nat → Int, z = pp_rf 1 rg := ⟨_, rfl⟩
    rw [← eg_19] at hs_11
    have tl_20 : qL td M_10 := qL_fr hql q_13.1 (q_13.2 18 (by decide)) (q_13.2 30 (by decide)) (by omega)
    refine lv_aload_n hx hb dX10_powerLine_30 rfl (lv_at hl 0 rfl) ?_
    refine ti_get (ci := 10) (k := 24) (N := 67) (T := TX10) C hw iw_10 rfl ob_60 (by decide) (by decide) fl_X10_183 rfl rfl dX10_powerLine_31 ?_
    refine lv_topi (fun x_51 ex_51 => ?_)
    have uqu_52 : (tI M_10 60 24).toInt = x_51.toInt := by rw [(ex_51.symm)]
    refine lv_bipush (v := 10) hx hb dX10_powerLine_34 (by decide) ?_
    refine lv_isub hx hb dX10_powerLine_36 ?_
    refine lv_topi (fun x_53 ex_53 => ?_)
    refine lv_istore_n (lv' := [(1, .int x_53), (0, .ref (A 60 0))]) hx hb dX10_powerLine_37 rfl hl (by decide) rfl (fun ls hl => ?_)
    refine lv_aload_n hx hb dX10_powerLine_38 rfl (lv_at hl 1 rfl) ?_
    refine ti_get (ci := 10) (k := 25) (N := 67) (T := TX10) C hw iw_10 rfl ob_60 (by decide) (by decide) fl_X10_208 rfl rfl dX10_powerLine_39 ?_
    refine lv_topi (fun x_54 ex_54 => ?_)
    have u_55 : (tI M_10 60 25).toInt = x_54.toInt := by rw [ex_54]
    have ufx_54 : (tI M_10 60 25).toInt = x_54.toInt := by rw [ex_54]
    refine sb_if_ne (tgt := 65) hx hb rfl dX10_powerLine_42 (by decide) (fun c_42_55 => ?_) (fun c_42_55 => by have z_57 : ff M_10 = 1 := ff_1 (ufx_54.trans c_42_55); omega)
    have z_57 : ff M_10 = 0 := ff_0 (fun h => c_42_55 (ufx_54.symm.trans h))
    clear c_42_55
    refine lv_aload_n hx hb dX10_powerLine_65 rfl (lv_at hl 1 rfl) ?_
    refine ti_get (ci := 10) (k := 25) (N := 67) (T := TX10) C hw iw_10 rfl ob_60 (by decide) (by decide) fl_X10_208 rfl rfl dX10_powerLine_66 ?_
    refine ti_top (y := x_54) (ex_54.symm) ?_
    refine sb_if_eq (tgt := 73) hx hb rfl dX10_powerLine_69 (by decide) (fun c_69_86 => by have z_88 : ff M_10 = 1 := ff_1 (ufx_54.trans c_69_86); omega) (fun c_69_86 => ?_)
    have z_88 : ff M_10 = 0 := ff_0 (fun h => c_69_86 (ufx_54.symm.trans h))
    clear c_69_86
    exact hQ _ _ _ _ _ hw (⟨(gU_e q_13.1), (qL_f (by omega)), (by unfold pp_pq; rw [if_neg (fun q => by have e := (pT_nw (rQ_T hr hf)).1 q; omega), ← eg_19]; exact hs_11), iM_10, (l0_pr q_13 (by decide) (by decide)), (by omega), (by omega), (by omega), (by omega), (by omega), (by omega)⟩) dX10_powerLine_72
  · refine lv_aload_n hx hb dX10_powerLine_7 rfl (lv_at hl 0 rfl) ?_
    refine ti_get (ci := 10) (k := 24) (N := 67) (T := TX10) C hw iw_10 rfl ob_60 (by decide) (by decide) fl_X10_183 rfl rfl dX10_powerLine_8 ?_
    refine lv_topi (fun x_4 ex_4 => ?_)
    have uqu_5 : (tI M 60 24).toInt = x_4.toInt := by rw [(ex_4.symm)]
    refine lv_bipush (v := 10) hx hb dX10_powerLine_11 (by decide) ?_
    refine sb_icmp_lt (tgt := 25) hx hb rfl (by decide : (10 : Int32).toInt = 10) dX10_powerLine_13 (by decide) (fun c_13_5 => ?_) (fun c_13_5 => ?_)
    · refine lv_aload_n hx hb dX10_powerLine_25 rfl (lv_at hl 0 rfl) ?_
      refine lv_iconst (v := 1) hx hb dX10_powerLine_26 (by decide) ?_
      refine ti_callVv (ci := 10) (av := [.int 1]) C hw (x_X10_wrong l D A cy hJ M hI 1 (by decide) B n rg hr) ⟨ml_X10_217, ym_X10_wrong, yv_X10_wrong, yi_X10_wrong, yc_X10_wrong⟩ yd_X10_wrong ob_60 (by decide) rfl rfl hl.1 (Nat.le_of_ble_eq_true rfl) ⟨by decide, by decide⟩ ⟨Nat.zero_le _, Nat.zero_le _⟩ dX10_powerLine_27 (fun M_22 H locs hp_22 hw => ?_)
      rw [show (1 : Int32).toInt = 1 by decide] at hp_22
      obtain ⟨hs_23, hp_24⟩ := hp_22
      obtain ⟨iM_22, q_25, z_26, z_27, z_28, z_29, z_30⟩ := l_wr hp_24
      clear hp_24
      obtain ⟨g_31, eg_31⟩ : ∃ z : Nat → Int, z = pp_rf 1 rg := ⟨_, rfl⟩
      rw [← eg_31] at hs_23
      have tl_32 : qL td M_22 := qL_fr hql q_25.1 (q_25.2 18 (by decide)) (q_25.2 30 (by decide)) (by omega)
      refine lv_aload_n hx hb dX10_powerLine_30 rfl (lv_at hl 0 rfl) ?_
      refine ti_get (ci := 10) (k := 24) (N := 67) (T := TX10) C hw iw_10 rfl ob_60 (by decide) (by decide) fl_X10_183 rfl rfl dX10_powerLine_31 ?_
      refine ti_top (y := x_4) ((q_25.2 24 (by decide)).trans ex_4.symm) ?_
      have uqu_58 : (tI M_22 60 24).toInt = x_4.toInt := by rw [((q_25.2 24 (by decide)).trans ex_4.symm)]
      refine lv_bipush (v := 10) hx hb dX10_powerLine_34 (by decide) ?_
      refine lv_isub hx hb dX10_powerLine_36 ?_
      refine lv_topi (fun x_59 ex_59 => ?_)
      refine lv_istore_n (lv' := [(1, .int x_59), (0, .ref (A 60 0))]) hx hb dX10_powerLine_37 rfl hl (by decide) rfl (fun ls hl => ?_)
      refine lv_aload_n hx hb dX10_powerLine_38 rfl (lv_at hl 1 rfl) ?_
      refine ti_get (ci := 10) (k := 25) (N := 67) (T := TX10) C hw iw_10 rfl ob_60 (by decide) (by decide) fl_X10_208 rfl rfl dX10_powerLine_39 ?_
      refine lv_topi (fun x_60 ex_60 => ?_)
      have u_61 : (tI M_22 60 25).toInt = x_60.toInt := by rw [ex_60]
      have ufx_60 : (tI M_22 60 25).toInt = x_60.toInt := by rw [ex_60]
      refine sb_if_ne (tgt := 65) hx hb rfl dX10_powerLine_42 (by decide) (fun c_42_61 => ?_) (fun c_42_61 => by have z_63 : ff M_22 = 1 := ff_1 (ufx_60.trans c_42_61); omega)
      have z_63 : ff M_22 = 0 := ff_0 (fun h => c_42_61 (ufx_60.symm.trans h))
      clear c_42_61
      refine lv_aload_n hx hb dX10_powerLine_65 rfl (lv_at hl 1 rfl) ?_
      refine ti_get (ci := 10) (k := 25) (N := 67) (T := TX10) C hw iw_10 rfl ob_60 (by decide) (by decide) fl_X10_208 rfl rfl dX10_powerLine_66 ?_
      refine ti_top (y := x_60) (ex_60.symm) ?_
      refine sb_if_eq (tgt := 73) hx hb rfl dX10_powerLine_69 (by decide) (fun c_69_88 => by have z_90 : ff M_22 = 1 := ff_1 (ufx_60.trans c_69_88); omega) (fun c_69_88 => ?_)
      have z_90 : ff M_22 = 0 := ff_0 (fun h => c_69_88 (ufx_60.symm.trans h))
      clear c_69_88
      exact hQ _ _ _ _ _ hw (⟨(gU_e q_25.1), (qL_f (by omega)), (by unfold pp_pq; rw [if_neg (fun q => by have e := (pT_nw (rQ_T hr hf)).1 q; omega), ← eg_31]; exact hs_23), iM_22, (l0_pr q_25 (by decide) (by decide)), (by omega), (by omega), (by omega), (by omega), (by omega), (by omega)⟩) dX10_powerLine_72
    · refine lv_aload_n hx hb dX10_powerLine_16 rfl (lv_at hl 0 rfl) ?_
      refine ti_get (ci := 10) (k := 24) (N := 67) (T := TX10) C hw iw_10 rfl ob_60 (by decide) (by decide) fl_X10_183 rfl rfl dX10_powerLine_17 ?_
      refine ti_top (y := x_4) (ex_4.symm) ?_
      have uqu_7 : (tI M 60 24).toInt = x_4.toInt := by rw [(ex_4.symm)]
      refine lv_bipush (v := 12) hx hb dX10_powerLine_20 (by decide) ?_
      refine sb_icmp_le (tgt := 30) hx hb rfl (by decide : (12 : Int32).toInt = 12) dX10_powerLine_22 (by decide) (fun c_22_7 => ?_) (fun c_22_7 => ?_)
      · refine lv_aload_n hx hb dX10_powerLine_30 rfl (lv_at hl 0 rfl) ?_
        refine ti_get (ci := 10) (k := 24) (N := 67) (T := TX10) C hw iw_10 rfl ob_60 (by decide) (by decide) fl_X10_183 rfl rfl dX10_powerLine_31 ?_
        refine ti_top (y := x_4) (ex_4.symm) ?_
        have uqu_45 : (tI M 60 24).toInt = x_4.toInt := by rw [(ex_4.symm)]
        refine lv_bipush (v := 10) hx hb dX10_powerLine_34 (by decide) ?_
        refine lv_isub hx hb dX10_powerLine_36 ?_
        refine lv_topi (fun x_46 ex_46 => ?_)
        have lox_46x_4 := x_4.le_toInt
        have hix_46x_4 := x_4.toInt_lt
        have tx_46 : x_46.toInt = x_4.toInt - 10 := i_sub ex_46 rfl (by decide : (10 : Int32).toInt = 10) (by omega) (by omega)
        refine lv_istore_n (lv' := [(1, .int x_46), (0, .ref (A 60 0))]) hx hb dX10_powerLine_37 rfl hl (by decide) rfl (fun ls hl => ?_)
        refine lv_aload_n hx hb dX10_powerLine_38 rfl (lv_at hl 1 rfl) ?_
        refine ti_get (ci := 10) (k := 25) (N := 67) (T := TX10) C hw iw_10 rfl ob_60 (by decide) (by decide) fl_X10_208 rfl rfl dX10_powerLine_39 ?_
        refine lv_topi (fun x_47 ex_47 => ?_)
        have u_48 : (tI M 60 25).toInt = x_47.toInt := by rw [ex_47]
        have ufx_47 : (tI M 60 25).toInt = x_47.toInt := by rw [ex_47]
        refine sb_if_ne (tgt := 65) hx hb rfl dX10_powerLine_42 (by decide) (fun c_42_48 => by have z_50 : ff M = 0 := ff_0 (fun h => c_42_48 (ufx_47.symm.trans h)); omega) (fun c_42_48 => ?_)
        have z_50 : ff M = 1 := ff_1 (ufx_47.trans c_42_48)
        clear c_42_48
        refine lv_aload_n hx hb dX10_powerLine_45 rfl (lv_at hl 1 rfl) ?_
        refine ti_get (ci := 10) (k := 18) (N := 67) (T := TX10) C hw iw_10 rfl ob_60 (by decide) (by decide) fl_X10_228 rfl rfl dX10_powerLine_46 ?_
        refine lv_topi (fun x_70 ex_70 => ?_)
        refine lv_bipush (v := 12) hx hb dX10_powerLine_49 (by decide) ?_
        refine lv_iload_n hx hb dX10_powerLine_51 rfl (lv_at hl 0 rfl) ?_
        refine lv_iadd hx hb dX10_powerLine_52 ?_
        refine lv_topi (fun x_71 ex_71 => ?_)
        have tx_71 : x_71.toInt = 12 + x_46.toInt := i_add ex_71 (by decide : (12 : Int32).toInt = 12) rfl (by omega) (by omega)
        refine lv_ishr hx hb dX10_powerLine_53 ?_
        refine lv_topi (fun x_72 ex_72 => ?_)
        refine lv_iconst (v := 1) hx hb dX10_powerLine_54 (by decide) ?_
        refine lv_iand hx hb dX10_powerLine_55 ?_
        refine lv_topi (fun x_73 ex_73 => ?_)
        have bx_73 := i_and 1 ex_73 (by decide) (by decide)
        have bsx_73 : x_73.toInt = pp_bt (tI M 60 18) (x_71.toInt).toNat := by rw [(ex_70.symm)]; exact bt_shr (k := x_71.toInt) ex_72 rfl (by omega) (by omega) ex_73
        have box_73 := bt_01 (tI M 60 18) (x_71.toInt).toNat
        refine lv_iconst (v := 1) hx hb dX10_powerLine_56 (by decide) ?_
        refine sb_icmp_ne (tgt := 65) hx hb rfl (by decide : (1 : Int32).toInt = 1) dX10_powerLine_57 (by decide) (fun c_57_73 => ?_) (fun c_57_73 => ?_)
        · refine lv_aload_n hx hb dX10_powerLine_65 rfl (lv_at hl 1 rfl) ?_
          refine ti_get (ci := 10) (k := 25) (N := 67) (T := TX10) C hw iw_10 rfl ob_60 (by decide) (by decide) fl_X10_208 rfl rfl dX10_powerLine_66 ?_
          refine ti_top (y := x_47) (ex_47.symm) ?_
          refine sb_if_eq (tgt := 73) hx hb rfl dX10_powerLine_69 (by decide) (fun c_69_92 => ?_) (fun c_69_92 => by have z_94 : ff M = 0 := ff_0 (fun h => c_69_92 (ufx_47.symm.trans h)); omega)
          have z_94 : ff M = 1 := ff_1 (ufx_47.trans c_69_92)
          clear c_69_92
          refine lv_aload_n hx hb dX10_powerLine_73 rfl (lv_at hl 1 rfl) ?_
          refine lv_dup hx hb dX10_powerLine_74 rfl ?_
          refine ti_get (ci := 10) (k := 18) (N := 67) (T := TX10) C hw iw_10 rfl ob_60 (by decide) (by decide) fl_X10_228 rfl rfl dX10_powerLine_75 ?_
          refine ti_top (y := x_70) (ex_70.symm) ?_
          refine lv_iconst (v := 1) hx hb dX10_powerLine_78 (by decide) ?_
          refine lv_bipush (v := 12) hx hb dX10_powerLine_79 (by decide) ?_
          refine lv_iload_n hx hb dX10_powerLine_81 rfl (lv_at hl 0 rfl) ?_
          refine lv_iadd hx hb dX10_powerLine_82 ?_
          refine lv_topi (fun x_99 ex_99 => ?_)
          have tx_99 : x_99.toInt = 12 + x_46.toInt := i_add ex_99 (by decide : (12 : Int32).toInt = 12) rfl (by omega) (by omega)
          refine lv_ishl hx hb dX10_powerLine_83 ?_
          refine lv_topi (fun x_100 ex_100 => ?_)
          refine lv_ior hx hb dX10_powerLine_84 ?_
          refine lv_topi (fun x_101 ex_101 => ?_)
          refine ti_putI (ci := 10) (k := 18) (N := 67) (T := TX10) C hw iw_10 tyX10 tyX10_ok nmX10 rfl ob_60 (by decide) (by decide) fl_X10_228 rfl rfl rfl rfl (fn_10 A _) fs_10_18 dX10_powerLine_85 (fun H locs hw => ?_)
          obtain ⟨M_102, hM_102⟩ : ∃ z : ti_M, z = uI M 60 18 x_101 := ⟨_, rfl⟩
          have hw := hw.to hM_102.symm
          have iM_102 : mI Tm M_102 := mI_uI hI hM_102 (by decide) (by decide) trivial
          have z_103 : ff M_102 = ff M := ff_I hM_102 (by decide)
          have z_104 : pg M_102 = pg M := pg_I hM_102 (by decide)
          have z_105 : (tI M_102 60 29).toInt = (tI M 60 29).toInt := by rw [tI_nE hM_102 (nk (by decide))]
          have z_106 : (tI M_102 60 30).toInt = (tI M 60 30).toInt := by rw [tI_nE hM_102 (nk (by decide))]
          have z_107 : (tY M_102 60 3 18).toInt = (tY M 60 3 18).toInt := by rw [tY_uIE hM_102]
          have e0 := (pT_pw (rQ_T hr hf)).1 ⟨by omega, by omega, by omega⟩
          have hs_108 := rQ_18 (k0 := (x_99.toInt).toNat) (r := 300 + (rg 0).toNat) hr hM_102 (fun j hj => (bt_or (k := x_99.toInt) ex_100 rfl (by omega) (by omega) ex_101 j hj).trans (by rw [← (ex_70.symm)])) (by omega)
          obtain ⟨g_109, eg_109⟩ : ∃ z : Nat → Int, z = pp_su rg (300 + (rg 0).toNat) 1 := ⟨_, rfl⟩
          rw [← eg_109] at hs_108
          have tl_110 : qL td M_102 := qL_18 (k0 := (x_99.toInt).toNat) hql hM_102 (fun j hj => (bt_or (k := x_99.toInt) ex_100 rfl (by omega) (by omega) ex_101 j hj).trans (by rw [← (ex_70.symm)]))
          refine lv_aload_n hx hb dX10_powerLine_88 rfl (lv_at hl 1 rfl) ?_
          refine ti_callVvE (ci := 10) (av := []) C hE hw (x_X10_token l D A cy hJ M_102 iM_102 ) ⟨ml_X10_214, ym_X10_token, yv_X10_token, yi_X10_token, yc_X10_token⟩ yd_X10_token ob_60 (by decide) rfl rfl hl.1 (Nat.le_of_ble_eq_true rfl) ⟨by decide, by decide⟩ ⟨Nat.zero_le _, Nat.zero_le _⟩ dX10_powerLine_89 (fun M_112 H locs hp_112 hw => ?_)
          obtain ⟨iM_112, q_115, z_113, z_114, k2M_112, k3M_112, k4M_112⟩ := hp_112
          have hs_116 := rQ_av hs_108 (rQ_g0 hs_108 (by omega)) (iM_102.1 21).1 q_115 k2M_112 k3M_112 k4M_112
          obtain ⟨-, -, z_117, z_118, z_119, z_120, z_121, z_122⟩ := l_tk ⟨iM_112, q_115, z_113, z_114⟩
          clear z_113 z_114 k2M_112 k3M_112 k4M_112
          obtain ⟨g_123, eg_123⟩ : ∃ z : Nat → Int, z = pp_av B n g_109 := ⟨_, rfl⟩
          rw [← eg_123] at hs_116
          have tl_124 : qL td M_112 := qL_fr tl_110 q_115.1 (q_115.2 18 (by decide)) (q_115.2 30 (by decide)) (by omega)
          refine lv_aload_n hx hb dX10_powerLine_92 rfl (lv_at hl 1 rfl) ?_
          refine lv_bipush (v := 8) hx hb dX10_powerLine_93 (by decide) ?_
          refine lv_iload_n hx hb dX10_powerLine_95 rfl (lv_at hl 0 rfl) ?_
          refine lv_iadd hx hb dX10_powerLine_96 ?_
          refine lv_topi (fun x_125 ex_125 => ?_)
          have tx_125 : x_125.toInt = 8 + x_46.toInt := i_add ex_125 (by decide : (8 : Int32).toInt = 8) rfl (by omega) (by omega)
          refine lv_aload_n hx hb dX10_powerLine_97 rfl (lv_at hl 1 rfl) ?_
          refine lv_iconst (v := 0) hx hb dX10_powerLine_98 (by decide) ?_
          refine lv_bipush (v := 7) hx hb dX10_powerLine_99 (by decide) ?_
          refine ti_callViE (ci := 10) (av := [.int 0, .int 7]) C hE hw (x_X10_numeral l D A cy hJ M_112 iM_112 0 7 (by decide) (by decide) B n g_123 hs_116) ⟨ml_X10_240, ym_X10_numeral, yv_X10_numeral, yi_X10_numeral, yc_X10_numeral⟩ yd_X10_numeral ob_60 (by decide) rfl rfl hl.1 (Nat.le_of_ble_eq_true rfl) ⟨by decide, by decide⟩ ⟨Nat.zero_le _, Nat.zero_le _⟩ dX10_powerLine_101 (fun r_126 M_127 H locs hp_127 hw => ?_)
          obtain ⟨hs_128, hm_129, hp_130⟩ := hp_127
          rw [show (0 : Int32).toInt = 0 by decide] at hs_128
          rw [show (7 : Int32).toInt = 7 by decide] at hs_128
          obtain ⟨iM_127, q_131, p_132, p_133, p_134, b0r_126, b1r_126⟩ := hp_130
          have z_135 := l_ps (by decide) (by decide) ⟨iM_127, q_131, p_132, p_133, p_134⟩
          clear p_132 p_133 p_134
          have br_126 : 0 ≤ r_126.toInt ∧ r_126.toInt ≤ 7 := by have l1 : (0 : Int32).toInt = 0 := (by decide); have l2 : (7 : Int32).toInt = 7 := (by decide); omega
          obtain ⟨g_136, eg_136⟩ : ∃ z : Nat → Int, z = pp_nb B n 0 7 g_123 := ⟨_, rfl⟩
          rw [← eg_136] at hs_128
          have tl_137 : qL td M_127 := qL_fr tl_124 q_131.1 (q_131.2 18 (by decide)) (q_131.2 30 (by decide)) (by omega)
          refine ti_callVv (ci := 10) (av := [.int x_125, .int r_126]) C hw (s_X10_reads l D A cy hJ M_127 iM_127 x_125 r_126 (by omega) (by omega) (bn_p (by omega) (ib_mk (lo := 0) (hi := 7) (by omega) (by omega)))) ⟨ml_X10_244, ym_X10_reads, yv_X10_reads, yi_X10_reads, yc_X10_reads⟩ yd_X10_reads ob_60 (by decide) rfl rfl hl.1 (Nat.le_of_ble_eq_true rfl) ⟨by decide, by decide⟩ ⟨Nat.zero_le _, Nat.zero_le _⟩ dX10_powerLine_104 (fun M_139 H locs hp_139 hw => ?_)
          obtain ⟨iM_139, hM_139⟩ := hp_139
          have z_140 := s5_3 hM_139 (by omega)
          have hs_141 := rQ_3x hs_128 hM_139 (by omega)
          have tl_143 : qL (pp_su td (24 + x_125.toInt.toNat) (g_123 1)) M_139 := qL_r (c := (24 + x_125.toInt.toNat)) tl_137 hM_139 (fun q8 => hm_129 (by have q7 := ff_1 q8; exact ff_y (by omega))) (Or.inr ⟨by omega, by omega, by omega⟩) (fun q8 => by have h9 := (fun q8 => hm_129 (by have q7 := ff_1 q8; exact ff_y (by omega))) q8; refine ⟨fun _ => ?_, fun _ => ?_, fun _ => ?_, fun _ => ?_, fun _ => ?_, fun _ => ?_, fun _ => ?_⟩ <;> omega)
          obtain ⟨d_142, ed_142⟩ : ∃ z : Nat → Int, z = pp_su td (24 + x_125.toInt.toNat) (g_123 1) := ⟨_, rfl⟩
          rw [← ed_142] at tl_143
          exact hQ _ _ _ _ _ hw (⟨(gU.trans (gU_Yx hM_139 (by decide)) (gU.trans (gU_e q_131.1) (gU.trans (gU_e q_115.1) (gU_e (ry_I hM_102))))), (by have e := (pT_pw (rQ_T hr hf)).1 ⟨by omega, by omega, by omega⟩; have b9 := rQ_b9 hr (rQ_g0 hr hf) ⟨e.1, e.2.1⟩; rw [show (rg 0).toNat + 3 = (x_71.toInt).toNat by omega] at b9; unfold qq_pq pp_on; rw [if_pos ⟨e.1, e.2.1⟩, if_pos (by omega), ← eg_109, ← eg_123, show 32 + (rg 0 - 9).toNat = 24 + x_125.toInt.toNat by omega, ← ed_142]; exact tl_143), (by have e := (pT_pw (rQ_T hr hf)).1 ⟨by omega, by omega, by omega⟩; have b9 := rQ_b9 hr (rQ_g0 hr hf) ⟨e.1, e.2.1⟩; rw [show (rg 0).toNat + 3 = (x_71.toInt).toNat by omega] at b9; unfold pp_pq pp_on; rw [if_pos ⟨e.1, e.2.1⟩, if_pos (by omega), ← eg_109, ← eg_123, ← eg_136]; exact hs_141), iM_139, (l0.trans (l0_3 hM_139 (by omega)) (l0.trans (l0_pr q_131 (by decide) (by decide)) (l0.trans (l0_pr q_115 (by decide) (by decide)) (l0_I hM_102 (by decide))))), (by omega), (by omega), (by omega), (by omega), (by omega), (by omega)⟩) dX10_powerLine_107
        · refine lv_aload_n hx hb dX10_powerLine_60 rfl (lv_at hl 1 rfl) ?_
          refine lv_iconst (v := 3) hx hb dX10_powerLine_61 (by decide) ?_
          refine ti_callVv (ci := 10) (av := [.int 3]) C hw (x_X10_wrong l D A cy hJ M hI 3 (by decide) B n rg hr) ⟨ml_X10_217, ym_X10_wrong, yv_X10_wrong, yi_X10_wrong, yc_X10_wrong⟩ yd_X10_wrong ob_60 (by decide) rfl rfl hl.1 (Nat.le_of_ble_eq_true rfl) ⟨by decide, by decide⟩ ⟨Nat.zero_le _, Nat.zero_le _⟩ dX10_powerLine_62 (fun M_76 H locs hp_76 hw => ?_)
          rw [show (3 : Int32).toInt = 3 by decide] at hp_76
          obtain ⟨hs_77, hp_78⟩ := hp_76
          obtain ⟨iM_76, q_79, z_80, z_81, z_82, z_83, z_84⟩ := l_wr hp_78
          clear hp_78
          obtain ⟨g_85, eg_85⟩ : ∃ z : Nat → Int, z = pp_rf 3 rg := ⟨_, rfl⟩
          rw [← eg_85] at hs_77
          have tl_86 : qL td M_76 := qL_fr hql q_79.1 (q_79.2 18 (by decide)) (q_79.2 30 (by decide)) (by omega)
          refine lv_aload_n hx hb dX10_powerLine_65 rfl (lv_at hl 1 rfl) ?_
          refine ti_get (ci := 10) (k := 25) (N := 67) (T := TX10) C hw iw_10 rfl ob_60 (by decide) (by decide) fl_X10_208 rfl rfl dX10_powerLine_66 ?_
          refine lv_topi (fun x_95 ex_95 => ?_)
          have u_96 : (tI M_76 60 25).toInt = x_95.toInt := by rw [ex_95]
          have ufx_95 : (tI M_76 60 25).toInt = x_95.toInt := by rw [ex_95]
          refine sb_if_eq (tgt := 73) hx hb rfl dX10_powerLine_69 (by decide) (fun c_69_96 => by have z_98 : ff M_76 = 1 := ff_1 (ufx_95.trans c_69_96); omega) (fun c_69_96 => ?_)
          have z_98 : ff M_76 = 0 := ff_0 (fun h => c_69_96 (ufx_95.symm.trans h))
          clear c_69_96
          exact hQ _ _ _ _ _ hw (⟨(gU_e q_79.1), (qL_f (by omega)), (by have e := (pT_pw (rQ_T hr hf)).1 ⟨by omega, by omega, by omega⟩; have b9 := rQ_b9 hr (rQ_g0 hr hf) ⟨e.1, e.2.1⟩; rw [show (rg 0).toNat + 3 = (x_71.toInt).toNat by omega] at b9; unfold pp_pq pp_on; rw [if_pos ⟨e.1, e.2.1⟩, if_neg (by omega), ← eg_85]; exact rQ_f hs_77 (rQ_g1 hs_77 (by omega)) (nb_f (rQ_z hs_77 (rQ_g1 hs_77 (by omega))))), iM_76, (l0_pr q_79 (by decide) (by decide)), (by omega), (by omega), (by omega), (by omega), (by omega), (by omega)⟩) dX10_powerLine_72
      · refine lv_aload_n hx hb dX10_powerLine_25 rfl (lv_at hl 0 rfl) ?_
        refine lv_iconst (v := 1) hx hb dX10_powerLine_26 (by decide) ?_
        refine ti_callVv (ci := 10) (av := [.int 1]) C hw (x_X10_wrong l D A cy hJ M hI 1 (by decide) B n rg hr) ⟨ml_X10_217, ym_X10_wrong, yv_X10_wrong, yi_X10_wrong, yc_X10_wrong⟩ yd_X10_wrong ob_60 (by decide) rfl rfl hl.1 (Nat.le_of_ble_eq_true rfl) ⟨by decide, by decide⟩ ⟨Nat.zero_le _, Nat.zero_le _⟩ dX10_powerLine_27 (fun M_34 H locs hp_34 hw => ?_)
        rw [show (1 : Int32).toInt = 1 by decide] at hp_34
        obtain ⟨hs_35, hp_36⟩ := hp_34
        obtain ⟨iM_34, q_37, z_38, z_39, z_40, z_41, z_42⟩ := l_wr hp_36
        clear hp_36
        obtain ⟨g_43, eg_43⟩ : ∃ z : Nat → Int, z = pp_rf 1 rg := ⟨_, rfl⟩
        rw [← eg_43] at hs_35
        have tl_44 : qL td M_34 := qL_fr hql q_37.1 (q_37.2 18 (by decide)) (q_37.2 30 (by decide)) (by omega)
        refine lv_aload_n hx hb dX10_powerLine_30 rfl (lv_at hl 0 rfl) ?_
        refine ti_get (ci := 10) (k := 24) (N := 67) (T := TX10) C hw iw_10 rfl ob_60 (by decide) (by decide) fl_X10_183 rfl rfl dX10_powerLine_31 ?_
        refine ti_top (y := x_4) ((q_37.2 24 (by decide)).trans ex_4.symm) ?_
        have uqu_64 : (tI M_34 60 24).toInt = x_4.toInt := by rw [((q_37.2 24 (by decide)).trans ex_4.symm)]
        refine lv_bipush (v := 10) hx hb dX10_powerLine_34 (by decide) ?_
        refine lv_isub hx hb dX10_powerLine_36 ?_
        refine lv_topi (fun x_65 ex_65 => ?_)
        refine lv_istore_n (lv' := [(1, .int x_65), (0, .ref (A 60 0))]) hx hb dX10_powerLine_37 rfl hl (by decide) rfl (fun ls hl => ?_)
        refine lv_aload_n hx hb dX10_powerLine_38 rfl (lv_at hl 1 rfl) ?_
        refine ti_get (ci := 10) (k := 25) (N := 67) (T := TX10) C hw iw_10 rfl ob_60 (by decide) (by decide) fl_X10_208 rfl rfl dX10_powerLine_39 ?_
        refine lv_topi (fun x_66 ex_66 => ?_)
        have u_67 : (tI M_34 60 25).toInt = x_66.toInt := by rw [ex_66]
        have ufx_66 : (tI M_34 60 25).toInt = x_66.toInt := by rw [ex_66]
        refine sb_if_ne (tgt := 65) hx hb rfl dX10_powerLine_42 (by decide) (fun c_42_67 => ?_) (fun c_42_67 => by have z_69 : ff M_34 = 1 := ff_1 (ufx_66.trans c_42_67); omega)
        have z_69 : ff M_34 = 0 := ff_0 (fun h => c_42_67 (ufx_66.symm.trans h))
        clear c_42_67
        refine lv_aload_n hx hb dX10_powerLine_65 rfl (lv_at hl 1 rfl) ?_
        refine ti_get (ci := 10) (k := 25) (N := 67) (T := TX10) C hw iw_10 rfl ob_60 (by decide) (by decide) fl_X10_208 rfl rfl dX10_powerLine_66 ?_
        refine ti_top (y := x_66) (ex_66.symm) ?_
        refine sb_if_eq (tgt := 73) hx hb rfl dX10_powerLine_69 (by decide) (fun c_69_90 => by have z_92 : ff M_34 = 1 := ff_1 (ufx_66.trans c_69_90); omega) (fun c_69_90 => ?_)
        have z_92 : ff M_34 = 0 := ff_0 (fun h => c_69_90 (ufx_66.symm.trans h))
        clear c_69_90
        exact hQ _ _ _ _ _ hw (⟨(gU_e q_37.1), (qL_f (by omega)), (by unfold pp_pq; rw [if_neg (fun q => by have e := (pT_nw (rQ_T hr hf)).1 q; omega), ← eg_43]; exact hs_35), iM_34, (l0_pr q_37 (by decide) (by decide)), (by omega), (by omega), (by omega), (by omega), (by omega), (by omega)⟩) dX10_powerLine_72
set_option maxHeartbeats 4000000 in
set_option maxRecDepth 100000 in
theorem x_X10_lawLine (l : Launch) (D : va_G) (A : Nat → Nat → Nat) (cy : Nat → ClassId) (hJ : ti_inj ti_LM A) (M : ti_M) (hI : mI Tm M) (hf : ff M = 1) (hum : um M) (h1 : (tY M 60 3 18).toInt ≤ (tI M 60 30).toInt + 64 - 64 * ff M) (h2 : (tI M 60 29).toInt ≤ 8 - 8 * ff M) (B : Nat → Int) (n : Nat) (rg : Nat → Int) (hr : rQ B n rg M) (td : Nat → Int) (hql : qL td M) : ti_KvE l yX10_lawLine cX10_lawLine 2 650 ti_LM D A cy M [.ref (A 60 0)] (fun M2 => gU M2 M ∧ qL (qq_lq B n rg td) M2 ∧ rQ B n (pp_lq B n rg) M2 ∧ mI Tm M2 ∧ ln M2 M ∧ (pg M ≤ pg M2) ∧ (0 ≤ ff M2) ∧ (ff M2 ≤ ff M) ∧ ((tY M2 60 3 18).toInt ≤ (tI M2 60 30).toInt + 64 - 64 * ff M2) ∧ ((tI M2 60 29).toInt ≤ 8 - 8 * ff M2) ∧ (0 ≤ (tY M2 60 3 18).toInt) ∧ ((tY M2 60 3 18).toInt ≤ 64) ∧ (0 ≤ (tI M2 60 29).toInt) ∧ ((tI M2 60 29).toInt ≤ 8) ∧ (0 ≤ (tI M2 60 30).toInt) ∧ ((tI M2 60 30).toInt ≤ 64) ∧ um M2) := by
  refine ti_eVE yp_X10_lawLine hJ ti_LM_nd (Nat.le_of_ble_eq_true rfl) ?_
  intro p e s m args below meth c Q H0 C hE hQ hw ls hl
  have hx := C.1
  have hb := C.2.1
  have hl : lv_has ls 2 [(0, .ref (A 60 0))] := hl
  have hI30 := b30 hI
  have hI29 := b29 hI
  have hI18 := b18 hI
  have hIff := ff_b M
  refine lv_aload_n hx hb dX10_lawLine_0 rfl (lv_at hl 0 rfl) ?_
  refine ti_get (ci := 10) (k := 23) (N := 67) (T := TX10) C hw iw_10 rfl ob_60 (by decide) (by decide) fl_X10_173 rfl rfl dX10_lawLine_1 ?_
  refine lv_topi (fun x_1 ex_1 => ?_)
  have uqu_2 : (tI M 60 23).toInt = x_1.toInt := by rw [(ex_1.symm)]
  refine sb_if_ne (tgt := 25) hx hb rfl dX10_lawLine_4 (by decide) (fun c_4_2 => ?_) (fun c_4_2 => ?_)
  · refine lv_aload_n hx hb dX10_lawLine_25 rfl (lv_at hl 0 rfl) ?_
    refine lv_iconst (v := 1) hx hb dX10_lawLine_26 (by decide) ?_
    refine ti_callVv (ci := 10) (av := [.int 1]) C hw (x_X10_wrong l D A cy hJ M hI 1 (by decide) B n rg hr) ⟨ml_X10_217, ym_X10_wrong, yv_X10_wrong, yi_X10_wrong, yc_X10_wrong⟩ yd_X10_wrong ob_60 (by decide) rfl rfl hl.1 (Nat.le_of_ble_eq_true rfl) ⟨by decide, by decide⟩ ⟨Nat.zero_le _, Nat.zero_le _⟩ dX10_lawLine_27 (fun M_10 H locs hp_10 hw => ?_)
    rw [show (1 : Int32).toInt = 1 by decide] at hp_10
    obtain ⟨hs_11, hp_12⟩ := hp_10
    obtain ⟨iM_10, q_13, z_14, z_15, z_16, z_17, z_18⟩ := l_wr hp_12
    clear hp_12
    obtain ⟨g_19, eg_19⟩ : ∃ z : Nat → Int, z = pp_rf 1 rg := ⟨_, rfl⟩
    rw [← eg_19] at hs_11
    have tl_20 : qL td M_10 := qL_fr hql q_13.1 (q_13.2 18 (by decide)) (q_13.2 30 (by decide)) (by omega)
    refine lv_aload_n hx hb dX10_lawLine_30 rfl (lv_at hl 0 rfl) ?_
    refine ti_get (ci := 10) (k := 24) (N := 67) (T := TX10) C hw iw_10 rfl ob_60 (by decide) (by decide) fl_X10_183 rfl rfl dX10_lawLine_31 ?_
    refine lv_topi (fun x_51 ex_51 => ?_)
    have uqu_52 : (tI M_10 60 24).toInt = x_51.toInt := by rw [(ex_51.symm)]
    refine lv_bipush (v := 13) hx hb dX10_lawLine_34 (by decide) ?_
    refine lv_isub hx hb dX10_lawLine_36 ?_
    refine lv_topi (fun x_53 ex_53 => ?_)
    refine lv_istore_n (lv' := [(1, .int x_53), (0, .ref (A 60 0))]) hx hb dX10_lawLine_37 rfl hl (by decide) rfl (fun ls hl => ?_)
    refine lv_aload_n hx hb dX10_lawLine_38 rfl (lv_at hl 1 rfl) ?_
    refine ti_get (ci := 10) (k := 25) (N := 67) (T := TX10) C hw iw_10 rfl ob_60 (by decide) (by decide) fl_X10_208 rfl rfl dX10_lawLine_39 ?_
    refine lv_topi (fun x_54 ex_54 => ?_)
    have u_55 : (tI M_10 60 25).toInt = x_54.toInt := by rw [ex_54]
    have ufx_54 : (tI M_10 60 25).toInt = x_54.toInt := by rw [ex_54]
    refine sb_if_ne (tgt := 65) hx hb rfl dX10_lawLine_42 (by decide) (fun c_42_55 => ?_) (fun c_42_55 => by have z_57 : ff M_10 = 1 := ff_1 (ufx_54.trans c_42_55); omega)
    have z_57 : ff M_10 = 0 := ff_0 (fun h => c_42_55 (ufx_54.symm.trans h))
    clear c_42_55
    refine lv_aload_n hx hb dX10_lawLine_65 rfl (lv_at hl 1 rfl) ?_
    refine ti_get (ci := 10) (k := 25) (N := 67) (T := TX10) C hw iw_10 rfl ob_60 (by decide) (by decide) fl_X10_208 rfl rfl dX10_lawLine_66 ?_
    refine ti_top (y := x_54) (ex_54.symm) ?_
    refine sb_if_eq (tgt := 73) hx hb rfl dX10_lawLine_69 (by decide) (fun c_69_86 => by have z_88 : ff M_10 = 1 := ff_1 (ufx_54.trans c_69_86); omega) (fun c_69_86 => ?_)
    have z_88 : ff M_10 = 0 := ff_0 (fun h => c_69_86 (ufx_54.symm.trans h))
    clear c_69_86
    exact hQ _ _ _ _ _ hw (⟨(gU_e q_13.1), (qL_f (by omega)), (by unfold pp_lq; rw [if_neg (fun q => by have e := (pT_nw (rQ_T hr hf)).2.1 q; omega), ← eg_19]; exact hs_11), iM_10, (ln_l0 (l0_pr q_13 (by decide) (by decide))), (by omega), (by omega), (by omega), (by omega), (by omega), (by omega), (by omega), (by omega), (by omega), (by omega), (by omega), Or.inl (by omega)⟩) dX10_lawLine_72
  · refine lv_aload_n hx hb dX10_lawLine_7 rfl (lv_at hl 0 rfl) ?_
    refine ti_get (ci := 10) (k := 24) (N := 67) (T := TX10) C hw iw_10 rfl ob_60 (by decide) (by decide) fl_X10_183 rfl rfl dX10_lawLine_8 ?_
    refine lv_topi (fun x_4 ex_4 => ?_)
    have uqu_5 : (tI M 60 24).toInt = x_4.toInt := by rw [(ex_4.symm)]
    refine lv_bipush (v := 13) hx hb dX10_lawLine_11 (by decide) ?_
    refine sb_icmp_lt (tgt := 25) hx hb rfl (by decide : (13 : Int32).toInt = 13) dX10_lawLine_13 (by decide) (fun c_13_5 => ?_) (fun c_13_5 => ?_)
    · refine lv_aload_n hx hb dX10_lawLine_25 rfl (lv_at hl 0 rfl) ?_
      refine lv_iconst (v := 1) hx hb dX10_lawLine_26 (by decide) ?_
      refine ti_callVv (ci := 10) (av := [.int 1]) C hw (x_X10_wrong l D A cy hJ M hI 1 (by decide) B n rg hr) ⟨ml_X10_217, ym_X10_wrong, yv_X10_wrong, yi_X10_wrong, yc_X10_wrong⟩ yd_X10_wrong ob_60 (by decide) rfl rfl hl.1 (Nat.le_of_ble_eq_true rfl) ⟨by decide, by decide⟩ ⟨Nat.zero_le _, Nat.zero_le _⟩ dX10_lawLine_27 (fun M_22 H locs hp_22 hw => ?_)
      rw [show (1 : Int32).toInt = 1 by decide] at hp_22
      obtain ⟨hs_23, hp_24⟩ := hp_22
      obtain ⟨iM_22, q_25, z_26, z_27, z_28, z_29, z_30⟩ := l_wr hp_24
      clear hp_24
      obtain ⟨g_31, eg_31⟩ : ∃ z : Nat → Int, z = pp_rf 1 rg := ⟨_, rfl⟩
      rw [← eg_31] at hs_23
      have tl_32 : qL td M_22 := qL_fr hql q_25.1 (q_25.2 18 (by decide)) (q_25.2 30 (by decide)) (by omega)
      refine lv_aload_n hx hb dX10_lawLine_30 rfl (lv_at hl 0 rfl) ?_
      refine ti_get (ci := 10) (k := 24) (N := 67) (T := TX10) C hw iw_10 rfl ob_60 (by decide) (by decide) fl_X10_183 rfl rfl dX10_lawLine_31 ?_
      refine ti_top (y := x_4) ((q_25.2 24 (by decide)).trans ex_4.symm) ?_
      have uqu_58 : (tI M_22 60 24).toInt = x_4.toInt := by rw [((q_25.2 24 (by decide)).trans ex_4.symm)]
      refine lv_bipush (v := 13) hx hb dX10_lawLine_34 (by decide) ?_
      refine lv_isub hx hb dX10_lawLine_36 ?_
      refine lv_topi (fun x_59 ex_59 => ?_)
      refine lv_istore_n (lv' := [(1, .int x_59), (0, .ref (A 60 0))]) hx hb dX10_lawLine_37 rfl hl (by decide) rfl (fun ls hl => ?_)
      refine lv_aload_n hx hb dX10_lawLine_38 rfl (lv_at hl 1 rfl) ?_
      refine ti_get (ci := 10) (k := 25) (N := 67) (T := TX10) C hw iw_10 rfl ob_60 (by decide) (by decide) fl_X10_208 rfl rfl dX10_lawLine_39 ?_
      refine lv_topi (fun x_60 ex_60 => ?_)
      have u_61 : (tI M_22 60 25).toInt = x_60.toInt := by rw [ex_60]
      have ufx_60 : (tI M_22 60 25).toInt = x_60.toInt := by rw [ex_60]
      refine sb_if_ne (tgt := 65) hx hb rfl dX10_lawLine_42 (by decide) (fun c_42_61 => ?_) (fun c_42_61 => by have z_63 : ff M_22 = 1 := ff_1 (ufx_60.trans c_42_61); omega)
      have z_63 : ff M_22 = 0 := ff_0 (fun h => c_42_61 (ufx_60.symm.trans h))
      clear c_42_61
      refine lv_aload_n hx hb dX10_lawLine_65 rfl (lv_at hl 1 rfl) ?_
      refine ti_get (ci := 10) (k := 25) (N := 67) (T := TX10) C hw iw_10 rfl ob_60 (by decide) (by decide) fl_X10_208 rfl rfl dX10_lawLine_66 ?_
      refine ti_top (y := x_60) (ex_60.symm) ?_
      refine sb_if_eq (tgt := 73) hx hb rfl dX10_lawLine_69 (by decide) (fun c_69_88 => by have z_90 : ff M_22 = 1 := ff_1 (ufx_60.trans c_69_88); omega) (fun c_69_88 => ?_)
      have z_90 : ff M_22 = 0 := ff_0 (fun h => c_69_88 (ufx_60.symm.trans h))
      clear c_69_88
      exact hQ _ _ _ _ _ hw (⟨(gU_e q_25.1), (qL_f (by omega)), (by unfold pp_lq; rw [if_neg (fun q => by have e := (pT_nw (rQ_T hr hf)).2.1 q; omega), ← eg_31]; exact hs_23), iM_22, (ln_l0 (l0_pr q_25 (by decide) (by decide))), (by omega), (by omega), (by omega), (by omega), (by omega), (by omega), (by omega), (by omega), (by omega), (by omega), (by omega), Or.inl (by omega)⟩) dX10_lawLine_72
    · refine lv_aload_n hx hb dX10_lawLine_16 rfl (lv_at hl 0 rfl) ?_
      refine ti_get (ci := 10) (k := 24) (N := 67) (T := TX10) C hw iw_10 rfl ob_60 (by decide) (by decide) fl_X10_183 rfl rfl dX10_lawLine_17 ?_
      refine ti_top (y := x_4) (ex_4.symm) ?_
      have uqu_7 : (tI M 60 24).toInt = x_4.toInt := by rw [(ex_4.symm)]
      refine lv_bipush (v := 15) hx hb dX10_lawLine_20 (by decide) ?_
      refine sb_icmp_le (tgt := 30) hx hb rfl (by decide : (15 : Int32).toInt = 15) dX10_lawLine_22 (by decide) (fun c_22_7 => ?_) (fun c_22_7 => ?_)
      · refine lv_aload_n hx hb dX10_lawLine_30 rfl (lv_at hl 0 rfl) ?_
        refine ti_get (ci := 10) (k := 24) (N := 67) (T := TX10) C hw iw_10 rfl ob_60 (by decide) (by decide) fl_X10_183 rfl rfl dX10_lawLine_31 ?_
        refine ti_top (y := x_4) (ex_4.symm) ?_
        have uqu_45 : (tI M 60 24).toInt = x_4.toInt := by rw [(ex_4.symm)]
        refine lv_bipush (v := 13) hx hb dX10_lawLine_34 (by decide) ?_
        refine lv_isub hx hb dX10_lawLine_36 ?_
        refine lv_topi (fun x_46 ex_46 => ?_)
        have lox_46x_4 := x_4.le_toInt
        have hix_46x_4 := x_4.toInt_lt
        have tx_46 : x_46.toInt = x_4.toInt - 13 := i_sub ex_46 rfl (by decide : (13 : Int32).toInt = 13) (by omega) (by omega)
        refine lv_istore_n (lv' := [(1, .int x_46), (0, .ref (A 60 0))]) hx hb dX10_lawLine_37 rfl hl (by decide) rfl (fun ls hl => ?_)
        refine lv_aload_n hx hb dX10_lawLine_38 rfl (lv_at hl 1 rfl) ?_
        refine ti_get (ci := 10) (k := 25) (N := 67) (T := TX10) C hw iw_10 rfl ob_60 (by decide) (by decide) fl_X10_208 rfl rfl dX10_lawLine_39 ?_
        refine lv_topi (fun x_47 ex_47 => ?_)
        have u_48 : (tI M 60 25).toInt = x_47.toInt := by rw [ex_47]
        have ufx_47 : (tI M 60 25).toInt = x_47.toInt := by rw [ex_47]
        refine sb_if_ne (tgt := 65) hx hb rfl dX10_lawLine_42 (by decide) (fun c_42_48 => by have z_50 : ff M = 0 := ff_0 (fun h => c_42_48 (ufx_47.symm.trans h)); omega) (fun c_42_48 => ?_)
        have z_50 : ff M = 1 := ff_1 (ufx_47.trans c_42_48)
        clear c_42_48
        refine lv_aload_n hx hb dX10_lawLine_45 rfl (lv_at hl 1 rfl) ?_
        refine ti_get (ci := 10) (k := 18) (N := 67) (T := TX10) C hw iw_10 rfl ob_60 (by decide) (by decide) fl_X10_228 rfl rfl dX10_lawLine_46 ?_
        refine lv_topi (fun x_70 ex_70 => ?_)
        refine lv_bipush (v := 16) hx hb dX10_lawLine_49 (by decide) ?_
        refine lv_iload_n hx hb dX10_lawLine_51 rfl (lv_at hl 0 rfl) ?_
        refine lv_iadd hx hb dX10_lawLine_52 ?_
        refine lv_topi (fun x_71 ex_71 => ?_)
        have tx_71 : x_71.toInt = 16 + x_46.toInt := i_add ex_71 (by decide : (16 : Int32).toInt = 16) rfl (by omega) (by omega)
        refine lv_ishr hx hb dX10_lawLine_53 ?_
        refine lv_topi (fun x_72 ex_72 => ?_)
        refine lv_iconst (v := 1) hx hb dX10_lawLine_54 (by decide) ?_
        refine lv_iand hx hb dX10_lawLine_55 ?_
        refine lv_topi (fun x_73 ex_73 => ?_)
        have bx_73 := i_and 1 ex_73 (by decide) (by decide)
        have bsx_73 : x_73.toInt = pp_bt (tI M 60 18) (x_71.toInt).toNat := by rw [(ex_70.symm)]; exact bt_shr (k := x_71.toInt) ex_72 rfl (by omega) (by omega) ex_73
        have box_73 := bt_01 (tI M 60 18) (x_71.toInt).toNat
        refine lv_iconst (v := 1) hx hb dX10_lawLine_56 (by decide) ?_
        refine sb_icmp_ne (tgt := 65) hx hb rfl (by decide : (1 : Int32).toInt = 1) dX10_lawLine_57 (by decide) (fun c_57_73 => ?_) (fun c_57_73 => ?_)
        · refine lv_aload_n hx hb dX10_lawLine_65 rfl (lv_at hl 1 rfl) ?_
          refine ti_get (ci := 10) (k := 25) (N := 67) (T := TX10) C hw iw_10 rfl ob_60 (by decide) (by decide) fl_X10_208 rfl rfl dX10_lawLine_66 ?_
          refine ti_top (y := x_47) (ex_47.symm) ?_
          refine sb_if_eq (tgt := 73) hx hb rfl dX10_lawLine_69 (by decide) (fun c_69_92 => ?_) (fun c_69_92 => by have z_94 : ff M = 0 := ff_0 (fun h => c_69_92 (ufx_47.symm.trans h)); omega)
          have z_94 : ff M = 1 := ff_1 (ufx_47.trans c_69_92)
          clear c_69_92
          refine lv_aload_n hx hb dX10_lawLine_73 rfl (lv_at hl 1 rfl) ?_
          refine lv_dup hx hb dX10_lawLine_74 rfl ?_
          refine ti_get (ci := 10) (k := 18) (N := 67) (T := TX10) C hw iw_10 rfl ob_60 (by decide) (by decide) fl_X10_228 rfl rfl dX10_lawLine_75 ?_
          refine ti_top (y := x_70) (ex_70.symm) ?_
          refine lv_iconst (v := 1) hx hb dX10_lawLine_78 (by decide) ?_
          refine lv_bipush (v := 16) hx hb dX10_lawLine_79 (by decide) ?_
          refine lv_iload_n hx hb dX10_lawLine_81 rfl (lv_at hl 0 rfl) ?_
          refine lv_iadd hx hb dX10_lawLine_82 ?_
          refine lv_topi (fun x_99 ex_99 => ?_)
          have tx_99 : x_99.toInt = 16 + x_46.toInt := i_add ex_99 (by decide : (16 : Int32).toInt = 16) rfl (by omega) (by omega)
          refine lv_ishl hx hb dX10_lawLine_83 ?_
          refine lv_topi (fun x_100 ex_100 => ?_)
          refine lv_ior hx hb dX10_lawLine_84 ?_
          refine lv_topi (fun x_101 ex_101 => ?_)
          refine ti_putI (ci := 10) (k := 18) (N := 67) (T := TX10) C hw iw_10 tyX10 tyX10_ok nmX10 rfl ob_60 (by decide) (by decide) fl_X10_228 rfl rfl rfl rfl (fn_10 A _) fs_10_18 dX10_lawLine_85 (fun H locs hw => ?_)
          obtain ⟨M_102, hM_102⟩ : ∃ z : ti_M, z = uI M 60 18 x_101 := ⟨_, rfl⟩
          have hw := hw.to hM_102.symm
          have iM_102 : mI Tm M_102 := mI_uI hI hM_102 (by decide) (by decide) trivial
          have z_103 : ff M_102 = ff M := ff_I hM_102 (by decide)
          have z_104 : pg M_102 = pg M := pg_I hM_102 (by decide)
          have z_105 : (tI M_102 60 29).toInt = (tI M 60 29).toInt := by rw [tI_nE hM_102 (nk (by decide))]
          have z_106 : (tI M_102 60 30).toInt = (tI M 60 30).toInt := by rw [tI_nE hM_102 (nk (by decide))]
          have z_107 : (tY M_102 60 3 18).toInt = (tY M 60 3 18).toInt := by rw [tY_uIE hM_102]
          have e0 := (pT_pw (rQ_T hr hf)).2.1 ⟨by omega, by omega, by omega⟩
          have hs_108 := rQ_18 (k0 := (x_99.toInt).toNat) (r := 300 + (rg 0).toNat) hr hM_102 (fun j hj => (bt_or (k := x_99.toInt) ex_100 rfl (by omega) (by omega) ex_101 j hj).trans (by rw [← (ex_70.symm)])) (by omega)
          obtain ⟨g_109, eg_109⟩ : ∃ z : Nat → Int, z = pp_su rg (300 + (rg 0).toNat) 1 := ⟨_, rfl⟩
          rw [← eg_109] at hs_108
          have tl_110 : qL td M_102 := qL_18 (k0 := (x_99.toInt).toNat) hql hM_102 (fun j hj => (bt_or (k := x_99.toInt) ex_100 rfl (by omega) (by omega) ex_101 j hj).trans (by rw [← (ex_70.symm)]))
          have w18 : ∀ j : Nat, j < 32 → pp_bt x_101 j = if j = (x_99.toInt).toNat then 1 else pp_bt (tI M 60 18) j := (fun j hj => (bt_or (k := x_99.toInt) ex_100 rfl (by omega) (by omega) ex_101 j hj).trans (by rw [← (ex_70.symm)]))
          have t0 : (tI M 60 25).toInt = 0 → td (300 + (rg 0 - 12).toNat) = 0 := fun q => ((hql q).2.2.2.2 (rg 0 - 12).toNat (by omega)).1 (by rw [show 16 + (rg 0 - 12).toNat = (x_71.toInt).toNat by omega]; omega)
          refine lv_aload_n hx hb dX10_lawLine_88 rfl (lv_at hl 1 rfl) ?_
          refine ti_callVvE (ci := 10) (av := []) C hE hw (x_X10_token l D A cy hJ M_102 iM_102 ) ⟨ml_X10_214, ym_X10_token, yv_X10_token, yi_X10_token, yc_X10_token⟩ yd_X10_token ob_60 (by decide) rfl rfl hl.1 (Nat.le_of_ble_eq_true rfl) ⟨by decide, by decide⟩ ⟨Nat.zero_le _, Nat.zero_le _⟩ dX10_lawLine_89 (fun M_112 H locs hp_112 hw => ?_)
          obtain ⟨iM_112, q_115, z_113, z_114, k2M_112, k3M_112, k4M_112⟩ := hp_112
          have hs_116 := rQ_av hs_108 (rQ_g0 hs_108 (by omega)) (iM_102.1 21).1 q_115 k2M_112 k3M_112 k4M_112
          obtain ⟨-, -, z_117, z_118, z_119, z_120, z_121, z_122⟩ := l_tk ⟨iM_112, q_115, z_113, z_114⟩
          clear z_113 z_114 k2M_112 k3M_112 k4M_112
          obtain ⟨g_123, eg_123⟩ : ∃ z : Nat → Int, z = pp_av B n g_109 := ⟨_, rfl⟩
          rw [← eg_123] at hs_116
          have tl_124 : qL td M_112 := qL_fr tl_110 q_115.1 (q_115.2 18 (by decide)) (q_115.2 30 (by decide)) (by omega)
          refine lv_aload_n hx hb dX10_lawLine_92 rfl (lv_at hl 1 rfl) ?_
          refine ti_get (ci := 10) (k := 14) (N := 67) (T := TX10) (v := .ref (A 60 15)) C hw iw_10 rfl ob_60 (by decide) (by decide) fl_X10_46 rfl rfl dX10_lawLine_93 ?_
          refine lv_iconst (v := 3) hx hb dX10_lawLine_96 (by decide) ?_
          refine lv_iload_n hx hb dX10_lawLine_97 rfl (lv_at hl 0 rfl) ?_
          refine lv_iadd hx hb dX10_lawLine_98 ?_
          refine lv_topi (fun x_125 ex_125 => ?_)
          have tx_125 : x_125.toInt = 3 + x_46.toInt := i_add ex_125 (by decide : (3 : Int32).toInt = 3) rfl (by omega) (by omega)
          refine lv_aload_n hx hb dX10_lawLine_99 rfl (lv_at hl 1 rfl) ?_
          refine lv_bipush (v := 7) hx hb dX10_lawLine_100 (by decide) ?_
          refine ti_callVi (ci := 10) (av := [.int 7]) C hw (s_X10_fresher_7 l D A cy hJ M_112 iM_112 ) ⟨ml_X10_224, ym_X10_fresher, yv_X10_fresher, yi_X10_fresher, yc_X10_fresher⟩ yd_X10_fresher ob_60 (by decide) rfl rfl hl.1 (Nat.le_of_ble_eq_true rfl) ⟨by decide, by decide⟩ ⟨Nat.zero_le _, Nat.zero_le _⟩ dX10_lawLine_102 (fun r_126 M_127 H locs hp_127 hw => ?_)
          obtain ⟨hm, b0r_126, b1r_126, yr_126⟩ := hp_127
          have hw := hw.to hm
          have zr_126 : (tY M_112 60 3 18).toInt = r_126.toInt := by rw [yr_126]
          refine ti_iast (ci := 10) (k := 14) (n := 6) C hw ob_60 (by decide) (fun _ _ => rfl) (vp_in_iff.mpr (by omega)) dX10_lawLine_105 (fun H locs hw => ?_)
          obtain ⟨M_128, hM_128⟩ : ∃ z : ti_M, z = uY M_112 60 14 (upd (tY M_112 60 14) (x_125 : Int32).toNatClampNeg r_126) := ⟨_, rfl⟩
          have hw := hw.to hM_128.symm
          have iM_128 : mI Tm M_128 := mI_up (i := x_125.toNatClampNeg) iM_112 hM_128 (ib_mk (lo := 0) (hi := 64) (by omega) (by omega))
          have z_129 := s5_Y hM_128 (by decide)
          have hs_131 := rQ_Yx hs_116 hM_128 (by decide) (by decide) (by decide) (by decide)
          refine lv_aload_n hx hb dX10_lawLine_106 rfl (lv_at hl 1 rfl) ?_
          refine ti_callVvE (ci := 10) (av := []) C hE hw (x_X10_expression 8 l D A cy hJ M_128 iM_128 (tY M_128 60 3 18).toInt.toNat 0 (by decide) (us_0 iM_128) (by omega) (by omega) (by omega) B n g_123 hs_131 (rg 0 - 12).toNat (by omega) td (qE_0 (by omega) (fun q9 => t0 (by have q8 := ff_1 q9; exact ff_y (by omega)))) (vs_fr (vs_av hs_116 (by rw [eg_123]; exact av_v)) (by omega) (tI_uYE hM_128) (tI_uYE hM_128))) ⟨ml_X10_270, ym_X10_expression, yv_X10_expression, yi_X10_expression, yc_X10_expression⟩ yd_X10_expression ob_60 (by decide) rfl rfl hl.1 (Nat.le_of_ble_eq_true rfl) ⟨by decide, by decide⟩ ⟨Nat.zero_le _, Nat.zero_le _⟩ dX10_lawLine_107 (fun M_133 H locs hp_133 hw => ?_)
          obtain ⟨te_136, vs_137, hs_134, hp_135⟩ := hp_133
          obtain ⟨iM_133, q_138, p_139, p_140, p_141, p_142, p_143, p_144, p_145, p_146, p_147, p_148, p_149, p_150, p_151, u_152⟩ := hp_135
          obtain ⟨g_153, eg_153⟩ : ∃ z : Nat → Int, z = pp_ei B n (pp_pt B n 8) g_123 := ⟨_, rfl⟩
          rw [← eg_153] at hs_134
          obtain ⟨d_154, ed_154⟩ : ∃ z : Nat → Int, z = qq_ei B n (rg 0 - 12).toNat (pp_pt B n 8) (qq_pt B n (rg 0 - 12).toNat 8) g_123 td := ⟨_, rfl⟩
          rw [← ed_154] at te_136
          refine lv_aload_n hx hb dX10_lawLine_110 rfl (lv_at hl 1 rfl) ?_
          refine ti_get (ci := 10) (k := 15) (N := 67) (T := TX10) (v := .ref (A 60 16)) C hw iw_10 rfl ob_60 (by decide) (by decide) fl_X10_49 rfl rfl dX10_lawLine_111 ?_
          refine lv_iconst (v := 3) hx hb dX10_lawLine_114 (by decide) ?_
          refine lv_iload_n hx hb dX10_lawLine_115 rfl (lv_at hl 0 rfl) ?_
          refine lv_iadd hx hb dX10_lawLine_116 ?_
          refine lv_topi (fun x_155 ex_155 => ?_)
          have tx_155 : x_155.toInt = 3 + x_46.toInt := i_add ex_155 (by decide : (3 : Int32).toInt = 3) rfl (by omega) (by omega)
          refine lv_aload_n hx hb dX10_lawLine_117 rfl (lv_at hl 1 rfl) ?_
          refine lv_bipush (v := 7) hx hb dX10_lawLine_118 (by decide) ?_
          refine ti_callVi (ci := 10) (av := [.int 7]) C hw (s_X10_fresher_7 l D A cy hJ M_133 iM_133 ) ⟨ml_X10_224, ym_X10_fresher, yv_X10_fresher, yi_X10_fresher, yc_X10_fresher⟩ yd_X10_fresher ob_60 (by decide) rfl rfl hl.1 (Nat.le_of_ble_eq_true rfl) ⟨by decide, by decide⟩ ⟨Nat.zero_le _, Nat.zero_le _⟩ dX10_lawLine_120 (fun r_156 M_157 H locs hp_157 hw => ?_)
          obtain ⟨hm, b0r_156, b1r_156, yr_156⟩ := hp_157
          have hw := hw.to hm
          have zr_156 : (tY M_133 60 3 18).toInt = r_156.toInt := by rw [yr_156]
          refine ti_iast (ci := 10) (k := 15) (n := 6) C hw ob_60 (by decide) (fun _ _ => rfl) (vp_in_iff.mpr (by omega)) dX10_lawLine_123 (fun H locs hw => ?_)
          obtain ⟨M_158, hM_158⟩ : ∃ z : ti_M, z = uY M_133 60 15 (upd (tY M_133 60 15) (x_155 : Int32).toNatClampNeg r_156) := ⟨_, rfl⟩
          have hw := hw.to hM_158.symm
          have iM_158 : mI Tm M_158 := mI_up (i := x_155.toNatClampNeg) iM_133 hM_158 (ib_mk (lo := 0) (hi := 64) (by omega) (by omega))
          have z_159 := s5_Y hM_158 (by decide)
          have hs_161 := rQ_Yx hs_134 hM_158 (by decide) (by decide) (by decide) (by decide)
          exact hQ _ _ _ _ _ hw (⟨(gU.trans (gU_Yx hM_158 (by decide)) (gU.trans (gU_pe q_138) (gU.trans (gU_Yx hM_128 (by decide)) (gU.trans (gU_e q_115.1) (gU_e (ry_I hM_102)))))), (by have e := (pT_pw (rQ_T hr hf)).2.1 ⟨by omega, by omega, by omega⟩; have b9 := rQ_b12 hr (rQ_g0 hr hf) ⟨e.1, e.2.1⟩; rw [show (rg 0).toNat + 4 = (x_71.toInt).toNat by omega] at b9; unfold qq_lq pp_on; rw [if_pos ⟨e.1, e.2.1⟩, if_pos (by omega), ← eg_109, ← eg_123, ← ed_154]; exact qL_law (lj := (rg 0 - 12).toNat) tl_124 hM_128 (by omega) (by omega) (by omega) (by show (x_125 : Int32).toInt.toNat = _; omega) q_138 (by omega) te_136 (by omega) (by rw [ed_154]; exact tP_ei (tP_pt 8) _ _) hM_158 (by show (x_155 : Int32).toInt.toNat = (x_125 : Int32).toInt.toNat; omega) (by omega) (fun _ => by rw [show tI M_112 60 18 = tI M_102 60 18 from q_115.2 18 (by decide), tI_uE hM_102, show 16 + (rg 0 - 12).toNat = (x_99.toInt).toNat by omega]; rw [w18 (x_99.toInt).toNat (by omega), if_pos rfl]; decide) (fun q9 q8 => by have q7 := ff_1 q9; omega)), (by have e := (pT_pw (rQ_T hr hf)).2.1 ⟨by omega, by omega, by omega⟩; have b9 := rQ_b12 hr (rQ_g0 hr hf) ⟨e.1, e.2.1⟩; rw [show (rg 0).toNat + 4 = (x_71.toInt).toNat by omega] at b9; unfold pp_lq pp_on; rw [if_pos ⟨e.1, e.2.1⟩, if_pos (by omega), ← eg_109, ← eg_123, ← eg_153]; exact hs_161), iM_158, (ln.trans (ln_15 hM_158 (by show 3 ≤ (x_155 : Int32).toInt.toNat; omega)) (ln.trans (ln_pe q_138 iM_128) (ln.trans (ln_14 hM_128 (by show 3 ≤ (x_125 : Int32).toInt.toNat; omega)) (ln.trans (ln_l0 (l0_pr q_115 (by decide) (by decide))) (ln_l0 (l0_I hM_102 (by decide))))))), (by omega), (by omega), (by omega), (by omega), (by omega), (by omega), (by omega), (by omega), (by omega), (by omega), (by omega), um_law (um_l0 hum (l0.trans (l0_pr q_115 (by decide) (by decide)) (l0_I hM_102 (by decide))) (by omega)) iM_112 iM_133 hM_128 (by omega) (by show 3 ≤ (x_125 : Int32).toInt.toNat ∧ (x_125 : Int32).toInt.toNat ≤ 5; omega) q_138 (by omega) u_152 hM_158 (by show (x_155 : Int32).toInt.toNat = (x_125 : Int32).toInt.toNat; omega) (by omega)⟩) dX10_lawLine_124
        · refine lv_aload_n hx hb dX10_lawLine_60 rfl (lv_at hl 1 rfl) ?_
          refine lv_iconst (v := 3) hx hb dX10_lawLine_61 (by decide) ?_
          refine ti_callVv (ci := 10) (av := [.int 3]) C hw (x_X10_wrong l D A cy hJ M hI 3 (by decide) B n rg hr) ⟨ml_X10_217, ym_X10_wrong, yv_X10_wrong, yi_X10_wrong, yc_X10_wrong⟩ yd_X10_wrong ob_60 (by decide) rfl rfl hl.1 (Nat.le_of_ble_eq_true rfl) ⟨by decide, by decide⟩ ⟨Nat.zero_le _, Nat.zero_le _⟩ dX10_lawLine_62 (fun M_76 H locs hp_76 hw => ?_)
          rw [show (3 : Int32).toInt = 3 by decide] at hp_76
          obtain ⟨hs_77, hp_78⟩ := hp_76
          obtain ⟨iM_76, q_79, z_80, z_81, z_82, z_83, z_84⟩ := l_wr hp_78
          clear hp_78
          obtain ⟨g_85, eg_85⟩ : ∃ z : Nat → Int, z = pp_rf 3 rg := ⟨_, rfl⟩
          rw [← eg_85] at hs_77
          have tl_86 : qL td M_76 := qL_fr hql q_79.1 (q_79.2 18 (by decide)) (q_79.2 30 (by decide)) (by omega)
          refine lv_aload_n hx hb dX10_lawLine_65 rfl (lv_at hl 1 rfl) ?_
          refine ti_get (ci := 10) (k := 25) (N := 67) (T := TX10) C hw iw_10 rfl ob_60 (by decide) (by decide) fl_X10_208 rfl rfl dX10_lawLine_66 ?_
          refine lv_topi (fun x_95 ex_95 => ?_)
          have u_96 : (tI M_76 60 25).toInt = x_95.toInt := by rw [ex_95]
          have ufx_95 : (tI M_76 60 25).toInt = x_95.toInt := by rw [ex_95]
          refine sb_if_eq (tgt := 73) hx hb rfl dX10_lawLine_69 (by decide) (fun c_69_96 => by have z_98 : ff M_76 = 1 := ff_1 (ufx_95.trans c_69_96); omega) (fun c_69_96 => ?_)
          have z_98 : ff M_76 = 0 := ff_0 (fun h => c_69_96 (ufx_95.symm.trans h))
          clear c_69_96
          exact hQ _ _ _ _ _ hw (⟨(gU_e q_79.1), (qL_f (by omega)), (by have e := (pT_pw (rQ_T hr hf)).2.1 ⟨by omega, by omega, by omega⟩; have b9 := rQ_b12 hr (rQ_g0 hr hf) ⟨e.1, e.2.1⟩; rw [show (rg 0).toNat + 4 = (x_71.toInt).toNat by omega] at b9; unfold pp_lq pp_on; rw [if_pos ⟨e.1, e.2.1⟩, if_neg (by omega), ← eg_85]; exact rQ_f hs_77 (rQ_g1 hs_77 (by omega)) (ei_f (fun s h => pt_f h) (rQ_z hs_77 (rQ_g1 hs_77 (by omega))))), iM_76, (ln_l0 (l0_pr q_79 (by decide) (by decide))), (by omega), (by omega), (by omega), (by omega), (by omega), (by omega), (by omega), (by omega), (by omega), (by omega), (by omega), Or.inl (by omega)⟩) dX10_lawLine_72
      · refine lv_aload_n hx hb dX10_lawLine_25 rfl (lv_at hl 0 rfl) ?_
        refine lv_iconst (v := 1) hx hb dX10_lawLine_26 (by decide) ?_
        refine ti_callVv (ci := 10) (av := [.int 1]) C hw (x_X10_wrong l D A cy hJ M hI 1 (by decide) B n rg hr) ⟨ml_X10_217, ym_X10_wrong, yv_X10_wrong, yi_X10_wrong, yc_X10_wrong⟩ yd_X10_wrong ob_60 (by decide) rfl rfl hl.1 (Nat.le_of_ble_eq_true rfl) ⟨by decide, by decide⟩ ⟨Nat.zero_le _, Nat.zero_le _⟩ dX10_lawLine_27 (fun M_34 H locs hp_34 hw => ?_)
        rw [show (1 : Int32).toInt = 1 by decide] at hp_34
        obtain ⟨hs_35, hp_36⟩ := hp_34
        obtain ⟨iM_34, q_37, z_38, z_39, z_40, z_41, z_42⟩ := l_wr hp_36
        clear hp_36
        obtain ⟨g_43, eg_43⟩ : ∃ z : Nat → Int, z = pp_rf 1 rg := ⟨_, rfl⟩
        rw [← eg_43] at hs_35
        have tl_44 : qL td M_34 := qL_fr hql q_37.1 (q_37.2 18 (by decide)) (q_37.2 30 (by decide)) (by omega)
        refine lv_aload_n hx hb dX10_lawLine_30 rfl (lv_at hl 0 rfl) ?_
        refine ti_get (ci := 10) (k := 24) (N := 67) (T := TX10) C hw iw_10 rfl ob_60 (by decide) (by decide) fl_X10_183 rfl rfl dX10_lawLine_31 ?_
        refine ti_top (y := x_4) ((q_37.2 24 (by decide)).trans ex_4.symm) ?_
        have uqu_64 : (tI M_34 60 24).toInt = x_4.toInt := by rw [((q_37.2 24 (by decide)).trans ex_4.symm)]
        refine lv_bipush (v := 13) hx hb dX10_lawLine_34 (by decide) ?_
        refine lv_isub hx hb dX10_lawLine_36 ?_
        refine lv_topi (fun x_65 ex_65 => ?_)
        refine lv_istore_n (lv' := [(1, .int x_65), (0, .ref (A 60 0))]) hx hb dX10_lawLine_37 rfl hl (by decide) rfl (fun ls hl => ?_)
        refine lv_aload_n hx hb dX10_lawLine_38 rfl (lv_at hl 1 rfl) ?_
        refine ti_get (ci := 10) (k := 25) (N := 67) (T := TX10) C hw iw_10 rfl ob_60 (by decide) (by decide) fl_X10_208 rfl rfl dX10_lawLine_39 ?_
        refine lv_topi (fun x_66 ex_66 => ?_)
        have u_67 : (tI M_34 60 25).toInt = x_66.toInt := by rw [ex_66]
        have ufx_66 : (tI M_34 60 25).toInt = x_66.toInt := by rw [ex_66]
        refine sb_if_ne (tgt := 65) hx hb rfl dX10_lawLine_42 (by decide) (fun c_42_67 => ?_) (fun c_42_67 => by have z_69 : ff M_34 = 1 := ff_1 (ufx_66.trans c_42_67); omega)
        have z_69 : ff M_34 = 0 := ff_0 (fun h => c_42_67 (ufx_66.symm.trans h))
        clear c_42_67
        refine lv_aload_n hx hb dX10_lawLine_65 rfl (lv_at hl 1 rfl) ?_
        refine ti_get (ci := 10) (k := 25) (N := 67) (T := TX10) C hw iw_10 rfl ob_60 (by decide) (by decide) fl_X10_208 rfl rfl dX10_lawLine_66 ?_
        refine ti_top (y := x_66) (ex_66.symm) ?_
        refine sb_if_eq (tgt := 73) hx hb rfl dX10_lawLine_69 (by decide) (fun c_69_90 => by have z_92 : ff M_34 = 1 := ff_1 (ufx_66.trans c_69_90); omega) (fun c_69_90 => ?_)
        have z_92 : ff M_34 = 0 := ff_0 (fun h => c_69_90 (ufx_66.symm.trans h))
        clear c_69_90
        exact hQ _ _ _ _ _ hw (⟨(gU_e q_37.1), (qL_f (by omega)), (by unfold pp_lq; rw [if_neg (fun q => by have e := (pT_nw (rQ_T hr hf)).2.1 q; omega), ← eg_43]; exact hs_35), iM_34, (ln_l0 (l0_pr q_37 (by decide) (by decide))), (by omega), (by omega), (by omega), (by omega), (by omega), (by omega), (by omega), (by omega), (by omega), (by omega), (by omega), Or.inl (by omega)⟩) dX10_lawLine_72
end
section
variable {Tc : gC} {Tm : gM}
section
variable {B : Nat → Int} {n : Nat} {s x : Nat → Int}
theorem lb_x (h : 8 < s 0) : pp_lb B n s = pp_rf 1 s := by
  unfold pp_lb
  rw [if_neg (by omega), if_neg (by omega), if_neg (by omega), if_neg (by omega), if_neg (by omega), if_neg (by omega), if_neg (by omega), if_neg (by omega), if_neg (by omega)]
theorem fk_e (e : s = x) (z : fz x) : fk s x := by subst e; exact fk.refl z
theorem ln_k (k : fk (pp_lb B n s) x) (z : fz x) : fk (pp_ln B n s) x := by
  unfold pp_ln
  have q := (tk_f (B := B) (n := n) (k := 29) (k.zz z) (by decide)).trans k
  exact (l9_f (q.zz z)).trans q
theorem l9_k {v : Int} (z : fz s) : fk (pp_l9 s) (pp_su s 9 v) := fk_l (l9_f z) (fk_su z (by decide))
theorem lb_0 (h : s 0 = 0) (h7 : ¬ s 7 < 8) : pp_lb B n s = pp_rf 2 s := by
  unfold pp_lb
  rw [if_pos h, mn_q, if_neg h7]
theorem lb_3 (h : 3 ≤ s 0 ∧ s 0 ≤ 7) (hb : ¬ s (300 + (s 0).toNat) = 0) : fk (pp_lb B n s) (pp_rf 3 s) := by
  have z : fz (pp_rf 3 s) := ⟨rf_4 (by decide), rf_0⟩
  have e : pp_on B n s = pp_rf 3 s := by unfold pp_on; rw [if_neg hb]
  unfold pp_lb
  rw [if_neg (by omega), if_neg (by omega), if_neg (by omega), e]
  repeat' split
  · have q := nb_f (B := B) (n := n) (lo := 0) (mo := 999) z
    exact (nb_f (q.zz z)).trans q
  all_goals first | exact nb_f z | omega
end
set_option maxHeartbeats 4000000 in
set_option maxRecDepth 100000 in
theorem x_X10_line (l : Launch) (D : va_G) (A : Nat → Nat → Nat) (cy : Nat → ClassId) (hJ : ti_inj ti_LM A) (M : ti_M) (hI : mI Tm M) (hf : ff M = 1) (hum : um M) (h1 : (tY M 60 3 18).toInt ≤ (tI M 60 30).toInt + 64 - 64 * ff M) (h2 : (tI M 60 29).toInt ≤ 8 - 8 * ff M) (hs : pg M = 2 * (tI M 60 21).toInt) (B : Nat → Int) (n : Nat) (rg : Nat → Int) (hr : rQ B n rg M) (h9 : 0 ≤ rg 9 ∧ rg 9 ≤ 100000) (td : Nat → Int) (hql : qL td M) : ti_KvE l yX10_line cX10_line 2 651 ti_LM D A cy M [.ref (A 60 0)] (fun M2 => gU M2 M ∧ qL (qq_lb B n rg td) M2 ∧ rQ B n (pp_ln B n rg) M2 ∧ mI Tm M2 ∧ ln M2 M ∧ (pg M + 2 * ff M2 ≤ pg M2) ∧ (0 ≤ ff M2) ∧ (ff M2 ≤ 1) ∧ ((tY M2 60 3 18).toInt ≤ (tI M2 60 30).toInt + 64 - 64 * ff M2) ∧ ((tI M2 60 29).toInt ≤ 8 - 8 * ff M2) ∧ (0 ≤ (tY M2 60 3 18).toInt) ∧ ((tY M2 60 3 18).toInt ≤ 64) ∧ (0 ≤ (tI M2 60 29).toInt) ∧ ((tI M2 60 29).toInt ≤ 8) ∧ (0 ≤ (tI M2 60 30).toInt) ∧ ((tI M2 60 30).toInt ≤ 64) ∧ um M2) := by
  refine ti_eVE yp_X10_line hJ ti_LM_nd (Nat.le_of_ble_eq_true rfl) ?_
  intro p e s m args below meth c Q H0 C hE hQ hw ls hl
  have hx := C.1
  have hb := C.2.1
  have hl : lv_has ls 2 [(0, .ref (A 60 0))] := hl
  have hI30 := b30 hI
  have hI29 := b29 hI
  have hI18 := b18 hI
  have hIff := ff_b M
  refine lv_aload_n hx hb dX10_line_0 rfl (lv_at hl 0 rfl) ?_
  refine ti_get (ci := 10) (k := 23) (N := 67) (T := TX10) C hw iw_10 rfl ob_60 (by decide) (by decide) fl_X10_173 rfl rfl dX10_line_1 ?_
  refine lv_topi (fun x_1 ex_1 => ?_)
  have uqu_2 : (tI M 60 23).toInt = x_1.toInt := by rw [(ex_1.symm)]
  refine sb_if_ne (tgt := 16) hx hb rfl dX10_line_4 (by decide) (fun c_4_2 => ?_) (fun c_4_2 => ?_)
  · refine lv_aload_n hx hb dX10_line_16 rfl (lv_at hl 0 rfl) ?_
    refine lv_iconst (v := 1) hx hb dX10_line_17 (by decide) ?_
    refine ti_callVv (ci := 10) (av := [.int 1]) C hw (x_X10_wrong l D A cy hJ M hI 1 (by decide) B n rg hr) ⟨ml_X10_217, ym_X10_wrong, yv_X10_wrong, yi_X10_wrong, yc_X10_wrong⟩ yd_X10_wrong ob_60 (by decide) rfl rfl hl.1 (Nat.le_of_ble_eq_true rfl) ⟨by decide, by decide⟩ ⟨Nat.zero_le _, Nat.zero_le _⟩ dX10_line_18 (fun M_8 H locs hp_8 hw => ?_)
    rw [show (1 : Int32).toInt = 1 by decide] at hp_8
    obtain ⟨hs_9, hp_10⟩ := hp_8
    obtain ⟨iM_8, q_11, z_12, z_13, z_14, z_15, z_16⟩ := l_wr hp_10
    clear hp_10
    obtain ⟨g_17, eg_17⟩ : ∃ z : Nat → Int, z = pp_rf 1 rg := ⟨_, rfl⟩
    rw [← eg_17] at hs_9
    have tl_18 : qL td M_8 := qL_fr hql q_11.1 (q_11.2 18 (by decide)) (q_11.2 30 (by decide)) (by omega)
    exact hQ _ _ _ _ _ hw (⟨(gU_e q_11.1), (qL_f (by omega)), (rQ_f hs_9 (rQ_g1 hs_9 (by omega)) (ln_k (fk_e ((lb_x (by have e := (pT_nw (rQ_T hr hf)).2.2; omega)).trans eg_17.symm) (rQ_z hs_9 (rQ_g1 hs_9 (by omega)))) (rQ_z hs_9 (rQ_g1 hs_9 (by omega))))), iM_8, (ln_l0 (l0_pr q_11 (by decide) (by decide))), (by omega), (by omega), (by omega), (by omega), (by omega), (by omega), (by omega), (by omega), (by omega), (by omega), (by omega), (um_l0 hum (l0_pr q_11 (by decide) (by decide)) (by omega))⟩) dX10_line_21
  · refine lv_aload_n hx hb dX10_line_7 rfl (lv_at hl 0 rfl) ?_
    refine ti_get (ci := 10) (k := 24) (N := 67) (T := TX10) C hw iw_10 rfl ob_60 (by decide) (by decide) fl_X10_183 rfl rfl dX10_line_8 ?_
    refine lv_topi (fun x_4 ex_4 => ?_)
    have uqu_5 : (tI M 60 24).toInt = x_4.toInt := by rw [(ex_4.symm)]
    refine lv_bipush (v := 8) hx hb dX10_line_11 (by decide) ?_
    refine sb_icmp_le (tgt := 22) hx hb rfl (by decide : (8 : Int32).toInt = 8) dX10_line_13 (by decide) (fun c_13_5 => ?_) (fun c_13_5 => ?_)
    · refine lv_aload_n hx hb dX10_line_22 rfl (lv_at hl 0 rfl) ?_
      refine ti_get (ci := 10) (k := 24) (N := 67) (T := TX10) C hw iw_10 rfl ob_60 (by decide) (by decide) fl_X10_183 rfl rfl dX10_line_23 ?_
      refine ti_top (y := x_4) (ex_4.symm) ?_
      have uqu_31 : (tI M 60 24).toInt = x_4.toInt := by rw [(ex_4.symm)]
      refine lv_istore_n (lv' := [(1, .int x_4), (0, .ref (A 60 0))]) hx hb dX10_line_26 rfl hl (by decide) rfl (fun ls hl => ?_)
      refine lv_iload_n hx hb dX10_line_27 rfl (lv_at hl 0 rfl) ?_
      have hj_49_48 : ∀  (H : Heap) (locs : List Loc) (ls : Array Slot), (x_4.toInt ≠ 0 ∨ (tY M 60 3 11).toInt ≤ 7) → ti_H ti_LM D A cy H0 M H locs → lv_has ls 2 [(1, .int x_4), (0, .ref (A 60 0))] → W p l e (ti_rm 651) s m args below meth c H locs 0 0 Q (F0 m 49 ls []) := by
        intro  H locs ls j_48 hw hl
        refine lv_iload_n hx hb dX10_line_49 rfl (lv_at hl 0 rfl) ?_
        refine lv_iconst (v := 3) hx hb dX10_line_50 (by decide) ?_
        have hj_85_88 : ∀  (H : Heap) (locs : List Loc) (ls : Array Slot), (x_4.toInt ≠ 0 ∨ (tY M 60 3 11).toInt ≤ 7) → (pp_bt (tI M 60 18) (x_4.toInt).toNat = 0 ∨ x_4.toInt < 3 ∨ 7 < x_4.toInt) → ti_H ti_LM D A cy H0 M H locs → lv_has ls 2 [(1, .int x_4), (0, .ref (A 60 0))] → W p l e (ti_rm 651) s m args below meth c H locs 0 0 Q (F0 m 85 ls []) := by
          intro  H locs ls j_87 j_88 hw hl
          have e3 := (pT_pw (rQ_T hr hf)).2.2 ⟨by omega, by omega⟩
          have r0 := rQ_g0 hr hf
          have m7 := mh_7 hr r0 rfl
          refine lv_aload_n hx hb dX10_line_85 rfl (lv_at hl 1 rfl) ?_
          refine lv_dup hx hb dX10_line_86 rfl ?_
          refine ti_get (ci := 10) (k := 18) (N := 67) (T := TX10) C hw iw_10 rfl ob_60 (by decide) (by decide) fl_X10_228 rfl rfl dX10_line_87 ?_
          refine lv_topi (fun x_89 ex_89 => ?_)
          refine lv_iconst (v := 1) hx hb dX10_line_90 (by decide) ?_
          refine lv_iload_n hx hb dX10_line_91 rfl (lv_at hl 0 rfl) ?_
          refine lv_ishl hx hb dX10_line_92 ?_
          refine lv_topi (fun x_90 ex_90 => ?_)
          refine lv_ior hx hb dX10_line_93 ?_
          refine lv_topi (fun x_91 ex_91 => ?_)
          refine ti_putI (ci := 10) (k := 18) (N := 67) (T := TX10) C hw iw_10 tyX10 tyX10_ok nmX10 rfl ob_60 (by decide) (by decide) fl_X10_228 rfl rfl rfl rfl (fn_10 A _) fs_10_18 dX10_line_94 (fun H locs hw => ?_)
          obtain ⟨M_92, hM_92⟩ : ∃ z : ti_M, z = uI M 60 18 x_91 := ⟨_, rfl⟩
          have hw := hw.to hM_92.symm
          have iM_92 : mI Tm M_92 := mI_uI hI hM_92 (by decide) (by decide) trivial
          have z_93 : ff M_92 = ff M := ff_I hM_92 (by decide)
          have z_94 : pg M_92 = pg M := pg_I hM_92 (by decide)
          have z_95 : (tI M_92 60 29).toInt = (tI M 60 29).toInt := by rw [tI_nE hM_92 (nk (by decide))]
          have z_96 : (tI M_92 60 30).toInt = (tI M 60 30).toInt := by rw [tI_nE hM_92 (nk (by decide))]
          have z_97 : (tY M_92 60 3 18).toInt = (tY M 60 3 18).toInt := by rw [tY_uIE hM_92]
          have hs_98 := rQ_18w (k0 := (x_4.toInt).toNat) hr hM_92 (fun j hj => (bt_or (k := x_4.toInt) ex_90 rfl (by omega) (by omega) ex_91 j hj).trans (by rw [← (ex_89.symm)])) (by omega) (by omega)
          obtain ⟨g_99, eg_99⟩ : ∃ z : Nat → Int, z = pp_o1 rg := ⟨_, rfl⟩
          rw [← eg_99] at hs_98
          have tl_100 : qL td M_92 := qL_18 (k0 := (x_4.toInt).toNat) hql hM_92 (fun j hj => (bt_or (k := x_4.toInt) ex_90 rfl (by omega) (by omega) ex_91 j hj).trans (by rw [← (ex_89.symm)]))
          have z_101 : (tI M_92 60 21).toInt = (tI M 60 21).toInt := by rw [tI_nE hM_92 (nk (by decide))]
          refine lv_aload_n hx hb dX10_line_97 rfl (lv_at hl 1 rfl) ?_
          refine ti_callVvE (ci := 10) (av := []) C hE hw (x_X10_token l D A cy hJ M_92 iM_92 ) ⟨ml_X10_214, ym_X10_token, yv_X10_token, yi_X10_token, yc_X10_token⟩ yd_X10_token ob_60 (by decide) rfl rfl hl.1 (Nat.le_of_ble_eq_true rfl) ⟨by decide, by decide⟩ ⟨Nat.zero_le _, Nat.zero_le _⟩ dX10_line_98 (fun M_103 H locs hp_103 hw => ?_)
          obtain ⟨iM_103, q_106, z_104, z_105, k2M_103, k3M_103, k4M_103⟩ := hp_103
          have hs_107 := rQ_av hs_98 (rQ_g0 hs_98 (by omega)) (iM_92.1 21).1 q_106 k2M_103 k3M_103 k4M_103
          obtain ⟨-, -, z_108, z_109, z_110, z_111, z_112, z_113⟩ := l_tk ⟨iM_103, q_106, z_104, z_105⟩
          clear z_104 z_105 k2M_103 k3M_103 k4M_103
          obtain ⟨g_114, eg_114⟩ : ∃ z : Nat → Int, z = pp_av B n g_99 := ⟨_, rfl⟩
          rw [← eg_114] at hs_107
          have tl_115 : qL td M_103 := qL_fr tl_100 q_106.1 (q_106.2 18 (by decide)) (q_106.2 30 (by decide)) (by omega)
          refine lv_iload_n hx hb dX10_line_101 rfl (lv_at hl 0 rfl) ?_
          have hj_270_343 : ∀ (M_323 : ti_M) (g_326 : Nat → Int) (d_328 : Nat → Int) (H : Heap) (locs : List Loc) (ls : Array Slot), (mI Tm M_323) → (ln M_323 M) → (gU M_323 M) → (rQ B n g_326 M_323) → (qL d_328 M_323) → (g_326 = pp_lb B n rg) → (d_328 = qq_lb B n rg td) → (pg M + 1 ≤ pg M_323) → (0 ≤ ff M_323) → (ff M_323 ≤ 1) → ((tY M_323 60 3 18).toInt ≤ (tI M_323 60 30).toInt + 64 - 64 * ff M_323) → ((tI M_323 60 29).toInt ≤ 8 - 8 * ff M_323) → (0 ≤ (tY M_323 60 3 18).toInt) → ((tY M_323 60 3 18).toInt ≤ 64) → (0 ≤ (tI M_323 60 29).toInt) → ((tI M_323 60 29).toInt ≤ 8) → (0 ≤ (tI M_323 60 30).toInt) → ((tI M_323 60 30).toInt ≤ 64) → (um M_323) → ti_H ti_LM D A cy H0 M_323 H locs → lv_has ls 2 [(1, .int x_4), (0, .ref (A 60 0))] → W p l e (ti_rm 651) s m args below meth c H locs 0 0 Q (F0 m 270 ls []) := by
            intro M_323 g_326 d_328 H locs ls iM_323 f_324 f_325 hs_327 tl_329 j_330 j_331 j_332 j_333 j_334 j_335 j_336 j_337 j_338 j_339 j_340 j_341 j_342 j_343 hw hl
            refine lv_aload_n hx hb dX10_line_270 rfl (lv_at hl 1 rfl) ?_
            refine ti_get (ci := 10) (k := 25) (N := 67) (T := TX10) C hw iw_10 rfl ob_60 (by decide) (by decide) fl_X10_208 rfl rfl dX10_line_271 ?_
            refine lv_topi (fun x_344 ex_344 => ?_)
            have u_345 : (tI M_323 60 25).toInt = x_344.toInt := by rw [ex_344]
            have ufx_344 : (tI M_323 60 25).toInt = x_344.toInt := by rw [ex_344]
            refine sb_if_eq (tgt := 278) hx hb rfl dX10_line_274 (by decide) (fun c_274_345 => ?_) (fun c_274_345 => ?_)
            · have z_347 : ff M_323 = 1 := ff_1 (ufx_344.trans c_274_345)
              clear c_274_345
              refine lv_aload_n hx hb dX10_line_278 rfl (lv_at hl 1 rfl) ?_
              refine lv_bipush (v := 59) hx hb dX10_line_279 (by decide) ?_
              refine ti_callVi (ci := 10) (av := [.int 59]) C hw (x_X10_isSign l D A cy hJ M_323 iM_323 59) ⟨ml_X10_251, ym_X10_isSign, yv_X10_isSign, yi_X10_isSign, yc_X10_isSign⟩ yd_X10_isSign ob_60 (by decide) rfl rfl hl.1 (Nat.le_of_ble_eq_true rfl) ⟨by decide, by decide⟩ ⟨Nat.zero_le _, Nat.zero_le _⟩ dX10_line_281 (fun r_348 M_349 H locs hp_349 hw => ?_)
              obtain ⟨hm, hz⟩ := hp_349
              have hw := hw.to hm
              rcases hz with ⟨rfl, d0_350, d1_350, d2_350⟩ | ⟨rfl, d3_350⟩
              · have dk_350 := rQ_s1 (k := 29) hs_327 d0_350 d1_350 d2_350 (by decide)
                have z_351 : ff M_323 = 1 := ff_1 d0_350
                have z_352 : pg M_323 = 2 * (tI M_323 60 21).toInt := pg_3 (by rw [d1_350]; decide)
                clear d0_350 d1_350 d2_350
                refine sb_if_ne (tgt := 295) hx hb (by decide : (1 : Int32).toInt = 1) dX10_line_284 (by decide) (fun c_284_352 => ?_) (fun h => absurd h (by decide))
                refine lv_aload_n hx hb dX10_line_295 rfl (lv_at hl 1 rfl) ?_
                refine ti_callVvE (ci := 10) (av := []) C hE hw (x_X10_token l D A cy hJ M_323 iM_323 ) ⟨ml_X10_214, ym_X10_token, yv_X10_token, yi_X10_token, yc_X10_token⟩ yd_X10_token ob_60 (by decide) rfl rfl hl.1 (Nat.le_of_ble_eq_true rfl) ⟨by decide, by decide⟩ ⟨Nat.zero_le _, Nat.zero_le _⟩ dX10_line_296 (fun M_368 H locs hp_368 hw => ?_)
                obtain ⟨iM_368, q_371, z_369, z_370, k2M_368, k3M_368, k4M_368⟩ := hp_368
                have hs_372 := rQ_av hs_327 (rQ_g0 hs_327 (by omega)) (iM_323.1 21).1 q_371 k2M_368 k3M_368 k4M_368
                obtain ⟨-, -, z_373, z_374, z_375, z_376, z_377, z_378⟩ := l_tk ⟨iM_368, q_371, z_369, z_370⟩
                clear z_369 z_370 k2M_368 k3M_368 k4M_368
                obtain ⟨g_379, eg_379⟩ : ∃ z : Nat → Int, z = pp_av B n g_326 := ⟨_, rfl⟩
                rw [← eg_379] at hs_372
                have tl_380 : qL d_328 M_368 := qL_fr tl_329 q_371.1 (q_371.2 18 (by decide)) (q_371.2 30 (by decide)) (by omega)
                refine lv_aload_n hx hb dX10_line_299 rfl (lv_at hl 1 rfl) ?_
                refine lv_dup hx hb dX10_line_300 rfl ?_
                refine ti_get (ci := 10) (k := 19) (N := 67) (T := TX10) C hw iw_10 rfl ob_60 (by decide) (by decide) fl_X10_254 rfl rfl dX10_line_301 ?_
                refine lv_topi (fun x_393 ex_393 => ?_)
                refine lv_iconst (v := 1) hx hb dX10_line_304 (by decide) ?_
                have r9 := rQ_g0 hs_372 (show ff M_368 = 1 by omega)
                have x9 : g_379 9 = (x_393 : Int32).toInt := ((hs_372.2.2.2 r9).2.2.1.2.2).trans (congrArg Int32.toInt (ex_393.symm))
                have y9 : g_379 9 = rg 9 := by rw [eg_379, av_n (by decide), j_330]; exact lb_9
                refine lv_iadd hx hb dX10_line_305 ?_
                refine lv_topi (fun x_394 ex_394 => ?_)
                have lox_394x_393 := x_393.le_toInt
                have hix_394x_393 := x_393.toInt_lt
                have tx_394 : x_394.toInt = x_393.toInt + 1 := i_add ex_394 rfl (by decide : (1 : Int32).toInt = 1) (by omega) (by omega)
                refine ti_putI (ci := 10) (k := 19) (N := 67) (T := TX10) C hw iw_10 tyX10 tyX10_ok nmX10 rfl ob_60 (by decide) (by decide) fl_X10_254 rfl rfl rfl rfl (fn_10 A _) fs_10_19 dX10_line_306 (fun H locs hw => ?_)
                obtain ⟨M_395, hM_395⟩ : ∃ z : ti_M, z = uI M_368 60 19 x_394 := ⟨_, rfl⟩
                have hw := hw.to hM_395.symm
                have iM_395 : mI Tm M_395 := mI_uI iM_368 hM_395 (by decide) (by decide) trivial
                have z_396 : ff M_395 = ff M_368 := ff_I hM_395 (by decide)
                have z_397 : pg M_395 = pg M_368 := pg_I hM_395 (by decide)
                have z_398 : (tI M_395 60 29).toInt = (tI M_368 60 29).toInt := by rw [tI_nE hM_395 (nk (by decide))]
                have z_399 : (tI M_395 60 30).toInt = (tI M_368 60 30).toInt := by rw [tI_nE hM_395 (nk (by decide))]
                have z_400 : (tY M_395 60 3 18).toInt = (tY M_368 60 3 18).toInt := by rw [tY_uIE hM_395]
                have hs_401 := rQ_19 hs_372 hM_395
                obtain ⟨g_402, eg_402⟩ : ∃ z : Nat → Int, z = pp_su g_379 9 x_394.toInt := ⟨_, rfl⟩
                rw [← eg_402] at hs_401
                have z_403 : (tI M_395 60 21).toInt = (tI M_368 60 21).toInt := by rw [tI_nE hM_395 (nk (by decide))]
                have tl_404 : qL d_328 M_395 := qL_fr tl_380 (ry_I hM_395) (tI_nE hM_395 (nk (by decide))) (tI_nE hM_395 (nk (by decide))) (by omega)
                exact hQ _ _ _ _ _ hw (⟨(gU.trans (gU_e (ry_I hM_395)) (gU.trans (gU_e q_371.1) f_325)), (by rw [← j_331]; exact tl_404), (by unfold pp_ln; rw [← j_330]; unfold pp_tk; rw [if_pos dk_350.1, ← eg_379]; unfold pp_l9; rw [show g_379 9 + 1 = x_394.toInt by omega, ← eg_402]; exact hs_401), iM_395, (ln.trans (ln_l0 (l0_I hM_395 (by decide))) (ln.trans (ln_l0 (l0_pr q_371 (by decide) (by decide))) f_324)), (by omega), (by omega), (by omega), (by omega), (by omega), (by omega), (by omega), (by omega), (by omega), (by omega), (by omega), (um_l0 j_343 (l0.trans (l0_I hM_395 (by decide)) (l0_pr q_371 (by decide) (by decide))) (by omega))⟩) dX10_line_309
              · have dk_350 := rQ_s0 (k := 29) hs_327 d3_350 (by decide) (by decide)
                clear d3_350
                refine sb_if_ne (tgt := 295) hx hb (by decide : (0 : Int32).toInt = 0) dX10_line_284 (by decide) (fun h => absurd h (by decide)) (fun c_284_353 => ?_)
                refine lv_aload_n hx hb dX10_line_287 rfl (lv_at hl 1 rfl) ?_
                refine lv_iconst (v := 1) hx hb dX10_line_288 (by decide) ?_
                refine ti_callVv (ci := 10) (av := [.int 1]) C hw (x_X10_wrong l D A cy hJ M_323 iM_323 1 (by decide) B n g_326 hs_327) ⟨ml_X10_217, ym_X10_wrong, yv_X10_wrong, yi_X10_wrong, yc_X10_wrong⟩ yd_X10_wrong ob_60 (by decide) rfl rfl hl.1 (Nat.le_of_ble_eq_true rfl) ⟨by decide, by decide⟩ ⟨Nat.zero_le _, Nat.zero_le _⟩ dX10_line_289 (fun M_356 H locs hp_356 hw => ?_)
                rw [show (1 : Int32).toInt = 1 by decide] at hp_356
                obtain ⟨hs_357, hp_358⟩ := hp_356
                obtain ⟨iM_356, q_359, z_360, z_361, z_362, z_363, z_364⟩ := l_wr hp_358
                clear hp_358
                obtain ⟨g_365, eg_365⟩ : ∃ z : Nat → Int, z = pp_rf 1 g_326 := ⟨_, rfl⟩
                rw [← eg_365] at hs_357
                have tl_366 : qL d_328 M_356 := qL_fr tl_329 q_359.1 (q_359.2 18 (by decide)) (q_359.2 30 (by decide)) (by omega)
                refine lv_goto (tgt := 299) hx hb dX10_line_292 (by decide) ?_
                refine lv_aload_n hx hb dX10_line_299 rfl (lv_at hl 1 rfl) ?_
                refine lv_dup hx hb dX10_line_300 rfl ?_
                refine ti_get (ci := 10) (k := 19) (N := 67) (T := TX10) C hw iw_10 rfl ob_60 (by decide) (by decide) fl_X10_254 rfl rfl dX10_line_301 ?_
                refine lv_topi (fun x_381 ex_381 => ?_)
                refine lv_iconst (v := 1) hx hb dX10_line_304 (by decide) ?_
                refine lv_iadd hx hb dX10_line_305 ?_
                refine lv_topi (fun x_382 ex_382 => ?_)
                refine ti_putI (ci := 10) (k := 19) (N := 67) (T := TX10) C hw iw_10 tyX10 tyX10_ok nmX10 rfl ob_60 (by decide) (by decide) fl_X10_254 rfl rfl rfl rfl (fn_10 A _) fs_10_19 dX10_line_306 (fun H locs hw => ?_)
                obtain ⟨M_383, hM_383⟩ : ∃ z : ti_M, z = uI M_356 60 19 x_382 := ⟨_, rfl⟩
                have hw := hw.to hM_383.symm
                have iM_383 : mI Tm M_383 := mI_uI iM_356 hM_383 (by decide) (by decide) trivial
                have z_384 : ff M_383 = ff M_356 := ff_I hM_383 (by decide)
                have z_385 : pg M_383 = pg M_356 := pg_I hM_383 (by decide)
                have z_386 : (tI M_383 60 29).toInt = (tI M_356 60 29).toInt := by rw [tI_nE hM_383 (nk (by decide))]
                have z_387 : (tI M_383 60 30).toInt = (tI M_356 60 30).toInt := by rw [tI_nE hM_383 (nk (by decide))]
                have z_388 : (tY M_383 60 3 18).toInt = (tY M_356 60 3 18).toInt := by rw [tY_uIE hM_383]
                have hs_389 := rQ_19 hs_357 hM_383
                obtain ⟨g_390, eg_390⟩ : ∃ z : Nat → Int, z = pp_su g_365 9 x_382.toInt := ⟨_, rfl⟩
                rw [← eg_390] at hs_389
                have z_391 : (tI M_383 60 21).toInt = (tI M_356 60 21).toInt := by rw [tI_nE hM_383 (nk (by decide))]
                have tl_392 : qL d_328 M_383 := qL_fr tl_366 (ry_I hM_383) (tI_nE hM_383 (nk (by decide))) (tI_nE hM_383 (nk (by decide))) (by omega)
                exact hQ _ _ _ _ _ hw (⟨(gU.trans (gU_e (ry_I hM_383)) (gU.trans (gU_e q_359.1) f_325)), (by rw [← j_331]; exact tl_392), (by have z := (rQ_z hs_357 (rQ_g1 hs_357 (by omega))); rw [show pp_ln B n rg = pp_l9 g_365 by unfold pp_ln; rw [← j_330]; unfold pp_tk; rw [if_neg dk_350, ← eg_365]]; exact rQ_f hs_389 (by rw [eg_390, su_n (by decide)]; exact z.1) (by rw [eg_390]; exact l9_k z)), iM_383, (ln.trans (ln_l0 (l0_I hM_383 (by decide))) (ln.trans (ln_l0 (l0_pr q_359 (by decide) (by decide))) f_324)), (by omega), (by omega), (by omega), (by omega), (by omega), (by omega), (by omega), (by omega), (by omega), (by omega), (by omega), (um_l0 j_343 (l0.trans (l0_I hM_383 (by decide)) (l0_pr q_359 (by decide) (by decide))) (by omega))⟩) dX10_line_309
            · have z_347 : ff M_323 = 0 := ff_0 (fun h => c_274_345 (ufx_344.symm.trans h))
              clear c_274_345
              exact hQ _ _ _ _ _ hw (⟨f_325, (by rw [← j_331]; exact tl_329), (rQ_f hs_327 (rQ_g1 hs_327 (by omega)) (ln_k (by rw [← j_330]; exact fk.refl (rQ_z hs_327 (rQ_g1 hs_327 (by omega)))) (rQ_z hs_327 (rQ_g1 hs_327 (by omega))))), iM_323, f_324, (by omega), (by omega), (by omega), (by omega), (by omega), (by omega), (by omega), (by omega), (by omega), (by omega), (by omega), j_343⟩) dX10_line_277
          by_cases s_116_0 : x_4 = 0
          · refine lv_tableIn (tgt := 148) (off := 46) hx hb dX10_line_102 (by rw [s_116_0]; decide) (by rw [s_116_0]; decide) (by rw [s_116_0]; decide) (by decide) ?_
            have w0 : (x_4 : Int32).toInt = 0 := by rw [s_116_0]; decide
            have w1 : (tY M_103 60 3 11).toInt = (tY M 60 3 11).toInt := by rw [(((tY_fr q_106.1).trans (tY_uIE hM_92)))]
            refine lv_aload_n hx hb dX10_line_148 rfl (lv_at hl 1 rfl) ?_
            refine lv_bipush (v := 8) hx hb dX10_line_149 (by decide) ?_
            refine lv_aload_n hx hb dX10_line_151 rfl (lv_at hl 1 rfl) ?_
            refine lv_iconst (v := 0) hx hb dX10_line_152 (by decide) ?_
            refine ti_callVi (ci := 10) (av := [.int 0]) C hw (s_X10_fresher_0 l D A cy hJ M_103 iM_103 ) ⟨ml_X10_224, ym_X10_fresher, yv_X10_fresher, yi_X10_fresher, yc_X10_fresher⟩ yd_X10_fresher ob_60 (by decide) rfl rfl hl.1 (Nat.le_of_ble_eq_true rfl) ⟨by decide, by decide⟩ ⟨Nat.zero_le _, Nat.zero_le _⟩ dX10_line_153 (fun r_117 M_118 H locs hp_118 hw => ?_)
            obtain ⟨hm, b0r_117, b1r_117, yr_117⟩ := hp_118
            have hw := hw.to hm
            have zr_117 : (tY M_103 60 3 11).toInt = r_117.toInt := by rw [yr_117]
            refine lv_iadd hx hb dX10_line_156 ?_
            refine lv_topi (fun x_119 ex_119 => ?_)
            have tx_119 : x_119.toInt = 8 + r_117.toInt := i_add ex_119 (by decide : (8 : Int32).toInt = 8) rfl (by omega) (by omega)
            refine ti_callVvE (ci := 10) (av := [.int x_119]) C hE hw (x_X10_manLine l D A cy hJ M_103 iM_103 x_119 r_117 (by omega) (by omega) (yr_117) (by omega) (by omega) (by omega) B n g_114 hs_107 td tl_115) ⟨ml_X10_231, ym_X10_manLine, yv_X10_manLine, yi_X10_manLine, yc_X10_manLine⟩ yd_X10_manLine ob_60 (by decide) rfl rfl hl.1 (Nat.le_of_ble_eq_true rfl) ⟨by decide, by decide⟩ ⟨Nat.zero_le _, Nat.zero_le _⟩ dX10_line_157 (fun M_121 H locs hp_121 hw => ?_)
            obtain ⟨gu_124, tl_122, hp_123⟩ := hp_121
            obtain ⟨hs_125, hp_126⟩ := hp_123
            obtain ⟨iM_121, q_127, z_128, z_129, z_130, z_131, z_132, z_133⟩ := hp_126
            obtain ⟨g_134, eg_134⟩ : ∃ z : Nat → Int, z = pp_mq B n g_114 := ⟨_, rfl⟩
            rw [← eg_134] at hs_125
            obtain ⟨d_135, ed_135⟩ : ∃ z : Nat → Int, z = qq_mq B n g_114 td := ⟨_, rfl⟩
            rw [← ed_135] at tl_122
            have w_137 : x_4.toInt = 0 := by rw [s_116_0]; decide
            have hq_136 : rQ B n (pp_lb B n rg) M_121 := by unfold pp_lb; rw [if_pos (by omega), mn_q, if_pos (by omega), show pp_av B n rg = g_114 by rw [eg_114, eg_99, o1_n (by omega)], ← eg_134]; exact hs_125
            have tl_138 : qL (qq_lb B n rg td) M_121 := by unfold qq_lb; rw [if_pos (by omega), qmn_q (by omega), show pp_av B n rg = g_114 by rw [eg_114, eg_99, o1_n (by omega)], ← ed_135]; exact tl_122
            refine lv_goto (tgt := 270) hx hb dX10_line_160 (by decide) ?_
            exact hj_270_343 M_121 (pp_lb B n rg) (qq_lb B n rg td) _ _ _ iM_121 (ln.trans (ln_l0 q_127) (ln.trans (ln_l0 (l0_pr q_106 (by decide) (by decide))) (ln_l0 (l0_I hM_92 (by decide))))) (gU.trans gu_124 (gU.trans (gU_e q_106.1) (gU_e (ry_I hM_92)))) hq_136 tl_138 rfl rfl (by first | omega | decide) (by first | omega | decide) (by first | omega | decide) (by first | omega | decide) (by first | omega | decide) (by first | omega | decide) (by first | omega | decide) (by first | omega | decide) (by first | omega | decide) (by first | omega | decide) (by first | omega | decide) (um_l0 hum (l0.trans q_127 (l0.trans (l0_pr q_106 (by decide) (by decide)) (l0_I hM_92 (by decide)))) (by omega)) hw (lv_sub hl [0, 1] rfl)
          · have qs_116_0 : x_4.toInt ≠ 0 := pt_ne s_116_0 (by decide)
            by_cases s_116_1 : x_4 = 1
            · refine lv_tableIn (tgt := 163) (off := 61) hx hb dX10_line_102 (by rw [s_116_1]; decide) (by rw [s_116_1]; decide) (by rw [s_116_1]; decide) (by decide) ?_
              refine lv_aload_n hx hb dX10_line_163 rfl (lv_at hl 1 rfl) ?_
              refine ti_callVvE (ci := 10) (av := []) C hE hw (x_X10_guardLine l D A cy hJ M_103 iM_103  B n g_114 hs_107 td tl_115) ⟨ml_X10_234, ym_X10_guardLine, yv_X10_guardLine, yi_X10_guardLine, yc_X10_guardLine⟩ yd_X10_guardLine ob_60 (by decide) rfl rfl hl.1 (Nat.le_of_ble_eq_true rfl) ⟨by decide, by decide⟩ ⟨Nat.zero_le _, Nat.zero_le _⟩ dX10_line_164 (fun M_140 H locs hp_140 hw => ?_)
              obtain ⟨gu_143, tl_141, hp_142⟩ := hp_140
              obtain ⟨hs_144, hp_145⟩ := hp_142
              obtain ⟨iM_140, q_146, z_147, z_148, z_149, z_150, z_151, z_152⟩ := hp_145
              obtain ⟨g_153, eg_153⟩ : ∃ z : Nat → Int, z = pp_gq B n g_114 := ⟨_, rfl⟩
              rw [← eg_153] at hs_144
              have w_155 : x_4.toInt = 1 := by rw [s_116_1]; decide
              have hq_154 : rQ B n (pp_lb B n rg) M_140 := by unfold pp_lb; rw [if_neg (by omega), if_pos (by omega), gd_q, show pp_av B n rg = g_114 by rw [eg_114, eg_99, o1_n (by omega)], ← eg_153]; exact hs_144
              have tl_156 : qL (qq_lb B n rg td) M_140 := by unfold qq_lb; rw [if_neg (by omega), if_pos (by omega)]; exact tl_141
              refine lv_goto (tgt := 270) hx hb dX10_line_167 (by decide) ?_
              exact hj_270_343 M_140 (pp_lb B n rg) (qq_lb B n rg td) _ _ _ iM_140 (ln.trans (ln_l0 q_146) (ln.trans (ln_l0 (l0_pr q_106 (by decide) (by decide))) (ln_l0 (l0_I hM_92 (by decide))))) (gU.trans gu_143 (gU.trans (gU_e q_106.1) (gU_e (ry_I hM_92)))) hq_154 tl_156 rfl rfl (by first | omega | decide) (by first | omega | decide) (by first | omega | decide) (by first | omega | decide) (by first | omega | decide) (by first | omega | decide) (by first | omega | decide) (by first | omega | decide) (by first | omega | decide) (by first | omega | decide) (by first | omega | decide) (um_l0 hum (l0.trans q_146 (l0.trans (l0_pr q_106 (by decide) (by decide)) (l0_I hM_92 (by decide)))) (by omega)) hw (lv_sub hl [0, 1] rfl)
            · have qs_116_1 : x_4.toInt ≠ 1 := pt_ne s_116_1 (by decide)
              by_cases s_116_2 : x_4 = 2
              · refine lv_tableIn (tgt := 170) (off := 68) hx hb dX10_line_102 (by rw [s_116_2]; decide) (by rw [s_116_2]; decide) (by rw [s_116_2]; decide) (by decide) ?_
                refine lv_aload_n hx hb dX10_line_170 rfl (lv_at hl 1 rfl) ?_
                refine ti_callVvE (ci := 10) (av := []) C hE hw (x_X10_powerLine l D A cy hJ M_103 iM_103 (by omega) B n g_114 hs_107 td tl_115) ⟨ml_X10_237, ym_X10_powerLine, yv_X10_powerLine, yi_X10_powerLine, yc_X10_powerLine⟩ yd_X10_powerLine ob_60 (by decide) rfl rfl hl.1 (Nat.le_of_ble_eq_true rfl) ⟨by decide, by decide⟩ ⟨Nat.zero_le _, Nat.zero_le _⟩ dX10_line_171 (fun M_158 H locs hp_158 hw => ?_)
                obtain ⟨gu_161, tl_159, hp_160⟩ := hp_158
                obtain ⟨hs_162, hp_163⟩ := hp_160
                obtain ⟨iM_158, q_164, z_165, z_166, z_167, z_168, z_169, z_170⟩ := hp_163
                obtain ⟨g_171, eg_171⟩ : ∃ z : Nat → Int, z = pp_pq B n g_114 := ⟨_, rfl⟩
                rw [← eg_171] at hs_162
                obtain ⟨d_172, ed_172⟩ : ∃ z : Nat → Int, z = qq_pq B n g_114 td := ⟨_, rfl⟩
                rw [← ed_172] at tl_159
                have w_174 : x_4.toInt = 2 := by rw [s_116_2]; decide
                have hq_173 : rQ B n (pp_lb B n rg) M_158 := by unfold pp_lb; rw [if_neg (by omega), if_neg (by omega), if_pos (by omega), pw_q, show pp_av B n rg = g_114 by rw [eg_114, eg_99, o1_n (by omega)], ← eg_171]; exact hs_162
                have tl_175 : qL (qq_lb B n rg td) M_158 := by unfold qq_lb; rw [if_neg (by omega), if_neg (by omega), if_pos (by omega), qpw_q, show pp_av B n rg = g_114 by rw [eg_114, eg_99, o1_n (by omega)], ← ed_172]; exact tl_159
                refine lv_goto (tgt := 270) hx hb dX10_line_174 (by decide) ?_
                exact hj_270_343 M_158 (pp_lb B n rg) (qq_lb B n rg td) _ _ _ iM_158 (ln.trans (ln_l0 q_164) (ln.trans (ln_l0 (l0_pr q_106 (by decide) (by decide))) (ln_l0 (l0_I hM_92 (by decide))))) (gU.trans gu_161 (gU.trans (gU_e q_106.1) (gU_e (ry_I hM_92)))) hq_173 tl_175 rfl rfl (by first | omega | decide) (by first | omega | decide) (by first | omega | decide) (by first | omega | decide) (by first | omega | decide) (by first | omega | decide) (by first | omega | decide) (by first | omega | decide) (by first | omega | decide) (by first | omega | decide) (by first | omega | decide) (um_l0 hum (l0.trans q_164 (l0.trans (l0_pr q_106 (by decide) (by decide)) (l0_I hM_92 (by decide)))) (by omega)) hw (lv_sub hl [0, 1] rfl)
              · have qs_116_2 : x_4.toInt ≠ 2 := pt_ne s_116_2 (by decide)
                by_cases s_116_3 : x_4 = 3
                · refine lv_tableIn (tgt := 177) (off := 75) hx hb dX10_line_102 (by rw [s_116_3]; decide) (by rw [s_116_3]; decide) (by rw [s_116_3]; decide) (by decide) ?_
                  refine lv_aload_n hx hb dX10_line_177 rfl (lv_at hl 1 rfl) ?_
                  refine lv_iconst (v := 1) hx hb dX10_line_178 (by decide) ?_
                  refine lv_aload_n hx hb dX10_line_179 rfl (lv_at hl 1 rfl) ?_
                  refine lv_iconst (v := 0) hx hb dX10_line_180 (by decide) ?_
                  refine lv_sipush (v := 999) hx hb dX10_line_181 (by decide) ?_
                  refine ti_callViE (ci := 10) (av := [.int 0, .int 999]) C hE hw (x_X10_numeral l D A cy hJ M_103 iM_103 0 999 (by decide) (by decide) B n g_114 hs_107) ⟨ml_X10_240, ym_X10_numeral, yv_X10_numeral, yi_X10_numeral, yc_X10_numeral⟩ yd_X10_numeral ob_60 (by decide) rfl rfl hl.1 (Nat.le_of_ble_eq_true rfl) ⟨by decide, by decide⟩ ⟨Nat.zero_le _, Nat.zero_le _⟩ dX10_line_184 (fun r_176 M_177 H locs hp_177 hw => ?_)
                  obtain ⟨hs_178, hm_179, hp_180⟩ := hp_177
                  rw [show (0 : Int32).toInt = 0 by decide] at hs_178
                  rw [show (999 : Int32).toInt = 999 by decide] at hs_178
                  obtain ⟨iM_177, q_181, p_182, p_183, p_184, b0r_176, b1r_176⟩ := hp_180
                  have z_185 := l_ps (by decide) (by decide) ⟨iM_177, q_181, p_182, p_183, p_184⟩
                  clear p_182 p_183 p_184
                  have br_176 : 0 ≤ r_176.toInt ∧ r_176.toInt ≤ 999 := by have l1 : (0 : Int32).toInt = 0 := (by decide); have l2 : (999 : Int32).toInt = 999 := (by decide); omega
                  obtain ⟨g_186, eg_186⟩ : ∃ z : Nat → Int, z = pp_nb B n 0 999 g_114 := ⟨_, rfl⟩
                  rw [← eg_186] at hs_178
                  have tl_187 : qL td M_177 := qL_fr tl_115 q_181.1 (q_181.2 18 (by decide)) (q_181.2 30 (by decide)) (by omega)
                  refine ti_callVv (ci := 10) (av := [.int 1, .int r_176]) C hw (s_X10_reads l D A cy hJ M_177 iM_177 1 r_176 (by decide) (by decide) (by rw [show (11 + (1 : Int32).toInt).toNat = 12 by decide]; exact trivial)) ⟨ml_X10_244, ym_X10_reads, yv_X10_reads, yi_X10_reads, yc_X10_reads⟩ yd_X10_reads ob_60 (by decide) rfl rfl hl.1 (Nat.le_of_ble_eq_true rfl) ⟨by decide, by decide⟩ ⟨Nat.zero_le _, Nat.zero_le _⟩ dX10_line_187 (fun M_189 H locs hp_189 hw => ?_)
                  obtain ⟨iM_189, hM_189⟩ := hp_189
                  rw [show (11 + (1 : Int32).toInt).toNat = 12 by decide] at hM_189
                  have z_190 := s5_3 hM_189 (by decide)
                  have hs_191 := rQ_3x hs_178 hM_189 (by decide)
                  have tl_193 : qL (pp_su td 6 (g_114 1)) M_189 := qL_r (c := 6) tl_187 hM_189 (fun q8 => hm_179 (by have q7 := ff_1 q8; exact ff_y (by omega))) (Or.inl ⟨by decide, by decide, rfl⟩) (fun q8 => by have h9 := (fun q8 => hm_179 (by have q7 := ff_1 q8; exact ff_y (by omega))) q8; refine ⟨fun _ => ?_, fun _ => ?_, fun _ => ?_, fun _ => ?_, fun _ => ?_, fun _ => ?_, fun _ => ?_⟩ <;> omega)
                  obtain ⟨d_192, ed_192⟩ : ∃ z : Nat → Int, z = pp_su td 6 (g_114 1) := ⟨_, rfl⟩
                  rw [← ed_192] at tl_193
                  refine lv_aload_n hx hb dX10_line_190 rfl (lv_at hl 1 rfl) ?_
                  refine lv_iconst (v := 2) hx hb dX10_line_191 (by decide) ?_
                  refine lv_aload_n hx hb dX10_line_192 rfl (lv_at hl 1 rfl) ?_
                  refine lv_iconst (v := 1) hx hb dX10_line_193 (by decide) ?_
                  refine lv_bipush (v := 9) hx hb dX10_line_194 (by decide) ?_
                  refine ti_callViE (ci := 10) (av := [.int 1, .int 9]) C hE hw (x_X10_numeral l D A cy hJ M_189 iM_189 1 9 (by decide) (by decide) B n g_186 hs_191) ⟨ml_X10_240, ym_X10_numeral, yv_X10_numeral, yi_X10_numeral, yc_X10_numeral⟩ yd_X10_numeral ob_60 (by decide) rfl rfl hl.1 (Nat.le_of_ble_eq_true rfl) ⟨by decide, by decide⟩ ⟨Nat.zero_le _, Nat.zero_le _⟩ dX10_line_196 (fun r_194 M_195 H locs hp_195 hw => ?_)
                  obtain ⟨hs_196, hm_197, hp_198⟩ := hp_195
                  rw [show (1 : Int32).toInt = 1 by decide] at hs_196
                  rw [show (9 : Int32).toInt = 9 by decide] at hs_196
                  obtain ⟨iM_195, q_199, p_200, p_201, p_202, b0r_194, b1r_194⟩ := hp_198
                  have z_203 := l_ps (by decide) (by decide) ⟨iM_195, q_199, p_200, p_201, p_202⟩
                  clear p_200 p_201 p_202
                  have br_194 : 1 ≤ r_194.toInt ∧ r_194.toInt ≤ 9 := by have l1 : (1 : Int32).toInt = 1 := (by decide); have l2 : (9 : Int32).toInt = 9 := (by decide); omega
                  obtain ⟨g_204, eg_204⟩ : ∃ z : Nat → Int, z = pp_nb B n 1 9 g_186 := ⟨_, rfl⟩
                  rw [← eg_204] at hs_196
                  have tl_205 : qL d_192 M_195 := qL_fr tl_193 q_199.1 (q_199.2 18 (by decide)) (q_199.2 30 (by decide)) (by omega)
                  refine ti_callVv (ci := 10) (av := [.int 2, .int r_194]) C hw (s_X10_reads l D A cy hJ M_195 iM_195 2 r_194 (by decide) (by decide) (by rw [show (11 + (2 : Int32).toInt).toNat = 13 by decide]; exact trivial)) ⟨ml_X10_244, ym_X10_reads, yv_X10_reads, yi_X10_reads, yc_X10_reads⟩ yd_X10_reads ob_60 (by decide) rfl rfl hl.1 (Nat.le_of_ble_eq_true rfl) ⟨by decide, by decide⟩ ⟨Nat.zero_le _, Nat.zero_le _⟩ dX10_line_199 (fun M_207 H locs hp_207 hw => ?_)
                  obtain ⟨iM_207, hM_207⟩ := hp_207
                  rw [show (11 + (2 : Int32).toInt).toNat = 13 by decide] at hM_207
                  have z_208 := s5_3 hM_207 (by decide)
                  have hs_209 := rQ_3x hs_196 hM_207 (by decide)
                  have tl_211 : qL (pp_su d_192 7 (g_186 1)) M_207 := qL_r (c := 7) tl_205 hM_207 (fun q8 => hm_197 (by have q7 := ff_1 q8; exact ff_y (by omega))) (Or.inl ⟨by decide, by decide, rfl⟩) (fun q8 => by have h9 := (fun q8 => hm_197 (by have q7 := ff_1 q8; exact ff_y (by omega))) q8; refine ⟨fun _ => ?_, fun _ => ?_, fun _ => ?_, fun _ => ?_, fun _ => ?_, fun _ => ?_, fun _ => ?_⟩ <;> omega)
                  obtain ⟨d_210, ed_210⟩ : ∃ z : Nat → Int, z = pp_su d_192 7 (g_186 1) := ⟨_, rfl⟩
                  rw [← ed_210] at tl_211
                  have w_213 : x_4.toInt = 3 := by rw [s_116_3]; decide
                  have hq_212 : rQ B n (pp_lb B n rg) M_207 := by unfold pp_lb; rw [if_neg (by omega), if_neg (by omega), if_neg (by omega), if_pos (by omega), o1_on ⟨by omega, by omega⟩ (by rw [rQ_b3 hr r0 ⟨by omega, by omega⟩, show (rg 0).toNat = x_4.toInt.toNat by omega]; omega), ← eg_99, ← eg_114, ← eg_186, ← eg_204]; exact hs_209
                  have tl_214 : qL (qq_lb B n rg td) M_207 := by unfold qq_lb; rw [if_neg (by omega), if_neg (by omega), if_neg (by omega), if_pos (by omega), o1_on ⟨by omega, by omega⟩ (by rw [rQ_b3 hr r0 ⟨by omega, by omega⟩, show (rg 0).toNat = x_4.toInt.toNat by omega]; omega), ← eg_99, ← eg_114, ← eg_186, ← ed_192, ← ed_210]; exact tl_211
                  refine lv_goto (tgt := 270) hx hb dX10_line_202 (by decide) ?_
                  exact hj_270_343 M_207 (pp_lb B n rg) (qq_lb B n rg td) _ _ _ iM_207 (ln.trans (ln_l0 (l0_3 hM_207 (by decide))) (ln.trans (ln_l0 (l0_pr q_199 (by decide) (by decide))) (ln.trans (ln_l0 (l0_3 hM_189 (by decide))) (ln.trans (ln_l0 (l0_pr q_181 (by decide) (by decide))) (ln.trans (ln_l0 (l0_pr q_106 (by decide) (by decide))) (ln_l0 (l0_I hM_92 (by decide)))))))) (gU.trans (gU_Yx hM_207 (by decide)) (gU.trans (gU_e q_199.1) (gU.trans (gU_Yx hM_189 (by decide)) (gU.trans (gU_e q_181.1) (gU.trans (gU_e q_106.1) (gU_e (ry_I hM_92))))))) hq_212 tl_214 rfl rfl (by first | omega | decide) (by first | omega | decide) (by first | omega | decide) (by first | omega | decide) (by first | omega | decide) (by first | omega | decide) (by first | omega | decide) (by first | omega | decide) (by first | omega | decide) (by first | omega | decide) (by first | omega | decide) (um_l0 hum (l0.trans (l0_3 hM_207 (by decide)) (l0.trans (l0_pr q_199 (by decide) (by decide)) (l0.trans (l0_3 hM_189 (by decide)) (l0.trans (l0_pr q_181 (by decide) (by decide)) (l0.trans (l0_pr q_106 (by decide) (by decide)) (l0_I hM_92 (by decide))))))) (by omega)) hw (lv_sub hl [0, 1] rfl)
                · have qs_116_3 : x_4.toInt ≠ 3 := pt_ne s_116_3 (by decide)
                  by_cases s_116_4 : x_4 = 4
                  · refine lv_tableIn (tgt := 205) (off := 103) hx hb dX10_line_102 (by rw [s_116_4]; decide) (by rw [s_116_4]; decide) (by rw [s_116_4]; decide) (by decide) ?_
                    refine lv_aload_n hx hb dX10_line_205 rfl (lv_at hl 1 rfl) ?_
                    refine lv_iconst (v := 3) hx hb dX10_line_206 (by decide) ?_
                    refine lv_aload_n hx hb dX10_line_207 rfl (lv_at hl 1 rfl) ?_
                    refine lv_iconst (v := 1) hx hb dX10_line_208 (by decide) ?_
                    refine lv_bipush (v := 30) hx hb dX10_line_209 (by decide) ?_
                    refine ti_callViE (ci := 10) (av := [.int 1, .int 30]) C hE hw (x_X10_numeral l D A cy hJ M_103 iM_103 1 30 (by decide) (by decide) B n g_114 hs_107) ⟨ml_X10_240, ym_X10_numeral, yv_X10_numeral, yi_X10_numeral, yc_X10_numeral⟩ yd_X10_numeral ob_60 (by decide) rfl rfl hl.1 (Nat.le_of_ble_eq_true rfl) ⟨by decide, by decide⟩ ⟨Nat.zero_le _, Nat.zero_le _⟩ dX10_line_211 (fun r_215 M_216 H locs hp_216 hw => ?_)
                    obtain ⟨hs_217, hm_218, hp_219⟩ := hp_216
                    rw [show (1 : Int32).toInt = 1 by decide] at hs_217
                    rw [show (30 : Int32).toInt = 30 by decide] at hs_217
                    obtain ⟨iM_216, q_220, p_221, p_222, p_223, b0r_215, b1r_215⟩ := hp_219
                    have z_224 := l_ps (by decide) (by decide) ⟨iM_216, q_220, p_221, p_222, p_223⟩
                    clear p_221 p_222 p_223
                    have br_215 : 1 ≤ r_215.toInt ∧ r_215.toInt ≤ 30 := by have l1 : (1 : Int32).toInt = 1 := (by decide); have l2 : (30 : Int32).toInt = 30 := (by decide); omega
                    obtain ⟨g_225, eg_225⟩ : ∃ z : Nat → Int, z = pp_nb B n 1 30 g_114 := ⟨_, rfl⟩
                    rw [← eg_225] at hs_217
                    have tl_226 : qL td M_216 := qL_fr tl_115 q_220.1 (q_220.2 18 (by decide)) (q_220.2 30 (by decide)) (by omega)
                    refine ti_callVv (ci := 10) (av := [.int 3, .int r_215]) C hw (s_X10_reads l D A cy hJ M_216 iM_216 3 r_215 (by decide) (by decide) (by rw [show (11 + (3 : Int32).toInt).toNat = 14 by decide]; exact (ib_mk (lo := 1) (hi := 30) (by omega) (by omega)))) ⟨ml_X10_244, ym_X10_reads, yv_X10_reads, yi_X10_reads, yc_X10_reads⟩ yd_X10_reads ob_60 (by decide) rfl rfl hl.1 (Nat.le_of_ble_eq_true rfl) ⟨by decide, by decide⟩ ⟨Nat.zero_le _, Nat.zero_le _⟩ dX10_line_214 (fun M_228 H locs hp_228 hw => ?_)
                    obtain ⟨iM_228, hM_228⟩ := hp_228
                    rw [show (11 + (3 : Int32).toInt).toNat = 14 by decide] at hM_228
                    have z_229 := s5_3 hM_228 (by decide)
                    have hs_230 := rQ_3x hs_217 hM_228 (by decide)
                    have tl_232 : qL (pp_su td 8 (g_114 1)) M_228 := qL_r (c := 8) tl_226 hM_228 (fun q8 => hm_218 (by have q7 := ff_1 q8; exact ff_y (by omega))) (Or.inl ⟨by decide, by decide, rfl⟩) (fun q8 => by have h9 := (fun q8 => hm_218 (by have q7 := ff_1 q8; exact ff_y (by omega))) q8; refine ⟨fun _ => ?_, fun _ => ?_, fun _ => ?_, fun _ => ?_, fun _ => ?_, fun _ => ?_, fun _ => ?_⟩ <;> omega)
                    obtain ⟨d_231, ed_231⟩ : ∃ z : Nat → Int, z = pp_su td 8 (g_114 1) := ⟨_, rfl⟩
                    rw [← ed_231] at tl_232
                    have w_234 : x_4.toInt = 4 := by rw [s_116_4]; decide
                    have hq_233 : rQ B n (pp_lb B n rg) M_228 := by unfold pp_lb; rw [if_neg (by omega), if_neg (by omega), if_neg (by omega), if_neg (by omega), if_pos (by omega), o1_on ⟨by omega, by omega⟩ (by rw [rQ_b3 hr r0 ⟨by omega, by omega⟩, show (rg 0).toNat = x_4.toInt.toNat by omega]; omega), ← eg_99, ← eg_114, ← eg_225]; exact hs_230
                    have tl_235 : qL (qq_lb B n rg td) M_228 := by unfold qq_lb; rw [if_neg (by omega), if_neg (by omega), if_neg (by omega), if_neg (by omega), if_pos (by omega), o1_on ⟨by omega, by omega⟩ (by rw [rQ_b3 hr r0 ⟨by omega, by omega⟩, show (rg 0).toNat = x_4.toInt.toNat by omega]; omega), ← eg_99, ← eg_114, ← ed_231]; exact tl_232
                    refine lv_goto (tgt := 270) hx hb dX10_line_217 (by decide) ?_
                    exact hj_270_343 M_228 (pp_lb B n rg) (qq_lb B n rg td) _ _ _ iM_228 (ln.trans (ln_l0 (l0_3 hM_228 (by decide))) (ln.trans (ln_l0 (l0_pr q_220 (by decide) (by decide))) (ln.trans (ln_l0 (l0_pr q_106 (by decide) (by decide))) (ln_l0 (l0_I hM_92 (by decide)))))) (gU.trans (gU_Yx hM_228 (by decide)) (gU.trans (gU_e q_220.1) (gU.trans (gU_e q_106.1) (gU_e (ry_I hM_92))))) hq_233 tl_235 rfl rfl (by first | omega | decide) (by first | omega | decide) (by first | omega | decide) (by first | omega | decide) (by first | omega | decide) (by first | omega | decide) (by first | omega | decide) (by first | omega | decide) (by first | omega | decide) (by first | omega | decide) (by first | omega | decide) (um_l0 hum (l0.trans (l0_3 hM_228 (by decide)) (l0.trans (l0_pr q_220 (by decide) (by decide)) (l0.trans (l0_pr q_106 (by decide) (by decide)) (l0_I hM_92 (by decide))))) (by omega)) hw (lv_sub hl [0, 1] rfl)
                  · have qs_116_4 : x_4.toInt ≠ 4 := pt_ne s_116_4 (by decide)
                    by_cases s_116_5 : x_4 = 5
                    · refine lv_tableIn (tgt := 220) (off := 118) hx hb dX10_line_102 (by rw [s_116_5]; decide) (by rw [s_116_5]; decide) (by rw [s_116_5]; decide) (by decide) ?_
                      refine lv_aload_n hx hb dX10_line_220 rfl (lv_at hl 1 rfl) ?_
                      refine lv_iconst (v := 4) hx hb dX10_line_221 (by decide) ?_
                      refine lv_aload_n hx hb dX10_line_222 rfl (lv_at hl 1 rfl) ?_
                      refine lv_iconst (v := 1) hx hb dX10_line_223 (by decide) ?_
                      refine lv_bipush (v := 7) hx hb dX10_line_224 (by decide) ?_
                      refine ti_callViE (ci := 10) (av := [.int 1, .int 7]) C hE hw (x_X10_numeral l D A cy hJ M_103 iM_103 1 7 (by decide) (by decide) B n g_114 hs_107) ⟨ml_X10_240, ym_X10_numeral, yv_X10_numeral, yi_X10_numeral, yc_X10_numeral⟩ yd_X10_numeral ob_60 (by decide) rfl rfl hl.1 (Nat.le_of_ble_eq_true rfl) ⟨by decide, by decide⟩ ⟨Nat.zero_le _, Nat.zero_le _⟩ dX10_line_226 (fun r_236 M_237 H locs hp_237 hw => ?_)
                      obtain ⟨hs_238, hm_239, hp_240⟩ := hp_237
                      rw [show (1 : Int32).toInt = 1 by decide] at hs_238
                      rw [show (7 : Int32).toInt = 7 by decide] at hs_238
                      obtain ⟨iM_237, q_241, p_242, p_243, p_244, b0r_236, b1r_236⟩ := hp_240
                      have z_245 := l_ps (by decide) (by decide) ⟨iM_237, q_241, p_242, p_243, p_244⟩
                      clear p_242 p_243 p_244
                      have br_236 : 1 ≤ r_236.toInt ∧ r_236.toInt ≤ 7 := by have l1 : (1 : Int32).toInt = 1 := (by decide); have l2 : (7 : Int32).toInt = 7 := (by decide); omega
                      obtain ⟨g_246, eg_246⟩ : ∃ z : Nat → Int, z = pp_nb B n 1 7 g_114 := ⟨_, rfl⟩
                      rw [← eg_246] at hs_238
                      have tl_247 : qL td M_237 := qL_fr tl_115 q_241.1 (q_241.2 18 (by decide)) (q_241.2 30 (by decide)) (by omega)
                      refine ti_callVv (ci := 10) (av := [.int 4, .int r_236]) C hw (s_X10_reads l D A cy hJ M_237 iM_237 4 r_236 (by decide) (by decide) (by rw [show (11 + (4 : Int32).toInt).toNat = 15 by decide]; exact trivial)) ⟨ml_X10_244, ym_X10_reads, yv_X10_reads, yi_X10_reads, yc_X10_reads⟩ yd_X10_reads ob_60 (by decide) rfl rfl hl.1 (Nat.le_of_ble_eq_true rfl) ⟨by decide, by decide⟩ ⟨Nat.zero_le _, Nat.zero_le _⟩ dX10_line_229 (fun M_249 H locs hp_249 hw => ?_)
                      obtain ⟨iM_249, hM_249⟩ := hp_249
                      rw [show (11 + (4 : Int32).toInt).toNat = 15 by decide] at hM_249
                      have z_250 := s5_3 hM_249 (by decide)
                      have hs_251 := rQ_3x hs_238 hM_249 (by decide)
                      have tl_253 : qL (pp_su td 9 (g_114 1)) M_249 := qL_r (c := 9) tl_247 hM_249 (fun q8 => hm_239 (by have q7 := ff_1 q8; exact ff_y (by omega))) (Or.inl ⟨by decide, by decide, rfl⟩) (fun q8 => by have h9 := (fun q8 => hm_239 (by have q7 := ff_1 q8; exact ff_y (by omega))) q8; refine ⟨fun _ => ?_, fun _ => ?_, fun _ => ?_, fun _ => ?_, fun _ => ?_, fun _ => ?_, fun _ => ?_⟩ <;> omega)
                      obtain ⟨d_252, ed_252⟩ : ∃ z : Nat → Int, z = pp_su td 9 (g_114 1) := ⟨_, rfl⟩
                      rw [← ed_252] at tl_253
                      have w_255 : x_4.toInt = 5 := by rw [s_116_5]; decide
                      have hq_254 : rQ B n (pp_lb B n rg) M_249 := by unfold pp_lb; rw [if_neg (by omega), if_neg (by omega), if_neg (by omega), if_neg (by omega), if_neg (by omega), if_pos (by omega), o1_on ⟨by omega, by omega⟩ (by rw [rQ_b3 hr r0 ⟨by omega, by omega⟩, show (rg 0).toNat = x_4.toInt.toNat by omega]; omega), ← eg_99, ← eg_114, ← eg_246]; exact hs_251
                      have tl_256 : qL (qq_lb B n rg td) M_249 := by unfold qq_lb; rw [if_neg (by omega), if_neg (by omega), if_neg (by omega), if_neg (by omega), if_neg (by omega), if_pos (by omega), o1_on ⟨by omega, by omega⟩ (by rw [rQ_b3 hr r0 ⟨by omega, by omega⟩, show (rg 0).toNat = x_4.toInt.toNat by omega]; omega), ← eg_99, ← eg_114, ← ed_252]; exact tl_253
                      refine lv_goto (tgt := 270) hx hb dX10_line_232 (by decide) ?_
                      exact hj_270_343 M_249 (pp_lb B n rg) (qq_lb B n rg td) _ _ _ iM_249 (ln.trans (ln_l0 (l0_3 hM_249 (by decide))) (ln.trans (ln_l0 (l0_pr q_241 (by decide) (by decide))) (ln.trans (ln_l0 (l0_pr q_106 (by decide) (by decide))) (ln_l0 (l0_I hM_92 (by decide)))))) (gU.trans (gU_Yx hM_249 (by decide)) (gU.trans (gU_e q_241.1) (gU.trans (gU_e q_106.1) (gU_e (ry_I hM_92))))) hq_254 tl_256 rfl rfl (by first | omega | decide) (by first | omega | decide) (by first | omega | decide) (by first | omega | decide) (by first | omega | decide) (by first | omega | decide) (by first | omega | decide) (by first | omega | decide) (by first | omega | decide) (by first | omega | decide) (by first | omega | decide) (um_l0 hum (l0.trans (l0_3 hM_249 (by decide)) (l0.trans (l0_pr q_241 (by decide) (by decide)) (l0.trans (l0_pr q_106 (by decide) (by decide)) (l0_I hM_92 (by decide))))) (by omega)) hw (lv_sub hl [0, 1] rfl)
                    · have qs_116_5 : x_4.toInt ≠ 5 := pt_ne s_116_5 (by decide)
                      by_cases s_116_6 : x_4 = 6
                      · refine lv_tableIn (tgt := 235) (off := 133) hx hb dX10_line_102 (by rw [s_116_6]; decide) (by rw [s_116_6]; decide) (by rw [s_116_6]; decide) (by decide) ?_
                        refine lv_aload_n hx hb dX10_line_235 rfl (lv_at hl 1 rfl) ?_
                        refine lv_iconst (v := 5) hx hb dX10_line_236 (by decide) ?_
                        refine lv_aload_n hx hb dX10_line_237 rfl (lv_at hl 1 rfl) ?_
                        refine lv_iconst (v := 0) hx hb dX10_line_238 (by decide) ?_
                        refine lv_bipush (v := 99) hx hb dX10_line_239 (by decide) ?_
                        refine ti_callViE (ci := 10) (av := [.int 0, .int 99]) C hE hw (x_X10_numeral l D A cy hJ M_103 iM_103 0 99 (by decide) (by decide) B n g_114 hs_107) ⟨ml_X10_240, ym_X10_numeral, yv_X10_numeral, yi_X10_numeral, yc_X10_numeral⟩ yd_X10_numeral ob_60 (by decide) rfl rfl hl.1 (Nat.le_of_ble_eq_true rfl) ⟨by decide, by decide⟩ ⟨Nat.zero_le _, Nat.zero_le _⟩ dX10_line_241 (fun r_257 M_258 H locs hp_258 hw => ?_)
                        obtain ⟨hs_259, hm_260, hp_261⟩ := hp_258
                        rw [show (0 : Int32).toInt = 0 by decide] at hs_259
                        rw [show (99 : Int32).toInt = 99 by decide] at hs_259
                        obtain ⟨iM_258, q_262, p_263, p_264, p_265, b0r_257, b1r_257⟩ := hp_261
                        have z_266 := l_ps (by decide) (by decide) ⟨iM_258, q_262, p_263, p_264, p_265⟩
                        clear p_263 p_264 p_265
                        have br_257 : 0 ≤ r_257.toInt ∧ r_257.toInt ≤ 99 := by have l1 : (0 : Int32).toInt = 0 := (by decide); have l2 : (99 : Int32).toInt = 99 := (by decide); omega
                        obtain ⟨g_267, eg_267⟩ : ∃ z : Nat → Int, z = pp_nb B n 0 99 g_114 := ⟨_, rfl⟩
                        rw [← eg_267] at hs_259
                        have tl_268 : qL td M_258 := qL_fr tl_115 q_262.1 (q_262.2 18 (by decide)) (q_262.2 30 (by decide)) (by omega)
                        refine ti_callVv (ci := 10) (av := [.int 5, .int r_257]) C hw (s_X10_reads l D A cy hJ M_258 iM_258 5 r_257 (by decide) (by decide) (by rw [show (11 + (5 : Int32).toInt).toNat = 16 by decide]; exact trivial)) ⟨ml_X10_244, ym_X10_reads, yv_X10_reads, yi_X10_reads, yc_X10_reads⟩ yd_X10_reads ob_60 (by decide) rfl rfl hl.1 (Nat.le_of_ble_eq_true rfl) ⟨by decide, by decide⟩ ⟨Nat.zero_le _, Nat.zero_le _⟩ dX10_line_244 (fun M_270 H locs hp_270 hw => ?_)
                        obtain ⟨iM_270, hM_270⟩ := hp_270
                        rw [show (11 + (5 : Int32).toInt).toNat = 16 by decide] at hM_270
                        have z_271 := s5_3 hM_270 (by decide)
                        have hs_272 := rQ_3x hs_259 hM_270 (by decide)
                        have tl_274 : qL (pp_su td 10 (g_114 1)) M_270 := qL_r (c := 10) tl_268 hM_270 (fun q8 => hm_260 (by have q7 := ff_1 q8; exact ff_y (by omega))) (Or.inl ⟨by decide, by decide, rfl⟩) (fun q8 => by have h9 := (fun q8 => hm_260 (by have q7 := ff_1 q8; exact ff_y (by omega))) q8; refine ⟨fun _ => ?_, fun _ => ?_, fun _ => ?_, fun _ => ?_, fun _ => ?_, fun _ => ?_, fun _ => ?_⟩ <;> omega)
                        obtain ⟨d_273, ed_273⟩ : ∃ z : Nat → Int, z = pp_su td 10 (g_114 1) := ⟨_, rfl⟩
                        rw [← ed_273] at tl_274
                        have w_276 : x_4.toInt = 6 := by rw [s_116_6]; decide
                        have hq_275 : rQ B n (pp_lb B n rg) M_270 := by unfold pp_lb; rw [if_neg (by omega), if_neg (by omega), if_neg (by omega), if_neg (by omega), if_neg (by omega), if_neg (by omega), if_pos (by omega), o1_on ⟨by omega, by omega⟩ (by rw [rQ_b3 hr r0 ⟨by omega, by omega⟩, show (rg 0).toNat = x_4.toInt.toNat by omega]; omega), ← eg_99, ← eg_114, ← eg_267]; exact hs_272
                        have tl_277 : qL (qq_lb B n rg td) M_270 := by unfold qq_lb; rw [if_neg (by omega), if_neg (by omega), if_neg (by omega), if_neg (by omega), if_neg (by omega), if_neg (by omega), if_pos (by omega), o1_on ⟨by omega, by omega⟩ (by rw [rQ_b3 hr r0 ⟨by omega, by omega⟩, show (rg 0).toNat = x_4.toInt.toNat by omega]; omega), ← eg_99, ← eg_114, ← ed_273]; exact tl_274
                        refine lv_goto (tgt := 270) hx hb dX10_line_247 (by decide) ?_
                        exact hj_270_343 M_270 (pp_lb B n rg) (qq_lb B n rg td) _ _ _ iM_270 (ln.trans (ln_l0 (l0_3 hM_270 (by decide))) (ln.trans (ln_l0 (l0_pr q_262 (by decide) (by decide))) (ln.trans (ln_l0 (l0_pr q_106 (by decide) (by decide))) (ln_l0 (l0_I hM_92 (by decide)))))) (gU.trans (gU_Yx hM_270 (by decide)) (gU.trans (gU_e q_262.1) (gU.trans (gU_e q_106.1) (gU_e (ry_I hM_92))))) hq_275 tl_277 rfl rfl (by first | omega | decide) (by first | omega | decide) (by first | omega | decide) (by first | omega | decide) (by first | omega | decide) (by first | omega | decide) (by first | omega | decide) (by first | omega | decide) (by first | omega | decide) (by first | omega | decide) (by first | omega | decide) (um_l0 hum (l0.trans (l0_3 hM_270 (by decide)) (l0.trans (l0_pr q_262 (by decide) (by decide)) (l0.trans (l0_pr q_106 (by decide) (by decide)) (l0_I hM_92 (by decide))))) (by omega)) hw (lv_sub hl [0, 1] rfl)
                      · have qs_116_6 : x_4.toInt ≠ 6 := pt_ne s_116_6 (by decide)
                        by_cases s_116_7 : x_4 = 7
                        · refine lv_tableIn (tgt := 250) (off := 148) hx hb dX10_line_102 (by rw [s_116_7]; decide) (by rw [s_116_7]; decide) (by rw [s_116_7]; decide) (by decide) ?_
                          refine lv_aload_n hx hb dX10_line_250 rfl (lv_at hl 1 rfl) ?_
                          refine lv_bipush (v := 6) hx hb dX10_line_251 (by decide) ?_
                          refine lv_aload_n hx hb dX10_line_253 rfl (lv_at hl 1 rfl) ?_
                          refine lv_iconst (v := 0) hx hb dX10_line_254 (by decide) ?_
                          refine lv_ldc (v := 99999) hx hb C.2.2.2.1 (C.2.2.1 _ cn_X10_192) dX10_line_255 ?_
                          refine ti_callViE (ci := 10) (av := [.int 0, .int 99999]) C hE hw (x_X10_numeral l D A cy hJ M_103 iM_103 0 99999 (by decide) (by decide) B n g_114 hs_107) ⟨ml_X10_240, ym_X10_numeral, yv_X10_numeral, yi_X10_numeral, yc_X10_numeral⟩ yd_X10_numeral ob_60 (by decide) rfl rfl hl.1 (Nat.le_of_ble_eq_true rfl) ⟨by decide, by decide⟩ ⟨Nat.zero_le _, Nat.zero_le _⟩ dX10_line_257 (fun r_278 M_279 H locs hp_279 hw => ?_)
                          obtain ⟨hs_280, hm_281, hp_282⟩ := hp_279
                          rw [show (0 : Int32).toInt = 0 by decide] at hs_280
                          rw [show (99999 : Int32).toInt = 99999 by decide] at hs_280
                          obtain ⟨iM_279, q_283, p_284, p_285, p_286, b0r_278, b1r_278⟩ := hp_282
                          have z_287 := l_ps (by decide) (by decide) ⟨iM_279, q_283, p_284, p_285, p_286⟩
                          clear p_284 p_285 p_286
                          have br_278 : 0 ≤ r_278.toInt ∧ r_278.toInt ≤ 99999 := by have l1 : (0 : Int32).toInt = 0 := (by decide); have l2 : (99999 : Int32).toInt = 99999 := (by decide); omega
                          obtain ⟨g_288, eg_288⟩ : ∃ z : Nat → Int, z = pp_nb B n 0 99999 g_114 := ⟨_, rfl⟩
                          rw [← eg_288] at hs_280
                          have tl_289 : qL td M_279 := qL_fr tl_115 q_283.1 (q_283.2 18 (by decide)) (q_283.2 30 (by decide)) (by omega)
                          refine ti_callVv (ci := 10) (av := [.int 6, .int r_278]) C hw (s_X10_reads l D A cy hJ M_279 iM_279 6 r_278 (by decide) (by decide) (by rw [show (11 + (6 : Int32).toInt).toNat = 17 by decide]; exact trivial)) ⟨ml_X10_244, ym_X10_reads, yv_X10_reads, yi_X10_reads, yc_X10_reads⟩ yd_X10_reads ob_60 (by decide) rfl rfl hl.1 (Nat.le_of_ble_eq_true rfl) ⟨by decide, by decide⟩ ⟨Nat.zero_le _, Nat.zero_le _⟩ dX10_line_260 (fun M_291 H locs hp_291 hw => ?_)
                          obtain ⟨iM_291, hM_291⟩ := hp_291
                          rw [show (11 + (6 : Int32).toInt).toNat = 17 by decide] at hM_291
                          have z_292 := s5_3 hM_291 (by decide)
                          have hs_293 := rQ_3x hs_280 hM_291 (by decide)
                          have tl_295 : qL (pp_su td 11 (g_114 1)) M_291 := qL_r (c := 11) tl_289 hM_291 (fun q8 => hm_281 (by have q7 := ff_1 q8; exact ff_y (by omega))) (Or.inl ⟨by decide, by decide, rfl⟩) (fun q8 => by have h9 := (fun q8 => hm_281 (by have q7 := ff_1 q8; exact ff_y (by omega))) q8; refine ⟨fun _ => ?_, fun _ => ?_, fun _ => ?_, fun _ => ?_, fun _ => ?_, fun _ => ?_, fun _ => ?_⟩ <;> omega)
                          obtain ⟨d_294, ed_294⟩ : ∃ z : Nat → Int, z = pp_su td 11 (g_114 1) := ⟨_, rfl⟩
                          rw [← ed_294] at tl_295
                          have w_297 : x_4.toInt = 7 := by rw [s_116_7]; decide
                          have hq_296 : rQ B n (pp_lb B n rg) M_291 := by unfold pp_lb; rw [if_neg (by omega), if_neg (by omega), if_neg (by omega), if_neg (by omega), if_neg (by omega), if_neg (by omega), if_neg (by omega), if_pos (by omega), o1_on ⟨by omega, by omega⟩ (by rw [rQ_b3 hr r0 ⟨by omega, by omega⟩, show (rg 0).toNat = x_4.toInt.toNat by omega]; omega), ← eg_99, ← eg_114, ← eg_288]; exact hs_293
                          have tl_298 : qL (qq_lb B n rg td) M_291 := by unfold qq_lb; rw [if_neg (by omega), if_neg (by omega), if_neg (by omega), if_neg (by omega), if_neg (by omega), if_neg (by omega), if_neg (by omega), if_pos (by omega), o1_on ⟨by omega, by omega⟩ (by rw [rQ_b3 hr r0 ⟨by omega, by omega⟩, show (rg 0).toNat = x_4.toInt.toNat by omega]; omega), ← eg_99, ← eg_114, ← ed_294]; exact tl_295
                          refine lv_goto (tgt := 270) hx hb dX10_line_263 (by decide) ?_
                          exact hj_270_343 M_291 (pp_lb B n rg) (qq_lb B n rg td) _ _ _ iM_291 (ln.trans (ln_l0 (l0_3 hM_291 (by decide))) (ln.trans (ln_l0 (l0_pr q_283 (by decide) (by decide))) (ln.trans (ln_l0 (l0_pr q_106 (by decide) (by decide))) (ln_l0 (l0_I hM_92 (by decide)))))) (gU.trans (gU_Yx hM_291 (by decide)) (gU.trans (gU_e q_283.1) (gU.trans (gU_e q_106.1) (gU_e (ry_I hM_92))))) hq_296 tl_298 rfl rfl (by first | omega | decide) (by first | omega | decide) (by first | omega | decide) (by first | omega | decide) (by first | omega | decide) (by first | omega | decide) (by first | omega | decide) (by first | omega | decide) (by first | omega | decide) (by first | omega | decide) (by first | omega | decide) (um_l0 hum (l0.trans (l0_3 hM_291 (by decide)) (l0.trans (l0_pr q_283 (by decide) (by decide)) (l0.trans (l0_pr q_106 (by decide) (by decide)) (l0_I hM_92 (by decide))))) (by omega)) hw (lv_sub hl [0, 1] rfl)
                        · have qs_116_7 : x_4.toInt ≠ 7 := pt_ne s_116_7 (by decide)
                          refine lv_tableOut (tgt := 266) hx hb dX10_line_102 (ti_out (lo := 0) (hi := 7) x_4 (fun v h1 h2 => by rcases (show v = 0 ∨ v = 1 ∨ v = 2 ∨ v = 3 ∨ v = 4 ∨ v = 5 ∨ v = 6 ∨ v = 7 by omega) with rfl | rfl | rfl | rfl | rfl | rfl | rfl | rfl <;> first | exact ti_nev 0 s_116_0 (by decide) | exact ti_nev 1 s_116_1 (by decide) | exact ti_nev 2 s_116_2 (by decide) | exact ti_nev 3 s_116_3 (by decide) | exact ti_nev 4 s_116_4 (by decide) | exact ti_nev 5 s_116_5 (by decide) | exact ti_nev 6 s_116_6 (by decide) | exact ti_nev 7 s_116_7 (by decide))) (by decide) ?_
                          refine lv_aload_n hx hb dX10_line_266 rfl (lv_at hl 1 rfl) ?_
                          refine ti_callVvE (ci := 10) (av := []) C hE hw (x_X10_lawLine l D A cy hJ M_103 iM_103 (by omega) (um_l0 hum (l0.trans (l0_pr q_106 (by decide) (by decide)) (l0_I hM_92 (by decide))) (by omega)) (by omega) (by omega) B n g_114 hs_107 td tl_115) ⟨ml_X10_248, ym_X10_lawLine, yv_X10_lawLine, yi_X10_lawLine, yc_X10_lawLine⟩ yd_X10_lawLine ob_60 (by decide) rfl rfl hl.1 (Nat.le_of_ble_eq_true rfl) ⟨by decide, by decide⟩ ⟨Nat.zero_le _, Nat.zero_le _⟩ dX10_line_267 (fun M_300 H locs hp_300 hw => ?_)
                          obtain ⟨gu_303, tl_301, hp_302⟩ := hp_300
                          obtain ⟨hs_304, hp_305⟩ := hp_302
                          obtain ⟨iM_300, q_306, z_307, z_308, z_309, z_310, z_311, z_312, z_313, z_314, z_315, z_316, z_317, u_318⟩ := hp_305
                          obtain ⟨g_319, eg_319⟩ : ∃ z : Nat → Int, z = pp_lq B n g_114 := ⟨_, rfl⟩
                          rw [← eg_319] at hs_304
                          obtain ⟨d_320, ed_320⟩ : ∃ z : Nat → Int, z = qq_lq B n g_114 td := ⟨_, rfl⟩
                          rw [← ed_320] at tl_301
                          have hq_321 : rQ B n (pp_lb B n rg) M_300 := by unfold pp_lb; rw [if_neg (by omega), if_neg (by omega), if_neg (by omega), if_neg (by omega), if_neg (by omega), if_neg (by omega), if_neg (by omega), if_neg (by omega), if_pos (by omega), show pp_lw B n rg = pp_lq B n (pp_av B n rg) from rfl, show pp_av B n rg = g_114 by rw [eg_114, eg_99, o1_n (by omega)], ← eg_319]; exact hs_304
                          have tl_322 : qL (qq_lb B n rg td) M_300 := by unfold qq_lb; rw [if_neg (by omega), if_neg (by omega), if_neg (by omega), if_neg (by omega), if_neg (by omega), if_neg (by omega), if_neg (by omega), if_neg (by omega), if_pos (by omega), show qq_lw B n rg td = qq_lq B n (pp_av B n rg) td from rfl, show pp_av B n rg = g_114 by rw [eg_114, eg_99, o1_n (by omega)], ← ed_320]; exact tl_301
                          exact hj_270_343 M_300 (pp_lb B n rg) (qq_lb B n rg td) _ _ _ iM_300 (ln.trans q_306 (ln.trans (ln_l0 (l0_pr q_106 (by decide) (by decide))) (ln_l0 (l0_I hM_92 (by decide))))) (gU.trans gu_303 (gU.trans (gU_e q_106.1) (gU_e (ry_I hM_92)))) hq_321 tl_322 rfl rfl (by first | omega | decide) (by first | omega | decide) (by first | omega | decide) (by first | omega | decide) (by first | omega | decide) (by first | omega | decide) (by first | omega | decide) (by first | omega | decide) (by first | omega | decide) (by first | omega | decide) (by first | omega | decide) u_318 hw (lv_sub hl [0, 1] rfl)
        refine sb_icmp_lt (tgt := 77) hx hb rfl (by decide : (3 : Int32).toInt = 3) dX10_line_51 (by decide) (fun c_51_48 => ?_) (fun c_51_48 => ?_)
        · refine lv_aload_n hx hb dX10_line_77 rfl (lv_at hl 1 rfl) ?_
          refine ti_get (ci := 10) (k := 25) (N := 67) (T := TX10) C hw iw_10 rfl ob_60 (by decide) (by decide) fl_X10_208 rfl rfl dX10_line_78 ?_
          refine lv_topi (fun x_71 ex_71 => ?_)
          have u_72 : (tI M 60 25).toInt = x_71.toInt := by rw [ex_71]
          have ufx_71 : (tI M 60 25).toInt = x_71.toInt := by rw [ex_71]
          refine sb_if_eq (tgt := 85) hx hb rfl dX10_line_81 (by decide) (fun c_81_72 => ?_) (fun c_81_72 => by have z_74 : ff M = 0 := ff_0 (fun h => c_81_72 (ufx_71.symm.trans h)); omega)
          have z_74 : ff M = 1 := ff_1 (ufx_71.trans c_81_72)
          clear c_81_72
          exact hj_85_88  _ _ _ (by first | omega | decide) (by first | omega | decide) hw (lv_sub hl [0, 1] rfl)
        · refine lv_iload_n hx hb dX10_line_54 rfl (lv_at hl 0 rfl) ?_
          refine lv_bipush (v := 7) hx hb dX10_line_55 (by decide) ?_
          refine sb_icmp_gt (tgt := 77) hx hb rfl (by decide : (7 : Int32).toInt = 7) dX10_line_57 (by decide) (fun c_57_49 => ?_) (fun c_57_49 => ?_)
          · refine lv_aload_n hx hb dX10_line_77 rfl (lv_at hl 1 rfl) ?_
            refine ti_get (ci := 10) (k := 25) (N := 67) (T := TX10) C hw iw_10 rfl ob_60 (by decide) (by decide) fl_X10_208 rfl rfl dX10_line_78 ?_
            refine lv_topi (fun x_75 ex_75 => ?_)
            have u_76 : (tI M 60 25).toInt = x_75.toInt := by rw [ex_75]
            have ufx_75 : (tI M 60 25).toInt = x_75.toInt := by rw [ex_75]
            refine sb_if_eq (tgt := 85) hx hb rfl dX10_line_81 (by decide) (fun c_81_76 => ?_) (fun c_81_76 => by have z_78 : ff M = 0 := ff_0 (fun h => c_81_76 (ufx_75.symm.trans h)); omega)
            have z_78 : ff M = 1 := ff_1 (ufx_75.trans c_81_76)
            clear c_81_76
            exact hj_85_88  _ _ _ (by first | omega | decide) (by first | omega | decide) hw (lv_sub hl [0, 1] rfl)
          · refine lv_aload_n hx hb dX10_line_60 rfl (lv_at hl 1 rfl) ?_
            refine ti_get (ci := 10) (k := 18) (N := 67) (T := TX10) C hw iw_10 rfl ob_60 (by decide) (by decide) fl_X10_228 rfl rfl dX10_line_61 ?_
            refine lv_topi (fun x_51 ex_51 => ?_)
            refine lv_iload_n hx hb dX10_line_64 rfl (lv_at hl 0 rfl) ?_
            refine lv_ishr hx hb dX10_line_65 ?_
            refine lv_topi (fun x_52 ex_52 => ?_)
            refine lv_iconst (v := 1) hx hb dX10_line_66 (by decide) ?_
            refine lv_iand hx hb dX10_line_67 ?_
            refine lv_topi (fun x_53 ex_53 => ?_)
            have bx_53 := i_and 1 ex_53 (by decide) (by decide)
            have bsx_53 : x_53.toInt = pp_bt (tI M 60 18) (x_4.toInt).toNat := by rw [(ex_51.symm)]; exact bt_shr (k := x_4.toInt) ex_52 rfl (by omega) (by omega) ex_53
            have box_53 := bt_01 (tI M 60 18) (x_4.toInt).toNat
            refine lv_iconst (v := 1) hx hb dX10_line_68 (by decide) ?_
            refine sb_icmp_ne (tgt := 77) hx hb rfl (by decide : (1 : Int32).toInt = 1) dX10_line_69 (by decide) (fun c_69_53 => ?_) (fun c_69_53 => ?_)
            · refine lv_aload_n hx hb dX10_line_77 rfl (lv_at hl 1 rfl) ?_
              refine ti_get (ci := 10) (k := 25) (N := 67) (T := TX10) C hw iw_10 rfl ob_60 (by decide) (by decide) fl_X10_208 rfl rfl dX10_line_78 ?_
              refine lv_topi (fun x_79 ex_79 => ?_)
              have u_80 : (tI M 60 25).toInt = x_79.toInt := by rw [ex_79]
              have ufx_79 : (tI M 60 25).toInt = x_79.toInt := by rw [ex_79]
              refine sb_if_eq (tgt := 85) hx hb rfl dX10_line_81 (by decide) (fun c_81_80 => ?_) (fun c_81_80 => by have z_82 : ff M = 0 := ff_0 (fun h => c_81_80 (ufx_79.symm.trans h)); omega)
              have z_82 : ff M = 1 := ff_1 (ufx_79.trans c_81_80)
              clear c_81_80
              exact hj_85_88  _ _ _ (by first | omega | decide) (by first | omega | decide) hw (lv_sub hl [0, 1] rfl)
            · refine lv_aload_n hx hb dX10_line_72 rfl (lv_at hl 1 rfl) ?_
              refine lv_iconst (v := 3) hx hb dX10_line_73 (by decide) ?_
              refine ti_callVv (ci := 10) (av := [.int 3]) C hw (x_X10_wrong l D A cy hJ M hI 3 (by decide) B n rg hr) ⟨ml_X10_217, ym_X10_wrong, yv_X10_wrong, yi_X10_wrong, yc_X10_wrong⟩ yd_X10_wrong ob_60 (by decide) rfl rfl hl.1 (Nat.le_of_ble_eq_true rfl) ⟨by decide, by decide⟩ ⟨Nat.zero_le _, Nat.zero_le _⟩ dX10_line_74 (fun M_56 H locs hp_56 hw => ?_)
              rw [show (3 : Int32).toInt = 3 by decide] at hp_56
              obtain ⟨hs_57, hp_58⟩ := hp_56
              obtain ⟨iM_56, q_59, z_60, z_61, z_62, z_63, z_64⟩ := l_wr hp_58
              clear hp_58
              obtain ⟨g_65, eg_65⟩ : ∃ z : Nat → Int, z = pp_rf 3 rg := ⟨_, rfl⟩
              rw [← eg_65] at hs_57
              have tl_66 : qL td M_56 := qL_fr hql q_59.1 (q_59.2 18 (by decide)) (q_59.2 30 (by decide)) (by omega)
              refine lv_aload_n hx hb dX10_line_77 rfl (lv_at hl 1 rfl) ?_
              refine ti_get (ci := 10) (k := 25) (N := 67) (T := TX10) C hw iw_10 rfl ob_60 (by decide) (by decide) fl_X10_208 rfl rfl dX10_line_78 ?_
              refine lv_topi (fun x_83 ex_83 => ?_)
              have u_84 : (tI M_56 60 25).toInt = x_83.toInt := by rw [ex_83]
              have ufx_83 : (tI M_56 60 25).toInt = x_83.toInt := by rw [ex_83]
              refine sb_if_eq (tgt := 85) hx hb rfl dX10_line_81 (by decide) (fun c_81_84 => by have z_86 : ff M_56 = 1 := ff_1 (ufx_83.trans c_81_84); omega) (fun c_81_84 => ?_)
              have z_86 : ff M_56 = 0 := ff_0 (fun h => c_81_84 (ufx_83.symm.trans h))
              clear c_81_84
              exact hQ _ _ _ _ _ hw (⟨(gU_e q_59.1), (qL_f (by omega)), (rQ_f hs_57 (rQ_g1 hs_57 (by omega)) (ln_k ((by have e3 := (pT_pw (rQ_T hr hf)).2.2 ⟨by omega, by omega⟩; rw [eg_65]; exact lb_3 ⟨by omega, by omega⟩ (by rw [rQ_b3 hr (rQ_g0 hr hf) ⟨by omega, by omega⟩, show (rg 0).toNat = x_4.toInt.toNat by omega]; omega))) (rQ_z hs_57 (rQ_g1 hs_57 (by omega))))), iM_56, (ln_l0 (l0_pr q_59 (by decide) (by decide))), (by omega), (by omega), (by omega), (by omega), (by omega), (by omega), (by omega), (by omega), (by omega), (by omega), (by omega), (um_l0 hum (l0_pr q_59 (by decide) (by decide)) (by omega))⟩) dX10_line_84
      refine sb_if_ne (tgt := 49) hx hb rfl dX10_line_28 (by decide) (fun c_28_31 => ?_) (fun c_28_31 => ?_)
      · exact hj_49_48  _ _ _ (by first | omega | decide) hw (lv_sub hl [0, 1] rfl)
      · refine lv_aload_n hx hb dX10_line_31 rfl (lv_at hl 1 rfl) ?_
        refine lv_iconst (v := 0) hx hb dX10_line_32 (by decide) ?_
        refine ti_callVi (ci := 10) (av := [.int 0]) C hw (s_X10_fresher_0 l D A cy hJ M hI ) ⟨ml_X10_224, ym_X10_fresher, yv_X10_fresher, yi_X10_fresher, yc_X10_fresher⟩ yd_X10_fresher ob_60 (by decide) rfl rfl hl.1 (Nat.le_of_ble_eq_true rfl) ⟨by decide, by decide⟩ ⟨Nat.zero_le _, Nat.zero_le _⟩ dX10_line_33 (fun r_33 M_34 H locs hp_34 hw => ?_)
        obtain ⟨hm, b0r_33, b1r_33, yr_33⟩ := hp_34
        have hw := hw.to hm
        have zr_33 : (tY M 60 3 11).toInt = r_33.toInt := by rw [yr_33]
        refine lv_bipush (v := 8) hx hb dX10_line_36 (by decide) ?_
        refine sb_icmp_ne (tgt := 49) hx hb rfl (by decide : (8 : Int32).toInt = 8) dX10_line_38 (by decide) (fun c_38_34 => ?_) (fun c_38_34 => ?_)
        · exact hj_49_48  _ _ _ (by first | omega | decide) hw (lv_sub hl [0, 1] rfl)
        · refine lv_aload_n hx hb dX10_line_41 rfl (lv_at hl 1 rfl) ?_
          refine lv_iconst (v := 2) hx hb dX10_line_42 (by decide) ?_
          refine ti_callVv (ci := 10) (av := [.int 2]) C hw (x_X10_wrong l D A cy hJ M hI 2 (by decide) B n rg hr) ⟨ml_X10_217, ym_X10_wrong, yv_X10_wrong, yi_X10_wrong, yc_X10_wrong⟩ yd_X10_wrong ob_60 (by decide) rfl rfl hl.1 (Nat.le_of_ble_eq_true rfl) ⟨by decide, by decide⟩ ⟨Nat.zero_le _, Nat.zero_le _⟩ dX10_line_43 (fun M_37 H locs hp_37 hw => ?_)
          rw [show (2 : Int32).toInt = 2 by decide] at hp_37
          obtain ⟨hs_38, hp_39⟩ := hp_37
          obtain ⟨iM_37, q_40, z_41, z_42, z_43, z_44, z_45⟩ := l_wr hp_39
          clear hp_39
          obtain ⟨g_46, eg_46⟩ : ∃ z : Nat → Int, z = pp_rf 2 rg := ⟨_, rfl⟩
          rw [← eg_46] at hs_38
          have tl_47 : qL td M_37 := qL_fr hql q_40.1 (q_40.2 18 (by decide)) (q_40.2 30 (by decide)) (by omega)
          refine lv_goto (tgt := 77) hx hb dX10_line_46 (by decide) ?_
          refine lv_aload_n hx hb dX10_line_77 rfl (lv_at hl 1 rfl) ?_
          refine ti_get (ci := 10) (k := 25) (N := 67) (T := TX10) C hw iw_10 rfl ob_60 (by decide) (by decide) fl_X10_208 rfl rfl dX10_line_78 ?_
          refine lv_topi (fun x_67 ex_67 => ?_)
          have u_68 : (tI M_37 60 25).toInt = x_67.toInt := by rw [ex_67]
          have ufx_67 : (tI M_37 60 25).toInt = x_67.toInt := by rw [ex_67]
          refine sb_if_eq (tgt := 85) hx hb rfl dX10_line_81 (by decide) (fun c_81_68 => by have z_70 : ff M_37 = 1 := ff_1 (ufx_67.trans c_81_68); omega) (fun c_81_68 => ?_)
          have z_70 : ff M_37 = 0 := ff_0 (fun h => c_81_68 (ufx_67.symm.trans h))
          clear c_81_68
          exact hQ _ _ _ _ _ hw (⟨(gU_e q_40.1), (qL_f (by omega)), (rQ_f hs_38 (rQ_g1 hs_38 (by omega)) (ln_k (fk_e ((lb_0 (by have e3 := (pT_pw (rQ_T hr hf)).2.2 ⟨by omega, by omega⟩; omega) (by have m7 := mh_7 hr (rQ_g0 hr hf) rfl; omega)).trans eg_46.symm) (rQ_z hs_38 (rQ_g1 hs_38 (by omega)))) (rQ_z hs_38 (rQ_g1 hs_38 (by omega))))), iM_37, (ln_l0 (l0_pr q_40 (by decide) (by decide))), (by omega), (by omega), (by omega), (by omega), (by omega), (by omega), (by omega), (by omega), (by omega), (by omega), (by omega), (um_l0 hum (l0_pr q_40 (by decide) (by decide)) (by omega))⟩) dX10_line_84
    · refine lv_aload_n hx hb dX10_line_16 rfl (lv_at hl 0 rfl) ?_
      refine lv_iconst (v := 1) hx hb dX10_line_17 (by decide) ?_
      refine ti_callVv (ci := 10) (av := [.int 1]) C hw (x_X10_wrong l D A cy hJ M hI 1 (by decide) B n rg hr) ⟨ml_X10_217, ym_X10_wrong, yv_X10_wrong, yi_X10_wrong, yc_X10_wrong⟩ yd_X10_wrong ob_60 (by decide) rfl rfl hl.1 (Nat.le_of_ble_eq_true rfl) ⟨by decide, by decide⟩ ⟨Nat.zero_le _, Nat.zero_le _⟩ dX10_line_18 (fun M_20 H locs hp_20 hw => ?_)
      rw [show (1 : Int32).toInt = 1 by decide] at hp_20
      obtain ⟨hs_21, hp_22⟩ := hp_20
      obtain ⟨iM_20, q_23, z_24, z_25, z_26, z_27, z_28⟩ := l_wr hp_22
      clear hp_22
      obtain ⟨g_29, eg_29⟩ : ∃ z : Nat → Int, z = pp_rf 1 rg := ⟨_, rfl⟩
      rw [← eg_29] at hs_21
      have tl_30 : qL td M_20 := qL_fr hql q_23.1 (q_23.2 18 (by decide)) (q_23.2 30 (by decide)) (by omega)
      exact hQ _ _ _ _ _ hw (⟨(gU_e q_23.1), (qL_f (by omega)), (rQ_f hs_21 (rQ_g1 hs_21 (by omega)) (ln_k (fk_e ((lb_x (by have e := (pT_nw (rQ_T hr hf)).2.2; omega)).trans eg_29.symm) (rQ_z hs_21 (rQ_g1 hs_21 (by omega)))) (rQ_z hs_21 (rQ_g1 hs_21 (by omega))))), iM_20, (ln_l0 (l0_pr q_23 (by decide) (by decide))), (by omega), (by omega), (by omega), (by omega), (by omega), (by omega), (by omega), (by omega), (by omega), (by omega), (by omega), (um_l0 hum (l0_pr q_23 (by decide) (by decide)) (by omega))⟩) dX10_line_21
end
section
variable {Tc : gC} {Tm : gM}
theorem lx_3 {i : Nat} {N M : ti_M} {v : Int32} (e : N = uY M 60 3 (upd (tY M 60 3) i v)) (h : 11 ≤ i) : lx N M := ⟨fun k2 h2 => tY_nE e (nk (by omega)), fun j => ⟨fun hj => by rw [tY_uE e, pk_un (by omega)], fun hj => by rw [tY_nE e (nk (by decide))]⟩, fun j hj => ⟨by rw [tY_nE e (nk (by decide))], by rw [tY_nE e (nk (by decide))]⟩, fun j hj => ⟨by rw [tY_nE e (nk (by decide))], by rw [tY_nE e (nk (by decide))]⟩, fun k2 _ => tI_uYE e⟩
section
variable {B J : Nat → Int} {n : Nat}
theorem r0_9 : pp_r0 B n J 9 = 0 := rfl
/-- the registers ahead of the first line -/
theorem rQ_st {M N : ti_M} (hB : ∀ i : Nat, i < n → (tY M 60 1 i).toInt = B i) (hn : (tI M 60 20).toInt.toNat = n) (h21 : (tI M 60 21).toInt = 0) (hp : pr 21 24 N M) (k2 : (tI N 60 22).toInt = ((pt_P (pt_rB M) (pt_rn0 M) (tI M 60 21).toInt.toNat : Nat) : Int)) (k3 : (tI N 60 21).toInt = pt_A (pt_rB M) (pt_rn0 M) (tI M 60 21).toInt.toNat) (kT : pt_T (pt_K (pt_rB M) (pt_rn0 M) (tI M 60 21).toInt.toNat) (pt_V (pt_rB M) (pt_rn0 M) (tI M 60 21).toInt.toNat) (tI N 60 23).toInt (tI N 60 24).toInt) (h25 : (tI M 60 25).toInt = 0) (h26 : (tI M 60 26).toInt = -1) (h19 : (tI M 60 19).toInt = 0) (h30 : (tI M 60 30).toInt = 0) (h18 : tI M 60 18 = 0) (h11 : (tY M 60 3 11).toInt = 0) : rQ B n (pp_r0 B n J) N := by
  have a1 : ∀ i : Nat, i < n → pt_rB M i = B i := hB
  have a2 : pt_rn0 M = n := hn
  rw [a2, h21] at k2 k3 kT
  rw [px_P a1] at k2
  rw [px_A a1] at k3
  rw [px_K a1, px_V a1] at kT
  have bz : ∀ k : Nat, pp_bt 0 k = 0 := fun k => by unfold pp_bt; simp
  have y : ∀ k : Nat, tY N 60 k = tY M 60 k := fun k => congrFun (congrFun hp.1 60) k
  refine ⟨⟨fun i hi => by rw [pr_B hp]; exact a1 i hi, by rw [pr_n hp (by decide)]; exact a2⟩, ?_, ⟨?_, fun q => absurd rfl q⟩, fun _ => ⟨kT, ⟨k2.symm, k3.symm, px_An (Nat.zero_le n)⟩, ⟨?_, ?_, ?_⟩, fun i hi hl => ?_, fun k h1 h2 => ?_, fun k hk => ⟨?_, ?_⟩⟩⟩
  · rw [hp.2 25 (by decide), h25]; rfl
  · rw [hp.2 26 (by decide), h26]; rfl
  · rw [y, h11]; rfl
  · rw [hp.2 30 (by decide), h30]; rfl
  · rw [hp.2 19 (by decide), h19]; rfl
  · have e : pp_r0 B n J 7 = 0 := rfl
    omega
  · rw [hp.2 18 (by decide), h18, bz]
    unfold pp_r0
    rw [if_neg (by omega), if_neg (by omega), if_neg (by omega), if_neg (by omega), if_neg (by omega), if_neg (by omega), if_neg (by omega), if_pos (by omega)]
  · rw [hp.2 18 (by decide), h18, bz]
    unfold pp_r0
    rw [if_neg (by omega), if_neg (by omega), if_neg (by omega), if_neg (by omega), if_neg (by omega), if_neg (by omega), if_neg (by omega), if_pos (by omega)]
  · rw [hp.2 18 (by decide), h18, bz]
    unfold pp_r0
    rw [if_neg (by omega), if_neg (by omega), if_neg (by omega), if_neg (by omega), if_neg (by omega), if_neg (by omega), if_neg (by omega), if_pos (by omega)]
end
/-- the names of the men that are told, and how many, are in the registers -/
def tdR (M : ti_M) (rg : Nat → Int) : Prop := rg 7 = (tY M 60 3 0).toInt ∧ ∀ i : Nat, i < 8 → (i : Int) < rg 7 → rg (100 + i) = (tY M 60 4 i).toInt
theorem tdR_of {M N : ti_M} {rg : Nat → Int} (h : tdR M rg) (e3 : tY N 60 3 0 = tY M 60 3 0) (e4 : ∀ i : Nat, i < 8 → tY N 60 4 i = tY M 60 4 i) : tdR N rg := ⟨by rw [e3]; exact h.1, fun i hi hl => by rw [e4 i hi]; exact h.2 i hi hl⟩
theorem tdR_lw {M N : ti_M} {rg : Nat → Int} (h : tdR M rg) (x : lw N M) : tdR N rg := tdR_of h (by rw [x 3 (by decide) (by decide)]) (fun i _ => by rw [x 4 (by decide) (by decide)])
theorem tdR_lx {M N : ti_M} {rg : Nat → Int} (h : tdR M rg) (x : lx N M) : tdR N rg := tdR_of h ((x.2.1 0).1 (by decide)) (fun i hi => (x.2.1 i).2 hi)
end
section
variable {Tc : gC} {Tm : gM}
theorem pb_k {a b c d e v x y z : Int32} {k : Nat} (hv : v = if k < 4 then a else if k < 8 then b else if k < 12 then c else if k < 16 then d else e) (ex : x = v >>> (y &&& 31)) (hy : y.toInt = 24 - 8 * ((k % 4 : Nat) : Int)) (ez : z = x &&& 255) : z.toInt = pp_fb a b c d e k := by
  have ey : y = nI (24 - 8 * (k % 4)) := Int32.toInt_inj.mp (by rw [nI_toInt (by omega)]; omega)
  rw [ez, ex, ey, hv]
  rfl
theorem mI_tp {M N : ti_M} {f : Nat → Int32} (h : mI Tm M) (e : N = uY M 60 1 f) (hb : ∀ i, mBY 1 i (f i)) : mI (mG N) N := by
  refine mI_mk h (fun k => by rw [tI_uYE e]; exact h.1 k) (fun k i => ?_) (tI_uYE e) (tI_uYE e)
  by_cases q : k = 1
  · subst q; rw [tY_uE e]; exact hb i
  · rw [tY_nE e (nk q)]; exact h.2.1 k i
def mJ (M : ti_M) : Prop := mI (mG M) M
theorem mF_qx {M N : ti_M} {Tn : gM} (h : mF Tm M) (hI : mI Tn N) (q : qw N M) : mF Tn N := by
  obtain ⟨-, hL, h1, h3, h4⟩ := h
  refine ⟨hI, mL_lw q.1 hL, ⟨mC_qw q h1.1, mP_qw q h1.2⟩, ?_, ?_⟩
  · rw [q.2.1.2.1]; exact fun p => ⟨mC_qw q (h3 p).1, mP_qw q (h3 p).2⟩
  · rw [q.2.1.2.2]; exact fun k hk => ⟨mC_qw q (h4 k hk).1, mP_qw q (h4 k hk).2⟩
theorem mF_tp {M X N : ti_M} {Tn To : gM} {v : Int32} (h : mF Tm M) (hX : mI To X) (q : qw X M) (hI : mI Tn N) (e : N = uI X 60 2 v) : mF Tn N := by
  obtain ⟨-, hL, h1, h3, h4⟩ := h
  have i51 : tI N 60 51 = tI M 60 51 := (tI_nE e (nk (by decide))).trans q.2.1.2.1
  have i52 : tI N 60 52 = tI M 60 52 := (tI_nE e (nk (by decide))).trans q.2.1.2.2
  refine ⟨hI, mL_lw (fun k a b => (tY_uIE e).trans (q.1 k a b)) hL, gq_I e ⟨mC_qw q h1.1, mP_qw q h1.2⟩, ?_, ?_⟩
  · rw [i51]; exact fun p => gq_I e ⟨mC_qw q (h3 p).1, mP_qw q (h3 p).2⟩
  · rw [i52]; exact fun k hk => gq_I e ⟨mC_qw q (h4 k hk).1, mP_qw q (h4 k hk).2⟩
end

variable {Tc : gC} {Tm : gM}
/-- all ints and rows of the objects up to 49 stay: of the queue that is, the ring, the image -/
def fS (N M : ti_M) : Prop := ∀ o k : Nat, o ≤ 49 → tI N o k = tI M o k ∧ tY N o k = tY M o k
theorem fS.refl {M : ti_M} : fS M M := fun _ _ _ => ⟨rfl, rfl⟩
theorem fS.trans {K N M : ti_M} (x : fS K N) (y : fS N M) : fS K M := fun o k h => ⟨(x o k h).1.trans (y o k h).1, (x o k h).2.trans (y o k h).2⟩
theorem fS_q {q : Nat} {N M : ti_M} (h : eo q N M) (hq : 49 < q) : fS N M := fun o k ho => ⟨h.1 o k (by omega), h.2 o k (by omega)⟩
theorem fS_of {N M : ti_M} (e : N.1 = M.1) (e2 : N.2.1 = M.2.1) : fS N M := fun _ _ _ => ⟨tI_fr e, tY_fr e2⟩
theorem fS_I {M N : ti_M} {o k : Nat} {v : Int32} (e : N = uI M o k v) (h : 49 < o) : fS N M := fun _ _ _ => ⟨tI_nE e (no (by omega)), tY_uIE e⟩
theorem fS_Y {M N : ti_M} {o k : Nat} {v : Nat → Int32} (e : N = uY M o k v) (h : 49 < o) : fS N M := fun _ _ _ => ⟨tI_uYE e, tY_nE e (no (by omega))⟩
set_option maxHeartbeats 4000000 in
set_option maxRecDepth 100000 in
theorem f_X1_value (l : Launch) (D : va_G) (A : Nat → Nat → Nat) (cy : Nat → ClassId) (hJ : ti_inj ti_LT A) (M : ti_M) (hI : cI Tc M) (lw q t : Nat) (hlw : ti_ob ti_LT lw 1) (hq : ti_ob ti_LT q 3) (ht : t = 3 ∨ t = 4) (hT : tT M q 0 = some t) (pl ps : Int32) : ti_Kl l yX1_value cX1_value 10 (some .long) 1 ti_LT D A cy M [.ref (A lw 0), .ref (A q 0), .int pl, .int ps] (fun r M2 => M2.1 = M.1 ∧ M2.2.1 = M.2.1 ∧ cI Tc M2 ∧ M2.2.2.2 = M.2.2.2 ∧ M2.1 = M.1) := by
  refine ti_eL yp_X1_value hJ ti_LT_nd (Nat.le_of_ble_eq_true rfl) ?_
  intro p e s m args below meth c Q H0 C hQ hw ls hl
  have hx := C.1
  have hb := C.2.1
  have hl : lv_has ls 10 [(0, .ref (A lw 0)), (1, .ref (A q 0)), (2, .int pl), (3, .int ps)] := hl
  refine lv_aload_n hx hb dX1_value_0 rfl (lv_at hl 1 rfl) ?_
  refine lv_iload_n hx hb dX1_value_1 rfl (lv_at hl 2 rfl) ?_
  refine ti_callVi (ci := 3) (av := [.int pl]) C hw (s_X3_manAt l D A cy hJ M hI q hq pl) ⟨ml_X1_28, ym_X3_manAt, yv_X3_manAt, yi_X3_manAt, yc_X3_manAt⟩ yd_X3_manAt hq (by decide) rfl rfl hl.1 (Nat.le_of_ble_eq_true rfl) ⟨by decide, by decide⟩ ⟨Nat.zero_le _, Nat.zero_le _⟩ dX1_value_2 (fun r_1 M_2 H locs hp_2 hw => ?_)
  obtain ⟨hm, b0r_1, b1r_1, p0r_1⟩ := hp_2
  have hw := hw.to hm
  refine lv_istore (lv' := [(4, .int r_1), (0, .ref (A lw 0)), (1, .ref (A q 0)), (2, .int pl), (3, .int ps)]) hx hb dX1_value_5 hl (by decide) rfl (fun ls hl => ?_)
  refine lv_iload hx hb dX1_value_7 (lv_at hl 0 rfl) ?_
  have hj_19_5 : ∀  (H : Heap) (locs : List Loc) (ls : Array Slot), ti_H ti_LT D A cy H0 M H locs → lv_has ls 10 [(4, .int r_1), (0, .ref (A lw 0)), (1, .ref (A q 0)), (2, .int pl), (3, .int ps)] → W p l e (ti_rm 1) s m args below meth c H locs 0 0 Q (F0 m 19 ls []) := by
    intro  H locs ls  hw hl
    refine lv_ldc2 (v := (-9223372036854775808)) hx hb C.2.2.2.1 (C.2.2.1 _ cn_X1_34) dX1_value_19 ?_
    exact hQ _ _ _ _ _ _ hw (⟨rfl, rfl, hI, rfl, rfl⟩) dX1_value_22
  refine sb_if_lt (tgt := 19) hx hb rfl dX1_value_9 (by decide) (fun c_9_2 => ?_) (fun c_9_2 => ?_)
  · exact hj_19_5  _ _ _  hw (lv_sub hl [0, 1, 2, 3, 4] rfl)
  · refine lv_aload_n hx hb dX1_value_12 rfl (lv_at hl 1 rfl) ?_
    refine ti_get (ci := 1) (k := 3) (N := 4) (T := TX1) C hw iw_1 rfl hlw (by decide) (by decide) fl_X1_24 rfl rfl dX1_value_13 ?_
    refine lv_topi (fun x_4 ex_4 => ?_)
    have bx_4 : 0 ≤ x_4.toInt ∧ x_4.toInt ≤ 64 := cI_rd hI hlw.1 ex_4
    have ux_4 : (tI M lw 3).toInt = x_4.toInt := by rw [ex_4]
    refine sb_if_ne (tgt := 23) hx hb rfl dX1_value_16 (by decide) (fun c_16_4 => ?_) (fun c_16_4 => ?_)
    · refine lv_aload_n hx hb dX1_value_23 rfl (lv_at hl 1 rfl) ?_
      refine ti_get (ci := 1) (k := 2) (N := 4) (T := TX1) (v := .ref (A lw 3)) C hw iw_1 rfl hlw (by decide) (by decide) fl_X1_21 rfl rfl dX1_value_24 ?_
      refine lv_iconst (v := 0) hx hb dX1_value_27 (by decide) ?_
      refine lv_aload_n hx hb dX1_value_28 rfl (lv_at hl 2 rfl) ?_
      refine ti_get (ci := 3) (k := 0) (N := 17) (T := TX3) (v := .ref (A t 0)) C hw iw_3 rfl hq (by decide) (by decide) fl_X1_36 rfl (ti_Tv (hT)) dX1_value_29 ?_
      refine ti_get (ci := 8) (k := 0) (N := 12) (T := TX8) (v := .ref (A t 1)) C hw iw_8 rfl (ob_t ht) (by decide) (by decide) fl_X1_40 rfl rfl dX1_value_32 ?_
      refine lv_iload hx hb dX1_value_35 (lv_at hl 0 rfl) ?_
      refine ti_aald (ci := 8) (k := 0) (n := 8) (t0 := 5) (Cn := RX2) (gg := (ti_men t)) (j := r_1.toNatClampNeg) C hw (ob_t ht) (by decide) (fun _ _ => rfl) rfl (vp_in_iff.mpr (by omega)) rfl dX1_value_37 ?_
      have ob_6 : ti_ob ti_LT (ti_men t r_1.toNatClampNeg) 2 := ob_m ht (i_nt rfl (by omega) (by omega))
      refine ti_get (ci := 2) (k := 1) (N := 10) (T := TX2) C hw iw_2 rfl ob_6 (by decide) (by decide) fl_X1_46 rfl rfl dX1_value_38 ?_
      refine lv_topi (fun x_7 ex_7 => ?_)
      obtain ⟨x_8, ex_8⟩ : ∃ z : Int64, z = x_7.toInt64 := ⟨_, rfl⟩
      refine lv_i2l (v := x_8) hx hb dX1_value_41 ex_8.symm ?_
      refine ti_last (ci := 1) (k := 2) (n := 6) C hw hlw (by decide) (fun _ _ => rfl) (by unfold vp_in; decide) dX1_value_42 (fun H locs hw => ?_)
      obtain ⟨M_9, hM_9⟩ : ∃ z : ti_M, z = uZ M lw 2 (vp_updL (tZ M lw 2) (0 : Int32).toNatClampNeg x_8) := ⟨_, rfl⟩
      have hw := hw.to hM_9.symm
      have iM_9 : cI Tc M_9 := cI_uZ hI hM_9
      refine lv_aload_n hx hb dX1_value_43 rfl (lv_at hl 1 rfl) ?_
      refine ti_get (ci := 1) (k := 2) (N := 4) (T := TX1) (v := .ref (A lw 3)) C hw iw_1 rfl hlw (by decide) (by decide) fl_X1_21 rfl rfl dX1_value_44 ?_
      refine lv_iconst (v := 1) hx hb dX1_value_47 (by decide) ?_
      refine lv_aload_n hx hb dX1_value_48 rfl (lv_at hl 2 rfl) ?_
      refine ti_get (ci := 3) (k := 0) (N := 17) (T := TX3) (v := .ref (A t 0)) C hw iw_3 rfl hq (by decide) (by decide) fl_X1_36 rfl (ti_Tv ((tT_uZE hM_9).trans hT)) dX1_value_49 ?_
      refine ti_get (ci := 8) (k := 0) (N := 12) (T := TX8) (v := .ref (A t 1)) C hw iw_8 rfl (ob_t ht) (by decide) (by decide) fl_X1_40 rfl rfl dX1_value_52 ?_
      refine lv_iload hx hb dX1_value_55 (lv_at hl 0 rfl) ?_
      refine ti_aald (ci := 8) (k := 0) (n := 8) (t0 := 5) (Cn := RX2) (gg := (ti_men t)) (j := r_1.toNatClampNeg) C hw (ob_t ht) (by decide) (fun _ _ => rfl) rfl (vp_in_iff.mpr (by omega)) rfl dX1_value_57 ?_
      refine ti_get (ci := 2) (k := 2) (N := 10) (T := TX2) C hw iw_2 rfl ob_6 (by decide) (by decide) fl_X1_51 rfl rfl dX1_value_58 ?_
      refine lv_topi (fun x_10 ex_10 => ?_)
      obtain ⟨x_11, ex_11⟩ : ∃ z : Int64, z = x_10.toInt64 := ⟨_, rfl⟩
      refine lv_i2l (v := x_11) hx hb dX1_value_61 ex_11.symm ?_
      refine ti_last (ci := 1) (k := 2) (n := 6) C hw hlw (by decide) (fun _ _ => rfl) (by unfold vp_in; decide) dX1_value_62 (fun H locs hw => ?_)
      obtain ⟨M_12, hM_12⟩ : ∃ z : ti_M, z = uZ M_9 lw 2 (vp_updL (tZ M_9 lw 2) (1 : Int32).toNatClampNeg x_11) := ⟨_, rfl⟩
      have hw := hw.to hM_12.symm
      have iM_12 : cI Tc M_12 := cI_uZ iM_9 hM_12
      refine lv_aload_n hx hb dX1_value_63 rfl (lv_at hl 1 rfl) ?_
      refine ti_get (ci := 1) (k := 2) (N := 4) (T := TX1) (v := .ref (A lw 3)) C hw iw_1 rfl hlw (by decide) (by decide) fl_X1_21 rfl rfl dX1_value_64 ?_
      refine lv_iconst (v := 2) hx hb dX1_value_67 (by decide) ?_
      refine lv_aload_n hx hb dX1_value_68 rfl (lv_at hl 2 rfl) ?_
      refine ti_get (ci := 3) (k := 0) (N := 17) (T := TX3) (v := .ref (A t 0)) C hw iw_3 rfl hq (by decide) (by decide) fl_X1_36 rfl (ti_Tv ((tT_uZE hM_12).trans ((tT_uZE hM_9).trans hT))) dX1_value_69 ?_
      refine ti_get (ci := 8) (k := 0) (N := 12) (T := TX8) (v := .ref (A t 1)) C hw iw_8 rfl (ob_t ht) (by decide) (by decide) fl_X1_40 rfl rfl dX1_value_72 ?_
      refine lv_iload hx hb dX1_value_75 (lv_at hl 0 rfl) ?_
      refine ti_aald (ci := 8) (k := 0) (n := 8) (t0 := 5) (Cn := RX2) (gg := (ti_men t)) (j := r_1.toNatClampNeg) C hw (ob_t ht) (by decide) (fun _ _ => rfl) rfl (vp_in_iff.mpr (by omega)) rfl dX1_value_77 ?_
      refine ti_get (ci := 2) (k := 4) (N := 10) (T := TX2) C hw iw_2 rfl ob_6 (by decide) (by decide) fl_X1_54 rfl rfl dX1_value_78 ?_
      refine lv_topi (fun x_13 ex_13 => ?_)
      obtain ⟨x_14, ex_14⟩ : ∃ z : Int64, z = x_13.toInt64 := ⟨_, rfl⟩
      refine lv_i2l (v := x_14) hx hb dX1_value_81 ex_14.symm ?_
      refine ti_last (ci := 1) (k := 2) (n := 6) C hw hlw (by decide) (fun _ _ => rfl) (by unfold vp_in; decide) dX1_value_82 (fun H locs hw => ?_)
      obtain ⟨M_15, hM_15⟩ : ∃ z : ti_M, z = uZ M_12 lw 2 (vp_updL (tZ M_12 lw 2) (2 : Int32).toNatClampNeg x_14) := ⟨_, rfl⟩
      have hw := hw.to hM_15.symm
      have iM_15 : cI Tc M_15 := cI_uZ iM_12 hM_15
      refine lv_aload_n hx hb dX1_value_83 rfl (lv_at hl 1 rfl) ?_
      refine ti_get (ci := 1) (k := 2) (N := 4) (T := TX1) (v := .ref (A lw 3)) C hw iw_1 rfl hlw (by decide) (by decide) fl_X1_21 rfl rfl dX1_value_84 ?_
      refine lv_iconst (v := 3) hx hb dX1_value_87 (by decide) ?_
      refine lv_aload_n hx hb dX1_value_88 rfl (lv_at hl 2 rfl) ?_
      refine ti_get (ci := 3) (k := 12) (N := 17) (T := TX3) (v := .ref (A q 13)) C hw iw_3 rfl hq (by decide) (by decide) fl_X1_57 rfl rfl dX1_value_89 ?_
      refine lv_iload hx hb dX1_value_92 (lv_at hl 0 rfl) ?_
      refine ti_iald (ci := 3) (k := 12) (n := 8) C hw hq (by decide) (fun _ _ => rfl) (vp_in_iff.mpr (by omega)) dX1_value_94 ?_
      refine lv_topi (fun x_16 ex_16 => ?_)
      obtain ⟨x_17, ex_17⟩ : ∃ z : Int64, z = x_16.toInt64 := ⟨_, rfl⟩
      refine lv_i2l (v := x_17) hx hb dX1_value_95 ex_17.symm ?_
      refine ti_last (ci := 1) (k := 2) (n := 6) C hw hlw (by decide) (fun _ _ => rfl) (by unfold vp_in; decide) dX1_value_96 (fun H locs hw => ?_)
      obtain ⟨M_18, hM_18⟩ : ∃ z : ti_M, z = uZ M_15 lw 2 (vp_updL (tZ M_15 lw 2) (3 : Int32).toNatClampNeg x_17) := ⟨_, rfl⟩
      have hw := hw.to hM_18.symm
      have iM_18 : cI Tc M_18 := cI_uZ iM_15 hM_18
      refine lv_aload_n hx hb dX1_value_97 rfl (lv_at hl 1 rfl) ?_
      refine ti_get (ci := 1) (k := 2) (N := 4) (T := TX1) (v := .ref (A lw 3)) C hw iw_1 rfl hlw (by decide) (by decide) fl_X1_21 rfl rfl dX1_value_98 ?_
      refine lv_iconst (v := 4) hx hb dX1_value_101 (by decide) ?_
      refine lv_iload_n hx hb dX1_value_102 rfl (lv_at hl 4 rfl) ?_
      obtain ⟨x_19, ex_19⟩ : ∃ z : Int64, z = ps.toInt64 := ⟨_, rfl⟩
      refine lv_i2l (v := x_19) hx hb dX1_value_103 ex_19.symm ?_
      refine ti_last (ci := 1) (k := 2) (n := 6) C hw hlw (by decide) (fun _ _ => rfl) (by unfold vp_in; decide) dX1_value_104 (fun H locs hw => ?_)
      obtain ⟨M_20, hM_20⟩ : ∃ z : ti_M, z = uZ M_18 lw 2 (vp_updL (tZ M_18 lw 2) (4 : Int32).toNatClampNeg x_19) := ⟨_, rfl⟩
      have hw := hw.to hM_20.symm
      have iM_20 : cI Tc M_20 := cI_uZ iM_18 hM_20
      refine lv_aload_n hx hb dX1_value_105 rfl (lv_at hl 1 rfl) ?_
      refine ti_get (ci := 1) (k := 2) (N := 4) (T := TX1) (v := .ref (A lw 3)) C hw iw_1 rfl hlw (by decide) (by decide) fl_X1_21 rfl rfl dX1_value_106 ?_
      refine lv_iconst (v := 5) hx hb dX1_value_109 (by decide) ?_
      refine lv_aload_n hx hb dX1_value_110 rfl (lv_at hl 2 rfl) ?_
      refine lv_iload hx hb dX1_value_111 (lv_at hl 0 rfl) ?_
      refine ti_callVi (ci := 3) (av := [.int r_1]) C hw (s_X3_waited l D A cy hJ M_20 iM_20 q hq r_1 (by omega) (by omega)) ⟨ml_X1_60, ym_X3_waited, yv_X3_waited, yi_X3_waited, yc_X3_waited⟩ yd_X3_waited hq (by decide) rfl rfl hl.1 (Nat.le_of_ble_eq_true rfl) ⟨by decide, by decide⟩ ⟨Nat.zero_le _, Nat.zero_le _⟩ dX1_value_113 (fun r_21 M_22 H locs hp_22 hw => ?_)
      have hm := hp_22
      have hw := hw.to hm
      obtain ⟨x_23, ex_23⟩ : ∃ z : Int64, z = r_21.toInt64 := ⟨_, rfl⟩
      refine lv_i2l (v := x_23) hx hb dX1_value_116 ex_23.symm ?_
      refine ti_last (ci := 1) (k := 2) (n := 6) C hw hlw (by decide) (fun _ _ => rfl) (by unfold vp_in; decide) dX1_value_117 (fun H locs hw => ?_)
      obtain ⟨M_24, hM_24⟩ : ∃ z : ti_M, z = uZ M_20 lw 2 (vp_updL (tZ M_20 lw 2) (5 : Int32).toNatClampNeg x_23) := ⟨_, rfl⟩
      have hw := hw.to hM_24.symm
      have iM_24 : cI Tc M_24 := cI_uZ iM_20 hM_24
      refine lv_iconst (v := 0) hx hb dX1_value_118 (by decide) ?_
      refine lv_istore (lv' := [(5, .int 0), (4, .int r_1), (0, .ref (A lw 0)), (1, .ref (A q 0)), (2, .int pl), (3, .int ps)]) hx hb dX1_value_119 hl (by decide) rfl (fun ls hl => ?_)
      refine lv_iconst (v := 0) hx hb dX1_value_121 (by decide) ?_
      refine lv_istore (lv' := [(6, .int 0), (5, .int 0), (4, .int r_1), (0, .ref (A lw 0)), (1, .ref (A q 0)), (2, .int pl), (3, .int ps)]) hx hb dX1_value_122 hl (by decide) rfl (fun ls hl => ?_)
      have hl_124_35 : ∀ (n_36 : Nat) (x_25 : Int32) (x_28 : Int32) (M_31 : ti_M) (H : Heap) (locs : List Loc) (ls : Array Slot), (64 - x_25.toInt : Int).toNat < n_36 → (0 ≤ x_25.toInt) → (x_25.toInt ≤ 64) → (0 ≤ x_28.toInt) → (x_28.toInt ≤ 64) → (cI Tc M_31) → (M_31.2.2.2 = M.2.2.2) → (M_31.1 = M.1) → (M_31.1 = M.1 ∧ M_31.2.1 = M.2.1) → (x_28.toInt ≤ x_25.toInt) → ti_H ti_LT D A cy H0 M_31 H locs → lv_has ls 10 [(6, .int x_25), (5, .int x_28), (4, .int r_1), (0, .ref (A lw 0)), (1, .ref (A q 0)), (2, .int pl), (3, .int ps)] → W p l e (ti_rm 1) s m args below meth c H locs 0 0 Q (F0 m 124 ls []) := by
        intro n_36
        induction n_36 with
        | zero => intro x_25 x_28 M_31 H locs ls hf_36; exact absurd hf_36 (Nat.not_lt_zero _)
        | succ n_36 ih_36 =>
          intro x_25 x_28 M_31 H locs ls hf_36 b_26 b_27 b_29 b_30 iM_31 f_32 f_33 f_34 j_35 hw hl
          refine lv_iload hx hb dX1_value_124 (lv_at hl 0 rfl) ?_
          refine lv_aload_n hx hb dX1_value_126 rfl (lv_at hl 3 rfl) ?_
          refine ti_get (ci := 1) (k := 3) (N := 4) (T := TX1) C hw iw_1 rfl hlw (by decide) (by decide) fl_X1_24 rfl rfl dX1_value_127 ?_
          refine ti_top (y := x_4) ((tI_fr f_33).trans ex_4.symm) ?_
          have u_37 : (tI M_31 lw 3).toInt = (x_4 : Int32).toInt := by rw [((tI_fr f_33).trans ex_4.symm)]
          refine sb_icmp_ge (tgt := 299) hx hb rfl rfl dX1_value_130 (by decide) (fun c_130_37 => ?_) (fun c_130_37 => ?_)
          · refine lv_iload hx hb dX1_value_299 (lv_at hl 1 rfl) ?_
            refine lv_iconst (v := 1) hx hb dX1_value_301 (by decide) ?_
            refine sb_icmp_ne (tgt := 314) hx hb rfl (by decide : (1 : Int32).toInt = 1) dX1_value_302 (by decide) (fun c_302_82 => ?_) (fun c_302_82 => ?_)
            · refine lv_ldc2 (v := (-9223372036854775808)) hx hb C.2.2.2.1 (C.2.2.1 _ cn_X1_34) dX1_value_314 ?_
              exact hQ _ _ _ _ _ _ hw (⟨(f_34.1), (f_34.2), iM_31, (f_32), (f_33)⟩) dX1_value_317
            · refine lv_aload_n hx hb dX1_value_305 rfl (lv_at hl 3 rfl) ?_
              refine ti_get (ci := 1) (k := 1) (N := 4) (T := TX1) (v := .ref (A lw 2)) C hw iw_1 rfl hlw (by decide) (by decide) fl_X1_17 rfl rfl dX1_value_306 ?_
              refine lv_iconst (v := 0) hx hb dX1_value_309 (by decide) ?_
              refine ti_lald (ci := 1) (k := 1) (n := 64) C hw hlw (by decide) (fun _ _ => rfl) (by unfold vp_in; decide) dX1_value_310 ?_
              refine lv_topl (fun x_84 ex_84 => ?_)
              refine lv_goto (tgt := 317) hx hb dX1_value_311 (by decide) ?_
              exact hQ _ _ _ _ _ _ hw (⟨(f_34.1), (f_34.2), iM_31, (f_32), (f_33)⟩) dX1_value_317
          · refine lv_aload_n hx hb dX1_value_133 rfl (lv_at hl 3 rfl) ?_
            refine ti_get (ci := 1) (k := 0) (N := 4) (T := TX1) (v := .ref (A lw 1)) C hw iw_1 rfl hlw (by decide) (by decide) fl_X1_11 rfl rfl dX1_value_134 ?_
            refine lv_iload hx hb dX1_value_137 (lv_at hl 0 rfl) ?_
            refine ti_iald (ci := 1) (k := 0) (n := 64) C hw hlw (by decide) (fun _ _ => rfl) (vp_in_iff.mpr (by omega)) dX1_value_139 ?_
            refine lv_topi (fun x_39 ex_39 => ?_)
            have kx_39 : 0 ≤ x_39.toInt ∨ x_39.toInt ≤ -16 := cI_ry iM_31 hlw.1 ex_39
            refine lv_istore (lv' := [(7, .int x_39), (6, .int x_25), (5, .int x_28), (4, .int r_1), (0, .ref (A lw 0)), (1, .ref (A q 0)), (2, .int pl), (3, .int ps)]) hx hb dX1_value_140 hl (by decide) rfl (fun ls hl => ?_)
            refine lv_iload hx hb dX1_value_142 (lv_at hl 0 rfl) ?_
            refine lv_bipush (v := (-21)) hx hb dX1_value_144 (by decide) ?_
            have hj_293_81 : ∀ (x_72 : Int32) (M_75 : ti_M) (H : Heap) (locs : List Loc) (ls : Array Slot), ((-1) ≤ x_72.toInt) → (x_72.toInt ≤ 65) → (cI Tc M_75) → (M_75.2.2.2 = M.2.2.2) → (M_75.1 = M.1) → (M_75.1 = M.1 ∧ M_75.2.1 = M.2.1) → (0 ≤ x_72.toInt) → (x_72.toInt ≤ x_25.toInt + 1) → (x_72.toInt ≤ 64) → ti_H ti_LT D A cy H0 M_75 H locs → lv_has ls 10 [(5, .int x_72), (7, .int x_39), (6, .int x_25), (4, .int r_1), (0, .ref (A lw 0)), (1, .ref (A q 0)), (2, .int pl), (3, .int ps)] → W p l e (ti_rm 1) s m args below meth c H locs 0 0 Q (F0 m 293 ls []) := by
              intro x_72 M_75 H locs ls b_73 b_74 iM_75 f_76 f_77 f_78 j_79 j_80 j_81 hw hl
              obtain ⟨x_82, ex_82⟩ : ∃ z : Int32, z = x_25 + 1 := ⟨_, rfl⟩
              have tx_82 : x_82.toInt = x_25.toInt + 1 := i_add ex_82 rfl (by decide) (by omega) (by omega)
              refine lv_iinc (v := x_82) (lv' := [(6, .int x_82), (5, .int x_72), (7, .int x_39), (4, .int r_1), (0, .ref (A lw 0)), (1, .ref (A q 0)), (2, .int pl), (3, .int ps)]) hx hb dX1_value_293 hl (k := 2) rfl (by rw [ex_82]; rfl) (by decide) rfl (fun ls hl => ?_)
              refine lv_goto (tgt := 124) hx hb dX1_value_296 (by decide) ?_
              exact ih_36 x_82 x_72 M_75 _ _ _ (by omega) (by first | omega | decide) (by first | omega | decide) (by first | omega | decide) (by first | omega | decide) iM_75 (f_76) (f_77) ⟨(f_78.1), (f_78.2)⟩ (by first | omega | decide) hw (lv_sub hl [0, 1, 3, 4, 5, 6, 7] rfl)
            refine sb_icmp_lt (tgt := 184) hx hb rfl (by decide : ((-21) : Int32).toInt = (-21)) dX1_value_146 (by decide) (fun c_146_39 => ?_) (fun c_146_39 => ?_)
            · refine lv_iload hx hb dX1_value_184 (lv_at hl 0 rfl) ?_
              refine lv_bipush (v := (-24)) hx hb dX1_value_186 (by decide) ?_
              have hj_227_57 : ∀  (H : Heap) (locs : List Loc) (ls : Array Slot), ti_H ti_LT D A cy H0 M_31 H locs → lv_has ls 10 [(7, .int x_39), (6, .int x_25), (5, .int x_28), (4, .int r_1), (0, .ref (A lw 0)), (1, .ref (A q 0)), (2, .int pl), (3, .int ps)] → W p l e (ti_rm 1) s m args below meth c H locs 0 0 Q (F0 m 227 ls []) := by
                intro  H locs ls  hw hl
                refine lv_iload hx hb dX1_value_227 (lv_at hl 2 rfl) ?_
                refine lv_iconst (v := 1) hx hb dX1_value_229 (by decide) ?_
                refine sb_icmp_le (tgt := 293) hx hb rfl (by decide : (1 : Int32).toInt = 1) dX1_value_230 (by decide) (fun c_230_57 => ?_) (fun c_230_57 => ?_)
                · exact hj_293_81 x_28 M_31 _ _ _ (by first | omega | decide) (by first | omega | decide) iM_31 (f_32) (f_33) ⟨(f_34.1), (f_34.2)⟩ (by first | omega | decide) (by first | omega | decide) (by first | omega | decide) hw (lv_sub hl [2, 0, 1, 3, 4, 5, 6, 7] rfl)
                · obtain ⟨x_59, ex_59⟩ : ∃ z : Int32, z = x_28 + (-1) := ⟨_, rfl⟩
                  have tx_59 : x_59.toInt = x_28.toInt + (-1) := i_add ex_59 rfl (by decide) (by omega) (by omega)
                  refine lv_iinc (v := x_59) (lv' := [(5, .int x_59), (7, .int x_39), (6, .int x_25), (4, .int r_1), (0, .ref (A lw 0)), (1, .ref (A q 0)), (2, .int pl), (3, .int ps)]) hx hb dX1_value_233 hl (k := 2) rfl (by rw [ex_59]; rfl) (by decide) rfl (fun ls hl => ?_)
                  refine lv_iload hx hb dX1_value_236 (lv_at hl 1 rfl) ?_
                  refine lv_ineg hx hb dX1_value_238 ?_
                  refine lv_topi (fun x_60 ex_60 => ?_)
                  refine lv_aload_n hx hb dX1_value_239 rfl (lv_at hl 4 rfl) ?_
                  refine ti_get (ci := 1) (k := 1) (N := 4) (T := TX1) (v := .ref (A lw 2)) C hw iw_1 rfl hlw (by decide) (by decide) fl_X1_17 rfl rfl dX1_value_240 ?_
                  refine lv_iload hx hb dX1_value_243 (lv_at hl 0 rfl) ?_
                  refine lv_iconst (v := 1) hx hb dX1_value_245 (by decide) ?_
                  refine lv_isub hx hb dX1_value_246 ?_
                  refine lv_topi (fun x_61 ex_61 => ?_)
                  have tx_61 : x_61.toInt = x_59.toInt - 1 := i_sub ex_61 rfl (by decide : (1 : Int32).toInt = 1) (by omega) (by omega)
                  refine ti_lald (ci := 1) (k := 1) (n := 64) C hw hlw (by decide) (fun _ _ => rfl) (vp_in_iff.mpr (by omega)) dX1_value_247 ?_
                  refine lv_topl (fun x_62 ex_62 => ?_)
                  refine lv_aload_n hx hb dX1_value_248 rfl (lv_at hl 4 rfl) ?_
                  refine ti_get (ci := 1) (k := 1) (N := 4) (T := TX1) (v := .ref (A lw 2)) C hw iw_1 rfl hlw (by decide) (by decide) fl_X1_17 rfl rfl dX1_value_249 ?_
                  refine lv_iload hx hb dX1_value_252 (lv_at hl 0 rfl) ?_
                  refine ti_lald (ci := 1) (k := 1) (n := 64) C hw hlw (by decide) (fun _ _ => rfl) (vp_in_iff.mpr (by omega)) dX1_value_254 ?_
                  refine lv_topl (fun x_63 ex_63 => ?_)
                  refine ti_callSl (av := [.int x_60, .long x_62, .long x_63]) C hw (s_X1_work l D A cy hJ M_31 iM_31 x_60 x_62 x_63) ⟨ml_X1_63, ys_X1_work, yi_X1_work, yc_X1_work⟩ yd_X1_work rfl hl.1 (Nat.le_of_ble_eq_true rfl) ⟨by decide, by decide⟩ ⟨Nat.zero_le _, Nat.zero_le _⟩ dX1_value_255 (fun r_64 M_65 H locs hp_65 hw => ?_)
                  have hm := hp_65
                  have hw := hw.to hm
                  refine lv_lstore (lv' := [(8, .long r_64), (5, .int x_59), (7, .int x_39), (6, .int x_25), (4, .int r_1), (0, .ref (A lw 0)), (1, .ref (A q 0)), (2, .int pl), (3, .int ps)]) hx hb dX1_value_258 hl (by decide) rfl (fun ls hl => ?_)
                  refine lv_lload hx hb dX1_value_260 (lv_at hl 0 rfl) ?_
                  refine lv_ldc2 (v := 1000000000000) hx hb C.2.2.2.1 (C.2.2.1 _ cn_X1_67) dX1_value_262 ?_
                  refine W.lcmp hx hb dX1_value_265 ?_
                  refine lv_topi (fun x_66 ex_66 => ?_)
                  have hj_278_69 : ∀  (H : Heap) (locs : List Loc) (ls : Array Slot), ti_H ti_LT D A cy H0 M_31 H locs → lv_has ls 10 [(8, .long r_64), (5, .int x_59), (7, .int x_39), (6, .int x_25), (4, .int r_1), (0, .ref (A lw 0)), (1, .ref (A q 0)), (2, .int pl), (3, .int ps)] → W p l e (ti_rm 1) s m args below meth c H locs 0 0 Q (F0 m 278 ls []) := by
                    intro  H locs ls  hw hl
                    refine lv_ldc2 (v := (-9223372036854775808)) hx hb C.2.2.2.1 (C.2.2.1 _ cn_X1_34) dX1_value_278 ?_
                    exact hQ _ _ _ _ _ _ hw (⟨(f_34.1), (f_34.2), iM_31, (f_32), (f_33)⟩) dX1_value_281
                  refine sb_if_gt (tgt := 278) hx hb rfl dX1_value_266 (by decide) (fun c_266_66 => ?_) (fun c_266_66 => ?_)
                  · exact hj_278_69  _ _ _  hw (lv_sub hl [0, 1, 2, 3, 4, 5, 6, 7, 8] rfl)
                  · refine lv_lload hx hb dX1_value_269 (lv_at hl 0 rfl) ?_
                    refine lv_ldc2 (v := (-1000000000000)) hx hb C.2.2.2.1 (C.2.2.1 _ cn_X1_69) dX1_value_271 ?_
                    refine W.lcmp hx hb dX1_value_274 ?_
                    refine lv_topi (fun x_68 ex_68 => ?_)
                    refine sb_if_ge (tgt := 282) hx hb rfl dX1_value_275 (by decide) (fun c_275_68 => ?_) (fun c_275_68 => ?_)
                    · refine lv_aload_n hx hb dX1_value_282 rfl (lv_at hl 5 rfl) ?_
                      refine ti_get (ci := 1) (k := 1) (N := 4) (T := TX1) (v := .ref (A lw 2)) C hw iw_1 rfl hlw (by decide) (by decide) fl_X1_17 rfl rfl dX1_value_283 ?_
                      refine lv_iload hx hb dX1_value_286 (lv_at hl 1 rfl) ?_
                      refine lv_iconst (v := 1) hx hb dX1_value_288 (by decide) ?_
                      refine lv_isub hx hb dX1_value_289 ?_
                      refine lv_topi (fun x_70 ex_70 => ?_)
                      have tx_70 : x_70.toInt = x_59.toInt - 1 := i_sub ex_70 rfl (by decide : (1 : Int32).toInt = 1) (by omega) (by omega)
                      refine lv_lload hx hb dX1_value_290 (lv_at hl 0 rfl) ?_
                      refine ti_last (ci := 1) (k := 1) (n := 64) C hw hlw (by decide) (fun _ _ => rfl) (vp_in_iff.mpr (by omega)) dX1_value_292 (fun H locs hw => ?_)
                      obtain ⟨M_71, hM_71⟩ : ∃ z : ti_M, z = uZ M_31 lw 1 (vp_updL (tZ M_31 lw 1) (x_70 : Int32).toNatClampNeg r_64) := ⟨_, rfl⟩
                      have hw := hw.to hM_71.symm
                      have iM_71 : cI Tc M_71 := cI_uZ iM_31 hM_71
                      exact hj_293_81 x_59 M_71 _ _ _ (by first | omega | decide) (by first | omega | decide) iM_71 ((rf_Z hM_71).trans f_32) ((ra_Z hM_71).trans f_33) ⟨((ra_Z hM_71).trans f_34.1), ((ry_Z hM_71).trans f_34.2)⟩ (by first | omega | decide) (by first | omega | decide) (by first | omega | decide) hw (lv_sub hl [1, 2, 3, 4, 5, 6, 7, 8] rfl)
                    · exact hj_278_69  _ _ _  hw (lv_sub hl [0, 1, 2, 3, 4, 5, 6, 7, 8] rfl)
              refine sb_icmp_ne (tgt := 227) hx hb rfl (by decide : ((-24) : Int32).toInt = (-24)) dX1_value_188 (by decide) (fun c_188_48 => ?_) (fun c_188_48 => ?_)
              · exact hj_227_57  _ _ _  hw (lv_sub hl [0, 1, 2, 3, 4, 5, 6, 7] rfl)
              · refine lv_iload hx hb dX1_value_191 (lv_at hl 2 rfl) ?_
                refine sb_if_le (tgt := 227) hx hb rfl dX1_value_193 (by decide) (fun c_193_49 => ?_) (fun c_193_49 => ?_)
                · exact hj_227_57  _ _ _  hw (lv_sub hl [0, 1, 2, 3, 4, 5, 6, 7] rfl)
                · refine lv_aload_n hx hb dX1_value_196 rfl (lv_at hl 4 rfl) ?_
                  refine ti_get (ci := 1) (k := 1) (N := 4) (T := TX1) (v := .ref (A lw 2)) C hw iw_1 rfl hlw (by decide) (by decide) fl_X1_17 rfl rfl dX1_value_197 ?_
                  refine lv_iload hx hb dX1_value_200 (lv_at hl 2 rfl) ?_
                  refine lv_iconst (v := 1) hx hb dX1_value_202 (by decide) ?_
                  refine lv_isub hx hb dX1_value_203 ?_
                  refine lv_topi (fun x_51 ex_51 => ?_)
                  have tx_51 : x_51.toInt = x_28.toInt - 1 := i_sub ex_51 rfl (by decide : (1 : Int32).toInt = 1) (by omega) (by omega)
                  refine lv_aload_n hx hb dX1_value_204 rfl (lv_at hl 4 rfl) ?_
                  refine ti_get (ci := 1) (k := 1) (N := 4) (T := TX1) (v := .ref (A lw 2)) C hw iw_1 rfl hlw (by decide) (by decide) fl_X1_17 rfl rfl dX1_value_205 ?_
                  refine lv_iload hx hb dX1_value_208 (lv_at hl 2 rfl) ?_
                  refine lv_iconst (v := 1) hx hb dX1_value_210 (by decide) ?_
                  refine lv_isub hx hb dX1_value_211 ?_
                  refine lv_topi (fun x_52 ex_52 => ?_)
                  have tx_52 : x_52.toInt = x_28.toInt - 1 := i_sub ex_52 rfl (by decide : (1 : Int32).toInt = 1) (by omega) (by omega)
                  refine ti_lald (ci := 1) (k := 1) (n := 64) C hw hlw (by decide) (fun _ _ => rfl) (vp_in_iff.mpr (by omega)) dX1_value_212 ?_
                  refine lv_topl (fun x_53 ex_53 => ?_)
                  refine lv_lconst (v := 0) hx hb dX1_value_213 (by decide) ?_
                  refine W.lcmp hx hb dX1_value_214 ?_
                  refine lv_topi (fun x_54 ex_54 => ?_)
                  have hj_223_56 : ∀ (x_56 : Int64) (H : Heap) (locs : List Loc) (ls : Array Slot), ti_H ti_LT D A cy H0 M_31 H locs → lv_has ls 10 [(7, .int x_39), (6, .int x_25), (5, .int x_28), (4, .int r_1), (0, .ref (A lw 0)), (1, .ref (A q 0)), (2, .int pl), (3, .int ps)] → W p l e (ti_rm 1) s m args below meth c H locs 0 0 Q (F0 m 223 ls [.long x_56, .int x_51, .ref (A lw 2)]) := by
                    intro x_56 H locs ls  hw hl
                    refine ti_last (ci := 1) (k := 1) (n := 64) C hw hlw (by decide) (fun _ _ => rfl) (vp_in_iff.mpr (by omega)) dX1_value_223 (fun H locs hw => ?_)
                    obtain ⟨M_57, hM_57⟩ : ∃ z : ti_M, z = uZ M_31 lw 1 (vp_updL (tZ M_31 lw 1) (x_51 : Int32).toNatClampNeg x_56) := ⟨_, rfl⟩
                    have hw := hw.to hM_57.symm
                    have iM_57 : cI Tc M_57 := cI_uZ iM_31 hM_57
                    refine lv_goto (tgt := 293) hx hb dX1_value_224 (by decide) ?_
                    exact hj_293_81 x_28 M_57 _ _ _ (by first | omega | decide) (by first | omega | decide) iM_57 ((rf_Z hM_57).trans f_32) ((ra_Z hM_57).trans f_33) ⟨((ra_Z hM_57).trans f_34.1), ((ry_Z hM_57).trans f_34.2)⟩ (by first | omega | decide) (by first | omega | decide) (by first | omega | decide) hw (lv_sub hl [2, 0, 1, 3, 4, 5, 6, 7] rfl)
                  refine sb_if_ne (tgt := 222) hx hb rfl dX1_value_215 (by decide) (fun c_215_54 => ?_) (fun c_215_54 => ?_)
                  · refine lv_lconst (v := 0) hx hb dX1_value_222 (by decide) ?_
                    exact hj_223_56 0 _ _ _  hw (lv_sub hl [0, 1, 2, 3, 4, 5, 6, 7] rfl)
                  · refine lv_lconst (v := 1) hx hb dX1_value_218 (by decide) ?_
                    refine lv_goto (tgt := 223) hx hb dX1_value_219 (by decide) ?_
                    exact hj_223_56 1 _ _ _  hw (lv_sub hl [0, 1, 2, 3, 4, 5, 6, 7] rfl)
            · refine lv_aload_n hx hb dX1_value_149 rfl (lv_at hl 4 rfl) ?_
              refine ti_get (ci := 1) (k := 1) (N := 4) (T := TX1) (v := .ref (A lw 2)) C hw iw_1 rfl hlw (by decide) (by decide) fl_X1_17 rfl rfl dX1_value_150 ?_
              refine lv_iload hx hb dX1_value_153 (lv_at hl 2 rfl) ?_
              refine lv_iload hx hb dX1_value_155 (lv_at hl 0 rfl) ?_
              have hj_177_46 : ∀ (x_46 : Int64) (H : Heap) (locs : List Loc) (ls : Array Slot), ti_H ti_LT D A cy H0 M_31 H locs → lv_has ls 10 [(7, .int x_39), (6, .int x_25), (5, .int x_28), (4, .int r_1), (0, .ref (A lw 0)), (1, .ref (A q 0)), (2, .int pl), (3, .int ps)] → W p l e (ti_rm 1) s m args below meth c H locs 0 0 Q (F0 m 177 ls [.long x_46, .int x_28, .ref (A lw 2)]) := by
                intro x_46 H locs ls  hw hl
                refine ti_last (ci := 1) (k := 1) (n := 64) C hw hlw (by decide) (fun _ _ => rfl) (vp_in_iff.mpr (by omega)) dX1_value_177 (fun H locs hw => ?_)
                obtain ⟨M_47, hM_47⟩ : ∃ z : ti_M, z = uZ M_31 lw 1 (vp_updL (tZ M_31 lw 1) (x_28 : Int32).toNatClampNeg x_46) := ⟨_, rfl⟩
                have hw := hw.to hM_47.symm
                have iM_47 : cI Tc M_47 := cI_uZ iM_31 hM_47
                obtain ⟨x_48, ex_48⟩ : ∃ z : Int32, z = x_28 + 1 := ⟨_, rfl⟩
                have tx_48 : x_48.toInt = x_28.toInt + 1 := i_add ex_48 rfl (by decide) (by omega) (by omega)
                refine lv_iinc (v := x_48) (lv' := [(5, .int x_48), (7, .int x_39), (6, .int x_25), (4, .int r_1), (0, .ref (A lw 0)), (1, .ref (A q 0)), (2, .int pl), (3, .int ps)]) hx hb dX1_value_178 hl (k := 2) rfl (by rw [ex_48]; rfl) (by decide) rfl (fun ls hl => ?_)
                refine lv_goto (tgt := 293) hx hb dX1_value_181 (by decide) ?_
                exact hj_293_81 x_48 M_47 _ _ _ (by first | omega | decide) (by first | omega | decide) iM_47 ((rf_Z hM_47).trans f_32) ((ra_Z hM_47).trans f_33) ⟨((ra_Z hM_47).trans f_34.1), ((ry_Z hM_47).trans f_34.2)⟩ (by first | omega | decide) (by first | omega | decide) (by first | omega | decide) hw (lv_sub hl [0, 1, 2, 3, 4, 5, 6, 7] rfl)
              refine sb_if_lt (tgt := 166) hx hb rfl dX1_value_157 (by decide) (fun c_157_40 => ?_) (fun c_157_40 => ?_)
              · refine lv_aload_n hx hb dX1_value_166 rfl (lv_at hl 4 rfl) ?_
                refine ti_get (ci := 1) (k := 2) (N := 4) (T := TX1) (v := .ref (A lw 3)) C hw iw_1 rfl hlw (by decide) (by decide) fl_X1_21 rfl rfl dX1_value_167 ?_
                refine lv_iload hx hb dX1_value_170 (lv_at hl 0 rfl) ?_
                refine lv_ineg hx hb dX1_value_172 ?_
                refine lv_topi (fun x_43 ex_43 => ?_)
                have tx_43 : x_43.toInt = -x_39.toInt := i_neg ex_43 rfl (by omega)
                refine lv_bipush (v := 16) hx hb dX1_value_173 (by decide) ?_
                refine lv_isub hx hb dX1_value_175 ?_
                refine lv_topi (fun x_44 ex_44 => ?_)
                have lox_44x_43 := x_43.le_toInt
                have hix_44x_43 := x_43.toInt_lt
                have tx_44 : x_44.toInt = x_43.toInt - 16 := i_sub ex_44 rfl (by decide : (16 : Int32).toInt = 16) (by omega) (by omega)
                refine ti_lald (ci := 1) (k := 2) (n := 6) C hw hlw (by decide) (fun _ _ => rfl) (vp_in_iff.mpr (by omega)) dX1_value_176 ?_
                refine lv_topl (fun x_45 ex_45 => ?_)
                exact hj_177_46 x_45 _ _ _  hw (lv_sub hl [0, 1, 2, 3, 4, 5, 6, 7] rfl)
              · refine lv_iload hx hb dX1_value_160 (lv_at hl 0 rfl) ?_
                obtain ⟨x_42, ex_42⟩ : ∃ z : Int64, z = x_39.toInt64 := ⟨_, rfl⟩
                refine lv_i2l (v := x_42) hx hb dX1_value_162 ex_42.symm ?_
                refine lv_goto (tgt := 177) hx hb dX1_value_163 (by decide) ?_
                exact hj_177_46 x_42 _ _ _  hw (lv_sub hl [0, 1, 2, 3, 4, 5, 6, 7] rfl)
      exact hl_124_35 ((64 - 0 : Int).toNat + 1) 0 0 M_24 _ _ _ (Nat.lt_succ_self _) (by have lt0 : (0 : Int32).toInt = 0 := (by decide); first | omega | decide) (by have lt0 : (0 : Int32).toInt = 0 := (by decide); first | omega | decide) (by have lt0 : (0 : Int32).toInt = 0 := (by decide); first | omega | decide) (by have lt0 : (0 : Int32).toInt = 0 := (by decide); first | omega | decide) iM_24 ((rf_Z hM_24).trans ((rf_Z hM_20).trans ((rf_Z hM_18).trans ((rf_Z hM_15).trans ((rf_Z hM_12).trans (rf_Z hM_9)))))) ((ra_Z hM_24).trans ((ra_Z hM_20).trans ((ra_Z hM_18).trans ((ra_Z hM_15).trans ((ra_Z hM_12).trans (ra_Z hM_9)))))) ⟨((ra_Z hM_24).trans ((ra_Z hM_20).trans ((ra_Z hM_18).trans ((ra_Z hM_15).trans ((ra_Z hM_12).trans (ra_Z hM_9)))))), ((ry_Z hM_24).trans ((ry_Z hM_20).trans ((ry_Z hM_18).trans ((ry_Z hM_15).trans ((ry_Z hM_12).trans (ry_Z hM_9))))))⟩ (by have lt0 : (0 : Int32).toInt = 0 := (by decide); first | omega | decide) hw (lv_sub hl [0, 1, 2, 3, 4, 5, 6] rfl)
    · exact hj_19_5  _ _ _  hw (lv_sub hl [0, 1, 2, 3, 4] rfl)
set_option maxHeartbeats 4000000 in
set_option maxRecDepth 100000 in
theorem f_X3_need (l : Launch) (D : va_G) (A : Nat → Nat → Nat) (cy : Nat → ClassId) (hJ : ti_inj ti_LT A) (M : ti_M) (hI : cI Tc M) (q t : Nat) (hq : ti_ob ti_LT q 3) (ht : t = 3 ∨ t = 4) (hT : tT M q 0 = some t) : ti_Ki l yX3_need cX3_need 1 (some .int) 2 ti_LT D A cy M [.ref (A q 0)] (fun r M2 => M2.1 = M.1 ∧ M2.2.1 = M.2.1 ∧ cI Tc M2 ∧ M2.2.2.2 = M.2.2.2 ∧ M2.1 = M.1) := by
  refine ti_eI yp_X3_need hJ ti_LT_nd (Nat.le_of_ble_eq_true rfl) ?_
  intro p e s m args below meth c Q H0 C hQ hw ls hl
  have hx := C.1
  have hb := C.2.1
  have hl : lv_has ls 1 [(0, .ref (A q 0))] := hl
  refine lv_aload_n hx hb dX3_need_0 rfl (lv_at hl 0 rfl) ?_
  refine ti_get (ci := 3) (k := 0) (N := 17) (T := TX3) (v := .ref (A t 0)) C hw iw_3 rfl hq (by decide) (by decide) fl_X3_45 rfl (ti_Tv (hT)) dX3_need_1 ?_
  refine ti_get (ci := 8) (k := 2) (N := 12) (T := TX8) (v := .ref (A t 3)) C hw iw_8 rfl (ob_t ht) (by decide) (by decide) fl_X3_119 rfl rfl dX3_need_4 ?_
  refine lv_iconst (v := 2) hx hb dX3_need_7 (by decide) ?_
  refine ti_aald (ci := 8) (k := 2) (n := 3) (t0 := 4) (Cn := RX1) (gg := (ti_laws t)) (j := 2) C hw (ob_t ht) (by decide) (fun _ _ => rfl) rfl (by unfold vp_in; decide) (by decide) dX3_need_8 ?_
  have ob_1 : ti_ob ti_LT (ti_laws t 2) 1 := ob_l ht (by decide)
  refine lv_aload_n hx hb dX3_need_9 rfl (lv_at hl 0 rfl) ?_
  refine lv_iconst (v := 0) hx hb dX3_need_10 (by decide) ?_
  refine lv_aload_n hx hb dX3_need_11 rfl (lv_at hl 0 rfl) ?_
  refine ti_get (ci := 3) (k := 3) (N := 17) (T := TX3) C hw iw_3 rfl hq (by decide) (by decide) fl_X3_56 rfl rfl dX3_need_12 ?_
  refine lv_topi (fun x_2 ex_2 => ?_)
  have bx_2 : 0 ≤ x_2.toInt ∧ x_2.toInt ≤ 8 := cI_rd hI hq.1 ex_2
  have ux_2 : (tI M q 3).toInt = x_2.toInt := by rw [ex_2]
  refine ti_callVl (ci := 1) (av := [.ref (A q 0), .int 0, .int x_2]) C hw (f_X1_value l D A cy hJ M hI (ti_laws t 2) q t ob_1 hq ht (hT) 0 x_2) ⟨ml_X3_123, ym_X1_value, yv_X1_value, yi_X1_value, yc_X1_value⟩ yd_X1_value ob_1 (by decide) rfl rfl hl.1 (Nat.le_of_ble_eq_true rfl) ⟨by decide, by decide⟩ ⟨Nat.zero_le _, Nat.zero_le _⟩ dX3_need_15 (fun r_3 M_4 H locs hp_4 hw => ?_)
  obtain ⟨frM_4a, frM_4b, hqM_4⟩ := hp_4
  have frM_4 := And.intro frM_4a frM_4b
  obtain ⟨iM_4, q_5, q_6⟩ := hqM_4
  refine lv_iconst (v := 1) hx hb dX3_need_18 (by decide) ?_
  refine lv_bipush (v := 9) hx hb dX3_need_19 (by decide) ?_
  refine lv_aload_n hx hb dX3_need_21 rfl (lv_at hl 0 rfl) ?_
  refine ti_get (ci := 3) (k := 3) (N := 17) (T := TX3) C hw iw_3 rfl hq (by decide) (by decide) fl_X3_56 rfl rfl dX3_need_22 ?_
  refine ti_top (y := x_2) ((tI_fr q_6).trans ex_2.symm) ?_
  have u_7 : (tI M_4 q 3).toInt = (x_2 : Int32).toInt := by rw [((tI_fr q_6).trans ex_2.symm)]
  refine lv_iconst (v := 1) hx hb dX3_need_25 (by decide) ?_
  refine lv_iadd hx hb dX3_need_26 ?_
  refine lv_topi (fun x_8 ex_8 => ?_)
  have tx_8 : x_8.toInt = x_2.toInt + 1 := i_add ex_8 rfl (by decide : (1 : Int32).toInt = 1) (by omega) (by omega)
  refine lv_iconst (v := 2) hx hb dX3_need_27 (by decide) ?_
  refine lv_idiv hx hb dX3_need_28 (by decide) ?_
  refine lv_topi (fun x_9 ex_9 => ?_)
  refine ti_callSi (av := [.long r_3, .int 1, .int 9, .int x_9]) C hw (s_X3_put l D A cy hJ M_4 iM_4 r_3 1 9 x_9) ⟨ml_X3_127, ys_X3_put, yi_X3_put, yc_X3_put⟩ yd_X3_put rfl hl.1 (Nat.le_of_ble_eq_true rfl) ⟨by decide, by decide⟩ ⟨Nat.zero_le _, Nat.zero_le _⟩ dX3_need_29 (fun r_10 M_11 H locs hp_11 hw => ?_)
  have hm := hp_11
  have hw := hw.to hm
  exact hQ _ _ _ _ _ _ hw rfl (⟨(frM_4.1), (frM_4.2), iM_4, (q_5), (q_6)⟩) dX3_need_32
set_option maxHeartbeats 4000000 in
set_option maxRecDepth 100000 in
theorem f_X3_append (l : Launch) (D : va_G) (A : Nat → Nat → Nat) (cy : Nat → ClassId) (hJ : ti_inj ti_LT A) (M : ti_M) (hI : cI Tc M) (q : Nat) (hq : ti_ob ti_LT q 3) (mn : Int32) (h1 : 0 ≤ mn.toInt) (h2 : mn.toInt ≤ 7) : ti_Kv l yX3_append cX3_append 2 0 ti_LT D A cy M [.ref (A q 0), .int mn] (fun M2 => eo q M2 M ∧ cI Tc M2 ∧ M2.2.2.2 = M.2.2.2 ∧ tI M2 q 2 = tI M q 2 ∧ fX M2 M) := by
  refine ti_eV yp_X3_append hJ ti_LT_nd (Nat.le_of_ble_eq_true rfl) ?_
  intro p e s m args below meth c Q H0 C hQ hw ls hl
  have hx := C.1
  have hb := C.2.1
  have hl : lv_has ls 2 [(0, .ref (A q 0)), (1, .int mn)] := hl
  refine lv_aload_n hx hb dX3_append_0 rfl (lv_at hl 0 rfl) ?_
  refine ti_get (ci := 3) (k := 3) (N := 17) (T := TX3) C hw iw_3 rfl hq (by decide) (by decide) fl_X3_56 rfl rfl dX3_append_1 ?_
  refine lv_topi (fun x_1 ex_1 => ?_)
  have bx_1 : 0 ≤ x_1.toInt ∧ x_1.toInt ≤ 8 := cI_rd hI hq.1 ex_1
  have ux_1 : (tI M q 3).toInt = x_1.toInt := by rw [ex_1]
  refine lv_bipush (v := 8) hx hb dX3_append_4 (by decide) ?_
  refine sb_icmp_ge (tgt := 46) hx hb rfl (by decide : (8 : Int32).toInt = 8) dX3_append_6 (by decide) (fun c_6_1 => ?_) (fun c_6_1 => ?_)
  · exact hQ _ _ _ _ _ hw (⟨eo.refl, hI, rfl, rfl, fX.refl⟩) dX3_append_46
  · refine lv_aload_n hx hb dX3_append_9 rfl (lv_at hl 0 rfl) ?_
    refine ti_get (ci := 3) (k := 6) (N := 17) (T := TX3) (v := .ref (A q 7)) C hw iw_3 rfl hq (by decide) (by decide) fl_X3_9 rfl rfl dX3_append_10 ?_
    refine lv_aload_n hx hb dX3_append_13 rfl (lv_at hl 0 rfl) ?_
    refine ti_get (ci := 3) (k := 3) (N := 17) (T := TX3) C hw iw_3 rfl hq (by decide) (by decide) fl_X3_56 rfl rfl dX3_append_14 ?_
    refine ti_top (y := x_1) (ex_1.symm) ?_
    have u_3 : (tI M q 3).toInt = (x_1 : Int32).toInt := by rw [(ex_1.symm)]
    refine lv_iload_n hx hb dX3_append_17 rfl (lv_at hl 1 rfl) ?_
    refine ti_iast (ci := 3) (k := 6) (n := 8) C hw hq (by decide) (fun _ _ => rfl) (vp_in_iff.mpr (by omega)) dX3_append_18 (fun H locs hw => ?_)
    obtain ⟨M_4, hM_4⟩ : ∃ z : ti_M, z = uY M q 6 (upd (tY M q 6) (x_1 : Int32).toNatClampNeg mn) := ⟨_, rfl⟩
    have hw := hw.to hM_4.symm
    have iM_4 : cI Tc M_4 := cI_up hI hM_4 hq.1 (ib_mk (lo := 0) (hi := 7) (by omega) (by omega))
    refine lv_aload_n hx hb dX3_append_19 rfl (lv_at hl 0 rfl) ?_
    refine lv_dup hx hb dX3_append_20 rfl ?_
    refine ti_get (ci := 3) (k := 3) (N := 17) (T := TX3) C hw iw_3 rfl hq (by decide) (by decide) fl_X3_56 rfl rfl dX3_append_21 ?_
    refine ti_top (y := x_1) ((tI_uYE hM_4).trans ex_1.symm) ?_
    have u_5 : (tI M_4 q 3).toInt = (x_1 : Int32).toInt := by rw [((tI_uYE hM_4).trans ex_1.symm)]
    refine lv_iconst (v := 1) hx hb dX3_append_24 (by decide) ?_
    refine lv_iadd hx hb dX3_append_25 ?_
    refine lv_topi (fun x_6 ex_6 => ?_)
    have tx_6 : x_6.toInt = x_1.toInt + 1 := i_add ex_6 rfl (by decide : (1 : Int32).toInt = 1) (by omega) (by omega)
    refine ti_putI (ci := 3) (k := 3) (N := 17) (T := TX3) C hw iw_3 tyX3 tyX3_ok nmX3 rfl hq (by decide) (by decide) fl_X3_56 rfl rfl rfl rfl (fn_3 A _) fs_3_3 dX3_append_26 (fun H locs hw => ?_)
    obtain ⟨M_7, hM_7⟩ : ∃ z : ti_M, z = uI M_4 q 3 x_6 := ⟨_, rfl⟩
    have hw := hw.to hM_7.symm
    have iM_7 : cI Tc M_7 := cI_uI iM_4 hM_7 hq.1 (ib_mk (lo := 0) (hi := 8) (by omega) (by omega))
    have vM_7 : (tI M_7 q 3).toInt = (x_6 : Int32).toInt := by rw [tI_uE hM_7]
    refine lv_aload_n hx hb dX3_append_29 rfl (lv_at hl 0 rfl) ?_
    refine ti_get (ci := 3) (k := 8) (N := 17) (T := TX3) (v := .ref (A q 9)) C hw iw_3 rfl hq (by decide) (by decide) fl_X3_18 rfl rfl dX3_append_30 ?_
    refine lv_iload_n hx hb dX3_append_33 rfl (lv_at hl 1 rfl) ?_
    refine lv_iconst (v := 1) hx hb dX3_append_34 (by decide) ?_
    refine ti_iast (ci := 3) (k := 8) (n := 8) C hw hq (by decide) (fun _ _ => rfl) (vp_in_iff.mpr (by omega)) dX3_append_35 (fun H locs hw => ?_)
    obtain ⟨M_8, hM_8⟩ : ∃ z : ti_M, z = uY M_7 q 8 (upd (tY M_7 q 8) (mn : Int32).toNatClampNeg 1) := ⟨_, rfl⟩
    have hw := hw.to hM_8.symm
    have iM_8 : cI Tc M_8 := cI_up iM_7 hM_8 hq.1 trivial
    refine lv_aload_n hx hb dX3_append_36 rfl (lv_at hl 0 rfl) ?_
    refine ti_get (ci := 3) (k := 13) (N := 17) (T := TX3) (v := .ref (A q 14)) C hw iw_3 rfl hq (by decide) (by decide) fl_X3_33 rfl rfl dX3_append_37 ?_
    refine lv_iload_n hx hb dX3_append_40 rfl (lv_at hl 1 rfl) ?_
    refine lv_aload_n hx hb dX3_append_41 rfl (lv_at hl 0 rfl) ?_
    refine ti_get (ci := 3) (k := 2) (N := 17) (T := TX3) C hw iw_3 rfl hq (by decide) (by decide) fl_X3_53 rfl rfl dX3_append_42 ?_
    refine lv_topi (fun x_9 ex_9 => ?_)
    refine ti_iast (ci := 3) (k := 13) (n := 8) C hw hq (by decide) (fun _ _ => rfl) (vp_in_iff.mpr (by omega)) dX3_append_45 (fun H locs hw => ?_)
    obtain ⟨M_10, hM_10⟩ : ∃ z : ti_M, z = uY M_8 q 13 (upd (tY M_8 q 13) (mn : Int32).toNatClampNeg x_9) := ⟨_, rfl⟩
    have hw := hw.to hM_10.symm
    have iM_10 : cI Tc M_10 := cI_up iM_8 hM_10 hq.1 trivial
    exact hQ _ _ _ _ _ hw (⟨(eo.trans (eo_Y hM_10) (eo.trans (eo_Y hM_8) (eo.trans (eo_I hM_7) (eo_Y hM_4)))), iM_10, ((rf_Y hM_10).trans ((rf_Y hM_8).trans ((rf_I hM_7).trans (rf_Y hM_4)))), ((tI_uYE hM_10).trans ((tI_uYE hM_8).trans ((tI_nE hM_7 (nk (by decide))).trans (tI_uYE hM_4)))), (fX.trans (fx_of (ra_Y hM_10)) (fX.trans (fx_of (ra_Y hM_8)) (fX.trans (fx_I hM_7 (fxn hq.1 (by decide))) (fx_of (ra_Y hM_4)))))⟩) dX3_append_46
set_option maxHeartbeats 4000000 in
set_option maxRecDepth 100000 in
theorem f_X3_remove (l : Launch) (D : va_G) (A : Nat → Nat → Nat) (cy : Nat → ClassId) (hJ : ti_inj ti_LT A) (M : ti_M) (hI : cI Tc M) (q : Nat) (hq : ti_ob ti_LT q 3) (pl ns : Int32) : ti_Kv l yX3_remove cX3_remove 5 1 ti_LT D A cy M [.ref (A q 0), .int pl, .int ns] (fun M2 => eo q M2 M ∧ cI Tc M2 ∧ M2.2.2.2 = M.2.2.2 ∧ tI M2 q 2 = tI M q 2 ∧ fX M2 M) := by
  refine ti_eV yp_X3_remove hJ ti_LT_nd (Nat.le_of_ble_eq_true rfl) ?_
  intro p e s m args below meth c Q H0 C hQ hw ls hl
  have hx := C.1
  have hb := C.2.1
  have hl : lv_has ls 5 [(0, .ref (A q 0)), (1, .int pl), (2, .int ns)] := hl
  refine lv_aload_n hx hb dX3_remove_0 rfl (lv_at hl 0 rfl) ?_
  refine lv_iload_n hx hb dX3_remove_1 rfl (lv_at hl 1 rfl) ?_
  refine ti_callVi (ci := 3) (av := [.int pl]) C hw (s_X3_manAt l D A cy hJ M hI q hq pl) ⟨ml_X3_99, ym_X3_manAt, yv_X3_manAt, yi_X3_manAt, yc_X3_manAt⟩ yd_X3_manAt hq (by decide) rfl rfl hl.1 (Nat.le_of_ble_eq_true rfl) ⟨by decide, by decide⟩ ⟨Nat.zero_le _, Nat.zero_le _⟩ dX3_remove_2 (fun r_1 M_2 H locs hp_2 hw => ?_)
  obtain ⟨hm, b0r_1, b1r_1, p0r_1⟩ := hp_2
  have hw := hw.to hm
  refine lv_istore_n (lv' := [(3, .int r_1), (0, .ref (A q 0)), (1, .int pl), (2, .int ns)]) hx hb dX3_remove_5 rfl hl (by decide) rfl (fun ls hl => ?_)
  refine lv_iload_n hx hb dX3_remove_6 rfl (lv_at hl 0 rfl) ?_
  refine sb_if_ge (tgt := 11) hx hb rfl dX3_remove_7 (by decide) (fun c_7_2 => ?_) (fun c_7_2 => ?_)
  · refine lv_aload_n hx hb dX3_remove_11 rfl (lv_at hl 1 rfl) ?_
    refine lv_dup hx hb dX3_remove_12 rfl ?_
    refine ti_get (ci := 3) (k := 3) (N := 17) (T := TX3) C hw iw_3 rfl hq (by decide) (by decide) fl_X3_56 rfl rfl dX3_remove_13 ?_
    refine lv_topi (fun x_4 ex_4 => ?_)
    have bx_4 : 0 ≤ x_4.toInt ∧ x_4.toInt ≤ 8 := cI_rd hI hq.1 ex_4
    have ux_4 : (tI M q 3).toInt = x_4.toInt := by rw [ex_4]
    refine lv_iconst (v := 1) hx hb dX3_remove_16 (by decide) ?_
    refine lv_isub hx hb dX3_remove_17 ?_
    refine lv_topi (fun x_5 ex_5 => ?_)
    have tx_5 : x_5.toInt = x_4.toInt - 1 := i_sub ex_5 rfl (by decide : (1 : Int32).toInt = 1) (by omega) (by omega)
    refine ti_putI (ci := 3) (k := 3) (N := 17) (T := TX3) C hw iw_3 tyX3 tyX3_ok nmX3 rfl hq (by decide) (by decide) fl_X3_56 rfl rfl rfl rfl (fn_3 A _) fs_3_3 dX3_remove_18 (fun H locs hw => ?_)
    obtain ⟨M_6, hM_6⟩ : ∃ z : ti_M, z = uI M q 3 x_5 := ⟨_, rfl⟩
    have hw := hw.to hM_6.symm
    have iM_6 : cI Tc M_6 := cI_uI hI hM_6 hq.1 (ib_mk (lo := 0) (hi := 8) (by omega) (by omega))
    have vM_6 : (tI M_6 q 3).toInt = (x_5 : Int32).toInt := by rw [tI_uE hM_6]
    refine lv_iload_n hx hb dX3_remove_21 rfl (lv_at hl 2 rfl) ?_
    refine lv_istore (lv' := [(4, .int pl), (3, .int r_1), (0, .ref (A q 0)), (1, .int pl), (2, .int ns)]) hx hb dX3_remove_22 hl (by decide) rfl (fun ls hl => ?_)
    have hl_24_16 : ∀ (n_17 : Nat) (x_7 : Int32) (M_10 : ti_M) (H : Heap) (locs : List Loc) (ls : Array Slot), (8 - x_7.toInt : Int).toNat < n_17 → (0 ≤ x_7.toInt) → (x_7.toInt ≤ 8) → (cI Tc M_10) → (M_10.2.2.2 = M.2.2.2) → (tI M_10 q 2 = tI M q 2) → (fX M_10 M) → (eo q M_10 M) → (tI M_10 q 3 = x_5) → (x_7.toInt ≤ 8) → ti_H ti_LT D A cy H0 M_10 H locs → lv_has ls 5 [(4, .int x_7), (3, .int r_1), (0, .ref (A q 0)), (1, .int pl), (2, .int ns)] → W p l e (ti_rm 1) s m args below meth c H locs 0 0 Q (F0 m 24 ls []) := by
      intro n_17
      induction n_17 with
      | zero => intro x_7 M_10 H locs ls hf_17; exact absurd hf_17 (Nat.not_lt_zero _)
      | succ n_17 ih_17 =>
        intro x_7 M_10 H locs ls hf_17 b_8 b_9 iM_10 f_11 f_12 f_13 f_14 f_15 j_16 hw hl
        refine lv_iload hx hb dX3_remove_24 (lv_at hl 0 rfl) ?_
        refine lv_aload_n hx hb dX3_remove_26 rfl (lv_at hl 2 rfl) ?_
        refine ti_get (ci := 3) (k := 3) (N := 17) (T := TX3) C hw iw_3 rfl hq (by decide) (by decide) fl_X3_56 rfl rfl dX3_remove_27 ?_
        refine ti_top (y := x_5) (f_15) ?_
        have u_18 : (tI M_10 q 3).toInt = (x_5 : Int32).toInt := by rw [(f_15)]
        refine sb_icmp_ge (tgt := 55) hx hb rfl rfl dX3_remove_30 (by decide) (fun c_30_18 => ?_) (fun c_30_18 => ?_)
        · refine lv_aload_n hx hb dX3_remove_55 rfl (lv_at hl 2 rfl) ?_
          refine ti_get (ci := 3) (k := 8) (N := 17) (T := TX3) (v := .ref (A q 9)) C hw iw_3 rfl hq (by decide) (by decide) fl_X3_18 rfl rfl dX3_remove_56 ?_
          refine lv_iload_n hx hb dX3_remove_59 rfl (lv_at hl 1 rfl) ?_
          refine lv_iload_n hx hb dX3_remove_60 rfl (lv_at hl 4 rfl) ?_
          refine ti_iast (ci := 3) (k := 8) (n := 8) C hw hq (by decide) (fun _ _ => rfl) (vp_in_iff.mpr (by omega)) dX3_remove_61 (fun H locs hw => ?_)
          obtain ⟨M_24, hM_24⟩ : ∃ z : ti_M, z = uY M_10 q 8 (upd (tY M_10 q 8) (r_1 : Int32).toNatClampNeg ns) := ⟨_, rfl⟩
          have hw := hw.to hM_24.symm
          have iM_24 : cI Tc M_24 := cI_up iM_10 hM_24 hq.1 trivial
          refine lv_aload_n hx hb dX3_remove_62 rfl (lv_at hl 2 rfl) ?_
          refine ti_get (ci := 3) (k := 14) (N := 17) (T := TX3) (v := .ref (A q 15)) C hw iw_3 rfl hq (by decide) (by decide) fl_X3_36 rfl rfl dX3_remove_63 ?_
          refine lv_iload_n hx hb dX3_remove_66 rfl (lv_at hl 1 rfl) ?_
          refine lv_aload_n hx hb dX3_remove_67 rfl (lv_at hl 2 rfl) ?_
          refine ti_get (ci := 3) (k := 2) (N := 17) (T := TX3) C hw iw_3 rfl hq (by decide) (by decide) fl_X3_53 rfl rfl dX3_remove_68 ?_
          refine lv_topi (fun x_25 ex_25 => ?_)
          refine ti_iast (ci := 3) (k := 14) (n := 8) C hw hq (by decide) (fun _ _ => rfl) (vp_in_iff.mpr (by omega)) dX3_remove_71 (fun H locs hw => ?_)
          obtain ⟨M_26, hM_26⟩ : ∃ z : ti_M, z = uY M_24 q 14 (upd (tY M_24 q 14) (r_1 : Int32).toNatClampNeg x_25) := ⟨_, rfl⟩
          have hw := hw.to hM_26.symm
          have iM_26 : cI Tc M_26 := cI_up iM_24 hM_26 hq.1 trivial
          refine lv_aload_n hx hb dX3_remove_72 rfl (lv_at hl 2 rfl) ?_
          refine ti_get (ci := 3) (k := 15) (N := 17) (T := TX3) (v := .ref (A q 16)) C hw iw_3 rfl hq (by decide) (by decide) fl_X3_39 rfl rfl dX3_remove_73 ?_
          refine lv_iload_n hx hb dX3_remove_76 rfl (lv_at hl 1 rfl) ?_
          refine lv_iconst (v := 0) hx hb dX3_remove_77 (by decide) ?_
          refine ti_iast (ci := 3) (k := 15) (n := 8) C hw hq (by decide) (fun _ _ => rfl) (vp_in_iff.mpr (by omega)) dX3_remove_78 (fun H locs hw => ?_)
          obtain ⟨M_27, hM_27⟩ : ∃ z : ti_M, z = uY M_26 q 15 (upd (tY M_26 q 15) (r_1 : Int32).toNatClampNeg 0) := ⟨_, rfl⟩
          have hw := hw.to hM_27.symm
          have iM_27 : cI Tc M_27 := cI_up iM_26 hM_27 hq.1 trivial
          refine lv_aload_n hx hb dX3_remove_79 rfl (lv_at hl 2 rfl) ?_
          refine ti_get (ci := 3) (k := 16) (N := 17) (T := TX3) (v := .ref (A q 17)) C hw iw_3 rfl hq (by decide) (by decide) fl_X3_42 rfl rfl dX3_remove_80 ?_
          refine lv_iload_n hx hb dX3_remove_83 rfl (lv_at hl 1 rfl) ?_
          refine lv_iconst (v := 0) hx hb dX3_remove_84 (by decide) ?_
          refine ti_iast (ci := 3) (k := 16) (n := 8) C hw hq (by decide) (fun _ _ => rfl) (vp_in_iff.mpr (by omega)) dX3_remove_85 (fun H locs hw => ?_)
          obtain ⟨M_28, hM_28⟩ : ∃ z : ti_M, z = uY M_27 q 16 (upd (tY M_27 q 16) (r_1 : Int32).toNatClampNeg 0) := ⟨_, rfl⟩
          have hw := hw.to hM_28.symm
          have iM_28 : cI Tc M_28 := cI_up iM_27 hM_28 hq.1 trivial
          exact hQ _ _ _ _ _ hw (⟨(eo.trans (eo_Y hM_28) (eo.trans (eo_Y hM_27) (eo.trans (eo_Y hM_26) (eo.trans (eo_Y hM_24) f_14)))), iM_28, ((rf_Y hM_28).trans ((rf_Y hM_27).trans ((rf_Y hM_26).trans ((rf_Y hM_24).trans f_11)))), ((tI_uYE hM_28).trans ((tI_uYE hM_27).trans ((tI_uYE hM_26).trans ((tI_uYE hM_24).trans f_12)))), (fX.trans (fx_of (ra_Y hM_28)) (fX.trans (fx_of (ra_Y hM_27)) (fX.trans (fx_of (ra_Y hM_26)) (fX.trans (fx_of (ra_Y hM_24)) f_13))))⟩) dX3_remove_86
        · refine lv_aload_n hx hb dX3_remove_33 rfl (lv_at hl 2 rfl) ?_
          refine ti_get (ci := 3) (k := 6) (N := 17) (T := TX3) (v := .ref (A q 7)) C hw iw_3 rfl hq (by decide) (by decide) fl_X3_9 rfl rfl dX3_remove_34 ?_
          refine lv_iload hx hb dX3_remove_37 (lv_at hl 0 rfl) ?_
          refine lv_aload_n hx hb dX3_remove_39 rfl (lv_at hl 2 rfl) ?_
          refine ti_get (ci := 3) (k := 6) (N := 17) (T := TX3) (v := .ref (A q 7)) C hw iw_3 rfl hq (by decide) (by decide) fl_X3_9 rfl rfl dX3_remove_40 ?_
          refine lv_iload hx hb dX3_remove_43 (lv_at hl 0 rfl) ?_
          refine lv_iconst (v := 1) hx hb dX3_remove_45 (by decide) ?_
          refine lv_iadd hx hb dX3_remove_46 ?_
          refine lv_topi (fun x_20 ex_20 => ?_)
          have tx_20 : x_20.toInt = x_7.toInt + 1 := i_add ex_20 rfl (by decide : (1 : Int32).toInt = 1) (by omega) (by omega)
          refine ti_iald (ci := 3) (k := 6) (n := 8) C hw hq (by decide) (fun _ _ => rfl) (vp_in_iff.mpr (by omega)) dX3_remove_47 ?_
          refine lv_topi (fun x_21 ex_21 => ?_)
          have bx_21 : 0 ≤ x_21.toInt ∧ x_21.toInt ≤ 7 := cI_ry iM_10 hq.1 ex_21
          refine ti_iast (ci := 3) (k := 6) (n := 8) C hw hq (by decide) (fun _ _ => rfl) (vp_in_iff.mpr (by omega)) dX3_remove_48 (fun H locs hw => ?_)
          obtain ⟨M_22, hM_22⟩ : ∃ z : ti_M, z = uY M_10 q 6 (upd (tY M_10 q 6) (x_7 : Int32).toNatClampNeg x_21) := ⟨_, rfl⟩
          have hw := hw.to hM_22.symm
          have iM_22 : cI Tc M_22 := cI_up iM_10 hM_22 hq.1 (ib_mk (lo := 0) (hi := 7) (by omega) (by omega))
          obtain ⟨x_23, ex_23⟩ : ∃ z : Int32, z = x_7 + 1 := ⟨_, rfl⟩
          have tx_23 : x_23.toInt = x_7.toInt + 1 := i_add ex_23 rfl (by decide) (by omega) (by omega)
          refine lv_iinc (v := x_23) (lv' := [(4, .int x_23), (3, .int r_1), (0, .ref (A q 0)), (1, .int pl), (2, .int ns)]) hx hb dX3_remove_49 hl (k := 0) rfl (by rw [ex_23]; rfl) (by decide) rfl (fun ls hl => ?_)
          refine lv_goto (tgt := 24) hx hb dX3_remove_52 (by decide) ?_
          exact ih_17 x_23 M_22 _ _ _ (by omega) (by first | omega | decide) (by first | omega | decide) iM_22 ((rf_Y hM_22).trans f_11) ((tI_uYE hM_22).trans f_12) (fX.trans (fx_of (ra_Y hM_22)) f_13) (eo.trans (eo_Y hM_22) f_14) ((tI_uYE hM_22).trans f_15) (by first | omega | decide) hw (lv_sub hl [0, 1, 2, 3, 4] rfl)
    exact hl_24_16 ((8 - pl.toInt : Int).toNat + 1) pl M_6 _ _ _ (Nat.lt_succ_self _) (by first | omega | decide) (by first | omega | decide) iM_6 (rf_I hM_6) (tI_nE hM_6 (nk (by decide))) (fx_I hM_6 (fxn hq.1 (by decide))) (eo_I hM_6) (tI_uE hM_6) (by first | omega | decide) hw (lv_sub hl [0, 1, 2, 3, 4] rfl)
  · exact hQ _ _ _ _ _ hw (⟨eo.refl, hI, rfl, rfl, fX.refl⟩) dX3_remove_10
set_option maxHeartbeats 4000000 in
set_option maxRecDepth 100000 in
theorem f_X3_welcome (l : Launch) (D : va_G) (A : Nat → Nat → Nat) (cy : Nat → ClassId) (hJ : ti_inj ti_LT A) (M : ti_M) (hI : cI Tc M) (q t : Nat) (hq : ti_ob ti_LT q 3) (ht : t = 3 ∨ t = 4) (hT : tT M q 0 = some t) : ti_Kv l yX3_welcome cX3_welcome 3 2 ti_LT D A cy M [.ref (A q 0)] (fun M2 => eo q M2 M ∧ cI Tc M2 ∧ M2.2.2.2 = M.2.2.2 ∧ tI M2 q 2 = tI M q 2 ∧ fX M2 M) := by
  refine ti_eV yp_X3_welcome hJ ti_LT_nd (Nat.le_of_ble_eq_true rfl) ?_
  intro p e s m args below meth c Q H0 C hQ hw ls hl
  have hx := C.1
  have hb := C.2.1
  have hl : lv_has ls 3 [(0, .ref (A q 0))] := hl
  refine lv_iconst (v := 0) hx hb dX3_welcome_0 (by decide) ?_
  refine lv_istore_n (lv' := [(1, .int 0), (0, .ref (A q 0))]) hx hb dX3_welcome_1 rfl hl (by decide) rfl (fun ls hl => ?_)
  have hl_2_8 : ∀ (n_9 : Nat) (x_1 : Int32) (M_4 : ti_M) (H : Heap) (locs : List Loc) (ls : Array Slot), (8 - x_1.toInt : Int).toNat < n_9 → (0 ≤ x_1.toInt) → (x_1.toInt ≤ 8) → (cI Tc M_4) → (M_4.2.2.2 = M.2.2.2) → (tI M_4 q 2 = tI M q 2) → (fX M_4 M) → (eo q M_4 M) → ti_H ti_LT D A cy H0 M_4 H locs → lv_has ls 3 [(1, .int x_1), (0, .ref (A q 0))] → W p l e (ti_rm 2) s m args below meth c H locs 0 0 Q (F0 m 2 ls []) := by
    intro n_9
    induction n_9 with
    | zero => intro x_1 M_4 H locs ls hf_9; exact absurd hf_9 (Nat.not_lt_zero _)
    | succ n_9 ih_9 =>
      intro x_1 M_4 H locs ls hf_9 b_2 b_3 iM_4 f_5 f_6 f_7 f_8 hw hl
      refine lv_iload_n hx hb dX3_welcome_2 rfl (lv_at hl 0 rfl) ?_
      refine lv_aload_n hx hb dX3_welcome_3 rfl (lv_at hl 1 rfl) ?_
      refine ti_get (ci := 3) (k := 0) (N := 17) (T := TX3) (v := .ref (A t 0)) C hw iw_3 rfl hq (by decide) (by decide) fl_X3_45 rfl (ti_Tv ((tT_fr f_5).trans hT)) dX3_welcome_4 ?_
      refine ti_get (ci := 8) (k := 4) (N := 12) (T := TX8) C hw iw_8 rfl (ob_t ht) (by decide) (by decide) fl_X3_78 rfl rfl dX3_welcome_7 ?_
      refine lv_topi (fun x_10 ex_10 => ?_)
      have bx_10 : 0 ≤ x_10.toInt ∧ x_10.toInt ≤ 8 := cI_rd iM_4 (ob_t ht).1 ex_10
      have ux_10 : (tI M_4 t 4).toInt = x_10.toInt := by rw [ex_10]
      refine sb_icmp_ge (tgt := 35) hx hb rfl rfl dX3_welcome_10 (by decide) (fun c_10_10 => ?_) (fun c_10_10 => ?_)
      · exact hQ _ _ _ _ _ hw (⟨f_8, iM_4, (f_5), (f_6), f_7⟩) dX3_welcome_35
      · refine lv_aload_n hx hb dX3_welcome_13 rfl (lv_at hl 1 rfl) ?_
        refine ti_callVi (ci := 3) (av := []) C hw (s_X3_nextToJoin l D A cy hJ M_4 iM_4 q t hq ht ((tT_fr f_5).trans hT)) ⟨ml_X3_164, ym_X3_nextToJoin, yv_X3_nextToJoin, yi_X3_nextToJoin, yc_X3_nextToJoin⟩ yd_X3_nextToJoin hq (by decide) rfl rfl hl.1 (Nat.le_of_ble_eq_true rfl) ⟨by decide, by decide⟩ ⟨Nat.zero_le _, Nat.zero_le _⟩ dX3_welcome_14 (fun r_12 M_13 H locs hp_13 hw => ?_)
        obtain ⟨hm, b0r_12, b1r_12⟩ := hp_13
        have hw := hw.to hm
        refine lv_istore_n (lv' := [(2, .int r_12), (1, .int x_1), (0, .ref (A q 0))]) hx hb dX3_welcome_17 rfl hl (by decide) rfl (fun ls hl => ?_)
        refine lv_iload_n hx hb dX3_welcome_18 rfl (lv_at hl 0 rfl) ?_
        refine lv_iconst (v := (-1)) hx hb dX3_welcome_19 (by decide) ?_
        refine sb_icmp_ne (tgt := 24) hx hb rfl (by decide : ((-1) : Int32).toInt = (-1)) dX3_welcome_20 (by decide) (fun c_20_13 => ?_) (fun c_20_13 => ?_)
        · refine lv_aload_n hx hb dX3_welcome_24 rfl (lv_at hl 2 rfl) ?_
          refine lv_iload_n hx hb dX3_welcome_25 rfl (lv_at hl 0 rfl) ?_
          refine ti_callVv (ci := 3) (av := [.int r_12]) C hw (f_X3_append l D A cy hJ M_4 iM_4 q hq r_12 (by omega) (by omega)) ⟨ml_X3_168, ym_X3_append, yv_X3_append, yi_X3_append, yc_X3_append⟩ yd_X3_append hq (by decide) rfl rfl hl.1 (Nat.le_of_ble_eq_true rfl) ⟨by decide, by decide⟩ ⟨Nat.zero_le _, Nat.zero_le _⟩ dX3_welcome_26 (fun M_16 H locs hp_16 hw => ?_)
          obtain ⟨frM_16, hqM_16⟩ := hp_16
          obtain ⟨iM_16, q_17, q_18, q_19⟩ := hqM_16
          obtain ⟨x_20, ex_20⟩ : ∃ z : Int32, z = x_1 + 1 := ⟨_, rfl⟩
          have tx_20 : x_20.toInt = x_1.toInt + 1 := i_add ex_20 rfl (by decide) (by omega) (by omega)
          refine lv_iinc (v := x_20) (lv' := [(1, .int x_20), (2, .int r_12), (0, .ref (A q 0))]) hx hb dX3_welcome_29 hl (k := 1) rfl (by rw [ex_20]; rfl) (by decide) rfl (fun ls hl => ?_)
          refine lv_goto (tgt := 2) hx hb dX3_welcome_32 (by decide) ?_
          exact ih_9 x_20 M_16 _ _ _ (by omega) (by first | omega | decide) (by first | omega | decide) iM_16 ((q_17).trans f_5) ((q_18).trans f_6) (fX.trans q_19 f_7) (eo.trans frM_16 f_8) hw (lv_sub hl [0, 2] rfl)
        · exact hQ _ _ _ _ _ hw (⟨f_8, iM_4, (f_5), (f_6), f_7⟩) dX3_welcome_23
  exact hl_2_8 ((8 - 0 : Int).toNat + 1) 0 M _ _ _ (Nat.lt_succ_self _) (by have lt0 : (0 : Int32).toInt = 0 := (by decide); first | omega | decide) (by have lt0 : (0 : Int32).toInt = 0 := (by decide); first | omega | decide) hI rfl rfl fX.refl eo.refl hw (lv_sub hl [0, 1] rfl)
set_option maxHeartbeats 4000000 in
set_option maxRecDepth 100000 in
theorem f_X3_hearCoughs (l : Launch) (D : va_G) (A : Nat → Nat → Nat) (cy : Nat → ClassId) (hJ : ti_inj ti_LT A) (M : ti_M) (hI : cI Tc M) (q t : Nat) (hq : ti_ob ti_LT q 3) (ht : t = 3 ∨ t = 4) (hT : tT M q 0 = some t) : ti_Kv l yX3_hearCoughs cX3_hearCoughs 4 3 ti_LT D A cy M [.ref (A q 0)] (fun M2 => eo q M2 M ∧ cI Tc M2 ∧ M2.2.2.2 = M.2.2.2 ∧ tI M2 q 2 = tI M q 2 ∧ fX M2 M) := by
  refine ti_eV yp_X3_hearCoughs hJ ti_LT_nd (Nat.le_of_ble_eq_true rfl) ?_
  intro p e s m args below meth c Q H0 C hQ hw ls hl
  have hx := C.1
  have hb := C.2.1
  have hl : lv_has ls 4 [(0, .ref (A q 0))] := hl
  refine lv_aload_n hx hb dX3_hearCoughs_0 rfl (lv_at hl 0 rfl) ?_
  refine lv_iconst (v := 1) hx hb dX3_hearCoughs_1 (by decide) ?_
  refine ti_callVi (ci := 3) (av := [.int 1]) C hw (s_X3_is l D A cy hJ M hI q hq 1) ⟨ml_X3_182, ym_X3_is, yv_X3_is, yi_X3_is, yc_X3_is⟩ yd_X3_is hq (by decide) rfl rfl hl.1 (Nat.le_of_ble_eq_true rfl) ⟨by decide, by decide⟩ ⟨Nat.zero_le _, Nat.zero_le _⟩ dX3_hearCoughs_2 (fun r_1 M_2 H locs hp_2 hw => ?_)
  have hm := hp_2
  have hw := hw.to hm
  refine sb_if_eq (tgt := 9) hx hb rfl dX3_hearCoughs_5 (by decide) (fun c_5_2 => ?_) (fun c_5_2 => ?_)
  · refine lv_iconst (v := 0) hx hb dX3_hearCoughs_9 (by decide) ?_
    refine lv_istore_n (lv' := [(1, .int 0), (0, .ref (A q 0))]) hx hb dX3_hearCoughs_10 rfl hl (by decide) rfl (fun ls hl => ?_)
    refine lv_aload_n hx hb dX3_hearCoughs_11 rfl (lv_at hl 1 rfl) ?_
    refine ti_callVi (ci := 3) (av := []) C hw (s_X3_lastHeard l D A cy hJ M hI q t hq ht (hT)) ⟨ml_X3_186, ym_X3_lastHeard, yv_X3_lastHeard, yi_X3_lastHeard, yc_X3_lastHeard⟩ yd_X3_lastHeard hq (by decide) rfl rfl hl.1 (Nat.le_of_ble_eq_true rfl) ⟨by decide, by decide⟩ ⟨Nat.zero_le _, Nat.zero_le _⟩ dX3_hearCoughs_12 (fun r_4 M_5 H locs hp_5 hw => ?_)
    obtain ⟨hm, b1r_4⟩ := hp_5
    have hw := hw.to hm
    refine lv_istore_n (lv' := [(2, .int r_4), (1, .int 0), (0, .ref (A q 0))]) hx hb dX3_hearCoughs_15 rfl hl (by decide) rfl (fun ls hl => ?_)
    refine lv_iconst (v := 1) hx hb dX3_hearCoughs_16 (by decide) ?_
    refine lv_istore_n (lv' := [(3, .int 1), (2, .int r_4), (1, .int 0), (0, .ref (A q 0))]) hx hb dX3_hearCoughs_17 rfl hl (by decide) rfl (fun ls hl => ?_)
    have hl_18_9 : ∀ (n_10 : Nat) (x_6 : Int32) (x_9 : Int32) (H : Heap) (locs : List Loc) (ls : Array Slot), (8 - x_6.toInt : Int).toNat < n_10 → (1 ≤ x_6.toInt) → (x_6.toInt ≤ 8) → ti_H ti_LT D A cy H0 M H locs → lv_has ls 4 [(3, .int x_6), (2, .int r_4), (1, .int x_9), (0, .ref (A q 0))] → W p l e (ti_rm 3) s m args below meth c H locs 0 0 Q (F0 m 18 ls []) := by
      intro n_10
      induction n_10 with
      | zero => intro x_6 x_9 H locs ls hf_10; exact absurd hf_10 (Nat.not_lt_zero _)
      | succ n_10 ih_10 =>
        intro x_6 x_9 H locs ls hf_10 b_7 b_8 hw hl
        refine lv_iload_n hx hb dX3_hearCoughs_18 rfl (lv_at hl 0 rfl) ?_
        refine lv_iload_n hx hb dX3_hearCoughs_19 rfl (lv_at hl 1 rfl) ?_
        refine sb_icmp_gt (tgt := 43) hx hb rfl rfl dX3_hearCoughs_20 (by decide) (fun c_20_10 => ?_) (fun c_20_10 => ?_)
        · refine lv_iload_n hx hb dX3_hearCoughs_43 rfl (lv_at hl 2 rfl) ?_
          have hj_68_34 : ∀ (M_30 : ti_M) (H : Heap) (locs : List Loc) (ls : Array Slot), (cI Tc M_30) → (M_30.2.2.2 = M.2.2.2) → (tI M_30 q 2 = tI M q 2) → (fX M_30 M) → (eo q M_30 M) → ti_H ti_LT D A cy H0 M_30 H locs → lv_has ls 4 [(3, .int x_6), (2, .int r_4), (1, .int x_9), (0, .ref (A q 0))] → W p l e (ti_rm 3) s m args below meth c H locs 0 0 Q (F0 m 68 ls []) := by
            intro M_30 H locs ls iM_30 f_31 f_32 f_33 f_34 hw hl
            refine lv_aload_n hx hb dX3_hearCoughs_68 rfl (lv_at hl 3 rfl) ?_
            refine ti_get (ci := 3) (k := 16) (N := 17) (T := TX3) (v := .ref (A q 17)) C hw iw_3 rfl hq (by decide) (by decide) fl_X3_42 rfl rfl dX3_hearCoughs_69 ?_
            refine lv_iconst (v := 0) hx hb dX3_hearCoughs_72 (by decide) ?_
            refine ti_callSv (av := [.ref (A q 17), .int 0]) C hw (k_fill l D A cy ti_LT_nd hJ M_30 q 16 3 8 0 hq (by decide) (fun _ _ => rfl) (by decide)) ⟨ml_X3_93, ys_J7_fill_53178, yi_J7_fill_53178, yc_J7_fill_53178⟩ yd_J7_fill_53178 rfl hl.1 (Nat.le_of_ble_eq_true rfl) ⟨by decide, by decide⟩ ⟨Nat.zero_le _, Nat.zero_le _⟩ dX3_hearCoughs_73 (fun M_35 H locs hp hw => ?_)
            obtain ⟨g_36, hM_35, -⟩ := hp
            have iM_35 : cI Tc M_35 := cI_uY iM_30 hM_35 hq.1 (fun _ => trivial)
            exact hQ _ _ _ _ _ hw (⟨(eo.trans (eo_Y hM_35) f_34), iM_35, ((rf_Y hM_35).trans f_31), ((tI_uYE hM_35).trans f_32), (fX.trans (fx_of (ra_Y hM_35)) f_33)⟩) dX3_hearCoughs_76
          refine sb_if_le (tgt := 68) hx hb rfl dX3_hearCoughs_44 (by decide) (fun c_44_15 => ?_) (fun c_44_15 => ?_)
          · exact hj_68_34 M _ _ _ hI rfl rfl fX.refl eo.refl hw (lv_sub hl [0, 1, 2, 3] rfl)
          · refine lv_iload_n hx hb dX3_hearCoughs_47 rfl (lv_at hl 2 rfl) ?_
            refine lv_aload_n hx hb dX3_hearCoughs_48 rfl (lv_at hl 3 rfl) ?_
            refine ti_callVi (ci := 3) (av := []) C hw (f_X3_need l D A cy hJ M hI q t hq ht (hT)) ⟨ml_X3_189, ym_X3_need, yv_X3_need, yi_X3_need, yc_X3_need⟩ yd_X3_need hq (by decide) rfl rfl hl.1 (Nat.le_of_ble_eq_true rfl) ⟨by decide, by decide⟩ ⟨Nat.zero_le _, Nat.zero_le _⟩ dX3_hearCoughs_49 (fun r_17 M_18 H locs hp_18 hw => ?_)
            obtain ⟨frM_18a, frM_18b, hqM_18⟩ := hp_18
            have frM_18 := And.intro frM_18a frM_18b
            obtain ⟨iM_18, q_19, q_20⟩ := hqM_18
            refine sb_icmp_lt (tgt := 68) hx hb rfl rfl dX3_hearCoughs_52 (by decide) (fun c_52_20 => ?_) (fun c_52_20 => ?_)
            · exact hj_68_34 M_18 _ _ _ iM_18 (q_19) (tI_fr q_20) (fx_of q_20) (eo_of frM_18.1 frM_18.2) hw (lv_sub hl [0, 1, 2, 3] rfl)
            · refine lv_aload_n hx hb dX3_hearCoughs_55 rfl (lv_at hl 3 rfl) ?_
              refine ti_callVi (ci := 3) (av := []) C hw (s_X3_isGuarded l D A cy hJ M_18 iM_18 q t hq ht ((tT_fr q_19).trans hT)) ⟨ml_X3_192, ym_X3_isGuarded, yv_X3_isGuarded, yi_X3_isGuarded, yc_X3_isGuarded⟩ yd_X3_isGuarded hq (by decide) rfl rfl hl.1 (Nat.le_of_ble_eq_true rfl) ⟨by decide, by decide⟩ ⟨Nat.zero_le _, Nat.zero_le _⟩ dX3_hearCoughs_56 (fun r_22 M_23 H locs hp_23 hw => ?_)
              have hm := hp_23
              have hw := hw.to hm
              refine sb_if_ne (tgt := 68) hx hb rfl dX3_hearCoughs_59 (by decide) (fun c_59_23 => ?_) (fun c_59_23 => ?_)
              · exact hj_68_34 M_18 _ _ _ iM_18 (q_19) (tI_fr q_20) (fx_of q_20) (eo_of frM_18.1 frM_18.2) hw (lv_sub hl [0, 1, 2, 3] rfl)
              · refine lv_aload_n hx hb dX3_hearCoughs_62 rfl (lv_at hl 3 rfl) ?_
                refine lv_iconst (v := 0) hx hb dX3_hearCoughs_63 (by decide) ?_
                refine lv_iconst (v := 3) hx hb dX3_hearCoughs_64 (by decide) ?_
                refine ti_callVv (ci := 3) (av := [.int 0, .int 3]) C hw (f_X3_remove l D A cy hJ M_18 iM_18 q hq 0 3) ⟨ml_X3_196, ym_X3_remove, yv_X3_remove, yi_X3_remove, yc_X3_remove⟩ yd_X3_remove hq (by decide) rfl rfl hl.1 (Nat.le_of_ble_eq_true rfl) ⟨by decide, by decide⟩ ⟨Nat.zero_le _, Nat.zero_le _⟩ dX3_hearCoughs_65 (fun M_26 H locs hp_26 hw => ?_)
                obtain ⟨frM_26, hqM_26⟩ := hp_26
                obtain ⟨iM_26, q_27, q_28, q_29⟩ := hqM_26
                exact hj_68_34 M_26 _ _ _ iM_26 ((q_27).trans q_19) ((q_28).trans (tI_fr q_20)) (fX.trans q_29 (fx_of q_20)) (eo.trans frM_26 (eo_of frM_18.1 frM_18.2)) hw (lv_sub hl [0, 1, 2, 3] rfl)
        · refine lv_iload_n hx hb dX3_hearCoughs_23 rfl (lv_at hl 2 rfl) ?_
          refine lv_aload_n hx hb dX3_hearCoughs_24 rfl (lv_at hl 3 rfl) ?_
          refine ti_get (ci := 3) (k := 16) (N := 17) (T := TX3) (v := .ref (A q 17)) C hw iw_3 rfl hq (by decide) (by decide) fl_X3_42 rfl rfl dX3_hearCoughs_25 ?_
          refine lv_aload_n hx hb dX3_hearCoughs_28 rfl (lv_at hl 3 rfl) ?_
          refine ti_get (ci := 3) (k := 6) (N := 17) (T := TX3) (v := .ref (A q 7)) C hw iw_3 rfl hq (by decide) (by decide) fl_X3_9 rfl rfl dX3_hearCoughs_29 ?_
          refine lv_iload_n hx hb dX3_hearCoughs_32 rfl (lv_at hl 0 rfl) ?_
          refine ti_iald (ci := 3) (k := 6) (n := 8) C hw hq (by decide) (fun _ _ => rfl) (vp_in_iff.mpr (by omega)) dX3_hearCoughs_33 ?_
          refine lv_topi (fun x_12 ex_12 => ?_)
          have bx_12 : 0 ≤ x_12.toInt ∧ x_12.toInt ≤ 7 := cI_ry hI hq.1 ex_12
          refine ti_iald (ci := 3) (k := 16) (n := 8) C hw hq (by decide) (fun _ _ => rfl) (vp_in_iff.mpr (by omega)) dX3_hearCoughs_34 ?_
          refine lv_topi (fun x_13 ex_13 => ?_)
          refine lv_iadd hx hb dX3_hearCoughs_35 ?_
          refine lv_topi (fun x_14 ex_14 => ?_)
          refine lv_istore_n (lv' := [(1, .int x_14), (3, .int x_6), (2, .int r_4), (0, .ref (A q 0))]) hx hb dX3_hearCoughs_36 rfl hl (by decide) rfl (fun ls hl => ?_)
          obtain ⟨x_15, ex_15⟩ : ∃ z : Int32, z = x_6 + 1 := ⟨_, rfl⟩
          have tx_15 : x_15.toInt = x_6.toInt + 1 := i_add ex_15 rfl (by decide) (by omega) (by omega)
          refine lv_iinc (v := x_15) (lv' := [(3, .int x_15), (1, .int x_14), (2, .int r_4), (0, .ref (A q 0))]) hx hb dX3_hearCoughs_37 hl (k := 1) rfl (by rw [ex_15]; rfl) (by decide) rfl (fun ls hl => ?_)
          refine lv_goto (tgt := 18) hx hb dX3_hearCoughs_40 (by decide) ?_
          exact ih_10 x_15 x_14 _ _ _ (by omega) (by first | omega | decide) (by first | omega | decide) hw (lv_sub hl [0, 2, 1, 3] rfl)
    exact hl_18_9 ((8 - 1 : Int).toNat + 1) 1 0 _ _ _ (Nat.lt_succ_self _) (by have lt0 : (0 : Int32).toInt = 0 := (by decide); have lt1 : (1 : Int32).toInt = 1 := (by decide); first | omega | decide) (by have lt0 : (0 : Int32).toInt = 0 := (by decide); have lt1 : (1 : Int32).toInt = 1 := (by decide); first | omega | decide) hw (lv_sub hl [0, 1, 2, 3] rfl)
  · exact hQ _ _ _ _ _ hw (⟨eo.refl, hI, rfl, rfl, fX.refl⟩) dX3_hearCoughs_8
set_option maxHeartbeats 4000000 in
set_option maxRecDepth 100000 in
theorem f_X3_pour (l : Launch) (D : va_G) (A : Nat → Nat → Nat) (cy : Nat → ClassId) (hJ : ti_inj ti_LT A) (M : ti_M) (hI : cI Tc M) (q t : Nat) (hq : ti_ob ti_LT q 3) (ht : t = 3 ∨ t = 4) (hT : tT M q 0 = some t) : ti_Kv l yX3_pour cX3_pour 4 1 ti_LT D A cy M [.ref (A q 0)] (fun M2 => eo q M2 M ∧ cI Tc M2 ∧ M2.2.2.2 = M.2.2.2 ∧ tI M2 q 2 = tI M q 2 ∧ fX M2 M) := by
  refine ti_eV yp_X3_pour hJ ti_LT_nd (Nat.le_of_ble_eq_true rfl) ?_
  intro p e s m args below meth c Q H0 C hQ hw ls hl
  have hx := C.1
  have hb := C.2.1
  have hl : lv_has ls 4 [(0, .ref (A q 0))] := hl
  refine lv_aload_n hx hb dX3_pour_0 rfl (lv_at hl 0 rfl) ?_
  refine ti_get (ci := 3) (k := 3) (N := 17) (T := TX3) C hw iw_3 rfl hq (by decide) (by decide) fl_X3_56 rfl rfl dX3_pour_1 ?_
  refine lv_topi (fun x_1 ex_1 => ?_)
  have bx_1 : 0 ≤ x_1.toInt ∧ x_1.toInt ≤ 8 := cI_rd hI hq.1 ex_1
  have ux_1 : (tI M q 3).toInt = x_1.toInt := by rw [ex_1]
  refine sb_if_ne (tgt := 8) hx hb rfl dX3_pour_4 (by decide) (fun c_4_1 => ?_) (fun c_4_1 => ?_)
  · refine lv_aload_n hx hb dX3_pour_8 rfl (lv_at hl 0 rfl) ?_
    refine ti_get (ci := 3) (k := 6) (N := 17) (T := TX3) (v := .ref (A q 7)) C hw iw_3 rfl hq (by decide) (by decide) fl_X3_9 rfl rfl dX3_pour_9 ?_
    refine lv_iconst (v := 0) hx hb dX3_pour_12 (by decide) ?_
    refine ti_iald (ci := 3) (k := 6) (n := 8) C hw hq (by decide) (fun _ _ => rfl) (by unfold vp_in; decide) dX3_pour_13 ?_
    refine lv_topi (fun x_3 ex_3 => ?_)
    have bx_3 : 0 ≤ x_3.toInt ∧ x_3.toInt ≤ 7 := cI_ry hI hq.1 ex_3
    refine lv_istore_n (lv' := [(1, .int x_3), (0, .ref (A q 0))]) hx hb dX3_pour_14 rfl hl (by decide) rfl (fun ls hl => ?_)
    refine lv_aload_n hx hb dX3_pour_15 rfl (lv_at hl 1 rfl) ?_
    refine lv_bipush (v := 32) hx hb dX3_pour_16 (by decide) ?_
    refine ti_callVi (ci := 3) (av := [.int 32]) C hw (s_X3_is l D A cy hJ M hI q hq 32) ⟨ml_X3_182, ym_X3_is, yv_X3_is, yi_X3_is, yc_X3_is⟩ yd_X3_is hq (by decide) rfl rfl hl.1 (Nat.le_of_ble_eq_true rfl) ⟨by decide, by decide⟩ ⟨Nat.zero_le _, Nat.zero_le _⟩ dX3_pour_18 (fun r_4 M_5 H locs hp_5 hw => ?_)
    have hm := hp_5
    have hw := hw.to hm
    have hj_43_10 : ∀ (x_10 : Int32) (H : Heap) (locs : List Loc) (ls : Array Slot), ti_H ti_LT D A cy H0 M H locs → lv_has ls 4 [(1, .int x_3), (0, .ref (A q 0))] → W p l e (ti_rm 1) s m args below meth c H locs 0 0 Q (F0 m 43 ls [.int x_10]) := by
      intro x_10 H locs ls  hw hl
      refine lv_istore_n (lv' := [(2, .int x_10), (1, .int x_3), (0, .ref (A q 0))]) hx hb dX3_pour_43 rfl hl (by decide) rfl (fun ls hl => ?_)
      refine lv_iload_n hx hb dX3_pour_44 rfl (lv_at hl 0 rfl) ?_
      refine lv_aload_n hx hb dX3_pour_45 rfl (lv_at hl 2 rfl) ?_
      refine ti_get (ci := 3) (k := 0) (N := 17) (T := TX3) (v := .ref (A t 0)) C hw iw_3 rfl hq (by decide) (by decide) fl_X3_45 rfl (ti_Tv (hT)) dX3_pour_46 ?_
      refine ti_get (ci := 8) (k := 0) (N := 12) (T := TX8) (v := .ref (A t 1)) C hw iw_8 rfl (ob_t ht) (by decide) (by decide) fl_X3_81 rfl rfl dX3_pour_49 ?_
      refine lv_iload_n hx hb dX3_pour_52 rfl (lv_at hl 1 rfl) ?_
      refine ti_aald (ci := 8) (k := 0) (n := 8) (t0 := 5) (Cn := RX2) (gg := (ti_men t)) (j := x_3.toNatClampNeg) C hw (ob_t ht) (by decide) (fun _ _ => rfl) rfl (vp_in_iff.mpr (by omega)) rfl dX3_pour_53 ?_
      have ob_11 : ti_ob ti_LT (ti_men t x_3.toNatClampNeg) 2 := ob_m ht (i_nt rfl (by omega) (by omega))
      refine ti_get (ci := 2) (k := 4) (N := 10) (T := TX2) C hw iw_2 rfl ob_11 (by decide) (by decide) fl_X3_203 rfl rfl dX3_pour_54 ?_
      refine lv_topi (fun x_12 ex_12 => ?_)
      refine lv_aload_n hx hb dX3_pour_57 rfl (lv_at hl 2 rfl) ?_
      refine ti_get (ci := 3) (k := 11) (N := 17) (T := TX3) (v := .ref (A q 12)) C hw iw_3 rfl hq (by decide) (by decide) fl_X3_27 rfl rfl dX3_pour_58 ?_
      refine lv_iload_n hx hb dX3_pour_61 rfl (lv_at hl 1 rfl) ?_
      refine ti_iald (ci := 3) (k := 11) (n := 8) C hw hq (by decide) (fun _ _ => rfl) (vp_in_iff.mpr (by omega)) dX3_pour_62 ?_
      refine lv_topi (fun x_13 ex_13 => ?_)
      refine lv_isub hx hb dX3_pour_63 ?_
      refine lv_topi (fun x_14 ex_14 => ?_)
      refine ti_min C ml_X3_137 hl.1 (by decide) (Nat.le_of_ble_eq_true rfl) ⟨Nat.zero_le _, Nat.zero_le _⟩ dX3_pour_64 ?_
      refine lv_topi (fun x_15 ex_15 => ?_)
      have bx_15 := i_min ex_15 rfl rfl
      refine lv_istore_n (lv' := [(3, .int x_15), (2, .int x_10), (1, .int x_3), (0, .ref (A q 0))]) hx hb dX3_pour_67 rfl hl (by decide) rfl (fun ls hl => ?_)
      refine lv_aload_n hx hb dX3_pour_68 rfl (lv_at hl 3 rfl) ?_
      refine lv_bipush (v := 16) hx hb dX3_pour_69 (by decide) ?_
      refine ti_callVi (ci := 3) (av := [.int 16]) C hw (s_X3_is l D A cy hJ M hI q hq 16) ⟨ml_X3_182, ym_X3_is, yv_X3_is, yi_X3_is, yc_X3_is⟩ yd_X3_is hq (by decide) rfl rfl hl.1 (Nat.le_of_ble_eq_true rfl) ⟨by decide, by decide⟩ ⟨Nat.zero_le _, Nat.zero_le _⟩ dX3_pour_71 (fun r_16 M_17 H locs hp_17 hw => ?_)
      have hm := hp_17
      have hw := hw.to hm
      have hj_96_28 : ∀ (x_23 : Int32) (M_24 : ti_M) (H : Heap) (locs : List Loc) (ls : Array Slot), (cI Tc M_24) → (M_24.2.2.2 = M.2.2.2) → (tI M_24 q 2 = tI M q 2) → (fX M_24 M) → (eo q M_24 M) → ti_H ti_LT D A cy H0 M_24 H locs → lv_has ls 4 [(3, .int x_23), (2, .int x_10), (1, .int x_3), (0, .ref (A q 0))] → W p l e (ti_rm 1) s m args below meth c H locs 0 0 Q (F0 m 96 ls []) := by
        intro x_23 M_24 H locs ls iM_24 f_25 f_26 f_27 f_28 hw hl
        refine lv_aload_n hx hb dX3_pour_96 rfl (lv_at hl 3 rfl) ?_
        refine ti_get (ci := 3) (k := 11) (N := 17) (T := TX3) (v := .ref (A q 12)) C hw iw_3 rfl hq (by decide) (by decide) fl_X3_27 rfl rfl dX3_pour_97 ?_
        refine lv_iload_n hx hb dX3_pour_100 rfl (lv_at hl 2 rfl) ?_
        refine lv_dup2_11 hx hb dX3_pour_101 rfl rfl ?_
        refine ti_iald (ci := 3) (k := 11) (n := 8) C hw hq (by decide) (fun _ _ => rfl) (vp_in_iff.mpr (by omega)) dX3_pour_102 ?_
        refine lv_topi (fun x_29 ex_29 => ?_)
        refine lv_iload_n hx hb dX3_pour_103 rfl (lv_at hl 0 rfl) ?_
        refine lv_iadd hx hb dX3_pour_104 ?_
        refine lv_topi (fun x_30 ex_30 => ?_)
        refine ti_iast (ci := 3) (k := 11) (n := 8) C hw hq (by decide) (fun _ _ => rfl) (vp_in_iff.mpr (by omega)) dX3_pour_105 (fun H locs hw => ?_)
        obtain ⟨M_31, hM_31⟩ : ∃ z : ti_M, z = uY M_24 q 11 (upd (tY M_24 q 11) (x_3 : Int32).toNatClampNeg x_30) := ⟨_, rfl⟩
        have hw := hw.to hM_31.symm
        have iM_31 : cI Tc M_31 := cI_up iM_24 hM_31 hq.1 trivial
        exact hQ _ _ _ _ _ hw (⟨(eo.trans (eo_Y hM_31) f_28), iM_31, ((rf_Y hM_31).trans f_25), ((tI_uYE hM_31).trans f_26), (fX.trans (fx_of (ra_Y hM_31)) f_27)⟩) dX3_pour_106
      refine sb_if_ne (tgt := 96) hx hb rfl dX3_pour_74 (by decide) (fun c_74_17 => ?_) (fun c_74_17 => ?_)
      · exact hj_96_28 x_15 M _ _ _ hI rfl rfl fX.refl eo.refl hw (lv_sub hl [0, 1, 2, 3] rfl)
      · refine lv_iload_n hx hb dX3_pour_77 rfl (lv_at hl 0 rfl) ?_
        refine lv_aload_n hx hb dX3_pour_78 rfl (lv_at hl 3 rfl) ?_
        refine ti_get (ci := 3) (k := 4) (N := 17) (T := TX3) C hw iw_3 rfl hq (by decide) (by decide) fl_X3_64 rfl rfl dX3_pour_79 ?_
        refine lv_topi (fun x_19 ex_19 => ?_)
        refine ti_min C ml_X3_137 hl.1 (by decide) (Nat.le_of_ble_eq_true rfl) ⟨Nat.zero_le _, Nat.zero_le _⟩ dX3_pour_82 ?_
        refine lv_topi (fun x_20 ex_20 => ?_)
        have bx_20 := i_min ex_20 rfl rfl
        refine lv_istore_n (lv' := [(3, .int x_20), (2, .int x_10), (1, .int x_3), (0, .ref (A q 0))]) hx hb dX3_pour_85 rfl hl (by decide) rfl (fun ls hl => ?_)
        refine lv_aload_n hx hb dX3_pour_86 rfl (lv_at hl 3 rfl) ?_
        refine lv_dup hx hb dX3_pour_87 rfl ?_
        refine ti_get (ci := 3) (k := 4) (N := 17) (T := TX3) C hw iw_3 rfl hq (by decide) (by decide) fl_X3_64 rfl rfl dX3_pour_88 ?_
        refine ti_top (y := x_19) (ex_19.symm) ?_
        refine lv_iload_n hx hb dX3_pour_91 rfl (lv_at hl 0 rfl) ?_
        refine lv_isub hx hb dX3_pour_92 ?_
        refine lv_topi (fun x_21 ex_21 => ?_)
        refine ti_putI (ci := 3) (k := 4) (N := 17) (T := TX3) C hw iw_3 tyX3 tyX3_ok nmX3 rfl hq (by decide) (by decide) fl_X3_64 rfl rfl rfl rfl (fn_3 A _) fs_3_4 dX3_pour_93 (fun H locs hw => ?_)
        obtain ⟨M_22, hM_22⟩ : ∃ z : ti_M, z = uI M q 4 x_21 := ⟨_, rfl⟩
        have hw := hw.to hM_22.symm
        have iM_22 : cI Tc M_22 := cI_uI hI hM_22 hq.1 trivial
        exact hj_96_28 x_20 M_22 _ _ _ iM_22 (rf_I hM_22) (tI_nE hM_22 (nk (by decide))) (fx_I hM_22 (fxn hq.1 (by decide))) (eo_I hM_22) hw (lv_sub hl [0, 1, 2, 3] rfl)
    refine sb_if_eq (tgt := 36) hx hb rfl dX3_pour_21 (by decide) (fun c_21_5 => ?_) (fun c_21_5 => ?_)
    · refine lv_aload_n hx hb dX3_pour_36 rfl (lv_at hl 1 rfl) ?_
      refine ti_get (ci := 3) (k := 0) (N := 17) (T := TX3) (v := .ref (A t 0)) C hw iw_3 rfl hq (by decide) (by decide) fl_X3_45 rfl (ti_Tv (hT)) dX3_pour_37 ?_
      refine ti_get (ci := 8) (k := 7) (N := 12) (T := TX8) C hw iw_8 rfl (ob_t ht) (by decide) (by decide) fl_X3_200 rfl rfl dX3_pour_40 ?_
      refine lv_topi (fun x_9 ex_9 => ?_)
      exact hj_43_10 x_9 _ _ _  hw (lv_sub hl [0, 1] rfl)
    · refine lv_aload_n hx hb dX3_pour_24 rfl (lv_at hl 1 rfl) ?_
      refine ti_get (ci := 3) (k := 0) (N := 17) (T := TX3) (v := .ref (A t 0)) C hw iw_3 rfl hq (by decide) (by decide) fl_X3_45 rfl (ti_Tv (hT)) dX3_pour_25 ?_
      refine ti_get (ci := 8) (k := 7) (N := 12) (T := TX8) C hw iw_8 rfl (ob_t ht) (by decide) (by decide) fl_X3_200 rfl rfl dX3_pour_28 ?_
      refine lv_topi (fun x_7 ex_7 => ?_)
      refine lv_iconst (v := 1) hx hb dX3_pour_31 (by decide) ?_
      refine lv_iadd hx hb dX3_pour_32 ?_
      refine lv_topi (fun x_8 ex_8 => ?_)
      refine lv_goto (tgt := 43) hx hb dX3_pour_33 (by decide) ?_
      exact hj_43_10 x_8 _ _ _  hw (lv_sub hl [0, 1] rfl)
  · exact hQ _ _ _ _ _ hw (⟨eo.refl, hI, rfl, rfl, fX.refl⟩) dX3_pour_7
set_option maxHeartbeats 4000000 in
set_option maxRecDepth 100000 in
theorem f_X3_levy (l : Launch) (D : va_G) (A : Nat → Nat → Nat) (cy : Nat → ClassId) (hJ : ti_inj ti_LT A) (M : ti_M) (hI : cI Tc M) (q t : Nat) (hq : ti_ob ti_LT q 3) (ht : t = 3 ∨ t = 4) (hT : tT M q 0 = some t) : ti_Kv l yX3_levy cX3_levy 6 2 ti_LT D A cy M [.ref (A q 0)] (fun M2 => eo q M2 M ∧ cI Tc M2 ∧ M2.2.2.2 = M.2.2.2 ∧ tI M2 q 2 = tI M q 2 ∧ fX M2 M) := by
  refine ti_eV yp_X3_levy hJ ti_LT_nd (Nat.le_of_ble_eq_true rfl) ?_
  intro p e s m args below meth c Q H0 C hQ hw ls hl
  have hx := C.1
  have hb := C.2.1
  have hl : lv_has ls 6 [(0, .ref (A q 0))] := hl
  refine lv_aload_n hx hb dX3_levy_0 rfl (lv_at hl 0 rfl) ?_
  refine lv_aload_n hx hb dX3_levy_1 rfl (lv_at hl 0 rfl) ?_
  refine ti_get (ci := 3) (k := 7) (N := 17) (T := TX3) (v := .ref (A q 8)) C hw iw_3 rfl hq (by decide) (by decide) fl_X3_15 rfl rfl dX3_levy_2 ?_
  refine lv_iconst (v := 2) hx hb dX3_levy_5 (by decide) ?_
  refine ti_iald (ci := 3) (k := 7) (n := 3) C hw hq (by decide) (fun _ _ => rfl) (by unfold vp_in; decide) dX3_levy_6 ?_
  refine lv_topi (fun x_1 ex_1 => ?_)
  refine ti_callVi (ci := 3) (av := [.int x_1]) C hw (s_X3_manAt l D A cy hJ M hI q hq x_1) ⟨ml_X3_99, ym_X3_manAt, yv_X3_manAt, yi_X3_manAt, yc_X3_manAt⟩ yd_X3_manAt hq (by decide) rfl rfl hl.1 (Nat.le_of_ble_eq_true rfl) ⟨by decide, by decide⟩ ⟨Nat.zero_le _, Nat.zero_le _⟩ dX3_levy_7 (fun r_2 M_3 H locs hp_3 hw => ?_)
  obtain ⟨hm, b0r_2, b1r_2, p0r_2⟩ := hp_3
  have hw := hw.to hm
  refine lv_istore_n (lv' := [(1, .int r_2), (0, .ref (A q 0))]) hx hb dX3_levy_10 rfl hl (by decide) rfl (fun ls hl => ?_)
  refine lv_aload_n hx hb dX3_levy_11 rfl (lv_at hl 1 rfl) ?_
  refine lv_iconst (v := 4) hx hb dX3_levy_12 (by decide) ?_
  refine ti_callVi (ci := 3) (av := [.int 4]) C hw (s_X3_is l D A cy hJ M hI q hq 4) ⟨ml_X3_182, ym_X3_is, yv_X3_is, yi_X3_is, yc_X3_is⟩ yd_X3_is hq (by decide) rfl rfl hl.1 (Nat.le_of_ble_eq_true rfl) ⟨by decide, by decide⟩ ⟨Nat.zero_le _, Nat.zero_le _⟩ dX3_levy_13 (fun r_4 M_5 H locs hp_5 hw => ?_)
  have hm := hp_5
  have hw := hw.to hm
  refine sb_if_ne (tgt := 49) hx hb rfl dX3_levy_16 (by decide) (fun c_16_5 => ?_) (fun c_16_5 => ?_)
  · exact hQ _ _ _ _ _ hw (⟨eo.refl, hI, rfl, rfl, fX.refl⟩) dX3_levy_49
  · refine lv_iload_n hx hb dX3_levy_19 rfl (lv_at hl 0 rfl) ?_
    refine sb_if_lt (tgt := 49) hx hb rfl dX3_levy_20 (by decide) (fun c_20_6 => ?_) (fun c_20_6 => ?_)
    · exact hQ _ _ _ _ _ hw (⟨eo.refl, hI, rfl, rfl, fX.refl⟩) dX3_levy_49
    · refine lv_aload_n hx hb dX3_levy_23 rfl (lv_at hl 1 rfl) ?_
      refine ti_get (ci := 3) (k := 0) (N := 17) (T := TX3) (v := .ref (A t 0)) C hw iw_3 rfl hq (by decide) (by decide) fl_X3_45 rfl (ti_Tv (hT)) dX3_levy_24 ?_
      refine ti_get (ci := 8) (k := 8) (N := 12) (T := TX8) C hw iw_8 rfl (ob_t ht) (by decide) (by decide) fl_X3_206 rfl rfl dX3_levy_27 ?_
      refine lv_topi (fun x_8 ex_8 => ?_)
      refine lv_iconst (v := 1) hx hb dX3_levy_30 (by decide) ?_
      refine sb_icmp_lt (tgt := 49) hx hb rfl (by decide : (1 : Int32).toInt = 1) dX3_levy_31 (by decide) (fun c_31_8 => ?_) (fun c_31_8 => ?_)
      · exact hQ _ _ _ _ _ hw (⟨eo.refl, hI, rfl, rfl, fX.refl⟩) dX3_levy_49
      · refine lv_aload_n hx hb dX3_levy_34 rfl (lv_at hl 1 rfl) ?_
        refine ti_get (ci := 3) (k := 2) (N := 17) (T := TX3) C hw iw_3 rfl hq (by decide) (by decide) fl_X3_53 rfl rfl dX3_levy_35 ?_
        refine lv_topi (fun x_10 ex_10 => ?_)
        refine lv_aload_n hx hb dX3_levy_38 rfl (lv_at hl 1 rfl) ?_
        refine ti_get (ci := 3) (k := 0) (N := 17) (T := TX3) (v := .ref (A t 0)) C hw iw_3 rfl hq (by decide) (by decide) fl_X3_45 rfl (ti_Tv (hT)) dX3_levy_39 ?_
        refine ti_get (ci := 8) (k := 8) (N := 12) (T := TX8) C hw iw_8 rfl (ob_t ht) (by decide) (by decide) fl_X3_206 rfl rfl dX3_levy_42 ?_
        refine ti_top (y := x_8) (ex_8.symm) ?_
        refine lv_irem hx hb dX3_levy_45 (nz (by omega)) ?_
        refine lv_topi (fun x_11 ex_11 => ?_)
        refine sb_if_eq (tgt := 50) hx hb rfl dX3_levy_46 (by decide) (fun c_46_11 => ?_) (fun c_46_11 => ?_)
        · refine lv_iconst (v := 0) hx hb dX3_levy_50 (by decide) ?_
          refine lv_istore_n (lv' := [(2, .int 0), (1, .int r_2), (0, .ref (A q 0))]) hx hb dX3_levy_51 rfl hl (by decide) rfl (fun ls hl => ?_)
          have hl_52_20 : ∀ (n_21 : Nat) (x_13 : Int32) (M_16 : ti_M) (H : Heap) (locs : List Loc) (ls : Array Slot), (8 - x_13.toInt : Int).toNat < n_21 → (0 ≤ x_13.toInt) → (x_13.toInt ≤ 8) → (cI Tc M_16) → (M_16.2.2.2 = M.2.2.2) → (tI M_16 q 2 = tI M q 2) → (fX M_16 M) → (eo q M_16 M) → ti_H ti_LT D A cy H0 M_16 H locs → lv_has ls 6 [(2, .int x_13), (1, .int r_2), (0, .ref (A q 0))] → W p l e (ti_rm 2) s m args below meth c H locs 0 0 Q (F0 m 52 ls []) := by
            intro n_21
            induction n_21 with
            | zero => intro x_13 M_16 H locs ls hf_21; exact absurd hf_21 (Nat.not_lt_zero _)
            | succ n_21 ih_21 =>
              intro x_13 M_16 H locs ls hf_21 b_14 b_15 iM_16 f_17 f_18 f_19 f_20 hw hl
              refine lv_iload_n hx hb dX3_levy_52 rfl (lv_at hl 0 rfl) ?_
              refine lv_aload_n hx hb dX3_levy_53 rfl (lv_at hl 2 rfl) ?_
              refine ti_get (ci := 3) (k := 3) (N := 17) (T := TX3) C hw iw_3 rfl hq (by decide) (by decide) fl_X3_56 rfl rfl dX3_levy_54 ?_
              refine lv_topi (fun x_22 ex_22 => ?_)
              have bx_22 : 0 ≤ x_22.toInt ∧ x_22.toInt ≤ 8 := cI_rd iM_16 hq.1 ex_22
              have ux_22 : (tI M_16 q 3).toInt = x_22.toInt := by rw [ex_22]
              refine sb_icmp_ge (tgt := 137) hx hb rfl rfl dX3_levy_57 (by decide) (fun c_57_22 => ?_) (fun c_57_22 => ?_)
              · exact hQ _ _ _ _ _ hw (⟨f_20, iM_16, (f_17), (f_18), f_19⟩) dX3_levy_137
              · refine lv_aload_n hx hb dX3_levy_60 rfl (lv_at hl 2 rfl) ?_
                refine ti_get (ci := 3) (k := 6) (N := 17) (T := TX3) (v := .ref (A q 7)) C hw iw_3 rfl hq (by decide) (by decide) fl_X3_9 rfl rfl dX3_levy_61 ?_
                refine lv_iload_n hx hb dX3_levy_64 rfl (lv_at hl 0 rfl) ?_
                refine ti_iald (ci := 3) (k := 6) (n := 8) C hw hq (by decide) (fun _ _ => rfl) (vp_in_iff.mpr (by omega)) dX3_levy_65 ?_
                refine lv_topi (fun x_24 ex_24 => ?_)
                have bx_24 : 0 ≤ x_24.toInt ∧ x_24.toInt ≤ 7 := cI_ry iM_16 hq.1 ex_24
                refine lv_istore_n (lv' := [(3, .int x_24), (2, .int x_13), (1, .int r_2), (0, .ref (A q 0))]) hx hb dX3_levy_66 rfl hl (by decide) rfl (fun ls hl => ?_)
                refine lv_iload_n hx hb dX3_levy_67 rfl (lv_at hl 0 rfl) ?_
                refine lv_iload_n hx hb dX3_levy_68 rfl (lv_at hl 2 rfl) ?_
                have hj_131_45 : ∀ (M_41 : ti_M) (H : Heap) (locs : List Loc) (ls : Array Slot), (cI Tc M_41) → (M_41.2.2.2 = M.2.2.2) → (tI M_41 q 2 = tI M q 2) → (fX M_41 M) → (eo q M_41 M) → ti_H ti_LT D A cy H0 M_41 H locs → lv_has ls 6 [(3, .int x_24), (2, .int x_13), (1, .int r_2), (0, .ref (A q 0))] → W p l e (ti_rm 2) s m args below meth c H locs 0 0 Q (F0 m 131 ls []) := by
                  intro M_41 H locs ls iM_41 f_42 f_43 f_44 f_45 hw hl
                  obtain ⟨x_46, ex_46⟩ : ∃ z : Int32, z = x_13 + 1 := ⟨_, rfl⟩
                  have tx_46 : x_46.toInt = x_13.toInt + 1 := i_add ex_46 rfl (by decide) (by omega) (by omega)
                  refine lv_iinc (v := x_46) (lv' := [(2, .int x_46), (3, .int x_24), (1, .int r_2), (0, .ref (A q 0))]) hx hb dX3_levy_131 hl (k := 1) rfl (by rw [ex_46]; rfl) (by decide) rfl (fun ls hl => ?_)
                  refine lv_goto (tgt := 52) hx hb dX3_levy_134 (by decide) ?_
                  exact ih_21 x_46 M_41 _ _ _ (by omega) (by first | omega | decide) (by first | omega | decide) iM_41 (f_42) (f_43) f_44 f_45 hw (lv_sub hl [0, 2, 3] rfl)
                refine sb_icmp_eq (tgt := 131) hx hb rfl rfl dX3_levy_69 (by decide) (fun c_69_24 => ?_) (fun c_69_24 => ?_)
                · exact hj_131_45 M_16 _ _ _ iM_16 (f_17) (f_18) f_19 f_20 hw (lv_sub hl [0, 1, 2, 3] rfl)
                · refine lv_aload_n hx hb dX3_levy_72 rfl (lv_at hl 3 rfl) ?_
                  refine ti_get (ci := 3) (k := 0) (N := 17) (T := TX3) (v := .ref (A t 0)) C hw iw_3 rfl hq (by decide) (by decide) fl_X3_45 rfl (ti_Tv ((tT_fr f_17).trans hT)) dX3_levy_73 ?_
                  refine ti_get (ci := 8) (k := 2) (N := 12) (T := TX8) (v := .ref (A t 3)) C hw iw_8 rfl (ob_t ht) (by decide) (by decide) fl_X3_119 rfl rfl dX3_levy_76 ?_
                  refine lv_iconst (v := 0) hx hb dX3_levy_79 (by decide) ?_
                  refine ti_aald (ci := 8) (k := 2) (n := 3) (t0 := 4) (Cn := RX1) (gg := (ti_laws t)) (j := 0) C hw (ob_t ht) (by decide) (fun _ _ => rfl) rfl (by unfold vp_in; decide) (by decide) dX3_levy_80 ?_
                  have ob_26 : ti_ob ti_LT (ti_laws t 0) 1 := ob_l ht (by decide)
                  refine lv_aload_n hx hb dX3_levy_81 rfl (lv_at hl 3 rfl) ?_
                  refine lv_iload_n hx hb dX3_levy_82 rfl (lv_at hl 1 rfl) ?_
                  refine lv_iload_n hx hb dX3_levy_83 rfl (lv_at hl 1 rfl) ?_
                  refine ti_callVl (ci := 1) (av := [.ref (A q 0), .int x_13, .int x_13]) C hw (f_X1_value l D A cy hJ M_16 iM_16 (ti_laws t 0) q t ob_26 hq ht ((tT_fr f_17).trans hT) x_13 x_13) ⟨ml_X3_123, ym_X1_value, yv_X1_value, yi_X1_value, yc_X1_value⟩ yd_X1_value ob_26 (by decide) rfl rfl hl.1 (Nat.le_of_ble_eq_true rfl) ⟨by decide, by decide⟩ ⟨Nat.zero_le _, Nat.zero_le _⟩ dX3_levy_84 (fun r_27 M_28 H locs hp_28 hw => ?_)
                  obtain ⟨frM_28a, frM_28b, hqM_28⟩ := hp_28
                  have frM_28 := And.intro frM_28a frM_28b
                  obtain ⟨iM_28, q_29, q_30⟩ := hqM_28
                  refine lv_iconst (v := 0) hx hb dX3_levy_87 (by decide) ?_
                  refine lv_bipush (v := 99) hx hb dX3_levy_88 (by decide) ?_
                  refine lv_iconst (v := 1) hx hb dX3_levy_90 (by decide) ?_
                  refine ti_callSi (av := [.long r_27, .int 0, .int 99, .int 1]) C hw (s_X3_put l D A cy hJ M_28 iM_28 r_27 0 99 1) ⟨ml_X3_127, ys_X3_put, yi_X3_put, yc_X3_put⟩ yd_X3_put rfl hl.1 (Nat.le_of_ble_eq_true rfl) ⟨by decide, by decide⟩ ⟨Nat.zero_le _, Nat.zero_le _⟩ dX3_levy_91 (fun r_31 M_32 H locs hp_32 hw => ?_)
                  have hm := hp_32
                  have hw := hw.to hm
                  refine lv_istore (lv' := [(4, .int r_31), (3, .int x_24), (2, .int x_13), (1, .int r_2), (0, .ref (A q 0))]) hx hb dX3_levy_94 hl (by decide) rfl (fun ls hl => ?_)
                  refine lv_iload hx hb dX3_levy_96 (lv_at hl 0 rfl) ?_
                  refine lv_aload_n hx hb dX3_levy_98 rfl (lv_at hl 4 rfl) ?_
                  refine ti_get (ci := 3) (k := 12) (N := 17) (T := TX3) (v := .ref (A q 13)) C hw iw_3 rfl hq (by decide) (by decide) fl_X3_30 rfl rfl dX3_levy_99 ?_
                  refine lv_iload_n hx hb dX3_levy_102 rfl (lv_at hl 1 rfl) ?_
                  refine ti_iald (ci := 3) (k := 12) (n := 8) C hw hq (by decide) (fun _ _ => rfl) (vp_in_iff.mpr (by omega)) dX3_levy_103 ?_
                  refine lv_topi (fun x_33 ex_33 => ?_)
                  refine ti_min C ml_X3_137 hl.1 (by decide) (Nat.le_of_ble_eq_true rfl) ⟨Nat.zero_le _, Nat.zero_le _⟩ dX3_levy_104 ?_
                  refine lv_topi (fun x_34 ex_34 => ?_)
                  have bx_34 := i_min ex_34 rfl rfl
                  refine lv_istore (lv' := [(5, .int x_34), (4, .int r_31), (3, .int x_24), (2, .int x_13), (1, .int r_2), (0, .ref (A q 0))]) hx hb dX3_levy_107 hl (by decide) rfl (fun ls hl => ?_)
                  refine lv_aload_n hx hb dX3_levy_109 rfl (lv_at hl 5 rfl) ?_
                  refine ti_get (ci := 3) (k := 12) (N := 17) (T := TX3) (v := .ref (A q 13)) C hw iw_3 rfl hq (by decide) (by decide) fl_X3_30 rfl rfl dX3_levy_110 ?_
                  refine lv_iload_n hx hb dX3_levy_113 rfl (lv_at hl 2 rfl) ?_
                  refine lv_dup2_11 hx hb dX3_levy_114 rfl rfl ?_
                  refine ti_iald (ci := 3) (k := 12) (n := 8) C hw hq (by decide) (fun _ _ => rfl) (vp_in_iff.mpr (by omega)) dX3_levy_115 ?_
                  refine lv_topi (fun x_35 ex_35 => ?_)
                  refine lv_iload hx hb dX3_levy_116 (lv_at hl 0 rfl) ?_
                  refine lv_isub hx hb dX3_levy_118 ?_
                  refine lv_topi (fun x_36 ex_36 => ?_)
                  refine ti_iast (ci := 3) (k := 12) (n := 8) C hw hq (by decide) (fun _ _ => rfl) (vp_in_iff.mpr (by omega)) dX3_levy_119 (fun H locs hw => ?_)
                  obtain ⟨M_37, hM_37⟩ : ∃ z : ti_M, z = uY M_28 q 12 (upd (tY M_28 q 12) (x_24 : Int32).toNatClampNeg x_36) := ⟨_, rfl⟩
                  have hw := hw.to hM_37.symm
                  have iM_37 : cI Tc M_37 := cI_up iM_28 hM_37 hq.1 trivial
                  refine lv_aload_n hx hb dX3_levy_120 rfl (lv_at hl 5 rfl) ?_
                  refine ti_get (ci := 3) (k := 12) (N := 17) (T := TX3) (v := .ref (A q 13)) C hw iw_3 rfl hq (by decide) (by decide) fl_X3_30 rfl rfl dX3_levy_121 ?_
                  refine lv_iload_n hx hb dX3_levy_124 rfl (lv_at hl 4 rfl) ?_
                  refine lv_dup2_11 hx hb dX3_levy_125 rfl rfl ?_
                  refine ti_iald (ci := 3) (k := 12) (n := 8) C hw hq (by decide) (fun _ _ => rfl) (vp_in_iff.mpr (by omega)) dX3_levy_126 ?_
                  refine lv_topi (fun x_38 ex_38 => ?_)
                  refine lv_iload hx hb dX3_levy_127 (lv_at hl 0 rfl) ?_
                  refine lv_iadd hx hb dX3_levy_129 ?_
                  refine lv_topi (fun x_39 ex_39 => ?_)
                  refine ti_iast (ci := 3) (k := 12) (n := 8) C hw hq (by decide) (fun _ _ => rfl) (vp_in_iff.mpr (by omega)) dX3_levy_130 (fun H locs hw => ?_)
                  obtain ⟨M_40, hM_40⟩ : ∃ z : ti_M, z = uY M_37 q 12 (upd (tY M_37 q 12) (r_2 : Int32).toNatClampNeg x_39) := ⟨_, rfl⟩
                  have hw := hw.to hM_40.symm
                  have iM_40 : cI Tc M_40 := cI_up iM_37 hM_40 hq.1 trivial
                  exact hj_131_45 M_40 _ _ _ iM_40 ((rf_Y hM_40).trans ((rf_Y hM_37).trans ((q_29).trans f_17))) ((tI_uYE hM_40).trans ((tI_uYE hM_37).trans ((tI_fr q_30).trans f_18))) (fX.trans (fx_of (ra_Y hM_40)) (fX.trans (fx_of (ra_Y hM_37)) (fX.trans (fx_of q_30) f_19))) (eo.trans (eo_Y hM_40) (eo.trans (eo_Y hM_37) (eo.trans (eo_of frM_28.1 frM_28.2) f_20))) hw (lv_sub hl [2, 3, 4, 5] rfl)
          exact hl_52_20 ((8 - 0 : Int).toNat + 1) 0 M _ _ _ (Nat.lt_succ_self _) (by have lt0 : (0 : Int32).toInt = 0 := (by decide); first | omega | decide) (by have lt0 : (0 : Int32).toInt = 0 := (by decide); first | omega | decide) hI rfl rfl fX.refl eo.refl hw (lv_sub hl [0, 1, 2] rfl)
        · exact hQ _ _ _ _ _ hw (⟨eo.refl, hI, rfl, rfl, fX.refl⟩) dX3_levy_49
set_option maxHeartbeats 4000000 in
set_option maxRecDepth 100000 in
theorem f_X3_wear (l : Launch) (D : va_G) (A : Nat → Nat → Nat) (cy : Nat → ClassId) (hJ : ti_inj ti_LT A) (M : ti_M) (hI : cI Tc M) (q t : Nat) (hq : ti_ob ti_LT q 3) (ht : t = 3 ∨ t = 4) (hT : tT M q 0 = some t) : ti_Kv l yX3_wear cX3_wear 3 2 ti_LT D A cy M [.ref (A q 0)] (fun M2 => eo q M2 M ∧ cI Tc M2 ∧ M2.2.2.2 = M.2.2.2 ∧ tI M2 q 2 = tI M q 2 ∧ fX M2 M) := by
  refine ti_eV yp_X3_wear hJ ti_LT_nd (Nat.le_of_ble_eq_true rfl) ?_
  intro p e s m args below meth c Q H0 C hQ hw ls hl
  have hx := C.1
  have hb := C.2.1
  have hl : lv_has ls 3 [(0, .ref (A q 0))] := hl
  refine lv_iconst (v := 0) hx hb dX3_wear_0 (by decide) ?_
  refine lv_istore_n (lv' := [(1, .int 0), (0, .ref (A q 0))]) hx hb dX3_wear_1 rfl hl (by decide) rfl (fun ls hl => ?_)
  have hl_2_8 : ∀ (n_9 : Nat) (x_1 : Int32) (M_4 : ti_M) (H : Heap) (locs : List Loc) (ls : Array Slot), (8 - x_1.toInt : Int).toNat < n_9 → (0 ≤ x_1.toInt) → (x_1.toInt ≤ 8) → (cI Tc M_4) → (M_4.2.2.2 = M.2.2.2) → (tI M_4 q 2 = tI M q 2) → (fX M_4 M) → (eo q M_4 M) → ti_H ti_LT D A cy H0 M_4 H locs → lv_has ls 3 [(1, .int x_1), (0, .ref (A q 0))] → W p l e (ti_rm 2) s m args below meth c H locs 0 0 Q (F0 m 2 ls []) := by
    intro n_9
    induction n_9 with
    | zero => intro x_1 M_4 H locs ls hf_9; exact absurd hf_9 (Nat.not_lt_zero _)
    | succ n_9 ih_9 =>
      intro x_1 M_4 H locs ls hf_9 b_2 b_3 iM_4 f_5 f_6 f_7 f_8 hw hl
      refine lv_iload_n hx hb dX3_wear_2 rfl (lv_at hl 0 rfl) ?_
      refine lv_aload_n hx hb dX3_wear_3 rfl (lv_at hl 1 rfl) ?_
      refine ti_get (ci := 3) (k := 3) (N := 17) (T := TX3) C hw iw_3 rfl hq (by decide) (by decide) fl_X3_56 rfl rfl dX3_wear_4 ?_
      refine lv_topi (fun x_10 ex_10 => ?_)
      have bx_10 : 0 ≤ x_10.toInt ∧ x_10.toInt ≤ 8 := cI_rd iM_4 hq.1 ex_10
      have ux_10 : (tI M_4 q 3).toInt = x_10.toInt := by rw [ex_10]
      refine sb_icmp_ge (tgt := 80) hx hb rfl rfl dX3_wear_7 (by decide) (fun c_7_10 => ?_) (fun c_7_10 => ?_)
      · exact hQ _ _ _ _ _ hw (⟨f_8, iM_4, (f_5), (f_6), f_7⟩) dX3_wear_80
      · refine lv_aload_n hx hb dX3_wear_10 rfl (lv_at hl 1 rfl) ?_
        refine ti_get (ci := 3) (k := 6) (N := 17) (T := TX3) (v := .ref (A q 7)) C hw iw_3 rfl hq (by decide) (by decide) fl_X3_9 rfl rfl dX3_wear_11 ?_
        refine lv_iload_n hx hb dX3_wear_14 rfl (lv_at hl 0 rfl) ?_
        refine ti_iald (ci := 3) (k := 6) (n := 8) C hw hq (by decide) (fun _ _ => rfl) (vp_in_iff.mpr (by omega)) dX3_wear_15 ?_
        refine lv_topi (fun x_12 ex_12 => ?_)
        have bx_12 : 0 ≤ x_12.toInt ∧ x_12.toInt ≤ 7 := cI_ry iM_4 hq.1 ex_12
        refine lv_istore_n (lv' := [(2, .int x_12), (1, .int x_1), (0, .ref (A q 0))]) hx hb dX3_wear_16 rfl hl (by decide) rfl (fun ls hl => ?_)
        refine lv_aload_n hx hb dX3_wear_17 rfl (lv_at hl 2 rfl) ?_
        refine ti_get (ci := 3) (k := 15) (N := 17) (T := TX3) (v := .ref (A q 16)) C hw iw_3 rfl hq (by decide) (by decide) fl_X3_39 rfl rfl dX3_wear_18 ?_
        refine lv_iload_n hx hb dX3_wear_21 rfl (lv_at hl 0 rfl) ?_
        refine ti_iald (ci := 3) (k := 15) (n := 8) C hw hq (by decide) (fun _ _ => rfl) (vp_in_iff.mpr (by omega)) dX3_wear_22 ?_
        refine lv_topi (fun x_13 ex_13 => ?_)
        have hj_74_33 : ∀ (M_29 : ti_M) (H : Heap) (locs : List Loc) (ls : Array Slot), (cI Tc M_29) → (M_29.2.2.2 = M.2.2.2) → (tI M_29 q 2 = tI M q 2) → (fX M_29 M) → (eo q M_29 M) → ti_H ti_LT D A cy H0 M_29 H locs → lv_has ls 3 [(2, .int x_12), (1, .int x_1), (0, .ref (A q 0))] → W p l e (ti_rm 2) s m args below meth c H locs 0 0 Q (F0 m 74 ls []) := by
          intro M_29 H locs ls iM_29 f_30 f_31 f_32 f_33 hw hl
          obtain ⟨x_34, ex_34⟩ : ∃ z : Int32, z = x_1 + 1 := ⟨_, rfl⟩
          have tx_34 : x_34.toInt = x_1.toInt + 1 := i_add ex_34 rfl (by decide) (by omega) (by omega)
          refine lv_iinc (v := x_34) (lv' := [(1, .int x_34), (2, .int x_12), (0, .ref (A q 0))]) hx hb dX3_wear_74 hl (k := 1) rfl (by rw [ex_34]; rfl) (by decide) rfl (fun ls hl => ?_)
          refine lv_goto (tgt := 2) hx hb dX3_wear_77 (by decide) ?_
          exact ih_9 x_34 M_29 _ _ _ (by omega) (by first | omega | decide) (by first | omega | decide) iM_29 (f_30) (f_31) f_32 f_33 hw (lv_sub hl [0, 2] rfl)
        refine sb_if_le (tgt := 39) hx hb rfl dX3_wear_23 (by decide) (fun c_23_13 => ?_) (fun c_23_13 => ?_)
        · refine lv_iload_n hx hb dX3_wear_39 rfl (lv_at hl 1 rfl) ?_
          refine sb_if_le (tgt := 74) hx hb rfl dX3_wear_40 (by decide) (fun c_40_17 => ?_) (fun c_40_17 => ?_)
          · exact hj_74_33 M_4 _ _ _ iM_4 (f_5) (f_6) f_7 f_8 hw (lv_sub hl [0, 1, 2] rfl)
          · refine lv_aload_n hx hb dX3_wear_43 rfl (lv_at hl 2 rfl) ?_
            refine ti_get (ci := 3) (k := 10) (N := 17) (T := TX3) (v := .ref (A q 11)) C hw iw_3 rfl hq (by decide) (by decide) fl_X3_24 rfl rfl dX3_wear_44 ?_
            refine lv_iload_n hx hb dX3_wear_47 rfl (lv_at hl 0 rfl) ?_
            refine lv_dup2_11 hx hb dX3_wear_48 rfl rfl ?_
            refine ti_iald (ci := 3) (k := 10) (n := 8) C hw hq (by decide) (fun _ _ => rfl) (vp_in_iff.mpr (by omega)) dX3_wear_49 ?_
            refine lv_topi (fun x_19 ex_19 => ?_)
            refine lv_aload_n hx hb dX3_wear_50 rfl (lv_at hl 2 rfl) ?_
            refine ti_get (ci := 3) (k := 0) (N := 17) (T := TX3) (v := .ref (A t 0)) C hw iw_3 rfl hq (by decide) (by decide) fl_X3_45 rfl (ti_Tv ((tT_fr f_5).trans hT)) dX3_wear_51 ?_
            refine ti_get (ci := 8) (k := 2) (N := 12) (T := TX8) (v := .ref (A t 3)) C hw iw_8 rfl (ob_t ht) (by decide) (by decide) fl_X3_119 rfl rfl dX3_wear_54 ?_
            refine lv_iconst (v := 1) hx hb dX3_wear_57 (by decide) ?_
            refine ti_aald (ci := 8) (k := 2) (n := 3) (t0 := 4) (Cn := RX1) (gg := (ti_laws t)) (j := 1) C hw (ob_t ht) (by decide) (fun _ _ => rfl) rfl (by unfold vp_in; decide) (by decide) dX3_wear_58 ?_
            have ob_20 : ti_ob ti_LT (ti_laws t 1) 1 := ob_l ht (by decide)
            refine lv_aload_n hx hb dX3_wear_59 rfl (lv_at hl 2 rfl) ?_
            refine lv_iload_n hx hb dX3_wear_60 rfl (lv_at hl 1 rfl) ?_
            refine lv_iload_n hx hb dX3_wear_61 rfl (lv_at hl 1 rfl) ?_
            refine ti_callVl (ci := 1) (av := [.ref (A q 0), .int x_1, .int x_1]) C hw (f_X1_value l D A cy hJ M_4 iM_4 (ti_laws t 1) q t ob_20 hq ht ((tT_fr f_5).trans hT) x_1 x_1) ⟨ml_X3_123, ym_X1_value, yv_X1_value, yi_X1_value, yc_X1_value⟩ yd_X1_value ob_20 (by decide) rfl rfl hl.1 (Nat.le_of_ble_eq_true rfl) ⟨by decide, by decide⟩ ⟨Nat.zero_le _, Nat.zero_le _⟩ dX3_wear_62 (fun r_21 M_22 H locs hp_22 hw => ?_)
            obtain ⟨frM_22a, frM_22b, hqM_22⟩ := hp_22
            have frM_22 := And.intro frM_22a frM_22b
            obtain ⟨iM_22, q_23, q_24⟩ := hqM_22
            refine lv_iconst (v := 0) hx hb dX3_wear_65 (by decide) ?_
            refine lv_bipush (v := 9) hx hb dX3_wear_66 (by decide) ?_
            refine lv_iconst (v := 1) hx hb dX3_wear_68 (by decide) ?_
            refine ti_callSi (av := [.long r_21, .int 0, .int 9, .int 1]) C hw (s_X3_put l D A cy hJ M_22 iM_22 r_21 0 9 1) ⟨ml_X3_127, ys_X3_put, yi_X3_put, yc_X3_put⟩ yd_X3_put rfl hl.1 (Nat.le_of_ble_eq_true rfl) ⟨by decide, by decide⟩ ⟨Nat.zero_le _, Nat.zero_le _⟩ dX3_wear_69 (fun r_25 M_26 H locs hp_26 hw => ?_)
            have hm := hp_26
            have hw := hw.to hm
            refine lv_isub hx hb dX3_wear_72 ?_
            refine lv_topi (fun x_27 ex_27 => ?_)
            refine ti_iast (ci := 3) (k := 10) (n := 8) C hw hq (by decide) (fun _ _ => rfl) (vp_in_iff.mpr (by omega)) dX3_wear_73 (fun H locs hw => ?_)
            obtain ⟨M_28, hM_28⟩ : ∃ z : ti_M, z = uY M_22 q 10 (upd (tY M_22 q 10) (x_12 : Int32).toNatClampNeg x_27) := ⟨_, rfl⟩
            have hw := hw.to hM_28.symm
            have iM_28 : cI Tc M_28 := cI_up iM_22 hM_28 hq.1 trivial
            exact hj_74_33 M_28 _ _ _ iM_28 ((rf_Y hM_28).trans ((q_23).trans f_5)) ((tI_uYE hM_28).trans ((tI_fr q_24).trans f_6)) (fX.trans (fx_of (ra_Y hM_28)) (fX.trans (fx_of q_24) f_7)) (eo.trans (eo_Y hM_28) (eo.trans (eo_of frM_22.1 frM_22.2) f_8)) hw (lv_sub hl [0, 1, 2] rfl)
        · refine lv_aload_n hx hb dX3_wear_26 rfl (lv_at hl 2 rfl) ?_
          refine ti_get (ci := 3) (k := 15) (N := 17) (T := TX3) (v := .ref (A q 16)) C hw iw_3 rfl hq (by decide) (by decide) fl_X3_39 rfl rfl dX3_wear_27 ?_
          refine lv_iload_n hx hb dX3_wear_30 rfl (lv_at hl 0 rfl) ?_
          refine lv_dup2_11 hx hb dX3_wear_31 rfl rfl ?_
          refine ti_iald (ci := 3) (k := 15) (n := 8) C hw hq (by decide) (fun _ _ => rfl) (vp_in_iff.mpr (by omega)) dX3_wear_32 ?_
          refine lv_topi (fun x_15 ex_15 => ?_)
          refine lv_iconst (v := 1) hx hb dX3_wear_33 (by decide) ?_
          refine lv_isub hx hb dX3_wear_34 ?_
          refine lv_topi (fun x_16 ex_16 => ?_)
          refine ti_iast (ci := 3) (k := 15) (n := 8) C hw hq (by decide) (fun _ _ => rfl) (vp_in_iff.mpr (by omega)) dX3_wear_35 (fun H locs hw => ?_)
          obtain ⟨M_17, hM_17⟩ : ∃ z : ti_M, z = uY M_4 q 15 (upd (tY M_4 q 15) (x_12 : Int32).toNatClampNeg x_16) := ⟨_, rfl⟩
          have hw := hw.to hM_17.symm
          have iM_17 : cI Tc M_17 := cI_up iM_4 hM_17 hq.1 trivial
          refine lv_goto (tgt := 74) hx hb dX3_wear_36 (by decide) ?_
          exact hj_74_33 M_17 _ _ _ iM_17 ((rf_Y hM_17).trans f_5) ((tI_uYE hM_17).trans f_6) (fX.trans (fx_of (ra_Y hM_17)) f_7) (eo.trans (eo_Y hM_17) f_8) hw (lv_sub hl [0, 1, 2] rfl)
  exact hl_2_8 ((8 - 0 : Int).toNat + 1) 0 M _ _ _ (Nat.lt_succ_self _) (by have lt0 : (0 : Int32).toInt = 0 := (by decide); first | omega | decide) (by have lt0 : (0 : Int32).toInt = 0 := (by decide); first | omega | decide) hI rfl rfl fX.refl eo.refl hw (lv_sub hl [0, 1] rfl)
set_option maxHeartbeats 4000000 in
set_option maxRecDepth 100000 in
theorem f_X3_release (l : Launch) (D : va_G) (A : Nat → Nat → Nat) (cy : Nat → ClassId) (hJ : ti_inj ti_LT A) (M : ti_M) (hI : cI Tc M) (q t : Nat) (hq : ti_ob ti_LT q 3) (ht : t = 3 ∨ t = 4) (hT : tT M q 0 = some t) : ti_Kv l yX3_release cX3_release 2 2 ti_LT D A cy M [.ref (A q 0)] (fun M2 => eo q M2 M ∧ cI Tc M2 ∧ M2.2.2.2 = M.2.2.2 ∧ tI M2 q 2 = tI M q 2 ∧ fX M2 M) := by
  refine ti_eV yp_X3_release hJ ti_LT_nd (Nat.le_of_ble_eq_true rfl) ?_
  intro p e s m args below meth c Q H0 C hQ hw ls hl
  have hx := C.1
  have hb := C.2.1
  have hl : lv_has ls 2 [(0, .ref (A q 0))] := hl
  refine lv_aload_n hx hb dX3_release_0 rfl (lv_at hl 0 rfl) ?_
  refine ti_get (ci := 3) (k := 3) (N := 17) (T := TX3) C hw iw_3 rfl hq (by decide) (by decide) fl_X3_56 rfl rfl dX3_release_1 ?_
  refine lv_topi (fun x_1 ex_1 => ?_)
  have bx_1 : 0 ≤ x_1.toInt ∧ x_1.toInt ≤ 8 := cI_rd hI hq.1 ex_1
  have ux_1 : (tI M q 3).toInt = x_1.toInt := by rw [ex_1]
  have hj_44_18 : ∀ (M_14 : ti_M) (H : Heap) (locs : List Loc) (ls : Array Slot), (cI Tc M_14) → (M_14.2.2.2 = M.2.2.2) → (tI M_14 q 2 = tI M q 2) → (fX M_14 M) → (eo q M_14 M) → ti_H ti_LT D A cy H0 M_14 H locs → lv_has ls 2 [(0, .ref (A q 0))] → W p l e (ti_rm 2) s m args below meth c H locs 0 0 Q (F0 m 44 ls []) := by
    intro M_14 H locs ls iM_14 f_15 f_16 f_17 f_18 hw hl
    refine lv_aload_n hx hb dX3_release_44 rfl (lv_at hl 0 rfl) ?_
    refine lv_bipush (v := 8) hx hb dX3_release_45 (by decide) ?_
    refine ti_callVi (ci := 3) (av := [.int 8]) C hw (s_X3_is l D A cy hJ M_14 iM_14 q hq 8) ⟨ml_X3_182, ym_X3_is, yv_X3_is, yi_X3_is, yc_X3_is⟩ yd_X3_is hq (by decide) rfl rfl hl.1 (Nat.le_of_ble_eq_true rfl) ⟨by decide, by decide⟩ ⟨Nat.zero_le _, Nat.zero_le _⟩ dX3_release_47 (fun r_19 M_20 H locs hp_20 hw => ?_)
    have hm := hp_20
    have hw := hw.to hm
    refine sb_if_eq (tgt := 54) hx hb rfl dX3_release_50 (by decide) (fun c_50_20 => ?_) (fun c_50_20 => ?_)
    · refine lv_aload_n hx hb dX3_release_54 rfl (lv_at hl 0 rfl) ?_
      refine ti_get (ci := 3) (k := 3) (N := 17) (T := TX3) C hw iw_3 rfl hq (by decide) (by decide) fl_X3_56 rfl rfl dX3_release_55 ?_
      refine lv_topi (fun x_22 ex_22 => ?_)
      have bx_22 : 0 ≤ x_22.toInt ∧ x_22.toInt ≤ 8 := cI_rd iM_14 hq.1 ex_22
      have ux_22 : (tI M_14 q 3).toInt = x_22.toInt := by rw [ex_22]
      refine lv_iconst (v := 1) hx hb dX3_release_58 (by decide) ?_
      refine lv_isub hx hb dX3_release_59 ?_
      refine lv_topi (fun x_23 ex_23 => ?_)
      have tx_23 : x_23.toInt = x_22.toInt - 1 := i_sub ex_23 rfl (by decide : (1 : Int32).toInt = 1) (by omega) (by omega)
      refine lv_istore_n (lv' := [(1, .int x_23), (0, .ref (A q 0))]) hx hb dX3_release_60 rfl hl (by decide) rfl (fun ls hl => ?_)
      have hl_61_31 : ∀ (n_32 : Nat) (x_24 : Int32) (M_27 : ti_M) (H : Heap) (locs : List Loc) (ls : Array Slot), (x_24.toInt : Int).toNat < n_32 → ((-1) ≤ x_24.toInt) → (x_24.toInt ≤ 7) → (cI Tc M_27) → (M_27.2.2.2 = M.2.2.2) → (tI M_27 q 2 = tI M q 2) → (fX M_27 M) → (eo q M_27 M) → ti_H ti_LT D A cy H0 M_27 H locs → lv_has ls 2 [(1, .int x_24), (0, .ref (A q 0))] → W p l e (ti_rm 2) s m args below meth c H locs 0 0 Q (F0 m 61 ls []) := by
        intro n_32
        induction n_32 with
        | zero => intro x_24 M_27 H locs ls hf_32; exact absurd hf_32 (Nat.not_lt_zero _)
        | succ n_32 ih_32 =>
          intro x_24 M_27 H locs ls hf_32 b_25 b_26 iM_27 f_28 f_29 f_30 f_31 hw hl
          refine lv_iload_n hx hb dX3_release_61 rfl (lv_at hl 0 rfl) ?_
          refine sb_if_le (tgt := 91) hx hb rfl dX3_release_62 (by decide) (fun c_62_32 => ?_) (fun c_62_32 => ?_)
          · exact hQ _ _ _ _ _ hw (⟨f_31, iM_27, (f_28), (f_29), f_30⟩) dX3_release_91
          · refine lv_aload_n hx hb dX3_release_65 rfl (lv_at hl 1 rfl) ?_
            refine ti_get (ci := 3) (k := 10) (N := 17) (T := TX3) (v := .ref (A q 11)) C hw iw_3 rfl hq (by decide) (by decide) fl_X3_24 rfl rfl dX3_release_66 ?_
            refine lv_aload_n hx hb dX3_release_69 rfl (lv_at hl 1 rfl) ?_
            refine ti_get (ci := 3) (k := 6) (N := 17) (T := TX3) (v := .ref (A q 7)) C hw iw_3 rfl hq (by decide) (by decide) fl_X3_9 rfl rfl dX3_release_70 ?_
            refine lv_iload_n hx hb dX3_release_73 rfl (lv_at hl 0 rfl) ?_
            refine ti_iald (ci := 3) (k := 6) (n := 8) C hw hq (by decide) (fun _ _ => rfl) (vp_in_iff.mpr (by omega)) dX3_release_74 ?_
            refine lv_topi (fun x_34 ex_34 => ?_)
            have bx_34 : 0 ≤ x_34.toInt ∧ x_34.toInt ≤ 7 := cI_ry iM_27 hq.1 ex_34
            refine ti_iald (ci := 3) (k := 10) (n := 8) C hw hq (by decide) (fun _ _ => rfl) (vp_in_iff.mpr (by omega)) dX3_release_75 ?_
            refine lv_topi (fun x_35 ex_35 => ?_)
            have hj_85_46 : ∀ (M_42 : ti_M) (H : Heap) (locs : List Loc) (ls : Array Slot), (cI Tc M_42) → (M_42.2.2.2 = M.2.2.2) → (tI M_42 q 2 = tI M q 2) → (fX M_42 M) → (eo q M_42 M) → ti_H ti_LT D A cy H0 M_42 H locs → lv_has ls 2 [(1, .int x_24), (0, .ref (A q 0))] → W p l e (ti_rm 2) s m args below meth c H locs 0 0 Q (F0 m 85 ls []) := by
              intro M_42 H locs ls iM_42 f_43 f_44 f_45 f_46 hw hl
              obtain ⟨x_47, ex_47⟩ : ∃ z : Int32, z = x_24 + (-1) := ⟨_, rfl⟩
              have tx_47 : x_47.toInt = x_24.toInt + (-1) := i_add ex_47 rfl (by decide) (by omega) (by omega)
              refine lv_iinc (v := x_47) (lv' := [(1, .int x_47), (0, .ref (A q 0))]) hx hb dX3_release_85 hl (k := 0) rfl (by rw [ex_47]; rfl) (by decide) rfl (fun ls hl => ?_)
              refine lv_goto (tgt := 61) hx hb dX3_release_88 (by decide) ?_
              exact ih_32 x_47 M_42 _ _ _ (by omega) (by first | omega | decide) (by first | omega | decide) iM_42 (f_43) (f_44) f_45 f_46 hw (lv_sub hl [0, 1] rfl)
            refine sb_if_gt (tgt := 85) hx hb rfl dX3_release_76 (by decide) (fun c_76_35 => ?_) (fun c_76_35 => ?_)
            · exact hj_85_46 M_27 _ _ _ iM_27 (f_28) (f_29) f_30 f_31 hw (lv_sub hl [0, 1] rfl)
            · refine lv_aload_n hx hb dX3_release_79 rfl (lv_at hl 1 rfl) ?_
              refine lv_iload_n hx hb dX3_release_80 rfl (lv_at hl 0 rfl) ?_
              refine lv_iconst (v := 3) hx hb dX3_release_81 (by decide) ?_
              refine ti_callVv (ci := 3) (av := [.int x_24, .int 3]) C hw (f_X3_remove l D A cy hJ M_27 iM_27 q hq x_24 3) ⟨ml_X3_196, ym_X3_remove, yv_X3_remove, yi_X3_remove, yc_X3_remove⟩ yd_X3_remove hq (by decide) rfl rfl hl.1 (Nat.le_of_ble_eq_true rfl) ⟨by decide, by decide⟩ ⟨Nat.zero_le _, Nat.zero_le _⟩ dX3_release_82 (fun M_38 H locs hp_38 hw => ?_)
              obtain ⟨frM_38, hqM_38⟩ := hp_38
              obtain ⟨iM_38, q_39, q_40, q_41⟩ := hqM_38
              exact hj_85_46 M_38 _ _ _ iM_38 ((q_39).trans f_28) ((q_40).trans f_29) (fX.trans q_41 f_30) (eo.trans frM_38 f_31) hw (lv_sub hl [0, 1] rfl)
      exact hl_61_31 ((x_23.toInt : Int).toNat + 1) x_23 M_14 _ _ _ (Nat.lt_succ_self _) (by first | omega | decide) (by first | omega | decide) iM_14 (f_15) (f_16) f_17 f_18 hw (lv_sub hl [0, 1] rfl)
    · exact hQ _ _ _ _ _ hw (⟨f_18, iM_14, (f_15), (f_16), f_17⟩) dX3_release_53
  refine sb_if_le (tgt := 44) hx hb rfl dX3_release_4 (by decide) (fun c_4_1 => ?_) (fun c_4_1 => ?_)
  · exact hj_44_18 M _ _ _ hI rfl rfl fX.refl eo.refl hw (lv_sub hl [0] rfl)
  · refine lv_aload_n hx hb dX3_release_7 rfl (lv_at hl 0 rfl) ?_
    refine ti_get (ci := 3) (k := 11) (N := 17) (T := TX3) (v := .ref (A q 12)) C hw iw_3 rfl hq (by decide) (by decide) fl_X3_27 rfl rfl dX3_release_8 ?_
    refine lv_aload_n hx hb dX3_release_11 rfl (lv_at hl 0 rfl) ?_
    refine ti_get (ci := 3) (k := 6) (N := 17) (T := TX3) (v := .ref (A q 7)) C hw iw_3 rfl hq (by decide) (by decide) fl_X3_9 rfl rfl dX3_release_12 ?_
    refine lv_iconst (v := 0) hx hb dX3_release_15 (by decide) ?_
    refine ti_iald (ci := 3) (k := 6) (n := 8) C hw hq (by decide) (fun _ _ => rfl) (by unfold vp_in; decide) dX3_release_16 ?_
    refine lv_topi (fun x_3 ex_3 => ?_)
    have bx_3 : 0 ≤ x_3.toInt ∧ x_3.toInt ≤ 7 := cI_ry hI hq.1 ex_3
    refine ti_iald (ci := 3) (k := 11) (n := 8) C hw hq (by decide) (fun _ _ => rfl) (vp_in_iff.mpr (by omega)) dX3_release_17 ?_
    refine lv_topi (fun x_4 ex_4 => ?_)
    refine lv_aload_n hx hb dX3_release_18 rfl (lv_at hl 0 rfl) ?_
    refine ti_get (ci := 3) (k := 0) (N := 17) (T := TX3) (v := .ref (A t 0)) C hw iw_3 rfl hq (by decide) (by decide) fl_X3_45 rfl (ti_Tv (hT)) dX3_release_19 ?_
    refine ti_get (ci := 8) (k := 0) (N := 12) (T := TX8) (v := .ref (A t 1)) C hw iw_8 rfl (ob_t ht) (by decide) (by decide) fl_X3_81 rfl rfl dX3_release_22 ?_
    refine lv_aload_n hx hb dX3_release_25 rfl (lv_at hl 0 rfl) ?_
    refine ti_get (ci := 3) (k := 6) (N := 17) (T := TX3) (v := .ref (A q 7)) C hw iw_3 rfl hq (by decide) (by decide) fl_X3_9 rfl rfl dX3_release_26 ?_
    refine lv_iconst (v := 0) hx hb dX3_release_29 (by decide) ?_
    refine ti_iald (ci := 3) (k := 6) (n := 8) C hw hq (by decide) (fun _ _ => rfl) (by unfold vp_in; decide) dX3_release_30 ?_
    refine lv_topi (fun x_5 ex_5 => ?_)
    have bx_5 : 0 ≤ x_5.toInt ∧ x_5.toInt ≤ 7 := cI_ry hI hq.1 ex_5
    refine ti_aald (ci := 8) (k := 0) (n := 8) (t0 := 5) (Cn := RX2) (gg := (ti_men t)) (j := x_5.toNatClampNeg) C hw (ob_t ht) (by decide) (fun _ _ => rfl) rfl (vp_in_iff.mpr (by omega)) rfl dX3_release_31 ?_
    have ob_6 : ti_ob ti_LT (ti_men t x_5.toNatClampNeg) 2 := ob_m ht (i_nt rfl (by omega) (by omega))
    refine ti_get (ci := 2) (k := 4) (N := 10) (T := TX2) C hw iw_2 rfl ob_6 (by decide) (by decide) fl_X3_203 rfl rfl dX3_release_32 ?_
    refine lv_topi (fun x_7 ex_7 => ?_)
    refine sb_icmp_lt (tgt := 44) hx hb rfl rfl dX3_release_35 (by decide) (fun c_35_7 => ?_) (fun c_35_7 => ?_)
    · exact hj_44_18 M _ _ _ hI rfl rfl fX.refl eo.refl hw (lv_sub hl [0] rfl)
    · refine lv_aload_n hx hb dX3_release_38 rfl (lv_at hl 0 rfl) ?_
      refine lv_iconst (v := 0) hx hb dX3_release_39 (by decide) ?_
      refine lv_iconst (v := 2) hx hb dX3_release_40 (by decide) ?_
      refine ti_callVv (ci := 3) (av := [.int 0, .int 2]) C hw (f_X3_remove l D A cy hJ M hI q hq 0 2) ⟨ml_X3_196, ym_X3_remove, yv_X3_remove, yi_X3_remove, yc_X3_remove⟩ yd_X3_remove hq (by decide) rfl rfl hl.1 (Nat.le_of_ble_eq_true rfl) ⟨by decide, by decide⟩ ⟨Nat.zero_le _, Nat.zero_le _⟩ dX3_release_41 (fun M_10 H locs hp_10 hw => ?_)
      obtain ⟨frM_10, hqM_10⟩ := hp_10
      obtain ⟨iM_10, q_11, q_12, q_13⟩ := hqM_10
      exact hj_44_18 M_10 _ _ _ iM_10 (q_11) (q_12) q_13 frM_10 hw (lv_sub hl [0] rfl)
set_option maxHeartbeats 4000000 in
set_option maxRecDepth 100000 in
theorem f_X3_mutter (l : Launch) (D : va_G) (A : Nat → Nat → Nat) (cy : Nat → ClassId) (hJ : ti_inj ti_LT A) (M : ti_M) (hI : cI Tc M) (q t : Nat) (hq : ti_ob ti_LT q 3) (ht : t = 3 ∨ t = 4) (hT : tT M q 0 = some t) : ti_Kv l yX3_mutter cX3_mutter 1 2 ti_LT D A cy M [.ref (A q 0)] (fun M2 => eo q M2 M ∧ cI Tc M2 ∧ M2.2.2.2 = M.2.2.2 ∧ tI M2 q 2 = tI M q 2 ∧ fX M2 M) := by
  refine ti_eV yp_X3_mutter hJ ti_LT_nd (Nat.le_of_ble_eq_true rfl) ?_
  intro p e s m args below meth c Q H0 C hQ hw ls hl
  have hx := C.1
  have hb := C.2.1
  have hl : lv_has ls 1 [(0, .ref (A q 0))] := hl
  refine lv_aload_n hx hb dX3_mutter_0 rfl (lv_at hl 0 rfl) ?_
  refine lv_iconst (v := 2) hx hb dX3_mutter_1 (by decide) ?_
  refine ti_callVi (ci := 3) (av := [.int 2]) C hw (s_X3_is l D A cy hJ M hI q hq 2) ⟨ml_X3_182, ym_X3_is, yv_X3_is, yi_X3_is, yc_X3_is⟩ yd_X3_is hq (by decide) rfl rfl hl.1 (Nat.le_of_ble_eq_true rfl) ⟨by decide, by decide⟩ ⟨Nat.zero_le _, Nat.zero_le _⟩ dX3_mutter_2 (fun r_1 M_2 H locs hp_2 hw => ?_)
  have hm := hp_2
  have hw := hw.to hm
  refine sb_if_ne (tgt := 18) hx hb rfl dX3_mutter_5 (by decide) (fun c_5_2 => ?_) (fun c_5_2 => ?_)
  · exact hQ _ _ _ _ _ hw (⟨eo.refl, hI, rfl, rfl, fX.refl⟩) dX3_mutter_18
  · refine lv_aload_n hx hb dX3_mutter_8 rfl (lv_at hl 0 rfl) ?_
    refine ti_get (ci := 3) (k := 0) (N := 17) (T := TX3) (v := .ref (A t 0)) C hw iw_3 rfl hq (by decide) (by decide) fl_X3_45 rfl (ti_Tv (hT)) dX3_mutter_9 ?_
    refine ti_get (ci := 8) (k := 10) (N := 12) (T := TX8) C hw iw_8 rfl (ob_t ht) (by decide) (by decide) fl_X3_209 rfl rfl dX3_mutter_12 ?_
    refine lv_topi (fun x_4 ex_4 => ?_)
    refine sb_if_ne (tgt := 19) hx hb rfl dX3_mutter_15 (by decide) (fun c_15_4 => ?_) (fun c_15_4 => ?_)
    · refine lv_aload_n hx hb dX3_mutter_19 rfl (lv_at hl 0 rfl) ?_
      refine lv_aload_n hx hb dX3_mutter_20 rfl (lv_at hl 0 rfl) ?_
      refine ti_get (ci := 3) (k := 5) (N := 17) (T := TX3) C hw iw_3 rfl hq (by decide) (by decide) fl_X3_68 rfl rfl dX3_mutter_21 ?_
      refine lv_topi (fun x_6 ex_6 => ?_)
      obtain ⟨x_7, ex_7⟩ : ∃ z : Int64, z = x_6.toInt64 := ⟨_, rfl⟩
      refine lv_i2l (v := x_7) hx hb dX3_mutter_24 ex_7.symm ?_
      refine lv_ldc2 (v := 1103515245) hx hb C.2.2.2.1 (C.2.2.1 _ cn_X3_211) dX3_mutter_25 ?_
      refine lv_lmul hx hb dX3_mutter_28 ?_
      refine lv_topl (fun x_8 ex_8 => ?_)
      refine lv_ldc2 (v := 12345) hx hb C.2.2.2.1 (C.2.2.1 _ cn_X3_213) dX3_mutter_29 ?_
      refine lv_ladd hx hb dX3_mutter_32 ?_
      refine lv_topl (fun x_9 ex_9 => ?_)
      refine lv_ldc2 (v := 2147483647) hx hb C.2.2.2.1 (C.2.2.1 _ cn_X3_215) dX3_mutter_33 ?_
      refine lv_land hx hb dX3_mutter_36 ?_
      refine lv_topl (fun x_10 ex_10 => ?_)
      obtain ⟨x_11, ex_11⟩ : ∃ z : Int32, z = (x_10 : Int64).toInt32 := ⟨_, rfl⟩
      refine lv_l2i (v := x_11) hx hb dX3_mutter_37 ex_11.symm ?_
      refine ti_putI (ci := 3) (k := 5) (N := 17) (T := TX3) C hw iw_3 tyX3 tyX3_ok nmX3 rfl hq (by decide) (by decide) fl_X3_68 rfl rfl rfl rfl (fn_3 A _) fs_3_5 dX3_mutter_38 (fun H locs hw => ?_)
      obtain ⟨M_12, hM_12⟩ : ∃ z : ti_M, z = uI M q 5 x_11 := ⟨_, rfl⟩
      have hw := hw.to hM_12.symm
      have iM_12 : cI Tc M_12 := cI_uI hI hM_12 hq.1 trivial
      refine lv_aload_n hx hb dX3_mutter_41 rfl (lv_at hl 0 rfl) ?_
      refine ti_get (ci := 3) (k := 5) (N := 17) (T := TX3) C hw iw_3 rfl hq (by decide) (by decide) fl_X3_68 rfl rfl dX3_mutter_42 ?_
      refine ti_top (y := x_11) (tI_uE hM_12) ?_
      refine lv_ldc (v := 65536) hx hb C.2.2.2.1 (C.2.2.1 _ cn_X3_217) dX3_mutter_45 ?_
      refine lv_idiv hx hb dX3_mutter_47 (by decide) ?_
      refine lv_topi (fun x_13 ex_13 => ?_)
      refine lv_bipush (v := 100) hx hb dX3_mutter_48 (by decide) ?_
      refine lv_irem hx hb dX3_mutter_50 (by decide) ?_
      refine lv_topi (fun x_14 ex_14 => ?_)
      refine lv_aload_n hx hb dX3_mutter_51 rfl (lv_at hl 0 rfl) ?_
      refine ti_get (ci := 3) (k := 0) (N := 17) (T := TX3) (v := .ref (A t 0)) C hw iw_3 rfl hq (by decide) (by decide) fl_X3_45 rfl (ti_Tv ((tT_uIE hM_12).trans hT)) dX3_mutter_52 ?_
      refine ti_get (ci := 8) (k := 10) (N := 12) (T := TX8) C hw iw_8 rfl (ob_t ht) (by decide) (by decide) fl_X3_209 rfl rfl dX3_mutter_55 ?_
      refine ti_top (y := x_4) ((tI_nE hM_12 (nk (by decide))).trans ex_4.symm) ?_
      refine sb_icmp_ge (tgt := 80) hx hb rfl rfl dX3_mutter_58 (by decide) (fun c_58_14 => ?_) (fun c_58_14 => ?_)
      · exact hQ _ _ _ _ _ hw (⟨(eo_I hM_12), iM_12, (rf_I hM_12), (tI_nE hM_12 (nk (by decide))), (fx_I hM_12 (fxn hq.1 (by decide)))⟩) dX3_mutter_80
      · refine lv_aload_n hx hb dX3_mutter_61 rfl (lv_at hl 0 rfl) ?_
        refine ti_get (ci := 3) (k := 3) (N := 17) (T := TX3) C hw iw_3 rfl hq (by decide) (by decide) fl_X3_56 rfl rfl dX3_mutter_62 ?_
        refine lv_topi (fun x_16 ex_16 => ?_)
        have bx_16 : 0 ≤ x_16.toInt ∧ x_16.toInt ≤ 8 := cI_rd iM_12 hq.1 ex_16
        have ux_16 : (tI M_12 q 3).toInt = x_16.toInt := by rw [ex_16]
        refine lv_iconst (v := 1) hx hb dX3_mutter_65 (by decide) ?_
        refine sb_icmp_le (tgt := 80) hx hb rfl (by decide : (1 : Int32).toInt = 1) dX3_mutter_66 (by decide) (fun c_66_16 => ?_) (fun c_66_16 => ?_)
        · exact hQ _ _ _ _ _ hw (⟨(eo_I hM_12), iM_12, (rf_I hM_12), (tI_nE hM_12 (nk (by decide))), (fx_I hM_12 (fxn hq.1 (by decide)))⟩) dX3_mutter_80
        · refine lv_aload_n hx hb dX3_mutter_69 rfl (lv_at hl 0 rfl) ?_
          refine lv_aload_n hx hb dX3_mutter_70 rfl (lv_at hl 0 rfl) ?_
          refine ti_get (ci := 3) (k := 3) (N := 17) (T := TX3) C hw iw_3 rfl hq (by decide) (by decide) fl_X3_56 rfl rfl dX3_mutter_71 ?_
          refine ti_top (y := x_16) (ex_16.symm) ?_
          have u_18 : (tI M_12 q 3).toInt = (x_16 : Int32).toInt := by rw [(ex_16.symm)]
          refine lv_iconst (v := 1) hx hb dX3_mutter_74 (by decide) ?_
          refine lv_isub hx hb dX3_mutter_75 ?_
          refine lv_topi (fun x_19 ex_19 => ?_)
          have tx_19 : x_19.toInt = x_16.toInt - 1 := i_sub ex_19 rfl (by decide : (1 : Int32).toInt = 1) (by omega) (by omega)
          refine lv_iconst (v := 3) hx hb dX3_mutter_76 (by decide) ?_
          refine ti_callVv (ci := 3) (av := [.int x_19, .int 3]) C hw (f_X3_remove l D A cy hJ M_12 iM_12 q hq x_19 3) ⟨ml_X3_196, ym_X3_remove, yv_X3_remove, yi_X3_remove, yc_X3_remove⟩ yd_X3_remove hq (by decide) rfl rfl hl.1 (Nat.le_of_ble_eq_true rfl) ⟨by decide, by decide⟩ ⟨Nat.zero_le _, Nat.zero_le _⟩ dX3_mutter_77 (fun M_21 H locs hp_21 hw => ?_)
          obtain ⟨frM_21, hqM_21⟩ := hp_21
          obtain ⟨iM_21, q_22, q_23, q_24⟩ := hqM_21
          exact hQ _ _ _ _ _ hw (⟨(eo.trans frM_21 (eo_I hM_12)), iM_21, ((q_22).trans (rf_I hM_12)), ((q_23).trans (tI_nE hM_12 (nk (by decide)))), (fX.trans q_24 (fx_I hM_12 (fxn hq.1 (by decide))))⟩) dX3_mutter_80
    · exact hQ _ _ _ _ _ hw (⟨eo.refl, hI, rfl, rfl, fX.refl⟩) dX3_mutter_18
set_option maxHeartbeats 4000000 in
set_option maxRecDepth 100000 in
theorem f_X3_pass (l : Launch) (D : va_G) (A : Nat → Nat → Nat) (cy : Nat → ClassId) (hJ : ti_inj ti_LT A) (M : ti_M) (hI : cI Tc M) (q t : Nat) (hq : ti_ob ti_LT q 3) (ht : t = 3 ∨ t = 4) (hT : tT M q 0 = some t) (hmin : cPer q → (tI M q 2).toInt < 120) : ti_Kv l yX3_pass cX3_pass 1 4 ti_LT D A cy M [.ref (A q 0)] (fun M2 => eo q M2 M ∧ cI Tc M2 ∧ M2.2.2.2 = M.2.2.2 ∧ tI M2 q 2 = tI M q 2 + 1 ∧ fX M2 M) := by
  refine ti_eV yp_X3_pass hJ ti_LT_nd (Nat.le_of_ble_eq_true rfl) ?_
  intro p e s m args below meth c Q H0 C hQ hw ls hl
  have hx := C.1
  have hb := C.2.1
  have hl : lv_has ls 1 [(0, .ref (A q 0))] := hl
  refine lv_aload_n hx hb dX3_pass_0 rfl (lv_at hl 0 rfl) ?_
  refine ti_callVv (ci := 3) (av := []) C hw (f_X3_welcome l D A cy hJ M hI q t hq ht (hT)) ⟨ml_X3_143, ym_X3_welcome, yv_X3_welcome, yi_X3_welcome, yc_X3_welcome⟩ yd_X3_welcome hq (by decide) rfl rfl hl.1 (Nat.le_of_ble_eq_true rfl) ⟨by decide, by decide⟩ ⟨Nat.zero_le _, Nat.zero_le _⟩ dX3_pass_1 (fun M_2 H locs hp_2 hw => ?_)
  obtain ⟨frM_2, hqM_2⟩ := hp_2
  obtain ⟨iM_2, q_3, q_4, q_5⟩ := hqM_2
  refine lv_aload_n hx hb dX3_pass_4 rfl (lv_at hl 0 rfl) ?_
  refine ti_callVv (ci := 3) (av := []) C hw (f_X3_hearCoughs l D A cy hJ M_2 iM_2 q t hq ht ((tT_fr q_3).trans hT)) ⟨ml_X3_146, ym_X3_hearCoughs, yv_X3_hearCoughs, yi_X3_hearCoughs, yc_X3_hearCoughs⟩ yd_X3_hearCoughs hq (by decide) rfl rfl hl.1 (Nat.le_of_ble_eq_true rfl) ⟨by decide, by decide⟩ ⟨Nat.zero_le _, Nat.zero_le _⟩ dX3_pass_5 (fun M_7 H locs hp_7 hw => ?_)
  obtain ⟨frM_7, hqM_7⟩ := hp_7
  obtain ⟨iM_7, q_8, q_9, q_10⟩ := hqM_7
  refine lv_aload_n hx hb dX3_pass_8 rfl (lv_at hl 0 rfl) ?_
  refine ti_callVv (ci := 3) (av := []) C hw (f_X3_pour l D A cy hJ M_7 iM_7 q t hq ht ((tT_fr q_8).trans ((tT_fr q_3).trans hT))) ⟨ml_X3_149, ym_X3_pour, yv_X3_pour, yi_X3_pour, yc_X3_pour⟩ yd_X3_pour hq (by decide) rfl rfl hl.1 (Nat.le_of_ble_eq_true rfl) ⟨by decide, by decide⟩ ⟨Nat.zero_le _, Nat.zero_le _⟩ dX3_pass_9 (fun M_12 H locs hp_12 hw => ?_)
  obtain ⟨frM_12, hqM_12⟩ := hp_12
  obtain ⟨iM_12, q_13, q_14, q_15⟩ := hqM_12
  refine lv_aload_n hx hb dX3_pass_12 rfl (lv_at hl 0 rfl) ?_
  refine ti_callVv (ci := 3) (av := []) C hw (f_X3_levy l D A cy hJ M_12 iM_12 q t hq ht ((tT_fr q_13).trans ((tT_fr q_8).trans ((tT_fr q_3).trans hT)))) ⟨ml_X3_152, ym_X3_levy, yv_X3_levy, yi_X3_levy, yc_X3_levy⟩ yd_X3_levy hq (by decide) rfl rfl hl.1 (Nat.le_of_ble_eq_true rfl) ⟨by decide, by decide⟩ ⟨Nat.zero_le _, Nat.zero_le _⟩ dX3_pass_13 (fun M_17 H locs hp_17 hw => ?_)
  obtain ⟨frM_17, hqM_17⟩ := hp_17
  obtain ⟨iM_17, q_18, q_19, q_20⟩ := hqM_17
  refine lv_aload_n hx hb dX3_pass_16 rfl (lv_at hl 0 rfl) ?_
  refine ti_callVv (ci := 3) (av := []) C hw (f_X3_wear l D A cy hJ M_17 iM_17 q t hq ht ((tT_fr q_18).trans ((tT_fr q_13).trans ((tT_fr q_8).trans ((tT_fr q_3).trans hT))))) ⟨ml_X3_155, ym_X3_wear, yv_X3_wear, yi_X3_wear, yc_X3_wear⟩ yd_X3_wear hq (by decide) rfl rfl hl.1 (Nat.le_of_ble_eq_true rfl) ⟨by decide, by decide⟩ ⟨Nat.zero_le _, Nat.zero_le _⟩ dX3_pass_17 (fun M_22 H locs hp_22 hw => ?_)
  obtain ⟨frM_22, hqM_22⟩ := hp_22
  obtain ⟨iM_22, q_23, q_24, q_25⟩ := hqM_22
  refine lv_aload_n hx hb dX3_pass_20 rfl (lv_at hl 0 rfl) ?_
  refine ti_callVv (ci := 3) (av := []) C hw (f_X3_release l D A cy hJ M_22 iM_22 q t hq ht ((tT_fr q_23).trans ((tT_fr q_18).trans ((tT_fr q_13).trans ((tT_fr q_8).trans ((tT_fr q_3).trans hT)))))) ⟨ml_X3_158, ym_X3_release, yv_X3_release, yi_X3_release, yc_X3_release⟩ yd_X3_release hq (by decide) rfl rfl hl.1 (Nat.le_of_ble_eq_true rfl) ⟨by decide, by decide⟩ ⟨Nat.zero_le _, Nat.zero_le _⟩ dX3_pass_21 (fun M_27 H locs hp_27 hw => ?_)
  obtain ⟨frM_27, hqM_27⟩ := hp_27
  obtain ⟨iM_27, q_28, q_29, q_30⟩ := hqM_27
  refine lv_aload_n hx hb dX3_pass_24 rfl (lv_at hl 0 rfl) ?_
  refine ti_callVv (ci := 3) (av := []) C hw (f_X3_mutter l D A cy hJ M_27 iM_27 q t hq ht ((tT_fr q_28).trans ((tT_fr q_23).trans ((tT_fr q_18).trans ((tT_fr q_13).trans ((tT_fr q_8).trans ((tT_fr q_3).trans hT))))))) ⟨ml_X3_161, ym_X3_mutter, yv_X3_mutter, yi_X3_mutter, yc_X3_mutter⟩ yd_X3_mutter hq (by decide) rfl rfl hl.1 (Nat.le_of_ble_eq_true rfl) ⟨by decide, by decide⟩ ⟨Nat.zero_le _, Nat.zero_le _⟩ dX3_pass_25 (fun M_32 H locs hp_32 hw => ?_)
  obtain ⟨frM_32, hqM_32⟩ := hp_32
  obtain ⟨iM_32, q_33, q_34, q_35⟩ := hqM_32
  refine lv_aload_n hx hb dX3_pass_28 rfl (lv_at hl 0 rfl) ?_
  refine lv_dup hx hb dX3_pass_29 rfl ?_
  refine ti_get (ci := 3) (k := 2) (N := 17) (T := TX3) C hw iw_3 rfl hq (by decide) (by decide) fl_X3_53 rfl rfl dX3_pass_30 ?_
  refine lv_topi (fun x_36 ex_36 => ?_)
  refine lv_iconst (v := 1) hx hb dX3_pass_33 (by decide) ?_
  refine lv_iadd hx hb dX3_pass_34 ?_
  refine lv_topi (fun x_37 ex_37 => ?_)
  refine ti_putI (ci := 3) (k := 2) (N := 17) (T := TX3) C hw iw_3 tyX3 tyX3_ok nmX3 rfl hq (by decide) (by decide) fl_X3_53 rfl rfl rfl rfl (fn_3 A _) fs_3_2 dX3_pass_35 (fun H locs hw => ?_)
  obtain ⟨M_38, hM_38⟩ : ∃ z : ti_M, z = uI M_32 q 2 x_37 := ⟨_, rfl⟩
  have hw := hw.to hM_38.symm
  have iM_38 : cI Tc M_38 := cI_uI iM_32 hM_38 hq.1 (fun hp => pass_min (cI_rd iM_32 hq.1 ex_36 hp) (hmin hp) (ex_36.trans ((q_34).trans ((q_29).trans ((q_24).trans ((q_19).trans ((q_14).trans ((q_9).trans q_4))))))) ex_37)
  exact hQ _ _ _ _ _ hw (⟨(eo.trans (eo_I hM_38) (eo.trans frM_32 (eo.trans frM_27 (eo.trans frM_22 (eo.trans frM_17 (eo.trans frM_12 (eo.trans frM_7 frM_2))))))), iM_38, ((rf_I hM_38).trans ((q_33).trans ((q_28).trans ((q_23).trans ((q_18).trans ((q_13).trans ((q_8).trans q_3))))))), (tI_uE hM_38).trans (ex_37.trans (congrArg (fun u => u + 1) (ex_36.trans ((q_34).trans ((q_29).trans ((q_24).trans ((q_19).trans ((q_14).trans ((q_9).trans q_4))))))))), (fX.trans (fx_I hM_38 (fxn hq.1 (by decide))) (fX.trans q_35 (fX.trans q_30 (fX.trans q_25 (fX.trans q_20 (fX.trans q_15 (fX.trans q_10 q_5)))))))⟩) dX3_pass_38
set_option maxHeartbeats 4000000 in
set_option maxRecDepth 100000 in
theorem f_X3_passTo (l : Launch) (D : va_G) (A : Nat → Nat → Nat) (cy : Nat → ClassId) (hJ : ti_inj ti_LT A) (M : ti_M) (hI : cI Tc M) (q t : Nat) (hq : ti_ob ti_LT q 3) (ht : t = 3 ∨ t = 4) (hT : tT M q 0 = some t) (un : Int32) (hnp : ¬ cPer q) : ti_Kv l yX3_passTo cX3_passTo 3 5 ti_LT D A cy M [.ref (A q 0), .int un] (fun M2 => eo q M2 M ∧ cI Tc M2 ∧ M2.2.2.2 = M.2.2.2 ∧ fX M2 M) := by
  refine ti_eV yp_X3_passTo hJ ti_LT_nd (Nat.le_of_ble_eq_true rfl) ?_
  intro p e s m args below meth c Q H0 C hQ hw ls hl
  have hx := C.1
  have hb := C.2.1
  have hl : lv_has ls 3 [(0, .ref (A q 0)), (1, .int un)] := hl
  have hun := un.toInt_lt
  refine lv_aload_n hx hb dX3_passTo_0 rfl (lv_at hl 0 rfl) ?_
  refine ti_get (ci := 3) (k := 2) (N := 17) (T := TX3) C hw iw_3 rfl hq (by decide) (by decide) fl_X3_53 rfl rfl dX3_passTo_1 ?_
  refine lv_topi (fun x_1 ex_1 => ?_)
  refine lv_istore_n (lv' := [(2, .int x_1), (0, .ref (A q 0)), (1, .int un)]) hx hb dX3_passTo_4 rfl hl (by decide) rfl (fun ls hl => ?_)
  have hl_5_6 : ∀ (n_7 : Nat) (x_2 : Int32) (M_3 : ti_M) (H : Heap) (locs : List Loc) (ls : Array Slot), (un.toInt - x_2.toInt : Int).toNat < n_7 → (cI Tc M_3) → (M_3.2.2.2 = M.2.2.2) → (fX M_3 M) → (eo q M_3 M) → ti_H ti_LT D A cy H0 M_3 H locs → lv_has ls 3 [(2, .int x_2), (0, .ref (A q 0)), (1, .int un)] → W p l e (ti_rm 5) s m args below meth c H locs 0 0 Q (F0 m 5 ls []) := by
    intro n_7
    induction n_7 with
    | zero => intro x_2 M_3 H locs ls hf_7; exact absurd hf_7 (Nat.not_lt_zero _)
    | succ n_7 ih_7 =>
      intro x_2 M_3 H locs ls hf_7 iM_3 f_4 f_5 f_6 hw hl
      refine lv_iload_n hx hb dX3_passTo_5 rfl (lv_at hl 0 rfl) ?_
      refine lv_iload_n hx hb dX3_passTo_6 rfl (lv_at hl 2 rfl) ?_
      refine sb_icmp_ge (tgt := 20) hx hb rfl rfl dX3_passTo_7 (by decide) (fun c_7_7 => ?_) (fun c_7_7 => ?_)
      · exact hQ _ _ _ _ _ hw (⟨f_6, iM_3, (f_4), f_5⟩) dX3_passTo_20
      · refine lv_aload_n hx hb dX3_passTo_10 rfl (lv_at hl 1 rfl) ?_
        refine ti_callVv (ci := 3) (av := []) C hw (f_X3_pass l D A cy hJ M_3 iM_3 q t hq ht ((tT_fr f_4).trans hT) (fun h => absurd h hnp)) ⟨ml_X3_140, ym_X3_pass, yv_X3_pass, yi_X3_pass, yc_X3_pass⟩ yd_X3_pass hq (by decide) rfl rfl hl.1 (Nat.le_of_ble_eq_true rfl) ⟨by decide, by decide⟩ ⟨Nat.zero_le _, Nat.zero_le _⟩ dX3_passTo_11 (fun M_10 H locs hp_10 hw => ?_)
        obtain ⟨frM_10, hqM_10⟩ := hp_10
        obtain ⟨iM_10, q_11, q_12, q_13⟩ := hqM_10
        obtain ⟨x_14, ex_14⟩ : ∃ z : Int32, z = x_2 + 1 := ⟨_, rfl⟩
        have lox_14 := x_2.le_toInt
        have hix_14 := x_2.toInt_lt
        have tx_14 : x_14.toInt = x_2.toInt + 1 := i_add ex_14 rfl (by decide) (by omega) (by omega)
        refine lv_iinc (v := x_14) (lv' := [(2, .int x_14), (0, .ref (A q 0)), (1, .int un)]) hx hb dX3_passTo_14 hl (k := 0) rfl (by rw [ex_14]; rfl) (by decide) rfl (fun ls hl => ?_)
        refine lv_goto (tgt := 5) hx hb dX3_passTo_17 (by decide) ?_
        exact ih_7 x_14 M_10 _ _ _ (by omega) iM_10 ((q_11).trans f_4) (fX.trans q_13 f_5) (eo.trans frM_10 f_6) hw (lv_sub hl [0, 1, 2] rfl)
  exact hl_5_6 ((un.toInt - x_1.toInt : Int).toNat + 1) x_1 M _ _ _ (Nat.lt_succ_self _) hI rfl fX.refl eo.refl hw (lv_sub hl [0, 1, 2] rfl)
set_option maxHeartbeats 4000000 in
set_option maxRecDepth 100000 in
theorem f_X3_start (l : Launch) (D : va_G) (A : Nat → Nat → Nat) (cy : Nat → ClassId) (hJ : ti_inj ti_LT A) (M : ti_M) (hI : cI Tc M) (q t : Nat) (hq : ti_ob ti_LT q 3) (ht : t = 3 ∨ t = 4) : ti_Kv l yX3_start cX3_start 3 1 ti_LT D A cy M [.ref (A q 0), .ref (A t 0)] (fun M2 => eo q M2 M ∧ cI Tc M2 ∧ M2.2.2.2 = (uT M q 0 (some t)).2.2.2 ∧ fX M2 M) := by
  refine ti_eV yp_X3_start hJ ti_LT_nd (Nat.le_of_ble_eq_true rfl) ?_
  intro p e s m args below meth c Q H0 C hQ hw ls hl
  have hx := C.1
  have hb := C.2.1
  have hl : lv_has ls 3 [(0, .ref (A q 0)), (1, .ref (A t 0))] := hl
  refine lv_aload_n hx hb dX3_start_0 rfl (lv_at hl 0 rfl) ?_
  refine lv_aload_n hx hb dX3_start_1 rfl (lv_at hl 1 rfl) ?_
  refine ti_putT (ci := 3) (k := 0) (N := 17) (T := TX3) C hw iw_3 tyX3 tyX3_ok nmX3 rfl hq (by decide) (by decide) fl_X3_45 rfl rfl rfl rfl (fn_3 A _) fs_3_0 dX3_start_2 (fun H locs hw => ?_)
  obtain ⟨M_1, hM_1⟩ : ∃ z : ti_M, z = uT M q 0 (some t) := ⟨_, rfl⟩
  have hw := hw.to hM_1.symm
  have iM_1 : cI Tc M_1 := cI_uT hI hM_1
  refine lv_aload_n hx hb dX3_start_5 rfl (lv_at hl 0 rfl) ?_
  refine lv_iconst (v := 0) hx hb dX3_start_6 (by decide) ?_
  refine ti_putI (ci := 3) (k := 1) (N := 17) (T := TX3) C hw iw_3 tyX3 tyX3_ok nmX3 rfl hq (by decide) (by decide) fl_X3_49 rfl rfl rfl rfl (fn_3 A _) fs_3_1 dX3_start_7 (fun H locs hw => ?_)
  obtain ⟨M_2, hM_2⟩ : ∃ z : ti_M, z = uI M_1 q 1 0 := ⟨_, rfl⟩
  have hw := hw.to hM_2.symm
  have iM_2 : cI Tc M_2 := cI_uI iM_1 hM_2 hq.1 trivial
  refine lv_aload_n hx hb dX3_start_10 rfl (lv_at hl 0 rfl) ?_
  refine lv_iconst (v := 0) hx hb dX3_start_11 (by decide) ?_
  refine ti_putI (ci := 3) (k := 2) (N := 17) (T := TX3) C hw iw_3 tyX3 tyX3_ok nmX3 rfl hq (by decide) (by decide) fl_X3_53 rfl rfl rfl rfl (fn_3 A _) fs_3_2 dX3_start_12 (fun H locs hw => ?_)
  obtain ⟨M_3, hM_3⟩ : ∃ z : ti_M, z = uI M_2 q 2 0 := ⟨_, rfl⟩
  have hw := hw.to hM_3.symm
  have iM_3 : cI Tc M_3 := cI_uI iM_2 hM_3 hq.1 (fun _ => ib_mk (lo := 0) (hi := 120) (by decide) (by decide))
  refine lv_aload_n hx hb dX3_start_15 rfl (lv_at hl 0 rfl) ?_
  refine lv_iconst (v := 0) hx hb dX3_start_16 (by decide) ?_
  refine ti_putI (ci := 3) (k := 3) (N := 17) (T := TX3) C hw iw_3 tyX3 tyX3_ok nmX3 rfl hq (by decide) (by decide) fl_X3_56 rfl rfl rfl rfl (fn_3 A _) fs_3_3 dX3_start_17 (fun H locs hw => ?_)
  obtain ⟨M_4, hM_4⟩ : ∃ z : ti_M, z = uI M_3 q 3 0 := ⟨_, rfl⟩
  have hw := hw.to hM_4.symm
  have iM_4 : cI Tc M_4 := cI_uI iM_3 hM_4 hq.1 (ib_mk (lo := 0) (hi := 8) (by decide) (by decide))
  have vM_4 : (tI M_4 q 3).toInt = 0 := by rw [tI_uE hM_4]; decide
  refine lv_aload_n hx hb dX3_start_20 rfl (lv_at hl 0 rfl) ?_
  refine lv_aload_n hx hb dX3_start_21 rfl (lv_at hl 1 rfl) ?_
  refine ti_get (ci := 8) (k := 6) (N := 12) (T := TX8) C hw iw_8 rfl (ob_t ht) (by decide) (by decide) fl_X3_59 rfl rfl dX3_start_22 ?_
  refine lv_topi (fun x_5 ex_5 => ?_)
  refine ti_putI (ci := 3) (k := 4) (N := 17) (T := TX3) C hw iw_3 tyX3 tyX3_ok nmX3 rfl hq (by decide) (by decide) fl_X3_64 rfl rfl rfl rfl (fn_3 A _) fs_3_4 dX3_start_25 (fun H locs hw => ?_)
  obtain ⟨M_6, hM_6⟩ : ∃ z : ti_M, z = uI M_4 q 4 x_5 := ⟨_, rfl⟩
  have hw := hw.to hM_6.symm
  have iM_6 : cI Tc M_6 := cI_uI iM_4 hM_6 hq.1 trivial
  refine lv_aload_n hx hb dX3_start_28 rfl (lv_at hl 0 rfl) ?_
  refine lv_aload_n hx hb dX3_start_29 rfl (lv_at hl 1 rfl) ?_
  refine ti_get (ci := 8) (k := 11) (N := 12) (T := TX8) C hw iw_8 rfl (ob_t ht) (by decide) (by decide) fl_X3_65 rfl rfl dX3_start_30 ?_
  refine lv_topi (fun x_7 ex_7 => ?_)
  refine ti_putI (ci := 3) (k := 5) (N := 17) (T := TX3) C hw iw_3 tyX3 tyX3_ok nmX3 rfl hq (by decide) (by decide) fl_X3_68 rfl rfl rfl rfl (fn_3 A _) fs_3_5 dX3_start_33 (fun H locs hw => ?_)
  obtain ⟨M_8, hM_8⟩ : ∃ z : ti_M, z = uI M_6 q 5 x_7 := ⟨_, rfl⟩
  have hw := hw.to hM_8.symm
  have iM_8 : cI Tc M_8 := cI_uI iM_6 hM_8 hq.1 trivial
  refine lv_aload_n hx hb dX3_start_36 rfl (lv_at hl 1 rfl) ?_
  refine ti_get (ci := 8) (k := 1) (N := 12) (T := TX8) (v := .ref (A t 2)) C hw iw_8 rfl (ob_t ht) (by decide) (by decide) fl_X3_71 rfl rfl dX3_start_37 ?_
  refine lv_iconst (v := 0) hx hb dX3_start_40 (by decide) ?_
  refine lv_aload_n hx hb dX3_start_41 rfl (lv_at hl 0 rfl) ?_
  refine ti_get (ci := 3) (k := 7) (N := 17) (T := TX3) (v := .ref (A q 8)) C hw iw_3 rfl hq (by decide) (by decide) fl_X3_15 rfl rfl dX3_start_42 ?_
  refine lv_iconst (v := 0) hx hb dX3_start_45 (by decide) ?_
  refine lv_iconst (v := 3) hx hb dX3_start_46 (by decide) ?_
  refine ti_copy (c1 := 8) (k1 := 1) (n1 := 3) (c2 := 3) (k2 := 7) (n2 := 3) C hw ml_X3_72 sy_nat sy_sta sy_ini (ob_t ht) (by decide) (fun _ _ => rfl) hq (by decide) (fun _ _ => rfl) hl.1 (by decide) (by decide) (by decide) (by decide) (by decide) (by decide) (Nat.le_of_ble_eq_true rfl) dX3_start_47 (fun H locs hw => ?_)
  obtain ⟨M_9, hM_9⟩ : ∃ z : ti_M, z = uY M_8 q 7 (va_cpy (tY M_8 t 1) (tY M_8 q 7) (0 : Int32).toNatClampNeg (0 : Int32).toNatClampNeg (3 : Int32).toNatClampNeg) := ⟨_, rfl⟩
  have hw := hw.to hM_9.symm
  have iM_9 : cI Tc M_9 := cI_cp iM_8 hM_9 hq.1 (fun _ => trivial)
  refine lv_iconst (v := 0) hx hb dX3_start_50 (by decide) ?_
  refine lv_istore_n (lv' := [(2, .int 0), (0, .ref (A q 0)), (1, .ref (A t 0))]) hx hb dX3_start_51 rfl hl (by decide) rfl (fun ls hl => ?_)
  have hl_52_16 : ∀ (n_17 : Nat) (x_10 : Int32) (M_13 : ti_M) (H : Heap) (locs : List Loc) (ls : Array Slot), (8 - x_10.toInt : Int).toNat < n_17 → (0 ≤ x_10.toInt) → (x_10.toInt ≤ 8) → (cI Tc M_13) → (M_13.2.2.2 = (uT M q 0 (some t)).2.2.2) → (fX M_13 M) → (eo q M_13 M) → ti_H ti_LT D A cy H0 M_13 H locs → lv_has ls 3 [(2, .int x_10), (0, .ref (A q 0)), (1, .ref (A t 0))] → W p l e (ti_rm 1) s m args below meth c H locs 0 0 Q (F0 m 52 ls []) := by
    intro n_17
    induction n_17 with
    | zero => intro x_10 M_13 H locs ls hf_17; exact absurd hf_17 (Nat.not_lt_zero _)
    | succ n_17 ih_17 =>
      intro x_10 M_13 H locs ls hf_17 b_11 b_12 iM_13 f_14 f_15 f_16 hw hl
      refine lv_iload_n hx hb dX3_start_52 rfl (lv_at hl 0 rfl) ?_
      refine lv_aload_n hx hb dX3_start_53 rfl (lv_at hl 2 rfl) ?_
      refine ti_get (ci := 8) (k := 4) (N := 12) (T := TX8) C hw iw_8 rfl (ob_t ht) (by decide) (by decide) fl_X3_78 rfl rfl dX3_start_54 ?_
      refine lv_topi (fun x_18 ex_18 => ?_)
      have bx_18 : 0 ≤ x_18.toInt ∧ x_18.toInt ≤ 8 := cI_rd iM_13 (ob_t ht).1 ex_18
      have ux_18 : (tI M_13 t 4).toInt = x_18.toInt := by rw [ex_18]
      refine sb_icmp_ge (tgt := 111) hx hb rfl rfl dX3_start_57 (by decide) (fun c_57_18 => ?_) (fun c_57_18 => ?_)
      · refine lv_aload_n hx hb dX3_start_111 rfl (lv_at hl 1 rfl) ?_
        refine ti_get (ci := 3) (k := 8) (N := 17) (T := TX3) (v := .ref (A q 9)) C hw iw_3 rfl hq (by decide) (by decide) fl_X3_18 rfl rfl dX3_start_112 ?_
        refine lv_iconst (v := 0) hx hb dX3_start_115 (by decide) ?_
        refine ti_callSv (av := [.ref (A q 9), .int 0]) C hw (k_fill l D A cy ti_LT_nd hJ M_13 q 8 3 8 0 hq (by decide) (fun _ _ => rfl) (by decide)) ⟨ml_X3_93, ys_J7_fill_53178, yi_J7_fill_53178, yc_J7_fill_53178⟩ yd_J7_fill_53178 rfl hl.1 (Nat.le_of_ble_eq_true rfl) ⟨by decide, by decide⟩ ⟨Nat.zero_le _, Nat.zero_le _⟩ dX3_start_116 (fun M_28 H locs hp hw => ?_)
        obtain ⟨g_29, hM_28, -⟩ := hp
        have iM_28 : cI Tc M_28 := cI_uY iM_13 hM_28 hq.1 (fun _ => trivial)
        refine lv_aload_n hx hb dX3_start_119 rfl (lv_at hl 1 rfl) ?_
        refine ti_get (ci := 3) (k := 11) (N := 17) (T := TX3) (v := .ref (A q 12)) C hw iw_3 rfl hq (by decide) (by decide) fl_X3_27 rfl rfl dX3_start_120 ?_
        refine lv_iconst (v := 0) hx hb dX3_start_123 (by decide) ?_
        refine ti_callSv (av := [.ref (A q 12), .int 0]) C hw (k_fill l D A cy ti_LT_nd hJ M_28 q 11 3 8 0 hq (by decide) (fun _ _ => rfl) (by decide)) ⟨ml_X3_93, ys_J7_fill_53178, yi_J7_fill_53178, yc_J7_fill_53178⟩ yd_J7_fill_53178 rfl hl.1 (Nat.le_of_ble_eq_true rfl) ⟨by decide, by decide⟩ ⟨Nat.zero_le _, Nat.zero_le _⟩ dX3_start_124 (fun M_30 H locs hp hw => ?_)
        obtain ⟨g_31, hM_30, -⟩ := hp
        have iM_30 : cI Tc M_30 := cI_uY iM_28 hM_30 hq.1 (fun _ => trivial)
        refine lv_aload_n hx hb dX3_start_127 rfl (lv_at hl 1 rfl) ?_
        refine ti_get (ci := 3) (k := 15) (N := 17) (T := TX3) (v := .ref (A q 16)) C hw iw_3 rfl hq (by decide) (by decide) fl_X3_39 rfl rfl dX3_start_128 ?_
        refine lv_iconst (v := 0) hx hb dX3_start_131 (by decide) ?_
        refine ti_callSv (av := [.ref (A q 16), .int 0]) C hw (k_fill l D A cy ti_LT_nd hJ M_30 q 15 3 8 0 hq (by decide) (fun _ _ => rfl) (by decide)) ⟨ml_X3_93, ys_J7_fill_53178, yi_J7_fill_53178, yc_J7_fill_53178⟩ yd_J7_fill_53178 rfl hl.1 (Nat.le_of_ble_eq_true rfl) ⟨by decide, by decide⟩ ⟨Nat.zero_le _, Nat.zero_le _⟩ dX3_start_132 (fun M_32 H locs hp hw => ?_)
        obtain ⟨g_33, hM_32, -⟩ := hp
        have iM_32 : cI Tc M_32 := cI_uY iM_30 hM_32 hq.1 (fun _ => trivial)
        refine lv_aload_n hx hb dX3_start_135 rfl (lv_at hl 1 rfl) ?_
        refine ti_get (ci := 3) (k := 16) (N := 17) (T := TX3) (v := .ref (A q 17)) C hw iw_3 rfl hq (by decide) (by decide) fl_X3_42 rfl rfl dX3_start_136 ?_
        refine lv_iconst (v := 0) hx hb dX3_start_139 (by decide) ?_
        refine ti_callSv (av := [.ref (A q 17), .int 0]) C hw (k_fill l D A cy ti_LT_nd hJ M_32 q 16 3 8 0 hq (by decide) (fun _ _ => rfl) (by decide)) ⟨ml_X3_93, ys_J7_fill_53178, yi_J7_fill_53178, yc_J7_fill_53178⟩ yd_J7_fill_53178 rfl hl.1 (Nat.le_of_ble_eq_true rfl) ⟨by decide, by decide⟩ ⟨Nat.zero_le _, Nat.zero_le _⟩ dX3_start_140 (fun M_34 H locs hp hw => ?_)
        obtain ⟨g_35, hM_34, -⟩ := hp
        have iM_34 : cI Tc M_34 := cI_uY iM_32 hM_34 hq.1 (fun _ => trivial)
        exact hQ _ _ _ _ _ hw (⟨(eo.trans (eo_Y hM_34) (eo.trans (eo_Y hM_32) (eo.trans (eo_Y hM_30) (eo.trans (eo_Y hM_28) f_16)))), iM_34, ((rf_Y hM_34).trans ((rf_Y hM_32).trans ((rf_Y hM_30).trans ((rf_Y hM_28).trans f_14)))), (fX.trans (fx_of (ra_Y hM_34)) (fX.trans (fx_of (ra_Y hM_32)) (fX.trans (fx_of (ra_Y hM_30)) (fX.trans (fx_of (ra_Y hM_28)) f_15))))⟩) dX3_start_143
      · refine lv_aload_n hx hb dX3_start_60 rfl (lv_at hl 1 rfl) ?_
        refine ti_get (ci := 3) (k := 9) (N := 17) (T := TX3) (v := .ref (A q 10)) C hw iw_3 rfl hq (by decide) (by decide) fl_X3_21 rfl rfl dX3_start_61 ?_
        refine lv_iload_n hx hb dX3_start_64 rfl (lv_at hl 0 rfl) ?_
        refine lv_aload_n hx hb dX3_start_65 rfl (lv_at hl 2 rfl) ?_
        refine ti_get (ci := 8) (k := 0) (N := 12) (T := TX8) (v := .ref (A t 1)) C hw iw_8 rfl (ob_t ht) (by decide) (by decide) fl_X3_81 rfl rfl dX3_start_66 ?_
        refine lv_iload_n hx hb dX3_start_69 rfl (lv_at hl 0 rfl) ?_
        refine ti_aald (ci := 8) (k := 0) (n := 8) (t0 := 5) (Cn := RX2) (gg := (ti_men t)) (j := x_10.toNatClampNeg) C hw (ob_t ht) (by decide) (fun _ _ => rfl) rfl (vp_in_iff.mpr (by omega)) rfl dX3_start_70 ?_
        have ob_20 : ti_ob ti_LT (ti_men t x_10.toNatClampNeg) 2 := ob_m ht (i_nt rfl (by omega) (by omega))
        refine ti_get (ci := 2) (k := 7) (N := 10) (T := TX2) C hw iw_2 rfl ob_20 (by decide) (by decide) fl_X3_85 rfl rfl dX3_start_71 ?_
        refine lv_topi (fun x_21 ex_21 => ?_)
        refine ti_iast (ci := 3) (k := 9) (n := 8) C hw hq (by decide) (fun _ _ => rfl) (vp_in_iff.mpr (by omega)) dX3_start_74 (fun H locs hw => ?_)
        obtain ⟨M_22, hM_22⟩ : ∃ z : ti_M, z = uY M_13 q 9 (upd (tY M_13 q 9) (x_10 : Int32).toNatClampNeg x_21) := ⟨_, rfl⟩
        have hw := hw.to hM_22.symm
        have iM_22 : cI Tc M_22 := cI_up iM_13 hM_22 hq.1 trivial
        refine lv_aload_n hx hb dX3_start_75 rfl (lv_at hl 1 rfl) ?_
        refine ti_get (ci := 3) (k := 10) (N := 17) (T := TX3) (v := .ref (A q 11)) C hw iw_3 rfl hq (by decide) (by decide) fl_X3_24 rfl rfl dX3_start_76 ?_
        refine lv_iload_n hx hb dX3_start_79 rfl (lv_at hl 0 rfl) ?_
        refine lv_aload_n hx hb dX3_start_80 rfl (lv_at hl 2 rfl) ?_
        refine ti_get (ci := 8) (k := 0) (N := 12) (T := TX8) (v := .ref (A t 1)) C hw iw_8 rfl (ob_t ht) (by decide) (by decide) fl_X3_81 rfl rfl dX3_start_81 ?_
        refine lv_iload_n hx hb dX3_start_84 rfl (lv_at hl 0 rfl) ?_
        refine ti_aald (ci := 8) (k := 0) (n := 8) (t0 := 5) (Cn := RX2) (gg := (ti_men t)) (j := x_10.toNatClampNeg) C hw (ob_t ht) (by decide) (fun _ _ => rfl) rfl (vp_in_iff.mpr (by omega)) rfl dX3_start_85 ?_
        refine ti_get (ci := 2) (k := 3) (N := 10) (T := TX2) C hw iw_2 rfl ob_20 (by decide) (by decide) fl_X3_89 rfl rfl dX3_start_86 ?_
        refine lv_topi (fun x_23 ex_23 => ?_)
        refine ti_iast (ci := 3) (k := 10) (n := 8) C hw hq (by decide) (fun _ _ => rfl) (vp_in_iff.mpr (by omega)) dX3_start_89 (fun H locs hw => ?_)
        obtain ⟨M_24, hM_24⟩ : ∃ z : ti_M, z = uY M_22 q 10 (upd (tY M_22 q 10) (x_10 : Int32).toNatClampNeg x_23) := ⟨_, rfl⟩
        have hw := hw.to hM_24.symm
        have iM_24 : cI Tc M_24 := cI_up iM_22 hM_24 hq.1 trivial
        refine lv_aload_n hx hb dX3_start_90 rfl (lv_at hl 1 rfl) ?_
        refine ti_get (ci := 3) (k := 12) (N := 17) (T := TX3) (v := .ref (A q 13)) C hw iw_3 rfl hq (by decide) (by decide) fl_X3_30 rfl rfl dX3_start_91 ?_
        refine lv_iload_n hx hb dX3_start_94 rfl (lv_at hl 0 rfl) ?_
        refine lv_aload_n hx hb dX3_start_95 rfl (lv_at hl 2 rfl) ?_
        refine ti_get (ci := 8) (k := 0) (N := 12) (T := TX8) (v := .ref (A t 1)) C hw iw_8 rfl (ob_t ht) (by decide) (by decide) fl_X3_81 rfl rfl dX3_start_96 ?_
        refine lv_iload_n hx hb dX3_start_99 rfl (lv_at hl 0 rfl) ?_
        refine ti_aald (ci := 8) (k := 0) (n := 8) (t0 := 5) (Cn := RX2) (gg := (ti_men t)) (j := x_10.toNatClampNeg) C hw (ob_t ht) (by decide) (fun _ _ => rfl) rfl (vp_in_iff.mpr (by omega)) rfl dX3_start_100 ?_
        refine ti_get (ci := 2) (k := 5) (N := 10) (T := TX2) C hw iw_2 rfl ob_20 (by decide) (by decide) fl_X3_91 rfl rfl dX3_start_101 ?_
        refine lv_topi (fun x_25 ex_25 => ?_)
        refine ti_iast (ci := 3) (k := 12) (n := 8) C hw hq (by decide) (fun _ _ => rfl) (vp_in_iff.mpr (by omega)) dX3_start_104 (fun H locs hw => ?_)
        obtain ⟨M_26, hM_26⟩ : ∃ z : ti_M, z = uY M_24 q 12 (upd (tY M_24 q 12) (x_10 : Int32).toNatClampNeg x_25) := ⟨_, rfl⟩
        have hw := hw.to hM_26.symm
        have iM_26 : cI Tc M_26 := cI_up iM_24 hM_26 hq.1 trivial
        obtain ⟨x_27, ex_27⟩ : ∃ z : Int32, z = x_10 + 1 := ⟨_, rfl⟩
        have tx_27 : x_27.toInt = x_10.toInt + 1 := i_add ex_27 rfl (by decide) (by omega) (by omega)
        refine lv_iinc (v := x_27) (lv' := [(2, .int x_27), (0, .ref (A q 0)), (1, .ref (A t 0))]) hx hb dX3_start_105 hl (k := 0) rfl (by rw [ex_27]; rfl) (by decide) rfl (fun ls hl => ?_)
        refine lv_goto (tgt := 52) hx hb dX3_start_108 (by decide) ?_
        exact ih_17 x_27 M_26 _ _ _ (by omega) (by first | omega | decide) (by first | omega | decide) iM_26 ((rf_Y hM_26).trans ((rf_Y hM_24).trans ((rf_Y hM_22).trans f_14))) (fX.trans (fx_of (ra_Y hM_26)) (fX.trans (fx_of (ra_Y hM_24)) (fX.trans (fx_of (ra_Y hM_22)) f_15))) (eo.trans (eo_Y hM_26) (eo.trans (eo_Y hM_24) (eo.trans (eo_Y hM_22) f_16))) hw (lv_sub hl [0, 1, 2] rfl)
  exact hl_52_16 ((8 - 0 : Int).toNat + 1) 0 M_9 _ _ _ (Nat.lt_succ_self _) (by have lt0 : (0 : Int32).toInt = 0 := (by decide); first | omega | decide) (by have lt0 : (0 : Int32).toInt = 0 := (by decide); first | omega | decide) iM_9 ((rf_Y hM_9).trans ((rf_I hM_8).trans ((rf_I hM_6).trans ((rf_I hM_4).trans ((rf_I hM_3).trans ((rf_I hM_2).trans (rf_Tc hM_1 rfl))))))) (fX.trans (fx_of (ra_Y hM_9)) (fX.trans (fx_I hM_8 (fxn hq.1 (by decide))) (fX.trans (fx_I hM_6 (fxn hq.1 (by decide))) (fX.trans (fx_I hM_4 (fxn hq.1 (by decide))) (fX.trans (fx_I hM_3 (fxn hq.1 (by decide))) (fX.trans (fx_I hM_2 (fxn hq.1 (by decide))) (fx_of (ra_T hM_1)))))))) (eo.trans (eo_Y hM_9) (eo.trans (eo_I hM_8) (eo.trans (eo_I hM_6) (eo.trans (eo_I hM_4) (eo.trans (eo_I hM_3) (eo.trans (eo_I hM_2) (eo_T hM_1))))))) hw (lv_sub hl [0, 1, 2] rfl)
set_option maxHeartbeats 4000000 in
set_option maxRecDepth 100000 in
theorem f_X3_copy (l : Launch) (D : va_G) (A : Nat → Nat → Nat) (cy : Nat → ClassId) (hJ : ti_inj ti_LT A) (M : ti_M) (hI : cI Tc M) (q r t : Nat) (hq : ti_ob ti_LT q 3) (hr : ti_ob ti_LT r 3) (ht : t = 3 ∨ t = 4) (hT : tT M r 0 = some t) (hpr : cPer q → cPer r) : ti_Kv l yX3_copy cX3_copy 2 1 ti_LT D A cy M [.ref (A q 0), .ref (A r 0)] (fun M2 => eo q M2 M ∧ cI Tc M2 ∧ M2.2.2.2 = (uT M q 0 (some t)).2.2.2 ∧ fX M2 M) := by
  refine ti_eV yp_X3_copy hJ ti_LT_nd (Nat.le_of_ble_eq_true rfl) ?_
  intro p e s m args below meth c Q H0 C hQ hw ls hl
  have hx := C.1
  have hb := C.2.1
  have hl : lv_has ls 2 [(0, .ref (A q 0)), (1, .ref (A r 0))] := hl
  refine lv_aload_n hx hb dX3_copy_0 rfl (lv_at hl 0 rfl) ?_
  refine lv_aload_n hx hb dX3_copy_1 rfl (lv_at hl 1 rfl) ?_
  refine ti_get (ci := 3) (k := 0) (N := 17) (T := TX3) (v := .ref (A t 0)) C hw iw_3 rfl hr (by decide) (by decide) fl_X3_45 rfl (ti_Tv (hT)) dX3_copy_2 ?_
  refine ti_putT (ci := 3) (k := 0) (N := 17) (T := TX3) C hw iw_3 tyX3 tyX3_ok nmX3 rfl hq (by decide) (by decide) fl_X3_45 rfl rfl rfl rfl (fn_3 A _) fs_3_0 dX3_copy_5 (fun H locs hw => ?_)
  obtain ⟨M_1, hM_1⟩ : ∃ z : ti_M, z = uT M q 0 (some t) := ⟨_, rfl⟩
  have hw := hw.to hM_1.symm
  have iM_1 : cI Tc M_1 := cI_uT hI hM_1
  refine lv_aload_n hx hb dX3_copy_8 rfl (lv_at hl 0 rfl) ?_
  refine lv_aload_n hx hb dX3_copy_9 rfl (lv_at hl 1 rfl) ?_
  refine ti_get (ci := 3) (k := 1) (N := 17) (T := TX3) C hw iw_3 rfl hr (by decide) (by decide) fl_X3_49 rfl rfl dX3_copy_10 ?_
  refine lv_topi (fun x_2 ex_2 => ?_)
  refine ti_putI (ci := 3) (k := 1) (N := 17) (T := TX3) C hw iw_3 tyX3 tyX3_ok nmX3 rfl hq (by decide) (by decide) fl_X3_49 rfl rfl rfl rfl (fn_3 A _) fs_3_1 dX3_copy_13 (fun H locs hw => ?_)
  obtain ⟨M_3, hM_3⟩ : ∃ z : ti_M, z = uI M_1 q 1 x_2 := ⟨_, rfl⟩
  have hw := hw.to hM_3.symm
  have iM_3 : cI Tc M_3 := cI_uI iM_1 hM_3 hq.1 trivial
  refine lv_aload_n hx hb dX3_copy_16 rfl (lv_at hl 0 rfl) ?_
  refine lv_aload_n hx hb dX3_copy_17 rfl (lv_at hl 1 rfl) ?_
  refine ti_get (ci := 3) (k := 2) (N := 17) (T := TX3) C hw iw_3 rfl hr (by decide) (by decide) fl_X3_53 rfl rfl dX3_copy_18 ?_
  refine lv_topi (fun x_4 ex_4 => ?_)
  refine ti_putI (ci := 3) (k := 2) (N := 17) (T := TX3) C hw iw_3 tyX3 tyX3_ok nmX3 rfl hq (by decide) (by decide) fl_X3_53 rfl rfl rfl rfl (fn_3 A _) fs_3_2 dX3_copy_21 (fun H locs hw => ?_)
  obtain ⟨M_5, hM_5⟩ : ∃ z : ti_M, z = uI M_3 q 2 x_4 := ⟨_, rfl⟩
  have hw := hw.to hM_5.symm
  have iM_5 : cI Tc M_5 := cI_uI iM_3 hM_5 hq.1 (fun hp => cI_rd iM_3 hr.1 ex_4 (hpr hp))
  refine lv_aload_n hx hb dX3_copy_24 rfl (lv_at hl 0 rfl) ?_
  refine lv_aload_n hx hb dX3_copy_25 rfl (lv_at hl 1 rfl) ?_
  refine ti_get (ci := 3) (k := 3) (N := 17) (T := TX3) C hw iw_3 rfl hr (by decide) (by decide) fl_X3_56 rfl rfl dX3_copy_26 ?_
  refine lv_topi (fun x_6 ex_6 => ?_)
  have bx_6 : 0 ≤ x_6.toInt ∧ x_6.toInt ≤ 8 := cI_rd iM_5 hr.1 ex_6
  have ux_6 : (tI M_5 r 3).toInt = x_6.toInt := by rw [ex_6]
  refine ti_putI (ci := 3) (k := 3) (N := 17) (T := TX3) C hw iw_3 tyX3 tyX3_ok nmX3 rfl hq (by decide) (by decide) fl_X3_56 rfl rfl rfl rfl (fn_3 A _) fs_3_3 dX3_copy_29 (fun H locs hw => ?_)
  obtain ⟨M_7, hM_7⟩ : ∃ z : ti_M, z = uI M_5 q 3 x_6 := ⟨_, rfl⟩
  have hw := hw.to hM_7.symm
  have iM_7 : cI Tc M_7 := cI_uI iM_5 hM_7 hq.1 (ib_mk (lo := 0) (hi := 8) (by omega) (by omega))
  have vM_7 : (tI M_7 q 3).toInt = (x_6 : Int32).toInt := by rw [tI_uE hM_7]
  refine lv_aload_n hx hb dX3_copy_32 rfl (lv_at hl 0 rfl) ?_
  refine lv_aload_n hx hb dX3_copy_33 rfl (lv_at hl 1 rfl) ?_
  refine ti_get (ci := 3) (k := 4) (N := 17) (T := TX3) C hw iw_3 rfl hr (by decide) (by decide) fl_X3_64 rfl rfl dX3_copy_34 ?_
  refine lv_topi (fun x_8 ex_8 => ?_)
  refine ti_putI (ci := 3) (k := 4) (N := 17) (T := TX3) C hw iw_3 tyX3 tyX3_ok nmX3 rfl hq (by decide) (by decide) fl_X3_64 rfl rfl rfl rfl (fn_3 A _) fs_3_4 dX3_copy_37 (fun H locs hw => ?_)
  obtain ⟨M_9, hM_9⟩ : ∃ z : ti_M, z = uI M_7 q 4 x_8 := ⟨_, rfl⟩
  have hw := hw.to hM_9.symm
  have iM_9 : cI Tc M_9 := cI_uI iM_7 hM_9 hq.1 trivial
  refine lv_aload_n hx hb dX3_copy_40 rfl (lv_at hl 0 rfl) ?_
  refine lv_aload_n hx hb dX3_copy_41 rfl (lv_at hl 1 rfl) ?_
  refine ti_get (ci := 3) (k := 5) (N := 17) (T := TX3) C hw iw_3 rfl hr (by decide) (by decide) fl_X3_68 rfl rfl dX3_copy_42 ?_
  refine lv_topi (fun x_10 ex_10 => ?_)
  refine ti_putI (ci := 3) (k := 5) (N := 17) (T := TX3) C hw iw_3 tyX3 tyX3_ok nmX3 rfl hq (by decide) (by decide) fl_X3_68 rfl rfl rfl rfl (fn_3 A _) fs_3_5 dX3_copy_45 (fun H locs hw => ?_)
  obtain ⟨M_11, hM_11⟩ : ∃ z : ti_M, z = uI M_9 q 5 x_10 := ⟨_, rfl⟩
  have hw := hw.to hM_11.symm
  have iM_11 : cI Tc M_11 := cI_uI iM_9 hM_11 hq.1 trivial
  refine lv_aload_n hx hb dX3_copy_48 rfl (lv_at hl 1 rfl) ?_
  refine ti_get (ci := 3) (k := 6) (N := 17) (T := TX3) (v := .ref (A r 7)) C hw iw_3 rfl hr (by decide) (by decide) fl_X3_9 rfl rfl dX3_copy_49 ?_
  refine lv_iconst (v := 0) hx hb dX3_copy_52 (by decide) ?_
  refine lv_aload_n hx hb dX3_copy_53 rfl (lv_at hl 0 rfl) ?_
  refine ti_get (ci := 3) (k := 6) (N := 17) (T := TX3) (v := .ref (A q 7)) C hw iw_3 rfl hq (by decide) (by decide) fl_X3_9 rfl rfl dX3_copy_54 ?_
  refine lv_iconst (v := 0) hx hb dX3_copy_57 (by decide) ?_
  refine lv_bipush (v := 8) hx hb dX3_copy_58 (by decide) ?_
  refine ti_copy (c1 := 3) (k1 := 6) (n1 := 8) (c2 := 3) (k2 := 6) (n2 := 8) C hw ml_X3_72 sy_nat sy_sta sy_ini hr (by decide) (fun _ _ => rfl) hq (by decide) (fun _ _ => rfl) hl.1 (by decide) (by decide) (by decide) (by decide) (by decide) (by decide) (Nat.le_of_ble_eq_true rfl) dX3_copy_60 (fun H locs hw => ?_)
  obtain ⟨M_12, hM_12⟩ : ∃ z : ti_M, z = uY M_11 q 6 (va_cpy (tY M_11 r 6) (tY M_11 q 6) (0 : Int32).toNatClampNeg (0 : Int32).toNatClampNeg (8 : Int32).toNatClampNeg) := ⟨_, rfl⟩
  have hw := hw.to hM_12.symm
  have iM_12 : cI Tc M_12 := cI_cp iM_11 hM_12 hq.1 (fun i => cI_ry iM_11 hr.1 rfl)
  refine lv_aload_n hx hb dX3_copy_63 rfl (lv_at hl 1 rfl) ?_
  refine ti_get (ci := 3) (k := 7) (N := 17) (T := TX3) (v := .ref (A r 8)) C hw iw_3 rfl hr (by decide) (by decide) fl_X3_15 rfl rfl dX3_copy_64 ?_
  refine lv_iconst (v := 0) hx hb dX3_copy_67 (by decide) ?_
  refine lv_aload_n hx hb dX3_copy_68 rfl (lv_at hl 0 rfl) ?_
  refine ti_get (ci := 3) (k := 7) (N := 17) (T := TX3) (v := .ref (A q 8)) C hw iw_3 rfl hq (by decide) (by decide) fl_X3_15 rfl rfl dX3_copy_69 ?_
  refine lv_iconst (v := 0) hx hb dX3_copy_72 (by decide) ?_
  refine lv_iconst (v := 3) hx hb dX3_copy_73 (by decide) ?_
  refine ti_copy (c1 := 3) (k1 := 7) (n1 := 3) (c2 := 3) (k2 := 7) (n2 := 3) C hw ml_X3_72 sy_nat sy_sta sy_ini hr (by decide) (fun _ _ => rfl) hq (by decide) (fun _ _ => rfl) hl.1 (by decide) (by decide) (by decide) (by decide) (by decide) (by decide) (Nat.le_of_ble_eq_true rfl) dX3_copy_74 (fun H locs hw => ?_)
  obtain ⟨M_13, hM_13⟩ : ∃ z : ti_M, z = uY M_12 q 7 (va_cpy (tY M_12 r 7) (tY M_12 q 7) (0 : Int32).toNatClampNeg (0 : Int32).toNatClampNeg (3 : Int32).toNatClampNeg) := ⟨_, rfl⟩
  have hw := hw.to hM_13.symm
  have iM_13 : cI Tc M_13 := cI_cp iM_12 hM_13 hq.1 (fun _ => trivial)
  refine lv_aload_n hx hb dX3_copy_77 rfl (lv_at hl 1 rfl) ?_
  refine ti_get (ci := 3) (k := 8) (N := 17) (T := TX3) (v := .ref (A r 9)) C hw iw_3 rfl hr (by decide) (by decide) fl_X3_18 rfl rfl dX3_copy_78 ?_
  refine lv_iconst (v := 0) hx hb dX3_copy_81 (by decide) ?_
  refine lv_aload_n hx hb dX3_copy_82 rfl (lv_at hl 0 rfl) ?_
  refine ti_get (ci := 3) (k := 8) (N := 17) (T := TX3) (v := .ref (A q 9)) C hw iw_3 rfl hq (by decide) (by decide) fl_X3_18 rfl rfl dX3_copy_83 ?_
  refine lv_iconst (v := 0) hx hb dX3_copy_86 (by decide) ?_
  refine lv_bipush (v := 8) hx hb dX3_copy_87 (by decide) ?_
  refine ti_copy (c1 := 3) (k1 := 8) (n1 := 8) (c2 := 3) (k2 := 8) (n2 := 8) C hw ml_X3_72 sy_nat sy_sta sy_ini hr (by decide) (fun _ _ => rfl) hq (by decide) (fun _ _ => rfl) hl.1 (by decide) (by decide) (by decide) (by decide) (by decide) (by decide) (Nat.le_of_ble_eq_true rfl) dX3_copy_89 (fun H locs hw => ?_)
  obtain ⟨M_14, hM_14⟩ : ∃ z : ti_M, z = uY M_13 q 8 (va_cpy (tY M_13 r 8) (tY M_13 q 8) (0 : Int32).toNatClampNeg (0 : Int32).toNatClampNeg (8 : Int32).toNatClampNeg) := ⟨_, rfl⟩
  have hw := hw.to hM_14.symm
  have iM_14 : cI Tc M_14 := cI_cp iM_13 hM_14 hq.1 (fun _ => trivial)
  refine lv_aload_n hx hb dX3_copy_92 rfl (lv_at hl 1 rfl) ?_
  refine ti_get (ci := 3) (k := 9) (N := 17) (T := TX3) (v := .ref (A r 10)) C hw iw_3 rfl hr (by decide) (by decide) fl_X3_21 rfl rfl dX3_copy_93 ?_
  refine lv_iconst (v := 0) hx hb dX3_copy_96 (by decide) ?_
  refine lv_aload_n hx hb dX3_copy_97 rfl (lv_at hl 0 rfl) ?_
  refine ti_get (ci := 3) (k := 9) (N := 17) (T := TX3) (v := .ref (A q 10)) C hw iw_3 rfl hq (by decide) (by decide) fl_X3_21 rfl rfl dX3_copy_98 ?_
  refine lv_iconst (v := 0) hx hb dX3_copy_101 (by decide) ?_
  refine lv_bipush (v := 8) hx hb dX3_copy_102 (by decide) ?_
  refine ti_copy (c1 := 3) (k1 := 9) (n1 := 8) (c2 := 3) (k2 := 9) (n2 := 8) C hw ml_X3_72 sy_nat sy_sta sy_ini hr (by decide) (fun _ _ => rfl) hq (by decide) (fun _ _ => rfl) hl.1 (by decide) (by decide) (by decide) (by decide) (by decide) (by decide) (Nat.le_of_ble_eq_true rfl) dX3_copy_104 (fun H locs hw => ?_)
  obtain ⟨M_15, hM_15⟩ : ∃ z : ti_M, z = uY M_14 q 9 (va_cpy (tY M_14 r 9) (tY M_14 q 9) (0 : Int32).toNatClampNeg (0 : Int32).toNatClampNeg (8 : Int32).toNatClampNeg) := ⟨_, rfl⟩
  have hw := hw.to hM_15.symm
  have iM_15 : cI Tc M_15 := cI_cp iM_14 hM_15 hq.1 (fun _ => trivial)
  refine lv_aload_n hx hb dX3_copy_107 rfl (lv_at hl 1 rfl) ?_
  refine ti_get (ci := 3) (k := 10) (N := 17) (T := TX3) (v := .ref (A r 11)) C hw iw_3 rfl hr (by decide) (by decide) fl_X3_24 rfl rfl dX3_copy_108 ?_
  refine lv_iconst (v := 0) hx hb dX3_copy_111 (by decide) ?_
  refine lv_aload_n hx hb dX3_copy_112 rfl (lv_at hl 0 rfl) ?_
  refine ti_get (ci := 3) (k := 10) (N := 17) (T := TX3) (v := .ref (A q 11)) C hw iw_3 rfl hq (by decide) (by decide) fl_X3_24 rfl rfl dX3_copy_113 ?_
  refine lv_iconst (v := 0) hx hb dX3_copy_116 (by decide) ?_
  refine lv_bipush (v := 8) hx hb dX3_copy_117 (by decide) ?_
  refine ti_copy (c1 := 3) (k1 := 10) (n1 := 8) (c2 := 3) (k2 := 10) (n2 := 8) C hw ml_X3_72 sy_nat sy_sta sy_ini hr (by decide) (fun _ _ => rfl) hq (by decide) (fun _ _ => rfl) hl.1 (by decide) (by decide) (by decide) (by decide) (by decide) (by decide) (Nat.le_of_ble_eq_true rfl) dX3_copy_119 (fun H locs hw => ?_)
  obtain ⟨M_16, hM_16⟩ : ∃ z : ti_M, z = uY M_15 q 10 (va_cpy (tY M_15 r 10) (tY M_15 q 10) (0 : Int32).toNatClampNeg (0 : Int32).toNatClampNeg (8 : Int32).toNatClampNeg) := ⟨_, rfl⟩
  have hw := hw.to hM_16.symm
  have iM_16 : cI Tc M_16 := cI_cp iM_15 hM_16 hq.1 (fun _ => trivial)
  refine lv_aload_n hx hb dX3_copy_122 rfl (lv_at hl 1 rfl) ?_
  refine ti_get (ci := 3) (k := 11) (N := 17) (T := TX3) (v := .ref (A r 12)) C hw iw_3 rfl hr (by decide) (by decide) fl_X3_27 rfl rfl dX3_copy_123 ?_
  refine lv_iconst (v := 0) hx hb dX3_copy_126 (by decide) ?_
  refine lv_aload_n hx hb dX3_copy_127 rfl (lv_at hl 0 rfl) ?_
  refine ti_get (ci := 3) (k := 11) (N := 17) (T := TX3) (v := .ref (A q 12)) C hw iw_3 rfl hq (by decide) (by decide) fl_X3_27 rfl rfl dX3_copy_128 ?_
  refine lv_iconst (v := 0) hx hb dX3_copy_131 (by decide) ?_
  refine lv_bipush (v := 8) hx hb dX3_copy_132 (by decide) ?_
  refine ti_copy (c1 := 3) (k1 := 11) (n1 := 8) (c2 := 3) (k2 := 11) (n2 := 8) C hw ml_X3_72 sy_nat sy_sta sy_ini hr (by decide) (fun _ _ => rfl) hq (by decide) (fun _ _ => rfl) hl.1 (by decide) (by decide) (by decide) (by decide) (by decide) (by decide) (Nat.le_of_ble_eq_true rfl) dX3_copy_134 (fun H locs hw => ?_)
  obtain ⟨M_17, hM_17⟩ : ∃ z : ti_M, z = uY M_16 q 11 (va_cpy (tY M_16 r 11) (tY M_16 q 11) (0 : Int32).toNatClampNeg (0 : Int32).toNatClampNeg (8 : Int32).toNatClampNeg) := ⟨_, rfl⟩
  have hw := hw.to hM_17.symm
  have iM_17 : cI Tc M_17 := cI_cp iM_16 hM_17 hq.1 (fun _ => trivial)
  refine lv_aload_n hx hb dX3_copy_137 rfl (lv_at hl 1 rfl) ?_
  refine ti_get (ci := 3) (k := 12) (N := 17) (T := TX3) (v := .ref (A r 13)) C hw iw_3 rfl hr (by decide) (by decide) fl_X3_30 rfl rfl dX3_copy_138 ?_
  refine lv_iconst (v := 0) hx hb dX3_copy_141 (by decide) ?_
  refine lv_aload_n hx hb dX3_copy_142 rfl (lv_at hl 0 rfl) ?_
  refine ti_get (ci := 3) (k := 12) (N := 17) (T := TX3) (v := .ref (A q 13)) C hw iw_3 rfl hq (by decide) (by decide) fl_X3_30 rfl rfl dX3_copy_143 ?_
  refine lv_iconst (v := 0) hx hb dX3_copy_146 (by decide) ?_
  refine lv_bipush (v := 8) hx hb dX3_copy_147 (by decide) ?_
  refine ti_copy (c1 := 3) (k1 := 12) (n1 := 8) (c2 := 3) (k2 := 12) (n2 := 8) C hw ml_X3_72 sy_nat sy_sta sy_ini hr (by decide) (fun _ _ => rfl) hq (by decide) (fun _ _ => rfl) hl.1 (by decide) (by decide) (by decide) (by decide) (by decide) (by decide) (Nat.le_of_ble_eq_true rfl) dX3_copy_149 (fun H locs hw => ?_)
  obtain ⟨M_18, hM_18⟩ : ∃ z : ti_M, z = uY M_17 q 12 (va_cpy (tY M_17 r 12) (tY M_17 q 12) (0 : Int32).toNatClampNeg (0 : Int32).toNatClampNeg (8 : Int32).toNatClampNeg) := ⟨_, rfl⟩
  have hw := hw.to hM_18.symm
  have iM_18 : cI Tc M_18 := cI_cp iM_17 hM_18 hq.1 (fun _ => trivial)
  refine lv_aload_n hx hb dX3_copy_152 rfl (lv_at hl 1 rfl) ?_
  refine ti_get (ci := 3) (k := 13) (N := 17) (T := TX3) (v := .ref (A r 14)) C hw iw_3 rfl hr (by decide) (by decide) fl_X3_33 rfl rfl dX3_copy_153 ?_
  refine lv_iconst (v := 0) hx hb dX3_copy_156 (by decide) ?_
  refine lv_aload_n hx hb dX3_copy_157 rfl (lv_at hl 0 rfl) ?_
  refine ti_get (ci := 3) (k := 13) (N := 17) (T := TX3) (v := .ref (A q 14)) C hw iw_3 rfl hq (by decide) (by decide) fl_X3_33 rfl rfl dX3_copy_158 ?_
  refine lv_iconst (v := 0) hx hb dX3_copy_161 (by decide) ?_
  refine lv_bipush (v := 8) hx hb dX3_copy_162 (by decide) ?_
  refine ti_copy (c1 := 3) (k1 := 13) (n1 := 8) (c2 := 3) (k2 := 13) (n2 := 8) C hw ml_X3_72 sy_nat sy_sta sy_ini hr (by decide) (fun _ _ => rfl) hq (by decide) (fun _ _ => rfl) hl.1 (by decide) (by decide) (by decide) (by decide) (by decide) (by decide) (Nat.le_of_ble_eq_true rfl) dX3_copy_164 (fun H locs hw => ?_)
  obtain ⟨M_19, hM_19⟩ : ∃ z : ti_M, z = uY M_18 q 13 (va_cpy (tY M_18 r 13) (tY M_18 q 13) (0 : Int32).toNatClampNeg (0 : Int32).toNatClampNeg (8 : Int32).toNatClampNeg) := ⟨_, rfl⟩
  have hw := hw.to hM_19.symm
  have iM_19 : cI Tc M_19 := cI_cp iM_18 hM_19 hq.1 (fun _ => trivial)
  refine lv_aload_n hx hb dX3_copy_167 rfl (lv_at hl 1 rfl) ?_
  refine ti_get (ci := 3) (k := 14) (N := 17) (T := TX3) (v := .ref (A r 15)) C hw iw_3 rfl hr (by decide) (by decide) fl_X3_36 rfl rfl dX3_copy_168 ?_
  refine lv_iconst (v := 0) hx hb dX3_copy_171 (by decide) ?_
  refine lv_aload_n hx hb dX3_copy_172 rfl (lv_at hl 0 rfl) ?_
  refine ti_get (ci := 3) (k := 14) (N := 17) (T := TX3) (v := .ref (A q 15)) C hw iw_3 rfl hq (by decide) (by decide) fl_X3_36 rfl rfl dX3_copy_173 ?_
  refine lv_iconst (v := 0) hx hb dX3_copy_176 (by decide) ?_
  refine lv_bipush (v := 8) hx hb dX3_copy_177 (by decide) ?_
  refine ti_copy (c1 := 3) (k1 := 14) (n1 := 8) (c2 := 3) (k2 := 14) (n2 := 8) C hw ml_X3_72 sy_nat sy_sta sy_ini hr (by decide) (fun _ _ => rfl) hq (by decide) (fun _ _ => rfl) hl.1 (by decide) (by decide) (by decide) (by decide) (by decide) (by decide) (Nat.le_of_ble_eq_true rfl) dX3_copy_179 (fun H locs hw => ?_)
  obtain ⟨M_20, hM_20⟩ : ∃ z : ti_M, z = uY M_19 q 14 (va_cpy (tY M_19 r 14) (tY M_19 q 14) (0 : Int32).toNatClampNeg (0 : Int32).toNatClampNeg (8 : Int32).toNatClampNeg) := ⟨_, rfl⟩
  have hw := hw.to hM_20.symm
  have iM_20 : cI Tc M_20 := cI_cp iM_19 hM_20 hq.1 (fun _ => trivial)
  refine lv_aload_n hx hb dX3_copy_182 rfl (lv_at hl 1 rfl) ?_
  refine ti_get (ci := 3) (k := 15) (N := 17) (T := TX3) (v := .ref (A r 16)) C hw iw_3 rfl hr (by decide) (by decide) fl_X3_39 rfl rfl dX3_copy_183 ?_
  refine lv_iconst (v := 0) hx hb dX3_copy_186 (by decide) ?_
  refine lv_aload_n hx hb dX3_copy_187 rfl (lv_at hl 0 rfl) ?_
  refine ti_get (ci := 3) (k := 15) (N := 17) (T := TX3) (v := .ref (A q 16)) C hw iw_3 rfl hq (by decide) (by decide) fl_X3_39 rfl rfl dX3_copy_188 ?_
  refine lv_iconst (v := 0) hx hb dX3_copy_191 (by decide) ?_
  refine lv_bipush (v := 8) hx hb dX3_copy_192 (by decide) ?_
  refine ti_copy (c1 := 3) (k1 := 15) (n1 := 8) (c2 := 3) (k2 := 15) (n2 := 8) C hw ml_X3_72 sy_nat sy_sta sy_ini hr (by decide) (fun _ _ => rfl) hq (by decide) (fun _ _ => rfl) hl.1 (by decide) (by decide) (by decide) (by decide) (by decide) (by decide) (Nat.le_of_ble_eq_true rfl) dX3_copy_194 (fun H locs hw => ?_)
  obtain ⟨M_21, hM_21⟩ : ∃ z : ti_M, z = uY M_20 q 15 (va_cpy (tY M_20 r 15) (tY M_20 q 15) (0 : Int32).toNatClampNeg (0 : Int32).toNatClampNeg (8 : Int32).toNatClampNeg) := ⟨_, rfl⟩
  have hw := hw.to hM_21.symm
  have iM_21 : cI Tc M_21 := cI_cp iM_20 hM_21 hq.1 (fun _ => trivial)
  refine lv_aload_n hx hb dX3_copy_197 rfl (lv_at hl 1 rfl) ?_
  refine ti_get (ci := 3) (k := 16) (N := 17) (T := TX3) (v := .ref (A r 17)) C hw iw_3 rfl hr (by decide) (by decide) fl_X3_42 rfl rfl dX3_copy_198 ?_
  refine lv_iconst (v := 0) hx hb dX3_copy_201 (by decide) ?_
  refine lv_aload_n hx hb dX3_copy_202 rfl (lv_at hl 0 rfl) ?_
  refine ti_get (ci := 3) (k := 16) (N := 17) (T := TX3) (v := .ref (A q 17)) C hw iw_3 rfl hq (by decide) (by decide) fl_X3_42 rfl rfl dX3_copy_203 ?_
  refine lv_iconst (v := 0) hx hb dX3_copy_206 (by decide) ?_
  refine lv_bipush (v := 8) hx hb dX3_copy_207 (by decide) ?_
  refine ti_copy (c1 := 3) (k1 := 16) (n1 := 8) (c2 := 3) (k2 := 16) (n2 := 8) C hw ml_X3_72 sy_nat sy_sta sy_ini hr (by decide) (fun _ _ => rfl) hq (by decide) (fun _ _ => rfl) hl.1 (by decide) (by decide) (by decide) (by decide) (by decide) (by decide) (Nat.le_of_ble_eq_true rfl) dX3_copy_209 (fun H locs hw => ?_)
  obtain ⟨M_22, hM_22⟩ : ∃ z : ti_M, z = uY M_21 q 16 (va_cpy (tY M_21 r 16) (tY M_21 q 16) (0 : Int32).toNatClampNeg (0 : Int32).toNatClampNeg (8 : Int32).toNatClampNeg) := ⟨_, rfl⟩
  have hw := hw.to hM_22.symm
  have iM_22 : cI Tc M_22 := cI_cp iM_21 hM_22 hq.1 (fun _ => trivial)
  exact hQ _ _ _ _ _ hw (⟨(eo.trans (eo_Y hM_22) (eo.trans (eo_Y hM_21) (eo.trans (eo_Y hM_20) (eo.trans (eo_Y hM_19) (eo.trans (eo_Y hM_18) (eo.trans (eo_Y hM_17) (eo.trans (eo_Y hM_16) (eo.trans (eo_Y hM_15) (eo.trans (eo_Y hM_14) (eo.trans (eo_Y hM_13) (eo.trans (eo_Y hM_12) (eo.trans (eo_I hM_11) (eo.trans (eo_I hM_9) (eo.trans (eo_I hM_7) (eo.trans (eo_I hM_5) (eo.trans (eo_I hM_3) (eo_T hM_1))))))))))))))))), iM_22, ((rf_Y hM_22).trans ((rf_Y hM_21).trans ((rf_Y hM_20).trans ((rf_Y hM_19).trans ((rf_Y hM_18).trans ((rf_Y hM_17).trans ((rf_Y hM_16).trans ((rf_Y hM_15).trans ((rf_Y hM_14).trans ((rf_Y hM_13).trans ((rf_Y hM_12).trans ((rf_I hM_11).trans ((rf_I hM_9).trans ((rf_I hM_7).trans ((rf_I hM_5).trans ((rf_I hM_3).trans (rf_Tc hM_1 rfl))))))))))))))))), (fX.trans (fx_of (ra_Y hM_22)) (fX.trans (fx_of (ra_Y hM_21)) (fX.trans (fx_of (ra_Y hM_20)) (fX.trans (fx_of (ra_Y hM_19)) (fX.trans (fx_of (ra_Y hM_18)) (fX.trans (fx_of (ra_Y hM_17)) (fX.trans (fx_of (ra_Y hM_16)) (fX.trans (fx_of (ra_Y hM_15)) (fX.trans (fx_of (ra_Y hM_14)) (fX.trans (fx_of (ra_Y hM_13)) (fX.trans (fx_of (ra_Y hM_12)) (fX.trans (fx_I hM_11 (fxn hq.1 (by decide))) (fX.trans (fx_I hM_9 (fxn hq.1 (by decide))) (fX.trans (fx_I hM_7 (fxn hq.1 (by decide))) (fX.trans (fx_I hM_5 (fxn hq.1 (by decide))) (fX.trans (fx_I hM_3 (fxn hq.1 (by decide))) (fx_of (ra_T hM_1))))))))))))))))))⟩) dX3_copy_212
set_option maxHeartbeats 4000000 in
set_option maxRecDepth 100000 in
theorem f_X6_markStruck (l : Launch) (D : va_G) (A : Nat → Nat → Nat) (cy : Nat → ClassId) (hJ : ti_inj ti_LT A) (M : ti_M) (hI : cI Tc M)  : ti_Kv l yX6_markStruck cX6_markStruck 2 1 ti_LT D A cy M [.ref (A 50 0)] (fun M2 => fS M2 M ∧ cI Tc M2 ∧ M2.2.2.2 = M.2.2.2 ∧ fX M2 M) := by
  refine ti_eV yp_X6_markStruck hJ ti_LT_nd (Nat.le_of_ble_eq_true rfl) ?_
  intro p e s m args below meth c Q H0 C hQ hw ls hl
  have hx := C.1
  have hb := C.2.1
  have hl : lv_has ls 2 [(0, .ref (A 50 0))] := hl
  refine lv_aload_n hx hb dX6_markStruck_0 rfl (lv_at hl 0 rfl) ?_
  refine lv_iconst (v := 0) hx hb dX6_markStruck_1 (by decide) ?_
  refine ti_putI (ci := 6) (k := 4) (N := 13) (T := TX6) C hw iw_6 tyX6 tyX6_ok nmX6 rfl ob_50 (by decide) (by decide) fl_X6_24 rfl rfl rfl rfl (fn_6 A _) fs_6_4 dX6_markStruck_2 (fun H locs hw => ?_)
  obtain ⟨M_1, hM_1⟩ : ∃ z : ti_M, z = uI M 50 4 0 := ⟨_, rfl⟩
  have hw := hw.to hM_1.symm
  have iM_1 : cI Tc M_1 := cI_uI hI hM_1 ob_50.1 trivial
  refine lv_aload_n hx hb dX6_markStruck_5 rfl (lv_at hl 0 rfl) ?_
  refine ti_callVi (ci := 6) (av := []) C hw (s_X6_knownBy l D A cy hJ M_1 iM_1 ) ⟨ml_X6_98, ym_X6_knownBy, yv_X6_knownBy, yi_X6_knownBy, yc_X6_knownBy⟩ yd_X6_knownBy ob_50 (by decide) rfl rfl hl.1 (Nat.le_of_ble_eq_true rfl) ⟨by decide, by decide⟩ ⟨Nat.zero_le _, Nat.zero_le _⟩ dX6_markStruck_6 (fun r_2 M_3 H locs hp_3 hw => ?_)
  obtain ⟨hm, b0r_2, b1r_2⟩ := hp_3
  have hw := hw.to hm
  refine lv_iconst (v := 1) hx hb dX6_markStruck_9 (by decide) ?_
  refine lv_isub hx hb dX6_markStruck_10 ?_
  refine lv_topi (fun x_4 ex_4 => ?_)
  have tx_4 : x_4.toInt = r_2.toInt - 1 := i_sub ex_4 rfl (by decide : (1 : Int32).toInt = 1) (by omega) (by omega)
  refine lv_istore_n (lv' := [(1, .int x_4), (0, .ref (A 50 0))]) hx hb dX6_markStruck_11 rfl hl (by decide) rfl (fun ls hl => ?_)
  have hl_12_11 : ∀ (n_12 : Nat) (x_5 : Int32) (M_8 : ti_M) (H : Heap) (locs : List Loc) (ls : Array Slot), (x_5.toInt + 1 : Int).toNat < n_12 → ((-1) ≤ x_5.toInt) → (x_5.toInt ≤ 23) → (cI Tc M_8) → (M_8.2.2.2 = M.2.2.2) → (fX M_8 M) → (fS M_8 M) → ti_H ti_LT D A cy H0 M_8 H locs → lv_has ls 2 [(1, .int x_5), (0, .ref (A 50 0))] → W p l e (ti_rm 1) s m args below meth c H locs 0 0 Q (F0 m 12 ls []) := by
    intro n_12
    induction n_12 with
    | zero => intro x_5 M_8 H locs ls hf_12; exact absurd hf_12 (Nat.not_lt_zero _)
    | succ n_12 ih_12 =>
      intro x_5 M_8 H locs ls hf_12 b_6 b_7 iM_8 f_9 f_10 f_11 hw hl
      refine lv_iload_n hx hb dX6_markStruck_12 rfl (lv_at hl 0 rfl) ?_
      refine sb_if_lt (tgt := 60) hx hb rfl dX6_markStruck_13 (by decide) (fun c_13_12 => ?_) (fun c_13_12 => ?_)
      · exact hQ _ _ _ _ _ hw (⟨f_11, iM_8, (f_9), f_10⟩) dX6_markStruck_60
      · refine lv_aload_n hx hb dX6_markStruck_16 rfl (lv_at hl 1 rfl) ?_
        refine ti_get (ci := 6) (k := 4) (N := 13) (T := TX6) C hw iw_6 rfl ob_50 (by decide) (by decide) fl_X6_24 rfl rfl dX6_markStruck_17 ?_
        refine lv_topi (fun x_14 ex_14 => ?_)
        refine lv_iload_n hx hb dX6_markStruck_20 rfl (lv_at hl 0 rfl) ?_
        refine lv_ishr hx hb dX6_markStruck_21 ?_
        refine lv_topi (fun x_15 ex_15 => ?_)
        refine lv_iconst (v := 1) hx hb dX6_markStruck_22 (by decide) ?_
        refine lv_iand hx hb dX6_markStruck_23 ?_
        refine lv_topi (fun x_16 ex_16 => ?_)
        have bx_16 := i_and 1 ex_16 (by decide) (by decide)
        have hj_54_27 : ∀ (M_24 : ti_M) (H : Heap) (locs : List Loc) (ls : Array Slot), (cI Tc M_24) → (M_24.2.2.2 = M.2.2.2) → (fX M_24 M) → (fS M_24 M) → ti_H ti_LT D A cy H0 M_24 H locs → lv_has ls 2 [(1, .int x_5), (0, .ref (A 50 0))] → W p l e (ti_rm 1) s m args below meth c H locs 0 0 Q (F0 m 54 ls []) := by
          intro M_24 H locs ls iM_24 f_25 f_26 f_27 hw hl
          obtain ⟨x_28, ex_28⟩ : ∃ z : Int32, z = x_5 + (-1) := ⟨_, rfl⟩
          have tx_28 : x_28.toInt = x_5.toInt + (-1) := i_add ex_28 rfl (by decide) (by omega) (by omega)
          refine lv_iinc (v := x_28) (lv' := [(1, .int x_28), (0, .ref (A 50 0))]) hx hb dX6_markStruck_54 hl (k := 0) rfl (by rw [ex_28]; rfl) (by decide) rfl (fun ls hl => ?_)
          refine lv_goto (tgt := 12) hx hb dX6_markStruck_57 (by decide) ?_
          exact ih_12 x_28 M_24 _ _ _ (by omega) (by first | omega | decide) (by first | omega | decide) iM_24 (f_25) f_26 f_27 hw (lv_sub hl [0, 1] rfl)
        refine sb_if_ne (tgt := 54) hx hb rfl dX6_markStruck_24 (by decide) (fun c_24_16 => ?_) (fun c_24_16 => ?_)
        · exact hj_54_27 M_8 _ _ _ iM_8 (f_9) f_10 f_11 hw (lv_sub hl [0, 1] rfl)
        · refine lv_aload_n hx hb dX6_markStruck_27 rfl (lv_at hl 1 rfl) ?_
          refine ti_get (ci := 6) (k := 3) (N := 13) (T := TX6) (v := .ref (A 50 4)) C hw iw_6 rfl ob_50 (by decide) (by decide) fl_X6_21 rfl rfl dX6_markStruck_28 ?_
          refine lv_iload_n hx hb dX6_markStruck_31 rfl (lv_at hl 0 rfl) ?_
          refine ti_iald (ci := 6) (k := 3) (n := 24) C hw ob_50 (by decide) (fun _ _ => rfl) (vp_in_iff.mpr (by omega)) dX6_markStruck_32 ?_
          refine lv_topi (fun x_18 ex_18 => ?_)
          refine lv_iconst (v := (-1)) hx hb dX6_markStruck_33 (by decide) ?_
          refine sb_icmp_eq (tgt := 54) hx hb rfl (by decide : ((-1) : Int32).toInt = (-1)) dX6_markStruck_34 (by decide) (fun c_34_18 => ?_) (fun c_34_18 => ?_)
          · exact hj_54_27 M_8 _ _ _ iM_8 (f_9) f_10 f_11 hw (lv_sub hl [0, 1] rfl)
          · refine lv_aload_n hx hb dX6_markStruck_37 rfl (lv_at hl 1 rfl) ?_
            refine lv_dup hx hb dX6_markStruck_38 rfl ?_
            refine ti_get (ci := 6) (k := 4) (N := 13) (T := TX6) C hw iw_6 rfl ob_50 (by decide) (by decide) fl_X6_24 rfl rfl dX6_markStruck_39 ?_
            refine ti_top (y := x_14) (ex_14.symm) ?_
            refine lv_iconst (v := 1) hx hb dX6_markStruck_42 (by decide) ?_
            refine lv_aload_n hx hb dX6_markStruck_43 rfl (lv_at hl 1 rfl) ?_
            refine ti_get (ci := 6) (k := 3) (N := 13) (T := TX6) (v := .ref (A 50 4)) C hw iw_6 rfl ob_50 (by decide) (by decide) fl_X6_21 rfl rfl dX6_markStruck_44 ?_
            refine lv_iload_n hx hb dX6_markStruck_47 rfl (lv_at hl 0 rfl) ?_
            refine ti_iald (ci := 6) (k := 3) (n := 24) C hw ob_50 (by decide) (fun _ _ => rfl) (vp_in_iff.mpr (by omega)) dX6_markStruck_48 ?_
            refine lv_topi (fun x_20 ex_20 => ?_)
            refine lv_ishl hx hb dX6_markStruck_49 ?_
            refine lv_topi (fun x_21 ex_21 => ?_)
            refine lv_ior hx hb dX6_markStruck_50 ?_
            refine lv_topi (fun x_22 ex_22 => ?_)
            refine ti_putI (ci := 6) (k := 4) (N := 13) (T := TX6) C hw iw_6 tyX6 tyX6_ok nmX6 rfl ob_50 (by decide) (by decide) fl_X6_24 rfl rfl rfl rfl (fn_6 A _) fs_6_4 dX6_markStruck_51 (fun H locs hw => ?_)
            obtain ⟨M_23, hM_23⟩ : ∃ z : ti_M, z = uI M_8 50 4 x_22 := ⟨_, rfl⟩
            have hw := hw.to hM_23.symm
            have iM_23 : cI Tc M_23 := cI_uI iM_8 hM_23 ob_50.1 trivial
            exact hj_54_27 M_23 _ _ _ iM_23 ((rf_I hM_23).trans f_9) (fX.trans (fx_I hM_23 (by decide)) f_10) (fS.trans (fS_I hM_23 (by decide)) f_11) hw (lv_sub hl [0, 1] rfl)
  exact hl_12_11 ((x_4.toInt + 1 : Int).toNat + 1) x_4 M_1 _ _ _ (Nat.lt_succ_self _) (by first | omega | decide) (by first | omega | decide) iM_1 (rf_I hM_1) (fx_I hM_1 (by decide)) (fS_I hM_1 (by decide)) hw (lv_sub hl [0, 1] rfl)
set_option maxHeartbeats 4000000 in
set_option maxRecDepth 100000 in
theorem f_X6_fitsThrough (l : Launch) (D : va_G) (A : Nat → Nat → Nat) (cy : Nat → ClassId) (hJ : ti_inj ti_LT A) (M : ti_M) (hI : cI Tc M) (t : Nat) (ht : t = 3 ∨ t = 4) (hT : tT M 52 0 = some t) (la : Int32) (h1 : la.toInt ≤ 59) : ti_Ki l yX6_fitsThrough cX6_fitsThrough 3 (some .boolean) 5 ti_LT D A cy M [.ref (A 50 0), .int la] (fun r M2 => fS M2 M ∧ cI Tc M2 ∧ M2.2.2.2 = M.2.2.2 ∧ fX M2 M ∧ 0 ≤ r.toInt ∧ r.toInt ≤ 1) := by
  refine ti_eI yp_X6_fitsThrough hJ ti_LT_nd (Nat.le_of_ble_eq_true rfl) ?_
  intro p e s m args below meth c Q H0 C hQ hw ls hl
  have hx := C.1
  have hb := C.2.1
  have hl : lv_has ls 3 [(0, .ref (A 50 0)), (1, .int la)] := hl
  refine lv_aload_n hx hb dX6_fitsThrough_0 rfl (lv_at hl 0 rfl) ?_
  refine ti_get (ci := 6) (k := 12) (N := 13) (T := TX6) (v := .ref (A 52 0)) C hw iw_6 rfl ob_50 (by decide) (by decide) fl_X6_54 rfl rfl dX6_fitsThrough_1 ?_
  refine ti_get (ci := 3) (k := 2) (N := 17) (T := TX3) C hw iw_3 rfl ob_52 (by decide) (by decide) fl_X6_110 rfl rfl dX6_fitsThrough_4 ?_
  refine lv_topi (fun x_1 ex_1 => ?_)
  refine lv_istore_n (lv' := [(2, .int x_1), (0, .ref (A 50 0)), (1, .int la)]) hx hb dX6_fitsThrough_7 rfl hl (by decide) rfl (fun ls hl => ?_)
  have hl_8_6 : ∀ (n_7 : Nat) (x_2 : Int32) (M_3 : ti_M) (H : Heap) (locs : List Loc) (ls : Array Slot), (la.toInt - x_2.toInt + 1 : Int).toNat < n_7 → (cI Tc M_3) → (M_3.2.2.2 = M.2.2.2) → (fX M_3 M) → (fS M_3 M) → ti_H ti_LT D A cy H0 M_3 H locs → lv_has ls 3 [(2, .int x_2), (0, .ref (A 50 0)), (1, .int la)] → W p l e (ti_rm 5) s m args below meth c H locs 0 0 Q (F0 m 8 ls []) := by
    intro n_7
    induction n_7 with
    | zero => intro x_2 M_3 H locs ls hf_7; exact absurd hf_7 (Nat.not_lt_zero _)
    | succ n_7 ih_7 =>
      intro x_2 M_3 H locs ls hf_7 iM_3 f_4 f_5 f_6 hw hl
      refine lv_iload_n hx hb dX6_fitsThrough_8 rfl (lv_at hl 0 rfl) ?_
      refine lv_iload_n hx hb dX6_fitsThrough_9 rfl (lv_at hl 2 rfl) ?_
      refine sb_icmp_gt (tgt := 39) hx hb rfl rfl dX6_fitsThrough_10 (by decide) (fun c_10_7 => ?_) (fun c_10_7 => ?_)
      · refine lv_iconst (v := 1) hx hb dX6_fitsThrough_39 (by decide) ?_
        exact hQ _ _ _ _ _ _ hw rfl (⟨f_6, iM_3, (f_4), f_5, (by first | omega | decide), (by first | omega | decide)⟩) dX6_fitsThrough_40
      · refine lv_aload_n hx hb dX6_fitsThrough_13 rfl (lv_at hl 1 rfl) ?_
        refine ti_get (ci := 6) (k := 12) (N := 13) (T := TX6) (v := .ref (A 52 0)) C hw iw_6 rfl ob_50 (by decide) (by decide) fl_X6_54 rfl rfl dX6_fitsThrough_14 ?_
        refine ti_callVv (ci := 3) (av := []) C hw (f_X3_pass l D A cy hJ M_3 iM_3 52 t ob_52 ht ((tT_fr f_4).trans hT) (fun h => absurd h np_52)) ⟨ml_X6_91, ym_X3_pass, yv_X3_pass, yi_X3_pass, yc_X3_pass⟩ yd_X3_pass ob_52 (by decide) rfl rfl hl.1 (Nat.le_of_ble_eq_true rfl) ⟨by decide, by decide⟩ ⟨Nat.zero_le _, Nat.zero_le _⟩ dX6_fitsThrough_17 (fun M_10 H locs hp_10 hw => ?_)
        obtain ⟨frM_10, hqM_10⟩ := hp_10
        obtain ⟨iM_10, q_11, q_12, q_13⟩ := hqM_10
        refine lv_aload_n hx hb dX6_fitsThrough_20 rfl (lv_at hl 1 rfl) ?_
        refine lv_aload_n hx hb dX6_fitsThrough_21 rfl (lv_at hl 1 rfl) ?_
        refine ti_get (ci := 6) (k := 12) (N := 13) (T := TX6) (v := .ref (A 52 0)) C hw iw_6 rfl ob_50 (by decide) (by decide) fl_X6_54 rfl rfl dX6_fitsThrough_22 ?_
        refine ti_callVi (ci := 6) (av := [.ref (A 52 0)]) C hw (s_X6_fitsBehindLast l D A cy hJ M_10 iM_10 52 ob_52) ⟨ml_X6_94, ym_X6_fitsBehindLast, yv_X6_fitsBehindLast, yi_X6_fitsBehindLast, yc_X6_fitsBehindLast⟩ yd_X6_fitsBehindLast ob_50 (by decide) rfl rfl hl.1 (Nat.le_of_ble_eq_true rfl) ⟨by decide, by decide⟩ ⟨Nat.zero_le _, Nat.zero_le _⟩ dX6_fitsThrough_25 (fun r_14 M_15 H locs hp_15 hw => ?_)
        have hm := hp_15
        have hw := hw.to hm
        refine sb_if_ne (tgt := 33) hx hb rfl dX6_fitsThrough_28 (by decide) (fun c_28_15 => ?_) (fun c_28_15 => ?_)
        · obtain ⟨x_17, ex_17⟩ : ∃ z : Int32, z = x_2 + 1 := ⟨_, rfl⟩
          have lox_17 := x_2.le_toInt
          have hix_17 := x_2.toInt_lt
          have tx_17 : x_17.toInt = x_2.toInt + 1 := i_add ex_17 rfl (by decide) (by omega) (by omega)
          refine lv_iinc (v := x_17) (lv' := [(2, .int x_17), (0, .ref (A 50 0)), (1, .int la)]) hx hb dX6_fitsThrough_33 hl (k := 0) rfl (by rw [ex_17]; rfl) (by decide) rfl (fun ls hl => ?_)
          refine lv_goto (tgt := 8) hx hb dX6_fitsThrough_36 (by decide) ?_
          exact ih_7 x_17 M_10 _ _ _ (by omega) iM_10 ((q_11).trans f_4) (fX.trans q_13 f_5) (fS.trans (fS_q frM_10 (by decide)) f_6) hw (lv_sub hl [0, 1, 2] rfl)
        · refine lv_iconst (v := 0) hx hb dX6_fitsThrough_31 (by decide) ?_
          exact hQ _ _ _ _ _ _ hw rfl (⟨(fS.trans (fS_q frM_10 (by decide)) f_6), iM_10, ((q_11).trans f_4), (fX.trans q_13 f_5), (by first | omega | decide), (by first | omega | decide)⟩) dX6_fitsThrough_32
  exact hl_8_6 ((la.toInt - x_1.toInt + 1 : Int).toNat + 1) x_1 M _ _ _ (Nat.lt_succ_self _) hI rfl fX.refl fS.refl hw (lv_sub hl [0, 1, 2] rfl)
set_option maxHeartbeats 4000000 in
set_option maxRecDepth 100000 in
theorem f_X6_addWay (l : Launch) (D : va_G) (A : Nat → Nat → Nat) (cy : Nat → ClassId) (hJ : ti_inj ti_LT A) (M : ti_M) (hI : cI Tc M) (mn mi : Int32) : ti_Kv l yX6_addWay cX6_addWay 3 0 ti_LT D A cy M [.ref (A 50 0), .int mn, .int mi] (fun M2 => fS M2 M ∧ cI Tc M2 ∧ M2.2.2.2 = M.2.2.2 ∧ fX M2 M) := by
  refine ti_eV yp_X6_addWay hJ ti_LT_nd (Nat.le_of_ble_eq_true rfl) ?_
  intro p e s m args below meth c Q H0 C hQ hw ls hl
  have hx := C.1
  have hb := C.2.1
  have hl : lv_has ls 3 [(0, .ref (A 50 0)), (1, .int mn), (2, .int mi)] := hl
  refine lv_aload_n hx hb dX6_addWay_0 rfl (lv_at hl 0 rfl) ?_
  refine ti_get (ci := 6) (k := 10) (N := 13) (T := TX6) C hw iw_6 rfl ob_50 (by decide) (by decide) fl_X6_44 rfl rfl dX6_addWay_1 ?_
  refine lv_topi (fun x_1 ex_1 => ?_)
  have bx_1 : 0 ≤ x_1.toInt ∧ x_1.toInt ≤ 480 := cI_rd hI ob_50.1 ex_1
  have ux_1 : (tI M 50 10).toInt = x_1.toInt := by rw [ex_1]
  refine lv_sipush (v := 480) hx hb dX6_addWay_4 (by decide) ?_
  refine sb_icmp_ge (tgt := 40) hx hb rfl (by decide : (480 : Int32).toInt = 480) dX6_addWay_7 (by decide) (fun c_7_1 => ?_) (fun c_7_1 => ?_)
  · exact hQ _ _ _ _ _ hw (⟨fS.refl, hI, rfl, fX.refl⟩) dX6_addWay_40
  · refine lv_aload_n hx hb dX6_addWay_10 rfl (lv_at hl 0 rfl) ?_
    refine ti_get (ci := 6) (k := 8) (N := 13) (T := TX6) (v := .ref (A 50 9)) C hw iw_6 rfl ob_50 (by decide) (by decide) fl_X6_38 rfl rfl dX6_addWay_11 ?_
    refine lv_aload_n hx hb dX6_addWay_14 rfl (lv_at hl 0 rfl) ?_
    refine ti_get (ci := 6) (k := 10) (N := 13) (T := TX6) C hw iw_6 rfl ob_50 (by decide) (by decide) fl_X6_44 rfl rfl dX6_addWay_15 ?_
    refine ti_top (y := x_1) (ex_1.symm) ?_
    have u_3 : (tI M 50 10).toInt = (x_1 : Int32).toInt := by rw [(ex_1.symm)]
    refine lv_iload_n hx hb dX6_addWay_18 rfl (lv_at hl 1 rfl) ?_
    refine ti_iast (ci := 6) (k := 8) (n := 480) C hw ob_50 (by decide) (fun _ _ => rfl) (vp_in_iff.mpr (by omega)) dX6_addWay_19 (fun H locs hw => ?_)
    obtain ⟨M_4, hM_4⟩ : ∃ z : ti_M, z = uY M 50 8 (upd (tY M 50 8) (x_1 : Int32).toNatClampNeg mn) := ⟨_, rfl⟩
    have hw := hw.to hM_4.symm
    have iM_4 : cI Tc M_4 := cI_up hI hM_4 ob_50.1 trivial
    refine lv_aload_n hx hb dX6_addWay_20 rfl (lv_at hl 0 rfl) ?_
    refine ti_get (ci := 6) (k := 9) (N := 13) (T := TX6) (v := .ref (A 50 10)) C hw iw_6 rfl ob_50 (by decide) (by decide) fl_X6_41 rfl rfl dX6_addWay_21 ?_
    refine lv_aload_n hx hb dX6_addWay_24 rfl (lv_at hl 0 rfl) ?_
    refine ti_get (ci := 6) (k := 10) (N := 13) (T := TX6) C hw iw_6 rfl ob_50 (by decide) (by decide) fl_X6_44 rfl rfl dX6_addWay_25 ?_
    refine ti_top (y := x_1) ((tI_uYE hM_4).trans ex_1.symm) ?_
    have u_5 : (tI M_4 50 10).toInt = (x_1 : Int32).toInt := by rw [((tI_uYE hM_4).trans ex_1.symm)]
    refine lv_iload_n hx hb dX6_addWay_28 rfl (lv_at hl 2 rfl) ?_
    refine ti_iast (ci := 6) (k := 9) (n := 480) C hw ob_50 (by decide) (fun _ _ => rfl) (vp_in_iff.mpr (by omega)) dX6_addWay_29 (fun H locs hw => ?_)
    obtain ⟨M_6, hM_6⟩ : ∃ z : ti_M, z = uY M_4 50 9 (upd (tY M_4 50 9) (x_1 : Int32).toNatClampNeg mi) := ⟨_, rfl⟩
    have hw := hw.to hM_6.symm
    have iM_6 : cI Tc M_6 := cI_up iM_4 hM_6 ob_50.1 trivial
    refine lv_aload_n hx hb dX6_addWay_30 rfl (lv_at hl 0 rfl) ?_
    refine lv_dup hx hb dX6_addWay_31 rfl ?_
    refine ti_get (ci := 6) (k := 10) (N := 13) (T := TX6) C hw iw_6 rfl ob_50 (by decide) (by decide) fl_X6_44 rfl rfl dX6_addWay_32 ?_
    refine ti_top (y := x_1) ((tI_uYE hM_6).trans ((tI_uYE hM_4).trans ex_1.symm)) ?_
    have u_7 : (tI M_6 50 10).toInt = (x_1 : Int32).toInt := by rw [((tI_uYE hM_6).trans ((tI_uYE hM_4).trans ex_1.symm))]
    refine lv_iconst (v := 1) hx hb dX6_addWay_35 (by decide) ?_
    refine lv_iadd hx hb dX6_addWay_36 ?_
    refine lv_topi (fun x_8 ex_8 => ?_)
    have tx_8 : x_8.toInt = x_1.toInt + 1 := i_add ex_8 rfl (by decide : (1 : Int32).toInt = 1) (by omega) (by omega)
    refine ti_putI (ci := 6) (k := 10) (N := 13) (T := TX6) C hw iw_6 tyX6 tyX6_ok nmX6 rfl ob_50 (by decide) (by decide) fl_X6_44 rfl rfl rfl rfl (fn_6 A _) fs_6_10 dX6_addWay_37 (fun H locs hw => ?_)
    obtain ⟨M_9, hM_9⟩ : ∃ z : ti_M, z = uI M_6 50 10 x_8 := ⟨_, rfl⟩
    have hw := hw.to hM_9.symm
    have iM_9 : cI Tc M_9 := cI_uI iM_6 hM_9 ob_50.1 (ib_mk (lo := 0) (hi := 480) (by omega) (by omega))
    have vM_9 : (tI M_9 50 10).toInt = (x_8 : Int32).toInt := by rw [tI_uE hM_9]
    exact hQ _ _ _ _ _ hw (⟨(fS.trans (fS_I hM_9 (by decide)) (fS.trans (fS_Y hM_6 (by decide)) (fS_Y hM_4 (by decide)))), iM_9, ((rf_I hM_9).trans ((rf_Y hM_6).trans (rf_Y hM_4))), (fX.trans (fx_I hM_9 (by decide)) (fX.trans (fx_of (ra_Y hM_6)) (fx_of (ra_Y hM_4))))⟩) dX6_addWay_40
set_option maxHeartbeats 4000000 in
set_option maxRecDepth 100000 in
theorem f_X6_search (l : Launch) (D : va_G) (A : Nat → Nat → Nat) (cy : Nat → ClassId) (hJ : ti_inj ti_LT A) (M : ti_M) (hI : cI Tc M) (t : Nat) (ht : t = 3 ∨ t = 4) : ti_Kv l yX6_search cX6_search 6 6 ti_LT D A cy M [.ref (A 50 0), .ref (A t 0)] (fun M2 => fS M2 M ∧ cI Tc M2 ∧ rT M2 M ∧ fX M2 M) := by
  refine ti_eV yp_X6_search hJ ti_LT_nd (Nat.le_of_ble_eq_true rfl) ?_
  intro p e s m args below meth c Q H0 C hQ hw ls hl
  have hx := C.1
  have hb := C.2.1
  have hl : lv_has ls 6 [(0, .ref (A 50 0)), (1, .ref (A t 0))] := hl
  refine lv_aload_n hx hb dX6_search_0 rfl (lv_at hl 0 rfl) ?_
  refine ti_get (ci := 6) (k := 7) (N := 13) (T := TX6) C hw iw_6 rfl ob_50 (by decide) (by decide) fl_X6_34 rfl rfl dX6_search_1 ?_
  refine lv_topi (fun x_1 ex_1 => ?_)
  refine sb_if_eq (tgt := 8) hx hb rfl dX6_search_4 (by decide) (fun c_4_1 => ?_) (fun c_4_1 => ?_)
  · refine lv_aload_n hx hb dX6_search_8 rfl (lv_at hl 0 rfl) ?_
    refine lv_iconst (v := 1) hx hb dX6_search_9 (by decide) ?_
    refine ti_putI (ci := 6) (k := 7) (N := 13) (T := TX6) C hw iw_6 tyX6 tyX6_ok nmX6 rfl ob_50 (by decide) (by decide) fl_X6_34 rfl rfl rfl rfl (fn_6 A _) fs_6_7 dX6_search_10 (fun H locs hw => ?_)
    obtain ⟨M_3, hM_3⟩ : ∃ z : ti_M, z = uI M 50 7 1 := ⟨_, rfl⟩
    have hw := hw.to hM_3.symm
    have iM_3 : cI Tc M_3 := cI_uI hI hM_3 ob_50.1 trivial
    refine lv_aload_n hx hb dX6_search_13 rfl (lv_at hl 0 rfl) ?_
    refine lv_iconst (v := 0) hx hb dX6_search_14 (by decide) ?_
    refine ti_putI (ci := 6) (k := 10) (N := 13) (T := TX6) C hw iw_6 tyX6 tyX6_ok nmX6 rfl ob_50 (by decide) (by decide) fl_X6_44 rfl rfl rfl rfl (fn_6 A _) fs_6_10 dX6_search_15 (fun H locs hw => ?_)
    obtain ⟨M_4, hM_4⟩ : ∃ z : ti_M, z = uI M_3 50 10 0 := ⟨_, rfl⟩
    have hw := hw.to hM_4.symm
    have iM_4 : cI Tc M_4 := cI_uI iM_3 hM_4 ob_50.1 (ib_mk (lo := 0) (hi := 480) (by decide) (by decide))
    have vM_4 : (tI M_4 50 10).toInt = 0 := by rw [tI_uE hM_4]; decide
    refine lv_aload_n hx hb dX6_search_18 rfl (lv_at hl 0 rfl) ?_
    refine ti_callVv (ci := 6) (av := []) C hw (f_X6_markStruck l D A cy hJ M_4 iM_4 ) ⟨ml_X6_57, ym_X6_markStruck, yv_X6_markStruck, yi_X6_markStruck, yc_X6_markStruck⟩ yd_X6_markStruck ob_50 (by decide) rfl rfl hl.1 (Nat.le_of_ble_eq_true rfl) ⟨by decide, by decide⟩ ⟨Nat.zero_le _, Nat.zero_le _⟩ dX6_search_19 (fun M_6 H locs hp_6 hw => ?_)
    obtain ⟨frM_6, hqM_6⟩ := hp_6
    obtain ⟨iM_6, q_7, q_8⟩ := hqM_6
    refine lv_aload_n hx hb dX6_search_22 rfl (lv_at hl 0 rfl) ?_
    refine ti_callVi (ci := 6) (av := []) C hw (s_X6_lastMinute l D A cy hJ M_6 iM_6 ) ⟨ml_X6_60, ym_X6_lastMinute, yv_X6_lastMinute, yi_X6_lastMinute, yc_X6_lastMinute⟩ yd_X6_lastMinute ob_50 (by decide) rfl rfl hl.1 (Nat.le_of_ble_eq_true rfl) ⟨by decide, by decide⟩ ⟨Nat.zero_le _, Nat.zero_le _⟩ dX6_search_23 (fun r_9 M_10 H locs hp_10 hw => ?_)
    obtain ⟨hm, b0r_9, b1r_9⟩ := hp_10
    have hw := hw.to hm
    refine lv_istore_n (lv' := [(2, .int r_9), (0, .ref (A 50 0)), (1, .ref (A t 0))]) hx hb dX6_search_26 rfl hl (by decide) rfl (fun ls hl => ?_)
    refine lv_iconst (v := 0) hx hb dX6_search_27 (by decide) ?_
    refine lv_istore_n (lv' := [(3, .int 0), (2, .int r_9), (0, .ref (A 50 0)), (1, .ref (A t 0))]) hx hb dX6_search_28 rfl hl (by decide) rfl (fun ls hl => ?_)
    have hl_29_17 : ∀ (n_18 : Nat) (x_11 : Int32) (M_14 : ti_M) (H : Heap) (locs : List Loc) (ls : Array Slot), (8 - x_11.toInt : Int).toNat < n_18 → (0 ≤ x_11.toInt) → (x_11.toInt ≤ 8) → (cI Tc M_14) → (rT M_14 M) → (fX M_14 M) → (fS M_14 M) → ti_H ti_LT D A cy H0 M_14 H locs → lv_has ls 6 [(3, .int x_11), (2, .int r_9), (0, .ref (A 50 0)), (1, .ref (A t 0))] → W p l e (ti_rm 6) s m args below meth c H locs 0 0 Q (F0 m 29 ls []) := by
      intro n_18
      induction n_18 with
      | zero => intro x_11 M_14 H locs ls hf_18; exact absurd hf_18 (Nat.not_lt_zero _)
      | succ n_18 ih_18 =>
        intro x_11 M_14 H locs ls hf_18 b_12 b_13 iM_14 f_15 f_16 f_17 hw hl
        refine lv_iload_n hx hb dX6_search_29 rfl (lv_at hl 0 rfl) ?_
        refine lv_aload_n hx hb dX6_search_30 rfl (lv_at hl 3 rfl) ?_
        refine ti_get (ci := 8) (k := 4) (N := 12) (T := TX8) C hw iw_8 rfl (ob_t ht) (by decide) (by decide) fl_X6_64 rfl rfl dX6_search_31 ?_
        refine lv_topi (fun x_19 ex_19 => ?_)
        have bx_19 : 0 ≤ x_19.toInt ∧ x_19.toInt ≤ 8 := cI_rd iM_14 (ob_t ht).1 ex_19
        have ux_19 : (tI M_14 t 4).toInt = x_19.toInt := by rw [ex_19]
        refine sb_icmp_ge (tgt := 153) hx hb rfl rfl dX6_search_34 (by decide) (fun c_34_19 => ?_) (fun c_34_19 => ?_)
        · exact hQ _ _ _ _ _ hw (⟨f_17, iM_14, f_15, f_16⟩) dX6_search_153
        · refine lv_aload_n hx hb dX6_search_37 rfl (lv_at hl 2 rfl) ?_
          refine ti_get (ci := 6) (k := 11) (N := 13) (T := TX6) (v := .ref (A 51 0)) C hw iw_6 rfl ob_50 (by decide) (by decide) fl_X6_50 rfl rfl dX6_search_38 ?_
          refine lv_aload_n hx hb dX6_search_41 rfl (lv_at hl 3 rfl) ?_
          refine ti_callVv (ci := 3) (av := [.ref (A t 0)]) C hw (f_X3_start l D A cy hJ M_14 iM_14 51 t ob_51 ht) ⟨ml_X6_69, ym_X3_start, yv_X3_start, yi_X3_start, yc_X3_start⟩ yd_X3_start ob_51 (by decide) rfl rfl hl.1 (Nat.le_of_ble_eq_true rfl) ⟨by decide, by decide⟩ ⟨Nat.zero_le _, Nat.zero_le _⟩ dX6_search_42 (fun M_22 H locs hp_22 hw => ?_)
          obtain ⟨frM_22, hqM_22⟩ := hp_22
          obtain ⟨iM_22, q_23, q_24⟩ := hqM_22
          refine lv_aload_n hx hb dX6_search_45 rfl (lv_at hl 2 rfl) ?_
          refine ti_get (ci := 6) (k := 11) (N := 13) (T := TX6) (v := .ref (A 51 0)) C hw iw_6 rfl ob_50 (by decide) (by decide) fl_X6_50 rfl rfl dX6_search_46 ?_
          refine lv_iconst (v := 3) hx hb dX6_search_49 (by decide) ?_
          refine ti_putI (ci := 3) (k := 1) (N := 17) (T := TX3) C hw iw_3 tyX3 tyX3_ok nmX3 rfl ob_51 (by decide) (by decide) fl_X6_73 rfl rfl rfl rfl (fn_3 A _) fs_3_1 dX6_search_50 (fun H locs hw => ?_)
          obtain ⟨M_25, hM_25⟩ : ∃ z : ti_M, z = uI M_22 51 1 3 := ⟨_, rfl⟩
          have hw := hw.to hM_25.symm
          have iM_25 : cI Tc M_25 := cI_uI iM_22 hM_25 ob_51.1 trivial
          refine lv_aload_n hx hb dX6_search_53 rfl (lv_at hl 2 rfl) ?_
          refine ti_get (ci := 6) (k := 11) (N := 13) (T := TX6) (v := .ref (A 51 0)) C hw iw_6 rfl ob_50 (by decide) (by decide) fl_X6_50 rfl rfl dX6_search_54 ?_
          refine ti_get (ci := 3) (k := 9) (N := 17) (T := TX3) (v := .ref (A 51 10)) C hw iw_3 rfl ob_51 (by decide) (by decide) fl_X6_76 rfl rfl dX6_search_57 ?_
          refine lv_iload_n hx hb dX6_search_60 rfl (lv_at hl 0 rfl) ?_
          refine lv_iconst (v := (-1)) hx hb dX6_search_61 (by decide) ?_
          refine ti_iast (ci := 3) (k := 9) (n := 8) C hw ob_51 (by decide) (fun _ _ => rfl) (vp_in_iff.mpr (by omega)) dX6_search_62 (fun H locs hw => ?_)
          obtain ⟨M_26, hM_26⟩ : ∃ z : ti_M, z = uY M_25 51 9 (upd (tY M_25 51 9) (x_11 : Int32).toNatClampNeg (-1)) := ⟨_, rfl⟩
          have hw := hw.to hM_26.symm
          have iM_26 : cI Tc M_26 := cI_up iM_25 hM_26 ob_51.1 trivial
          refine lv_iconst (v := 1) hx hb dX6_search_63 (by decide) ?_
          refine lv_istore (lv' := [(4, .int 1), (3, .int x_11), (2, .int r_9), (0, .ref (A 50 0)), (1, .ref (A t 0))]) hx hb dX6_search_64 hl (by decide) rfl (fun ls hl => ?_)
          refine lv_iconst (v := 0) hx hb dX6_search_66 (by decide) ?_
          refine lv_istore (lv' := [(5, .int 0), (4, .int 1), (3, .int x_11), (2, .int r_9), (0, .ref (A 50 0)), (1, .ref (A t 0))]) hx hb dX6_search_67 hl (by decide) rfl (fun ls hl => ?_)
          have hl_69_35 : ∀ (n_36 : Nat) (x_27 : Int32) (x_30 : Int32) (M_31 : ti_M) (H : Heap) (locs : List Loc) (ls : Array Slot), (60 - x_27.toInt : Int).toNat < n_36 → (0 ≤ x_27.toInt) → (x_27.toInt ≤ 60) → (cI Tc M_31) → (rT M_31 M) → (fX M_31 M) → (fS M_31 M) → (tT M_31 51 0 = (some t)) → ti_H ti_LT D A cy H0 M_31 H locs → lv_has ls 6 [(5, .int x_27), (4, .int x_30), (3, .int x_11), (2, .int r_9), (0, .ref (A 50 0)), (1, .ref (A t 0))] → W p l e (ti_rm 6) s m args below meth c H locs 0 0 Q (F0 m 69 ls []) := by
            intro n_36
            induction n_36 with
            | zero => intro x_27 x_30 M_31 H locs ls hf_36; exact absurd hf_36 (Nat.not_lt_zero _)
            | succ n_36 ih_36 =>
              intro x_27 x_30 M_31 H locs ls hf_36 b_28 b_29 iM_31 f_32 f_33 f_34 f_35 hw hl
              refine lv_iload hx hb dX6_search_69 (lv_at hl 0 rfl) ?_
              refine lv_bipush (v := 59) hx hb dX6_search_71 (by decide) ?_
              have hj_147_72 : ∀  (H : Heap) (locs : List Loc) (ls : Array Slot), ti_H ti_LT D A cy H0 M_31 H locs → lv_has ls 6 [(5, .int x_27), (4, .int x_30), (3, .int x_11), (2, .int r_9), (0, .ref (A 50 0)), (1, .ref (A t 0))] → W p l e (ti_rm 6) s m args below meth c H locs 0 0 Q (F0 m 147 ls []) := by
                intro  H locs ls  hw hl
                obtain ⟨x_73, ex_73⟩ : ∃ z : Int32, z = x_11 + 1 := ⟨_, rfl⟩
                have tx_73 : x_73.toInt = x_11.toInt + 1 := i_add ex_73 rfl (by decide) (by omega) (by omega)
                refine lv_iinc (v := x_73) (lv' := [(3, .int x_73), (5, .int x_27), (4, .int x_30), (2, .int r_9), (0, .ref (A 50 0)), (1, .ref (A t 0))]) hx hb dX6_search_147 hl (k := 2) rfl (by rw [ex_73]; rfl) (by decide) rfl (fun ls hl => ?_)
                refine lv_goto (tgt := 29) hx hb dX6_search_150 (by decide) ?_
                exact ih_18 x_73 M_31 _ _ _ (by omega) (by first | omega | decide) (by first | omega | decide) iM_31 f_32 f_33 f_34 hw (lv_sub hl [0, 3, 4, 5] rfl)
              refine sb_icmp_gt (tgt := 147) hx hb rfl (by decide : (59 : Int32).toInt = 59) dX6_search_73 (by decide) (fun c_73_36 => ?_) (fun c_73_36 => ?_)
              · exact hj_147_72  _ _ _  hw (lv_sub hl [0, 1, 2, 3, 4, 5] rfl)
              · refine lv_iload hx hb dX6_search_76 (lv_at hl 1 rfl) ?_
                refine sb_if_eq (tgt := 147) hx hb rfl dX6_search_78 (by decide) (fun c_78_37 => ?_) (fun c_78_37 => ?_)
                · exact hj_147_72  _ _ _  hw (lv_sub hl [0, 1, 2, 3, 4, 5] rfl)
                · refine lv_aload_n hx hb dX6_search_81 rfl (lv_at hl 4 rfl) ?_
                  refine ti_get (ci := 6) (k := 12) (N := 13) (T := TX6) (v := .ref (A 52 0)) C hw iw_6 rfl ob_50 (by decide) (by decide) fl_X6_54 rfl rfl dX6_search_82 ?_
                  refine lv_aload_n hx hb dX6_search_85 rfl (lv_at hl 4 rfl) ?_
                  refine ti_get (ci := 6) (k := 11) (N := 13) (T := TX6) (v := .ref (A 51 0)) C hw iw_6 rfl ob_50 (by decide) (by decide) fl_X6_50 rfl rfl dX6_search_86 ?_
                  refine ti_callVv (ci := 3) (av := [.ref (A 51 0)]) C hw (f_X3_copy l D A cy hJ M_31 iM_31 52 51 t ob_52 ob_51 ht (f_35) (fun h => absurd h np_52)) ⟨ml_X6_79, ym_X3_copy, yv_X3_copy, yi_X3_copy, yc_X3_copy⟩ yd_X3_copy ob_52 (by decide) rfl rfl hl.1 (Nat.le_of_ble_eq_true rfl) ⟨by decide, by decide⟩ ⟨Nat.zero_le _, Nat.zero_le _⟩ dX6_search_89 (fun M_40 H locs hp_40 hw => ?_)
                  obtain ⟨frM_40, hqM_40⟩ := hp_40
                  obtain ⟨iM_40, q_41, q_42⟩ := hqM_40
                  refine lv_aload_n hx hb dX6_search_92 rfl (lv_at hl 4 rfl) ?_
                  refine ti_get (ci := 6) (k := 12) (N := 13) (T := TX6) (v := .ref (A 52 0)) C hw iw_6 rfl ob_50 (by decide) (by decide) fl_X6_54 rfl rfl dX6_search_93 ?_
                  refine ti_get (ci := 3) (k := 9) (N := 17) (T := TX3) (v := .ref (A 52 10)) C hw iw_3 rfl ob_52 (by decide) (by decide) fl_X6_76 rfl rfl dX6_search_96 ?_
                  refine lv_iload_n hx hb dX6_search_99 rfl (lv_at hl 2 rfl) ?_
                  refine lv_iload hx hb dX6_search_100 (lv_at hl 0 rfl) ?_
                  refine ti_iast (ci := 3) (k := 9) (n := 8) C hw ob_52 (by decide) (fun _ _ => rfl) (vp_in_iff.mpr (by omega)) dX6_search_102 (fun H locs hw => ?_)
                  obtain ⟨M_43, hM_43⟩ : ∃ z : ti_M, z = uY M_40 52 9 (upd (tY M_40 52 9) (x_11 : Int32).toNatClampNeg x_27) := ⟨_, rfl⟩
                  have hw := hw.to hM_43.symm
                  have iM_43 : cI Tc M_43 := cI_up iM_40 hM_43 ob_52.1 trivial
                  refine lv_aload_n hx hb dX6_search_103 rfl (lv_at hl 4 rfl) ?_
                  refine lv_iload_n hx hb dX6_search_104 rfl (lv_at hl 3 rfl) ?_
                  refine ti_callVi (ci := 6) (av := [.int r_9]) C hw (f_X6_fitsThrough l D A cy hJ M_43 iM_43 t ht ((tT_uYE hM_43).trans ((tT_fr q_41).trans (tT_u _ _ _ _))) r_9 (by omega)) ⟨ml_X6_83, ym_X6_fitsThrough, yv_X6_fitsThrough, yi_X6_fitsThrough, yc_X6_fitsThrough⟩ yd_X6_fitsThrough ob_50 (by decide) rfl rfl hl.1 (Nat.le_of_ble_eq_true rfl) ⟨by decide, by decide⟩ ⟨Nat.zero_le _, Nat.zero_le _⟩ dX6_search_105 (fun r_44 M_45 H locs hp_45 hw => ?_)
                  obtain ⟨frM_45, hqM_45⟩ := hp_45
                  obtain ⟨iM_45, q_46, q_47, b0r_44, b1r_44⟩ := hqM_45
                  have hj_118_57 : ∀ (M_53 : ti_M) (H : Heap) (locs : List Loc) (ls : Array Slot), (cI Tc M_53) → (rT M_53 M) → (fX M_53 M) → (fS M_53 M) → (tT M_53 51 0 = (some t)) → ti_H ti_LT D A cy H0 M_53 H locs → lv_has ls 6 [(5, .int x_27), (4, .int x_30), (3, .int x_11), (2, .int r_9), (0, .ref (A 50 0)), (1, .ref (A t 0))] → W p l e (ti_rm 6) s m args below meth c H locs 0 0 Q (F0 m 118 ls []) := by
                    intro M_53 H locs ls iM_53 f_54 f_55 f_56 f_57 hw hl
                    refine lv_iload hx hb dX6_search_118 (lv_at hl 0 rfl) ?_
                    refine lv_iload_n hx hb dX6_search_120 rfl (lv_at hl 3 rfl) ?_
                    have hj_141_71 : ∀ (x_66 : Int32) (M_67 : ti_M) (H : Heap) (locs : List Loc) (ls : Array Slot), (cI Tc M_67) → (rT M_67 M) → (fX M_67 M) → (fS M_67 M) → (tT M_67 51 0 = (some t)) → ti_H ti_LT D A cy H0 M_67 H locs → lv_has ls 6 [(5, .int x_27), (4, .int x_66), (3, .int x_11), (2, .int r_9), (0, .ref (A 50 0)), (1, .ref (A t 0))] → W p l e (ti_rm 6) s m args below meth c H locs 0 0 Q (F0 m 141 ls []) := by
                      intro x_66 M_67 H locs ls iM_67 f_68 f_69 f_70 f_71 hw hl
                      obtain ⟨x_72, ex_72⟩ : ∃ z : Int32, z = x_27 + 1 := ⟨_, rfl⟩
                      have tx_72 : x_72.toInt = x_27.toInt + 1 := i_add ex_72 rfl (by decide) (by omega) (by omega)
                      refine lv_iinc (v := x_72) (lv' := [(5, .int x_72), (4, .int x_66), (3, .int x_11), (2, .int r_9), (0, .ref (A 50 0)), (1, .ref (A t 0))]) hx hb dX6_search_141 hl (k := 0) rfl (by rw [ex_72]; rfl) (by decide) rfl (fun ls hl => ?_)
                      refine lv_goto (tgt := 69) hx hb dX6_search_144 (by decide) ?_
                      exact ih_36 x_72 x_66 M_67 _ _ _ (by omega) (by first | omega | decide) (by first | omega | decide) iM_67 f_68 f_69 f_70 (f_71) hw (lv_sub hl [0, 1, 2, 3, 4, 5] rfl)
                    refine sb_icmp_gt (tgt := 141) hx hb rfl rfl dX6_search_121 (by decide) (fun c_121_57 => ?_) (fun c_121_57 => ?_)
                    · exact hj_141_71 x_30 M_53 _ _ _ iM_53 f_54 f_55 f_56 (f_57) hw (lv_sub hl [0, 1, 2, 3, 4, 5] rfl)
                    · refine lv_aload_n hx hb dX6_search_124 rfl (lv_at hl 4 rfl) ?_
                      refine ti_get (ci := 6) (k := 11) (N := 13) (T := TX6) (v := .ref (A 51 0)) C hw iw_6 rfl ob_50 (by decide) (by decide) fl_X6_50 rfl rfl dX6_search_125 ?_
                      refine ti_callVv (ci := 3) (av := []) C hw (f_X3_pass l D A cy hJ M_53 iM_53 51 t ob_51 ht (f_57) (fun h => absurd h np_51)) ⟨ml_X6_91, ym_X3_pass, yv_X3_pass, yi_X3_pass, yc_X3_pass⟩ yd_X3_pass ob_51 (by decide) rfl rfl hl.1 (Nat.le_of_ble_eq_true rfl) ⟨by decide, by decide⟩ ⟨Nat.zero_le _, Nat.zero_le _⟩ dX6_search_128 (fun M_60 H locs hp_60 hw => ?_)
                      obtain ⟨frM_60, hqM_60⟩ := hp_60
                      obtain ⟨iM_60, q_61, q_62, q_63⟩ := hqM_60
                      refine lv_aload_n hx hb dX6_search_131 rfl (lv_at hl 4 rfl) ?_
                      refine lv_aload_n hx hb dX6_search_132 rfl (lv_at hl 4 rfl) ?_
                      refine ti_get (ci := 6) (k := 11) (N := 13) (T := TX6) (v := .ref (A 51 0)) C hw iw_6 rfl ob_50 (by decide) (by decide) fl_X6_50 rfl rfl dX6_search_133 ?_
                      refine ti_callVi (ci := 6) (av := [.ref (A 51 0)]) C hw (s_X6_fitsBehindLast l D A cy hJ M_60 iM_60 51 ob_51) ⟨ml_X6_94, ym_X6_fitsBehindLast, yv_X6_fitsBehindLast, yi_X6_fitsBehindLast, yc_X6_fitsBehindLast⟩ yd_X6_fitsBehindLast ob_50 (by decide) rfl rfl hl.1 (Nat.le_of_ble_eq_true rfl) ⟨by decide, by decide⟩ ⟨Nat.zero_le _, Nat.zero_le _⟩ dX6_search_136 (fun r_64 M_65 H locs hp_65 hw => ?_)
                      have hm := hp_65
                      have hw := hw.to hm
                      refine lv_istore (lv' := [(4, .int r_64), (5, .int x_27), (3, .int x_11), (2, .int r_9), (0, .ref (A 50 0)), (1, .ref (A t 0))]) hx hb dX6_search_139 hl (by decide) rfl (fun ls hl => ?_)
                      exact hj_141_71 r_64 M_60 _ _ _ iM_60 (rT.trans (rs_of q_61) f_54) (fX.trans q_63 f_55) (fS.trans (fS_q frM_60 (by decide)) f_56) ((tT_fr q_61).trans f_57) hw (lv_sub hl [1, 0, 2, 3, 4, 5] rfl)
                  refine sb_if_eq (tgt := 118) hx hb rfl dX6_search_108 (by decide) (fun c_108_47 => ?_) (fun c_108_47 => ?_)
                  · exact hj_118_57 M_45 _ _ _ iM_45 (rT.trans (rs_of q_46) (rT.trans (rs_of (rf_Y hM_43)) (rT.trans (rs_TT q_41 (by decide)) f_32))) (fX.trans q_47 (fX.trans (fx_of (ra_Y hM_43)) (fX.trans q_42 f_33))) (fS.trans frM_45 (fS.trans (fS_Y hM_43 (by decide)) (fS.trans (fS_q frM_40 (by decide)) f_34))) ((tT_fr q_46).trans ((tT_uYE hM_43).trans ((tT_fr q_41).trans ((tT_n _ _ _ _ (no (by decide))).trans f_35)))) hw (lv_sub hl [0, 1, 2, 3, 4, 5] rfl)
                  · refine lv_aload_n hx hb dX6_search_111 rfl (lv_at hl 4 rfl) ?_
                    refine lv_iload_n hx hb dX6_search_112 rfl (lv_at hl 2 rfl) ?_
                    refine lv_iload hx hb dX6_search_113 (lv_at hl 0 rfl) ?_
                    refine ti_callVv (ci := 6) (av := [.int x_11, .int x_27]) C hw (f_X6_addWay l D A cy hJ M_45 iM_45 x_11 x_27) ⟨ml_X6_87, ym_X6_addWay, yv_X6_addWay, yi_X6_addWay, yc_X6_addWay⟩ yd_X6_addWay ob_50 (by decide) rfl rfl hl.1 (Nat.le_of_ble_eq_true rfl) ⟨by decide, by decide⟩ ⟨Nat.zero_le _, Nat.zero_le _⟩ dX6_search_115 (fun M_50 H locs hp_50 hw => ?_)
                    obtain ⟨frM_50, hqM_50⟩ := hp_50
                    obtain ⟨iM_50, q_51, q_52⟩ := hqM_50
                    exact hj_118_57 M_50 _ _ _ iM_50 (rT.trans (rs_of q_51) (rT.trans (rs_of q_46) (rT.trans (rs_of (rf_Y hM_43)) (rT.trans (rs_TT q_41 (by decide)) f_32)))) (fX.trans q_52 (fX.trans q_47 (fX.trans (fx_of (ra_Y hM_43)) (fX.trans q_42 f_33)))) (fS.trans frM_50 (fS.trans frM_45 (fS.trans (fS_Y hM_43 (by decide)) (fS.trans (fS_q frM_40 (by decide)) f_34)))) ((tT_fr q_51).trans ((tT_fr q_46).trans ((tT_uYE hM_43).trans ((tT_fr q_41).trans ((tT_n _ _ _ _ (no (by decide))).trans f_35))))) hw (lv_sub hl [0, 1, 2, 3, 4, 5] rfl)
          exact hl_69_35 ((60 - 0 : Int).toNat + 1) 0 1 M_26 _ _ _ (Nat.lt_succ_self _) (by have lt0 : (0 : Int32).toInt = 0 := (by decide); have lt1 : (1 : Int32).toInt = 1 := (by decide); first | omega | decide) (by have lt0 : (0 : Int32).toInt = 0 := (by decide); have lt1 : (1 : Int32).toInt = 1 := (by decide); first | omega | decide) iM_26 (rT.trans (rs_of (rf_Y hM_26)) (rT.trans (rs_of (rf_I hM_25)) (rT.trans (rs_TT q_23 (by decide)) f_15))) (fX.trans (fx_of (ra_Y hM_26)) (fX.trans (fx_I hM_25 (by decide)) (fX.trans q_24 f_16))) (fS.trans (fS_Y hM_26 (by decide)) (fS.trans (fS_I hM_25 (by decide)) (fS.trans (fS_q frM_22 (by decide)) f_17))) ((tT_uYE hM_26).trans ((tT_uIE hM_25).trans ((tT_fr q_23).trans (tT_u _ _ _ _)))) hw (lv_sub hl [0, 1, 2, 3, 4, 5] rfl)
    exact hl_29_17 ((8 - 0 : Int).toNat + 1) 0 M_6 _ _ _ (Nat.lt_succ_self _) (by have lt0 : (0 : Int32).toInt = 0 := (by decide); first | omega | decide) (by have lt0 : (0 : Int32).toInt = 0 := (by decide); first | omega | decide) iM_6 (rT.trans (rs_of q_7) (rT.trans (rs_of (rf_I hM_4)) (rs_of (rf_I hM_3)))) (fX.trans q_8 (fX.trans (fx_I hM_4 (by decide)) (fx_I hM_3 (by decide)))) (fS.trans frM_6 (fS.trans (fS_I hM_4 (by decide)) (fS_I hM_3 (by decide)))) hw (lv_sub hl [0, 1, 2, 3] rfl)
  · exact hQ _ _ _ _ _ hw (⟨fS.refl, hI, rT.refl, fX.refl⟩) dX6_search_7
set_option maxHeartbeats 4000000 in
set_option maxRecDepth 100000 in
theorem f_X0_prepare (l : Launch) (D : va_G) (A : Nat → Nat → Nat) (cy : Nat → ClassId) (hJ : ti_inj ti_LT A) (M : ti_M) (hI : cI Tc M) (t : Nat) (ht : t = 3 ∨ t = 4) (hT : tT M 27 0 = some t) : ti_Kv l yX0_prepare cX0_prepare 2 2 ti_LT D A cy M [.ref (A 53 0), .ref (A 27 0)] (fun M2 => fS M2 M ∧ cI Tc M2 ∧ M2.2.2.2 = (uT M 54 0 (some t)).2.2.2 ∧ fX M2 M) := by
  refine ti_eV yp_X0_prepare hJ ti_LT_nd (Nat.le_of_ble_eq_true rfl) ?_
  intro p e s m args below meth c Q H0 C hQ hw ls hl
  have hx := C.1
  have hb := C.2.1
  have hl : lv_has ls 2 [(0, .ref (A 53 0)), (1, .ref (A 27 0))] := hl
  refine lv_aload_n hx hb dX0_prepare_0 rfl (lv_at hl 0 rfl) ?_
  refine ti_get (ci := 0) (k := 0) (N := 6) (T := TX0) (v := .ref (A 54 0)) C hw iw_0 rfl ob_53 (by decide) (by decide) fl_X0_12 rfl rfl dX0_prepare_1 ?_
  refine lv_aload_n hx hb dX0_prepare_4 rfl (lv_at hl 1 rfl) ?_
  refine ti_callVv (ci := 3) (av := [.ref (A 27 0)]) C hw (f_X3_copy l D A cy hJ M hI 54 27 t ob_54 ob_27 ht (hT) (fun h => absurd h np_54)) ⟨ml_X0_35, ym_X3_copy, yv_X3_copy, yi_X3_copy, yc_X3_copy⟩ yd_X3_copy ob_54 (by decide) rfl rfl hl.1 (Nat.le_of_ble_eq_true rfl) ⟨by decide, by decide⟩ ⟨Nat.zero_le _, Nat.zero_le _⟩ dX0_prepare_5 (fun M_2 H locs hp_2 hw => ?_)
  obtain ⟨frM_2, hqM_2⟩ := hp_2
  obtain ⟨iM_2, q_3, q_4⟩ := hqM_2
  refine lv_aload_n hx hb dX0_prepare_8 rfl (lv_at hl 0 rfl) ?_
  refine ti_get (ci := 0) (k := 0) (N := 6) (T := TX0) (v := .ref (A 54 0)) C hw iw_0 rfl ob_53 (by decide) (by decide) fl_X0_12 rfl rfl dX0_prepare_9 ?_
  refine lv_iconst (v := 3) hx hb dX0_prepare_12 (by decide) ?_
  refine ti_putI (ci := 3) (k := 1) (N := 17) (T := TX3) C hw iw_3 tyX3 tyX3_ok nmX3 rfl ob_54 (by decide) (by decide) fl_X0_39 rfl rfl rfl rfl (fn_3 A _) fs_3_1 dX0_prepare_13 (fun H locs hw => ?_)
  obtain ⟨M_5, hM_5⟩ : ∃ z : ti_M, z = uI M_2 54 1 3 := ⟨_, rfl⟩
  have hw := hw.to hM_5.symm
  have iM_5 : cI Tc M_5 := cI_uI iM_2 hM_5 ob_54.1 trivial
  exact hQ _ _ _ _ _ hw (⟨(fS.trans (fS_I hM_5 (by decide)) (fS_q frM_2 (by decide))), iM_5, ((rf_I hM_5).trans q_3), (fX.trans (fx_I hM_5 (by decide)) q_4)⟩) dX0_prepare_16
set_option maxHeartbeats 4000000 in
set_option maxRecDepth 100000 in
theorem f_X0_servedIn (l : Launch) (D : va_G) (A : Nat → Nat → Nat) (cy : Nat → ClassId) (hJ : ti_inj ti_LT A) (M : ti_M) (hI : cI Tc M) (t : Nat) (ht : t = 3 ∨ t = 4) (hT : tT M 27 0 = some t) (mn : Int32) (h1 : 0 ≤ mn.toInt) (h2 : mn.toInt ≤ 7) : ti_Ki l yX0_servedIn cX0_servedIn 4 (some .int) 5 ti_LT D A cy M [.ref (A 53 0), .ref (A 27 0), .int mn] (fun r M2 => fS M2 M ∧ cI Tc M2 ∧ rT M2 M ∧ fX M2 M) := by
  refine ti_eI yp_X0_servedIn hJ ti_LT_nd (Nat.le_of_ble_eq_true rfl) ?_
  intro p e s m args below meth c Q H0 C hQ hw ls hl
  have hx := C.1
  have hb := C.2.1
  have hl : lv_has ls 4 [(0, .ref (A 53 0)), (1, .ref (A 27 0)), (2, .int mn)] := hl
  refine lv_aload_n hx hb dX0_servedIn_0 rfl (lv_at hl 0 rfl) ?_
  refine lv_aload_n hx hb dX0_servedIn_1 rfl (lv_at hl 1 rfl) ?_
  refine ti_callVv (ci := 0) (av := [.ref (A 27 0)]) C hw (f_X0_prepare l D A cy hJ M hI t ht (hT)) ⟨ml_X0_42, ym_X0_prepare, yv_X0_prepare, yi_X0_prepare, yc_X0_prepare⟩ yd_X0_prepare ob_53 (by decide) rfl rfl hl.1 (Nat.le_of_ble_eq_true rfl) ⟨by decide, by decide⟩ ⟨Nat.zero_le _, Nat.zero_le _⟩ dX0_servedIn_2 (fun M_2 H locs hp_2 hw => ?_)
  obtain ⟨frM_2, hqM_2⟩ := hp_2
  obtain ⟨iM_2, q_3, q_4⟩ := hqM_2
  refine lv_aload_n hx hb dX0_servedIn_5 rfl (lv_at hl 1 rfl) ?_
  refine ti_get (ci := 3) (k := 2) (N := 17) (T := TX3) C hw iw_3 rfl ob_27 (by decide) (by decide) fl_X0_45 rfl rfl dX0_servedIn_6 ?_
  refine lv_topi (fun x_5 ex_5 => ?_)
  have bx_5 : 0 ≤ x_5.toInt ∧ x_5.toInt ≤ 120 := cI_rd iM_2 ob_27.1 ex_5 (Or.inl rfl)
  have ux_5 : (tI M_2 27 2).toInt = x_5.toInt := by rw [ex_5]
  refine lv_istore_n (lv' := [(3, .int x_5), (0, .ref (A 53 0)), (1, .ref (A 27 0)), (2, .int mn)]) hx hb dX0_servedIn_9 rfl hl (by decide) rfl (fun ls hl => ?_)
  have hl_10_13 : ∀ (n_14 : Nat) (x_6 : Int32) (M_9 : ti_M) (H : Heap) (locs : List Loc) (ls : Array Slot), (120 - x_6.toInt : Int).toNat < n_14 → (0 ≤ x_6.toInt) → (x_6.toInt ≤ 120) → (cI Tc M_9) → (rT M_9 M) → (fX M_9 M) → (fS M_9 M) → (tT M_9 54 0 = (some t)) → ti_H ti_LT D A cy H0 M_9 H locs → lv_has ls 4 [(3, .int x_6), (0, .ref (A 53 0)), (1, .ref (A 27 0)), (2, .int mn)] → W p l e (ti_rm 5) s m args below meth c H locs 0 0 Q (F0 m 10 ls []) := by
    intro n_14
    induction n_14 with
    | zero => intro x_6 M_9 H locs ls hf_14; exact absurd hf_14 (Nat.not_lt_zero _)
    | succ n_14 ih_14 =>
      intro x_6 M_9 H locs ls hf_14 b_7 b_8 iM_9 f_10 f_11 f_12 f_13 hw hl
      refine lv_iload_n hx hb dX0_servedIn_10 rfl (lv_at hl 0 rfl) ?_
      refine lv_bipush (v := 120) hx hb dX0_servedIn_11 (by decide) ?_
      have hj_42_23 : ∀  (H : Heap) (locs : List Loc) (ls : Array Slot), ti_H ti_LT D A cy H0 M_9 H locs → lv_has ls 4 [(3, .int x_6), (0, .ref (A 53 0)), (1, .ref (A 27 0)), (2, .int mn)] → W p l e (ti_rm 5) s m args below meth c H locs 0 0 Q (F0 m 42 ls []) := by
        intro  H locs ls  hw hl
        refine lv_aload_n hx hb dX0_servedIn_42 rfl (lv_at hl 1 rfl) ?_
        refine ti_get (ci := 0) (k := 0) (N := 6) (T := TX0) (v := .ref (A 54 0)) C hw iw_0 rfl ob_53 (by decide) (by decide) fl_X0_12 rfl rfl dX0_servedIn_43 ?_
        refine ti_get (ci := 3) (k := 8) (N := 17) (T := TX3) (v := .ref (A 54 9)) C hw iw_3 rfl ob_54 (by decide) (by decide) fl_X0_48 rfl rfl dX0_servedIn_46 ?_
        refine lv_iload_n hx hb dX0_servedIn_49 rfl (lv_at hl 3 rfl) ?_
        refine ti_iald (ci := 3) (k := 8) (n := 8) C hw ob_54 (by decide) (fun _ _ => rfl) (vp_in_iff.mpr (by omega)) dX0_servedIn_50 ?_
        refine lv_topi (fun x_24 ex_24 => ?_)
        refine lv_iconst (v := 2) hx hb dX0_servedIn_51 (by decide) ?_
        refine sb_icmp_ne (tgt := 67) hx hb rfl (by decide : (2 : Int32).toInt = 2) dX0_servedIn_52 (by decide) (fun c_52_24 => ?_) (fun c_52_24 => ?_)
        · refine lv_bipush (v := (-2)) hx hb dX0_servedIn_67 (by decide) ?_
          exact hQ _ _ _ _ _ _ hw rfl (⟨f_12, iM_9, f_10, f_11⟩) dX0_servedIn_69
        · refine lv_aload_n hx hb dX0_servedIn_55 rfl (lv_at hl 1 rfl) ?_
          refine ti_get (ci := 0) (k := 0) (N := 6) (T := TX0) (v := .ref (A 54 0)) C hw iw_0 rfl ob_53 (by decide) (by decide) fl_X0_12 rfl rfl dX0_servedIn_56 ?_
          refine ti_get (ci := 3) (k := 14) (N := 17) (T := TX3) (v := .ref (A 54 15)) C hw iw_3 rfl ob_54 (by decide) (by decide) fl_X0_54 rfl rfl dX0_servedIn_59 ?_
          refine lv_iload_n hx hb dX0_servedIn_62 rfl (lv_at hl 3 rfl) ?_
          refine ti_iald (ci := 3) (k := 14) (n := 8) C hw ob_54 (by decide) (fun _ _ => rfl) (vp_in_iff.mpr (by omega)) dX0_servedIn_63 ?_
          refine lv_topi (fun x_26 ex_26 => ?_)
          refine lv_goto (tgt := 69) hx hb dX0_servedIn_64 (by decide) ?_
          exact hQ _ _ _ _ _ _ hw rfl (⟨f_12, iM_9, f_10, f_11⟩) dX0_servedIn_69
      refine sb_icmp_ge (tgt := 42) hx hb rfl (by decide : (120 : Int32).toInt = 120) dX0_servedIn_13 (by decide) (fun c_13_14 => ?_) (fun c_13_14 => ?_)
      · exact hj_42_23  _ _ _  hw (lv_sub hl [0, 1, 2, 3] rfl)
      · refine lv_aload_n hx hb dX0_servedIn_16 rfl (lv_at hl 1 rfl) ?_
        refine ti_get (ci := 0) (k := 0) (N := 6) (T := TX0) (v := .ref (A 54 0)) C hw iw_0 rfl ob_53 (by decide) (by decide) fl_X0_12 rfl rfl dX0_servedIn_17 ?_
        refine ti_get (ci := 3) (k := 8) (N := 17) (T := TX3) (v := .ref (A 54 9)) C hw iw_3 rfl ob_54 (by decide) (by decide) fl_X0_48 rfl rfl dX0_servedIn_20 ?_
        refine lv_iload_n hx hb dX0_servedIn_23 rfl (lv_at hl 3 rfl) ?_
        refine ti_iald (ci := 3) (k := 8) (n := 8) C hw ob_54 (by decide) (fun _ _ => rfl) (vp_in_iff.mpr (by omega)) dX0_servedIn_24 ?_
        refine lv_topi (fun x_16 ex_16 => ?_)
        refine lv_iconst (v := 2) hx hb dX0_servedIn_25 (by decide) ?_
        refine sb_icmp_ge (tgt := 42) hx hb rfl (by decide : (2 : Int32).toInt = 2) dX0_servedIn_26 (by decide) (fun c_26_16 => ?_) (fun c_26_16 => ?_)
        · exact hj_42_23  _ _ _  hw (lv_sub hl [0, 1, 2, 3] rfl)
        · refine lv_aload_n hx hb dX0_servedIn_29 rfl (lv_at hl 1 rfl) ?_
          refine ti_get (ci := 0) (k := 0) (N := 6) (T := TX0) (v := .ref (A 54 0)) C hw iw_0 rfl ob_53 (by decide) (by decide) fl_X0_12 rfl rfl dX0_servedIn_30 ?_
          refine ti_callVv (ci := 3) (av := []) C hw (f_X3_pass l D A cy hJ M_9 iM_9 54 t ob_54 ht (f_13) (fun h => absurd h np_54)) ⟨ml_X0_51, ym_X3_pass, yv_X3_pass, yi_X3_pass, yc_X3_pass⟩ yd_X3_pass ob_54 (by decide) rfl rfl hl.1 (Nat.le_of_ble_eq_true rfl) ⟨by decide, by decide⟩ ⟨Nat.zero_le _, Nat.zero_le _⟩ dX0_servedIn_33 (fun M_19 H locs hp_19 hw => ?_)
          obtain ⟨frM_19, hqM_19⟩ := hp_19
          obtain ⟨iM_19, q_20, q_21, q_22⟩ := hqM_19
          obtain ⟨x_23, ex_23⟩ : ∃ z : Int32, z = x_6 + 1 := ⟨_, rfl⟩
          have tx_23 : x_23.toInt = x_6.toInt + 1 := i_add ex_23 rfl (by decide) (by omega) (by omega)
          refine lv_iinc (v := x_23) (lv' := [(3, .int x_23), (0, .ref (A 53 0)), (1, .ref (A 27 0)), (2, .int mn)]) hx hb dX0_servedIn_36 hl (k := 0) rfl (by rw [ex_23]; rfl) (by decide) rfl (fun ls hl => ?_)
          refine lv_goto (tgt := 10) hx hb dX0_servedIn_39 (by decide) ?_
          exact ih_14 x_23 M_19 _ _ _ (by omega) (by first | omega | decide) (by first | omega | decide) iM_19 (rT.trans (rs_of q_20) f_10) (fX.trans q_22 f_11) (fS.trans (fS_q frM_19 (by decide)) f_12) ((tT_fr q_20).trans f_13) hw (lv_sub hl [0, 1, 2, 3] rfl)
  exact hl_10_13 ((120 - x_5.toInt : Int).toNat + 1) x_5 M_2 _ _ _ (Nat.lt_succ_self _) (by first | omega | decide) (by first | omega | decide) iM_2 (rs_TT q_3 (by decide)) q_4 frM_2 ((tT_fr q_3).trans (tT_u _ _ _ _)) hw (lv_sub hl [0, 1, 2, 3] rfl)
set_option maxHeartbeats 4000000 in
set_option maxRecDepth 100000 in
theorem f_X0_firstToCome (l : Launch) (D : va_G) (A : Nat → Nat → Nat) (cy : Nat → ClassId) (hJ : ti_inj ti_LT A) (M : ti_M) (hI : cI Tc M) (t : Nat) (ht : t = 3 ∨ t = 4) (hT : tT M 27 0 = some t) (mn : Int32) (h1 : 0 ≤ mn.toInt) (h2 : mn.toInt ≤ 7) (pl la : Int32) (h3 : 0 ≤ la.toInt) (h4 : la.toInt ≤ 119) : ti_Ki l yX0_firstToCome cX0_firstToCome 6 (some .int) 6 ti_LT D A cy M [.ref (A 53 0), .ref (A 27 0), .int mn, .int pl, .int la] (fun r M2 => fS M2 M ∧ cI Tc M2 ∧ rT M2 M ∧ fX M2 M) := by
  refine ti_eI yp_X0_firstToCome hJ ti_LT_nd (Nat.le_of_ble_eq_true rfl) ?_
  intro p e s m args below meth c Q H0 C hQ hw ls hl
  have hx := C.1
  have hb := C.2.1
  have hl : lv_has ls 6 [(0, .ref (A 53 0)), (1, .ref (A 27 0)), (2, .int mn), (3, .int pl), (4, .int la)] := hl
  refine lv_aload_n hx hb dX0_firstToCome_0 rfl (lv_at hl 0 rfl) ?_
  refine lv_aload_n hx hb dX0_firstToCome_1 rfl (lv_at hl 1 rfl) ?_
  refine ti_callVv (ci := 0) (av := [.ref (A 27 0)]) C hw (f_X0_prepare l D A cy hJ M hI t ht (hT)) ⟨ml_X0_42, ym_X0_prepare, yv_X0_prepare, yi_X0_prepare, yc_X0_prepare⟩ yd_X0_prepare ob_53 (by decide) rfl rfl hl.1 (Nat.le_of_ble_eq_true rfl) ⟨by decide, by decide⟩ ⟨Nat.zero_le _, Nat.zero_le _⟩ dX0_firstToCome_2 (fun M_2 H locs hp_2 hw => ?_)
  obtain ⟨frM_2, hqM_2⟩ := hp_2
  obtain ⟨iM_2, q_3, q_4⟩ := hqM_2
  refine lv_aload_n hx hb dX0_firstToCome_5 rfl (lv_at hl 0 rfl) ?_
  refine ti_get (ci := 0) (k := 0) (N := 6) (T := TX0) (v := .ref (A 54 0)) C hw iw_0 rfl ob_53 (by decide) (by decide) fl_X0_12 rfl rfl dX0_firstToCome_6 ?_
  refine ti_get (ci := 3) (k := 9) (N := 17) (T := TX3) (v := .ref (A 54 10)) C hw iw_3 rfl ob_54 (by decide) (by decide) fl_X0_57 rfl rfl dX0_firstToCome_9 ?_
  refine lv_iload_n hx hb dX0_firstToCome_12 rfl (lv_at hl 2 rfl) ?_
  refine lv_iconst (v := (-1)) hx hb dX0_firstToCome_13 (by decide) ?_
  refine ti_iast (ci := 3) (k := 9) (n := 8) C hw ob_54 (by decide) (fun _ _ => rfl) (vp_in_iff.mpr (by omega)) dX0_firstToCome_14 (fun H locs hw => ?_)
  obtain ⟨M_5, hM_5⟩ : ∃ z : ti_M, z = uY M_2 54 9 (upd (tY M_2 54 9) (mn : Int32).toNatClampNeg (-1)) := ⟨_, rfl⟩
  have hw := hw.to hM_5.symm
  have iM_5 : cI Tc M_5 := cI_up iM_2 hM_5 ob_54.1 trivial
  refine lv_aload_n hx hb dX0_firstToCome_15 rfl (lv_at hl 1 rfl) ?_
  refine ti_get (ci := 3) (k := 2) (N := 17) (T := TX3) C hw iw_3 rfl ob_27 (by decide) (by decide) fl_X0_45 rfl rfl dX0_firstToCome_16 ?_
  refine lv_topi (fun x_6 ex_6 => ?_)
  have bx_6 : 0 ≤ x_6.toInt ∧ x_6.toInt ≤ 120 := cI_rd iM_5 ob_27.1 ex_6 (Or.inl rfl)
  have ux_6 : (tI M_5 27 2).toInt = x_6.toInt := by rw [ex_6]
  refine lv_istore (lv' := [(5, .int x_6), (0, .ref (A 53 0)), (1, .ref (A 27 0)), (2, .int mn), (3, .int pl), (4, .int la)]) hx hb dX0_firstToCome_19 hl (by decide) rfl (fun ls hl => ?_)
  have hl_21_14 : ∀ (n_15 : Nat) (x_7 : Int32) (M_10 : ti_M) (H : Heap) (locs : List Loc) (ls : Array Slot), (120 - x_7.toInt : Int).toNat < n_15 → (0 ≤ x_7.toInt) → (x_7.toInt ≤ 120) → (cI Tc M_10) → (rT M_10 M) → (fX M_10 M) → (fS M_10 M) → (tT M_10 54 0 = (some t)) → ti_H ti_LT D A cy H0 M_10 H locs → lv_has ls 6 [(5, .int x_7), (0, .ref (A 53 0)), (1, .ref (A 27 0)), (2, .int mn), (3, .int pl), (4, .int la)] → W p l e (ti_rm 6) s m args below meth c H locs 0 0 Q (F0 m 21 ls []) := by
    intro n_15
    induction n_15 with
    | zero => intro x_7 M_10 H locs ls hf_15; exact absurd hf_15 (Nat.not_lt_zero _)
    | succ n_15 ih_15 =>
      intro x_7 M_10 H locs ls hf_15 b_8 b_9 iM_10 f_11 f_12 f_13 f_14 hw hl
      refine lv_iload hx hb dX0_firstToCome_21 (lv_at hl 0 rfl) ?_
      refine lv_iload hx hb dX0_firstToCome_23 (lv_at hl 5 rfl) ?_
      refine sb_icmp_gt (tgt := 89) hx hb rfl rfl dX0_firstToCome_25 (by decide) (fun c_25_15 => ?_) (fun c_25_15 => ?_)
      · refine lv_bipush (v := (-2)) hx hb dX0_firstToCome_89 (by decide) ?_
        exact hQ _ _ _ _ _ _ hw rfl (⟨f_13, iM_10, f_11, f_12⟩) dX0_firstToCome_91
      · refine lv_aload_n hx hb dX0_firstToCome_28 rfl (lv_at hl 1 rfl) ?_
        refine ti_get (ci := 0) (k := 1) (N := 6) (T := TX0) (v := .ref (A 55 0)) C hw iw_0 rfl ob_53 (by decide) (by decide) fl_X0_18 rfl rfl dX0_firstToCome_29 ?_
        refine lv_aload_n hx hb dX0_firstToCome_32 rfl (lv_at hl 1 rfl) ?_
        refine ti_get (ci := 0) (k := 0) (N := 6) (T := TX0) (v := .ref (A 54 0)) C hw iw_0 rfl ob_53 (by decide) (by decide) fl_X0_12 rfl rfl dX0_firstToCome_33 ?_
        refine ti_callVv (ci := 3) (av := [.ref (A 54 0)]) C hw (f_X3_copy l D A cy hJ M_10 iM_10 55 54 t ob_55 ob_54 ht (f_14) (fun h => absurd h np_55)) ⟨ml_X0_35, ym_X3_copy, yv_X3_copy, yi_X3_copy, yc_X3_copy⟩ yd_X3_copy ob_55 (by decide) rfl rfl hl.1 (Nat.le_of_ble_eq_true rfl) ⟨by decide, by decide⟩ ⟨Nat.zero_le _, Nat.zero_le _⟩ dX0_firstToCome_36 (fun M_18 H locs hp_18 hw => ?_)
        obtain ⟨frM_18, hqM_18⟩ := hp_18
        obtain ⟨iM_18, q_19, q_20⟩ := hqM_18
        refine lv_aload_n hx hb dX0_firstToCome_39 rfl (lv_at hl 1 rfl) ?_
        refine ti_get (ci := 0) (k := 1) (N := 6) (T := TX0) (v := .ref (A 55 0)) C hw iw_0 rfl ob_53 (by decide) (by decide) fl_X0_18 rfl rfl dX0_firstToCome_40 ?_
        refine ti_get (ci := 3) (k := 9) (N := 17) (T := TX3) (v := .ref (A 55 10)) C hw iw_3 rfl ob_55 (by decide) (by decide) fl_X0_57 rfl rfl dX0_firstToCome_43 ?_
        refine lv_iload_n hx hb dX0_firstToCome_46 rfl (lv_at hl 3 rfl) ?_
        refine lv_iload hx hb dX0_firstToCome_47 (lv_at hl 0 rfl) ?_
        refine ti_iast (ci := 3) (k := 9) (n := 8) C hw ob_55 (by decide) (fun _ _ => rfl) (vp_in_iff.mpr (by omega)) dX0_firstToCome_49 (fun H locs hw => ?_)
        obtain ⟨M_21, hM_21⟩ : ∃ z : ti_M, z = uY M_18 55 9 (upd (tY M_18 55 9) (mn : Int32).toNatClampNeg x_7) := ⟨_, rfl⟩
        have hw := hw.to hM_21.symm
        have iM_21 : cI Tc M_21 := cI_up iM_18 hM_21 ob_55.1 trivial
        refine lv_aload_n hx hb dX0_firstToCome_50 rfl (lv_at hl 1 rfl) ?_
        refine ti_get (ci := 0) (k := 1) (N := 6) (T := TX0) (v := .ref (A 55 0)) C hw iw_0 rfl ob_53 (by decide) (by decide) fl_X0_18 rfl rfl dX0_firstToCome_51 ?_
        refine lv_iload hx hb dX0_firstToCome_54 (lv_at hl 5 rfl) ?_
        refine lv_iconst (v := 1) hx hb dX0_firstToCome_56 (by decide) ?_
        refine lv_iadd hx hb dX0_firstToCome_57 ?_
        refine lv_topi (fun x_22 ex_22 => ?_)
        have tx_22 : x_22.toInt = la.toInt + 1 := i_add ex_22 rfl (by decide : (1 : Int32).toInt = 1) (by omega) (by omega)
        refine ti_callVv (ci := 3) (av := [.int x_22]) C hw (f_X3_passTo l D A cy hJ M_21 iM_21 55 t ob_55 ht ((tT_uYE hM_21).trans ((tT_fr q_19).trans (tT_u _ _ _ _))) x_22 np_55) ⟨ml_X0_60, ym_X3_passTo, yv_X3_passTo, yi_X3_passTo, yc_X3_passTo⟩ yd_X3_passTo ob_55 (by decide) rfl rfl hl.1 (Nat.le_of_ble_eq_true rfl) ⟨by decide, by decide⟩ ⟨Nat.zero_le _, Nat.zero_le _⟩ dX0_firstToCome_58 (fun M_24 H locs hp_24 hw => ?_)
        obtain ⟨frM_24, hqM_24⟩ := hp_24
        obtain ⟨iM_24, q_25, q_26⟩ := hqM_24
        refine lv_aload_n hx hb dX0_firstToCome_61 rfl (lv_at hl 1 rfl) ?_
        refine ti_get (ci := 0) (k := 1) (N := 6) (T := TX0) (v := .ref (A 55 0)) C hw iw_0 rfl ob_53 (by decide) (by decide) fl_X0_18 rfl rfl dX0_firstToCome_62 ?_
        refine lv_iload_n hx hb dX0_firstToCome_65 rfl (lv_at hl 4 rfl) ?_
        refine ti_callVi (ci := 3) (av := [.int pl]) C hw (s_X3_manAt l D A cy hJ M_24 iM_24 55 ob_55 pl) ⟨ml_X0_64, ym_X3_manAt, yv_X3_manAt, yi_X3_manAt, yc_X3_manAt⟩ yd_X3_manAt ob_55 (by decide) rfl rfl hl.1 (Nat.le_of_ble_eq_true rfl) ⟨by decide, by decide⟩ ⟨Nat.zero_le _, Nat.zero_le _⟩ dX0_firstToCome_66 (fun r_27 M_28 H locs hp_28 hw => ?_)
        obtain ⟨hm, b0r_27, b1r_27, p0r_27⟩ := hp_28
        have hw := hw.to hm
        refine lv_iload_n hx hb dX0_firstToCome_69 rfl (lv_at hl 3 rfl) ?_
        refine sb_icmp_ne (tgt := 76) hx hb rfl rfl dX0_firstToCome_70 (by decide) (fun c_70_28 => ?_) (fun c_70_28 => ?_)
        · refine lv_aload_n hx hb dX0_firstToCome_76 rfl (lv_at hl 1 rfl) ?_
          refine ti_get (ci := 0) (k := 0) (N := 6) (T := TX0) (v := .ref (A 54 0)) C hw iw_0 rfl ob_53 (by decide) (by decide) fl_X0_12 rfl rfl dX0_firstToCome_77 ?_
          refine ti_callVv (ci := 3) (av := []) C hw (f_X3_pass l D A cy hJ M_24 iM_24 54 t ob_54 ht ((tT_fr q_25).trans ((tT_uYE hM_21).trans ((tT_fr q_19).trans ((tT_n _ _ _ _ (no (by decide))).trans f_14)))) (fun h => absurd h np_54)) ⟨ml_X0_51, ym_X3_pass, yv_X3_pass, yi_X3_pass, yc_X3_pass⟩ yd_X3_pass ob_54 (by decide) rfl rfl hl.1 (Nat.le_of_ble_eq_true rfl) ⟨by decide, by decide⟩ ⟨Nat.zero_le _, Nat.zero_le _⟩ dX0_firstToCome_80 (fun M_31 H locs hp_31 hw => ?_)
          obtain ⟨frM_31, hqM_31⟩ := hp_31
          obtain ⟨iM_31, q_32, q_33, q_34⟩ := hqM_31
          obtain ⟨x_35, ex_35⟩ : ∃ z : Int32, z = x_7 + 1 := ⟨_, rfl⟩
          have tx_35 : x_35.toInt = x_7.toInt + 1 := i_add ex_35 rfl (by decide) (by omega) (by omega)
          refine lv_iinc (v := x_35) (lv' := [(5, .int x_35), (0, .ref (A 53 0)), (1, .ref (A 27 0)), (2, .int mn), (3, .int pl), (4, .int la)]) hx hb dX0_firstToCome_83 hl (k := 0) rfl (by rw [ex_35]; rfl) (by decide) rfl (fun ls hl => ?_)
          refine lv_goto (tgt := 21) hx hb dX0_firstToCome_86 (by decide) ?_
          exact ih_15 x_35 M_31 _ _ _ (by omega) (by first | omega | decide) (by first | omega | decide) iM_31 (rT.trans (rs_of q_32) (rT.trans (rs_of q_25) (rT.trans (rs_of (rf_Y hM_21)) (rT.trans (rs_TT q_19 (by decide)) f_11)))) (fX.trans q_34 (fX.trans q_26 (fX.trans (fx_of (ra_Y hM_21)) (fX.trans q_20 f_12)))) (fS.trans (fS_q frM_31 (by decide)) (fS.trans (fS_q frM_24 (by decide)) (fS.trans (fS_Y hM_21 (by decide)) (fS.trans (fS_q frM_18 (by decide)) f_13)))) ((tT_fr q_32).trans ((tT_fr q_25).trans ((tT_uYE hM_21).trans ((tT_fr q_19).trans ((tT_n _ _ _ _ (no (by decide))).trans f_14))))) hw (lv_sub hl [0, 1, 2, 3, 4, 5] rfl)
        · refine lv_iload hx hb dX0_firstToCome_73 (lv_at hl 0 rfl) ?_
          exact hQ _ _ _ _ _ _ hw rfl (⟨(fS.trans (fS_q frM_24 (by decide)) (fS.trans (fS_Y hM_21 (by decide)) (fS.trans (fS_q frM_18 (by decide)) f_13))), iM_24, (rT.trans (rs_of q_25) (rT.trans (rs_of (rf_Y hM_21)) (rT.trans (rs_TT q_19 (by decide)) f_11))), (fX.trans q_26 (fX.trans (fx_of (ra_Y hM_21)) (fX.trans q_20 f_12)))⟩) dX0_firstToCome_75
  exact hl_21_14 ((120 - x_6.toInt : Int).toNat + 1) x_6 M_5 _ _ _ (Nat.lt_succ_self _) (by first | omega | decide) (by first | omega | decide) iM_5 (rT.trans (rs_of (rf_Y hM_5)) (rs_TT q_3 (by decide))) (fX.trans (fx_of (ra_Y hM_5)) q_4) (fS.trans (fS_Y hM_5 (by decide)) frM_2) ((tT_uYE hM_5).trans ((tT_fr q_3).trans (tT_u _ _ _ _))) hw (lv_sub hl [0, 1, 2, 3, 4, 5] rfl)
set_option maxHeartbeats 4000000 in
set_option maxRecDepth 100000 in
theorem f_X0_plotters (l : Launch) (D : va_G) (A : Nat → Nat → Nat) (cy : Nat → ClassId) (hJ : ti_inj ti_LT A) (M : ti_M) (hI : cI Tc M) (t : Nat) (ht : t = 3 ∨ t = 4) (hT : tT M 27 0 = some t) : ti_Ki l yX0_plotters cX0_plotters 5 (some .int) 3 ti_LT D A cy M [.ref (A 53 0), .ref (A 27 0)] (fun r M2 => fS M2 M ∧ cI Tc M2 ∧ rT M2 M ∧ fX M2 M) := by
  refine ti_eI yp_X0_plotters hJ ti_LT_nd (Nat.le_of_ble_eq_true rfl) ?_
  intro p e s m args below meth c Q H0 C hQ hw ls hl
  have hx := C.1
  have hb := C.2.1
  have hl : lv_has ls 5 [(0, .ref (A 53 0)), (1, .ref (A 27 0))] := hl
  refine lv_aload_n hx hb dX0_plotters_0 rfl (lv_at hl 1 rfl) ?_
  refine ti_callVi (ci := 3) (av := []) C hw (f_X3_need l D A cy hJ M hI 27 t ob_27 ht (hT)) ⟨ml_X0_112, ym_X3_need, yv_X3_need, yi_X3_need, yc_X3_need⟩ yd_X3_need ob_27 (by decide) rfl rfl hl.1 (Nat.le_of_ble_eq_true rfl) ⟨by decide, by decide⟩ ⟨Nat.zero_le _, Nat.zero_le _⟩ dX0_plotters_1 (fun r_1 M_2 H locs hp_2 hw => ?_)
  obtain ⟨frM_2a, frM_2b, hqM_2⟩ := hp_2
  have frM_2 := And.intro frM_2a frM_2b
  obtain ⟨iM_2, q_3, q_4⟩ := hqM_2
  refine lv_istore_n (lv' := [(2, .int r_1), (0, .ref (A 53 0)), (1, .ref (A 27 0))]) hx hb dX0_plotters_4 rfl hl (by decide) rfl (fun ls hl => ?_)
  refine lv_aload_n hx hb dX0_plotters_5 rfl (lv_at hl 2 rfl) ?_
  refine ti_callVi (ci := 3) (av := []) C hw (s_X3_isGuarded l D A cy hJ M_2 iM_2 27 t ob_27 ht ((tT_fr q_3).trans hT)) ⟨ml_X0_116, ym_X3_isGuarded, yv_X3_isGuarded, yi_X3_isGuarded, yc_X3_isGuarded⟩ yd_X3_isGuarded ob_27 (by decide) rfl rfl hl.1 (Nat.le_of_ble_eq_true rfl) ⟨by decide, by decide⟩ ⟨Nat.zero_le _, Nat.zero_le _⟩ dX0_plotters_6 (fun r_5 M_6 H locs hp_6 hw => ?_)
  have hm := hp_6
  have hw := hw.to hm
  have hj_20_10 : ∀  (H : Heap) (locs : List Loc) (ls : Array Slot), ti_H ti_LT D A cy H0 M_2 H locs → lv_has ls 5 [(2, .int r_1), (0, .ref (A 53 0)), (1, .ref (A 27 0))] → W p l e (ti_rm 3) s m args below meth c H locs 0 0 Q (F0 m 20 ls []) := by
    intro  H locs ls  hw hl
    refine lv_bipush (v := (-2)) hx hb dX0_plotters_20 (by decide) ?_
    exact hQ _ _ _ _ _ _ hw rfl (⟨(fS_of frM_2.1 frM_2.2), iM_2, (rs_of q_3), (fx_of q_4)⟩) dX0_plotters_22
  refine sb_if_ne (tgt := 20) hx hb rfl dX0_plotters_9 (by decide) (fun c_9_6 => ?_) (fun c_9_6 => ?_)
  · exact hj_20_10  _ _ _  hw (lv_sub hl [0, 1, 2] rfl)
  · refine lv_iload_n hx hb dX0_plotters_12 rfl (lv_at hl 0 rfl) ?_
    refine lv_aload_n hx hb dX0_plotters_13 rfl (lv_at hl 2 rfl) ?_
    refine ti_callVi (ci := 3) (av := []) C hw (s_X3_lastHeard l D A cy hJ M_2 iM_2 27 t ob_27 ht ((tT_fr q_3).trans hT)) ⟨ml_X0_120, ym_X3_lastHeard, yv_X3_lastHeard, yi_X3_lastHeard, yc_X3_lastHeard⟩ yd_X3_lastHeard ob_27 (by decide) rfl rfl hl.1 (Nat.le_of_ble_eq_true rfl) ⟨by decide, by decide⟩ ⟨Nat.zero_le _, Nat.zero_le _⟩ dX0_plotters_14 (fun r_8 M_9 H locs hp_9 hw => ?_)
    obtain ⟨hm, b1r_8⟩ := hp_9
    have hw := hw.to hm
    refine sb_icmp_le (tgt := 23) hx hb rfl rfl dX0_plotters_17 (by decide) (fun c_17_9 => ?_) (fun c_17_9 => ?_)
    · refine lv_iconst (v := 0) hx hb dX0_plotters_23 (by decide) ?_
      refine lv_istore_n (lv' := [(3, .int 0), (2, .int r_1), (0, .ref (A 53 0)), (1, .ref (A 27 0))]) hx hb dX0_plotters_24 rfl hl (by decide) rfl (fun ls hl => ?_)
      refine lv_iconst (v := 1) hx hb dX0_plotters_25 (by decide) ?_
      refine lv_istore (lv' := [(4, .int 1), (3, .int 0), (2, .int r_1), (0, .ref (A 53 0)), (1, .ref (A 27 0))]) hx hb dX0_plotters_26 hl (by decide) rfl (fun ls hl => ?_)
      have hl_28_14 : ∀ (n_15 : Nat) (x_11 : Int32) (x_14 : Int32) (H : Heap) (locs : List Loc) (ls : Array Slot), (8 - x_11.toInt : Int).toNat < n_15 → (1 ≤ x_11.toInt) → (x_11.toInt ≤ 8) → ti_H ti_LT D A cy H0 M_2 H locs → lv_has ls 5 [(4, .int x_11), (3, .int x_14), (2, .int r_1), (0, .ref (A 53 0)), (1, .ref (A 27 0))] → W p l e (ti_rm 3) s m args below meth c H locs 0 0 Q (F0 m 28 ls []) := by
        intro n_15
        induction n_15 with
        | zero => intro x_11 x_14 H locs ls hf_15; exact absurd hf_15 (Nat.not_lt_zero _)
        | succ n_15 ih_15 =>
          intro x_11 x_14 H locs ls hf_15 b_12 b_13 hw hl
          refine lv_iload hx hb dX0_plotters_28 (lv_at hl 0 rfl) ?_
          refine lv_iload_n hx hb dX0_plotters_30 rfl (lv_at hl 2 rfl) ?_
          refine sb_icmp_gt (tgt := 52) hx hb rfl rfl dX0_plotters_31 (by decide) (fun c_31_15 => ?_) (fun c_31_15 => ?_)
          · refine lv_iload_n hx hb dX0_plotters_52 rfl (lv_at hl 1 rfl) ?_
            exact hQ _ _ _ _ _ _ hw rfl (⟨(fS_of frM_2.1 frM_2.2), iM_2, (rs_of q_3), (fx_of q_4)⟩) dX0_plotters_53
          · refine lv_iload_n hx hb dX0_plotters_34 rfl (lv_at hl 1 rfl) ?_
            refine lv_iconst (v := 1) hx hb dX0_plotters_35 (by decide) ?_
            refine lv_aload_n hx hb dX0_plotters_36 rfl (lv_at hl 4 rfl) ?_
            refine ti_get (ci := 3) (k := 6) (N := 17) (T := TX3) (v := .ref (A 27 7)) C hw iw_3 rfl ob_27 (by decide) (by decide) fl_X0_77 rfl rfl dX0_plotters_37 ?_
            refine lv_iload hx hb dX0_plotters_40 (lv_at hl 0 rfl) ?_
            refine ti_iald (ci := 3) (k := 6) (n := 8) C hw ob_27 (by decide) (fun _ _ => rfl) (vp_in_iff.mpr (by omega)) dX0_plotters_42 ?_
            refine lv_topi (fun x_17 ex_17 => ?_)
            have bx_17 : 0 ≤ x_17.toInt ∧ x_17.toInt ≤ 7 := cI_ry iM_2 ob_27.1 ex_17
            refine lv_ishl hx hb dX0_plotters_43 ?_
            refine lv_topi (fun x_18 ex_18 => ?_)
            refine lv_ior hx hb dX0_plotters_44 ?_
            refine lv_topi (fun x_19 ex_19 => ?_)
            refine lv_istore_n (lv' := [(3, .int x_19), (4, .int x_11), (2, .int r_1), (0, .ref (A 53 0)), (1, .ref (A 27 0))]) hx hb dX0_plotters_45 rfl hl (by decide) rfl (fun ls hl => ?_)
            obtain ⟨x_20, ex_20⟩ : ∃ z : Int32, z = x_11 + 1 := ⟨_, rfl⟩
            have tx_20 : x_20.toInt = x_11.toInt + 1 := i_add ex_20 rfl (by decide) (by omega) (by omega)
            refine lv_iinc (v := x_20) (lv' := [(4, .int x_20), (3, .int x_19), (2, .int r_1), (0, .ref (A 53 0)), (1, .ref (A 27 0))]) hx hb dX0_plotters_46 hl (k := 1) rfl (by rw [ex_20]; rfl) (by decide) rfl (fun ls hl => ?_)
            refine lv_goto (tgt := 28) hx hb dX0_plotters_49 (by decide) ?_
            exact ih_15 x_20 x_19 _ _ _ (by omega) (by first | omega | decide) (by first | omega | decide) hw (lv_sub hl [0, 1, 2, 3, 4] rfl)
      exact hl_28_14 ((8 - 1 : Int).toNat + 1) 1 0 _ _ _ (Nat.lt_succ_self _) (by have lt0 : (0 : Int32).toInt = 0 := (by decide); have lt1 : (1 : Int32).toInt = 1 := (by decide); first | omega | decide) (by have lt0 : (0 : Int32).toInt = 0 := (by decide); have lt1 : (1 : Int32).toInt = 1 := (by decide); first | omega | decide) hw (lv_sub hl [0, 1, 2, 3, 4] rfl)
    · exact hj_20_10  _ _ _  hw (lv_sub hl [0, 1, 2] rfl)
set_option maxHeartbeats 4000000 in
set_option maxRecDepth 100000 in
theorem f_X0_play (l : Launch) (D : va_G) (A : Nat → Nat → Nat) (cy : Nat → ClassId) (hJ : ti_inj ti_LT A) (M : ti_M) (hI : cI Tc M) (t : Nat) (ht : t = 3 ∨ t = 4) (hT : tT M 27 0 = some t) (m1 m2 nn : Int32) (h1 : 0 ≤ m1.toInt) (h2 : m1.toInt ≤ 7) (h3 : 0 ≤ m2.toInt) (h4 : m2.toInt ≤ 7) : ti_Kv l yX0_play cX0_play 8 6 ti_LT D A cy M [.ref (A 53 0), .ref (A 27 0), .int m1, .int m2, .int nn] (fun M2 => fS M2 M ∧ cI Tc M2 ∧ rT M2 M ∧ fX M2 M) := by
  refine ti_eV yp_X0_play hJ ti_LT_nd (Nat.le_of_ble_eq_true rfl) ?_
  intro p e s m args below meth c Q H0 C hQ hw ls hl
  have hx := C.1
  have hb := C.2.1
  have hl : lv_has ls 8 [(0, .ref (A 53 0)), (1, .ref (A 27 0)), (2, .int m1), (3, .int m2), (4, .int nn)] := hl
  refine lv_iconst (v := 4) hx hb dX0_play_0 (by decide) ?_
  refine lv_bipush (v := 59) hx hb dX0_play_1 (by decide) ?_
  refine lv_aload_n hx hb dX0_play_3 rfl (lv_at hl 1 rfl) ?_
  refine ti_get (ci := 3) (k := 2) (N := 17) (T := TX3) C hw iw_3 rfl ob_27 (by decide) (by decide) fl_X0_45 rfl rfl dX0_play_4 ?_
  refine lv_topi (fun x_1 ex_1 => ?_)
  have bx_1 : 0 ≤ x_1.toInt ∧ x_1.toInt ≤ 120 := cI_rd hI ob_27.1 ex_1 (Or.inl rfl)
  have ux_1 : (tI M 27 2).toInt = x_1.toInt := by rw [ex_1]
  refine lv_isub hx hb dX0_play_7 ?_
  refine lv_topi (fun x_2 ex_2 => ?_)
  have tx_2 : x_2.toInt = 59 - x_1.toInt := i_sub ex_2 (by decide : (59 : Int32).toInt = 59) rfl (by omega) (by omega)
  refine lv_iconst (v := 1) hx hb dX0_play_8 (by decide) ?_
  refine lv_iadd hx hb dX0_play_9 ?_
  refine lv_topi (fun x_3 ex_3 => ?_)
  have tx_3 : x_3.toInt = x_2.toInt + 1 := i_add ex_3 rfl (by decide : (1 : Int32).toInt = 1) (by omega) (by omega)
  refine ti_min C ml_X0_71 hl.1 (by decide) (Nat.le_of_ble_eq_true rfl) ⟨Nat.zero_le _, Nat.zero_le _⟩ dX0_play_10 ?_
  refine lv_topi (fun x_4 ex_4 => ?_)
  have bx_4 := i_min ex_4 (by decide : (4 : Int32).toInt = 4) rfl
  refine lv_istore (lv' := [(5, .int x_4), (0, .ref (A 53 0)), (1, .ref (A 27 0)), (2, .int m1), (3, .int m2), (4, .int nn)]) hx hb dX0_play_13 hl (by decide) rfl (fun ls hl => ?_)
  refine lv_iconst (v := 0) hx hb dX0_play_15 (by decide) ?_
  refine lv_istore (lv' := [(6, .int 0), (5, .int x_4), (0, .ref (A 53 0)), (1, .ref (A 27 0)), (2, .int m1), (3, .int m2), (4, .int nn)]) hx hb dX0_play_16 hl (by decide) rfl (fun ls hl => ?_)
  have hl_18_11 : ∀ (n_12 : Nat) (x_5 : Int32) (M_8 : ti_M) (H : Heap) (locs : List Loc) (ls : Array Slot), (4 - x_5.toInt : Int).toNat < n_12 → (0 ≤ x_5.toInt) → (x_5.toInt ≤ 4) → (cI Tc M_8) → (rT M_8 M) → (fX M_8 M) → (fS M_8 M) → ti_H ti_LT D A cy H0 M_8 H locs → lv_has ls 8 [(6, .int x_5), (5, .int x_4), (0, .ref (A 53 0)), (1, .ref (A 27 0)), (2, .int m1), (3, .int m2), (4, .int nn)] → W p l e (ti_rm 6) s m args below meth c H locs 0 0 Q (F0 m 18 ls []) := by
    intro n_12
    induction n_12 with
    | zero => intro x_5 M_8 H locs ls hf_12; exact absurd hf_12 (Nat.not_lt_zero _)
    | succ n_12 ih_12 =>
      intro x_5 M_8 H locs ls hf_12 b_6 b_7 iM_8 f_9 f_10 f_11 hw hl
      refine lv_iload hx hb dX0_play_18 (lv_at hl 0 rfl) ?_
      refine lv_iload hx hb dX0_play_20 (lv_at hl 1 rfl) ?_
      refine sb_icmp_ge (tgt := 132) hx hb rfl rfl dX0_play_22 (by decide) (fun c_22_12 => ?_) (fun c_22_12 => ?_)
      · refine lv_aload_n hx hb dX0_play_132 rfl (lv_at hl 2 rfl) ?_
        refine lv_iconst (v := 0) hx hb dX0_play_133 (by decide) ?_
        refine ti_putI (ci := 0) (k := 5) (N := 6) (T := TX0) C hw iw_0 tyX0 tyX0_ok nmX0 rfl ob_53 (by decide) (by decide) fl_X0_31 rfl rfl rfl rfl (fn_0 A _) fs_0_5 dX0_play_134 (fun H locs hw => ?_)
        obtain ⟨M_49, hM_49⟩ : ∃ z : ti_M, z = uI M_8 53 5 0 := ⟨_, rfl⟩
        have hw := hw.to hM_49.symm
        have iM_49 : cI Tc M_49 := cI_uI iM_8 hM_49 ob_53.1 (ib_mk (lo := 0) (hi := 16) (by decide) (by decide))
        have vM_49 : (tI M_49 53 5).toInt = 0 := by rw [tI_uE hM_49]; decide
        refine lv_iconst (v := 0) hx hb dX0_play_137 (by decide) ?_
        refine lv_istore (lv' := [(6, .int 0), (5, .int x_4), (0, .ref (A 53 0)), (1, .ref (A 27 0)), (2, .int m1), (3, .int m2), (4, .int nn)]) hx hb dX0_play_138 hl (by decide) rfl (fun ls hl => ?_)
        have hl_140_61 : ∀ (n_62 : Nat) (x_50 : Int32) (M_53 : ti_M) (x_57 : Int32) (H : Heap) (locs : List Loc) (ls : Array Slot), (4 - x_50.toInt : Int).toNat < n_62 → (0 ≤ x_50.toInt) → (x_50.toInt ≤ 4) → (cI Tc M_53) → (rT M_53 M) → (fX M_53 M) → (fS M_53 M) → (0 ≤ x_57.toInt) → (x_57.toInt ≤ 16) → (tI M_53 53 5 = x_57) → (x_57.toInt ≤ 4 * x_50.toInt) → ti_H ti_LT D A cy H0 M_53 H locs → lv_has ls 8 [(6, .int x_50), (5, .int x_4), (0, .ref (A 53 0)), (1, .ref (A 27 0)), (2, .int m1), (3, .int m2), (4, .int nn)] → W p l e (ti_rm 6) s m args below meth c H locs 0 0 Q (F0 m 140 ls []) := by
          intro n_62
          induction n_62 with
          | zero => intro x_50 M_53 x_57 H locs ls hf_62; exact absurd hf_62 (Nat.not_lt_zero _)
          | succ n_62 ih_62 =>
            intro x_50 M_53 x_57 H locs ls hf_62 b_51 b_52 iM_53 f_54 f_55 f_56 b_58 b_59 f_60 j_61 hw hl
            refine lv_iload hx hb dX0_play_140 (lv_at hl 0 rfl) ?_
            refine lv_iload hx hb dX0_play_142 (lv_at hl 1 rfl) ?_
            refine sb_icmp_ge (tgt := 219) hx hb rfl rfl dX0_play_144 (by decide) (fun c_144_62 => ?_) (fun c_144_62 => ?_)
            · exact hQ _ _ _ _ _ hw (⟨f_56, iM_53, f_54, f_55⟩) dX0_play_219
            · refine lv_iconst (v := 0) hx hb dX0_play_147 (by decide) ?_
              refine lv_istore (lv' := [(7, .int 0), (6, .int x_50), (5, .int x_4), (0, .ref (A 53 0)), (1, .ref (A 27 0)), (2, .int m1), (3, .int m2), (4, .int nn)]) hx hb dX0_play_148 hl (by decide) rfl (fun ls hl => ?_)
              have hl_150_75 : ∀ (n_76 : Nat) (x_64 : Int32) (M_67 : ti_M) (x_71 : Int32) (H : Heap) (locs : List Loc) (ls : Array Slot), (4 - x_64.toInt : Int).toNat < n_76 → (0 ≤ x_64.toInt) → (x_64.toInt ≤ 4) → (cI Tc M_67) → (rT M_67 M) → (fX M_67 M) → (fS M_67 M) → (0 ≤ x_71.toInt) → (x_71.toInt ≤ 16) → (tI M_67 53 5 = x_71) → (x_71.toInt ≤ 4 * x_50.toInt + x_64.toInt) → ti_H ti_LT D A cy H0 M_67 H locs → lv_has ls 8 [(7, .int x_64), (6, .int x_50), (5, .int x_4), (0, .ref (A 53 0)), (1, .ref (A 27 0)), (2, .int m1), (3, .int m2), (4, .int nn)] → W p l e (ti_rm 6) s m args below meth c H locs 0 0 Q (F0 m 150 ls []) := by
                intro n_76
                induction n_76 with
                | zero => intro x_64 M_67 x_71 H locs ls hf_76; exact absurd hf_76 (Nat.not_lt_zero _)
                | succ n_76 ih_76 =>
                  intro x_64 M_67 x_71 H locs ls hf_76 b_65 b_66 iM_67 f_68 f_69 f_70 b_72 b_73 f_74 j_75 hw hl
                  refine lv_iload hx hb dX0_play_150 (lv_at hl 0 rfl) ?_
                  refine lv_iload hx hb dX0_play_152 (lv_at hl 2 rfl) ?_
                  refine sb_icmp_ge (tgt := 213) hx hb rfl rfl dX0_play_154 (by decide) (fun c_154_76 => ?_) (fun c_154_76 => ?_)
                  · obtain ⟨x_101, ex_101⟩ : ∃ z : Int32, z = x_50 + 1 := ⟨_, rfl⟩
                    have tx_101 : x_101.toInt = x_50.toInt + 1 := i_add ex_101 rfl (by decide) (by omega) (by omega)
                    refine lv_iinc (v := x_101) (lv' := [(6, .int x_101), (7, .int x_64), (5, .int x_4), (0, .ref (A 53 0)), (1, .ref (A 27 0)), (2, .int m1), (3, .int m2), (4, .int nn)]) hx hb dX0_play_213 hl (k := 1) rfl (by rw [ex_101]; rfl) (by decide) rfl (fun ls hl => ?_)
                    refine lv_goto (tgt := 140) hx hb dX0_play_216 (by decide) ?_
                    exact ih_62 x_101 M_67 x_71 _ _ _ (by omega) (by first | omega | decide) (by first | omega | decide) iM_67 f_68 f_69 f_70 (by first | omega | decide) (by first | omega | decide) (f_74) (by first | omega | decide) hw (lv_sub hl [0, 2, 3, 4, 5, 6, 7] rfl)
                  · refine lv_aload_n hx hb dX0_play_157 rfl (lv_at hl 3 rfl) ?_
                    refine lv_iload hx hb dX0_play_158 (lv_at hl 1 rfl) ?_
                    refine lv_iload hx hb dX0_play_160 (lv_at hl 0 rfl) ?_
                    refine lv_iload hx hb dX0_play_162 (lv_at hl 2 rfl) ?_
                    refine ti_callVi (ci := 0) (av := [.int x_50, .int x_64, .int x_4]) C hw (s_X0_isRest l D A cy hJ M_67 iM_67 x_50 x_64 x_4 (by first | omega | decide) (by first | omega | decide) (by first | omega | decide) (by first | omega | decide) (by first | omega | decide)) ⟨ml_X0_126, ym_X0_isRest, yv_X0_isRest, yi_X0_isRest, yc_X0_isRest⟩ yd_X0_isRest ob_53 (by decide) rfl rfl hl.1 (Nat.le_of_ble_eq_true rfl) ⟨by decide, by decide⟩ ⟨Nat.zero_le _, Nat.zero_le _⟩ dX0_play_164 (fun r_78 M_79 H locs hp_79 hw => ?_)
                    have hm := hp_79
                    have hw := hw.to hm
                    have hj_207_99 : ∀ (M_91 : ti_M) (x_95 : Int32) (H : Heap) (locs : List Loc) (ls : Array Slot), (cI Tc M_91) → (rT M_91 M) → (fX M_91 M) → (fS M_91 M) → (0 ≤ x_95.toInt) → (x_95.toInt ≤ 16) → (tI M_91 53 5 = x_95) → (x_95.toInt ≤ 4 * x_50.toInt + x_64.toInt + 1) → ti_H ti_LT D A cy H0 M_91 H locs → lv_has ls 8 [(7, .int x_64), (6, .int x_50), (5, .int x_4), (0, .ref (A 53 0)), (1, .ref (A 27 0)), (2, .int m1), (3, .int m2), (4, .int nn)] → W p l e (ti_rm 6) s m args below meth c H locs 0 0 Q (F0 m 207 ls []) := by
                      intro M_91 x_95 H locs ls iM_91 f_92 f_93 f_94 b_96 b_97 f_98 j_99 hw hl
                      obtain ⟨x_100, ex_100⟩ : ∃ z : Int32, z = x_64 + 1 := ⟨_, rfl⟩
                      have tx_100 : x_100.toInt = x_64.toInt + 1 := i_add ex_100 rfl (by decide) (by omega) (by omega)
                      refine lv_iinc (v := x_100) (lv' := [(7, .int x_100), (6, .int x_50), (5, .int x_4), (0, .ref (A 53 0)), (1, .ref (A 27 0)), (2, .int m1), (3, .int m2), (4, .int nn)]) hx hb dX0_play_207 hl (k := 0) rfl (by rw [ex_100]; rfl) (by decide) rfl (fun ls hl => ?_)
                      refine lv_goto (tgt := 150) hx hb dX0_play_210 (by decide) ?_
                      exact ih_76 x_100 M_91 x_95 _ _ _ (by omega) (by first | omega | decide) (by first | omega | decide) iM_91 f_92 f_93 f_94 (by first | omega | decide) (by first | omega | decide) (f_98) (by first | omega | decide) hw (lv_sub hl [0, 1, 2, 3, 4, 5, 6, 7] rfl)
                    refine sb_if_eq (tgt := 207) hx hb rfl dX0_play_167 (by decide) (fun c_167_79 => ?_) (fun c_167_79 => ?_)
                    · exact hj_207_99 M_67 x_71 _ _ _ iM_67 f_68 f_69 f_70 (by first | omega | decide) (by first | omega | decide) (f_74) (by first | omega | decide) hw (lv_sub hl [0, 1, 2, 3, 4, 5, 6, 7] rfl)
                    · refine lv_aload_n hx hb dX0_play_170 rfl (lv_at hl 3 rfl) ?_
                      refine ti_get (ci := 0) (k := 4) (N := 6) (T := TX0) (v := .ref (A 53 5)) C hw iw_0 rfl ob_53 (by decide) (by decide) fl_X0_28 rfl rfl dX0_play_171 ?_
                      refine lv_aload_n hx hb dX0_play_174 rfl (lv_at hl 3 rfl) ?_
                      refine ti_get (ci := 0) (k := 5) (N := 6) (T := TX0) C hw iw_0 rfl ob_53 (by decide) (by decide) fl_X0_31 rfl rfl dX0_play_175 ?_
                      refine ti_top (y := x_71) (f_74) ?_
                      have u_81 : (tI M_67 53 5).toInt = (x_71 : Int32).toInt := by rw [(f_74)]
                      refine lv_bipush (v := 100) hx hb dX0_play_178 (by decide) ?_
                      refine lv_aload_n hx hb dX0_play_180 rfl (lv_at hl 4 rfl) ?_
                      refine ti_get (ci := 3) (k := 2) (N := 17) (T := TX3) C hw iw_3 rfl ob_27 (by decide) (by decide) fl_X0_45 rfl rfl dX0_play_181 ?_
                      refine lv_topi (fun x_82 ex_82 => ?_)
                      have bx_82 : 0 ≤ x_82.toInt ∧ x_82.toInt ≤ 120 := cI_rd iM_67 ob_27.1 ex_82 (Or.inl rfl)
                      have ux_82 : (tI M_67 27 2).toInt = x_82.toInt := by rw [ex_82]
                      refine lv_iload hx hb dX0_play_184 (lv_at hl 1 rfl) ?_
                      refine lv_iadd hx hb dX0_play_186 ?_
                      refine lv_topi (fun x_83 ex_83 => ?_)
                      have tx_83 : x_83.toInt = x_82.toInt + x_50.toInt := i_add ex_83 rfl rfl (by omega) (by omega)
                      refine lv_imul hx hb dX0_play_187 ?_
                      refine lv_topi (fun x_84 ex_84 => ?_)
                      have tx_84 : x_84.toInt = 100 * x_83.toInt := i_mul ex_84 (by decide : (100 : Int32).toInt = 100) rfl (by omega) (by omega)
                      refine lv_aload_n hx hb dX0_play_188 rfl (lv_at hl 4 rfl) ?_
                      refine ti_get (ci := 3) (k := 2) (N := 17) (T := TX3) C hw iw_3 rfl ob_27 (by decide) (by decide) fl_X0_45 rfl rfl dX0_play_189 ?_
                      refine ti_top (y := x_82) (ex_82.symm) ?_
                      refine lv_iadd hx hb dX0_play_192 ?_
                      refine lv_topi (fun x_85 ex_85 => ?_)
                      have tx_85 : x_85.toInt = x_84.toInt + x_82.toInt := i_add ex_85 rfl rfl (by omega) (by omega)
                      refine lv_iload hx hb dX0_play_193 (lv_at hl 0 rfl) ?_
                      refine lv_iadd hx hb dX0_play_195 ?_
                      refine lv_topi (fun x_86 ex_86 => ?_)
                      have tx_86 : x_86.toInt = x_85.toInt + x_64.toInt := i_add ex_86 rfl rfl (by omega) (by omega)
                      refine ti_iast (ci := 0) (k := 4) (n := 16) C hw ob_53 (by decide) (fun _ _ => rfl) (vp_in_iff.mpr (by omega)) dX0_play_196 (fun H locs hw => ?_)
                      obtain ⟨M_87, hM_87⟩ : ∃ z : ti_M, z = uY M_67 53 4 (upd (tY M_67 53 4) (x_71 : Int32).toNatClampNeg x_86) := ⟨_, rfl⟩
                      have hw := hw.to hM_87.symm
                      have iM_87 : cI Tc M_87 := cI_up iM_67 hM_87 ob_53.1 trivial
                      refine lv_aload_n hx hb dX0_play_197 rfl (lv_at hl 3 rfl) ?_
                      refine lv_dup hx hb dX0_play_198 rfl ?_
                      refine ti_get (ci := 0) (k := 5) (N := 6) (T := TX0) C hw iw_0 rfl ob_53 (by decide) (by decide) fl_X0_31 rfl rfl dX0_play_199 ?_
                      refine ti_top (y := x_71) ((tI_uYE hM_87).trans f_74) ?_
                      have u_88 : (tI M_87 53 5).toInt = (x_71 : Int32).toInt := by rw [((tI_uYE hM_87).trans f_74)]
                      refine lv_iconst (v := 1) hx hb dX0_play_202 (by decide) ?_
                      refine lv_iadd hx hb dX0_play_203 ?_
                      refine lv_topi (fun x_89 ex_89 => ?_)
                      have tx_89 : x_89.toInt = x_71.toInt + 1 := i_add ex_89 rfl (by decide : (1 : Int32).toInt = 1) (by omega) (by omega)
                      refine ti_putI (ci := 0) (k := 5) (N := 6) (T := TX0) C hw iw_0 tyX0 tyX0_ok nmX0 rfl ob_53 (by decide) (by decide) fl_X0_31 rfl rfl rfl rfl (fn_0 A _) fs_0_5 dX0_play_204 (fun H locs hw => ?_)
                      obtain ⟨M_90, hM_90⟩ : ∃ z : ti_M, z = uI M_87 53 5 x_89 := ⟨_, rfl⟩
                      have hw := hw.to hM_90.symm
                      have iM_90 : cI Tc M_90 := cI_uI iM_87 hM_90 ob_53.1 (ib_mk (lo := 0) (hi := 16) (by omega) (by omega))
                      have vM_90 : (tI M_90 53 5).toInt = (x_89 : Int32).toInt := by rw [tI_uE hM_90]
                      exact hj_207_99 M_90 x_89 _ _ _ iM_90 (rT.trans (rs_of (rf_I hM_90)) (rT.trans (rs_of (rf_Y hM_87)) f_68)) (fX.trans (fx_I hM_90 (by decide)) (fX.trans (fx_of (ra_Y hM_87)) f_69)) (fS.trans (fS_I hM_90 (by decide)) (fS.trans (fS_Y hM_87 (by decide)) f_70)) (by first | omega | decide) (by first | omega | decide) (tI_uE hM_90) (by first | omega | decide) hw (lv_sub hl [0, 1, 2, 3, 4, 5, 6, 7] rfl)
              exact hl_150_75 ((4 - 0 : Int).toNat + 1) 0 M_53 x_57 _ _ _ (Nat.lt_succ_self _) (by have lt0 : (0 : Int32).toInt = 0 := (by decide); first | omega | decide) (by have lt0 : (0 : Int32).toInt = 0 := (by decide); first | omega | decide) iM_53 f_54 f_55 f_56 (by have lt0 : (0 : Int32).toInt = 0 := (by decide); first | omega | decide) (by have lt0 : (0 : Int32).toInt = 0 := (by decide); first | omega | decide) (f_60) (by have lt0 : (0 : Int32).toInt = 0 := (by decide); first | omega | decide) hw (lv_sub hl [0, 1, 2, 3, 4, 5, 6, 7] rfl)
        exact hl_140_61 ((4 - 0 : Int).toNat + 1) 0 M_49 0 _ _ _ (Nat.lt_succ_self _) (by have lt0 : (0 : Int32).toInt = 0 := (by decide); first | omega | decide) (by have lt0 : (0 : Int32).toInt = 0 := (by decide); first | omega | decide) iM_49 (rT.trans (rs_of (rf_I hM_49)) f_9) (fX.trans (fx_I hM_49 (by decide)) f_10) (fS.trans (fS_I hM_49 (by decide)) f_11) (by have lt0 : (0 : Int32).toInt = 0 := (by decide); first | omega | decide) (by have lt0 : (0 : Int32).toInt = 0 := (by decide); first | omega | decide) (tI_uE hM_49) (by have lt0 : (0 : Int32).toInt = 0 := (by decide); first | omega | decide) hw (lv_sub hl [0, 1, 2, 3, 4, 5, 6] rfl)
      · refine lv_iconst (v := 0) hx hb dX0_play_25 (by decide) ?_
        refine lv_istore (lv' := [(7, .int 0), (6, .int x_5), (5, .int x_4), (0, .ref (A 53 0)), (1, .ref (A 27 0)), (2, .int m1), (3, .int m2), (4, .int nn)]) hx hb dX0_play_26 hl (by decide) rfl (fun ls hl => ?_)
        have hl_28_20 : ∀ (n_21 : Nat) (x_14 : Int32) (M_17 : ti_M) (H : Heap) (locs : List Loc) (ls : Array Slot), (4 - x_14.toInt : Int).toNat < n_21 → (0 ≤ x_14.toInt) → (x_14.toInt ≤ 4) → (cI Tc M_17) → (rT M_17 M) → (fX M_17 M) → (fS M_17 M) → ti_H ti_LT D A cy H0 M_17 H locs → lv_has ls 8 [(7, .int x_14), (6, .int x_5), (5, .int x_4), (0, .ref (A 53 0)), (1, .ref (A 27 0)), (2, .int m1), (3, .int m2), (4, .int nn)] → W p l e (ti_rm 6) s m args below meth c H locs 0 0 Q (F0 m 28 ls []) := by
          intro n_21
          induction n_21 with
          | zero => intro x_14 M_17 H locs ls hf_21; exact absurd hf_21 (Nat.not_lt_zero _)
          | succ n_21 ih_21 =>
            intro x_14 M_17 H locs ls hf_21 b_15 b_16 iM_17 f_18 f_19 f_20 hw hl
            refine lv_iload hx hb dX0_play_28 (lv_at hl 0 rfl) ?_
            refine lv_iload hx hb dX0_play_30 (lv_at hl 2 rfl) ?_
            refine sb_icmp_ge (tgt := 126) hx hb rfl rfl dX0_play_32 (by decide) (fun c_32_21 => ?_) (fun c_32_21 => ?_)
            · obtain ⟨x_48, ex_48⟩ : ∃ z : Int32, z = x_5 + 1 := ⟨_, rfl⟩
              have tx_48 : x_48.toInt = x_5.toInt + 1 := i_add ex_48 rfl (by decide) (by omega) (by omega)
              refine lv_iinc (v := x_48) (lv' := [(6, .int x_48), (7, .int x_14), (5, .int x_4), (0, .ref (A 53 0)), (1, .ref (A 27 0)), (2, .int m1), (3, .int m2), (4, .int nn)]) hx hb dX0_play_126 hl (k := 1) rfl (by rw [ex_48]; rfl) (by decide) rfl (fun ls hl => ?_)
              refine lv_goto (tgt := 18) hx hb dX0_play_129 (by decide) ?_
              exact ih_12 x_48 M_17 _ _ _ (by omega) (by first | omega | decide) (by first | omega | decide) iM_17 f_18 f_19 f_20 hw (lv_sub hl [0, 2, 3, 4, 5, 6, 7] rfl)
            · refine lv_aload_n hx hb dX0_play_35 rfl (lv_at hl 3 rfl) ?_
              refine lv_aload_n hx hb dX0_play_36 rfl (lv_at hl 4 rfl) ?_
              refine ti_callVv (ci := 0) (av := [.ref (A 27 0)]) C hw (f_X0_prepare l D A cy hJ M_17 iM_17 t ht ((f_18 27 0 (by decide)).trans hT)) ⟨ml_X0_42, ym_X0_prepare, yv_X0_prepare, yi_X0_prepare, yc_X0_prepare⟩ yd_X0_prepare ob_53 (by decide) rfl rfl hl.1 (Nat.le_of_ble_eq_true rfl) ⟨by decide, by decide⟩ ⟨Nat.zero_le _, Nat.zero_le _⟩ dX0_play_37 (fun M_24 H locs hp_24 hw => ?_)
              obtain ⟨frM_24, hqM_24⟩ := hp_24
              obtain ⟨iM_24, q_25, q_26⟩ := hqM_24
              refine lv_aload_n hx hb dX0_play_40 rfl (lv_at hl 3 rfl) ?_
              refine ti_get (ci := 0) (k := 0) (N := 6) (T := TX0) (v := .ref (A 54 0)) C hw iw_0 rfl ob_53 (by decide) (by decide) fl_X0_12 rfl rfl dX0_play_41 ?_
              refine ti_get (ci := 3) (k := 9) (N := 17) (T := TX3) (v := .ref (A 54 10)) C hw iw_3 rfl ob_54 (by decide) (by decide) fl_X0_57 rfl rfl dX0_play_44 ?_
              refine lv_iload_n hx hb dX0_play_47 rfl (lv_at hl 5 rfl) ?_
              refine lv_aload_n hx hb dX0_play_48 rfl (lv_at hl 4 rfl) ?_
              refine ti_get (ci := 3) (k := 2) (N := 17) (T := TX3) C hw iw_3 rfl ob_27 (by decide) (by decide) fl_X0_45 rfl rfl dX0_play_49 ?_
              refine lv_topi (fun x_27 ex_27 => ?_)
              have bx_27 : 0 ≤ x_27.toInt ∧ x_27.toInt ≤ 120 := cI_rd iM_24 ob_27.1 ex_27 (Or.inl rfl)
              have ux_27 : (tI M_24 27 2).toInt = x_27.toInt := by rw [ex_27]
              refine lv_iload hx hb dX0_play_52 (lv_at hl 1 rfl) ?_
              refine lv_iadd hx hb dX0_play_54 ?_
              refine lv_topi (fun x_28 ex_28 => ?_)
              have tx_28 : x_28.toInt = x_27.toInt + x_5.toInt := i_add ex_28 rfl rfl (by omega) (by omega)
              refine ti_iast (ci := 3) (k := 9) (n := 8) C hw ob_54 (by decide) (fun _ _ => rfl) (vp_in_iff.mpr (by omega)) dX0_play_55 (fun H locs hw => ?_)
              obtain ⟨M_29, hM_29⟩ : ∃ z : ti_M, z = uY M_24 54 9 (upd (tY M_24 54 9) (m1 : Int32).toNatClampNeg x_28) := ⟨_, rfl⟩
              have hw := hw.to hM_29.symm
              have iM_29 : cI Tc M_29 := cI_up iM_24 hM_29 ob_54.1 trivial
              refine lv_aload_n hx hb dX0_play_56 rfl (lv_at hl 3 rfl) ?_
              refine ti_get (ci := 0) (k := 0) (N := 6) (T := TX0) (v := .ref (A 54 0)) C hw iw_0 rfl ob_53 (by decide) (by decide) fl_X0_12 rfl rfl dX0_play_57 ?_
              refine ti_get (ci := 3) (k := 9) (N := 17) (T := TX3) (v := .ref (A 54 10)) C hw iw_3 rfl ob_54 (by decide) (by decide) fl_X0_57 rfl rfl dX0_play_60 ?_
              refine lv_iload_n hx hb dX0_play_63 rfl (lv_at hl 6 rfl) ?_
              refine lv_aload_n hx hb dX0_play_64 rfl (lv_at hl 4 rfl) ?_
              refine ti_get (ci := 3) (k := 2) (N := 17) (T := TX3) C hw iw_3 rfl ob_27 (by decide) (by decide) fl_X0_45 rfl rfl dX0_play_65 ?_
              refine ti_top (y := x_27) ((tI_uYE hM_29).trans ex_27.symm) ?_
              refine lv_iload hx hb dX0_play_68 (lv_at hl 0 rfl) ?_
              refine lv_iadd hx hb dX0_play_70 ?_
              refine lv_topi (fun x_30 ex_30 => ?_)
              have tx_30 : x_30.toInt = x_27.toInt + x_14.toInt := i_add ex_30 rfl rfl (by omega) (by omega)
              refine ti_iast (ci := 3) (k := 9) (n := 8) C hw ob_54 (by decide) (fun _ _ => rfl) (vp_in_iff.mpr (by omega)) dX0_play_71 (fun H locs hw => ?_)
              obtain ⟨M_31, hM_31⟩ : ∃ z : ti_M, z = uY M_29 54 9 (upd (tY M_29 54 9) (m2 : Int32).toNatClampNeg x_30) := ⟨_, rfl⟩
              have hw := hw.to hM_31.symm
              have iM_31 : cI Tc M_31 := cI_up iM_29 hM_31 ob_54.1 trivial
              refine lv_aload_n hx hb dX0_play_72 rfl (lv_at hl 3 rfl) ?_
              refine ti_get (ci := 0) (k := 0) (N := 6) (T := TX0) (v := .ref (A 54 0)) C hw iw_0 rfl ob_53 (by decide) (by decide) fl_X0_12 rfl rfl dX0_play_73 ?_
              refine lv_aload_n hx hb dX0_play_76 rfl (lv_at hl 4 rfl) ?_
              refine ti_get (ci := 3) (k := 2) (N := 17) (T := TX3) C hw iw_3 rfl ob_27 (by decide) (by decide) fl_X0_45 rfl rfl dX0_play_77 ?_
              refine ti_top (y := x_27) ((tI_uYE hM_31).trans ((tI_uYE hM_29).trans ex_27.symm)) ?_
              refine lv_iload hx hb dX0_play_80 (lv_at hl 7 rfl) ?_
              refine lv_iadd hx hb dX0_play_82 ?_
              refine lv_topi (fun x_32 ex_32 => ?_)
              refine ti_callVv (ci := 3) (av := [.int x_32]) C hw (f_X3_passTo l D A cy hJ M_31 iM_31 54 t ob_54 ht ((tT_uYE hM_31).trans ((tT_uYE hM_29).trans ((tT_fr q_25).trans (tT_u _ _ _ _)))) x_32 np_54) ⟨ml_X0_60, ym_X3_passTo, yv_X3_passTo, yi_X3_passTo, yc_X3_passTo⟩ yd_X3_passTo ob_54 (by decide) rfl rfl hl.1 (Nat.le_of_ble_eq_true rfl) ⟨by decide, by decide⟩ ⟨Nat.zero_le _, Nat.zero_le _⟩ dX0_play_83 (fun M_34 H locs hp_34 hw => ?_)
              obtain ⟨frM_34, hqM_34⟩ := hp_34
              obtain ⟨iM_34, q_35, q_36⟩ := hqM_34
              refine lv_aload_n hx hb dX0_play_86 rfl (lv_at hl 3 rfl) ?_
              refine ti_get (ci := 0) (k := 2) (N := 6) (T := TX0) (v := .ref (A 53 3)) C hw iw_0 rfl ob_53 (by decide) (by decide) fl_X0_21 rfl rfl dX0_play_87 ?_
              refine lv_iload hx hb dX0_play_90 (lv_at hl 1 rfl) ?_
              refine lv_iconst (v := 4) hx hb dX0_play_92 (by decide) ?_
              refine lv_imul hx hb dX0_play_93 ?_
              refine lv_topi (fun x_37 ex_37 => ?_)
              have tx_37 : x_37.toInt = x_5.toInt * 4 := i_mul ex_37 rfl (by decide : (4 : Int32).toInt = 4) (by omega) (by omega)
              refine lv_iload hx hb dX0_play_94 (lv_at hl 0 rfl) ?_
              refine lv_iadd hx hb dX0_play_96 ?_
              refine lv_topi (fun x_38 ex_38 => ?_)
              have tx_38 : x_38.toInt = x_37.toInt + x_14.toInt := i_add ex_38 rfl rfl (by omega) (by omega)
              refine lv_aload_n hx hb dX0_play_97 rfl (lv_at hl 3 rfl) ?_
              refine lv_iload_n hx hb dX0_play_98 rfl (lv_at hl 5 rfl) ?_
              refine ti_callVi (ci := 0) (av := [.int m1]) C hw (s_X0_worth l D A cy hJ M_34 iM_34 m1 (by first | omega | decide) (by first | omega | decide)) ⟨ml_X0_123, ym_X0_worth, yv_X0_worth, yi_X0_worth, yc_X0_worth⟩ yd_X0_worth ob_53 (by decide) rfl rfl hl.1 (Nat.le_of_ble_eq_true rfl) ⟨by decide, by decide⟩ ⟨Nat.zero_le _, Nat.zero_le _⟩ dX0_play_99 (fun r_39 M_40 H locs hp_40 hw => ?_)
              have hm := hp_40
              have hw := hw.to hm
              refine ti_iast (ci := 0) (k := 2) (n := 16) C hw ob_53 (by decide) (fun _ _ => rfl) (vp_in_iff.mpr (by omega)) dX0_play_102 (fun H locs hw => ?_)
              obtain ⟨M_41, hM_41⟩ : ∃ z : ti_M, z = uY M_34 53 2 (upd (tY M_34 53 2) (x_38 : Int32).toNatClampNeg r_39) := ⟨_, rfl⟩
              have hw := hw.to hM_41.symm
              have iM_41 : cI Tc M_41 := cI_up iM_34 hM_41 ob_53.1 trivial
              refine lv_aload_n hx hb dX0_play_103 rfl (lv_at hl 3 rfl) ?_
              refine ti_get (ci := 0) (k := 3) (N := 6) (T := TX0) (v := .ref (A 53 4)) C hw iw_0 rfl ob_53 (by decide) (by decide) fl_X0_25 rfl rfl dX0_play_104 ?_
              refine lv_iload hx hb dX0_play_107 (lv_at hl 1 rfl) ?_
              refine lv_iconst (v := 4) hx hb dX0_play_109 (by decide) ?_
              refine lv_imul hx hb dX0_play_110 ?_
              refine lv_topi (fun x_42 ex_42 => ?_)
              have tx_42 : x_42.toInt = x_5.toInt * 4 := i_mul ex_42 rfl (by decide : (4 : Int32).toInt = 4) (by omega) (by omega)
              refine lv_iload hx hb dX0_play_111 (lv_at hl 0 rfl) ?_
              refine lv_iadd hx hb dX0_play_113 ?_
              refine lv_topi (fun x_43 ex_43 => ?_)
              have tx_43 : x_43.toInt = x_42.toInt + x_14.toInt := i_add ex_43 rfl rfl (by omega) (by omega)
              refine lv_aload_n hx hb dX0_play_114 rfl (lv_at hl 3 rfl) ?_
              refine lv_iload_n hx hb dX0_play_115 rfl (lv_at hl 6 rfl) ?_
              refine ti_callVi (ci := 0) (av := [.int m2]) C hw (s_X0_worth l D A cy hJ M_41 iM_41 m2 (by first | omega | decide) (by first | omega | decide)) ⟨ml_X0_123, ym_X0_worth, yv_X0_worth, yi_X0_worth, yc_X0_worth⟩ yd_X0_worth ob_53 (by decide) rfl rfl hl.1 (Nat.le_of_ble_eq_true rfl) ⟨by decide, by decide⟩ ⟨Nat.zero_le _, Nat.zero_le _⟩ dX0_play_116 (fun r_44 M_45 H locs hp_45 hw => ?_)
              have hm := hp_45
              have hw := hw.to hm
              refine ti_iast (ci := 0) (k := 3) (n := 16) C hw ob_53 (by decide) (fun _ _ => rfl) (vp_in_iff.mpr (by omega)) dX0_play_119 (fun H locs hw => ?_)
              obtain ⟨M_46, hM_46⟩ : ∃ z : ti_M, z = uY M_41 53 3 (upd (tY M_41 53 3) (x_43 : Int32).toNatClampNeg r_44) := ⟨_, rfl⟩
              have hw := hw.to hM_46.symm
              have iM_46 : cI Tc M_46 := cI_up iM_41 hM_46 ob_53.1 trivial
              obtain ⟨x_47, ex_47⟩ : ∃ z : Int32, z = x_14 + 1 := ⟨_, rfl⟩
              have tx_47 : x_47.toInt = x_14.toInt + 1 := i_add ex_47 rfl (by decide) (by omega) (by omega)
              refine lv_iinc (v := x_47) (lv' := [(7, .int x_47), (6, .int x_5), (5, .int x_4), (0, .ref (A 53 0)), (1, .ref (A 27 0)), (2, .int m1), (3, .int m2), (4, .int nn)]) hx hb dX0_play_120 hl (k := 0) rfl (by rw [ex_47]; rfl) (by decide) rfl (fun ls hl => ?_)
              refine lv_goto (tgt := 28) hx hb dX0_play_123 (by decide) ?_
              exact ih_21 x_47 M_46 _ _ _ (by omega) (by first | omega | decide) (by first | omega | decide) iM_46 (rT.trans (rs_of (rf_Y hM_46)) (rT.trans (rs_of (rf_Y hM_41)) (rT.trans (rs_of q_35) (rT.trans (rs_of (rf_Y hM_31)) (rT.trans (rs_of (rf_Y hM_29)) (rT.trans (rs_TT q_25 (by decide)) f_18)))))) (fX.trans (fx_of (ra_Y hM_46)) (fX.trans (fx_of (ra_Y hM_41)) (fX.trans q_36 (fX.trans (fx_of (ra_Y hM_31)) (fX.trans (fx_of (ra_Y hM_29)) (fX.trans q_26 f_19)))))) (fS.trans (fS_Y hM_46 (by decide)) (fS.trans (fS_Y hM_41 (by decide)) (fS.trans (fS_q frM_34 (by decide)) (fS.trans (fS_Y hM_31 (by decide)) (fS.trans (fS_Y hM_29 (by decide)) (fS.trans frM_24 f_20)))))) hw (lv_sub hl [0, 1, 2, 3, 4, 5, 6, 7] rfl)
        exact hl_28_20 ((4 - 0 : Int).toNat + 1) 0 M_8 _ _ _ (Nat.lt_succ_self _) (by have lt0 : (0 : Int32).toInt = 0 := (by decide); first | omega | decide) (by have lt0 : (0 : Int32).toInt = 0 := (by decide); first | omega | decide) iM_8 f_9 f_10 f_11 hw (lv_sub hl [0, 1, 2, 3, 4, 5, 6, 7] rfl)
  exact hl_18_11 ((4 - 0 : Int).toNat + 1) 0 M _ _ _ (Nat.lt_succ_self _) (by have lt0 : (0 : Int32).toInt = 0 := (by decide); first | omega | decide) (by have lt0 : (0 : Int32).toInt = 0 := (by decide); first | omega | decide) hI rT.refl fX.refl fS.refl hw (lv_sub hl [0, 1, 2, 3, 4, 5, 6] rfl)
set_option maxHeartbeats 4000000 in
set_option maxRecDepth 100000 in
theorem f_X0_minutesHeld (l : Launch) (D : va_G) (A : Nat → Nat → Nat) (cy : Nat → ClassId) (hJ : ti_inj ti_LT A) (M : ti_M) (hI : cI Tc M) (t : Nat) (ht : t = 3 ∨ t = 4) (hT : tT M 27 0 = some t) (kd pl mn nn : Int32) (h1 : 0 ≤ kd.toInt) (h2 : kd.toInt ≤ 2) : ti_Ki l yX0_minutesHeld cX0_minutesHeld 8 (some .int) 5 ti_LT D A cy M [.ref (A 53 0), .ref (A 27 0), .int kd, .int pl, .int mn, .int nn] (fun r M2 => fS M2 M ∧ cI Tc M2 ∧ rT M2 M ∧ fX M2 M) := by
  refine ti_eI yp_X0_minutesHeld hJ ti_LT_nd (Nat.le_of_ble_eq_true rfl) ?_
  intro p e s m args below meth c Q H0 C hQ hw ls hl
  have hx := C.1
  have hb := C.2.1
  have hl : lv_has ls 8 [(0, .ref (A 53 0)), (1, .ref (A 27 0)), (2, .int kd), (3, .int pl), (4, .int mn), (5, .int nn)] := hl
  have hnn := nn.toInt_lt
  refine lv_aload_n hx hb dX0_minutesHeld_0 rfl (lv_at hl 0 rfl) ?_
  refine lv_aload_n hx hb dX0_minutesHeld_1 rfl (lv_at hl 1 rfl) ?_
  refine ti_callVv (ci := 0) (av := [.ref (A 27 0)]) C hw (f_X0_prepare l D A cy hJ M hI t ht (hT)) ⟨ml_X0_42, ym_X0_prepare, yv_X0_prepare, yi_X0_prepare, yc_X0_prepare⟩ yd_X0_prepare ob_53 (by decide) rfl rfl hl.1 (Nat.le_of_ble_eq_true rfl) ⟨by decide, by decide⟩ ⟨Nat.zero_le _, Nat.zero_le _⟩ dX0_minutesHeld_2 (fun M_2 H locs hp_2 hw => ?_)
  obtain ⟨frM_2, hqM_2⟩ := hp_2
  obtain ⟨iM_2, q_3, q_4⟩ := hqM_2
  refine lv_aload_n hx hb dX0_minutesHeld_5 rfl (lv_at hl 0 rfl) ?_
  refine ti_get (ci := 0) (k := 0) (N := 6) (T := TX0) (v := .ref (A 54 0)) C hw iw_0 rfl ob_53 (by decide) (by decide) fl_X0_12 rfl rfl dX0_minutesHeld_6 ?_
  refine ti_get (ci := 3) (k := 7) (N := 17) (T := TX3) (v := .ref (A 54 8)) C hw iw_3 rfl ob_54 (by decide) (by decide) fl_X0_137 rfl rfl dX0_minutesHeld_9 ?_
  refine lv_iload_n hx hb dX0_minutesHeld_12 rfl (lv_at hl 2 rfl) ?_
  refine lv_iload_n hx hb dX0_minutesHeld_13 rfl (lv_at hl 3 rfl) ?_
  refine ti_iast (ci := 3) (k := 7) (n := 3) C hw ob_54 (by decide) (fun _ _ => rfl) (vp_in_iff.mpr (by omega)) dX0_minutesHeld_14 (fun H locs hw => ?_)
  obtain ⟨M_5, hM_5⟩ : ∃ z : ti_M, z = uY M_2 54 7 (upd (tY M_2 54 7) (kd : Int32).toNatClampNeg pl) := ⟨_, rfl⟩
  have hw := hw.to hM_5.symm
  have iM_5 : cI Tc M_5 := cI_up iM_2 hM_5 ob_54.1 trivial
  refine lv_iconst (v := 0) hx hb dX0_minutesHeld_15 (by decide) ?_
  refine lv_istore (lv' := [(6, .int 0), (0, .ref (A 53 0)), (1, .ref (A 27 0)), (2, .int kd), (3, .int pl), (4, .int mn), (5, .int nn)]) hx hb dX0_minutesHeld_16 hl (by decide) rfl (fun ls hl => ?_)
  refine lv_iconst (v := 0) hx hb dX0_minutesHeld_18 (by decide) ?_
  refine lv_istore (lv' := [(7, .int 0), (6, .int 0), (0, .ref (A 53 0)), (1, .ref (A 27 0)), (2, .int kd), (3, .int pl), (4, .int mn), (5, .int nn)]) hx hb dX0_minutesHeld_19 hl (by decide) rfl (fun ls hl => ?_)
  have hl_21_13 : ∀ (n_14 : Nat) (x_6 : Int32) (x_8 : Int32) (M_9 : ti_M) (H : Heap) (locs : List Loc) (ls : Array Slot), (nn.toInt - x_6.toInt : Int).toNat < n_14 → (0 ≤ x_6.toInt) → (cI Tc M_9) → (rT M_9 M) → (fX M_9 M) → (fS M_9 M) → (tT M_9 54 0 = (some t)) → ti_H ti_LT D A cy H0 M_9 H locs → lv_has ls 8 [(7, .int x_6), (6, .int x_8), (0, .ref (A 53 0)), (1, .ref (A 27 0)), (2, .int kd), (3, .int pl), (4, .int mn), (5, .int nn)] → W p l e (ti_rm 5) s m args below meth c H locs 0 0 Q (F0 m 21 ls []) := by
    intro n_14
    induction n_14 with
    | zero => intro x_6 x_8 M_9 H locs ls hf_14; exact absurd hf_14 (Nat.not_lt_zero _)
    | succ n_14 ih_14 =>
      intro x_6 x_8 M_9 H locs ls hf_14 b_7 iM_9 f_10 f_11 f_12 f_13 hw hl
      refine lv_iload hx hb dX0_minutesHeld_21 (lv_at hl 0 rfl) ?_
      refine lv_iload hx hb dX0_minutesHeld_23 (lv_at hl 7 rfl) ?_
      refine sb_icmp_ge (tgt := 57) hx hb rfl rfl dX0_minutesHeld_25 (by decide) (fun c_25_14 => ?_) (fun c_25_14 => ?_)
      · refine lv_iload hx hb dX0_minutesHeld_57 (lv_at hl 1 rfl) ?_
        exact hQ _ _ _ _ _ _ hw rfl (⟨f_12, iM_9, f_10, f_11⟩) dX0_minutesHeld_59
      · refine lv_aload_n hx hb dX0_minutesHeld_28 rfl (lv_at hl 2 rfl) ?_
        refine ti_get (ci := 0) (k := 0) (N := 6) (T := TX0) (v := .ref (A 54 0)) C hw iw_0 rfl ob_53 (by decide) (by decide) fl_X0_12 rfl rfl dX0_minutesHeld_29 ?_
        refine ti_callVv (ci := 3) (av := []) C hw (f_X3_pass l D A cy hJ M_9 iM_9 54 t ob_54 ht (f_13) (fun h => absurd h np_54)) ⟨ml_X0_51, ym_X3_pass, yv_X3_pass, yi_X3_pass, yc_X3_pass⟩ yd_X3_pass ob_54 (by decide) rfl rfl hl.1 (Nat.le_of_ble_eq_true rfl) ⟨by decide, by decide⟩ ⟨Nat.zero_le _, Nat.zero_le _⟩ dX0_minutesHeld_32 (fun M_17 H locs hp_17 hw => ?_)
        obtain ⟨frM_17, hqM_17⟩ := hp_17
        obtain ⟨iM_17, q_18, q_19, q_20⟩ := hqM_17
        refine lv_aload_n hx hb dX0_minutesHeld_35 rfl (lv_at hl 2 rfl) ?_
        refine ti_get (ci := 0) (k := 0) (N := 6) (T := TX0) (v := .ref (A 54 0)) C hw iw_0 rfl ob_53 (by decide) (by decide) fl_X0_12 rfl rfl dX0_minutesHeld_36 ?_
        refine lv_iload_n hx hb dX0_minutesHeld_39 rfl (lv_at hl 5 rfl) ?_
        refine ti_callVi (ci := 3) (av := [.int pl]) C hw (s_X3_manAt l D A cy hJ M_17 iM_17 54 ob_54 pl) ⟨ml_X0_64, ym_X3_manAt, yv_X3_manAt, yi_X3_manAt, yc_X3_manAt⟩ yd_X3_manAt ob_54 (by decide) rfl rfl hl.1 (Nat.le_of_ble_eq_true rfl) ⟨by decide, by decide⟩ ⟨Nat.zero_le _, Nat.zero_le _⟩ dX0_minutesHeld_40 (fun r_21 M_22 H locs hp_22 hw => ?_)
        obtain ⟨hm, b0r_21, b1r_21, p0r_21⟩ := hp_22
        have hw := hw.to hm
        refine lv_iload hx hb dX0_minutesHeld_43 (lv_at hl 6 rfl) ?_
        have hj_51_25 : ∀ (x_25 : Int32) (H : Heap) (locs : List Loc) (ls : Array Slot), ti_H ti_LT D A cy H0 M_17 H locs → lv_has ls 8 [(7, .int x_6), (6, .int x_25), (0, .ref (A 53 0)), (1, .ref (A 27 0)), (2, .int kd), (3, .int pl), (4, .int mn), (5, .int nn)] → W p l e (ti_rm 5) s m args below meth c H locs 0 0 Q (F0 m 51 ls []) := by
          intro x_25 H locs ls  hw hl
          obtain ⟨x_26, ex_26⟩ : ∃ z : Int32, z = x_6 + 1 := ⟨_, rfl⟩
          have lox_26 := x_6.le_toInt
          have hix_26 := x_6.toInt_lt
          have tx_26 : x_26.toInt = x_6.toInt + 1 := i_add ex_26 rfl (by decide) (by omega) (by omega)
          refine lv_iinc (v := x_26) (lv' := [(7, .int x_26), (6, .int x_25), (0, .ref (A 53 0)), (1, .ref (A 27 0)), (2, .int kd), (3, .int pl), (4, .int mn), (5, .int nn)]) hx hb dX0_minutesHeld_51 hl (k := 0) rfl (by rw [ex_26]; rfl) (by decide) rfl (fun ls hl => ?_)
          refine lv_goto (tgt := 21) hx hb dX0_minutesHeld_54 (by decide) ?_
          exact ih_14 x_26 x_25 M_17 _ _ _ (by omega) (by first | omega | decide) iM_17 (rT.trans (rs_of q_18) f_10) (fX.trans q_20 f_11) (fS.trans (fS_q frM_17 (by decide)) f_12) ((tT_fr q_18).trans f_13) hw (lv_sub hl [0, 1, 2, 3, 4, 5, 6, 7] rfl)
        refine sb_icmp_ne (tgt := 51) hx hb rfl rfl dX0_minutesHeld_45 (by decide) (fun c_45_22 => ?_) (fun c_45_22 => ?_)
        · exact hj_51_25 x_8 _ _ _  hw (lv_sub hl [0, 1, 2, 3, 4, 5, 6, 7] rfl)
        · obtain ⟨x_24, ex_24⟩ : ∃ z : Int32, z = x_8 + 1 := ⟨_, rfl⟩
          refine lv_iinc (v := x_24) (lv' := [(6, .int x_24), (7, .int x_6), (0, .ref (A 53 0)), (1, .ref (A 27 0)), (2, .int kd), (3, .int pl), (4, .int mn), (5, .int nn)]) hx hb dX0_minutesHeld_48 hl (k := 1) rfl (by rw [ex_24]; rfl) (by decide) rfl (fun ls hl => ?_)
          exact hj_51_25 x_24 _ _ _  hw (lv_sub hl [1, 0, 2, 3, 4, 5, 6, 7] rfl)
  exact hl_21_13 ((nn.toInt - 0 : Int).toNat + 1) 0 0 M_5 _ _ _ (Nat.lt_succ_self _) (by have lt0 : (0 : Int32).toInt = 0 := (by decide); first | omega | decide) iM_5 (rT.trans (rs_of (rf_Y hM_5)) (rs_TT q_3 (by decide))) (fX.trans (fx_of (ra_Y hM_5)) q_4) (fS.trans (fS_Y hM_5 (by decide)) frM_2) ((tT_uYE hM_5).trans ((tT_fr q_3).trans (tT_u _ _ _ _))) hw (lv_sub hl [0, 1, 2, 3, 4, 5, 6, 7] rfl)
set_option maxHeartbeats 4000000 in
set_option maxRecDepth 100000 in
theorem f_X0_bestPlace (l : Launch) (D : va_G) (A : Nat → Nat → Nat) (cy : Nat → ClassId) (hJ : ti_inj ti_LT A) (M : ti_M) (hI : cI Tc M) (t : Nat) (ht : t = 3 ∨ t = 4) (hT : tT M 27 0 = some t) (kd mn nn wh : Int32) (h1 : 0 ≤ kd.toInt) (h2 : kd.toInt ≤ 2) : ti_Ki l yX0_bestPlace cX0_bestPlace 10 (some .int) 6 ti_LT D A cy M [.ref (A 53 0), .ref (A 27 0), .int kd, .int mn, .int nn, .int wh] (fun r M2 => fS M2 M ∧ cI Tc M2 ∧ rT M2 M ∧ fX M2 M) := by
  refine ti_eI yp_X0_bestPlace hJ ti_LT_nd (Nat.le_of_ble_eq_true rfl) ?_
  intro p e s m args below meth c Q H0 C hQ hw ls hl
  have hx := C.1
  have hb := C.2.1
  have hl : lv_has ls 10 [(0, .ref (A 53 0)), (1, .ref (A 27 0)), (2, .int kd), (3, .int mn), (4, .int nn), (5, .int wh)] := hl
  refine lv_iconst (v := 0) hx hb dX0_bestPlace_0 (by decide) ?_
  refine lv_istore (lv' := [(6, .int 0), (0, .ref (A 53 0)), (1, .ref (A 27 0)), (2, .int kd), (3, .int mn), (4, .int nn), (5, .int wh)]) hx hb dX0_bestPlace_1 hl (by decide) rfl (fun ls hl => ?_)
  refine lv_iconst (v := (-1)) hx hb dX0_bestPlace_3 (by decide) ?_
  refine lv_istore (lv' := [(7, .int (-1)), (6, .int 0), (0, .ref (A 53 0)), (1, .ref (A 27 0)), (2, .int kd), (3, .int mn), (4, .int nn), (5, .int wh)]) hx hb dX0_bestPlace_4 hl (by decide) rfl (fun ls hl => ?_)
  refine lv_iconst (v := 0) hx hb dX0_bestPlace_6 (by decide) ?_
  refine lv_istore (lv' := [(8, .int 0), (7, .int (-1)), (6, .int 0), (0, .ref (A 53 0)), (1, .ref (A 27 0)), (2, .int kd), (3, .int mn), (4, .int nn), (5, .int wh)]) hx hb dX0_bestPlace_7 hl (by decide) rfl (fun ls hl => ?_)
  have hl_9_9 : ∀ (n_10 : Nat) (x_1 : Int32) (x_4 : Int32) (x_5 : Int32) (M_6 : ti_M) (H : Heap) (locs : List Loc) (ls : Array Slot), (8 - x_1.toInt : Int).toNat < n_10 → (0 ≤ x_1.toInt) → (x_1.toInt ≤ 8) → (cI Tc M_6) → (rT M_6 M) → (fX M_6 M) → (fS M_6 M) → ti_H ti_LT D A cy H0 M_6 H locs → lv_has ls 10 [(8, .int x_1), (7, .int x_4), (6, .int x_5), (0, .ref (A 53 0)), (1, .ref (A 27 0)), (2, .int kd), (3, .int mn), (4, .int nn), (5, .int wh)] → W p l e (ti_rm 6) s m args below meth c H locs 0 0 Q (F0 m 9 ls []) := by
    intro n_10
    induction n_10 with
    | zero => intro x_1 x_4 x_5 M_6 H locs ls hf_10; exact absurd hf_10 (Nat.not_lt_zero _)
    | succ n_10 ih_10 =>
      intro x_1 x_4 x_5 M_6 H locs ls hf_10 b_2 b_3 iM_6 f_7 f_8 f_9 hw hl
      refine lv_iload hx hb dX0_bestPlace_9 (lv_at hl 0 rfl) ?_
      refine lv_bipush (v := 8) hx hb dX0_bestPlace_11 (by decide) ?_
      refine sb_icmp_ge (tgt := 50) hx hb rfl (by decide : (8 : Int32).toInt = 8) dX0_bestPlace_13 (by decide) (fun c_13_10 => ?_) (fun c_13_10 => ?_)
      · refine lv_iload hx hb dX0_bestPlace_50 (lv_at hl 8 rfl) ?_
        refine sb_if_ne (tgt := 60) hx hb rfl dX0_bestPlace_52 (by decide) (fun c_52_19 => ?_) (fun c_52_19 => ?_)
        · refine lv_iload hx hb dX0_bestPlace_60 (lv_at hl 1 rfl) ?_
          exact hQ _ _ _ _ _ _ hw rfl (⟨f_9, iM_6, f_7, f_8⟩) dX0_bestPlace_62
        · refine lv_iload hx hb dX0_bestPlace_55 (lv_at hl 2 rfl) ?_
          refine lv_goto (tgt := 62) hx hb dX0_bestPlace_57 (by decide) ?_
          exact hQ _ _ _ _ _ _ hw rfl (⟨f_9, iM_6, f_7, f_8⟩) dX0_bestPlace_62
      · refine lv_aload_n hx hb dX0_bestPlace_16 rfl (lv_at hl 3 rfl) ?_
        refine lv_aload_n hx hb dX0_bestPlace_17 rfl (lv_at hl 4 rfl) ?_
        refine lv_iload_n hx hb dX0_bestPlace_18 rfl (lv_at hl 5 rfl) ?_
        refine lv_iload hx hb dX0_bestPlace_19 (lv_at hl 0 rfl) ?_
        refine lv_iload_n hx hb dX0_bestPlace_21 rfl (lv_at hl 6 rfl) ?_
        refine lv_iload hx hb dX0_bestPlace_22 (lv_at hl 7 rfl) ?_
        refine ti_callVi (ci := 0) (av := [.ref (A 27 0), .int kd, .int x_1, .int mn, .int nn]) C hw (f_X0_minutesHeld l D A cy hJ M_6 iM_6 t ht ((f_7 27 0 (by decide)).trans hT) kd x_1 mn nn (by first | omega | decide) (by first | omega | decide)) ⟨ml_X0_133, ym_X0_minutesHeld, yv_X0_minutesHeld, yi_X0_minutesHeld, yc_X0_minutesHeld⟩ yd_X0_minutesHeld ob_53 (by decide) rfl rfl hl.1 (Nat.le_of_ble_eq_true rfl) ⟨by decide, by decide⟩ ⟨Nat.zero_le _, Nat.zero_le _⟩ dX0_bestPlace_24 (fun r_12 M_13 H locs hp_13 hw => ?_)
        obtain ⟨frM_13, hqM_13⟩ := hp_13
        obtain ⟨iM_13, q_14, q_15⟩ := hqM_13
        refine lv_istore (lv' := [(9, .int r_12), (8, .int x_1), (7, .int x_4), (6, .int x_5), (0, .ref (A 53 0)), (1, .ref (A 27 0)), (2, .int kd), (3, .int mn), (4, .int nn), (5, .int wh)]) hx hb dX0_bestPlace_27 hl (by decide) rfl (fun ls hl => ?_)
        refine lv_iload hx hb dX0_bestPlace_29 (lv_at hl 0 rfl) ?_
        refine lv_iload hx hb dX0_bestPlace_31 (lv_at hl 2 rfl) ?_
        have hj_44_18 : ∀ (x_17 : Int32) (x_18 : Int32) (H : Heap) (locs : List Loc) (ls : Array Slot), ti_H ti_LT D A cy H0 M_13 H locs → lv_has ls 10 [(9, .int r_12), (8, .int x_1), (7, .int x_17), (6, .int x_18), (0, .ref (A 53 0)), (1, .ref (A 27 0)), (2, .int kd), (3, .int mn), (4, .int nn), (5, .int wh)] → W p l e (ti_rm 6) s m args below meth c H locs 0 0 Q (F0 m 44 ls []) := by
          intro x_17 x_18 H locs ls  hw hl
          obtain ⟨x_19, ex_19⟩ : ∃ z : Int32, z = x_1 + 1 := ⟨_, rfl⟩
          have tx_19 : x_19.toInt = x_1.toInt + 1 := i_add ex_19 rfl (by decide) (by omega) (by omega)
          refine lv_iinc (v := x_19) (lv' := [(8, .int x_19), (9, .int r_12), (7, .int x_17), (6, .int x_18), (0, .ref (A 53 0)), (1, .ref (A 27 0)), (2, .int kd), (3, .int mn), (4, .int nn), (5, .int wh)]) hx hb dX0_bestPlace_44 hl (k := 1) rfl (by rw [ex_19]; rfl) (by decide) rfl (fun ls hl => ?_)
          refine lv_goto (tgt := 9) hx hb dX0_bestPlace_47 (by decide) ?_
          exact ih_10 x_19 x_17 x_18 M_13 _ _ _ (by omega) (by first | omega | decide) (by first | omega | decide) iM_13 (rT.trans q_14 f_7) (fX.trans q_15 f_8) (fS.trans frM_13 f_9) hw (lv_sub hl [0, 2, 3, 4, 5, 6, 7, 8, 9] rfl)
        refine sb_icmp_le (tgt := 44) hx hb rfl rfl dX0_bestPlace_33 (by decide) (fun c_33_15 => ?_) (fun c_33_15 => ?_)
        · exact hj_44_18 x_4 x_5 _ _ _  hw (lv_sub hl [0, 1, 2, 3, 4, 5, 6, 7, 8, 9] rfl)
        · refine lv_iload hx hb dX0_bestPlace_36 (lv_at hl 0 rfl) ?_
          refine lv_istore (lv' := [(7, .int r_12), (9, .int r_12), (8, .int x_1), (6, .int x_5), (0, .ref (A 53 0)), (1, .ref (A 27 0)), (2, .int kd), (3, .int mn), (4, .int nn), (5, .int wh)]) hx hb dX0_bestPlace_38 hl (by decide) rfl (fun ls hl => ?_)
          refine lv_iload hx hb dX0_bestPlace_40 (lv_at hl 2 rfl) ?_
          refine lv_istore (lv' := [(6, .int x_1), (7, .int r_12), (9, .int r_12), (8, .int x_1), (0, .ref (A 53 0)), (1, .ref (A 27 0)), (2, .int kd), (3, .int mn), (4, .int nn), (5, .int wh)]) hx hb dX0_bestPlace_42 hl (by decide) rfl (fun ls hl => ?_)
          exact hj_44_18 r_12 x_1 _ _ _  hw (lv_sub hl [2, 3, 1, 0, 4, 5, 6, 7, 8, 9] rfl)
  exact hl_9_9 ((8 - 0 : Int).toNat + 1) 0 (-1) 0 M _ _ _ (Nat.lt_succ_self _) (by have lt0 : ((-1) : Int32).toInt = (-1) := (by decide); have lt1 : (0 : Int32).toInt = 0 := (by decide); first | omega | decide) (by have lt0 : ((-1) : Int32).toInt = (-1) := (by decide); have lt1 : (0 : Int32).toInt = 0 := (by decide); first | omega | decide) hI rT.refl fX.refl fS.refl hw (lv_sub hl [0, 1, 2, 3, 4, 5, 6, 7, 8] rfl)
set_option maxHeartbeats 4000000 in
set_option maxRecDepth 100000 in
theorem f_X0_holders (l : Launch) (D : va_G) (A : Nat → Nat → Nat) (cy : Nat → ClassId) (hJ : ti_inj ti_LT A) (M : ti_M) (hI : cI Tc M) (t : Nat) (ht : t = 3 ∨ t = 4) (hT : tT M 27 0 = some t) (kd pl nn : Int32) (h1 : 0 ≤ kd.toInt) (h2 : kd.toInt ≤ 2) : ti_Ki l yX0_holders cX0_holders 8 (some .int) 5 ti_LT D A cy M [.ref (A 53 0), .ref (A 27 0), .int kd, .int pl, .int nn] (fun r M2 => fS M2 M ∧ cI Tc M2 ∧ rT M2 M ∧ fX M2 M) := by
  refine ti_eI yp_X0_holders hJ ti_LT_nd (Nat.le_of_ble_eq_true rfl) ?_
  intro p e s m args below meth c Q H0 C hQ hw ls hl
  have hx := C.1
  have hb := C.2.1
  have hl : lv_has ls 8 [(0, .ref (A 53 0)), (1, .ref (A 27 0)), (2, .int kd), (3, .int pl), (4, .int nn)] := hl
  have hnn := nn.toInt_lt
  refine lv_aload_n hx hb dX0_holders_0 rfl (lv_at hl 0 rfl) ?_
  refine lv_aload_n hx hb dX0_holders_1 rfl (lv_at hl 1 rfl) ?_
  refine ti_callVv (ci := 0) (av := [.ref (A 27 0)]) C hw (f_X0_prepare l D A cy hJ M hI t ht (hT)) ⟨ml_X0_42, ym_X0_prepare, yv_X0_prepare, yi_X0_prepare, yc_X0_prepare⟩ yd_X0_prepare ob_53 (by decide) rfl rfl hl.1 (Nat.le_of_ble_eq_true rfl) ⟨by decide, by decide⟩ ⟨Nat.zero_le _, Nat.zero_le _⟩ dX0_holders_2 (fun M_2 H locs hp_2 hw => ?_)
  obtain ⟨frM_2, hqM_2⟩ := hp_2
  obtain ⟨iM_2, q_3, q_4⟩ := hqM_2
  refine lv_aload_n hx hb dX0_holders_5 rfl (lv_at hl 0 rfl) ?_
  refine ti_get (ci := 0) (k := 0) (N := 6) (T := TX0) (v := .ref (A 54 0)) C hw iw_0 rfl ob_53 (by decide) (by decide) fl_X0_12 rfl rfl dX0_holders_6 ?_
  refine ti_get (ci := 3) (k := 7) (N := 17) (T := TX3) (v := .ref (A 54 8)) C hw iw_3 rfl ob_54 (by decide) (by decide) fl_X0_137 rfl rfl dX0_holders_9 ?_
  refine lv_iload_n hx hb dX0_holders_12 rfl (lv_at hl 2 rfl) ?_
  refine lv_iload_n hx hb dX0_holders_13 rfl (lv_at hl 3 rfl) ?_
  refine ti_iast (ci := 3) (k := 7) (n := 3) C hw ob_54 (by decide) (fun _ _ => rfl) (vp_in_iff.mpr (by omega)) dX0_holders_14 (fun H locs hw => ?_)
  obtain ⟨M_5, hM_5⟩ : ∃ z : ti_M, z = uY M_2 54 7 (upd (tY M_2 54 7) (kd : Int32).toNatClampNeg pl) := ⟨_, rfl⟩
  have hw := hw.to hM_5.symm
  have iM_5 : cI Tc M_5 := cI_up iM_2 hM_5 ob_54.1 trivial
  refine lv_iconst (v := 0) hx hb dX0_holders_15 (by decide) ?_
  refine lv_istore (lv' := [(5, .int 0), (0, .ref (A 53 0)), (1, .ref (A 27 0)), (2, .int kd), (3, .int pl), (4, .int nn)]) hx hb dX0_holders_16 hl (by decide) rfl (fun ls hl => ?_)
  refine lv_iconst (v := 0) hx hb dX0_holders_18 (by decide) ?_
  refine lv_istore (lv' := [(6, .int 0), (5, .int 0), (0, .ref (A 53 0)), (1, .ref (A 27 0)), (2, .int kd), (3, .int pl), (4, .int nn)]) hx hb dX0_holders_19 hl (by decide) rfl (fun ls hl => ?_)
  have hl_21_13 : ∀ (n_14 : Nat) (x_6 : Int32) (x_8 : Int32) (M_9 : ti_M) (H : Heap) (locs : List Loc) (ls : Array Slot), (nn.toInt - x_6.toInt : Int).toNat < n_14 → (0 ≤ x_6.toInt) → (cI Tc M_9) → (rT M_9 M) → (fX M_9 M) → (fS M_9 M) → (tT M_9 54 0 = (some t)) → ti_H ti_LT D A cy H0 M_9 H locs → lv_has ls 8 [(6, .int x_6), (5, .int x_8), (0, .ref (A 53 0)), (1, .ref (A 27 0)), (2, .int kd), (3, .int pl), (4, .int nn)] → W p l e (ti_rm 5) s m args below meth c H locs 0 0 Q (F0 m 21 ls []) := by
    intro n_14
    induction n_14 with
    | zero => intro x_6 x_8 M_9 H locs ls hf_14; exact absurd hf_14 (Nat.not_lt_zero _)
    | succ n_14 ih_14 =>
      intro x_6 x_8 M_9 H locs ls hf_14 b_7 iM_9 f_10 f_11 f_12 f_13 hw hl
      refine lv_iload hx hb dX0_holders_21 (lv_at hl 0 rfl) ?_
      refine lv_iload hx hb dX0_holders_23 (lv_at hl 6 rfl) ?_
      refine sb_icmp_ge (tgt := 69) hx hb rfl rfl dX0_holders_25 (by decide) (fun c_25_14 => ?_) (fun c_25_14 => ?_)
      · refine lv_iload hx hb dX0_holders_69 (lv_at hl 1 rfl) ?_
        exact hQ _ _ _ _ _ _ hw rfl (⟨f_12, iM_9, f_10, f_11⟩) dX0_holders_71
      · refine lv_aload_n hx hb dX0_holders_28 rfl (lv_at hl 2 rfl) ?_
        refine ti_get (ci := 0) (k := 0) (N := 6) (T := TX0) (v := .ref (A 54 0)) C hw iw_0 rfl ob_53 (by decide) (by decide) fl_X0_12 rfl rfl dX0_holders_29 ?_
        refine ti_callVv (ci := 3) (av := []) C hw (f_X3_pass l D A cy hJ M_9 iM_9 54 t ob_54 ht (f_13) (fun h => absurd h np_54)) ⟨ml_X0_51, ym_X3_pass, yv_X3_pass, yi_X3_pass, yc_X3_pass⟩ yd_X3_pass ob_54 (by decide) rfl rfl hl.1 (Nat.le_of_ble_eq_true rfl) ⟨by decide, by decide⟩ ⟨Nat.zero_le _, Nat.zero_le _⟩ dX0_holders_32 (fun M_17 H locs hp_17 hw => ?_)
        obtain ⟨frM_17, hqM_17⟩ := hp_17
        obtain ⟨iM_17, q_18, q_19, q_20⟩ := hqM_17
        refine lv_aload_n hx hb dX0_holders_35 rfl (lv_at hl 2 rfl) ?_
        refine ti_get (ci := 0) (k := 0) (N := 6) (T := TX0) (v := .ref (A 54 0)) C hw iw_0 rfl ob_53 (by decide) (by decide) fl_X0_12 rfl rfl dX0_holders_36 ?_
        refine lv_iload_n hx hb dX0_holders_39 rfl (lv_at hl 5 rfl) ?_
        refine ti_callVi (ci := 3) (av := [.int pl]) C hw (s_X3_manAt l D A cy hJ M_17 iM_17 54 ob_54 pl) ⟨ml_X0_64, ym_X3_manAt, yv_X3_manAt, yi_X3_manAt, yc_X3_manAt⟩ yd_X3_manAt ob_54 (by decide) rfl rfl hl.1 (Nat.le_of_ble_eq_true rfl) ⟨by decide, by decide⟩ ⟨Nat.zero_le _, Nat.zero_le _⟩ dX0_holders_40 (fun r_21 M_22 H locs hp_22 hw => ?_)
        obtain ⟨hm, b0r_21, b1r_21, p0r_21⟩ := hp_22
        have hw := hw.to hm
        refine lv_istore (lv' := [(7, .int r_21), (6, .int x_6), (5, .int x_8), (0, .ref (A 53 0)), (1, .ref (A 27 0)), (2, .int kd), (3, .int pl), (4, .int nn)]) hx hb dX0_holders_43 hl (by decide) rfl (fun ls hl => ?_)
        refine lv_iload hx hb dX0_holders_45 (lv_at hl 2 rfl) ?_
        refine lv_iload hx hb dX0_holders_47 (lv_at hl 0 rfl) ?_
        have hj_60_25 : ∀ (x_25 : Int32) (H : Heap) (locs : List Loc) (ls : Array Slot), ti_H ti_LT D A cy H0 M_17 H locs → lv_has ls 8 [(7, .int r_21), (6, .int x_6), (5, .int x_8), (0, .ref (A 53 0)), (1, .ref (A 27 0)), (2, .int kd), (3, .int pl), (4, .int nn)] → W p l e (ti_rm 5) s m args below meth c H locs 0 0 Q (F0 m 60 ls [.int x_25, .int x_8]) := by
          intro x_25 H locs ls  hw hl
          refine lv_ior hx hb dX0_holders_60 ?_
          refine lv_topi (fun x_26 ex_26 => ?_)
          refine lv_istore (lv' := [(5, .int x_26), (7, .int r_21), (6, .int x_6), (0, .ref (A 53 0)), (1, .ref (A 27 0)), (2, .int kd), (3, .int pl), (4, .int nn)]) hx hb dX0_holders_61 hl (by decide) rfl (fun ls hl => ?_)
          obtain ⟨x_27, ex_27⟩ : ∃ z : Int32, z = x_6 + 1 := ⟨_, rfl⟩
          have lox_27 := x_6.le_toInt
          have hix_27 := x_6.toInt_lt
          have tx_27 : x_27.toInt = x_6.toInt + 1 := i_add ex_27 rfl (by decide) (by omega) (by omega)
          refine lv_iinc (v := x_27) (lv' := [(6, .int x_27), (5, .int x_26), (7, .int r_21), (0, .ref (A 53 0)), (1, .ref (A 27 0)), (2, .int kd), (3, .int pl), (4, .int nn)]) hx hb dX0_holders_63 hl (k := 2) rfl (by rw [ex_27]; rfl) (by decide) rfl (fun ls hl => ?_)
          refine lv_goto (tgt := 21) hx hb dX0_holders_66 (by decide) ?_
          exact ih_14 x_27 x_26 M_17 _ _ _ (by omega) (by first | omega | decide) iM_17 (rT.trans (rs_of q_18) f_10) (fX.trans q_20 f_11) (fS.trans (fS_q frM_17 (by decide)) f_12) ((tT_fr q_18).trans f_13) hw (lv_sub hl [0, 1, 3, 4, 5, 6, 7] rfl)
        refine sb_if_ge (tgt := 56) hx hb rfl dX0_holders_49 (by decide) (fun c_49_22 => ?_) (fun c_49_22 => ?_)
        · refine lv_iconst (v := 1) hx hb dX0_holders_56 (by decide) ?_
          refine lv_iload hx hb dX0_holders_57 (lv_at hl 0 rfl) ?_
          refine lv_ishl hx hb dX0_holders_59 ?_
          refine lv_topi (fun x_24 ex_24 => ?_)
          exact hj_60_25 x_24 _ _ _  hw (lv_sub hl [0, 1, 2, 3, 4, 5, 6, 7] rfl)
        · refine lv_iconst (v := 0) hx hb dX0_holders_52 (by decide) ?_
          refine lv_goto (tgt := 60) hx hb dX0_holders_53 (by decide) ?_
          exact hj_60_25 0 _ _ _  hw (lv_sub hl [0, 1, 2, 3, 4, 5, 6, 7] rfl)
  exact hl_21_13 ((nn.toInt - 0 : Int).toNat + 1) 0 0 M_5 _ _ _ (Nat.lt_succ_self _) (by have lt0 : (0 : Int32).toInt = 0 := (by decide); first | omega | decide) iM_5 (rT.trans (rs_of (rf_Y hM_5)) (rs_TT q_3 (by decide))) (fX.trans (fx_of (ra_Y hM_5)) q_4) (fS.trans (fS_Y hM_5 (by decide)) frM_2) ((tT_uYE hM_5).trans ((tT_fr q_3).trans (tT_u _ _ _ _))) hw (lv_sub hl [0, 1, 2, 3, 4, 5, 6] rfl)
set_option maxHeartbeats 4000000 in
set_option maxRecDepth 100000 in
theorem f_X0_fairestPlace (l : Launch) (D : va_G) (A : Nat → Nat → Nat) (cy : Nat → ClassId) (hJ : ti_inj ti_LT A) (M : ti_M) (hI : cI Tc M) (t : Nat) (ht : t = 3 ∨ t = 4) (hT : tT M 27 0 = some t) (kd nn wh : Int32) (h1 : 0 ≤ kd.toInt) (h2 : kd.toInt ≤ 2) : ti_Ki l yX0_fairestPlace cX0_fairestPlace 9 (some .int) 6 ti_LT D A cy M [.ref (A 53 0), .ref (A 27 0), .int kd, .int nn, .int wh] (fun r M2 => fS M2 M ∧ cI Tc M2 ∧ rT M2 M ∧ fX M2 M) := by
  refine ti_eI yp_X0_fairestPlace hJ ti_LT_nd (Nat.le_of_ble_eq_true rfl) ?_
  intro p e s m args below meth c Q H0 C hQ hw ls hl
  have hx := C.1
  have hb := C.2.1
  have hl : lv_has ls 9 [(0, .ref (A 53 0)), (1, .ref (A 27 0)), (2, .int kd), (3, .int nn), (4, .int wh)] := hl
  refine lv_iconst (v := 0) hx hb dX0_fairestPlace_0 (by decide) ?_
  refine lv_istore (lv' := [(5, .int 0), (0, .ref (A 53 0)), (1, .ref (A 27 0)), (2, .int kd), (3, .int nn), (4, .int wh)]) hx hb dX0_fairestPlace_1 hl (by decide) rfl (fun ls hl => ?_)
  refine lv_iconst (v := (-1)) hx hb dX0_fairestPlace_3 (by decide) ?_
  refine lv_istore (lv' := [(6, .int (-1)), (5, .int 0), (0, .ref (A 53 0)), (1, .ref (A 27 0)), (2, .int kd), (3, .int nn), (4, .int wh)]) hx hb dX0_fairestPlace_4 hl (by decide) rfl (fun ls hl => ?_)
  refine lv_iconst (v := 0) hx hb dX0_fairestPlace_6 (by decide) ?_
  refine lv_istore (lv' := [(7, .int 0), (6, .int (-1)), (5, .int 0), (0, .ref (A 53 0)), (1, .ref (A 27 0)), (2, .int kd), (3, .int nn), (4, .int wh)]) hx hb dX0_fairestPlace_7 hl (by decide) rfl (fun ls hl => ?_)
  have hl_9_9 : ∀ (n_10 : Nat) (x_1 : Int32) (x_4 : Int32) (x_5 : Int32) (M_6 : ti_M) (H : Heap) (locs : List Loc) (ls : Array Slot), (8 - x_1.toInt : Int).toNat < n_10 → (0 ≤ x_1.toInt) → (x_1.toInt ≤ 8) → (cI Tc M_6) → (rT M_6 M) → (fX M_6 M) → (fS M_6 M) → ti_H ti_LT D A cy H0 M_6 H locs → lv_has ls 9 [(7, .int x_1), (6, .int x_4), (5, .int x_5), (0, .ref (A 53 0)), (1, .ref (A 27 0)), (2, .int kd), (3, .int nn), (4, .int wh)] → W p l e (ti_rm 6) s m args below meth c H locs 0 0 Q (F0 m 9 ls []) := by
    intro n_10
    induction n_10 with
    | zero => intro x_1 x_4 x_5 M_6 H locs ls hf_10; exact absurd hf_10 (Nat.not_lt_zero _)
    | succ n_10 ih_10 =>
      intro x_1 x_4 x_5 M_6 H locs ls hf_10 b_2 b_3 iM_6 f_7 f_8 f_9 hw hl
      refine lv_iload hx hb dX0_fairestPlace_9 (lv_at hl 0 rfl) ?_
      refine lv_bipush (v := 8) hx hb dX0_fairestPlace_11 (by decide) ?_
      refine sb_icmp_ge (tgt := 51) hx hb rfl (by decide : (8 : Int32).toInt = 8) dX0_fairestPlace_13 (by decide) (fun c_13_10 => ?_) (fun c_13_10 => ?_)
      · refine lv_iload hx hb dX0_fairestPlace_51 (lv_at hl 7 rfl) ?_
        refine sb_if_ne (tgt := 61) hx hb rfl dX0_fairestPlace_53 (by decide) (fun c_53_21 => ?_) (fun c_53_21 => ?_)
        · refine lv_iload hx hb dX0_fairestPlace_61 (lv_at hl 1 rfl) ?_
          exact hQ _ _ _ _ _ _ hw rfl (⟨f_9, iM_6, f_7, f_8⟩) dX0_fairestPlace_63
        · refine lv_iload hx hb dX0_fairestPlace_56 (lv_at hl 2 rfl) ?_
          refine lv_goto (tgt := 63) hx hb dX0_fairestPlace_58 (by decide) ?_
          exact hQ _ _ _ _ _ _ hw rfl (⟨f_9, iM_6, f_7, f_8⟩) dX0_fairestPlace_63
      · refine lv_aload_n hx hb dX0_fairestPlace_16 rfl (lv_at hl 3 rfl) ?_
        refine lv_aload_n hx hb dX0_fairestPlace_17 rfl (lv_at hl 4 rfl) ?_
        refine lv_iload_n hx hb dX0_fairestPlace_18 rfl (lv_at hl 5 rfl) ?_
        refine lv_iload hx hb dX0_fairestPlace_19 (lv_at hl 0 rfl) ?_
        refine lv_iload_n hx hb dX0_fairestPlace_21 rfl (lv_at hl 6 rfl) ?_
        refine ti_callVi (ci := 0) (av := [.ref (A 27 0), .int kd, .int x_1, .int nn]) C hw (f_X0_holders l D A cy hJ M_6 iM_6 t ht ((f_7 27 0 (by decide)).trans hT) kd x_1 nn (by first | omega | decide) (by first | omega | decide)) ⟨ml_X0_140, ym_X0_holders, yv_X0_holders, yi_X0_holders, yc_X0_holders⟩ yd_X0_holders ob_53 (by decide) rfl rfl hl.1 (Nat.le_of_ble_eq_true rfl) ⟨by decide, by decide⟩ ⟨Nat.zero_le _, Nat.zero_le _⟩ dX0_fairestPlace_22 (fun r_12 M_13 H locs hp_13 hw => ?_)
        obtain ⟨frM_13, hqM_13⟩ := hp_13
        obtain ⟨iM_13, q_14, q_15⟩ := hqM_13
        refine ti_callSi (av := [.int r_12]) C hw (s_J6_bitCount_0f7a4 l D A cy hJ M_13 iM_13 r_12) ⟨ml_X0_96, ys_J6_bitCount_0f7a4, yi_J6_bitCount_0f7a4, yc_J6_bitCount_0f7a4⟩ yd_J6_bitCount_0f7a4 rfl hl.1 (Nat.le_of_ble_eq_true rfl) ⟨by decide, by decide⟩ ⟨Nat.zero_le _, Nat.zero_le _⟩ dX0_fairestPlace_25 (fun r_16 M_17 H locs hp_17 hw => ?_)
        have hm := hp_17
        have hw := hw.to hm
        refine lv_istore (lv' := [(8, .int r_16), (7, .int x_1), (6, .int x_4), (5, .int x_5), (0, .ref (A 53 0)), (1, .ref (A 27 0)), (2, .int kd), (3, .int nn), (4, .int wh)]) hx hb dX0_fairestPlace_28 hl (by decide) rfl (fun ls hl => ?_)
        refine lv_iload hx hb dX0_fairestPlace_30 (lv_at hl 0 rfl) ?_
        refine lv_iload hx hb dX0_fairestPlace_32 (lv_at hl 2 rfl) ?_
        have hj_45_20 : ∀ (x_19 : Int32) (x_20 : Int32) (H : Heap) (locs : List Loc) (ls : Array Slot), ti_H ti_LT D A cy H0 M_13 H locs → lv_has ls 9 [(8, .int r_16), (7, .int x_1), (6, .int x_19), (5, .int x_20), (0, .ref (A 53 0)), (1, .ref (A 27 0)), (2, .int kd), (3, .int nn), (4, .int wh)] → W p l e (ti_rm 6) s m args below meth c H locs 0 0 Q (F0 m 45 ls []) := by
          intro x_19 x_20 H locs ls  hw hl
          obtain ⟨x_21, ex_21⟩ : ∃ z : Int32, z = x_1 + 1 := ⟨_, rfl⟩
          have tx_21 : x_21.toInt = x_1.toInt + 1 := i_add ex_21 rfl (by decide) (by omega) (by omega)
          refine lv_iinc (v := x_21) (lv' := [(7, .int x_21), (8, .int r_16), (6, .int x_19), (5, .int x_20), (0, .ref (A 53 0)), (1, .ref (A 27 0)), (2, .int kd), (3, .int nn), (4, .int wh)]) hx hb dX0_fairestPlace_45 hl (k := 1) rfl (by rw [ex_21]; rfl) (by decide) rfl (fun ls hl => ?_)
          refine lv_goto (tgt := 9) hx hb dX0_fairestPlace_48 (by decide) ?_
          exact ih_10 x_21 x_19 x_20 M_13 _ _ _ (by omega) (by first | omega | decide) (by first | omega | decide) iM_13 (rT.trans q_14 f_7) (fX.trans q_15 f_8) (fS.trans frM_13 f_9) hw (lv_sub hl [0, 2, 3, 4, 5, 6, 7, 8] rfl)
        refine sb_icmp_le (tgt := 45) hx hb rfl rfl dX0_fairestPlace_34 (by decide) (fun c_34_17 => ?_) (fun c_34_17 => ?_)
        · exact hj_45_20 x_4 x_5 _ _ _  hw (lv_sub hl [0, 1, 2, 3, 4, 5, 6, 7, 8] rfl)
        · refine lv_iload hx hb dX0_fairestPlace_37 (lv_at hl 0 rfl) ?_
          refine lv_istore (lv' := [(6, .int r_16), (8, .int r_16), (7, .int x_1), (5, .int x_5), (0, .ref (A 53 0)), (1, .ref (A 27 0)), (2, .int kd), (3, .int nn), (4, .int wh)]) hx hb dX0_fairestPlace_39 hl (by decide) rfl (fun ls hl => ?_)
          refine lv_iload hx hb dX0_fairestPlace_41 (lv_at hl 2 rfl) ?_
          refine lv_istore (lv' := [(5, .int x_1), (6, .int r_16), (8, .int r_16), (7, .int x_1), (0, .ref (A 53 0)), (1, .ref (A 27 0)), (2, .int kd), (3, .int nn), (4, .int wh)]) hx hb dX0_fairestPlace_43 hl (by decide) rfl (fun ls hl => ?_)
          exact hj_45_20 r_16 x_1 _ _ _  hw (lv_sub hl [2, 3, 1, 0, 4, 5, 6, 7, 8] rfl)
  exact hl_9_9 ((8 - 0 : Int).toNat + 1) 0 (-1) 0 M _ _ _ (Nat.lt_succ_self _) (by have lt0 : ((-1) : Int32).toInt = (-1) := (by decide); have lt1 : (0 : Int32).toInt = 0 := (by decide); first | omega | decide) (by have lt0 : ((-1) : Int32).toInt = (-1) := (by decide); have lt1 : (0 : Int32).toInt = 0 := (by decide); first | omega | decide) hI rT.refl fX.refl fS.refl hw (lv_sub hl [0, 1, 2, 3, 4, 5, 6, 7] rfl)
set_option maxHeartbeats 4000000 in
set_option maxRecDepth 100000 in
theorem f_X0_gainers (l : Launch) (D : va_G) (A : Nat → Nat → Nat) (cy : Nat → ClassId) (hJ : ti_inj ti_LT A) (M : ti_M) (hI : cI Tc M) (t : Nat) (ht : t = 3 ∨ t = 4) (hT : tT M 27 0 = some t) (pl nn : Int32) (h1 : 0 ≤ pl.toInt) (h2 : pl.toInt ≤ 7) : ti_Ki l yX0_gainers cX0_gainers 7 (some .int) 6 ti_LT D A cy M [.ref (A 53 0), .ref (A 27 0), .int pl, .int nn] (fun r M2 => fS M2 M ∧ cI Tc M2 ∧ rT M2 M ∧ fX M2 M) := by
  refine ti_eI yp_X0_gainers hJ ti_LT_nd (Nat.le_of_ble_eq_true rfl) ?_
  intro p e s m args below meth c Q H0 C hQ hw ls hl
  have hx := C.1
  have hb := C.2.1
  have hl : lv_has ls 7 [(0, .ref (A 53 0)), (1, .ref (A 27 0)), (2, .int pl), (3, .int nn)] := hl
  refine lv_aload_n hx hb dX0_gainers_0 rfl (lv_at hl 0 rfl) ?_
  refine lv_aload_n hx hb dX0_gainers_1 rfl (lv_at hl 1 rfl) ?_
  refine ti_callVv (ci := 0) (av := [.ref (A 27 0)]) C hw (f_X0_prepare l D A cy hJ M hI t ht (hT)) ⟨ml_X0_42, ym_X0_prepare, yv_X0_prepare, yi_X0_prepare, yc_X0_prepare⟩ yd_X0_prepare ob_53 (by decide) rfl rfl hl.1 (Nat.le_of_ble_eq_true rfl) ⟨by decide, by decide⟩ ⟨Nat.zero_le _, Nat.zero_le _⟩ dX0_gainers_2 (fun M_2 H locs hp_2 hw => ?_)
  obtain ⟨frM_2, hqM_2⟩ := hp_2
  obtain ⟨iM_2, q_3, q_4⟩ := hqM_2
  refine lv_aload_n hx hb dX0_gainers_5 rfl (lv_at hl 0 rfl) ?_
  refine ti_get (ci := 0) (k := 1) (N := 6) (T := TX0) (v := .ref (A 55 0)) C hw iw_0 rfl ob_53 (by decide) (by decide) fl_X0_18 rfl rfl dX0_gainers_6 ?_
  refine lv_aload_n hx hb dX0_gainers_9 rfl (lv_at hl 0 rfl) ?_
  refine ti_get (ci := 0) (k := 0) (N := 6) (T := TX0) (v := .ref (A 54 0)) C hw iw_0 rfl ob_53 (by decide) (by decide) fl_X0_12 rfl rfl dX0_gainers_10 ?_
  refine ti_callVv (ci := 3) (av := [.ref (A 54 0)]) C hw (f_X3_copy l D A cy hJ M_2 iM_2 55 54 t ob_55 ob_54 ht ((tT_fr q_3).trans (tT_u _ _ _ _)) (fun h => absurd h np_55)) ⟨ml_X0_35, ym_X3_copy, yv_X3_copy, yi_X3_copy, yc_X3_copy⟩ yd_X3_copy ob_55 (by decide) rfl rfl hl.1 (Nat.le_of_ble_eq_true rfl) ⟨by decide, by decide⟩ ⟨Nat.zero_le _, Nat.zero_le _⟩ dX0_gainers_13 (fun M_6 H locs hp_6 hw => ?_)
  obtain ⟨frM_6, hqM_6⟩ := hp_6
  obtain ⟨iM_6, q_7, q_8⟩ := hqM_6
  refine lv_iconst (v := 0) hx hb dX0_gainers_16 (by decide) ?_
  refine lv_istore (lv' := [(4, .int 0), (0, .ref (A 53 0)), (1, .ref (A 27 0)), (2, .int pl), (3, .int nn)]) hx hb dX0_gainers_17 hl (by decide) rfl (fun ls hl => ?_)
  have hl_19_17 : ∀ (n_18 : Nat) (x_9 : Int32) (M_12 : ti_M) (H : Heap) (locs : List Loc) (ls : Array Slot), (7 - x_9.toInt : Int).toNat < n_18 → (0 ≤ x_9.toInt) → (x_9.toInt ≤ 7) → (cI Tc M_12) → (rT M_12 M) → (fX M_12 M) → (fS M_12 M) → (tT M_12 54 0 = (some t)) → (tT M_12 55 0 = (some t)) → ti_H ti_LT D A cy H0 M_12 H locs → lv_has ls 7 [(4, .int x_9), (0, .ref (A 53 0)), (1, .ref (A 27 0)), (2, .int pl), (3, .int nn)] → W p l e (ti_rm 6) s m args below meth c H locs 0 0 Q (F0 m 19 ls []) := by
    intro n_18
    induction n_18 with
    | zero => intro x_9 M_12 H locs ls hf_18; exact absurd hf_18 (Nat.not_lt_zero _)
    | succ n_18 ih_18 =>
      intro x_9 M_12 H locs ls hf_18 b_10 b_11 iM_12 f_13 f_14 f_15 f_16 f_17 hw hl
      refine lv_iload hx hb dX0_gainers_19 (lv_at hl 0 rfl) ?_
      refine lv_iload_n hx hb dX0_gainers_21 rfl (lv_at hl 3 rfl) ?_
      refine sb_icmp_ge (tgt := 40) hx hb rfl rfl dX0_gainers_22 (by decide) (fun c_22_18 => ?_) (fun c_22_18 => ?_)
      · refine lv_aload_n hx hb dX0_gainers_40 rfl (lv_at hl 1 rfl) ?_
        refine ti_get (ci := 0) (k := 1) (N := 6) (T := TX0) (v := .ref (A 55 0)) C hw iw_0 rfl ob_53 (by decide) (by decide) fl_X0_18 rfl rfl dX0_gainers_41 ?_
        refine ti_get (ci := 3) (k := 9) (N := 17) (T := TX3) (v := .ref (A 55 10)) C hw iw_3 rfl ob_55 (by decide) (by decide) fl_X0_57 rfl rfl dX0_gainers_44 ?_
        refine lv_iconst (v := (-1)) hx hb dX0_gainers_47 (by decide) ?_
        refine ti_callSv (av := [.ref (A 55 10), .int (-1)]) C hw (k_fill l D A cy ti_LT_nd hJ M_12 55 9 3 8 (-1) ob_55 (by decide) (fun _ _ => rfl) (by decide)) ⟨ml_X0_148, ys_J7_fill_53178, yi_J7_fill_53178, yc_J7_fill_53178⟩ yd_J7_fill_53178 rfl hl.1 (Nat.le_of_ble_eq_true rfl) ⟨by decide, by decide⟩ ⟨Nat.zero_le _, Nat.zero_le _⟩ dX0_gainers_48 (fun M_26 H locs hp hw => ?_)
        obtain ⟨g_27, hM_26, -⟩ := hp
        have iM_26 : cI Tc M_26 := cI_uY iM_12 hM_26 ob_55.1 (fun _ => trivial)
        refine lv_aload_n hx hb dX0_gainers_51 rfl (lv_at hl 1 rfl) ?_
        refine ti_get (ci := 0) (k := 0) (N := 6) (T := TX0) (v := .ref (A 54 0)) C hw iw_0 rfl ob_53 (by decide) (by decide) fl_X0_12 rfl rfl dX0_gainers_52 ?_
        refine lv_aload_n hx hb dX0_gainers_55 rfl (lv_at hl 2 rfl) ?_
        refine ti_get (ci := 3) (k := 2) (N := 17) (T := TX3) C hw iw_3 rfl ob_27 (by decide) (by decide) fl_X0_45 rfl rfl dX0_gainers_56 ?_
        refine lv_topi (fun x_28 ex_28 => ?_)
        have bx_28 : 0 ≤ x_28.toInt ∧ x_28.toInt ≤ 120 := cI_rd iM_26 ob_27.1 ex_28 (Or.inl rfl)
        have ux_28 : (tI M_26 27 2).toInt = x_28.toInt := by rw [ex_28]
        refine lv_iload_n hx hb dX0_gainers_59 rfl (lv_at hl 4 rfl) ?_
        refine lv_iadd hx hb dX0_gainers_60 ?_
        refine lv_topi (fun x_29 ex_29 => ?_)
        refine ti_callVv (ci := 3) (av := [.int x_29]) C hw (f_X3_passTo l D A cy hJ M_26 iM_26 54 t ob_54 ht ((tT_uYE hM_26).trans f_16) x_29 np_54) ⟨ml_X0_60, ym_X3_passTo, yv_X3_passTo, yi_X3_passTo, yc_X3_passTo⟩ yd_X3_passTo ob_54 (by decide) rfl rfl hl.1 (Nat.le_of_ble_eq_true rfl) ⟨by decide, by decide⟩ ⟨Nat.zero_le _, Nat.zero_le _⟩ dX0_gainers_61 (fun M_31 H locs hp_31 hw => ?_)
        obtain ⟨frM_31, hqM_31⟩ := hp_31
        obtain ⟨iM_31, q_32, q_33⟩ := hqM_31
        refine lv_aload_n hx hb dX0_gainers_64 rfl (lv_at hl 1 rfl) ?_
        refine ti_get (ci := 0) (k := 1) (N := 6) (T := TX0) (v := .ref (A 55 0)) C hw iw_0 rfl ob_53 (by decide) (by decide) fl_X0_18 rfl rfl dX0_gainers_65 ?_
        refine lv_aload_n hx hb dX0_gainers_68 rfl (lv_at hl 2 rfl) ?_
        refine ti_get (ci := 3) (k := 2) (N := 17) (T := TX3) C hw iw_3 rfl ob_27 (by decide) (by decide) fl_X0_45 rfl rfl dX0_gainers_69 ?_
        refine lv_topi (fun x_34 ex_34 => ?_)
        have bx_34 : 0 ≤ x_34.toInt ∧ x_34.toInt ≤ 120 := cI_rd iM_31 ob_27.1 ex_34 (Or.inl rfl)
        have ux_34 : (tI M_31 27 2).toInt = x_34.toInt := by rw [ex_34]
        refine lv_iload_n hx hb dX0_gainers_72 rfl (lv_at hl 4 rfl) ?_
        refine lv_iadd hx hb dX0_gainers_73 ?_
        refine lv_topi (fun x_35 ex_35 => ?_)
        refine ti_callVv (ci := 3) (av := [.int x_35]) C hw (f_X3_passTo l D A cy hJ M_31 iM_31 55 t ob_55 ht ((tT_fr q_32).trans ((tT_uYE hM_26).trans f_17)) x_35 np_55) ⟨ml_X0_60, ym_X3_passTo, yv_X3_passTo, yi_X3_passTo, yc_X3_passTo⟩ yd_X3_passTo ob_55 (by decide) rfl rfl hl.1 (Nat.le_of_ble_eq_true rfl) ⟨by decide, by decide⟩ ⟨Nat.zero_le _, Nat.zero_le _⟩ dX0_gainers_74 (fun M_37 H locs hp_37 hw => ?_)
        obtain ⟨frM_37, hqM_37⟩ := hp_37
        obtain ⟨iM_37, q_38, q_39⟩ := hqM_37
        refine lv_iconst (v := 0) hx hb dX0_gainers_77 (by decide) ?_
        refine lv_istore (lv' := [(4, .int 0), (0, .ref (A 53 0)), (1, .ref (A 27 0)), (2, .int pl), (3, .int nn)]) hx hb dX0_gainers_78 hl (by decide) rfl (fun ls hl => ?_)
        refine lv_iload_n hx hb dX0_gainers_80 rfl (lv_at hl 3 rfl) ?_
        refine lv_istore (lv' := [(5, .int pl), (4, .int 0), (0, .ref (A 53 0)), (1, .ref (A 27 0)), (2, .int pl), (3, .int nn)]) hx hb dX0_gainers_81 hl (by decide) rfl (fun ls hl => ?_)
        have hl_83_43 : ∀ (n_44 : Nat) (x_40 : Int32) (x_43 : Int32) (H : Heap) (locs : List Loc) (ls : Array Slot), (8 - x_40.toInt : Int).toNat < n_44 → (0 ≤ x_40.toInt) → (x_40.toInt ≤ 8) → ti_H ti_LT D A cy H0 M_37 H locs → lv_has ls 7 [(5, .int x_40), (4, .int x_43), (0, .ref (A 53 0)), (1, .ref (A 27 0)), (2, .int pl), (3, .int nn)] → W p l e (ti_rm 6) s m args below meth c H locs 0 0 Q (F0 m 83 ls []) := by
          intro n_44
          induction n_44 with
          | zero => intro x_40 x_43 H locs ls hf_44; exact absurd hf_44 (Nat.not_lt_zero _)
          | succ n_44 ih_44 =>
            intro x_40 x_43 H locs ls hf_44 b_41 b_42 hw hl
            refine lv_iload hx hb dX0_gainers_83 (lv_at hl 0 rfl) ?_
            refine lv_aload_n hx hb dX0_gainers_85 rfl (lv_at hl 3 rfl) ?_
            refine ti_get (ci := 3) (k := 3) (N := 17) (T := TX3) C hw iw_3 rfl ob_27 (by decide) (by decide) fl_X0_68 rfl rfl dX0_gainers_86 ?_
            refine lv_topi (fun x_45 ex_45 => ?_)
            have bx_45 : 0 ≤ x_45.toInt ∧ x_45.toInt ≤ 8 := cI_rd iM_37 ob_27.1 ex_45
            have ux_45 : (tI M_37 27 3).toInt = x_45.toInt := by rw [ex_45]
            refine sb_icmp_ge (tgt := 167) hx hb rfl rfl dX0_gainers_89 (by decide) (fun c_89_45 => ?_) (fun c_89_45 => ?_)
            · refine lv_iload hx hb dX0_gainers_167 (lv_at hl 1 rfl) ?_
              exact hQ _ _ _ _ _ _ hw rfl (⟨(fS.trans (fS_q frM_37 (by decide)) (fS.trans (fS_q frM_31 (by decide)) (fS.trans (fS_Y hM_26 (by decide)) f_15))), iM_37, (rT.trans (rs_of q_38) (rT.trans (rs_of q_32) (rT.trans (rs_of (rf_Y hM_26)) f_13))), (fX.trans q_39 (fX.trans q_33 (fX.trans (fx_of (ra_Y hM_26)) f_14)))⟩) dX0_gainers_169
            · refine lv_aload_n hx hb dX0_gainers_92 rfl (lv_at hl 3 rfl) ?_
              refine ti_get (ci := 3) (k := 6) (N := 17) (T := TX3) (v := .ref (A 27 7)) C hw iw_3 rfl ob_27 (by decide) (by decide) fl_X0_77 rfl rfl dX0_gainers_93 ?_
              refine lv_iload hx hb dX0_gainers_96 (lv_at hl 0 rfl) ?_
              refine ti_iald (ci := 3) (k := 6) (n := 8) C hw ob_27 (by decide) (fun _ _ => rfl) (vp_in_iff.mpr (by omega)) dX0_gainers_98 ?_
              refine lv_topi (fun x_47 ex_47 => ?_)
              have bx_47 : 0 ≤ x_47.toInt ∧ x_47.toInt ≤ 7 := cI_ry iM_37 ob_27.1 ex_47
              refine lv_istore (lv' := [(6, .int x_47), (5, .int x_40), (4, .int x_43), (0, .ref (A 53 0)), (1, .ref (A 27 0)), (2, .int pl), (3, .int nn)]) hx hb dX0_gainers_99 hl (by decide) rfl (fun ls hl => ?_)
              refine lv_aload_n hx hb dX0_gainers_101 rfl (lv_at hl 3 rfl) ?_
              refine ti_get (ci := 0) (k := 1) (N := 6) (T := TX0) (v := .ref (A 55 0)) C hw iw_0 rfl ob_53 (by decide) (by decide) fl_X0_18 rfl rfl dX0_gainers_102 ?_
              refine ti_get (ci := 3) (k := 8) (N := 17) (T := TX3) (v := .ref (A 55 9)) C hw iw_3 rfl ob_55 (by decide) (by decide) fl_X0_48 rfl rfl dX0_gainers_105 ?_
              refine lv_iload hx hb dX0_gainers_108 (lv_at hl 0 rfl) ?_
              refine ti_iald (ci := 3) (k := 8) (n := 8) C hw ob_55 (by decide) (fun _ _ => rfl) (vp_in_iff.mpr (by omega)) dX0_gainers_110 ?_
              refine lv_topi (fun x_48 ex_48 => ?_)
              refine lv_iconst (v := 2) hx hb dX0_gainers_111 (by decide) ?_
              have hj_161_57 : ∀ (x_57 : Int32) (H : Heap) (locs : List Loc) (ls : Array Slot), ti_H ti_LT D A cy H0 M_37 H locs → lv_has ls 7 [(6, .int x_47), (5, .int x_40), (4, .int x_57), (0, .ref (A 53 0)), (1, .ref (A 27 0)), (2, .int pl), (3, .int nn)] → W p l e (ti_rm 6) s m args below meth c H locs 0 0 Q (F0 m 161 ls []) := by
                intro x_57 H locs ls  hw hl
                obtain ⟨x_58, ex_58⟩ : ∃ z : Int32, z = x_40 + 1 := ⟨_, rfl⟩
                have tx_58 : x_58.toInt = x_40.toInt + 1 := i_add ex_58 rfl (by decide) (by omega) (by omega)
                refine lv_iinc (v := x_58) (lv' := [(5, .int x_58), (6, .int x_47), (4, .int x_57), (0, .ref (A 53 0)), (1, .ref (A 27 0)), (2, .int pl), (3, .int nn)]) hx hb dX0_gainers_161 hl (k := 1) rfl (by rw [ex_58]; rfl) (by decide) rfl (fun ls hl => ?_)
                refine lv_goto (tgt := 83) hx hb dX0_gainers_164 (by decide) ?_
                exact ih_44 x_58 x_57 _ _ _ (by omega) (by first | omega | decide) (by first | omega | decide) hw (lv_sub hl [0, 2, 3, 4, 5, 6] rfl)
              refine sb_icmp_ne (tgt := 161) hx hb rfl (by decide : (2 : Int32).toInt = 2) dX0_gainers_112 (by decide) (fun c_112_48 => ?_) (fun c_112_48 => ?_)
              · exact hj_161_57 x_43 _ _ _  hw (lv_sub hl [0, 1, 2, 3, 4, 5, 6] rfl)
              · refine lv_aload_n hx hb dX0_gainers_115 rfl (lv_at hl 3 rfl) ?_
                refine ti_get (ci := 0) (k := 0) (N := 6) (T := TX0) (v := .ref (A 54 0)) C hw iw_0 rfl ob_53 (by decide) (by decide) fl_X0_12 rfl rfl dX0_gainers_116 ?_
                refine ti_get (ci := 3) (k := 8) (N := 17) (T := TX3) (v := .ref (A 54 9)) C hw iw_3 rfl ob_54 (by decide) (by decide) fl_X0_48 rfl rfl dX0_gainers_119 ?_
                refine lv_iload hx hb dX0_gainers_122 (lv_at hl 0 rfl) ?_
                refine ti_iald (ci := 3) (k := 8) (n := 8) C hw ob_54 (by decide) (fun _ _ => rfl) (vp_in_iff.mpr (by omega)) dX0_gainers_124 ?_
                refine lv_topi (fun x_50 ex_50 => ?_)
                refine lv_iconst (v := 2) hx hb dX0_gainers_125 (by decide) ?_
                have hj_152_54 : ∀  (H : Heap) (locs : List Loc) (ls : Array Slot), ti_H ti_LT D A cy H0 M_37 H locs → lv_has ls 7 [(6, .int x_47), (5, .int x_40), (4, .int x_43), (0, .ref (A 53 0)), (1, .ref (A 27 0)), (2, .int pl), (3, .int nn)] → W p l e (ti_rm 6) s m args below meth c H locs 0 0 Q (F0 m 152 ls []) := by
                  intro  H locs ls  hw hl
                  refine lv_iload hx hb dX0_gainers_152 (lv_at hl 2 rfl) ?_
                  refine lv_iconst (v := 1) hx hb dX0_gainers_154 (by decide) ?_
                  refine lv_iload hx hb dX0_gainers_155 (lv_at hl 0 rfl) ?_
                  refine lv_ishl hx hb dX0_gainers_157 ?_
                  refine lv_topi (fun x_55 ex_55 => ?_)
                  refine lv_ior hx hb dX0_gainers_158 ?_
                  refine lv_topi (fun x_56 ex_56 => ?_)
                  refine lv_istore (lv' := [(4, .int x_56), (6, .int x_47), (5, .int x_40), (0, .ref (A 53 0)), (1, .ref (A 27 0)), (2, .int pl), (3, .int nn)]) hx hb dX0_gainers_159 hl (by decide) rfl (fun ls hl => ?_)
                  exact hj_161_57 x_56 _ _ _  hw (lv_sub hl [1, 2, 0, 3, 4, 5, 6] rfl)
                refine sb_icmp_ne (tgt := 152) hx hb rfl (by decide : (2 : Int32).toInt = 2) dX0_gainers_126 (by decide) (fun c_126_50 => ?_) (fun c_126_50 => ?_)
                · exact hj_152_54  _ _ _  hw (lv_sub hl [0, 1, 2, 3, 4, 5, 6] rfl)
                · refine lv_aload_n hx hb dX0_gainers_129 rfl (lv_at hl 3 rfl) ?_
                  refine ti_get (ci := 0) (k := 1) (N := 6) (T := TX0) (v := .ref (A 55 0)) C hw iw_0 rfl ob_53 (by decide) (by decide) fl_X0_18 rfl rfl dX0_gainers_130 ?_
                  refine ti_get (ci := 3) (k := 14) (N := 17) (T := TX3) (v := .ref (A 55 15)) C hw iw_3 rfl ob_55 (by decide) (by decide) fl_X0_54 rfl rfl dX0_gainers_133 ?_
                  refine lv_iload hx hb dX0_gainers_136 (lv_at hl 0 rfl) ?_
                  refine ti_iald (ci := 3) (k := 14) (n := 8) C hw ob_55 (by decide) (fun _ _ => rfl) (vp_in_iff.mpr (by omega)) dX0_gainers_138 ?_
                  refine lv_topi (fun x_52 ex_52 => ?_)
                  refine lv_aload_n hx hb dX0_gainers_139 rfl (lv_at hl 3 rfl) ?_
                  refine ti_get (ci := 0) (k := 0) (N := 6) (T := TX0) (v := .ref (A 54 0)) C hw iw_0 rfl ob_53 (by decide) (by decide) fl_X0_12 rfl rfl dX0_gainers_140 ?_
                  refine ti_get (ci := 3) (k := 14) (N := 17) (T := TX3) (v := .ref (A 54 15)) C hw iw_3 rfl ob_54 (by decide) (by decide) fl_X0_54 rfl rfl dX0_gainers_143 ?_
                  refine lv_iload hx hb dX0_gainers_146 (lv_at hl 0 rfl) ?_
                  refine ti_iald (ci := 3) (k := 14) (n := 8) C hw ob_54 (by decide) (fun _ _ => rfl) (vp_in_iff.mpr (by omega)) dX0_gainers_148 ?_
                  refine lv_topi (fun x_53 ex_53 => ?_)
                  refine sb_icmp_ge (tgt := 161) hx hb rfl rfl dX0_gainers_149 (by decide) (fun c_149_53 => ?_) (fun c_149_53 => ?_)
                  · exact hj_161_57 x_43 _ _ _  hw (lv_sub hl [0, 1, 2, 3, 4, 5, 6] rfl)
                  · exact hj_152_54  _ _ _  hw (lv_sub hl [0, 1, 2, 3, 4, 5, 6] rfl)
        exact hl_83_43 ((8 - pl.toInt : Int).toNat + 1) pl 0 _ _ _ (Nat.lt_succ_self _) (by have lt0 : (0 : Int32).toInt = 0 := (by decide); first | omega | decide) (by have lt0 : (0 : Int32).toInt = 0 := (by decide); first | omega | decide) hw (lv_sub hl [0, 1, 2, 3, 4, 5] rfl)
      · refine lv_aload_n hx hb dX0_gainers_25 rfl (lv_at hl 1 rfl) ?_
        refine ti_get (ci := 0) (k := 1) (N := 6) (T := TX0) (v := .ref (A 55 0)) C hw iw_0 rfl ob_53 (by decide) (by decide) fl_X0_18 rfl rfl dX0_gainers_26 ?_
        refine lv_iconst (v := 0) hx hb dX0_gainers_29 (by decide) ?_
        refine lv_iconst (v := 3) hx hb dX0_gainers_30 (by decide) ?_
        refine ti_callVv (ci := 3) (av := [.int 0, .int 3]) C hw (f_X3_remove l D A cy hJ M_12 iM_12 55 ob_55 0 3) ⟨ml_X0_144, ym_X3_remove, yv_X3_remove, yi_X3_remove, yc_X3_remove⟩ yd_X3_remove ob_55 (by decide) rfl rfl hl.1 (Nat.le_of_ble_eq_true rfl) ⟨by decide, by decide⟩ ⟨Nat.zero_le _, Nat.zero_le _⟩ dX0_gainers_31 (fun M_21 H locs hp_21 hw => ?_)
        obtain ⟨frM_21, hqM_21⟩ := hp_21
        obtain ⟨iM_21, q_22, q_23, q_24⟩ := hqM_21
        obtain ⟨x_25, ex_25⟩ : ∃ z : Int32, z = x_9 + 1 := ⟨_, rfl⟩
        have tx_25 : x_25.toInt = x_9.toInt + 1 := i_add ex_25 rfl (by decide) (by omega) (by omega)
        refine lv_iinc (v := x_25) (lv' := [(4, .int x_25), (0, .ref (A 53 0)), (1, .ref (A 27 0)), (2, .int pl), (3, .int nn)]) hx hb dX0_gainers_34 hl (k := 0) rfl (by rw [ex_25]; rfl) (by decide) rfl (fun ls hl => ?_)
        refine lv_goto (tgt := 19) hx hb dX0_gainers_37 (by decide) ?_
        exact ih_18 x_25 M_21 _ _ _ (by omega) (by first | omega | decide) (by first | omega | decide) iM_21 (rT.trans (rs_of q_22) f_13) (fX.trans q_24 f_14) (fS.trans (fS_q frM_21 (by decide)) f_15) ((tT_fr q_22).trans f_16) ((tT_fr q_22).trans f_17) hw (lv_sub hl [0, 1, 2, 3, 4] rfl)
  exact hl_19_17 ((7 - 0 : Int).toNat + 1) 0 M_6 _ _ _ (Nat.lt_succ_self _) (by have lt0 : (0 : Int32).toInt = 0 := (by decide); first | omega | decide) (by have lt0 : (0 : Int32).toInt = 0 := (by decide); first | omega | decide) iM_6 (rT.trans (rs_TT q_7 (by decide)) (rs_TT q_3 (by decide))) (fX.trans q_8 q_4) (fS.trans (fS_q frM_6 (by decide)) frM_2) ((tT_fr q_7).trans ((tT_n _ _ _ _ (no (by decide))).trans ((tT_fr q_3).trans (tT_u _ _ _ _)))) ((tT_fr q_7).trans (tT_u _ _ _ _)) hw (lv_sub hl [0, 1, 2, 3, 4] rfl)
set_option maxHeartbeats 4000000 in
set_option maxRecDepth 100000 in
theorem f_X0_emptyMinutes (l : Launch) (D : va_G) (A : Nat → Nat → Nat) (cy : Nat → ClassId) (hJ : ti_inj ti_LT A) (M : ti_M) (hI : cI Tc M) (t : Nat) (ht : t = 3 ∨ t = 4) (hT : tT M 27 0 = some t) (nn wh : Int32) : ti_Ki l yX0_emptyMinutes cX0_emptyMinutes 7 (some .int) 5 ti_LT D A cy M [.ref (A 53 0), .ref (A 27 0), .int nn, .int wh] (fun r M2 => fS M2 M ∧ cI Tc M2 ∧ rT M2 M ∧ fX M2 M) := by
  refine ti_eI yp_X0_emptyMinutes hJ ti_LT_nd (Nat.le_of_ble_eq_true rfl) ?_
  intro p e s m args below meth c Q H0 C hQ hw ls hl
  have hx := C.1
  have hb := C.2.1
  have hl : lv_has ls 7 [(0, .ref (A 53 0)), (1, .ref (A 27 0)), (2, .int nn), (3, .int wh)] := hl
  have hnn := nn.toInt_lt
  refine lv_aload_n hx hb dX0_emptyMinutes_0 rfl (lv_at hl 0 rfl) ?_
  refine lv_aload_n hx hb dX0_emptyMinutes_1 rfl (lv_at hl 1 rfl) ?_
  refine ti_callVv (ci := 0) (av := [.ref (A 27 0)]) C hw (f_X0_prepare l D A cy hJ M hI t ht (hT)) ⟨ml_X0_42, ym_X0_prepare, yv_X0_prepare, yi_X0_prepare, yc_X0_prepare⟩ yd_X0_prepare ob_53 (by decide) rfl rfl hl.1 (Nat.le_of_ble_eq_true rfl) ⟨by decide, by decide⟩ ⟨Nat.zero_le _, Nat.zero_le _⟩ dX0_emptyMinutes_2 (fun M_2 H locs hp_2 hw => ?_)
  obtain ⟨frM_2, hqM_2⟩ := hp_2
  obtain ⟨iM_2, q_3, q_4⟩ := hqM_2
  refine lv_iconst (v := 0) hx hb dX0_emptyMinutes_5 (by decide) ?_
  refine lv_istore (lv' := [(4, .int 0), (0, .ref (A 53 0)), (1, .ref (A 27 0)), (2, .int nn), (3, .int wh)]) hx hb dX0_emptyMinutes_6 hl (by decide) rfl (fun ls hl => ?_)
  refine lv_bipush (v := (-2)) hx hb dX0_emptyMinutes_8 (by decide) ?_
  refine lv_istore (lv' := [(5, .int (-2)), (4, .int 0), (0, .ref (A 53 0)), (1, .ref (A 27 0)), (2, .int nn), (3, .int wh)]) hx hb dX0_emptyMinutes_10 hl (by decide) rfl (fun ls hl => ?_)
  refine lv_iconst (v := 0) hx hb dX0_emptyMinutes_12 (by decide) ?_
  refine lv_istore (lv' := [(6, .int 0), (5, .int (-2)), (4, .int 0), (0, .ref (A 53 0)), (1, .ref (A 27 0)), (2, .int nn), (3, .int wh)]) hx hb dX0_emptyMinutes_13 hl (by decide) rfl (fun ls hl => ?_)
  have hl_15_13 : ∀ (n_14 : Nat) (x_5 : Int32) (x_7 : Int32) (x_8 : Int32) (M_9 : ti_M) (H : Heap) (locs : List Loc) (ls : Array Slot), (nn.toInt - x_5.toInt : Int).toNat < n_14 → (0 ≤ x_5.toInt) → (cI Tc M_9) → (rT M_9 M) → (fX M_9 M) → (fS M_9 M) → (tT M_9 54 0 = (some t)) → ti_H ti_LT D A cy H0 M_9 H locs → lv_has ls 7 [(6, .int x_5), (5, .int x_7), (4, .int x_8), (0, .ref (A 53 0)), (1, .ref (A 27 0)), (2, .int nn), (3, .int wh)] → W p l e (ti_rm 5) s m args below meth c H locs 0 0 Q (F0 m 15 ls []) := by
    intro n_14
    induction n_14 with
    | zero => intro x_5 x_7 x_8 M_9 H locs ls hf_14; exact absurd hf_14 (Nat.not_lt_zero _)
    | succ n_14 ih_14 =>
      intro x_5 x_7 x_8 M_9 H locs ls hf_14 b_6 iM_9 f_10 f_11 f_12 f_13 hw hl
      refine lv_iload hx hb dX0_emptyMinutes_15 (lv_at hl 0 rfl) ?_
      refine lv_iload_n hx hb dX0_emptyMinutes_17 rfl (lv_at hl 5 rfl) ?_
      refine sb_icmp_ge (tgt := 68) hx hb rfl rfl dX0_emptyMinutes_18 (by decide) (fun c_18_14 => ?_) (fun c_18_14 => ?_)
      · refine lv_iload_n hx hb dX0_emptyMinutes_68 rfl (lv_at hl 6 rfl) ?_
        refine sb_if_ne (tgt := 77) hx hb rfl dX0_emptyMinutes_69 (by decide) (fun c_69_30 => ?_) (fun c_69_30 => ?_)
        · refine lv_iload hx hb dX0_emptyMinutes_77 (lv_at hl 1 rfl) ?_
          exact hQ _ _ _ _ _ _ hw rfl (⟨f_12, iM_9, f_10, f_11⟩) dX0_emptyMinutes_79
        · refine lv_iload hx hb dX0_emptyMinutes_72 (lv_at hl 2 rfl) ?_
          refine lv_goto (tgt := 79) hx hb dX0_emptyMinutes_74 (by decide) ?_
          exact hQ _ _ _ _ _ _ hw rfl (⟨f_12, iM_9, f_10, f_11⟩) dX0_emptyMinutes_79
      · refine lv_aload_n hx hb dX0_emptyMinutes_21 rfl (lv_at hl 3 rfl) ?_
        refine ti_get (ci := 0) (k := 0) (N := 6) (T := TX0) (v := .ref (A 54 0)) C hw iw_0 rfl ob_53 (by decide) (by decide) fl_X0_12 rfl rfl dX0_emptyMinutes_22 ?_
        refine ti_callVv (ci := 3) (av := []) C hw (f_X3_pass l D A cy hJ M_9 iM_9 54 t ob_54 ht (f_13) (fun h => absurd h np_54)) ⟨ml_X0_51, ym_X3_pass, yv_X3_pass, yi_X3_pass, yc_X3_pass⟩ yd_X3_pass ob_54 (by decide) rfl rfl hl.1 (Nat.le_of_ble_eq_true rfl) ⟨by decide, by decide⟩ ⟨Nat.zero_le _, Nat.zero_le _⟩ dX0_emptyMinutes_25 (fun M_17 H locs hp_17 hw => ?_)
        obtain ⟨frM_17, hqM_17⟩ := hp_17
        obtain ⟨iM_17, q_18, q_19, q_20⟩ := hqM_17
        refine lv_aload_n hx hb dX0_emptyMinutes_28 rfl (lv_at hl 3 rfl) ?_
        refine ti_get (ci := 0) (k := 0) (N := 6) (T := TX0) (v := .ref (A 54 0)) C hw iw_0 rfl ob_53 (by decide) (by decide) fl_X0_12 rfl rfl dX0_emptyMinutes_29 ?_
        refine ti_get (ci := 3) (k := 3) (N := 17) (T := TX3) C hw iw_3 rfl ob_54 (by decide) (by decide) fl_X0_68 rfl rfl dX0_emptyMinutes_32 ?_
        refine lv_topi (fun x_21 ex_21 => ?_)
        have bx_21 : 0 ≤ x_21.toInt ∧ x_21.toInt ≤ 8 := cI_rd iM_17 ob_54.1 ex_21
        have ux_21 : (tI M_17 54 3).toInt = x_21.toInt := by rw [ex_21]
        have hj_62_29 : ∀ (x_28 : Int32) (x_29 : Int32) (H : Heap) (locs : List Loc) (ls : Array Slot), ti_H ti_LT D A cy H0 M_17 H locs → lv_has ls 7 [(6, .int x_5), (5, .int x_28), (4, .int x_29), (0, .ref (A 53 0)), (1, .ref (A 27 0)), (2, .int nn), (3, .int wh)] → W p l e (ti_rm 5) s m args below meth c H locs 0 0 Q (F0 m 62 ls []) := by
          intro x_28 x_29 H locs ls  hw hl
          obtain ⟨x_30, ex_30⟩ : ∃ z : Int32, z = x_5 + 1 := ⟨_, rfl⟩
          have lox_30 := x_5.le_toInt
          have hix_30 := x_5.toInt_lt
          have tx_30 : x_30.toInt = x_5.toInt + 1 := i_add ex_30 rfl (by decide) (by omega) (by omega)
          refine lv_iinc (v := x_30) (lv' := [(6, .int x_30), (5, .int x_28), (4, .int x_29), (0, .ref (A 53 0)), (1, .ref (A 27 0)), (2, .int nn), (3, .int wh)]) hx hb dX0_emptyMinutes_62 hl (k := 0) rfl (by rw [ex_30]; rfl) (by decide) rfl (fun ls hl => ?_)
          refine lv_goto (tgt := 15) hx hb dX0_emptyMinutes_65 (by decide) ?_
          exact ih_14 x_30 x_28 x_29 M_17 _ _ _ (by omega) (by first | omega | decide) iM_17 (rT.trans (rs_of q_18) f_10) (fX.trans q_20 f_11) (fS.trans (fS_q frM_17 (by decide)) f_12) ((tT_fr q_18).trans f_13) hw (lv_sub hl [0, 1, 2, 3, 4, 5, 6] rfl)
        refine sb_if_ne (tgt := 62) hx hb rfl dX0_emptyMinutes_35 (by decide) (fun c_35_21 => ?_) (fun c_35_21 => ?_)
        · exact hj_62_29 x_7 x_8 _ _ _  hw (lv_sub hl [0, 1, 2, 3, 4, 5, 6] rfl)
        · refine lv_iload hx hb dX0_emptyMinutes_38 (lv_at hl 2 rfl) ?_
          have hj_57_26 : ∀ (x_26 : Int32) (H : Heap) (locs : List Loc) (ls : Array Slot), ti_H ti_LT D A cy H0 M_17 H locs → lv_has ls 7 [(6, .int x_5), (5, .int x_7), (4, .int x_8), (0, .ref (A 53 0)), (1, .ref (A 27 0)), (2, .int nn), (3, .int wh)] → W p l e (ti_rm 5) s m args below meth c H locs 0 0 Q (F0 m 57 ls [.int x_26]) := by
            intro x_26 H locs ls  hw hl
            refine lv_istore (lv' := [(5, .int x_26), (6, .int x_5), (4, .int x_8), (0, .ref (A 53 0)), (1, .ref (A 27 0)), (2, .int nn), (3, .int wh)]) hx hb dX0_emptyMinutes_57 hl (by decide) rfl (fun ls hl => ?_)
            obtain ⟨x_27, ex_27⟩ : ∃ z : Int32, z = x_8 + 1 := ⟨_, rfl⟩
            refine lv_iinc (v := x_27) (lv' := [(4, .int x_27), (5, .int x_26), (6, .int x_5), (0, .ref (A 53 0)), (1, .ref (A 27 0)), (2, .int nn), (3, .int wh)]) hx hb dX0_emptyMinutes_59 hl (k := 2) rfl (by rw [ex_27]; rfl) (by decide) rfl (fun ls hl => ?_)
            exact hj_62_29 x_26 x_27 _ _ _  hw (lv_sub hl [2, 1, 0, 3, 4, 5, 6] rfl)
          refine sb_if_ne (tgt := 55) hx hb rfl dX0_emptyMinutes_40 (by decide) (fun c_40_22 => ?_) (fun c_40_22 => ?_)
          · refine lv_iload hx hb dX0_emptyMinutes_55 (lv_at hl 1 rfl) ?_
            exact hj_57_26 x_7 _ _ _  hw (lv_sub hl [0, 1, 2, 3, 4, 5, 6] rfl)
          · refine lv_aload_n hx hb dX0_emptyMinutes_43 rfl (lv_at hl 3 rfl) ?_
            refine ti_get (ci := 0) (k := 0) (N := 6) (T := TX0) (v := .ref (A 54 0)) C hw iw_0 rfl ob_53 (by decide) (by decide) fl_X0_12 rfl rfl dX0_emptyMinutes_44 ?_
            refine ti_get (ci := 3) (k := 2) (N := 17) (T := TX3) C hw iw_3 rfl ob_54 (by decide) (by decide) fl_X0_45 rfl rfl dX0_emptyMinutes_47 ?_
            refine lv_topi (fun x_24 ex_24 => ?_)
            refine lv_iconst (v := 1) hx hb dX0_emptyMinutes_50 (by decide) ?_
            refine lv_isub hx hb dX0_emptyMinutes_51 ?_
            refine lv_topi (fun x_25 ex_25 => ?_)
            refine lv_goto (tgt := 57) hx hb dX0_emptyMinutes_52 (by decide) ?_
            exact hj_57_26 x_25 _ _ _  hw (lv_sub hl [0, 1, 2, 3, 4, 5, 6] rfl)
  exact hl_15_13 ((nn.toInt - 0 : Int).toNat + 1) 0 (-2) 0 M_2 _ _ _ (Nat.lt_succ_self _) (by have lt0 : ((-2) : Int32).toInt = (-2) := (by decide); have lt1 : (0 : Int32).toInt = 0 := (by decide); first | omega | decide) iM_2 (rs_TT q_3 (by decide)) q_4 frM_2 ((tT_fr q_3).trans (tT_u _ _ _ _)) hw (lv_sub hl [0, 1, 2, 3, 4, 5, 6] rfl)
set_option maxHeartbeats 4000000 in
set_option maxRecDepth 100000 in
theorem f_X0_timesServed (l : Launch) (D : va_G) (A : Nat → Nat → Nat) (cy : Nat → ClassId) (hJ : ti_inj ti_LT A) (M : ti_M) (hI : cI Tc M) (t : Nat) (ht : t = 3 ∨ t = 4) (hT : tT M 27 0 = some t) (sd mn nn : Int32) (h1 : 0 ≤ mn.toInt) (h2 : mn.toInt ≤ 7) : ti_Ki l yX0_timesServed cX0_timesServed 8 (some .int) 6 ti_LT D A cy M [.ref (A 53 0), .ref (A 27 0), .int sd, .int mn, .int nn] (fun r M2 => fS M2 M ∧ cI Tc M2 ∧ rT M2 M ∧ fX M2 M) := by
  refine ti_eI yp_X0_timesServed hJ ti_LT_nd (Nat.le_of_ble_eq_true rfl) ?_
  intro p e s m args below meth c Q H0 C hQ hw ls hl
  have hx := C.1
  have hb := C.2.1
  have hl : lv_has ls 8 [(0, .ref (A 53 0)), (1, .ref (A 27 0)), (2, .int sd), (3, .int mn), (4, .int nn)] := hl
  refine lv_iconst (v := 0) hx hb dX0_timesServed_0 (by decide) ?_
  refine lv_istore (lv' := [(5, .int 0), (0, .ref (A 53 0)), (1, .ref (A 27 0)), (2, .int sd), (3, .int mn), (4, .int nn)]) hx hb dX0_timesServed_1 hl (by decide) rfl (fun ls hl => ?_)
  refine lv_iload_n hx hb dX0_timesServed_3 rfl (lv_at hl 3 rfl) ?_
  refine lv_istore (lv' := [(6, .int sd), (5, .int 0), (0, .ref (A 53 0)), (1, .ref (A 27 0)), (2, .int sd), (3, .int mn), (4, .int nn)]) hx hb dX0_timesServed_4 hl (by decide) rfl (fun ls hl => ?_)
  refine lv_iconst (v := 0) hx hb dX0_timesServed_6 (by decide) ?_
  refine lv_istore (lv' := [(7, .int 0), (6, .int sd), (5, .int 0), (0, .ref (A 53 0)), (1, .ref (A 27 0)), (2, .int sd), (3, .int mn), (4, .int nn)]) hx hb dX0_timesServed_7 hl (by decide) rfl (fun ls hl => ?_)
  have hl_9_9 : ∀ (n_10 : Nat) (x_1 : Int32) (x_4 : Int32) (x_5 : Int32) (M_6 : ti_M) (H : Heap) (locs : List Loc) (ls : Array Slot), (10 - x_1.toInt : Int).toNat < n_10 → (0 ≤ x_1.toInt) → (x_1.toInt ≤ 10) → (cI Tc M_6) → (rT M_6 M) → (fX M_6 M) → (fS M_6 M) → ti_H ti_LT D A cy H0 M_6 H locs → lv_has ls 8 [(7, .int x_1), (6, .int x_4), (5, .int x_5), (0, .ref (A 53 0)), (1, .ref (A 27 0)), (2, .int sd), (3, .int mn), (4, .int nn)] → W p l e (ti_rm 6) s m args below meth c H locs 0 0 Q (F0 m 9 ls []) := by
    intro n_10
    induction n_10 with
    | zero => intro x_1 x_4 x_5 M_6 H locs ls hf_10; exact absurd hf_10 (Nat.not_lt_zero _)
    | succ n_10 ih_10 =>
      intro x_1 x_4 x_5 M_6 H locs ls hf_10 b_2 b_3 iM_6 f_7 f_8 f_9 hw hl
      refine lv_iload hx hb dX0_timesServed_9 (lv_at hl 0 rfl) ?_
      refine lv_bipush (v := 10) hx hb dX0_timesServed_11 (by decide) ?_
      refine sb_icmp_ge (tgt := 86) hx hb rfl (by decide : (10 : Int32).toInt = 10) dX0_timesServed_13 (by decide) (fun c_13_10 => ?_) (fun c_13_10 => ?_)
      · refine lv_iload hx hb dX0_timesServed_86 (lv_at hl 2 rfl) ?_
        exact hQ _ _ _ _ _ _ hw rfl (⟨f_9, iM_6, f_7, f_8⟩) dX0_timesServed_88
      · refine lv_aload_n hx hb dX0_timesServed_16 rfl (lv_at hl 3 rfl) ?_
        refine ti_get (ci := 0) (k := 0) (N := 6) (T := TX0) (v := .ref (A 54 0)) C hw iw_0 rfl ob_53 (by decide) (by decide) fl_X0_12 rfl rfl dX0_timesServed_17 ?_
        refine lv_aload_n hx hb dX0_timesServed_20 rfl (lv_at hl 4 rfl) ?_
        refine ti_callVv (ci := 3) (av := [.ref (A 27 0)]) C hw (f_X3_copy l D A cy hJ M_6 iM_6 54 27 t ob_54 ob_27 ht ((f_7 27 0 (by decide)).trans hT) (fun h => absurd h np_54)) ⟨ml_X0_35, ym_X3_copy, yv_X3_copy, yi_X3_copy, yc_X3_copy⟩ yd_X3_copy ob_54 (by decide) rfl rfl hl.1 (Nat.le_of_ble_eq_true rfl) ⟨by decide, by decide⟩ ⟨Nat.zero_le _, Nat.zero_le _⟩ dX0_timesServed_21 (fun M_13 H locs hp_13 hw => ?_)
        obtain ⟨frM_13, hqM_13⟩ := hp_13
        obtain ⟨iM_13, q_14, q_15⟩ := hqM_13
        refine lv_aload_n hx hb dX0_timesServed_24 rfl (lv_at hl 3 rfl) ?_
        refine ti_get (ci := 0) (k := 0) (N := 6) (T := TX0) (v := .ref (A 54 0)) C hw iw_0 rfl ob_53 (by decide) (by decide) fl_X0_12 rfl rfl dX0_timesServed_25 ?_
        refine lv_iconst (v := 1) hx hb dX0_timesServed_28 (by decide) ?_
        refine ti_putI (ci := 3) (k := 1) (N := 17) (T := TX3) C hw iw_3 tyX3 tyX3_ok nmX3 rfl ob_54 (by decide) (by decide) fl_X0_39 rfl rfl rfl rfl (fn_3 A _) fs_3_1 dX0_timesServed_29 (fun H locs hw => ?_)
        obtain ⟨M_16, hM_16⟩ : ∃ z : ti_M, z = uI M_13 54 1 1 := ⟨_, rfl⟩
        have hw := hw.to hM_16.symm
        have iM_16 : cI Tc M_16 := cI_uI iM_13 hM_16 ob_54.1 trivial
        refine lv_aload_n hx hb dX0_timesServed_32 rfl (lv_at hl 3 rfl) ?_
        refine ti_get (ci := 0) (k := 0) (N := 6) (T := TX0) (v := .ref (A 54 0)) C hw iw_0 rfl ob_53 (by decide) (by decide) fl_X0_12 rfl rfl dX0_timesServed_33 ?_
        refine lv_iload hx hb dX0_timesServed_36 (lv_at hl 1 rfl) ?_
        refine ti_putI (ci := 3) (k := 5) (N := 17) (T := TX3) C hw iw_3 tyX3 tyX3_ok nmX3 rfl ob_54 (by decide) (by decide) fl_X0_154 rfl rfl rfl rfl (fn_3 A _) fs_3_5 dX0_timesServed_38 (fun H locs hw => ?_)
        obtain ⟨M_17, hM_17⟩ : ∃ z : ti_M, z = uI M_16 54 5 x_4 := ⟨_, rfl⟩
        have hw := hw.to hM_17.symm
        have iM_17 : cI Tc M_17 := cI_uI iM_16 hM_17 ob_54.1 trivial
        refine lv_aload_n hx hb dX0_timesServed_41 rfl (lv_at hl 3 rfl) ?_
        refine ti_get (ci := 0) (k := 0) (N := 6) (T := TX0) (v := .ref (A 54 0)) C hw iw_0 rfl ob_53 (by decide) (by decide) fl_X0_12 rfl rfl dX0_timesServed_42 ?_
        refine lv_aload_n hx hb dX0_timesServed_45 rfl (lv_at hl 4 rfl) ?_
        refine ti_get (ci := 3) (k := 2) (N := 17) (T := TX3) C hw iw_3 rfl ob_27 (by decide) (by decide) fl_X0_45 rfl rfl dX0_timesServed_46 ?_
        refine lv_topi (fun x_18 ex_18 => ?_)
        have bx_18 : 0 ≤ x_18.toInt ∧ x_18.toInt ≤ 120 := cI_rd iM_17 ob_27.1 ex_18 (Or.inl rfl)
        have ux_18 : (tI M_17 27 2).toInt = x_18.toInt := by rw [ex_18]
        refine lv_iload hx hb dX0_timesServed_49 (lv_at hl 7 rfl) ?_
        refine lv_iadd hx hb dX0_timesServed_51 ?_
        refine lv_topi (fun x_19 ex_19 => ?_)
        refine ti_callVv (ci := 3) (av := [.int x_19]) C hw (f_X3_passTo l D A cy hJ M_17 iM_17 54 t ob_54 ht ((tT_uIE hM_17).trans ((tT_uIE hM_16).trans ((tT_fr q_14).trans (tT_u _ _ _ _)))) x_19 np_54) ⟨ml_X0_60, ym_X3_passTo, yv_X3_passTo, yi_X3_passTo, yc_X3_passTo⟩ yd_X3_passTo ob_54 (by decide) rfl rfl hl.1 (Nat.le_of_ble_eq_true rfl) ⟨by decide, by decide⟩ ⟨Nat.zero_le _, Nat.zero_le _⟩ dX0_timesServed_52 (fun M_21 H locs hp_21 hw => ?_)
        obtain ⟨frM_21, hqM_21⟩ := hp_21
        obtain ⟨iM_21, q_22, q_23⟩ := hqM_21
        refine lv_aload_n hx hb dX0_timesServed_55 rfl (lv_at hl 3 rfl) ?_
        refine ti_get (ci := 0) (k := 0) (N := 6) (T := TX0) (v := .ref (A 54 0)) C hw iw_0 rfl ob_53 (by decide) (by decide) fl_X0_12 rfl rfl dX0_timesServed_56 ?_
        refine ti_get (ci := 3) (k := 5) (N := 17) (T := TX3) C hw iw_3 rfl ob_54 (by decide) (by decide) fl_X0_154 rfl rfl dX0_timesServed_59 ?_
        refine lv_topi (fun x_24 ex_24 => ?_)
        refine lv_istore (lv' := [(6, .int x_24), (7, .int x_1), (5, .int x_5), (0, .ref (A 53 0)), (1, .ref (A 27 0)), (2, .int sd), (3, .int mn), (4, .int nn)]) hx hb dX0_timesServed_62 hl (by decide) rfl (fun ls hl => ?_)
        refine lv_aload_n hx hb dX0_timesServed_64 rfl (lv_at hl 3 rfl) ?_
        refine ti_get (ci := 0) (k := 0) (N := 6) (T := TX0) (v := .ref (A 54 0)) C hw iw_0 rfl ob_53 (by decide) (by decide) fl_X0_12 rfl rfl dX0_timesServed_65 ?_
        refine ti_get (ci := 3) (k := 8) (N := 17) (T := TX3) (v := .ref (A 54 9)) C hw iw_3 rfl ob_54 (by decide) (by decide) fl_X0_48 rfl rfl dX0_timesServed_68 ?_
        refine lv_iload_n hx hb dX0_timesServed_71 rfl (lv_at hl 6 rfl) ?_
        refine ti_iald (ci := 3) (k := 8) (n := 8) C hw ob_54 (by decide) (fun _ _ => rfl) (vp_in_iff.mpr (by omega)) dX0_timesServed_72 ?_
        refine lv_topi (fun x_25 ex_25 => ?_)
        refine lv_iconst (v := 2) hx hb dX0_timesServed_73 (by decide) ?_
        have hj_80_28 : ∀ (x_28 : Int32) (H : Heap) (locs : List Loc) (ls : Array Slot), ti_H ti_LT D A cy H0 M_21 H locs → lv_has ls 8 [(6, .int x_24), (7, .int x_1), (5, .int x_28), (0, .ref (A 53 0)), (1, .ref (A 27 0)), (2, .int sd), (3, .int mn), (4, .int nn)] → W p l e (ti_rm 6) s m args below meth c H locs 0 0 Q (F0 m 80 ls []) := by
          intro x_28 H locs ls  hw hl
          obtain ⟨x_29, ex_29⟩ : ∃ z : Int32, z = x_1 + 1 := ⟨_, rfl⟩
          have tx_29 : x_29.toInt = x_1.toInt + 1 := i_add ex_29 rfl (by decide) (by omega) (by omega)
          refine lv_iinc (v := x_29) (lv' := [(7, .int x_29), (6, .int x_24), (5, .int x_28), (0, .ref (A 53 0)), (1, .ref (A 27 0)), (2, .int sd), (3, .int mn), (4, .int nn)]) hx hb dX0_timesServed_80 hl (k := 1) rfl (by rw [ex_29]; rfl) (by decide) rfl (fun ls hl => ?_)
          refine lv_goto (tgt := 9) hx hb dX0_timesServed_83 (by decide) ?_
          exact ih_10 x_29 x_24 x_28 M_21 _ _ _ (by omega) (by first | omega | decide) (by first | omega | decide) iM_21 (rT.trans (rs_of q_22) (rT.trans (rs_of (rf_I hM_17)) (rT.trans (rs_of (rf_I hM_16)) (rT.trans (rs_TT q_14 (by decide)) f_7)))) (fX.trans q_23 (fX.trans (fx_I hM_17 (by decide)) (fX.trans (fx_I hM_16 (by decide)) (fX.trans q_15 f_8)))) (fS.trans (fS_q frM_21 (by decide)) (fS.trans (fS_I hM_17 (by decide)) (fS.trans (fS_I hM_16 (by decide)) (fS.trans (fS_q frM_13 (by decide)) f_9)))) hw (lv_sub hl [0, 1, 2, 3, 4, 5, 6, 7] rfl)
        refine sb_icmp_ne (tgt := 80) hx hb rfl (by decide : (2 : Int32).toInt = 2) dX0_timesServed_74 (by decide) (fun c_74_25 => ?_) (fun c_74_25 => ?_)
        · exact hj_80_28 x_5 _ _ _  hw (lv_sub hl [0, 1, 2, 3, 4, 5, 6, 7] rfl)
        · obtain ⟨x_27, ex_27⟩ : ∃ z : Int32, z = x_5 + 1 := ⟨_, rfl⟩
          refine lv_iinc (v := x_27) (lv' := [(5, .int x_27), (6, .int x_24), (7, .int x_1), (0, .ref (A 53 0)), (1, .ref (A 27 0)), (2, .int sd), (3, .int mn), (4, .int nn)]) hx hb dX0_timesServed_77 hl (k := 2) rfl (by rw [ex_27]; rfl) (by decide) rfl (fun ls hl => ?_)
          exact hj_80_28 x_27 _ _ _  hw (lv_sub hl [1, 2, 0, 3, 4, 5, 6, 7] rfl)
  exact hl_9_9 ((10 - 0 : Int).toNat + 1) 0 sd 0 M _ _ _ (Nat.lt_succ_self _) (by have lt0 : (0 : Int32).toInt = 0 := (by decide); first | omega | decide) (by have lt0 : (0 : Int32).toInt = 0 := (by decide); first | omega | decide) hI rT.refl fX.refl fS.refl hw (lv_sub hl [0, 1, 2, 3, 4, 5, 6, 7] rfl)
set_option maxHeartbeats 4000000 in
set_option maxRecDepth 100000 in
theorem f_X0_servedOtherwise (l : Launch) (D : va_G) (A : Nat → Nat → Nat) (cy : Nat → ClassId) (hJ : ti_inj ti_LT A) (M : ti_M) (hI : cI Tc M) (t : Nat) (ht : t = 3 ∨ t = 4) (hT : tT M 27 0 = some t) (wh mn nn : Int32) (h1 : 0 ≤ mn.toInt) (h2 : mn.toInt ≤ 7) : ti_Ki l yX0_servedOtherwise cX0_servedOtherwise 5 (some .int) 6 ti_LT D A cy M [.ref (A 53 0), .ref (A 27 0), .int wh, .int mn, .int nn] (fun r M2 => fS M2 M ∧ cI Tc M2 ∧ rT M2 M ∧ fX M2 M) := by
  refine ti_eI yp_X0_servedOtherwise hJ ti_LT_nd (Nat.le_of_ble_eq_true rfl) ?_
  intro p e s m args below meth c Q H0 C hQ hw ls hl
  have hx := C.1
  have hb := C.2.1
  have hl : lv_has ls 5 [(0, .ref (A 53 0)), (1, .ref (A 27 0)), (2, .int wh), (3, .int mn), (4, .int nn)] := hl
  refine lv_aload_n hx hb dX0_servedOtherwise_0 rfl (lv_at hl 0 rfl) ?_
  refine lv_aload_n hx hb dX0_servedOtherwise_1 rfl (lv_at hl 1 rfl) ?_
  refine ti_callVv (ci := 0) (av := [.ref (A 27 0)]) C hw (f_X0_prepare l D A cy hJ M hI t ht (hT)) ⟨ml_X0_42, ym_X0_prepare, yv_X0_prepare, yi_X0_prepare, yc_X0_prepare⟩ yd_X0_prepare ob_53 (by decide) rfl rfl hl.1 (Nat.le_of_ble_eq_true rfl) ⟨by decide, by decide⟩ ⟨Nat.zero_le _, Nat.zero_le _⟩ dX0_servedOtherwise_2 (fun M_2 H locs hp_2 hw => ?_)
  obtain ⟨frM_2, hqM_2⟩ := hp_2
  obtain ⟨iM_2, q_3, q_4⟩ := hqM_2
  refine lv_iload_n hx hb dX0_servedOtherwise_5 rfl (lv_at hl 2 rfl) ?_
  have hj_150_33 : ∀ (M_29 : ti_M) (H : Heap) (locs : List Loc) (ls : Array Slot), (cI Tc M_29) → (rT M_29 M) → (fX M_29 M) → (fS M_29 M) → (tT M_29 54 0 = (some t)) → ti_H ti_LT D A cy H0 M_29 H locs → lv_has ls 5 [(0, .ref (A 53 0)), (1, .ref (A 27 0)), (2, .int wh), (3, .int mn), (4, .int nn)] → W p l e (ti_rm 6) s m args below meth c H locs 0 0 Q (F0 m 150 ls []) := by
    intro M_29 H locs ls iM_29 f_30 f_31 f_32 f_33 hw hl
    refine lv_aload_n hx hb dX0_servedOtherwise_150 rfl (lv_at hl 0 rfl) ?_
    refine ti_get (ci := 0) (k := 0) (N := 6) (T := TX0) (v := .ref (A 54 0)) C hw iw_0 rfl ob_53 (by decide) (by decide) fl_X0_12 rfl rfl dX0_servedOtherwise_151 ?_
    refine lv_aload_n hx hb dX0_servedOtherwise_154 rfl (lv_at hl 1 rfl) ?_
    refine ti_get (ci := 3) (k := 2) (N := 17) (T := TX3) C hw iw_3 rfl ob_27 (by decide) (by decide) fl_X0_45 rfl rfl dX0_servedOtherwise_155 ?_
    refine lv_topi (fun x_34 ex_34 => ?_)
    have bx_34 : 0 ≤ x_34.toInt ∧ x_34.toInt ≤ 120 := cI_rd iM_29 ob_27.1 ex_34 (Or.inl rfl)
    have ux_34 : (tI M_29 27 2).toInt = x_34.toInt := by rw [ex_34]
    refine lv_iload hx hb dX0_servedOtherwise_158 (lv_at hl 4 rfl) ?_
    refine lv_iadd hx hb dX0_servedOtherwise_160 ?_
    refine lv_topi (fun x_35 ex_35 => ?_)
    refine ti_callVv (ci := 3) (av := [.int x_35]) C hw (f_X3_passTo l D A cy hJ M_29 iM_29 54 t ob_54 ht (f_33) x_35 np_54) ⟨ml_X0_60, ym_X3_passTo, yv_X3_passTo, yi_X3_passTo, yc_X3_passTo⟩ yd_X3_passTo ob_54 (by decide) rfl rfl hl.1 (Nat.le_of_ble_eq_true rfl) ⟨by decide, by decide⟩ ⟨Nat.zero_le _, Nat.zero_le _⟩ dX0_servedOtherwise_161 (fun M_37 H locs hp_37 hw => ?_)
    obtain ⟨frM_37, hqM_37⟩ := hp_37
    obtain ⟨iM_37, q_38, q_39⟩ := hqM_37
    refine lv_aload_n hx hb dX0_servedOtherwise_164 rfl (lv_at hl 0 rfl) ?_
    refine ti_get (ci := 0) (k := 0) (N := 6) (T := TX0) (v := .ref (A 54 0)) C hw iw_0 rfl ob_53 (by decide) (by decide) fl_X0_12 rfl rfl dX0_servedOtherwise_165 ?_
    refine lv_iconst (v := 2) hx hb dX0_servedOtherwise_168 (by decide) ?_
    refine ti_callVi (ci := 3) (av := [.int 2]) C hw (s_X3_howMany l D A cy hJ M_37 iM_37 54 t ob_54 ht ((tT_fr q_38).trans f_33) 2) ⟨ml_X0_157, ym_X3_howMany, yv_X3_howMany, yi_X3_howMany, yc_X3_howMany⟩ yd_X3_howMany ob_54 (by decide) rfl rfl hl.1 (Nat.le_of_ble_eq_true rfl) ⟨by decide, by decide⟩ ⟨Nat.zero_le _, Nat.zero_le _⟩ dX0_servedOtherwise_169 (fun r_40 M_41 H locs hp_41 hw => ?_)
    have hm := hp_41
    have hw := hw.to hm
    exact hQ _ _ _ _ _ _ hw rfl (⟨(fS.trans (fS_q frM_37 (by decide)) f_32), iM_37, (rT.trans (rs_of q_38) f_30), (fX.trans q_39 f_31)⟩) dX0_servedOtherwise_172
  by_cases s_5_0 : wh = 0
  · refine lv_tableIn (tgt := 40) (off := 34) hx hb dX0_servedOtherwise_6 (by rw [s_5_0]; decide) (by rw [s_5_0]; decide) (by rw [s_5_0]; decide) (by decide) ?_
    refine lv_aload_n hx hb dX0_servedOtherwise_40 rfl (lv_at hl 0 rfl) ?_
    refine ti_get (ci := 0) (k := 0) (N := 6) (T := TX0) (v := .ref (A 54 0)) C hw iw_0 rfl ob_53 (by decide) (by decide) fl_X0_12 rfl rfl dX0_servedOtherwise_41 ?_
    refine lv_dup hx hb dX0_servedOtherwise_44 rfl ?_
    refine ti_get (ci := 3) (k := 1) (N := 17) (T := TX3) C hw iw_3 rfl ob_54 (by decide) (by decide) fl_X0_39 rfl rfl dX0_servedOtherwise_45 ?_
    refine lv_topi (fun x_6 ex_6 => ?_)
    refine lv_iconst (v := 4) hx hb dX0_servedOtherwise_48 (by decide) ?_
    refine lv_ior hx hb dX0_servedOtherwise_49 ?_
    refine lv_topi (fun x_7 ex_7 => ?_)
    refine ti_putI (ci := 3) (k := 1) (N := 17) (T := TX3) C hw iw_3 tyX3 tyX3_ok nmX3 rfl ob_54 (by decide) (by decide) fl_X0_39 rfl rfl rfl rfl (fn_3 A _) fs_3_1 dX0_servedOtherwise_50 (fun H locs hw => ?_)
    obtain ⟨M_8, hM_8⟩ : ∃ z : ti_M, z = uI M_2 54 1 x_7 := ⟨_, rfl⟩
    have hw := hw.to hM_8.symm
    have iM_8 : cI Tc M_8 := cI_uI iM_2 hM_8 ob_54.1 trivial
    refine lv_goto (tgt := 150) hx hb dX0_servedOtherwise_53 (by decide) ?_
    exact hj_150_33 M_8 _ _ _ iM_8 (rT.trans (rs_of (rf_I hM_8)) (rs_TT q_3 (by decide))) (fX.trans (fx_I hM_8 (by decide)) q_4) (fS.trans (fS_I hM_8 (by decide)) frM_2) ((tT_uIE hM_8).trans ((tT_fr q_3).trans (tT_u _ _ _ _))) hw (lv_sub hl [0, 1, 2, 3, 4] rfl)
  · by_cases s_5_1 : wh = 1
    · refine lv_tableIn (tgt := 56) (off := 50) hx hb dX0_servedOtherwise_6 (by rw [s_5_1]; decide) (by rw [s_5_1]; decide) (by rw [s_5_1]; decide) (by decide) ?_
      refine lv_aload_n hx hb dX0_servedOtherwise_56 rfl (lv_at hl 0 rfl) ?_
      refine ti_get (ci := 0) (k := 0) (N := 6) (T := TX0) (v := .ref (A 54 0)) C hw iw_0 rfl ob_53 (by decide) (by decide) fl_X0_12 rfl rfl dX0_servedOtherwise_57 ?_
      refine lv_dup hx hb dX0_servedOtherwise_60 rfl ?_
      refine ti_get (ci := 3) (k := 1) (N := 17) (T := TX3) C hw iw_3 rfl ob_54 (by decide) (by decide) fl_X0_39 rfl rfl dX0_servedOtherwise_61 ?_
      refine lv_topi (fun x_9 ex_9 => ?_)
      refine lv_bipush (v := 8) hx hb dX0_servedOtherwise_64 (by decide) ?_
      refine lv_ior hx hb dX0_servedOtherwise_66 ?_
      refine lv_topi (fun x_10 ex_10 => ?_)
      refine ti_putI (ci := 3) (k := 1) (N := 17) (T := TX3) C hw iw_3 tyX3 tyX3_ok nmX3 rfl ob_54 (by decide) (by decide) fl_X0_39 rfl rfl rfl rfl (fn_3 A _) fs_3_1 dX0_servedOtherwise_67 (fun H locs hw => ?_)
      obtain ⟨M_11, hM_11⟩ : ∃ z : ti_M, z = uI M_2 54 1 x_10 := ⟨_, rfl⟩
      have hw := hw.to hM_11.symm
      have iM_11 : cI Tc M_11 := cI_uI iM_2 hM_11 ob_54.1 trivial
      refine lv_goto (tgt := 150) hx hb dX0_servedOtherwise_70 (by decide) ?_
      exact hj_150_33 M_11 _ _ _ iM_11 (rT.trans (rs_of (rf_I hM_11)) (rs_TT q_3 (by decide))) (fX.trans (fx_I hM_11 (by decide)) q_4) (fS.trans (fS_I hM_11 (by decide)) frM_2) ((tT_uIE hM_11).trans ((tT_fr q_3).trans (tT_u _ _ _ _))) hw (lv_sub hl [0, 1, 2, 3, 4] rfl)
    · by_cases s_5_2 : wh = 2
      · refine lv_tableIn (tgt := 73) (off := 67) hx hb dX0_servedOtherwise_6 (by rw [s_5_2]; decide) (by rw [s_5_2]; decide) (by rw [s_5_2]; decide) (by decide) ?_
        refine lv_aload_n hx hb dX0_servedOtherwise_73 rfl (lv_at hl 0 rfl) ?_
        refine ti_get (ci := 0) (k := 0) (N := 6) (T := TX0) (v := .ref (A 54 0)) C hw iw_0 rfl ob_53 (by decide) (by decide) fl_X0_12 rfl rfl dX0_servedOtherwise_74 ?_
        refine lv_aload_n hx hb dX0_servedOtherwise_77 rfl (lv_at hl 0 rfl) ?_
        refine ti_get (ci := 0) (k := 0) (N := 6) (T := TX0) (v := .ref (A 54 0)) C hw iw_0 rfl ob_53 (by decide) (by decide) fl_X0_12 rfl rfl dX0_servedOtherwise_78 ?_
        refine lv_iload_n hx hb dX0_servedOtherwise_81 rfl (lv_at hl 3 rfl) ?_
        refine ti_callVi (ci := 3) (av := [.int mn]) C hw (s_X3_placeOf l D A cy hJ M_2 iM_2 54 ob_54 mn) ⟨ml_X0_130, ym_X3_placeOf, yv_X3_placeOf, yi_X3_placeOf, yc_X3_placeOf⟩ yd_X3_placeOf ob_54 (by decide) rfl rfl hl.1 (Nat.le_of_ble_eq_true rfl) ⟨by decide, by decide⟩ ⟨Nat.zero_le _, Nat.zero_le _⟩ dX0_servedOtherwise_82 (fun r_12 M_13 H locs hp_13 hw => ?_)
        obtain ⟨hm, b0r_12, b1r_12⟩ := hp_13
        have hw := hw.to hm
        refine lv_iconst (v := 3) hx hb dX0_servedOtherwise_85 (by decide) ?_
        refine ti_callVv (ci := 3) (av := [.int r_12, .int 3]) C hw (f_X3_remove l D A cy hJ M_2 iM_2 54 ob_54 r_12 3) ⟨ml_X0_144, ym_X3_remove, yv_X3_remove, yi_X3_remove, yc_X3_remove⟩ yd_X3_remove ob_54 (by decide) rfl rfl hl.1 (Nat.le_of_ble_eq_true rfl) ⟨by decide, by decide⟩ ⟨Nat.zero_le _, Nat.zero_le _⟩ dX0_servedOtherwise_86 (fun M_15 H locs hp_15 hw => ?_)
        obtain ⟨frM_15, hqM_15⟩ := hp_15
        obtain ⟨iM_15, q_16, q_17, q_18⟩ := hqM_15
        refine lv_aload_n hx hb dX0_servedOtherwise_89 rfl (lv_at hl 0 rfl) ?_
        refine ti_get (ci := 0) (k := 0) (N := 6) (T := TX0) (v := .ref (A 54 0)) C hw iw_0 rfl ob_53 (by decide) (by decide) fl_X0_12 rfl rfl dX0_servedOtherwise_90 ?_
        refine ti_get (ci := 3) (k := 8) (N := 17) (T := TX3) (v := .ref (A 54 9)) C hw iw_3 rfl ob_54 (by decide) (by decide) fl_X0_48 rfl rfl dX0_servedOtherwise_93 ?_
        refine lv_iload_n hx hb dX0_servedOtherwise_96 rfl (lv_at hl 3 rfl) ?_
        refine lv_iconst (v := 3) hx hb dX0_servedOtherwise_97 (by decide) ?_
        refine ti_iast (ci := 3) (k := 8) (n := 8) C hw ob_54 (by decide) (fun _ _ => rfl) (vp_in_iff.mpr (by omega)) dX0_servedOtherwise_98 (fun H locs hw => ?_)
        obtain ⟨M_19, hM_19⟩ : ∃ z : ti_M, z = uY M_15 54 8 (upd (tY M_15 54 8) (mn : Int32).toNatClampNeg 3) := ⟨_, rfl⟩
        have hw := hw.to hM_19.symm
        have iM_19 : cI Tc M_19 := cI_up iM_15 hM_19 ob_54.1 trivial
        refine lv_goto (tgt := 150) hx hb dX0_servedOtherwise_99 (by decide) ?_
        exact hj_150_33 M_19 _ _ _ iM_19 (rT.trans (rs_of (rf_Y hM_19)) (rT.trans (rs_of q_16) (rs_TT q_3 (by decide)))) (fX.trans (fx_of (ra_Y hM_19)) (fX.trans q_18 q_4)) (fS.trans (fS_Y hM_19 (by decide)) (fS.trans (fS_q frM_15 (by decide)) frM_2)) ((tT_uYE hM_19).trans ((tT_fr q_16).trans ((tT_fr q_3).trans (tT_u _ _ _ _)))) hw (lv_sub hl [0, 1, 2, 3, 4] rfl)
      · by_cases s_5_3 : wh = 3
        · refine lv_tableIn (tgt := 102) (off := 96) hx hb dX0_servedOtherwise_6 (by rw [s_5_3]; decide) (by rw [s_5_3]; decide) (by rw [s_5_3]; decide) (by decide) ?_
          refine lv_aload_n hx hb dX0_servedOtherwise_102 rfl (lv_at hl 0 rfl) ?_
          refine ti_get (ci := 0) (k := 0) (N := 6) (T := TX0) (v := .ref (A 54 0)) C hw iw_0 rfl ob_53 (by decide) (by decide) fl_X0_12 rfl rfl dX0_servedOtherwise_103 ?_
          refine lv_dup hx hb dX0_servedOtherwise_106 rfl ?_
          refine ti_get (ci := 3) (k := 1) (N := 17) (T := TX3) C hw iw_3 rfl ob_54 (by decide) (by decide) fl_X0_39 rfl rfl dX0_servedOtherwise_107 ?_
          refine lv_topi (fun x_20 ex_20 => ?_)
          refine lv_bipush (v := 32) hx hb dX0_servedOtherwise_110 (by decide) ?_
          refine lv_ior hx hb dX0_servedOtherwise_112 ?_
          refine lv_topi (fun x_21 ex_21 => ?_)
          refine ti_putI (ci := 3) (k := 1) (N := 17) (T := TX3) C hw iw_3 tyX3 tyX3_ok nmX3 rfl ob_54 (by decide) (by decide) fl_X0_39 rfl rfl rfl rfl (fn_3 A _) fs_3_1 dX0_servedOtherwise_113 (fun H locs hw => ?_)
          obtain ⟨M_22, hM_22⟩ : ∃ z : ti_M, z = uI M_2 54 1 x_21 := ⟨_, rfl⟩
          have hw := hw.to hM_22.symm
          have iM_22 : cI Tc M_22 := cI_uI iM_2 hM_22 ob_54.1 trivial
          refine lv_goto (tgt := 150) hx hb dX0_servedOtherwise_116 (by decide) ?_
          exact hj_150_33 M_22 _ _ _ iM_22 (rT.trans (rs_of (rf_I hM_22)) (rs_TT q_3 (by decide))) (fX.trans (fx_I hM_22 (by decide)) q_4) (fS.trans (fS_I hM_22 (by decide)) frM_2) ((tT_uIE hM_22).trans ((tT_fr q_3).trans (tT_u _ _ _ _))) hw (lv_sub hl [0, 1, 2, 3, 4] rfl)
        · by_cases s_5_4 : wh = 4
          · refine lv_tableIn (tgt := 119) (off := 113) hx hb dX0_servedOtherwise_6 (by rw [s_5_4]; decide) (by rw [s_5_4]; decide) (by rw [s_5_4]; decide) (by decide) ?_
            refine lv_aload_n hx hb dX0_servedOtherwise_119 rfl (lv_at hl 0 rfl) ?_
            refine ti_get (ci := 0) (k := 0) (N := 6) (T := TX0) (v := .ref (A 54 0)) C hw iw_0 rfl ob_53 (by decide) (by decide) fl_X0_12 rfl rfl dX0_servedOtherwise_120 ?_
            refine lv_dup hx hb dX0_servedOtherwise_123 rfl ?_
            refine ti_get (ci := 3) (k := 1) (N := 17) (T := TX3) C hw iw_3 rfl ob_54 (by decide) (by decide) fl_X0_39 rfl rfl dX0_servedOtherwise_124 ?_
            refine lv_topi (fun x_23 ex_23 => ?_)
            refine lv_bipush (v := 16) hx hb dX0_servedOtherwise_127 (by decide) ?_
            refine lv_ior hx hb dX0_servedOtherwise_129 ?_
            refine lv_topi (fun x_24 ex_24 => ?_)
            refine ti_putI (ci := 3) (k := 1) (N := 17) (T := TX3) C hw iw_3 tyX3 tyX3_ok nmX3 rfl ob_54 (by decide) (by decide) fl_X0_39 rfl rfl rfl rfl (fn_3 A _) fs_3_1 dX0_servedOtherwise_130 (fun H locs hw => ?_)
            obtain ⟨M_25, hM_25⟩ : ∃ z : ti_M, z = uI M_2 54 1 x_24 := ⟨_, rfl⟩
            have hw := hw.to hM_25.symm
            have iM_25 : cI Tc M_25 := cI_uI iM_2 hM_25 ob_54.1 trivial
            refine lv_goto (tgt := 150) hx hb dX0_servedOtherwise_133 (by decide) ?_
            exact hj_150_33 M_25 _ _ _ iM_25 (rT.trans (rs_of (rf_I hM_25)) (rs_TT q_3 (by decide))) (fX.trans (fx_I hM_25 (by decide)) q_4) (fS.trans (fS_I hM_25 (by decide)) frM_2) ((tT_uIE hM_25).trans ((tT_fr q_3).trans (tT_u _ _ _ _))) hw (lv_sub hl [0, 1, 2, 3, 4] rfl)
          · refine lv_tableOut (tgt := 136) hx hb dX0_servedOtherwise_6 (ti_out (lo := 0) (hi := 4) wh (fun v h1 h2 => by rcases (show v = 0 ∨ v = 1 ∨ v = 2 ∨ v = 3 ∨ v = 4 by omega) with rfl | rfl | rfl | rfl | rfl <;> first | exact ti_nev 0 s_5_0 (by decide) | exact ti_nev 1 s_5_1 (by decide) | exact ti_nev 2 s_5_2 (by decide) | exact ti_nev 3 s_5_3 (by decide) | exact ti_nev 4 s_5_4 (by decide))) (by decide) ?_
            refine lv_aload_n hx hb dX0_servedOtherwise_136 rfl (lv_at hl 0 rfl) ?_
            refine ti_get (ci := 0) (k := 0) (N := 6) (T := TX0) (v := .ref (A 54 0)) C hw iw_0 rfl ob_53 (by decide) (by decide) fl_X0_12 rfl rfl dX0_servedOtherwise_137 ?_
            refine ti_get (ci := 3) (k := 9) (N := 17) (T := TX3) (v := .ref (A 54 10)) C hw iw_3 rfl ob_54 (by decide) (by decide) fl_X0_57 rfl rfl dX0_servedOtherwise_140 ?_
            refine lv_aload_n hx hb dX0_servedOtherwise_143 rfl (lv_at hl 1 rfl) ?_
            refine ti_get (ci := 3) (k := 2) (N := 17) (T := TX3) C hw iw_3 rfl ob_27 (by decide) (by decide) fl_X0_45 rfl rfl dX0_servedOtherwise_144 ?_
            refine lv_topi (fun x_26 ex_26 => ?_)
            have bx_26 : 0 ≤ x_26.toInt ∧ x_26.toInt ≤ 120 := cI_rd iM_2 ob_27.1 ex_26 (Or.inl rfl)
            have ux_26 : (tI M_2 27 2).toInt = x_26.toInt := by rw [ex_26]
            refine ti_callSv (av := [.ref (A 54 10), .int x_26]) C hw (k_fill l D A cy ti_LT_nd hJ M_2 54 9 3 8 x_26 ob_54 (by decide) (fun _ _ => rfl) (by decide)) ⟨ml_X0_148, ys_J7_fill_53178, yi_J7_fill_53178, yc_J7_fill_53178⟩ yd_J7_fill_53178 rfl hl.1 (Nat.le_of_ble_eq_true rfl) ⟨by decide, by decide⟩ ⟨Nat.zero_le _, Nat.zero_le _⟩ dX0_servedOtherwise_147 (fun M_27 H locs hp hw => ?_)
            obtain ⟨g_28, hM_27, -⟩ := hp
            have iM_27 : cI Tc M_27 := cI_uY iM_2 hM_27 ob_54.1 (fun _ => trivial)
            exact hj_150_33 M_27 _ _ _ iM_27 (rT.trans (rs_of (rf_Y hM_27)) (rs_TT q_3 (by decide))) (fX.trans (fx_of (ra_Y hM_27)) q_4) (fS.trans (fS_Y hM_27 (by decide)) frM_2) ((tT_uYE hM_27).trans ((tT_fr q_3).trans (tT_u _ _ _ _))) hw (lv_sub hl [0, 1, 2, 3, 4] rfl)
